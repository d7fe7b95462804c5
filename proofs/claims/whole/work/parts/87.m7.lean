/-! .. searched over years and bodies -/
theorem mK_B {σ τ : zS} {k : Nat} {U : zSU} (h : mK σ τ k) (hB : zRb (gI σ 328) U) : zRb (gI τ 328) U := by rw [mS_g h.1 328 (by decide) (by decide)]; exact hB
theorem mK_R {σ τ : zS} {k n : Nat} {S : zST} (h : mK σ τ k) (hW : zRo (gI σ 332) n S) : zRo (gI τ 332) n S := by rw [mS_g h.1 332 (by decide) (by decide)]; exact hW
theorem dWy_m (U : zSU) (S : zST) (i : Nat) (a : Int) : ∀ j : Nat, (dWy U S i a (j + 1)).2 = ((qErr U S i (dWy U S i a (j + 1)).1).natAbs : Int) ∧ a ≤ (dWy U S i a (j + 1)).1 ∧ (dWy U S i a (j + 1)).1 ≤ a + j := by
  intro j
  induction j with
  | zero =>
    have e : dWy U S i a 1 = (a + (0 : Nat), ((qErr U S i (a + (0 : Nat))).natAbs : Int)) := by
      show (if (-1 : Int) < _ then _ else _) = _
      rw [if_pos (by omega)]
    rw [e]
    exact ⟨rfl, by show a ≤ a + 0; omega, by show a + 0 ≤ a + 0; omega⟩
  | succ j ih =>
    rw [dWy]
    split
    · exact ⟨rfl, by show a ≤ a + _; omega, Int.le_refl _⟩
    · exact ⟨ih.1, ih.2.1, by omega⟩
theorem dWy_1 (U : zSU) (S : zST) (i : Nat) (a : Int) : a = (dWy U S i a (0 + 1)).1 := Int.le_antisymm (dWy_m U S i a 0).2.1 (Int.le_trans (dWy_m U S i a 0).2.2 (Int.le_of_eq (Int.add_zero a)))
theorem dWy_f (U : zSU) (S : zST) (i : Nat) (a : Int) (j : Nat) : (dWy U S i a (j + 1 + 1)).1 = if ((qErr U S i (dWy U S i a (j + 1)).1).natAbs : Int) < ((qErr U S i (a + (j : Int) + 1)).natAbs : Int) then a + (j : Int) + 1 else (dWy U S i a (j + 1)).1 := by
  have h := (dWy_m U S i a j).1
  have e : a + ((j + 1 : Nat) : Int) = a + (j : Int) + 1 := by omega
  have g : dWy U S i a (j + 1 + 1) = if (dWy U S i a (j + 1)).2 < ((qErr U S i (a + ((j + 1 : Nat) : Int))).natAbs : Int) then (a + ((j + 1 : Nat) : Int), ((qErr U S i (a + ((j + 1 : Nat) : Int))).natAbs : Int)) else dWy U S i a (j + 1) := rfl
  rw [g, h, e]
  by_cases q : ((qErr U S i (dWy U S i a (j + 1)).1).natAbs : Int) < ((qErr U S i (a + (j : Int) + 1)).natAbs : Int)
  · rw [if_pos q, if_pos q]
  · rw [if_neg q, if_neg q]
set_option maxRecDepth 20000 in
theorem c_X11_firstBeyond {l : Launch} (hfl : l.stackTraces = false) (E : zE) (σ : zS) (σc : zS) (U : zSU) (S : zST) (i : Nat) (lim : Int) (hB : zRb (gI σ 328) U) (hU : zSUp σc 29 U) (hW : zRo (gI σ 332) U.nb S) (hS : zSTp σc 34 S) (hi : i < U.nb) (hl : 0 ≤ lim ∧ lim ≤ 1000000000) : zRi l E yX11_firstBeyond cX11_firstBeyond 4 .int (zrm 8 201) [.ref (ob E 327), .int (zI (i : Int)), .int (zI lim)] σ (fun r τ => r = zI (dFbR U S i lim) ∧ mK σ τ 0) := by
  refine Met.ofW (cc := cX11_firstBeyond) (maxL := 4) (ret := (some .int)) (by decide +kernel) rfl ?_
  intro p e s m args below meth c s₁ B hml hv
  obtain ⟨rfl, hd⟩ := hv
  have C := zX_of (own := RX11) hfl B hml rfl hd rfl
  have hr := B.returns
  refine zV_go hd (Nat.le_of_ble_eq_true rfl) (lv := [(0, .ref (ob E 327)), (1, .int (zI (i : Int))), (2, .int (zI lim))]) rfl ?_
  have hnb : U.nb ≤ 8 := hU.2.2.1
  have hs0 := hU.2.2.2.1
  
  refine zv_aload_n C 0 dX11_firstBeyond_0 rfl rfl ?_
  refine zv_iload_n C 1 dX11_firstBeyond_1 rfl rfl ?_
  refine zv_cviD (st := []) C (c0_X11_noBody hfl E σ σc U ((i : Int)) hB hU (by omega)) mX11_noBody kX11_319 (by decide : kd 327 = 10) rfl rfl rfl ⟨rfl, rfl⟩ (show zfit (zrm 1 25) 2 (zrm 8 201) = true from rfl) (Nat.le_of_ble_eq_true rfl) dX11_firstBeyond_2 ⟨Nat.zero_le _, Nat.zero_le _⟩ ?_
  refine zv_if_neZ (tgt := 33) C (by omega) dX11_firstBeyond_5 (by decide) (fun h5 => absurd h5 (by decide)) (fun h5 => ?_)
  refine zv_aload_n C 0 dX11_firstBeyond_8 rfl rfl ?_
  refine zv_iload_n C 2 dX11_firstBeyond_9 rfl rfl ?_
  refine zv_i2lZ C (by omega) dX11_firstBeyond_10 ?_
  refine zv_lconst (v := zL 0) C dX11_firstBeyond_11 (by decide) ?_
  refine zv_ldc2 C kX11_353 dX11_firstBeyond_12 ?_
  refine zv_eql (y := zL 1000000000) (by decide) ?_
  refine zv_csiD (st := [.ref (ob E 327)]) C (c_X11_inRange hfl E (thW σ 0) (lim) (0) (1000000000) (by omega) (by omega) (by omega)) mX11_inRange kX11_71 rfl ⟨rfl, rfl⟩ (show zfit (zrm 0 0) 6 (zrm 8 201) = true from rfl) (Nat.le_of_ble_eq_true rfl) dX11_firstBeyond_15 ⟨Nat.zero_le _, Nat.zero_le _⟩ ?_
  refine zv_if_neB (tgt := 25) C dX11_firstBeyond_18 (by decide) (fun h18 => ?_) (fun h18 => ?_)
  · skip
    refine zv_iconst (v := zI 0) C dX11_firstBeyond_25 rfl ?_
    refine zv_iconst (v := zI 2) C dX11_firstBeyond_26 rfl ?_
    refine zv_cviD (st := []) C (c0_X11_fails hfl E (thW σ 0) 2) mX11_fails kX11_309 (by decide : kd 327 = 10) rfl rfl rfl ⟨rfl, rfl⟩ (show zfit (zrm 0 0) 3 (zrm 8 201) = true from rfl) (Nat.le_of_ble_eq_true rfl) dX11_firstBeyond_27 ⟨Nat.zero_le _, Nat.zero_le _⟩ ?_
    refine zv_if_eqZ (tgt := 35) C (by omega) dX11_firstBeyond_30 (by decide) (fun h30 => ?_) (fun h30 => absurd h30 (by decide))
    refine zv_aload_n C 0 dX11_firstBeyond_35 rfl rfl ?_
    refine zG10_0 C (by decide : kd 327 = _) kX11_7 dX11_firstBeyond_36 ?_
    refine zv_iconst (v := zI 1) C dX11_firstBeyond_39 rfl ?_
    refine zv_iald (j := 1) C (by decide : kd 328 = _) (zI_ix (by omega)) (by decide) dX11_firstBeyond_40 ?_
    refine zv_eqi (y := (zI U.s0)) (hB.2.1) ?_
    refine zv_istore_n (lv' := [(3, .int (zI U.s0)), (0, .ref (ob E 327)), (1, .int (zI (i : Int))), (2, .int (zI lim))]) C dX11_firstBeyond_41 rfl (by decide) rfl ?_
    have q42_26 : (U.s0 : Int) = U.s0 + (0 : Int) := by show U.s0 = U.s0 + 0; omega
    refine zv_sub (lv' := [(0, .ref (ob E 327)), (1, .int (zI (i : Int))), (2, .int (zI lim)), (3, .int (zI (U.s0 + (0 : Int))))]) [1, 2, 3, 0] (zcons rfl (zcons rfl (zcons rfl (zcons (zqI q42_26) rfl)))) ?_
    refine zv_eqS (τ := (thW σ 0)) (rfl) ?_
    refine zv_while (α := Nat × zS) (fun v => 1000 - v.1) (fun v => v.1 ≤ 1000 ∧ fi (dFb U S i lim) v.1 = -1 ∧ mK σ v.2 0) (fun v => v.2) (fun v => [(0, .ref (ob E 327)), (1, .int (zI (i : Int))), (2, .int (zI lim)), (3, .int (zI (U.s0 + (v.1 : Int))))]) (fun v => []) (fun v hI ih => ?_) ((0, (thW σ 0))) (⟨by show 0 ≤ 1000; omega, rfl, mK_th _ _⟩)
    obtain ⟨j, u⟩ := v
    dsimp only at hI ih ⊢
    obtain ⟨hI, hI2, hK⟩ := hI
    refine zv_iload_n C 3 dX11_firstBeyond_42 rfl rfl ?_
    refine zv_aload_n C 0 dX11_firstBeyond_43 rfl rfl ?_
    refine zG10_0 C (by decide : kd 327 = _) kX11_7 dX11_firstBeyond_44 ?_
    refine zv_iconst (v := zI 1) C dX11_firstBeyond_47 rfl ?_
    refine zv_iald (j := 1) C (by decide : kd 328 = _) (zI_ix (by omega)) (by decide) dX11_firstBeyond_48 ?_
    refine zv_eqi (y := (zI U.s0)) ((mK_B hK hB).2.1) ?_
    refine zv_sipush (v := zI 1000) C dX11_firstBeyond_49 (by decide) ?_
    refine zv_iaddZ C dX11_firstBeyond_52 ?_
    refine zv_icmp_geZ (tgt := 76) C (by omega) (by omega) dX11_firstBeyond_53 (by decide) (fun h53 => ?_) (fun h53 => ?_)
    · skip
      refine zv_iconst (v := zI (-1)) C dX11_firstBeyond_76 rfl ?_
      exact zv_iret C hr rfl dX11_firstBeyond_77 ⟨by rw [dFbR, show (1000 : Nat) = j by omega, hI2]; rfl, hK⟩
    · skip
      have hqb := qErr_b hU hS hi (y := U.s0 + (j : Int)) (by omega)
      refine zv_aload_n C 0 dX11_firstBeyond_56 rfl rfl ?_
      refine zv_iload_n C 1 dX11_firstBeyond_57 rfl rfl ?_
      refine zv_iload_n C 3 dX11_firstBeyond_58 rfl rfl ?_
      refine zv_cvlD (st := []) C (c_X11_offAt hfl E u σc U S i (U.s0 + (j : Int)) (mK_B hK hB) hU (mK_R hK hW) hS hi (by omega)) mX11_offAt kX11_344 (by decide : kd 327 = 10) rfl rfl rfl ⟨rfl, rfl⟩ (show zfit (zrm 7 179) 3 (zrm 8 201) = true from rfl) (Nat.le_of_ble_eq_true rfl) dX11_firstBeyond_59 ⟨Nat.zero_le _, Nat.zero_le _⟩ ?_
      refine zv_iload_n C 2 dX11_firstBeyond_62 rfl rfl ?_
      refine zv_i2lZ C (by omega) dX11_firstBeyond_63 ?_
      refine zv_lc_leZ (tgt := 70) C (by omega) (by omega) dX11_firstBeyond_64 dX11_firstBeyond_65 (by decide) (fun h64 => ?_) (fun h64 => ?_)
      · skip
        refine zv_iinc (v := (zI (U.s0 + (j : Int) + 1))) (lv' := [(3, .int (zI (U.s0 + (j : Int) + 1))), (0, .ref (ob E 327)), (1, .int (zI (i : Int))), (2, .int (zI lim))]) C 3 dX11_firstBeyond_70 rfl (zI_add _ _) (by decide) rfl ?_
        refine zv_goto (tgt := 42) C dX11_firstBeyond_73 (by decide) ?_
        have q42_57 : (U.s0 + (j : Int) + 1 : Int) = U.s0 + ((j + 1 : Nat) : Int) := by omega
        refine zv_sub (lv' := [(0, .ref (ob E 327)), (1, .int (zI (i : Int))), (2, .int (zI lim)), (3, .int (zI (U.s0 + ((j + 1 : Nat) : Int))))]) [1, 2, 3, 0] (zcons rfl (zcons rfl (zcons rfl (zcons (zqI q42_57) rfl)))) ?_
        refine zv_eqS (τ := (mE u U S i (yF U (U.s0 + (j : Int))))) (rfl) ?_
        exact ih ((j + 1, (mE u U S i (yF U (U.s0 + (j : Int)))))) (⟨by show j + 1 ≤ 1000; omega, fi_s hI2 (by simp only [dFb, decide_eq_true_eq]; omega), mK_E hK _ _ _ _⟩) (by show 1000 - (j + 1) < 1000 - j; omega)
      · skip
        refine zv_iload_n C 3 dX11_firstBeyond_68 rfl rfl ?_
        exact zv_iret C hr rfl dX11_firstBeyond_69 ⟨by rw [dFbR, fi_of hI2 (by simp only [dFb, decide_eq_true_eq]; omega) 1000 (by omega), if_neg (by omega)], mK_E hK _ _ _ _⟩
  · skip
    refine zv_iconst (v := zI 1) C dX11_firstBeyond_21 rfl ?_
    refine zv_goto (tgt := 26) C dX11_firstBeyond_22 (by decide) ?_
    refine zv_iconst (v := zI 2) C dX11_firstBeyond_26 rfl ?_
    exfalso
    omega
set_option maxRecDepth 20000 in
theorem x1_X11_firstBeyond {l : Launch} (hfl : l.stackTraces = false) (E : zE) (σ : zS) (σc : zS) (U : zSU) (y z : Int) (hB : zRb (gI σ 328) U) (hU : zSUp σc 29 U) (hy : -2147483648 ≤ y ∧ y < 2147483648) (hno : ¬ (0 ≤ y ∧ y < U.nb)) : zRi l E yX11_firstBeyond cX11_firstBeyond 4 .int (zrm 2 46) [.ref (ob E 327), .int (zI y), .int (zI z)] σ (fun r τ => r = zI 0 ∧ mK σ τ 1) := by
  refine Met.ofW (cc := cX11_firstBeyond) (maxL := 4) (ret := (some .int)) (by decide +kernel) rfl ?_
  intro p e s m args below meth c s₁ B hml hv
  obtain ⟨rfl, hd⟩ := hv
  have C := zX_of (own := RX11) hfl B hml rfl hd rfl
  have hr := B.returns
  refine zV_go hd (Nat.le_of_ble_eq_true rfl) (lv := [(0, .ref (ob E 327)), (1, .int (zI y)), (2, .int (zI z))]) rfl ?_
  have hnb : U.nb ≤ 8 := hU.2.2.1
  have hs0 := hU.2.2.2.1
  
  refine zv_aload_n C 0 dX11_firstBeyond_0 rfl rfl ?_
  refine zv_iload_n C 1 dX11_firstBeyond_1 rfl rfl ?_
  refine zv_cviD (st := []) C (c1_X11_noBody hfl E σ σc U (y) hB hU (by omega) hno) mX11_noBody kX11_319 (by decide : kd 327 = 10) rfl rfl rfl ⟨rfl, rfl⟩ (show zfit (zrm 1 25) 2 (zrm 2 46) = true from rfl) (Nat.le_of_ble_eq_true rfl) dX11_firstBeyond_2 ⟨Nat.zero_le _, Nat.zero_le _⟩ ?_
  refine zv_if_neZ (tgt := 33) C (by omega) dX11_firstBeyond_5 (by decide) (fun h5 => ?_) (fun h5 => absurd h5 (by decide))
  refine zv_iconst (v := zI 0) C dX11_firstBeyond_33 rfl ?_
  exact zv_iret C hr rfl dX11_firstBeyond_34 ⟨rfl, by first | exact mK_th _ _ | exact mK_th2 _ _ _ | exact mK_C (mK_W (mK_th _ _) _ _) _ | exact mK_W (mK_th _ _) _ _⟩
set_option maxRecDepth 20000 in
theorem x2_X11_firstBeyond {l : Launch} (hfl : l.stackTraces = false) (E : zE) (σ : zS) (σc : zS) (U : zSU) (i : Nat) (y : Int) (hB : zRb (gI σ 328) U) (hU : zSUp σc 29 U) (hi : i < U.nb) (hy : -2147483648 ≤ y ∧ y < 2147483648) (hno : ¬ (0 ≤ y ∧ y ≤ 1000000000)) : zRi l E yX11_firstBeyond cX11_firstBeyond 4 .int (zrm 2 46) [.ref (ob E 327), .int (zI (i : Int)), .int (zI y)] σ (fun r τ => r = zI 0 ∧ mK σ τ 2) := by
  refine Met.ofW (cc := cX11_firstBeyond) (maxL := 4) (ret := (some .int)) (by decide +kernel) rfl ?_
  intro p e s m args below meth c s₁ B hml hv
  obtain ⟨rfl, hd⟩ := hv
  have C := zX_of (own := RX11) hfl B hml rfl hd rfl
  have hr := B.returns
  refine zV_go hd (Nat.le_of_ble_eq_true rfl) (lv := [(0, .ref (ob E 327)), (1, .int (zI (i : Int))), (2, .int (zI y))]) rfl ?_
  have hnb : U.nb ≤ 8 := hU.2.2.1
  have hs0 := hU.2.2.2.1
  
  refine zv_aload_n C 0 dX11_firstBeyond_0 rfl rfl ?_
  refine zv_iload_n C 1 dX11_firstBeyond_1 rfl rfl ?_
  refine zv_cviD (st := []) C (c0_X11_noBody hfl E σ σc U ((i : Int)) hB hU (by omega)) mX11_noBody kX11_319 (by decide : kd 327 = 10) rfl rfl rfl ⟨rfl, rfl⟩ (show zfit (zrm 1 25) 2 (zrm 2 46) = true from rfl) (Nat.le_of_ble_eq_true rfl) dX11_firstBeyond_2 ⟨Nat.zero_le _, Nat.zero_le _⟩ ?_
  refine zv_if_neZ (tgt := 33) C (by omega) dX11_firstBeyond_5 (by decide) (fun h5 => absurd h5 (by decide)) (fun h5 => ?_)
  refine zv_aload_n C 0 dX11_firstBeyond_8 rfl rfl ?_
  refine zv_iload_n C 2 dX11_firstBeyond_9 rfl rfl ?_
  refine zv_i2lZ C (by omega) dX11_firstBeyond_10 ?_
  refine zv_lconst (v := zL 0) C dX11_firstBeyond_11 (by decide) ?_
  refine zv_ldc2 C kX11_353 dX11_firstBeyond_12 ?_
  refine zv_eql (y := zL 1000000000) (by decide) ?_
  refine zv_csiD (st := [.ref (ob E 327)]) C (c_X11_inRange hfl E (thW σ 0) (y) (0) (1000000000) (by omega) (by omega) (by omega)) mX11_inRange kX11_71 rfl ⟨rfl, rfl⟩ (show zfit (zrm 0 0) 6 (zrm 2 46) = true from rfl) (Nat.le_of_ble_eq_true rfl) dX11_firstBeyond_15 ⟨Nat.zero_le _, Nat.zero_le _⟩ ?_
  refine zv_if_neB (tgt := 25) C dX11_firstBeyond_18 (by decide) (fun h18 => ?_) (fun h18 => ?_)
  · skip
    refine zv_iconst (v := zI 0) C dX11_firstBeyond_25 rfl ?_
    refine zv_iconst (v := zI 2) C dX11_firstBeyond_26 rfl ?_
    exfalso
    omega
  · skip
    refine zv_iconst (v := zI 1) C dX11_firstBeyond_21 rfl ?_
    refine zv_goto (tgt := 26) C dX11_firstBeyond_22 (by decide) ?_
    refine zv_iconst (v := zI 2) C dX11_firstBeyond_26 rfl ?_
    refine zv_cviD (st := []) C (c1_X11_fails hfl E (thW σ 0) 2) mX11_fails kX11_309 (by decide : kd 327 = 10) rfl rfl rfl ⟨rfl, rfl⟩ (show zfit (zrm 0 0) 3 (zrm 2 46) = true from rfl) (Nat.le_of_ble_eq_true rfl) dX11_firstBeyond_27 ⟨Nat.zero_le _, Nat.zero_le _⟩ ?_
    refine zv_if_eqZ (tgt := 35) C (by omega) dX11_firstBeyond_30 (by decide) (fun h30 => absurd h30 (by decide)) (fun h30 => ?_)
    refine zv_iconst (v := zI 0) C dX11_firstBeyond_33 rfl ?_
    exact zv_iret C hr rfl dX11_firstBeyond_34 ⟨rfl, mK_th2 _ _ _⟩
set_option maxRecDepth 20000 in
theorem c_X11_growth {l : Launch} (hfl : l.stackTraces = false) (E : zE) (σ : zS) (σc : zS) (U : zSU) (S : zST) (i : Nat) (a b : Int) (hB : zRb (gI σ 328) U) (hU : zSUp σc 29 U) (hW : zRo (gI σ 332) U.nb S) (hS : zSTp σc 34 S) (hi : i < U.nb) (ha : U.s0 ≤ a ∧ a ≤ U.s0 + 999) (hb : U.s0 ≤ b ∧ b ≤ U.s0 + 999) (hlt : a < b) : zRl l E yX11_growth cX11_growth 7 (zrm 7 179) [.ref (ob E 327), .int (zI (i : Int)), .int (zI a), .int (zI b)] σ (fun r τ => r = zL (dGr U S i a (b - a).toNat) ∧ mK σ τ 0) := by
  refine Met.ofW (cc := cX11_growth) (maxL := 7) (ret := (some .long)) (by decide +kernel) rfl ?_
  intro p e s m args below meth c s₁ B hml hv
  obtain ⟨rfl, hd⟩ := hv
  have C := zX_of (own := RX11) hfl B hml rfl hd rfl
  have hr := B.returns
  refine zV_go hd (Nat.le_of_ble_eq_true rfl) (lv := [(0, .ref (ob E 327)), (1, .int (zI (i : Int))), (2, .int (zI a)), (3, .int (zI b))]) rfl ?_
  have hnb : U.nb ≤ 8 := hU.2.2.1
  have hs0 := hU.2.2.2.1
  have hab : (((b - a).toNat : Nat) : Int) = b - a := by omega
  refine zv_aload_n C 0 dX11_growth_0 rfl rfl ?_
  refine zv_iload_n C 1 dX11_growth_1 rfl rfl ?_
  refine zv_cviD (st := []) C (c0_X11_noBody hfl E σ σc U ((i : Int)) hB hU (by omega)) mX11_noBody kX11_319 (by decide : kd 327 = 10) rfl rfl rfl ⟨rfl, rfl⟩ (show zfit (zrm 1 25) 2 (zrm 7 179) = true from rfl) (Nat.le_of_ble_eq_true rfl) dX11_growth_2 ⟨Nat.zero_le _, Nat.zero_le _⟩ ?_
  refine zv_if_neZ (tgt := 42) C (by omega) dX11_growth_5 (by decide) (fun h5 => absurd h5 (by decide)) (fun h5 => ?_)
  refine zv_aload_n C 0 dX11_growth_8 rfl rfl ?_
  refine zv_aload_n C 0 dX11_growth_9 rfl rfl ?_
  refine zv_iload_n C 2 dX11_growth_10 rfl rfl ?_
  refine zv_cviD (st := [.ref (ob E 327)]) C (c_X11_isYear hfl E (thW σ 0) σc U (a) hB hU (by omega)) mX11_isYear kX11_327 (by decide : kd 327 = 10) rfl rfl rfl ⟨rfl, rfl⟩ (show zfit (zrm 1 25) 2 (zrm 7 179) = true from rfl) (Nat.le_of_ble_eq_true rfl) dX11_growth_11 ⟨Nat.zero_le _, Nat.zero_le _⟩ ?_
  refine zv_if_eqB (tgt := 30) C dX11_growth_14 (by decide) (fun h14 => ?_) (fun h14 => ?_)
  · skip
    refine zv_iconst (v := zI 1) C dX11_growth_30 rfl ?_
    refine zv_goto (tgt := 35) C dX11_growth_31 (by decide) ?_
    refine zv_iconst (v := zI 2) C dX11_growth_35 rfl ?_
    exfalso
    omega
  · skip
    refine zv_aload_n C 0 dX11_growth_17 rfl rfl ?_
    refine zv_iload_n C 3 dX11_growth_18 rfl rfl ?_
    refine zv_cviD (st := [.ref (ob E 327)]) C (c_X11_isYear hfl E (thW σ 0) σc U (b) hB hU (by omega)) mX11_isYear kX11_327 (by decide : kd 327 = 10) rfl rfl rfl ⟨rfl, rfl⟩ (show zfit (zrm 1 25) 2 (zrm 7 179) = true from rfl) (Nat.le_of_ble_eq_true rfl) dX11_growth_19 ⟨Nat.zero_le _, Nat.zero_le _⟩ ?_
    refine zv_if_eqB (tgt := 30) C dX11_growth_22 (by decide) (fun h22 => ?_) (fun h22 => ?_)
    · skip
      refine zv_iconst (v := zI 1) C dX11_growth_30 rfl ?_
      refine zv_goto (tgt := 35) C dX11_growth_31 (by decide) ?_
      refine zv_iconst (v := zI 2) C dX11_growth_35 rfl ?_
      exfalso
      omega
    · skip
      refine zv_iload_n C 3 dX11_growth_25 rfl rfl ?_
      refine zv_iload_n C 2 dX11_growth_26 rfl rfl ?_
      refine zv_icmp_gtZ (tgt := 34) C (by omega) (by omega) dX11_growth_27 (by decide) (fun h27 => ?_) (fun h27 => ?_)
      · skip
        refine zv_iconst (v := zI 0) C dX11_growth_34 rfl ?_
        refine zv_iconst (v := zI 2) C dX11_growth_35 rfl ?_
        refine zv_cviD (st := []) C (c0_X11_fails hfl E (thW σ 0) 2) mX11_fails kX11_309 (by decide : kd 327 = 10) rfl rfl rfl ⟨rfl, rfl⟩ (show zfit (zrm 0 0) 3 (zrm 7 179) = true from rfl) (Nat.le_of_ble_eq_true rfl) dX11_growth_36 ⟨Nat.zero_le _, Nat.zero_le _⟩ ?_
        refine zv_if_eqZ (tgt := 44) C (by omega) dX11_growth_39 (by decide) (fun h39 => ?_) (fun h39 => absurd h39 (by decide))
        refine zv_lconst (v := zL 0) C dX11_growth_44 (by decide) ?_
        refine zv_lstore (lv' := [(4, .long (zL 0)), (0, .ref (ob E 327)), (1, .int (zI (i : Int))), (2, .int (zI a)), (3, .int (zI b))]) C dX11_growth_45  (by decide) rfl ?_
        refine zv_iload_n C 3 dX11_growth_47 rfl rfl ?_
        refine zv_istore (lv' := [(6, .int (zI a)), (4, .long (zL 0)), (0, .ref (ob E 327)), (1, .int (zI (i : Int))), (2, .int (zI a)), (3, .int (zI b))]) C dX11_growth_48  (by decide) rfl ?_
        have q50_42 : (a : Int) = a + (0 : Int) := by show a = a + 0; omega
        have q50_43 : (0 : Int) = dGr U S i a 0 := by rfl
        refine zv_sub (lv' := [(0, .ref (ob E 327)), (1, .int (zI (i : Int))), (2, .int (zI a)), (3, .int (zI b)), (4, .long (zL (dGr U S i a 0))), (6, .int (zI (a + (0 : Int))))]) [2, 3, 4, 5, 1, 0] (zcons rfl (zcons rfl (zcons rfl (zcons rfl (zcons (zqL q50_43) (zcons (zqI q50_42) rfl)))))) ?_
        refine zv_eqS (τ := (thW σ 0)) (rfl) ?_
        refine zv_while (α := Nat × zS) (fun v => (b - a).toNat - v.1) (fun v => v.1 ≤ (b - a).toNat ∧ mK σ v.2 0) (fun v => v.2) (fun v => [(0, .ref (ob E 327)), (1, .int (zI (i : Int))), (2, .int (zI a)), (3, .int (zI b)), (4, .long (zL (dGr U S i a v.1))), (6, .int (zI (a + (v.1 : Int))))]) (fun v => []) (fun v hI ih => ?_) ((0, (thW σ 0))) (⟨Nat.zero_le _, mK_th _ _⟩)
        obtain ⟨j, u⟩ := v
        dsimp only at hI ih ⊢
        obtain ⟨hI, hK⟩ := hI
        have hgb := dGr_b hU hS hi ha.1 j (by omega)
        refine zv_iload C 5 dX11_growth_50 rfl ?_
        refine zv_iload_n C 3 dX11_growth_52 rfl rfl ?_
        refine zv_icmp_geZ (tgt := 89) C (by omega) (by omega) dX11_growth_53 (by decide) (fun h53 => ?_) (fun h53 => ?_)
        · skip
          refine zv_lload C 4 dX11_growth_89 rfl ?_
          exact zv_lret C hr dX11_growth_91 ⟨by rw [show j = (b - a).toNat by omega], hK⟩
        · skip
          have hq1 := qErr_b hU hS hi (y := a + (j : Int) + 1) (by omega)
          have hq2 := qErr_b hU hS hi (y := a + (j : Int)) (by omega)
          refine zv_lload C 4 dX11_growth_56 rfl ?_
          refine zv_aload_n C 0 dX11_growth_58 rfl rfl ?_
          refine zv_iload_n C 1 dX11_growth_59 rfl rfl ?_
          refine zv_iload C 5 dX11_growth_60 rfl ?_
          refine zv_iconst (v := zI 1) C dX11_growth_62 rfl ?_
          refine zv_iaddZ C dX11_growth_63 ?_
          refine zv_cvlD (st := [.long (zL (dGr U S i a j))]) C (c_X11_errorAt hfl E u σc U S i (a + (j : Int) + 1) (mK_B hK hB) hU (mK_R hK hW) hS hi (by omega)) mX11_errorAt kX11_306 (by decide : kd 327 = 10) rfl rfl rfl ⟨rfl, rfl⟩ (show zfit (zrm 6 157) 3 (zrm 7 179) = true from rfl) (Nat.le_of_ble_eq_true rfl) dX11_growth_64 ⟨Nat.zero_le _, Nat.zero_le _⟩ ?_
          refine zv_aload_n C 0 dX11_growth_67 rfl rfl ?_
          refine zv_iload_n C 1 dX11_growth_68 rfl rfl ?_
          refine zv_iload C 5 dX11_growth_69 rfl ?_
          refine zv_cvlD (st := [.long (zL (qErr U S i (a + (j : Int) + 1))), .long (zL (dGr U S i a j))]) C (c_X11_errorAt hfl E (mE u U S i (yF U (a + (j : Int) + 1))) σc U S i (a + (j : Int)) (mK_B (mK_E hK U S i (yF U (a + (j : Int) + 1))) hB) hU (mK_R (mK_E hK U S i (yF U (a + (j : Int) + 1))) hW) hS hi (by omega)) mX11_errorAt kX11_306 (by decide : kd 327 = 10) rfl rfl rfl ⟨rfl, rfl⟩ (show zfit (zrm 6 157) 3 (zrm 7 179) = true from rfl) (Nat.le_of_ble_eq_true rfl) dX11_growth_71 ⟨Nat.zero_le _, Nat.zero_le _⟩ ?_
          refine zv_lsubZ C dX11_growth_74 ?_
          refine zv_cslD (st := [.long (zL (dGr U S i a j))]) C (c_J9_abs_067f4 hfl E (mE (mE u U S i (yF U (a + (j : Int) + 1))) U S i (yF U (a + (j : Int)))) ((qErr U S i (a + (j : Int) + 1)) - (qErr U S i (a + (j : Int)))) (by omega)) mJ9_abs_067f4 kX11_239 rfl ⟨rfl, rfl⟩ (show zfit (zrm 0 0) 2 (zrm 7 179) = true from rfl) (Nat.le_of_ble_eq_true rfl) dX11_growth_75 ⟨Nat.zero_le _, Nat.zero_le _⟩ ?_
          refine zv_cslD (st := []) C (c_J9_max_f86c9 hfl E (mE (mE u U S i (yF U (a + (j : Int) + 1))) U S i (yF U (a + (j : Int)))) (dGr U S i a j) ((((qErr U S i (a + (j : Int) + 1)) - (qErr U S i (a + (j : Int)))).natAbs : Int)) (by omega) (by omega)) mJ9_max_f86c9 kX11_355 rfl ⟨rfl, rfl⟩ (show zfit (zrm 0 0) 4 (zrm 7 179) = true from rfl) (Nat.le_of_ble_eq_true rfl) dX11_growth_78 ⟨Nat.zero_le _, Nat.zero_le _⟩ ?_
          refine zv_lstore (lv' := [(4, .long (zL (max (dGr U S i a j) ((((qErr U S i (a + (j : Int) + 1)) - (qErr U S i (a + (j : Int)))).natAbs : Int))))), (0, .ref (ob E 327)), (1, .int (zI (i : Int))), (2, .int (zI a)), (3, .int (zI b)), (6, .int (zI (a + (j : Int))))]) C dX11_growth_81  (by decide) rfl ?_
          refine zv_iinc (v := (zI (a + (j : Int) + 1))) (lv' := [(6, .int (zI (a + (j : Int) + 1))), (4, .long (zL (max (dGr U S i a j) ((((qErr U S i (a + (j : Int) + 1)) - (qErr U S i (a + (j : Int)))).natAbs : Int))))), (0, .ref (ob E 327)), (1, .int (zI (i : Int))), (2, .int (zI a)), (3, .int (zI b))]) C 5 dX11_growth_83 rfl (zI_add _ _) (by decide) rfl ?_
          refine zv_goto (tgt := 50) C dX11_growth_86 (by decide) ?_
          have q50_77 : (a + (j : Int) + 1 : Int) = a + ((j + 1 : Nat) : Int) := by omega
          have q50_78 : (max (dGr U S i a j) ((((qErr U S i (a + (j : Int) + 1)) - (qErr U S i (a + (j : Int)))).natAbs : Int)) : Int) = dGr U S i a (j + 1) := by rfl
          refine zv_sub (lv' := [(0, .ref (ob E 327)), (1, .int (zI (i : Int))), (2, .int (zI a)), (3, .int (zI b)), (4, .long (zL (dGr U S i a (j + 1)))), (6, .int (zI (a + ((j + 1 : Nat) : Int))))]) [2, 3, 4, 5, 1, 0] (zcons rfl (zcons rfl (zcons rfl (zcons rfl (zcons (zqL q50_78) (zcons (zqI q50_77) rfl)))))) ?_
          refine zv_eqS (τ := (mE (mE u U S i (yF U (a + (j : Int) + 1))) U S i (yF U (a + (j : Int))))) (rfl) ?_
          exact ih ((j + 1, (mE (mE u U S i (yF U (a + (j : Int) + 1))) U S i (yF U (a + (j : Int)))))) (⟨by show j + 1 ≤ (b - a).toNat; omega, mK_E (mK_E hK _ _ _ _) _ _ _ _⟩) (by show (b - a).toNat - (j + 1) < (b - a).toNat - j; omega)
      · skip
        refine zv_iconst (v := zI 1) C dX11_growth_30 rfl ?_
        refine zv_goto (tgt := 35) C dX11_growth_31 (by decide) ?_
        refine zv_iconst (v := zI 2) C dX11_growth_35 rfl ?_
        exfalso
        omega
set_option maxRecDepth 20000 in
theorem x1_X11_growth {l : Launch} (hfl : l.stackTraces = false) (E : zE) (σ : zS) (σc : zS) (U : zSU) (y a b : Int) (hB : zRb (gI σ 328) U) (hU : zSUp σc 29 U) (hy : -2147483648 ≤ y ∧ y < 2147483648) (hno : ¬ (0 ≤ y ∧ y < U.nb)) : zRl l E yX11_growth cX11_growth 7 (zrm 2 46) [.ref (ob E 327), .int (zI y), .int (zI a), .int (zI b)] σ (fun r τ => r = zL 0 ∧ mK σ τ 1) := by
  refine Met.ofW (cc := cX11_growth) (maxL := 7) (ret := (some .long)) (by decide +kernel) rfl ?_
  intro p e s m args below meth c s₁ B hml hv
  obtain ⟨rfl, hd⟩ := hv
  have C := zX_of (own := RX11) hfl B hml rfl hd rfl
  have hr := B.returns
  refine zV_go hd (Nat.le_of_ble_eq_true rfl) (lv := [(0, .ref (ob E 327)), (1, .int (zI y)), (2, .int (zI a)), (3, .int (zI b))]) rfl ?_
  have hnb : U.nb ≤ 8 := hU.2.2.1
  have hs0 := hU.2.2.2.1
  
  refine zv_aload_n C 0 dX11_growth_0 rfl rfl ?_
  refine zv_iload_n C 1 dX11_growth_1 rfl rfl ?_
  refine zv_cviD (st := []) C (c1_X11_noBody hfl E σ σc U (y) hB hU (by omega) hno) mX11_noBody kX11_319 (by decide : kd 327 = 10) rfl rfl rfl ⟨rfl, rfl⟩ (show zfit (zrm 1 25) 2 (zrm 2 46) = true from rfl) (Nat.le_of_ble_eq_true rfl) dX11_growth_2 ⟨Nat.zero_le _, Nat.zero_le _⟩ ?_
  refine zv_if_neZ (tgt := 42) C (by omega) dX11_growth_5 (by decide) (fun h5 => ?_) (fun h5 => absurd h5 (by decide))
  refine zv_lconst (v := zL 0) C dX11_growth_42 (by decide) ?_
  exact zv_lret C hr dX11_growth_43 ⟨rfl, by first | exact mK_th _ _ | exact mK_th2 _ _ _ | exact mK_C (mK_W (mK_th _ _) _ _) _ | exact mK_W (mK_th _ _) _ _⟩
set_option maxRecDepth 20000 in
theorem x2_X11_growth {l : Launch} (hfl : l.stackTraces = false) (E : zE) (σ : zS) (σc : zS) (U : zSU) (i : Nat) (a b : Int) (hB : zRb (gI σ 328) U) (hU : zSUp σc 29 U) (hi : i < U.nb) (har : -2147483648 ≤ a ∧ a < 2147483648) (hbr : -2147483648 ≤ b ∧ b < 2147483648) (hno : ¬ ((U.s0 ≤ a ∧ a ≤ U.s0 + 999) ∧ (U.s0 ≤ b ∧ b ≤ U.s0 + 999) ∧ a < b)) : zRl l E yX11_growth cX11_growth 7 (zrm 2 46) [.ref (ob E 327), .int (zI (i : Int)), .int (zI a), .int (zI b)] σ (fun r τ => r = zL 0 ∧ mK σ τ 2) := by
  refine Met.ofW (cc := cX11_growth) (maxL := 7) (ret := (some .long)) (by decide +kernel) rfl ?_
  intro p e s m args below meth c s₁ B hml hv
  obtain ⟨rfl, hd⟩ := hv
  have C := zX_of (own := RX11) hfl B hml rfl hd rfl
  have hr := B.returns
  refine zV_go hd (Nat.le_of_ble_eq_true rfl) (lv := [(0, .ref (ob E 327)), (1, .int (zI (i : Int))), (2, .int (zI a)), (3, .int (zI b))]) rfl ?_
  have hnb : U.nb ≤ 8 := hU.2.2.1
  have hs0 := hU.2.2.2.1
  
  refine zv_aload_n C 0 dX11_growth_0 rfl rfl ?_
  refine zv_iload_n C 1 dX11_growth_1 rfl rfl ?_
  refine zv_cviD (st := []) C (c0_X11_noBody hfl E σ σc U ((i : Int)) hB hU (by omega)) mX11_noBody kX11_319 (by decide : kd 327 = 10) rfl rfl rfl ⟨rfl, rfl⟩ (show zfit (zrm 1 25) 2 (zrm 2 46) = true from rfl) (Nat.le_of_ble_eq_true rfl) dX11_growth_2 ⟨Nat.zero_le _, Nat.zero_le _⟩ ?_
  refine zv_if_neZ (tgt := 42) C (by omega) dX11_growth_5 (by decide) (fun h5 => absurd h5 (by decide)) (fun h5 => ?_)
  refine zv_aload_n C 0 dX11_growth_8 rfl rfl ?_
  refine zv_aload_n C 0 dX11_growth_9 rfl rfl ?_
  refine zv_iload_n C 2 dX11_growth_10 rfl rfl ?_
  refine zv_cviD (st := [.ref (ob E 327)]) C (c_X11_isYear hfl E (thW σ 0) σc U (a) hB hU (by omega)) mX11_isYear kX11_327 (by decide : kd 327 = 10) rfl rfl rfl ⟨rfl, rfl⟩ (show zfit (zrm 1 25) 2 (zrm 2 46) = true from rfl) (Nat.le_of_ble_eq_true rfl) dX11_growth_11 ⟨Nat.zero_le _, Nat.zero_le _⟩ ?_
  refine zv_if_eqB (tgt := 30) C dX11_growth_14 (by decide) (fun h14 => ?_) (fun h14 => ?_)
  · skip
    refine zv_iconst (v := zI 1) C dX11_growth_30 rfl ?_
    refine zv_goto (tgt := 35) C dX11_growth_31 (by decide) ?_
    refine zv_iconst (v := zI 2) C dX11_growth_35 rfl ?_
    refine zv_cviD (st := []) C (c1_X11_fails hfl E (thW σ 0) 2) mX11_fails kX11_309 (by decide : kd 327 = 10) rfl rfl rfl ⟨rfl, rfl⟩ (show zfit (zrm 0 0) 3 (zrm 2 46) = true from rfl) (Nat.le_of_ble_eq_true rfl) dX11_growth_36 ⟨Nat.zero_le _, Nat.zero_le _⟩ ?_
    refine zv_if_eqZ (tgt := 44) C (by omega) dX11_growth_39 (by decide) (fun h39 => absurd h39 (by decide)) (fun h39 => ?_)
    refine zv_lconst (v := zL 0) C dX11_growth_42 (by decide) ?_
    exact zv_lret C hr dX11_growth_43 ⟨rfl, mK_th2 _ _ _⟩
  · skip
    refine zv_aload_n C 0 dX11_growth_17 rfl rfl ?_
    refine zv_iload_n C 3 dX11_growth_18 rfl rfl ?_
    refine zv_cviD (st := [.ref (ob E 327)]) C (c_X11_isYear hfl E (thW σ 0) σc U (b) hB hU (by omega)) mX11_isYear kX11_327 (by decide : kd 327 = 10) rfl rfl rfl ⟨rfl, rfl⟩ (show zfit (zrm 1 25) 2 (zrm 2 46) = true from rfl) (Nat.le_of_ble_eq_true rfl) dX11_growth_19 ⟨Nat.zero_le _, Nat.zero_le _⟩ ?_
    refine zv_if_eqB (tgt := 30) C dX11_growth_22 (by decide) (fun h22 => ?_) (fun h22 => ?_)
    · skip
      refine zv_iconst (v := zI 1) C dX11_growth_30 rfl ?_
      refine zv_goto (tgt := 35) C dX11_growth_31 (by decide) ?_
      refine zv_iconst (v := zI 2) C dX11_growth_35 rfl ?_
      refine zv_cviD (st := []) C (c1_X11_fails hfl E (thW σ 0) 2) mX11_fails kX11_309 (by decide : kd 327 = 10) rfl rfl rfl ⟨rfl, rfl⟩ (show zfit (zrm 0 0) 3 (zrm 2 46) = true from rfl) (Nat.le_of_ble_eq_true rfl) dX11_growth_36 ⟨Nat.zero_le _, Nat.zero_le _⟩ ?_
      refine zv_if_eqZ (tgt := 44) C (by omega) dX11_growth_39 (by decide) (fun h39 => absurd h39 (by decide)) (fun h39 => ?_)
      refine zv_lconst (v := zL 0) C dX11_growth_42 (by decide) ?_
      exact zv_lret C hr dX11_growth_43 ⟨rfl, mK_th2 _ _ _⟩
    · skip
      refine zv_iload_n C 3 dX11_growth_25 rfl rfl ?_
      refine zv_iload_n C 2 dX11_growth_26 rfl rfl ?_
      refine zv_icmp_gtZ (tgt := 34) C (by omega) (by omega) dX11_growth_27 (by decide) (fun h27 => ?_) (fun h27 => ?_)
      · skip
        refine zv_iconst (v := zI 0) C dX11_growth_34 rfl ?_
        refine zv_iconst (v := zI 2) C dX11_growth_35 rfl ?_
        exfalso
        omega
      · skip
        refine zv_iconst (v := zI 1) C dX11_growth_30 rfl ?_
        refine zv_goto (tgt := 35) C dX11_growth_31 (by decide) ?_
        refine zv_iconst (v := zI 2) C dX11_growth_35 rfl ?_
        refine zv_cviD (st := []) C (c1_X11_fails hfl E (thW σ 0) 2) mX11_fails kX11_309 (by decide : kd 327 = 10) rfl rfl rfl ⟨rfl, rfl⟩ (show zfit (zrm 0 0) 3 (zrm 2 46) = true from rfl) (Nat.le_of_ble_eq_true rfl) dX11_growth_36 ⟨Nat.zero_le _, Nat.zero_le _⟩ ?_
        refine zv_if_eqZ (tgt := 44) C (by omega) dX11_growth_39 (by decide) (fun h39 => absurd h39 (by decide)) (fun h39 => ?_)
        refine zv_lconst (v := zL 0) C dX11_growth_42 (by decide) ?_
        exact zv_lret C hr dX11_growth_43 ⟨rfl, mK_th2 _ _ _⟩
set_option maxRecDepth 20000 in
theorem c_X11_worstYear {l : Launch} (hfl : l.stackTraces = false) (E : zE) (σ : zS) (σc : zS) (U : zSU) (S : zST) (i : Nat) (a b : Int) (hB : zRb (gI σ 328) U) (hU : zSUp σc 29 U) (hW : zRo (gI σ 332) U.nb S) (hS : zSTp σc 34 S) (hi : i < U.nb) (ha : U.s0 ≤ a ∧ a ≤ U.s0 + 999) (hb : U.s0 ≤ b ∧ b ≤ U.s0 + 999) (hle : a ≤ b) : zRi l E yX11_worstYear cX11_worstYear 6 .int (zrm 8 201) [.ref (ob E 327), .int (zI (i : Int)), .int (zI a), .int (zI b)] σ (fun r τ => r = zI (dWy U S i a ((b - a).toNat + 1)).1 ∧ mK σ τ 0) := by
  refine Met.ofW (cc := cX11_worstYear) (maxL := 6) (ret := (some .int)) (by decide +kernel) rfl ?_
  intro p e s m args below meth c s₁ B hml hv
  obtain ⟨rfl, hd⟩ := hv
  have C := zX_of (own := RX11) hfl B hml rfl hd rfl
  have hr := B.returns
  refine zV_go hd (Nat.le_of_ble_eq_true rfl) (lv := [(0, .ref (ob E 327)), (1, .int (zI (i : Int))), (2, .int (zI a)), (3, .int (zI b))]) rfl ?_
  have hnb : U.nb ≤ 8 := hU.2.2.1
  have hs0 := hU.2.2.2.1
  have hab : (((b - a).toNat : Nat) : Int) = b - a := by omega
  refine zv_aload_n C 0 dX11_worstYear_0 rfl rfl ?_
  refine zv_iload_n C 1 dX11_worstYear_1 rfl rfl ?_
  refine zv_cviD (st := []) C (c0_X11_noBody hfl E σ σc U ((i : Int)) hB hU (by omega)) mX11_noBody kX11_319 (by decide : kd 327 = 10) rfl rfl rfl ⟨rfl, rfl⟩ (show zfit (zrm 1 25) 2 (zrm 8 201) = true from rfl) (Nat.le_of_ble_eq_true rfl) dX11_worstYear_2 ⟨Nat.zero_le _, Nat.zero_le _⟩ ?_
  refine zv_if_neZ (tgt := 42) C (by omega) dX11_worstYear_5 (by decide) (fun h5 => absurd h5 (by decide)) (fun h5 => ?_)
  refine zv_aload_n C 0 dX11_worstYear_8 rfl rfl ?_
  refine zv_aload_n C 0 dX11_worstYear_9 rfl rfl ?_
  refine zv_iload_n C 2 dX11_worstYear_10 rfl rfl ?_
  refine zv_cviD (st := [.ref (ob E 327)]) C (c_X11_isYear hfl E (thW σ 0) σc U (a) hB hU (by omega)) mX11_isYear kX11_327 (by decide : kd 327 = 10) rfl rfl rfl ⟨rfl, rfl⟩ (show zfit (zrm 1 25) 2 (zrm 8 201) = true from rfl) (Nat.le_of_ble_eq_true rfl) dX11_worstYear_11 ⟨Nat.zero_le _, Nat.zero_le _⟩ ?_
  refine zv_if_eqB (tgt := 30) C dX11_worstYear_14 (by decide) (fun h14 => ?_) (fun h14 => ?_)
  · skip
    refine zv_iconst (v := zI 1) C dX11_worstYear_30 rfl ?_
    refine zv_goto (tgt := 35) C dX11_worstYear_31 (by decide) ?_
    refine zv_iconst (v := zI 2) C dX11_worstYear_35 rfl ?_
    exfalso
    omega
  · skip
    refine zv_aload_n C 0 dX11_worstYear_17 rfl rfl ?_
    refine zv_iload_n C 3 dX11_worstYear_18 rfl rfl ?_
    refine zv_cviD (st := [.ref (ob E 327)]) C (c_X11_isYear hfl E (thW σ 0) σc U (b) hB hU (by omega)) mX11_isYear kX11_327 (by decide : kd 327 = 10) rfl rfl rfl ⟨rfl, rfl⟩ (show zfit (zrm 1 25) 2 (zrm 8 201) = true from rfl) (Nat.le_of_ble_eq_true rfl) dX11_worstYear_19 ⟨Nat.zero_le _, Nat.zero_le _⟩ ?_
    refine zv_if_eqB (tgt := 30) C dX11_worstYear_22 (by decide) (fun h22 => ?_) (fun h22 => ?_)
    · skip
      refine zv_iconst (v := zI 1) C dX11_worstYear_30 rfl ?_
      refine zv_goto (tgt := 35) C dX11_worstYear_31 (by decide) ?_
      refine zv_iconst (v := zI 2) C dX11_worstYear_35 rfl ?_
      exfalso
      omega
    · skip
      refine zv_iload_n C 3 dX11_worstYear_25 rfl rfl ?_
      refine zv_iload_n C 2 dX11_worstYear_26 rfl rfl ?_
      refine zv_icmp_geZ (tgt := 34) C (by omega) (by omega) dX11_worstYear_27 (by decide) (fun h27 => ?_) (fun h27 => ?_)
      · skip
        refine zv_iconst (v := zI 0) C dX11_worstYear_34 rfl ?_
        refine zv_iconst (v := zI 2) C dX11_worstYear_35 rfl ?_
        refine zv_cviD (st := []) C (c0_X11_fails hfl E (thW σ 0) 2) mX11_fails kX11_309 (by decide : kd 327 = 10) rfl rfl rfl ⟨rfl, rfl⟩ (show zfit (zrm 0 0) 3 (zrm 8 201) = true from rfl) (Nat.le_of_ble_eq_true rfl) dX11_worstYear_36 ⟨Nat.zero_le _, Nat.zero_le _⟩ ?_
        refine zv_if_eqZ (tgt := 44) C (by omega) dX11_worstYear_39 (by decide) (fun h39 => ?_) (fun h39 => absurd h39 (by decide))
        refine zv_iload_n C 2 dX11_worstYear_44 rfl rfl ?_
        refine zv_istore (lv' := [(4, .int (zI a)), (0, .ref (ob E 327)), (1, .int (zI (i : Int))), (2, .int (zI a)), (3, .int (zI b))]) C dX11_worstYear_45  (by decide) rfl ?_
        refine zv_iload_n C 3 dX11_worstYear_47 rfl rfl ?_
        refine zv_iconst (v := zI 1) C dX11_worstYear_48 rfl ?_
        refine zv_iaddZ C dX11_worstYear_49 ?_
        refine zv_istore (lv' := [(5, .int (zI (a + 1))), (4, .int (zI a)), (0, .ref (ob E 327)), (1, .int (zI (i : Int))), (2, .int (zI a)), (3, .int (zI b))]) C dX11_worstYear_50  (by decide) rfl ?_
        have q52_44 : (a + 1 : Int) = a + (0 : Int) + 1 := by show a + 1 = a + 0 + 1; omega
        have q52_45 : (a : Int) = (dWy U S i a (0 + 1)).1 := by exact dWy_1 _ _ _ _
        refine zv_sub (lv' := [(0, .ref (ob E 327)), (1, .int (zI (i : Int))), (2, .int (zI a)), (3, .int (zI b)), (4, .int (zI ((dWy U S i a (0 + 1)).1))), (5, .int (zI (a + (0 : Int) + 1)))]) [2, 3, 4, 5, 1, 0] (zcons rfl (zcons rfl (zcons rfl (zcons rfl (zcons (zqI q52_45) (zcons (zqI q52_44) rfl)))))) ?_
        refine zv_eqS (τ := (thW σ 0)) (rfl) ?_
        refine zv_while (α := Nat × zS) (fun v => (b - a).toNat - v.1) (fun v => v.1 ≤ (b - a).toNat ∧ mK σ v.2 0) (fun v => v.2) (fun v => [(0, .ref (ob E 327)), (1, .int (zI (i : Int))), (2, .int (zI a)), (3, .int (zI b)), (4, .int (zI ((dWy U S i a (v.1 + 1)).1))), (5, .int (zI (a + (v.1 : Int) + 1)))]) (fun v => []) (fun v hI ih => ?_) ((0, (thW σ 0))) (⟨Nat.zero_le _, mK_th _ _⟩)
        obtain ⟨j, u⟩ := v
        dsimp only at hI ih ⊢
        obtain ⟨hI, hK⟩ := hI
        obtain ⟨hw1, hw2, hw3⟩ := dWy_m U S i a j
        refine zv_iload C 5 dX11_worstYear_52 rfl ?_
        refine zv_iload_n C 3 dX11_worstYear_54 rfl rfl ?_
        refine zv_icmp_gtZ (tgt := 86) C (by omega) (by omega) dX11_worstYear_55 (by decide) (fun h55 => ?_) (fun h55 => ?_)
        · skip
          refine zv_iload C 4 dX11_worstYear_86 rfl ?_
          exact zv_iret C hr rfl dX11_worstYear_88 ⟨by rw [show j = (b - a).toNat by omega], hK⟩
        · skip
          have hq1 := qErr_b hU hS hi (y := a + (j : Int) + 1) (by omega)
          have hq2 := qErr_b hU hS hi (y := (dWy U S i a (j + 1)).1) (by omega)
          have hcs : a + ((j + 1 : Nat) : Int) = a + (j : Int) + 1 := by omega
          have hqe : qErr U S i (a + ((j + 1 : Nat) : Int)) = qErr U S i (a + (j : Int) + 1) := by rw [hcs]
          refine zv_aload_n C 0 dX11_worstYear_58 rfl rfl ?_
          refine zv_iload_n C 1 dX11_worstYear_59 rfl rfl ?_
          refine zv_iload C 5 dX11_worstYear_60 rfl ?_
          refine zv_cvlD (st := []) C (c_X11_offAt hfl E u σc U S i (a + (j : Int) + 1) (mK_B hK hB) hU (mK_R hK hW) hS hi (by omega)) mX11_offAt kX11_344 (by decide : kd 327 = 10) rfl rfl rfl ⟨rfl, rfl⟩ (show zfit (zrm 7 179) 3 (zrm 8 201) = true from rfl) (Nat.le_of_ble_eq_true rfl) dX11_worstYear_62 ⟨Nat.zero_le _, Nat.zero_le _⟩ ?_
          refine zv_aload_n C 0 dX11_worstYear_65 rfl rfl ?_
          refine zv_iload_n C 1 dX11_worstYear_66 rfl rfl ?_
          refine zv_iload C 4 dX11_worstYear_67 rfl ?_
          refine zv_cvlD (st := [.long (zL ((qErr U S i (a + (j : Int) + 1)).natAbs : Int))]) C (c_X11_offAt hfl E (mE u U S i (yF U (a + (j : Int) + 1))) σc U S i ((dWy U S i a (j + 1)).1) (mK_B (mK_E hK U S i (yF U (a + (j : Int) + 1))) hB) hU (mK_R (mK_E hK U S i (yF U (a + (j : Int) + 1))) hW) hS hi (by omega)) mX11_offAt kX11_344 (by decide : kd 327 = 10) rfl rfl rfl ⟨rfl, rfl⟩ (show zfit (zrm 7 179) 3 (zrm 8 201) = true from rfl) (Nat.le_of_ble_eq_true rfl) dX11_worstYear_69 ⟨Nat.zero_le _, Nat.zero_le _⟩ ?_
          refine zv_lc_leZ (tgt := 80) C (by omega) (by omega) dX11_worstYear_72 dX11_worstYear_73 (by decide) (fun h72 => ?_) (fun h72 => ?_)
          · skip
            refine zv_iinc (v := (zI (a + (j : Int) + 1 + 1))) (lv' := [(5, .int (zI (a + (j : Int) + 1 + 1))), (0, .ref (ob E 327)), (1, .int (zI (i : Int))), (2, .int (zI a)), (3, .int (zI b)), (4, .int (zI ((dWy U S i a (j + 1)).1)))]) C 5 dX11_worstYear_80 rfl (zI_add _ _) (by decide) rfl ?_
            refine zv_goto (tgt := 52) C dX11_worstYear_83 (by decide) ?_
            have q52_76 : (a + (j : Int) + 1 + 1 : Int) = a + ((j + 1 : Nat) : Int) + 1 := by omega
            have q52_77 : ((dWy U S i a (j + 1)).1 : Int) = (dWy U S i a ((j + 1) + 1)).1 := by rw [dWy_f]; first | exact (if_pos (by omega)).symm | exact (if_neg (by omega)).symm
            refine zv_sub (lv' := [(0, .ref (ob E 327)), (1, .int (zI (i : Int))), (2, .int (zI a)), (3, .int (zI b)), (4, .int (zI ((dWy U S i a ((j + 1) + 1)).1))), (5, .int (zI (a + ((j + 1 : Nat) : Int) + 1)))]) [1, 2, 3, 4, 5, 0] (zcons rfl (zcons rfl (zcons rfl (zcons rfl (zcons (zqI q52_77) (zcons (zqI q52_76) rfl)))))) ?_
            refine zv_eqS (τ := (mE (mE u U S i (yF U (a + (j : Int) + 1))) U S i (yF U (dWy U S i a (j + 1)).1))) (rfl) ?_
            exact ih ((j + 1, (mE (mE u U S i (yF U (a + (j : Int) + 1))) U S i (yF U (dWy U S i a (j + 1)).1)))) (⟨by show j + 1 ≤ (b - a).toNat; omega, mK_E (mK_E hK _ _ _ _) _ _ _ _⟩) (by show (b - a).toNat - (j + 1) < (b - a).toNat - j; omega)
          · skip
            refine zv_iload C 5 dX11_worstYear_76 rfl ?_
            refine zv_istore (lv' := [(4, .int (zI (a + (j : Int) + 1))), (0, .ref (ob E 327)), (1, .int (zI (i : Int))), (2, .int (zI a)), (3, .int (zI b)), (5, .int (zI (a + (j : Int) + 1)))]) C dX11_worstYear_78  (by decide) rfl ?_
            refine zv_iinc (v := (zI (a + (j : Int) + 1 + 1))) (lv' := [(5, .int (zI (a + (j : Int) + 1 + 1))), (4, .int (zI (a + (j : Int) + 1))), (0, .ref (ob E 327)), (1, .int (zI (i : Int))), (2, .int (zI a)), (3, .int (zI b))]) C 5 dX11_worstYear_80 rfl (zI_add _ _) (by decide) rfl ?_
            refine zv_goto (tgt := 52) C dX11_worstYear_83 (by decide) ?_
            have q52_86 : (a + (j : Int) + 1 + 1 : Int) = a + ((j + 1 : Nat) : Int) + 1 := by omega
            have q52_87 : (a + (j : Int) + 1 : Int) = (dWy U S i a ((j + 1) + 1)).1 := by rw [dWy_f]; first | exact (if_pos (by omega)).symm | exact (if_neg (by omega)).symm
            refine zv_sub (lv' := [(0, .ref (ob E 327)), (1, .int (zI (i : Int))), (2, .int (zI a)), (3, .int (zI b)), (4, .int (zI ((dWy U S i a ((j + 1) + 1)).1))), (5, .int (zI (a + ((j + 1 : Nat) : Int) + 1)))]) [2, 3, 4, 5, 1, 0] (zcons rfl (zcons rfl (zcons rfl (zcons rfl (zcons (zqI q52_87) (zcons (zqI q52_86) rfl)))))) ?_
            refine zv_eqS (τ := (mE (mE u U S i (yF U (a + (j : Int) + 1))) U S i (yF U (dWy U S i a (j + 1)).1))) (rfl) ?_
            exact ih ((j + 1, (mE (mE u U S i (yF U (a + (j : Int) + 1))) U S i (yF U (dWy U S i a (j + 1)).1)))) (⟨by show j + 1 ≤ (b - a).toNat; omega, mK_E (mK_E hK _ _ _ _) _ _ _ _⟩) (by show (b - a).toNat - (j + 1) < (b - a).toNat - j; omega)
      · skip
        refine zv_iconst (v := zI 1) C dX11_worstYear_30 rfl ?_
        refine zv_goto (tgt := 35) C dX11_worstYear_31 (by decide) ?_
        refine zv_iconst (v := zI 2) C dX11_worstYear_35 rfl ?_
        exfalso
        omega
set_option maxRecDepth 20000 in
theorem x1_X11_worstYear {l : Launch} (hfl : l.stackTraces = false) (E : zE) (σ : zS) (σc : zS) (U : zSU) (y a b : Int) (hB : zRb (gI σ 328) U) (hU : zSUp σc 29 U) (hy : -2147483648 ≤ y ∧ y < 2147483648) (hno : ¬ (0 ≤ y ∧ y < U.nb)) : zRi l E yX11_worstYear cX11_worstYear 6 .int (zrm 2 46) [.ref (ob E 327), .int (zI y), .int (zI a), .int (zI b)] σ (fun r τ => r = zI 0 ∧ mK σ τ 1) := by
  refine Met.ofW (cc := cX11_worstYear) (maxL := 6) (ret := (some .int)) (by decide +kernel) rfl ?_
  intro p e s m args below meth c s₁ B hml hv
  obtain ⟨rfl, hd⟩ := hv
  have C := zX_of (own := RX11) hfl B hml rfl hd rfl
  have hr := B.returns
  refine zV_go hd (Nat.le_of_ble_eq_true rfl) (lv := [(0, .ref (ob E 327)), (1, .int (zI y)), (2, .int (zI a)), (3, .int (zI b))]) rfl ?_
  have hnb : U.nb ≤ 8 := hU.2.2.1
  have hs0 := hU.2.2.2.1
  
  refine zv_aload_n C 0 dX11_worstYear_0 rfl rfl ?_
  refine zv_iload_n C 1 dX11_worstYear_1 rfl rfl ?_
  refine zv_cviD (st := []) C (c1_X11_noBody hfl E σ σc U (y) hB hU (by omega) hno) mX11_noBody kX11_319 (by decide : kd 327 = 10) rfl rfl rfl ⟨rfl, rfl⟩ (show zfit (zrm 1 25) 2 (zrm 2 46) = true from rfl) (Nat.le_of_ble_eq_true rfl) dX11_worstYear_2 ⟨Nat.zero_le _, Nat.zero_le _⟩ ?_
  refine zv_if_neZ (tgt := 42) C (by omega) dX11_worstYear_5 (by decide) (fun h5 => ?_) (fun h5 => absurd h5 (by decide))
  refine zv_iconst (v := zI 0) C dX11_worstYear_42 rfl ?_
  exact zv_iret C hr rfl dX11_worstYear_43 ⟨rfl, by first | exact mK_th _ _ | exact mK_th2 _ _ _ | exact mK_C (mK_W (mK_th _ _) _ _) _ | exact mK_W (mK_th _ _) _ _⟩
set_option maxRecDepth 20000 in
theorem x2_X11_worstYear {l : Launch} (hfl : l.stackTraces = false) (E : zE) (σ : zS) (σc : zS) (U : zSU) (i : Nat) (a b : Int) (hB : zRb (gI σ 328) U) (hU : zSUp σc 29 U) (hi : i < U.nb) (har : -2147483648 ≤ a ∧ a < 2147483648) (hbr : -2147483648 ≤ b ∧ b < 2147483648) (hno : ¬ ((U.s0 ≤ a ∧ a ≤ U.s0 + 999) ∧ (U.s0 ≤ b ∧ b ≤ U.s0 + 999) ∧ a ≤ b)) : zRi l E yX11_worstYear cX11_worstYear 6 .int (zrm 2 46) [.ref (ob E 327), .int (zI (i : Int)), .int (zI a), .int (zI b)] σ (fun r τ => r = zI 0 ∧ mK σ τ 2) := by
  refine Met.ofW (cc := cX11_worstYear) (maxL := 6) (ret := (some .int)) (by decide +kernel) rfl ?_
  intro p e s m args below meth c s₁ B hml hv
  obtain ⟨rfl, hd⟩ := hv
  have C := zX_of (own := RX11) hfl B hml rfl hd rfl
  have hr := B.returns
  refine zV_go hd (Nat.le_of_ble_eq_true rfl) (lv := [(0, .ref (ob E 327)), (1, .int (zI (i : Int))), (2, .int (zI a)), (3, .int (zI b))]) rfl ?_
  have hnb : U.nb ≤ 8 := hU.2.2.1
  have hs0 := hU.2.2.2.1
  
  refine zv_aload_n C 0 dX11_worstYear_0 rfl rfl ?_
  refine zv_iload_n C 1 dX11_worstYear_1 rfl rfl ?_
  refine zv_cviD (st := []) C (c0_X11_noBody hfl E σ σc U ((i : Int)) hB hU (by omega)) mX11_noBody kX11_319 (by decide : kd 327 = 10) rfl rfl rfl ⟨rfl, rfl⟩ (show zfit (zrm 1 25) 2 (zrm 2 46) = true from rfl) (Nat.le_of_ble_eq_true rfl) dX11_worstYear_2 ⟨Nat.zero_le _, Nat.zero_le _⟩ ?_
  refine zv_if_neZ (tgt := 42) C (by omega) dX11_worstYear_5 (by decide) (fun h5 => absurd h5 (by decide)) (fun h5 => ?_)
  refine zv_aload_n C 0 dX11_worstYear_8 rfl rfl ?_
  refine zv_aload_n C 0 dX11_worstYear_9 rfl rfl ?_
  refine zv_iload_n C 2 dX11_worstYear_10 rfl rfl ?_
  refine zv_cviD (st := [.ref (ob E 327)]) C (c_X11_isYear hfl E (thW σ 0) σc U (a) hB hU (by omega)) mX11_isYear kX11_327 (by decide : kd 327 = 10) rfl rfl rfl ⟨rfl, rfl⟩ (show zfit (zrm 1 25) 2 (zrm 2 46) = true from rfl) (Nat.le_of_ble_eq_true rfl) dX11_worstYear_11 ⟨Nat.zero_le _, Nat.zero_le _⟩ ?_
  refine zv_if_eqB (tgt := 30) C dX11_worstYear_14 (by decide) (fun h14 => ?_) (fun h14 => ?_)
  · skip
    refine zv_iconst (v := zI 1) C dX11_worstYear_30 rfl ?_
    refine zv_goto (tgt := 35) C dX11_worstYear_31 (by decide) ?_
    refine zv_iconst (v := zI 2) C dX11_worstYear_35 rfl ?_
    refine zv_cviD (st := []) C (c1_X11_fails hfl E (thW σ 0) 2) mX11_fails kX11_309 (by decide : kd 327 = 10) rfl rfl rfl ⟨rfl, rfl⟩ (show zfit (zrm 0 0) 3 (zrm 2 46) = true from rfl) (Nat.le_of_ble_eq_true rfl) dX11_worstYear_36 ⟨Nat.zero_le _, Nat.zero_le _⟩ ?_
    refine zv_if_eqZ (tgt := 44) C (by omega) dX11_worstYear_39 (by decide) (fun h39 => absurd h39 (by decide)) (fun h39 => ?_)
    refine zv_iconst (v := zI 0) C dX11_worstYear_42 rfl ?_
    exact zv_iret C hr rfl dX11_worstYear_43 ⟨rfl, mK_th2 _ _ _⟩
  · skip
    refine zv_aload_n C 0 dX11_worstYear_17 rfl rfl ?_
    refine zv_iload_n C 3 dX11_worstYear_18 rfl rfl ?_
    refine zv_cviD (st := [.ref (ob E 327)]) C (c_X11_isYear hfl E (thW σ 0) σc U (b) hB hU (by omega)) mX11_isYear kX11_327 (by decide : kd 327 = 10) rfl rfl rfl ⟨rfl, rfl⟩ (show zfit (zrm 1 25) 2 (zrm 2 46) = true from rfl) (Nat.le_of_ble_eq_true rfl) dX11_worstYear_19 ⟨Nat.zero_le _, Nat.zero_le _⟩ ?_
    refine zv_if_eqB (tgt := 30) C dX11_worstYear_22 (by decide) (fun h22 => ?_) (fun h22 => ?_)
    · skip
      refine zv_iconst (v := zI 1) C dX11_worstYear_30 rfl ?_
      refine zv_goto (tgt := 35) C dX11_worstYear_31 (by decide) ?_
      refine zv_iconst (v := zI 2) C dX11_worstYear_35 rfl ?_
      refine zv_cviD (st := []) C (c1_X11_fails hfl E (thW σ 0) 2) mX11_fails kX11_309 (by decide : kd 327 = 10) rfl rfl rfl ⟨rfl, rfl⟩ (show zfit (zrm 0 0) 3 (zrm 2 46) = true from rfl) (Nat.le_of_ble_eq_true rfl) dX11_worstYear_36 ⟨Nat.zero_le _, Nat.zero_le _⟩ ?_
      refine zv_if_eqZ (tgt := 44) C (by omega) dX11_worstYear_39 (by decide) (fun h39 => absurd h39 (by decide)) (fun h39 => ?_)
      refine zv_iconst (v := zI 0) C dX11_worstYear_42 rfl ?_
      exact zv_iret C hr rfl dX11_worstYear_43 ⟨rfl, mK_th2 _ _ _⟩
    · skip
      refine zv_iload_n C 3 dX11_worstYear_25 rfl rfl ?_
      refine zv_iload_n C 2 dX11_worstYear_26 rfl rfl ?_
      refine zv_icmp_geZ (tgt := 34) C (by omega) (by omega) dX11_worstYear_27 (by decide) (fun h27 => ?_) (fun h27 => ?_)
      · skip
        refine zv_iconst (v := zI 0) C dX11_worstYear_34 rfl ?_
        refine zv_iconst (v := zI 2) C dX11_worstYear_35 rfl ?_
        exfalso
        omega
      · skip
        refine zv_iconst (v := zI 1) C dX11_worstYear_30 rfl ?_
        refine zv_goto (tgt := 35) C dX11_worstYear_31 (by decide) ?_
        refine zv_iconst (v := zI 2) C dX11_worstYear_35 rfl ?_
        refine zv_cviD (st := []) C (c1_X11_fails hfl E (thW σ 0) 2) mX11_fails kX11_309 (by decide : kd 327 = 10) rfl rfl rfl ⟨rfl, rfl⟩ (show zfit (zrm 0 0) 3 (zrm 2 46) = true from rfl) (Nat.le_of_ble_eq_true rfl) dX11_worstYear_36 ⟨Nat.zero_le _, Nat.zero_le _⟩ ?_
        refine zv_if_eqZ (tgt := 44) C (by omega) dX11_worstYear_39 (by decide) (fun h39 => absurd h39 (by decide)) (fun h39 => ?_)
        refine zv_iconst (v := zI 0) C dX11_worstYear_42 rfl ?_
        exact zv_iret C hr rfl dX11_worstYear_43 ⟨rfl, mK_th2 _ _ _⟩
set_option maxRecDepth 20000 in
theorem c_X11_revolutions {l : Launch} (hfl : l.stackTraces = false) (E : zE) (σ : zS) (σc : zS) (U : zSU) (S : zST) (i : Nat) (y : Int) (hB : zRb (gI σ 328) U) (hU : zSUp σc 29 U) (hW : zRo (gI σ 332) U.nb S) (hS : zSTp σc 34 S) (hi : i < U.nb) (hy : U.s0 ≤ y ∧ y ≤ U.s0 + 999) : zRl l E yX11_revolutions cX11_revolutions 3 (zrm 5 127) [.ref (ob E 327), .int (zI (i : Int)), .int (zI y)] σ (fun r τ => r = zL ((qPtr U S i).1 * yEnd U.s0 y / (qPtr U S i).2) ∧ mK σ τ 0) := by
  refine Met.ofW (cc := cX11_revolutions) (maxL := 3) (ret := (some .long)) (by decide +kernel) rfl ?_
  intro p e s m args below meth c s₁ B hml hv
  obtain ⟨rfl, hd⟩ := hv
  have C := zX_of (own := RX11) hfl B hml rfl hd rfl
  have hr := B.returns
  refine zV_go hd (Nat.le_of_ble_eq_true rfl) (lv := [(0, .ref (ob E 327)), (1, .int (zI (i : Int))), (2, .int (zI y))]) rfl ?_
  have hnb : U.nb ≤ 8 := hU.2.2.1
  have hs0 := hU.2.2.2.1
  have hyf := yF_e (U := U) (y := y) hs0 (by omega)
  have hqp := qPtr_b hU hS hi
  have hm := mul_b (a := yEnd U.s0 y) (b := (qPtr U S i).1) (A := 400000) (by omega) hqp.1
  refine zv_aload_n C 0 dX11_revolutions_0 rfl rfl ?_
  refine zv_iload_n C 1 dX11_revolutions_1 rfl rfl ?_
  refine zv_cviD (st := []) C (c0_X11_noBody hfl E σ σc U ((i : Int)) hB hU (by omega)) mX11_noBody kX11_319 (by decide : kd 327 = 10) rfl rfl rfl ⟨rfl, rfl⟩ (show zfit (zrm 1 25) 2 (zrm 5 127) = true from rfl) (Nat.le_of_ble_eq_true rfl) dX11_revolutions_2 ⟨Nat.zero_le _, Nat.zero_le _⟩ ?_
  refine zv_if_neZ (tgt := 17) C (by omega) dX11_revolutions_5 (by decide) (fun h5 => absurd h5 (by decide)) (fun h5 => ?_)
  refine zv_aload_n C 0 dX11_revolutions_8 rfl rfl ?_
  refine zv_iload_n C 2 dX11_revolutions_9 rfl rfl ?_
  refine zv_iconst (v := zI 2) C dX11_revolutions_10 rfl ?_
  refine zv_cviD (st := []) C (c0_X11_noYear hfl E (thW σ 0) σc U (y) 2 hB hU (by omega)) mX11_noYear kX11_330 (by decide : kd 327 = 10) rfl rfl rfl ⟨rfl, rfl⟩ (show zfit (zrm 2 46) 3 (zrm 5 127) = true from rfl) (Nat.le_of_ble_eq_true rfl) dX11_revolutions_11 ⟨Nat.zero_le _, Nat.zero_le _⟩ ?_
  refine zv_if_eqZ (tgt := 19) C (by omega) dX11_revolutions_14 (by decide) (fun h14 => ?_) (fun h14 => absurd h14 (by decide))
  refine zv_aload_n C 0 dX11_revolutions_19 rfl rfl ?_
  refine zv_iload_n C 1 dX11_revolutions_20 rfl rfl ?_
  refine zv_cvvD (st := []) C (c_X11_ratio hfl E (thW σ 0) σc U S i hB hU hW hS hi) mX11_ratio kX11_278 (by decide : kd 327 = 10) rfl rfl rfl ⟨rfl, rfl⟩ (show zfit (zrm 4 102) 6 (zrm 5 127) = true from rfl) (Nat.le_of_ble_eq_true rfl) dX11_revolutions_21 ⟨Nat.zero_le _, Nat.zero_le _⟩ ?_
  refine zv_aload_n C 0 dX11_revolutions_24 rfl rfl ?_
  refine zv_iload_n C 2 dX11_revolutions_25 rfl rfl ?_
  refine zv_cviD (st := []) C (c_X11_endNow hfl E (mW (thW σ 0) (qPtr U S i).1 (qPtr U S i).2) σc U (y) hB hU (by omega)) mX11_endNow kX11_299 (by decide : kd 327 = 10) rfl rfl rfl ⟨rfl, rfl⟩ (show zfit (zrm 1 21) 2 (zrm 5 127) = true from rfl) (Nat.le_of_ble_eq_true rfl) dX11_revolutions_26 ⟨Nat.zero_le _, Nat.zero_le _⟩ ?_
  refine zv_i2lZ C (by omega) dX11_revolutions_29 ?_
  refine zv_aload_n C 0 dX11_revolutions_30 rfl rfl ?_
  refine zG10_22 C (by decide : kd 327 = _) kX11_249 dX11_revolutions_31 ?_
  refine zv_eql (y := (zL ((qPtr U S i).1))) ((mW_r _ _ _).1) ?_
  refine zv_lmulZ C dX11_revolutions_34 ?_
  refine zv_aload_n C 0 dX11_revolutions_35 rfl rfl ?_
  refine zG10_23 C (by decide : kd 327 = _) kX11_253 dX11_revolutions_36 ?_
  refine zv_eql (y := (zL ((qPtr U S i).2))) ((mW_r _ _ _).2) ?_
  refine zv_cslD (st := []) C (c_J9_floorDiv_f86c9 hfl E (mW (thW σ 0) (qPtr U S i).1 (qPtr U S i).2) ((yEnd U.s0 (y)) * ((qPtr U S i).1)) ((qPtr U S i).2) (by omega) (by omega)) mJ9_floorDiv_f86c9 kX11_358 rfl ⟨rfl, rfl⟩ (show zfit (zrm 0 0) 6 (zrm 5 127) = true from rfl) (Nat.le_of_ble_eq_true rfl) dX11_revolutions_39 ⟨Nat.zero_le _, Nat.zero_le _⟩ ?_
  refine zv_eql (y := (zL ((qPtr U S i).1 * yEnd U.s0 y / (qPtr U S i).2))) (by rw [Int.mul_comm]) ?_
  exact zv_lret C hr dX11_revolutions_42 ⟨rfl, by first | exact mK_th _ _ | exact mK_th2 _ _ _ | exact mK_C (mK_W (mK_th _ _) _ _) _ | exact mK_W (mK_th _ _) _ _⟩
set_option maxRecDepth 20000 in
theorem x1_X11_revolutions {l : Launch} (hfl : l.stackTraces = false) (E : zE) (σ : zS) (σc : zS) (U : zSU) (y z : Int) (hB : zRb (gI σ 328) U) (hU : zSUp σc 29 U) (hy : -2147483648 ≤ y ∧ y < 2147483648) (hno : ¬ (0 ≤ y ∧ y < U.nb)) : zRl l E yX11_revolutions cX11_revolutions 3 (zrm 2 46) [.ref (ob E 327), .int (zI y), .int (zI z)] σ (fun r τ => r = zL 0 ∧ mK σ τ 1) := by
  refine Met.ofW (cc := cX11_revolutions) (maxL := 3) (ret := (some .long)) (by decide +kernel) rfl ?_
  intro p e s m args below meth c s₁ B hml hv
  obtain ⟨rfl, hd⟩ := hv
  have C := zX_of (own := RX11) hfl B hml rfl hd rfl
  have hr := B.returns
  refine zV_go hd (Nat.le_of_ble_eq_true rfl) (lv := [(0, .ref (ob E 327)), (1, .int (zI y)), (2, .int (zI z))]) rfl ?_
  have hnb : U.nb ≤ 8 := hU.2.2.1
  have hs0 := hU.2.2.2.1
  
  refine zv_aload_n C 0 dX11_revolutions_0 rfl rfl ?_
  refine zv_iload_n C 1 dX11_revolutions_1 rfl rfl ?_
  refine zv_cviD (st := []) C (c1_X11_noBody hfl E σ σc U (y) hB hU (by omega) hno) mX11_noBody kX11_319 (by decide : kd 327 = 10) rfl rfl rfl ⟨rfl, rfl⟩ (show zfit (zrm 1 25) 2 (zrm 2 46) = true from rfl) (Nat.le_of_ble_eq_true rfl) dX11_revolutions_2 ⟨Nat.zero_le _, Nat.zero_le _⟩ ?_
  refine zv_if_neZ (tgt := 17) C (by omega) dX11_revolutions_5 (by decide) (fun h5 => ?_) (fun h5 => absurd h5 (by decide))
  refine zv_lconst (v := zL 0) C dX11_revolutions_17 (by decide) ?_
  exact zv_lret C hr dX11_revolutions_18 ⟨rfl, by first | exact mK_th _ _ | exact mK_th2 _ _ _ | exact mK_C (mK_W (mK_th _ _) _ _) _ | exact mK_W (mK_th _ _) _ _⟩
set_option maxRecDepth 20000 in
theorem x2_X11_revolutions {l : Launch} (hfl : l.stackTraces = false) (E : zE) (σ : zS) (σc : zS) (U : zSU) (i : Nat) (y : Int) (hB : zRb (gI σ 328) U) (hU : zSUp σc 29 U) (hi : i < U.nb) (hy : -2147483648 ≤ y ∧ y < 2147483648) (hno : ¬ (U.s0 ≤ y ∧ y ≤ U.s0 + 999)) : zRl l E yX11_revolutions cX11_revolutions 3 (zrm 3 68) [.ref (ob E 327), .int (zI (i : Int)), .int (zI y)] σ (fun r τ => r = zL 0 ∧ mK σ τ 2) := by
  refine Met.ofW (cc := cX11_revolutions) (maxL := 3) (ret := (some .long)) (by decide +kernel) rfl ?_
  intro p e s m args below meth c s₁ B hml hv
  obtain ⟨rfl, hd⟩ := hv
  have C := zX_of (own := RX11) hfl B hml rfl hd rfl
  have hr := B.returns
  refine zV_go hd (Nat.le_of_ble_eq_true rfl) (lv := [(0, .ref (ob E 327)), (1, .int (zI (i : Int))), (2, .int (zI y))]) rfl ?_
  have hnb : U.nb ≤ 8 := hU.2.2.1
  have hs0 := hU.2.2.2.1
  
  refine zv_aload_n C 0 dX11_revolutions_0 rfl rfl ?_
  refine zv_iload_n C 1 dX11_revolutions_1 rfl rfl ?_
  refine zv_cviD (st := []) C (c0_X11_noBody hfl E σ σc U ((i : Int)) hB hU (by omega)) mX11_noBody kX11_319 (by decide : kd 327 = 10) rfl rfl rfl ⟨rfl, rfl⟩ (show zfit (zrm 1 25) 2 (zrm 3 68) = true from rfl) (Nat.le_of_ble_eq_true rfl) dX11_revolutions_2 ⟨Nat.zero_le _, Nat.zero_le _⟩ ?_
  refine zv_if_neZ (tgt := 17) C (by omega) dX11_revolutions_5 (by decide) (fun h5 => absurd h5 (by decide)) (fun h5 => ?_)
  refine zv_aload_n C 0 dX11_revolutions_8 rfl rfl ?_
  refine zv_iload_n C 2 dX11_revolutions_9 rfl rfl ?_
  refine zv_iconst (v := zI 2) C dX11_revolutions_10 rfl ?_
  refine zv_cviD (st := []) C (c1_X11_noYear hfl E (thW σ 0) σc U (y) 2 hB hU (by omega) hno) mX11_noYear kX11_330 (by decide : kd 327 = 10) rfl rfl rfl ⟨rfl, rfl⟩ (show zfit (zrm 2 46) 3 (zrm 3 68) = true from rfl) (Nat.le_of_ble_eq_true rfl) dX11_revolutions_11 ⟨Nat.zero_le _, Nat.zero_le _⟩ ?_
  refine zv_if_eqZ (tgt := 19) C (by omega) dX11_revolutions_14 (by decide) (fun h14 => absurd h14 (by decide)) (fun h14 => ?_)
  refine zv_lconst (v := zL 0) C dX11_revolutions_17 (by decide) ?_
  exact zv_lret C hr dX11_revolutions_18 ⟨rfl, mK_th2 _ _ _⟩
set_option maxRecDepth 20000 in
theorem c_X11_leapYears {l : Launch} (hfl : l.stackTraces = false) (E : zE) (σ : zS) (σc : zS) (U : zSU) (a b : Int) (hB : zRb (gI σ 328) U) (hU : zSUp σc 29 U) (ha : U.s0 ≤ a ∧ a ≤ U.s0 + 999) (hb : U.s0 ≤ b ∧ b ≤ U.s0 + 999) (hle : a ≤ b) : zRi l E yX11_leapYears cX11_leapYears 3 .int (zrm 2 46) [.ref (ob E 327), .int (zI a), .int (zI b)] σ (fun r τ => r = zI (yLp b - yLp (a - 1)) ∧ mK σ τ 0) := by
  refine Met.ofW (cc := cX11_leapYears) (maxL := 3) (ret := (some .int)) (by decide +kernel) rfl ?_
  intro p e s m args below meth c s₁ B hml hv
  obtain ⟨rfl, hd⟩ := hv
  have C := zX_of (own := RX11) hfl B hml rfl hd rfl
  have hr := B.returns
  refine zV_go hd (Nat.le_of_ble_eq_true rfl) (lv := [(0, .ref (ob E 327)), (1, .int (zI a)), (2, .int (zI b))]) rfl ?_
  have hnb : U.nb ≤ 8 := hU.2.2.1
  have hs0 := hU.2.2.2.1
  
  refine zv_aload_n C 0 dX11_leapYears_0 rfl rfl ?_
  refine zv_iconst (v := zI 0) C dX11_leapYears_1 rfl ?_
  refine zP10_10 C (by decide : kd 327 = _) kX11_50 dX11_leapYears_2 ?_
  refine zv_eqS (τ := (thW σ 0)) (rfl) ?_
  refine zv_aload_n C 0 dX11_leapYears_5 rfl rfl ?_
  refine zv_aload_n C 0 dX11_leapYears_6 rfl rfl ?_
  refine zv_iload_n C 1 dX11_leapYears_7 rfl rfl ?_
  refine zv_cviD (st := [.ref (ob E 327)]) C (c_X11_isYear hfl E (thW σ 0) σc U (a) hB hU (by omega)) mX11_isYear kX11_327 (by decide : kd 327 = 10) rfl rfl rfl ⟨rfl, rfl⟩ (show zfit (zrm 1 25) 2 (zrm 2 46) = true from rfl) (Nat.le_of_ble_eq_true rfl) dX11_leapYears_8 ⟨Nat.zero_le _, Nat.zero_le _⟩ ?_
  refine zv_if_eqB (tgt := 27) C dX11_leapYears_11 (by decide) (fun h11 => ?_) (fun h11 => ?_)
  · skip
    refine zv_iconst (v := zI 1) C dX11_leapYears_27 rfl ?_
    refine zv_goto (tgt := 32) C dX11_leapYears_28 (by decide) ?_
    refine zv_iconst (v := zI 1) C dX11_leapYears_32 rfl ?_
    exfalso
    omega
  · skip
    refine zv_aload_n C 0 dX11_leapYears_14 rfl rfl ?_
    refine zv_iload_n C 2 dX11_leapYears_15 rfl rfl ?_
    refine zv_cviD (st := [.ref (ob E 327)]) C (c_X11_isYear hfl E (thW σ 0) σc U (b) hB hU (by omega)) mX11_isYear kX11_327 (by decide : kd 327 = 10) rfl rfl rfl ⟨rfl, rfl⟩ (show zfit (zrm 1 25) 2 (zrm 2 46) = true from rfl) (Nat.le_of_ble_eq_true rfl) dX11_leapYears_16 ⟨Nat.zero_le _, Nat.zero_le _⟩ ?_
    refine zv_if_eqB (tgt := 27) C dX11_leapYears_19 (by decide) (fun h19 => ?_) (fun h19 => ?_)
    · skip
      refine zv_iconst (v := zI 1) C dX11_leapYears_27 rfl ?_
      refine zv_goto (tgt := 32) C dX11_leapYears_28 (by decide) ?_
      refine zv_iconst (v := zI 1) C dX11_leapYears_32 rfl ?_
      exfalso
      omega
    · skip
      refine zv_iload_n C 2 dX11_leapYears_22 rfl rfl ?_
      refine zv_iload_n C 1 dX11_leapYears_23 rfl rfl ?_
      refine zv_icmp_geZ (tgt := 31) C (by omega) (by omega) dX11_leapYears_24 (by decide) (fun h24 => ?_) (fun h24 => ?_)
      · skip
        refine zv_iconst (v := zI 0) C dX11_leapYears_31 rfl ?_
        refine zv_iconst (v := zI 1) C dX11_leapYears_32 rfl ?_
        refine zv_cviD (st := []) C (c0_X11_fails hfl E (thW σ 0) 1) mX11_fails kX11_309 (by decide : kd 327 = 10) rfl rfl rfl ⟨rfl, rfl⟩ (show zfit (zrm 0 0) 3 (zrm 2 46) = true from rfl) (Nat.le_of_ble_eq_true rfl) dX11_leapYears_33 ⟨Nat.zero_le _, Nat.zero_le _⟩ ?_
        refine zv_if_eqZ (tgt := 41) C (by omega) dX11_leapYears_36 (by decide) (fun h36 => ?_) (fun h36 => absurd h36 (by decide))
        refine zv_iload_n C 2 dX11_leapYears_41 rfl rfl ?_
        refine zv_iconst (v := zI 1) C dX11_leapYears_42 rfl ?_
        refine zv_iaddZ C dX11_leapYears_43 ?_
        refine zv_csiD (st := []) C (c_X11_leapsBefore hfl E (thW σ 0) (b + 1) (by omega)) mX11_leapsBefore kX11_296 rfl ⟨rfl, rfl⟩ (show zfit (zrm 0 0) 2 (zrm 2 46) = true from rfl) (Nat.le_of_ble_eq_true rfl) dX11_leapYears_44 ⟨Nat.zero_le _, Nat.zero_le _⟩ ?_
        refine zv_eqi (y := (zI (yLp b))) (by rw [show b + 1 - 1 = b by omega]) ?_
        refine zv_iload_n C 1 dX11_leapYears_47 rfl rfl ?_
        refine zv_csiD (st := [.int (zI (yLp b))]) C (c_X11_leapsBefore hfl E (thW σ 0) (a) (by omega)) mX11_leapsBefore kX11_296 rfl ⟨rfl, rfl⟩ (show zfit (zrm 0 0) 2 (zrm 2 46) = true from rfl) (Nat.le_of_ble_eq_true rfl) dX11_leapYears_48 ⟨Nat.zero_le _, Nat.zero_le _⟩ ?_
        refine zv_isubZ C dX11_leapYears_51 ?_
        exact zv_iret C hr rfl dX11_leapYears_52 ⟨rfl, by first | exact mK_th _ _ | exact mK_th2 _ _ _ | exact mK_C (mK_W (mK_th _ _) _ _) _ | exact mK_W (mK_th _ _) _ _⟩
      · skip
        refine zv_iconst (v := zI 1) C dX11_leapYears_27 rfl ?_
        refine zv_goto (tgt := 32) C dX11_leapYears_28 (by decide) ?_
        refine zv_iconst (v := zI 1) C dX11_leapYears_32 rfl ?_
        exfalso
        omega
set_option maxRecDepth 20000 in
theorem x1_X11_leapYears {l : Launch} (hfl : l.stackTraces = false) (E : zE) (σ : zS) (σc : zS) (U : zSU) (a b : Int) (hB : zRb (gI σ 328) U) (hU : zSUp σc 29 U) (har : -2147483648 ≤ a ∧ a < 2147483648) (hbr : -2147483648 ≤ b ∧ b < 2147483648) (hno : ¬ ((U.s0 ≤ a ∧ a ≤ U.s0 + 999) ∧ (U.s0 ≤ b ∧ b ≤ U.s0 + 999) ∧ a ≤ b)) : zRi l E yX11_leapYears cX11_leapYears 3 .int (zrm 2 46) [.ref (ob E 327), .int (zI a), .int (zI b)] σ (fun r τ => r = zI 0 ∧ mK σ τ 1) := by
  refine Met.ofW (cc := cX11_leapYears) (maxL := 3) (ret := (some .int)) (by decide +kernel) rfl ?_
  intro p e s m args below meth c s₁ B hml hv
  obtain ⟨rfl, hd⟩ := hv
  have C := zX_of (own := RX11) hfl B hml rfl hd rfl
  have hr := B.returns
  refine zV_go hd (Nat.le_of_ble_eq_true rfl) (lv := [(0, .ref (ob E 327)), (1, .int (zI a)), (2, .int (zI b))]) rfl ?_
  have hnb : U.nb ≤ 8 := hU.2.2.1
  have hs0 := hU.2.2.2.1
  
  refine zv_aload_n C 0 dX11_leapYears_0 rfl rfl ?_
  refine zv_iconst (v := zI 0) C dX11_leapYears_1 rfl ?_
  refine zP10_10 C (by decide : kd 327 = _) kX11_50 dX11_leapYears_2 ?_
  refine zv_eqS (τ := (thW σ 0)) (rfl) ?_
  refine zv_aload_n C 0 dX11_leapYears_5 rfl rfl ?_
  refine zv_aload_n C 0 dX11_leapYears_6 rfl rfl ?_
  refine zv_iload_n C 1 dX11_leapYears_7 rfl rfl ?_
  refine zv_cviD (st := [.ref (ob E 327)]) C (c_X11_isYear hfl E (thW σ 0) σc U (a) hB hU (by omega)) mX11_isYear kX11_327 (by decide : kd 327 = 10) rfl rfl rfl ⟨rfl, rfl⟩ (show zfit (zrm 1 25) 2 (zrm 2 46) = true from rfl) (Nat.le_of_ble_eq_true rfl) dX11_leapYears_8 ⟨Nat.zero_le _, Nat.zero_le _⟩ ?_
  refine zv_if_eqB (tgt := 27) C dX11_leapYears_11 (by decide) (fun h11 => ?_) (fun h11 => ?_)
  · skip
    refine zv_iconst (v := zI 1) C dX11_leapYears_27 rfl ?_
    refine zv_goto (tgt := 32) C dX11_leapYears_28 (by decide) ?_
    refine zv_iconst (v := zI 1) C dX11_leapYears_32 rfl ?_
    refine zv_cviD (st := []) C (c1_X11_fails hfl E (thW σ 0) 1) mX11_fails kX11_309 (by decide : kd 327 = 10) rfl rfl rfl ⟨rfl, rfl⟩ (show zfit (zrm 0 0) 3 (zrm 2 46) = true from rfl) (Nat.le_of_ble_eq_true rfl) dX11_leapYears_33 ⟨Nat.zero_le _, Nat.zero_le _⟩ ?_
    refine zv_if_eqZ (tgt := 41) C (by omega) dX11_leapYears_36 (by decide) (fun h36 => absurd h36 (by decide)) (fun h36 => ?_)
    refine zv_iconst (v := zI 0) C dX11_leapYears_39 rfl ?_
    exact zv_iret C hr rfl dX11_leapYears_40 ⟨rfl, by first | exact mK_th _ _ | exact mK_th2 _ _ _ | exact mK_C (mK_W (mK_th _ _) _ _) _ | exact mK_W (mK_th _ _) _ _⟩
  · skip
    refine zv_aload_n C 0 dX11_leapYears_14 rfl rfl ?_
    refine zv_iload_n C 2 dX11_leapYears_15 rfl rfl ?_
    refine zv_cviD (st := [.ref (ob E 327)]) C (c_X11_isYear hfl E (thW σ 0) σc U (b) hB hU (by omega)) mX11_isYear kX11_327 (by decide : kd 327 = 10) rfl rfl rfl ⟨rfl, rfl⟩ (show zfit (zrm 1 25) 2 (zrm 2 46) = true from rfl) (Nat.le_of_ble_eq_true rfl) dX11_leapYears_16 ⟨Nat.zero_le _, Nat.zero_le _⟩ ?_
    refine zv_if_eqB (tgt := 27) C dX11_leapYears_19 (by decide) (fun h19 => ?_) (fun h19 => ?_)
    · skip
      refine zv_iconst (v := zI 1) C dX11_leapYears_27 rfl ?_
      refine zv_goto (tgt := 32) C dX11_leapYears_28 (by decide) ?_
      refine zv_iconst (v := zI 1) C dX11_leapYears_32 rfl ?_
      refine zv_cviD (st := []) C (c1_X11_fails hfl E (thW σ 0) 1) mX11_fails kX11_309 (by decide : kd 327 = 10) rfl rfl rfl ⟨rfl, rfl⟩ (show zfit (zrm 0 0) 3 (zrm 2 46) = true from rfl) (Nat.le_of_ble_eq_true rfl) dX11_leapYears_33 ⟨Nat.zero_le _, Nat.zero_le _⟩ ?_
      refine zv_if_eqZ (tgt := 41) C (by omega) dX11_leapYears_36 (by decide) (fun h36 => absurd h36 (by decide)) (fun h36 => ?_)
      refine zv_iconst (v := zI 0) C dX11_leapYears_39 rfl ?_
      exact zv_iret C hr rfl dX11_leapYears_40 ⟨rfl, by first | exact mK_th _ _ | exact mK_th2 _ _ _ | exact mK_C (mK_W (mK_th _ _) _ _) _ | exact mK_W (mK_th _ _) _ _⟩
    · skip
      refine zv_iload_n C 2 dX11_leapYears_22 rfl rfl ?_
      refine zv_iload_n C 1 dX11_leapYears_23 rfl rfl ?_
      refine zv_icmp_geZ (tgt := 31) C (by omega) (by omega) dX11_leapYears_24 (by decide) (fun h24 => ?_) (fun h24 => ?_)
      · skip
        refine zv_iconst (v := zI 0) C dX11_leapYears_31 rfl ?_
        refine zv_iconst (v := zI 1) C dX11_leapYears_32 rfl ?_
        exfalso
        omega
      · skip
        refine zv_iconst (v := zI 1) C dX11_leapYears_27 rfl ?_
        refine zv_goto (tgt := 32) C dX11_leapYears_28 (by decide) ?_
        refine zv_iconst (v := zI 1) C dX11_leapYears_32 rfl ?_
        refine zv_cviD (st := []) C (c1_X11_fails hfl E (thW σ 0) 1) mX11_fails kX11_309 (by decide : kd 327 = 10) rfl rfl rfl ⟨rfl, rfl⟩ (show zfit (zrm 0 0) 3 (zrm 2 46) = true from rfl) (Nat.le_of_ble_eq_true rfl) dX11_leapYears_33 ⟨Nat.zero_le _, Nat.zero_le _⟩ ?_
        refine zv_if_eqZ (tgt := 41) C (by omega) dX11_leapYears_36 (by decide) (fun h36 => absurd h36 (by decide)) (fun h36 => ?_)
        refine zv_iconst (v := zI 0) C dX11_leapYears_39 rfl ?_
        exact zv_iret C hr rfl dX11_leapYears_40 ⟨rfl, by first | exact mK_th _ _ | exact mK_th2 _ _ _ | exact mK_C (mK_W (mK_th _ _) _ _) _ | exact mK_W (mK_th _ _) _ _⟩
set_option maxRecDepth 20000 in
theorem c_X11_isAhead {l : Launch} (hfl : l.stackTraces = false) (E : zE) (σ : zS) (σc : zS) (U : zSU) (S : zST) (i x : Nat) (y : Int) (hB : zRb (gI σ 328) U) (hU : zSUp σc 29 U) (hW : zRo (gI σ 332) U.nb S) (hS : zSTp σc 34 S) (hi : i < U.nb) (hx : x < U.nb) (hy : U.s0 - 1 ≤ y ∧ y ≤ U.s0 + 999) : zRi l E yX11_isAhead cX11_isAhead 8 .boolean (zrm 8 201) [.ref (ob E 327), .int (zI (i : Int)), .int (zI (x : Int)), .int (zI y)] σ (fun r τ => r = zB (qMs U S y i < qMs U S y x ∨ (qMs U S y i = qMs U S y x ∧ i < x)) ∧ τ = mE σ U S x (yF U y)) := by
  refine Met.ofW (cc := cX11_isAhead) (maxL := 8) (ret := (some .boolean)) (by decide +kernel) rfl ?_
  intro p e s m args below meth c s₁ B hml hv
  obtain ⟨rfl, hd⟩ := hv
  have C := zX_of (own := RX11) hfl B hml rfl hd rfl
  have hr := B.returns
  refine zV_go hd (Nat.le_of_ble_eq_true rfl) (lv := [(0, .ref (ob E 327)), (1, .int (zI (i : Int))), (2, .int (zI (x : Int))), (3, .int (zI y))]) rfl ?_
  have hnb : U.nb ≤ 8 := hU.2.2.1
  have hs0 := hU.2.2.2.1
  have hyf := yF_e (U := U) (y := y) hs0 (by omega)
  have hq1 := qErr_b hU hS hi (y := y) (by omega)
  have hq2 := qErr_b hU hS hx (y := y) (by omega)
  refine zv_aload_n C 0 dX11_isAhead_0 rfl rfl ?_
  refine zv_iload_n C 1 dX11_isAhead_1 rfl rfl ?_
  refine zv_iload_n C 3 dX11_isAhead_2 rfl rfl ?_
  refine zv_cvlD (st := []) C (c_X11_offAt hfl E σ σc U S i (y) hB hU hW hS hi (by omega)) mX11_offAt kX11_344 (by decide : kd 327 = 10) rfl rfl rfl ⟨rfl, rfl⟩ (show zfit (zrm 7 179) 3 (zrm 8 201) = true from rfl) (Nat.le_of_ble_eq_true rfl) dX11_isAhead_3 ⟨Nat.zero_le _, Nat.zero_le _⟩ ?_
  refine zv_lstore (lv' := [(4, .long (zL ((qErr U S i (y)).natAbs : Int))), (0, .ref (ob E 327)), (1, .int (zI (i : Int))), (2, .int (zI (x : Int))), (3, .int (zI y))]) C dX11_isAhead_6  (by decide) rfl ?_
  refine zv_aload_n C 1 dX11_isAhead_8 rfl rfl ?_
  refine zv_iload_n C 3 dX11_isAhead_9 rfl rfl ?_
  refine zv_iload_n C 4 dX11_isAhead_10 rfl rfl ?_
  refine zv_cvlD (st := []) C (c_X11_offAt hfl E (mE σ U S i (yF U y)) σc U S x (y) hB hU hW hS hx (by omega)) mX11_offAt kX11_344 (by decide : kd 327 = 10) rfl rfl rfl ⟨rfl, rfl⟩ (show zfit (zrm 7 179) 3 (zrm 8 201) = true from rfl) (Nat.le_of_ble_eq_true rfl) dX11_isAhead_11 ⟨Nat.zero_le _, Nat.zero_le _⟩ ?_
  refine zv_lstore (lv' := [(6, .long (zL ((qErr U S x (y)).natAbs : Int))), (4, .long (zL ((qErr U S i (y)).natAbs : Int))), (0, .ref (ob E 327)), (1, .int (zI (i : Int))), (2, .int (zI (x : Int))), (3, .int (zI y))]) C dX11_isAhead_14  (by decide) rfl ?_
  refine zv_lload C 1 dX11_isAhead_16 rfl ?_
  refine zv_lload C 0 dX11_isAhead_18 rfl ?_
  refine zv_lc_ltZ (tgt := 37) C (by omega) (by omega) dX11_isAhead_20 dX11_isAhead_21 (by decide) (fun h20 => ?_) (fun h20 => ?_)
  · skip
    refine zv_iconst (v := zI 1) C dX11_isAhead_37 rfl ?_
    refine zv_goto (tgt := 42) C dX11_isAhead_38 (by decide) ?_
    exact zv_iret C hr rfl dX11_isAhead_42 ⟨(zB_t (by unfold qMs; omega)).symm, mE_o _ _ _ _ _ _ _⟩
  · skip
    refine zv_lload C 1 dX11_isAhead_24 rfl ?_
    refine zv_lload C 0 dX11_isAhead_26 rfl ?_
    refine zv_lc_neZ (tgt := 41) C (by omega) (by omega) dX11_isAhead_28 dX11_isAhead_29 (by decide) (fun h28 => ?_) (fun h28 => ?_)
    · skip
      refine zv_iconst (v := zI 0) C dX11_isAhead_41 rfl ?_
      exact zv_iret C hr rfl dX11_isAhead_42 ⟨(zB_f (by unfold qMs; omega)).symm, mE_o _ _ _ _ _ _ _⟩
    · skip
      refine zv_iload_n C 3 dX11_isAhead_32 rfl rfl ?_
      refine zv_iload_n C 4 dX11_isAhead_33 rfl rfl ?_
      refine zv_icmp_geZ (tgt := 41) C (by omega) (by omega) dX11_isAhead_34 (by decide) (fun h34 => ?_) (fun h34 => ?_)
      · skip
        refine zv_iconst (v := zI 0) C dX11_isAhead_41 rfl ?_
        exact zv_iret C hr rfl dX11_isAhead_42 ⟨(zB_f (by unfold qMs; omega)).symm, mE_o _ _ _ _ _ _ _⟩
      · skip
        refine zv_iconst (v := zI 1) C dX11_isAhead_37 rfl ?_
        refine zv_goto (tgt := 42) C dX11_isAhead_38 (by decide) ?_
        exact zv_iret C hr rfl dX11_isAhead_42 ⟨(zB_t (by unfold qMs; omega)).symm, mE_o _ _ _ _ _ _ _⟩
set_option maxRecDepth 20000 in
theorem c_X11_ranked {l : Launch} (hfl : l.stackTraces = false) (E : zE) (σ : zS) (σc : zS) (U : zSU) (S : zST) (y : Int) (rk : Nat) (hB : zRb (gI σ 328) U) (hU : zSUp σc 29 U) (hW : zRo (gI σ 332) U.nb S) (hS : zSTp σc 34 S) (hy : U.s0 ≤ y ∧ y ≤ U.s0 + 999) (hrk : rk < U.nb) (hfi : 0 ≤ fi (dRk U S y (rk : Int)) U.nb) : zRi l E yX11_ranked cX11_ranked 6 .int (zrm 9 228) [.ref (ob E 327), .int (zI y), .int (zI (rk : Int))] σ (fun r τ => r = zI (fi (dRk U S y (rk : Int)) U.nb) ∧ mK σ τ 0) := by
  refine Met.ofW (cc := cX11_ranked) (maxL := 6) (ret := (some .int)) (by decide +kernel) rfl ?_
  intro p e s m args below meth c s₁ B hml hv
  obtain ⟨rfl, hd⟩ := hv
  have C := zX_of (own := RX11) hfl B hml rfl hd rfl
  have hr := B.returns
  refine zV_go hd (Nat.le_of_ble_eq_true rfl) (lv := [(0, .ref (ob E 327)), (1, .int (zI y)), (2, .int (zI (rk : Int)))]) rfl ?_
  have hnb : U.nb ≤ 8 := hU.2.2.1
  have hs0 := hU.2.2.2.1
  
  refine zv_aload_n C 0 dX11_ranked_0 rfl rfl ?_
  refine zv_iconst (v := zI 0) C dX11_ranked_1 rfl ?_
  refine zP10_10 C (by decide : kd 327 = _) kX11_50 dX11_ranked_2 ?_
  refine zv_eqS (τ := (thW σ 0)) (rfl) ?_
  refine zv_aload_n C 0 dX11_ranked_5 rfl rfl ?_
  refine zv_iload_n C 1 dX11_ranked_6 rfl rfl ?_
  refine zv_iconst (v := zI 1) C dX11_ranked_7 rfl ?_
  refine zv_cviD (st := []) C (c0_X11_noYear hfl E (thW σ 0) σc U (y) 1 hB hU (by omega)) mX11_noYear kX11_330 (by decide : kd 327 = 10) rfl rfl rfl ⟨rfl, rfl⟩ (show zfit (zrm 2 46) 3 (zrm 9 228) = true from rfl) (Nat.le_of_ble_eq_true rfl) dX11_ranked_8 ⟨Nat.zero_le _, Nat.zero_le _⟩ ?_
  refine zv_if_neZ (tgt := 45) C (by omega) dX11_ranked_11 (by decide) (fun h11 => absurd h11 (by decide)) (fun h11 => ?_)
  refine zv_aload_n C 0 dX11_ranked_14 rfl rfl ?_
  refine zv_iload_n C 2 dX11_ranked_15 rfl rfl ?_
  refine zv_i2lZ C (by omega) dX11_ranked_16 ?_
  refine zv_lconst (v := zL 0) C dX11_ranked_17 (by decide) ?_
  refine zv_aload_n C 0 dX11_ranked_18 rfl rfl ?_
  refine zG10_0 C (by decide : kd 327 = _) kX11_7 dX11_ranked_19 ?_
  refine zv_iconst (v := zI 0) C dX11_ranked_22 rfl ?_
  refine zv_iald (j := 0) C (by decide : kd 328 = _) (zI_ix (by omega)) (by decide) dX11_ranked_23 ?_
  refine zv_eqi (y := zI (U.nb : Int)) ((by first | exact (mK_B hK hB).1 | exact hB.1)) ?_
  refine zv_iconst (v := zI 1) C dX11_ranked_24 rfl ?_
  refine zv_isubZ C dX11_ranked_25 ?_
  refine zv_i2lZ C (by omega) dX11_ranked_26 ?_
  refine zv_csiD (st := [.ref (ob E 327)]) C (c_X11_inRange hfl E (thW σ 0) ((rk : Int)) (0) ((U.nb : Int) - 1) (by omega) (by omega) (by omega)) mX11_inRange kX11_71 rfl ⟨rfl, rfl⟩ (show zfit (zrm 0 0) 6 (zrm 9 228) = true from rfl) (Nat.le_of_ble_eq_true rfl) dX11_ranked_27 ⟨Nat.zero_le _, Nat.zero_le _⟩ ?_
  refine zv_if_neB (tgt := 37) C dX11_ranked_30 (by decide) (fun h30 => ?_) (fun h30 => ?_)
  · skip
    refine zv_iconst (v := zI 0) C dX11_ranked_37 rfl ?_
    refine zv_iconst (v := zI 2) C dX11_ranked_38 rfl ?_
    refine zv_cviD (st := []) C (c0_X11_fails hfl E (thW σ 0) 2) mX11_fails kX11_309 (by decide : kd 327 = 10) rfl rfl rfl ⟨rfl, rfl⟩ (show zfit (zrm 0 0) 3 (zrm 9 228) = true from rfl) (Nat.le_of_ble_eq_true rfl) dX11_ranked_39 ⟨Nat.zero_le _, Nat.zero_le _⟩ ?_
    refine zv_if_eqZ (tgt := 47) C (by omega) dX11_ranked_42 (by decide) (fun h42 => ?_) (fun h42 => absurd h42 (by decide))
    refine zv_iconst (v := zI 0) C dX11_ranked_47 rfl ?_
    refine zv_istore_n (lv' := [(3, .int (zI 0)), (0, .ref (ob E 327)), (1, .int (zI y)), (2, .int (zI (rk : Int)))]) C dX11_ranked_48 rfl (by decide) rfl ?_
    have q49_33 : (0 : Int) = (0 : Int) := by rfl
    refine zv_sub (lv' := [(0, .ref (ob E 327)), (1, .int (zI y)), (2, .int (zI (rk : Int))), (3, .int (zI (0 : Int)))]) [1, 2, 3, 0] (zcons rfl (zcons rfl (zcons rfl (zcons (zqI q49_33) rfl)))) ?_
    refine zv_eqS (τ := (thW σ 0)) (rfl) ?_
    refine zv_while (α := Nat × zS) (fun v => U.nb - v.1) (fun v => v.1 ≤ U.nb ∧ fi (dRk U S y (rk : Int)) v.1 = -1 ∧ mK σ v.2 0) (fun v => v.2) (fun v => [(0, .ref (ob E 327)), (1, .int (zI y)), (2, .int (zI (rk : Int))), (3, .int (zI (v.1 : Int)))]) (fun v => []) (fun v hI ih => ?_) ((0, (thW σ 0))) (⟨Nat.zero_le _, rfl, mK_th _ _⟩)
    obtain ⟨x, u⟩ := v
    dsimp only at hI ih ⊢
    obtain ⟨hX, hX2, hK⟩ := hI
    refine zv_iload_n C 3 dX11_ranked_49 rfl rfl ?_
    refine zv_aload_n C 0 dX11_ranked_50 rfl rfl ?_
    refine zG10_0 C (by decide : kd 327 = _) kX11_7 dX11_ranked_51 ?_
    refine zv_iconst (v := zI 0) C dX11_ranked_54 rfl ?_
    refine zv_iald (j := 0) C (by decide : kd 328 = _) (zI_ix (by omega)) (by decide) dX11_ranked_55 ?_
    refine zv_eqi (y := zI (U.nb : Int)) ((by first | exact (mK_B hK hB).1 | exact hB.1)) ?_
    refine zv_icmp_geZ (tgt := 123) C (by omega) (by omega) dX11_ranked_56 (by decide) (fun h56 => ?_) (fun h56 => ?_)
    · exfalso
      rw [show x = U.nb by omega] at hX2
      omega
    · skip
      refine zv_iconst (v := zI 0) C dX11_ranked_59 rfl ?_
      refine zv_istore (lv' := [(4, .int (zI 0)), (0, .ref (ob E 327)), (1, .int (zI y)), (2, .int (zI (rk : Int))), (3, .int (zI (x : Int)))]) C dX11_ranked_60  (by decide) rfl ?_
      refine zv_iconst (v := zI 0) C dX11_ranked_62 rfl ?_
      refine zv_istore (lv' := [(5, .int (zI 0)), (4, .int (zI 0)), (0, .ref (ob E 327)), (1, .int (zI y)), (2, .int (zI (rk : Int))), (3, .int (zI (x : Int)))]) C dX11_ranked_63  (by decide) rfl ?_
      have q65_55 : (0 : Int) = (0 : Int) := by rfl
      have q65_56 : (0 : Int) = (dPl (qMs U S y) x 0 : Int) := by rfl
      refine zv_sub (lv' := [(0, .ref (ob E 327)), (1, .int (zI y)), (2, .int (zI (rk : Int))), (3, .int (zI (x : Int))), (4, .int (zI (dPl (qMs U S y) x 0 : Int))), (5, .int (zI (0 : Int)))]) [2, 3, 4, 5, 1, 0] (zcons rfl (zcons rfl (zcons rfl (zcons rfl (zcons (zqI q65_56) (zcons (zqI q65_55) rfl)))))) ?_
      refine zv_eqS (τ := u) (rfl) ?_
      refine zv_while (α := Nat × zS) (fun v => U.nb - v.1) (fun v => v.1 ≤ U.nb ∧ mK σ v.2 0) (fun v => v.2) (fun v => [(0, .ref (ob E 327)), (1, .int (zI y)), (2, .int (zI (rk : Int))), (3, .int (zI (x : Int))), (4, .int (zI (dPl (qMs U S y) x v.1 : Int))), (5, .int (zI (v.1 : Int)))]) (fun v => []) (fun v hI ih65 => ?_) ((0, u)) (⟨Nat.zero_le _, hK⟩)
      obtain ⟨o, t⟩ := v
      dsimp only at hI ih65 ⊢
      obtain ⟨hO, hK⟩ := hI
      have hdl := dPl_le (qMs U S y) x o
      refine zv_iload C 5 dX11_ranked_65 rfl ?_
      refine zv_aload_n C 0 dX11_ranked_67 rfl rfl ?_
      refine zG10_0 C (by decide : kd 327 = _) kX11_7 dX11_ranked_68 ?_
      refine zv_iconst (v := zI 0) C dX11_ranked_71 rfl ?_
      refine zv_iald (j := 0) C (by decide : kd 328 = _) (zI_ix (by omega)) (by decide) dX11_ranked_72 ?_
      refine zv_eqi (y := zI (U.nb : Int)) ((by first | exact (mK_B hK hB).1 | exact hB.1)) ?_
      refine zv_icmp_geZ (tgt := 109) C (by omega) (by omega) dX11_ranked_73 (by decide) (fun h73 => ?_) (fun h73 => ?_)
      · skip
        refine zv_iload C 4 dX11_ranked_109 rfl ?_
        refine zv_iload_n C 2 dX11_ranked_111 rfl rfl ?_
        refine zv_icmp_neZ (tgt := 117) C (by omega) (by omega) dX11_ranked_112 (by decide) (fun h112 => ?_) (fun h112 => ?_)
        · skip
          refine zv_iinc (v := (zI ((x : Int) + 1))) (lv' := [(3, .int (zI ((x : Int) + 1))), (0, .ref (ob E 327)), (1, .int (zI y)), (2, .int (zI (rk : Int))), (4, .int (zI (dPl (qMs U S y) x o : Int))), (5, .int (zI (o : Int)))]) C 3 dX11_ranked_117 rfl (zI_add _ _) (by decide) rfl ?_
          refine zv_goto (tgt := 49) C dX11_ranked_120 (by decide) ?_
          have q49_78 : ((x : Int) + 1 : Int) = ((x + 1 : Nat) : Int) := by omega
          refine zv_sub (lv' := [(0, .ref (ob E 327)), (1, .int (zI y)), (2, .int (zI (rk : Int))), (3, .int (zI ((x + 1 : Nat) : Int)))]) [1, 2, 3, 0] (zcons rfl (zcons rfl (zcons rfl (zcons (zqI q49_78) rfl)))) ?_
          refine zv_eqS (τ := t) (rfl) ?_
          exact ih ((x + 1, t)) (⟨by show x + 1 ≤ U.nb; omega, fi_s hX2 (by simp only [dRk, decide_eq_true_eq]; rw [show U.nb = o by omega]; omega), hK⟩) (by show U.nb - (x + 1) < U.nb - x; omega)
        · skip
          refine zv_iload_n C 3 dX11_ranked_115 rfl rfl ?_
          exact zv_iret C hr rfl dX11_ranked_116 ⟨congrArg zI (fi_of hX2 (by simp only [dRk, decide_eq_true_eq]; rw [show U.nb = o by omega]; omega) U.nb (by omega)).symm, hK⟩
      · skip
        refine zv_iload C 4 dX11_ranked_76 rfl ?_
        refine zv_iload C 5 dX11_ranked_78 rfl ?_
        refine zv_iload_n C 3 dX11_ranked_80 rfl rfl ?_
        refine zv_icmp_eqZ (tgt := 99) C (by omega) (by omega) dX11_ranked_81 (by decide) (fun h81 => ?_) (fun h81 => ?_)
        · skip
          have hox : o = x := by omega
          refine zv_iconst (v := zI 0) C dX11_ranked_99 rfl ?_
          refine zv_iaddZ C dX11_ranked_100 ?_
          refine zv_istore (lv' := [(4, .int (zI ((dPl (qMs U S y) x o : Int) + 0))), (0, .ref (ob E 327)), (1, .int (zI y)), (2, .int (zI (rk : Int))), (3, .int (zI (x : Int))), (5, .int (zI (o : Int)))]) C dX11_ranked_101  (by decide) rfl ?_
          refine zv_iinc (v := (zI ((o : Int) + 1))) (lv' := [(5, .int (zI ((o : Int) + 1))), (4, .int (zI ((dPl (qMs U S y) x o : Int) + 0))), (0, .ref (ob E 327)), (1, .int (zI y)), (2, .int (zI (rk : Int))), (3, .int (zI (x : Int)))]) C 5 dX11_ranked_103 rfl (zI_add _ _) (by decide) rfl ?_
          refine zv_goto (tgt := 65) C dX11_ranked_106 (by decide) ?_
          have q65_97 : ((o : Int) + 1 : Int) = ((o + 1 : Nat) : Int) := by omega
          have q65_98 : ((dPl (qMs U S y) x o : Int) + 0 : Int) = (dPl (qMs U S y) x (o + 1) : Int) := by simp only [dPl]; first | (rw [if_pos h92]; omega) | (rw [if_neg h92]; omega) | (rw [if_neg (by rw [hox]; omega)]; omega)
          refine zv_sub (lv' := [(0, .ref (ob E 327)), (1, .int (zI y)), (2, .int (zI (rk : Int))), (3, .int (zI (x : Int))), (4, .int (zI (dPl (qMs U S y) x (o + 1) : Int))), (5, .int (zI ((o + 1 : Nat) : Int)))]) [2, 3, 4, 5, 1, 0] (zcons rfl (zcons rfl (zcons rfl (zcons rfl (zcons (zqI q65_98) (zcons (zqI q65_97) rfl)))))) ?_
          refine zv_eqS (τ := t) (rfl) ?_
          exact ih65 ((o + 1, t)) (⟨by show o + 1 ≤ U.nb; omega, by first | exact hK | exact mK_E hK _ _ _ _⟩) (by show U.nb - (o + 1) < U.nb - o; omega)
        · skip
          refine zv_aload_n C 0 dX11_ranked_84 rfl rfl ?_
          refine zv_iload C 5 dX11_ranked_85 rfl ?_
          refine zv_iload_n C 3 dX11_ranked_87 rfl rfl ?_
          refine zv_iload_n C 1 dX11_ranked_88 rfl rfl ?_
          refine zv_cviD (st := [.int (zI (dPl (qMs U S y) x o : Int))]) C (c_X11_isAhead hfl E t σc U S o x y (mK_B hK hB) hU (mK_R hK hW) hS (by omega) (by omega) (by omega)) mX11_isAhead kX11_349 (by decide : kd 327 = 10) rfl rfl rfl ⟨rfl, rfl⟩ (show zfit (zrm 8 201) 8 (zrm 9 228) = true from rfl) (Nat.le_of_ble_eq_true rfl) dX11_ranked_89 ⟨Nat.zero_le _, Nat.zero_le _⟩ ?_
          refine zv_if_eqB (tgt := 99) C dX11_ranked_92 (by decide) (fun h92 => ?_) (fun h92 => ?_)
          · skip
            refine zv_iconst (v := zI 0) C dX11_ranked_99 rfl ?_
            refine zv_iaddZ C dX11_ranked_100 ?_
            refine zv_istore (lv' := [(4, .int (zI ((dPl (qMs U S y) x o : Int) + 0))), (0, .ref (ob E 327)), (1, .int (zI y)), (2, .int (zI (rk : Int))), (3, .int (zI (x : Int))), (5, .int (zI (o : Int)))]) C dX11_ranked_101  (by decide) rfl ?_
            refine zv_iinc (v := (zI ((o : Int) + 1))) (lv' := [(5, .int (zI ((o : Int) + 1))), (4, .int (zI ((dPl (qMs U S y) x o : Int) + 0))), (0, .ref (ob E 327)), (1, .int (zI y)), (2, .int (zI (rk : Int))), (3, .int (zI (x : Int)))]) C 5 dX11_ranked_103 rfl (zI_add _ _) (by decide) rfl ?_
            refine zv_goto (tgt := 65) C dX11_ranked_106 (by decide) ?_
            have q65_115 : ((o : Int) + 1 : Int) = ((o + 1 : Nat) : Int) := by omega
            have q65_116 : ((dPl (qMs U S y) x o : Int) + 0 : Int) = (dPl (qMs U S y) x (o + 1) : Int) := by simp only [dPl]; first | (rw [if_pos h92]; omega) | (rw [if_neg h92]; omega) | (rw [if_neg (by rw [hox]; omega)]; omega)
            refine zv_sub (lv' := [(0, .ref (ob E 327)), (1, .int (zI y)), (2, .int (zI (rk : Int))), (3, .int (zI (x : Int))), (4, .int (zI (dPl (qMs U S y) x (o + 1) : Int))), (5, .int (zI ((o + 1 : Nat) : Int)))]) [2, 3, 4, 5, 1, 0] (zcons rfl (zcons rfl (zcons rfl (zcons rfl (zcons (zqI q65_116) (zcons (zqI q65_115) rfl)))))) ?_
            refine zv_eqS (τ := (mE t U S x (yF U y))) (rfl) ?_
            exact ih65 ((o + 1, (mE t U S x (yF U y)))) (⟨by show o + 1 ≤ U.nb; omega, by first | exact hK | exact mK_E hK _ _ _ _⟩) (by show U.nb - (o + 1) < U.nb - o; omega)
          · skip
            refine zv_iconst (v := zI 1) C dX11_ranked_95 rfl ?_
            refine zv_goto (tgt := 100) C dX11_ranked_96 (by decide) ?_
            refine zv_iaddZ C dX11_ranked_100 ?_
            refine zv_istore (lv' := [(4, .int (zI ((dPl (qMs U S y) x o : Int) + 1))), (0, .ref (ob E 327)), (1, .int (zI y)), (2, .int (zI (rk : Int))), (3, .int (zI (x : Int))), (5, .int (zI (o : Int)))]) C dX11_ranked_101  (by decide) rfl ?_
            refine zv_iinc (v := (zI ((o : Int) + 1))) (lv' := [(5, .int (zI ((o : Int) + 1))), (4, .int (zI ((dPl (qMs U S y) x o : Int) + 1))), (0, .ref (ob E 327)), (1, .int (zI y)), (2, .int (zI (rk : Int))), (3, .int (zI (x : Int)))]) C 5 dX11_ranked_103 rfl (zI_add _ _) (by decide) rfl ?_
            refine zv_goto (tgt := 65) C dX11_ranked_106 (by decide) ?_
            have q65_127 : ((o : Int) + 1 : Int) = ((o + 1 : Nat) : Int) := by omega
            have q65_128 : ((dPl (qMs U S y) x o : Int) + 1 : Int) = (dPl (qMs U S y) x (o + 1) : Int) := by simp only [dPl]; first | (rw [if_pos h92]; omega) | (rw [if_neg h92]; omega) | (rw [if_neg (by rw [hox]; omega)]; omega)
            refine zv_sub (lv' := [(0, .ref (ob E 327)), (1, .int (zI y)), (2, .int (zI (rk : Int))), (3, .int (zI (x : Int))), (4, .int (zI (dPl (qMs U S y) x (o + 1) : Int))), (5, .int (zI ((o + 1 : Nat) : Int)))]) [2, 3, 4, 5, 1, 0] (zcons rfl (zcons rfl (zcons rfl (zcons rfl (zcons (zqI q65_128) (zcons (zqI q65_127) rfl)))))) ?_
            refine zv_eqS (τ := (mE t U S x (yF U y))) (rfl) ?_
            exact ih65 ((o + 1, (mE t U S x (yF U y)))) (⟨by show o + 1 ≤ U.nb; omega, by first | exact hK | exact mK_E hK _ _ _ _⟩) (by show U.nb - (o + 1) < U.nb - o; omega)
  · skip
    refine zv_iconst (v := zI 1) C dX11_ranked_33 rfl ?_
    refine zv_goto (tgt := 38) C dX11_ranked_34 (by decide) ?_
    refine zv_iconst (v := zI 2) C dX11_ranked_38 rfl ?_
    exfalso
    omega
set_option maxRecDepth 20000 in
theorem x1_X11_ranked {l : Launch} (hfl : l.stackTraces = false) (E : zE) (σ : zS) (σc : zS) (U : zSU) (y z : Int) (hB : zRb (gI σ 328) U) (hU : zSUp σc 29 U) (hy : -2147483648 ≤ y ∧ y < 2147483648) (hno : ¬ (U.s0 ≤ y ∧ y ≤ U.s0 + 999)) : zRi l E yX11_ranked cX11_ranked 6 .int (zrm 3 68) [.ref (ob E 327), .int (zI y), .int (zI z)] σ (fun r τ => r = zI 0 ∧ mK σ τ 1) := by
  refine Met.ofW (cc := cX11_ranked) (maxL := 6) (ret := (some .int)) (by decide +kernel) rfl ?_
  intro p e s m args below meth c s₁ B hml hv
  obtain ⟨rfl, hd⟩ := hv
  have C := zX_of (own := RX11) hfl B hml rfl hd rfl
  have hr := B.returns
  refine zV_go hd (Nat.le_of_ble_eq_true rfl) (lv := [(0, .ref (ob E 327)), (1, .int (zI y)), (2, .int (zI z))]) rfl ?_
  have hnb : U.nb ≤ 8 := hU.2.2.1
  have hs0 := hU.2.2.2.1
  
  refine zv_aload_n C 0 dX11_ranked_0 rfl rfl ?_
  refine zv_iconst (v := zI 0) C dX11_ranked_1 rfl ?_
  refine zP10_10 C (by decide : kd 327 = _) kX11_50 dX11_ranked_2 ?_
  refine zv_eqS (τ := (thW σ 0)) (rfl) ?_
  refine zv_aload_n C 0 dX11_ranked_5 rfl rfl ?_
  refine zv_iload_n C 1 dX11_ranked_6 rfl rfl ?_
  refine zv_iconst (v := zI 1) C dX11_ranked_7 rfl ?_
  refine zv_cviD (st := []) C (c1_X11_noYear hfl E (thW σ 0) σc U (y) 1 hB hU (by omega) hno) mX11_noYear kX11_330 (by decide : kd 327 = 10) rfl rfl rfl ⟨rfl, rfl⟩ (show zfit (zrm 2 46) 3 (zrm 3 68) = true from rfl) (Nat.le_of_ble_eq_true rfl) dX11_ranked_8 ⟨Nat.zero_le _, Nat.zero_le _⟩ ?_
  refine zv_if_neZ (tgt := 45) C (by omega) dX11_ranked_11 (by decide) (fun h11 => ?_) (fun h11 => absurd h11 (by decide))
  refine zv_iconst (v := zI 0) C dX11_ranked_45 rfl ?_
  exact zv_iret C hr rfl dX11_ranked_46 ⟨rfl, by first | exact mK_th _ _ | exact mK_th2 _ _ _ | exact mK_C (mK_W (mK_th _ _) _ _) _ | exact mK_W (mK_th _ _) _ _⟩
set_option maxRecDepth 20000 in
theorem x2_X11_ranked {l : Launch} (hfl : l.stackTraces = false) (E : zE) (σ : zS) (σc : zS) (U : zSU) (y z : Int) (hB : zRb (gI σ 328) U) (hU : zSUp σc 29 U) (hy : U.s0 ≤ y ∧ y ≤ U.s0 + 999) (hz : -2147483648 ≤ z ∧ z < 2147483648) (hno : ¬ (0 ≤ z ∧ z < U.nb)) : zRi l E yX11_ranked cX11_ranked 6 .int (zrm 3 68) [.ref (ob E 327), .int (zI y), .int (zI z)] σ (fun r τ => r = zI 0 ∧ mK σ τ 2) := by
  refine Met.ofW (cc := cX11_ranked) (maxL := 6) (ret := (some .int)) (by decide +kernel) rfl ?_
  intro p e s m args below meth c s₁ B hml hv
  obtain ⟨rfl, hd⟩ := hv
  have C := zX_of (own := RX11) hfl B hml rfl hd rfl
  have hr := B.returns
  refine zV_go hd (Nat.le_of_ble_eq_true rfl) (lv := [(0, .ref (ob E 327)), (1, .int (zI y)), (2, .int (zI z))]) rfl ?_
  have hnb : U.nb ≤ 8 := hU.2.2.1
  have hs0 := hU.2.2.2.1
  
  refine zv_aload_n C 0 dX11_ranked_0 rfl rfl ?_
  refine zv_iconst (v := zI 0) C dX11_ranked_1 rfl ?_
  refine zP10_10 C (by decide : kd 327 = _) kX11_50 dX11_ranked_2 ?_
  refine zv_eqS (τ := (thW σ 0)) (rfl) ?_
  refine zv_aload_n C 0 dX11_ranked_5 rfl rfl ?_
  refine zv_iload_n C 1 dX11_ranked_6 rfl rfl ?_
  refine zv_iconst (v := zI 1) C dX11_ranked_7 rfl ?_
  refine zv_cviD (st := []) C (c0_X11_noYear hfl E (thW σ 0) σc U (y) 1 hB hU (by omega)) mX11_noYear kX11_330 (by decide : kd 327 = 10) rfl rfl rfl ⟨rfl, rfl⟩ (show zfit (zrm 2 46) 3 (zrm 3 68) = true from rfl) (Nat.le_of_ble_eq_true rfl) dX11_ranked_8 ⟨Nat.zero_le _, Nat.zero_le _⟩ ?_
  refine zv_if_neZ (tgt := 45) C (by omega) dX11_ranked_11 (by decide) (fun h11 => absurd h11 (by decide)) (fun h11 => ?_)
  refine zv_aload_n C 0 dX11_ranked_14 rfl rfl ?_
  refine zv_iload_n C 2 dX11_ranked_15 rfl rfl ?_
  refine zv_i2lZ C (by omega) dX11_ranked_16 ?_
  refine zv_lconst (v := zL 0) C dX11_ranked_17 (by decide) ?_
  refine zv_aload_n C 0 dX11_ranked_18 rfl rfl ?_
  refine zG10_0 C (by decide : kd 327 = _) kX11_7 dX11_ranked_19 ?_
  refine zv_iconst (v := zI 0) C dX11_ranked_22 rfl ?_
  refine zv_iald (j := 0) C (by decide : kd 328 = _) (zI_ix (by omega)) (by decide) dX11_ranked_23 ?_
  refine zv_eqi (y := zI (U.nb : Int)) (hB.1) ?_
  refine zv_iconst (v := zI 1) C dX11_ranked_24 rfl ?_
  refine zv_isubZ C dX11_ranked_25 ?_
  refine zv_i2lZ C (by omega) dX11_ranked_26 ?_
  refine zv_csiD (st := [.ref (ob E 327)]) C (c_X11_inRange hfl E (thW σ 0) (z) (0) ((U.nb : Int) - 1) (by omega) (by omega) (by omega)) mX11_inRange kX11_71 rfl ⟨rfl, rfl⟩ (show zfit (zrm 0 0) 6 (zrm 3 68) = true from rfl) (Nat.le_of_ble_eq_true rfl) dX11_ranked_27 ⟨Nat.zero_le _, Nat.zero_le _⟩ ?_
  refine zv_if_neB (tgt := 37) C dX11_ranked_30 (by decide) (fun h30 => ?_) (fun h30 => ?_)
  · skip
    refine zv_iconst (v := zI 0) C dX11_ranked_37 rfl ?_
    refine zv_iconst (v := zI 2) C dX11_ranked_38 rfl ?_
    exfalso
    omega
  · skip
    refine zv_iconst (v := zI 1) C dX11_ranked_33 rfl ?_
    refine zv_goto (tgt := 38) C dX11_ranked_34 (by decide) ?_
    refine zv_iconst (v := zI 2) C dX11_ranked_38 rfl ?_
    refine zv_cviD (st := []) C (c1_X11_fails hfl E (thW σ 0) 2) mX11_fails kX11_309 (by decide : kd 327 = 10) rfl rfl rfl ⟨rfl, rfl⟩ (show zfit (zrm 0 0) 3 (zrm 3 68) = true from rfl) (Nat.le_of_ble_eq_true rfl) dX11_ranked_39 ⟨Nat.zero_le _, Nat.zero_le _⟩ ?_
    refine zv_if_eqZ (tgt := 47) C (by omega) dX11_ranked_42 (by decide) (fun h42 => absurd h42 (by decide)) (fun h42 => ?_)
    refine zv_iconst (v := zI 0) C dX11_ranked_45 rfl ?_
    exact zv_iret C hr rfl dX11_ranked_46 ⟨rfl, mK_th2 _ _ _⟩
