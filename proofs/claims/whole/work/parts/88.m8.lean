/-! the reference's numbers, parts, stock -/
theorem sHas_g {f : Nat → Nat} {t : Int} {j : Nat} (h : sHas f t j = false) (g : ¬ (f j : Int) = t) : sHas f t (j + 1) = false := by
  rw [sHas, h, Bool.false_or]
  exact decide_eq_false g
set_option maxRecDepth 20000 in
theorem c_X11_hasStock {l : Launch} (hfl : l.stackTraces = false) (E : zE) (σ : zS) (nb : Nat) (S : zST) (y : Int) (hW : zRo (gI σ 332) nb S) (hn : S.n ≤ 16) (hf : ∀ i, i < S.n → S.f i ≤ 1000) (hy : -2147483648 ≤ y ∧ y < 2147483648) : zRi l E yX11_hasStock cX11_hasStock 3 .boolean (zrm 0 0) [.ref (ob E 327), .int (zI y)] σ (fun r τ => r = zB (sHas S.f y S.n = true) ∧ τ = σ) := by
  refine Met.ofW (cc := cX11_hasStock) (maxL := 3) (ret := (some .boolean)) (by decide +kernel) rfl ?_
  intro p e s m args below meth c s₁ B hml hv
  obtain ⟨rfl, hd⟩ := hv
  have C := zX_of (own := RX11) hfl B hml rfl hd rfl
  have hr := B.returns
  refine zV_go hd (Nat.le_of_ble_eq_true rfl) (lv := [(0, .ref (ob E 327)), (1, .int (zI y))]) rfl ?_
  refine zv_iconst (v := zI 0) C dX11_hasStock_0 rfl ?_
  refine zv_istore_n (lv' := [(2, .int (zI 0)), (0, .ref (ob E 327)), (1, .int (zI y))]) C dX11_hasStock_1 rfl (by decide) rfl ?_
  have q2_2 : (0 : Int) = (0 : Int) := by first | rfl | omega
  refine zv_sub (lv' := [(0, .ref (ob E 327)), (1, .int (zI y)), (2, .int (zI (0 : Int)))]) [1, 2, 0] (zcons rfl (zcons rfl (zcons (zqI q2_2) rfl))) ?_
  refine zv_while (α := Nat) (fun v => S.n - v) (fun v => v ≤ S.n ∧ sHas S.f y v = false) (fun v => σ) (fun v => [(0, .ref (ob E 327)), (1, .int (zI y)), (2, .int (zI (v : Int)))]) (fun v => []) (fun j hI ih => ?_) (0) (⟨Nat.zero_le _, rfl⟩)
  obtain ⟨hI, hI2⟩ := hI
  refine zv_iload_n C 2 dX11_hasStock_2 rfl rfl ?_
  refine zv_aload_n C 0 dX11_hasStock_3 rfl rfl ?_
  refine zG10_4 C (by decide : kd 327 = _) kX11_22 dX11_hasStock_4 ?_
  refine zv_iconst (v := zI 0) C dX11_hasStock_7 rfl ?_
  refine zv_iald (j := 0) C (by decide : kd 332 = _) (zI_ix (by omega)) (by decide) dX11_hasStock_8 ?_
  refine zv_eqi (y := zI (S.n : Int)) (hW.1) ?_
  refine zv_icmp_geZ (tgt := 32) C (by omega) (by omega) dX11_hasStock_9 (by decide) (fun h9 => ?_) (fun h9 => ?_)
  · skip
    refine zv_iconst (v := zI 0) C dX11_hasStock_32 rfl ?_
    exact zv_iret C hr rfl dX11_hasStock_33 ⟨(zB_f (by rw [← show j = S.n by omega, hI2]; decide)).symm, rfl⟩
  · skip
    have hfj := hf j (by omega)
    refine zv_aload_n C 0 dX11_hasStock_12 rfl rfl ?_
    refine zG10_4 C (by decide : kd 327 = _) kX11_22 dX11_hasStock_13 ?_
    refine zv_iconst (v := zI 1) C dX11_hasStock_16 rfl ?_
    refine zv_iload_n C 2 dX11_hasStock_17 rfl rfl ?_
    refine zv_iaddZ C dX11_hasStock_18 ?_
    refine zv_iald (j := 1 + j) C (by decide : kd 332 = _) (zI_ix (by omega)) (Nat.lt_of_lt_of_eq (show 1 + j < 131 by omega) (by decide)) dX11_hasStock_19 ?_
    refine zv_eqi (y := (zI (S.f j : Int))) (hW.2.1 j (by omega)) ?_
    refine zv_iload_n C 1 dX11_hasStock_20 rfl rfl ?_
    refine zv_icmp_neZ (tgt := 26) C (by omega) (by omega) dX11_hasStock_21 (by decide) (fun h21 => ?_) (fun h21 => ?_)
    · skip
      refine zv_iinc (v := (zI ((j : Int) + 1))) (lv' := [(2, .int (zI ((j : Int) + 1))), (0, .ref (ob E 327)), (1, .int (zI y))]) C 2 dX11_hasStock_26 rfl (zI_add _ _) (by decide) rfl ?_
      refine zv_goto (tgt := 2) C dX11_hasStock_29 (by decide) ?_
      have q2_30 : ((j : Int) + 1 : Int) = ((j + 1 : Nat) : Int) := by first | rfl | omega
      refine zv_sub (lv' := [(0, .ref (ob E 327)), (1, .int (zI y)), (2, .int (zI ((j + 1 : Nat) : Int)))]) [1, 2, 0] (zcons rfl (zcons rfl (zcons (zqI q2_30) rfl))) ?_
      exact ih (j + 1) (⟨by omega, sHas_g hI2 h21⟩) (by omega)
    · skip
      refine zv_iconst (v := zI 1) C dX11_hasStock_24 rfl ?_
      exact zv_iret C hr rfl dX11_hasStock_25 ⟨(zB_t ((sHas_iff _ _ _).mpr ⟨j, by omega, by omega⟩)).symm, rfl⟩
set_option maxRecDepth 20000 in
theorem c_X11_allTeeth {l : Launch} (hfl : l.stackTraces = false) (E : zE) (σ : zS) (σc : zS) (U : zSU) (S : zST) (hB : zRb (gI σ 328) U) (hU : zSUp σc 29 U) (hW : zRo (gI σ 332) U.nb S) (hS : zSTp σc 34 S) : zRi l E yX11_allTeeth cX11_allTeeth 3 .int (zrm 3 67) [.ref (ob E 327)] σ (fun r τ => r = zI (qTeeth S U.nb : Int) ∧ τ = σ) := by
  refine Met.ofW (cc := cX11_allTeeth) (maxL := 3) (ret := (some .int)) (by decide +kernel) rfl ?_
  intro p e s m args below meth c s₁ B hml hv
  obtain ⟨rfl, hd⟩ := hv
  have C := zX_of (own := RX11) hfl B hml rfl hd rfl
  have hr := B.returns
  refine zV_go hd (Nat.le_of_ble_eq_true rfl) (lv := [(0, .ref (ob E 327))]) rfl ?_
  have hnb : U.nb ≤ 8 := hU.2.2.1
  have hs0 := hU.2.2.2.1
  
  refine zv_iconst (v := zI 0) C dX11_allTeeth_0 rfl ?_
  refine zv_istore_n (lv' := [(1, .int (zI 0)), (0, .ref (ob E 327))]) C dX11_allTeeth_1 rfl (by decide) rfl ?_
  refine zv_iconst (v := zI 0) C dX11_allTeeth_2 rfl ?_
  refine zv_istore_n (lv' := [(2, .int (zI 0)), (1, .int (zI 0)), (0, .ref (ob E 327))]) C dX11_allTeeth_3 rfl (by decide) rfl ?_
  have q4_7 : (0 : Int) = (0 : Int) := by first | rfl | omega
  have q4_8 : (0 : Int) = (qTeeth S 0 : Int) := by first | rfl | omega
  refine zv_sub (lv' := [(0, .ref (ob E 327)), (1, .int (zI (qTeeth S 0 : Int))), (2, .int (zI (0 : Int)))]) [2, 1, 0] (zcons rfl (zcons (zqI q4_8) (zcons (zqI q4_7) rfl))) ?_
  refine zv_while (α := Nat) (fun v => U.nb - v) (fun v => v ≤ U.nb) (fun v => σ) (fun v => [(0, .ref (ob E 327)), (1, .int (zI (qTeeth S v : Int))), (2, .int (zI (v : Int)))]) (fun v => []) (fun j hI ih => ?_) (0) (by omega)
  refine zv_iload_n C 2 dX11_allTeeth_4 rfl rfl ?_
  refine zv_aload_n C 0 dX11_allTeeth_5 rfl rfl ?_
  refine zG10_0 C (by decide : kd 327 = _) kX11_7 dX11_allTeeth_6 ?_
  refine zv_iconst (v := zI 0) C dX11_allTeeth_9 rfl ?_
  refine zv_iald (j := 0) C (by decide : kd 328 = _) (zI_ix (by omega)) (by decide) dX11_allTeeth_10 ?_
  refine zv_eqi (y := zI (U.nb : Int)) (hB.1) ?_
  refine zv_icmp_geZ (tgt := 28) C (by omega) (by omega) dX11_allTeeth_11 (by decide) (fun h11 => ?_) (fun h11 => ?_)
  · skip
    refine zv_iload_n C 1 dX11_allTeeth_28 rfl rfl ?_
    exact zv_iret C hr rfl dX11_allTeeth_29 ⟨by rw [show j = U.nb by omega], rfl⟩
  · skip
    have hTj := hS.2.2.2.2.2.2 j (by omega)
    refine zv_iload_n C 1 dX11_allTeeth_14 rfl rfl ?_
    refine zv_aload_n C 0 dX11_allTeeth_15 rfl rfl ?_
    refine zv_iload_n C 2 dX11_allTeeth_16 rfl rfl ?_
    refine zv_cviD (st := [.int (zI (qTeeth S j : Int))]) C (c_X11_teethOf hfl E σ U.nb S j hW (by omega) hTj.1.2.1 (fun q w a b => hTj.1.2.2.2 q w a b)) mX11_teethOf kX11_313 (by decide : kd 327 = 10) rfl rfl rfl ⟨rfl, rfl⟩ (show zfit (zrm 2 44) 4 (zrm 3 67) = true from rfl) (Nat.le_of_ble_eq_true rfl) dX11_allTeeth_17 ⟨Nat.zero_le _, Nat.zero_le _⟩ ?_
    refine zv_iaddZ C dX11_allTeeth_20 ?_
    refine zv_istore_n (lv' := [(1, .int (zI ((qTeeth S j : Int) + (tTe (S.tr j) (S.tn j) : Int)))), (0, .ref (ob E 327)), (2, .int (zI (j : Int)))]) C dX11_allTeeth_21 rfl (by decide) rfl ?_
    refine zv_iinc (v := (zI ((j : Int) + 1))) (lv' := [(2, .int (zI ((j : Int) + 1))), (1, .int (zI ((qTeeth S j : Int) + (tTe (S.tr j) (S.tn j) : Int)))), (0, .ref (ob E 327))]) C 2 dX11_allTeeth_22 rfl (zI_add _ _) (by decide) rfl ?_
    refine zv_goto (tgt := 4) C dX11_allTeeth_25 (by decide) ?_
    have q4_31 : ((j : Int) + 1 : Int) = ((j + 1 : Nat) : Int) := by first | rfl | omega
    have q4_32 : ((qTeeth S j : Int) + (tTe (S.tr j) (S.tn j) : Int) : Int) = (qTeeth S (j + 1) : Int) := by rw [qTeeth]; omega
    refine zv_sub (lv' := [(0, .ref (ob E 327)), (1, .int (zI (qTeeth S (j + 1) : Int))), (2, .int (zI ((j + 1 : Nat) : Int)))]) [2, 1, 0] (zcons rfl (zcons (zqI q4_32) (zcons (zqI q4_31) rfl))) ?_
    exact ih (j + 1) (by omega) (by omega)
set_option maxRecDepth 20000 in
theorem c_X11_count {l : Launch} (hfl : l.stackTraces = false) (E : zE) (σ : zS) (σc : zS) (U : zSU) (S : zST) (q : Nat) (y : Int) (hB : zRb (gI σ 328) U) (hU : zSUp σc 29 U) (hW : zRo (gI σ 332) U.nb S) (hS : zSTp σc 34 S) (hq : gI σ 327 8 = zI (q : Int)) (hy : 0 ≤ y ∧ y ≤ 6) : zRi l E yX11_count cX11_count 2 .int (zrm 4 89) [.ref (ob E 327), .int (zI y)] σ (fun r τ => r = zI (dCnt U S q y) ∧ mK σ τ 0) := by
  refine Met.ofW (cc := cX11_count) (maxL := 2) (ret := (some .int)) (by decide +kernel) rfl ?_
  intro p e s m args below meth c s₁ B hml hv
  obtain ⟨rfl, hd⟩ := hv
  have C := zX_of (own := RX11) hfl B hml rfl hd rfl
  have hr := B.returns
  refine zV_go hd (Nat.le_of_ble_eq_true rfl) (lv := [(0, .ref (ob E 327)), (1, .int (zI y))]) rfl ?_
  have hnb : U.nb ≤ 8 := hU.2.2.1
  have hs0 := hU.2.2.2.1
  
  refine zv_aload_n C 0 dX11_count_0 rfl rfl ?_
  refine zv_iconst (v := zI 0) C dX11_count_1 rfl ?_
  refine zP10_10 C (by decide : kd 327 = _) kX11_50 dX11_count_2 ?_
  refine zv_eqS (τ := (thW σ 0)) (rfl) ?_
  refine zv_iload_n C 1 dX11_count_5 rfl rfl ?_
  have hx6 : (zI y).toInt = y := zI_toInt (by omega)
  rcases (show (y = 0) ∨ (y = 1) ∨ (y = 2) ∨ (y = 3) ∨ (y = 4) ∨ (y = 5) ∨ (y = 6) ∨ (y < 0 ∨ 6 < y) by omega) with h6 | h6 | h6 | h6 | h6 | h6 | h6 | h6
  · skip
    refine zv_tsIn (off := 42) (tgt := 48) C dX11_count_6 (by rw [hx6]; omega) (by rw [hx6]; omega) (by rw [hx6, h6]; rfl) (by decide) ?_
    refine zv_aload_n C 0 dX11_count_48 rfl rfl ?_
    refine zG10_0 C (by decide : kd 327 = _) kX11_7 dX11_count_49 ?_
    refine zv_iconst (v := zI 0) C dX11_count_52 rfl ?_
    refine zv_iald (j := 0) C (by decide : kd 328 = _) (zI_ix (by omega)) (by decide) dX11_count_53 ?_
    refine zv_eqi (y := zI (U.nb : Int)) (hB.1) ?_
    exact zv_iret C hr rfl dX11_count_54 ⟨by simp [dCnt, h6], mK_th _ _⟩
  · skip
    refine zv_tsIn (off := 49) (tgt := 55) C dX11_count_6 (by rw [hx6]; omega) (by rw [hx6]; omega) (by rw [hx6, h6]; rfl) (by decide) ?_
    refine zv_aload_n C 0 dX11_count_55 rfl rfl ?_
    refine zG10_4 C (by decide : kd 327 = _) kX11_22 dX11_count_56 ?_
    refine zv_iconst (v := zI 0) C dX11_count_59 rfl ?_
    refine zv_iald (j := 0) C (by decide : kd 332 = _) (zI_ix (by omega)) (by decide) dX11_count_60 ?_
    refine zv_eqi (y := zI (S.n : Int)) (hW.1) ?_
    exact zv_iret C hr rfl dX11_count_61 ⟨by simp [dCnt, h6], mK_th _ _⟩
  · skip
    refine zv_tsIn (off := 56) (tgt := 62) C dX11_count_6 (by rw [hx6]; omega) (by rw [hx6]; omega) (by rw [hx6, h6]; rfl) (by decide) ?_
    refine zv_aload_n C 0 dX11_count_62 rfl rfl ?_
    refine zG10_0 C (by decide : kd 327 = _) kX11_7 dX11_count_63 ?_
    refine zv_iconst (v := zI 1) C dX11_count_66 rfl ?_
    refine zv_iald (j := 1) C (by decide : kd 328 = _) (zI_ix (by omega)) (by decide) dX11_count_67 ?_
    refine zv_eqi (y := zI U.s0) (hB.2.1) ?_
    exact zv_iret C hr rfl dX11_count_68 ⟨by simp [dCnt, h6], mK_th _ _⟩
  · skip
    refine zv_tsIn (off := 63) (tgt := 69) C dX11_count_6 (by rw [hx6]; omega) (by rw [hx6]; omega) (by rw [hx6, h6]; rfl) (by decide) ?_
    refine zv_aload_n C 0 dX11_count_69 rfl rfl ?_
    refine zG10_4 C (by decide : kd 327 = _) kX11_22 dX11_count_70 ?_
    refine zv_bipush (v := zI 17) C dX11_count_73 (by decide) ?_
    refine zv_iald (j := 17) C (by decide : kd 332 = _) (zI_ix (by omega)) (by decide) dX11_count_75 ?_
    refine zv_eqi (y := zI (S.sl : Int)) (hW.2.2.1) ?_
    exact zv_iret C hr rfl dX11_count_76 ⟨by simp [dCnt, h6], mK_th _ _⟩
  · skip
    refine zv_tsIn (off := 71) (tgt := 77) C dX11_count_6 (by rw [hx6]; omega) (by rw [hx6]; omega) (by rw [hx6, h6]; rfl) (by decide) ?_
    refine zv_aload_n C 0 dX11_count_77 rfl rfl ?_
    refine zG10_4 C (by decide : kd 327 = _) kX11_22 dX11_count_78 ?_
    refine zv_bipush (v := zI 18) C dX11_count_81 (by decide) ?_
    refine zv_iald (j := 18) C (by decide : kd 332 = _) (zI_ix (by omega)) (by decide) dX11_count_83 ?_
    refine zv_eqi (y := zI (S.dy : Int)) (hW.2.2.2.1) ?_
    exact zv_iret C hr rfl dX11_count_84 ⟨by simp [dCnt, h6], mK_th _ _⟩
  · skip
    refine zv_tsIn (off := 79) (tgt := 85) C dX11_count_6 (by rw [hx6]; omega) (by rw [hx6]; omega) (by rw [hx6, h6]; rfl) (by decide) ?_
    refine zv_aload_n C 0 dX11_count_85 rfl rfl ?_
    refine zG10_8 C (by decide : kd 327 = _) kX11_57 dX11_count_86 ?_
    refine zv_eqi (y := zI (q : Int)) (hq) ?_
    exact zv_iret C hr rfl dX11_count_89 ⟨by simp [dCnt, h6], mK_th _ _⟩
  · skip
    refine zv_tsIn (off := 84) (tgt := 90) C dX11_count_6 (by rw [hx6]; omega) (by rw [hx6]; omega) (by rw [hx6, h6]; rfl) (by decide) ?_
    refine zv_aload_n C 0 dX11_count_90 rfl rfl ?_
    refine zv_cviD (st := []) C (c_X11_allTeeth hfl E (thW σ 0) σc U S hB hU hW hS) mX11_allTeeth kX11_316 (by decide : kd 327 = 10) rfl rfl rfl ⟨rfl, rfl⟩ (show zfit (zrm 3 67) 3 (zrm 4 89) = true from rfl) (Nat.le_of_ble_eq_true rfl) dX11_count_91 ⟨Nat.zero_le _, Nat.zero_le _⟩ ?_
    exact zv_iret C hr rfl dX11_count_94 ⟨by simp [dCnt, h6], mK_th _ _⟩
  · exfalso
    omega
set_option maxRecDepth 20000 in
theorem x1_X11_count {l : Launch} (hfl : l.stackTraces = false) (E : zE) (σ : zS) (y : Int) (hy : -2147483648 ≤ y ∧ y < 2147483648) (hno : ¬ (0 ≤ y ∧ y ≤ 6)) : zRi l E yX11_count cX11_count 2 .int (zrm 1 22) [.ref (ob E 327), .int (zI y)] σ (fun r τ => r = zI 0 ∧ mK σ τ 1) := by
  refine Met.ofW (cc := cX11_count) (maxL := 2) (ret := (some .int)) (by decide +kernel) rfl ?_
  intro p e s m args below meth c s₁ B hml hv
  obtain ⟨rfl, hd⟩ := hv
  have C := zX_of (own := RX11) hfl B hml rfl hd rfl
  have hr := B.returns
  refine zV_go hd (Nat.le_of_ble_eq_true rfl) (lv := [(0, .ref (ob E 327)), (1, .int (zI y))]) rfl ?_
  refine zv_aload_n C 0 dX11_count_0 rfl rfl ?_
  refine zv_iconst (v := zI 0) C dX11_count_1 rfl ?_
  refine zP10_10 C (by decide : kd 327 = _) kX11_50 dX11_count_2 ?_
  refine zv_eqS (τ := (thW σ 0)) (rfl) ?_
  refine zv_iload_n C 1 dX11_count_5 rfl rfl ?_
  have hx6 : (zI y).toInt = y := zI_toInt (by omega)
  rcases (show (y = 0) ∨ (y = 1) ∨ (y = 2) ∨ (y = 3) ∨ (y = 4) ∨ (y = 5) ∨ (y = 6) ∨ (y < 0 ∨ 6 < y) by omega) with h6 | h6 | h6 | h6 | h6 | h6 | h6 | h6
  · exfalso
    omega
  · exfalso
    omega
  · exfalso
    omega
  · exfalso
    omega
  · exfalso
    omega
  · exfalso
    omega
  · exfalso
    omega
  · skip
    refine zv_tsOut (tgt := 95) C dX11_count_6 (by rw [hx6]; omega) (by decide) ?_
    refine zv_aload_n C 0 dX11_count_95 rfl rfl ?_
    refine zv_iconst (v := zI 1) C dX11_count_96 rfl ?_
    refine zv_iconst (v := zI 1) C dX11_count_97 rfl ?_
    refine zv_cviD (st := []) C (c1_X11_fails hfl E (thW σ 0) 1) mX11_fails kX11_309 (by decide : kd 327 = 10) rfl rfl rfl ⟨rfl, rfl⟩ (show zfit (zrm 0 0) 3 (zrm 1 22) = true from rfl) (Nat.le_of_ble_eq_true rfl) dX11_count_98 ⟨Nat.zero_le _, Nat.zero_le _⟩ ?_
    refine zv_if_eqZ (tgt := 108) C (by omega) dX11_count_101 (by decide) (fun h101 => absurd h101 (by decide)) (fun h101 => ?_)
    refine zv_iconst (v := zI 0) C dX11_count_104 rfl ?_
    refine zv_goto (tgt := 109) C dX11_count_105 (by decide) ?_
    exact zv_iret C hr rfl dX11_count_109 ⟨rfl, mK_th2 _ _ _⟩
set_option maxRecDepth 20000 in
theorem c0_X11_body {l : Launch} (hfl : l.stackTraces = false) (E : zE) (σ : zS) (σc : zS) (U : zSU) (S : zST) (i : Nat) (hB : zRb (gI σ 328) U) (hU : zSUp σc 29 U) (hW : zRo (gI σ 332) U.nb S) (hS : zSTp σc 34 S) (hi : i < U.nb) : zRi l E yX11_body cX11_body 3 .int (zrm 2 46) [.ref (ob E 327), .int (zI (i : Int)), .int (zI 0)] σ (fun r τ => r = zI (dBod U S i 0) ∧ mK σ τ 0) := by
  refine Met.ofW (cc := cX11_body) (maxL := 3) (ret := (some .int)) (by decide +kernel) rfl ?_
  intro p e s m args below meth c s₁ B hml hv
  obtain ⟨rfl, hd⟩ := hv
  have C := zX_of (own := RX11) hfl B hml rfl hd rfl
  have hr := B.returns
  refine zV_go hd (Nat.le_of_ble_eq_true rfl) (lv := [(0, .ref (ob E 327)), (1, .int (zI (i : Int))), (2, .int (zI 0))]) rfl ?_
  have hnb : U.nb ≤ 8 := hU.2.2.1
  have hs0 := hU.2.2.2.1
  have hi8 : i < 8 := by omega
  have hTc := hS.2.2.2.2.2.2 i hi8
  have ht := hTc.1.2.1
  have hc : ∀ j w, j < S.tn i → w < 3 → S.tr i j w ≤ 100 := fun j w a b => hTc.1.2.2.2 j w a b
  have hgl := tGe_le (S.tr i) (S.tn i)
  
  refine zv_aload_n C 0 dX11_body_0 rfl rfl ?_
  refine zv_iload_n C 1 dX11_body_1 rfl rfl ?_
  refine zv_cviD (st := []) C (c0_X11_noBody hfl E σ σc U ((i : Int)) hB hU (by omega)) mX11_noBody kX11_319 (by decide : kd 327 = 10) rfl rfl rfl ⟨rfl, rfl⟩ (show zfit (zrm 1 25) 2 (zrm 2 46) = true from rfl) (Nat.le_of_ble_eq_true rfl) dX11_body_2 ⟨Nat.zero_le _, Nat.zero_le _⟩ ?_
  refine zv_if_neZ (tgt := 33) C (by omega) dX11_body_5 (by decide) (fun h5 => absurd h5 (by decide)) (fun h5 => ?_)
  refine zv_aload_n C 0 dX11_body_8 rfl rfl ?_
  refine zv_iload_n C 2 dX11_body_9 rfl rfl ?_
  refine zv_i2lZ C (by omega) dX11_body_10 ?_
  refine zv_lconst (v := zL 0) C dX11_body_11 (by decide) ?_
  refine zv_ldc2 C kX11_322 dX11_body_12 ?_
  refine zv_eql (y := zL 5) (by decide) ?_
  refine zv_csiD (st := [.ref (ob E 327)]) C (c_X11_inRange hfl E (thW σ 0) (0) (0) (5) (by omega) (by omega) (by omega)) mX11_inRange kX11_71 rfl ⟨rfl, rfl⟩ (show zfit (zrm 0 0) 6 (zrm 2 46) = true from rfl) (Nat.le_of_ble_eq_true rfl) dX11_body_15 ⟨Nat.zero_le _, Nat.zero_le _⟩ ?_
  refine zv_if_neB (tgt := 25) C dX11_body_18 (by decide) (fun h18 => ?_) (fun h18 => ?_)
  · skip
    refine zv_iconst (v := zI 0) C dX11_body_25 rfl ?_
    refine zv_iconst (v := zI 2) C dX11_body_26 rfl ?_
    refine zv_cviD (st := []) C (c0_X11_fails hfl E (thW σ 0) 2) mX11_fails kX11_309 (by decide : kd 327 = 10) rfl rfl rfl ⟨rfl, rfl⟩ (show zfit (zrm 0 0) 3 (zrm 2 46) = true from rfl) (Nat.le_of_ble_eq_true rfl) dX11_body_27 ⟨Nat.zero_le _, Nat.zero_le _⟩ ?_
    refine zv_if_eqZ (tgt := 35) C (by omega) dX11_body_30 (by decide) (fun h30 => ?_) (fun h30 => absurd h30 (by decide))
    refine zv_iload_n C 2 dX11_body_35 rfl rfl ?_
    refine zv_iconst (v := zI 3) C dX11_body_36 rfl ?_
    refine zv_icmp_geZ (tgt := 49) C (by omega) (by omega) dX11_body_37 (by decide) (fun h37 => ?_) (fun h37 => ?_)
    · exfalso
      omega
    · skip
      refine zv_aload_n C 0 dX11_body_40 rfl rfl ?_
      refine zv_iload_n C 1 dX11_body_41 rfl rfl ?_
      refine zv_iload_n C 2 dX11_body_42 rfl rfl ?_
      refine zv_cviD (st := []) C (c0_X11_of hfl E (thW σ 0) U i hB hi hnb) mX11_of kX11_185 (by decide : kd 327 = 10) rfl rfl rfl ⟨rfl, rfl⟩ (show zfit (zrm 0 0) 3 (zrm 2 46) = true from rfl) (Nat.le_of_ble_eq_true rfl) dX11_body_43 ⟨Nat.zero_le _, Nat.zero_le _⟩ ?_
      refine zv_goto (tgt := 80) C dX11_body_46 (by decide) ?_
      exact zv_iret C hr rfl dX11_body_80 ⟨rfl, mK_th _ _⟩
  · exfalso
    omega
set_option maxRecDepth 20000 in
theorem c1_X11_body {l : Launch} (hfl : l.stackTraces = false) (E : zE) (σ : zS) (σc : zS) (U : zSU) (S : zST) (i : Nat) (hB : zRb (gI σ 328) U) (hU : zSUp σc 29 U) (hW : zRo (gI σ 332) U.nb S) (hS : zSTp σc 34 S) (hi : i < U.nb) : zRi l E yX11_body cX11_body 3 .int (zrm 2 46) [.ref (ob E 327), .int (zI (i : Int)), .int (zI 1)] σ (fun r τ => r = zI (dBod U S i 1) ∧ mK σ τ 0) := by
  refine Met.ofW (cc := cX11_body) (maxL := 3) (ret := (some .int)) (by decide +kernel) rfl ?_
  intro p e s m args below meth c s₁ B hml hv
  obtain ⟨rfl, hd⟩ := hv
  have C := zX_of (own := RX11) hfl B hml rfl hd rfl
  have hr := B.returns
  refine zV_go hd (Nat.le_of_ble_eq_true rfl) (lv := [(0, .ref (ob E 327)), (1, .int (zI (i : Int))), (2, .int (zI 1))]) rfl ?_
  have hnb : U.nb ≤ 8 := hU.2.2.1
  have hs0 := hU.2.2.2.1
  have hi8 : i < 8 := by omega
  have hTc := hS.2.2.2.2.2.2 i hi8
  have ht := hTc.1.2.1
  have hc : ∀ j w, j < S.tn i → w < 3 → S.tr i j w ≤ 100 := fun j w a b => hTc.1.2.2.2 j w a b
  have hgl := tGe_le (S.tr i) (S.tn i)
  
  refine zv_aload_n C 0 dX11_body_0 rfl rfl ?_
  refine zv_iload_n C 1 dX11_body_1 rfl rfl ?_
  refine zv_cviD (st := []) C (c0_X11_noBody hfl E σ σc U ((i : Int)) hB hU (by omega)) mX11_noBody kX11_319 (by decide : kd 327 = 10) rfl rfl rfl ⟨rfl, rfl⟩ (show zfit (zrm 1 25) 2 (zrm 2 46) = true from rfl) (Nat.le_of_ble_eq_true rfl) dX11_body_2 ⟨Nat.zero_le _, Nat.zero_le _⟩ ?_
  refine zv_if_neZ (tgt := 33) C (by omega) dX11_body_5 (by decide) (fun h5 => absurd h5 (by decide)) (fun h5 => ?_)
  refine zv_aload_n C 0 dX11_body_8 rfl rfl ?_
  refine zv_iload_n C 2 dX11_body_9 rfl rfl ?_
  refine zv_i2lZ C (by omega) dX11_body_10 ?_
  refine zv_lconst (v := zL 0) C dX11_body_11 (by decide) ?_
  refine zv_ldc2 C kX11_322 dX11_body_12 ?_
  refine zv_eql (y := zL 5) (by decide) ?_
  refine zv_csiD (st := [.ref (ob E 327)]) C (c_X11_inRange hfl E (thW σ 0) (1) (0) (5) (by omega) (by omega) (by omega)) mX11_inRange kX11_71 rfl ⟨rfl, rfl⟩ (show zfit (zrm 0 0) 6 (zrm 2 46) = true from rfl) (Nat.le_of_ble_eq_true rfl) dX11_body_15 ⟨Nat.zero_le _, Nat.zero_le _⟩ ?_
  refine zv_if_neB (tgt := 25) C dX11_body_18 (by decide) (fun h18 => ?_) (fun h18 => ?_)
  · skip
    refine zv_iconst (v := zI 0) C dX11_body_25 rfl ?_
    refine zv_iconst (v := zI 2) C dX11_body_26 rfl ?_
    refine zv_cviD (st := []) C (c0_X11_fails hfl E (thW σ 0) 2) mX11_fails kX11_309 (by decide : kd 327 = 10) rfl rfl rfl ⟨rfl, rfl⟩ (show zfit (zrm 0 0) 3 (zrm 2 46) = true from rfl) (Nat.le_of_ble_eq_true rfl) dX11_body_27 ⟨Nat.zero_le _, Nat.zero_le _⟩ ?_
    refine zv_if_eqZ (tgt := 35) C (by omega) dX11_body_30 (by decide) (fun h30 => ?_) (fun h30 => absurd h30 (by decide))
    refine zv_iload_n C 2 dX11_body_35 rfl rfl ?_
    refine zv_iconst (v := zI 3) C dX11_body_36 rfl ?_
    refine zv_icmp_geZ (tgt := 49) C (by omega) (by omega) dX11_body_37 (by decide) (fun h37 => ?_) (fun h37 => ?_)
    · exfalso
      omega
    · skip
      refine zv_aload_n C 0 dX11_body_40 rfl rfl ?_
      refine zv_iload_n C 1 dX11_body_41 rfl rfl ?_
      refine zv_iload_n C 2 dX11_body_42 rfl rfl ?_
      refine zv_cviD (st := []) C (c1_X11_of hfl E (thW σ 0) U i hB hi hnb) mX11_of kX11_185 (by decide : kd 327 = 10) rfl rfl rfl ⟨rfl, rfl⟩ (show zfit (zrm 0 0) 3 (zrm 2 46) = true from rfl) (Nat.le_of_ble_eq_true rfl) dX11_body_43 ⟨Nat.zero_le _, Nat.zero_le _⟩ ?_
      refine zv_goto (tgt := 80) C dX11_body_46 (by decide) ?_
      exact zv_iret C hr rfl dX11_body_80 ⟨rfl, mK_th _ _⟩
  · exfalso
    omega
set_option maxRecDepth 20000 in
theorem c2_X11_body {l : Launch} (hfl : l.stackTraces = false) (E : zE) (σ : zS) (σc : zS) (U : zSU) (S : zST) (i : Nat) (hB : zRb (gI σ 328) U) (hU : zSUp σc 29 U) (hW : zRo (gI σ 332) U.nb S) (hS : zSTp σc 34 S) (hi : i < U.nb) : zRi l E yX11_body cX11_body 3 .int (zrm 2 46) [.ref (ob E 327), .int (zI (i : Int)), .int (zI 2)] σ (fun r τ => r = zI (dBod U S i 2) ∧ mK σ τ 0) := by
  refine Met.ofW (cc := cX11_body) (maxL := 3) (ret := (some .int)) (by decide +kernel) rfl ?_
  intro p e s m args below meth c s₁ B hml hv
  obtain ⟨rfl, hd⟩ := hv
  have C := zX_of (own := RX11) hfl B hml rfl hd rfl
  have hr := B.returns
  refine zV_go hd (Nat.le_of_ble_eq_true rfl) (lv := [(0, .ref (ob E 327)), (1, .int (zI (i : Int))), (2, .int (zI 2))]) rfl ?_
  have hnb : U.nb ≤ 8 := hU.2.2.1
  have hs0 := hU.2.2.2.1
  have hi8 : i < 8 := by omega
  have hTc := hS.2.2.2.2.2.2 i hi8
  have ht := hTc.1.2.1
  have hc : ∀ j w, j < S.tn i → w < 3 → S.tr i j w ≤ 100 := fun j w a b => hTc.1.2.2.2 j w a b
  have hgl := tGe_le (S.tr i) (S.tn i)
  
  refine zv_aload_n C 0 dX11_body_0 rfl rfl ?_
  refine zv_iload_n C 1 dX11_body_1 rfl rfl ?_
  refine zv_cviD (st := []) C (c0_X11_noBody hfl E σ σc U ((i : Int)) hB hU (by omega)) mX11_noBody kX11_319 (by decide : kd 327 = 10) rfl rfl rfl ⟨rfl, rfl⟩ (show zfit (zrm 1 25) 2 (zrm 2 46) = true from rfl) (Nat.le_of_ble_eq_true rfl) dX11_body_2 ⟨Nat.zero_le _, Nat.zero_le _⟩ ?_
  refine zv_if_neZ (tgt := 33) C (by omega) dX11_body_5 (by decide) (fun h5 => absurd h5 (by decide)) (fun h5 => ?_)
  refine zv_aload_n C 0 dX11_body_8 rfl rfl ?_
  refine zv_iload_n C 2 dX11_body_9 rfl rfl ?_
  refine zv_i2lZ C (by omega) dX11_body_10 ?_
  refine zv_lconst (v := zL 0) C dX11_body_11 (by decide) ?_
  refine zv_ldc2 C kX11_322 dX11_body_12 ?_
  refine zv_eql (y := zL 5) (by decide) ?_
  refine zv_csiD (st := [.ref (ob E 327)]) C (c_X11_inRange hfl E (thW σ 0) (2) (0) (5) (by omega) (by omega) (by omega)) mX11_inRange kX11_71 rfl ⟨rfl, rfl⟩ (show zfit (zrm 0 0) 6 (zrm 2 46) = true from rfl) (Nat.le_of_ble_eq_true rfl) dX11_body_15 ⟨Nat.zero_le _, Nat.zero_le _⟩ ?_
  refine zv_if_neB (tgt := 25) C dX11_body_18 (by decide) (fun h18 => ?_) (fun h18 => ?_)
  · skip
    refine zv_iconst (v := zI 0) C dX11_body_25 rfl ?_
    refine zv_iconst (v := zI 2) C dX11_body_26 rfl ?_
    refine zv_cviD (st := []) C (c0_X11_fails hfl E (thW σ 0) 2) mX11_fails kX11_309 (by decide : kd 327 = 10) rfl rfl rfl ⟨rfl, rfl⟩ (show zfit (zrm 0 0) 3 (zrm 2 46) = true from rfl) (Nat.le_of_ble_eq_true rfl) dX11_body_27 ⟨Nat.zero_le _, Nat.zero_le _⟩ ?_
    refine zv_if_eqZ (tgt := 35) C (by omega) dX11_body_30 (by decide) (fun h30 => ?_) (fun h30 => absurd h30 (by decide))
    refine zv_iload_n C 2 dX11_body_35 rfl rfl ?_
    refine zv_iconst (v := zI 3) C dX11_body_36 rfl ?_
    refine zv_icmp_geZ (tgt := 49) C (by omega) (by omega) dX11_body_37 (by decide) (fun h37 => ?_) (fun h37 => ?_)
    · exfalso
      omega
    · skip
      refine zv_aload_n C 0 dX11_body_40 rfl rfl ?_
      refine zv_iload_n C 1 dX11_body_41 rfl rfl ?_
      refine zv_iload_n C 2 dX11_body_42 rfl rfl ?_
      refine zv_cviD (st := []) C (c2_X11_of hfl E (thW σ 0) U i hB hi hnb) mX11_of kX11_185 (by decide : kd 327 = 10) rfl rfl rfl ⟨rfl, rfl⟩ (show zfit (zrm 0 0) 3 (zrm 2 46) = true from rfl) (Nat.le_of_ble_eq_true rfl) dX11_body_43 ⟨Nat.zero_le _, Nat.zero_le _⟩ ?_
      refine zv_goto (tgt := 80) C dX11_body_46 (by decide) ?_
      exact zv_iret C hr rfl dX11_body_80 ⟨rfl, mK_th _ _⟩
  · exfalso
    omega
set_option maxRecDepth 20000 in
theorem c3_X11_body {l : Launch} (hfl : l.stackTraces = false) (E : zE) (σ : zS) (σc : zS) (U : zSU) (S : zST) (i : Nat) (y : Int) (hB : zRb (gI σ 328) U) (hU : zSUp σc 29 U) (hW : zRo (gI σ 332) U.nb S) (hS : zSTp σc 34 S) (hi : i < U.nb) (hy : 3 ≤ y ∧ y ≤ 5) : zRi l E yX11_body cX11_body 3 .int (zrm 3 67) [.ref (ob E 327), .int (zI (i : Int)), .int (zI y)] σ (fun r τ => r = zI (dBod U S i y) ∧ mK σ τ 0) := by
  refine Met.ofW (cc := cX11_body) (maxL := 3) (ret := (some .int)) (by decide +kernel) rfl ?_
  intro p e s m args below meth c s₁ B hml hv
  obtain ⟨rfl, hd⟩ := hv
  have C := zX_of (own := RX11) hfl B hml rfl hd rfl
  have hr := B.returns
  refine zV_go hd (Nat.le_of_ble_eq_true rfl) (lv := [(0, .ref (ob E 327)), (1, .int (zI (i : Int))), (2, .int (zI y))]) rfl ?_
  have hnb : U.nb ≤ 8 := hU.2.2.1
  have hs0 := hU.2.2.2.1
  have hi8 : i < 8 := by omega
  have hTc := hS.2.2.2.2.2.2 i hi8
  have ht := hTc.1.2.1
  have hc : ∀ j w, j < S.tn i → w < 3 → S.tr i j w ≤ 100 := fun j w a b => hTc.1.2.2.2 j w a b
  have hgl := tGe_le (S.tr i) (S.tn i)
  
  refine zv_aload_n C 0 dX11_body_0 rfl rfl ?_
  refine zv_iload_n C 1 dX11_body_1 rfl rfl ?_
  refine zv_cviD (st := []) C (c0_X11_noBody hfl E σ σc U ((i : Int)) hB hU (by omega)) mX11_noBody kX11_319 (by decide : kd 327 = 10) rfl rfl rfl ⟨rfl, rfl⟩ (show zfit (zrm 1 25) 2 (zrm 3 67) = true from rfl) (Nat.le_of_ble_eq_true rfl) dX11_body_2 ⟨Nat.zero_le _, Nat.zero_le _⟩ ?_
  refine zv_if_neZ (tgt := 33) C (by omega) dX11_body_5 (by decide) (fun h5 => absurd h5 (by decide)) (fun h5 => ?_)
  refine zv_aload_n C 0 dX11_body_8 rfl rfl ?_
  refine zv_iload_n C 2 dX11_body_9 rfl rfl ?_
  refine zv_i2lZ C (by omega) dX11_body_10 ?_
  refine zv_lconst (v := zL 0) C dX11_body_11 (by decide) ?_
  refine zv_ldc2 C kX11_322 dX11_body_12 ?_
  refine zv_eql (y := zL 5) (by decide) ?_
  refine zv_csiD (st := [.ref (ob E 327)]) C (c_X11_inRange hfl E (thW σ 0) (y) (0) (5) (by omega) (by omega) (by omega)) mX11_inRange kX11_71 rfl ⟨rfl, rfl⟩ (show zfit (zrm 0 0) 6 (zrm 3 67) = true from rfl) (Nat.le_of_ble_eq_true rfl) dX11_body_15 ⟨Nat.zero_le _, Nat.zero_le _⟩ ?_
  refine zv_if_neB (tgt := 25) C dX11_body_18 (by decide) (fun h18 => ?_) (fun h18 => ?_)
  · skip
    refine zv_iconst (v := zI 0) C dX11_body_25 rfl ?_
    refine zv_iconst (v := zI 2) C dX11_body_26 rfl ?_
    refine zv_cviD (st := []) C (c0_X11_fails hfl E (thW σ 0) 2) mX11_fails kX11_309 (by decide : kd 327 = 10) rfl rfl rfl ⟨rfl, rfl⟩ (show zfit (zrm 0 0) 3 (zrm 3 67) = true from rfl) (Nat.le_of_ble_eq_true rfl) dX11_body_27 ⟨Nat.zero_le _, Nat.zero_le _⟩ ?_
    refine zv_if_eqZ (tgt := 35) C (by omega) dX11_body_30 (by decide) (fun h30 => ?_) (fun h30 => absurd h30 (by decide))
    refine zv_iload_n C 2 dX11_body_35 rfl rfl ?_
    refine zv_iconst (v := zI 3) C dX11_body_36 rfl ?_
    refine zv_icmp_geZ (tgt := 49) C (by omega) (by omega) dX11_body_37 (by decide) (fun h37 => ?_) (fun h37 => ?_)
    · skip
      refine zv_iload_n C 2 dX11_body_49 rfl rfl ?_
      refine zv_iconst (v := zI 3) C dX11_body_50 rfl ?_
      refine zv_icmp_neZ (tgt := 62) C (by omega) (by omega) dX11_body_51 (by decide) (fun h51 => ?_) (fun h51 => ?_)
      · skip
        refine zv_iload_n C 2 dX11_body_62 rfl rfl ?_
        refine zv_iconst (v := zI 4) C dX11_body_63 rfl ?_
        refine zv_icmp_neZ (tgt := 75) C (by omega) (by omega) dX11_body_64 (by decide) (fun h64 => ?_) (fun h64 => ?_)
        · skip
          refine zv_aload_n C 0 dX11_body_75 rfl rfl ?_
          refine zv_iload_n C 1 dX11_body_76 rfl rfl ?_
          refine zv_cviD (st := []) C (c_X11_meshes hfl E (thW σ 0) U.nb S i hW (by omega) ht hc) mX11_meshes kX11_324 (by decide : kd 327 = 10) rfl rfl rfl ⟨rfl, rfl⟩ (show zfit (zrm 2 44) 4 (zrm 3 67) = true from rfl) (Nat.le_of_ble_eq_true rfl) dX11_body_77 ⟨Nat.zero_le _, Nat.zero_le _⟩ ?_
          exact zv_iret C hr rfl dX11_body_80 ⟨congrArg zI (by have hm := mMe_e (S.tr i) (S.tn i); unfold dBod; (repeat rw [if_neg (by omega)]); first | rw [if_pos (by omega)] | omega), mK_th _ _⟩
        · skip
          refine zv_aload_n C 0 dX11_body_67 rfl rfl ?_
          refine zv_iload_n C 1 dX11_body_68 rfl rfl ?_
          refine zv_cviD (st := []) C (c_X11_teethOf hfl E (thW σ 0) U.nb S i hW (by omega) ht hc) mX11_teethOf kX11_313 (by decide : kd 327 = 10) rfl rfl rfl ⟨rfl, rfl⟩ (show zfit (zrm 2 44) 4 (zrm 3 67) = true from rfl) (Nat.le_of_ble_eq_true rfl) dX11_body_69 ⟨Nat.zero_le _, Nat.zero_le _⟩ ?_
          refine zv_goto (tgt := 80) C dX11_body_72 (by decide) ?_
          exact zv_iret C hr rfl dX11_body_80 ⟨congrArg zI (by have hm := mMe_e (S.tr i) (S.tn i); unfold dBod; (repeat rw [if_neg (by omega)]); first | rw [if_pos (by omega)] | omega), mK_th _ _⟩
      · skip
        refine zv_aload_n C 0 dX11_body_54 rfl rfl ?_
        refine zv_iload_n C 1 dX11_body_55 rfl rfl ?_
        refine zv_cviD (st := []) C (c_X11_parts hfl E (thW σ 0) U.nb S i hW (by omega)) mX11_parts kX11_188 (by decide : kd 327 = 10) rfl rfl rfl ⟨rfl, rfl⟩ (show zfit (zrm 1 21) 2 (zrm 3 67) = true from rfl) (Nat.le_of_ble_eq_true rfl) dX11_body_56 ⟨Nat.zero_le _, Nat.zero_le _⟩ ?_
        refine zv_goto (tgt := 80) C dX11_body_59 (by decide) ?_
        exact zv_iret C hr rfl dX11_body_80 ⟨congrArg zI (by have hm := mMe_e (S.tr i) (S.tn i); unfold dBod; (repeat rw [if_neg (by omega)]); first | rw [if_pos (by omega)] | omega), mK_th _ _⟩
    · exfalso
      omega
  · skip
    refine zv_iconst (v := zI 1) C dX11_body_21 rfl ?_
    refine zv_goto (tgt := 26) C dX11_body_22 (by decide) ?_
    refine zv_iconst (v := zI 2) C dX11_body_26 rfl ?_
    exfalso
    omega
set_option maxRecDepth 20000 in
theorem x1_X11_body {l : Launch} (hfl : l.stackTraces = false) (E : zE) (σ : zS) (σc : zS) (U : zSU) (y z : Int) (hB : zRb (gI σ 328) U) (hU : zSUp σc 29 U) (hy : -2147483648 ≤ y ∧ y < 2147483648) (hno : ¬ (0 ≤ y ∧ y < U.nb)) : zRi l E yX11_body cX11_body 3 .int (zrm 2 46) [.ref (ob E 327), .int (zI y), .int (zI z)] σ (fun r τ => r = zI 0 ∧ mK σ τ 1) := by
  refine Met.ofW (cc := cX11_body) (maxL := 3) (ret := (some .int)) (by decide +kernel) rfl ?_
  intro p e s m args below meth c s₁ B hml hv
  obtain ⟨rfl, hd⟩ := hv
  have C := zX_of (own := RX11) hfl B hml rfl hd rfl
  have hr := B.returns
  refine zV_go hd (Nat.le_of_ble_eq_true rfl) (lv := [(0, .ref (ob E 327)), (1, .int (zI y)), (2, .int (zI z))]) rfl ?_
  have hnb : U.nb ≤ 8 := hU.2.2.1
  have hs0 := hU.2.2.2.1
  
  refine zv_aload_n C 0 dX11_body_0 rfl rfl ?_
  refine zv_iload_n C 1 dX11_body_1 rfl rfl ?_
  refine zv_cviD (st := []) C (c1_X11_noBody hfl E σ σc U (y) hB hU (by omega) hno) mX11_noBody kX11_319 (by decide : kd 327 = 10) rfl rfl rfl ⟨rfl, rfl⟩ (show zfit (zrm 1 25) 2 (zrm 2 46) = true from rfl) (Nat.le_of_ble_eq_true rfl) dX11_body_2 ⟨Nat.zero_le _, Nat.zero_le _⟩ ?_
  refine zv_if_neZ (tgt := 33) C (by omega) dX11_body_5 (by decide) (fun h5 => ?_) (fun h5 => absurd h5 (by decide))
  refine zv_iconst (v := zI 0) C dX11_body_33 rfl ?_
  exact zv_iret C hr rfl dX11_body_34 ⟨rfl, by first | exact mK_th _ _ | exact mK_th2 _ _ _ | exact mK_C (mK_W (mK_th _ _) _ _) _ | exact mK_W (mK_th _ _) _ _⟩
set_option maxRecDepth 20000 in
theorem x2_X11_body {l : Launch} (hfl : l.stackTraces = false) (E : zE) (σ : zS) (σc : zS) (U : zSU) (i : Nat) (y : Int) (hB : zRb (gI σ 328) U) (hU : zSUp σc 29 U) (hi : i < U.nb) (hy : -2147483648 ≤ y ∧ y < 2147483648) (hno : ¬ (0 ≤ y ∧ y ≤ 5)) : zRi l E yX11_body cX11_body 3 .int (zrm 2 46) [.ref (ob E 327), .int (zI (i : Int)), .int (zI y)] σ (fun r τ => r = zI 0 ∧ mK σ τ 2) := by
  refine Met.ofW (cc := cX11_body) (maxL := 3) (ret := (some .int)) (by decide +kernel) rfl ?_
  intro p e s m args below meth c s₁ B hml hv
  obtain ⟨rfl, hd⟩ := hv
  have C := zX_of (own := RX11) hfl B hml rfl hd rfl
  have hr := B.returns
  refine zV_go hd (Nat.le_of_ble_eq_true rfl) (lv := [(0, .ref (ob E 327)), (1, .int (zI (i : Int))), (2, .int (zI y))]) rfl ?_
  have hnb : U.nb ≤ 8 := hU.2.2.1
  have hs0 := hU.2.2.2.1
  
  refine zv_aload_n C 0 dX11_body_0 rfl rfl ?_
  refine zv_iload_n C 1 dX11_body_1 rfl rfl ?_
  refine zv_cviD (st := []) C (c0_X11_noBody hfl E σ σc U ((i : Int)) hB hU (by omega)) mX11_noBody kX11_319 (by decide : kd 327 = 10) rfl rfl rfl ⟨rfl, rfl⟩ (show zfit (zrm 1 25) 2 (zrm 2 46) = true from rfl) (Nat.le_of_ble_eq_true rfl) dX11_body_2 ⟨Nat.zero_le _, Nat.zero_le _⟩ ?_
  refine zv_if_neZ (tgt := 33) C (by omega) dX11_body_5 (by decide) (fun h5 => absurd h5 (by decide)) (fun h5 => ?_)
  refine zv_aload_n C 0 dX11_body_8 rfl rfl ?_
  refine zv_iload_n C 2 dX11_body_9 rfl rfl ?_
  refine zv_i2lZ C (by omega) dX11_body_10 ?_
  refine zv_lconst (v := zL 0) C dX11_body_11 (by decide) ?_
  refine zv_ldc2 C kX11_322 dX11_body_12 ?_
  refine zv_eql (y := zL 5) (by decide) ?_
  refine zv_csiD (st := [.ref (ob E 327)]) C (c_X11_inRange hfl E (thW σ 0) (y) (0) (5) (by omega) (by omega) (by omega)) mX11_inRange kX11_71 rfl ⟨rfl, rfl⟩ (show zfit (zrm 0 0) 6 (zrm 2 46) = true from rfl) (Nat.le_of_ble_eq_true rfl) dX11_body_15 ⟨Nat.zero_le _, Nat.zero_le _⟩ ?_
  refine zv_if_neB (tgt := 25) C dX11_body_18 (by decide) (fun h18 => ?_) (fun h18 => ?_)
  · skip
    refine zv_iconst (v := zI 0) C dX11_body_25 rfl ?_
    refine zv_iconst (v := zI 2) C dX11_body_26 rfl ?_
    exfalso
    omega
  · skip
    refine zv_iconst (v := zI 1) C dX11_body_21 rfl ?_
    refine zv_goto (tgt := 26) C dX11_body_22 (by decide) ?_
    refine zv_iconst (v := zI 2) C dX11_body_26 rfl ?_
    refine zv_cviD (st := []) C (c1_X11_fails hfl E (thW σ 0) 2) mX11_fails kX11_309 (by decide : kd 327 = 10) rfl rfl rfl ⟨rfl, rfl⟩ (show zfit (zrm 0 0) 3 (zrm 2 46) = true from rfl) (Nat.le_of_ble_eq_true rfl) dX11_body_27 ⟨Nat.zero_le _, Nat.zero_le _⟩ ?_
    refine zv_if_eqZ (tgt := 35) C (by omega) dX11_body_30 (by decide) (fun h30 => absurd h30 (by decide)) (fun h30 => ?_)
    refine zv_iconst (v := zI 0) C dX11_body_33 rfl ?_
    exact zv_iret C hr rfl dX11_body_34 ⟨rfl, mK_th2 _ _ _⟩
set_option maxRecDepth 20000 in
theorem c_X11_part {l : Launch} (hfl : l.stackTraces = false) (E : zE) (σ : zS) (σc : zS) (U : zSU) (S : zST) (i j w : Nat) (hB : zRb (gI σ 328) U) (hU : zSUp σc 29 U) (hW : zRo (gI σ 332) U.nb S) (hS : zSTp σc 34 S) (hi : i < U.nb) (hj : j < S.tn i) (hw : w < 3) : zRi l E yX11_part cX11_part 4 .int (zrm 2 46) [.ref (ob E 327), .int (zI (i : Int)), .int (zI (j : Int)), .int (zI (w : Int))] σ (fun r τ => r = zI (S.tr i j w : Int) ∧ mK σ τ 0) := by
  refine Met.ofW (cc := cX11_part) (maxL := 4) (ret := (some .int)) (by decide +kernel) rfl ?_
  intro p e s m args below meth c s₁ B hml hv
  obtain ⟨rfl, hd⟩ := hv
  have C := zX_of (own := RX11) hfl B hml rfl hd rfl
  have hr := B.returns
  refine zV_go hd (Nat.le_of_ble_eq_true rfl) (lv := [(0, .ref (ob E 327)), (1, .int (zI (i : Int))), (2, .int (zI (j : Int))), (3, .int (zI (w : Int)))]) rfl ?_
  have hnb : U.nb ≤ 8 := hU.2.2.1
  have hs0 := hU.2.2.2.1
  have hi8 : i < 8 := by omega
  have hTc := hS.2.2.2.2.2.2 i hi8
  have ht := hTc.1.2.1
  have hc : ∀ j w, j < S.tn i → w < 3 → S.tr i j w ≤ 100 := fun j w a b => hTc.1.2.2.2 j w a b
  have hgl := tGe_le (S.tr i) (S.tn i)
  
  refine zv_aload_n C 0 dX11_part_0 rfl rfl ?_
  refine zv_iload_n C 1 dX11_part_1 rfl rfl ?_
  refine zv_cviD (st := []) C (c0_X11_noBody hfl E σ σc U ((i : Int)) hB hU (by omega)) mX11_noBody kX11_319 (by decide : kd 327 = 10) rfl rfl rfl ⟨rfl, rfl⟩ (show zfit (zrm 1 25) 2 (zrm 2 46) = true from rfl) (Nat.le_of_ble_eq_true rfl) dX11_part_2 ⟨Nat.zero_le _, Nat.zero_le _⟩ ?_
  refine zv_if_neZ (tgt := 63) C (by omega) dX11_part_5 (by decide) (fun h5 => absurd h5 (by decide)) (fun h5 => ?_)
  refine zv_aload_n C 0 dX11_part_8 rfl rfl ?_
  refine zv_iload_n C 2 dX11_part_9 rfl rfl ?_
  refine zv_i2lZ C (by omega) dX11_part_10 ?_
  refine zv_lconst (v := zL 0) C dX11_part_11 (by decide) ?_
  refine zv_aload_n C 0 dX11_part_12 rfl rfl ?_
  refine zv_iload_n C 1 dX11_part_13 rfl rfl ?_
  refine zv_cviD (st := [.long (zL 0), .long (zL (j : Int)), .ref (ob E 327)]) C (c_X11_parts hfl E (thW σ 0) U.nb S i hW (by omega)) mX11_parts kX11_188 (by decide : kd 327 = 10) rfl rfl rfl ⟨rfl, rfl⟩ (show zfit (zrm 1 21) 2 (zrm 2 46) = true from rfl) (Nat.le_of_ble_eq_true rfl) dX11_part_14 ⟨Nat.zero_le _, Nat.zero_le _⟩ ?_
  refine zv_iconst (v := zI 1) C dX11_part_17 rfl ?_
  refine zv_isubZ C dX11_part_18 ?_
  refine zv_i2lZ C (by omega) dX11_part_19 ?_
  refine zv_csiD (st := [.ref (ob E 327)]) C (c_X11_inRange hfl E (thW σ 0) ((j : Int)) (0) ((S.tn i : Int) - 1) (by omega) (by omega) (by omega)) mX11_inRange kX11_71 rfl ⟨rfl, rfl⟩ (show zfit (zrm 0 0) 6 (zrm 2 46) = true from rfl) (Nat.le_of_ble_eq_true rfl) dX11_part_20 ⟨Nat.zero_le _, Nat.zero_le _⟩ ?_
  refine zv_if_neB (tgt := 30) C dX11_part_23 (by decide) (fun h23 => ?_) (fun h23 => ?_)
  · skip
    refine zv_iconst (v := zI 0) C dX11_part_30 rfl ?_
    refine zv_iconst (v := zI 2) C dX11_part_31 rfl ?_
    refine zv_cviD (st := []) C (c0_X11_fails hfl E (thW σ 0) 2) mX11_fails kX11_309 (by decide : kd 327 = 10) rfl rfl rfl ⟨rfl, rfl⟩ (show zfit (zrm 0 0) 3 (zrm 2 46) = true from rfl) (Nat.le_of_ble_eq_true rfl) dX11_part_32 ⟨Nat.zero_le _, Nat.zero_le _⟩ ?_
    refine zv_if_neZ (tgt := 63) C (by omega) dX11_part_35 (by decide) (fun h35 => absurd h35 (by decide)) (fun h35 => ?_)
    refine zv_aload_n C 0 dX11_part_38 rfl rfl ?_
    refine zv_iload_n C 3 dX11_part_39 rfl rfl ?_
    refine zv_i2lZ C (by omega) dX11_part_40 ?_
    refine zv_lconst (v := zL 0) C dX11_part_41 (by decide) ?_
    refine zv_ldc2 C kX11_256 dX11_part_42 ?_
    refine zv_eql (y := zL 2) (by decide) ?_
    refine zv_csiD (st := [.ref (ob E 327)]) C (c_X11_inRange hfl E (thW σ 0) ((w : Int)) (0) (2) (by omega) (by omega) (by omega)) mX11_inRange kX11_71 rfl ⟨rfl, rfl⟩ (show zfit (zrm 0 0) 6 (zrm 2 46) = true from rfl) (Nat.le_of_ble_eq_true rfl) dX11_part_45 ⟨Nat.zero_le _, Nat.zero_le _⟩ ?_
    refine zv_if_neB (tgt := 55) C dX11_part_48 (by decide) (fun h48 => ?_) (fun h48 => ?_)
    · skip
      refine zv_iconst (v := zI 0) C dX11_part_55 rfl ?_
      refine zv_iconst (v := zI 3) C dX11_part_56 rfl ?_
      refine zv_cviD (st := []) C (c0_X11_fails hfl E (thW σ 0) 3) mX11_fails kX11_309 (by decide : kd 327 = 10) rfl rfl rfl ⟨rfl, rfl⟩ (show zfit (zrm 0 0) 3 (zrm 2 46) = true from rfl) (Nat.le_of_ble_eq_true rfl) dX11_part_57 ⟨Nat.zero_le _, Nat.zero_le _⟩ ?_
      refine zv_if_eqZ (tgt := 65) C (by omega) dX11_part_60 (by decide) (fun h60 => ?_) (fun h60 => absurd h60 (by decide))
      refine zv_aload_n C 0 dX11_part_65 rfl rfl ?_
      refine zv_iload_n C 1 dX11_part_66 rfl rfl ?_
      refine zv_iload_n C 2 dX11_part_67 rfl rfl ?_
      refine zv_iload_n C 3 dX11_part_68 rfl rfl ?_
      refine zv_cviD (st := []) C (c_X11_partOf hfl E (thW σ 0) U.nb S i j w hW (by omega) (by omega) ht (by omega)) mX11_partOf kX11_191 (by decide : kd 327 = 10) rfl rfl rfl ⟨rfl, rfl⟩ (show zfit (zrm 1 21) 4 (zrm 2 46) = true from rfl) (Nat.le_of_ble_eq_true rfl) dX11_part_69 ⟨Nat.zero_le _, Nat.zero_le _⟩ ?_
      exact zv_iret C hr rfl dX11_part_72 ⟨rfl, mK_th _ _⟩
    · skip
      refine zv_iconst (v := zI 1) C dX11_part_51 rfl ?_
      refine zv_goto (tgt := 56) C dX11_part_52 (by decide) ?_
      refine zv_iconst (v := zI 3) C dX11_part_56 rfl ?_
      exfalso
      omega
  · skip
    refine zv_iconst (v := zI 1) C dX11_part_26 rfl ?_
    refine zv_goto (tgt := 31) C dX11_part_27 (by decide) ?_
    refine zv_iconst (v := zI 2) C dX11_part_31 rfl ?_
    exfalso
    omega
set_option maxRecDepth 20000 in
theorem x1_X11_part {l : Launch} (hfl : l.stackTraces = false) (E : zE) (σ : zS) (σc : zS) (U : zSU) (y z x : Int) (hB : zRb (gI σ 328) U) (hU : zSUp σc 29 U) (hy : -2147483648 ≤ y ∧ y < 2147483648) (hno : ¬ (0 ≤ y ∧ y < U.nb)) : zRi l E yX11_part cX11_part 4 .int (zrm 2 46) [.ref (ob E 327), .int (zI y), .int (zI z), .int (zI x)] σ (fun r τ => r = zI 0 ∧ mK σ τ 1) := by
  refine Met.ofW (cc := cX11_part) (maxL := 4) (ret := (some .int)) (by decide +kernel) rfl ?_
  intro p e s m args below meth c s₁ B hml hv
  obtain ⟨rfl, hd⟩ := hv
  have C := zX_of (own := RX11) hfl B hml rfl hd rfl
  have hr := B.returns
  refine zV_go hd (Nat.le_of_ble_eq_true rfl) (lv := [(0, .ref (ob E 327)), (1, .int (zI y)), (2, .int (zI z)), (3, .int (zI x))]) rfl ?_
  have hnb : U.nb ≤ 8 := hU.2.2.1
  have hs0 := hU.2.2.2.1
  
  refine zv_aload_n C 0 dX11_part_0 rfl rfl ?_
  refine zv_iload_n C 1 dX11_part_1 rfl rfl ?_
  refine zv_cviD (st := []) C (c1_X11_noBody hfl E σ σc U (y) hB hU (by omega) hno) mX11_noBody kX11_319 (by decide : kd 327 = 10) rfl rfl rfl ⟨rfl, rfl⟩ (show zfit (zrm 1 25) 2 (zrm 2 46) = true from rfl) (Nat.le_of_ble_eq_true rfl) dX11_part_2 ⟨Nat.zero_le _, Nat.zero_le _⟩ ?_
  refine zv_if_neZ (tgt := 63) C (by omega) dX11_part_5 (by decide) (fun h5 => ?_) (fun h5 => absurd h5 (by decide))
  refine zv_iconst (v := zI 0) C dX11_part_63 rfl ?_
  exact zv_iret C hr rfl dX11_part_64 ⟨rfl, by first | exact mK_th _ _ | exact mK_th2 _ _ _ | exact mK_C (mK_W (mK_th _ _) _ _) _ | exact mK_W (mK_th _ _) _ _⟩
set_option maxRecDepth 20000 in
theorem x2_X11_part {l : Launch} (hfl : l.stackTraces = false) (E : zE) (σ : zS) (σc : zS) (U : zSU) (S : zST) (i : Nat) (y z : Int) (hB : zRb (gI σ 328) U) (hU : zSUp σc 29 U) (hW : zRo (gI σ 332) U.nb S) (hS : zSTp σc 34 S) (hi : i < U.nb) (hy : -2147483648 ≤ y ∧ y < 2147483648) (hno : ¬ (0 ≤ y ∧ y < S.tn i)) : zRi l E yX11_part cX11_part 4 .int (zrm 2 46) [.ref (ob E 327), .int (zI (i : Int)), .int (zI y), .int (zI z)] σ (fun r τ => r = zI 0 ∧ mK σ τ 2) := by
  refine Met.ofW (cc := cX11_part) (maxL := 4) (ret := (some .int)) (by decide +kernel) rfl ?_
  intro p e s m args below meth c s₁ B hml hv
  obtain ⟨rfl, hd⟩ := hv
  have C := zX_of (own := RX11) hfl B hml rfl hd rfl
  have hr := B.returns
  refine zV_go hd (Nat.le_of_ble_eq_true rfl) (lv := [(0, .ref (ob E 327)), (1, .int (zI (i : Int))), (2, .int (zI y)), (3, .int (zI z))]) rfl ?_
  have hnb : U.nb ≤ 8 := hU.2.2.1
  have hs0 := hU.2.2.2.1
  have hi8 : i < 8 := by omega
  have hTc := hS.2.2.2.2.2.2 i hi8
  have ht := hTc.1.2.1
  have hc : ∀ j w, j < S.tn i → w < 3 → S.tr i j w ≤ 100 := fun j w a b => hTc.1.2.2.2 j w a b
  have hgl := tGe_le (S.tr i) (S.tn i)
  
  refine zv_aload_n C 0 dX11_part_0 rfl rfl ?_
  refine zv_iload_n C 1 dX11_part_1 rfl rfl ?_
  refine zv_cviD (st := []) C (c0_X11_noBody hfl E σ σc U ((i : Int)) hB hU (by omega)) mX11_noBody kX11_319 (by decide : kd 327 = 10) rfl rfl rfl ⟨rfl, rfl⟩ (show zfit (zrm 1 25) 2 (zrm 2 46) = true from rfl) (Nat.le_of_ble_eq_true rfl) dX11_part_2 ⟨Nat.zero_le _, Nat.zero_le _⟩ ?_
  refine zv_if_neZ (tgt := 63) C (by omega) dX11_part_5 (by decide) (fun h5 => absurd h5 (by decide)) (fun h5 => ?_)
  refine zv_aload_n C 0 dX11_part_8 rfl rfl ?_
  refine zv_iload_n C 2 dX11_part_9 rfl rfl ?_
  refine zv_i2lZ C (by omega) dX11_part_10 ?_
  refine zv_lconst (v := zL 0) C dX11_part_11 (by decide) ?_
  refine zv_aload_n C 0 dX11_part_12 rfl rfl ?_
  refine zv_iload_n C 1 dX11_part_13 rfl rfl ?_
  refine zv_cviD (st := [.long (zL 0), .long (zL y), .ref (ob E 327)]) C (c_X11_parts hfl E (thW σ 0) U.nb S i hW (by omega)) mX11_parts kX11_188 (by decide : kd 327 = 10) rfl rfl rfl ⟨rfl, rfl⟩ (show zfit (zrm 1 21) 2 (zrm 2 46) = true from rfl) (Nat.le_of_ble_eq_true rfl) dX11_part_14 ⟨Nat.zero_le _, Nat.zero_le _⟩ ?_
  refine zv_iconst (v := zI 1) C dX11_part_17 rfl ?_
  refine zv_isubZ C dX11_part_18 ?_
  refine zv_i2lZ C (by omega) dX11_part_19 ?_
  refine zv_csiD (st := [.ref (ob E 327)]) C (c_X11_inRange hfl E (thW σ 0) (y) (0) ((S.tn i : Int) - 1) (by omega) (by omega) (by omega)) mX11_inRange kX11_71 rfl ⟨rfl, rfl⟩ (show zfit (zrm 0 0) 6 (zrm 2 46) = true from rfl) (Nat.le_of_ble_eq_true rfl) dX11_part_20 ⟨Nat.zero_le _, Nat.zero_le _⟩ ?_
  refine zv_if_neB (tgt := 30) C dX11_part_23 (by decide) (fun h23 => ?_) (fun h23 => ?_)
  · skip
    refine zv_iconst (v := zI 0) C dX11_part_30 rfl ?_
    refine zv_iconst (v := zI 2) C dX11_part_31 rfl ?_
    exfalso
    omega
  · skip
    refine zv_iconst (v := zI 1) C dX11_part_26 rfl ?_
    refine zv_goto (tgt := 31) C dX11_part_27 (by decide) ?_
    refine zv_iconst (v := zI 2) C dX11_part_31 rfl ?_
    refine zv_cviD (st := []) C (c1_X11_fails hfl E (thW σ 0) 2) mX11_fails kX11_309 (by decide : kd 327 = 10) rfl rfl rfl ⟨rfl, rfl⟩ (show zfit (zrm 0 0) 3 (zrm 2 46) = true from rfl) (Nat.le_of_ble_eq_true rfl) dX11_part_32 ⟨Nat.zero_le _, Nat.zero_le _⟩ ?_
    refine zv_if_neZ (tgt := 63) C (by omega) dX11_part_35 (by decide) (fun h35 => ?_) (fun h35 => absurd h35 (by decide))
    refine zv_iconst (v := zI 0) C dX11_part_63 rfl ?_
    exact zv_iret C hr rfl dX11_part_64 ⟨rfl, mK_th2 _ _ _⟩
set_option maxRecDepth 20000 in
theorem x3_X11_part {l : Launch} (hfl : l.stackTraces = false) (E : zE) (σ : zS) (σc : zS) (U : zSU) (S : zST) (i j : Nat) (z : Int) (hB : zRb (gI σ 328) U) (hU : zSUp σc 29 U) (hW : zRo (gI σ 332) U.nb S) (hS : zSTp σc 34 S) (hi : i < U.nb) (hj : j < S.tn i) (hz : -2147483648 ≤ z ∧ z < 2147483648) (hno : ¬ (0 ≤ z ∧ z ≤ 2)) : zRi l E yX11_part cX11_part 4 .int (zrm 2 46) [.ref (ob E 327), .int (zI (i : Int)), .int (zI (j : Int)), .int (zI z)] σ (fun r τ => r = zI 0 ∧ mK σ τ 3) := by
  refine Met.ofW (cc := cX11_part) (maxL := 4) (ret := (some .int)) (by decide +kernel) rfl ?_
  intro p e s m args below meth c s₁ B hml hv
  obtain ⟨rfl, hd⟩ := hv
  have C := zX_of (own := RX11) hfl B hml rfl hd rfl
  have hr := B.returns
  refine zV_go hd (Nat.le_of_ble_eq_true rfl) (lv := [(0, .ref (ob E 327)), (1, .int (zI (i : Int))), (2, .int (zI (j : Int))), (3, .int (zI z))]) rfl ?_
  have hnb : U.nb ≤ 8 := hU.2.2.1
  have hs0 := hU.2.2.2.1
  have hi8 : i < 8 := by omega
  have hTc := hS.2.2.2.2.2.2 i hi8
  have ht := hTc.1.2.1
  have hc : ∀ j w, j < S.tn i → w < 3 → S.tr i j w ≤ 100 := fun j w a b => hTc.1.2.2.2 j w a b
  have hgl := tGe_le (S.tr i) (S.tn i)
  
  refine zv_aload_n C 0 dX11_part_0 rfl rfl ?_
  refine zv_iload_n C 1 dX11_part_1 rfl rfl ?_
  refine zv_cviD (st := []) C (c0_X11_noBody hfl E σ σc U ((i : Int)) hB hU (by omega)) mX11_noBody kX11_319 (by decide : kd 327 = 10) rfl rfl rfl ⟨rfl, rfl⟩ (show zfit (zrm 1 25) 2 (zrm 2 46) = true from rfl) (Nat.le_of_ble_eq_true rfl) dX11_part_2 ⟨Nat.zero_le _, Nat.zero_le _⟩ ?_
  refine zv_if_neZ (tgt := 63) C (by omega) dX11_part_5 (by decide) (fun h5 => absurd h5 (by decide)) (fun h5 => ?_)
  refine zv_aload_n C 0 dX11_part_8 rfl rfl ?_
  refine zv_iload_n C 2 dX11_part_9 rfl rfl ?_
  refine zv_i2lZ C (by omega) dX11_part_10 ?_
  refine zv_lconst (v := zL 0) C dX11_part_11 (by decide) ?_
  refine zv_aload_n C 0 dX11_part_12 rfl rfl ?_
  refine zv_iload_n C 1 dX11_part_13 rfl rfl ?_
  refine zv_cviD (st := [.long (zL 0), .long (zL (j : Int)), .ref (ob E 327)]) C (c_X11_parts hfl E (thW σ 0) U.nb S i hW (by omega)) mX11_parts kX11_188 (by decide : kd 327 = 10) rfl rfl rfl ⟨rfl, rfl⟩ (show zfit (zrm 1 21) 2 (zrm 2 46) = true from rfl) (Nat.le_of_ble_eq_true rfl) dX11_part_14 ⟨Nat.zero_le _, Nat.zero_le _⟩ ?_
  refine zv_iconst (v := zI 1) C dX11_part_17 rfl ?_
  refine zv_isubZ C dX11_part_18 ?_
  refine zv_i2lZ C (by omega) dX11_part_19 ?_
  refine zv_csiD (st := [.ref (ob E 327)]) C (c_X11_inRange hfl E (thW σ 0) ((j : Int)) (0) ((S.tn i : Int) - 1) (by omega) (by omega) (by omega)) mX11_inRange kX11_71 rfl ⟨rfl, rfl⟩ (show zfit (zrm 0 0) 6 (zrm 2 46) = true from rfl) (Nat.le_of_ble_eq_true rfl) dX11_part_20 ⟨Nat.zero_le _, Nat.zero_le _⟩ ?_
  refine zv_if_neB (tgt := 30) C dX11_part_23 (by decide) (fun h23 => ?_) (fun h23 => ?_)
  · skip
    refine zv_iconst (v := zI 0) C dX11_part_30 rfl ?_
    refine zv_iconst (v := zI 2) C dX11_part_31 rfl ?_
    refine zv_cviD (st := []) C (c0_X11_fails hfl E (thW σ 0) 2) mX11_fails kX11_309 (by decide : kd 327 = 10) rfl rfl rfl ⟨rfl, rfl⟩ (show zfit (zrm 0 0) 3 (zrm 2 46) = true from rfl) (Nat.le_of_ble_eq_true rfl) dX11_part_32 ⟨Nat.zero_le _, Nat.zero_le _⟩ ?_
    refine zv_if_neZ (tgt := 63) C (by omega) dX11_part_35 (by decide) (fun h35 => absurd h35 (by decide)) (fun h35 => ?_)
    refine zv_aload_n C 0 dX11_part_38 rfl rfl ?_
    refine zv_iload_n C 3 dX11_part_39 rfl rfl ?_
    refine zv_i2lZ C (by omega) dX11_part_40 ?_
    refine zv_lconst (v := zL 0) C dX11_part_41 (by decide) ?_
    refine zv_ldc2 C kX11_256 dX11_part_42 ?_
    refine zv_eql (y := zL 2) (by decide) ?_
    refine zv_csiD (st := [.ref (ob E 327)]) C (c_X11_inRange hfl E (thW σ 0) (z) (0) (2) (by omega) (by omega) (by omega)) mX11_inRange kX11_71 rfl ⟨rfl, rfl⟩ (show zfit (zrm 0 0) 6 (zrm 2 46) = true from rfl) (Nat.le_of_ble_eq_true rfl) dX11_part_45 ⟨Nat.zero_le _, Nat.zero_le _⟩ ?_
    refine zv_if_neB (tgt := 55) C dX11_part_48 (by decide) (fun h48 => ?_) (fun h48 => ?_)
    · skip
      refine zv_iconst (v := zI 0) C dX11_part_55 rfl ?_
      refine zv_iconst (v := zI 3) C dX11_part_56 rfl ?_
      exfalso
      omega
    · skip
      refine zv_iconst (v := zI 1) C dX11_part_51 rfl ?_
      refine zv_goto (tgt := 56) C dX11_part_52 (by decide) ?_
      refine zv_iconst (v := zI 3) C dX11_part_56 rfl ?_
      refine zv_cviD (st := []) C (c1_X11_fails hfl E (thW σ 0) 3) mX11_fails kX11_309 (by decide : kd 327 = 10) rfl rfl rfl ⟨rfl, rfl⟩ (show zfit (zrm 0 0) 3 (zrm 2 46) = true from rfl) (Nat.le_of_ble_eq_true rfl) dX11_part_57 ⟨Nat.zero_le _, Nat.zero_le _⟩ ?_
      refine zv_if_eqZ (tgt := 65) C (by omega) dX11_part_60 (by decide) (fun h60 => absurd h60 (by decide)) (fun h60 => ?_)
      refine zv_iconst (v := zI 0) C dX11_part_63 rfl ?_
      exact zv_iret C hr rfl dX11_part_64 ⟨rfl, mK_th2 _ _ _⟩
  · skip
    refine zv_iconst (v := zI 1) C dX11_part_26 rfl ?_
    refine zv_goto (tgt := 31) C dX11_part_27 (by decide) ?_
    refine zv_iconst (v := zI 2) C dX11_part_31 rfl ?_
    exfalso
    omega
set_option maxRecDepth 20000 in
theorem c_X11_stock {l : Launch} (hfl : l.stackTraces = false) (E : zE) (σ : zS) (nb : Nat) (S : zST) (j : Nat) (hW : zRo (gI σ 332) nb S) (hn : S.n ≤ 16) (hj : j < S.n) : zRi l E yX11_stock cX11_stock 2 .int (zrm 1 25) [.ref (ob E 327), .int (zI (j : Int))] σ (fun r τ => r = zI (S.f j : Int) ∧ mK σ τ 0) := by
  refine Met.ofW (cc := cX11_stock) (maxL := 2) (ret := (some .int)) (by decide +kernel) rfl ?_
  intro p e s m args below meth c s₁ B hml hv
  obtain ⟨rfl, hd⟩ := hv
  have C := zX_of (own := RX11) hfl B hml rfl hd rfl
  have hr := B.returns
  refine zV_go hd (Nat.le_of_ble_eq_true rfl) (lv := [(0, .ref (ob E 327)), (1, .int (zI (j : Int)))]) rfl ?_
  refine zv_aload_n C 0 dX11_stock_0 rfl rfl ?_
  refine zv_iconst (v := zI 0) C dX11_stock_1 rfl ?_
  refine zP10_10 C (by decide : kd 327 = _) kX11_50 dX11_stock_2 ?_
  refine zv_eqS (τ := (thW σ 0)) (rfl) ?_
  refine zv_aload_n C 0 dX11_stock_5 rfl rfl ?_
  refine zv_iload_n C 1 dX11_stock_6 rfl rfl ?_
  refine zv_i2lZ C (by omega) dX11_stock_7 ?_
  refine zv_lconst (v := zL 0) C dX11_stock_8 (by decide) ?_
  refine zv_aload_n C 0 dX11_stock_9 rfl rfl ?_
  refine zG10_4 C (by decide : kd 327 = _) kX11_22 dX11_stock_10 ?_
  refine zv_iconst (v := zI 0) C dX11_stock_13 rfl ?_
  refine zv_iald (j := 0) C (by decide : kd 332 = _) (zI_ix (by omega)) (by decide) dX11_stock_14 ?_
  refine zv_eqi (y := zI (S.n : Int)) (hW.1) ?_
  refine zv_iconst (v := zI 1) C dX11_stock_15 rfl ?_
  refine zv_isubZ C dX11_stock_16 ?_
  refine zv_i2lZ C (by omega) dX11_stock_17 ?_
  refine zv_csiD (st := [.ref (ob E 327)]) C (c_X11_inRange hfl E (thW σ 0) ((j : Int)) (0) ((S.n : Int) - 1) (by omega) (by omega) (by omega)) mX11_inRange kX11_71 rfl ⟨rfl, rfl⟩ (show zfit (zrm 0 0) 6 (zrm 1 25) = true from rfl) (Nat.le_of_ble_eq_true rfl) dX11_stock_18 ⟨Nat.zero_le _, Nat.zero_le _⟩ ?_
  refine zv_if_neB (tgt := 28) C dX11_stock_21 (by decide) (fun h21 => ?_) (fun h21 => ?_)
  · skip
    refine zv_iconst (v := zI 0) C dX11_stock_28 rfl ?_
    refine zv_iconst (v := zI 1) C dX11_stock_29 rfl ?_
    refine zv_cviD (st := []) C (c0_X11_fails hfl E (thW σ 0) 1) mX11_fails kX11_309 (by decide : kd 327 = 10) rfl rfl rfl ⟨rfl, rfl⟩ (show zfit (zrm 0 0) 3 (zrm 1 25) = true from rfl) (Nat.le_of_ble_eq_true rfl) dX11_stock_30 ⟨Nat.zero_le _, Nat.zero_le _⟩ ?_
    refine zv_if_eqZ (tgt := 40) C (by omega) dX11_stock_33 (by decide) (fun h33 => ?_) (fun h33 => absurd h33 (by decide))
    refine zv_aload_n C 0 dX11_stock_40 rfl rfl ?_
    refine zG10_4 C (by decide : kd 327 = _) kX11_22 dX11_stock_41 ?_
    refine zv_iconst (v := zI 1) C dX11_stock_44 rfl ?_
    refine zv_iload_n C 1 dX11_stock_45 rfl rfl ?_
    refine zv_iaddZ C dX11_stock_46 ?_
    refine zv_iald (j := 1 + j) C (by decide : kd 332 = _) (zI_ix (by omega)) (Nat.lt_of_lt_of_eq (show 1 + j < 131 by omega) (by decide)) dX11_stock_47 ?_
    refine zv_eqi (y := (zI (S.f j : Int))) (hW.2.1 j hj) ?_
    exact zv_iret C hr rfl dX11_stock_48 ⟨rfl, mK_th _ _⟩
  · skip
    refine zv_iconst (v := zI 1) C dX11_stock_24 rfl ?_
    refine zv_goto (tgt := 29) C dX11_stock_25 (by decide) ?_
    refine zv_iconst (v := zI 1) C dX11_stock_29 rfl ?_
    exfalso
    omega
set_option maxRecDepth 20000 in
theorem x1_X11_stock {l : Launch} (hfl : l.stackTraces = false) (E : zE) (σ : zS) (nb : Nat) (S : zST) (y : Int) (hW : zRo (gI σ 332) nb S) (hn : S.n ≤ 16) (hy : -2147483648 ≤ y ∧ y < 2147483648) (hno : ¬ (0 ≤ y ∧ y < S.n)) : zRi l E yX11_stock cX11_stock 2 .int (zrm 1 25) [.ref (ob E 327), .int (zI y)] σ (fun r τ => r = zI 0 ∧ mK σ τ 1) := by
  refine Met.ofW (cc := cX11_stock) (maxL := 2) (ret := (some .int)) (by decide +kernel) rfl ?_
  intro p e s m args below meth c s₁ B hml hv
  obtain ⟨rfl, hd⟩ := hv
  have C := zX_of (own := RX11) hfl B hml rfl hd rfl
  have hr := B.returns
  refine zV_go hd (Nat.le_of_ble_eq_true rfl) (lv := [(0, .ref (ob E 327)), (1, .int (zI y))]) rfl ?_
  refine zv_aload_n C 0 dX11_stock_0 rfl rfl ?_
  refine zv_iconst (v := zI 0) C dX11_stock_1 rfl ?_
  refine zP10_10 C (by decide : kd 327 = _) kX11_50 dX11_stock_2 ?_
  refine zv_eqS (τ := (thW σ 0)) (rfl) ?_
  refine zv_aload_n C 0 dX11_stock_5 rfl rfl ?_
  refine zv_iload_n C 1 dX11_stock_6 rfl rfl ?_
  refine zv_i2lZ C (by omega) dX11_stock_7 ?_
  refine zv_lconst (v := zL 0) C dX11_stock_8 (by decide) ?_
  refine zv_aload_n C 0 dX11_stock_9 rfl rfl ?_
  refine zG10_4 C (by decide : kd 327 = _) kX11_22 dX11_stock_10 ?_
  refine zv_iconst (v := zI 0) C dX11_stock_13 rfl ?_
  refine zv_iald (j := 0) C (by decide : kd 332 = _) (zI_ix (by omega)) (by decide) dX11_stock_14 ?_
  refine zv_eqi (y := zI (S.n : Int)) (hW.1) ?_
  refine zv_iconst (v := zI 1) C dX11_stock_15 rfl ?_
  refine zv_isubZ C dX11_stock_16 ?_
  refine zv_i2lZ C (by omega) dX11_stock_17 ?_
  refine zv_csiD (st := [.ref (ob E 327)]) C (c_X11_inRange hfl E (thW σ 0) (y) (0) ((S.n : Int) - 1) (by omega) (by omega) (by omega)) mX11_inRange kX11_71 rfl ⟨rfl, rfl⟩ (show zfit (zrm 0 0) 6 (zrm 1 25) = true from rfl) (Nat.le_of_ble_eq_true rfl) dX11_stock_18 ⟨Nat.zero_le _, Nat.zero_le _⟩ ?_
  refine zv_if_neB (tgt := 28) C dX11_stock_21 (by decide) (fun h21 => ?_) (fun h21 => ?_)
  · skip
    refine zv_iconst (v := zI 0) C dX11_stock_28 rfl ?_
    refine zv_iconst (v := zI 1) C dX11_stock_29 rfl ?_
    exfalso
    omega
  · skip
    refine zv_iconst (v := zI 1) C dX11_stock_24 rfl ?_
    refine zv_goto (tgt := 29) C dX11_stock_25 (by decide) ?_
    refine zv_iconst (v := zI 1) C dX11_stock_29 rfl ?_
    refine zv_cviD (st := []) C (c1_X11_fails hfl E (thW σ 0) 1) mX11_fails kX11_309 (by decide : kd 327 = 10) rfl rfl rfl ⟨rfl, rfl⟩ (show zfit (zrm 0 0) 3 (zrm 1 25) = true from rfl) (Nat.le_of_ble_eq_true rfl) dX11_stock_30 ⟨Nat.zero_le _, Nat.zero_le _⟩ ?_
    refine zv_if_eqZ (tgt := 40) C (by omega) dX11_stock_33 (by decide) (fun h33 => absurd h33 (by decide)) (fun h33 => ?_)
    refine zv_iconst (v := zI 0) C dX11_stock_36 rfl ?_
    refine zv_goto (tgt := 48) C dX11_stock_37 (by decide) ?_
    exact zv_iret C hr rfl dX11_stock_48 ⟨rfl, mK_th2 _ _ _⟩
set_option maxRecDepth 20000 in
theorem c_X11_backlash {l : Launch} (hfl : l.stackTraces = false) (E : zE) (σ : zS) (σc : zS) (U : zSU) (S : zST) (i : Nat) (hB : zRb (gI σ 328) U) (hU : zSUp σc 29 U) (hW : zRo (gI σ 332) U.nb S) (hS : zSTp σc 34 S) (hi : i < U.nb) : zRi l E yX11_backlash cX11_backlash 2 .int (zrm 3 73) [.ref (ob E 327), .int (zI (i : Int))] σ (fun r τ => r = zI (qPlay S i) ∧ mK σ τ 0) := by
  refine Met.ofW (cc := cX11_backlash) (maxL := 2) (ret := (some .int)) (by decide +kernel) rfl ?_
  intro p e s m args below meth c s₁ B hml hv
  obtain ⟨rfl, hd⟩ := hv
  have C := zX_of (own := RX11) hfl B hml rfl hd rfl
  have hr := B.returns
  refine zV_go hd (Nat.le_of_ble_eq_true rfl) (lv := [(0, .ref (ob E 327)), (1, .int (zI (i : Int)))]) rfl ?_
  have hnb : U.nb ≤ 8 := hU.2.2.1
  have hs0 := hU.2.2.2.1
  
  refine zv_aload_n C 0 dX11_backlash_0 rfl rfl ?_
  refine zv_iload_n C 1 dX11_backlash_1 rfl rfl ?_
  refine zv_cviD (st := []) C (c0_X11_noBody hfl E σ σc U ((i : Int)) hB hU (by omega)) mX11_noBody kX11_319 (by decide : kd 327 = 10) rfl rfl rfl ⟨rfl, rfl⟩ (show zfit (zrm 1 25) 2 (zrm 3 73) = true from rfl) (Nat.le_of_ble_eq_true rfl) dX11_backlash_2 ⟨Nat.zero_le _, Nat.zero_le _⟩ ?_
  refine zv_if_eqZ (tgt := 12) C (by omega) dX11_backlash_5 (by decide) (fun h5 => ?_) (fun h5 => absurd h5 (by decide))
  refine zv_aload_n C 0 dX11_backlash_12 rfl rfl ?_
  refine zv_iload_n C 1 dX11_backlash_13 rfl rfl ?_
  refine zv_cviD (st := []) C (c_X11_backlashNow hfl E (thW σ 0) σc U S i hW hS (by omega)) mX11_backlashNow kX11_408 (by decide : kd 327 = 10) rfl rfl rfl ⟨rfl, rfl⟩ (show zfit (zrm 2 44) 10 (zrm 3 73) = true from rfl) (Nat.le_of_ble_eq_true rfl) dX11_backlash_14 ⟨Nat.zero_le _, Nat.zero_le _⟩ ?_
  exact zv_iret C hr rfl dX11_backlash_17 ⟨rfl, mK_th _ _⟩
set_option maxRecDepth 20000 in
theorem x1_X11_backlash {l : Launch} (hfl : l.stackTraces = false) (E : zE) (σ : zS) (σc : zS) (U : zSU) (y : Int) (hB : zRb (gI σ 328) U) (hU : zSUp σc 29 U) (hy : -2147483648 ≤ y ∧ y < 2147483648) (hno : ¬ (0 ≤ y ∧ y < U.nb)) : zRi l E yX11_backlash cX11_backlash 2 .int (zrm 2 46) [.ref (ob E 327), .int (zI y)] σ (fun r τ => r = zI 0 ∧ mK σ τ 1) := by
  refine Met.ofW (cc := cX11_backlash) (maxL := 2) (ret := (some .int)) (by decide +kernel) rfl ?_
  intro p e s m args below meth c s₁ B hml hv
  obtain ⟨rfl, hd⟩ := hv
  have C := zX_of (own := RX11) hfl B hml rfl hd rfl
  have hr := B.returns
  refine zV_go hd (Nat.le_of_ble_eq_true rfl) (lv := [(0, .ref (ob E 327)), (1, .int (zI y))]) rfl ?_
  have hnb : U.nb ≤ 8 := hU.2.2.1
  have hs0 := hU.2.2.2.1
  
  refine zv_aload_n C 0 dX11_backlash_0 rfl rfl ?_
  refine zv_iload_n C 1 dX11_backlash_1 rfl rfl ?_
  refine zv_cviD (st := []) C (c1_X11_noBody hfl E σ σc U (y) hB hU (by omega) hno) mX11_noBody kX11_319 (by decide : kd 327 = 10) rfl rfl rfl ⟨rfl, rfl⟩ (show zfit (zrm 1 25) 2 (zrm 2 46) = true from rfl) (Nat.le_of_ble_eq_true rfl) dX11_backlash_2 ⟨Nat.zero_le _, Nat.zero_le _⟩ ?_
  refine zv_if_eqZ (tgt := 12) C (by omega) dX11_backlash_5 (by decide) (fun h5 => absurd h5 (by decide)) (fun h5 => ?_)
  refine zv_iconst (v := zI 0) C dX11_backlash_8 rfl ?_
  refine zv_goto (tgt := 17) C dX11_backlash_9 (by decide) ?_
  exact zv_iret C hr rfl dX11_backlash_17 ⟨rfl, by first | exact mK_th _ _ | exact mK_th2 _ _ _ | exact mK_C (mK_W (mK_th _ _) _ _) _ | exact mK_W (mK_th _ _) _ _⟩
set_option maxRecDepth 20000 in
theorem c_X11_lag {l : Launch} (hfl : l.stackTraces = false) (E : zE) (σ : zS) (σc : zS) (U : zSU) (S : zST) (i : Nat) (hB : zRb (gI σ 328) U) (hU : zSUp σc 29 U) (hW : zRo (gI σ 332) U.nb S) (hS : zSTp σc 34 S) (hi : i < U.nb) : zRi l E yX11_lag cX11_lag 2 .int (zrm 2 46) [.ref (ob E 327), .int (zI (i : Int))] σ (fun r τ => r = zI (S.lg i) ∧ mK σ τ 0) := by
  refine Met.ofW (cc := cX11_lag) (maxL := 2) (ret := (some .int)) (by decide +kernel) rfl ?_
  intro p e s m args below meth c s₁ B hml hv
  obtain ⟨rfl, hd⟩ := hv
  have C := zX_of (own := RX11) hfl B hml rfl hd rfl
  have hr := B.returns
  refine zV_go hd (Nat.le_of_ble_eq_true rfl) (lv := [(0, .ref (ob E 327)), (1, .int (zI (i : Int)))]) rfl ?_
  have hnb : U.nb ≤ 8 := hU.2.2.1
  have hs0 := hU.2.2.2.1
  
  refine zv_aload_n C 0 dX11_lag_0 rfl rfl ?_
  refine zv_iload_n C 1 dX11_lag_1 rfl rfl ?_
  refine zv_cviD (st := []) C (c0_X11_noBody hfl E σ σc U ((i : Int)) hB hU (by omega)) mX11_noBody kX11_319 (by decide : kd 327 = 10) rfl rfl rfl ⟨rfl, rfl⟩ (show zfit (zrm 1 25) 2 (zrm 2 46) = true from rfl) (Nat.le_of_ble_eq_true rfl) dX11_lag_2 ⟨Nat.zero_le _, Nat.zero_le _⟩ ?_
  refine zv_if_eqZ (tgt := 12) C (by omega) dX11_lag_5 (by decide) (fun h5 => ?_) (fun h5 => absurd h5 (by decide))
  refine zv_aload_n C 0 dX11_lag_12 rfl rfl ?_
  refine zG10_4 C (by decide : kd 327 = _) kX11_22 dX11_lag_13 ?_
  refine zv_iload_n C 1 dX11_lag_16 rfl rfl ?_
  refine zv_iconst (v := zI 1) C dX11_lag_17 rfl ?_
  refine zv_csiD (st := [.ref (ob E 332)]) C (c_X11_trainAt hfl E (thW σ 0) i (1) (by omega) (by omega)) mX11_trainAt kX11_53 rfl ⟨rfl, rfl⟩ (show zfit (zrm 0 0) 2 (zrm 2 46) = true from rfl) (Nat.le_of_ble_eq_true rfl) dX11_lag_18 ⟨Nat.zero_le _, Nat.zero_le _⟩ ?_
  refine zv_iald (j := 19 + 14 * i + 1) C (by decide : kd 332 = _) (zI_ix rfl) (Nat.lt_of_lt_of_eq (show 19 + 14 * i + 1 < 131 by omega) (by decide)) dX11_lag_21 ?_
  refine zv_eqi (y := (zI (S.lg i))) (by rw [show 19 + 14 * i + 1 = 20 + 14 * i by omega]; exact (hW.2.2.2.2 i (by omega)).2.1 hi) ?_
  exact zv_iret C hr rfl dX11_lag_22 ⟨rfl, mK_th _ _⟩
set_option maxRecDepth 20000 in
theorem x1_X11_lag {l : Launch} (hfl : l.stackTraces = false) (E : zE) (σ : zS) (σc : zS) (U : zSU) (y : Int) (hB : zRb (gI σ 328) U) (hU : zSUp σc 29 U) (hy : -2147483648 ≤ y ∧ y < 2147483648) (hno : ¬ (0 ≤ y ∧ y < U.nb)) : zRi l E yX11_lag cX11_lag 2 .int (zrm 2 46) [.ref (ob E 327), .int (zI y)] σ (fun r τ => r = zI 0 ∧ mK σ τ 1) := by
  refine Met.ofW (cc := cX11_lag) (maxL := 2) (ret := (some .int)) (by decide +kernel) rfl ?_
  intro p e s m args below meth c s₁ B hml hv
  obtain ⟨rfl, hd⟩ := hv
  have C := zX_of (own := RX11) hfl B hml rfl hd rfl
  have hr := B.returns
  refine zV_go hd (Nat.le_of_ble_eq_true rfl) (lv := [(0, .ref (ob E 327)), (1, .int (zI y))]) rfl ?_
  have hnb : U.nb ≤ 8 := hU.2.2.1
  have hs0 := hU.2.2.2.1
  
  refine zv_aload_n C 0 dX11_lag_0 rfl rfl ?_
  refine zv_iload_n C 1 dX11_lag_1 rfl rfl ?_
  refine zv_cviD (st := []) C (c1_X11_noBody hfl E σ σc U (y) hB hU (by omega) hno) mX11_noBody kX11_319 (by decide : kd 327 = 10) rfl rfl rfl ⟨rfl, rfl⟩ (show zfit (zrm 1 25) 2 (zrm 2 46) = true from rfl) (Nat.le_of_ble_eq_true rfl) dX11_lag_2 ⟨Nat.zero_le _, Nat.zero_le _⟩ ?_
  refine zv_if_eqZ (tgt := 12) C (by omega) dX11_lag_5 (by decide) (fun h5 => absurd h5 (by decide)) (fun h5 => ?_)
  refine zv_iconst (v := zI 0) C dX11_lag_8 rfl ?_
  refine zv_goto (tgt := 22) C dX11_lag_9 (by decide) ?_
  exact zv_iret C hr rfl dX11_lag_22 ⟨rfl, by first | exact mK_th _ _ | exact mK_th2 _ _ _ | exact mK_C (mK_W (mK_th _ _) _ _) _ | exact mK_W (mK_th _ _) _ _⟩
set_option maxRecDepth 20000 in
theorem c_X11_shown {l : Launch} (hfl : l.stackTraces = false) (E : zE) (σ : zS) (σc : zS) (U : zSU) (S : zST) (i : Nat) (hB : zRb (gI σ 328) U) (hU : zSUp σc 29 U) (hW : zRo (gI σ 332) U.nb S) (hS : zSTp σc 34 S) (hi : i < U.nb) (hq9 : zSTq S) : zRi l E yX11_shown cX11_shown 2 .int (zrm 6 151) [.ref (ob E 327), .int (zI (i : Int))] σ (fun r τ => r = zI ((qDrum U S i (S.dy : Int) + S.lg i) % 1296000) ∧ mK σ τ 0) := by
  refine Met.ofW (cc := cX11_shown) (maxL := 2) (ret := (some .int)) (by decide +kernel) rfl ?_
  intro p e s m args below meth c s₁ B hml hv
  obtain ⟨rfl, hd⟩ := hv
  have C := zX_of (own := RX11) hfl B hml rfl hd rfl
  have hr := B.returns
  refine zV_go hd (Nat.le_of_ble_eq_true rfl) (lv := [(0, .ref (ob E 327)), (1, .int (zI (i : Int)))]) rfl ?_
  have hnb : U.nb ≤ 8 := hU.2.2.1
  have hs0 := hU.2.2.2.1
  have hlg := hq9.2 i (by omega)
  have hdb := qDrum_b hU hS hi (d := (S.dy : Int)) (by have := hq9.1; omega)
  refine zv_aload_n C 0 dX11_shown_0 rfl rfl ?_
  refine zv_iload_n C 1 dX11_shown_1 rfl rfl ?_
  refine zv_cviD (st := []) C (c0_X11_noBody hfl E σ σc U ((i : Int)) hB hU (by omega)) mX11_noBody kX11_319 (by decide : kd 327 = 10) rfl rfl rfl ⟨rfl, rfl⟩ (show zfit (zrm 1 25) 2 (zrm 6 151) = true from rfl) (Nat.le_of_ble_eq_true rfl) dX11_shown_2 ⟨Nat.zero_le _, Nat.zero_le _⟩ ?_
  refine zv_if_eqZ (tgt := 12) C (by omega) dX11_shown_5 (by decide) (fun h5 => ?_) (fun h5 => absurd h5 (by decide))
  refine zv_aload_n C 0 dX11_shown_12 rfl rfl ?_
  refine zv_iload_n C 1 dX11_shown_13 rfl rfl ?_
  refine zv_aload_n C 0 dX11_shown_14 rfl rfl ?_
  refine zG10_4 C (by decide : kd 327 = _) kX11_22 dX11_shown_15 ?_
  refine zv_bipush (v := zI 18) C dX11_shown_18 (by decide) ?_
  refine zv_iald (j := 18) C (by decide : kd 332 = _) (zI_ix (by omega)) (by decide) dX11_shown_20 ?_
  refine zv_eqi (y := zI (S.dy : Int)) (hW.2.2.2.1) ?_
  refine zv_cvlD (st := []) C (c_X11_drum hfl E (thW σ 0) σc U S i S.dy hB hU hW hS hi hq9.1) mX11_drum kX11_405 (by decide : kd 327 = 10) rfl rfl rfl ⟨rfl, rfl⟩ (show zfit (zrm 5 127) 5 (zrm 6 151) = true from rfl) (Nat.le_of_ble_eq_true rfl) dX11_shown_21 ⟨Nat.zero_le _, Nat.zero_le _⟩ ?_
  refine zv_aload_n C 0 dX11_shown_24 rfl rfl ?_
  refine zG10_4 C (by decide : kd 327 = _) kX11_22 dX11_shown_25 ?_
  refine zv_iload_n C 1 dX11_shown_28 rfl rfl ?_
  refine zv_iconst (v := zI 1) C dX11_shown_29 rfl ?_
  refine zv_csiD (st := [.ref (ob E 332), .long (zL (qDrum U S i (S.dy : Int)))]) C (c_X11_trainAt hfl E (mC (mW (thW σ 0) (qPtr U S i).1 (qPtr U S i).2) (pCut U S i S.dy)) i (1) (by omega) (by omega)) mX11_trainAt kX11_53 rfl ⟨rfl, rfl⟩ (show zfit (zrm 0 0) 2 (zrm 6 151) = true from rfl) (Nat.le_of_ble_eq_true rfl) dX11_shown_30 ⟨Nat.zero_le _, Nat.zero_le _⟩ ?_
  refine zv_iald (j := 19 + 14 * i + 1) C (by decide : kd 332 = _) (zI_ix rfl) (Nat.lt_of_lt_of_eq (show 19 + 14 * i + 1 < 131 by omega) (by decide)) dX11_shown_33 ?_
  refine zv_eqi (y := (zI (S.lg i))) (by rw [show 19 + 14 * i + 1 = 20 + 14 * i by omega]; exact (hW.2.2.2.2 i (by omega)).2.1 hi) ?_
  refine zv_i2lZ C (by omega) dX11_shown_34 ?_
  refine zv_laddZ C dX11_shown_35 ?_
  refine zv_ldc2 C kX11_281 dX11_shown_36 ?_
  refine zv_eql (y := zL 1296000) (by decide) ?_
  refine zv_cslD (st := []) C (c_J9_floorMod_f86c9 hfl E (mC (mW (thW σ 0) (qPtr U S i).1 (qPtr U S i).2) (pCut U S i S.dy)) ((qDrum U S i (S.dy : Int)) + (S.lg i)) (1296000) (by omega) (by omega)) mJ9_floorMod_f86c9 kX11_287 rfl ⟨rfl, rfl⟩ (show zfit (zrm 0 0) 6 (zrm 6 151) = true from rfl) (Nat.le_of_ble_eq_true rfl) dX11_shown_39 ⟨Nat.zero_le _, Nat.zero_le _⟩ ?_
  refine zv_l2iZ C dX11_shown_42 ?_
  exact zv_iret C hr rfl dX11_shown_43 ⟨rfl, by first | exact mK_th _ _ | exact mK_th2 _ _ _ | exact mK_C (mK_W (mK_th _ _) _ _) _ | exact mK_W (mK_th _ _) _ _⟩
set_option maxRecDepth 20000 in
theorem x1_X11_shown {l : Launch} (hfl : l.stackTraces = false) (E : zE) (σ : zS) (σc : zS) (U : zSU) (y : Int) (hB : zRb (gI σ 328) U) (hU : zSUp σc 29 U) (hy : -2147483648 ≤ y ∧ y < 2147483648) (hno : ¬ (0 ≤ y ∧ y < U.nb)) : zRi l E yX11_shown cX11_shown 2 .int (zrm 2 46) [.ref (ob E 327), .int (zI y)] σ (fun r τ => r = zI 0 ∧ mK σ τ 1) := by
  refine Met.ofW (cc := cX11_shown) (maxL := 2) (ret := (some .int)) (by decide +kernel) rfl ?_
  intro p e s m args below meth c s₁ B hml hv
  obtain ⟨rfl, hd⟩ := hv
  have C := zX_of (own := RX11) hfl B hml rfl hd rfl
  have hr := B.returns
  refine zV_go hd (Nat.le_of_ble_eq_true rfl) (lv := [(0, .ref (ob E 327)), (1, .int (zI y))]) rfl ?_
  have hnb : U.nb ≤ 8 := hU.2.2.1
  have hs0 := hU.2.2.2.1
  
  refine zv_aload_n C 0 dX11_shown_0 rfl rfl ?_
  refine zv_iload_n C 1 dX11_shown_1 rfl rfl ?_
  refine zv_cviD (st := []) C (c1_X11_noBody hfl E σ σc U (y) hB hU (by omega) hno) mX11_noBody kX11_319 (by decide : kd 327 = 10) rfl rfl rfl ⟨rfl, rfl⟩ (show zfit (zrm 1 25) 2 (zrm 2 46) = true from rfl) (Nat.le_of_ble_eq_true rfl) dX11_shown_2 ⟨Nat.zero_le _, Nat.zero_le _⟩ ?_
  refine zv_if_eqZ (tgt := 12) C (by omega) dX11_shown_5 (by decide) (fun h5 => absurd h5 (by decide)) (fun h5 => ?_)
  refine zv_iconst (v := zI 0) C dX11_shown_8 rfl ?_
  refine zv_goto (tgt := 43) C dX11_shown_9 (by decide) ?_
  exact zv_iret C hr rfl dX11_shown_43 ⟨rfl, by first | exact mK_th _ _ | exact mK_th2 _ _ _ | exact mK_C (mK_W (mK_th _ _) _ _) _ | exact mK_W (mK_th _ _) _ _⟩
set_option maxRecDepth 20000 in
theorem c_X11_missing {l : Launch} (hfl : l.stackTraces = false) (E : zE) (σ : zS) (σc : zS) (U : zSU) (S : zST) (i : Nat) (hB : zRb (gI σ 328) U) (hU : zSUp σc 29 U) (hW : zRo (gI σ 332) U.nb S) (hS : zSTp σc 34 S) (hi : i < U.nb) : zRi l E yX11_missing cX11_missing 4 .int (zrm 2 46) [.ref (ob E 327), .int (zI (i : Int))] σ (fun r τ => r = zI (dMis S i (S.tn i) : Int) ∧ mK σ τ 0) := by
  refine Met.ofW (cc := cX11_missing) (maxL := 4) (ret := (some .int)) (by decide +kernel) rfl ?_
  intro p e s m args below meth c s₁ B hml hv
  obtain ⟨rfl, hd⟩ := hv
  have C := zX_of (own := RX11) hfl B hml rfl hd rfl
  have hr := B.returns
  refine zV_go hd (Nat.le_of_ble_eq_true rfl) (lv := [(0, .ref (ob E 327)), (1, .int (zI (i : Int)))]) rfl ?_
  have hnb : U.nb ≤ 8 := hU.2.2.1
  have hs0 := hU.2.2.2.1
  have hn16 : S.n ≤ 16 := hS.1.2.1
  have hf9 : ∀ i, i < S.n → S.f i ≤ 1000 := fun i h => Nat.le_trans (hS.1.2.2.2 i h) (by decide)
  have hnb : U.nb ≤ 8 := hU.2.2.1
  have hs0 := hU.2.2.2.1
  have hi8 : i < 8 := by omega
  have hTc := hS.2.2.2.2.2.2 i hi8
  have ht := hTc.1.2.1
  have hc : ∀ j w, j < S.tn i → w < 3 → S.tr i j w ≤ 100 := fun j w a b => hTc.1.2.2.2 j w a b
  have hgl := tGe_le (S.tr i) (S.tn i)
  
  refine zv_aload_n C 0 dX11_missing_0 rfl rfl ?_
  refine zv_iload_n C 1 dX11_missing_1 rfl rfl ?_
  refine zv_cviD (st := []) C (c0_X11_noBody hfl E σ σc U ((i : Int)) hB hU (by omega)) mX11_noBody kX11_319 (by decide : kd 327 = 10) rfl rfl rfl ⟨rfl, rfl⟩ (show zfit (zrm 1 25) 2 (zrm 2 46) = true from rfl) (Nat.le_of_ble_eq_true rfl) dX11_missing_2 ⟨Nat.zero_le _, Nat.zero_le _⟩ ?_
  refine zv_if_eqZ (tgt := 10) C (by omega) dX11_missing_5 (by decide) (fun h5 => ?_) (fun h5 => absurd h5 (by decide))
  refine zv_iconst (v := zI 0) C dX11_missing_10 rfl ?_
  refine zv_istore_n (lv' := [(2, .int (zI 0)), (0, .ref (ob E 327)), (1, .int (zI (i : Int)))]) C dX11_missing_11 rfl (by decide) rfl ?_
  refine zv_iconst (v := zI 0) C dX11_missing_12 rfl ?_
  refine zv_istore_n (lv' := [(3, .int (zI 0)), (2, .int (zI 0)), (0, .ref (ob E 327)), (1, .int (zI (i : Int)))]) C dX11_missing_13 rfl (by decide) rfl ?_
  have q14_20 : (0 : Int) = (0 : Int) := by first | rfl | omega
  have q14_21 : (0 : Int) = (dMis S i 0 : Int) := by first | rfl | omega
  refine zv_sub (lv' := [(0, .ref (ob E 327)), (1, .int (zI (i : Int))), (2, .int (zI (dMis S i 0 : Int))), (3, .int (zI (0 : Int)))]) [2, 3, 1, 0] (zcons rfl (zcons rfl (zcons (zqI q14_21) (zcons (zqI q14_20) rfl)))) ?_
  refine zv_while (α := Nat) (fun v => S.tn i - v) (fun v => v ≤ S.tn i) (fun v => (thW σ 0)) (fun v => [(0, .ref (ob E 327)), (1, .int (zI (i : Int))), (2, .int (zI (dMis S i v : Int))), (3, .int (zI (v : Int)))]) (fun v => []) (fun j hI ih => ?_) (0) (by omega)
  refine zv_iload_n C 3 dX11_missing_14 rfl rfl ?_
  refine zv_aload_n C 0 dX11_missing_15 rfl rfl ?_
  refine zv_iload_n C 1 dX11_missing_16 rfl rfl ?_
  refine zv_cviD (st := [.int (zI (j : Int))]) C (c_X11_parts hfl E (thW σ 0) U.nb S i hW (by omega)) mX11_parts kX11_188 (by decide : kd 327 = 10) rfl rfl rfl ⟨rfl, rfl⟩ (show zfit (zrm 1 21) 2 (zrm 2 46) = true from rfl) (Nat.le_of_ble_eq_true rfl) dX11_missing_17 ⟨Nat.zero_le _, Nat.zero_le _⟩ ?_
  refine zv_icmp_geZ (tgt := 84) C (by omega) (by omega) dX11_missing_20 (by decide) (fun h20 => ?_) (fun h20 => ?_)
  · skip
    refine zv_iload_n C 2 dX11_missing_84 rfl rfl ?_
    exact zv_iret C hr rfl dX11_missing_85 ⟨by rw [show j = S.tn i by omega], mK_th _ _⟩
  · skip
    have hc0 := hc j 0 (by omega) (by omega)
    have hc1 := hc j 1 (by omega) (by omega)
    have hc2 := hc j 2 (by omega) (by omega)
    refine zv_iload_n C 2 dX11_missing_23 rfl rfl ?_
    refine zv_aload_n C 0 dX11_missing_24 rfl rfl ?_
    refine zv_aload_n C 0 dX11_missing_25 rfl rfl ?_
    refine zv_iload_n C 1 dX11_missing_26 rfl rfl ?_
    refine zv_iload_n C 3 dX11_missing_27 rfl rfl ?_
    refine zv_iconst (v := zI 1) C dX11_missing_28 rfl ?_
    refine zv_cviD (st := [.ref (ob E 327), .int (zI (dMis S i j : Int))]) C (c_X11_partOf hfl E (thW σ 0) U.nb S i j 1 hW (by omega) (by omega) ht (by omega)) mX11_partOf kX11_191 (by decide : kd 327 = 10) rfl rfl rfl ⟨rfl, rfl⟩ (show zfit (zrm 1 21) 4 (zrm 2 46) = true from rfl) (Nat.le_of_ble_eq_true rfl) dX11_missing_29 ⟨Nat.zero_le _, Nat.zero_le _⟩ ?_
    refine zv_cviD (st := [.int (zI (dMis S i j : Int))]) C (c_X11_hasStock hfl E (thW σ 0) U.nb S ((S.tr i j 1 : Int)) hW hn16 hf9 (by omega)) mX11_hasStock kX11_172 (by decide : kd 327 = 10) rfl rfl rfl ⟨rfl, rfl⟩ (show zfit (zrm 0 0) 3 (zrm 2 46) = true from rfl) (Nat.le_of_ble_eq_true rfl) dX11_missing_32 ⟨Nat.zero_le _, Nat.zero_le _⟩ ?_
    refine zv_if_eqB (tgt := 42) C dX11_missing_35 (by decide) (fun h35 => ?_) (fun h35 => ?_)
    · skip
      refine zv_iconst (v := zI 1) C dX11_missing_42 rfl ?_
      refine zv_iaddZ C dX11_missing_43 ?_
      refine zv_istore_n (lv' := [(2, .int (zI ((dMis S i j : Int) + 1))), (0, .ref (ob E 327)), (1, .int (zI (i : Int))), (3, .int (zI (j : Int)))]) C dX11_missing_44 rfl (by decide) rfl ?_
      refine zv_iload_n C 0 dX11_missing_45 rfl rfl ?_
      refine zv_aload_n C 1 dX11_missing_46 rfl rfl ?_
      refine zv_iload_n C 2 dX11_missing_47 rfl rfl ?_
      refine zv_iload_n C 3 dX11_missing_48 rfl rfl ?_
      refine zv_iconst (v := zI 0) C dX11_missing_49 rfl ?_
      refine zv_cviD (st := [.int (zI ((dMis S i j : Int) + 1))]) C (c_X11_partOf hfl E (thW σ 0) U.nb S i j 0 hW (by omega) (by omega) ht (by omega)) mX11_partOf kX11_191 (by decide : kd 327 = 10) rfl rfl rfl ⟨rfl, rfl⟩ (show zfit (zrm 1 21) 4 (zrm 2 46) = true from rfl) (Nat.le_of_ble_eq_true rfl) dX11_missing_50 ⟨Nat.zero_le _, Nat.zero_le _⟩ ?_
      refine zv_iconst (v := zI 2) C dX11_missing_53 rfl ?_
      refine zv_icmp_eqZ (tgt := 71) C (by omega) (by omega) dX11_missing_54 (by decide) (fun h54 => ?_) (fun h54 => ?_)
      · skip
        have hd2 : (if S.tr i j 0 ≠ 2 ∧ ¬ sHas S.f (S.tr i j 2 : Int) S.n = true then 1 else 0 : Nat) = 0 := if_neg (fun z => z.1 (by omega))
        refine zv_iconst (v := zI 0) C dX11_missing_71 rfl ?_
        refine zv_goto (tgt := 76) C dX11_missing_72 (by decide) ?_
        refine zv_iaddZ C dX11_missing_76 ?_
        refine zv_istore_n (lv' := [(2, .int (zI (((dMis S i j : Int) + 1) + 0))), (0, .ref (ob E 327)), (1, .int (zI (i : Int))), (3, .int (zI (j : Int)))]) C dX11_missing_77 rfl (by decide) rfl ?_
        refine zv_iinc (v := (zI ((j : Int) + 1))) (lv' := [(3, .int (zI ((j : Int) + 1))), (2, .int (zI (((dMis S i j : Int) + 1) + 0))), (0, .ref (ob E 327)), (1, .int (zI (i : Int)))]) C 3 dX11_missing_78 rfl (zI_add _ _) (by decide) rfl ?_
        refine zv_goto (tgt := 14) C dX11_missing_81 (by decide) ?_
        have q14_65 : ((j : Int) + 1 : Int) = ((j + 1 : Nat) : Int) := by first | rfl | omega
        have q14_66 : (((dMis S i j : Int) + 1) + 0 : Int) = (dMis S i (j + 1) : Int) := by simp only [dMis]; (first | rw [if_pos h35] | rw [if_neg h35]); rw [hd2]; omega
        refine zv_sub (lv' := [(0, .ref (ob E 327)), (1, .int (zI (i : Int))), (2, .int (zI (dMis S i (j + 1) : Int))), (3, .int (zI ((j + 1 : Nat) : Int)))]) [2, 3, 1, 0] (zcons rfl (zcons rfl (zcons (zqI q14_66) (zcons (zqI q14_65) rfl)))) ?_
        exact ih (j + 1) (by omega) (by omega)
      · skip
        refine zv_aload_n C 1 dX11_missing_57 rfl rfl ?_
        refine zv_aload_n C 1 dX11_missing_58 rfl rfl ?_
        refine zv_iload_n C 2 dX11_missing_59 rfl rfl ?_
        refine zv_iload_n C 3 dX11_missing_60 rfl rfl ?_
        refine zv_iconst (v := zI 2) C dX11_missing_61 rfl ?_
        refine zv_cviD (st := [.ref (ob E 327), .int (zI ((dMis S i j : Int) + 1))]) C (c_X11_partOf hfl E (thW σ 0) U.nb S i j 2 hW (by omega) (by omega) ht (by omega)) mX11_partOf kX11_191 (by decide : kd 327 = 10) rfl rfl rfl ⟨rfl, rfl⟩ (show zfit (zrm 1 21) 4 (zrm 2 46) = true from rfl) (Nat.le_of_ble_eq_true rfl) dX11_missing_62 ⟨Nat.zero_le _, Nat.zero_le _⟩ ?_
        refine zv_cviD (st := [.int (zI ((dMis S i j : Int) + 1))]) C (c_X11_hasStock hfl E (thW σ 0) U.nb S ((S.tr i j 2 : Int)) hW hn16 hf9 (by omega)) mX11_hasStock kX11_172 (by decide : kd 327 = 10) rfl rfl rfl ⟨rfl, rfl⟩ (show zfit (zrm 0 0) 3 (zrm 2 46) = true from rfl) (Nat.le_of_ble_eq_true rfl) dX11_missing_65 ⟨Nat.zero_le _, Nat.zero_le _⟩ ?_
        refine zv_if_eqB (tgt := 75) C dX11_missing_68 (by decide) (fun h68 => ?_) (fun h68 => ?_)
        · skip
          have hd2 : (if S.tr i j 0 ≠ 2 ∧ ¬ sHas S.f (S.tr i j 2 : Int) S.n = true then 1 else 0 : Nat) = 1 := if_pos ⟨by omega, h68⟩
          refine zv_iconst (v := zI 1) C dX11_missing_75 rfl ?_
          refine zv_iaddZ C dX11_missing_76 ?_
          refine zv_istore_n (lv' := [(2, .int (zI (((dMis S i j : Int) + 1) + 1))), (0, .ref (ob E 327)), (1, .int (zI (i : Int))), (3, .int (zI (j : Int)))]) C dX11_missing_77 rfl (by decide) rfl ?_
          refine zv_iinc (v := (zI ((j : Int) + 1))) (lv' := [(3, .int (zI ((j : Int) + 1))), (2, .int (zI (((dMis S i j : Int) + 1) + 1))), (0, .ref (ob E 327)), (1, .int (zI (i : Int)))]) C 3 dX11_missing_78 rfl (zI_add _ _) (by decide) rfl ?_
          refine zv_goto (tgt := 14) C dX11_missing_81 (by decide) ?_
          have q14_85 : ((j : Int) + 1 : Int) = ((j + 1 : Nat) : Int) := by first | rfl | omega
          have q14_86 : (((dMis S i j : Int) + 1) + 1 : Int) = (dMis S i (j + 1) : Int) := by simp only [dMis]; (first | rw [if_pos h35] | rw [if_neg h35]); rw [hd2]; omega
          refine zv_sub (lv' := [(0, .ref (ob E 327)), (1, .int (zI (i : Int))), (2, .int (zI (dMis S i (j + 1) : Int))), (3, .int (zI ((j + 1 : Nat) : Int)))]) [2, 3, 1, 0] (zcons rfl (zcons rfl (zcons (zqI q14_86) (zcons (zqI q14_85) rfl)))) ?_
          exact ih (j + 1) (by omega) (by omega)
        · skip
          have hd2 : (if S.tr i j 0 ≠ 2 ∧ ¬ sHas S.f (S.tr i j 2 : Int) S.n = true then 1 else 0 : Nat) = 0 := if_neg (fun z => z.2 h68)
          refine zv_iconst (v := zI 0) C dX11_missing_71 rfl ?_
          refine zv_goto (tgt := 76) C dX11_missing_72 (by decide) ?_
          refine zv_iaddZ C dX11_missing_76 ?_
          refine zv_istore_n (lv' := [(2, .int (zI (((dMis S i j : Int) + 1) + 0))), (0, .ref (ob E 327)), (1, .int (zI (i : Int))), (3, .int (zI (j : Int)))]) C dX11_missing_77 rfl (by decide) rfl ?_
          refine zv_iinc (v := (zI ((j : Int) + 1))) (lv' := [(3, .int (zI ((j : Int) + 1))), (2, .int (zI (((dMis S i j : Int) + 1) + 0))), (0, .ref (ob E 327)), (1, .int (zI (i : Int)))]) C 3 dX11_missing_78 rfl (zI_add _ _) (by decide) rfl ?_
          refine zv_goto (tgt := 14) C dX11_missing_81 (by decide) ?_
          have q14_97 : ((j : Int) + 1 : Int) = ((j + 1 : Nat) : Int) := by first | rfl | omega
          have q14_98 : (((dMis S i j : Int) + 1) + 0 : Int) = (dMis S i (j + 1) : Int) := by simp only [dMis]; (first | rw [if_pos h35] | rw [if_neg h35]); rw [hd2]; omega
          refine zv_sub (lv' := [(0, .ref (ob E 327)), (1, .int (zI (i : Int))), (2, .int (zI (dMis S i (j + 1) : Int))), (3, .int (zI ((j + 1 : Nat) : Int)))]) [2, 3, 1, 0] (zcons rfl (zcons rfl (zcons (zqI q14_98) (zcons (zqI q14_97) rfl)))) ?_
          exact ih (j + 1) (by omega) (by omega)
    · skip
      refine zv_iconst (v := zI 0) C dX11_missing_38 rfl ?_
      refine zv_goto (tgt := 43) C dX11_missing_39 (by decide) ?_
      refine zv_iaddZ C dX11_missing_43 ?_
      refine zv_istore_n (lv' := [(2, .int (zI ((dMis S i j : Int) + 0))), (0, .ref (ob E 327)), (1, .int (zI (i : Int))), (3, .int (zI (j : Int)))]) C dX11_missing_44 rfl (by decide) rfl ?_
      refine zv_iload_n C 0 dX11_missing_45 rfl rfl ?_
      refine zv_aload_n C 1 dX11_missing_46 rfl rfl ?_
      refine zv_iload_n C 2 dX11_missing_47 rfl rfl ?_
      refine zv_iload_n C 3 dX11_missing_48 rfl rfl ?_
      refine zv_iconst (v := zI 0) C dX11_missing_49 rfl ?_
      refine zv_cviD (st := [.int (zI ((dMis S i j : Int) + 0))]) C (c_X11_partOf hfl E (thW σ 0) U.nb S i j 0 hW (by omega) (by omega) ht (by omega)) mX11_partOf kX11_191 (by decide : kd 327 = 10) rfl rfl rfl ⟨rfl, rfl⟩ (show zfit (zrm 1 21) 4 (zrm 2 46) = true from rfl) (Nat.le_of_ble_eq_true rfl) dX11_missing_50 ⟨Nat.zero_le _, Nat.zero_le _⟩ ?_
      refine zv_iconst (v := zI 2) C dX11_missing_53 rfl ?_
      refine zv_icmp_eqZ (tgt := 71) C (by omega) (by omega) dX11_missing_54 (by decide) (fun h54 => ?_) (fun h54 => ?_)
      · skip
        have hd2 : (if S.tr i j 0 ≠ 2 ∧ ¬ sHas S.f (S.tr i j 2 : Int) S.n = true then 1 else 0 : Nat) = 0 := if_neg (fun z => z.1 (by omega))
        refine zv_iconst (v := zI 0) C dX11_missing_71 rfl ?_
        refine zv_goto (tgt := 76) C dX11_missing_72 (by decide) ?_
        refine zv_iaddZ C dX11_missing_76 ?_
        refine zv_istore_n (lv' := [(2, .int (zI (((dMis S i j : Int) + 0) + 0))), (0, .ref (ob E 327)), (1, .int (zI (i : Int))), (3, .int (zI (j : Int)))]) C dX11_missing_77 rfl (by decide) rfl ?_
        refine zv_iinc (v := (zI ((j : Int) + 1))) (lv' := [(3, .int (zI ((j : Int) + 1))), (2, .int (zI (((dMis S i j : Int) + 0) + 0))), (0, .ref (ob E 327)), (1, .int (zI (i : Int)))]) C 3 dX11_missing_78 rfl (zI_add _ _) (by decide) rfl ?_
        refine zv_goto (tgt := 14) C dX11_missing_81 (by decide) ?_
        have q14_122 : ((j : Int) + 1 : Int) = ((j + 1 : Nat) : Int) := by first | rfl | omega
        have q14_123 : (((dMis S i j : Int) + 0) + 0 : Int) = (dMis S i (j + 1) : Int) := by simp only [dMis]; (first | rw [if_pos h35] | rw [if_neg h35]); rw [hd2]; omega
        refine zv_sub (lv' := [(0, .ref (ob E 327)), (1, .int (zI (i : Int))), (2, .int (zI (dMis S i (j + 1) : Int))), (3, .int (zI ((j + 1 : Nat) : Int)))]) [2, 3, 1, 0] (zcons rfl (zcons rfl (zcons (zqI q14_123) (zcons (zqI q14_122) rfl)))) ?_
        exact ih (j + 1) (by omega) (by omega)
      · skip
        refine zv_aload_n C 1 dX11_missing_57 rfl rfl ?_
        refine zv_aload_n C 1 dX11_missing_58 rfl rfl ?_
        refine zv_iload_n C 2 dX11_missing_59 rfl rfl ?_
        refine zv_iload_n C 3 dX11_missing_60 rfl rfl ?_
        refine zv_iconst (v := zI 2) C dX11_missing_61 rfl ?_
        refine zv_cviD (st := [.ref (ob E 327), .int (zI ((dMis S i j : Int) + 0))]) C (c_X11_partOf hfl E (thW σ 0) U.nb S i j 2 hW (by omega) (by omega) ht (by omega)) mX11_partOf kX11_191 (by decide : kd 327 = 10) rfl rfl rfl ⟨rfl, rfl⟩ (show zfit (zrm 1 21) 4 (zrm 2 46) = true from rfl) (Nat.le_of_ble_eq_true rfl) dX11_missing_62 ⟨Nat.zero_le _, Nat.zero_le _⟩ ?_
        refine zv_cviD (st := [.int (zI ((dMis S i j : Int) + 0))]) C (c_X11_hasStock hfl E (thW σ 0) U.nb S ((S.tr i j 2 : Int)) hW hn16 hf9 (by omega)) mX11_hasStock kX11_172 (by decide : kd 327 = 10) rfl rfl rfl ⟨rfl, rfl⟩ (show zfit (zrm 0 0) 3 (zrm 2 46) = true from rfl) (Nat.le_of_ble_eq_true rfl) dX11_missing_65 ⟨Nat.zero_le _, Nat.zero_le _⟩ ?_
        refine zv_if_eqB (tgt := 75) C dX11_missing_68 (by decide) (fun h68 => ?_) (fun h68 => ?_)
        · skip
          have hd2 : (if S.tr i j 0 ≠ 2 ∧ ¬ sHas S.f (S.tr i j 2 : Int) S.n = true then 1 else 0 : Nat) = 1 := if_pos ⟨by omega, h68⟩
          refine zv_iconst (v := zI 1) C dX11_missing_75 rfl ?_
          refine zv_iaddZ C dX11_missing_76 ?_
          refine zv_istore_n (lv' := [(2, .int (zI (((dMis S i j : Int) + 0) + 1))), (0, .ref (ob E 327)), (1, .int (zI (i : Int))), (3, .int (zI (j : Int)))]) C dX11_missing_77 rfl (by decide) rfl ?_
          refine zv_iinc (v := (zI ((j : Int) + 1))) (lv' := [(3, .int (zI ((j : Int) + 1))), (2, .int (zI (((dMis S i j : Int) + 0) + 1))), (0, .ref (ob E 327)), (1, .int (zI (i : Int)))]) C 3 dX11_missing_78 rfl (zI_add _ _) (by decide) rfl ?_
          refine zv_goto (tgt := 14) C dX11_missing_81 (by decide) ?_
          have q14_142 : ((j : Int) + 1 : Int) = ((j + 1 : Nat) : Int) := by first | rfl | omega
          have q14_143 : (((dMis S i j : Int) + 0) + 1 : Int) = (dMis S i (j + 1) : Int) := by simp only [dMis]; (first | rw [if_pos h35] | rw [if_neg h35]); rw [hd2]; omega
          refine zv_sub (lv' := [(0, .ref (ob E 327)), (1, .int (zI (i : Int))), (2, .int (zI (dMis S i (j + 1) : Int))), (3, .int (zI ((j + 1 : Nat) : Int)))]) [2, 3, 1, 0] (zcons rfl (zcons rfl (zcons (zqI q14_143) (zcons (zqI q14_142) rfl)))) ?_
          exact ih (j + 1) (by omega) (by omega)
        · skip
          have hd2 : (if S.tr i j 0 ≠ 2 ∧ ¬ sHas S.f (S.tr i j 2 : Int) S.n = true then 1 else 0 : Nat) = 0 := if_neg (fun z => z.2 h68)
          refine zv_iconst (v := zI 0) C dX11_missing_71 rfl ?_
          refine zv_goto (tgt := 76) C dX11_missing_72 (by decide) ?_
          refine zv_iaddZ C dX11_missing_76 ?_
          refine zv_istore_n (lv' := [(2, .int (zI (((dMis S i j : Int) + 0) + 0))), (0, .ref (ob E 327)), (1, .int (zI (i : Int))), (3, .int (zI (j : Int)))]) C dX11_missing_77 rfl (by decide) rfl ?_
          refine zv_iinc (v := (zI ((j : Int) + 1))) (lv' := [(3, .int (zI ((j : Int) + 1))), (2, .int (zI (((dMis S i j : Int) + 0) + 0))), (0, .ref (ob E 327)), (1, .int (zI (i : Int)))]) C 3 dX11_missing_78 rfl (zI_add _ _) (by decide) rfl ?_
          refine zv_goto (tgt := 14) C dX11_missing_81 (by decide) ?_
          have q14_154 : ((j : Int) + 1 : Int) = ((j + 1 : Nat) : Int) := by first | rfl | omega
          have q14_155 : (((dMis S i j : Int) + 0) + 0 : Int) = (dMis S i (j + 1) : Int) := by simp only [dMis]; (first | rw [if_pos h35] | rw [if_neg h35]); rw [hd2]; omega
          refine zv_sub (lv' := [(0, .ref (ob E 327)), (1, .int (zI (i : Int))), (2, .int (zI (dMis S i (j + 1) : Int))), (3, .int (zI ((j + 1 : Nat) : Int)))]) [2, 3, 1, 0] (zcons rfl (zcons rfl (zcons (zqI q14_155) (zcons (zqI q14_154) rfl)))) ?_
          exact ih (j + 1) (by omega) (by omega)
set_option maxRecDepth 20000 in
theorem x1_X11_missing {l : Launch} (hfl : l.stackTraces = false) (E : zE) (σ : zS) (σc : zS) (U : zSU) (y : Int) (hB : zRb (gI σ 328) U) (hU : zSUp σc 29 U) (hy : -2147483648 ≤ y ∧ y < 2147483648) (hno : ¬ (0 ≤ y ∧ y < U.nb)) : zRi l E yX11_missing cX11_missing 4 .int (zrm 2 46) [.ref (ob E 327), .int (zI y)] σ (fun r τ => r = zI 0 ∧ mK σ τ 1) := by
  refine Met.ofW (cc := cX11_missing) (maxL := 4) (ret := (some .int)) (by decide +kernel) rfl ?_
  intro p e s m args below meth c s₁ B hml hv
  obtain ⟨rfl, hd⟩ := hv
  have C := zX_of (own := RX11) hfl B hml rfl hd rfl
  have hr := B.returns
  refine zV_go hd (Nat.le_of_ble_eq_true rfl) (lv := [(0, .ref (ob E 327)), (1, .int (zI y))]) rfl ?_
  have hnb : U.nb ≤ 8 := hU.2.2.1
  have hs0 := hU.2.2.2.1
  
  refine zv_aload_n C 0 dX11_missing_0 rfl rfl ?_
  refine zv_iload_n C 1 dX11_missing_1 rfl rfl ?_
  refine zv_cviD (st := []) C (c1_X11_noBody hfl E σ σc U (y) hB hU (by omega) hno) mX11_noBody kX11_319 (by decide : kd 327 = 10) rfl rfl rfl ⟨rfl, rfl⟩ (show zfit (zrm 1 25) 2 (zrm 2 46) = true from rfl) (Nat.le_of_ble_eq_true rfl) dX11_missing_2 ⟨Nat.zero_le _, Nat.zero_le _⟩ ?_
  refine zv_if_eqZ (tgt := 10) C (by omega) dX11_missing_5 (by decide) (fun h5 => absurd h5 (by decide)) (fun h5 => ?_)
  refine zv_iconst (v := zI 0) C dX11_missing_8 rfl ?_
  exact zv_iret C hr rfl dX11_missing_9 ⟨rfl, by first | exact mK_th _ _ | exact mK_th2 _ _ _ | exact mK_C (mK_W (mK_th _ _) _ _) _ | exact mK_W (mK_th _ _) _ _⟩
set_option maxRecDepth 20000 in
theorem c_X11_uses {l : Launch} (hfl : l.stackTraces = false) (E : zE) (σ : zS) (σc : zS) (U : zSU) (S : zST) (y : Int) (hB : zRb (gI σ 328) U) (hU : zSUp σc 29 U) (hW : zRo (gI σ 332) U.nb S) (hS : zSTp σc 34 S) (hy : -2147483648 ≤ y ∧ y < 2147483648) : zRi l E yX11_uses cX11_uses 5 .int (zrm 2 44) [.ref (ob E 327), .int (zI y)] σ (fun r τ => r = zI (dUse S y U.nb : Int) ∧ mK σ τ 0) := by
  refine Met.ofW (cc := cX11_uses) (maxL := 5) (ret := (some .int)) (by decide +kernel) rfl ?_
  intro p e s m args below meth c s₁ B hml hv
  obtain ⟨rfl, hd⟩ := hv
  have C := zX_of (own := RX11) hfl B hml rfl hd rfl
  have hr := B.returns
  refine zV_go hd (Nat.le_of_ble_eq_true rfl) (lv := [(0, .ref (ob E 327)), (1, .int (zI y))]) rfl ?_
  have hnb : U.nb ≤ 8 := hU.2.2.1
  have hs0 := hU.2.2.2.1
  
  refine zv_aload_n C 0 dX11_uses_0 rfl rfl ?_
  refine zv_iconst (v := zI 0) C dX11_uses_1 rfl ?_
  refine zP10_10 C (by decide : kd 327 = _) kX11_50 dX11_uses_2 ?_
  refine zv_eqS (τ := (thW σ 0)) (rfl) ?_
  refine zv_iconst (v := zI 0) C dX11_uses_5 rfl ?_
  refine zv_istore_n (lv' := [(2, .int (zI 0)), (0, .ref (ob E 327)), (1, .int (zI y))]) C dX11_uses_6 rfl (by decide) rfl ?_
  refine zv_iconst (v := zI 0) C dX11_uses_7 rfl ?_
  refine zv_istore_n (lv' := [(3, .int (zI 0)), (2, .int (zI 0)), (0, .ref (ob E 327)), (1, .int (zI y))]) C dX11_uses_8 rfl (by decide) rfl ?_
  have q9_11 : (0 : Int) = (0 : Int) := by first | rfl | omega
  have q9_12 : (0 : Int) = (dUse S y 0 : Int) := by first | rfl | omega
  refine zv_sub (lv' := [(0, .ref (ob E 327)), (1, .int (zI y)), (2, .int (zI (dUse S y 0 : Int))), (3, .int (zI (0 : Int)))]) [2, 3, 1, 0] (zcons rfl (zcons rfl (zcons (zqI q9_12) (zcons (zqI q9_11) rfl)))) ?_
  refine zv_while (α := Nat) (fun v => U.nb - v) (fun v => v ≤ U.nb) (fun v => (thW σ 0)) (fun v => [(0, .ref (ob E 327)), (1, .int (zI y)), (2, .int (zI (dUse S y v : Int))), (3, .int (zI (v : Int)))]) (fun v => []) (fun x hI ih => ?_) (0) (by omega)
  have hX := hI
  refine zv_iload_n C 3 dX11_uses_9 rfl rfl ?_
  refine zv_aload_n C 0 dX11_uses_10 rfl rfl ?_
  refine zG10_0 C (by decide : kd 327 = _) kX11_7 dX11_uses_11 ?_
  refine zv_iconst (v := zI 0) C dX11_uses_14 rfl ?_
  refine zv_iald (j := 0) C (by decide : kd 328 = _) (zI_ix (by omega)) (by decide) dX11_uses_15 ?_
  refine zv_eqi (y := zI (U.nb : Int)) (hB.1) ?_
  refine zv_icmp_geZ (tgt := 96) C (by omega) (by omega) dX11_uses_16 (by decide) (fun h16 => ?_) (fun h16 => ?_)
  · skip
    refine zv_iload_n C 2 dX11_uses_96 rfl rfl ?_
    exact zv_iret C hr rfl dX11_uses_97 ⟨by rw [show x = U.nb by omega], mK_th _ _⟩
  · skip
    have hx8 : x < 8 := by omega
    have hTc := hS.2.2.2.2.2.2 x hx8
    have ht := hTc.1.2.1
    have hc : ∀ j w, j < S.tn x → w < 3 → S.tr x j w ≤ 100 := fun j w a b => hTc.1.2.2.2 j w a b
    refine zv_iconst (v := zI 0) C dX11_uses_19 rfl ?_
    refine zv_istore (lv' := [(4, .int (zI 0)), (0, .ref (ob E 327)), (1, .int (zI y)), (2, .int (zI (dUse S y x : Int))), (3, .int (zI (x : Int)))]) C dX11_uses_20  (by decide) rfl ?_
    have q22_33 : (0 : Int) = (0 : Int) := by first | rfl | omega
    have q22_34 : ((dUse S y x : Int) : Int) = (dUse S y x : Int) + (tWh (S.tr x) y 0 : Int) := by rw [tWh]; omega
    refine zv_sub (lv' := [(0, .ref (ob E 327)), (1, .int (zI y)), (2, .int (zI ((dUse S y x : Int) + (tWh (S.tr x) y 0 : Int)))), (3, .int (zI (x : Int))), (4, .int (zI (0 : Int)))]) [1, 2, 3, 4, 0] (zcons rfl (zcons rfl (zcons (zqI q22_34) (zcons rfl (zcons (zqI q22_33) rfl))))) ?_
    refine zv_while (α := Nat) (fun v => S.tn x - v) (fun v => v ≤ S.tn x) (fun v => (thW σ 0)) (fun v => [(0, .ref (ob E 327)), (1, .int (zI y)), (2, .int (zI ((dUse S y x : Int) + (tWh (S.tr x) y v : Int)))), (3, .int (zI (x : Int))), (4, .int (zI (v : Int)))]) (fun v => []) (fun j hI ih22 => ?_) (0) (by omega)
    refine zv_iload C 4 dX11_uses_22 rfl ?_
    refine zv_aload_n C 0 dX11_uses_24 rfl rfl ?_
    refine zv_iload_n C 3 dX11_uses_25 rfl rfl ?_
    refine zv_cviD (st := [.int (zI (j : Int))]) C (c_X11_parts hfl E (thW σ 0) U.nb S x hW (by omega)) mX11_parts kX11_188 (by decide : kd 327 = 10) rfl rfl rfl ⟨rfl, rfl⟩ (show zfit (zrm 1 21) 2 (zrm 2 44) = true from rfl) (Nat.le_of_ble_eq_true rfl) dX11_uses_26 ⟨Nat.zero_le _, Nat.zero_le _⟩ ?_
    refine zv_icmp_geZ (tgt := 90) C (by omega) (by omega) dX11_uses_29 (by decide) (fun h29 => ?_) (fun h29 => ?_)
    · skip
      refine zv_iinc (v := (zI ((x : Int) + 1))) (lv' := [(3, .int (zI ((x : Int) + 1))), (0, .ref (ob E 327)), (1, .int (zI y)), (2, .int (zI ((dUse S y x : Int) + (tWh (S.tr x) y j : Int)))), (4, .int (zI (j : Int)))]) C 3 dX11_uses_90 rfl (zI_add _ _) (by decide) rfl ?_
      refine zv_goto (tgt := 9) C dX11_uses_93 (by decide) ?_
      have q9_45 : ((x : Int) + 1 : Int) = ((x + 1 : Nat) : Int) := by first | rfl | omega
      have q9_46 : ((dUse S y x : Int) + (tWh (S.tr x) y j : Int) : Int) = (dUse S y (x + 1) : Int) := by rw [dUse, show S.tn x = j by omega]; omega
      refine zv_sub (lv' := [(0, .ref (ob E 327)), (1, .int (zI y)), (2, .int (zI (dUse S y (x + 1) : Int))), (3, .int (zI ((x + 1 : Nat) : Int)))]) [1, 2, 3, 0] (zcons rfl (zcons rfl (zcons (zqI q9_46) (zcons (zqI q9_45) rfl)))) ?_
      exact ih (x + 1) (by omega) (by omega)
    · skip
      have hc0 := hc j 0 (by omega) (by omega)
      have hc1 := hc j 1 (by omega) (by omega)
      have hc2 := hc j 2 (by omega) (by omega)
      refine zv_iload_n C 2 dX11_uses_32 rfl rfl ?_
      refine zv_aload_n C 0 dX11_uses_33 rfl rfl ?_
      refine zv_iload_n C 3 dX11_uses_34 rfl rfl ?_
      refine zv_iload C 4 dX11_uses_35 rfl ?_
      refine zv_iconst (v := zI 1) C dX11_uses_37 rfl ?_
      refine zv_cviD (st := [.int (zI ((dUse S y x : Int) + (tWh (S.tr x) y j : Int)))]) C (c_X11_partOf hfl E (thW σ 0) U.nb S x j 1 hW (by omega) (by omega) ht (by omega)) mX11_partOf kX11_191 (by decide : kd 327 = 10) rfl rfl rfl ⟨rfl, rfl⟩ (show zfit (zrm 1 21) 4 (zrm 2 44) = true from rfl) (Nat.le_of_ble_eq_true rfl) dX11_uses_38 ⟨Nat.zero_le _, Nat.zero_le _⟩ ?_
      refine zv_iload_n C 1 dX11_uses_41 rfl rfl ?_
      refine zv_icmp_neZ (tgt := 49) C (by omega) (by omega) dX11_uses_42 (by decide) (fun h42 => ?_) (fun h42 => ?_)
      · skip
        refine zv_iconst (v := zI 0) C dX11_uses_49 rfl ?_
        refine zv_iaddZ C dX11_uses_50 ?_
        refine zv_istore_n (lv' := [(2, .int (zI (((dUse S y x : Int) + (tWh (S.tr x) y j : Int)) + 0))), (0, .ref (ob E 327)), (1, .int (zI y)), (3, .int (zI (x : Int))), (4, .int (zI (j : Int)))]) C dX11_uses_51 rfl (by decide) rfl ?_
        refine zv_iload_n C 0 dX11_uses_52 rfl rfl ?_
        refine zv_aload_n C 1 dX11_uses_53 rfl rfl ?_
        refine zv_iload_n C 3 dX11_uses_54 rfl rfl ?_
        refine zv_iload C 4 dX11_uses_55 rfl ?_
        refine zv_iconst (v := zI 0) C dX11_uses_57 rfl ?_
        refine zv_cviD (st := [.int (zI (((dUse S y x : Int) + (tWh (S.tr x) y j : Int)) + 0))]) C (c_X11_partOf hfl E (thW σ 0) U.nb S x j 0 hW (by omega) (by omega) ht (by omega)) mX11_partOf kX11_191 (by decide : kd 327 = 10) rfl rfl rfl ⟨rfl, rfl⟩ (show zfit (zrm 1 21) 4 (zrm 2 44) = true from rfl) (Nat.le_of_ble_eq_true rfl) dX11_uses_58 ⟨Nat.zero_le _, Nat.zero_le _⟩ ?_
        refine zv_iconst (v := zI 2) C dX11_uses_61 rfl ?_
        refine zv_icmp_eqZ (tgt := 81) C (by omega) (by omega) dX11_uses_62 (by decide) (fun h62 => ?_) (fun h62 => ?_)
        · skip
          refine zv_iconst (v := zI 0) C dX11_uses_81 rfl ?_
          refine zv_iaddZ C dX11_uses_82 ?_
          refine zv_istore_n (lv' := [(2, .int (zI ((((dUse S y x : Int) + (tWh (S.tr x) y j : Int)) + 0) + 0))), (0, .ref (ob E 327)), (1, .int (zI y)), (3, .int (zI (x : Int))), (4, .int (zI (j : Int)))]) C dX11_uses_83 rfl (by decide) rfl ?_
          refine zv_iinc (v := (zI ((j : Int) + 1))) (lv' := [(4, .int (zI ((j : Int) + 1))), (2, .int (zI ((((dUse S y x : Int) + (tWh (S.tr x) y j : Int)) + 0) + 0))), (0, .ref (ob E 327)), (1, .int (zI y)), (3, .int (zI (x : Int)))]) C 4 dX11_uses_84 rfl (zI_add _ _) (by decide) rfl ?_
          refine zv_goto (tgt := 22) C dX11_uses_87 (by decide) ?_
          have q22_79 : ((j : Int) + 1 : Int) = ((j + 1 : Nat) : Int) := by first | rfl | omega
          have q22_80 : ((((dUse S y x : Int) + (tWh (S.tr x) y j : Int)) + 0) + 0 : Int) = (dUse S y x : Int) + (tWh (S.tr x) y (j + 1) : Int) := by simp only [tWh]; (first | rw [if_pos h42] | rw [if_neg h42]); (first | rw [if_neg (fun z => z.1 (by omega))] | rw [if_pos ⟨by omega, h74⟩] | rw [if_neg (fun z => h74 z.2)]); omega
          refine zv_sub (lv' := [(0, .ref (ob E 327)), (1, .int (zI y)), (2, .int (zI ((dUse S y x : Int) + (tWh (S.tr x) y (j + 1) : Int)))), (3, .int (zI (x : Int))), (4, .int (zI ((j + 1 : Nat) : Int)))]) [2, 3, 1, 4, 0] (zcons rfl (zcons rfl (zcons (zqI q22_80) (zcons rfl (zcons (zqI q22_79) rfl))))) ?_
          exact ih22 (j + 1) (by omega) (by omega)
        · skip
          refine zv_aload_n C 1 dX11_uses_65 rfl rfl ?_
          refine zv_iload_n C 3 dX11_uses_66 rfl rfl ?_
          refine zv_iload C 4 dX11_uses_67 rfl ?_
          refine zv_iconst (v := zI 2) C dX11_uses_69 rfl ?_
          refine zv_cviD (st := [.int (zI (((dUse S y x : Int) + (tWh (S.tr x) y j : Int)) + 0))]) C (c_X11_partOf hfl E (thW σ 0) U.nb S x j 2 hW (by omega) (by omega) ht (by omega)) mX11_partOf kX11_191 (by decide : kd 327 = 10) rfl rfl rfl ⟨rfl, rfl⟩ (show zfit (zrm 1 21) 4 (zrm 2 44) = true from rfl) (Nat.le_of_ble_eq_true rfl) dX11_uses_70 ⟨Nat.zero_le _, Nat.zero_le _⟩ ?_
          refine zv_iload_n C 2 dX11_uses_73 rfl rfl ?_
          refine zv_icmp_neZ (tgt := 81) C (by omega) (by omega) dX11_uses_74 (by decide) (fun h74 => ?_) (fun h74 => ?_)
          · skip
            refine zv_iconst (v := zI 0) C dX11_uses_81 rfl ?_
            refine zv_iaddZ C dX11_uses_82 ?_
            refine zv_istore_n (lv' := [(2, .int (zI ((((dUse S y x : Int) + (tWh (S.tr x) y j : Int)) + 0) + 0))), (0, .ref (ob E 327)), (1, .int (zI y)), (3, .int (zI (x : Int))), (4, .int (zI (j : Int)))]) C dX11_uses_83 rfl (by decide) rfl ?_
            refine zv_iinc (v := (zI ((j : Int) + 1))) (lv' := [(4, .int (zI ((j : Int) + 1))), (2, .int (zI ((((dUse S y x : Int) + (tWh (S.tr x) y j : Int)) + 0) + 0))), (0, .ref (ob E 327)), (1, .int (zI y)), (3, .int (zI (x : Int)))]) C 4 dX11_uses_84 rfl (zI_add _ _) (by decide) rfl ?_
            refine zv_goto (tgt := 22) C dX11_uses_87 (by decide) ?_
            have q22_97 : ((j : Int) + 1 : Int) = ((j + 1 : Nat) : Int) := by first | rfl | omega
            have q22_98 : ((((dUse S y x : Int) + (tWh (S.tr x) y j : Int)) + 0) + 0 : Int) = (dUse S y x : Int) + (tWh (S.tr x) y (j + 1) : Int) := by simp only [tWh]; (first | rw [if_pos h42] | rw [if_neg h42]); (first | rw [if_neg (fun z => z.1 (by omega))] | rw [if_pos ⟨by omega, h74⟩] | rw [if_neg (fun z => h74 z.2)]); omega
            refine zv_sub (lv' := [(0, .ref (ob E 327)), (1, .int (zI y)), (2, .int (zI ((dUse S y x : Int) + (tWh (S.tr x) y (j + 1) : Int)))), (3, .int (zI (x : Int))), (4, .int (zI ((j + 1 : Nat) : Int)))]) [2, 3, 1, 4, 0] (zcons rfl (zcons rfl (zcons (zqI q22_98) (zcons rfl (zcons (zqI q22_97) rfl))))) ?_
            exact ih22 (j + 1) (by omega) (by omega)
          · skip
            refine zv_iconst (v := zI 1) C dX11_uses_77 rfl ?_
            refine zv_goto (tgt := 82) C dX11_uses_78 (by decide) ?_
            refine zv_iaddZ C dX11_uses_82 ?_
            refine zv_istore_n (lv' := [(2, .int (zI ((((dUse S y x : Int) + (tWh (S.tr x) y j : Int)) + 0) + 1))), (0, .ref (ob E 327)), (1, .int (zI y)), (3, .int (zI (x : Int))), (4, .int (zI (j : Int)))]) C dX11_uses_83 rfl (by decide) rfl ?_
            refine zv_iinc (v := (zI ((j : Int) + 1))) (lv' := [(4, .int (zI ((j : Int) + 1))), (2, .int (zI ((((dUse S y x : Int) + (tWh (S.tr x) y j : Int)) + 0) + 1))), (0, .ref (ob E 327)), (1, .int (zI y)), (3, .int (zI (x : Int)))]) C 4 dX11_uses_84 rfl (zI_add _ _) (by decide) rfl ?_
            refine zv_goto (tgt := 22) C dX11_uses_87 (by decide) ?_
            have q22_108 : ((j : Int) + 1 : Int) = ((j + 1 : Nat) : Int) := by first | rfl | omega
            have q22_109 : ((((dUse S y x : Int) + (tWh (S.tr x) y j : Int)) + 0) + 1 : Int) = (dUse S y x : Int) + (tWh (S.tr x) y (j + 1) : Int) := by simp only [tWh]; (first | rw [if_pos h42] | rw [if_neg h42]); (first | rw [if_neg (fun z => z.1 (by omega))] | rw [if_pos ⟨by omega, h74⟩] | rw [if_neg (fun z => h74 z.2)]); omega
            refine zv_sub (lv' := [(0, .ref (ob E 327)), (1, .int (zI y)), (2, .int (zI ((dUse S y x : Int) + (tWh (S.tr x) y (j + 1) : Int)))), (3, .int (zI (x : Int))), (4, .int (zI ((j + 1 : Nat) : Int)))]) [2, 3, 1, 4, 0] (zcons rfl (zcons rfl (zcons (zqI q22_109) (zcons rfl (zcons (zqI q22_108) rfl))))) ?_
            exact ih22 (j + 1) (by omega) (by omega)
      · skip
        refine zv_iconst (v := zI 1) C dX11_uses_45 rfl ?_
        refine zv_goto (tgt := 50) C dX11_uses_46 (by decide) ?_
        refine zv_iaddZ C dX11_uses_50 ?_
        refine zv_istore_n (lv' := [(2, .int (zI (((dUse S y x : Int) + (tWh (S.tr x) y j : Int)) + 1))), (0, .ref (ob E 327)), (1, .int (zI y)), (3, .int (zI (x : Int))), (4, .int (zI (j : Int)))]) C dX11_uses_51 rfl (by decide) rfl ?_
        refine zv_iload_n C 0 dX11_uses_52 rfl rfl ?_
        refine zv_aload_n C 1 dX11_uses_53 rfl rfl ?_
        refine zv_iload_n C 3 dX11_uses_54 rfl rfl ?_
        refine zv_iload C 4 dX11_uses_55 rfl ?_
        refine zv_iconst (v := zI 0) C dX11_uses_57 rfl ?_
        refine zv_cviD (st := [.int (zI (((dUse S y x : Int) + (tWh (S.tr x) y j : Int)) + 1))]) C (c_X11_partOf hfl E (thW σ 0) U.nb S x j 0 hW (by omega) (by omega) ht (by omega)) mX11_partOf kX11_191 (by decide : kd 327 = 10) rfl rfl rfl ⟨rfl, rfl⟩ (show zfit (zrm 1 21) 4 (zrm 2 44) = true from rfl) (Nat.le_of_ble_eq_true rfl) dX11_uses_58 ⟨Nat.zero_le _, Nat.zero_le _⟩ ?_
        refine zv_iconst (v := zI 2) C dX11_uses_61 rfl ?_
        refine zv_icmp_eqZ (tgt := 81) C (by omega) (by omega) dX11_uses_62 (by decide) (fun h62 => ?_) (fun h62 => ?_)
        · skip
          refine zv_iconst (v := zI 0) C dX11_uses_81 rfl ?_
          refine zv_iaddZ C dX11_uses_82 ?_
          refine zv_istore_n (lv' := [(2, .int (zI ((((dUse S y x : Int) + (tWh (S.tr x) y j : Int)) + 1) + 0))), (0, .ref (ob E 327)), (1, .int (zI y)), (3, .int (zI (x : Int))), (4, .int (zI (j : Int)))]) C dX11_uses_83 rfl (by decide) rfl ?_
          refine zv_iinc (v := (zI ((j : Int) + 1))) (lv' := [(4, .int (zI ((j : Int) + 1))), (2, .int (zI ((((dUse S y x : Int) + (tWh (S.tr x) y j : Int)) + 1) + 0))), (0, .ref (ob E 327)), (1, .int (zI y)), (3, .int (zI (x : Int)))]) C 4 dX11_uses_84 rfl (zI_add _ _) (by decide) rfl ?_
          refine zv_goto (tgt := 22) C dX11_uses_87 (by decide) ?_
          have q22_131 : ((j : Int) + 1 : Int) = ((j + 1 : Nat) : Int) := by first | rfl | omega
          have q22_132 : ((((dUse S y x : Int) + (tWh (S.tr x) y j : Int)) + 1) + 0 : Int) = (dUse S y x : Int) + (tWh (S.tr x) y (j + 1) : Int) := by simp only [tWh]; (first | rw [if_pos h42] | rw [if_neg h42]); (first | rw [if_neg (fun z => z.1 (by omega))] | rw [if_pos ⟨by omega, h74⟩] | rw [if_neg (fun z => h74 z.2)]); omega
          refine zv_sub (lv' := [(0, .ref (ob E 327)), (1, .int (zI y)), (2, .int (zI ((dUse S y x : Int) + (tWh (S.tr x) y (j + 1) : Int)))), (3, .int (zI (x : Int))), (4, .int (zI ((j + 1 : Nat) : Int)))]) [2, 3, 1, 4, 0] (zcons rfl (zcons rfl (zcons (zqI q22_132) (zcons rfl (zcons (zqI q22_131) rfl))))) ?_
          exact ih22 (j + 1) (by omega) (by omega)
        · skip
          refine zv_aload_n C 1 dX11_uses_65 rfl rfl ?_
          refine zv_iload_n C 3 dX11_uses_66 rfl rfl ?_
          refine zv_iload C 4 dX11_uses_67 rfl ?_
          refine zv_iconst (v := zI 2) C dX11_uses_69 rfl ?_
          refine zv_cviD (st := [.int (zI (((dUse S y x : Int) + (tWh (S.tr x) y j : Int)) + 1))]) C (c_X11_partOf hfl E (thW σ 0) U.nb S x j 2 hW (by omega) (by omega) ht (by omega)) mX11_partOf kX11_191 (by decide : kd 327 = 10) rfl rfl rfl ⟨rfl, rfl⟩ (show zfit (zrm 1 21) 4 (zrm 2 44) = true from rfl) (Nat.le_of_ble_eq_true rfl) dX11_uses_70 ⟨Nat.zero_le _, Nat.zero_le _⟩ ?_
          refine zv_iload_n C 2 dX11_uses_73 rfl rfl ?_
          refine zv_icmp_neZ (tgt := 81) C (by omega) (by omega) dX11_uses_74 (by decide) (fun h74 => ?_) (fun h74 => ?_)
          · skip
            refine zv_iconst (v := zI 0) C dX11_uses_81 rfl ?_
            refine zv_iaddZ C dX11_uses_82 ?_
            refine zv_istore_n (lv' := [(2, .int (zI ((((dUse S y x : Int) + (tWh (S.tr x) y j : Int)) + 1) + 0))), (0, .ref (ob E 327)), (1, .int (zI y)), (3, .int (zI (x : Int))), (4, .int (zI (j : Int)))]) C dX11_uses_83 rfl (by decide) rfl ?_
            refine zv_iinc (v := (zI ((j : Int) + 1))) (lv' := [(4, .int (zI ((j : Int) + 1))), (2, .int (zI ((((dUse S y x : Int) + (tWh (S.tr x) y j : Int)) + 1) + 0))), (0, .ref (ob E 327)), (1, .int (zI y)), (3, .int (zI (x : Int)))]) C 4 dX11_uses_84 rfl (zI_add _ _) (by decide) rfl ?_
            refine zv_goto (tgt := 22) C dX11_uses_87 (by decide) ?_
            have q22_149 : ((j : Int) + 1 : Int) = ((j + 1 : Nat) : Int) := by first | rfl | omega
            have q22_150 : ((((dUse S y x : Int) + (tWh (S.tr x) y j : Int)) + 1) + 0 : Int) = (dUse S y x : Int) + (tWh (S.tr x) y (j + 1) : Int) := by simp only [tWh]; (first | rw [if_pos h42] | rw [if_neg h42]); (first | rw [if_neg (fun z => z.1 (by omega))] | rw [if_pos ⟨by omega, h74⟩] | rw [if_neg (fun z => h74 z.2)]); omega
            refine zv_sub (lv' := [(0, .ref (ob E 327)), (1, .int (zI y)), (2, .int (zI ((dUse S y x : Int) + (tWh (S.tr x) y (j + 1) : Int)))), (3, .int (zI (x : Int))), (4, .int (zI ((j + 1 : Nat) : Int)))]) [2, 3, 1, 4, 0] (zcons rfl (zcons rfl (zcons (zqI q22_150) (zcons rfl (zcons (zqI q22_149) rfl))))) ?_
            exact ih22 (j + 1) (by omega) (by omega)
          · skip
            refine zv_iconst (v := zI 1) C dX11_uses_77 rfl ?_
            refine zv_goto (tgt := 82) C dX11_uses_78 (by decide) ?_
            refine zv_iaddZ C dX11_uses_82 ?_
            refine zv_istore_n (lv' := [(2, .int (zI ((((dUse S y x : Int) + (tWh (S.tr x) y j : Int)) + 1) + 1))), (0, .ref (ob E 327)), (1, .int (zI y)), (3, .int (zI (x : Int))), (4, .int (zI (j : Int)))]) C dX11_uses_83 rfl (by decide) rfl ?_
            refine zv_iinc (v := (zI ((j : Int) + 1))) (lv' := [(4, .int (zI ((j : Int) + 1))), (2, .int (zI ((((dUse S y x : Int) + (tWh (S.tr x) y j : Int)) + 1) + 1))), (0, .ref (ob E 327)), (1, .int (zI y)), (3, .int (zI (x : Int)))]) C 4 dX11_uses_84 rfl (zI_add _ _) (by decide) rfl ?_
            refine zv_goto (tgt := 22) C dX11_uses_87 (by decide) ?_
            have q22_160 : ((j : Int) + 1 : Int) = ((j + 1 : Nat) : Int) := by first | rfl | omega
            have q22_161 : ((((dUse S y x : Int) + (tWh (S.tr x) y j : Int)) + 1) + 1 : Int) = (dUse S y x : Int) + (tWh (S.tr x) y (j + 1) : Int) := by simp only [tWh]; (first | rw [if_pos h42] | rw [if_neg h42]); (first | rw [if_neg (fun z => z.1 (by omega))] | rw [if_pos ⟨by omega, h74⟩] | rw [if_neg (fun z => h74 z.2)]); omega
            refine zv_sub (lv' := [(0, .ref (ob E 327)), (1, .int (zI y)), (2, .int (zI ((dUse S y x : Int) + (tWh (S.tr x) y (j + 1) : Int)))), (3, .int (zI (x : Int))), (4, .int (zI ((j + 1 : Nat) : Int)))]) [2, 3, 1, 4, 0] (zcons rfl (zcons rfl (zcons (zqI q22_161) (zcons rfl (zcons (zqI q22_160) rfl))))) ?_
            exact ih22 (j + 1) (by omega) (by omega)
