/-! the report, a train printed -/
def nmL (tx : Nat → Int) (b k : Nat) : List Nat := (List.range k).map (fun i => (tx (b + i)).toNat)
theorem nmL_s (tx : Nat → Int) (b k : Nat) : nmL tx b (k + 1) = nmL tx b k ++ [(tx (b + k)).toNat] := by
  unfold nmL
  rw [List.range_succ, List.map_append]
  rfl
theorem nmL_l (tx : Nat → Int) (b k : Nat) : (nmL tx b k).length = k := by
  unfold nmL
  rw [List.length_map, List.length_range]
theorem pk_dv {tx : Nat → Int} {b m : Nat} (h : ∀ i, i < m → 97 ≤ tx (b + i) ∧ tx (b + i) ≤ 122) : ∀ d k, k + d = m → pk tx b m / 256 ^ d = pk tx b k := by
  intro d
  induction d with
  | zero => intro k hk; rw [Nat.pow_zero, Nat.div_one, ← hk]; rfl
  | succ d ih =>
    intro k hk
    rw [Nat.pow_succ, ← Nat.div_div_eq_div_mul, ih (k + 1) (by omega)]
    show (pk tx b k * 256 + (tx (b + k)).toNat) / 256 = _
    have := h k (by omega)
    omega
theorem pw_256 (n : Nat) : 2 ^ (8 * n) = 256 ^ n := by
  rw [Nat.pow_mul]
theorem nm_lB {tx : Nat → Int} {b m : Nat} (hm : 1 ≤ m ∧ m ≤ 8) (h : ∀ i, i < m → 97 ≤ tx (b + i) ∧ tx (b + i) ≤ 122) : ∀ j, j ≤ 8 → lB (pk tx b m) j = nmL tx b (j - (8 - m)) := by
  intro j
  induction j with
  | zero => intro _; rw [show 0 - (8 - m) = 0 by omega]; rfl
  | succ j ih =>
    intro hj
    rw [lB_s, ih (by omega)]
    rcases Nat.lt_or_ge j (8 - m) with q | q
    · have hb := pk_b h m (Nat.le_refl _)
      have h1 : pk tx b m < 2 ^ (56 - 8 * j) := by
        have e1 : 123 * 256 ^ (m - 1) ≤ 256 ^ m := by
          have : 256 ^ m = 256 ^ (m - 1) * 256 := by rw [← Nat.pow_succ, Nat.succ_eq_add_one, Nat.sub_add_cancel hm.1]
          omega
        have e2 : 256 ^ m ≤ 2 ^ (56 - 8 * j) := by
          rw [← pw_256]
          exact Nat.pow_le_pow_right (by decide) (by omega)
        omega
      rw [Nat.div_eq_of_lt h1, if_pos (by omega), List.append_nil, show j + 1 - (8 - m) = j - (8 - m) by omega]
    · obtain ⟨t, ht⟩ : ∃ t, t = j - (8 - m) := ⟨_, rfl⟩
      have htm : t < m := by omega
      have e : pk tx b m / 2 ^ (56 - 8 * j) = pk tx b (t + 1) := by
        rw [show 56 - 8 * j = 8 * (m - 1 - t) by omega, pw_256]
        exact pk_dv h _ _ (by omega)
      have hl := h t htm
      have e2 : pk tx b (t + 1) % 128 = (tx (b + t)).toNat := by
        show (pk tx b t * 256 + (tx (b + t)).toNat) % 128 = _
        omega
      rw [e, e2, if_neg (by omega), show j + 1 - (8 - m) = t + 1 by omega, ← ht, nmL_s]
theorem nq_pk {U : zSU} {tx : Nat → Int} {b m j : Nat} (hm : 1 ≤ m ∧ m ≤ 8) (h : ∀ i, i < m → 97 ≤ tx (b + i) ∧ tx (b + i) ≤ 122) (e : U.nm j = zL (pk tx b m : Int)) : lB (nq U j) 8 = nmL tx b m := by
  have hb := pk_b h m (Nat.le_refl _)
  have hpw : 256 ^ (m - 1) ≤ 256 ^ 7 := Nat.pow_le_pow_right (by decide) (by omega)
  have e2 : nq U j = pk tx b m := by
    unfold nq
    rw [e, zL_toInt (by omega)]
    omega
  rw [e2, nm_lB hm h 8 (Nat.le_refl _), show 8 - (8 - m) = m by omega]
set_option maxRecDepth 20000 in
theorem c_X11_report {l : Launch} (hfl : l.stackTraces = false) (E : zE) (σ : zS) (σc : zS) (ni : Nat) (tx : Nat → Int) (ec : Nat) (eo : Int) (U : zSU) (S : zST) (hh : List zST) (kp : Option zST) (ou : List Nat) (y : Int) (h : zMP σ (zDv.mk ni tx ec eo U S hh kp ou)) (hU : zSUp σc 29 U) (hS : zSTp σc 34 S) (hy : U.s0 ≤ y ∧ y ≤ U.s0 + 999) : zRi l E yX11_report cX11_report 4 .int (zrm 7 179) [.ref (ob E 327), .int (zI y)] σ (fun r τ => r = zI (((rpL U S y U.nb).length : Nat) : Int) ∧ mH σ τ ((zDv.mk ni tx ec eo U S hh kp ou).sO (rpL U S y U.nb))) := by
  refine Met.ofW (cc := cX11_report) (maxL := 4) (ret := (some .int)) (by decide +kernel) rfl ?_
  intro p e s m args below meth c s₁ B hml hv
  obtain ⟨rfl, hd⟩ := hv
  have C := zX_of (own := RX11) hfl B hml rfl hd rfl
  have hr := B.returns
  refine zV_go hd (Nat.le_of_ble_eq_true rfl) (lv := [(0, .ref (ob E 327)), (1, .int (zI y))]) rfl ?_
  have hnb : U.nb ≤ 8 := hU.2.2.1
  have hs0 := hU.2.2.2.1
  have hB : zRb (gI σ 328) U := h.2.2.1
  have hW : zRo (gI σ 332) U.nb S := h.2.2.2.2.1.1
  have hk9 : zRk S := h.2.2.2.2.1.2
  have h0 : zMP (thW σ 0) (zDv.mk ni tx ec eo U S hh kp ou) := zMP_q h (mK_th σ 0).1
  have hNM : zNm (gI σ 330) U := h.2.2.2.1
  
  refine zv_aload_n C 0 dX11_report_0 rfl rfl ?_
  refine zv_iconst (v := zI 0) C dX11_report_1 rfl ?_
  refine zP10_10 C (by decide : kd 327 = _) kX11_50 dX11_report_2 ?_
  refine zv_eqS (τ := (thW σ 0)) (rfl) ?_
  refine zv_aload_n C 0 dX11_report_5 rfl rfl ?_
  refine zv_iload_n C 1 dX11_report_6 rfl rfl ?_
  refine zv_iconst (v := zI 1) C dX11_report_7 rfl ?_
  refine zv_cviD (st := []) C (c0_X11_noYear hfl E (thW σ 0) σc U (y) 1 hB hU (by omega)) mX11_noYear kX11_330 (by decide : kd 327 = 10) rfl rfl rfl ⟨rfl, rfl⟩ (show zfit (zrm 2 46) 3 (zrm 7 179) = true from rfl) (Nat.le_of_ble_eq_true rfl) dX11_report_8 ⟨Nat.zero_le _, Nat.zero_le _⟩ ?_
  refine zv_if_eqZ (tgt := 16) C (by omega) dX11_report_11 (by decide) (fun h11 => ?_) (fun h11 => absurd h11 (by decide))
  refine zv_aload_n C 0 dX11_report_16 rfl rfl ?_
  refine zv_iconst (v := zI 0) C dX11_report_17 rfl ?_
  refine zP10_29 C (by decide : kd 327 = _) kX11_438 dX11_report_18 ?_
  refine zv_iconst (v := zI 0) C dX11_report_21 rfl ?_
  refine zv_istore_n (lv' := [(2, .int (zI 0)), (0, .ref (ob E 327)), (1, .int (zI y))]) C dX11_report_22 rfl (by decide) rfl ?_
  have q23_22 : (0 : Int) = (0 : Int) := by rfl
  refine zv_sub (lv' := [(0, .ref (ob E 327)), (1, .int (zI y)), (2, .int (zI (0 : Int)))]) [1, 2, 0] (zcons rfl (zcons rfl (zcons (zqI q23_22) rfl))) ?_
  refine zv_eqS (τ := (sI (thW σ 0) 327 29 (zI 0))) (rfl) ?_
  refine zv_while (α := Nat × zS) (fun v => U.nb - v.1) (fun v => v.1 ≤ U.nb ∧ mO σ v.2 (rpL U S y v.1)) (fun v => v.2) (fun v => [(0, .ref (ob E 327)), (1, .int (zI y)), (2, .int (zI (v.1 : Int)))]) (fun v => []) (fun v hI ih => ?_) ((0, (sI (thW σ 0) 327 29 (zI 0)))) (⟨Nat.zero_le _, mO_0 σ⟩)
  obtain ⟨j, v9⟩ := v
  dsimp only at hI ih ⊢
  obtain ⟨hj, hO⟩ := hI
  have hrl := rpL_l hU hS (y := y) (by omega) j hj
  refine zv_iload_n C 2 dX11_report_23 rfl rfl ?_
  refine zv_aload_n C 0 dX11_report_24 rfl rfl ?_
  refine zG10_0 C (by decide : kd 327 = _) kX11_7 dX11_report_25 ?_
  refine zv_iconst (v := zI 0) C dX11_report_28 rfl ?_
  refine zv_iald (j := 0) C (by decide : kd 328 = _) (zI_ix (by omega)) (by decide) dX11_report_29 ?_
  refine zv_eqi (y := (zI (U.nb : Int))) ((mO_B hO hB).1) ?_
  refine zv_icmp_geZ (tgt := 104) C (by omega) (by omega) dX11_report_30 (by decide) (fun h30 => ?_) (fun h30 => ?_)
  · skip
    refine zv_aload_n C 0 dX11_report_104 rfl rfl ?_
    refine zG10_29 C (by decide : kd 327 = _) kX11_438 dX11_report_105 ?_
    refine zv_eqi (y := (zI ((rpL U S y j).length : Int))) (hO.1) ?_
    exact zv_iret C hr rfl dX11_report_108 (by rw [show j = U.nb by omega] at hrl hO ⊢; exact ⟨rfl, zMP_o h hO (by omega)⟩)
  · skip
    obtain ⟨tx9, b9, m9, hm9, hl9, hnm9, hg9⟩ := hNM j (by omega)
    refine zv_iconst (v := zI 0) C dX11_report_33 rfl ?_
    refine zv_istore_n (lv' := [(3, .int (zI 0)), (0, .ref (ob E 327)), (1, .int (zI y)), (2, .int (zI (j : Int)))]) C dX11_report_34 rfl (by decide) rfl ?_
    have q35_46 : (0 : Int) = (0 : Int) := by rfl
    refine zv_sub (lv' := [(0, .ref (ob E 327)), (1, .int (zI y)), (2, .int (zI (j : Int))), (3, .int (zI (0 : Int)))]) [1, 2, 3, 0] (zcons rfl (zcons rfl (zcons rfl (zcons (zqI q35_46) rfl)))) ?_
    refine zv_eqS (τ := v9) (rfl) ?_
    refine zv_while (α := Nat × zS) (fun v => 8 - v.1) (fun v => v.1 ≤ m9 ∧ mO σ v.2 (rpL U S y j ++ nmL tx9 b9 v.1)) (fun v => v.2) (fun v => [(0, .ref (ob E 327)), (1, .int (zI y)), (2, .int (zI (j : Int))), (3, .int (zI (v.1 : Int)))]) (fun v => []) (fun v hI ih35 => ?_) ((0, v9)) (⟨Nat.zero_le _, by show mO σ v9 (rpL U S y j ++ []); rw [List.append_nil]; exact hO⟩)
    obtain ⟨n9, u9⟩ := v
    dsimp only at hI ih35 ⊢
    obtain ⟨hn9, hO2⟩ := hI
    have hnl := nmL_l tx9 b9 n9
    obtain ⟨c9, hc9⟩ : ∃ c, c = if n9 < m9 then tx9 (b9 + n9) else 0 := ⟨_, rfl⟩
    have hcb : 0 ≤ c9 ∧ c9 ≤ 122 := by
      rw [hc9]
      split
      · rename_i z; have := hl9 n9 z; omega
      · omega
    refine zv_iload_n C 3 dX11_report_35 rfl rfl ?_
    refine zv_bipush (v := zI 8) C dX11_report_36 (by decide) ?_
    refine zv_icmp_geZ (tgt := 76) C (by omega) (by omega) dX11_report_38 (by decide) (fun h38 => ?_) (fun h38 => ?_)
    · skip
      have hkm : n9 = m9 := by omega
      have hlB := nq_pk hm9 hl9 hnm9
      have hO3 : mO σ u9 (rpL U S y j ++ lB (nq U j) 8) := by rw [hlB, ← hkm]; exact hO2
      have hl1 := lB_l (nq U j) 8
      have hqb := qErr_b hU hS (i := j) (by omega) (y := y) (by omega)
      have hl2 := (lNum_l (z := qErr U S j y) (k := 16) (by omega)).1
      refine zv_aload_n C 0 dX11_report_76 rfl rfl ?_
      refine zv_bipush (v := zI 58) C dX11_report_77 (by decide) ?_
      refine zv_cvv (st := []) C (c_X11_write hfl E u9 σ (rpL U S y j ++ lB (nq U j) 8) (58) hO3 (by first | omega | (simp only [List.length_append, List.length_cons, List.length_nil, lD_l]; omega))) mX11_write kX11_441 (by decide : kd 327 = 10) rfl rfl rfl ⟨rfl, rfl⟩ (show zfit (zrm 0 0) 2 (zrm 7 179) = true from rfl) (Nat.le_of_ble_eq_true rfl) dX11_report_79 ⟨Nat.zero_le _, Nat.zero_le _⟩ (fun τ79 hp79 => ?_)
      have hO4 : mO σ τ79 (rpL U S y j ++ lB (nq U j) 8 ++ [58]) := hp79.1
      refine zv_aload_n C 0 dX11_report_82 rfl rfl ?_
      refine zv_aload_n C 0 dX11_report_83 rfl rfl ?_
      refine zv_iload_n C 2 dX11_report_84 rfl rfl ?_
      refine zv_iload_n C 1 dX11_report_85 rfl rfl ?_
      refine zv_cvlD (st := [.ref (ob E 327)]) C (c_X11_errorAt hfl E τ79 σc U S j y (mO_B hO4 hB) hU (mO_R hO4 hW) hS (by omega) (by omega)) mX11_errorAt kX11_306 (by decide : kd 327 = 10) rfl rfl rfl ⟨rfl, rfl⟩ (show zfit (zrm 6 157) 3 (zrm 7 179) = true from rfl) (Nat.le_of_ble_eq_true rfl) dX11_report_86 ⟨Nat.zero_le _, Nat.zero_le _⟩ ?_
      refine zv_cvv (st := []) C (c_X11_writeNumber hfl E (mE τ79 U S j (yF U y)) σ (rpL U S y j ++ lB (nq U j) 8 ++ [58]) (qErr U S j y) (mO_E hO4 U S j _) (by first | omega | (simp only [List.length_append, List.length_cons, List.length_nil, lD_l]; omega)) (by omega)) mX11_writeNumber kX11_448 (by decide : kd 327 = 10) rfl rfl rfl ⟨rfl, rfl⟩ (show zfit (zrm 1 21) 7 (zrm 7 179) = true from rfl) (Nat.le_of_ble_eq_true rfl) dX11_report_89 ⟨Nat.zero_le _, Nat.zero_le _⟩ (fun τ89 hp89 => ?_)
      have hO5 : mO σ τ89 (rpL U S y j ++ lB (nq U j) 8 ++ [58] ++ lNum (qErr U S j y)) := hp89.1
      refine zv_aload_n C 0 dX11_report_92 rfl rfl ?_
      refine zv_bipush (v := zI 10) C dX11_report_93 (by decide) ?_
      refine zv_cvv (st := []) C (c_X11_write hfl E τ89 σ (rpL U S y j ++ lB (nq U j) 8 ++ [58] ++ lNum (qErr U S j y)) (10) hO5 (by first | omega | (simp only [List.length_append, List.length_cons, List.length_nil, lD_l]; omega))) mX11_write kX11_441 (by decide : kd 327 = 10) rfl rfl rfl ⟨rfl, rfl⟩ (show zfit (zrm 0 0) 2 (zrm 7 179) = true from rfl) (Nat.le_of_ble_eq_true rfl) dX11_report_95 ⟨Nat.zero_le _, Nat.zero_le _⟩ (fun τ95 hp95 => ?_)
      have hO6 : mO σ τ95 (rpL U S y j ++ lB (nq U j) 8 ++ [58] ++ lNum (qErr U S j y) ++ [10]) := hp95.1
      refine zv_iinc (v := (zI ((j : Int) + 1))) (lv' := [(2, .int (zI ((j : Int) + 1))), (0, .ref (ob E 327)), (1, .int (zI y)), (3, .int (zI (n9 : Int)))]) C 2 dX11_report_98 rfl (zI_add _ _) (by decide) rfl ?_
      refine zv_goto (tgt := 23) C dX11_report_101 (by decide) ?_
      have q23_87 : ((j : Int) + 1 : Int) = ((j + 1 : Nat) : Int) := by omega
      refine zv_sub (lv' := [(0, .ref (ob E 327)), (1, .int (zI y)), (2, .int (zI ((j + 1 : Nat) : Int)))]) [1, 2, 0] (zcons rfl (zcons rfl (zcons (zqI q23_87) rfl))) ?_
      refine zv_eqS (τ := τ95) (rfl) ?_
      exact ih ((j + 1, τ95)) (⟨by show j + 1 ≤ U.nb; omega, by show mO σ τ95 (rpL U S y (j + 1)); rw [rpL]; exact hO6⟩) (by show U.nb - (j + 1) < U.nb - j; omega)
    · skip
      refine zv_aload_n C 0 dX11_report_41 rfl rfl ?_
      refine zG10_2 C (by decide : kd 327 = _) kX11_16 dX11_report_42 ?_
      refine zv_bipush (v := zI 8) C dX11_report_45 (by decide) ?_
      refine zv_iload_n C 2 dX11_report_47 rfl rfl ?_
      refine zv_imulZ C dX11_report_48 ?_
      refine zv_iload_n C 3 dX11_report_49 rfl rfl ?_
      refine zv_iaddZ C dX11_report_50 ?_
      refine zv_iald (j := 8 * j + n9) C (by decide : kd 330 = _) (zI_ix (by omega)) (Nat.lt_of_lt_of_eq (show 8 * j + n9 < 64 by omega) (by decide)) dX11_report_51 ?_
      refine zv_eqi (y := (zI c9)) (by rw [mO_g hO2 330 (by decide) (by decide), hc9]; exact hg9 n9 (by omega)) ?_
      refine zv_if_eqZ (tgt := 76) C (by omega) dX11_report_52 (by decide) (fun h52 => ?_) (fun h52 => ?_)
      · skip
        have hkm : n9 = m9 := by
          rcases Nat.lt_or_ge n9 m9 with q | q
          · have := hl9 n9 q
            rw [if_pos q] at hc9
            omega
          · omega
        have hlB := nq_pk hm9 hl9 hnm9
        have hO3 : mO σ u9 (rpL U S y j ++ lB (nq U j) 8) := by rw [hlB, ← hkm]; exact hO2
        have hl1 := lB_l (nq U j) 8
        have hqb := qErr_b hU hS (i := j) (by omega) (y := y) (by omega)
        have hl2 := (lNum_l (z := qErr U S j y) (k := 16) (by omega)).1
        refine zv_aload_n C 0 dX11_report_76 rfl rfl ?_
        refine zv_bipush (v := zI 58) C dX11_report_77 (by decide) ?_
        refine zv_cvv (st := []) C (c_X11_write hfl E u9 σ (rpL U S y j ++ lB (nq U j) 8) (58) hO3 (by first | omega | (simp only [List.length_append, List.length_cons, List.length_nil, lD_l]; omega))) mX11_write kX11_441 (by decide : kd 327 = 10) rfl rfl rfl ⟨rfl, rfl⟩ (show zfit (zrm 0 0) 2 (zrm 7 179) = true from rfl) (Nat.le_of_ble_eq_true rfl) dX11_report_79 ⟨Nat.zero_le _, Nat.zero_le _⟩ (fun τ79 hp79 => ?_)
        have hO4 : mO σ τ79 (rpL U S y j ++ lB (nq U j) 8 ++ [58]) := hp79.1
        refine zv_aload_n C 0 dX11_report_82 rfl rfl ?_
        refine zv_aload_n C 0 dX11_report_83 rfl rfl ?_
        refine zv_iload_n C 2 dX11_report_84 rfl rfl ?_
        refine zv_iload_n C 1 dX11_report_85 rfl rfl ?_
        refine zv_cvlD (st := [.ref (ob E 327)]) C (c_X11_errorAt hfl E τ79 σc U S j y (mO_B hO4 hB) hU (mO_R hO4 hW) hS (by omega) (by omega)) mX11_errorAt kX11_306 (by decide : kd 327 = 10) rfl rfl rfl ⟨rfl, rfl⟩ (show zfit (zrm 6 157) 3 (zrm 7 179) = true from rfl) (Nat.le_of_ble_eq_true rfl) dX11_report_86 ⟨Nat.zero_le _, Nat.zero_le _⟩ ?_
        refine zv_cvv (st := []) C (c_X11_writeNumber hfl E (mE τ79 U S j (yF U y)) σ (rpL U S y j ++ lB (nq U j) 8 ++ [58]) (qErr U S j y) (mO_E hO4 U S j _) (by first | omega | (simp only [List.length_append, List.length_cons, List.length_nil, lD_l]; omega)) (by omega)) mX11_writeNumber kX11_448 (by decide : kd 327 = 10) rfl rfl rfl ⟨rfl, rfl⟩ (show zfit (zrm 1 21) 7 (zrm 7 179) = true from rfl) (Nat.le_of_ble_eq_true rfl) dX11_report_89 ⟨Nat.zero_le _, Nat.zero_le _⟩ (fun τ89 hp89 => ?_)
        have hO5 : mO σ τ89 (rpL U S y j ++ lB (nq U j) 8 ++ [58] ++ lNum (qErr U S j y)) := hp89.1
        refine zv_aload_n C 0 dX11_report_92 rfl rfl ?_
        refine zv_bipush (v := zI 10) C dX11_report_93 (by decide) ?_
        refine zv_cvv (st := []) C (c_X11_write hfl E τ89 σ (rpL U S y j ++ lB (nq U j) 8 ++ [58] ++ lNum (qErr U S j y)) (10) hO5 (by first | omega | (simp only [List.length_append, List.length_cons, List.length_nil, lD_l]; omega))) mX11_write kX11_441 (by decide : kd 327 = 10) rfl rfl rfl ⟨rfl, rfl⟩ (show zfit (zrm 0 0) 2 (zrm 7 179) = true from rfl) (Nat.le_of_ble_eq_true rfl) dX11_report_95 ⟨Nat.zero_le _, Nat.zero_le _⟩ (fun τ95 hp95 => ?_)
        have hO6 : mO σ τ95 (rpL U S y j ++ lB (nq U j) 8 ++ [58] ++ lNum (qErr U S j y) ++ [10]) := hp95.1
        refine zv_iinc (v := (zI ((j : Int) + 1))) (lv' := [(2, .int (zI ((j : Int) + 1))), (0, .ref (ob E 327)), (1, .int (zI y)), (3, .int (zI (n9 : Int)))]) C 2 dX11_report_98 rfl (zI_add _ _) (by decide) rfl ?_
        refine zv_goto (tgt := 23) C dX11_report_101 (by decide) ?_
        have q23_131 : ((j : Int) + 1 : Int) = ((j + 1 : Nat) : Int) := by omega
        refine zv_sub (lv' := [(0, .ref (ob E 327)), (1, .int (zI y)), (2, .int (zI ((j + 1 : Nat) : Int)))]) [1, 2, 0] (zcons rfl (zcons rfl (zcons (zqI q23_131) rfl))) ?_
        refine zv_eqS (τ := τ95) (rfl) ?_
        exact ih ((j + 1, τ95)) (⟨by show j + 1 ≤ U.nb; omega, by show mO σ τ95 (rpL U S y (j + 1)); rw [rpL]; exact hO6⟩) (by show U.nb - (j + 1) < U.nb - j; omega)
      · skip
        have hkm : n9 < m9 := by
          rcases Nat.lt_or_ge n9 m9 with q | q
          · exact q
          · rw [if_neg (by omega)] at hc9
            omega
        have hl8 := hl9 n9 hkm
        refine zv_aload_n C 0 dX11_report_55 rfl rfl ?_
        refine zv_aload_n C 0 dX11_report_56 rfl rfl ?_
        refine zG10_2 C (by decide : kd 327 = _) kX11_16 dX11_report_57 ?_
        refine zv_bipush (v := zI 8) C dX11_report_60 (by decide) ?_
        refine zv_iload_n C 2 dX11_report_62 rfl rfl ?_
        refine zv_imulZ C dX11_report_63 ?_
        refine zv_iload_n C 3 dX11_report_64 rfl rfl ?_
        refine zv_iaddZ C dX11_report_65 ?_
        refine zv_iald (j := 8 * j + n9) C (by decide : kd 330 = _) (zI_ix (by omega)) (Nat.lt_of_lt_of_eq (show 8 * j + n9 < 64 by omega) (by decide)) dX11_report_66 ?_
        refine zv_eqi (y := (zI ((tx9 (b9 + n9)).toNat : Int))) (by rw [mO_g hO2 330 (by decide) (by decide), hg9 n9 (by omega), if_pos hkm]; exact congrArg zI (by omega)) ?_
        refine zv_cvv (st := []) C (c_X11_write hfl E u9 σ (rpL U S y j ++ nmL tx9 b9 n9) ((tx9 (b9 + n9)).toNat) hO2 (by first | omega | (simp only [List.length_append, List.length_cons, List.length_nil, lD_l]; omega))) mX11_write kX11_441 (by decide : kd 327 = 10) rfl rfl rfl ⟨rfl, rfl⟩ (show zfit (zrm 0 0) 2 (zrm 7 179) = true from rfl) (Nat.le_of_ble_eq_true rfl) dX11_report_67 ⟨Nat.zero_le _, Nat.zero_le _⟩ (fun τ67 hp67 => ?_)
        have hOw : mO σ τ67 (rpL U S y j ++ nmL tx9 b9 n9 ++ [(tx9 (b9 + n9)).toNat]) := hp67.1
        refine zv_iinc (v := (zI ((n9 : Int) + 1))) (lv' := [(3, .int (zI ((n9 : Int) + 1))), (0, .ref (ob E 327)), (1, .int (zI y)), (2, .int (zI (j : Int)))]) C 3 dX11_report_70 rfl (zI_add _ _) (by decide) rfl ?_
        refine zv_goto (tgt := 35) C dX11_report_73 (by decide) ?_
        have q35_156 : ((n9 : Int) + 1 : Int) = ((n9 + 1 : Nat) : Int) := by omega
        refine zv_sub (lv' := [(0, .ref (ob E 327)), (1, .int (zI y)), (2, .int (zI (j : Int))), (3, .int (zI ((n9 + 1 : Nat) : Int)))]) [1, 2, 3, 0] (zcons rfl (zcons rfl (zcons rfl (zcons (zqI q35_156) rfl)))) ?_
        refine zv_eqS (τ := τ67) (rfl) ?_
        exact ih35 ((n9 + 1, τ67)) (⟨by show n9 + 1 ≤ m9; omega, by show mO σ τ67 (rpL U S y j ++ nmL tx9 b9 (n9 + 1)); rw [nmL_s, ← List.append_assoc]; exact hOw⟩) (by show 8 - (n9 + 1) < 8 - n9; omega)
set_option maxRecDepth 20000 in
theorem x1_X11_report {l : Launch} (hfl : l.stackTraces = false) (E : zE) (σ : zS) (σc : zS) (U : zSU) (y : Int) (hB : zRb (gI σ 328) U) (hU : zSUp σc 29 U) (hy : -2147483648 ≤ y ∧ y < 2147483648) (hno : ¬ (U.s0 ≤ y ∧ y ≤ U.s0 + 999)) : zRi l E yX11_report cX11_report 4 .int (zrm 3 68) [.ref (ob E 327), .int (zI y)] σ (fun r τ => r = zI 0 ∧ mK σ τ 1) := by
  refine Met.ofW (cc := cX11_report) (maxL := 4) (ret := (some .int)) (by decide +kernel) rfl ?_
  intro p e s m args below meth c s₁ B hml hv
  obtain ⟨rfl, hd⟩ := hv
  have C := zX_of (own := RX11) hfl B hml rfl hd rfl
  have hr := B.returns
  refine zV_go hd (Nat.le_of_ble_eq_true rfl) (lv := [(0, .ref (ob E 327)), (1, .int (zI y))]) rfl ?_
  have hnb : U.nb ≤ 8 := hU.2.2.1
  have hs0 := hU.2.2.2.1
  
  refine zv_aload_n C 0 dX11_report_0 rfl rfl ?_
  refine zv_iconst (v := zI 0) C dX11_report_1 rfl ?_
  refine zP10_10 C (by decide : kd 327 = _) kX11_50 dX11_report_2 ?_
  refine zv_eqS (τ := (thW σ 0)) (rfl) ?_
  refine zv_aload_n C 0 dX11_report_5 rfl rfl ?_
  refine zv_iload_n C 1 dX11_report_6 rfl rfl ?_
  refine zv_iconst (v := zI 1) C dX11_report_7 rfl ?_
  refine zv_cviD (st := []) C (c1_X11_noYear hfl E (thW σ 0) σc U (y) 1 hB hU (by omega) hno) mX11_noYear kX11_330 (by decide : kd 327 = 10) rfl rfl rfl ⟨rfl, rfl⟩ (show zfit (zrm 2 46) 3 (zrm 3 68) = true from rfl) (Nat.le_of_ble_eq_true rfl) dX11_report_8 ⟨Nat.zero_le _, Nat.zero_le _⟩ ?_
  refine zv_if_eqZ (tgt := 16) C (by omega) dX11_report_11 (by decide) (fun h11 => absurd h11 (by decide)) (fun h11 => ?_)
  refine zv_iconst (v := zI 0) C dX11_report_14 rfl ?_
  exact zv_iret C hr rfl dX11_report_15 ⟨rfl, by first | exact mK_th _ _ | exact mK_th2 _ _ _ | exact mK_C (mK_W (mK_th _ _) _ _) _ | exact mK_W (mK_th _ _) _ _⟩
set_option maxRecDepth 20000 in
theorem c_X11_printTrain {l : Launch} (hfl : l.stackTraces = false) (E : zE) (σ : zS) (σc : zS) (ni : Nat) (tx : Nat → Int) (ec : Nat) (eo : Int) (U : zSU) (S : zST) (hh : List zST) (kp : Option zST) (ou : List Nat) (i : Nat) (h : zMP σ (zDv.mk ni tx ec eo U S hh kp ou)) (hU : zSUp σc 29 U) (hS : zSTp σc 34 S) (hi : i < U.nb) : zRi l E yX11_printTrain cX11_printTrain 4 .int (zrm 5 127) [.ref (ob E 327), .int (zI (i : Int))] σ (fun r τ => r = zI (((ptF U S i).length : Nat) : Int) ∧ mH σ τ ((zDv.mk ni tx ec eo U S hh kp ou).sO (ptF U S i))) := by
  refine Met.ofW (cc := cX11_printTrain) (maxL := 4) (ret := (some .int)) (by decide +kernel) rfl ?_
  intro p e s m args below meth c s₁ B hml hv
  obtain ⟨rfl, hd⟩ := hv
  have C := zX_of (own := RX11) hfl B hml rfl hd rfl
  have hr := B.returns
  refine zV_go hd (Nat.le_of_ble_eq_true rfl) (lv := [(0, .ref (ob E 327)), (1, .int (zI (i : Int)))]) rfl ?_
  have hnb : U.nb ≤ 8 := hU.2.2.1
  have hs0 := hU.2.2.2.1
  have hB : zRb (gI σ 328) U := h.2.2.1
  have hW : zRo (gI σ 332) U.nb S := h.2.2.2.2.1.1
  have hk9 : zRk S := h.2.2.2.2.1.2
  have h0 : zMP (thW σ 0) (zDv.mk ni tx ec eo U S hh kp ou) := zMP_q h (mK_th σ 0).1
  have hi8 : i < 8 := by omega
  have ht := hk9.2 i hi8
  have hc : ∀ j w, j < S.tn i → w < 3 → S.tr i j w ≤ 100 := fun j w a b => (hS.2.2.2.2.2.2 i hi8).1.2.2.2 j w a b
  have hq := qPtr_b hU hS hi
  have hn1 := (lNum_l (z := (qPtr U S i).1) (k := 8) (by omega)).1
  have hn2 := (lNum_l (z := (qPtr U S i).2) (k := 8) (by omega)).1
  
  refine zv_aload_n C 0 dX11_printTrain_0 rfl rfl ?_
  refine zv_iload_n C 1 dX11_printTrain_1 rfl rfl ?_
  refine zv_cviD (st := []) C (c0_X11_noBody hfl E σ σc U ((i : Int)) hB hU (by omega)) mX11_noBody kX11_319 (by decide : kd 327 = 10) rfl rfl rfl ⟨rfl, rfl⟩ (show zfit (zrm 1 25) 2 (zrm 5 127) = true from rfl) (Nat.le_of_ble_eq_true rfl) dX11_printTrain_2 ⟨Nat.zero_le _, Nat.zero_le _⟩ ?_
  refine zv_if_eqZ (tgt := 10) C (by omega) dX11_printTrain_5 (by decide) (fun h5 => ?_) (fun h5 => absurd h5 (by decide))
  refine zv_aload_n C 0 dX11_printTrain_10 rfl rfl ?_
  refine zv_iconst (v := zI 0) C dX11_printTrain_11 rfl ?_
  refine zP10_29 C (by decide : kd 327 = _) kX11_438 dX11_printTrain_12 ?_
  refine zv_iconst (v := zI 0) C dX11_printTrain_15 rfl ?_
  refine zv_istore_n (lv' := [(2, .int (zI 0)), (0, .ref (ob E 327)), (1, .int (zI (i : Int)))]) C dX11_printTrain_16 rfl (by decide) rfl ?_
  have q17_22 : (0 : Int) = (0 : Int) := by rfl
  refine zv_sub (lv' := [(0, .ref (ob E 327)), (1, .int (zI (i : Int))), (2, .int (zI (0 : Int)))]) [1, 2, 0] (zcons rfl (zcons rfl (zcons (zqI q17_22) rfl))) ?_
  refine zv_eqS (τ := (sI (thW σ 0) 327 29 (zI 0))) (rfl) ?_
  refine zv_while (α := Nat × zS) (fun v => S.tn i - v.1) (fun v => v.1 ≤ S.tn i ∧ mO σ v.2 (ptL S i v.1)) (fun v => v.2) (fun v => [(0, .ref (ob E 327)), (1, .int (zI (i : Int))), (2, .int (zI (v.1 : Int)))]) (fun v => []) (fun v hI ih => ?_) ((0, (sI (thW σ 0) 327 29 (zI 0)))) (⟨Nat.zero_le _, mO_0 σ⟩)
  obtain ⟨j, v9⟩ := v
  dsimp only at hI ih ⊢
  obtain ⟨hj, hO⟩ := hI
  have hpl := ptL_l hS hi8 j hj
  refine zv_iload_n C 2 dX11_printTrain_17 rfl rfl ?_
  refine zv_aload_n C 0 dX11_printTrain_18 rfl rfl ?_
  refine zv_iload_n C 1 dX11_printTrain_19 rfl rfl ?_
  refine zv_cviD (st := [.int (zI (j : Int))]) C (c_X11_parts hfl E v9 U.nb S i (mO_R hO hW) hi8) mX11_parts kX11_188 (by decide : kd 327 = 10) rfl rfl rfl ⟨rfl, rfl⟩ (show zfit (zrm 1 21) 2 (zrm 5 127) = true from rfl) (Nat.le_of_ble_eq_true rfl) dX11_printTrain_20 ⟨Nat.zero_le _, Nat.zero_le _⟩ ?_
  refine zv_icmp_geZ (tgt := 104) C (by omega) (by omega) dX11_printTrain_23 (by decide) (fun h23 => ?_) (fun h23 => ?_)
  · skip
    have hje : j = S.tn i := by omega
    rw [hje] at hO hpl
    refine zv_aload_n C 0 dX11_printTrain_104 rfl rfl ?_
    refine zv_iload_n C 1 dX11_printTrain_105 rfl rfl ?_
    refine zv_cvvD (st := []) C (c_X11_ratio hfl E v9 σc U S i (mO_B hO hB) hU (mO_R hO hW) hS hi) mX11_ratio kX11_278 (by decide : kd 327 = 10) rfl rfl rfl ⟨rfl, rfl⟩ (show zfit (zrm 4 102) 6 (zrm 5 127) = true from rfl) (Nat.le_of_ble_eq_true rfl) dX11_printTrain_106 ⟨Nat.zero_le _, Nat.zero_le _⟩ ?_
    refine zv_aload_n C 0 dX11_printTrain_109 rfl rfl ?_
    refine zv_bipush (v := zI 61) C dX11_printTrain_110 (by decide) ?_
    refine zv_cvv (st := []) C (c_X11_write hfl E (mW v9 (qPtr U S i).1 (qPtr U S i).2) σ (ptL S i (S.tn i)) (61) (mO_W hO _ _) (by first | omega | (simp only [List.length_append, List.length_cons, List.length_nil, lD_l]; omega))) mX11_write kX11_441 (by decide : kd 327 = 10) rfl rfl rfl ⟨rfl, rfl⟩ (show zfit (zrm 0 0) 2 (zrm 5 127) = true from rfl) (Nat.le_of_ble_eq_true rfl) dX11_printTrain_112 ⟨Nat.zero_le _, Nat.zero_le _⟩ (fun τ112 hp112 => ?_)
    have hO6 : mO σ τ112 (ptL S i (S.tn i) ++ [61]) := hp112.1
    refine zv_aload_n C 0 dX11_printTrain_115 rfl rfl ?_
    refine zv_aload_n C 0 dX11_printTrain_116 rfl rfl ?_
    refine zG10_22 C (by decide : kd 327 = _) kX11_249 dX11_printTrain_117 ?_
    refine zv_eql (y := (zL ((qPtr U S i).1))) (by unfold gJ; rw [hp112.2]; exact (mW_r v9 _ _).1) ?_
    refine zv_cvv (st := []) C (c_X11_writeNumber hfl E τ112 σ (ptL S i (S.tn i) ++ [61]) ((qPtr U S i).1) hO6 (by first | omega | (simp only [List.length_append, List.length_cons, List.length_nil, lD_l]; omega)) (by omega)) mX11_writeNumber kX11_448 (by decide : kd 327 = 10) rfl rfl rfl ⟨rfl, rfl⟩ (show zfit (zrm 1 21) 7 (zrm 5 127) = true from rfl) (Nat.le_of_ble_eq_true rfl) dX11_printTrain_120 ⟨Nat.zero_le _, Nat.zero_le _⟩ (fun τ120 hp120 => ?_)
    have hO7 : mO σ τ120 (ptL S i (S.tn i) ++ [61] ++ lNum ((qPtr U S i).1)) := hp120.1
    refine zv_aload_n C 0 dX11_printTrain_123 rfl rfl ?_
    refine zv_bipush (v := zI 58) C dX11_printTrain_124 (by decide) ?_
    refine zv_cvv (st := []) C (c_X11_write hfl E τ120 σ (ptL S i (S.tn i) ++ [61] ++ lNum (qPtr U S i).1) (58) hO7 (by first | omega | (simp only [List.length_append, List.length_cons, List.length_nil, lD_l]; omega))) mX11_write kX11_441 (by decide : kd 327 = 10) rfl rfl rfl ⟨rfl, rfl⟩ (show zfit (zrm 0 0) 2 (zrm 5 127) = true from rfl) (Nat.le_of_ble_eq_true rfl) dX11_printTrain_126 ⟨Nat.zero_le _, Nat.zero_le _⟩ (fun τ126 hp126 => ?_)
    have hO8 : mO σ τ126 (ptL S i (S.tn i) ++ [61] ++ lNum (qPtr U S i).1 ++ [58]) := hp126.1
    refine zv_aload_n C 0 dX11_printTrain_129 rfl rfl ?_
    refine zv_aload_n C 0 dX11_printTrain_130 rfl rfl ?_
    refine zG10_23 C (by decide : kd 327 = _) kX11_253 dX11_printTrain_131 ?_
    refine zv_eql (y := (zL ((qPtr U S i).2))) (by unfold gJ; rw [hp126.2, hp120.2, hp112.2]; exact (mW_r v9 _ _).2) ?_
    refine zv_cvv (st := []) C (c_X11_writeNumber hfl E τ126 σ (ptL S i (S.tn i) ++ [61] ++ lNum (qPtr U S i).1 ++ [58]) ((qPtr U S i).2) hO8 (by first | omega | (simp only [List.length_append, List.length_cons, List.length_nil, lD_l]; omega)) (by omega)) mX11_writeNumber kX11_448 (by decide : kd 327 = 10) rfl rfl rfl ⟨rfl, rfl⟩ (show zfit (zrm 1 21) 7 (zrm 5 127) = true from rfl) (Nat.le_of_ble_eq_true rfl) dX11_printTrain_134 ⟨Nat.zero_le _, Nat.zero_le _⟩ (fun τ134 hp134 => ?_)
    have hO9 : mO σ τ134 (ptL S i (S.tn i) ++ [61] ++ lNum (qPtr U S i).1 ++ [58] ++ lNum ((qPtr U S i).2)) := hp134.1
    refine zv_aload_n C 0 dX11_printTrain_137 rfl rfl ?_
    refine zG10_29 C (by decide : kd 327 = _) kX11_438 dX11_printTrain_138 ?_
    refine zv_eqi (y := (zI ((ptF U S i).length : Int))) (hO9.1) ?_
    exact zv_iret C hr rfl dX11_printTrain_141 ⟨rfl, zMP_o (L := ptF U S i) h hO9 (by unfold ptF; simp only [List.length_append, List.length_cons, List.length_nil]; omega)⟩
  · skip
    have hk2 := ((hS.2.2.2.2.2.2 i hi8).2.2.2 j (by omega)).1
    have hpp := ppL_l hS hi8 (show j < S.tn i by omega)
    have a0 := hc j 0 (by omega) (by omega)
    have a1 := hc j 1 (by omega) (by omega)
    have a2 := hc j 2 (by omega) (by omega)
    have hl1 := (lNum_l (z := (S.tr i j 1 : Int)) (k := 2) (by omega)).2 (by omega)
    have hl2 := (lNum_l (z := (S.tr i j 2 : Int)) (k := 2) (by omega)).2 (by omega)
    refine zv_iload_n C 2 dX11_printTrain_26 rfl rfl ?_
    refine zv_if_leZ (tgt := 36) C (by omega) dX11_printTrain_27 (by decide) (fun h27 => ?_) (fun h27 => ?_)
    · skip
      obtain ⟨Q9, hQ9⟩ : ∃ Q : List Nat, Q = ptL S i j ++ (if 0 < j then [42] else []) := ⟨_, rfl⟩
      have hQl : Q9.length ≤ 8 * j + 1 := by
        rw [hQ9, List.length_append]
        split
        · simp only [List.length_cons, List.length_nil]; omega
        · simp only [List.length_nil]; omega
      have hO2 : mO σ v9 Q9 := by rw [hQ9, if_neg (by omega), List.append_nil]; exact hO
      refine zv_aload_n C 0 dX11_printTrain_36 rfl rfl ?_
      refine zv_iload_n C 1 dX11_printTrain_37 rfl rfl ?_
      refine zv_iload_n C 2 dX11_printTrain_38 rfl rfl ?_
      refine zv_iconst (v := zI 0) C dX11_printTrain_39 rfl ?_
      refine zv_cviD (st := []) C (c_X11_partOf hfl E v9 U.nb S i j 0 (mO_R hO2 hW) hi8 (by omega) ht (by omega)) mX11_partOf kX11_191 (by decide : kd 327 = 10) rfl rfl rfl ⟨rfl, rfl⟩ (show zfit (zrm 1 21) 4 (zrm 5 127) = true from rfl) (Nat.le_of_ble_eq_true rfl) dX11_printTrain_40 ⟨Nat.zero_le _, Nat.zero_le _⟩ ?_
      refine zv_istore_n (lv' := [(3, .int (zI (S.tr i j 0 : Int))), (0, .ref (ob E 327)), (1, .int (zI (i : Int))), (2, .int (zI (j : Int)))]) C dX11_printTrain_43 rfl (by decide) rfl ?_
      refine zv_aload_n C 1 dX11_printTrain_44 rfl rfl ?_
      refine zv_aload_n C 1 dX11_printTrain_45 rfl rfl ?_
      refine zv_iload_n C 2 dX11_printTrain_46 rfl rfl ?_
      refine zv_iload_n C 3 dX11_printTrain_47 rfl rfl ?_
      refine zv_iconst (v := zI 1) C dX11_printTrain_48 rfl ?_
      refine zv_cviD (st := [.ref (ob E 327)]) C (c_X11_partOf hfl E v9 U.nb S i j 1 (mO_R hO2 hW) hi8 (by omega) ht (by omega)) mX11_partOf kX11_191 (by decide : kd 327 = 10) rfl rfl rfl ⟨rfl, rfl⟩ (show zfit (zrm 1 21) 4 (zrm 5 127) = true from rfl) (Nat.le_of_ble_eq_true rfl) dX11_printTrain_49 ⟨Nat.zero_le _, Nat.zero_le _⟩ ?_
      refine zv_i2lZ C (by omega) dX11_printTrain_52 ?_
      refine zv_cvv (st := []) C (c_X11_writeNumber hfl E v9 σ (Q9) ((S.tr i j 1 : Int)) hO2 (by first | omega | (simp only [List.length_append, List.length_cons, List.length_nil, lD_l]; omega)) (by omega)) mX11_writeNumber kX11_448 (by decide : kd 327 = 10) rfl rfl rfl ⟨rfl, rfl⟩ (show zfit (zrm 1 21) 7 (zrm 5 127) = true from rfl) (Nat.le_of_ble_eq_true rfl) dX11_printTrain_53 ⟨Nat.zero_le _, Nat.zero_le _⟩ (fun τ53 hp53 => ?_)
      have hO3 : mO σ τ53 (Q9 ++ lNum ((S.tr i j 1 : Int))) := hp53.1
      refine zv_aload_n C 1 dX11_printTrain_56 rfl rfl ?_
      refine zv_iload_n C 0 dX11_printTrain_57 rfl rfl ?_
      refine zv_if_neZ (tgt := 66) C (by omega) dX11_printTrain_58 (by decide) (fun h58 => ?_) (fun h58 => ?_)
      · skip
        refine zv_iload_n C 0 dX11_printTrain_66 rfl rfl ?_
        refine zv_iconst (v := zI 1) C dX11_printTrain_67 rfl ?_
        refine zv_icmp_neZ (tgt := 76) C (by omega) (by omega) dX11_printTrain_68 (by decide) (fun h68 => ?_) (fun h68 => ?_)
        · skip
          refine zv_bipush (v := zI 105) C dX11_printTrain_76 (by decide) ?_
          refine zv_cvv (st := []) C (c_X11_write hfl E τ53 σ (Q9 ++ lNum (S.tr i j 1 : Int)) 105 hO3 (by first | omega | (simp only [List.length_append, List.length_cons, List.length_nil, lD_l]; omega))) mX11_write kX11_441 (by decide : kd 327 = 10) rfl rfl rfl ⟨rfl, rfl⟩ (show zfit (zrm 0 0) 2 (zrm 5 127) = true from rfl) (Nat.le_of_ble_eq_true rfl) dX11_printTrain_78 ⟨Nat.zero_le _, Nat.zero_le _⟩ (fun τ78 hp78 => ?_)
          have hO4 : mO σ τ78 (Q9 ++ lNum (S.tr i j 1 : Int) ++ [105]) := hp78.1
          refine zv_iload_n C 0 dX11_printTrain_81 rfl rfl ?_
          refine zv_iconst (v := zI 2) C dX11_printTrain_82 rfl ?_
          refine zv_icmp_eqZ (tgt := 98) C (by omega) (by omega) dX11_printTrain_83 (by decide) (fun h83 => ?_) (fun h83 => ?_)
          · skip
            refine zv_iinc (v := (zI ((j : Int) + 1))) (lv' := [(2, .int (zI ((j : Int) + 1))), (3, .int (zI (S.tr i j 0 : Int))), (0, .ref (ob E 327)), (1, .int (zI (i : Int)))]) C 3 dX11_printTrain_98 rfl (zI_add _ _) (by decide) rfl ?_
            refine zv_goto (tgt := 17) C dX11_printTrain_101 (by decide) ?_
            have q17_115 : ((j : Int) + 1 : Int) = ((j + 1 : Nat) : Int) := by omega
            refine zv_sub (lv' := [(0, .ref (ob E 327)), (1, .int (zI (i : Int))), (2, .int (zI ((j + 1 : Nat) : Int)))]) [2, 3, 0] (zcons rfl (zcons rfl (zcons (zqI q17_115) rfl))) ?_
            refine zv_eqS (τ := τ78) (rfl) ?_
            exact ih ((j + 1, τ78)) (by first | (exfalso; omega) | exact ⟨by show j + 1 ≤ S.tn i; omega, by rw [ptL, ← hQ9, ppL, if_pos (by omega), ← List.append_assoc]; exact hO4⟩ | exact ⟨by show j + 1 ≤ S.tn i; omega, by rw [ptL, ← hQ9, ppL, if_neg (by omega), if_pos (by omega), ← List.append_assoc, ← List.append_assoc]; exact hO5⟩ | exact ⟨by show j + 1 ≤ S.tn i; omega, by rw [ptL, ← hQ9, ppL, if_neg (by omega), if_neg (by omega), ← List.append_assoc, ← List.append_assoc]; exact hO5⟩) (by show S.tn i - (j + 1) < S.tn i - j; omega)
          · skip
            refine zv_aload_n C 1 dX11_printTrain_86 rfl rfl ?_
            refine zv_aload_n C 1 dX11_printTrain_87 rfl rfl ?_
            refine zv_iload_n C 2 dX11_printTrain_88 rfl rfl ?_
            refine zv_iload_n C 3 dX11_printTrain_89 rfl rfl ?_
            refine zv_iconst (v := zI 2) C dX11_printTrain_90 rfl ?_
            refine zv_cviD (st := [.ref (ob E 327)]) C (c_X11_partOf hfl E τ78 U.nb S i j 2 (mO_R hO4 hW) hi8 (by omega) ht (by omega)) mX11_partOf kX11_191 (by decide : kd 327 = 10) rfl rfl rfl ⟨rfl, rfl⟩ (show zfit (zrm 1 21) 4 (zrm 5 127) = true from rfl) (Nat.le_of_ble_eq_true rfl) dX11_printTrain_91 ⟨Nat.zero_le _, Nat.zero_le _⟩ ?_
            refine zv_i2lZ C (by omega) dX11_printTrain_94 ?_
            refine zv_cvv (st := []) C (c_X11_writeNumber hfl E τ78 σ (Q9 ++ lNum (S.tr i j 1 : Int) ++ [105]) (S.tr i j 2 : Int) hO4 (by first | omega | (simp only [List.length_append, List.length_cons, List.length_nil, lD_l]; omega)) (by omega)) mX11_writeNumber kX11_448 (by decide : kd 327 = 10) rfl rfl rfl ⟨rfl, rfl⟩ (show zfit (zrm 1 21) 7 (zrm 5 127) = true from rfl) (Nat.le_of_ble_eq_true rfl) dX11_printTrain_95 ⟨Nat.zero_le _, Nat.zero_le _⟩ (fun τ95 hp95 => ?_)
            have hO5 := hp95.1
            refine zv_iinc (v := (zI ((j : Int) + 1))) (lv' := [(2, .int (zI ((j : Int) + 1))), (3, .int (zI (S.tr i j 0 : Int))), (0, .ref (ob E 327)), (1, .int (zI (i : Int)))]) C 3 dX11_printTrain_98 rfl (zI_add _ _) (by decide) rfl ?_
            refine zv_goto (tgt := 17) C dX11_printTrain_101 (by decide) ?_
            have q17_131 : ((j : Int) + 1 : Int) = ((j + 1 : Nat) : Int) := by omega
            refine zv_sub (lv' := [(0, .ref (ob E 327)), (1, .int (zI (i : Int))), (2, .int (zI ((j + 1 : Nat) : Int)))]) [2, 3, 0] (zcons rfl (zcons rfl (zcons (zqI q17_131) rfl))) ?_
            refine zv_eqS (τ := τ95) (rfl) ?_
            exact ih ((j + 1, τ95)) (by first | (exfalso; omega) | exact ⟨by show j + 1 ≤ S.tn i; omega, by rw [ptL, ← hQ9, ppL, if_pos (by omega), ← List.append_assoc]; exact hO4⟩ | exact ⟨by show j + 1 ≤ S.tn i; omega, by rw [ptL, ← hQ9, ppL, if_neg (by omega), if_pos (by omega), ← List.append_assoc, ← List.append_assoc]; exact hO5⟩ | exact ⟨by show j + 1 ≤ S.tn i; omega, by rw [ptL, ← hQ9, ppL, if_neg (by omega), if_neg (by omega), ← List.append_assoc, ← List.append_assoc]; exact hO5⟩) (by show S.tn i - (j + 1) < S.tn i - j; omega)
        · skip
          refine zv_bipush (v := zI 111) C dX11_printTrain_71 (by decide) ?_
          refine zv_goto (tgt := 78) C dX11_printTrain_73 (by decide) ?_
          refine zv_cvv (st := []) C (c_X11_write hfl E τ53 σ (Q9 ++ lNum (S.tr i j 1 : Int)) 111 hO3 (by first | omega | (simp only [List.length_append, List.length_cons, List.length_nil, lD_l]; omega))) mX11_write kX11_441 (by decide : kd 327 = 10) rfl rfl rfl ⟨rfl, rfl⟩ (show zfit (zrm 0 0) 2 (zrm 5 127) = true from rfl) (Nat.le_of_ble_eq_true rfl) dX11_printTrain_78 ⟨Nat.zero_le _, Nat.zero_le _⟩ (fun τ78 hp78 => ?_)
          have hO4 : mO σ τ78 (Q9 ++ lNum (S.tr i j 1 : Int) ++ [111]) := hp78.1
          refine zv_iload_n C 0 dX11_printTrain_81 rfl rfl ?_
          refine zv_iconst (v := zI 2) C dX11_printTrain_82 rfl ?_
          refine zv_icmp_eqZ (tgt := 98) C (by omega) (by omega) dX11_printTrain_83 (by decide) (fun h83 => ?_) (fun h83 => ?_)
          · skip
            refine zv_iinc (v := (zI ((j : Int) + 1))) (lv' := [(2, .int (zI ((j : Int) + 1))), (3, .int (zI (S.tr i j 0 : Int))), (0, .ref (ob E 327)), (1, .int (zI (i : Int)))]) C 3 dX11_printTrain_98 rfl (zI_add _ _) (by decide) rfl ?_
            refine zv_goto (tgt := 17) C dX11_printTrain_101 (by decide) ?_
            have q17_146 : ((j : Int) + 1 : Int) = ((j + 1 : Nat) : Int) := by omega
            refine zv_sub (lv' := [(0, .ref (ob E 327)), (1, .int (zI (i : Int))), (2, .int (zI ((j + 1 : Nat) : Int)))]) [2, 3, 0] (zcons rfl (zcons rfl (zcons (zqI q17_146) rfl))) ?_
            refine zv_eqS (τ := τ78) (rfl) ?_
            exact ih ((j + 1, τ78)) (by first | (exfalso; omega) | exact ⟨by show j + 1 ≤ S.tn i; omega, by rw [ptL, ← hQ9, ppL, if_pos (by omega), ← List.append_assoc]; exact hO4⟩ | exact ⟨by show j + 1 ≤ S.tn i; omega, by rw [ptL, ← hQ9, ppL, if_neg (by omega), if_pos (by omega), ← List.append_assoc, ← List.append_assoc]; exact hO5⟩ | exact ⟨by show j + 1 ≤ S.tn i; omega, by rw [ptL, ← hQ9, ppL, if_neg (by omega), if_neg (by omega), ← List.append_assoc, ← List.append_assoc]; exact hO5⟩) (by show S.tn i - (j + 1) < S.tn i - j; omega)
          · skip
            refine zv_aload_n C 1 dX11_printTrain_86 rfl rfl ?_
            refine zv_aload_n C 1 dX11_printTrain_87 rfl rfl ?_
            refine zv_iload_n C 2 dX11_printTrain_88 rfl rfl ?_
            refine zv_iload_n C 3 dX11_printTrain_89 rfl rfl ?_
            refine zv_iconst (v := zI 2) C dX11_printTrain_90 rfl ?_
            refine zv_cviD (st := [.ref (ob E 327)]) C (c_X11_partOf hfl E τ78 U.nb S i j 2 (mO_R hO4 hW) hi8 (by omega) ht (by omega)) mX11_partOf kX11_191 (by decide : kd 327 = 10) rfl rfl rfl ⟨rfl, rfl⟩ (show zfit (zrm 1 21) 4 (zrm 5 127) = true from rfl) (Nat.le_of_ble_eq_true rfl) dX11_printTrain_91 ⟨Nat.zero_le _, Nat.zero_le _⟩ ?_
            refine zv_i2lZ C (by omega) dX11_printTrain_94 ?_
            refine zv_cvv (st := []) C (c_X11_writeNumber hfl E τ78 σ (Q9 ++ lNum (S.tr i j 1 : Int) ++ [111]) (S.tr i j 2 : Int) hO4 (by first | omega | (simp only [List.length_append, List.length_cons, List.length_nil, lD_l]; omega)) (by omega)) mX11_writeNumber kX11_448 (by decide : kd 327 = 10) rfl rfl rfl ⟨rfl, rfl⟩ (show zfit (zrm 1 21) 7 (zrm 5 127) = true from rfl) (Nat.le_of_ble_eq_true rfl) dX11_printTrain_95 ⟨Nat.zero_le _, Nat.zero_le _⟩ (fun τ95 hp95 => ?_)
            have hO5 := hp95.1
            refine zv_iinc (v := (zI ((j : Int) + 1))) (lv' := [(2, .int (zI ((j : Int) + 1))), (3, .int (zI (S.tr i j 0 : Int))), (0, .ref (ob E 327)), (1, .int (zI (i : Int)))]) C 3 dX11_printTrain_98 rfl (zI_add _ _) (by decide) rfl ?_
            refine zv_goto (tgt := 17) C dX11_printTrain_101 (by decide) ?_
            have q17_162 : ((j : Int) + 1 : Int) = ((j + 1 : Nat) : Int) := by omega
            refine zv_sub (lv' := [(0, .ref (ob E 327)), (1, .int (zI (i : Int))), (2, .int (zI ((j + 1 : Nat) : Int)))]) [2, 3, 0] (zcons rfl (zcons rfl (zcons (zqI q17_162) rfl))) ?_
            refine zv_eqS (τ := τ95) (rfl) ?_
            exact ih ((j + 1, τ95)) (by first | (exfalso; omega) | exact ⟨by show j + 1 ≤ S.tn i; omega, by rw [ptL, ← hQ9, ppL, if_pos (by omega), ← List.append_assoc]; exact hO4⟩ | exact ⟨by show j + 1 ≤ S.tn i; omega, by rw [ptL, ← hQ9, ppL, if_neg (by omega), if_pos (by omega), ← List.append_assoc, ← List.append_assoc]; exact hO5⟩ | exact ⟨by show j + 1 ≤ S.tn i; omega, by rw [ptL, ← hQ9, ppL, if_neg (by omega), if_neg (by omega), ← List.append_assoc, ← List.append_assoc]; exact hO5⟩) (by show S.tn i - (j + 1) < S.tn i - j; omega)
      · skip
        refine zv_bipush (v := zI 47) C dX11_printTrain_61 (by decide) ?_
        refine zv_goto (tgt := 78) C dX11_printTrain_63 (by decide) ?_
        refine zv_cvv (st := []) C (c_X11_write hfl E τ53 σ (Q9 ++ lNum (S.tr i j 1 : Int)) 47 hO3 (by first | omega | (simp only [List.length_append, List.length_cons, List.length_nil, lD_l]; omega))) mX11_write kX11_441 (by decide : kd 327 = 10) rfl rfl rfl ⟨rfl, rfl⟩ (show zfit (zrm 0 0) 2 (zrm 5 127) = true from rfl) (Nat.le_of_ble_eq_true rfl) dX11_printTrain_78 ⟨Nat.zero_le _, Nat.zero_le _⟩ (fun τ78 hp78 => ?_)
        have hO4 : mO σ τ78 (Q9 ++ lNum (S.tr i j 1 : Int) ++ [47]) := hp78.1
        refine zv_iload_n C 0 dX11_printTrain_81 rfl rfl ?_
        refine zv_iconst (v := zI 2) C dX11_printTrain_82 rfl ?_
        refine zv_icmp_eqZ (tgt := 98) C (by omega) (by omega) dX11_printTrain_83 (by decide) (fun h83 => ?_) (fun h83 => ?_)
        · skip
          refine zv_iinc (v := (zI ((j : Int) + 1))) (lv' := [(2, .int (zI ((j : Int) + 1))), (3, .int (zI (S.tr i j 0 : Int))), (0, .ref (ob E 327)), (1, .int (zI (i : Int)))]) C 3 dX11_printTrain_98 rfl (zI_add _ _) (by decide) rfl ?_
          refine zv_goto (tgt := 17) C dX11_printTrain_101 (by decide) ?_
          have q17_177 : ((j : Int) + 1 : Int) = ((j + 1 : Nat) : Int) := by omega
          refine zv_sub (lv' := [(0, .ref (ob E 327)), (1, .int (zI (i : Int))), (2, .int (zI ((j + 1 : Nat) : Int)))]) [2, 3, 0] (zcons rfl (zcons rfl (zcons (zqI q17_177) rfl))) ?_
          refine zv_eqS (τ := τ78) (rfl) ?_
          exact ih ((j + 1, τ78)) (by first | (exfalso; omega) | exact ⟨by show j + 1 ≤ S.tn i; omega, by rw [ptL, ← hQ9, ppL, if_pos (by omega), ← List.append_assoc]; exact hO4⟩ | exact ⟨by show j + 1 ≤ S.tn i; omega, by rw [ptL, ← hQ9, ppL, if_neg (by omega), if_pos (by omega), ← List.append_assoc, ← List.append_assoc]; exact hO5⟩ | exact ⟨by show j + 1 ≤ S.tn i; omega, by rw [ptL, ← hQ9, ppL, if_neg (by omega), if_neg (by omega), ← List.append_assoc, ← List.append_assoc]; exact hO5⟩) (by show S.tn i - (j + 1) < S.tn i - j; omega)
        · skip
          refine zv_aload_n C 1 dX11_printTrain_86 rfl rfl ?_
          refine zv_aload_n C 1 dX11_printTrain_87 rfl rfl ?_
          refine zv_iload_n C 2 dX11_printTrain_88 rfl rfl ?_
          refine zv_iload_n C 3 dX11_printTrain_89 rfl rfl ?_
          refine zv_iconst (v := zI 2) C dX11_printTrain_90 rfl ?_
          refine zv_cviD (st := [.ref (ob E 327)]) C (c_X11_partOf hfl E τ78 U.nb S i j 2 (mO_R hO4 hW) hi8 (by omega) ht (by omega)) mX11_partOf kX11_191 (by decide : kd 327 = 10) rfl rfl rfl ⟨rfl, rfl⟩ (show zfit (zrm 1 21) 4 (zrm 5 127) = true from rfl) (Nat.le_of_ble_eq_true rfl) dX11_printTrain_91 ⟨Nat.zero_le _, Nat.zero_le _⟩ ?_
          refine zv_i2lZ C (by omega) dX11_printTrain_94 ?_
          refine zv_cvv (st := []) C (c_X11_writeNumber hfl E τ78 σ (Q9 ++ lNum (S.tr i j 1 : Int) ++ [47]) (S.tr i j 2 : Int) hO4 (by first | omega | (simp only [List.length_append, List.length_cons, List.length_nil, lD_l]; omega)) (by omega)) mX11_writeNumber kX11_448 (by decide : kd 327 = 10) rfl rfl rfl ⟨rfl, rfl⟩ (show zfit (zrm 1 21) 7 (zrm 5 127) = true from rfl) (Nat.le_of_ble_eq_true rfl) dX11_printTrain_95 ⟨Nat.zero_le _, Nat.zero_le _⟩ (fun τ95 hp95 => ?_)
          have hO5 := hp95.1
          refine zv_iinc (v := (zI ((j : Int) + 1))) (lv' := [(2, .int (zI ((j : Int) + 1))), (3, .int (zI (S.tr i j 0 : Int))), (0, .ref (ob E 327)), (1, .int (zI (i : Int)))]) C 3 dX11_printTrain_98 rfl (zI_add _ _) (by decide) rfl ?_
          refine zv_goto (tgt := 17) C dX11_printTrain_101 (by decide) ?_
          have q17_193 : ((j : Int) + 1 : Int) = ((j + 1 : Nat) : Int) := by omega
          refine zv_sub (lv' := [(0, .ref (ob E 327)), (1, .int (zI (i : Int))), (2, .int (zI ((j + 1 : Nat) : Int)))]) [2, 3, 0] (zcons rfl (zcons rfl (zcons (zqI q17_193) rfl))) ?_
          refine zv_eqS (τ := τ95) (rfl) ?_
          exact ih ((j + 1, τ95)) (by first | (exfalso; omega) | exact ⟨by show j + 1 ≤ S.tn i; omega, by rw [ptL, ← hQ9, ppL, if_pos (by omega), ← List.append_assoc]; exact hO4⟩ | exact ⟨by show j + 1 ≤ S.tn i; omega, by rw [ptL, ← hQ9, ppL, if_neg (by omega), if_pos (by omega), ← List.append_assoc, ← List.append_assoc]; exact hO5⟩ | exact ⟨by show j + 1 ≤ S.tn i; omega, by rw [ptL, ← hQ9, ppL, if_neg (by omega), if_neg (by omega), ← List.append_assoc, ← List.append_assoc]; exact hO5⟩) (by show S.tn i - (j + 1) < S.tn i - j; omega)
    · skip
      refine zv_aload_n C 0 dX11_printTrain_30 rfl rfl ?_
      refine zv_bipush (v := zI 42) C dX11_printTrain_31 (by decide) ?_
      refine zv_cvv (st := []) C (c_X11_write hfl E v9 σ (ptL S i j) (42) hO (by first | omega | (simp only [List.length_append, List.length_cons, List.length_nil, lD_l]; omega))) mX11_write kX11_441 (by decide : kd 327 = 10) rfl rfl rfl ⟨rfl, rfl⟩ (show zfit (zrm 0 0) 2 (zrm 5 127) = true from rfl) (Nat.le_of_ble_eq_true rfl) dX11_printTrain_33 ⟨Nat.zero_le _, Nat.zero_le _⟩ (fun τ33 hp33 => ?_)
      have hO1 : mO σ τ33 (ptL S i j ++ [42]) := hp33.1
      obtain ⟨Q9, hQ9⟩ : ∃ Q : List Nat, Q = ptL S i j ++ (if 0 < j then [42] else []) := ⟨_, rfl⟩
      have hQl : Q9.length ≤ 8 * j + 1 := by
        rw [hQ9, List.length_append]
        split
        · simp only [List.length_cons, List.length_nil]; omega
        · simp only [List.length_nil]; omega
      have hO2 : mO σ τ33 Q9 := by rw [hQ9, if_pos (by omega)]; exact hO1
      refine zv_aload_n C 0 dX11_printTrain_36 rfl rfl ?_
      refine zv_iload_n C 1 dX11_printTrain_37 rfl rfl ?_
      refine zv_iload_n C 2 dX11_printTrain_38 rfl rfl ?_
      refine zv_iconst (v := zI 0) C dX11_printTrain_39 rfl ?_
      refine zv_cviD (st := []) C (c_X11_partOf hfl E τ33 U.nb S i j 0 (mO_R hO2 hW) hi8 (by omega) ht (by omega)) mX11_partOf kX11_191 (by decide : kd 327 = 10) rfl rfl rfl ⟨rfl, rfl⟩ (show zfit (zrm 1 21) 4 (zrm 5 127) = true from rfl) (Nat.le_of_ble_eq_true rfl) dX11_printTrain_40 ⟨Nat.zero_le _, Nat.zero_le _⟩ ?_
      refine zv_istore_n (lv' := [(3, .int (zI (S.tr i j 0 : Int))), (0, .ref (ob E 327)), (1, .int (zI (i : Int))), (2, .int (zI (j : Int)))]) C dX11_printTrain_43 rfl (by decide) rfl ?_
      refine zv_aload_n C 1 dX11_printTrain_44 rfl rfl ?_
      refine zv_aload_n C 1 dX11_printTrain_45 rfl rfl ?_
      refine zv_iload_n C 2 dX11_printTrain_46 rfl rfl ?_
      refine zv_iload_n C 3 dX11_printTrain_47 rfl rfl ?_
      refine zv_iconst (v := zI 1) C dX11_printTrain_48 rfl ?_
      refine zv_cviD (st := [.ref (ob E 327)]) C (c_X11_partOf hfl E τ33 U.nb S i j 1 (mO_R hO2 hW) hi8 (by omega) ht (by omega)) mX11_partOf kX11_191 (by decide : kd 327 = 10) rfl rfl rfl ⟨rfl, rfl⟩ (show zfit (zrm 1 21) 4 (zrm 5 127) = true from rfl) (Nat.le_of_ble_eq_true rfl) dX11_printTrain_49 ⟨Nat.zero_le _, Nat.zero_le _⟩ ?_
      refine zv_i2lZ C (by omega) dX11_printTrain_52 ?_
      refine zv_cvv (st := []) C (c_X11_writeNumber hfl E τ33 σ (Q9) ((S.tr i j 1 : Int)) hO2 (by first | omega | (simp only [List.length_append, List.length_cons, List.length_nil, lD_l]; omega)) (by omega)) mX11_writeNumber kX11_448 (by decide : kd 327 = 10) rfl rfl rfl ⟨rfl, rfl⟩ (show zfit (zrm 1 21) 7 (zrm 5 127) = true from rfl) (Nat.le_of_ble_eq_true rfl) dX11_printTrain_53 ⟨Nat.zero_le _, Nat.zero_le _⟩ (fun τ53 hp53 => ?_)
      have hO3 : mO σ τ53 (Q9 ++ lNum ((S.tr i j 1 : Int))) := hp53.1
      refine zv_aload_n C 1 dX11_printTrain_56 rfl rfl ?_
      refine zv_iload_n C 0 dX11_printTrain_57 rfl rfl ?_
      refine zv_if_neZ (tgt := 66) C (by omega) dX11_printTrain_58 (by decide) (fun h58 => ?_) (fun h58 => ?_)
      · skip
        refine zv_iload_n C 0 dX11_printTrain_66 rfl rfl ?_
        refine zv_iconst (v := zI 1) C dX11_printTrain_67 rfl ?_
        refine zv_icmp_neZ (tgt := 76) C (by omega) (by omega) dX11_printTrain_68 (by decide) (fun h68 => ?_) (fun h68 => ?_)
        · skip
          refine zv_bipush (v := zI 105) C dX11_printTrain_76 (by decide) ?_
          refine zv_cvv (st := []) C (c_X11_write hfl E τ53 σ (Q9 ++ lNum (S.tr i j 1 : Int)) 105 hO3 (by first | omega | (simp only [List.length_append, List.length_cons, List.length_nil, lD_l]; omega))) mX11_write kX11_441 (by decide : kd 327 = 10) rfl rfl rfl ⟨rfl, rfl⟩ (show zfit (zrm 0 0) 2 (zrm 5 127) = true from rfl) (Nat.le_of_ble_eq_true rfl) dX11_printTrain_78 ⟨Nat.zero_le _, Nat.zero_le _⟩ (fun τ78 hp78 => ?_)
          have hO4 : mO σ τ78 (Q9 ++ lNum (S.tr i j 1 : Int) ++ [105]) := hp78.1
          refine zv_iload_n C 0 dX11_printTrain_81 rfl rfl ?_
          refine zv_iconst (v := zI 2) C dX11_printTrain_82 rfl ?_
          refine zv_icmp_eqZ (tgt := 98) C (by omega) (by omega) dX11_printTrain_83 (by decide) (fun h83 => ?_) (fun h83 => ?_)
          · skip
            refine zv_iinc (v := (zI ((j : Int) + 1))) (lv' := [(2, .int (zI ((j : Int) + 1))), (3, .int (zI (S.tr i j 0 : Int))), (0, .ref (ob E 327)), (1, .int (zI (i : Int)))]) C 3 dX11_printTrain_98 rfl (zI_add _ _) (by decide) rfl ?_
            refine zv_goto (tgt := 17) C dX11_printTrain_101 (by decide) ?_
            have q17_241 : ((j : Int) + 1 : Int) = ((j + 1 : Nat) : Int) := by omega
            refine zv_sub (lv' := [(0, .ref (ob E 327)), (1, .int (zI (i : Int))), (2, .int (zI ((j + 1 : Nat) : Int)))]) [2, 3, 0] (zcons rfl (zcons rfl (zcons (zqI q17_241) rfl))) ?_
            refine zv_eqS (τ := τ78) (rfl) ?_
            exact ih ((j + 1, τ78)) (by first | (exfalso; omega) | exact ⟨by show j + 1 ≤ S.tn i; omega, by rw [ptL, ← hQ9, ppL, if_pos (by omega), ← List.append_assoc]; exact hO4⟩ | exact ⟨by show j + 1 ≤ S.tn i; omega, by rw [ptL, ← hQ9, ppL, if_neg (by omega), if_pos (by omega), ← List.append_assoc, ← List.append_assoc]; exact hO5⟩ | exact ⟨by show j + 1 ≤ S.tn i; omega, by rw [ptL, ← hQ9, ppL, if_neg (by omega), if_neg (by omega), ← List.append_assoc, ← List.append_assoc]; exact hO5⟩) (by show S.tn i - (j + 1) < S.tn i - j; omega)
          · skip
            refine zv_aload_n C 1 dX11_printTrain_86 rfl rfl ?_
            refine zv_aload_n C 1 dX11_printTrain_87 rfl rfl ?_
            refine zv_iload_n C 2 dX11_printTrain_88 rfl rfl ?_
            refine zv_iload_n C 3 dX11_printTrain_89 rfl rfl ?_
            refine zv_iconst (v := zI 2) C dX11_printTrain_90 rfl ?_
            refine zv_cviD (st := [.ref (ob E 327)]) C (c_X11_partOf hfl E τ78 U.nb S i j 2 (mO_R hO4 hW) hi8 (by omega) ht (by omega)) mX11_partOf kX11_191 (by decide : kd 327 = 10) rfl rfl rfl ⟨rfl, rfl⟩ (show zfit (zrm 1 21) 4 (zrm 5 127) = true from rfl) (Nat.le_of_ble_eq_true rfl) dX11_printTrain_91 ⟨Nat.zero_le _, Nat.zero_le _⟩ ?_
            refine zv_i2lZ C (by omega) dX11_printTrain_94 ?_
            refine zv_cvv (st := []) C (c_X11_writeNumber hfl E τ78 σ (Q9 ++ lNum (S.tr i j 1 : Int) ++ [105]) (S.tr i j 2 : Int) hO4 (by first | omega | (simp only [List.length_append, List.length_cons, List.length_nil, lD_l]; omega)) (by omega)) mX11_writeNumber kX11_448 (by decide : kd 327 = 10) rfl rfl rfl ⟨rfl, rfl⟩ (show zfit (zrm 1 21) 7 (zrm 5 127) = true from rfl) (Nat.le_of_ble_eq_true rfl) dX11_printTrain_95 ⟨Nat.zero_le _, Nat.zero_le _⟩ (fun τ95 hp95 => ?_)
            have hO5 := hp95.1
            refine zv_iinc (v := (zI ((j : Int) + 1))) (lv' := [(2, .int (zI ((j : Int) + 1))), (3, .int (zI (S.tr i j 0 : Int))), (0, .ref (ob E 327)), (1, .int (zI (i : Int)))]) C 3 dX11_printTrain_98 rfl (zI_add _ _) (by decide) rfl ?_
            refine zv_goto (tgt := 17) C dX11_printTrain_101 (by decide) ?_
            have q17_257 : ((j : Int) + 1 : Int) = ((j + 1 : Nat) : Int) := by omega
            refine zv_sub (lv' := [(0, .ref (ob E 327)), (1, .int (zI (i : Int))), (2, .int (zI ((j + 1 : Nat) : Int)))]) [2, 3, 0] (zcons rfl (zcons rfl (zcons (zqI q17_257) rfl))) ?_
            refine zv_eqS (τ := τ95) (rfl) ?_
            exact ih ((j + 1, τ95)) (by first | (exfalso; omega) | exact ⟨by show j + 1 ≤ S.tn i; omega, by rw [ptL, ← hQ9, ppL, if_pos (by omega), ← List.append_assoc]; exact hO4⟩ | exact ⟨by show j + 1 ≤ S.tn i; omega, by rw [ptL, ← hQ9, ppL, if_neg (by omega), if_pos (by omega), ← List.append_assoc, ← List.append_assoc]; exact hO5⟩ | exact ⟨by show j + 1 ≤ S.tn i; omega, by rw [ptL, ← hQ9, ppL, if_neg (by omega), if_neg (by omega), ← List.append_assoc, ← List.append_assoc]; exact hO5⟩) (by show S.tn i - (j + 1) < S.tn i - j; omega)
        · skip
          refine zv_bipush (v := zI 111) C dX11_printTrain_71 (by decide) ?_
          refine zv_goto (tgt := 78) C dX11_printTrain_73 (by decide) ?_
          refine zv_cvv (st := []) C (c_X11_write hfl E τ53 σ (Q9 ++ lNum (S.tr i j 1 : Int)) 111 hO3 (by first | omega | (simp only [List.length_append, List.length_cons, List.length_nil, lD_l]; omega))) mX11_write kX11_441 (by decide : kd 327 = 10) rfl rfl rfl ⟨rfl, rfl⟩ (show zfit (zrm 0 0) 2 (zrm 5 127) = true from rfl) (Nat.le_of_ble_eq_true rfl) dX11_printTrain_78 ⟨Nat.zero_le _, Nat.zero_le _⟩ (fun τ78 hp78 => ?_)
          have hO4 : mO σ τ78 (Q9 ++ lNum (S.tr i j 1 : Int) ++ [111]) := hp78.1
          refine zv_iload_n C 0 dX11_printTrain_81 rfl rfl ?_
          refine zv_iconst (v := zI 2) C dX11_printTrain_82 rfl ?_
          refine zv_icmp_eqZ (tgt := 98) C (by omega) (by omega) dX11_printTrain_83 (by decide) (fun h83 => ?_) (fun h83 => ?_)
          · skip
            refine zv_iinc (v := (zI ((j : Int) + 1))) (lv' := [(2, .int (zI ((j : Int) + 1))), (3, .int (zI (S.tr i j 0 : Int))), (0, .ref (ob E 327)), (1, .int (zI (i : Int)))]) C 3 dX11_printTrain_98 rfl (zI_add _ _) (by decide) rfl ?_
            refine zv_goto (tgt := 17) C dX11_printTrain_101 (by decide) ?_
            have q17_272 : ((j : Int) + 1 : Int) = ((j + 1 : Nat) : Int) := by omega
            refine zv_sub (lv' := [(0, .ref (ob E 327)), (1, .int (zI (i : Int))), (2, .int (zI ((j + 1 : Nat) : Int)))]) [2, 3, 0] (zcons rfl (zcons rfl (zcons (zqI q17_272) rfl))) ?_
            refine zv_eqS (τ := τ78) (rfl) ?_
            exact ih ((j + 1, τ78)) (by first | (exfalso; omega) | exact ⟨by show j + 1 ≤ S.tn i; omega, by rw [ptL, ← hQ9, ppL, if_pos (by omega), ← List.append_assoc]; exact hO4⟩ | exact ⟨by show j + 1 ≤ S.tn i; omega, by rw [ptL, ← hQ9, ppL, if_neg (by omega), if_pos (by omega), ← List.append_assoc, ← List.append_assoc]; exact hO5⟩ | exact ⟨by show j + 1 ≤ S.tn i; omega, by rw [ptL, ← hQ9, ppL, if_neg (by omega), if_neg (by omega), ← List.append_assoc, ← List.append_assoc]; exact hO5⟩) (by show S.tn i - (j + 1) < S.tn i - j; omega)
          · skip
            refine zv_aload_n C 1 dX11_printTrain_86 rfl rfl ?_
            refine zv_aload_n C 1 dX11_printTrain_87 rfl rfl ?_
            refine zv_iload_n C 2 dX11_printTrain_88 rfl rfl ?_
            refine zv_iload_n C 3 dX11_printTrain_89 rfl rfl ?_
            refine zv_iconst (v := zI 2) C dX11_printTrain_90 rfl ?_
            refine zv_cviD (st := [.ref (ob E 327)]) C (c_X11_partOf hfl E τ78 U.nb S i j 2 (mO_R hO4 hW) hi8 (by omega) ht (by omega)) mX11_partOf kX11_191 (by decide : kd 327 = 10) rfl rfl rfl ⟨rfl, rfl⟩ (show zfit (zrm 1 21) 4 (zrm 5 127) = true from rfl) (Nat.le_of_ble_eq_true rfl) dX11_printTrain_91 ⟨Nat.zero_le _, Nat.zero_le _⟩ ?_
            refine zv_i2lZ C (by omega) dX11_printTrain_94 ?_
            refine zv_cvv (st := []) C (c_X11_writeNumber hfl E τ78 σ (Q9 ++ lNum (S.tr i j 1 : Int) ++ [111]) (S.tr i j 2 : Int) hO4 (by first | omega | (simp only [List.length_append, List.length_cons, List.length_nil, lD_l]; omega)) (by omega)) mX11_writeNumber kX11_448 (by decide : kd 327 = 10) rfl rfl rfl ⟨rfl, rfl⟩ (show zfit (zrm 1 21) 7 (zrm 5 127) = true from rfl) (Nat.le_of_ble_eq_true rfl) dX11_printTrain_95 ⟨Nat.zero_le _, Nat.zero_le _⟩ (fun τ95 hp95 => ?_)
            have hO5 := hp95.1
            refine zv_iinc (v := (zI ((j : Int) + 1))) (lv' := [(2, .int (zI ((j : Int) + 1))), (3, .int (zI (S.tr i j 0 : Int))), (0, .ref (ob E 327)), (1, .int (zI (i : Int)))]) C 3 dX11_printTrain_98 rfl (zI_add _ _) (by decide) rfl ?_
            refine zv_goto (tgt := 17) C dX11_printTrain_101 (by decide) ?_
            have q17_288 : ((j : Int) + 1 : Int) = ((j + 1 : Nat) : Int) := by omega
            refine zv_sub (lv' := [(0, .ref (ob E 327)), (1, .int (zI (i : Int))), (2, .int (zI ((j + 1 : Nat) : Int)))]) [2, 3, 0] (zcons rfl (zcons rfl (zcons (zqI q17_288) rfl))) ?_
            refine zv_eqS (τ := τ95) (rfl) ?_
            exact ih ((j + 1, τ95)) (by first | (exfalso; omega) | exact ⟨by show j + 1 ≤ S.tn i; omega, by rw [ptL, ← hQ9, ppL, if_pos (by omega), ← List.append_assoc]; exact hO4⟩ | exact ⟨by show j + 1 ≤ S.tn i; omega, by rw [ptL, ← hQ9, ppL, if_neg (by omega), if_pos (by omega), ← List.append_assoc, ← List.append_assoc]; exact hO5⟩ | exact ⟨by show j + 1 ≤ S.tn i; omega, by rw [ptL, ← hQ9, ppL, if_neg (by omega), if_neg (by omega), ← List.append_assoc, ← List.append_assoc]; exact hO5⟩) (by show S.tn i - (j + 1) < S.tn i - j; omega)
      · skip
        refine zv_bipush (v := zI 47) C dX11_printTrain_61 (by decide) ?_
        refine zv_goto (tgt := 78) C dX11_printTrain_63 (by decide) ?_
        refine zv_cvv (st := []) C (c_X11_write hfl E τ53 σ (Q9 ++ lNum (S.tr i j 1 : Int)) 47 hO3 (by first | omega | (simp only [List.length_append, List.length_cons, List.length_nil, lD_l]; omega))) mX11_write kX11_441 (by decide : kd 327 = 10) rfl rfl rfl ⟨rfl, rfl⟩ (show zfit (zrm 0 0) 2 (zrm 5 127) = true from rfl) (Nat.le_of_ble_eq_true rfl) dX11_printTrain_78 ⟨Nat.zero_le _, Nat.zero_le _⟩ (fun τ78 hp78 => ?_)
        have hO4 : mO σ τ78 (Q9 ++ lNum (S.tr i j 1 : Int) ++ [47]) := hp78.1
        refine zv_iload_n C 0 dX11_printTrain_81 rfl rfl ?_
        refine zv_iconst (v := zI 2) C dX11_printTrain_82 rfl ?_
        refine zv_icmp_eqZ (tgt := 98) C (by omega) (by omega) dX11_printTrain_83 (by decide) (fun h83 => ?_) (fun h83 => ?_)
        · skip
          refine zv_iinc (v := (zI ((j : Int) + 1))) (lv' := [(2, .int (zI ((j : Int) + 1))), (3, .int (zI (S.tr i j 0 : Int))), (0, .ref (ob E 327)), (1, .int (zI (i : Int)))]) C 3 dX11_printTrain_98 rfl (zI_add _ _) (by decide) rfl ?_
          refine zv_goto (tgt := 17) C dX11_printTrain_101 (by decide) ?_
          have q17_303 : ((j : Int) + 1 : Int) = ((j + 1 : Nat) : Int) := by omega
          refine zv_sub (lv' := [(0, .ref (ob E 327)), (1, .int (zI (i : Int))), (2, .int (zI ((j + 1 : Nat) : Int)))]) [2, 3, 0] (zcons rfl (zcons rfl (zcons (zqI q17_303) rfl))) ?_
          refine zv_eqS (τ := τ78) (rfl) ?_
          exact ih ((j + 1, τ78)) (by first | (exfalso; omega) | exact ⟨by show j + 1 ≤ S.tn i; omega, by rw [ptL, ← hQ9, ppL, if_pos (by omega), ← List.append_assoc]; exact hO4⟩ | exact ⟨by show j + 1 ≤ S.tn i; omega, by rw [ptL, ← hQ9, ppL, if_neg (by omega), if_pos (by omega), ← List.append_assoc, ← List.append_assoc]; exact hO5⟩ | exact ⟨by show j + 1 ≤ S.tn i; omega, by rw [ptL, ← hQ9, ppL, if_neg (by omega), if_neg (by omega), ← List.append_assoc, ← List.append_assoc]; exact hO5⟩) (by show S.tn i - (j + 1) < S.tn i - j; omega)
        · skip
          refine zv_aload_n C 1 dX11_printTrain_86 rfl rfl ?_
          refine zv_aload_n C 1 dX11_printTrain_87 rfl rfl ?_
          refine zv_iload_n C 2 dX11_printTrain_88 rfl rfl ?_
          refine zv_iload_n C 3 dX11_printTrain_89 rfl rfl ?_
          refine zv_iconst (v := zI 2) C dX11_printTrain_90 rfl ?_
          refine zv_cviD (st := [.ref (ob E 327)]) C (c_X11_partOf hfl E τ78 U.nb S i j 2 (mO_R hO4 hW) hi8 (by omega) ht (by omega)) mX11_partOf kX11_191 (by decide : kd 327 = 10) rfl rfl rfl ⟨rfl, rfl⟩ (show zfit (zrm 1 21) 4 (zrm 5 127) = true from rfl) (Nat.le_of_ble_eq_true rfl) dX11_printTrain_91 ⟨Nat.zero_le _, Nat.zero_le _⟩ ?_
          refine zv_i2lZ C (by omega) dX11_printTrain_94 ?_
          refine zv_cvv (st := []) C (c_X11_writeNumber hfl E τ78 σ (Q9 ++ lNum (S.tr i j 1 : Int) ++ [47]) (S.tr i j 2 : Int) hO4 (by first | omega | (simp only [List.length_append, List.length_cons, List.length_nil, lD_l]; omega)) (by omega)) mX11_writeNumber kX11_448 (by decide : kd 327 = 10) rfl rfl rfl ⟨rfl, rfl⟩ (show zfit (zrm 1 21) 7 (zrm 5 127) = true from rfl) (Nat.le_of_ble_eq_true rfl) dX11_printTrain_95 ⟨Nat.zero_le _, Nat.zero_le _⟩ (fun τ95 hp95 => ?_)
          have hO5 := hp95.1
          refine zv_iinc (v := (zI ((j : Int) + 1))) (lv' := [(2, .int (zI ((j : Int) + 1))), (3, .int (zI (S.tr i j 0 : Int))), (0, .ref (ob E 327)), (1, .int (zI (i : Int)))]) C 3 dX11_printTrain_98 rfl (zI_add _ _) (by decide) rfl ?_
          refine zv_goto (tgt := 17) C dX11_printTrain_101 (by decide) ?_
          have q17_319 : ((j : Int) + 1 : Int) = ((j + 1 : Nat) : Int) := by omega
          refine zv_sub (lv' := [(0, .ref (ob E 327)), (1, .int (zI (i : Int))), (2, .int (zI ((j + 1 : Nat) : Int)))]) [2, 3, 0] (zcons rfl (zcons rfl (zcons (zqI q17_319) rfl))) ?_
          refine zv_eqS (τ := τ95) (rfl) ?_
          exact ih ((j + 1, τ95)) (by first | (exfalso; omega) | exact ⟨by show j + 1 ≤ S.tn i; omega, by rw [ptL, ← hQ9, ppL, if_pos (by omega), ← List.append_assoc]; exact hO4⟩ | exact ⟨by show j + 1 ≤ S.tn i; omega, by rw [ptL, ← hQ9, ppL, if_neg (by omega), if_pos (by omega), ← List.append_assoc, ← List.append_assoc]; exact hO5⟩ | exact ⟨by show j + 1 ≤ S.tn i; omega, by rw [ptL, ← hQ9, ppL, if_neg (by omega), if_neg (by omega), ← List.append_assoc, ← List.append_assoc]; exact hO5⟩) (by show S.tn i - (j + 1) < S.tn i - j; omega)
set_option maxRecDepth 20000 in
theorem x1_X11_printTrain {l : Launch} (hfl : l.stackTraces = false) (E : zE) (σ : zS) (σc : zS) (U : zSU) (y : Int) (hB : zRb (gI σ 328) U) (hU : zSUp σc 29 U) (hy : -2147483648 ≤ y ∧ y < 2147483648) (hno : ¬ (0 ≤ y ∧ y < U.nb)) : zRi l E yX11_printTrain cX11_printTrain 4 .int (zrm 2 46) [.ref (ob E 327), .int (zI y)] σ (fun r τ => r = zI 0 ∧ mK σ τ 1) := by
  refine Met.ofW (cc := cX11_printTrain) (maxL := 4) (ret := (some .int)) (by decide +kernel) rfl ?_
  intro p e s m args below meth c s₁ B hml hv
  obtain ⟨rfl, hd⟩ := hv
  have C := zX_of (own := RX11) hfl B hml rfl hd rfl
  have hr := B.returns
  refine zV_go hd (Nat.le_of_ble_eq_true rfl) (lv := [(0, .ref (ob E 327)), (1, .int (zI y))]) rfl ?_
  have hnb : U.nb ≤ 8 := hU.2.2.1
  have hs0 := hU.2.2.2.1
  
  refine zv_aload_n C 0 dX11_printTrain_0 rfl rfl ?_
  refine zv_iload_n C 1 dX11_printTrain_1 rfl rfl ?_
  refine zv_cviD (st := []) C (c1_X11_noBody hfl E σ σc U (y) hB hU (by omega) hno) mX11_noBody kX11_319 (by decide : kd 327 = 10) rfl rfl rfl ⟨rfl, rfl⟩ (show zfit (zrm 1 25) 2 (zrm 2 46) = true from rfl) (Nat.le_of_ble_eq_true rfl) dX11_printTrain_2 ⟨Nat.zero_le _, Nat.zero_le _⟩ ?_
  refine zv_if_eqZ (tgt := 10) C (by omega) dX11_printTrain_5 (by decide) (fun h5 => absurd h5 (by decide)) (fun h5 => ?_)
  refine zv_iconst (v := zI 0) C dX11_printTrain_8 rfl ?_
  exact zv_iret C hr rfl dX11_printTrain_9 ⟨rfl, by first | exact mK_th _ _ | exact mK_th2 _ _ _ | exact mK_C (mK_W (mK_th _ _) _ _) _ | exact mK_W (mK_th _ _) _ _⟩
