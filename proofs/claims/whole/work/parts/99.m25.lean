/-! the best pair, in the reference -/
theorem hPair_0 {t : Int} {b : Nat} {f : Nat → Nat} {n : Nat} (h : n < 2) : hPair t b f n n = none := by
  rcases (show n = 0 ∨ n = 1 by omega) with q | q <;> subst q <;> rfl
theorem pair_w {σ : zS} {t : Int} {b : Nat} {f : Nat → Nat} {n w : Nat} (h2 : 2 ≤ n) (hz : zHb σ (hPair t b f n n)) (hk : hOk (hPair t b f n n)) (hw : w < 2) : ∃ a : Nat, a ≤ 100 ∧ gI σ 337 0 = zI (a : Int) ∧ gI σ 337 w = zI (gWh (gPair t.natAbs b f n n) w) := by
  have r := gRp_pair t b f n n
  have hn := gPair_n (t1 := t.natAbs) (b1 := b) (f := f) h2 n (by omega)
  generalize gPair t.natAbs b f n n = g at r hn
  generalize hPair t b f n n = h at r hz hk
  cases g with
  | none => exact absurd rfl hn
  | some q =>
    obtain ⟨ov, un, sm, x, y, x2, y2⟩ := q
    cases h with
    | none => exact absurd r id
    | some z =>
      obtain ⟨f0, u0, a0, c0, d0, e0⟩ := z
      obtain ⟨r1, r2, r3, r4, r5, r6, r7⟩ := r
      subst r3 r4
      refine ⟨x, hk.2.2.1, hz.1, ?_⟩
      rcases (show w = 0 ∨ w = 1 by omega) with q | q <;> subst q
      · exact hz.1
      · exact hz.2.1
set_option maxRecDepth 20000 in
theorem c_X11_bestPair {l : Launch} (hfl : l.stackTraces = false) (E : zE) (σ : zS) (σc : zS) (U : zSU) (S : zST) (i w : Nat) (hB : zRb (gI σ 328) U) (hU : zSUp σc 29 U) (hW : zRo (gI σ 332) U.nb S) (hS : zSTp σc 34 S) (hi : i < U.nb) (hw : w < 2) (h2 : 2 ≤ S.n) : zRi l E yX11_bestPair cX11_bestPair 3 .int (zrm 7 202) [.ref (ob E 327), .int (zI (i : Int)), .int (zI (w : Int))] σ (fun r τ => r = zI (dBp U S i w) ∧ mK σ τ 0) := by
  refine Met.ofW (cc := cX11_bestPair) (maxL := 3) (ret := (some .int)) (by decide +kernel) rfl ?_
  intro p e s m args below meth c s₁ B hml hv
  obtain ⟨rfl, hd⟩ := hv
  have C := zX_of (own := RX11) hfl B hml rfl hd rfl
  have hr := B.returns
  refine zV_go hd (Nat.le_of_ble_eq_true rfl) (lv := [(0, .ref (ob E 327)), (1, .int (zI (i : Int))), (2, .int (zI (w : Int)))]) rfl ?_
  have hnb : U.nb ≤ 8 := hU.2.2.1
  have hs0 := hU.2.2.2.1
  
  refine zv_aload_n C 0 dX11_bestPair_0 rfl rfl ?_
  refine zv_iload_n C 1 dX11_bestPair_1 rfl rfl ?_
  refine zv_cviD (st := []) C (c0_X11_noBody hfl E σ σc U ((i : Int)) hB hU (by omega)) mX11_noBody kX11_319 (by decide : kd 327 = 10) rfl rfl rfl ⟨rfl, rfl⟩ (show zfit (zrm 1 25) 2 (zrm 7 202) = true from rfl) (Nat.le_of_ble_eq_true rfl) dX11_bestPair_2 ⟨Nat.zero_le _, Nat.zero_le _⟩ ?_
  refine zv_if_neZ (tgt := 31) C (by omega) dX11_bestPair_5 (by decide) (fun h5 => absurd h5 (by decide)) (fun h5 => ?_)
  refine zv_aload_n C 0 dX11_bestPair_8 rfl rfl ?_
  refine zv_iload_n C 2 dX11_bestPair_9 rfl rfl ?_
  refine zv_i2lZ C (by omega) dX11_bestPair_10 ?_
  refine zv_lconst (v := zL 0) C dX11_bestPair_11 (by decide) ?_
  refine zv_lconst (v := zL 1) C dX11_bestPair_12 (by decide) ?_
  refine zv_csiD (st := [.ref (ob E 327)]) C (c_X11_inRange hfl E (thW σ 0) ((w : Int)) (0) (1) (by omega) (by omega) (by omega)) mX11_inRange kX11_71 rfl ⟨rfl, rfl⟩ (show zfit (zrm 0 0) 6 (zrm 7 202) = true from rfl) (Nat.le_of_ble_eq_true rfl) dX11_bestPair_13 ⟨Nat.zero_le _, Nat.zero_le _⟩ ?_
  refine zv_if_neB (tgt := 23) C dX11_bestPair_16 (by decide) (fun h16 => ?_) (fun h16 => ?_)
  · skip
    refine zv_iconst (v := zI 0) C dX11_bestPair_23 rfl ?_
    refine zv_iconst (v := zI 2) C dX11_bestPair_24 rfl ?_
    refine zv_cviD (st := []) C (c0_X11_fails hfl E (thW σ 0) 2) mX11_fails kX11_309 (by decide : kd 327 = 10) rfl rfl rfl ⟨rfl, rfl⟩ (show zfit (zrm 0 0) 3 (zrm 7 202) = true from rfl) (Nat.le_of_ble_eq_true rfl) dX11_bestPair_25 ⟨Nat.zero_le _, Nat.zero_le _⟩ ?_
    refine zv_if_eqZ (tgt := 33) C (by omega) dX11_bestPair_28 (by decide) (fun h28 => ?_) (fun h28 => absurd h28 (by decide))
    refine zv_aload_n C 0 dX11_bestPair_33 rfl rfl ?_
    refine zv_iload_n C 1 dX11_bestPair_34 rfl rfl ?_
    refine zv_cvv (st := []) C (c_X11_searchesPair hfl E (thW σ 0) σc U S i hB hU hW hS hi (mK_th σ 0).2) mX11_searchesPair kX11_382 (by decide : kd 327 = 10) rfl rfl rfl ⟨rfl, rfl⟩ (show zfit (zrm 6 179) 4 (zrm 7 202) = true from rfl) (Nat.le_of_ble_eq_true rfl) dX11_bestPair_35 ⟨Nat.zero_le _, Nat.zero_le _⟩ (fun τ1 hp35 => ?_)
    obtain ⟨hG, hK1, hup, hdn, hO⟩ := hp35
    have hK : mK σ τ1 0 := ⟨mS_t (mK_th σ 0).1 hK1.1, hK1.2⟩
    obtain ⟨a7, ha71, ha72, ha73⟩ := pair_w h2 hG hO hw
    refine zv_aload_n C 0 dX11_bestPair_38 rfl rfl ?_
    refine zG10_25 C (by decide : kd 327 = _) kX11_41 dX11_bestPair_39 ?_
    refine zv_iconst (v := zI 0) C dX11_bestPair_42 rfl ?_
    refine zv_iald (j := 0) C (by decide : kd 337 = _) (zI_ix (by omega)) (by decide) dX11_bestPair_43 ?_
    refine zv_eqi (y := (zI (a7 : Int))) (ha72) ?_
    refine zv_iconst (v := zI (-1)) C dX11_bestPair_44 rfl ?_
    refine zv_icmp_neZ (tgt := 52) C (by omega) (by omega) dX11_bestPair_45 (by decide) (fun h45 => ?_) (fun h45 => ?_)
    · skip
      refine zv_aload_n C 0 dX11_bestPair_52 rfl rfl ?_
      refine zG10_25 C (by decide : kd 327 = _) kX11_41 dX11_bestPair_53 ?_
      refine zv_iload_n C 2 dX11_bestPair_56 rfl rfl ?_
      refine zv_iald (j := w) C (by decide : kd 337 = _) (zI_ix rfl) (Nat.lt_of_lt_of_le (show w < 4 by omega) (by decide)) dX11_bestPair_57 ?_
      refine zv_eqi (y := (zI (gWh (gPair (qTrue U i).1.natAbs (qTrue U i).2.toNat S.f S.n S.n) w))) (ha73) ?_
      exact zv_iret C hr rfl dX11_bestPair_58 ⟨by rw [dBp, if_neg (by omega)]; rfl, hK⟩
    · exfalso
      omega
  · skip
    refine zv_iconst (v := zI 1) C dX11_bestPair_19 rfl ?_
    refine zv_goto (tgt := 24) C dX11_bestPair_20 (by decide) ?_
    refine zv_iconst (v := zI 2) C dX11_bestPair_24 rfl ?_
    exfalso
    omega
set_option maxRecDepth 20000 in
theorem c0_X11_bestPair {l : Launch} (hfl : l.stackTraces = false) (E : zE) (σ : zS) (σc : zS) (U : zSU) (S : zST) (i w : Nat) (hB : zRb (gI σ 328) U) (hU : zSUp σc 29 U) (hW : zRo (gI σ 332) U.nb S) (hS : zSTp σc 34 S) (hi : i < U.nb) (hw : w < 2) (h2 : S.n < 2) : zRi l E yX11_bestPair cX11_bestPair 3 .int (zrm 7 202) [.ref (ob E 327), .int (zI (i : Int)), .int (zI (w : Int))] σ (fun r τ => r = zI (dBp U S i w) ∧ mK σ τ 0) := by
  refine Met.ofW (cc := cX11_bestPair) (maxL := 3) (ret := (some .int)) (by decide +kernel) rfl ?_
  intro p e s m args below meth c s₁ B hml hv
  obtain ⟨rfl, hd⟩ := hv
  have C := zX_of (own := RX11) hfl B hml rfl hd rfl
  have hr := B.returns
  refine zV_go hd (Nat.le_of_ble_eq_true rfl) (lv := [(0, .ref (ob E 327)), (1, .int (zI (i : Int))), (2, .int (zI (w : Int)))]) rfl ?_
  have hnb : U.nb ≤ 8 := hU.2.2.1
  have hs0 := hU.2.2.2.1
  
  refine zv_aload_n C 0 dX11_bestPair_0 rfl rfl ?_
  refine zv_iload_n C 1 dX11_bestPair_1 rfl rfl ?_
  refine zv_cviD (st := []) C (c0_X11_noBody hfl E σ σc U ((i : Int)) hB hU (by omega)) mX11_noBody kX11_319 (by decide : kd 327 = 10) rfl rfl rfl ⟨rfl, rfl⟩ (show zfit (zrm 1 25) 2 (zrm 7 202) = true from rfl) (Nat.le_of_ble_eq_true rfl) dX11_bestPair_2 ⟨Nat.zero_le _, Nat.zero_le _⟩ ?_
  refine zv_if_neZ (tgt := 31) C (by omega) dX11_bestPair_5 (by decide) (fun h5 => absurd h5 (by decide)) (fun h5 => ?_)
  refine zv_aload_n C 0 dX11_bestPair_8 rfl rfl ?_
  refine zv_iload_n C 2 dX11_bestPair_9 rfl rfl ?_
  refine zv_i2lZ C (by omega) dX11_bestPair_10 ?_
  refine zv_lconst (v := zL 0) C dX11_bestPair_11 (by decide) ?_
  refine zv_lconst (v := zL 1) C dX11_bestPair_12 (by decide) ?_
  refine zv_csiD (st := [.ref (ob E 327)]) C (c_X11_inRange hfl E (thW σ 0) ((w : Int)) (0) (1) (by omega) (by omega) (by omega)) mX11_inRange kX11_71 rfl ⟨rfl, rfl⟩ (show zfit (zrm 0 0) 6 (zrm 7 202) = true from rfl) (Nat.le_of_ble_eq_true rfl) dX11_bestPair_13 ⟨Nat.zero_le _, Nat.zero_le _⟩ ?_
  refine zv_if_neB (tgt := 23) C dX11_bestPair_16 (by decide) (fun h16 => ?_) (fun h16 => ?_)
  · skip
    refine zv_iconst (v := zI 0) C dX11_bestPair_23 rfl ?_
    refine zv_iconst (v := zI 2) C dX11_bestPair_24 rfl ?_
    refine zv_cviD (st := []) C (c0_X11_fails hfl E (thW σ 0) 2) mX11_fails kX11_309 (by decide : kd 327 = 10) rfl rfl rfl ⟨rfl, rfl⟩ (show zfit (zrm 0 0) 3 (zrm 7 202) = true from rfl) (Nat.le_of_ble_eq_true rfl) dX11_bestPair_25 ⟨Nat.zero_le _, Nat.zero_le _⟩ ?_
    refine zv_if_eqZ (tgt := 33) C (by omega) dX11_bestPair_28 (by decide) (fun h28 => ?_) (fun h28 => absurd h28 (by decide))
    refine zv_aload_n C 0 dX11_bestPair_33 rfl rfl ?_
    refine zv_iload_n C 1 dX11_bestPair_34 rfl rfl ?_
    refine zv_cvv (st := []) C (c_X11_searchesPair hfl E (thW σ 0) σc U S i hB hU hW hS hi (mK_th σ 0).2) mX11_searchesPair kX11_382 (by decide : kd 327 = 10) rfl rfl rfl ⟨rfl, rfl⟩ (show zfit (zrm 6 179) 4 (zrm 7 202) = true from rfl) (Nat.le_of_ble_eq_true rfl) dX11_bestPair_35 ⟨Nat.zero_le _, Nat.zero_le _⟩ (fun τ1 hp35 => ?_)
    obtain ⟨hG, hK1, hup, hdn, hO⟩ := hp35
    have hK : mK σ τ1 0 := ⟨mS_t (mK_th σ 0).1 hK1.1, hK1.2⟩
    rw [hPair_0 h2] at hG
    have hG1 : gI τ1 337 0 = zI (-1) := hG
    refine zv_aload_n C 0 dX11_bestPair_38 rfl rfl ?_
    refine zG10_25 C (by decide : kd 327 = _) kX11_41 dX11_bestPair_39 ?_
    refine zv_iconst (v := zI 0) C dX11_bestPair_42 rfl ?_
    refine zv_iald (j := 0) C (by decide : kd 337 = _) (zI_ix (by omega)) (by decide) dX11_bestPair_43 ?_
    refine zv_eqi (y := (zI (-1))) (hG1) ?_
    refine zv_iconst (v := zI (-1)) C dX11_bestPair_44 rfl ?_
    refine zv_icmp_neZ (tgt := 52) C (by omega) (by omega) dX11_bestPair_45 (by decide) (fun h45 => ?_) (fun h45 => ?_)
    · exfalso
      omega
    · skip
      refine zv_iconst (v := zI (-1)) C dX11_bestPair_48 rfl ?_
      refine zv_goto (tgt := 58) C dX11_bestPair_49 (by decide) ?_
      exact zv_iret C hr rfl dX11_bestPair_58 ⟨by rw [dBp, if_pos h2], hK⟩
  · skip
    refine zv_iconst (v := zI 1) C dX11_bestPair_19 rfl ?_
    refine zv_goto (tgt := 24) C dX11_bestPair_20 (by decide) ?_
    refine zv_iconst (v := zI 2) C dX11_bestPair_24 rfl ?_
    exfalso
    omega
set_option maxRecDepth 20000 in
theorem x1_X11_bestPair {l : Launch} (hfl : l.stackTraces = false) (E : zE) (σ : zS) (σc : zS) (U : zSU) (y a : Int) (hB : zRb (gI σ 328) U) (hU : zSUp σc 29 U) (hy : -2147483648 ≤ y ∧ y < 2147483648) (hno : ¬ (0 ≤ y ∧ y < U.nb)) : zRi l E yX11_bestPair cX11_bestPair 3 .int (zrm 2 46) [.ref (ob E 327), .int (zI y), .int (zI a)] σ (fun r τ => r = zI 0 ∧ mK σ τ 1) := by
  refine Met.ofW (cc := cX11_bestPair) (maxL := 3) (ret := (some .int)) (by decide +kernel) rfl ?_
  intro p e s m args below meth c s₁ B hml hv
  obtain ⟨rfl, hd⟩ := hv
  have C := zX_of (own := RX11) hfl B hml rfl hd rfl
  have hr := B.returns
  refine zV_go hd (Nat.le_of_ble_eq_true rfl) (lv := [(0, .ref (ob E 327)), (1, .int (zI y)), (2, .int (zI a))]) rfl ?_
  have hnb : U.nb ≤ 8 := hU.2.2.1
  have hs0 := hU.2.2.2.1
  
  refine zv_aload_n C 0 dX11_bestPair_0 rfl rfl ?_
  refine zv_iload_n C 1 dX11_bestPair_1 rfl rfl ?_
  refine zv_cviD (st := []) C (c1_X11_noBody hfl E σ σc U (y) hB hU (by omega) hno) mX11_noBody kX11_319 (by decide : kd 327 = 10) rfl rfl rfl ⟨rfl, rfl⟩ (show zfit (zrm 1 25) 2 (zrm 2 46) = true from rfl) (Nat.le_of_ble_eq_true rfl) dX11_bestPair_2 ⟨Nat.zero_le _, Nat.zero_le _⟩ ?_
  refine zv_if_neZ (tgt := 31) C (by omega) dX11_bestPair_5 (by decide) (fun h5 => ?_) (fun h5 => absurd h5 (by decide))
  refine zv_iconst (v := zI 0) C dX11_bestPair_31 rfl ?_
  exact zv_iret C hr rfl dX11_bestPair_32 ⟨rfl, by first | exact mK_th _ _ | exact mK_th2 _ _ _ | exact mK_C (mK_W (mK_th _ _) _ _) _ | exact mK_W (mK_th _ _) _ _⟩
set_option maxRecDepth 20000 in
theorem x2_X11_bestPair {l : Launch} (hfl : l.stackTraces = false) (E : zE) (σ : zS) (σc : zS) (U : zSU) (i : Nat) (a : Int) (hB : zRb (gI σ 328) U) (hU : zSUp σc 29 U) (hi : i < U.nb) (har : -2147483648 ≤ a ∧ a < 2147483648) (hno : ¬ (0 ≤ a ∧ a ≤ 1)) : zRi l E yX11_bestPair cX11_bestPair 3 .int (zrm 2 46) [.ref (ob E 327), .int (zI (i : Int)), .int (zI a)] σ (fun r τ => r = zI 0 ∧ mK σ τ 2) := by
  refine Met.ofW (cc := cX11_bestPair) (maxL := 3) (ret := (some .int)) (by decide +kernel) rfl ?_
  intro p e s m args below meth c s₁ B hml hv
  obtain ⟨rfl, hd⟩ := hv
  have C := zX_of (own := RX11) hfl B hml rfl hd rfl
  have hr := B.returns
  refine zV_go hd (Nat.le_of_ble_eq_true rfl) (lv := [(0, .ref (ob E 327)), (1, .int (zI (i : Int))), (2, .int (zI a))]) rfl ?_
  have hnb : U.nb ≤ 8 := hU.2.2.1
  have hs0 := hU.2.2.2.1
  
  refine zv_aload_n C 0 dX11_bestPair_0 rfl rfl ?_
  refine zv_iload_n C 1 dX11_bestPair_1 rfl rfl ?_
  refine zv_cviD (st := []) C (c0_X11_noBody hfl E σ σc U ((i : Int)) hB hU (by omega)) mX11_noBody kX11_319 (by decide : kd 327 = 10) rfl rfl rfl ⟨rfl, rfl⟩ (show zfit (zrm 1 25) 2 (zrm 2 46) = true from rfl) (Nat.le_of_ble_eq_true rfl) dX11_bestPair_2 ⟨Nat.zero_le _, Nat.zero_le _⟩ ?_
  refine zv_if_neZ (tgt := 31) C (by omega) dX11_bestPair_5 (by decide) (fun h5 => absurd h5 (by decide)) (fun h5 => ?_)
  refine zv_aload_n C 0 dX11_bestPair_8 rfl rfl ?_
  refine zv_iload_n C 2 dX11_bestPair_9 rfl rfl ?_
  refine zv_i2lZ C (by omega) dX11_bestPair_10 ?_
  refine zv_lconst (v := zL 0) C dX11_bestPair_11 (by decide) ?_
  refine zv_lconst (v := zL 1) C dX11_bestPair_12 (by decide) ?_
  refine zv_csiD (st := [.ref (ob E 327)]) C (c_X11_inRange hfl E (thW σ 0) (a) (0) (1) (by omega) (by omega) (by omega)) mX11_inRange kX11_71 rfl ⟨rfl, rfl⟩ (show zfit (zrm 0 0) 6 (zrm 2 46) = true from rfl) (Nat.le_of_ble_eq_true rfl) dX11_bestPair_13 ⟨Nat.zero_le _, Nat.zero_le _⟩ ?_
  refine zv_if_neB (tgt := 23) C dX11_bestPair_16 (by decide) (fun h16 => ?_) (fun h16 => ?_)
  · skip
    refine zv_iconst (v := zI 0) C dX11_bestPair_23 rfl ?_
    refine zv_iconst (v := zI 2) C dX11_bestPair_24 rfl ?_
    exfalso
    omega
  · skip
    refine zv_iconst (v := zI 1) C dX11_bestPair_19 rfl ?_
    refine zv_goto (tgt := 24) C dX11_bestPair_20 (by decide) ?_
    refine zv_iconst (v := zI 2) C dX11_bestPair_24 rfl ?_
    refine zv_cviD (st := []) C (c1_X11_fails hfl E (thW σ 0) 2) mX11_fails kX11_309 (by decide : kd 327 = 10) rfl rfl rfl ⟨rfl, rfl⟩ (show zfit (zrm 0 0) 3 (zrm 2 46) = true from rfl) (Nat.le_of_ble_eq_true rfl) dX11_bestPair_25 ⟨Nat.zero_le _, Nat.zero_le _⟩ ?_
    refine zv_if_eqZ (tgt := 33) C (by omega) dX11_bestPair_28 (by decide) (fun h28 => absurd h28 (by decide)) (fun h28 => ?_)
    refine zv_iconst (v := zI 0) C dX11_bestPair_31 rfl ?_
    exact zv_iret C hr rfl dX11_bestPair_32 ⟨rfl, mK_th2 _ _ _⟩
