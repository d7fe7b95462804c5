/-! a number taken out; undone, saved, brought back -/
theorem zMP_k {σ τ : zS} {D : zDv} {kp : Option zST} (h : zMP σ D) (hk : zMk τ D.U.nb kp) (e : ∀ x j, x ≠ 334 → ¬ (x = 327 ∧ j = 9) → gI τ x j = gI σ x j) : zMP τ (D.sK kp) := by
  obtain ⟨h1, h2, h3, h4, h5, h6, h7, h8⟩ := h
  have e7 : ∀ j, j ≠ 9 → gI τ 327 j = gI σ 327 j := fun j a => e 327 j (by decide) (fun z => a z.2)
  have eg : ∀ x, x ≠ 334 → x ≠ 327 → gI τ x = gI σ x := fun x a b => funext fun j => e x j a (fun z => b z.1)
  refine ⟨⟨(e7 12 (by decide)).trans h1.1, h1.2.1, fun i hi => ?_⟩, ⟨(e7 13 (by decide)).trans h2.1, (e7 14 (by decide)).trans h2.2⟩, ?_, ?_, ⟨?_, h5.2⟩, ⟨(e7 8 (by decide)).trans h6.1, h6.2.1, fun k S' hS => ?_⟩, hk, ⟨(e7 29 (by decide)).trans h8.1, h8.2.1, fun i hi => ?_⟩⟩
  · rw [eg 336 (by decide) (by decide)]; exact h1.2.2 i hi
  · rw [eg 328 (by decide) (by decide)]; exact h3
  · rw [eg 330 (by decide) (by decide)]; exact h4
  · rw [eg 332 (by decide) (by decide)]; exact h5.1
  · rw [eg 335 (by decide) (by decide)]; exact h6.2.2 k S' hS
  · rw [eg 338 (by decide) (by decide)]; exact h8.2.2 i hi
theorem zRo_cp {σ τ : zS} {nb : Nat} {S : zST} {a p b q : Nat} (h : zRo (fun j => gI σ a (p + j)) nb S) (hk : zRk S) (e : ∀ j, gI σ a j = gI τ a j) : zRo (fun j => gI (cpR τ a p b q 131) b (q + j)) nb S := zRo_cg h hk (fun j hj => by
  show gI (cpR τ a p b q 131) b (q + j) = gI σ a (p + j)
  rw [gI_cpR, if_pos (by omega), e]
  exact congrArg (gI τ a) (by omega))
theorem zRo_cp0 {σ τ : zS} {nb : Nat} {S : zST} {a p b : Nat} (h : zRo (fun j => gI σ a (p + j)) nb S) (hk : zRk S) (e : ∀ j, gI σ a j = gI τ a j) : zRo (gI (cpR τ a p b 0 131) b) nb S := zRo_cg (zRo_cp (q := 0) h hk e) hk (fun j _ => congrArg (gI (cpR τ a p b 0 131) b) (Nat.zero_add j).symm)
theorem cpR_o (σ : zS) (a p b q m x j : Nat) (h : x ≠ b) : gI (cpR σ a p b q m) x j = gI σ x j := by rw [gI_cpR, if_neg (by omega)]
theorem zMP_un {σ : zS} {ni : Nat} {tx : Nat → Int} {ec : Nat} {eo : Int} {U : zSU} {S S1 : zST} {h1 : List zST} {kp : Option zST} {ou : List Nat} (h : zMP σ (zDv.mk ni tx ec eo U S (S1 :: h1) kp ou)) : mH σ (cpR (sI (thW σ 0) 327 8 (zI (h1.length : Int))) 335 (131 * h1.length) 332 0 131) (zDv.mk ni tx ec eo U S1 h1 kp ou) := by
  obtain ⟨-, -, -, -, -, ⟨g1, g2, g3⟩, -⟩ := id h
  have hl : (S1 :: h1).length = h1.length + 1 := rfl
  have e5 : ∀ j, gI σ 335 j = gI (sI (thW σ 0) 327 8 (zI (h1.length : Int))) 335 j := fun j => by rw [gI_sI, if_neg (by omega)]; rfl
  have hA : zMP (sI (thW σ 0) 327 8 (zI (h1.length : Int))) (zDv.mk ni tx ec eo U S h1 kp ou) := by
    refine zMP_h (D := zDv.mk ni tx ec eo U S (S1 :: h1) kp ou) (zMP_q h (mK_th σ 0).1) ⟨by rw [gI_sI, if_pos ⟨rfl, rfl⟩], by have : (S1 :: h1).length ≤ 12 := g2; omega, fun k T hT => ?_⟩ (fun x j a b => by rw [gI_sI, if_neg b])
    obtain ⟨a, b⟩ := g3 (k + 1) T hT
    refine ⟨zRo_cg a b (fun j hj => ?_), b⟩
    show gI (sI (thW σ 0) 327 8 (zI (h1.length : Int))) 335 (131 * (h1.length - 1 - k) + j) = gI σ 335 (131 * (h1.length + 1 - 1 - (k + 1)) + j)
    rw [← e5]
    exact congrArg (gI σ 335) (by omega)
  obtain ⟨a, b⟩ := g3 0 S1 rfl
  have a2 : zRo (fun j => gI σ 335 (131 * h1.length + j)) U.nb S1 := zRo_cg a b (fun j hj => congrArg (gI σ 335) (by show _ = 131 * (h1.length + 1 - 1 - 0) + j; omega))
  refine ⟨zMP_x hA (zRo_cp0 a2 b e5) b (fun x j p _ _ => cpR_o _ _ _ _ _ _ _ _ p), ?_, ⟨fun x j q => ?_, fun _ _ _ => rfl, fun _ _ => rfl⟩⟩
  · rw [cpR_o _ _ _ _ _ _ _ _ (by decide), gI_sI, if_neg (by omega)]; exact (mK_th σ 0).2
  · rw [cpR_o _ _ _ _ _ _ _ _ (by omega), gI_sI, if_neg (by omega)]; exact (zFr_th σ 0).1 x j q
theorem zMP_sv {σ : zS} {ni : Nat} {tx : Nat → Int} {ec : Nat} {eo : Int} {U : zSU} {S : zST} {hh : List zST} {kp : Option zST} {ou : List Nat} (h : zMP σ (zDv.mk ni tx ec eo U S hh kp ou)) : mH σ (sI (cpR (thW σ 0) 332 0 334 0 131) 327 9 (zI 1)) ((zDv.mk ni tx ec eo U S hh kp ou).sK (some S)) := by
  have h0 := zMP_q h (mK_th σ 0).1
  have hW : zRo (gI (thW σ 0) 332) U.nb S := h0.2.2.2.2.1.1
  have hk : zRk S := h.2.2.2.2.1.2
  have hr : zRo (gI (cpR (thW σ 0) 332 0 334 0 131) 334) U.nb S := zRo_cp0 (σ := thW σ 0) (zRo_cg hW hk (fun j _ => congrArg (gI (thW σ 0) 332) (Nat.zero_add j))) hk (fun _ => rfl)
  refine ⟨zMP_k h0 ⟨by rw [gI_sI, if_pos ⟨rfl, rfl⟩]; rfl, fun S' hS => ?_⟩ (fun x j a b => by rw [gI_sI, if_neg b, cpR_o _ _ _ _ _ _ _ _ a]), ?_, ⟨fun x j q => ?_, fun _ _ _ => rfl, fun _ _ => rfl⟩⟩
  · cases hS
    exact ⟨hr, hk⟩
  · rw [gI_sI, if_neg (by omega), cpR_o _ _ _ _ _ _ _ _ (by decide)]; exact (mK_th σ 0).2
  · rw [gI_sI, if_neg (by omega), cpR_o _ _ _ _ _ _ _ _ (by omega)]; exact (zFr_th σ 0).1 x j q
theorem zMP_rs {σ : zS} {ni : Nat} {tx : Nat → Int} {ec : Nat} {eo : Int} {U : zSU} {S S1 : zST} {hh : List zST} {ou : List Nat} (h : zMP σ (zDv.mk ni tx ec eo U S hh (some S1) ou)) : mH σ (sI (cpR (thW σ 0) 334 0 332 0 131) 327 8 (zI 0)) (zDv.mk ni tx ec eo U S1 [] (some S1) ou) ∧ zRo (gI (sI (cpR (thW σ 0) 334 0 332 0 131) 327 8 (zI 0)) 332) U.nb S1 := by
  have h0 := zMP_q h (mK_th σ 0).1
  obtain ⟨hs, hk⟩ := h0.2.2.2.2.2.2.1.2 S1 rfl
  have hs2 : zRo (gI (thW σ 0) 334) U.nb S1 := hs
  have hr : zRo (gI (cpR (thW σ 0) 334 0 332 0 131) 332) U.nb S1 := zRo_cp0 (σ := thW σ 0) (zRo_cg hs2 hk (fun j _ => congrArg (gI (thW σ 0) 334) (Nat.zero_add j))) hk (fun _ => rfl)
  have hA : zMP (cpR (thW σ 0) 334 0 332 0 131) (zDv.mk ni tx ec eo U S1 hh (some S1) ou) := zMP_x h0 hr hk (fun x j p _ _ => cpR_o _ _ _ _ _ _ _ _ p)
  refine ⟨⟨zMP_h hA ⟨by rw [gI_sI, if_pos ⟨rfl, rfl⟩]; rfl, Nat.zero_le _, fun k T hT => by simp at hT⟩ (fun x j a b => by rw [gI_sI, if_neg b]), ?_, ⟨fun x j q => ?_, fun _ _ _ => rfl, fun _ _ => rfl⟩⟩, hr⟩
  · rw [gI_sI, if_neg (by omega), cpR_o _ _ _ _ _ _ _ _ (by decide)]; exact (mK_th σ 0).2
  · rw [gI_sI, if_neg (by omega), cpR_o _ _ _ _ _ _ _ _ (by omega)]; exact (zFr_th σ 0).1 x j q
set_option maxRecDepth 20000 in
theorem x1_X11_setSlack {l : Launch} (hfl : l.stackTraces = false) (E : zE) (σ : zS) (y : Int) (hy : -2147483648 ≤ y ∧ y < 2147483648) (hno : ¬ (0 ≤ y ∧ y ≤ 999)) : zRi l E yX11_setSlack cX11_setSlack 4 .int (zrm 1 25) [.ref (ob E 327), .int (zI y)] σ (fun r τ => r = zI 0 ∧ mK σ τ 1) := by
  refine Met.ofW (cc := cX11_setSlack) (maxL := 4) (ret := (some .int)) (by decide +kernel) rfl ?_
  intro p e s m args below meth c s₁ B hml hv
  obtain ⟨rfl, hd⟩ := hv
  have C := zX_of (own := RX11) hfl B hml rfl hd rfl
  have hr := B.returns
  refine zV_go hd (Nat.le_of_ble_eq_true rfl) (lv := [(0, .ref (ob E 327)), (1, .int (zI y))]) rfl ?_
  refine zv_aload_n C 0 dX11_setSlack_0 rfl rfl ?_
  refine zv_iconst (v := zI 0) C dX11_setSlack_1 rfl ?_
  refine zP10_10 C (by decide : kd 327 = _) kX11_50 dX11_setSlack_2 ?_
  refine zv_eqS (τ := (thW σ 0)) (rfl) ?_
  refine zv_aload_n C 0 dX11_setSlack_5 rfl rfl ?_
  refine zv_iload_n C 1 dX11_setSlack_6 rfl rfl ?_
  refine zv_i2lZ C (by omega) dX11_setSlack_7 ?_
  refine zv_lconst (v := zL 0) C dX11_setSlack_8 (by decide) ?_
  refine zv_ldc2 C kX11_403 dX11_setSlack_9 ?_
  refine zv_eql (y := zL 999) (by decide) ?_
  refine zv_csiD (st := [.ref (ob E 327)]) C (c_X11_inRange hfl E (thW σ 0) (y) (0) (999) (by omega) (by omega) (by omega)) mX11_inRange kX11_71 rfl ⟨rfl, rfl⟩ (show zfit (zrm 0 0) 6 (zrm 1 25) = true from rfl) (Nat.le_of_ble_eq_true rfl) dX11_setSlack_12 ⟨Nat.zero_le _, Nat.zero_le _⟩ ?_
  refine zv_if_neB (tgt := 22) C dX11_setSlack_15 (by decide) (fun h15 => ?_) (fun h15 => ?_)
  · skip
    refine zv_iconst (v := zI 0) C dX11_setSlack_22 rfl ?_
    refine zv_iconst (v := zI 1) C dX11_setSlack_23 rfl ?_
    exfalso
    omega
  · skip
    refine zv_iconst (v := zI 1) C dX11_setSlack_18 rfl ?_
    refine zv_goto (tgt := 23) C dX11_setSlack_19 (by decide) ?_
    refine zv_iconst (v := zI 1) C dX11_setSlack_23 rfl ?_
    refine zv_cviD (st := []) C (c1_X11_fails hfl E (thW σ 0) 1) mX11_fails kX11_309 (by decide : kd 327 = 10) rfl rfl rfl ⟨rfl, rfl⟩ (show zfit (zrm 0 0) 3 (zrm 1 25) = true from rfl) (Nat.le_of_ble_eq_true rfl) dX11_setSlack_24 ⟨Nat.zero_le _, Nat.zero_le _⟩ ?_
    refine zv_if_eqZ (tgt := 32) C (by omega) dX11_setSlack_27 (by decide) (fun h27 => absurd h27 (by decide)) (fun h27 => ?_)
    refine zv_iconst (v := zI 0) C dX11_setSlack_30 rfl ?_
    exact zv_iret C hr rfl dX11_setSlack_31 ⟨rfl, mK_th2 _ _ _⟩
set_option maxRecDepth 20000 in
theorem c_X11_removeStock {l : Launch} (hfl : l.stackTraces = false) (E : zE) (σ : zS) (σc : zS) (ni : Nat) (tx : Nat → Int) (ec : Nat) (eo : Int) (U : zSU) (S : zST) (hh : List zST) (kp : Option zST) (ou : List Nat) (y : Int) (h : zMP σ (zDv.mk ni tx ec eo U S hh kp ou)) (hU : zSUp σc 29 U) (hS : zSTp σc 34 S) (hy : -2147483648 ≤ y ∧ y < 2147483648) (hok : sHas S.f y S.n = true) : zRi l E yX11_removeStock cX11_removeStock 3 .boolean (zrm 2 45) [.ref (ob E 327), .int (zI y)] σ (fun r τ => r = zI 1 ∧ mH σ τ ((zDv.mk ni tx ec eo U S hh kp ou).re.sS (S.drp y))) := by
  refine Met.ofW (cc := cX11_removeStock) (maxL := 3) (ret := (some .boolean)) (by decide +kernel) rfl ?_
  intro p e s m args below meth c s₁ B hml hv
  obtain ⟨rfl, hd⟩ := hv
  have C := zX_of (own := RX11) hfl B hml rfl hd rfl
  have hr := B.returns
  refine zV_go hd (Nat.le_of_ble_eq_true rfl) (lv := [(0, .ref (ob E 327)), (1, .int (zI y))]) rfl ?_
  have hnb : U.nb ≤ 8 := hU.2.2.1
  have hs0 := hU.2.2.2.1
  have hB : zRb (gI σ 328) U := h.2.2.1
  have hW : zRo (gI σ 332) U.nb S := h.2.2.2.2.1.1
  have hk9 : zRk S := h.2.2.2.2.1.2
  have h0 : zMP (thW σ 0) (zDv.mk ni tx ec eo U S hh kp ou) := zMP_q h (mK_th σ 0).1
  have hn16 : S.n ≤ 16 := hk9.1
  have hf9 : ∀ i, i < S.n → S.f i ≤ 1000 := fun i h => Nat.le_trans (hS.1.2.2.2 i h) (by decide)
  obtain ⟨k9, hk91, hk92⟩ := (sHas_iff _ _ _).mp hok
  refine zv_aload_n C 0 dX11_removeStock_0 rfl rfl ?_
  refine zv_iconst (v := zI 0) C dX11_removeStock_1 rfl ?_
  refine zP10_10 C (by decide : kd 327 = _) kX11_50 dX11_removeStock_2 ?_
  refine zv_eqS (τ := (thW σ 0)) (rfl) ?_
  refine zv_aload_n C 0 dX11_removeStock_5 rfl rfl ?_
  refine zv_iload_n C 1 dX11_removeStock_6 rfl rfl ?_
  refine zv_cviD (st := []) C (c_X11_hasStock hfl E (thW σ 0) U.nb S (y) hW hn16 hf9 (by omega)) mX11_hasStock kX11_172 (by decide : kd 327 = 10) rfl rfl rfl ⟨rfl, rfl⟩ (show zfit (zrm 0 0) 3 (zrm 2 45) = true from rfl) (Nat.le_of_ble_eq_true rfl) dX11_removeStock_7 ⟨Nat.zero_le _, Nat.zero_le _⟩ ?_
  refine zv_if_neB (tgt := 15) C dX11_removeStock_10 (by decide) (fun h10 => ?_) (fun h10 => ?_)
  · skip
    refine zv_aload_n C 0 dX11_removeStock_15 rfl rfl ?_
    refine zv_cvv (st := []) C (c_X11_remembers hfl E (thW σ 0) (zDv.mk ni tx ec eo U S hh kp ou) h0) mX11_remembers kX11_392 (by decide : kd 327 = 10) rfl rfl rfl ⟨rfl, rfl⟩ (show zfit (zrm 1 25) 1 (zrm 2 45) = true from rfl) (Nat.le_of_ble_eq_true rfl) dX11_removeStock_16 ⟨Nat.zero_le _, Nat.zero_le _⟩ (fun τ1 hp16 => ?_)
    obtain ⟨hz1, hz2, hz3, hz4⟩ := hp16
    have hW1 : zRo (gI τ1 332) U.nb S := by rw [hz4]; exact hW
    have hB1 : zRb (gI τ1 328) U := hz1.2.2.1
    have ht1 : gI τ1 327 10 = zI 0 := hz2.trans (mK_th σ 0).2
    have hf1 : zFr 327 339 σ τ1 := zFr_trans (zFr_th σ 0) hz3
    refine zv_iconst (v := zI 0) C dX11_removeStock_19 rfl ?_
    refine zv_istore_n (lv' := [(2, .int (zI 0)), (0, .ref (ob E 327)), (1, .int (zI y))]) C dX11_removeStock_20 rfl (by decide) rfl ?_
    have q21_27 : (0 : Int) = (0 : Int) := by first | rfl | omega
    refine zv_sub (lv' := [(0, .ref (ob E 327)), (1, .int (zI y)), (2, .int (zI (0 : Int)))]) [1, 2, 0] (zcons rfl (zcons rfl (zcons (zqI q21_27) rfl))) ?_
    refine zv_while (α := Nat) (fun v => k9 - v) (fun v => v ≤ k9) (fun v => τ1) (fun v => [(0, .ref (ob E 327)), (1, .int (zI y)), (2, .int (zI (v : Int)))]) (fun v => []) (fun j hI ih => ?_) (0) (by omega)
    have hJ := hI
    have hfj := hf9 j (by omega)
    refine zv_aload_n C 0 dX11_removeStock_21 rfl rfl ?_
    refine zG10_4 C (by decide : kd 327 = _) kX11_22 dX11_removeStock_22 ?_
    refine zv_iconst (v := zI 1) C dX11_removeStock_25 rfl ?_
    refine zv_iload_n C 2 dX11_removeStock_26 rfl rfl ?_
    refine zv_iaddZ C dX11_removeStock_27 ?_
    refine zv_iald (j := 1 + j) C (by decide : kd 332 = _) (zI_ix (by omega)) (Nat.lt_of_lt_of_eq (show 1 + j < 131 by omega) (by decide)) dX11_removeStock_28 ?_
    refine zv_eqi (y := (zI (S.f j : Int))) (hW1.2.1 j (by omega)) ?_
    refine zv_iload_n C 1 dX11_removeStock_29 rfl rfl ?_
    refine zv_icmp_eqZ (tgt := 39) C (by omega) (by omega) dX11_removeStock_30 (by decide) (fun h30 => ?_) (fun h30 => ?_)
    · skip
      refine zv_aload_n C 0 dX11_removeStock_39 rfl rfl ?_
      refine zG10_4 C (by decide : kd 327 = _) kX11_22 dX11_removeStock_40 ?_
      refine zv_iconst (v := zI 0) C dX11_removeStock_43 rfl ?_
      refine zv_dup2 C dX11_removeStock_44 rfl rfl ?_
      refine zv_iald (j := 0) C (by decide : kd 332 = _) (zI_ix (by omega)) (by decide) dX11_removeStock_45 ?_
      refine zv_eqi (y := (zI (S.n : Int))) (hW1.1) ?_
      refine zv_iconst (v := zI 1) C dX11_removeStock_46 rfl ?_
      refine zv_isubZ C dX11_removeStock_47 ?_
      refine zv_iast (j := 0) C (by decide : kd 332 = _) (zI_ix (by omega)) (by decide) dX11_removeStock_48 ?_
      refine zv_sub (lv' := [(0, .ref (ob E 327)), (1, .int (zI y)), (2, .int (zI (j : Int)))]) [0, 1, 2] (zcons rfl (zcons rfl (zcons rfl rfl))) ?_
      refine zv_eqS (τ := (sdW (sI τ1 332 0 (zI ((S.n : Int) - 1))) j j)) ((sdW_0 _ _).symm) ?_
      refine zv_while (α := Nat) (fun v => S.n - v) (fun v => j ≤ v ∧ v ≤ S.n - 1) (fun v => (sdW (sI τ1 332 0 (zI ((S.n : Int) - 1))) j v)) (fun v => [(0, .ref (ob E 327)), (1, .int (zI y)), (2, .int (zI (v : Int)))]) (fun v => []) (fun q hI ih49 => ?_) (j) (⟨Nat.le_refl _, by omega⟩)
      refine zv_iload_n C 2 dX11_removeStock_49 rfl rfl ?_
      refine zv_aload_n C 0 dX11_removeStock_50 rfl rfl ?_
      refine zG10_4 C (by decide : kd 327 = _) kX11_22 dX11_removeStock_51 ?_
      refine zv_iconst (v := zI 0) C dX11_removeStock_54 rfl ?_
      refine zv_iald (j := 0) C (by decide : kd 332 = _) (zI_ix (by omega)) (by decide) dX11_removeStock_55 ?_
      refine zv_eqi (y := (zI ((S.n : Int) - 1))) (by rw [gI_sdW, if_neg (by omega), gI_sI, if_pos ⟨rfl, rfl⟩]) ?_
      refine zv_icmp_geZ (tgt := 83) C (by omega) (by omega) dX11_removeStock_56 (by decide) (fun h56 => ?_) (fun h56 => ?_)
      · skip
        refine zv_iconst (v := zI 1) C dX11_removeStock_83 rfl ?_
        exact zv_iret C hr rfl dX11_removeStock_84 (by rw [show q = S.n - 1 by omega]; exact ⟨rfl, zMP_x hz1 (zRo_drp hW1 hk9 hS.2.2.1 (by omega) h30) ⟨Nat.le_trans (sKp_le _ _ _) hk9.1, hk9.2⟩ (zMx_D (zMx_I (zMx_r _) _ _) _ _), (sdW_o _ _ _ _ _ (by decide)).trans ht1, zFr_D (zFr_I hf1 (by decide)) _ _⟩)
      · skip
        refine zv_aload_n C 0 dX11_removeStock_59 rfl rfl ?_
        refine zG10_4 C (by decide : kd 327 = _) kX11_22 dX11_removeStock_60 ?_
        refine zv_iconst (v := zI 1) C dX11_removeStock_63 rfl ?_
        refine zv_iload_n C 2 dX11_removeStock_64 rfl rfl ?_
        refine zv_iaddZ C dX11_removeStock_65 ?_
        refine zv_aload_n C 0 dX11_removeStock_66 rfl rfl ?_
        refine zG10_4 C (by decide : kd 327 = _) kX11_22 dX11_removeStock_67 ?_
        refine zv_iconst (v := zI 1) C dX11_removeStock_70 rfl ?_
        refine zv_iload_n C 2 dX11_removeStock_71 rfl rfl ?_
        refine zv_iaddZ C dX11_removeStock_72 ?_
        refine zv_iconst (v := zI 1) C dX11_removeStock_73 rfl ?_
        refine zv_iaddZ C dX11_removeStock_74 ?_
        refine zv_iald (j := 1 + q + 1) C (by decide : kd 332 = _) (zI_ix (by omega)) (Nat.lt_of_lt_of_eq (show 1 + q + 1 < 131 by omega) (by decide)) dX11_removeStock_75 ?_
        refine zv_iast (j := 1 + q) C (by decide : kd 332 = _) (zI_ix (by omega)) (Nat.lt_of_lt_of_eq (show 1 + q < 131 by omega) (by decide)) dX11_removeStock_76 ?_
        refine zv_iinc (v := (zI ((q : Int) + 1))) (lv' := [(2, .int (zI ((q : Int) + 1))), (0, .ref (ob E 327)), (1, .int (zI y))]) C 2 dX11_removeStock_77 rfl (zI_add _ _) (by decide) rfl ?_
        refine zv_goto (tgt := 49) C dX11_removeStock_80 (by decide) ?_
        have q49_81 : ((q : Int) + 1 : Int) = ((q + 1 : Nat) : Int) := by first | rfl | omega
        refine zv_sub (lv' := [(0, .ref (ob E 327)), (1, .int (zI y)), (2, .int (zI ((q + 1 : Nat) : Int)))]) [1, 2, 0] (zcons rfl (zcons rfl (zcons (zqI q49_81) rfl))) ?_
        refine zv_eqS (τ := (sdW (sI τ1 332 0 (zI ((S.n : Int) - 1))) j (q + 1))) (sdW_s _ hI.1) ?_
        exact ih49 (q + 1) (by omega) (by omega)
    · skip
      have hne9 : j ≠ k9 := fun z => h30 (by rw [z]; exact hk92)
      refine zv_iinc (v := (zI ((j : Int) + 1))) (lv' := [(2, .int (zI ((j : Int) + 1))), (0, .ref (ob E 327)), (1, .int (zI y))]) C 2 dX11_removeStock_33 rfl (zI_add _ _) (by decide) rfl ?_
      refine zv_goto (tgt := 21) C dX11_removeStock_36 (by decide) ?_
      have q21_89 : ((j : Int) + 1 : Int) = ((j + 1 : Nat) : Int) := by first | rfl | omega
      refine zv_sub (lv' := [(0, .ref (ob E 327)), (1, .int (zI y)), (2, .int (zI ((j + 1 : Nat) : Int)))]) [1, 2, 0] (zcons rfl (zcons rfl (zcons (zqI q21_89) rfl))) ?_
      exact ih (j + 1) (by omega) (by omega)
  · exfalso
    exact h10 hok
set_option maxRecDepth 20000 in
theorem c0_X11_removeStock {l : Launch} (hfl : l.stackTraces = false) (E : zE) (σ : zS) (σc : zS) (U : zSU) (S : zST) (y : Int) (hB : zRb (gI σ 328) U) (hU : zSUp σc 29 U) (hW : zRo (gI σ 332) U.nb S) (hS : zSTp σc 34 S) (hy : -2147483648 ≤ y ∧ y < 2147483648) (hno : ¬ sHas S.f y S.n = true) : zRi l E yX11_removeStock cX11_removeStock 3 .boolean (zrm 1 22) [.ref (ob E 327), .int (zI y)] σ (fun r τ => r = zI 0 ∧ mK σ τ 0) := by
  refine Met.ofW (cc := cX11_removeStock) (maxL := 3) (ret := (some .boolean)) (by decide +kernel) rfl ?_
  intro p e s m args below meth c s₁ B hml hv
  obtain ⟨rfl, hd⟩ := hv
  have C := zX_of (own := RX11) hfl B hml rfl hd rfl
  have hr := B.returns
  refine zV_go hd (Nat.le_of_ble_eq_true rfl) (lv := [(0, .ref (ob E 327)), (1, .int (zI y))]) rfl ?_
  have hnb : U.nb ≤ 8 := hU.2.2.1
  have hs0 := hU.2.2.2.1
  have hn16 : S.n ≤ 16 := hS.1.2.1
  have hf9 : ∀ i, i < S.n → S.f i ≤ 1000 := fun i h => Nat.le_trans (hS.1.2.2.2 i h) (by decide)
  
  refine zv_aload_n C 0 dX11_removeStock_0 rfl rfl ?_
  refine zv_iconst (v := zI 0) C dX11_removeStock_1 rfl ?_
  refine zP10_10 C (by decide : kd 327 = _) kX11_50 dX11_removeStock_2 ?_
  refine zv_eqS (τ := (thW σ 0)) (rfl) ?_
  refine zv_aload_n C 0 dX11_removeStock_5 rfl rfl ?_
  refine zv_iload_n C 1 dX11_removeStock_6 rfl rfl ?_
  refine zv_cviD (st := []) C (c_X11_hasStock hfl E (thW σ 0) U.nb S (y) hW hn16 hf9 (by omega)) mX11_hasStock kX11_172 (by decide : kd 327 = 10) rfl rfl rfl ⟨rfl, rfl⟩ (show zfit (zrm 0 0) 3 (zrm 1 22) = true from rfl) (Nat.le_of_ble_eq_true rfl) dX11_removeStock_7 ⟨Nat.zero_le _, Nat.zero_le _⟩ ?_
  refine zv_if_neB (tgt := 15) C dX11_removeStock_10 (by decide) (fun h10 => ?_) (fun h10 => ?_)
  · exfalso
    exact hno h10
  · skip
    refine zv_iconst (v := zI 0) C dX11_removeStock_13 rfl ?_
    exact zv_iret C hr rfl dX11_removeStock_14 ⟨rfl, by first | exact mK_th _ _ | exact mK_th2 _ _ _ | exact mK_C (mK_W (mK_th _ _) _ _) _ | exact mK_W (mK_th _ _) _ _⟩
