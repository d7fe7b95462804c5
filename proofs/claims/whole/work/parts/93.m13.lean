/-! undone, saved, brought back; trains copied and swapped -/
theorem cpR_s2 (σ : zS) (a p b q m : Nat) (h : p + m < q) : sI (cpR σ a p b q m) b (q + m) (gI (cpR σ a p b q m) a (p + m)) = cpR σ a p b q (m + 1) := by
  refine zS_ext (fun x j => ?_) (fun _ _ => rfl) (fun _ _ => rfl)
  rw [gI_sI, gI_cpR, gI_cpR, gI_cpR, if_neg (show ¬ (a = b ∧ q ≤ p + m ∧ p + m < q + m) by omega)]
  by_cases h1 : x = b ∧ j = q + m
  · rw [if_pos h1, if_pos (by omega), h1.2, show p + (q + m - q) = p + m by omega]
  · rw [if_neg h1]
    by_cases h2 : x = b ∧ q ≤ j ∧ j < q + m
    · rw [if_pos h2, if_pos (by omega)]
    · rw [if_neg h2, if_neg (by omega)]
/-- .. a train's row copied, no lag -/
def cTw (σ : zS) (i o : Nat) : zS := sI (cpR σ 332 (19 + 14 * i + 0) 332 (19 + 14 * o + 0) 14) 332 (19 + 14 * o + 1) (zI 0)
theorem cTw_x {σ τ : zS} (h : zMx σ τ) (i o : Nat) : zMx σ (cTw τ i o) := fun x j a b c => by unfold cTw; rw [gI_sI, if_neg (by omega), cpR_o _ _ _ _ _ _ _ _ a]; exact h x j a b c
theorem cTw_f {σ τ : zS} (h : zFr 327 339 σ τ) (i o : Nat) : zFr 327 339 σ (cTw τ i o) := zFr_I ⟨fun x j a => (cpR_o _ _ _ _ _ _ _ _ (by omega)).trans (h.1 x j a), fun x j a => h.2.1 x j a, fun x j => h.2.2 x j⟩ (by decide)
theorem ix14c {i j x : Nat} (hx : x < 14) (h : j ≠ i) : ¬ (19 + 14 * i ≤ 19 + 14 * j + x ∧ 19 + 14 * j + x < 19 + 14 * i + 14) := by
  rcases Nat.lt_or_ge j i with q | q <;> omega
theorem zRo_cpt {σ : zS} {nb : Nat} {S : zST} {i o : Nat} (h : zRo (gI σ 332) nb S) (hk : zRk S) (hi : i < 8) (ho : o < 8) (hio : i ≠ o) : zRo (gI (cTw σ i o) 332) nb (S.cpt i o) := by
  obtain ⟨h1, h2, h3, h4, h5⟩ := h
  have hn := hk.1
  have lo : ∀ j, j < 19 → gI (cTw σ i o) 332 j = gI σ 332 j := fun j q => by
    unfold cTw
    rw [gI_sI, if_neg (by omega), gI_cpR, if_neg (by omega)]
  have oth : ∀ j x, x < 14 → j ≠ o → gI (cTw σ i o) 332 (19 + 14 * j + x) = gI σ 332 (19 + 14 * j + x) := fun j x hx q => by
    unfold cTw
    have g := ix14c (i := o) hx q
    rw [gI_sI, if_neg (by omega), gI_cpR, if_neg (by omega)]
  have own : ∀ x, x < 14 → x ≠ 1 → gI (cTw σ i o) 332 (19 + 14 * o + x) = gI σ 332 (19 + 14 * i + x) := fun x hx q => by
    unfold cTw
    rw [gI_sI, if_neg (by omega), gI_cpR, if_pos (by omega)]
    exact congrArg (gI σ 332) (by omega)
  refine ⟨(lo 0 (by omega)).trans h1, fun q hq => (lo _ (by have : q < S.n := hq; omega)).trans (h2 q hq), (lo 17 (by omega)).trans h3, (lo 18 (by omega)).trans h4, fun j hj => ?_⟩
  obtain ⟨a1, a2, a3⟩ := h5 j hj
  obtain ⟨b1, b2, b3⟩ := h5 i hi
  have htj : (S.cpt i o).tn j = if j = o then S.tn i else S.tn j := rfl
  have hrj : (S.cpt i o).tr j = if j = o then S.tr i else S.tr j := rfl
  have hlj : (S.cpt i o).lg j = if j = o then 0 else S.lg j := rfl
  have hki := hk.2 i hi
  have hkj := hk.2 j hj
  rw [htj, hrj, hlj]
  by_cases z : j = o
  · subst z
    rw [if_pos rfl, if_pos rfl, if_pos rfl]
    refine ⟨(own 0 (by omega) (by omega)).trans b1, fun _ => ?_, fun p w hp hw => ?_⟩
    · unfold cTw
      rw [gI_sI, if_pos (by omega)]
    · have e := own (2 + 3 * p + w) (by omega) (by omega)
      rw [show 19 + 14 * j + (2 + 3 * p + w) = 21 + 14 * j + 3 * p + w by omega, show 19 + 14 * i + (2 + 3 * p + w) = 21 + 14 * i + 3 * p + w by omega] at e
      exact e.trans (b3 p w hp hw)
  · rw [if_neg z, if_neg z, if_neg z]
    refine ⟨(oth j 0 (by omega) z).trans a1, fun hb => ?_, fun p w hp hw => ?_⟩
    · have e := oth j 1 (by omega) z
      rw [show 19 + 14 * j + 1 = 20 + 14 * j by omega] at e
      exact e.trans (a2 hb)
    · have e := oth j (2 + 3 * p + w) (by omega) z
      rw [show 19 + 14 * j + (2 + 3 * p + w) = 21 + 14 * j + 3 * p + w by omega] at e
      exact e.trans (a3 p w hp hw)
theorem zRk_cpt {S : zST} (h : zRk S) {i : Nat} (hi : i < 8) (o : Nat) : zRk (S.cpt i o) := ⟨h.1, fun j hj => by
  show (if j = o then S.tn i else S.tn j) ≤ 4
  split
  · exact h.2 i hi
  · exact h.2 j hj⟩
set_option maxRecDepth 20000 in
theorem c_X11_undo {l : Launch} (hfl : l.stackTraces = false) (E : zE) (σ : zS) (ni : Nat) (tx : Nat → Int) (ec : Nat) (eo : Int) (U : zSU) (S : zST) (S1 : zST) (h1 : List zST) (kp : Option zST) (ou : List Nat) (h : zMP σ (zDv.mk ni tx ec eo U S (S1 :: h1) kp ou)) : zRi l E yX11_undo cX11_undo 1 .int (zrm 1 25) [.ref (ob E 327)] σ (fun r τ => r = zI (h1.length : Int) ∧ mH σ τ (zDv.mk ni tx ec eo U S1 h1 kp ou)) := by
  refine Met.ofW (cc := cX11_undo) (maxL := 1) (ret := (some .int)) (by decide +kernel) rfl ?_
  intro p e s m args below meth c s₁ B hml hv
  obtain ⟨rfl, hd⟩ := hv
  have C := zX_of (own := RX11) hfl B hml rfl hd rfl
  have hr := B.returns
  refine zV_go hd (Nat.le_of_ble_eq_true rfl) (lv := [(0, .ref (ob E 327))]) rfl ?_
  have hq : gI σ 327 8 = zI ((h1.length + 1 : Nat) : Int) := h.2.2.2.2.2.1.1
  have hq2 : h1.length + 1 ≤ 12 := h.2.2.2.2.2.1.2.1
  refine zv_aload_n C 0 dX11_undo_0 rfl rfl ?_
  refine zv_iconst (v := zI 0) C dX11_undo_1 rfl ?_
  refine zP10_10 C (by decide : kd 327 = _) kX11_50 dX11_undo_2 ?_
  refine zv_eqS (τ := (thW σ 0)) (rfl) ?_
  refine zv_aload_n C 0 dX11_undo_5 rfl rfl ?_
  refine zG10_8 C (by decide : kd 327 = _) kX11_57 dX11_undo_6 ?_
  refine zv_eqi (y := (zI ((h1.length + 1 : Nat) : Int))) (hq) ?_
  refine zv_if_neZ (tgt := 14) C (by omega) dX11_undo_9 (by decide) (fun h9 => ?_) (fun h9 => ?_)
  · skip
    refine zv_aload_n C 0 dX11_undo_14 rfl rfl ?_
    refine zv_dup C dX11_undo_15 rfl ?_
    refine zG10_8 C (by decide : kd 327 = _) kX11_57 dX11_undo_16 ?_
    refine zv_eqi (y := (zI ((h1.length + 1 : Nat) : Int))) (hq) ?_
    refine zv_iconst (v := zI 1) C dX11_undo_19 rfl ?_
    refine zv_isubZ C dX11_undo_20 ?_
    refine zP10_8 C (by decide : kd 327 = _) kX11_57 dX11_undo_21 ?_
    refine zv_eqS (τ := (sI (thW σ 0) 327 8 (zI (h1.length : Int)))) (by rw [show ((h1.length + 1 : Nat) : Int) - 1 = (h1.length : Int) by omega]) ?_
    refine zv_aload_n C 0 dX11_undo_24 rfl rfl ?_
    refine zG10_7 C (by decide : kd 327 = _) kX11_31 dX11_undo_25 ?_
    refine zv_sipush (v := zI 131) C dX11_undo_28 (by decide) ?_
    refine zv_aload_n C 0 dX11_undo_31 rfl rfl ?_
    refine zG10_8 C (by decide : kd 327 = _) kX11_57 dX11_undo_32 ?_
    refine zv_eqi (y := (zI (h1.length : Int))) (rfl) ?_
    refine zv_imulZ C dX11_undo_35 ?_
    refine zv_eqi (y := (zI ((131 * h1.length : Nat) : Int))) (congrArg zI (by omega)) ?_
    refine zv_aload_n C 0 dX11_undo_36 rfl rfl ?_
    refine zG10_4 C (by decide : kd 327 = _) kX11_22 dX11_undo_37 ?_
    refine zv_iconst (v := zI 0) C dX11_undo_40 rfl ?_
    refine zv_sipush (v := zI 131) C dX11_undo_41 (by decide) ?_
    refine zv_csvD (st := []) C (c_X11_copies hfl E (sI (thW σ 0) 327 8 (zI (h1.length : Int))) 335 332 (131 * h1.length) 0 131 (by decide) (by decide) (Nat.le_trans (show 131 * h1.length + 131 ≤ 1572 by omega) (by decide)) (by decide) (Or.inl (by decide)) (by omega) (by omega) (by omega)) mX11_copies kX11_60 rfl ⟨rfl, rfl⟩ (show zfit (zrm 0 0) 6 (zrm 1 25) = true from rfl) (Nat.le_of_ble_eq_true rfl) dX11_undo_44 ⟨Nat.zero_le _, Nat.zero_le _⟩ ?_
    refine zv_aload_n C 0 dX11_undo_47 rfl rfl ?_
    refine zG10_8 C (by decide : kd 327 = _) kX11_57 dX11_undo_48 ?_
    refine zv_eqi (y := (zI (h1.length : Int))) (rfl) ?_
    exact zv_iret C hr rfl dX11_undo_51 ⟨rfl, zMP_un h⟩
  · exfalso
    omega
set_option maxRecDepth 20000 in
theorem c0_X11_undo {l : Launch} (hfl : l.stackTraces = false) (E : zE) (σ : zS) (ni : Nat) (tx : Nat → Int) (ec : Nat) (eo : Int) (U : zSU) (S : zST) (kp : Option zST) (ou : List Nat) (h : zMP σ (zDv.mk ni tx ec eo U S [] kp ou)) : zRi l E yX11_undo cX11_undo 1 .int (zrm 0 0) [.ref (ob E 327)] σ (fun r τ => r = zI (-1) ∧ mK σ τ 0) := by
  refine Met.ofW (cc := cX11_undo) (maxL := 1) (ret := (some .int)) (by decide +kernel) rfl ?_
  intro p e s m args below meth c s₁ B hml hv
  obtain ⟨rfl, hd⟩ := hv
  have C := zX_of (own := RX11) hfl B hml rfl hd rfl
  have hr := B.returns
  refine zV_go hd (Nat.le_of_ble_eq_true rfl) (lv := [(0, .ref (ob E 327))]) rfl ?_
  have hq : gI σ 327 8 = zI 0 := h.2.2.2.2.2.1.1
  refine zv_aload_n C 0 dX11_undo_0 rfl rfl ?_
  refine zv_iconst (v := zI 0) C dX11_undo_1 rfl ?_
  refine zP10_10 C (by decide : kd 327 = _) kX11_50 dX11_undo_2 ?_
  refine zv_eqS (τ := (thW σ 0)) (rfl) ?_
  refine zv_aload_n C 0 dX11_undo_5 rfl rfl ?_
  refine zG10_8 C (by decide : kd 327 = _) kX11_57 dX11_undo_6 ?_
  refine zv_eqi (y := (zI 0)) (hq) ?_
  refine zv_if_neZ (tgt := 14) C (by omega) dX11_undo_9 (by decide) (fun h9 => absurd h9 (by decide)) (fun h9 => ?_)
  refine zv_iconst (v := zI (-1)) C dX11_undo_12 rfl ?_
  exact zv_iret C hr rfl dX11_undo_13 ⟨rfl, mK_th _ _⟩
set_option maxRecDepth 20000 in
theorem c_X11_saveState {l : Launch} (hfl : l.stackTraces = false) (E : zE) (σ : zS) (ni : Nat) (tx : Nat → Int) (ec : Nat) (eo : Int) (U : zSU) (S : zST) (hh : List zST) (kp : Option zST) (ou : List Nat) (h : zMP σ (zDv.mk ni tx ec eo U S hh kp ou)) : zRi l E yX11_saveState cX11_saveState 1 .int (zrm 1 25) [.ref (ob E 327)] σ (fun r τ => r = zI (S.dy : Int) ∧ mH σ τ ((zDv.mk ni tx ec eo U S hh kp ou).sK (some S))) := by
  refine Met.ofW (cc := cX11_saveState) (maxL := 1) (ret := (some .int)) (by decide +kernel) rfl ?_
  intro p e s m args below meth c s₁ B hml hv
  obtain ⟨rfl, hd⟩ := hv
  have C := zX_of (own := RX11) hfl B hml rfl hd rfl
  have hr := B.returns
  refine zV_go hd (Nat.le_of_ble_eq_true rfl) (lv := [(0, .ref (ob E 327))]) rfl ?_
  have hW : zRo (gI σ 332) U.nb S := h.2.2.2.2.1.1
  refine zv_aload_n C 0 dX11_saveState_0 rfl rfl ?_
  refine zv_iconst (v := zI 0) C dX11_saveState_1 rfl ?_
  refine zP10_10 C (by decide : kd 327 = _) kX11_50 dX11_saveState_2 ?_
  refine zv_eqS (τ := (thW σ 0)) (rfl) ?_
  refine zv_aload_n C 0 dX11_saveState_5 rfl rfl ?_
  refine zG10_4 C (by decide : kd 327 = _) kX11_22 dX11_saveState_6 ?_
  refine zv_iconst (v := zI 0) C dX11_saveState_9 rfl ?_
  refine zv_aload_n C 0 dX11_saveState_10 rfl rfl ?_
  refine zG10_6 C (by decide : kd 327 = _) kX11_28 dX11_saveState_11 ?_
  refine zv_iconst (v := zI 0) C dX11_saveState_14 rfl ?_
  refine zv_sipush (v := zI 131) C dX11_saveState_15 (by decide) ?_
  refine zv_csvD (st := []) C (c_X11_copies hfl E (thW σ 0) 332 334 0 0 131 (by decide) (by decide) (by decide) (by decide) (Or.inl (by decide)) (by omega) (by omega) (by omega)) mX11_copies kX11_60 rfl ⟨rfl, rfl⟩ (show zfit (zrm 0 0) 6 (zrm 1 25) = true from rfl) (Nat.le_of_ble_eq_true rfl) dX11_saveState_18 ⟨Nat.zero_le _, Nat.zero_le _⟩ ?_
  refine zv_aload_n C 0 dX11_saveState_21 rfl rfl ?_
  refine zv_iconst (v := zI 1) C dX11_saveState_22 rfl ?_
  refine zP10_9 C (by decide : kd 327 = _) (Or.inr rfl) kX11_235 dX11_saveState_23 ?_
  refine zv_aload_n C 0 dX11_saveState_26 rfl rfl ?_
  refine zG10_4 C (by decide : kd 327 = _) kX11_22 dX11_saveState_27 ?_
  refine zv_bipush (v := zI 18) C dX11_saveState_30 (by decide) ?_
  refine zv_iald (j := 18) C (by decide : kd 332 = _) (zI_ix (by omega)) (by decide) dX11_saveState_32 ?_
  refine zv_eqi (y := (zI (S.dy : Int))) (by rw [gI_sI, if_neg (by omega), cpR_o _ _ _ _ _ _ _ _ (by decide)]; exact hW.2.2.2.1) ?_
  exact zv_iret C hr rfl dX11_saveState_33 ⟨rfl, zMP_sv h⟩
set_option maxRecDepth 20000 in
theorem c_X11_restoreState {l : Launch} (hfl : l.stackTraces = false) (E : zE) (σ : zS) (ni : Nat) (tx : Nat → Int) (ec : Nat) (eo : Int) (U : zSU) (S : zST) (hh : List zST) (S1 : zST) (ou : List Nat) (h : zMP σ (zDv.mk ni tx ec eo U S hh (some S1) ou)) : zRi l E yX11_restoreState cX11_restoreState 1 .int (zrm 1 25) [.ref (ob E 327)] σ (fun r τ => r = zI (S1.dy : Int) ∧ mH σ τ (zDv.mk ni tx ec eo U S1 [] (some S1) ou)) := by
  refine Met.ofW (cc := cX11_restoreState) (maxL := 1) (ret := (some .int)) (by decide +kernel) rfl ?_
  intro p e s m args below meth c s₁ B hml hv
  obtain ⟨rfl, hd⟩ := hv
  have C := zX_of (own := RX11) hfl B hml rfl hd rfl
  have hr := B.returns
  refine zV_go hd (Nat.le_of_ble_eq_true rfl) (lv := [(0, .ref (ob E 327))]) rfl ?_
  have hq : gI σ 327 9 = zI 1 := h.2.2.2.2.2.2.1.1.trans (zB_t rfl)
  refine zv_aload_n C 0 dX11_restoreState_0 rfl rfl ?_
  refine zv_iconst (v := zI 0) C dX11_restoreState_1 rfl ?_
  refine zP10_10 C (by decide : kd 327 = _) kX11_50 dX11_restoreState_2 ?_
  refine zv_eqS (τ := (thW σ 0)) (rfl) ?_
  refine zv_aload_n C 0 dX11_restoreState_5 rfl rfl ?_
  refine zv_aload_n C 0 dX11_restoreState_6 rfl rfl ?_
  refine zG10_9 C (by decide : kd 327 = _) kX11_235 dX11_restoreState_7 ?_
  refine zv_eqi (y := (zI 1)) (hq) ?_
  refine zv_if_neZ (tgt := 17) C (by omega) dX11_restoreState_10 (by decide) (fun h10 => ?_) (fun h10 => absurd h10 (by decide))
  refine zv_iconst (v := zI 0) C dX11_restoreState_17 rfl ?_
  refine zv_iconst (v := zI 1) C dX11_restoreState_18 rfl ?_
  refine zv_cviD (st := []) C (c0_X11_fails hfl E (thW σ 0) 1) mX11_fails kX11_309 (by decide : kd 327 = 10) rfl rfl rfl ⟨rfl, rfl⟩ (show zfit (zrm 0 0) 3 (zrm 1 25) = true from rfl) (Nat.le_of_ble_eq_true rfl) dX11_restoreState_19 ⟨Nat.zero_le _, Nat.zero_le _⟩ ?_
  refine zv_if_eqZ (tgt := 27) C (by omega) dX11_restoreState_22 (by decide) (fun h22 => ?_) (fun h22 => absurd h22 (by decide))
  refine zv_aload_n C 0 dX11_restoreState_27 rfl rfl ?_
  refine zG10_6 C (by decide : kd 327 = _) kX11_28 dX11_restoreState_28 ?_
  refine zv_iconst (v := zI 0) C dX11_restoreState_31 rfl ?_
  refine zv_aload_n C 0 dX11_restoreState_32 rfl rfl ?_
  refine zG10_4 C (by decide : kd 327 = _) kX11_22 dX11_restoreState_33 ?_
  refine zv_iconst (v := zI 0) C dX11_restoreState_36 rfl ?_
  refine zv_sipush (v := zI 131) C dX11_restoreState_37 (by decide) ?_
  refine zv_csvD (st := []) C (c_X11_copies hfl E (thW σ 0) 334 332 0 0 131 (by decide) (by decide) (by decide) (by decide) (Or.inl (by decide)) (by omega) (by omega) (by omega)) mX11_copies kX11_60 rfl ⟨rfl, rfl⟩ (show zfit (zrm 0 0) 6 (zrm 1 25) = true from rfl) (Nat.le_of_ble_eq_true rfl) dX11_restoreState_40 ⟨Nat.zero_le _, Nat.zero_le _⟩ ?_
  refine zv_aload_n C 0 dX11_restoreState_43 rfl rfl ?_
  refine zv_iconst (v := zI 0) C dX11_restoreState_44 rfl ?_
  refine zP10_8 C (by decide : kd 327 = _) kX11_57 dX11_restoreState_45 ?_
  refine zv_aload_n C 0 dX11_restoreState_48 rfl rfl ?_
  refine zG10_4 C (by decide : kd 327 = _) kX11_22 dX11_restoreState_49 ?_
  refine zv_bipush (v := zI 18) C dX11_restoreState_52 (by decide) ?_
  refine zv_iald (j := 18) C (by decide : kd 332 = _) (zI_ix (by omega)) (by decide) dX11_restoreState_54 ?_
  refine zv_eqi (y := (zI (S1.dy : Int))) ((zMP_rs h).2.2.2.2.1) ?_
  exact zv_iret C hr rfl dX11_restoreState_55 ⟨rfl, (zMP_rs h).1⟩
set_option maxRecDepth 20000 in
theorem x1_X11_restoreState {l : Launch} (hfl : l.stackTraces = false) (E : zE) (σ : zS) (ni : Nat) (tx : Nat → Int) (ec : Nat) (eo : Int) (U : zSU) (S : zST) (hh : List zST) (ou : List Nat) (h : zMP σ (zDv.mk ni tx ec eo U S hh none ou)) : zRi l E yX11_restoreState cX11_restoreState 1 .int (zrm 1 22) [.ref (ob E 327)] σ (fun r τ => r = zI 0 ∧ mK σ τ 1) := by
  refine Met.ofW (cc := cX11_restoreState) (maxL := 1) (ret := (some .int)) (by decide +kernel) rfl ?_
  intro p e s m args below meth c s₁ B hml hv
  obtain ⟨rfl, hd⟩ := hv
  have C := zX_of (own := RX11) hfl B hml rfl hd rfl
  have hr := B.returns
  refine zV_go hd (Nat.le_of_ble_eq_true rfl) (lv := [(0, .ref (ob E 327))]) rfl ?_
  have hq : gI σ 327 9 = zI 0 := h.2.2.2.2.2.2.1.1.trans (zB_f (show ¬ ((none : Option zST).isSome = true) by decide))
  refine zv_aload_n C 0 dX11_restoreState_0 rfl rfl ?_
  refine zv_iconst (v := zI 0) C dX11_restoreState_1 rfl ?_
  refine zP10_10 C (by decide : kd 327 = _) kX11_50 dX11_restoreState_2 ?_
  refine zv_eqS (τ := (thW σ 0)) (rfl) ?_
  refine zv_aload_n C 0 dX11_restoreState_5 rfl rfl ?_
  refine zv_aload_n C 0 dX11_restoreState_6 rfl rfl ?_
  refine zG10_9 C (by decide : kd 327 = _) kX11_235 dX11_restoreState_7 ?_
  refine zv_eqi (y := (zI 0)) (hq) ?_
  refine zv_if_neZ (tgt := 17) C (by omega) dX11_restoreState_10 (by decide) (fun h10 => absurd h10 (by decide)) (fun h10 => ?_)
  refine zv_iconst (v := zI 1) C dX11_restoreState_13 rfl ?_
  refine zv_goto (tgt := 18) C dX11_restoreState_14 (by decide) ?_
  refine zv_iconst (v := zI 1) C dX11_restoreState_18 rfl ?_
  refine zv_cviD (st := []) C (c1_X11_fails hfl E (thW σ 0) 1) mX11_fails kX11_309 (by decide : kd 327 = 10) rfl rfl rfl ⟨rfl, rfl⟩ (show zfit (zrm 0 0) 3 (zrm 1 22) = true from rfl) (Nat.le_of_ble_eq_true rfl) dX11_restoreState_19 ⟨Nat.zero_le _, Nat.zero_le _⟩ ?_
  refine zv_if_eqZ (tgt := 27) C (by omega) dX11_restoreState_22 (by decide) (fun h22 => absurd h22 (by decide)) (fun h22 => ?_)
  refine zv_iconst (v := zI 0) C dX11_restoreState_25 rfl ?_
  exact zv_iret C hr rfl dX11_restoreState_26 ⟨rfl, mK_th2 _ _ _⟩
set_option maxRecDepth 20000 in
theorem c2_X11_copies {l : Launch} (hfl : l.stackTraces = false) (E : zE) (σ : zS) (a x y n9 : Nat) (ha : kd a = 12) (hx : x + n9 ≤ zlen a) (hy : y + n9 ≤ zlen a) (hne : x + n9 ≤ y) (hx9 : x < 100000) (hy9 : y < 100000) (hm9 : n9 < 100000) : zRv l E yX11_copies cX11_copies 6 (zrm 0 0) [.ref (ob E a), .int (zI (x : Int)), .ref (ob E a), .int (zI (y : Int)), .int (zI (n9 : Int))] σ (fun τ => τ = cpR σ a x a y n9) := by
  refine Met.ofW (cc := cX11_copies) (maxL := 6) (ret := none) (by decide +kernel) rfl ?_
  intro p e s m args below meth c s₁ B hml hv
  obtain ⟨rfl, hd⟩ := hv
  have C := zX_of (own := RX11) hfl B hml rfl hd rfl
  have hr := B.returns
  refine zV_go hd (Nat.le_of_ble_eq_true rfl) (lv := [(0, .ref (ob E a)), (1, .int (zI (x : Int))), (2, .ref (ob E a)), (3, .int (zI (y : Int))), (4, .int (zI (n9 : Int)))]) rfl ?_
  refine zv_iconst (v := zI 0) C dX11_copies_0 rfl ?_
  refine zv_istore (lv' := [(5, .int (zI 0)), (0, .ref (ob E a)), (1, .int (zI (x : Int))), (2, .ref (ob E a)), (3, .int (zI (y : Int))), (4, .int (zI (n9 : Int)))]) C dX11_copies_1  (by decide) rfl ?_
  have q3_2 : (0 : Int) = (0 : Int) := by first | rfl | omega
  refine zv_sub (lv' := [(0, .ref (ob E a)), (1, .int (zI (x : Int))), (2, .ref (ob E a)), (3, .int (zI (y : Int))), (4, .int (zI (n9 : Int))), (5, .int (zI (0 : Int)))]) [1, 2, 3, 4, 5, 0] (zcons rfl (zcons rfl (zcons rfl (zcons rfl (zcons rfl (zcons (zqI q3_2) rfl)))))) ?_
  refine zv_eqS (τ := (cpR σ a x a y 0)) ((cpR_0 _ _ _ _ _).symm) ?_
  refine zv_while (α := Nat) (fun v => n9 - v) (fun v => v ≤ n9) (fun v => (cpR σ a x a y v)) (fun v => [(0, .ref (ob E a)), (1, .int (zI (x : Int))), (2, .ref (ob E a)), (3, .int (zI (y : Int))), (4, .int (zI (n9 : Int))), (5, .int (zI (v : Int)))]) (fun v => []) (fun j hI ih => ?_) (0) (by omega)
  refine zv_iload C 5 dX11_copies_3 rfl ?_
  refine zv_iload C 4 dX11_copies_5 rfl ?_
  refine zv_icmp_geZ (tgt := 28) C (by omega) (by omega) dX11_copies_7 (by decide) (fun h7 => ?_) (fun h7 => ?_)
  · skip
    exact zv_vret C hr dX11_copies_28 (by rw [show j = n9 by omega])
  · skip
    refine zv_aload_n C 2 dX11_copies_10 rfl rfl ?_
    refine zv_iload_n C 3 dX11_copies_11 rfl rfl ?_
    refine zv_iload C 5 dX11_copies_12 rfl ?_
    refine zv_iaddZ C dX11_copies_14 ?_
    refine zv_aload_n C 0 dX11_copies_15 rfl rfl ?_
    refine zv_iload_n C 1 dX11_copies_16 rfl rfl ?_
    refine zv_iload C 5 dX11_copies_17 rfl ?_
    refine zv_iaddZ C dX11_copies_19 ?_
    refine zv_iald (j := x + j) C ha (zI_ix (by omega)) (by omega) dX11_copies_20 ?_
    refine zv_iast (j := y + j) C ha (zI_ix (by omega)) (by omega) dX11_copies_21 ?_
    refine zv_iinc (v := (zI ((j : Int) + 1))) (lv' := [(5, .int (zI ((j : Int) + 1))), (0, .ref (ob E a)), (1, .int (zI (x : Int))), (2, .ref (ob E a)), (3, .int (zI (y : Int))), (4, .int (zI (n9 : Int)))]) C 5 dX11_copies_22 rfl (zI_add _ _) (by decide) rfl ?_
    refine zv_goto (tgt := 3) C dX11_copies_25 (by decide) ?_
    have q3_24 : ((j : Int) + 1 : Int) = ((j + 1 : Nat) : Int) := by first | rfl | omega
    refine zv_sub (lv' := [(0, .ref (ob E a)), (1, .int (zI (x : Int))), (2, .ref (ob E a)), (3, .int (zI (y : Int))), (4, .int (zI (n9 : Int))), (5, .int (zI ((j + 1 : Nat) : Int)))]) [1, 2, 3, 4, 5, 0] (zcons rfl (zcons rfl (zcons rfl (zcons rfl (zcons rfl (zcons (zqI q3_24) rfl)))))) ?_
    refine zv_eqS (τ := (cpR σ a x a y (j + 1))) (cpR_s2 _ _ _ _ _ _ (by omega)) ?_
    exact ih (j + 1) (by omega) (by omega)
set_option maxRecDepth 20000 in
theorem c_X11_noTwo {l : Launch} (hfl : l.stackTraces = false) (E : zE) (σ : zS) (σc : zS) (U : zSU) (y z : Int) (hB : zRb (gI σ 328) U) (hU : zSUp σc 29 U) (hy : 0 ≤ y ∧ y < U.nb) (hz : 0 ≤ z ∧ z < U.nb) (hne : y ≠ z) : zRi l E yX11_noTwo cX11_noTwo 3 .boolean (zrm 2 46) [.ref (ob E 327), .int (zI y), .int (zI z)] σ (fun r τ => r = zI 0 ∧ τ = thW σ 0) := by
  refine Met.ofW (cc := cX11_noTwo) (maxL := 3) (ret := (some .boolean)) (by decide +kernel) rfl ?_
  intro p e s m args below meth c s₁ B hml hv
  obtain ⟨rfl, hd⟩ := hv
  have C := zX_of (own := RX11) hfl B hml rfl hd rfl
  have hr := B.returns
  refine zV_go hd (Nat.le_of_ble_eq_true rfl) (lv := [(0, .ref (ob E 327)), (1, .int (zI y)), (2, .int (zI z))]) rfl ?_
  have hnb : U.nb ≤ 8 := hU.2.2.1
  have hs0 := hU.2.2.2.1
  
  refine zv_aload_n C 0 dX11_noTwo_0 rfl rfl ?_
  refine zv_iload_n C 1 dX11_noTwo_1 rfl rfl ?_
  refine zv_cviD (st := []) C (c0_X11_noBody hfl E σ σc U (y) hB hU (by omega)) mX11_noBody kX11_319 (by decide : kd 327 = 10) rfl rfl rfl ⟨rfl, rfl⟩ (show zfit (zrm 1 25) 2 (zrm 2 46) = true from rfl) (Nat.le_of_ble_eq_true rfl) dX11_noTwo_2 ⟨Nat.zero_le _, Nat.zero_le _⟩ ?_
  refine zv_if_neZ (tgt := 34) C (by omega) dX11_noTwo_5 (by decide) (fun h5 => absurd h5 (by decide)) (fun h5 => ?_)
  refine zv_aload_n C 0 dX11_noTwo_8 rfl rfl ?_
  refine zv_iload_n C 2 dX11_noTwo_9 rfl rfl ?_
  refine zv_cviD (st := []) C (c0_X11_noBody hfl E (thW σ 0) σc U (z) hB hU (by omega)) mX11_noBody kX11_319 (by decide : kd 327 = 10) rfl rfl rfl ⟨rfl, rfl⟩ (show zfit (zrm 1 25) 2 (zrm 2 46) = true from rfl) (Nat.le_of_ble_eq_true rfl) dX11_noTwo_10 ⟨Nat.zero_le _, Nat.zero_le _⟩ ?_
  refine zv_eqS (τ := (thW σ 0)) (thW_o _ _ _) ?_
  refine zv_if_neZ (tgt := 34) C (by omega) dX11_noTwo_13 (by decide) (fun h13 => absurd h13 (by decide)) (fun h13 => ?_)
  refine zv_aload_n C 0 dX11_noTwo_16 rfl rfl ?_
  refine zv_iload_n C 1 dX11_noTwo_17 rfl rfl ?_
  refine zv_iload_n C 2 dX11_noTwo_18 rfl rfl ?_
  refine zv_icmp_neZ (tgt := 26) C (by omega) (by omega) dX11_noTwo_19 (by decide) (fun h19 => ?_) (fun h19 => ?_)
  · skip
    refine zv_iconst (v := zI 0) C dX11_noTwo_26 rfl ?_
    refine zv_iconst (v := zI 2) C dX11_noTwo_27 rfl ?_
    refine zv_cviD (st := []) C (c0_X11_fails hfl E (thW σ 0) 2) mX11_fails kX11_309 (by decide : kd 327 = 10) rfl rfl rfl ⟨rfl, rfl⟩ (show zfit (zrm 0 0) 3 (zrm 2 46) = true from rfl) (Nat.le_of_ble_eq_true rfl) dX11_noTwo_28 ⟨Nat.zero_le _, Nat.zero_le _⟩ ?_
    refine zv_if_eqZ (tgt := 38) C (by omega) dX11_noTwo_31 (by decide) (fun h31 => ?_) (fun h31 => absurd h31 (by decide))
    refine zv_iconst (v := zI 0) C dX11_noTwo_38 rfl ?_
    exact zv_iret C hr rfl dX11_noTwo_39 ⟨rfl, rfl⟩
  · skip
    refine zv_iconst (v := zI 1) C dX11_noTwo_22 rfl ?_
    refine zv_goto (tgt := 27) C dX11_noTwo_23 (by decide) ?_
    refine zv_iconst (v := zI 2) C dX11_noTwo_27 rfl ?_
    exfalso
    omega
set_option maxRecDepth 20000 in
theorem x1_X11_noTwo {l : Launch} (hfl : l.stackTraces = false) (E : zE) (σ : zS) (σc : zS) (U : zSU) (y z : Int) (hB : zRb (gI σ 328) U) (hU : zSUp σc 29 U) (hy : -2147483648 ≤ y ∧ y < 2147483648) (hzi : -2147483648 ≤ z ∧ z < 2147483648) (hno : ¬ (0 ≤ y ∧ y < U.nb)) : zRi l E yX11_noTwo cX11_noTwo 3 .boolean (zrm 2 46) [.ref (ob E 327), .int (zI y), .int (zI z)] σ (fun r τ => r = zI 1 ∧ mK σ τ 1) := by
  refine Met.ofW (cc := cX11_noTwo) (maxL := 3) (ret := (some .boolean)) (by decide +kernel) rfl ?_
  intro p e s m args below meth c s₁ B hml hv
  obtain ⟨rfl, hd⟩ := hv
  have C := zX_of (own := RX11) hfl B hml rfl hd rfl
  have hr := B.returns
  refine zV_go hd (Nat.le_of_ble_eq_true rfl) (lv := [(0, .ref (ob E 327)), (1, .int (zI y)), (2, .int (zI z))]) rfl ?_
  have hnb : U.nb ≤ 8 := hU.2.2.1
  have hs0 := hU.2.2.2.1
  
  refine zv_aload_n C 0 dX11_noTwo_0 rfl rfl ?_
  refine zv_iload_n C 1 dX11_noTwo_1 rfl rfl ?_
  refine zv_cviD (st := []) C (c1_X11_noBody hfl E σ σc U (y) hB hU (by omega) hno) mX11_noBody kX11_319 (by decide : kd 327 = 10) rfl rfl rfl ⟨rfl, rfl⟩ (show zfit (zrm 1 25) 2 (zrm 2 46) = true from rfl) (Nat.le_of_ble_eq_true rfl) dX11_noTwo_2 ⟨Nat.zero_le _, Nat.zero_le _⟩ ?_
  refine zv_if_neZ (tgt := 34) C (by omega) dX11_noTwo_5 (by decide) (fun h5 => ?_) (fun h5 => absurd h5 (by decide))
  refine zv_iconst (v := zI 1) C dX11_noTwo_34 rfl ?_
  refine zv_goto (tgt := 39) C dX11_noTwo_35 (by decide) ?_
  exact zv_iret C hr rfl dX11_noTwo_39 ⟨rfl, mK_th _ _⟩
set_option maxRecDepth 20000 in
theorem x2_X11_noTwo {l : Launch} (hfl : l.stackTraces = false) (E : zE) (σ : zS) (σc : zS) (U : zSU) (z y : Int) (hB : zRb (gI σ 328) U) (hU : zSUp σc 29 U) (hz : 0 ≤ z ∧ z < U.nb) (hy : -2147483648 ≤ y ∧ y < 2147483648) (hno : ¬ (0 ≤ y ∧ y < U.nb)) : zRi l E yX11_noTwo cX11_noTwo 3 .boolean (zrm 2 46) [.ref (ob E 327), .int (zI z), .int (zI y)] σ (fun r τ => r = zI 1 ∧ mK σ τ 1) := by
  refine Met.ofW (cc := cX11_noTwo) (maxL := 3) (ret := (some .boolean)) (by decide +kernel) rfl ?_
  intro p e s m args below meth c s₁ B hml hv
  obtain ⟨rfl, hd⟩ := hv
  have C := zX_of (own := RX11) hfl B hml rfl hd rfl
  have hr := B.returns
  refine zV_go hd (Nat.le_of_ble_eq_true rfl) (lv := [(0, .ref (ob E 327)), (1, .int (zI z)), (2, .int (zI y))]) rfl ?_
  have hnb : U.nb ≤ 8 := hU.2.2.1
  have hs0 := hU.2.2.2.1
  
  refine zv_aload_n C 0 dX11_noTwo_0 rfl rfl ?_
  refine zv_iload_n C 1 dX11_noTwo_1 rfl rfl ?_
  refine zv_cviD (st := []) C (c0_X11_noBody hfl E σ σc U z hB hU hz) mX11_noBody kX11_319 (by decide : kd 327 = 10) rfl rfl rfl ⟨rfl, rfl⟩ (show zfit (zrm 1 25) 2 (zrm 2 46) = true from rfl) (Nat.le_of_ble_eq_true rfl) dX11_noTwo_2 ⟨Nat.zero_le _, Nat.zero_le _⟩ ?_
  refine zv_if_neZ (tgt := 34) C (by omega) dX11_noTwo_5 (by decide) (fun h5 => absurd h5 (by decide)) (fun h5 => ?_)
  refine zv_aload_n C 0 dX11_noTwo_8 rfl rfl ?_
  refine zv_iload_n C 2 dX11_noTwo_9 rfl rfl ?_
  refine zv_cviD (st := []) C (c1_X11_noBody hfl E (thW σ 0) σc U (y) hB hU (by omega) hno) mX11_noBody kX11_319 (by decide : kd 327 = 10) rfl rfl rfl ⟨rfl, rfl⟩ (show zfit (zrm 1 25) 2 (zrm 2 46) = true from rfl) (Nat.le_of_ble_eq_true rfl) dX11_noTwo_10 ⟨Nat.zero_le _, Nat.zero_le _⟩ ?_
  refine zv_if_neZ (tgt := 34) C (by omega) dX11_noTwo_13 (by decide) (fun h13 => ?_) (fun h13 => absurd h13 (by decide))
  refine zv_iconst (v := zI 1) C dX11_noTwo_34 rfl ?_
  refine zv_goto (tgt := 39) C dX11_noTwo_35 (by decide) ?_
  exact zv_iret C hr rfl dX11_noTwo_39 ⟨rfl, by first | exact mK_th _ _ | exact mK_th2 _ _ _⟩
set_option maxRecDepth 20000 in
theorem x3_X11_noTwo {l : Launch} (hfl : l.stackTraces = false) (E : zE) (σ : zS) (σc : zS) (U : zSU) (y : Int) (hB : zRb (gI σ 328) U) (hU : zSUp σc 29 U) (hy : 0 ≤ y ∧ y < U.nb) : zRi l E yX11_noTwo cX11_noTwo 3 .boolean (zrm 2 46) [.ref (ob E 327), .int (zI y), .int (zI y)] σ (fun r τ => r = zI 1 ∧ mK σ τ 2) := by
  refine Met.ofW (cc := cX11_noTwo) (maxL := 3) (ret := (some .boolean)) (by decide +kernel) rfl ?_
  intro p e s m args below meth c s₁ B hml hv
  obtain ⟨rfl, hd⟩ := hv
  have C := zX_of (own := RX11) hfl B hml rfl hd rfl
  have hr := B.returns
  refine zV_go hd (Nat.le_of_ble_eq_true rfl) (lv := [(0, .ref (ob E 327)), (1, .int (zI y)), (2, .int (zI y))]) rfl ?_
  have hnb : U.nb ≤ 8 := hU.2.2.1
  have hs0 := hU.2.2.2.1
  
  refine zv_aload_n C 0 dX11_noTwo_0 rfl rfl ?_
  refine zv_iload_n C 1 dX11_noTwo_1 rfl rfl ?_
  refine zv_cviD (st := []) C (c0_X11_noBody hfl E σ σc U (y) hB hU (by omega)) mX11_noBody kX11_319 (by decide : kd 327 = 10) rfl rfl rfl ⟨rfl, rfl⟩ (show zfit (zrm 1 25) 2 (zrm 2 46) = true from rfl) (Nat.le_of_ble_eq_true rfl) dX11_noTwo_2 ⟨Nat.zero_le _, Nat.zero_le _⟩ ?_
  refine zv_if_neZ (tgt := 34) C (by omega) dX11_noTwo_5 (by decide) (fun h5 => absurd h5 (by decide)) (fun h5 => ?_)
  refine zv_aload_n C 0 dX11_noTwo_8 rfl rfl ?_
  refine zv_iload_n C 2 dX11_noTwo_9 rfl rfl ?_
  refine zv_cviD (st := []) C (c0_X11_noBody hfl E (thW σ 0) σc U (y) hB hU (by omega)) mX11_noBody kX11_319 (by decide : kd 327 = 10) rfl rfl rfl ⟨rfl, rfl⟩ (show zfit (zrm 1 25) 2 (zrm 2 46) = true from rfl) (Nat.le_of_ble_eq_true rfl) dX11_noTwo_10 ⟨Nat.zero_le _, Nat.zero_le _⟩ ?_
  refine zv_eqS (τ := (thW σ 0)) (thW_o _ _ _) ?_
  refine zv_if_neZ (tgt := 34) C (by omega) dX11_noTwo_13 (by decide) (fun h13 => absurd h13 (by decide)) (fun h13 => ?_)
  refine zv_aload_n C 0 dX11_noTwo_16 rfl rfl ?_
  refine zv_iload_n C 1 dX11_noTwo_17 rfl rfl ?_
  refine zv_iload_n C 2 dX11_noTwo_18 rfl rfl ?_
  refine zv_icmp_neZ (tgt := 26) C (by omega) (by omega) dX11_noTwo_19 (by decide) (fun h19 => ?_) (fun h19 => ?_)
  · skip
    refine zv_iconst (v := zI 0) C dX11_noTwo_26 rfl ?_
    refine zv_iconst (v := zI 2) C dX11_noTwo_27 rfl ?_
    exfalso
    omega
  · skip
    refine zv_iconst (v := zI 1) C dX11_noTwo_22 rfl ?_
    refine zv_goto (tgt := 27) C dX11_noTwo_23 (by decide) ?_
    refine zv_iconst (v := zI 2) C dX11_noTwo_27 rfl ?_
    refine zv_cviD (st := []) C (c1_X11_fails hfl E (thW σ 0) 2) mX11_fails kX11_309 (by decide : kd 327 = 10) rfl rfl rfl ⟨rfl, rfl⟩ (show zfit (zrm 0 0) 3 (zrm 2 46) = true from rfl) (Nat.le_of_ble_eq_true rfl) dX11_noTwo_28 ⟨Nat.zero_le _, Nat.zero_le _⟩ ?_
    refine zv_if_eqZ (tgt := 38) C (by omega) dX11_noTwo_31 (by decide) (fun h31 => absurd h31 (by decide)) (fun h31 => ?_)
    refine zv_iconst (v := zI 1) C dX11_noTwo_34 rfl ?_
    refine zv_goto (tgt := 39) C dX11_noTwo_35 (by decide) ?_
    exact zv_iret C hr rfl dX11_noTwo_39 ⟨rfl, by first | exact mK_th _ _ | exact mK_th2 _ _ _⟩
theorem cT_copies {l : Launch} (hfl : l.stackTraces = false) (E : zE) (σ : zS) {i o : Nat} (hi : i < 8) (ho : o < 8) (hio : i ≠ o) : zRv l E yX11_copies cX11_copies 6 (zrm 0 0) [.ref (ob E 332), .int (zI ((19 + 14 * i + 0 : Nat) : Int)), .ref (ob E 332), .int (zI ((19 + 14 * o + 0 : Nat) : Int)), .int (zI 14)] σ (fun τ => τ = cpR σ 332 (19 + 14 * i + 0) 332 (19 + 14 * o + 0) 14) := by
  have hl : 131 ≤ zlen 332 := by decide
  rcases Nat.lt_or_ge o i with h | h
  · exact c_X11_copies hfl E σ 332 332 (19 + 14 * i + 0) (19 + 14 * o + 0) 14 (by decide) (by decide) (by omega) (by omega) (Or.inr (by omega)) (by omega) (by omega) (by omega)
  · exact c2_X11_copies hfl E σ 332 (19 + 14 * i + 0) (19 + 14 * o + 0) 14 (by decide) (by omega) (by omega) (by omega) (by omega) (by omega) (by omega)
set_option maxRecDepth 20000 in
theorem c_X11_copyTrain {l : Launch} (hfl : l.stackTraces = false) (E : zE) (σ : zS) (σc : zS) (ni : Nat) (tx : Nat → Int) (ec : Nat) (eo : Int) (U : zSU) (S : zST) (hh : List zST) (kp : Option zST) (ou : List Nat) (i o : Nat) (h : zMP σ (zDv.mk ni tx ec eo U S hh kp ou)) (hU : zSUp σc 29 U) (hS : zSTp σc 34 S) (hi : i < U.nb) (ho : o < U.nb) (hio : i ≠ o) : zRi l E yX11_copyTrain cX11_copyTrain 3 .int (zrm 3 68) [.ref (ob E 327), .int (zI (i : Int)), .int (zI (o : Int))] σ (fun r τ => r = zI (S.tn i : Int) ∧ mH σ τ ((zDv.mk ni tx ec eo U S hh kp ou).re.sS (S.cpt i o))) := by
  refine Met.ofW (cc := cX11_copyTrain) (maxL := 3) (ret := (some .int)) (by decide +kernel) rfl ?_
  intro p e s m args below meth c s₁ B hml hv
  obtain ⟨rfl, hd⟩ := hv
  have C := zX_of (own := RX11) hfl B hml rfl hd rfl
  have hr := B.returns
  refine zV_go hd (Nat.le_of_ble_eq_true rfl) (lv := [(0, .ref (ob E 327)), (1, .int (zI (i : Int))), (2, .int (zI (o : Int)))]) rfl ?_
  have hnb : U.nb ≤ 8 := hU.2.2.1
  have hs0 := hU.2.2.2.1
  have hB : zRb (gI σ 328) U := h.2.2.1
  have hW : zRo (gI σ 332) U.nb S := h.2.2.2.2.1.1
  have hk9 : zRk S := h.2.2.2.2.1.2
  have h0 : zMP (thW σ 0) (zDv.mk ni tx ec eo U S hh kp ou) := zMP_q h (mK_th σ 0).1
  have hi8 : i < 8 := by omega
  have ho8 : o < 8 := by omega
  
  refine zv_aload_n C 0 dX11_copyTrain_0 rfl rfl ?_
  refine zv_iload_n C 1 dX11_copyTrain_1 rfl rfl ?_
  refine zv_iload_n C 2 dX11_copyTrain_2 rfl rfl ?_
  refine zv_cviD (st := []) C (c_X11_noTwo hfl E σ σc U (i : Int) (o : Int) hB hU (by omega) (by omega) (by omega)) mX11_noTwo kX11_422 (by decide : kd 327 = 10) rfl rfl rfl ⟨rfl, rfl⟩ (show zfit (zrm 2 46) 3 (zrm 3 68) = true from rfl) (Nat.le_of_ble_eq_true rfl) dX11_copyTrain_3 ⟨Nat.zero_le _, Nat.zero_le _⟩ ?_
  refine zv_if_eqZ (tgt := 11) C (by omega) dX11_copyTrain_6 (by decide) (fun h6 => ?_) (fun h6 => absurd h6 (by decide))
  refine zv_aload_n C 0 dX11_copyTrain_11 rfl rfl ?_
  refine zv_cvv (st := []) C (c_X11_remembers hfl E (thW σ 0) (zDv.mk ni tx ec eo U S hh kp ou) h0) mX11_remembers kX11_392 (by decide : kd 327 = 10) rfl rfl rfl ⟨rfl, rfl⟩ (show zfit (zrm 1 25) 1 (zrm 3 68) = true from rfl) (Nat.le_of_ble_eq_true rfl) dX11_copyTrain_12 ⟨Nat.zero_le _, Nat.zero_le _⟩ (fun τ1 hp12 => ?_)
  obtain ⟨hz1, hz2, hz3, hz4⟩ := hp12
  have hW1 : zRo (gI τ1 332) U.nb S := by rw [hz4]; exact hW
  have hB1 : zRb (gI τ1 328) U := hz1.2.2.1
  have ht1 : gI τ1 327 10 = zI 0 := hz2.trans (mK_th σ 0).2
  have hf1 : zFr 327 339 σ τ1 := zFr_trans (zFr_th σ 0) hz3
  refine zv_aload_n C 0 dX11_copyTrain_15 rfl rfl ?_
  refine zG10_4 C (by decide : kd 327 = _) kX11_22 dX11_copyTrain_16 ?_
  refine zv_iload_n C 1 dX11_copyTrain_19 rfl rfl ?_
  refine zv_iconst (v := zI 0) C dX11_copyTrain_20 rfl ?_
  refine zv_csiD (st := [.ref (ob E 332)]) C (c_X11_trainAt hfl E τ1 i (0) (by omega) (by omega)) mX11_trainAt kX11_53 rfl ⟨rfl, rfl⟩ (show zfit (zrm 0 0) 2 (zrm 3 68) = true from rfl) (Nat.le_of_ble_eq_true rfl) dX11_copyTrain_21 ⟨Nat.zero_le _, Nat.zero_le _⟩ ?_
  refine zv_aload_n C 0 dX11_copyTrain_24 rfl rfl ?_
  refine zG10_4 C (by decide : kd 327 = _) kX11_22 dX11_copyTrain_25 ?_
  refine zv_iload_n C 2 dX11_copyTrain_28 rfl rfl ?_
  refine zv_iconst (v := zI 0) C dX11_copyTrain_29 rfl ?_
  refine zv_csiD (st := [.ref (ob E 332), .int (zI ((19 + 14 * i + (0) : Nat) : Int)), .ref (ob E 332)]) C (c_X11_trainAt hfl E τ1 o (0) (by omega) (by omega)) mX11_trainAt kX11_53 rfl ⟨rfl, rfl⟩ (show zfit (zrm 0 0) 2 (zrm 3 68) = true from rfl) (Nat.le_of_ble_eq_true rfl) dX11_copyTrain_30 ⟨Nat.zero_le _, Nat.zero_le _⟩ ?_
  refine zv_bipush (v := zI 14) C dX11_copyTrain_33 (by decide) ?_
  refine zv_csvD (st := []) C (cT_copies hfl E τ1 hi8 ho8 hio) mX11_copies kX11_60 rfl ⟨rfl, rfl⟩ (show zfit (zrm 0 0) 6 (zrm 3 68) = true from rfl) (Nat.le_of_ble_eq_true rfl) dX11_copyTrain_35 ⟨Nat.zero_le _, Nat.zero_le _⟩ ?_
  refine zv_aload_n C 0 dX11_copyTrain_38 rfl rfl ?_
  refine zv_iload_n C 2 dX11_copyTrain_39 rfl rfl ?_
  refine zv_cvvD (st := []) C (c_X11_frees hfl E (cpR τ1 332 (19 + 14 * i + 0) 332 (19 + 14 * o + 0) 14) o (by omega)) mX11_frees kX11_395 (by decide : kd 327 = 10) rfl rfl rfl ⟨rfl, rfl⟩ (show zfit (zrm 1 21) 2 (zrm 3 68) = true from rfl) (Nat.le_of_ble_eq_true rfl) dX11_copyTrain_40 ⟨Nat.zero_le _, Nat.zero_le _⟩ ?_
  refine zv_aload_n C 0 dX11_copyTrain_43 rfl rfl ?_
  refine zv_iload_n C 2 dX11_copyTrain_44 rfl rfl ?_
  refine zv_cviD (st := []) C (c_X11_parts hfl E (sI (cpR τ1 332 (19 + 14 * i + 0) 332 (19 + 14 * o + 0) 14) 332 (19 + 14 * o + 1) (zI 0)) U.nb (S.cpt i o) o (zRo_cpt hW1 hk9 hi8 ho8 hio) ho8) mX11_parts kX11_188 (by decide : kd 327 = 10) rfl rfl rfl ⟨rfl, rfl⟩ (show zfit (zrm 1 21) 2 (zrm 3 68) = true from rfl) (Nat.le_of_ble_eq_true rfl) dX11_copyTrain_45 ⟨Nat.zero_le _, Nat.zero_le _⟩ ?_
  refine zv_eqi (y := (zI (S.tn i : Int))) (congrArg zI (by show ((if o = o then S.tn i else S.tn o : Nat) : Int) = _; rw [if_pos rfl])) ?_
  exact zv_iret C hr rfl dX11_copyTrain_48 ⟨rfl, zMP_x hz1 (zRo_cpt hW1 hk9 hi8 ho8 hio) (zRk_cpt hk9 hi8 o) (cTw_x (zMx_r _) i o), ht1, cTw_f hf1 i o⟩
