/-! trains swapped -/
def swW (σ : zS) (i o k : Nat) : zS := (fun x j => if x = 332 ∧ 19 + 14 * i ≤ j ∧ j < 19 + 14 * i + k then σ.1 332 (19 + 14 * o + (j - (19 + 14 * i))) else if x = 332 ∧ 19 + 14 * o ≤ j ∧ j < 19 + 14 * o + k then σ.1 332 (19 + 14 * i + (j - (19 + 14 * o))) else σ.1 x j, σ.2)
theorem gI_swW (σ : zS) (i o k x j : Nat) : gI (swW σ i o k) x j = if x = 332 ∧ 19 + 14 * i ≤ j ∧ j < 19 + 14 * i + k then gI σ 332 (19 + 14 * o + (j - (19 + 14 * i))) else if x = 332 ∧ 19 + 14 * o ≤ j ∧ j < 19 + 14 * o + k then gI σ 332 (19 + 14 * i + (j - (19 + 14 * o))) else gI σ x j := rfl
theorem swW_0 (σ : zS) (i o : Nat) : swW σ i o 0 = σ := zS_ext (fun x j => by rw [gI_swW, if_neg (by omega), if_neg (by omega)]) (fun _ _ => rfl) (fun _ _ => rfl)
theorem swW_s (σ : zS) {i o k : Nat} (h : i ≠ o) (hk : k < 14) : sI (sI (swW σ i o k) 332 (19 + 14 * i + k) (gI (swW σ i o k) 332 (19 + 14 * o + k))) 332 (19 + 14 * o + k) (gI (swW σ i o k) 332 (19 + 14 * i + k)) = swW σ i o (k + 1) := by
  have g1 : ∀ z, 19 + 14 * i ≤ z → z < 19 + 14 * i + 14 → ¬ (19 + 14 * o ≤ z ∧ z < 19 + 14 * o + 14) := fun z a b => by
    rcases Nat.lt_or_ge i o with q | q <;> omega
  have a1 := g1 (19 + 14 * i + k) (by omega) (by omega)
  have b1 : ¬ (19 + 14 * i ≤ 19 + 14 * o + k ∧ 19 + 14 * o + k < 19 + 14 * i + 14) := fun z => g1 (19 + 14 * o + k) z.1 z.2 (by omega)
  have eI : gI (swW σ i o k) 332 (19 + 14 * i + k) = gI σ 332 (19 + 14 * i + k) := by rw [gI_swW, if_neg (by omega), if_neg (by omega)]
  have eO : gI (swW σ i o k) 332 (19 + 14 * o + k) = gI σ 332 (19 + 14 * o + k) := by rw [gI_swW, if_neg (by omega), if_neg (by omega)]
  rw [eI, eO]
  refine zS_ext (fun x j => ?_) (fun _ _ => rfl) (fun _ _ => rfl)
  rw [gI_sI, gI_sI, gI_swW, gI_swW]
  by_cases h1 : x = 332 ∧ j = 19 + 14 * o + k
  · rw [if_pos h1, if_neg (by omega), if_pos (by omega)]
    exact congrArg (gI σ 332) (by omega)
  · rw [if_neg h1]
    by_cases h2 : x = 332 ∧ j = 19 + 14 * i + k
    · rw [if_pos h2, if_pos (by omega)]
      exact congrArg (gI σ 332) (by omega)
    · rw [if_neg h2]
      by_cases h3 : x = 332 ∧ 19 + 14 * i ≤ j ∧ j < 19 + 14 * i + k
      · rw [if_pos h3, if_pos (by omega)]
      · rw [if_neg h3, if_neg (show ¬ (x = 332 ∧ 19 + 14 * i ≤ j ∧ j < 19 + 14 * i + (k + 1)) by omega)]
        by_cases h4 : x = 332 ∧ 19 + 14 * o ≤ j ∧ j < 19 + 14 * o + k
        · rw [if_pos h4, if_pos (by omega)]
        · rw [if_neg h4, if_neg (by omega)]
theorem swW_o (σ : zS) (i o k x j : Nat) (h : x ≠ 332) : gI (swW σ i o k) x j = gI σ x j := by rw [gI_swW, if_neg (by omega), if_neg (by omega)]
def sTw (σ : zS) (i o : Nat) : zS := sI (sI (swW σ i o 14) 332 (19 + 14 * i + 1) (zI 0)) 332 (19 + 14 * o + 1) (zI 0)
theorem sTw_x {σ τ : zS} (h : zMx σ τ) (i o : Nat) : zMx σ (sTw τ i o) := fun x j a b c => by unfold sTw; rw [gI_sI, if_neg (by omega), gI_sI, if_neg (by omega), swW_o _ _ _ _ _ _ a]; exact h x j a b c
theorem sTw_f {σ τ : zS} (h : zFr 327 339 σ τ) (i o : Nat) : zFr 327 339 σ (sTw τ i o) := zFr_I (zFr_I ⟨fun x j a => (swW_o _ _ _ _ _ _ (by omega)).trans (h.1 x j a), fun x j a => h.2.1 x j a, fun x j => h.2.2 x j⟩ (by decide)) (by decide)
theorem zRo_swp {σ : zS} {nb : Nat} {S : zST} {i o : Nat} (h : zRo (gI σ 332) nb S) (hk : zRk S) (hi : i < 8) (ho : o < 8) (hio : i ≠ o) : zRo (gI (sTw σ i o) 332) nb (S.swp i o) := by
  obtain ⟨h1, h2, h3, h4, h5⟩ := h
  have hn := hk.1
  have lo : ∀ j, j < 19 → gI (sTw σ i o) 332 j = gI σ 332 j := fun j q => by
    unfold sTw
    rw [gI_sI, if_neg (by omega), gI_sI, if_neg (by omega), gI_swW, if_neg (by omega), if_neg (by omega)]
  have oth : ∀ j x, x < 14 → j ≠ o → j ≠ i → gI (sTw σ i o) 332 (19 + 14 * j + x) = gI σ 332 (19 + 14 * j + x) := fun j x hx q q2 => by
    unfold sTw
    have g := ix14c (i := o) hx q
    have g2 := ix14c (i := i) hx q2
    rw [gI_sI, if_neg (by omega), gI_sI, if_neg (by omega), gI_swW, if_neg (by omega), if_neg (by omega)]
  have owo : ∀ x, x < 14 → x ≠ 1 → gI (sTw σ i o) 332 (19 + 14 * o + x) = gI σ 332 (19 + 14 * i + x) := fun x hx q => by
    unfold sTw
    have g := ix14c (i := i) hx (fun z => hio z.symm)
    rw [gI_sI, if_neg (by omega), gI_sI, if_neg (by omega), gI_swW, if_neg (by omega), if_pos (by omega)]
    exact congrArg (gI σ 332) (by omega)
  have owi : ∀ x, x < 14 → x ≠ 1 → gI (sTw σ i o) 332 (19 + 14 * i + x) = gI σ 332 (19 + 14 * o + x) := fun x hx q => by
    unfold sTw
    have g := ix14c (i := o) hx hio
    rw [gI_sI, if_neg (by omega), gI_sI, if_neg (by omega), gI_swW, if_pos (by omega)]
    exact congrArg (gI σ 332) (by omega)
  refine ⟨(lo 0 (by omega)).trans h1, fun q hq => (lo _ (by have : q < S.n := hq; omega)).trans (h2 q hq), (lo 17 (by omega)).trans h3, (lo 18 (by omega)).trans h4, fun j hj => ?_⟩
  obtain ⟨a1, a2, a3⟩ := h5 j hj
  obtain ⟨b1, b2, b3⟩ := h5 i hi
  obtain ⟨c1, c2, c3⟩ := h5 o ho
  have htj : (S.swp i o).tn j = if j = o then S.tn i else if j = i then S.tn o else S.tn j := rfl
  have hrj : (S.swp i o).tr j = if j = o then S.tr i else if j = i then S.tr o else S.tr j := rfl
  have hlj : (S.swp i o).lg j = if j = o then 0 else if j = i then 0 else S.lg j := rfl
  have hki := hk.2 i hi
  have hko := hk.2 o ho
  have hkj := hk.2 j hj
  rw [htj, hrj, hlj]
  by_cases z : j = o
  · subst z
    rw [if_pos rfl, if_pos rfl, if_pos rfl]
    refine ⟨(owo 0 (by omega) (by omega)).trans b1, fun _ => ?_, fun p w hp hw => ?_⟩
    · unfold sTw
      rw [gI_sI, if_pos (by omega)]
    · have e := owo (2 + 3 * p + w) (by omega) (by omega)
      rw [show 19 + 14 * j + (2 + 3 * p + w) = 21 + 14 * j + 3 * p + w by omega, show 19 + 14 * i + (2 + 3 * p + w) = 21 + 14 * i + 3 * p + w by omega] at e
      exact e.trans (b3 p w hp hw)
  · rw [if_neg z, if_neg z, if_neg z]
    by_cases y : j = i
    · subst y
      rw [if_pos rfl, if_pos rfl, if_pos rfl]
      refine ⟨(owi 0 (by omega) (by omega)).trans c1, fun _ => ?_, fun p w hp hw => ?_⟩
      · unfold sTw
        rw [gI_sI, if_neg (by omega), gI_sI, if_pos (by omega)]
      · have e := owi (2 + 3 * p + w) (by omega) (by omega)
        rw [show 19 + 14 * j + (2 + 3 * p + w) = 21 + 14 * j + 3 * p + w by omega, show 19 + 14 * o + (2 + 3 * p + w) = 21 + 14 * o + 3 * p + w by omega] at e
        exact e.trans (c3 p w hp hw)
    · rw [if_neg y, if_neg y, if_neg y]
      refine ⟨(oth j 0 (by omega) z y).trans a1, fun hb => ?_, fun p w hp hw => ?_⟩
      · have e := oth j 1 (by omega) z y
        rw [show 19 + 14 * j + 1 = 20 + 14 * j by omega] at e
        exact e.trans (a2 hb)
      · have e := oth j (2 + 3 * p + w) (by omega) z y
        rw [show 19 + 14 * j + (2 + 3 * p + w) = 21 + 14 * j + 3 * p + w by omega] at e
        exact e.trans (a3 p w hp hw)
theorem zRk_swp {S : zST} (h : zRk S) {i o : Nat} (hi : i < 8) (ho : o < 8) : zRk (S.swp i o) := ⟨h.1, fun j hj => by
  show (if j = o then S.tn i else if j = i then S.tn o else S.tn j) ≤ 4
  split
  · exact h.2 i hi
  · split
    · exact h.2 o ho
    · exact h.2 j hj⟩
set_option maxRecDepth 20000 in
theorem c_X11_swapTrains {l : Launch} (hfl : l.stackTraces = false) (E : zE) (σ : zS) (σc : zS) (ni : Nat) (tx : Nat → Int) (ec : Nat) (eo : Int) (U : zSU) (S : zST) (hh : List zST) (kp : Option zST) (ou : List Nat) (i o : Nat) (h : zMP σ (zDv.mk ni tx ec eo U S hh kp ou)) (hU : zSUp σc 29 U) (hS : zSTp σc 34 S) (hi : i < U.nb) (ho : o < U.nb) (hio : i ≠ o) : zRi l E yX11_swapTrains cX11_swapTrains 5 .int (zrm 3 68) [.ref (ob E 327), .int (zI (i : Int)), .int (zI (o : Int))] σ (fun r τ => r = zI (S.tn o : Int) ∧ mH σ τ ((zDv.mk ni tx ec eo U S hh kp ou).re.sS (S.swp i o))) := by
  refine Met.ofW (cc := cX11_swapTrains) (maxL := 5) (ret := (some .int)) (by decide +kernel) rfl ?_
  intro p e s m args below meth c s₁ B hml hv
  obtain ⟨rfl, hd⟩ := hv
  have C := zX_of (own := RX11) hfl B hml rfl hd rfl
  have hr := B.returns
  refine zV_go hd (Nat.le_of_ble_eq_true rfl) (lv := [(0, .ref (ob E 327)), (1, .int (zI (i : Int))), (2, .int (zI (o : Int)))]) rfl ?_
  have hnb : U.nb ≤ 8 := hU.2.2.1
  have hs0 := hU.2.2.2.1
  have hB : zRb (gI σ 328) U := h.2.2.1
  have hW : zRo (gI σ 332) U.nb S := h.2.2.2.2.1.1
  have hk9 : zRk S := h.2.2.2.2.1.2
  have h0 : zMP (thW σ 0) (zDv.mk ni tx ec eo U S hh kp ou) := zMP_q h (mK_th σ 0).1
  have hi8 : i < 8 := by omega
  have ho8 : o < 8 := by omega
  
  refine zv_aload_n C 0 dX11_swapTrains_0 rfl rfl ?_
  refine zv_iload_n C 1 dX11_swapTrains_1 rfl rfl ?_
  refine zv_iload_n C 2 dX11_swapTrains_2 rfl rfl ?_
  refine zv_cviD (st := []) C (c_X11_noTwo hfl E σ σc U (i : Int) (o : Int) hB hU (by omega) (by omega) (by omega)) mX11_noTwo kX11_422 (by decide : kd 327 = 10) rfl rfl rfl ⟨rfl, rfl⟩ (show zfit (zrm 2 46) 3 (zrm 3 68) = true from rfl) (Nat.le_of_ble_eq_true rfl) dX11_swapTrains_3 ⟨Nat.zero_le _, Nat.zero_le _⟩ ?_
  refine zv_if_eqZ (tgt := 11) C (by omega) dX11_swapTrains_6 (by decide) (fun h6 => ?_) (fun h6 => absurd h6 (by decide))
  refine zv_aload_n C 0 dX11_swapTrains_11 rfl rfl ?_
  refine zv_cvv (st := []) C (c_X11_remembers hfl E (thW σ 0) (zDv.mk ni tx ec eo U S hh kp ou) h0) mX11_remembers kX11_392 (by decide : kd 327 = 10) rfl rfl rfl ⟨rfl, rfl⟩ (show zfit (zrm 1 25) 1 (zrm 3 68) = true from rfl) (Nat.le_of_ble_eq_true rfl) dX11_swapTrains_12 ⟨Nat.zero_le _, Nat.zero_le _⟩ (fun τ1 hp12 => ?_)
  obtain ⟨hz1, hz2, hz3, hz4⟩ := hp12
  have hW1 : zRo (gI τ1 332) U.nb S := by rw [hz4]; exact hW
  have hB1 : zRb (gI τ1 328) U := hz1.2.2.1
  have ht1 : gI τ1 327 10 = zI 0 := hz2.trans (mK_th σ 0).2
  have hf1 : zFr 327 339 σ τ1 := zFr_trans (zFr_th σ 0) hz3
  refine zv_iconst (v := zI 0) C dX11_swapTrains_15 rfl ?_
  refine zv_istore_n (lv' := [(3, .int (zI 0)), (0, .ref (ob E 327)), (1, .int (zI (i : Int))), (2, .int (zI (o : Int)))]) C dX11_swapTrains_16 rfl (by decide) rfl ?_
  have q17_23 : (0 : Int) = (0 : Int) := by first | rfl | omega
  refine zv_sub (lv' := [(0, .ref (ob E 327)), (1, .int (zI (i : Int))), (2, .int (zI (o : Int))), (3, .int (zI (0 : Int)))]) [1, 2, 3, 0] (zcons rfl (zcons rfl (zcons rfl (zcons (zqI q17_23) rfl)))) ?_
  refine zv_eqS (τ := (swW τ1 i o 0)) ((swW_0 _ _ _).symm) ?_
  refine zv_while (α := Nat) (fun v => 14 - v) (fun v => v ≤ 14) (fun v => (swW τ1 i o v)) (fun v => [(0, .ref (ob E 327)), (1, .int (zI (i : Int))), (2, .int (zI (o : Int))), (3, .int (zI (v : Int)))]) (fun v => []) (fun j hI ih => ?_) (0) (by omega)
  refine zv_iload_n C 3 dX11_swapTrains_17 rfl rfl ?_
  refine zv_bipush (v := zI 14) C dX11_swapTrains_18 (by decide) ?_
  refine zv_icmp_geZ (tgt := 73) C (by omega) (by omega) dX11_swapTrains_20 (by decide) (fun h20 => ?_) (fun h20 => ?_)
  · skip
    refine zv_eqS (τ := (swW τ1 i o 14)) (by rw [show j = 14 by omega]) ?_
    refine zv_aload_n C 0 dX11_swapTrains_73 rfl rfl ?_
    refine zv_iload_n C 1 dX11_swapTrains_74 rfl rfl ?_
    refine zv_cvvD (st := []) C (c_X11_frees hfl E (swW τ1 i o 14) i (by omega)) mX11_frees kX11_395 (by decide : kd 327 = 10) rfl rfl rfl ⟨rfl, rfl⟩ (show zfit (zrm 1 21) 2 (zrm 3 68) = true from rfl) (Nat.le_of_ble_eq_true rfl) dX11_swapTrains_75 ⟨Nat.zero_le _, Nat.zero_le _⟩ ?_
    refine zv_aload_n C 0 dX11_swapTrains_78 rfl rfl ?_
    refine zv_iload_n C 2 dX11_swapTrains_79 rfl rfl ?_
    refine zv_cvvD (st := []) C (c_X11_frees hfl E (sI (swW τ1 i o 14) 332 (19 + 14 * i + 1) (zI 0)) o (by omega)) mX11_frees kX11_395 (by decide : kd 327 = 10) rfl rfl rfl ⟨rfl, rfl⟩ (show zfit (zrm 1 21) 2 (zrm 3 68) = true from rfl) (Nat.le_of_ble_eq_true rfl) dX11_swapTrains_80 ⟨Nat.zero_le _, Nat.zero_le _⟩ ?_
    refine zv_aload_n C 0 dX11_swapTrains_83 rfl rfl ?_
    refine zv_iload_n C 1 dX11_swapTrains_84 rfl rfl ?_
    refine zv_cviD (st := []) C (c_X11_parts hfl E (sI (sI (swW τ1 i o 14) 332 (19 + 14 * i + 1) (zI 0)) 332 (19 + 14 * o + 1) (zI 0)) U.nb (S.swp i o) i (zRo_swp hW1 hk9 hi8 ho8 hio) hi8) mX11_parts kX11_188 (by decide : kd 327 = 10) rfl rfl rfl ⟨rfl, rfl⟩ (show zfit (zrm 1 21) 2 (zrm 3 68) = true from rfl) (Nat.le_of_ble_eq_true rfl) dX11_swapTrains_85 ⟨Nat.zero_le _, Nat.zero_le _⟩ ?_
    refine zv_eqi (y := (zI (S.tn o : Int))) (congrArg zI (by show ((if i = o then S.tn i else if i = i then S.tn o else S.tn i : Nat) : Int) = _; rw [if_neg hio, if_pos rfl])) ?_
    exact zv_iret C hr rfl dX11_swapTrains_88 ⟨rfl, zMP_x hz1 (zRo_swp hW1 hk9 hi8 ho8 hio) (zRk_swp hk9 hi8 ho8) (sTw_x (zMx_r _) i o), (show gI (sTw τ1 i o) 327 10 = zI 0 by unfold sTw; rw [gI_sI, if_neg (by omega), gI_sI, if_neg (by omega), swW_o _ _ _ _ _ _ (by decide)]; exact ht1), sTw_f hf1 i o⟩
  · skip
    refine zv_aload_n C 0 dX11_swapTrains_23 rfl rfl ?_
    refine zG10_4 C (by decide : kd 327 = _) kX11_22 dX11_swapTrains_24 ?_
    refine zv_iload_n C 1 dX11_swapTrains_27 rfl rfl ?_
    refine zv_iload_n C 3 dX11_swapTrains_28 rfl rfl ?_
    refine zv_csiD (st := [.ref (ob E 332)]) C (c_X11_trainAt hfl E (swW τ1 i o j) i (j) (by omega) (by omega)) mX11_trainAt kX11_53 rfl ⟨rfl, rfl⟩ (show zfit (zrm 0 0) 2 (zrm 3 68) = true from rfl) (Nat.le_of_ble_eq_true rfl) dX11_swapTrains_29 ⟨Nat.zero_le _, Nat.zero_le _⟩ ?_
    refine zv_iald (j := 19 + 14 * i + (j)) C (by decide : kd 332 = _) (zI_ix rfl) (Nat.lt_of_lt_of_eq (show 19 + 14 * i + (j) < 131 by omega) (by decide)) dX11_swapTrains_32 ?_
    refine zv_istore (lv' := [(4, .int (gI (swW τ1 i o j) 332 (19 + 14 * i + (j)))), (0, .ref (ob E 327)), (1, .int (zI (i : Int))), (2, .int (zI (o : Int))), (3, .int (zI (j : Int)))]) C dX11_swapTrains_33  (by decide) rfl ?_
    refine zv_aload_n C 1 dX11_swapTrains_35 rfl rfl ?_
    refine zG10_4 C (by decide : kd 327 = _) kX11_22 dX11_swapTrains_36 ?_
    refine zv_iload_n C 2 dX11_swapTrains_39 rfl rfl ?_
    refine zv_iload_n C 4 dX11_swapTrains_40 rfl rfl ?_
    refine zv_csiD (st := [.ref (ob E 332)]) C (c_X11_trainAt hfl E (swW τ1 i o j) i (j) (by omega) (by omega)) mX11_trainAt kX11_53 rfl ⟨rfl, rfl⟩ (show zfit (zrm 0 0) 2 (zrm 3 68) = true from rfl) (Nat.le_of_ble_eq_true rfl) dX11_swapTrains_41 ⟨Nat.zero_le _, Nat.zero_le _⟩ ?_
    refine zv_aload_n C 1 dX11_swapTrains_44 rfl rfl ?_
    refine zG10_4 C (by decide : kd 327 = _) kX11_22 dX11_swapTrains_45 ?_
    refine zv_iload_n C 3 dX11_swapTrains_48 rfl rfl ?_
    refine zv_iload_n C 4 dX11_swapTrains_49 rfl rfl ?_
    refine zv_csiD (st := [.ref (ob E 332), .int (zI ((19 + 14 * i + (j) : Nat) : Int)), .ref (ob E 332)]) C (c_X11_trainAt hfl E (swW τ1 i o j) o (j) (by omega) (by omega)) mX11_trainAt kX11_53 rfl ⟨rfl, rfl⟩ (show zfit (zrm 0 0) 2 (zrm 3 68) = true from rfl) (Nat.le_of_ble_eq_true rfl) dX11_swapTrains_50 ⟨Nat.zero_le _, Nat.zero_le _⟩ ?_
    refine zv_iald (j := 19 + 14 * o + (j)) C (by decide : kd 332 = _) (zI_ix rfl) (Nat.lt_of_lt_of_eq (show 19 + 14 * o + (j) < 131 by omega) (by decide)) dX11_swapTrains_53 ?_
    refine zv_iast (j := 19 + 14 * i + (j)) C (by decide : kd 332 = _) (zI_ix rfl) (Nat.lt_of_lt_of_eq (show 19 + 14 * i + (j) < 131 by omega) (by decide)) dX11_swapTrains_54 ?_
    refine zv_aload_n C 1 dX11_swapTrains_55 rfl rfl ?_
    refine zG10_4 C (by decide : kd 327 = _) kX11_22 dX11_swapTrains_56 ?_
    refine zv_iload_n C 3 dX11_swapTrains_59 rfl rfl ?_
    refine zv_iload_n C 4 dX11_swapTrains_60 rfl rfl ?_
    refine zv_csiD (st := [.ref (ob E 332)]) C (c_X11_trainAt hfl E (sI (swW τ1 i o j) 332 (19 + 14 * i + (j)) (gI (swW τ1 i o j) 332 (19 + 14 * o + (j)))) o (j) (by omega) (by omega)) mX11_trainAt kX11_53 rfl ⟨rfl, rfl⟩ (show zfit (zrm 0 0) 2 (zrm 3 68) = true from rfl) (Nat.le_of_ble_eq_true rfl) dX11_swapTrains_61 ⟨Nat.zero_le _, Nat.zero_le _⟩ ?_
    refine zv_iload C 0 dX11_swapTrains_64 rfl ?_
    refine zv_iast (j := 19 + 14 * o + (j)) C (by decide : kd 332 = _) (zI_ix rfl) (Nat.lt_of_lt_of_eq (show 19 + 14 * o + (j) < 131 by omega) (by decide)) dX11_swapTrains_66 ?_
    refine zv_iinc (v := (zI ((j : Int) + 1))) (lv' := [(3, .int (zI ((j : Int) + 1))), (4, .int (gI (swW τ1 i o j) 332 (19 + 14 * i + (j)))), (0, .ref (ob E 327)), (1, .int (zI (i : Int))), (2, .int (zI (o : Int)))]) C 4 dX11_swapTrains_67 rfl (zI_add _ _) (by decide) rfl ?_
    refine zv_goto (tgt := 17) C dX11_swapTrains_70 (by decide) ?_
    have q17_72 : ((j : Int) + 1 : Int) = ((j + 1 : Nat) : Int) := by first | rfl | omega
    refine zv_sub (lv' := [(0, .ref (ob E 327)), (1, .int (zI (i : Int))), (2, .int (zI (o : Int))), (3, .int (zI ((j + 1 : Nat) : Int)))]) [2, 3, 4, 0] (zcons rfl (zcons rfl (zcons rfl (zcons (zqI q17_72) rfl)))) ?_
    refine zv_eqS (τ := (swW τ1 i o (j + 1))) (swW_s _ hio (by omega)) ?_
    exact ih (j + 1) (by omega) (by omega)
set_option maxRecDepth 20000 in
theorem x1_X11_copyTrain {l : Launch} (hfl : l.stackTraces = false) (E : zE) (σ : zS) (σc : zS) (U : zSU) (y z : Int) (hB : zRb (gI σ 328) U) (hU : zSUp σc 29 U) (hy : -2147483648 ≤ y ∧ y < 2147483648) (hzi : -2147483648 ≤ z ∧ z < 2147483648) (hno : ¬ (0 ≤ y ∧ y < U.nb)) : zRi l E yX11_copyTrain cX11_copyTrain 3 .int (zrm 3 68) [.ref (ob E 327), .int (zI y), .int (zI z)] σ (fun r τ => r = zI 0 ∧ mK σ τ 1) := by
  refine Met.ofW (cc := cX11_copyTrain) (maxL := 3) (ret := (some .int)) (by decide +kernel) rfl ?_
  intro p e s m args below meth c s₁ B hml hv
  obtain ⟨rfl, hd⟩ := hv
  have C := zX_of (own := RX11) hfl B hml rfl hd rfl
  have hr := B.returns
  refine zV_go hd (Nat.le_of_ble_eq_true rfl) (lv := [(0, .ref (ob E 327)), (1, .int (zI y)), (2, .int (zI z))]) rfl ?_
  have hnb : U.nb ≤ 8 := hU.2.2.1
  have hs0 := hU.2.2.2.1
  
  refine zv_aload_n C 0 dX11_copyTrain_0 rfl rfl ?_
  refine zv_iload_n C 1 dX11_copyTrain_1 rfl rfl ?_
  refine zv_iload_n C 2 dX11_copyTrain_2 rfl rfl ?_
  refine zv_cvi (st := []) C (x1_X11_noTwo hfl E σ σc U y z hB hU hy hzi hno) mX11_noTwo kX11_422 (by decide : kd 327 = 10) rfl rfl rfl ⟨rfl, rfl⟩ (show zfit (zrm 2 46) 3 (zrm 3 68) = true from rfl) (Nat.le_of_ble_eq_true rfl) dX11_copyTrain_3 ⟨Nat.zero_le _, Nat.zero_le _⟩ (fun r3 τ3 hp3 => ?_)
  obtain ⟨he3, hm3⟩ := hp3
  refine zv_eqi (y := zI 1) he3 ?_
  refine zv_if_eqZ (tgt := 11) C (by omega) dX11_copyTrain_6 (by decide) (fun h6 => absurd h6 (by decide)) (fun h6 => ?_)
  refine zv_iconst (v := zI 0) C dX11_copyTrain_9 rfl ?_
  exact zv_iret C hr rfl dX11_copyTrain_10 ⟨rfl, hm3⟩
set_option maxRecDepth 20000 in
theorem x2_X11_copyTrain {l : Launch} (hfl : l.stackTraces = false) (E : zE) (σ : zS) (σc : zS) (U : zSU) (z y : Int) (hB : zRb (gI σ 328) U) (hU : zSUp σc 29 U) (hz : 0 ≤ z ∧ z < U.nb) (hy : -2147483648 ≤ y ∧ y < 2147483648) (hno : ¬ (0 ≤ y ∧ y < U.nb)) : zRi l E yX11_copyTrain cX11_copyTrain 3 .int (zrm 3 68) [.ref (ob E 327), .int (zI z), .int (zI y)] σ (fun r τ => r = zI 0 ∧ mK σ τ 1) := by
  refine Met.ofW (cc := cX11_copyTrain) (maxL := 3) (ret := (some .int)) (by decide +kernel) rfl ?_
  intro p e s m args below meth c s₁ B hml hv
  obtain ⟨rfl, hd⟩ := hv
  have C := zX_of (own := RX11) hfl B hml rfl hd rfl
  have hr := B.returns
  refine zV_go hd (Nat.le_of_ble_eq_true rfl) (lv := [(0, .ref (ob E 327)), (1, .int (zI z)), (2, .int (zI y))]) rfl ?_
  have hnb : U.nb ≤ 8 := hU.2.2.1
  have hs0 := hU.2.2.2.1
  
  refine zv_aload_n C 0 dX11_copyTrain_0 rfl rfl ?_
  refine zv_iload_n C 1 dX11_copyTrain_1 rfl rfl ?_
  refine zv_iload_n C 2 dX11_copyTrain_2 rfl rfl ?_
  refine zv_cvi (st := []) C (x2_X11_noTwo hfl E σ σc U z y hB hU hz hy hno) mX11_noTwo kX11_422 (by decide : kd 327 = 10) rfl rfl rfl ⟨rfl, rfl⟩ (show zfit (zrm 2 46) 3 (zrm 3 68) = true from rfl) (Nat.le_of_ble_eq_true rfl) dX11_copyTrain_3 ⟨Nat.zero_le _, Nat.zero_le _⟩ (fun r3 τ3 hp3 => ?_)
  obtain ⟨he3, hm3⟩ := hp3
  refine zv_eqi (y := zI 1) he3 ?_
  refine zv_if_eqZ (tgt := 11) C (by omega) dX11_copyTrain_6 (by decide) (fun h6 => absurd h6 (by decide)) (fun h6 => ?_)
  refine zv_iconst (v := zI 0) C dX11_copyTrain_9 rfl ?_
  exact zv_iret C hr rfl dX11_copyTrain_10 ⟨rfl, hm3⟩
set_option maxRecDepth 20000 in
theorem x3_X11_copyTrain {l : Launch} (hfl : l.stackTraces = false) (E : zE) (σ : zS) (σc : zS) (U : zSU) (y : Int) (hB : zRb (gI σ 328) U) (hU : zSUp σc 29 U) (hy : 0 ≤ y ∧ y < U.nb) : zRi l E yX11_copyTrain cX11_copyTrain 3 .int (zrm 3 68) [.ref (ob E 327), .int (zI y), .int (zI y)] σ (fun r τ => r = zI 0 ∧ mK σ τ 2) := by
  refine Met.ofW (cc := cX11_copyTrain) (maxL := 3) (ret := (some .int)) (by decide +kernel) rfl ?_
  intro p e s m args below meth c s₁ B hml hv
  obtain ⟨rfl, hd⟩ := hv
  have C := zX_of (own := RX11) hfl B hml rfl hd rfl
  have hr := B.returns
  refine zV_go hd (Nat.le_of_ble_eq_true rfl) (lv := [(0, .ref (ob E 327)), (1, .int (zI y)), (2, .int (zI y))]) rfl ?_
  have hnb : U.nb ≤ 8 := hU.2.2.1
  have hs0 := hU.2.2.2.1
  
  refine zv_aload_n C 0 dX11_copyTrain_0 rfl rfl ?_
  refine zv_iload_n C 1 dX11_copyTrain_1 rfl rfl ?_
  refine zv_iload_n C 2 dX11_copyTrain_2 rfl rfl ?_
  refine zv_cvi (st := []) C (x3_X11_noTwo hfl E σ σc U y hB hU hy) mX11_noTwo kX11_422 (by decide : kd 327 = 10) rfl rfl rfl ⟨rfl, rfl⟩ (show zfit (zrm 2 46) 3 (zrm 3 68) = true from rfl) (Nat.le_of_ble_eq_true rfl) dX11_copyTrain_3 ⟨Nat.zero_le _, Nat.zero_le _⟩ (fun r3 τ3 hp3 => ?_)
  obtain ⟨he3, hm3⟩ := hp3
  refine zv_eqi (y := zI 1) he3 ?_
  refine zv_if_eqZ (tgt := 11) C (by omega) dX11_copyTrain_6 (by decide) (fun h6 => absurd h6 (by decide)) (fun h6 => ?_)
  refine zv_iconst (v := zI 0) C dX11_copyTrain_9 rfl ?_
  exact zv_iret C hr rfl dX11_copyTrain_10 ⟨rfl, hm3⟩
set_option maxRecDepth 20000 in
theorem x1_X11_swapTrains {l : Launch} (hfl : l.stackTraces = false) (E : zE) (σ : zS) (σc : zS) (U : zSU) (y z : Int) (hB : zRb (gI σ 328) U) (hU : zSUp σc 29 U) (hy : -2147483648 ≤ y ∧ y < 2147483648) (hzi : -2147483648 ≤ z ∧ z < 2147483648) (hno : ¬ (0 ≤ y ∧ y < U.nb)) : zRi l E yX11_swapTrains cX11_swapTrains 5 .int (zrm 3 68) [.ref (ob E 327), .int (zI y), .int (zI z)] σ (fun r τ => r = zI 0 ∧ mK σ τ 1) := by
  refine Met.ofW (cc := cX11_swapTrains) (maxL := 5) (ret := (some .int)) (by decide +kernel) rfl ?_
  intro p e s m args below meth c s₁ B hml hv
  obtain ⟨rfl, hd⟩ := hv
  have C := zX_of (own := RX11) hfl B hml rfl hd rfl
  have hr := B.returns
  refine zV_go hd (Nat.le_of_ble_eq_true rfl) (lv := [(0, .ref (ob E 327)), (1, .int (zI y)), (2, .int (zI z))]) rfl ?_
  have hnb : U.nb ≤ 8 := hU.2.2.1
  have hs0 := hU.2.2.2.1
  
  refine zv_aload_n C 0 dX11_swapTrains_0 rfl rfl ?_
  refine zv_iload_n C 1 dX11_swapTrains_1 rfl rfl ?_
  refine zv_iload_n C 2 dX11_swapTrains_2 rfl rfl ?_
  refine zv_cvi (st := []) C (x1_X11_noTwo hfl E σ σc U y z hB hU hy hzi hno) mX11_noTwo kX11_422 (by decide : kd 327 = 10) rfl rfl rfl ⟨rfl, rfl⟩ (show zfit (zrm 2 46) 3 (zrm 3 68) = true from rfl) (Nat.le_of_ble_eq_true rfl) dX11_swapTrains_3 ⟨Nat.zero_le _, Nat.zero_le _⟩ (fun r3 τ3 hp3 => ?_)
  obtain ⟨he3, hm3⟩ := hp3
  refine zv_eqi (y := zI 1) he3 ?_
  refine zv_if_eqZ (tgt := 11) C (by omega) dX11_swapTrains_6 (by decide) (fun h6 => absurd h6 (by decide)) (fun h6 => ?_)
  refine zv_iconst (v := zI 0) C dX11_swapTrains_9 rfl ?_
  exact zv_iret C hr rfl dX11_swapTrains_10 ⟨rfl, hm3⟩
set_option maxRecDepth 20000 in
theorem x2_X11_swapTrains {l : Launch} (hfl : l.stackTraces = false) (E : zE) (σ : zS) (σc : zS) (U : zSU) (z y : Int) (hB : zRb (gI σ 328) U) (hU : zSUp σc 29 U) (hz : 0 ≤ z ∧ z < U.nb) (hy : -2147483648 ≤ y ∧ y < 2147483648) (hno : ¬ (0 ≤ y ∧ y < U.nb)) : zRi l E yX11_swapTrains cX11_swapTrains 5 .int (zrm 3 68) [.ref (ob E 327), .int (zI z), .int (zI y)] σ (fun r τ => r = zI 0 ∧ mK σ τ 1) := by
  refine Met.ofW (cc := cX11_swapTrains) (maxL := 5) (ret := (some .int)) (by decide +kernel) rfl ?_
  intro p e s m args below meth c s₁ B hml hv
  obtain ⟨rfl, hd⟩ := hv
  have C := zX_of (own := RX11) hfl B hml rfl hd rfl
  have hr := B.returns
  refine zV_go hd (Nat.le_of_ble_eq_true rfl) (lv := [(0, .ref (ob E 327)), (1, .int (zI z)), (2, .int (zI y))]) rfl ?_
  have hnb : U.nb ≤ 8 := hU.2.2.1
  have hs0 := hU.2.2.2.1
  
  refine zv_aload_n C 0 dX11_swapTrains_0 rfl rfl ?_
  refine zv_iload_n C 1 dX11_swapTrains_1 rfl rfl ?_
  refine zv_iload_n C 2 dX11_swapTrains_2 rfl rfl ?_
  refine zv_cvi (st := []) C (x2_X11_noTwo hfl E σ σc U z y hB hU hz hy hno) mX11_noTwo kX11_422 (by decide : kd 327 = 10) rfl rfl rfl ⟨rfl, rfl⟩ (show zfit (zrm 2 46) 3 (zrm 3 68) = true from rfl) (Nat.le_of_ble_eq_true rfl) dX11_swapTrains_3 ⟨Nat.zero_le _, Nat.zero_le _⟩ (fun r3 τ3 hp3 => ?_)
  obtain ⟨he3, hm3⟩ := hp3
  refine zv_eqi (y := zI 1) he3 ?_
  refine zv_if_eqZ (tgt := 11) C (by omega) dX11_swapTrains_6 (by decide) (fun h6 => absurd h6 (by decide)) (fun h6 => ?_)
  refine zv_iconst (v := zI 0) C dX11_swapTrains_9 rfl ?_
  exact zv_iret C hr rfl dX11_swapTrains_10 ⟨rfl, hm3⟩
set_option maxRecDepth 20000 in
theorem x3_X11_swapTrains {l : Launch} (hfl : l.stackTraces = false) (E : zE) (σ : zS) (σc : zS) (U : zSU) (y : Int) (hB : zRb (gI σ 328) U) (hU : zSUp σc 29 U) (hy : 0 ≤ y ∧ y < U.nb) : zRi l E yX11_swapTrains cX11_swapTrains 5 .int (zrm 3 68) [.ref (ob E 327), .int (zI y), .int (zI y)] σ (fun r τ => r = zI 0 ∧ mK σ τ 2) := by
  refine Met.ofW (cc := cX11_swapTrains) (maxL := 5) (ret := (some .int)) (by decide +kernel) rfl ?_
  intro p e s m args below meth c s₁ B hml hv
  obtain ⟨rfl, hd⟩ := hv
  have C := zX_of (own := RX11) hfl B hml rfl hd rfl
  have hr := B.returns
  refine zV_go hd (Nat.le_of_ble_eq_true rfl) (lv := [(0, .ref (ob E 327)), (1, .int (zI y)), (2, .int (zI y))]) rfl ?_
  have hnb : U.nb ≤ 8 := hU.2.2.1
  have hs0 := hU.2.2.2.1
  
  refine zv_aload_n C 0 dX11_swapTrains_0 rfl rfl ?_
  refine zv_iload_n C 1 dX11_swapTrains_1 rfl rfl ?_
  refine zv_iload_n C 2 dX11_swapTrains_2 rfl rfl ?_
  refine zv_cvi (st := []) C (x3_X11_noTwo hfl E σ σc U y hB hU hy) mX11_noTwo kX11_422 (by decide : kd 327 = 10) rfl rfl rfl ⟨rfl, rfl⟩ (show zfit (zrm 2 46) 3 (zrm 3 68) = true from rfl) (Nat.le_of_ble_eq_true rfl) dX11_swapTrains_3 ⟨Nat.zero_le _, Nat.zero_le _⟩ (fun r3 τ3 hp3 => ?_)
  obtain ⟨he3, hm3⟩ := hp3
  refine zv_eqi (y := zI 1) he3 ?_
  refine zv_if_eqZ (tgt := 11) C (by omega) dX11_swapTrains_6 (by decide) (fun h6 => absurd h6 (by decide)) (fun h6 => ?_)
  refine zv_iconst (v := zI 0) C dX11_swapTrains_9 rfl ?_
  exact zv_iret C hr rfl dX11_swapTrains_10 ⟨rfl, hm3⟩
