/-! the crank, in the reference -/
def lgw (σ : zS) (g : Nat → Int) : zS := (fun x y => if x = 36 then zI (g y) else σ.1 x y, σ.2)
theorem gI_lgw (σ : zS) (g : Nat → Int) (x y : Nat) : gI (lgw σ g) x y = if x = 36 then zI (g y) else gI σ x y := rfl
theorem zSUp_lgw {σ : zS} {U : zSU} (h : zSUp σ 29 U) (g : Nat → Int) : zSUp (lgw σ g) 29 U := zSUp_w h (fun x y a b => ⟨by rw [gI_lgw, if_neg (by omega)], rfl⟩)
theorem zSTp_lgw {σ : zS} {S : zST} (h : zSTp σ 34 S) (g : Nat → Int) : zSTp (lgw σ g) 34 (zST.mk S.n S.f S.sl S.dy g S.tn S.tr) := by
  have e : ∀ x y, x ≠ 36 → gI (lgw σ g) x y = gI σ x y := fun x y q => by rw [gI_lgw, if_neg q]
  obtain ⟨h1, h2, h3, h4, h5, h6, h7⟩ := h
  refine ⟨zStk_w h1 (fun x y a b => e x y (by omega)), h2, h3, ⟨(e _ _ (by omega)).trans h4.1, h4.2⟩, (e _ _ (by omega)).trans h5, fun i hi => ?_, fun j hj => ⟨zTr_w (h7 j hj).1 (fun x y a b => e x y (by omega)), (h7 j hj).2⟩⟩
  rw [gI_lgw, if_pos rfl]
  rfl
theorem zRo_lgs {σ : zS} {nb j : Nat} {d : Int} {U : zSU} {S : zST} (h : zRo (gI σ 332) nb (S.lgs U d j)) (hk : zRk S) (hj : j < 8) : zRo (gI (sI σ 332 (19 + 14 * j + 1) (zI (dLag U S d j))) 332) nb (S.lgs U d (j + 1)) := by
  obtain ⟨h1, h2, h3, h4, h5⟩ := h
  have hn := hk.1
  have o : ∀ x, x ≠ 20 + 14 * j → gI (sI σ 332 (19 + 14 * j + 1) (zI (dLag U S d j))) 332 x = gI σ 332 x := fun x q => by rw [gI_sI, if_neg (by omega)]
  refine ⟨(o 0 (by omega)).trans h1, fun q hq => (o _ (by have : q < S.n := hq; omega)).trans (h2 q hq), (o 17 (by omega)).trans h3, (o 18 (by omega)).trans h4, fun x hx => ?_⟩
  obtain ⟨a1, a2, a3⟩ := h5 x hx
  have ht4 := hk.2 x hx
  refine ⟨(o _ (by omega)).trans a1, fun hb => ?_, fun p w hp hw => ?_⟩
  · have e1 : (S.lgs U d (j + 1)).lg x = if x < j + 1 then dLag U S d x else S.lg x := rfl
    have e2 : (S.lgs U d j).lg x = if x < j then dLag U S d x else S.lg x := rfl
    rw [e1]
    by_cases z : x = j
    · subst z
      rw [if_pos (by omega), gI_sI, if_pos (by omega)]
    · rw [o _ (by omega), a2 hb, e2]
      by_cases y : x < j
      · rw [if_pos y, if_pos (by omega)]
      · rw [if_neg y, if_neg (by omega)]
  · exact (o _ (ix14 (show p < S.tn x from hp) ht4 hw).2).trans (a3 p w hp hw)
theorem zRo_crk {σ : zS} {d : Nat} {U : zSU} {S : zST} (h : zRo (gI σ 332) U.nb (S.lgs U (d : Int) U.nb)) (hk : zRk S) : zRo (gI (sI σ 332 18 (zI (d : Int))) 332) U.nb (S.crk U d) := by
  obtain ⟨h1, h2, h3, h4, h5⟩ := h
  have hn := hk.1
  have o : ∀ x, x ≠ 18 → gI (sI σ 332 18 (zI (d : Int))) 332 x = gI σ 332 x := fun x q => by rw [gI_sI, if_neg (by omega)]
  refine ⟨(o 0 (by omega)).trans h1, fun q hq => (o _ (by have : q < S.n := hq; omega)).trans (h2 q hq), (o 17 (by omega)).trans h3, by rw [gI_sI, if_pos ⟨rfl, rfl⟩]; rfl, fun x hx => ?_⟩
  obtain ⟨a1, a2, a3⟩ := h5 x hx
  exact ⟨(o _ (by omega)).trans a1, fun hb => (o _ (by omega)).trans (a2 hb), fun p w hp hw => (o _ (by omega)).trans (a3 p w hp hw)⟩
/-- one body turned -/
def tuW (σ : zS) (U : zSU) (S : zST) (i f d : Nat) (v : Int) : zS := sI (mC (mW (mC (mW σ (qPtr U S i).1 (qPtr U S i).2) (pCut U S i d)) (qPtr U S i).1 (qPtr U S i).2) (pCut U S i f)) 332 (19 + 14 * i + 1) (zI v)
theorem tuW_x {σ τ : zS} (h : zMx σ τ) (U : zSU) (S : zST) (i f d : Nat) (v : Int) : zMx σ (tuW τ U S i f d v) := zMx_I (zMx_c (zMx_m (zMx_c (zMx_m h _ _) _) _ _) _) _ _
theorem zFr_mW {σ τ : zS} (h : zFr 327 339 σ τ) (u d : Int) : zFr 327 339 σ (mW τ u d) := zFr_J (zFr_J h (by decide)) (by decide)
theorem zFr_mC {σ τ : zS} (h : zFr 327 339 σ τ) (q : Bool) : zFr 327 339 σ (mC τ q) := zFr_I h (by decide)
theorem tuW_f {σ τ : zS} (h : zFr 327 339 σ τ) (U : zSU) (S : zST) (i f d : Nat) (v : Int) : zFr 327 339 σ (tuW τ U S i f d v) := zFr_I (zFr_mC (zFr_mW (zFr_mC (zFr_mW h _ _) _) _ _) _) (by decide)
theorem tuW_r (σ : zS) (U : zSU) (S : zST) (i f d : Nat) (v : Int) : gI (tuW σ U S i f d v) 332 = gI (sI σ 332 (19 + 14 * i + 1) (zI v)) 332 := rfl
theorem tuW_t (σ : zS) (U : zSU) (S : zST) (i f d : Nat) (v : Int) : gI (tuW σ U S i f d v) 327 10 = gI σ 327 10 := rfl
set_option maxRecDepth 20000 in
theorem c_X11_turns {l : Launch} (hfl : l.stackTraces = false) (E : zE) (σ : zS) (σc : zS) (U : zSU) (S : zST) (i : Nat) (f d : Nat) (hB : zRb (gI σ 328) U) (hU : zSUp σc 29 U) (hW : zRo (gI σ 332) U.nb S) (hS : zSTp σc 34 S) (hi : i < U.nb) (hf : f ≤ 400000) (hd4 : d ≤ 400000) (hlg : 0 ≤ S.lg i ∧ S.lg i ≤ 10000000) : zRv l E yX11_turns cX11_turns 7 (zrm 6 151) [.ref (ob E 327), .int (zI (i : Int)), .int (zI (f : Int)), .int (zI (d : Int))] σ (fun τ => τ = tuW σ U S i f d (max 0 (min (qPlay S i) (S.lg i - (qDrum U S i (d : Int) - qDrum U S i (f : Int)))))) := by
  refine Met.ofW (cc := cX11_turns) (maxL := 7) (ret := none) (by decide +kernel) rfl ?_
  intro p e s m args below meth c s₁ B hml hv
  obtain ⟨rfl, hd⟩ := hv
  have C := zX_of (own := RX11) hfl B hml rfl hd rfl
  have hr := B.returns
  refine zV_go hd (Nat.le_of_ble_eq_true rfl) (lv := [(0, .ref (ob E 327)), (1, .int (zI (i : Int))), (2, .int (zI (f : Int))), (3, .int (zI (d : Int)))]) rfl ?_
  have hnb : U.nb ≤ 8 := hU.2.2.1
  have hs0 := hU.2.2.2.1
  have hi8 : i < 8 := by omega
  have hd1 := qDrum_b hU hS hi (d := (d : Int)) (by omega)
  have hd2 := qDrum_b hU hS hi (d := (f : Int)) (by omega)
  have hpb := qPlay_b hS hi8
  refine zv_aload_n C 0 dX11_turns_0 rfl rfl ?_
  refine zv_iload_n C 1 dX11_turns_1 rfl rfl ?_
  refine zv_iload_n C 3 dX11_turns_2 rfl rfl ?_
  refine zv_cvlD (st := []) C (c_X11_drum hfl E σ σc U S i d hB hU hW hS hi hd4) mX11_drum kX11_405 (by decide : kd 327 = 10) rfl rfl rfl ⟨rfl, rfl⟩ (show zfit (zrm 5 127) 5 (zrm 6 151) = true from rfl) (Nat.le_of_ble_eq_true rfl) dX11_turns_3 ⟨Nat.zero_le _, Nat.zero_le _⟩ ?_
  refine zv_aload_n C 0 dX11_turns_6 rfl rfl ?_
  refine zv_iload_n C 1 dX11_turns_7 rfl rfl ?_
  refine zv_iload_n C 2 dX11_turns_8 rfl rfl ?_
  refine zv_cvlD (st := [.long (zL (qDrum U S i (d : Int)))]) C (c_X11_drum hfl E (mC (mW σ (qPtr U S i).1 (qPtr U S i).2) (pCut U S i d)) σc U S i f hB hU hW hS hi hf) mX11_drum kX11_405 (by decide : kd 327 = 10) rfl rfl rfl ⟨rfl, rfl⟩ (show zfit (zrm 5 127) 5 (zrm 6 151) = true from rfl) (Nat.le_of_ble_eq_true rfl) dX11_turns_9 ⟨Nat.zero_le _, Nat.zero_le _⟩ ?_
  refine zv_lsubZ C dX11_turns_12 ?_
  refine zv_lstore (lv' := [(4, .long (zL ((qDrum U S i (d : Int)) - (qDrum U S i (f : Int))))), (0, .ref (ob E 327)), (1, .int (zI (i : Int))), (2, .int (zI (f : Int))), (3, .int (zI (d : Int)))]) C dX11_turns_13  (by decide) rfl ?_
  refine zv_iload_n C 2 dX11_turns_15 rfl rfl ?_
  refine zv_iconst (v := zI 1) C dX11_turns_16 rfl ?_
  refine zv_csiD (st := []) C (c_X11_trainAt hfl E (mC (mW (mC (mW σ (qPtr U S i).1 (qPtr U S i).2) (pCut U S i d)) (qPtr U S i).1 (qPtr U S i).2) (pCut U S i f)) i (1) (by omega) (by omega)) mX11_trainAt kX11_53 rfl ⟨rfl, rfl⟩ (show zfit (zrm 0 0) 2 (zrm 6 151) = true from rfl) (Nat.le_of_ble_eq_true rfl) dX11_turns_17 ⟨Nat.zero_le _, Nat.zero_le _⟩ ?_
  refine zv_istore (lv' := [(6, .int (zI ((19 + 14 * i + (1) : Nat) : Int))), (4, .long (zL ((qDrum U S i (d : Int)) - (qDrum U S i (f : Int))))), (0, .ref (ob E 327)), (1, .int (zI (i : Int))), (2, .int (zI (f : Int))), (3, .int (zI (d : Int)))]) C dX11_turns_20  (by decide) rfl ?_
  refine zv_aload_n C 2 dX11_turns_22 rfl rfl ?_
  refine zG10_4 C (by decide : kd 327 = _) kX11_22 dX11_turns_23 ?_
  refine zv_iload C 0 dX11_turns_26 rfl ?_
  refine zv_lconst (v := zL 0) C dX11_turns_28 (by decide) ?_
  refine zv_aload_n C 2 dX11_turns_29 rfl rfl ?_
  refine zv_iload_n C 3 dX11_turns_30 rfl rfl ?_
  refine zv_cviD (st := [.long (zL 0), .int (zI ((19 + 14 * i + (1) : Nat) : Int)), .ref (ob E 332)]) C (c_X11_backlashNow hfl E (mC (mW (mC (mW σ (qPtr U S i).1 (qPtr U S i).2) (pCut U S i d)) (qPtr U S i).1 (qPtr U S i).2) (pCut U S i f)) σc U S i hW hS hi8) mX11_backlashNow kX11_408 (by decide : kd 327 = 10) rfl rfl rfl ⟨rfl, rfl⟩ (show zfit (zrm 2 44) 10 (zrm 6 151) = true from rfl) (Nat.le_of_ble_eq_true rfl) dX11_turns_31 ⟨Nat.zero_le _, Nat.zero_le _⟩ ?_
  refine zv_i2lZ C (by omega) dX11_turns_34 ?_
  refine zv_aload_n C 2 dX11_turns_35 rfl rfl ?_
  refine zG10_4 C (by decide : kd 327 = _) kX11_22 dX11_turns_36 ?_
  refine zv_iload C 0 dX11_turns_39 rfl ?_
  refine zv_iald (j := 19 + 14 * i + 1) C (by decide : kd 332 = _) (zI_ix rfl) (Nat.lt_of_lt_of_eq (show 19 + 14 * i + 1 < 131 by omega) (by decide)) dX11_turns_41 ?_
  refine zv_eqi (y := (zI (S.lg i))) (by rw [show 19 + 14 * i + 1 = 20 + 14 * i by omega]; exact (hW.2.2.2.2 i hi8).2.1 hi) ?_
  refine zv_i2lZ C (by omega) dX11_turns_42 ?_
  refine zv_lload C 1 dX11_turns_43 rfl ?_
  refine zv_lsubZ C dX11_turns_45 ?_
  refine zv_cslD (st := [.long (zL 0), .int (zI ((19 + 14 * i + (1) : Nat) : Int)), .ref (ob E 332)]) C (c_J9_min_f86c9 hfl E (mC (mW (mC (mW σ (qPtr U S i).1 (qPtr U S i).2) (pCut U S i d)) (qPtr U S i).1 (qPtr U S i).2) (pCut U S i f)) (qPlay S i) ((S.lg i) - ((qDrum U S i (d : Int)) - (qDrum U S i (f : Int)))) (by omega) (by omega)) mJ9_min_f86c9 kX11_411 rfl ⟨rfl, rfl⟩ (show zfit (zrm 0 0) 4 (zrm 6 151) = true from rfl) (Nat.le_of_ble_eq_true rfl) dX11_turns_46 ⟨Nat.zero_le _, Nat.zero_le _⟩ ?_
  refine zv_cslD (st := [.int (zI ((19 + 14 * i + (1) : Nat) : Int)), .ref (ob E 332)]) C (c_J9_max_f86c9 hfl E (mC (mW (mC (mW σ (qPtr U S i).1 (qPtr U S i).2) (pCut U S i d)) (qPtr U S i).1 (qPtr U S i).2) (pCut U S i f)) (0) (min (qPlay S i) ((S.lg i) - ((qDrum U S i (d : Int)) - (qDrum U S i (f : Int))))) (by omega) (by omega)) mJ9_max_f86c9 kX11_355 rfl ⟨rfl, rfl⟩ (show zfit (zrm 0 0) 4 (zrm 6 151) = true from rfl) (Nat.le_of_ble_eq_true rfl) dX11_turns_49 ⟨Nat.zero_le _, Nat.zero_le _⟩ ?_
  refine zv_l2iZ C dX11_turns_52 ?_
  refine zv_iast (j := 19 + 14 * i + 1) C (by decide : kd 332 = _) (zI_ix rfl) (Nat.lt_of_lt_of_eq (show 19 + 14 * i + 1 < 131 by omega) (by decide)) dX11_turns_53 ?_
  exact zv_vret C hr dX11_turns_54 rfl
set_option maxRecDepth 20000 in
theorem c_X11_crank {l : Launch} (hfl : l.stackTraces = false) (E : zE) (σ : zS) (σc : zS) (ni : Nat) (tx : Nat → Int) (ec : Nat) (eo : Int) (U : zSU) (S : zST) (hh : List zST) (kp : Option zST) (ou : List Nat) (d : Nat) (h : zMP σ (zDv.mk ni tx ec eo U S hh kp ou)) (hU : zSUp σc 29 U) (hS : zSTp σc 34 S) (hd4 : d ≤ 400000) (hq9 : zSTq S) : zRi l E yX11_crank cX11_crank 4 .int (zrm 7 177) [.ref (ob E 327), .int (zI (d : Int))] σ (fun r τ => r = zI (S.dy : Int) ∧ mH σ τ ((zDv.mk ni tx ec eo U S hh kp ou).re.sS (S.crk U d))) := by
  refine Met.ofW (cc := cX11_crank) (maxL := 4) (ret := (some .int)) (by decide +kernel) rfl ?_
  intro p e s m args below meth c s₁ B hml hv
  obtain ⟨rfl, hd⟩ := hv
  have C := zX_of (own := RX11) hfl B hml rfl hd rfl
  have hr := B.returns
  refine zV_go hd (Nat.le_of_ble_eq_true rfl) (lv := [(0, .ref (ob E 327)), (1, .int (zI (d : Int)))]) rfl ?_
  have hnb : U.nb ≤ 8 := hU.2.2.1
  have hs0 := hU.2.2.2.1
  have hB : zRb (gI σ 328) U := h.2.2.1
  have hW : zRo (gI σ 332) U.nb S := h.2.2.2.2.1.1
  have hk9 : zRk S := h.2.2.2.2.1.2
  have h0 : zMP (thW σ 0) (zDv.mk ni tx ec eo U S hh kp ou) := zMP_q h (mK_th σ 0).1
  
  refine zv_aload_n C 0 dX11_crank_0 rfl rfl ?_
  refine zv_iconst (v := zI 0) C dX11_crank_1 rfl ?_
  refine zP10_10 C (by decide : kd 327 = _) kX11_50 dX11_crank_2 ?_
  refine zv_eqS (τ := (thW σ 0)) (rfl) ?_
  refine zv_aload_n C 0 dX11_crank_5 rfl rfl ?_
  refine zv_iload_n C 1 dX11_crank_6 rfl rfl ?_
  refine zv_csiD (st := [.ref (ob E 327)]) C (c_X11_isDay hfl E (thW σ 0) ((d : Int)) (by omega)) mX11_isDay kX11_338 rfl ⟨rfl, rfl⟩ (show zfit (zrm 1 25) 1 (zrm 7 177) = true from rfl) (Nat.le_of_ble_eq_true rfl) dX11_crank_7 ⟨Nat.zero_le _, Nat.zero_le _⟩ ?_
  refine zv_if_neB (tgt := 17) C dX11_crank_10 (by decide) (fun h10 => ?_) (fun h10 => ?_)
  · skip
    refine zv_iconst (v := zI 0) C dX11_crank_17 rfl ?_
    refine zv_iconst (v := zI 1) C dX11_crank_18 rfl ?_
    refine zv_cviD (st := []) C (c0_X11_fails hfl E (thW σ 0) 1) mX11_fails kX11_309 (by decide : kd 327 = 10) rfl rfl rfl ⟨rfl, rfl⟩ (show zfit (zrm 0 0) 3 (zrm 7 177) = true from rfl) (Nat.le_of_ble_eq_true rfl) dX11_crank_19 ⟨Nat.zero_le _, Nat.zero_le _⟩ ?_
    refine zv_if_eqZ (tgt := 27) C (by omega) dX11_crank_22 (by decide) (fun h22 => ?_) (fun h22 => absurd h22 (by decide))
    refine zv_aload_n C 0 dX11_crank_27 rfl rfl ?_
    refine zv_cvv (st := []) C (c_X11_remembers hfl E (thW σ 0) (zDv.mk ni tx ec eo U S hh kp ou) h0) mX11_remembers kX11_392 (by decide : kd 327 = 10) rfl rfl rfl ⟨rfl, rfl⟩ (show zfit (zrm 1 25) 1 (zrm 7 177) = true from rfl) (Nat.le_of_ble_eq_true rfl) dX11_crank_28 ⟨Nat.zero_le _, Nat.zero_le _⟩ (fun τ1 hp28 => ?_)
    obtain ⟨hz1, hz2, hz3, hz4⟩ := hp28
    have hW1 : zRo (gI τ1 332) U.nb S := by rw [hz4]; exact hW
    have hB1 : zRb (gI τ1 328) U := hz1.2.2.1
    have ht1 : gI τ1 327 10 = zI 0 := hz2.trans (mK_th σ 0).2
    have hf1 : zFr 327 339 σ τ1 := zFr_trans (zFr_th σ 0) hz3
    refine zv_aload_n C 0 dX11_crank_31 rfl rfl ?_
    refine zG10_4 C (by decide : kd 327 = _) kX11_22 dX11_crank_32 ?_
    refine zv_bipush (v := zI 18) C dX11_crank_35 (by decide) ?_
    refine zv_iald (j := 18) C (by decide : kd 332 = _) (zI_ix (by omega)) (by decide) dX11_crank_37 ?_
    refine zv_eqi (y := (zI (S.dy : Int))) (hW1.2.2.2.1) ?_
    refine zv_istore_n (lv' := [(2, .int (zI (S.dy : Int))), (0, .ref (ob E 327)), (1, .int (zI (d : Int)))]) C dX11_crank_38 rfl (by decide) rfl ?_
    refine zv_iconst (v := zI 0) C dX11_crank_39 rfl ?_
    refine zv_istore_n (lv' := [(3, .int (zI 0)), (2, .int (zI (S.dy : Int))), (0, .ref (ob E 327)), (1, .int (zI (d : Int)))]) C dX11_crank_40 rfl (by decide) rfl ?_
    have q41_35 : (0 : Int) = (0 : Int) := by rfl
    refine zv_sub (lv' := [(0, .ref (ob E 327)), (1, .int (zI (d : Int))), (2, .int (zI (S.dy : Int))), (3, .int (zI (0 : Int)))]) [2, 3, 1, 0] (zcons rfl (zcons rfl (zcons rfl (zcons (zqI q41_35) rfl)))) ?_
    refine zv_eqS (τ := τ1) (rfl) ?_
    refine zv_while (α := Nat × zS) (fun v => U.nb - v.1) (fun v => v.1 ≤ U.nb ∧ zRo (gI v.2 332) U.nb (S.lgs U (d : Int) v.1) ∧ zMx τ1 v.2 ∧ gI v.2 327 10 = zI 0 ∧ zFr 327 339 σ v.2) (fun v => v.2) (fun v => [(0, .ref (ob E 327)), (1, .int (zI (d : Int))), (2, .int (zI (S.dy : Int))), (3, .int (zI (v.1 : Int)))]) (fun v => []) (fun v hI ih => ?_) ((0, τ1)) (⟨Nat.zero_le _, hW1, zMx_r _, ht1, hf1⟩)
    obtain ⟨j, u⟩ := v
    dsimp only at hI ih ⊢
    obtain ⟨hJ, hWu, hxu, htu, hfu⟩ := hI
    have hBu : zRb (gI u 328) U := by rw [zMx_g hxu 328 (by decide) (by decide) (by decide)]; exact hB1
    refine zv_iload_n C 3 dX11_crank_41 rfl rfl ?_
    refine zv_aload_n C 0 dX11_crank_42 rfl rfl ?_
    refine zG10_0 C (by decide : kd 327 = _) kX11_7 dX11_crank_43 ?_
    refine zv_iconst (v := zI 0) C dX11_crank_46 rfl ?_
    refine zv_iald (j := 0) C (by decide : kd 328 = _) (zI_ix (by omega)) (by decide) dX11_crank_47 ?_
    refine zv_eqi (y := (zI (U.nb : Int))) (hBu.1) ?_
    refine zv_icmp_geZ (tgt := 64) C (by omega) (by omega) dX11_crank_48 (by decide) (fun h48 => ?_) (fun h48 => ?_)
    · skip
      have hjn : j = U.nb := by omega
      rw [hjn] at hWu
      refine zv_aload_n C 0 dX11_crank_64 rfl rfl ?_
      refine zG10_4 C (by decide : kd 327 = _) kX11_22 dX11_crank_65 ?_
      refine zv_bipush (v := zI 18) C dX11_crank_68 (by decide) ?_
      refine zv_iload_n C 1 dX11_crank_70 rfl rfl ?_
      refine zv_iast (j := 18) C (by decide : kd 332 = _) (zI_ix (by omega)) (by decide) dX11_crank_71 ?_
      refine zv_iload_n C 2 dX11_crank_72 rfl rfl ?_
      exact zv_iret C hr rfl dX11_crank_73 ⟨rfl, zMP_x hz1 (zRo_crk hWu hk9) hk9 (zMx_I hxu _ _), htu, zFr_I hfu (by decide)⟩
    · skip
      have hlj : 0 ≤ (S.lgs U (d : Int) j).lg j ∧ (S.lgs U (d : Int) j).lg j ≤ 10000000 := by
        show 0 ≤ (if j < j then dLag U S (d : Int) j else S.lg j) ∧ (if j < j then dLag U S (d : Int) j else S.lg j) ≤ 10000000
        rw [if_neg (by omega)]
        exact hq9.2 j (by omega)
      refine zv_aload_n C 0 dX11_crank_51 rfl rfl ?_
      refine zv_iload_n C 3 dX11_crank_52 rfl rfl ?_
      refine zv_iload_n C 2 dX11_crank_53 rfl rfl ?_
      refine zv_iload_n C 1 dX11_crank_54 rfl rfl ?_
      refine zv_cvvD (st := []) C (c_X11_turns hfl E u (lgw σc (S.lgs U (d : Int) j).lg) U (S.lgs U (d : Int) j) j S.dy d hBu (zSUp_lgw hU _) hWu (zSTp_lgw hS _) (by omega) hq9.1 hd4 hlj) mX11_turns kX11_414 (by decide : kd 327 = 10) rfl rfl rfl ⟨rfl, rfl⟩ (show zfit (zrm 6 151) 7 (zrm 7 177) = true from rfl) (Nat.le_of_ble_eq_true rfl) dX11_crank_55 ⟨Nat.zero_le _, Nat.zero_le _⟩ ?_
      refine zv_eqS (τ := (tuW u U (S.lgs U (d : Int) j) j S.dy d (dLag U S (d : Int) j))) (by unfold dLag; rw [show (S.lgs U (d : Int) j).lg j = S.lg j from if_neg (by omega)]; rfl) ?_
      refine zv_iinc (v := (zI ((j : Int) + 1))) (lv' := [(3, .int (zI ((j : Int) + 1))), (0, .ref (ob E 327)), (1, .int (zI (d : Int))), (2, .int (zI (S.dy : Int)))]) C 3 dX11_crank_58 rfl (zI_add _ _) (by decide) rfl ?_
      refine zv_goto (tgt := 41) C dX11_crank_61 (by decide) ?_
      have q41_73 : ((j : Int) + 1 : Int) = ((j + 1 : Nat) : Int) := by omega
      refine zv_sub (lv' := [(0, .ref (ob E 327)), (1, .int (zI (d : Int))), (2, .int (zI (S.dy : Int))), (3, .int (zI ((j + 1 : Nat) : Int)))]) [1, 2, 3, 0] (zcons rfl (zcons rfl (zcons rfl (zcons (zqI q41_73) rfl)))) ?_
      refine zv_eqS (τ := (tuW u U (S.lgs U (d : Int) j) j S.dy d (dLag U S (d : Int) j))) (rfl) ?_
      exact ih ((j + 1, (tuW u U (S.lgs U (d : Int) j) j S.dy d (dLag U S (d : Int) j)))) (⟨by show j + 1 ≤ U.nb; omega, by show zRo (gI (tuW u U (S.lgs U (d : Int) j) j S.dy d (dLag U S (d : Int) j)) 332) _ _; rw [tuW_r]; exact zRo_lgs hWu hk9 (by omega), tuW_x hxu _ _ _ _ _ _, htu, tuW_f hfu _ _ _ _ _ _⟩) (by show U.nb - (j + 1) < U.nb - j; omega)
  · skip
    refine zv_iconst (v := zI 1) C dX11_crank_13 rfl ?_
    refine zv_goto (tgt := 18) C dX11_crank_14 (by decide) ?_
    refine zv_iconst (v := zI 1) C dX11_crank_18 rfl ?_
    exfalso
    omega
set_option maxRecDepth 20000 in
theorem x1_X11_crank {l : Launch} (hfl : l.stackTraces = false) (E : zE) (σ : zS) (y : Int) (hy : -2147483648 ≤ y ∧ y < 2147483648) (hno : ¬ (0 ≤ y ∧ y ≤ 400000)) : zRi l E yX11_crank cX11_crank 4 .int (zrm 2 45) [.ref (ob E 327), .int (zI y)] σ (fun r τ => r = zI 0 ∧ mK σ τ 1) := by
  refine Met.ofW (cc := cX11_crank) (maxL := 4) (ret := (some .int)) (by decide +kernel) rfl ?_
  intro p e s m args below meth c s₁ B hml hv
  obtain ⟨rfl, hd⟩ := hv
  have C := zX_of (own := RX11) hfl B hml rfl hd rfl
  have hr := B.returns
  refine zV_go hd (Nat.le_of_ble_eq_true rfl) (lv := [(0, .ref (ob E 327)), (1, .int (zI y))]) rfl ?_
  refine zv_aload_n C 0 dX11_crank_0 rfl rfl ?_
  refine zv_iconst (v := zI 0) C dX11_crank_1 rfl ?_
  refine zP10_10 C (by decide : kd 327 = _) kX11_50 dX11_crank_2 ?_
  refine zv_eqS (τ := (thW σ 0)) (rfl) ?_
  refine zv_aload_n C 0 dX11_crank_5 rfl rfl ?_
  refine zv_iload_n C 1 dX11_crank_6 rfl rfl ?_
  refine zv_csiD (st := [.ref (ob E 327)]) C (c_X11_isDay hfl E (thW σ 0) (y) (by omega)) mX11_isDay kX11_338 rfl ⟨rfl, rfl⟩ (show zfit (zrm 1 25) 1 (zrm 2 45) = true from rfl) (Nat.le_of_ble_eq_true rfl) dX11_crank_7 ⟨Nat.zero_le _, Nat.zero_le _⟩ ?_
  refine zv_if_neB (tgt := 17) C dX11_crank_10 (by decide) (fun h10 => ?_) (fun h10 => ?_)
  · skip
    refine zv_iconst (v := zI 0) C dX11_crank_17 rfl ?_
    refine zv_iconst (v := zI 1) C dX11_crank_18 rfl ?_
    exfalso
    omega
  · skip
    refine zv_iconst (v := zI 1) C dX11_crank_13 rfl ?_
    refine zv_goto (tgt := 18) C dX11_crank_14 (by decide) ?_
    refine zv_iconst (v := zI 1) C dX11_crank_18 rfl ?_
    refine zv_cviD (st := []) C (c1_X11_fails hfl E (thW σ 0) 1) mX11_fails kX11_309 (by decide : kd 327 = 10) rfl rfl rfl ⟨rfl, rfl⟩ (show zfit (zrm 0 0) 3 (zrm 2 45) = true from rfl) (Nat.le_of_ble_eq_true rfl) dX11_crank_19 ⟨Nat.zero_le _, Nat.zero_le _⟩ ?_
    refine zv_if_eqZ (tgt := 27) C (by omega) dX11_crank_22 (by decide) (fun h22 => absurd h22 (by decide)) (fun h22 => ?_)
    refine zv_iconst (v := zI 0) C dX11_crank_25 rfl ?_
    exact zv_iret C hr rfl dX11_crank_26 ⟨rfl, mK_th2 _ _ _⟩
