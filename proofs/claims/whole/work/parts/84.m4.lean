/-! arcs of a fraction, however it is written -/
theorem rArc_g {g : Nat} {t b f : Int} (hg : 1 ≤ g) (hb : 1 ≤ b) : rArc ((g : Int) * t) ((g : Int) * b) f = rArc t b f := by
  unfold rArc
  have h1 : ((g : Int) * t).natAbs = g * t.natAbs := by rw [Int.natAbs_mul, Int.natAbs_natCast]
  have h2 : ((g * t.natAbs : Nat) : Int) * f / ((g : Int) * b) = (t.natAbs : Int) * f / b := by
    rw [Int.natCast_mul, Int.mul_assoc, Int.mul_ediv_mul_of_pos _ _ (by omega)]
  have h3 : (g : Int) * t < 0 ↔ t < 0 := by
    constructor
    · intro h
      rcases Int.lt_or_le t 0 with q | q
      · exact q
      · have := Int.mul_nonneg (show (0 : Int) ≤ (g : Int) by omega) q
        omega
    · intro h; exact Int.mul_neg_of_pos_of_neg (by omega) h
  rw [h1, h2]
  by_cases q : t < 0
  · rw [if_pos q, if_pos (h3.mpr q)]
  · rw [if_neg q, if_neg (fun z => q (h3.mp z))]
def eOff (U : zSU) (S : zST) (i : Nat) : Int := (qPtr U S i).1 * (qDue U i).2 - (qDue U i).1 * (qPtr U S i).2
def eDen (U : zSU) (S : zST) (i : Nat) : Int := (qPtr U S i).2 * (qDue U i).2
theorem eOff_b {σ σ' : zS} {k k' : Nat} {U : zSU} {S : zST} (h : zSUp σ k U) (hS : zSTp σ' k' S) {i : Nat} (hi : i < U.nb) : (eOff U S i).natAbs ≤ 2010000000000000 ∧ 1 ≤ eDen U S i ∧ eDen U S i ≤ 999999900000000 := by
  have h1 := qPtr_b h hS hi
  have h2 := qDue_b h hi
  obtain ⟨g1, g2, -⟩ := rAd_b (z := -(qDue U i).1) (w := (qDue U i).2) (C := 100) (D := 9999999) h1.1 h1.2 (by omega) h2.2
  rw [Int.neg_mul, ← Int.sub_eq_add_neg] at g1
  unfold eOff eDen
  omega
theorem err_eq {σ σ' : zS} {k k' : Nat} {U : zSU} {S : zST} (h : zSUp σ k U) (hS : zSTp σ' k' S) {i : Nat} (hi : i < U.nb) (F : Int) : rArc (eOff U S i) (eDen U S i) F = rArc (qDrift U S i).1 (qDrift U S i).2 F := by
  have h1 := qPtr_b h hS hi
  have h2 := qDue_b h hi
  have hpe := (h.2.2.2.2 i hi).2.2.2.2.1
  obtain ⟨e1, e2⟩ := rT_e (z := rtT U i) (w := (U.pe i : Int)) (by omega)
  obtain ⟨g1, g2, -⟩ := rAd_b (z := -(rtT U i)) (w := (U.pe i : Int)) (C := 100) (D := 9999999) h1.1 h1.2 (by have := rtT_b U i; omega) (by omega)
  have hN : (qPtr U S i).1 * (U.pe i : Int) + -(rtT U i) * (qPtr U S i).2 = (rG (rtT U i) (U.pe i) : Int) * eOff U S i := by
    unfold eOff qDue rLo
    rw [Int.mul_sub, ← Int.mul_assoc, ← Int.mul_assoc, Int.mul_comm _ (qPtr U S i).1, Int.mul_assoc, ← e2, ← e1, Int.neg_mul, ← Int.sub_eq_add_neg]
  have hM : (qPtr U S i).2 * (U.pe i : Int) = (rG (rtT U i) (U.pe i) : Int) * eDen U S i := by
    unfold eDen qDue rLo
    rw [← Int.mul_assoc, Int.mul_comm _ (qPtr U S i).2, Int.mul_assoc, ← e2]
  have hd := (eOff_b h hS hi).2.1
  rw [← rArc_g (rG_pos (rtT U i) (U.pe i)) hd, ← hN, ← hM]
  obtain ⟨a1, a2⟩ := rT_e (z := (qPtr U S i).1 * (U.pe i : Int) + -(rtT U i) * (qPtr U S i).2) (w := (qPtr U S i).2 * (U.pe i : Int)) g2.1
  have hb := (rB_b (z := (qPtr U S i).1 * (U.pe i : Int) + -(rtT U i) * (qPtr U S i).2) g2.1).1
  unfold qDrift rAd
  rw [← rArc_g (rG_pos ((qPtr U S i).1 * (U.pe i : Int) + -(rtT U i) * (qPtr U S i).2) ((qPtr U S i).2 * (U.pe i : Int))) hb, ← a1, ← a2]
def eCut (U : zSU) (S : zST) (i f : Nat) : Bool := decide ((eOff U S i).natAbs * (f * 1296000) % (eDen U S i).toNat ≠ 0)
theorem eArc {σ σ' : zS} {k k' : Nat} {U : zSU} {S : zST} (h : zSUp σ k U) (hS : zSTp σ' k' S) {i : Nat} (hi : i < U.nb) (f : Nat) : qArc U S i (f : Int) = if eOff U S i < 0 then -(((eOff U S i).natAbs * (f * 1296000) / (eDen U S i).toNat : Nat) : Int) else (((eOff U S i).natAbs * (f * 1296000) / (eDen U S i).toNat : Nat) : Int) := by
  have hd := (eOff_b h hS hi).2.1
  unfold qArc
  rw [← err_eq h hS hi]
  unfold rArc
  rw [Int.natCast_ediv, Int.natCast_mul, show (((eDen U S i).toNat : Nat) : Int) = eDen U S i by omega, show ((f * 1296000 : Nat) : Int) = (f : Int) * 1296000 by omega]
/-- rounding down, by cutting -/
theorem fl_cut (x b : Nat) (hb : 0 < b) : -(x : Int) / (b : Int) = -((x / b : Nat) : Int) - (if x % b ≠ 0 then 1 else 0) := by
  have h := Nat.mod_add_div x b
  have hm := Nat.mod_lt x hb
  have e : -(x : Int) = -((x % b : Nat) : Int) + -((x / b : Nat) : Int) * (b : Int) := by
    have h9 : (x : Int) = ((x % b : Nat) : Int) + (b : Int) * ((x / b : Nat) : Int) := by rw [← Int.natCast_mul, ← Int.natCast_add, h]
    rw [Int.neg_mul, Int.mul_comm ((x / b : Nat) : Int) (b : Int)]
    omega
  rw [e, Int.add_mul_ediv_right _ _ (by omega)]
  generalize x % b = r at hm
  by_cases q : r = 0
  · subst q
    rw [if_neg (by omega)]
    simp
  · rw [if_pos q]
    have h1 : -(r : Int) / (b : Int) = -1 := by
      have h2 := Int.emod_add_mul_ediv (-(r : Int)) b
      have h3 := Int.emod_nonneg (-(r : Int)) (show (b : Int) ≠ 0 by omega)
      have h4 := Int.emod_lt_of_pos (-(r : Int)) (show (0 : Int) < b by omega)
      have h5 : (b : Int) * (-(r : Int) / (b : Int)) < 0 := by omega
      have h6 : -(r : Int) / (b : Int) < 0 := by
        rcases Int.lt_or_le (-(r : Int) / (b : Int)) 0 with z | z
        · exact z
        · have := Int.mul_nonneg (show (0 : Int) ≤ (b : Int) by omega) z
          omega
      have h7 : (b : Int) * (-(r : Int) / (b : Int) + 1) > -(b : Int) := by rw [Int.mul_add, Int.mul_one]; omega
      rcases Int.lt_or_le (-(r : Int) / (b : Int)) (-1) with z | z
      · have h8 : (b : Int) * (-(r : Int) / (b : Int) + 1) ≤ (b : Int) * (-1) := Int.mul_le_mul_of_nonneg_left (by omega) (by omega)
        omega
      · omega
    rw [h1]
    omega
def pCut (U : zSU) (S : zST) (i f : Nat) : Bool := decide ((qPtr U S i).1.natAbs * (f * 1296000) % (qPtr U S i).2.toNat ≠ 0)
theorem drum_eq {σ σ' : zS} {k k' : Nat} {U : zSU} {S : zST} (h : zSUp σ k U) (hS : zSTp σ' k' S) {i : Nat} (hi : i < U.nb) (f : Nat) : qDrum U S i (f : Int) = if (qPtr U S i).1 < 0 then -(((qPtr U S i).1.natAbs * (f * 1296000) / (qPtr U S i).2.toNat : Nat) : Int) - (if pCut U S i f = true then 1 else 0) else (((qPtr U S i).1.natAbs * (f * 1296000) / (qPtr U S i).2.toNat : Nat) : Int) := by
  have hb := (qPtr_b h hS hi).2
  unfold qDrum pCut
  generalize (qPtr U S i).1 = t
  generalize hbe : (qPtr U S i).2 = b at hb
  have hb2 : ((b.toNat : Nat) : Int) = b := by omega
  have hF : ((f * 1296000 : Nat) : Int) = (f : Int) * 1296000 := by omega
  rw [Int.mul_assoc, ← hF]
  by_cases q : t < 0
  · rw [if_pos q]
    have e : t * ((f * 1296000 : Nat) : Int) = -((t.natAbs * (f * 1296000) : Nat) : Int) := by
      rw [Int.natCast_mul t.natAbs, show ((t.natAbs : Nat) : Int) = -t by omega, Int.neg_mul, Int.neg_neg]
    have e2 := fl_cut (t.natAbs * (f * 1296000)) b.toNat (by omega)
    rw [hb2] at e2
    rw [e, e2]
    congr 1
    by_cases z : t.natAbs * (f * 1296000) % b.toNat ≠ 0
    · rw [if_pos z, if_pos (decide_eq_true z)]
    · rw [if_neg z, if_neg (by rw [decide_eq_false z]; decide)]
  · rw [if_neg q, Int.natCast_ediv, Int.natCast_mul t.natAbs, hb2, show ((t.natAbs : Nat) : Int) = t by omega]
set_option maxRecDepth 20000 in
theorem c_X11_errorNow {l : Launch} (hfl : l.stackTraces = false) (E : zE) (σ : zS) (σc : zS) (U : zSU) (S : zST) (i : Nat) (f : Nat) (hB : zRb (gI σ 328) U) (hU : zSUp σc 29 U) (hW : zRo (gI σ 332) U.nb S) (hS : zSTp σc 34 S) (hi : i < U.nb) (hf : f ≤ 2000000) : zRl l E yX11_errorNow cX11_errorNow 11 (zrm 5 127) [.ref (ob E 327), .int (zI (i : Int)), .int (zI (f : Int))] σ (fun r τ => r = zL (qArc U S i (f : Int)) ∧ τ = mC (mW σ (qDue U i).1 (qDue U i).2) (eCut U S i f)) := by
  refine Met.ofW (cc := cX11_errorNow) (maxL := 11) (ret := (some .long)) (by decide +kernel) rfl ?_
  intro p e s m args below meth c s₁ B hml hv
  obtain ⟨rfl, hd⟩ := hv
  have C := zX_of (own := RX11) hfl B hml rfl hd rfl
  have hr := B.returns
  refine zV_go hd (Nat.le_of_ble_eq_true rfl) (lv := [(0, .ref (ob E 327)), (1, .int (zI (i : Int))), (2, .int (zI (f : Int)))]) rfl ?_
  have hnb : U.nb ≤ 8 := hU.2.2.1
  have hs0 := hU.2.2.2.1
  have hi8 : i < 8 := by omega
  have hca := (hU.2.2.2.2 i hi).2.2.2.2.2.2
  have hpe := (hU.2.2.2.2 i hi).2.2.2.2.1
  have hre := (hU.2.2.2.2 i hi).2.2.2.2.2.1
  have hqp := qPtr_b hU hS hi
  have hqd := qDue_b hU hi
  have heb := eOff_b hU hS hi
  unfold eOff eDen at heb
  have hea := eArc hU hS hi f
  refine zv_aload_n C 0 dX11_errorNow_0 rfl rfl ?_
  refine zv_iload_n C 1 dX11_errorNow_1 rfl rfl ?_
  refine zv_cvvD (st := []) C (c_X11_ratio hfl E σ σc U S i hB hU hW hS hi) mX11_ratio kX11_278 (by decide : kd 327 = 10) rfl rfl rfl ⟨rfl, rfl⟩ (show zfit (zrm 4 102) 6 (zrm 5 127) = true from rfl) (Nat.le_of_ble_eq_true rfl) dX11_errorNow_2 ⟨Nat.zero_le _, Nat.zero_le _⟩ ?_
  refine zv_aload_n C 0 dX11_errorNow_5 rfl rfl ?_
  refine zG10_22 C (by decide : kd 327 = _) kX11_249 dX11_errorNow_6 ?_
  refine zv_eql (y := (zL ((qPtr U S i).1))) ((mW_r _ _ _).1) ?_
  refine zv_lstore_n (lv' := [(3, .long (zL ((qPtr U S i).1))), (0, .ref (ob E 327)), (1, .int (zI (i : Int))), (2, .int (zI (f : Int)))]) C dX11_errorNow_9 rfl (by decide) rfl ?_
  refine zv_aload_n C 1 dX11_errorNow_10 rfl rfl ?_
  refine zG10_23 C (by decide : kd 327 = _) kX11_253 dX11_errorNow_11 ?_
  refine zv_eql (y := (zL ((qPtr U S i).2))) ((mW_r _ _ _).2) ?_
  refine zv_lstore (lv' := [(5, .long (zL ((qPtr U S i).2))), (3, .long (zL ((qPtr U S i).1))), (0, .ref (ob E 327)), (1, .int (zI (i : Int))), (2, .int (zI (f : Int)))]) C dX11_errorNow_14  (by decide) rfl ?_
  refine zv_aload_n C 2 dX11_errorNow_16 rfl rfl ?_
  refine zv_iload_n C 3 dX11_errorNow_17 rfl rfl ?_
  refine zv_cvvD (st := []) C (c_X11_due hfl E (mW σ (qPtr U S i).1 (qPtr U S i).2) σc U i hB hU hi) mX11_due kX11_275 (by decide : kd 327 = 10) rfl rfl rfl ⟨rfl, rfl⟩ (show zfit (zrm 3 76) 2 (zrm 5 127) = true from rfl) (Nat.le_of_ble_eq_true rfl) dX11_errorNow_18 ⟨Nat.zero_le _, Nat.zero_le _⟩ ?_
  refine zv_eqS (τ := (mW σ (qDue U i).1 (qDue U i).2)) (mW_o _ _ _ _ _) ?_
  refine zv_lload_n C 1 dX11_errorNow_21 rfl rfl ?_
  refine zv_aload_n C 2 dX11_errorNow_22 rfl rfl ?_
  refine zG10_23 C (by decide : kd 327 = _) kX11_253 dX11_errorNow_23 ?_
  refine zv_eql (y := (zL ((qDue U i).2))) ((mW_r _ _ _).2) ?_
  refine zv_lmulZ C dX11_errorNow_26 ?_
  refine zv_aload_n C 2 dX11_errorNow_27 rfl rfl ?_
  refine zG10_22 C (by decide : kd 327 = _) kX11_249 dX11_errorNow_28 ?_
  refine zv_eql (y := (zL ((qDue U i).1))) ((mW_r _ _ _).1) ?_
  refine zv_lload C 0 dX11_errorNow_31 rfl ?_
  refine zv_lmulZ C dX11_errorNow_33 ?_
  refine zv_lsubZ C dX11_errorNow_34 ?_
  refine zv_lstore (lv' := [(7, .long (zL ((((qPtr U S i).1) * ((qDue U i).2)) - (((qDue U i).1) * ((qPtr U S i).2))))), (5, .long (zL ((qPtr U S i).2))), (3, .long (zL ((qPtr U S i).1))), (0, .ref (ob E 327)), (1, .int (zI (i : Int))), (2, .int (zI (f : Int)))]) C dX11_errorNow_35  (by decide) rfl ?_
  refine zv_aload_n C 3 dX11_errorNow_37 rfl rfl ?_
  refine zv_iload_n C 5 dX11_errorNow_38 rfl rfl ?_
  refine zv_i2lZ C (by omega) dX11_errorNow_39 ?_
  refine zv_ldc2 C kX11_281 dX11_errorNow_40 ?_
  refine zv_eql (y := zL 1296000) (by decide) ?_
  refine zv_lmulZ C dX11_errorNow_43 ?_
  refine zv_eql (y := (zL ((f * 1296000 : Nat) : Int))) (congrArg zL (by omega)) ?_
  refine zv_lload C 0 dX11_errorNow_44 rfl ?_
  refine zv_cslD (st := [.long (zL ((f * 1296000 : Nat) : Int)), .ref (ob E 327)]) C (c_J9_abs_067f4 hfl E (mW σ (qDue U i).1 (qDue U i).2) ((((qPtr U S i).1) * ((qDue U i).2)) - (((qDue U i).1) * ((qPtr U S i).2))) (by omega)) mJ9_abs_067f4 kX11_239 rfl ⟨rfl, rfl⟩ (show zfit (zrm 0 0) 2 (zrm 5 127) = true from rfl) (Nat.le_of_ble_eq_true rfl) dX11_errorNow_46 ⟨Nat.zero_le _, Nat.zero_le _⟩ ?_
  refine zv_eql (y := (zL ((eOff U S i).natAbs : Int))) (rfl) ?_
  refine zv_lload C 1 dX11_errorNow_49 rfl ?_
  refine zv_aload_n C 3 dX11_errorNow_51 rfl rfl ?_
  refine zG10_23 C (by decide : kd 327 = _) kX11_253 dX11_errorNow_52 ?_
  refine zv_eql (y := (zL ((qDue U i).2))) ((mW_r _ _ _).2) ?_
  refine zv_lmulZ C dX11_errorNow_55 ?_
  refine zv_eql (y := (zL ((eDen U S i).toNat : Int))) (congrArg zL (by unfold eDen; omega)) ?_
  refine zv_cvlD (st := []) C (c_X11_scaled hfl E (mW σ (qDue U i).1 (qDue U i).2) (f * 1296000) (eOff U S i).natAbs (eDen U S i).toNat (by omega) (by unfold eOff; omega) (by unfold eDen; omega)) mX11_scaled kX11_283 (by decide : kd 327 = 10) rfl rfl rfl ⟨rfl, rfl⟩ (show zfit (zrm 0 0) 16 (zrm 5 127) = true from rfl) (Nat.le_of_ble_eq_true rfl) dX11_errorNow_56 ⟨Nat.zero_le _, Nat.zero_le _⟩ ?_
  refine zv_lstore (lv' := [(9, .long (zL (((eOff U S i).natAbs * (f * 1296000) / (eDen U S i).toNat : Nat) : Int))), (7, .long (zL ((((qPtr U S i).1) * ((qDue U i).2)) - (((qDue U i).1) * ((qPtr U S i).2))))), (5, .long (zL ((qPtr U S i).2))), (3, .long (zL ((qPtr U S i).1))), (0, .ref (ob E 327)), (1, .int (zI (i : Int))), (2, .int (zI (f : Int)))]) C dX11_errorNow_59  (by decide) rfl ?_
  refine zv_lload C 1 dX11_errorNow_61 rfl ?_
  refine zv_lconst (v := zL 0) C dX11_errorNow_63 (by decide) ?_
  refine zv_lc_geZ (tgt := 74) C (by omega) (by omega) dX11_errorNow_64 dX11_errorNow_65 (by decide) (fun h64 => ?_) (fun h64 => ?_)
  · skip
    refine zv_lload C 0 dX11_errorNow_74 rfl ?_
    exact zv_lret C hr dX11_errorNow_76 ⟨congrArg zL (by rw [hea, if_neg (by unfold eOff; omega)]), rfl⟩
  · skip
    refine zv_lload C 0 dX11_errorNow_68 rfl ?_
    refine zv_lnegZ C dX11_errorNow_70 ?_
    refine zv_goto (tgt := 76) C dX11_errorNow_71 (by decide) ?_
    exact zv_lret C hr dX11_errorNow_76 ⟨congrArg zL (by rw [hea, if_pos (by unfold eOff; omega)]), rfl⟩
set_option maxRecDepth 20000 in
theorem c_X11_drum {l : Launch} (hfl : l.stackTraces = false) (E : zE) (σ : zS) (σc : zS) (U : zSU) (S : zST) (i : Nat) (f : Nat) (hB : zRb (gI σ 328) U) (hU : zSUp σc 29 U) (hW : zRo (gI σ 332) U.nb S) (hS : zSTp σc 34 S) (hi : i < U.nb) (hf : f ≤ 400000) : zRl l E yX11_drum cX11_drum 5 (zrm 5 127) [.ref (ob E 327), .int (zI (i : Int)), .int (zI (f : Int))] σ (fun r τ => r = zL (qDrum U S i (f : Int)) ∧ τ = mC (mW σ (qPtr U S i).1 (qPtr U S i).2) (pCut U S i f)) := by
  refine Met.ofW (cc := cX11_drum) (maxL := 5) (ret := (some .long)) (by decide +kernel) rfl ?_
  intro p e s m args below meth c s₁ B hml hv
  obtain ⟨rfl, hd⟩ := hv
  have C := zX_of (own := RX11) hfl B hml rfl hd rfl
  have hr := B.returns
  refine zV_go hd (Nat.le_of_ble_eq_true rfl) (lv := [(0, .ref (ob E 327)), (1, .int (zI (i : Int))), (2, .int (zI (f : Int)))]) rfl ?_
  have hnb : U.nb ≤ 8 := hU.2.2.1
  have hs0 := hU.2.2.2.1
  have hi8 : i < 8 := by omega
  have hca := (hU.2.2.2.2 i hi).2.2.2.2.2.2
  have hpe := (hU.2.2.2.2 i hi).2.2.2.2.1
  have hre := (hU.2.2.2.2 i hi).2.2.2.2.2.1
  have hqp := qPtr_b hU hS hi
  have hde := drum_eq hU hS hi f
  refine zv_aload_n C 0 dX11_drum_0 rfl rfl ?_
  refine zv_iload_n C 1 dX11_drum_1 rfl rfl ?_
  refine zv_cvvD (st := []) C (c_X11_ratio hfl E σ σc U S i hB hU hW hS hi) mX11_ratio kX11_278 (by decide : kd 327 = 10) rfl rfl rfl ⟨rfl, rfl⟩ (show zfit (zrm 4 102) 6 (zrm 5 127) = true from rfl) (Nat.le_of_ble_eq_true rfl) dX11_drum_2 ⟨Nat.zero_le _, Nat.zero_le _⟩ ?_
  refine zv_aload_n C 0 dX11_drum_5 rfl rfl ?_
  refine zv_iload_n C 2 dX11_drum_6 rfl rfl ?_
  refine zv_i2lZ C (by omega) dX11_drum_7 ?_
  refine zv_ldc2 C kX11_281 dX11_drum_8 ?_
  refine zv_eql (y := zL 1296000) (by decide) ?_
  refine zv_lmulZ C dX11_drum_11 ?_
  refine zv_eql (y := (zL ((f * 1296000 : Nat) : Int))) (congrArg zL (by omega)) ?_
  refine zv_aload_n C 0 dX11_drum_12 rfl rfl ?_
  refine zG10_22 C (by decide : kd 327 = _) kX11_249 dX11_drum_13 ?_
  refine zv_eql (y := (zL ((qPtr U S i).1))) ((mW_r _ _ _).1) ?_
  refine zv_cslD (st := [.long (zL ((f * 1296000 : Nat) : Int)), .ref (ob E 327)]) C (c_J9_abs_067f4 hfl E (mW σ (qPtr U S i).1 (qPtr U S i).2) ((qPtr U S i).1) (by omega)) mJ9_abs_067f4 kX11_239 rfl ⟨rfl, rfl⟩ (show zfit (zrm 0 0) 2 (zrm 5 127) = true from rfl) (Nat.le_of_ble_eq_true rfl) dX11_drum_16 ⟨Nat.zero_le _, Nat.zero_le _⟩ ?_
  refine zv_aload_n C 0 dX11_drum_19 rfl rfl ?_
  refine zG10_23 C (by decide : kd 327 = _) kX11_253 dX11_drum_20 ?_
  refine zv_eql (y := (zL ((qPtr U S i).2.toNat : Int))) (by rw [show (((qPtr U S i).2.toNat : Nat) : Int) = (qPtr U S i).2 by omega]; exact (mW_r _ _ _).2) ?_
  refine zv_cvlD (st := []) C (c_X11_scaled hfl E (mW σ (qPtr U S i).1 (qPtr U S i).2) (f * 1296000) (qPtr U S i).1.natAbs (qPtr U S i).2.toNat (by omega) (by omega) (by omega)) mX11_scaled kX11_283 (by decide : kd 327 = 10) rfl rfl rfl ⟨rfl, rfl⟩ (show zfit (zrm 0 0) 16 (zrm 5 127) = true from rfl) (Nat.le_of_ble_eq_true rfl) dX11_drum_23 ⟨Nat.zero_le _, Nat.zero_le _⟩ ?_
  refine zv_lstore_n (lv' := [(3, .long (zL (((qPtr U S i).1.natAbs * (f * 1296000) / (qPtr U S i).2.toNat : Nat) : Int))), (0, .ref (ob E 327)), (1, .int (zI (i : Int))), (2, .int (zI (f : Int)))]) C dX11_drum_26 rfl (by decide) rfl ?_
  refine zv_aload_n C 1 dX11_drum_27 rfl rfl ?_
  refine zG10_22 C (by decide : kd 327 = _) kX11_249 dX11_drum_28 ?_
  refine zv_eql (y := (zL ((qPtr U S i).1))) ((mW_r _ _ _).1) ?_
  refine zv_lconst (v := zL 0) C dX11_drum_31 (by decide) ?_
  refine zv_lc_geZ (tgt := 54) C (by omega) (by omega) dX11_drum_32 dX11_drum_33 (by decide) (fun h32 => ?_) (fun h32 => ?_)
  · skip
    refine zv_lload_n C 0 dX11_drum_54 rfl rfl ?_
    exact zv_lret C hr dX11_drum_55 ⟨congrArg zL (by rw [hde, if_neg (by omega)]), rfl⟩
  · skip
    refine zv_lload_n C 0 dX11_drum_36 rfl rfl ?_
    refine zv_lnegZ C dX11_drum_37 ?_
    refine zv_aload_n C 1 dX11_drum_38 rfl rfl ?_
    refine zG10_24 C (by decide : kd 327 = _) kX11_258 dX11_drum_39 ?_
    refine zv_eqi (y := (zB (pCut U S i f = true))) (by rw [mC, gI_sI, if_pos ⟨rfl, rfl⟩]; rfl) ?_
    refine zv_if_eqB (tgt := 49) C dX11_drum_42 (by decide) (fun h42 => ?_) (fun h42 => ?_)
    · skip
      refine zv_lconst (v := zL 0) C dX11_drum_49 (by decide) ?_
      refine zv_lsubZ C dX11_drum_50 ?_
      refine zv_goto (tgt := 55) C dX11_drum_51 (by decide) ?_
      exact zv_lret C hr dX11_drum_55 ⟨congrArg zL (by rw [hde, if_pos (by omega), if_neg h42]), rfl⟩
    · skip
      refine zv_lconst (v := zL 1) C dX11_drum_45 (by decide) ?_
      refine zv_goto (tgt := 50) C dX11_drum_46 (by decide) ?_
      refine zv_lsubZ C dX11_drum_50 ?_
      refine zv_goto (tgt := 55) C dX11_drum_51 (by decide) ?_
      exact zv_lret C hr dX11_drum_55 ⟨congrArg zL (by rw [hde, if_pos (by omega), if_pos h42]), rfl⟩
set_option maxRecDepth 20000 in
theorem c_X11_angleNow {l : Launch} (hfl : l.stackTraces = false) (E : zE) (σ : zS) (u d f : Int) (hu : gJ σ 327 22 = zL u) (hdn : gJ σ 327 23 = zL d) (hdb : 1 ≤ d ∧ d < 7000000000000) (hf : -2147483648 ≤ f ∧ f < 2147483648) (hm : -9223372036854775808 < f * u ∧ f * u < 9223372036854775808) : zRi l E yX11_angleNow cX11_angleNow 2 .int (zrm 1 25) [.ref (ob E 327), .int (zI f)] σ (fun r τ => r = zI (f * u % d * 1296000 / d) ∧ τ = σ) := by
  refine Met.ofW (cc := cX11_angleNow) (maxL := 2) (ret := (some .int)) (by decide +kernel) rfl ?_
  intro p e s m args below meth c s₁ B hml hv
  obtain ⟨rfl, hd⟩ := hv
  have C := zX_of (own := RX11) hfl B hml rfl hd rfl
  have hr := B.returns
  refine zV_go hd (Nat.le_of_ble_eq_true rfl) (lv := [(0, .ref (ob E 327)), (1, .int (zI f))]) rfl ?_
  have hm1 := Int.emod_nonneg (f * u) (show d ≠ 0 by omega)
  have hm2 := Int.emod_lt_of_pos (f * u) (show 0 < d by omega)
  refine zv_iload_n C 1 dX11_angleNow_0 rfl rfl ?_
  refine zv_i2lZ C (by omega) dX11_angleNow_1 ?_
  refine zv_aload_n C 0 dX11_angleNow_2 rfl rfl ?_
  refine zG10_22 C (by decide : kd 327 = _) kX11_249 dX11_angleNow_3 ?_
  refine zv_eql (y := (zL u)) (hu) ?_
  refine zv_lmulZ C dX11_angleNow_6 ?_
  refine zv_aload_n C 0 dX11_angleNow_7 rfl rfl ?_
  refine zG10_23 C (by decide : kd 327 = _) kX11_253 dX11_angleNow_8 ?_
  refine zv_eql (y := (zL d)) (hdn) ?_
  refine zv_cslD (st := []) C (c_J9_floorMod_f86c9 hfl E σ (f * u) d (by omega) (by omega)) mJ9_floorMod_f86c9 kX11_287 rfl ⟨rfl, rfl⟩ (show zfit (zrm 0 0) 6 (zrm 1 25) = true from rfl) (Nat.le_of_ble_eq_true rfl) dX11_angleNow_11 ⟨Nat.zero_le _, Nat.zero_le _⟩ ?_
  refine zv_ldc2 C kX11_281 dX11_angleNow_14 ?_
  refine zv_eql (y := zL 1296000) (by decide) ?_
  refine zv_lmulZ C dX11_angleNow_17 ?_
  refine zv_aload_n C 0 dX11_angleNow_18 rfl rfl ?_
  refine zG10_23 C (by decide : kd 327 = _) kX11_253 dX11_angleNow_19 ?_
  refine zv_eql (y := (zL d)) (hdn) ?_
  refine zv_ldivP C (by omega) (by omega) dX11_angleNow_22 ?_
  refine zv_l2iZ C dX11_angleNow_23 ?_
  exact zv_iret C hr rfl dX11_angleNow_24 ⟨rfl, rfl⟩
set_option maxRecDepth 20000 in
theorem c_X11_angleOf {l : Launch} (hfl : l.stackTraces = false) (E : zE) (σ : zS) (σc : zS) (U : zSU) (S : zST) (i : Nat) (f : Nat) (hB : zRb (gI σ 328) U) (hU : zSUp σc 29 U) (hW : zRo (gI σ 332) U.nb S) (hS : zSTp σc 34 S) (hi : i < U.nb) (hf : f ≤ 400000) : zRi l E yX11_angleOf cX11_angleOf 3 .int (zrm 5 127) [.ref (ob E 327), .int (zI (i : Int)), .int (zI (f : Int))] σ (fun r τ => r = zI (qAng U S i (f : Int)) ∧ τ = mW σ (qPtr U S i).1 (qPtr U S i).2) := by
  refine Met.ofW (cc := cX11_angleOf) (maxL := 3) (ret := (some .int)) (by decide +kernel) rfl ?_
  intro p e s m args below meth c s₁ B hml hv
  obtain ⟨rfl, hd⟩ := hv
  have C := zX_of (own := RX11) hfl B hml rfl hd rfl
  have hr := B.returns
  refine zV_go hd (Nat.le_of_ble_eq_true rfl) (lv := [(0, .ref (ob E 327)), (1, .int (zI (i : Int))), (2, .int (zI (f : Int)))]) rfl ?_
  have hnb : U.nb ≤ 8 := hU.2.2.1
  have hs0 := hU.2.2.2.1
  have hi8 : i < 8 := by omega
  have hca := (hU.2.2.2.2 i hi).2.2.2.2.2.2
  have hpe := (hU.2.2.2.2 i hi).2.2.2.2.1
  have hre := (hU.2.2.2.2 i hi).2.2.2.2.2.1
  have hqp := qPtr_b hU hS hi
  have hm := mul_b (a := (f : Int)) (b := (qPtr U S i).1) (A := 400000) (by omega) hqp.1
  refine zv_aload_n C 0 dX11_angleOf_0 rfl rfl ?_
  refine zv_iload_n C 1 dX11_angleOf_1 rfl rfl ?_
  refine zv_cvvD (st := []) C (c_X11_ratio hfl E σ σc U S i hB hU hW hS hi) mX11_ratio kX11_278 (by decide : kd 327 = 10) rfl rfl rfl ⟨rfl, rfl⟩ (show zfit (zrm 4 102) 6 (zrm 5 127) = true from rfl) (Nat.le_of_ble_eq_true rfl) dX11_angleOf_2 ⟨Nat.zero_le _, Nat.zero_le _⟩ ?_
  refine zv_aload_n C 0 dX11_angleOf_5 rfl rfl ?_
  refine zv_iload_n C 2 dX11_angleOf_6 rfl rfl ?_
  refine zv_cviD (st := []) C (c_X11_angleNow hfl E (mW σ (qPtr U S i).1 (qPtr U S i).2) (qPtr U S i).1 (qPtr U S i).2 (f : Int) (mW_r _ _ _).1 (mW_r _ _ _).2 (by omega) (by omega) (by omega)) mX11_angleNow kX11_290 (by decide : kd 327 = 10) rfl rfl rfl ⟨rfl, rfl⟩ (show zfit (zrm 1 25) 2 (zrm 5 127) = true from rfl) (Nat.le_of_ble_eq_true rfl) dX11_angleOf_7 ⟨Nat.zero_le _, Nat.zero_le _⟩ ?_
  refine zv_eqi (y := (zI (qAng U S i (f : Int)))) (by rw [Int.mul_comm (f : Int)]; rfl) ?_
  exact zv_iret C hr rfl dX11_angleOf_10 ⟨rfl, rfl⟩
/-- the backlash from the train's end: all, below, above, k parts done -/
def bk (c : Nat → Nat → Nat) (n : Nat) : Nat → Int × Int × Int
  | 0 => (0, 1, 1)
  | k + 1 => if c (n - (k + 1)) 0 = 2 then ((bk c n k).1 + 2 * (bk c n k).2.2, (bk c n k).2.1, (bk c n k).2.2) else (((bk c n k).1 + (bk c n k).2.2) * (c (n - (k + 1)) 2 : Int), (bk c n k).2.1 * (c (n - (k + 1)) 2 : Int), (bk c n k).2.2 * (c (n - (k + 1)) 1 : Int))
theorem bk_i (c : Nat → Nat → Nat) (a : Int) (n : Nat) : ∀ k, k ≤ n → tPl c a n = tPl c a (n - k) * (bk c n k).2.2 + a * tBot c (n - k) * (bk c n k).1 ∧ tBot c n = tBot c (n - k) * (bk c n k).2.1 := by
  intro k
  induction k with
  | zero => intro _; exact ⟨by show _ = tPl c a n * 1 + a * tBot c n * 0; omega, by show _ = tBot c n * 1; omega⟩
  | succ k ih =>
    intro hk
    obtain ⟨h1, h2⟩ := ih (by omega)
    obtain ⟨j, hj⟩ : ∃ j, n - k = j + 1 := ⟨n - (k + 1), by omega⟩
    have hj2 : n - (k + 1) = j := by omega
    rw [hj] at h1 h2
    rw [hj2]
    simp only [bk]
    rw [hj2]
    simp only [tPl, tBot] at h1 h2
    generalize (bk c n k).1 = L at *
    generalize (bk c n k).2.2 = A at *
    generalize (bk c n k).2.1 = B at *
    by_cases q : c j 0 = 2
    · rw [if_pos q] at h1 h2 ⊢
      rw [h1, h2]
      refine ⟨?_, by simp only [Int.mul_one]⟩
      simp only [Int.mul_one, if_pos q, Int.mul_add, Int.add_mul]
      simp only [Int.mul_assoc, Int.mul_comm, Int.mul_left_comm]
      omega
    · rw [if_neg q] at h1 h2 ⊢
      rw [h1, h2]
      refine ⟨?_, by simp only [Int.mul_assoc, Int.mul_comm, Int.mul_left_comm]⟩
      simp only [if_neg q, Int.mul_add, Int.add_mul]
      simp only [Int.mul_assoc, Int.mul_comm, Int.mul_left_comm]
      omega
theorem bk_e (c : Nat → Nat → Nat) (a : Int) (n : Nat) : (bk c n n).1 * a = tPl c a n ∧ (bk c n n).2.1 = tBot c n := by
  obtain ⟨h1, h2⟩ := bk_i c a n n (Nat.le_refl _)
  rw [Nat.sub_self] at h1 h2
  have e1 : tPl c a 0 = 0 := rfl
  have e2 : tBot c 0 = 1 := rfl
  rw [e1, e2] at h1
  rw [e2] at h2
  rw [h1, h2]
  refine ⟨?_, by omega⟩
  rw [Int.zero_mul, Int.mul_one, Int.zero_add, Int.mul_comm]
set_option maxRecDepth 20000 in
theorem c_X11_backlashNow {l : Launch} (hfl : l.stackTraces = false) (E : zE) (σ : zS) (σc : zS) (U : zSU) (S : zST) (i : Nat) (hW : zRo (gI σ 332) U.nb S) (hS : zSTp σc 34 S) (hi : i < 8) : zRi l E yX11_backlashNow cX11_backlashNow 10 .int (zrm 2 44) [.ref (ob E 327), .int (zI (i : Int))] σ (fun r τ => r = zI (qPlay S i) ∧ τ = σ) := by
  refine Met.ofW (cc := cX11_backlashNow) (maxL := 10) (ret := (some .int)) (by decide +kernel) rfl ?_
  intro p e s m args below meth c s₁ B hml hv
  obtain ⟨rfl, hd⟩ := hv
  have C := zX_of (own := RX11) hfl B hml rfl hd rfl
  have hr := B.returns
  refine zV_go hd (Nat.le_of_ble_eq_true rfl) (lv := [(0, .ref (ob E 327)), (1, .int (zI (i : Int)))]) rfl ?_
  have hTc := hS.2.2.2.2.2.2 i hi
  have ht := hTc.1.2.1
  have hc : ∀ j w, j < S.tn i → w < 3 → S.tr i j w ≤ 100 := fun j w a b => hTc.1.2.2.2 j w a b
  have hsl := hS.2.2.2.1.2
  have hbe := bk_e (S.tr i) (S.sl : Int) (S.tn i)
  have htp := tPl_bound (S.tr i) (S.tn i) hTc.2 (S.sl : Int) (by omega)
  have htb := tBot_10000 _ _ hTc.2 _ (Nat.le_refl _)
  refine zv_lconst (v := zL 0) C dX11_backlashNow_0 (by decide) ?_
  refine zv_lstore_n (lv' := [(2, .long (zL 0)), (0, .ref (ob E 327)), (1, .int (zI (i : Int)))]) C dX11_backlashNow_1 rfl (by decide) rfl ?_
  refine zv_lconst (v := zL 1) C dX11_backlashNow_2 (by decide) ?_
  refine zv_lstore (lv' := [(4, .long (zL 1)), (2, .long (zL 0)), (0, .ref (ob E 327)), (1, .int (zI (i : Int)))]) C dX11_backlashNow_3  (by decide) rfl ?_
  refine zv_lconst (v := zL 1) C dX11_backlashNow_5 (by decide) ?_
  refine zv_lstore (lv' := [(6, .long (zL 1)), (4, .long (zL 1)), (2, .long (zL 0)), (0, .ref (ob E 327)), (1, .int (zI (i : Int)))]) C dX11_backlashNow_6  (by decide) rfl ?_
  refine zv_aload_n C 3 dX11_backlashNow_8 rfl rfl ?_
  refine zv_iload_n C 4 dX11_backlashNow_9 rfl rfl ?_
  refine zv_cviD (st := []) C (c_X11_parts hfl E σ U.nb S i hW hi) mX11_parts kX11_188 (by decide : kd 327 = 10) rfl rfl rfl ⟨rfl, rfl⟩ (show zfit (zrm 1 21) 2 (zrm 2 44) = true from rfl) (Nat.le_of_ble_eq_true rfl) dX11_backlashNow_10 ⟨Nat.zero_le _, Nat.zero_le _⟩ ?_
  refine zv_iconst (v := zI 1) C dX11_backlashNow_13 rfl ?_
  refine zv_isubZ C dX11_backlashNow_14 ?_
  refine zv_istore (lv' := [(8, .int (zI ((S.tn i : Int) - 1))), (6, .long (zL 1)), (4, .long (zL 1)), (2, .long (zL 0)), (0, .ref (ob E 327)), (1, .int (zI (i : Int)))]) C dX11_backlashNow_15  (by decide) rfl ?_
  have q17_19 : ((S.tn i : Int) - 1 : Int) = (S.tn i : Int) - 1 - (0 : Int) := by first | rfl | omega
  have q17_20 : (1 : Int) = (bk (S.tr i) (S.tn i) 0).2.2 := by rfl
  have q17_21 : (1 : Int) = (bk (S.tr i) (S.tn i) 0).2.1 := by rfl
  have q17_22 : (0 : Int) = (bk (S.tr i) (S.tn i) 0).1 := by rfl
  refine zv_sub (lv' := [(0, .ref (ob E 327)), (1, .int (zI (i : Int))), (2, .long (zL ((bk (S.tr i) (S.tn i) 0).1))), (4, .long (zL ((bk (S.tr i) (S.tn i) 0).2.1))), (6, .long (zL ((bk (S.tr i) (S.tn i) 0).2.2))), (8, .int (zI ((S.tn i : Int) - 1 - (0 : Int))))]) [4, 5, 3, 2, 1, 0] (zcons rfl (zcons rfl (zcons (zqL q17_22) (zcons (zqL q17_21) (zcons (zqL q17_20) (zcons (zqI q17_19) rfl)))))) ?_
  refine zv_while (α := Nat) (fun v => S.tn i - v) (fun v => v ≤ S.tn i) (fun v => σ) (fun v => [(0, .ref (ob E 327)), (1, .int (zI (i : Int))), (2, .long (zL ((bk (S.tr i) (S.tn i) v).1))), (4, .long (zL ((bk (S.tr i) (S.tn i) v).2.1))), (6, .long (zL ((bk (S.tr i) (S.tn i) v).2.2))), (8, .int (zI ((S.tn i : Int) - 1 - (v : Int))))]) (fun v => []) (fun k hI ih => ?_) (0) (by omega)
  refine zv_iload C 5 dX11_backlashNow_17 rfl ?_
  refine zv_if_ltZ (tgt := 113) C (by omega) dX11_backlashNow_19 (by decide) (fun h19 => ?_) (fun h19 => ?_)
  · skip
    have hk9 : k = S.tn i := by omega
    refine zv_lload_n C 2 dX11_backlashNow_113 rfl rfl ?_
    refine zv_aload_n C 0 dX11_backlashNow_114 rfl rfl ?_
    refine zG10_4 C (by decide : kd 327 = _) kX11_22 dX11_backlashNow_115 ?_
    refine zv_bipush (v := zI 17) C dX11_backlashNow_118 (by decide) ?_
    refine zv_iald (j := 17) C (by decide : kd 332 = _) (zI_ix (by omega)) (by decide) dX11_backlashNow_120 ?_
    refine zv_eqi (y := (zI (S.sl : Int))) (hW.2.2.1) ?_
    refine zv_i2lZ C (by omega) dX11_backlashNow_121 ?_
    refine zv_lmulZ C dX11_backlashNow_122 ?_
    refine zv_eql (y := (zL (tPl (S.tr i) (S.sl : Int) (S.tn i)))) (by rw [hk9, hbe.1]) ?_
    refine zv_lload C 3 dX11_backlashNow_123 rfl ?_
    refine zv_eql (y := (zL (tBot (S.tr i) (S.tn i)))) (by rw [hk9, hbe.2]) ?_
    refine zv_ldivP C (by omega) (by omega) dX11_backlashNow_125 ?_
    refine zv_l2iZ C dX11_backlashNow_126 ?_
    exact zv_iret C hr rfl dX11_backlashNow_127 ⟨rfl, rfl⟩
  · skip
    have hj9 : (S.tn i : Int) - 1 - (k : Int) = (((S.tn i - (k + 1)) : Nat) : Int) := by omega
    have hc0 := hc (S.tn i - (k + 1)) 0 (by omega) (by omega)
    have hc1 := hc (S.tn i - (k + 1)) 1 (by omega) (by omega)
    have hc2 := hc (S.tn i - (k + 1)) 2 (by omega) (by omega)
    refine zv_aload_n C 0 dX11_backlashNow_22 rfl rfl ?_
    refine zv_iload_n C 1 dX11_backlashNow_23 rfl rfl ?_
    refine zv_iload C 5 dX11_backlashNow_24 rfl ?_
    refine zv_eqi (y := (zI (((S.tn i - (k + 1)) : Nat) : Int))) (by rw [hj9]) ?_
    refine zv_iconst (v := zI 0) C dX11_backlashNow_26 rfl ?_
    refine zv_cviD (st := []) C (c_X11_partOf hfl E σ U.nb S i (S.tn i - (k + 1)) 0 hW hi (by omega) ht (by omega)) mX11_partOf kX11_191 (by decide : kd 327 = 10) rfl rfl rfl ⟨rfl, rfl⟩ (show zfit (zrm 1 21) 4 (zrm 2 44) = true from rfl) (Nat.le_of_ble_eq_true rfl) dX11_backlashNow_27 ⟨Nat.zero_le _, Nat.zero_le _⟩ ?_
    refine zv_iconst (v := zI 2) C dX11_backlashNow_30 rfl ?_
    refine zv_icmp_neZ (tgt := 38) C (by omega) (by omega) dX11_backlashNow_31 (by decide) (fun h31 => ?_) (fun h31 => ?_)
    · skip
      refine zv_iconst (v := zI 0) C dX11_backlashNow_38 rfl ?_
      refine zv_istore (lv' := [(9, .int (zI 0)), (0, .ref (ob E 327)), (1, .int (zI (i : Int))), (2, .long (zL ((bk (S.tr i) (S.tn i) k).1))), (4, .long (zL ((bk (S.tr i) (S.tn i) k).2.1))), (6, .long (zL ((bk (S.tr i) (S.tn i) k).2.2))), (8, .int (zI ((S.tn i : Int) - 1 - (k : Int))))]) C dX11_backlashNow_39  (by decide) rfl ?_
      refine zv_lload_n C 3 dX11_backlashNow_41 rfl rfl ?_
      refine zv_iload C 0 dX11_backlashNow_42 rfl ?_
      refine zv_if_eqZ (tgt := 53) C (by omega) dX11_backlashNow_44 (by decide) (fun h44 => ?_) (fun h44 => absurd h44 (by decide))
      refine zv_lconst (v := zL 1) C dX11_backlashNow_53 (by decide) ?_
      refine zv_lload C 5 dX11_backlashNow_54 rfl ?_
      refine zv_lmulZ C dX11_backlashNow_56 ?_
      refine zv_laddZ C dX11_backlashNow_57 ?_
      refine zv_lstore_n (lv' := [(2, .long (zL (((bk (S.tr i) (S.tn i) k).1) + (1 * ((bk (S.tr i) (S.tn i) k).2.2))))), (9, .int (zI 0)), (0, .ref (ob E 327)), (1, .int (zI (i : Int))), (4, .long (zL ((bk (S.tr i) (S.tn i) k).2.1))), (6, .long (zL ((bk (S.tr i) (S.tn i) k).2.2))), (8, .int (zI ((S.tn i : Int) - 1 - (k : Int))))]) C dX11_backlashNow_58 rfl (by decide) rfl ?_
      refine zv_iload C 1 dX11_backlashNow_59 rfl ?_
      refine zv_if_eqZ (tgt := 67) C (by omega) dX11_backlashNow_61 (by decide) (fun h61 => ?_) (fun h61 => absurd h61 (by decide))
      refine zv_lload_n C 0 dX11_backlashNow_67 rfl rfl ?_
      refine zv_aload_n C 2 dX11_backlashNow_68 rfl rfl ?_
      refine zv_iload_n C 3 dX11_backlashNow_69 rfl rfl ?_
      refine zv_iload C 6 dX11_backlashNow_70 rfl ?_
      refine zv_eqi (y := (zI (((S.tn i - (k + 1)) : Nat) : Int))) (by rw [hj9]) ?_
      refine zv_iconst (v := zI 2) C dX11_backlashNow_72 rfl ?_
      refine zv_cviD (st := [.long (zL (((bk (S.tr i) (S.tn i) k).1) + (1 * ((bk (S.tr i) (S.tn i) k).2.2))))]) C (c_X11_partOf hfl E σ U.nb S i (S.tn i - (k + 1)) 2 hW hi (by omega) ht (by omega)) mX11_partOf kX11_191 (by decide : kd 327 = 10) rfl rfl rfl ⟨rfl, rfl⟩ (show zfit (zrm 1 21) 4 (zrm 2 44) = true from rfl) (Nat.le_of_ble_eq_true rfl) dX11_backlashNow_73 ⟨Nat.zero_le _, Nat.zero_le _⟩ ?_
      refine zv_i2lZ C (by omega) dX11_backlashNow_76 ?_
      refine zv_lmulZ C dX11_backlashNow_77 ?_
      refine zv_lstore_n (lv' := [(2, .long (zL ((((bk (S.tr i) (S.tn i) k).1) + (1 * ((bk (S.tr i) (S.tn i) k).2.2))) * (S.tr i (S.tn i - (k + 1)) 2 : Int)))), (9, .int (zI 0)), (0, .ref (ob E 327)), (1, .int (zI (i : Int))), (4, .long (zL ((bk (S.tr i) (S.tn i) k).2.1))), (6, .long (zL ((bk (S.tr i) (S.tn i) k).2.2))), (8, .int (zI ((S.tn i : Int) - 1 - (k : Int))))]) C dX11_backlashNow_78 rfl (by decide) rfl ?_
      refine zv_lload C 4 dX11_backlashNow_79 rfl ?_
      refine zv_aload_n C 2 dX11_backlashNow_81 rfl rfl ?_
      refine zv_iload_n C 3 dX11_backlashNow_82 rfl rfl ?_
      refine zv_iload C 6 dX11_backlashNow_83 rfl ?_
      refine zv_eqi (y := (zI (((S.tn i - (k + 1)) : Nat) : Int))) (by rw [hj9]) ?_
      refine zv_iconst (v := zI 2) C dX11_backlashNow_85 rfl ?_
      refine zv_cviD (st := [.long (zL ((bk (S.tr i) (S.tn i) k).2.1))]) C (c_X11_partOf hfl E σ U.nb S i (S.tn i - (k + 1)) 2 hW hi (by omega) ht (by omega)) mX11_partOf kX11_191 (by decide : kd 327 = 10) rfl rfl rfl ⟨rfl, rfl⟩ (show zfit (zrm 1 21) 4 (zrm 2 44) = true from rfl) (Nat.le_of_ble_eq_true rfl) dX11_backlashNow_86 ⟨Nat.zero_le _, Nat.zero_le _⟩ ?_
      refine zv_i2lZ C (by omega) dX11_backlashNow_89 ?_
      refine zv_lmulZ C dX11_backlashNow_90 ?_
      refine zv_lstore (lv' := [(4, .long (zL (((bk (S.tr i) (S.tn i) k).2.1) * (S.tr i (S.tn i - (k + 1)) 2 : Int)))), (2, .long (zL ((((bk (S.tr i) (S.tn i) k).1) + (1 * ((bk (S.tr i) (S.tn i) k).2.2))) * (S.tr i (S.tn i - (k + 1)) 2 : Int)))), (9, .int (zI 0)), (0, .ref (ob E 327)), (1, .int (zI (i : Int))), (6, .long (zL ((bk (S.tr i) (S.tn i) k).2.2))), (8, .int (zI ((S.tn i : Int) - 1 - (k : Int))))]) C dX11_backlashNow_91  (by decide) rfl ?_
      refine zv_lload C 5 dX11_backlashNow_93 rfl ?_
      refine zv_aload_n C 3 dX11_backlashNow_95 rfl rfl ?_
      refine zv_iload_n C 4 dX11_backlashNow_96 rfl rfl ?_
      refine zv_iload C 6 dX11_backlashNow_97 rfl ?_
      refine zv_eqi (y := (zI (((S.tn i - (k + 1)) : Nat) : Int))) (by rw [hj9]) ?_
      refine zv_iconst (v := zI 1) C dX11_backlashNow_99 rfl ?_
      refine zv_cviD (st := [.long (zL ((bk (S.tr i) (S.tn i) k).2.2))]) C (c_X11_partOf hfl E σ U.nb S i (S.tn i - (k + 1)) 1 hW hi (by omega) ht (by omega)) mX11_partOf kX11_191 (by decide : kd 327 = 10) rfl rfl rfl ⟨rfl, rfl⟩ (show zfit (zrm 1 21) 4 (zrm 2 44) = true from rfl) (Nat.le_of_ble_eq_true rfl) dX11_backlashNow_100 ⟨Nat.zero_le _, Nat.zero_le _⟩ ?_
      refine zv_i2lZ C (by omega) dX11_backlashNow_103 ?_
      refine zv_lmulZ C dX11_backlashNow_104 ?_
      refine zv_lstore (lv' := [(6, .long (zL (((bk (S.tr i) (S.tn i) k).2.2) * (S.tr i (S.tn i - (k + 1)) 1 : Int)))), (4, .long (zL (((bk (S.tr i) (S.tn i) k).2.1) * (S.tr i (S.tn i - (k + 1)) 2 : Int)))), (2, .long (zL ((((bk (S.tr i) (S.tn i) k).1) + (1 * ((bk (S.tr i) (S.tn i) k).2.2))) * (S.tr i (S.tn i - (k + 1)) 2 : Int)))), (9, .int (zI 0)), (0, .ref (ob E 327)), (1, .int (zI (i : Int))), (8, .int (zI ((S.tn i : Int) - 1 - (k : Int))))]) C dX11_backlashNow_105  (by decide) rfl ?_
      refine zv_iinc (v := (zI ((S.tn i : Int) - 1 - (k : Int) + (-1)))) (lv' := [(8, .int (zI ((S.tn i : Int) - 1 - (k : Int) + (-1)))), (6, .long (zL (((bk (S.tr i) (S.tn i) k).2.2) * (S.tr i (S.tn i - (k + 1)) 1 : Int)))), (4, .long (zL (((bk (S.tr i) (S.tn i) k).2.1) * (S.tr i (S.tn i - (k + 1)) 2 : Int)))), (2, .long (zL ((((bk (S.tr i) (S.tn i) k).1) + (1 * ((bk (S.tr i) (S.tn i) k).2.2))) * (S.tr i (S.tn i - (k + 1)) 2 : Int)))), (9, .int (zI 0)), (0, .ref (ob E 327)), (1, .int (zI (i : Int)))]) C 6 dX11_backlashNow_107 rfl (zI_add _ _) (by decide) rfl ?_
      refine zv_goto (tgt := 17) C dX11_backlashNow_110 (by decide) ?_
      have q17_101 : ((S.tn i : Int) - 1 - (k : Int) + (-1) : Int) = (S.tn i : Int) - 1 - ((k + 1 : Nat) : Int) := by first | rfl | omega
      have q17_102 : (((bk (S.tr i) (S.tn i) k).2.2) * (S.tr i (S.tn i - (k + 1)) 1 : Int) : Int) = (bk (S.tr i) (S.tn i) (k + 1)).2.2 := by simp only [bk]; first | rw [if_pos (by omega)] | rw [if_neg (by omega)]
      have q17_103 : (((bk (S.tr i) (S.tn i) k).2.1) * (S.tr i (S.tn i - (k + 1)) 2 : Int) : Int) = (bk (S.tr i) (S.tn i) (k + 1)).2.1 := by simp only [bk]; first | rw [if_pos (by omega)] | rw [if_neg (by omega)]
      have q17_104 : ((((bk (S.tr i) (S.tn i) k).1) + (1 * ((bk (S.tr i) (S.tn i) k).2.2))) * (S.tr i (S.tn i - (k + 1)) 2 : Int) : Int) = (bk (S.tr i) (S.tn i) (k + 1)).1 := by simp only [bk]; first | rw [if_pos (by omega)] | (rw [if_neg (by omega), Int.one_mul])
      refine zv_sub (lv' := [(0, .ref (ob E 327)), (1, .int (zI (i : Int))), (2, .long (zL ((bk (S.tr i) (S.tn i) (k + 1)).1))), (4, .long (zL ((bk (S.tr i) (S.tn i) (k + 1)).2.1))), (6, .long (zL ((bk (S.tr i) (S.tn i) (k + 1)).2.2))), (8, .int (zI ((S.tn i : Int) - 1 - ((k + 1 : Nat) : Int))))]) [5, 6, 3, 2, 1, 0] (zcons rfl (zcons rfl (zcons (zqL q17_104) (zcons (zqL q17_103) (zcons (zqL q17_102) (zcons (zqI q17_101) rfl)))))) ?_
      exact ih (k + 1) (by omega) (by omega)
    · skip
      refine zv_iconst (v := zI 1) C dX11_backlashNow_34 rfl ?_
      refine zv_goto (tgt := 39) C dX11_backlashNow_35 (by decide) ?_
      refine zv_istore (lv' := [(9, .int (zI 1)), (0, .ref (ob E 327)), (1, .int (zI (i : Int))), (2, .long (zL ((bk (S.tr i) (S.tn i) k).1))), (4, .long (zL ((bk (S.tr i) (S.tn i) k).2.1))), (6, .long (zL ((bk (S.tr i) (S.tn i) k).2.2))), (8, .int (zI ((S.tn i : Int) - 1 - (k : Int))))]) C dX11_backlashNow_39  (by decide) rfl ?_
      refine zv_lload_n C 3 dX11_backlashNow_41 rfl rfl ?_
      refine zv_iload C 0 dX11_backlashNow_42 rfl ?_
      refine zv_if_eqZ (tgt := 53) C (by omega) dX11_backlashNow_44 (by decide) (fun h44 => absurd h44 (by decide)) (fun h44 => ?_)
      refine zv_ldc2 C kX11_256 dX11_backlashNow_47 ?_
      refine zv_eql (y := zL 2) (by decide) ?_
      refine zv_goto (tgt := 54) C dX11_backlashNow_50 (by decide) ?_
      refine zv_lload C 5 dX11_backlashNow_54 rfl ?_
      refine zv_lmulZ C dX11_backlashNow_56 ?_
      refine zv_laddZ C dX11_backlashNow_57 ?_
      refine zv_lstore_n (lv' := [(2, .long (zL (((bk (S.tr i) (S.tn i) k).1) + (2 * ((bk (S.tr i) (S.tn i) k).2.2))))), (9, .int (zI 1)), (0, .ref (ob E 327)), (1, .int (zI (i : Int))), (4, .long (zL ((bk (S.tr i) (S.tn i) k).2.1))), (6, .long (zL ((bk (S.tr i) (S.tn i) k).2.2))), (8, .int (zI ((S.tn i : Int) - 1 - (k : Int))))]) C dX11_backlashNow_58 rfl (by decide) rfl ?_
      refine zv_iload C 1 dX11_backlashNow_59 rfl ?_
      refine zv_if_eqZ (tgt := 67) C (by omega) dX11_backlashNow_61 (by decide) (fun h61 => absurd h61 (by decide)) (fun h61 => ?_)
      refine zv_goto (tgt := 107) C dX11_backlashNow_64 (by decide) ?_
      refine zv_iinc (v := (zI ((S.tn i : Int) - 1 - (k : Int) + (-1)))) (lv' := [(8, .int (zI ((S.tn i : Int) - 1 - (k : Int) + (-1)))), (2, .long (zL (((bk (S.tr i) (S.tn i) k).1) + (2 * ((bk (S.tr i) (S.tn i) k).2.2))))), (9, .int (zI 1)), (0, .ref (ob E 327)), (1, .int (zI (i : Int))), (4, .long (zL ((bk (S.tr i) (S.tn i) k).2.1))), (6, .long (zL ((bk (S.tr i) (S.tn i) k).2.2)))]) C 6 dX11_backlashNow_107 rfl (zI_add _ _) (by decide) rfl ?_
      refine zv_goto (tgt := 17) C dX11_backlashNow_110 (by decide) ?_
      have q17_126 : ((S.tn i : Int) - 1 - (k : Int) + (-1) : Int) = (S.tn i : Int) - 1 - ((k + 1 : Nat) : Int) := by first | rfl | omega
      have q17_127 : ((bk (S.tr i) (S.tn i) k).2.2 : Int) = (bk (S.tr i) (S.tn i) (k + 1)).2.2 := by simp only [bk]; first | rw [if_pos (by omega)] | rw [if_neg (by omega)]
      have q17_128 : ((bk (S.tr i) (S.tn i) k).2.1 : Int) = (bk (S.tr i) (S.tn i) (k + 1)).2.1 := by simp only [bk]; first | rw [if_pos (by omega)] | rw [if_neg (by omega)]
      have q17_129 : (((bk (S.tr i) (S.tn i) k).1) + (2 * ((bk (S.tr i) (S.tn i) k).2.2)) : Int) = (bk (S.tr i) (S.tn i) (k + 1)).1 := by simp only [bk]; first | rw [if_pos (by omega)] | (rw [if_neg (by omega), Int.one_mul])
      refine zv_sub (lv' := [(0, .ref (ob E 327)), (1, .int (zI (i : Int))), (2, .long (zL ((bk (S.tr i) (S.tn i) (k + 1)).1))), (4, .long (zL ((bk (S.tr i) (S.tn i) (k + 1)).2.1))), (6, .long (zL ((bk (S.tr i) (S.tn i) (k + 1)).2.2))), (8, .int (zI ((S.tn i : Int) - 1 - ((k + 1 : Nat) : Int))))]) [3, 4, 1, 5, 6, 0] (zcons rfl (zcons rfl (zcons (zqL q17_129) (zcons (zqL q17_128) (zcons (zqL q17_127) (zcons (zqI q17_126) rfl)))))) ?_
      exact ih (k + 1) (by omega) (by omega)
