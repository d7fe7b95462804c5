/-! the drive's ratios: pointers, what is due, the drift between them -/
theorem tTop_le (tc : Nat → Nat → Nat) (n : Nat) (h : zTw n tc) : ∀ j, j ≤ n → (tTop tc j).natAbs ≤ 100 ^ tGe tc j := by
  intro j
  induction j with
  | zero => intro _; exact Nat.le_refl _
  | succ j ih =>
    intro hj
    have h1 := ih (by omega)
    obtain ⟨-, -, h3, -, -⟩ := h.2.2 j (by omega)
    simp only [tTop, tGe]
    rw [Int.natAbs_mul, Int.natAbs_mul]
    have e : (if tc j 0 = 1 then (1 : Int) else -1).natAbs = 1 := by split <;> rfl
    rw [e, Nat.mul_one]
    split
    · rw [Nat.add_zero]; simpa using h1
    · rw [Nat.pow_succ]
      exact Nat.mul_le_mul h1 (by omega)
/-- a train's ratio as it is made up -/
def tZ (n : Nat) (tc : Nat → Nat → Nat) : Int := if n = 0 then 0 else tTop tc n
theorem tZ_b {n : Nat} {tc : Nat → Nat → Nat} (h : zTw n tc) : (tZ n tc).natAbs ≤ 10000 := by
  unfold tZ
  split
  · decide
  · refine Nat.le_trans (tTop_le tc n h n (Nat.le_refl _)) ?_
    have h3 := h.2.1
    rcases (show tGe tc n = 0 ∨ tGe tc n = 1 ∨ tGe tc n = 2 by omega) with q | q | q <;> rw [q] <;> decide
theorem rT_b (z w : Int) : (rT z w).natAbs ≤ z.natAbs := by
  unfold rT
  rw [Int.natAbs_tdiv]
  exact Nat.div_le_self _ _
theorem rB_b {z w : Int} (hw : 1 ≤ w) : 1 ≤ rB z w ∧ rB z w ≤ w := by
  have h := Int.ediv_le_self (a := w) (rG z w : Int) (by omega)
  unfold rB
  omega
def rW (σ : zS) (r : Nat) (t b : Int) : zS := sJ (sJ σ r 0 (zL t)) r 1 (zL b)
theorem rW_o (σ : zS) (r : Nat) (t b t' b' : Int) : rW (rW σ r t b) r t' b' = rW σ r t' b' := by
  apply zS_ext
  · intro x y; rfl
  · intro x y
    simp only [rW, gJ_sJ]
    split
    · rfl
    · split <;> rfl
  · intro x y; rfl
theorem rW_R (σ : zS) (r : Nat) (t b : Int) : zRt (rW σ r t b) r t b := ⟨by unfold rW; rw [gJ_sJ, if_neg (by omega), gJ_sJ, if_pos ⟨rfl, rfl⟩], by unfold rW; rw [gJ_sJ, if_pos ⟨rfl, rfl⟩]⟩
theorem gI_rW (σ : zS) (r : Nat) (t b : Int) (x y : Nat) : gI (rW σ r t b) x y = gI σ x y := rfl
theorem gJ_rW (σ : zS) (r : Nat) (t b : Int) (x y : Nat) (h : x ≠ r) : gJ (rW σ r t b) x y = gJ σ x y := by
  unfold rW
  rw [gJ_sJ, if_neg (by omega), gJ_sJ, if_neg (by omega)]
theorem zSTp_rW {σ : zS} {k r : Nat} {S : zST} {t b : Int} (h : zSTp σ k S) : zSTp (rW σ r t b) k S := zSTp_w h (fun _ _ _ _ => rfl)
theorem zSUp_rW {σ : zS} {r : Nat} {U : zSU} {t b : Int} (h : zSUp σ 29 U) (hr : 34 ≤ r) : zSUp (rW σ r t b) 29 U := zSUp_w h (fun x y _ _ => ⟨rfl, gJ_rW _ _ _ _ _ _ (by omega)⟩)
theorem mul_b {a b : Int} {A B : Nat} (ha : a.natAbs ≤ A) (hb : b.natAbs ≤ B) : (a * b).natAbs ≤ A * B := by
  rw [Int.natAbs_mul]; exact Nat.mul_le_mul ha hb
/-- one ratio, and another one on top of it -/
def rAd (p : Int × Int) (z w : Int) : Int × Int := (rT (p.1 * w + z * p.2) (p.2 * w), rB (p.1 * w + z * p.2) (p.2 * w))
def rLo (z w : Int) : Int × Int := (rT z w, rB z w)
theorem rAd_b {p : Int × Int} {z w : Int} {A B C D : Nat} (h1 : p.1.natAbs ≤ A) (h2 : 1 ≤ p.2 ∧ p.2 ≤ B) (h3 : z.natAbs ≤ C) (h4 : 1 ≤ w ∧ w ≤ D) :
    (p.1 * w + z * p.2).natAbs ≤ A * D + C * B ∧ (1 ≤ p.2 * w ∧ p.2 * w ≤ B * D) ∧ (rAd p z w).1.natAbs ≤ A * D + C * B ∧ 1 ≤ (rAd p z w).2 ∧ (rAd p z w).2 ≤ B * D := by
  have e1 := mul_b (b := w) h1 (show w.natAbs ≤ D by omega)
  have e2 := mul_b (b := p.2) h3 (show p.2.natAbs ≤ B by omega)
  have e3 := mul_b (a := p.2) (b := w) (show p.2.natAbs ≤ B by omega) (show w.natAbs ≤ D by omega)
  have e4 : (1 : Int) * 1 ≤ p.2 * w := Int.mul_le_mul h2.1 h4.1 (by omega) (by omega)
  have e5 : (p.1 * w + z * p.2).natAbs ≤ A * D + C * B := Nat.le_trans (Int.natAbs_add_le _ _) (by omega)
  have e6 : 1 ≤ p.2 * w ∧ p.2 * w ≤ ((B * D : Nat) : Int) := ⟨by omega, by omega⟩
  have e7 := rB_b (z := p.1 * w + z * p.2) e6.1
  refine ⟨e5, by rw [Int.natCast_mul] at e6; exact e6, Nat.le_trans (rT_b _ _) e5, e7.1, ?_⟩
  have : (rAd p z w).2 ≤ p.2 * w := e7.2
  rw [← Int.natCast_mul]
  omega
/-- the pointer's ratio: its own, and its carrier's -/
def qOwn (S : zST) (i : Nat) : Int × Int := rLo (tZ (S.tn i) (S.tr i)) (tBot (S.tr i) (S.tn i))
def qPtr (U : zSU) (S : zST) (i : Nat) : Int × Int := if U.ca i < 0 then qOwn S i else rAd (qOwn S i) (tZ (S.tn (U.ca i).toNat) (S.tr (U.ca i).toNat)) (tBot (S.tr (U.ca i).toNat) (S.tn (U.ca i).toNat))
theorem qOwn_b {σ : zS} {k : Nat} {S : zST} (h : zSTp σ k S) {i : Nat} (hi : i < 8) : (qOwn S i).1.natAbs ≤ 10000 ∧ 1 ≤ (qOwn S i).2 ∧ (qOwn S i).2 ≤ ((10000 : Nat) : Int) := by
  have hw := (h.2.2.2.2.2.2 i hi).2
  have h1 := tBot_10000 _ _ hw _ (Nat.le_refl _)
  have h2 := rB_b (z := tZ (S.tn i) (S.tr i)) h1.1
  exact ⟨Nat.le_trans (rT_b _ _) (tZ_b hw), h2.1, by have : (qOwn S i).2 ≤ tBot (S.tr i) (S.tn i) := h2.2; omega⟩
set_option maxRecDepth 20000 in
theorem c_X10_pointerOf {l : Launch} (hfl : l.stackTraces = false) (E : zE) (σ : zS) (U : zSU) (S : zST) (i r : Nat) (hU : zSUp σ 29 U) (hS : zSTp σ 34 S) (hi : i < U.nb) (hkr : kd r = 3) : zRr l E yX10_pointerOf cX10_pointerOf 6 (.object "PlanetDrive$Ratio") (zrm 3 80) [.ref (ob E 0), .int (zI (i : Int)), .ref (ob E r)] σ r (fun τ => τ = rW σ r (qPtr U S i).1 (qPtr U S i).2) := by
  refine Met.ofW (cc := cX10_pointerOf) (maxL := 6) (ret := (some (.object "PlanetDrive$Ratio"))) (by decide +kernel) rfl ?_
  intro p e s m args below meth c s₁ B hml hv
  obtain ⟨rfl, hd⟩ := hv
  have C := zX_of (own := RX10) hfl B hml rfl hd rfl
  have hr := B.returns
  refine zV_go hd (Nat.le_of_ble_eq_true rfl) (lv := [(0, .ref (ob E 0)), (1, .int (zI (i : Int))), (2, .ref (ob E r))]) rfl ?_
  have hnb : U.nb ≤ 8 := hU.2.2.1
  have hi8 : i < 8 := by omega
  have hca := (hU.2.2.2.2 i hi).2.2.2.2.2.2
  have hq := qOwn_b hS hi8
  have hki : kd (34 + 4 + 2 * i) = 8 := ((zst (show kd 34 = 6 by decide)).2.2.2 i hi8).1
  have hTi : ∀ τ : zS, (∀ x y, gI τ x y = gI σ x y) → zTr τ (34 + 4 + 2 * i) (S.tn i) (S.tr i) := fun τ hτ => zTr_w (hS.2.2.2.2.2.2 i hi8).1 (fun x y _ _ => hτ x y)
  have hzi := tZ_b (hS.2.2.2.2.2.2 i hi8).2
  have hbi := tBot_10000 _ _ (hS.2.2.2.2.2.2 i hi8).2 _ (Nat.le_refl _)
  refine zv_aload_n C 0 dX10_pointerOf_0 rfl rfl ?_
  refine zG9_2 C (by decide : kd 0 = _) kX10_26 dX10_pointerOf_1 ?_
  refine zG6_5 C (by decide : kd 34 = _) kX10_154 dX10_pointerOf_4 ?_
  refine zv_iload_n C 1 dX10_pointerOf_7 rfl rfl ?_
  refine zv_tald (j := i) C (by decide : kd 37 = _) (zI_ix (by omega)) (Nat.lt_of_lt_of_eq (by omega) (by decide)) dX10_pointerOf_8 ?_
  refine zv_astore_n (lv' := [(3, .ref (ob E (34 + 4 + 2 * i))), (0, .ref (ob E 0)), (1, .int (zI (i : Int))), (2, .ref (ob E r))]) C dX10_pointerOf_9 rfl (by decide) rfl ?_
  refine zv_aload_n C 3 dX10_pointerOf_10 rfl rfl ?_
  refine zv_aload_n C 0 dX10_pointerOf_11 rfl rfl ?_
  refine zv_cvlD (st := [.ref (ob E r)]) C (c_X8_ratioTop hfl E σ (34 + 4 + 2 * i) (S.tn i) (S.tr i) hki (hTi _ (fun x y => rfl))) mX8_ratioTop kX10_402 hki rfl rfl rfl ⟨rfl, rfl⟩ (show zfit (zrm 1 23) 5 (zrm 3 80) = true from rfl) (Nat.le_of_ble_eq_true rfl) dX10_pointerOf_12 ⟨Nat.zero_le _, Nat.zero_le _⟩ ?_
  refine zv_aload_n C 0 dX10_pointerOf_15 rfl rfl ?_
  refine zv_cvlD (st := [.long (zL (tZ (S.tn i) (S.tr i))), .ref (ob E r)]) C (c_X8_ratioBottom hfl E σ (34 + 4 + 2 * i) (S.tn i) (S.tr i) hki (hTi _ (fun x y => rfl))) mX8_ratioBottom kX10_406 hki rfl rfl rfl ⟨rfl, rfl⟩ (show zfit (zrm 2 44) 4 (zrm 3 80) = true from rfl) (Nat.le_of_ble_eq_true rfl) dX10_pointerOf_16 ⟨Nat.zero_le _, Nat.zero_le _⟩ ?_
  refine zv_cvvD (st := []) C (c_X3_setTo hfl E σ r (tZ (S.tn i) (S.tr i)) (tBot (S.tr i) (S.tn i)) hkr (by omega) (by omega)) mX3_setTo kX10_409 hkr rfl rfl rfl ⟨rfl, rfl⟩ (show zfit (zrm 1 30) 7 (zrm 3 80) = true from rfl) (Nat.le_of_ble_eq_true rfl) dX10_pointerOf_19 ⟨Nat.zero_le _, Nat.zero_le _⟩ ?_
  refine zv_aload_n C 1 dX10_pointerOf_22 rfl rfl ?_
  refine zG9_1 C (by decide : kd 0 = _) kX10_19 dX10_pointerOf_23 ?_
  refine zG4_5 C (by decide : kd 29 = _) kX10_151 dX10_pointerOf_26 ?_
  refine zv_iload_n C 2 dX10_pointerOf_29 rfl rfl ?_
  refine zv_iald (j := i) C (by decide : kd 33 = _) (zI_ix (by omega)) (Nat.lt_of_lt_of_eq (by omega) (by decide)) dX10_pointerOf_30 ?_
  refine zv_eqi (y := (zI (U.ca i))) ((hU.2.2.2.2 i hi).2.2.2.1) ?_
  refine zv_istore (lv' := [(4, .int (zI (U.ca i))), (3, .ref (ob E (34 + 4 + 2 * i))), (0, .ref (ob E 0)), (1, .int (zI (i : Int))), (2, .ref (ob E r))]) C dX10_pointerOf_31  (by decide) rfl ?_
  refine zv_iload C 0 dX10_pointerOf_33 rfl ?_
  refine zv_if_ltZ (tgt := 64) C (by omega) dX10_pointerOf_35 (by decide) (fun h35 => ?_) (fun h35 => ?_)
  · skip
    skip
    refine zv_aload_n C 4 dX10_pointerOf_64 rfl rfl ?_
    exact zv_aret C hr (Or.inl ⟨_, rfl⟩) dX10_pointerOf_65 (by rw [qPtr, if_pos h35]; rfl)
  · skip
    obtain ⟨j, hj⟩ : ∃ j : Nat, U.ca i = (j : Int) := ⟨(U.ca i).toNat, by omega⟩
    have hj8 : j < 8 := by omega
    have hkj : kd (34 + 4 + 2 * j) = 8 := ((zst (show kd 34 = 6 by decide)).2.2.2 j hj8).1
    have hTj : ∀ τ : zS, (∀ x y, gI τ x y = gI σ x y) → zTr τ (34 + 4 + 2 * j) (S.tn j) (S.tr j) := fun τ hτ => zTr_w (hS.2.2.2.2.2.2 j hj8).1 (fun x y _ _ => hτ x y)
    have hzj := tZ_b (hS.2.2.2.2.2.2 j hj8).2
    have hbj := tBot_10000 _ _ (hS.2.2.2.2.2.2 j hj8).2 _ (Nat.le_refl _)
    have hj2 : (U.ca i).toNat = j := by omega
    obtain ⟨g1, g2, -⟩ := rAd_b (z := tZ (S.tn j) (S.tr j)) (w := tBot (S.tr j) (S.tn j)) (D := 10000) hq.1 hq.2 hzj (by omega)
    refine zv_aload_n C 2 dX10_pointerOf_38 rfl rfl ?_
    refine zG9_2 C (by decide : kd 0 = _) kX10_26 dX10_pointerOf_39 ?_
    refine zG6_5 C (by decide : kd 34 = _) kX10_154 dX10_pointerOf_42 ?_
    refine zv_iload C 0 dX10_pointerOf_45 rfl ?_
    refine zv_tald (j := j) C (by decide : kd 37 = _) (zI_ix hj) (Nat.lt_of_lt_of_eq (by omega) (by decide)) dX10_pointerOf_47 ?_
    refine zv_astore (lv' := [(5, .ref (ob E (34 + 4 + 2 * j))), (4, .int (zI (U.ca i))), (3, .ref (ob E (34 + 4 + 2 * i))), (0, .ref (ob E 0)), (1, .int (zI (i : Int))), (2, .ref (ob E r))]) C dX10_pointerOf_48  (by decide) rfl ?_
    refine zv_aload_n C 5 dX10_pointerOf_50 rfl rfl ?_
    refine zv_aload C 0 dX10_pointerOf_51 rfl ?_
    refine zv_cvlD (st := [.ref (ob E r)]) C (c_X8_ratioTop hfl E (rW σ r (qOwn S i).1 (qOwn S i).2) (34 + 4 + 2 * j) (S.tn j) (S.tr j) hkj (hTj _ (fun x y => rfl))) mX8_ratioTop kX10_402 hkj rfl rfl rfl ⟨rfl, rfl⟩ (show zfit (zrm 1 23) 5 (zrm 3 80) = true from rfl) (Nat.le_of_ble_eq_true rfl) dX10_pointerOf_53 ⟨Nat.zero_le _, Nat.zero_le _⟩ ?_
    refine zv_aload C 0 dX10_pointerOf_56 rfl ?_
    refine zv_cvlD (st := [.long (zL (tZ (S.tn j) (S.tr j))), .ref (ob E r)]) C (c_X8_ratioBottom hfl E (rW σ r (qOwn S i).1 (qOwn S i).2) (34 + 4 + 2 * j) (S.tn j) (S.tr j) hkj (hTj _ (fun x y => rfl))) mX8_ratioBottom kX10_406 hkj rfl rfl rfl ⟨rfl, rfl⟩ (show zfit (zrm 2 44) 4 (zrm 3 80) = true from rfl) (Nat.le_of_ble_eq_true rfl) dX10_pointerOf_58 ⟨Nat.zero_le _, Nat.zero_le _⟩ ?_
    refine zv_cvvD (st := []) C (c_X3_addFraction hfl E (rW σ r (qOwn S i).1 (qOwn S i).2) r (qOwn S i).1 (qOwn S i).2 (tZ (S.tn j) (S.tr j)) (tBot (S.tr j) (S.tn j)) hkr (rW_R _ _ _ _) (by omega) (by omega)) mX3_addFraction kX10_285 hkr rfl rfl rfl ⟨rfl, rfl⟩ (show zfit (zrm 2 56) 5 (zrm 3 80) = true from rfl) (Nat.le_of_ble_eq_true rfl) dX10_pointerOf_61 ⟨Nat.zero_le _, Nat.zero_le _⟩ ?_
    refine zv_aload_n C 5 dX10_pointerOf_64 rfl rfl ?_
    exact zv_aret C hr (Or.inl ⟨_, rfl⟩) dX10_pointerOf_65 (by rw [qPtr, if_neg (by omega), hj2]; exact rW_o _ _ _ _ _ _)
def rtT (U : zSU) (i : Nat) : Int := if U.re i = 1 then -100 else 100
theorem rtT_b (U : zSU) (i : Nat) : (rtT U i).natAbs ≤ 100 := by unfold rtT; split <;> decide
def qDue (U : zSU) (i : Nat) : Int × Int := rLo (rtT U i) (U.pe i)
def qTrue (U : zSU) (i : Nat) : Int × Int := if U.ca i < 0 then qDue U i else rAd (qDue U i) (-(rtT U (U.ca i).toNat)) (U.pe (U.ca i).toNat)
def qDrift (U : zSU) (S : zST) (i : Nat) : Int × Int := rAd (qPtr U S i) (-(rtT U i)) (U.pe i)
theorem qDue_b {σ : zS} {k : Nat} {U : zSU} (h : zSUp σ k U) {i : Nat} (hi : i < U.nb) : (qDue U i).1.natAbs ≤ 100 ∧ 1 ≤ (qDue U i).2 ∧ (qDue U i).2 ≤ ((9999999 : Nat) : Int) := by
  have hp := (h.2.2.2.2 i hi).2.2.2.2.1
  have h2 := rB_b (z := rtT U i) (w := (U.pe i : Int)) (by omega)
  exact ⟨Nat.le_trans (rT_b _ _) (rtT_b U i), h2.1, by have : (qDue U i).2 ≤ (U.pe i : Int) := h2.2; omega⟩
theorem qTrue_b {σ : zS} {k : Nat} {U : zSU} (h : zSUp σ k U) {i : Nat} (hi : i < U.nb) : (qTrue U i).1.natAbs ≤ 1999999800 ∧ 1 ≤ (qTrue U i).2 ∧ (qTrue U i).2 ≤ 99999980000001 := by
  have h1 := qDue_b h hi
  unfold qTrue
  split
  · omega
  · have hc := (h.2.2.2.2 i hi).2.2.2.2.2.2
    have hp := (h.2.2.2.2 (U.ca i).toNat (by omega)).2.2.2.2.1
    have hr := rtT_b U (U.ca i).toNat
    obtain ⟨-, -, g1, g2, g3⟩ := rAd_b (z := -(rtT U (U.ca i).toNat)) (w := (U.pe (U.ca i).toNat : Int)) (C := 100) (D := 9999999) h1.1 h1.2 (by omega) (by omega)
    exact ⟨Nat.le_trans g1 (by decide), g2, Int.le_trans g3 (by decide)⟩
theorem qPtr_b {σ σ' : zS} {k k' : Nat} {U : zSU} {S : zST} (h : zSUp σ k U) (hS : zSTp σ' k' S) {i : Nat} (hi : i < U.nb) : (qPtr U S i).1.natAbs ≤ 200000000 ∧ 1 ≤ (qPtr U S i).2 ∧ (qPtr U S i).2 ≤ ((100000000 : Nat) : Int) := by
  have hnb := h.2.2.1
  have h1 := qOwn_b hS (i := i) (by omega)
  unfold qPtr
  split
  · omega
  · have hc := (h.2.2.2.2 i hi).2.2.2.2.2.2
    have hw := (hS.2.2.2.2.2.2 (U.ca i).toNat (by omega)).2
    have hb := tBot_10000 _ _ hw _ (Nat.le_refl _)
    obtain ⟨-, -, g1, g2, g3⟩ := rAd_b (z := tZ (S.tn (U.ca i).toNat) (S.tr (U.ca i).toNat)) (w := tBot (S.tr (U.ca i).toNat) (S.tn (U.ca i).toNat)) (C := 10000) (D := 10000) h1.1 h1.2 (tZ_b hw) (by omega)
    exact ⟨Nat.le_trans g1 (by decide), g2, Int.le_trans g3 (by decide)⟩
theorem qDrift_b {σ σ' : zS} {k k' : Nat} {U : zSU} {S : zST} (h : zSUp σ k U) (hS : zSTp σ' k' S) {i : Nat} (hi : i < U.nb) : (qDrift U S i).1.natAbs ≤ 2010000000000000 ∧ 1 ≤ (qDrift U S i).2 ∧ (qDrift U S i).2 ≤ 999999900000000 := by
  have h1 := qPtr_b h hS hi
  have hp := (h.2.2.2.2 i hi).2.2.2.2.1
  have hr := rtT_b U i
  obtain ⟨-, -, g1, g2, g3⟩ := rAd_b (z := -(rtT U i)) (w := (U.pe i : Int)) (C := 100) (D := 9999999) h1.1 h1.2 (by omega) (by omega)
  exact ⟨Nat.le_trans g1 (by decide), g2, Int.le_trans g3 (by decide)⟩
set_option maxRecDepth 20000 in
theorem c_X10_trueRateOf {l : Launch} (hfl : l.stackTraces = false) (E : zE) (σ : zS) (U : zSU) (i r : Nat) (hU : zSUp σ 29 U) (hi : i < U.nb) (hkr : kd r = 3) : zRr l E yX10_trueRateOf cX10_trueRateOf 3 (.object "PlanetDrive$Ratio") (zrm 2 56) [.ref (ob E 0), .int (zI (i : Int)), .ref (ob E r)] σ r (fun τ => τ = rW σ r (qDue U i).1 (qDue U i).2) := by
  refine Met.ofW (cc := cX10_trueRateOf) (maxL := 3) (ret := (some (.object "PlanetDrive$Ratio"))) (by decide +kernel) rfl ?_
  intro p e s m args below meth c s₁ B hml hv
  obtain ⟨rfl, hd⟩ := hv
  have C := zX_of (own := RX10) hfl B hml rfl hd rfl
  have hr := B.returns
  refine zV_go hd (Nat.le_of_ble_eq_true rfl) (lv := [(0, .ref (ob E 0)), (1, .int (zI (i : Int))), (2, .ref (ob E r))]) rfl ?_
  have hnb : U.nb ≤ 8 := hU.2.2.1
  have hi8 : i < 8 := by omega
  have hca := (hU.2.2.2.2 i hi).2.2.2.2.2.2
  have hpe := (hU.2.2.2.2 i hi).2.2.2.2.1
  have hrt := rtT_b U i
  have hq := qDue_b hU hi
  
  refine zv_aload_n C 2 dX10_trueRateOf_0 rfl rfl ?_
  refine zv_aload_n C 0 dX10_trueRateOf_1 rfl rfl ?_
  refine zG9_1 C (by decide : kd 0 = _) kX10_19 dX10_trueRateOf_2 ?_
  refine zv_iload_n C 1 dX10_trueRateOf_5 rfl rfl ?_
  refine zv_cvlD (st := [.ref (ob E r)]) C (c_X4_rateTop hfl E σ 29 U.s0 U.nb U.nm U.pe U.re U.ca i (by decide) hU hi) mX4_rateTop kX10_412 (by decide : kd 29 = 4) rfl rfl rfl ⟨rfl, rfl⟩ (show zfit (zrm 0 0) 2 (zrm 2 56) = true from rfl) (Nat.le_of_ble_eq_true rfl) dX10_trueRateOf_6 ⟨Nat.zero_le _, Nat.zero_le _⟩ ?_
  refine zv_aload_n C 0 dX10_trueRateOf_9 rfl rfl ?_
  refine zG9_1 C (by decide : kd 0 = _) kX10_19 dX10_trueRateOf_10 ?_
  refine zG4_3 C (by decide : kd 29 = _) kX10_143 dX10_trueRateOf_13 ?_
  refine zv_iload_n C 1 dX10_trueRateOf_16 rfl rfl ?_
  refine zv_iald (j := i) C (by decide : kd 31 = _) (zI_ix (by omega)) (Nat.lt_of_lt_of_eq (by omega) (by decide)) dX10_trueRateOf_17 ?_
  refine zv_eqi (y := (zI (U.pe i : Int))) ((hU.2.2.2.2 i (by omega)).2.1) ?_
  refine zv_i2lZ C (by omega) dX10_trueRateOf_18 ?_
  refine zv_cvvD (st := []) C (c_X3_setTo hfl E σ r (rtT U i) (U.pe i : Int) hkr (by omega) (by omega)) mX3_setTo kX10_409 hkr rfl rfl rfl ⟨rfl, rfl⟩ (show zfit (zrm 1 30) 7 (zrm 2 56) = true from rfl) (Nat.le_of_ble_eq_true rfl) dX10_trueRateOf_19 ⟨Nat.zero_le _, Nat.zero_le _⟩ ?_
  refine zv_aload_n C 2 dX10_trueRateOf_22 rfl rfl ?_
  exact zv_aret C hr (Or.inl ⟨_, rfl⟩) dX10_trueRateOf_23 rfl
set_option maxRecDepth 20000 in
theorem c_X10_trueOwnOf {l : Launch} (hfl : l.stackTraces = false) (E : zE) (σ : zS) (U : zSU) (i r : Nat) (hU : zSUp σ 29 U) (hi : i < U.nb) (hkr : kd r = 3) (hr34 : 34 ≤ r) : zRr l E yX10_trueOwnOf cX10_trueOwnOf 4 (.object "PlanetDrive$Ratio") (zrm 3 80) [.ref (ob E 0), .int (zI (i : Int)), .ref (ob E r)] σ r (fun τ => τ = rW σ r (qTrue U i).1 (qTrue U i).2) := by
  refine Met.ofW (cc := cX10_trueOwnOf) (maxL := 4) (ret := (some (.object "PlanetDrive$Ratio"))) (by decide +kernel) rfl ?_
  intro p e s m args below meth c s₁ B hml hv
  obtain ⟨rfl, hd⟩ := hv
  have C := zX_of (own := RX10) hfl B hml rfl hd rfl
  have hr := B.returns
  refine zV_go hd (Nat.le_of_ble_eq_true rfl) (lv := [(0, .ref (ob E 0)), (1, .int (zI (i : Int))), (2, .ref (ob E r))]) rfl ?_
  have hnb : U.nb ≤ 8 := hU.2.2.1
  have hi8 : i < 8 := by omega
  have hca := (hU.2.2.2.2 i hi).2.2.2.2.2.2
  have hpe := (hU.2.2.2.2 i hi).2.2.2.2.1
  have hrt := rtT_b U i
  have hq := qDue_b hU hi
  have hU2 : zSUp (rW σ r (qDue U i).1 (qDue U i).2) 29 U := zSUp_rW hU hr34
  refine zv_aload_n C 0 dX10_trueOwnOf_0 rfl rfl ?_
  refine zv_iload_n C 1 dX10_trueOwnOf_1 rfl rfl ?_
  refine zv_aload_n C 2 dX10_trueOwnOf_2 rfl rfl ?_
  refine zv_cvrD (st := []) C (c_X10_trueRateOf hfl E σ U i r hU hi hkr) mX10_trueRateOf kX10_225 (by decide : kd 0 = 9) rfl rfl rfl ⟨rfl, rfl⟩ (show zfit (zrm 2 56) 3 (zrm 3 80) = true from rfl) (Nat.le_of_ble_eq_true rfl) dX10_trueOwnOf_3 ⟨Nat.zero_le _, Nat.zero_le _⟩ ?_
  refine zv_pop C dX10_trueOwnOf_6 rfl ?_
  refine zv_aload_n C 0 dX10_trueOwnOf_7 rfl rfl ?_
  refine zG9_1 C (by decide : kd 0 = _) kX10_19 dX10_trueOwnOf_8 ?_
  refine zG4_5 C (by decide : kd 29 = _) kX10_151 dX10_trueOwnOf_11 ?_
  refine zv_iload_n C 1 dX10_trueOwnOf_14 rfl rfl ?_
  refine zv_iald (j := i) C (by decide : kd 33 = _) (zI_ix (by omega)) (Nat.lt_of_lt_of_eq (by omega) (by decide)) dX10_trueOwnOf_15 ?_
  refine zv_eqi (y := (zI (U.ca i))) ((hU.2.2.2.2 i hi).2.2.2.1) ?_
  refine zv_istore_n (lv' := [(3, .int (zI (U.ca i))), (0, .ref (ob E 0)), (1, .int (zI (i : Int))), (2, .ref (ob E r))]) C dX10_trueOwnOf_16 rfl (by decide) rfl ?_
  refine zv_iload_n C 0 dX10_trueOwnOf_17 rfl rfl ?_
  refine zv_if_ltZ (tgt := 44) C (by omega) dX10_trueOwnOf_18 (by decide) (fun h18 => ?_) (fun h18 => ?_)
  · skip
    refine zv_aload_n C 3 dX10_trueOwnOf_44 rfl rfl ?_
    exact zv_aret C hr (Or.inl ⟨_, rfl⟩) dX10_trueOwnOf_45 (by rw [qTrue, if_pos h18])
  · skip
    obtain ⟨j, hj⟩ : ∃ j : Nat, U.ca i = (j : Int) := ⟨(U.ca i).toNat, by omega⟩
    have hjn : j < U.nb := by omega
    have hj2 : (U.ca i).toNat = j := by omega
    have hpj := (hU.2.2.2.2 j hjn).2.2.2.2.1
    have hrj := rtT_b U j
    obtain ⟨g1, g2, -⟩ := rAd_b (z := -(rtT U j)) (w := (U.pe j : Int)) (C := 100) (D := 9999999) hq.1 hq.2 (by omega) (by omega)
    refine zv_aload_n C 3 dX10_trueOwnOf_21 rfl rfl ?_
    refine zv_aload_n C 1 dX10_trueOwnOf_22 rfl rfl ?_
    refine zG9_1 C (by decide : kd 0 = _) kX10_19 dX10_trueOwnOf_23 ?_
    refine zv_iload_n C 0 dX10_trueOwnOf_26 rfl rfl ?_
    refine zv_eqi (y := (zI (j : Int))) (by rw [hj]) ?_
    refine zv_cvlD (st := [.ref (ob E r)]) C (c_X4_rateTop hfl E (rW σ r (qDue U i).1 (qDue U i).2) 29 U.s0 U.nb U.nm U.pe U.re U.ca j (by decide) hU2 hjn) mX4_rateTop kX10_412 (by decide : kd 29 = 4) rfl rfl rfl ⟨rfl, rfl⟩ (show zfit (zrm 0 0) 2 (zrm 3 80) = true from rfl) (Nat.le_of_ble_eq_true rfl) dX10_trueOwnOf_27 ⟨Nat.zero_le _, Nat.zero_le _⟩ ?_
    refine zv_lnegZ C dX10_trueOwnOf_30 ?_
    refine zv_aload_n C 1 dX10_trueOwnOf_31 rfl rfl ?_
    refine zG9_1 C (by decide : kd 0 = _) kX10_19 dX10_trueOwnOf_32 ?_
    refine zG4_3 C (by decide : kd 29 = _) kX10_143 dX10_trueOwnOf_35 ?_
    refine zv_iload_n C 0 dX10_trueOwnOf_38 rfl rfl ?_
    refine zv_iald (j := j) C (by decide : kd 31 = _) (zI_ix (by omega)) (Nat.lt_of_lt_of_eq (show j < 8 by omega) (by decide)) dX10_trueOwnOf_39 ?_
    refine zv_eqi (y := (zI (U.pe j : Int))) ((hU.2.2.2.2 j (by omega)).2.1) ?_
    refine zv_i2lZ C (by omega) dX10_trueOwnOf_40 ?_
    refine zv_cvvD (st := []) C (c_X3_addFraction hfl E (rW σ r (qDue U i).1 (qDue U i).2) r (qDue U i).1 (qDue U i).2 (-(rtT U j)) (U.pe j : Int) hkr (rW_R _ _ _ _) (by omega) (by omega)) mX3_addFraction kX10_285 hkr rfl rfl rfl ⟨rfl, rfl⟩ (show zfit (zrm 2 56) 5 (zrm 3 80) = true from rfl) (Nat.le_of_ble_eq_true rfl) dX10_trueOwnOf_41 ⟨Nat.zero_le _, Nat.zero_le _⟩ ?_
    refine zv_aload_n C 3 dX10_trueOwnOf_44 rfl rfl ?_
    exact zv_aret C hr (Or.inl ⟨_, rfl⟩) dX10_trueOwnOf_45 (by rw [qTrue, if_neg (by omega), hj2]; exact rW_o _ _ _ _ _ _)
set_option maxRecDepth 20000 in
theorem c_X10_driftOf {l : Launch} (hfl : l.stackTraces = false) (E : zE) (σ : zS) (U : zSU) (S : zST) (i : Nat) (hU : zSUp σ 29 U) (hS : zSTp σ 34 S) (hi : i < U.nb) : zRr l E yX10_driftOf cX10_driftOf 2 (.object "PlanetDrive$Ratio") (zrm 4 105) [.ref (ob E 0), .int (zI (i : Int))] σ 322 (fun τ => τ = rW σ 322 (qDrift U S i).1 (qDrift U S i).2) := by
  refine Met.ofW (cc := cX10_driftOf) (maxL := 2) (ret := (some (.object "PlanetDrive$Ratio"))) (by decide +kernel) rfl ?_
  intro p e s m args below meth c s₁ B hml hv
  obtain ⟨rfl, hd⟩ := hv
  have C := zX_of (own := RX10) hfl B hml rfl hd rfl
  have hr := B.returns
  refine zV_go hd (Nat.le_of_ble_eq_true rfl) (lv := [(0, .ref (ob E 0)), (1, .int (zI (i : Int)))]) rfl ?_
  have hnb : U.nb ≤ 8 := hU.2.2.1
  have hi8 : i < 8 := by omega
  have hca := (hU.2.2.2.2 i hi).2.2.2.2.2.2
  have hpe := (hU.2.2.2.2 i hi).2.2.2.2.1
  have hrt := rtT_b U i
  have hq := qDue_b hU hi
  have hU2 : zSUp (rW σ 322 (qPtr U S i).1 (qPtr U S i).2) 29 U := zSUp_rW hU (by decide)
  have hp := qPtr_b hU hS hi
  obtain ⟨g1, g2, -⟩ := rAd_b (z := -(rtT U i)) (w := (U.pe i : Int)) (C := 100) (D := 9999999) hp.1 hp.2 (by omega) (by omega)
  refine zv_aload_n C 0 dX10_driftOf_0 rfl rfl ?_
  refine zv_iload_n C 1 dX10_driftOf_1 rfl rfl ?_
  refine zv_aload_n C 0 dX10_driftOf_2 rfl rfl ?_
  refine zG9_8 C (by decide : kd 0 = _) kX10_61 dX10_driftOf_3 ?_
  refine zv_cvrD (st := []) C (c_X10_pointerOf hfl E σ U S i 322 hU hS hi (by decide)) mX10_pointerOf kX10_181 (by decide : kd 0 = 9) rfl rfl rfl ⟨rfl, rfl⟩ (show zfit (zrm 3 80) 6 (zrm 4 105) = true from rfl) (Nat.le_of_ble_eq_true rfl) dX10_driftOf_6 ⟨Nat.zero_le _, Nat.zero_le _⟩ ?_
  refine zv_pop C dX10_driftOf_9 rfl ?_
  refine zv_aload_n C 0 dX10_driftOf_10 rfl rfl ?_
  refine zG9_8 C (by decide : kd 0 = _) kX10_61 dX10_driftOf_11 ?_
  refine zv_aload_n C 0 dX10_driftOf_14 rfl rfl ?_
  refine zG9_1 C (by decide : kd 0 = _) kX10_19 dX10_driftOf_15 ?_
  refine zv_iload_n C 1 dX10_driftOf_18 rfl rfl ?_
  refine zv_cvlD (st := [.ref (ob E 322)]) C (c_X4_rateTop hfl E (rW σ 322 (qPtr U S i).1 (qPtr U S i).2) 29 U.s0 U.nb U.nm U.pe U.re U.ca i (by decide) hU2 hi) mX4_rateTop kX10_412 (by decide : kd 29 = 4) rfl rfl rfl ⟨rfl, rfl⟩ (show zfit (zrm 0 0) 2 (zrm 4 105) = true from rfl) (Nat.le_of_ble_eq_true rfl) dX10_driftOf_19 ⟨Nat.zero_le _, Nat.zero_le _⟩ ?_
  refine zv_lnegZ C dX10_driftOf_22 ?_
  refine zv_aload_n C 0 dX10_driftOf_23 rfl rfl ?_
  refine zG9_1 C (by decide : kd 0 = _) kX10_19 dX10_driftOf_24 ?_
  refine zG4_3 C (by decide : kd 29 = _) kX10_143 dX10_driftOf_27 ?_
  refine zv_iload_n C 1 dX10_driftOf_30 rfl rfl ?_
  refine zv_iald (j := i) C (by decide : kd 31 = _) (zI_ix (by omega)) (Nat.lt_of_lt_of_eq (by omega) (by decide)) dX10_driftOf_31 ?_
  refine zv_eqi (y := (zI (U.pe i : Int))) ((hU.2.2.2.2 i (by omega)).2.1) ?_
  refine zv_i2lZ C (by omega) dX10_driftOf_32 ?_
  refine zv_cvvD (st := []) C (c_X3_addFraction hfl E (rW σ 322 (qPtr U S i).1 (qPtr U S i).2) 322 (qPtr U S i).1 (qPtr U S i).2 (-(rtT U i)) (U.pe i : Int) (by decide) (rW_R _ _ _ _) (by omega) (by omega)) mX3_addFraction kX10_285 (by decide : kd 322 = 3) rfl rfl rfl ⟨rfl, rfl⟩ (show zfit (zrm 2 56) 5 (zrm 4 105) = true from rfl) (Nat.le_of_ble_eq_true rfl) dX10_driftOf_33 ⟨Nat.zero_le _, Nat.zero_le _⟩ ?_
  refine zv_aload_n C 0 dX10_driftOf_36 rfl rfl ?_
  refine zG9_8 C (by decide : kd 0 = _) kX10_61 dX10_driftOf_37 ?_
  exact zv_aret C hr (Or.inl ⟨_, rfl⟩) dX10_driftOf_40 (rW_o _ _ _ _ _ _)
