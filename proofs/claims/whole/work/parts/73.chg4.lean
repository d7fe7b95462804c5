theorem tPl_k (tc : Nat → Nat → Nat) (n : Nat) (h : zTw n tc) (a : Int) (ha : 0 ≤ a) : ∀ j : Nat, j ≤ n → tPl tc a j ≤ 2 * a * j * 13 ^ tGe tc j * tBot tc j := by
  intro j
  induction j with
  | zero => intro _; show (0 : Int) ≤ _; simp
  | succ j ih =>
    intro hj
    have h1 := ih (by omega)
    have hb := (tBot_10000 tc n h j (by omega)).1
    have hw := h.2.2 j (by omega)
    have hP : (1 : Int) ≤ 13 ^ tGe tc j := by
      have := Nat.one_le_pow (tGe tc j) 13 (by decide)
      have h2 : ((13 ^ tGe tc j : Nat) : Int) = (13 : Int) ^ tGe tc j := by rw [Int.natCast_pow]; rfl
      omega
    generalize hPe : (13 : Int) ^ tGe tc j = P at h1 hP
    generalize hBe : tBot tc j = B at h1 hb
    have hAB : 0 ≤ 2 * a * B := Int.mul_nonneg (by omega) (by omega)
    have hX : 2 * a * (((j + 1 : Nat) : Int)) * P * B = 2 * a * j * P * B + 2 * a * B * P := by
      rw [Int.natCast_succ, Int.mul_add, Int.mul_one, Int.add_mul, Int.add_mul, Int.mul_right_comm (2 * a) P B]
    have hY : 2 * a * B * 1 ≤ 2 * a * B * P := Int.mul_le_mul_of_nonneg_left hP hAB
    simp only [tPl, tBot, tGe]
    split
    · rename_i h2
      rw [show tGe tc j + 0 = tGe tc j from rfl, hPe, hBe, Int.mul_one, hX]
      omega
    · rename_i h2
      rw [Int.pow_succ, hPe, hBe]
      have hc2 := hw.2.2.2.2 h2
      have hc1 := hw.2.2.1
      have g1 : tPl tc a j * (tc j 1 : Int) ≤ 2 * a * j * P * B * (tc j 1 : Int) := Int.mul_le_mul_of_nonneg_right h1 (by omega)
      have hN : 0 ≤ 2 * a * j * P * B := Int.mul_nonneg (Int.mul_nonneg (Int.mul_nonneg (by omega) (by omega)) (by omega)) (by omega)
      have g2 : 2 * a * j * P * B * (tc j 1 : Int) ≤ 2 * a * j * P * B * (13 * (tc j 2 : Int)) := Int.mul_le_mul_of_nonneg_left (by omega) hN
      have g3 : 2 * a * (((j + 1 : Nat) : Int)) * (P * 13) * (B * (tc j 2 : Int)) = (2 * a * j * P * B + 2 * a * B * P) * (13 * (tc j 2 : Int)) := by
        rw [← hX]
        simp only [Int.mul_assoc, Int.mul_comm, Int.mul_left_comm]
      rw [g3, Int.add_mul]
      have g4 : 2 * a * B * P * (13 * (tc j 2 : Int)) = a * (B * (tc j 2 : Int)) * (26 * P) := by
        have e26 : (26 : Int) = 2 * 13 := by decide
        rw [e26]
        simp only [Int.mul_assoc, Int.mul_comm, Int.mul_left_comm]
      have g5 : 0 ≤ a * (B * (tc j 2 : Int)) := Int.mul_nonneg ha (Int.mul_nonneg (by omega) (by omega))
      have g6 : a * (B * (tc j 2 : Int)) * 1 ≤ a * (B * (tc j 2 : Int)) * (26 * P) := Int.mul_le_mul_of_nonneg_left (by omega) g5
      rw [g4]
      omega
theorem qPlay_b {σ : zS} {k : Nat} {S : zST} (h : zSTp σ k S) {i : Nat} (hi : i < 8) : 0 ≤ qPlay S i ∧ qPlay S i ≤ 10000000 := by
  have hw := (h.2.2.2.2.2.2 i hi).2
  have hsl := h.2.2.2.1.2
  have h1 := tPl_bound (S.tr i) (S.tn i) hw (S.sl : Int) (by omega)
  have h2 := (tBot_10000 (S.tr i) (S.tn i) hw (S.tn i) (Nat.le_refl _)).1
  have h3 := tPl_k (S.tr i) (S.tn i) hw (S.sl : Int) (by omega) (S.tn i) (Nat.le_refl _)
  have hg := hw.2.1
  have hn := hw.1
  unfold qPlay
  refine ⟨Int.ediv_nonneg h1.1 (by omega), Int.ediv_le_of_le_mul (by omega) (Int.le_trans h3 (Int.mul_le_mul_of_nonneg_right ?_ (by omega)))⟩
  have hP : (13 : Int) ^ tGe (S.tr i) (S.tn i) ≤ 169 ∧ 0 ≤ (13 : Int) ^ tGe (S.tr i) (S.tn i) := by
    rcases (show tGe (S.tr i) (S.tn i) = 0 ∨ tGe (S.tr i) (S.tn i) = 1 ∨ tGe (S.tr i) (S.tn i) = 2 by omega) with q | q | q <;> rw [q] <;> decide
  have hA : 2 * (S.sl : Int) * (S.tn i : Int) ≤ 1998 * 4 := Int.mul_le_mul (by omega) (by omega) (by omega) (by omega)
  have hA0 : 0 ≤ 2 * (S.sl : Int) * (S.tn i : Int) := Int.mul_nonneg (by omega) (by omega)
  have := Int.mul_le_mul hA hP.1 hP.2 (by omega)
  omega
/-! the crank -/
def dLag (U : zSU) (S : zST) (d : Int) (i : Nat) : Int := max 0 (min (qPlay S i) (S.lg i - (qDrum U S i d - qDrum U S i (S.dy : Int))))
def zST.lgs (S : zST) (U : zSU) (d : Int) (j : Nat) : zST := zST.mk S.n S.f S.sl S.dy (fun i => if i < j then dLag U S d i else S.lg i) S.tn S.tr
def zST.crk (S : zST) (U : zSU) (d : Nat) : zST := zST.mk S.n S.f S.sl d (fun i => if i < U.nb then dLag U S (d : Int) i else S.lg i) S.tn S.tr
def crW (σ : zS) (U : zSU) (S : zST) (d : Int) : Nat → zS
  | 0 => σ
  | j + 1 => sI (rW (crW σ U S d j) 320 (qPtr U S j).1 (qPtr U S j).2) 36 j (zI (dLag U S d j))
theorem crW_I (σ : zS) (U : zSU) (S : zST) (d : Int) : ∀ j x y, x ≠ 36 → gI (crW σ U S d j) x y = gI σ x y := by
  intro j
  induction j with
  | zero => intro x y _; rfl
  | succ j ih => intro x y hx; simp only [crW]; rw [gI_sI, if_neg (by omega)]; exact ih x y hx
theorem crW_L (σ : zS) (U : zSU) (S : zST) (d : Int) : ∀ j i, gI (crW σ U S d j) 36 i = if i < j then zI (dLag U S d i) else gI σ 36 i := by
  intro j
  induction j with
  | zero => intro i; rw [if_neg (by omega)]; rfl
  | succ j ih =>
    intro i
    simp only [crW]
    rw [gI_sI]
    by_cases e : i = j
    · subst e; rw [if_pos ⟨rfl, rfl⟩, if_pos (by omega)]
    · rw [if_neg (by omega), gI_rW, ih i]
      by_cases q : i < j
      · rw [if_pos q, if_pos (by omega)]
      · rw [if_neg q, if_neg (by omega)]
theorem crW_J (σ : zS) (U : zSU) (S : zST) (d : Int) : ∀ j x y, x ≠ 320 → gJ (crW σ U S d j) x y = gJ σ x y := by
  intro j
  induction j with
  | zero => intro x y _; rfl
  | succ j ih => intro x y hx; simp only [crW]; rw [gJ_sI, gJ_rW _ _ _ _ _ _ hx]; exact ih x y hx
theorem crW_D (σ : zS) (U : zSU) (S : zST) (d : Int) : ∀ j x y, gD (crW σ U S d j) x y = gD σ x y := by
  intro j
  induction j with
  | zero => intro x y; rfl
  | succ j ih => intro x y; exact ih x y
theorem crW_S {σ : zS} {U : zSU} {S : zST} {d : Int} (h : zSTp σ 34 S) (j : Nat) : zSTp (crW σ U S d j) 34 (S.lgs U d j) := by
  obtain ⟨h1, h2, h3, h4, h5, h6, h7⟩ := h
  have e := fun x y hx => crW_I σ U S d j x y hx
  refine ⟨zStk_w h1 (fun x y a b => e x y (by omega)), h2, h3, ⟨(e 34 2 (by omega)).trans h4.1, h4.2⟩, (e 34 3 (by omega)).trans h5, fun i hi => ?_, fun i hi => ⟨zTr_w (h7 i hi).1 (fun x y a b => e x y (by omega)), (h7 i hi).2⟩⟩
  show gI (crW σ U S d j) 36 i = zI (if i < j then dLag U S d i else S.lg i)
  rw [crW_L]
  split
  · rfl
  · exact h6 i hi
theorem crW_U {σ : zS} {U V : zSU} {S : zST} {d : Int} (h : zSUp σ 29 V) (j : Nat) : zSUp (crW σ U S d j) 29 V := zSUp_w h (fun a b _ _ => ⟨crW_I _ _ _ _ _ _ _ (by omega), crW_J _ _ _ _ _ _ _ (by omega)⟩)
theorem crW_E {σ : zS} {U : zSU} {S : zST} {d : Nat} (h : zSTp σ 34 S) : zSTp (sI (crW σ U S (d : Int) U.nb) 34 3 (zI (d : Int))) 34 (S.crk U d) := by
  obtain ⟨h1, h2, h3, h4, h5, h6, h7⟩ := crW_S (U := U) (d := (d : Int)) h U.nb
  have e : ∀ x y, ¬ (x = 34 ∧ y = 3) → gI (sI (crW σ U S (d : Int) U.nb) 34 3 (zI (d : Int))) x y = gI (crW σ U S (d : Int) U.nb) x y := fun x y q => by rw [gI_sI, if_neg q]
  exact ⟨⟨(e 34 1 (by omega)).trans h1.1, h1.2.1, fun i hi => (e 35 i (by omega)).trans (h1.2.2.1 i hi), h1.2.2.2⟩, h2, h3, ⟨(e 34 2 (by omega)).trans h4.1, h4.2⟩, by rw [gI_sI, if_pos ⟨rfl, rfl⟩]; rfl, fun i hi => (e 36 i (by omega)).trans (h6 i hi), fun i hi => ⟨zTr_w (h7 i hi).1 (fun x y a b => e x y (by omega)), (h7 i hi).2⟩⟩
theorem dLag_b {σ : zS} {k : Nat} {U : zSU} {S : zST} (h : zSTp σ k S) {d : Int} {i : Nat} (hi : i < 8) : 0 ≤ dLag U S d i ∧ dLag U S d i ≤ 10000000 := by
  have := qPlay_b h hi
  unfold dLag
  omega
set_option maxRecDepth 20000 in
theorem c_X10_crank {l : Launch} (hfl : l.stackTraces = false) (E : zE) (σ : zS) (ni : Nat) (tx : Nat → Int) (ec : Nat) (eo : Int) (U : zSU) (S : zST) (hh : List zST) (kp : Option zST) (ou : List Nat) (d : Nat) (h : zCP σ (zDv.mk ni tx ec eo U S hh kp ou)) (hd4 : d ≤ 400000) : zRi l E yX10_crank cX10_crank 8 .int (zrm 4 124) [.ref (ob E 0), .int (zI (d : Int))] σ (fun r τ => r = zI (S.dy : Int) ∧ zCP τ ((zDv.mk ni tx ec eo U S hh kp ou).re.sS (S.crk U d)) ∧ zFr 0 327 σ τ) := by
  refine Met.ofW (cc := cX10_crank) (maxL := 8) (ret := (some .int)) (by decide +kernel) rfl ?_
  intro p e s m args below meth c s₁ B hml hv
  obtain ⟨rfl, hd⟩ := hv
  have C := zX_of (own := RX10) hfl B hml rfl hd rfl
  have hr := B.returns
  refine zV_go hd (Nat.le_of_ble_eq_true rfl) (lv := [(0, .ref (ob E 0)), (1, .int (zI (d : Int)))]) rfl ?_
  obtain ⟨q, hq12, hq1, hq2, hq3, hq4⟩ := h.2.2.2.2.1
  have hq2 : gI σ 54 2 = zI (hh.length : Int) := hq2
  have hq3 : hh.length ≤ 12 := hq3
  have hU : zSUp σ 29 U := h.2.2.1
  have hS : zSTp σ 34 S := h.2.2.2.1.1
  have hq9 : zSTq S := h.2.2.2.1.2
  have hRe : zCP (hRem σ 34 q hh.length) (zDv.mk ni tx ec eo U S hh kp ou).re := zCP_re h hq12 hq1 hq3 hq4
  have hSR : zSTp (hRem σ 34 q hh.length) 34 S := hRe.2.2.2.1.1
  have hnb : U.nb ≤ 8 := hU.2.2.1
  have hs0 := hU.2.2.2.1
  have hdy := hq9.1
  have hUR : zSUp (hRem σ 34 q hh.length) 29 U := hRe.2.2.1
  
  refine zv_iload_n C 1 dX10_crank_0 rfl rfl ?_
  refine zv_iconst (v := zI 0) C dX10_crank_1 rfl ?_
  refine zv_ldc C kX10_199 dX10_crank_2 ?_
  refine zv_eqi (y := zI 400000) (by decide) ?_
  refine zv_csvD (st := []) C (c_X10_needWithin hfl E σ (d : Int) 0 400000 (by omega) (by omega) (by omega) (by omega)) mX10_needWithin kX10_117 rfl ⟨rfl, rfl⟩ (show zfit (zrm 0 0) 3 (zrm 4 124) = true from rfl) (Nat.le_of_ble_eq_true rfl) dX10_crank_4 ⟨Nat.zero_le _, Nat.zero_le _⟩ ?_
  refine zv_aload_n C 0 dX10_crank_7 rfl rfl ?_
  refine zG9_2 C (by decide : kd 0 = _) kX10_26 dX10_crank_8 ?_
  refine zG6_3 C (by decide : kd 34 = _) kX10_130 dX10_crank_11 ?_
  refine zv_eqi (y := zI (S.dy : Int)) (hS.2.2.2.2.1) ?_
  refine zv_istore_n (lv' := [(2, .int (zI (S.dy : Int))), (0, .ref (ob E 0)), (1, .int (zI (d : Int)))]) C dX10_crank_14 rfl (by decide) rfl ?_
  refine zv_aload_n C 1 dX10_crank_15 rfl rfl ?_
  refine zG9_3 C (by decide : kd 0 = _) kX10_33 dX10_crank_16 ?_
  refine zv_aload_n C 1 dX10_crank_19 rfl rfl ?_
  refine zG9_2 C (by decide : kd 0 = _) kX10_26 dX10_crank_20 ?_
  refine zv_cvvD (st := []) C (c_X1_remember hfl E σ 34 q hh.length (by decide) (by decide) hq1 hq12 hq2 hq3) mX1_remember kX10_304 (by decide : kd 54 = 1) rfl rfl rfl ⟨rfl, rfl⟩ (show zfit (zrm 3 103) 2 (zrm 4 124) = true from rfl) (Nat.le_of_ble_eq_true rfl) dX10_crank_23 ⟨Nat.zero_le _, Nat.zero_le _⟩ ?_
  refine zv_iconst (v := zI 0) C dX10_crank_26 rfl ?_
  refine zv_istore_n (lv' := [(3, .int (zI 0)), (2, .int (zI (S.dy : Int))), (0, .ref (ob E 0)), (1, .int (zI (d : Int)))]) C dX10_crank_27 rfl (by decide) rfl ?_
  have q28_30 : (0 : Int) = (0 : Int) := by first | rfl | omega
  refine zv_sub (lv' := [(0, .ref (ob E 0)), (1, .int (zI (d : Int))), (2, .int (zI (S.dy : Int))), (3, .int (zI (0 : Int)))]) [2, 3, 1, 0] (zcons rfl (zcons rfl (zcons rfl (zcons (zqI q28_30) rfl)))) ?_
  refine zv_eqS (τ := (crW (hRem σ 34 q hh.length) U S (d : Int) 0)) (rfl) ?_
  refine zv_while (α := Nat) (fun v => U.nb - v) (fun v => v ≤ U.nb) (fun v => (crW (hRem σ 34 q hh.length) U S (d : Int) v)) (fun v => [(0, .ref (ob E 0)), (1, .int (zI (d : Int))), (2, .int (zI (S.dy : Int))), (3, .int (zI (v : Int)))]) (fun v => []) (fun j hI ih => ?_) (0) (by omega)
  refine zv_iload_n C 3 dX10_crank_28 rfl rfl ?_
  refine zv_aload_n C 0 dX10_crank_29 rfl rfl ?_
  refine zG9_1 C (by decide : kd 0 = _) kX10_19 dX10_crank_30 ?_
  refine zG4_1 C (by decide : kd 29 = _) kX10_108 dX10_crank_33 ?_
  refine zv_eqi (y := zI (U.nb : Int)) ((crW_U hUR j).2.1) ?_
  refine zv_icmp_geZ (tgt := 125) C (by omega) (by omega) dX10_crank_36 (by decide) (fun h36 => ?_) (fun h36 => ?_)
  · skip
    refine zv_aload_n C 0 dX10_crank_125 rfl rfl ?_
    refine zG9_2 C (by decide : kd 0 = _) kX10_26 dX10_crank_126 ?_
    refine zv_iload_n C 1 dX10_crank_129 rfl rfl ?_
    refine zP6_3 C (by decide : kd 34 = _) kX10_130 dX10_crank_130 ?_
    refine zv_iload_n C 2 dX10_crank_133 rfl rfl ?_
    exact zv_iret C hr rfl dX10_crank_134 (by rw [show j = U.nb by omega]; exact ⟨rfl, zCP_chg2 hRe (crW_E hSR) ⟨hd4, fun i hi => by show 0 ≤ (if i < U.nb then dLag U S (d : Int) i else S.lg i) ∧ (if i < U.nb then dLag U S (d : Int) i else S.lg i) ≤ 10000000; split; exact dLag_b hS hi; exact hq9.2 i hi⟩ (fun x y h1 h2 => ⟨by rw [gI_sI, if_neg (by omega)]; exact crW_I _ _ _ _ _ _ _ (by omega), crW_J _ _ _ _ _ _ _ (by omega)⟩ ) (by refine ⟨fun x y q1 => ?_, fun x y q1 => ?_, fun x y => ?_⟩; rw [gI_sI, if_neg (by omega)]; exact crW_I _ _ _ _ _ _ _ (by omega); exact crW_J _ _ _ _ _ _ _ (by omega); exact crW_D _ _ _ _ _ _ _)⟩)
  · skip
    have hj8 : j < 8 := by omega
    have hkj := kd_KI j hj8
    have hqj := qPtr_b hU hS (i := j) (by omega)
    have hm1 := mul_b (b := (d : Int)) (B := 400000) hqj.1 (by omega)
    have hm2 := mul_b (b := (S.dy : Int)) (B := 400000) hqj.1 (by omega)
    have hp := qPlay_b hS hj8
    have hg := hq9.2 j hj8
    have hr1 := qDrum_b hU hS (i := j) (by omega) (d := (d : Int)) (by omega)
    have hr2 := qDrum_b hU hS (i := j) (by omega) (d := (S.dy : Int)) (by omega)
    have hSj := crW_S (U := U) (d := (d : Int)) hSR j
    have hTj := (hSj.2.2.2.2.2.2 j hj8).1
    have hwj := (hSj.2.2.2.2.2.2 j hj8).2
    have hsl := hS.2.2.2.1.2
    refine zv_aload_n C 0 dX10_crank_39 rfl rfl ?_
    refine zv_iload_n C 3 dX10_crank_40 rfl rfl ?_
    refine zv_aload_n C 0 dX10_crank_41 rfl rfl ?_
    refine zG9_6 C (by decide : kd 0 = _) kX10_54 dX10_crank_42 ?_
    refine zv_cvrD (st := []) C (c_X10_pointerOf hfl E (crW (hRem σ 34 q hh.length) U S (d : Int) j) U (S.lgs U (d : Int) j) j 320 (crW_U hUR j) hSj (by omega) (by decide)) mX10_pointerOf kX10_181 (by decide : kd 0 = 9) rfl rfl rfl ⟨rfl, rfl⟩ (show zfit (zrm 3 80) 6 (zrm 4 124) = true from rfl) (Nat.le_of_ble_eq_true rfl) dX10_crank_45 ⟨Nat.zero_le _, Nat.zero_le _⟩ ?_
    refine zv_eqS (τ := (rW (crW (hRem σ 34 q hh.length) U S (d : Int) j) 320 (qPtr U S j).1 (qPtr U S j).2)) rfl ?_
    refine zv_astore (lv' := [(4, .ref (ob E 320)), (0, .ref (ob E 0)), (1, .int (zI (d : Int))), (2, .int (zI (S.dy : Int))), (3, .int (zI (j : Int)))]) C dX10_crank_48  (by decide) rfl ?_
    refine zv_aload C 0 dX10_crank_50 rfl ?_
    refine zv_iload_n C 2 dX10_crank_52 rfl rfl ?_
    refine zv_cvlD (st := []) C (c_X3_drumBy hfl E (rW (crW (hRem σ 34 q hh.length) U S (d : Int) j) 320 (qPtr U S j).1 (qPtr U S j).2) 320 (qPtr U S j).1 (qPtr U S j).2 ((d : Int)) (by decide) (rW_R _ _ _ _) (by omega) (by omega) (by omega)) mX3_drumBy kX10_334 (by decide : kd 320 = 3) rfl rfl rfl ⟨rfl, rfl⟩ (show zfit (zrm 2 46) 2 (zrm 4 124) = true from rfl) (Nat.le_of_ble_eq_true rfl) dX10_crank_53 ⟨Nat.zero_le _, Nat.zero_le _⟩ ?_
    refine zv_eql (y := (zL (qDrum U S j (d : Int)))) (congrArg zL (qDrum_e hU hS (by omega) _)) ?_
    refine zv_aload C 0 dX10_crank_56 rfl ?_
    refine zv_iload_n C 3 dX10_crank_58 rfl rfl ?_
    refine zv_cvlD (st := [.long (zL (qDrum U S j (d : Int)))]) C (c_X3_drumBy hfl E (rW (crW (hRem σ 34 q hh.length) U S (d : Int) j) 320 (qPtr U S j).1 (qPtr U S j).2) 320 (qPtr U S j).1 (qPtr U S j).2 ((S.dy : Int)) (by decide) (rW_R _ _ _ _) (by omega) (by omega) (by omega)) mX3_drumBy kX10_334 (by decide : kd 320 = 3) rfl rfl rfl ⟨rfl, rfl⟩ (show zfit (zrm 2 46) 2 (zrm 4 124) = true from rfl) (Nat.le_of_ble_eq_true rfl) dX10_crank_59 ⟨Nat.zero_le _, Nat.zero_le _⟩ ?_
    refine zv_eql (y := (zL (qDrum U S j (S.dy : Int)))) (congrArg zL (qDrum_e hU hS (by omega) _)) ?_
    refine zv_lsubZ C dX10_crank_62 ?_
    refine zv_lstore (lv' := [(5, .long (zL ((qDrum U S j (d : Int)) - (qDrum U S j (S.dy : Int))))), (4, .ref (ob E 320)), (0, .ref (ob E 0)), (1, .int (zI (d : Int))), (2, .int (zI (S.dy : Int))), (3, .int (zI (j : Int)))]) C dX10_crank_63  (by decide) rfl ?_
    refine zv_aload_n C 2 dX10_crank_65 rfl rfl ?_
    refine zG9_2 C (by decide : kd 0 = _) kX10_26 dX10_crank_66 ?_
    refine zG6_5 C (by decide : kd 34 = _) kX10_154 dX10_crank_69 ?_
    refine zv_iload_n C 5 dX10_crank_72 rfl rfl ?_
    refine zv_tald (j := j) C (by decide : kd 37 = _) (zI_ix rfl) (Nat.lt_of_lt_of_eq hj8 (by decide)) dX10_crank_73 ?_
    refine zv_aload_n C 2 dX10_crank_74 rfl rfl ?_
    refine zG9_2 C (by decide : kd 0 = _) kX10_26 dX10_crank_75 ?_
    refine zG6_2 C (by decide : kd 34 = _) kX10_127 dX10_crank_78 ?_
    refine zv_eqi (y := (zI (S.sl : Int))) (hSj.2.2.2.1.1) ?_
    refine zv_cviD (st := []) C (c_X8_playWith hfl E (rW (crW (hRem σ 34 q hh.length) U S (d : Int) j) 320 (qPtr U S j).1 (qPtr U S j).2) (34 + 4 + 2 * j) (S.tn j) (S.tr j) (S.sl : Int) hkj hTj hwj (by omega)) mX8_playWith kX10_337 hkj rfl rfl rfl ⟨rfl, rfl⟩ (show zfit (zrm 2 44) 7 (zrm 4 124) = true from rfl) (Nat.le_of_ble_eq_true rfl) dX10_crank_81 ⟨Nat.zero_le _, Nat.zero_le _⟩ ?_
    refine zv_istore (lv' := [(7, .int (zI (qPlay S j))), (5, .long (zL ((qDrum U S j (d : Int)) - (qDrum U S j (S.dy : Int))))), (4, .ref (ob E 320)), (0, .ref (ob E 0)), (1, .int (zI (d : Int))), (2, .int (zI (S.dy : Int))), (3, .int (zI (j : Int)))]) C dX10_crank_84  (by decide) rfl ?_
    refine zv_aload_n C 3 dX10_crank_86 rfl rfl ?_
    refine zG9_2 C (by decide : kd 0 = _) kX10_26 dX10_crank_87 ?_
    refine zG6_4 C (by decide : kd 34 = _) kX10_310 dX10_crank_90 ?_
    refine zv_iload_n C 6 dX10_crank_93 rfl rfl ?_
    refine zv_lconst (v := zL 0) C dX10_crank_94 (by decide) ?_
    refine zv_iload C 0 dX10_crank_95 rfl ?_
    refine zv_i2lZ C (by omega) dX10_crank_97 ?_
    refine zv_aload_n C 3 dX10_crank_98 rfl rfl ?_
    refine zG9_2 C (by decide : kd 0 = _) kX10_26 dX10_crank_99 ?_
    refine zG6_4 C (by decide : kd 34 = _) kX10_310 dX10_crank_102 ?_
    refine zv_iload_n C 6 dX10_crank_105 rfl rfl ?_
    refine zv_iald (j := j) C (by decide : kd 36 = _) (zI_ix rfl) (Nat.lt_of_lt_of_eq hj8 (by decide)) dX10_crank_106 ?_
    refine zv_eqi (y := (zI (S.lg j))) (by rw [gI_rW, crW_L, if_neg (by omega)]; exact hSR.2.2.2.2.2.1 j hj8) ?_
    refine zv_i2lZ C (by omega) dX10_crank_107 ?_
    refine zv_lload C 1 dX10_crank_108 rfl ?_
    refine zv_lsubZ C dX10_crank_110 ?_
    refine zv_cslD (st := [.long (zL 0), .int (zI (j : Int)), .ref (ob E 36)]) C (c_J9_min_f86c9 hfl E (rW (crW (hRem σ 34 q hh.length) U S (d : Int) j) 320 (qPtr U S j).1 (qPtr U S j).2) (qPlay S j) ((S.lg j) - ((qDrum U S j (d : Int)) - (qDrum U S j (S.dy : Int)))) (by omega) (by omega)) mJ9_min_f86c9 kX10_340 rfl ⟨rfl, rfl⟩ (show zfit (zrm 0 0) 4 (zrm 4 124) = true from rfl) (Nat.le_of_ble_eq_true rfl) dX10_crank_111 ⟨Nat.zero_le _, Nat.zero_le _⟩ ?_
    refine zv_cslD (st := [.int (zI (j : Int)), .ref (ob E 36)]) C (c_J9_max_f86c9 hfl E (rW (crW (hRem σ 34 q hh.length) U S (d : Int) j) 320 (qPtr U S j).1 (qPtr U S j).2) (0) (min (qPlay S j) ((S.lg j) - ((qDrum U S j (d : Int)) - (qDrum U S j (S.dy : Int))))) (by omega) (by omega)) mJ9_max_f86c9 kX10_250 rfl ⟨rfl, rfl⟩ (show zfit (zrm 0 0) 4 (zrm 4 124) = true from rfl) (Nat.le_of_ble_eq_true rfl) dX10_crank_114 ⟨Nat.zero_le _, Nat.zero_le _⟩ ?_
    refine zv_l2iZ C dX10_crank_117 ?_
    refine zv_iast (j := j) C (by decide : kd 36 = _) (zI_ix rfl) (Nat.lt_of_lt_of_eq hj8 (by decide)) dX10_crank_118 ?_
    refine zv_iinc (v := (zI ((j : Int) + 1))) (lv' := [(3, .int (zI ((j : Int) + 1))), (7, .int (zI (qPlay S j))), (5, .long (zL ((qDrum U S j (d : Int)) - (qDrum U S j (S.dy : Int))))), (4, .ref (ob E 320)), (0, .ref (ob E 0)), (1, .int (zI (d : Int))), (2, .int (zI (S.dy : Int)))]) C 6 dX10_crank_119 rfl (zI_add _ _) (by decide) rfl ?_
    refine zv_goto (tgt := 28) C dX10_crank_122 (by decide) ?_
    have q28_111 : ((j : Int) + 1 : Int) = ((j + 1 : Nat) : Int) := by first | rfl | omega
    refine zv_sub (lv' := [(0, .ref (ob E 0)), (1, .int (zI (d : Int))), (2, .int (zI (S.dy : Int))), (3, .int (zI ((j + 1 : Nat) : Int)))]) [4, 5, 6, 0] (zcons rfl (zcons rfl (zcons rfl (zcons (zqI q28_111) rfl)))) ?_
    refine zv_eqS (τ := (crW (hRem σ 34 q hh.length) U S (d : Int) (j + 1))) (rfl) ?_
    exact ih (j + 1) (by omega) (by omega)
set_option maxRecDepth 20000 in
theorem x1_X10_crank {l : Launch} (hfl : l.stackTraces = false) (E : zE) (σ : zS) (y : Int) (hyi : -2147483648 ≤ y ∧ y < 2147483648) (hno : ¬ (0 ≤ y ∧ y ≤ 400000)) : zRx l E yX10_crank cX10_crank 8 (some .int) (zrx 9 200) [.ref (ob E 0), .int (zI y)] σ "java/lang/IllegalArgumentException" := by
  refine vx_ofW (cc := cX10_crank) (maxL := 8) (ret := (some .int)) (by decide) rfl ?_
  intro p e s m args below meth c s₁ B hml hout hv
  obtain ⟨rfl, hd⟩ := hv
  have C := zX_of (own := RX10) hfl B hml rfl hd rfl
  have hr := B.returns
  refine zV_go hd (Nat.le_of_ble_eq_true rfl) (lv := [(0, .ref (ob E 0)), (1, .int (zI y))]) rfl ?_
  skip
  refine zv_iload_n C 1 dX10_crank_0 rfl rfl ?_
  refine zv_iconst (v := zI 0) C dX10_crank_1 rfl ?_
  refine zv_ldc C kX10_199 dX10_crank_2 ?_
  refine zv_eqi (y := zI 400000) (by decide) ?_
  exact zv_xcs (st := []) C (x_X10_needWithin hfl E σ y 0 400000 hyi (by omega) (by omega) hno) hout mX10_needWithin kX10_117 rfl ⟨rfl, rfl⟩ (show zfit (zrx 6 100) 3 (zrx 9 200) = true from rfl) (Nat.le_of_ble_eq_true rfl) dX10_crank_4
