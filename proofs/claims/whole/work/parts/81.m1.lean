/-! the reference: its rows, its scratch -/
/-- a row of stock, slack, day, trains, lags -/
def zRo (g : Nat → Int32) (nb : Nat) (S : zST) : Prop := g 0 = zI (S.n : Int) ∧ (∀ i, i < S.n → g (1 + i) = zI (S.f i : Int)) ∧ g 17 = zI (S.sl : Int) ∧ g 18 = zI (S.dy : Int) ∧
  ∀ j, j < 8 → g (19 + 14 * j) = zI (S.tn j : Int) ∧ (j < nb → g (20 + 14 * j) = zI (S.lg j)) ∧ ∀ p w, p < S.tn j → w < 3 → g (21 + 14 * j + 3 * p + w) = zI (S.tr j p w : Int)
/-- the row of the setup -/
def zRb (g : Nat → Int32) (U : zSU) : Prop := g 0 = zI (U.nb : Int) ∧ g 1 = zI U.s0 ∧ ∀ j, j < U.nb → g (2 + 3 * j) = zI (U.pe j : Int) ∧ g (3 + 3 * j) = zI (U.re j : Int) ∧ g (4 + 3 * j) = zI (U.ca j)
/-- up and down -/
def mW (σ : zS) (u d : Int) : zS := sJ (sJ σ 327 22 (zL u)) 327 23 (zL d)
theorem mW_o (σ : zS) (u d u' d' : Int) : mW (mW σ u d) u' d' = mW σ u' d' := by
  apply zS_ext
  · intro x y; rfl
  · intro x y
    unfold mW
    simp only [gJ_sJ]
    split
    · rfl
    · split <;> rfl
  · intro x y; rfl
theorem mW_r (σ : zS) (u d : Int) : gJ (mW σ u d) 327 22 = zL u ∧ gJ (mW σ u d) 327 23 = zL d := ⟨by unfold mW; rw [gJ_sJ, if_neg (by omega), gJ_sJ, if_pos ⟨rfl, rfl⟩], by unfold mW; rw [gJ_sJ, if_pos ⟨rfl, rfl⟩]⟩
def mC (σ : zS) (P : Bool) : zS := sI σ 327 24 (zB (P = true))
def thW (σ : zS) (k : Nat) : zS := sI σ 327 10 (zI (k : Int))
theorem thW_o (σ : zS) (k k' : Nat) : thW (thW σ k) k' = thW σ k' := sI_o _ _ _ _ _
/-- a piece of a row copied -/
def cpR (σ : zS) (a p b q m : Nat) : zS := (fun x j => if x = b ∧ q ≤ j ∧ j < q + m then σ.1 a (p + (j - q)) else σ.1 x j, σ.2)
theorem gI_cpR (σ : zS) (a p b q m x j : Nat) : gI (cpR σ a p b q m) x j = if x = b ∧ q ≤ j ∧ j < q + m then gI σ a (p + (j - q)) else gI σ x j := rfl
theorem cpR_0 (σ : zS) (a p b q : Nat) : cpR σ a p b q 0 = σ := zS_ext (fun x j => by rw [gI_cpR, if_neg (by omega)]) (fun _ _ => rfl) (fun _ _ => rfl)
theorem cpR_s (σ : zS) (a p b q m : Nat) (h : a ≠ b ∨ q < p) : sI (cpR σ a p b q m) b (q + m) (gI (cpR σ a p b q m) a (p + m)) = cpR σ a p b q (m + 1) := by
  refine zS_ext (fun x j => ?_) (fun _ _ => rfl) (fun _ _ => rfl)
  rw [gI_sI, gI_cpR, gI_cpR, gI_cpR, if_neg (show ¬ (a = b ∧ q ≤ p + m ∧ p + m < q + m) by omega)]
  by_cases h1 : x = b ∧ j = q + m
  · rw [if_pos h1, if_pos (by omega), h1.2, show p + (q + m - q) = p + m by omega]
  · rw [if_neg h1]
    by_cases h2 : x = b ∧ q ≤ j ∧ j < q + m
    · rw [if_pos h2, if_pos (by omega)]
    · rw [if_neg h2, if_neg (by omega)]
set_option maxRecDepth 20000 in
theorem c_X11_trainAt {l : Launch} (hfl : l.stackTraces = false) (E : zE) (σ : zS) (i w : Nat) (hi : i < 8) (hw : w < 14) : zRi l E yX11_trainAt cX11_trainAt 2 .int (zrm 0 0) [.int (zI (i : Int)), .int (zI (w : Int))] σ (fun r τ => r = zI ((19 + 14 * i + w : Nat) : Int) ∧ τ = σ) := by
  refine Met.ofW (cc := cX11_trainAt) (maxL := 2) (ret := (some .int)) (by decide +kernel) rfl ?_
  intro p e s m args below meth c s₁ B hml hv
  obtain ⟨rfl, hd⟩ := hv
  have C := zX_of (own := RX11) hfl B hml rfl hd rfl
  have hr := B.returns
  refine zV_go hd (Nat.le_of_ble_eq_true rfl) (lv := [(0, .int (zI (i : Int))), (1, .int (zI (w : Int)))]) rfl ?_
  refine zv_bipush (v := zI 19) C dX11_trainAt_0 (by decide) ?_
  refine zv_bipush (v := zI 14) C dX11_trainAt_2 (by decide) ?_
  refine zv_iload_n C 0 dX11_trainAt_4 rfl rfl ?_
  refine zv_imulZ C dX11_trainAt_5 ?_
  refine zv_iaddZ C dX11_trainAt_6 ?_
  refine zv_iload_n C 1 dX11_trainAt_7 rfl rfl ?_
  refine zv_iaddZ C dX11_trainAt_8 ?_
  exact zv_iret C hr rfl dX11_trainAt_9 ⟨congrArg zI (by omega), rfl⟩
set_option maxRecDepth 20000 in
theorem c_X11_parts {l : Launch} (hfl : l.stackTraces = false) (E : zE) (σ : zS) (nb : Nat) (S : zST) (i : Nat) (hW : zRo (gI σ 332) nb S) (hi : i < 8) : zRi l E yX11_parts cX11_parts 2 .int (zrm 1 21) [.ref (ob E 327), .int (zI (i : Int))] σ (fun r τ => r = zI (S.tn i : Int) ∧ τ = σ) := by
  refine Met.ofW (cc := cX11_parts) (maxL := 2) (ret := (some .int)) (by decide +kernel) rfl ?_
  intro p e s m args below meth c s₁ B hml hv
  obtain ⟨rfl, hd⟩ := hv
  have C := zX_of (own := RX11) hfl B hml rfl hd rfl
  have hr := B.returns
  refine zV_go hd (Nat.le_of_ble_eq_true rfl) (lv := [(0, .ref (ob E 327)), (1, .int (zI (i : Int)))]) rfl ?_
  refine zv_aload_n C 0 dX11_parts_0 rfl rfl ?_
  refine zG10_4 C (by decide : kd 327 = _) kX11_22 dX11_parts_1 ?_
  refine zv_iload_n C 1 dX11_parts_4 rfl rfl ?_
  refine zv_iconst (v := zI 0) C dX11_parts_5 rfl ?_
  refine zv_csiD (st := [.ref (ob E 332)]) C (c_X11_trainAt hfl E σ i (0) (by omega) (by omega)) mX11_trainAt kX11_53 rfl ⟨rfl, rfl⟩ (show zfit (zrm 0 0) 2 (zrm 1 21) = true from rfl) (Nat.le_of_ble_eq_true rfl) dX11_parts_6 ⟨Nat.zero_le _, Nat.zero_le _⟩ ?_
  refine zv_iald (j := 19 + 14 * i + 0) C (by decide : kd 332 = _) (zI_ix rfl) (Nat.lt_of_lt_of_eq (show 19 + 14 * i + 0 < 131 by omega) (by decide)) dX11_parts_9 ?_
  refine zv_eqi (y := (zI (S.tn i : Int))) ((hW.2.2.2.2 i hi).1) ?_
  exact zv_iret C hr rfl dX11_parts_10 ⟨rfl, rfl⟩
set_option maxRecDepth 20000 in
theorem c_X11_partOf {l : Launch} (hfl : l.stackTraces = false) (E : zE) (σ : zS) (nb : Nat) (S : zST) (i j w : Nat) (hW : zRo (gI σ 332) nb S) (hi : i < 8) (hj : j < S.tn i) (ht : S.tn i ≤ 4) (hw : w < 3) : zRi l E yX11_partOf cX11_partOf 4 .int (zrm 1 21) [.ref (ob E 327), .int (zI (i : Int)), .int (zI (j : Int)), .int (zI (w : Int))] σ (fun r τ => r = zI (S.tr i j w : Int) ∧ τ = σ) := by
  refine Met.ofW (cc := cX11_partOf) (maxL := 4) (ret := (some .int)) (by decide +kernel) rfl ?_
  intro p e s m args below meth c s₁ B hml hv
  obtain ⟨rfl, hd⟩ := hv
  have C := zX_of (own := RX11) hfl B hml rfl hd rfl
  have hr := B.returns
  refine zV_go hd (Nat.le_of_ble_eq_true rfl) (lv := [(0, .ref (ob E 327)), (1, .int (zI (i : Int))), (2, .int (zI (j : Int))), (3, .int (zI (w : Int)))]) rfl ?_
  refine zv_aload_n C 0 dX11_partOf_0 rfl rfl ?_
  refine zG10_4 C (by decide : kd 327 = _) kX11_22 dX11_partOf_1 ?_
  refine zv_iload_n C 1 dX11_partOf_4 rfl rfl ?_
  refine zv_iconst (v := zI 2) C dX11_partOf_5 rfl ?_
  refine zv_iconst (v := zI 3) C dX11_partOf_6 rfl ?_
  refine zv_iload_n C 2 dX11_partOf_7 rfl rfl ?_
  refine zv_imulZ C dX11_partOf_8 ?_
  refine zv_iaddZ C dX11_partOf_9 ?_
  refine zv_iload_n C 3 dX11_partOf_10 rfl rfl ?_
  refine zv_iaddZ C dX11_partOf_11 ?_
  refine zv_csiD (st := [.ref (ob E 332)]) C (c_X11_trainAt hfl E σ i (2 + 3 * j + w) (by omega) (by omega)) mX11_trainAt kX11_53 rfl ⟨rfl, rfl⟩ (show zfit (zrm 0 0) 2 (zrm 1 21) = true from rfl) (Nat.le_of_ble_eq_true rfl) dX11_partOf_12 ⟨Nat.zero_le _, Nat.zero_le _⟩ ?_
  refine zv_iald (j := 19 + 14 * i + (2 + 3 * j + w)) C (by decide : kd 332 = _) (zI_ix rfl) (Nat.lt_of_lt_of_eq (show 19 + 14 * i + (2 + 3 * j + w) < 131 by omega) (by decide)) dX11_partOf_15 ?_
  refine zv_eqi (y := (zI (S.tr i j w : Int))) (by rw [show 19 + 14 * i + (2 + 3 * j + w) = 21 + 14 * i + 3 * j + w by omega]; exact (hW.2.2.2.2 i hi).2.2 j w hj hw) ?_
  exact zv_iret C hr rfl dX11_partOf_16 ⟨rfl, rfl⟩
set_option maxRecDepth 20000 in
theorem c0_X11_of {l : Launch} (hfl : l.stackTraces = false) (E : zE) (σ : zS) (U : zSU) (i : Nat) (hB : zRb (gI σ 328) U) (hi : i < U.nb) (hnb : U.nb ≤ 8) : zRi l E yX11_of cX11_of 3 .int (zrm 0 0) [.ref (ob E 327), .int (zI (i : Int)), .int (zI 0)] σ (fun r τ => r = zI (U.pe i : Int) ∧ τ = σ) := by
  refine Met.ofW (cc := cX11_of) (maxL := 3) (ret := (some .int)) (by decide +kernel) rfl ?_
  intro p e s m args below meth c s₁ B hml hv
  obtain ⟨rfl, hd⟩ := hv
  have C := zX_of (own := RX11) hfl B hml rfl hd rfl
  have hr := B.returns
  refine zV_go hd (Nat.le_of_ble_eq_true rfl) (lv := [(0, .ref (ob E 327)), (1, .int (zI (i : Int))), (2, .int (zI 0))]) rfl ?_
  refine zv_aload_n C 0 dX11_of_0 rfl rfl ?_
  refine zG10_0 C (by decide : kd 327 = _) kX11_7 dX11_of_1 ?_
  refine zv_iconst (v := zI 2) C dX11_of_4 rfl ?_
  refine zv_iconst (v := zI 3) C dX11_of_5 rfl ?_
  refine zv_iload_n C 1 dX11_of_6 rfl rfl ?_
  refine zv_imulZ C dX11_of_7 ?_
  refine zv_iaddZ C dX11_of_8 ?_
  refine zv_iload_n C 2 dX11_of_9 rfl rfl ?_
  refine zv_iaddZ C dX11_of_10 ?_
  refine zv_iald (j := 2 + 3 * i + 0) C (by decide : kd 328 = _) (zI_ix (by omega)) (Nat.lt_of_lt_of_eq (show 2 + 3 * i + 0 < 26 by omega) (by decide)) dX11_of_11 ?_
  refine zv_eqi (y := (zI (U.pe i : Int))) ((hB.2.2 i hi).1) ?_
  exact zv_iret C hr rfl dX11_of_12 ⟨rfl, rfl⟩
set_option maxRecDepth 20000 in
theorem c1_X11_of {l : Launch} (hfl : l.stackTraces = false) (E : zE) (σ : zS) (U : zSU) (i : Nat) (hB : zRb (gI σ 328) U) (hi : i < U.nb) (hnb : U.nb ≤ 8) : zRi l E yX11_of cX11_of 3 .int (zrm 0 0) [.ref (ob E 327), .int (zI (i : Int)), .int (zI 1)] σ (fun r τ => r = zI (U.re i : Int) ∧ τ = σ) := by
  refine Met.ofW (cc := cX11_of) (maxL := 3) (ret := (some .int)) (by decide +kernel) rfl ?_
  intro p e s m args below meth c s₁ B hml hv
  obtain ⟨rfl, hd⟩ := hv
  have C := zX_of (own := RX11) hfl B hml rfl hd rfl
  have hr := B.returns
  refine zV_go hd (Nat.le_of_ble_eq_true rfl) (lv := [(0, .ref (ob E 327)), (1, .int (zI (i : Int))), (2, .int (zI 1))]) rfl ?_
  refine zv_aload_n C 0 dX11_of_0 rfl rfl ?_
  refine zG10_0 C (by decide : kd 327 = _) kX11_7 dX11_of_1 ?_
  refine zv_iconst (v := zI 2) C dX11_of_4 rfl ?_
  refine zv_iconst (v := zI 3) C dX11_of_5 rfl ?_
  refine zv_iload_n C 1 dX11_of_6 rfl rfl ?_
  refine zv_imulZ C dX11_of_7 ?_
  refine zv_iaddZ C dX11_of_8 ?_
  refine zv_iload_n C 2 dX11_of_9 rfl rfl ?_
  refine zv_iaddZ C dX11_of_10 ?_
  refine zv_iald (j := 2 + 3 * i + 1) C (by decide : kd 328 = _) (zI_ix (by omega)) (Nat.lt_of_lt_of_eq (show 2 + 3 * i + 1 < 26 by omega) (by decide)) dX11_of_11 ?_
  refine zv_eqi (y := (zI (U.re i : Int))) (by rw [show 2 + 3 * i + 1 = 3 + 3 * i by omega]; exact (hB.2.2 i hi).2.1) ?_
  exact zv_iret C hr rfl dX11_of_12 ⟨rfl, rfl⟩
set_option maxRecDepth 20000 in
theorem c2_X11_of {l : Launch} (hfl : l.stackTraces = false) (E : zE) (σ : zS) (U : zSU) (i : Nat) (hB : zRb (gI σ 328) U) (hi : i < U.nb) (hnb : U.nb ≤ 8) : zRi l E yX11_of cX11_of 3 .int (zrm 0 0) [.ref (ob E 327), .int (zI (i : Int)), .int (zI 2)] σ (fun r τ => r = zI (U.ca i) ∧ τ = σ) := by
  refine Met.ofW (cc := cX11_of) (maxL := 3) (ret := (some .int)) (by decide +kernel) rfl ?_
  intro p e s m args below meth c s₁ B hml hv
  obtain ⟨rfl, hd⟩ := hv
  have C := zX_of (own := RX11) hfl B hml rfl hd rfl
  have hr := B.returns
  refine zV_go hd (Nat.le_of_ble_eq_true rfl) (lv := [(0, .ref (ob E 327)), (1, .int (zI (i : Int))), (2, .int (zI 2))]) rfl ?_
  refine zv_aload_n C 0 dX11_of_0 rfl rfl ?_
  refine zG10_0 C (by decide : kd 327 = _) kX11_7 dX11_of_1 ?_
  refine zv_iconst (v := zI 2) C dX11_of_4 rfl ?_
  refine zv_iconst (v := zI 3) C dX11_of_5 rfl ?_
  refine zv_iload_n C 1 dX11_of_6 rfl rfl ?_
  refine zv_imulZ C dX11_of_7 ?_
  refine zv_iaddZ C dX11_of_8 ?_
  refine zv_iload_n C 2 dX11_of_9 rfl rfl ?_
  refine zv_iaddZ C dX11_of_10 ?_
  refine zv_iald (j := 2 + 3 * i + 2) C (by decide : kd 328 = _) (zI_ix (by omega)) (Nat.lt_of_lt_of_eq (show 2 + 3 * i + 2 < 26 by omega) (by decide)) dX11_of_11 ?_
  refine zv_eqi (y := (zI (U.ca i))) (by rw [show 2 + 3 * i + 2 = 4 + 3 * i by omega]; exact (hB.2.2 i hi).2.2) ?_
  exact zv_iret C hr rfl dX11_of_12 ⟨rfl, rfl⟩
set_option maxRecDepth 20000 in
theorem c_X11_inRange {l : Launch} (hfl : l.stackTraces = false) (E : zE) (σ : zS) (a b d : Int) (ha1 : -9223372036854775808 < a ∧ a < 9223372036854775808) (hb1 : -9223372036854775808 < b ∧ b < 9223372036854775808) (hd1 : -9223372036854775808 < d ∧ d < 9223372036854775808) : zRi l E yX11_inRange cX11_inRange 6 .boolean (zrm 0 0) [.long (zL a), .long (zL b), .long (zL d)] σ (fun r τ => r = zB (b ≤ a ∧ a ≤ d) ∧ τ = σ) := by
  refine Met.ofW (cc := cX11_inRange) (maxL := 6) (ret := (some .boolean)) (by decide +kernel) rfl ?_
  intro p e s m args below meth c s₁ B hml hv
  obtain ⟨rfl, hd⟩ := hv
  have C := zX_of (own := RX11) hfl B hml rfl hd rfl
  have hr := B.returns
  refine zV_go hd (Nat.le_of_ble_eq_true rfl) (lv := [(0, .long (zL a)), (2, .long (zL b)), (4, .long (zL d))]) rfl ?_
  refine zv_lload_n C 0 dX11_inRange_0 rfl rfl ?_
  refine zv_lload_n C 1 dX11_inRange_1 rfl rfl ?_
  refine zv_lc_ltZ (tgt := 17) C (by omega) (by omega) dX11_inRange_2 dX11_inRange_3 (by decide) (fun h2 => ?_) (fun h2 => ?_)
  · skip
    refine zv_iconst (v := zI 0) C dX11_inRange_17 rfl ?_
    exact zv_iret C hr rfl dX11_inRange_18 ⟨(zB_f (by omega)).symm, rfl⟩
  · skip
    refine zv_lload_n C 0 dX11_inRange_6 rfl rfl ?_
    refine zv_lload C 2 dX11_inRange_7 rfl ?_
    refine zv_lc_gtZ (tgt := 17) C (by omega) (by omega) dX11_inRange_9 dX11_inRange_10 (by decide) (fun h9 => ?_) (fun h9 => ?_)
    · skip
      refine zv_iconst (v := zI 0) C dX11_inRange_17 rfl ?_
      exact zv_iret C hr rfl dX11_inRange_18 ⟨(zB_f (by omega)).symm, rfl⟩
    · skip
      refine zv_iconst (v := zI 1) C dX11_inRange_13 rfl ?_
      refine zv_goto (tgt := 18) C dX11_inRange_14 (by decide) ?_
      exact zv_iret C hr rfl dX11_inRange_18 ⟨(zB_t (by omega)).symm, rfl⟩
set_option maxRecDepth 20000 in
theorem c0_X11_fails {l : Launch} (hfl : l.stackTraces = false) (E : zE) (σ : zS) (k : Nat)  : zRi l E yX11_fails cX11_fails 3 .boolean (zrm 0 0) [.ref (ob E 327), .int (zI 0), .int (zI (k : Int))] σ (fun r τ => r = zI 0 ∧ τ = σ) := by
  refine Met.ofW (cc := cX11_fails) (maxL := 3) (ret := (some .boolean)) (by decide +kernel) rfl ?_
  intro p e s m args below meth c s₁ B hml hv
  obtain ⟨rfl, hd⟩ := hv
  have C := zX_of (own := RX11) hfl B hml rfl hd rfl
  have hr := B.returns
  refine zV_go hd (Nat.le_of_ble_eq_true rfl) (lv := [(0, .ref (ob E 327)), (1, .int (zI 0)), (2, .int (zI (k : Int)))]) rfl ?_
  refine zv_iload_n C 1 dX11_fails_0 rfl rfl ?_
  refine zv_if_eqZ (tgt := 9) C (by omega) dX11_fails_1 (by decide) (fun h1 => ?_) (fun h1 => ?_)
  · skip
    refine zv_iload_n C 1 dX11_fails_9 rfl rfl ?_
    exact zv_iret C hr rfl dX11_fails_10 ⟨rfl, rfl⟩
  · exfalso
    omega
set_option maxRecDepth 20000 in
theorem c1_X11_fails {l : Launch} (hfl : l.stackTraces = false) (E : zE) (σ : zS) (k : Nat)  : zRi l E yX11_fails cX11_fails 3 .boolean (zrm 0 0) [.ref (ob E 327), .int (zI 1), .int (zI (k : Int))] σ (fun r τ => r = zI 1 ∧ τ = thW σ k) := by
  refine Met.ofW (cc := cX11_fails) (maxL := 3) (ret := (some .boolean)) (by decide +kernel) rfl ?_
  intro p e s m args below meth c s₁ B hml hv
  obtain ⟨rfl, hd⟩ := hv
  have C := zX_of (own := RX11) hfl B hml rfl hd rfl
  have hr := B.returns
  refine zV_go hd (Nat.le_of_ble_eq_true rfl) (lv := [(0, .ref (ob E 327)), (1, .int (zI 1)), (2, .int (zI (k : Int)))]) rfl ?_
  refine zv_iload_n C 1 dX11_fails_0 rfl rfl ?_
  refine zv_if_eqZ (tgt := 9) C (by omega) dX11_fails_1 (by decide) (fun h1 => ?_) (fun h1 => ?_)
  · exfalso
    omega
  · skip
    refine zv_aload_n C 0 dX11_fails_4 rfl rfl ?_
    refine zv_iload_n C 2 dX11_fails_5 rfl rfl ?_
    refine zP10_10 C (by decide : kd 327 = _) kX11_50 dX11_fails_6 ?_
    refine zv_iload_n C 1 dX11_fails_9 rfl rfl ?_
    exact zv_iret C hr rfl dX11_fails_10 ⟨rfl, rfl⟩
set_option maxRecDepth 20000 in
theorem c_X11_thrown {l : Launch} (hfl : l.stackTraces = false) (E : zE) (σ : zS)   : zRi l E yX11_thrown cX11_thrown 1 .int (zrm 0 0) [.ref (ob E 327)] σ (fun r τ => r = gI σ 327 10 ∧ τ = σ) := by
  refine Met.ofW (cc := cX11_thrown) (maxL := 1) (ret := (some .int)) (by decide +kernel) rfl ?_
  intro p e s m args below meth c s₁ B hml hv
  obtain ⟨rfl, hd⟩ := hv
  have C := zX_of (own := RX11) hfl B hml rfl hd rfl
  have hr := B.returns
  refine zV_go hd (Nat.le_of_ble_eq_true rfl) (lv := [(0, .ref (ob E 327))]) rfl ?_
  refine zv_aload_n C 0 dX11_thrown_0 rfl rfl ?_
  refine zG10_10 C (by decide : kd 327 = _) kX11_50 dX11_thrown_1 ?_
  exact zv_iret C hr rfl dX11_thrown_4 ⟨rfl, rfl⟩
set_option maxRecDepth 20000 in
theorem c_X11_copies {l : Launch} (hfl : l.stackTraces = false) (E : zE) (σ : zS) (a b x y n9 : Nat) (ha : kd a = 12) (hb : kd b = 12) (hx : x + n9 ≤ zlen a) (hy : y + n9 ≤ zlen b) (hne : a ≠ b ∨ y < x) (hx9 : x < 100000) (hy9 : y < 100000) (hm9 : n9 < 100000) : zRv l E yX11_copies cX11_copies 6 (zrm 0 0) [.ref (ob E a), .int (zI (x : Int)), .ref (ob E b), .int (zI (y : Int)), .int (zI (n9 : Int))] σ (fun τ => τ = cpR σ a x b y n9) := by
  refine Met.ofW (cc := cX11_copies) (maxL := 6) (ret := none) (by decide +kernel) rfl ?_
  intro p e s m args below meth c s₁ B hml hv
  obtain ⟨rfl, hd⟩ := hv
  have C := zX_of (own := RX11) hfl B hml rfl hd rfl
  have hr := B.returns
  refine zV_go hd (Nat.le_of_ble_eq_true rfl) (lv := [(0, .ref (ob E a)), (1, .int (zI (x : Int))), (2, .ref (ob E b)), (3, .int (zI (y : Int))), (4, .int (zI (n9 : Int)))]) rfl ?_
  refine zv_iconst (v := zI 0) C dX11_copies_0 rfl ?_
  refine zv_istore (lv' := [(5, .int (zI 0)), (0, .ref (ob E a)), (1, .int (zI (x : Int))), (2, .ref (ob E b)), (3, .int (zI (y : Int))), (4, .int (zI (n9 : Int)))]) C dX11_copies_1  (by decide) rfl ?_
  have q3_2 : (0 : Int) = (0 : Int) := by first | rfl | omega
  refine zv_sub (lv' := [(0, .ref (ob E a)), (1, .int (zI (x : Int))), (2, .ref (ob E b)), (3, .int (zI (y : Int))), (4, .int (zI (n9 : Int))), (5, .int (zI (0 : Int)))]) [1, 2, 3, 4, 5, 0] (zcons rfl (zcons rfl (zcons rfl (zcons rfl (zcons rfl (zcons (zqI q3_2) rfl)))))) ?_
  refine zv_eqS (τ := (cpR σ a x b y 0)) ((cpR_0 _ _ _ _ _).symm) ?_
  refine zv_while (α := Nat) (fun v => n9 - v) (fun v => v ≤ n9) (fun v => (cpR σ a x b y v)) (fun v => [(0, .ref (ob E a)), (1, .int (zI (x : Int))), (2, .ref (ob E b)), (3, .int (zI (y : Int))), (4, .int (zI (n9 : Int))), (5, .int (zI (v : Int)))]) (fun v => []) (fun j hI ih => ?_) (0) (by omega)
  refine zv_iload C 5 dX11_copies_3 rfl ?_
  refine zv_iload C 4 dX11_copies_5 rfl ?_
  refine zv_icmp_geZ (tgt := 28) C (by omega) (by omega) dX11_copies_7 (by decide) (fun h7 => ?_) (fun h7 => ?_)
  · skip
    exact zv_vret C hr dX11_copies_28 (by rw [show j = n9 by omega])
  · skip
    refine zv_aload_n C 2 dX11_copies_10 rfl rfl ?_
    refine zv_iload_n C 3 dX11_copies_11 rfl rfl ?_
    refine zv_iload C 5 dX11_copies_12 rfl ?_
    refine zv_iaddZ C dX11_copies_14 ?_
    refine zv_aload_n C 0 dX11_copies_15 rfl rfl ?_
    refine zv_iload_n C 1 dX11_copies_16 rfl rfl ?_
    refine zv_iload C 5 dX11_copies_17 rfl ?_
    refine zv_iaddZ C dX11_copies_19 ?_
    refine zv_iald (j := x + j) C ha (zI_ix (by omega)) (by omega) dX11_copies_20 ?_
    refine zv_iast (j := y + j) C hb (zI_ix (by omega)) (by omega) dX11_copies_21 ?_
    refine zv_iinc (v := (zI ((j : Int) + 1))) (lv' := [(5, .int (zI ((j : Int) + 1))), (0, .ref (ob E a)), (1, .int (zI (x : Int))), (2, .ref (ob E b)), (3, .int (zI (y : Int))), (4, .int (zI (n9 : Int)))]) C 5 dX11_copies_22 rfl (zI_add _ _) (by decide) rfl ?_
    refine zv_goto (tgt := 3) C dX11_copies_25 (by decide) ?_
    have q3_24 : ((j : Int) + 1 : Int) = ((j + 1 : Nat) : Int) := by first | rfl | omega
    refine zv_sub (lv' := [(0, .ref (ob E a)), (1, .int (zI (x : Int))), (2, .ref (ob E b)), (3, .int (zI (y : Int))), (4, .int (zI (n9 : Int))), (5, .int (zI ((j + 1 : Nat) : Int)))]) [1, 2, 3, 4, 5, 0] (zcons rfl (zcons rfl (zcons rfl (zcons rfl (zcons rfl (zcons (zqI q3_24) rfl)))))) ?_
    refine zv_eqS (τ := (cpR σ a x b y (j + 1))) (cpR_s _ _ _ _ _ _ hne) ?_
    exact ih (j + 1) (by omega) (by omega)
/-- .. the parts that are no idlers: tGe -/
theorem tGe_0 (c : Nat → Nat → Nat) : tGe c 0 = 0 := rfl
set_option maxRecDepth 20000 in
theorem c_X11_gears {l : Launch} (hfl : l.stackTraces = false) (E : zE) (σ : zS) (nb : Nat) (S : zST) (i : Nat) (hW : zRo (gI σ 332) nb S) (hi : i < 8) (ht : S.tn i ≤ 4) (hc : ∀ j w, j < S.tn i → w < 3 → S.tr i j w ≤ 100) : zRi l E yX11_gears cX11_gears 4 .int (zrm 2 44) [.ref (ob E 327), .int (zI (i : Int))] σ (fun r τ => r = zI (tGe (S.tr i) (S.tn i) : Int) ∧ τ = σ) := by
  refine Met.ofW (cc := cX11_gears) (maxL := 4) (ret := (some .int)) (by decide +kernel) rfl ?_
  intro p e s m args below meth c s₁ B hml hv
  obtain ⟨rfl, hd⟩ := hv
  have C := zX_of (own := RX11) hfl B hml rfl hd rfl
  have hr := B.returns
  refine zV_go hd (Nat.le_of_ble_eq_true rfl) (lv := [(0, .ref (ob E 327)), (1, .int (zI (i : Int)))]) rfl ?_
  refine zv_iconst (v := zI 0) C dX11_gears_0 rfl ?_
  refine zv_istore_n (lv' := [(2, .int (zI 0)), (0, .ref (ob E 327)), (1, .int (zI (i : Int)))]) C dX11_gears_1 rfl (by decide) rfl ?_
  refine zv_iconst (v := zI 0) C dX11_gears_2 rfl ?_
  refine zv_istore_n (lv' := [(3, .int (zI 0)), (2, .int (zI 0)), (0, .ref (ob E 327)), (1, .int (zI (i : Int)))]) C dX11_gears_3 rfl (by decide) rfl ?_
  have q4_4 : (0 : Int) = (0 : Int) := by first | rfl | omega
  have q4_5 : (0 : Int) = (tGe (S.tr i) 0 : Int) := by first | rfl | omega
  refine zv_sub (lv' := [(0, .ref (ob E 327)), (1, .int (zI (i : Int))), (2, .int (zI (tGe (S.tr i) 0 : Int))), (3, .int (zI (0 : Int)))]) [2, 3, 1, 0] (zcons rfl (zcons rfl (zcons (zqI q4_5) (zcons (zqI q4_4) rfl)))) ?_
  refine zv_while (α := Nat) (fun v => S.tn i - v) (fun v => v ≤ S.tn i) (fun v => σ) (fun v => [(0, .ref (ob E 327)), (1, .int (zI (i : Int))), (2, .int (zI (tGe (S.tr i) v : Int))), (3, .int (zI (v : Int)))]) (fun v => []) (fun j hI ih => ?_) (0) (by omega)
  refine zv_iload_n C 3 dX11_gears_4 rfl rfl ?_
  refine zv_aload_n C 0 dX11_gears_5 rfl rfl ?_
  refine zv_iload_n C 1 dX11_gears_6 rfl rfl ?_
  refine zv_cviD (st := [.int (zI (j : Int))]) C (c_X11_parts hfl E σ nb S i hW hi) mX11_parts kX11_188 (by decide : kd 327 = 10) rfl rfl rfl ⟨rfl, rfl⟩ (show zfit (zrm 1 21) 2 (zrm 2 44) = true from rfl) (Nat.le_of_ble_eq_true rfl) dX11_gears_7 ⟨Nat.zero_le _, Nat.zero_le _⟩ ?_
  refine zv_icmp_geZ (tgt := 38) C (by omega) (by omega) dX11_gears_10 (by decide) (fun h10 => ?_) (fun h10 => ?_)
  · skip
    refine zv_iload_n C 2 dX11_gears_38 rfl rfl ?_
    exact zv_iret C hr rfl dX11_gears_39 ⟨by rw [show j = S.tn i by omega], rfl⟩
  · skip
    have hc0 := hc j 0 (by omega) (by omega)
    have hc1 := hc j 1 (by omega) (by omega)
    have hc2 := hc j 2 (by omega) (by omega)
    refine zv_iload_n C 2 dX11_gears_13 rfl rfl ?_
    refine zv_aload_n C 0 dX11_gears_14 rfl rfl ?_
    refine zv_iload_n C 1 dX11_gears_15 rfl rfl ?_
    refine zv_iload_n C 3 dX11_gears_16 rfl rfl ?_
    refine zv_iconst (v := zI 0) C dX11_gears_17 rfl ?_
    refine zv_cviD (st := [.int (zI (tGe (S.tr i) j : Int))]) C (c_X11_partOf hfl E σ nb S i j 0 hW hi (by omega) ht (by omega)) mX11_partOf kX11_191 (by decide : kd 327 = 10) rfl rfl rfl ⟨rfl, rfl⟩ (show zfit (zrm 1 21) 4 (zrm 2 44) = true from rfl) (Nat.le_of_ble_eq_true rfl) dX11_gears_18 ⟨Nat.zero_le _, Nat.zero_le _⟩ ?_
    refine zv_iconst (v := zI 2) C dX11_gears_21 rfl ?_
    refine zv_icmp_eqZ (tgt := 29) C (by omega) (by omega) dX11_gears_22 (by decide) (fun h22 => ?_) (fun h22 => ?_)
    · skip
      refine zv_iconst (v := zI 0) C dX11_gears_29 rfl ?_
      refine zv_iaddZ C dX11_gears_30 ?_
      refine zv_istore_n (lv' := [(2, .int (zI ((tGe (S.tr i) j : Int) + 0))), (0, .ref (ob E 327)), (1, .int (zI (i : Int))), (3, .int (zI (j : Int)))]) C dX11_gears_31 rfl (by decide) rfl ?_
      refine zv_iinc (v := (zI ((j : Int) + 1))) (lv' := [(3, .int (zI ((j : Int) + 1))), (2, .int (zI ((tGe (S.tr i) j : Int) + 0))), (0, .ref (ob E 327)), (1, .int (zI (i : Int)))]) C 3 dX11_gears_32 rfl (zI_add _ _) (by decide) rfl ?_
      refine zv_goto (tgt := 4) C dX11_gears_35 (by decide) ?_
      have q4_34 : ((j : Int) + 1 : Int) = ((j + 1 : Nat) : Int) := by first | rfl | omega
      have q4_35 : ((tGe (S.tr i) j : Int) + 0 : Int) = (tGe (S.tr i) (j + 1) : Int) := by simp only [tGe]; split <;> omega
      refine zv_sub (lv' := [(0, .ref (ob E 327)), (1, .int (zI (i : Int))), (2, .int (zI (tGe (S.tr i) (j + 1) : Int))), (3, .int (zI ((j + 1 : Nat) : Int)))]) [2, 3, 1, 0] (zcons rfl (zcons rfl (zcons (zqI q4_35) (zcons (zqI q4_34) rfl)))) ?_
      exact ih (j + 1) (by omega) (by omega)
    · skip
      refine zv_iconst (v := zI 1) C dX11_gears_25 rfl ?_
      refine zv_goto (tgt := 30) C dX11_gears_26 (by decide) ?_
      refine zv_iaddZ C dX11_gears_30 ?_
      refine zv_istore_n (lv' := [(2, .int (zI ((tGe (S.tr i) j : Int) + 1))), (0, .ref (ob E 327)), (1, .int (zI (i : Int))), (3, .int (zI (j : Int)))]) C dX11_gears_31 rfl (by decide) rfl ?_
      refine zv_iinc (v := (zI ((j : Int) + 1))) (lv' := [(3, .int (zI ((j : Int) + 1))), (2, .int (zI ((tGe (S.tr i) j : Int) + 1))), (0, .ref (ob E 327)), (1, .int (zI (i : Int)))]) C 3 dX11_gears_32 rfl (zI_add _ _) (by decide) rfl ?_
      refine zv_goto (tgt := 4) C dX11_gears_35 (by decide) ?_
      have q4_45 : ((j : Int) + 1 : Int) = ((j + 1 : Nat) : Int) := by first | rfl | omega
      have q4_46 : ((tGe (S.tr i) j : Int) + 1 : Int) = (tGe (S.tr i) (j + 1) : Int) := by simp only [tGe]; split <;> omega
      refine zv_sub (lv' := [(0, .ref (ob E 327)), (1, .int (zI (i : Int))), (2, .int (zI (tGe (S.tr i) (j + 1) : Int))), (3, .int (zI ((j + 1 : Nat) : Int)))]) [2, 3, 1, 0] (zcons rfl (zcons rfl (zcons (zqI q4_46) (zcons (zqI q4_45) rfl)))) ?_
      exact ih (j + 1) (by omega) (by omega)
/-- .. their teeth: tTe -/
theorem tTe_0 (c : Nat → Nat → Nat) : tTe c 0 = 0 := rfl
set_option maxRecDepth 20000 in
theorem c_X11_teethOf {l : Launch} (hfl : l.stackTraces = false) (E : zE) (σ : zS) (nb : Nat) (S : zST) (i : Nat) (hW : zRo (gI σ 332) nb S) (hi : i < 8) (ht : S.tn i ≤ 4) (hc : ∀ j w, j < S.tn i → w < 3 → S.tr i j w ≤ 100) : zRi l E yX11_teethOf cX11_teethOf 4 .int (zrm 2 44) [.ref (ob E 327), .int (zI (i : Int))] σ (fun r τ => r = zI (tTe (S.tr i) (S.tn i) : Int) ∧ τ = σ) := by
  refine Met.ofW (cc := cX11_teethOf) (maxL := 4) (ret := (some .int)) (by decide +kernel) rfl ?_
  intro p e s m args below meth c s₁ B hml hv
  obtain ⟨rfl, hd⟩ := hv
  have C := zX_of (own := RX11) hfl B hml rfl hd rfl
  have hr := B.returns
  refine zV_go hd (Nat.le_of_ble_eq_true rfl) (lv := [(0, .ref (ob E 327)), (1, .int (zI (i : Int)))]) rfl ?_
  refine zv_iconst (v := zI 0) C dX11_teethOf_0 rfl ?_
  refine zv_istore_n (lv' := [(2, .int (zI 0)), (0, .ref (ob E 327)), (1, .int (zI (i : Int)))]) C dX11_teethOf_1 rfl (by decide) rfl ?_
  refine zv_iconst (v := zI 0) C dX11_teethOf_2 rfl ?_
  refine zv_istore_n (lv' := [(3, .int (zI 0)), (2, .int (zI 0)), (0, .ref (ob E 327)), (1, .int (zI (i : Int)))]) C dX11_teethOf_3 rfl (by decide) rfl ?_
  have q4_4 : (0 : Int) = (0 : Int) := by first | rfl | omega
  have q4_5 : (0 : Int) = (tTe (S.tr i) 0 : Int) := by first | rfl | omega
  refine zv_sub (lv' := [(0, .ref (ob E 327)), (1, .int (zI (i : Int))), (2, .int (zI (tTe (S.tr i) 0 : Int))), (3, .int (zI (0 : Int)))]) [2, 3, 1, 0] (zcons rfl (zcons rfl (zcons (zqI q4_5) (zcons (zqI q4_4) rfl)))) ?_
  refine zv_while (α := Nat) (fun v => S.tn i - v) (fun v => v ≤ S.tn i) (fun v => σ) (fun v => [(0, .ref (ob E 327)), (1, .int (zI (i : Int))), (2, .int (zI (tTe (S.tr i) v : Int))), (3, .int (zI (v : Int)))]) (fun v => []) (fun j hI ih => ?_) (0) (by omega)
  refine zv_iload_n C 3 dX11_teethOf_4 rfl rfl ?_
  refine zv_aload_n C 0 dX11_teethOf_5 rfl rfl ?_
  refine zv_iload_n C 1 dX11_teethOf_6 rfl rfl ?_
  refine zv_cviD (st := [.int (zI (j : Int))]) C (c_X11_parts hfl E σ nb S i hW hi) mX11_parts kX11_188 (by decide : kd 327 = 10) rfl rfl rfl ⟨rfl, rfl⟩ (show zfit (zrm 1 21) 2 (zrm 2 44) = true from rfl) (Nat.le_of_ble_eq_true rfl) dX11_teethOf_7 ⟨Nat.zero_le _, Nat.zero_le _⟩ ?_
  refine zv_icmp_geZ (tgt := 37) C (by omega) (by omega) dX11_teethOf_10 (by decide) (fun h10 => ?_) (fun h10 => ?_)
  · skip
    refine zv_iload_n C 2 dX11_teethOf_37 rfl rfl ?_
    exact zv_iret C hr rfl dX11_teethOf_38 ⟨by rw [show j = S.tn i by omega], rfl⟩
  · skip
    have hc0 := hc j 0 (by omega) (by omega)
    have hc1 := hc j 1 (by omega) (by omega)
    have hc2 := hc j 2 (by omega) (by omega)
    refine zv_iload_n C 2 dX11_teethOf_13 rfl rfl ?_
    refine zv_aload_n C 0 dX11_teethOf_14 rfl rfl ?_
    refine zv_iload_n C 1 dX11_teethOf_15 rfl rfl ?_
    refine zv_iload_n C 3 dX11_teethOf_16 rfl rfl ?_
    refine zv_iconst (v := zI 1) C dX11_teethOf_17 rfl ?_
    refine zv_cviD (st := [.int (zI (tTe (S.tr i) j : Int))]) C (c_X11_partOf hfl E σ nb S i j 1 hW hi (by omega) ht (by omega)) mX11_partOf kX11_191 (by decide : kd 327 = 10) rfl rfl rfl ⟨rfl, rfl⟩ (show zfit (zrm 1 21) 4 (zrm 2 44) = true from rfl) (Nat.le_of_ble_eq_true rfl) dX11_teethOf_18 ⟨Nat.zero_le _, Nat.zero_le _⟩ ?_
    refine zv_aload_n C 0 dX11_teethOf_21 rfl rfl ?_
    refine zv_iload_n C 1 dX11_teethOf_22 rfl rfl ?_
    refine zv_iload_n C 3 dX11_teethOf_23 rfl rfl ?_
    refine zv_iconst (v := zI 2) C dX11_teethOf_24 rfl ?_
    refine zv_cviD (st := [.int (zI (S.tr i j 1 : Int)), .int (zI (tTe (S.tr i) j : Int))]) C (c_X11_partOf hfl E σ nb S i j 2 hW hi (by omega) ht (by omega)) mX11_partOf kX11_191 (by decide : kd 327 = 10) rfl rfl rfl ⟨rfl, rfl⟩ (show zfit (zrm 1 21) 4 (zrm 2 44) = true from rfl) (Nat.le_of_ble_eq_true rfl) dX11_teethOf_25 ⟨Nat.zero_le _, Nat.zero_le _⟩ ?_
    refine zv_iaddZ C dX11_teethOf_28 ?_
    refine zv_iaddZ C dX11_teethOf_29 ?_
    refine zv_istore_n (lv' := [(2, .int (zI ((tTe (S.tr i) j : Int) + ((S.tr i j 1 : Int) + (S.tr i j 2 : Int))))), (0, .ref (ob E 327)), (1, .int (zI (i : Int))), (3, .int (zI (j : Int)))]) C dX11_teethOf_30 rfl (by decide) rfl ?_
    refine zv_iinc (v := (zI ((j : Int) + 1))) (lv' := [(3, .int (zI ((j : Int) + 1))), (2, .int (zI ((tTe (S.tr i) j : Int) + ((S.tr i j 1 : Int) + (S.tr i j 2 : Int))))), (0, .ref (ob E 327)), (1, .int (zI (i : Int)))]) C 3 dX11_teethOf_31 rfl (zI_add _ _) (by decide) rfl ?_
    refine zv_goto (tgt := 4) C dX11_teethOf_34 (by decide) ?_
    have q4_36 : ((j : Int) + 1 : Int) = ((j + 1 : Nat) : Int) := by first | rfl | omega
    have q4_37 : ((tTe (S.tr i) j : Int) + ((S.tr i j 1 : Int) + (S.tr i j 2 : Int)) : Int) = (tTe (S.tr i) (j + 1) : Int) := by simp only [tTe]; omega
    refine zv_sub (lv' := [(0, .ref (ob E 327)), (1, .int (zI (i : Int))), (2, .int (zI (tTe (S.tr i) (j + 1) : Int))), (3, .int (zI ((j + 1 : Nat) : Int)))]) [2, 3, 1, 0] (zcons rfl (zcons rfl (zcons (zqI q4_37) (zcons (zqI q4_36) rfl)))) ?_
    exact ih (j + 1) (by omega) (by omega)
def mMe (c : Nat → Nat → Nat) : Nat → Nat
  | 0 => 0
  | j + 1 => mMe c j + (if c j 0 = 2 then 2 else 1)
theorem mMe_e (c : Nat → Nat → Nat) (n : Nat) : (mMe c n : Int) = 2 * (n : Int) - (tGe c n : Int) := by
  induction n with
  | zero => rfl
  | succ n ih => simp only [mMe, tGe]; split <;> omega
set_option maxRecDepth 20000 in
theorem c_X11_meshes {l : Launch} (hfl : l.stackTraces = false) (E : zE) (σ : zS) (nb : Nat) (S : zST) (i : Nat) (hW : zRo (gI σ 332) nb S) (hi : i < 8) (ht : S.tn i ≤ 4) (hc : ∀ j w, j < S.tn i → w < 3 → S.tr i j w ≤ 100) : zRi l E yX11_meshes cX11_meshes 4 .int (zrm 2 44) [.ref (ob E 327), .int (zI (i : Int))] σ (fun r τ => r = zI (mMe (S.tr i) (S.tn i) : Int) ∧ τ = σ) := by
  refine Met.ofW (cc := cX11_meshes) (maxL := 4) (ret := (some .int)) (by decide +kernel) rfl ?_
  intro p e s m args below meth c s₁ B hml hv
  obtain ⟨rfl, hd⟩ := hv
  have C := zX_of (own := RX11) hfl B hml rfl hd rfl
  have hr := B.returns
  refine zV_go hd (Nat.le_of_ble_eq_true rfl) (lv := [(0, .ref (ob E 327)), (1, .int (zI (i : Int)))]) rfl ?_
  refine zv_iconst (v := zI 0) C dX11_meshes_0 rfl ?_
  refine zv_istore_n (lv' := [(2, .int (zI 0)), (0, .ref (ob E 327)), (1, .int (zI (i : Int)))]) C dX11_meshes_1 rfl (by decide) rfl ?_
  refine zv_iconst (v := zI 0) C dX11_meshes_2 rfl ?_
  refine zv_istore_n (lv' := [(3, .int (zI 0)), (2, .int (zI 0)), (0, .ref (ob E 327)), (1, .int (zI (i : Int)))]) C dX11_meshes_3 rfl (by decide) rfl ?_
  have q4_4 : (0 : Int) = (0 : Int) := by first | rfl | omega
  have q4_5 : (0 : Int) = (mMe (S.tr i) 0 : Int) := by first | rfl | omega
  refine zv_sub (lv' := [(0, .ref (ob E 327)), (1, .int (zI (i : Int))), (2, .int (zI (mMe (S.tr i) 0 : Int))), (3, .int (zI (0 : Int)))]) [2, 3, 1, 0] (zcons rfl (zcons rfl (zcons (zqI q4_5) (zcons (zqI q4_4) rfl)))) ?_
  refine zv_while (α := Nat) (fun v => S.tn i - v) (fun v => v ≤ S.tn i) (fun v => σ) (fun v => [(0, .ref (ob E 327)), (1, .int (zI (i : Int))), (2, .int (zI (mMe (S.tr i) v : Int))), (3, .int (zI (v : Int)))]) (fun v => []) (fun j hI ih => ?_) (0) (by omega)
  refine zv_iload_n C 3 dX11_meshes_4 rfl rfl ?_
  refine zv_aload_n C 0 dX11_meshes_5 rfl rfl ?_
  refine zv_iload_n C 1 dX11_meshes_6 rfl rfl ?_
  refine zv_cviD (st := [.int (zI (j : Int))]) C (c_X11_parts hfl E σ nb S i hW hi) mX11_parts kX11_188 (by decide : kd 327 = 10) rfl rfl rfl ⟨rfl, rfl⟩ (show zfit (zrm 1 21) 2 (zrm 2 44) = true from rfl) (Nat.le_of_ble_eq_true rfl) dX11_meshes_7 ⟨Nat.zero_le _, Nat.zero_le _⟩ ?_
  refine zv_icmp_geZ (tgt := 38) C (by omega) (by omega) dX11_meshes_10 (by decide) (fun h10 => ?_) (fun h10 => ?_)
  · skip
    refine zv_iload_n C 2 dX11_meshes_38 rfl rfl ?_
    exact zv_iret C hr rfl dX11_meshes_39 ⟨by rw [show j = S.tn i by omega], rfl⟩
  · skip
    have hc0 := hc j 0 (by omega) (by omega)
    have hc1 := hc j 1 (by omega) (by omega)
    have hc2 := hc j 2 (by omega) (by omega)
    refine zv_iload_n C 2 dX11_meshes_13 rfl rfl ?_
    refine zv_aload_n C 0 dX11_meshes_14 rfl rfl ?_
    refine zv_iload_n C 1 dX11_meshes_15 rfl rfl ?_
    refine zv_iload_n C 3 dX11_meshes_16 rfl rfl ?_
    refine zv_iconst (v := zI 0) C dX11_meshes_17 rfl ?_
    refine zv_cviD (st := [.int (zI (mMe (S.tr i) j : Int))]) C (c_X11_partOf hfl E σ nb S i j 0 hW hi (by omega) ht (by omega)) mX11_partOf kX11_191 (by decide : kd 327 = 10) rfl rfl rfl ⟨rfl, rfl⟩ (show zfit (zrm 1 21) 4 (zrm 2 44) = true from rfl) (Nat.le_of_ble_eq_true rfl) dX11_meshes_18 ⟨Nat.zero_le _, Nat.zero_le _⟩ ?_
    refine zv_iconst (v := zI 2) C dX11_meshes_21 rfl ?_
    refine zv_icmp_neZ (tgt := 29) C (by omega) (by omega) dX11_meshes_22 (by decide) (fun h22 => ?_) (fun h22 => ?_)
    · skip
      refine zv_iconst (v := zI 1) C dX11_meshes_29 rfl ?_
      refine zv_iaddZ C dX11_meshes_30 ?_
      refine zv_istore_n (lv' := [(2, .int (zI ((mMe (S.tr i) j : Int) + 1))), (0, .ref (ob E 327)), (1, .int (zI (i : Int))), (3, .int (zI (j : Int)))]) C dX11_meshes_31 rfl (by decide) rfl ?_
      refine zv_iinc (v := (zI ((j : Int) + 1))) (lv' := [(3, .int (zI ((j : Int) + 1))), (2, .int (zI ((mMe (S.tr i) j : Int) + 1))), (0, .ref (ob E 327)), (1, .int (zI (i : Int)))]) C 3 dX11_meshes_32 rfl (zI_add _ _) (by decide) rfl ?_
      refine zv_goto (tgt := 4) C dX11_meshes_35 (by decide) ?_
      have q4_34 : ((j : Int) + 1 : Int) = ((j + 1 : Nat) : Int) := by first | rfl | omega
      have q4_35 : ((mMe (S.tr i) j : Int) + 1 : Int) = (mMe (S.tr i) (j + 1) : Int) := by simp only [mMe]; split <;> omega
      refine zv_sub (lv' := [(0, .ref (ob E 327)), (1, .int (zI (i : Int))), (2, .int (zI (mMe (S.tr i) (j + 1) : Int))), (3, .int (zI ((j + 1 : Nat) : Int)))]) [2, 3, 1, 0] (zcons rfl (zcons rfl (zcons (zqI q4_35) (zcons (zqI q4_34) rfl)))) ?_
      exact ih (j + 1) (by omega) (by omega)
    · skip
      refine zv_iconst (v := zI 2) C dX11_meshes_25 rfl ?_
      refine zv_goto (tgt := 30) C dX11_meshes_26 (by decide) ?_
      refine zv_iaddZ C dX11_meshes_30 ?_
      refine zv_istore_n (lv' := [(2, .int (zI ((mMe (S.tr i) j : Int) + 2))), (0, .ref (ob E 327)), (1, .int (zI (i : Int))), (3, .int (zI (j : Int)))]) C dX11_meshes_31 rfl (by decide) rfl ?_
      refine zv_iinc (v := (zI ((j : Int) + 1))) (lv' := [(3, .int (zI ((j : Int) + 1))), (2, .int (zI ((mMe (S.tr i) j : Int) + 2))), (0, .ref (ob E 327)), (1, .int (zI (i : Int)))]) C 3 dX11_meshes_32 rfl (zI_add _ _) (by decide) rfl ?_
      refine zv_goto (tgt := 4) C dX11_meshes_35 (by decide) ?_
      have q4_45 : ((j : Int) + 1 : Int) = ((j + 1 : Nat) : Int) := by first | rfl | omega
      have q4_46 : ((mMe (S.tr i) j : Int) + 2 : Int) = (mMe (S.tr i) (j + 1) : Int) := by simp only [mMe]; split <;> omega
      refine zv_sub (lv' := [(0, .ref (ob E 327)), (1, .int (zI (i : Int))), (2, .int (zI (mMe (S.tr i) (j + 1) : Int))), (3, .int (zI ((j + 1 : Nat) : Int)))]) [2, 3, 1, 0] (zcons rfl (zcons rfl (zcons (zqI q4_46) (zcons (zqI q4_45) rfl)))) ?_
      exact ih (j + 1) (by omega) (by omega)
/-- the parts that turn the other way round -/
def mTn (c : Nat → Nat → Nat) : Nat → Nat
  | 0 => 0
  | j + 1 => mTn c j + (if c j 0 = 1 then 0 else 1)
theorem mTn_le (c : Nat → Nat → Nat) (n : Nat) : mTn c n ≤ n := by
  induction n with
  | zero => exact Nat.le_refl _
  | succ n ih => simp only [mTn]; split <;> omega
def mSg (c : Nat → Nat → Nat) (n : Nat) : Int := if mTn c n % 2 = 0 then 1 else -1
set_option maxRecDepth 20000 in
theorem c_X11_signOf {l : Launch} (hfl : l.stackTraces = false) (E : zE) (σ : zS) (nb : Nat) (S : zST) (i : Nat) (hW : zRo (gI σ 332) nb S) (hi : i < 8) (ht : S.tn i ≤ 4) (hc : ∀ j w, j < S.tn i → w < 3 → S.tr i j w ≤ 100) : zRi l E yX11_signOf cX11_signOf 4 .int (zrm 2 44) [.ref (ob E 327), .int (zI (i : Int))] σ (fun r τ => r = zI (mSg (S.tr i) (S.tn i)) ∧ τ = σ) := by
  refine Met.ofW (cc := cX11_signOf) (maxL := 4) (ret := (some .int)) (by decide +kernel) rfl ?_
  intro p e s m args below meth c s₁ B hml hv
  obtain ⟨rfl, hd⟩ := hv
  have C := zX_of (own := RX11) hfl B hml rfl hd rfl
  have hr := B.returns
  refine zV_go hd (Nat.le_of_ble_eq_true rfl) (lv := [(0, .ref (ob E 327)), (1, .int (zI (i : Int)))]) rfl ?_
  refine zv_iconst (v := zI 0) C dX11_signOf_0 rfl ?_
  refine zv_istore_n (lv' := [(2, .int (zI 0)), (0, .ref (ob E 327)), (1, .int (zI (i : Int)))]) C dX11_signOf_1 rfl (by decide) rfl ?_
  refine zv_iconst (v := zI 0) C dX11_signOf_2 rfl ?_
  refine zv_istore_n (lv' := [(3, .int (zI 0)), (2, .int (zI 0)), (0, .ref (ob E 327)), (1, .int (zI (i : Int)))]) C dX11_signOf_3 rfl (by decide) rfl ?_
  have q4_4 : (0 : Int) = (0 : Int) := by first | rfl | omega
  have q4_5 : (0 : Int) = (mTn (S.tr i) 0 : Int) := by first | rfl | omega
  refine zv_sub (lv' := [(0, .ref (ob E 327)), (1, .int (zI (i : Int))), (2, .int (zI (mTn (S.tr i) 0 : Int))), (3, .int (zI (0 : Int)))]) [2, 3, 1, 0] (zcons rfl (zcons rfl (zcons (zqI q4_5) (zcons (zqI q4_4) rfl)))) ?_
  refine zv_while (α := Nat) (fun v => S.tn i - v) (fun v => v ≤ S.tn i) (fun v => σ) (fun v => [(0, .ref (ob E 327)), (1, .int (zI (i : Int))), (2, .int (zI (mTn (S.tr i) v : Int))), (3, .int (zI (v : Int)))]) (fun v => []) (fun j hI ih => ?_) (0) (by omega)
  have hle := mTn_le (S.tr i) j
  refine zv_iload_n C 3 dX11_signOf_4 rfl rfl ?_
  refine zv_aload_n C 0 dX11_signOf_5 rfl rfl ?_
  refine zv_iload_n C 1 dX11_signOf_6 rfl rfl ?_
  refine zv_cviD (st := [.int (zI (j : Int))]) C (c_X11_parts hfl E σ nb S i hW hi) mX11_parts kX11_188 (by decide : kd 327 = 10) rfl rfl rfl ⟨rfl, rfl⟩ (show zfit (zrm 1 21) 2 (zrm 2 44) = true from rfl) (Nat.le_of_ble_eq_true rfl) dX11_signOf_7 ⟨Nat.zero_le _, Nat.zero_le _⟩ ?_
  refine zv_icmp_geZ (tgt := 38) C (by omega) (by omega) dX11_signOf_10 (by decide) (fun h10 => ?_) (fun h10 => ?_)
  · skip
    refine zv_iload_n C 2 dX11_signOf_38 rfl rfl ?_
    refine zv_iconst (v := zI 2) C dX11_signOf_39 rfl ?_
    refine zv_iremP C (by omega) (by omega) dX11_signOf_40 ?_
    refine zv_if_neZ (tgt := 48) C (by omega) dX11_signOf_41 (by decide) (fun h41 => ?_) (fun h41 => ?_)
    · skip
      refine zv_iconst (v := zI (-1)) C dX11_signOf_48 rfl ?_
      exact zv_iret C hr rfl dX11_signOf_49 ⟨by rw [mSg, if_neg (by rw [← show j = S.tn i by omega]; omega)], rfl⟩
    · skip
      refine zv_iconst (v := zI 1) C dX11_signOf_44 rfl ?_
      refine zv_goto (tgt := 49) C dX11_signOf_45 (by decide) ?_
      exact zv_iret C hr rfl dX11_signOf_49 ⟨by rw [mSg, if_pos (by rw [← show j = S.tn i by omega]; omega)], rfl⟩
  · skip
    have hc0 := hc j 0 (by omega) (by omega)
    have hc1 := hc j 1 (by omega) (by omega)
    have hc2 := hc j 2 (by omega) (by omega)
    refine zv_iload_n C 2 dX11_signOf_13 rfl rfl ?_
    refine zv_aload_n C 0 dX11_signOf_14 rfl rfl ?_
    refine zv_iload_n C 1 dX11_signOf_15 rfl rfl ?_
    refine zv_iload_n C 3 dX11_signOf_16 rfl rfl ?_
    refine zv_iconst (v := zI 0) C dX11_signOf_17 rfl ?_
    refine zv_cviD (st := [.int (zI (mTn (S.tr i) j : Int))]) C (c_X11_partOf hfl E σ nb S i j 0 hW hi (by omega) ht (by omega)) mX11_partOf kX11_191 (by decide : kd 327 = 10) rfl rfl rfl ⟨rfl, rfl⟩ (show zfit (zrm 1 21) 4 (zrm 2 44) = true from rfl) (Nat.le_of_ble_eq_true rfl) dX11_signOf_18 ⟨Nat.zero_le _, Nat.zero_le _⟩ ?_
    refine zv_iconst (v := zI 1) C dX11_signOf_21 rfl ?_
    refine zv_icmp_eqZ (tgt := 29) C (by omega) (by omega) dX11_signOf_22 (by decide) (fun h22 => ?_) (fun h22 => ?_)
    · skip
      refine zv_iconst (v := zI 0) C dX11_signOf_29 rfl ?_
      refine zv_iaddZ C dX11_signOf_30 ?_
      refine zv_istore_n (lv' := [(2, .int (zI ((mTn (S.tr i) j : Int) + 0))), (0, .ref (ob E 327)), (1, .int (zI (i : Int))), (3, .int (zI (j : Int)))]) C dX11_signOf_31 rfl (by decide) rfl ?_
      refine zv_iinc (v := (zI ((j : Int) + 1))) (lv' := [(3, .int (zI ((j : Int) + 1))), (2, .int (zI ((mTn (S.tr i) j : Int) + 0))), (0, .ref (ob E 327)), (1, .int (zI (i : Int)))]) C 3 dX11_signOf_32 rfl (zI_add _ _) (by decide) rfl ?_
      refine zv_goto (tgt := 4) C dX11_signOf_35 (by decide) ?_
      have q4_44 : ((j : Int) + 1 : Int) = ((j + 1 : Nat) : Int) := by first | rfl | omega
      have q4_45 : ((mTn (S.tr i) j : Int) + 0 : Int) = (mTn (S.tr i) (j + 1) : Int) := by simp only [mTn]; split <;> omega
      refine zv_sub (lv' := [(0, .ref (ob E 327)), (1, .int (zI (i : Int))), (2, .int (zI (mTn (S.tr i) (j + 1) : Int))), (3, .int (zI ((j + 1 : Nat) : Int)))]) [2, 3, 1, 0] (zcons rfl (zcons rfl (zcons (zqI q4_45) (zcons (zqI q4_44) rfl)))) ?_
      exact ih (j + 1) (by omega) (by omega)
    · skip
      refine zv_iconst (v := zI 1) C dX11_signOf_25 rfl ?_
      refine zv_goto (tgt := 30) C dX11_signOf_26 (by decide) ?_
      refine zv_iaddZ C dX11_signOf_30 ?_
      refine zv_istore_n (lv' := [(2, .int (zI ((mTn (S.tr i) j : Int) + 1))), (0, .ref (ob E 327)), (1, .int (zI (i : Int))), (3, .int (zI (j : Int)))]) C dX11_signOf_31 rfl (by decide) rfl ?_
      refine zv_iinc (v := (zI ((j : Int) + 1))) (lv' := [(3, .int (zI ((j : Int) + 1))), (2, .int (zI ((mTn (S.tr i) j : Int) + 1))), (0, .ref (ob E 327)), (1, .int (zI (i : Int)))]) C 3 dX11_signOf_32 rfl (zI_add _ _) (by decide) rfl ?_
      refine zv_goto (tgt := 4) C dX11_signOf_35 (by decide) ?_
      have q4_55 : ((j : Int) + 1 : Int) = ((j + 1 : Nat) : Int) := by first | rfl | omega
      have q4_56 : ((mTn (S.tr i) j : Int) + 1 : Int) = (mTn (S.tr i) (j + 1) : Int) := by simp only [mTn]; split <;> omega
      refine zv_sub (lv' := [(0, .ref (ob E 327)), (1, .int (zI (i : Int))), (2, .int (zI (mTn (S.tr i) (j + 1) : Int))), (3, .int (zI ((j + 1 : Nat) : Int)))]) [2, 3, 1, 0] (zcons rfl (zcons rfl (zcons (zqI q4_56) (zcons (zqI q4_55) rfl)))) ?_
      exact ih (j + 1) (by omega) (by omega)
