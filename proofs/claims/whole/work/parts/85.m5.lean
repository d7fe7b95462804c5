/-! what questions of the reference leave alone -/
def mS (σ τ : zS) : Prop := (∀ x j, (x = 327 → j ≠ 10 ∧ j ≠ 24) → x ≠ 337 → gI τ x j = gI σ x j) ∧ (∀ x j, x ≠ 327 → gJ τ x j = gJ σ x j) ∧ ∀ x j, gD τ x j = gD σ x j
def mK (σ τ : zS) (k : Nat) : Prop := mS σ τ ∧ gI τ 327 10 = zI (k : Int)
theorem mS_r (σ : zS) : mS σ σ := ⟨fun _ _ _ _ => rfl, fun _ _ _ => rfl, fun _ _ => rfl⟩
theorem mS_t {σ τ υ : zS} (h : mS σ τ) (g : mS τ υ) : mS σ υ := ⟨fun x j a b => (g.1 x j a b).trans (h.1 x j a b), fun x j a => (g.2.1 x j a).trans (h.2.1 x j a), fun x j => (g.2.2 x j).trans (h.2.2 x j)⟩
theorem mS_g {σ τ : zS} (h : mS σ τ) (x : Nat) (hx : x ≠ 327) (hy : x ≠ 337) : gI τ x = gI σ x := funext fun j => h.1 x j (fun z => absurd z hx) hy
theorem mK_th (σ : zS) (k : Nat) : mK σ (thW σ k) k := ⟨⟨fun x j a _ => by unfold thW; rw [gI_sI, if_neg (by omega)], fun _ _ _ => rfl, fun _ _ => rfl⟩, by unfold thW; rw [gI_sI, if_pos ⟨rfl, rfl⟩]⟩
theorem mK_th2 (σ : zS) (k k' : Nat) : mK σ (thW (thW σ k') k) k := by rw [thW_o]; exact mK_th _ _
theorem mK_W {σ τ : zS} {k : Nat} (h : mK σ τ k) (u d : Int) : mK σ (mW τ u d) k := ⟨mS_t h.1 ⟨fun _ _ _ _ => rfl, fun x j a => by unfold mW; rw [gJ_sJ, if_neg (by omega), gJ_sJ, if_neg (by omega)], fun _ _ => rfl⟩, h.2⟩
theorem mK_C {σ τ : zS} {k : Nat} (h : mK σ τ k) (b : Bool) : mK σ (mC τ b) k := ⟨mS_t h.1 ⟨fun x j a _ => by unfold mC; rw [gI_sI, if_neg (by omega)], fun _ _ _ => rfl, fun _ _ => rfl⟩, by rw [show gI (mC τ b) 327 10 = gI τ 327 10 by unfold mC; rw [gI_sI, if_neg (by omega)]]; exact h.2⟩
theorem mK_J {σ τ : zS} {k : Nat} (h : mK σ τ k) (j : Nat) (v : Int64) : mK σ (sJ τ 327 j v) k := ⟨mS_t h.1 ⟨fun _ _ _ _ => rfl, fun x j a => by rw [gJ_sJ, if_neg (by omega)], fun _ _ => rfl⟩, h.2⟩
theorem mK_7 {σ τ : zS} {k : Nat} (h : mK σ τ k) (j : Nat) (v : Int32) : mK σ (sI τ 337 j v) k := ⟨mS_t h.1 ⟨fun x j a b => by rw [gI_sI, if_neg (by omega)], fun _ _ _ => rfl, fun _ _ => rfl⟩, by rw [gI_sI, if_neg (by omega)]; exact h.2⟩
theorem zB_c {P Q : Prop} [Decidable P] [Decidable Q] (h : P ↔ Q) : zB P = zB Q := by
  by_cases p : P
  · rw [zB_t p, zB_t (h.mp p)]
  · rw [zB_f p, zB_f (fun q => p (h.mpr q))]
/-! the years -/
set_option maxRecDepth 20000 in
theorem c_X11_isLeap {l : Launch} (hfl : l.stackTraces = false) (E : zE) (σ : zS) (y : Int) (hy : 1 ≤ y ∧ y ≤ 1000000) : zRi l E yX11_isLeap cX11_isLeap 1 .boolean (zrm 0 0) [.int (zI y)] σ (fun r τ => r = zB (y % 4 = 0 ∧ (y % 100 ≠ 0 ∨ y % 400 = 0)) ∧ τ = σ) := by
  refine Met.ofW (cc := cX11_isLeap) (maxL := 1) (ret := (some .boolean)) (by decide +kernel) rfl ?_
  intro p e s m args below meth c s₁ B hml hv
  obtain ⟨rfl, hd⟩ := hv
  have C := zX_of (own := RX11) hfl B hml rfl hd rfl
  have hr := B.returns
  refine zV_go hd (Nat.le_of_ble_eq_true rfl) (lv := [(0, .int (zI y))]) rfl ?_
  refine zv_iload_n C 0 dX11_isLeap_0 rfl rfl ?_
  refine zv_iconst (v := zI 4) C dX11_isLeap_1 rfl ?_
  refine zv_iremP C (by omega) (by omega) dX11_isLeap_2 ?_
  refine zv_if_neZ (tgt := 25) C (by omega) dX11_isLeap_3 (by decide) (fun h3 => ?_) (fun h3 => ?_)
  · skip
    refine zv_iconst (v := zI 0) C dX11_isLeap_25 rfl ?_
    exact zv_iret C hr rfl dX11_isLeap_26 ⟨(zB_f (by omega)).symm, rfl⟩
  · skip
    refine zv_iload_n C 0 dX11_isLeap_6 rfl rfl ?_
    refine zv_bipush (v := zI 100) C dX11_isLeap_7 (by decide) ?_
    refine zv_iremP C (by omega) (by omega) dX11_isLeap_9 ?_
    refine zv_if_neZ (tgt := 21) C (by omega) dX11_isLeap_10 (by decide) (fun h10 => ?_) (fun h10 => ?_)
    · skip
      refine zv_iconst (v := zI 1) C dX11_isLeap_21 rfl ?_
      refine zv_goto (tgt := 26) C dX11_isLeap_22 (by decide) ?_
      exact zv_iret C hr rfl dX11_isLeap_26 ⟨(zB_t (by omega)).symm, rfl⟩
    · skip
      refine zv_iload_n C 0 dX11_isLeap_13 rfl rfl ?_
      refine zv_sipush (v := zI 400) C dX11_isLeap_14 (by decide) ?_
      refine zv_iremP C (by omega) (by omega) dX11_isLeap_17 ?_
      refine zv_if_neZ (tgt := 25) C (by omega) dX11_isLeap_18 (by decide) (fun h18 => ?_) (fun h18 => ?_)
      · skip
        refine zv_iconst (v := zI 0) C dX11_isLeap_25 rfl ?_
        exact zv_iret C hr rfl dX11_isLeap_26 ⟨(zB_f (by omega)).symm, rfl⟩
      · skip
        refine zv_iconst (v := zI 1) C dX11_isLeap_21 rfl ?_
        refine zv_goto (tgt := 26) C dX11_isLeap_22 (by decide) ?_
        exact zv_iret C hr rfl dX11_isLeap_26 ⟨(zB_t (by omega)).symm, rfl⟩
set_option maxRecDepth 20000 in
theorem c_X11_daysNow {l : Launch} (hfl : l.stackTraces = false) (E : zE) (σ : zS) (s y : Int) (hy : 1 ≤ y ∧ y ≤ 1000000) : zRi l E yX11_daysNow cX11_daysNow 1 .int (zrm 1 20) [.int (zI y)] σ (fun r τ => r = zI (yEnd s y - yEnd s (y - 1)) ∧ τ = σ) := by
  refine Met.ofW (cc := cX11_daysNow) (maxL := 1) (ret := (some .int)) (by decide +kernel) rfl ?_
  intro p e s m args below meth c s₁ B hml hv
  obtain ⟨rfl, hd⟩ := hv
  have C := zX_of (own := RX11) hfl B hml rfl hd rfl
  have hr := B.returns
  refine zV_go hd (Nat.le_of_ble_eq_true rfl) (lv := [(0, .int (zI y))]) rfl ?_
  refine zv_iload_n C 0 dX11_daysNow_0 rfl rfl ?_
  refine zv_csiD (st := []) C (c_X11_isLeap hfl E σ (y) (by omega)) mX11_isLeap kX11_293 rfl ⟨rfl, rfl⟩ (show zfit (zrm 0 0) 1 (zrm 1 20) = true from rfl) (Nat.le_of_ble_eq_true rfl) dX11_daysNow_1 ⟨Nat.zero_le _, Nat.zero_le _⟩ ?_
  refine zv_if_eqB (tgt := 13) C dX11_daysNow_4 (by decide) (fun h4 => ?_) (fun h4 => ?_)
  · skip
    refine zv_sipush (v := zI 365) C dX11_daysNow_13 (by decide) ?_
    exact zv_iret C hr rfl dX11_daysNow_16 ⟨congrArg zI (by unfold yEnd yLp; omega), rfl⟩
  · skip
    refine zv_sipush (v := zI 366) C dX11_daysNow_7 (by decide) ?_
    refine zv_goto (tgt := 16) C dX11_daysNow_10 (by decide) ?_
    exact zv_iret C hr rfl dX11_daysNow_16 ⟨congrArg zI (by unfold yEnd yLp; omega), rfl⟩
set_option maxRecDepth 20000 in
theorem c_X11_leapsBefore {l : Launch} (hfl : l.stackTraces = false) (E : zE) (σ : zS) (y : Int) (hy : 1 ≤ y ∧ y ≤ 1000000) : zRi l E yX11_leapsBefore cX11_leapsBefore 2 .int (zrm 0 0) [.int (zI y)] σ (fun r τ => r = zI (yLp (y - 1)) ∧ τ = σ) := by
  refine Met.ofW (cc := cX11_leapsBefore) (maxL := 2) (ret := (some .int)) (by decide +kernel) rfl ?_
  intro p e s m args below meth c s₁ B hml hv
  obtain ⟨rfl, hd⟩ := hv
  have C := zX_of (own := RX11) hfl B hml rfl hd rfl
  have hr := B.returns
  refine zV_go hd (Nat.le_of_ble_eq_true rfl) (lv := [(0, .int (zI y))]) rfl ?_
  refine zv_iload_n C 0 dX11_leapsBefore_0 rfl rfl ?_
  refine zv_iconst (v := zI 1) C dX11_leapsBefore_1 rfl ?_
  refine zv_isubZ C dX11_leapsBefore_2 ?_
  refine zv_istore_n (lv' := [(1, .int (zI (y - 1))), (0, .int (zI y))]) C dX11_leapsBefore_3 rfl (by decide) rfl ?_
  refine zv_iload_n C 0 dX11_leapsBefore_4 rfl rfl ?_
  refine zv_iconst (v := zI 4) C dX11_leapsBefore_5 rfl ?_
  refine zv_idivP C (by omega) (by omega) dX11_leapsBefore_6 ?_
  refine zv_iload_n C 0 dX11_leapsBefore_7 rfl rfl ?_
  refine zv_bipush (v := zI 100) C dX11_leapsBefore_8 (by decide) ?_
  refine zv_idivP C (by omega) (by omega) dX11_leapsBefore_10 ?_
  refine zv_isubZ C dX11_leapsBefore_11 ?_
  refine zv_iload_n C 0 dX11_leapsBefore_12 rfl rfl ?_
  refine zv_sipush (v := zI 400) C dX11_leapsBefore_13 (by decide) ?_
  refine zv_idivP C (by omega) (by omega) dX11_leapsBefore_16 ?_
  refine zv_iaddZ C dX11_leapsBefore_17 ?_
  exact zv_iret C hr rfl dX11_leapsBefore_18 ⟨rfl, rfl⟩
set_option maxRecDepth 20000 in
theorem c_X11_endNow {l : Launch} (hfl : l.stackTraces = false) (E : zE) (σ : zS) (σc : zS) (U : zSU) (y : Int) (hB : zRb (gI σ 328) U) (hU : zSUp σc 29 U) (hy : 1 ≤ y ∧ y ≤ 100000) : zRi l E yX11_endNow cX11_endNow 2 .int (zrm 1 21) [.ref (ob E 327), .int (zI y)] σ (fun r τ => r = zI (yEnd U.s0 y) ∧ τ = σ) := by
  refine Met.ofW (cc := cX11_endNow) (maxL := 2) (ret := (some .int)) (by decide +kernel) rfl ?_
  intro p e s m args below meth c s₁ B hml hv
  obtain ⟨rfl, hd⟩ := hv
  have C := zX_of (own := RX11) hfl B hml rfl hd rfl
  have hr := B.returns
  refine zV_go hd (Nat.le_of_ble_eq_true rfl) (lv := [(0, .ref (ob E 327)), (1, .int (zI y))]) rfl ?_
  have hnb : U.nb ≤ 8 := hU.2.2.1
  have hs0 := hU.2.2.2.1
  
  refine zv_sipush (v := zI 365) C dX11_endNow_0 (by decide) ?_
  refine zv_iload_n C 1 dX11_endNow_3 rfl rfl ?_
  refine zv_iconst (v := zI 1) C dX11_endNow_4 rfl ?_
  refine zv_iaddZ C dX11_endNow_5 ?_
  refine zv_aload_n C 0 dX11_endNow_6 rfl rfl ?_
  refine zG10_0 C (by decide : kd 327 = _) kX11_7 dX11_endNow_7 ?_
  refine zv_iconst (v := zI 1) C dX11_endNow_10 rfl ?_
  refine zv_iald (j := 1) C (by decide : kd 328 = _) (zI_ix (by omega)) (by decide) dX11_endNow_11 ?_
  refine zv_eqi (y := zI U.s0) (hB.2.1) ?_
  refine zv_isubZ C dX11_endNow_12 ?_
  refine zv_imulZ C dX11_endNow_13 ?_
  refine zv_iload_n C 1 dX11_endNow_14 rfl rfl ?_
  refine zv_iconst (v := zI 1) C dX11_endNow_15 rfl ?_
  refine zv_iaddZ C dX11_endNow_16 ?_
  refine zv_csiD (st := [.int (zI (365 * ((y + 1) - (U.s0))))]) C (c_X11_leapsBefore hfl E σ (y + 1) (by omega)) mX11_leapsBefore kX11_296 rfl ⟨rfl, rfl⟩ (show zfit (zrm 0 0) 2 (zrm 1 21) = true from rfl) (Nat.le_of_ble_eq_true rfl) dX11_endNow_17 ⟨Nat.zero_le _, Nat.zero_le _⟩ ?_
  refine zv_iaddZ C dX11_endNow_20 ?_
  refine zv_aload_n C 0 dX11_endNow_21 rfl rfl ?_
  refine zG10_0 C (by decide : kd 327 = _) kX11_7 dX11_endNow_22 ?_
  refine zv_iconst (v := zI 1) C dX11_endNow_25 rfl ?_
  refine zv_iald (j := 1) C (by decide : kd 328 = _) (zI_ix (by omega)) (by decide) dX11_endNow_26 ?_
  refine zv_eqi (y := zI U.s0) (hB.2.1) ?_
  refine zv_csiD (st := [.int (zI ((365 * ((y + 1) - (U.s0))) + (yLp ((y + 1) - 1))))]) C (c_X11_leapsBefore hfl E σ (U.s0) (by omega)) mX11_leapsBefore kX11_296 rfl ⟨rfl, rfl⟩ (show zfit (zrm 0 0) 2 (zrm 1 21) = true from rfl) (Nat.le_of_ble_eq_true rfl) dX11_endNow_27 ⟨Nat.zero_le _, Nat.zero_le _⟩ ?_
  refine zv_isubZ C dX11_endNow_30 ?_
  exact zv_iret C hr rfl dX11_endNow_31 ⟨congrArg zI (by unfold yEnd; rw [show y + 1 - 1 = y by omega]; omega), rfl⟩
set_option maxRecDepth 20000 in
theorem c_X11_isYear {l : Launch} (hfl : l.stackTraces = false) (E : zE) (σ : zS) (σc : zS) (U : zSU) (y : Int) (hB : zRb (gI σ 328) U) (hU : zSUp σc 29 U) (hy : -2147483648 ≤ y ∧ y < 2147483648) : zRi l E yX11_isYear cX11_isYear 2 .boolean (zrm 1 25) [.ref (ob E 327), .int (zI y)] σ (fun r τ => r = zB (U.s0 ≤ y ∧ y ≤ U.s0 + 999) ∧ τ = σ) := by
  refine Met.ofW (cc := cX11_isYear) (maxL := 2) (ret := (some .boolean)) (by decide +kernel) rfl ?_
  intro p e s m args below meth c s₁ B hml hv
  obtain ⟨rfl, hd⟩ := hv
  have C := zX_of (own := RX11) hfl B hml rfl hd rfl
  have hr := B.returns
  refine zV_go hd (Nat.le_of_ble_eq_true rfl) (lv := [(0, .ref (ob E 327)), (1, .int (zI y))]) rfl ?_
  have hnb : U.nb ≤ 8 := hU.2.2.1
  have hs0 := hU.2.2.2.1
  
  refine zv_iload_n C 1 dX11_isYear_0 rfl rfl ?_
  refine zv_i2lZ C (by omega) dX11_isYear_1 ?_
  refine zv_aload_n C 0 dX11_isYear_2 rfl rfl ?_
  refine zG10_0 C (by decide : kd 327 = _) kX11_7 dX11_isYear_3 ?_
  refine zv_iconst (v := zI 1) C dX11_isYear_6 rfl ?_
  refine zv_iald (j := 1) C (by decide : kd 328 = _) (zI_ix (by omega)) (by decide) dX11_isYear_7 ?_
  refine zv_eqi (y := zI U.s0) (hB.2.1) ?_
  refine zv_i2lZ C (by omega) dX11_isYear_8 ?_
  refine zv_aload_n C 0 dX11_isYear_9 rfl rfl ?_
  refine zG10_0 C (by decide : kd 327 = _) kX11_7 dX11_isYear_10 ?_
  refine zv_iconst (v := zI 1) C dX11_isYear_13 rfl ?_
  refine zv_iald (j := 1) C (by decide : kd 328 = _) (zI_ix (by omega)) (by decide) dX11_isYear_14 ?_
  refine zv_eqi (y := zI U.s0) (hB.2.1) ?_
  refine zv_sipush (v := zI 1000) C dX11_isYear_15 (by decide) ?_
  refine zv_iaddZ C dX11_isYear_18 ?_
  refine zv_iconst (v := zI 1) C dX11_isYear_19 rfl ?_
  refine zv_isubZ C dX11_isYear_20 ?_
  refine zv_i2lZ C (by omega) dX11_isYear_21 ?_
  refine zv_csiD (st := []) C (c_X11_inRange hfl E σ (y) (U.s0) (((U.s0) + 1000) - 1) (by omega) (by omega) (by omega)) mX11_inRange kX11_71 rfl ⟨rfl, rfl⟩ (show zfit (zrm 0 0) 6 (zrm 1 25) = true from rfl) (Nat.le_of_ble_eq_true rfl) dX11_isYear_22 ⟨Nat.zero_le _, Nat.zero_le _⟩ ?_
  exact zv_iret C hr zB_nar dX11_isYear_25 ⟨zB_c (by omega), rfl⟩
set_option maxRecDepth 20000 in
theorem c_X11_isDay {l : Launch} (hfl : l.stackTraces = false) (E : zE) (σ : zS) (y : Int) (hy : -2147483648 ≤ y ∧ y < 2147483648) : zRi l E yX11_isDay cX11_isDay 1 .boolean (zrm 1 25) [.int (zI y)] σ (fun r τ => r = zB (0 ≤ y ∧ y ≤ 400000) ∧ τ = σ) := by
  refine Met.ofW (cc := cX11_isDay) (maxL := 1) (ret := (some .boolean)) (by decide +kernel) rfl ?_
  intro p e s m args below meth c s₁ B hml hv
  obtain ⟨rfl, hd⟩ := hv
  have C := zX_of (own := RX11) hfl B hml rfl hd rfl
  have hr := B.returns
  refine zV_go hd (Nat.le_of_ble_eq_true rfl) (lv := [(0, .int (zI y))]) rfl ?_
  refine zv_iload_n C 0 dX11_isDay_0 rfl rfl ?_
  refine zv_i2lZ C (by omega) dX11_isDay_1 ?_
  refine zv_lconst (v := zL 0) C dX11_isDay_2 (by decide) ?_
  refine zv_ldc2 C kX11_336 dX11_isDay_3 ?_
  refine zv_eql (y := zL 400000) (by decide) ?_
  refine zv_csiD (st := []) C (c_X11_inRange hfl E σ (y) (0) (400000) (by omega) (by omega) (by omega)) mX11_inRange kX11_71 rfl ⟨rfl, rfl⟩ (show zfit (zrm 0 0) 6 (zrm 1 25) = true from rfl) (Nat.le_of_ble_eq_true rfl) dX11_isDay_6 ⟨Nat.zero_le _, Nat.zero_le _⟩ ?_
  exact zv_iret C hr zB_nar dX11_isDay_9 ⟨rfl, rfl⟩
set_option maxRecDepth 20000 in
theorem c0_X11_noBody {l : Launch} (hfl : l.stackTraces = false) (E : zE) (σ : zS) (σc : zS) (U : zSU) (y : Int) (hB : zRb (gI σ 328) U) (hU : zSUp σc 29 U) (hy : 0 ≤ y ∧ y < U.nb) : zRi l E yX11_noBody cX11_noBody 2 .boolean (zrm 1 25) [.ref (ob E 327), .int (zI y)] σ (fun r τ => r = zI 0 ∧ τ = thW σ 0) := by
  refine Met.ofW (cc := cX11_noBody) (maxL := 2) (ret := (some .boolean)) (by decide +kernel) rfl ?_
  intro p e s m args below meth c s₁ B hml hv
  obtain ⟨rfl, hd⟩ := hv
  have C := zX_of (own := RX11) hfl B hml rfl hd rfl
  have hr := B.returns
  refine zV_go hd (Nat.le_of_ble_eq_true rfl) (lv := [(0, .ref (ob E 327)), (1, .int (zI y))]) rfl ?_
  have hnb : U.nb ≤ 8 := hU.2.2.1
  have hs0 := hU.2.2.2.1
  
  refine zv_aload_n C 0 dX11_noBody_0 rfl rfl ?_
  refine zv_iconst (v := zI 0) C dX11_noBody_1 rfl ?_
  refine zP10_10 C (by decide : kd 327 = _) kX11_50 dX11_noBody_2 ?_
  refine zv_eqS (τ := (thW σ 0)) (rfl) ?_
  refine zv_aload_n C 0 dX11_noBody_5 rfl rfl ?_
  refine zv_iload_n C 1 dX11_noBody_6 rfl rfl ?_
  refine zv_i2lZ C (by omega) dX11_noBody_7 ?_
  refine zv_lconst (v := zL 0) C dX11_noBody_8 (by decide) ?_
  refine zv_aload_n C 0 dX11_noBody_9 rfl rfl ?_
  refine zG10_0 C (by decide : kd 327 = _) kX11_7 dX11_noBody_10 ?_
  refine zv_iconst (v := zI 0) C dX11_noBody_13 rfl ?_
  refine zv_iald (j := 0) C (by decide : kd 328 = _) (zI_ix (by omega)) (by decide) dX11_noBody_14 ?_
  refine zv_eqi (y := zI (U.nb : Int)) (hB.1) ?_
  refine zv_iconst (v := zI 1) C dX11_noBody_15 rfl ?_
  refine zv_isubZ C dX11_noBody_16 ?_
  refine zv_i2lZ C (by omega) dX11_noBody_17 ?_
  refine zv_csiD (st := [.ref (ob E 327)]) C (c_X11_inRange hfl E (thW σ 0) (y) (0) ((U.nb : Int) - 1) (by omega) (by omega) (by omega)) mX11_inRange kX11_71 rfl ⟨rfl, rfl⟩ (show zfit (zrm 0 0) 6 (zrm 1 25) = true from rfl) (Nat.le_of_ble_eq_true rfl) dX11_noBody_18 ⟨Nat.zero_le _, Nat.zero_le _⟩ ?_
  refine zv_if_neB (tgt := 28) C dX11_noBody_21 (by decide) (fun h21 => ?_) (fun h21 => ?_)
  · skip
    refine zv_iconst (v := zI 0) C dX11_noBody_28 rfl ?_
    refine zv_iconst (v := zI 1) C dX11_noBody_29 rfl ?_
    refine zv_cviD (st := []) C (c0_X11_fails hfl E (thW σ 0) 1) mX11_fails kX11_309 (by decide : kd 327 = 10) rfl rfl rfl ⟨rfl, rfl⟩ (show zfit (zrm 0 0) 3 (zrm 1 25) = true from rfl) (Nat.le_of_ble_eq_true rfl) dX11_noBody_30 ⟨Nat.zero_le _, Nat.zero_le _⟩ ?_
    exact zv_iret C hr rfl dX11_noBody_33 ⟨rfl, rfl⟩
  · skip
    refine zv_iconst (v := zI 1) C dX11_noBody_24 rfl ?_
    refine zv_goto (tgt := 29) C dX11_noBody_25 (by decide) ?_
    refine zv_iconst (v := zI 1) C dX11_noBody_29 rfl ?_
    exfalso
    omega
set_option maxRecDepth 20000 in
theorem c1_X11_noBody {l : Launch} (hfl : l.stackTraces = false) (E : zE) (σ : zS) (σc : zS) (U : zSU) (y : Int) (hB : zRb (gI σ 328) U) (hU : zSUp σc 29 U) (hy : -2147483648 ≤ y ∧ y < 2147483648) (hno : ¬ (0 ≤ y ∧ y < U.nb)) : zRi l E yX11_noBody cX11_noBody 2 .boolean (zrm 1 25) [.ref (ob E 327), .int (zI y)] σ (fun r τ => r = zI 1 ∧ τ = thW σ 1) := by
  refine Met.ofW (cc := cX11_noBody) (maxL := 2) (ret := (some .boolean)) (by decide +kernel) rfl ?_
  intro p e s m args below meth c s₁ B hml hv
  obtain ⟨rfl, hd⟩ := hv
  have C := zX_of (own := RX11) hfl B hml rfl hd rfl
  have hr := B.returns
  refine zV_go hd (Nat.le_of_ble_eq_true rfl) (lv := [(0, .ref (ob E 327)), (1, .int (zI y))]) rfl ?_
  have hnb : U.nb ≤ 8 := hU.2.2.1
  have hs0 := hU.2.2.2.1
  
  refine zv_aload_n C 0 dX11_noBody_0 rfl rfl ?_
  refine zv_iconst (v := zI 0) C dX11_noBody_1 rfl ?_
  refine zP10_10 C (by decide : kd 327 = _) kX11_50 dX11_noBody_2 ?_
  refine zv_eqS (τ := (thW σ 0)) (rfl) ?_
  refine zv_aload_n C 0 dX11_noBody_5 rfl rfl ?_
  refine zv_iload_n C 1 dX11_noBody_6 rfl rfl ?_
  refine zv_i2lZ C (by omega) dX11_noBody_7 ?_
  refine zv_lconst (v := zL 0) C dX11_noBody_8 (by decide) ?_
  refine zv_aload_n C 0 dX11_noBody_9 rfl rfl ?_
  refine zG10_0 C (by decide : kd 327 = _) kX11_7 dX11_noBody_10 ?_
  refine zv_iconst (v := zI 0) C dX11_noBody_13 rfl ?_
  refine zv_iald (j := 0) C (by decide : kd 328 = _) (zI_ix (by omega)) (by decide) dX11_noBody_14 ?_
  refine zv_eqi (y := zI (U.nb : Int)) (hB.1) ?_
  refine zv_iconst (v := zI 1) C dX11_noBody_15 rfl ?_
  refine zv_isubZ C dX11_noBody_16 ?_
  refine zv_i2lZ C (by omega) dX11_noBody_17 ?_
  refine zv_csiD (st := [.ref (ob E 327)]) C (c_X11_inRange hfl E (thW σ 0) (y) (0) ((U.nb : Int) - 1) (by omega) (by omega) (by omega)) mX11_inRange kX11_71 rfl ⟨rfl, rfl⟩ (show zfit (zrm 0 0) 6 (zrm 1 25) = true from rfl) (Nat.le_of_ble_eq_true rfl) dX11_noBody_18 ⟨Nat.zero_le _, Nat.zero_le _⟩ ?_
  refine zv_if_neB (tgt := 28) C dX11_noBody_21 (by decide) (fun h21 => ?_) (fun h21 => ?_)
  · skip
    refine zv_iconst (v := zI 0) C dX11_noBody_28 rfl ?_
    refine zv_iconst (v := zI 1) C dX11_noBody_29 rfl ?_
    exfalso
    omega
  · skip
    refine zv_iconst (v := zI 1) C dX11_noBody_24 rfl ?_
    refine zv_goto (tgt := 29) C dX11_noBody_25 (by decide) ?_
    refine zv_iconst (v := zI 1) C dX11_noBody_29 rfl ?_
    refine zv_cviD (st := []) C (c1_X11_fails hfl E (thW σ 0) 1) mX11_fails kX11_309 (by decide : kd 327 = 10) rfl rfl rfl ⟨rfl, rfl⟩ (show zfit (zrm 0 0) 3 (zrm 1 25) = true from rfl) (Nat.le_of_ble_eq_true rfl) dX11_noBody_30 ⟨Nat.zero_le _, Nat.zero_le _⟩ ?_
    exact zv_iret C hr rfl dX11_noBody_33 ⟨rfl, thW_o _ _ _⟩
set_option maxRecDepth 20000 in
theorem c0_X11_noYear {l : Launch} (hfl : l.stackTraces = false) (E : zE) (σ : zS) (σc : zS) (U : zSU) (y : Int) (k : Nat) (hB : zRb (gI σ 328) U) (hU : zSUp σc 29 U) (hy : U.s0 ≤ y ∧ y ≤ U.s0 + 999) : zRi l E yX11_noYear cX11_noYear 3 .boolean (zrm 2 46) [.ref (ob E 327), .int (zI y), .int (zI (k : Int))] σ (fun r τ => r = zI 0 ∧ τ = σ) := by
  refine Met.ofW (cc := cX11_noYear) (maxL := 3) (ret := (some .boolean)) (by decide +kernel) rfl ?_
  intro p e s m args below meth c s₁ B hml hv
  obtain ⟨rfl, hd⟩ := hv
  have C := zX_of (own := RX11) hfl B hml rfl hd rfl
  have hr := B.returns
  refine zV_go hd (Nat.le_of_ble_eq_true rfl) (lv := [(0, .ref (ob E 327)), (1, .int (zI y)), (2, .int (zI (k : Int)))]) rfl ?_
  have hnb : U.nb ≤ 8 := hU.2.2.1
  have hs0 := hU.2.2.2.1
  
  refine zv_aload_n C 0 dX11_noYear_0 rfl rfl ?_
  refine zv_aload_n C 0 dX11_noYear_1 rfl rfl ?_
  refine zv_iload_n C 1 dX11_noYear_2 rfl rfl ?_
  refine zv_cviD (st := [.ref (ob E 327)]) C (c_X11_isYear hfl E σ σc U (y) hB hU (by omega)) mX11_isYear kX11_327 (by decide : kd 327 = 10) rfl rfl rfl ⟨rfl, rfl⟩ (show zfit (zrm 1 25) 2 (zrm 2 46) = true from rfl) (Nat.le_of_ble_eq_true rfl) dX11_noYear_3 ⟨Nat.zero_le _, Nat.zero_le _⟩ ?_
  refine zv_if_neB (tgt := 13) C dX11_noYear_6 (by decide) (fun h6 => ?_) (fun h6 => ?_)
  · skip
    refine zv_iconst (v := zI 0) C dX11_noYear_13 rfl ?_
    refine zv_iload_n C 2 dX11_noYear_14 rfl rfl ?_
    refine zv_cviD (st := []) C (c0_X11_fails hfl E σ k) mX11_fails kX11_309 (by decide : kd 327 = 10) rfl rfl rfl ⟨rfl, rfl⟩ (show zfit (zrm 0 0) 3 (zrm 2 46) = true from rfl) (Nat.le_of_ble_eq_true rfl) dX11_noYear_15 ⟨Nat.zero_le _, Nat.zero_le _⟩ ?_
    exact zv_iret C hr rfl dX11_noYear_18 ⟨rfl, rfl⟩
  · skip
    refine zv_iconst (v := zI 1) C dX11_noYear_9 rfl ?_
    refine zv_goto (tgt := 14) C dX11_noYear_10 (by decide) ?_
    refine zv_iload_n C 2 dX11_noYear_14 rfl rfl ?_
    exfalso
    omega
set_option maxRecDepth 20000 in
theorem c1_X11_noYear {l : Launch} (hfl : l.stackTraces = false) (E : zE) (σ : zS) (σc : zS) (U : zSU) (y : Int) (k : Nat) (hB : zRb (gI σ 328) U) (hU : zSUp σc 29 U) (hy : -2147483648 ≤ y ∧ y < 2147483648) (hno : ¬ (U.s0 ≤ y ∧ y ≤ U.s0 + 999)) : zRi l E yX11_noYear cX11_noYear 3 .boolean (zrm 2 46) [.ref (ob E 327), .int (zI y), .int (zI (k : Int))] σ (fun r τ => r = zI 1 ∧ τ = thW σ k) := by
  refine Met.ofW (cc := cX11_noYear) (maxL := 3) (ret := (some .boolean)) (by decide +kernel) rfl ?_
  intro p e s m args below meth c s₁ B hml hv
  obtain ⟨rfl, hd⟩ := hv
  have C := zX_of (own := RX11) hfl B hml rfl hd rfl
  have hr := B.returns
  refine zV_go hd (Nat.le_of_ble_eq_true rfl) (lv := [(0, .ref (ob E 327)), (1, .int (zI y)), (2, .int (zI (k : Int)))]) rfl ?_
  have hnb : U.nb ≤ 8 := hU.2.2.1
  have hs0 := hU.2.2.2.1
  
  refine zv_aload_n C 0 dX11_noYear_0 rfl rfl ?_
  refine zv_aload_n C 0 dX11_noYear_1 rfl rfl ?_
  refine zv_iload_n C 1 dX11_noYear_2 rfl rfl ?_
  refine zv_cviD (st := [.ref (ob E 327)]) C (c_X11_isYear hfl E σ σc U (y) hB hU (by omega)) mX11_isYear kX11_327 (by decide : kd 327 = 10) rfl rfl rfl ⟨rfl, rfl⟩ (show zfit (zrm 1 25) 2 (zrm 2 46) = true from rfl) (Nat.le_of_ble_eq_true rfl) dX11_noYear_3 ⟨Nat.zero_le _, Nat.zero_le _⟩ ?_
  refine zv_if_neB (tgt := 13) C dX11_noYear_6 (by decide) (fun h6 => ?_) (fun h6 => ?_)
  · skip
    refine zv_iconst (v := zI 0) C dX11_noYear_13 rfl ?_
    refine zv_iload_n C 2 dX11_noYear_14 rfl rfl ?_
    exfalso
    omega
  · skip
    refine zv_iconst (v := zI 1) C dX11_noYear_9 rfl ?_
    refine zv_goto (tgt := 14) C dX11_noYear_10 (by decide) ?_
    refine zv_iload_n C 2 dX11_noYear_14 rfl rfl ?_
    refine zv_cviD (st := []) C (c1_X11_fails hfl E σ k) mX11_fails kX11_309 (by decide : kd 327 = 10) rfl rfl rfl ⟨rfl, rfl⟩ (show zfit (zrm 0 0) 3 (zrm 2 46) = true from rfl) (Nat.le_of_ble_eq_true rfl) dX11_noYear_15 ⟨Nat.zero_le _, Nat.zero_le _⟩ ?_
    exact zv_iret C hr rfl dX11_noYear_18 ⟨rfl, rfl⟩
set_option maxRecDepth 20000 in
theorem c_X11_daysOf {l : Launch} (hfl : l.stackTraces = false) (E : zE) (σ : zS) (σc : zS) (U : zSU) (y : Int) (hB : zRb (gI σ 328) U) (hU : zSUp σc 29 U) (hy : U.s0 ≤ y ∧ y ≤ U.s0 + 999) : zRi l E yX11_daysOf cX11_daysOf 2 .int (zrm 3 68) [.ref (ob E 327), .int (zI y)] σ (fun r τ => r = zI (yEnd U.s0 y - yEnd U.s0 (y - 1)) ∧ mK σ τ 0) := by
  refine Met.ofW (cc := cX11_daysOf) (maxL := 2) (ret := (some .int)) (by decide +kernel) rfl ?_
  intro p e s m args below meth c s₁ B hml hv
  obtain ⟨rfl, hd⟩ := hv
  have C := zX_of (own := RX11) hfl B hml rfl hd rfl
  have hr := B.returns
  refine zV_go hd (Nat.le_of_ble_eq_true rfl) (lv := [(0, .ref (ob E 327)), (1, .int (zI y))]) rfl ?_
  have hnb : U.nb ≤ 8 := hU.2.2.1
  have hs0 := hU.2.2.2.1
  
  refine zv_aload_n C 0 dX11_daysOf_0 rfl rfl ?_
  refine zv_iconst (v := zI 0) C dX11_daysOf_1 rfl ?_
  refine zP10_10 C (by decide : kd 327 = _) kX11_50 dX11_daysOf_2 ?_
  refine zv_eqS (τ := (thW σ 0)) (rfl) ?_
  refine zv_aload_n C 0 dX11_daysOf_5 rfl rfl ?_
  refine zv_iload_n C 1 dX11_daysOf_6 rfl rfl ?_
  refine zv_iconst (v := zI 1) C dX11_daysOf_7 rfl ?_
  refine zv_cviD (st := []) C (c0_X11_noYear hfl E (thW σ 0) σc U (y) 1 hB hU (by omega)) mX11_noYear kX11_330 (by decide : kd 327 = 10) rfl rfl rfl ⟨rfl, rfl⟩ (show zfit (zrm 2 46) 3 (zrm 3 68) = true from rfl) (Nat.le_of_ble_eq_true rfl) dX11_daysOf_8 ⟨Nat.zero_le _, Nat.zero_le _⟩ ?_
  refine zv_if_eqZ (tgt := 18) C (by omega) dX11_daysOf_11 (by decide) (fun h11 => ?_) (fun h11 => absurd h11 (by decide))
  refine zv_iload_n C 1 dX11_daysOf_18 rfl rfl ?_
  refine zv_csiD (st := []) C (c_X11_daysNow hfl E (thW σ 0) U.s0 (y) (by omega)) mX11_daysNow kX11_333 rfl ⟨rfl, rfl⟩ (show zfit (zrm 1 20) 1 (zrm 3 68) = true from rfl) (Nat.le_of_ble_eq_true rfl) dX11_daysOf_19 ⟨Nat.zero_le _, Nat.zero_le _⟩ ?_
  exact zv_iret C hr rfl dX11_daysOf_22 ⟨rfl, by first | exact mK_th _ _ | exact mK_th2 _ _ _ | exact mK_C (mK_W (mK_th _ _) _ _) _ | exact mK_W (mK_th _ _) _ _⟩
set_option maxRecDepth 20000 in
theorem x1_X11_daysOf {l : Launch} (hfl : l.stackTraces = false) (E : zE) (σ : zS) (σc : zS) (U : zSU) (y : Int) (hB : zRb (gI σ 328) U) (hU : zSUp σc 29 U) (hy : -2147483648 ≤ y ∧ y < 2147483648) (hno : ¬ (U.s0 ≤ y ∧ y ≤ U.s0 + 999)) : zRi l E yX11_daysOf cX11_daysOf 2 .int (zrm 3 68) [.ref (ob E 327), .int (zI y)] σ (fun r τ => r = zI 0 ∧ mK σ τ 1) := by
  refine Met.ofW (cc := cX11_daysOf) (maxL := 2) (ret := (some .int)) (by decide +kernel) rfl ?_
  intro p e s m args below meth c s₁ B hml hv
  obtain ⟨rfl, hd⟩ := hv
  have C := zX_of (own := RX11) hfl B hml rfl hd rfl
  have hr := B.returns
  refine zV_go hd (Nat.le_of_ble_eq_true rfl) (lv := [(0, .ref (ob E 327)), (1, .int (zI y))]) rfl ?_
  have hnb : U.nb ≤ 8 := hU.2.2.1
  have hs0 := hU.2.2.2.1
  
  refine zv_aload_n C 0 dX11_daysOf_0 rfl rfl ?_
  refine zv_iconst (v := zI 0) C dX11_daysOf_1 rfl ?_
  refine zP10_10 C (by decide : kd 327 = _) kX11_50 dX11_daysOf_2 ?_
  refine zv_eqS (τ := (thW σ 0)) (rfl) ?_
  refine zv_aload_n C 0 dX11_daysOf_5 rfl rfl ?_
  refine zv_iload_n C 1 dX11_daysOf_6 rfl rfl ?_
  refine zv_iconst (v := zI 1) C dX11_daysOf_7 rfl ?_
  refine zv_cviD (st := []) C (c1_X11_noYear hfl E (thW σ 0) σc U (y) 1 hB hU (by omega) hno) mX11_noYear kX11_330 (by decide : kd 327 = 10) rfl rfl rfl ⟨rfl, rfl⟩ (show zfit (zrm 2 46) 3 (zrm 3 68) = true from rfl) (Nat.le_of_ble_eq_true rfl) dX11_daysOf_8 ⟨Nat.zero_le _, Nat.zero_le _⟩ ?_
  refine zv_if_eqZ (tgt := 18) C (by omega) dX11_daysOf_11 (by decide) (fun h11 => absurd h11 (by decide)) (fun h11 => ?_)
  refine zv_iconst (v := zI 0) C dX11_daysOf_14 rfl ?_
  refine zv_goto (tgt := 22) C dX11_daysOf_15 (by decide) ?_
  exact zv_iret C hr rfl dX11_daysOf_22 ⟨rfl, by first | exact mK_th _ _ | exact mK_th2 _ _ _ | exact mK_C (mK_W (mK_th _ _) _ _) _ | exact mK_W (mK_th _ _) _ _⟩
set_option maxRecDepth 20000 in
theorem c_X11_endOf {l : Launch} (hfl : l.stackTraces = false) (E : zE) (σ : zS) (σc : zS) (U : zSU) (y : Int) (hB : zRb (gI σ 328) U) (hU : zSUp σc 29 U) (hy : U.s0 ≤ y ∧ y ≤ U.s0 + 999) : zRi l E yX11_endOf cX11_endOf 2 .int (zrm 3 68) [.ref (ob E 327), .int (zI y)] σ (fun r τ => r = zI (yEnd U.s0 y) ∧ mK σ τ 0) := by
  refine Met.ofW (cc := cX11_endOf) (maxL := 2) (ret := (some .int)) (by decide +kernel) rfl ?_
  intro p e s m args below meth c s₁ B hml hv
  obtain ⟨rfl, hd⟩ := hv
  have C := zX_of (own := RX11) hfl B hml rfl hd rfl
  have hr := B.returns
  refine zV_go hd (Nat.le_of_ble_eq_true rfl) (lv := [(0, .ref (ob E 327)), (1, .int (zI y))]) rfl ?_
  have hnb : U.nb ≤ 8 := hU.2.2.1
  have hs0 := hU.2.2.2.1
  
  refine zv_aload_n C 0 dX11_endOf_0 rfl rfl ?_
  refine zv_iconst (v := zI 0) C dX11_endOf_1 rfl ?_
  refine zP10_10 C (by decide : kd 327 = _) kX11_50 dX11_endOf_2 ?_
  refine zv_eqS (τ := (thW σ 0)) (rfl) ?_
  refine zv_aload_n C 0 dX11_endOf_5 rfl rfl ?_
  refine zv_iload_n C 1 dX11_endOf_6 rfl rfl ?_
  refine zv_iconst (v := zI 1) C dX11_endOf_7 rfl ?_
  refine zv_cviD (st := []) C (c0_X11_noYear hfl E (thW σ 0) σc U (y) 1 hB hU (by omega)) mX11_noYear kX11_330 (by decide : kd 327 = 10) rfl rfl rfl ⟨rfl, rfl⟩ (show zfit (zrm 2 46) 3 (zrm 3 68) = true from rfl) (Nat.le_of_ble_eq_true rfl) dX11_endOf_8 ⟨Nat.zero_le _, Nat.zero_le _⟩ ?_
  refine zv_if_eqZ (tgt := 18) C (by omega) dX11_endOf_11 (by decide) (fun h11 => ?_) (fun h11 => absurd h11 (by decide))
  refine zv_aload_n C 0 dX11_endOf_18 rfl rfl ?_
  refine zv_iload_n C 1 dX11_endOf_19 rfl rfl ?_
  refine zv_cviD (st := []) C (c_X11_endNow hfl E (thW σ 0) σc U (y) hB hU (by omega)) mX11_endNow kX11_299 (by decide : kd 327 = 10) rfl rfl rfl ⟨rfl, rfl⟩ (show zfit (zrm 1 21) 2 (zrm 3 68) = true from rfl) (Nat.le_of_ble_eq_true rfl) dX11_endOf_20 ⟨Nat.zero_le _, Nat.zero_le _⟩ ?_
  exact zv_iret C hr rfl dX11_endOf_23 ⟨rfl, by first | exact mK_th _ _ | exact mK_th2 _ _ _ | exact mK_C (mK_W (mK_th _ _) _ _) _ | exact mK_W (mK_th _ _) _ _⟩
set_option maxRecDepth 20000 in
theorem x1_X11_endOf {l : Launch} (hfl : l.stackTraces = false) (E : zE) (σ : zS) (σc : zS) (U : zSU) (y : Int) (hB : zRb (gI σ 328) U) (hU : zSUp σc 29 U) (hy : -2147483648 ≤ y ∧ y < 2147483648) (hno : ¬ (U.s0 ≤ y ∧ y ≤ U.s0 + 999)) : zRi l E yX11_endOf cX11_endOf 2 .int (zrm 3 68) [.ref (ob E 327), .int (zI y)] σ (fun r τ => r = zI 0 ∧ mK σ τ 1) := by
  refine Met.ofW (cc := cX11_endOf) (maxL := 2) (ret := (some .int)) (by decide +kernel) rfl ?_
  intro p e s m args below meth c s₁ B hml hv
  obtain ⟨rfl, hd⟩ := hv
  have C := zX_of (own := RX11) hfl B hml rfl hd rfl
  have hr := B.returns
  refine zV_go hd (Nat.le_of_ble_eq_true rfl) (lv := [(0, .ref (ob E 327)), (1, .int (zI y))]) rfl ?_
  have hnb : U.nb ≤ 8 := hU.2.2.1
  have hs0 := hU.2.2.2.1
  
  refine zv_aload_n C 0 dX11_endOf_0 rfl rfl ?_
  refine zv_iconst (v := zI 0) C dX11_endOf_1 rfl ?_
  refine zP10_10 C (by decide : kd 327 = _) kX11_50 dX11_endOf_2 ?_
  refine zv_eqS (τ := (thW σ 0)) (rfl) ?_
  refine zv_aload_n C 0 dX11_endOf_5 rfl rfl ?_
  refine zv_iload_n C 1 dX11_endOf_6 rfl rfl ?_
  refine zv_iconst (v := zI 1) C dX11_endOf_7 rfl ?_
  refine zv_cviD (st := []) C (c1_X11_noYear hfl E (thW σ 0) σc U (y) 1 hB hU (by omega) hno) mX11_noYear kX11_330 (by decide : kd 327 = 10) rfl rfl rfl ⟨rfl, rfl⟩ (show zfit (zrm 2 46) 3 (zrm 3 68) = true from rfl) (Nat.le_of_ble_eq_true rfl) dX11_endOf_8 ⟨Nat.zero_le _, Nat.zero_le _⟩ ?_
  refine zv_if_eqZ (tgt := 18) C (by omega) dX11_endOf_11 (by decide) (fun h11 => absurd h11 (by decide)) (fun h11 => ?_)
  refine zv_iconst (v := zI 0) C dX11_endOf_14 rfl ?_
  refine zv_goto (tgt := 23) C dX11_endOf_15 (by decide) ?_
  exact zv_iret C hr rfl dX11_endOf_23 ⟨rfl, by first | exact mK_th _ _ | exact mK_th2 _ _ _ | exact mK_C (mK_W (mK_th _ _) _ _) _ | exact mK_W (mK_th _ _) _ _⟩
set_option maxRecDepth 20000 in
theorem c_X11_yearOf {l : Launch} (hfl : l.stackTraces = false) (E : zE) (σ : zS) (σc : zS) (U : zSU) (y Y : Int) (hB : zRb (gI σ 328) U) (hU : zSUp σc 29 U) (hy : 0 ≤ y ∧ y ≤ 400000) (hY : yIs U.s0 y Y ∧ Y ≤ U.s0 + 1096) : zRi l E yX11_yearOf cX11_yearOf 3 .int (zrm 2 45) [.ref (ob E 327), .int (zI y)] σ (fun r τ => r = zI Y ∧ mK σ τ 0) := by
  refine Met.ofW (cc := cX11_yearOf) (maxL := 3) (ret := (some .int)) (by decide +kernel) rfl ?_
  intro p e s m args below meth c s₁ B hml hv
  obtain ⟨rfl, hd⟩ := hv
  have C := zX_of (own := RX11) hfl B hml rfl hd rfl
  have hr := B.returns
  refine zV_go hd (Nat.le_of_ble_eq_true rfl) (lv := [(0, .ref (ob E 327)), (1, .int (zI y))]) rfl ?_
  have hnb : U.nb ≤ 8 := hU.2.2.1
  have hs0 := hU.2.2.2.1
  obtain ⟨⟨hY1, hY2, hY3⟩, hY4⟩ := hY
  refine zv_aload_n C 0 dX11_yearOf_0 rfl rfl ?_
  refine zv_iconst (v := zI 0) C dX11_yearOf_1 rfl ?_
  refine zP10_10 C (by decide : kd 327 = _) kX11_50 dX11_yearOf_2 ?_
  refine zv_eqS (τ := (thW σ 0)) (rfl) ?_
  refine zv_aload_n C 0 dX11_yearOf_5 rfl rfl ?_
  refine zv_iload_n C 1 dX11_yearOf_6 rfl rfl ?_
  refine zv_csiD (st := [.ref (ob E 327)]) C (c_X11_isDay hfl E (thW σ 0) (y) (by omega)) mX11_isDay kX11_338 rfl ⟨rfl, rfl⟩ (show zfit (zrm 1 25) 1 (zrm 2 45) = true from rfl) (Nat.le_of_ble_eq_true rfl) dX11_yearOf_7 ⟨Nat.zero_le _, Nat.zero_le _⟩ ?_
  refine zv_if_neB (tgt := 17) C dX11_yearOf_10 (by decide) (fun h10 => ?_) (fun h10 => ?_)
  · skip
    refine zv_iconst (v := zI 0) C dX11_yearOf_17 rfl ?_
    refine zv_iconst (v := zI 1) C dX11_yearOf_18 rfl ?_
    refine zv_cviD (st := []) C (c0_X11_fails hfl E (thW σ 0) 1) mX11_fails kX11_309 (by decide : kd 327 = 10) rfl rfl rfl ⟨rfl, rfl⟩ (show zfit (zrm 0 0) 3 (zrm 2 45) = true from rfl) (Nat.le_of_ble_eq_true rfl) dX11_yearOf_19 ⟨Nat.zero_le _, Nat.zero_le _⟩ ?_
    refine zv_if_eqZ (tgt := 27) C (by omega) dX11_yearOf_22 (by decide) (fun h22 => ?_) (fun h22 => absurd h22 (by decide))
    refine zv_aload_n C 0 dX11_yearOf_27 rfl rfl ?_
    refine zG10_0 C (by decide : kd 327 = _) kX11_7 dX11_yearOf_28 ?_
    refine zv_iconst (v := zI 1) C dX11_yearOf_31 rfl ?_
    refine zv_iald (j := 1) C (by decide : kd 328 = _) (zI_ix (by omega)) (by decide) dX11_yearOf_32 ?_
    refine zv_eqi (y := zI U.s0) (hB.2.1) ?_
    refine zv_iload_n C 1 dX11_yearOf_33 rfl rfl ?_
    refine zv_sipush (v := zI 366) C dX11_yearOf_34 (by decide) ?_
    refine zv_idivP C (by omega) (by omega) dX11_yearOf_37 ?_
    refine zv_iaddZ C dX11_yearOf_38 ?_
    refine zv_istore_n (lv' := [(2, .int (zI ((U.s0) + (y / 366)))), (0, .ref (ob E 327)), (1, .int (zI y))]) C dX11_yearOf_39 rfl (by decide) rfl ?_
    have q40_26 : ((U.s0) + (y / 366) : Int) = U.s0 + y / 366 + (0 : Int) := by first | rfl | omega
    refine zv_sub (lv' := [(0, .ref (ob E 327)), (1, .int (zI y)), (2, .int (zI (U.s0 + y / 366 + (0 : Int))))]) [1, 2, 0] (zcons rfl (zcons rfl (zcons (zqI q40_26) rfl))) ?_
    refine zv_while (α := Nat) (fun v => (Y - U.s0).toNat + 1 - v) (fun v => U.s0 + y / 366 + (v : Int) ≤ Y) (fun v => (thW σ 0)) (fun v => [(0, .ref (ob E 327)), (1, .int (zI y)), (2, .int (zI (U.s0 + y / 366 + (v : Int))))]) (fun v => []) (fun j hI ih => ?_) (0) (by omega)
    have hyb : -100000 ≤ yEnd U.s0 (U.s0 + y / 366 + (j : Int)) ∧ yEnd U.s0 (U.s0 + y / 366 + (j : Int)) ≤ 1000000 := by unfold yEnd yLp; omega
    have hj3 : U.s0 + y / 366 + (j : Int) < Y → yEnd U.s0 (U.s0 + y / 366 + (j : Int)) ≤ y := fun z => hY3 _ (by omega) z
    refine zv_aload_n C 0 dX11_yearOf_40 rfl rfl ?_
    refine zv_iload_n C 2 dX11_yearOf_41 rfl rfl ?_
    refine zv_cviD (st := []) C (c_X11_endNow hfl E (thW σ 0) σc U (U.s0 + y / 366 + (j : Int)) hB hU (by omega)) mX11_endNow kX11_299 (by decide : kd 327 = 10) rfl rfl rfl ⟨rfl, rfl⟩ (show zfit (zrm 1 21) 2 (zrm 2 45) = true from rfl) (Nat.le_of_ble_eq_true rfl) dX11_yearOf_42 ⟨Nat.zero_le _, Nat.zero_le _⟩ ?_
    refine zv_iload_n C 1 dX11_yearOf_45 rfl rfl ?_
    refine zv_icmp_gtZ (tgt := 55) C (by omega) (by omega) dX11_yearOf_46 (by decide) (fun h46 => ?_) (fun h46 => ?_)
    · skip
      have hj5 : U.s0 + y / 366 + (j : Int) = Y := by
        rcases Int.lt_or_le (U.s0 + y / 366 + (j : Int)) Y with z | z
        · have := hj3 z; omega
        · omega
      refine zv_iload_n C 2 dX11_yearOf_55 rfl rfl ?_
      exact zv_iret C hr rfl dX11_yearOf_56 ⟨congrArg zI hj5, by first | exact mK_th _ _ | exact mK_th2 _ _ _ | exact mK_C (mK_W (mK_th _ _) _ _) _ | exact mK_W (mK_th _ _) _ _⟩
    · skip
      have hj4 : U.s0 + y / 366 + (j : Int) ≠ Y := fun z => by rw [z] at h46; omega
      refine zv_iinc (v := (zI (U.s0 + y / 366 + (j : Int) + 1))) (lv' := [(2, .int (zI (U.s0 + y / 366 + (j : Int) + 1))), (0, .ref (ob E 327)), (1, .int (zI y))]) C 2 dX11_yearOf_49 rfl (zI_add _ _) (by decide) rfl ?_
      refine zv_goto (tgt := 40) C dX11_yearOf_52 (by decide) ?_
      have q40_47 : (U.s0 + y / 366 + (j : Int) + 1 : Int) = U.s0 + y / 366 + ((j + 1 : Nat) : Int) := by first | rfl | omega
      refine zv_sub (lv' := [(0, .ref (ob E 327)), (1, .int (zI y)), (2, .int (zI (U.s0 + y / 366 + ((j + 1 : Nat) : Int))))]) [1, 2, 0] (zcons rfl (zcons rfl (zcons (zqI q40_47) rfl))) ?_
      exact ih (j + 1) (by omega) (by omega)
  · skip
    refine zv_iconst (v := zI 1) C dX11_yearOf_13 rfl ?_
    refine zv_goto (tgt := 18) C dX11_yearOf_14 (by decide) ?_
    refine zv_iconst (v := zI 1) C dX11_yearOf_18 rfl ?_
    exfalso
    omega
set_option maxRecDepth 20000 in
theorem x1_X11_yearOf {l : Launch} (hfl : l.stackTraces = false) (E : zE) (σ : zS) (σc : zS) (U : zSU) (y : Int) (hB : zRb (gI σ 328) U) (hU : zSUp σc 29 U) (hy : -2147483648 ≤ y ∧ y < 2147483648) (hno : ¬ (0 ≤ y ∧ y ≤ 400000)) : zRi l E yX11_yearOf cX11_yearOf 3 .int (zrm 2 45) [.ref (ob E 327), .int (zI y)] σ (fun r τ => r = zI 0 ∧ mK σ τ 1) := by
  refine Met.ofW (cc := cX11_yearOf) (maxL := 3) (ret := (some .int)) (by decide +kernel) rfl ?_
  intro p e s m args below meth c s₁ B hml hv
  obtain ⟨rfl, hd⟩ := hv
  have C := zX_of (own := RX11) hfl B hml rfl hd rfl
  have hr := B.returns
  refine zV_go hd (Nat.le_of_ble_eq_true rfl) (lv := [(0, .ref (ob E 327)), (1, .int (zI y))]) rfl ?_
  have hnb : U.nb ≤ 8 := hU.2.2.1
  have hs0 := hU.2.2.2.1
  
  refine zv_aload_n C 0 dX11_yearOf_0 rfl rfl ?_
  refine zv_iconst (v := zI 0) C dX11_yearOf_1 rfl ?_
  refine zP10_10 C (by decide : kd 327 = _) kX11_50 dX11_yearOf_2 ?_
  refine zv_eqS (τ := (thW σ 0)) (rfl) ?_
  refine zv_aload_n C 0 dX11_yearOf_5 rfl rfl ?_
  refine zv_iload_n C 1 dX11_yearOf_6 rfl rfl ?_
  refine zv_csiD (st := [.ref (ob E 327)]) C (c_X11_isDay hfl E (thW σ 0) (y) (by omega)) mX11_isDay kX11_338 rfl ⟨rfl, rfl⟩ (show zfit (zrm 1 25) 1 (zrm 2 45) = true from rfl) (Nat.le_of_ble_eq_true rfl) dX11_yearOf_7 ⟨Nat.zero_le _, Nat.zero_le _⟩ ?_
  refine zv_if_neB (tgt := 17) C dX11_yearOf_10 (by decide) (fun h10 => ?_) (fun h10 => ?_)
  · skip
    refine zv_iconst (v := zI 0) C dX11_yearOf_17 rfl ?_
    refine zv_iconst (v := zI 1) C dX11_yearOf_18 rfl ?_
    exfalso
    omega
  · skip
    refine zv_iconst (v := zI 1) C dX11_yearOf_13 rfl ?_
    refine zv_goto (tgt := 18) C dX11_yearOf_14 (by decide) ?_
    refine zv_iconst (v := zI 1) C dX11_yearOf_18 rfl ?_
    refine zv_cviD (st := []) C (c1_X11_fails hfl E (thW σ 0) 1) mX11_fails kX11_309 (by decide : kd 327 = 10) rfl rfl rfl ⟨rfl, rfl⟩ (show zfit (zrm 0 0) 3 (zrm 2 45) = true from rfl) (Nat.le_of_ble_eq_true rfl) dX11_yearOf_19 ⟨Nat.zero_le _, Nat.zero_le _⟩ ?_
    refine zv_if_eqZ (tgt := 27) C (by omega) dX11_yearOf_22 (by decide) (fun h22 => absurd h22 (by decide)) (fun h22 => ?_)
    refine zv_iconst (v := zI 0) C dX11_yearOf_25 rfl ?_
    exact zv_iret C hr rfl dX11_yearOf_26 ⟨rfl, by first | exact mK_th _ _ | exact mK_th2 _ _ _ | exact mK_C (mK_W (mK_th _ _) _ _) _ | exact mK_W (mK_th _ _) _ _⟩
