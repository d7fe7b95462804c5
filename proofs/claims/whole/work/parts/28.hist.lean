theorem kd_ring : ∀ j, j < 12 → kd (76 + 20 * j) = 6 := by decide +kernel
/-- a state put into the ring -/
def hRem (σ : zS) (b n q : Nat) : zS := sI (cpS (sI σ 54 1 (zI (((n + 1) % 12 : Nat) : Int))) (76 + 20 * ((n + 1) % 12)) b 20) 54 2 (zI ((min (q + 1) 12 : Nat) : Int))
def hBack (σ : zS) (b n q : Nat) : zS := sI (sI (cpS σ b (76 + 20 * n) 20) 54 1 (zI (((n + 11) % 12 : Nat) : Int))) 54 2 (zI ((q : Int) - 1))
theorem kd6_54 : ∀ b, kd b = 6 → ¬ (b ≤ 54 ∧ 54 < b + 20) := by
  have h : ∀ b, b < 341 → kd b = 6 → ¬ (b ≤ 54 ∧ 54 < b + 20) := by decide +kernel
  intro b hb
  exact h b (kd_lt hb (by decide)) hb
set_option maxRecDepth 20000 in
theorem c_X1_forgetAll {l : Launch} (hfl : l.stackTraces = false) (E : zE) (σ : zS)   : zRv l E yX1_forgetAll cX1_forgetAll 1 (zrm 0 0) [.ref (ob E 54)] σ (fun τ => τ = sI (sI σ 54 2 (zI 0)) 54 4 (zI 0)) := by
  refine Met.ofW (cc := cX1_forgetAll) (maxL := 1) (ret := none) (by decide +kernel) rfl ?_
  intro p e s m args below meth c s₁ B hml hv
  obtain ⟨rfl, hd⟩ := hv
  have C := zX_of (own := RX1) hfl B hml rfl hd rfl
  have hr := B.returns
  refine zV_go hd (Nat.le_of_ble_eq_true rfl) (lv := [(0, .ref (ob E 54))]) rfl ?_
  refine zv_aload_n C 0 dX1_forgetAll_0 rfl rfl ?_
  refine zv_iconst (v := zI 0) C dX1_forgetAll_1 rfl ?_
  refine zP1_2 C (by decide : kd 54 = _) kX1_21 dX1_forgetAll_2 ?_
  refine zv_aload_n C 0 dX1_forgetAll_5 rfl rfl ?_
  refine zv_iconst (v := zI 0) C dX1_forgetAll_6 rfl ?_
  refine zP1_4 C (by decide : kd 54 = _) (Or.inl rfl) kX1_29 dX1_forgetAll_7 ?_
  exact zv_vret C hr dX1_forgetAll_10 rfl
set_option maxRecDepth 20000 in
theorem c_X1_keep {l : Launch} (hfl : l.stackTraces = false) (E : zE) (σ : zS) (b : Nat) (hb : kd b = 6) (hne : 56 ≠ b) : zRv l E yX1_keep cX1_keep 2 (zrm 3 103) [.ref (ob E 54), .ref (ob E b)] σ (fun τ => τ = sI (cpS σ 56 b 20) 54 4 (zI 1)) := by
  refine Met.ofW (cc := cX1_keep) (maxL := 2) (ret := none) (by decide +kernel) rfl ?_
  intro p e s m args below meth c s₁ B hml hv
  obtain ⟨rfl, hd⟩ := hv
  have C := zX_of (own := RX1) hfl B hml rfl hd rfl
  have hr := B.returns
  refine zV_go hd (Nat.le_of_ble_eq_true rfl) (lv := [(0, .ref (ob E 54)), (1, .ref (ob E b))]) rfl ?_
  refine zv_aload_n C 0 dX1_keep_0 rfl rfl ?_
  refine zG1_3 C (by decide : kd 54 = _) kX1_25 dX1_keep_1 ?_
  refine zv_aload_n C 1 dX1_keep_4 rfl rfl ?_
  refine zv_cvvD (st := []) C (c_X6_copyFrom hfl E σ 56 b (by decide) hb hne) mX6_copyFrom kX1_33 (by decide : kd 56 = 6) rfl rfl rfl ⟨rfl, rfl⟩ (show zfit (zrm 2 81) 3 (zrm 3 103) = true from rfl) (Nat.le_of_ble_eq_true rfl) dX1_keep_5 ⟨Nat.zero_le _, Nat.zero_le _⟩ ?_
  refine zv_aload_n C 0 dX1_keep_8 rfl rfl ?_
  refine zv_iconst (v := zI 1) C dX1_keep_9 rfl ?_
  refine zP1_4 C (by decide : kd 54 = _) (Or.inr rfl) kX1_29 dX1_keep_10 ?_
  exact zv_vret C hr dX1_keep_13 rfl
set_option maxRecDepth 20000 in
theorem c_X1_bringBack {l : Launch} (hfl : l.stackTraces = false) (E : zE) (σ : zS) (b : Nat) (hb : kd b = 6) (hne : b ≠ 56) : zRv l E yX1_bringBack cX1_bringBack 2 (zrm 3 103) [.ref (ob E 54), .ref (ob E b)] σ (fun τ => τ = sI (cpS σ b 56 20) 54 2 (zI 0)) := by
  refine Met.ofW (cc := cX1_bringBack) (maxL := 2) (ret := none) (by decide +kernel) rfl ?_
  intro p e s m args below meth c s₁ B hml hv
  obtain ⟨rfl, hd⟩ := hv
  have C := zX_of (own := RX1) hfl B hml rfl hd rfl
  have hr := B.returns
  refine zV_go hd (Nat.le_of_ble_eq_true rfl) (lv := [(0, .ref (ob E 54)), (1, .ref (ob E b))]) rfl ?_
  refine zv_aload_n C 1 dX1_bringBack_0 rfl rfl ?_
  refine zv_aload_n C 0 dX1_bringBack_1 rfl rfl ?_
  refine zG1_3 C (by decide : kd 54 = _) kX1_25 dX1_bringBack_2 ?_
  refine zv_cvvD (st := []) C (c_X6_copyFrom hfl E σ b 56 hb (by decide) hne) mX6_copyFrom kX1_33 hb rfl rfl rfl ⟨rfl, rfl⟩ (show zfit (zrm 2 81) 3 (zrm 3 103) = true from rfl) (Nat.le_of_ble_eq_true rfl) dX1_bringBack_5 ⟨Nat.zero_le _, Nat.zero_le _⟩ ?_
  refine zv_aload_n C 0 dX1_bringBack_8 rfl rfl ?_
  refine zv_iconst (v := zI 0) C dX1_bringBack_9 rfl ?_
  refine zP1_2 C (by decide : kd 54 = _) kX1_21 dX1_bringBack_10 ?_
  exact zv_vret C hr dX1_bringBack_13 rfl
set_option maxRecDepth 20000 in
theorem c_X1_remember {l : Launch} (hfl : l.stackTraces = false) (E : zE) (σ : zS) (b n q : Nat) (hb : kd b = 6) (hbr : b < 76) (hn : gI σ 54 1 = zI (n : Int)) (hn2 : n < 12) (hm : gI σ 54 2 = zI (q : Int)) (hm2 : q ≤ 12) : zRv l E yX1_remember cX1_remember 2 (zrm 3 103) [.ref (ob E 54), .ref (ob E b)] σ (fun τ => τ = hRem σ b n q) := by
  refine Met.ofW (cc := cX1_remember) (maxL := 2) (ret := none) (by decide +kernel) rfl ?_
  intro p e s m args below meth c s₁ B hml hv
  obtain ⟨rfl, hd⟩ := hv
  have C := zX_of (own := RX1) hfl B hml rfl hd rfl
  have hr := B.returns
  refine zV_go hd (Nat.le_of_ble_eq_true rfl) (lv := [(0, .ref (ob E 54)), (1, .ref (ob E b))]) rfl ?_
  refine zv_aload_n C 0 dX1_remember_0 rfl rfl ?_
  refine zv_aload_n C 0 dX1_remember_1 rfl rfl ?_
  refine zG1_1 C (by decide : kd 54 = _) kX1_17 dX1_remember_2 ?_
  refine zv_eqi (y := zI (n : Int)) (hn) ?_
  refine zv_iconst (v := zI 1) C dX1_remember_5 rfl ?_
  refine zv_iaddZ C dX1_remember_6 ?_
  refine zv_bipush (v := zI 12) C dX1_remember_7 (by decide) ?_
  refine zv_iremP C (by omega) (by omega) dX1_remember_9 ?_
  refine zv_eqi (y := (zI (((n + 1) % 12 : Nat) : Int))) (congrArg zI (by omega)) ?_
  refine zP1_1 C (by decide : kd 54 = _) kX1_17 dX1_remember_10 ?_
  refine zv_aload_n C 0 dX1_remember_13 rfl rfl ?_
  refine zG1_0 C (by decide : kd 54 = _) kX1_11 dX1_remember_14 ?_
  refine zv_aload_n C 0 dX1_remember_17 rfl rfl ?_
  refine zG1_1 C (by decide : kd 54 = _) kX1_17 dX1_remember_18 ?_
  refine zv_eqi (y := (zI (((n + 1) % 12 : Nat) : Int))) (by rw [gI_sI, if_pos ⟨rfl, rfl⟩]) ?_
  refine zv_sald (j := ((n + 1) % 12)) C (by decide : kd 55 = _) (zI_ix rfl) (Nat.lt_of_lt_of_eq (Nat.mod_lt _ (by decide)) (by decide)) dX1_remember_21 ?_
  refine zv_aload_n C 1 dX1_remember_22 rfl rfl ?_
  refine zv_cvvD (st := []) C (c_X6_copyFrom hfl E (sI σ 54 1 (zI (((n + 1) % 12 : Nat) : Int))) (76 + 20 * ((n + 1) % 12)) b (kd_ring _ (by omega)) hb (by omega)) mX6_copyFrom kX1_33 (kd_ring _ (by omega)) rfl rfl rfl ⟨rfl, rfl⟩ (show zfit (zrm 2 81) 3 (zrm 3 103) = true from rfl) (Nat.le_of_ble_eq_true rfl) dX1_remember_23 ⟨Nat.zero_le _, Nat.zero_le _⟩ ?_
  refine zv_aload_n C 0 dX1_remember_26 rfl rfl ?_
  refine zv_aload_n C 0 dX1_remember_27 rfl rfl ?_
  refine zG1_2 C (by decide : kd 54 = _) kX1_21 dX1_remember_28 ?_
  refine zv_eqi (y := (zI (q : Int))) (by rw [gI_cpS, if_neg (fun h => by omega), gI_sI, if_neg (by omega)]; exact hm) ?_
  refine zv_iconst (v := zI 1) C dX1_remember_31 rfl ?_
  refine zv_iaddZ C dX1_remember_32 ?_
  refine zv_bipush (v := zI 12) C dX1_remember_33 (by decide) ?_
  refine zv_csiD (st := [.ref (ob E 54)]) C (c_J9_min_7cf53 hfl E (cpS (sI σ 54 1 (zI (((n + 1) % 12 : Nat) : Int))) (76 + 20 * ((n + 1) % 12)) b 20) ((q : Int) + 1) (12) (by omega) (by omega)) mJ9_min_7cf53 kX1_37 rfl ⟨rfl, rfl⟩ (show zfit (zrm 0 0) 2 (zrm 3 103) = true from rfl) (Nat.le_of_ble_eq_true rfl) dX1_remember_35 ⟨Nat.zero_le _, Nat.zero_le _⟩ ?_
  refine zv_eqi (y := (zI ((min (q + 1) 12 : Nat) : Int))) (congrArg zI (by omega)) ?_
  refine zP1_2 C (by decide : kd 54 = _) kX1_21 dX1_remember_38 ?_
  exact zv_vret C hr dX1_remember_41 rfl
set_option maxRecDepth 20000 in
theorem c_X1_stepBack {l : Launch} (hfl : l.stackTraces = false) (E : zE) (σ : zS) (b n q : Nat) (hb : kd b = 6) (hbr : b < 54) (hn : gI σ 54 1 = zI (n : Int)) (hn2 : n < 12) (hm : gI σ 54 2 = zI (q : Int)) (hm2 : q ≤ 12) : zRi l E yX1_stepBack cX1_stepBack 2 .int (zrm 3 103) [.ref (ob E 54), .ref (ob E b)] σ (fun r τ => r = zI ((q : Int) - 1) ∧ τ = if q = 0 then σ else hBack σ b n q) := by
  refine Met.ofW (cc := cX1_stepBack) (maxL := 2) (ret := (some .int)) (by decide +kernel) rfl ?_
  intro p e s m args below meth c s₁ B hml hv
  obtain ⟨rfl, hd⟩ := hv
  have C := zX_of (own := RX1) hfl B hml rfl hd rfl
  have hr := B.returns
  refine zV_go hd (Nat.le_of_ble_eq_true rfl) (lv := [(0, .ref (ob E 54)), (1, .ref (ob E b))]) rfl ?_
  have h54 := kd6_54 b hb
  refine zv_aload_n C 0 dX1_stepBack_0 rfl rfl ?_
  refine zG1_2 C (by decide : kd 54 = _) kX1_21 dX1_stepBack_1 ?_
  refine zv_eqi (y := zI (q : Int)) (hm) ?_
  refine zv_if_neZ (tgt := 9) C (by omega) dX1_stepBack_4 (by decide) (fun h4 => ?_) (fun h4 => ?_)
  · skip
    refine zv_aload_n C 1 dX1_stepBack_9 rfl rfl ?_
    refine zv_aload_n C 0 dX1_stepBack_10 rfl rfl ?_
    refine zG1_0 C (by decide : kd 54 = _) kX1_11 dX1_stepBack_11 ?_
    refine zv_aload_n C 0 dX1_stepBack_14 rfl rfl ?_
    refine zG1_1 C (by decide : kd 54 = _) kX1_17 dX1_stepBack_15 ?_
    refine zv_eqi (y := zI (n : Int)) (hn) ?_
    refine zv_sald (j := n) C (by decide : kd 55 = _) (zI_ix rfl) (Nat.lt_of_lt_of_eq hn2 (by decide)) dX1_stepBack_18 ?_
    refine zv_cvvD (st := []) C (c_X6_copyFrom hfl E σ b (76 + 20 * n) hb (kd_ring _ hn2) (by omega)) mX6_copyFrom kX1_33 hb rfl rfl rfl ⟨rfl, rfl⟩ (show zfit (zrm 2 81) 3 (zrm 3 103) = true from rfl) (Nat.le_of_ble_eq_true rfl) dX1_stepBack_19 ⟨Nat.zero_le _, Nat.zero_le _⟩ ?_
    refine zv_aload_n C 0 dX1_stepBack_22 rfl rfl ?_
    refine zv_aload_n C 0 dX1_stepBack_23 rfl rfl ?_
    refine zG1_1 C (by decide : kd 54 = _) kX1_17 dX1_stepBack_24 ?_
    refine zv_eqi (y := (zI (n : Int))) (by rw [gI_cpS, if_neg (fun h => h54 ⟨h.1, h.2.1⟩)]; exact hn) ?_
    refine zv_bipush (v := zI 12) C dX1_stepBack_27 (by decide) ?_
    refine zv_iaddZ C dX1_stepBack_29 ?_
    refine zv_iconst (v := zI 1) C dX1_stepBack_30 rfl ?_
    refine zv_isubZ C dX1_stepBack_31 ?_
    refine zv_bipush (v := zI 12) C dX1_stepBack_32 (by decide) ?_
    refine zv_iremP C (by omega) (by omega) dX1_stepBack_34 ?_
    refine zv_eqi (y := (zI (((n + 11) % 12 : Nat) : Int))) (congrArg zI (by omega)) ?_
    refine zP1_1 C (by decide : kd 54 = _) kX1_17 dX1_stepBack_35 ?_
    refine zv_aload_n C 0 dX1_stepBack_38 rfl rfl ?_
    refine zv_dup C dX1_stepBack_39 rfl ?_
    refine zG1_2 C (by decide : kd 54 = _) kX1_21 dX1_stepBack_40 ?_
    refine zv_eqi (y := (zI (q : Int))) (by rw [gI_sI, if_neg (by omega), gI_cpS, if_neg (fun h => h54 ⟨h.1, h.2.1⟩)]; exact hm) ?_
    refine zv_iconst (v := zI 1) C dX1_stepBack_43 rfl ?_
    refine zv_isubZ C dX1_stepBack_44 ?_
    refine zP1_2 C (by decide : kd 54 = _) kX1_21 dX1_stepBack_45 ?_
    refine zv_aload_n C 0 dX1_stepBack_48 rfl rfl ?_
    refine zG1_2 C (by decide : kd 54 = _) kX1_21 dX1_stepBack_49 ?_
    refine zv_eqi (y := (zI ((q : Int) - 1))) (by rw [gI_sI, if_pos ⟨rfl, rfl⟩]) ?_
    exact zv_iret C hr rfl dX1_stepBack_52 ⟨rfl, by rw [if_neg (by omega)]; rfl⟩
  · skip
    refine zv_iconst (v := zI (-1)) C dX1_stepBack_7 rfl ?_
    exact zv_iret C hr rfl dX1_stepBack_8 ⟨congrArg zI (by omega), by rw [if_pos (by omega)]⟩
