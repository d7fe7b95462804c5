/-! the reader of the setup: what it tells, its small steps -/
def fW (σ : zS) (c b : Nat) : zS := sI (sI σ 1 3 (zI (c : Int))) 1 4 (zI (b : Int))
/-- told, if it is a fault -/
def fC (σ : zS) (c b : Nat) : zS := if c = 0 then σ else fW σ c b
theorem fC_0 (σ : zS) (b : Nat) : fC σ 0 b = σ := if_pos rfl
theorem fC_s {σ : zS} {c b : Nat} (h : c ≠ 0) : fC σ c b = fW σ c b := if_neg h
theorem gI_fW (σ : zS) (c b x y : Nat) (h : x ≠ 1 ∨ (y ≠ 3 ∧ y ≠ 4)) : gI (fW σ c b) x y = gI σ x y := by
  unfold fW
  rw [gI_sI, if_neg (by omega), gI_sI, if_neg (by omega)]
theorem gJ_fW (σ : zS) (c b x y : Nat) : gJ (fW σ c b) x y = gJ σ x y := rfl
theorem gI_fC (σ : zS) (c b x y : Nat) (h : x ≠ 1 ∨ (y ≠ 3 ∧ y ≠ 4)) : gI (fC σ c b) x y = gI σ x y := by
  unfold fC
  split
  · rfl
  · exact gI_fW σ c b x y h
theorem gJ_fC (σ : zS) (c b x y : Nat) : gJ (fC σ c b) x y = gJ σ x y := by
  unfold fC
  split <;> rfl
theorem zTk_w {σ τ : zS} {tx : Nat → Int} {n q : Nat} (h : zTk σ tx n q) (h1 : ∀ y, gI τ 2 y = gI σ 2 y) (h2 : gJ τ 2 6 = gJ σ 2 6) : zTk τ tx n q := by
  obtain ⟨a, b, c, d, e⟩ := h
  exact ⟨(h1 2).trans a, (h1 3).trans b, (h1 4).trans c, fun z => h2.trans (d z), fun z z2 => (h1 5).trans (e z z2)⟩
/-- the number's value; the fault of a number -/
def tV (tx : Nat → Int) (n q : Nat) : Nat := nu tx (tB tx n q) (tL tx n q)
def pNum (tx : Nat → Int) (n q lo hi : Nat) : Nat := if tC tx n q = 2 then (if lo ≤ tV tx n q ∧ tV tx n q ≤ hi then 0 else 2) else 1
def pNam (tx : Nat → Int) (n q : Nat) : Nat := if tNm tx n q then 0 else 1
def pKd (tx : Nat → Int) (n q : Nat) : Int := if tIs tx n q 8 then 0 else if tIs tx n q 9 then 1 else if tIs tx n q 10 then 2 else -1
theorem tV_b {tx : Nat → Int} {n q : Nat} (h : tC tx n q = 2) : tV tx n q < 10000000 := by
  obtain ⟨h1, h2⟩ := (tC_b tx n q).2.2.2.1.mp h
  have h3 := nu_b (tK_2 h1).2.2 (tL tx n q) (Nat.le_refl _)
  have h4 : 10 ^ tL tx n q ≤ 10 ^ 7 := Nat.pow_le_pow_right (by decide) h2
  unfold tV
  omega
theorem zTk_v {σ : zS} {tx : Nat → Int} {n q : Nat} (h : zTk σ tx n q) (hc : tC tx n q = 2) : gI σ 2 5 = zI (tV tx n q : Int) := by
  obtain ⟨h1, h2⟩ := (tC_b tx n q).2.2.2.1.mp hc
  exact h.2.2.2.2 h1 h2
set_option maxRecDepth 20000 in
theorem c_X5_fail {l : Launch} (hfl : l.stackTraces = false) (E : zE) (σ : zS) (a b : Nat) (hb : gI σ 2 3 = zI (b : Int)) : zRi l E yX5_fail cX5_fail 2 .boolean (zrm 0 0) [.ref (ob E 1), .int (zI (a : Int))] σ (fun r τ => r = zI 0 ∧ τ = fW σ a b) := by
  refine Met.ofW (cc := cX5_fail) (maxL := 2) (ret := (some .boolean)) (by decide +kernel) rfl ?_
  intro p e s m args below meth c s₁ B hml hv
  obtain ⟨rfl, hd⟩ := hv
  have C := zX_of (own := RX5) hfl B hml rfl hd rfl
  have hr := B.returns
  refine zV_go hd (Nat.le_of_ble_eq_true rfl) (lv := [(0, .ref (ob E 1)), (1, .int (zI (a : Int)))]) rfl ?_
  refine zv_aload_n C 0 dX5_fail_0 rfl rfl ?_
  refine zv_iload_n C 1 dX5_fail_1 rfl rfl ?_
  refine zP5_3 C (by decide : kd 1 = _) kX5_32 dX5_fail_2 ?_
  refine zv_aload_n C 0 dX5_fail_5 rfl rfl ?_
  refine zv_aload_n C 0 dX5_fail_6 rfl rfl ?_
  refine zG5_0 C (by decide : kd 1 = _) kX5_12 dX5_fail_7 ?_
  refine zG7_3 C (by decide : kd 2 = _) kX5_66 dX5_fail_10 ?_
  refine zv_eqi (y := (zI (b : Int))) (by rw [gI_sI, if_neg (by omega)]; exact hb) ?_
  refine zP5_4 C (by decide : kd 1 = _) kX5_36 dX5_fail_13 ?_
  refine zv_iconst (v := zI 0) C dX5_fail_16 rfl ?_
  exact zv_iret C hr rfl dX5_fail_17 ⟨rfl, rfl⟩
set_option maxRecDepth 20000 in
theorem c_X5_nameStands {l : Launch} (hfl : l.stackTraces = false) (E : zE) (σ : zS) (tx : Nat → Int) (n q : Nat) (hT : zTk σ tx n q) : zRi l E yX5_nameStands cX5_nameStands 1 .boolean (zrm 2 42) [.ref (ob E 1)] σ (fun r τ => r = zB (pNam tx n q = 0) ∧ τ = fC σ (pNam tx n q) (tB tx n q)) := by
  refine Met.ofW (cc := cX5_nameStands) (maxL := 1) (ret := (some .boolean)) (by decide +kernel) rfl ?_
  intro p e s m args below meth c s₁ B hml hv
  obtain ⟨rfl, hd⟩ := hv
  have C := zX_of (own := RX5) hfl B hml rfl hd rfl
  have hr := B.returns
  refine zV_go hd (Nat.le_of_ble_eq_true rfl) (lv := [(0, .ref (ob E 1))]) rfl ?_
  refine zv_aload_n C 0 dX5_nameStands_0 rfl rfl ?_
  refine zG5_0 C (by decide : kd 1 = _) kX5_12 dX5_nameStands_1 ?_
  refine zv_cviD (st := []) C (c_X7_isName hfl E σ tx n q hT) mX7_isName kX5_116 (by decide : kd 2 = 7) rfl rfl rfl ⟨rfl, rfl⟩ (show zfit (zrm 1 22) 1 (zrm 2 42) = true from rfl) (Nat.le_of_ble_eq_true rfl) dX5_nameStands_4 ⟨Nat.zero_le _, Nat.zero_le _⟩ ?_
  refine zv_if_neB (tgt := 18) C dX5_nameStands_7 (by decide) (fun h7 => ?_) (fun h7 => ?_)
  · skip
    have hp : pNam tx n q = 0 := if_pos h7
    refine zv_iconst (v := zI 1) C dX5_nameStands_18 rfl ?_
    refine zv_goto (tgt := 23) C dX5_nameStands_19 (by decide) ?_
    exact zv_iret C hr rfl dX5_nameStands_23 ⟨by rw [hp]; decide, by rw [hp]; rfl⟩
  · skip
    have hp : pNam tx n q = 1 := if_neg h7
    refine zv_aload_n C 0 dX5_nameStands_10 rfl rfl ?_
    refine zv_iconst (v := zI 1) C dX5_nameStands_11 rfl ?_
    refine zv_cviD (st := []) C (c_X5_fail hfl E σ 1 (tB tx n q) hT.2.1) mX5_fail kX5_106 (by decide : kd 1 = 5) rfl rfl rfl ⟨rfl, rfl⟩ (show zfit (zrm 0 0) 2 (zrm 2 42) = true from rfl) (Nat.le_of_ble_eq_true rfl) dX5_nameStands_12 ⟨Nat.zero_le _, Nat.zero_le _⟩ ?_
    refine zv_if_eqZ (tgt := 22) C (by omega) dX5_nameStands_15 (by decide) (fun h15 => ?_) (fun h15 => absurd h15 (by decide))
    refine zv_iconst (v := zI 0) C dX5_nameStands_22 rfl ?_
    exact zv_iret C hr rfl dX5_nameStands_23 ⟨by rw [hp]; decide, by rw [hp]; rfl⟩
set_option maxRecDepth 20000 in
theorem c_X5_kindOfPart {l : Launch} (hfl : l.stackTraces = false) (E : zE) (σ : zS) (tx : Nat → Int) (n q : Nat) (hT : zTk σ tx n q) : zRi l E yX5_kindOfPart cX5_kindOfPart 1 .int (zrm 1 21) [.ref (ob E 1)] σ (fun r τ => r = zI (pKd tx n q) ∧ τ = σ) := by
  refine Met.ofW (cc := cX5_kindOfPart) (maxL := 1) (ret := (some .int)) (by decide +kernel) rfl ?_
  intro p e s m args below meth c s₁ B hml hv
  obtain ⟨rfl, hd⟩ := hv
  have C := zX_of (own := RX5) hfl B hml rfl hd rfl
  have hr := B.returns
  refine zV_go hd (Nat.le_of_ble_eq_true rfl) (lv := [(0, .ref (ob E 1))]) rfl ?_
  refine zv_aload_n C 0 dX5_kindOfPart_0 rfl rfl ?_
  refine zG5_0 C (by decide : kd 1 = _) kX5_12 dX5_kindOfPart_1 ?_
  refine zv_getW (i := 8) C (by decide) kX5_183 dX5_kindOfPart_4 ?_
  refine zv_cviD (st := []) C (c_X7_isWord hfl E σ tx n q 8 hT (by decide)) mX7_isWord kX5_75 (by decide : kd 2 = 7) rfl rfl rfl ⟨rfl, rfl⟩ (show zfit (zrm 0 0) 2 (zrm 1 21) = true from rfl) (Nat.le_of_ble_eq_true rfl) dX5_kindOfPart_7 ⟨Nat.zero_le _, Nat.zero_le _⟩ ?_
  refine zv_if_eqB (tgt := 15) C dX5_kindOfPart_10 (by decide) (fun h10 => ?_) (fun h10 => ?_)
  · skip
    refine zv_aload_n C 0 dX5_kindOfPart_15 rfl rfl ?_
    refine zG5_0 C (by decide : kd 1 = _) kX5_12 dX5_kindOfPart_16 ?_
    refine zv_getW (i := 9) C (by decide) kX5_186 dX5_kindOfPart_19 ?_
    refine zv_cviD (st := []) C (c_X7_isWord hfl E σ tx n q 9 hT (by decide)) mX7_isWord kX5_75 (by decide : kd 2 = 7) rfl rfl rfl ⟨rfl, rfl⟩ (show zfit (zrm 0 0) 2 (zrm 1 21) = true from rfl) (Nat.le_of_ble_eq_true rfl) dX5_kindOfPart_22 ⟨Nat.zero_le _, Nat.zero_le _⟩ ?_
    refine zv_if_eqB (tgt := 30) C dX5_kindOfPart_25 (by decide) (fun h25 => ?_) (fun h25 => ?_)
    · skip
      refine zv_aload_n C 0 dX5_kindOfPart_30 rfl rfl ?_
      refine zG5_0 C (by decide : kd 1 = _) kX5_12 dX5_kindOfPart_31 ?_
      refine zv_getW (i := 10) C (by decide) kX5_189 dX5_kindOfPart_34 ?_
      refine zv_cviD (st := []) C (c_X7_isWord hfl E σ tx n q 10 hT (by decide)) mX7_isWord kX5_75 (by decide : kd 2 = 7) rfl rfl rfl ⟨rfl, rfl⟩ (show zfit (zrm 0 0) 2 (zrm 1 21) = true from rfl) (Nat.le_of_ble_eq_true rfl) dX5_kindOfPart_37 ⟨Nat.zero_le _, Nat.zero_le _⟩ ?_
      refine zv_if_eqB (tgt := 47) C dX5_kindOfPart_40 (by decide) (fun h40 => ?_) (fun h40 => ?_)
      · skip
        refine zv_iconst (v := zI (-1)) C dX5_kindOfPart_47 rfl ?_
        exact zv_iret C hr rfl dX5_kindOfPart_48 ⟨by first | rw [pKd, if_neg h10, if_neg h25, if_pos h40] | rw [pKd, if_neg h10, if_neg h25, if_neg h40], rfl⟩
      · skip
        refine zv_iconst (v := zI 2) C dX5_kindOfPart_43 rfl ?_
        refine zv_goto (tgt := 48) C dX5_kindOfPart_44 (by decide) ?_
        exact zv_iret C hr rfl dX5_kindOfPart_48 ⟨by first | rw [pKd, if_neg h10, if_neg h25, if_pos h40] | rw [pKd, if_neg h10, if_neg h25, if_neg h40], rfl⟩
    · skip
      refine zv_iconst (v := zI 1) C dX5_kindOfPart_28 rfl ?_
      exact zv_iret C hr rfl dX5_kindOfPart_29 ⟨by rw [pKd, if_neg h10, if_pos h25], rfl⟩
  · skip
    refine zv_iconst (v := zI 0) C dX5_kindOfPart_13 rfl ?_
    exact zv_iret C hr rfl dX5_kindOfPart_14 ⟨by rw [pKd, if_pos h10], rfl⟩
set_option maxRecDepth 20000 in
theorem c_X5_numberStands {l : Launch} (hfl : l.stackTraces = false) (E : zE) (σ : zS) (tx : Nat → Int) (n q : Nat) (lo hi : Nat) (hT : zTk σ tx n q) (hlo : lo ≤ 10000000) (hhi : hi ≤ 10000000) : zRi l E yX5_numberStands cX5_numberStands 3 .boolean (zrm 1 21) [.ref (ob E 1), .int (zI (lo : Int)), .int (zI (hi : Int))] σ (fun r τ => r = zB (pNum tx n q lo hi = 0) ∧ τ = fC σ (pNum tx n q lo hi) (tB tx n q)) := by
  refine Met.ofW (cc := cX5_numberStands) (maxL := 3) (ret := (some .boolean)) (by decide +kernel) rfl ?_
  intro p e s m args below meth c s₁ B hml hv
  obtain ⟨rfl, hd⟩ := hv
  have C := zX_of (own := RX5) hfl B hml rfl hd rfl
  have hr := B.returns
  refine zV_go hd (Nat.le_of_ble_eq_true rfl) (lv := [(0, .ref (ob E 1)), (1, .int (zI (lo : Int))), (2, .int (zI (hi : Int)))]) rfl ?_
  have hc := tC_b tx n q
  have hkc := zTk_c hT
  refine zv_aload_n C 0 dX5_numberStands_0 rfl rfl ?_
  refine zG5_0 C (by decide : kd 1 = _) kX5_12 dX5_numberStands_1 ?_
  refine zG7_2 C (by decide : kd 2 = _) kX5_56 dX5_numberStands_4 ?_
  refine zv_eqi (y := (zI (tC tx n q : Int))) (hkc) ?_
  refine zv_iconst (v := zI 2) C dX5_numberStands_7 rfl ?_
  refine zv_icmp_eqZ (tgt := 17) C (by omega) (by omega) dX5_numberStands_8 (by decide) (fun h8 => ?_) (fun h8 => ?_)
  · skip
    have hc2 : tC tx n q = 2 := by omega
    have htv := tV_b hc2
    refine zv_aload_n C 0 dX5_numberStands_17 rfl rfl ?_
    refine zG5_0 C (by decide : kd 1 = _) kX5_12 dX5_numberStands_18 ?_
    refine zG7_5 C (by decide : kd 2 = _) kX5_113 dX5_numberStands_21 ?_
    refine zv_eqi (y := (zI (tV tx n q : Int))) (zTk_v hT hc2) ?_
    refine zv_iload_n C 1 dX5_numberStands_24 rfl rfl ?_
    refine zv_icmp_ltZ (tgt := 39) C (by omega) (by omega) dX5_numberStands_25 (by decide) (fun h25 => ?_) (fun h25 => ?_)
    · skip
      have hp : pNum tx n q lo hi = 2 := by rw [pNum, if_pos hc2, if_neg (by omega)]
      refine zv_aload_n C 0 dX5_numberStands_39 rfl rfl ?_
      refine zv_iconst (v := zI 2) C dX5_numberStands_40 rfl ?_
      refine zv_cviD (st := []) C (c_X5_fail hfl E σ 2 (tB tx n q) hT.2.1) mX5_fail kX5_106 (by decide : kd 1 = 5) rfl rfl rfl ⟨rfl, rfl⟩ (show zfit (zrm 0 0) 2 (zrm 1 21) = true from rfl) (Nat.le_of_ble_eq_true rfl) dX5_numberStands_41 ⟨Nat.zero_le _, Nat.zero_le _⟩ ?_
      refine zv_if_eqZ (tgt := 51) C (by omega) dX5_numberStands_44 (by decide) (fun h44 => ?_) (fun h44 => absurd h44 (by decide))
      refine zv_iconst (v := zI 0) C dX5_numberStands_51 rfl ?_
      exact zv_iret C hr rfl dX5_numberStands_52 ⟨by rw [hp]; decide, by rw [hp]; rfl⟩
    · skip
      refine zv_aload_n C 0 dX5_numberStands_28 rfl rfl ?_
      refine zG5_0 C (by decide : kd 1 = _) kX5_12 dX5_numberStands_29 ?_
      refine zG7_5 C (by decide : kd 2 = _) kX5_113 dX5_numberStands_32 ?_
      refine zv_eqi (y := (zI (tV tx n q : Int))) (zTk_v hT hc2) ?_
      refine zv_iload_n C 2 dX5_numberStands_35 rfl rfl ?_
      refine zv_icmp_leZ (tgt := 47) C (by omega) (by omega) dX5_numberStands_36 (by decide) (fun h36 => ?_) (fun h36 => ?_)
      · skip
        have hp : pNum tx n q lo hi = 0 := by rw [pNum, if_pos hc2, if_pos (by omega)]
        refine zv_iconst (v := zI 1) C dX5_numberStands_47 rfl ?_
        refine zv_goto (tgt := 52) C dX5_numberStands_48 (by decide) ?_
        exact zv_iret C hr rfl dX5_numberStands_52 ⟨by rw [hp]; decide, by rw [hp]; rfl⟩
      · skip
        have hp : pNum tx n q lo hi = 2 := by rw [pNum, if_pos hc2, if_neg (by omega)]
        refine zv_aload_n C 0 dX5_numberStands_39 rfl rfl ?_
        refine zv_iconst (v := zI 2) C dX5_numberStands_40 rfl ?_
        refine zv_cviD (st := []) C (c_X5_fail hfl E σ 2 (tB tx n q) hT.2.1) mX5_fail kX5_106 (by decide : kd 1 = 5) rfl rfl rfl ⟨rfl, rfl⟩ (show zfit (zrm 0 0) 2 (zrm 1 21) = true from rfl) (Nat.le_of_ble_eq_true rfl) dX5_numberStands_41 ⟨Nat.zero_le _, Nat.zero_le _⟩ ?_
        refine zv_if_eqZ (tgt := 51) C (by omega) dX5_numberStands_44 (by decide) (fun h44 => ?_) (fun h44 => absurd h44 (by decide))
        refine zv_iconst (v := zI 0) C dX5_numberStands_51 rfl ?_
        exact zv_iret C hr rfl dX5_numberStands_52 ⟨by rw [hp]; decide, by rw [hp]; rfl⟩
  · skip
    have hp : pNum tx n q lo hi = 1 := if_neg (by omega)
    refine zv_aload_n C 0 dX5_numberStands_11 rfl rfl ?_
    refine zv_iconst (v := zI 1) C dX5_numberStands_12 rfl ?_
    refine zv_cviD (st := []) C (c_X5_fail hfl E σ 1 (tB tx n q) hT.2.1) mX5_fail kX5_106 (by decide : kd 1 = 5) rfl rfl rfl ⟨rfl, rfl⟩ (show zfit (zrm 0 0) 2 (zrm 1 21) = true from rfl) (Nat.le_of_ble_eq_true rfl) dX5_numberStands_13 ⟨Nat.zero_le _, Nat.zero_le _⟩ ?_
    exact zv_iret C hr rfl dX5_numberStands_16 ⟨by rw [hp]; decide, by rw [hp]; rfl⟩
