theorem gI_cpT_o (σ : zS) (a b x j : Nat) (h : x ≠ a ∧ x ≠ a + 1) : gI (cpT σ a b) x j = gI σ x j := by
  unfold cpT
  rw [gI_cpI, if_neg (by omega), gI_sI, if_neg (by omega)]
theorem zTr_cpT {σ : zS} {a b n : Nat} {c : Nat → Nat → Nat} (h : zTr σ b n c) (hab : a ≠ b ∧ a + 1 ≠ b ∧ a ≠ b + 1) : zTr (cpT σ a b) a n c := by
  obtain ⟨h1, h2, h3, h4⟩ := h
  refine ⟨?_, h2, fun i w hi hw => ?_, h4⟩
  · unfold cpT
    rw [gI_cpI, if_neg (by omega), gI_sI, if_pos ⟨rfl, rfl⟩]; exact h1
  · unfold cpT
    rw [gI_cpI, if_pos ⟨rfl, by omega⟩, gI_sI, if_neg (by omega)]; exact h3 i w hi hw
theorem zFr_cpT {lo hi : Nat} {σ τ : zS} {a b : Nat} (h : zFr lo hi σ τ) (ha : lo ≤ a ∧ a + 1 < hi) : zFr lo hi σ (cpT τ a b) :=
  zFr_trans h (zFr_of (fun x y hx => gI_cpT_o _ _ _ _ _ (by omega)) rfl)
theorem zCP_chg2 {σ τ : zS} {D : zDv} {S : zST} {n q : Nat} (h : zCP (hRem σ 34 n q) D) (hS : zSTp τ 34 S) (hq : zSTq S) (e : ∀ x y, x < 34 ∨ 54 ≤ x → x < 318 → gI τ x y = gI (hRem σ 34 n q) x y ∧ gJ τ x y = gJ (hRem σ 34 n q) x y) (e2 : zFr 0 327 (hRem σ 34 n q) τ) : zCP τ (D.sS S) ∧ zFr 0 327 σ τ :=
  ⟨zCP_S h hS hq e, zFr_trans (zFr_mono (zFr_hRem σ n q) (by decide) (by decide)) e2⟩
theorem kd_KI : ∀ i, i < 8 → kd (34 + 4 + 2 * i) = 8 := by decide +kernel
def zST.cpt (S : zST) (i o : Nat) : zST := (S.sT o (S.tn i) (S.tr i)).fre o
set_option maxRecDepth 20000 in
theorem c_X10_copyTrain {l : Launch} (hfl : l.stackTraces = false) (E : zE) (σ : zS) (ni : Nat) (tx : Nat → Int) (ec : Nat) (eo : Int) (U : zSU) (S : zST) (hh : List zST) (kp : Option zST) (ou : List Nat) (i o : Nat) (h : zCP σ (zDv.mk ni tx ec eo U S hh kp ou)) (hi : i < U.nb) (ho : o < U.nb) (hio : i ≠ o) : zRi l E yX10_copyTrain cX10_copyTrain 3 .int (zrm 4 124) [.ref (ob E 0), .int (zI (i : Int)), .int (zI (o : Int))] σ (fun r τ => r = zI (S.tn i : Int) ∧ zCP τ ((zDv.mk ni tx ec eo U S hh kp ou).re.sS (S.cpt i o)) ∧ zFr 0 327 σ τ) := by
  refine Met.ofW (cc := cX10_copyTrain) (maxL := 3) (ret := (some .int)) (by decide +kernel) rfl ?_
  intro p e s m args below meth c s₁ B hml hv
  obtain ⟨rfl, hd⟩ := hv
  have C := zX_of (own := RX10) hfl B hml rfl hd rfl
  have hr := B.returns
  refine zV_go hd (Nat.le_of_ble_eq_true rfl) (lv := [(0, .ref (ob E 0)), (1, .int (zI (i : Int))), (2, .int (zI (o : Int)))]) rfl ?_
  obtain ⟨q, hq12, hq1, hq2, hq3, hq4⟩ := h.2.2.2.2.1
  have hq2 : gI σ 54 2 = zI (hh.length : Int) := hq2
  have hq3 : hh.length ≤ 12 := hq3
  have hU : zSUp σ 29 U := h.2.2.1
  have hS : zSTp σ 34 S := h.2.2.2.1.1
  have hq9 : zSTq S := h.2.2.2.1.2
  have hRe : zCP (hRem σ 34 q hh.length) (zDv.mk ni tx ec eo U S hh kp ou).re := zCP_re h hq12 hq1 hq3 hq4
  have hSR : zSTp (hRem σ 34 q hh.length) 34 S := hRe.2.2.2.1.1
  have hnb : U.nb ≤ 8 := hU.2.2.1
  have hs0 := hU.2.2.2.1
  have hi8 : i < 8 := by omega
  have hki : kd (34 + 4 + 2 * i) = 8 := ((zst (show kd 34 = 6 by decide)).2.2.2 i hi8).1
  have hT := (hS.2.2.2.2.2.2 i hi8).1
  have hTw := (hS.2.2.2.2.2.2 i hi8).2
  have hTR := (hSR.2.2.2.2.2.2 i hi8).1
  have ht4 := hT.2.1
  have ho8 : o < 8 := by omega
  have hko := kd_KI o ho8
  have hTo := (hSR.2.2.2.2.2.2 o ho8).1
  have hTow := (hS.2.2.2.2.2.2 o ho8).2
  
  refine zv_aload_n C 0 dX10_copyTrain_0 rfl rfl ?_
  refine zv_iload_n C 1 dX10_copyTrain_1 rfl rfl ?_
  refine zv_iload_n C 2 dX10_copyTrain_2 rfl rfl ?_
  refine zv_cvvD (st := []) C (c_X10_needTwoBodies hfl E σ U (i : Int) (o : Int) hU (by omega) (by omega) (by omega) (by omega) (by omega)) mX10_needTwoBodies kX10_353 (by decide : kd 0 = 9) rfl rfl rfl ⟨rfl, rfl⟩ (show zfit (zrm 1 21) 3 (zrm 4 124) = true from rfl) (Nat.le_of_ble_eq_true rfl) dX10_copyTrain_3 ⟨Nat.zero_le _, Nat.zero_le _⟩ ?_
  refine zv_aload_n C 0 dX10_copyTrain_6 rfl rfl ?_
  refine zG9_3 C (by decide : kd 0 = _) kX10_33 dX10_copyTrain_7 ?_
  refine zv_aload_n C 0 dX10_copyTrain_10 rfl rfl ?_
  refine zG9_2 C (by decide : kd 0 = _) kX10_26 dX10_copyTrain_11 ?_
  refine zv_cvvD (st := []) C (c_X1_remember hfl E σ 34 q hh.length (by decide) (by decide) hq1 hq12 hq2 hq3) mX1_remember kX10_304 (by decide : kd 54 = 1) rfl rfl rfl ⟨rfl, rfl⟩ (show zfit (zrm 3 103) 2 (zrm 4 124) = true from rfl) (Nat.le_of_ble_eq_true rfl) dX10_copyTrain_14 ⟨Nat.zero_le _, Nat.zero_le _⟩ ?_
  refine zv_aload_n C 0 dX10_copyTrain_17 rfl rfl ?_
  refine zG9_2 C (by decide : kd 0 = _) kX10_26 dX10_copyTrain_18 ?_
  refine zG6_5 C (by decide : kd 34 = _) kX10_154 dX10_copyTrain_21 ?_
  refine zv_iload_n C 2 dX10_copyTrain_24 rfl rfl ?_
  refine zv_tald (j := o) C (by decide : kd 37 = _) (zI_ix (by omega)) (Nat.lt_of_lt_of_eq (show o < 8 by omega) (by decide)) dX10_copyTrain_25 ?_
  refine zv_aload_n C 0 dX10_copyTrain_26 rfl rfl ?_
  refine zG9_2 C (by decide : kd 0 = _) kX10_26 dX10_copyTrain_27 ?_
  refine zG6_5 C (by decide : kd 34 = _) kX10_154 dX10_copyTrain_30 ?_
  refine zv_iload_n C 1 dX10_copyTrain_33 rfl rfl ?_
  refine zv_tald (j := i) C (by decide : kd 37 = _) (zI_ix (by omega)) (Nat.lt_of_lt_of_eq (show i < 8 by omega) (by decide)) dX10_copyTrain_34 ?_
  refine zv_cvvD (st := []) C (c_X8_copyFrom hfl E (hRem σ 34 q hh.length) (34 + 4 + 2 * o) (34 + 4 + 2 * i) hko hki) mX8_copyFrom kX10_356 hko rfl rfl rfl ⟨rfl, rfl⟩ (show zfit (zrm 1 60) 2 (zrm 4 124) = true from rfl) (Nat.le_of_ble_eq_true rfl) dX10_copyTrain_35 ⟨Nat.zero_le _, Nat.zero_le _⟩ ?_
  refine zv_aload_n C 0 dX10_copyTrain_38 rfl rfl ?_
  refine zG9_2 C (by decide : kd 0 = _) kX10_26 dX10_copyTrain_39 ?_
  refine zG6_4 C (by decide : kd 34 = _) kX10_310 dX10_copyTrain_42 ?_
  refine zv_iload_n C 2 dX10_copyTrain_45 rfl rfl ?_
  refine zv_iconst (v := zI 0) C dX10_copyTrain_46 rfl ?_
  refine zv_iast (j := o) C (by decide : kd 36 = _) (zI_ix (by omega)) (Nat.lt_of_lt_of_eq (show o < 8 by omega) (by decide)) dX10_copyTrain_47 ?_
  refine zv_aload_n C 0 dX10_copyTrain_48 rfl rfl ?_
  refine zG9_2 C (by decide : kd 0 = _) kX10_26 dX10_copyTrain_49 ?_
  refine zG6_5 C (by decide : kd 34 = _) kX10_154 dX10_copyTrain_52 ?_
  refine zv_iload_n C 2 dX10_copyTrain_55 rfl rfl ?_
  refine zv_tald (j := o) C (by decide : kd 37 = _) (zI_ix (by omega)) (Nat.lt_of_lt_of_eq (show o < 8 by omega) (by decide)) dX10_copyTrain_56 ?_
  refine zG8_1 C hko kX10_158 dX10_copyTrain_57 ?_
  refine zv_eqi (y := (zI (S.tn i : Int))) (by rw [gI_sI, if_neg (by omega)]; exact (zTr_cpT hTR (by omega)).1) ?_
  exact zv_iret C hr rfl dX10_copyTrain_60 ⟨rfl, zCP_chg hRe (zSTp_fre (zSTp_sT hSR (zTr_cpT hTR (by omega)) hTw (fun x y _ _ z1 z2 => gI_cpT_o _ _ _ _ _ (by omega)))) (zSTq_fre (zSTq_e hq9 rfl rfl) o) (zFr_I (zFr_cpT (zFr_refl _ _ _) (by omega)) (by omega))⟩
set_option maxRecDepth 20000 in
theorem x1_X10_copyTrain {l : Launch} (hfl : l.stackTraces = false) (E : zE) (σ : zS) (U : zSU) (y z : Int) (hU : zSUp σ 29 U) (hyi : -2147483648 ≤ y ∧ y < 2147483648) (hzi : -2147483648 ≤ z ∧ z < 2147483648) (hno : ¬ (0 ≤ y ∧ y < U.nb)) : zRx l E yX10_copyTrain cX10_copyTrain 3 (some .int) (zrx 9 200) [.ref (ob E 0), .int (zI y), .int (zI z)] σ "java/lang/IndexOutOfBoundsException" := by
  refine vx_ofW (cc := cX10_copyTrain) (maxL := 3) (ret := (some .int)) (by decide) rfl ?_
  intro p e s m args below meth c s₁ B hml hout hv
  obtain ⟨rfl, hd⟩ := hv
  have C := zX_of (own := RX10) hfl B hml rfl hd rfl
  have hr := B.returns
  refine zV_go hd (Nat.le_of_ble_eq_true rfl) (lv := [(0, .ref (ob E 0)), (1, .int (zI y)), (2, .int (zI z))]) rfl ?_
  have hnb : U.nb ≤ 8 := hU.2.2.1
  have hs0 := hU.2.2.2.1
  
  refine zv_aload_n C 0 dX10_copyTrain_0 rfl rfl ?_
  refine zv_iload_n C 1 dX10_copyTrain_1 rfl rfl ?_
  refine zv_iload_n C 2 dX10_copyTrain_2 rfl rfl ?_
  exact zv_xcv (st := []) C (x1_X10_needTwoBodies hfl E σ U y z hU hyi hzi hno) hout mX10_needTwoBodies kX10_353 (by decide : kd 0 = 9) rfl rfl rfl ⟨rfl, rfl⟩ (show zfit (zrx 8 170) 3 (zrx 9 200) = true from rfl) (Nat.le_of_ble_eq_true rfl) dX10_copyTrain_3
set_option maxRecDepth 20000 in
theorem x2_X10_copyTrain {l : Launch} (hfl : l.stackTraces = false) (E : zE) (σ : zS) (U : zSU) (y z : Int) (hU : zSUp σ 29 U) (hyi : -2147483648 ≤ y ∧ y < 2147483648) (hzi : -2147483648 ≤ z ∧ z < 2147483648) (hy : 0 ≤ y ∧ y < U.nb) (hno : ¬ (0 ≤ z ∧ z < U.nb)) : zRx l E yX10_copyTrain cX10_copyTrain 3 (some .int) (zrx 9 200) [.ref (ob E 0), .int (zI y), .int (zI z)] σ "java/lang/IndexOutOfBoundsException" := by
  refine vx_ofW (cc := cX10_copyTrain) (maxL := 3) (ret := (some .int)) (by decide) rfl ?_
  intro p e s m args below meth c s₁ B hml hout hv
  obtain ⟨rfl, hd⟩ := hv
  have C := zX_of (own := RX10) hfl B hml rfl hd rfl
  have hr := B.returns
  refine zV_go hd (Nat.le_of_ble_eq_true rfl) (lv := [(0, .ref (ob E 0)), (1, .int (zI y)), (2, .int (zI z))]) rfl ?_
  have hnb : U.nb ≤ 8 := hU.2.2.1
  have hs0 := hU.2.2.2.1
  
  refine zv_aload_n C 0 dX10_copyTrain_0 rfl rfl ?_
  refine zv_iload_n C 1 dX10_copyTrain_1 rfl rfl ?_
  refine zv_iload_n C 2 dX10_copyTrain_2 rfl rfl ?_
  exact zv_xcv (st := []) C (x2_X10_needTwoBodies hfl E σ U y z hU hyi hzi hy hno) hout mX10_needTwoBodies kX10_353 (by decide : kd 0 = 9) rfl rfl rfl ⟨rfl, rfl⟩ (show zfit (zrx 8 170) 3 (zrx 9 200) = true from rfl) (Nat.le_of_ble_eq_true rfl) dX10_copyTrain_3
set_option maxRecDepth 20000 in
theorem x3_X10_copyTrain {l : Launch} (hfl : l.stackTraces = false) (E : zE) (σ : zS) (U : zSU) (y : Int) (hU : zSUp σ 29 U) (hyi : -2147483648 ≤ y ∧ y < 2147483648) (hy : 0 ≤ y ∧ y < U.nb) : zRx l E yX10_copyTrain cX10_copyTrain 3 (some .int) (zrx 9 200) [.ref (ob E 0), .int (zI y), .int (zI y)] σ "java/lang/IllegalArgumentException" := by
  refine vx_ofW (cc := cX10_copyTrain) (maxL := 3) (ret := (some .int)) (by decide) rfl ?_
  intro p e s m args below meth c s₁ B hml hout hv
  obtain ⟨rfl, hd⟩ := hv
  have C := zX_of (own := RX10) hfl B hml rfl hd rfl
  have hr := B.returns
  refine zV_go hd (Nat.le_of_ble_eq_true rfl) (lv := [(0, .ref (ob E 0)), (1, .int (zI y)), (2, .int (zI y))]) rfl ?_
  have hnb : U.nb ≤ 8 := hU.2.2.1
  have hs0 := hU.2.2.2.1
  
  refine zv_aload_n C 0 dX10_copyTrain_0 rfl rfl ?_
  refine zv_iload_n C 1 dX10_copyTrain_1 rfl rfl ?_
  refine zv_iload_n C 2 dX10_copyTrain_2 rfl rfl ?_
  exact zv_xcv (st := []) C (x3_X10_needTwoBodies hfl E σ U y y hU hyi hyi hy hy rfl) hout mX10_needTwoBodies kX10_353 (by decide : kd 0 = 9) rfl rfl rfl ⟨rfl, rfl⟩ (show zfit (zrx 8 170) 3 (zrx 9 200) = true from rfl) (Nat.le_of_ble_eq_true rfl) dX10_copyTrain_3
def zST.swp (S : zST) (i o : Nat) : zST := ((((S.sT i (S.tn o) (S.tr o)).sT o (S.tn i) (S.tr i)).fre i).fre o)
set_option maxRecDepth 20000 in
theorem c_X10_swapTrains {l : Launch} (hfl : l.stackTraces = false) (E : zE) (σ : zS) (ni : Nat) (tx : Nat → Int) (ec : Nat) (eo : Int) (U : zSU) (S : zST) (hh : List zST) (kp : Option zST) (ou : List Nat) (i o : Nat) (h : zCP σ (zDv.mk ni tx ec eo U S hh kp ou)) (hi : i < U.nb) (ho : o < U.nb) (hio : i ≠ o) : zRi l E yX10_swapTrains cX10_swapTrains 3 .int (zrm 4 124) [.ref (ob E 0), .int (zI (i : Int)), .int (zI (o : Int))] σ (fun r τ => r = zI (S.tn o : Int) ∧ zCP τ ((zDv.mk ni tx ec eo U S hh kp ou).re.sS (S.swp i o)) ∧ zFr 0 327 σ τ) := by
  refine Met.ofW (cc := cX10_swapTrains) (maxL := 3) (ret := (some .int)) (by decide +kernel) rfl ?_
  intro p e s m args below meth c s₁ B hml hv
  obtain ⟨rfl, hd⟩ := hv
  have C := zX_of (own := RX10) hfl B hml rfl hd rfl
  have hr := B.returns
  refine zV_go hd (Nat.le_of_ble_eq_true rfl) (lv := [(0, .ref (ob E 0)), (1, .int (zI (i : Int))), (2, .int (zI (o : Int)))]) rfl ?_
  obtain ⟨q, hq12, hq1, hq2, hq3, hq4⟩ := h.2.2.2.2.1
  have hq2 : gI σ 54 2 = zI (hh.length : Int) := hq2
  have hq3 : hh.length ≤ 12 := hq3
  have hU : zSUp σ 29 U := h.2.2.1
  have hS : zSTp σ 34 S := h.2.2.2.1.1
  have hq9 : zSTq S := h.2.2.2.1.2
  have hRe : zCP (hRem σ 34 q hh.length) (zDv.mk ni tx ec eo U S hh kp ou).re := zCP_re h hq12 hq1 hq3 hq4
  have hSR : zSTp (hRem σ 34 q hh.length) 34 S := hRe.2.2.2.1.1
  have hnb : U.nb ≤ 8 := hU.2.2.1
  have hs0 := hU.2.2.2.1
  have hi8 : i < 8 := by omega
  have hki : kd (34 + 4 + 2 * i) = 8 := ((zst (show kd 34 = 6 by decide)).2.2.2 i hi8).1
  have hT := (hS.2.2.2.2.2.2 i hi8).1
  have hTw := (hS.2.2.2.2.2.2 i hi8).2
  have hTR := (hSR.2.2.2.2.2.2 i hi8).1
  have ht4 := hT.2.1
  have ho8 : o < 8 := by omega
  have hko := kd_KI o ho8
  have hTo := (hSR.2.2.2.2.2.2 o ho8).1
  have hTow := (hS.2.2.2.2.2.2 o ho8).2
  have s2 : zSTp (cpT (hRem σ 34 q hh.length) 324 (34 + 4 + 2 * i)) 34 S := zSTp_w hSR (fun x y _ _ => gI_cpT_o _ _ _ _ _ (by omega))
  have t2 : zTr (cpT (hRem σ 34 q hh.length) 324 (34 + 4 + 2 * i)) 324 (S.tn i) (S.tr i) := zTr_cpT hTR (by omega)
  have s3 : zSTp (cpT (cpT (hRem σ 34 q hh.length) 324 (34 + 4 + 2 * i)) (34 + 4 + 2 * i) (34 + 4 + 2 * o)) 34 (S.sT i (S.tn o) (S.tr o)) := zSTp_sT s2 (zTr_cpT (s2.2.2.2.2.2.2 o ho8).1 (by omega)) hTow (fun x y _ _ z1 z2 => gI_cpT_o _ _ _ _ _ (by omega))
  have t3 : zTr (cpT (cpT (hRem σ 34 q hh.length) 324 (34 + 4 + 2 * i)) (34 + 4 + 2 * i) (34 + 4 + 2 * o)) 324 (S.tn i) (S.tr i) := zTr_w t2 (fun x y _ _ => gI_cpT_o _ _ _ _ _ (by omega))
  have s4 : zSTp (cpT (cpT (cpT (hRem σ 34 q hh.length) 324 (34 + 4 + 2 * i)) (34 + 4 + 2 * i) (34 + 4 + 2 * o)) (34 + 4 + 2 * o) 324) 34 ((S.sT i (S.tn o) (S.tr o)).sT o (S.tn i) (S.tr i)) := zSTp_sT s3 (zTr_cpT t3 (by omega)) hTw (fun x y _ _ z1 z2 => gI_cpT_o _ _ _ _ _ (by omega))
  have n4 : gI (cpT (cpT (cpT (hRem σ 34 q hh.length) 324 (34 + 4 + 2 * i)) (34 + 4 + 2 * i) (34 + 4 + 2 * o)) (34 + 4 + 2 * o) 324) (34 + 4 + 2 * i) 1 = zI (S.tn o : Int) := by
    have := (s4.2.2.2.2.2.2 i hi8).1.1
    simpa [zST.sT, zST.mk, zST.tn, hio] using this
  
  refine zv_aload_n C 0 dX10_swapTrains_0 rfl rfl ?_
  refine zv_iload_n C 1 dX10_swapTrains_1 rfl rfl ?_
  refine zv_iload_n C 2 dX10_swapTrains_2 rfl rfl ?_
  refine zv_cvvD (st := []) C (c_X10_needTwoBodies hfl E σ U (i : Int) (o : Int) hU (by omega) (by omega) (by omega) (by omega) (by omega)) mX10_needTwoBodies kX10_353 (by decide : kd 0 = 9) rfl rfl rfl ⟨rfl, rfl⟩ (show zfit (zrm 1 21) 3 (zrm 4 124) = true from rfl) (Nat.le_of_ble_eq_true rfl) dX10_swapTrains_3 ⟨Nat.zero_le _, Nat.zero_le _⟩ ?_
  refine zv_aload_n C 0 dX10_swapTrains_6 rfl rfl ?_
  refine zG9_3 C (by decide : kd 0 = _) kX10_33 dX10_swapTrains_7 ?_
  refine zv_aload_n C 0 dX10_swapTrains_10 rfl rfl ?_
  refine zG9_2 C (by decide : kd 0 = _) kX10_26 dX10_swapTrains_11 ?_
  refine zv_cvvD (st := []) C (c_X1_remember hfl E σ 34 q hh.length (by decide) (by decide) hq1 hq12 hq2 hq3) mX1_remember kX10_304 (by decide : kd 54 = 1) rfl rfl rfl ⟨rfl, rfl⟩ (show zfit (zrm 3 103) 2 (zrm 4 124) = true from rfl) (Nat.le_of_ble_eq_true rfl) dX10_swapTrains_14 ⟨Nat.zero_le _, Nat.zero_le _⟩ ?_
  refine zv_aload_n C 0 dX10_swapTrains_17 rfl rfl ?_
  refine zG9_10 C (by decide : kd 0 = _) kX10_70 dX10_swapTrains_18 ?_
  refine zv_aload_n C 0 dX10_swapTrains_21 rfl rfl ?_
  refine zG9_2 C (by decide : kd 0 = _) kX10_26 dX10_swapTrains_22 ?_
  refine zG6_5 C (by decide : kd 34 = _) kX10_154 dX10_swapTrains_25 ?_
  refine zv_iload_n C 1 dX10_swapTrains_28 rfl rfl ?_
  refine zv_tald (j := i) C (by decide : kd 37 = _) (zI_ix (by omega)) (Nat.lt_of_lt_of_eq (show i < 8 by omega) (by decide)) dX10_swapTrains_29 ?_
  refine zv_cvvD (st := []) C (c_X8_copyFrom hfl E (hRem σ 34 q hh.length) 324 (34 + 4 + 2 * i) (by decide) hki) mX8_copyFrom kX10_356 (by decide : kd 324 = 8) rfl rfl rfl ⟨rfl, rfl⟩ (show zfit (zrm 1 60) 2 (zrm 4 124) = true from rfl) (Nat.le_of_ble_eq_true rfl) dX10_swapTrains_30 ⟨Nat.zero_le _, Nat.zero_le _⟩ ?_
  refine zv_aload_n C 0 dX10_swapTrains_33 rfl rfl ?_
  refine zG9_2 C (by decide : kd 0 = _) kX10_26 dX10_swapTrains_34 ?_
  refine zG6_5 C (by decide : kd 34 = _) kX10_154 dX10_swapTrains_37 ?_
  refine zv_iload_n C 1 dX10_swapTrains_40 rfl rfl ?_
  refine zv_tald (j := i) C (by decide : kd 37 = _) (zI_ix (by omega)) (Nat.lt_of_lt_of_eq (show i < 8 by omega) (by decide)) dX10_swapTrains_41 ?_
  refine zv_aload_n C 0 dX10_swapTrains_42 rfl rfl ?_
  refine zG9_2 C (by decide : kd 0 = _) kX10_26 dX10_swapTrains_43 ?_
  refine zG6_5 C (by decide : kd 34 = _) kX10_154 dX10_swapTrains_46 ?_
  refine zv_iload_n C 2 dX10_swapTrains_49 rfl rfl ?_
  refine zv_tald (j := o) C (by decide : kd 37 = _) (zI_ix (by omega)) (Nat.lt_of_lt_of_eq (show o < 8 by omega) (by decide)) dX10_swapTrains_50 ?_
  refine zv_cvvD (st := []) C (c_X8_copyFrom hfl E (cpT (hRem σ 34 q hh.length) 324 (34 + 4 + 2 * i)) (34 + 4 + 2 * i) (34 + 4 + 2 * o) hki hko) mX8_copyFrom kX10_356 hki rfl rfl rfl ⟨rfl, rfl⟩ (show zfit (zrm 1 60) 2 (zrm 4 124) = true from rfl) (Nat.le_of_ble_eq_true rfl) dX10_swapTrains_51 ⟨Nat.zero_le _, Nat.zero_le _⟩ ?_
  refine zv_aload_n C 0 dX10_swapTrains_54 rfl rfl ?_
  refine zG9_2 C (by decide : kd 0 = _) kX10_26 dX10_swapTrains_55 ?_
  refine zG6_5 C (by decide : kd 34 = _) kX10_154 dX10_swapTrains_58 ?_
  refine zv_iload_n C 2 dX10_swapTrains_61 rfl rfl ?_
  refine zv_tald (j := o) C (by decide : kd 37 = _) (zI_ix (by omega)) (Nat.lt_of_lt_of_eq (show o < 8 by omega) (by decide)) dX10_swapTrains_62 ?_
  refine zv_aload_n C 0 dX10_swapTrains_63 rfl rfl ?_
  refine zG9_10 C (by decide : kd 0 = _) kX10_70 dX10_swapTrains_64 ?_
  refine zv_cvvD (st := []) C (c_X8_copyFrom hfl E (cpT (cpT (hRem σ 34 q hh.length) 324 (34 + 4 + 2 * i)) (34 + 4 + 2 * i) (34 + 4 + 2 * o)) (34 + 4 + 2 * o) 324 hko (by decide)) mX8_copyFrom kX10_356 hko rfl rfl rfl ⟨rfl, rfl⟩ (show zfit (zrm 1 60) 2 (zrm 4 124) = true from rfl) (Nat.le_of_ble_eq_true rfl) dX10_swapTrains_67 ⟨Nat.zero_le _, Nat.zero_le _⟩ ?_
  refine zv_aload_n C 0 dX10_swapTrains_70 rfl rfl ?_
  refine zG9_2 C (by decide : kd 0 = _) kX10_26 dX10_swapTrains_71 ?_
  refine zG6_4 C (by decide : kd 34 = _) kX10_310 dX10_swapTrains_74 ?_
  refine zv_iload_n C 1 dX10_swapTrains_77 rfl rfl ?_
  refine zv_iconst (v := zI 0) C dX10_swapTrains_78 rfl ?_
  refine zv_iast (j := i) C (by decide : kd 36 = _) (zI_ix (by omega)) (Nat.lt_of_lt_of_eq (show i < 8 by omega) (by decide)) dX10_swapTrains_79 ?_
  refine zv_aload_n C 0 dX10_swapTrains_80 rfl rfl ?_
  refine zG9_2 C (by decide : kd 0 = _) kX10_26 dX10_swapTrains_81 ?_
  refine zG6_4 C (by decide : kd 34 = _) kX10_310 dX10_swapTrains_84 ?_
  refine zv_iload_n C 2 dX10_swapTrains_87 rfl rfl ?_
  refine zv_iconst (v := zI 0) C dX10_swapTrains_88 rfl ?_
  refine zv_iast (j := o) C (by decide : kd 36 = _) (zI_ix (by omega)) (Nat.lt_of_lt_of_eq (show o < 8 by omega) (by decide)) dX10_swapTrains_89 ?_
  refine zv_aload_n C 0 dX10_swapTrains_90 rfl rfl ?_
  refine zG9_2 C (by decide : kd 0 = _) kX10_26 dX10_swapTrains_91 ?_
  refine zG6_5 C (by decide : kd 34 = _) kX10_154 dX10_swapTrains_94 ?_
  refine zv_iload_n C 1 dX10_swapTrains_97 rfl rfl ?_
  refine zv_tald (j := i) C (by decide : kd 37 = _) (zI_ix (by omega)) (Nat.lt_of_lt_of_eq (show i < 8 by omega) (by decide)) dX10_swapTrains_98 ?_
  refine zG8_1 C hki kX10_158 dX10_swapTrains_99 ?_
  refine zv_eqi (y := (zI (S.tn o : Int))) (by rw [gI_sI, if_neg (by omega), gI_sI, if_neg (by omega)]; exact n4) ?_
  exact zv_iret C hr rfl dX10_swapTrains_102 ⟨rfl, zCP_chg2 hRe (zSTp_fre (zSTp_fre s4)) (zSTq_fre (zSTq_fre (zSTq_e hq9 rfl rfl) i) o) (fun x y h1 h2 => ⟨by rw [gI_sI, if_neg (by omega), gI_sI, if_neg (by omega), gI_cpT_o _ _ _ _ _ (by omega), gI_cpT_o _ _ _ _ _ (by omega), gI_cpT_o _ _ _ _ _ (by omega)], rfl⟩) (zFr_I (zFr_I (zFr_cpT (zFr_cpT (zFr_cpT (zFr_refl _ _ _) (by omega)) (by omega)) (by omega)) (by omega)) (by omega))⟩
set_option maxRecDepth 20000 in
theorem x1_X10_swapTrains {l : Launch} (hfl : l.stackTraces = false) (E : zE) (σ : zS) (U : zSU) (y z : Int) (hU : zSUp σ 29 U) (hyi : -2147483648 ≤ y ∧ y < 2147483648) (hzi : -2147483648 ≤ z ∧ z < 2147483648) (hno : ¬ (0 ≤ y ∧ y < U.nb)) : zRx l E yX10_swapTrains cX10_swapTrains 3 (some .int) (zrx 9 200) [.ref (ob E 0), .int (zI y), .int (zI z)] σ "java/lang/IndexOutOfBoundsException" := by
  refine vx_ofW (cc := cX10_swapTrains) (maxL := 3) (ret := (some .int)) (by decide) rfl ?_
  intro p e s m args below meth c s₁ B hml hout hv
  obtain ⟨rfl, hd⟩ := hv
  have C := zX_of (own := RX10) hfl B hml rfl hd rfl
  have hr := B.returns
  refine zV_go hd (Nat.le_of_ble_eq_true rfl) (lv := [(0, .ref (ob E 0)), (1, .int (zI y)), (2, .int (zI z))]) rfl ?_
  have hnb : U.nb ≤ 8 := hU.2.2.1
  have hs0 := hU.2.2.2.1
  
  refine zv_aload_n C 0 dX10_swapTrains_0 rfl rfl ?_
  refine zv_iload_n C 1 dX10_swapTrains_1 rfl rfl ?_
  refine zv_iload_n C 2 dX10_swapTrains_2 rfl rfl ?_
  exact zv_xcv (st := []) C (x1_X10_needTwoBodies hfl E σ U y z hU hyi hzi hno) hout mX10_needTwoBodies kX10_353 (by decide : kd 0 = 9) rfl rfl rfl ⟨rfl, rfl⟩ (show zfit (zrx 8 170) 3 (zrx 9 200) = true from rfl) (Nat.le_of_ble_eq_true rfl) dX10_swapTrains_3
set_option maxRecDepth 20000 in
theorem x2_X10_swapTrains {l : Launch} (hfl : l.stackTraces = false) (E : zE) (σ : zS) (U : zSU) (y z : Int) (hU : zSUp σ 29 U) (hyi : -2147483648 ≤ y ∧ y < 2147483648) (hzi : -2147483648 ≤ z ∧ z < 2147483648) (hy : 0 ≤ y ∧ y < U.nb) (hno : ¬ (0 ≤ z ∧ z < U.nb)) : zRx l E yX10_swapTrains cX10_swapTrains 3 (some .int) (zrx 9 200) [.ref (ob E 0), .int (zI y), .int (zI z)] σ "java/lang/IndexOutOfBoundsException" := by
  refine vx_ofW (cc := cX10_swapTrains) (maxL := 3) (ret := (some .int)) (by decide) rfl ?_
  intro p e s m args below meth c s₁ B hml hout hv
  obtain ⟨rfl, hd⟩ := hv
  have C := zX_of (own := RX10) hfl B hml rfl hd rfl
  have hr := B.returns
  refine zV_go hd (Nat.le_of_ble_eq_true rfl) (lv := [(0, .ref (ob E 0)), (1, .int (zI y)), (2, .int (zI z))]) rfl ?_
  have hnb : U.nb ≤ 8 := hU.2.2.1
  have hs0 := hU.2.2.2.1
  
  refine zv_aload_n C 0 dX10_swapTrains_0 rfl rfl ?_
  refine zv_iload_n C 1 dX10_swapTrains_1 rfl rfl ?_
  refine zv_iload_n C 2 dX10_swapTrains_2 rfl rfl ?_
  exact zv_xcv (st := []) C (x2_X10_needTwoBodies hfl E σ U y z hU hyi hzi hy hno) hout mX10_needTwoBodies kX10_353 (by decide : kd 0 = 9) rfl rfl rfl ⟨rfl, rfl⟩ (show zfit (zrx 8 170) 3 (zrx 9 200) = true from rfl) (Nat.le_of_ble_eq_true rfl) dX10_swapTrains_3
set_option maxRecDepth 20000 in
theorem x3_X10_swapTrains {l : Launch} (hfl : l.stackTraces = false) (E : zE) (σ : zS) (U : zSU) (y : Int) (hU : zSUp σ 29 U) (hyi : -2147483648 ≤ y ∧ y < 2147483648) (hy : 0 ≤ y ∧ y < U.nb) : zRx l E yX10_swapTrains cX10_swapTrains 3 (some .int) (zrx 9 200) [.ref (ob E 0), .int (zI y), .int (zI y)] σ "java/lang/IllegalArgumentException" := by
  refine vx_ofW (cc := cX10_swapTrains) (maxL := 3) (ret := (some .int)) (by decide) rfl ?_
  intro p e s m args below meth c s₁ B hml hout hv
  obtain ⟨rfl, hd⟩ := hv
  have C := zX_of (own := RX10) hfl B hml rfl hd rfl
  have hr := B.returns
  refine zV_go hd (Nat.le_of_ble_eq_true rfl) (lv := [(0, .ref (ob E 0)), (1, .int (zI y)), (2, .int (zI y))]) rfl ?_
  have hnb : U.nb ≤ 8 := hU.2.2.1
  have hs0 := hU.2.2.2.1
  
  refine zv_aload_n C 0 dX10_swapTrains_0 rfl rfl ?_
  refine zv_iload_n C 1 dX10_swapTrains_1 rfl rfl ?_
  refine zv_iload_n C 2 dX10_swapTrains_2 rfl rfl ?_
  exact zv_xcv (st := []) C (x3_X10_needTwoBodies hfl E σ U y y hU hyi hyi hy hy rfl) hout mX10_needTwoBodies kX10_353 (by decide : kd 0 = 9) rfl rfl rfl ⟨rfl, rfl⟩ (show zfit (zrx 8 170) 3 (zrx 9 200) = true from rfl) (Nat.le_of_ble_eq_true rfl) dX10_swapTrains_3
def gWn (g : gB) (w : Nat) : Nat := (gWh g w).toNat
def zST.bld (S : zST) (i : Nat) (g : gB) (neg : Bool) : zST := (if neg = true then (((S.sT i 0 (S.tr i)).apd i 0 (gWn g 0) (gWn g 1)).apd i 0 (gWn g 2) (gWn g 3)).apd i 2 (S.f 0) 0 else ((S.sT i 0 (S.tr i)).apd i 0 (gWn g 0) (gWn g 1)).apd i 0 (gWn g 2) (gWn g 3)).fre i
theorem gWn_in {g : gB} (h : g ≠ none) (hg : gIn g) (w : Nat) : (8 ≤ gWn g w ∧ gWn g w ≤ 100) ∧ gWh g w = (gWn g w : Int) := by
  cases g with
  | none => exact absurd rfl h
  | some x =>
    obtain ⟨ov, un, sm, a, b, a2, b2⟩ := x
    obtain ⟨h1, h2, h3, h4⟩ := hg
    unfold gWn gWh
    dsimp only
    split
    · omega
    · split
      · omega
      · split <;> omega
theorem bW_f (σ : zS) (U : zSU) (i : Nat) (g : gB) : zFr 318 327 σ (bW σ U i g) := by
  refine ⟨fun x y h => ?_, fun x y h => ?_, fun x y => ?_⟩
  · unfold bW
    rw [gI_gW _ _ _ _ (by omega), gAim_o _ _ _ _ _ (by omega)]; rfl
  · unfold bW
    rw [gJ_gW _ _ _ _ (by omega)]
    unfold gAim
    rw [gJ_sI, gJ_sJ, if_neg (by omega), gJ_sJ, if_neg (by omega), gJ_rW _ _ _ _ _ _ (by omega)]
  · unfold bW
    cases g with
    | none => rfl
    | some x => rfl
theorem gJ_bW (σ : zS) (U : zSU) (i : Nat) (g : gB) : gJ (bW σ U i g) 320 0 = zL (qTrue U i).1 := by
  unfold bW
  rw [gJ_gW _ _ _ _ (by omega)]
  unfold gAim
  rw [gJ_sI, gJ_sJ, if_neg (by omega), gJ_sJ, if_neg (by omega)]
  exact (rW_R _ _ _ _).1
theorem zSTp_emp {σ : zS} {k : Nat} {S : zST} {i : Nat} (h : zSTp σ k S) (hi : i < 8) : zSTp (sI σ (k + 4 + 2 * i) 1 (zI 0)) k (S.sT i 0 (S.tr i)) :=
  zSTp_sT h ⟨by rw [gI_sI, if_pos ⟨rfl, rfl⟩]; rfl, by omega, fun _ _ h => absurd h (by omega), fun _ _ h => absurd h (by omega)⟩ ⟨by omega, (show (0 : Nat) ≤ 2 by omega), fun _ h => absurd h (by omega)⟩ (fun x y _ _ z1 z2 => by rw [gI_sI, if_neg (by omega)])
theorem apd_tn (S : zST) (j a b d : Nat) : (S.apd j a b d).tn j = S.tn j + 1 := by
  show (if j = j then S.tn j + 1 else S.tn j) = S.tn j + 1
  rw [if_pos rfl]
theorem sT_tn (S : zST) (j n : Nat) (c : Nat → Nat → Nat) : (S.sT j n c).tn j = n := by
  show (if j = j then n else S.tn j) = n
  rw [if_pos rfl]
set_option maxRecDepth 20000 in
theorem c_X10_build {l : Launch} (hfl : l.stackTraces = false) (E : zE) (σ : zS) (ni : Nat) (tx : Nat → Int) (ec : Nat) (eo : Int) (U : zSU) (S : zST) (hh : List zST) (kp : Option zST) (ou : List Nat) (i : Nat) (h : zCP σ (zDv.mk ni tx ec eo U S hh kp ou)) (hi : i < U.nb) (hn2 : 2 ≤ S.n) : zRi l E yX10_build cX10_build 4 .int (zrm 5 143) [.ref (ob E 0), .int (zI (i : Int))] σ (fun r τ => r = zI (if (qTrue U i).1 < 0 then 3 else 2) ∧ zCP τ ((zDv.mk ni tx ec eo U S hh kp ou).re.sS (S.bld i (gBT U S i) (decide ((qTrue U i).1 < 0)))) ∧ zFr 0 327 σ τ) := by
  refine Met.ofW (cc := cX10_build) (maxL := 4) (ret := (some .int)) (by decide +kernel) rfl ?_
  intro p e s m args below meth c s₁ B hml hv
  obtain ⟨rfl, hd⟩ := hv
  have C := zX_of (own := RX10) hfl B hml rfl hd rfl
  have hr := B.returns
  refine zV_go hd (Nat.le_of_ble_eq_true rfl) (lv := [(0, .ref (ob E 0)), (1, .int (zI (i : Int)))]) rfl ?_
  have hU : zSUp σ 29 U := h.2.2.1
  have hS : zSTp σ 34 S := h.2.2.2.1.1
  have hq9 : zSTq S := h.2.2.2.1.2
  have hnb : U.nb ≤ 8 := hU.2.2.1
  have hs0 := hU.2.2.2.1
  have hqt := qTrue_b hU hi
  have hb1 : (((qTrue U i).2.toNat : Nat) : Int) = (qTrue U i).2 := by omega
  have hf1 : ∀ i, i < S.n → 1 ≤ S.f i ∧ S.f i ≤ 100 := fun j hj => ⟨by have := hS.2.1 j hj; omega, hS.1.2.2.2 j hj⟩
  have hn16 := hS.1.2.1
  have hi8 : i < 8 := by omega
  have h9 : zCP (bW σ U i (gBT U S i)) (zDv.mk ni tx ec eo U S hh kp ou) := zCP_f h (bW_f σ U i _)
  obtain ⟨q, hq12, hq1, hq2, hq3, hq4⟩ := h9.2.2.2.2.1
  have hq2 : gI (bW σ U i (gBT U S i)) 54 2 = zI (hh.length : Int) := hq2
  have hq3 : hh.length ≤ 12 := hq3
  have hRe : zCP (hRem (bW σ U i (gBT U S i)) 34 q hh.length) (zDv.mk ni tx ec eo U S hh kp ou).re := zCP_re h9 hq12 hq1 hq3 hq4
  have hSR : zSTp (hRem (bW σ U i (gBT U S i)) 34 q hh.length) 34 S := hRe.2.2.2.1.1
  have hki := kd_KI i hi8
  have hf8 : ∀ i, i < S.n → 8 ≤ S.f i ∧ S.f i ≤ 100 := fun j hj => ⟨hS.2.1 j hj, hS.1.2.2.2 j hj⟩
  have hgn : (gBT U S i) ≠ none := gTrain_n (by omega) S.n (by omega)
  have hgi : gIn (gBT U S i) := gIn_train hf8 S.n (Nat.le_refl _)
  have hw0 := gWn_in hgn hgi 0
  have hv0 : gI (hRem (bW σ U i (gBT U S i)) 34 q hh.length) 319 0 = zI (gWn (gBT U S i) 0 : Int) := by
    rw [gI_hRem _ _ _ _ _ (by omega), ← hw0.2]
    exact gWh_s hgn _ (by omega)
  have hw1 := gWn_in hgn hgi 1
  have hv1 : gI (hRem (bW σ U i (gBT U S i)) 34 q hh.length) 319 1 = zI (gWn (gBT U S i) 1 : Int) := by
    rw [gI_hRem _ _ _ _ _ (by omega), ← hw1.2]
    exact gWh_s hgn _ (by omega)
  have hw2 := gWn_in hgn hgi 2
  have hv2 : gI (hRem (bW σ U i (gBT U S i)) 34 q hh.length) 319 2 = zI (gWn (gBT U S i) 2 : Int) := by
    rw [gI_hRem _ _ _ _ _ (by omega), ← hw2.2]
    exact gWh_s hgn _ (by omega)
  have hw3 := gWn_in hgn hgi 3
  have hv3 : gI (hRem (bW σ U i (gBT U S i)) 34 q hh.length) 319 3 = zI (gWn (gBT U S i) 3 : Int) := by
    rw [gI_hRem _ _ _ _ _ (by omega), ← hw3.2]
    exact gWh_s hgn _ (by omega)
  have n0 : (S.sT i 0 (S.tr i)).tn i = 0 := sT_tn _ _ _ _
  have n1 : ((S.sT i 0 (S.tr i)).apd i 0 (gWn (gBT U S i) 0) (gWn (gBT U S i) 1)).tn i = 1 := by rw [apd_tn, n0]
  have n2 : (((S.sT i 0 (S.tr i)).apd i 0 (gWn (gBT U S i) 0) (gWn (gBT U S i) 1)).apd i 0 (gWn (gBT U S i) 2) (gWn (gBT U S i) 3)).tn i = 2 := by rw [apd_tn, n1]
  have p0 : zSTp (sI (hRem (bW σ U i (gBT U S i)) 34 q hh.length) (34 + 4 + 2 * i) 1 (zI 0)) 34 (S.sT i 0 (S.tr i)) := zSTp_emp hSR hi8
  have p1 : zSTp (apW (sI (hRem (bW σ U i (gBT U S i)) 34 q hh.length) (34 + 4 + 2 * i) 1 (zI 0)) (34 + 4 + 2 * i) ((S.sT i 0 (S.tr i)).tn i) 0 (gWn (gBT U S i) 0) (gWn (gBT U S i) 1)) 34 ((S.sT i 0 (S.tr i)).apd i 0 (gWn (gBT U S i) 0) (gWn (gBT U S i) 1)) := zSTp_apd p0 hi8 (by omega) (by omega) (Or.inr (by rw [n0]; show (0 : Nat) < 2; omega)) hw0.1 (by omega) (fun _ => hw1.1)
  have p2 : zSTp (apW (apW (sI (hRem (bW σ U i (gBT U S i)) 34 q hh.length) (34 + 4 + 2 * i) 1 (zI 0)) (34 + 4 + 2 * i) ((S.sT i 0 (S.tr i)).tn i) 0 (gWn (gBT U S i) 0) (gWn (gBT U S i) 1)) (34 + 4 + 2 * i) (((S.sT i 0 (S.tr i)).apd i 0 (gWn (gBT U S i) 0) (gWn (gBT U S i) 1)).tn i) 0 (gWn (gBT U S i) 2) (gWn (gBT U S i) 3)) 34 (((S.sT i 0 (S.tr i)).apd i 0 (gWn (gBT U S i) 0) (gWn (gBT U S i) 1)).apd i 0 (gWn (gBT U S i) 2) (gWn (gBT U S i) 3)) := zSTp_apd p1 hi8 (by omega) (by omega) (Or.inr (by rw [n1]; have := tGe_le (((S.sT i 0 (S.tr i)).apd i 0 (gWn (gBT U S i) 0) (gWn (gBT U S i) 1)).tr i) 1; omega)) hw2.1 (by omega) (fun _ => hw3.1)
  have f0 := hf8 0 (by omega)
  have p3 : zSTp (apW (apW (apW (sI (hRem (bW σ U i (gBT U S i)) 34 q hh.length) (34 + 4 + 2 * i) 1 (zI 0)) (34 + 4 + 2 * i) ((S.sT i 0 (S.tr i)).tn i) 0 (gWn (gBT U S i) 0) (gWn (gBT U S i) 1)) (34 + 4 + 2 * i) (((S.sT i 0 (S.tr i)).apd i 0 (gWn (gBT U S i) 0) (gWn (gBT U S i) 1)).tn i) 0 (gWn (gBT U S i) 2) (gWn (gBT U S i) 3)) (34 + 4 + 2 * i) ((((S.sT i 0 (S.tr i)).apd i 0 (gWn (gBT U S i) 0) (gWn (gBT U S i) 1)).apd i 0 (gWn (gBT U S i) 2) (gWn (gBT U S i) 3)).tn i) 2 (S.f 0) 0) 34 ((((S.sT i 0 (S.tr i)).apd i 0 (gWn (gBT U S i) 0) (gWn (gBT U S i) 1)).apd i 0 (gWn (gBT U S i) 2) (gWn (gBT U S i) 3)).apd i 2 (S.f 0) 0) := zSTp_apd p2 hi8 (by omega) (by omega) (Or.inl rfl) f0 (fun _ => rfl) (by omega)
  have t0 := (p0.2.2.2.2.2.2 i hi8).1
  have t1 := (p1.2.2.2.2.2.2 i hi8).1
  have t2 := (p2.2.2.2.2.2.2 i hi8).1
  have t3 := (p3.2.2.2.2.2.2 i hi8).1
  have hjt := gJ_bW σ U i (gBT U S i)
  
  refine zv_aload_n C 0 dX10_build_0 rfl rfl ?_
  refine zv_iload_n C 1 dX10_build_1 rfl rfl ?_
  refine zv_cvvD (st := []) C (c_X10_needBody hfl E σ U (i : Int) hU (by omega) (by omega)) mX10_needBody kX10_140 (by decide : kd 0 = 9) rfl rfl rfl ⟨rfl, rfl⟩ (show zfit (zrm 0 0) 2 (zrm 5 143) = true from rfl) (Nat.le_of_ble_eq_true rfl) dX10_build_2 ⟨Nat.zero_le _, Nat.zero_le _⟩ ?_
  refine zv_aload_n C 0 dX10_build_5 rfl rfl ?_
  refine zG9_2 C (by decide : kd 0 = _) kX10_26 dX10_build_6 ?_
  refine zG6_1 C (by decide : kd 34 = _) kX10_121 dX10_build_9 ?_
  refine zv_eqi (y := zI (S.n : Int)) (hS.1.1) ?_
  refine zv_iconst (v := zI 2) C dX10_build_12 rfl ?_
  refine zv_icmp_geZ (tgt := 27) C (by omega) (by omega) dX10_build_13 (by decide) (fun h13 => ?_) (fun h13 => ?_)
  · skip
    refine zv_aload_n C 0 dX10_build_27 rfl rfl ?_
    refine zv_iload_n C 1 dX10_build_28 rfl rfl ?_
    refine zv_aload_n C 0 dX10_build_29 rfl rfl ?_
    refine zG9_6 C (by decide : kd 0 = _) kX10_54 dX10_build_30 ?_
    refine zv_cvrD (st := []) C (c_X10_trueOwnOf hfl E σ U i 320 hU hi (by decide) (by decide)) mX10_trueOwnOf kX10_257 (by decide : kd 0 = 9) rfl rfl rfl ⟨rfl, rfl⟩ (show zfit (zrm 3 80) 4 (zrm 5 143) = true from rfl) (Nat.le_of_ble_eq_true rfl) dX10_build_33 ⟨Nat.zero_le _, Nat.zero_le _⟩ ?_
    refine zv_astore_n (lv' := [(2, .ref (ob E 320)), (0, .ref (ob E 0)), (1, .int (zI (i : Int)))]) C dX10_build_36 rfl (by decide) rfl ?_
    refine zv_aload_n C 1 dX10_build_37 rfl rfl ?_
    refine zG9_5 C (by decide : kd 0 = _) kX10_47 dX10_build_38 ?_
    refine zv_aload_n C 1 dX10_build_41 rfl rfl ?_
    refine zG9_2 C (by decide : kd 0 = _) kX10_26 dX10_build_42 ?_
    refine zv_aload_n C 0 dX10_build_45 rfl rfl ?_
    refine zv_cvvD (st := []) C (c_X0_findTrain hfl E (rW σ 320 (qTrue U i).1 (qTrue U i).2) 320 (qTrue U i).1 (qTrue U i).2.toNat S.n S.f (by decide) (by decide) (by rw [hb1]; exact rW_R _ _ _ _) (by omega) (by omega) (zSTp_rW hS).1 hf1) mX0_findTrain kX10_267 (by decide : kd 318 = 0) rfl rfl rfl ⟨rfl, rfl⟩ (show zfit (zrm 4 119) 5 (zrm 5 143) = true from rfl) (Nat.le_of_ble_eq_true rfl) dX10_build_46 ⟨Nat.zero_le _, Nat.zero_le _⟩ ?_
    refine zv_eqS (τ := (bW σ U i (gBT U S i))) (by rw [hb1]; rfl) ?_
    refine zv_aload_n C 1 dX10_build_49 rfl rfl ?_
    refine zG9_3 C (by decide : kd 0 = _) kX10_33 dX10_build_50 ?_
    refine zv_aload_n C 1 dX10_build_53 rfl rfl ?_
    refine zG9_2 C (by decide : kd 0 = _) kX10_26 dX10_build_54 ?_
    refine zv_cvvD (st := []) C (c_X1_remember hfl E (bW σ U i (gBT U S i)) 34 q hh.length (by decide) (by decide) hq1 hq12 hq2 hq3) mX1_remember kX10_304 (by decide : kd 54 = 1) rfl rfl rfl ⟨rfl, rfl⟩ (show zfit (zrm 3 103) 2 (zrm 5 143) = true from rfl) (Nat.le_of_ble_eq_true rfl) dX10_build_57 ⟨Nat.zero_le _, Nat.zero_le _⟩ ?_
    refine zv_aload_n C 1 dX10_build_60 rfl rfl ?_
    refine zG9_2 C (by decide : kd 0 = _) kX10_26 dX10_build_61 ?_
    refine zG6_5 C (by decide : kd 34 = _) kX10_154 dX10_build_64 ?_
    refine zv_iload_n C 2 dX10_build_67 rfl rfl ?_
    refine zv_tald (j := i) C (by decide : kd 37 = _) (zI_ix (by omega)) (Nat.lt_of_lt_of_eq (show i < 8 by omega) (by decide)) dX10_build_68 ?_
    refine zv_astore_n (lv' := [(3, .ref (ob E (34 + 4 + 2 * i))), (2, .ref (ob E 320)), (0, .ref (ob E 0)), (1, .int (zI (i : Int)))]) C dX10_build_69 rfl (by decide) rfl ?_
    refine zv_aload_n C 0 dX10_build_70 rfl rfl ?_
    refine zv_iconst (v := zI 0) C dX10_build_71 rfl ?_
    refine zP8_1 C hki kX10_158 dX10_build_72 ?_
    refine zv_aload_n C 0 dX10_build_75 rfl rfl ?_
    refine zv_iconst (v := zI 0) C dX10_build_76 rfl ?_
    refine zv_aload_n C 2 dX10_build_77 rfl rfl ?_
    refine zG9_5 C (by decide : kd 0 = _) kX10_47 dX10_build_78 ?_
    refine zG0_0 C (by decide : kd 318 = _) kX10_264 dX10_build_81 ?_
    refine zv_iconst (v := zI 0) C dX10_build_84 rfl ?_
    refine zv_iald (j := 0) C (by decide : kd 319 = _) (zI_ix rfl) (by decide) dX10_build_85 ?_
    refine zv_eqi (y := (zI (gWn (gBT U S i) 0 : Int))) (by rw [gI_sI, if_neg (by omega)]; exact hv0) ?_
    refine zv_aload_n C 2 dX10_build_86 rfl rfl ?_
    refine zG9_5 C (by decide : kd 0 = _) kX10_47 dX10_build_87 ?_
    refine zG0_0 C (by decide : kd 318 = _) kX10_264 dX10_build_90 ?_
    refine zv_iconst (v := zI 1) C dX10_build_93 rfl ?_
    refine zv_iald (j := 1) C (by decide : kd 319 = _) (zI_ix rfl) (by decide) dX10_build_94 ?_
    refine zv_eqi (y := (zI (gWn (gBT U S i) 1 : Int))) (by rw [gI_sI, if_neg (by omega)]; exact hv1) ?_
    refine zv_cvvD (st := []) C (c_X8_append hfl E (sI (hRem (bW σ U i (gBT U S i)) 34 q hh.length) (34 + 4 + 2 * i) 1 (zI 0)) (34 + 4 + 2 * i) ((S.sT i 0 (S.tr i)).tn i) ((S.sT i 0 (S.tr i)).tr i) 0 (gWn (gBT U S i) 0) (gWn (gBT U S i) 1) hki t0 (by omega)) mX8_append kX10_307 hki rfl rfl rfl ⟨rfl, rfl⟩ (show zfit (zrm 1 24) 4 (zrm 5 143) = true from rfl) (Nat.le_of_ble_eq_true rfl) dX10_build_95 ⟨Nat.zero_le _, Nat.zero_le _⟩ ?_
    refine zv_eqS (τ := (apW (sI (hRem (bW σ U i (gBT U S i)) 34 q hh.length) (34 + 4 + 2 * i) 1 (zI 0)) (34 + 4 + 2 * i) ((S.sT i 0 (S.tr i)).tn i) 0 (gWn (gBT U S i) 0) (gWn (gBT U S i) 1))) rfl ?_
    refine zv_aload_n C 0 dX10_build_98 rfl rfl ?_
    refine zv_iconst (v := zI 0) C dX10_build_99 rfl ?_
    refine zv_aload_n C 2 dX10_build_100 rfl rfl ?_
    refine zG9_5 C (by decide : kd 0 = _) kX10_47 dX10_build_101 ?_
    refine zG0_0 C (by decide : kd 318 = _) kX10_264 dX10_build_104 ?_
    refine zv_iconst (v := zI 2) C dX10_build_107 rfl ?_
    refine zv_iald (j := 2) C (by decide : kd 319 = _) (zI_ix rfl) (by decide) dX10_build_108 ?_
    refine zv_eqi (y := (zI (gWn (gBT U S i) 2 : Int))) (by rw [gI_apW _ _ _ _ _ _ _ _ (by omega), gI_sI, if_neg (by omega)]; exact hv2) ?_
    refine zv_aload_n C 2 dX10_build_109 rfl rfl ?_
    refine zG9_5 C (by decide : kd 0 = _) kX10_47 dX10_build_110 ?_
    refine zG0_0 C (by decide : kd 318 = _) kX10_264 dX10_build_113 ?_
    refine zv_iconst (v := zI 3) C dX10_build_116 rfl ?_
    refine zv_iald (j := 3) C (by decide : kd 319 = _) (zI_ix rfl) (by decide) dX10_build_117 ?_
    refine zv_eqi (y := (zI (gWn (gBT U S i) 3 : Int))) (by rw [gI_apW _ _ _ _ _ _ _ _ (by omega), gI_sI, if_neg (by omega)]; exact hv3) ?_
    refine zv_cvvD (st := []) C (c_X8_append hfl E (apW (sI (hRem (bW σ U i (gBT U S i)) 34 q hh.length) (34 + 4 + 2 * i) 1 (zI 0)) (34 + 4 + 2 * i) ((S.sT i 0 (S.tr i)).tn i) 0 (gWn (gBT U S i) 0) (gWn (gBT U S i) 1)) (34 + 4 + 2 * i) (((S.sT i 0 (S.tr i)).apd i 0 (gWn (gBT U S i) 0) (gWn (gBT U S i) 1)).tn i) (((S.sT i 0 (S.tr i)).apd i 0 (gWn (gBT U S i) 0) (gWn (gBT U S i) 1)).tr i) 0 (gWn (gBT U S i) 2) (gWn (gBT U S i) 3) hki t1 (by omega)) mX8_append kX10_307 hki rfl rfl rfl ⟨rfl, rfl⟩ (show zfit (zrm 1 24) 4 (zrm 5 143) = true from rfl) (Nat.le_of_ble_eq_true rfl) dX10_build_118 ⟨Nat.zero_le _, Nat.zero_le _⟩ ?_
    refine zv_eqS (τ := (apW (apW (sI (hRem (bW σ U i (gBT U S i)) 34 q hh.length) (34 + 4 + 2 * i) 1 (zI 0)) (34 + 4 + 2 * i) ((S.sT i 0 (S.tr i)).tn i) 0 (gWn (gBT U S i) 0) (gWn (gBT U S i) 1)) (34 + 4 + 2 * i) (((S.sT i 0 (S.tr i)).apd i 0 (gWn (gBT U S i) 0) (gWn (gBT U S i) 1)).tn i) 0 (gWn (gBT U S i) 2) (gWn (gBT U S i) 3))) rfl ?_
    refine zv_aload_n C 1 dX10_build_121 rfl rfl ?_
    refine zG3_0 C (by decide : kd 320 = _) kX10_185 dX10_build_122 ?_
    refine zv_eql (y := (zL ((qTrue U i).1))) (hjt) ?_
    refine zv_lconst (v := zL 0) C dX10_build_125 (by decide) ?_
    refine zv_lc_geZ (tgt := 145) C (by omega) (by omega) dX10_build_126 dX10_build_127 (by decide) (fun h126 => ?_) (fun h126 => ?_)
    · skip
      refine zv_eqS (τ := (apW (apW (sI (hRem (bW σ U i (gBT U S i)) 34 q hh.length) (34 + 4 + 2 * i) 1 (zI 0)) (34 + 4 + 2 * i) ((S.sT i 0 (S.tr i)).tn i) 0 (gWn (gBT U S i) 0) (gWn (gBT U S i) 1)) (34 + 4 + 2 * i) (((S.sT i 0 (S.tr i)).apd i 0 (gWn (gBT U S i) 0) (gWn (gBT U S i) 1)).tn i) 0 (gWn (gBT U S i) 2) (gWn (gBT U S i) 3))) rfl ?_
      refine zv_aload_n C 2 dX10_build_145 rfl rfl ?_
      refine zG9_2 C (by decide : kd 0 = _) kX10_26 dX10_build_146 ?_
      refine zG6_4 C (by decide : kd 34 = _) kX10_310 dX10_build_149 ?_
      refine zv_iload_n C 3 dX10_build_152 rfl rfl ?_
      refine zv_iconst (v := zI 0) C dX10_build_153 rfl ?_
      refine zv_iast (j := i) C (by decide : kd 36 = _) (zI_ix (by omega)) (Nat.lt_of_lt_of_eq (show i < 8 by omega) (by decide)) dX10_build_154 ?_
      refine zv_aload_n C 0 dX10_build_155 rfl rfl ?_
      refine zG8_1 C hki kX10_158 dX10_build_156 ?_
      refine zv_eqi (y := (zI 2)) (by rw [gI_sI, if_neg (by omega), t2.1, n2]; rfl) ?_
      exact zv_iret C hr rfl dX10_build_159 ⟨by rw [if_neg (by omega)], by rw [show decide ((qTrue U i).1 < 0) = false from decide_eq_false (by omega)]; exact (fun z : zCP _ _ ∧ zFr 0 327 (bW σ U i (gBT U S i)) _ => ⟨z.1, zFr_trans (zFr_mono (bW_f σ U i (gBT U S i)) (by decide) (by decide)) z.2⟩) (zCP_chg hRe (zSTp_fre p2) (zSTq_fre (zSTq_e hq9 rfl rfl) i) (zFr_of (fun x y hx => by rw [gI_sI, if_neg (by omega), gI_apW _ _ _ _ _ _ _ _ (by omega), gI_apW _ _ _ _ _ _ _ _ (by omega), gI_sI, if_neg (by omega)]) rfl))⟩
    · skip
      refine zv_aload_n C 0 dX10_build_130 rfl rfl ?_
      refine zv_iconst (v := zI 2) C dX10_build_131 rfl ?_
      refine zv_aload_n C 2 dX10_build_132 rfl rfl ?_
      refine zG9_2 C (by decide : kd 0 = _) kX10_26 dX10_build_133 ?_
      refine zG6_0 C (by decide : kd 34 = _) kX10_178 dX10_build_136 ?_
      refine zv_iconst (v := zI 0) C dX10_build_139 rfl ?_
      refine zv_iald (j := 0) C (by decide : kd 35 = _) (zI_ix rfl) (by decide) dX10_build_140 ?_
      refine zv_eqi (y := (zI (S.f 0 : Int))) (p2.1.2.2.1 0 (show 0 < S.n by omega)) ?_
      refine zv_iconst (v := zI 0) C dX10_build_141 rfl ?_
      refine zv_cvvD (st := []) C (c_X8_append hfl E (apW (apW (sI (hRem (bW σ U i (gBT U S i)) 34 q hh.length) (34 + 4 + 2 * i) 1 (zI 0)) (34 + 4 + 2 * i) ((S.sT i 0 (S.tr i)).tn i) 0 (gWn (gBT U S i) 0) (gWn (gBT U S i) 1)) (34 + 4 + 2 * i) (((S.sT i 0 (S.tr i)).apd i 0 (gWn (gBT U S i) 0) (gWn (gBT U S i) 1)).tn i) 0 (gWn (gBT U S i) 2) (gWn (gBT U S i) 3)) (34 + 4 + 2 * i) ((((S.sT i 0 (S.tr i)).apd i 0 (gWn (gBT U S i) 0) (gWn (gBT U S i) 1)).apd i 0 (gWn (gBT U S i) 2) (gWn (gBT U S i) 3)).tn i) ((((S.sT i 0 (S.tr i)).apd i 0 (gWn (gBT U S i) 0) (gWn (gBT U S i) 1)).apd i 0 (gWn (gBT U S i) 2) (gWn (gBT U S i) 3)).tr i) 2 (S.f 0) 0 hki t2 (by omega)) mX8_append kX10_307 hki rfl rfl rfl ⟨rfl, rfl⟩ (show zfit (zrm 1 24) 4 (zrm 5 143) = true from rfl) (Nat.le_of_ble_eq_true rfl) dX10_build_142 ⟨Nat.zero_le _, Nat.zero_le _⟩ ?_
      refine zv_eqS (τ := (apW (apW (apW (sI (hRem (bW σ U i (gBT U S i)) 34 q hh.length) (34 + 4 + 2 * i) 1 (zI 0)) (34 + 4 + 2 * i) ((S.sT i 0 (S.tr i)).tn i) 0 (gWn (gBT U S i) 0) (gWn (gBT U S i) 1)) (34 + 4 + 2 * i) (((S.sT i 0 (S.tr i)).apd i 0 (gWn (gBT U S i) 0) (gWn (gBT U S i) 1)).tn i) 0 (gWn (gBT U S i) 2) (gWn (gBT U S i) 3)) (34 + 4 + 2 * i) ((((S.sT i 0 (S.tr i)).apd i 0 (gWn (gBT U S i) 0) (gWn (gBT U S i) 1)).apd i 0 (gWn (gBT U S i) 2) (gWn (gBT U S i) 3)).tn i) 2 (S.f 0) 0)) rfl ?_
      refine zv_aload_n C 2 dX10_build_145 rfl rfl ?_
      refine zG9_2 C (by decide : kd 0 = _) kX10_26 dX10_build_146 ?_
      refine zG6_4 C (by decide : kd 34 = _) kX10_310 dX10_build_149 ?_
      refine zv_iload_n C 3 dX10_build_152 rfl rfl ?_
      refine zv_iconst (v := zI 0) C dX10_build_153 rfl ?_
      refine zv_iast (j := i) C (by decide : kd 36 = _) (zI_ix (by omega)) (Nat.lt_of_lt_of_eq (show i < 8 by omega) (by decide)) dX10_build_154 ?_
      refine zv_aload_n C 0 dX10_build_155 rfl rfl ?_
      refine zG8_1 C hki kX10_158 dX10_build_156 ?_
      refine zv_eqi (y := (zI 3)) (by rw [gI_sI, if_neg (by omega), t3.1, apd_tn, n2]; rfl) ?_
      exact zv_iret C hr rfl dX10_build_159 ⟨by rw [if_pos (by omega)], by rw [show decide ((qTrue U i).1 < 0) = true from decide_eq_true (by omega)]; exact (fun z : zCP _ _ ∧ zFr 0 327 (bW σ U i (gBT U S i)) _ => ⟨z.1, zFr_trans (zFr_mono (bW_f σ U i (gBT U S i)) (by decide) (by decide)) z.2⟩) (zCP_chg hRe (zSTp_fre p3) (zSTq_fre (zSTq_e hq9 rfl rfl) i) (zFr_of (fun x y hx => by rw [gI_sI, if_neg (by omega), gI_apW _ _ _ _ _ _ _ _ (by omega), gI_apW _ _ _ _ _ _ _ _ (by omega), gI_apW _ _ _ _ _ _ _ _ (by omega), gI_sI, if_neg (by omega)]) rfl))⟩
  · exfalso
    omega
set_option maxRecDepth 20000 in
theorem x1_X10_build {l : Launch} (hfl : l.stackTraces = false) (E : zE) (σ : zS) (U : zSU) (b : Int) (hU : zSUp σ 29 U) (hbi : -2147483648 ≤ b ∧ b < 2147483648) (hno : ¬ (0 ≤ b ∧ b < U.nb)) : zRx l E yX10_build cX10_build 4 (some .int) (zrx 9 200) [.ref (ob E 0), .int (zI b)] σ "java/lang/IndexOutOfBoundsException" := by
  refine vx_ofW (cc := cX10_build) (maxL := 4) (ret := (some .int)) (by decide) rfl ?_
  intro p e s m args below meth c s₁ B hml hout hv
  obtain ⟨rfl, hd⟩ := hv
  have C := zX_of (own := RX10) hfl B hml rfl hd rfl
  have hr := B.returns
  refine zV_go hd (Nat.le_of_ble_eq_true rfl) (lv := [(0, .ref (ob E 0)), (1, .int (zI b))]) rfl ?_
  have hnb : U.nb ≤ 8 := hU.2.2.1
  have hs0 := hU.2.2.2.1
  
  refine zv_aload_n C 0 dX10_build_0 rfl rfl ?_
  refine zv_iload_n C 1 dX10_build_1 rfl rfl ?_
  exact zv_xcv (st := []) C (x_X10_needBody hfl E σ U b hU hbi hno) hout mX10_needBody kX10_140 (by decide : kd 0 = 9) rfl rfl rfl ⟨rfl, rfl⟩ (show zfit (zrx 6 100) 2 (zrx 9 200) = true from rfl) (Nat.le_of_ble_eq_true rfl) dX10_build_2
set_option maxRecDepth 20000 in
theorem x2_X10_build {l : Launch} (hfl : l.stackTraces = false) (E : zE) (σ : zS) (U : zSU) (S : zST) (i : Nat) (hU : zSUp σ 29 U) (hS : zSTp σ 34 S) (hi : i < U.nb) (hno : S.n < 2) : zRx l E yX10_build cX10_build 4 (some .int) (zrx 9 200) [.ref (ob E 0), .int (zI (i : Int))] σ "java/lang/IllegalStateException" := by
  refine vx_ofW (cc := cX10_build) (maxL := 4) (ret := (some .int)) (by decide) rfl ?_
  intro p e s m args below meth c s₁ B hml hout hv
  obtain ⟨rfl, hd⟩ := hv
  have C := zX_of (own := RX10) hfl B hml rfl hd rfl
  have hr := B.returns
  refine zV_go hd (Nat.le_of_ble_eq_true rfl) (lv := [(0, .ref (ob E 0)), (1, .int (zI (i : Int)))]) rfl ?_
  have hnb : U.nb ≤ 8 := hU.2.2.1
  have hs0 := hU.2.2.2.1
  
  refine zv_aload_n C 0 dX10_build_0 rfl rfl ?_
  refine zv_iload_n C 1 dX10_build_1 rfl rfl ?_
  refine zv_cvvD (st := []) C (c_X10_needBody hfl E σ U (i : Int) hU (by omega) (by omega)) mX10_needBody kX10_140 (by decide : kd 0 = 9) rfl rfl rfl ⟨rfl, rfl⟩ (show zfit (zrm 0 0) 2 (zrx 9 200) = true from rfl) (Nat.le_of_ble_eq_true rfl) dX10_build_2 ⟨Nat.zero_le _, Nat.zero_le _⟩ ?_
  refine zv_aload_n C 0 dX10_build_5 rfl rfl ?_
  refine zG9_2 C (by decide : kd 0 = _) kX10_26 dX10_build_6 ?_
  refine zG6_1 C (by decide : kd 34 = _) kX10_121 dX10_build_9 ?_
  refine zv_eqi (y := zI (S.n : Int)) (hS.1.1) ?_
  refine zv_iconst (v := zI 2) C dX10_build_12 rfl ?_
  refine zv_icmp_geZ (tgt := 27) C (by omega) (by omega) dX10_build_13 (by decide) (fun h13 => ?_) (fun h13 => ?_)
  · exfalso
    omega
  · skip
    exact zv_throwW (text := "fewer than two numbers in the stock") C hout rfl kX10_299 zini_IllegalStateException (by decide) (by decide) (by decide) zat_IllegalStateException zot_IllegalStateException dX10_build_16 dX10_build_19 dX10_build_20 dX10_build_23 dX10_build_26 (by decide) (by decide) ⟨by decide, by decide⟩
