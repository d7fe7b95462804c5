/-- a State's part alone has changed, behind a remembering -/
theorem zCP_chg {σ τ : zS} {D : zDv} {S : zST} {n q : Nat} (h : zCP (hRem σ 34 n q) D) (hS : zSTp τ 34 S) (hq : zSTq S) (e : zFr 34 54 (hRem σ 34 n q) τ) : zCP τ (D.sS S) ∧ zFr 0 327 σ τ :=
  ⟨zCP_S h hS hq (fun x y h1 h2 => ⟨e.1 x y (by omega), e.2.1 x y (by omega)⟩), zFr_trans (zFr_mono (zFr_hRem σ n q) (by decide) (by decide)) (zFr_mono e (by decide) (by decide))⟩
def zST.pop (S : zST) (i : Nat) : zST := S.sT i (S.tn i - 1) (S.tr i)
theorem zSTp_pop {σ : zS} {k : Nat} {S : zST} {i : Nat} (h : zSTp σ k S) (hi : i < 8) (ht : S.tn i ≠ 0) : zSTp (sI σ (k + 4 + 2 * i) 1 (zI ((S.tn i : Int) - 1))) k (S.pop i) := by
  obtain ⟨hT, hw⟩ := h.2.2.2.2.2.2 i hi
  obtain ⟨n, hn⟩ : ∃ n, S.tn i = n + 1 := ⟨S.tn i - 1, by omega⟩
  have e1 : (S.tn i : Int) - 1 = (n : Int) := by omega
  have e2 : S.tn i - 1 = n := by omega
  unfold zST.pop
  rw [e1, e2]
  rw [hn] at hT hw
  exact zSTp_sT h (zTr_pop hT) (zTw_pop hw) (fun x y _ _ h1 _ => by rw [gI_sI, if_neg (by omega)])
set_option maxRecDepth 20000 in
theorem c_X10_removePart {l : Launch} (hfl : l.stackTraces = false) (E : zE) (σ : zS) (ni : Nat) (tx : Nat → Int) (ec : Nat) (eo : Int) (U : zSU) (S : zST) (hh : List zST) (kp : Option zST) (ou : List Nat) (i : Nat) (h : zCP σ (zDv.mk ni tx ec eo U S hh kp ou)) (hi : i < U.nb) (ht0 : S.tn i ≠ 0) : zRi l E yX10_removePart cX10_removePart 3 .int (zrm 4 124) [.ref (ob E 0), .int (zI (i : Int))] σ (fun r τ => r = zI ((S.tn i : Int) - 1) ∧ zCP τ ((zDv.mk ni tx ec eo U S hh kp ou).re.sS ((S.pop i).fre i)) ∧ zFr 0 327 σ τ) := by
  refine Met.ofW (cc := cX10_removePart) (maxL := 3) (ret := (some .int)) (by decide +kernel) rfl ?_
  intro p e s m args below meth c s₁ B hml hv
  obtain ⟨rfl, hd⟩ := hv
  have C := zX_of (own := RX10) hfl B hml rfl hd rfl
  have hr := B.returns
  refine zV_go hd (Nat.le_of_ble_eq_true rfl) (lv := [(0, .ref (ob E 0)), (1, .int (zI (i : Int)))]) rfl ?_
  obtain ⟨q, hq12, hq1, hq2, hq3, hq4⟩ := h.2.2.2.2.1
  have hq2 : gI σ 54 2 = zI (hh.length : Int) := hq2
  have hq3 : hh.length ≤ 12 := hq3
  have hU : zSUp σ 29 U := h.2.2.1
  have hS : zSTp σ 34 S := h.2.2.2.1.1
  have hq9 : zSTq S := h.2.2.2.1.2
  have hRe : zCP (hRem σ 34 q hh.length) (zDv.mk ni tx ec eo U S hh kp ou).re := zCP_re h hq12 hq1 hq3 hq4
  have hSR : zSTp (hRem σ 34 q hh.length) 34 S := hRe.2.2.2.1.1
  have hnb : U.nb ≤ 8 := hU.2.2.1
  have hs0 := hU.2.2.2.1
  have hi8 : i < 8 := by omega
  have hki : kd (34 + 4 + 2 * i) = 8 := ((zst (show kd 34 = 6 by decide)).2.2.2 i hi8).1
  have hT := (hS.2.2.2.2.2.2 i hi8).1
  have hTw := (hS.2.2.2.2.2.2 i hi8).2
  have hTR := (hSR.2.2.2.2.2.2 i hi8).1
  have ht4 := hT.2.1
  
  refine zv_aload_n C 0 dX10_removePart_0 rfl rfl ?_
  refine zv_iload_n C 1 dX10_removePart_1 rfl rfl ?_
  refine zv_cvvD (st := []) C (c_X10_needBody hfl E σ U (i : Int) hU (by omega) (by omega)) mX10_needBody kX10_140 (by decide : kd 0 = 9) rfl rfl rfl ⟨rfl, rfl⟩ (show zfit (zrm 0 0) 2 (zrm 4 124) = true from rfl) (Nat.le_of_ble_eq_true rfl) dX10_removePart_2 ⟨Nat.zero_le _, Nat.zero_le _⟩ ?_
  refine zv_aload_n C 0 dX10_removePart_5 rfl rfl ?_
  refine zG9_2 C (by decide : kd 0 = _) kX10_26 dX10_removePart_6 ?_
  refine zG6_5 C (by decide : kd 34 = _) kX10_154 dX10_removePart_9 ?_
  refine zv_iload_n C 1 dX10_removePart_12 rfl rfl ?_
  refine zv_tald (j := i) C (by decide : kd 37 = _) (zI_ix (by omega)) (Nat.lt_of_lt_of_eq (show i < 8 by omega) (by decide)) dX10_removePart_13 ?_
  refine zv_astore_n (lv' := [(2, .ref (ob E (34 + 4 + 2 * i))), (0, .ref (ob E 0)), (1, .int (zI (i : Int)))]) C dX10_removePart_14 rfl (by decide) rfl ?_
  refine zv_aload_n C 0 dX10_removePart_15 rfl rfl ?_
  refine zG8_1 C hki kX10_158 dX10_removePart_16 ?_
  refine zv_eqi (y := zI (S.tn i : Int)) (hT.1) ?_
  refine zv_if_neZ (tgt := 33) C (by omega) dX10_removePart_19 (by decide) (fun h19 => ?_) (fun h19 => ?_)
  · skip
    refine zv_aload_n C 1 dX10_removePart_33 rfl rfl ?_
    refine zG9_3 C (by decide : kd 0 = _) kX10_33 dX10_removePart_34 ?_
    refine zv_aload_n C 1 dX10_removePart_37 rfl rfl ?_
    refine zG9_2 C (by decide : kd 0 = _) kX10_26 dX10_removePart_38 ?_
    refine zv_cvvD (st := []) C (c_X1_remember hfl E σ 34 q hh.length (by decide) (by decide) hq1 hq12 hq2 hq3) mX1_remember kX10_304 (by decide : kd 54 = 1) rfl rfl rfl ⟨rfl, rfl⟩ (show zfit (zrm 3 103) 2 (zrm 4 124) = true from rfl) (Nat.le_of_ble_eq_true rfl) dX10_removePart_41 ⟨Nat.zero_le _, Nat.zero_le _⟩ ?_
    refine zv_aload_n C 0 dX10_removePart_44 rfl rfl ?_
    refine zv_dup C dX10_removePart_45 rfl ?_
    refine zG8_1 C hki kX10_158 dX10_removePart_46 ?_
    refine zv_eqi (y := (zI (S.tn i : Int))) (hTR.1) ?_
    refine zv_iconst (v := zI 1) C dX10_removePart_49 rfl ?_
    refine zv_isubZ C dX10_removePart_50 ?_
    refine zP8_1 C hki kX10_158 dX10_removePart_51 ?_
    refine zv_aload_n C 1 dX10_removePart_54 rfl rfl ?_
    refine zG9_2 C (by decide : kd 0 = _) kX10_26 dX10_removePart_55 ?_
    refine zG6_4 C (by decide : kd 34 = _) kX10_310 dX10_removePart_58 ?_
    refine zv_iload_n C 2 dX10_removePart_61 rfl rfl ?_
    refine zv_iconst (v := zI 0) C dX10_removePart_62 rfl ?_
    refine zv_iast (j := i) C (by decide : kd 36 = _) (zI_ix (by omega)) (Nat.lt_of_lt_of_eq (show i < 8 by omega) (by decide)) dX10_removePart_63 ?_
    refine zv_aload_n C 0 dX10_removePart_64 rfl rfl ?_
    refine zG8_1 C hki kX10_158 dX10_removePart_65 ?_
    refine zv_eqi (y := (zI ((S.tn i : Int) - 1))) (by rw [gI_sI, if_neg (by omega), gI_sI, if_pos ⟨rfl, rfl⟩]) ?_
    exact zv_iret C hr rfl dX10_removePart_68 ⟨rfl, zCP_chg hRe (zSTp_fre (zSTp_pop hSR hi8 ht0)) (zSTq_fre (zSTq_e hq9 rfl rfl) i) (zFr_I (zFr_I (zFr_refl _ _ _) (by omega)) (by omega))⟩
  · exfalso
    omega
set_option maxRecDepth 20000 in
theorem x1_X10_removePart {l : Launch} (hfl : l.stackTraces = false) (E : zE) (σ : zS) (U : zSU) (b : Int) (hU : zSUp σ 29 U) (hbi : -2147483648 ≤ b ∧ b < 2147483648) (hno : ¬ (0 ≤ b ∧ b < U.nb)) : zRx l E yX10_removePart cX10_removePart 3 (some .int) (zrx 9 200) [.ref (ob E 0), .int (zI b)] σ "java/lang/IndexOutOfBoundsException" := by
  refine vx_ofW (cc := cX10_removePart) (maxL := 3) (ret := (some .int)) (by decide) rfl ?_
  intro p e s m args below meth c s₁ B hml hout hv
  obtain ⟨rfl, hd⟩ := hv
  have C := zX_of (own := RX10) hfl B hml rfl hd rfl
  have hr := B.returns
  refine zV_go hd (Nat.le_of_ble_eq_true rfl) (lv := [(0, .ref (ob E 0)), (1, .int (zI b))]) rfl ?_
  have hnb : U.nb ≤ 8 := hU.2.2.1
  have hs0 := hU.2.2.2.1
  
  refine zv_aload_n C 0 dX10_removePart_0 rfl rfl ?_
  refine zv_iload_n C 1 dX10_removePart_1 rfl rfl ?_
  exact zv_xcv (st := []) C (x_X10_needBody hfl E σ U b hU hbi hno) hout mX10_needBody kX10_140 (by decide : kd 0 = 9) rfl rfl rfl ⟨rfl, rfl⟩ (show zfit (zrx 6 100) 2 (zrx 9 200) = true from rfl) (Nat.le_of_ble_eq_true rfl) dX10_removePart_2
set_option maxRecDepth 20000 in
theorem x2_X10_removePart {l : Launch} (hfl : l.stackTraces = false) (E : zE) (σ : zS) (U : zSU) (S : zST) (i : Nat) (hU : zSUp σ 29 U) (hS : zSTp σ 34 S) (hi : i < U.nb) (ht0 : S.tn i = 0) : zRx l E yX10_removePart cX10_removePart 3 (some .int) (zrx 9 200) [.ref (ob E 0), .int (zI (i : Int))] σ "java/lang/IllegalStateException" := by
  refine vx_ofW (cc := cX10_removePart) (maxL := 3) (ret := (some .int)) (by decide) rfl ?_
  intro p e s m args below meth c s₁ B hml hout hv
  obtain ⟨rfl, hd⟩ := hv
  have C := zX_of (own := RX10) hfl B hml rfl hd rfl
  have hr := B.returns
  refine zV_go hd (Nat.le_of_ble_eq_true rfl) (lv := [(0, .ref (ob E 0)), (1, .int (zI (i : Int)))]) rfl ?_
  have hnb : U.nb ≤ 8 := hU.2.2.1
  have hs0 := hU.2.2.2.1
  have hi8 : i < 8 := by omega
  have hki : kd (34 + 4 + 2 * i) = 8 := ((zst (show kd 34 = 6 by decide)).2.2.2 i hi8).1
  have hT := (hS.2.2.2.2.2.2 i hi8).1
  have hTw := (hS.2.2.2.2.2.2 i hi8).2
  have ht4 := hT.2.1
  refine zv_aload_n C 0 dX10_removePart_0 rfl rfl ?_
  refine zv_iload_n C 1 dX10_removePart_1 rfl rfl ?_
  refine zv_cvvD (st := []) C (c_X10_needBody hfl E σ U (i : Int) hU (by omega) (by omega)) mX10_needBody kX10_140 (by decide : kd 0 = 9) rfl rfl rfl ⟨rfl, rfl⟩ (show zfit (zrm 0 0) 2 (zrx 9 200) = true from rfl) (Nat.le_of_ble_eq_true rfl) dX10_removePart_2 ⟨Nat.zero_le _, Nat.zero_le _⟩ ?_
  refine zv_aload_n C 0 dX10_removePart_5 rfl rfl ?_
  refine zG9_2 C (by decide : kd 0 = _) kX10_26 dX10_removePart_6 ?_
  refine zG6_5 C (by decide : kd 34 = _) kX10_154 dX10_removePart_9 ?_
  refine zv_iload_n C 1 dX10_removePart_12 rfl rfl ?_
  refine zv_tald (j := i) C (by decide : kd 37 = _) (zI_ix (by omega)) (Nat.lt_of_lt_of_eq (show i < 8 by omega) (by decide)) dX10_removePart_13 ?_
  refine zv_astore_n (lv' := [(2, .ref (ob E (34 + 4 + 2 * i))), (0, .ref (ob E 0)), (1, .int (zI (i : Int)))]) C dX10_removePart_14 rfl (by decide) rfl ?_
  refine zv_aload_n C 0 dX10_removePart_15 rfl rfl ?_
  refine zG8_1 C hki kX10_158 dX10_removePart_16 ?_
  refine zv_eqi (y := zI (S.tn i : Int)) (hT.1) ?_
  refine zv_if_neZ (tgt := 33) C (by omega) dX10_removePart_19 (by decide) (fun h19 => ?_) (fun h19 => ?_)
  · exfalso
    omega
  · skip
    exact zv_throwW (text := "no part to remove") C hout rfl kX10_299 zini_IllegalStateException (by decide) (by decide) (by decide) zat_IllegalStateException zot_IllegalStateException dX10_removePart_22 dX10_removePart_25 dX10_removePart_26 dX10_removePart_29 dX10_removePart_32 (by decide) (by decide) ⟨by decide, by decide⟩
set_option maxRecDepth 20000 in
theorem c_X10_addPart {l : Launch} (hfl : l.stackTraces = false) (E : zE) (σ : zS) (ni : Nat) (tx : Nat → Int) (ec : Nat) (eo : Int) (U : zSU) (S : zST) (hh : List zST) (kp : Option zST) (ou : List Nat) (i a b d : Nat) (h : zCP σ (zDv.mk ni tx ec eo U S hh kp ou)) (hi : i < U.nb) (ha : a ≤ 2) (hb : 8 ≤ b ∧ b ≤ 100) (hd1 : a = 2 → d = 0) (hd2 : a ≠ 2 → 8 ≤ d ∧ d ≤ 100) (hroom : S.tn i < 4 ∧ (a = 2 ∨ tGe (S.tr i) (S.tn i) < 2)) : zRi l E yX10_addPart cX10_addPart 6 .int (zrm 4 124) [.ref (ob E 0), .int (zI (i : Int)), .int (zI (a : Int)), .int (zI (b : Int)), .int (zI (d : Int))] σ (fun r τ => r = zI ((S.tn i + 1 : Nat) : Int) ∧ zCP τ ((zDv.mk ni tx ec eo U S hh kp ou).re.sS ((S.apd i a b d).fre i)) ∧ zFr 0 327 σ τ) := by
  refine Met.ofW (cc := cX10_addPart) (maxL := 6) (ret := (some .int)) (by decide +kernel) rfl ?_
  intro p e s m args below meth c s₁ B hml hv
  obtain ⟨rfl, hd⟩ := hv
  have C := zX_of (own := RX10) hfl B hml rfl hd rfl
  have hr := B.returns
  refine zV_go hd (Nat.le_of_ble_eq_true rfl) (lv := [(0, .ref (ob E 0)), (1, .int (zI (i : Int))), (2, .int (zI (a : Int))), (3, .int (zI (b : Int))), (4, .int (zI (d : Int)))]) rfl ?_
  obtain ⟨q, hq12, hq1, hq2, hq3, hq4⟩ := h.2.2.2.2.1
  have hq2 : gI σ 54 2 = zI (hh.length : Int) := hq2
  have hq3 : hh.length ≤ 12 := hq3
  have hU : zSUp σ 29 U := h.2.2.1
  have hS : zSTp σ 34 S := h.2.2.2.1.1
  have hq9 : zSTq S := h.2.2.2.1.2
  have hRe : zCP (hRem σ 34 q hh.length) (zDv.mk ni tx ec eo U S hh kp ou).re := zCP_re h hq12 hq1 hq3 hq4
  have hSR : zSTp (hRem σ 34 q hh.length) 34 S := hRe.2.2.2.1.1
  have hnb : U.nb ≤ 8 := hU.2.2.1
  have hs0 := hU.2.2.2.1
  have hi8 : i < 8 := by omega
  have hki : kd (34 + 4 + 2 * i) = 8 := ((zst (show kd 34 = 6 by decide)).2.2.2 i hi8).1
  have hT := (hS.2.2.2.2.2.2 i hi8).1
  have hTw := (hS.2.2.2.2.2.2 i hi8).2
  have hTR := (hSR.2.2.2.2.2.2 i hi8).1
  have ht4 := hT.2.1
  have hd9 : d ≤ 100 := by
    rcases Nat.lt_or_ge a 2 with z | z
    · have := hd2 (by omega); omega
    · have := hd1 (by omega); omega
  
  refine zv_aload_n C 0 dX10_addPart_0 rfl rfl ?_
  refine zv_iload_n C 1 dX10_addPart_1 rfl rfl ?_
  refine zv_cvvD (st := []) C (c_X10_needBody hfl E σ U (i : Int) hU (by omega) (by omega)) mX10_needBody kX10_140 (by decide : kd 0 = 9) rfl rfl rfl ⟨rfl, rfl⟩ (show zfit (zrm 0 0) 2 (zrm 4 124) = true from rfl) (Nat.le_of_ble_eq_true rfl) dX10_addPart_2 ⟨Nat.zero_le _, Nat.zero_le _⟩ ?_
  refine zv_iload_n C 2 dX10_addPart_5 rfl rfl ?_
  refine zv_iconst (v := zI 0) C dX10_addPart_6 rfl ?_
  refine zv_iconst (v := zI 2) C dX10_addPart_7 rfl ?_
  refine zv_csvD (st := []) C (c_X10_needWithin hfl E σ (a : Int) 0 2 (by omega) (by omega) (by omega) (by omega)) mX10_needWithin kX10_117 rfl ⟨rfl, rfl⟩ (show zfit (zrm 0 0) 3 (zrm 4 124) = true from rfl) (Nat.le_of_ble_eq_true rfl) dX10_addPart_8 ⟨Nat.zero_le _, Nat.zero_le _⟩ ?_
  refine zv_iload_n C 3 dX10_addPart_11 rfl rfl ?_
  refine zv_bipush (v := zI 8) C dX10_addPart_12 (by decide) ?_
  refine zv_bipush (v := zI 100) C dX10_addPart_14 (by decide) ?_
  refine zv_csvD (st := []) C (c_X10_needWithin hfl E σ (b : Int) 8 100 (by omega) (by omega) (by omega) (by omega)) mX10_needWithin kX10_117 rfl ⟨rfl, rfl⟩ (show zfit (zrm 0 0) 3 (zrm 4 124) = true from rfl) (Nat.le_of_ble_eq_true rfl) dX10_addPart_16 ⟨Nat.zero_le _, Nat.zero_le _⟩ ?_
  refine zv_iload_n C 2 dX10_addPart_19 rfl rfl ?_
  refine zv_iconst (v := zI 2) C dX10_addPart_20 rfl ?_
  refine zv_icmp_neZ (tgt := 34) C (by omega) (by omega) dX10_addPart_21 (by decide) (fun h21 => ?_) (fun h21 => ?_)
  · skip
    have hd3 := hd2 (by omega)
    refine zv_iload C 4 dX10_addPart_34 rfl ?_
    refine zv_bipush (v := zI 8) C dX10_addPart_36 (by decide) ?_
    refine zv_bipush (v := zI 100) C dX10_addPart_38 (by decide) ?_
    refine zv_csvD (st := []) C (c_X10_needWithin hfl E σ (d : Int) 8 100 (by omega) (by omega) (by omega) (by omega)) mX10_needWithin kX10_117 rfl ⟨rfl, rfl⟩ (show zfit (zrm 0 0) 3 (zrm 4 124) = true from rfl) (Nat.le_of_ble_eq_true rfl) dX10_addPart_40 ⟨Nat.zero_le _, Nat.zero_le _⟩ ?_
    refine zv_aload_n C 0 dX10_addPart_43 rfl rfl ?_
    refine zG9_2 C (by decide : kd 0 = _) kX10_26 dX10_addPart_44 ?_
    refine zG6_5 C (by decide : kd 34 = _) kX10_154 dX10_addPart_47 ?_
    refine zv_iload_n C 1 dX10_addPart_50 rfl rfl ?_
    refine zv_tald (j := i) C (by decide : kd 37 = _) (zI_ix (by omega)) (Nat.lt_of_lt_of_eq (show i < 8 by omega) (by decide)) dX10_addPart_51 ?_
    refine zv_astore (lv' := [(5, .ref (ob E (34 + 4 + 2 * i))), (0, .ref (ob E 0)), (1, .int (zI (i : Int))), (2, .int (zI (a : Int))), (3, .int (zI (b : Int))), (4, .int (zI (d : Int)))]) C dX10_addPart_52  (by decide) rfl ?_
    refine zv_aload C 0 dX10_addPart_54 rfl ?_
    refine zv_iload_n C 3 dX10_addPart_56 rfl rfl ?_
    refine zv_cviD (st := []) C (c_X8_hasRoomFor hfl E σ (34 + 4 + 2 * i) (S.tn i) (S.tr i) a hki hT ha) mX8_hasRoomFor kX10_313 hki rfl rfl rfl ⟨rfl, rfl⟩ (show zfit (zrm 1 22) 2 (zrm 4 124) = true from rfl) (Nat.le_of_ble_eq_true rfl) dX10_addPart_57 ⟨Nat.zero_le _, Nat.zero_le _⟩ ?_
    refine zv_if_neB (tgt := 74) C dX10_addPart_60 (by decide) (fun h60 => ?_) (fun h60 => ?_)
    · skip
      refine zv_aload_n C 1 dX10_addPart_74 rfl rfl ?_
      refine zG9_3 C (by decide : kd 0 = _) kX10_33 dX10_addPart_75 ?_
      refine zv_aload_n C 1 dX10_addPart_78 rfl rfl ?_
      refine zG9_2 C (by decide : kd 0 = _) kX10_26 dX10_addPart_79 ?_
      refine zv_cvvD (st := []) C (c_X1_remember hfl E σ 34 q hh.length (by decide) (by decide) hq1 hq12 hq2 hq3) mX1_remember kX10_304 (by decide : kd 54 = 1) rfl rfl rfl ⟨rfl, rfl⟩ (show zfit (zrm 3 103) 2 (zrm 4 124) = true from rfl) (Nat.le_of_ble_eq_true rfl) dX10_addPart_82 ⟨Nat.zero_le _, Nat.zero_le _⟩ ?_
      refine zv_aload C 0 dX10_addPart_85 rfl ?_
      refine zv_iload_n C 3 dX10_addPart_87 rfl rfl ?_
      refine zv_iload_n C 4 dX10_addPart_88 rfl rfl ?_
      refine zv_iload C 5 dX10_addPart_89 rfl ?_
      refine zv_cvvD (st := []) C (c_X8_append hfl E (hRem σ 34 q hh.length) (34 + 4 + 2 * i) (S.tn i) (S.tr i) a b d hki hTR (by omega)) mX8_append kX10_307 hki rfl rfl rfl ⟨rfl, rfl⟩ (show zfit (zrm 1 24) 4 (zrm 4 124) = true from rfl) (Nat.le_of_ble_eq_true rfl) dX10_addPart_91 ⟨Nat.zero_le _, Nat.zero_le _⟩ ?_
      refine zv_aload_n C 1 dX10_addPart_94 rfl rfl ?_
      refine zG9_2 C (by decide : kd 0 = _) kX10_26 dX10_addPart_95 ?_
      refine zG6_4 C (by decide : kd 34 = _) kX10_310 dX10_addPart_98 ?_
      refine zv_iload_n C 2 dX10_addPart_101 rfl rfl ?_
      refine zv_iconst (v := zI 0) C dX10_addPart_102 rfl ?_
      refine zv_iast (j := i) C (by decide : kd 36 = _) (zI_ix (by omega)) (Nat.lt_of_lt_of_eq (show i < 8 by omega) (by decide)) dX10_addPart_103 ?_
      refine zv_aload C 0 dX10_addPart_104 rfl ?_
      refine zG8_1 C hki kX10_158 dX10_addPart_106 ?_
      refine zv_eqi (y := (zI ((S.tn i + 1 : Nat) : Int))) (by rw [gI_sI, if_neg (by omega)]; rw [gI_sI, if_pos ⟨rfl, rfl⟩]) ?_
      exact zv_iret C hr rfl dX10_addPart_109 ⟨rfl, zCP_chg hRe (zSTp_fre (zSTp_apd hSR hi8 hroom.1 ha hroom.2 hb hd1 hd2)) (zSTq_fre (zSTq_e hq9 rfl rfl) i) (zFr_I (zFr_of (fun x y hx => gI_apW _ _ _ _ _ _ _ _ (by omega)) rfl) (by omega))⟩
    · exfalso
      exact h60 hroom
  · skip
    have hd3 := hd1 (by omega)
    refine zv_iload C 4 dX10_addPart_24 rfl ?_
    refine zv_iconst (v := zI 0) C dX10_addPart_26 rfl ?_
    refine zv_iconst (v := zI 0) C dX10_addPart_27 rfl ?_
    refine zv_csvD (st := []) C (c_X10_needWithin hfl E σ (d : Int) 0 0 (by omega) (by omega) (by omega) (by omega)) mX10_needWithin kX10_117 rfl ⟨rfl, rfl⟩ (show zfit (zrm 0 0) 3 (zrm 4 124) = true from rfl) (Nat.le_of_ble_eq_true rfl) dX10_addPart_28 ⟨Nat.zero_le _, Nat.zero_le _⟩ ?_
    refine zv_goto (tgt := 43) C dX10_addPart_31 (by decide) ?_
    refine zv_aload_n C 0 dX10_addPart_43 rfl rfl ?_
    refine zG9_2 C (by decide : kd 0 = _) kX10_26 dX10_addPart_44 ?_
    refine zG6_5 C (by decide : kd 34 = _) kX10_154 dX10_addPart_47 ?_
    refine zv_iload_n C 1 dX10_addPart_50 rfl rfl ?_
    refine zv_tald (j := i) C (by decide : kd 37 = _) (zI_ix (by omega)) (Nat.lt_of_lt_of_eq (show i < 8 by omega) (by decide)) dX10_addPart_51 ?_
    refine zv_astore (lv' := [(5, .ref (ob E (34 + 4 + 2 * i))), (0, .ref (ob E 0)), (1, .int (zI (i : Int))), (2, .int (zI (a : Int))), (3, .int (zI (b : Int))), (4, .int (zI (d : Int)))]) C dX10_addPart_52  (by decide) rfl ?_
    refine zv_aload C 0 dX10_addPart_54 rfl ?_
    refine zv_iload_n C 3 dX10_addPart_56 rfl rfl ?_
    refine zv_cviD (st := []) C (c_X8_hasRoomFor hfl E σ (34 + 4 + 2 * i) (S.tn i) (S.tr i) a hki hT ha) mX8_hasRoomFor kX10_313 hki rfl rfl rfl ⟨rfl, rfl⟩ (show zfit (zrm 1 22) 2 (zrm 4 124) = true from rfl) (Nat.le_of_ble_eq_true rfl) dX10_addPart_57 ⟨Nat.zero_le _, Nat.zero_le _⟩ ?_
    refine zv_if_neB (tgt := 74) C dX10_addPart_60 (by decide) (fun h60 => ?_) (fun h60 => ?_)
    · skip
      refine zv_aload_n C 1 dX10_addPart_74 rfl rfl ?_
      refine zG9_3 C (by decide : kd 0 = _) kX10_33 dX10_addPart_75 ?_
      refine zv_aload_n C 1 dX10_addPart_78 rfl rfl ?_
      refine zG9_2 C (by decide : kd 0 = _) kX10_26 dX10_addPart_79 ?_
      refine zv_cvvD (st := []) C (c_X1_remember hfl E σ 34 q hh.length (by decide) (by decide) hq1 hq12 hq2 hq3) mX1_remember kX10_304 (by decide : kd 54 = 1) rfl rfl rfl ⟨rfl, rfl⟩ (show zfit (zrm 3 103) 2 (zrm 4 124) = true from rfl) (Nat.le_of_ble_eq_true rfl) dX10_addPart_82 ⟨Nat.zero_le _, Nat.zero_le _⟩ ?_
      refine zv_aload C 0 dX10_addPart_85 rfl ?_
      refine zv_iload_n C 3 dX10_addPart_87 rfl rfl ?_
      refine zv_iload_n C 4 dX10_addPart_88 rfl rfl ?_
      refine zv_iload C 5 dX10_addPart_89 rfl ?_
      refine zv_cvvD (st := []) C (c_X8_append hfl E (hRem σ 34 q hh.length) (34 + 4 + 2 * i) (S.tn i) (S.tr i) a b d hki hTR (by omega)) mX8_append kX10_307 hki rfl rfl rfl ⟨rfl, rfl⟩ (show zfit (zrm 1 24) 4 (zrm 4 124) = true from rfl) (Nat.le_of_ble_eq_true rfl) dX10_addPart_91 ⟨Nat.zero_le _, Nat.zero_le _⟩ ?_
      refine zv_aload_n C 1 dX10_addPart_94 rfl rfl ?_
      refine zG9_2 C (by decide : kd 0 = _) kX10_26 dX10_addPart_95 ?_
      refine zG6_4 C (by decide : kd 34 = _) kX10_310 dX10_addPart_98 ?_
      refine zv_iload_n C 2 dX10_addPart_101 rfl rfl ?_
      refine zv_iconst (v := zI 0) C dX10_addPart_102 rfl ?_
      refine zv_iast (j := i) C (by decide : kd 36 = _) (zI_ix (by omega)) (Nat.lt_of_lt_of_eq (show i < 8 by omega) (by decide)) dX10_addPart_103 ?_
      refine zv_aload C 0 dX10_addPart_104 rfl ?_
      refine zG8_1 C hki kX10_158 dX10_addPart_106 ?_
      refine zv_eqi (y := (zI ((S.tn i + 1 : Nat) : Int))) (by rw [gI_sI, if_neg (by omega)]; rw [gI_sI, if_pos ⟨rfl, rfl⟩]) ?_
      exact zv_iret C hr rfl dX10_addPart_109 ⟨rfl, zCP_chg hRe (zSTp_fre (zSTp_apd hSR hi8 hroom.1 ha hroom.2 hb hd1 hd2)) (zSTq_fre (zSTq_e hq9 rfl rfl) i) (zFr_I (zFr_of (fun x y hx => gI_apW _ _ _ _ _ _ _ _ (by omega)) rfl) (by omega))⟩
    · exfalso
      exact h60 hroom
set_option maxRecDepth 20000 in
theorem x1_X10_addPart {l : Launch} (hfl : l.stackTraces = false) (E : zE) (σ : zS) (U : zSU) (b : Int) (y : Int) (z : Int) (w : Int) (hU : zSUp σ 29 U) (hbi : -2147483648 ≤ b ∧ b < 2147483648) (hno : ¬ (0 ≤ b ∧ b < U.nb)) : zRx l E yX10_addPart cX10_addPart 6 (some .int) (zrx 9 200) [.ref (ob E 0), .int (zI b), .int (zI y), .int (zI z), .int (zI w)] σ "java/lang/IndexOutOfBoundsException" := by
  refine vx_ofW (cc := cX10_addPart) (maxL := 6) (ret := (some .int)) (by decide) rfl ?_
  intro p e s m args below meth c s₁ B hml hout hv
  obtain ⟨rfl, hd⟩ := hv
  have C := zX_of (own := RX10) hfl B hml rfl hd rfl
  have hr := B.returns
  refine zV_go hd (Nat.le_of_ble_eq_true rfl) (lv := [(0, .ref (ob E 0)), (1, .int (zI b)), (2, .int (zI y)), (3, .int (zI z)), (4, .int (zI w))]) rfl ?_
  have hnb : U.nb ≤ 8 := hU.2.2.1
  have hs0 := hU.2.2.2.1
  
  refine zv_aload_n C 0 dX10_addPart_0 rfl rfl ?_
  refine zv_iload_n C 1 dX10_addPart_1 rfl rfl ?_
  exact zv_xcv (st := []) C (x_X10_needBody hfl E σ U b hU hbi hno) hout mX10_needBody kX10_140 (by decide : kd 0 = 9) rfl rfl rfl ⟨rfl, rfl⟩ (show zfit (zrx 6 100) 2 (zrx 9 200) = true from rfl) (Nat.le_of_ble_eq_true rfl) dX10_addPart_2
set_option maxRecDepth 20000 in
theorem x2_X10_addPart {l : Launch} (hfl : l.stackTraces = false) (E : zE) (σ : zS) (U : zSU) (i : Nat) (y z w : Int) (hU : zSUp σ 29 U) (hi : i < U.nb) (hyi : -2147483648 ≤ y ∧ y < 2147483648) (hno : ¬ (0 ≤ y ∧ y ≤ 2)) : zRx l E yX10_addPart cX10_addPart 6 (some .int) (zrx 9 200) [.ref (ob E 0), .int (zI (i : Int)), .int (zI y), .int (zI z), .int (zI w)] σ "java/lang/IllegalArgumentException" := by
  refine vx_ofW (cc := cX10_addPart) (maxL := 6) (ret := (some .int)) (by decide) rfl ?_
  intro p e s m args below meth c s₁ B hml hout hv
  obtain ⟨rfl, hd⟩ := hv
  have C := zX_of (own := RX10) hfl B hml rfl hd rfl
  have hr := B.returns
  refine zV_go hd (Nat.le_of_ble_eq_true rfl) (lv := [(0, .ref (ob E 0)), (1, .int (zI (i : Int))), (2, .int (zI y)), (3, .int (zI z)), (4, .int (zI w))]) rfl ?_
  have hnb : U.nb ≤ 8 := hU.2.2.1
  have hs0 := hU.2.2.2.1
  
  refine zv_aload_n C 0 dX10_addPart_0 rfl rfl ?_
  refine zv_iload_n C 1 dX10_addPart_1 rfl rfl ?_
  refine zv_cvvD (st := []) C (c_X10_needBody hfl E σ U (i : Int) hU (by omega) (by omega)) mX10_needBody kX10_140 (by decide : kd 0 = 9) rfl rfl rfl ⟨rfl, rfl⟩ (show zfit (zrm 0 0) 2 (zrx 9 200) = true from rfl) (Nat.le_of_ble_eq_true rfl) dX10_addPart_2 ⟨Nat.zero_le _, Nat.zero_le _⟩ ?_
  refine zv_iload_n C 2 dX10_addPart_5 rfl rfl ?_
  refine zv_iconst (v := zI 0) C dX10_addPart_6 rfl ?_
  refine zv_iconst (v := zI 2) C dX10_addPart_7 rfl ?_
  exact zv_xcs (st := []) C (x_X10_needWithin hfl E σ y 0 2 hyi (by omega) (by omega) hno) hout mX10_needWithin kX10_117 rfl ⟨rfl, rfl⟩ (show zfit (zrx 6 100) 3 (zrx 9 200) = true from rfl) (Nat.le_of_ble_eq_true rfl) dX10_addPart_8
set_option maxRecDepth 20000 in
theorem x3_X10_addPart {l : Launch} (hfl : l.stackTraces = false) (E : zE) (σ : zS) (U : zSU) (i : Nat) (y z w : Int) (hU : zSUp σ 29 U) (hi : i < U.nb) (hy : 0 ≤ y ∧ y ≤ 2) (hzi : -2147483648 ≤ z ∧ z < 2147483648) (hno : ¬ (8 ≤ z ∧ z ≤ 100)) : zRx l E yX10_addPart cX10_addPart 6 (some .int) (zrx 9 200) [.ref (ob E 0), .int (zI (i : Int)), .int (zI y), .int (zI z), .int (zI w)] σ "java/lang/IllegalArgumentException" := by
  refine vx_ofW (cc := cX10_addPart) (maxL := 6) (ret := (some .int)) (by decide) rfl ?_
  intro p e s m args below meth c s₁ B hml hout hv
  obtain ⟨rfl, hd⟩ := hv
  have C := zX_of (own := RX10) hfl B hml rfl hd rfl
  have hr := B.returns
  refine zV_go hd (Nat.le_of_ble_eq_true rfl) (lv := [(0, .ref (ob E 0)), (1, .int (zI (i : Int))), (2, .int (zI y)), (3, .int (zI z)), (4, .int (zI w))]) rfl ?_
  have hnb : U.nb ≤ 8 := hU.2.2.1
  have hs0 := hU.2.2.2.1
  
  refine zv_aload_n C 0 dX10_addPart_0 rfl rfl ?_
  refine zv_iload_n C 1 dX10_addPart_1 rfl rfl ?_
  refine zv_cvvD (st := []) C (c_X10_needBody hfl E σ U (i : Int) hU (by omega) (by omega)) mX10_needBody kX10_140 (by decide : kd 0 = 9) rfl rfl rfl ⟨rfl, rfl⟩ (show zfit (zrm 0 0) 2 (zrx 9 200) = true from rfl) (Nat.le_of_ble_eq_true rfl) dX10_addPart_2 ⟨Nat.zero_le _, Nat.zero_le _⟩ ?_
  refine zv_iload_n C 2 dX10_addPart_5 rfl rfl ?_
  refine zv_iconst (v := zI 0) C dX10_addPart_6 rfl ?_
  refine zv_iconst (v := zI 2) C dX10_addPart_7 rfl ?_
  refine zv_csvD (st := []) C (c_X10_needWithin hfl E σ y 0 2 (by omega) (by omega) (by omega) hy) mX10_needWithin kX10_117 rfl ⟨rfl, rfl⟩ (show zfit (zrm 0 0) 3 (zrx 9 200) = true from rfl) (Nat.le_of_ble_eq_true rfl) dX10_addPart_8 ⟨Nat.zero_le _, Nat.zero_le _⟩ ?_
  refine zv_iload_n C 3 dX10_addPart_11 rfl rfl ?_
  refine zv_bipush (v := zI 8) C dX10_addPart_12 (by decide) ?_
  refine zv_bipush (v := zI 100) C dX10_addPart_14 (by decide) ?_
  exact zv_xcs (st := []) C (x_X10_needWithin hfl E σ z 8 100 hzi (by omega) (by omega) hno) hout mX10_needWithin kX10_117 rfl ⟨rfl, rfl⟩ (show zfit (zrx 6 100) 3 (zrx 9 200) = true from rfl) (Nat.le_of_ble_eq_true rfl) dX10_addPart_16
set_option maxRecDepth 20000 in
theorem x4_X10_addPart {l : Launch} (hfl : l.stackTraces = false) (E : zE) (σ : zS) (U : zSU) (i : Nat) (z w : Int) (hU : zSUp σ 29 U) (hi : i < U.nb) (hz : 8 ≤ z ∧ z ≤ 100) (hwi : -2147483648 ≤ w ∧ w < 2147483648) (hno : ¬ w = 0) : zRx l E yX10_addPart cX10_addPart 6 (some .int) (zrx 9 200) [.ref (ob E 0), .int (zI (i : Int)), .int (zI 2), .int (zI z), .int (zI w)] σ "java/lang/IllegalArgumentException" := by
  refine vx_ofW (cc := cX10_addPart) (maxL := 6) (ret := (some .int)) (by decide) rfl ?_
  intro p e s m args below meth c s₁ B hml hout hv
  obtain ⟨rfl, hd⟩ := hv
  have C := zX_of (own := RX10) hfl B hml rfl hd rfl
  have hr := B.returns
  refine zV_go hd (Nat.le_of_ble_eq_true rfl) (lv := [(0, .ref (ob E 0)), (1, .int (zI (i : Int))), (2, .int (zI 2)), (3, .int (zI z)), (4, .int (zI w))]) rfl ?_
  have hnb : U.nb ≤ 8 := hU.2.2.1
  have hs0 := hU.2.2.2.1
  
  refine zv_aload_n C 0 dX10_addPart_0 rfl rfl ?_
  refine zv_iload_n C 1 dX10_addPart_1 rfl rfl ?_
  refine zv_cvvD (st := []) C (c_X10_needBody hfl E σ U (i : Int) hU (by omega) (by omega)) mX10_needBody kX10_140 (by decide : kd 0 = 9) rfl rfl rfl ⟨rfl, rfl⟩ (show zfit (zrm 0 0) 2 (zrx 9 200) = true from rfl) (Nat.le_of_ble_eq_true rfl) dX10_addPart_2 ⟨Nat.zero_le _, Nat.zero_le _⟩ ?_
  refine zv_iload_n C 2 dX10_addPart_5 rfl rfl ?_
  refine zv_iconst (v := zI 0) C dX10_addPart_6 rfl ?_
  refine zv_iconst (v := zI 2) C dX10_addPart_7 rfl ?_
  refine zv_csvD (st := []) C (c_X10_needWithin hfl E σ 2 0 2 (by omega) (by omega) (by omega) (by omega)) mX10_needWithin kX10_117 rfl ⟨rfl, rfl⟩ (show zfit (zrm 0 0) 3 (zrx 9 200) = true from rfl) (Nat.le_of_ble_eq_true rfl) dX10_addPart_8 ⟨Nat.zero_le _, Nat.zero_le _⟩ ?_
  refine zv_iload_n C 3 dX10_addPart_11 rfl rfl ?_
  refine zv_bipush (v := zI 8) C dX10_addPart_12 (by decide) ?_
  refine zv_bipush (v := zI 100) C dX10_addPart_14 (by decide) ?_
  refine zv_csvD (st := []) C (c_X10_needWithin hfl E σ z 8 100 (by omega) (by omega) (by omega) hz) mX10_needWithin kX10_117 rfl ⟨rfl, rfl⟩ (show zfit (zrm 0 0) 3 (zrx 9 200) = true from rfl) (Nat.le_of_ble_eq_true rfl) dX10_addPart_16 ⟨Nat.zero_le _, Nat.zero_le _⟩ ?_
  refine zv_iload_n C 2 dX10_addPart_19 rfl rfl ?_
  refine zv_iconst (v := zI 2) C dX10_addPart_20 rfl ?_
  refine zv_icmp_neZ (tgt := 34) C (by omega) (by omega) dX10_addPart_21 (by decide) (fun h21 => ?_) (fun h21 => ?_)
  · exfalso
    omega
  · skip
    refine zv_iload C 4 dX10_addPart_24 rfl ?_
    refine zv_iconst (v := zI 0) C dX10_addPart_26 rfl ?_
    refine zv_iconst (v := zI 0) C dX10_addPart_27 rfl ?_
    exact zv_xcs (st := []) C (x_X10_needWithin hfl E σ w 0 0 hwi (by omega) (by omega) (by omega)) hout mX10_needWithin kX10_117 rfl ⟨rfl, rfl⟩ (show zfit (zrx 6 100) 3 (zrx 9 200) = true from rfl) (Nat.le_of_ble_eq_true rfl) dX10_addPart_28
set_option maxRecDepth 20000 in
theorem x5_X10_addPart {l : Launch} (hfl : l.stackTraces = false) (E : zE) (σ : zS) (U : zSU) (i : Nat) (y z w : Int) (hU : zSUp σ 29 U) (hi : i < U.nb) (hy : 0 ≤ y ∧ y < 2) (hz : 8 ≤ z ∧ z ≤ 100) (hwi : -2147483648 ≤ w ∧ w < 2147483648) (hno : ¬ (8 ≤ w ∧ w ≤ 100)) : zRx l E yX10_addPart cX10_addPart 6 (some .int) (zrx 9 200) [.ref (ob E 0), .int (zI (i : Int)), .int (zI y), .int (zI z), .int (zI w)] σ "java/lang/IllegalArgumentException" := by
  refine vx_ofW (cc := cX10_addPart) (maxL := 6) (ret := (some .int)) (by decide) rfl ?_
  intro p e s m args below meth c s₁ B hml hout hv
  obtain ⟨rfl, hd⟩ := hv
  have C := zX_of (own := RX10) hfl B hml rfl hd rfl
  have hr := B.returns
  refine zV_go hd (Nat.le_of_ble_eq_true rfl) (lv := [(0, .ref (ob E 0)), (1, .int (zI (i : Int))), (2, .int (zI y)), (3, .int (zI z)), (4, .int (zI w))]) rfl ?_
  have hnb : U.nb ≤ 8 := hU.2.2.1
  have hs0 := hU.2.2.2.1
  
  refine zv_aload_n C 0 dX10_addPart_0 rfl rfl ?_
  refine zv_iload_n C 1 dX10_addPart_1 rfl rfl ?_
  refine zv_cvvD (st := []) C (c_X10_needBody hfl E σ U (i : Int) hU (by omega) (by omega)) mX10_needBody kX10_140 (by decide : kd 0 = 9) rfl rfl rfl ⟨rfl, rfl⟩ (show zfit (zrm 0 0) 2 (zrx 9 200) = true from rfl) (Nat.le_of_ble_eq_true rfl) dX10_addPart_2 ⟨Nat.zero_le _, Nat.zero_le _⟩ ?_
  refine zv_iload_n C 2 dX10_addPart_5 rfl rfl ?_
  refine zv_iconst (v := zI 0) C dX10_addPart_6 rfl ?_
  refine zv_iconst (v := zI 2) C dX10_addPart_7 rfl ?_
  refine zv_csvD (st := []) C (c_X10_needWithin hfl E σ y 0 2 (by omega) (by omega) (by omega) (by omega)) mX10_needWithin kX10_117 rfl ⟨rfl, rfl⟩ (show zfit (zrm 0 0) 3 (zrx 9 200) = true from rfl) (Nat.le_of_ble_eq_true rfl) dX10_addPart_8 ⟨Nat.zero_le _, Nat.zero_le _⟩ ?_
  refine zv_iload_n C 3 dX10_addPart_11 rfl rfl ?_
  refine zv_bipush (v := zI 8) C dX10_addPart_12 (by decide) ?_
  refine zv_bipush (v := zI 100) C dX10_addPart_14 (by decide) ?_
  refine zv_csvD (st := []) C (c_X10_needWithin hfl E σ z 8 100 (by omega) (by omega) (by omega) hz) mX10_needWithin kX10_117 rfl ⟨rfl, rfl⟩ (show zfit (zrm 0 0) 3 (zrx 9 200) = true from rfl) (Nat.le_of_ble_eq_true rfl) dX10_addPart_16 ⟨Nat.zero_le _, Nat.zero_le _⟩ ?_
  refine zv_iload_n C 2 dX10_addPart_19 rfl rfl ?_
  refine zv_iconst (v := zI 2) C dX10_addPart_20 rfl ?_
  refine zv_icmp_neZ (tgt := 34) C (by omega) (by omega) dX10_addPart_21 (by decide) (fun h21 => ?_) (fun h21 => ?_)
  · skip
    refine zv_iload C 4 dX10_addPart_34 rfl ?_
    refine zv_bipush (v := zI 8) C dX10_addPart_36 (by decide) ?_
    refine zv_bipush (v := zI 100) C dX10_addPart_38 (by decide) ?_
    exact zv_xcs (st := []) C (x_X10_needWithin hfl E σ w 8 100 hwi (by omega) (by omega) hno) hout mX10_needWithin kX10_117 rfl ⟨rfl, rfl⟩ (show zfit (zrx 6 100) 3 (zrx 9 200) = true from rfl) (Nat.le_of_ble_eq_true rfl) dX10_addPart_40
  · exfalso
    omega
set_option maxRecDepth 20000 in
theorem x6_X10_addPart {l : Launch} (hfl : l.stackTraces = false) (E : zE) (σ : zS) (U : zSU) (S : zST) (i : Nat) (a b d : Nat) (hU : zSUp σ 29 U) (hS : zSTp σ 34 S) (hi : i < U.nb) (ha : a ≤ 2) (hb : 8 ≤ b ∧ b ≤ 100) (hd1 : a = 2 → d = 0) (hd2 : a ≠ 2 → 8 ≤ d ∧ d ≤ 100) (hno : ¬ (S.tn i < 4 ∧ (a = 2 ∨ tGe (S.tr i) (S.tn i) < 2))) : zRx l E yX10_addPart cX10_addPart 6 (some .int) (zrx 9 200) [.ref (ob E 0), .int (zI (i : Int)), .int (zI (a : Int)), .int (zI (b : Int)), .int (zI (d : Int))] σ "java/lang/IllegalStateException" := by
  refine vx_ofW (cc := cX10_addPart) (maxL := 6) (ret := (some .int)) (by decide) rfl ?_
  intro p e s m args below meth c s₁ B hml hout hv
  obtain ⟨rfl, hd⟩ := hv
  have C := zX_of (own := RX10) hfl B hml rfl hd rfl
  have hr := B.returns
  refine zV_go hd (Nat.le_of_ble_eq_true rfl) (lv := [(0, .ref (ob E 0)), (1, .int (zI (i : Int))), (2, .int (zI (a : Int))), (3, .int (zI (b : Int))), (4, .int (zI (d : Int)))]) rfl ?_
  have hnb : U.nb ≤ 8 := hU.2.2.1
  have hs0 := hU.2.2.2.1
  have hi8 : i < 8 := by omega
  have hki : kd (34 + 4 + 2 * i) = 8 := ((zst (show kd 34 = 6 by decide)).2.2.2 i hi8).1
  have hT := (hS.2.2.2.2.2.2 i hi8).1
  have hTw := (hS.2.2.2.2.2.2 i hi8).2
  have hd9 : d ≤ 100 := by
    rcases Nat.lt_or_ge a 2 with z | z
    · have := hd2 (by omega); omega
    · have := hd1 (by omega); omega
  
  refine zv_aload_n C 0 dX10_addPart_0 rfl rfl ?_
  refine zv_iload_n C 1 dX10_addPart_1 rfl rfl ?_
  refine zv_cvvD (st := []) C (c_X10_needBody hfl E σ U (i : Int) hU (by omega) (by omega)) mX10_needBody kX10_140 (by decide : kd 0 = 9) rfl rfl rfl ⟨rfl, rfl⟩ (show zfit (zrm 0 0) 2 (zrx 9 200) = true from rfl) (Nat.le_of_ble_eq_true rfl) dX10_addPart_2 ⟨Nat.zero_le _, Nat.zero_le _⟩ ?_
  refine zv_iload_n C 2 dX10_addPart_5 rfl rfl ?_
  refine zv_iconst (v := zI 0) C dX10_addPart_6 rfl ?_
  refine zv_iconst (v := zI 2) C dX10_addPart_7 rfl ?_
  refine zv_csvD (st := []) C (c_X10_needWithin hfl E σ (a : Int) 0 2 (by omega) (by omega) (by omega) (by omega)) mX10_needWithin kX10_117 rfl ⟨rfl, rfl⟩ (show zfit (zrm 0 0) 3 (zrx 9 200) = true from rfl) (Nat.le_of_ble_eq_true rfl) dX10_addPart_8 ⟨Nat.zero_le _, Nat.zero_le _⟩ ?_
  refine zv_iload_n C 3 dX10_addPart_11 rfl rfl ?_
  refine zv_bipush (v := zI 8) C dX10_addPart_12 (by decide) ?_
  refine zv_bipush (v := zI 100) C dX10_addPart_14 (by decide) ?_
  refine zv_csvD (st := []) C (c_X10_needWithin hfl E σ (b : Int) 8 100 (by omega) (by omega) (by omega) (by omega)) mX10_needWithin kX10_117 rfl ⟨rfl, rfl⟩ (show zfit (zrm 0 0) 3 (zrx 9 200) = true from rfl) (Nat.le_of_ble_eq_true rfl) dX10_addPart_16 ⟨Nat.zero_le _, Nat.zero_le _⟩ ?_
  refine zv_iload_n C 2 dX10_addPart_19 rfl rfl ?_
  refine zv_iconst (v := zI 2) C dX10_addPart_20 rfl ?_
  refine zv_icmp_neZ (tgt := 34) C (by omega) (by omega) dX10_addPart_21 (by decide) (fun h21 => ?_) (fun h21 => ?_)
  · skip
    have hd3 := hd2 (by omega)
    refine zv_iload C 4 dX10_addPart_34 rfl ?_
    refine zv_bipush (v := zI 8) C dX10_addPart_36 (by decide) ?_
    refine zv_bipush (v := zI 100) C dX10_addPart_38 (by decide) ?_
    refine zv_csvD (st := []) C (c_X10_needWithin hfl E σ (d : Int) 8 100 (by omega) (by omega) (by omega) (by omega)) mX10_needWithin kX10_117 rfl ⟨rfl, rfl⟩ (show zfit (zrm 0 0) 3 (zrx 9 200) = true from rfl) (Nat.le_of_ble_eq_true rfl) dX10_addPart_40 ⟨Nat.zero_le _, Nat.zero_le _⟩ ?_
    refine zv_aload_n C 0 dX10_addPart_43 rfl rfl ?_
    refine zG9_2 C (by decide : kd 0 = _) kX10_26 dX10_addPart_44 ?_
    refine zG6_5 C (by decide : kd 34 = _) kX10_154 dX10_addPart_47 ?_
    refine zv_iload_n C 1 dX10_addPart_50 rfl rfl ?_
    refine zv_tald (j := i) C (by decide : kd 37 = _) (zI_ix (by omega)) (Nat.lt_of_lt_of_eq (show i < 8 by omega) (by decide)) dX10_addPart_51 ?_
    refine zv_astore (lv' := [(5, .ref (ob E (34 + 4 + 2 * i))), (0, .ref (ob E 0)), (1, .int (zI (i : Int))), (2, .int (zI (a : Int))), (3, .int (zI (b : Int))), (4, .int (zI (d : Int)))]) C dX10_addPart_52  (by decide) rfl ?_
    refine zv_aload C 0 dX10_addPart_54 rfl ?_
    refine zv_iload_n C 3 dX10_addPart_56 rfl rfl ?_
    refine zv_cviD (st := []) C (c_X8_hasRoomFor hfl E σ (34 + 4 + 2 * i) (S.tn i) (S.tr i) a hki hT ha) mX8_hasRoomFor kX10_313 hki rfl rfl rfl ⟨rfl, rfl⟩ (show zfit (zrm 1 22) 2 (zrx 9 200) = true from rfl) (Nat.le_of_ble_eq_true rfl) dX10_addPart_57 ⟨Nat.zero_le _, Nat.zero_le _⟩ ?_
    refine zv_if_neB (tgt := 74) C dX10_addPart_60 (by decide) (fun h60 => ?_) (fun h60 => ?_)
    · exfalso
      exact hno h60
    · skip
      exact zv_throwW (text := "no room for the part") C hout rfl kX10_299 zini_IllegalStateException (by decide) (by decide) (by decide) zat_IllegalStateException zot_IllegalStateException dX10_addPart_63 dX10_addPart_66 dX10_addPart_67 dX10_addPart_70 dX10_addPart_73 (by decide) (by decide) ⟨by decide, by decide⟩
  · skip
    have hd3 := hd1 (by omega)
    refine zv_iload C 4 dX10_addPart_24 rfl ?_
    refine zv_iconst (v := zI 0) C dX10_addPart_26 rfl ?_
    refine zv_iconst (v := zI 0) C dX10_addPart_27 rfl ?_
    refine zv_csvD (st := []) C (c_X10_needWithin hfl E σ (d : Int) 0 0 (by omega) (by omega) (by omega) (by omega)) mX10_needWithin kX10_117 rfl ⟨rfl, rfl⟩ (show zfit (zrm 0 0) 3 (zrx 9 200) = true from rfl) (Nat.le_of_ble_eq_true rfl) dX10_addPart_28 ⟨Nat.zero_le _, Nat.zero_le _⟩ ?_
    refine zv_goto (tgt := 43) C dX10_addPart_31 (by decide) ?_
    refine zv_aload_n C 0 dX10_addPart_43 rfl rfl ?_
    refine zG9_2 C (by decide : kd 0 = _) kX10_26 dX10_addPart_44 ?_
    refine zG6_5 C (by decide : kd 34 = _) kX10_154 dX10_addPart_47 ?_
    refine zv_iload_n C 1 dX10_addPart_50 rfl rfl ?_
    refine zv_tald (j := i) C (by decide : kd 37 = _) (zI_ix (by omega)) (Nat.lt_of_lt_of_eq (show i < 8 by omega) (by decide)) dX10_addPart_51 ?_
    refine zv_astore (lv' := [(5, .ref (ob E (34 + 4 + 2 * i))), (0, .ref (ob E 0)), (1, .int (zI (i : Int))), (2, .int (zI (a : Int))), (3, .int (zI (b : Int))), (4, .int (zI (d : Int)))]) C dX10_addPart_52  (by decide) rfl ?_
    refine zv_aload C 0 dX10_addPart_54 rfl ?_
    refine zv_iload_n C 3 dX10_addPart_56 rfl rfl ?_
    refine zv_cviD (st := []) C (c_X8_hasRoomFor hfl E σ (34 + 4 + 2 * i) (S.tn i) (S.tr i) a hki hT ha) mX8_hasRoomFor kX10_313 hki rfl rfl rfl ⟨rfl, rfl⟩ (show zfit (zrm 1 22) 2 (zrx 9 200) = true from rfl) (Nat.le_of_ble_eq_true rfl) dX10_addPart_57 ⟨Nat.zero_le _, Nat.zero_le _⟩ ?_
    refine zv_if_neB (tgt := 74) C dX10_addPart_60 (by decide) (fun h60 => ?_) (fun h60 => ?_)
    · exfalso
      exact hno h60
    · skip
      exact zv_throwW (text := "no room for the part") C hout rfl kX10_299 zini_IllegalStateException (by decide) (by decide) (by decide) zat_IllegalStateException zot_IllegalStateException dX10_addPart_63 dX10_addPart_66 dX10_addPart_67 dX10_addPart_70 dX10_addPart_73 (by decide) (by decide) ⟨by decide, by decide⟩
set_option maxRecDepth 20000 in
theorem c_X10_addStock {l : Launch} (hfl : l.stackTraces = false) (E : zE) (σ : zS) (ni : Nat) (tx : Nat → Int) (ec : Nat) (eo : Int) (U : zSU) (S : zST) (hh : List zST) (kp : Option zST) (ou : List Nat) (t : Nat) (h : zCP σ (zDv.mk ni tx ec eo U S hh kp ou)) (ht : 8 ≤ t ∧ t ≤ 100) (hok : S.n < 16 ∧ sHas S.f (t : Int) S.n = false) : zRi l E yX10_addStock cX10_addStock 2 .int (zrm 4 124) [.ref (ob E 0), .int (zI (t : Int))] σ (fun r τ => r = zI ((S.n + 1 : Nat) : Int) ∧ zCP τ ((zDv.mk ni tx ec eo U S hh kp ou).re.sS (S.ins t)) ∧ zFr 0 327 σ τ) := by
  refine Met.ofW (cc := cX10_addStock) (maxL := 2) (ret := (some .int)) (by decide +kernel) rfl ?_
  intro p e s m args below meth c s₁ B hml hv
  obtain ⟨rfl, hd⟩ := hv
  have C := zX_of (own := RX10) hfl B hml rfl hd rfl
  have hr := B.returns
  refine zV_go hd (Nat.le_of_ble_eq_true rfl) (lv := [(0, .ref (ob E 0)), (1, .int (zI (t : Int)))]) rfl ?_
  obtain ⟨q, hq12, hq1, hq2, hq3, hq4⟩ := h.2.2.2.2.1
  have hq2 : gI σ 54 2 = zI (hh.length : Int) := hq2
  have hq3 : hh.length ≤ 12 := hq3
  have hU : zSUp σ 29 U := h.2.2.1
  have hS : zSTp σ 34 S := h.2.2.2.1.1
  have hq9 : zSTq S := h.2.2.2.1.2
  have hRe : zCP (hRem σ 34 q hh.length) (zDv.mk ni tx ec eo U S hh kp ou).re := zCP_re h hq12 hq1 hq3 hq4
  have hSR : zSTp (hRem σ 34 q hh.length) 34 S := hRe.2.2.2.1.1
  have hnb : U.nb ≤ 8 := hU.2.2.1
  have hs0 := hU.2.2.2.1
  
  refine zv_iload_n C 1 dX10_addStock_0 rfl rfl ?_
  refine zv_bipush (v := zI 8) C dX10_addStock_1 (by decide) ?_
  refine zv_bipush (v := zI 100) C dX10_addStock_3 (by decide) ?_
  refine zv_csvD (st := []) C (c_X10_needWithin hfl E σ (t : Int) 8 100 (by omega) (by omega) (by omega) (by omega)) mX10_needWithin kX10_117 rfl ⟨rfl, rfl⟩ (show zfit (zrm 0 0) 3 (zrm 4 124) = true from rfl) (Nat.le_of_ble_eq_true rfl) dX10_addStock_5 ⟨Nat.zero_le _, Nat.zero_le _⟩ ?_
  refine zv_aload_n C 0 dX10_addStock_8 rfl rfl ?_
  refine zG9_2 C (by decide : kd 0 = _) kX10_26 dX10_addStock_9 ?_
  refine zv_iload_n C 1 dX10_addStock_12 rfl rfl ?_
  refine zv_cviD (st := []) C (c_X6_canTakeStock hfl E σ 34 S.n S.f (t : Int) (by decide) hS.1 (by omega)) mX6_canTakeStock kX10_320 (by decide : kd 34 = 6) rfl rfl rfl ⟨rfl, rfl⟩ (show zfit (zrm 1 22) 2 (zrm 4 124) = true from rfl) (Nat.le_of_ble_eq_true rfl) dX10_addStock_13 ⟨Nat.zero_le _, Nat.zero_le _⟩ ?_
  refine zv_if_neB (tgt := 30) C dX10_addStock_16 (by decide) (fun h16 => ?_) (fun h16 => ?_)
  · skip
    refine zv_aload_n C 0 dX10_addStock_30 rfl rfl ?_
    refine zG9_3 C (by decide : kd 0 = _) kX10_33 dX10_addStock_31 ?_
    refine zv_aload_n C 0 dX10_addStock_34 rfl rfl ?_
    refine zG9_2 C (by decide : kd 0 = _) kX10_26 dX10_addStock_35 ?_
    refine zv_cvvD (st := []) C (c_X1_remember hfl E σ 34 q hh.length (by decide) (by decide) hq1 hq12 hq2 hq3) mX1_remember kX10_304 (by decide : kd 54 = 1) rfl rfl rfl ⟨rfl, rfl⟩ (show zfit (zrm 3 103) 2 (zrm 4 124) = true from rfl) (Nat.le_of_ble_eq_true rfl) dX10_addStock_38 ⟨Nat.zero_le _, Nat.zero_le _⟩ ?_
    refine zv_aload_n C 0 dX10_addStock_41 rfl rfl ?_
    refine zG9_2 C (by decide : kd 0 = _) kX10_26 dX10_addStock_42 ?_
    refine zv_iload_n C 1 dX10_addStock_45 rfl rfl ?_
    refine zv_cvvD (st := []) C (c_X6_insertStock hfl E (hRem σ 34 q hh.length) 34 S.n S.f t (by decide) hSR.1 (by omega) (by omega)) mX6_insertStock kX10_325 (by decide : kd 34 = 6) rfl rfl rfl ⟨rfl, rfl⟩ (show zfit (zrm 0 0) 3 (zrm 4 124) = true from rfl) (Nat.le_of_ble_eq_true rfl) dX10_addStock_46 ⟨Nat.zero_le _, Nat.zero_le _⟩ ?_
    refine zv_aload_n C 0 dX10_addStock_49 rfl rfl ?_
    refine zG9_2 C (by decide : kd 0 = _) kX10_26 dX10_addStock_50 ?_
    refine zG6_1 C (by decide : kd 34 = _) kX10_121 dX10_addStock_53 ?_
    refine zv_eqi (y := (zI ((S.n + 1 : Nat) : Int))) (by rw [gI_sI, if_pos ⟨rfl, rfl⟩]) ?_
    exact zv_iret C hr rfl dX10_addStock_56 ⟨rfl, zCP_chg hRe (zSTp_ins hSR hok.1 hok.2 ht) (zSTq_e hq9 rfl rfl) (zFr_of (fun x y hx => by rw [gI_sI, if_neg (by omega), gI_inI, if_neg (by omega), if_neg (by omega)]) rfl)⟩
  · exfalso
    exact h16 hok
set_option maxRecDepth 20000 in
theorem x1_X10_addStock {l : Launch} (hfl : l.stackTraces = false) (E : zE) (σ : zS) (y : Int) (hyi : -2147483648 ≤ y ∧ y < 2147483648) (hno : ¬ (8 ≤ y ∧ y ≤ 100)) : zRx l E yX10_addStock cX10_addStock 2 (some .int) (zrx 9 200) [.ref (ob E 0), .int (zI y)] σ "java/lang/IllegalArgumentException" := by
  refine vx_ofW (cc := cX10_addStock) (maxL := 2) (ret := (some .int)) (by decide) rfl ?_
  intro p e s m args below meth c s₁ B hml hout hv
  obtain ⟨rfl, hd⟩ := hv
  have C := zX_of (own := RX10) hfl B hml rfl hd rfl
  have hr := B.returns
  refine zV_go hd (Nat.le_of_ble_eq_true rfl) (lv := [(0, .ref (ob E 0)), (1, .int (zI y))]) rfl ?_
  skip
  refine zv_iload_n C 1 dX10_addStock_0 rfl rfl ?_
  refine zv_bipush (v := zI 8) C dX10_addStock_1 (by decide) ?_
  refine zv_bipush (v := zI 100) C dX10_addStock_3 (by decide) ?_
  exact zv_xcs (st := []) C (x_X10_needWithin hfl E σ y 8 100 hyi (by omega) (by omega) hno) hout mX10_needWithin kX10_117 rfl ⟨rfl, rfl⟩ (show zfit (zrx 6 100) 3 (zrx 9 200) = true from rfl) (Nat.le_of_ble_eq_true rfl) dX10_addStock_5
set_option maxRecDepth 20000 in
theorem x2_X10_addStock {l : Launch} (hfl : l.stackTraces = false) (E : zE) (σ : zS) (S : zST) (t : Nat) (hS : zSTp σ 34 S) (ht : 8 ≤ t ∧ t ≤ 100) (hno : ¬ (S.n < 16 ∧ sHas S.f (t : Int) S.n = false)) : zRx l E yX10_addStock cX10_addStock 2 (some .int) (zrx 9 200) [.ref (ob E 0), .int (zI (t : Int))] σ "java/lang/IllegalStateException" := by
  refine vx_ofW (cc := cX10_addStock) (maxL := 2) (ret := (some .int)) (by decide) rfl ?_
  intro p e s m args below meth c s₁ B hml hout hv
  obtain ⟨rfl, hd⟩ := hv
  have C := zX_of (own := RX10) hfl B hml rfl hd rfl
  have hr := B.returns
  refine zV_go hd (Nat.le_of_ble_eq_true rfl) (lv := [(0, .ref (ob E 0)), (1, .int (zI (t : Int)))]) rfl ?_
  skip
  refine zv_iload_n C 1 dX10_addStock_0 rfl rfl ?_
  refine zv_bipush (v := zI 8) C dX10_addStock_1 (by decide) ?_
  refine zv_bipush (v := zI 100) C dX10_addStock_3 (by decide) ?_
  refine zv_csvD (st := []) C (c_X10_needWithin hfl E σ (t : Int) 8 100 (by omega) (by omega) (by omega) (by omega)) mX10_needWithin kX10_117 rfl ⟨rfl, rfl⟩ (show zfit (zrm 0 0) 3 (zrx 9 200) = true from rfl) (Nat.le_of_ble_eq_true rfl) dX10_addStock_5 ⟨Nat.zero_le _, Nat.zero_le _⟩ ?_
  refine zv_aload_n C 0 dX10_addStock_8 rfl rfl ?_
  refine zG9_2 C (by decide : kd 0 = _) kX10_26 dX10_addStock_9 ?_
  refine zv_iload_n C 1 dX10_addStock_12 rfl rfl ?_
  refine zv_cviD (st := []) C (c_X6_canTakeStock hfl E σ 34 S.n S.f (t : Int) (by decide) hS.1 (by omega)) mX6_canTakeStock kX10_320 (by decide : kd 34 = 6) rfl rfl rfl ⟨rfl, rfl⟩ (show zfit (zrm 1 22) 2 (zrx 9 200) = true from rfl) (Nat.le_of_ble_eq_true rfl) dX10_addStock_13 ⟨Nat.zero_le _, Nat.zero_le _⟩ ?_
  refine zv_if_neB (tgt := 30) C dX10_addStock_16 (by decide) (fun h16 => ?_) (fun h16 => ?_)
  · exfalso
    exact hno h16
  · skip
    exact zv_throwW (text := "the stock has it, or is full") C hout rfl kX10_299 zini_IllegalStateException (by decide) (by decide) (by decide) zat_IllegalStateException zot_IllegalStateException dX10_addStock_19 dX10_addStock_22 dX10_addStock_23 dX10_addStock_26 dX10_addStock_29 (by decide) (by decide) ⟨by decide, by decide⟩
def zST.slk (S : zST) (v : Nat) : zST := zST.mk S.n S.f v S.dy (fun _ => 0) S.tn S.tr
theorem zSTp_slk {σ : zS} {k : Nat} {S : zST} {v : Nat} (h : zSTp σ k S) (hv : v ≤ 999) : zSTp (flI (sI σ k 2 (zI (v : Int))) (k + 2) 8 (zI 0)) k (S.slk v) := by
  have e : ∀ x y, x ≠ k + 2 → ¬ (x = k ∧ y = 2) → gI (flI (sI σ k 2 (zI (v : Int))) (k + 2) 8 (zI 0)) x y = gI σ x y := fun x y q1 q2 => by rw [gI_flI, if_neg (by omega), gI_sI, if_neg q2]
  obtain ⟨h1, h2, h3, h4, h5, h6, h7⟩ := h
  exact ⟨⟨(e k 1 (by omega) (by omega)).trans h1.1, h1.2.1, fun i hi => (e (k + 1) i (by omega) (by omega)).trans (h1.2.2.1 i hi), h1.2.2.2⟩, h2, h3, ⟨by rw [gI_flI, if_neg (by omega), gI_sI, if_pos ⟨rfl, rfl⟩]; rfl, hv⟩, (e k 3 (by omega) (by omega)).trans h5, fun j hj => by rw [gI_flI, if_pos ⟨rfl, hj⟩]; rfl, fun j hj => ⟨zTr_w (h7 j hj).1 (fun x y a b => e x y (by omega) (by omega)), (h7 j hj).2⟩⟩
set_option maxRecDepth 20000 in
theorem c_X10_setSlack {l : Launch} (hfl : l.stackTraces = false) (E : zE) (σ : zS) (ni : Nat) (tx : Nat → Int) (ec : Nat) (eo : Int) (U : zSU) (S : zST) (hh : List zST) (kp : Option zST) (ou : List Nat) (t : Nat) (h : zCP σ (zDv.mk ni tx ec eo U S hh kp ou)) (ht : t ≤ 999) : zRi l E yX10_setSlack cX10_setSlack 3 .int (zrm 4 124) [.ref (ob E 0), .int (zI (t : Int))] σ (fun r τ => r = zI (S.sl : Int) ∧ zCP τ ((zDv.mk ni tx ec eo U S hh kp ou).re.sS (S.slk t)) ∧ zFr 0 327 σ τ) := by
  refine Met.ofW (cc := cX10_setSlack) (maxL := 3) (ret := (some .int)) (by decide +kernel) rfl ?_
  intro p e s m args below meth c s₁ B hml hv
  obtain ⟨rfl, hd⟩ := hv
  have C := zX_of (own := RX10) hfl B hml rfl hd rfl
  have hr := B.returns
  refine zV_go hd (Nat.le_of_ble_eq_true rfl) (lv := [(0, .ref (ob E 0)), (1, .int (zI (t : Int)))]) rfl ?_
  obtain ⟨q, hq12, hq1, hq2, hq3, hq4⟩ := h.2.2.2.2.1
  have hq2 : gI σ 54 2 = zI (hh.length : Int) := hq2
  have hq3 : hh.length ≤ 12 := hq3
  have hU : zSUp σ 29 U := h.2.2.1
  have hS : zSTp σ 34 S := h.2.2.2.1.1
  have hq9 : zSTq S := h.2.2.2.1.2
  have hRe : zCP (hRem σ 34 q hh.length) (zDv.mk ni tx ec eo U S hh kp ou).re := zCP_re h hq12 hq1 hq3 hq4
  have hSR : zSTp (hRem σ 34 q hh.length) 34 S := hRe.2.2.2.1.1
  have hnb : U.nb ≤ 8 := hU.2.2.1
  have hs0 := hU.2.2.2.1
  
  refine zv_iload_n C 1 dX10_setSlack_0 rfl rfl ?_
  refine zv_iconst (v := zI 0) C dX10_setSlack_1 rfl ?_
  refine zv_sipush (v := zI 999) C dX10_setSlack_2 (by decide) ?_
  refine zv_csvD (st := []) C (c_X10_needWithin hfl E σ (t : Int) 0 999 (by omega) (by omega) (by omega) (by omega)) mX10_needWithin kX10_117 rfl ⟨rfl, rfl⟩ (show zfit (zrm 0 0) 3 (zrm 4 124) = true from rfl) (Nat.le_of_ble_eq_true rfl) dX10_setSlack_5 ⟨Nat.zero_le _, Nat.zero_le _⟩ ?_
  refine zv_aload_n C 0 dX10_setSlack_8 rfl rfl ?_
  refine zG9_2 C (by decide : kd 0 = _) kX10_26 dX10_setSlack_9 ?_
  refine zG6_2 C (by decide : kd 34 = _) kX10_127 dX10_setSlack_12 ?_
  refine zv_eqi (y := zI (S.sl : Int)) (hS.2.2.2.1.1) ?_
  refine zv_istore_n (lv' := [(2, .int (zI (S.sl : Int))), (0, .ref (ob E 0)), (1, .int (zI (t : Int)))]) C dX10_setSlack_15 rfl (by decide) rfl ?_
  refine zv_aload_n C 1 dX10_setSlack_16 rfl rfl ?_
  refine zG9_3 C (by decide : kd 0 = _) kX10_33 dX10_setSlack_17 ?_
  refine zv_aload_n C 1 dX10_setSlack_20 rfl rfl ?_
  refine zG9_2 C (by decide : kd 0 = _) kX10_26 dX10_setSlack_21 ?_
  refine zv_cvvD (st := []) C (c_X1_remember hfl E σ 34 q hh.length (by decide) (by decide) hq1 hq12 hq2 hq3) mX1_remember kX10_304 (by decide : kd 54 = 1) rfl rfl rfl ⟨rfl, rfl⟩ (show zfit (zrm 3 103) 2 (zrm 4 124) = true from rfl) (Nat.le_of_ble_eq_true rfl) dX10_setSlack_24 ⟨Nat.zero_le _, Nat.zero_le _⟩ ?_
  refine zv_aload_n C 1 dX10_setSlack_27 rfl rfl ?_
  refine zG9_2 C (by decide : kd 0 = _) kX10_26 dX10_setSlack_28 ?_
  refine zv_iload_n C 2 dX10_setSlack_31 rfl rfl ?_
  refine zP6_2 C (by decide : kd 34 = _) kX10_127 dX10_setSlack_32 ?_
  refine zv_aload_n C 1 dX10_setSlack_35 rfl rfl ?_
  refine zG9_2 C (by decide : kd 0 = _) kX10_26 dX10_setSlack_36 ?_
  refine zv_cvvD (st := []) C (c_X6_freeAllLags hfl E (sI (hRem σ 34 q hh.length) 34 2 (zI (t : Int))) 34 (by decide)) mX6_freeAllLags kX10_331 (by decide : kd 34 = 6) rfl rfl rfl ⟨rfl, rfl⟩ (show zfit (zrm 0 0) 2 (zrm 4 124) = true from rfl) (Nat.le_of_ble_eq_true rfl) dX10_setSlack_39 ⟨Nat.zero_le _, Nat.zero_le _⟩ ?_
  refine zv_iload_n C 0 dX10_setSlack_42 rfl rfl ?_
  exact zv_iret C hr rfl dX10_setSlack_43 ⟨rfl, zCP_chg hRe (zSTp_slk hSR ht) ⟨hq9.1, fun j hj => by show (0 : Int) ≤ 0 ∧ (0 : Int) ≤ 10000000; omega⟩ (zFr_of (fun x y hx => by rw [gI_flI, if_neg (by omega), gI_sI, if_neg (by omega)]) rfl)⟩
set_option maxRecDepth 20000 in
theorem x1_X10_setSlack {l : Launch} (hfl : l.stackTraces = false) (E : zE) (σ : zS) (y : Int) (hyi : -2147483648 ≤ y ∧ y < 2147483648) (hno : ¬ (0 ≤ y ∧ y ≤ 999)) : zRx l E yX10_setSlack cX10_setSlack 3 (some .int) (zrx 9 200) [.ref (ob E 0), .int (zI y)] σ "java/lang/IllegalArgumentException" := by
  refine vx_ofW (cc := cX10_setSlack) (maxL := 3) (ret := (some .int)) (by decide) rfl ?_
  intro p e s m args below meth c s₁ B hml hout hv
  obtain ⟨rfl, hd⟩ := hv
  have C := zX_of (own := RX10) hfl B hml rfl hd rfl
  have hr := B.returns
  refine zV_go hd (Nat.le_of_ble_eq_true rfl) (lv := [(0, .ref (ob E 0)), (1, .int (zI y))]) rfl ?_
  skip
  refine zv_iload_n C 1 dX10_setSlack_0 rfl rfl ?_
  refine zv_iconst (v := zI 0) C dX10_setSlack_1 rfl ?_
  refine zv_sipush (v := zI 999) C dX10_setSlack_2 (by decide) ?_
  exact zv_xcs (st := []) C (x_X10_needWithin hfl E σ y 0 999 hyi (by omega) (by omega) hno) hout mX10_needWithin kX10_117 rfl ⟨rfl, rfl⟩ (show zfit (zrx 6 100) 3 (zrx 9 200) = true from rfl) (Nat.le_of_ble_eq_true rfl) dX10_setSlack_5
