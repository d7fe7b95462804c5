/-- the angle by a day; the smaller way round between two pointers' angles -/
def qAng (U : zSU) (S : zST) (i : Nat) (d : Int) : Int := (qPtr U S i).1 * d % (qPtr U S i).2 * 1296000 / (qPtr U S i).2
theorem qAng_b {σ σ' : zS} {k k' : Nat} {U : zSU} {S : zST} (h : zSUp σ k U) (hS : zSTp σ' k' S) {i : Nat} (hi : i < U.nb) (d : Int) : 0 ≤ qAng U S i d ∧ qAng U S i d < 1296000 := by
  have h1 := (qPtr_b h hS hi).2
  unfold qAng
  generalize (qPtr U S i).1 * d = t
  generalize (qPtr U S i).2 = b at h1 ⊢
  have h2 := Int.emod_nonneg t (show b ≠ 0 by omega)
  have h3 := Int.emod_lt_of_pos t (show 0 < b by omega)
  generalize t % b = r at h2 h3 ⊢
  refine ⟨Int.ediv_nonneg (by omega) (by omega), Int.ediv_lt_of_lt_mul (by omega) ?_⟩
  omega
def qWay (U : zSU) (S : zST) (i j : Nat) (d : Int) : Int := min ((qAng U S i d - qAng U S j d).natAbs : Int) (1296000 - ((qAng U S i d - qAng U S j d).natAbs : Int))
def dNm (U : zSU) (S : zST) (i j : Nat) (d orb : Int) (n : Nat) : Bool := decide (qWay U S i j (d + 1 + (n : Int)) ≤ orb)
def dNmR (U : zSU) (S : zST) (i j : Nat) (d orb : Int) : Int := if fi (dNm U S i j d orb) 10000 < 0 then -1 else d + 1 + fi (dNm U S i j d orb) 10000
/-- the pointer's ratio in one cell, another one's in another cell -/
def rW2 (σ : zS) (U : zSU) (S : zST) (i j : Nat) : zS := rW (rW σ 320 (qPtr U S i).1 (qPtr U S i).2) 321 (qPtr U S j).1 (qPtr U S j).2
theorem rW2_R (σ : zS) (U : zSU) (S : zST) (i j : Nat) : zRt (rW2 σ U S i j) 320 (qPtr U S i).1 (qPtr U S i).2 ∧ zRt (rW2 σ U S i j) 321 (qPtr U S j).1 (qPtr U S j).2 := by
  refine ⟨⟨?_, ?_⟩, rW_R _ _ _ _⟩
  · unfold rW2; rw [gJ_rW _ _ _ _ _ _ (by omega)]; exact (rW_R _ _ _ _).1
  · unfold rW2; rw [gJ_rW _ _ _ _ _ _ (by omega)]; exact (rW_R _ _ _ _).2
set_option maxRecDepth 20000 in
theorem c_X10_nextMeeting {l : Launch} (hfl : l.stackTraces = false) (E : zE) (σ : zS) (U : zSU) (S : zST) (i o : Nat) (d orb : Int) (hU : zSUp σ 29 U) (hS : zSTp σ 34 S) (hi : i < U.nb) (ho : o < U.nb) (hdd9 : 0 ≤ d ∧ d ≤ 390000) (horb : 0 ≤ orb ∧ orb ≤ 648000) : zRi l E yX10_nextMeeting cX10_nextMeeting 8 .int (zrm 4 105) [.ref (ob E 0), .int (zI (i : Int)), .int (zI (o : Int)), .int (zI d), .int (zI orb)] σ (fun r τ => r = zI (dNmR U S i o d orb) ∧ τ = rW2 σ U S i o) := by
  refine Met.ofW (cc := cX10_nextMeeting) (maxL := 8) (ret := (some .int)) (by decide +kernel) rfl ?_
  intro p e s m args below meth c s₁ B hml hv
  obtain ⟨rfl, hd⟩ := hv
  have C := zX_of (own := RX10) hfl B hml rfl hd rfl
  have hr := B.returns
  refine zV_go hd (Nat.le_of_ble_eq_true rfl) (lv := [(0, .ref (ob E 0)), (1, .int (zI (i : Int))), (2, .int (zI (o : Int))), (3, .int (zI d)), (4, .int (zI orb))]) rfl ?_
  have hnb : U.nb ≤ 8 := hU.2.2.1
  have hs0 := hU.2.2.2.1
  have hqi := qPtr_b hU hS hi
  have hqo := qPtr_b hU hS ho
  have hRR := rW2_R σ U S i o
  refine zv_aload_n C 0 dX10_nextMeeting_0 rfl rfl ?_
  refine zv_iload_n C 1 dX10_nextMeeting_1 rfl rfl ?_
  refine zv_cvvD (st := []) C (c_X10_needBody hfl E σ U (i : Int) hU (by omega) (by omega)) mX10_needBody kX10_140 (by decide : kd 0 = 9) rfl rfl rfl ⟨rfl, rfl⟩ (show zfit (zrm 0 0) 2 (zrm 4 105) = true from rfl) (Nat.le_of_ble_eq_true rfl) dX10_nextMeeting_2 ⟨Nat.zero_le _, Nat.zero_le _⟩ ?_
  refine zv_aload_n C 0 dX10_nextMeeting_5 rfl rfl ?_
  refine zv_iload_n C 2 dX10_nextMeeting_6 rfl rfl ?_
  refine zv_cvvD (st := []) C (c_X10_needBody hfl E σ U (o : Int) hU (by omega) (by omega)) mX10_needBody kX10_140 (by decide : kd 0 = 9) rfl rfl rfl ⟨rfl, rfl⟩ (show zfit (zrm 0 0) 2 (zrm 4 105) = true from rfl) (Nat.le_of_ble_eq_true rfl) dX10_nextMeeting_7 ⟨Nat.zero_le _, Nat.zero_le _⟩ ?_
  refine zv_iload_n C 3 dX10_nextMeeting_10 rfl rfl ?_
  refine zv_iconst (v := zI 0) C dX10_nextMeeting_11 rfl ?_
  refine zv_ldcw C kX10_280 dX10_nextMeeting_12 ?_
  refine zv_eqi (y := zI 390000) (by decide) ?_
  refine zv_csvD (st := []) C (c_X10_needWithin hfl E σ d 0 390000 (by omega) (by omega) (by omega) hdd9) mX10_needWithin kX10_117 rfl ⟨rfl, rfl⟩ (show zfit (zrm 0 0) 3 (zrm 4 105) = true from rfl) (Nat.le_of_ble_eq_true rfl) dX10_nextMeeting_15 ⟨Nat.zero_le _, Nat.zero_le _⟩ ?_
  refine zv_iload C 4 dX10_nextMeeting_18 rfl ?_
  refine zv_iconst (v := zI 0) C dX10_nextMeeting_20 rfl ?_
  refine zv_ldcw C kX10_281 dX10_nextMeeting_21 ?_
  refine zv_eqi (y := zI 648000) (by decide) ?_
  refine zv_csvD (st := []) C (c_X10_needWithin hfl E σ orb 0 648000 (by omega) (by omega) (by omega) horb) mX10_needWithin kX10_117 rfl ⟨rfl, rfl⟩ (show zfit (zrm 0 0) 3 (zrm 4 105) = true from rfl) (Nat.le_of_ble_eq_true rfl) dX10_nextMeeting_24 ⟨Nat.zero_le _, Nat.zero_le _⟩ ?_
  refine zv_aload_n C 0 dX10_nextMeeting_27 rfl rfl ?_
  refine zv_iload_n C 1 dX10_nextMeeting_28 rfl rfl ?_
  refine zv_aload_n C 0 dX10_nextMeeting_29 rfl rfl ?_
  refine zG9_6 C (by decide : kd 0 = _) kX10_54 dX10_nextMeeting_30 ?_
  refine zv_cvrD (st := []) C (c_X10_pointerOf hfl E σ U S i 320 hU hS hi (by decide)) mX10_pointerOf kX10_181 (by decide : kd 0 = 9) rfl rfl rfl ⟨rfl, rfl⟩ (show zfit (zrm 3 80) 6 (zrm 4 105) = true from rfl) (Nat.le_of_ble_eq_true rfl) dX10_nextMeeting_33 ⟨Nat.zero_le _, Nat.zero_le _⟩ ?_
  refine zv_astore (lv' := [(5, .ref (ob E 320)), (0, .ref (ob E 0)), (1, .int (zI (i : Int))), (2, .int (zI (o : Int))), (3, .int (zI d)), (4, .int (zI orb))]) C dX10_nextMeeting_36  (by decide) rfl ?_
  refine zv_aload_n C 1 dX10_nextMeeting_38 rfl rfl ?_
  refine zv_iload_n C 3 dX10_nextMeeting_39 rfl rfl ?_
  refine zv_aload_n C 1 dX10_nextMeeting_40 rfl rfl ?_
  refine zG9_7 C (by decide : kd 0 = _) kX10_58 dX10_nextMeeting_41 ?_
  refine zv_cvrD (st := []) C (c_X10_pointerOf hfl E (rW σ 320 (qPtr U S i).1 (qPtr U S i).2) U S o 321 (zSUp_rW hU (by decide)) (zSTp_rW hS) ho (by decide)) mX10_pointerOf kX10_181 (by decide : kd 0 = 9) rfl rfl rfl ⟨rfl, rfl⟩ (show zfit (zrm 3 80) 6 (zrm 4 105) = true from rfl) (Nat.le_of_ble_eq_true rfl) dX10_nextMeeting_44 ⟨Nat.zero_le _, Nat.zero_le _⟩ ?_
  refine zv_astore (lv' := [(6, .ref (ob E 321)), (5, .ref (ob E 320)), (0, .ref (ob E 0)), (1, .int (zI (i : Int))), (2, .int (zI (o : Int))), (3, .int (zI d)), (4, .int (zI orb))]) C dX10_nextMeeting_47  (by decide) rfl ?_
  refine zv_iload_n C 5 dX10_nextMeeting_49 rfl rfl ?_
  refine zv_iconst (v := zI 1) C dX10_nextMeeting_50 rfl ?_
  refine zv_iaddZ C dX10_nextMeeting_51 ?_
  refine zv_istore (lv' := [(7, .int (zI (d + 1))), (6, .ref (ob E 321)), (5, .ref (ob E 320)), (0, .ref (ob E 0)), (1, .int (zI (i : Int))), (2, .int (zI (o : Int))), (3, .int (zI d)), (4, .int (zI orb))]) C dX10_nextMeeting_52  (by decide) rfl ?_
  have q54_37 : (d + 1 : Int) = d + 1 + (0 : Int) := by first | rfl | omega
  refine zv_sub (lv' := [(3, .int (zI d)), (4, .int (zI orb)), (5, .ref (ob E 320)), (6, .ref (ob E 321)), (7, .int (zI (d + 1 + (0 : Int))))]) [6, 7, 2, 1, 0] (zcons rfl (zcons rfl (zcons rfl (zcons rfl (zcons (zqI q54_37) rfl))))) ?_
  refine zv_eqS (τ := (rW2 σ U S i o)) (rfl) ?_
  refine zv_while (α := Nat) (fun v => 10000 - v) (fun v => v ≤ 10000 ∧ fi (dNm U S i o d orb) v = -1) (fun v => (rW2 σ U S i o)) (fun v => [(3, .int (zI d)), (4, .int (zI orb)), (5, .ref (ob E 320)), (6, .ref (ob E 321)), (7, .int (zI (d + 1 + (v : Int))))]) (fun v => []) (fun j hI ih => ?_) (0) (⟨by omega, rfl⟩)
  obtain ⟨hI, hI2⟩ := hI
  have hai := qAng_b hU hS hi (d + 1 + (j : Int))
  have hao := qAng_b hU hS ho (d + 1 + (j : Int))
  have hdd : dNm U S i o d orb j = decide (qWay U S i o (d + 1 + (j : Int)) ≤ orb) := rfl
  unfold qWay at hdd
  refine zv_iload C 4 dX10_nextMeeting_54 rfl ?_
  refine zv_iload_n C 0 dX10_nextMeeting_56 rfl rfl ?_
  refine zv_sipush (v := zI 10000) C dX10_nextMeeting_57 (by decide) ?_
  refine zv_iaddZ C dX10_nextMeeting_60 ?_
  refine zv_icmp_gtZ (tgt := 95) C (by omega) (by omega) dX10_nextMeeting_61 (by decide) (fun h61 => ?_) (fun h61 => ?_)
  · skip
    refine zv_iconst (v := zI (-1)) C dX10_nextMeeting_95 rfl ?_
    exact zv_iret C hr rfl dX10_nextMeeting_96 ⟨by rw [dNmR, show (10000 : Nat) = j by omega, hI2]; rfl, rfl⟩
  · skip
    have hm1 := mul_b (b := d + 1 + (j : Int)) (B := 400000) hqi.1 (by omega)
    have hm2 := mul_b (b := d + 1 + (j : Int)) (B := 400000) hqo.1 (by omega)
    refine zv_aload C 2 dX10_nextMeeting_64 rfl ?_
    refine zv_iload C 4 dX10_nextMeeting_66 rfl ?_
    refine zv_cviD (st := []) C (c_X3_angleBy hfl E (rW2 σ U S i o) 320 (qPtr U S i).1 (qPtr U S i).2 (d + 1 + (j : Int)) (by decide) hRR.1 (by omega) (by omega) (by omega)) mX3_angleBy kX10_222 (by decide : kd 320 = 3) rfl rfl rfl ⟨rfl, rfl⟩ (show zfit (zrm 1 25) 2 (zrm 4 105) = true from rfl) (Nat.le_of_ble_eq_true rfl) dX10_nextMeeting_68 ⟨Nat.zero_le _, Nat.zero_le _⟩ ?_
    refine zv_eqi (y := (zI (qAng U S i (d + 1 + (j : Int))))) (rfl) ?_
    refine zv_aload C 3 dX10_nextMeeting_71 rfl ?_
    refine zv_iload C 4 dX10_nextMeeting_73 rfl ?_
    refine zv_cviD (st := [.int (zI (qAng U S i (d + 1 + (j : Int))))]) C (c_X3_angleBy hfl E (rW2 σ U S i o) 321 (qPtr U S o).1 (qPtr U S o).2 (d + 1 + (j : Int)) (by decide) hRR.2 (by omega) (by omega) (by omega)) mX3_angleBy kX10_222 (by decide : kd 321 = 3) rfl rfl rfl ⟨rfl, rfl⟩ (show zfit (zrm 1 25) 2 (zrm 4 105) = true from rfl) (Nat.le_of_ble_eq_true rfl) dX10_nextMeeting_75 ⟨Nat.zero_le _, Nat.zero_le _⟩ ?_
    refine zv_eqi (y := (zI (qAng U S o (d + 1 + (j : Int))))) (rfl) ?_
    refine zv_csiD (st := []) C (c_X10_wayRound hfl E (rW2 σ U S i o) (qAng U S i (d + 1 + (j : Int))) (qAng U S o (d + 1 + (j : Int))) hai hao) mX10_wayRound kX10_282 rfl ⟨rfl, rfl⟩ (show zfit (zrm 1 21) 3 (zrm 4 105) = true from rfl) (Nat.le_of_ble_eq_true rfl) dX10_nextMeeting_78 ⟨Nat.zero_le _, Nat.zero_le _⟩ ?_
    refine zv_iload C 1 dX10_nextMeeting_81 rfl ?_
    refine zv_icmp_gtZ (tgt := 89) C (by omega) (by omega) dX10_nextMeeting_83 (by decide) (fun h83 => ?_) (fun h83 => ?_)
    · skip
      refine zv_iinc (v := (zI (d + 1 + (j : Int) + 1))) (lv' := [(7, .int (zI (d + 1 + (j : Int) + 1))), (3, .int (zI d)), (4, .int (zI orb)), (5, .ref (ob E 320)), (6, .ref (ob E 321))]) C 4 dX10_nextMeeting_89 rfl (zI_add _ _) (by decide) rfl ?_
      refine zv_goto (tgt := 54) C dX10_nextMeeting_92 (by decide) ?_
      have q54_71 : (d + 1 + (j : Int) + 1 : Int) = d + 1 + ((j + 1 : Nat) : Int) := by first | rfl | omega
      refine zv_sub (lv' := [(3, .int (zI d)), (4, .int (zI orb)), (5, .ref (ob E 320)), (6, .ref (ob E 321)), (7, .int (zI (d + 1 + ((j + 1 : Nat) : Int))))]) [1, 2, 3, 4, 0] (zcons rfl (zcons rfl (zcons rfl (zcons rfl (zcons (zqI q54_71) rfl))))) ?_
      exact ih (j + 1) (⟨by omega, fi_s hI2 (by rw [hdd, decide_eq_true_eq]; omega)⟩) (by omega)
    · skip
      refine zv_iload C 4 dX10_nextMeeting_86 rfl ?_
      exact zv_iret C hr rfl dX10_nextMeeting_88 ⟨by rw [dNmR, fi_of hI2 (by rw [hdd, decide_eq_true_eq]; omega) 10000 (by omega), if_neg (by omega)], rfl⟩
set_option maxRecDepth 20000 in
theorem x1_X10_nextMeeting {l : Launch} (hfl : l.stackTraces = false) (E : zE) (σ : zS) (U : zSU) (b : Int) (y : Int) (z : Int) (w : Int) (hU : zSUp σ 29 U) (hbi : -2147483648 ≤ b ∧ b < 2147483648) (hno : ¬ (0 ≤ b ∧ b < U.nb)) : zRx l E yX10_nextMeeting cX10_nextMeeting 8 (some .int) (zrx 9 200) [.ref (ob E 0), .int (zI b), .int (zI y), .int (zI z), .int (zI w)] σ "java/lang/IndexOutOfBoundsException" := by
  refine vx_ofW (cc := cX10_nextMeeting) (maxL := 8) (ret := (some .int)) (by decide) rfl ?_
  intro p e s m args below meth c s₁ B hml hout hv
  obtain ⟨rfl, hd⟩ := hv
  have C := zX_of (own := RX10) hfl B hml rfl hd rfl
  have hr := B.returns
  refine zV_go hd (Nat.le_of_ble_eq_true rfl) (lv := [(0, .ref (ob E 0)), (1, .int (zI b)), (2, .int (zI y)), (3, .int (zI z)), (4, .int (zI w))]) rfl ?_
  have hnb : U.nb ≤ 8 := hU.2.2.1
  have hs0 := hU.2.2.2.1
  
  refine zv_aload_n C 0 dX10_nextMeeting_0 rfl rfl ?_
  refine zv_iload_n C 1 dX10_nextMeeting_1 rfl rfl ?_
  exact zv_xcv (st := []) C (x_X10_needBody hfl E σ U b hU hbi hno) hout mX10_needBody kX10_140 (by decide : kd 0 = 9) rfl rfl rfl ⟨rfl, rfl⟩ (show zfit (zrx 6 100) 2 (zrx 9 200) = true from rfl) (Nat.le_of_ble_eq_true rfl) dX10_nextMeeting_2
set_option maxRecDepth 20000 in
theorem x2_X10_nextMeeting {l : Launch} (hfl : l.stackTraces = false) (E : zE) (σ : zS) (U : zSU) (i : Nat) (y z w : Int) (hU : zSUp σ 29 U) (hi : i < U.nb) (hyi : -2147483648 ≤ y ∧ y < 2147483648) (hno : ¬ (0 ≤ y ∧ y < U.nb)) : zRx l E yX10_nextMeeting cX10_nextMeeting 8 (some .int) (zrx 9 200) [.ref (ob E 0), .int (zI (i : Int)), .int (zI y), .int (zI z), .int (zI w)] σ "java/lang/IndexOutOfBoundsException" := by
  refine vx_ofW (cc := cX10_nextMeeting) (maxL := 8) (ret := (some .int)) (by decide) rfl ?_
  intro p e s m args below meth c s₁ B hml hout hv
  obtain ⟨rfl, hd⟩ := hv
  have C := zX_of (own := RX10) hfl B hml rfl hd rfl
  have hr := B.returns
  refine zV_go hd (Nat.le_of_ble_eq_true rfl) (lv := [(0, .ref (ob E 0)), (1, .int (zI (i : Int))), (2, .int (zI y)), (3, .int (zI z)), (4, .int (zI w))]) rfl ?_
  have hnb : U.nb ≤ 8 := hU.2.2.1
  have hs0 := hU.2.2.2.1
  
  refine zv_aload_n C 0 dX10_nextMeeting_0 rfl rfl ?_
  refine zv_iload_n C 1 dX10_nextMeeting_1 rfl rfl ?_
  refine zv_cvvD (st := []) C (c_X10_needBody hfl E σ U (i : Int) hU (by omega) (by omega)) mX10_needBody kX10_140 (by decide : kd 0 = 9) rfl rfl rfl ⟨rfl, rfl⟩ (show zfit (zrm 0 0) 2 (zrx 9 200) = true from rfl) (Nat.le_of_ble_eq_true rfl) dX10_nextMeeting_2 ⟨Nat.zero_le _, Nat.zero_le _⟩ ?_
  refine zv_aload_n C 0 dX10_nextMeeting_5 rfl rfl ?_
  refine zv_iload_n C 2 dX10_nextMeeting_6 rfl rfl ?_
  exact zv_xcv (st := []) C (x_X10_needBody hfl E σ U y hU hyi hno) hout mX10_needBody kX10_140 (by decide : kd 0 = 9) rfl rfl rfl ⟨rfl, rfl⟩ (show zfit (zrx 6 100) 2 (zrx 9 200) = true from rfl) (Nat.le_of_ble_eq_true rfl) dX10_nextMeeting_7
set_option maxRecDepth 20000 in
theorem x3_X10_nextMeeting {l : Launch} (hfl : l.stackTraces = false) (E : zE) (σ : zS) (U : zSU) (i o : Nat) (y z : Int) (hU : zSUp σ 29 U) (hi : i < U.nb) (ho : o < U.nb) (hyi : -2147483648 ≤ y ∧ y < 2147483648) (hno : ¬ (0 ≤ y ∧ y ≤ 390000)) : zRx l E yX10_nextMeeting cX10_nextMeeting 8 (some .int) (zrx 9 200) [.ref (ob E 0), .int (zI (i : Int)), .int (zI (o : Int)), .int (zI y), .int (zI z)] σ "java/lang/IllegalArgumentException" := by
  refine vx_ofW (cc := cX10_nextMeeting) (maxL := 8) (ret := (some .int)) (by decide) rfl ?_
  intro p e s m args below meth c s₁ B hml hout hv
  obtain ⟨rfl, hd⟩ := hv
  have C := zX_of (own := RX10) hfl B hml rfl hd rfl
  have hr := B.returns
  refine zV_go hd (Nat.le_of_ble_eq_true rfl) (lv := [(0, .ref (ob E 0)), (1, .int (zI (i : Int))), (2, .int (zI (o : Int))), (3, .int (zI y)), (4, .int (zI z))]) rfl ?_
  have hnb : U.nb ≤ 8 := hU.2.2.1
  have hs0 := hU.2.2.2.1
  
  refine zv_aload_n C 0 dX10_nextMeeting_0 rfl rfl ?_
  refine zv_iload_n C 1 dX10_nextMeeting_1 rfl rfl ?_
  refine zv_cvvD (st := []) C (c_X10_needBody hfl E σ U (i : Int) hU (by omega) (by omega)) mX10_needBody kX10_140 (by decide : kd 0 = 9) rfl rfl rfl ⟨rfl, rfl⟩ (show zfit (zrm 0 0) 2 (zrx 9 200) = true from rfl) (Nat.le_of_ble_eq_true rfl) dX10_nextMeeting_2 ⟨Nat.zero_le _, Nat.zero_le _⟩ ?_
  refine zv_aload_n C 0 dX10_nextMeeting_5 rfl rfl ?_
  refine zv_iload_n C 2 dX10_nextMeeting_6 rfl rfl ?_
  refine zv_cvvD (st := []) C (c_X10_needBody hfl E σ U (o : Int) hU (by omega) (by omega)) mX10_needBody kX10_140 (by decide : kd 0 = 9) rfl rfl rfl ⟨rfl, rfl⟩ (show zfit (zrm 0 0) 2 (zrx 9 200) = true from rfl) (Nat.le_of_ble_eq_true rfl) dX10_nextMeeting_7 ⟨Nat.zero_le _, Nat.zero_le _⟩ ?_
  refine zv_iload_n C 3 dX10_nextMeeting_10 rfl rfl ?_
  refine zv_iconst (v := zI 0) C dX10_nextMeeting_11 rfl ?_
  refine zv_ldcw C kX10_280 dX10_nextMeeting_12 ?_
  refine zv_eqi (y := zI 390000) (by decide) ?_
  exact zv_xcs (st := []) C (x_X10_needWithin hfl E σ y 0 390000 hyi (by omega) (by omega) hno) hout mX10_needWithin kX10_117 rfl ⟨rfl, rfl⟩ (show zfit (zrx 6 100) 3 (zrx 9 200) = true from rfl) (Nat.le_of_ble_eq_true rfl) dX10_nextMeeting_15
set_option maxRecDepth 20000 in
theorem x4_X10_nextMeeting {l : Launch} (hfl : l.stackTraces = false) (E : zE) (σ : zS) (U : zSU) (i o : Nat) (y z : Int) (hU : zSUp σ 29 U) (hi : i < U.nb) (ho : o < U.nb) (hy : 0 ≤ y ∧ y ≤ 390000) (hzi : -2147483648 ≤ z ∧ z < 2147483648) (hno : ¬ (0 ≤ z ∧ z ≤ 648000)) : zRx l E yX10_nextMeeting cX10_nextMeeting 8 (some .int) (zrx 9 200) [.ref (ob E 0), .int (zI (i : Int)), .int (zI (o : Int)), .int (zI y), .int (zI z)] σ "java/lang/IllegalArgumentException" := by
  refine vx_ofW (cc := cX10_nextMeeting) (maxL := 8) (ret := (some .int)) (by decide) rfl ?_
  intro p e s m args below meth c s₁ B hml hout hv
  obtain ⟨rfl, hd⟩ := hv
  have C := zX_of (own := RX10) hfl B hml rfl hd rfl
  have hr := B.returns
  refine zV_go hd (Nat.le_of_ble_eq_true rfl) (lv := [(0, .ref (ob E 0)), (1, .int (zI (i : Int))), (2, .int (zI (o : Int))), (3, .int (zI y)), (4, .int (zI z))]) rfl ?_
  have hnb : U.nb ≤ 8 := hU.2.2.1
  have hs0 := hU.2.2.2.1
  
  refine zv_aload_n C 0 dX10_nextMeeting_0 rfl rfl ?_
  refine zv_iload_n C 1 dX10_nextMeeting_1 rfl rfl ?_
  refine zv_cvvD (st := []) C (c_X10_needBody hfl E σ U (i : Int) hU (by omega) (by omega)) mX10_needBody kX10_140 (by decide : kd 0 = 9) rfl rfl rfl ⟨rfl, rfl⟩ (show zfit (zrm 0 0) 2 (zrx 9 200) = true from rfl) (Nat.le_of_ble_eq_true rfl) dX10_nextMeeting_2 ⟨Nat.zero_le _, Nat.zero_le _⟩ ?_
  refine zv_aload_n C 0 dX10_nextMeeting_5 rfl rfl ?_
  refine zv_iload_n C 2 dX10_nextMeeting_6 rfl rfl ?_
  refine zv_cvvD (st := []) C (c_X10_needBody hfl E σ U (o : Int) hU (by omega) (by omega)) mX10_needBody kX10_140 (by decide : kd 0 = 9) rfl rfl rfl ⟨rfl, rfl⟩ (show zfit (zrm 0 0) 2 (zrx 9 200) = true from rfl) (Nat.le_of_ble_eq_true rfl) dX10_nextMeeting_7 ⟨Nat.zero_le _, Nat.zero_le _⟩ ?_
  refine zv_iload_n C 3 dX10_nextMeeting_10 rfl rfl ?_
  refine zv_iconst (v := zI 0) C dX10_nextMeeting_11 rfl ?_
  refine zv_ldcw C kX10_280 dX10_nextMeeting_12 ?_
  refine zv_eqi (y := zI 390000) (by decide) ?_
  refine zv_csvD (st := []) C (c_X10_needWithin hfl E σ y 0 390000 (by omega) (by omega) (by omega) hy) mX10_needWithin kX10_117 rfl ⟨rfl, rfl⟩ (show zfit (zrm 0 0) 3 (zrx 9 200) = true from rfl) (Nat.le_of_ble_eq_true rfl) dX10_nextMeeting_15 ⟨Nat.zero_le _, Nat.zero_le _⟩ ?_
  refine zv_iload C 4 dX10_nextMeeting_18 rfl ?_
  refine zv_iconst (v := zI 0) C dX10_nextMeeting_20 rfl ?_
  refine zv_ldcw C kX10_281 dX10_nextMeeting_21 ?_
  refine zv_eqi (y := zI 648000) (by decide) ?_
  exact zv_xcs (st := []) C (x_X10_needWithin hfl E σ z 0 648000 hzi (by omega) (by omega) hno) hout mX10_needWithin kX10_117 rfl ⟨rfl, rfl⟩ (show zfit (zrx 6 100) 3 (zrx 9 200) = true from rfl) (Nat.le_of_ble_eq_true rfl) dX10_nextMeeting_24
def dMt (U : zSU) (S : zST) (i o : Nat) (w : Int) : Int := if (rAd (qPtr U S i) (-(qPtr U S o).1) (qPtr U S o).2).1 = 0 then -1 else if w = 0 then (rAd (qPtr U S i) (-(qPtr U S o).1) (qPtr U S o).2).2 else ((rAd (qPtr U S i) (-(qPtr U S o).1) (qPtr U S o).2).1.natAbs : Int)
def rW3 (σ : zS) (U : zSU) (S : zST) (i o : Nat) : zS := rW (rW2 σ U S i o) 320 (rAd (qPtr U S i) (-(qPtr U S o).1) (qPtr U S o).2).1 (rAd (qPtr U S i) (-(qPtr U S o).1) (qPtr U S o).2).2
set_option maxRecDepth 20000 in
theorem c_X10_meetingTime {l : Launch} (hfl : l.stackTraces = false) (E : zE) (σ : zS) (U : zSU) (S : zST) (i o : Nat) (w : Int) (hU : zSUp σ 29 U) (hS : zSTp σ 34 S) (hi : i < U.nb) (ho : o < U.nb) (hw : w = 0 ∨ w = 1) : zRl l E yX10_meetingTime cX10_meetingTime 6 (zrm 4 105) [.ref (ob E 0), .int (zI (i : Int)), .int (zI (o : Int)), .int (zI w)] σ (fun r τ => r = zL (dMt U S i o w) ∧ τ = rW3 σ U S i o) := by
  refine Met.ofW (cc := cX10_meetingTime) (maxL := 6) (ret := (some .long)) (by decide +kernel) rfl ?_
  intro p e s m args below meth c s₁ B hml hv
  obtain ⟨rfl, hd⟩ := hv
  have C := zX_of (own := RX10) hfl B hml rfl hd rfl
  have hr := B.returns
  refine zV_go hd (Nat.le_of_ble_eq_true rfl) (lv := [(0, .ref (ob E 0)), (1, .int (zI (i : Int))), (2, .int (zI (o : Int))), (3, .int (zI w))]) rfl ?_
  have hnb : U.nb ≤ 8 := hU.2.2.1
  have hs0 := hU.2.2.2.1
  have hqi := qPtr_b hU hS hi
  have hqo := qPtr_b hU hS ho
  have hRR := rW2_R σ U S i o
  obtain ⟨g1, g2, g3, g4, g5⟩ := rAd_b (z := -(qPtr U S o).1) (w := (qPtr U S o).2) (C := 200000000) (D := 100000000) hqi.1 hqi.2 (by omega) hqo.2
  refine zv_aload_n C 0 dX10_meetingTime_0 rfl rfl ?_
  refine zv_iload_n C 1 dX10_meetingTime_1 rfl rfl ?_
  refine zv_cvvD (st := []) C (c_X10_needBody hfl E σ U (i : Int) hU (by omega) (by omega)) mX10_needBody kX10_140 (by decide : kd 0 = 9) rfl rfl rfl ⟨rfl, rfl⟩ (show zfit (zrm 0 0) 2 (zrm 4 105) = true from rfl) (Nat.le_of_ble_eq_true rfl) dX10_meetingTime_2 ⟨Nat.zero_le _, Nat.zero_le _⟩ ?_
  refine zv_aload_n C 0 dX10_meetingTime_5 rfl rfl ?_
  refine zv_iload_n C 2 dX10_meetingTime_6 rfl rfl ?_
  refine zv_cvvD (st := []) C (c_X10_needBody hfl E σ U (o : Int) hU (by omega) (by omega)) mX10_needBody kX10_140 (by decide : kd 0 = 9) rfl rfl rfl ⟨rfl, rfl⟩ (show zfit (zrm 0 0) 2 (zrm 4 105) = true from rfl) (Nat.le_of_ble_eq_true rfl) dX10_meetingTime_7 ⟨Nat.zero_le _, Nat.zero_le _⟩ ?_
  refine zv_iload_n C 3 dX10_meetingTime_10 rfl rfl ?_
  refine zv_iconst (v := zI 0) C dX10_meetingTime_11 rfl ?_
  refine zv_iconst (v := zI 1) C dX10_meetingTime_12 rfl ?_
  refine zv_csvD (st := []) C (c_X10_needWithin hfl E σ w 0 1 (by omega) (by omega) (by omega) (by omega)) mX10_needWithin kX10_117 rfl ⟨rfl, rfl⟩ (show zfit (zrm 0 0) 3 (zrm 4 105) = true from rfl) (Nat.le_of_ble_eq_true rfl) dX10_meetingTime_13 ⟨Nat.zero_le _, Nat.zero_le _⟩ ?_
  refine zv_aload_n C 0 dX10_meetingTime_16 rfl rfl ?_
  refine zv_iload_n C 1 dX10_meetingTime_17 rfl rfl ?_
  refine zv_aload_n C 0 dX10_meetingTime_18 rfl rfl ?_
  refine zG9_6 C (by decide : kd 0 = _) kX10_54 dX10_meetingTime_19 ?_
  refine zv_cvrD (st := []) C (c_X10_pointerOf hfl E σ U S i 320 hU hS hi (by decide)) mX10_pointerOf kX10_181 (by decide : kd 0 = 9) rfl rfl rfl ⟨rfl, rfl⟩ (show zfit (zrm 3 80) 6 (zrm 4 105) = true from rfl) (Nat.le_of_ble_eq_true rfl) dX10_meetingTime_22 ⟨Nat.zero_le _, Nat.zero_le _⟩ ?_
  refine zv_astore (lv' := [(4, .ref (ob E 320)), (0, .ref (ob E 0)), (1, .int (zI (i : Int))), (2, .int (zI (o : Int))), (3, .int (zI w))]) C dX10_meetingTime_25  (by decide) rfl ?_
  refine zv_aload_n C 1 dX10_meetingTime_27 rfl rfl ?_
  refine zv_iload_n C 3 dX10_meetingTime_28 rfl rfl ?_
  refine zv_aload_n C 1 dX10_meetingTime_29 rfl rfl ?_
  refine zG9_7 C (by decide : kd 0 = _) kX10_58 dX10_meetingTime_30 ?_
  refine zv_cvrD (st := []) C (c_X10_pointerOf hfl E (rW σ 320 (qPtr U S i).1 (qPtr U S i).2) U S o 321 (zSUp_rW hU (by decide)) (zSTp_rW hS) ho (by decide)) mX10_pointerOf kX10_181 (by decide : kd 0 = 9) rfl rfl rfl ⟨rfl, rfl⟩ (show zfit (zrm 3 80) 6 (zrm 4 105) = true from rfl) (Nat.le_of_ble_eq_true rfl) dX10_meetingTime_33 ⟨Nat.zero_le _, Nat.zero_le _⟩ ?_
  refine zv_astore (lv' := [(5, .ref (ob E 321)), (4, .ref (ob E 320)), (0, .ref (ob E 0)), (1, .int (zI (i : Int))), (2, .int (zI (o : Int))), (3, .int (zI w))]) C dX10_meetingTime_36  (by decide) rfl ?_
  refine zv_aload C 1 dX10_meetingTime_38 rfl ?_
  refine zv_aload C 0 dX10_meetingTime_40 rfl ?_
  refine zG3_0 C (by decide : kd 321 = _) kX10_185 dX10_meetingTime_42 ?_
  refine zv_eql (y := (zL ((qPtr U S o).1))) (hRR.2.1) ?_
  refine zv_lnegZ C dX10_meetingTime_45 ?_
  refine zv_aload C 0 dX10_meetingTime_46 rfl ?_
  refine zG3_1 C (by decide : kd 321 = _) kX10_189 dX10_meetingTime_48 ?_
  refine zv_eql (y := (zL ((qPtr U S o).2))) (hRR.2.2) ?_
  refine zv_cvvD (st := []) C (c_X3_addFraction hfl E (rW2 σ U S i o) 320 (qPtr U S i).1 (qPtr U S i).2 (-(qPtr U S o).1) (qPtr U S o).2 (by decide) hRR.1 (by omega) (by omega)) mX3_addFraction kX10_285 (by decide : kd 320 = 3) rfl rfl rfl ⟨rfl, rfl⟩ (show zfit (zrm 2 56) 5 (zrm 4 105) = true from rfl) (Nat.le_of_ble_eq_true rfl) dX10_meetingTime_51 ⟨Nat.zero_le _, Nat.zero_le _⟩ ?_
  refine zv_aload C 1 dX10_meetingTime_54 rfl ?_
  refine zG3_0 C (by decide : kd 320 = _) kX10_185 dX10_meetingTime_56 ?_
  refine zv_eql (y := (zL ((rAd (qPtr U S i) (-(qPtr U S o).1) (qPtr U S o).2).1))) ((rW_R _ _ _ _).1) ?_
  refine zv_lconst (v := zL 0) C dX10_meetingTime_59 (by decide) ?_
  refine zv_lc_neZ (tgt := 68) C (by omega) (by omega) dX10_meetingTime_60 dX10_meetingTime_61 (by decide) (fun h60 => ?_) (fun h60 => ?_)
  · skip
    refine zv_iload_n C 5 dX10_meetingTime_68 rfl rfl ?_
    refine zv_if_neZ (tgt := 80) C (by omega) dX10_meetingTime_69 (by decide) (fun h69 => ?_) (fun h69 => ?_)
    · skip
      refine zv_aload C 1 dX10_meetingTime_80 rfl ?_
      refine zG3_0 C (by decide : kd 320 = _) kX10_185 dX10_meetingTime_82 ?_
      refine zv_eql (y := (zL ((rAd (qPtr U S i) (-(qPtr U S o).1) (qPtr U S o).2).1))) ((rW_R _ _ _ _).1) ?_
      refine zv_cslD (st := []) C (c_J9_abs_067f4 hfl E (rW3 σ U S i o) ((rAd (qPtr U S i) (-(qPtr U S o).1) (qPtr U S o).2).1) (by omega)) mJ9_abs_067f4 kX10_239 rfl ⟨rfl, rfl⟩ (show zfit (zrm 0 0) 2 (zrm 4 105) = true from rfl) (Nat.le_of_ble_eq_true rfl) dX10_meetingTime_85 ⟨Nat.zero_le _, Nat.zero_le _⟩ ?_
      exact zv_lret C hr dX10_meetingTime_88 ⟨by rw [dMt, if_neg (by omega), if_neg (by omega)], rfl⟩
    · skip
      refine zv_aload C 1 dX10_meetingTime_72 rfl ?_
      refine zG3_1 C (by decide : kd 320 = _) kX10_189 dX10_meetingTime_74 ?_
      refine zv_eql (y := (zL ((rAd (qPtr U S i) (-(qPtr U S o).1) (qPtr U S o).2).2))) ((rW_R _ _ _ _).2) ?_
      refine zv_goto (tgt := 88) C dX10_meetingTime_77 (by decide) ?_
      exact zv_lret C hr dX10_meetingTime_88 ⟨by rw [dMt, if_neg (by omega), if_pos (by omega)], rfl⟩
  · skip
    refine zv_ldc2 C kX10_228 dX10_meetingTime_64 ?_
    refine zv_eql (y := zL (-1)) (by decide) ?_
    exact zv_lret C hr dX10_meetingTime_67 ⟨by rw [dMt, if_pos (by omega)], rfl⟩
set_option maxRecDepth 20000 in
theorem x1_X10_meetingTime {l : Launch} (hfl : l.stackTraces = false) (E : zE) (σ : zS) (U : zSU) (b : Int) (y : Int) (z : Int) (hU : zSUp σ 29 U) (hbi : -2147483648 ≤ b ∧ b < 2147483648) (hno : ¬ (0 ≤ b ∧ b < U.nb)) : zRx l E yX10_meetingTime cX10_meetingTime 6 (some .long) (zrx 9 200) [.ref (ob E 0), .int (zI b), .int (zI y), .int (zI z)] σ "java/lang/IndexOutOfBoundsException" := by
  refine vx_ofW (cc := cX10_meetingTime) (maxL := 6) (ret := (some .long)) (by decide) rfl ?_
  intro p e s m args below meth c s₁ B hml hout hv
  obtain ⟨rfl, hd⟩ := hv
  have C := zX_of (own := RX10) hfl B hml rfl hd rfl
  have hr := B.returns
  refine zV_go hd (Nat.le_of_ble_eq_true rfl) (lv := [(0, .ref (ob E 0)), (1, .int (zI b)), (2, .int (zI y)), (3, .int (zI z))]) rfl ?_
  have hnb : U.nb ≤ 8 := hU.2.2.1
  have hs0 := hU.2.2.2.1
  
  refine zv_aload_n C 0 dX10_meetingTime_0 rfl rfl ?_
  refine zv_iload_n C 1 dX10_meetingTime_1 rfl rfl ?_
  exact zv_xcv (st := []) C (x_X10_needBody hfl E σ U b hU hbi hno) hout mX10_needBody kX10_140 (by decide : kd 0 = 9) rfl rfl rfl ⟨rfl, rfl⟩ (show zfit (zrx 6 100) 2 (zrx 9 200) = true from rfl) (Nat.le_of_ble_eq_true rfl) dX10_meetingTime_2
set_option maxRecDepth 20000 in
theorem x2_X10_meetingTime {l : Launch} (hfl : l.stackTraces = false) (E : zE) (σ : zS) (U : zSU) (i : Nat) (y z : Int) (hU : zSUp σ 29 U) (hi : i < U.nb) (hyi : -2147483648 ≤ y ∧ y < 2147483648) (hno : ¬ (0 ≤ y ∧ y < U.nb)) : zRx l E yX10_meetingTime cX10_meetingTime 6 (some .long) (zrx 9 200) [.ref (ob E 0), .int (zI (i : Int)), .int (zI y), .int (zI z)] σ "java/lang/IndexOutOfBoundsException" := by
  refine vx_ofW (cc := cX10_meetingTime) (maxL := 6) (ret := (some .long)) (by decide) rfl ?_
  intro p e s m args below meth c s₁ B hml hout hv
  obtain ⟨rfl, hd⟩ := hv
  have C := zX_of (own := RX10) hfl B hml rfl hd rfl
  have hr := B.returns
  refine zV_go hd (Nat.le_of_ble_eq_true rfl) (lv := [(0, .ref (ob E 0)), (1, .int (zI (i : Int))), (2, .int (zI y)), (3, .int (zI z))]) rfl ?_
  have hnb : U.nb ≤ 8 := hU.2.2.1
  have hs0 := hU.2.2.2.1
  
  refine zv_aload_n C 0 dX10_meetingTime_0 rfl rfl ?_
  refine zv_iload_n C 1 dX10_meetingTime_1 rfl rfl ?_
  refine zv_cvvD (st := []) C (c_X10_needBody hfl E σ U (i : Int) hU (by omega) (by omega)) mX10_needBody kX10_140 (by decide : kd 0 = 9) rfl rfl rfl ⟨rfl, rfl⟩ (show zfit (zrm 0 0) 2 (zrx 9 200) = true from rfl) (Nat.le_of_ble_eq_true rfl) dX10_meetingTime_2 ⟨Nat.zero_le _, Nat.zero_le _⟩ ?_
  refine zv_aload_n C 0 dX10_meetingTime_5 rfl rfl ?_
  refine zv_iload_n C 2 dX10_meetingTime_6 rfl rfl ?_
  exact zv_xcv (st := []) C (x_X10_needBody hfl E σ U y hU hyi hno) hout mX10_needBody kX10_140 (by decide : kd 0 = 9) rfl rfl rfl ⟨rfl, rfl⟩ (show zfit (zrx 6 100) 2 (zrx 9 200) = true from rfl) (Nat.le_of_ble_eq_true rfl) dX10_meetingTime_7
set_option maxRecDepth 20000 in
theorem x3_X10_meetingTime {l : Launch} (hfl : l.stackTraces = false) (E : zE) (σ : zS) (U : zSU) (i o : Nat) (z : Int) (hU : zSUp σ 29 U) (hi : i < U.nb) (ho : o < U.nb) (hzi : -2147483648 ≤ z ∧ z < 2147483648) (hno : ¬ (0 ≤ z ∧ z ≤ 1)) : zRx l E yX10_meetingTime cX10_meetingTime 6 (some .long) (zrx 9 200) [.ref (ob E 0), .int (zI (i : Int)), .int (zI (o : Int)), .int (zI z)] σ "java/lang/IllegalArgumentException" := by
  refine vx_ofW (cc := cX10_meetingTime) (maxL := 6) (ret := (some .long)) (by decide) rfl ?_
  intro p e s m args below meth c s₁ B hml hout hv
  obtain ⟨rfl, hd⟩ := hv
  have C := zX_of (own := RX10) hfl B hml rfl hd rfl
  have hr := B.returns
  refine zV_go hd (Nat.le_of_ble_eq_true rfl) (lv := [(0, .ref (ob E 0)), (1, .int (zI (i : Int))), (2, .int (zI (o : Int))), (3, .int (zI z))]) rfl ?_
  have hnb : U.nb ≤ 8 := hU.2.2.1
  have hs0 := hU.2.2.2.1
  
  refine zv_aload_n C 0 dX10_meetingTime_0 rfl rfl ?_
  refine zv_iload_n C 1 dX10_meetingTime_1 rfl rfl ?_
  refine zv_cvvD (st := []) C (c_X10_needBody hfl E σ U (i : Int) hU (by omega) (by omega)) mX10_needBody kX10_140 (by decide : kd 0 = 9) rfl rfl rfl ⟨rfl, rfl⟩ (show zfit (zrm 0 0) 2 (zrx 9 200) = true from rfl) (Nat.le_of_ble_eq_true rfl) dX10_meetingTime_2 ⟨Nat.zero_le _, Nat.zero_le _⟩ ?_
  refine zv_aload_n C 0 dX10_meetingTime_5 rfl rfl ?_
  refine zv_iload_n C 2 dX10_meetingTime_6 rfl rfl ?_
  refine zv_cvvD (st := []) C (c_X10_needBody hfl E σ U (o : Int) hU (by omega) (by omega)) mX10_needBody kX10_140 (by decide : kd 0 = 9) rfl rfl rfl ⟨rfl, rfl⟩ (show zfit (zrm 0 0) 2 (zrx 9 200) = true from rfl) (Nat.le_of_ble_eq_true rfl) dX10_meetingTime_7 ⟨Nat.zero_le _, Nat.zero_le _⟩ ?_
  refine zv_iload_n C 3 dX10_meetingTime_10 rfl rfl ?_
  refine zv_iconst (v := zI 0) C dX10_meetingTime_11 rfl ?_
  refine zv_iconst (v := zI 1) C dX10_meetingTime_12 rfl ?_
  exact zv_xcs (st := []) C (x_X10_needWithin hfl E σ z 0 1 hzi (by omega) (by omega) hno) hout mX10_needWithin kX10_117 rfl ⟨rfl, rfl⟩ (show zfit (zrx 6 100) 3 (zrx 9 200) = true from rfl) (Nat.le_of_ble_eq_true rfl) dX10_meetingTime_13
def dAl (U : zSU) (S : zST) (i : Nat) (d orb : Int) : Nat → Int32
  | 0 => zI 0
  | j + 1 => if qWay U S i j d ≤ orb then dAl U S i d orb j ||| (zI 1 <<< (zI (j : Int) &&& 31)) else dAl U S i d orb j
def alW (σ : zS) (U : zSU) (S : zST) (i : Nat) : Nat → zS
  | 0 => rW σ 320 (qPtr U S i).1 (qPtr U S i).2
  | j + 1 => rW (alW σ U S i j) 321 (qPtr U S j).1 (qPtr U S j).2
theorem alW_I (σ : zS) (U : zSU) (S : zST) (i : Nat) : ∀ j x y, gI (alW σ U S i j) x y = gI σ x y := by
  intro j
  induction j with
  | zero => intro x y; rfl
  | succ j ih => intro x y; exact ih x y
theorem alW_J (σ : zS) (U : zSU) (S : zST) (i : Nat) : ∀ j x y, x ≠ 320 → x ≠ 321 → gJ (alW σ U S i j) x y = gJ σ x y := by
  intro j
  induction j with
  | zero => intro x y h1 _; exact gJ_rW _ _ _ _ _ _ h1
  | succ j ih => intro x y h1 h2; simp only [alW]; rw [gJ_rW _ _ _ _ _ _ h2]; exact ih x y h1 h2
theorem alW_U {σ : zS} {U : zSU} {S : zST} {i : Nat} (h : zSUp σ 29 U) (j : Nat) : zSUp (alW σ U S i j) 29 U := zSUp_w h (fun a b _ _ => ⟨alW_I _ _ _ _ _ _ _, alW_J _ _ _ _ _ _ _ (by omega) (by omega)⟩)
theorem alW_S {σ : zS} {U : zSU} {S : zST} {i : Nat} (h : zSTp σ 34 S) (j : Nat) : zSTp (alW σ U S i j) 34 S := zSTp_w h (fun a b _ _ => alW_I _ _ _ _ _ _ _)
set_option maxRecDepth 20000 in
theorem c_X10_aligned {l : Launch} (hfl : l.stackTraces = false) (E : zE) (σ : zS) (U : zSU) (S : zST) (i : Nat) (d orb : Int) (hU : zSUp σ 29 U) (hS : zSTp σ 34 S) (hi : i < U.nb) (hdd9 : 0 ≤ d ∧ d ≤ 400000) (horb : 0 ≤ orb ∧ orb ≤ 648000) : zRi l E yX10_aligned cX10_aligned 7 .int (zrm 4 105) [.ref (ob E 0), .int (zI (i : Int)), .int (zI d), .int (zI orb)] σ (fun r τ => r = dAl U S i d orb U.nb ∧ τ = alW σ U S i U.nb) := by
  refine Met.ofW (cc := cX10_aligned) (maxL := 7) (ret := (some .int)) (by decide +kernel) rfl ?_
  intro p e s m args below meth c s₁ B hml hv
  obtain ⟨rfl, hd⟩ := hv
  have C := zX_of (own := RX10) hfl B hml rfl hd rfl
  have hr := B.returns
  refine zV_go hd (Nat.le_of_ble_eq_true rfl) (lv := [(0, .ref (ob E 0)), (1, .int (zI (i : Int))), (2, .int (zI d)), (3, .int (zI orb))]) rfl ?_
  have hnb : U.nb ≤ 8 := hU.2.2.1
  have hs0 := hU.2.2.2.1
  have hqi := qPtr_b hU hS hi
  have hm1 := mul_b (b := d) (B := 400000) hqi.1 (by omega)
  have hai := qAng_b hU hS hi d
  refine zv_aload_n C 0 dX10_aligned_0 rfl rfl ?_
  refine zv_iload_n C 1 dX10_aligned_1 rfl rfl ?_
  refine zv_cvvD (st := []) C (c_X10_needBody hfl E σ U (i : Int) hU (by omega) (by omega)) mX10_needBody kX10_140 (by decide : kd 0 = 9) rfl rfl rfl ⟨rfl, rfl⟩ (show zfit (zrm 0 0) 2 (zrm 4 105) = true from rfl) (Nat.le_of_ble_eq_true rfl) dX10_aligned_2 ⟨Nat.zero_le _, Nat.zero_le _⟩ ?_
  refine zv_iload_n C 2 dX10_aligned_5 rfl rfl ?_
  refine zv_iconst (v := zI 0) C dX10_aligned_6 rfl ?_
  refine zv_ldc C kX10_199 dX10_aligned_7 ?_
  refine zv_eqi (y := zI 400000) (by decide) ?_
  refine zv_csvD (st := []) C (c_X10_needWithin hfl E σ d 0 400000 (by omega) (by omega) (by omega) hdd9) mX10_needWithin kX10_117 rfl ⟨rfl, rfl⟩ (show zfit (zrm 0 0) 3 (zrm 4 105) = true from rfl) (Nat.le_of_ble_eq_true rfl) dX10_aligned_9 ⟨Nat.zero_le _, Nat.zero_le _⟩ ?_
  refine zv_iload_n C 3 dX10_aligned_12 rfl rfl ?_
  refine zv_iconst (v := zI 0) C dX10_aligned_13 rfl ?_
  refine zv_ldcw C kX10_281 dX10_aligned_14 ?_
  refine zv_eqi (y := zI 648000) (by decide) ?_
  refine zv_csvD (st := []) C (c_X10_needWithin hfl E σ orb 0 648000 (by omega) (by omega) (by omega) horb) mX10_needWithin kX10_117 rfl ⟨rfl, rfl⟩ (show zfit (zrm 0 0) 3 (zrm 4 105) = true from rfl) (Nat.le_of_ble_eq_true rfl) dX10_aligned_17 ⟨Nat.zero_le _, Nat.zero_le _⟩ ?_
  refine zv_aload_n C 0 dX10_aligned_20 rfl rfl ?_
  refine zv_iload_n C 1 dX10_aligned_21 rfl rfl ?_
  refine zv_aload_n C 0 dX10_aligned_22 rfl rfl ?_
  refine zG9_6 C (by decide : kd 0 = _) kX10_54 dX10_aligned_23 ?_
  refine zv_cvrD (st := []) C (c_X10_pointerOf hfl E σ U S i 320 hU hS hi (by decide)) mX10_pointerOf kX10_181 (by decide : kd 0 = 9) rfl rfl rfl ⟨rfl, rfl⟩ (show zfit (zrm 3 80) 6 (zrm 4 105) = true from rfl) (Nat.le_of_ble_eq_true rfl) dX10_aligned_26 ⟨Nat.zero_le _, Nat.zero_le _⟩ ?_
  refine zv_iload_n C 2 dX10_aligned_29 rfl rfl ?_
  refine zv_cviD (st := []) C (c_X3_angleBy hfl E (rW σ 320 (qPtr U S i).1 (qPtr U S i).2) 320 (qPtr U S i).1 (qPtr U S i).2 (d) (by decide) (rW_R _ _ _ _) (by omega) (by omega) (by omega)) mX3_angleBy kX10_222 (by decide : kd 320 = 3) rfl rfl rfl ⟨rfl, rfl⟩ (show zfit (zrm 1 25) 2 (zrm 4 105) = true from rfl) (Nat.le_of_ble_eq_true rfl) dX10_aligned_30 ⟨Nat.zero_le _, Nat.zero_le _⟩ ?_
  refine zv_eqi (y := (zI (qAng U S i d))) (rfl) ?_
  refine zv_istore (lv' := [(4, .int (zI (qAng U S i d))), (0, .ref (ob E 0)), (1, .int (zI (i : Int))), (2, .int (zI d)), (3, .int (zI orb))]) C dX10_aligned_33  (by decide) rfl ?_
  refine zv_iconst (v := zI 0) C dX10_aligned_35 rfl ?_
  refine zv_istore (lv' := [(5, .int (zI 0)), (4, .int (zI (qAng U S i d))), (0, .ref (ob E 0)), (1, .int (zI (i : Int))), (2, .int (zI d)), (3, .int (zI orb))]) C dX10_aligned_36  (by decide) rfl ?_
  refine zv_iconst (v := zI 0) C dX10_aligned_38 rfl ?_
  refine zv_istore (lv' := [(6, .int (zI 0)), (5, .int (zI 0)), (4, .int (zI (qAng U S i d))), (0, .ref (ob E 0)), (1, .int (zI (i : Int))), (2, .int (zI d)), (3, .int (zI orb))]) C dX10_aligned_39  (by decide) rfl ?_
  have q41_31 : (0 : Int) = (0 : Int) := by first | rfl | omega
  have q41_32 : (zI 0) = (dAl U S i d orb 0) := by rfl
  refine zv_sub (lv' := [(0, .ref (ob E 0)), (2, .int (zI d)), (3, .int (zI orb)), (4, .int (zI (qAng U S i d))), (5, .int (dAl U S i d orb 0)), (6, .int (zI (0 : Int)))]) [3, 5, 6, 2, 1, 0] (zcons rfl (zcons rfl (zcons rfl (zcons rfl (zcons (zqi q41_32) (zcons (zqI q41_31) rfl)))))) ?_
  refine zv_eqS (τ := (alW σ U S i 0)) (rfl) ?_
  refine zv_while (α := Nat) (fun v => U.nb - v) (fun v => v ≤ U.nb) (fun v => (alW σ U S i v)) (fun v => [(0, .ref (ob E 0)), (2, .int (zI d)), (3, .int (zI orb)), (4, .int (zI (qAng U S i d))), (5, .int (dAl U S i d orb v)), (6, .int (zI (v : Int)))]) (fun v => []) (fun j hI ih => ?_) (0) (by omega)
  refine zv_iload C 5 dX10_aligned_41 rfl ?_
  refine zv_aload_n C 0 dX10_aligned_43 rfl rfl ?_
  refine zG9_1 C (by decide : kd 0 = _) kX10_19 dX10_aligned_44 ?_
  refine zG4_1 C (by decide : kd 29 = _) kX10_108 dX10_aligned_47 ?_
  refine zv_eqi (y := zI (U.nb : Int)) ((alW_U hU j).2.1) ?_
  refine zv_icmp_geZ (tgt := 91) C (by omega) (by omega) dX10_aligned_50 (by decide) (fun h50 => ?_) (fun h50 => ?_)
  · skip
    refine zv_iload C 4 dX10_aligned_91 rfl ?_
    exact zv_iret C hr rfl dX10_aligned_93 (by rw [show j = U.nb by omega]; exact ⟨rfl, rfl⟩)
  · skip
    have hqj := qPtr_b hU hS (i := j) (by omega)
    have hm2 := mul_b (b := d) (B := 400000) hqj.1 (by omega)
    have haj := qAng_b hU hS (i := j) (by omega) d
    have hwb : 0 ≤ qWay U S i j d ∧ qWay U S i j d ≤ 648000 := by unfold qWay; omega
    refine zv_iload C 3 dX10_aligned_53 rfl ?_
    refine zv_aload_n C 0 dX10_aligned_55 rfl rfl ?_
    refine zv_iload C 5 dX10_aligned_56 rfl ?_
    refine zv_aload_n C 0 dX10_aligned_58 rfl rfl ?_
    refine zG9_7 C (by decide : kd 0 = _) kX10_58 dX10_aligned_59 ?_
    refine zv_cvrD (st := [.int (zI (qAng U S i d))]) C (c_X10_pointerOf hfl E (alW σ U S i j) U S j 321 (alW_U hU j) (alW_S hS j) (by omega) (by decide)) mX10_pointerOf kX10_181 (by decide : kd 0 = 9) rfl rfl rfl ⟨rfl, rfl⟩ (show zfit (zrm 3 80) 6 (zrm 4 105) = true from rfl) (Nat.le_of_ble_eq_true rfl) dX10_aligned_62 ⟨Nat.zero_le _, Nat.zero_le _⟩ ?_
    refine zv_iload_n C 1 dX10_aligned_65 rfl rfl ?_
    refine zv_cviD (st := [.int (zI (qAng U S i d))]) C (c_X3_angleBy hfl E (rW (alW σ U S i j) 321 (qPtr U S j).1 (qPtr U S j).2) 321 (qPtr U S j).1 (qPtr U S j).2 (d) (by decide) (rW_R _ _ _ _) (by omega) (by omega) (by omega)) mX3_angleBy kX10_222 (by decide : kd 321 = 3) rfl rfl rfl ⟨rfl, rfl⟩ (show zfit (zrm 1 25) 2 (zrm 4 105) = true from rfl) (Nat.le_of_ble_eq_true rfl) dX10_aligned_66 ⟨Nat.zero_le _, Nat.zero_le _⟩ ?_
    refine zv_eqi (y := (zI (qAng U S j d))) (rfl) ?_
    refine zv_csiD (st := []) C (c_X10_wayRound hfl E (rW (alW σ U S i j) 321 (qPtr U S j).1 (qPtr U S j).2) (qAng U S i d) (qAng U S j d) hai haj) mX10_wayRound kX10_282 rfl ⟨rfl, rfl⟩ (show zfit (zrm 1 21) 3 (zrm 4 105) = true from rfl) (Nat.le_of_ble_eq_true rfl) dX10_aligned_69 ⟨Nat.zero_le _, Nat.zero_le _⟩ ?_
    refine zv_eqi (y := (zI (qWay U S i j d))) (rfl) ?_
    refine zv_iload_n C 2 dX10_aligned_72 rfl rfl ?_
    refine zv_icmp_gtZ (tgt := 85) C (by omega) (by omega) dX10_aligned_73 (by decide) (fun h73 => ?_) (fun h73 => ?_)
    · skip
      refine zv_iinc (v := (zI ((j : Int) + 1))) (lv' := [(6, .int (zI ((j : Int) + 1))), (0, .ref (ob E 0)), (2, .int (zI d)), (3, .int (zI orb)), (4, .int (zI (qAng U S i d))), (5, .int (dAl U S i d orb j))]) C 5 dX10_aligned_85 rfl (zI_add _ _) (by decide) rfl ?_
      refine zv_goto (tgt := 41) C dX10_aligned_88 (by decide) ?_
      have q41_66 : ((j : Int) + 1 : Int) = ((j + 1 : Nat) : Int) := by first | rfl | omega
      have q41_67 : (dAl U S i d orb j) = (dAl U S i d orb (j + 1)) := by first | exact (if_pos (by omega)).symm | exact (if_neg (by omega)).symm
      refine zv_sub (lv' := [(0, .ref (ob E 0)), (2, .int (zI d)), (3, .int (zI orb)), (4, .int (zI (qAng U S i d))), (5, .int (dAl U S i d orb (j + 1))), (6, .int (zI ((j + 1 : Nat) : Int)))]) [1, 2, 3, 4, 5, 0] (zcons rfl (zcons rfl (zcons rfl (zcons rfl (zcons (zqi q41_67) (zcons (zqI q41_66) rfl)))))) ?_
      refine zv_eqS (τ := (alW σ U S i (j + 1))) (rfl) ?_
      exact ih (j + 1) (by omega) (by omega)
    · skip
      refine zv_iload C 4 dX10_aligned_76 rfl ?_
      refine zv_iconst (v := zI 1) C dX10_aligned_78 rfl ?_
      refine zv_iload C 5 dX10_aligned_79 rfl ?_
      refine zv_ishl C dX10_aligned_81 ?_
      refine zv_ior C dX10_aligned_82 ?_
      refine zv_istore (lv' := [(5, .int ((dAl U S i d orb j) ||| ((zI 1) <<< ((zI (j : Int)) &&& 31)))), (0, .ref (ob E 0)), (2, .int (zI d)), (3, .int (zI orb)), (4, .int (zI (qAng U S i d))), (6, .int (zI (j : Int)))]) C dX10_aligned_83  (by decide) rfl ?_
      refine zv_iinc (v := (zI ((j : Int) + 1))) (lv' := [(6, .int (zI ((j : Int) + 1))), (5, .int ((dAl U S i d orb j) ||| ((zI 1) <<< ((zI (j : Int)) &&& 31)))), (0, .ref (ob E 0)), (2, .int (zI d)), (3, .int (zI orb)), (4, .int (zI (qAng U S i d)))]) C 5 dX10_aligned_85 rfl (zI_add _ _) (by decide) rfl ?_
      refine zv_goto (tgt := 41) C dX10_aligned_88 (by decide) ?_
      have q41_80 : ((j : Int) + 1 : Int) = ((j + 1 : Nat) : Int) := by first | rfl | omega
      have q41_81 : ((dAl U S i d orb j) ||| ((zI 1) <<< ((zI (j : Int)) &&& 31))) = (dAl U S i d orb (j + 1)) := by first | exact (if_pos (by omega)).symm | exact (if_neg (by omega)).symm
      refine zv_sub (lv' := [(0, .ref (ob E 0)), (2, .int (zI d)), (3, .int (zI orb)), (4, .int (zI (qAng U S i d))), (5, .int (dAl U S i d orb (j + 1))), (6, .int (zI ((j + 1 : Nat) : Int)))]) [2, 3, 4, 5, 1, 0] (zcons rfl (zcons rfl (zcons rfl (zcons rfl (zcons (zqi q41_81) (zcons (zqI q41_80) rfl)))))) ?_
      refine zv_eqS (τ := (alW σ U S i (j + 1))) (rfl) ?_
      exact ih (j + 1) (by omega) (by omega)
set_option maxRecDepth 20000 in
theorem x1_X10_aligned {l : Launch} (hfl : l.stackTraces = false) (E : zE) (σ : zS) (U : zSU) (b : Int) (y : Int) (z : Int) (hU : zSUp σ 29 U) (hbi : -2147483648 ≤ b ∧ b < 2147483648) (hno : ¬ (0 ≤ b ∧ b < U.nb)) : zRx l E yX10_aligned cX10_aligned 7 (some .int) (zrx 9 200) [.ref (ob E 0), .int (zI b), .int (zI y), .int (zI z)] σ "java/lang/IndexOutOfBoundsException" := by
  refine vx_ofW (cc := cX10_aligned) (maxL := 7) (ret := (some .int)) (by decide) rfl ?_
  intro p e s m args below meth c s₁ B hml hout hv
  obtain ⟨rfl, hd⟩ := hv
  have C := zX_of (own := RX10) hfl B hml rfl hd rfl
  have hr := B.returns
  refine zV_go hd (Nat.le_of_ble_eq_true rfl) (lv := [(0, .ref (ob E 0)), (1, .int (zI b)), (2, .int (zI y)), (3, .int (zI z))]) rfl ?_
  have hnb : U.nb ≤ 8 := hU.2.2.1
  have hs0 := hU.2.2.2.1
  
  refine zv_aload_n C 0 dX10_aligned_0 rfl rfl ?_
  refine zv_iload_n C 1 dX10_aligned_1 rfl rfl ?_
  exact zv_xcv (st := []) C (x_X10_needBody hfl E σ U b hU hbi hno) hout mX10_needBody kX10_140 (by decide : kd 0 = 9) rfl rfl rfl ⟨rfl, rfl⟩ (show zfit (zrx 6 100) 2 (zrx 9 200) = true from rfl) (Nat.le_of_ble_eq_true rfl) dX10_aligned_2
set_option maxRecDepth 20000 in
theorem x2_X10_aligned {l : Launch} (hfl : l.stackTraces = false) (E : zE) (σ : zS) (U : zSU) (i : Nat) (y z : Int) (hU : zSUp σ 29 U) (hi : i < U.nb) (hyi : -2147483648 ≤ y ∧ y < 2147483648) (hno : ¬ (0 ≤ y ∧ y ≤ 400000)) : zRx l E yX10_aligned cX10_aligned 7 (some .int) (zrx 9 200) [.ref (ob E 0), .int (zI (i : Int)), .int (zI y), .int (zI z)] σ "java/lang/IllegalArgumentException" := by
  refine vx_ofW (cc := cX10_aligned) (maxL := 7) (ret := (some .int)) (by decide) rfl ?_
  intro p e s m args below meth c s₁ B hml hout hv
  obtain ⟨rfl, hd⟩ := hv
  have C := zX_of (own := RX10) hfl B hml rfl hd rfl
  have hr := B.returns
  refine zV_go hd (Nat.le_of_ble_eq_true rfl) (lv := [(0, .ref (ob E 0)), (1, .int (zI (i : Int))), (2, .int (zI y)), (3, .int (zI z))]) rfl ?_
  have hnb : U.nb ≤ 8 := hU.2.2.1
  have hs0 := hU.2.2.2.1
  
  refine zv_aload_n C 0 dX10_aligned_0 rfl rfl ?_
  refine zv_iload_n C 1 dX10_aligned_1 rfl rfl ?_
  refine zv_cvvD (st := []) C (c_X10_needBody hfl E σ U (i : Int) hU (by omega) (by omega)) mX10_needBody kX10_140 (by decide : kd 0 = 9) rfl rfl rfl ⟨rfl, rfl⟩ (show zfit (zrm 0 0) 2 (zrx 9 200) = true from rfl) (Nat.le_of_ble_eq_true rfl) dX10_aligned_2 ⟨Nat.zero_le _, Nat.zero_le _⟩ ?_
  refine zv_iload_n C 2 dX10_aligned_5 rfl rfl ?_
  refine zv_iconst (v := zI 0) C dX10_aligned_6 rfl ?_
  refine zv_ldc C kX10_199 dX10_aligned_7 ?_
  refine zv_eqi (y := zI 400000) (by decide) ?_
  exact zv_xcs (st := []) C (x_X10_needWithin hfl E σ y 0 400000 hyi (by omega) (by omega) hno) hout mX10_needWithin kX10_117 rfl ⟨rfl, rfl⟩ (show zfit (zrx 6 100) 3 (zrx 9 200) = true from rfl) (Nat.le_of_ble_eq_true rfl) dX10_aligned_9
set_option maxRecDepth 20000 in
theorem x3_X10_aligned {l : Launch} (hfl : l.stackTraces = false) (E : zE) (σ : zS) (U : zSU) (i : Nat) (y z : Int) (hU : zSUp σ 29 U) (hi : i < U.nb) (hy : 0 ≤ y ∧ y ≤ 400000) (hzi : -2147483648 ≤ z ∧ z < 2147483648) (hno : ¬ (0 ≤ z ∧ z ≤ 648000)) : zRx l E yX10_aligned cX10_aligned 7 (some .int) (zrx 9 200) [.ref (ob E 0), .int (zI (i : Int)), .int (zI y), .int (zI z)] σ "java/lang/IllegalArgumentException" := by
  refine vx_ofW (cc := cX10_aligned) (maxL := 7) (ret := (some .int)) (by decide) rfl ?_
  intro p e s m args below meth c s₁ B hml hout hv
  obtain ⟨rfl, hd⟩ := hv
  have C := zX_of (own := RX10) hfl B hml rfl hd rfl
  have hr := B.returns
  refine zV_go hd (Nat.le_of_ble_eq_true rfl) (lv := [(0, .ref (ob E 0)), (1, .int (zI (i : Int))), (2, .int (zI y)), (3, .int (zI z))]) rfl ?_
  have hnb : U.nb ≤ 8 := hU.2.2.1
  have hs0 := hU.2.2.2.1
  
  refine zv_aload_n C 0 dX10_aligned_0 rfl rfl ?_
  refine zv_iload_n C 1 dX10_aligned_1 rfl rfl ?_
  refine zv_cvvD (st := []) C (c_X10_needBody hfl E σ U (i : Int) hU (by omega) (by omega)) mX10_needBody kX10_140 (by decide : kd 0 = 9) rfl rfl rfl ⟨rfl, rfl⟩ (show zfit (zrm 0 0) 2 (zrx 9 200) = true from rfl) (Nat.le_of_ble_eq_true rfl) dX10_aligned_2 ⟨Nat.zero_le _, Nat.zero_le _⟩ ?_
  refine zv_iload_n C 2 dX10_aligned_5 rfl rfl ?_
  refine zv_iconst (v := zI 0) C dX10_aligned_6 rfl ?_
  refine zv_ldc C kX10_199 dX10_aligned_7 ?_
  refine zv_eqi (y := zI 400000) (by decide) ?_
  refine zv_csvD (st := []) C (c_X10_needWithin hfl E σ y 0 400000 (by omega) (by omega) (by omega) hy) mX10_needWithin kX10_117 rfl ⟨rfl, rfl⟩ (show zfit (zrm 0 0) 3 (zrx 9 200) = true from rfl) (Nat.le_of_ble_eq_true rfl) dX10_aligned_9 ⟨Nat.zero_le _, Nat.zero_le _⟩ ?_
  refine zv_iload_n C 3 dX10_aligned_12 rfl rfl ?_
  refine zv_iconst (v := zI 0) C dX10_aligned_13 rfl ?_
  refine zv_ldcw C kX10_281 dX10_aligned_14 ?_
  refine zv_eqi (y := zI 648000) (by decide) ?_
  exact zv_xcs (st := []) C (x_X10_needWithin hfl E σ z 0 648000 hzi (by omega) (by omega) hno) hout mX10_needWithin kX10_117 rfl ⟨rfl, rfl⟩ (show zfit (zrx 6 100) 3 (zrx 9 200) = true from rfl) (Nat.le_of_ble_eq_true rfl) dX10_aligned_17
/-- the wheels of a best -/
def gWh : gB → Nat → Int
  | none, _ => 0
  | some (_, _, _, a, b, a2, b2), w => if w = 0 then (a : Int) else if w = 1 then (b : Int) else if w = 2 then (a2 : Int) else (b2 : Int)
theorem gWh_s {g : gB} (h : g ≠ none) (σ : zS) {w : Nat} (hw : w < 4) : gI (gW σ g) 319 w = zI (gWh g w) := by
  cases g with
  | none => exact absurd rfl h
  | some x =>
    obtain ⟨ov, un, sm, a, b, a2, b2⟩ := x
    show gI (gSet σ ov un sm a b a2 b2) 319 w = zI (gWh (some (ov, un, sm, a, b, a2, b2)) w)
    unfold gSet
    simp only [gI_sI, gI_sJ, gWh]
    rcases (show w = 0 ∨ w = 1 ∨ w = 2 ∨ w = 3 by omega) with rfl | rfl | rfl | rfl <;> simp
theorem gNew_n (t1 b1 : Nat) (g : gB) (a b a2 b2 : Nat) (h : g ≠ none) : gNew t1 b1 g a b a2 b2 ≠ none := by
  unfold gNew
  split
  · simp
  · exact h
theorem gNew_0 (t1 b1 : Nat) (a b a2 b2 : Nat) : gNew t1 b1 none a b a2 b2 ≠ none := by
  unfold gNew
  rw [if_pos (show gBet none (gOv t1 b1 a b a2 b2) (b * b2) (a + b + a2 + b2) = true from rfl)]
  simp
theorem gRow_n {t1 b1 : Nat} {Q : Nat → Option gQ} {g : gB} (h : g ≠ none) : ∀ j, gRow t1 b1 Q j g ≠ none := by
  intro j
  induction j with
  | zero => exact h
  | succ j ih =>
    cases hq : Q j with
    | none => rw [gRow_z hq]; exact ih
    | some q => rw [gRow_s hq]; exact gNew_n _ _ _ _ _ _ _ ih
theorem gRow_m {t1 b1 : Nat} {Q : Nat → Option gQ} {g : gB} {x : Nat} {q : gQ} (hx : Q x = some q) : ∀ j, x < j → gRow t1 b1 Q j g ≠ none := by
  intro j
  induction j with
  | zero => intro h; omega
  | succ j ih =>
    intro h
    rcases Nat.lt_or_ge x j with q9 | q9
    · cases hq : Q j with
      | none => rw [gRow_z hq]; exact ih q9
      | some q => rw [gRow_s hq]; exact gNew_n _ _ _ _ _ _ _ (ih q9)
    · rw [show j = x by omega, gRow_s hx]
      by_cases hg : gRow t1 b1 Q x g = none
      · rw [hg]; exact gNew_0 _ _ _ _ _ _
      · exact gNew_n _ _ _ _ _ _ _ hg
