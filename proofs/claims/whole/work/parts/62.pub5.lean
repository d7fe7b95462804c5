/-- the numbers of a drive; a body's properties -/
def dCnt (U : zSU) (S : zST) (q : Nat) (y : Int) : Int := if y = 0 then (U.nb : Int) else if y = 1 then (S.n : Int) else if y = 2 then U.s0 else if y = 3 then (S.sl : Int) else if y = 4 then (S.dy : Int) else if y = 5 then (q : Int) else (qTeeth S U.nb : Int)
def dBod (U : zSU) (S : zST) (i : Nat) (y : Int) : Int := if y = 0 then (U.pe i : Int) else if y = 1 then (U.re i : Int) else if y = 2 then U.ca i else if y = 3 then (S.tn i : Int) else if y = 4 then (tTe (S.tr i) (S.tn i) : Int) else 2 * (S.tn i : Int) - (tGe (S.tr i) (S.tn i) : Int)
set_option maxRecDepth 20000 in
theorem c_X10_count {l : Launch} (hfl : l.stackTraces = false) (E : zE) (σ : zS) (U : zSU) (S : zST) (q : Nat) (y : Int) (hU : zSUp σ 29 U) (hS : zSTp σ 34 S) (hq : gI σ 54 2 = zI (q : Int)) (hy : 0 ≤ y ∧ y ≤ 6) : zRi l E yX10_count cX10_count 2 .int (zrm 3 67) [.ref (ob E 0), .int (zI y)] σ (fun r τ => r = zI (dCnt U S q y) ∧ τ = σ) := by
  refine Met.ofW (cc := cX10_count) (maxL := 2) (ret := (some .int)) (by decide +kernel) rfl ?_
  intro p e s m args below meth c s₁ B hml hv
  obtain ⟨rfl, hd⟩ := hv
  have C := zX_of (own := RX10) hfl B hml rfl hd rfl
  have hr := B.returns
  refine zV_go hd (Nat.le_of_ble_eq_true rfl) (lv := [(0, .ref (ob E 0)), (1, .int (zI y))]) rfl ?_
  have hnb : U.nb ≤ 8 := hU.2.2.1
  have hs0 := hU.2.2.2.1
  
  refine zv_iload_n C 1 dX10_count_0 rfl rfl ?_
  refine zv_iconst (v := zI 0) C dX10_count_1 rfl ?_
  refine zv_bipush (v := zI 6) C dX10_count_2 (by decide) ?_
  refine zv_csvD (st := []) C (c_X10_needWithin hfl E σ y 0 6 (by omega) (by omega) (by omega) hy) mX10_needWithin kX10_117 rfl ⟨rfl, rfl⟩ (show zfit (zrm 0 0) 3 (zrm 3 67) = true from rfl) (Nat.le_of_ble_eq_true rfl) dX10_count_4 ⟨Nat.zero_le _, Nat.zero_le _⟩ ?_
  refine zv_iload_n C 1 dX10_count_7 rfl rfl ?_
  have hx8 : (zI y).toInt = y := zI_toInt (by omega)
  rcases (show (y = 0) ∨ (y = 1) ∨ (y = 2) ∨ (y = 3) ∨ (y = 4) ∨ (y = 5) ∨ (y < 0 ∨ 5 < y) by omega) with h8 | h8 | h8 | h8 | h8 | h8 | h8
  · skip
    refine zv_tsIn (off := 40) (tgt := 48) C dX10_count_8 (by rw [hx8]; omega) (by rw [hx8]; omega) (by rw [hx8, h8]; rfl) (by decide) ?_
    refine zv_aload_n C 0 dX10_count_48 rfl rfl ?_
    refine zG9_1 C (by decide : kd 0 = _) kX10_19 dX10_count_49 ?_
    refine zG4_1 C (by decide : kd 29 = _) kX10_108 dX10_count_52 ?_
    refine zv_eqi (y := zI (U.nb : Int)) (hU.2.1) ?_
    exact zv_iret C hr rfl dX10_count_55 ⟨by simp [dCnt, h8], rfl⟩
  · skip
    refine zv_tsIn (off := 48) (tgt := 56) C dX10_count_8 (by rw [hx8]; omega) (by rw [hx8]; omega) (by rw [hx8, h8]; rfl) (by decide) ?_
    refine zv_aload_n C 0 dX10_count_56 rfl rfl ?_
    refine zG9_2 C (by decide : kd 0 = _) kX10_26 dX10_count_57 ?_
    refine zG6_1 C (by decide : kd 34 = _) kX10_121 dX10_count_60 ?_
    refine zv_eqi (y := zI (S.n : Int)) (hS.1.1) ?_
    exact zv_iret C hr rfl dX10_count_63 ⟨by simp [dCnt, h8], rfl⟩
  · skip
    refine zv_tsIn (off := 56) (tgt := 64) C dX10_count_8 (by rw [hx8]; omega) (by rw [hx8]; omega) (by rw [hx8, h8]; rfl) (by decide) ?_
    refine zv_aload_n C 0 dX10_count_64 rfl rfl ?_
    refine zG9_1 C (by decide : kd 0 = _) kX10_19 dX10_count_65 ?_
    refine zG4_0 C (by decide : kd 29 = _) kX10_124 dX10_count_68 ?_
    refine zv_eqi (y := zI U.s0) (hU.1) ?_
    exact zv_iret C hr rfl dX10_count_71 ⟨by simp [dCnt, h8], rfl⟩
  · skip
    refine zv_tsIn (off := 64) (tgt := 72) C dX10_count_8 (by rw [hx8]; omega) (by rw [hx8]; omega) (by rw [hx8, h8]; rfl) (by decide) ?_
    refine zv_aload_n C 0 dX10_count_72 rfl rfl ?_
    refine zG9_2 C (by decide : kd 0 = _) kX10_26 dX10_count_73 ?_
    refine zG6_2 C (by decide : kd 34 = _) kX10_127 dX10_count_76 ?_
    refine zv_eqi (y := zI (S.sl : Int)) (hS.2.2.2.1.1) ?_
    exact zv_iret C hr rfl dX10_count_79 ⟨by simp [dCnt, h8], rfl⟩
  · skip
    refine zv_tsIn (off := 72) (tgt := 80) C dX10_count_8 (by rw [hx8]; omega) (by rw [hx8]; omega) (by rw [hx8, h8]; rfl) (by decide) ?_
    refine zv_aload_n C 0 dX10_count_80 rfl rfl ?_
    refine zG9_2 C (by decide : kd 0 = _) kX10_26 dX10_count_81 ?_
    refine zG6_3 C (by decide : kd 34 = _) kX10_130 dX10_count_84 ?_
    refine zv_eqi (y := zI (S.dy : Int)) (hS.2.2.2.2.1) ?_
    exact zv_iret C hr rfl dX10_count_87 ⟨by simp [dCnt, h8], rfl⟩
  · skip
    refine zv_tsIn (off := 80) (tgt := 88) C dX10_count_8 (by rw [hx8]; omega) (by rw [hx8]; omega) (by rw [hx8, h8]; rfl) (by decide) ?_
    refine zv_aload_n C 0 dX10_count_88 rfl rfl ?_
    refine zG9_3 C (by decide : kd 0 = _) kX10_33 dX10_count_89 ?_
    refine zG1_2 C (by decide : kd 54 = _) kX10_133 dX10_count_92 ?_
    refine zv_eqi (y := zI (q : Int)) (hq) ?_
    exact zv_iret C hr rfl dX10_count_95 ⟨by simp [dCnt, h8], rfl⟩
  · skip
    refine zv_tsOut (tgt := 96) C dX10_count_8 (by rw [hx8]; omega) (by decide) ?_
    refine zv_aload_n C 0 dX10_count_96 rfl rfl ?_
    refine zv_cviD (st := []) C (c_X10_teethOfAll hfl E σ U S hU hS) mX10_teethOfAll kX10_136 (by decide : kd 0 = 9) rfl rfl rfl ⟨rfl, rfl⟩ (show zfit (zrm 2 45) 3 (zrm 3 67) = true from rfl) (Nat.le_of_ble_eq_true rfl) dX10_count_97 ⟨Nat.zero_le _, Nat.zero_le _⟩ ?_
    exact zv_iret C hr rfl dX10_count_100 ⟨by rw [show y = 6 by omega]; rfl, rfl⟩
set_option maxRecDepth 20000 in
theorem x1_X10_count {l : Launch} (hfl : l.stackTraces = false) (E : zE) (σ : zS) (U : zSU) (y : Int) (hyi : -2147483648 ≤ y ∧ y < 2147483648) (hno : ¬ (0 ≤ y ∧ y ≤ 6)) : zRx l E yX10_count cX10_count 2 (some .int) (zrx 9 200) [.ref (ob E 0), .int (zI y)] σ "java/lang/IllegalArgumentException" := by
  refine vx_ofW (cc := cX10_count) (maxL := 2) (ret := (some .int)) (by decide) rfl ?_
  intro p e s m args below meth c s₁ B hml hout hv
  obtain ⟨rfl, hd⟩ := hv
  have C := zX_of (own := RX10) hfl B hml rfl hd rfl
  have hr := B.returns
  refine zV_go hd (Nat.le_of_ble_eq_true rfl) (lv := [(0, .ref (ob E 0)), (1, .int (zI y))]) rfl ?_
  skip
  refine zv_iload_n C 1 dX10_count_0 rfl rfl ?_
  refine zv_iconst (v := zI 0) C dX10_count_1 rfl ?_
  refine zv_bipush (v := zI 6) C dX10_count_2 (by decide) ?_
  exact zv_xcs (st := []) C (x_X10_needWithin hfl E σ y 0 6 hyi (by omega) (by omega) hno) hout mX10_needWithin kX10_117 rfl ⟨rfl, rfl⟩ (show zfit (zrx 6 100) 3 (zrx 9 200) = true from rfl) (Nat.le_of_ble_eq_true rfl) dX10_count_4
set_option maxRecDepth 20000 in
theorem c_X10_body {l : Launch} (hfl : l.stackTraces = false) (E : zE) (σ : zS) (U : zSU) (S : zST) (i : Nat) (y : Int) (hU : zSUp σ 29 U) (hS : zSTp σ 34 S) (hi : i < U.nb) (hy : 0 ≤ y ∧ y ≤ 5) : zRi l E yX10_body cX10_body 3 .int (zrm 2 45) [.ref (ob E 0), .int (zI (i : Int)), .int (zI y)] σ (fun r τ => r = zI (dBod U S i y) ∧ τ = σ) := by
  refine Met.ofW (cc := cX10_body) (maxL := 3) (ret := (some .int)) (by decide +kernel) rfl ?_
  intro p e s m args below meth c s₁ B hml hv
  obtain ⟨rfl, hd⟩ := hv
  have C := zX_of (own := RX10) hfl B hml rfl hd rfl
  have hr := B.returns
  refine zV_go hd (Nat.le_of_ble_eq_true rfl) (lv := [(0, .ref (ob E 0)), (1, .int (zI (i : Int))), (2, .int (zI y))]) rfl ?_
  have hnb : U.nb ≤ 8 := hU.2.2.1
  have hs0 := hU.2.2.2.1
  have hi8 : i < 8 := by omega
  have hki : kd (34 + 4 + 2 * i) = 8 := ((zst (show kd 34 = 6 by decide)).2.2.2 i hi8).1
  have hT := (hS.2.2.2.2.2.2 i hi8).1
  have hTw := (hS.2.2.2.2.2.2 i hi8).2
  have hre := (hU.2.2.2.2 i hi).2.2.2.2.2.1
  refine zv_aload_n C 0 dX10_body_0 rfl rfl ?_
  refine zv_iload_n C 1 dX10_body_1 rfl rfl ?_
  refine zv_cvvD (st := []) C (c_X10_needBody hfl E σ U (i : Int) hU (by omega) (by omega)) mX10_needBody kX10_140 (by decide : kd 0 = 9) rfl rfl rfl ⟨rfl, rfl⟩ (show zfit (zrm 0 0) 2 (zrm 2 45) = true from rfl) (Nat.le_of_ble_eq_true rfl) dX10_body_2 ⟨Nat.zero_le _, Nat.zero_le _⟩ ?_
  refine zv_iload_n C 2 dX10_body_5 rfl rfl ?_
  refine zv_iconst (v := zI 0) C dX10_body_6 rfl ?_
  refine zv_iconst (v := zI 5) C dX10_body_7 rfl ?_
  refine zv_csvD (st := []) C (c_X10_needWithin hfl E σ y 0 5 (by omega) (by omega) (by omega) hy) mX10_needWithin kX10_117 rfl ⟨rfl, rfl⟩ (show zfit (zrm 0 0) 3 (zrm 2 45) = true from rfl) (Nat.le_of_ble_eq_true rfl) dX10_body_8 ⟨Nat.zero_le _, Nat.zero_le _⟩ ?_
  refine zv_iload_n C 2 dX10_body_11 rfl rfl ?_
  have hx12 : (zI y).toInt = y := zI_toInt (by omega)
  rcases (show (y = 0) ∨ (y = 1) ∨ (y = 2) ∨ (y = 3) ∨ (y = 4) ∨ (y < 0 ∨ 4 < y) by omega) with h12 | h12 | h12 | h12 | h12 | h12
  · skip
    refine zv_tsIn (off := 36) (tgt := 48) C dX10_body_12 (by rw [hx12]; omega) (by rw [hx12]; omega) (by rw [hx12, h12]; rfl) (by decide) ?_
    refine zv_aload_n C 0 dX10_body_48 rfl rfl ?_
    refine zG9_1 C (by decide : kd 0 = _) kX10_19 dX10_body_49 ?_
    refine zG4_3 C (by decide : kd 29 = _) kX10_143 dX10_body_52 ?_
    refine zv_iload_n C 1 dX10_body_55 rfl rfl ?_
    refine zv_iald (j := i) C (by decide : kd 31 = _) (zI_ix (by omega)) (Nat.lt_of_lt_of_eq (by omega) (by decide)) dX10_body_56 ?_
    refine zv_eqi (y := (zI (U.pe i : Int))) ((hU.2.2.2.2 i hi).2.1) ?_
    exact zv_iret C hr rfl dX10_body_57 ⟨by simp [dBod, h12], rfl⟩
  · skip
    refine zv_tsIn (off := 46) (tgt := 58) C dX10_body_12 (by rw [hx12]; omega) (by rw [hx12]; omega) (by rw [hx12, h12]; rfl) (by decide) ?_
    refine zv_aload_n C 0 dX10_body_58 rfl rfl ?_
    refine zG9_1 C (by decide : kd 0 = _) kX10_19 dX10_body_59 ?_
    refine zG4_4 C (by decide : kd 29 = _) kX10_147 dX10_body_62 ?_
    refine zv_iload_n C 1 dX10_body_65 rfl rfl ?_
    refine zv_zald (j := i) C (by decide : kd 32 = _) (zI_ix (by omega)) (Nat.lt_of_lt_of_eq (by omega) (by decide)) (by rw [(hU.2.2.2.2 i hi).2.2.1]; rcases (show U.re i = 0 ∨ U.re i = 1 by omega) with e | e <;> rw [e] <;> rfl) dX10_body_66 ?_
    refine zv_eqi (y := (zI (U.re i : Int))) ((hU.2.2.2.2 i hi).2.2.1) ?_
    refine zv_if_eqZ (tgt := 74) C (by omega) dX10_body_67 (by decide) (fun h67 => ?_) (fun h67 => ?_)
    · skip
      refine zv_iconst (v := zI 0) C dX10_body_74 rfl ?_
      exact zv_iret C hr rfl dX10_body_75 ⟨congrArg zI (by rw [dBod, if_neg (by omega), if_pos h12]; omega), rfl⟩
    · skip
      refine zv_iconst (v := zI 1) C dX10_body_70 rfl ?_
      refine zv_goto (tgt := 75) C dX10_body_71 (by decide) ?_
      exact zv_iret C hr rfl dX10_body_75 ⟨congrArg zI (by rw [dBod, if_neg (by omega), if_pos h12]; omega), rfl⟩
  · skip
    refine zv_tsIn (off := 64) (tgt := 76) C dX10_body_12 (by rw [hx12]; omega) (by rw [hx12]; omega) (by rw [hx12, h12]; rfl) (by decide) ?_
    refine zv_aload_n C 0 dX10_body_76 rfl rfl ?_
    refine zG9_1 C (by decide : kd 0 = _) kX10_19 dX10_body_77 ?_
    refine zG4_5 C (by decide : kd 29 = _) kX10_151 dX10_body_80 ?_
    refine zv_iload_n C 1 dX10_body_83 rfl rfl ?_
    refine zv_iald (j := i) C (by decide : kd 33 = _) (zI_ix (by omega)) (Nat.lt_of_lt_of_eq (by omega) (by decide)) dX10_body_84 ?_
    refine zv_eqi (y := (zI (U.ca i))) ((hU.2.2.2.2 i hi).2.2.2.1) ?_
    exact zv_iret C hr rfl dX10_body_85 ⟨by simp [dBod, h12], rfl⟩
  · skip
    refine zv_tsIn (off := 74) (tgt := 86) C dX10_body_12 (by rw [hx12]; omega) (by rw [hx12]; omega) (by rw [hx12, h12]; rfl) (by decide) ?_
    refine zv_aload_n C 0 dX10_body_86 rfl rfl ?_
    refine zG9_2 C (by decide : kd 0 = _) kX10_26 dX10_body_87 ?_
    refine zG6_5 C (by decide : kd 34 = _) kX10_154 dX10_body_90 ?_
    refine zv_iload_n C 1 dX10_body_93 rfl rfl ?_
    refine zv_tald (j := i) C (by decide : kd 37 = _) (zI_ix (by omega)) (Nat.lt_of_lt_of_eq (by omega) (by decide)) dX10_body_94 ?_
    refine zG8_1 C hki kX10_158 dX10_body_95 ?_
    refine zv_eqi (y := (zI (S.tn i : Int))) (hT.1) ?_
    exact zv_iret C hr rfl dX10_body_98 ⟨by simp [dBod, h12], rfl⟩
  · skip
    refine zv_tsIn (off := 87) (tgt := 99) C dX10_body_12 (by rw [hx12]; omega) (by rw [hx12]; omega) (by rw [hx12, h12]; rfl) (by decide) ?_
    refine zv_aload_n C 0 dX10_body_99 rfl rfl ?_
    refine zG9_2 C (by decide : kd 0 = _) kX10_26 dX10_body_100 ?_
    refine zG6_5 C (by decide : kd 34 = _) kX10_154 dX10_body_103 ?_
    refine zv_iload_n C 1 dX10_body_106 rfl rfl ?_
    refine zv_tald (j := i) C (by decide : kd 37 = _) (zI_ix (by omega)) (Nat.lt_of_lt_of_eq (by omega) (by decide)) dX10_body_107 ?_
    refine zv_cviD (st := []) C (c_X8_teethTogether hfl E σ (34 + 4 + 2 * i) (S.tn i) (S.tr i) hki hT) mX8_teethTogether kX10_159 hki rfl rfl rfl ⟨rfl, rfl⟩ (show zfit (zrm 1 23) 3 (zrm 2 45) = true from rfl) (Nat.le_of_ble_eq_true rfl) dX10_body_108 ⟨Nat.zero_le _, Nat.zero_le _⟩ ?_
    exact zv_iret C hr rfl dX10_body_111 ⟨by simp [dBod, h12], rfl⟩
  · skip
    refine zv_tsOut (tgt := 112) C dX10_body_12 (by rw [hx12]; omega) (by decide) ?_
    refine zv_aload_n C 0 dX10_body_112 rfl rfl ?_
    refine zG9_2 C (by decide : kd 0 = _) kX10_26 dX10_body_113 ?_
    refine zG6_5 C (by decide : kd 34 = _) kX10_154 dX10_body_116 ?_
    refine zv_iload_n C 1 dX10_body_119 rfl rfl ?_
    refine zv_tald (j := i) C (by decide : kd 37 = _) (zI_ix (by omega)) (Nat.lt_of_lt_of_eq (by omega) (by decide)) dX10_body_120 ?_
    refine zv_cviD (st := []) C (c_X8_meshes hfl E σ (34 + 4 + 2 * i) (S.tn i) (S.tr i) hki hT) mX8_meshes kX10_162 hki rfl rfl rfl ⟨rfl, rfl⟩ (show zfit (zrm 1 22) 1 (zrm 2 45) = true from rfl) (Nat.le_of_ble_eq_true rfl) dX10_body_121 ⟨Nat.zero_le _, Nat.zero_le _⟩ ?_
    exact zv_iret C hr rfl dX10_body_124 ⟨by rw [show y = 5 by omega]; rfl, rfl⟩
set_option maxRecDepth 20000 in
theorem x1_X10_body {l : Launch} (hfl : l.stackTraces = false) (E : zE) (σ : zS) (U : zSU) (b : Int) (y : Int) (hU : zSUp σ 29 U) (hbi : -2147483648 ≤ b ∧ b < 2147483648) (hno : ¬ (0 ≤ b ∧ b < U.nb)) : zRx l E yX10_body cX10_body 3 (some .int) (zrx 9 200) [.ref (ob E 0), .int (zI b), .int (zI y)] σ "java/lang/IndexOutOfBoundsException" := by
  refine vx_ofW (cc := cX10_body) (maxL := 3) (ret := (some .int)) (by decide) rfl ?_
  intro p e s m args below meth c s₁ B hml hout hv
  obtain ⟨rfl, hd⟩ := hv
  have C := zX_of (own := RX10) hfl B hml rfl hd rfl
  have hr := B.returns
  refine zV_go hd (Nat.le_of_ble_eq_true rfl) (lv := [(0, .ref (ob E 0)), (1, .int (zI b)), (2, .int (zI y))]) rfl ?_
  have hnb : U.nb ≤ 8 := hU.2.2.1
  have hs0 := hU.2.2.2.1
  
  refine zv_aload_n C 0 dX10_body_0 rfl rfl ?_
  refine zv_iload_n C 1 dX10_body_1 rfl rfl ?_
  exact zv_xcv (st := []) C (x_X10_needBody hfl E σ U b hU hbi hno) hout mX10_needBody kX10_140 (by decide : kd 0 = 9) rfl rfl rfl ⟨rfl, rfl⟩ (show zfit (zrx 6 100) 2 (zrx 9 200) = true from rfl) (Nat.le_of_ble_eq_true rfl) dX10_body_2
set_option maxRecDepth 20000 in
theorem x2_X10_body {l : Launch} (hfl : l.stackTraces = false) (E : zE) (σ : zS) (U : zSU) (S : zST) (i : Nat) (y : Int) (hU : zSUp σ 29 U) (hi : i < U.nb) (hyi : -2147483648 ≤ y ∧ y < 2147483648) (hno : ¬ (0 ≤ y ∧ y ≤ 5)) : zRx l E yX10_body cX10_body 3 (some .int) (zrx 9 200) [.ref (ob E 0), .int (zI (i : Int)), .int (zI y)] σ "java/lang/IllegalArgumentException" := by
  refine vx_ofW (cc := cX10_body) (maxL := 3) (ret := (some .int)) (by decide) rfl ?_
  intro p e s m args below meth c s₁ B hml hout hv
  obtain ⟨rfl, hd⟩ := hv
  have C := zX_of (own := RX10) hfl B hml rfl hd rfl
  have hr := B.returns
  refine zV_go hd (Nat.le_of_ble_eq_true rfl) (lv := [(0, .ref (ob E 0)), (1, .int (zI (i : Int))), (2, .int (zI y))]) rfl ?_
  have hnb : U.nb ≤ 8 := hU.2.2.1
  have hs0 := hU.2.2.2.1
  
  refine zv_aload_n C 0 dX10_body_0 rfl rfl ?_
  refine zv_iload_n C 1 dX10_body_1 rfl rfl ?_
  refine zv_cvvD (st := []) C (c_X10_needBody hfl E σ U (i : Int) hU (by omega) (by omega)) mX10_needBody kX10_140 (by decide : kd 0 = 9) rfl rfl rfl ⟨rfl, rfl⟩ (show zfit (zrm 0 0) 2 (zrx 9 200) = true from rfl) (Nat.le_of_ble_eq_true rfl) dX10_body_2 ⟨Nat.zero_le _, Nat.zero_le _⟩ ?_
  refine zv_iload_n C 2 dX10_body_5 rfl rfl ?_
  refine zv_iconst (v := zI 0) C dX10_body_6 rfl ?_
  refine zv_iconst (v := zI 5) C dX10_body_7 rfl ?_
  exact zv_xcs (st := []) C (x_X10_needWithin hfl E σ y 0 5 hyi (by omega) (by omega) hno) hout mX10_needWithin kX10_117 rfl ⟨rfl, rfl⟩ (show zfit (zrx 6 100) 3 (zrx 9 200) = true from rfl) (Nat.le_of_ble_eq_true rfl) dX10_body_8
set_option maxRecDepth 20000 in
theorem c_X10_part {l : Launch} (hfl : l.stackTraces = false) (E : zE) (σ : zS) (U : zSU) (S : zST) (i : Nat) (j w : Nat) (hU : zSUp σ 29 U) (hS : zSTp σ 34 S) (hi : i < U.nb) (hj : j < S.tn i) (hw : w < 3) : zRi l E yX10_part cX10_part 5 .int (zrm 1 23) [.ref (ob E 0), .int (zI (i : Int)), .int (zI (j : Int)), .int (zI (w : Int))] σ (fun r τ => r = zI (S.tr i j w : Int) ∧ τ = σ) := by
  refine Met.ofW (cc := cX10_part) (maxL := 5) (ret := (some .int)) (by decide +kernel) rfl ?_
  intro p e s m args below meth c s₁ B hml hv
  obtain ⟨rfl, hd⟩ := hv
  have C := zX_of (own := RX10) hfl B hml rfl hd rfl
  have hr := B.returns
  refine zV_go hd (Nat.le_of_ble_eq_true rfl) (lv := [(0, .ref (ob E 0)), (1, .int (zI (i : Int))), (2, .int (zI (j : Int))), (3, .int (zI (w : Int)))]) rfl ?_
  have hnb : U.nb ≤ 8 := hU.2.2.1
  have hs0 := hU.2.2.2.1
  have hi8 : i < 8 := by omega
  have hki : kd (34 + 4 + 2 * i) = 8 := ((zst (show kd 34 = 6 by decide)).2.2.2 i hi8).1
  have hT := (hS.2.2.2.2.2.2 i hi8).1
  have hTw := (hS.2.2.2.2.2.2 i hi8).2
  have ht4 := hT.2.1
  refine zv_aload_n C 0 dX10_part_0 rfl rfl ?_
  refine zv_iload_n C 1 dX10_part_1 rfl rfl ?_
  refine zv_cvvD (st := []) C (c_X10_needBody hfl E σ U (i : Int) hU (by omega) (by omega)) mX10_needBody kX10_140 (by decide : kd 0 = 9) rfl rfl rfl ⟨rfl, rfl⟩ (show zfit (zrm 0 0) 2 (zrm 1 23) = true from rfl) (Nat.le_of_ble_eq_true rfl) dX10_part_2 ⟨Nat.zero_le _, Nat.zero_le _⟩ ?_
  refine zv_aload_n C 0 dX10_part_5 rfl rfl ?_
  refine zG9_2 C (by decide : kd 0 = _) kX10_26 dX10_part_6 ?_
  refine zG6_5 C (by decide : kd 34 = _) kX10_154 dX10_part_9 ?_
  refine zv_iload_n C 1 dX10_part_12 rfl rfl ?_
  refine zv_tald (j := i) C (by decide : kd 37 = _) (zI_ix (by omega)) (Nat.lt_of_lt_of_eq (by omega) (by decide)) dX10_part_13 ?_
  refine zv_astore (lv' := [(4, .ref (ob E (34 + 4 + 2 * i))), (0, .ref (ob E 0)), (1, .int (zI (i : Int))), (2, .int (zI (j : Int))), (3, .int (zI (w : Int)))]) C dX10_part_14  (by decide) rfl ?_
  refine zv_iload_n C 3 dX10_part_16 rfl rfl ?_
  refine zv_if_ltZ (tgt := 29) C (by omega) dX10_part_17 (by decide) (fun h17 => ?_) (fun h17 => ?_)
  · exfalso
    omega
  · skip
    refine zv_iload_n C 3 dX10_part_20 rfl rfl ?_
    refine zv_aload C 0 dX10_part_21 rfl ?_
    refine zG8_1 C hki kX10_158 dX10_part_23 ?_
    refine zv_eqi (y := zI (S.tn i : Int)) (hT.1) ?_
    refine zv_icmp_ltZ (tgt := 39) C (by omega) (by omega) dX10_part_26 (by decide) (fun h26 => ?_) (fun h26 => ?_)
    · skip
      refine zv_iload_n C 4 dX10_part_39 rfl rfl ?_
      refine zv_iconst (v := zI 0) C dX10_part_40 rfl ?_
      refine zv_iconst (v := zI 2) C dX10_part_41 rfl ?_
      refine zv_csvD (st := []) C (c_X10_needWithin hfl E σ (w : Int) 0 2 (by omega) (by omega) (by omega) (by omega)) mX10_needWithin kX10_117 rfl ⟨rfl, rfl⟩ (show zfit (zrm 0 0) 3 (zrm 1 23) = true from rfl) (Nat.le_of_ble_eq_true rfl) dX10_part_42 ⟨Nat.zero_le _, Nat.zero_le _⟩ ?_
      refine zv_aload C 0 dX10_part_45 rfl ?_
      refine zv_iload_n C 3 dX10_part_47 rfl rfl ?_
      refine zv_iload_n C 4 dX10_part_48 rfl rfl ?_
      refine zv_cviD (st := []) C (c_X8_cell hfl E σ (34 + 4 + 2 * i) j w hki (by omega) (by omega)) mX8_cell kX10_172 hki rfl rfl rfl ⟨rfl, rfl⟩ (show zfit (zrm 0 0) 4 (zrm 1 23) = true from rfl) (Nat.le_of_ble_eq_true rfl) dX10_part_49 ⟨Nat.zero_le _, Nat.zero_le _⟩ ?_
      refine zv_eqi (y := (zI (S.tr i j w : Int))) (hT.2.2.1 j w hj hw) ?_
      exact zv_iret C hr rfl dX10_part_52 ⟨rfl, rfl⟩
    · exfalso
      omega
set_option maxRecDepth 20000 in
theorem x1_X10_part {l : Launch} (hfl : l.stackTraces = false) (E : zE) (σ : zS) (U : zSU) (b : Int) (y : Int) (z : Int) (hU : zSUp σ 29 U) (hbi : -2147483648 ≤ b ∧ b < 2147483648) (hno : ¬ (0 ≤ b ∧ b < U.nb)) : zRx l E yX10_part cX10_part 5 (some .int) (zrx 9 200) [.ref (ob E 0), .int (zI b), .int (zI y), .int (zI z)] σ "java/lang/IndexOutOfBoundsException" := by
  refine vx_ofW (cc := cX10_part) (maxL := 5) (ret := (some .int)) (by decide) rfl ?_
  intro p e s m args below meth c s₁ B hml hout hv
  obtain ⟨rfl, hd⟩ := hv
  have C := zX_of (own := RX10) hfl B hml rfl hd rfl
  have hr := B.returns
  refine zV_go hd (Nat.le_of_ble_eq_true rfl) (lv := [(0, .ref (ob E 0)), (1, .int (zI b)), (2, .int (zI y)), (3, .int (zI z))]) rfl ?_
  have hnb : U.nb ≤ 8 := hU.2.2.1
  have hs0 := hU.2.2.2.1
  
  refine zv_aload_n C 0 dX10_part_0 rfl rfl ?_
  refine zv_iload_n C 1 dX10_part_1 rfl rfl ?_
  exact zv_xcv (st := []) C (x_X10_needBody hfl E σ U b hU hbi hno) hout mX10_needBody kX10_140 (by decide : kd 0 = 9) rfl rfl rfl ⟨rfl, rfl⟩ (show zfit (zrx 6 100) 2 (zrx 9 200) = true from rfl) (Nat.le_of_ble_eq_true rfl) dX10_part_2
set_option maxRecDepth 20000 in
theorem x2_X10_part {l : Launch} (hfl : l.stackTraces = false) (E : zE) (σ : zS) (U : zSU) (S : zST) (i : Nat) (y z : Int) (hU : zSUp σ 29 U) (hS : zSTp σ 34 S) (hi : i < U.nb) (hyi : -2147483648 ≤ y ∧ y < 2147483648) (hno : ¬ (0 ≤ y ∧ y < S.tn i)) : zRx l E yX10_part cX10_part 5 (some .int) (zrx 9 200) [.ref (ob E 0), .int (zI (i : Int)), .int (zI y), .int (zI z)] σ "java/util/NoSuchElementException" := by
  refine vx_ofW (cc := cX10_part) (maxL := 5) (ret := (some .int)) (by decide) rfl ?_
  intro p e s m args below meth c s₁ B hml hout hv
  obtain ⟨rfl, hd⟩ := hv
  have C := zX_of (own := RX10) hfl B hml rfl hd rfl
  have hr := B.returns
  refine zV_go hd (Nat.le_of_ble_eq_true rfl) (lv := [(0, .ref (ob E 0)), (1, .int (zI (i : Int))), (2, .int (zI y)), (3, .int (zI z))]) rfl ?_
  have hnb : U.nb ≤ 8 := hU.2.2.1
  have hs0 := hU.2.2.2.1
  have hi8 : i < 8 := by omega
  have hki : kd (34 + 4 + 2 * i) = 8 := ((zst (show kd 34 = 6 by decide)).2.2.2 i hi8).1
  have hT := (hS.2.2.2.2.2.2 i hi8).1
  have hTw := (hS.2.2.2.2.2.2 i hi8).2
  have ht4 := hT.2.1
  refine zv_aload_n C 0 dX10_part_0 rfl rfl ?_
  refine zv_iload_n C 1 dX10_part_1 rfl rfl ?_
  refine zv_cvvD (st := []) C (c_X10_needBody hfl E σ U (i : Int) hU (by omega) (by omega)) mX10_needBody kX10_140 (by decide : kd 0 = 9) rfl rfl rfl ⟨rfl, rfl⟩ (show zfit (zrm 0 0) 2 (zrx 9 200) = true from rfl) (Nat.le_of_ble_eq_true rfl) dX10_part_2 ⟨Nat.zero_le _, Nat.zero_le _⟩ ?_
  refine zv_aload_n C 0 dX10_part_5 rfl rfl ?_
  refine zG9_2 C (by decide : kd 0 = _) kX10_26 dX10_part_6 ?_
  refine zG6_5 C (by decide : kd 34 = _) kX10_154 dX10_part_9 ?_
  refine zv_iload_n C 1 dX10_part_12 rfl rfl ?_
  refine zv_tald (j := i) C (by decide : kd 37 = _) (zI_ix (by omega)) (Nat.lt_of_lt_of_eq (by omega) (by decide)) dX10_part_13 ?_
  refine zv_astore (lv' := [(4, .ref (ob E (34 + 4 + 2 * i))), (0, .ref (ob E 0)), (1, .int (zI (i : Int))), (2, .int (zI y)), (3, .int (zI z))]) C dX10_part_14  (by decide) rfl ?_
  refine zv_iload_n C 3 dX10_part_16 rfl rfl ?_
  refine zv_if_ltZ (tgt := 29) C (by omega) dX10_part_17 (by decide) (fun h17 => ?_) (fun h17 => ?_)
  · skip
    exact zv_throwN (text := "no such part") C hout rfl kX10_165 zini_NoSuchElementException (by decide) (by decide) zat_NoSuchElementException zot_NoSuchElementException dX10_part_29 dX10_part_32 dX10_part_33 dX10_part_35 dX10_part_38 (by decide) (by decide) ⟨by decide, by decide⟩
  · skip
    refine zv_iload_n C 3 dX10_part_20 rfl rfl ?_
    refine zv_aload C 0 dX10_part_21 rfl ?_
    refine zG8_1 C hki kX10_158 dX10_part_23 ?_
    refine zv_eqi (y := zI (S.tn i : Int)) (hT.1) ?_
    refine zv_icmp_ltZ (tgt := 39) C (by omega) (by omega) dX10_part_26 (by decide) (fun h26 => ?_) (fun h26 => ?_)
    · exfalso
      omega
    · skip
      exact zv_throwN (text := "no such part") C hout rfl kX10_165 zini_NoSuchElementException (by decide) (by decide) zat_NoSuchElementException zot_NoSuchElementException dX10_part_29 dX10_part_32 dX10_part_33 dX10_part_35 dX10_part_38 (by decide) (by decide) ⟨by decide, by decide⟩
set_option maxRecDepth 20000 in
theorem x3_X10_part {l : Launch} (hfl : l.stackTraces = false) (E : zE) (σ : zS) (U : zSU) (S : zST) (i : Nat) (j : Nat) (z : Int) (hU : zSUp σ 29 U) (hS : zSTp σ 34 S) (hi : i < U.nb) (hj : j < S.tn i) (hzi : -2147483648 ≤ z ∧ z < 2147483648) (hno : ¬ (0 ≤ z ∧ z ≤ 2)) : zRx l E yX10_part cX10_part 5 (some .int) (zrx 9 200) [.ref (ob E 0), .int (zI (i : Int)), .int (zI (j : Int)), .int (zI z)] σ "java/lang/IllegalArgumentException" := by
  refine vx_ofW (cc := cX10_part) (maxL := 5) (ret := (some .int)) (by decide) rfl ?_
  intro p e s m args below meth c s₁ B hml hout hv
  obtain ⟨rfl, hd⟩ := hv
  have C := zX_of (own := RX10) hfl B hml rfl hd rfl
  have hr := B.returns
  refine zV_go hd (Nat.le_of_ble_eq_true rfl) (lv := [(0, .ref (ob E 0)), (1, .int (zI (i : Int))), (2, .int (zI (j : Int))), (3, .int (zI z))]) rfl ?_
  have hnb : U.nb ≤ 8 := hU.2.2.1
  have hs0 := hU.2.2.2.1
  have hi8 : i < 8 := by omega
  have hki : kd (34 + 4 + 2 * i) = 8 := ((zst (show kd 34 = 6 by decide)).2.2.2 i hi8).1
  have hT := (hS.2.2.2.2.2.2 i hi8).1
  have hTw := (hS.2.2.2.2.2.2 i hi8).2
  have ht4 := hT.2.1
  refine zv_aload_n C 0 dX10_part_0 rfl rfl ?_
  refine zv_iload_n C 1 dX10_part_1 rfl rfl ?_
  refine zv_cvvD (st := []) C (c_X10_needBody hfl E σ U (i : Int) hU (by omega) (by omega)) mX10_needBody kX10_140 (by decide : kd 0 = 9) rfl rfl rfl ⟨rfl, rfl⟩ (show zfit (zrm 0 0) 2 (zrx 9 200) = true from rfl) (Nat.le_of_ble_eq_true rfl) dX10_part_2 ⟨Nat.zero_le _, Nat.zero_le _⟩ ?_
  refine zv_aload_n C 0 dX10_part_5 rfl rfl ?_
  refine zG9_2 C (by decide : kd 0 = _) kX10_26 dX10_part_6 ?_
  refine zG6_5 C (by decide : kd 34 = _) kX10_154 dX10_part_9 ?_
  refine zv_iload_n C 1 dX10_part_12 rfl rfl ?_
  refine zv_tald (j := i) C (by decide : kd 37 = _) (zI_ix (by omega)) (Nat.lt_of_lt_of_eq (by omega) (by decide)) dX10_part_13 ?_
  refine zv_astore (lv' := [(4, .ref (ob E (34 + 4 + 2 * i))), (0, .ref (ob E 0)), (1, .int (zI (i : Int))), (2, .int (zI (j : Int))), (3, .int (zI z))]) C dX10_part_14  (by decide) rfl ?_
  refine zv_iload_n C 3 dX10_part_16 rfl rfl ?_
  refine zv_if_ltZ (tgt := 29) C (by omega) dX10_part_17 (by decide) (fun h17 => ?_) (fun h17 => ?_)
  · exfalso
    omega
  · skip
    refine zv_iload_n C 3 dX10_part_20 rfl rfl ?_
    refine zv_aload C 0 dX10_part_21 rfl ?_
    refine zG8_1 C hki kX10_158 dX10_part_23 ?_
    refine zv_eqi (y := zI (S.tn i : Int)) (hT.1) ?_
    refine zv_icmp_ltZ (tgt := 39) C (by omega) (by omega) dX10_part_26 (by decide) (fun h26 => ?_) (fun h26 => ?_)
    · skip
      refine zv_iload_n C 4 dX10_part_39 rfl rfl ?_
      refine zv_iconst (v := zI 0) C dX10_part_40 rfl ?_
      refine zv_iconst (v := zI 2) C dX10_part_41 rfl ?_
      exact zv_xcs (st := []) C (x_X10_needWithin hfl E σ z 0 2 hzi (by omega) (by omega) hno) hout mX10_needWithin kX10_117 rfl ⟨rfl, rfl⟩ (show zfit (zrx 6 100) 3 (zrx 9 200) = true from rfl) (Nat.le_of_ble_eq_true rfl) dX10_part_42
    · exfalso
      omega
set_option maxRecDepth 20000 in
theorem c_X10_stock {l : Launch} (hfl : l.stackTraces = false) (E : zE) (σ : zS) (S : zST) (j : Nat) (hS : zSTp σ 34 S) (hj : j < S.n) : zRi l E yX10_stock cX10_stock 2 .int (zrm 0 0) [.ref (ob E 0), .int (zI (j : Int))] σ (fun r τ => r = zI (S.f j : Int) ∧ τ = σ) := by
  refine Met.ofW (cc := cX10_stock) (maxL := 2) (ret := (some .int)) (by decide +kernel) rfl ?_
  intro p e s m args below meth c s₁ B hml hv
  obtain ⟨rfl, hd⟩ := hv
  have C := zX_of (own := RX10) hfl B hml rfl hd rfl
  have hr := B.returns
  refine zV_go hd (Nat.le_of_ble_eq_true rfl) (lv := [(0, .ref (ob E 0)), (1, .int (zI (j : Int)))]) rfl ?_
  have hn16 := hS.1.2.1
  refine zv_iload_n C 1 dX10_stock_0 rfl rfl ?_
  refine zv_if_ltZ (tgt := 15) C (by omega) dX10_stock_1 (by decide) (fun h1 => ?_) (fun h1 => ?_)
  · exfalso
    omega
  · skip
    refine zv_iload_n C 1 dX10_stock_4 rfl rfl ?_
    refine zv_aload_n C 0 dX10_stock_5 rfl rfl ?_
    refine zG9_2 C (by decide : kd 0 = _) kX10_26 dX10_stock_6 ?_
    refine zG6_1 C (by decide : kd 34 = _) kX10_121 dX10_stock_9 ?_
    refine zv_eqi (y := zI (S.n : Int)) (hS.1.1) ?_
    refine zv_icmp_ltZ (tgt := 25) C (by omega) (by omega) dX10_stock_12 (by decide) (fun h12 => ?_) (fun h12 => ?_)
    · skip
      refine zv_aload_n C 0 dX10_stock_25 rfl rfl ?_
      refine zG9_2 C (by decide : kd 0 = _) kX10_26 dX10_stock_26 ?_
      refine zG6_0 C (by decide : kd 34 = _) kX10_178 dX10_stock_29 ?_
      refine zv_iload_n C 1 dX10_stock_32 rfl rfl ?_
      refine zv_iald (j := j) C (by decide : kd 35 = _) (zI_ix (by omega)) (Nat.lt_of_lt_of_eq (show j < 16 by omega) (by decide)) dX10_stock_33 ?_
      refine zv_eqi (y := (zI (S.f j : Int))) (hS.1.2.2.1 j hj) ?_
      exact zv_iret C hr rfl dX10_stock_34 ⟨rfl, rfl⟩
    · exfalso
      omega
set_option maxRecDepth 20000 in
theorem x1_X10_stock {l : Launch} (hfl : l.stackTraces = false) (E : zE) (σ : zS) (S : zST) (y : Int) (hS : zSTp σ 34 S) (hyi : -2147483648 ≤ y ∧ y < 2147483648) (hno : ¬ (0 ≤ y ∧ y < S.n)) : zRx l E yX10_stock cX10_stock 2 (some .int) (zrx 9 200) [.ref (ob E 0), .int (zI y)] σ "java/util/NoSuchElementException" := by
  refine vx_ofW (cc := cX10_stock) (maxL := 2) (ret := (some .int)) (by decide) rfl ?_
  intro p e s m args below meth c s₁ B hml hout hv
  obtain ⟨rfl, hd⟩ := hv
  have C := zX_of (own := RX10) hfl B hml rfl hd rfl
  have hr := B.returns
  refine zV_go hd (Nat.le_of_ble_eq_true rfl) (lv := [(0, .ref (ob E 0)), (1, .int (zI y))]) rfl ?_
  have hn16 := hS.1.2.1
  refine zv_iload_n C 1 dX10_stock_0 rfl rfl ?_
  refine zv_if_ltZ (tgt := 15) C (by omega) dX10_stock_1 (by decide) (fun h1 => ?_) (fun h1 => ?_)
  · skip
    exact zv_throwN (text := "no such place in the stock") C hout rfl kX10_165 zini_NoSuchElementException (by decide) (by decide) zat_NoSuchElementException zot_NoSuchElementException dX10_stock_15 dX10_stock_18 dX10_stock_19 dX10_stock_21 dX10_stock_24 (by decide) (by decide) ⟨by decide, by decide⟩
  · skip
    refine zv_iload_n C 1 dX10_stock_4 rfl rfl ?_
    refine zv_aload_n C 0 dX10_stock_5 rfl rfl ?_
    refine zG9_2 C (by decide : kd 0 = _) kX10_26 dX10_stock_6 ?_
    refine zG6_1 C (by decide : kd 34 = _) kX10_121 dX10_stock_9 ?_
    refine zv_eqi (y := zI (S.n : Int)) (hS.1.1) ?_
    refine zv_icmp_ltZ (tgt := 25) C (by omega) (by omega) dX10_stock_12 (by decide) (fun h12 => ?_) (fun h12 => ?_)
    · exfalso
      omega
    · skip
      exact zv_throwN (text := "no such place in the stock") C hout rfl kX10_165 zini_NoSuchElementException (by decide) (by decide) zat_NoSuchElementException zot_NoSuchElementException dX10_stock_15 dX10_stock_18 dX10_stock_19 dX10_stock_21 dX10_stock_24 (by decide) (by decide) ⟨by decide, by decide⟩
def qPlay (S : zST) (i : Nat) : Int := tPl (S.tr i) (S.sl : Int) (S.tn i) / tBot (S.tr i) (S.tn i)
set_option maxRecDepth 20000 in
theorem c_X10_backlash {l : Launch} (hfl : l.stackTraces = false) (E : zE) (σ : zS) (U : zSU) (S : zST) (i : Nat) (hU : zSUp σ 29 U) (hS : zSTp σ 34 S) (hi : i < U.nb) : zRi l E yX10_backlash cX10_backlash 2 .int (zrm 3 70) [.ref (ob E 0), .int (zI (i : Int))] σ (fun r τ => r = zI (qPlay S i) ∧ τ = σ) := by
  refine Met.ofW (cc := cX10_backlash) (maxL := 2) (ret := (some .int)) (by decide +kernel) rfl ?_
  intro p e s m args below meth c s₁ B hml hv
  obtain ⟨rfl, hd⟩ := hv
  have C := zX_of (own := RX10) hfl B hml rfl hd rfl
  have hr := B.returns
  refine zV_go hd (Nat.le_of_ble_eq_true rfl) (lv := [(0, .ref (ob E 0)), (1, .int (zI (i : Int)))]) rfl ?_
  have hnb : U.nb ≤ 8 := hU.2.2.1
  have hs0 := hU.2.2.2.1
  have hi8 : i < 8 := by omega
  have hki : kd (34 + 4 + 2 * i) = 8 := ((zst (show kd 34 = 6 by decide)).2.2.2 i hi8).1
  have hT := (hS.2.2.2.2.2.2 i hi8).1
  have hTw := (hS.2.2.2.2.2.2 i hi8).2
  have hsl := hS.2.2.2.1.2
  refine zv_aload_n C 0 dX10_backlash_0 rfl rfl ?_
  refine zv_iload_n C 1 dX10_backlash_1 rfl rfl ?_
  refine zv_cvvD (st := []) C (c_X10_needBody hfl E σ U (i : Int) hU (by omega) (by omega)) mX10_needBody kX10_140 (by decide : kd 0 = 9) rfl rfl rfl ⟨rfl, rfl⟩ (show zfit (zrm 0 0) 2 (zrm 3 70) = true from rfl) (Nat.le_of_ble_eq_true rfl) dX10_backlash_2 ⟨Nat.zero_le _, Nat.zero_le _⟩ ?_
  refine zv_aload_n C 0 dX10_backlash_5 rfl rfl ?_
  refine zG9_2 C (by decide : kd 0 = _) kX10_26 dX10_backlash_6 ?_
  refine zG6_5 C (by decide : kd 34 = _) kX10_154 dX10_backlash_9 ?_
  refine zv_iload_n C 1 dX10_backlash_12 rfl rfl ?_
  refine zv_tald (j := i) C (by decide : kd 37 = _) (zI_ix (by omega)) (Nat.lt_of_lt_of_eq (by omega) (by decide)) dX10_backlash_13 ?_
  refine zv_aload_n C 0 dX10_backlash_14 rfl rfl ?_
  refine zG9_2 C (by decide : kd 0 = _) kX10_26 dX10_backlash_15 ?_
  refine zG6_2 C (by decide : kd 34 = _) kX10_127 dX10_backlash_18 ?_
  refine zv_eqi (y := zI (S.sl : Int)) (hS.2.2.2.1.1) ?_
  refine zv_cviD (st := []) C (c_X8_playWith hfl E σ (34 + 4 + 2 * i) (S.tn i) (S.tr i) (S.sl : Int) hki hT hTw (by omega)) mX8_playWith kX10_337 hki rfl rfl rfl ⟨rfl, rfl⟩ (show zfit (zrm 2 44) 7 (zrm 3 70) = true from rfl) (Nat.le_of_ble_eq_true rfl) dX10_backlash_21 ⟨Nat.zero_le _, Nat.zero_le _⟩ ?_
  exact zv_iret C hr rfl dX10_backlash_24 ⟨rfl, rfl⟩
set_option maxRecDepth 20000 in
theorem x1_X10_backlash {l : Launch} (hfl : l.stackTraces = false) (E : zE) (σ : zS) (U : zSU) (b : Int) (hU : zSUp σ 29 U) (hbi : -2147483648 ≤ b ∧ b < 2147483648) (hno : ¬ (0 ≤ b ∧ b < U.nb)) : zRx l E yX10_backlash cX10_backlash 2 (some .int) (zrx 9 200) [.ref (ob E 0), .int (zI b)] σ "java/lang/IndexOutOfBoundsException" := by
  refine vx_ofW (cc := cX10_backlash) (maxL := 2) (ret := (some .int)) (by decide) rfl ?_
  intro p e s m args below meth c s₁ B hml hout hv
  obtain ⟨rfl, hd⟩ := hv
  have C := zX_of (own := RX10) hfl B hml rfl hd rfl
  have hr := B.returns
  refine zV_go hd (Nat.le_of_ble_eq_true rfl) (lv := [(0, .ref (ob E 0)), (1, .int (zI b))]) rfl ?_
  have hnb : U.nb ≤ 8 := hU.2.2.1
  have hs0 := hU.2.2.2.1
  
  refine zv_aload_n C 0 dX10_backlash_0 rfl rfl ?_
  refine zv_iload_n C 1 dX10_backlash_1 rfl rfl ?_
  exact zv_xcv (st := []) C (x_X10_needBody hfl E σ U b hU hbi hno) hout mX10_needBody kX10_140 (by decide : kd 0 = 9) rfl rfl rfl ⟨rfl, rfl⟩ (show zfit (zrx 6 100) 2 (zrx 9 200) = true from rfl) (Nat.le_of_ble_eq_true rfl) dX10_backlash_2
set_option maxRecDepth 20000 in
theorem c_X10_lag {l : Launch} (hfl : l.stackTraces = false) (E : zE) (σ : zS) (U : zSU) (S : zST) (i : Nat) (hU : zSUp σ 29 U) (hS : zSTp σ 34 S) (hi : i < U.nb) : zRi l E yX10_lag cX10_lag 2 .int (zrm 1 21) [.ref (ob E 0), .int (zI (i : Int))] σ (fun r τ => r = zI (S.lg i) ∧ τ = σ) := by
  refine Met.ofW (cc := cX10_lag) (maxL := 2) (ret := (some .int)) (by decide +kernel) rfl ?_
  intro p e s m args below meth c s₁ B hml hv
  obtain ⟨rfl, hd⟩ := hv
  have C := zX_of (own := RX10) hfl B hml rfl hd rfl
  have hr := B.returns
  refine zV_go hd (Nat.le_of_ble_eq_true rfl) (lv := [(0, .ref (ob E 0)), (1, .int (zI (i : Int)))]) rfl ?_
  have hnb : U.nb ≤ 8 := hU.2.2.1
  have hs0 := hU.2.2.2.1
  have hi8 : i < 8 := by omega
  have hki : kd (34 + 4 + 2 * i) = 8 := ((zst (show kd 34 = 6 by decide)).2.2.2 i hi8).1
  have hT := (hS.2.2.2.2.2.2 i hi8).1
  have hTw := (hS.2.2.2.2.2.2 i hi8).2
  
  refine zv_aload_n C 0 dX10_lag_0 rfl rfl ?_
  refine zv_iload_n C 1 dX10_lag_1 rfl rfl ?_
  refine zv_cvvD (st := []) C (c_X10_needBody hfl E σ U (i : Int) hU (by omega) (by omega)) mX10_needBody kX10_140 (by decide : kd 0 = 9) rfl rfl rfl ⟨rfl, rfl⟩ (show zfit (zrm 0 0) 2 (zrm 1 21) = true from rfl) (Nat.le_of_ble_eq_true rfl) dX10_lag_2 ⟨Nat.zero_le _, Nat.zero_le _⟩ ?_
  refine zv_aload_n C 0 dX10_lag_5 rfl rfl ?_
  refine zG9_2 C (by decide : kd 0 = _) kX10_26 dX10_lag_6 ?_
  refine zG6_4 C (by decide : kd 34 = _) kX10_310 dX10_lag_9 ?_
  refine zv_iload_n C 1 dX10_lag_12 rfl rfl ?_
  refine zv_iald (j := i) C (by decide : kd 36 = _) (zI_ix (by omega)) (Nat.lt_of_lt_of_eq (by omega) (by decide)) dX10_lag_13 ?_
  refine zv_eqi (y := (zI (S.lg i))) (hS.2.2.2.2.2.1 i hi8) ?_
  exact zv_iret C hr rfl dX10_lag_14 ⟨rfl, rfl⟩
set_option maxRecDepth 20000 in
theorem x1_X10_lag {l : Launch} (hfl : l.stackTraces = false) (E : zE) (σ : zS) (U : zSU) (b : Int) (hU : zSUp σ 29 U) (hbi : -2147483648 ≤ b ∧ b < 2147483648) (hno : ¬ (0 ≤ b ∧ b < U.nb)) : zRx l E yX10_lag cX10_lag 2 (some .int) (zrx 9 200) [.ref (ob E 0), .int (zI b)] σ "java/lang/IndexOutOfBoundsException" := by
  refine vx_ofW (cc := cX10_lag) (maxL := 2) (ret := (some .int)) (by decide) rfl ?_
  intro p e s m args below meth c s₁ B hml hout hv
  obtain ⟨rfl, hd⟩ := hv
  have C := zX_of (own := RX10) hfl B hml rfl hd rfl
  have hr := B.returns
  refine zV_go hd (Nat.le_of_ble_eq_true rfl) (lv := [(0, .ref (ob E 0)), (1, .int (zI b))]) rfl ?_
  have hnb : U.nb ≤ 8 := hU.2.2.1
  have hs0 := hU.2.2.2.1
  
  refine zv_aload_n C 0 dX10_lag_0 rfl rfl ?_
  refine zv_iload_n C 1 dX10_lag_1 rfl rfl ?_
  exact zv_xcv (st := []) C (x_X10_needBody hfl E σ U b hU hbi hno) hout mX10_needBody kX10_140 (by decide : kd 0 = 9) rfl rfl rfl ⟨rfl, rfl⟩ (show zfit (zrx 6 100) 2 (zrx 9 200) = true from rfl) (Nat.le_of_ble_eq_true rfl) dX10_lag_2
