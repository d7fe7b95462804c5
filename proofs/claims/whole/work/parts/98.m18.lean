/-! convergents, in the reference -/
theorem dCv_s {p k : Nat} {w : Int} (h : (cvS p k).1.2 ≠ 0) : dCv p k w = if w = 0 then (cvS p (k + 1)).2.1 else (cvS p (k + 1)).2.2.2.1 := by
  rw [dCv, if_neg h, cvS, if_neg h]
set_option maxRecDepth 20000 in
theorem c_X11_convergent {l : Launch} (hfl : l.stackTraces = false) (E : zE) (σ : zS) (σc : zS) (U : zSU) (i k : Nat) (w : Int) (hB : zRb (gI σ 328) U) (hU : zSUp σc 29 U) (hi : i < U.nb) (hk : k < 2147483648) (hw : w = 0 ∨ w = 1) : zRl l E yX11_convergent cX11_convergent 25 (zrm 2 46) [.ref (ob E 327), .int (zI (i : Int)), .int (zI (k : Int)), .int (zI w)] σ (fun r τ => r = zL (dCv (U.pe i) k w) ∧ mK σ τ 0) := by
  refine Met.ofW (cc := cX11_convergent) (maxL := 25) (ret := (some .long)) (by decide +kernel) rfl ?_
  intro p e s m args below meth c s₁ B hml hv
  obtain ⟨rfl, hd⟩ := hv
  have C := zX_of (own := RX11) hfl B hml rfl hd rfl
  have hr := B.returns
  refine zV_go hd (Nat.le_of_ble_eq_true rfl) (lv := [(0, .ref (ob E 327)), (1, .int (zI (i : Int))), (2, .int (zI (k : Int))), (3, .int (zI w))]) rfl ?_
  have hnb : U.nb ≤ 8 := hU.2.2.1
  have hs0 := hU.2.2.2.1
  have hpe := (hU.2.2.2.2 i hi).2.2.2.2.1
  refine zv_aload_n C 0 dX11_convergent_0 rfl rfl ?_
  refine zv_iload_n C 1 dX11_convergent_1 rfl rfl ?_
  refine zv_cviD (st := []) C (c0_X11_noBody hfl E σ σc U ((i : Int)) hB hU (by omega)) mX11_noBody kX11_319 (by decide : kd 327 = 10) rfl rfl rfl ⟨rfl, rfl⟩ (show zfit (zrm 1 25) 2 (zrm 2 46) = true from rfl) (Nat.le_of_ble_eq_true rfl) dX11_convergent_2 ⟨Nat.zero_le _, Nat.zero_le _⟩ ?_
  refine zv_if_neZ (tgt := 35) C (by omega) dX11_convergent_5 (by decide) (fun h5 => absurd h5 (by decide)) (fun h5 => ?_)
  refine zv_aload_n C 0 dX11_convergent_8 rfl rfl ?_
  refine zv_iload_n C 2 dX11_convergent_9 rfl rfl ?_
  refine zv_if_ltZ (tgt := 23) C (by omega) dX11_convergent_10 (by decide) (fun h10 => ?_) (fun h10 => ?_)
  · skip
    refine zv_iconst (v := zI 1) C dX11_convergent_23 rfl ?_
    refine zv_goto (tgt := 28) C dX11_convergent_24 (by decide) ?_
    refine zv_iconst (v := zI 2) C dX11_convergent_28 rfl ?_
    exfalso
    omega
  · skip
    refine zv_iload_n C 3 dX11_convergent_13 rfl rfl ?_
    refine zv_i2lZ C (by omega) dX11_convergent_14 ?_
    refine zv_lconst (v := zL 0) C dX11_convergent_15 (by decide) ?_
    refine zv_lconst (v := zL 1) C dX11_convergent_16 (by decide) ?_
    refine zv_csiD (st := [.ref (ob E 327)]) C (c_X11_inRange hfl E (thW σ 0) (w) (0) (1) (by omega) (by omega) (by omega)) mX11_inRange kX11_71 rfl ⟨rfl, rfl⟩ (show zfit (zrm 0 0) 6 (zrm 2 46) = true from rfl) (Nat.le_of_ble_eq_true rfl) dX11_convergent_17 ⟨Nat.zero_le _, Nat.zero_le _⟩ ?_
    refine zv_if_neB (tgt := 27) C dX11_convergent_20 (by decide) (fun h20 => ?_) (fun h20 => ?_)
    · skip
      refine zv_iconst (v := zI 0) C dX11_convergent_27 rfl ?_
      refine zv_iconst (v := zI 2) C dX11_convergent_28 rfl ?_
      refine zv_cviD (st := []) C (c0_X11_fails hfl E (thW σ 0) 2) mX11_fails kX11_309 (by decide : kd 327 = 10) rfl rfl rfl ⟨rfl, rfl⟩ (show zfit (zrm 0 0) 3 (zrm 2 46) = true from rfl) (Nat.le_of_ble_eq_true rfl) dX11_convergent_29 ⟨Nat.zero_le _, Nat.zero_le _⟩ ?_
      refine zv_if_eqZ (tgt := 37) C (by omega) dX11_convergent_32 (by decide) (fun h32 => ?_) (fun h32 => absurd h32 (by decide))
      refine zv_ldc2 C kX11_273 dX11_convergent_37 ?_
      refine zv_eql (y := zL 100) (by decide) ?_
      refine zv_lstore (lv' := [(4, .long (zL 100)), (0, .ref (ob E 327)), (1, .int (zI (i : Int))), (2, .int (zI (k : Int))), (3, .int (zI w))]) C dX11_convergent_40  (by decide) rfl ?_
      refine zv_aload_n C 1 dX11_convergent_42 rfl rfl ?_
      refine zv_iload_n C 2 dX11_convergent_43 rfl rfl ?_
      refine zv_iconst (v := zI 0) C dX11_convergent_44 rfl ?_
      refine zv_cviD (st := []) C (c0_X11_of hfl E (thW σ 0) U i hB hi hnb) mX11_of kX11_185 (by decide : kd 327 = 10) rfl rfl rfl ⟨rfl, rfl⟩ (show zfit (zrm 0 0) 3 (zrm 2 46) = true from rfl) (Nat.le_of_ble_eq_true rfl) dX11_convergent_45 ⟨Nat.zero_le _, Nat.zero_le _⟩ ?_
      refine zv_i2lZ C (by omega) dX11_convergent_48 ?_
      refine zv_lstore (lv' := [(6, .long (zL (U.pe i : Int))), (4, .long (zL 100)), (0, .ref (ob E 327)), (1, .int (zI (i : Int))), (2, .int (zI (k : Int))), (3, .int (zI w))]) C dX11_convergent_49  (by decide) rfl ?_
      refine zv_lconst (v := zL 1) C dX11_convergent_51 (by decide) ?_
      refine zv_lstore (lv' := [(8, .long (zL 1)), (6, .long (zL (U.pe i : Int))), (4, .long (zL 100)), (0, .ref (ob E 327)), (1, .int (zI (i : Int))), (2, .int (zI (k : Int))), (3, .int (zI w))]) C dX11_convergent_52  (by decide) rfl ?_
      refine zv_lconst (v := zL 0) C dX11_convergent_54 (by decide) ?_
      refine zv_lstore (lv' := [(10, .long (zL 0)), (8, .long (zL 1)), (6, .long (zL (U.pe i : Int))), (4, .long (zL 100)), (0, .ref (ob E 327)), (1, .int (zI (i : Int))), (2, .int (zI (k : Int))), (3, .int (zI w))]) C dX11_convergent_55  (by decide) rfl ?_
      refine zv_lconst (v := zL 0) C dX11_convergent_57 (by decide) ?_
      refine zv_lstore (lv' := [(12, .long (zL 0)), (10, .long (zL 0)), (8, .long (zL 1)), (6, .long (zL (U.pe i : Int))), (4, .long (zL 100)), (0, .ref (ob E 327)), (1, .int (zI (i : Int))), (2, .int (zI (k : Int))), (3, .int (zI w))]) C dX11_convergent_58  (by decide) rfl ?_
      refine zv_lconst (v := zL 1) C dX11_convergent_60 (by decide) ?_
      refine zv_lstore (lv' := [(14, .long (zL 1)), (12, .long (zL 0)), (10, .long (zL 0)), (8, .long (zL 1)), (6, .long (zL (U.pe i : Int))), (4, .long (zL 100)), (0, .ref (ob E 327)), (1, .int (zI (i : Int))), (2, .int (zI (k : Int))), (3, .int (zI w))]) C dX11_convergent_61  (by decide) rfl ?_
      refine zv_iconst (v := zI 0) C dX11_convergent_63 rfl ?_
      refine zv_istore (lv' := [(16, .int (zI 0)), (14, .long (zL 1)), (12, .long (zL 0)), (10, .long (zL 0)), (8, .long (zL 1)), (6, .long (zL (U.pe i : Int))), (4, .long (zL 100)), (0, .ref (ob E 327)), (1, .int (zI (i : Int))), (2, .int (zI (k : Int))), (3, .int (zI w))]) C dX11_convergent_64  (by decide) rfl ?_
      have q66_47 : (0 : Int) = (0 : Int) := by first | rfl | omega
      have q66_48 : (1 : Int) = (cvS (U.pe i) 0).2.2.2.2 := by rfl
      have q66_49 : (0 : Int) = (cvS (U.pe i) 0).2.2.1 := by rfl
      have q66_50 : (0 : Int) = (cvS (U.pe i) 0).2.2.2.1 := by rfl
      have q66_51 : (1 : Int) = (cvS (U.pe i) 0).2.1 := by rfl
      have q66_52 : ((U.pe i : Int) : Int) = ((cvS (U.pe i) 0).1.2 : Int) := by rfl
      have q66_53 : (100 : Int) = ((cvS (U.pe i) 0).1.1 : Int) := by rfl
      refine zv_sub (lv' := [(0, .ref (ob E 327)), (1, .int (zI (i : Int))), (2, .int (zI (k : Int))), (3, .int (zI w)), (4, .long (zL ((cvS (U.pe i) 0).1.1 : Int))), (6, .long (zL ((cvS (U.pe i) 0).1.2 : Int))), (8, .long (zL ((cvS (U.pe i) 0).2.1))), (10, .long (zL ((cvS (U.pe i) 0).2.2.2.1))), (12, .long (zL ((cvS (U.pe i) 0).2.2.1))), (14, .long (zL ((cvS (U.pe i) 0).2.2.2.2))), (16, .int (zI (0 : Int)))]) [7, 8, 9, 10, 6, 5, 4, 3, 2, 1, 0] (zcons rfl (zcons rfl (zcons rfl (zcons rfl (zcons (zqL q66_53) (zcons (zqL q66_52) (zcons (zqL q66_51) (zcons (zqL q66_50) (zcons (zqL q66_49) (zcons (zqL q66_48) (zcons (zqI q66_47) rfl))))))))))) ?_
      refine zv_while (α := Nat) (fun v => 201 - v) (fun v => v ≤ 200 ∧ v ≤ k + 1 ∧ ∀ n, n < v → (cvS (U.pe i) n).1.2 ≠ 0) (fun v => (thW σ 0)) (fun v => [(0, .ref (ob E 327)), (1, .int (zI (i : Int))), (2, .int (zI (k : Int))), (3, .int (zI w)), (4, .long (zL ((cvS (U.pe i) v).1.1 : Int))), (6, .long (zL ((cvS (U.pe i) v).1.2 : Int))), (8, .long (zL ((cvS (U.pe i) v).2.1))), (10, .long (zL ((cvS (U.pe i) v).2.2.2.1))), (12, .long (zL ((cvS (U.pe i) v).2.2.1))), (14, .long (zL ((cvS (U.pe i) v).2.2.2.2))), (16, .int (zI (v : Int)))]) (fun v => []) (fun j hI ih => ?_) (0) (⟨by omega, by omega, fun n h => absurd h (by omega)⟩)
      obtain ⟨hI, hI2, hI3⟩ := hI
      have hcb := cvS_b hpe j
      have h200 : j = 200 → (cvS (U.pe i) j).1.2 = 0 := fun z => by rw [z]; exact cvS_200 hpe
      refine zv_iload C 10 dX11_convergent_66 rfl ?_
      refine zv_iload_n C 2 dX11_convergent_68 rfl rfl ?_
      refine zv_icmp_gtZ (tgt := 147) C (by omega) (by omega) dX11_convergent_69 (by decide) (fun h69 => ?_) (fun h69 => ?_)
      · skip
        refine zv_iload_n C 3 dX11_convergent_147 rfl rfl ?_
        refine zv_if_neZ (tgt := 156) C (by omega) dX11_convergent_148 (by decide) (fun h148 => ?_) (fun h148 => ?_)
        · skip
          refine zv_lload C 7 dX11_convergent_156 rfl ?_
          exact zv_lret C hr dX11_convergent_158 ⟨by rw [dCv_s (hI3 k (by omega)), if_neg (by omega), show k + 1 = j by omega], mK_th _ _⟩
        · skip
          refine zv_lload C 6 dX11_convergent_151 rfl ?_
          refine zv_goto (tgt := 158) C dX11_convergent_153 (by decide) ?_
          exact zv_lret C hr dX11_convergent_158 ⟨by rw [dCv_s (hI3 k (by omega)), if_pos (by omega), show k + 1 = j by omega], mK_th _ _⟩
      · skip
        refine zv_lload C 5 dX11_convergent_72 rfl ?_
        refine zv_lconst (v := zL 0) C dX11_convergent_74 (by decide) ?_
        refine zv_lc_neZ (tgt := 83) C (by omega) (by omega) dX11_convergent_75 dX11_convergent_76 (by decide) (fun h75 => ?_) (fun h75 => ?_)
        · skip
          have hj0 : (cvS (U.pe i) j).1.2 ≠ 0 := by omega
          have hdv := Nat.div_le_self (cvS (U.pe i) j).1.1 (cvS (U.pe i) j).1.2
          refine zv_lload C 4 dX11_convergent_83 rfl ?_
          refine zv_lload C 5 dX11_convergent_85 rfl ?_
          refine zv_ldivP C (by omega) (by omega) dX11_convergent_87 ?_
          refine zv_eql (y := (zL (((cvS (U.pe i) j).1.1 / (cvS (U.pe i) j).1.2 : Nat) : Int))) (by rw [Int.natCast_ediv]) ?_
          refine zv_lstore (lv' := [(17, .long (zL (((cvS (U.pe i) j).1.1 / (cvS (U.pe i) j).1.2 : Nat) : Int))), (0, .ref (ob E 327)), (1, .int (zI (i : Int))), (2, .int (zI (k : Int))), (3, .int (zI w)), (4, .long (zL ((cvS (U.pe i) j).1.1 : Int))), (6, .long (zL ((cvS (U.pe i) j).1.2 : Int))), (8, .long (zL ((cvS (U.pe i) j).2.1))), (10, .long (zL ((cvS (U.pe i) j).2.2.2.1))), (12, .long (zL ((cvS (U.pe i) j).2.2.1))), (14, .long (zL ((cvS (U.pe i) j).2.2.2.2))), (16, .int (zI (j : Int)))]) C dX11_convergent_88  (by decide) rfl ?_
          refine zv_lload C 5 dX11_convergent_90 rfl ?_
          refine zv_lload C 6 dX11_convergent_92 rfl ?_
          refine zv_lremP C (by omega) (by omega) dX11_convergent_94 ?_
          refine zv_eql (y := (zL (((cvS (U.pe i) j).1.1 % (cvS (U.pe i) j).1.2 : Nat) : Int))) (by rw [Int.natCast_emod]) ?_
          refine zv_lstore (lv' := [(19, .long (zL (((cvS (U.pe i) j).1.1 % (cvS (U.pe i) j).1.2 : Nat) : Int))), (17, .long (zL (((cvS (U.pe i) j).1.1 / (cvS (U.pe i) j).1.2 : Nat) : Int))), (0, .ref (ob E 327)), (1, .int (zI (i : Int))), (2, .int (zI (k : Int))), (3, .int (zI w)), (4, .long (zL ((cvS (U.pe i) j).1.1 : Int))), (6, .long (zL ((cvS (U.pe i) j).1.2 : Int))), (8, .long (zL ((cvS (U.pe i) j).2.1))), (10, .long (zL ((cvS (U.pe i) j).2.2.2.1))), (12, .long (zL ((cvS (U.pe i) j).2.2.1))), (14, .long (zL ((cvS (U.pe i) j).2.2.2.2))), (16, .int (zI (j : Int)))]) C dX11_convergent_95  (by decide) rfl ?_
          refine zv_lload C 7 dX11_convergent_97 rfl ?_
          refine zv_lstore (lv' := [(4, .long (zL ((cvS (U.pe i) j).1.2 : Int))), (19, .long (zL (((cvS (U.pe i) j).1.1 % (cvS (U.pe i) j).1.2 : Nat) : Int))), (17, .long (zL (((cvS (U.pe i) j).1.1 / (cvS (U.pe i) j).1.2 : Nat) : Int))), (0, .ref (ob E 327)), (1, .int (zI (i : Int))), (2, .int (zI (k : Int))), (3, .int (zI w)), (6, .long (zL ((cvS (U.pe i) j).1.2 : Int))), (8, .long (zL ((cvS (U.pe i) j).2.1))), (10, .long (zL ((cvS (U.pe i) j).2.2.2.1))), (12, .long (zL ((cvS (U.pe i) j).2.2.1))), (14, .long (zL ((cvS (U.pe i) j).2.2.2.2))), (16, .int (zI (j : Int)))]) C dX11_convergent_99  (by decide) rfl ?_
          refine zv_lload C 1 dX11_convergent_101 rfl ?_
          refine zv_lstore (lv' := [(6, .long (zL (((cvS (U.pe i) j).1.1 % (cvS (U.pe i) j).1.2 : Nat) : Int))), (4, .long (zL ((cvS (U.pe i) j).1.2 : Int))), (19, .long (zL (((cvS (U.pe i) j).1.1 % (cvS (U.pe i) j).1.2 : Nat) : Int))), (17, .long (zL (((cvS (U.pe i) j).1.1 / (cvS (U.pe i) j).1.2 : Nat) : Int))), (0, .ref (ob E 327)), (1, .int (zI (i : Int))), (2, .int (zI (k : Int))), (3, .int (zI w)), (8, .long (zL ((cvS (U.pe i) j).2.1))), (10, .long (zL ((cvS (U.pe i) j).2.2.2.1))), (12, .long (zL ((cvS (U.pe i) j).2.2.1))), (14, .long (zL ((cvS (U.pe i) j).2.2.2.2))), (16, .int (zI (j : Int)))]) C dX11_convergent_103  (by decide) rfl ?_
          refine zv_lload C 3 dX11_convergent_105 rfl ?_
          refine zv_lload C 8 dX11_convergent_107 rfl ?_
          refine zv_lmulZ C dX11_convergent_109 ?_
          refine zv_lload C 10 dX11_convergent_110 rfl ?_
          refine zv_laddZ C dX11_convergent_112 ?_
          refine zv_lstore (lv' := [(21, .long (zL (((((cvS (U.pe i) j).1.1 / (cvS (U.pe i) j).1.2 : Nat) : Int) * ((cvS (U.pe i) j).2.1)) + ((cvS (U.pe i) j).2.2.1)))), (6, .long (zL (((cvS (U.pe i) j).1.1 % (cvS (U.pe i) j).1.2 : Nat) : Int))), (4, .long (zL ((cvS (U.pe i) j).1.2 : Int))), (19, .long (zL (((cvS (U.pe i) j).1.1 % (cvS (U.pe i) j).1.2 : Nat) : Int))), (17, .long (zL (((cvS (U.pe i) j).1.1 / (cvS (U.pe i) j).1.2 : Nat) : Int))), (0, .ref (ob E 327)), (1, .int (zI (i : Int))), (2, .int (zI (k : Int))), (3, .int (zI w)), (8, .long (zL ((cvS (U.pe i) j).2.1))), (10, .long (zL ((cvS (U.pe i) j).2.2.2.1))), (12, .long (zL ((cvS (U.pe i) j).2.2.1))), (14, .long (zL ((cvS (U.pe i) j).2.2.2.2))), (16, .int (zI (j : Int)))]) C dX11_convergent_113  (by decide) rfl ?_
          refine zv_lload C 4 dX11_convergent_115 rfl ?_
          refine zv_lload C 10 dX11_convergent_117 rfl ?_
          refine zv_lmulZ C dX11_convergent_119 ?_
          refine zv_lload C 12 dX11_convergent_120 rfl ?_
          refine zv_laddZ C dX11_convergent_122 ?_
          refine zv_lstore (lv' := [(23, .long (zL (((((cvS (U.pe i) j).1.1 / (cvS (U.pe i) j).1.2 : Nat) : Int) * ((cvS (U.pe i) j).2.2.2.1)) + ((cvS (U.pe i) j).2.2.2.2)))), (21, .long (zL (((((cvS (U.pe i) j).1.1 / (cvS (U.pe i) j).1.2 : Nat) : Int) * ((cvS (U.pe i) j).2.1)) + ((cvS (U.pe i) j).2.2.1)))), (6, .long (zL (((cvS (U.pe i) j).1.1 % (cvS (U.pe i) j).1.2 : Nat) : Int))), (4, .long (zL ((cvS (U.pe i) j).1.2 : Int))), (19, .long (zL (((cvS (U.pe i) j).1.1 % (cvS (U.pe i) j).1.2 : Nat) : Int))), (17, .long (zL (((cvS (U.pe i) j).1.1 / (cvS (U.pe i) j).1.2 : Nat) : Int))), (0, .ref (ob E 327)), (1, .int (zI (i : Int))), (2, .int (zI (k : Int))), (3, .int (zI w)), (8, .long (zL ((cvS (U.pe i) j).2.1))), (10, .long (zL ((cvS (U.pe i) j).2.2.2.1))), (12, .long (zL ((cvS (U.pe i) j).2.2.1))), (14, .long (zL ((cvS (U.pe i) j).2.2.2.2))), (16, .int (zI (j : Int)))]) C dX11_convergent_123  (by decide) rfl ?_
          refine zv_lload C 10 dX11_convergent_125 rfl ?_
          refine zv_lstore (lv' := [(12, .long (zL ((cvS (U.pe i) j).2.1))), (23, .long (zL (((((cvS (U.pe i) j).1.1 / (cvS (U.pe i) j).1.2 : Nat) : Int) * ((cvS (U.pe i) j).2.2.2.1)) + ((cvS (U.pe i) j).2.2.2.2)))), (21, .long (zL (((((cvS (U.pe i) j).1.1 / (cvS (U.pe i) j).1.2 : Nat) : Int) * ((cvS (U.pe i) j).2.1)) + ((cvS (U.pe i) j).2.2.1)))), (6, .long (zL (((cvS (U.pe i) j).1.1 % (cvS (U.pe i) j).1.2 : Nat) : Int))), (4, .long (zL ((cvS (U.pe i) j).1.2 : Int))), (19, .long (zL (((cvS (U.pe i) j).1.1 % (cvS (U.pe i) j).1.2 : Nat) : Int))), (17, .long (zL (((cvS (U.pe i) j).1.1 / (cvS (U.pe i) j).1.2 : Nat) : Int))), (0, .ref (ob E 327)), (1, .int (zI (i : Int))), (2, .int (zI (k : Int))), (3, .int (zI w)), (8, .long (zL ((cvS (U.pe i) j).2.1))), (10, .long (zL ((cvS (U.pe i) j).2.2.2.1))), (14, .long (zL ((cvS (U.pe i) j).2.2.2.2))), (16, .int (zI (j : Int)))]) C dX11_convergent_127  (by decide) rfl ?_
          refine zv_lload C 12 dX11_convergent_129 rfl ?_
          refine zv_lstore (lv' := [(14, .long (zL ((cvS (U.pe i) j).2.2.2.1))), (12, .long (zL ((cvS (U.pe i) j).2.1))), (23, .long (zL (((((cvS (U.pe i) j).1.1 / (cvS (U.pe i) j).1.2 : Nat) : Int) * ((cvS (U.pe i) j).2.2.2.1)) + ((cvS (U.pe i) j).2.2.2.2)))), (21, .long (zL (((((cvS (U.pe i) j).1.1 / (cvS (U.pe i) j).1.2 : Nat) : Int) * ((cvS (U.pe i) j).2.1)) + ((cvS (U.pe i) j).2.2.1)))), (6, .long (zL (((cvS (U.pe i) j).1.1 % (cvS (U.pe i) j).1.2 : Nat) : Int))), (4, .long (zL ((cvS (U.pe i) j).1.2 : Int))), (19, .long (zL (((cvS (U.pe i) j).1.1 % (cvS (U.pe i) j).1.2 : Nat) : Int))), (17, .long (zL (((cvS (U.pe i) j).1.1 / (cvS (U.pe i) j).1.2 : Nat) : Int))), (0, .ref (ob E 327)), (1, .int (zI (i : Int))), (2, .int (zI (k : Int))), (3, .int (zI w)), (8, .long (zL ((cvS (U.pe i) j).2.1))), (10, .long (zL ((cvS (U.pe i) j).2.2.2.1))), (16, .int (zI (j : Int)))]) C dX11_convergent_131  (by decide) rfl ?_
          refine zv_lload C 3 dX11_convergent_133 rfl ?_
          refine zv_lstore (lv' := [(8, .long (zL (((((cvS (U.pe i) j).1.1 / (cvS (U.pe i) j).1.2 : Nat) : Int) * ((cvS (U.pe i) j).2.1)) + ((cvS (U.pe i) j).2.2.1)))), (14, .long (zL ((cvS (U.pe i) j).2.2.2.1))), (12, .long (zL ((cvS (U.pe i) j).2.1))), (23, .long (zL (((((cvS (U.pe i) j).1.1 / (cvS (U.pe i) j).1.2 : Nat) : Int) * ((cvS (U.pe i) j).2.2.2.1)) + ((cvS (U.pe i) j).2.2.2.2)))), (21, .long (zL (((((cvS (U.pe i) j).1.1 / (cvS (U.pe i) j).1.2 : Nat) : Int) * ((cvS (U.pe i) j).2.1)) + ((cvS (U.pe i) j).2.2.1)))), (6, .long (zL (((cvS (U.pe i) j).1.1 % (cvS (U.pe i) j).1.2 : Nat) : Int))), (4, .long (zL ((cvS (U.pe i) j).1.2 : Int))), (19, .long (zL (((cvS (U.pe i) j).1.1 % (cvS (U.pe i) j).1.2 : Nat) : Int))), (17, .long (zL (((cvS (U.pe i) j).1.1 / (cvS (U.pe i) j).1.2 : Nat) : Int))), (0, .ref (ob E 327)), (1, .int (zI (i : Int))), (2, .int (zI (k : Int))), (3, .int (zI w)), (10, .long (zL ((cvS (U.pe i) j).2.2.2.1))), (16, .int (zI (j : Int)))]) C dX11_convergent_135  (by decide) rfl ?_
          refine zv_lload C 3 dX11_convergent_137 rfl ?_
          refine zv_lstore (lv' := [(10, .long (zL (((((cvS (U.pe i) j).1.1 / (cvS (U.pe i) j).1.2 : Nat) : Int) * ((cvS (U.pe i) j).2.2.2.1)) + ((cvS (U.pe i) j).2.2.2.2)))), (8, .long (zL (((((cvS (U.pe i) j).1.1 / (cvS (U.pe i) j).1.2 : Nat) : Int) * ((cvS (U.pe i) j).2.1)) + ((cvS (U.pe i) j).2.2.1)))), (14, .long (zL ((cvS (U.pe i) j).2.2.2.1))), (12, .long (zL ((cvS (U.pe i) j).2.1))), (23, .long (zL (((((cvS (U.pe i) j).1.1 / (cvS (U.pe i) j).1.2 : Nat) : Int) * ((cvS (U.pe i) j).2.2.2.1)) + ((cvS (U.pe i) j).2.2.2.2)))), (21, .long (zL (((((cvS (U.pe i) j).1.1 / (cvS (U.pe i) j).1.2 : Nat) : Int) * ((cvS (U.pe i) j).2.1)) + ((cvS (U.pe i) j).2.2.1)))), (6, .long (zL (((cvS (U.pe i) j).1.1 % (cvS (U.pe i) j).1.2 : Nat) : Int))), (4, .long (zL ((cvS (U.pe i) j).1.2 : Int))), (19, .long (zL (((cvS (U.pe i) j).1.1 % (cvS (U.pe i) j).1.2 : Nat) : Int))), (17, .long (zL (((cvS (U.pe i) j).1.1 / (cvS (U.pe i) j).1.2 : Nat) : Int))), (0, .ref (ob E 327)), (1, .int (zI (i : Int))), (2, .int (zI (k : Int))), (3, .int (zI w)), (16, .int (zI (j : Int)))]) C dX11_convergent_139  (by decide) rfl ?_
          refine zv_iinc (v := (zI ((j : Int) + 1))) (lv' := [(16, .int (zI ((j : Int) + 1))), (10, .long (zL (((((cvS (U.pe i) j).1.1 / (cvS (U.pe i) j).1.2 : Nat) : Int) * ((cvS (U.pe i) j).2.2.2.1)) + ((cvS (U.pe i) j).2.2.2.2)))), (8, .long (zL (((((cvS (U.pe i) j).1.1 / (cvS (U.pe i) j).1.2 : Nat) : Int) * ((cvS (U.pe i) j).2.1)) + ((cvS (U.pe i) j).2.2.1)))), (14, .long (zL ((cvS (U.pe i) j).2.2.2.1))), (12, .long (zL ((cvS (U.pe i) j).2.1))), (23, .long (zL (((((cvS (U.pe i) j).1.1 / (cvS (U.pe i) j).1.2 : Nat) : Int) * ((cvS (U.pe i) j).2.2.2.1)) + ((cvS (U.pe i) j).2.2.2.2)))), (21, .long (zL (((((cvS (U.pe i) j).1.1 / (cvS (U.pe i) j).1.2 : Nat) : Int) * ((cvS (U.pe i) j).2.1)) + ((cvS (U.pe i) j).2.2.1)))), (6, .long (zL (((cvS (U.pe i) j).1.1 % (cvS (U.pe i) j).1.2 : Nat) : Int))), (4, .long (zL ((cvS (U.pe i) j).1.2 : Int))), (19, .long (zL (((cvS (U.pe i) j).1.1 % (cvS (U.pe i) j).1.2 : Nat) : Int))), (17, .long (zL (((cvS (U.pe i) j).1.1 / (cvS (U.pe i) j).1.2 : Nat) : Int))), (0, .ref (ob E 327)), (1, .int (zI (i : Int))), (2, .int (zI (k : Int))), (3, .int (zI w))]) C 14 dX11_convergent_141 rfl (zI_add _ _) (by decide) rfl ?_
          refine zv_goto (tgt := 66) C dX11_convergent_144 (by decide) ?_
          have q66_115 : ((j : Int) + 1 : Int) = ((j + 1 : Nat) : Int) := by first | rfl | omega
          have q66_116 : ((cvS (U.pe i) j).2.2.2.1 : Int) = (cvS (U.pe i) (j + 1)).2.2.2.2 := by simp only [cvS]; rw [if_neg (by omega)]
          have q66_117 : ((cvS (U.pe i) j).2.1 : Int) = (cvS (U.pe i) (j + 1)).2.2.1 := by simp only [cvS]; rw [if_neg (by omega)]
          have q66_118 : (((((cvS (U.pe i) j).1.1 / (cvS (U.pe i) j).1.2 : Nat) : Int) * ((cvS (U.pe i) j).2.2.2.1)) + ((cvS (U.pe i) j).2.2.2.2) : Int) = (cvS (U.pe i) (j + 1)).2.2.2.1 := by simp only [cvS]; rw [if_neg (by omega)]
          have q66_119 : (((((cvS (U.pe i) j).1.1 / (cvS (U.pe i) j).1.2 : Nat) : Int) * ((cvS (U.pe i) j).2.1)) + ((cvS (U.pe i) j).2.2.1) : Int) = (cvS (U.pe i) (j + 1)).2.1 := by simp only [cvS]; rw [if_neg (by omega)]
          have q66_120 : ((((cvS (U.pe i) j).1.1 % (cvS (U.pe i) j).1.2 : Nat) : Int) : Int) = ((cvS (U.pe i) (j + 1)).1.2 : Int) := by simp only [cvS]; rw [if_neg (by omega)]
          have q66_121 : (((cvS (U.pe i) j).1.2 : Int) : Int) = ((cvS (U.pe i) (j + 1)).1.1 : Int) := by simp only [cvS]; rw [if_neg (by omega)]
          refine zv_sub (lv' := [(0, .ref (ob E 327)), (1, .int (zI (i : Int))), (2, .int (zI (k : Int))), (3, .int (zI w)), (4, .long (zL ((cvS (U.pe i) (j + 1)).1.1 : Int))), (6, .long (zL ((cvS (U.pe i) (j + 1)).1.2 : Int))), (8, .long (zL ((cvS (U.pe i) (j + 1)).2.1))), (10, .long (zL ((cvS (U.pe i) (j + 1)).2.2.2.1))), (12, .long (zL ((cvS (U.pe i) (j + 1)).2.2.1))), (14, .long (zL ((cvS (U.pe i) (j + 1)).2.2.2.2))), (16, .int (zI ((j + 1 : Nat) : Int)))]) [11, 12, 13, 14, 8, 7, 2, 1, 4, 3, 0] (zcons rfl (zcons rfl (zcons rfl (zcons rfl (zcons (zqL q66_121) (zcons (zqL q66_120) (zcons (zqL q66_119) (zcons (zqL q66_118) (zcons (zqL q66_117) (zcons (zqL q66_116) (zcons (zqI q66_115) rfl))))))))))) ?_
          exact ih (j + 1) (⟨by omega, by omega, fun n h => by rcases Nat.lt_or_ge n j with z | z; exact hI3 n z; rw [show n = j by omega]; exact hj0⟩) (by omega)
        · skip
          refine zv_ldc2 C kX11_347 dX11_convergent_79 ?_
          refine zv_eql (y := zL (-1)) (by decide) ?_
          exact zv_lret C hr dX11_convergent_82 ⟨by rw [dCv, if_pos (cvS_0 (show (cvS (U.pe i) j).1.2 = 0 by omega) k (by omega))], mK_th _ _⟩
    · skip
      refine zv_iconst (v := zI 1) C dX11_convergent_23 rfl ?_
      refine zv_goto (tgt := 28) C dX11_convergent_24 (by decide) ?_
      refine zv_iconst (v := zI 2) C dX11_convergent_28 rfl ?_
      exfalso
      omega
set_option maxRecDepth 20000 in
theorem x1_X11_convergent {l : Launch} (hfl : l.stackTraces = false) (E : zE) (σ : zS) (σc : zS) (U : zSU) (y a b : Int) (hB : zRb (gI σ 328) U) (hU : zSUp σc 29 U) (hy : -2147483648 ≤ y ∧ y < 2147483648) (hno : ¬ (0 ≤ y ∧ y < U.nb)) : zRl l E yX11_convergent cX11_convergent 25 (zrm 2 46) [.ref (ob E 327), .int (zI y), .int (zI a), .int (zI b)] σ (fun r τ => r = zL 0 ∧ mK σ τ 1) := by
  refine Met.ofW (cc := cX11_convergent) (maxL := 25) (ret := (some .long)) (by decide +kernel) rfl ?_
  intro p e s m args below meth c s₁ B hml hv
  obtain ⟨rfl, hd⟩ := hv
  have C := zX_of (own := RX11) hfl B hml rfl hd rfl
  have hr := B.returns
  refine zV_go hd (Nat.le_of_ble_eq_true rfl) (lv := [(0, .ref (ob E 327)), (1, .int (zI y)), (2, .int (zI a)), (3, .int (zI b))]) rfl ?_
  have hnb : U.nb ≤ 8 := hU.2.2.1
  have hs0 := hU.2.2.2.1
  
  refine zv_aload_n C 0 dX11_convergent_0 rfl rfl ?_
  refine zv_iload_n C 1 dX11_convergent_1 rfl rfl ?_
  refine zv_cviD (st := []) C (c1_X11_noBody hfl E σ σc U (y) hB hU (by omega) hno) mX11_noBody kX11_319 (by decide : kd 327 = 10) rfl rfl rfl ⟨rfl, rfl⟩ (show zfit (zrm 1 25) 2 (zrm 2 46) = true from rfl) (Nat.le_of_ble_eq_true rfl) dX11_convergent_2 ⟨Nat.zero_le _, Nat.zero_le _⟩ ?_
  refine zv_if_neZ (tgt := 35) C (by omega) dX11_convergent_5 (by decide) (fun h5 => ?_) (fun h5 => absurd h5 (by decide))
  refine zv_lconst (v := zL 0) C dX11_convergent_35 (by decide) ?_
  exact zv_lret C hr dX11_convergent_36 ⟨rfl, by first | exact mK_th _ _ | exact mK_th2 _ _ _ | exact mK_C (mK_W (mK_th _ _) _ _) _ | exact mK_W (mK_th _ _) _ _⟩
set_option maxRecDepth 20000 in
theorem x2_X11_convergent {l : Launch} (hfl : l.stackTraces = false) (E : zE) (σ : zS) (σc : zS) (U : zSU) (i : Nat) (a b : Int) (hB : zRb (gI σ 328) U) (hU : zSUp σc 29 U) (hi : i < U.nb) (har : -2147483648 ≤ a ∧ a < 2147483648) (hbr : -2147483648 ≤ b ∧ b < 2147483648) (hno : ¬ (0 ≤ a ∧ (0 ≤ b ∧ b ≤ 1))) : zRl l E yX11_convergent cX11_convergent 25 (zrm 2 46) [.ref (ob E 327), .int (zI (i : Int)), .int (zI a), .int (zI b)] σ (fun r τ => r = zL 0 ∧ mK σ τ 2) := by
  refine Met.ofW (cc := cX11_convergent) (maxL := 25) (ret := (some .long)) (by decide +kernel) rfl ?_
  intro p e s m args below meth c s₁ B hml hv
  obtain ⟨rfl, hd⟩ := hv
  have C := zX_of (own := RX11) hfl B hml rfl hd rfl
  have hr := B.returns
  refine zV_go hd (Nat.le_of_ble_eq_true rfl) (lv := [(0, .ref (ob E 327)), (1, .int (zI (i : Int))), (2, .int (zI a)), (3, .int (zI b))]) rfl ?_
  have hnb : U.nb ≤ 8 := hU.2.2.1
  have hs0 := hU.2.2.2.1
  
  refine zv_aload_n C 0 dX11_convergent_0 rfl rfl ?_
  refine zv_iload_n C 1 dX11_convergent_1 rfl rfl ?_
  refine zv_cviD (st := []) C (c0_X11_noBody hfl E σ σc U ((i : Int)) hB hU (by omega)) mX11_noBody kX11_319 (by decide : kd 327 = 10) rfl rfl rfl ⟨rfl, rfl⟩ (show zfit (zrm 1 25) 2 (zrm 2 46) = true from rfl) (Nat.le_of_ble_eq_true rfl) dX11_convergent_2 ⟨Nat.zero_le _, Nat.zero_le _⟩ ?_
  refine zv_if_neZ (tgt := 35) C (by omega) dX11_convergent_5 (by decide) (fun h5 => absurd h5 (by decide)) (fun h5 => ?_)
  refine zv_aload_n C 0 dX11_convergent_8 rfl rfl ?_
  refine zv_iload_n C 2 dX11_convergent_9 rfl rfl ?_
  refine zv_if_ltZ (tgt := 23) C (by omega) dX11_convergent_10 (by decide) (fun h10 => ?_) (fun h10 => ?_)
  · skip
    refine zv_iconst (v := zI 1) C dX11_convergent_23 rfl ?_
    refine zv_goto (tgt := 28) C dX11_convergent_24 (by decide) ?_
    refine zv_iconst (v := zI 2) C dX11_convergent_28 rfl ?_
    refine zv_cviD (st := []) C (c1_X11_fails hfl E (thW σ 0) 2) mX11_fails kX11_309 (by decide : kd 327 = 10) rfl rfl rfl ⟨rfl, rfl⟩ (show zfit (zrm 0 0) 3 (zrm 2 46) = true from rfl) (Nat.le_of_ble_eq_true rfl) dX11_convergent_29 ⟨Nat.zero_le _, Nat.zero_le _⟩ ?_
    refine zv_if_eqZ (tgt := 37) C (by omega) dX11_convergent_32 (by decide) (fun h32 => absurd h32 (by decide)) (fun h32 => ?_)
    refine zv_lconst (v := zL 0) C dX11_convergent_35 (by decide) ?_
    exact zv_lret C hr dX11_convergent_36 ⟨rfl, mK_th2 _ _ _⟩
  · skip
    refine zv_iload_n C 3 dX11_convergent_13 rfl rfl ?_
    refine zv_i2lZ C (by omega) dX11_convergent_14 ?_
    refine zv_lconst (v := zL 0) C dX11_convergent_15 (by decide) ?_
    refine zv_lconst (v := zL 1) C dX11_convergent_16 (by decide) ?_
    refine zv_csiD (st := [.ref (ob E 327)]) C (c_X11_inRange hfl E (thW σ 0) (b) (0) (1) (by omega) (by omega) (by omega)) mX11_inRange kX11_71 rfl ⟨rfl, rfl⟩ (show zfit (zrm 0 0) 6 (zrm 2 46) = true from rfl) (Nat.le_of_ble_eq_true rfl) dX11_convergent_17 ⟨Nat.zero_le _, Nat.zero_le _⟩ ?_
    refine zv_if_neB (tgt := 27) C dX11_convergent_20 (by decide) (fun h20 => ?_) (fun h20 => ?_)
    · skip
      refine zv_iconst (v := zI 0) C dX11_convergent_27 rfl ?_
      refine zv_iconst (v := zI 2) C dX11_convergent_28 rfl ?_
      exfalso
      omega
    · skip
      refine zv_iconst (v := zI 1) C dX11_convergent_23 rfl ?_
      refine zv_goto (tgt := 28) C dX11_convergent_24 (by decide) ?_
      refine zv_iconst (v := zI 2) C dX11_convergent_28 rfl ?_
      refine zv_cviD (st := []) C (c1_X11_fails hfl E (thW σ 0) 2) mX11_fails kX11_309 (by decide : kd 327 = 10) rfl rfl rfl ⟨rfl, rfl⟩ (show zfit (zrm 0 0) 3 (zrm 2 46) = true from rfl) (Nat.le_of_ble_eq_true rfl) dX11_convergent_29 ⟨Nat.zero_le _, Nat.zero_le _⟩ ?_
      refine zv_if_eqZ (tgt := 37) C (by omega) dX11_convergent_32 (by decide) (fun h32 => absurd h32 (by decide)) (fun h32 => ?_)
      refine zv_lconst (v := zL 0) C dX11_convergent_35 (by decide) ?_
      exact zv_lret C hr dX11_convergent_36 ⟨rfl, mK_th2 _ _ _⟩
