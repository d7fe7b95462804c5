/-! meetings, in the reference; doubles -/
section
variable {p : Program} {l : Launch} {e : Env} {R : Room} {s : State} {m : MethodId} {args : Array Value} {below : List Frame} {meth : Method} {c : Code} {cc : ByteArray} {own : String} {nL : Nat} {E : zE} {Q : State → Prop} {ce sl : Nat} {σ : zS} {pc : Nat} {lv : List (Nat × Value)} {st lv0 : List Value}
variable {y : MethodName} {cy : ByteArray} {nY : Nat} {rm : Room} {As : List Value}
variable {ce sl : Nat} {Q : State → Prop}
theorem zv_fconst0 (C : zX p l s m args meth c cc own nL E) (hdg : decode cc pc = .ok (.fconst 0, 1)) (kk : zV p l e R s m args below meth c nL E Q ce sl σ (pc + 1) lv (.float FP.fconst0 :: st)) : zV p l e R s m args below meth c nL E Q ce sl σ pc lv st := fun H locs ls hP hS hl => lv_fconst0 C.exec C.code hdg (kk H locs ls hP hS hl)
theorem zv_dconst0 (C : zX p l s m args meth c cc own nL E) (hdg : decode cc pc = .ok (.dconst 0, 1)) (kk : zV p l e R s m args below meth c nL E Q ce sl σ (pc + 1) lv (.double FP.dconst0 :: st)) : zV p l e R s m args below meth c nL E Q ce sl σ pc lv st := fun H locs ls hP hS hl => lv_dconst0 C.exec C.code hdg (kk H locs ls hP hS hl)
end
theorem qWay_b {σ σ' : zS} {k k' : Nat} {U : zSU} {S : zST} (h : zSUp σ k U) (hS : zSTp σ' k' S) {i o : Nat} (hi : i < U.nb) (ho : o < U.nb) (d : Int) : 0 ≤ qWay U S i o d ∧ qWay U S i o d ≤ 648000 := by
  have h1 := qAng_b h hS hi d
  have h2 := qAng_b h hS ho d
  unfold qWay
  omega
theorem mt_eq {N M : Int} (hM : 1 ≤ M) (hN : N ≠ 0) : rT M (N.natAbs : Int) = rB N M ∧ rB M (N.natAbs : Int) = ((rT N M).natAbs : Int) := by
  have hg : rG M (N.natAbs : Int) = rG N M := by
    unfold rG
    rw [Int.natAbs_natCast, Nat.gcd_comm]
  have hb := rB_b (z := N) (w := M) hM
  obtain ⟨e1, e2⟩ := rT_e (z := N) (w := M) hM
  have hgp := rG_pos N M
  have hT : rT N M ≠ 0 := fun z => hN (by rw [e1, z, Int.mul_zero])
  constructor
  · unfold rT
    rw [hg]
    have q : ((rG N M : Int) * rB N M).tdiv (rG N M : Int) = rB N M := Int.mul_tdiv_cancel_left _ (by omega)
    rw [← e2] at q
    exact q
  · unfold rB
    rw [hg]
    have e3 : (N.natAbs : Int) = (rG N M : Int) * ((rT N M).natAbs : Int) := by
      conv => lhs; rw [e1]
      rw [Int.natAbs_mul, Int.natAbs_natCast, Int.natCast_mul]
    rw [e3, Int.mul_ediv_cancel_left _ (by omega)]
    omega
set_option maxRecDepth 20000 in
theorem c_X11_areNear {l : Launch} (hfl : l.stackTraces = false) (E : zE) (σ : zS) (σc : zS) (U : zSU) (S : zST) (i o f : Nat) (orb : Int) (hB : zRb (gI σ 328) U) (hU : zSUp σc 29 U) (hW : zRo (gI σ 332) U.nb S) (hS : zSTp σc 34 S) (hi : i < U.nb) (ho : o < U.nb) (hf : f ≤ 400000) (horb : 0 ≤ orb ∧ orb ≤ 648000) : zRi l E yX11_areNear cX11_areNear 6 .boolean (zrm 6 149) [.ref (ob E 327), .int (zI (i : Int)), .int (zI (o : Int)), .int (zI (f : Int)), .int (zI orb)] σ (fun r τ => r = zB (qWay U S i o (f : Int) ≤ orb) ∧ τ = mW σ (qPtr U S o).1 (qPtr U S o).2) := by
  refine Met.ofW (cc := cX11_areNear) (maxL := 6) (ret := (some .boolean)) (by decide +kernel) rfl ?_
  intro p e s m args below meth c s₁ B hml hv
  obtain ⟨rfl, hd⟩ := hv
  have C := zX_of (own := RX11) hfl B hml rfl hd rfl
  have hr := B.returns
  refine zV_go hd (Nat.le_of_ble_eq_true rfl) (lv := [(0, .ref (ob E 327)), (1, .int (zI (i : Int))), (2, .int (zI (o : Int))), (3, .int (zI (f : Int))), (4, .int (zI orb))]) rfl ?_
  have hnb : U.nb ≤ 8 := hU.2.2.1
  have hs0 := hU.2.2.2.1
  have hai := qAng_b hU hS hi (f : Int)
  have hao := qAng_b hU hS ho (f : Int)
  refine zv_aload_n C 0 dX11_areNear_0 rfl rfl ?_
  refine zv_iload_n C 1 dX11_areNear_1 rfl rfl ?_
  refine zv_iload_n C 3 dX11_areNear_2 rfl rfl ?_
  refine zv_cviD (st := []) C (c_X11_angleOf hfl E σ σc U S i f hB hU hW hS hi hf) mX11_angleOf kX11_341 (by decide : kd 327 = 10) rfl rfl rfl ⟨rfl, rfl⟩ (show zfit (zrm 5 127) 3 (zrm 6 149) = true from rfl) (Nat.le_of_ble_eq_true rfl) dX11_areNear_3 ⟨Nat.zero_le _, Nat.zero_le _⟩ ?_
  refine zv_aload_n C 0 dX11_areNear_6 rfl rfl ?_
  refine zv_iload_n C 2 dX11_areNear_7 rfl rfl ?_
  refine zv_iload_n C 3 dX11_areNear_8 rfl rfl ?_
  refine zv_cviD (st := [.int (zI (qAng U S i (f : Int)))]) C (c_X11_angleOf hfl E (mW σ (qPtr U S i).1 (qPtr U S i).2) σc U S o f hB hU hW hS ho hf) mX11_angleOf kX11_341 (by decide : kd 327 = 10) rfl rfl rfl ⟨rfl, rfl⟩ (show zfit (zrm 5 127) 3 (zrm 6 149) = true from rfl) (Nat.le_of_ble_eq_true rfl) dX11_areNear_9 ⟨Nat.zero_le _, Nat.zero_le _⟩ ?_
  refine zv_isubZ C dX11_areNear_12 ?_
  refine zv_csiD (st := []) C (c_J9_abs_0f7a4 hfl E (mW (mW σ (qPtr U S i).1 (qPtr U S i).2) (qPtr U S o).1 (qPtr U S o).2) ((qAng U S i (f : Int)) - (qAng U S o (f : Int))) (by omega)) mJ9_abs_0f7a4 kX11_425 rfl ⟨rfl, rfl⟩ (show zfit (zrm 0 0) 1 (zrm 6 149) = true from rfl) (Nat.le_of_ble_eq_true rfl) dX11_areNear_13 ⟨Nat.zero_le _, Nat.zero_le _⟩ ?_
  refine zv_istore (lv' := [(5, .int (zI (((qAng U S i (f : Int)) - (qAng U S o (f : Int))).natAbs : Int))), (0, .ref (ob E 327)), (1, .int (zI (i : Int))), (2, .int (zI (o : Int))), (3, .int (zI (f : Int))), (4, .int (zI orb))]) C dX11_areNear_16  (by decide) rfl ?_
  refine zv_iload C 0 dX11_areNear_18 rfl ?_
  refine zv_ldcw C kX11_427 dX11_areNear_20 ?_
  refine zv_eqi (y := zI 1296000) (by decide) ?_
  refine zv_iload C 0 dX11_areNear_23 rfl ?_
  refine zv_isubZ C dX11_areNear_25 ?_
  refine zv_csiD (st := []) C (c_J9_min_7cf53 hfl E (mW (mW σ (qPtr U S i).1 (qPtr U S i).2) (qPtr U S o).1 (qPtr U S o).2) ((((qAng U S i (f : Int)) - (qAng U S o (f : Int))).natAbs : Int)) (1296000 - (((qAng U S i (f : Int)) - (qAng U S o (f : Int))).natAbs : Int)) (by omega) (by omega)) mJ9_min_7cf53 kX11_428 rfl ⟨rfl, rfl⟩ (show zfit (zrm 0 0) 2 (zrm 6 149) = true from rfl) (Nat.le_of_ble_eq_true rfl) dX11_areNear_26 ⟨Nat.zero_le _, Nat.zero_le _⟩ ?_
  refine zv_iload C 5 dX11_areNear_29 rfl ?_
  refine zv_icmp_gtZ (tgt := 38) C (by omega) (by omega) dX11_areNear_31 (by decide) (fun h31 => ?_) (fun h31 => ?_)
  · skip
    refine zv_iconst (v := zI 0) C dX11_areNear_38 rfl ?_
    exact zv_iret C hr rfl dX11_areNear_39 ⟨(zB_f (by unfold qWay; omega)).symm, mW_o _ _ _ _ _⟩
  · skip
    refine zv_iconst (v := zI 1) C dX11_areNear_34 rfl ?_
    refine zv_goto (tgt := 39) C dX11_areNear_35 (by decide) ?_
    exact zv_iret C hr rfl dX11_areNear_39 ⟨(zB_t (by unfold qWay; omega)).symm, mW_o _ _ _ _ _⟩
set_option maxRecDepth 20000 in
theorem c_X11_nextMeeting {l : Launch} (hfl : l.stackTraces = false) (E : zE) (σ : zS) (σc : zS) (U : zSU) (S : zST) (i o d : Nat) (orb : Int) (hB : zRb (gI σ 328) U) (hU : zSUp σc 29 U) (hW : zRo (gI σ 332) U.nb S) (hS : zSTp σc 34 S) (hi : i < U.nb) (ho : o < U.nb) (hd9 : d ≤ 390000) (horb : 0 ≤ orb ∧ orb ≤ 648000) : zRi l E yX11_nextMeeting cX11_nextMeeting 6 .int (zrm 7 174) [.ref (ob E 327), .int (zI (i : Int)), .int (zI (o : Int)), .int (zI (d : Int)), .int (zI orb)] σ (fun r τ => r = zI (dNmR U S i o (d : Int) orb) ∧ mK σ τ 0) := by
  refine Met.ofW (cc := cX11_nextMeeting) (maxL := 6) (ret := (some .int)) (by decide +kernel) rfl ?_
  intro p e s m args below meth c s₁ B hml hv
  obtain ⟨rfl, hd⟩ := hv
  have C := zX_of (own := RX11) hfl B hml rfl hd rfl
  have hr := B.returns
  refine zV_go hd (Nat.le_of_ble_eq_true rfl) (lv := [(0, .ref (ob E 327)), (1, .int (zI (i : Int))), (2, .int (zI (o : Int))), (3, .int (zI (d : Int))), (4, .int (zI orb))]) rfl ?_
  have hnb : U.nb ≤ 8 := hU.2.2.1
  have hs0 := hU.2.2.2.1
  
  refine zv_aload_n C 0 dX11_nextMeeting_0 rfl rfl ?_
  refine zv_iload_n C 1 dX11_nextMeeting_1 rfl rfl ?_
  refine zv_cviD (st := []) C (c0_X11_noBody hfl E σ σc U ((i : Int)) hB hU (by omega)) mX11_noBody kX11_319 (by decide : kd 327 = 10) rfl rfl rfl ⟨rfl, rfl⟩ (show zfit (zrm 1 25) 2 (zrm 7 174) = true from rfl) (Nat.le_of_ble_eq_true rfl) dX11_nextMeeting_2 ⟨Nat.zero_le _, Nat.zero_le _⟩ ?_
  refine zv_if_neZ (tgt := 54) C (by omega) dX11_nextMeeting_5 (by decide) (fun h5 => absurd h5 (by decide)) (fun h5 => ?_)
  refine zv_aload_n C 0 dX11_nextMeeting_8 rfl rfl ?_
  refine zv_iload_n C 2 dX11_nextMeeting_9 rfl rfl ?_
  refine zv_cviD (st := []) C (c0_X11_noBody hfl E (thW σ 0) σc U ((o : Int)) hB hU (by omega)) mX11_noBody kX11_319 (by decide : kd 327 = 10) rfl rfl rfl ⟨rfl, rfl⟩ (show zfit (zrm 1 25) 2 (zrm 7 174) = true from rfl) (Nat.le_of_ble_eq_true rfl) dX11_nextMeeting_10 ⟨Nat.zero_le _, Nat.zero_le _⟩ ?_
  refine zv_eqS (τ := (thW σ 0)) (thW_o _ _ _) ?_
  refine zv_if_neZ (tgt := 54) C (by omega) dX11_nextMeeting_13 (by decide) (fun h13 => absurd h13 (by decide)) (fun h13 => ?_)
  refine zv_aload_n C 0 dX11_nextMeeting_16 rfl rfl ?_
  refine zv_iload_n C 3 dX11_nextMeeting_17 rfl rfl ?_
  refine zv_i2lZ C (by omega) dX11_nextMeeting_18 ?_
  refine zv_lconst (v := zL 0) C dX11_nextMeeting_19 (by decide) ?_
  refine zv_ldc2 C kX11_430 dX11_nextMeeting_20 ?_
  refine zv_eql (y := zL 390000) (by decide) ?_
  refine zv_csiD (st := [.ref (ob E 327)]) C (c_X11_inRange hfl E (thW σ 0) ((d : Int)) (0) (390000) (by omega) (by omega) (by omega)) mX11_inRange kX11_71 rfl ⟨rfl, rfl⟩ (show zfit (zrm 0 0) 6 (zrm 7 174) = true from rfl) (Nat.le_of_ble_eq_true rfl) dX11_nextMeeting_23 ⟨Nat.zero_le _, Nat.zero_le _⟩ ?_
  refine zv_if_eqB (tgt := 42) C dX11_nextMeeting_26 (by decide) (fun h26 => ?_) (fun h26 => ?_)
  · skip
    refine zv_iconst (v := zI 1) C dX11_nextMeeting_42 rfl ?_
    refine zv_goto (tgt := 47) C dX11_nextMeeting_43 (by decide) ?_
    refine zv_iconst (v := zI 2) C dX11_nextMeeting_47 rfl ?_
    exfalso
    omega
  · skip
    refine zv_iload C 4 dX11_nextMeeting_29 rfl ?_
    refine zv_i2lZ C (by omega) dX11_nextMeeting_31 ?_
    refine zv_lconst (v := zL 0) C dX11_nextMeeting_32 (by decide) ?_
    refine zv_ldc2 C kX11_432 dX11_nextMeeting_33 ?_
    refine zv_eql (y := zL 648000) (by decide) ?_
    refine zv_csiD (st := [.ref (ob E 327)]) C (c_X11_inRange hfl E (thW σ 0) (orb) (0) (648000) (by omega) (by omega) (by omega)) mX11_inRange kX11_71 rfl ⟨rfl, rfl⟩ (show zfit (zrm 0 0) 6 (zrm 7 174) = true from rfl) (Nat.le_of_ble_eq_true rfl) dX11_nextMeeting_36 ⟨Nat.zero_le _, Nat.zero_le _⟩ ?_
    refine zv_if_neB (tgt := 46) C dX11_nextMeeting_39 (by decide) (fun h39 => ?_) (fun h39 => ?_)
    · skip
      refine zv_iconst (v := zI 0) C dX11_nextMeeting_46 rfl ?_
      refine zv_iconst (v := zI 2) C dX11_nextMeeting_47 rfl ?_
      refine zv_cviD (st := []) C (c0_X11_fails hfl E (thW σ 0) 2) mX11_fails kX11_309 (by decide : kd 327 = 10) rfl rfl rfl ⟨rfl, rfl⟩ (show zfit (zrm 0 0) 3 (zrm 7 174) = true from rfl) (Nat.le_of_ble_eq_true rfl) dX11_nextMeeting_48 ⟨Nat.zero_le _, Nat.zero_le _⟩ ?_
      refine zv_if_eqZ (tgt := 56) C (by omega) dX11_nextMeeting_51 (by decide) (fun h51 => ?_) (fun h51 => absurd h51 (by decide))
      refine zv_iload_n C 3 dX11_nextMeeting_56 rfl rfl ?_
      refine zv_iconst (v := zI 1) C dX11_nextMeeting_57 rfl ?_
      refine zv_iaddZ C dX11_nextMeeting_58 ?_
      refine zv_istore (lv' := [(5, .int (zI ((d : Int) + 1))), (0, .ref (ob E 327)), (1, .int (zI (i : Int))), (2, .int (zI (o : Int))), (3, .int (zI (d : Int))), (4, .int (zI orb))]) C dX11_nextMeeting_59  (by decide) rfl ?_
      have q61_43 : ((d : Int) + 1 : Int) = ((d + 1 + 0 : Nat) : Int) := by show (d : Int) + 1 = ((d + 1 + 0 : Nat) : Int); omega
      refine zv_sub (lv' := [(0, .ref (ob E 327)), (1, .int (zI (i : Int))), (2, .int (zI (o : Int))), (3, .int (zI (d : Int))), (4, .int (zI orb)), (5, .int (zI ((d + 1 + 0 : Nat) : Int)))]) [1, 2, 3, 4, 5, 0] (zcons rfl (zcons rfl (zcons rfl (zcons rfl (zcons rfl (zcons (zqI q61_43) rfl)))))) ?_
      refine zv_eqS (τ := (thW σ 0)) (rfl) ?_
      refine zv_while (α := Nat × zS) (fun v => 10000 - v.1) (fun v => v.1 ≤ 10000 ∧ fi (dNm U S i o (d : Int) orb) v.1 = -1 ∧ mK σ v.2 0) (fun v => v.2) (fun v => [(0, .ref (ob E 327)), (1, .int (zI (i : Int))), (2, .int (zI (o : Int))), (3, .int (zI (d : Int))), (4, .int (zI orb)), (5, .int (zI ((d + 1 + v.1 : Nat) : Int)))]) (fun v => []) (fun v hI ih => ?_) ((0, (thW σ 0))) (⟨by show 0 ≤ 10000; omega, rfl, mK_th _ _⟩)
      obtain ⟨j, u⟩ := v
      dsimp only at hI ih ⊢
      obtain ⟨hI, hI2, hK⟩ := hI
      have hcs : (d : Int) + 1 + (j : Int) = ((d + 1 + j : Nat) : Int) := by omega
      refine zv_iload C 5 dX11_nextMeeting_61 rfl ?_
      refine zv_iload_n C 3 dX11_nextMeeting_63 rfl rfl ?_
      refine zv_sipush (v := zI 10000) C dX11_nextMeeting_64 (by decide) ?_
      refine zv_iaddZ C dX11_nextMeeting_67 ?_
      refine zv_icmp_gtZ (tgt := 93) C (by omega) (by omega) dX11_nextMeeting_68 (by decide) (fun h68 => ?_) (fun h68 => ?_)
      · skip
        refine zv_iconst (v := zI (-1)) C dX11_nextMeeting_93 rfl ?_
        exact zv_iret C hr rfl dX11_nextMeeting_94 ⟨by rw [dNmR, show (10000 : Nat) = j by omega, hI2]; rfl, hK⟩
      · skip
        refine zv_aload_n C 0 dX11_nextMeeting_71 rfl rfl ?_
        refine zv_iload_n C 1 dX11_nextMeeting_72 rfl rfl ?_
        refine zv_iload_n C 2 dX11_nextMeeting_73 rfl rfl ?_
        refine zv_iload C 5 dX11_nextMeeting_74 rfl ?_
        refine zv_iload C 4 dX11_nextMeeting_76 rfl ?_
        refine zv_cviD (st := []) C (c_X11_areNear hfl E u σc U S i o (d + 1 + j) orb (mK_B hK hB) hU (mK_R hK hW) hS hi ho (by omega) horb) mX11_areNear kX11_434 (by decide : kd 327 = 10) rfl rfl rfl ⟨rfl, rfl⟩ (show zfit (zrm 6 149) 6 (zrm 7 174) = true from rfl) (Nat.le_of_ble_eq_true rfl) dX11_nextMeeting_78 ⟨Nat.zero_le _, Nat.zero_le _⟩ ?_
        refine zv_if_eqB (tgt := 87) C dX11_nextMeeting_81 (by decide) (fun h81 => ?_) (fun h81 => ?_)
        · skip
          refine zv_iinc (v := (zI (((d + 1 + j : Nat) : Int) + 1))) (lv' := [(5, .int (zI (((d + 1 + j : Nat) : Int) + 1))), (0, .ref (ob E 327)), (1, .int (zI (i : Int))), (2, .int (zI (o : Int))), (3, .int (zI (d : Int))), (4, .int (zI orb))]) C 5 dX11_nextMeeting_87 rfl (zI_add _ _) (by decide) rfl ?_
          refine zv_goto (tgt := 61) C dX11_nextMeeting_90 (by decide) ?_
          have q61_70 : (((d + 1 + j : Nat) : Int) + 1 : Int) = ((d + 1 + (j + 1) : Nat) : Int) := by omega
          refine zv_sub (lv' := [(0, .ref (ob E 327)), (1, .int (zI (i : Int))), (2, .int (zI (o : Int))), (3, .int (zI (d : Int))), (4, .int (zI orb)), (5, .int (zI ((d + 1 + (j + 1) : Nat) : Int)))]) [1, 2, 3, 4, 5, 0] (zcons rfl (zcons rfl (zcons rfl (zcons rfl (zcons rfl (zcons (zqI q61_70) rfl)))))) ?_
          refine zv_eqS (τ := (mW u (qPtr U S o).1 (qPtr U S o).2)) (rfl) ?_
          exact ih ((j + 1, (mW u (qPtr U S o).1 (qPtr U S o).2))) (⟨by show j + 1 ≤ 10000; omega, fi_s hI2 (by simp only [dNm, decide_eq_true_eq]; rw [hcs]; exact h81), mK_W hK _ _⟩) (by show 10000 - (j + 1) < 10000 - j; omega)
        · skip
          refine zv_iload C 5 dX11_nextMeeting_84 rfl ?_
          exact zv_iret C hr rfl dX11_nextMeeting_86 ⟨congrArg zI (by rw [dNmR, fi_of hI2 (by simp only [dNm, decide_eq_true_eq]; rw [hcs]; exact h81) 10000 (by omega), if_neg (by omega)]; omega), mK_W hK _ _⟩
    · skip
      refine zv_iconst (v := zI 1) C dX11_nextMeeting_42 rfl ?_
      refine zv_goto (tgt := 47) C dX11_nextMeeting_43 (by decide) ?_
      refine zv_iconst (v := zI 2) C dX11_nextMeeting_47 rfl ?_
      exfalso
      omega
set_option maxRecDepth 20000 in
theorem x1_X11_nextMeeting {l : Launch} (hfl : l.stackTraces = false) (E : zE) (σ : zS) (σc : zS) (U : zSU) (y z : Int) (a : Int) (b : Int) (hB : zRb (gI σ 328) U) (hU : zSUp σc 29 U) (hy : -2147483648 ≤ y ∧ y < 2147483648) (hno : ¬ (0 ≤ y ∧ y < U.nb)) : zRi l E yX11_nextMeeting cX11_nextMeeting 6 .int (zrm 2 46) [.ref (ob E 327), .int (zI y), .int (zI z), .int (zI a), .int (zI b)] σ (fun r τ => r = zI 0 ∧ mK σ τ 1) := by
  refine Met.ofW (cc := cX11_nextMeeting) (maxL := 6) (ret := (some .int)) (by decide +kernel) rfl ?_
  intro p e s m args below meth c s₁ B hml hv
  obtain ⟨rfl, hd⟩ := hv
  have C := zX_of (own := RX11) hfl B hml rfl hd rfl
  have hr := B.returns
  refine zV_go hd (Nat.le_of_ble_eq_true rfl) (lv := [(0, .ref (ob E 327)), (1, .int (zI y)), (2, .int (zI z)), (3, .int (zI a)), (4, .int (zI b))]) rfl ?_
  have hnb : U.nb ≤ 8 := hU.2.2.1
  have hs0 := hU.2.2.2.1
  
  refine zv_aload_n C 0 dX11_nextMeeting_0 rfl rfl ?_
  refine zv_iload_n C 1 dX11_nextMeeting_1 rfl rfl ?_
  refine zv_cviD (st := []) C (c1_X11_noBody hfl E σ σc U (y) hB hU (by omega) hno) mX11_noBody kX11_319 (by decide : kd 327 = 10) rfl rfl rfl ⟨rfl, rfl⟩ (show zfit (zrm 1 25) 2 (zrm 2 46) = true from rfl) (Nat.le_of_ble_eq_true rfl) dX11_nextMeeting_2 ⟨Nat.zero_le _, Nat.zero_le _⟩ ?_
  refine zv_if_neZ (tgt := 54) C (by omega) dX11_nextMeeting_5 (by decide) (fun h5 => ?_) (fun h5 => absurd h5 (by decide))
  refine zv_iconst (v := zI 0) C dX11_nextMeeting_54 rfl ?_
  exact zv_iret C hr rfl dX11_nextMeeting_55 ⟨rfl, by first | exact mK_th _ _ | exact mK_th2 _ _ _ | exact mK_C (mK_W (mK_th _ _) _ _) _ | exact mK_W (mK_th _ _) _ _⟩
set_option maxRecDepth 20000 in
theorem x2_X11_nextMeeting {l : Launch} (hfl : l.stackTraces = false) (E : zE) (σ : zS) (σc : zS) (U : zSU) (z y : Int) (a : Int) (b : Int) (hB : zRb (gI σ 328) U) (hU : zSUp σc 29 U) (hz : 0 ≤ z ∧ z < U.nb) (hy : -2147483648 ≤ y ∧ y < 2147483648) (hno : ¬ (0 ≤ y ∧ y < U.nb)) : zRi l E yX11_nextMeeting cX11_nextMeeting 6 .int (zrm 2 46) [.ref (ob E 327), .int (zI z), .int (zI y), .int (zI a), .int (zI b)] σ (fun r τ => r = zI 0 ∧ mK σ τ 1) := by
  refine Met.ofW (cc := cX11_nextMeeting) (maxL := 6) (ret := (some .int)) (by decide +kernel) rfl ?_
  intro p e s m args below meth c s₁ B hml hv
  obtain ⟨rfl, hd⟩ := hv
  have C := zX_of (own := RX11) hfl B hml rfl hd rfl
  have hr := B.returns
  refine zV_go hd (Nat.le_of_ble_eq_true rfl) (lv := [(0, .ref (ob E 327)), (1, .int (zI z)), (2, .int (zI y)), (3, .int (zI a)), (4, .int (zI b))]) rfl ?_
  have hnb : U.nb ≤ 8 := hU.2.2.1
  have hs0 := hU.2.2.2.1
  
  refine zv_aload_n C 0 dX11_nextMeeting_0 rfl rfl ?_
  refine zv_iload_n C 1 dX11_nextMeeting_1 rfl rfl ?_
  refine zv_cviD (st := []) C (c0_X11_noBody hfl E σ σc U z hB hU hz) mX11_noBody kX11_319 (by decide : kd 327 = 10) rfl rfl rfl ⟨rfl, rfl⟩ (show zfit (zrm 1 25) 2 (zrm 2 46) = true from rfl) (Nat.le_of_ble_eq_true rfl) dX11_nextMeeting_2 ⟨Nat.zero_le _, Nat.zero_le _⟩ ?_
  refine zv_if_neZ (tgt := 54) C (by omega) dX11_nextMeeting_5 (by decide) (fun h5 => absurd h5 (by decide)) (fun h5 => ?_)
  refine zv_aload_n C 0 dX11_nextMeeting_8 rfl rfl ?_
  refine zv_iload_n C 2 dX11_nextMeeting_9 rfl rfl ?_
  refine zv_cviD (st := []) C (c1_X11_noBody hfl E (thW σ 0) σc U (y) hB hU (by omega) hno) mX11_noBody kX11_319 (by decide : kd 327 = 10) rfl rfl rfl ⟨rfl, rfl⟩ (show zfit (zrm 1 25) 2 (zrm 2 46) = true from rfl) (Nat.le_of_ble_eq_true rfl) dX11_nextMeeting_10 ⟨Nat.zero_le _, Nat.zero_le _⟩ ?_
  refine zv_if_neZ (tgt := 54) C (by omega) dX11_nextMeeting_13 (by decide) (fun h13 => ?_) (fun h13 => absurd h13 (by decide))
  refine zv_iconst (v := zI 0) C dX11_nextMeeting_54 rfl ?_
  exact zv_iret C hr rfl dX11_nextMeeting_55 ⟨rfl, mK_th2 _ _ _⟩
set_option maxRecDepth 20000 in
theorem x1_X11_meetingTime {l : Launch} (hfl : l.stackTraces = false) (E : zE) (σ : zS) (σc : zS) (U : zSU) (y z : Int) (a : Int) (hB : zRb (gI σ 328) U) (hU : zSUp σc 29 U) (hy : -2147483648 ≤ y ∧ y < 2147483648) (hno : ¬ (0 ≤ y ∧ y < U.nb)) : zRl l E yX11_meetingTime cX11_meetingTime 10 (zrm 2 46) [.ref (ob E 327), .int (zI y), .int (zI z), .int (zI a)] σ (fun r τ => r = zL 0 ∧ mK σ τ 1) := by
  refine Met.ofW (cc := cX11_meetingTime) (maxL := 10) (ret := (some .long)) (by decide +kernel) rfl ?_
  intro p e s m args below meth c s₁ B hml hv
  obtain ⟨rfl, hd⟩ := hv
  have C := zX_of (own := RX11) hfl B hml rfl hd rfl
  have hr := B.returns
  refine zV_go hd (Nat.le_of_ble_eq_true rfl) (lv := [(0, .ref (ob E 327)), (1, .int (zI y)), (2, .int (zI z)), (3, .int (zI a))]) rfl ?_
  have hnb : U.nb ≤ 8 := hU.2.2.1
  have hs0 := hU.2.2.2.1
  
  refine zv_aload_n C 0 dX11_meetingTime_0 rfl rfl ?_
  refine zv_iload_n C 1 dX11_meetingTime_1 rfl rfl ?_
  refine zv_cviD (st := []) C (c1_X11_noBody hfl E σ σc U (y) hB hU (by omega) hno) mX11_noBody kX11_319 (by decide : kd 327 = 10) rfl rfl rfl ⟨rfl, rfl⟩ (show zfit (zrm 1 25) 2 (zrm 2 46) = true from rfl) (Nat.le_of_ble_eq_true rfl) dX11_meetingTime_2 ⟨Nat.zero_le _, Nat.zero_le _⟩ ?_
  refine zv_if_neZ (tgt := 39) C (by omega) dX11_meetingTime_5 (by decide) (fun h5 => ?_) (fun h5 => absurd h5 (by decide))
  refine zv_lconst (v := zL 0) C dX11_meetingTime_39 (by decide) ?_
  exact zv_lret C hr dX11_meetingTime_40 ⟨rfl, by first | exact mK_th _ _ | exact mK_th2 _ _ _ | exact mK_C (mK_W (mK_th _ _) _ _) _ | exact mK_W (mK_th _ _) _ _⟩
set_option maxRecDepth 20000 in
theorem x2_X11_meetingTime {l : Launch} (hfl : l.stackTraces = false) (E : zE) (σ : zS) (σc : zS) (U : zSU) (z y : Int) (a : Int) (hB : zRb (gI σ 328) U) (hU : zSUp σc 29 U) (hz : 0 ≤ z ∧ z < U.nb) (hy : -2147483648 ≤ y ∧ y < 2147483648) (hno : ¬ (0 ≤ y ∧ y < U.nb)) : zRl l E yX11_meetingTime cX11_meetingTime 10 (zrm 2 46) [.ref (ob E 327), .int (zI z), .int (zI y), .int (zI a)] σ (fun r τ => r = zL 0 ∧ mK σ τ 1) := by
  refine Met.ofW (cc := cX11_meetingTime) (maxL := 10) (ret := (some .long)) (by decide +kernel) rfl ?_
  intro p e s m args below meth c s₁ B hml hv
  obtain ⟨rfl, hd⟩ := hv
  have C := zX_of (own := RX11) hfl B hml rfl hd rfl
  have hr := B.returns
  refine zV_go hd (Nat.le_of_ble_eq_true rfl) (lv := [(0, .ref (ob E 327)), (1, .int (zI z)), (2, .int (zI y)), (3, .int (zI a))]) rfl ?_
  have hnb : U.nb ≤ 8 := hU.2.2.1
  have hs0 := hU.2.2.2.1
  
  refine zv_aload_n C 0 dX11_meetingTime_0 rfl rfl ?_
  refine zv_iload_n C 1 dX11_meetingTime_1 rfl rfl ?_
  refine zv_cviD (st := []) C (c0_X11_noBody hfl E σ σc U z hB hU hz) mX11_noBody kX11_319 (by decide : kd 327 = 10) rfl rfl rfl ⟨rfl, rfl⟩ (show zfit (zrm 1 25) 2 (zrm 2 46) = true from rfl) (Nat.le_of_ble_eq_true rfl) dX11_meetingTime_2 ⟨Nat.zero_le _, Nat.zero_le _⟩ ?_
  refine zv_if_neZ (tgt := 39) C (by omega) dX11_meetingTime_5 (by decide) (fun h5 => absurd h5 (by decide)) (fun h5 => ?_)
  refine zv_aload_n C 0 dX11_meetingTime_8 rfl rfl ?_
  refine zv_iload_n C 2 dX11_meetingTime_9 rfl rfl ?_
  refine zv_cviD (st := []) C (c1_X11_noBody hfl E (thW σ 0) σc U (y) hB hU (by omega) hno) mX11_noBody kX11_319 (by decide : kd 327 = 10) rfl rfl rfl ⟨rfl, rfl⟩ (show zfit (zrm 1 25) 2 (zrm 2 46) = true from rfl) (Nat.le_of_ble_eq_true rfl) dX11_meetingTime_10 ⟨Nat.zero_le _, Nat.zero_le _⟩ ?_
  refine zv_if_neZ (tgt := 39) C (by omega) dX11_meetingTime_13 (by decide) (fun h13 => ?_) (fun h13 => absurd h13 (by decide))
  refine zv_lconst (v := zL 0) C dX11_meetingTime_39 (by decide) ?_
  exact zv_lret C hr dX11_meetingTime_40 ⟨rfl, mK_th2 _ _ _⟩
set_option maxRecDepth 20000 in
theorem x3_X11_nextMeeting {l : Launch} (hfl : l.stackTraces = false) (E : zE) (σ : zS) (σc : zS) (U : zSU) (i o : Nat) (a b : Int) (hB : zRb (gI σ 328) U) (hU : zSUp σc 29 U) (hi : i < U.nb) (ho : o < U.nb) (har : -2147483648 ≤ a ∧ a < 2147483648) (hbr : -2147483648 ≤ b ∧ b < 2147483648) (hno : ¬ ((0 ≤ a ∧ a ≤ 390000) ∧ (0 ≤ b ∧ b ≤ 648000))) : zRi l E yX11_nextMeeting cX11_nextMeeting 6 .int (zrm 2 46) [.ref (ob E 327), .int (zI (i : Int)), .int (zI (o : Int)), .int (zI a), .int (zI b)] σ (fun r τ => r = zI 0 ∧ mK σ τ 2) := by
  refine Met.ofW (cc := cX11_nextMeeting) (maxL := 6) (ret := (some .int)) (by decide +kernel) rfl ?_
  intro p e s m args below meth c s₁ B hml hv
  obtain ⟨rfl, hd⟩ := hv
  have C := zX_of (own := RX11) hfl B hml rfl hd rfl
  have hr := B.returns
  refine zV_go hd (Nat.le_of_ble_eq_true rfl) (lv := [(0, .ref (ob E 327)), (1, .int (zI (i : Int))), (2, .int (zI (o : Int))), (3, .int (zI a)), (4, .int (zI b))]) rfl ?_
  have hnb : U.nb ≤ 8 := hU.2.2.1
  have hs0 := hU.2.2.2.1
  
  refine zv_aload_n C 0 dX11_nextMeeting_0 rfl rfl ?_
  refine zv_iload_n C 1 dX11_nextMeeting_1 rfl rfl ?_
  refine zv_cviD (st := []) C (c0_X11_noBody hfl E σ σc U ((i : Int)) hB hU (by omega)) mX11_noBody kX11_319 (by decide : kd 327 = 10) rfl rfl rfl ⟨rfl, rfl⟩ (show zfit (zrm 1 25) 2 (zrm 2 46) = true from rfl) (Nat.le_of_ble_eq_true rfl) dX11_nextMeeting_2 ⟨Nat.zero_le _, Nat.zero_le _⟩ ?_
  refine zv_if_neZ (tgt := 54) C (by omega) dX11_nextMeeting_5 (by decide) (fun h5 => absurd h5 (by decide)) (fun h5 => ?_)
  refine zv_aload_n C 0 dX11_nextMeeting_8 rfl rfl ?_
  refine zv_iload_n C 2 dX11_nextMeeting_9 rfl rfl ?_
  refine zv_cviD (st := []) C (c0_X11_noBody hfl E (thW σ 0) σc U ((o : Int)) hB hU (by omega)) mX11_noBody kX11_319 (by decide : kd 327 = 10) rfl rfl rfl ⟨rfl, rfl⟩ (show zfit (zrm 1 25) 2 (zrm 2 46) = true from rfl) (Nat.le_of_ble_eq_true rfl) dX11_nextMeeting_10 ⟨Nat.zero_le _, Nat.zero_le _⟩ ?_
  refine zv_eqS (τ := (thW σ 0)) (thW_o _ _ _) ?_
  refine zv_if_neZ (tgt := 54) C (by omega) dX11_nextMeeting_13 (by decide) (fun h13 => absurd h13 (by decide)) (fun h13 => ?_)
  refine zv_aload_n C 0 dX11_nextMeeting_16 rfl rfl ?_
  refine zv_iload_n C 3 dX11_nextMeeting_17 rfl rfl ?_
  refine zv_i2lZ C (by omega) dX11_nextMeeting_18 ?_
  refine zv_lconst (v := zL 0) C dX11_nextMeeting_19 (by decide) ?_
  refine zv_ldc2 C kX11_430 dX11_nextMeeting_20 ?_
  refine zv_eql (y := zL 390000) (by decide) ?_
  refine zv_csiD (st := [.ref (ob E 327)]) C (c_X11_inRange hfl E (thW σ 0) (a) (0) (390000) (by omega) (by omega) (by omega)) mX11_inRange kX11_71 rfl ⟨rfl, rfl⟩ (show zfit (zrm 0 0) 6 (zrm 2 46) = true from rfl) (Nat.le_of_ble_eq_true rfl) dX11_nextMeeting_23 ⟨Nat.zero_le _, Nat.zero_le _⟩ ?_
  refine zv_if_eqB (tgt := 42) C dX11_nextMeeting_26 (by decide) (fun h26 => ?_) (fun h26 => ?_)
  · skip
    refine zv_iconst (v := zI 1) C dX11_nextMeeting_42 rfl ?_
    refine zv_goto (tgt := 47) C dX11_nextMeeting_43 (by decide) ?_
    refine zv_iconst (v := zI 2) C dX11_nextMeeting_47 rfl ?_
    refine zv_cviD (st := []) C (c1_X11_fails hfl E (thW σ 0) 2) mX11_fails kX11_309 (by decide : kd 327 = 10) rfl rfl rfl ⟨rfl, rfl⟩ (show zfit (zrm 0 0) 3 (zrm 2 46) = true from rfl) (Nat.le_of_ble_eq_true rfl) dX11_nextMeeting_48 ⟨Nat.zero_le _, Nat.zero_le _⟩ ?_
    refine zv_if_eqZ (tgt := 56) C (by omega) dX11_nextMeeting_51 (by decide) (fun h51 => absurd h51 (by decide)) (fun h51 => ?_)
    refine zv_iconst (v := zI 0) C dX11_nextMeeting_54 rfl ?_
    exact zv_iret C hr rfl dX11_nextMeeting_55 ⟨rfl, mK_th2 _ _ _⟩
  · skip
    refine zv_iload C 4 dX11_nextMeeting_29 rfl ?_
    refine zv_i2lZ C (by omega) dX11_nextMeeting_31 ?_
    refine zv_lconst (v := zL 0) C dX11_nextMeeting_32 (by decide) ?_
    refine zv_ldc2 C kX11_432 dX11_nextMeeting_33 ?_
    refine zv_eql (y := zL 648000) (by decide) ?_
    refine zv_csiD (st := [.ref (ob E 327)]) C (c_X11_inRange hfl E (thW σ 0) (b) (0) (648000) (by omega) (by omega) (by omega)) mX11_inRange kX11_71 rfl ⟨rfl, rfl⟩ (show zfit (zrm 0 0) 6 (zrm 2 46) = true from rfl) (Nat.le_of_ble_eq_true rfl) dX11_nextMeeting_36 ⟨Nat.zero_le _, Nat.zero_le _⟩ ?_
    refine zv_if_neB (tgt := 46) C dX11_nextMeeting_39 (by decide) (fun h39 => ?_) (fun h39 => ?_)
    · skip
      refine zv_iconst (v := zI 0) C dX11_nextMeeting_46 rfl ?_
      refine zv_iconst (v := zI 2) C dX11_nextMeeting_47 rfl ?_
      exfalso
      omega
    · skip
      refine zv_iconst (v := zI 1) C dX11_nextMeeting_42 rfl ?_
      refine zv_goto (tgt := 47) C dX11_nextMeeting_43 (by decide) ?_
      refine zv_iconst (v := zI 2) C dX11_nextMeeting_47 rfl ?_
      refine zv_cviD (st := []) C (c1_X11_fails hfl E (thW σ 0) 2) mX11_fails kX11_309 (by decide : kd 327 = 10) rfl rfl rfl ⟨rfl, rfl⟩ (show zfit (zrm 0 0) 3 (zrm 2 46) = true from rfl) (Nat.le_of_ble_eq_true rfl) dX11_nextMeeting_48 ⟨Nat.zero_le _, Nat.zero_le _⟩ ?_
      refine zv_if_eqZ (tgt := 56) C (by omega) dX11_nextMeeting_51 (by decide) (fun h51 => absurd h51 (by decide)) (fun h51 => ?_)
      refine zv_iconst (v := zI 0) C dX11_nextMeeting_54 rfl ?_
      exact zv_iret C hr rfl dX11_nextMeeting_55 ⟨rfl, mK_th2 _ _ _⟩
set_option maxRecDepth 20000 in
theorem x3_X11_meetingTime {l : Launch} (hfl : l.stackTraces = false) (E : zE) (σ : zS) (σc : zS) (U : zSU) (i o : Nat) (a : Int) (hB : zRb (gI σ 328) U) (hU : zSUp σc 29 U) (hi : i < U.nb) (ho : o < U.nb) (har : -2147483648 ≤ a ∧ a < 2147483648) (hno : ¬ (0 ≤ a ∧ a ≤ 1)) : zRl l E yX11_meetingTime cX11_meetingTime 10 (zrm 2 46) [.ref (ob E 327), .int (zI (i : Int)), .int (zI (o : Int)), .int (zI a)] σ (fun r τ => r = zL 0 ∧ mK σ τ 2) := by
  refine Met.ofW (cc := cX11_meetingTime) (maxL := 10) (ret := (some .long)) (by decide +kernel) rfl ?_
  intro p e s m args below meth c s₁ B hml hv
  obtain ⟨rfl, hd⟩ := hv
  have C := zX_of (own := RX11) hfl B hml rfl hd rfl
  have hr := B.returns
  refine zV_go hd (Nat.le_of_ble_eq_true rfl) (lv := [(0, .ref (ob E 327)), (1, .int (zI (i : Int))), (2, .int (zI (o : Int))), (3, .int (zI a))]) rfl ?_
  have hnb : U.nb ≤ 8 := hU.2.2.1
  have hs0 := hU.2.2.2.1
  
  refine zv_aload_n C 0 dX11_meetingTime_0 rfl rfl ?_
  refine zv_iload_n C 1 dX11_meetingTime_1 rfl rfl ?_
  refine zv_cviD (st := []) C (c0_X11_noBody hfl E σ σc U ((i : Int)) hB hU (by omega)) mX11_noBody kX11_319 (by decide : kd 327 = 10) rfl rfl rfl ⟨rfl, rfl⟩ (show zfit (zrm 1 25) 2 (zrm 2 46) = true from rfl) (Nat.le_of_ble_eq_true rfl) dX11_meetingTime_2 ⟨Nat.zero_le _, Nat.zero_le _⟩ ?_
  refine zv_if_neZ (tgt := 39) C (by omega) dX11_meetingTime_5 (by decide) (fun h5 => absurd h5 (by decide)) (fun h5 => ?_)
  refine zv_aload_n C 0 dX11_meetingTime_8 rfl rfl ?_
  refine zv_iload_n C 2 dX11_meetingTime_9 rfl rfl ?_
  refine zv_cviD (st := []) C (c0_X11_noBody hfl E (thW σ 0) σc U ((o : Int)) hB hU (by omega)) mX11_noBody kX11_319 (by decide : kd 327 = 10) rfl rfl rfl ⟨rfl, rfl⟩ (show zfit (zrm 1 25) 2 (zrm 2 46) = true from rfl) (Nat.le_of_ble_eq_true rfl) dX11_meetingTime_10 ⟨Nat.zero_le _, Nat.zero_le _⟩ ?_
  refine zv_eqS (τ := (thW σ 0)) (thW_o _ _ _) ?_
  refine zv_if_neZ (tgt := 39) C (by omega) dX11_meetingTime_13 (by decide) (fun h13 => absurd h13 (by decide)) (fun h13 => ?_)
  refine zv_aload_n C 0 dX11_meetingTime_16 rfl rfl ?_
  refine zv_iload_n C 3 dX11_meetingTime_17 rfl rfl ?_
  refine zv_i2lZ C (by omega) dX11_meetingTime_18 ?_
  refine zv_lconst (v := zL 0) C dX11_meetingTime_19 (by decide) ?_
  refine zv_lconst (v := zL 1) C dX11_meetingTime_20 (by decide) ?_
  refine zv_csiD (st := [.ref (ob E 327)]) C (c_X11_inRange hfl E (thW σ 0) (a) (0) (1) (by omega) (by omega) (by omega)) mX11_inRange kX11_71 rfl ⟨rfl, rfl⟩ (show zfit (zrm 0 0) 6 (zrm 2 46) = true from rfl) (Nat.le_of_ble_eq_true rfl) dX11_meetingTime_21 ⟨Nat.zero_le _, Nat.zero_le _⟩ ?_
  refine zv_if_neB (tgt := 31) C dX11_meetingTime_24 (by decide) (fun h24 => ?_) (fun h24 => ?_)
  · skip
    refine zv_iconst (v := zI 0) C dX11_meetingTime_31 rfl ?_
    refine zv_iconst (v := zI 2) C dX11_meetingTime_32 rfl ?_
    exfalso
    omega
  · skip
    refine zv_iconst (v := zI 1) C dX11_meetingTime_27 rfl ?_
    refine zv_goto (tgt := 32) C dX11_meetingTime_28 (by decide) ?_
    refine zv_iconst (v := zI 2) C dX11_meetingTime_32 rfl ?_
    refine zv_cviD (st := []) C (c1_X11_fails hfl E (thW σ 0) 2) mX11_fails kX11_309 (by decide : kd 327 = 10) rfl rfl rfl ⟨rfl, rfl⟩ (show zfit (zrm 0 0) 3 (zrm 2 46) = true from rfl) (Nat.le_of_ble_eq_true rfl) dX11_meetingTime_33 ⟨Nat.zero_le _, Nat.zero_le _⟩ ?_
    refine zv_if_eqZ (tgt := 41) C (by omega) dX11_meetingTime_36 (by decide) (fun h36 => absurd h36 (by decide)) (fun h36 => ?_)
    refine zv_lconst (v := zL 0) C dX11_meetingTime_39 (by decide) ?_
    exact zv_lret C hr dX11_meetingTime_40 ⟨rfl, mK_th2 _ _ _⟩
