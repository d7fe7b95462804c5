def pStmt (tx : Nat → Int) (n : Nat) (P : zPs) : Nat × zPs :=
  if tIs tx n P.q 0 then pStock tx n P else if tIs tx n P.q 1 then pStart tx n P else if tIs tx n P.q 2 then pSlack tx n P else if tIs tx n P.q 3 then pBody tx n P else if tIs tx n P.q 7 then pTrain tx n P else (1, P)
set_option maxRecDepth 20000 in
theorem c_X5_readStatement {l : Launch} (hfl : l.stackTraces = false) (E : zE) (σ : zS) (tx : Nat → Int) (n : Nat) (P : zPs) (hP : zPS σ tx n P) : zRi l E yX5_readStatement cX5_readStatement 1 .boolean (zrm 4 93) [.ref (ob E 1)] σ (fun r τ => r = zB ((pStmt tx n P).1 = 0) ∧ zRd σ τ tx n (pStmt tx n P).1 (pStmt tx n P).2) := by
  refine Met.ofW (cc := cX5_readStatement) (maxL := 1) (ret := (some .boolean)) (by decide +kernel) rfl ?_
  intro p e s m args below meth c s₁ B hml hv
  obtain ⟨rfl, hd⟩ := hv
  have C := zX_of (own := RX5) hfl B hml rfl hd rfl
  have hr := B.returns
  refine zV_go hd (Nat.le_of_ble_eq_true rfl) (lv := [(0, .ref (ob E 1))]) rfl ?_
  refine zv_aload_n C 0 dX5_readStatement_0 rfl rfl ?_
  refine zG5_0 C (by decide : kd 1 = _) kX5_12 dX5_readStatement_1 ?_
  refine zv_getW (i := 0) C (by decide) kX5_69 dX5_readStatement_4 ?_
  refine zv_cviD (st := []) C (c_X7_isWord hfl E σ tx n P.q 0 hP.2.1 (by decide)) mX7_isWord kX5_75 (by decide : kd 2 = 7) rfl rfl rfl ⟨rfl, rfl⟩ (show zfit (zrm 0 0) 2 (zrm 4 93) = true from rfl) (Nat.le_of_ble_eq_true rfl) dX5_readStatement_7 ⟨Nat.zero_le _, Nat.zero_le _⟩ ?_
  refine zv_if_eqB (tgt := 18) C dX5_readStatement_10 (by decide) (fun h10 => ?_) (fun h10 => ?_)
  · skip
    refine zv_aload_n C 0 dX5_readStatement_18 rfl rfl ?_
    refine zG5_0 C (by decide : kd 1 = _) kX5_12 dX5_readStatement_19 ?_
    refine zv_getW (i := 1) C (by decide) kX5_82 dX5_readStatement_22 ?_
    refine zv_cviD (st := []) C (c_X7_isWord hfl E σ tx n P.q 1 hP.2.1 (by decide)) mX7_isWord kX5_75 (by decide : kd 2 = 7) rfl rfl rfl ⟨rfl, rfl⟩ (show zfit (zrm 0 0) 2 (zrm 4 93) = true from rfl) (Nat.le_of_ble_eq_true rfl) dX5_readStatement_25 ⟨Nat.zero_le _, Nat.zero_le _⟩ ?_
    refine zv_if_eqB (tgt := 36) C dX5_readStatement_28 (by decide) (fun h28 => ?_) (fun h28 => ?_)
    · skip
      refine zv_aload_n C 0 dX5_readStatement_36 rfl rfl ?_
      refine zG5_0 C (by decide : kd 1 = _) kX5_12 dX5_readStatement_37 ?_
      refine zv_getW (i := 2) C (by decide) kX5_88 dX5_readStatement_40 ?_
      refine zv_cviD (st := []) C (c_X7_isWord hfl E σ tx n P.q 2 hP.2.1 (by decide)) mX7_isWord kX5_75 (by decide : kd 2 = 7) rfl rfl rfl ⟨rfl, rfl⟩ (show zfit (zrm 0 0) 2 (zrm 4 93) = true from rfl) (Nat.le_of_ble_eq_true rfl) dX5_readStatement_43 ⟨Nat.zero_le _, Nat.zero_le _⟩ ?_
      refine zv_if_eqB (tgt := 54) C dX5_readStatement_46 (by decide) (fun h46 => ?_) (fun h46 => ?_)
      · skip
        refine zv_aload_n C 0 dX5_readStatement_54 rfl rfl ?_
        refine zG5_0 C (by decide : kd 1 = _) kX5_12 dX5_readStatement_55 ?_
        refine zv_getW (i := 3) C (by decide) kX5_94 dX5_readStatement_58 ?_
        refine zv_cviD (st := []) C (c_X7_isWord hfl E σ tx n P.q 3 hP.2.1 (by decide)) mX7_isWord kX5_75 (by decide : kd 2 = 7) rfl rfl rfl ⟨rfl, rfl⟩ (show zfit (zrm 0 0) 2 (zrm 4 93) = true from rfl) (Nat.le_of_ble_eq_true rfl) dX5_readStatement_61 ⟨Nat.zero_le _, Nat.zero_le _⟩ ?_
        refine zv_if_eqB (tgt := 72) C dX5_readStatement_64 (by decide) (fun h64 => ?_) (fun h64 => ?_)
        · skip
          refine zv_aload_n C 0 dX5_readStatement_72 rfl rfl ?_
          refine zG5_0 C (by decide : kd 1 = _) kX5_12 dX5_readStatement_73 ?_
          refine zv_getW (i := 7) C (by decide) kX5_100 dX5_readStatement_76 ?_
          refine zv_cviD (st := []) C (c_X7_isWord hfl E σ tx n P.q 7 hP.2.1 (by decide)) mX7_isWord kX5_75 (by decide : kd 2 = 7) rfl rfl rfl ⟨rfl, rfl⟩ (show zfit (zrm 0 0) 2 (zrm 4 93) = true from rfl) (Nat.le_of_ble_eq_true rfl) dX5_readStatement_79 ⟨Nat.zero_le _, Nat.zero_le _⟩ ?_
          refine zv_if_eqB (tgt := 90) C dX5_readStatement_82 (by decide) (fun h82 => ?_) (fun h82 => ?_)
          · skip
            have hp : pStmt tx n P = (1, P) := by unfold pStmt; rw [if_neg h10, if_neg h28, if_neg h46, if_neg h64, if_neg h82]
            refine zv_aload_n C 0 dX5_readStatement_90 rfl rfl ?_
            refine zv_iconst (v := zI 1) C dX5_readStatement_91 rfl ?_
            refine zv_cviD (st := []) C (c_X5_fail hfl E σ 1 (tB tx n P.q) hP.2.1.2.1) mX5_fail kX5_106 (by decide : kd 1 = 5) rfl rfl rfl ⟨rfl, rfl⟩ (show zfit (zrm 0 0) 2 (zrm 4 93) = true from rfl) (Nat.le_of_ble_eq_true rfl) dX5_readStatement_92 ⟨Nat.zero_le _, Nat.zero_le _⟩ ?_
            exact zv_iret C hr rfl dX5_readStatement_95 ⟨by rw [hp]; rfl, by rw [hp]; exact zRd_no (by decide) (zKp_refl σ)⟩
          · skip
            have hp : pStmt tx n P = pTrain tx n P := by unfold pStmt; rw [if_neg h10, if_neg h28, if_neg h46, if_neg h64, if_pos h82]
            refine zv_aload_n C 0 dX5_readStatement_85 rfl rfl ?_
            refine zv_cvi (st := []) C (c_X5_readTrain hfl E σ tx n P hP) mX5_readTrain kX5_103 (by decide : kd 1 = 5) rfl rfl rfl ⟨rfl, rfl⟩ (show zfit (zrm 3 70) 4 (zrm 4 93) = true from rfl) (Nat.le_of_ble_eq_true rfl) dX5_readStatement_86 ⟨Nat.zero_le _, Nat.zero_le _⟩ (fun r86 τ86 hp86 => ?_)
            refine zv_eqi (y := zB ((pTrain tx n P).1 = 0)) hp86.1 ?_
            exact zv_iret C hr zB_nar dX5_readStatement_89 ⟨by rw [hp], by rw [hp]; exact hp86.2⟩
        · skip
          have hp : pStmt tx n P = pBody tx n P := by unfold pStmt; rw [if_neg h10, if_neg h28, if_neg h46, if_pos h64]
          refine zv_aload_n C 0 dX5_readStatement_67 rfl rfl ?_
          refine zv_cvi (st := []) C (c_X5_readBody hfl E σ tx n P hP) mX5_readBody kX5_97 (by decide : kd 1 = 5) rfl rfl rfl ⟨rfl, rfl⟩ (show zfit (zrm 3 62) 6 (zrm 4 93) = true from rfl) (Nat.le_of_ble_eq_true rfl) dX5_readStatement_68 ⟨Nat.zero_le _, Nat.zero_le _⟩ (fun r68 τ68 hp68 => ?_)
          refine zv_eqi (y := zB ((pBody tx n P).1 = 0)) hp68.1 ?_
          exact zv_iret C hr zB_nar dX5_readStatement_71 ⟨by rw [hp], by rw [hp]; exact hp68.2⟩
      · skip
        have hp : pStmt tx n P = pSlack tx n P := by unfold pStmt; rw [if_neg h10, if_neg h28, if_pos h46]
        refine zv_aload_n C 0 dX5_readStatement_49 rfl rfl ?_
        refine zv_cvi (st := []) C (c_X5_readSlack hfl E σ tx n P hP) mX5_readSlack kX5_91 (by decide : kd 1 = 5) rfl rfl rfl ⟨rfl, rfl⟩ (show zfit (zrm 2 43) 1 (zrm 4 93) = true from rfl) (Nat.le_of_ble_eq_true rfl) dX5_readStatement_50 ⟨Nat.zero_le _, Nat.zero_le _⟩ (fun r50 τ50 hp50 => ?_)
        refine zv_eqi (y := zB ((pSlack tx n P).1 = 0)) hp50.1 ?_
        exact zv_iret C hr zB_nar dX5_readStatement_53 ⟨by rw [hp], by rw [hp]; exact hp50.2⟩
    · skip
      have hp : pStmt tx n P = pStart tx n P := by unfold pStmt; rw [if_neg h10, if_pos h28]
      refine zv_aload_n C 0 dX5_readStatement_31 rfl rfl ?_
      refine zv_cvi (st := []) C (c_X5_readStart hfl E σ tx n P hP) mX5_readStart kX5_85 (by decide : kd 1 = 5) rfl rfl rfl ⟨rfl, rfl⟩ (show zfit (zrm 2 43) 1 (zrm 4 93) = true from rfl) (Nat.le_of_ble_eq_true rfl) dX5_readStatement_32 ⟨Nat.zero_le _, Nat.zero_le _⟩ (fun r32 τ32 hp32 => ?_)
      refine zv_eqi (y := zB ((pStart tx n P).1 = 0)) hp32.1 ?_
      exact zv_iret C hr zB_nar dX5_readStatement_35 ⟨by rw [hp], by rw [hp]; exact hp32.2⟩
  · skip
    have hp : pStmt tx n P = pStock tx n P := by unfold pStmt; rw [if_pos h10]
    refine zv_aload_n C 0 dX5_readStatement_13 rfl rfl ?_
    refine zv_cvi (st := []) C (c_X5_readStock hfl E σ tx n P hP) mX5_readStock kX5_79 (by decide : kd 1 = 5) rfl rfl rfl ⟨rfl, rfl⟩ (show zfit (zrm 2 43) 2 (zrm 4 93) = true from rfl) (Nat.le_of_ble_eq_true rfl) dX5_readStatement_14 ⟨Nat.zero_le _, Nat.zero_le _⟩ (fun r14 τ14 hp14 => ?_)
    refine zv_eqi (y := zB ((pStock tx n P).1 = 0)) hp14.1 ?_
    exact zv_iret C hr zB_nar dX5_readStatement_17 ⟨by rw [hp], by rw [hp]; exact hp14.2⟩
