/-! a train read, in the reference -/
theorem mBd_apd {P : zPs} (h : mBd P) {j a b d : Nat} (ht : P.S.tn j < 4) (ha : a ≤ 2) (hb : b ≤ 100) (hd9 : d ≤ 100) : mBd (P.sS (P.S.apd j a b d)) := by
  obtain ⟨h1, h2, h3, h4, h5⟩ := h
  refine ⟨h1, h2, h3, fun i hi => ?_, h5⟩
  obtain ⟨g1, g2⟩ := h4 i hi
  show (if i = j then P.S.tn j + 1 else P.S.tn i) ≤ 4 ∧ ∀ p w, p < (if i = j then P.S.tn j + 1 else P.S.tn i) → w < 3 → (if i = j then (fun x w => if x = P.S.tn j then (if w = 0 then a else if w = 1 then b else d) else P.S.tr j x w) else P.S.tr i) p w ≤ 100
  by_cases q : i = j
  · subst q
    rw [if_pos rfl, if_pos rfl]
    refine ⟨by omega, fun p w hp hw => ?_⟩
    show (if p = P.S.tn i then (if w = 0 then a else if w = 1 then b else d) else P.S.tr i p w) ≤ 100
    split
    · split
      · omega
      · split <;> omega
    · exact g2 p w (by omega) hw
  · rw [if_neg q, if_neg q]
    exact ⟨g1, g2⟩
theorem mPS_apd {σ : zS} {tx : Nat → Int} {n : Nat} {P : zPs} {j a b d : Nat} (h : mPS σ tx n P) (hj : j < 8) (ht : P.S.tn j < 4) (ha : a ≤ 2) (hb : b ≤ 100) (hd9 : d ≤ 100) : mPS (aPw σ j (P.S.tn j) (a : Int) (b : Int) (d : Int)) tx n (P.sS (P.S.apd j a b d)) :=
  mPS_S h (zRo_apd (mPS_W h) (mBd_k (mPS_b h)) hj ht) (fun x i q => aPw_o _ _ _ _ _ _ _ _ q) (mBd_apd (mPS_b h) ht ha hb hd9)
theorem mF_P {σ τ : zS} (h : mF σ τ) (i n : Nat) (a b d : Int) : mF σ (aPw τ i n a b d) := mF_t h (mF_S (fun x j q => aPw_o _ _ _ _ _ _ _ _ q) rfl)
theorem pKd_b3 (tx : Nat → Int) (n q : Nat) : -1 ≤ pKd tx n q ∧ pKd tx n q ≤ 2 := by
  unfold pKd
  split
  · omega
  · split
    · omega
    · split <;> omega
theorem pKd_k {tx : Nat → Int} {n q : Nat} (h : tK tx n q ≠ 1) : pKd tx n q = -1 := by
  unfold pKd
  rw [if_neg (fun z => h z.1), if_neg (fun z => h z.1), if_neg (fun z => h z.1)]
theorem pPart_n {tx : Nat → Int} {n j : Nat} {P : zPs} (h : (pPart tx n j P).1 = 0) : P.S.tn j < 4 ∧ (pPart tx n j P).2.S.tn j = P.S.tn j + 1 := by
  have e : ∀ a b d, (P.S.apd j a b d).tn j = P.S.tn j + 1 := fun a b d => apd_tn _ _ _ _ _
  unfold pPart at h ⊢
  split
  · rename_i g; rw [if_pos g] at h; cases h
  · rename_i g
    rw [if_neg g] at h
    split
    · rename_i g2; rw [if_pos g2] at h; cases h
    · rename_i g2
      have hr := Decidable.not_not.mp g2
      rw [if_neg g2] at h
      split
      · rename_i g3; rw [if_pos g3] at h; exact absurd h g3
      · rename_i g3
        rw [if_neg g3] at h
        split
        · exact ⟨hr.1, e _ _ _⟩
        · rename_i g4
          rw [if_neg g4] at h
          split
          · rename_i g5; rw [if_pos g5] at h; exact absurd h g5
          · exact ⟨hr.1, e _ _ _⟩
set_option maxRecDepth 20000 in
theorem c_X11_readPart {l : Launch} (hfl : l.stackTraces = false) (E : zE) (σ : zS) (tx : Nat → Int) (n j : Nat) (P : zPs) (hP : mPS σ tx n P) (hj : j < 8) : zRi l E yX11_readPart cX11_readPart 5 .boolean (zrm 7 141) [.ref (ob E 327), .int (zI (j : Int))] σ (fun r τ => mR σ τ tx n r (pPart tx n j P).1 (pPart tx n j P).2) := by
  refine Met.ofW (cc := cX11_readPart) (maxL := 5) (ret := (some .boolean)) (by decide +kernel) rfl ?_
  intro p e s m args below meth c s₁ B hml hv
  obtain ⟨rfl, hd⟩ := hv
  have C := zX_of (own := RX11) hfl B hml rfl hd rfl
  have hr := B.returns
  refine zV_go hd (Nat.le_of_ble_eq_true rfl) (lv := [(0, .ref (ob E 327)), (1, .int (zI (j : Int)))]) rfl ?_
  have hkb := pKd_b3 tx n P.q
  have hbP := mPS_b hP
  obtain ⟨ht4, hc9⟩ := hbP.2.2.2.1 j hj
  have hgl := tGe_le (P.S.tr j) (P.S.tn j)
  refine zv_aload_n C 0 dX11_readPart_0 rfl rfl ?_
  refine zv_cviD (st := []) C (c_X11_kindHere hfl E σ tx n P hP) mX11_kindHere kX11_198 (by decide : kd 327 = 10) rfl rfl rfl ⟨rfl, rfl⟩ (show zfit (zrm 5 107) 1 (zrm 7 141) = true from rfl) (Nat.le_of_ble_eq_true rfl) dX11_readPart_1 ⟨Nat.zero_le _, Nat.zero_le _⟩ ?_
  refine zv_istore_n (lv' := [(2, .int (zI (pKd tx n P.q))), (0, .ref (ob E 327)), (1, .int (zI (j : Int)))]) C dX11_readPart_4 rfl (by decide) rfl ?_
  refine zv_iload_n C 0 dX11_readPart_5 rfl rfl ?_
  refine zv_iconst (v := zI (-1)) C dX11_readPart_6 rfl ?_
  refine zv_icmp_neZ (tgt := 16) C (by omega) (by omega) dX11_readPart_7 (by decide) (fun h7 => ?_) (fun h7 => ?_)
  · skip
    obtain ⟨a, ha⟩ : ∃ a : Nat, (a : Int) = pKd tx n P.q := ⟨(pKd tx n P.q).toNat, by omega⟩
    have hat : (pKd tx n P.q).toNat = a := by omega
    refine zv_aload_n C 1 dX11_readPart_16 rfl rfl ?_
    refine zv_aload_n C 1 dX11_readPart_17 rfl rfl ?_
    refine zv_iload_n C 2 dX11_readPart_18 rfl rfl ?_
    refine zv_iload_n C 0 dX11_readPart_19 rfl rfl ?_
    refine zv_eqi (y := (zI (a : Int))) (by rw [ha]) ?_
    refine zv_cviD (st := [.ref (ob E 327)]) C (c_X11_hasRoom hfl E σ 8 P.S j (a : Int) (mPS_W hP) hj ht4 hc9 (by omega)) mX11_hasRoom kX11_201 (by decide : kd 327 = 10) rfl rfl rfl ⟨rfl, rfl⟩ (show zfit (zrm 3 67) 3 (zrm 7 141) = true from rfl) (Nat.le_of_ble_eq_true rfl) dX11_readPart_20 ⟨Nat.zero_le _, Nat.zero_le _⟩ ?_
    refine zv_cvi (st := []) C (cB_X11_starts hfl E σ tx n P (P.S.tn j < 4 ∧ ((a : Int) = 2 ∨ tGe (P.S.tr j) (P.S.tn j) < 2)) hP) mX11_starts kX11_161 (by decide : kd 327 = 10) rfl rfl rfl ⟨rfl, rfl⟩ (show zfit (zrm 6 120) 2 (zrm 7 141) = true from rfl) (Nat.le_of_ble_eq_true rfl) dX11_readPart_23 ⟨Nat.zero_le _, Nat.zero_le _⟩ (fun r23 τ23 hp23 => ?_)
    refine zv_eqi (y := zB (P.S.tn j < 4 ∧ ((a : Int) = 2 ∨ tGe (P.S.tr j) (P.S.tn j) < 2))) hp23.1 ?_
    refine zv_if_eqB (tgt := 40) C dX11_readPart_26 (by decide) (fun h26 => ?_) (fun h26 => ?_)
    · skip
      have hp : pPart tx n j P = (4, P) := by unfold pPart; rw [if_neg (by omega), if_pos (fun z => h26 ⟨z.1, z.2.imp (fun q => by omega) id⟩)]
      have hτ := hp23.2.2 h26
      refine zv_iconst (v := zI 0) C dX11_readPart_40 rfl ?_
      exact zv_iret C hr rfl dX11_readPart_41 (by rw [hp, hτ]; exact mR_f (P := P) (by decide) (mF_r σ))
    · skip
      have hroom : P.S.tn j < 4 ∧ (pKd tx n P.q = 2 ∨ tGe (P.S.tr j) (P.S.tn j) < 2) := ⟨h26.1, h26.2.imp (fun q => by omega) id⟩
      obtain ⟨hA1, hmA⟩ := hp23.2.1 h26
      have hA1f := mF_A hmA
      refine zv_aload_n C 1 dX11_readPart_29 rfl rfl ?_
      refine zv_bipush (v := zI 8) C dX11_readPart_30 (by decide) ?_
      refine zv_bipush (v := zI 100) C dX11_readPart_32 (by decide) ?_
      refine zv_cviD (st := []) C (c_X11_seesNumber hfl E τ23 tx n (pAdv tx n P) 8 100 hA1 (by decide) (by decide)) mX11_seesNumber kX11_168 (by decide : kd 327 = 10) rfl rfl rfl ⟨rfl, rfl⟩ (show zfit (zrm 1 25) 3 (zrm 7 141) = true from rfl) (Nat.le_of_ble_eq_true rfl) dX11_readPart_34 ⟨Nat.zero_le _, Nat.zero_le _⟩ ?_
      refine zv_if_neB (tgt := 42) C dX11_readPart_37 (by decide) (fun h37 => ?_) (fun h37 => ?_)
      · skip
        have hn0 := pNum_0 h37
        refine zv_eqS (τ := τ23) (by rw [h37, mfC_0]) ?_
        refine zv_aload_n C 1 dX11_readPart_42 rfl rfl ?_
        refine zG10_19 C (by decide : kd 327 = _) kX11_85 dX11_readPart_43 ?_
        refine zv_eqi (y := (zI ((tV tx n (pAdv tx n P).q) : Int))) (mVal hA1 hn0.1) ?_
        refine zv_istore_n (lv' := [(3, .int (zI ((tV tx n (pAdv tx n P).q) : Int))), (2, .int (zI (pKd tx n P.q))), (0, .ref (ob E 327)), (1, .int (zI (j : Int)))]) C dX11_readPart_46 rfl (by decide) rfl ?_
        refine zv_iconst (v := zI 0) C dX11_readPart_47 rfl ?_
        refine zv_istore (lv' := [(4, .int (zI 0)), (3, .int (zI ((tV tx n (pAdv tx n P).q) : Int))), (2, .int (zI (pKd tx n P.q))), (0, .ref (ob E 327)), (1, .int (zI (j : Int)))]) C dX11_readPart_48  (by decide) rfl ?_
        refine zv_aload_n C 3 dX11_readPart_50 rfl rfl ?_
        refine zv_cvv (st := []) C (c_X11_advanceToken hfl E τ23 tx n (tE tx n (pAdv tx n P).q) hA1.1 hA1.2.1.1 (tE_n hA1.2.2.1).2.1) mX11_advanceToken kX11_119 (by decide : kd 327 = 10) rfl rfl rfl ⟨rfl, rfl⟩ (show zfit (zrm 1 25) 2 (zrm 7 141) = true from rfl) (Nat.le_of_ble_eq_true rfl) dX11_readPart_51 ⟨Nat.zero_le _, Nat.zero_le _⟩ (fun τ51 hp51 => ?_)
        have hA2 : mPS τ51 tx n (pAdv tx n (pAdv tx n P)) := mPS_A hA1 hp51.2 hp51.1
        have hA2f := mF_A hp51.2
        refine zv_iload_n C 2 dX11_readPart_54 rfl rfl ?_
        refine zv_iconst (v := zI 2) C dX11_readPart_55 rfl ?_
        refine zv_icmp_eqZ (tgt := 82) C (by omega) (by omega) dX11_readPart_56 (by decide) (fun h56 => ?_) (fun h56 => ?_)
        · skip
          have hk2 : pKd tx n P.q = 2 := by omega
          have ha2 : a = 2 := by omega
          have hp : pPart tx n j P = (0, (pAdv tx n (pAdv tx n P)).sS (P.S.apd j a (tV tx n (pAdv tx n P).q) 0)) := by rw [ha2]; unfold pPart; rw [if_neg (by omega), if_neg (fun z => z hroom), if_neg (fun z => z h37), if_pos hk2]
          refine zv_aload_n C 3 dX11_readPart_82 rfl rfl ?_
          refine zv_iload_n C 4 dX11_readPart_83 rfl rfl ?_
          refine zv_iload_n C 2 dX11_readPart_84 rfl rfl ?_
          refine zv_eqi (y := (zI (a : Int))) (by rw [ha]) ?_
          refine zv_iload_n C 1 dX11_readPart_85 rfl rfl ?_
          refine zv_iload C 0 dX11_readPart_86 rfl ?_
          refine zv_cvvD (st := []) C (c_X11_addsPart hfl E τ51 8 P.S j (a : Int) ((tV tx n (pAdv tx n P).q) : Int) (0) (mPS_W (P := (pAdv tx n (pAdv tx n P))) hA2) hj hroom.1) mX11_addsPart kX11_204 (by decide : kd 327 = 10) rfl rfl rfl ⟨rfl, rfl⟩ (show zfit (zrm 2 42) 6 (zrm 7 141) = true from rfl) (Nat.le_of_ble_eq_true rfl) dX11_readPart_88 ⟨Nat.zero_le _, Nat.zero_le _⟩ ?_
          refine zv_iconst (v := zI 1) C dX11_readPart_91 rfl ?_
          exact zv_iret C hr rfl dX11_readPart_92 (by rw [hp]; exact mR_o (mF_P (mF_t hA1f hA2f) _ _ _ _ _) (mPS_apd (P := (pAdv tx n (pAdv tx n P))) (a := a) (b := (tV tx n (pAdv tx n P).q)) (d := 0) hA2 hj hroom.1 (by omega) (by omega) (by omega)))
        · skip
          have hk2 : pKd tx n P.q ≠ 2 := by omega
          refine zv_aload_n C 3 dX11_readPart_59 rfl rfl ?_
          refine zv_bipush (v := zI 8) C dX11_readPart_60 (by decide) ?_
          refine zv_bipush (v := zI 100) C dX11_readPart_62 (by decide) ?_
          refine zv_cviD (st := []) C (c_X11_seesNumber hfl E τ51 tx n (pAdv tx n (pAdv tx n P)) 8 100 hA2 (by decide) (by decide)) mX11_seesNumber kX11_168 (by decide : kd 327 = 10) rfl rfl rfl ⟨rfl, rfl⟩ (show zfit (zrm 1 25) 3 (zrm 7 141) = true from rfl) (Nat.le_of_ble_eq_true rfl) dX11_readPart_64 ⟨Nat.zero_le _, Nat.zero_le _⟩ ?_
          refine zv_if_neB (tgt := 72) C dX11_readPart_67 (by decide) (fun h67 => ?_) (fun h67 => ?_)
          · skip
            have hn1 := pNum_0 h67
            have hp : pPart tx n j P = (0, pAdv tx n ((pAdv tx n (pAdv tx n P)).sS (P.S.apd j a (tV tx n (pAdv tx n P).q) (tV tx n (pAdv tx n (pAdv tx n P)).q)))) := by unfold pPart; rw [if_neg (by omega), if_neg (fun z => z hroom), if_neg (fun z => z h37), if_neg hk2, if_neg (fun z => z h67), hat]
            refine zv_eqS (τ := τ51) (by rw [h67, mfC_0]) ?_
            refine zv_aload_n C 3 dX11_readPart_72 rfl rfl ?_
            refine zG10_19 C (by decide : kd 327 = _) kX11_85 dX11_readPart_73 ?_
            refine zv_eqi (y := (zI ((tV tx n (pAdv tx n (pAdv tx n P)).q) : Int))) (mVal hA2 hn1.1) ?_
            refine zv_istore (lv' := [(4, .int (zI ((tV tx n (pAdv tx n (pAdv tx n P)).q) : Int))), (3, .int (zI ((tV tx n (pAdv tx n P).q) : Int))), (2, .int (zI (pKd tx n P.q))), (0, .ref (ob E 327)), (1, .int (zI (j : Int)))]) C dX11_readPart_76  (by decide) rfl ?_
            refine zv_aload_n C 3 dX11_readPart_78 rfl rfl ?_
            refine zv_cvv (st := []) C (c_X11_advanceToken hfl E τ51 tx n (tE tx n (pAdv tx n (pAdv tx n P)).q) hA2.1 hA2.2.1.1 (tE_n hA2.2.2.1).2.1) mX11_advanceToken kX11_119 (by decide : kd 327 = 10) rfl rfl rfl ⟨rfl, rfl⟩ (show zfit (zrm 1 25) 2 (zrm 7 141) = true from rfl) (Nat.le_of_ble_eq_true rfl) dX11_readPart_79 ⟨Nat.zero_le _, Nat.zero_le _⟩ (fun τ79 hp79 => ?_)
            have hA3 : mPS τ79 tx n (pAdv tx n (pAdv tx n (pAdv tx n P))) := mPS_A hA2 hp79.2 hp79.1
            have hA3f := mF_A hp79.2
            refine zv_aload_n C 3 dX11_readPart_82 rfl rfl ?_
            refine zv_iload_n C 4 dX11_readPart_83 rfl rfl ?_
            refine zv_iload_n C 2 dX11_readPart_84 rfl rfl ?_
            refine zv_eqi (y := (zI (a : Int))) (by rw [ha]) ?_
            refine zv_iload_n C 1 dX11_readPart_85 rfl rfl ?_
            refine zv_iload C 0 dX11_readPart_86 rfl ?_
            refine zv_cvvD (st := []) C (c_X11_addsPart hfl E τ79 8 P.S j (a : Int) ((tV tx n (pAdv tx n P).q) : Int) (((tV tx n (pAdv tx n (pAdv tx n P)).q) : Int)) (mPS_W (P := (pAdv tx n (pAdv tx n (pAdv tx n P)))) hA3) hj hroom.1) mX11_addsPart kX11_204 (by decide : kd 327 = 10) rfl rfl rfl ⟨rfl, rfl⟩ (show zfit (zrm 2 42) 6 (zrm 7 141) = true from rfl) (Nat.le_of_ble_eq_true rfl) dX11_readPart_88 ⟨Nat.zero_le _, Nat.zero_le _⟩ ?_
            refine zv_iconst (v := zI 1) C dX11_readPart_91 rfl ?_
            exact zv_iret C hr rfl dX11_readPart_92 (by rw [hp]; exact mR_o (mF_P (mF_t (mF_t hA1f hA2f) hA3f) _ _ _ _ _) (mPS_apd (P := (pAdv tx n (pAdv tx n (pAdv tx n P)))) (a := a) (b := (tV tx n (pAdv tx n P).q)) (d := (tV tx n (pAdv tx n (pAdv tx n P)).q)) hA3 hj hroom.1 (by omega) (by omega) (by omega)))
          · skip
            have hp : pPart tx n j P = (pNum tx n (pAdv tx n (pAdv tx n P)).q 8 100, (pAdv tx n (pAdv tx n P))) := by unfold pPart; rw [if_neg (by omega), if_neg (fun z => z hroom), if_neg (fun z => z h37), if_neg hk2, if_pos h67]
            refine zv_iconst (v := zI 0) C dX11_readPart_70 rfl ?_
            exact zv_iret C hr rfl dX11_readPart_71 (by rw [hp]; exact mR_f (P := (pAdv tx n (pAdv tx n P))) h67 (mF_t hA1f hA2f))
      · skip
        have hp : pPart tx n j P = (pNum tx n (pAdv tx n P).q 8 100, (pAdv tx n P)) := by unfold pPart; rw [if_neg (by omega), if_neg (fun z => z hroom), if_pos h37]
        refine zv_iconst (v := zI 0) C dX11_readPart_40 rfl ?_
        exact zv_iret C hr rfl dX11_readPart_41 (by rw [hp]; exact mR_f (P := (pAdv tx n P)) h37 hA1f)
  · skip
    have hp : pPart tx n j P = (1, P) := if_pos (by omega)
    refine zv_aload_n C 1 dX11_readPart_10 rfl rfl ?_
    refine zv_iconst (v := zI 1) C dX11_readPart_11 rfl ?_
    refine zv_cviD (st := []) C (c_X11_failsAt hfl E σ tx n P 1 hP (by decide)) mX11_failsAt kX11_122 (by decide : kd 327 = 10) rfl rfl rfl ⟨rfl, rfl⟩ (show zfit (zrm 0 0) 2 (zrm 7 141) = true from rfl) (Nat.le_of_ble_eq_true rfl) dX11_readPart_12 ⟨Nat.zero_le _, Nat.zero_le _⟩ ?_
    exact zv_iret C hr rfl dX11_readPart_15 (by rw [hp]; exact mR_f (P := P) (by decide) (mF_r σ))
theorem pKn_0 {tx : Nat → Int} {n : Nat} {P : zPs} (h : pKn tx n P = 0) : tNm tx n P.q ∧ pNam tx n P.q = 0 ∧ 0 ≤ pO P.U.nm (tP tx n P.q) P.U.nb := by
  unfold pKn at h
  split at h
  · cases h
  · rename_i g
    have g0 := Decidable.not_not.mp g
    split at h
    · cases h
    · refine ⟨?_, g0, by omega⟩
      unfold pNam at g0
      split at g0
      · assumption
      · cases g0
theorem pKn_n {tx : Nat → Int} {n : Nat} {P : zPs} (h : pKn tx n P ≠ 0) : (pNam tx n P.q ≠ 0 ∧ pKn tx n P = 1) ∨ (pNam tx n P.q = 0 ∧ pO P.U.nm (tP tx n P.q) P.U.nb < 0 ∧ pKn tx n P = 3) := by
  unfold pKn at h ⊢
  split
  · rename_i g; exact Or.inl ⟨g, rfl⟩
  · rename_i g
    rw [if_neg g] at h
    split
    · rename_i g2; exact Or.inr ⟨Decidable.not_not.mp g, g2, rfl⟩
    · rename_i g2; rw [if_neg g2] at h; exact absurd rfl h
/-- what is left of a train's parts -/
def trI (tx : Nat → Int) (n j : Nat) (P Y : zPs) (i : Nat) : Prop := pTrain tx n P = pPts tx n j (5 - i) (decide (i = 0)) Y ∧ i ≤ Y.S.tn j ∧ (i ≠ 0 → tK tx n Y.q ≠ 3)
theorem trI_b {tx : Nat → Int} {n j : Nat} {P Y : zPs} {i : Nat} (h : trI tx n j P Y i) (hn : Y.S.tn j ≤ 4) (hp : ¬ (pPart tx n j Y).1 = 0) : smi tx n (pTrain tx n P) = ((pPart tx n j Y).1, (pPart tx n j Y).2) := by
  obtain ⟨h1, h2, h3⟩ := h
  obtain ⟨m, hm⟩ : ∃ m, 5 - i = m + 1 := ⟨4 - i, by omega⟩
  rw [hm] at h1
  by_cases c : decide (i = 0) = true ∨ ¬ pKd tx n Y.q < 0
  · rw [pPts_b c hp] at h1
    rw [h1]
    exact if_pos hp
  · have hi : decide (i = 0) = false := by
      rcases Bool.eq_false_or_eq_true (decide (i = 0)) with q | q
      · exact absurd (Or.inl q) c
      · exact q
    have hk : pKd tx n Y.q < 0 := by
      rcases Int.lt_or_le (pKd tx n Y.q) 0 with q | q
      · exact q
      · exact absurd (Or.inr (by omega)) c
    rw [hi, pPts_a hk] at h1
    have h4 := h3 (of_decide_eq_false hi)
    have e : (pPart tx n j Y) = (1, Y) := if_pos hk
    rw [h1, e]
    show pSemi tx n Y = (1, Y)
    exact if_neg (fun z => h4 ((tC_b tx n Y.q).2.2.2.2.mp z))
theorem trI_c {tx : Nat → Int} {n j : Nat} {P Y : zPs} {i : Nat} (h : trI tx n j P Y i) (hp : (pPart tx n j Y).1 = 0) : pTrain tx n P = pPts tx n j (5 - (i + 1)) false (pPart tx n j Y).2 ∧ i + 1 ≤ (pPart tx n j Y).2.S.tn j ∧ i + 1 ≤ 4 := by
  obtain ⟨h1, h2, h3⟩ := h
  have hn := pPart_n hp
  obtain ⟨m, hm⟩ : ∃ m, 5 - i = m + 1 := ⟨4 - i, by omega⟩
  rw [hm] at h1
  have c : decide (i = 0) = true ∨ ¬ pKd tx n Y.q < 0 := by
    right
    intro z
    have e : (pPart tx n j Y) = (1, Y) := if_pos z
    rw [e] at hp
    cases hp
  rw [pPts_c c hp] at h1
  exact ⟨by rw [show 5 - (i + 1) = m by omega]; exact h1, by omega, by omega⟩
theorem trI_e {tx : Nat → Int} {n j : Nat} {P Z : zPs} {i : Nat} (h : pTrain tx n P = pPts tx n j (5 - (i + 1)) false Z) (hi : i + 1 ≤ 4) (hk : tK tx n Z.q = 3) : pTrain tx n P = (0, Z) := by
  obtain ⟨m, hm⟩ : ∃ m, 5 - (i + 1) = m + 1 := ⟨3 - i, by omega⟩
  rw [hm, pPts_a (by rw [pKd_k (by omega)]; omega)] at h
  exact h
set_option maxRecDepth 20000 in
theorem c_X11_readTrain {l : Launch} (hfl : l.stackTraces = false) (E : zE) (σ : zS) (tx : Nat → Int) (n : Nat) (P : zPs) (hP : mPS σ tx n P) : zRi l E yX11_readTrain cX11_readTrain 2 .boolean (zrm 8 170) [.ref (ob E 327)] σ (fun r τ => mSt σ τ tx n r (pTrain tx n P)) := by
  refine Met.ofW (cc := cX11_readTrain) (maxL := 2) (ret := (some .boolean)) (by decide +kernel) rfl ?_
  intro p e s m args below meth c s₁ B hml hv
  obtain ⟨rfl, hd⟩ := hv
  have C := zX_of (own := RX11) hfl B hml rfl hd rfl
  have hr := B.returns
  refine zV_go hd (Nat.le_of_ble_eq_true rfl) (lv := [(0, .ref (ob E 327))]) rfl ?_
  have hpo := pO_in P.U.nm (tP tx n (pAdv tx n P).q) P.U.nb
  have hnb : P.U.nb ≤ 8 := (mPS_b hP).1
  obtain ⟨z9, hz9⟩ : ∃ z : Int, z = if pKn tx n (pAdv tx n P) = 0 then pO P.U.nm (tP tx n (pAdv tx n P).q) P.U.nb else -1 := ⟨_, rfl⟩
  have hz9b : -1 ≤ z9 ∧ z9 < 8 := by
    rw [hz9]
    split <;> omega
  refine zv_aload_n C 0 dX11_readTrain_0 rfl rfl ?_
  refine zv_cvv (st := []) C (c_X11_advanceToken hfl E σ tx n (tE tx n P.q) hP.1 hP.2.1.1 (tE_n hP.2.2.1).2.1) mX11_advanceToken kX11_119 (by decide : kd 327 = 10) rfl rfl rfl ⟨rfl, rfl⟩ (show zfit (zrm 1 25) 2 (zrm 8 170) = true from rfl) (Nat.le_of_ble_eq_true rfl) dX11_readTrain_1 ⟨Nat.zero_le _, Nat.zero_le _⟩ (fun τ1 hp1 => ?_)
  have hA1 : mPS τ1 tx n (pAdv tx n P) := mPS_A hP hp1.2 hp1.1
  have hA1f := mF_A hp1.2
  refine zv_aload_n C 0 dX11_readTrain_4 rfl rfl ?_
  refine zv_cviD (st := []) C (c_X11_seesKnown hfl E τ1 tx n (pAdv tx n P) hA1) mX11_seesKnown kX11_182 (by decide : kd 327 = 10) rfl rfl rfl ⟨rfl, rfl⟩ (show zfit (zrm 7 148) 3 (zrm 8 170) = true from rfl) (Nat.le_of_ble_eq_true rfl) dX11_readTrain_5 ⟨Nat.zero_le _, Nat.zero_le _⟩ ?_
  refine zv_eqi (y := (zI z9)) (by rw [hz9]; rfl) ?_
  refine zv_istore_n (lv' := [(1, .int (zI z9)), (0, .ref (ob E 327))]) C dX11_readTrain_8 rfl (by decide) rfl ?_
  refine zv_iload_n C 0 dX11_readTrain_9 rfl rfl ?_
  refine zv_iconst (v := zI (-1)) C dX11_readTrain_10 rfl ?_
  refine zv_icmp_neZ (tgt := 16) C (by omega) (by omega) dX11_readTrain_11 (by decide) (fun h11 => ?_) (fun h11 => ?_)
  · skip
    have hK0 : pKn tx n (pAdv tx n P) = 0 := by
      rcases Nat.eq_zero_or_pos (pKn tx n (pAdv tx n P)) with q | q
      · exact q
      · rw [if_neg (by omega)] at hz9; omega
    obtain ⟨hNm, hNam, hpo0⟩ := pKn_0 hK0
    have hpo0 : 0 ≤ pO P.U.nm (tP tx n (pAdv tx n P).q) P.U.nb := hpo0
    rw [if_pos hK0] at hz9
    obtain ⟨j, hj9⟩ : ∃ j : Nat, z9 = (j : Int) := ⟨z9.toNat, by omega⟩
    have hj8 : j < 8 := by omega
    have hpj : (pO P.U.nm (tP tx n (pAdv tx n P).q) P.U.nb).toNat = j := by omega
    have ht4 := ((mPS_b hP).2.2.2.1 j hj8).1
    refine zv_eqS (τ := τ1) (by rw [hK0, mfC_0]) ?_
    refine zv_aload_n C 1 dX11_readTrain_16 rfl rfl ?_
    refine zv_iload_n C 0 dX11_readTrain_17 rfl rfl ?_
    refine zv_eqi (y := (zI (j : Int))) (by rw [hj9]) ?_
    refine zv_cviD (st := []) C (c_X11_parts hfl E τ1 8 P.S j (mPS_W (P := (pAdv tx n P)) hA1) hj8) mX11_parts kX11_188 (by decide : kd 327 = 10) rfl rfl rfl ⟨rfl, rfl⟩ (show zfit (zrm 1 21) 2 (zrm 8 170) = true from rfl) (Nat.le_of_ble_eq_true rfl) dX11_readTrain_18 ⟨Nat.zero_le _, Nat.zero_le _⟩ ?_
    refine zv_if_leZ (tgt := 30) C (by omega) dX11_readTrain_21 (by decide) (fun h21 => ?_) (fun h21 => ?_)
    · skip
      have hX0 : pTrain tx n P = pPts tx n j 5 true (pAdv tx n (pAdv tx n P)) := by rw [pTrain, if_neg (fun z => z hNam), if_neg (by omega), hpj, if_neg (by omega)]
      refine zv_aload_n C 1 dX11_readTrain_30 rfl rfl ?_
      refine zv_cvv (st := []) C (c_X11_advanceToken hfl E τ1 tx n (tE tx n (pAdv tx n P).q) hA1.1 hA1.2.1.1 (tE_n hA1.2.2.1).2.1) mX11_advanceToken kX11_119 (by decide : kd 327 = 10) rfl rfl rfl ⟨rfl, rfl⟩ (show zfit (zrm 1 25) 2 (zrm 8 170) = true from rfl) (Nat.le_of_ble_eq_true rfl) dX11_readTrain_31 ⟨Nat.zero_le _, Nat.zero_le _⟩ (fun τ31 hp31 => ?_)
      have hA2 : mPS τ31 tx n (pAdv tx n (pAdv tx n P)) := mPS_A hA1 hp31.2 hp31.1
      have hA2f := mF_A hp31.2
      refine zv_sub (lv' := [(0, .ref (ob E 327)), (1, .int (zI z9))]) [1, 0] (zcons rfl (zcons rfl rfl)) ?_
      refine zv_eqS (τ := τ31) (rfl) ?_
      refine zv_while (α := Nat × zPs × zS) (fun v => 5 - v.1) (fun v => trI tx n j P v.2.1 v.1 ∧ mPS v.2.2 tx n v.2.1 ∧ mF σ v.2.2) (fun v => v.2.2) (fun v => [(0, .ref (ob E 327)), (1, .int (zI z9))]) (fun v => []) (fun v hI ih => ?_) ((0, pAdv tx n (pAdv tx n P), τ31)) (⟨⟨hX0, Nat.zero_le _, fun z => absurd rfl z⟩, hA2, mF_t hA1f hA2f⟩)
      obtain ⟨i, Y, v9⟩ := v
      dsimp only at hI ih ⊢
      obtain ⟨htr, hY, hYf⟩ := hI
      have hY4 := ((mPS_b hY).2.2.2.1 j hj8).1
      refine zv_aload_n C 0 dX11_readTrain_34 rfl rfl ?_
      refine zv_iload_n C 1 dX11_readTrain_35 rfl rfl ?_
      refine zv_eqi (y := (zI (j : Int))) (by rw [hj9]) ?_
      refine zv_cvi (st := []) C (c_X11_readPart hfl E v9 tx n j Y hY hj8) mX11_readPart kX11_208 (by decide : kd 327 = 10) rfl rfl rfl ⟨rfl, rfl⟩ (show zfit (zrm 7 141) 5 (zrm 8 170) = true from rfl) (Nat.le_of_ble_eq_true rfl) dX11_readTrain_36 ⟨Nat.zero_le _, Nat.zero_le _⟩ (fun r36 τ36 hp36 => ?_)
      refine zv_eqi (y := zB ((pPart tx n j Y).1 = 0)) hp36.1 ?_
      have hkz := tK_b tx n (pPart tx n j Y).2.q
      refine zv_if_neB (tgt := 44) C dX11_readTrain_39 (by decide) (fun h39 => ?_) (fun h39 => ?_)
      · skip
        have hZ := hp36.2.2.1 h39
        have hsd := trI_c htr h39
        refine zv_aload_n C 0 dX11_readTrain_44 rfl rfl ?_
        refine zG10_20 C (by decide : kd 327 = _) kX11_88 dX11_readTrain_45 ?_
        refine zv_eqi (y := (zI (tK tx n (pPart tx n j Y).2.q : Int))) ((mPS_w hZ).2.2) ?_
        refine zv_iconst (v := zI 3) C dX11_readTrain_48 rfl ?_
        refine zv_icmp_neZ (tgt := 34) C (by omega) (by omega) dX11_readTrain_49 (by decide) (fun h49 => ?_) (fun h49 => ?_)
        · skip
          have hk49 : tK tx n (pPart tx n j Y).2.q ≠ 3 := by omega
          refine zv_sub (lv' := [(0, .ref (ob E 327)), (1, .int (zI z9))]) [0, 1] (zcons rfl (zcons rfl rfl)) ?_
          refine zv_eqS (τ := τ36) (rfl) ?_
          exact ih ((i + 1, (pPart tx n j Y).2, τ36)) (⟨⟨by rw [show decide (i + 1 = 0) = false from decide_eq_false (by omega)]; exact hsd.1, hsd.2.1, fun _ => hk49⟩, hZ, mF_t hYf hp36.2.1⟩) (by show 5 - (i + 1) < 5 - i; have := hsd.2.2; omega)
        · skip
          have hX := trI_e hsd.1 hsd.2.2 (by omega)
          refine zv_iconst (v := zI 1) C dX11_readTrain_52 rfl ?_
          exact zv_iret C hr rfl dX11_readTrain_53 (mSt_o (mR_o (mF_t hYf hp36.2.1) hZ) hX)
      · skip
        refine zv_iconst (v := zI 0) C dX11_readTrain_42 rfl ?_
        exact zv_iret C hr rfl dX11_readTrain_43 ⟨_, _, ⟨(zB_f h39).symm, mF_t hYf hp36.2.1, hp36.2.2⟩, Or.inr ⟨h39, trI_b htr hY4 h39⟩⟩
    · skip
      have hX : pTrain tx n P = (4, (pAdv tx n P)) := by rw [pTrain, if_neg (fun z => z hNam), if_neg (by omega), hpj, if_pos (by omega)]
      refine zv_aload_n C 1 dX11_readTrain_24 rfl rfl ?_
      refine zv_iconst (v := zI 4) C dX11_readTrain_25 rfl ?_
      refine zv_cviD (st := []) C (c_X11_failsAt hfl E τ1 tx n (pAdv tx n P) 4 hA1 (by decide)) mX11_failsAt kX11_122 (by decide : kd 327 = 10) rfl rfl rfl ⟨rfl, rfl⟩ (show zfit (zrm 0 0) 2 (zrm 8 170) = true from rfl) (Nat.le_of_ble_eq_true rfl) dX11_readTrain_26 ⟨Nat.zero_le _, Nat.zero_le _⟩ ?_
      exact zv_iret C hr rfl dX11_readTrain_29 (mSt_f (mR_f (P := (pAdv tx n P)) (by decide) hA1f) (by decide) hX)
  · skip
    have hKn : pKn tx n (pAdv tx n P) ≠ 0 := fun z => by
      rw [if_pos z] at hz9
      have := (pKn_0 z).2.2
      have e : ((pAdv tx n P)).U = P.U := rfl
      rw [e] at this
      omega
    have hX : pTrain tx n P = (pKn tx n (pAdv tx n P), (pAdv tx n P)) := by
      rcases pKn_n hKn with ⟨q1, q2⟩ | ⟨q1, q2, q3⟩
      · rw [pTrain, if_pos q1, q2]
      · rw [pTrain, if_neg (fun z => z q1), q3]; exact if_pos q2
    refine zv_iconst (v := zI 0) C dX11_readTrain_14 rfl ?_
    exact zv_iret C hr rfl dX11_readTrain_15 (mSt_f (mR_f (P := (pAdv tx n P)) hKn hA1f) hKn hX)
