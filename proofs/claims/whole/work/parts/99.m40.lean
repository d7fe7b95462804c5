/-! statements, the whole text, in the reference -/
theorem pAdv_q (tx : Nat → Int) (n : Nat) (P : zPs) : P.q ≤ (pAdv tx n P).q := by
  show P.q ≤ tE tx n P.q
  have h1 : P.q ≤ tB tx n P.q := tWi_le _ _ _
  unfold tE
  split
  · split
    · have := tWi_le (kdB tx n (kO (tx (tB tx n P.q)))) 900 (tB tx n P.q + 1)
      omega
    · omega
  · exact h1
theorem pStk_q (tx : Nat → Int) (n : Nat) : ∀ (m : Nat) (b : Bool) (P : zPs), P.q ≤ (pStk tx n m b P).2.q := by
  intro m
  induction m with
  | zero => intro b P; exact Nat.le_refl _
  | succ m ih =>
    intro b P
    simp only [pStk]
    split
    · exact Nat.le_refl _
    · split
      · exact Nat.le_refl _
      · split
        · exact Nat.le_refl _
        · exact Nat.le_trans (pAdv_q tx n (P.sS (P.S.ins (tV tx n P.q)))) (ih _ _)
theorem pStart_q (tx : Nat → Int) (n : Nat) (P : zPs) : P.q ≤ (pStart tx n P).2.q := by
  have h1 := pAdv_q tx n P.so2
  unfold pStart
  split
  · exact Nat.le_refl _
  · split
    · exact Nat.le_trans h1 (pAdv_q tx n _)
    · exact h1
theorem pSlack_q (tx : Nat → Int) (n : Nat) (P : zPs) : P.q ≤ (pSlack tx n P).2.q := by
  have h1 := pAdv_q tx n P.so3
  unfold pSlack
  split
  · exact Nat.le_refl _
  · split
    · exact Nat.le_trans h1 (pAdv_q tx n _)
    · exact h1
theorem pPart_q (tx : Nat → Int) (n j : Nat) (P : zPs) : P.q ≤ (pPart tx n j P).2.q := by
  have h1 := pAdv_q tx n P
  have h2 := pAdv_q tx n (pAdv tx n P)
  unfold pPart
  split
  · exact Nat.le_refl _
  · split
    · exact Nat.le_refl _
    · split
      · exact h1
      · split
        · exact Nat.le_trans h1 h2
        · split
          · exact Nat.le_trans h1 h2
          · exact Nat.le_trans (Nat.le_trans h1 h2) (pAdv_q tx n _)
theorem pPts_q (tx : Nat → Int) (n j : Nat) : ∀ (m : Nat) (b : Bool) (P : zPs), P.q ≤ (pPts tx n j m b P).2.q := by
  intro m
  induction m with
  | zero => intro b P; exact Nat.le_refl _
  | succ m ih =>
    intro b P
    simp only [pPts]
    split
    · exact Nat.le_refl _
    · split
      · exact pPart_q tx n j P
      · exact Nat.le_trans (pPart_q tx n j P) (ih _ _)
theorem pTrain_q (tx : Nat → Int) (n : Nat) (P : zPs) : P.q ≤ (pTrain tx n P).2.q := by
  have h1 := pAdv_q tx n P
  have h2 := pAdv_q tx n (pAdv tx n P)
  unfold pTrain
  split
  · exact h1
  · split
    · exact h1
    · split
      · exact h1
      · exact Nat.le_trans (Nat.le_trans h1 h2) (pPts_q tx n _ _ _ _)
theorem pRt_q (tx : Nat → Int) (n : Nat) (P : zPs) : P.q ≤ (pRt tx n P).q := by
  unfold pRt
  split
  · exact pAdv_q tx n P
  · exact Nat.le_refl _
theorem pOn_q (tx : Nat → Int) (n : Nat) (x : Int64) (pp rn : Nat) (Y : zPs) : Y.q ≤ (pOn tx n x pp rn Y).2.q := by
  have h1 := pAdv_q tx n Y
  unfold pOn
  split
  · exact Nat.le_refl _
  · split
    · exact h1
    · split
      · exact h1
      · exact Nat.le_trans h1 (pAdv_q tx n _)
theorem pBody_q (tx : Nat → Int) (n : Nat) (P : zPs) : P.q ≤ (pBody tx n P).2.q := by
  have h1 := pAdv_q tx n P
  have h2 := pAdv_q tx n (pAdv tx n P)
  have h3 := pAdv_q tx n (pAdv tx n (pAdv tx n P))
  have h4 := pAdv_q tx n (pAdv tx n (pAdv tx n (pAdv tx n P)))
  have h5 := pRt_q tx n (pAdv tx n (pAdv tx n (pAdv tx n (pAdv tx n P))))
  unfold pBody
  split
  · exact Nat.le_refl _
  · split
    · exact h1
    · split
      · exact h1
      · split
        · exact Nat.le_trans h1 h2
        · split
          · exact Nat.le_trans (Nat.le_trans h1 h2) h3
          · exact Nat.le_trans (Nat.le_trans (Nat.le_trans (Nat.le_trans h1 h2) h3) (Nat.le_trans h4 h5)) (pOn_q tx n _ _ _ _)
theorem pStmt_q (tx : Nat → Int) (n : Nat) (P : zPs) : P.q ≤ (pStmt tx n P).2.q := by
  unfold pStmt
  split
  · unfold pStock
    split
    · exact Nat.le_refl _
    · exact Nat.le_trans (pAdv_q tx n P.so1) (pStk_q tx n _ _ _)
  · split
    · exact pStart_q tx n P
    · split
      · exact pSlack_q tx n P
      · split
        · exact pBody_q tx n P
        · split
          · exact pTrain_q tx n P
          · exact Nat.le_refl _
theorem rd_f {tx : Nat → Int} {n m c : Nat} {Y P' : zPs} (hk : tC tx n Y.q ≠ 0) (hc : c ≠ 0) (h : smi tx n (pStmt tx n Y) = (c, P')) : pRead tx n (m + 1) Y = (c, P') := by
  unfold smi at h
  rw [pRead, if_neg hk]
  by_cases q : (pStmt tx n Y).1 ≠ 0
  · rw [if_pos q] at h ⊢
    exact h
  · rw [if_neg q] at h ⊢
    rw [if_pos (by rw [h]; exact hc)]
    exact h
theorem rd_o {tx : Nat → Int} {n m : Nat} {Y P' : zPs} (hk : tC tx n Y.q ≠ 0) (h : pStmt tx n Y = (0, P')) (h3 : tK tx n P'.q = 3) : pRead tx n (m + 1) Y = pRead tx n m (pAdv tx n P') := by
  have e : pSemi tx n P' = (0, pAdv tx n P') := if_pos ((tC_b tx n P'.q).2.2.2.2.mpr h3)
  rw [pRead, if_neg hk, h, if_neg (fun z => z rfl)]
  show (if (pSemi tx n P').1 ≠ 0 then pSemi tx n P' else pRead tx n m (pSemi tx n P').2) = _
  rw [e, if_neg (fun z => z rfl)]
set_option maxRecDepth 20000 in
theorem c_X11_readStatement {l : Launch} (hfl : l.stackTraces = false) (E : zE) (σ : zS) (tx : Nat → Int) (n : Nat) (P : zPs) (hP : mPS σ tx n P) : zRi l E yX11_readStatement cX11_readStatement 1 .boolean (zrm 9 193) [.ref (ob E 327)] σ (fun r τ => mSt σ τ tx n r (pStmt tx n P)) := by
  refine Met.ofW (cc := cX11_readStatement) (maxL := 1) (ret := (some .boolean)) (by decide +kernel) rfl ?_
  intro p e s m args below meth c s₁ B hml hv
  obtain ⟨rfl, hd⟩ := hv
  have C := zX_of (own := RX11) hfl B hml rfl hd rfl
  have hr := B.returns
  refine zV_go hd (Nat.le_of_ble_eq_true rfl) (lv := [(0, .ref (ob E 327))]) rfl ?_
  refine zv_aload_n C 0 dX11_readStatement_0 rfl rfl ?_
  refine zv_ldcStr (i := 0) C (by decide) rfl rfl dX11_readStatement_1 ?_
  refine zv_cviD (st := []) C (c_X11_isWord hfl E σ tx n P 0 hP (by decide)) mX11_isWord kX11_115 (by decide : kd 327 = 10) rfl rfl rfl ⟨rfl, rfl⟩ (show zfit (zrm 4 85) 3 (zrm 9 193) = true from rfl) (Nat.le_of_ble_eq_true rfl) dX11_readStatement_3 ⟨Nat.zero_le _, Nat.zero_le _⟩ ?_
  refine zv_if_eqB (tgt := 14) C dX11_readStatement_6 (by decide) (fun h6 => ?_) (fun h6 => ?_)
  · skip
    refine zv_aload_n C 0 dX11_readStatement_14 rfl rfl ?_
    refine zv_ldcStr (i := 1) C (by decide) rfl rfl dX11_readStatement_15 ?_
    refine zv_cviD (st := []) C (c_X11_isWord hfl E σ tx n P 1 hP (by decide)) mX11_isWord kX11_115 (by decide : kd 327 = 10) rfl rfl rfl ⟨rfl, rfl⟩ (show zfit (zrm 4 85) 3 (zrm 9 193) = true from rfl) (Nat.le_of_ble_eq_true rfl) dX11_readStatement_17 ⟨Nat.zero_le _, Nat.zero_le _⟩ ?_
    refine zv_if_eqB (tgt := 28) C dX11_readStatement_20 (by decide) (fun h20 => ?_) (fun h20 => ?_)
    · skip
      refine zv_aload_n C 0 dX11_readStatement_28 rfl rfl ?_
      refine zv_ldcStr (i := 2) C (by decide) rfl rfl dX11_readStatement_29 ?_
      refine zv_cviD (st := []) C (c_X11_isWord hfl E σ tx n P 2 hP (by decide)) mX11_isWord kX11_115 (by decide : kd 327 = 10) rfl rfl rfl ⟨rfl, rfl⟩ (show zfit (zrm 4 85) 3 (zrm 9 193) = true from rfl) (Nat.le_of_ble_eq_true rfl) dX11_readStatement_31 ⟨Nat.zero_le _, Nat.zero_le _⟩ ?_
      refine zv_if_eqB (tgt := 42) C dX11_readStatement_34 (by decide) (fun h34 => ?_) (fun h34 => ?_)
      · skip
        refine zv_aload_n C 0 dX11_readStatement_42 rfl rfl ?_
        refine zv_ldcStr (i := 3) C (by decide) rfl rfl dX11_readStatement_43 ?_
        refine zv_cviD (st := []) C (c_X11_isWord hfl E σ tx n P 3 hP (by decide)) mX11_isWord kX11_115 (by decide : kd 327 = 10) rfl rfl rfl ⟨rfl, rfl⟩ (show zfit (zrm 4 85) 3 (zrm 9 193) = true from rfl) (Nat.le_of_ble_eq_true rfl) dX11_readStatement_45 ⟨Nat.zero_le _, Nat.zero_le _⟩ ?_
        refine zv_if_eqB (tgt := 56) C dX11_readStatement_48 (by decide) (fun h48 => ?_) (fun h48 => ?_)
        · skip
          refine zv_aload_n C 0 dX11_readStatement_56 rfl rfl ?_
          refine zv_ldcStr (i := 7) C (by decide) rfl rfl dX11_readStatement_57 ?_
          refine zv_cviD (st := []) C (c_X11_isWord hfl E σ tx n P 7 hP (by decide)) mX11_isWord kX11_115 (by decide : kd 327 = 10) rfl rfl rfl ⟨rfl, rfl⟩ (show zfit (zrm 4 85) 3 (zrm 9 193) = true from rfl) (Nat.le_of_ble_eq_true rfl) dX11_readStatement_59 ⟨Nat.zero_le _, Nat.zero_le _⟩ ?_
          refine zv_if_eqB (tgt := 72) C dX11_readStatement_62 (by decide) (fun h62 => ?_) (fun h62 => ?_)
          · skip
            refine zv_aload_n C 0 dX11_readStatement_72 rfl rfl ?_
            refine zv_iconst (v := zI 1) C dX11_readStatement_73 rfl ?_
            refine zv_cviD (st := []) C (c_X11_failsAt hfl E σ tx n P 1 hP (by decide)) mX11_failsAt kX11_122 (by decide : kd 327 = 10) rfl rfl rfl ⟨rfl, rfl⟩ (show zfit (zrm 0 0) 2 (zrm 9 193) = true from rfl) (Nat.le_of_ble_eq_true rfl) dX11_readStatement_74 ⟨Nat.zero_le _, Nat.zero_le _⟩ ?_
            exact zv_iret C hr (by first | rfl | (obtain ⟨c9, P9, hm9, -⟩ := hp66; rw [hm9.1]; exact zB_nar)) dX11_readStatement_77 (mSt_f (mR_f (P := P) (by decide) (mF_r σ)) (by decide) (by unfold pStmt; rw [if_neg h6, if_neg h20, if_neg h34, if_neg h48, if_neg h62]))
          · skip
            refine zv_aload_n C 0 dX11_readStatement_65 rfl rfl ?_
            refine zv_cvi (st := []) C (c_X11_readTrain hfl E σ tx n P hP) mX11_readTrain kX11_223 (by decide : kd 327 = 10) rfl rfl rfl ⟨rfl, rfl⟩ (show zfit (zrm 8 170) 2 (zrm 9 193) = true from rfl) (Nat.le_of_ble_eq_true rfl) dX11_readStatement_66 ⟨Nat.zero_le _, Nat.zero_le _⟩ (fun r66 τ66 hp66 => ?_)
            refine zv_goto (tgt := 77) C dX11_readStatement_69 (by decide) ?_
            exact zv_iret C hr (by first | rfl | (obtain ⟨c9, P9, hm9, -⟩ := hp66; rw [hm9.1]; exact zB_nar)) dX11_readStatement_77 (by rw [show pStmt tx n P = pTrain tx n P by unfold pStmt; rw [if_neg h6, if_neg h20, if_neg h34, if_neg h48, if_pos h62]]; exact hp66)
        · skip
          refine zv_aload_n C 0 dX11_readStatement_51 rfl rfl ?_
          refine zv_cvi (st := []) C (c_X11_readBody hfl E σ tx n P hP) mX11_readBody kX11_220 (by decide : kd 327 = 10) rfl rfl rfl ⟨rfl, rfl⟩ (show zfit (zrm 8 170) 4 (zrm 9 193) = true from rfl) (Nat.le_of_ble_eq_true rfl) dX11_readStatement_52 ⟨Nat.zero_le _, Nat.zero_le _⟩ (fun r52 τ52 hp52 => ?_)
          exact zv_iret C hr (by obtain ⟨c9, P9, hm9, -⟩ := hp52; rw [hm9.1]; exact zB_nar) dX11_readStatement_55 (by rw [show pStmt tx n P = pBody tx n P by unfold pStmt; rw [if_neg h6, if_neg h20, if_neg h34, if_pos h48]]; exact hp52)
      · skip
        refine zv_aload_n C 0 dX11_readStatement_37 rfl rfl ?_
        refine zv_cvi (st := []) C (c_X11_readSlack hfl E σ tx n P hP) mX11_readSlack kX11_217 (by decide : kd 327 = 10) rfl rfl rfl ⟨rfl, rfl⟩ (show zfit (zrm 8 163) 1 (zrm 9 193) = true from rfl) (Nat.le_of_ble_eq_true rfl) dX11_readStatement_38 ⟨Nat.zero_le _, Nat.zero_le _⟩ (fun r38 τ38 hp38 => ?_)
        exact zv_iret C hr (by obtain ⟨c9, P9, hm9, -⟩ := hp38; rw [hm9.1]; exact zB_nar) dX11_readStatement_41 (by rw [show pStmt tx n P = pSlack tx n P by unfold pStmt; rw [if_neg h6, if_neg h20, if_pos h34]]; exact hp38)
    · skip
      refine zv_aload_n C 0 dX11_readStatement_23 rfl rfl ?_
      refine zv_cvi (st := []) C (c_X11_readStart hfl E σ tx n P hP) mX11_readStart kX11_214 (by decide : kd 327 = 10) rfl rfl rfl ⟨rfl, rfl⟩ (show zfit (zrm 8 163) 1 (zrm 9 193) = true from rfl) (Nat.le_of_ble_eq_true rfl) dX11_readStatement_24 ⟨Nat.zero_le _, Nat.zero_le _⟩ (fun r24 τ24 hp24 => ?_)
      exact zv_iret C hr (by obtain ⟨c9, P9, hm9, -⟩ := hp24; rw [hm9.1]; exact zB_nar) dX11_readStatement_27 (by rw [show pStmt tx n P = pStart tx n P by unfold pStmt; rw [if_neg h6, if_pos h20]]; exact hp24)
  · skip
    refine zv_aload_n C 0 dX11_readStatement_9 rfl rfl ?_
    refine zv_cvi (st := []) C (c_X11_readStock hfl E σ tx n P hP) mX11_readStock kX11_211 (by decide : kd 327 = 10) rfl rfl rfl ⟨rfl, rfl⟩ (show zfit (zrm 8 163) 1 (zrm 9 193) = true from rfl) (Nat.le_of_ble_eq_true rfl) dX11_readStatement_10 ⟨Nat.zero_le _, Nat.zero_le _⟩ (fun r10 τ10 hp10 => ?_)
    exact zv_iret C hr (by obtain ⟨c9, P9, hm9, -⟩ := hp10; rw [hm9.1]; exact zB_nar) dX11_readStatement_13 (by rw [show pStmt tx n P = pStock tx n P by unfold pStmt; rw [if_pos h6]]; exact hp10)
set_option maxRecDepth 20000 in
theorem c_X11_readDrive {l : Launch} (hfl : l.stackTraces = false) (E : zE) (σ : zS) (tx : Nat → Int) (n : Nat) (hP : mPS σ tx n P00) : zRi l E yX11_readDrive cX11_readDrive 1 .boolean (zrm 10 213) [.ref (ob E 327)] σ (fun r τ => mR σ τ tx n r (pText tx n).1 (pText tx n).2) := by
  refine Met.ofW (cc := cX11_readDrive) (maxL := 1) (ret := (some .boolean)) (by decide +kernel) rfl ?_
  intro p e s m args below meth c s₁ B hml hv
  obtain ⟨rfl, hd⟩ := hv
  have C := zX_of (own := RX11) hfl B hml rfl hd rfl
  have hr := B.returns
  refine zV_go hd (Nat.le_of_ble_eq_true rfl) (lv := [(0, .ref (ob E 327))]) rfl ?_
  have hn9 := hP.1.2.1
  refine zv_sub (lv' := [(0, .ref (ob E 327))]) [0] (zcons rfl rfl) ?_
  refine zv_eqS (τ := σ) (rfl) ?_
  refine zv_while (α := Nat × zPs × zS) (fun v => 901 - v.1) (fun v => pText tx n = pRead tx n (900 - v.1) v.2.1 ∧ v.1 ≤ (v.2.1).q ∧ mPS v.2.2 tx n v.2.1 ∧ mF σ v.2.2) (fun v => v.2.2) (fun v => [(0, .ref (ob E 327))]) (fun v => []) (fun v hI ih => ?_) ((0, P00, σ)) (⟨rfl, Nat.zero_le _, hP, mF_r σ⟩)
  obtain ⟨i, Y, v9⟩ := v
  dsimp only at hI ih ⊢
  obtain ⟨hE, hiq, hY, hYf⟩ := hI
  have hkq := tK_b tx n Y.q
  have hqn := hY.2.2.1
  have hcq := (tC_b tx n Y.q).2.1
  refine zv_aload_n C 0 dX11_readDrive_0 rfl rfl ?_
  refine zG10_20 C (by decide : kd 327 = _) kX11_88 dX11_readDrive_1 ?_
  refine zv_eqi (y := (zI (tK tx n Y.q : Int))) ((mPS_w hY).2.2) ?_
  refine zv_if_eqZ (tgt := 37) C (by omega) dX11_readDrive_4 (by decide) (fun h4 => ?_) (fun h4 => ?_)
  · skip
    have hpt : pText tx n = (0, Y) := by
      rw [hE]
      rcases Nat.eq_zero_or_pos (900 - i) with g | g
      · rw [g]; rfl
      · obtain ⟨m, hm⟩ : ∃ m, 900 - i = m + 1 := ⟨899 - i, by omega⟩
        rw [hm, pRead, if_pos (by omega)]
    refine zv_iconst (v := zI 1) C dX11_readDrive_37 rfl ?_
    exact zv_iret C hr rfl dX11_readDrive_38 (by rw [hpt]; exact mR_o hYf hY)
  · skip
    have htb : tB tx n Y.q < n := by
      rcases Nat.lt_or_ge (tB tx n Y.q) n with g | g
      · exact g
      · have hk0 : tK tx n Y.q = 0 := by
          unfold tK
          rw [if_neg (by omega)]
        omega
    have hqb := (tB_n (tx := tx) hqn).1
    obtain ⟨m, hm⟩ : ∃ m, 900 - i = m + 1 := ⟨899 - i, by omega⟩
    rw [hm] at hE
    have hc0 : tC tx n Y.q ≠ 0 := by omega
    refine zv_aload_n C 0 dX11_readDrive_7 rfl rfl ?_
    refine zv_cvi (st := []) C (c_X11_readStatement hfl E v9 tx n Y hY) mX11_readStatement kX11_226 (by decide : kd 327 = 10) rfl rfl rfl ⟨rfl, rfl⟩ (show zfit (zrm 9 193) 1 (zrm 10 213) = true from rfl) (Nat.le_of_ble_eq_true rfl) dX11_readDrive_8 ⟨Nat.zero_le _, Nat.zero_le _⟩ (fun r8 τ8 hp8 => ?_)
    obtain ⟨c8, P8, hm8, ho8⟩ := hp8
    refine zv_eqi (y := zB (c8 = 0)) hm8.1 ?_
    refine zv_if_neB (tgt := 16) C dX11_readDrive_11 (by decide) (fun h11 => ?_) (fun h11 => ?_)
    · skip
      have hX8 : pStmt tx n Y = (0, P8) := by
        rcases ho8 with ⟨-, g⟩ | ⟨g, -⟩
        · exact g
        · exact absurd h11 g
      have hY8 := hm8.2.2.1 h11
      have hkz := tK_b tx n P8.q
      have hq8 : Y.q ≤ P8.q := by
        have := pStmt_q tx n Y
        rw [hX8] at this
        exact this
      refine zv_aload_n C 0 dX11_readDrive_16 rfl rfl ?_
      refine zG10_20 C (by decide : kd 327 = _) kX11_88 dX11_readDrive_17 ?_
      refine zv_eqi (y := (zI (tK tx n P8.q : Int))) ((mPS_w hY8).2.2) ?_
      refine zv_iconst (v := zI 3) C dX11_readDrive_20 rfl ?_
      refine zv_icmp_eqZ (tgt := 30) C (by omega) (by omega) dX11_readDrive_21 (by decide) (fun h21 => ?_) (fun h21 => ?_)
      · skip
        have hE9 : pText tx n = pRead tx n (900 - (i + 1)) (pAdv tx n P8) := by
          rw [hE, rd_o hc0 hX8 (by omega), show 900 - (i + 1) = m by omega]
        have hb8 := (tB_n (tx := tx) hY8.2.2.1).1
        have he8 := (tE_n (tx := tx) hY8.2.2.1).2.2 (by omega)
        refine zv_aload_n C 0 dX11_readDrive_30 rfl rfl ?_
        refine zv_cvv (st := []) C (c_X11_advanceToken hfl E τ8 tx n (tE tx n P8.q) hY8.1 hY8.2.1.1 (tE_n hY8.2.2.1).2.1) mX11_advanceToken kX11_119 (by decide : kd 327 = 10) rfl rfl rfl ⟨rfl, rfl⟩ (show zfit (zrm 1 25) 2 (zrm 10 213) = true from rfl) (Nat.le_of_ble_eq_true rfl) dX11_readDrive_31 ⟨Nat.zero_le _, Nat.zero_le _⟩ (fun τ31 hp31 => ?_)
        have hZ : mPS τ31 tx n (pAdv tx n P8) := mPS_A hY8 hp31.2 hp31.1
        have hZf := mF_A hp31.2
        refine zv_goto (tgt := 0) C dX11_readDrive_34 (by decide) ?_
        refine zv_sub (lv' := [(0, .ref (ob E 327))]) [0] (zcons rfl rfl) ?_
        refine zv_eqS (τ := τ31) (rfl) ?_
        exact ih ((i + 1, pAdv tx n P8, τ31)) (⟨hE9, by show i + 1 ≤ tE tx n P8.q; omega, hZ, mF_t hYf (mF_t hm8.2.1 hZf)⟩) (by show 901 - (i + 1) < 901 - i; omega)
      · skip
        have hpt : pText tx n = (1, P8) := by
          rw [hE]
          refine rd_f hc0 (by decide) ?_
          rw [hX8]
          show pSemi tx n P8 = (1, P8)
          exact if_neg (fun z => by have := (tC_b tx n P8.q).2.2.2.2.mp z; omega)
        refine zv_aload_n C 0 dX11_readDrive_24 rfl rfl ?_
        refine zv_iconst (v := zI 1) C dX11_readDrive_25 rfl ?_
        refine zv_cviD (st := []) C (c_X11_failsAt hfl E τ8 tx n P8 1 hY8 (by decide)) mX11_failsAt kX11_122 (by decide : kd 327 = 10) rfl rfl rfl ⟨rfl, rfl⟩ (show zfit (zrm 0 0) 2 (zrm 10 213) = true from rfl) (Nat.le_of_ble_eq_true rfl) dX11_readDrive_26 ⟨Nat.zero_le _, Nat.zero_le _⟩ ?_
        exact zv_iret C hr rfl dX11_readDrive_29 (by rw [hpt]; exact mR_f (P := P8) (by decide) (mF_t hYf hm8.2.1))
    · skip
      have hpt : pText tx n = (c8, P8) := by
        rw [hE]
        rcases ho8 with ⟨g, -⟩ | ⟨g, g2⟩
        · exact absurd g h11
        · exact rd_f hc0 g g2
      refine zv_iconst (v := zI 0) C dX11_readDrive_14 rfl ?_
      exact zv_iret C hr rfl dX11_readDrive_15 (by rw [hpt]; exact ⟨(zB_f h11).symm, mF_t hYf hm8.2.1, hm8.2.2⟩)
