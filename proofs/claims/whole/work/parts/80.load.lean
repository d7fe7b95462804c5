/-! what the parser's drives keep: no lags, day 0; names of 1 to 8 letters -/
def zUq (U : zSU) : Prop := ∀ j, j < U.nb → ∃ (tx : Nat → Int) (b m : Nat), (1 ≤ m ∧ m ≤ 8) ∧ (∀ i, i < m → 97 ≤ tx (b + i) ∧ tx (b + i) ≤ 122) ∧ U.nm j = zL (pk tx b m : Int)
def zPg (P : zPs) : Prop := zSTq P.S ∧ zUq P.U
theorem zPg_S {P : zPs} {S : zST} (h : zPg P) (h1 : S.dy = P.S.dy) (h2 : S.lg = P.S.lg) : zPg (P.sS S) := ⟨zSTq_e h.1 h1 h2, h.2⟩
theorem zPg_adv {tx : Nat → Int} {n : Nat} {P : zPs} (h : zPg P) : zPg (pAdv tx n P) := h
theorem zPg_start {tx : Nat → Int} {n : Nat} {P : zPs} (h : zPg P) : zPg (pStart tx n P).2 := by
  unfold pStart
  split
  · exact h
  · split <;> exact h
theorem zPg_slack {tx : Nat → Int} {n : Nat} {P : zPs} (h : zPg P) : zPg (pSlack tx n P).2 := by
  unfold pSlack
  split
  · exact h
  · split
    · exact ⟨zSTq_e h.1 rfl rfl, h.2⟩
    · exact h
theorem zPg_stk {tx : Nat → Int} {n : Nat} : ∀ (m : Nat) (b : Bool) (P : zPs), zPg P → zPg (pStk tx n m b P).2 := by
  intro m
  induction m with
  | zero => intro b P h; exact h
  | succ m ih =>
    intro b P h
    simp only [pStk]
    split
    · exact h
    · split
      · exact h
      · split
        · exact h
        · exact ih _ _ ⟨zSTq_e h.1 rfl rfl, h.2⟩
theorem zPg_part {tx : Nat → Int} {n j : Nat} {P : zPs} (h : zPg P) : zPg (pPart tx n j P).2 := by
  unfold pPart
  split
  · exact h
  · split
    · exact h
    · split
      · exact h
      · split
        · exact ⟨zSTq_e h.1 rfl rfl, h.2⟩
        · split
          · exact h
          · exact ⟨zSTq_e h.1 rfl rfl, h.2⟩
theorem zPg_pts {tx : Nat → Int} {n j : Nat} : ∀ (m : Nat) (b : Bool) (P : zPs), zPg P → zPg (pPts tx n j m b P).2 := by
  intro m
  induction m with
  | zero => intro b P h; exact h
  | succ m ih =>
    intro b P h
    simp only [pPts]
    split
    · exact h
    · split
      · exact zPg_part h
      · exact ih _ _ (zPg_part h)
theorem zPg_train {tx : Nat → Int} {n : Nat} {P : zPs} (h : zPg P) : zPg (pTrain tx n P).2 := by
  unfold pTrain
  split
  · exact h
  · split
    · exact h
    · split
      · exact h
      · exact zPg_pts _ _ _ h
theorem zUq_tak {tx : Nat → Int} {n q pp rn : Nat} {c0 : Int} {U : zSU} (h : zUq U) (hn : tNm tx n q) : zUq (U.tak (tP tx n q) pp rn c0) := by
  intro j hj
  have hj' : j < U.nb + 1 := hj
  show ∃ (tx' : Nat → Int) (b m : Nat), (1 ≤ m ∧ m ≤ 8) ∧ (∀ i, i < m → 97 ≤ tx' (b + i) ∧ tx' (b + i) ≤ 122) ∧ (if j = U.nb then tP tx n q else U.nm j) = zL (pk tx' b m : Int)
  by_cases e : j = U.nb
  · rw [if_pos e]
    obtain ⟨h1, h2, h3⟩ := tK_1 hn.1
    exact ⟨tx, tB tx n q, tL tx n q, ⟨h2, hn.2.1⟩, h3, rfl⟩
  · rw [if_neg e]
    exact h j (by omega)
theorem zPg_on {tx : Nat → Int} {n q pp rn : Nat} {Y : zPs} (h : zPg Y) (hn : tNm tx n q) : zPg (pOn tx n (tP tx n q) pp rn Y).2 := by
  unfold pOn
  split
  · exact ⟨h.1, zUq_tak h.2 hn⟩
  · split
    · exact h
    · split
      · exact h
      · exact ⟨h.1, zUq_tak h.2 hn⟩
theorem zPg_rt {tx : Nat → Int} {n : Nat} {P : zPs} (h : zPg P) : zPg (pRt tx n P) := by
  unfold pRt
  split <;> exact h
theorem zPg_body {tx : Nat → Int} {n : Nat} {P : zPs} (h : zPg P) : zPg (pBody tx n P).2 := by
  unfold pBody
  split
  · exact h
  · split
    · exact h
    · rename_i hn
      split
      · exact h
      · split
        · exact h
        · split
          · exact h
          · exact zPg_on (zPg_rt h) (pNam_0 (Decidable.not_not.mp hn))
theorem zPg_stmt {tx : Nat → Int} {n : Nat} {P : zPs} (h : zPg P) : zPg (pStmt tx n P).2 := by
  unfold pStmt
  split
  · unfold pStock
    split
    · exact h
    · exact zPg_stk _ _ _ h
  · split
    · exact zPg_start h
    · split
      · exact zPg_slack h
      · split
        · exact zPg_body h
        · split
          · exact zPg_train h
          · exact h
theorem zPg_semi {tx : Nat → Int} {n : Nat} {P : zPs} (h : zPg P) : zPg (pSemi tx n P).2 := by
  unfold pSemi
  split <;> exact h
theorem zPg_read {tx : Nat → Int} {n : Nat} : ∀ (m : Nat) (P : zPs), zPg P → zPg (pRead tx n m P).2 := by
  intro m
  induction m with
  | zero => intro P h; exact h
  | succ m ih =>
    intro P h
    simp only [pRead]
    split
    · exact h
    · split
      · exact zPg_stmt h
      · split
        · exact zPg_semi (zPg_stmt h)
        · exact ih _ (zPg_semi (zPg_stmt h))
theorem zPg_text (tx : Nat → Int) (n : Nat) : zPg (pText tx n).2 :=
  zPg_read _ _ ⟨⟨by show 0 ≤ 400000; omega, fun i _ => by show (0 : Int) ≤ 0 ∧ (0 : Int) ≤ 10000000; omega⟩, fun j hj => absurd hj (by show ¬ j < 0; omega)⟩
theorem zUq_N {U : zSU} (h : zUq U) : zNq U := by
  intro j hj
  obtain ⟨tx, b, m, ⟨h1, h2⟩, h3, h4⟩ := h j hj
  have hb := pk_b h3 m (Nat.le_refl _)
  have hpw : 256 ^ (m - 1) ≤ 256 ^ 7 := Nat.pow_le_pow_right (by decide) (by omega)
  rw [h4, zL_toInt (by omega)]
  omega
theorem zSUp_cp {σ : zS} {U : zSU} (h : zSUp σ 4 U) : zSUp (cpU σ 29 4) 29 U := by
  obtain ⟨h1, h2, h3, h4, h5⟩ := h
  have eI : ∀ r j, (r = 0 ∧ j ≤ 1) ∨ (2 ≤ r ∧ r ≤ 4 ∧ j < 8) → gI (cpU σ 29 4) (29 + r) j = gI σ (4 + r) j := by
    intro r j hr
    unfold cpU
    rcases (show (r = 0 ∧ j = 0) ∨ (r = 0 ∧ j = 1) ∨ (r = 2 ∧ j < 8) ∨ (r = 3 ∧ j < 8) ∨ (r = 4 ∧ j < 8) by omega) with ⟨rfl, rfl⟩ | ⟨rfl, rfl⟩ | ⟨rfl, hj⟩ | ⟨rfl, hj⟩ | ⟨rfl, hj⟩ <;> simp only [gI_cpI, gI_cpJ, gI_sI] <;> simp [*]
  have eJ : ∀ j, j < 8 → gJ (cpU σ 29 4) 30 j = gJ σ 5 j := by
    intro j hj
    unfold cpU
    simp only [gJ_cpI, gJ_cpJ, gJ_sI]
    simp [hj]
  refine ⟨(eI 0 0 (by omega)).trans h1, (eI 0 1 (by omega)).trans h2, h3, h4, fun i hi => ?_⟩
  obtain ⟨a1, a2, a3, a4, a5⟩ := h5 i hi
  exact ⟨(eJ i (by omega)).trans a1, (eI 2 i (by omega)).trans a2, (eI 3 i (by omega)).trans a3, (eI 4 i (by omega)).trans a4, a5⟩
theorem gI_cpU_o (σ : zS) (x j : Nat) (h : x < 29 ∨ 34 ≤ x) : gI (cpU σ 29 4) x j = gI σ x j := by
  unfold cpU
  simp only [gI_cpI, gI_cpJ, gI_sI]
  rw [if_neg (by omega), if_neg (by omega), if_neg (by omega), if_neg (by omega), if_neg (by omega)]
theorem gJ_cpU_o (σ : zS) (x j : Nat) (h : x ≠ 30) : gJ (cpU σ 29 4) x j = gJ σ x j := by
  unfold cpU
  simp only [gJ_cpI, gJ_cpJ, gJ_sI]
  rw [if_neg (by omega)]
/-- behind a good load -/
theorem zCP_load {σ τ : zS} {ni : Nat} {tx : Nat → Int} {ec : Nat} {eo : Int} {U : zSU} {S : zST} {hh : List zST} {kp : Option zST} {ou : List Nat} {P : zPs} (h : zCP σ (zDv.mk ni tx ec eo U S hh kp ou)) (hf : zFr 1 29 σ τ) (hP : zPS τ tx ni P) (h3 : gI τ 1 3 = zI 0) (h4 : gI τ 1 4 = zI (-1)) (hg : zPg P) :
    zCP (sI (sI (cpS (cpU (sI τ 2 1 (zI 0)) 29 4) 34 9 20) 54 2 (zI 0)) 54 4 (zI 0)) (zDv.mk 0 tx 0 (-1) P.U P.S [] none ou) ∧ zFr 0 327 σ (sI (sI (cpS (cpU (sI τ 2 1 (zI 0)) 29 4) 34 9 20) 54 2 (zI 0)) 54 4 (zI 0)) := by
  obtain ⟨σ1, e1⟩ : ∃ z, z = sI τ 2 1 (zI 0) := ⟨_, rfl⟩
  rw [← e1]
  have e : ∀ x j, x < 29 ∨ (55 ≤ x) ∨ (x = 54 ∧ j ≠ 2 ∧ j ≠ 4) → gI (sI (sI (cpS (cpU σ1 29 4) 34 9 20) 54 2 (zI 0)) 54 4 (zI 0)) x j = gI σ1 x j := fun x j q => by
    rw [gI_sI, if_neg (by omega), gI_sI, if_neg (by omega), gI_cpS_o _ _ _ _ _ _ (by omega), gI_cpU_o _ _ _ (by omega)]
  have f : ∀ x j, ¬ (x = 2 ∧ j = 1) → gI σ1 x j = gI τ x j := fun x j q => by rw [e1, gI_sI, if_neg q]
  have hU1 : zSUp σ1 4 P.U := zSUp_w hP.2.2.2.1 (fun x y a b => ⟨f x y (by omega), by rw [e1]; rfl⟩)
  have hS1 : zSTp (cpU σ1 29 4) 9 P.S := zSTp_w hP.2.2.2.2.1 (fun x y a b => by rw [gI_cpU_o _ _ _ (by omega)]; exact f x y (by omega))
  obtain ⟨a1, a2, a3, a4, ⟨q, b1, b2, b3, b4, b5⟩, a6, a7⟩ := h
  refine ⟨⟨⟨by rw [e 2 1 (by omega), e1, gI_sI, if_pos ⟨rfl, rfl⟩]; rfl, by show 0 ≤ 900; omega, fun i hi => absurd hi (by show ¬ i < 0; omega), fun i hi => absurd hi (by show ¬ i < 0; omega)⟩, ⟨by rw [e 1 3 (by omega), f _ _ (by omega)]; exact h3, by rw [e 1 4 (by omega), f _ _ (by omega)]; exact h4⟩,
    zSUp_w (zSUp_cp hU1) (fun x y a b => ⟨by rw [gI_sI, if_neg (by omega), gI_sI, if_neg (by omega), gI_cpS_o _ _ _ _ _ _ (by omega)], rfl⟩), ⟨zSTp_w (zSTp_cp (a := 34) hS1 (by omega)) (fun x y a b => by rw [gI_sI, if_neg (by omega), gI_sI, if_neg (by omega)]), hg.1⟩,
    ⟨q, b1, by rw [e 54 1 (by omega), f _ _ (by omega), hf.1 _ _ (by omega)]; exact b2, by rw [gI_sI, if_neg (by omega), gI_sI, if_pos ⟨rfl, rfl⟩]; rfl, Nat.zero_le _, fun i S' hi => by simp [zDv.mk, zDv.hh] at hi⟩,
    ⟨by rw [gI_sI, if_pos ⟨rfl, rfl⟩]; rfl, fun S' hk => by cases hk⟩, zOu_w a7 (fun x y a b => by rw [e x y (by omega), f _ _ (by omega), hf.1 _ _ (by omega)])⟩, ⟨fun x y q => ?_, fun x y q => ?_, fun x y => ?_⟩⟩
  · rw [e x y (by omega), f _ _ (by omega), hf.1 _ _ (by omega)]
  · show gJ (cpU σ1 29 4) x y = _
    rw [gJ_cpU_o _ _ _ (by omega), e1]
    exact hf.2.1 x y (by omega)
  · show gD σ1 x y = _
    rw [e1]
    exact hf.2.2 x y
theorem zCP_bad {σ τ : zS} {ni : Nat} {tx : Nat → Int} {ec c : Nat} {eo v : Int} {U : zSU} {S : zST} {hh : List zST} {kp : Option zST} {ou : List Nat} (h : zCP σ (zDv.mk ni tx ec eo U S hh kp ou)) (hf : zFr 1 29 σ τ) (h3 : gI τ 1 3 = zI (c : Int)) (h4 : gI τ 1 4 = zI v) :
    zCP (sI τ 2 1 (zI 0)) (zDv.mk 0 tx c v U S hh kp ou) ∧ zFr 0 327 σ (sI τ 2 1 (zI 0)) := by
  have f : ∀ x j, ¬ (x = 2 ∧ j = 1) → gI (sI τ 2 1 (zI 0)) x j = gI τ x j := fun x j q => by rw [gI_sI, if_neg q]
  have g : ∀ x j, 29 ≤ x → gI (sI τ 2 1 (zI 0)) x j = gI σ x j := fun x j q => (f x j (by omega)).trans (hf.1 x j (by omega))
  have gj : ∀ x j, 29 ≤ x → gJ (sI τ 2 1 (zI 0)) x j = gJ σ x j := fun x j q => hf.2.1 x j (by omega)
  obtain ⟨a1, a2, a3, a4, a5, a6, a7⟩ := h
  exact ⟨⟨⟨by rw [gI_sI, if_pos ⟨rfl, rfl⟩]; rfl, by show 0 ≤ 900; omega, fun i hi => absurd hi (by show ¬ i < 0; omega), fun i hi => absurd hi (by show ¬ i < 0; omega)⟩, ⟨(f 1 3 (by omega)).trans h3, (f 1 4 (by omega)).trans h4⟩, zSUp_w a3 (fun x y a b => ⟨g x y (by omega), gj x y (by omega)⟩), ⟨zSTp_w a4.1 (fun x y a b => g x y (by omega)), a4.2⟩,
    zHi_w a5 (fun x y a b => g x y (by omega)), zKq_w a6 (fun x y a b => g x y (by omega)), zOu_w a7 (fun x y a b => g x y (by omega))⟩, ⟨fun x y q => g x y (by omega), fun x y q => gj x y (by omega), fun x y => hf.2.2 x y⟩⟩
set_option maxRecDepth 20000 in
theorem c_X10_loadDrive {l : Launch} (hfl : l.stackTraces = false) (E : zE) (σ : zS) (ni : Nat) (tx : Nat → Int) (ec : Nat) (eo : Int) (U : zSU) (S : zST) (hh : List zST) (kp : Option zST) (ou : List Nat) (h : zCP σ (zDv.mk ni tx ec eo U S hh kp ou)) (hok : (pText tx ni).1 = 0) : zRi l E yX10_loadDrive cX10_loadDrive 2 .int (zrm 6 135) [.ref (ob E 0)] σ (fun r τ => r = zI ((pText tx ni).2.U.nb : Int) ∧ zCP τ (zDv.mk 0 tx 0 (-1) (pText tx ni).2.U (pText tx ni).2.S [] none ou) ∧ zFr 0 327 σ τ) := by
  refine Met.ofW (cc := cX10_loadDrive) (maxL := 2) (ret := (some .int)) (by decide +kernel) rfl ?_
  intro p e s m args below meth c s₁ B hml hv
  obtain ⟨rfl, hd⟩ := hv
  have C := zX_of (own := RX10) hfl B hml rfl hd rfl
  have hr := B.returns
  refine zV_go hd (Nat.le_of_ble_eq_true rfl) (lv := [(0, .ref (ob E 0))]) rfl ?_
  skip
  refine zv_aload_n C 0 dX10_loadDrive_0 rfl rfl ?_
  refine zG9_0 C (by decide : kd 0 = _) kX10_10 dX10_loadDrive_1 ?_
  refine zv_cvi (st := []) C (c_X5_readText hfl E σ tx ni h.1) mX5_readText kX10_92 (by decide : kd 1 = 5) rfl rfl rfl ⟨rfl, rfl⟩ (show zfit (zrm 5 113) 3 (zrm 6 135) = true from rfl) (Nat.le_of_ble_eq_true rfl) dX10_loadDrive_4 ⟨Nat.zero_le _, Nat.zero_le _⟩ (fun r4 τ4 hp4 => ?_)
  obtain ⟨he4, hf4, hg4, hb4⟩ := hp4
  refine zv_eqi (y := zB ((pText tx ni).1 = 0)) he4 ?_
  refine zv_istore_n (lv' := [(1, .int (zB ((pText tx ni).1 = 0))), (0, .ref (ob E 0))]) C dX10_loadDrive_7 rfl (by decide) rfl ?_
  refine zv_aload_n C 1 dX10_loadDrive_8 rfl rfl ?_
  refine zG9_0 C (by decide : kd 0 = _) kX10_10 dX10_loadDrive_9 ?_
  refine zG5_0 C (by decide : kd 1 = _) kX10_78 dX10_loadDrive_12 ?_
  refine zv_iconst (v := zI 0) C dX10_loadDrive_15 rfl ?_
  refine zP7_1 C (by decide : kd 2 = _) kX10_82 dX10_loadDrive_16 ?_
  refine zv_iload_n C 0 dX10_loadDrive_19 rfl rfl ?_
  refine zv_if_neB (tgt := 25) C dX10_loadDrive_20 (by decide) (fun h20 => ?_) (fun h20 => ?_)
  · skip
    obtain ⟨hz1, hz2, hz3⟩ := hg4 hok
    have hld := zCP_load h hf4 hz1 hz2 hz3 (zPg_text tx ni)
    refine zv_aload_n C 1 dX10_loadDrive_25 rfl rfl ?_
    refine zG9_1 C (by decide : kd 0 = _) kX10_19 dX10_loadDrive_26 ?_
    refine zv_aload_n C 1 dX10_loadDrive_29 rfl rfl ?_
    refine zG9_0 C (by decide : kd 0 = _) kX10_10 dX10_loadDrive_30 ?_
    refine zG5_1 C (by decide : kd 1 = _) kX10_96 dX10_loadDrive_33 ?_
    refine zv_cvvD (st := []) C (c_X4_copyFrom hfl E (sI τ4 2 1 (zI 0)) 29 4 (by decide) (by decide) (by decide)) mX4_copyFrom kX10_97 (by decide : kd 29 = 4) rfl rfl rfl ⟨rfl, rfl⟩ (show zfit (zrm 1 60) 2 (zrm 6 135) = true from rfl) (Nat.le_of_ble_eq_true rfl) dX10_loadDrive_36 ⟨Nat.zero_le _, Nat.zero_le _⟩ ?_
    refine zv_aload_n C 1 dX10_loadDrive_39 rfl rfl ?_
    refine zG9_2 C (by decide : kd 0 = _) kX10_26 dX10_loadDrive_40 ?_
    refine zv_aload_n C 1 dX10_loadDrive_43 rfl rfl ?_
    refine zG9_0 C (by decide : kd 0 = _) kX10_10 dX10_loadDrive_44 ?_
    refine zG5_2 C (by decide : kd 1 = _) kX10_101 dX10_loadDrive_47 ?_
    refine zv_cvvD (st := []) C (c_X6_copyFrom hfl E (cpU (sI τ4 2 1 (zI 0)) 29 4) 34 9 (by decide) (by decide) (by decide)) mX6_copyFrom kX10_102 (by decide : kd 34 = 6) rfl rfl rfl ⟨rfl, rfl⟩ (show zfit (zrm 2 81) 3 (zrm 6 135) = true from rfl) (Nat.le_of_ble_eq_true rfl) dX10_loadDrive_50 ⟨Nat.zero_le _, Nat.zero_le _⟩ ?_
    refine zv_aload_n C 1 dX10_loadDrive_53 rfl rfl ?_
    refine zG9_3 C (by decide : kd 0 = _) kX10_33 dX10_loadDrive_54 ?_
    refine zv_cvvD (st := []) C (c_X1_forgetAll hfl E (cpS (cpU (sI τ4 2 1 (zI 0)) 29 4) 34 9 20)) mX1_forgetAll kX10_105 (by decide : kd 54 = 1) rfl rfl rfl ⟨rfl, rfl⟩ (show zfit (zrm 0 0) 1 (zrm 6 135) = true from rfl) (Nat.le_of_ble_eq_true rfl) dX10_loadDrive_57 ⟨Nat.zero_le _, Nat.zero_le _⟩ ?_
    refine zv_aload_n C 1 dX10_loadDrive_60 rfl rfl ?_
    refine zG9_1 C (by decide : kd 0 = _) kX10_19 dX10_loadDrive_61 ?_
    refine zG4_1 C (by decide : kd 29 = _) kX10_108 dX10_loadDrive_64 ?_
    refine zv_eqi (y := (zI ((pText tx ni).2.U.nb : Int))) (hld.1.2.2.1.2.1) ?_
    exact zv_iret C hr rfl dX10_loadDrive_67 ⟨rfl, hld⟩
  · exfalso
    exact h20 hok
set_option maxRecDepth 20000 in
theorem c0_X10_loadDrive {l : Launch} (hfl : l.stackTraces = false) (E : zE) (σ : zS) (ni : Nat) (tx : Nat → Int) (ec : Nat) (eo : Int) (U : zSU) (S : zST) (hh : List zST) (kp : Option zST) (ou : List Nat) (h : zCP σ (zDv.mk ni tx ec eo U S hh kp ou)) (hno : ¬ (pText tx ni).1 = 0) : zRi l E yX10_loadDrive cX10_loadDrive 2 .int (zrm 6 140) [.ref (ob E 0)] σ (fun r τ => r = zI (-1) ∧ zCP τ (zDv.mk 0 tx (pText tx ni).1 (tB tx ni (pText tx ni).2.q : Int) U S hh kp ou) ∧ zFr 0 327 σ τ) := by
  refine Met.ofW (cc := cX10_loadDrive) (maxL := 2) (ret := (some .int)) (by decide +kernel) rfl ?_
  intro p e s m args below meth c s₁ B hml hv
  obtain ⟨rfl, hd⟩ := hv
  have C := zX_of (own := RX10) hfl B hml rfl hd rfl
  have hr := B.returns
  refine zV_go hd (Nat.le_of_ble_eq_true rfl) (lv := [(0, .ref (ob E 0))]) rfl ?_
  skip
  refine zv_aload_n C 0 dX10_loadDrive_0 rfl rfl ?_
  refine zG9_0 C (by decide : kd 0 = _) kX10_10 dX10_loadDrive_1 ?_
  refine zv_cvi (st := []) C (c_X5_readText hfl E σ tx ni h.1) mX5_readText kX10_92 (by decide : kd 1 = 5) rfl rfl rfl ⟨rfl, rfl⟩ (show zfit (zrm 5 113) 3 (zrm 6 140) = true from rfl) (Nat.le_of_ble_eq_true rfl) dX10_loadDrive_4 ⟨Nat.zero_le _, Nat.zero_le _⟩ (fun r4 τ4 hp4 => ?_)
  obtain ⟨he4, hf4, hg4, hb4⟩ := hp4
  refine zv_eqi (y := zB ((pText tx ni).1 = 0)) he4 ?_
  refine zv_istore_n (lv' := [(1, .int (zB ((pText tx ni).1 = 0))), (0, .ref (ob E 0))]) C dX10_loadDrive_7 rfl (by decide) rfl ?_
  refine zv_aload_n C 1 dX10_loadDrive_8 rfl rfl ?_
  refine zG9_0 C (by decide : kd 0 = _) kX10_10 dX10_loadDrive_9 ?_
  refine zG5_0 C (by decide : kd 1 = _) kX10_78 dX10_loadDrive_12 ?_
  refine zv_iconst (v := zI 0) C dX10_loadDrive_15 rfl ?_
  refine zP7_1 C (by decide : kd 2 = _) kX10_82 dX10_loadDrive_16 ?_
  refine zv_iload_n C 0 dX10_loadDrive_19 rfl rfl ?_
  refine zv_if_neB (tgt := 25) C dX10_loadDrive_20 (by decide) (fun h20 => ?_) (fun h20 => ?_)
  · exfalso
    exact hno h20
  · skip
    refine zv_iconst (v := zI (-1)) C dX10_loadDrive_23 rfl ?_
    exact zv_iret C hr rfl dX10_loadDrive_24 ⟨rfl, zCP_bad h hf4 (hb4 hno).1 (hb4 hno).2⟩
