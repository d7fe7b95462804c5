/-! the stock, the start, the slack, in the reference -/
def smi (tx : Nat → Int) (n : Nat) (X : Nat × zPs) : Nat × zPs := if X.1 ≠ 0 then X else pSemi tx n X.2
/-- a statement read: at a fault the same as the class tells, at the latest at the semicolon -/
def mSt (σ τ : zS) (tx : Nat → Int) (n : Nat) (r : Int32) (X : Nat × zPs) : Prop := ∃ c P', mR σ τ tx n r c P' ∧ ((c = 0 ∧ X = (0, P')) ∨ (c ≠ 0 ∧ smi tx n X = (c, P')))
theorem mSt_f {σ τ : zS} {tx : Nat → Int} {n c : Nat} {r : Int32} {P' : zPs} {X : Nat × zPs} (h : mR σ τ tx n r c P') (hc : c ≠ 0) (e : X = (c, P')) : mSt σ τ tx n r X := ⟨c, P', h, Or.inr ⟨hc, by rw [e]; exact if_pos hc⟩⟩
theorem mSt_o {σ τ : zS} {tx : Nat → Int} {n : Nat} {r : Int32} {P' : zPs} {X : Nat × zPs} (h : mR σ τ tx n r 0 P') (e : X = (0, P')) : mSt σ τ tx n r X := ⟨0, P', h, Or.inl ⟨rfl, e⟩⟩
theorem mF_s {σ τ : zS} (h : mF σ τ) (g : τ.2 = τ.2) : mF σ τ := h
theorem mVal {σ : zS} {tx : Nat → Int} {n : Nat} {P : zPs} (h : mPS σ tx n P) (hc : tC tx n P.q = 2) : gI σ 327 19 = zI (tV tx n P.q : Int) := by
  obtain ⟨h1, h2⟩ := (tC_b tx n P.q).2.2.2.1.mp hc
  have := h.2.1.2.2.2 h1
  rw [Nat.min_eq_left h2] at this
  exact this
/-- the row changes alone -/
theorem mPS_S {σ τ : zS} {tx : Nat → Int} {n : Nat} {P : zPs} {S' : zST} (h : mPS σ tx n P) (hW : zRo (gI τ 332) 8 S') (e : ∀ x j, x ≠ 332 → gI τ x j = gI σ x j) (hb : mBd (P.sS S')) : mPS τ tx n (P.sS S') := by
  obtain ⟨h1, h2, h3, ⟨h4, h5, h6, h7, h8⟩, h9, h10⟩ := h
  have eg : ∀ x, x ≠ 332 → gI τ x = gI σ x := fun x q => funext fun j => e x j q
  exact ⟨⟨(e _ _ (by decide)).trans h1.1, h1.2.1, fun i hi => (e _ _ (by decide)).trans (h1.2.2.1 i hi), h1.2.2.2⟩, ⟨(e _ _ (by decide)).trans h2.1, (e _ _ (by decide)).trans h2.2.1, (e _ _ (by decide)).trans h2.2.2.1, fun z => (e _ _ (by decide)).trans (h2.2.2.2 z)⟩, h3,
    ⟨by rw [eg 328 (by decide)]; exact h4, by rw [eg 330 (by decide)]; exact h5, hW, (e _ _ (by decide)).trans h7, hb⟩, (e _ _ (by decide)).trans h9, (e _ _ (by decide)).trans h10⟩
/-- the setup's row changes alone -/
theorem mPS_U {σ τ : zS} {tx : Nat → Int} {n : Nat} {P : zPs} {U' : zSU} (h : mPS σ tx n P) (hB : zRb (gI τ 328) U') (hN : zNm (gI τ 330) U') (e : ∀ x j, x ≠ 328 → x ≠ 330 → gI τ x j = gI σ x j) (hb : mBd (P.sU U')) : mPS τ tx n (P.sU U') := by
  obtain ⟨h1, h2, h3, ⟨h4, h5, h6, h7, h8⟩, h9, h10⟩ := h
  have eg : ∀ x, x ≠ 328 → x ≠ 330 → gI τ x = gI σ x := fun x q r => funext fun j => e x j q r
  exact ⟨⟨(e _ _ (by decide) (by decide)).trans h1.1, h1.2.1, fun i hi => (e _ _ (by decide) (by decide)).trans (h1.2.2.1 i hi), h1.2.2.2⟩, ⟨(e _ _ (by decide) (by decide)).trans h2.1, (e _ _ (by decide) (by decide)).trans h2.2.1, (e _ _ (by decide) (by decide)).trans h2.2.2.1, fun z => (e _ _ (by decide) (by decide)).trans (h2.2.2.2 z)⟩, h3,
    ⟨hB, hN, by rw [eg 332 (by decide) (by decide)]; exact h6, (e _ _ (by decide) (by decide)).trans h7, hb⟩, (e _ _ (by decide) (by decide)).trans h9, (e _ _ (by decide) (by decide)).trans h10⟩
theorem mPS_W {σ : zS} {tx : Nat → Int} {n : Nat} {P : zPs} (h : mPS σ tx n P) : zRo (gI σ 332) 8 P.S := h.2.2.2.1.2.2.1
theorem mPS_b {σ : zS} {tx : Nat → Int} {n : Nat} {P : zPs} (h : mPS σ tx n P) : mBd P := h.2.2.2.1.2.2.2.2
theorem mBd_k {P : zPs} (h : mBd P) : zRk P.S := ⟨h.2.1, fun j hj => (h.2.2.2.1 j hj).1⟩
theorem iSw_2 (σ : zS) (f : Nat → Nat) (n t : Nat) : (iSw σ f n t).2 = σ.2 := rfl
theorem mBd_ins {P : zPs} (h : mBd P) {t : Nat} (hn : P.S.n < 16) (ht : t ≤ 100) : mBd (P.sS (P.S.ins t)) := by
  obtain ⟨h1, h2, h3, h4, h5⟩ := h
  refine ⟨h1, by show P.S.n + 1 ≤ 16; omega, fun i hi => ?_, h4, h5⟩
  have hi2 : i < P.S.n + 1 := hi
  have hle := sIn_le P.S.f t P.S.n
  show (if i < sIn P.S.f t P.S.n then P.S.f i else if i = sIn P.S.f t P.S.n then t else P.S.f (i - 1)) ≤ 100
  split
  · exact h3 i (by omega)
  · split
    · exact ht
    · exact h3 (i - 1) (by omega)
theorem mPS_ins {σ : zS} {tx : Nat → Int} {n : Nat} {P : zPs} {t : Nat} (h : mPS σ tx n P) (hn : P.S.n < 16) (ht : t ≤ 100) : mPS (iSw σ P.S.f P.S.n t) tx n (P.sS (P.S.ins t)) :=
  mPS_S h (zRo_ins (mPS_W h) (mBd_k (mPS_b h)) hn) (fun x j q => iSw_o _ _ _ _ _ _ q) (mBd_ins (mPS_b h) hn ht)
theorem mF_S {σ τ : zS} (e : ∀ x j, x ≠ 332 → gI τ x j = gI σ x j) (e2 : τ.2 = σ.2) : mF σ τ := ⟨fun x j _ _ c _ => e x j c, e2⟩
/-- what is left of the stock, from a number on -/
def stI (tx : Nat → Int) (n : Nat) (P Y : zPs) (i : Nat) : Prop := pStock tx n P = pStk tx n (17 - i) (decide (i = 0)) Y ∧ i ≤ Y.S.n ∧ (i ≠ 0 → tK tx n Y.q = 2)
theorem stI_b {tx : Nat → Int} {n : Nat} {P Y : zPs} {i : Nat} (h : stI tx n P Y i) (hn : Y.S.n ≤ 16) (hp : pNum tx n Y.q 8 100 ≠ 0) : smi tx n (pStock tx n P) = (pNum tx n Y.q 8 100, Y) := by
  obtain ⟨h1, h2, h3⟩ := h
  obtain ⟨m, hm⟩ : ∃ m, 17 - i = m + 1 := ⟨16 - i, by omega⟩
  rw [hm] at h1
  by_cases c : decide (i = 0) = true ∨ tC tx n Y.q = 2
  · rw [pStk_b c hp] at h1
    rw [h1]
    exact if_pos hp
  · have hi : decide (i = 0) = false := by
      rcases Bool.eq_false_or_eq_true (decide (i = 0)) with q | q
      · exact absurd (Or.inl q) c
      · exact q
    rw [hi, pStk_a (fun z => c (Or.inr z))] at h1
    have hk := h3 (of_decide_eq_false hi)
    have hc := (tC_b tx n Y.q).2.2.2
    have h7 : ¬ (tK tx n Y.q = 2 ∧ tL tx n Y.q ≤ 7) := fun z => c (Or.inr (hc.1.mpr z))
    rw [h1, pNum_n h7]
    show pSemi tx n Y = (1, Y)
    exact if_neg (fun z => by have := hc.2.mp z; omega)
theorem stI_c {tx : Nat → Int} {n : Nat} {P Y : zPs} {i : Nat} (h : stI tx n P Y i) (hn : Y.S.n ≤ 16) (hp : pNum tx n Y.q 8 100 = 0) (h3 : ¬ (Y.S.n < 16 ∧ sHas Y.S.f (tV tx n Y.q : Int) Y.S.n = false)) : pStock tx n P = (4, Y) := by
  obtain ⟨h1, h2, -⟩ := h
  obtain ⟨m, hm⟩ : ∃ m, 17 - i = m + 1 := ⟨16 - i, by omega⟩
  rw [hm, pStk_c (Or.inr (pNum_0 hp).1) hp h3] at h1
  exact h1
theorem stI_d {tx : Nat → Int} {n : Nat} {P Y : zPs} {i : Nat} (h : stI tx n P Y i) (hn : Y.S.n ≤ 16) (hp : pNum tx n Y.q 8 100 = 0) (h3 : Y.S.n < 16 ∧ sHas Y.S.f (tV tx n Y.q : Int) Y.S.n = false) : pStock tx n P = pStk tx n (17 - (i + 1)) false (pAdv tx n (Y.sS (Y.S.ins (tV tx n Y.q)))) ∧ i + 1 ≤ (Y.S.ins (tV tx n Y.q)).n := by
  obtain ⟨h1, h2, -⟩ := h
  obtain ⟨m, hm⟩ : ∃ m, 17 - i = m + 1 := ⟨16 - i, by omega⟩
  rw [hm, pStk_d (Or.inr (pNum_0 hp).1) hp h3] at h1
  exact ⟨by rw [show 17 - (i + 1) = m by omega]; exact h1, by show i + 1 ≤ Y.S.n + 1; omega⟩
theorem stI_e {tx : Nat → Int} {n : Nat} {P Z : zPs} {i : Nat} (h : pStock tx n P = pStk tx n (17 - (i + 1)) false Z) (hi : i + 1 ≤ 16) (hk : tK tx n Z.q ≠ 2) : pStock tx n P = (0, Z) := by
  obtain ⟨m, hm⟩ : ∃ m, 17 - (i + 1) = m + 1 := ⟨15 - i, by omega⟩
  rw [hm, pStk_a (fun z => hk ((tC_b tx n Z.q).2.2.2.1.mp z).1)] at h
  exact h
set_option maxRecDepth 20000 in
theorem c_X11_readStock {l : Launch} (hfl : l.stackTraces = false) (E : zE) (σ : zS) (tx : Nat → Int) (n : Nat) (P : zPs) (hP : mPS σ tx n P) : zRi l E yX11_readStock cX11_readStock 1 .boolean (zrm 8 163) [.ref (ob E 327)] σ (fun r τ => mSt σ τ tx n r (pStock tx n P)) := by
  refine Met.ofW (cc := cX11_readStock) (maxL := 1) (ret := (some .boolean)) (by decide +kernel) rfl ?_
  intro p e s m args below meth c s₁ B hml hv
  obtain ⟨rfl, hd⟩ := hv
  have C := zX_of (own := RX11) hfl B hml rfl hd rfl
  have hr := B.returns
  refine zV_go hd (Nat.le_of_ble_eq_true rfl) (lv := [(0, .ref (ob E 327))]) rfl ?_
  refine zv_aload_n C 0 dX11_readStock_0 rfl rfl ?_
  refine zv_iconst (v := zI 1) C dX11_readStock_1 rfl ?_
  refine zv_cvi (st := []) C (c1_X11_startsOnce hfl E σ tx n P hP) mX11_startsOnce kX11_165 (by decide : kd 327 = 10) rfl rfl rfl ⟨rfl, rfl⟩ (show zfit (zrm 7 141) 3 (zrm 8 163) = true from rfl) (Nat.le_of_ble_eq_true rfl) dX11_readStock_2 ⟨Nat.zero_le _, Nat.zero_le _⟩ (fun r2 τ2 hp2 => ?_)
  refine zv_eqi (y := zB (¬ P.o1 = true)) (hp2.1.trans (zB_c (by split <;> simp [*]))) ?_
  refine zv_if_neB (tgt := 10) C dX11_readStock_5 (by decide) (fun h5 => ?_) (fun h5 => ?_)
  · skip
    have hm := hp2
    rw [if_neg h5, if_neg h5] at hm
    have hA : mPS τ2 tx n (pAdv tx n P.so1) := hm.2.2.1 rfl
    have hAf := hm.2.1
    refine zv_sub (lv' := [(0, .ref (ob E 327))]) [0] (zcons rfl rfl) ?_
    refine zv_eqS (τ := τ2) (rfl) ?_
    refine zv_while (α := Nat × zPs × zS) (fun v => 17 - v.1) (fun v => stI tx n P v.2.1 v.1 ∧ mPS v.2.2 tx n v.2.1 ∧ mF σ v.2.2) (fun v => v.2.2) (fun v => [(0, .ref (ob E 327))]) (fun v => []) (fun v hI ih => ?_) ((0, pAdv tx n P.so1, τ2)) (⟨⟨if_neg h5, Nat.zero_le _, fun z => absurd rfl z⟩, hA, hAf⟩)
    obtain ⟨i, Y, v9⟩ := v
    dsimp only at hI ih ⊢
    obtain ⟨hst, hY, hYf⟩ := hI
    have hbY := mPS_b hY
    have hn16 := hbY.2.1
    have hpl : pNum tx n Y.q 8 100 ≤ 2 := by unfold pNum; split <;> (try split) <;> omega
    refine zv_aload_n C 0 dX11_readStock_10 rfl rfl ?_
    refine zv_bipush (v := zI 8) C dX11_readStock_11 (by decide) ?_
    refine zv_bipush (v := zI 100) C dX11_readStock_13 (by decide) ?_
    refine zv_cviD (st := []) C (c_X11_seesNumber hfl E v9 tx n Y 8 100 hY (by decide) (by decide)) mX11_seesNumber kX11_168 (by decide : kd 327 = 10) rfl rfl rfl ⟨rfl, rfl⟩ (show zfit (zrm 1 25) 3 (zrm 8 163) = true from rfl) (Nat.le_of_ble_eq_true rfl) dX11_readStock_15 ⟨Nat.zero_le _, Nat.zero_le _⟩ ?_
    refine zv_if_neB (tgt := 23) C dX11_readStock_18 (by decide) (fun h18 => ?_) (fun h18 => ?_)
    · skip
      have hn0 := pNum_0 h18
      have hvc := mVal hY hn0.1
      refine zv_eqS (τ := v9) (by rw [h18, mfC_0]) ?_
      refine zv_aload_n C 0 dX11_readStock_23 rfl rfl ?_
      refine zG10_4 C (by decide : kd 327 = _) kX11_22 dX11_readStock_24 ?_
      refine zv_iconst (v := zI 0) C dX11_readStock_27 rfl ?_
      refine zv_iald (j := 0) C (by decide : kd 332 = _) (zI_ix (by omega)) (by decide) dX11_readStock_28 ?_
      refine zv_eqi (y := (zI (Y.S.n : Int))) ((mPS_W hY).1) ?_
      refine zv_bipush (v := zI 16) C dX11_readStock_29 (by decide) ?_
      refine zv_icmp_eqZ (tgt := 45) C (by omega) (by omega) dX11_readStock_31 (by decide) (fun h31 => ?_) (fun h31 => ?_)
      · skip
        have hX := stI_c hst hn16 h18 (by omega)
        refine zv_aload_n C 0 dX11_readStock_45 rfl rfl ?_
        refine zv_iconst (v := zI 4) C dX11_readStock_46 rfl ?_
        refine zv_cviD (st := []) C (c_X11_failsAt hfl E v9 tx n Y 4 hY (by decide)) mX11_failsAt kX11_122 (by decide : kd 327 = 10) rfl rfl rfl ⟨rfl, rfl⟩ (show zfit (zrm 0 0) 2 (zrm 8 163) = true from rfl) (Nat.le_of_ble_eq_true rfl) dX11_readStock_47 ⟨Nat.zero_le _, Nat.zero_le _⟩ ?_
        exact zv_iret C hr rfl dX11_readStock_50 (mSt_f (mR_f (by decide) hYf) (by decide) hX)
      · skip
        refine zv_aload_n C 0 dX11_readStock_34 rfl rfl ?_
        refine zv_aload_n C 0 dX11_readStock_35 rfl rfl ?_
        refine zG10_19 C (by decide : kd 327 = _) kX11_85 dX11_readStock_36 ?_
        refine zv_eqi (y := (zI ((tV tx n Y.q) : Int))) (hvc) ?_
        refine zv_cviD (st := []) C (c_X11_hasStock hfl E v9 8 Y.S ((tV tx n Y.q) : Int) (mPS_W hY) hbY.2.1 (fun i hi => Nat.le_trans (hbY.2.2.1 i hi) (by decide)) (by omega)) mX11_hasStock kX11_172 (by decide : kd 327 = 10) rfl rfl rfl ⟨rfl, rfl⟩ (show zfit (zrm 0 0) 3 (zrm 8 163) = true from rfl) (Nat.le_of_ble_eq_true rfl) dX11_readStock_39 ⟨Nat.zero_le _, Nat.zero_le _⟩ ?_
        refine zv_if_eqB (tgt := 51) C dX11_readStock_42 (by decide) (fun h42 => ?_) (fun h42 => ?_)
        · skip
          have hfree : Y.S.n < 16 ∧ sHas Y.S.f ((tV tx n Y.q) : Int) Y.S.n = false := ⟨by omega, by
            rcases Bool.eq_false_or_eq_true (sHas Y.S.f ((tV tx n Y.q) : Int) Y.S.n) with q | q
            · exact absurd q h42
            · exact q⟩
          have hsd := stI_d hst hn16 h18 hfree
          have hIn := mPS_ins (t := (tV tx n Y.q)) hY hfree.1 (by omega)
          refine zv_aload_n C 0 dX11_readStock_51 rfl rfl ?_
          refine zv_aload_n C 0 dX11_readStock_52 rfl rfl ?_
          refine zG10_19 C (by decide : kd 327 = _) kX11_85 dX11_readStock_53 ?_
          refine zv_eqi (y := (zI ((tV tx n Y.q) : Int))) (hvc) ?_
          refine zv_cvvD (st := []) C (c_X11_addsStock hfl E v9 8 Y.S (tV tx n Y.q) (mPS_W hY) (by omega) (fun i hi => Nat.le_trans (hbY.2.2.1 i hi) (by decide)) (by omega)) mX11_addsStock kX11_175 (by decide : kd 327 = 10) rfl rfl rfl ⟨rfl, rfl⟩ (show zfit (zrm 0 0) 3 (zrm 8 163) = true from rfl) (Nat.le_of_ble_eq_true rfl) dX11_readStock_56 ⟨Nat.zero_le _, Nat.zero_le _⟩ ?_
          refine zv_aload_n C 0 dX11_readStock_59 rfl rfl ?_
          refine zv_cvv (st := []) C (c_X11_advanceToken hfl E (iSw v9 Y.S.f Y.S.n (tV tx n Y.q)) tx n (tE tx n (Y.sS (Y.S.ins (tV tx n Y.q))).q) hIn.1 hIn.2.1.1 (tE_n hIn.2.2.1).2.1) mX11_advanceToken kX11_119 (by decide : kd 327 = 10) rfl rfl rfl ⟨rfl, rfl⟩ (show zfit (zrm 1 25) 2 (zrm 8 163) = true from rfl) (Nat.le_of_ble_eq_true rfl) dX11_readStock_60 ⟨Nat.zero_le _, Nat.zero_le _⟩ (fun τ60 hp60 => ?_)
          have hZ : mPS τ60 tx n (pAdv tx n (Y.sS (Y.S.ins (tV tx n Y.q)))) := mPS_A hIn hp60.2 hp60.1
          have hZf := mF_A hp60.2
          have hkz := tK_b tx n (pAdv tx n (Y.sS (Y.S.ins (tV tx n Y.q)))).q
          refine zv_aload_n C 0 dX11_readStock_63 rfl rfl ?_
          refine zG10_20 C (by decide : kd 327 = _) kX11_88 dX11_readStock_64 ?_
          refine zv_eqi (y := (zI (tK tx n (pAdv tx n (Y.sS (Y.S.ins (tV tx n Y.q)))).q : Int))) ((mPS_w hZ).2.2) ?_
          refine zv_iconst (v := zI 2) C dX11_readStock_67 rfl ?_
          refine zv_icmp_eqZ (tgt := 10) C (by omega) (by omega) dX11_readStock_68 (by decide) (fun h68 => ?_) (fun h68 => ?_)
          · skip
            have hk68 : tK tx n (pAdv tx n (Y.sS (Y.S.ins (tV tx n Y.q)))).q = 2 := by omega
            refine zv_sub (lv' := [(0, .ref (ob E 327))]) [0] (zcons rfl rfl) ?_
            refine zv_eqS (τ := τ60) (rfl) ?_
            exact ih ((i + 1, pAdv tx n (Y.sS (Y.S.ins (tV tx n Y.q))), τ60)) (⟨⟨by rw [show decide (i + 1 = 0) = false from decide_eq_false (by omega)]; exact hsd.1, hsd.2, fun _ => hk68⟩, hZ, mF_t hYf (mF_t (mF_S (fun x j q => iSw_o _ _ _ _ _ _ q) rfl) hZf)⟩) (by show 17 - (i + 1) < 17 - i; have := hst.2.1; omega)
          · skip
            have hX := stI_e hsd.1 (by have := hst.2.1; omega) (by omega)
            refine zv_iconst (v := zI 1) C dX11_readStock_71 rfl ?_
            exact zv_iret C hr rfl dX11_readStock_72 (mSt_o (mR_o (mF_t hYf (mF_t (mF_S (fun x j q => iSw_o _ _ _ _ _ _ q) rfl) hZf)) hZ) hX)
        · skip
          have hX := stI_c hst hn16 h18 (fun z => by rw [z.2] at h42; cases h42)
          refine zv_aload_n C 0 dX11_readStock_45 rfl rfl ?_
          refine zv_iconst (v := zI 4) C dX11_readStock_46 rfl ?_
          refine zv_cviD (st := []) C (c_X11_failsAt hfl E v9 tx n Y 4 hY (by decide)) mX11_failsAt kX11_122 (by decide : kd 327 = 10) rfl rfl rfl ⟨rfl, rfl⟩ (show zfit (zrm 0 0) 2 (zrm 8 163) = true from rfl) (Nat.le_of_ble_eq_true rfl) dX11_readStock_47 ⟨Nat.zero_le _, Nat.zero_le _⟩ ?_
          exact zv_iret C hr rfl dX11_readStock_50 (mSt_f (mR_f (by decide) hYf) (by decide) hX)
    · skip
      refine zv_iconst (v := zI 0) C dX11_readStock_21 rfl ?_
      exact zv_iret C hr rfl dX11_readStock_22 ⟨_, Y, mR_f h18 hYf, Or.inr ⟨h18, stI_b hst hn16 h18⟩⟩
  · skip
    have ho : P.o1 = true := Decidable.not_not.mp h5
    have hm := hp2
    rw [if_pos ho, if_pos ho] at hm
    have hX : pStock tx n P = (4, P) := if_pos ho
    refine zv_iconst (v := zI 0) C dX11_readStock_8 rfl ?_
    exact zv_iret C hr rfl dX11_readStock_9 (mSt_f ⟨(zB_f (by decide)).symm, hm.2⟩ (by decide) hX)
theorem mPS_s0 {σ : zS} {tx : Nat → Int} {n : Nat} {P : zPs} (h : mPS σ tx n P) (v : Int) : mPS (sI σ 328 1 (zI v)) tx n (P.sU (P.U.ss0 v)) := by
  have e : ∀ x j, ¬ (x = 328 ∧ j = 1) → gI (sI σ 328 1 (zI v)) x j = gI σ x j := fun x j q => by rw [gI_sI, if_neg q]
  obtain ⟨b1, b2, b3⟩ := h.2.2.2.1.1
  have hnb := (mPS_b h).1
  refine mPS_U h ⟨(e _ _ (by omega)).trans b1, by rw [gI_sI, if_pos ⟨rfl, rfl⟩]; rfl, fun j hj => ?_⟩ (by rw [show gI (sI σ 328 1 (zI v)) 330 = gI σ 330 from funext fun j => e _ _ (by omega)]; exact h.2.2.2.1.2.1) (fun x j a _ => e _ _ (by omega)) ⟨(mPS_b h).1, (mPS_b h).2.1, (mPS_b h).2.2.1, (mPS_b h).2.2.2.1, (mPS_b h).2.2.2.2⟩
  obtain ⟨c1, c2, c3⟩ := b3 j hj
  exact ⟨(e _ _ (by omega)).trans c1, (e _ _ (by omega)).trans c2, (e _ _ (by omega)).trans c3⟩
theorem mPS_sl {σ : zS} {tx : Nat → Int} {n : Nat} {P : zPs} (h : mPS σ tx n P) (v : Nat) : mPS (sI σ 332 17 (zI (v : Int))) tx n (P.sS (P.S.ssl v)) := by
  have e : ∀ x j, ¬ (x = 332 ∧ j = 17) → gI (sI σ 332 17 (zI (v : Int))) x j = gI σ x j := fun x j q => by rw [gI_sI, if_neg q]
  obtain ⟨h1, h2, h3, h4, h5⟩ := mPS_W h
  have hb := mPS_b h
  have hn := hb.2.1
  refine mPS_S h ⟨(e _ _ (by omega)).trans h1, fun q hq => (e _ _ (by have : q < P.S.n := hq; omega)).trans (h2 q hq), by rw [gI_sI, if_pos ⟨rfl, rfl⟩]; rfl, (e _ _ (by omega)).trans h4, fun j hj => ?_⟩ (fun x j q => e _ _ (by omega)) hb
  obtain ⟨a1, a2, a3⟩ := h5 j hj
  exact ⟨(e _ _ (by omega)).trans a1, fun z => (e _ _ (by omega)).trans (a2 z), fun p w hp hw => (e _ _ (by omega)).trans (a3 p w hp hw)⟩
set_option maxRecDepth 20000 in
theorem c_X11_readStart {l : Launch} (hfl : l.stackTraces = false) (E : zE) (σ : zS) (tx : Nat → Int) (n : Nat) (P : zPs) (hP : mPS σ tx n P) : zRi l E yX11_readStart cX11_readStart 1 .boolean (zrm 8 163) [.ref (ob E 327)] σ (fun r τ => mSt σ τ tx n r (pStart tx n P)) := by
  refine Met.ofW (cc := cX11_readStart) (maxL := 1) (ret := (some .boolean)) (by decide +kernel) rfl ?_
  intro p e s m args below meth c s₁ B hml hv
  obtain ⟨rfl, hd⟩ := hv
  have C := zX_of (own := RX11) hfl B hml rfl hd rfl
  have hr := B.returns
  refine zV_go hd (Nat.le_of_ble_eq_true rfl) (lv := [(0, .ref (ob E 327))]) rfl ?_
  refine zv_aload_n C 0 dX11_readStart_0 rfl rfl ?_
  refine zv_iconst (v := zI 2) C dX11_readStart_1 rfl ?_
  refine zv_cvi (st := []) C (c2_X11_startsOnce hfl E σ tx n P hP) mX11_startsOnce kX11_165 (by decide : kd 327 = 10) rfl rfl rfl ⟨rfl, rfl⟩ (show zfit (zrm 7 141) 3 (zrm 8 163) = true from rfl) (Nat.le_of_ble_eq_true rfl) dX11_readStart_2 ⟨Nat.zero_le _, Nat.zero_le _⟩ (fun r2 τ2 hp2 => ?_)
  refine zv_eqi (y := zB (¬ P.o2 = true)) (hp2.1.trans (zB_c (by split <;> simp [*]))) ?_
  refine zv_if_eqB (tgt := 21) C dX11_readStart_5 (by decide) (fun h5 => ?_) (fun h5 => ?_)
  · skip
    have ho : P.o2 = true := Decidable.not_not.mp h5
    have hm := hp2
    rw [if_pos ho, if_pos ho] at hm
    have hX : pStart tx n P = (4, P) := if_pos ho
    refine zv_iconst (v := zI 0) C dX11_readStart_21 rfl ?_
    exact zv_iret C hr rfl dX11_readStart_22 (mSt_f ⟨(zB_f (by decide)).symm, hm.2⟩ (by decide) hX)
  · skip
    have hm := hp2
    rw [if_neg h5, if_neg h5] at hm
    have hA : mPS τ2 tx n (pAdv tx n P.so2) := hm.2.2.1 rfl
    have hAf := hm.2.1
    refine zv_aload_n C 0 dX11_readStart_8 rfl rfl ?_
    refine zv_sipush (v := zI 1600) C dX11_readStart_9 (by decide) ?_
    refine zv_sipush (v := zI 2400) C dX11_readStart_12 (by decide) ?_
    refine zv_cviD (st := []) C (c_X11_seesNumber hfl E τ2 tx n (pAdv tx n P.so2) 1600 2400 hA (by decide) (by decide)) mX11_seesNumber kX11_168 (by decide : kd 327 = 10) rfl rfl rfl ⟨rfl, rfl⟩ (show zfit (zrm 1 25) 3 (zrm 8 163) = true from rfl) (Nat.le_of_ble_eq_true rfl) dX11_readStart_15 ⟨Nat.zero_le _, Nat.zero_le _⟩ ?_
    refine zv_if_neB (tgt := 23) C dX11_readStart_18 (by decide) (fun h18 => ?_) (fun h18 => ?_)
    · skip
      have hn0 := pNum_0 h18
      have hvc := mVal hA hn0.1
      have hD := mPS_s0 hA ((tV tx n (pAdv tx n P.so2).q) : Int)
      have hX : pStart tx n P = (0, pAdv tx n ((pAdv tx n P.so2).sU (P.U.ss0 ((tV tx n (pAdv tx n P.so2).q) : Int)))) := by rw [pStart, if_neg h5, if_pos h18]
      refine zv_eqS (τ := τ2) (by rw [h18, mfC_0]) ?_
      refine zv_aload_n C 0 dX11_readStart_23 rfl rfl ?_
      refine zG10_0 C (by decide : kd 327 = _) kX11_7 dX11_readStart_24 ?_
      refine zv_iconst (v := zI 1) C dX11_readStart_27 rfl ?_
      refine zv_aload_n C 0 dX11_readStart_28 rfl rfl ?_
      refine zG10_19 C (by decide : kd 327 = _) kX11_85 dX11_readStart_29 ?_
      refine zv_eqi (y := (zI ((tV tx n (pAdv tx n P.so2).q) : Int))) (hvc) ?_
      refine zv_iast (j := 1) C (by decide : kd 328 = _) (zI_ix (by omega)) (by decide) dX11_readStart_32 ?_
      refine zv_aload_n C 0 dX11_readStart_33 rfl rfl ?_
      refine zv_cvv (st := []) C (c_X11_advanceToken hfl E (sI τ2 328 1 (zI ((tV tx n (pAdv tx n P.so2).q) : Int))) tx n (tE tx n ((pAdv tx n P.so2).sU (P.U.ss0 ((tV tx n (pAdv tx n P.so2).q) : Int))).q) hD.1 hD.2.1.1 (tE_n hD.2.2.1).2.1) mX11_advanceToken kX11_119 (by decide : kd 327 = 10) rfl rfl rfl ⟨rfl, rfl⟩ (show zfit (zrm 1 25) 2 (zrm 8 163) = true from rfl) (Nat.le_of_ble_eq_true rfl) dX11_readStart_34 ⟨Nat.zero_le _, Nat.zero_le _⟩ (fun τ9 hp34 => ?_)
      have hZ : mPS τ9 tx n (pAdv tx n ((pAdv tx n P.so2).sU (P.U.ss0 ((tV tx n (pAdv tx n P.so2).q) : Int)))) := mPS_A hD hp34.2 hp34.1
      have hZf := mF_A hp34.2
      refine zv_iconst (v := zI 1) C dX11_readStart_37 rfl ?_
      exact zv_iret C hr rfl dX11_readStart_38 (mSt_o (mR_o (mF_t hAf (mF_t (mF_I (mF_r _) _ (by omega)) hZf)) hZ) hX)
    · skip
      have hX : pStart tx n P = (pNum tx n (pAdv tx n P.so2).q 1600 2400, (pAdv tx n P.so2)) := by rw [pStart, if_neg h5, if_neg h18]
      refine zv_iconst (v := zI 0) C dX11_readStart_21 rfl ?_
      exact zv_iret C hr rfl dX11_readStart_22 (mSt_f (mR_f (P := (pAdv tx n P.so2)) h18 hAf) h18 hX)
set_option maxRecDepth 20000 in
theorem c_X11_readSlack {l : Launch} (hfl : l.stackTraces = false) (E : zE) (σ : zS) (tx : Nat → Int) (n : Nat) (P : zPs) (hP : mPS σ tx n P) : zRi l E yX11_readSlack cX11_readSlack 1 .boolean (zrm 8 163) [.ref (ob E 327)] σ (fun r τ => mSt σ τ tx n r (pSlack tx n P)) := by
  refine Met.ofW (cc := cX11_readSlack) (maxL := 1) (ret := (some .boolean)) (by decide +kernel) rfl ?_
  intro p e s m args below meth c s₁ B hml hv
  obtain ⟨rfl, hd⟩ := hv
  have C := zX_of (own := RX11) hfl B hml rfl hd rfl
  have hr := B.returns
  refine zV_go hd (Nat.le_of_ble_eq_true rfl) (lv := [(0, .ref (ob E 327))]) rfl ?_
  refine zv_aload_n C 0 dX11_readSlack_0 rfl rfl ?_
  refine zv_iconst (v := zI 4) C dX11_readSlack_1 rfl ?_
  refine zv_cvi (st := []) C (c4_X11_startsOnce hfl E σ tx n P hP) mX11_startsOnce kX11_165 (by decide : kd 327 = 10) rfl rfl rfl ⟨rfl, rfl⟩ (show zfit (zrm 7 141) 3 (zrm 8 163) = true from rfl) (Nat.le_of_ble_eq_true rfl) dX11_readSlack_2 ⟨Nat.zero_le _, Nat.zero_le _⟩ (fun r2 τ2 hp2 => ?_)
  refine zv_eqi (y := zB (¬ P.o3 = true)) (hp2.1.trans (zB_c (by split <;> simp [*]))) ?_
  refine zv_if_eqB (tgt := 19) C dX11_readSlack_5 (by decide) (fun h5 => ?_) (fun h5 => ?_)
  · skip
    have ho : P.o3 = true := Decidable.not_not.mp h5
    have hm := hp2
    rw [if_pos ho, if_pos ho] at hm
    have hX : pSlack tx n P = (4, P) := if_pos ho
    refine zv_iconst (v := zI 0) C dX11_readSlack_19 rfl ?_
    exact zv_iret C hr rfl dX11_readSlack_20 (mSt_f ⟨(zB_f (by decide)).symm, hm.2⟩ (by decide) hX)
  · skip
    have hm := hp2
    rw [if_neg h5, if_neg h5] at hm
    have hA : mPS τ2 tx n (pAdv tx n P.so3) := hm.2.2.1 rfl
    have hAf := hm.2.1
    refine zv_aload_n C 0 dX11_readSlack_8 rfl rfl ?_
    refine zv_iconst (v := zI 0) C dX11_readSlack_9 rfl ?_
    refine zv_sipush (v := zI 999) C dX11_readSlack_10 (by decide) ?_
    refine zv_cviD (st := []) C (c_X11_seesNumber hfl E τ2 tx n (pAdv tx n P.so3) 0 999 hA (by decide) (by decide)) mX11_seesNumber kX11_168 (by decide : kd 327 = 10) rfl rfl rfl ⟨rfl, rfl⟩ (show zfit (zrm 1 25) 3 (zrm 8 163) = true from rfl) (Nat.le_of_ble_eq_true rfl) dX11_readSlack_13 ⟨Nat.zero_le _, Nat.zero_le _⟩ ?_
    refine zv_if_neB (tgt := 21) C dX11_readSlack_16 (by decide) (fun h16 => ?_) (fun h16 => ?_)
    · skip
      have hn0 := pNum_0 h16
      have hvc := mVal hA hn0.1
      have hD := mPS_sl hA (tV tx n (pAdv tx n P.so3).q)
      have hX : pSlack tx n P = (0, pAdv tx n ((pAdv tx n P.so3).sS (P.S.ssl (tV tx n (pAdv tx n P.so3).q)))) := by rw [pSlack, if_neg h5, if_pos h16]
      refine zv_eqS (τ := τ2) (by rw [h16, mfC_0]) ?_
      refine zv_aload_n C 0 dX11_readSlack_21 rfl rfl ?_
      refine zG10_4 C (by decide : kd 327 = _) kX11_22 dX11_readSlack_22 ?_
      refine zv_bipush (v := zI 17) C dX11_readSlack_25 (by decide) ?_
      refine zv_aload_n C 0 dX11_readSlack_27 rfl rfl ?_
      refine zG10_19 C (by decide : kd 327 = _) kX11_85 dX11_readSlack_28 ?_
      refine zv_eqi (y := (zI ((tV tx n (pAdv tx n P.so3).q) : Int))) (hvc) ?_
      refine zv_iast (j := 17) C (by decide : kd 332 = _) (zI_ix (by omega)) (by decide) dX11_readSlack_31 ?_
      refine zv_aload_n C 0 dX11_readSlack_32 rfl rfl ?_
      refine zv_cvv (st := []) C (c_X11_advanceToken hfl E (sI τ2 332 17 (zI ((tV tx n (pAdv tx n P.so3).q) : Int))) tx n (tE tx n ((pAdv tx n P.so3).sS (P.S.ssl (tV tx n (pAdv tx n P.so3).q))).q) hD.1 hD.2.1.1 (tE_n hD.2.2.1).2.1) mX11_advanceToken kX11_119 (by decide : kd 327 = 10) rfl rfl rfl ⟨rfl, rfl⟩ (show zfit (zrm 1 25) 2 (zrm 8 163) = true from rfl) (Nat.le_of_ble_eq_true rfl) dX11_readSlack_33 ⟨Nat.zero_le _, Nat.zero_le _⟩ (fun τ9 hp33 => ?_)
      have hZ : mPS τ9 tx n (pAdv tx n ((pAdv tx n P.so3).sS (P.S.ssl (tV tx n (pAdv tx n P.so3).q)))) := mPS_A hD hp33.2 hp33.1
      have hZf := mF_A hp33.2
      refine zv_iconst (v := zI 1) C dX11_readSlack_36 rfl ?_
      exact zv_iret C hr rfl dX11_readSlack_37 (mSt_o (mR_o (mF_t hAf (mF_t (mF_I (mF_r _) _ (by omega)) hZf)) hZ) hX)
    · skip
      have hX : pSlack tx n P = (pNum tx n (pAdv tx n P.so3).q 0 999, (pAdv tx n P.so3)) := by rw [pSlack, if_neg h5, if_neg h16]
      refine zv_iconst (v := zI 0) C dX11_readSlack_19 rfl ?_
      exact zv_iret C hr rfl dX11_readSlack_20 (mSt_f (mR_f (P := (pAdv tx n P.so3)) h16 hAf) h16 hX)
