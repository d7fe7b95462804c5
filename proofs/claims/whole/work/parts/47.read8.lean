def U00 : zSU := zSU.mk 2000 0 (fun _ => 0) (fun _ => 0) (fun _ => 0) (fun _ => 0)
def S00 : zST := zST.mk 0 (fun _ => 0) 60 0 (fun _ => 0) (fun _ => 0) (fun _ _ _ => 0)
def P00 : zPs := zPs.mk 0 U00 S00 false false false
def rdW (σ : zS) : zS := (sI (sI (sI (emT (flI (sI (sI (sI (sI (sI (sI (sI σ 1 3 (zI 0)) 1 4 (zI (-1))) 4 0 (zI 2000)) 4 1 (zI 0)) 9 1 (zI 0)) 9 2 (zI 60)) 9 3 (zI 0)) 11 8 (zI 0)) 9 8) 1 5 (zI 0)) 1 6 (zI 0)) 1 7 (zI 0))
theorem emS_p (σ : zS) (k : Nat) : zSTp (emT (flI (sI (sI (sI σ k 1 (zI 0)) k 2 (zI 60)) k 3 (zI 0)) (k + 2) 8 (zI 0)) k 8) k S00 := by
  have e : ∀ x y, ¬ (k + 4 ≤ x ∧ x < k + 4 + 2 * 8 ∧ (x - k) % 2 = 0 ∧ y = 1) → gI (emT (flI (sI (sI (sI σ k 1 (zI 0)) k 2 (zI 60)) k 3 (zI 0)) (k + 2) 8 (zI 0)) k 8) x y = gI (flI (sI (sI (sI σ k 1 (zI 0)) k 2 (zI 60)) k 3 (zI 0)) (k + 2) 8 (zI 0)) x y := fun x y h => by rw [gI_emT, if_neg h]
  refine ⟨⟨?_, by decide, fun i hi => absurd hi (Nat.not_lt_zero _), fun i hi => absurd hi (Nat.not_lt_zero _)⟩, fun i hi => absurd hi (Nat.not_lt_zero _), fun i j _ hj => absurd hj (Nat.not_lt_zero _), ⟨?_, by decide⟩, ?_, fun i hi => ?_, fun j hj => ⟨⟨?_, Nat.zero_le _, fun i w hi => absurd hi (Nat.not_lt_zero _), fun i w hi => absurd hi (Nat.not_lt_zero _)⟩, Nat.zero_le _, Nat.zero_le _, fun i hi => absurd hi (Nat.not_lt_zero _)⟩⟩
  · rw [e _ _ (by omega), gI_flI, if_neg (by omega), gI_sI, if_neg (by omega), gI_sI, if_neg (by omega), gI_sI, if_pos ⟨rfl, rfl⟩]; rfl
  · rw [e _ _ (by omega), gI_flI, if_neg (by omega), gI_sI, if_neg (by omega), gI_sI, if_pos ⟨rfl, rfl⟩]; rfl
  · rw [e _ _ (by omega), gI_flI, if_neg (by omega), gI_sI, if_pos ⟨rfl, rfl⟩]; rfl
  · rw [e _ _ (by omega), gI_flI, if_pos ⟨rfl, hi⟩]; rfl
  · rw [gI_emT, if_pos (by omega)]; rfl
theorem rdW_I (σ : zS) (x y : Nat) (h : x < 1 ∨ 29 ≤ x ∨ x = 2 ∨ x = 3) : gI (rdW σ) x y = gI σ x y := by
  simp only [rdW]
  rw [gI_sI, if_neg (by omega), gI_sI, if_neg (by omega), gI_sI, if_neg (by omega), gI_emT, if_neg (by omega), gI_flI, if_neg (by omega), gI_sI, if_neg (by omega), gI_sI, if_neg (by omega), gI_sI, if_neg (by omega), gI_sI, if_neg (by omega), gI_sI, if_neg (by omega), gI_sI, if_neg (by omega), gI_sI, if_neg (by omega)]
theorem rdW_d (σ : zS) : zDr (rdW σ) P00 ∧ gI (rdW σ) 1 3 = zI 0 ∧ gI (rdW σ) 1 4 = zI (-1) := by
  refine ⟨⟨⟨?_, ?_, by decide, by decide, fun i hi => absurd hi (Nat.not_lt_zero _)⟩, ?_, ?_, ?_, ?_⟩, ?_, ?_⟩
  · simp only [rdW]
    rw [gI_sI, if_neg (by omega), gI_sI, if_neg (by omega), gI_sI, if_neg (by omega), gI_emT, if_neg (by omega), gI_flI, if_neg (by omega), gI_sI, if_neg (by omega), gI_sI, if_neg (by omega), gI_sI, if_neg (by omega), gI_sI, if_neg (by omega), gI_sI, if_pos ⟨rfl, rfl⟩]; rfl
  · simp only [rdW]
    rw [gI_sI, if_neg (by omega), gI_sI, if_neg (by omega), gI_sI, if_neg (by omega), gI_emT, if_neg (by omega), gI_flI, if_neg (by omega), gI_sI, if_neg (by omega), gI_sI, if_neg (by omega), gI_sI, if_neg (by omega), gI_sI, if_pos ⟨rfl, rfl⟩]; rfl
  · exact zSTp_w (emS_p (sI (sI (sI (sI σ 1 3 (zI 0)) 1 4 (zI (-1))) 4 0 (zI 2000)) 4 1 (zI 0)) 9) (fun x y h1 h2 => by simp only [rdW]; rw [gI_sI, if_neg (by omega), gI_sI, if_neg (by omega), gI_sI, if_neg (by omega)])
  · simp only [rdW]; rw [gI_sI, if_neg (by omega), gI_sI, if_neg (by omega), gI_sI, if_pos ⟨rfl, rfl⟩]; rfl
  · simp only [rdW]; rw [gI_sI, if_neg (by omega), gI_sI, if_pos ⟨rfl, rfl⟩]; rfl
  · simp only [rdW]; rw [gI_sI, if_pos ⟨rfl, rfl⟩]; rfl
  · simp only [rdW]
    rw [gI_sI, if_neg (by omega), gI_sI, if_neg (by omega), gI_sI, if_neg (by omega), gI_emT, if_neg (by omega), gI_flI, if_neg (by omega), gI_sI, if_neg (by omega), gI_sI, if_neg (by omega), gI_sI, if_neg (by omega), gI_sI, if_neg (by omega), gI_sI, if_neg (by omega), gI_sI, if_neg (by omega), gI_sI, if_pos ⟨rfl, rfl⟩]
  · simp only [rdW]
    rw [gI_sI, if_neg (by omega), gI_sI, if_neg (by omega), gI_sI, if_neg (by omega), gI_emT, if_neg (by omega), gI_flI, if_neg (by omega), gI_sI, if_neg (by omega), gI_sI, if_neg (by omega), gI_sI, if_neg (by omega), gI_sI, if_neg (by omega), gI_sI, if_neg (by omega), gI_sI, if_pos ⟨rfl, rfl⟩]
theorem rdW_f (σ : zS) : zFr 1 29 σ (rdW σ) := ⟨fun x y h => rdW_I σ x y (by omega), fun x y _ => rfl, fun x y => rfl⟩
/-- the whole text -/
def pRead (tx : Nat → Int) (n : Nat) : Nat → zPs → Nat × zPs
  | 0, P => (0, P)
  | m + 1, P => if tC tx n P.q = 0 then (0, P) else if (pStmt tx n P).1 ≠ 0 then pStmt tx n P else if (pSemi tx n (pStmt tx n P).2).1 ≠ 0 then pSemi tx n (pStmt tx n P).2 else pRead tx n m (pSemi tx n (pStmt tx n P).2).2
def pText (tx : Nat → Int) (n : Nat) : Nat × zPs := pRead tx n 900 P00
set_option maxRecDepth 20000 in
theorem c_X5_readText {l : Launch} (hfl : l.stackTraces = false) (E : zE) (σ : zS) (tx : Nat → Int) (n : Nat) (hX : zTx σ tx n) : zRi l E yX5_readText cX5_readText 3 .boolean (zrm 5 113) [.ref (ob E 1)] σ (fun r τ => r = zB ((pText tx n).1 = 0) ∧ zFr 1 29 σ τ ∧ ((pText tx n).1 = 0 → zPS τ tx n (pText tx n).2 ∧ gI τ 1 3 = zI 0 ∧ gI τ 1 4 = zI (-1)) ∧ ((pText tx n).1 ≠ 0 → gI τ 1 3 = zI ((pText tx n).1 : Int) ∧ gI τ 1 4 = zI (tB tx n (pText tx n).2.q : Int))) := by
  refine Met.ofW (cc := cX5_readText) (maxL := 3) (ret := (some .boolean)) (by decide +kernel) rfl ?_
  intro p e s m args below meth c s₁ B hml hv
  obtain ⟨rfl, hd⟩ := hv
  have C := zX_of (own := RX5) hfl B hml rfl hd rfl
  have hr := B.returns
  refine zV_go hd (Nat.le_of_ble_eq_true rfl) (lv := [(0, .ref (ob E 1))]) rfl ?_
  refine zv_aload_n C 0 dX5_readText_0 rfl rfl ?_
  refine zv_iconst (v := zI 0) C dX5_readText_1 rfl ?_
  refine zP5_3 C (by decide : kd 1 = _) kX5_32 dX5_readText_2 ?_
  refine zv_aload_n C 0 dX5_readText_5 rfl rfl ?_
  refine zv_iconst (v := zI (-1)) C dX5_readText_6 rfl ?_
  refine zP5_4 C (by decide : kd 1 = _) kX5_36 dX5_readText_7 ?_
  refine zv_aload_n C 0 dX5_readText_10 rfl rfl ?_
  refine zG5_1 C (by decide : kd 1 = _) kX5_21 dX5_readText_11 ?_
  refine zv_cvvD (st := []) C (c_X4_clearAll hfl E (sI (sI σ 1 3 (zI 0)) 1 4 (zI (-1))) 4 (by decide)) mX4_clearAll kX5_49 (by decide : kd 4 = 4) rfl rfl rfl ⟨rfl, rfl⟩ (show zfit (zrm 0 0) 1 (zrm 5 113) = true from rfl) (Nat.le_of_ble_eq_true rfl) dX5_readText_14 ⟨Nat.zero_le _, Nat.zero_le _⟩ ?_
  refine zv_aload_n C 0 dX5_readText_17 rfl rfl ?_
  refine zG5_2 C (by decide : kd 1 = _) kX5_28 dX5_readText_18 ?_
  refine zv_cvvD (st := []) C (c_X6_clearAll hfl E (sI (sI (sI (sI σ 1 3 (zI 0)) 1 4 (zI (-1))) 4 0 (zI 2000)) 4 1 (zI 0)) 9 (by decide)) mX6_clearAll kX5_52 (by decide : kd 9 = 6) rfl rfl rfl ⟨rfl, rfl⟩ (show zfit (zrm 1 21) 2 (zrm 5 113) = true from rfl) (Nat.le_of_ble_eq_true rfl) dX5_readText_21 ⟨Nat.zero_le _, Nat.zero_le _⟩ ?_
  refine zv_aload_n C 0 dX5_readText_24 rfl rfl ?_
  refine zv_iconst (v := zI 0) C dX5_readText_25 rfl ?_
  refine zP5_5 C (by decide : kd 1 = _) (Or.inl rfl) kX5_39 dX5_readText_26 ?_
  refine zv_aload_n C 0 dX5_readText_29 rfl rfl ?_
  refine zv_iconst (v := zI 0) C dX5_readText_30 rfl ?_
  refine zP5_6 C (by decide : kd 1 = _) (Or.inl rfl) kX5_43 dX5_readText_31 ?_
  refine zv_aload_n C 0 dX5_readText_34 rfl rfl ?_
  refine zv_iconst (v := zI 0) C dX5_readText_35 rfl ?_
  refine zP5_7 C (by decide : kd 1 = _) (Or.inl rfl) kX5_46 dX5_readText_36 ?_
  refine zv_aload_n C 0 dX5_readText_39 rfl rfl ?_
  refine zG5_0 C (by decide : kd 1 = _) kX5_12 dX5_readText_40 ?_
  refine zv_cvv (st := []) C (c_X7_rewind hfl E (sI (sI (sI (emT (flI (sI (sI (sI (sI (sI (sI (sI σ 1 3 (zI 0)) 1 4 (zI (-1))) 4 0 (zI 2000)) 4 1 (zI 0)) 9 1 (zI 0)) 9 2 (zI 60)) 9 3 (zI 0)) 11 8 (zI 0)) 9 8) 1 5 (zI 0)) 1 6 (zI 0)) 1 7 (zI 0)) tx n (zTx_w hX (rdW_I σ 2 1 (by decide)) (fun i => rdW_I σ 3 i (by decide)))) mX7_rewind kX5_53 (by decide : kd 2 = 7) rfl rfl rfl ⟨rfl, rfl⟩ (show zfit (zrm 2 41) 1 (zrm 5 113) = true from rfl) (Nat.le_of_ble_eq_true rfl) dX5_readText_43 ⟨Nat.zero_le _, Nat.zero_le _⟩ (fun τ43 hp43 => ?_)
  have hP0 : zPS τ43 tx n P00 := ⟨zTx_w hX (hp43.2.2.trans (rdW_I σ 2 1 (by decide))) (fun i => (hp43.2.1.1 3 i (by decide)).trans (rdW_I σ 3 i (by decide))), hp43.1, Nat.zero_le _, zDr_w (rdW_d σ).1 (fun x y g1 g2 => ⟨hp43.2.1.1 x y (by omega), hp43.2.1.2.1 x y (by omega)⟩) ⟨hp43.2.1.1 1 5 (by decide), hp43.2.1.1 1 6 (by decide), hp43.2.1.1 1 7 (by decide)⟩⟩
  have hF0 : zFr 1 29 σ τ43 := zFr_trans (rdW_f σ) (zFr_mono hp43.2.1 (by decide) (by decide))
  have hc0 : gI τ43 1 3 = zI 0 := (hp43.2.1.1 1 3 (by decide)).trans (rdW_d σ).2.1
  have ho0 : gI τ43 1 4 = zI (-1) := (hp43.2.1.1 1 4 (by decide)).trans (rdW_d σ).2.2
  refine zv_iconst (v := zI 1) C dX5_readText_46 rfl ?_
  refine zv_istore_n (lv' := [(1, .int (zI 1)), (0, .ref (ob E 1))]) C dX5_readText_47 rfl (by decide) rfl ?_
  refine zv_iconst (v := zI 0) C dX5_readText_48 rfl ?_
  refine zv_istore_n (lv' := [(2, .int (zI 0)), (1, .int (zI 1)), (0, .ref (ob E 1))]) C dX5_readText_49 rfl (by decide) rfl ?_
  have q50_32 : (0 : Int) = (0 : Int) := by first | rfl | omega
  have q50_33 : (zI 1) = (zB (0 = 0)) := by rfl
  refine zv_sub (lv' := [(0, .ref (ob E 1)), (1, .int (zB (0 = 0))), (2, .int (zI (0 : Int)))]) [2, 1, 0] (zcons rfl (zcons (zqi q50_33) (zcons (zqI q50_32) rfl))) ?_
  refine zv_eqS (τ := τ43) (rfl) ?_
  refine zv_while (α := Nat × zPs × zS × Nat) (fun v => 900 - v.1) (fun v => v.1 ≤ 900 ∧ zRd τ43 v.2.2.1 tx n v.2.2.2 v.2.1 ∧ (v.2.2.2 = 0 → pRead tx n (900 - v.1) v.2.1 = pText tx n) ∧ (v.2.2.2 ≠ 0 → pText tx n = (v.2.2.2, v.2.1))) (fun v => v.2.2.1) (fun v => [(0, .ref (ob E 1)), (1, .int (zB (v.2.2.2 = 0))), (2, .int (zI (v.1 : Int)))]) (fun v => []) (fun v hI ih => ?_) ((0, P00, τ43, 0)) (⟨Nat.zero_le _, zRd_ok hP0 (zKp_refl _), fun _ => rfl, fun z => absurd rfl z⟩)
  obtain ⟨i, y, u, g⟩ := v
  dsimp only at hI ih ⊢
  obtain ⟨hI, hR, hE, hF⟩ := hI
  refine zv_iload_n C 2 dX5_readText_50 rfl rfl ?_
  refine zv_sipush (v := zI 900) C dX5_readText_51 (by decide) ?_
  refine zv_icmp_geZ (tgt := 97) C (by omega) (by omega) dX5_readText_54 (by decide) (fun h54 => ?_) (fun h54 => ?_)
  · skip
    have hpt : pText tx n = (g, y) := by
      rcases Classical.em (g = 0) with z | z
      · rw [← hE z, show 900 - i = 0 by omega, z]; rfl
      · exact hF z
    refine zv_iload_n C 1 dX5_readText_97 rfl rfl ?_
    exact zv_iret C hr zB_nar dX5_readText_98 ⟨by rw [hpt], zFr_trans hF0 hR.1, fun z => by rw [hpt] at z ⊢; exact ⟨(hR.2.1 z).1, (hR.2.1 z).2.1.trans hc0, (hR.2.1 z).2.2.trans ho0⟩, fun z => by rw [hpt] at z ⊢; exact hR.2.2 z⟩
  · skip
    obtain ⟨w, hw⟩ : ∃ w, 900 - i = w + 1 := ⟨899 - i, by omega⟩
    refine zv_iload_n C 1 dX5_readText_57 rfl rfl ?_
    refine zv_if_eqB (tgt := 97) C dX5_readText_58 (by decide) (fun h58 => ?_) (fun h58 => ?_)
    · skip
      have hpt : pText tx n = (g, y) := hF h58
      refine zv_iload_n C 1 dX5_readText_97 rfl rfl ?_
      exact zv_iret C hr zB_nar dX5_readText_98 ⟨by rw [hpt], zFr_trans hF0 hR.1, fun z => by rw [hpt] at z ⊢; exact ⟨(hR.2.1 z).1, (hR.2.1 z).2.1.trans hc0, (hR.2.1 z).2.2.trans ho0⟩, fun z => by rw [hpt] at z ⊢; exact hR.2.2 z⟩
    · skip
      have hY : zPS u tx n y := (hR.2.1 h58).1
      have hK0 : zKp τ43 u := zRd_kp hR h58
      have hE1 := hE h58
      rw [hw] at hE1
      have hcy := tC_b tx n y.q
      refine zv_aload_n C 0 dX5_readText_61 rfl rfl ?_
      refine zG5_0 C (by decide : kd 1 = _) kX5_12 dX5_readText_62 ?_
      refine zG7_2 C (by decide : kd 2 = _) kX5_56 dX5_readText_65 ?_
      refine zv_eqi (y := (zI (tC tx n y.q : Int))) (zTk_c hY.2.1) ?_
      refine zv_if_eqZ (tgt := 97) C (by omega) dX5_readText_68 (by decide) (fun h68 => ?_) (fun h68 => ?_)
      · skip
        have hpt : pText tx n = (g, y) := by rw [← hE1, pRead, if_pos (by omega), h58]
        refine zv_iload_n C 1 dX5_readText_97 rfl rfl ?_
        exact zv_iret C hr zB_nar dX5_readText_98 ⟨by rw [hpt], zFr_trans hF0 hR.1, fun z => by rw [hpt] at z ⊢; exact ⟨(hR.2.1 z).1, (hR.2.1 z).2.1.trans hc0, (hR.2.1 z).2.2.trans ho0⟩, fun z => by rw [hpt] at z ⊢; exact hR.2.2 z⟩
      · skip
        refine zv_aload_n C 0 dX5_readText_71 rfl rfl ?_
        refine zv_cvi (st := []) C (c_X5_readStatement hfl E u tx n y hY) mX5_readStatement kX5_59 (by decide : kd 1 = 5) rfl rfl rfl ⟨rfl, rfl⟩ (show zfit (zrm 4 93) 1 (zrm 5 113) = true from rfl) (Nat.le_of_ble_eq_true rfl) dX5_readText_72 ⟨Nat.zero_le _, Nat.zero_le _⟩ (fun r72 τ72 hp72 => ?_)
        refine zv_eqi (y := zB ((pStmt tx n y).1 = 0)) hp72.1 ?_
        refine zv_if_eqB (tgt := 89) C dX5_readText_75 (by decide) (fun h75 => ?_) (fun h75 => ?_)
        · skip
          skip
          refine zv_iconst (v := zI 0) C dX5_readText_89 rfl ?_
          refine zv_istore_n (lv' := [(1, .int (zI 0)), (0, .ref (ob E 1)), (2, .int (zI (i : Int)))]) C dX5_readText_90 rfl (by decide) rfl ?_
          refine zv_iinc (v := (zI ((i : Int) + 1))) (lv' := [(2, .int (zI ((i : Int) + 1))), (1, .int (zI 0)), (0, .ref (ob E 1))]) C 2 dX5_readText_91 rfl (zI_add _ _) (by decide) rfl ?_
          refine zv_goto (tgt := 50) C dX5_readText_94 (by decide) ?_
          have q50_84 : ((i : Int) + 1 : Int) = ((i + 1 : Nat) : Int) := by first | rfl | omega
          have q50_85 : (zI 0) = (zB (((pStmt tx n y).1) = 0)) := by exact (zB_f h75).symm
          refine zv_sub (lv' := [(0, .ref (ob E 1)), (1, .int (zB (((pStmt tx n y).1) = 0))), (2, .int (zI ((i + 1 : Nat) : Int)))]) [2, 1, 0] (zcons rfl (zcons (zqi q50_85) (zcons (zqI q50_84) rfl))) ?_
          refine zv_eqS (τ := τ72) (rfl) ?_
          exact ih ((i + 1, (pStmt tx n y).2, τ72, (pStmt tx n y).1)) (⟨by show i + 1 ≤ 900; omega, zRd_tr hK0 hp72.2, fun z => absurd z h75, fun _ => (by rw [← hE1, pRead, if_neg (by omega), if_pos h75])⟩) (by show 900 - (i + 1) < 900 - i; omega)
        · skip
          refine zv_aload_n C 0 dX5_readText_78 rfl rfl ?_
          refine zv_cvi (st := []) C (c_X5_readSemicolon hfl E τ72 tx n (pStmt tx n y).2 (hp72.2.2.1 h75).1) mX5_readSemicolon kX5_63 (by decide : kd 1 = 5) rfl rfl rfl ⟨rfl, rfl⟩ (show zfit (zrm 2 41) 1 (zrm 5 113) = true from rfl) (Nat.le_of_ble_eq_true rfl) dX5_readText_79 ⟨Nat.zero_le _, Nat.zero_le _⟩ (fun r79 τ79 hp79 => ?_)
          refine zv_eqi (y := zB ((pSemi tx n (pStmt tx n y).2).1 = 0)) hp79.1 ?_
          refine zv_if_eqB (tgt := 89) C dX5_readText_82 (by decide) (fun h82 => ?_) (fun h82 => ?_)
          · skip
            skip
            refine zv_iconst (v := zI 0) C dX5_readText_89 rfl ?_
            refine zv_istore_n (lv' := [(1, .int (zI 0)), (0, .ref (ob E 1)), (2, .int (zI (i : Int)))]) C dX5_readText_90 rfl (by decide) rfl ?_
            refine zv_iinc (v := (zI ((i : Int) + 1))) (lv' := [(2, .int (zI ((i : Int) + 1))), (1, .int (zI 0)), (0, .ref (ob E 1))]) C 2 dX5_readText_91 rfl (zI_add _ _) (by decide) rfl ?_
            refine zv_goto (tgt := 50) C dX5_readText_94 (by decide) ?_
            have q50_100 : ((i : Int) + 1 : Int) = ((i + 1 : Nat) : Int) := by first | rfl | omega
            have q50_101 : (zI 0) = (zB (((pSemi tx n (pStmt tx n y).2).1) = 0)) := by exact (zB_f h82).symm
            refine zv_sub (lv' := [(0, .ref (ob E 1)), (1, .int (zB (((pSemi tx n (pStmt tx n y).2).1) = 0))), (2, .int (zI ((i + 1 : Nat) : Int)))]) [2, 1, 0] (zcons rfl (zcons (zqi q50_101) (zcons (zqI q50_100) rfl))) ?_
            refine zv_eqS (τ := τ79) (rfl) ?_
            exact ih ((i + 1, (pSemi tx n (pStmt tx n y).2).2, τ79, (pSemi tx n (pStmt tx n y).2).1)) (⟨by show i + 1 ≤ 900; omega, zRd_tr (zKp_tr hK0 (zRd_kp hp72.2 h75)) hp79.2, fun z => absurd z h82, fun _ => (by rw [← hE1, pRead, if_neg (by omega), if_neg (fun z => z h75), if_pos h82])⟩) (by show 900 - (i + 1) < 900 - i; omega)
          · skip
            skip
            refine zv_iconst (v := zI 1) C dX5_readText_85 rfl ?_
            refine zv_goto (tgt := 90) C dX5_readText_86 (by decide) ?_
            refine zv_istore_n (lv' := [(1, .int (zI 1)), (0, .ref (ob E 1)), (2, .int (zI (i : Int)))]) C dX5_readText_90 rfl (by decide) rfl ?_
            refine zv_iinc (v := (zI ((i : Int) + 1))) (lv' := [(2, .int (zI ((i : Int) + 1))), (1, .int (zI 1)), (0, .ref (ob E 1))]) C 2 dX5_readText_91 rfl (zI_add _ _) (by decide) rfl ?_
            refine zv_goto (tgt := 50) C dX5_readText_94 (by decide) ?_
            have q50_112 : ((i : Int) + 1 : Int) = ((i + 1 : Nat) : Int) := by first | rfl | omega
            have q50_113 : (zI 1) = (zB (((pSemi tx n (pStmt tx n y).2).1) = 0)) := by exact (zB_t h82).symm
            refine zv_sub (lv' := [(0, .ref (ob E 1)), (1, .int (zB (((pSemi tx n (pStmt tx n y).2).1) = 0))), (2, .int (zI ((i + 1 : Nat) : Int)))]) [2, 1, 0] (zcons rfl (zcons (zqi q50_113) (zcons (zqI q50_112) rfl))) ?_
            refine zv_eqS (τ := τ79) (rfl) ?_
            exact ih ((i + 1, (pSemi tx n (pStmt tx n y).2).2, τ79, (pSemi tx n (pStmt tx n y).2).1)) (⟨by show i + 1 ≤ 900; omega, zRd_tr (zKp_tr hK0 (zRd_kp hp72.2 h75)) hp79.2, fun _ => (by show pRead tx n (900 - (i + 1)) _ = _; rw [← hE1, pRead, if_neg (by omega), if_neg (fun z => z h75), if_neg (fun z => z h82), show 900 - (i + 1) = w by omega]), fun z => absurd h82 z⟩) (by show 900 - (i + 1) < 900 - i; omega)
