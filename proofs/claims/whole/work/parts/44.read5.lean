theorem pO_b (nm : Nat → Int64) (x : Int64) : ∀ n, -1 ≤ pO nm x n ∧ pO nm x n < n := by
  intro n
  induction n with
  | zero => exact ⟨Int.le_refl _, by show (-1 : Int) < 0; decide⟩
  | succ n ih =>
    unfold pO
    split
    · omega
    · split <;> omega
theorem pNam_0 {tx : Nat → Int} {n q : Nat} (h : pNam tx n q = 0) : tNm tx n q := by
  unfold pNam at h
  split at h
  · rename_i g; exact g
  · omega
theorem pNam_1 {tx : Nat → Int} {n q : Nat} (h : ¬ pNam tx n q = 0) : pNam tx n q = 1 := by
  unfold pNam at h ⊢
  split at h
  · omega
  · rename_i g; exact if_neg g
theorem zTk_p {σ : zS} {tx : Nat → Int} {n q : Nat} (h : zTk σ tx n q) (hn : tNm tx n q) : gJ σ 2 6 = tP tx n q := ((zTk_l h hn.1).1 hn.2.1).1
theorem zRd_kp {σ τ : zS} {tx : Nat → Int} {n c : Nat} {P : zPs} (h : zRd σ τ tx n c P) (hc : c = 0) : zKp σ τ := ⟨h.1, (h.2.1 hc).2⟩
/-- the parts of body j's train -/
def pPts (tx : Nat → Int) (n j : Nat) : Nat → Bool → zPs → Nat × zPs
  | 0, _, P => (0, P)
  | m + 1, b, P => if b = false ∧ pKd tx n P.q < 0 then (0, P) else if (pPart tx n j P).1 ≠ 0 then pPart tx n j P else pPts tx n j m false (pPart tx n j P).2
theorem pPts_a {tx : Nat → Int} {n j m : Nat} {P : zPs} (h : pKd tx n P.q < 0) : pPts tx n j (m + 1) false P = (0, P) := by rw [pPts, if_pos ⟨rfl, h⟩]
theorem pPts_b {tx : Nat → Int} {n j m : Nat} {b : Bool} {P : zPs} (h : b = true ∨ ¬ pKd tx n P.q < 0) (h2 : ¬ (pPart tx n j P).1 = 0) : pPts tx n j (m + 1) b P = pPart tx n j P := by
  rw [pPts, if_neg (fun z => h.elim (fun q => by rw [q] at z; cases z.1) (fun q => q z.2)), if_pos h2]
theorem pPts_c {tx : Nat → Int} {n j m : Nat} {b : Bool} {P : zPs} (h : b = true ∨ ¬ pKd tx n P.q < 0) (h2 : (pPart tx n j P).1 = 0) : pPts tx n j (m + 1) b P = pPts tx n j m false (pPart tx n j P).2 := by
  rw [pPts, if_neg (fun z => h.elim (fun q => by rw [q] at z; cases z.1) (fun q => q z.2)), if_neg (fun z => z h2)]
def pTrain (tx : Nat → Int) (n : Nat) (P : zPs) : Nat × zPs :=
  if pNam tx n (pAdv tx n P).q ≠ 0 then (1, pAdv tx n P) else if pO P.U.nm (tP tx n (pAdv tx n P).q) P.U.nb < 0 then (3, pAdv tx n P) else
  if 0 < P.S.tn (pO P.U.nm (tP tx n (pAdv tx n P).q) P.U.nb).toNat then (4, pAdv tx n P) else
  pPts tx n (pO P.U.nm (tP tx n (pAdv tx n P).q) P.U.nb).toNat 5 true (pAdv tx n (pAdv tx n P))
set_option maxRecDepth 20000 in
theorem c_X5_readTrain {l : Launch} (hfl : l.stackTraces = false) (E : zE) (σ : zS) (tx : Nat → Int) (n : Nat) (P : zPs) (hP : zPS σ tx n P) : zRi l E yX5_readTrain cX5_readTrain 4 .boolean (zrm 3 70) [.ref (ob E 1)] σ (fun r τ => r = zB ((pTrain tx n P).1 = 0) ∧ zRd σ τ tx n (pTrain tx n P).1 (pTrain tx n P).2) := by
  refine Met.ofW (cc := cX5_readTrain) (maxL := 4) (ret := (some .boolean)) (by decide +kernel) rfl ?_
  intro p e s m args below meth c s₁ B hml hv
  obtain ⟨rfl, hd⟩ := hv
  have C := zX_of (own := RX5) hfl B hml rfl hd rfl
  have hr := B.returns
  refine zV_go hd (Nat.le_of_ble_eq_true rfl) (lv := [(0, .ref (ob E 1))]) rfl ?_
  have hnb : P.U.nb ≤ 8 := hP.2.2.2.1.2.2.1
  refine zv_aload_n C 0 dX5_readTrain_0 rfl rfl ?_
  refine zG5_0 C (by decide : kd 1 = _) kX5_12 dX5_readTrain_1 ?_
  refine zv_cvv (st := []) C (c_X7_advance hfl E σ tx n (tE tx n P.q) hP.1 hP.2.1.2.2.1 (tE_n hP.2.2.1).2.1) mX7_advance kX5_110 (by decide : kd 2 = 7) rfl rfl rfl ⟨rfl, rfl⟩ (show zfit (zrm 1 21) 1 (zrm 3 70) = true from rfl) (Nat.le_of_ble_eq_true rfl) dX5_readTrain_4 ⟨Nat.zero_le _, Nat.zero_le _⟩ (fun τ4 hp4 => ?_)
  have hA4 := zPS_adv hP hp4.1 hp4.2.1 hp4.2.2
  refine zv_aload_n C 0 dX5_readTrain_7 rfl rfl ?_
  refine zv_cviD (st := []) C (c_X5_nameStands hfl E τ4 tx n (pAdv tx n P).q hA4.2.1) mX5_nameStands kX5_137 (by decide : kd 1 = 5) rfl rfl rfl ⟨rfl, rfl⟩ (show zfit (zrm 2 42) 1 (zrm 3 70) = true from rfl) (Nat.le_of_ble_eq_true rfl) dX5_readTrain_8 ⟨Nat.zero_le _, Nat.zero_le _⟩ ?_
  refine zv_if_neB (tgt := 16) C dX5_readTrain_11 (by decide) (fun h11 => ?_) (fun h11 => ?_)
  · skip
    refine zv_eqS (τ := τ4) (by rw [h11]; exact fC_0 _ _) ?_
    have hpob := pO_b P.U.nm (tP tx n (pAdv tx n P).q) P.U.nb
    refine zv_aload_n C 0 dX5_readTrain_16 rfl rfl ?_
    refine zG5_1 C (by decide : kd 1 = _) kX5_21 dX5_readTrain_17 ?_
    refine zv_aload_n C 0 dX5_readTrain_20 rfl rfl ?_
    refine zG5_0 C (by decide : kd 1 = _) kX5_12 dX5_readTrain_21 ?_
    refine zG7_6 C (by decide : kd 2 = _) kX5_140 dX5_readTrain_24 ?_
    refine zv_eql (y := (tP tx n (pAdv tx n P).q)) (zTk_p hA4.2.1 (pNam_0 h11)) ?_
    refine zv_cviD (st := []) C (c_X4_placeOf hfl E τ4 4 P.U.s0 P.U.nb P.U.nm P.U.pe P.U.re P.U.ca (tP tx n (pAdv tx n P).q) (by decide) hA4.2.2.2.1) mX4_placeOf kX5_144 (by decide : kd 4 = 4) rfl rfl rfl ⟨rfl, rfl⟩ (show zfit (zrm 0 0) 4 (zrm 3 70) = true from rfl) (Nat.le_of_ble_eq_true rfl) dX5_readTrain_27 ⟨Nat.zero_le _, Nat.zero_le _⟩ ?_
    refine zv_istore_n (lv' := [(1, .int (zI (pO P.U.nm (tP tx n (pAdv tx n P).q) P.U.nb))), (0, .ref (ob E 1))]) C dX5_readTrain_30 rfl (by decide) rfl ?_
    refine zv_iload_n C 0 dX5_readTrain_31 rfl rfl ?_
    refine zv_if_geZ (tgt := 41) C (by omega) dX5_readTrain_32 (by decide) (fun h32 => ?_) (fun h32 => ?_)
    · skip
      obtain ⟨j, hj⟩ : ∃ j : Nat, pO P.U.nm (tP tx n (pAdv tx n P).q) P.U.nb = (j : Int) := ⟨(pO P.U.nm (tP tx n (pAdv tx n P).q) P.U.nb).toNat, by omega⟩
      have hj2 : (pO P.U.nm (tP tx n (pAdv tx n P).q) P.U.nb).toNat = j := by omega
      have hj8 : j < 8 := by omega
      have hk8 : kd (9 + 4 + 2 * j) = 8 := ((zst (show kd 9 = 6 by decide)).2.2.2 j hj8).1
      have hTr : zTr τ4 (9 + 4 + 2 * j) (P.S.tn j) (P.S.tr j) := (hA4.2.2.2.2.1.2.2.2.2.2.2 j hj8).1
      have htn4 := hTr.2.1
      refine zv_aload_n C 1 dX5_readTrain_41 rfl rfl ?_
      refine zG5_2 C (by decide : kd 1 = _) kX5_28 dX5_readTrain_42 ?_
      refine zG6_5 C (by decide : kd 9 = _) kX5_166 dX5_readTrain_45 ?_
      refine zv_iload_n C 0 dX5_readTrain_48 rfl rfl ?_
      refine zv_tald (j := j) C (by decide : kd 12 = _) (zI_ix hj) (Nat.lt_of_lt_of_eq hj8 (by decide)) dX5_readTrain_49 ?_
      refine zv_astore_n (lv' := [(2, .ref (ob E (9 + 4 + 2 * j))), (1, .int (zI (pO P.U.nm (tP tx n (pAdv tx n P).q) P.U.nb))), (0, .ref (ob E 1))]) C dX5_readTrain_50 rfl (by decide) rfl ?_
      refine zv_aload_n C 0 dX5_readTrain_51 rfl rfl ?_
      refine zG8_1 C hk8 kX5_170 dX5_readTrain_52 ?_
      refine zv_eqi (y := (zI (P.S.tn j : Int))) (hTr.1) ?_
      refine zv_if_leZ (tgt := 64) C (by omega) dX5_readTrain_55 (by decide) (fun h55 => ?_) (fun h55 => ?_)
      · skip
        have hpt : pTrain tx n P = pPts tx n j 5 true (pAdv tx n (pAdv tx n P)) := by unfold pTrain; rw [if_neg (fun z => z h11), if_neg (by omega), hj2, if_neg (by omega)]
        refine zv_aload_n C 2 dX5_readTrain_64 rfl rfl ?_
        refine zG5_0 C (by decide : kd 1 = _) kX5_12 dX5_readTrain_65 ?_
        refine zv_cvv (st := []) C (c_X7_advance hfl E τ4 tx n (tE tx n (pAdv tx n P).q) hA4.1 hA4.2.1.2.2.1 (tE_n hA4.2.2.1).2.1) mX7_advance kX5_110 (by decide : kd 2 = 7) rfl rfl rfl ⟨rfl, rfl⟩ (show zfit (zrm 1 21) 1 (zrm 3 70) = true from rfl) (Nat.le_of_ble_eq_true rfl) dX5_readTrain_68 ⟨Nat.zero_le _, Nat.zero_le _⟩ (fun τ68 hp68 => ?_)
        have hA68 := zPS_adv hA4 hp68.1 hp68.2.1 hp68.2.2
        refine zv_iconst (v := zI 0) C dX5_readTrain_71 rfl ?_
        refine zv_istore_n (lv' := [(3, .int (zI 0)), (2, .ref (ob E (9 + 4 + 2 * j))), (1, .int (zI (pO P.U.nm (tP tx n (pAdv tx n P).q) P.U.nb))), (0, .ref (ob E 1))]) C dX5_readTrain_72 rfl (by decide) rfl ?_
        have q73_46 : (0 : Int) = (0 : Int) := by first | rfl | omega
        refine zv_sub (lv' := [(0, .ref (ob E 1)), (1, .int (zI (pO P.U.nm (tP tx n (pAdv tx n P).q) P.U.nb))), (2, .ref (ob E (9 + 4 + 2 * j))), (3, .int (zI (0 : Int)))]) [3, 2, 1, 0] (zcons rfl (zcons rfl (zcons rfl (zcons (zqI q73_46) rfl)))) ?_
        refine zv_eqS (τ := τ68) (rfl) ?_
        refine zv_while (α := Nat × zPs × zS) (fun v => 5 - v.1) (fun v => v.1 ≤ 5 ∧ zPS v.2.2 tx n v.2.1 ∧ zKp σ v.2.2 ∧ pPts tx n j (5 - v.1) (decide (v.1 = 0)) v.2.1 = pPts tx n j 5 true (pAdv tx n (pAdv tx n P))) (fun v => v.2.2) (fun v => [(0, .ref (ob E 1)), (1, .int (zI (pO P.U.nm (tP tx n (pAdv tx n P).q) P.U.nb))), (2, .ref (ob E (9 + 4 + 2 * j))), (3, .int (zI (v.1 : Int)))]) (fun v => []) (fun v hI ih => ?_) ((0, (pAdv tx n (pAdv tx n P)), τ68)) (⟨Nat.zero_le _, hA68, zKp_fr (zKp_fr (zKp_refl σ) hp4.2.1) hp68.2.1, rfl⟩)
        obtain ⟨i, y, u⟩ := v
        dsimp only at hI ih ⊢
        obtain ⟨hI, hY, hK, hE⟩ := hI
        have hkb := pKd_b tx n y.q
        refine zv_iload_n C 3 dX5_readTrain_73 rfl rfl ?_
        refine zv_iconst (v := zI 4) C dX5_readTrain_74 rfl ?_
        refine zv_icmp_gtZ (tgt := 105) C (by omega) (by omega) dX5_readTrain_75 (by decide) (fun h75 => ?_) (fun h75 => ?_)
        · skip
          have hpS : pTrain tx n P = (0, y) := by rw [hpt, ← hE, show 5 - i = 0 by omega]; rfl
          refine zv_iconst (v := zI 1) C dX5_readTrain_105 rfl ?_
          exact zv_iret C hr rfl dX5_readTrain_106 ⟨by rw [hpS]; rfl, by rw [hpS]; exact zRd_ok hY hK⟩
        · skip
          obtain ⟨w, hw⟩ : ∃ w, 5 - i = w + 1 := ⟨4 - i, by omega⟩
          rw [hw] at hE
          refine zv_iload_n C 3 dX5_readTrain_78 rfl rfl ?_
          refine zv_if_eqZ (tgt := 89) C (by omega) dX5_readTrain_79 (by decide) (fun h79 => ?_) (fun h79 => ?_)
          · skip
            have hfst : decide (i = 0) = true ∨ ¬ pKd tx n y.q < 0 := Or.inl (decide_eq_true (by omega))
            refine zv_aload_n C 0 dX5_readTrain_89 rfl rfl ?_
            refine zv_aload_n C 2 dX5_readTrain_90 rfl rfl ?_
            refine zv_cvi (st := []) C (c_X5_readPart hfl E u tx n j y hY hj8) mX5_readPart kX5_179 (by decide : kd 1 = 5) rfl rfl rfl ⟨rfl, rfl⟩ (show zfit (zrm 2 47) 4 (zrm 3 70) = true from rfl) (Nat.le_of_ble_eq_true rfl) dX5_readTrain_91 ⟨Nat.zero_le _, Nat.zero_le _⟩ (fun r91 τ91 hp91 => ?_)
            refine zv_eqi (y := zB ((pPart tx n j y).1 = 0)) hp91.1 ?_
            refine zv_if_neB (tgt := 99) C dX5_readTrain_94 (by decide) (fun h94 => ?_) (fun h94 => ?_)
            · skip
              refine zv_iinc (v := (zI ((i : Int) + 1))) (lv' := [(3, .int (zI ((i : Int) + 1))), (0, .ref (ob E 1)), (1, .int (zI (pO P.U.nm (tP tx n (pAdv tx n P).q) P.U.nb))), (2, .ref (ob E (9 + 4 + 2 * j)))]) C 3 dX5_readTrain_99 rfl (zI_add _ _) (by decide) rfl ?_
              refine zv_goto (tgt := 73) C dX5_readTrain_102 (by decide) ?_
              have q73_76 : ((i : Int) + 1 : Int) = ((i + 1 : Nat) : Int) := by first | rfl | omega
              refine zv_sub (lv' := [(0, .ref (ob E 1)), (1, .int (zI (pO P.U.nm (tP tx n (pAdv tx n P).q) P.U.nb))), (2, .ref (ob E (9 + 4 + 2 * j))), (3, .int (zI ((i + 1 : Nat) : Int)))]) [1, 2, 3, 0] (zcons rfl (zcons rfl (zcons rfl (zcons (zqI q73_76) rfl)))) ?_
              refine zv_eqS (τ := τ91) (rfl) ?_
              exact ih ((i + 1, (pPart tx n j y).2, τ91)) (⟨by show i + 1 ≤ 5; omega, (hp91.2.2.1 h94).1, zKp_tr hK (zRd_kp hp91.2 h94), (by show pPts tx n j (5 - (i + 1)) (decide (i + 1 = 0)) _ = _; rw [← hE, pPts_c hfst h94, show 5 - (i + 1) = w by omega]; rfl)⟩) (by show 5 - (i + 1) < 5 - i; omega)
            · skip
              have hpS : pTrain tx n P = pPart tx n j y := by rw [hpt, ← hE, pPts_b hfst h94]
              refine zv_iconst (v := zI 0) C dX5_readTrain_97 rfl ?_
              exact zv_iret C hr rfl dX5_readTrain_98 ⟨by rw [hpS]; exact (zB_f h94).symm, by rw [hpS]; exact zRd_tr hK hp91.2⟩
          · skip
            refine zv_aload_n C 0 dX5_readTrain_82 rfl rfl ?_
            refine zv_cviD (st := []) C (c_X5_kindOfPart hfl E u tx n y.q hY.2.1) mX5_kindOfPart kX5_175 (by decide : kd 1 = 5) rfl rfl rfl ⟨rfl, rfl⟩ (show zfit (zrm 1 21) 1 (zrm 3 70) = true from rfl) (Nat.le_of_ble_eq_true rfl) dX5_readTrain_83 ⟨Nat.zero_le _, Nat.zero_le _⟩ ?_
            refine zv_if_ltZ (tgt := 105) C (by omega) dX5_readTrain_86 (by decide) (fun h86 => ?_) (fun h86 => ?_)
            · skip
              have hpS : pTrain tx n P = (0, y) := by rw [hpt, ← hE, decide_eq_false (by omega), pPts_a h86]
              refine zv_iconst (v := zI 1) C dX5_readTrain_105 rfl ?_
              exact zv_iret C hr rfl dX5_readTrain_106 ⟨by rw [hpS]; rfl, by rw [hpS]; exact zRd_ok hY hK⟩
            · skip
              have hfst : decide (i = 0) = true ∨ ¬ pKd tx n y.q < 0 := Or.inr (by omega)
              refine zv_aload_n C 0 dX5_readTrain_89 rfl rfl ?_
              refine zv_aload_n C 2 dX5_readTrain_90 rfl rfl ?_
              refine zv_cvi (st := []) C (c_X5_readPart hfl E u tx n j y hY hj8) mX5_readPart kX5_179 (by decide : kd 1 = 5) rfl rfl rfl ⟨rfl, rfl⟩ (show zfit (zrm 2 47) 4 (zrm 3 70) = true from rfl) (Nat.le_of_ble_eq_true rfl) dX5_readTrain_91 ⟨Nat.zero_le _, Nat.zero_le _⟩ (fun r91 τ91 hp91 => ?_)
              refine zv_eqi (y := zB ((pPart tx n j y).1 = 0)) hp91.1 ?_
              refine zv_if_neB (tgt := 99) C dX5_readTrain_94 (by decide) (fun h94 => ?_) (fun h94 => ?_)
              · skip
                refine zv_iinc (v := (zI ((i : Int) + 1))) (lv' := [(3, .int (zI ((i : Int) + 1))), (0, .ref (ob E 1)), (1, .int (zI (pO P.U.nm (tP tx n (pAdv tx n P).q) P.U.nb))), (2, .ref (ob E (9 + 4 + 2 * j)))]) C 3 dX5_readTrain_99 rfl (zI_add _ _) (by decide) rfl ?_
                refine zv_goto (tgt := 73) C dX5_readTrain_102 (by decide) ?_
                have q73_102 : ((i : Int) + 1 : Int) = ((i + 1 : Nat) : Int) := by first | rfl | omega
                refine zv_sub (lv' := [(0, .ref (ob E 1)), (1, .int (zI (pO P.U.nm (tP tx n (pAdv tx n P).q) P.U.nb))), (2, .ref (ob E (9 + 4 + 2 * j))), (3, .int (zI ((i + 1 : Nat) : Int)))]) [1, 2, 3, 0] (zcons rfl (zcons rfl (zcons rfl (zcons (zqI q73_102) rfl)))) ?_
                refine zv_eqS (τ := τ91) (rfl) ?_
                exact ih ((i + 1, (pPart tx n j y).2, τ91)) (⟨by show i + 1 ≤ 5; omega, (hp91.2.2.1 h94).1, zKp_tr hK (zRd_kp hp91.2 h94), (by show pPts tx n j (5 - (i + 1)) (decide (i + 1 = 0)) _ = _; rw [← hE, pPts_c hfst h94, show 5 - (i + 1) = w by omega]; rfl)⟩) (by show 5 - (i + 1) < 5 - i; omega)
              · skip
                have hpS : pTrain tx n P = pPart tx n j y := by rw [hpt, ← hE, pPts_b hfst h94]
                refine zv_iconst (v := zI 0) C dX5_readTrain_97 rfl ?_
                exact zv_iret C hr rfl dX5_readTrain_98 ⟨by rw [hpS]; exact (zB_f h94).symm, by rw [hpS]; exact zRd_tr hK hp91.2⟩
      · skip
        have hp : pTrain tx n P = (4, (pAdv tx n P)) := by unfold pTrain; rw [if_neg (fun z => z h11), if_neg (by omega), hj2, if_pos (by omega)]
        refine zv_aload_n C 2 dX5_readTrain_58 rfl rfl ?_
        refine zv_iconst (v := zI 4) C dX5_readTrain_59 rfl ?_
        refine zv_cviD (st := []) C (c_X5_fail hfl E τ4 4 (tB tx n (pAdv tx n P).q) hA4.2.1.2.1) mX5_fail kX5_106 (by decide : kd 1 = 5) rfl rfl rfl ⟨rfl, rfl⟩ (show zfit (zrm 0 0) 2 (zrm 3 70) = true from rfl) (Nat.le_of_ble_eq_true rfl) dX5_readTrain_60 ⟨Nat.zero_le _, Nat.zero_le _⟩ ?_
        exact zv_iret C hr rfl dX5_readTrain_63 ⟨by rw [hp]; rfl, by rw [hp]; exact zRd_no (by decide) (zKp_fr (zKp_refl σ) hp4.2.1)⟩
    · skip
      have hp : pTrain tx n P = (3, (pAdv tx n P)) := by unfold pTrain; rw [if_neg (fun z => z h11), if_pos (by omega)]
      refine zv_aload_n C 1 dX5_readTrain_35 rfl rfl ?_
      refine zv_iconst (v := zI 3) C dX5_readTrain_36 rfl ?_
      refine zv_cviD (st := []) C (c_X5_fail hfl E τ4 3 (tB tx n (pAdv tx n P).q) hA4.2.1.2.1) mX5_fail kX5_106 (by decide : kd 1 = 5) rfl rfl rfl ⟨rfl, rfl⟩ (show zfit (zrm 0 0) 2 (zrm 3 70) = true from rfl) (Nat.le_of_ble_eq_true rfl) dX5_readTrain_37 ⟨Nat.zero_le _, Nat.zero_le _⟩ ?_
      exact zv_iret C hr rfl dX5_readTrain_40 ⟨by rw [hp]; rfl, by rw [hp]; exact zRd_no (by decide) (zKp_fr (zKp_refl σ) hp4.2.1)⟩
  · skip
    have hp : pTrain tx n P = (1, (pAdv tx n P)) := if_pos h11
    refine zv_iconst (v := zI 0) C dX5_readTrain_14 rfl ?_
    exact zv_iret C hr rfl dX5_readTrain_15 ⟨by rw [hp]; rfl, by rw [hp, fC_s h11, pNam_1 h11]; exact zRd_no (by decide) (zKp_fr (zKp_refl σ) hp4.2.1)⟩
