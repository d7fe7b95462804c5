/-- the first of the first n numbers with P, or -1 -/
def fi (P : Nat → Bool) : Nat → Int
  | 0 => -1
  | j + 1 => if 0 ≤ fi P j then fi P j else if P j = true then (j : Int) else -1
theorem fi_of {P : Nat → Bool} {j : Nat} (h : fi P j = -1) (hx : P j = true) : ∀ n, j < n → fi P n = (j : Int) := by
  intro n
  induction n with
  | zero => intro q; omega
  | succ n ih =>
    intro q
    rcases Nat.lt_or_ge j n with g | g
    · have := ih g
      simp only [fi, this]
      rw [if_pos (by omega)]
    · have : j = n := by omega
      subst this
      simp only [fi, h]
      rw [if_neg (by omega), if_pos hx]
theorem fi_s {P : Nat → Bool} {j : Nat} (h : fi P j = -1) (hx : ¬ P j = true) : fi P (j + 1) = -1 := by
  simp only [fi, h]
  rw [if_neg (by omega), if_neg hx]
theorem qPtr_k {σ σ' : zS} {k k' : Nat} {U : zSU} {S : zST} (h : zSUp σ k U) (hS : zSTp σ' k' S) {i : Nat} (hi : i < U.nb) : (qPtr U S i).1.natAbs ≤ 20000 * (qPtr U S i).2.natAbs := by
  have hnb := h.2.2.1
  have own : ∀ j, j < 8 → (tZ (S.tn j) (S.tr j)).natAbs ≤ 10000 * (tBot (S.tr j) (S.tn j)).natAbs ∧ 1 ≤ tBot (S.tr j) (S.tn j) := by
    intro j hj
    have hw := (hS.2.2.2.2.2.2 j hj).2
    have h1 := tZ_b hw
    have h2 := tBot_10000 _ _ hw _ (Nat.le_refl _)
    exact ⟨by omega, h2.1⟩
  have ho := own i (by omega)
  have hq : (qOwn S i).1.natAbs ≤ 10000 * (qOwn S i).2.natAbs := rT_k ho.2 ho.1
  unfold qPtr
  split
  · omega
  · have hc := (h.2.2.2.2 i hi).2.2.2.2.2.2
    have hj := own (U.ca i).toNat (by omega)
    exact rAd_k (K := 10000) (L := 10000) (qOwn_b hS (by omega)).2.1 hj.2 hq hj.1
/-- the drum by a day -/
def qDrum (U : zSU) (S : zST) (i : Nat) (d : Int) : Int := (qPtr U S i).1 * d * 1296000 / (qPtr U S i).2
theorem qDrum_e {σ σ' : zS} {k k' : Nat} {U : zSU} {S : zST} (h : zSUp σ k U) (hS : zSTp σ' k' S) {i : Nat} (hi : i < U.nb) (d : Int) : (qPtr U S i).1 * d / (qPtr U S i).2 * 1296000 + (qPtr U S i).1 * d % (qPtr U S i).2 * 1296000 / (qPtr U S i).2 = qDrum U S i d :=
  arc_split (by have := (qPtr_b h hS hi).2.1; omega)
theorem qDrum_b {σ σ' : zS} {k k' : Nat} {U : zSU} {S : zST} (h : zSUp σ k U) (hS : zSTp σ' k' S) {i : Nat} (hi : i < U.nb) {d : Int} (hd : 0 ≤ d ∧ d ≤ 400000) : -10368000000000000 ≤ qDrum U S i d ∧ qDrum U S i d ≤ 10368000000000000 := by
  have h1 := (qPtr_b h hS hi).2
  have h2 := qPtr_k h hS hi
  unfold qDrum
  generalize (qPtr U S i).1 = t at h2 ⊢
  generalize (qPtr U S i).2 = b at h1 h2 ⊢
  have h3 : -(20000 * b) ≤ t ∧ t ≤ 20000 * b := by omega
  rw [Int.mul_assoc]
  generalize hF : d * 1296000 = F
  have hF2 : 0 ≤ F ∧ F ≤ 518400000000 := by omega
  have h4 := Int.mul_le_mul_of_nonneg_right h3.2 hF2.1
  have h5 := Int.mul_le_mul_of_nonneg_right h3.1 hF2.1
  have h6 : 20000 * b * F ≤ 10368000000000000 * b := by
    have := Int.mul_le_mul_of_nonneg_left hF2.2 (show 0 ≤ 20000 * b by omega)
    omega
  have h7 : -(20000 * b) * F = -(20000 * b * F) := Int.neg_mul _ _
  exact ⟨Int.le_ediv_of_mul_le (by omega) (by omega), Int.ediv_le_of_le_mul (by omega) (by omega)⟩
def zSTq (S : zST) : Prop := S.dy ≤ 400000 ∧ ∀ i, i < 8 → 0 ≤ S.lg i ∧ S.lg i ≤ 10000000
set_option maxRecDepth 20000 in
theorem c_X10_shown {l : Launch} (hfl : l.stackTraces = false) (E : zE) (σ : zS) (U : zSU) (S : zST) (i : Nat) (hU : zSUp σ 29 U) (hS : zSTp σ 34 S) (hi : i < U.nb) (hq9 : zSTq S) : zRi l E yX10_shown cX10_shown 4 .int (zrm 4 105) [.ref (ob E 0), .int (zI (i : Int))] σ (fun r τ => r = zI ((qDrum U S i (S.dy : Int) + S.lg i) % 1296000) ∧ τ = (rW σ 320 (qPtr U S i).1 (qPtr U S i).2)) := by
  refine Met.ofW (cc := cX10_shown) (maxL := 4) (ret := (some .int)) (by decide +kernel) rfl ?_
  intro p e s m args below meth c s₁ B hml hv
  obtain ⟨rfl, hd⟩ := hv
  have C := zX_of (own := RX10) hfl B hml rfl hd rfl
  have hr := B.returns
  refine zV_go hd (Nat.le_of_ble_eq_true rfl) (lv := [(0, .ref (ob E 0)), (1, .int (zI (i : Int)))]) rfl ?_
  have hnb : U.nb ≤ 8 := hU.2.2.1
  have hs0 := hU.2.2.2.1
  have hi8 : i < 8 := by omega
  have hd4 := hq9.1
  have hlg := hq9.2 i hi8
  have hq := qPtr_b hU hS hi
  have hm := mul_b (b := (S.dy : Int)) (B := 400000) hq.1 (by omega)
  have hdb := qDrum_b hU hS hi (d := (S.dy : Int)) (by omega)
  refine zv_aload_n C 0 dX10_shown_0 rfl rfl ?_
  refine zv_iload_n C 1 dX10_shown_1 rfl rfl ?_
  refine zv_cvvD (st := []) C (c_X10_needBody hfl E σ U (i : Int) hU (by omega) (by omega)) mX10_needBody kX10_140 (by decide : kd 0 = 9) rfl rfl rfl ⟨rfl, rfl⟩ (show zfit (zrm 0 0) 2 (zrm 4 105) = true from rfl) (Nat.le_of_ble_eq_true rfl) dX10_shown_2 ⟨Nat.zero_le _, Nat.zero_le _⟩ ?_
  refine zv_aload_n C 0 dX10_shown_5 rfl rfl ?_
  refine zv_iload_n C 1 dX10_shown_6 rfl rfl ?_
  refine zv_aload_n C 0 dX10_shown_7 rfl rfl ?_
  refine zG9_6 C (by decide : kd 0 = _) kX10_54 dX10_shown_8 ?_
  refine zv_cvrD (st := []) C (c_X10_pointerOf hfl E σ U S i 320 hU hS hi (by decide)) mX10_pointerOf kX10_181 (by decide : kd 0 = 9) rfl rfl rfl ⟨rfl, rfl⟩ (show zfit (zrm 3 80) 6 (zrm 4 105) = true from rfl) (Nat.le_of_ble_eq_true rfl) dX10_shown_11 ⟨Nat.zero_le _, Nat.zero_le _⟩ ?_
  refine zv_aload_n C 0 dX10_shown_14 rfl rfl ?_
  refine zG9_2 C (by decide : kd 0 = _) kX10_26 dX10_shown_15 ?_
  refine zG6_3 C (by decide : kd 34 = _) kX10_130 dX10_shown_18 ?_
  refine zv_eqi (y := (zI (S.dy : Int))) (hS.2.2.2.2.1) ?_
  refine zv_cvlD (st := []) C (c_X3_drumBy hfl E (rW σ 320 (qPtr U S i).1 (qPtr U S i).2) 320 (qPtr U S i).1 (qPtr U S i).2 ((S.dy : Int)) (by decide) (rW_R _ _ _ _) (by omega) (by omega) (by omega)) mX3_drumBy kX10_334 (by decide : kd 320 = 3) rfl rfl rfl ⟨rfl, rfl⟩ (show zfit (zrm 2 46) 2 (zrm 4 105) = true from rfl) (Nat.le_of_ble_eq_true rfl) dX10_shown_21 ⟨Nat.zero_le _, Nat.zero_le _⟩ ?_
  refine zv_eql (y := (zL (qDrum U S i (S.dy : Int)))) (congrArg zL (qDrum_e hU hS hi _)) ?_
  refine zv_lstore_n (lv' := [(2, .long (zL (qDrum U S i (S.dy : Int)))), (0, .ref (ob E 0)), (1, .int (zI (i : Int)))]) C dX10_shown_24 rfl (by decide) rfl ?_
  refine zv_lload_n C 0 dX10_shown_25 rfl rfl ?_
  refine zv_aload_n C 1 dX10_shown_26 rfl rfl ?_
  refine zG9_2 C (by decide : kd 0 = _) kX10_26 dX10_shown_27 ?_
  refine zG6_4 C (by decide : kd 34 = _) kX10_310 dX10_shown_30 ?_
  refine zv_iload_n C 2 dX10_shown_33 rfl rfl ?_
  refine zv_iald (j := i) C (by decide : kd 36 = _) (zI_ix (by omega)) (Nat.lt_of_lt_of_eq (by omega) (by decide)) dX10_shown_34 ?_
  refine zv_eqi (y := (zI (S.lg i))) (hS.2.2.2.2.2.1 i hi8) ?_
  refine zv_i2lZ C (by omega) dX10_shown_35 ?_
  refine zv_laddZ C dX10_shown_36 ?_
  refine zv_ldcw C kX10_375 dX10_shown_37 ?_
  refine zv_eqi (y := zI 1296000) (by decide) ?_
  refine zv_csiD (st := []) C (c_J9_floorMod_1978a hfl E (rW σ 320 (qPtr U S i).1 (qPtr U S i).2) (qDrum U S i (S.dy : Int) + S.lg i) 1296000 (by omega) (by omega)) mJ9_floorMod_1978a kX10_376 rfl ⟨rfl, rfl⟩ (show zfit (zrm 1 25) 3 (zrm 4 105) = true from rfl) (Nat.le_of_ble_eq_true rfl) dX10_shown_40 ⟨Nat.zero_le _, Nat.zero_le _⟩ ?_
  exact zv_iret C hr rfl dX10_shown_43 ⟨rfl, rfl⟩
set_option maxRecDepth 20000 in
theorem x1_X10_shown {l : Launch} (hfl : l.stackTraces = false) (E : zE) (σ : zS) (U : zSU) (b : Int) (hU : zSUp σ 29 U) (hbi : -2147483648 ≤ b ∧ b < 2147483648) (hno : ¬ (0 ≤ b ∧ b < U.nb)) : zRx l E yX10_shown cX10_shown 4 (some .int) (zrx 9 200) [.ref (ob E 0), .int (zI b)] σ "java/lang/IndexOutOfBoundsException" := by
  refine vx_ofW (cc := cX10_shown) (maxL := 4) (ret := (some .int)) (by decide) rfl ?_
  intro p e s m args below meth c s₁ B hml hout hv
  obtain ⟨rfl, hd⟩ := hv
  have C := zX_of (own := RX10) hfl B hml rfl hd rfl
  have hr := B.returns
  refine zV_go hd (Nat.le_of_ble_eq_true rfl) (lv := [(0, .ref (ob E 0)), (1, .int (zI b))]) rfl ?_
  have hnb : U.nb ≤ 8 := hU.2.2.1
  have hs0 := hU.2.2.2.1
  
  refine zv_aload_n C 0 dX10_shown_0 rfl rfl ?_
  refine zv_iload_n C 1 dX10_shown_1 rfl rfl ?_
  exact zv_xcv (st := []) C (x_X10_needBody hfl E σ U b hU hbi hno) hout mX10_needBody kX10_140 (by decide : kd 0 = 9) rfl rfl rfl ⟨rfl, rfl⟩ (show zfit (zrx 6 100) 2 (zrx 9 200) = true from rfl) (Nat.le_of_ble_eq_true rfl) dX10_shown_2
def dMis (S : zST) (i : Nat) : Nat → Nat
  | 0 => 0
  | j + 1 => dMis S i j + (if sHas S.f (S.tr i j 1 : Int) S.n = true then 0 else 1) + (if S.tr i j 0 ≠ 2 ∧ ¬ sHas S.f (S.tr i j 2 : Int) S.n = true then 1 else 0)
def dUse (S : zST) (t : Int) : Nat → Nat
  | 0 => 0
  | i + 1 => dUse S t i + tWh (S.tr i) t (S.tn i)
set_option maxRecDepth 20000 in
theorem c_X10_missing {l : Launch} (hfl : l.stackTraces = false) (E : zE) (σ : zS) (U : zSU) (S : zST) (i : Nat) (hU : zSUp σ 29 U) (hS : zSTp σ 34 S) (hi : i < U.nb) : zRi l E yX10_missing cX10_missing 5 .int (zrm 2 44) [.ref (ob E 0), .int (zI (i : Int))] σ (fun r τ => r = zI (dMis S i (S.tn i) : Int) ∧ τ = σ) := by
  refine Met.ofW (cc := cX10_missing) (maxL := 5) (ret := (some .int)) (by decide +kernel) rfl ?_
  intro p e s m args below meth c s₁ B hml hv
  obtain ⟨rfl, hd⟩ := hv
  have C := zX_of (own := RX10) hfl B hml rfl hd rfl
  have hr := B.returns
  refine zV_go hd (Nat.le_of_ble_eq_true rfl) (lv := [(0, .ref (ob E 0)), (1, .int (zI (i : Int)))]) rfl ?_
  have hnb : U.nb ≤ 8 := hU.2.2.1
  have hs0 := hU.2.2.2.1
  have hi8 : i < 8 := by omega
  have hki : kd (34 + 4 + 2 * i) = 8 := ((zst (show kd 34 = 6 by decide)).2.2.2 i hi8).1
  have hT := (hS.2.2.2.2.2.2 i hi8).1
  have hTw := (hS.2.2.2.2.2.2 i hi8).2
  have ht4 := hT.2.1
  refine zv_aload_n C 0 dX10_missing_0 rfl rfl ?_
  refine zv_iload_n C 1 dX10_missing_1 rfl rfl ?_
  refine zv_cvvD (st := []) C (c_X10_needBody hfl E σ U (i : Int) hU (by omega) (by omega)) mX10_needBody kX10_140 (by decide : kd 0 = 9) rfl rfl rfl ⟨rfl, rfl⟩ (show zfit (zrm 0 0) 2 (zrm 2 44) = true from rfl) (Nat.le_of_ble_eq_true rfl) dX10_missing_2 ⟨Nat.zero_le _, Nat.zero_le _⟩ ?_
  refine zv_aload_n C 0 dX10_missing_5 rfl rfl ?_
  refine zG9_2 C (by decide : kd 0 = _) kX10_26 dX10_missing_6 ?_
  refine zG6_5 C (by decide : kd 34 = _) kX10_154 dX10_missing_9 ?_
  refine zv_iload_n C 1 dX10_missing_12 rfl rfl ?_
  refine zv_tald (j := i) C (by decide : kd 37 = _) (zI_ix (by omega)) (Nat.lt_of_lt_of_eq (by omega) (by decide)) dX10_missing_13 ?_
  refine zv_astore_n (lv' := [(2, .ref (ob E (34 + 4 + 2 * i))), (0, .ref (ob E 0)), (1, .int (zI (i : Int)))]) C dX10_missing_14 rfl (by decide) rfl ?_
  refine zv_iconst (v := zI 0) C dX10_missing_15 rfl ?_
  refine zv_istore_n (lv' := [(3, .int (zI 0)), (2, .ref (ob E (34 + 4 + 2 * i))), (0, .ref (ob E 0)), (1, .int (zI (i : Int)))]) C dX10_missing_16 rfl (by decide) rfl ?_
  refine zv_iconst (v := zI 0) C dX10_missing_17 rfl ?_
  refine zv_istore (lv' := [(4, .int (zI 0)), (3, .int (zI 0)), (2, .ref (ob E (34 + 4 + 2 * i))), (0, .ref (ob E 0)), (1, .int (zI (i : Int)))]) C dX10_missing_18  (by decide) rfl ?_
  have q20_20 : (0 : Int) = (0 : Int) := by first | rfl | omega
  have q20_21 : (0 : Int) = (dMis S i 0 : Int) := by first | rfl | omega
  refine zv_sub (lv' := [(0, .ref (ob E 0)), (2, .ref (ob E (34 + 4 + 2 * i))), (3, .int (zI (dMis S i 0 : Int))), (4, .int (zI (0 : Int)))]) [3, 2, 1, 0] (zcons rfl (zcons rfl (zcons (zqI q20_21) (zcons (zqI q20_20) rfl)))) ?_
  refine zv_while (α := Nat) (fun v => S.tn i - v) (fun v => v ≤ S.tn i) (fun v => σ) (fun v => [(0, .ref (ob E 0)), (2, .ref (ob E (34 + 4 + 2 * i))), (3, .int (zI (dMis S i v : Int))), (4, .int (zI (v : Int)))]) (fun v => []) (fun j hI ih => ?_) (0) (by omega)
  refine zv_iload C 3 dX10_missing_20 rfl ?_
  refine zv_aload_n C 1 dX10_missing_22 rfl rfl ?_
  refine zG8_1 C hki kX10_158 dX10_missing_23 ?_
  refine zv_eqi (y := zI (S.tn i : Int)) (hT.1) ?_
  refine zv_icmp_geZ (tgt := 84) C (by omega) (by omega) dX10_missing_26 (by decide) (fun h26 => ?_) (fun h26 => ?_)
  · skip
    refine zv_iload_n C 2 dX10_missing_84 rfl rfl ?_
    exact zv_iret C hr rfl dX10_missing_85 ⟨by rw [show j = S.tn i by omega], rfl⟩
  · skip
    refine zv_aload_n C 0 dX10_missing_29 rfl rfl ?_
    refine zG9_2 C (by decide : kd 0 = _) kX10_26 dX10_missing_30 ?_
    refine zv_aload_n C 1 dX10_missing_33 rfl rfl ?_
    refine zv_iload C 3 dX10_missing_34 rfl ?_
    refine zv_iconst (v := zI 1) C dX10_missing_36 rfl ?_
    refine zv_cviD (st := [.ref (ob E 34)]) C (c_X8_cell hfl E σ (34 + 4 + 2 * i) j 1 hki (by omega) (by omega)) mX8_cell kX10_172 hki rfl rfl rfl ⟨rfl, rfl⟩ (show zfit (zrm 0 0) 4 (zrm 2 44) = true from rfl) (Nat.le_of_ble_eq_true rfl) dX10_missing_37 ⟨Nat.zero_le _, Nat.zero_le _⟩ ?_
    refine zv_eqi (y := (zI (S.tr i j 1 : Int))) (hT.2.2.1 j 1 (by omega) (by omega)) ?_
    refine zv_cviD (st := []) C (c_X6_hasStock hfl E σ 34 S.n S.f (S.tr i j 1 : Int) (by decide) hS.1 (by have := hT.2.2.2 j 1 (by omega) (by omega); omega)) mX6_hasStock kX10_289 (by decide : kd 34 = 6) rfl rfl rfl ⟨rfl, rfl⟩ (show zfit (zrm 0 0) 3 (zrm 2 44) = true from rfl) (Nat.le_of_ble_eq_true rfl) dX10_missing_40 ⟨Nat.zero_le _, Nat.zero_le _⟩ ?_
    refine zv_if_neB (tgt := 49) C dX10_missing_43 (by decide) (fun h43 => ?_) (fun h43 => ?_)
    · skip
      refine zv_aload_n C 1 dX10_missing_49 rfl rfl ?_
      refine zv_iload C 3 dX10_missing_50 rfl ?_
      refine zv_cviD (st := []) C (c_X8_isGeared hfl E σ (34 + 4 + 2 * i) (S.tn i) (S.tr i) j hki hT (by omega)) mX8_isGeared kX10_293 hki rfl rfl rfl ⟨rfl, rfl⟩ (show zfit (zrm 1 23) 2 (zrm 2 44) = true from rfl) (Nat.le_of_ble_eq_true rfl) dX10_missing_52 ⟨Nat.zero_le _, Nat.zero_le _⟩ ?_
      refine zv_if_eqB (tgt := 78) C dX10_missing_55 (by decide) (fun h55 => ?_) (fun h55 => ?_)
      · skip
        refine zv_iinc (v := (zI ((j : Int) + 1))) (lv' := [(4, .int (zI ((j : Int) + 1))), (0, .ref (ob E 0)), (2, .ref (ob E (34 + 4 + 2 * i))), (3, .int (zI (dMis S i j : Int)))]) C 3 dX10_missing_78 rfl (zI_add _ _) (by decide) rfl ?_
        refine zv_goto (tgt := 20) C dX10_missing_81 (by decide) ?_
        have q20_50 : ((j : Int) + 1 : Int) = ((j + 1 : Nat) : Int) := by first | rfl | omega
        have q20_51 : ((dMis S i j : Int) : Int) = (dMis S i (j + 1) : Int) := by simp only [dMis]; split <;> split <;> first | omega | contradiction | (exfalso; rename_i q; first | exact absurd q.1 (by assumption) | exact q.2 (by assumption) | exact q ⟨by assumption, by assumption⟩)
        refine zv_sub (lv' := [(0, .ref (ob E 0)), (2, .ref (ob E (34 + 4 + 2 * i))), (3, .int (zI (dMis S i (j + 1) : Int))), (4, .int (zI ((j + 1 : Nat) : Int)))]) [1, 2, 3, 0] (zcons rfl (zcons rfl (zcons (zqI q20_51) (zcons (zqI q20_50) rfl)))) ?_
        exact ih (j + 1) (by omega) (by omega)
      · skip
        refine zv_aload_n C 0 dX10_missing_58 rfl rfl ?_
        refine zG9_2 C (by decide : kd 0 = _) kX10_26 dX10_missing_59 ?_
        refine zv_aload_n C 1 dX10_missing_62 rfl rfl ?_
        refine zv_iload C 3 dX10_missing_63 rfl ?_
        refine zv_iconst (v := zI 2) C dX10_missing_65 rfl ?_
        refine zv_cviD (st := [.ref (ob E 34)]) C (c_X8_cell hfl E σ (34 + 4 + 2 * i) j 2 hki (by omega) (by omega)) mX8_cell kX10_172 hki rfl rfl rfl ⟨rfl, rfl⟩ (show zfit (zrm 0 0) 4 (zrm 2 44) = true from rfl) (Nat.le_of_ble_eq_true rfl) dX10_missing_66 ⟨Nat.zero_le _, Nat.zero_le _⟩ ?_
        refine zv_eqi (y := (zI (S.tr i j 2 : Int))) (hT.2.2.1 j 2 (by omega) (by omega)) ?_
        refine zv_cviD (st := []) C (c_X6_hasStock hfl E σ 34 S.n S.f (S.tr i j 2 : Int) (by decide) hS.1 (by have := hT.2.2.2 j 2 (by omega) (by omega); omega)) mX6_hasStock kX10_289 (by decide : kd 34 = 6) rfl rfl rfl ⟨rfl, rfl⟩ (show zfit (zrm 0 0) 3 (zrm 2 44) = true from rfl) (Nat.le_of_ble_eq_true rfl) dX10_missing_69 ⟨Nat.zero_le _, Nat.zero_le _⟩ ?_
        refine zv_if_neB (tgt := 78) C dX10_missing_72 (by decide) (fun h72 => ?_) (fun h72 => ?_)
        · skip
          refine zv_iinc (v := (zI ((j : Int) + 1))) (lv' := [(4, .int (zI ((j : Int) + 1))), (0, .ref (ob E 0)), (2, .ref (ob E (34 + 4 + 2 * i))), (3, .int (zI (dMis S i j : Int)))]) C 3 dX10_missing_78 rfl (zI_add _ _) (by decide) rfl ?_
          refine zv_goto (tgt := 20) C dX10_missing_81 (by decide) ?_
          have q20_67 : ((j : Int) + 1 : Int) = ((j + 1 : Nat) : Int) := by first | rfl | omega
          have q20_68 : ((dMis S i j : Int) : Int) = (dMis S i (j + 1) : Int) := by simp only [dMis]; split <;> split <;> first | omega | contradiction | (exfalso; rename_i q; first | exact absurd q.1 (by assumption) | exact q.2 (by assumption) | exact q ⟨by assumption, by assumption⟩)
          refine zv_sub (lv' := [(0, .ref (ob E 0)), (2, .ref (ob E (34 + 4 + 2 * i))), (3, .int (zI (dMis S i (j + 1) : Int))), (4, .int (zI ((j + 1 : Nat) : Int)))]) [1, 2, 3, 0] (zcons rfl (zcons rfl (zcons (zqI q20_68) (zcons (zqI q20_67) rfl)))) ?_
          exact ih (j + 1) (by omega) (by omega)
        · skip
          refine zv_iinc (v := (zI ((dMis S i j : Int) + 1))) (lv' := [(3, .int (zI ((dMis S i j : Int) + 1))), (0, .ref (ob E 0)), (2, .ref (ob E (34 + 4 + 2 * i))), (4, .int (zI (j : Int)))]) C 2 dX10_missing_75 rfl (zI_add _ _) (by decide) rfl ?_
          refine zv_iinc (v := (zI ((j : Int) + 1))) (lv' := [(4, .int (zI ((j : Int) + 1))), (3, .int (zI ((dMis S i j : Int) + 1))), (0, .ref (ob E 0)), (2, .ref (ob E (34 + 4 + 2 * i)))]) C 3 dX10_missing_78 rfl (zI_add _ _) (by decide) rfl ?_
          refine zv_goto (tgt := 20) C dX10_missing_81 (by decide) ?_
          have q20_75 : ((j : Int) + 1 : Int) = ((j + 1 : Nat) : Int) := by first | rfl | omega
          have q20_76 : ((dMis S i j : Int) + 1 : Int) = (dMis S i (j + 1) : Int) := by simp only [dMis]; split <;> split <;> first | omega | contradiction | (exfalso; rename_i q; first | exact absurd q.1 (by assumption) | exact q.2 (by assumption) | exact q ⟨by assumption, by assumption⟩)
          refine zv_sub (lv' := [(0, .ref (ob E 0)), (2, .ref (ob E (34 + 4 + 2 * i))), (3, .int (zI (dMis S i (j + 1) : Int))), (4, .int (zI ((j + 1 : Nat) : Int)))]) [2, 3, 1, 0] (zcons rfl (zcons rfl (zcons (zqI q20_76) (zcons (zqI q20_75) rfl)))) ?_
          exact ih (j + 1) (by omega) (by omega)
    · skip
      refine zv_iinc (v := (zI ((dMis S i j : Int) + 1))) (lv' := [(3, .int (zI ((dMis S i j : Int) + 1))), (0, .ref (ob E 0)), (2, .ref (ob E (34 + 4 + 2 * i))), (4, .int (zI (j : Int)))]) C 2 dX10_missing_46 rfl (zI_add _ _) (by decide) rfl ?_
      refine zv_aload_n C 2 dX10_missing_49 rfl rfl ?_
      refine zv_iload C 3 dX10_missing_50 rfl ?_
      refine zv_cviD (st := []) C (c_X8_isGeared hfl E σ (34 + 4 + 2 * i) (S.tn i) (S.tr i) j hki hT (by omega)) mX8_isGeared kX10_293 hki rfl rfl rfl ⟨rfl, rfl⟩ (show zfit (zrm 1 23) 2 (zrm 2 44) = true from rfl) (Nat.le_of_ble_eq_true rfl) dX10_missing_52 ⟨Nat.zero_le _, Nat.zero_le _⟩ ?_
      refine zv_if_eqB (tgt := 78) C dX10_missing_55 (by decide) (fun h55 => ?_) (fun h55 => ?_)
      · skip
        refine zv_iinc (v := (zI ((j : Int) + 1))) (lv' := [(4, .int (zI ((j : Int) + 1))), (3, .int (zI ((dMis S i j : Int) + 1))), (0, .ref (ob E 0)), (2, .ref (ob E (34 + 4 + 2 * i)))]) C 3 dX10_missing_78 rfl (zI_add _ _) (by decide) rfl ?_
        refine zv_goto (tgt := 20) C dX10_missing_81 (by decide) ?_
        have q20_88 : ((j : Int) + 1 : Int) = ((j + 1 : Nat) : Int) := by first | rfl | omega
        have q20_89 : ((dMis S i j : Int) + 1 : Int) = (dMis S i (j + 1) : Int) := by simp only [dMis]; split <;> split <;> first | omega | contradiction | (exfalso; rename_i q; first | exact absurd q.1 (by assumption) | exact q.2 (by assumption) | exact q ⟨by assumption, by assumption⟩)
        refine zv_sub (lv' := [(0, .ref (ob E 0)), (2, .ref (ob E (34 + 4 + 2 * i))), (3, .int (zI (dMis S i (j + 1) : Int))), (4, .int (zI ((j + 1 : Nat) : Int)))]) [2, 3, 1, 0] (zcons rfl (zcons rfl (zcons (zqI q20_89) (zcons (zqI q20_88) rfl)))) ?_
        exact ih (j + 1) (by omega) (by omega)
      · skip
        refine zv_aload_n C 1 dX10_missing_58 rfl rfl ?_
        refine zG9_2 C (by decide : kd 0 = _) kX10_26 dX10_missing_59 ?_
        refine zv_aload_n C 2 dX10_missing_62 rfl rfl ?_
        refine zv_iload C 3 dX10_missing_63 rfl ?_
        refine zv_iconst (v := zI 2) C dX10_missing_65 rfl ?_
        refine zv_cviD (st := [.ref (ob E 34)]) C (c_X8_cell hfl E σ (34 + 4 + 2 * i) j 2 hki (by omega) (by omega)) mX8_cell kX10_172 hki rfl rfl rfl ⟨rfl, rfl⟩ (show zfit (zrm 0 0) 4 (zrm 2 44) = true from rfl) (Nat.le_of_ble_eq_true rfl) dX10_missing_66 ⟨Nat.zero_le _, Nat.zero_le _⟩ ?_
        refine zv_eqi (y := (zI (S.tr i j 2 : Int))) (hT.2.2.1 j 2 (by omega) (by omega)) ?_
        refine zv_cviD (st := []) C (c_X6_hasStock hfl E σ 34 S.n S.f (S.tr i j 2 : Int) (by decide) hS.1 (by have := hT.2.2.2 j 2 (by omega) (by omega); omega)) mX6_hasStock kX10_289 (by decide : kd 34 = 6) rfl rfl rfl ⟨rfl, rfl⟩ (show zfit (zrm 0 0) 3 (zrm 2 44) = true from rfl) (Nat.le_of_ble_eq_true rfl) dX10_missing_69 ⟨Nat.zero_le _, Nat.zero_le _⟩ ?_
        refine zv_if_neB (tgt := 78) C dX10_missing_72 (by decide) (fun h72 => ?_) (fun h72 => ?_)
        · skip
          refine zv_iinc (v := (zI ((j : Int) + 1))) (lv' := [(4, .int (zI ((j : Int) + 1))), (3, .int (zI ((dMis S i j : Int) + 1))), (0, .ref (ob E 0)), (2, .ref (ob E (34 + 4 + 2 * i)))]) C 3 dX10_missing_78 rfl (zI_add _ _) (by decide) rfl ?_
          refine zv_goto (tgt := 20) C dX10_missing_81 (by decide) ?_
          have q20_105 : ((j : Int) + 1 : Int) = ((j + 1 : Nat) : Int) := by first | rfl | omega
          have q20_106 : ((dMis S i j : Int) + 1 : Int) = (dMis S i (j + 1) : Int) := by simp only [dMis]; split <;> split <;> first | omega | contradiction | (exfalso; rename_i q; first | exact absurd q.1 (by assumption) | exact q.2 (by assumption) | exact q ⟨by assumption, by assumption⟩)
          refine zv_sub (lv' := [(0, .ref (ob E 0)), (2, .ref (ob E (34 + 4 + 2 * i))), (3, .int (zI (dMis S i (j + 1) : Int))), (4, .int (zI ((j + 1 : Nat) : Int)))]) [2, 3, 1, 0] (zcons rfl (zcons rfl (zcons (zqI q20_106) (zcons (zqI q20_105) rfl)))) ?_
          exact ih (j + 1) (by omega) (by omega)
        · skip
          refine zv_iinc (v := (zI ((dMis S i j : Int) + 1 + 1))) (lv' := [(3, .int (zI ((dMis S i j : Int) + 1 + 1))), (0, .ref (ob E 0)), (2, .ref (ob E (34 + 4 + 2 * i))), (4, .int (zI (j : Int)))]) C 0 dX10_missing_75 rfl (zI_add _ _) (by decide) rfl ?_
          refine zv_iinc (v := (zI ((j : Int) + 1))) (lv' := [(4, .int (zI ((j : Int) + 1))), (3, .int (zI ((dMis S i j : Int) + 1 + 1))), (0, .ref (ob E 0)), (2, .ref (ob E (34 + 4 + 2 * i)))]) C 3 dX10_missing_78 rfl (zI_add _ _) (by decide) rfl ?_
          refine zv_goto (tgt := 20) C dX10_missing_81 (by decide) ?_
          have q20_113 : ((j : Int) + 1 : Int) = ((j + 1 : Nat) : Int) := by first | rfl | omega
          have q20_114 : ((dMis S i j : Int) + 1 + 1 : Int) = (dMis S i (j + 1) : Int) := by simp only [dMis]; split <;> split <;> first | omega | contradiction | (exfalso; rename_i q; first | exact absurd q.1 (by assumption) | exact q.2 (by assumption) | exact q ⟨by assumption, by assumption⟩)
          refine zv_sub (lv' := [(0, .ref (ob E 0)), (2, .ref (ob E (34 + 4 + 2 * i))), (3, .int (zI (dMis S i (j + 1) : Int))), (4, .int (zI ((j + 1 : Nat) : Int)))]) [2, 3, 1, 0] (zcons rfl (zcons rfl (zcons (zqI q20_114) (zcons (zqI q20_113) rfl)))) ?_
          exact ih (j + 1) (by omega) (by omega)
set_option maxRecDepth 20000 in
theorem x1_X10_missing {l : Launch} (hfl : l.stackTraces = false) (E : zE) (σ : zS) (U : zSU) (b : Int) (hU : zSUp σ 29 U) (hbi : -2147483648 ≤ b ∧ b < 2147483648) (hno : ¬ (0 ≤ b ∧ b < U.nb)) : zRx l E yX10_missing cX10_missing 5 (some .int) (zrx 9 200) [.ref (ob E 0), .int (zI b)] σ "java/lang/IndexOutOfBoundsException" := by
  refine vx_ofW (cc := cX10_missing) (maxL := 5) (ret := (some .int)) (by decide) rfl ?_
  intro p e s m args below meth c s₁ B hml hout hv
  obtain ⟨rfl, hd⟩ := hv
  have C := zX_of (own := RX10) hfl B hml rfl hd rfl
  have hr := B.returns
  refine zV_go hd (Nat.le_of_ble_eq_true rfl) (lv := [(0, .ref (ob E 0)), (1, .int (zI b))]) rfl ?_
  have hnb : U.nb ≤ 8 := hU.2.2.1
  have hs0 := hU.2.2.2.1
  
  refine zv_aload_n C 0 dX10_missing_0 rfl rfl ?_
  refine zv_iload_n C 1 dX10_missing_1 rfl rfl ?_
  exact zv_xcv (st := []) C (x_X10_needBody hfl E σ U b hU hbi hno) hout mX10_needBody kX10_140 (by decide : kd 0 = 9) rfl rfl rfl ⟨rfl, rfl⟩ (show zfit (zrx 6 100) 2 (zrx 9 200) = true from rfl) (Nat.le_of_ble_eq_true rfl) dX10_missing_2
set_option maxRecDepth 20000 in
theorem c_X10_uses {l : Launch} (hfl : l.stackTraces = false) (E : zE) (σ : zS) (U : zSU) (S : zST) (t : Int) (hU : zSUp σ 29 U) (hS : zSTp σ 34 S) (ht : -2147483648 ≤ t ∧ t < 2147483648) : zRi l E yX10_uses cX10_uses 4 .int (zrm 3 67) [.ref (ob E 0), .int (zI t)] σ (fun r τ => r = zI (dUse S t U.nb : Int) ∧ τ = σ) := by
  refine Met.ofW (cc := cX10_uses) (maxL := 4) (ret := (some .int)) (by decide +kernel) rfl ?_
  intro p e s m args below meth c s₁ B hml hv
  obtain ⟨rfl, hd⟩ := hv
  have C := zX_of (own := RX10) hfl B hml rfl hd rfl
  have hr := B.returns
  refine zV_go hd (Nat.le_of_ble_eq_true rfl) (lv := [(0, .ref (ob E 0)), (1, .int (zI t))]) rfl ?_
  have hnb : U.nb ≤ 8 := hU.2.2.1
  have hs0 := hU.2.2.2.1
  
  refine zv_iconst (v := zI 0) C dX10_uses_0 rfl ?_
  refine zv_istore_n (lv' := [(2, .int (zI 0)), (0, .ref (ob E 0)), (1, .int (zI t))]) C dX10_uses_1 rfl (by decide) rfl ?_
  refine zv_iconst (v := zI 0) C dX10_uses_2 rfl ?_
  refine zv_istore_n (lv' := [(3, .int (zI 0)), (2, .int (zI 0)), (0, .ref (ob E 0)), (1, .int (zI t))]) C dX10_uses_3 rfl (by decide) rfl ?_
  have q4_7 : (0 : Int) = (0 : Int) := by first | rfl | omega
  have q4_8 : (0 : Int) = (dUse S t 0 : Int) := by first | rfl | omega
  refine zv_sub (lv' := [(0, .ref (ob E 0)), (1, .int (zI t)), (2, .int (zI (dUse S t 0 : Int))), (3, .int (zI (0 : Int)))]) [2, 3, 1, 0] (zcons rfl (zcons rfl (zcons (zqI q4_8) (zcons (zqI q4_7) rfl)))) ?_
  refine zv_while (α := Nat) (fun v => U.nb - v) (fun v => v ≤ U.nb) (fun v => σ) (fun v => [(0, .ref (ob E 0)), (1, .int (zI t)), (2, .int (zI (dUse S t v : Int))), (3, .int (zI (v : Int)))]) (fun v => []) (fun j hI ih => ?_) (0) (by omega)
  refine zv_iload_n C 3 dX10_uses_4 rfl rfl ?_
  refine zv_aload_n C 0 dX10_uses_5 rfl rfl ?_
  refine zG9_1 C (by decide : kd 0 = _) kX10_19 dX10_uses_6 ?_
  refine zG4_1 C (by decide : kd 29 = _) kX10_108 dX10_uses_9 ?_
  refine zv_eqi (y := zI (U.nb : Int)) (hU.2.1) ?_
  refine zv_icmp_geZ (tgt := 37) C (by omega) (by omega) dX10_uses_12 (by decide) (fun h12 => ?_) (fun h12 => ?_)
  · skip
    refine zv_iload_n C 2 dX10_uses_37 rfl rfl ?_
    exact zv_iret C hr rfl dX10_uses_38 ⟨by rw [show j = U.nb by omega], rfl⟩
  · skip
    have hj8 : j < 8 := by omega
    have hkj : kd (34 + 4 + 2 * j) = 8 := ((zst (show kd 34 = 6 by decide)).2.2.2 j hj8).1
    refine zv_iload_n C 2 dX10_uses_15 rfl rfl ?_
    refine zv_aload_n C 0 dX10_uses_16 rfl rfl ?_
    refine zG9_2 C (by decide : kd 0 = _) kX10_26 dX10_uses_17 ?_
    refine zG6_5 C (by decide : kd 34 = _) kX10_154 dX10_uses_20 ?_
    refine zv_iload_n C 3 dX10_uses_23 rfl rfl ?_
    refine zv_tald (j := j) C (by decide : kd 37 = _) (zI_ix rfl) (Nat.lt_of_lt_of_eq hj8 (by decide)) dX10_uses_24 ?_
    refine zv_iload_n C 1 dX10_uses_25 rfl rfl ?_
    refine zv_cviD (st := [.int (zI (dUse S t j : Int))]) C (c_X8_wheelsWith hfl E σ (34 + 4 + 2 * j) (S.tn j) (S.tr j) t hkj (hS.2.2.2.2.2.2 j hj8).1 ht) mX8_wheelsWith kX10_296 hkj rfl rfl rfl ⟨rfl, rfl⟩ (show zfit (zrm 2 44) 4 (zrm 3 67) = true from rfl) (Nat.le_of_ble_eq_true rfl) dX10_uses_26 ⟨Nat.zero_le _, Nat.zero_le _⟩ ?_
    refine zv_iaddZ C dX10_uses_29 ?_
    refine zv_eqi (y := (zI (dUse S t (j + 1) : Int))) (by rw [dUse, Int.natCast_add]) ?_
    refine zv_istore_n (lv' := [(2, .int (zI (dUse S t (j + 1) : Int))), (0, .ref (ob E 0)), (1, .int (zI t)), (3, .int (zI (j : Int)))]) C dX10_uses_30 rfl (by decide) rfl ?_
    refine zv_iinc (v := (zI ((j : Int) + 1))) (lv' := [(3, .int (zI ((j : Int) + 1))), (2, .int (zI (dUse S t (j + 1) : Int))), (0, .ref (ob E 0)), (1, .int (zI t))]) C 3 dX10_uses_31 rfl (zI_add _ _) (by decide) rfl ?_
    refine zv_goto (tgt := 4) C dX10_uses_34 (by decide) ?_
    have q4_36 : ((j : Int) + 1 : Int) = ((j + 1 : Nat) : Int) := by first | rfl | omega
    refine zv_sub (lv' := [(0, .ref (ob E 0)), (1, .int (zI t)), (2, .int (zI (dUse S t (j + 1) : Int))), (3, .int (zI ((j + 1 : Nat) : Int)))]) [2, 3, 1, 0] (zcons rfl (zcons rfl (zcons rfl (zcons (zqI q4_36) rfl)))) ?_
    exact ih (j + 1) (by omega) (by omega)
def dWor (U : zSU) (S : zST) (y : Int) : Nat → Int × Int
  | 0 => (-1, -1)
  | j + 1 => if (dWor U S y j).2 < ((qErr U S j y).natAbs : Int) then ((j : Int), ((qErr U S j y).natAbs : Int)) else dWor U S y j
theorem dWor_b {σ σ' : zS} {k k' : Nat} {U : zSU} {S : zST} (h : zSUp σ k U) (hS : zSTp σ' k' S) {y : Int} (hy : U.s0 - 1 ≤ y ∧ y ≤ U.s0 + 999) : ∀ j, j ≤ U.nb → -1 ≤ (dWor U S y j).2 ∧ (dWor U S y j).2 ≤ 51842592000000000 := by
  intro j
  induction j with
  | zero => intro _; exact ⟨Int.le_refl _, by show (-1 : Int) ≤ _; omega⟩
  | succ j ih =>
    intro hj
    have h1 := ih (by omega)
    have h2 := qErr_b h hS (i := j) (by omega) hy
    simp only [dWor]
    split
    · show -1 ≤ ((qErr U S j y).natAbs : Int) ∧ ((qErr U S j y).natAbs : Int) ≤ 51842592000000000
      omega
    · exact h1
set_option maxRecDepth 20000 in
theorem c_X10_worst {l : Launch} (hfl : l.stackTraces = false) (E : zE) (σ : zS) (U : zSU) (S : zST) (y : Int) (hU : zSUp σ 29 U) (hS : zSTp σ 34 S) (hy : U.s0 ≤ y ∧ y ≤ U.s0 + 999) : zRi l E yX10_worst cX10_worst 8 .int (zrm 6 148) [.ref (ob E 0), .int (zI y)] σ (fun r τ => r = zI (dWor U S y U.nb).1 ∧ τ = qW σ U S U.nb) := by
  refine Met.ofW (cc := cX10_worst) (maxL := 8) (ret := (some .int)) (by decide +kernel) rfl ?_
  intro p e s m args below meth c s₁ B hml hv
  obtain ⟨rfl, hd⟩ := hv
  have C := zX_of (own := RX10) hfl B hml rfl hd rfl
  have hr := B.returns
  refine zV_go hd (Nat.le_of_ble_eq_true rfl) (lv := [(0, .ref (ob E 0)), (1, .int (zI y))]) rfl ?_
  have hnb : U.nb ≤ 8 := hU.2.2.1
  have hs0 := hU.2.2.2.1
  
  refine zv_aload_n C 0 dX10_worst_0 rfl rfl ?_
  refine zv_iload_n C 1 dX10_worst_1 rfl rfl ?_
  refine zv_cvvD (st := []) C (c_X10_needYear hfl E σ U y hU (by omega) hy) mX10_needYear kX10_192 (by decide : kd 0 = 9) rfl rfl rfl ⟨rfl, rfl⟩ (show zfit (zrm 1 22) 2 (zrm 6 148) = true from rfl) (Nat.le_of_ble_eq_true rfl) dX10_worst_2 ⟨Nat.zero_le _, Nat.zero_le _⟩ ?_
  refine zv_iconst (v := zI (-1)) C dX10_worst_5 rfl ?_
  refine zv_istore_n (lv' := [(2, .int (zI (-1))), (0, .ref (ob E 0)), (1, .int (zI y))]) C dX10_worst_6 rfl (by decide) rfl ?_
  refine zv_ldc2 C kX10_228 dX10_worst_7 ?_
  refine zv_eql (y := zL (-1)) (by decide) ?_
  refine zv_lstore_n (lv' := [(3, .long (zL (-1))), (2, .int (zI (-1))), (0, .ref (ob E 0)), (1, .int (zI y))]) C dX10_worst_10 rfl (by decide) rfl ?_
  refine zv_iconst (v := zI 0) C dX10_worst_11 rfl ?_
  refine zv_istore (lv' := [(5, .int (zI 0)), (3, .long (zL (-1))), (2, .int (zI (-1))), (0, .ref (ob E 0)), (1, .int (zI y))]) C dX10_worst_12  (by decide) rfl ?_
  have q14_13 : (0 : Int) = (0 : Int) := by first | rfl | omega
  have q14_14 : ((-1) : Int) = (dWor U S y 0).2 := by first | rfl | omega
  have q14_15 : ((-1) : Int) = (dWor U S y 0).1 := by first | rfl | omega
  refine zv_sub (lv' := [(0, .ref (ob E 0)), (1, .int (zI y)), (2, .int (zI ((dWor U S y 0).1))), (3, .long (zL ((dWor U S y 0).2))), (5, .int (zI (0 : Int)))]) [3, 4, 2, 1, 0] (zcons rfl (zcons rfl (zcons (zqI q14_15) (zcons (zqL q14_14) (zcons (zqI q14_13) rfl))))) ?_
  refine zv_eqS (τ := (qW σ U S 0)) (rfl) ?_
  refine zv_while (α := Nat) (fun v => U.nb - v) (fun v => v ≤ U.nb) (fun v => (qW σ U S v)) (fun v => [(0, .ref (ob E 0)), (1, .int (zI y)), (2, .int (zI ((dWor U S y v).1))), (3, .long (zL ((dWor U S y v).2))), (5, .int (zI (v : Int)))]) (fun v => []) (fun j hI ih => ?_) (0) (by omega)
  have hwb := dWor_b hU hS (y := y) (by omega) j hI
  refine zv_iload C 4 dX10_worst_14 rfl ?_
  refine zv_aload_n C 0 dX10_worst_16 rfl rfl ?_
  refine zG9_1 C (by decide : kd 0 = _) kX10_19 dX10_worst_17 ?_
  refine zG4_1 C (by decide : kd 29 = _) kX10_108 dX10_worst_20 ?_
  refine zv_eqi (y := zI (U.nb : Int)) ((qW_U hU j).2.1) ?_
  refine zv_icmp_geZ (tgt := 54) C (by omega) (by omega) dX10_worst_23 (by decide) (fun h23 => ?_) (fun h23 => ?_)
  · skip
    refine zv_iload_n C 2 dX10_worst_54 rfl rfl ?_
    exact zv_iret C hr rfl dX10_worst_55 (by rw [show j = U.nb by omega]; exact ⟨rfl, rfl⟩)
  · skip
    have hqb := qErr_b hU hS (i := j) (by omega) (y := y) (by omega)
    refine zv_aload_n C 0 dX10_worst_26 rfl rfl ?_
    refine zv_iload C 4 dX10_worst_27 rfl ?_
    refine zv_iload_n C 1 dX10_worst_29 rfl rfl ?_
    refine zv_cvlD (st := []) C (c_X10_yearEndMiss hfl E (qW σ U S j) U S j y (qW_U hU j) (qW_S hS j) (by omega) hy (by omega)) mX10_yearEndMiss kX10_230 (by decide : kd 0 = 9) rfl rfl rfl ⟨rfl, rfl⟩ (show zfit (zrm 5 126) 3 (zrm 6 148) = true from rfl) (Nat.le_of_ble_eq_true rfl) dX10_worst_30 ⟨Nat.zero_le _, Nat.zero_le _⟩ ?_
    refine zv_lstore (lv' := [(6, .long (zL ((qErr U S j y).natAbs : Int))), (0, .ref (ob E 0)), (1, .int (zI y)), (2, .int (zI ((dWor U S y j).1))), (3, .long (zL ((dWor U S y j).2))), (5, .int (zI (j : Int)))]) C dX10_worst_33  (by decide) rfl ?_
    refine zv_lload C 0 dX10_worst_35 rfl ?_
    refine zv_lload_n C 4 dX10_worst_37 rfl rfl ?_
    refine zv_lc_leZ (tgt := 48) C (by omega) (by omega) dX10_worst_38 dX10_worst_39 (by decide) (fun h38 => ?_) (fun h38 => ?_)
    · skip
      refine zv_iinc (v := (zI ((j : Int) + 1))) (lv' := [(5, .int (zI ((j : Int) + 1))), (6, .long (zL ((qErr U S j y).natAbs : Int))), (0, .ref (ob E 0)), (1, .int (zI y)), (2, .int (zI ((dWor U S y j).1))), (3, .long (zL ((dWor U S y j).2)))]) C 5 dX10_worst_48 rfl (zI_add _ _) (by decide) rfl ?_
      refine zv_goto (tgt := 14) C dX10_worst_51 (by decide) ?_
      have q14_42 : ((j : Int) + 1 : Int) = ((j + 1 : Nat) : Int) := by first | rfl | omega
      have q14_43 : ((dWor U S y j).2 : Int) = (dWor U S y (j + 1)).2 := by simp only [dWor]; first | rw [if_pos (by omega)] | rw [if_neg (by omega)]
      have q14_44 : ((dWor U S y j).1 : Int) = (dWor U S y (j + 1)).1 := by simp only [dWor]; first | rw [if_pos (by omega)] | rw [if_neg (by omega)]
      refine zv_sub (lv' := [(0, .ref (ob E 0)), (1, .int (zI y)), (2, .int (zI ((dWor U S y (j + 1)).1))), (3, .long (zL ((dWor U S y (j + 1)).2))), (5, .int (zI ((j + 1 : Nat) : Int)))]) [2, 3, 4, 5, 0] (zcons rfl (zcons rfl (zcons (zqI q14_44) (zcons (zqL q14_43) (zcons (zqI q14_42) rfl))))) ?_
      refine zv_eqS (τ := (qW σ U S (j + 1))) (qW_s σ U S j) ?_
      exact ih (j + 1) (by omega) (by omega)
    · skip
      refine zv_lload C 0 dX10_worst_42 rfl ?_
      refine zv_lstore_n (lv' := [(3, .long (zL ((qErr U S j y).natAbs : Int))), (6, .long (zL ((qErr U S j y).natAbs : Int))), (0, .ref (ob E 0)), (1, .int (zI y)), (2, .int (zI ((dWor U S y j).1))), (5, .int (zI (j : Int)))]) C dX10_worst_44 rfl (by decide) rfl ?_
      refine zv_iload C 5 dX10_worst_45 rfl ?_
      refine zv_istore_n (lv' := [(2, .int (zI (j : Int))), (3, .long (zL ((qErr U S j y).natAbs : Int))), (6, .long (zL ((qErr U S j y).natAbs : Int))), (0, .ref (ob E 0)), (1, .int (zI y)), (5, .int (zI (j : Int)))]) C dX10_worst_47 rfl (by decide) rfl ?_
      refine zv_iinc (v := (zI ((j : Int) + 1))) (lv' := [(5, .int (zI ((j : Int) + 1))), (2, .int (zI (j : Int))), (3, .long (zL ((qErr U S j y).natAbs : Int))), (6, .long (zL ((qErr U S j y).natAbs : Int))), (0, .ref (ob E 0)), (1, .int (zI y))]) C 5 dX10_worst_48 rfl (zI_add _ _) (by decide) rfl ?_
      refine zv_goto (tgt := 14) C dX10_worst_51 (by decide) ?_
      have q14_55 : ((j : Int) + 1 : Int) = ((j + 1 : Nat) : Int) := by first | rfl | omega
      have q14_56 : (((qErr U S j y).natAbs : Int) : Int) = (dWor U S y (j + 1)).2 := by simp only [dWor]; first | rw [if_pos (by omega)] | rw [if_neg (by omega)]
      have q14_57 : ((j : Int) : Int) = (dWor U S y (j + 1)).1 := by simp only [dWor]; first | rw [if_pos (by omega)] | rw [if_neg (by omega)]
      refine zv_sub (lv' := [(0, .ref (ob E 0)), (1, .int (zI y)), (2, .int (zI ((dWor U S y (j + 1)).1))), (3, .long (zL ((dWor U S y (j + 1)).2))), (5, .int (zI ((j + 1 : Nat) : Int)))]) [4, 5, 1, 2, 0] (zcons rfl (zcons rfl (zcons (zqI q14_57) (zcons (zqL q14_56) (zcons (zqI q14_55) rfl))))) ?_
      refine zv_eqS (τ := (qW σ U S (j + 1))) (qW_s σ U S j) ?_
      exact ih (j + 1) (by omega) (by omega)
set_option maxRecDepth 20000 in
theorem x1_X10_worst {l : Launch} (hfl : l.stackTraces = false) (E : zE) (σ : zS) (U : zSU) (y : Int) (hU : zSUp σ 29 U) (hyi : -2147483648 ≤ y ∧ y < 2147483648) (hno : ¬ (U.s0 ≤ y ∧ y ≤ U.s0 + 999)) : zRx l E yX10_worst cX10_worst 8 (some .int) (zrx 9 200) [.ref (ob E 0), .int (zI y)] σ "java/lang/IllegalArgumentException" := by
  refine vx_ofW (cc := cX10_worst) (maxL := 8) (ret := (some .int)) (by decide) rfl ?_
  intro p e s m args below meth c s₁ B hml hout hv
  obtain ⟨rfl, hd⟩ := hv
  have C := zX_of (own := RX10) hfl B hml rfl hd rfl
  have hr := B.returns
  refine zV_go hd (Nat.le_of_ble_eq_true rfl) (lv := [(0, .ref (ob E 0)), (1, .int (zI y))]) rfl ?_
  have hnb : U.nb ≤ 8 := hU.2.2.1
  have hs0 := hU.2.2.2.1
  
  refine zv_aload_n C 0 dX10_worst_0 rfl rfl ?_
  refine zv_iload_n C 1 dX10_worst_1 rfl rfl ?_
  exact zv_xcv (st := []) C (x_X10_needYear hfl E σ U y hU hyi hno) hout mX10_needYear kX10_192 (by decide : kd 0 = 9) rfl rfl rfl ⟨rfl, rfl⟩ (show zfit (zrx 8 170) 2 (zrx 9 200) = true from rfl) (Nat.le_of_ble_eq_true rfl) dX10_worst_2
