/-! the train built, in the reference -/
theorem mRA_b (σ : zS) (q : Nat) : gI (mRA σ q) 337 = gI σ 337 := funext fun j => by rw [gI_mRA, if_neg (by omega), if_neg (by omega)]
theorem mRB_b (σ : zS) : gI (mRB σ) 337 = gI σ 337 := funext fun j => by rw [gI_mRB, if_neg (by omega), if_neg (by omega), if_neg (by omega), if_neg (by omega)]
theorem mS_fr {σ τ : zS} (h : mS σ τ) : zFr 327 339 σ τ := ⟨fun x j a => h.1 x j (by omega) (by omega), fun x j a => h.2.1 x j (by omega), h.2.2⟩
theorem zRk_emp {S : zST} (h : zRk S) (i : Nat) : zRk (S.sT i 0 (S.tr i)) := ⟨h.1, fun j hj => by
  have := h.2 j hj
  show (if j = i then 0 else S.tn j) ≤ 4
  split <;> omega⟩
theorem zRo_emp {σ : zS} {nb : Nat} {S : zST} {i : Nat} (h : zRo (gI σ 332) nb S) (hk : zRk S) (hi : i < 8) : zRo (gI (sI σ 332 (19 + 14 * i + 0) (zI 0)) 332) nb (S.sT i 0 (S.tr i)) := by
  obtain ⟨h1, h2, h3, h4, h5⟩ := h
  have hn := hk.1
  have o : ∀ j, j ≠ 19 + 14 * i → gI (sI σ 332 (19 + 14 * i + 0) (zI 0)) 332 j = gI σ 332 j := fun j q => by rw [gI_sI, if_neg (by omega)]
  refine ⟨(o 0 (by omega)).trans h1, fun q hq => (o _ (by have : q < S.n := hq; omega)).trans (h2 q hq), (o 17 (by omega)).trans h3, (o 18 (by omega)).trans h4, fun j hj => ?_⟩
  obtain ⟨a1, a2, a3⟩ := h5 j hj
  have ht4 := hk.2 j hj
  have htj : (S.sT i 0 (S.tr i)).tn j = if j = i then 0 else S.tn j := rfl
  have hrj : (S.sT i 0 (S.tr i)).tr j = S.tr j := by
    show (if j = i then S.tr i else S.tr j) = _
    split
    · rename_i z; rw [z]
    · rfl
  refine ⟨?_, fun hb => (o _ (by omega)).trans (a2 hb), fun p w hp hw => ?_⟩
  · rw [htj]
    by_cases z : j = i
    · subst z
      rw [gI_sI, if_pos (by omega), if_pos rfl]
      rfl
    · rw [if_neg z, o _ (by omega)]; exact a1
  · have hp2 : p < S.tn j := by
      rw [htj] at hp
      split at hp
      · omega
      · exact hp
    rw [hrj]
    exact (o _ (ix14 hp2 ht4 hw).1).trans (a3 p w hp2 hw)
theorem zRk_fre {S : zST} (h : zRk S) (i : Nat) : zRk (S.fre i) := ⟨h.1, h.2⟩
theorem fre_tn (S : zST) (i j : Nat) : (S.fre i).tn j = S.tn j := rfl
theorem aPw_o (σ : zS) (i n : Nat) (a b d : Int) (x j : Nat) (h : x ≠ 332) : gI (aPw σ i n a b d) x j = gI σ x j := by
  unfold aPw
  rw [gI_sI, if_neg (by omega), gI_sI, if_neg (by omega), gI_sI, if_neg (by omega), gI_sI, if_neg (by omega)]
theorem bld_t (S : zST) (i : Nat) (g : gB) : S.bld i g true = ((((S.sT i 0 (S.tr i)).apd i 0 (gWn g 0) (gWn g 1)).apd i 0 (gWn g 2) (gWn g 3)).apd i 2 (S.f 0) 0).fre i := by
  unfold zST.bld
  rw [if_pos rfl]
theorem bld_f (S : zST) (i : Nat) (g : gB) : S.bld i g false = (((S.sT i 0 (S.tr i)).apd i 0 (gWn g 0) (gWn g 1)).apd i 0 (gWn g 2) (gWn g 3)).fre i := by
  unfold zST.bld
  rw [if_neg (by decide)]
theorem zMx_a {σ τ : zS} (h : zMx σ τ) (i n : Nat) (a b d : Int) : zMx σ (aPw τ i n a b d) := zMx_I (zMx_I (zMx_I (zMx_I h _ _) _ _) _ _) _ _
theorem zFr_a {σ τ : zS} (h : zFr 327 339 σ τ) (i n : Nat) (a b d : Int) : zFr 327 339 σ (aPw τ i n a b d) := zFr_I (zFr_I (zFr_I (zFr_I h (by decide)) (by decide)) (by decide)) (by decide)
set_option maxRecDepth 20000 in
theorem c2_X11_remembers {l : Launch} (hfl : l.stackTraces = false) (E : zE) (σ : zS) (D : zDv) (h : zMP σ D) : zRv l E yX11_remembers cX11_remembers 1 (zrm 1 25) [.ref (ob E 327)] σ (fun τ => mRp σ τ D ∧ gI τ 337 = gI σ 337) := by
  refine Met.ofW (cc := cX11_remembers) (maxL := 1) (ret := none) (by decide +kernel) rfl ?_
  intro p e s m args below meth c s₁ B hml hv
  obtain ⟨rfl, hd⟩ := hv
  have C := zX_of (own := RX11) hfl B hml rfl hd rfl
  have hr := B.returns
  refine zV_go hd (Nat.le_of_ble_eq_true rfl) (lv := [(0, .ref (ob E 327))]) rfl ?_
  have hq := h.2.2.2.2.2.1.1
  have hq2 := h.2.2.2.2.2.1.2.1
  obtain ⟨q, hqq⟩ : ∃ q : Nat, q = D.hh.length := ⟨_, rfl⟩
  rw [← hqq] at hq hq2
  refine zv_aload_n C 0 dX11_remembers_0 rfl rfl ?_
  refine zG10_8 C (by decide : kd 327 = _) kX11_57 dX11_remembers_1 ?_
  refine zv_eqi (y := (zI (q : Int))) (hq) ?_
  refine zv_bipush (v := zI 12) C dX11_remembers_4 (by decide) ?_
  refine zv_icmp_neZ (tgt := 37) C (by omega) (by omega) dX11_remembers_6 (by decide) (fun h6 => ?_) (fun h6 => ?_)
  · skip
    refine zv_aload_n C 0 dX11_remembers_37 rfl rfl ?_
    refine zG10_4 C (by decide : kd 327 = _) kX11_22 dX11_remembers_38 ?_
    refine zv_iconst (v := zI 0) C dX11_remembers_41 rfl ?_
    refine zv_aload_n C 0 dX11_remembers_42 rfl rfl ?_
    refine zG10_7 C (by decide : kd 327 = _) kX11_31 dX11_remembers_43 ?_
    refine zv_sipush (v := zI 131) C dX11_remembers_46 (by decide) ?_
    refine zv_aload_n C 0 dX11_remembers_49 rfl rfl ?_
    refine zG10_8 C (by decide : kd 327 = _) kX11_57 dX11_remembers_50 ?_
    refine zv_eqi (y := (zI (q : Int))) (hq) ?_
    refine zv_imulZ C dX11_remembers_53 ?_
    refine zv_eqi (y := (zI ((131 * q : Nat) : Int))) (congrArg zI (by omega)) ?_
    refine zv_sipush (v := zI 131) C dX11_remembers_54 (by decide) ?_
    refine zv_csvD (st := []) C (c_X11_copies hfl E σ 332 335 0 (131 * q) 131 (by decide) (by decide) (by decide) (Nat.le_trans (show 131 * q + 131 ≤ 1572 by omega) (by decide)) (Or.inl (by decide)) (by omega) (by omega) (by omega)) mX11_copies kX11_60 rfl ⟨rfl, rfl⟩ (show zfit (zrm 0 0) 6 (zrm 1 25) = true from rfl) (Nat.le_of_ble_eq_true rfl) dX11_remembers_57 ⟨Nat.zero_le _, Nat.zero_le _⟩ ?_
    refine zv_aload_n C 0 dX11_remembers_60 rfl rfl ?_
    refine zv_dup C dX11_remembers_61 rfl ?_
    refine zG10_8 C (by decide : kd 327 = _) kX11_57 dX11_remembers_62 ?_
    refine zv_eqi (y := (zI (q : Int))) (hq) ?_
    refine zv_iconst (v := zI 1) C dX11_remembers_65 rfl ?_
    refine zv_iaddZ C dX11_remembers_66 ?_
    refine zP10_8 C (by decide : kd 327 = _) kX11_57 dX11_remembers_67 ?_
    exact zv_vret C hr dX11_remembers_70 (by show mRp σ (mRA σ q) D ∧ gI (mRA σ q) 337 = gI σ 337; refine ⟨?_, mRA_b _ _⟩; rw [hqq]; exact mRp_A h (by omega))
  · skip
    refine zv_aload_n C 0 dX11_remembers_9 rfl rfl ?_
    refine zG10_7 C (by decide : kd 327 = _) kX11_31 dX11_remembers_10 ?_
    refine zv_sipush (v := zI 131) C dX11_remembers_13 (by decide) ?_
    refine zv_aload_n C 0 dX11_remembers_16 rfl rfl ?_
    refine zG10_7 C (by decide : kd 327 = _) kX11_31 dX11_remembers_17 ?_
    refine zv_iconst (v := zI 0) C dX11_remembers_20 rfl ?_
    refine zv_sipush (v := zI 1441) C dX11_remembers_21 (by decide) ?_
    refine zv_csvD (st := []) C (c_X11_copies hfl E σ 335 335 131 (0) 1441 (by decide) (by decide) (by decide) (by decide) (Or.inr (by decide)) (by omega) (by omega) (by omega)) mX11_copies kX11_60 rfl ⟨rfl, rfl⟩ (show zfit (zrm 0 0) 6 (zrm 1 25) = true from rfl) (Nat.le_of_ble_eq_true rfl) dX11_remembers_24 ⟨Nat.zero_le _, Nat.zero_le _⟩ ?_
    refine zv_aload_n C 0 dX11_remembers_27 rfl rfl ?_
    refine zv_dup C dX11_remembers_28 rfl ?_
    refine zG10_8 C (by decide : kd 327 = _) kX11_57 dX11_remembers_29 ?_
    refine zv_eqi (y := (zI (q : Int))) (hq) ?_
    refine zv_iconst (v := zI 1) C dX11_remembers_32 rfl ?_
    refine zv_isubZ C dX11_remembers_33 ?_
    refine zP10_8 C (by decide : kd 327 = _) kX11_57 dX11_remembers_34 ?_
    refine zv_eqS (τ := (sI (cpR σ 335 131 335 0 1441) 327 8 (zI 11))) (by rw [show (q : Int) - 1 = 11 by omega]) ?_
    refine zv_aload_n C 0 dX11_remembers_37 rfl rfl ?_
    refine zG10_4 C (by decide : kd 327 = _) kX11_22 dX11_remembers_38 ?_
    refine zv_iconst (v := zI 0) C dX11_remembers_41 rfl ?_
    refine zv_aload_n C 0 dX11_remembers_42 rfl rfl ?_
    refine zG10_7 C (by decide : kd 327 = _) kX11_31 dX11_remembers_43 ?_
    refine zv_sipush (v := zI 131) C dX11_remembers_46 (by decide) ?_
    refine zv_aload_n C 0 dX11_remembers_49 rfl rfl ?_
    refine zG10_8 C (by decide : kd 327 = _) kX11_57 dX11_remembers_50 ?_
    refine zv_eqi (y := (zI 11)) (rfl) ?_
    refine zv_imulZ C dX11_remembers_53 ?_
    refine zv_eqi (y := (zI ((131 * 11 : Nat) : Int))) (rfl) ?_
    refine zv_sipush (v := zI 131) C dX11_remembers_54 (by decide) ?_
    refine zv_csvD (st := []) C (c_X11_copies hfl E (sI (cpR σ 335 131 335 0 1441) 327 8 (zI 11)) 332 335 0 (131 * 11) 131 (by decide) (by decide) (by decide) (Nat.le_trans (show 131 * 11 + 131 ≤ 1572 by omega) (by decide)) (Or.inl (by decide)) (by omega) (by omega) (by omega)) mX11_copies kX11_60 rfl ⟨rfl, rfl⟩ (show zfit (zrm 0 0) 6 (zrm 1 25) = true from rfl) (Nat.le_of_ble_eq_true rfl) dX11_remembers_57 ⟨Nat.zero_le _, Nat.zero_le _⟩ ?_
    refine zv_aload_n C 0 dX11_remembers_60 rfl rfl ?_
    refine zv_dup C dX11_remembers_61 rfl ?_
    refine zG10_8 C (by decide : kd 327 = _) kX11_57 dX11_remembers_62 ?_
    refine zv_eqi (y := (zI 11)) (rfl) ?_
    refine zv_iconst (v := zI 1) C dX11_remembers_65 rfl ?_
    refine zv_iaddZ C dX11_remembers_66 ?_
    refine zP10_8 C (by decide : kd 327 = _) kX11_57 dX11_remembers_67 ?_
    exact zv_vret C hr dX11_remembers_70 ⟨mRp_B h (by omega), mRB_b _⟩
set_option maxRecDepth 20000 in
theorem c_X11_build {l : Launch} (hfl : l.stackTraces = false) (E : zE) (σ : zS) (σc : zS) (ni : Nat) (tx : Nat → Int) (ec : Nat) (eo : Int) (U : zSU) (S : zST) (hh : List zST) (kp : Option zST) (ou : List Nat) (i : Nat) (h : zMP σ (zDv.mk ni tx ec eo U S hh kp ou)) (hU : zSUp σc 29 U) (hS : zSTp σc 34 S) (hi : i < U.nb) (hn2 : 2 ≤ S.n) : zRi l E yX11_build cX11_build 3 .int (zrm 7 207) [.ref (ob E 327), .int (zI (i : Int))] σ (fun r τ => r = zI (if (qTrue U i).1 < 0 then 3 else 2) ∧ mH σ τ ((zDv.mk ni tx ec eo U S hh kp ou).re.sS (S.bld i (gBT U S i) (decide ((qTrue U i).1 < 0))))) := by
  refine Met.ofW (cc := cX11_build) (maxL := 3) (ret := (some .int)) (by decide +kernel) rfl ?_
  intro p e s m args below meth c s₁ B hml hv
  obtain ⟨rfl, hd⟩ := hv
  have C := zX_of (own := RX11) hfl B hml rfl hd rfl
  have hr := B.returns
  refine zV_go hd (Nat.le_of_ble_eq_true rfl) (lv := [(0, .ref (ob E 327)), (1, .int (zI (i : Int)))]) rfl ?_
  have hnb : U.nb ≤ 8 := hU.2.2.1
  have hs0 := hU.2.2.2.1
  have hB : zRb (gI σ 328) U := h.2.2.1
  have hW : zRo (gI σ 332) U.nb S := h.2.2.2.2.1.1
  have hk9 : zRk S := h.2.2.2.2.1.2
  have h0 : zMP (thW σ 0) (zDv.mk ni tx ec eo U S hh kp ou) := zMP_q h (mK_th σ 0).1
  have hi8 : i < 8 := by omega
  have ht := hk9.2 i hi8
  have hc : ∀ j w, j < S.tn i → w < 3 → S.tr i j w ≤ 100 := fun j w a b => (hS.2.2.2.2.2.2 i hi8).1.2.2.2 j w a b
  have hf8 : ∀ i, i < S.n → 8 ≤ S.f i ∧ S.f i ≤ 100 := fun j hj => ⟨hS.2.1 j hj, hS.1.2.2.2 j hj⟩
  have hgn : (gBT U S i) ≠ none := gTrain_n (by omega) S.n (by omega)
  have hgi : gIn (gBT U S i) := gIn_train hf8 S.n (Nat.le_refl _)
  have hn16 : S.n ≤ 16 := hS.1.2.1
  have hqt := qTrue_b hU hi
  have n0 : (S.sT i 0 (S.tr i)).tn i = 0 := sT_tn _ _ _ _
  have n1 : ((S.sT i 0 (S.tr i)).apd i 0 (gWn (gBT U S i) 0) (gWn (gBT U S i) 1)).tn i = 1 := by rw [apd_tn, n0]
  have n2 : (((S.sT i 0 (S.tr i)).apd i 0 (gWn (gBT U S i) 0) (gWn (gBT U S i) 1)).apd i 0 (gWn (gBT U S i) 2) (gWn (gBT U S i) 3)).tn i = 2 := by rw [apd_tn, n1]
  have n3 : ((((S.sT i 0 (S.tr i)).apd i 0 (gWn (gBT U S i) 0) (gWn (gBT U S i) 1)).apd i 0 (gWn (gBT U S i) 2) (gWn (gBT U S i) 3)).apd i 2 (S.f 0) 0).tn i = 3 := by rw [apd_tn, n2]
  have e2 : ((((S.sT i 0 (S.tr i)).apd i 0 (gWn (gBT U S i) 0) (gWn (gBT U S i) 1)).apd i 0 (gWn (gBT U S i) 2) (gWn (gBT U S i) 3)).fre i).tn i = 2 := (fre_tn _ _ _).trans n2
  have e3 : (((((S.sT i 0 (S.tr i)).apd i 0 (gWn (gBT U S i) 0) (gWn (gBT U S i) 1)).apd i 0 (gWn (gBT U S i) 2) (gWn (gBT U S i) 3)).apd i 2 (S.f 0) 0).fre i).tn i = 3 := (fre_tn _ _ _).trans n3
  have k0 := zRk_emp hk9 i
  have k1 := zRk_apd k0 (i := i) 0 (gWn (gBT U S i) 0) (gWn (gBT U S i) 1) (by omega)
  have k2 := zRk_apd k1 (i := i) 0 (gWn (gBT U S i) 2) (gWn (gBT U S i) 3) (by omega)
  have k3 := zRk_apd k2 (i := i) 2 (S.f 0) 0 (by omega)
  
  refine zv_aload_n C 0 dX11_build_0 rfl rfl ?_
  refine zv_iload_n C 1 dX11_build_1 rfl rfl ?_
  refine zv_cviD (st := []) C (c0_X11_noBody hfl E σ σc U ((i : Int)) hB hU (by omega)) mX11_noBody kX11_319 (by decide : kd 327 = 10) rfl rfl rfl ⟨rfl, rfl⟩ (show zfit (zrm 1 25) 2 (zrm 7 207) = true from rfl) (Nat.le_of_ble_eq_true rfl) dX11_build_2 ⟨Nat.zero_le _, Nat.zero_le _⟩ ?_
  refine zv_if_neZ (tgt := 31) C (by omega) dX11_build_5 (by decide) (fun h5 => absurd h5 (by decide)) (fun h5 => ?_)
  refine zv_aload_n C 0 dX11_build_8 rfl rfl ?_
  refine zv_aload_n C 0 dX11_build_9 rfl rfl ?_
  refine zG10_4 C (by decide : kd 327 = _) kX11_22 dX11_build_10 ?_
  refine zv_iconst (v := zI 0) C dX11_build_13 rfl ?_
  refine zv_iald (j := 0) C (by decide : kd 332 = _) (zI_ix (by omega)) (by decide) dX11_build_14 ?_
  refine zv_eqi (y := (zI (S.n : Int))) (hW.1) ?_
  refine zv_iconst (v := zI 2) C dX11_build_15 rfl ?_
  refine zv_icmp_geZ (tgt := 23) C (by omega) (by omega) dX11_build_16 (by decide) (fun h16 => ?_) (fun h16 => ?_)
  · skip
    refine zv_iconst (v := zI 0) C dX11_build_23 rfl ?_
    refine zv_iconst (v := zI 2) C dX11_build_24 rfl ?_
    refine zv_cviD (st := []) C (c0_X11_fails hfl E (thW σ 0) 2) mX11_fails kX11_309 (by decide : kd 327 = 10) rfl rfl rfl ⟨rfl, rfl⟩ (show zfit (zrm 0 0) 3 (zrm 7 207) = true from rfl) (Nat.le_of_ble_eq_true rfl) dX11_build_25 ⟨Nat.zero_le _, Nat.zero_le _⟩ ?_
    refine zv_if_eqZ (tgt := 33) C (by omega) dX11_build_28 (by decide) (fun h28 => ?_) (fun h28 => absurd h28 (by decide))
    refine zv_aload_n C 0 dX11_build_33 rfl rfl ?_
    refine zv_iload_n C 1 dX11_build_34 rfl rfl ?_
    refine zv_cvv (st := []) C (c_X11_searchesTrain hfl E (thW σ 0) σc U S i hB hU hW hS hi (mK_th σ 0).2) mX11_searchesTrain kX11_387 (by decide : kd 327 = 10) rfl rfl rfl ⟨rfl, rfl⟩ (show zfit (zrm 6 179) 9 (zrm 7 207) = true from rfl) (Nat.le_of_ble_eq_true rfl) dX11_build_35 ⟨Nat.zero_le _, Nat.zero_le _⟩ (fun τ1 hp35 => ?_)
    obtain ⟨hG, hK1, hup, hdn, hO⟩ := hp35
    obtain ⟨-, hwv⟩ := train_w hn2 hG hO
    have hz0 : zMP τ1 (zDv.mk ni tx ec eo U S hh kp ou) := zMP_q h0 hK1.1
    have hw0 := gWn_in hgn hgi 0
    have hw1 := gWn_in hgn hgi 1
    have hw2 := gWn_in hgn hgi 2
    have hw3 := gWn_in hgn hgi 3
    refine zv_aload_n C 0 dX11_build_38 rfl rfl ?_
    refine zG10_22 C (by decide : kd 327 = _) kX11_249 dX11_build_39 ?_
    refine zv_eql (y := (zL ((qTrue U i).1))) (hup) ?_
    refine zv_lconst (v := zL 0) C dX11_build_42 (by decide) ?_
    refine zv_lc_geZ (tgt := 51) C (by omega) (by omega) dX11_build_43 dX11_build_44 (by decide) (fun h43 => ?_) (fun h43 => ?_)
    · skip
      refine zv_iconst (v := zI 0) C dX11_build_51 rfl ?_
      refine zv_istore_n (lv' := [(2, .int (zI 0)), (0, .ref (ob E 327)), (1, .int (zI (i : Int)))]) C dX11_build_52 rfl (by decide) rfl ?_
      refine zv_aload_n C 1 dX11_build_53 rfl rfl ?_
      refine zv_cvv (st := []) C (c2_X11_remembers hfl E τ1 (zDv.mk ni tx ec eo U S hh kp ou) hz0) mX11_remembers kX11_392 (by decide : kd 327 = 10) rfl rfl rfl ⟨rfl, rfl⟩ (show zfit (zrm 1 25) 1 (zrm 7 207) = true from rfl) (Nat.le_of_ble_eq_true rfl) dX11_build_54 ⟨Nat.zero_le _, Nat.zero_le _⟩ (fun τ2 hp54 => ?_)
      obtain ⟨⟨hz1, hz2, hz3, hz4⟩, hz5⟩ := hp54
      have hW1 : zRo (gI τ2 332) U.nb S := by rw [hz4, mS_g hK1.1 332 (by decide) (by decide)]; exact hW
      have hB1 : zRb (gI τ2 328) U := hz1.2.2.1
      have ht1 : gI τ2 327 10 = zI 0 := hz2.trans hK1.2
      have hf1 : zFr 327 339 σ τ2 := zFr_trans (zFr_trans (zFr_th σ 0) (mS_fr hK1.1)) hz3
      have hv0 : gI τ2 337 0 = zI (gWn (gBT U S i) 0 : Int) := by rw [hz5, ← hw0.2]; exact hwv 0 (by omega)
      have hv1 : gI τ2 337 1 = zI (gWn (gBT U S i) 1 : Int) := by rw [hz5, ← hw1.2]; exact hwv 1 (by omega)
      have hv2 : gI τ2 337 2 = zI (gWn (gBT U S i) 2 : Int) := by rw [hz5, ← hw2.2]; exact hwv 2 (by omega)
      have hv3 : gI τ2 337 3 = zI (gWn (gBT U S i) 3 : Int) := by rw [hz5, ← hw3.2]; exact hwv 3 (by omega)
      have q0 : zRo (gI (sI τ2 332 (19 + 14 * i + 0) (zI 0)) 332) U.nb (S.sT i 0 (S.tr i)) := zRo_emp hW1 hk9 hi8
      have q1 : zRo (gI (aPw (sI τ2 332 (19 + 14 * i + 0) (zI 0)) i ((S.sT i 0 (S.tr i)).tn i) 0 (gWn (gBT U S i) 0 : Int) (gWn (gBT U S i) 1 : Int)) 332) U.nb ((S.sT i 0 (S.tr i)).apd i 0 (gWn (gBT U S i) 0) (gWn (gBT U S i) 1)) := zRo_apd (a := 0) (b := gWn (gBT U S i) 0) (d := gWn (gBT U S i) 1) q0 k0 hi8 (by omega)
      have q2 : zRo (gI (aPw (aPw (sI τ2 332 (19 + 14 * i + 0) (zI 0)) i ((S.sT i 0 (S.tr i)).tn i) 0 (gWn (gBT U S i) 0 : Int) (gWn (gBT U S i) 1 : Int)) i (((S.sT i 0 (S.tr i)).apd i 0 (gWn (gBT U S i) 0) (gWn (gBT U S i) 1)).tn i) 0 (gWn (gBT U S i) 2 : Int) (gWn (gBT U S i) 3 : Int)) 332) U.nb (((S.sT i 0 (S.tr i)).apd i 0 (gWn (gBT U S i) 0) (gWn (gBT U S i) 1)).apd i 0 (gWn (gBT U S i) 2) (gWn (gBT U S i) 3)) := zRo_apd (a := 0) (b := gWn (gBT U S i) 2) (d := gWn (gBT U S i) 3) q1 k1 hi8 (by omega)
      have q3 : zRo (gI (aPw (aPw (aPw (sI τ2 332 (19 + 14 * i + 0) (zI 0)) i ((S.sT i 0 (S.tr i)).tn i) 0 (gWn (gBT U S i) 0 : Int) (gWn (gBT U S i) 1 : Int)) i (((S.sT i 0 (S.tr i)).apd i 0 (gWn (gBT U S i) 0) (gWn (gBT U S i) 1)).tn i) 0 (gWn (gBT U S i) 2 : Int) (gWn (gBT U S i) 3 : Int)) i ((((S.sT i 0 (S.tr i)).apd i 0 (gWn (gBT U S i) 0) (gWn (gBT U S i) 1)).apd i 0 (gWn (gBT U S i) 2) (gWn (gBT U S i) 3)).tn i) 2 (S.f 0 : Int) 0) 332) U.nb ((((S.sT i 0 (S.tr i)).apd i 0 (gWn (gBT U S i) 0) (gWn (gBT U S i) 1)).apd i 0 (gWn (gBT U S i) 2) (gWn (gBT U S i) 3)).apd i 2 (S.f 0) 0) := zRo_apd (a := 2) (b := S.f 0) (d := 0) q2 k2 hi8 (by omega)
      refine zv_aload_n C 1 dX11_build_57 rfl rfl ?_
      refine zG10_4 C (by decide : kd 327 = _) kX11_22 dX11_build_58 ?_
      refine zv_iload_n C 2 dX11_build_61 rfl rfl ?_
      refine zv_iconst (v := zI 0) C dX11_build_62 rfl ?_
      refine zv_csiD (st := [.ref (ob E 332)]) C (c_X11_trainAt hfl E τ2 i (0) (by omega) (by omega)) mX11_trainAt kX11_53 rfl ⟨rfl, rfl⟩ (show zfit (zrm 0 0) 2 (zrm 7 207) = true from rfl) (Nat.le_of_ble_eq_true rfl) dX11_build_63 ⟨Nat.zero_le _, Nat.zero_le _⟩ ?_
      refine zv_iconst (v := zI 0) C dX11_build_66 rfl ?_
      refine zv_iast (j := 19 + 14 * i + 0) C (by decide : kd 332 = _) (zI_ix rfl) (Nat.lt_of_lt_of_eq (show 19 + 14 * i + 0 < 131 by omega) (by decide)) dX11_build_67 ?_
      refine zv_aload_n C 1 dX11_build_68 rfl rfl ?_
      refine zv_iload_n C 2 dX11_build_69 rfl rfl ?_
      refine zv_iconst (v := zI 0) C dX11_build_70 rfl ?_
      refine zv_aload_n C 1 dX11_build_71 rfl rfl ?_
      refine zG10_25 C (by decide : kd 327 = _) kX11_41 dX11_build_72 ?_
      refine zv_iconst (v := zI 0) C dX11_build_75 rfl ?_
      refine zv_iald (j := 0) C (by decide : kd 337 = _) (zI_ix (by omega)) (by decide) dX11_build_76 ?_
      refine zv_eqi (y := (zI (gWn (gBT U S i) 0 : Int))) (hv0) ?_
      refine zv_aload_n C 1 dX11_build_77 rfl rfl ?_
      refine zG10_25 C (by decide : kd 327 = _) kX11_41 dX11_build_78 ?_
      refine zv_iconst (v := zI 1) C dX11_build_81 rfl ?_
      refine zv_iald (j := 1) C (by decide : kd 337 = _) (zI_ix (by omega)) (by decide) dX11_build_82 ?_
      refine zv_eqi (y := (zI (gWn (gBT U S i) 1 : Int))) (hv1) ?_
      refine zv_cvvD (st := []) C (c_X11_addsPart hfl E (sI τ2 332 (19 + 14 * i + 0) (zI 0)) U.nb (S.sT i 0 (S.tr i)) i 0 (gWn (gBT U S i) 0 : Int) (gWn (gBT U S i) 1 : Int) q0 hi8 (by omega)) mX11_addsPart kX11_204 (by decide : kd 327 = 10) rfl rfl rfl ⟨rfl, rfl⟩ (show zfit (zrm 2 42) 6 (zrm 7 207) = true from rfl) (Nat.le_of_ble_eq_true rfl) dX11_build_83 ⟨Nat.zero_le _, Nat.zero_le _⟩ ?_
      refine zv_aload_n C 1 dX11_build_86 rfl rfl ?_
      refine zv_iload_n C 2 dX11_build_87 rfl rfl ?_
      refine zv_iconst (v := zI 0) C dX11_build_88 rfl ?_
      refine zv_aload_n C 1 dX11_build_89 rfl rfl ?_
      refine zG10_25 C (by decide : kd 327 = _) kX11_41 dX11_build_90 ?_
      refine zv_iconst (v := zI 2) C dX11_build_93 rfl ?_
      refine zv_iald (j := 2) C (by decide : kd 337 = _) (zI_ix (by omega)) (by decide) dX11_build_94 ?_
      refine zv_eqi (y := (zI (gWn (gBT U S i) 2 : Int))) (hv2) ?_
      refine zv_aload_n C 1 dX11_build_95 rfl rfl ?_
      refine zG10_25 C (by decide : kd 327 = _) kX11_41 dX11_build_96 ?_
      refine zv_iconst (v := zI 3) C dX11_build_99 rfl ?_
      refine zv_iald (j := 3) C (by decide : kd 337 = _) (zI_ix (by omega)) (by decide) dX11_build_100 ?_
      refine zv_eqi (y := (zI (gWn (gBT U S i) 3 : Int))) (hv3) ?_
      refine zv_cvvD (st := []) C (c_X11_addsPart hfl E (aPw (sI τ2 332 (19 + 14 * i + 0) (zI 0)) i ((S.sT i 0 (S.tr i)).tn i) 0 (gWn (gBT U S i) 0 : Int) (gWn (gBT U S i) 1 : Int)) U.nb ((S.sT i 0 (S.tr i)).apd i 0 (gWn (gBT U S i) 0) (gWn (gBT U S i) 1)) i 0 (gWn (gBT U S i) 2 : Int) (gWn (gBT U S i) 3 : Int) q1 hi8 (by omega)) mX11_addsPart kX11_204 (by decide : kd 327 = 10) rfl rfl rfl ⟨rfl, rfl⟩ (show zfit (zrm 2 42) 6 (zrm 7 207) = true from rfl) (Nat.le_of_ble_eq_true rfl) dX11_build_101 ⟨Nat.zero_le _, Nat.zero_le _⟩ ?_
      refine zv_iload_n C 0 dX11_build_104 rfl rfl ?_
      refine zv_if_eqZ (tgt := 121) C (by omega) dX11_build_105 (by decide) (fun h105 => ?_) (fun h105 => absurd h105 (by decide))
      refine zv_aload_n C 1 dX11_build_121 rfl rfl ?_
      refine zv_iload_n C 2 dX11_build_122 rfl rfl ?_
      refine zv_cvvD (st := []) C (c_X11_frees hfl E (aPw (aPw (sI τ2 332 (19 + 14 * i + 0) (zI 0)) i ((S.sT i 0 (S.tr i)).tn i) 0 (gWn (gBT U S i) 0 : Int) (gWn (gBT U S i) 1 : Int)) i (((S.sT i 0 (S.tr i)).apd i 0 (gWn (gBT U S i) 0) (gWn (gBT U S i) 1)).tn i) 0 (gWn (gBT U S i) 2 : Int) (gWn (gBT U S i) 3 : Int)) i (by omega)) mX11_frees kX11_395 (by decide : kd 327 = 10) rfl rfl rfl ⟨rfl, rfl⟩ (show zfit (zrm 1 21) 2 (zrm 7 207) = true from rfl) (Nat.le_of_ble_eq_true rfl) dX11_build_123 ⟨Nat.zero_le _, Nat.zero_le _⟩ ?_
      refine zv_aload_n C 1 dX11_build_126 rfl rfl ?_
      refine zv_iload_n C 2 dX11_build_127 rfl rfl ?_
      refine zv_cviD (st := []) C (c_X11_parts hfl E (sI (aPw (aPw (sI τ2 332 (19 + 14 * i + 0) (zI 0)) i ((S.sT i 0 (S.tr i)).tn i) 0 (gWn (gBT U S i) 0 : Int) (gWn (gBT U S i) 1 : Int)) i (((S.sT i 0 (S.tr i)).apd i 0 (gWn (gBT U S i) 0) (gWn (gBT U S i) 1)).tn i) 0 (gWn (gBT U S i) 2 : Int) (gWn (gBT U S i) 3 : Int)) 332 (19 + 14 * i + 1) (zI 0)) U.nb ((((S.sT i 0 (S.tr i)).apd i 0 (gWn (gBT U S i) 0) (gWn (gBT U S i) 1)).apd i 0 (gWn (gBT U S i) 2) (gWn (gBT U S i) 3)).fre i) i (zRo_fre q2 k2 hi8) hi8) mX11_parts kX11_188 (by decide : kd 327 = 10) rfl rfl rfl ⟨rfl, rfl⟩ (show zfit (zrm 1 21) 2 (zrm 7 207) = true from rfl) (Nat.le_of_ble_eq_true rfl) dX11_build_128 ⟨Nat.zero_le _, Nat.zero_le _⟩ ?_
      refine zv_eqi (y := (zI 2)) (congrArg zI (by rw [e2]; rfl)) ?_
      have hWf : zRo (gI (sI (aPw (aPw (sI τ2 332 (19 + 14 * i + 0) (zI 0)) i ((S.sT i 0 (S.tr i)).tn i) 0 (gWn (gBT U S i) 0 : Int) (gWn (gBT U S i) 1 : Int)) i (((S.sT i 0 (S.tr i)).apd i 0 (gWn (gBT U S i) 0) (gWn (gBT U S i) 1)).tn i) 0 (gWn (gBT U S i) 2 : Int) (gWn (gBT U S i) 3 : Int)) 332 (19 + 14 * i + 1) (zI 0)) 332) U.nb ((((S.sT i 0 (S.tr i)).apd i 0 (gWn (gBT U S i) 0) (gWn (gBT U S i) 1)).apd i 0 (gWn (gBT U S i) 2) (gWn (gBT U S i) 3)).fre i) := (zRo_fre q2 k2 hi8)
      have hXf : zMx τ2 (sI (aPw (aPw (sI τ2 332 (19 + 14 * i + 0) (zI 0)) i ((S.sT i 0 (S.tr i)).tn i) 0 (gWn (gBT U S i) 0 : Int) (gWn (gBT U S i) 1 : Int)) i (((S.sT i 0 (S.tr i)).apd i 0 (gWn (gBT U S i) 0) (gWn (gBT U S i) 1)).tn i) 0 (gWn (gBT U S i) 2 : Int) (gWn (gBT U S i) 3 : Int)) 332 (19 + 14 * i + 1) (zI 0)) := zMx_I (zMx_a (zMx_a (zMx_I (zMx_r _) _ _) _ _ _ _ _) _ _ _ _ _) _ _
      have hff : zFr 327 339 σ (sI (aPw (aPw (sI τ2 332 (19 + 14 * i + 0) (zI 0)) i ((S.sT i 0 (S.tr i)).tn i) 0 (gWn (gBT U S i) 0 : Int) (gWn (gBT U S i) 1 : Int)) i (((S.sT i 0 (S.tr i)).apd i 0 (gWn (gBT U S i) 0) (gWn (gBT U S i) 1)).tn i) 0 (gWn (gBT U S i) 2 : Int) (gWn (gBT U S i) 3 : Int)) 332 (19 + 14 * i + 1) (zI 0)) := zFr_I (zFr_a (zFr_a (zFr_I hf1 (by decide)) _ _ _ _ _) _ _ _ _ _) (by decide)
      have htf : gI (sI (aPw (aPw (sI τ2 332 (19 + 14 * i + 0) (zI 0)) i ((S.sT i 0 (S.tr i)).tn i) 0 (gWn (gBT U S i) 0 : Int) (gWn (gBT U S i) 1 : Int)) i (((S.sT i 0 (S.tr i)).apd i 0 (gWn (gBT U S i) 0) (gWn (gBT U S i) 1)).tn i) 0 (gWn (gBT U S i) 2 : Int) (gWn (gBT U S i) 3 : Int)) 332 (19 + 14 * i + 1) (zI 0)) 327 10 = zI 0 := by rw [gI_sI, if_neg (by omega), aPw_o _ _ _ _ _ _ _ _ (by decide), aPw_o _ _ _ _ _ _ _ _ (by decide), gI_sI, if_neg (by omega)]; exact ht1
      have hkf : zRk ((((S.sT i 0 (S.tr i)).apd i 0 (gWn (gBT U S i) 0) (gWn (gBT U S i) 1)).apd i 0 (gWn (gBT U S i) 2) (gWn (gBT U S i) 3)).fre i) := zRk_fre k2 i
      have hzf : zMP (sI (aPw (aPw (sI τ2 332 (19 + 14 * i + 0) (zI 0)) i ((S.sT i 0 (S.tr i)).tn i) 0 (gWn (gBT U S i) 0 : Int) (gWn (gBT U S i) 1 : Int)) i (((S.sT i 0 (S.tr i)).apd i 0 (gWn (gBT U S i) 0) (gWn (gBT U S i) 1)).tn i) 0 (gWn (gBT U S i) 2 : Int) (gWn (gBT U S i) 3 : Int)) 332 (19 + 14 * i + 1) (zI 0)) ((zDv.mk ni tx ec eo U S hh kp ou).re.sS ((((S.sT i 0 (S.tr i)).apd i 0 (gWn (gBT U S i) 0) (gWn (gBT U S i) 1)).apd i 0 (gWn (gBT U S i) 2) (gWn (gBT U S i) 3)).fre i)) := zMP_x (S := ((((S.sT i 0 (S.tr i)).apd i 0 (gWn (gBT U S i) 0) (gWn (gBT U S i) 1)).apd i 0 (gWn (gBT U S i) 2) (gWn (gBT U S i) 3)).fre i)) hz1 hWf hkf hXf
      have hfin : mH σ (sI (aPw (aPw (sI τ2 332 (19 + 14 * i + 0) (zI 0)) i ((S.sT i 0 (S.tr i)).tn i) 0 (gWn (gBT U S i) 0 : Int) (gWn (gBT U S i) 1 : Int)) i (((S.sT i 0 (S.tr i)).apd i 0 (gWn (gBT U S i) 0) (gWn (gBT U S i) 1)).tn i) 0 (gWn (gBT U S i) 2 : Int) (gWn (gBT U S i) 3 : Int)) 332 (19 + 14 * i + 1) (zI 0)) ((zDv.mk ni tx ec eo U S hh kp ou).re.sS ((((S.sT i 0 (S.tr i)).apd i 0 (gWn (gBT U S i) 0) (gWn (gBT U S i) 1)).apd i 0 (gWn (gBT U S i) 2) (gWn (gBT U S i) 3)).fre i)) := ⟨hzf, htf, hff⟩
      exact zv_iret C hr rfl dX11_build_131 ⟨by rw [if_neg (by omega)], by rw [show decide ((qTrue U i).1 < 0) = false from decide_eq_false (by omega), bld_f]; exact hfin⟩
    · skip
      refine zv_iconst (v := zI 1) C dX11_build_47 rfl ?_
      refine zv_goto (tgt := 52) C dX11_build_48 (by decide) ?_
      refine zv_istore_n (lv' := [(2, .int (zI 1)), (0, .ref (ob E 327)), (1, .int (zI (i : Int)))]) C dX11_build_52 rfl (by decide) rfl ?_
      refine zv_aload_n C 1 dX11_build_53 rfl rfl ?_
      refine zv_cvv (st := []) C (c2_X11_remembers hfl E τ1 (zDv.mk ni tx ec eo U S hh kp ou) hz0) mX11_remembers kX11_392 (by decide : kd 327 = 10) rfl rfl rfl ⟨rfl, rfl⟩ (show zfit (zrm 1 25) 1 (zrm 7 207) = true from rfl) (Nat.le_of_ble_eq_true rfl) dX11_build_54 ⟨Nat.zero_le _, Nat.zero_le _⟩ (fun τ2 hp54 => ?_)
      obtain ⟨⟨hz1, hz2, hz3, hz4⟩, hz5⟩ := hp54
      have hW1 : zRo (gI τ2 332) U.nb S := by rw [hz4, mS_g hK1.1 332 (by decide) (by decide)]; exact hW
      have hB1 : zRb (gI τ2 328) U := hz1.2.2.1
      have ht1 : gI τ2 327 10 = zI 0 := hz2.trans hK1.2
      have hf1 : zFr 327 339 σ τ2 := zFr_trans (zFr_trans (zFr_th σ 0) (mS_fr hK1.1)) hz3
      have hv0 : gI τ2 337 0 = zI (gWn (gBT U S i) 0 : Int) := by rw [hz5, ← hw0.2]; exact hwv 0 (by omega)
      have hv1 : gI τ2 337 1 = zI (gWn (gBT U S i) 1 : Int) := by rw [hz5, ← hw1.2]; exact hwv 1 (by omega)
      have hv2 : gI τ2 337 2 = zI (gWn (gBT U S i) 2 : Int) := by rw [hz5, ← hw2.2]; exact hwv 2 (by omega)
      have hv3 : gI τ2 337 3 = zI (gWn (gBT U S i) 3 : Int) := by rw [hz5, ← hw3.2]; exact hwv 3 (by omega)
      have q0 : zRo (gI (sI τ2 332 (19 + 14 * i + 0) (zI 0)) 332) U.nb (S.sT i 0 (S.tr i)) := zRo_emp hW1 hk9 hi8
      have q1 : zRo (gI (aPw (sI τ2 332 (19 + 14 * i + 0) (zI 0)) i ((S.sT i 0 (S.tr i)).tn i) 0 (gWn (gBT U S i) 0 : Int) (gWn (gBT U S i) 1 : Int)) 332) U.nb ((S.sT i 0 (S.tr i)).apd i 0 (gWn (gBT U S i) 0) (gWn (gBT U S i) 1)) := zRo_apd (a := 0) (b := gWn (gBT U S i) 0) (d := gWn (gBT U S i) 1) q0 k0 hi8 (by omega)
      have q2 : zRo (gI (aPw (aPw (sI τ2 332 (19 + 14 * i + 0) (zI 0)) i ((S.sT i 0 (S.tr i)).tn i) 0 (gWn (gBT U S i) 0 : Int) (gWn (gBT U S i) 1 : Int)) i (((S.sT i 0 (S.tr i)).apd i 0 (gWn (gBT U S i) 0) (gWn (gBT U S i) 1)).tn i) 0 (gWn (gBT U S i) 2 : Int) (gWn (gBT U S i) 3 : Int)) 332) U.nb (((S.sT i 0 (S.tr i)).apd i 0 (gWn (gBT U S i) 0) (gWn (gBT U S i) 1)).apd i 0 (gWn (gBT U S i) 2) (gWn (gBT U S i) 3)) := zRo_apd (a := 0) (b := gWn (gBT U S i) 2) (d := gWn (gBT U S i) 3) q1 k1 hi8 (by omega)
      have q3 : zRo (gI (aPw (aPw (aPw (sI τ2 332 (19 + 14 * i + 0) (zI 0)) i ((S.sT i 0 (S.tr i)).tn i) 0 (gWn (gBT U S i) 0 : Int) (gWn (gBT U S i) 1 : Int)) i (((S.sT i 0 (S.tr i)).apd i 0 (gWn (gBT U S i) 0) (gWn (gBT U S i) 1)).tn i) 0 (gWn (gBT U S i) 2 : Int) (gWn (gBT U S i) 3 : Int)) i ((((S.sT i 0 (S.tr i)).apd i 0 (gWn (gBT U S i) 0) (gWn (gBT U S i) 1)).apd i 0 (gWn (gBT U S i) 2) (gWn (gBT U S i) 3)).tn i) 2 (S.f 0 : Int) 0) 332) U.nb ((((S.sT i 0 (S.tr i)).apd i 0 (gWn (gBT U S i) 0) (gWn (gBT U S i) 1)).apd i 0 (gWn (gBT U S i) 2) (gWn (gBT U S i) 3)).apd i 2 (S.f 0) 0) := zRo_apd (a := 2) (b := S.f 0) (d := 0) q2 k2 hi8 (by omega)
      refine zv_aload_n C 1 dX11_build_57 rfl rfl ?_
      refine zG10_4 C (by decide : kd 327 = _) kX11_22 dX11_build_58 ?_
      refine zv_iload_n C 2 dX11_build_61 rfl rfl ?_
      refine zv_iconst (v := zI 0) C dX11_build_62 rfl ?_
      refine zv_csiD (st := [.ref (ob E 332)]) C (c_X11_trainAt hfl E τ2 i (0) (by omega) (by omega)) mX11_trainAt kX11_53 rfl ⟨rfl, rfl⟩ (show zfit (zrm 0 0) 2 (zrm 7 207) = true from rfl) (Nat.le_of_ble_eq_true rfl) dX11_build_63 ⟨Nat.zero_le _, Nat.zero_le _⟩ ?_
      refine zv_iconst (v := zI 0) C dX11_build_66 rfl ?_
      refine zv_iast (j := 19 + 14 * i + 0) C (by decide : kd 332 = _) (zI_ix rfl) (Nat.lt_of_lt_of_eq (show 19 + 14 * i + 0 < 131 by omega) (by decide)) dX11_build_67 ?_
      refine zv_aload_n C 1 dX11_build_68 rfl rfl ?_
      refine zv_iload_n C 2 dX11_build_69 rfl rfl ?_
      refine zv_iconst (v := zI 0) C dX11_build_70 rfl ?_
      refine zv_aload_n C 1 dX11_build_71 rfl rfl ?_
      refine zG10_25 C (by decide : kd 327 = _) kX11_41 dX11_build_72 ?_
      refine zv_iconst (v := zI 0) C dX11_build_75 rfl ?_
      refine zv_iald (j := 0) C (by decide : kd 337 = _) (zI_ix (by omega)) (by decide) dX11_build_76 ?_
      refine zv_eqi (y := (zI (gWn (gBT U S i) 0 : Int))) (hv0) ?_
      refine zv_aload_n C 1 dX11_build_77 rfl rfl ?_
      refine zG10_25 C (by decide : kd 327 = _) kX11_41 dX11_build_78 ?_
      refine zv_iconst (v := zI 1) C dX11_build_81 rfl ?_
      refine zv_iald (j := 1) C (by decide : kd 337 = _) (zI_ix (by omega)) (by decide) dX11_build_82 ?_
      refine zv_eqi (y := (zI (gWn (gBT U S i) 1 : Int))) (hv1) ?_
      refine zv_cvvD (st := []) C (c_X11_addsPart hfl E (sI τ2 332 (19 + 14 * i + 0) (zI 0)) U.nb (S.sT i 0 (S.tr i)) i 0 (gWn (gBT U S i) 0 : Int) (gWn (gBT U S i) 1 : Int) q0 hi8 (by omega)) mX11_addsPart kX11_204 (by decide : kd 327 = 10) rfl rfl rfl ⟨rfl, rfl⟩ (show zfit (zrm 2 42) 6 (zrm 7 207) = true from rfl) (Nat.le_of_ble_eq_true rfl) dX11_build_83 ⟨Nat.zero_le _, Nat.zero_le _⟩ ?_
      refine zv_aload_n C 1 dX11_build_86 rfl rfl ?_
      refine zv_iload_n C 2 dX11_build_87 rfl rfl ?_
      refine zv_iconst (v := zI 0) C dX11_build_88 rfl ?_
      refine zv_aload_n C 1 dX11_build_89 rfl rfl ?_
      refine zG10_25 C (by decide : kd 327 = _) kX11_41 dX11_build_90 ?_
      refine zv_iconst (v := zI 2) C dX11_build_93 rfl ?_
      refine zv_iald (j := 2) C (by decide : kd 337 = _) (zI_ix (by omega)) (by decide) dX11_build_94 ?_
      refine zv_eqi (y := (zI (gWn (gBT U S i) 2 : Int))) (hv2) ?_
      refine zv_aload_n C 1 dX11_build_95 rfl rfl ?_
      refine zG10_25 C (by decide : kd 327 = _) kX11_41 dX11_build_96 ?_
      refine zv_iconst (v := zI 3) C dX11_build_99 rfl ?_
      refine zv_iald (j := 3) C (by decide : kd 337 = _) (zI_ix (by omega)) (by decide) dX11_build_100 ?_
      refine zv_eqi (y := (zI (gWn (gBT U S i) 3 : Int))) (hv3) ?_
      refine zv_cvvD (st := []) C (c_X11_addsPart hfl E (aPw (sI τ2 332 (19 + 14 * i + 0) (zI 0)) i ((S.sT i 0 (S.tr i)).tn i) 0 (gWn (gBT U S i) 0 : Int) (gWn (gBT U S i) 1 : Int)) U.nb ((S.sT i 0 (S.tr i)).apd i 0 (gWn (gBT U S i) 0) (gWn (gBT U S i) 1)) i 0 (gWn (gBT U S i) 2 : Int) (gWn (gBT U S i) 3 : Int) q1 hi8 (by omega)) mX11_addsPart kX11_204 (by decide : kd 327 = 10) rfl rfl rfl ⟨rfl, rfl⟩ (show zfit (zrm 2 42) 6 (zrm 7 207) = true from rfl) (Nat.le_of_ble_eq_true rfl) dX11_build_101 ⟨Nat.zero_le _, Nat.zero_le _⟩ ?_
      refine zv_iload_n C 0 dX11_build_104 rfl rfl ?_
      refine zv_if_eqZ (tgt := 121) C (by omega) dX11_build_105 (by decide) (fun h105 => absurd h105 (by decide)) (fun h105 => ?_)
      refine zv_aload_n C 1 dX11_build_108 rfl rfl ?_
      refine zv_iload_n C 2 dX11_build_109 rfl rfl ?_
      refine zv_iconst (v := zI 2) C dX11_build_110 rfl ?_
      refine zv_aload_n C 1 dX11_build_111 rfl rfl ?_
      refine zG10_4 C (by decide : kd 327 = _) kX11_22 dX11_build_112 ?_
      refine zv_iconst (v := zI 1) C dX11_build_115 rfl ?_
      refine zv_iald (j := 1) C (by decide : kd 332 = _) (zI_ix (by omega)) (by decide) dX11_build_116 ?_
      refine zv_eqi (y := (zI (S.f 0 : Int))) (q2.2.1 0 (show 0 < S.n by omega)) ?_
      refine zv_iconst (v := zI 0) C dX11_build_117 rfl ?_
      refine zv_cvvD (st := []) C (c_X11_addsPart hfl E (aPw (aPw (sI τ2 332 (19 + 14 * i + 0) (zI 0)) i ((S.sT i 0 (S.tr i)).tn i) 0 (gWn (gBT U S i) 0 : Int) (gWn (gBT U S i) 1 : Int)) i (((S.sT i 0 (S.tr i)).apd i 0 (gWn (gBT U S i) 0) (gWn (gBT U S i) 1)).tn i) 0 (gWn (gBT U S i) 2 : Int) (gWn (gBT U S i) 3 : Int)) U.nb (((S.sT i 0 (S.tr i)).apd i 0 (gWn (gBT U S i) 0) (gWn (gBT U S i) 1)).apd i 0 (gWn (gBT U S i) 2) (gWn (gBT U S i) 3)) i 2 (S.f 0 : Int) 0 q2 hi8 (by omega)) mX11_addsPart kX11_204 (by decide : kd 327 = 10) rfl rfl rfl ⟨rfl, rfl⟩ (show zfit (zrm 2 42) 6 (zrm 7 207) = true from rfl) (Nat.le_of_ble_eq_true rfl) dX11_build_118 ⟨Nat.zero_le _, Nat.zero_le _⟩ ?_
      refine zv_aload_n C 1 dX11_build_121 rfl rfl ?_
      refine zv_iload_n C 2 dX11_build_122 rfl rfl ?_
      refine zv_cvvD (st := []) C (c_X11_frees hfl E (aPw (aPw (aPw (sI τ2 332 (19 + 14 * i + 0) (zI 0)) i ((S.sT i 0 (S.tr i)).tn i) 0 (gWn (gBT U S i) 0 : Int) (gWn (gBT U S i) 1 : Int)) i (((S.sT i 0 (S.tr i)).apd i 0 (gWn (gBT U S i) 0) (gWn (gBT U S i) 1)).tn i) 0 (gWn (gBT U S i) 2 : Int) (gWn (gBT U S i) 3 : Int)) i ((((S.sT i 0 (S.tr i)).apd i 0 (gWn (gBT U S i) 0) (gWn (gBT U S i) 1)).apd i 0 (gWn (gBT U S i) 2) (gWn (gBT U S i) 3)).tn i) 2 (S.f 0 : Int) 0) i (by omega)) mX11_frees kX11_395 (by decide : kd 327 = 10) rfl rfl rfl ⟨rfl, rfl⟩ (show zfit (zrm 1 21) 2 (zrm 7 207) = true from rfl) (Nat.le_of_ble_eq_true rfl) dX11_build_123 ⟨Nat.zero_le _, Nat.zero_le _⟩ ?_
      refine zv_aload_n C 1 dX11_build_126 rfl rfl ?_
      refine zv_iload_n C 2 dX11_build_127 rfl rfl ?_
      refine zv_cviD (st := []) C (c_X11_parts hfl E (sI (aPw (aPw (aPw (sI τ2 332 (19 + 14 * i + 0) (zI 0)) i ((S.sT i 0 (S.tr i)).tn i) 0 (gWn (gBT U S i) 0 : Int) (gWn (gBT U S i) 1 : Int)) i (((S.sT i 0 (S.tr i)).apd i 0 (gWn (gBT U S i) 0) (gWn (gBT U S i) 1)).tn i) 0 (gWn (gBT U S i) 2 : Int) (gWn (gBT U S i) 3 : Int)) i ((((S.sT i 0 (S.tr i)).apd i 0 (gWn (gBT U S i) 0) (gWn (gBT U S i) 1)).apd i 0 (gWn (gBT U S i) 2) (gWn (gBT U S i) 3)).tn i) 2 (S.f 0 : Int) 0) 332 (19 + 14 * i + 1) (zI 0)) U.nb (((((S.sT i 0 (S.tr i)).apd i 0 (gWn (gBT U S i) 0) (gWn (gBT U S i) 1)).apd i 0 (gWn (gBT U S i) 2) (gWn (gBT U S i) 3)).apd i 2 (S.f 0) 0).fre i) i (zRo_fre q3 k3 hi8) hi8) mX11_parts kX11_188 (by decide : kd 327 = 10) rfl rfl rfl ⟨rfl, rfl⟩ (show zfit (zrm 1 21) 2 (zrm 7 207) = true from rfl) (Nat.le_of_ble_eq_true rfl) dX11_build_128 ⟨Nat.zero_le _, Nat.zero_le _⟩ ?_
      refine zv_eqi (y := (zI 3)) (congrArg zI (by rw [e3]; rfl)) ?_
      have hWf : zRo (gI (sI (aPw (aPw (aPw (sI τ2 332 (19 + 14 * i + 0) (zI 0)) i ((S.sT i 0 (S.tr i)).tn i) 0 (gWn (gBT U S i) 0 : Int) (gWn (gBT U S i) 1 : Int)) i (((S.sT i 0 (S.tr i)).apd i 0 (gWn (gBT U S i) 0) (gWn (gBT U S i) 1)).tn i) 0 (gWn (gBT U S i) 2 : Int) (gWn (gBT U S i) 3 : Int)) i ((((S.sT i 0 (S.tr i)).apd i 0 (gWn (gBT U S i) 0) (gWn (gBT U S i) 1)).apd i 0 (gWn (gBT U S i) 2) (gWn (gBT U S i) 3)).tn i) 2 (S.f 0 : Int) 0) 332 (19 + 14 * i + 1) (zI 0)) 332) U.nb (((((S.sT i 0 (S.tr i)).apd i 0 (gWn (gBT U S i) 0) (gWn (gBT U S i) 1)).apd i 0 (gWn (gBT U S i) 2) (gWn (gBT U S i) 3)).apd i 2 (S.f 0) 0).fre i) := (zRo_fre q3 k3 hi8)
      have hXf : zMx τ2 (sI (aPw (aPw (aPw (sI τ2 332 (19 + 14 * i + 0) (zI 0)) i ((S.sT i 0 (S.tr i)).tn i) 0 (gWn (gBT U S i) 0 : Int) (gWn (gBT U S i) 1 : Int)) i (((S.sT i 0 (S.tr i)).apd i 0 (gWn (gBT U S i) 0) (gWn (gBT U S i) 1)).tn i) 0 (gWn (gBT U S i) 2 : Int) (gWn (gBT U S i) 3 : Int)) i ((((S.sT i 0 (S.tr i)).apd i 0 (gWn (gBT U S i) 0) (gWn (gBT U S i) 1)).apd i 0 (gWn (gBT U S i) 2) (gWn (gBT U S i) 3)).tn i) 2 (S.f 0 : Int) 0) 332 (19 + 14 * i + 1) (zI 0)) := zMx_I (zMx_a (zMx_a (zMx_a (zMx_I (zMx_r _) _ _) _ _ _ _ _) _ _ _ _ _) _ _ _ _ _) _ _
      have hff : zFr 327 339 σ (sI (aPw (aPw (aPw (sI τ2 332 (19 + 14 * i + 0) (zI 0)) i ((S.sT i 0 (S.tr i)).tn i) 0 (gWn (gBT U S i) 0 : Int) (gWn (gBT U S i) 1 : Int)) i (((S.sT i 0 (S.tr i)).apd i 0 (gWn (gBT U S i) 0) (gWn (gBT U S i) 1)).tn i) 0 (gWn (gBT U S i) 2 : Int) (gWn (gBT U S i) 3 : Int)) i ((((S.sT i 0 (S.tr i)).apd i 0 (gWn (gBT U S i) 0) (gWn (gBT U S i) 1)).apd i 0 (gWn (gBT U S i) 2) (gWn (gBT U S i) 3)).tn i) 2 (S.f 0 : Int) 0) 332 (19 + 14 * i + 1) (zI 0)) := zFr_I (zFr_a (zFr_a (zFr_a (zFr_I hf1 (by decide)) _ _ _ _ _) _ _ _ _ _) _ _ _ _ _) (by decide)
      have htf : gI (sI (aPw (aPw (aPw (sI τ2 332 (19 + 14 * i + 0) (zI 0)) i ((S.sT i 0 (S.tr i)).tn i) 0 (gWn (gBT U S i) 0 : Int) (gWn (gBT U S i) 1 : Int)) i (((S.sT i 0 (S.tr i)).apd i 0 (gWn (gBT U S i) 0) (gWn (gBT U S i) 1)).tn i) 0 (gWn (gBT U S i) 2 : Int) (gWn (gBT U S i) 3 : Int)) i ((((S.sT i 0 (S.tr i)).apd i 0 (gWn (gBT U S i) 0) (gWn (gBT U S i) 1)).apd i 0 (gWn (gBT U S i) 2) (gWn (gBT U S i) 3)).tn i) 2 (S.f 0 : Int) 0) 332 (19 + 14 * i + 1) (zI 0)) 327 10 = zI 0 := by rw [gI_sI, if_neg (by omega), aPw_o _ _ _ _ _ _ _ _ (by decide), aPw_o _ _ _ _ _ _ _ _ (by decide), aPw_o _ _ _ _ _ _ _ _ (by decide), gI_sI, if_neg (by omega)]; exact ht1
      have hkf : zRk (((((S.sT i 0 (S.tr i)).apd i 0 (gWn (gBT U S i) 0) (gWn (gBT U S i) 1)).apd i 0 (gWn (gBT U S i) 2) (gWn (gBT U S i) 3)).apd i 2 (S.f 0) 0).fre i) := zRk_fre k3 i
      have hzf : zMP (sI (aPw (aPw (aPw (sI τ2 332 (19 + 14 * i + 0) (zI 0)) i ((S.sT i 0 (S.tr i)).tn i) 0 (gWn (gBT U S i) 0 : Int) (gWn (gBT U S i) 1 : Int)) i (((S.sT i 0 (S.tr i)).apd i 0 (gWn (gBT U S i) 0) (gWn (gBT U S i) 1)).tn i) 0 (gWn (gBT U S i) 2 : Int) (gWn (gBT U S i) 3 : Int)) i ((((S.sT i 0 (S.tr i)).apd i 0 (gWn (gBT U S i) 0) (gWn (gBT U S i) 1)).apd i 0 (gWn (gBT U S i) 2) (gWn (gBT U S i) 3)).tn i) 2 (S.f 0 : Int) 0) 332 (19 + 14 * i + 1) (zI 0)) ((zDv.mk ni tx ec eo U S hh kp ou).re.sS (((((S.sT i 0 (S.tr i)).apd i 0 (gWn (gBT U S i) 0) (gWn (gBT U S i) 1)).apd i 0 (gWn (gBT U S i) 2) (gWn (gBT U S i) 3)).apd i 2 (S.f 0) 0).fre i)) := zMP_x (S := (((((S.sT i 0 (S.tr i)).apd i 0 (gWn (gBT U S i) 0) (gWn (gBT U S i) 1)).apd i 0 (gWn (gBT U S i) 2) (gWn (gBT U S i) 3)).apd i 2 (S.f 0) 0).fre i)) hz1 hWf hkf hXf
      have hfin : mH σ (sI (aPw (aPw (aPw (sI τ2 332 (19 + 14 * i + 0) (zI 0)) i ((S.sT i 0 (S.tr i)).tn i) 0 (gWn (gBT U S i) 0 : Int) (gWn (gBT U S i) 1 : Int)) i (((S.sT i 0 (S.tr i)).apd i 0 (gWn (gBT U S i) 0) (gWn (gBT U S i) 1)).tn i) 0 (gWn (gBT U S i) 2 : Int) (gWn (gBT U S i) 3 : Int)) i ((((S.sT i 0 (S.tr i)).apd i 0 (gWn (gBT U S i) 0) (gWn (gBT U S i) 1)).apd i 0 (gWn (gBT U S i) 2) (gWn (gBT U S i) 3)).tn i) 2 (S.f 0 : Int) 0) 332 (19 + 14 * i + 1) (zI 0)) ((zDv.mk ni tx ec eo U S hh kp ou).re.sS (((((S.sT i 0 (S.tr i)).apd i 0 (gWn (gBT U S i) 0) (gWn (gBT U S i) 1)).apd i 0 (gWn (gBT U S i) 2) (gWn (gBT U S i) 3)).apd i 2 (S.f 0) 0).fre i)) := ⟨hzf, htf, hff⟩
      exact zv_iret C hr rfl dX11_build_131 ⟨by rw [if_pos (by omega)], by rw [show decide ((qTrue U i).1 < 0) = true from decide_eq_true (by omega), bld_t]; exact hfin⟩
  · exfalso
    omega
set_option maxRecDepth 20000 in
theorem x1_X11_build {l : Launch} (hfl : l.stackTraces = false) (E : zE) (σ : zS) (σc : zS) (U : zSU) (y : Int) (hB : zRb (gI σ 328) U) (hU : zSUp σc 29 U) (hy : -2147483648 ≤ y ∧ y < 2147483648) (hno : ¬ (0 ≤ y ∧ y < U.nb)) : zRi l E yX11_build cX11_build 3 .int (zrm 2 46) [.ref (ob E 327), .int (zI y)] σ (fun r τ => r = zI 0 ∧ mK σ τ 1) := by
  refine Met.ofW (cc := cX11_build) (maxL := 3) (ret := (some .int)) (by decide +kernel) rfl ?_
  intro p e s m args below meth c s₁ B hml hv
  obtain ⟨rfl, hd⟩ := hv
  have C := zX_of (own := RX11) hfl B hml rfl hd rfl
  have hr := B.returns
  refine zV_go hd (Nat.le_of_ble_eq_true rfl) (lv := [(0, .ref (ob E 327)), (1, .int (zI y))]) rfl ?_
  have hnb : U.nb ≤ 8 := hU.2.2.1
  have hs0 := hU.2.2.2.1
  
  refine zv_aload_n C 0 dX11_build_0 rfl rfl ?_
  refine zv_iload_n C 1 dX11_build_1 rfl rfl ?_
  refine zv_cviD (st := []) C (c1_X11_noBody hfl E σ σc U (y) hB hU (by omega) hno) mX11_noBody kX11_319 (by decide : kd 327 = 10) rfl rfl rfl ⟨rfl, rfl⟩ (show zfit (zrm 1 25) 2 (zrm 2 46) = true from rfl) (Nat.le_of_ble_eq_true rfl) dX11_build_2 ⟨Nat.zero_le _, Nat.zero_le _⟩ ?_
  refine zv_if_neZ (tgt := 31) C (by omega) dX11_build_5 (by decide) (fun h5 => ?_) (fun h5 => absurd h5 (by decide))
  refine zv_iconst (v := zI 0) C dX11_build_31 rfl ?_
  exact zv_iret C hr rfl dX11_build_32 ⟨rfl, by first | exact mK_th _ _ | exact mK_th2 _ _ _ | exact mK_C (mK_W (mK_th _ _) _ _) _ | exact mK_W (mK_th _ _) _ _⟩
set_option maxRecDepth 20000 in
theorem x2_X11_build {l : Launch} (hfl : l.stackTraces = false) (E : zE) (σ : zS) (σc : zS) (U : zSU) (S : zST) (i : Nat) (hB : zRb (gI σ 328) U) (hU : zSUp σc 29 U) (hW : zRo (gI σ 332) U.nb S) (hS : zSTp σc 34 S) (hi : i < U.nb) (hn2 : S.n < 2) : zRi l E yX11_build cX11_build 3 .int (zrm 2 46) [.ref (ob E 327), .int (zI (i : Int))] σ (fun r τ => r = zI 0 ∧ mK σ τ 2) := by
  refine Met.ofW (cc := cX11_build) (maxL := 3) (ret := (some .int)) (by decide +kernel) rfl ?_
  intro p e s m args below meth c s₁ B hml hv
  obtain ⟨rfl, hd⟩ := hv
  have C := zX_of (own := RX11) hfl B hml rfl hd rfl
  have hr := B.returns
  refine zV_go hd (Nat.le_of_ble_eq_true rfl) (lv := [(0, .ref (ob E 327)), (1, .int (zI (i : Int)))]) rfl ?_
  have hnb : U.nb ≤ 8 := hU.2.2.1
  have hs0 := hU.2.2.2.1
  
  refine zv_aload_n C 0 dX11_build_0 rfl rfl ?_
  refine zv_iload_n C 1 dX11_build_1 rfl rfl ?_
  refine zv_cviD (st := []) C (c0_X11_noBody hfl E σ σc U ((i : Int)) hB hU (by omega)) mX11_noBody kX11_319 (by decide : kd 327 = 10) rfl rfl rfl ⟨rfl, rfl⟩ (show zfit (zrm 1 25) 2 (zrm 2 46) = true from rfl) (Nat.le_of_ble_eq_true rfl) dX11_build_2 ⟨Nat.zero_le _, Nat.zero_le _⟩ ?_
  refine zv_if_neZ (tgt := 31) C (by omega) dX11_build_5 (by decide) (fun h5 => absurd h5 (by decide)) (fun h5 => ?_)
  refine zv_aload_n C 0 dX11_build_8 rfl rfl ?_
  refine zv_aload_n C 0 dX11_build_9 rfl rfl ?_
  refine zG10_4 C (by decide : kd 327 = _) kX11_22 dX11_build_10 ?_
  refine zv_iconst (v := zI 0) C dX11_build_13 rfl ?_
  refine zv_iald (j := 0) C (by decide : kd 332 = _) (zI_ix (by omega)) (by decide) dX11_build_14 ?_
  refine zv_eqi (y := (zI (S.n : Int))) (hW.1) ?_
  refine zv_iconst (v := zI 2) C dX11_build_15 rfl ?_
  refine zv_icmp_geZ (tgt := 23) C (by omega) (by omega) dX11_build_16 (by decide) (fun h16 => ?_) (fun h16 => ?_)
  · skip
    refine zv_iconst (v := zI 0) C dX11_build_23 rfl ?_
    refine zv_iconst (v := zI 2) C dX11_build_24 rfl ?_
    exfalso
    omega
  · skip
    refine zv_iconst (v := zI 1) C dX11_build_19 rfl ?_
    refine zv_goto (tgt := 24) C dX11_build_20 (by decide) ?_
    refine zv_iconst (v := zI 2) C dX11_build_24 rfl ?_
    refine zv_cviD (st := []) C (c1_X11_fails hfl E (thW σ 0) 2) mX11_fails kX11_309 (by decide : kd 327 = 10) rfl rfl rfl ⟨rfl, rfl⟩ (show zfit (zrm 0 0) 3 (zrm 2 46) = true from rfl) (Nat.le_of_ble_eq_true rfl) dX11_build_25 ⟨Nat.zero_le _, Nat.zero_le _⟩ ?_
    refine zv_if_eqZ (tgt := 33) C (by omega) dX11_build_28 (by decide) (fun h28 => absurd h28 (by decide)) (fun h28 => ?_)
    refine zv_iconst (v := zI 0) C dX11_build_31 rfl ?_
    exact zv_iret C hr rfl dX11_build_32 ⟨rfl, mK_th2 _ _ _⟩
