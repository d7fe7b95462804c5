/-! trains searched, in the reference -/
set_option maxRecDepth 20000 in
theorem c_X11_searchesTrain {l : Launch} (hfl : l.stackTraces = false) (E : zE) (σ : zS) (σc : zS) (U : zSU) (S : zST) (i : Nat) (hB : zRb (gI σ 328) U) (hU : zSUp σc 29 U) (hW : zRo (gI σ 332) U.nb S) (hS : zSTp σc 34 S) (hi : i < U.nb) (hth : gI σ 327 10 = zI 0) : zRv l E yX11_searchesTrain cX11_searchesTrain 9 (zrm 6 179) [.ref (ob E 327), .int (zI (i : Int))] σ (fun τ => zHb τ (hT1 (qTrue U i).1 (qTrue U i).2.toNat S.f S.n (S.n * S.n)) ∧ mK σ τ 0 ∧ gJ τ 327 22 = zL (qTrue U i).1 ∧ gJ τ 327 23 = zL (((qTrue U i).2.toNat : Nat) : Int) ∧ hOk (hT1 (qTrue U i).1 (qTrue U i).2.toNat S.f S.n (S.n * S.n))) := by
  refine Met.ofW (cc := cX11_searchesTrain) (maxL := 9) (ret := none) (by decide +kernel) rfl ?_
  intro p e s m args below meth c s₁ B hml hv
  obtain ⟨rfl, hd⟩ := hv
  have C := zX_of (own := RX11) hfl B hml rfl hd rfl
  have hr := B.returns
  refine zV_go hd (Nat.le_of_ble_eq_true rfl) (lv := [(0, .ref (ob E 327)), (1, .int (zI (i : Int)))]) rfl ?_
  have hnb : U.nb ≤ 8 := hU.2.2.1
  have hs0 := hU.2.2.2.1
  have hn16 : S.n ≤ 16 := hS.1.2.1
  have hf9 : ∀ i, i < S.n → 8 ≤ S.f i ∧ S.f i ≤ 100 := fun i h => ⟨hS.2.1 i h, hS.1.2.2.2 i h⟩
  have hs9 := hS.2.2.1
  have hqt := qTrue_b hU hi
  have hKs : mK σ σ 0 := ⟨mS_r σ, hth⟩
  obtain ⟨N, hNN⟩ : ∃ N, N = S.n * S.n := ⟨_, rfl⟩
  have hN2 : S.n * S.n ≤ 16 * 16 := Nat.mul_le_mul hn16 hn16
  have hNi : zI ((S.n : Int) * (S.n : Int)) = zI (N : Int) := congrArg zI (by rw [hNN]; exact (Int.natCast_mul _ _).symm)
  refine zv_aload_n C 0 dX11_searchesTrain_0 rfl rfl ?_
  refine zv_iload_n C 1 dX11_searchesTrain_1 rfl rfl ?_
  refine zv_cvvD (st := []) C (c_X11_dueOwn hfl E σ σc U i hB hU hi) mX11_dueOwn kX11_375 (by decide : kd 327 = 10) rfl rfl rfl ⟨rfl, rfl⟩ (show zfit (zrm 4 97) 6 (zrm 6 179) = true from rfl) (Nat.le_of_ble_eq_true rfl) dX11_searchesTrain_2 ⟨Nat.zero_le _, Nat.zero_le _⟩ ?_
  refine zv_aload_n C 0 dX11_searchesTrain_5 rfl rfl ?_
  refine zG10_25 C (by decide : kd 327 = _) kX11_41 dX11_searchesTrain_6 ?_
  refine zv_iconst (v := zI 0) C dX11_searchesTrain_9 rfl ?_
  refine zv_iconst (v := zI (-1)) C dX11_searchesTrain_10 rfl ?_
  refine zv_iast (j := 0) C (by decide : kd 337 = _) (zI_ix (by omega)) (by decide) dX11_searchesTrain_11 ?_
  refine zv_aload_n C 0 dX11_searchesTrain_12 rfl rfl ?_
  refine zG10_4 C (by decide : kd 327 = _) kX11_22 dX11_searchesTrain_13 ?_
  refine zv_iconst (v := zI 0) C dX11_searchesTrain_16 rfl ?_
  refine zv_iald (j := 0) C (by decide : kd 332 = _) (zI_ix (by omega)) (by decide) dX11_searchesTrain_17 ?_
  refine zv_eqi (y := (zI (S.n : Int))) ((mK_R (mK_7 (mK_W hKs _ _) _ _) hW).1) ?_
  refine zv_istore_n (lv' := [(2, .int (zI (S.n : Int))), (0, .ref (ob E 327)), (1, .int (zI (i : Int)))]) C dX11_searchesTrain_18 rfl (by decide) rfl ?_
  refine zv_iconst (v := zI 0) C dX11_searchesTrain_19 rfl ?_
  refine zv_istore_n (lv' := [(3, .int (zI 0)), (2, .int (zI (S.n : Int))), (0, .ref (ob E 327)), (1, .int (zI (i : Int)))]) C dX11_searchesTrain_20 rfl (by decide) rfl ?_
  have q21_26 : (0 : Int) = (0 : Int) := by rfl
  refine zv_sub (lv' := [(0, .ref (ob E 327)), (1, .int (zI (i : Int))), (2, .int (zI (S.n : Int))), (3, .int (zI (0 : Int)))]) [2, 3, 1, 0] (zcons rfl (zcons rfl (zcons rfl (zcons (zqI q21_26) rfl)))) ?_
  refine zv_eqS (τ := (sI (mW σ (qTrue U i).1 (qTrue U i).2) 337 0 (zI (-1)))) (rfl) ?_
  refine zv_while (α := Nat × zS) (fun v => N - v.1) (fun v => v.1 ≤ N ∧ hIt S.f S.n v.1 v.1 (hT1 (qTrue U i).1 (qTrue U i).2.toNat S.f S.n v.1) ∧ zHb v.2 (hT1 (qTrue U i).1 (qTrue U i).2.toNat S.f S.n v.1) ∧ mK σ v.2 0 ∧ gJ v.2 327 22 = zL (qTrue U i).1 ∧ gJ v.2 327 23 = zL (((qTrue U i).2.toNat : Nat) : Int)) (fun v => v.2) (fun v => [(0, .ref (ob E 327)), (1, .int (zI (i : Int))), (2, .int (zI (S.n : Int))), (3, .int (zI (v.1 : Int)))]) (fun v => []) (fun v hI ih => ?_) ((0, (sI (mW σ (qTrue U i).1 (qTrue U i).2) 337 0 (zI (-1))))) (⟨Nat.zero_le _, trivial, rfl, mK_7 (mK_W hKs _ _) _ _, (mW_r _ _ _).1, by show gJ (mW σ (qTrue U i).1 (qTrue U i).2) 327 23 = _; rw [(mW_r _ _ _).2]; exact congrArg zL (by omega)⟩)
  obtain ⟨o, u⟩ := v
  dsimp only at hI ih ⊢
  obtain ⟨ho, hH0, hG0, hK, hup0, hdn0⟩ := hI
  refine zv_iload_n C 3 dX11_searchesTrain_21 rfl rfl ?_
  refine zv_iload_n C 2 dX11_searchesTrain_22 rfl rfl ?_
  refine zv_iload_n C 2 dX11_searchesTrain_23 rfl rfl ?_
  refine zv_imulZ C dX11_searchesTrain_24 ?_
  refine zv_eqi (y := (zI (N : Int))) (hNi) ?_
  refine zv_icmp_geZ (tgt := 150) C (by omega) (by omega) dX11_searchesTrain_25 (by decide) (fun h25 => ?_) (fun h25 => ?_)
  · skip
    exact zv_vret C hr dX11_searchesTrain_150 (by rw [show o = S.n * S.n by omega] at hG0 hH0; exact ⟨hG0, hK, hup0, hdn0, hIt_ok hf9 hH0⟩)
  · skip
    have hdo := nn_d (n := S.n) (o := o) (by omega)
    have hdo0 : (0 : Int) ≤ ((o / S.n : Nat) : Int) := Int.natCast_nonneg _
    refine zv_iload_n C 3 dX11_searchesTrain_28 rfl rfl ?_
    refine zv_istore (lv' := [(4, .int (zI (o : Int))), (0, .ref (ob E 327)), (1, .int (zI (i : Int))), (2, .int (zI (S.n : Int))), (3, .int (zI (o : Int)))]) C dX11_searchesTrain_29  (by decide) rfl ?_
    refine zv_sub (lv' := [(0, .ref (ob E 327)), (1, .int (zI (i : Int))), (2, .int (zI (S.n : Int))), (3, .int (zI (o : Int))), (4, .int (zI (o : Int)))]) [1, 2, 3, 4, 0] (zcons rfl (zcons rfl (zcons rfl (zcons rfl (zcons rfl rfl))))) ?_
    refine zv_eqS (τ := u) (rfl) ?_
    refine zv_while (α := Nat × zS) (fun v => N - v.1) (fun v => o ≤ v.1 ∧ v.1 ≤ N ∧ hIt S.f S.n o v.1 (hT2 (qTrue U i).1 (qTrue U i).2.toNat S.f S.n o v.1 (hT1 (qTrue U i).1 (qTrue U i).2.toNat S.f S.n o)) ∧ zHb v.2 (hT2 (qTrue U i).1 (qTrue U i).2.toNat S.f S.n o v.1 (hT1 (qTrue U i).1 (qTrue U i).2.toNat S.f S.n o)) ∧ mK σ v.2 0 ∧ gJ v.2 327 22 = zL (qTrue U i).1 ∧ gJ v.2 327 23 = zL (((qTrue U i).2.toNat : Nat) : Int)) (fun v => v.2) (fun v => [(0, .ref (ob E 327)), (1, .int (zI (i : Int))), (2, .int (zI (S.n : Int))), (3, .int (zI (o : Int))), (4, .int (zI (v.1 : Int)))]) (fun v => []) (fun v hI ih31 => ?_) ((o, u)) (⟨Nat.le_refl _, ho, by rw [hT2_0 (Nat.le_refl _)]; exact hH0, by rw [hT2_0 (Nat.le_refl _)]; exact hG0, hK, hup0, hdn0⟩)
    obtain ⟨q, v9⟩ := v
    dsimp only at hI ih31 ⊢
    obtain ⟨hoq, hqN, hH, hG, hK, hup, hdn⟩ := hI
    refine zv_iload C 4 dX11_searchesTrain_31 rfl ?_
    refine zv_iload_n C 2 dX11_searchesTrain_33 rfl rfl ?_
    refine zv_iload_n C 2 dX11_searchesTrain_34 rfl rfl ?_
    refine zv_imulZ C dX11_searchesTrain_35 ?_
    refine zv_eqi (y := (zI (N : Int))) (hNi) ?_
    refine zv_icmp_geZ (tgt := 144) C (by omega) (by omega) dX11_searchesTrain_36 (by decide) (fun h36 => ?_) (fun h36 => ?_)
    · skip
      refine zv_iinc (v := (zI ((o : Int) + 1))) (lv' := [(3, .int (zI ((o : Int) + 1))), (0, .ref (ob E 327)), (1, .int (zI (i : Int))), (2, .int (zI (S.n : Int))), (4, .int (zI (q : Int)))]) C 3 dX11_searchesTrain_144 rfl (zI_add _ _) (by decide) rfl ?_
      refine zv_goto (tgt := 21) C dX11_searchesTrain_147 (by decide) ?_
      have q21_61 : ((o : Int) + 1 : Int) = ((o + 1 : Nat) : Int) := by omega
      refine zv_sub (lv' := [(0, .ref (ob E 327)), (1, .int (zI (i : Int))), (2, .int (zI (S.n : Int))), (3, .int (zI ((o + 1 : Nat) : Int)))]) [1, 2, 3, 0] (zcons rfl (zcons rfl (zcons rfl (zcons (zqI q21_61) rfl)))) ?_
      refine zv_eqS (τ := v9) (rfl) ?_
      exact ih ((o + 1, v9)) (⟨by show o + 1 ≤ N; omega, by rw [hT1]; rw [show q = S.n * S.n by omega] at hH; exact hIt_row hH, by rw [hT1]; rw [show q = S.n * S.n by omega] at hG; exact hG, hK, hup, hdn⟩) (by show N - (o + 1) < N - o; omega)
    · skip
      have hdq := nn_d (n := S.n) (o := q) (by omega)
      have hdq0 : (0 : Int) ≤ ((q / S.n : Nat) : Int) := Int.natCast_nonneg _
      refine zv_iload_n C 3 dX11_searchesTrain_39 rfl rfl ?_
      refine zv_iload_n C 2 dX11_searchesTrain_40 rfl rfl ?_
      refine zv_idivP C (by omega) (by omega) dX11_searchesTrain_41 ?_
      refine zv_eqi (y := (zI ((o / S.n : Nat) : Int))) (by rw [Int.natCast_ediv]) ?_
      refine zv_iload_n C 3 dX11_searchesTrain_42 rfl rfl ?_
      refine zv_iload_n C 2 dX11_searchesTrain_43 rfl rfl ?_
      refine zv_iremP C (by omega) (by omega) dX11_searchesTrain_44 ?_
      refine zv_eqi (y := (zI ((o % S.n : Nat) : Int))) (by rw [Int.natCast_emod]) ?_
      refine zv_icmp_eqZ (tgt := 138) C (by omega) (by omega) dX11_searchesTrain_45 (by decide) (fun h45 => ?_) (fun h45 => ?_)
      · skip
        have hsk : o / S.n = o % S.n ∨ q / S.n = q % S.n := Or.inl (by omega)
        refine zv_iinc (v := (zI ((q : Int) + 1))) (lv' := [(4, .int (zI ((q : Int) + 1))), (0, .ref (ob E 327)), (1, .int (zI (i : Int))), (2, .int (zI (S.n : Int))), (3, .int (zI (o : Int)))]) C 4 dX11_searchesTrain_138 rfl (zI_add _ _) (by decide) rfl ?_
        refine zv_goto (tgt := 31) C dX11_searchesTrain_141 (by decide) ?_
        have q31_81 : ((q : Int) + 1 : Int) = ((q + 1 : Nat) : Int) := by omega
        refine zv_sub (lv' := [(0, .ref (ob E 327)), (1, .int (zI (i : Int))), (2, .int (zI (S.n : Int))), (3, .int (zI (o : Int))), (4, .int (zI ((q + 1 : Nat) : Int)))]) [1, 2, 3, 4, 0] (zcons rfl (zcons rfl (zcons rfl (zcons rfl (zcons (zqI q31_81) rfl))))) ?_
        refine zv_eqS (τ := v9) (rfl) ?_
        exact ih31 ((q + 1, v9)) (by first | exact ⟨by show o ≤ q + 1; omega, by show q + 1 ≤ N; omega, by rw [hT2_s hoq, hTc, if_pos hsk]; exact hIt_s hH (Or.inr ⟨rfl, by omega⟩), by rw [hT2_s hoq, hTc, if_pos hsk]; exact hG, hK, hup, hdn⟩ | exact ⟨by show o ≤ q + 1; omega, by show q + 1 ≤ N; omega, by rw [hT2_s hoq, hTc, if_neg hsk]; exact hIt_new hH (by omega) (by omega) (hOff_b (by omega) (by omega) (by omega) (by omega)), by rw [hT2_s hoq, hTc, if_neg hsk]; exact zHb_w hG _ _ _ _ _ _, mK_Hw hK _ _ _ _ _ _ _, (hWd_J (by decide)).trans hup, (hWd_J (by decide)).trans hdn⟩) (by show N - (q + 1) < N - q; omega)
      · skip
        refine zv_iload C 4 dX11_searchesTrain_48 rfl ?_
        refine zv_iload_n C 2 dX11_searchesTrain_50 rfl rfl ?_
        refine zv_idivP C (by omega) (by omega) dX11_searchesTrain_51 ?_
        refine zv_eqi (y := (zI ((q / S.n : Nat) : Int))) (by rw [Int.natCast_ediv]) ?_
        refine zv_iload C 4 dX11_searchesTrain_52 rfl ?_
        refine zv_iload_n C 2 dX11_searchesTrain_54 rfl rfl ?_
        refine zv_iremP C (by omega) (by omega) dX11_searchesTrain_55 ?_
        refine zv_eqi (y := (zI ((q % S.n : Nat) : Int))) (by rw [Int.natCast_emod]) ?_
        refine zv_icmp_neZ (tgt := 62) C (by omega) (by omega) dX11_searchesTrain_56 (by decide) (fun h56 => ?_) (fun h56 => ?_)
        · skip
          have hsk : ¬ (o / S.n = o % S.n ∨ q / S.n = q % S.n) := by omega
          have e1 := hf9 (o / S.n) (by omega)
          have e2 := hf9 (o % S.n) (by omega)
          have e3 := hf9 (q / S.n) (by omega)
          have e4 := hf9 (q % S.n) (by omega)
          have m1 : S.f (o / S.n) * S.f (q / S.n) ≤ 100 * 100 := Nat.mul_le_mul e1.2 e3.2
          have m2 : S.f (o % S.n) * S.f (q % S.n) ≤ 100 * 100 := Nat.mul_le_mul e2.2 e4.2
          have m3 : 8 * 8 ≤ S.f (o % S.n) * S.f (q % S.n) := Nat.mul_le_mul e2.1 e4.1
          refine zv_aload_n C 0 dX11_searchesTrain_62 rfl rfl ?_
          refine zG10_4 C (by decide : kd 327 = _) kX11_22 dX11_searchesTrain_63 ?_
          refine zv_iconst (v := zI 1) C dX11_searchesTrain_66 rfl ?_
          refine zv_iload_n C 3 dX11_searchesTrain_67 rfl rfl ?_
          refine zv_iload_n C 2 dX11_searchesTrain_68 rfl rfl ?_
          refine zv_idivP C (by omega) (by omega) dX11_searchesTrain_69 ?_
          refine zv_eqi (y := (zI ((o / S.n : Nat) : Int))) (by rw [Int.natCast_ediv]) ?_
          refine zv_iaddZ C dX11_searchesTrain_70 ?_
          refine zv_iald (j := 1 + o / S.n) C (by decide : kd 332 = _) (zI_ix (by omega)) (Nat.lt_of_lt_of_eq (show 1 + o / S.n < 131 by omega) (by decide)) dX11_searchesTrain_71 ?_
          refine zv_eqi (y := (zI (S.f (o / S.n) : Int))) ((mK_R hK hW).2.1 (o / S.n) (by omega)) ?_
          refine zv_istore (lv' := [(5, .int (zI (S.f (o / S.n) : Int))), (0, .ref (ob E 327)), (1, .int (zI (i : Int))), (2, .int (zI (S.n : Int))), (3, .int (zI (o : Int))), (4, .int (zI (q : Int)))]) C dX11_searchesTrain_72  (by decide) rfl ?_
          refine zv_aload_n C 1 dX11_searchesTrain_74 rfl rfl ?_
          refine zG10_4 C (by decide : kd 327 = _) kX11_22 dX11_searchesTrain_75 ?_
          refine zv_iconst (v := zI 1) C dX11_searchesTrain_78 rfl ?_
          refine zv_iload_n C 4 dX11_searchesTrain_79 rfl rfl ?_
          refine zv_iload_n C 3 dX11_searchesTrain_80 rfl rfl ?_
          refine zv_iremP C (by omega) (by omega) dX11_searchesTrain_81 ?_
          refine zv_eqi (y := (zI ((o % S.n : Nat) : Int))) (by rw [Int.natCast_emod]) ?_
          refine zv_iaddZ C dX11_searchesTrain_82 ?_
          refine zv_iald (j := 1 + o % S.n) C (by decide : kd 332 = _) (zI_ix (by omega)) (Nat.lt_of_lt_of_eq (show 1 + o % S.n < 131 by omega) (by decide)) dX11_searchesTrain_83 ?_
          refine zv_eqi (y := (zI (S.f (o % S.n) : Int))) ((mK_R hK hW).2.1 (o % S.n) (by omega)) ?_
          refine zv_istore (lv' := [(6, .int (zI (S.f (o % S.n) : Int))), (5, .int (zI (S.f (o / S.n) : Int))), (0, .ref (ob E 327)), (1, .int (zI (i : Int))), (2, .int (zI (S.n : Int))), (3, .int (zI (o : Int))), (4, .int (zI (q : Int)))]) C dX11_searchesTrain_84  (by decide) rfl ?_
          refine zv_aload_n C 2 dX11_searchesTrain_86 rfl rfl ?_
          refine zG10_4 C (by decide : kd 327 = _) kX11_22 dX11_searchesTrain_87 ?_
          refine zv_iconst (v := zI 1) C dX11_searchesTrain_90 rfl ?_
          refine zv_iload C 6 dX11_searchesTrain_91 rfl ?_
          refine zv_iload_n C 4 dX11_searchesTrain_93 rfl rfl ?_
          refine zv_idivP C (by omega) (by omega) dX11_searchesTrain_94 ?_
          refine zv_eqi (y := (zI ((q / S.n : Nat) : Int))) (by rw [Int.natCast_ediv]) ?_
          refine zv_iaddZ C dX11_searchesTrain_95 ?_
          refine zv_iald (j := 1 + q / S.n) C (by decide : kd 332 = _) (zI_ix (by omega)) (Nat.lt_of_lt_of_eq (show 1 + q / S.n < 131 by omega) (by decide)) dX11_searchesTrain_96 ?_
          refine zv_eqi (y := (zI (S.f (q / S.n) : Int))) ((mK_R hK hW).2.1 (q / S.n) (by omega)) ?_
          refine zv_istore (lv' := [(7, .int (zI (S.f (q / S.n) : Int))), (6, .int (zI (S.f (o % S.n) : Int))), (5, .int (zI (S.f (o / S.n) : Int))), (0, .ref (ob E 327)), (1, .int (zI (i : Int))), (2, .int (zI (S.n : Int))), (3, .int (zI (o : Int))), (4, .int (zI (q : Int)))]) C dX11_searchesTrain_97  (by decide) rfl ?_
          refine zv_aload_n C 3 dX11_searchesTrain_99 rfl rfl ?_
          refine zG10_4 C (by decide : kd 327 = _) kX11_22 dX11_searchesTrain_100 ?_
          refine zv_iconst (v := zI 1) C dX11_searchesTrain_103 rfl ?_
          refine zv_iload C 7 dX11_searchesTrain_104 rfl ?_
          refine zv_iload_n C 5 dX11_searchesTrain_106 rfl rfl ?_
          refine zv_iremP C (by omega) (by omega) dX11_searchesTrain_107 ?_
          refine zv_eqi (y := (zI ((q % S.n : Nat) : Int))) (by rw [Int.natCast_emod]) ?_
          refine zv_iaddZ C dX11_searchesTrain_108 ?_
          refine zv_iald (j := 1 + q % S.n) C (by decide : kd 332 = _) (zI_ix (by omega)) (Nat.lt_of_lt_of_eq (show 1 + q % S.n < 131 by omega) (by decide)) dX11_searchesTrain_109 ?_
          refine zv_eqi (y := (zI (S.f (q % S.n) : Int))) ((mK_R hK hW).2.1 (q % S.n) (by omega)) ?_
          refine zv_istore (lv' := [(8, .int (zI (S.f (q % S.n) : Int))), (7, .int (zI (S.f (q / S.n) : Int))), (6, .int (zI (S.f (o % S.n) : Int))), (5, .int (zI (S.f (o / S.n) : Int))), (0, .ref (ob E 327)), (1, .int (zI (i : Int))), (2, .int (zI (S.n : Int))), (3, .int (zI (o : Int))), (4, .int (zI (q : Int)))]) C dX11_searchesTrain_110  (by decide) rfl ?_
          refine zv_aload_n C 4 dX11_searchesTrain_112 rfl rfl ?_
          refine zv_iload C 3 dX11_searchesTrain_113 rfl ?_
          refine zv_i2lZ C (by omega) dX11_searchesTrain_115 ?_
          refine zv_iload C 1 dX11_searchesTrain_116 rfl ?_
          refine zv_i2lZ C (by omega) dX11_searchesTrain_118 ?_
          refine zv_lmulZ C dX11_searchesTrain_119 ?_
          refine zv_eql (y := (zL ((S.f (o / S.n) * S.f (q / S.n) : Nat) : Int))) (congrArg zL (Int.natCast_mul _ _).symm) ?_
          refine zv_iload C 2 dX11_searchesTrain_120 rfl ?_
          refine zv_i2lZ C (by omega) dX11_searchesTrain_122 ?_
          refine zv_iload C 0 dX11_searchesTrain_123 rfl ?_
          refine zv_i2lZ C (by omega) dX11_searchesTrain_125 ?_
          refine zv_lmulZ C dX11_searchesTrain_126 ?_
          refine zv_eql (y := (zL ((S.f (o % S.n) * S.f (q % S.n) : Nat) : Int))) (congrArg zL (Int.natCast_mul _ _).symm) ?_
          refine zv_iload C 3 dX11_searchesTrain_127 rfl ?_
          refine zv_iload C 2 dX11_searchesTrain_129 rfl ?_
          refine zv_iload C 1 dX11_searchesTrain_131 rfl ?_
          refine zv_iload C 0 dX11_searchesTrain_133 rfl ?_
          refine zv_cvvD (st := []) C (c_X11_offers hfl E v9 (hT2 (qTrue U i).1 (qTrue U i).2.toNat S.f S.n o q (hT1 (qTrue U i).1 (qTrue U i).2.toNat S.f S.n o)) (qTrue U i).1 (qTrue U i).2.toNat (S.f (o / S.n) * S.f (q / S.n)) (S.f (o % S.n) * S.f (q % S.n)) (S.f (o / S.n)) (S.f (o % S.n)) (S.f (q / S.n)) (S.f (q % S.n)) hG (hIt_ok hf9 hH) hup hdn (by omega) (by omega) (by omega) (by omega) (by omega) (by omega) (by omega) (by omega) (hIt_bf hs9 (by omega) (by omega) hH)) mX11_offers kX11_378 (by decide : kd 327 = 10) rfl rfl rfl ⟨rfl, rfl⟩ (show zfit (zrm 5 149) 11 (zrm 6 179) = true from rfl) (Nat.le_of_ble_eq_true rfl) dX11_searchesTrain_135 ⟨Nat.zero_le _, Nat.zero_le _⟩ ?_
          refine zv_iinc (v := (zI ((q : Int) + 1))) (lv' := [(4, .int (zI ((q : Int) + 1))), (8, .int (zI (S.f (q % S.n) : Int))), (7, .int (zI (S.f (q / S.n) : Int))), (6, .int (zI (S.f (o % S.n) : Int))), (5, .int (zI (S.f (o / S.n) : Int))), (0, .ref (ob E 327)), (1, .int (zI (i : Int))), (2, .int (zI (S.n : Int))), (3, .int (zI (o : Int)))]) C 8 dX11_searchesTrain_138 rfl (zI_add _ _) (by decide) rfl ?_
          refine zv_goto (tgt := 31) C dX11_searchesTrain_141 (by decide) ?_
          have q31_168 : ((q : Int) + 1 : Int) = ((q + 1 : Nat) : Int) := by omega
          refine zv_sub (lv' := [(0, .ref (ob E 327)), (1, .int (zI (i : Int))), (2, .int (zI (S.n : Int))), (3, .int (zI (o : Int))), (4, .int (zI ((q + 1 : Nat) : Int)))]) [5, 6, 7, 8, 0] (zcons rfl (zcons rfl (zcons rfl (zcons rfl (zcons (zqI q31_168) rfl))))) ?_
          refine zv_eqS (τ := (hWd v9 (hT2 (qTrue U i).1 (qTrue U i).2.toNat S.f S.n o q (hT1 (qTrue U i).1 (qTrue U i).2.toNat S.f S.n o)) (hOff (qTrue U i).1 (qTrue U i).2.toNat (S.f (o / S.n) * S.f (q / S.n)) (S.f (o % S.n) * S.f (q % S.n))) (S.f (o % S.n) * S.f (q % S.n)) (S.f (o / S.n)) (S.f (o % S.n)) (S.f (q / S.n)) (S.f (q % S.n)))) (rfl) ?_
          exact ih31 ((q + 1, (hWd v9 (hT2 (qTrue U i).1 (qTrue U i).2.toNat S.f S.n o q (hT1 (qTrue U i).1 (qTrue U i).2.toNat S.f S.n o)) (hOff (qTrue U i).1 (qTrue U i).2.toNat (S.f (o / S.n) * S.f (q / S.n)) (S.f (o % S.n) * S.f (q % S.n))) (S.f (o % S.n) * S.f (q % S.n)) (S.f (o / S.n)) (S.f (o % S.n)) (S.f (q / S.n)) (S.f (q % S.n))))) (by first | exact ⟨by show o ≤ q + 1; omega, by show q + 1 ≤ N; omega, by rw [hT2_s hoq, hTc, if_pos hsk]; exact hIt_s hH (Or.inr ⟨rfl, by omega⟩), by rw [hT2_s hoq, hTc, if_pos hsk]; exact hG, hK, hup, hdn⟩ | exact ⟨by show o ≤ q + 1; omega, by show q + 1 ≤ N; omega, by rw [hT2_s hoq, hTc, if_neg hsk]; exact hIt_new hH (by omega) (by omega) (hOff_b (by omega) (by omega) (by omega) (by omega)), by rw [hT2_s hoq, hTc, if_neg hsk]; exact zHb_w hG _ _ _ _ _ _, mK_Hw hK _ _ _ _ _ _ _, (hWd_J (by decide)).trans hup, (hWd_J (by decide)).trans hdn⟩) (by show N - (q + 1) < N - q; omega)
        · skip
          have hsk : o / S.n = o % S.n ∨ q / S.n = q % S.n := Or.inr (by omega)
          refine zv_goto (tgt := 138) C dX11_searchesTrain_59 (by decide) ?_
          refine zv_iinc (v := (zI ((q : Int) + 1))) (lv' := [(4, .int (zI ((q : Int) + 1))), (0, .ref (ob E 327)), (1, .int (zI (i : Int))), (2, .int (zI (S.n : Int))), (3, .int (zI (o : Int)))]) C 4 dX11_searchesTrain_138 rfl (zI_add _ _) (by decide) rfl ?_
          refine zv_goto (tgt := 31) C dX11_searchesTrain_141 (by decide) ?_
          have q31_177 : ((q : Int) + 1 : Int) = ((q + 1 : Nat) : Int) := by omega
          refine zv_sub (lv' := [(0, .ref (ob E 327)), (1, .int (zI (i : Int))), (2, .int (zI (S.n : Int))), (3, .int (zI (o : Int))), (4, .int (zI ((q + 1 : Nat) : Int)))]) [1, 2, 3, 4, 0] (zcons rfl (zcons rfl (zcons rfl (zcons rfl (zcons (zqI q31_177) rfl))))) ?_
          refine zv_eqS (τ := v9) (rfl) ?_
          exact ih31 ((q + 1, v9)) (by first | exact ⟨by show o ≤ q + 1; omega, by show q + 1 ≤ N; omega, by rw [hT2_s hoq, hTc, if_pos hsk]; exact hIt_s hH (Or.inr ⟨rfl, by omega⟩), by rw [hT2_s hoq, hTc, if_pos hsk]; exact hG, hK, hup, hdn⟩ | exact ⟨by show o ≤ q + 1; omega, by show q + 1 ≤ N; omega, by rw [hT2_s hoq, hTc, if_neg hsk]; exact hIt_new hH (by omega) (by omega) (hOff_b (by omega) (by omega) (by omega) (by omega)), by rw [hT2_s hoq, hTc, if_neg hsk]; exact zHb_w hG _ _ _ _ _ _, mK_Hw hK _ _ _ _ _ _ _, (hWd_J (by decide)).trans hup, (hWd_J (by decide)).trans hdn⟩) (by show N - (q + 1) < N - q; omega)
theorem hT1_z {t : Int} {b : Nat} {f : Nat → Nat} {n : Nat} (h : n < 2) : hT1 t b f n (n * n) = none := by
  rcases (show n = 0 ∨ n = 1 by omega) with q | q <;> subst q <;> rfl
theorem train_w {σ : zS} {t : Int} {b : Nat} {f : Nat → Nat} {n : Nat} (h2 : 2 ≤ n) (hz : zHb σ (hT1 t b f n (n * n))) (hk : hOk (hT1 t b f n (n * n))) : (∃ a : Nat, a ≤ 100 ∧ gI σ 337 0 = zI (a : Int)) ∧ ∀ w, w < 4 → gI σ 337 w = zI (gWh (gTrain t.natAbs b f n n) w) := by
  have r := gRt_train t b f n n
  have hn := gTrain_n (t1 := t.natAbs) (b1 := b) (f := f) h2 n (by omega)
  generalize gTrain t.natAbs b f n n = g at r hn
  generalize hT1 t b f n (n * n) = h at r hz hk
  cases g with
  | none => exact absurd rfl hn
  | some q =>
    obtain ⟨ov, un, sm, x, y, x2, y2⟩ := q
    cases h with
    | none => exact absurd r id
    | some z =>
      obtain ⟨f0, u0, a0, c0, d0, e0⟩ := z
      obtain ⟨r1, r2, r3, r4, r5, r6, r7⟩ := r
      subst r3 r4 r5 r6
      refine ⟨⟨x, hk.2.2.1, hz.1⟩, fun w hw => ?_⟩
      rcases (show w = 0 ∨ w = 1 ∨ w = 2 ∨ w = 3 by omega) with q | q | q | q <;> subst q
      · exact hz.1
      · exact hz.2.1
      · exact hz.2.2.1
      · exact hz.2.2.2.1
set_option maxRecDepth 20000 in
theorem c_X11_bestTrain {l : Launch} (hfl : l.stackTraces = false) (E : zE) (σ : zS) (σc : zS) (U : zSU) (S : zST) (i w : Nat) (hB : zRb (gI σ 328) U) (hU : zSUp σc 29 U) (hW : zRo (gI σ 332) U.nb S) (hS : zSTp σc 34 S) (hi : i < U.nb) (hw : w < 4) (h2 : 2 ≤ S.n) : zRi l E yX11_bestTrain cX11_bestTrain 3 .int (zrm 7 207) [.ref (ob E 327), .int (zI (i : Int)), .int (zI (w : Int))] σ (fun r τ => r = zI (dBt U S i w) ∧ mK σ τ 0) := by
  refine Met.ofW (cc := cX11_bestTrain) (maxL := 3) (ret := (some .int)) (by decide +kernel) rfl ?_
  intro p e s m args below meth c s₁ B hml hv
  obtain ⟨rfl, hd⟩ := hv
  have C := zX_of (own := RX11) hfl B hml rfl hd rfl
  have hr := B.returns
  refine zV_go hd (Nat.le_of_ble_eq_true rfl) (lv := [(0, .ref (ob E 327)), (1, .int (zI (i : Int))), (2, .int (zI (w : Int)))]) rfl ?_
  have hnb : U.nb ≤ 8 := hU.2.2.1
  have hs0 := hU.2.2.2.1
  
  refine zv_aload_n C 0 dX11_bestTrain_0 rfl rfl ?_
  refine zv_iload_n C 1 dX11_bestTrain_1 rfl rfl ?_
  refine zv_cviD (st := []) C (c0_X11_noBody hfl E σ σc U ((i : Int)) hB hU (by omega)) mX11_noBody kX11_319 (by decide : kd 327 = 10) rfl rfl rfl ⟨rfl, rfl⟩ (show zfit (zrm 1 25) 2 (zrm 7 207) = true from rfl) (Nat.le_of_ble_eq_true rfl) dX11_bestTrain_2 ⟨Nat.zero_le _, Nat.zero_le _⟩ ?_
  refine zv_if_neZ (tgt := 33) C (by omega) dX11_bestTrain_5 (by decide) (fun h5 => absurd h5 (by decide)) (fun h5 => ?_)
  refine zv_aload_n C 0 dX11_bestTrain_8 rfl rfl ?_
  refine zv_iload_n C 2 dX11_bestTrain_9 rfl rfl ?_
  refine zv_i2lZ C (by omega) dX11_bestTrain_10 ?_
  refine zv_lconst (v := zL 0) C dX11_bestTrain_11 (by decide) ?_
  refine zv_ldc2 C kX11_385 dX11_bestTrain_12 ?_
  refine zv_eql (y := zL 3) (by decide) ?_
  refine zv_csiD (st := [.ref (ob E 327)]) C (c_X11_inRange hfl E (thW σ 0) ((w : Int)) (0) (3) (by omega) (by omega) (by omega)) mX11_inRange kX11_71 rfl ⟨rfl, rfl⟩ (show zfit (zrm 0 0) 6 (zrm 7 207) = true from rfl) (Nat.le_of_ble_eq_true rfl) dX11_bestTrain_15 ⟨Nat.zero_le _, Nat.zero_le _⟩ ?_
  refine zv_if_neB (tgt := 25) C dX11_bestTrain_18 (by decide) (fun h18 => ?_) (fun h18 => ?_)
  · skip
    refine zv_iconst (v := zI 0) C dX11_bestTrain_25 rfl ?_
    refine zv_iconst (v := zI 2) C dX11_bestTrain_26 rfl ?_
    refine zv_cviD (st := []) C (c0_X11_fails hfl E (thW σ 0) 2) mX11_fails kX11_309 (by decide : kd 327 = 10) rfl rfl rfl ⟨rfl, rfl⟩ (show zfit (zrm 0 0) 3 (zrm 7 207) = true from rfl) (Nat.le_of_ble_eq_true rfl) dX11_bestTrain_27 ⟨Nat.zero_le _, Nat.zero_le _⟩ ?_
    refine zv_if_eqZ (tgt := 35) C (by omega) dX11_bestTrain_30 (by decide) (fun h30 => ?_) (fun h30 => absurd h30 (by decide))
    refine zv_aload_n C 0 dX11_bestTrain_35 rfl rfl ?_
    refine zv_iload_n C 1 dX11_bestTrain_36 rfl rfl ?_
    refine zv_cvv (st := []) C (c_X11_searchesTrain hfl E (thW σ 0) σc U S i hB hU hW hS hi (mK_th σ 0).2) mX11_searchesTrain kX11_387 (by decide : kd 327 = 10) rfl rfl rfl ⟨rfl, rfl⟩ (show zfit (zrm 6 179) 9 (zrm 7 207) = true from rfl) (Nat.le_of_ble_eq_true rfl) dX11_bestTrain_37 ⟨Nat.zero_le _, Nat.zero_le _⟩ (fun τ1 hp37 => ?_)
    obtain ⟨hG, hK1, hup, hdn, hO⟩ := hp37
    have hK : mK σ τ1 0 := ⟨mS_t (mK_th σ 0).1 hK1.1, hK1.2⟩
    obtain ⟨⟨a7, ha71, ha72⟩, ha73⟩ := train_w h2 hG hO
    refine zv_aload_n C 0 dX11_bestTrain_40 rfl rfl ?_
    refine zG10_25 C (by decide : kd 327 = _) kX11_41 dX11_bestTrain_41 ?_
    refine zv_iconst (v := zI 0) C dX11_bestTrain_44 rfl ?_
    refine zv_iald (j := 0) C (by decide : kd 337 = _) (zI_ix (by omega)) (by decide) dX11_bestTrain_45 ?_
    refine zv_eqi (y := (zI (a7 : Int))) (ha72) ?_
    refine zv_iconst (v := zI (-1)) C dX11_bestTrain_46 rfl ?_
    refine zv_icmp_neZ (tgt := 54) C (by omega) (by omega) dX11_bestTrain_47 (by decide) (fun h47 => ?_) (fun h47 => ?_)
    · skip
      refine zv_aload_n C 0 dX11_bestTrain_54 rfl rfl ?_
      refine zG10_25 C (by decide : kd 327 = _) kX11_41 dX11_bestTrain_55 ?_
      refine zv_iload_n C 2 dX11_bestTrain_58 rfl rfl ?_
      refine zv_iald (j := w) C (by decide : kd 337 = _) (zI_ix rfl) (Nat.lt_of_lt_of_le (show w < 4 by omega) (by decide)) dX11_bestTrain_59 ?_
      refine zv_eqi (y := (zI (gWh (gTrain (qTrue U i).1.natAbs (qTrue U i).2.toNat S.f S.n S.n) w))) (ha73 w hw) ?_
      exact zv_iret C hr rfl dX11_bestTrain_60 ⟨by rw [dBt, if_neg (by omega)]; rfl, hK⟩
    · exfalso
      omega
  · skip
    refine zv_iconst (v := zI 1) C dX11_bestTrain_21 rfl ?_
    refine zv_goto (tgt := 26) C dX11_bestTrain_22 (by decide) ?_
    refine zv_iconst (v := zI 2) C dX11_bestTrain_26 rfl ?_
    exfalso
    omega
set_option maxRecDepth 20000 in
theorem c0_X11_bestTrain {l : Launch} (hfl : l.stackTraces = false) (E : zE) (σ : zS) (σc : zS) (U : zSU) (S : zST) (i w : Nat) (hB : zRb (gI σ 328) U) (hU : zSUp σc 29 U) (hW : zRo (gI σ 332) U.nb S) (hS : zSTp σc 34 S) (hi : i < U.nb) (hw : w < 4) (h2 : S.n < 2) : zRi l E yX11_bestTrain cX11_bestTrain 3 .int (zrm 7 207) [.ref (ob E 327), .int (zI (i : Int)), .int (zI (w : Int))] σ (fun r τ => r = zI (dBt U S i w) ∧ mK σ τ 0) := by
  refine Met.ofW (cc := cX11_bestTrain) (maxL := 3) (ret := (some .int)) (by decide +kernel) rfl ?_
  intro p e s m args below meth c s₁ B hml hv
  obtain ⟨rfl, hd⟩ := hv
  have C := zX_of (own := RX11) hfl B hml rfl hd rfl
  have hr := B.returns
  refine zV_go hd (Nat.le_of_ble_eq_true rfl) (lv := [(0, .ref (ob E 327)), (1, .int (zI (i : Int))), (2, .int (zI (w : Int)))]) rfl ?_
  have hnb : U.nb ≤ 8 := hU.2.2.1
  have hs0 := hU.2.2.2.1
  
  refine zv_aload_n C 0 dX11_bestTrain_0 rfl rfl ?_
  refine zv_iload_n C 1 dX11_bestTrain_1 rfl rfl ?_
  refine zv_cviD (st := []) C (c0_X11_noBody hfl E σ σc U ((i : Int)) hB hU (by omega)) mX11_noBody kX11_319 (by decide : kd 327 = 10) rfl rfl rfl ⟨rfl, rfl⟩ (show zfit (zrm 1 25) 2 (zrm 7 207) = true from rfl) (Nat.le_of_ble_eq_true rfl) dX11_bestTrain_2 ⟨Nat.zero_le _, Nat.zero_le _⟩ ?_
  refine zv_if_neZ (tgt := 33) C (by omega) dX11_bestTrain_5 (by decide) (fun h5 => absurd h5 (by decide)) (fun h5 => ?_)
  refine zv_aload_n C 0 dX11_bestTrain_8 rfl rfl ?_
  refine zv_iload_n C 2 dX11_bestTrain_9 rfl rfl ?_
  refine zv_i2lZ C (by omega) dX11_bestTrain_10 ?_
  refine zv_lconst (v := zL 0) C dX11_bestTrain_11 (by decide) ?_
  refine zv_ldc2 C kX11_385 dX11_bestTrain_12 ?_
  refine zv_eql (y := zL 3) (by decide) ?_
  refine zv_csiD (st := [.ref (ob E 327)]) C (c_X11_inRange hfl E (thW σ 0) ((w : Int)) (0) (3) (by omega) (by omega) (by omega)) mX11_inRange kX11_71 rfl ⟨rfl, rfl⟩ (show zfit (zrm 0 0) 6 (zrm 7 207) = true from rfl) (Nat.le_of_ble_eq_true rfl) dX11_bestTrain_15 ⟨Nat.zero_le _, Nat.zero_le _⟩ ?_
  refine zv_if_neB (tgt := 25) C dX11_bestTrain_18 (by decide) (fun h18 => ?_) (fun h18 => ?_)
  · skip
    refine zv_iconst (v := zI 0) C dX11_bestTrain_25 rfl ?_
    refine zv_iconst (v := zI 2) C dX11_bestTrain_26 rfl ?_
    refine zv_cviD (st := []) C (c0_X11_fails hfl E (thW σ 0) 2) mX11_fails kX11_309 (by decide : kd 327 = 10) rfl rfl rfl ⟨rfl, rfl⟩ (show zfit (zrm 0 0) 3 (zrm 7 207) = true from rfl) (Nat.le_of_ble_eq_true rfl) dX11_bestTrain_27 ⟨Nat.zero_le _, Nat.zero_le _⟩ ?_
    refine zv_if_eqZ (tgt := 35) C (by omega) dX11_bestTrain_30 (by decide) (fun h30 => ?_) (fun h30 => absurd h30 (by decide))
    refine zv_aload_n C 0 dX11_bestTrain_35 rfl rfl ?_
    refine zv_iload_n C 1 dX11_bestTrain_36 rfl rfl ?_
    refine zv_cvv (st := []) C (c_X11_searchesTrain hfl E (thW σ 0) σc U S i hB hU hW hS hi (mK_th σ 0).2) mX11_searchesTrain kX11_387 (by decide : kd 327 = 10) rfl rfl rfl ⟨rfl, rfl⟩ (show zfit (zrm 6 179) 9 (zrm 7 207) = true from rfl) (Nat.le_of_ble_eq_true rfl) dX11_bestTrain_37 ⟨Nat.zero_le _, Nat.zero_le _⟩ (fun τ1 hp37 => ?_)
    obtain ⟨hG, hK1, hup, hdn, hO⟩ := hp37
    have hK : mK σ τ1 0 := ⟨mS_t (mK_th σ 0).1 hK1.1, hK1.2⟩
    rw [hT1_z h2] at hG
    have hG1 : gI τ1 337 0 = zI (-1) := hG
    refine zv_aload_n C 0 dX11_bestTrain_40 rfl rfl ?_
    refine zG10_25 C (by decide : kd 327 = _) kX11_41 dX11_bestTrain_41 ?_
    refine zv_iconst (v := zI 0) C dX11_bestTrain_44 rfl ?_
    refine zv_iald (j := 0) C (by decide : kd 337 = _) (zI_ix (by omega)) (by decide) dX11_bestTrain_45 ?_
    refine zv_eqi (y := (zI (-1))) (hG1) ?_
    refine zv_iconst (v := zI (-1)) C dX11_bestTrain_46 rfl ?_
    refine zv_icmp_neZ (tgt := 54) C (by omega) (by omega) dX11_bestTrain_47 (by decide) (fun h47 => ?_) (fun h47 => ?_)
    · exfalso
      omega
    · skip
      refine zv_iconst (v := zI (-1)) C dX11_bestTrain_50 rfl ?_
      refine zv_goto (tgt := 60) C dX11_bestTrain_51 (by decide) ?_
      exact zv_iret C hr rfl dX11_bestTrain_60 ⟨by rw [dBt, if_pos h2], hK⟩
  · skip
    refine zv_iconst (v := zI 1) C dX11_bestTrain_21 rfl ?_
    refine zv_goto (tgt := 26) C dX11_bestTrain_22 (by decide) ?_
    refine zv_iconst (v := zI 2) C dX11_bestTrain_26 rfl ?_
    exfalso
    omega
set_option maxRecDepth 20000 in
theorem x1_X11_bestTrain {l : Launch} (hfl : l.stackTraces = false) (E : zE) (σ : zS) (σc : zS) (U : zSU) (y a : Int) (hB : zRb (gI σ 328) U) (hU : zSUp σc 29 U) (hy : -2147483648 ≤ y ∧ y < 2147483648) (hno : ¬ (0 ≤ y ∧ y < U.nb)) : zRi l E yX11_bestTrain cX11_bestTrain 3 .int (zrm 2 46) [.ref (ob E 327), .int (zI y), .int (zI a)] σ (fun r τ => r = zI 0 ∧ mK σ τ 1) := by
  refine Met.ofW (cc := cX11_bestTrain) (maxL := 3) (ret := (some .int)) (by decide +kernel) rfl ?_
  intro p e s m args below meth c s₁ B hml hv
  obtain ⟨rfl, hd⟩ := hv
  have C := zX_of (own := RX11) hfl B hml rfl hd rfl
  have hr := B.returns
  refine zV_go hd (Nat.le_of_ble_eq_true rfl) (lv := [(0, .ref (ob E 327)), (1, .int (zI y)), (2, .int (zI a))]) rfl ?_
  have hnb : U.nb ≤ 8 := hU.2.2.1
  have hs0 := hU.2.2.2.1
  
  refine zv_aload_n C 0 dX11_bestTrain_0 rfl rfl ?_
  refine zv_iload_n C 1 dX11_bestTrain_1 rfl rfl ?_
  refine zv_cviD (st := []) C (c1_X11_noBody hfl E σ σc U (y) hB hU (by omega) hno) mX11_noBody kX11_319 (by decide : kd 327 = 10) rfl rfl rfl ⟨rfl, rfl⟩ (show zfit (zrm 1 25) 2 (zrm 2 46) = true from rfl) (Nat.le_of_ble_eq_true rfl) dX11_bestTrain_2 ⟨Nat.zero_le _, Nat.zero_le _⟩ ?_
  refine zv_if_neZ (tgt := 33) C (by omega) dX11_bestTrain_5 (by decide) (fun h5 => ?_) (fun h5 => absurd h5 (by decide))
  refine zv_iconst (v := zI 0) C dX11_bestTrain_33 rfl ?_
  exact zv_iret C hr rfl dX11_bestTrain_34 ⟨rfl, by first | exact mK_th _ _ | exact mK_th2 _ _ _ | exact mK_C (mK_W (mK_th _ _) _ _) _ | exact mK_W (mK_th _ _) _ _⟩
set_option maxRecDepth 20000 in
theorem x2_X11_bestTrain {l : Launch} (hfl : l.stackTraces = false) (E : zE) (σ : zS) (σc : zS) (U : zSU) (i : Nat) (a : Int) (hB : zRb (gI σ 328) U) (hU : zSUp σc 29 U) (hi : i < U.nb) (har : -2147483648 ≤ a ∧ a < 2147483648) (hno : ¬ (0 ≤ a ∧ a ≤ 3)) : zRi l E yX11_bestTrain cX11_bestTrain 3 .int (zrm 2 46) [.ref (ob E 327), .int (zI (i : Int)), .int (zI a)] σ (fun r τ => r = zI 0 ∧ mK σ τ 2) := by
  refine Met.ofW (cc := cX11_bestTrain) (maxL := 3) (ret := (some .int)) (by decide +kernel) rfl ?_
  intro p e s m args below meth c s₁ B hml hv
  obtain ⟨rfl, hd⟩ := hv
  have C := zX_of (own := RX11) hfl B hml rfl hd rfl
  have hr := B.returns
  refine zV_go hd (Nat.le_of_ble_eq_true rfl) (lv := [(0, .ref (ob E 327)), (1, .int (zI (i : Int))), (2, .int (zI a))]) rfl ?_
  have hnb : U.nb ≤ 8 := hU.2.2.1
  have hs0 := hU.2.2.2.1
  
  refine zv_aload_n C 0 dX11_bestTrain_0 rfl rfl ?_
  refine zv_iload_n C 1 dX11_bestTrain_1 rfl rfl ?_
  refine zv_cviD (st := []) C (c0_X11_noBody hfl E σ σc U ((i : Int)) hB hU (by omega)) mX11_noBody kX11_319 (by decide : kd 327 = 10) rfl rfl rfl ⟨rfl, rfl⟩ (show zfit (zrm 1 25) 2 (zrm 2 46) = true from rfl) (Nat.le_of_ble_eq_true rfl) dX11_bestTrain_2 ⟨Nat.zero_le _, Nat.zero_le _⟩ ?_
  refine zv_if_neZ (tgt := 33) C (by omega) dX11_bestTrain_5 (by decide) (fun h5 => absurd h5 (by decide)) (fun h5 => ?_)
  refine zv_aload_n C 0 dX11_bestTrain_8 rfl rfl ?_
  refine zv_iload_n C 2 dX11_bestTrain_9 rfl rfl ?_
  refine zv_i2lZ C (by omega) dX11_bestTrain_10 ?_
  refine zv_lconst (v := zL 0) C dX11_bestTrain_11 (by decide) ?_
  refine zv_ldc2 C kX11_385 dX11_bestTrain_12 ?_
  refine zv_eql (y := zL 3) (by decide) ?_
  refine zv_csiD (st := [.ref (ob E 327)]) C (c_X11_inRange hfl E (thW σ 0) (a) (0) (3) (by omega) (by omega) (by omega)) mX11_inRange kX11_71 rfl ⟨rfl, rfl⟩ (show zfit (zrm 0 0) 6 (zrm 2 46) = true from rfl) (Nat.le_of_ble_eq_true rfl) dX11_bestTrain_15 ⟨Nat.zero_le _, Nat.zero_le _⟩ ?_
  refine zv_if_neB (tgt := 25) C dX11_bestTrain_18 (by decide) (fun h18 => ?_) (fun h18 => ?_)
  · skip
    refine zv_iconst (v := zI 0) C dX11_bestTrain_25 rfl ?_
    refine zv_iconst (v := zI 2) C dX11_bestTrain_26 rfl ?_
    exfalso
    omega
  · skip
    refine zv_iconst (v := zI 1) C dX11_bestTrain_21 rfl ?_
    refine zv_goto (tgt := 26) C dX11_bestTrain_22 (by decide) ?_
    refine zv_iconst (v := zI 2) C dX11_bestTrain_26 rfl ?_
    refine zv_cviD (st := []) C (c1_X11_fails hfl E (thW σ 0) 2) mX11_fails kX11_309 (by decide : kd 327 = 10) rfl rfl rfl ⟨rfl, rfl⟩ (show zfit (zrm 0 0) 3 (zrm 2 46) = true from rfl) (Nat.le_of_ble_eq_true rfl) dX11_bestTrain_27 ⟨Nat.zero_le _, Nat.zero_le _⟩ ?_
    refine zv_if_eqZ (tgt := 35) C (by omega) dX11_bestTrain_30 (by decide) (fun h30 => absurd h30 (by decide)) (fun h30 => ?_)
    refine zv_iconst (v := zI 0) C dX11_bestTrain_33 rfl ?_
    exact zv_iret C hr rfl dX11_bestTrain_34 ⟨rfl, mK_th2 _ _ _⟩
