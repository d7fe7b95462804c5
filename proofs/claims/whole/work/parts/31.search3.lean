theorem gH_aim {σ : zS} {t : Int} {b1 n : Nat} {f : Nat → Nat} (ht : t.natAbs < 2 ^ 48) (hb : b1 < 2 ^ 48) (hS : zStk σ 34 n f) (hf : ∀ i, i < n → 1 ≤ f i ∧ f i ≤ 100) : gH (gAim σ t (b1 : Int)) t.natAbs b1 n f := by
  obtain ⟨h1, h2, h3⟩ := gAim_t σ t (b1 : Int)
  refine ⟨h1, h2, h3, ht, hb, ⟨?_, hS.2.1, fun i hi => ?_, hS.2.2.2⟩, hf⟩
  · rw [gAim_o _ _ _ _ _ (by decide)]; exact hS.1
  · rw [gAim_o _ _ _ _ _ (by decide)]; exact hS.2.2.1 i hi
set_option maxRecDepth 20000 in
theorem c_X0_findPair {l : Launch} (hfl : l.stackTraces = false) (E : zE) (σ : zS) (k : Nat) (t : Int) (b1 n : Nat) (f : Nat → Nat) (hk : kd k = 3) (hk8 : k ≠ 318) (hR : zRt σ k t (b1 : Int)) (ht : t.natAbs < 2 ^ 48) (hb1 : b1 < 2 ^ 48) (hS : zStk σ 34 n f) (hf : ∀ i, i < n → 1 ≤ f i ∧ f i ≤ 100) : zRv l E yX0_findPair cX0_findPair 5 (zrm 3 94) [.ref (ob E 318), .ref (ob E 34), .ref (ob E k)] σ (fun τ => τ = (gW (gAim σ t (b1 : Int)) (gPair t.natAbs b1 f n n))) := by
  refine Met.ofW (cc := cX0_findPair) (maxL := 5) (ret := none) (by decide +kernel) rfl ?_
  intro p e s m args below meth c s₁ B hml hv
  obtain ⟨rfl, hd⟩ := hv
  have C := zX_of (own := RX0) hfl B hml rfl hd rfl
  have hr := B.returns
  refine zV_go hd (Nat.le_of_ble_eq_true rfl) (lv := [(0, .ref (ob E 318)), (1, .ref (ob E 34)), (2, .ref (ob E k))]) rfl ?_
  have hH := gH_aim ht hb1 hS hf
  obtain ⟨hT, hB, hf0, -⟩ := id hH
  have hn16 := hS.2.1
  refine zv_aload_n C 0 dX0_findPair_0 rfl rfl ?_
  refine zv_aload_n C 2 dX0_findPair_1 rfl rfl ?_
  refine zv_cvvD (st := []) C (c_X0_aimAt hfl E σ k t (b1 : Int) hk hk8 hR (by omega)) mX0_aimAt kX0_48 (by decide : kd 318 = 0) rfl rfl rfl ⟨rfl, rfl⟩ (show zfit (zrm 1 21) 2 (zrm 3 94) = true from rfl) (Nat.le_of_ble_eq_true rfl) dX0_findPair_2 ⟨Nat.zero_le _, Nat.zero_le _⟩ ?_
  refine zv_iconst (v := zI 0) C dX0_findPair_5 rfl ?_
  refine zv_istore_n (lv' := [(3, .int (zI 0)), (0, .ref (ob E 318)), (1, .ref (ob E 34)), (2, .ref (ob E k))]) C dX0_findPair_6 rfl (by decide) rfl ?_
  have q7_8 : (0 : Int) = (0 : Int) := by first | rfl | omega
  refine zv_sub (lv' := [(0, .ref (ob E 318)), (1, .ref (ob E 34)), (2, .ref (ob E k)), (3, .int (zI (0 : Int)))]) [1, 2, 3, 0] (zcons rfl (zcons rfl (zcons rfl (zcons (zqI q7_8) rfl)))) ?_
  refine zv_eqS (τ := (gW (gAim σ t (b1 : Int)) (gPair t.natAbs b1 f n 0))) (rfl) ?_
  refine zv_while (α := Nat) (fun v => n - v) (fun v => v ≤ n) (fun v => (gW (gAim σ t (b1 : Int)) (gPair t.natAbs b1 f n v))) (fun v => [(0, .ref (ob E 318)), (1, .ref (ob E 34)), (2, .ref (ob E k)), (3, .int (zI (v : Int)))]) (fun v => []) (fun i hI ih => ?_) (0) (by omega)
  refine zv_iload_n C 3 dX0_findPair_7 rfl rfl ?_
  refine zv_aload_n C 1 dX0_findPair_8 rfl rfl ?_
  refine zG6_1 C (by decide : kd 34 = _) kX0_52 dX0_findPair_9 ?_
  refine zv_eqi (y := zI (n : Int)) (gH_n hH _) ?_
  refine zv_icmp_geZ (tgt := 64) C (by omega) (by omega) dX0_findPair_12 (by decide) (fun h12 => ?_) (fun h12 => ?_)
  · skip
    exact zv_vret C hr dX0_findPair_64 (by rw [show i = n by omega])
  · skip
    refine zv_iconst (v := zI 0) C dX0_findPair_15 rfl ?_
    refine zv_istore (lv' := [(4, .int (zI 0)), (0, .ref (ob E 318)), (1, .ref (ob E 34)), (2, .ref (ob E k)), (3, .int (zI (i : Int)))]) C dX0_findPair_16  (by decide) rfl ?_
    have q18_22 : (0 : Int) = (0 : Int) := by first | rfl | omega
    refine zv_sub (lv' := [(0, .ref (ob E 318)), (1, .ref (ob E 34)), (2, .ref (ob E k)), (3, .int (zI (i : Int))), (4, .int (zI (0 : Int)))]) [1, 2, 3, 4, 0] (zcons rfl (zcons rfl (zcons rfl (zcons rfl (zcons (zqI q18_22) rfl))))) ?_
    refine zv_eqS (τ := (gW (gAim σ t (b1 : Int)) (gRow t.natAbs b1 (gQp f i) 0 (gPair t.natAbs b1 f n i)))) (rfl) ?_
    refine zv_while (α := Nat) (fun v => n - v) (fun v => v ≤ n) (fun v => (gW (gAim σ t (b1 : Int)) (gRow t.natAbs b1 (gQp f i) v (gPair t.natAbs b1 f n i)))) (fun v => [(0, .ref (ob E 318)), (1, .ref (ob E 34)), (2, .ref (ob E k)), (3, .int (zI (i : Int))), (4, .int (zI (v : Int)))]) (fun v => []) (fun j hI ih18 => ?_) (0) (by omega)
    have hok := gOk_row (g := gPair t.natAbs b1 f n i) ht hb1 (gOk_pair ht hb1 hf i (by omega)) (j := j) (Q := gQp f i) (fun y q hy hq => gQp_B hf (by omega) (by omega) hq)
    refine zv_iload C 4 dX0_findPair_18 rfl ?_
    refine zv_aload_n C 1 dX0_findPair_20 rfl rfl ?_
    refine zG6_1 C (by decide : kd 34 = _) kX0_52 dX0_findPair_21 ?_
    refine zv_eqi (y := zI (n : Int)) (gH_n hH _) ?_
    refine zv_icmp_geZ (tgt := 58) C (by omega) (by omega) dX0_findPair_24 (by decide) (fun h24 => ?_) (fun h24 => ?_)
    · skip
      refine zv_iinc (v := (zI ((i : Int) + 1))) (lv' := [(3, .int (zI ((i : Int) + 1))), (0, .ref (ob E 318)), (1, .ref (ob E 34)), (2, .ref (ob E k)), (4, .int (zI (j : Int)))]) C 3 dX0_findPair_58 rfl (zI_add _ _) (by decide) rfl ?_
      refine zv_goto (tgt := 7) C dX0_findPair_61 (by decide) ?_
      have q7_35 : ((i : Int) + 1 : Int) = ((i + 1 : Nat) : Int) := by first | rfl | omega
      refine zv_sub (lv' := [(0, .ref (ob E 318)), (1, .ref (ob E 34)), (2, .ref (ob E k)), (3, .int (zI ((i + 1 : Nat) : Int)))]) [1, 2, 3, 0] (zcons rfl (zcons rfl (zcons rfl (zcons (zqI q7_35) rfl)))) ?_
      refine zv_eqS (τ := (gW (gAim σ t (b1 : Int)) (gPair t.natAbs b1 f n (i + 1)))) (by rw [show j = n by omega]; rfl) ?_
      exact ih (i + 1) (by omega) (by omega)
    · skip
      refine zv_iload_n C 3 dX0_findPair_27 rfl rfl ?_
      refine zv_iload C 4 dX0_findPair_28 rfl ?_
      refine zv_icmp_eqZ (tgt := 52) C (by omega) (by omega) dX0_findPair_30 (by decide) (fun h30 => ?_) (fun h30 => ?_)
      · skip
        refine zv_iinc (v := (zI ((j : Int) + 1))) (lv' := [(4, .int (zI ((j : Int) + 1))), (0, .ref (ob E 318)), (1, .ref (ob E 34)), (2, .ref (ob E k)), (3, .int (zI (i : Int)))]) C 4 dX0_findPair_52 rfl (zI_add _ _) (by decide) rfl ?_
        refine zv_goto (tgt := 18) C dX0_findPair_55 (by decide) ?_
        have q18_46 : ((j : Int) + 1 : Int) = ((j + 1 : Nat) : Int) := by first | rfl | omega
        refine zv_sub (lv' := [(0, .ref (ob E 318)), (1, .ref (ob E 34)), (2, .ref (ob E k)), (3, .int (zI (i : Int))), (4, .int (zI ((j + 1 : Nat) : Int)))]) [1, 2, 3, 4, 0] (zcons rfl (zcons rfl (zcons rfl (zcons rfl (zcons (zqI q18_46) rfl))))) ?_
        refine zv_eqS (τ := (gW (gAim σ t (b1 : Int)) (gRow t.natAbs b1 (gQp f i) (j + 1) (gPair t.natAbs b1 f n i)))) (by first | rw [gRow_z (gQp_e (by omega))] | rw [gRow_s (gQp_n (by omega))]) ?_
        exact ih18 (j + 1) (by omega) (by omega)
      · skip
        have hfi := hf i (by omega)
        have hfj := hf j (by omega)
        refine zv_aload_n C 0 dX0_findPair_33 rfl rfl ?_
        refine zv_aload_n C 1 dX0_findPair_34 rfl rfl ?_
        refine zG6_0 C (by decide : kd 34 = _) kX0_57 dX0_findPair_35 ?_
        refine zv_iload_n C 3 dX0_findPair_38 rfl rfl ?_
        refine zv_iald (j := i) C (by decide : kd 35 = _) (zI_ix rfl) (Nat.lt_of_lt_of_le (by omega) (by decide : 16 ≤ zlen 35)) dX0_findPair_39 ?_
        refine zv_eqi (y := (zI (f i : Int))) (gH_f hH _ _ (by omega)) ?_
        refine zv_aload_n C 1 dX0_findPair_40 rfl rfl ?_
        refine zG6_0 C (by decide : kd 34 = _) kX0_57 dX0_findPair_41 ?_
        refine zv_iload C 4 dX0_findPair_44 rfl ?_
        refine zv_iald (j := j) C (by decide : kd 35 = _) (zI_ix rfl) (Nat.lt_of_lt_of_le (by omega) (by decide : 16 ≤ zlen 35)) dX0_findPair_46 ?_
        refine zv_eqi (y := (zI (f j : Int))) (gH_f hH _ _ (by omega)) ?_
        refine zv_iconst (v := zI 1) C dX0_findPair_47 rfl ?_
        refine zv_iconst (v := zI 1) C dX0_findPair_48 rfl ?_
        refine zv_cvvD (st := []) C (c_X0_weigh hfl E (gAim σ t (b1 : Int)) t.natAbs b1 (f i) (f j) 1 1 (gRow t.natAbs b1 (gQp f i) j (gPair t.natAbs b1 f n i)) hT hB ht hb1 hf0 hok hfi.2 hfj (by decide) (by decide)) mX0_weigh kX0_60 (by decide : kd 318 = 0) rfl rfl rfl ⟨rfl, rfl⟩ (show zfit (zrm 2 64) 11 (zrm 3 94) = true from rfl) (Nat.le_of_ble_eq_true rfl) dX0_findPair_49 ⟨Nat.zero_le _, Nat.zero_le _⟩ ?_
        refine zv_iinc (v := (zI ((j : Int) + 1))) (lv' := [(4, .int (zI ((j : Int) + 1))), (0, .ref (ob E 318)), (1, .ref (ob E 34)), (2, .ref (ob E k)), (3, .int (zI (i : Int)))]) C 4 dX0_findPair_52 rfl (zI_add _ _) (by decide) rfl ?_
        refine zv_goto (tgt := 18) C dX0_findPair_55 (by decide) ?_
        have q18_69 : ((j : Int) + 1 : Int) = ((j + 1 : Nat) : Int) := by first | rfl | omega
        refine zv_sub (lv' := [(0, .ref (ob E 318)), (1, .ref (ob E 34)), (2, .ref (ob E k)), (3, .int (zI (i : Int))), (4, .int (zI ((j + 1 : Nat) : Int)))]) [1, 2, 3, 4, 0] (zcons rfl (zcons rfl (zcons rfl (zcons rfl (zcons (zqI q18_69) rfl))))) ?_
        refine zv_eqS (τ := (gW (gAim σ t (b1 : Int)) (gRow t.natAbs b1 (gQp f i) (j + 1) (gPair t.natAbs b1 f n i)))) (by first | rw [gRow_z (gQp_e (by omega))] | rw [gRow_s (gQp_n (by omega))]) ?_
        exact ih18 (j + 1) (by omega) (by omega)
set_option maxRecDepth 20000 in
theorem c_X0_findTrain {l : Launch} (hfl : l.stackTraces = false) (E : zE) (σ : zS) (k : Nat) (t : Int) (b1 n : Nat) (f : Nat → Nat) (hk : kd k = 3) (hk8 : k ≠ 318) (hR : zRt σ k t (b1 : Int)) (ht : t.natAbs < 2 ^ 48) (hb1 : b1 < 2 ^ 48) (hS : zStk σ 34 n f) (hf : ∀ i, i < n → 1 ≤ f i ∧ f i ≤ 100) : zRv l E yX0_findTrain cX0_findTrain 5 (zrm 4 119) [.ref (ob E 318), .ref (ob E 34), .ref (ob E k)] σ (fun τ => τ = (gW (gAim σ t (b1 : Int)) (gTrain t.natAbs b1 f n n))) := by
  refine Met.ofW (cc := cX0_findTrain) (maxL := 5) (ret := none) (by decide +kernel) rfl ?_
  intro p e s m args below meth c s₁ B hml hv
  obtain ⟨rfl, hd⟩ := hv
  have C := zX_of (own := RX0) hfl B hml rfl hd rfl
  have hr := B.returns
  refine zV_go hd (Nat.le_of_ble_eq_true rfl) (lv := [(0, .ref (ob E 318)), (1, .ref (ob E 34)), (2, .ref (ob E k))]) rfl ?_
  have hH := gH_aim ht hb1 hS hf
  obtain ⟨hT, hB, hf0, -⟩ := id hH
  have hn16 := hS.2.1
  refine zv_aload_n C 0 dX0_findTrain_0 rfl rfl ?_
  refine zv_aload_n C 2 dX0_findTrain_1 rfl rfl ?_
  refine zv_cvvD (st := []) C (c_X0_aimAt hfl E σ k t (b1 : Int) hk hk8 hR (by omega)) mX0_aimAt kX0_48 (by decide : kd 318 = 0) rfl rfl rfl ⟨rfl, rfl⟩ (show zfit (zrm 1 21) 2 (zrm 4 119) = true from rfl) (Nat.le_of_ble_eq_true rfl) dX0_findTrain_2 ⟨Nat.zero_le _, Nat.zero_le _⟩ ?_
  refine zv_iconst (v := zI 0) C dX0_findTrain_5 rfl ?_
  refine zv_istore_n (lv' := [(3, .int (zI 0)), (0, .ref (ob E 318)), (1, .ref (ob E 34)), (2, .ref (ob E k))]) C dX0_findTrain_6 rfl (by decide) rfl ?_
  have q7_8 : (0 : Int) = (0 : Int) := by first | rfl | omega
  refine zv_sub (lv' := [(0, .ref (ob E 318)), (1, .ref (ob E 34)), (2, .ref (ob E k)), (3, .int (zI (0 : Int)))]) [1, 2, 3, 0] (zcons rfl (zcons rfl (zcons rfl (zcons (zqI q7_8) rfl)))) ?_
  refine zv_eqS (τ := (gW (gAim σ t (b1 : Int)) (gTrain t.natAbs b1 f n 0))) (rfl) ?_
  refine zv_while (α := Nat) (fun v => n - v) (fun v => v ≤ n) (fun v => (gW (gAim σ t (b1 : Int)) (gTrain t.natAbs b1 f n v))) (fun v => [(0, .ref (ob E 318)), (1, .ref (ob E 34)), (2, .ref (ob E k)), (3, .int (zI (v : Int)))]) (fun v => []) (fun i hI ih => ?_) (0) (by omega)
  refine zv_iload_n C 3 dX0_findTrain_7 rfl rfl ?_
  refine zv_aload_n C 1 dX0_findTrain_8 rfl rfl ?_
  refine zG6_1 C (by decide : kd 34 = _) kX0_52 dX0_findTrain_9 ?_
  refine zv_eqi (y := zI (n : Int)) (gH_n hH _) ?_
  refine zv_icmp_geZ (tgt := 53) C (by omega) (by omega) dX0_findTrain_12 (by decide) (fun h12 => ?_) (fun h12 => ?_)
  · skip
    exact zv_vret C hr dX0_findTrain_53 (by rw [show i = n by omega])
  · skip
    refine zv_iconst (v := zI 0) C dX0_findTrain_15 rfl ?_
    refine zv_istore (lv' := [(4, .int (zI 0)), (0, .ref (ob E 318)), (1, .ref (ob E 34)), (2, .ref (ob E k)), (3, .int (zI (i : Int)))]) C dX0_findTrain_16  (by decide) rfl ?_
    have q18_22 : (0 : Int) = (0 : Int) := by first | rfl | omega
    refine zv_sub (lv' := [(0, .ref (ob E 318)), (1, .ref (ob E 34)), (2, .ref (ob E k)), (3, .int (zI (i : Int))), (4, .int (zI (0 : Int)))]) [1, 2, 3, 4, 0] (zcons rfl (zcons rfl (zcons rfl (zcons rfl (zcons (zqI q18_22) rfl))))) ?_
    refine zv_eqS (τ := (gW (gAim σ t (b1 : Int)) (gTrow t.natAbs b1 f n i 0 (gTrain t.natAbs b1 f n i)))) (rfl) ?_
    refine zv_while (α := Nat) (fun v => n - v) (fun v => v ≤ n) (fun v => (gW (gAim σ t (b1 : Int)) (gTrow t.natAbs b1 f n i v (gTrain t.natAbs b1 f n i)))) (fun v => [(0, .ref (ob E 318)), (1, .ref (ob E 34)), (2, .ref (ob E k)), (3, .int (zI (i : Int))), (4, .int (zI (v : Int)))]) (fun v => []) (fun j hI ih18 => ?_) (0) (by omega)
    have hok := gOk_trow (g := gTrain t.natAbs b1 f n i) ht hb1 hf (show i < n by omega) (gOk_train ht hb1 hf i (by omega)) j (by omega)
    refine zv_iload C 4 dX0_findTrain_18 rfl ?_
    refine zv_aload_n C 1 dX0_findTrain_20 rfl rfl ?_
    refine zG6_1 C (by decide : kd 34 = _) kX0_52 dX0_findTrain_21 ?_
    refine zv_eqi (y := zI (n : Int)) (gH_n hH _) ?_
    refine zv_icmp_geZ (tgt := 47) C (by omega) (by omega) dX0_findTrain_24 (by decide) (fun h24 => ?_) (fun h24 => ?_)
    · skip
      refine zv_iinc (v := (zI ((i : Int) + 1))) (lv' := [(3, .int (zI ((i : Int) + 1))), (0, .ref (ob E 318)), (1, .ref (ob E 34)), (2, .ref (ob E k)), (4, .int (zI (j : Int)))]) C 3 dX0_findTrain_47 rfl (zI_add _ _) (by decide) rfl ?_
      refine zv_goto (tgt := 7) C dX0_findTrain_50 (by decide) ?_
      have q7_35 : ((i : Int) + 1 : Int) = ((i + 1 : Nat) : Int) := by first | rfl | omega
      refine zv_sub (lv' := [(0, .ref (ob E 318)), (1, .ref (ob E 34)), (2, .ref (ob E k)), (3, .int (zI ((i + 1 : Nat) : Int)))]) [1, 2, 3, 0] (zcons rfl (zcons rfl (zcons rfl (zcons (zqI q7_35) rfl)))) ?_
      refine zv_eqS (τ := (gW (gAim σ t (b1 : Int)) (gTrain t.natAbs b1 f n (i + 1)))) (by rw [show j = n by omega]; rfl) ?_
      exact ih (i + 1) (by omega) (by omega)
    · skip
      refine zv_iload_n C 3 dX0_findTrain_27 rfl rfl ?_
      refine zv_iload C 4 dX0_findTrain_28 rfl ?_
      refine zv_icmp_eqZ (tgt := 41) C (by omega) (by omega) dX0_findTrain_30 (by decide) (fun h30 => ?_) (fun h30 => ?_)
      · skip
        refine zv_iinc (v := (zI ((j : Int) + 1))) (lv' := [(4, .int (zI ((j : Int) + 1))), (0, .ref (ob E 318)), (1, .ref (ob E 34)), (2, .ref (ob E k)), (3, .int (zI (i : Int)))]) C 4 dX0_findTrain_41 rfl (zI_add _ _) (by decide) rfl ?_
        refine zv_goto (tgt := 18) C dX0_findTrain_44 (by decide) ?_
        have q18_46 : ((j : Int) + 1 : Int) = ((j + 1 : Nat) : Int) := by first | rfl | omega
        refine zv_sub (lv' := [(0, .ref (ob E 318)), (1, .ref (ob E 34)), (2, .ref (ob E k)), (3, .int (zI (i : Int))), (4, .int (zI ((j + 1 : Nat) : Int)))]) [1, 2, 3, 4, 0] (zcons rfl (zcons rfl (zcons rfl (zcons rfl (zcons (zqI q18_46) rfl))))) ?_
        refine zv_eqS (τ := (gW (gAim σ t (b1 : Int)) (gTrow t.natAbs b1 f n i (j + 1) (gTrain t.natAbs b1 f n i)))) (by first | rw [gTrow, if_pos (by omega)] | rw [gTrow, if_neg (by omega)]) ?_
        exact ih18 (j + 1) (by omega) (by omega)
      · skip
        refine zv_aload_n C 0 dX0_findTrain_33 rfl rfl ?_
        refine zv_aload_n C 1 dX0_findTrain_34 rfl rfl ?_
        refine zv_iload_n C 3 dX0_findTrain_35 rfl rfl ?_
        refine zv_iload C 4 dX0_findTrain_36 rfl ?_
        refine zv_cvvD (st := []) C (c_X0_weighTrainsFrom hfl E (gAim σ t (b1 : Int)) t.natAbs b1 n f i j (gTrow t.natAbs b1 f n i j (gTrain t.natAbs b1 f n i)) hH (by omega) (by omega) hok) mX0_weighTrainsFrom kX0_64 (by decide : kd 318 = 0) rfl rfl rfl ⟨rfl, rfl⟩ (show zfit (zrm 3 94) 6 (zrm 4 119) = true from rfl) (Nat.le_of_ble_eq_true rfl) dX0_findTrain_38 ⟨Nat.zero_le _, Nat.zero_le _⟩ ?_
        refine zv_iinc (v := (zI ((j : Int) + 1))) (lv' := [(4, .int (zI ((j : Int) + 1))), (0, .ref (ob E 318)), (1, .ref (ob E 34)), (2, .ref (ob E k)), (3, .int (zI (i : Int)))]) C 4 dX0_findTrain_41 rfl (zI_add _ _) (by decide) rfl ?_
        refine zv_goto (tgt := 18) C dX0_findTrain_44 (by decide) ?_
        have q18_58 : ((j : Int) + 1 : Int) = ((j + 1 : Nat) : Int) := by first | rfl | omega
        refine zv_sub (lv' := [(0, .ref (ob E 318)), (1, .ref (ob E 34)), (2, .ref (ob E k)), (3, .int (zI (i : Int))), (4, .int (zI ((j + 1 : Nat) : Int)))]) [1, 2, 3, 4, 0] (zcons rfl (zcons rfl (zcons rfl (zcons rfl (zcons (zqI q18_58) rfl))))) ?_
        refine zv_eqS (τ := (gW (gAim σ t (b1 : Int)) (gTrow t.natAbs b1 f n i (j + 1) (gTrain t.natAbs b1 f n i)))) (by first | rw [gTrow, if_pos (by omega)] | rw [gTrow, if_neg (by omega)]) ?_
        exact ih18 (j + 1) (by omega) (by omega)
