set_option maxRecDepth 20000 in
theorem c_X6_freeAllLags {l : Launch} (hfl : l.stackTraces = false) (E : zE) (σ : zS) (k : Nat) (hk : kd k = 6) : zRv l E yX6_freeAllLags cX6_freeAllLags 2 (zrm 0 0) [.ref (ob E k)] σ (fun τ => τ = flI σ (k + 2) 8 (zI 0)) := by
  refine Met.ofW (cc := cX6_freeAllLags) (maxL := 2) (ret := none) (by decide +kernel) rfl ?_
  intro p e s m args below meth c s₁ B hml hv
  obtain ⟨rfl, hd⟩ := hv
  have C := zX_of (own := RX6) hfl B hml rfl hd rfl
  have hr := B.returns
  refine zV_go hd (Nat.le_of_ble_eq_true rfl) (lv := [(0, .ref (ob E k))]) rfl ?_
  refine zv_iconst (v := zI 0) C dX6_freeAllLags_0 rfl ?_
  refine zv_istore_n (lv' := [(1, .int (zI 0)), (0, .ref (ob E k))]) C dX6_freeAllLags_1 rfl (by decide) rfl ?_
  have q2_2 : (0 : Int) = (0 : Int) := by first | rfl | omega
  refine zv_sub (lv' := [(0, .ref (ob E k)), (1, .int (zI (0 : Int)))]) [1, 0] (zcons rfl (zcons (zqI q2_2) rfl)) ?_
  refine zv_eqS (τ := (flI σ (k + 2) 0 (zI 0))) ((flI_0 σ (k + 2) (zI 0)).symm) ?_
  refine zv_while (α := Nat) (fun v => 8 - v) (fun v => v ≤ 8) (fun v => (flI σ (k + 2) v (zI 0))) (fun v => [(0, .ref (ob E k)), (1, .int (zI (v : Int)))]) (fun v => []) (fun j hI ih => ?_) (0) (by omega)
  refine zv_iload_n C 1 dX6_freeAllLags_2 rfl rfl ?_
  refine zv_bipush (v := zI 8) C dX6_freeAllLags_3 (by decide) ?_
  refine zv_icmp_geZ (tgt := 21) C (by omega) (by omega) dX6_freeAllLags_5 (by decide) (fun h5 => ?_) (fun h5 => ?_)
  · skip
    exact zv_vret C hr dX6_freeAllLags_21 (by rw [show j = 8 by omega])
  · skip
    refine zv_aload_n C 0 dX6_freeAllLags_8 rfl rfl ?_
    refine zG6_4 C hk kX6_25 dX6_freeAllLags_9 ?_
    refine zv_iload_n C 1 dX6_freeAllLags_12 rfl rfl ?_
    refine zv_iconst (v := zI 0) C dX6_freeAllLags_13 rfl ?_
    refine zv_iast (j := j) C (zst hk).2.1.1 (zI_ix (by omega)) (by rw [(zst hk).2.1.2]; omega) dX6_freeAllLags_14 ?_
    refine zv_iinc (v := (zI ((j : Int) + 1))) (lv' := [(1, .int (zI ((j : Int) + 1))), (0, .ref (ob E k))]) C 1 dX6_freeAllLags_15 rfl (zI_add _ _) (by decide) rfl ?_
    refine zv_goto (tgt := 2) C dX6_freeAllLags_18 (by decide) ?_
    have q2_19 : ((j : Int) + 1 : Int) = ((j + 1 : Nat) : Int) := by first | rfl | omega
    refine zv_sub (lv' := [(0, .ref (ob E k)), (1, .int (zI ((j + 1 : Nat) : Int)))]) [1, 0] (zcons rfl (zcons (zqI q2_19) rfl)) ?_
    refine zv_eqS (τ := (flI σ (k + 2) (j + 1) (zI 0))) (flI_s σ (k + 2) j (zI 0)) ?_
    exact ih (j + 1) (by omega) (by omega)
set_option maxRecDepth 20000 in
theorem c_X6_hasStock {l : Launch} (hfl : l.stackTraces = false) (E : zE) (σ : zS) (k n : Nat) (f : Nat → Nat) (t : Int) (hk : kd k = 6) (hS : zStk σ k n f) (ht : -2147483648 ≤ t ∧ t < 2147483648) : zRi l E yX6_hasStock cX6_hasStock 3 .boolean (zrm 0 0) [.ref (ob E k), .int (zI t)] σ (fun r τ => r = zB (sHas f t n = true) ∧ τ = σ) := by
  refine Met.ofW (cc := cX6_hasStock) (maxL := 3) (ret := (some .boolean)) (by decide +kernel) rfl ?_
  intro p e s m args below meth c s₁ B hml hv
  obtain ⟨rfl, hd⟩ := hv
  have C := zX_of (own := RX6) hfl B hml rfl hd rfl
  have hr := B.returns
  refine zV_go hd (Nat.le_of_ble_eq_true rfl) (lv := [(0, .ref (ob E k)), (1, .int (zI t))]) rfl ?_
  have hn := hS.2.1
  refine zv_iconst (v := zI 0) C dX6_hasStock_0 rfl ?_
  refine zv_istore_n (lv' := [(2, .int (zI 0)), (0, .ref (ob E k)), (1, .int (zI t))]) C dX6_hasStock_1 rfl (by decide) rfl ?_
  have q2_3 : (0 : Int) = (0 : Int) := by first | rfl | omega
  refine zv_sub (lv' := [(0, .ref (ob E k)), (1, .int (zI t)), (2, .int (zI (0 : Int)))]) [1, 2, 0] (zcons rfl (zcons rfl (zcons (zqI q2_3) rfl))) ?_
  refine zv_while (α := Nat) (fun v => n - v) (fun v => v ≤ n ∧ sHas f t v = false) (fun v => σ) (fun v => [(0, .ref (ob E k)), (1, .int (zI t)), (2, .int (zI (v : Int)))]) (fun v => []) (fun j hI ih => ?_) (0) (⟨by omega, rfl⟩)
  obtain ⟨hI, hI2⟩ := hI
  refine zv_iload_n C 2 dX6_hasStock_2 rfl rfl ?_
  refine zv_aload_n C 0 dX6_hasStock_3 rfl rfl ?_
  refine zG6_1 C hk kX6_15 dX6_hasStock_4 ?_
  refine zv_eqi (y := zI (n : Int)) (hS.1) ?_
  refine zv_icmp_geZ (tgt := 28) C (by omega) (by omega) dX6_hasStock_7 (by decide) (fun h7 => ?_) (fun h7 => ?_)
  · skip
    refine zv_iconst (v := zI 0) C dX6_hasStock_28 rfl ?_
    exact zv_iret C hr rfl dX6_hasStock_29 ⟨(zB_f (by rw [show n = j by omega, hI2]; decide)).symm, rfl⟩
  · skip
    refine zv_aload_n C 0 dX6_hasStock_10 rfl rfl ?_
    refine zG6_0 C hk kX6_9 dX6_hasStock_11 ?_
    refine zv_iload_n C 2 dX6_hasStock_14 rfl rfl ?_
    refine zv_iald (j := j) C (zst hk).1.1 (zI_ix (by omega)) (by rw [(zst hk).1.2]; omega) dX6_hasStock_15 ?_
    refine zv_eqi (y := (zI (f j : Int))) (hS.2.2.1 j (by omega)) ?_
    refine zv_iload_n C 1 dX6_hasStock_16 rfl rfl ?_
    refine zv_icmp_neZ (tgt := 22) C (by have := hS.2.2.2 j (by omega); omega) (by omega) dX6_hasStock_17 (by decide) (fun h17 => ?_) (fun h17 => ?_)
    · skip
      refine zv_iinc (v := (zI ((j : Int) + 1))) (lv' := [(2, .int (zI ((j : Int) + 1))), (0, .ref (ob E k)), (1, .int (zI t))]) C 2 dX6_hasStock_22 rfl (zI_add _ _) (by decide) rfl ?_
      refine zv_goto (tgt := 2) C dX6_hasStock_25 (by decide) ?_
      have q2_26 : ((j : Int) + 1 : Int) = ((j + 1 : Nat) : Int) := by first | rfl | omega
      refine zv_sub (lv' := [(0, .ref (ob E k)), (1, .int (zI t)), (2, .int (zI ((j + 1 : Nat) : Int)))]) [1, 2, 0] (zcons rfl (zcons rfl (zcons (zqI q2_26) rfl))) ?_
      exact ih (j + 1) (⟨by omega, by simp [sHas, hI2]; omega⟩) (by omega)
    · skip
      refine zv_iconst (v := zI 1) C dX6_hasStock_20 rfl ?_
      exact zv_iret C hr rfl dX6_hasStock_21 ⟨(zB_t ((sHas_iff f t n).mpr ⟨j, by omega, h17⟩)).symm, rfl⟩
set_option maxRecDepth 20000 in
theorem c_X6_canTakeStock {l : Launch} (hfl : l.stackTraces = false) (E : zE) (σ : zS) (k n : Nat) (f : Nat → Nat) (t : Int) (hk : kd k = 6) (hS : zStk σ k n f) (ht : -2147483648 ≤ t ∧ t < 2147483648) : zRi l E yX6_canTakeStock cX6_canTakeStock 2 .boolean (zrm 1 22) [.ref (ob E k), .int (zI t)] σ (fun r τ => r = zB (n < 16 ∧ sHas f t n = false) ∧ τ = σ) := by
  refine Met.ofW (cc := cX6_canTakeStock) (maxL := 2) (ret := (some .boolean)) (by decide +kernel) rfl ?_
  intro p e s m args below meth c s₁ B hml hv
  obtain ⟨rfl, hd⟩ := hv
  have C := zX_of (own := RX6) hfl B hml rfl hd rfl
  have hr := B.returns
  refine zV_go hd (Nat.le_of_ble_eq_true rfl) (lv := [(0, .ref (ob E k)), (1, .int (zI t))]) rfl ?_
  have hn := hS.2.1
  refine zv_aload_n C 0 dX6_canTakeStock_0 rfl rfl ?_
  refine zG6_1 C hk kX6_15 dX6_canTakeStock_1 ?_
  refine zv_eqi (y := zI (n : Int)) (hS.1) ?_
  refine zv_bipush (v := zI 16) C dX6_canTakeStock_4 (by decide) ?_
  refine zv_icmp_geZ (tgt := 21) C (by omega) (by omega) dX6_canTakeStock_6 (by decide) (fun h6 => ?_) (fun h6 => ?_)
  · skip
    refine zv_iconst (v := zI 0) C dX6_canTakeStock_21 rfl ?_
    exact zv_iret C hr rfl dX6_canTakeStock_22 ⟨by first | exact (zB_t ⟨by omega, by simp_all⟩).symm | exact (zB_f (fun q => by omega)).symm | exact (zB_f (fun q => by simp_all)).symm, rfl⟩
  · skip
    refine zv_aload_n C 0 dX6_canTakeStock_9 rfl rfl ?_
    refine zv_iload_n C 1 dX6_canTakeStock_10 rfl rfl ?_
    refine zv_cviD (st := []) C (c_X6_hasStock hfl E σ (k) n f (t) hk hS (by omega)) mX6_hasStock kX6_51 hk rfl rfl rfl ⟨rfl, rfl⟩ (show zfit (zrm 0 0) 3 (zrm 1 22) = true from rfl) (Nat.le_of_ble_eq_true rfl) dX6_canTakeStock_11 ⟨Nat.zero_le _, Nat.zero_le _⟩ ?_
    refine zv_if_neB (tgt := 21) C dX6_canTakeStock_14 (by decide) (fun h14 => ?_) (fun h14 => ?_)
    · skip
      refine zv_iconst (v := zI 0) C dX6_canTakeStock_21 rfl ?_
      exact zv_iret C hr rfl dX6_canTakeStock_22 ⟨by first | exact (zB_t ⟨by omega, by simp_all⟩).symm | exact (zB_f (fun q => by omega)).symm | exact (zB_f (fun q => by simp_all)).symm, rfl⟩
    · skip
      refine zv_iconst (v := zI 1) C dX6_canTakeStock_17 rfl ?_
      refine zv_goto (tgt := 22) C dX6_canTakeStock_18 (by decide) ?_
      exact zv_iret C hr rfl dX6_canTakeStock_22 ⟨by first | exact (zB_t ⟨by omega, by simp_all⟩).symm | exact (zB_f (fun q => by omega)).symm | exact (zB_f (fun q => by simp_all)).symm, rfl⟩
set_option maxRecDepth 20000 in
theorem c_X6_insertStock {l : Launch} (hfl : l.stackTraces = false) (E : zE) (σ : zS) (k n : Nat) (f : Nat → Nat) (t : Nat) (hk : kd k = 6) (hS : zStk σ k n f) (hn16 : n < 16) (ht : t ≤ 100) : zRv l E yX6_insertStock cX6_insertStock 3 (zrm 0 0) [.ref (ob E k), .int (zI (t : Int))] σ (fun τ => τ = sI (inI σ (k + 1) (sIn f t n) n (zI t)) k 1 (zI ((n + 1 : Nat) : Int))) := by
  refine Met.ofW (cc := cX6_insertStock) (maxL := 3) (ret := none) (by decide +kernel) rfl ?_
  intro p e s m args below meth c s₁ B hml hv
  obtain ⟨rfl, hd⟩ := hv
  have C := zX_of (own := RX6) hfl B hml rfl hd rfl
  have hr := B.returns
  refine zV_go hd (Nat.le_of_ble_eq_true rfl) (lv := [(0, .ref (ob E k)), (1, .int (zI (t : Int)))]) rfl ?_
  refine zv_aload_n C 0 dX6_insertStock_0 rfl rfl ?_
  refine zG6_1 C hk kX6_15 dX6_insertStock_1 ?_
  refine zv_eqi (y := zI (n : Int)) (hS.1) ?_
  refine zv_bipush (v := zI 16) C dX6_insertStock_4 (by decide) ?_
  refine zv_icmp_ltZ (tgt := 10) C (by omega) (by omega) dX6_insertStock_6 (by decide) (fun h6 => ?_) (fun h6 => ?_)
  · skip
    refine zv_aload_n C 0 dX6_insertStock_10 rfl rfl ?_
    refine zG6_1 C hk kX6_15 dX6_insertStock_11 ?_
    refine zv_eqi (y := zI (n : Int)) (hS.1) ?_
    refine zv_istore_n (lv' := [(2, .int (zI (n : Int))), (0, .ref (ob E k)), (1, .int (zI (t : Int)))]) C dX6_insertStock_14 rfl (by decide) rfl ?_
    refine zv_sub (lv' := [(0, .ref (ob E k)), (1, .int (zI (t : Int))), (2, .int (zI (n : Int)))]) [1, 2, 0] (zcons rfl (zcons rfl (zcons rfl rfl))) ?_
    refine zv_eqS (τ := (shI σ (k + 1) n n)) ((shI_0 σ (k + 1) n).symm) ?_
    refine zv_while (α := Nat) (fun v => v) (fun v => v ≤ n ∧ sIn f t n = sIn f t v) (fun v => (shI σ (k + 1) v n)) (fun v => [(0, .ref (ob E k)), (1, .int (zI (t : Int))), (2, .int (zI (v : Int)))]) (fun v => []) (fun j hI ih => ?_) (n) (⟨by omega, rfl⟩)
    obtain ⟨hI, hI2⟩ := hI
    refine zv_iload_n C 2 dX6_insertStock_15 rfl rfl ?_
    refine zv_if_leZ (tgt := 51) C (by omega) dX6_insertStock_16 (by decide) (fun h16 => ?_) (fun h16 => ?_)
    · skip
      have e9 : sIn f t j = j := by
        cases j with
        | zero => rfl
        | succ j => simp only [sIn]; exact if_neg (by first | omega | (simp at h28; omega))
      refine zv_aload_n C 0 dX6_insertStock_51 rfl rfl ?_
      refine zG6_0 C hk kX6_9 dX6_insertStock_52 ?_
      refine zv_iload_n C 2 dX6_insertStock_55 rfl rfl ?_
      refine zv_iload_n C 1 dX6_insertStock_56 rfl rfl ?_
      refine zv_iast (j := j) C (zst hk).1.1 (zI_ix (by omega)) (by rw [(zst hk).1.2]; omega) dX6_insertStock_57 ?_
      refine zv_aload_n C 0 dX6_insertStock_58 rfl rfl ?_
      refine zv_dup C dX6_insertStock_59 rfl ?_
      refine zG6_1 C hk kX6_15 dX6_insertStock_60 ?_
      refine zv_eqi (y := (zI (n : Int))) (by rw [gI_sI, if_neg (by omega), gI_shI, if_neg (by omega)]; exact hS.1) ?_
      refine zv_iconst (v := zI 1) C dX6_insertStock_63 rfl ?_
      refine zv_iaddZ C dX6_insertStock_64 ?_
      refine zP6_1 C hk kX6_15 dX6_insertStock_65 ?_
      exact zv_vret C hr dX6_insertStock_68 (by rw [shI_in, hI2, e9]; rfl)
    · skip
      have hj1 : j = (j - 1) + 1 := by omega
      refine zv_aload_n C 0 dX6_insertStock_19 rfl rfl ?_
      refine zG6_0 C hk kX6_9 dX6_insertStock_20 ?_
      refine zv_iload_n C 2 dX6_insertStock_23 rfl rfl ?_
      refine zv_iconst (v := zI 1) C dX6_insertStock_24 rfl ?_
      refine zv_isubZ C dX6_insertStock_25 ?_
      refine zv_iald (j := (j - 1)) C (zst hk).1.1 (zI_ix (by omega)) (by rw [(zst hk).1.2]; omega) dX6_insertStock_26 ?_
      refine zv_eqi (y := (zI (f (j - 1) : Int))) (by rw [gI_shI, if_neg (by omega)]; exact hS.2.2.1 _ (by omega)) ?_
      refine zv_iload_n C 1 dX6_insertStock_27 rfl rfl ?_
      refine zv_icmp_leZ (tgt := 51) C (by have := hS.2.2.2 (j - 1) (by omega); omega) (by omega) dX6_insertStock_28 (by decide) (fun h28 => ?_) (fun h28 => ?_)
      · skip
        have e9 : sIn f t j = j := by
          cases j with
          | zero => rfl
          | succ j => simp only [sIn]; exact if_neg (by first | omega | (simp at h28; omega))
        refine zv_aload_n C 0 dX6_insertStock_51 rfl rfl ?_
        refine zG6_0 C hk kX6_9 dX6_insertStock_52 ?_
        refine zv_iload_n C 2 dX6_insertStock_55 rfl rfl ?_
        refine zv_iload_n C 1 dX6_insertStock_56 rfl rfl ?_
        refine zv_iast (j := j) C (zst hk).1.1 (zI_ix (by omega)) (by rw [(zst hk).1.2]; omega) dX6_insertStock_57 ?_
        refine zv_aload_n C 0 dX6_insertStock_58 rfl rfl ?_
        refine zv_dup C dX6_insertStock_59 rfl ?_
        refine zG6_1 C hk kX6_15 dX6_insertStock_60 ?_
        refine zv_eqi (y := (zI (n : Int))) (by rw [gI_sI, if_neg (by omega), gI_shI, if_neg (by omega)]; exact hS.1) ?_
        refine zv_iconst (v := zI 1) C dX6_insertStock_63 rfl ?_
        refine zv_iaddZ C dX6_insertStock_64 ?_
        refine zP6_1 C hk kX6_15 dX6_insertStock_65 ?_
        exact zv_vret C hr dX6_insertStock_68 (by rw [shI_in, hI2, e9]; rfl)
      · skip
        have h28 : t < f (j - 1) := by omega
        refine zv_aload_n C 0 dX6_insertStock_31 rfl rfl ?_
        refine zG6_0 C hk kX6_9 dX6_insertStock_32 ?_
        refine zv_iload_n C 2 dX6_insertStock_35 rfl rfl ?_
        refine zv_aload_n C 0 dX6_insertStock_36 rfl rfl ?_
        refine zG6_0 C hk kX6_9 dX6_insertStock_37 ?_
        refine zv_iload_n C 2 dX6_insertStock_40 rfl rfl ?_
        refine zv_iconst (v := zI 1) C dX6_insertStock_41 rfl ?_
        refine zv_isubZ C dX6_insertStock_42 ?_
        refine zv_iald (j := (j - 1)) C (zst hk).1.1 (zI_ix (by omega)) (by rw [(zst hk).1.2]; omega) dX6_insertStock_43 ?_
        refine zv_iast (j := j) C (zst hk).1.1 (zI_ix (by omega)) (by rw [(zst hk).1.2]; omega) dX6_insertStock_44 ?_
        refine zv_iinc (v := (zI ((j : Int) + (-1)))) (lv' := [(2, .int (zI ((j : Int) + (-1)))), (0, .ref (ob E k)), (1, .int (zI (t : Int)))]) C 2 dX6_insertStock_45 rfl (zI_add _ _) (by decide) rfl ?_
        refine zv_goto (tgt := 15) C dX6_insertStock_48 (by decide) ?_
        have q15_77 : ((j : Int) + (-1) : Int) = ((j - 1 : Nat) : Int) := by first | rfl | omega
        refine zv_sub (lv' := [(0, .ref (ob E k)), (1, .int (zI (t : Int))), (2, .int (zI ((j - 1 : Nat) : Int)))]) [1, 2, 0] (zcons rfl (zcons rfl (zcons (zqI q15_77) rfl))) ?_
        refine zv_eqS (τ := (shI σ (k + 1) (j - 1) n)) (shI_s σ (k + 1) j n (by omega) hI) ?_
        skip
        exact ih (j - 1) (⟨by omega, by rw [hI2, hj1, sIn, if_pos (by rw [hj1] at h28; simpa using h28)]; simp⟩) (by omega)
  · exfalso
    omega
set_option maxRecDepth 20000 in
theorem c_X6_dropStock {l : Launch} (hfl : l.stackTraces = false) (E : zE) (σ : zS) (k n : Nat) (f : Nat → Nat) (t : Int) (hk : kd k = 6) (hS : zStk σ k n f) (ht : -2147483648 ≤ t ∧ t < 2147483648) : zRv l E yX6_dropStock cX6_dropStock 4 (zrm 0 0) [.ref (ob E k), .int (zI t)] σ (fun τ => τ = sI (dpI σ (k + 1) f t n) k 1 (zI (sKp f t n))) := by
  refine Met.ofW (cc := cX6_dropStock) (maxL := 4) (ret := none) (by decide +kernel) rfl ?_
  intro p e s m args below meth c s₁ B hml hv
  obtain ⟨rfl, hd⟩ := hv
  have C := zX_of (own := RX6) hfl B hml rfl hd rfl
  have hr := B.returns
  refine zV_go hd (Nat.le_of_ble_eq_true rfl) (lv := [(0, .ref (ob E k)), (1, .int (zI t))]) rfl ?_
  have hn := hS.2.1
  refine zv_iconst (v := zI 0) C dX6_dropStock_0 rfl ?_
  refine zv_istore_n (lv' := [(2, .int (zI 0)), (0, .ref (ob E k)), (1, .int (zI t))]) C dX6_dropStock_1 rfl (by decide) rfl ?_
  refine zv_iconst (v := zI 0) C dX6_dropStock_2 rfl ?_
  refine zv_istore_n (lv' := [(3, .int (zI 0)), (2, .int (zI 0)), (0, .ref (ob E k)), (1, .int (zI t))]) C dX6_dropStock_3 rfl (by decide) rfl ?_
  have q4_5 : (0 : Int) = (0 : Int) := by first | rfl | omega
  have q4_6 : (0 : Int) = (sKp f t 0 : Int) := by first | rfl | omega
  refine zv_sub (lv' := [(0, .ref (ob E k)), (1, .int (zI t)), (2, .int (zI (sKp f t 0 : Int))), (3, .int (zI (0 : Int)))]) [2, 3, 1, 0] (zcons rfl (zcons rfl (zcons (zqI q4_6) (zcons (zqI q4_5) rfl)))) ?_
  refine zv_eqS (τ := (dpI σ (k + 1) f t 0)) (rfl) ?_
  refine zv_while (α := Nat) (fun v => n - v) (fun v => v ≤ n) (fun v => (dpI σ (k + 1) f t v)) (fun v => [(0, .ref (ob E k)), (1, .int (zI t)), (2, .int (zI (sKp f t v : Int))), (3, .int (zI (v : Int)))]) (fun v => []) (fun j hI ih => ?_) (0) (by omega)
  refine zv_iload_n C 3 dX6_dropStock_4 rfl rfl ?_
  refine zv_aload_n C 0 dX6_dropStock_5 rfl rfl ?_
  refine zG6_1 C hk kX6_15 dX6_dropStock_6 ?_
  refine zv_eqi (y := zI (n : Int)) ((dpI_ne σ (k + 1) f t j k 1 (by omega)).trans hS.1) ?_
  refine zv_icmp_geZ (tgt := 43) C (by omega) (by omega) dX6_dropStock_9 (by decide) (fun h9 => ?_) (fun h9 => ?_)
  · skip
    refine zv_aload_n C 0 dX6_dropStock_43 rfl rfl ?_
    refine zv_iload_n C 2 dX6_dropStock_44 rfl rfl ?_
    refine zP6_1 C hk kX6_15 dX6_dropStock_45 ?_
    exact zv_vret C hr dX6_dropStock_48 (by rw [show j = n by omega])
  · skip
    refine zv_aload_n C 0 dX6_dropStock_12 rfl rfl ?_
    refine zG6_0 C hk kX6_9 dX6_dropStock_13 ?_
    refine zv_iload_n C 3 dX6_dropStock_16 rfl rfl ?_
    refine zv_iald (j := j) C (zst hk).1.1 (zI_ix (by omega)) (by rw [(zst hk).1.2]; omega) dX6_dropStock_17 ?_
    refine zv_eqi (y := (zI (f j : Int))) ((dpI_hi σ (k + 1) f t j j (Nat.le_refl _)).trans (hS.2.2.1 j (by omega))) ?_
    refine zv_iload_n C 1 dX6_dropStock_18 rfl rfl ?_
    refine zv_icmp_eqZ (tgt := 37) C (by have := hS.2.2.2 j (by omega); omega) (by omega) dX6_dropStock_19 (by decide) (fun h19 => ?_) (fun h19 => ?_)
    · skip
      refine zv_iinc (v := (zI ((j : Int) + 1))) (lv' := [(3, .int (zI ((j : Int) + 1))), (0, .ref (ob E k)), (1, .int (zI t)), (2, .int (zI (sKp f t j : Int)))]) C 3 dX6_dropStock_37 rfl (zI_add _ _) (by decide) rfl ?_
      refine zv_goto (tgt := 4) C dX6_dropStock_40 (by decide) ?_
      have q4_31 : ((j : Int) + 1 : Int) = ((j + 1 : Nat) : Int) := by first | rfl | omega
      have q4_32 : ((sKp f t j : Int) : Int) = (sKp f t (j + 1) : Int) := by simp only [sKp]; split <;> omega
      refine zv_sub (lv' := [(0, .ref (ob E k)), (1, .int (zI t)), (2, .int (zI (sKp f t (j + 1) : Int))), (3, .int (zI ((j + 1 : Nat) : Int)))]) [1, 2, 3, 0] (zcons rfl (zcons rfl (zcons (zqI q4_32) (zcons (zqI q4_31) rfl)))) ?_
      refine zv_eqS (τ := (dpI σ (k + 1) f t (j + 1))) (by simp only [dpI]; first | rw [if_pos (by omega)] | rw [if_neg (by omega)]) ?_
      exact ih (j + 1) (by omega) (by omega)
    · skip
      refine zv_aload_n C 0 dX6_dropStock_22 rfl rfl ?_
      refine zG6_0 C hk kX6_9 dX6_dropStock_23 ?_
      refine zv_iload_n C 2 dX6_dropStock_26 rfl rfl ?_
      refine zv_aload_n C 0 dX6_dropStock_27 rfl rfl ?_
      refine zG6_0 C hk kX6_9 dX6_dropStock_28 ?_
      refine zv_iload_n C 3 dX6_dropStock_31 rfl rfl ?_
      refine zv_iald (j := j) C (zst hk).1.1 (zI_ix (by omega)) (by rw [(zst hk).1.2]; omega) dX6_dropStock_32 ?_
      refine zv_eqi (y := (zI (f j : Int))) ((dpI_hi σ (k + 1) f t j j (Nat.le_refl _)).trans (hS.2.2.1 j (by omega))) ?_
      refine zv_iast (j := (sKp f t j)) C (zst hk).1.1 rfl (by have := sKp_le f t j; rw [(zst hk).1.2]; omega) dX6_dropStock_33 ?_
      refine zv_iinc (v := (zI ((sKp f t j : Int) + 1))) (lv' := [(2, .int (zI ((sKp f t j : Int) + 1))), (0, .ref (ob E k)), (1, .int (zI t)), (3, .int (zI (j : Int)))]) C 2 dX6_dropStock_34 rfl (zI_add _ _) (by decide) rfl ?_
      refine zv_iinc (v := (zI ((j : Int) + 1))) (lv' := [(3, .int (zI ((j : Int) + 1))), (2, .int (zI ((sKp f t j : Int) + 1))), (0, .ref (ob E k)), (1, .int (zI t))]) C 3 dX6_dropStock_37 rfl (zI_add _ _) (by decide) rfl ?_
      refine zv_goto (tgt := 4) C dX6_dropStock_40 (by decide) ?_
      have q4_49 : ((j : Int) + 1 : Int) = ((j + 1 : Nat) : Int) := by first | rfl | omega
      have q4_50 : ((sKp f t j : Int) + 1 : Int) = (sKp f t (j + 1) : Int) := by simp only [sKp]; split <;> omega
      refine zv_sub (lv' := [(0, .ref (ob E k)), (1, .int (zI t)), (2, .int (zI (sKp f t (j + 1) : Int))), (3, .int (zI ((j + 1 : Nat) : Int)))]) [2, 3, 1, 0] (zcons rfl (zcons rfl (zcons (zqI q4_50) (zcons (zqI q4_49) rfl)))) ?_
      refine zv_eqS (τ := (dpI σ (k + 1) f t (j + 1))) (by simp only [dpI]; first | rw [if_pos (by omega)] | rw [if_neg (by omega)]) ?_
      exact ih (j + 1) (by omega) (by omega)
