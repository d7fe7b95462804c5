/-! pairs searched -/
def hIn (f : Nat → Nat) (n x j : Nat) : hB → Prop
  | none => True
  | some (f0, u0, a0, c0, d0, e0) => ∃ i' j', i' < n ∧ j' < n ∧ (i' < x ∨ (i' = x ∧ j' < j)) ∧ a0 = f i' ∧ c0 = f j' ∧ d0 = 0 ∧ e0 = 0 ∧ u0 = c0 ∧ f0 < 2 ^ 62
theorem hIn_bf {f : Nat → Nat} {n x j : Nat} {g : hB} (hs : ∀ a b, a < b → b < n → f a < f b) (hx : x < n) (hj : j < n) (h : hIn f n x j g) : hBf g (f x) (f j) 0 0 := by
  cases g with
  | none => trivial
  | some q =>
    obtain ⟨f0, u0, a0, c0, d0, e0⟩ := q
    obtain ⟨i', j', h1, h2, h3, h4, h5, h6, h7, h8, h9⟩ := h
    subst h4 h5 h6 h7
    rcases h3 with h3 | ⟨h3, h3'⟩
    · exact Or.inl (hs i' x h3 hx)
    · subst h3
      exact Or.inr ⟨rfl, Or.inl (hs j' j h3' hj)⟩
theorem hIn_ok {f : Nat → Nat} {n x j : Nat} {g : hB} (hf : ∀ i, i < n → 8 ≤ f i ∧ f i ≤ 100) (h : hIn f n x j g) : hOk g := by
  cases g with
  | none => trivial
  | some q =>
    obtain ⟨f0, u0, a0, c0, d0, e0⟩ := q
    obtain ⟨i', j', h1, h2, h3, h4, h5, h6, h7, h8, h9⟩ := h
    have g1 := hf i' h1
    have g2 := hf j' h2
    exact ⟨h9, by omega, by omega, by omega, by omega, by omega⟩
theorem hIn_s {f : Nat → Nat} {n x j x' j' : Nat} {g : hB} (h : hIn f n x j g) (hle : x < x' ∨ (x = x' ∧ j ≤ j')) : hIn f n x' j' g := by
  cases g with
  | none => trivial
  | some q =>
    obtain ⟨f0, u0, a0, c0, d0, e0⟩ := q
    obtain ⟨i', k', h1, h2, h3, h4⟩ := h
    exact ⟨i', k', h1, h2, by omega, h4⟩
theorem hIn_new {f : Nat → Nat} {n x j F : Nat} {g : hB} (h : hIn f n x j g) (hx : x < n) (hj : j < n) (hF : F < 2 ^ 62) : hIn f n x (j + 1) (hNew g F (f j) (f x) (f j) 0 0) := by
  unfold hNew
  split
  · exact ⟨x, j, hx, hj, Or.inr ⟨rfl, by omega⟩, rfl, rfl, rfl, rfl, rfl, hF⟩
  · exact hIn_s h (Or.inr ⟨rfl, by omega⟩)
theorem hIn_row {f : Nat → Nat} {n x : Nat} {g : hB} (h : hIn f n x n g) : hIn f n (x + 1) 0 g := hIn_s h (Or.inl (by omega))
theorem hOff_b {t : Int} {b v u1 : Nat} (ht : t.natAbs ≤ 281474976710656) (hb : b ≤ 281474976710656) (hv : v ≤ 10000) (hu : u1 ≤ 10000) : hOff t b v u1 < 2 ^ 62 := by
  have m1 : v * b ≤ 10000 * 281474976710656 := Nat.mul_le_mul hv hb
  have m2 : t.natAbs * u1 ≤ 281474976710656 * 10000 := Nat.mul_le_mul ht hu
  unfold hOff
  omega
theorem hWd_J {σ : zS} {g : hB} {f1 u1 a1 c1 d1 e1 j : Nat} (hj : j ≠ 26 ∧ j ≠ 27) : gJ (hWd σ g f1 u1 a1 c1 d1 e1) 327 j = gJ σ 327 j := by
  unfold hWd
  split
  · unfold hSw
    rw [gJ_sJ, if_neg (by omega), gJ_sJ, if_neg (by omega)]; rfl
  · rfl
set_option maxRecDepth 20000 in
theorem c_X11_searchesPair {l : Launch} (hfl : l.stackTraces = false) (E : zE) (σ : zS) (σc : zS) (U : zSU) (S : zST) (i : Nat) (hB : zRb (gI σ 328) U) (hU : zSUp σc 29 U) (hW : zRo (gI σ 332) U.nb S) (hS : zSTp σc 34 S) (hi : i < U.nb) (hth : gI σ 327 10 = zI 0) : zRv l E yX11_searchesPair cX11_searchesPair 4 (zrm 6 179) [.ref (ob E 327), .int (zI (i : Int))] σ (fun τ => zHb τ (hPair (qTrue U i).1 (qTrue U i).2.toNat S.f S.n S.n) ∧ mK σ τ 0 ∧ gJ τ 327 22 = zL (qTrue U i).1 ∧ gJ τ 327 23 = zL (((qTrue U i).2.toNat : Nat) : Int) ∧ hOk (hPair (qTrue U i).1 (qTrue U i).2.toNat S.f S.n S.n)) := by
  refine Met.ofW (cc := cX11_searchesPair) (maxL := 4) (ret := none) (by decide +kernel) rfl ?_
  intro p e s m args below meth c s₁ B hml hv
  obtain ⟨rfl, hd⟩ := hv
  have C := zX_of (own := RX11) hfl B hml rfl hd rfl
  have hr := B.returns
  refine zV_go hd (Nat.le_of_ble_eq_true rfl) (lv := [(0, .ref (ob E 327)), (1, .int (zI (i : Int)))]) rfl ?_
  have hnb : U.nb ≤ 8 := hU.2.2.1
  have hs0 := hU.2.2.2.1
  have hn16 : S.n ≤ 16 := hS.1.2.1
  have hf9 : ∀ i, i < S.n → 8 ≤ S.f i ∧ S.f i ≤ 100 := fun i h => ⟨hS.2.1 i h, hS.1.2.2.2 i h⟩
  have hs9 := hS.2.2.1
  have hqt := qTrue_b hU hi
  have hKs : mK σ σ 0 := ⟨mS_r σ, hth⟩
  refine zv_aload_n C 0 dX11_searchesPair_0 rfl rfl ?_
  refine zv_iload_n C 1 dX11_searchesPair_1 rfl rfl ?_
  refine zv_cvvD (st := []) C (c_X11_dueOwn hfl E σ σc U i hB hU hi) mX11_dueOwn kX11_375 (by decide : kd 327 = 10) rfl rfl rfl ⟨rfl, rfl⟩ (show zfit (zrm 4 97) 6 (zrm 6 179) = true from rfl) (Nat.le_of_ble_eq_true rfl) dX11_searchesPair_2 ⟨Nat.zero_le _, Nat.zero_le _⟩ ?_
  refine zv_aload_n C 0 dX11_searchesPair_5 rfl rfl ?_
  refine zG10_25 C (by decide : kd 327 = _) kX11_41 dX11_searchesPair_6 ?_
  refine zv_iconst (v := zI 0) C dX11_searchesPair_9 rfl ?_
  refine zv_iconst (v := zI (-1)) C dX11_searchesPair_10 rfl ?_
  refine zv_iast (j := 0) C (by decide : kd 337 = _) (zI_ix (by omega)) (by decide) dX11_searchesPair_11 ?_
  refine zv_iconst (v := zI 0) C dX11_searchesPair_12 rfl ?_
  refine zv_istore_n (lv' := [(2, .int (zI 0)), (0, .ref (ob E 327)), (1, .int (zI (i : Int)))]) C dX11_searchesPair_13 rfl (by decide) rfl ?_
  have q14_17 : (0 : Int) = (0 : Int) := by rfl
  refine zv_sub (lv' := [(0, .ref (ob E 327)), (1, .int (zI (i : Int))), (2, .int (zI (0 : Int)))]) [1, 2, 0] (zcons rfl (zcons rfl (zcons (zqI q14_17) rfl))) ?_
  refine zv_eqS (τ := (sI (mW σ (qTrue U i).1 (qTrue U i).2) 337 0 (zI (-1)))) (rfl) ?_
  refine zv_while (α := Nat × zS) (fun v => S.n - v.1) (fun v => v.1 ≤ S.n ∧ hIn S.f S.n v.1 0 (hPair (qTrue U i).1 (qTrue U i).2.toNat S.f S.n v.1) ∧ zHb v.2 (hPair (qTrue U i).1 (qTrue U i).2.toNat S.f S.n v.1) ∧ mK σ v.2 0 ∧ gJ v.2 327 22 = zL (qTrue U i).1 ∧ gJ v.2 327 23 = zL (((qTrue U i).2.toNat : Nat) : Int)) (fun v => v.2) (fun v => [(0, .ref (ob E 327)), (1, .int (zI (i : Int))), (2, .int (zI (v.1 : Int)))]) (fun v => []) (fun v hI ih => ?_) ((0, (sI (mW σ (qTrue U i).1 (qTrue U i).2) 337 0 (zI (-1))))) (⟨Nat.zero_le _, trivial, rfl, mK_7 (mK_W hKs _ _) _ _, (mW_r _ _ _).1, by show gJ (mW σ (qTrue U i).1 (qTrue U i).2) 327 23 = _; rw [(mW_r _ _ _).2]; exact congrArg zL (by omega)⟩)
  obtain ⟨x, u⟩ := v
  dsimp only at hI ih ⊢
  obtain ⟨hx, hN0, hG0, hK, hup0, hdn0⟩ := hI
  refine zv_iload_n C 2 dX11_searchesPair_14 rfl rfl ?_
  refine zv_aload_n C 0 dX11_searchesPair_15 rfl rfl ?_
  refine zG10_4 C (by decide : kd 327 = _) kX11_22 dX11_searchesPair_16 ?_
  refine zv_iconst (v := zI 0) C dX11_searchesPair_19 rfl ?_
  refine zv_iald (j := 0) C (by decide : kd 332 = _) (zI_ix (by omega)) (by decide) dX11_searchesPair_20 ?_
  refine zv_eqi (y := (zI (S.n : Int))) ((mK_R hK hW).1) ?_
  refine zv_icmp_geZ (tgt := 93) C (by omega) (by omega) dX11_searchesPair_21 (by decide) (fun h21 => ?_) (fun h21 => ?_)
  · skip
    exact zv_vret C hr dX11_searchesPair_93 (by rw [show x = S.n by omega] at hG0 hN0; exact ⟨hG0, hK, hup0, hdn0, hIn_ok hf9 hN0⟩)
  · skip
    refine zv_iconst (v := zI 0) C dX11_searchesPair_24 rfl ?_
    refine zv_istore_n (lv' := [(3, .int (zI 0)), (0, .ref (ob E 327)), (1, .int (zI (i : Int))), (2, .int (zI (x : Int)))]) C dX11_searchesPair_25 rfl (by decide) rfl ?_
    have q26_36 : (0 : Int) = (0 : Int) := by rfl
    refine zv_sub (lv' := [(0, .ref (ob E 327)), (1, .int (zI (i : Int))), (2, .int (zI (x : Int))), (3, .int (zI (0 : Int)))]) [1, 2, 3, 0] (zcons rfl (zcons rfl (zcons rfl (zcons (zqI q26_36) rfl)))) ?_
    refine zv_eqS (τ := u) (rfl) ?_
    refine zv_while (α := Nat × zS) (fun v => S.n - v.1) (fun v => v.1 ≤ S.n ∧ hIn S.f S.n x v.1 (hRow (qTrue U i).1 (qTrue U i).2.toNat S.f x v.1 (hPair (qTrue U i).1 (qTrue U i).2.toNat S.f S.n x)) ∧ zHb v.2 (hRow (qTrue U i).1 (qTrue U i).2.toNat S.f x v.1 (hPair (qTrue U i).1 (qTrue U i).2.toNat S.f S.n x)) ∧ mK σ v.2 0 ∧ gJ v.2 327 22 = zL (qTrue U i).1 ∧ gJ v.2 327 23 = zL (((qTrue U i).2.toNat : Nat) : Int)) (fun v => v.2) (fun v => [(0, .ref (ob E 327)), (1, .int (zI (i : Int))), (2, .int (zI (x : Int))), (3, .int (zI (v.1 : Int)))]) (fun v => []) (fun v hI ih26 => ?_) ((0, u)) (⟨Nat.zero_le _, hN0, hG0, hK, hup0, hdn0⟩)
    obtain ⟨j, v9⟩ := v
    dsimp only at hI ih26 ⊢
    obtain ⟨hJ, hN, hG, hK, hup, hdn⟩ := hI
    refine zv_iload_n C 3 dX11_searchesPair_26 rfl rfl ?_
    refine zv_aload_n C 0 dX11_searchesPair_27 rfl rfl ?_
    refine zG10_4 C (by decide : kd 327 = _) kX11_22 dX11_searchesPair_28 ?_
    refine zv_iconst (v := zI 0) C dX11_searchesPair_31 rfl ?_
    refine zv_iald (j := 0) C (by decide : kd 332 = _) (zI_ix (by omega)) (by decide) dX11_searchesPair_32 ?_
    refine zv_eqi (y := (zI (S.n : Int))) ((mK_R hK hW).1) ?_
    refine zv_icmp_geZ (tgt := 87) C (by omega) (by omega) dX11_searchesPair_33 (by decide) (fun h33 => ?_) (fun h33 => ?_)
    · skip
      refine zv_iinc (v := (zI ((x : Int) + 1))) (lv' := [(2, .int (zI ((x : Int) + 1))), (0, .ref (ob E 327)), (1, .int (zI (i : Int))), (3, .int (zI (j : Int)))]) C 2 dX11_searchesPair_87 rfl (zI_add _ _) (by decide) rfl ?_
      refine zv_goto (tgt := 14) C dX11_searchesPair_90 (by decide) ?_
      have q14_53 : ((x : Int) + 1 : Int) = ((x + 1 : Nat) : Int) := by omega
      refine zv_sub (lv' := [(0, .ref (ob E 327)), (1, .int (zI (i : Int))), (2, .int (zI ((x + 1 : Nat) : Int)))]) [1, 2, 0] (zcons rfl (zcons rfl (zcons (zqI q14_53) rfl))) ?_
      refine zv_eqS (τ := v9) (rfl) ?_
      exact ih ((x + 1, v9)) (⟨by show x + 1 ≤ S.n; omega, by rw [hPair]; rw [show j = S.n by omega] at hN; exact hIn_row hN, by rw [hPair]; rw [show j = S.n by omega] at hG; exact hG, hK, hup, hdn⟩) (by show S.n - (x + 1) < S.n - x; omega)
    · skip
      refine zv_iload_n C 2 dX11_searchesPair_36 rfl rfl ?_
      refine zv_iload_n C 3 dX11_searchesPair_37 rfl rfl ?_
      refine zv_icmp_eqZ (tgt := 81) C (by omega) (by omega) dX11_searchesPair_38 (by decide) (fun h38 => ?_) (fun h38 => ?_)
      · skip
        have hxj : x = j := by omega
        refine zv_iinc (v := (zI ((j : Int) + 1))) (lv' := [(3, .int (zI ((j : Int) + 1))), (0, .ref (ob E 327)), (1, .int (zI (i : Int))), (2, .int (zI (x : Int)))]) C 3 dX11_searchesPair_81 rfl (zI_add _ _) (by decide) rfl ?_
        refine zv_goto (tgt := 26) C dX11_searchesPair_84 (by decide) ?_
        have q26_65 : ((j : Int) + 1 : Int) = ((j + 1 : Nat) : Int) := by omega
        refine zv_sub (lv' := [(0, .ref (ob E 327)), (1, .int (zI (i : Int))), (2, .int (zI (x : Int))), (3, .int (zI ((j + 1 : Nat) : Int)))]) [1, 2, 3, 0] (zcons rfl (zcons rfl (zcons rfl (zcons (zqI q26_65) rfl)))) ?_
        refine zv_eqS (τ := v9) (rfl) ?_
        exact ih26 ((j + 1, v9)) (by first | exact ⟨by show j + 1 ≤ S.n; omega, by rw [hRow, if_pos hxj]; exact hIn_s hN (Or.inr ⟨rfl, by omega⟩), by rw [hRow, if_pos hxj]; exact hG, hK, hup, hdn⟩ | exact ⟨by show j + 1 ≤ S.n; omega, by rw [hRow, if_neg hxj]; exact hIn_new hN (by omega) (by omega) (hOff_b (by omega) (by omega) (by omega) (by omega)), by rw [hRow, if_neg hxj]; exact zHb_w hG _ _ _ _ _ _, mK_Hw hK _ _ _ _ _ _ _, (hWd_J (by decide)).trans hup, (hWd_J (by decide)).trans hdn⟩) (by show S.n - (j + 1) < S.n - j; omega)
      · skip
        have hxj : ¬ x = j := by omega
        have hfx := hf9 x (by omega)
        have hfj := hf9 j (by omega)
        refine zv_aload_n C 0 dX11_searchesPair_41 rfl rfl ?_
        refine zv_aload_n C 0 dX11_searchesPair_42 rfl rfl ?_
        refine zG10_4 C (by decide : kd 327 = _) kX11_22 dX11_searchesPair_43 ?_
        refine zv_iconst (v := zI 1) C dX11_searchesPair_46 rfl ?_
        refine zv_iload_n C 2 dX11_searchesPair_47 rfl rfl ?_
        refine zv_iaddZ C dX11_searchesPair_48 ?_
        refine zv_iald (j := 1 + x) C (by decide : kd 332 = _) (zI_ix (by omega)) (Nat.lt_of_lt_of_eq (show 1 + x < 131 by omega) (by decide)) dX11_searchesPair_49 ?_
        refine zv_eqi (y := (zI (S.f x : Int))) ((mK_R hK hW).2.1 x (by omega)) ?_
        refine zv_i2lZ C (by omega) dX11_searchesPair_50 ?_
        refine zv_aload_n C 0 dX11_searchesPair_51 rfl rfl ?_
        refine zG10_4 C (by decide : kd 327 = _) kX11_22 dX11_searchesPair_52 ?_
        refine zv_iconst (v := zI 1) C dX11_searchesPair_55 rfl ?_
        refine zv_iload_n C 3 dX11_searchesPair_56 rfl rfl ?_
        refine zv_iaddZ C dX11_searchesPair_57 ?_
        refine zv_iald (j := 1 + j) C (by decide : kd 332 = _) (zI_ix (by omega)) (Nat.lt_of_lt_of_eq (show 1 + j < 131 by omega) (by decide)) dX11_searchesPair_58 ?_
        refine zv_eqi (y := (zI (S.f j : Int))) ((mK_R hK hW).2.1 j (by omega)) ?_
        refine zv_i2lZ C (by omega) dX11_searchesPair_59 ?_
        refine zv_aload_n C 0 dX11_searchesPair_60 rfl rfl ?_
        refine zG10_4 C (by decide : kd 327 = _) kX11_22 dX11_searchesPair_61 ?_
        refine zv_iconst (v := zI 1) C dX11_searchesPair_64 rfl ?_
        refine zv_iload_n C 2 dX11_searchesPair_65 rfl rfl ?_
        refine zv_iaddZ C dX11_searchesPair_66 ?_
        refine zv_iald (j := 1 + x) C (by decide : kd 332 = _) (zI_ix (by omega)) (Nat.lt_of_lt_of_eq (show 1 + x < 131 by omega) (by decide)) dX11_searchesPair_67 ?_
        refine zv_eqi (y := (zI (S.f x : Int))) ((mK_R hK hW).2.1 x (by omega)) ?_
        refine zv_aload_n C 0 dX11_searchesPair_68 rfl rfl ?_
        refine zG10_4 C (by decide : kd 327 = _) kX11_22 dX11_searchesPair_69 ?_
        refine zv_iconst (v := zI 1) C dX11_searchesPair_72 rfl ?_
        refine zv_iload_n C 3 dX11_searchesPair_73 rfl rfl ?_
        refine zv_iaddZ C dX11_searchesPair_74 ?_
        refine zv_iald (j := 1 + j) C (by decide : kd 332 = _) (zI_ix (by omega)) (Nat.lt_of_lt_of_eq (show 1 + j < 131 by omega) (by decide)) dX11_searchesPair_75 ?_
        refine zv_eqi (y := (zI (S.f j : Int))) ((mK_R hK hW).2.1 j (by omega)) ?_
        refine zv_iconst (v := zI 0) C dX11_searchesPair_76 rfl ?_
        refine zv_iconst (v := zI 0) C dX11_searchesPair_77 rfl ?_
        refine zv_cvvD (st := []) C (c_X11_offers hfl E v9 (hRow (qTrue U i).1 (qTrue U i).2.toNat S.f x j (hPair (qTrue U i).1 (qTrue U i).2.toNat S.f S.n x)) (qTrue U i).1 (qTrue U i).2.toNat (S.f x) (S.f j) (S.f x) (S.f j) 0 0 hG (hIn_ok hf9 hN) hup hdn (by omega) (by omega) (by omega) (by omega) (by omega) (by omega) (by omega) (by omega) (hIn_bf hs9 (by omega) (by omega) hN)) mX11_offers kX11_378 (by decide : kd 327 = 10) rfl rfl rfl ⟨rfl, rfl⟩ (show zfit (zrm 5 149) 11 (zrm 6 179) = true from rfl) (Nat.le_of_ble_eq_true rfl) dX11_searchesPair_78 ⟨Nat.zero_le _, Nat.zero_le _⟩ ?_
        refine zv_iinc (v := (zI ((j : Int) + 1))) (lv' := [(3, .int (zI ((j : Int) + 1))), (0, .ref (ob E 327)), (1, .int (zI (i : Int))), (2, .int (zI (x : Int)))]) C 3 dX11_searchesPair_81 rfl (zI_add _ _) (by decide) rfl ?_
        refine zv_goto (tgt := 26) C dX11_searchesPair_84 (by decide) ?_
        have q26_109 : ((j : Int) + 1 : Int) = ((j + 1 : Nat) : Int) := by omega
        refine zv_sub (lv' := [(0, .ref (ob E 327)), (1, .int (zI (i : Int))), (2, .int (zI (x : Int))), (3, .int (zI ((j + 1 : Nat) : Int)))]) [1, 2, 3, 0] (zcons rfl (zcons rfl (zcons rfl (zcons (zqI q26_109) rfl)))) ?_
        refine zv_eqS (τ := (hWd v9 (hRow (qTrue U i).1 (qTrue U i).2.toNat S.f x j (hPair (qTrue U i).1 (qTrue U i).2.toNat S.f S.n x)) (hOff (qTrue U i).1 (qTrue U i).2.toNat (S.f x) (S.f j)) (S.f j) (S.f x) (S.f j) 0 0)) (rfl) ?_
        exact ih26 ((j + 1, (hWd v9 (hRow (qTrue U i).1 (qTrue U i).2.toNat S.f x j (hPair (qTrue U i).1 (qTrue U i).2.toNat S.f S.n x)) (hOff (qTrue U i).1 (qTrue U i).2.toNat (S.f x) (S.f j)) (S.f j) (S.f x) (S.f j) 0 0))) (by first | exact ⟨by show j + 1 ≤ S.n; omega, by rw [hRow, if_pos hxj]; exact hIn_s hN (Or.inr ⟨rfl, by omega⟩), by rw [hRow, if_pos hxj]; exact hG, hK, hup, hdn⟩ | exact ⟨by show j + 1 ≤ S.n; omega, by rw [hRow, if_neg hxj]; exact hIn_new hN (by omega) (by omega) (hOff_b (by omega) (by omega) (by omega) (by omega)), by rw [hRow, if_neg hxj]; exact zHb_w hG _ _ _ _ _ _, mK_Hw hK _ _ _ _ _ _ _, (hWd_J (by decide)).trans hup, (hWd_J (by decide)).trans hdn⟩) (by show S.n - (j + 1) < S.n - j; omega)
