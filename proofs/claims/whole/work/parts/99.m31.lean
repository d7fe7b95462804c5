/-! writing, in the reference -/
def mO (σ τ : zS) (L : List Nat) : Prop := gI τ 327 29 = zI (L.length : Int) ∧ (∀ i, i < L.length → gI τ 338 i = zI ((L.getD i 0 : Nat) : Int)) ∧ (∀ x j, x ≠ 338 → (x = 327 → j ≠ 29 ∧ j ≠ 10 ∧ j ≠ 24) → gI τ x j = gI σ x j) ∧ (∀ x j, x ≠ 327 → gJ τ x j = gJ σ x j) ∧ (∀ x j, gD τ x j = gD σ x j) ∧ gI τ 327 10 = zI 0
theorem mO_g {σ τ : zS} {L : List Nat} (h : mO σ τ L) (x : Nat) (hx : x ≠ 327) (hy : x ≠ 338) : gI τ x = gI σ x := funext fun j => h.2.2.1 x j hy (fun z => absurd z hx)
theorem mO_R {σ τ : zS} {L : List Nat} {n : Nat} {S : zST} (h : mO σ τ L) (hW : zRo (gI σ 332) n S) : zRo (gI τ 332) n S := by rw [mO_g h 332 (by decide) (by decide)]; exact hW
theorem mO_B {σ τ : zS} {L : List Nat} {U : zSU} (h : mO σ τ L) (hB : zRb (gI σ 328) U) : zRb (gI τ 328) U := by rw [mO_g h 328 (by decide) (by decide)]; exact hB
theorem mO_0 (σ : zS) : mO σ (sI (thW σ 0) 327 29 (zI 0)) [] := by
  refine ⟨by rw [gI_sI, if_pos ⟨rfl, rfl⟩]; rfl, fun i h => absurd h (Nat.not_lt_zero i), fun x j a b => ?_, fun _ _ _ => rfl, fun _ _ => rfl, ?_⟩
  · unfold thW
    rw [gI_sI, if_neg (by omega), gI_sI, if_neg (by omega)]
  · unfold thW
    rw [gI_sI, if_neg (by omega), gI_sI, if_pos ⟨rfl, rfl⟩]; rfl
theorem mO_W {σ τ : zS} {L : List Nat} (h : mO σ τ L) (u d : Int) : mO σ (mW τ u d) L := ⟨h.1, h.2.1, h.2.2.1, fun x j a => by unfold mW; rw [gJ_sJ, if_neg (by omega), gJ_sJ, if_neg (by omega)]; exact h.2.2.2.1 x j a, h.2.2.2.2.1, h.2.2.2.2.2⟩
theorem mO_C {σ τ : zS} {L : List Nat} (h : mO σ τ L) (b : Bool) : mO σ (mC τ b) L := by
  have e : ∀ x j, ¬ (x = 327 ∧ j = 24) → gI (mC τ b) x j = gI τ x j := fun x j q => by unfold mC; rw [gI_sI, if_neg q]
  exact ⟨(e _ _ (by omega)).trans h.1, fun i hi => (e _ _ (by omega)).trans (h.2.1 i hi), fun x j q r => (e _ _ (by omega)).trans (h.2.2.1 x j q r), h.2.2.2.1, h.2.2.2.2.1, (e _ _ (by omega)).trans h.2.2.2.2.2⟩
theorem mO_E {σ τ : zS} {L : List Nat} (h : mO σ τ L) (U : zSU) (S : zST) (i f : Nat) : mO σ (mE τ U S i f) L := mO_C (mO_W h _ _) _
theorem getD_a (L M : List Nat) (i : Nat) : (L ++ M).getD i 0 = if i < L.length then L.getD i 0 else M.getD (i - L.length) 0 := by
  simp only [List.getD_eq_getElem?_getD, List.getElem?_append]
  split <;> rfl
theorem mO_w {σ τ : zS} {L : List Nat} (h : mO σ τ L) (a : Nat) : mO σ (sI (sI τ 338 L.length (zI (a : Int))) 327 29 (zI ((L.length : Int) + 1))) (L ++ [a]) := by
  have e : ∀ x j, x ≠ 338 → ¬ (x = 327 ∧ j = 29) → gI (sI (sI τ 338 L.length (zI (a : Int))) 327 29 (zI ((L.length : Int) + 1))) x j = gI τ x j := fun x j q r => by rw [gI_sI, if_neg r, gI_sI, if_neg (by omega)]
  refine ⟨by rw [gI_sI, if_pos ⟨rfl, rfl⟩, List.length_append]; exact congrArg zI (by simp), fun i hi => ?_, fun x j q r => (e _ _ q (by omega)).trans (h.2.2.1 x j q r), h.2.2.2.1, h.2.2.2.2.1, (e _ _ (by omega) (by omega)).trans h.2.2.2.2.2⟩
  rw [List.length_append, List.length_cons, List.length_nil] at hi
  rw [gI_sI, if_neg (by omega), gI_sI, getD_a]
  by_cases q : i = L.length
  · rw [if_pos ⟨rfl, q⟩, if_neg (by omega), show i - L.length = 0 by omega]
    rfl
  · rw [if_neg (by omega), if_pos (by omega)]
    exact h.2.1 i (by omega)
theorem zMP_o {σ τ : zS} {D : zDv} {L : List Nat} (h : zMP σ D) (e : mO σ τ L) (hl : L.length ≤ 1024) : mH σ τ (D.sO L) := by
  obtain ⟨h1, h2, h3, h4, h5, h6, h7, h8⟩ := h
  have e7 : ∀ j, j ≠ 29 → j ≠ 10 → j ≠ 24 → gI τ 327 j = gI σ 327 j := fun j a b c => e.2.2.1 327 j (by decide) (fun _ => ⟨a, b, c⟩)
  refine ⟨⟨⟨(e7 12 (by decide) (by decide) (by decide)).trans h1.1, h1.2.1, fun i hi => ?_⟩, ⟨(e7 13 (by decide) (by decide) (by decide)).trans h2.1, (e7 14 (by decide) (by decide) (by decide)).trans h2.2⟩, mO_B e h3, ?_, ⟨mO_R e h5.1, h5.2⟩, ⟨(e7 8 (by decide) (by decide) (by decide)).trans h6.1, h6.2.1, fun k S' hS => ?_⟩, ⟨(e7 9 (by decide) (by decide) (by decide)).trans h7.1, fun S' hS => ?_⟩, ⟨e.1, hl, e.2.1⟩⟩, e.2.2.2.2.2, ⟨fun x j a => e.2.2.1 x j (by omega) (by omega), fun x j a => e.2.2.2.1 x j (by omega), e.2.2.2.2.1⟩⟩
  · rw [mO_g e 336 (by decide) (by decide)]; exact h1.2.2 i hi
  · rw [mO_g e 330 (by decide) (by decide)]; exact h4
  · rw [mO_g e 335 (by decide) (by decide)]; exact h6.2.2 k S' hS
  · rw [mO_g e 334 (by decide) (by decide)]; exact h7.2 S' hS
set_option maxRecDepth 20000 in
theorem c_X11_write {l : Launch} (hfl : l.stackTraces = false) (E : zE) (σ : zS) (ρ : zS) (L : List Nat) (a : Nat) (hO : mO ρ σ L) (hL : L.length < 1024) : zRv l E yX11_write cX11_write 2 (zrm 0 0) [.ref (ob E 327), .int (zI (a : Int))] σ (fun τ => mO ρ τ (L ++ [a]) ∧ τ.2 = σ.2) := by
  refine Met.ofW (cc := cX11_write) (maxL := 2) (ret := none) (by decide +kernel) rfl ?_
  intro p e s m args below meth c s₁ B hml hv
  obtain ⟨rfl, hd⟩ := hv
  have C := zX_of (own := RX11) hfl B hml rfl hd rfl
  have hr := B.returns
  refine zV_go hd (Nat.le_of_ble_eq_true rfl) (lv := [(0, .ref (ob E 327)), (1, .int (zI (a : Int)))]) rfl ?_
  refine zv_aload_n C 0 dX11_write_0 rfl rfl ?_
  refine zG10_28 C (by decide : kd 327 = _) kX11_44 dX11_write_1 ?_
  refine zv_aload_n C 0 dX11_write_4 rfl rfl ?_
  refine zG10_29 C (by decide : kd 327 = _) kX11_438 dX11_write_5 ?_
  refine zv_eqi (y := (zI (L.length : Int))) (hO.1) ?_
  refine zv_iload_n C 1 dX11_write_8 rfl rfl ?_
  refine zv_iast (j := L.length) C (by decide : kd 338 = _) (zI_ix rfl) (Nat.lt_of_lt_of_le hL (by decide)) dX11_write_9 ?_
  refine zv_aload_n C 0 dX11_write_10 rfl rfl ?_
  refine zv_dup C dX11_write_11 rfl ?_
  refine zG10_29 C (by decide : kd 327 = _) kX11_438 dX11_write_12 ?_
  refine zv_eqi (y := (zI (L.length : Int))) (hO.1) ?_
  refine zv_iconst (v := zI 1) C dX11_write_15 rfl ?_
  refine zv_iaddZ C dX11_write_16 ?_
  refine zP10_29 C (by decide : kd 327 = _) kX11_438 dX11_write_17 ?_
  exact zv_vret C hr dX11_write_20 ⟨mO_w hO a, rfl⟩
set_option maxRecDepth 20000 in
theorem c_X11_writeNumber {l : Launch} (hfl : l.stackTraces = false) (E : zE) (σ : zS) (ρ : zS) (L : List Nat) (z : Int) (hO : mO ρ σ L) (hL : L.length + 20 ≤ 1024) (hz : -9223372036854775808 < z ∧ z < 9223372036854775808) : zRv l E yX11_writeNumber cX11_writeNumber 7 (zrm 1 21) [.ref (ob E 327), .long (zL z)] σ (fun τ => mO ρ τ (L ++ lNum z) ∧ τ.2 = σ.2) := by
  refine Met.ofW (cc := cX11_writeNumber) (maxL := 7) (ret := none) (by decide +kernel) rfl ?_
  intro p e s m args below meth c s₁ B hml hv
  obtain ⟨rfl, hd⟩ := hv
  have C := zX_of (own := RX11) hfl B hml rfl hd rfl
  have hr := B.returns
  refine zV_go hd (Nat.le_of_ble_eq_true rfl) (lv := [(0, .ref (ob E 327)), (1, .long (zL z))]) rfl ?_
  obtain ⟨P, hP⟩ : ∃ P : List Nat, P = if z < 0 then [45] else [] := ⟨_, rfl⟩
  obtain ⟨A, hA⟩ : ∃ A : Nat, A = z.natAbs := ⟨_, rfl⟩
  have hP1 : P.length ≤ 1 := by rw [hP]; split <;> decide
  have hA2 : A < 9223372036854775808 := by omega
  have hp18 : 10 ^ 18 = 1000000000000000000 := by decide
  refine zv_lload_n C 1 dX11_writeNumber_0 rfl rfl ?_
  refine zv_lconst (v := zL 0) C dX11_writeNumber_1 (by decide) ?_
  refine zv_lc_geZ (tgt := 12) C (by omega) (by omega) dX11_writeNumber_2 dX11_writeNumber_3 (by decide) (fun h2 => ?_) (fun h2 => ?_)
  · skip
    have hO1 : mO ρ σ (L ++ P) := by rw [hP, if_neg (by omega), List.append_nil]; exact hO
    have h2e : (σ : zS).2 = σ.2 := rfl
    refine zv_lload_n C 1 dX11_writeNumber_12 rfl rfl ?_
    refine zv_cslD (st := []) C (c_J9_abs_067f4 hfl E σ (z) (by omega)) mJ9_abs_067f4 kX11_239 rfl ⟨rfl, rfl⟩ (show zfit (zrm 0 0) 2 (zrm 1 21) = true from rfl) (Nat.le_of_ble_eq_true rfl) dX11_writeNumber_13 ⟨Nat.zero_le _, Nat.zero_le _⟩ ?_
    refine zv_eql (y := (zL (A : Int))) (by rw [hA]) ?_
    refine zv_lstore_n (lv' := [(3, .long (zL (A : Int))), (0, .ref (ob E 327)), (1, .long (zL z))]) C dX11_writeNumber_16 rfl (by decide) rfl ?_
    refine zv_lconst (v := zL 1) C dX11_writeNumber_17 (by decide) ?_
    refine zv_lstore (lv' := [(5, .long (zL 1)), (3, .long (zL (A : Int))), (0, .ref (ob E 327)), (1, .long (zL z))]) C dX11_writeNumber_18  (by decide) rfl ?_
    have q20_17 : (1 : Int) = ((10 ^ 0 : Nat) : Int) := by first | rfl | omega
    refine zv_sub (lv' := [(0, .ref (ob E 327)), (3, .long (zL (A : Int))), (5, .long (zL ((10 ^ 0 : Nat) : Int)))]) [2, 1, 0] (zcons rfl (zcons rfl (zcons (zqL q20_17) rfl))) ?_
    refine zv_while (α := Nat) (fun v => 19 - v) (fun v => v ≤ 18 ∧ ∀ i, i < v → 10 ≤ A / 10 ^ i) (fun v => σ) (fun v => [(0, .ref (ob E 327)), (3, .long (zL (A : Int))), (5, .long (zL ((10 ^ v : Nat) : Int)))]) (fun v => []) (fun j hI ih => ?_) (0) (⟨by omega, fun i h => absurd h (Nat.not_lt_zero _)⟩)
    obtain ⟨hI, hI2⟩ := hI
    have hp : 10 ^ j ≤ 10 ^ 18 := Nat.pow_le_pow_right (by decide) hI
    have hp0 : 0 < 10 ^ j := Nat.pow_pos (by decide)
    have hq := Nat.div_le_self A (10 ^ j)
    have hq0 : (0 : Int) ≤ ((A / 10 ^ j : Nat) : Int) := Int.natCast_nonneg _
    refine zv_lload_n C 1 dX11_writeNumber_20 rfl rfl ?_
    refine zv_lload C 2 dX11_writeNumber_21 rfl ?_
    refine zv_ldivP C (by omega) (by omega) dX11_writeNumber_23 ?_
    refine zv_eql (y := (zL ((A / 10 ^ j : Nat) : Int))) (by rw [Int.natCast_ediv A]) ?_
    refine zv_ldc2 C kX11_444 dX11_writeNumber_24 ?_
    refine zv_eql (y := zL 9) (by decide) ?_
    refine zv_lc_leZ (tgt := 42) C (by omega) (by omega) dX11_writeNumber_27 dX11_writeNumber_28 (by decide) (fun h27 => ?_) (fun h27 => ?_)
    · skip
      have hk : j = kU A := kU_eq j A hI2 (by omega)
      have q42_34 : (((10 ^ j : Nat) : Int) : Int) = ((10 ^ j / 10 ^ 0 : Nat) : Int) := by rw [Nat.pow_zero, Nat.div_one]
      refine zv_sub (lv' := [(0, .ref (ob E 327)), (3, .long (zL (A : Int))), (5, .long (zL ((10 ^ j / 10 ^ 0 : Nat) : Int)))]) [0, 1, 2] (zcons rfl (zcons rfl (zcons (zqL q42_34) rfl))) ?_
      refine zv_eqS (τ := σ) (rfl) ?_
      refine zv_while (α := Nat × zS) (fun v => 19 - v.1) (fun v => v.1 ≤ j + 1 ∧ mO ρ v.2 (L ++ P ++ lD A j v.1) ∧ (v.2).2 = σ.2) (fun v => v.2) (fun v => [(0, .ref (ob E 327)), (3, .long (zL (A : Int))), (5, .long (zL ((10 ^ j / 10 ^ v.1 : Nat) : Int)))]) (fun v => []) (fun v hI ih42 => ?_) ((0, σ)) (⟨Nat.zero_le _, by rw [show lD A j 0 = [] from rfl, List.append_nil]; exact hO1, h2e⟩)
      obtain ⟨i, v9⟩ := v
      dsimp only at hI ih42 ⊢
      obtain ⟨hi9, hO3, h2v⟩ := hI
      have hu := Nat.div_le_self (10 ^ j) (10 ^ i)
      have hq2 := Nat.div_le_self A (10 ^ j / 10 ^ i)
      have hu0 : (0 : Int) ≤ ((10 ^ j / 10 ^ i : Nat) : Int) := Int.natCast_nonneg _
      have hq3 : (0 : Int) ≤ ((A / (10 ^ j / 10 ^ i) : Nat) : Int) := Int.natCast_nonneg _
      have hll := lD_l A j i
      refine zv_lload C 2 dX11_writeNumber_42 rfl ?_
      refine zv_lconst (v := zL 0) C dX11_writeNumber_44 (by decide) ?_
      refine zv_lc_leZ (tgt := 77) C (by omega) (by omega) dX11_writeNumber_45 dX11_writeNumber_46 (by decide) (fun h45 => ?_) (fun h45 => ?_)
      · skip
        have hij : j < i := pow_d0 (j := j) (by omega)
        exact zv_vret C hr dX11_writeNumber_77 (by rw [show i = j + 1 by omega, List.append_assoc] at hO3; unfold lNum; rw [← hA, ← hP, ← hk]; exact ⟨hO3, h2v⟩)
      · skip
        have hij : i ≤ j := pow_d1 (j := j) (by omega)
        refine zv_aload_n C 0 dX11_writeNumber_49 rfl rfl ?_
        refine zv_ldc2 C kX11_95 dX11_writeNumber_50 ?_
        refine zv_eql (y := zL 48) (by decide) ?_
        refine zv_lload_n C 1 dX11_writeNumber_53 rfl rfl ?_
        refine zv_lload C 2 dX11_writeNumber_54 rfl ?_
        refine zv_ldivP C (by omega) (by omega) dX11_writeNumber_56 ?_
        refine zv_eql (y := (zL ((A / (10 ^ j / 10 ^ i) : Nat) : Int))) (by rw [Int.natCast_ediv A]) ?_
        refine zv_ldc2 C kX11_446 dX11_writeNumber_57 ?_
        refine zv_eql (y := zL 10) (by decide) ?_
        refine zv_lremP C (by omega) (by omega) dX11_writeNumber_60 ?_
        refine zv_laddZ C dX11_writeNumber_61 ?_
        refine zv_l2iZ C dX11_writeNumber_62 ?_
        refine zv_eqi (y := (zI ((48 + A / (10 ^ j / 10 ^ i) % 10 : Nat) : Int))) (congrArg zI (by omega)) ?_
        refine zv_cvv (st := []) C (c_X11_write hfl E v9 ρ (L ++ P ++ lD A j i) (48 + A / (10 ^ j / 10 ^ i) % 10) hO3 (by first | omega | (simp only [List.length_append, List.length_cons, List.length_nil, lD_l]; omega))) mX11_write kX11_441 (by decide : kd 327 = 10) rfl rfl rfl ⟨rfl, rfl⟩ (show zfit (zrm 0 0) 2 (zrm 1 21) = true from rfl) (Nat.le_of_ble_eq_true rfl) dX11_writeNumber_63 ⟨Nat.zero_le _, Nat.zero_le _⟩ (fun τ63 hp63 => ?_)
        refine zv_lload C 2 dX11_writeNumber_66 rfl ?_
        refine zv_ldc2 C kX11_446 dX11_writeNumber_68 ?_
        refine zv_eql (y := zL 10) (by decide) ?_
        refine zv_ldivP C (by omega) (by omega) dX11_writeNumber_71 ?_
        refine zv_lstore (lv' := [(5, .long (zL (((10 ^ j / 10 ^ i : Nat) : Int) / 10))), (0, .ref (ob E 327)), (3, .long (zL (A : Int)))]) C dX11_writeNumber_72  (by decide) rfl ?_
        refine zv_goto (tgt := 42) C dX11_writeNumber_74 (by decide) ?_
        have q42_74 : (((10 ^ j / 10 ^ i : Nat) : Int) / 10 : Int) = ((10 ^ j / 10 ^ (i + 1) : Nat) : Int) := by rw [Nat.pow_succ, ← Nat.div_div_eq_div_mul]; omega
        refine zv_sub (lv' := [(0, .ref (ob E 327)), (3, .long (zL (A : Int))), (5, .long (zL ((10 ^ j / 10 ^ (i + 1) : Nat) : Int)))]) [1, 2, 0] (zcons rfl (zcons rfl (zcons (zqL q42_74) rfl))) ?_
        refine zv_eqS (τ := τ63) (rfl) ?_
        exact ih42 ((i + 1, τ63)) (⟨by show i + 1 ≤ j + 1; omega, by show mO ρ τ63 (L ++ P ++ lD A j (i + 1)); rw [lD_s, ← List.append_assoc]; exact hp63.1, hp63.2.trans h2v⟩) (by show 19 - (i + 1) < 19 - i; omega)
    · skip
      have hj18 : j < 18 := by
        rcases Nat.lt_or_ge j 18 with q | q
        · exact q
        · exfalso
          have hj9 : j = 18 := by omega
          subst hj9
          have := Nat.div_lt_of_lt_mul (m := A) (n := 10 ^ 18) (k := 10) (by omega)
          omega
      refine zv_lload C 2 dX11_writeNumber_31 rfl ?_
      refine zv_ldc2 C kX11_446 dX11_writeNumber_33 ?_
      refine zv_eql (y := zL 10) (by decide) ?_
      refine zv_lmulZ C dX11_writeNumber_36 ?_
      refine zv_lstore (lv' := [(5, .long (zL (((10 ^ j : Nat) : Int) * 10))), (0, .ref (ob E 327)), (3, .long (zL (A : Int)))]) C dX11_writeNumber_37  (by decide) rfl ?_
      refine zv_goto (tgt := 20) C dX11_writeNumber_39 (by decide) ?_
      have q20_93 : (((10 ^ j : Nat) : Int) * 10 : Int) = ((10 ^ (j + 1) : Nat) : Int) := by rw [Nat.pow_succ]; omega
      refine zv_sub (lv' := [(0, .ref (ob E 327)), (3, .long (zL (A : Int))), (5, .long (zL ((10 ^ (j + 1) : Nat) : Int)))]) [1, 2, 0] (zcons rfl (zcons rfl (zcons (zqL q20_93) rfl))) ?_
      exact ih (j + 1) (⟨by show j + 1 ≤ 18; omega, fun i h => (by rcases Nat.lt_or_ge i j with g | g; exact hI2 i g; rw [show i = j by omega]; omega)⟩) (by omega)
  · skip
    refine zv_aload_n C 0 dX11_writeNumber_6 rfl rfl ?_
    refine zv_bipush (v := zI 45) C dX11_writeNumber_7 (by decide) ?_
    refine zv_cvv (st := []) C (c_X11_write hfl E σ ρ (L) (45) hO (by first | omega | (simp only [List.length_append, List.length_cons, List.length_nil, lD_l]; omega))) mX11_write kX11_441 (by decide : kd 327 = 10) rfl rfl rfl ⟨rfl, rfl⟩ (show zfit (zrm 0 0) 2 (zrm 1 21) = true from rfl) (Nat.le_of_ble_eq_true rfl) dX11_writeNumber_9 ⟨Nat.zero_le _, Nat.zero_le _⟩ (fun τ9 hp9 => ?_)
    have hO0 : mO ρ τ9 (L ++ [45]) := hp9.1
    have hO1 : mO ρ τ9 (L ++ P) := by rw [hP, if_pos (by omega)]; exact hO0
    have h2e : τ9.2 = σ.2 := hp9.2
    refine zv_lload_n C 1 dX11_writeNumber_12 rfl rfl ?_
    refine zv_cslD (st := []) C (c_J9_abs_067f4 hfl E τ9 (z) (by omega)) mJ9_abs_067f4 kX11_239 rfl ⟨rfl, rfl⟩ (show zfit (zrm 0 0) 2 (zrm 1 21) = true from rfl) (Nat.le_of_ble_eq_true rfl) dX11_writeNumber_13 ⟨Nat.zero_le _, Nat.zero_le _⟩ ?_
    refine zv_eql (y := (zL (A : Int))) (by rw [hA]) ?_
    refine zv_lstore_n (lv' := [(3, .long (zL (A : Int))), (0, .ref (ob E 327)), (1, .long (zL z))]) C dX11_writeNumber_16 rfl (by decide) rfl ?_
    refine zv_lconst (v := zL 1) C dX11_writeNumber_17 (by decide) ?_
    refine zv_lstore (lv' := [(5, .long (zL 1)), (3, .long (zL (A : Int))), (0, .ref (ob E 327)), (1, .long (zL z))]) C dX11_writeNumber_18  (by decide) rfl ?_
    have q20_109 : (1 : Int) = ((10 ^ 0 : Nat) : Int) := by first | rfl | omega
    refine zv_sub (lv' := [(0, .ref (ob E 327)), (3, .long (zL (A : Int))), (5, .long (zL ((10 ^ 0 : Nat) : Int)))]) [2, 1, 0] (zcons rfl (zcons rfl (zcons (zqL q20_109) rfl))) ?_
    refine zv_while (α := Nat) (fun v => 19 - v) (fun v => v ≤ 18 ∧ ∀ i, i < v → 10 ≤ A / 10 ^ i) (fun v => τ9) (fun v => [(0, .ref (ob E 327)), (3, .long (zL (A : Int))), (5, .long (zL ((10 ^ v : Nat) : Int)))]) (fun v => []) (fun j hI ih => ?_) (0) (⟨by omega, fun i h => absurd h (Nat.not_lt_zero _)⟩)
    obtain ⟨hI, hI2⟩ := hI
    have hp : 10 ^ j ≤ 10 ^ 18 := Nat.pow_le_pow_right (by decide) hI
    have hp0 : 0 < 10 ^ j := Nat.pow_pos (by decide)
    have hq := Nat.div_le_self A (10 ^ j)
    have hq0 : (0 : Int) ≤ ((A / 10 ^ j : Nat) : Int) := Int.natCast_nonneg _
    refine zv_lload_n C 1 dX11_writeNumber_20 rfl rfl ?_
    refine zv_lload C 2 dX11_writeNumber_21 rfl ?_
    refine zv_ldivP C (by omega) (by omega) dX11_writeNumber_23 ?_
    refine zv_eql (y := (zL ((A / 10 ^ j : Nat) : Int))) (by rw [Int.natCast_ediv A]) ?_
    refine zv_ldc2 C kX11_444 dX11_writeNumber_24 ?_
    refine zv_eql (y := zL 9) (by decide) ?_
    refine zv_lc_leZ (tgt := 42) C (by omega) (by omega) dX11_writeNumber_27 dX11_writeNumber_28 (by decide) (fun h27 => ?_) (fun h27 => ?_)
    · skip
      have hk : j = kU A := kU_eq j A hI2 (by omega)
      have q42_126 : (((10 ^ j : Nat) : Int) : Int) = ((10 ^ j / 10 ^ 0 : Nat) : Int) := by rw [Nat.pow_zero, Nat.div_one]
      refine zv_sub (lv' := [(0, .ref (ob E 327)), (3, .long (zL (A : Int))), (5, .long (zL ((10 ^ j / 10 ^ 0 : Nat) : Int)))]) [0, 1, 2] (zcons rfl (zcons rfl (zcons (zqL q42_126) rfl))) ?_
      refine zv_eqS (τ := τ9) (rfl) ?_
      refine zv_while (α := Nat × zS) (fun v => 19 - v.1) (fun v => v.1 ≤ j + 1 ∧ mO ρ v.2 (L ++ P ++ lD A j v.1) ∧ (v.2).2 = σ.2) (fun v => v.2) (fun v => [(0, .ref (ob E 327)), (3, .long (zL (A : Int))), (5, .long (zL ((10 ^ j / 10 ^ v.1 : Nat) : Int)))]) (fun v => []) (fun v hI ih42 => ?_) ((0, τ9)) (⟨Nat.zero_le _, by rw [show lD A j 0 = [] from rfl, List.append_nil]; exact hO1, h2e⟩)
      obtain ⟨i, v9⟩ := v
      dsimp only at hI ih42 ⊢
      obtain ⟨hi9, hO3, h2v⟩ := hI
      have hu := Nat.div_le_self (10 ^ j) (10 ^ i)
      have hq2 := Nat.div_le_self A (10 ^ j / 10 ^ i)
      have hu0 : (0 : Int) ≤ ((10 ^ j / 10 ^ i : Nat) : Int) := Int.natCast_nonneg _
      have hq3 : (0 : Int) ≤ ((A / (10 ^ j / 10 ^ i) : Nat) : Int) := Int.natCast_nonneg _
      have hll := lD_l A j i
      refine zv_lload C 2 dX11_writeNumber_42 rfl ?_
      refine zv_lconst (v := zL 0) C dX11_writeNumber_44 (by decide) ?_
      refine zv_lc_leZ (tgt := 77) C (by omega) (by omega) dX11_writeNumber_45 dX11_writeNumber_46 (by decide) (fun h45 => ?_) (fun h45 => ?_)
      · skip
        have hij : j < i := pow_d0 (j := j) (by omega)
        exact zv_vret C hr dX11_writeNumber_77 (by rw [show i = j + 1 by omega, List.append_assoc] at hO3; unfold lNum; rw [← hA, ← hP, ← hk]; exact ⟨hO3, h2v⟩)
      · skip
        have hij : i ≤ j := pow_d1 (j := j) (by omega)
        refine zv_aload_n C 0 dX11_writeNumber_49 rfl rfl ?_
        refine zv_ldc2 C kX11_95 dX11_writeNumber_50 ?_
        refine zv_eql (y := zL 48) (by decide) ?_
        refine zv_lload_n C 1 dX11_writeNumber_53 rfl rfl ?_
        refine zv_lload C 2 dX11_writeNumber_54 rfl ?_
        refine zv_ldivP C (by omega) (by omega) dX11_writeNumber_56 ?_
        refine zv_eql (y := (zL ((A / (10 ^ j / 10 ^ i) : Nat) : Int))) (by rw [Int.natCast_ediv A]) ?_
        refine zv_ldc2 C kX11_446 dX11_writeNumber_57 ?_
        refine zv_eql (y := zL 10) (by decide) ?_
        refine zv_lremP C (by omega) (by omega) dX11_writeNumber_60 ?_
        refine zv_laddZ C dX11_writeNumber_61 ?_
        refine zv_l2iZ C dX11_writeNumber_62 ?_
        refine zv_eqi (y := (zI ((48 + A / (10 ^ j / 10 ^ i) % 10 : Nat) : Int))) (congrArg zI (by omega)) ?_
        refine zv_cvv (st := []) C (c_X11_write hfl E v9 ρ (L ++ P ++ lD A j i) (48 + A / (10 ^ j / 10 ^ i) % 10) hO3 (by first | omega | (simp only [List.length_append, List.length_cons, List.length_nil, lD_l]; omega))) mX11_write kX11_441 (by decide : kd 327 = 10) rfl rfl rfl ⟨rfl, rfl⟩ (show zfit (zrm 0 0) 2 (zrm 1 21) = true from rfl) (Nat.le_of_ble_eq_true rfl) dX11_writeNumber_63 ⟨Nat.zero_le _, Nat.zero_le _⟩ (fun τ63 hp63 => ?_)
        refine zv_lload C 2 dX11_writeNumber_66 rfl ?_
        refine zv_ldc2 C kX11_446 dX11_writeNumber_68 ?_
        refine zv_eql (y := zL 10) (by decide) ?_
        refine zv_ldivP C (by omega) (by omega) dX11_writeNumber_71 ?_
        refine zv_lstore (lv' := [(5, .long (zL (((10 ^ j / 10 ^ i : Nat) : Int) / 10))), (0, .ref (ob E 327)), (3, .long (zL (A : Int)))]) C dX11_writeNumber_72  (by decide) rfl ?_
        refine zv_goto (tgt := 42) C dX11_writeNumber_74 (by decide) ?_
        have q42_166 : (((10 ^ j / 10 ^ i : Nat) : Int) / 10 : Int) = ((10 ^ j / 10 ^ (i + 1) : Nat) : Int) := by rw [Nat.pow_succ, ← Nat.div_div_eq_div_mul]; omega
        refine zv_sub (lv' := [(0, .ref (ob E 327)), (3, .long (zL (A : Int))), (5, .long (zL ((10 ^ j / 10 ^ (i + 1) : Nat) : Int)))]) [1, 2, 0] (zcons rfl (zcons rfl (zcons (zqL q42_166) rfl))) ?_
        refine zv_eqS (τ := τ63) (rfl) ?_
        exact ih42 ((i + 1, τ63)) (⟨by show i + 1 ≤ j + 1; omega, by show mO ρ τ63 (L ++ P ++ lD A j (i + 1)); rw [lD_s, ← List.append_assoc]; exact hp63.1, hp63.2.trans h2v⟩) (by show 19 - (i + 1) < 19 - i; omega)
    · skip
      have hj18 : j < 18 := by
        rcases Nat.lt_or_ge j 18 with q | q
        · exact q
        · exfalso
          have hj9 : j = 18 := by omega
          subst hj9
          have := Nat.div_lt_of_lt_mul (m := A) (n := 10 ^ 18) (k := 10) (by omega)
          omega
      refine zv_lload C 2 dX11_writeNumber_31 rfl ?_
      refine zv_ldc2 C kX11_446 dX11_writeNumber_33 ?_
      refine zv_eql (y := zL 10) (by decide) ?_
      refine zv_lmulZ C dX11_writeNumber_36 ?_
      refine zv_lstore (lv' := [(5, .long (zL (((10 ^ j : Nat) : Int) * 10))), (0, .ref (ob E 327)), (3, .long (zL (A : Int)))]) C dX11_writeNumber_37  (by decide) rfl ?_
      refine zv_goto (tgt := 20) C dX11_writeNumber_39 (by decide) ?_
      have q20_185 : (((10 ^ j : Nat) : Int) * 10 : Int) = ((10 ^ (j + 1) : Nat) : Int) := by rw [Nat.pow_succ]; omega
      refine zv_sub (lv' := [(0, .ref (ob E 327)), (3, .long (zL (A : Int))), (5, .long (zL ((10 ^ (j + 1) : Nat) : Int)))]) [1, 2, 0] (zcons rfl (zcons rfl (zcons (zqL q20_185) rfl))) ?_
      exact ih (j + 1) (⟨by show j + 1 ≤ 18; omega, fun i h => (by rcases Nat.lt_or_ge i j with g | g; exact hI2 i g; rw [show i = j by omega]; omega)⟩) (by omega)
set_option maxRecDepth 20000 in
theorem c_X11_printErrors {l : Launch} (hfl : l.stackTraces = false) (E : zE) (σ : zS) (σc : zS) (ni : Nat) (tx : Nat → Int) (ec : Nat) (eo : Int) (U : zSU) (S : zST) (hh : List zST) (kp : Option zST) (ou : List Nat) (i : Nat) (a b st : Int) (h : zMP σ (zDv.mk ni tx ec eo U S hh kp ou)) (hU : zSUp σc 29 U) (hS : zSTp σc 34 S) (hi : i < U.nb) (ha : U.s0 ≤ a ∧ a ≤ U.s0 + 999) (hb : U.s0 ≤ b ∧ b ≤ U.s0 + 999) (hle : a ≤ b) (hst : 1 ≤ st ∧ st ≤ 999) : zRi l E yX11_printErrors cX11_printErrors 7 .int (zrm 7 179) [.ref (ob E 327), .int (zI (i : Int)), .int (zI a), .int (zI b), .int (zI st)] σ (fun r τ => r = zI (((peL U S i a b st 40).length : Nat) : Int) ∧ mH σ τ ((zDv.mk ni tx ec eo U S hh kp ou).sO (peL U S i a b st 40))) := by
  refine Met.ofW (cc := cX11_printErrors) (maxL := 7) (ret := (some .int)) (by decide +kernel) rfl ?_
  intro p e s m args below meth c s₁ B hml hv
  obtain ⟨rfl, hd⟩ := hv
  have C := zX_of (own := RX11) hfl B hml rfl hd rfl
  have hr := B.returns
  refine zV_go hd (Nat.le_of_ble_eq_true rfl) (lv := [(0, .ref (ob E 327)), (1, .int (zI (i : Int))), (2, .int (zI a)), (3, .int (zI b)), (4, .int (zI st))]) rfl ?_
  have hnb : U.nb ≤ 8 := hU.2.2.1
  have hs0 := hU.2.2.2.1
  have hB : zRb (gI σ 328) U := h.2.2.1
  have hW : zRo (gI σ 332) U.nb S := h.2.2.2.2.1.1
  have hk9 : zRk S := h.2.2.2.2.1.2
  have h0 : zMP (thW σ 0) (zDv.mk ni tx ec eo U S hh kp ou) := zMP_q h (mK_th σ 0).1
  
  refine zv_aload_n C 0 dX11_printErrors_0 rfl rfl ?_
  refine zv_iload_n C 1 dX11_printErrors_1 rfl rfl ?_
  refine zv_cviD (st := []) C (c0_X11_noBody hfl E σ σc U ((i : Int)) hB hU (by omega)) mX11_noBody kX11_319 (by decide : kd 327 = 10) rfl rfl rfl ⟨rfl, rfl⟩ (show zfit (zrm 1 25) 2 (zrm 7 179) = true from rfl) (Nat.le_of_ble_eq_true rfl) dX11_printErrors_2 ⟨Nat.zero_le _, Nat.zero_le _⟩ ?_
  refine zv_if_neZ (tgt := 55) C (by omega) dX11_printErrors_5 (by decide) (fun h5 => absurd h5 (by decide)) (fun h5 => ?_)
  refine zv_aload_n C 0 dX11_printErrors_8 rfl rfl ?_
  refine zv_aload_n C 0 dX11_printErrors_9 rfl rfl ?_
  refine zv_iload_n C 2 dX11_printErrors_10 rfl rfl ?_
  refine zv_cviD (st := [.ref (ob E 327)]) C (c_X11_isYear hfl E (thW σ 0) σc U (a) hB hU (by omega)) mX11_isYear kX11_327 (by decide : kd 327 = 10) rfl rfl rfl ⟨rfl, rfl⟩ (show zfit (zrm 1 25) 2 (zrm 7 179) = true from rfl) (Nat.le_of_ble_eq_true rfl) dX11_printErrors_11 ⟨Nat.zero_le _, Nat.zero_le _⟩ ?_
  refine zv_if_eqB (tgt := 43) C dX11_printErrors_14 (by decide) (fun h14 => ?_) (fun h14 => ?_)
  · skip
    refine zv_iconst (v := zI 1) C dX11_printErrors_43 rfl ?_
    refine zv_goto (tgt := 48) C dX11_printErrors_44 (by decide) ?_
    refine zv_iconst (v := zI 2) C dX11_printErrors_48 rfl ?_
    exfalso
    omega
  · skip
    refine zv_aload_n C 0 dX11_printErrors_17 rfl rfl ?_
    refine zv_iload_n C 3 dX11_printErrors_18 rfl rfl ?_
    refine zv_cviD (st := [.ref (ob E 327)]) C (c_X11_isYear hfl E (thW σ 0) σc U (b) hB hU (by omega)) mX11_isYear kX11_327 (by decide : kd 327 = 10) rfl rfl rfl ⟨rfl, rfl⟩ (show zfit (zrm 1 25) 2 (zrm 7 179) = true from rfl) (Nat.le_of_ble_eq_true rfl) dX11_printErrors_19 ⟨Nat.zero_le _, Nat.zero_le _⟩ ?_
    refine zv_if_eqB (tgt := 43) C dX11_printErrors_22 (by decide) (fun h22 => ?_) (fun h22 => ?_)
    · skip
      refine zv_iconst (v := zI 1) C dX11_printErrors_43 rfl ?_
      refine zv_goto (tgt := 48) C dX11_printErrors_44 (by decide) ?_
      refine zv_iconst (v := zI 2) C dX11_printErrors_48 rfl ?_
      exfalso
      omega
    · skip
      refine zv_iload C 4 dX11_printErrors_25 rfl ?_
      refine zv_i2lZ C (by omega) dX11_printErrors_27 ?_
      refine zv_lconst (v := zL 1) C dX11_printErrors_28 (by decide) ?_
      refine zv_ldc2 C kX11_403 dX11_printErrors_29 ?_
      refine zv_eql (y := zL 999) (by decide) ?_
      refine zv_csiD (st := [.ref (ob E 327)]) C (c_X11_inRange hfl E (thW σ 0) (st) (1) (999) (by omega) (by omega) (by omega)) mX11_inRange kX11_71 rfl ⟨rfl, rfl⟩ (show zfit (zrm 0 0) 6 (zrm 7 179) = true from rfl) (Nat.le_of_ble_eq_true rfl) dX11_printErrors_32 ⟨Nat.zero_le _, Nat.zero_le _⟩ ?_
      refine zv_if_eqB (tgt := 43) C dX11_printErrors_35 (by decide) (fun h35 => ?_) (fun h35 => ?_)
      · skip
        refine zv_iconst (v := zI 1) C dX11_printErrors_43 rfl ?_
        refine zv_goto (tgt := 48) C dX11_printErrors_44 (by decide) ?_
        refine zv_iconst (v := zI 2) C dX11_printErrors_48 rfl ?_
        exfalso
        omega
      · skip
        refine zv_iload_n C 3 dX11_printErrors_38 rfl rfl ?_
        refine zv_iload_n C 2 dX11_printErrors_39 rfl rfl ?_
        refine zv_icmp_geZ (tgt := 47) C (by omega) (by omega) dX11_printErrors_40 (by decide) (fun h40 => ?_) (fun h40 => ?_)
        · skip
          refine zv_iconst (v := zI 0) C dX11_printErrors_47 rfl ?_
          refine zv_iconst (v := zI 2) C dX11_printErrors_48 rfl ?_
          refine zv_cviD (st := []) C (c0_X11_fails hfl E (thW σ 0) 2) mX11_fails kX11_309 (by decide : kd 327 = 10) rfl rfl rfl ⟨rfl, rfl⟩ (show zfit (zrm 0 0) 3 (zrm 7 179) = true from rfl) (Nat.le_of_ble_eq_true rfl) dX11_printErrors_49 ⟨Nat.zero_le _, Nat.zero_le _⟩ ?_
          refine zv_if_eqZ (tgt := 57) C (by omega) dX11_printErrors_52 (by decide) (fun h52 => ?_) (fun h52 => absurd h52 (by decide))
          refine zv_aload_n C 0 dX11_printErrors_57 rfl rfl ?_
          refine zv_iconst (v := zI 0) C dX11_printErrors_58 rfl ?_
          refine zP10_29 C (by decide : kd 327 = _) kX11_438 dX11_printErrors_59 ?_
          refine zv_iload_n C 2 dX11_printErrors_62 rfl rfl ?_
          refine zv_istore (lv' := [(5, .int (zI a)), (0, .ref (ob E 327)), (1, .int (zI (i : Int))), (2, .int (zI a)), (3, .int (zI b)), (4, .int (zI st))]) C dX11_printErrors_63  (by decide) rfl ?_
          refine zv_iconst (v := zI 0) C dX11_printErrors_65 rfl ?_
          refine zv_istore (lv' := [(6, .int (zI 0)), (5, .int (zI a)), (0, .ref (ob E 327)), (1, .int (zI (i : Int))), (2, .int (zI a)), (3, .int (zI b)), (4, .int (zI st))]) C dX11_printErrors_66  (by decide) rfl ?_
          have q68_63 : (0 : Int) = (0 : Int) := by rfl
          have q68_64 : (a : Int) = a + st * (0 : Int) := by show _ = a + st * 0; rw [Int.mul_zero, Int.add_zero]
          refine zv_sub (lv' := [(0, .ref (ob E 327)), (1, .int (zI (i : Int))), (3, .int (zI b)), (4, .int (zI st)), (5, .int (zI (a + st * (0 : Int)))), (6, .int (zI (0 : Int)))]) [2, 3, 5, 6, 1, 0] (zcons rfl (zcons rfl (zcons rfl (zcons rfl (zcons (zqI q68_64) (zcons (zqI q68_63) rfl)))))) ?_
          refine zv_eqS (τ := (sI (thW σ 0) 327 29 (zI 0))) (rfl) ?_
          refine zv_while (α := Nat × zS) (fun v => 41 - v.1) (fun v => v.1 ≤ 40 ∧ mO σ v.2 (peL U S i a b st v.1)) (fun v => v.2) (fun v => [(0, .ref (ob E 327)), (1, .int (zI (i : Int))), (3, .int (zI b)), (4, .int (zI st)), (5, .int (zI (a + st * (v.1 : Int)))), (6, .int (zI (v.1 : Int)))]) (fun v => []) (fun v hI ih => ?_) ((0, (sI (thW σ 0) 327 29 (zI 0)))) (⟨Nat.zero_le _, mO_0 σ⟩)
          obtain ⟨j, v9⟩ := v
          dsimp only at hI ih ⊢
          obtain ⟨hj, hO⟩ := hI
          have hpl := peL_l hU hS hi ha.1 hb.2 (show 0 ≤ st by omega) j
          have hm : 0 ≤ st * (j : Int) := Int.mul_nonneg (by omega) (by omega)
          have hm2 : st * (j : Int) ≤ 999 * 40 := Int.mul_le_mul (by omega) (by omega) (by omega) (by omega)
          refine zv_iload C 5 dX11_printErrors_68 rfl ?_
          refine zv_bipush (v := zI 40) C dX11_printErrors_70 (by decide) ?_
          refine zv_icmp_geZ (tgt := 124) C (by omega) (by omega) dX11_printErrors_72 (by decide) (fun h72 => ?_) (fun h72 => ?_)
          · skip
            have hjx : peL U S i a b st 40 = peL U S i a b st j := by rw [show j = 40 by omega]
            refine zv_aload_n C 0 dX11_printErrors_124 rfl rfl ?_
            refine zG10_29 C (by decide : kd 327 = _) kX11_438 dX11_printErrors_125 ?_
            refine zv_eqi (y := (zI ((peL U S i a b st j).length : Int))) (hO.1) ?_
            exact zv_iret C hr rfl dX11_printErrors_128 (by rw [hjx]; exact ⟨rfl, zMP_o h hO (by omega)⟩)
          · skip
            refine zv_iload C 4 dX11_printErrors_75 rfl ?_
            refine zv_iload_n C 2 dX11_printErrors_77 rfl rfl ?_
            refine zv_icmp_gtZ (tgt := 124) C (by omega) (by omega) dX11_printErrors_78 (by decide) (fun h78 => ?_) (fun h78 => ?_)
            · skip
              have hjx := peL_end (U := U) (S := S) (i := i) (show 0 ≤ st by omega) (show ¬ a + st * (j : Int) ≤ b by omega) 40 (by omega)
              refine zv_aload_n C 0 dX11_printErrors_124 rfl rfl ?_
              refine zG10_29 C (by decide : kd 327 = _) kX11_438 dX11_printErrors_125 ?_
              refine zv_eqi (y := (zI ((peL U S i a b st j).length : Int))) (hO.1) ?_
              exact zv_iret C hr rfl dX11_printErrors_128 (by rw [hjx]; exact ⟨rfl, zMP_o h hO (by omega)⟩)
            · skip
              have hqb := qErr_b hU hS hi (y := a + st * (j : Int)) (by omega)
              have hl1 := (lNum_l (z := a + st * (j : Int)) (k := 3) (by omega)).2 (by omega)
              have hl2 := (lNum_l (z := qErr U S i (a + st * (j : Int))) (k := 16) (by omega)).1
              refine zv_aload_n C 0 dX11_printErrors_81 rfl rfl ?_
              refine zv_iload C 4 dX11_printErrors_82 rfl ?_
              refine zv_i2lZ C (by omega) dX11_printErrors_84 ?_
              refine zv_cvv (st := []) C (c_X11_writeNumber hfl E v9 σ (peL U S i a b st j) (a + st * (j : Int)) hO (by first | omega | (simp only [List.length_append, List.length_cons, List.length_nil, lD_l]; omega)) (by omega)) mX11_writeNumber kX11_448 (by decide : kd 327 = 10) rfl rfl rfl ⟨rfl, rfl⟩ (show zfit (zrm 1 21) 7 (zrm 7 179) = true from rfl) (Nat.le_of_ble_eq_true rfl) dX11_printErrors_85 ⟨Nat.zero_le _, Nat.zero_le _⟩ (fun τ85 hp85 => ?_)
              have hO1 : mO σ τ85 (peL U S i a b st j ++ lNum (a + st * (j : Int))) := hp85.1
              refine zv_aload_n C 0 dX11_printErrors_88 rfl rfl ?_
              refine zv_bipush (v := zI 58) C dX11_printErrors_89 (by decide) ?_
              refine zv_cvv (st := []) C (c_X11_write hfl E τ85 σ (peL U S i a b st j ++ lNum (a + st * (j : Int))) (58) hO1 (by first | omega | (simp only [List.length_append, List.length_cons, List.length_nil, lD_l]; omega))) mX11_write kX11_441 (by decide : kd 327 = 10) rfl rfl rfl ⟨rfl, rfl⟩ (show zfit (zrm 0 0) 2 (zrm 7 179) = true from rfl) (Nat.le_of_ble_eq_true rfl) dX11_printErrors_91 ⟨Nat.zero_le _, Nat.zero_le _⟩ (fun τ91 hp91 => ?_)
              have hO2 : mO σ τ91 (peL U S i a b st j ++ lNum (a + st * (j : Int)) ++ [58]) := hp91.1
              refine zv_aload_n C 0 dX11_printErrors_94 rfl rfl ?_
              refine zv_aload_n C 0 dX11_printErrors_95 rfl rfl ?_
              refine zv_iload_n C 1 dX11_printErrors_96 rfl rfl ?_
              refine zv_iload C 4 dX11_printErrors_97 rfl ?_
              refine zv_cvlD (st := [.ref (ob E 327)]) C (c_X11_errorAt hfl E τ91 σc U S i (a + st * (j : Int)) (mO_B hO2 hB) hU (mO_R hO2 hW) hS hi (by omega)) mX11_errorAt kX11_306 (by decide : kd 327 = 10) rfl rfl rfl ⟨rfl, rfl⟩ (show zfit (zrm 6 157) 3 (zrm 7 179) = true from rfl) (Nat.le_of_ble_eq_true rfl) dX11_printErrors_99 ⟨Nat.zero_le _, Nat.zero_le _⟩ ?_
              refine zv_cvv (st := []) C (c_X11_writeNumber hfl E (mE τ91 U S i (yF U (a + st * (j : Int)))) σ (peL U S i a b st j ++ lNum (a + st * (j : Int)) ++ [58]) (qErr U S i (a + st * (j : Int))) (mO_E hO2 U S i _) (by first | omega | (simp only [List.length_append, List.length_cons, List.length_nil, lD_l]; omega)) (by omega)) mX11_writeNumber kX11_448 (by decide : kd 327 = 10) rfl rfl rfl ⟨rfl, rfl⟩ (show zfit (zrm 1 21) 7 (zrm 7 179) = true from rfl) (Nat.le_of_ble_eq_true rfl) dX11_printErrors_102 ⟨Nat.zero_le _, Nat.zero_le _⟩ (fun τ102 hp102 => ?_)
              have hO3 : mO σ τ102 (peL U S i a b st j ++ lNum (a + st * (j : Int)) ++ [58] ++ lNum (qErr U S i (a + st * (j : Int)))) := hp102.1
              refine zv_aload_n C 0 dX11_printErrors_105 rfl rfl ?_
              refine zv_bipush (v := zI 59) C dX11_printErrors_106 (by decide) ?_
              refine zv_cvv (st := []) C (c_X11_write hfl E τ102 σ (peL U S i a b st j ++ lNum (a + st * (j : Int)) ++ [58] ++ lNum (qErr U S i (a + st * (j : Int)))) (59) hO3 (by first | omega | (simp only [List.length_append, List.length_cons, List.length_nil, lD_l]; omega))) mX11_write kX11_441 (by decide : kd 327 = 10) rfl rfl rfl ⟨rfl, rfl⟩ (show zfit (zrm 0 0) 2 (zrm 7 179) = true from rfl) (Nat.le_of_ble_eq_true rfl) dX11_printErrors_108 ⟨Nat.zero_le _, Nat.zero_le _⟩ (fun τ108 hp108 => ?_)
              have hO4 : mO σ τ108 (peL U S i a b st j ++ lNum (a + st * (j : Int)) ++ [58] ++ lNum (qErr U S i (a + st * (j : Int))) ++ [59]) := hp108.1
              refine zv_iload C 4 dX11_printErrors_111 rfl ?_
              refine zv_iload C 3 dX11_printErrors_113 rfl ?_
              refine zv_iaddZ C dX11_printErrors_115 ?_
              refine zv_istore (lv' := [(5, .int (zI ((a + st * (j : Int)) + st))), (0, .ref (ob E 327)), (1, .int (zI (i : Int))), (3, .int (zI b)), (4, .int (zI st)), (6, .int (zI (j : Int)))]) C dX11_printErrors_116  (by decide) rfl ?_
              refine zv_iinc (v := (zI ((j : Int) + 1))) (lv' := [(6, .int (zI ((j : Int) + 1))), (5, .int (zI ((a + st * (j : Int)) + st))), (0, .ref (ob E 327)), (1, .int (zI (i : Int))), (3, .int (zI b)), (4, .int (zI st))]) C 5 dX11_printErrors_118 rfl (zI_add _ _) (by decide) rfl ?_
              refine zv_goto (tgt := 68) C dX11_printErrors_121 (by decide) ?_
              have q68_123 : ((j : Int) + 1 : Int) = ((j + 1 : Nat) : Int) := by omega
              have q68_124 : ((a + st * (j : Int)) + st : Int) = a + st * ((j + 1 : Nat) : Int) := by show _ = a + st * ((j + 1 : Nat) : Int); rw [Int.natCast_succ, Int.mul_add, Int.mul_one, Int.add_assoc]
              refine zv_sub (lv' := [(0, .ref (ob E 327)), (1, .int (zI (i : Int))), (3, .int (zI b)), (4, .int (zI st)), (5, .int (zI (a + st * ((j + 1 : Nat) : Int)))), (6, .int (zI ((j + 1 : Nat) : Int)))]) [2, 3, 4, 5, 1, 0] (zcons rfl (zcons rfl (zcons rfl (zcons rfl (zcons (zqI q68_124) (zcons (zqI q68_123) rfl)))))) ?_
              refine zv_eqS (τ := τ108) (rfl) ?_
              exact ih ((j + 1, τ108)) (⟨by show j + 1 ≤ 40; omega, by show mO σ τ108 (peL U S i a b st (j + 1)); rw [peL, if_pos (by omega)]; exact hO4⟩) (by show 41 - (j + 1) < 41 - j; omega)
        · skip
          refine zv_iconst (v := zI 1) C dX11_printErrors_43 rfl ?_
          refine zv_goto (tgt := 48) C dX11_printErrors_44 (by decide) ?_
          refine zv_iconst (v := zI 2) C dX11_printErrors_48 rfl ?_
          exfalso
          omega
set_option maxRecDepth 20000 in
theorem x1_X11_printErrors {l : Launch} (hfl : l.stackTraces = false) (E : zE) (σ : zS) (σc : zS) (U : zSU) (y z w x : Int) (hB : zRb (gI σ 328) U) (hU : zSUp σc 29 U) (hy : -2147483648 ≤ y ∧ y < 2147483648) (hno : ¬ (0 ≤ y ∧ y < U.nb)) : zRi l E yX11_printErrors cX11_printErrors 7 .int (zrm 2 46) [.ref (ob E 327), .int (zI y), .int (zI z), .int (zI w), .int (zI x)] σ (fun r τ => r = zI 0 ∧ mK σ τ 1) := by
  refine Met.ofW (cc := cX11_printErrors) (maxL := 7) (ret := (some .int)) (by decide +kernel) rfl ?_
  intro p e s m args below meth c s₁ B hml hv
  obtain ⟨rfl, hd⟩ := hv
  have C := zX_of (own := RX11) hfl B hml rfl hd rfl
  have hr := B.returns
  refine zV_go hd (Nat.le_of_ble_eq_true rfl) (lv := [(0, .ref (ob E 327)), (1, .int (zI y)), (2, .int (zI z)), (3, .int (zI w)), (4, .int (zI x))]) rfl ?_
  have hnb : U.nb ≤ 8 := hU.2.2.1
  have hs0 := hU.2.2.2.1
  
  refine zv_aload_n C 0 dX11_printErrors_0 rfl rfl ?_
  refine zv_iload_n C 1 dX11_printErrors_1 rfl rfl ?_
  refine zv_cviD (st := []) C (c1_X11_noBody hfl E σ σc U (y) hB hU (by omega) hno) mX11_noBody kX11_319 (by decide : kd 327 = 10) rfl rfl rfl ⟨rfl, rfl⟩ (show zfit (zrm 1 25) 2 (zrm 2 46) = true from rfl) (Nat.le_of_ble_eq_true rfl) dX11_printErrors_2 ⟨Nat.zero_le _, Nat.zero_le _⟩ ?_
  refine zv_if_neZ (tgt := 55) C (by omega) dX11_printErrors_5 (by decide) (fun h5 => ?_) (fun h5 => absurd h5 (by decide))
  refine zv_iconst (v := zI 0) C dX11_printErrors_55 rfl ?_
  exact zv_iret C hr rfl dX11_printErrors_56 ⟨rfl, by first | exact mK_th _ _ | exact mK_th2 _ _ _ | exact mK_C (mK_W (mK_th _ _) _ _) _ | exact mK_W (mK_th _ _) _ _⟩
set_option maxRecDepth 20000 in
theorem x2_X11_printErrors {l : Launch} (hfl : l.stackTraces = false) (E : zE) (σ : zS) (σc : zS) (U : zSU) (i : Nat) (y z w : Int) (hB : zRb (gI σ 328) U) (hU : zSUp σc 29 U) (hi : i < U.nb) (hyi : -2147483648 ≤ y ∧ y < 2147483648) (hzi : -2147483648 ≤ z ∧ z < 2147483648) (hwi : -2147483648 ≤ w ∧ w < 2147483648) (hno : ¬ ((U.s0 ≤ y ∧ y ≤ U.s0 + 999) ∧ (U.s0 ≤ z ∧ z ≤ U.s0 + 999) ∧ (1 ≤ w ∧ w ≤ 999) ∧ y ≤ z)) : zRi l E yX11_printErrors cX11_printErrors 7 .int (zrm 2 46) [.ref (ob E 327), .int (zI (i : Int)), .int (zI y), .int (zI z), .int (zI w)] σ (fun r τ => r = zI 0 ∧ mK σ τ 2) := by
  refine Met.ofW (cc := cX11_printErrors) (maxL := 7) (ret := (some .int)) (by decide +kernel) rfl ?_
  intro p e s m args below meth c s₁ B hml hv
  obtain ⟨rfl, hd⟩ := hv
  have C := zX_of (own := RX11) hfl B hml rfl hd rfl
  have hr := B.returns
  refine zV_go hd (Nat.le_of_ble_eq_true rfl) (lv := [(0, .ref (ob E 327)), (1, .int (zI (i : Int))), (2, .int (zI y)), (3, .int (zI z)), (4, .int (zI w))]) rfl ?_
  have hnb : U.nb ≤ 8 := hU.2.2.1
  have hs0 := hU.2.2.2.1
  
  refine zv_aload_n C 0 dX11_printErrors_0 rfl rfl ?_
  refine zv_iload_n C 1 dX11_printErrors_1 rfl rfl ?_
  refine zv_cviD (st := []) C (c0_X11_noBody hfl E σ σc U ((i : Int)) hB hU (by omega)) mX11_noBody kX11_319 (by decide : kd 327 = 10) rfl rfl rfl ⟨rfl, rfl⟩ (show zfit (zrm 1 25) 2 (zrm 2 46) = true from rfl) (Nat.le_of_ble_eq_true rfl) dX11_printErrors_2 ⟨Nat.zero_le _, Nat.zero_le _⟩ ?_
  refine zv_if_neZ (tgt := 55) C (by omega) dX11_printErrors_5 (by decide) (fun h5 => absurd h5 (by decide)) (fun h5 => ?_)
  refine zv_aload_n C 0 dX11_printErrors_8 rfl rfl ?_
  refine zv_aload_n C 0 dX11_printErrors_9 rfl rfl ?_
  refine zv_iload_n C 2 dX11_printErrors_10 rfl rfl ?_
  refine zv_cviD (st := [.ref (ob E 327)]) C (c_X11_isYear hfl E (thW σ 0) σc U (y) hB hU (by omega)) mX11_isYear kX11_327 (by decide : kd 327 = 10) rfl rfl rfl ⟨rfl, rfl⟩ (show zfit (zrm 1 25) 2 (zrm 2 46) = true from rfl) (Nat.le_of_ble_eq_true rfl) dX11_printErrors_11 ⟨Nat.zero_le _, Nat.zero_le _⟩ ?_
  refine zv_if_eqB (tgt := 43) C dX11_printErrors_14 (by decide) (fun h14 => ?_) (fun h14 => ?_)
  · skip
    refine zv_iconst (v := zI 1) C dX11_printErrors_43 rfl ?_
    refine zv_goto (tgt := 48) C dX11_printErrors_44 (by decide) ?_
    refine zv_iconst (v := zI 2) C dX11_printErrors_48 rfl ?_
    refine zv_cviD (st := []) C (c1_X11_fails hfl E (thW σ 0) 2) mX11_fails kX11_309 (by decide : kd 327 = 10) rfl rfl rfl ⟨rfl, rfl⟩ (show zfit (zrm 0 0) 3 (zrm 2 46) = true from rfl) (Nat.le_of_ble_eq_true rfl) dX11_printErrors_49 ⟨Nat.zero_le _, Nat.zero_le _⟩ ?_
    refine zv_if_eqZ (tgt := 57) C (by omega) dX11_printErrors_52 (by decide) (fun h52 => absurd h52 (by decide)) (fun h52 => ?_)
    refine zv_iconst (v := zI 0) C dX11_printErrors_55 rfl ?_
    exact zv_iret C hr rfl dX11_printErrors_56 ⟨rfl, mK_th2 _ _ _⟩
  · skip
    refine zv_aload_n C 0 dX11_printErrors_17 rfl rfl ?_
    refine zv_iload_n C 3 dX11_printErrors_18 rfl rfl ?_
    refine zv_cviD (st := [.ref (ob E 327)]) C (c_X11_isYear hfl E (thW σ 0) σc U (z) hB hU (by omega)) mX11_isYear kX11_327 (by decide : kd 327 = 10) rfl rfl rfl ⟨rfl, rfl⟩ (show zfit (zrm 1 25) 2 (zrm 2 46) = true from rfl) (Nat.le_of_ble_eq_true rfl) dX11_printErrors_19 ⟨Nat.zero_le _, Nat.zero_le _⟩ ?_
    refine zv_if_eqB (tgt := 43) C dX11_printErrors_22 (by decide) (fun h22 => ?_) (fun h22 => ?_)
    · skip
      refine zv_iconst (v := zI 1) C dX11_printErrors_43 rfl ?_
      refine zv_goto (tgt := 48) C dX11_printErrors_44 (by decide) ?_
      refine zv_iconst (v := zI 2) C dX11_printErrors_48 rfl ?_
      refine zv_cviD (st := []) C (c1_X11_fails hfl E (thW σ 0) 2) mX11_fails kX11_309 (by decide : kd 327 = 10) rfl rfl rfl ⟨rfl, rfl⟩ (show zfit (zrm 0 0) 3 (zrm 2 46) = true from rfl) (Nat.le_of_ble_eq_true rfl) dX11_printErrors_49 ⟨Nat.zero_le _, Nat.zero_le _⟩ ?_
      refine zv_if_eqZ (tgt := 57) C (by omega) dX11_printErrors_52 (by decide) (fun h52 => absurd h52 (by decide)) (fun h52 => ?_)
      refine zv_iconst (v := zI 0) C dX11_printErrors_55 rfl ?_
      exact zv_iret C hr rfl dX11_printErrors_56 ⟨rfl, mK_th2 _ _ _⟩
    · skip
      refine zv_iload C 4 dX11_printErrors_25 rfl ?_
      refine zv_i2lZ C (by omega) dX11_printErrors_27 ?_
      refine zv_lconst (v := zL 1) C dX11_printErrors_28 (by decide) ?_
      refine zv_ldc2 C kX11_403 dX11_printErrors_29 ?_
      refine zv_eql (y := zL 999) (by decide) ?_
      refine zv_csiD (st := [.ref (ob E 327)]) C (c_X11_inRange hfl E (thW σ 0) (w) (1) (999) (by omega) (by omega) (by omega)) mX11_inRange kX11_71 rfl ⟨rfl, rfl⟩ (show zfit (zrm 0 0) 6 (zrm 2 46) = true from rfl) (Nat.le_of_ble_eq_true rfl) dX11_printErrors_32 ⟨Nat.zero_le _, Nat.zero_le _⟩ ?_
      refine zv_if_eqB (tgt := 43) C dX11_printErrors_35 (by decide) (fun h35 => ?_) (fun h35 => ?_)
      · skip
        refine zv_iconst (v := zI 1) C dX11_printErrors_43 rfl ?_
        refine zv_goto (tgt := 48) C dX11_printErrors_44 (by decide) ?_
        refine zv_iconst (v := zI 2) C dX11_printErrors_48 rfl ?_
        refine zv_cviD (st := []) C (c1_X11_fails hfl E (thW σ 0) 2) mX11_fails kX11_309 (by decide : kd 327 = 10) rfl rfl rfl ⟨rfl, rfl⟩ (show zfit (zrm 0 0) 3 (zrm 2 46) = true from rfl) (Nat.le_of_ble_eq_true rfl) dX11_printErrors_49 ⟨Nat.zero_le _, Nat.zero_le _⟩ ?_
        refine zv_if_eqZ (tgt := 57) C (by omega) dX11_printErrors_52 (by decide) (fun h52 => absurd h52 (by decide)) (fun h52 => ?_)
        refine zv_iconst (v := zI 0) C dX11_printErrors_55 rfl ?_
        exact zv_iret C hr rfl dX11_printErrors_56 ⟨rfl, mK_th2 _ _ _⟩
      · skip
        refine zv_iload_n C 3 dX11_printErrors_38 rfl rfl ?_
        refine zv_iload_n C 2 dX11_printErrors_39 rfl rfl ?_
        refine zv_icmp_geZ (tgt := 47) C (by omega) (by omega) dX11_printErrors_40 (by decide) (fun h40 => ?_) (fun h40 => ?_)
        · skip
          refine zv_iconst (v := zI 0) C dX11_printErrors_47 rfl ?_
          refine zv_iconst (v := zI 2) C dX11_printErrors_48 rfl ?_
          exfalso
          omega
        · skip
          refine zv_iconst (v := zI 1) C dX11_printErrors_43 rfl ?_
          refine zv_goto (tgt := 48) C dX11_printErrors_44 (by decide) ?_
          refine zv_iconst (v := zI 2) C dX11_printErrors_48 rfl ?_
          refine zv_cviD (st := []) C (c1_X11_fails hfl E (thW σ 0) 2) mX11_fails kX11_309 (by decide : kd 327 = 10) rfl rfl rfl ⟨rfl, rfl⟩ (show zfit (zrm 0 0) 3 (zrm 2 46) = true from rfl) (Nat.le_of_ble_eq_true rfl) dX11_printErrors_49 ⟨Nat.zero_le _, Nat.zero_le _⟩ ?_
          refine zv_if_eqZ (tgt := 57) C (by omega) dX11_printErrors_52 (by decide) (fun h52 => absurd h52 (by decide)) (fun h52 => ?_)
          refine zv_iconst (v := zI 0) C dX11_printErrors_55 rfl ?_
          exact zv_iret C hr rfl dX11_printErrors_56 ⟨rfl, mK_th2 _ _ _⟩
