def gQ := Nat × Nat × Nat × Nat
def gQB (q : gQ) : Prop := q.1 ≤ 100 ∧ (1 ≤ q.2.1 ∧ q.2.1 ≤ 100) ∧ q.2.2.1 ≤ 100 ∧ (1 ≤ q.2.2.2 ∧ q.2.2.2 ≤ 100)
def gRow (t1 b1 : Nat) (Q : Nat → Option gQ) : Nat → gB → gB
  | 0, g => g
  | j + 1, g => match Q j with
    | none => gRow t1 b1 Q j g
    | some q => gNew t1 b1 (gRow t1 b1 Q j g) q.1 q.2.1 q.2.2.1 q.2.2.2
theorem gRow_s {t1 b1 : Nat} {Q : Nat → Option gQ} {j : Nat} {g : gB} {q : gQ} (h : Q j = some q) : gRow t1 b1 Q (j + 1) g = gNew t1 b1 (gRow t1 b1 Q j g) q.1 q.2.1 q.2.2.1 q.2.2.2 := by
  simp only [gRow, h]
theorem gRow_z {t1 b1 : Nat} {Q : Nat → Option gQ} {j : Nat} {g : gB} (h : Q j = none) : gRow t1 b1 Q (j + 1) g = gRow t1 b1 Q j g := by
  simp only [gRow, h]
theorem gRow_0 {t1 b1 : Nat} {Q : Nat → Option gQ} {g : gB} : ∀ {j : Nat}, (∀ x, x < j → Q x = none) → gRow t1 b1 Q j g = g := by
  intro j
  induction j with
  | zero => intro _; rfl
  | succ j ih => intro h; rw [gRow_z (h j (by omega)), ih (fun x hx => h x (by omega))]
theorem gOk_row {t1 b1 : Nat} {Q : Nat → Option gQ} {g : gB} (ht1 : t1 < 2 ^ 48) (hb1 : b1 < 2 ^ 48) (hg : gOk g) : ∀ {j : Nat}, (∀ x q, x < j → Q x = some q → gQB q) → gOk (gRow t1 b1 Q j g) := by
  intro j
  induction j with
  | zero => intro _; exact hg
  | succ j ih =>
    intro h
    have h1 := ih (fun x q hx => h x q (by omega))
    cases hq : Q j with
    | none => rw [gRow_z hq]; exact h1
    | some q =>
      rw [gRow_s hq]
      obtain ⟨a1, a2, a3, a4⟩ := h j q (by omega) hq
      exact gOk_new ht1 hb1 h1 a1 a2 a3 a4
def gQp (f : Nat → Nat) (i j : Nat) : Option gQ := if i = j then none else some (f i, f j, 1, 1)
theorem gQp_e {f : Nat → Nat} {i j : Nat} (h : i = j) : gQp f i j = none := if_pos h
theorem gQp_n {f : Nat → Nat} {i j : Nat} (h : i ≠ j) : gQp f i j = some (f i, f j, 1, 1) := if_neg h
def gPair (t1 b1 : Nat) (f : Nat → Nat) (n : Nat) : Nat → gB
  | 0 => none
  | i + 1 => gRow t1 b1 (gQp f i) n (gPair t1 b1 f n i)
theorem gQp_B {f : Nat → Nat} {n i j : Nat} {q : gQ} (hf : ∀ i, i < n → 1 ≤ f i ∧ f i ≤ 100) (hi : i < n) (hj : j < n) (h : gQp f i j = some q) : gQB q := by
  unfold gQp at h
  split at h
  · cases h
  · cases h
    have h1 := hf i hi
    have h2 := hf j hj
    exact ⟨by show f i ≤ 100; omega, by show 1 ≤ f j ∧ f j ≤ 100; omega, by show 1 ≤ 100; omega, by show 1 ≤ 1 ∧ 1 ≤ 100; omega⟩
theorem gOk_pair {t1 b1 : Nat} {f : Nat → Nat} {n : Nat} (ht1 : t1 < 2 ^ 48) (hb1 : b1 < 2 ^ 48) (hf : ∀ i, i < n → 1 ≤ f i ∧ f i ≤ 100) : ∀ i, i ≤ n → gOk (gPair t1 b1 f n i) := by
  intro i
  induction i with
  | zero => intro _; exact trivial
  | succ i ih =>
    intro hi
    exact gOk_row ht1 hb1 (ih (by omega)) (fun x q hx hq => gQp_B hf (by omega) hx hq)
def gQt (f : Nat → Nat) (i j x y : Nat) : Option gQ := if x = y ∨ (x = i ∧ y < j) then none else some (f i, f j, f x, f y)
theorem gQt_e {f : Nat → Nat} {i j x y : Nat} (h : x = y ∨ (x = i ∧ y < j)) : gQt f i j x y = none := if_pos h
theorem gQt_n {f : Nat → Nat} {i j x y : Nat} (h : ¬ (x = y ∨ (x = i ∧ y < j))) : gQt f i j x y = some (f i, f j, f x, f y) := if_neg h
theorem gQt_B {f : Nat → Nat} {n i j x y : Nat} {q : gQ} (hf : ∀ i, i < n → 1 ≤ f i ∧ f i ≤ 100) (hi : i < n) (hj : j < n) (hx : x < n) (hy : y < n) (h : gQt f i j x y = some q) : gQB q := by
  unfold gQt at h
  split at h
  · cases h
  · cases h
    have h1 := hf i hi
    have h2 := hf j hj
    have h3 := hf x hx
    have h4 := hf y hy
    exact ⟨by show f i ≤ 100; omega, by show 1 ≤ f j ∧ f j ≤ 100; omega, by show f x ≤ 100; omega, by show 1 ≤ f y ∧ f y ≤ 100; omega⟩
/-- the second pairs, from (i, j) on -/
def gTr (t1 b1 : Nat) (f : Nat → Nat) (n i j : Nat) : Nat → gB → gB
  | 0, g => g
  | x + 1, g => if x < i then gTr t1 b1 f n i j x g else gRow t1 b1 (gQt f i j x) n (gTr t1 b1 f n i j x g)
theorem gTr_0 {t1 b1 : Nat} {f : Nat → Nat} {n i j : Nat} {g : gB} : ∀ {x : Nat}, x ≤ i → gTr t1 b1 f n i j x g = g := by
  intro x
  induction x with
  | zero => intro _; rfl
  | succ x ih => intro h; rw [gTr, if_pos (by omega), ih (by omega)]
theorem gOk_tr {t1 b1 : Nat} {f : Nat → Nat} {n i j : Nat} {g : gB} (ht1 : t1 < 2 ^ 48) (hb1 : b1 < 2 ^ 48) (hf : ∀ i, i < n → 1 ≤ f i ∧ f i ≤ 100) (hi : i < n) (hj : j < n) (hg : gOk g) : ∀ x, x ≤ n → gOk (gTr t1 b1 f n i j x g) := by
  intro x
  induction x with
  | zero => intro _; exact hg
  | succ x ih =>
    intro hx
    rw [gTr]
    split
    · exact ih (by omega)
    · exact gOk_row ht1 hb1 (ih (by omega)) (fun y q hy hq => gQt_B hf hi hj (by omega) hy hq)
def gTrow (t1 b1 : Nat) (f : Nat → Nat) (n i : Nat) : Nat → gB → gB
  | 0, g => g
  | j + 1, g => if i = j then gTrow t1 b1 f n i j g else gTr t1 b1 f n i j n (gTrow t1 b1 f n i j g)
def gTrain (t1 b1 : Nat) (f : Nat → Nat) (n : Nat) : Nat → gB
  | 0 => none
  | i + 1 => gTrow t1 b1 f n i n (gTrain t1 b1 f n i)
theorem gOk_trow {t1 b1 : Nat} {f : Nat → Nat} {n i : Nat} {g : gB} (ht1 : t1 < 2 ^ 48) (hb1 : b1 < 2 ^ 48) (hf : ∀ i, i < n → 1 ≤ f i ∧ f i ≤ 100) (hi : i < n) (hg : gOk g) : ∀ j, j ≤ n → gOk (gTrow t1 b1 f n i j g) := by
  intro j
  induction j with
  | zero => intro _; exact hg
  | succ j ih =>
    intro hj
    rw [gTrow]
    split
    · exact ih (by omega)
    · exact gOk_tr ht1 hb1 hf hi (by omega) (ih (by omega)) n (Nat.le_refl _)
theorem gOk_train {t1 b1 : Nat} {f : Nat → Nat} {n : Nat} (ht1 : t1 < 2 ^ 48) (hb1 : b1 < 2 ^ 48) (hf : ∀ i, i < n → 1 ≤ f i ∧ f i ≤ 100) : ∀ i, i ≤ n → gOk (gTrain t1 b1 f n i) := by
  intro i
  induction i with
  | zero => intro _; exact trivial
  | succ i ih => intro hi; exact gOk_trow ht1 hb1 hf (by omega) (ih (by omega)) n (Nat.le_refl _)
def gAim (σ : zS) (t b : Int) : zS := sI (sJ (sJ σ 318 1 (zL (t.natAbs : Int))) 318 2 (zL b)) 318 3 (zI 0)
set_option maxRecDepth 20000 in
theorem c_X0_aimAt {l : Launch} (hfl : l.stackTraces = false) (E : zE) (σ : zS) (k : Nat) (t b : Int) (hk : kd k = 3) (hk8 : k ≠ 318) (hR : zRt σ k t b) (ht : -9223372036854775808 < t ∧ t < 9223372036854775808) : zRv l E yX0_aimAt cX0_aimAt 2 (zrm 1 21) [.ref (ob E 318), .ref (ob E k)] σ (fun τ => τ = gAim σ t b) := by
  refine Met.ofW (cc := cX0_aimAt) (maxL := 2) (ret := none) (by decide +kernel) rfl ?_
  intro p e s m args below meth c s₁ B hml hv
  obtain ⟨rfl, hd⟩ := hv
  have C := zX_of (own := RX0) hfl B hml rfl hd rfl
  have hr := B.returns
  refine zV_go hd (Nat.le_of_ble_eq_true rfl) (lv := [(0, .ref (ob E 318)), (1, .ref (ob E k))]) rfl ?_
  refine zv_aload_n C 0 dX0_aimAt_0 rfl rfl ?_
  refine zv_aload_n C 1 dX0_aimAt_1 rfl rfl ?_
  refine zG3_0 C hk kX0_34 dX0_aimAt_2 ?_
  refine zv_eql (y := zL t) (hR.1) ?_
  refine zv_cslD (st := [.ref (ob E 318)]) C (c_J9_abs_067f4 hfl E σ (t) (by omega)) mJ9_abs_067f4 kX0_39 rfl ⟨rfl, rfl⟩ (show zfit (zrm 0 0) 2 (zrm 1 21) = true from rfl) (Nat.le_of_ble_eq_true rfl) dX0_aimAt_5 ⟨Nat.zero_le _, Nat.zero_le _⟩ ?_
  refine zP0_1 C (by decide : kd 318 = _) kX0_13 dX0_aimAt_8 ?_
  refine zv_aload_n C 0 dX0_aimAt_11 rfl rfl ?_
  refine zv_aload_n C 1 dX0_aimAt_12 rfl rfl ?_
  refine zG3_1 C hk kX0_45 dX0_aimAt_13 ?_
  refine zv_eql (y := (zL b)) (by rw [gJ_sJ, if_neg (by omega)]; exact hR.2) ?_
  refine zP0_2 C (by decide : kd 318 = _) kX0_17 dX0_aimAt_16 ?_
  refine zv_aload_n C 0 dX0_aimAt_19 rfl rfl ?_
  refine zv_iconst (v := zI 0) C dX0_aimAt_20 rfl ?_
  refine zP0_3 C (by decide : kd 318 = _) (Or.inl rfl) kX0_20 dX0_aimAt_21 ?_
  exact zv_vret C hr dX0_aimAt_24 rfl
theorem gAim_o (σ : zS) (t b : Int) (x j : Nat) (h : x ≠ 318) : gI (gAim σ t b) x j = gI σ x j := by
  simp only [gAim, gI_sI, gI_sJ]; rw [if_neg (by omega)]
theorem gAim_t (σ : zS) (t b : Int) : gJ (gAim σ t b) 318 1 = zL (t.natAbs : Int) ∧ gJ (gAim σ t b) 318 2 = zL b ∧ gI (gAim σ t b) 318 3 = zI 0 := by
  simp only [gAim, gI_sI, gI_sJ, gJ_sI, gJ_sJ]; grind
/-- what the searching loops need -/
def gH (σ : zS) (t1 b1 n : Nat) (f : Nat → Nat) : Prop := gJ σ 318 1 = zL (t1 : Int) ∧ gJ σ 318 2 = zL (b1 : Int) ∧ gI σ 318 3 = zI 0 ∧ t1 < 2 ^ 48 ∧ b1 < 2 ^ 48 ∧ zStk σ 34 n f ∧ ∀ i, i < n → 1 ≤ f i ∧ f i ≤ 100
theorem gH_n {σ : zS} {t1 b1 n : Nat} {f : Nat → Nat} (h : gH σ t1 b1 n f) (g : gB) : gI (gW σ g) 34 1 = zI (n : Int) := by
  rw [gI_gW _ _ _ _ ⟨by decide, by decide⟩]; exact h.2.2.2.2.2.1.1
theorem gH_f {σ : zS} {t1 b1 n : Nat} {f : Nat → Nat} (h : gH σ t1 b1 n f) (g : gB) (i : Nat) (hi : i < n) : gI (gW σ g) 35 i = zI (f i : Int) := by
  rw [gI_gW _ _ _ _ ⟨by decide, by decide⟩]; exact h.2.2.2.2.2.1.2.2.1 i hi
set_option maxRecDepth 20000 in
theorem c_X0_weighTrainsFrom {l : Launch} (hfl : l.stackTraces = false) (E : zE) (σ : zS) (t1 b1 n : Nat) (f : Nat → Nat) (i j : Nat) (g : gB) (hH : gH σ t1 b1 n f) (hi : i < n) (hj : j < n) (hg : gOk g) : zRv l E yX0_weighTrainsFrom cX0_weighTrainsFrom 6 (zrm 3 94) [.ref (ob E 318), .ref (ob E 34), .int (zI (i : Int)), .int (zI (j : Int))] (gW σ g) (fun τ => τ = gW σ (gTr t1 b1 f n i j n g)) := by
  refine Met.ofW (cc := cX0_weighTrainsFrom) (maxL := 6) (ret := none) (by decide +kernel) rfl ?_
  intro p e s m args below meth c s₁ B hml hv
  obtain ⟨rfl, hd⟩ := hv
  have C := zX_of (own := RX0) hfl B hml rfl hd rfl
  have hr := B.returns
  refine zV_go hd (Nat.le_of_ble_eq_true rfl) (lv := [(0, .ref (ob E 318)), (1, .ref (ob E 34)), (2, .int (zI (i : Int))), (3, .int (zI (j : Int)))]) rfl ?_
  obtain ⟨hT, hB, hf0, ht1, hb1, hS, hf⟩ := id hH
  have hn16 := hS.2.1
  have hfi := hf i hi
  have hfj := hf j hj
  refine zv_iload_n C 2 dX0_weighTrainsFrom_0 rfl rfl ?_
  refine zv_istore (lv' := [(4, .int (zI (i : Int))), (0, .ref (ob E 318)), (1, .ref (ob E 34)), (2, .int (zI (i : Int))), (3, .int (zI (j : Int)))]) C dX0_weighTrainsFrom_1  (by decide) rfl ?_
  refine zv_sub (lv' := [(0, .ref (ob E 318)), (1, .ref (ob E 34)), (2, .int (zI (i : Int))), (3, .int (zI (j : Int))), (4, .int (zI (i : Int)))]) [1, 2, 3, 4, 0] (zcons rfl (zcons rfl (zcons rfl (zcons rfl (zcons rfl rfl))))) ?_
  refine zv_eqS (τ := (gW σ (gTr t1 b1 f n i j i g))) (by rw [gTr_0 (Nat.le_refl _)]) ?_
  refine zv_while (α := Nat) (fun v => n - v) (fun v => i ≤ v ∧ v ≤ n) (fun v => (gW σ (gTr t1 b1 f n i j v g))) (fun v => [(0, .ref (ob E 318)), (1, .ref (ob E 34)), (2, .int (zI (i : Int))), (3, .int (zI (j : Int))), (4, .int (zI (v : Int)))]) (fun v => []) (fun x hI ih => ?_) (i) (by omega)
  obtain ⟨hI1, hI2⟩ := hI
  refine zv_iload C 4 dX0_weighTrainsFrom_3 rfl ?_
  refine zv_aload_n C 1 dX0_weighTrainsFrom_5 rfl rfl ?_
  refine zG6_1 C (by decide : kd 34 = _) kX0_52 dX0_weighTrainsFrom_6 ?_
  refine zv_eqi (y := zI (n : Int)) (gH_n hH _) ?_
  refine zv_icmp_geZ (tgt := 83) C (by omega) (by omega) dX0_weighTrainsFrom_9 (by decide) (fun h9 => ?_) (fun h9 => ?_)
  · skip
    exact zv_vret C hr dX0_weighTrainsFrom_83 (by rw [show x = n by omega])
  · skip
    refine zv_iload C 4 dX0_weighTrainsFrom_12 rfl ?_
    refine zv_iload_n C 2 dX0_weighTrainsFrom_14 rfl rfl ?_
    refine zv_icmp_neZ (tgt := 22) C (by omega) (by omega) dX0_weighTrainsFrom_15 (by decide) (fun h15 => ?_) (fun h15 => ?_)
    · skip
      refine zv_iconst (v := zI 0) C dX0_weighTrainsFrom_22 rfl ?_
      refine zv_istore (lv' := [(5, .int (zI 0)), (0, .ref (ob E 318)), (1, .ref (ob E 34)), (2, .int (zI (i : Int))), (3, .int (zI (j : Int))), (4, .int (zI (x : Int)))]) C dX0_weighTrainsFrom_23  (by decide) rfl ?_
      have q25_24 : (0 : Int) = (0 : Int) := by first | rfl | omega
      refine zv_sub (lv' := [(0, .ref (ob E 318)), (1, .ref (ob E 34)), (2, .int (zI (i : Int))), (3, .int (zI (j : Int))), (4, .int (zI (x : Int))), (5, .int (zI (0 : Int)))]) [1, 2, 3, 4, 5, 0] (zcons rfl (zcons rfl (zcons rfl (zcons rfl (zcons rfl (zcons (zqI q25_24) rfl)))))) ?_
      refine zv_eqS (τ := (gW σ (gRow t1 b1 (gQt f i j x) 0 (gTr t1 b1 f n i j x g)))) (by rw [gRow_0 (fun y hy => gQt_e (by omega))]) ?_
      refine zv_while (α := Nat) (fun v => n - v) (fun v => v ≤ n ∧ (x = i → j ≤ v)) (fun v => (gW σ (gRow t1 b1 (gQt f i j x) v (gTr t1 b1 f n i j x g)))) (fun v => [(0, .ref (ob E 318)), (1, .ref (ob E 34)), (2, .int (zI (i : Int))), (3, .int (zI (j : Int))), (4, .int (zI (x : Int))), (5, .int (zI (v : Int)))]) (fun v => []) (fun y hI ih25 => ?_) (0) (by omega)
      obtain ⟨hI, hIj⟩ := hI
      have hok := gOk_row (g := gTr t1 b1 f n i j x g) ht1 hb1 (gOk_tr ht1 hb1 hf hi hj hg x hI2) (j := y) (Q := gQt f i j x) (fun y q hy hq => gQt_B hf hi hj (by omega) (by omega) hq)
      refine zv_iload C 5 dX0_weighTrainsFrom_25 rfl ?_
      refine zv_aload_n C 1 dX0_weighTrainsFrom_27 rfl rfl ?_
      refine zG6_1 C (by decide : kd 34 = _) kX0_52 dX0_weighTrainsFrom_28 ?_
      refine zv_eqi (y := zI (n : Int)) (gH_n hH _) ?_
      refine zv_icmp_geZ (tgt := 77) C (by omega) (by omega) dX0_weighTrainsFrom_31 (by decide) (fun h31 => ?_) (fun h31 => ?_)
      · skip
        refine zv_iinc (v := (zI ((x : Int) + 1))) (lv' := [(4, .int (zI ((x : Int) + 1))), (0, .ref (ob E 318)), (1, .ref (ob E 34)), (2, .int (zI (i : Int))), (3, .int (zI (j : Int))), (5, .int (zI (y : Int)))]) C 4 dX0_weighTrainsFrom_77 rfl (zI_add _ _) (by decide) rfl ?_
        refine zv_goto (tgt := 3) C dX0_weighTrainsFrom_80 (by decide) ?_
        have q3_38 : ((x : Int) + 1 : Int) = ((x + 1 : Nat) : Int) := by first | rfl | omega
        refine zv_sub (lv' := [(0, .ref (ob E 318)), (1, .ref (ob E 34)), (2, .int (zI (i : Int))), (3, .int (zI (j : Int))), (4, .int (zI ((x + 1 : Nat) : Int)))]) [1, 2, 3, 4, 0] (zcons rfl (zcons rfl (zcons rfl (zcons rfl (zcons (zqI q3_38) rfl))))) ?_
        refine zv_eqS (τ := (gW σ (gTr t1 b1 f n i j (x + 1) g))) (by rw [gTr, if_neg (by omega), show y = n by omega]) ?_
        exact ih (x + 1) (by omega) (by omega)
      · skip
        refine zv_iload C 4 dX0_weighTrainsFrom_34 rfl ?_
        refine zv_iload C 5 dX0_weighTrainsFrom_36 rfl ?_
        refine zv_icmp_eqZ (tgt := 71) C (by omega) (by omega) dX0_weighTrainsFrom_38 (by decide) (fun h38 => ?_) (fun h38 => ?_)
        · skip
          refine zv_iinc (v := (zI ((y : Int) + 1))) (lv' := [(5, .int (zI ((y : Int) + 1))), (0, .ref (ob E 318)), (1, .ref (ob E 34)), (2, .int (zI (i : Int))), (3, .int (zI (j : Int))), (4, .int (zI (x : Int)))]) C 5 dX0_weighTrainsFrom_71 rfl (zI_add _ _) (by decide) rfl ?_
          refine zv_goto (tgt := 25) C dX0_weighTrainsFrom_74 (by decide) ?_
          have q25_49 : ((y : Int) + 1 : Int) = ((y + 1 : Nat) : Int) := by first | rfl | omega
          refine zv_sub (lv' := [(0, .ref (ob E 318)), (1, .ref (ob E 34)), (2, .int (zI (i : Int))), (3, .int (zI (j : Int))), (4, .int (zI (x : Int))), (5, .int (zI ((y + 1 : Nat) : Int)))]) [1, 2, 3, 4, 5, 0] (zcons rfl (zcons rfl (zcons rfl (zcons rfl (zcons rfl (zcons (zqI q25_49) rfl)))))) ?_
          refine zv_eqS (τ := (gW σ (gRow t1 b1 (gQt f i j x) (y + 1) (gTr t1 b1 f n i j x g)))) (by first | rw [gRow_z (gQt_e (by omega))] | rw [gRow_s (gQt_n (by omega))]) ?_
          exact ih25 (y + 1) (by omega) (by omega)
        · skip
          have hfx := hf x (by omega)
          have hfy := hf y (by omega)
          refine zv_aload_n C 0 dX0_weighTrainsFrom_41 rfl rfl ?_
          refine zv_aload_n C 1 dX0_weighTrainsFrom_42 rfl rfl ?_
          refine zG6_0 C (by decide : kd 34 = _) kX0_57 dX0_weighTrainsFrom_43 ?_
          refine zv_iload_n C 2 dX0_weighTrainsFrom_46 rfl rfl ?_
          refine zv_iald (j := i) C (by decide : kd 35 = _) (zI_ix rfl) (Nat.lt_of_lt_of_le (by omega) (by decide : 16 ≤ zlen 35)) dX0_weighTrainsFrom_47 ?_
          refine zv_eqi (y := (zI (f i : Int))) (gH_f hH _ _ (by omega)) ?_
          refine zv_aload_n C 1 dX0_weighTrainsFrom_48 rfl rfl ?_
          refine zG6_0 C (by decide : kd 34 = _) kX0_57 dX0_weighTrainsFrom_49 ?_
          refine zv_iload_n C 3 dX0_weighTrainsFrom_52 rfl rfl ?_
          refine zv_iald (j := j) C (by decide : kd 35 = _) (zI_ix rfl) (Nat.lt_of_lt_of_le (by omega) (by decide : 16 ≤ zlen 35)) dX0_weighTrainsFrom_53 ?_
          refine zv_eqi (y := (zI (f j : Int))) (gH_f hH _ _ (by omega)) ?_
          refine zv_aload_n C 1 dX0_weighTrainsFrom_54 rfl rfl ?_
          refine zG6_0 C (by decide : kd 34 = _) kX0_57 dX0_weighTrainsFrom_55 ?_
          refine zv_iload C 4 dX0_weighTrainsFrom_58 rfl ?_
          refine zv_iald (j := x) C (by decide : kd 35 = _) (zI_ix rfl) (Nat.lt_of_lt_of_le (by omega) (by decide : 16 ≤ zlen 35)) dX0_weighTrainsFrom_60 ?_
          refine zv_eqi (y := (zI (f x : Int))) (gH_f hH _ _ (by omega)) ?_
          refine zv_aload_n C 1 dX0_weighTrainsFrom_61 rfl rfl ?_
          refine zG6_0 C (by decide : kd 34 = _) kX0_57 dX0_weighTrainsFrom_62 ?_
          refine zv_iload C 5 dX0_weighTrainsFrom_65 rfl ?_
          refine zv_iald (j := y) C (by decide : kd 35 = _) (zI_ix rfl) (Nat.lt_of_lt_of_le (by omega) (by decide : 16 ≤ zlen 35)) dX0_weighTrainsFrom_67 ?_
          refine zv_eqi (y := (zI (f y : Int))) (gH_f hH _ _ (by omega)) ?_
          refine zv_cvvD (st := []) C (c_X0_weigh hfl E σ t1 b1 (f i) (f j) (f x) (f y) (gRow t1 b1 (gQt f i j x) y (gTr t1 b1 f n i j x g)) hT hB ht1 hb1 hf0 hok hfi.2 hfj hfx.2 hfy) mX0_weigh kX0_60 (by decide : kd 318 = 0) rfl rfl rfl ⟨rfl, rfl⟩ (show zfit (zrm 2 64) 11 (zrm 3 94) = true from rfl) (Nat.le_of_ble_eq_true rfl) dX0_weighTrainsFrom_68 ⟨Nat.zero_le _, Nat.zero_le _⟩ ?_
          refine zv_iinc (v := (zI ((y : Int) + 1))) (lv' := [(5, .int (zI ((y : Int) + 1))), (0, .ref (ob E 318)), (1, .ref (ob E 34)), (2, .int (zI (i : Int))), (3, .int (zI (j : Int))), (4, .int (zI (x : Int)))]) C 5 dX0_weighTrainsFrom_71 rfl (zI_add _ _) (by decide) rfl ?_
          refine zv_goto (tgt := 25) C dX0_weighTrainsFrom_74 (by decide) ?_
          have q25_80 : ((y : Int) + 1 : Int) = ((y + 1 : Nat) : Int) := by first | rfl | omega
          refine zv_sub (lv' := [(0, .ref (ob E 318)), (1, .ref (ob E 34)), (2, .int (zI (i : Int))), (3, .int (zI (j : Int))), (4, .int (zI (x : Int))), (5, .int (zI ((y + 1 : Nat) : Int)))]) [1, 2, 3, 4, 5, 0] (zcons rfl (zcons rfl (zcons rfl (zcons rfl (zcons rfl (zcons (zqI q25_80) rfl)))))) ?_
          refine zv_eqS (τ := (gW σ (gRow t1 b1 (gQt f i j x) (y + 1) (gTr t1 b1 f n i j x g)))) (by first | rw [gRow_z (gQt_e (by omega))] | rw [gRow_s (gQt_n (by omega))]) ?_
          exact ih25 (y + 1) (by omega) (by omega)
    · skip
      refine zv_iload_n C 3 dX0_weighTrainsFrom_18 rfl rfl ?_
      refine zv_goto (tgt := 23) C dX0_weighTrainsFrom_19 (by decide) ?_
      refine zv_istore (lv' := [(5, .int (zI (j : Int))), (0, .ref (ob E 318)), (1, .ref (ob E 34)), (2, .int (zI (i : Int))), (3, .int (zI (j : Int))), (4, .int (zI (x : Int)))]) C dX0_weighTrainsFrom_23  (by decide) rfl ?_
      refine zv_sub (lv' := [(0, .ref (ob E 318)), (1, .ref (ob E 34)), (2, .int (zI (i : Int))), (3, .int (zI (j : Int))), (4, .int (zI (x : Int))), (5, .int (zI (j : Int)))]) [1, 2, 3, 4, 5, 0] (zcons rfl (zcons rfl (zcons rfl (zcons rfl (zcons rfl (zcons rfl rfl)))))) ?_
      refine zv_eqS (τ := (gW σ (gRow t1 b1 (gQt f i j x) j (gTr t1 b1 f n i j x g)))) (by rw [gRow_0 (fun y hy => gQt_e (by omega))]) ?_
      refine zv_while (α := Nat) (fun v => n - v) (fun v => v ≤ n ∧ (x = i → j ≤ v)) (fun v => (gW σ (gRow t1 b1 (gQt f i j x) v (gTr t1 b1 f n i j x g)))) (fun v => [(0, .ref (ob E 318)), (1, .ref (ob E 34)), (2, .int (zI (i : Int))), (3, .int (zI (j : Int))), (4, .int (zI (x : Int))), (5, .int (zI (v : Int)))]) (fun v => []) (fun y hI ih25 => ?_) (j) (by omega)
      obtain ⟨hI, hIj⟩ := hI
      have hok := gOk_row (g := gTr t1 b1 f n i j x g) ht1 hb1 (gOk_tr ht1 hb1 hf hi hj hg x hI2) (j := y) (Q := gQt f i j x) (fun y q hy hq => gQt_B hf hi hj (by omega) (by omega) hq)
      refine zv_iload C 5 dX0_weighTrainsFrom_25 rfl ?_
      refine zv_aload_n C 1 dX0_weighTrainsFrom_27 rfl rfl ?_
      refine zG6_1 C (by decide : kd 34 = _) kX0_52 dX0_weighTrainsFrom_28 ?_
      refine zv_eqi (y := zI (n : Int)) (gH_n hH _) ?_
      refine zv_icmp_geZ (tgt := 77) C (by omega) (by omega) dX0_weighTrainsFrom_31 (by decide) (fun h31 => ?_) (fun h31 => ?_)
      · skip
        refine zv_iinc (v := (zI ((x : Int) + 1))) (lv' := [(4, .int (zI ((x : Int) + 1))), (0, .ref (ob E 318)), (1, .ref (ob E 34)), (2, .int (zI (i : Int))), (3, .int (zI (j : Int))), (5, .int (zI (y : Int)))]) C 4 dX0_weighTrainsFrom_77 rfl (zI_add _ _) (by decide) rfl ?_
        refine zv_goto (tgt := 3) C dX0_weighTrainsFrom_80 (by decide) ?_
        have q3_101 : ((x : Int) + 1 : Int) = ((x + 1 : Nat) : Int) := by first | rfl | omega
        refine zv_sub (lv' := [(0, .ref (ob E 318)), (1, .ref (ob E 34)), (2, .int (zI (i : Int))), (3, .int (zI (j : Int))), (4, .int (zI ((x + 1 : Nat) : Int)))]) [1, 2, 3, 4, 0] (zcons rfl (zcons rfl (zcons rfl (zcons rfl (zcons (zqI q3_101) rfl))))) ?_
        refine zv_eqS (τ := (gW σ (gTr t1 b1 f n i j (x + 1) g))) (by rw [gTr, if_neg (by omega), show y = n by omega]) ?_
        exact ih (x + 1) (by omega) (by omega)
      · skip
        refine zv_iload C 4 dX0_weighTrainsFrom_34 rfl ?_
        refine zv_iload C 5 dX0_weighTrainsFrom_36 rfl ?_
        refine zv_icmp_eqZ (tgt := 71) C (by omega) (by omega) dX0_weighTrainsFrom_38 (by decide) (fun h38 => ?_) (fun h38 => ?_)
        · skip
          refine zv_iinc (v := (zI ((y : Int) + 1))) (lv' := [(5, .int (zI ((y : Int) + 1))), (0, .ref (ob E 318)), (1, .ref (ob E 34)), (2, .int (zI (i : Int))), (3, .int (zI (j : Int))), (4, .int (zI (x : Int)))]) C 5 dX0_weighTrainsFrom_71 rfl (zI_add _ _) (by decide) rfl ?_
          refine zv_goto (tgt := 25) C dX0_weighTrainsFrom_74 (by decide) ?_
          have q25_112 : ((y : Int) + 1 : Int) = ((y + 1 : Nat) : Int) := by first | rfl | omega
          refine zv_sub (lv' := [(0, .ref (ob E 318)), (1, .ref (ob E 34)), (2, .int (zI (i : Int))), (3, .int (zI (j : Int))), (4, .int (zI (x : Int))), (5, .int (zI ((y + 1 : Nat) : Int)))]) [1, 2, 3, 4, 5, 0] (zcons rfl (zcons rfl (zcons rfl (zcons rfl (zcons rfl (zcons (zqI q25_112) rfl)))))) ?_
          refine zv_eqS (τ := (gW σ (gRow t1 b1 (gQt f i j x) (y + 1) (gTr t1 b1 f n i j x g)))) (by first | rw [gRow_z (gQt_e (by omega))] | rw [gRow_s (gQt_n (by omega))]) ?_
          exact ih25 (y + 1) (by omega) (by omega)
        · skip
          have hfx := hf x (by omega)
          have hfy := hf y (by omega)
          refine zv_aload_n C 0 dX0_weighTrainsFrom_41 rfl rfl ?_
          refine zv_aload_n C 1 dX0_weighTrainsFrom_42 rfl rfl ?_
          refine zG6_0 C (by decide : kd 34 = _) kX0_57 dX0_weighTrainsFrom_43 ?_
          refine zv_iload_n C 2 dX0_weighTrainsFrom_46 rfl rfl ?_
          refine zv_iald (j := i) C (by decide : kd 35 = _) (zI_ix rfl) (Nat.lt_of_lt_of_le (by omega) (by decide : 16 ≤ zlen 35)) dX0_weighTrainsFrom_47 ?_
          refine zv_eqi (y := (zI (f i : Int))) (gH_f hH _ _ (by omega)) ?_
          refine zv_aload_n C 1 dX0_weighTrainsFrom_48 rfl rfl ?_
          refine zG6_0 C (by decide : kd 34 = _) kX0_57 dX0_weighTrainsFrom_49 ?_
          refine zv_iload_n C 3 dX0_weighTrainsFrom_52 rfl rfl ?_
          refine zv_iald (j := j) C (by decide : kd 35 = _) (zI_ix rfl) (Nat.lt_of_lt_of_le (by omega) (by decide : 16 ≤ zlen 35)) dX0_weighTrainsFrom_53 ?_
          refine zv_eqi (y := (zI (f j : Int))) (gH_f hH _ _ (by omega)) ?_
          refine zv_aload_n C 1 dX0_weighTrainsFrom_54 rfl rfl ?_
          refine zG6_0 C (by decide : kd 34 = _) kX0_57 dX0_weighTrainsFrom_55 ?_
          refine zv_iload C 4 dX0_weighTrainsFrom_58 rfl ?_
          refine zv_iald (j := x) C (by decide : kd 35 = _) (zI_ix rfl) (Nat.lt_of_lt_of_le (by omega) (by decide : 16 ≤ zlen 35)) dX0_weighTrainsFrom_60 ?_
          refine zv_eqi (y := (zI (f x : Int))) (gH_f hH _ _ (by omega)) ?_
          refine zv_aload_n C 1 dX0_weighTrainsFrom_61 rfl rfl ?_
          refine zG6_0 C (by decide : kd 34 = _) kX0_57 dX0_weighTrainsFrom_62 ?_
          refine zv_iload C 5 dX0_weighTrainsFrom_65 rfl ?_
          refine zv_iald (j := y) C (by decide : kd 35 = _) (zI_ix rfl) (Nat.lt_of_lt_of_le (by omega) (by decide : 16 ≤ zlen 35)) dX0_weighTrainsFrom_67 ?_
          refine zv_eqi (y := (zI (f y : Int))) (gH_f hH _ _ (by omega)) ?_
          refine zv_cvvD (st := []) C (c_X0_weigh hfl E σ t1 b1 (f i) (f j) (f x) (f y) (gRow t1 b1 (gQt f i j x) y (gTr t1 b1 f n i j x g)) hT hB ht1 hb1 hf0 hok hfi.2 hfj hfx.2 hfy) mX0_weigh kX0_60 (by decide : kd 318 = 0) rfl rfl rfl ⟨rfl, rfl⟩ (show zfit (zrm 2 64) 11 (zrm 3 94) = true from rfl) (Nat.le_of_ble_eq_true rfl) dX0_weighTrainsFrom_68 ⟨Nat.zero_le _, Nat.zero_le _⟩ ?_
          refine zv_iinc (v := (zI ((y : Int) + 1))) (lv' := [(5, .int (zI ((y : Int) + 1))), (0, .ref (ob E 318)), (1, .ref (ob E 34)), (2, .int (zI (i : Int))), (3, .int (zI (j : Int))), (4, .int (zI (x : Int)))]) C 5 dX0_weighTrainsFrom_71 rfl (zI_add _ _) (by decide) rfl ?_
          refine zv_goto (tgt := 25) C dX0_weighTrainsFrom_74 (by decide) ?_
          have q25_143 : ((y : Int) + 1 : Int) = ((y + 1 : Nat) : Int) := by first | rfl | omega
          refine zv_sub (lv' := [(0, .ref (ob E 318)), (1, .ref (ob E 34)), (2, .int (zI (i : Int))), (3, .int (zI (j : Int))), (4, .int (zI (x : Int))), (5, .int (zI ((y + 1 : Nat) : Int)))]) [1, 2, 3, 4, 5, 0] (zcons rfl (zcons rfl (zcons rfl (zcons rfl (zcons rfl (zcons (zqI q25_143) rfl)))))) ?_
          refine zv_eqS (τ := (gW σ (gRow t1 b1 (gQt f i j x) (y + 1) (gTr t1 b1 f n i j x g)))) (by first | rw [gRow_z (gQt_e (by omega))] | rw [gRow_s (gQt_n (by omega))]) ?_
          exact ih25 (y + 1) (by omega) (by omega)
