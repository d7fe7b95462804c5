/-! with two numbers in the stock there is a best -/
theorem gPair_n {t1 b1 : Nat} {f : Nat → Nat} {n : Nat} (h : 2 ≤ n) : ∀ i, 1 ≤ i → gPair t1 b1 f n i ≠ none := by
  intro i
  induction i with
  | zero => intro q; omega
  | succ i ih =>
    intro _
    show gRow t1 b1 (gQp f i) n (gPair t1 b1 f n i) ≠ none
    rcases Nat.eq_zero_or_pos i with q | q
    · subst q; exact gRow_m (gQp_n (f := f) (i := 0) (j := 1) (by decide)) n (by omega)
    · exact gRow_n (ih q) n
theorem gTr_n {t1 b1 : Nat} {f : Nat → Nat} {n i j : Nat} {g : gB} (h : g ≠ none) : ∀ x, gTr t1 b1 f n i j x g ≠ none := by
  intro x
  induction x with
  | zero => exact h
  | succ x ih =>
    simp only [gTr]
    split
    · exact ih
    · exact gRow_n ih n
theorem gTr_m {t1 b1 : Nat} {f : Nat → Nat} {n : Nat} {g : gB} (h : 2 ≤ n) : ∀ x, 1 ≤ x → gTr t1 b1 f n 0 1 x g ≠ none := by
  intro x
  induction x with
  | zero => intro q; omega
  | succ x ih =>
    intro _
    simp only [gTr]
    rw [if_neg (by omega)]
    rcases Nat.eq_zero_or_pos x with q | q
    · subst q; exact gRow_m (gQt_n (f := f) (i := 0) (j := 1) (x := 0) (y := 1) (by omega)) n (by omega)
    · exact gRow_n (ih q) n
theorem gTrow_n {t1 b1 : Nat} {f : Nat → Nat} {n i : Nat} {g : gB} (h : g ≠ none) : ∀ j, gTrow t1 b1 f n i j g ≠ none := by
  intro j
  induction j with
  | zero => exact h
  | succ j ih =>
    simp only [gTrow]
    split
    · exact ih
    · exact gTr_n ih n
theorem gTrow_m {t1 b1 : Nat} {f : Nat → Nat} {n : Nat} {g : gB} (h : 2 ≤ n) : ∀ j, 2 ≤ j → gTrow t1 b1 f n 0 j g ≠ none := by
  intro j
  induction j with
  | zero => intro q; omega
  | succ j ih =>
    intro hj
    simp only [gTrow]
    rw [if_neg (by omega)]
    rcases Nat.lt_or_ge j 2 with q | q
    · rw [show j = 1 by omega]; exact gTr_m h n (by omega)
    · exact gTr_n (ih q) n
theorem gTrain_n {t1 b1 : Nat} {f : Nat → Nat} {n : Nat} (h : 2 ≤ n) : ∀ i, 1 ≤ i → gTrain t1 b1 f n i ≠ none := by
  intro i
  induction i with
  | zero => intro q; omega
  | succ i ih =>
    intro _
    show gTrow t1 b1 f n i n (gTrain t1 b1 f n i) ≠ none
    rcases Nat.eq_zero_or_pos i with q | q
    · subst q; exact gTrow_m h n h
    · exact gTrow_n (ih q) n
/-! the wheels of a best are numbers of the stock -/
def gIn : gB → Prop
  | none => True
  | some (_, _, _, a, b, a2, b2) => (8 ≤ a ∧ a ≤ 100) ∧ (8 ≤ b ∧ b ≤ 100) ∧ (8 ≤ a2 ∧ a2 ≤ 100) ∧ (8 ≤ b2 ∧ b2 ≤ 100)
theorem gIn_new {t1 b1 a b a2 b2 : Nat} {g : gB} (hg : gIn g) (h : (8 ≤ a ∧ a ≤ 100) ∧ (8 ≤ b ∧ b ≤ 100) ∧ (8 ≤ a2 ∧ a2 ≤ 100) ∧ (8 ≤ b2 ∧ b2 ≤ 100)) : gIn (gNew t1 b1 g a b a2 b2) := by
  unfold gNew
  split
  · exact h
  · exact hg
theorem gIn_row {t1 b1 : Nat} {Q : Nat → Option gQ} {g : gB} (hg : gIn g) : ∀ j, (∀ x q, x < j → Q x = some q → (8 ≤ q.1 ∧ q.1 ≤ 100) ∧ (8 ≤ q.2.1 ∧ q.2.1 ≤ 100) ∧ (8 ≤ q.2.2.1 ∧ q.2.2.1 ≤ 100) ∧ (8 ≤ q.2.2.2 ∧ q.2.2.2 ≤ 100)) → gIn (gRow t1 b1 Q j g) := by
  intro j
  induction j with
  | zero => intro _; exact hg
  | succ j ih =>
    intro h
    have h1 := ih (fun x q hx hq => h x q (by omega) hq)
    cases hq : Q j with
    | none => rw [gRow_z hq]; exact h1
    | some q => rw [gRow_s hq]; exact gIn_new h1 (h j q (by omega) hq)
theorem gQt_in {f : Nat → Nat} {n i j x y : Nat} {q : gQ} (hf : ∀ i, i < n → 8 ≤ f i ∧ f i ≤ 100) (hi : i < n) (hj : j < n) (hx : x < n) (hy : y < n) (h : gQt f i j x y = some q) : (8 ≤ q.1 ∧ q.1 ≤ 100) ∧ (8 ≤ q.2.1 ∧ q.2.1 ≤ 100) ∧ (8 ≤ q.2.2.1 ∧ q.2.2.1 ≤ 100) ∧ (8 ≤ q.2.2.2 ∧ q.2.2.2 ≤ 100) := by
  unfold gQt at h
  split at h
  · cases h
  · have e := (Option.some.inj h).symm
    subst e
    exact ⟨hf i hi, hf j hj, hf x hx, hf y hy⟩
theorem gIn_tr {t1 b1 : Nat} {f : Nat → Nat} {n i j : Nat} {g : gB} (hf : ∀ i, i < n → 8 ≤ f i ∧ f i ≤ 100) (hi : i < n) (hj : j < n) (hg : gIn g) : ∀ x, x ≤ n → gIn (gTr t1 b1 f n i j x g) := by
  intro x
  induction x with
  | zero => intro _; exact hg
  | succ x ih =>
    intro hx
    simp only [gTr]
    split
    · exact ih (by omega)
    · exact gIn_row (ih (by omega)) n (fun y q hy hq => gQt_in hf hi hj (by omega) hy hq)
theorem gIn_trow {t1 b1 : Nat} {f : Nat → Nat} {n i : Nat} {g : gB} (hf : ∀ i, i < n → 8 ≤ f i ∧ f i ≤ 100) (hi : i < n) (hg : gIn g) : ∀ j, j ≤ n → gIn (gTrow t1 b1 f n i j g) := by
  intro j
  induction j with
  | zero => intro _; exact hg
  | succ j ih =>
    intro hj
    simp only [gTrow]
    split
    · exact ih (by omega)
    · exact gIn_tr hf hi (by omega) (ih (by omega)) n (Nat.le_refl _)
theorem gIn_train {t1 b1 : Nat} {f : Nat → Nat} {n : Nat} (hf : ∀ i, i < n → 8 ≤ f i ∧ f i ≤ 100) : ∀ i, i ≤ n → gIn (gTrain t1 b1 f n i) := by
  intro i
  induction i with
  | zero => intro _; exact trivial
  | succ i ih => intro hi; exact gIn_trow hf (by omega) (ih (by omega)) n (Nat.le_refl _)
def gBP (U : zSU) (S : zST) (i : Nat) : gB := gPair (qTrue U i).1.natAbs (qTrue U i).2.toNat S.f S.n S.n
def gBT (U : zSU) (S : zST) (i : Nat) : gB := gTrain (qTrue U i).1.natAbs (qTrue U i).2.toNat S.f S.n S.n
def bW (σ : zS) (U : zSU) (i : Nat) (g : gB) : zS := gW (gAim (rW σ 320 (qTrue U i).1 (qTrue U i).2) (qTrue U i).1 (qTrue U i).2) g
def dBp (U : zSU) (S : zST) (i w : Nat) : Int := if S.n < 2 then -1 else gWh (gBP U S i) w
def dBt (U : zSU) (S : zST) (i w : Nat) : Int := if S.n < 2 then -1 else gWh (gBT U S i) w
set_option maxRecDepth 20000 in
theorem c_X10_bestPair {l : Launch} (hfl : l.stackTraces = false) (E : zE) (σ : zS) (U : zSU) (S : zST) (i : Nat) (w : Nat) (hU : zSUp σ 29 U) (hS : zSTp σ 34 S) (hi : i < U.nb) (hw : w < 2) : zRi l E yX10_bestPair cX10_bestPair 3 .int (zrm 4 118) [.ref (ob E 0), .int (zI (i : Int)), .int (zI (w : Int))] σ (fun r τ => r = zI (dBp U S i w) ∧ τ = if S.n < 2 then σ else bW σ U i (gBP U S i)) := by
  refine Met.ofW (cc := cX10_bestPair) (maxL := 3) (ret := (some .int)) (by decide +kernel) rfl ?_
  intro p e s m args below meth c s₁ B hml hv
  obtain ⟨rfl, hd⟩ := hv
  have C := zX_of (own := RX10) hfl B hml rfl hd rfl
  have hr := B.returns
  refine zV_go hd (Nat.le_of_ble_eq_true rfl) (lv := [(0, .ref (ob E 0)), (1, .int (zI (i : Int))), (2, .int (zI (w : Int)))]) rfl ?_
  have hnb : U.nb ≤ 8 := hU.2.2.1
  have hs0 := hU.2.2.2.1
  have hqt := qTrue_b hU hi
  have hb1 : (((qTrue U i).2.toNat : Nat) : Int) = (qTrue U i).2 := by omega
  have hf1 : ∀ i, i < S.n → 1 ≤ S.f i ∧ S.f i ≤ 100 := fun j hj => ⟨by have := hS.2.1 j hj; omega, hS.1.2.2.2 j hj⟩
  have hn16 := hS.1.2.1
  refine zv_aload_n C 0 dX10_bestPair_0 rfl rfl ?_
  refine zv_iload_n C 1 dX10_bestPair_1 rfl rfl ?_
  refine zv_cvvD (st := []) C (c_X10_needBody hfl E σ U (i : Int) hU (by omega) (by omega)) mX10_needBody kX10_140 (by decide : kd 0 = 9) rfl rfl rfl ⟨rfl, rfl⟩ (show zfit (zrm 0 0) 2 (zrm 4 118) = true from rfl) (Nat.le_of_ble_eq_true rfl) dX10_bestPair_2 ⟨Nat.zero_le _, Nat.zero_le _⟩ ?_
  refine zv_iload_n C 2 dX10_bestPair_5 rfl rfl ?_
  refine zv_iconst (v := zI 0) C dX10_bestPair_6 rfl ?_
  refine zv_iconst (v := zI 1) C dX10_bestPair_7 rfl ?_
  refine zv_csvD (st := []) C (c_X10_needWithin hfl E σ (w : Int) 0 1 (by omega) (by omega) (by omega) (by omega)) mX10_needWithin kX10_117 rfl ⟨rfl, rfl⟩ (show zfit (zrm 0 0) 3 (zrm 4 118) = true from rfl) (Nat.le_of_ble_eq_true rfl) dX10_bestPair_8 ⟨Nat.zero_le _, Nat.zero_le _⟩ ?_
  refine zv_aload_n C 0 dX10_bestPair_11 rfl rfl ?_
  refine zG9_2 C (by decide : kd 0 = _) kX10_26 dX10_bestPair_12 ?_
  refine zG6_1 C (by decide : kd 34 = _) kX10_121 dX10_bestPair_15 ?_
  refine zv_eqi (y := zI (S.n : Int)) (hS.1.1) ?_
  refine zv_iconst (v := zI 2) C dX10_bestPair_18 rfl ?_
  refine zv_icmp_geZ (tgt := 24) C (by omega) (by omega) dX10_bestPair_19 (by decide) (fun h19 => ?_) (fun h19 => ?_)
  · skip
    refine zv_aload_n C 0 dX10_bestPair_24 rfl rfl ?_
    refine zG9_5 C (by decide : kd 0 = _) kX10_47 dX10_bestPair_25 ?_
    refine zv_aload_n C 0 dX10_bestPair_28 rfl rfl ?_
    refine zG9_2 C (by decide : kd 0 = _) kX10_26 dX10_bestPair_29 ?_
    refine zv_aload_n C 0 dX10_bestPair_32 rfl rfl ?_
    refine zv_iload_n C 1 dX10_bestPair_33 rfl rfl ?_
    refine zv_aload_n C 0 dX10_bestPair_34 rfl rfl ?_
    refine zG9_6 C (by decide : kd 0 = _) kX10_54 dX10_bestPair_35 ?_
    refine zv_cvrD (st := [.ref (ob E 34), .ref (ob E 318)]) C (c_X10_trueOwnOf hfl E σ U i 320 hU hi (by decide) (by decide)) mX10_trueOwnOf kX10_257 (by decide : kd 0 = 9) rfl rfl rfl ⟨rfl, rfl⟩ (show zfit (zrm 3 80) 4 (zrm 4 118) = true from rfl) (Nat.le_of_ble_eq_true rfl) dX10_bestPair_38 ⟨Nat.zero_le _, Nat.zero_le _⟩ ?_
    refine zv_cvvD (st := []) C (c_X0_findPair hfl E (rW σ 320 (qTrue U i).1 (qTrue U i).2) 320 (qTrue U i).1 (qTrue U i).2.toNat S.n S.f (by decide) (by decide) (by rw [hb1]; exact rW_R _ _ _ _) (by omega) (by omega) (zSTp_rW hS).1 hf1) mX0_findPair kX10_260 (by decide : kd 318 = 0) rfl rfl rfl ⟨rfl, rfl⟩ (show zfit (zrm 3 94) 5 (zrm 4 118) = true from rfl) (Nat.le_of_ble_eq_true rfl) dX10_bestPair_41 ⟨Nat.zero_le _, Nat.zero_le _⟩ ?_
    refine zv_eqS (τ := bW σ U i (gBP U S i)) (by rw [hb1]; rfl) ?_
    refine zv_aload_n C 0 dX10_bestPair_44 rfl rfl ?_
    refine zG9_5 C (by decide : kd 0 = _) kX10_47 dX10_bestPair_45 ?_
    refine zG0_0 C (by decide : kd 318 = _) kX10_264 dX10_bestPair_48 ?_
    refine zv_iload_n C 2 dX10_bestPair_51 rfl rfl ?_
    refine zv_iald (j := w) C (by decide : kd 319 = _) (zI_ix rfl) (Nat.lt_of_lt_of_eq (show w < 4 by omega) (by decide)) dX10_bestPair_52 ?_
    refine zv_eqi (y := (zI (gWh (gBP U S i) w))) (gWh_s (gPair_n (by omega) S.n (by omega)) _ (by omega)) ?_
    exact zv_iret C hr rfl dX10_bestPair_53 ⟨by rw [dBp, if_neg (by omega)], by rw [if_neg (by omega)]⟩
  · skip
    refine zv_iconst (v := zI (-1)) C dX10_bestPair_22 rfl ?_
    exact zv_iret C hr rfl dX10_bestPair_23 ⟨by rw [dBp, if_pos (by omega)], by rw [if_pos (by omega)]⟩
set_option maxRecDepth 20000 in
theorem x1_X10_bestPair {l : Launch} (hfl : l.stackTraces = false) (E : zE) (σ : zS) (U : zSU) (b : Int) (y : Int) (hU : zSUp σ 29 U) (hbi : -2147483648 ≤ b ∧ b < 2147483648) (hno : ¬ (0 ≤ b ∧ b < U.nb)) : zRx l E yX10_bestPair cX10_bestPair 3 (some .int) (zrx 9 200) [.ref (ob E 0), .int (zI b), .int (zI y)] σ "java/lang/IndexOutOfBoundsException" := by
  refine vx_ofW (cc := cX10_bestPair) (maxL := 3) (ret := (some .int)) (by decide) rfl ?_
  intro p e s m args below meth c s₁ B hml hout hv
  obtain ⟨rfl, hd⟩ := hv
  have C := zX_of (own := RX10) hfl B hml rfl hd rfl
  have hr := B.returns
  refine zV_go hd (Nat.le_of_ble_eq_true rfl) (lv := [(0, .ref (ob E 0)), (1, .int (zI b)), (2, .int (zI y))]) rfl ?_
  have hnb : U.nb ≤ 8 := hU.2.2.1
  have hs0 := hU.2.2.2.1
  
  refine zv_aload_n C 0 dX10_bestPair_0 rfl rfl ?_
  refine zv_iload_n C 1 dX10_bestPair_1 rfl rfl ?_
  exact zv_xcv (st := []) C (x_X10_needBody hfl E σ U b hU hbi hno) hout mX10_needBody kX10_140 (by decide : kd 0 = 9) rfl rfl rfl ⟨rfl, rfl⟩ (show zfit (zrx 6 100) 2 (zrx 9 200) = true from rfl) (Nat.le_of_ble_eq_true rfl) dX10_bestPair_2
set_option maxRecDepth 20000 in
theorem x2_X10_bestPair {l : Launch} (hfl : l.stackTraces = false) (E : zE) (σ : zS) (U : zSU) (S : zST) (i : Nat) (y : Int) (hU : zSUp σ 29 U) (hi : i < U.nb) (hyi : -2147483648 ≤ y ∧ y < 2147483648) (hno : ¬ (0 ≤ y ∧ y ≤ 1)) : zRx l E yX10_bestPair cX10_bestPair 3 (some .int) (zrx 9 200) [.ref (ob E 0), .int (zI (i : Int)), .int (zI y)] σ "java/lang/IllegalArgumentException" := by
  refine vx_ofW (cc := cX10_bestPair) (maxL := 3) (ret := (some .int)) (by decide) rfl ?_
  intro p e s m args below meth c s₁ B hml hout hv
  obtain ⟨rfl, hd⟩ := hv
  have C := zX_of (own := RX10) hfl B hml rfl hd rfl
  have hr := B.returns
  refine zV_go hd (Nat.le_of_ble_eq_true rfl) (lv := [(0, .ref (ob E 0)), (1, .int (zI (i : Int))), (2, .int (zI y))]) rfl ?_
  have hnb : U.nb ≤ 8 := hU.2.2.1
  have hs0 := hU.2.2.2.1
  
  refine zv_aload_n C 0 dX10_bestPair_0 rfl rfl ?_
  refine zv_iload_n C 1 dX10_bestPair_1 rfl rfl ?_
  refine zv_cvvD (st := []) C (c_X10_needBody hfl E σ U (i : Int) hU (by omega) (by omega)) mX10_needBody kX10_140 (by decide : kd 0 = 9) rfl rfl rfl ⟨rfl, rfl⟩ (show zfit (zrm 0 0) 2 (zrx 9 200) = true from rfl) (Nat.le_of_ble_eq_true rfl) dX10_bestPair_2 ⟨Nat.zero_le _, Nat.zero_le _⟩ ?_
  refine zv_iload_n C 2 dX10_bestPair_5 rfl rfl ?_
  refine zv_iconst (v := zI 0) C dX10_bestPair_6 rfl ?_
  refine zv_iconst (v := zI 1) C dX10_bestPair_7 rfl ?_
  exact zv_xcs (st := []) C (x_X10_needWithin hfl E σ y 0 1 hyi (by omega) (by omega) hno) hout mX10_needWithin kX10_117 rfl ⟨rfl, rfl⟩ (show zfit (zrx 6 100) 3 (zrx 9 200) = true from rfl) (Nat.le_of_ble_eq_true rfl) dX10_bestPair_8
set_option maxRecDepth 20000 in
theorem c_X10_bestTrain {l : Launch} (hfl : l.stackTraces = false) (E : zE) (σ : zS) (U : zSU) (S : zST) (i : Nat) (w : Nat) (hU : zSUp σ 29 U) (hS : zSTp σ 34 S) (hi : i < U.nb) (hw : w < 4) : zRi l E yX10_bestTrain cX10_bestTrain 3 .int (zrm 5 143) [.ref (ob E 0), .int (zI (i : Int)), .int (zI (w : Int))] σ (fun r τ => r = zI (dBt U S i w) ∧ τ = if S.n < 2 then σ else bW σ U i (gBT U S i)) := by
  refine Met.ofW (cc := cX10_bestTrain) (maxL := 3) (ret := (some .int)) (by decide +kernel) rfl ?_
  intro p e s m args below meth c s₁ B hml hv
  obtain ⟨rfl, hd⟩ := hv
  have C := zX_of (own := RX10) hfl B hml rfl hd rfl
  have hr := B.returns
  refine zV_go hd (Nat.le_of_ble_eq_true rfl) (lv := [(0, .ref (ob E 0)), (1, .int (zI (i : Int))), (2, .int (zI (w : Int)))]) rfl ?_
  have hnb : U.nb ≤ 8 := hU.2.2.1
  have hs0 := hU.2.2.2.1
  have hqt := qTrue_b hU hi
  have hb1 : (((qTrue U i).2.toNat : Nat) : Int) = (qTrue U i).2 := by omega
  have hf1 : ∀ i, i < S.n → 1 ≤ S.f i ∧ S.f i ≤ 100 := fun j hj => ⟨by have := hS.2.1 j hj; omega, hS.1.2.2.2 j hj⟩
  have hn16 := hS.1.2.1
  refine zv_aload_n C 0 dX10_bestTrain_0 rfl rfl ?_
  refine zv_iload_n C 1 dX10_bestTrain_1 rfl rfl ?_
  refine zv_cvvD (st := []) C (c_X10_needBody hfl E σ U (i : Int) hU (by omega) (by omega)) mX10_needBody kX10_140 (by decide : kd 0 = 9) rfl rfl rfl ⟨rfl, rfl⟩ (show zfit (zrm 0 0) 2 (zrm 5 143) = true from rfl) (Nat.le_of_ble_eq_true rfl) dX10_bestTrain_2 ⟨Nat.zero_le _, Nat.zero_le _⟩ ?_
  refine zv_iload_n C 2 dX10_bestTrain_5 rfl rfl ?_
  refine zv_iconst (v := zI 0) C dX10_bestTrain_6 rfl ?_
  refine zv_iconst (v := zI 3) C dX10_bestTrain_7 rfl ?_
  refine zv_csvD (st := []) C (c_X10_needWithin hfl E σ (w : Int) 0 3 (by omega) (by omega) (by omega) (by omega)) mX10_needWithin kX10_117 rfl ⟨rfl, rfl⟩ (show zfit (zrm 0 0) 3 (zrm 5 143) = true from rfl) (Nat.le_of_ble_eq_true rfl) dX10_bestTrain_8 ⟨Nat.zero_le _, Nat.zero_le _⟩ ?_
  refine zv_aload_n C 0 dX10_bestTrain_11 rfl rfl ?_
  refine zG9_2 C (by decide : kd 0 = _) kX10_26 dX10_bestTrain_12 ?_
  refine zG6_1 C (by decide : kd 34 = _) kX10_121 dX10_bestTrain_15 ?_
  refine zv_eqi (y := zI (S.n : Int)) (hS.1.1) ?_
  refine zv_iconst (v := zI 2) C dX10_bestTrain_18 rfl ?_
  refine zv_icmp_geZ (tgt := 24) C (by omega) (by omega) dX10_bestTrain_19 (by decide) (fun h19 => ?_) (fun h19 => ?_)
  · skip
    refine zv_aload_n C 0 dX10_bestTrain_24 rfl rfl ?_
    refine zG9_5 C (by decide : kd 0 = _) kX10_47 dX10_bestTrain_25 ?_
    refine zv_aload_n C 0 dX10_bestTrain_28 rfl rfl ?_
    refine zG9_2 C (by decide : kd 0 = _) kX10_26 dX10_bestTrain_29 ?_
    refine zv_aload_n C 0 dX10_bestTrain_32 rfl rfl ?_
    refine zv_iload_n C 1 dX10_bestTrain_33 rfl rfl ?_
    refine zv_aload_n C 0 dX10_bestTrain_34 rfl rfl ?_
    refine zG9_6 C (by decide : kd 0 = _) kX10_54 dX10_bestTrain_35 ?_
    refine zv_cvrD (st := [.ref (ob E 34), .ref (ob E 318)]) C (c_X10_trueOwnOf hfl E σ U i 320 hU hi (by decide) (by decide)) mX10_trueOwnOf kX10_257 (by decide : kd 0 = 9) rfl rfl rfl ⟨rfl, rfl⟩ (show zfit (zrm 3 80) 4 (zrm 5 143) = true from rfl) (Nat.le_of_ble_eq_true rfl) dX10_bestTrain_38 ⟨Nat.zero_le _, Nat.zero_le _⟩ ?_
    refine zv_cvvD (st := []) C (c_X0_findTrain hfl E (rW σ 320 (qTrue U i).1 (qTrue U i).2) 320 (qTrue U i).1 (qTrue U i).2.toNat S.n S.f (by decide) (by decide) (by rw [hb1]; exact rW_R _ _ _ _) (by omega) (by omega) (zSTp_rW hS).1 hf1) mX0_findTrain kX10_267 (by decide : kd 318 = 0) rfl rfl rfl ⟨rfl, rfl⟩ (show zfit (zrm 4 119) 5 (zrm 5 143) = true from rfl) (Nat.le_of_ble_eq_true rfl) dX10_bestTrain_41 ⟨Nat.zero_le _, Nat.zero_le _⟩ ?_
    refine zv_eqS (τ := bW σ U i (gBT U S i)) (by rw [hb1]; rfl) ?_
    refine zv_aload_n C 0 dX10_bestTrain_44 rfl rfl ?_
    refine zG9_5 C (by decide : kd 0 = _) kX10_47 dX10_bestTrain_45 ?_
    refine zG0_0 C (by decide : kd 318 = _) kX10_264 dX10_bestTrain_48 ?_
    refine zv_iload_n C 2 dX10_bestTrain_51 rfl rfl ?_
    refine zv_iald (j := w) C (by decide : kd 319 = _) (zI_ix rfl) (Nat.lt_of_lt_of_eq (show w < 4 by omega) (by decide)) dX10_bestTrain_52 ?_
    refine zv_eqi (y := (zI (gWh (gBT U S i) w))) (gWh_s (gTrain_n (by omega) S.n (by omega)) _ (by omega)) ?_
    exact zv_iret C hr rfl dX10_bestTrain_53 ⟨by rw [dBt, if_neg (by omega)], by rw [if_neg (by omega)]⟩
  · skip
    refine zv_iconst (v := zI (-1)) C dX10_bestTrain_22 rfl ?_
    exact zv_iret C hr rfl dX10_bestTrain_23 ⟨by rw [dBt, if_pos (by omega)], by rw [if_pos (by omega)]⟩
set_option maxRecDepth 20000 in
theorem x1_X10_bestTrain {l : Launch} (hfl : l.stackTraces = false) (E : zE) (σ : zS) (U : zSU) (b : Int) (y : Int) (hU : zSUp σ 29 U) (hbi : -2147483648 ≤ b ∧ b < 2147483648) (hno : ¬ (0 ≤ b ∧ b < U.nb)) : zRx l E yX10_bestTrain cX10_bestTrain 3 (some .int) (zrx 9 200) [.ref (ob E 0), .int (zI b), .int (zI y)] σ "java/lang/IndexOutOfBoundsException" := by
  refine vx_ofW (cc := cX10_bestTrain) (maxL := 3) (ret := (some .int)) (by decide) rfl ?_
  intro p e s m args below meth c s₁ B hml hout hv
  obtain ⟨rfl, hd⟩ := hv
  have C := zX_of (own := RX10) hfl B hml rfl hd rfl
  have hr := B.returns
  refine zV_go hd (Nat.le_of_ble_eq_true rfl) (lv := [(0, .ref (ob E 0)), (1, .int (zI b)), (2, .int (zI y))]) rfl ?_
  have hnb : U.nb ≤ 8 := hU.2.2.1
  have hs0 := hU.2.2.2.1
  
  refine zv_aload_n C 0 dX10_bestTrain_0 rfl rfl ?_
  refine zv_iload_n C 1 dX10_bestTrain_1 rfl rfl ?_
  exact zv_xcv (st := []) C (x_X10_needBody hfl E σ U b hU hbi hno) hout mX10_needBody kX10_140 (by decide : kd 0 = 9) rfl rfl rfl ⟨rfl, rfl⟩ (show zfit (zrx 6 100) 2 (zrx 9 200) = true from rfl) (Nat.le_of_ble_eq_true rfl) dX10_bestTrain_2
set_option maxRecDepth 20000 in
theorem x2_X10_bestTrain {l : Launch} (hfl : l.stackTraces = false) (E : zE) (σ : zS) (U : zSU) (S : zST) (i : Nat) (y : Int) (hU : zSUp σ 29 U) (hi : i < U.nb) (hyi : -2147483648 ≤ y ∧ y < 2147483648) (hno : ¬ (0 ≤ y ∧ y ≤ 3)) : zRx l E yX10_bestTrain cX10_bestTrain 3 (some .int) (zrx 9 200) [.ref (ob E 0), .int (zI (i : Int)), .int (zI y)] σ "java/lang/IllegalArgumentException" := by
  refine vx_ofW (cc := cX10_bestTrain) (maxL := 3) (ret := (some .int)) (by decide) rfl ?_
  intro p e s m args below meth c s₁ B hml hout hv
  obtain ⟨rfl, hd⟩ := hv
  have C := zX_of (own := RX10) hfl B hml rfl hd rfl
  have hr := B.returns
  refine zV_go hd (Nat.le_of_ble_eq_true rfl) (lv := [(0, .ref (ob E 0)), (1, .int (zI (i : Int))), (2, .int (zI y))]) rfl ?_
  have hnb : U.nb ≤ 8 := hU.2.2.1
  have hs0 := hU.2.2.2.1
  
  refine zv_aload_n C 0 dX10_bestTrain_0 rfl rfl ?_
  refine zv_iload_n C 1 dX10_bestTrain_1 rfl rfl ?_
  refine zv_cvvD (st := []) C (c_X10_needBody hfl E σ U (i : Int) hU (by omega) (by omega)) mX10_needBody kX10_140 (by decide : kd 0 = 9) rfl rfl rfl ⟨rfl, rfl⟩ (show zfit (zrm 0 0) 2 (zrx 9 200) = true from rfl) (Nat.le_of_ble_eq_true rfl) dX10_bestTrain_2 ⟨Nat.zero_le _, Nat.zero_le _⟩ ?_
  refine zv_iload_n C 2 dX10_bestTrain_5 rfl rfl ?_
  refine zv_iconst (v := zI 0) C dX10_bestTrain_6 rfl ?_
  refine zv_iconst (v := zI 3) C dX10_bestTrain_7 rfl ?_
  exact zv_xcs (st := []) C (x_X10_needWithin hfl E σ y 0 3 hyi (by omega) (by omega) hno) hout mX10_needWithin kX10_117 rfl ⟨rfl, rfl⟩ (show zfit (zrx 6 100) 3 (zrx 9 200) = true from rfl) (Nat.le_of_ble_eq_true rfl) dX10_bestTrain_8
