/-! input appended, cut, in both -/
def bS (x : Int32) (j : Nat) : Int := (bB x j).toInt
theorem i8_and (y : Int32) : y &&& zI 255 = zI (y.toInt8.toInt32.toInt % 256) ∧ -128 ≤ y.toInt8.toInt32.toInt ∧ y.toInt8.toInt32.toInt ≤ 127 := by
  have h1 : y.toInt8.toInt32.toInt = y.toInt8.toInt := Int8.toInt_toInt32 _
  have h2 : y.toInt8.toInt = y.toInt.bmod (2 ^ 8) := Int32.toInt_toInt8 y
  have h3 : y.toInt.bmod (2 ^ 8) = if y.toInt % 256 < 128 then y.toInt % 256 else y.toInt % 256 - 256 := rfl
  have h4 : (y &&& zI 255).toInt = y.toInt % 256 := by
    have e : (y &&& zI 255).toBitVec.toNat = y.toBitVec.toNat % 256 := by
      rw [Int32.toBitVec_and, BitVec.toNat_and]
      exact Nat.and_two_pow_sub_one_eq_mod _ 8
    have hm : y.toBitVec.toNat % 256 < 256 := Nat.mod_lt _ (by decide)
    show (y &&& zI 255).toBitVec.toInt = y.toBitVec.toInt % 256
    rw [BitVec.toInt_eq_toNat_cond, BitVec.toInt_eq_toNat_cond, e, if_pos (by omega)]
    split <;> omega
  rw [h1, h2, h3]
  have h5 : (if y.toInt % 256 < 128 then y.toInt % 256 else y.toInt % 256 - 256) % 256 = y.toInt % 256 := by split <;> omega
  refine ⟨?_, ?_⟩
  · rw [h5]
    apply Int32.toInt_inj.mp
    rw [h4, zI_toInt (by omega)]
  · split <;> omega
theorem bB_e (x : Int32) (j : Nat) : bB x j = (x >>> ((zI (24 - 8 * (j : Int))) &&& 31)).toInt8.toInt32 := by
  show ((x >>> ((zI (24 - 8 * (j : Int))) &&& 31)).toInt8.toInt32).toInt8.toInt32 = _
  rw [Int8.toInt8_toInt32]
theorem bS_b (x : Int32) (j : Nat) : -128 ≤ bS x j ∧ bS x j ≤ 127 := by
  unfold bS
  rw [bB_e]
  exact (i8_and _).2
theorem bS_c (x : Int32) (j : Nat) : bB x j = zI (bS x j) := by
  apply Int32.toInt_inj.mp
  have := bS_b x j
  rw [zI_toInt (by omega)]
  rfl
theorem bS_r (x : Int32) (j : Nat) : (x >>> ((zI (24 - 8 * (j : Int))) &&& 31)) &&& zI 255 = zI (bS x j % 256) := by
  unfold bS
  rw [bB_e]
  exact (i8_and _).1
/-- a word behind the text -/
def apT (tx : Nat → Int) (n : Nat) (x : Int32) : Nat → Int := fun i => if n ≤ i then bS x (i - n) else tx i
def zDv.app (D : zDv) (x : Int32) : zDv := D.sT (D.ni + 4) (apT D.tx D.ni x)
theorem aB_i {σ : zS} {n : Nat} {x : Int32} : ∀ (j y i : Nat), (y ≠ 2 ∨ i ≠ 1) → gI (aB σ n x j) y i = if y = 3 ∧ n ≤ i ∧ i < n + j then bB x (i - n) else gI σ y i := by
  intro j
  induction j with
  | zero => intro y i _; rw [if_neg (by omega)]; rfl
  | succ j ih =>
    intro y i h
    show gI (sI (sI (aB σ n x j) 3 (n + j) (bB x j)) 2 1 (zI ((n + j + 1 : Nat) : Int))) y i = _
    rw [gI_sI, if_neg (by omega), gI_sI, ih y i h]
    by_cases q : y = 3 ∧ i = n + j
    · rw [if_pos q, if_pos (by omega), q.2, show n + j - n = j by omega]
    · rw [if_neg q]
      by_cases g : y = 3 ∧ n ≤ i ∧ i < n + j
      · rw [if_pos g, if_pos (by omega)]
      · rw [if_neg g, if_neg (by omega)]
theorem aB_2 {σ : zS} {n : Nat} {x : Int32} (j : Nat) : (aB σ n x j).2 = σ.2 := by
  induction j with
  | zero => rfl
  | succ j ih => exact ih
theorem zCP_ap {σ : zS} {D : zDv} (h : zCP σ D) (hn : D.ni + 4 ≤ 900) (x : Int32) : zCP (aB σ D.ni x 4) (D.app x) ∧ zFr 0 327 σ (aB σ D.ni x 4) := by
  obtain ⟨⟨t1, t2, t3, t4⟩, h2, h3, h4, h5, h6, h7⟩ := h
  have e : ∀ y i, y ≠ 2 → y ≠ 3 → gI (aB σ D.ni x 4) y i = gI σ y i := fun y i a b => by rw [aB_i _ _ _ (Or.inl a), if_neg (by omega)]
  have eJ : ∀ y i, gJ (aB σ D.ni x 4) y i = gJ σ y i := fun y i => by unfold gJ; rw [aB_2]
  refine ⟨⟨⟨aB_n t1 4, hn, fun i hi => ?_, fun i hi => ?_⟩, ⟨(e _ _ (by decide) (by decide)).trans h2.1, (e _ _ (by decide) (by decide)).trans h2.2⟩, zSUp_w h3 (fun y i a b => ⟨e y i (by omega) (by omega), eJ y i⟩), ⟨zSTp_w h4.1 (fun y i a b => e y i (by omega) (by omega)), h4.2⟩,
    zHi_w h5 (fun y i a b => e y i (by omega) (by omega)), zKq_w h6 (fun y i a b => e y i (by omega) (by omega)), zOu_w h7 (fun y i a b => e y i (by omega) (by omega))⟩, ⟨fun y i a => e y i (by omega) (by omega), fun y i a => eJ y i, fun y i => by unfold gD; rw [aB_2]⟩⟩
  · have hi2 : i < D.ni + 4 := hi
    rw [aB_i _ _ _ (Or.inl (by decide))]
    show _ = zI (if D.ni ≤ i then bS x (i - D.ni) else D.tx i)
    by_cases q : D.ni ≤ i
    · rw [if_pos (by omega), if_pos q]; exact bS_c _ _
    · rw [if_neg (by omega), if_neg q]; exact t3 i (by omega)
  · show -128 ≤ (if D.ni ≤ i then bS x (i - D.ni) else D.tx i) ∧ (if D.ni ≤ i then bS x (i - D.ni) else D.tx i) ≤ 127
    split
    · exact bS_b _ _
    · exact t4 i (by omega)
theorem zCP_cut {σ : zS} {D : zDv} (h : zCP σ D) {m : Nat} (hm : m ≤ D.ni) : zCP (sI σ 2 1 (zI (m : Int))) (D.sT m D.tx) ∧ zFr 0 327 σ (sI σ 2 1 (zI (m : Int))) := by
  obtain ⟨⟨t1, t2, t3, t4⟩, h2, h3, h4, h5, h6, h7⟩ := h
  have e : ∀ y i, ¬ (y = 2 ∧ i = 1) → gI (sI σ 2 1 (zI (m : Int))) y i = gI σ y i := fun y i a => by rw [gI_sI, if_neg a]
  exact ⟨⟨⟨by rw [gI_sI, if_pos ⟨rfl, rfl⟩]; rfl, by show m ≤ 900; omega, fun i hi => by have hi2 : i < m := hi; rw [e _ _ (by omega)]; exact t3 i (by omega), fun i hi => by have hi2 : i < m := hi; exact t4 i (by omega)⟩, ⟨(e _ _ (by omega)).trans h2.1, (e _ _ (by omega)).trans h2.2⟩, zSUp_w h3 (fun y i a b => ⟨e y i (by omega), rfl⟩), ⟨zSTp_w h4.1 (fun y i a b => e y i (by omega)), h4.2⟩,
    zHi_w h5 (fun y i a b => e y i (by omega)), zKq_w h6 (fun y i a b => e y i (by omega)), zOu_w h7 (fun y i a b => e y i (by omega))⟩, ⟨fun y i a => e y i (by omega), fun y i a => rfl, fun y i => rfl⟩⟩
def rY (σ : zS) (n : Nat) (x : Int32) : Nat → zS
  | 0 => σ
  | j + 1 => sI (sI (rY σ n x j) 336 (n + j) (zI (bS x j % 256))) 327 12 (zI ((n + j : Nat) + 1))
theorem rY_n {σ : zS} {n : Nat} {x : Int32} (h : gI σ 327 12 = zI (n : Int)) (j : Nat) : gI (rY σ n x j) 327 12 = zI ((n + j : Nat) : Int) := by
  cases j with
  | zero => exact h
  | succ j => simp only [rY]; rw [gI_sI, if_pos ⟨rfl, rfl⟩]; rfl
theorem rY_i {σ : zS} {n : Nat} {x : Int32} : ∀ (j y i : Nat), (y ≠ 327 ∨ i ≠ 12) → gI (rY σ n x j) y i = if y = 336 ∧ n ≤ i ∧ i < n + j then zI (bS x (i - n) % 256) else gI σ y i := by
  intro j
  induction j with
  | zero => intro y i _; rw [if_neg (by omega)]; rfl
  | succ j ih =>
    intro y i h
    show gI (sI (sI (rY σ n x j) 336 (n + j) (zI (bS x j % 256))) 327 12 (zI ((n + j : Nat) + 1))) y i = _
    rw [gI_sI, if_neg (by omega), gI_sI, ih y i h]
    by_cases q : y = 336 ∧ i = n + j
    · rw [if_pos q, if_pos (by omega), q.2, show n + j - n = j by omega]
    · rw [if_neg q]
      by_cases g : y = 336 ∧ n ≤ i ∧ i < n + j
      · rw [if_pos g, if_pos (by omega)]
      · rw [if_neg g, if_neg (by omega)]
theorem rY_2 {σ : zS} {n : Nat} {x : Int32} (j : Nat) : (rY σ n x j).2 = σ.2 := by
  induction j with
  | zero => rfl
  | succ j ih => exact ih
/-- input alone changes -/
theorem zMP_i {σ τ : zS} {D : zDv} {m : Nat} {tx' : Nat → Int} (h : zMP σ D) (hi9 : zMi τ m tx') (e : ∀ x j, x ≠ 336 → (x = 327 → j ≠ 12 ∧ j ≠ 10 ∧ j ≠ 24) → x ≠ 337 → gI τ x j = gI σ x j) : zMP τ (D.sT m tx') := by
  obtain ⟨h1, h2, h3, h4, h5, h6, h7, h8⟩ := h
  have eg : ∀ x, x ≠ 336 → x ≠ 327 → x ≠ 337 → gI τ x = gI σ x := fun x a b c => funext fun j => e x j a (fun z => absurd z b) c
  have e7 : ∀ j, j ≠ 12 → j ≠ 10 → j ≠ 24 → gI τ 327 j = gI σ 327 j := fun j a b c => e 327 j (by decide) (fun _ => ⟨a, b, c⟩) (by decide)
  refine ⟨hi9, ⟨(e7 13 (by decide) (by decide) (by decide)).trans h2.1, (e7 14 (by decide) (by decide) (by decide)).trans h2.2⟩, ?_, ?_, ⟨?_, h5.2⟩, ⟨(e7 8 (by decide) (by decide) (by decide)).trans h6.1, h6.2.1, fun k S' hS => ?_⟩, ⟨(e7 9 (by decide) (by decide) (by decide)).trans h7.1, fun S' hS => ?_⟩, ⟨(e7 29 (by decide) (by decide) (by decide)).trans h8.1, h8.2.1, fun i hi => ?_⟩⟩
  · rw [eg 328 (by decide) (by decide) (by decide)]; exact h3
  · rw [eg 330 (by decide) (by decide) (by decide)]; exact h4
  · rw [eg 332 (by decide) (by decide) (by decide)]; exact h5.1
  · rw [eg 335 (by decide) (by decide) (by decide)]; exact h6.2.2 k S' hS
  · rw [eg 334 (by decide) (by decide) (by decide)]; exact h7.2 S' hS
  · rw [eg 338 (by decide) (by decide) (by decide)]; exact h8.2.2 i hi
theorem zMP_ap {σ : zS} {D : zDv} (h : zMP σ D) (hn : D.ni + 4 ≤ 900) (x : Int32) : zMP (rY σ D.ni x 4) (D.app x) := by
  refine zMP_i h ⟨(rY_n h.1.1 4), hn, fun i hi => ?_⟩ (fun y i a b _ => by rw [rY_i _ _ _ (by rcases Nat.lt_or_ge 0 y with q | q <;> (first | (by_cases z : y = 327; exact Or.inr (b z).1; exact Or.inl z))), if_neg (by omega)])
  rw [rY_i _ _ _ (Or.inl (by decide))]
  show _ = zI ((if D.ni ≤ i then bS x (i - D.ni) else D.tx i) % 256)
  by_cases q : D.ni ≤ i
  · rw [if_pos (by omega), if_pos q]
  · rw [if_neg (by omega), if_neg q]; exact h.1.2.2 i (by omega)
theorem zFr_rB (σ : zS) (n : Nat) (x : Int32) : zFr 327 339 σ (rY σ n x 4) := ⟨fun y i a => by rw [rY_i _ _ _ (by omega), if_neg (by omega)], fun y i a => by unfold gJ; rw [rY_2], fun y i => by unfold gD; rw [rY_2]⟩
theorem app_n (D : zDv) (x : Int32) : (D.app x).ni = D.ni + 4 := rfl
set_option maxRecDepth 20000 in
theorem c_X11_appendWord {l : Launch} (hfl : l.stackTraces = false) (E : zE) (σ : zS) (n : Nat) (x : Int32) (hn : gI σ 327 12 = zI (n : Int)) (hn4 : n + 4 ≤ 900) : zRv l E yX11_appendWord cX11_appendWord 3 (zrm 0 0) [.ref (ob E 327), .int x] σ (fun τ => τ = rY σ n x 4) := by
  refine Met.ofW (cc := cX11_appendWord) (maxL := 3) (ret := none) (by decide +kernel) rfl ?_
  intro p e s m args below meth c s₁ B hml hv
  obtain ⟨rfl, hd⟩ := hv
  have C := zX_of (own := RX11) hfl B hml rfl hd rfl
  have hr := B.returns
  refine zV_go hd (Nat.le_of_ble_eq_true rfl) (lv := [(0, .ref (ob E 327)), (1, .int x)]) rfl ?_
  refine zv_bipush (v := zI 24) C dX11_appendWord_0 (by decide) ?_
  refine zv_istore_n (lv' := [(2, .int (zI 24)), (0, .ref (ob E 327)), (1, .int x)]) C dX11_appendWord_2 rfl (by decide) rfl ?_
  have q3_2 : (24 : Int) = 24 - 8 * (0 : Int) := by first | rfl | omega
  refine zv_sub (lv' := [(0, .ref (ob E 327)), (1, .int x), (2, .int (zI (24 - 8 * (0 : Int))))]) [1, 2, 0] (zcons rfl (zcons rfl (zcons (zqI q3_2) rfl))) ?_
  refine zv_eqS (τ := (rY σ n x 0)) (rfl) ?_
  refine zv_while (α := Nat) (fun v => 4 - v) (fun v => v ≤ 4) (fun v => (rY σ n x v)) (fun v => [(0, .ref (ob E 327)), (1, .int x), (2, .int (zI (24 - 8 * (v : Int))))]) (fun v => []) (fun j hI ih => ?_) (0) (by omega)
  refine zv_iload_n C 2 dX11_appendWord_3 rfl rfl ?_
  refine zv_if_ltZ (tgt := 39) C (by omega) dX11_appendWord_4 (by decide) (fun h4 => ?_) (fun h4 => ?_)
  · skip
    exact zv_vret C hr dX11_appendWord_39 (by rw [show j = 4 by omega])
  · skip
    refine zv_aload_n C 0 dX11_appendWord_7 rfl rfl ?_
    refine zG10_11 C (by decide : kd 327 = _) kX11_34 dX11_appendWord_8 ?_
    refine zv_aload_n C 0 dX11_appendWord_11 rfl rfl ?_
    refine zG10_12 C (by decide : kd 327 = _) kX11_64 dX11_appendWord_12 ?_
    refine zv_eqi (y := zI ((n + j : Nat) : Int)) (rY_n hn j) ?_
    refine zv_iload_n C 1 dX11_appendWord_15 rfl rfl ?_
    refine zv_iload_n C 2 dX11_appendWord_16 rfl rfl ?_
    refine zv_ishr C dX11_appendWord_17 ?_
    refine zv_sipush (v := zI 255) C dX11_appendWord_18 (by decide) ?_
    refine zv_iand C dX11_appendWord_21 ?_
    refine zv_eqi (y := (zI (bS x j % 256))) (bS_r x j) ?_
    refine zv_iast (j := n + j) C (by decide : kd 336 = _) (zI_ix rfl) (Nat.lt_of_lt_of_eq (show n + j < 900 by omega) (by decide)) dX11_appendWord_22 ?_
    refine zv_aload_n C 0 dX11_appendWord_23 rfl rfl ?_
    refine zv_dup C dX11_appendWord_24 rfl ?_
    refine zG10_12 C (by decide : kd 327 = _) kX11_64 dX11_appendWord_25 ?_
    refine zv_eqi (y := (zI ((n + j : Nat) : Int))) (by rw [gI_sI, if_neg (by omega)]; exact rY_n hn j) ?_
    refine zv_iconst (v := zI 1) C dX11_appendWord_28 rfl ?_
    refine zv_iaddZ C dX11_appendWord_29 ?_
    refine zP10_12 C (by decide : kd 327 = _) kX11_64 dX11_appendWord_30 ?_
    refine zv_iinc (v := (zI (24 - 8 * (j : Int) + (-8)))) (lv' := [(2, .int (zI (24 - 8 * (j : Int) + (-8)))), (0, .ref (ob E 327)), (1, .int x)]) C 2 dX11_appendWord_33 rfl (zI_add _ _) (by decide) rfl ?_
    refine zv_goto (tgt := 3) C dX11_appendWord_36 (by decide) ?_
    have q3_32 : (24 - 8 * (j : Int) + (-8) : Int) = 24 - 8 * ((j + 1 : Nat) : Int) := by omega
    refine zv_sub (lv' := [(0, .ref (ob E 327)), (1, .int x), (2, .int (zI (24 - 8 * ((j + 1 : Nat) : Int))))]) [1, 2, 0] (zcons rfl (zcons rfl (zcons (zqI q3_32) rfl))) ?_
    refine zv_eqS (τ := (rY σ n x (j + 1))) (rfl) ?_
    exact ih (j + 1) (by omega) (by omega)
set_option maxRecDepth 20000 in
theorem c_X11_appendInput {l : Launch} (hfl : l.stackTraces = false) (E : zE) (σ : zS) (σc : zS) (ni : Nat) (tx : Nat → Int) (ec : Nat) (eo : Int) (U : zSU) (S : zST) (hh : List zST) (kp : Option zST) (ou : List Nat) (x1 x2 x3 x4 x5 : Int32) (h : zMP σ (zDv.mk ni tx ec eo U S hh kp ou)) (hU : zSUp σc 29 U) (hS : zSTp σc 34 S) (hok : ni + 20 ≤ 900) : zRi l E yX11_appendInput cX11_appendInput 6 .int (zrm 1 22) [.ref (ob E 327), .int x1, .int x2, .int x3, .int x4, .int x5] σ (fun r τ => r = zI ((ni + 20 : Nat) : Int) ∧ mH σ τ ((((((zDv.mk ni tx ec eo U S hh kp ou).app x1).app x2).app x3).app x4).app x5)) := by
  refine Met.ofW (cc := cX11_appendInput) (maxL := 6) (ret := (some .int)) (by decide +kernel) rfl ?_
  intro p e s m args below meth c s₁ B hml hv
  obtain ⟨rfl, hd⟩ := hv
  have C := zX_of (own := RX11) hfl B hml rfl hd rfl
  have hr := B.returns
  refine zV_go hd (Nat.le_of_ble_eq_true rfl) (lv := [(0, .ref (ob E 327)), (1, .int x1), (2, .int x2), (3, .int x3), (4, .int x4), (5, .int x5)]) rfl ?_
  have g0 : zMP (thW σ 0) (zDv.mk ni tx ec eo U S hh kp ou) := zMP_q h (mK_th σ 0).1
  have hni : gI (thW σ 0) 327 12 = zI (ni : Int) := g0.1.1
  have hni9 : ni ≤ 900 := g0.1.2.1
  refine zv_aload_n C 0 dX11_appendInput_0 rfl rfl ?_
  refine zv_iconst (v := zI 0) C dX11_appendInput_1 rfl ?_
  refine zP10_10 C (by decide : kd 327 = _) kX11_50 dX11_appendInput_2 ?_
  refine zv_eqS (τ := (thW σ 0)) (rfl) ?_
  refine zv_aload_n C 0 dX11_appendInput_5 rfl rfl ?_
  refine zG10_12 C (by decide : kd 327 = _) kX11_64 dX11_appendInput_6 ?_
  refine zv_eqi (y := (zI (ni : Int))) (hni) ?_
  refine zv_bipush (v := zI 20) C dX11_appendInput_9 (by decide) ?_
  refine zv_iaddZ C dX11_appendInput_11 ?_
  refine zv_sipush (v := zI 900) C dX11_appendInput_12 (by decide) ?_
  refine zv_icmp_leZ (tgt := 20) C (by omega) (by omega) dX11_appendInput_15 (by decide) (fun h15 => ?_) (fun h15 => ?_)
  · skip
    have g1 : zMP (rY (thW σ 0) (ni + 0) x1 4) ((zDv.mk ni tx ec eo U S hh kp ou).app x1) := zMP_ap (D := (zDv.mk ni tx ec eo U S hh kp ou)) g0 (by show ni + 0 + 4 ≤ 900; omega) x1
    have g2 : zMP (rY (rY (thW σ 0) (ni + 0) x1 4) (ni + 4) x2 4) (((zDv.mk ni tx ec eo U S hh kp ou).app x1).app x2) := zMP_ap (D := ((zDv.mk ni tx ec eo U S hh kp ou).app x1)) g1 (by show ni + 4 + 4 ≤ 900; omega) x2
    have g3 : zMP (rY (rY (rY (thW σ 0) (ni + 0) x1 4) (ni + 4) x2 4) (ni + 8) x3 4) ((((zDv.mk ni tx ec eo U S hh kp ou).app x1).app x2).app x3) := zMP_ap (D := (((zDv.mk ni tx ec eo U S hh kp ou).app x1).app x2)) g2 (by show ni + 8 + 4 ≤ 900; omega) x3
    have g4 : zMP (rY (rY (rY (rY (thW σ 0) (ni + 0) x1 4) (ni + 4) x2 4) (ni + 8) x3 4) (ni + 12) x4 4) (((((zDv.mk ni tx ec eo U S hh kp ou).app x1).app x2).app x3).app x4) := zMP_ap (D := ((((zDv.mk ni tx ec eo U S hh kp ou).app x1).app x2).app x3)) g3 (by show ni + 12 + 4 ≤ 900; omega) x4
    have g5 : zMP (rY (rY (rY (rY (rY (thW σ 0) (ni + 0) x1 4) (ni + 4) x2 4) (ni + 8) x3 4) (ni + 12) x4 4) (ni + 16) x5 4) ((((((zDv.mk ni tx ec eo U S hh kp ou).app x1).app x2).app x3).app x4).app x5) := zMP_ap (D := (((((zDv.mk ni tx ec eo U S hh kp ou).app x1).app x2).app x3).app x4)) g4 (by show ni + 16 + 4 ≤ 900; omega) x5
    refine zv_aload_n C 0 dX11_appendInput_20 rfl rfl ?_
    refine zv_iload_n C 1 dX11_appendInput_21 rfl rfl ?_
    refine zv_cvvD (st := []) C (c_X11_appendWord hfl E (thW σ 0) (ni + 0) x1 g0.1.1 (by omega)) mX11_appendWord kX11_67 (by decide : kd 327 = 10) rfl rfl rfl ⟨rfl, rfl⟩ (show zfit (zrm 0 0) 3 (zrm 1 22) = true from rfl) (Nat.le_of_ble_eq_true rfl) dX11_appendInput_22 ⟨Nat.zero_le _, Nat.zero_le _⟩ ?_
    refine zv_aload_n C 0 dX11_appendInput_25 rfl rfl ?_
    refine zv_iload_n C 2 dX11_appendInput_26 rfl rfl ?_
    refine zv_cvvD (st := []) C (c_X11_appendWord hfl E (rY (thW σ 0) (ni + 0) x1 4) (ni + 4) x2 g1.1.1 (by omega)) mX11_appendWord kX11_67 (by decide : kd 327 = 10) rfl rfl rfl ⟨rfl, rfl⟩ (show zfit (zrm 0 0) 3 (zrm 1 22) = true from rfl) (Nat.le_of_ble_eq_true rfl) dX11_appendInput_27 ⟨Nat.zero_le _, Nat.zero_le _⟩ ?_
    refine zv_aload_n C 0 dX11_appendInput_30 rfl rfl ?_
    refine zv_iload_n C 3 dX11_appendInput_31 rfl rfl ?_
    refine zv_cvvD (st := []) C (c_X11_appendWord hfl E (rY (rY (thW σ 0) (ni + 0) x1 4) (ni + 4) x2 4) (ni + 8) x3 g2.1.1 (by omega)) mX11_appendWord kX11_67 (by decide : kd 327 = 10) rfl rfl rfl ⟨rfl, rfl⟩ (show zfit (zrm 0 0) 3 (zrm 1 22) = true from rfl) (Nat.le_of_ble_eq_true rfl) dX11_appendInput_32 ⟨Nat.zero_le _, Nat.zero_le _⟩ ?_
    refine zv_aload_n C 0 dX11_appendInput_35 rfl rfl ?_
    refine zv_iload C 4 dX11_appendInput_36 rfl ?_
    refine zv_cvvD (st := []) C (c_X11_appendWord hfl E (rY (rY (rY (thW σ 0) (ni + 0) x1 4) (ni + 4) x2 4) (ni + 8) x3 4) (ni + 12) x4 g3.1.1 (by omega)) mX11_appendWord kX11_67 (by decide : kd 327 = 10) rfl rfl rfl ⟨rfl, rfl⟩ (show zfit (zrm 0 0) 3 (zrm 1 22) = true from rfl) (Nat.le_of_ble_eq_true rfl) dX11_appendInput_38 ⟨Nat.zero_le _, Nat.zero_le _⟩ ?_
    refine zv_aload_n C 0 dX11_appendInput_41 rfl rfl ?_
    refine zv_iload C 5 dX11_appendInput_42 rfl ?_
    refine zv_cvvD (st := []) C (c_X11_appendWord hfl E (rY (rY (rY (rY (thW σ 0) (ni + 0) x1 4) (ni + 4) x2 4) (ni + 8) x3 4) (ni + 12) x4 4) (ni + 16) x5 g4.1.1 (by omega)) mX11_appendWord kX11_67 (by decide : kd 327 = 10) rfl rfl rfl ⟨rfl, rfl⟩ (show zfit (zrm 0 0) 3 (zrm 1 22) = true from rfl) (Nat.le_of_ble_eq_true rfl) dX11_appendInput_44 ⟨Nat.zero_le _, Nat.zero_le _⟩ ?_
    refine zv_aload_n C 0 dX11_appendInput_47 rfl rfl ?_
    refine zG10_12 C (by decide : kd 327 = _) kX11_64 dX11_appendInput_48 ?_
    refine zv_eqi (y := (zI ((ni + 20 : Nat) : Int))) (g5.1.1) ?_
    exact zv_iret C hr rfl dX11_appendInput_51 ⟨rfl, g5, by rw [rY_i _ _ _ (Or.inr (by decide)), if_neg (by omega), rY_i _ _ _ (Or.inr (by decide)), if_neg (by omega), rY_i _ _ _ (Or.inr (by decide)), if_neg (by omega), rY_i _ _ _ (Or.inr (by decide)), if_neg (by omega), rY_i _ _ _ (Or.inr (by decide)), if_neg (by omega)]; exact (mK_th σ 0).2, zFr_trans (zFr_trans (zFr_trans (zFr_trans (zFr_trans (zFr_th σ 0) (zFr_rB _ _ _)) (zFr_rB _ _ _)) (zFr_rB _ _ _)) (zFr_rB _ _ _)) (zFr_rB _ _ _)⟩
  · exfalso
    omega
set_option maxRecDepth 20000 in
theorem c0_X11_appendInput {l : Launch} (hfl : l.stackTraces = false) (E : zE) (σ : zS) (σc : zS) (ni : Nat) (tx : Nat → Int) (ec : Nat) (eo : Int) (U : zSU) (S : zST) (hh : List zST) (kp : Option zST) (ou : List Nat) (x1 x2 x3 x4 x5 : Int32) (h : zMP σ (zDv.mk ni tx ec eo U S hh kp ou)) (hU : zSUp σc 29 U) (hS : zSTp σc 34 S) (hno : ¬ ni + 20 ≤ 900) : zRi l E yX11_appendInput cX11_appendInput 6 .int (zrm 0 0) [.ref (ob E 327), .int x1, .int x2, .int x3, .int x4, .int x5] σ (fun r τ => r = zI (-1) ∧ mK σ τ 0) := by
  refine Met.ofW (cc := cX11_appendInput) (maxL := 6) (ret := (some .int)) (by decide +kernel) rfl ?_
  intro p e s m args below meth c s₁ B hml hv
  obtain ⟨rfl, hd⟩ := hv
  have C := zX_of (own := RX11) hfl B hml rfl hd rfl
  have hr := B.returns
  refine zV_go hd (Nat.le_of_ble_eq_true rfl) (lv := [(0, .ref (ob E 327)), (1, .int x1), (2, .int x2), (3, .int x3), (4, .int x4), (5, .int x5)]) rfl ?_
  have g0 : zMP (thW σ 0) (zDv.mk ni tx ec eo U S hh kp ou) := zMP_q h (mK_th σ 0).1
  have hni : gI (thW σ 0) 327 12 = zI (ni : Int) := g0.1.1
  have hni9 : ni ≤ 900 := g0.1.2.1
  refine zv_aload_n C 0 dX11_appendInput_0 rfl rfl ?_
  refine zv_iconst (v := zI 0) C dX11_appendInput_1 rfl ?_
  refine zP10_10 C (by decide : kd 327 = _) kX11_50 dX11_appendInput_2 ?_
  refine zv_eqS (τ := (thW σ 0)) (rfl) ?_
  refine zv_aload_n C 0 dX11_appendInput_5 rfl rfl ?_
  refine zG10_12 C (by decide : kd 327 = _) kX11_64 dX11_appendInput_6 ?_
  refine zv_eqi (y := (zI (ni : Int))) (hni) ?_
  refine zv_bipush (v := zI 20) C dX11_appendInput_9 (by decide) ?_
  refine zv_iaddZ C dX11_appendInput_11 ?_
  refine zv_sipush (v := zI 900) C dX11_appendInput_12 (by decide) ?_
  refine zv_icmp_leZ (tgt := 20) C (by omega) (by omega) dX11_appendInput_15 (by decide) (fun h15 => ?_) (fun h15 => ?_)
  · exfalso
    omega
  · skip
    refine zv_iconst (v := zI (-1)) C dX11_appendInput_18 rfl ?_
    exact zv_iret C hr rfl dX11_appendInput_19 ⟨rfl, mK_th _ _⟩
set_option maxRecDepth 20000 in
theorem c_X11_truncateInput {l : Launch} (hfl : l.stackTraces = false) (E : zE) (σ : zS) (σc : zS) (ni : Nat) (tx : Nat → Int) (ec : Nat) (eo : Int) (U : zSU) (S : zST) (hh : List zST) (kp : Option zST) (ou : List Nat) (k : Nat) (h : zMP σ (zDv.mk ni tx ec eo U S hh kp ou)) (hU : zSUp σc 29 U) (hS : zSTp σc 34 S) (hm : k ≤ ni) : zRi l E yX11_truncateInput cX11_truncateInput 2 .boolean (zrm 1 25) [.ref (ob E 327), .int (zI (k : Int))] σ (fun r τ => r = zI 1 ∧ mH σ τ ((zDv.mk ni tx ec eo U S hh kp ou).sT k tx)) := by
  refine Met.ofW (cc := cX11_truncateInput) (maxL := 2) (ret := (some .boolean)) (by decide +kernel) rfl ?_
  intro p e s m args below meth c s₁ B hml hv
  obtain ⟨rfl, hd⟩ := hv
  have C := zX_of (own := RX11) hfl B hml rfl hd rfl
  have hr := B.returns
  refine zV_go hd (Nat.le_of_ble_eq_true rfl) (lv := [(0, .ref (ob E 327)), (1, .int (zI (k : Int)))]) rfl ?_
  have g0 : zMP (thW σ 0) (zDv.mk ni tx ec eo U S hh kp ou) := zMP_q h (mK_th σ 0).1
  have hni : gI (thW σ 0) 327 12 = zI (ni : Int) := g0.1.1
  have hni9 : ni ≤ 900 := g0.1.2.1
  refine zv_aload_n C 0 dX11_truncateInput_0 rfl rfl ?_
  refine zv_iconst (v := zI 0) C dX11_truncateInput_1 rfl ?_
  refine zP10_10 C (by decide : kd 327 = _) kX11_50 dX11_truncateInput_2 ?_
  refine zv_eqS (τ := (thW σ 0)) (rfl) ?_
  refine zv_iload_n C 1 dX11_truncateInput_5 rfl rfl ?_
  refine zv_i2lZ C (by omega) dX11_truncateInput_6 ?_
  refine zv_lconst (v := zL 0) C dX11_truncateInput_7 (by decide) ?_
  refine zv_aload_n C 0 dX11_truncateInput_8 rfl rfl ?_
  refine zG10_12 C (by decide : kd 327 = _) kX11_64 dX11_truncateInput_9 ?_
  refine zv_eqi (y := (zI (ni : Int))) (hni) ?_
  refine zv_i2lZ C (by omega) dX11_truncateInput_12 ?_
  refine zv_csiD (st := []) C (c_X11_inRange hfl E (thW σ 0) ((k : Int)) (0) ((ni : Int)) (by omega) (by omega) (by omega)) mX11_inRange kX11_71 rfl ⟨rfl, rfl⟩ (show zfit (zrm 0 0) 6 (zrm 1 25) = true from rfl) (Nat.le_of_ble_eq_true rfl) dX11_truncateInput_13 ⟨Nat.zero_le _, Nat.zero_le _⟩ ?_
  refine zv_if_neB (tgt := 21) C dX11_truncateInput_16 (by decide) (fun h16 => ?_) (fun h16 => ?_)
  · skip
    refine zv_aload_n C 0 dX11_truncateInput_21 rfl rfl ?_
    refine zv_iload_n C 1 dX11_truncateInput_22 rfl rfl ?_
    refine zP10_12 C (by decide : kd 327 = _) kX11_64 dX11_truncateInput_23 ?_
    refine zv_iconst (v := zI 1) C dX11_truncateInput_26 rfl ?_
    exact zv_iret C hr rfl dX11_truncateInput_27 ⟨rfl, zMP_i g0 ⟨by rw [gI_sI, if_pos ⟨rfl, rfl⟩], by omega, fun i hi => by rw [gI_sI, if_neg (by omega)]; exact g0.1.2.2 i (by show i < ni; omega)⟩ (fun x j a b c => by rw [gI_sI, if_neg (fun z => (b z.1).1 z.2)]), by rw [gI_sI, if_neg (by omega)]; exact (mK_th σ 0).2, zFr_I (zFr_th σ 0) (by decide)⟩
  · exfalso
    omega
set_option maxRecDepth 20000 in
theorem c0_X11_truncateInput {l : Launch} (hfl : l.stackTraces = false) (E : zE) (σ : zS) (σc : zS) (ni : Nat) (tx : Nat → Int) (ec : Nat) (eo : Int) (U : zSU) (S : zST) (hh : List zST) (kp : Option zST) (ou : List Nat) (y : Int) (h : zMP σ (zDv.mk ni tx ec eo U S hh kp ou)) (hU : zSUp σc 29 U) (hS : zSTp σc 34 S) (hy : -2147483648 ≤ y ∧ y < 2147483648) (hno : ¬ (0 ≤ y ∧ y ≤ ni)) : zRi l E yX11_truncateInput cX11_truncateInput 2 .boolean (zrm 1 25) [.ref (ob E 327), .int (zI y)] σ (fun r τ => r = zI 0 ∧ mK σ τ 0) := by
  refine Met.ofW (cc := cX11_truncateInput) (maxL := 2) (ret := (some .boolean)) (by decide +kernel) rfl ?_
  intro p e s m args below meth c s₁ B hml hv
  obtain ⟨rfl, hd⟩ := hv
  have C := zX_of (own := RX11) hfl B hml rfl hd rfl
  have hr := B.returns
  refine zV_go hd (Nat.le_of_ble_eq_true rfl) (lv := [(0, .ref (ob E 327)), (1, .int (zI y))]) rfl ?_
  have g0 : zMP (thW σ 0) (zDv.mk ni tx ec eo U S hh kp ou) := zMP_q h (mK_th σ 0).1
  have hni : gI (thW σ 0) 327 12 = zI (ni : Int) := g0.1.1
  have hni9 : ni ≤ 900 := g0.1.2.1
  refine zv_aload_n C 0 dX11_truncateInput_0 rfl rfl ?_
  refine zv_iconst (v := zI 0) C dX11_truncateInput_1 rfl ?_
  refine zP10_10 C (by decide : kd 327 = _) kX11_50 dX11_truncateInput_2 ?_
  refine zv_eqS (τ := (thW σ 0)) (rfl) ?_
  refine zv_iload_n C 1 dX11_truncateInput_5 rfl rfl ?_
  refine zv_i2lZ C (by omega) dX11_truncateInput_6 ?_
  refine zv_lconst (v := zL 0) C dX11_truncateInput_7 (by decide) ?_
  refine zv_aload_n C 0 dX11_truncateInput_8 rfl rfl ?_
  refine zG10_12 C (by decide : kd 327 = _) kX11_64 dX11_truncateInput_9 ?_
  refine zv_eqi (y := (zI (ni : Int))) (hni) ?_
  refine zv_i2lZ C (by omega) dX11_truncateInput_12 ?_
  refine zv_csiD (st := []) C (c_X11_inRange hfl E (thW σ 0) (y) (0) ((ni : Int)) (by omega) (by omega) (by omega)) mX11_inRange kX11_71 rfl ⟨rfl, rfl⟩ (show zfit (zrm 0 0) 6 (zrm 1 25) = true from rfl) (Nat.le_of_ble_eq_true rfl) dX11_truncateInput_13 ⟨Nat.zero_le _, Nat.zero_le _⟩ ?_
  refine zv_if_neB (tgt := 21) C dX11_truncateInput_16 (by decide) (fun h16 => ?_) (fun h16 => ?_)
  · exfalso
    omega
  · skip
    refine zv_iconst (v := zI 0) C dX11_truncateInput_19 rfl ?_
    exact zv_iret C hr rfl dX11_truncateInput_20 ⟨rfl, mK_th _ _⟩
