/-! fractions in lowest terms, made in two ways -/
theorem rG_g {g : Nat} {z w : Int} (hg : 1 ≤ g) (hw : 1 ≤ w) : rG ((g : Int) * z) ((g : Int) * w) = g * rG z w := by
  have h1 : 0 < Nat.gcd z.natAbs w.natAbs := Nat.gcd_pos_of_pos_right _ (by omega)
  unfold rG
  rw [Int.natAbs_mul, Int.natAbs_mul, Int.natAbs_natCast, Nat.gcd_mul_left]
  have h2 : 1 * 1 ≤ g * Nat.gcd z.natAbs w.natAbs := Nat.mul_le_mul hg h1
  rw [Nat.max_eq_right (by omega), Nat.max_eq_right h1]
theorem rT_g {g : Nat} {z w : Int} (hg : 1 ≤ g) (hw : 1 ≤ w) : rT ((g : Int) * z) ((g : Int) * w) = rT z w ∧ rB ((g : Int) * z) ((g : Int) * w) = rB z w := by
  unfold rT rB
  rw [rG_g hg hw, Int.natCast_mul, Int.mul_tdiv_mul_of_pos _ _ (by omega), Int.mul_ediv_mul_of_pos _ _ (by omega)]
  exact ⟨rfl, rfl⟩
theorem rB_e {z w : Int} (hw : 1 ≤ w) : rB z w = w / (rG z w : Int) := by
  have h1 := rG_le (z := z) hw
  have h2 := rG_pos z w
  have h3 : 1 ≤ w / (rG z w : Int) := Int.le_ediv_of_mul_le (by omega) (by omega)
  unfold rB
  omega
theorem rG_gcd {z w : Int} (hw : 1 ≤ w) : rG z w = Nat.gcd z.natAbs w.natAbs := by
  have h1 : 0 < Nat.gcd z.natAbs w.natAbs := Nat.gcd_pos_of_pos_right _ (by omega)
  unfold rG
  omega
/-- a fraction is its lowest terms, times what was taken out -/
theorem rT_e {z w : Int} (hw : 1 ≤ w) : z = (rG z w : Int) * rT z w ∧ w = (rG z w : Int) * rB z w := by
  have hg := rG_gcd (z := z) hw
  have h1 : (rG z w : Int) ∣ z := by rw [hg]; exact Int.ofNat_dvd_left.mpr (Nat.gcd_dvd_left _ _)
  have h2 : (rG z w : Int) ∣ w := by rw [hg]; exact Int.ofNat_dvd_left.mpr (Nat.gcd_dvd_right _ _)
  rw [rB_e hw]
  unfold rT
  exact ⟨(Int.mul_tdiv_cancel' h1).symm, (Int.mul_ediv_cancel' h2).symm⟩
theorem rT_neg (z w : Int) : rT (-z) w = -rT z w ∧ rB (-z) w = rB z w := by
  have h : rG (-z) w = rG z w := by unfold rG; rw [Int.natAbs_neg]
  unfold rT rB
  rw [h, Int.neg_tdiv]
  exact ⟨rfl, rfl⟩
/-- adding a fraction, or its lowest terms -/
theorem rAd_low {p : Int × Int} {z w : Int} (h2 : 1 ≤ p.2) (hw : 1 ≤ w) : rAd p z w = rAd p (rT z w) (rB z w) := by
  obtain ⟨e1, e2⟩ := rT_e (z := z) hw
  have hb := (rB_b (z := z) hw).1
  have hm : 1 * 1 ≤ p.2 * rB z w := Int.mul_le_mul h2 hb (by omega) (by omega)
  have a1 : p.1 * w + z * p.2 = (rG z w : Int) * (p.1 * rB z w + rT z w * p.2) := by
    rw [Int.mul_add, ← Int.mul_assoc, ← Int.mul_assoc, Int.mul_comm _ p.1, Int.mul_assoc, ← e2, ← e1]
  have a2 : p.2 * w = (rG z w : Int) * (p.2 * rB z w) := by
    rw [← Int.mul_assoc, Int.mul_comm _ p.2, Int.mul_assoc, ← e2]
  have h3 := rT_g (z := p.1 * rB z w + rT z w * p.2) (w := p.2 * rB z w) (rG_pos z w) (by omega)
  unfold rAd
  rw [a1, a2, h3.1, h3.2]
set_option maxRecDepth 20000 in
theorem c_X11_divisor {l : Launch} (hfl : l.stackTraces = false) (E : zE) (σ : zS) (a b : Int) (ha : -9223372036854775808 < a ∧ a < 9223372036854775808) (hb : -9223372036854775808 < b ∧ b < 9223372036854775808) : zRl l E yX11_divisor cX11_divisor 10 (zrm 1 21) [.long (zL a), .long (zL b)] σ (fun r τ => r = zL (Nat.gcd a.natAbs b.natAbs : Int) ∧ τ = σ) := by
  refine Met.ofW (cc := cX11_divisor) (maxL := 10) (ret := (some .long)) (by decide +kernel) rfl ?_
  intro p e s m args below meth c s₁ B hml hv
  obtain ⟨rfl, hd⟩ := hv
  have C := zX_of (own := RX11) hfl B hml rfl hd rfl
  have hr := B.returns
  refine zV_go hd (Nat.le_of_ble_eq_true rfl) (lv := [(0, .long (zL a)), (2, .long (zL b))]) rfl ?_
  refine zv_lload_n C 0 dX11_divisor_0 rfl rfl ?_
  refine zv_cslD (st := []) C (c_J9_abs_067f4 hfl E σ (a) (by omega)) mJ9_abs_067f4 kX11_239 rfl ⟨rfl, rfl⟩ (show zfit (zrm 0 0) 2 (zrm 1 21) = true from rfl) (Nat.le_of_ble_eq_true rfl) dX11_divisor_1 ⟨Nat.zero_le _, Nat.zero_le _⟩ ?_
  refine zv_lstore (lv' := [(4, .long (zL ((a).natAbs : Int))), (0, .long (zL a)), (2, .long (zL b))]) C dX11_divisor_4  (by decide) rfl ?_
  refine zv_lload_n C 2 dX11_divisor_6 rfl rfl ?_
  refine zv_cslD (st := []) C (c_J9_abs_067f4 hfl E σ (b) (by omega)) mJ9_abs_067f4 kX11_239 rfl ⟨rfl, rfl⟩ (show zfit (zrm 0 0) 2 (zrm 1 21) = true from rfl) (Nat.le_of_ble_eq_true rfl) dX11_divisor_7 ⟨Nat.zero_le _, Nat.zero_le _⟩ ?_
  refine zv_lstore (lv' := [(6, .long (zL ((b).natAbs : Int))), (4, .long (zL ((a).natAbs : Int))), (0, .long (zL a)), (2, .long (zL b))]) C dX11_divisor_10  (by decide) rfl ?_
  have q12_6 : (((b).natAbs : Int) : Int) = (b.natAbs : Int) := by first | rfl | omega
  have q12_7 : (((a).natAbs : Int) : Int) = (a.natAbs : Int) := by first | rfl | omega
  refine zv_sub (lv' := [(4, .long (zL (a.natAbs : Int))), (6, .long (zL (b.natAbs : Int)))]) [1, 0] (zcons (zqL q12_7) (zcons (zqL q12_6) rfl)) ?_
  refine zv_while (α := Nat × Nat) (fun v => v.2) (fun v => Nat.gcd v.1 v.2 = Nat.gcd a.natAbs b.natAbs ∧ v.1 < 9223372036854775808 ∧ v.2 < 9223372036854775808) (fun v => σ) (fun v => [(4, .long (zL (v.1 : Int))), (6, .long (zL (v.2 : Int)))]) (fun v => []) (fun v hI ih => ?_) ((a.natAbs, b.natAbs)) (⟨rfl, by omega, by omega⟩)
  obtain ⟨x, y⟩ := v
  dsimp only at hI ih ⊢
  obtain ⟨hI, hx, hy⟩ := hI
  have hmm : x % y ≤ x := Nat.mod_le _ _
  refine zv_lload C 1 dX11_divisor_12 rfl ?_
  refine zv_lconst (v := zL 0) C dX11_divisor_14 (by decide) ?_
  refine zv_lc_eqZ (tgt := 37) C (by omega) (by omega) dX11_divisor_15 dX11_divisor_16 (by decide) (fun h15 => ?_) (fun h15 => ?_)
  · skip
    refine zv_lload C 0 dX11_divisor_37 rfl ?_
    exact zv_lret C hr dX11_divisor_39 ⟨by rw [← hI, show y = 0 by omega, Nat.gcd_zero_right], rfl⟩
  · skip
    refine zv_lload C 0 dX11_divisor_19 rfl ?_
    refine zv_lload C 1 dX11_divisor_21 rfl ?_
    refine zv_lremP C (by omega) (by omega) dX11_divisor_23 ?_
    refine zv_eql (y := (zL ((x % y : Nat) : Int))) (by rw [Int.natCast_emod]) ?_
    refine zv_lstore (lv' := [(8, .long (zL ((x % y : Nat) : Int))), (4, .long (zL (x : Int))), (6, .long (zL (y : Int)))]) C dX11_divisor_24  (by decide) rfl ?_
    refine zv_lload C 2 dX11_divisor_26 rfl ?_
    refine zv_lstore (lv' := [(4, .long (zL (y : Int))), (8, .long (zL ((x % y : Nat) : Int))), (6, .long (zL (y : Int)))]) C dX11_divisor_28  (by decide) rfl ?_
    refine zv_lload C 1 dX11_divisor_30 rfl ?_
    refine zv_lstore (lv' := [(6, .long (zL ((x % y : Nat) : Int))), (4, .long (zL (y : Int))), (8, .long (zL ((x % y : Nat) : Int)))]) C dX11_divisor_32  (by decide) rfl ?_
    refine zv_goto (tgt := 12) C dX11_divisor_34 (by decide) ?_
    refine zv_sub (lv' := [(4, .long (zL (y : Int))), (6, .long (zL ((x % y : Nat) : Int)))]) [1, 0] (zcons rfl (zcons rfl rfl)) ?_
    exact ih ((y, x % y)) (⟨by show Nat.gcd y (x % y) = _; rw [Nat.gcd_comm, ← Nat.gcd_rec, Nat.gcd_comm]; exact hI, by show y < 9223372036854775808; exact hy, by show x % y < 9223372036854775808; omega⟩) (by show x % y < y; exact Nat.mod_lt _ (by omega))
set_option maxRecDepth 20000 in
theorem c_X11_fraction {l : Launch} (hfl : l.stackTraces = false) (E : zE) (σ : zS) (z w : Int) (hz : -9223372036854775808 < z ∧ z < 9223372036854775808) (hw : 1 ≤ w ∧ w < 9223372036854775808) : zRv l E yX11_fraction cX11_fraction 7 (zrm 2 50) [.ref (ob E 327), .long (zL z), .long (zL w)] σ (fun τ => τ = mW σ (rT z w) (rB z w)) := by
  refine Met.ofW (cc := cX11_fraction) (maxL := 7) (ret := none) (by decide +kernel) rfl ?_
  intro p e s m args below meth c s₁ B hml hv
  obtain ⟨rfl, hd⟩ := hv
  have C := zX_of (own := RX11) hfl B hml rfl hd rfl
  have hr := B.returns
  refine zV_go hd (Nat.le_of_ble_eq_true rfl) (lv := [(0, .ref (ob E 327)), (1, .long (zL z)), (3, .long (zL w))]) rfl ?_
  have hg := rG_gcd (z := z) hw.1
  have hg1 := rG_pos z w
  have hg2 := rG_le (z := z) hw.1
  rw [hg] at hg1 hg2
  refine zv_lload_n C 1 dX11_fraction_0 rfl rfl ?_
  refine zv_lload_n C 2 dX11_fraction_1 rfl rfl ?_
  refine zv_cslD (st := []) C (c_X11_divisor hfl E σ (z) (w) (by omega) (by omega)) mX11_divisor kX11_245 rfl ⟨rfl, rfl⟩ (show zfit (zrm 1 21) 10 (zrm 2 50) = true from rfl) (Nat.le_of_ble_eq_true rfl) dX11_fraction_2 ⟨Nat.zero_le _, Nat.zero_le _⟩ ?_
  refine zv_lstore (lv' := [(5, .long (zL (Nat.gcd (z).natAbs (w).natAbs : Int))), (0, .ref (ob E 327)), (1, .long (zL z)), (3, .long (zL w))]) C dX11_fraction_5  (by decide) rfl ?_
  refine zv_aload_n C 1 dX11_fraction_7 rfl rfl ?_
  refine zv_lload_n C 2 dX11_fraction_8 rfl rfl ?_
  refine zv_lload C 0 dX11_fraction_9 rfl ?_
  refine zv_ldivT C (by omega) (by omega) dX11_fraction_11 ?_
  refine zv_eql (y := (zL (rT z w))) (by unfold rT; rw [hg]) ?_
  refine zP10_22 C (by decide : kd 327 = _) kX11_249 dX11_fraction_12 ?_
  refine zv_aload_n C 1 dX11_fraction_15 rfl rfl ?_
  refine zv_lload_n C 3 dX11_fraction_16 rfl rfl ?_
  refine zv_lload C 0 dX11_fraction_17 rfl ?_
  refine zv_ldivP C (by omega) (by omega) dX11_fraction_19 ?_
  refine zv_eql (y := (zL (rB z w))) (by rw [rB_e hw.1, hg]) ?_
  refine zP10_23 C (by decide : kd 327 = _) kX11_253 dX11_fraction_20 ?_
  exact zv_vret C hr dX11_fraction_23 rfl
def mPr (c : Nat → Nat → Nat) : Nat → Int
  | 0 => 1
  | j + 1 => mPr c j * (if c j 0 = 2 then 1 else (c j 1 : Int))
theorem mTop (c : Nat → Nat → Nat) (n : Nat) : tTop c n = mSg c n * mPr c n := by
  induction n with
  | zero => rfl
  | succ n ih =>
    have e : mSg c (n + 1) = mSg c n * (if c n 0 = 1 then 1 else -1) := by
      unfold mSg
      simp only [mTn]
      split <;> split <;> (try split) <;> first | rfl | omega
    simp only [tTop, mPr]
    rw [e, ih]
    simp only [Int.mul_assoc, Int.mul_comm, Int.mul_left_comm]
/-- the own ratio's sign, 0 without a train -/
def mS0 (c : Nat → Nat → Nat) (n : Nat) : Int := if n = 0 then 0 else mSg c n
theorem mZ (n : Nat) (c : Nat → Nat → Nat) : mS0 c n * mPr c n = tZ n c := by
  unfold mS0 tZ
  split
  · rw [Int.zero_mul]
  · exact (mTop c n).symm
set_option maxRecDepth 20000 in
theorem c_X11_own {l : Launch} (hfl : l.stackTraces = false) (E : zE) (σ : zS) (σc : zS) (nb : Nat) (S : zST) (i : Nat) (hW : zRo (gI σ 332) nb S) (hS : zSTp σc 34 S) (hi : i < 8) : zRv l E yX11_own cX11_own 7 (zrm 3 76) [.ref (ob E 327), .int (zI (i : Int))] σ (fun τ => τ = mW σ (qOwn S i).1 (qOwn S i).2) := by
  refine Met.ofW (cc := cX11_own) (maxL := 7) (ret := none) (by decide +kernel) rfl ?_
  intro p e s m args below meth c s₁ B hml hv
  obtain ⟨rfl, hd⟩ := hv
  have C := zX_of (own := RX11) hfl B hml rfl hd rfl
  have hr := B.returns
  refine zV_go hd (Nat.le_of_ble_eq_true rfl) (lv := [(0, .ref (ob E 327)), (1, .int (zI (i : Int)))]) rfl ?_
  have hTc := hS.2.2.2.2.2.2 i hi
  have ht := hTc.1.2.1
  have hc : ∀ j w, j < S.tn i → w < 3 → S.tr i j w ≤ 100 := fun j w a b => hTc.1.2.2.2 j w a b
  have hzb := tZ_b hTc.2
  have hbb := tBot_10000 _ _ hTc.2 _ (Nat.le_refl _)
  refine zv_aload_n C 0 dX11_own_0 rfl rfl ?_
  refine zv_iload_n C 1 dX11_own_1 rfl rfl ?_
  refine zv_cviD (st := []) C (c_X11_parts hfl E σ nb S i hW hi) mX11_parts kX11_188 (by decide : kd 327 = 10) rfl rfl rfl ⟨rfl, rfl⟩ (show zfit (zrm 1 21) 2 (zrm 3 76) = true from rfl) (Nat.le_of_ble_eq_true rfl) dX11_own_2 ⟨Nat.zero_le _, Nat.zero_le _⟩ ?_
  refine zv_if_neZ (tgt := 12) C (by omega) dX11_own_5 (by decide) (fun h5 => ?_) (fun h5 => ?_)
  · skip
    refine zv_aload_n C 0 dX11_own_12 rfl rfl ?_
    refine zv_iload_n C 1 dX11_own_13 rfl rfl ?_
    refine zv_cviD (st := []) C (c_X11_signOf hfl E σ nb S i hW hi ht hc) mX11_signOf kX11_261 (by decide : kd 327 = 10) rfl rfl rfl ⟨rfl, rfl⟩ (show zfit (zrm 2 44) 4 (zrm 3 76) = true from rfl) (Nat.le_of_ble_eq_true rfl) dX11_own_14 ⟨Nat.zero_le _, Nat.zero_le _⟩ ?_
    refine zv_i2lZ C (by unfold mSg; split <;> omega) dX11_own_17 ?_
    refine zv_lstore_n (lv' := [(2, .long (zL (mSg (S.tr i) (S.tn i)))), (0, .ref (ob E 327)), (1, .int (zI (i : Int)))]) C dX11_own_18 rfl (by decide) rfl ?_
    refine zv_lconst (v := zL 1) C dX11_own_19 (by decide) ?_
    refine zv_lstore (lv' := [(4, .long (zL 1)), (2, .long (zL (mSg (S.tr i) (S.tn i)))), (0, .ref (ob E 327)), (1, .int (zI (i : Int)))]) C dX11_own_20  (by decide) rfl ?_
    refine zv_iconst (v := zI 0) C dX11_own_22 rfl ?_
    refine zv_istore (lv' := [(6, .int (zI 0)), (4, .long (zL 1)), (2, .long (zL (mSg (S.tr i) (S.tn i)))), (0, .ref (ob E 327)), (1, .int (zI (i : Int)))]) C dX11_own_23  (by decide) rfl ?_
    have q25_19 : (0 : Int) = (0 : Int) := by first | rfl | omega
    have q25_20 : (1 : Int) = tBot (S.tr i) 0 := by rfl
    have q25_21 : (mSg (S.tr i) (S.tn i) : Int) = mS0 (S.tr i) (S.tn i) * mPr (S.tr i) 0 := by show _ = mS0 (S.tr i) (S.tn i) * 1; rw [Int.mul_one, mS0]; first | rw [if_pos (by omega)] | rw [if_neg (by omega)]
    refine zv_sub (lv' := [(0, .ref (ob E 327)), (1, .int (zI (i : Int))), (2, .long (zL (mS0 (S.tr i) (S.tn i) * mPr (S.tr i) 0))), (4, .long (zL (tBot (S.tr i) 0))), (6, .int (zI (0 : Int)))]) [3, 4, 2, 1, 0] (zcons rfl (zcons rfl (zcons (zqL q25_21) (zcons (zqL q25_20) (zcons (zqI q25_19) rfl))))) ?_
    refine zv_while (α := Nat) (fun v => S.tn i - v) (fun v => v ≤ S.tn i) (fun v => σ) (fun v => [(0, .ref (ob E 327)), (1, .int (zI (i : Int))), (2, .long (zL (mS0 (S.tr i) (S.tn i) * mPr (S.tr i) v))), (4, .long (zL (tBot (S.tr i) v))), (6, .int (zI (v : Int)))]) (fun v => []) (fun j hI ih => ?_) (0) (by omega)
    refine zv_iload C 4 dX11_own_25 rfl ?_
    refine zv_aload_n C 0 dX11_own_27 rfl rfl ?_
    refine zv_iload_n C 1 dX11_own_28 rfl rfl ?_
    refine zv_cviD (st := [.int (zI (j : Int))]) C (c_X11_parts hfl E σ nb S i hW hi) mX11_parts kX11_188 (by decide : kd 327 = 10) rfl rfl rfl ⟨rfl, rfl⟩ (show zfit (zrm 1 21) 2 (zrm 3 76) = true from rfl) (Nat.le_of_ble_eq_true rfl) dX11_own_29 ⟨Nat.zero_le _, Nat.zero_le _⟩ ?_
    refine zv_icmp_geZ (tgt := 82) C (by omega) (by omega) dX11_own_32 (by decide) (fun h32 => ?_) (fun h32 => ?_)
    · skip
      refine zv_aload_n C 0 dX11_own_82 rfl rfl ?_
      refine zv_lload_n C 2 dX11_own_83 rfl rfl ?_
      refine zv_eql (y := (zL (tZ (S.tn i) (S.tr i)))) (by rw [show j = S.tn i by omega, mZ]) ?_
      refine zv_lload C 3 dX11_own_84 rfl ?_
      refine zv_eql (y := (zL (tBot (S.tr i) (S.tn i)))) (by rw [show j = S.tn i by omega]) ?_
      refine zv_cvvD (st := []) C (c_X11_fraction hfl E σ (tZ (S.tn i) (S.tr i)) (tBot (S.tr i) (S.tn i)) (by omega) (by omega)) mX11_fraction kX11_264 (by decide : kd 327 = 10) rfl rfl rfl ⟨rfl, rfl⟩ (show zfit (zrm 2 50) 7 (zrm 3 76) = true from rfl) (Nat.le_of_ble_eq_true rfl) dX11_own_86 ⟨Nat.zero_le _, Nat.zero_le _⟩ ?_
      exact zv_vret C hr dX11_own_89 rfl
    · skip
      have hc0 := hc j 0 (by omega) (by omega)
      have hc1 := hc j 1 (by omega) (by omega)
      have hc2 := hc j 2 (by omega) (by omega)
      refine zv_aload_n C 0 dX11_own_35 rfl rfl ?_
      refine zv_iload_n C 1 dX11_own_36 rfl rfl ?_
      refine zv_iload C 4 dX11_own_37 rfl ?_
      refine zv_iconst (v := zI 0) C dX11_own_39 rfl ?_
      refine zv_cviD (st := []) C (c_X11_partOf hfl E σ nb S i j 0 hW hi (by omega) ht (by omega)) mX11_partOf kX11_191 (by decide : kd 327 = 10) rfl rfl rfl ⟨rfl, rfl⟩ (show zfit (zrm 1 21) 4 (zrm 3 76) = true from rfl) (Nat.le_of_ble_eq_true rfl) dX11_own_40 ⟨Nat.zero_le _, Nat.zero_le _⟩ ?_
      refine zv_iconst (v := zI 2) C dX11_own_43 rfl ?_
      refine zv_icmp_neZ (tgt := 50) C (by omega) (by omega) dX11_own_44 (by decide) (fun h44 => ?_) (fun h44 => ?_)
      · skip
        refine zv_lload_n C 2 dX11_own_50 rfl rfl ?_
        refine zv_aload_n C 0 dX11_own_51 rfl rfl ?_
        refine zv_iload_n C 1 dX11_own_52 rfl rfl ?_
        refine zv_iload C 4 dX11_own_53 rfl ?_
        refine zv_iconst (v := zI 1) C dX11_own_55 rfl ?_
        refine zv_cviD (st := [.long (zL (mS0 (S.tr i) (S.tn i) * mPr (S.tr i) j))]) C (c_X11_partOf hfl E σ nb S i j 1 hW hi (by omega) ht (by omega)) mX11_partOf kX11_191 (by decide : kd 327 = 10) rfl rfl rfl ⟨rfl, rfl⟩ (show zfit (zrm 1 21) 4 (zrm 3 76) = true from rfl) (Nat.le_of_ble_eq_true rfl) dX11_own_56 ⟨Nat.zero_le _, Nat.zero_le _⟩ ?_
        refine zv_i2lZ C (by omega) dX11_own_59 ?_
        refine zv_lmulZ C dX11_own_60 ?_
        refine zv_lstore_n (lv' := [(2, .long (zL ((mS0 (S.tr i) (S.tn i) * mPr (S.tr i) j) * (S.tr i j 1 : Int)))), (0, .ref (ob E 327)), (1, .int (zI (i : Int))), (4, .long (zL (tBot (S.tr i) j))), (6, .int (zI (j : Int)))]) C dX11_own_61 rfl (by decide) rfl ?_
        refine zv_lload C 3 dX11_own_62 rfl ?_
        refine zv_aload_n C 1 dX11_own_64 rfl rfl ?_
        refine zv_iload_n C 2 dX11_own_65 rfl rfl ?_
        refine zv_iload C 4 dX11_own_66 rfl ?_
        refine zv_iconst (v := zI 2) C dX11_own_68 rfl ?_
        refine zv_cviD (st := [.long (zL (tBot (S.tr i) j))]) C (c_X11_partOf hfl E σ nb S i j 2 hW hi (by omega) ht (by omega)) mX11_partOf kX11_191 (by decide : kd 327 = 10) rfl rfl rfl ⟨rfl, rfl⟩ (show zfit (zrm 1 21) 4 (zrm 3 76) = true from rfl) (Nat.le_of_ble_eq_true rfl) dX11_own_69 ⟨Nat.zero_le _, Nat.zero_le _⟩ ?_
        refine zv_i2lZ C (by omega) dX11_own_72 ?_
        refine zv_lmulZ C dX11_own_73 ?_
        refine zv_lstore (lv' := [(4, .long (zL ((tBot (S.tr i) j) * (S.tr i j 2 : Int)))), (2, .long (zL ((mS0 (S.tr i) (S.tn i) * mPr (S.tr i) j) * (S.tr i j 1 : Int)))), (0, .ref (ob E 327)), (1, .int (zI (i : Int))), (6, .int (zI (j : Int)))]) C dX11_own_74  (by decide) rfl ?_
        refine zv_iinc (v := (zI ((j : Int) + 1))) (lv' := [(6, .int (zI ((j : Int) + 1))), (4, .long (zL ((tBot (S.tr i) j) * (S.tr i j 2 : Int)))), (2, .long (zL ((mS0 (S.tr i) (S.tn i) * mPr (S.tr i) j) * (S.tr i j 1 : Int)))), (0, .ref (ob E 327)), (1, .int (zI (i : Int)))]) C 4 dX11_own_76 rfl (zI_add _ _) (by decide) rfl ?_
        refine zv_goto (tgt := 25) C dX11_own_79 (by decide) ?_
        have q25_69 : ((j : Int) + 1 : Int) = ((j + 1 : Nat) : Int) := by first | rfl | omega
        have q25_70 : ((tBot (S.tr i) j) * (S.tr i j 2 : Int) : Int) = tBot (S.tr i) (j + 1) := by simp only [tBot]; first | (exfalso; omega) | (rw [if_pos (by omega), Int.mul_one]) | (rw [if_neg (by omega)])
        have q25_71 : ((mS0 (S.tr i) (S.tn i) * mPr (S.tr i) j) * (S.tr i j 1 : Int) : Int) = mS0 (S.tr i) (S.tn i) * mPr (S.tr i) (j + 1) := by simp only [mPr]; first | (exfalso; omega) | (rw [if_pos (by omega), Int.mul_one]) | (rw [if_neg (by omega), Int.mul_assoc])
        refine zv_sub (lv' := [(0, .ref (ob E 327)), (1, .int (zI (i : Int))), (2, .long (zL (mS0 (S.tr i) (S.tn i) * mPr (S.tr i) (j + 1)))), (4, .long (zL (tBot (S.tr i) (j + 1)))), (6, .int (zI ((j + 1 : Nat) : Int)))]) [3, 4, 2, 1, 0] (zcons rfl (zcons rfl (zcons (zqL q25_71) (zcons (zqL q25_70) (zcons (zqI q25_69) rfl))))) ?_
        exact ih (j + 1) (by omega) (by omega)
      · skip
        refine zv_goto (tgt := 76) C dX11_own_47 (by decide) ?_
        refine zv_iinc (v := (zI ((j : Int) + 1))) (lv' := [(6, .int (zI ((j : Int) + 1))), (0, .ref (ob E 327)), (1, .int (zI (i : Int))), (2, .long (zL (mS0 (S.tr i) (S.tn i) * mPr (S.tr i) j))), (4, .long (zL (tBot (S.tr i) j)))]) C 4 dX11_own_76 rfl (zI_add _ _) (by decide) rfl ?_
        refine zv_goto (tgt := 25) C dX11_own_79 (by decide) ?_
        have q25_78 : ((j : Int) + 1 : Int) = ((j + 1 : Nat) : Int) := by first | rfl | omega
        have q25_79 : (tBot (S.tr i) j : Int) = tBot (S.tr i) (j + 1) := by simp only [tBot]; first | (exfalso; omega) | (rw [if_pos (by omega), Int.mul_one]) | (rw [if_neg (by omega)])
        have q25_80 : (mS0 (S.tr i) (S.tn i) * mPr (S.tr i) j : Int) = mS0 (S.tr i) (S.tn i) * mPr (S.tr i) (j + 1) := by simp only [mPr]; first | (exfalso; omega) | (rw [if_pos (by omega), Int.mul_one]) | (rw [if_neg (by omega), Int.mul_assoc])
        refine zv_sub (lv' := [(0, .ref (ob E 327)), (1, .int (zI (i : Int))), (2, .long (zL (mS0 (S.tr i) (S.tn i) * mPr (S.tr i) (j + 1)))), (4, .long (zL (tBot (S.tr i) (j + 1)))), (6, .int (zI ((j + 1 : Nat) : Int)))]) [1, 2, 3, 4, 0] (zcons rfl (zcons rfl (zcons (zqL q25_80) (zcons (zqL q25_79) (zcons (zqI q25_78) rfl))))) ?_
        exact ih (j + 1) (by omega) (by omega)
  · skip
    refine zv_lconst (v := zL 0) C dX11_own_8 (by decide) ?_
    refine zv_goto (tgt := 18) C dX11_own_9 (by decide) ?_
    refine zv_lstore_n (lv' := [(2, .long (zL 0)), (0, .ref (ob E 327)), (1, .int (zI (i : Int)))]) C dX11_own_18 rfl (by decide) rfl ?_
    refine zv_lconst (v := zL 1) C dX11_own_19 (by decide) ?_
    refine zv_lstore (lv' := [(4, .long (zL 1)), (2, .long (zL 0)), (0, .ref (ob E 327)), (1, .int (zI (i : Int)))]) C dX11_own_20  (by decide) rfl ?_
    refine zv_iconst (v := zI 0) C dX11_own_22 rfl ?_
    refine zv_istore (lv' := [(6, .int (zI 0)), (4, .long (zL 1)), (2, .long (zL 0)), (0, .ref (ob E 327)), (1, .int (zI (i : Int)))]) C dX11_own_23  (by decide) rfl ?_
    have q25_91 : (0 : Int) = (0 : Int) := by first | rfl | omega
    have q25_92 : (1 : Int) = tBot (S.tr i) 0 := by rfl
    have q25_93 : (0 : Int) = mS0 (S.tr i) (S.tn i) * mPr (S.tr i) 0 := by show _ = mS0 (S.tr i) (S.tn i) * 1; rw [Int.mul_one, mS0]; first | rw [if_pos (by omega)] | rw [if_neg (by omega)]
    refine zv_sub (lv' := [(0, .ref (ob E 327)), (1, .int (zI (i : Int))), (2, .long (zL (mS0 (S.tr i) (S.tn i) * mPr (S.tr i) 0))), (4, .long (zL (tBot (S.tr i) 0))), (6, .int (zI (0 : Int)))]) [3, 4, 2, 1, 0] (zcons rfl (zcons rfl (zcons (zqL q25_93) (zcons (zqL q25_92) (zcons (zqI q25_91) rfl))))) ?_
    refine zv_while (α := Nat) (fun v => S.tn i - v) (fun v => v ≤ S.tn i) (fun v => σ) (fun v => [(0, .ref (ob E 327)), (1, .int (zI (i : Int))), (2, .long (zL (mS0 (S.tr i) (S.tn i) * mPr (S.tr i) v))), (4, .long (zL (tBot (S.tr i) v))), (6, .int (zI (v : Int)))]) (fun v => []) (fun j hI ih => ?_) (0) (by omega)
    refine zv_iload C 4 dX11_own_25 rfl ?_
    refine zv_aload_n C 0 dX11_own_27 rfl rfl ?_
    refine zv_iload_n C 1 dX11_own_28 rfl rfl ?_
    refine zv_cviD (st := [.int (zI (j : Int))]) C (c_X11_parts hfl E σ nb S i hW hi) mX11_parts kX11_188 (by decide : kd 327 = 10) rfl rfl rfl ⟨rfl, rfl⟩ (show zfit (zrm 1 21) 2 (zrm 3 76) = true from rfl) (Nat.le_of_ble_eq_true rfl) dX11_own_29 ⟨Nat.zero_le _, Nat.zero_le _⟩ ?_
    refine zv_icmp_geZ (tgt := 82) C (by omega) (by omega) dX11_own_32 (by decide) (fun h32 => ?_) (fun h32 => ?_)
    · skip
      refine zv_aload_n C 0 dX11_own_82 rfl rfl ?_
      refine zv_lload_n C 2 dX11_own_83 rfl rfl ?_
      refine zv_eql (y := (zL (tZ (S.tn i) (S.tr i)))) (by rw [show j = S.tn i by omega, mZ]) ?_
      refine zv_lload C 3 dX11_own_84 rfl ?_
      refine zv_eql (y := (zL (tBot (S.tr i) (S.tn i)))) (by rw [show j = S.tn i by omega]) ?_
      refine zv_cvvD (st := []) C (c_X11_fraction hfl E σ (tZ (S.tn i) (S.tr i)) (tBot (S.tr i) (S.tn i)) (by omega) (by omega)) mX11_fraction kX11_264 (by decide : kd 327 = 10) rfl rfl rfl ⟨rfl, rfl⟩ (show zfit (zrm 2 50) 7 (zrm 3 76) = true from rfl) (Nat.le_of_ble_eq_true rfl) dX11_own_86 ⟨Nat.zero_le _, Nat.zero_le _⟩ ?_
      exact zv_vret C hr dX11_own_89 rfl
    · skip
      have hc0 := hc j 0 (by omega) (by omega)
      have hc1 := hc j 1 (by omega) (by omega)
      have hc2 := hc j 2 (by omega) (by omega)
      refine zv_aload_n C 0 dX11_own_35 rfl rfl ?_
      refine zv_iload_n C 1 dX11_own_36 rfl rfl ?_
      refine zv_iload C 4 dX11_own_37 rfl ?_
      refine zv_iconst (v := zI 0) C dX11_own_39 rfl ?_
      refine zv_cviD (st := []) C (c_X11_partOf hfl E σ nb S i j 0 hW hi (by omega) ht (by omega)) mX11_partOf kX11_191 (by decide : kd 327 = 10) rfl rfl rfl ⟨rfl, rfl⟩ (show zfit (zrm 1 21) 4 (zrm 3 76) = true from rfl) (Nat.le_of_ble_eq_true rfl) dX11_own_40 ⟨Nat.zero_le _, Nat.zero_le _⟩ ?_
      refine zv_iconst (v := zI 2) C dX11_own_43 rfl ?_
      refine zv_icmp_neZ (tgt := 50) C (by omega) (by omega) dX11_own_44 (by decide) (fun h44 => ?_) (fun h44 => ?_)
      · skip
        refine zv_lload_n C 2 dX11_own_50 rfl rfl ?_
        refine zv_aload_n C 0 dX11_own_51 rfl rfl ?_
        refine zv_iload_n C 1 dX11_own_52 rfl rfl ?_
        refine zv_iload C 4 dX11_own_53 rfl ?_
        refine zv_iconst (v := zI 1) C dX11_own_55 rfl ?_
        refine zv_cviD (st := [.long (zL (mS0 (S.tr i) (S.tn i) * mPr (S.tr i) j))]) C (c_X11_partOf hfl E σ nb S i j 1 hW hi (by omega) ht (by omega)) mX11_partOf kX11_191 (by decide : kd 327 = 10) rfl rfl rfl ⟨rfl, rfl⟩ (show zfit (zrm 1 21) 4 (zrm 3 76) = true from rfl) (Nat.le_of_ble_eq_true rfl) dX11_own_56 ⟨Nat.zero_le _, Nat.zero_le _⟩ ?_
        refine zv_i2lZ C (by omega) dX11_own_59 ?_
        refine zv_lmulZ C dX11_own_60 ?_
        refine zv_lstore_n (lv' := [(2, .long (zL ((mS0 (S.tr i) (S.tn i) * mPr (S.tr i) j) * (S.tr i j 1 : Int)))), (0, .ref (ob E 327)), (1, .int (zI (i : Int))), (4, .long (zL (tBot (S.tr i) j))), (6, .int (zI (j : Int)))]) C dX11_own_61 rfl (by decide) rfl ?_
        refine zv_lload C 3 dX11_own_62 rfl ?_
        refine zv_aload_n C 1 dX11_own_64 rfl rfl ?_
        refine zv_iload_n C 2 dX11_own_65 rfl rfl ?_
        refine zv_iload C 4 dX11_own_66 rfl ?_
        refine zv_iconst (v := zI 2) C dX11_own_68 rfl ?_
        refine zv_cviD (st := [.long (zL (tBot (S.tr i) j))]) C (c_X11_partOf hfl E σ nb S i j 2 hW hi (by omega) ht (by omega)) mX11_partOf kX11_191 (by decide : kd 327 = 10) rfl rfl rfl ⟨rfl, rfl⟩ (show zfit (zrm 1 21) 4 (zrm 3 76) = true from rfl) (Nat.le_of_ble_eq_true rfl) dX11_own_69 ⟨Nat.zero_le _, Nat.zero_le _⟩ ?_
        refine zv_i2lZ C (by omega) dX11_own_72 ?_
        refine zv_lmulZ C dX11_own_73 ?_
        refine zv_lstore (lv' := [(4, .long (zL ((tBot (S.tr i) j) * (S.tr i j 2 : Int)))), (2, .long (zL ((mS0 (S.tr i) (S.tn i) * mPr (S.tr i) j) * (S.tr i j 1 : Int)))), (0, .ref (ob E 327)), (1, .int (zI (i : Int))), (6, .int (zI (j : Int)))]) C dX11_own_74  (by decide) rfl ?_
        refine zv_iinc (v := (zI ((j : Int) + 1))) (lv' := [(6, .int (zI ((j : Int) + 1))), (4, .long (zL ((tBot (S.tr i) j) * (S.tr i j 2 : Int)))), (2, .long (zL ((mS0 (S.tr i) (S.tn i) * mPr (S.tr i) j) * (S.tr i j 1 : Int)))), (0, .ref (ob E 327)), (1, .int (zI (i : Int)))]) C 4 dX11_own_76 rfl (zI_add _ _) (by decide) rfl ?_
        refine zv_goto (tgt := 25) C dX11_own_79 (by decide) ?_
        have q25_141 : ((j : Int) + 1 : Int) = ((j + 1 : Nat) : Int) := by first | rfl | omega
        have q25_142 : ((tBot (S.tr i) j) * (S.tr i j 2 : Int) : Int) = tBot (S.tr i) (j + 1) := by simp only [tBot]; first | (exfalso; omega) | (rw [if_pos (by omega), Int.mul_one]) | (rw [if_neg (by omega)])
        have q25_143 : ((mS0 (S.tr i) (S.tn i) * mPr (S.tr i) j) * (S.tr i j 1 : Int) : Int) = mS0 (S.tr i) (S.tn i) * mPr (S.tr i) (j + 1) := by simp only [mPr]; first | (exfalso; omega) | (rw [if_pos (by omega), Int.mul_one]) | (rw [if_neg (by omega), Int.mul_assoc])
        refine zv_sub (lv' := [(0, .ref (ob E 327)), (1, .int (zI (i : Int))), (2, .long (zL (mS0 (S.tr i) (S.tn i) * mPr (S.tr i) (j + 1)))), (4, .long (zL (tBot (S.tr i) (j + 1)))), (6, .int (zI ((j + 1 : Nat) : Int)))]) [3, 4, 2, 1, 0] (zcons rfl (zcons rfl (zcons (zqL q25_143) (zcons (zqL q25_142) (zcons (zqI q25_141) rfl))))) ?_
        exact ih (j + 1) (by omega) (by omega)
      · skip
        refine zv_goto (tgt := 76) C dX11_own_47 (by decide) ?_
        refine zv_iinc (v := (zI ((j : Int) + 1))) (lv' := [(6, .int (zI ((j : Int) + 1))), (0, .ref (ob E 327)), (1, .int (zI (i : Int))), (2, .long (zL (mS0 (S.tr i) (S.tn i) * mPr (S.tr i) j))), (4, .long (zL (tBot (S.tr i) j)))]) C 4 dX11_own_76 rfl (zI_add _ _) (by decide) rfl ?_
        refine zv_goto (tgt := 25) C dX11_own_79 (by decide) ?_
        have q25_150 : ((j : Int) + 1 : Int) = ((j + 1 : Nat) : Int) := by first | rfl | omega
        have q25_151 : (tBot (S.tr i) j : Int) = tBot (S.tr i) (j + 1) := by simp only [tBot]; first | (exfalso; omega) | (rw [if_pos (by omega), Int.mul_one]) | (rw [if_neg (by omega)])
        have q25_152 : (mS0 (S.tr i) (S.tn i) * mPr (S.tr i) j : Int) = mS0 (S.tr i) (S.tn i) * mPr (S.tr i) (j + 1) := by simp only [mPr]; first | (exfalso; omega) | (rw [if_pos (by omega), Int.mul_one]) | (rw [if_neg (by omega), Int.mul_assoc])
        refine zv_sub (lv' := [(0, .ref (ob E 327)), (1, .int (zI (i : Int))), (2, .long (zL (mS0 (S.tr i) (S.tn i) * mPr (S.tr i) (j + 1)))), (4, .long (zL (tBot (S.tr i) (j + 1)))), (6, .int (zI ((j + 1 : Nat) : Int)))]) [1, 2, 3, 4, 0] (zcons rfl (zcons rfl (zcons (zqL q25_152) (zcons (zqL q25_151) (zcons (zqI q25_150) rfl))))) ?_
        exact ih (j + 1) (by omega) (by omega)
set_option maxRecDepth 20000 in
theorem c_X11_ratio {l : Launch} (hfl : l.stackTraces = false) (E : zE) (σ : zS) (σc : zS) (U : zSU) (S : zST) (i : Nat) (hB : zRb (gI σ 328) U) (hU : zSUp σc 29 U) (hW : zRo (gI σ 332) U.nb S) (hS : zSTp σc 34 S) (hi : i < U.nb) : zRv l E yX11_ratio cX11_ratio 6 (zrm 4 102) [.ref (ob E 327), .int (zI (i : Int))] σ (fun τ => τ = mW σ (qPtr U S i).1 (qPtr U S i).2) := by
  refine Met.ofW (cc := cX11_ratio) (maxL := 6) (ret := none) (by decide +kernel) rfl ?_
  intro p e s m args below meth c s₁ B hml hv
  obtain ⟨rfl, hd⟩ := hv
  have C := zX_of (own := RX11) hfl B hml rfl hd rfl
  have hr := B.returns
  refine zV_go hd (Nat.le_of_ble_eq_true rfl) (lv := [(0, .ref (ob E 327)), (1, .int (zI (i : Int)))]) rfl ?_
  have hnb : U.nb ≤ 8 := hU.2.2.1
  have hs0 := hU.2.2.2.1
  have hi8 : i < 8 := by omega
  have hca := (hU.2.2.2.2 i hi).2.2.2.2.2.2
  have hpe := (hU.2.2.2.2 i hi).2.2.2.2.1
  have hre := (hU.2.2.2.2 i hi).2.2.2.2.2.1
  have hqi := qOwn_b hS hi8
  refine zv_aload_n C 0 dX11_ratio_0 rfl rfl ?_
  refine zv_iload_n C 1 dX11_ratio_1 rfl rfl ?_
  refine zv_cvvD (st := []) C (c_X11_own hfl E σ σc U.nb S i hW hS hi8) mX11_own kX11_268 (by decide : kd 327 = 10) rfl rfl rfl ⟨rfl, rfl⟩ (show zfit (zrm 3 76) 7 (zrm 4 102) = true from rfl) (Nat.le_of_ble_eq_true rfl) dX11_ratio_2 ⟨Nat.zero_le _, Nat.zero_le _⟩ ?_
  refine zv_aload_n C 0 dX11_ratio_5 rfl rfl ?_
  refine zv_iload_n C 1 dX11_ratio_6 rfl rfl ?_
  refine zv_iconst (v := zI 2) C dX11_ratio_7 rfl ?_
  refine zv_cviD (st := []) C (c2_X11_of hfl E (mW σ (qOwn S i).1 (qOwn S i).2) U i hB hi hnb) mX11_of kX11_185 (by decide : kd 327 = 10) rfl rfl rfl ⟨rfl, rfl⟩ (show zfit (zrm 0 0) 3 (zrm 4 102) = true from rfl) (Nat.le_of_ble_eq_true rfl) dX11_ratio_8 ⟨Nat.zero_le _, Nat.zero_le _⟩ ?_
  refine zv_iconst (v := zI (-1)) C dX11_ratio_11 rfl ?_
  refine zv_icmp_neZ (tgt := 16) C (by omega) (by omega) dX11_ratio_12 (by decide) (fun h12 => ?_) (fun h12 => ?_)
  · skip
    obtain ⟨j, hj⟩ : ∃ j : Nat, U.ca i = (j : Int) := ⟨(U.ca i).toNat, by omega⟩
    have hjn : j < U.nb := by omega
    have hj8 : j < 8 := by omega
    have hj2 : (U.ca i).toNat = j := by omega
    have hqj := qOwn_b hS hj8
    obtain ⟨g1, g2, -⟩ := rAd_b (z := (qOwn S j).1) (w := (qOwn S j).2) (C := 10000) (D := 10000) hqi.1 hqi.2 hqj.1 hqj.2
    have hlow : qPtr U S i = rAd (qOwn S i) (qOwn S j).1 (qOwn S j).2 := by
      rw [qPtr, if_neg (by omega), hj2]
      exact rAd_low hqi.2.1 (tBot_10000 _ _ (hS.2.2.2.2.2.2 j hj8).2 _ (Nat.le_refl _)).1
    refine zv_aload_n C 0 dX11_ratio_16 rfl rfl ?_
    refine zG10_22 C (by decide : kd 327 = _) kX11_249 dX11_ratio_17 ?_
    refine zv_eql (y := (zL ((qOwn S i).1))) ((mW_r _ _ _).1) ?_
    refine zv_lstore_n (lv' := [(2, .long (zL ((qOwn S i).1))), (0, .ref (ob E 327)), (1, .int (zI (i : Int)))]) C dX11_ratio_20 rfl (by decide) rfl ?_
    refine zv_aload_n C 1 dX11_ratio_21 rfl rfl ?_
    refine zG10_23 C (by decide : kd 327 = _) kX11_253 dX11_ratio_22 ?_
    refine zv_eql (y := (zL ((qOwn S i).2))) ((mW_r _ _ _).2) ?_
    refine zv_lstore (lv' := [(4, .long (zL ((qOwn S i).2))), (2, .long (zL ((qOwn S i).1))), (0, .ref (ob E 327)), (1, .int (zI (i : Int)))]) C dX11_ratio_25  (by decide) rfl ?_
    refine zv_aload_n C 2 dX11_ratio_27 rfl rfl ?_
    refine zv_aload_n C 2 dX11_ratio_28 rfl rfl ?_
    refine zv_iload_n C 3 dX11_ratio_29 rfl rfl ?_
    refine zv_iconst (v := zI 2) C dX11_ratio_30 rfl ?_
    refine zv_cviD (st := [.ref (ob E 327)]) C (c2_X11_of hfl E (mW σ (qOwn S i).1 (qOwn S i).2) U i hB hi hnb) mX11_of kX11_185 (by decide : kd 327 = 10) rfl rfl rfl ⟨rfl, rfl⟩ (show zfit (zrm 0 0) 3 (zrm 4 102) = true from rfl) (Nat.le_of_ble_eq_true rfl) dX11_ratio_31 ⟨Nat.zero_le _, Nat.zero_le _⟩ ?_
    refine zv_eqi (y := (zI (j : Int))) (by rw [hj]) ?_
    refine zv_cvvD (st := []) C (c_X11_own hfl E (mW σ (qOwn S i).1 (qOwn S i).2) σc U.nb S j hW hS hj8) mX11_own kX11_268 (by decide : kd 327 = 10) rfl rfl rfl ⟨rfl, rfl⟩ (show zfit (zrm 3 76) 7 (zrm 4 102) = true from rfl) (Nat.le_of_ble_eq_true rfl) dX11_ratio_34 ⟨Nat.zero_le _, Nat.zero_le _⟩ ?_
    refine zv_eqS (τ := (mW σ (qOwn S j).1 (qOwn S j).2)) (mW_o _ _ _ _ _) ?_
    refine zv_aload_n C 2 dX11_ratio_37 rfl rfl ?_
    refine zv_lload_n C 1 dX11_ratio_38 rfl rfl ?_
    refine zv_aload_n C 2 dX11_ratio_39 rfl rfl ?_
    refine zG10_23 C (by decide : kd 327 = _) kX11_253 dX11_ratio_40 ?_
    refine zv_eql (y := (zL ((qOwn S j).2))) ((mW_r _ _ _).2) ?_
    refine zv_lmulZ C dX11_ratio_43 ?_
    refine zv_aload_n C 2 dX11_ratio_44 rfl rfl ?_
    refine zG10_22 C (by decide : kd 327 = _) kX11_249 dX11_ratio_45 ?_
    refine zv_eql (y := (zL ((qOwn S j).1))) ((mW_r _ _ _).1) ?_
    refine zv_lload C 0 dX11_ratio_48 rfl ?_
    refine zv_lmulZ C dX11_ratio_50 ?_
    refine zv_laddZ C dX11_ratio_51 ?_
    refine zv_lload C 0 dX11_ratio_52 rfl ?_
    refine zv_aload_n C 2 dX11_ratio_54 rfl rfl ?_
    refine zG10_23 C (by decide : kd 327 = _) kX11_253 dX11_ratio_55 ?_
    refine zv_eql (y := (zL ((qOwn S j).2))) ((mW_r _ _ _).2) ?_
    refine zv_lmulZ C dX11_ratio_58 ?_
    refine zv_cvvD (st := []) C (c_X11_fraction hfl E (mW σ (qOwn S j).1 (qOwn S j).2) ((qOwn S i).1 * (qOwn S j).2 + (qOwn S j).1 * (qOwn S i).2) ((qOwn S i).2 * (qOwn S j).2) (by omega) (by omega)) mX11_fraction kX11_264 (by decide : kd 327 = 10) rfl rfl rfl ⟨rfl, rfl⟩ (show zfit (zrm 2 50) 7 (zrm 4 102) = true from rfl) (Nat.le_of_ble_eq_true rfl) dX11_ratio_59 ⟨Nat.zero_le _, Nat.zero_le _⟩ ?_
    refine zv_eqS (τ := mW σ (qPtr U S i).1 (qPtr U S i).2) (by rw [mW_o, hlow]; rfl) ?_
    exact zv_vret C hr dX11_ratio_62 rfl
  · skip
    exact zv_vret C hr dX11_ratio_15 (by rw [qPtr, if_pos (by omega)])
theorem rtT_r (U : zSU) (i : Nat) : rtT U i = if U.re i = 1 then -100 else 100 := rfl
set_option maxRecDepth 20000 in
theorem c_X11_due {l : Launch} (hfl : l.stackTraces = false) (E : zE) (σ : zS) (σc : zS) (U : zSU) (i : Nat) (hB : zRb (gI σ 328) U) (hU : zSUp σc 29 U) (hi : i < U.nb) : zRv l E yX11_due cX11_due 2 (zrm 3 76) [.ref (ob E 327), .int (zI (i : Int))] σ (fun τ => τ = mW σ (qDue U i).1 (qDue U i).2) := by
  refine Met.ofW (cc := cX11_due) (maxL := 2) (ret := none) (by decide +kernel) rfl ?_
  intro p e s m args below meth c s₁ B hml hv
  obtain ⟨rfl, hd⟩ := hv
  have C := zX_of (own := RX11) hfl B hml rfl hd rfl
  have hr := B.returns
  refine zV_go hd (Nat.le_of_ble_eq_true rfl) (lv := [(0, .ref (ob E 327)), (1, .int (zI (i : Int)))]) rfl ?_
  have hnb : U.nb ≤ 8 := hU.2.2.1
  have hs0 := hU.2.2.2.1
  have hi8 : i < 8 := by omega
  have hca := (hU.2.2.2.2 i hi).2.2.2.2.2.2
  have hpe := (hU.2.2.2.2 i hi).2.2.2.2.1
  have hre := (hU.2.2.2.2 i hi).2.2.2.2.2.1
  have hrt := rtT_b U i
  refine zv_aload_n C 0 dX11_due_0 rfl rfl ?_
  refine zv_aload_n C 0 dX11_due_1 rfl rfl ?_
  refine zv_iload_n C 1 dX11_due_2 rfl rfl ?_
  refine zv_iconst (v := zI 1) C dX11_due_3 rfl ?_
  refine zv_cviD (st := [.ref (ob E 327)]) C (c1_X11_of hfl E σ U i hB hi hnb) mX11_of kX11_185 (by decide : kd 327 = 10) rfl rfl rfl ⟨rfl, rfl⟩ (show zfit (zrm 0 0) 3 (zrm 3 76) = true from rfl) (Nat.le_of_ble_eq_true rfl) dX11_due_4 ⟨Nat.zero_le _, Nat.zero_le _⟩ ?_
  refine zv_iconst (v := zI 1) C dX11_due_7 rfl ?_
  refine zv_icmp_neZ (tgt := 17) C (by omega) (by omega) dX11_due_8 (by decide) (fun h8 => ?_) (fun h8 => ?_)
  · skip
    refine zv_ldc2 C kX11_273 dX11_due_17 ?_
    refine zv_eql (y := zL 100) (by decide) ?_
    refine zv_eql (y := (zL (rtT U i))) (by rw [rtT_r, if_neg (by omega)]) ?_
    refine zv_aload_n C 0 dX11_due_20 rfl rfl ?_
    refine zv_iload_n C 1 dX11_due_21 rfl rfl ?_
    refine zv_iconst (v := zI 0) C dX11_due_22 rfl ?_
    refine zv_cviD (st := [.long (zL (rtT U i)), .ref (ob E 327)]) C (c0_X11_of hfl E σ U i hB hi hnb) mX11_of kX11_185 (by decide : kd 327 = 10) rfl rfl rfl ⟨rfl, rfl⟩ (show zfit (zrm 0 0) 3 (zrm 3 76) = true from rfl) (Nat.le_of_ble_eq_true rfl) dX11_due_23 ⟨Nat.zero_le _, Nat.zero_le _⟩ ?_
    refine zv_i2lZ C (by omega) dX11_due_26 ?_
    refine zv_cvvD (st := []) C (c_X11_fraction hfl E σ (rtT U i) (U.pe i : Int) (by omega) (by omega)) mX11_fraction kX11_264 (by decide : kd 327 = 10) rfl rfl rfl ⟨rfl, rfl⟩ (show zfit (zrm 2 50) 7 (zrm 3 76) = true from rfl) (Nat.le_of_ble_eq_true rfl) dX11_due_27 ⟨Nat.zero_le _, Nat.zero_le _⟩ ?_
    exact zv_vret C hr dX11_due_30 rfl
  · skip
    refine zv_ldc2 C kX11_271 dX11_due_11 ?_
    refine zv_eql (y := zL (-100)) (by decide) ?_
    refine zv_eql (y := (zL (rtT U i))) (by rw [rtT_r, if_pos (by omega)]) ?_
    refine zv_goto (tgt := 20) C dX11_due_14 (by decide) ?_
    refine zv_aload_n C 0 dX11_due_20 rfl rfl ?_
    refine zv_iload_n C 1 dX11_due_21 rfl rfl ?_
    refine zv_iconst (v := zI 0) C dX11_due_22 rfl ?_
    refine zv_cviD (st := [.long (zL (rtT U i)), .ref (ob E 327)]) C (c0_X11_of hfl E σ U i hB hi hnb) mX11_of kX11_185 (by decide : kd 327 = 10) rfl rfl rfl ⟨rfl, rfl⟩ (show zfit (zrm 0 0) 3 (zrm 3 76) = true from rfl) (Nat.le_of_ble_eq_true rfl) dX11_due_23 ⟨Nat.zero_le _, Nat.zero_le _⟩ ?_
    refine zv_i2lZ C (by omega) dX11_due_26 ?_
    refine zv_cvvD (st := []) C (c_X11_fraction hfl E σ (rtT U i) (U.pe i : Int) (by omega) (by omega)) mX11_fraction kX11_264 (by decide : kd 327 = 10) rfl rfl rfl ⟨rfl, rfl⟩ (show zfit (zrm 2 50) 7 (zrm 3 76) = true from rfl) (Nat.le_of_ble_eq_true rfl) dX11_due_27 ⟨Nat.zero_le _, Nat.zero_le _⟩ ?_
    exact zv_vret C hr dX11_due_30 rfl
set_option maxRecDepth 20000 in
theorem c_X11_dueOwn {l : Launch} (hfl : l.stackTraces = false) (E : zE) (σ : zS) (σc : zS) (U : zSU) (i : Nat) (hB : zRb (gI σ 328) U) (hU : zSUp σc 29 U) (hi : i < U.nb) : zRv l E yX11_dueOwn cX11_dueOwn 6 (zrm 4 97) [.ref (ob E 327), .int (zI (i : Int))] σ (fun τ => τ = mW σ (qTrue U i).1 (qTrue U i).2) := by
  refine Met.ofW (cc := cX11_dueOwn) (maxL := 6) (ret := none) (by decide +kernel) rfl ?_
  intro p e s m args below meth c s₁ B hml hv
  obtain ⟨rfl, hd⟩ := hv
  have C := zX_of (own := RX11) hfl B hml rfl hd rfl
  have hr := B.returns
  refine zV_go hd (Nat.le_of_ble_eq_true rfl) (lv := [(0, .ref (ob E 327)), (1, .int (zI (i : Int)))]) rfl ?_
  have hnb : U.nb ≤ 8 := hU.2.2.1
  have hs0 := hU.2.2.2.1
  have hi8 : i < 8 := by omega
  have hca := (hU.2.2.2.2 i hi).2.2.2.2.2.2
  have hpe := (hU.2.2.2.2 i hi).2.2.2.2.1
  have hre := (hU.2.2.2.2 i hi).2.2.2.2.2.1
  have hqi := qDue_b hU hi
  refine zv_aload_n C 0 dX11_dueOwn_0 rfl rfl ?_
  refine zv_iload_n C 1 dX11_dueOwn_1 rfl rfl ?_
  refine zv_cvvD (st := []) C (c_X11_due hfl E σ σc U i hB hU hi) mX11_due kX11_275 (by decide : kd 327 = 10) rfl rfl rfl ⟨rfl, rfl⟩ (show zfit (zrm 3 76) 2 (zrm 4 97) = true from rfl) (Nat.le_of_ble_eq_true rfl) dX11_dueOwn_2 ⟨Nat.zero_le _, Nat.zero_le _⟩ ?_
  refine zv_aload_n C 0 dX11_dueOwn_5 rfl rfl ?_
  refine zv_iload_n C 1 dX11_dueOwn_6 rfl rfl ?_
  refine zv_iconst (v := zI 2) C dX11_dueOwn_7 rfl ?_
  refine zv_cviD (st := []) C (c2_X11_of hfl E (mW σ (qDue U i).1 (qDue U i).2) U i hB hi hnb) mX11_of kX11_185 (by decide : kd 327 = 10) rfl rfl rfl ⟨rfl, rfl⟩ (show zfit (zrm 0 0) 3 (zrm 4 97) = true from rfl) (Nat.le_of_ble_eq_true rfl) dX11_dueOwn_8 ⟨Nat.zero_le _, Nat.zero_le _⟩ ?_
  refine zv_iconst (v := zI (-1)) C dX11_dueOwn_11 rfl ?_
  refine zv_icmp_neZ (tgt := 16) C (by omega) (by omega) dX11_dueOwn_12 (by decide) (fun h12 => ?_) (fun h12 => ?_)
  · skip
    obtain ⟨j, hj⟩ : ∃ j : Nat, U.ca i = (j : Int) := ⟨(U.ca i).toNat, by omega⟩
    have hjn : j < U.nb := by omega
    have hj2 : (U.ca i).toNat = j := by omega
    have hqj := qDue_b hU hjn
    have hpj := (hU.2.2.2.2 j hjn).2.2.2.2.1
    obtain ⟨g1, g2, -⟩ := rAd_b (z := -(qDue U j).1) (w := (qDue U j).2) (C := 100) (D := 9999999) hqi.1 hqi.2 (by omega) hqj.2
    rw [Int.neg_mul, ← Int.sub_eq_add_neg] at g1
    have hlow : qTrue U i = (rT ((qDue U i).1 * (qDue U j).2 - (qDue U j).1 * (qDue U i).2) ((qDue U i).2 * (qDue U j).2), rB ((qDue U i).1 * (qDue U j).2 - (qDue U j).1 * (qDue U i).2) ((qDue U i).2 * (qDue U j).2)) := by
      have h5 := rT_neg (rtT U j) (U.pe j : Int)
      rw [qTrue, if_neg (by omega), hj2, rAd_low hqi.2.1 (show (1 : Int) ≤ (U.pe j : Int) by omega), h5.1, h5.2]
      show rAd (qDue U i) (-(qDue U j).1) (qDue U j).2 = _
      unfold rAd
      rw [Int.neg_mul, ← Int.sub_eq_add_neg]
    refine zv_aload_n C 0 dX11_dueOwn_16 rfl rfl ?_
    refine zG10_22 C (by decide : kd 327 = _) kX11_249 dX11_dueOwn_17 ?_
    refine zv_eql (y := (zL ((qDue U i).1))) ((mW_r _ _ _).1) ?_
    refine zv_lstore_n (lv' := [(2, .long (zL ((qDue U i).1))), (0, .ref (ob E 327)), (1, .int (zI (i : Int)))]) C dX11_dueOwn_20 rfl (by decide) rfl ?_
    refine zv_aload_n C 1 dX11_dueOwn_21 rfl rfl ?_
    refine zG10_23 C (by decide : kd 327 = _) kX11_253 dX11_dueOwn_22 ?_
    refine zv_eql (y := (zL ((qDue U i).2))) ((mW_r _ _ _).2) ?_
    refine zv_lstore (lv' := [(4, .long (zL ((qDue U i).2))), (2, .long (zL ((qDue U i).1))), (0, .ref (ob E 327)), (1, .int (zI (i : Int)))]) C dX11_dueOwn_25  (by decide) rfl ?_
    refine zv_aload_n C 2 dX11_dueOwn_27 rfl rfl ?_
    refine zv_aload_n C 2 dX11_dueOwn_28 rfl rfl ?_
    refine zv_iload_n C 3 dX11_dueOwn_29 rfl rfl ?_
    refine zv_iconst (v := zI 2) C dX11_dueOwn_30 rfl ?_
    refine zv_cviD (st := [.ref (ob E 327)]) C (c2_X11_of hfl E (mW σ (qDue U i).1 (qDue U i).2) U i hB hi hnb) mX11_of kX11_185 (by decide : kd 327 = 10) rfl rfl rfl ⟨rfl, rfl⟩ (show zfit (zrm 0 0) 3 (zrm 4 97) = true from rfl) (Nat.le_of_ble_eq_true rfl) dX11_dueOwn_31 ⟨Nat.zero_le _, Nat.zero_le _⟩ ?_
    refine zv_eqi (y := (zI (j : Int))) (by rw [hj]) ?_
    refine zv_cvvD (st := []) C (c_X11_due hfl E (mW σ (qDue U i).1 (qDue U i).2) σc U j hB hU hjn) mX11_due kX11_275 (by decide : kd 327 = 10) rfl rfl rfl ⟨rfl, rfl⟩ (show zfit (zrm 3 76) 2 (zrm 4 97) = true from rfl) (Nat.le_of_ble_eq_true rfl) dX11_dueOwn_34 ⟨Nat.zero_le _, Nat.zero_le _⟩ ?_
    refine zv_eqS (τ := (mW σ (qDue U j).1 (qDue U j).2)) (mW_o _ _ _ _ _) ?_
    refine zv_aload_n C 2 dX11_dueOwn_37 rfl rfl ?_
    refine zv_lload_n C 1 dX11_dueOwn_38 rfl rfl ?_
    refine zv_aload_n C 2 dX11_dueOwn_39 rfl rfl ?_
    refine zG10_23 C (by decide : kd 327 = _) kX11_253 dX11_dueOwn_40 ?_
    refine zv_eql (y := (zL ((qDue U j).2))) ((mW_r _ _ _).2) ?_
    refine zv_lmulZ C dX11_dueOwn_43 ?_
    refine zv_aload_n C 2 dX11_dueOwn_44 rfl rfl ?_
    refine zG10_22 C (by decide : kd 327 = _) kX11_249 dX11_dueOwn_45 ?_
    refine zv_eql (y := (zL ((qDue U j).1))) ((mW_r _ _ _).1) ?_
    refine zv_lload C 0 dX11_dueOwn_48 rfl ?_
    refine zv_lmulZ C dX11_dueOwn_50 ?_
    refine zv_lsubZ C dX11_dueOwn_51 ?_
    refine zv_lload C 0 dX11_dueOwn_52 rfl ?_
    refine zv_aload_n C 2 dX11_dueOwn_54 rfl rfl ?_
    refine zG10_23 C (by decide : kd 327 = _) kX11_253 dX11_dueOwn_55 ?_
    refine zv_eql (y := (zL ((qDue U j).2))) ((mW_r _ _ _).2) ?_
    refine zv_lmulZ C dX11_dueOwn_58 ?_
    refine zv_cvvD (st := []) C (c_X11_fraction hfl E (mW σ (qDue U j).1 (qDue U j).2) ((qDue U i).1 * (qDue U j).2 - (qDue U j).1 * (qDue U i).2) ((qDue U i).2 * (qDue U j).2) (by omega) (by omega)) mX11_fraction kX11_264 (by decide : kd 327 = 10) rfl rfl rfl ⟨rfl, rfl⟩ (show zfit (zrm 2 50) 7 (zrm 4 97) = true from rfl) (Nat.le_of_ble_eq_true rfl) dX11_dueOwn_59 ⟨Nat.zero_le _, Nat.zero_le _⟩ ?_
    refine zv_eqS (τ := mW σ (qTrue U i).1 (qTrue U i).2) (by rw [mW_o, hlow]) ?_
    exact zv_vret C hr dX11_dueOwn_62 rfl
  · skip
    exact zv_vret C hr dX11_dueOwn_15 (by rw [qTrue, if_pos (by omega)])
