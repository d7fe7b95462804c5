/-! many times a fraction, by doubling -/
theorem sc_step {r b F k : Nat} (hb : 0 < b) (hr : r < b) (hk : k ≤ 1) : (r * F % b * 2 + r * k) % b = r * (F * 2 + k) % b ∧ r * F / b * 2 + (r * F % b * 2 + r * k) / b = r * (F * 2 + k) / b := by
  have h := Nat.mod_add_div (r * F) b
  have e : r * (F * 2 + k) = (r * F % b * 2 + r * k) + b * (r * F / b * 2) := by
    have h2 : r * (F * 2 + k) = r * F * 2 + r * k := by rw [Nat.mul_add, ← Nat.mul_assoc]
    have h3 : b * (r * F / b * 2) = b * (r * F / b) * 2 := (Nat.mul_assoc _ _ _).symm
    rw [h2, h3]
    omega
  constructor
  · rw [e, Nat.add_mul_mod_self_left]
  · rw [e, Nat.add_mul_div_left _ _ hb]
    omega
/-- one or two taken away -/
theorem sc_one {x b : Nat} (hx : x < 2 * b) : (if b ≤ x then x - b else x) = x % b ∧ (if b ≤ x then 1 else 0) = x / b := by
  have hb : 0 < b := by omega
  split
  · rename_i h
    rw [Nat.mod_eq_sub_mod h, Nat.mod_eq_of_lt (by omega), Nat.div_eq_sub_div hb h, Nat.div_eq_of_lt (by omega)]
    exact ⟨rfl, rfl⟩
  · rename_i h
    rw [Nat.mod_eq_of_lt (by omega), Nat.div_eq_of_lt (by omega)]
    exact ⟨rfl, rfl⟩
/-- the bits of a factor that are in when j are left -/
def sF (f j : Nat) : Nat := f / 2 ^ j
theorem sF_s (f j : Nat) : sF f j = sF f (j + 1) * 2 + sF f j % 2 := by
  unfold sF
  rw [Nat.pow_succ, ← Nat.div_div_eq_div_mul]
  omega
theorem zL_sr {a j : Nat} (ha : a < 2 ^ 62) (hj : j < 46) : zL (a : Int) >>> ((zI (j : Int)).toInt64 &&& 63) = zL ((a / 2 ^ j : Nat) : Int) := by
  have h : ∀ j : Nat, j < 46 → (((zI (j : Int)).toInt64 &&& 63).toBitVec.smod 64).toNat = j := by decide +kernel
  exact zL_shr (h j hj) ha
theorem zL_a1 {a : Nat} (ha : a < 2 ^ 62) : zL (a : Int) &&& zL 1 = zL ((a % 2 : Nat) : Int) := by
  have h := zL_and (a := a) (b := 1) (by omega) (by decide)
  rw [show ((1 : Nat) : Int) = 1 from rfl] at h
  rw [h]
  have e := Nat.and_two_pow_sub_one_eq_mod a 1
  rw [show 2 ^ 1 - 1 = 1 from rfl, show 2 ^ 1 = 2 from rfl] at e
  rw [e]
theorem sc_whole {a b f : Nat} (hb : 0 < b) : a % b * f / b + f * (a / b) = a * f / b := by
  have h := Nat.mod_add_div a b
  have e : a * f = a % b * f + b * (f * (a / b)) := by
    have h2 : b * (f * (a / b)) = b * (a / b) * f := by rw [Nat.mul_comm f, Nat.mul_assoc]
    rw [h2, ← Nat.add_mul, h]
  rw [e, Nat.add_mul_div_left _ _ hb]
theorem sc_cut {a b f : Nat} : a % b * f % b = a * f % b := by rw [Nat.mod_mul_mod]
def scQ (r b f j : Nat) : Nat := r * sF f j / b
def scR (r b f j : Nat) : Nat := r * sF f j % b
theorem sc_u {x b q t : Nat} (h : x = q * b + t) (ht : t < b) : x / b = q ∧ x % b = t := by
  subst h
  rw [Nat.mul_comm q b]
  exact ⟨by rw [Nat.mul_add_div (by omega), Nat.div_eq_of_lt ht, Nat.add_zero], by rw [Nat.mul_add_mod, Nat.mod_eq_of_lt ht]⟩
theorem sc_q0 {r b f j j9 q t : Nat} (hb : 0 < b) (hr : r < b) (hj : j9 = j + 1) (hk : sF f j % 2 = 0) (h : scR r b f j9 * 2 = q * b + t) (ht : t < b) : scQ r b f j = scQ r b f j9 * 2 + q ∧ scR r b f j = t := by
  subst hj
  have h1 := sc_step (F := sF f (j + 1)) (k := 0) hb hr (by omega)
  have h2 := sF_s f j
  rw [hk] at h2
  rw [← h2, Nat.mul_zero, Nat.add_zero] at h1
  have h3 := sc_u h ht
  unfold scQ scR at *
  rw [← h1.1, ← h1.2, h3.1, h3.2]
  exact ⟨rfl, rfl⟩
theorem sc_q1 {r b f j j9 q t : Nat} (hb : 0 < b) (hr : r < b) (hj : j9 = j + 1) (hk : sF f j % 2 = 1) (h : scR r b f j9 * 2 + r = q * b + t) (ht : t < b) : scQ r b f j = scQ r b f j9 * 2 + q ∧ scR r b f j = t := by
  subst hj
  have h1 := sc_step (F := sF f (j + 1)) (k := 1) hb hr (by omega)
  have h2 := sF_s f j
  rw [hk] at h2
  rw [← h2, Nat.mul_one] at h1
  have h3 := sc_u h ht
  unfold scQ scR at *
  rw [← h1.1, ← h1.2, h3.1, h3.2]
  exact ⟨rfl, rfl⟩
theorem sc_end {a b f : Nat} (hb : 0 < b) : scQ (a % b) b f 0 + f * (a / b) = a * f / b ∧ scR (a % b) b f 0 = a * f % b := by
  unfold scQ scR sF
  rw [Nat.pow_zero, Nat.div_one]
  exact ⟨sc_whole hb, sc_cut⟩
set_option maxRecDepth 20000 in
theorem c_X11_scaled {l : Launch} (hfl : l.stackTraces = false) (E : zE) (σ : zS) (f a b : Nat) (hf : f < 2 ^ 46) (ha : a < 2 ^ 62) (hb : 0 < b ∧ b < 2 ^ 60) : zRl l E yX11_scaled cX11_scaled 16 (zrm 0 0) [.ref (ob E 327), .long (zL (f : Int)), .long (zL (a : Int)), .long (zL (b : Int))] σ (fun r τ => r = zL ((a * f / b : Nat) : Int) ∧ τ = mC σ (decide (a * f % b ≠ 0))) := by
  refine Met.ofW (cc := cX11_scaled) (maxL := 16) (ret := (some .long)) (by decide +kernel) rfl ?_
  intro p e s m args below meth c s₁ B hml hv
  obtain ⟨rfl, hd⟩ := hv
  have C := zX_of (own := RX11) hfl B hml rfl hd rfl
  have hr := B.returns
  refine zV_go hd (Nat.le_of_ble_eq_true rfl) (lv := [(0, .ref (ob E 327)), (1, .long (zL (f : Int))), (3, .long (zL (a : Int))), (5, .long (zL (b : Int)))]) rfl ?_
  obtain ⟨r9, hr9⟩ : ∃ z, z = a % b := ⟨_, rfl⟩
  obtain ⟨w9, hw9⟩ : ∃ z, z = a / b := ⟨_, rfl⟩
  have hrb : r9 < b := by rw [hr9]; exact Nat.mod_lt a hb.1
  have hdv : w9 ≤ a := by rw [hw9]; exact Nat.div_le_self a b
  have hend := sc_end (a := a) (f := f) hb.1
  rw [← hr9, ← hw9] at hend
  refine zv_lload_n C 2 dX11_scaled_0 rfl rfl ?_
  refine zv_lload C 3 dX11_scaled_1 rfl ?_
  refine zv_ldivP C (by omega) (by omega) dX11_scaled_3 ?_
  refine zv_eql (y := (zL (w9 : Int))) (by rw [hw9, Int.natCast_ediv]) ?_
  refine zv_lstore (lv' := [(7, .long (zL (w9 : Int))), (0, .ref (ob E 327)), (1, .long (zL (f : Int))), (3, .long (zL (a : Int))), (5, .long (zL (b : Int)))]) C dX11_scaled_4  (by decide) rfl ?_
  refine zv_lload_n C 3 dX11_scaled_6 rfl rfl ?_
  refine zv_lload C 4 dX11_scaled_7 rfl ?_
  refine zv_lremP C (by omega) (by omega) dX11_scaled_9 ?_
  refine zv_eql (y := (zL (r9 : Int))) (by rw [hr9, Int.natCast_emod]) ?_
  refine zv_lstore (lv' := [(9, .long (zL (r9 : Int))), (7, .long (zL (w9 : Int))), (0, .ref (ob E 327)), (1, .long (zL (f : Int))), (3, .long (zL (a : Int))), (5, .long (zL (b : Int)))]) C dX11_scaled_10  (by decide) rfl ?_
  refine zv_lconst (v := zL 0) C dX11_scaled_12 (by decide) ?_
  refine zv_lstore (lv' := [(11, .long (zL 0)), (9, .long (zL (r9 : Int))), (7, .long (zL (w9 : Int))), (0, .ref (ob E 327)), (1, .long (zL (f : Int))), (3, .long (zL (a : Int))), (5, .long (zL (b : Int)))]) C dX11_scaled_13  (by decide) rfl ?_
  refine zv_lconst (v := zL 0) C dX11_scaled_15 (by decide) ?_
  refine zv_lstore (lv' := [(13, .long (zL 0)), (11, .long (zL 0)), (9, .long (zL (r9 : Int))), (7, .long (zL (w9 : Int))), (0, .ref (ob E 327)), (1, .long (zL (f : Int))), (3, .long (zL (a : Int))), (5, .long (zL (b : Int)))]) C dX11_scaled_16  (by decide) rfl ?_
  refine zv_bipush (v := zI 45) C dX11_scaled_18 (by decide) ?_
  refine zv_istore (lv' := [(15, .int (zI 45)), (13, .long (zL 0)), (11, .long (zL 0)), (9, .long (zL (r9 : Int))), (7, .long (zL (w9 : Int))), (0, .ref (ob E 327)), (1, .long (zL (f : Int))), (3, .long (zL (a : Int))), (5, .long (zL (b : Int)))]) C dX11_scaled_20  (by decide) rfl ?_
  have q22_22 : (45 : Int) = (46 : Int) - 1 := by omega
  have q22_23 : (0 : Int) = (scR r9 b f 46 : Int) := by rw [scR, show sF f 46 = 0 from Nat.div_eq_of_lt hf, Nat.mul_zero, Nat.zero_mod]; rfl
  have q22_24 : (0 : Int) = (scQ r9 b f 46 : Int) := by rw [scQ, show sF f 46 = 0 from Nat.div_eq_of_lt hf, Nat.mul_zero, Nat.zero_div]; rfl
  refine zv_sub (lv' := [(0, .ref (ob E 327)), (1, .long (zL (f : Int))), (5, .long (zL (b : Int))), (7, .long (zL (w9 : Int))), (9, .long (zL (r9 : Int))), (11, .long (zL (scQ r9 b f 46 : Int))), (13, .long (zL (scR r9 b f 46 : Int))), (15, .int (zI ((46 : Int) - 1)))]) [5, 6, 8, 4, 3, 2, 1, 0] (zcons rfl (zcons rfl (zcons rfl (zcons rfl (zcons rfl (zcons (zqL q22_24) (zcons (zqL q22_23) (zcons (zqI q22_22) rfl)))))))) ?_
  refine zv_while (α := Nat) (fun v => v) (fun v => v ≤ 46) (fun v => σ) (fun v => [(0, .ref (ob E 327)), (1, .long (zL (f : Int))), (5, .long (zL (b : Int))), (7, .long (zL (w9 : Int))), (9, .long (zL (r9 : Int))), (11, .long (zL (scQ r9 b f v : Int))), (13, .long (zL (scR r9 b f v : Int))), (15, .int (zI ((v : Int) - 1)))]) (fun v => []) (fun j9 hI ih => ?_) (46) (by omega)
  have hrm : scR r9 b f j9 < b := Nat.mod_lt _ hb.1
  refine zv_iload C 7 dX11_scaled_22 rfl ?_
  refine zv_if_ltZ (tgt := 112) C (by omega) dX11_scaled_24 (by decide) (fun h24 => ?_) (fun h24 => ?_)
  · skip
    have hj0 : j9 = 0 := by omega
    rw [← hj0] at hend
    refine zv_aload_n C 0 dX11_scaled_112 rfl rfl ?_
    refine zv_lload C 6 dX11_scaled_113 rfl ?_
    refine zv_lconst (v := zL 0) C dX11_scaled_115 (by decide) ?_
    refine zv_lc_eqZ (tgt := 124) C (by omega) (by omega) dX11_scaled_116 dX11_scaled_117 (by decide) (fun h116 => ?_) (fun h116 => ?_)
    · skip
      refine zv_iconst (v := zI 0) C dX11_scaled_124 rfl ?_
      refine zP10_24 C (by decide : kd 327 = _) (Or.inl rfl) kX11_258 dX11_scaled_125 ?_
      refine zv_lload C 5 dX11_scaled_128 rfl ?_
      refine zv_lload_n C 1 dX11_scaled_130 rfl rfl ?_
      refine zv_lload C 3 dX11_scaled_131 rfl ?_
      refine zv_lmulZ C dX11_scaled_133 ?_
      refine zv_laddZ C dX11_scaled_134 ?_
      exact zv_lret C hr dX11_scaled_135 ⟨congrArg zL (by rw [← hend.1, Int.natCast_add, Int.natCast_mul]), by rw [mC, decide_eq_false (by rw [← hend.2]; omega)]; rfl⟩
    · skip
      refine zv_iconst (v := zI 1) C dX11_scaled_120 rfl ?_
      refine zv_goto (tgt := 125) C dX11_scaled_121 (by decide) ?_
      refine zP10_24 C (by decide : kd 327 = _) (Or.inr rfl) kX11_258 dX11_scaled_125 ?_
      refine zv_lload C 5 dX11_scaled_128 rfl ?_
      refine zv_lload_n C 1 dX11_scaled_130 rfl rfl ?_
      refine zv_lload C 3 dX11_scaled_131 rfl ?_
      refine zv_lmulZ C dX11_scaled_133 ?_
      refine zv_laddZ C dX11_scaled_134 ?_
      exact zv_lret C hr dX11_scaled_135 ⟨congrArg zL (by rw [← hend.1, Int.natCast_add, Int.natCast_mul]), by rw [mC, decide_eq_true (by rw [← hend.2]; omega)]; rfl⟩
  · skip
    obtain ⟨j, hj⟩ : ∃ j, j9 = j + 1 := ⟨j9 - 1, by omega⟩
    have hfj : sF f j ≤ f := Nat.div_le_self _ _
    have hk1 := Nat.mod_lt (sF f j) (show 0 < 2 by decide)
    refine zv_lload C 5 dX11_scaled_27 rfl ?_
    refine zv_ldc2 C kX11_256 dX11_scaled_29 ?_
    refine zv_eql (y := zL 2) (by decide) ?_
    refine zv_lmulZ C dX11_scaled_32 ?_
    refine zv_lstore (lv' := [(11, .long (zL ((scQ r9 b f j9 : Int) * 2))), (0, .ref (ob E 327)), (1, .long (zL (f : Int))), (5, .long (zL (b : Int))), (7, .long (zL (w9 : Int))), (9, .long (zL (r9 : Int))), (13, .long (zL (scR r9 b f j9 : Int))), (15, .int (zI ((j9 : Int) - 1)))]) C dX11_scaled_33  (by decide) rfl ?_
    refine zv_lload C 6 dX11_scaled_35 rfl ?_
    refine zv_ldc2 C kX11_256 dX11_scaled_37 ?_
    refine zv_eql (y := zL 2) (by decide) ?_
    refine zv_lmulZ C dX11_scaled_40 ?_
    refine zv_lstore (lv' := [(13, .long (zL ((scR r9 b f j9 : Int) * 2))), (11, .long (zL ((scQ r9 b f j9 : Int) * 2))), (0, .ref (ob E 327)), (1, .long (zL (f : Int))), (5, .long (zL (b : Int))), (7, .long (zL (w9 : Int))), (9, .long (zL (r9 : Int))), (15, .int (zI ((j9 : Int) - 1)))]) C dX11_scaled_41  (by decide) rfl ?_
    refine zv_lload C 0 dX11_scaled_43 rfl ?_
    refine zv_lload C 4 dX11_scaled_45 rfl ?_
    refine zv_lc_ltZ (tgt := 64) C (by omega) (by omega) dX11_scaled_47 dX11_scaled_48 (by decide) (fun h47 => ?_) (fun h47 => ?_)
    · skip
      refine zv_lload_n C 3 dX11_scaled_64 rfl rfl ?_
      refine zv_iload C 7 dX11_scaled_65 rfl ?_
      refine zv_lshr C dX11_scaled_67 ?_
      refine zv_eql (y := (zL ((sF f j : Nat) : Int))) (by rw [show (j9 : Int) - 1 = (j : Int) by omega]; exact zL_sr (by omega) (by omega)) ?_
      refine zv_lconst (v := zL 1) C dX11_scaled_68 (by decide) ?_
      refine zv_land C dX11_scaled_69 ?_
      refine zv_eql (y := (zL ((sF f j % 2 : Nat) : Int))) (zL_a1 (by omega)) ?_
      refine zv_lconst (v := zL 0) C dX11_scaled_70 (by decide) ?_
      refine zv_lc_neZ (tgt := 78) C (by omega) (by omega) dX11_scaled_71 dX11_scaled_72 (by decide) (fun h71 => ?_) (fun h71 => ?_)
      · skip
        refine zv_lload C 0 dX11_scaled_78 rfl ?_
        refine zv_lload C 6 dX11_scaled_80 rfl ?_
        refine zv_laddZ C dX11_scaled_82 ?_
        refine zv_lstore (lv' := [(13, .long (zL (((scR r9 b f j9 : Int) * 2) + (r9 : Int)))), (11, .long (zL ((scQ r9 b f j9 : Int) * 2))), (0, .ref (ob E 327)), (1, .long (zL (f : Int))), (5, .long (zL (b : Int))), (7, .long (zL (w9 : Int))), (9, .long (zL (r9 : Int))), (15, .int (zI ((j9 : Int) - 1)))]) C dX11_scaled_83  (by decide) rfl ?_
        refine zv_lload C 0 dX11_scaled_85 rfl ?_
        refine zv_lload C 4 dX11_scaled_87 rfl ?_
        refine zv_lc_ltZ (tgt := 106) C (by omega) (by omega) dX11_scaled_89 dX11_scaled_90 (by decide) (fun h89 => ?_) (fun h89 => ?_)
        · skip
          refine zv_iinc (v := (zI ((j9 : Int) - 1 + (-1)))) (lv' := [(15, .int (zI ((j9 : Int) - 1 + (-1)))), (13, .long (zL (((scR r9 b f j9 : Int) * 2) + (r9 : Int)))), (11, .long (zL ((scQ r9 b f j9 : Int) * 2))), (0, .ref (ob E 327)), (1, .long (zL (f : Int))), (5, .long (zL (b : Int))), (7, .long (zL (w9 : Int))), (9, .long (zL (r9 : Int)))]) C 7 dX11_scaled_106 rfl (zI_add _ _) (by decide) rfl ?_
          refine zv_goto (tgt := 22) C dX11_scaled_109 (by decide) ?_
          have q22_94 : ((j9 : Int) - 1 + (-1) : Int) = (j : Int) - 1 := by omega
          have q22_95 : (((scR r9 b f j9 : Int) * 2) + (r9 : Int) : Int) = (scR r9 b f j : Int) := by first | (rw [(sc_q0 (q := 0) (t := scR r9 b f j9 * 2) hb.1 hrb hj (by omega) (by omega) (by omega)).2]; omega) | (rw [(sc_q0 (q := 1) (t := scR r9 b f j9 * 2 - b) hb.1 hrb hj (by omega) (by omega) (by omega)).2]; omega) | (rw [(sc_q1 (q := 0) (t := scR r9 b f j9 * 2 + r9) hb.1 hrb hj (by omega) (by omega) (by omega)).2]; omega) | (rw [(sc_q1 (q := 1) (t := scR r9 b f j9 * 2 + r9 - b) hb.1 hrb hj (by omega) (by omega) (by omega)).2]; omega) | (rw [(sc_q1 (q := 2) (t := scR r9 b f j9 * 2 + r9 - 2 * b) hb.1 hrb hj (by omega) (by omega) (by omega)).2]; omega)
          have q22_96 : ((scQ r9 b f j9 : Int) * 2 : Int) = (scQ r9 b f j : Int) := by first | (rw [(sc_q0 (q := 0) (t := scR r9 b f j9 * 2) hb.1 hrb hj (by omega) (by omega) (by omega)).1]; omega) | (rw [(sc_q0 (q := 1) (t := scR r9 b f j9 * 2 - b) hb.1 hrb hj (by omega) (by omega) (by omega)).1]; omega) | (rw [(sc_q1 (q := 0) (t := scR r9 b f j9 * 2 + r9) hb.1 hrb hj (by omega) (by omega) (by omega)).1]; omega) | (rw [(sc_q1 (q := 1) (t := scR r9 b f j9 * 2 + r9 - b) hb.1 hrb hj (by omega) (by omega) (by omega)).1]; omega) | (rw [(sc_q1 (q := 2) (t := scR r9 b f j9 * 2 + r9 - 2 * b) hb.1 hrb hj (by omega) (by omega) (by omega)).1]; omega)
          refine zv_sub (lv' := [(0, .ref (ob E 327)), (1, .long (zL (f : Int))), (5, .long (zL (b : Int))), (7, .long (zL (w9 : Int))), (9, .long (zL (r9 : Int))), (11, .long (zL (scQ r9 b f j : Int))), (13, .long (zL (scR r9 b f j : Int))), (15, .int (zI ((j : Int) - 1)))]) [3, 4, 5, 6, 7, 2, 1, 0] (zcons rfl (zcons rfl (zcons rfl (zcons rfl (zcons rfl (zcons (zqL q22_96) (zcons (zqL q22_95) (zcons (zqI q22_94) rfl)))))))) ?_
          exact ih (j) (by show j ≤ 46; omega) (by show j < j9; omega)
        · skip
          refine zv_lload C 0 dX11_scaled_93 rfl ?_
          refine zv_lload C 4 dX11_scaled_95 rfl ?_
          refine zv_lsubZ C dX11_scaled_97 ?_
          refine zv_lstore (lv' := [(13, .long (zL ((((scR r9 b f j9 : Int) * 2) + (r9 : Int)) - (b : Int)))), (11, .long (zL ((scQ r9 b f j9 : Int) * 2))), (0, .ref (ob E 327)), (1, .long (zL (f : Int))), (5, .long (zL (b : Int))), (7, .long (zL (w9 : Int))), (9, .long (zL (r9 : Int))), (15, .int (zI ((j9 : Int) - 1)))]) C dX11_scaled_98  (by decide) rfl ?_
          refine zv_lload C 1 dX11_scaled_100 rfl ?_
          refine zv_lconst (v := zL 1) C dX11_scaled_102 (by decide) ?_
          refine zv_laddZ C dX11_scaled_103 ?_
          refine zv_lstore (lv' := [(11, .long (zL (((scQ r9 b f j9 : Int) * 2) + 1))), (13, .long (zL ((((scR r9 b f j9 : Int) * 2) + (r9 : Int)) - (b : Int)))), (0, .ref (ob E 327)), (1, .long (zL (f : Int))), (5, .long (zL (b : Int))), (7, .long (zL (w9 : Int))), (9, .long (zL (r9 : Int))), (15, .int (zI ((j9 : Int) - 1)))]) C dX11_scaled_104  (by decide) rfl ?_
          refine zv_iinc (v := (zI ((j9 : Int) - 1 + (-1)))) (lv' := [(15, .int (zI ((j9 : Int) - 1 + (-1)))), (11, .long (zL (((scQ r9 b f j9 : Int) * 2) + 1))), (13, .long (zL ((((scR r9 b f j9 : Int) * 2) + (r9 : Int)) - (b : Int)))), (0, .ref (ob E 327)), (1, .long (zL (f : Int))), (5, .long (zL (b : Int))), (7, .long (zL (w9 : Int))), (9, .long (zL (r9 : Int)))]) C 7 dX11_scaled_106 rfl (zI_add _ _) (by decide) rfl ?_
          refine zv_goto (tgt := 22) C dX11_scaled_109 (by decide) ?_
          have q22_110 : ((j9 : Int) - 1 + (-1) : Int) = (j : Int) - 1 := by omega
          have q22_111 : ((((scR r9 b f j9 : Int) * 2) + (r9 : Int)) - (b : Int) : Int) = (scR r9 b f j : Int) := by first | (rw [(sc_q0 (q := 0) (t := scR r9 b f j9 * 2) hb.1 hrb hj (by omega) (by omega) (by omega)).2]; omega) | (rw [(sc_q0 (q := 1) (t := scR r9 b f j9 * 2 - b) hb.1 hrb hj (by omega) (by omega) (by omega)).2]; omega) | (rw [(sc_q1 (q := 0) (t := scR r9 b f j9 * 2 + r9) hb.1 hrb hj (by omega) (by omega) (by omega)).2]; omega) | (rw [(sc_q1 (q := 1) (t := scR r9 b f j9 * 2 + r9 - b) hb.1 hrb hj (by omega) (by omega) (by omega)).2]; omega) | (rw [(sc_q1 (q := 2) (t := scR r9 b f j9 * 2 + r9 - 2 * b) hb.1 hrb hj (by omega) (by omega) (by omega)).2]; omega)
          have q22_112 : (((scQ r9 b f j9 : Int) * 2) + 1 : Int) = (scQ r9 b f j : Int) := by first | (rw [(sc_q0 (q := 0) (t := scR r9 b f j9 * 2) hb.1 hrb hj (by omega) (by omega) (by omega)).1]; omega) | (rw [(sc_q0 (q := 1) (t := scR r9 b f j9 * 2 - b) hb.1 hrb hj (by omega) (by omega) (by omega)).1]; omega) | (rw [(sc_q1 (q := 0) (t := scR r9 b f j9 * 2 + r9) hb.1 hrb hj (by omega) (by omega) (by omega)).1]; omega) | (rw [(sc_q1 (q := 1) (t := scR r9 b f j9 * 2 + r9 - b) hb.1 hrb hj (by omega) (by omega) (by omega)).1]; omega) | (rw [(sc_q1 (q := 2) (t := scR r9 b f j9 * 2 + r9 - 2 * b) hb.1 hrb hj (by omega) (by omega) (by omega)).1]; omega)
          refine zv_sub (lv' := [(0, .ref (ob E 327)), (1, .long (zL (f : Int))), (5, .long (zL (b : Int))), (7, .long (zL (w9 : Int))), (9, .long (zL (r9 : Int))), (11, .long (zL (scQ r9 b f j : Int))), (13, .long (zL (scR r9 b f j : Int))), (15, .int (zI ((j : Int) - 1)))]) [3, 4, 5, 6, 7, 1, 2, 0] (zcons rfl (zcons rfl (zcons rfl (zcons rfl (zcons rfl (zcons (zqL q22_112) (zcons (zqL q22_111) (zcons (zqI q22_110) rfl)))))))) ?_
          exact ih (j) (by show j ≤ 46; omega) (by show j < j9; omega)
      · skip
        refine zv_goto (tgt := 106) C dX11_scaled_75 (by decide) ?_
        refine zv_iinc (v := (zI ((j9 : Int) - 1 + (-1)))) (lv' := [(15, .int (zI ((j9 : Int) - 1 + (-1)))), (13, .long (zL ((scR r9 b f j9 : Int) * 2))), (11, .long (zL ((scQ r9 b f j9 : Int) * 2))), (0, .ref (ob E 327)), (1, .long (zL (f : Int))), (5, .long (zL (b : Int))), (7, .long (zL (w9 : Int))), (9, .long (zL (r9 : Int)))]) C 7 dX11_scaled_106 rfl (zI_add _ _) (by decide) rfl ?_
        refine zv_goto (tgt := 22) C dX11_scaled_109 (by decide) ?_
        have q22_119 : ((j9 : Int) - 1 + (-1) : Int) = (j : Int) - 1 := by omega
        have q22_120 : ((scR r9 b f j9 : Int) * 2 : Int) = (scR r9 b f j : Int) := by first | (rw [(sc_q0 (q := 0) (t := scR r9 b f j9 * 2) hb.1 hrb hj (by omega) (by omega) (by omega)).2]; omega) | (rw [(sc_q0 (q := 1) (t := scR r9 b f j9 * 2 - b) hb.1 hrb hj (by omega) (by omega) (by omega)).2]; omega) | (rw [(sc_q1 (q := 0) (t := scR r9 b f j9 * 2 + r9) hb.1 hrb hj (by omega) (by omega) (by omega)).2]; omega) | (rw [(sc_q1 (q := 1) (t := scR r9 b f j9 * 2 + r9 - b) hb.1 hrb hj (by omega) (by omega) (by omega)).2]; omega) | (rw [(sc_q1 (q := 2) (t := scR r9 b f j9 * 2 + r9 - 2 * b) hb.1 hrb hj (by omega) (by omega) (by omega)).2]; omega)
        have q22_121 : ((scQ r9 b f j9 : Int) * 2 : Int) = (scQ r9 b f j : Int) := by first | (rw [(sc_q0 (q := 0) (t := scR r9 b f j9 * 2) hb.1 hrb hj (by omega) (by omega) (by omega)).1]; omega) | (rw [(sc_q0 (q := 1) (t := scR r9 b f j9 * 2 - b) hb.1 hrb hj (by omega) (by omega) (by omega)).1]; omega) | (rw [(sc_q1 (q := 0) (t := scR r9 b f j9 * 2 + r9) hb.1 hrb hj (by omega) (by omega) (by omega)).1]; omega) | (rw [(sc_q1 (q := 1) (t := scR r9 b f j9 * 2 + r9 - b) hb.1 hrb hj (by omega) (by omega) (by omega)).1]; omega) | (rw [(sc_q1 (q := 2) (t := scR r9 b f j9 * 2 + r9 - 2 * b) hb.1 hrb hj (by omega) (by omega) (by omega)).1]; omega)
        refine zv_sub (lv' := [(0, .ref (ob E 327)), (1, .long (zL (f : Int))), (5, .long (zL (b : Int))), (7, .long (zL (w9 : Int))), (9, .long (zL (r9 : Int))), (11, .long (zL (scQ r9 b f j : Int))), (13, .long (zL (scR r9 b f j : Int))), (15, .int (zI ((j : Int) - 1)))]) [3, 4, 5, 6, 7, 2, 1, 0] (zcons rfl (zcons rfl (zcons rfl (zcons rfl (zcons rfl (zcons (zqL q22_121) (zcons (zqL q22_120) (zcons (zqI q22_119) rfl)))))))) ?_
        exact ih (j) (by show j ≤ 46; omega) (by show j < j9; omega)
    · skip
      refine zv_lload C 0 dX11_scaled_51 rfl ?_
      refine zv_lload C 4 dX11_scaled_53 rfl ?_
      refine zv_lsubZ C dX11_scaled_55 ?_
      refine zv_lstore (lv' := [(13, .long (zL (((scR r9 b f j9 : Int) * 2) - (b : Int)))), (11, .long (zL ((scQ r9 b f j9 : Int) * 2))), (0, .ref (ob E 327)), (1, .long (zL (f : Int))), (5, .long (zL (b : Int))), (7, .long (zL (w9 : Int))), (9, .long (zL (r9 : Int))), (15, .int (zI ((j9 : Int) - 1)))]) C dX11_scaled_56  (by decide) rfl ?_
      refine zv_lload C 1 dX11_scaled_58 rfl ?_
      refine zv_lconst (v := zL 1) C dX11_scaled_60 (by decide) ?_
      refine zv_laddZ C dX11_scaled_61 ?_
      refine zv_lstore (lv' := [(11, .long (zL (((scQ r9 b f j9 : Int) * 2) + 1))), (13, .long (zL (((scR r9 b f j9 : Int) * 2) - (b : Int)))), (0, .ref (ob E 327)), (1, .long (zL (f : Int))), (5, .long (zL (b : Int))), (7, .long (zL (w9 : Int))), (9, .long (zL (r9 : Int))), (15, .int (zI ((j9 : Int) - 1)))]) C dX11_scaled_62  (by decide) rfl ?_
      refine zv_lload_n C 3 dX11_scaled_64 rfl rfl ?_
      refine zv_iload C 7 dX11_scaled_65 rfl ?_
      refine zv_lshr C dX11_scaled_67 ?_
      refine zv_eql (y := (zL ((sF f j : Nat) : Int))) (by rw [show (j9 : Int) - 1 = (j : Int) by omega]; exact zL_sr (by omega) (by omega)) ?_
      refine zv_lconst (v := zL 1) C dX11_scaled_68 (by decide) ?_
      refine zv_land C dX11_scaled_69 ?_
      refine zv_eql (y := (zL ((sF f j % 2 : Nat) : Int))) (zL_a1 (by omega)) ?_
      refine zv_lconst (v := zL 0) C dX11_scaled_70 (by decide) ?_
      refine zv_lc_neZ (tgt := 78) C (by omega) (by omega) dX11_scaled_71 dX11_scaled_72 (by decide) (fun h71 => ?_) (fun h71 => ?_)
      · skip
        refine zv_lload C 1 dX11_scaled_78 rfl ?_
        refine zv_lload C 6 dX11_scaled_80 rfl ?_
        refine zv_laddZ C dX11_scaled_82 ?_
        refine zv_lstore (lv' := [(13, .long (zL ((((scR r9 b f j9 : Int) * 2) - (b : Int)) + (r9 : Int)))), (11, .long (zL (((scQ r9 b f j9 : Int) * 2) + 1))), (0, .ref (ob E 327)), (1, .long (zL (f : Int))), (5, .long (zL (b : Int))), (7, .long (zL (w9 : Int))), (9, .long (zL (r9 : Int))), (15, .int (zI ((j9 : Int) - 1)))]) C dX11_scaled_83  (by decide) rfl ?_
        refine zv_lload C 0 dX11_scaled_85 rfl ?_
        refine zv_lload C 4 dX11_scaled_87 rfl ?_
        refine zv_lc_ltZ (tgt := 106) C (by omega) (by omega) dX11_scaled_89 dX11_scaled_90 (by decide) (fun h89 => ?_) (fun h89 => ?_)
        · skip
          refine zv_iinc (v := (zI ((j9 : Int) - 1 + (-1)))) (lv' := [(15, .int (zI ((j9 : Int) - 1 + (-1)))), (13, .long (zL ((((scR r9 b f j9 : Int) * 2) - (b : Int)) + (r9 : Int)))), (11, .long (zL (((scQ r9 b f j9 : Int) * 2) + 1))), (0, .ref (ob E 327)), (1, .long (zL (f : Int))), (5, .long (zL (b : Int))), (7, .long (zL (w9 : Int))), (9, .long (zL (r9 : Int)))]) C 7 dX11_scaled_106 rfl (zI_add _ _) (by decide) rfl ?_
          refine zv_goto (tgt := 22) C dX11_scaled_109 (by decide) ?_
          have q22_153 : ((j9 : Int) - 1 + (-1) : Int) = (j : Int) - 1 := by omega
          have q22_154 : ((((scR r9 b f j9 : Int) * 2) - (b : Int)) + (r9 : Int) : Int) = (scR r9 b f j : Int) := by first | (rw [(sc_q0 (q := 0) (t := scR r9 b f j9 * 2) hb.1 hrb hj (by omega) (by omega) (by omega)).2]; omega) | (rw [(sc_q0 (q := 1) (t := scR r9 b f j9 * 2 - b) hb.1 hrb hj (by omega) (by omega) (by omega)).2]; omega) | (rw [(sc_q1 (q := 0) (t := scR r9 b f j9 * 2 + r9) hb.1 hrb hj (by omega) (by omega) (by omega)).2]; omega) | (rw [(sc_q1 (q := 1) (t := scR r9 b f j9 * 2 + r9 - b) hb.1 hrb hj (by omega) (by omega) (by omega)).2]; omega) | (rw [(sc_q1 (q := 2) (t := scR r9 b f j9 * 2 + r9 - 2 * b) hb.1 hrb hj (by omega) (by omega) (by omega)).2]; omega)
          have q22_155 : (((scQ r9 b f j9 : Int) * 2) + 1 : Int) = (scQ r9 b f j : Int) := by first | (rw [(sc_q0 (q := 0) (t := scR r9 b f j9 * 2) hb.1 hrb hj (by omega) (by omega) (by omega)).1]; omega) | (rw [(sc_q0 (q := 1) (t := scR r9 b f j9 * 2 - b) hb.1 hrb hj (by omega) (by omega) (by omega)).1]; omega) | (rw [(sc_q1 (q := 0) (t := scR r9 b f j9 * 2 + r9) hb.1 hrb hj (by omega) (by omega) (by omega)).1]; omega) | (rw [(sc_q1 (q := 1) (t := scR r9 b f j9 * 2 + r9 - b) hb.1 hrb hj (by omega) (by omega) (by omega)).1]; omega) | (rw [(sc_q1 (q := 2) (t := scR r9 b f j9 * 2 + r9 - 2 * b) hb.1 hrb hj (by omega) (by omega) (by omega)).1]; omega)
          refine zv_sub (lv' := [(0, .ref (ob E 327)), (1, .long (zL (f : Int))), (5, .long (zL (b : Int))), (7, .long (zL (w9 : Int))), (9, .long (zL (r9 : Int))), (11, .long (zL (scQ r9 b f j : Int))), (13, .long (zL (scR r9 b f j : Int))), (15, .int (zI ((j : Int) - 1)))]) [3, 4, 5, 6, 7, 2, 1, 0] (zcons rfl (zcons rfl (zcons rfl (zcons rfl (zcons rfl (zcons (zqL q22_155) (zcons (zqL q22_154) (zcons (zqI q22_153) rfl)))))))) ?_
          exact ih (j) (by show j ≤ 46; omega) (by show j < j9; omega)
        · skip
          refine zv_lload C 0 dX11_scaled_93 rfl ?_
          refine zv_lload C 4 dX11_scaled_95 rfl ?_
          refine zv_lsubZ C dX11_scaled_97 ?_
          refine zv_lstore (lv' := [(13, .long (zL (((((scR r9 b f j9 : Int) * 2) - (b : Int)) + (r9 : Int)) - (b : Int)))), (11, .long (zL (((scQ r9 b f j9 : Int) * 2) + 1))), (0, .ref (ob E 327)), (1, .long (zL (f : Int))), (5, .long (zL (b : Int))), (7, .long (zL (w9 : Int))), (9, .long (zL (r9 : Int))), (15, .int (zI ((j9 : Int) - 1)))]) C dX11_scaled_98  (by decide) rfl ?_
          refine zv_lload C 1 dX11_scaled_100 rfl ?_
          refine zv_lconst (v := zL 1) C dX11_scaled_102 (by decide) ?_
          refine zv_laddZ C dX11_scaled_103 ?_
          refine zv_lstore (lv' := [(11, .long (zL ((((scQ r9 b f j9 : Int) * 2) + 1) + 1))), (13, .long (zL (((((scR r9 b f j9 : Int) * 2) - (b : Int)) + (r9 : Int)) - (b : Int)))), (0, .ref (ob E 327)), (1, .long (zL (f : Int))), (5, .long (zL (b : Int))), (7, .long (zL (w9 : Int))), (9, .long (zL (r9 : Int))), (15, .int (zI ((j9 : Int) - 1)))]) C dX11_scaled_104  (by decide) rfl ?_
          refine zv_iinc (v := (zI ((j9 : Int) - 1 + (-1)))) (lv' := [(15, .int (zI ((j9 : Int) - 1 + (-1)))), (11, .long (zL ((((scQ r9 b f j9 : Int) * 2) + 1) + 1))), (13, .long (zL (((((scR r9 b f j9 : Int) * 2) - (b : Int)) + (r9 : Int)) - (b : Int)))), (0, .ref (ob E 327)), (1, .long (zL (f : Int))), (5, .long (zL (b : Int))), (7, .long (zL (w9 : Int))), (9, .long (zL (r9 : Int)))]) C 7 dX11_scaled_106 rfl (zI_add _ _) (by decide) rfl ?_
          refine zv_goto (tgt := 22) C dX11_scaled_109 (by decide) ?_
          have q22_169 : ((j9 : Int) - 1 + (-1) : Int) = (j : Int) - 1 := by omega
          have q22_170 : (((((scR r9 b f j9 : Int) * 2) - (b : Int)) + (r9 : Int)) - (b : Int) : Int) = (scR r9 b f j : Int) := by first | (rw [(sc_q0 (q := 0) (t := scR r9 b f j9 * 2) hb.1 hrb hj (by omega) (by omega) (by omega)).2]; omega) | (rw [(sc_q0 (q := 1) (t := scR r9 b f j9 * 2 - b) hb.1 hrb hj (by omega) (by omega) (by omega)).2]; omega) | (rw [(sc_q1 (q := 0) (t := scR r9 b f j9 * 2 + r9) hb.1 hrb hj (by omega) (by omega) (by omega)).2]; omega) | (rw [(sc_q1 (q := 1) (t := scR r9 b f j9 * 2 + r9 - b) hb.1 hrb hj (by omega) (by omega) (by omega)).2]; omega) | (rw [(sc_q1 (q := 2) (t := scR r9 b f j9 * 2 + r9 - 2 * b) hb.1 hrb hj (by omega) (by omega) (by omega)).2]; omega)
          have q22_171 : ((((scQ r9 b f j9 : Int) * 2) + 1) + 1 : Int) = (scQ r9 b f j : Int) := by first | (rw [(sc_q0 (q := 0) (t := scR r9 b f j9 * 2) hb.1 hrb hj (by omega) (by omega) (by omega)).1]; omega) | (rw [(sc_q0 (q := 1) (t := scR r9 b f j9 * 2 - b) hb.1 hrb hj (by omega) (by omega) (by omega)).1]; omega) | (rw [(sc_q1 (q := 0) (t := scR r9 b f j9 * 2 + r9) hb.1 hrb hj (by omega) (by omega) (by omega)).1]; omega) | (rw [(sc_q1 (q := 1) (t := scR r9 b f j9 * 2 + r9 - b) hb.1 hrb hj (by omega) (by omega) (by omega)).1]; omega) | (rw [(sc_q1 (q := 2) (t := scR r9 b f j9 * 2 + r9 - 2 * b) hb.1 hrb hj (by omega) (by omega) (by omega)).1]; omega)
          refine zv_sub (lv' := [(0, .ref (ob E 327)), (1, .long (zL (f : Int))), (5, .long (zL (b : Int))), (7, .long (zL (w9 : Int))), (9, .long (zL (r9 : Int))), (11, .long (zL (scQ r9 b f j : Int))), (13, .long (zL (scR r9 b f j : Int))), (15, .int (zI ((j : Int) - 1)))]) [3, 4, 5, 6, 7, 1, 2, 0] (zcons rfl (zcons rfl (zcons rfl (zcons rfl (zcons rfl (zcons (zqL q22_171) (zcons (zqL q22_170) (zcons (zqI q22_169) rfl)))))))) ?_
          exact ih (j) (by show j ≤ 46; omega) (by show j < j9; omega)
      · skip
        refine zv_goto (tgt := 106) C dX11_scaled_75 (by decide) ?_
        refine zv_iinc (v := (zI ((j9 : Int) - 1 + (-1)))) (lv' := [(15, .int (zI ((j9 : Int) - 1 + (-1)))), (11, .long (zL (((scQ r9 b f j9 : Int) * 2) + 1))), (13, .long (zL (((scR r9 b f j9 : Int) * 2) - (b : Int)))), (0, .ref (ob E 327)), (1, .long (zL (f : Int))), (5, .long (zL (b : Int))), (7, .long (zL (w9 : Int))), (9, .long (zL (r9 : Int)))]) C 7 dX11_scaled_106 rfl (zI_add _ _) (by decide) rfl ?_
        refine zv_goto (tgt := 22) C dX11_scaled_109 (by decide) ?_
        have q22_178 : ((j9 : Int) - 1 + (-1) : Int) = (j : Int) - 1 := by omega
        have q22_179 : (((scR r9 b f j9 : Int) * 2) - (b : Int) : Int) = (scR r9 b f j : Int) := by first | (rw [(sc_q0 (q := 0) (t := scR r9 b f j9 * 2) hb.1 hrb hj (by omega) (by omega) (by omega)).2]; omega) | (rw [(sc_q0 (q := 1) (t := scR r9 b f j9 * 2 - b) hb.1 hrb hj (by omega) (by omega) (by omega)).2]; omega) | (rw [(sc_q1 (q := 0) (t := scR r9 b f j9 * 2 + r9) hb.1 hrb hj (by omega) (by omega) (by omega)).2]; omega) | (rw [(sc_q1 (q := 1) (t := scR r9 b f j9 * 2 + r9 - b) hb.1 hrb hj (by omega) (by omega) (by omega)).2]; omega) | (rw [(sc_q1 (q := 2) (t := scR r9 b f j9 * 2 + r9 - 2 * b) hb.1 hrb hj (by omega) (by omega) (by omega)).2]; omega)
        have q22_180 : (((scQ r9 b f j9 : Int) * 2) + 1 : Int) = (scQ r9 b f j : Int) := by first | (rw [(sc_q0 (q := 0) (t := scR r9 b f j9 * 2) hb.1 hrb hj (by omega) (by omega) (by omega)).1]; omega) | (rw [(sc_q0 (q := 1) (t := scR r9 b f j9 * 2 - b) hb.1 hrb hj (by omega) (by omega) (by omega)).1]; omega) | (rw [(sc_q1 (q := 0) (t := scR r9 b f j9 * 2 + r9) hb.1 hrb hj (by omega) (by omega) (by omega)).1]; omega) | (rw [(sc_q1 (q := 1) (t := scR r9 b f j9 * 2 + r9 - b) hb.1 hrb hj (by omega) (by omega) (by omega)).1]; omega) | (rw [(sc_q1 (q := 2) (t := scR r9 b f j9 * 2 + r9 - 2 * b) hb.1 hrb hj (by omega) (by omega) (by omega)).1]; omega)
        refine zv_sub (lv' := [(0, .ref (ob E 327)), (1, .long (zL (f : Int))), (5, .long (zL (b : Int))), (7, .long (zL (w9 : Int))), (9, .long (zL (r9 : Int))), (11, .long (zL (scQ r9 b f j : Int))), (13, .long (zL (scR r9 b f j : Int))), (15, .int (zI ((j : Int) - 1)))]) [3, 4, 5, 6, 7, 1, 2, 0] (zcons rfl (zcons rfl (zcons rfl (zcons rfl (zcons rfl (zcons (zqL q22_180) (zcons (zqL q22_179) (zcons (zqI q22_178) rfl)))))))) ?_
        exact ih (j) (by show j ≤ 46; omega) (by show j < j9; omega)
