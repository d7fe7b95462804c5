theorem zMet_ofWF {l : Launch} {y : MethodName} {ws ws' : List Cond} {rm : Room} {Pc : Array Value → State → Prop} {Qc : Array Value → State → Outcome → State → Prop} {mc ms : Nat} {free : Addr → Prop} {cc : ByteArray} {maxL : Nat} {ret : Option FieldType}
    (hy : plainFor y = true) (hw : ws = Cond.code y cc maxL ret :: ws')
    (body : ∀ p e s m args below meth c s₁, BodyLoose p l y (headSpec ws rm) cc maxL ret e s m args below meth c s₁ → c.maxLocals = maxL → Pc args s →
      W p l e (headSpec ws rm).room s m args below meth c s.heap [] 0 0 (MQ below Qc args s mc ms free) (entryFrame m args maxL)) : Met l y ws rm Pc Qc mc ms free := by
  refine MetFree.of_bodySF (code := cc) (maxLocals := maxL) (ret := ret) hy ?_ ?_
  · intro args s m h hn
    obtain ⟨meth, c, h1, h2, h3, h4, h5, h6, -, -⟩ := Cond.code_spec hn (atoms_spec (ws := ws) h _ (by rw [hw]; exact List.mem_cons_self))
    exact ⟨meth, c, h1, h2, h3, h4, h5, h6⟩
  · intro p e s m args below meth c s₁ B hml hP _
    have hh0 : s₁.heap = s.heap := by rw [B.state]; rfl
    obtain ⟨t, a1, o, b1, b2, b3⟩ := body p e s m args below meth c s₁ B hml hP s₁ hh0 (Stand.of_body B)
    exact ⟨t, o, a1, b1, b2, ⟨b3.1, b3.2⟩⟩
theorem kJ9_146 : Cond.methodLink RJ9 146 yJ9_floorMod_f86c9 ∈ zT := zT_mem 1207 (by decide +kernel) (by decide)
theorem zxor_nn {x y : Int64} (hy : 0 ≤ y) : 0 ≤ x ^^^ y ↔ 0 ≤ x := by
  have h : ∀ z : Int64, 0 ≤ z ↔ z.toBitVec.msb = false := by
    intro z
    rw [Int64.le_iff_toInt_le, show (0 : Int64).toInt = 0 from rfl, ← Int64.toInt_toBitVec, BitVec.msb_eq_toInt]
    simp
  rw [h, h, Int64.toBitVec_xor, BitVec.msb_xor, (h y).mp hy]
  simp
theorem zfdiv {a b : Int} (hb : 0 < b) : a / b = if 0 ≤ a then a.tdiv b else if a.tdiv b * b = a then a.tdiv b else a.tdiv b - 1 := by
  have h1 : (b : Int) ≠ 0 := by omega
  have h2 := Int.mul_tdiv_add_tmod a b
  have h3 := Int.emod_add_mul_ediv a b
  have h4 := Int.emod_nonneg a h1
  have h5 := Int.emod_lt_of_pos a hb
  rcases Int.le_total 0 a with h | h
  · rw [if_pos h, Int.tdiv_eq_ediv_of_nonneg h]
  · by_cases h0 : 0 ≤ a
    · rw [if_pos h0, Int.tdiv_eq_ediv_of_nonneg h0]
    rw [if_neg h0]
    have h6 : a.tdiv b = -((-a) / b) := by
      rw [← Int.tdiv_eq_ediv_of_nonneg (by omega : 0 ≤ -a), Int.neg_tdiv, Int.neg_neg]
    have h7 := Int.emod_add_mul_ediv (-a) b
    have h8 := Int.emod_nonneg (-a) h1
    have h9 := Int.emod_lt_of_pos (-a) hb
    rw [h6]
    generalize (-a) / b = q at *
    generalize (-a) % b = r at *
    generalize a / b = Q at *
    generalize a % b = S at *
    have e1 : a = b * (-q) - r := by rw [Int.mul_neg]; omega
    have e2 : b * Q + S = b * (-q) - r := by omega
    have e3 : b * (Q + q) = - r - S := by rw [Int.mul_add]; rw [Int.mul_neg] at e2; omega
    split
    · rename_i hz
      have : r = 0 := by rw [Int.mul_comm] at hz; omega
      have e4 : Q + q = 0 := by
        rcases Int.lt_trichotomy (Q + q) 0 with g | g | g
        · have : b * (Q + q) ≤ b * (-1) := Int.mul_le_mul_of_nonneg_left (by omega) (by omega)
          omega
        · exact g
        · have : b * 1 ≤ b * (Q + q) := Int.mul_le_mul_of_nonneg_left (by omega) (by omega)
          omega
      omega
    · rename_i hz
      have hr : r ≠ 0 := fun hr => hz (by rw [Int.mul_comm]; omega)
      have e4 : Q + q = -1 := by
        rcases Int.lt_trichotomy (Q + q) (-1) with g | g | g
        · have : b * (Q + q) ≤ b * (-2) := Int.mul_le_mul_of_nonneg_left (by omega) (by omega)
          omega
        · exact g
        · have : b * 0 ≤ b * (Q + q) := Int.mul_le_mul_of_nonneg_left (by omega) (by omega)
          omega
      omega
set_option maxRecDepth 20000 in
theorem c_J13_compare_74951 {l : Launch} (hfl : l.stackTraces = false) (E : zE) (σ : zS) (a b : Int) (ha : -9223372036854775808 < a ∧ a < 9223372036854775808) (hb : -9223372036854775808 < b ∧ b < 9223372036854775808) : zRi l E yJ13_compare_74951 cJ13_compare_74951 4 .int (zrm 0 0) [.long (zL a), .long (zL b)] σ (fun r τ => r = zI (if a < b then -1 else if a = b then 0 else 1) ∧ τ = σ) := by
  refine Met.ofW (cc := cJ13_compare_74951) (maxL := 4) (ret := (some .int)) (by decide +kernel) rfl ?_
  intro p e s m args below meth c s₁ B hml hv
  obtain ⟨rfl, hd⟩ := hv
  have C := zX_of (own := RJ13) hfl B hml rfl hd rfl
  have hr := B.returns
  refine zV_go hd (Nat.le_of_ble_eq_true rfl) (lv := [(0, .long (zL a)), (2, .long (zL b))]) rfl ?_
  refine zv_lload_n C 0 dJ13_compare_74951_0 rfl rfl ?_
  refine zv_lload_n C 1 dJ13_compare_74951_1 rfl rfl ?_
  refine zv_lc_geZ (tgt := 10) C (by omega) (by omega) dJ13_compare_74951_2 dJ13_compare_74951_3 (by decide) (fun h2 => ?_) (fun h2 => ?_)
  · skip
    refine zv_lload_n C 0 dJ13_compare_74951_10 rfl rfl ?_
    refine zv_lload_n C 1 dJ13_compare_74951_11 rfl rfl ?_
    refine zv_lc_neZ (tgt := 20) C (by omega) (by omega) dJ13_compare_74951_12 dJ13_compare_74951_13 (by decide) (fun h12 => ?_) (fun h12 => ?_)
    · skip
      refine zv_iconst (v := zI 1) C dJ13_compare_74951_20 rfl ?_
      exact zv_iret C hr rfl dJ13_compare_74951_21 ⟨by congr 1; first | rfl | (split <;> first | rfl | omega | (split <;> first | rfl | omega)), rfl⟩
    · skip
      refine zv_iconst (v := zI 0) C dJ13_compare_74951_16 rfl ?_
      refine zv_goto (tgt := 21) C dJ13_compare_74951_17 (by decide) ?_
      exact zv_iret C hr rfl dJ13_compare_74951_21 ⟨by congr 1; first | rfl | (split <;> first | rfl | omega | (split <;> first | rfl | omega)), rfl⟩
  · skip
    refine zv_iconst (v := zI (-1)) C dJ13_compare_74951_6 rfl ?_
    refine zv_goto (tgt := 21) C dJ13_compare_74951_7 (by decide) ?_
    exact zv_iret C hr rfl dJ13_compare_74951_21 ⟨by congr 1; first | rfl | (split <;> first | rfl | omega | (split <;> first | rfl | omega)), rfl⟩
set_option maxRecDepth 20000 in
theorem c_J9_abs_0f7a4 {l : Launch} (hfl : l.stackTraces = false) (E : zE) (σ : zS) (a : Int) (ha : -2147483648 < a ∧ a < 2147483648) : zRi l E yJ9_abs_0f7a4 cJ9_abs_0f7a4 1 .int (zrm 0 0) [.int (zI a)] σ (fun r τ => r = zI (a.natAbs : Int) ∧ τ = σ) := by
  refine zMet_ofWF (cc := cJ9_abs_0f7a4) (maxL := 1) (ret := (some .int)) (by decide +kernel) rfl ?_
  intro p e s m args below meth c s₁ B hml hv
  obtain ⟨rfl, hd⟩ := hv
  have C := zX_of (own := RJ9) hfl B hml rfl hd rfl
  have hr := B.returns
  refine zV_go hd (Nat.le_of_ble_eq_true rfl) (lv := [(0, .int (zI a))]) rfl ?_
  refine zv_iload_n C 0 dJ9_abs_0f7a4_0 rfl rfl ?_
  refine zv_if_geZ (tgt := 9) C (by omega) dJ9_abs_0f7a4_1 (by decide) (fun h1 => ?_) (fun h1 => ?_)
  · skip
    refine zv_iload_n C 0 dJ9_abs_0f7a4_9 rfl rfl ?_
    exact zv_iret C hr rfl dJ9_abs_0f7a4_10 ⟨by congr 1; omega, rfl⟩
  · skip
    refine zv_iload_n C 0 dJ9_abs_0f7a4_4 rfl rfl ?_
    refine zv_inegZ C dJ9_abs_0f7a4_5 ?_
    refine zv_goto (tgt := 10) C dJ9_abs_0f7a4_6 (by decide) ?_
    exact zv_iret C hr rfl dJ9_abs_0f7a4_10 ⟨by congr 1; omega, rfl⟩
set_option maxRecDepth 20000 in
theorem c_J9_abs_067f4 {l : Launch} (hfl : l.stackTraces = false) (E : zE) (σ : zS) (a : Int) (ha : -9223372036854775808 < a ∧ a < 9223372036854775808) : zRl l E yJ9_abs_067f4 cJ9_abs_067f4 2 (zrm 0 0) [.long (zL a)] σ (fun r τ => r = zL (a.natAbs : Int) ∧ τ = σ) := by
  refine zMet_ofWF (cc := cJ9_abs_067f4) (maxL := 2) (ret := (some .long)) (by decide +kernel) rfl ?_
  intro p e s m args below meth c s₁ B hml hv
  obtain ⟨rfl, hd⟩ := hv
  have C := zX_of (own := RJ9) hfl B hml rfl hd rfl
  have hr := B.returns
  refine zV_go hd (Nat.le_of_ble_eq_true rfl) (lv := [(0, .long (zL a))]) rfl ?_
  refine zv_lload_n C 0 dJ9_abs_067f4_0 rfl rfl ?_
  refine zv_lconst (v := zL 0) C dJ9_abs_067f4_1 (by decide) ?_
  refine zv_lc_geZ (tgt := 11) C (by omega) (by omega) dJ9_abs_067f4_2 dJ9_abs_067f4_3 (by decide) (fun h2 => ?_) (fun h2 => ?_)
  · skip
    refine zv_lload_n C 0 dJ9_abs_067f4_11 rfl rfl ?_
    exact zv_lret C hr dJ9_abs_067f4_12 ⟨by congr 1; omega, rfl⟩
  · skip
    refine zv_lload_n C 0 dJ9_abs_067f4_6 rfl rfl ?_
    refine zv_lnegZ C dJ9_abs_067f4_7 ?_
    refine zv_goto (tgt := 12) C dJ9_abs_067f4_8 (by decide) ?_
    exact zv_lret C hr dJ9_abs_067f4_12 ⟨by congr 1; omega, rfl⟩
set_option maxRecDepth 20000 in
theorem c_J9_max_f86c9 {l : Launch} (hfl : l.stackTraces = false) (E : zE) (σ : zS) (a b : Int) (ha : -9223372036854775808 < a ∧ a < 9223372036854775808) (hb : -9223372036854775808 < b ∧ b < 9223372036854775808) : zRl l E yJ9_max_f86c9 cJ9_max_f86c9 4 (zrm 0 0) [.long (zL a), .long (zL b)] σ (fun r τ => r = zL (max a b) ∧ τ = σ) := by
  refine zMet_ofWF (cc := cJ9_max_f86c9) (maxL := 4) (ret := (some .long)) (by decide +kernel) rfl ?_
  intro p e s m args below meth c s₁ B hml hv
  obtain ⟨rfl, hd⟩ := hv
  have C := zX_of (own := RJ9) hfl B hml rfl hd rfl
  have hr := B.returns
  refine zV_go hd (Nat.le_of_ble_eq_true rfl) (lv := [(0, .long (zL a)), (2, .long (zL b))]) rfl ?_
  refine zv_lload_n C 0 dJ9_max_f86c9_0 rfl rfl ?_
  refine zv_lload_n C 1 dJ9_max_f86c9_1 rfl rfl ?_
  refine zv_lc_ltZ (tgt := 10) C (by omega) (by omega) dJ9_max_f86c9_2 dJ9_max_f86c9_3 (by decide) (fun h2 => ?_) (fun h2 => ?_)
  · skip
    refine zv_lload_n C 1 dJ9_max_f86c9_10 rfl rfl ?_
    exact zv_lret C hr dJ9_max_f86c9_11 ⟨by congr 1; omega, rfl⟩
  · skip
    refine zv_lload_n C 0 dJ9_max_f86c9_6 rfl rfl ?_
    refine zv_goto (tgt := 11) C dJ9_max_f86c9_7 (by decide) ?_
    exact zv_lret C hr dJ9_max_f86c9_11 ⟨by congr 1; omega, rfl⟩
set_option maxRecDepth 20000 in
theorem c_J9_min_f86c9 {l : Launch} (hfl : l.stackTraces = false) (E : zE) (σ : zS) (a b : Int) (ha : -9223372036854775808 < a ∧ a < 9223372036854775808) (hb : -9223372036854775808 < b ∧ b < 9223372036854775808) : zRl l E yJ9_min_f86c9 cJ9_min_f86c9 4 (zrm 0 0) [.long (zL a), .long (zL b)] σ (fun r τ => r = zL (min a b) ∧ τ = σ) := by
  refine zMet_ofWF (cc := cJ9_min_f86c9) (maxL := 4) (ret := (some .long)) (by decide +kernel) rfl ?_
  intro p e s m args below meth c s₁ B hml hv
  obtain ⟨rfl, hd⟩ := hv
  have C := zX_of (own := RJ9) hfl B hml rfl hd rfl
  have hr := B.returns
  refine zV_go hd (Nat.le_of_ble_eq_true rfl) (lv := [(0, .long (zL a)), (2, .long (zL b))]) rfl ?_
  refine zv_lload_n C 0 dJ9_min_f86c9_0 rfl rfl ?_
  refine zv_lload_n C 1 dJ9_min_f86c9_1 rfl rfl ?_
  refine zv_lc_gtZ (tgt := 10) C (by omega) (by omega) dJ9_min_f86c9_2 dJ9_min_f86c9_3 (by decide) (fun h2 => ?_) (fun h2 => ?_)
  · skip
    refine zv_lload_n C 1 dJ9_min_f86c9_10 rfl rfl ?_
    exact zv_lret C hr dJ9_min_f86c9_11 ⟨by congr 1; omega, rfl⟩
  · skip
    refine zv_lload_n C 0 dJ9_min_f86c9_6 rfl rfl ?_
    refine zv_goto (tgt := 11) C dJ9_min_f86c9_7 (by decide) ?_
    exact zv_lret C hr dJ9_min_f86c9_11 ⟨by congr 1; omega, rfl⟩
set_option maxRecDepth 20000 in
theorem c_J9_min_7cf53 {l : Launch} (hfl : l.stackTraces = false) (E : zE) (σ : zS) (a b : Int) (ha : -2147483648 < a ∧ a < 2147483648) (hb : -2147483648 < b ∧ b < 2147483648) : zRi l E yJ9_min_7cf53 cJ9_min_7cf53 2 .int (zrm 0 0) [.int (zI a), .int (zI b)] σ (fun r τ => r = zI (min a b) ∧ τ = σ) := by
  refine zMet_ofWF (cc := cJ9_min_7cf53) (maxL := 2) (ret := (some .int)) (by decide +kernel) rfl ?_
  intro p e s m args below meth c s₁ B hml hv
  obtain ⟨rfl, hd⟩ := hv
  have C := zX_of (own := RJ9) hfl B hml rfl hd rfl
  have hr := B.returns
  refine zV_go hd (Nat.le_of_ble_eq_true rfl) (lv := [(0, .int (zI a)), (1, .int (zI b))]) rfl ?_
  refine zv_iload_n C 0 dJ9_min_7cf53_0 rfl rfl ?_
  refine zv_iload_n C 1 dJ9_min_7cf53_1 rfl rfl ?_
  refine zv_icmp_gtZ (tgt := 9) C (by omega) (by omega) dJ9_min_7cf53_2 (by decide) (fun h2 => ?_) (fun h2 => ?_)
  · skip
    refine zv_iload_n C 1 dJ9_min_7cf53_9 rfl rfl ?_
    exact zv_iret C hr rfl dJ9_min_7cf53_10 ⟨by congr 1; omega, rfl⟩
  · skip
    refine zv_iload_n C 0 dJ9_min_7cf53_5 rfl rfl ?_
    refine zv_goto (tgt := 10) C dJ9_min_7cf53_6 (by decide) ?_
    exact zv_iret C hr rfl dJ9_min_7cf53_10 ⟨by congr 1; omega, rfl⟩
set_option maxRecDepth 20000 in
theorem c_J9_floorDiv_f86c9 {l : Launch} (hfl : l.stackTraces = false) (E : zE) (σ : zS) (a b : Int) (ha : -9223372036854775808 < a ∧ a < 9223372036854775808) (hb : 0 < b ∧ b < 9223372036854775808) : zRl l E yJ9_floorDiv_f86c9 cJ9_floorDiv_f86c9 6 (zrm 0 0) [.long (zL a), .long (zL b)] σ (fun r τ => r = zL (a / b) ∧ τ = σ) := by
  refine zMet_ofWF (cc := cJ9_floorDiv_f86c9) (maxL := 6) (ret := (some .long)) (by decide +kernel) rfl ?_
  intro p e s m args below meth c s₁ B hml hv
  obtain ⟨rfl, hd⟩ := hv
  have C := zX_of (own := RJ9) hfl B hml rfl hd rfl
  have hr := B.returns
  refine zV_go hd (Nat.le_of_ble_eq_true rfl) (lv := [(0, .long (zL a)), (2, .long (zL b))]) rfl ?_
  have hbz : (0 : Int64) ≤ zL b := by rw [show (0 : Int64) = zL 0 from rfl, zL_le (by omega) (by omega)]; omega
  have t1 := Int.natAbs_tdiv_le_natAbs a b
  have t2 := Int.mul_tdiv_add_tmod a b
  have t3 : (a.tmod b).natAbs < b := by have := Int.tmod_lt_of_pos a hb.1; have := Int.lt_tmod_of_pos a hb.1; omega
  rw [Int.mul_comm] at t2
  have t6 : a ≤ 0 → a.tmod b ≤ 0 := fun q => by have := Int.tmod_nonneg b (show 0 ≤ -a by omega); rw [Int.neg_tmod] at this; omega
  have t7 : 0 ≤ a → 0 ≤ a.tmod b := fun q => Int.tmod_nonneg b q
  refine zv_lload_n C 0 dJ9_floorDiv_f86c9_0 rfl rfl ?_
  refine zv_lload_n C 1 dJ9_floorDiv_f86c9_1 rfl rfl ?_
  refine zv_ldivT C ha hb dJ9_floorDiv_f86c9_2 ?_
  refine zv_lstore (lv' := [(4, .long (zL ((a).tdiv b))), (0, .long (zL a)), (2, .long (zL b))]) C dJ9_floorDiv_f86c9_3  (by decide) rfl ?_
  refine zv_lload_n C 1 dJ9_floorDiv_f86c9_5 rfl rfl ?_
  refine zv_lload_n C 2 dJ9_floorDiv_f86c9_6 rfl rfl ?_
  refine zv_lxor C dJ9_floorDiv_f86c9_7 ?_
  refine zv_lconst (v := zL 0) C dJ9_floorDiv_f86c9_8 (by decide) ?_
  refine zv_lc_ge (tgt := 27) C dJ9_floorDiv_f86c9_9 dJ9_floorDiv_f86c9_10 (by decide) (fun h9 => ?_) (fun h9 => ?_)
  · skip
    have q0 : 0 ≤ a := by
      have := (zxor_nn hbz).mp h9
      rw [show (0 : Int64) = zL 0 from rfl, zL_le (by omega) (by omega)] at this; exact this
    refine zv_lload C 0 dJ9_floorDiv_f86c9_27 rfl ?_
    exact zv_lret C hr dJ9_floorDiv_f86c9_29 ⟨by congr 1; rw [zfdiv hb.1]; first | rw [if_pos q0] | rw [if_neg q0, if_pos h18], rfl⟩
  · skip
    have q0 : ¬ 0 ≤ a := fun q => h9 ((zxor_nn hbz).mpr (by rw [show (0 : Int64) = zL 0 from rfl, zL_le (by omega) (by omega)]; exact q))
    refine zv_lload C 0 dJ9_floorDiv_f86c9_13 rfl ?_
    refine zv_lload_n C 2 dJ9_floorDiv_f86c9_15 rfl rfl ?_
    refine zv_lmulZ C dJ9_floorDiv_f86c9_16 ?_
    refine zv_lload_n C 1 dJ9_floorDiv_f86c9_17 rfl rfl ?_
    refine zv_lc_eqZ (tgt := 27) C (by omega) (by omega) dJ9_floorDiv_f86c9_18 dJ9_floorDiv_f86c9_19 (by decide) (fun h18 => ?_) (fun h18 => ?_)
    · skip
      refine zv_lload C 0 dJ9_floorDiv_f86c9_27 rfl ?_
      exact zv_lret C hr dJ9_floorDiv_f86c9_29 ⟨by congr 1; rw [zfdiv hb.1]; first | rw [if_pos q0] | rw [if_neg q0, if_pos h18], rfl⟩
    · skip
      refine zv_lload C 0 dJ9_floorDiv_f86c9_22 rfl ?_
      refine zv_lconst (v := zL 1) C dJ9_floorDiv_f86c9_24 (by decide) ?_
      refine zv_lsubZ C dJ9_floorDiv_f86c9_25 ?_
      exact zv_lret C hr dJ9_floorDiv_f86c9_26 ⟨by congr 1; rw [zfdiv hb.1, if_neg q0, if_neg h18], rfl⟩
set_option maxRecDepth 20000 in
theorem c_J9_floorMod_f86c9 {l : Launch} (hfl : l.stackTraces = false) (E : zE) (σ : zS) (a b : Int) (ha : -9223372036854775808 < a ∧ a < 9223372036854775808) (hb : 0 < b ∧ b < 9223372036854775808) : zRl l E yJ9_floorMod_f86c9 cJ9_floorMod_f86c9 6 (zrm 0 0) [.long (zL a), .long (zL b)] σ (fun r τ => r = zL (a % b) ∧ τ = σ) := by
  refine zMet_ofWF (cc := cJ9_floorMod_f86c9) (maxL := 6) (ret := (some .long)) (by decide +kernel) rfl ?_
  intro p e s m args below meth c s₁ B hml hv
  obtain ⟨rfl, hd⟩ := hv
  have C := zX_of (own := RJ9) hfl B hml rfl hd rfl
  have hr := B.returns
  refine zV_go hd (Nat.le_of_ble_eq_true rfl) (lv := [(0, .long (zL a)), (2, .long (zL b))]) rfl ?_
  have hbz : (0 : Int64) ≤ zL b := by rw [show (0 : Int64) = zL 0 from rfl, zL_le (by omega) (by omega)]; omega
  have t1 := Int.emod_nonneg a (by omega : b ≠ 0)
  have t2 := Int.emod_lt_of_pos a hb.1
  have hm : zL a - zL a / zL b * zL b = zL (a.tmod b) := by
    rw [zL_tdiv ha hb, zL_mul, zL_sub]
    congr 1
    have := Int.mul_tdiv_add_tmod a b
    rw [Int.mul_comm (a.tdiv b) b]
    omega
  have t4 : (a.tmod b).natAbs < b := by have := Int.tmod_lt_of_pos a hb.1; have := Int.lt_tmod_of_pos a hb.1; omega
  have t5 : a % b = if 0 ≤ a then a.tmod b else if a.tmod b = 0 then a.tmod b else a.tmod b + b := by
    have h2 := Int.mul_tdiv_add_tmod a b
    have h3 := Int.emod_add_mul_ediv a b
    rw [zfdiv hb.1] at h3
    have e0 : a.tdiv b * b = b * a.tdiv b := Int.mul_comm _ _
    by_cases q : 0 ≤ a
    · rw [if_pos q] at h3 ⊢; omega
    · rw [if_neg q] at h3 ⊢
      by_cases q1 : a.tdiv b * b = a
      · rw [if_pos q1] at h3; rw [if_pos (by omega)]; omega
      · rw [if_neg q1] at h3; rw [if_neg (by omega)]
        rw [Int.mul_sub] at h3; omega
  refine zv_lload_n C 0 dJ9_floorMod_f86c9_0 rfl rfl ?_
  refine zv_lload_n C 1 dJ9_floorMod_f86c9_1 rfl rfl ?_
  refine zv_lrem C dJ9_floorMod_f86c9_2 (zL_ne0 (by omega) (by omega)) ?_
  refine zv_eql (y := (zL (a.tmod b))) (hm) ?_
  refine zv_lstore (lv' := [(4, .long (zL (a.tmod b))), (0, .long (zL a)), (2, .long (zL b))]) C dJ9_floorMod_f86c9_3  (by decide) rfl ?_
  refine zv_lload_n C 1 dJ9_floorMod_f86c9_5 rfl rfl ?_
  refine zv_lload_n C 2 dJ9_floorMod_f86c9_6 rfl rfl ?_
  refine zv_lxor C dJ9_floorMod_f86c9_7 ?_
  refine zv_lconst (v := zL 0) C dJ9_floorMod_f86c9_8 (by decide) ?_
  refine zv_lc_ge (tgt := 25) C dJ9_floorMod_f86c9_9 dJ9_floorMod_f86c9_10 (by decide) (fun h9 => ?_) (fun h9 => ?_)
  · skip
    have q0 : 0 ≤ a := by
      have := (zxor_nn hbz).mp h9
      rw [show (0 : Int64) = zL 0 from rfl, zL_le (by omega) (by omega)] at this; exact this
    refine zv_lload C 0 dJ9_floorMod_f86c9_25 rfl ?_
    exact zv_lret C hr dJ9_floorMod_f86c9_27 ⟨by congr 1; rw [t5]; first | rw [if_pos q0] | rw [if_neg q0, if_pos h16], rfl⟩
  · skip
    have q0 : ¬ 0 ≤ a := fun q => h9 ((zxor_nn hbz).mpr (by rw [show (0 : Int64) = zL 0 from rfl, zL_le (by omega) (by omega)]; exact q))
    refine zv_lload C 0 dJ9_floorMod_f86c9_13 rfl ?_
    refine zv_lconst (v := zL 0) C dJ9_floorMod_f86c9_15 (by decide) ?_
    refine zv_lc_eqZ (tgt := 25) C (by omega) (by omega) dJ9_floorMod_f86c9_16 dJ9_floorMod_f86c9_17 (by decide) (fun h16 => ?_) (fun h16 => ?_)
    · skip
      refine zv_lload C 0 dJ9_floorMod_f86c9_25 rfl ?_
      exact zv_lret C hr dJ9_floorMod_f86c9_27 ⟨by congr 1; rw [t5]; first | rw [if_pos q0] | rw [if_neg q0, if_pos h16], rfl⟩
    · skip
      refine zv_lload C 0 dJ9_floorMod_f86c9_20 rfl ?_
      refine zv_lload_n C 2 dJ9_floorMod_f86c9_22 rfl rfl ?_
      refine zv_laddZ C dJ9_floorMod_f86c9_23 ?_
      exact zv_lret C hr dJ9_floorMod_f86c9_24 ⟨by congr 1; rw [t5, if_neg q0, if_neg h16], rfl⟩
set_option maxRecDepth 20000 in
theorem c_J9_floorMod_1978a {l : Launch} (hfl : l.stackTraces = false) (E : zE) (σ : zS) (a b : Int) (ha : -9223372036854775808 < a ∧ a < 9223372036854775808) (hb : 0 < b ∧ b < 2147483648) : zRi l E yJ9_floorMod_1978a cJ9_floorMod_1978a 3 .int (zrm 1 25) [.long (zL a), .int (zI b)] σ (fun r τ => r = zI (a % b) ∧ τ = σ) := by
  refine zMet_ofWF (cc := cJ9_floorMod_1978a) (maxL := 3) (ret := (some .int)) (by decide +kernel) rfl ?_
  intro p e s m args below meth c s₁ B hml hv
  obtain ⟨rfl, hd⟩ := hv
  have C := zX_of (own := RJ9) hfl B hml rfl hd rfl
  have hr := B.returns
  refine zV_go hd (Nat.le_of_ble_eq_true rfl) (lv := [(0, .long (zL a)), (2, .int (zI b))]) rfl ?_
  refine zv_lload_n C 0 dJ9_floorMod_1978a_0 rfl rfl ?_
  refine zv_iload_n C 1 dJ9_floorMod_1978a_1 rfl rfl ?_
  refine zv_i2lZ C (by omega) dJ9_floorMod_1978a_2 ?_
  refine zv_cslD (st := []) C (c_J9_floorMod_f86c9 hfl E σ (a) (b) (by omega) (by omega)) mJ9_floorMod_f86c9 kJ9_146 rfl ⟨rfl, rfl⟩ (show zfit (zrm 0 0) 6 (zrm 1 25) = true from rfl) (Nat.le_of_ble_eq_true rfl) dJ9_floorMod_1978a_3 ⟨Nat.zero_le _, Nat.zero_le _⟩ ?_
  refine zv_l2iZ C dJ9_floorMod_1978a_6 ?_
  exact zv_iret C hr rfl dJ9_floorMod_1978a_7 ⟨rfl, rfl⟩
