/-! the input, byte by byte; the next token -/
def mIn (σ : zS) (tx : Nat → Int) (n : Nat) : Prop := gI σ 327 12 = zI (n : Int) ∧ n ≤ 900 ∧ (∀ i, i < n → gI σ 336 i = zI (tx i % 256)) ∧ ∀ i, i < n → -128 ≤ tx i ∧ tx i ≤ 127
def bA (tx : Nat → Int) (n k : Nat) : Int := if k < n then tx k % 256 else -1
theorem bA_b (tx : Nat → Int) (n k : Nat) : -1 ≤ bA tx n k ∧ bA tx n k ≤ 255 := by
  unfold bA
  split <;> omega
theorem bA_p {tx : Nat → Int} {n k : Nat} (hb : ∀ i, i < n → -128 ≤ tx i ∧ tx i ≤ 127) {v : Int} (hv : 0 ≤ v ∧ v ≤ 127) : bA tx n k = v ↔ (k < n ∧ tx k = v) := by
  unfold bA
  split
  · rename_i h
    have := hb k h
    omega
  · omega
theorem bA_r {tx : Nat → Int} {n k : Nat} (hb : ∀ i, i < n → -128 ≤ tx i ∧ tx i ≤ 127) {a b : Int} (ha : 0 ≤ a) (h2 : b ≤ 127) : (a ≤ bA tx n k ∧ bA tx n k ≤ b) ↔ (k < n ∧ a ≤ tx k ∧ tx k ≤ b) := by
  unfold bA
  split
  · rename_i h
    have := hb k h
    omega
  · omega
def mTk (σ : zS) (tx : Nat → Int) (n q : Nat) : Prop := gI σ 327 17 = zI (tE tx n q : Int) ∧ gI σ 327 18 = zI (tB tx n q : Int) ∧ gI σ 327 20 = zI (tK tx n q : Int) ∧ (tK tx n q = 2 → gI σ 327 19 = zI (nu tx (tB tx n q) (min (tL tx n q) 7) : Int))
/-- what the tokens' reading leaves alone -/
def mA (σ τ : zS) : Prop := (∀ x j, ¬ (x = 327 ∧ 17 ≤ j ∧ j ≤ 20) → gI τ x j = gI σ x j) ∧ τ.2 = σ.2
theorem mA_r (σ : zS) : mA σ σ := ⟨fun _ _ _ => rfl, rfl⟩
theorem mA_t {σ τ υ : zS} (h : mA σ τ) (g : mA τ υ) : mA σ υ := ⟨fun x j q => (g.1 x j q).trans (h.1 x j q), g.2.trans h.2⟩
theorem mA_I {σ τ : zS} (h : mA σ τ) {j : Nat} (v : Int32) (hj : 17 ≤ j ∧ j ≤ 20) : mA σ (sI τ 327 j v) := ⟨fun x i q => by rw [gI_sI, if_neg (by omega)]; exact h.1 x i q, h.2⟩
theorem mIn_A {σ τ : zS} {tx : Nat → Int} {n : Nat} (h : mIn σ tx n) (e : mA σ τ) : mIn τ tx n := ⟨(e.1 327 12 (by omega)).trans h.1, h.2.1, fun i hi => (e.1 336 i (by omega)).trans (h.2.2.1 i hi), h.2.2.2⟩
theorem mTk_0 {σ τ : zS} {tx : Nat → Int} {n q b : Nat} (hb : tB tx n q = b) (hn : n ≤ b) (h : τ = sI (sI (sI (sI σ 327 17 (zI (b : Int))) 327 18 (zI (b : Int))) 327 19 (zI 0)) 327 20 (zI 0)) : mTk τ tx n q ∧ mA σ τ := by
  subst h
  have hk : tK tx n q = 0 := by unfold tK; rw [hb, if_neg (by omega)]
  have he : tE tx n q = b := by unfold tE; rw [hb, if_neg (by omega)]
  refine ⟨⟨by rw [he]; rfl, by rw [hb]; rfl, by rw [hk]; rfl, fun z => by omega⟩, mA_I (mA_I (mA_I (mA_I (mA_r σ) _ (by omega)) _ (by omega)) _ (by omega)) _ (by omega)⟩
theorem mTk_3 {σ τ : zS} {tx : Nat → Int} {n q b k : Nat} (hb : tB tx n q = b) (hn : b < n) (hk3 : 3 ≤ k) (hk : kO (tx b) = k) (h : τ = sI (sI (sI (sI (sI σ 327 17 (zI (b : Int))) 327 18 (zI (b : Int))) 327 19 (zI 0)) 327 20 (zI (k : Int))) 327 17 (zI ((b : Int) + 1))) : mTk τ tx n q ∧ mA σ τ := by
  subst h
  have hk' : tK tx n q = k := by unfold tK; rw [hb, if_pos hn, hk]
  have he : tE tx n q = b + 1 := by unfold tE; rw [hb, if_pos hn, if_neg (by omega)]
  refine ⟨⟨by rw [he]; rfl, by rw [hb]; rfl, by rw [hk']; rfl, fun z => by omega⟩, mA_I (mA_I (mA_I (mA_I (mA_I (mA_r σ) _ (by omega)) _ (by omega)) _ (by omega)) _ (by omega)) _ (by omega)⟩
theorem mTk_1 {σ τ : zS} {tx : Nat → Int} {n q b en : Nat} (hb : tB tx n q = b) (hn : b < n) (hk : kO (tx b) = 1) (he : tWi (kdB tx n 1) 900 (b + 1) = en) (h : τ = sI (sI (sI (sI (sI σ 327 17 (zI (b : Int))) 327 18 (zI (b : Int))) 327 19 (zI 0)) 327 20 (zI 1)) 327 17 (zI (en : Int))) : mTk τ tx n q ∧ mA σ τ := by
  subst h
  have hk' : tK tx n q = 1 := by unfold tK; rw [hb, if_pos hn, hk]
  have he : tE tx n q = en := by unfold tE; rw [hb, if_pos hn, hk, if_pos (by decide)]; exact he
  refine ⟨⟨by rw [he]; rfl, by rw [hb]; rfl, by rw [hk']; rfl, fun z => by omega⟩, mA_I (mA_I (mA_I (mA_I (mA_I (mA_r σ) _ (by omega)) _ (by omega)) _ (by omega)) _ (by omega)) _ (by omega)⟩
theorem mTk_2 {σ τ : zS} {tx : Nat → Int} {n q b en : Nat} (hb : tB tx n q = b) (hn : b < n) (hk : kO (tx b) = 2) (he : tWi (kdB tx n 2) 900 (b + 1) = en) (h : τ = sI (sI (sI (sI (sI (sI σ 327 17 (zI (b : Int))) 327 18 (zI (b : Int))) 327 19 (zI 0)) 327 20 (zI 2)) 327 19 (zI (nu tx b (min (en - b) 7) : Int))) 327 17 (zI (en : Int))) : mTk τ tx n q ∧ mA σ τ := by
  subst h
  have hk' : tK tx n q = 2 := by unfold tK; rw [hb, if_pos hn, hk]
  have he : tE tx n q = en := by unfold tE; rw [hb, if_pos hn, hk, if_pos (by decide)]; exact he
  refine ⟨⟨by rw [he]; rfl, by rw [hb]; rfl, by rw [hk']; rfl, fun _ => by unfold tL; rw [he, hb]; rfl⟩, mA_I (mA_I (mA_I (mA_I (mA_I (mA_I (mA_r σ) _ (by omega)) _ (by omega)) _ (by omega)) _ (by omega)) _ (by omega)) _ (by omega)⟩
theorem dg_a (D : zS) (a b a' b' : Int32) : sI (sI (sI (sI D 327 19 a) 327 17 b) 327 19 a') 327 17 b' = sI (sI D 327 19 a') 327 17 b' := by
  apply zS_ext
  · intro x y; simp only [gI_sI]; grind
  · intro x y; rfl
  · intro x y; rfl
theorem kd_end {tx : Nat → Int} {n k b en : Nat} (h1 : b < en) (h2 : en ≤ n) (hn : n ≤ 900) (hf : kdB tx n k en = false) (ht : ∀ x, b ≤ x → x < en → kdB tx n k x = true) : tWi (kdB tx n k) 900 (b + 1) = en := tWi_eq hf 900 (b + 1) h1 (by omega) (fun x a c => ht x (by omega) c)
theorem nu_7 {tx : Nat → Int} {b i : Nat} (hi : b ≤ i) (h7 : i - b < 7) (hd : 48 ≤ tx i ∧ tx i ≤ 57) : ((nu tx b (min (i + 1 - b) 7) : Nat) : Int) = 10 * ((nu tx b (min (i - b) 7) : Nat) : Int) + tx i - 48 := by
  rw [show min (i + 1 - b) 7 = (i - b) + 1 by omega, show min (i - b) 7 = i - b by omega]
  show ((nu tx b (i - b) * 10 + (tx (b + (i - b)) - 48).toNat : Nat) : Int) = _
  rw [show b + (i - b) = i by omega]
  omega
theorem nu_8 {b i : Nat} (h7 : ¬ i - b < 7) : min (i + 1 - b) 7 = min (i - b) 7 := by omega
set_option maxRecDepth 20000 in
theorem c_X11_byteAt {l : Launch} (hfl : l.stackTraces = false) (E : zE) (σ : zS) (tx : Nat → Int) (n k : Nat) (hMi : mIn σ tx n) (hk : k ≤ 1000) : zRi l E yX11_byteAt cX11_byteAt 2 .int (zrm 0 0) [.ref (ob E 327), .int (zI (k : Int))] σ (fun r τ => r = zI (bA tx n k) ∧ τ = σ) := by
  refine Met.ofW (cc := cX11_byteAt) (maxL := 2) (ret := (some .int)) (by decide +kernel) rfl ?_
  intro p e s m args below meth c s₁ B hml hv
  obtain ⟨rfl, hd⟩ := hv
  have C := zX_of (own := RX11) hfl B hml rfl hd rfl
  have hr := B.returns
  refine zV_go hd (Nat.le_of_ble_eq_true rfl) (lv := [(0, .ref (ob E 327)), (1, .int (zI (k : Int)))]) rfl ?_
  have hn9 := hMi.2.1
  refine zv_iload_n C 1 dX11_byteAt_0 rfl rfl ?_
  refine zv_aload_n C 0 dX11_byteAt_1 rfl rfl ?_
  refine zG10_12 C (by decide : kd 327 = _) kX11_64 dX11_byteAt_2 ?_
  refine zv_eqi (y := (zI (n : Int))) (hMi.1) ?_
  refine zv_icmp_geZ (tgt := 17) C (by omega) (by omega) dX11_byteAt_5 (by decide) (fun h5 => ?_) (fun h5 => ?_)
  · skip
    refine zv_iconst (v := zI (-1)) C dX11_byteAt_17 rfl ?_
    exact zv_iret C hr rfl dX11_byteAt_18 ⟨by rw [bA, if_neg (by omega)], rfl⟩
  · skip
    refine zv_aload_n C 0 dX11_byteAt_8 rfl rfl ?_
    refine zG10_11 C (by decide : kd 327 = _) kX11_34 dX11_byteAt_9 ?_
    refine zv_iload_n C 1 dX11_byteAt_12 rfl rfl ?_
    refine zv_iald (j := k) C (by decide : kd 336 = _) (zI_ix rfl) (Nat.lt_of_lt_of_eq (show k < 900 by omega) (by decide)) dX11_byteAt_13 ?_
    refine zv_eqi (y := (zI (tx k % 256))) (hMi.2.2.1 k (by omega)) ?_
    refine zv_goto (tgt := 18) C dX11_byteAt_14 (by decide) ?_
    exact zv_iret C hr rfl dX11_byteAt_18 ⟨by rw [bA, if_pos (by omega)], rfl⟩
set_option maxRecDepth 20000 in
theorem c_X11_advanceToken {l : Launch} (hfl : l.stackTraces = false) (E : zE) (σ : zS) (tx : Nat → Int) (n q : Nat) (hMi : mIn σ tx n) (he : gI σ 327 17 = zI (q : Int)) (hq : q ≤ n) : zRv l E yX11_advanceToken cX11_advanceToken 2 (zrm 1 25) [.ref (ob E 327)] σ (fun τ => mTk τ tx n q ∧ mA σ τ) := by
  refine Met.ofW (cc := cX11_advanceToken) (maxL := 2) (ret := none) (by decide +kernel) rfl ?_
  intro p e s m args below meth c s₁ B hml hv
  obtain ⟨rfl, hd⟩ := hv
  have C := zX_of (own := RX11) hfl B hml rfl hd rfl
  have hr := B.returns
  refine zV_go hd (Nat.le_of_ble_eq_true rfl) (lv := [(0, .ref (ob E 327))]) rfl ?_
  have hn9 := hMi.2.1
  have hbb := hMi.2.2.2
  refine zv_sub (lv' := [(0, .ref (ob E 327))]) [0] (zcons rfl rfl) ?_
  refine zv_eqS (τ := (sI σ 327 17 (zI (q : Int)))) ((sI_self he).symm) ?_
  refine zv_while (α := Nat) (fun v => n + 1 - v) (fun v => q ≤ v ∧ v ≤ n ∧ ∀ x, q ≤ x → x < v → wsB tx n x = true) (fun v => (sI σ 327 17 (zI (v : Int)))) (fun v => [(0, .ref (ob E 327))]) (fun v => []) (fun j hI ih => ?_) (q) (⟨Nat.le_refl _, hq, fun x a b => absurd b (by omega)⟩)
  obtain ⟨hI1, hI2, hI3⟩ := hI
  have hcb := bA_b tx n j
  refine zv_aload_n C 0 dX11_advanceToken_0 rfl rfl ?_
  refine zv_aload_n C 0 dX11_advanceToken_1 rfl rfl ?_
  refine zG10_17 C (by decide : kd 327 = _) kX11_75 dX11_advanceToken_2 ?_
  refine zv_eqi (y := (zI (j : Int))) (rfl) ?_
  refine zv_cviD (st := []) C (c_X11_byteAt hfl E (sI σ 327 17 (zI (j : Int))) tx n j hMi (by omega)) mX11_byteAt kX11_78 (by decide : kd 327 = 10) rfl rfl rfl ⟨rfl, rfl⟩ (show zfit (zrm 0 0) 2 (zrm 1 25) = true from rfl) (Nat.le_of_ble_eq_true rfl) dX11_advanceToken_5 ⟨Nat.zero_le _, Nat.zero_le _⟩ ?_
  refine zv_bipush (v := zI 32) C dX11_advanceToken_8 (by decide) ?_
  refine zv_icmp_eqZ (tgt := 26) C (by omega) (by omega) dX11_advanceToken_10 (by decide) (fun h10 => ?_) (fun h10 => ?_)
  · skip
    obtain ⟨hjn, htj⟩ := (bA_p hbb (by omega)).mp h10
    have hws := wsB_t (tx := tx) (n := n) (x := j) ⟨hjn, Or.inl htj⟩
    refine zv_aload_n C 0 dX11_advanceToken_26 rfl rfl ?_
    refine zv_dup C dX11_advanceToken_27 rfl ?_
    refine zG10_17 C (by decide : kd 327 = _) kX11_75 dX11_advanceToken_28 ?_
    refine zv_eqi (y := (zI (j : Int))) (rfl) ?_
    refine zv_iconst (v := zI 1) C dX11_advanceToken_31 rfl ?_
    refine zv_iaddZ C dX11_advanceToken_32 ?_
    refine zP10_17 C (by decide : kd 327 = _) kX11_75 dX11_advanceToken_33 ?_
    refine zv_goto (tgt := 0) C dX11_advanceToken_36 (by decide) ?_
    refine zv_sub (lv' := [(0, .ref (ob E 327))]) [0] (zcons rfl rfl) ?_
    refine zv_eqS (τ := (sI σ 327 17 (zI ((j + 1 : Nat) : Int)))) (by rw [sI_o]; rfl) ?_
    exact ih (j + 1) (⟨by omega, by omega, fun x a b => (by rcases Nat.lt_or_ge x j with g | g; exact hI3 x a g; rw [show x = j by omega]; exact hws)⟩) (by omega)
  · skip
    refine zv_aload_n C 0 dX11_advanceToken_13 rfl rfl ?_
    refine zv_aload_n C 0 dX11_advanceToken_14 rfl rfl ?_
    refine zG10_17 C (by decide : kd 327 = _) kX11_75 dX11_advanceToken_15 ?_
    refine zv_eqi (y := (zI (j : Int))) (rfl) ?_
    refine zv_cviD (st := []) C (c_X11_byteAt hfl E (sI σ 327 17 (zI (j : Int))) tx n j hMi (by omega)) mX11_byteAt kX11_78 (by decide : kd 327 = 10) rfl rfl rfl ⟨rfl, rfl⟩ (show zfit (zrm 0 0) 2 (zrm 1 25) = true from rfl) (Nat.le_of_ble_eq_true rfl) dX11_advanceToken_18 ⟨Nat.zero_le _, Nat.zero_le _⟩ ?_
    refine zv_bipush (v := zI 10) C dX11_advanceToken_21 (by decide) ?_
    refine zv_icmp_neZ (tgt := 39) C (by omega) (by omega) dX11_advanceToken_23 (by decide) (fun h23 => ?_) (fun h23 => ?_)
    · skip
      have hnw : wsB tx n j = false := wsB_f (fun z => by
        rcases z.2 with g | g
        · exact h10 ((bA_p hbb (by omega)).mpr ⟨z.1, g⟩)
        · exact h23 ((bA_p hbb (by omega)).mpr ⟨z.1, g⟩))
      have hb : tB tx n q = j := tWi_eq hnw 900 q hI1 (by omega) hI3
      have hc1 := bA_r (k := j) hbb (a := 97) (b := 122) (by omega) (by omega)
      have hc2 := bA_r (k := j) hbb (a := 48) (b := 57) (by omega) (by omega)
      have hc3 := bA_p (k := j) (v := 59) hbb (by omega)
      have hjn : bA tx n j ≠ -1 → j < n := fun z => by
        rcases Nat.lt_or_ge j n with g | g
        · exact g
        · exact absurd (if_neg (by omega)) z
      refine zv_aload_n C 0 dX11_advanceToken_39 rfl rfl ?_
      refine zv_aload_n C 0 dX11_advanceToken_40 rfl rfl ?_
      refine zG10_17 C (by decide : kd 327 = _) kX11_75 dX11_advanceToken_41 ?_
      refine zv_eqi (y := (zI (j : Int))) (rfl) ?_
      refine zP10_18 C (by decide : kd 327 = _) kX11_82 dX11_advanceToken_44 ?_
      refine zv_aload_n C 0 dX11_advanceToken_47 rfl rfl ?_
      refine zv_aload_n C 0 dX11_advanceToken_48 rfl rfl ?_
      refine zG10_17 C (by decide : kd 327 = _) kX11_75 dX11_advanceToken_49 ?_
      refine zv_eqi (y := (zI (j : Int))) (rfl) ?_
      refine zv_cviD (st := []) C (c_X11_byteAt hfl E (sI (sI σ 327 17 (zI (j : Int))) 327 18 (zI (j : Int))) tx n j hMi (by omega)) mX11_byteAt kX11_78 (by decide : kd 327 = 10) rfl rfl rfl ⟨rfl, rfl⟩ (show zfit (zrm 0 0) 2 (zrm 1 25) = true from rfl) (Nat.le_of_ble_eq_true rfl) dX11_advanceToken_52 ⟨Nat.zero_le _, Nat.zero_le _⟩ ?_
      refine zv_istore_n (lv' := [(1, .int (zI (bA tx n j))), (0, .ref (ob E 327))]) C dX11_advanceToken_55 rfl (by decide) rfl ?_
      refine zv_aload_n C 1 dX11_advanceToken_56 rfl rfl ?_
      refine zv_iconst (v := zI 0) C dX11_advanceToken_57 rfl ?_
      refine zP10_19 C (by decide : kd 327 = _) kX11_85 dX11_advanceToken_58 ?_
      refine zv_iload_n C 0 dX11_advanceToken_61 rfl rfl ?_
      refine zv_iconst (v := zI (-1)) C dX11_advanceToken_62 rfl ?_
      refine zv_icmp_neZ (tgt := 74) C (by omega) (by omega) dX11_advanceToken_63 (by decide) (fun h63 => ?_) (fun h63 => ?_)
      · skip
        refine zv_iload_n C 0 dX11_advanceToken_74 rfl rfl ?_
        refine zv_i2lZ C (by omega) dX11_advanceToken_75 ?_
        refine zv_ldc2 C kX11_91 dX11_advanceToken_76 ?_
        refine zv_eql (y := zL 97) (by decide) ?_
        refine zv_ldc2 C kX11_93 dX11_advanceToken_79 ?_
        refine zv_eql (y := zL 122) (by decide) ?_
        refine zv_csiD (st := []) C (c_X11_inRange hfl E (sI (sI (sI σ 327 17 (zI (j : Int))) 327 18 (zI (j : Int))) 327 19 (zI 0)) (bA tx n j) (97) (122) (by omega) (by omega) (by omega)) mX11_inRange kX11_71 rfl ⟨rfl, rfl⟩ (show zfit (zrm 0 0) 6 (zrm 1 25) = true from rfl) (Nat.le_of_ble_eq_true rfl) dX11_advanceToken_82 ⟨Nat.zero_le _, Nat.zero_le _⟩ ?_
        refine zv_if_eqB (tgt := 127) C dX11_advanceToken_85 (by decide) (fun h85 => ?_) (fun h85 => ?_)
        · skip
          refine zv_iload_n C 0 dX11_advanceToken_127 rfl rfl ?_
          refine zv_i2lZ C (by omega) dX11_advanceToken_128 ?_
          refine zv_ldc2 C kX11_95 dX11_advanceToken_129 ?_
          refine zv_eql (y := zL 48) (by decide) ?_
          refine zv_ldc2 C kX11_97 dX11_advanceToken_132 ?_
          refine zv_eql (y := zL 57) (by decide) ?_
          refine zv_csiD (st := []) C (c_X11_inRange hfl E (sI (sI (sI σ 327 17 (zI (j : Int))) 327 18 (zI (j : Int))) 327 19 (zI 0)) (bA tx n j) (48) (57) (by omega) (by omega) (by omega)) mX11_inRange kX11_71 rfl ⟨rfl, rfl⟩ (show zfit (zrm 0 0) 6 (zrm 1 25) = true from rfl) (Nat.le_of_ble_eq_true rfl) dX11_advanceToken_135 ⟨Nat.zero_le _, Nat.zero_le _⟩ ?_
          refine zv_if_eqB (tgt := 217) C dX11_advanceToken_138 (by decide) (fun h138 => ?_) (fun h138 => ?_)
          · skip
            refine zv_aload_n C 1 dX11_advanceToken_217 rfl rfl ?_
            refine zv_iload_n C 0 dX11_advanceToken_218 rfl rfl ?_
            refine zv_bipush (v := zI 59) C dX11_advanceToken_219 (by decide) ?_
            refine zv_icmp_neZ (tgt := 228) C (by omega) (by omega) dX11_advanceToken_221 (by decide) (fun h221 => ?_) (fun h221 => ?_)
            · skip
              have hj9 := hjn (by omega)
              have g1 : ¬ (97 ≤ tx j ∧ tx j ≤ 122) := fun z => absurd (hc1.mpr ⟨hj9, z⟩) (by omega)
              have g2 : ¬ (48 ≤ tx j ∧ tx j ≤ 57) := fun z => absurd (hc2.mpr ⟨hj9, z⟩) (by omega)
              have hko : kO (tx j) = 4 := by
                have g3 : ¬ tx j = 59 := fun z => absurd (hc3.mpr ⟨hj9, z⟩) (by omega)
                unfold kO
                rw [if_neg g1, if_neg g2, if_neg g3]
              refine zv_iconst (v := zI 4) C dX11_advanceToken_228 rfl ?_
              refine zP10_20 C (by decide : kd 327 = _) kX11_88 dX11_advanceToken_229 ?_
              refine zv_aload_n C 1 dX11_advanceToken_232 rfl rfl ?_
              refine zv_dup C dX11_advanceToken_233 rfl ?_
              refine zG10_17 C (by decide : kd 327 = _) kX11_75 dX11_advanceToken_234 ?_
              refine zv_eqi (y := (zI (j : Int))) (rfl) ?_
              refine zv_iconst (v := zI 1) C dX11_advanceToken_237 rfl ?_
              refine zv_iaddZ C dX11_advanceToken_238 ?_
              refine zP10_17 C (by decide : kd 327 = _) kX11_75 dX11_advanceToken_239 ?_
              exact zv_vret C hr dX11_advanceToken_242 (mTk_3 (k := 4) hb hj9 (by omega) hko rfl)
            · skip
              have hj9 := hjn (by omega)
              have g1 : ¬ (97 ≤ tx j ∧ tx j ≤ 122) := fun z => absurd (hc1.mpr ⟨hj9, z⟩) (by omega)
              have g2 : ¬ (48 ≤ tx j ∧ tx j ≤ 57) := fun z => absurd (hc2.mpr ⟨hj9, z⟩) (by omega)
              have hko : kO (tx j) = 3 := by
                have := hc3.mp (by omega)
                unfold kO
                rw [if_neg g1, if_neg g2, if_pos this.2]
              refine zv_iconst (v := zI 3) C dX11_advanceToken_224 rfl ?_
              refine zv_goto (tgt := 229) C dX11_advanceToken_225 (by decide) ?_
              refine zP10_20 C (by decide : kd 327 = _) kX11_88 dX11_advanceToken_229 ?_
              refine zv_aload_n C 1 dX11_advanceToken_232 rfl rfl ?_
              refine zv_dup C dX11_advanceToken_233 rfl ?_
              refine zG10_17 C (by decide : kd 327 = _) kX11_75 dX11_advanceToken_234 ?_
              refine zv_eqi (y := (zI (j : Int))) (rfl) ?_
              refine zv_iconst (v := zI 1) C dX11_advanceToken_237 rfl ?_
              refine zv_iaddZ C dX11_advanceToken_238 ?_
              refine zP10_17 C (by decide : kd 327 = _) kX11_75 dX11_advanceToken_239 ?_
              exact zv_vret C hr dX11_advanceToken_242 (mTk_3 (k := 3) hb hj9 (by omega) hko rfl)
          · skip
            have hz := hc2.mp (by omega)
            have hk2 : kO (tx j) = 2 := kO_2.mpr hz.2
            refine zv_aload_n C 1 dX11_advanceToken_141 rfl rfl ?_
            refine zv_iconst (v := zI 2) C dX11_advanceToken_142 rfl ?_
            refine zP10_20 C (by decide : kd 327 = _) kX11_88 dX11_advanceToken_143 ?_
            refine zv_sub (lv' := [(0, .ref (ob E 327))]) [1] (zcons rfl rfl) ?_
            refine zv_eqS (τ := (sI (sI (sI (sI (sI (sI σ 327 17 (zI (j : Int))) 327 18 (zI (j : Int))) 327 19 (zI 0)) 327 20 (zI 2)) 327 19 (zI (nu tx j (min (j - j) 7) : Int))) 327 17 (zI (j : Int)))) (by rw [Nat.sub_self]; exact ((congrArg (fun z => sI z 327 17 (zI (j : Int))) (sI_self rfl)).trans (sI_self rfl)).symm) ?_
            refine zv_while (α := Nat) (fun v => n + 1 - v) (fun v => j ≤ v ∧ v ≤ n ∧ ∀ x, j ≤ x → x < v → kdB tx n 2 x = true) (fun v => (sI (sI (sI (sI (sI (sI σ 327 17 (zI (j : Int))) 327 18 (zI (j : Int))) 327 19 (zI 0)) 327 20 (zI 2)) 327 19 (zI (nu tx j (min (v - j) 7) : Int))) 327 17 (zI (v : Int)))) (fun v => [(0, .ref (ob E 327))]) (fun v => []) (fun i hI ih146 => ?_) (j) (⟨Nat.le_refl _, hI2, fun x a b => absurd b (by omega)⟩)
            obtain ⟨hJ1, hJ2, hJ3⟩ := hI
            have hcb := bA_b tx n i
            have hnu : nu tx j (min (i - j) 7) < 10000000 := by
              have h9 := nu_b (tx := tx) (b := j) (n := min (i - j) 7) (fun x hx => kO_2.mp (of_decide_eq_true (hJ3 (j + x) (by omega) (by omega))).2) (min (i - j) 7) (Nat.le_refl _)
              have h8 : 10 ^ min (i - j) 7 ≤ 10 ^ 7 := Nat.pow_le_pow_right (by decide) (by omega)
              omega
            refine zv_aload_n C 0 dX11_advanceToken_146 rfl rfl ?_
            refine zv_aload_n C 0 dX11_advanceToken_147 rfl rfl ?_
            refine zG10_17 C (by decide : kd 327 = _) kX11_75 dX11_advanceToken_148 ?_
            refine zv_eqi (y := (zI (i : Int))) (rfl) ?_
            refine zv_cviD (st := []) C (c_X11_byteAt hfl E (sI (sI (sI (sI (sI (sI σ 327 17 (zI (j : Int))) 327 18 (zI (j : Int))) 327 19 (zI 0)) 327 20 (zI 2)) 327 19 (zI (nu tx j (min (i - j) 7) : Int))) 327 17 (zI (i : Int))) tx n i hMi (by omega)) mX11_byteAt kX11_78 (by decide : kd 327 = 10) rfl rfl rfl ⟨rfl, rfl⟩ (show zfit (zrm 0 0) 2 (zrm 1 25) = true from rfl) (Nat.le_of_ble_eq_true rfl) dX11_advanceToken_151 ⟨Nat.zero_le _, Nat.zero_le _⟩ ?_
            refine zv_i2lZ C (by omega) dX11_advanceToken_154 ?_
            refine zv_ldc2 C kX11_95 dX11_advanceToken_155 ?_
            refine zv_eql (y := zL 48) (by decide) ?_
            refine zv_ldc2 C kX11_97 dX11_advanceToken_158 ?_
            refine zv_eql (y := zL 57) (by decide) ?_
            refine zv_csiD (st := []) C (c_X11_inRange hfl E (sI (sI (sI (sI (sI (sI σ 327 17 (zI (j : Int))) 327 18 (zI (j : Int))) 327 19 (zI 0)) 327 20 (zI 2)) 327 19 (zI (nu tx j (min (i - j) 7) : Int))) 327 17 (zI (i : Int))) (bA tx n i) (48) (57) (by omega) (by omega) (by omega)) mX11_inRange kX11_71 rfl ⟨rfl, rfl⟩ (show zfit (zrm 0 0) 6 (zrm 1 25) = true from rfl) (Nat.le_of_ble_eq_true rfl) dX11_advanceToken_161 ⟨Nat.zero_le _, Nat.zero_le _⟩ ?_
            refine zv_if_eqB (tgt := 242) C dX11_advanceToken_164 (by decide) (fun h164 => ?_) (fun h164 => ?_)
            · skip
              have hnk := kdB_f (tx := tx) (n := n) (k := 2) (x := i) (fun z => by have := (bA_r (k := i) hbb (a := 48) (b := 57) (by omega) (by omega)).mpr ⟨z.1, kO_2.mp z.2⟩; omega)
              have hij : j < i := by
                rcases Nat.lt_or_ge j i with g | g
                · exact g
                · rw [show i = j by omega, kdB_t ⟨hz.1, hk2⟩] at hnk
                  cases hnk
              have hen := kd_end hij hJ2 hn9 hnk hJ3
              exact zv_vret C hr dX11_advanceToken_242 (mTk_2 hb hz.1 hk2 hen rfl)
            · skip
              have hdg := (bA_r (k := i) hbb (a := 48) (b := 57) (by omega) (by omega)).mp (by omega)
              have hkk := kdB_t (tx := tx) (n := n) (k := 2) (x := i) ⟨hdg.1, kO_2.mpr hdg.2⟩
              have hin := hdg.1
              have hbi : bA tx n i = tx i := by
                have : bA tx n i = tx i % 256 := if_pos hin
                omega
              refine zv_aload_n C 0 dX11_advanceToken_167 rfl rfl ?_
              refine zG10_17 C (by decide : kd 327 = _) kX11_75 dX11_advanceToken_168 ?_
              refine zv_eqi (y := (zI (i : Int))) (rfl) ?_
              refine zv_aload_n C 0 dX11_advanceToken_171 rfl rfl ?_
              refine zG10_18 C (by decide : kd 327 = _) kX11_82 dX11_advanceToken_172 ?_
              refine zv_eqi (y := (zI (j : Int))) (rfl) ?_
              refine zv_isubZ C dX11_advanceToken_175 ?_
              refine zv_bipush (v := zI 7) C dX11_advanceToken_176 (by decide) ?_
              refine zv_icmp_geZ (tgt := 204) C (by omega) (by omega) dX11_advanceToken_178 (by decide) (fun h178 => ?_) (fun h178 => ?_)
              · skip
                have h7 : ¬ i - j < 7 := by omega
                refine zv_aload_n C 0 dX11_advanceToken_204 rfl rfl ?_
                refine zv_dup C dX11_advanceToken_205 rfl ?_
                refine zG10_17 C (by decide : kd 327 = _) kX11_75 dX11_advanceToken_206 ?_
                refine zv_eqi (y := (zI (i : Int))) (rfl) ?_
                refine zv_iconst (v := zI 1) C dX11_advanceToken_209 rfl ?_
                refine zv_iaddZ C dX11_advanceToken_210 ?_
                refine zP10_17 C (by decide : kd 327 = _) kX11_75 dX11_advanceToken_211 ?_
                refine zv_goto (tgt := 146) C dX11_advanceToken_214 (by decide) ?_
                refine zv_sub (lv' := [(0, .ref (ob E 327))]) [0] (zcons rfl rfl) ?_
                refine zv_eqS (τ := (sI (sI (sI (sI (sI (sI σ 327 17 (zI (j : Int))) 327 18 (zI (j : Int))) 327 19 (zI 0)) 327 20 (zI 2)) 327 19 (zI (nu tx j (min ((i + 1) - j) 7) : Int))) 327 17 (zI ((i + 1 : Nat) : Int)))) (by first | (rw [dg_a]; rfl) | (rw [nu_8 h7]; exact sI_o _ _ _ _ _)) ?_
                exact ih146 (i + 1) (⟨by omega, by omega, fun x a b => (by rcases Nat.lt_or_ge x i with g | g; exact hJ3 x a g; rw [show x = i by omega]; exact hkk)⟩) (by omega)
              · skip
                have h7 : i - j < 7 := by omega
                refine zv_aload_n C 0 dX11_advanceToken_181 rfl rfl ?_
                refine zv_bipush (v := zI 10) C dX11_advanceToken_182 (by decide) ?_
                refine zv_aload_n C 0 dX11_advanceToken_184 rfl rfl ?_
                refine zG10_19 C (by decide : kd 327 = _) kX11_85 dX11_advanceToken_185 ?_
                refine zv_eqi (y := (zI (nu tx j (min (i - j) 7) : Int))) (rfl) ?_
                refine zv_imulZ C dX11_advanceToken_188 ?_
                refine zv_aload_n C 0 dX11_advanceToken_189 rfl rfl ?_
                refine zv_aload_n C 0 dX11_advanceToken_190 rfl rfl ?_
                refine zG10_17 C (by decide : kd 327 = _) kX11_75 dX11_advanceToken_191 ?_
                refine zv_eqi (y := (zI (i : Int))) (rfl) ?_
                refine zv_cviD (st := [.int (zI (10 * (nu tx j (min (i - j) 7) : Int))), .ref (ob E 327)]) C (c_X11_byteAt hfl E (sI (sI (sI (sI (sI (sI σ 327 17 (zI (j : Int))) 327 18 (zI (j : Int))) 327 19 (zI 0)) 327 20 (zI 2)) 327 19 (zI (nu tx j (min (i - j) 7) : Int))) 327 17 (zI (i : Int))) tx n i hMi (by omega)) mX11_byteAt kX11_78 (by decide : kd 327 = 10) rfl rfl rfl ⟨rfl, rfl⟩ (show zfit (zrm 0 0) 2 (zrm 1 25) = true from rfl) (Nat.le_of_ble_eq_true rfl) dX11_advanceToken_194 ⟨Nat.zero_le _, Nat.zero_le _⟩ ?_
                refine zv_iaddZ C dX11_advanceToken_197 ?_
                refine zv_bipush (v := zI 48) C dX11_advanceToken_198 (by decide) ?_
                refine zv_isubZ C dX11_advanceToken_200 ?_
                refine zv_eqi (y := (zI (nu tx j (min (i + 1 - j) 7) : Int))) (congrArg zI (by rw [nu_7 hJ1 h7 hdg.2, hbi])) ?_
                refine zP10_19 C (by decide : kd 327 = _) kX11_85 dX11_advanceToken_201 ?_
                refine zv_aload_n C 0 dX11_advanceToken_204 rfl rfl ?_
                refine zv_dup C dX11_advanceToken_205 rfl ?_
                refine zG10_17 C (by decide : kd 327 = _) kX11_75 dX11_advanceToken_206 ?_
                refine zv_eqi (y := (zI (i : Int))) (rfl) ?_
                refine zv_iconst (v := zI 1) C dX11_advanceToken_209 rfl ?_
                refine zv_iaddZ C dX11_advanceToken_210 ?_
                refine zP10_17 C (by decide : kd 327 = _) kX11_75 dX11_advanceToken_211 ?_
                refine zv_goto (tgt := 146) C dX11_advanceToken_214 (by decide) ?_
                refine zv_sub (lv' := [(0, .ref (ob E 327))]) [0] (zcons rfl rfl) ?_
                refine zv_eqS (τ := (sI (sI (sI (sI (sI (sI σ 327 17 (zI (j : Int))) 327 18 (zI (j : Int))) 327 19 (zI 0)) 327 20 (zI 2)) 327 19 (zI (nu tx j (min ((i + 1) - j) 7) : Int))) 327 17 (zI ((i + 1 : Nat) : Int)))) (by first | (rw [dg_a]; rfl) | (rw [nu_8 h7]; exact sI_o _ _ _ _ _)) ?_
                exact ih146 (i + 1) (⟨by omega, by omega, fun x a b => (by rcases Nat.lt_or_ge x i with g | g; exact hJ3 x a g; rw [show x = i by omega]; exact hkk)⟩) (by omega)
        · skip
          have hz := hc1.mp (by omega)
          have hk1 : kO (tx j) = 1 := kO_1.mpr hz.2
          refine zv_aload_n C 1 dX11_advanceToken_88 rfl rfl ?_
          refine zv_iconst (v := zI 1) C dX11_advanceToken_89 rfl ?_
          refine zP10_20 C (by decide : kd 327 = _) kX11_88 dX11_advanceToken_90 ?_
          refine zv_sub (lv' := [(0, .ref (ob E 327))]) [1] (zcons rfl rfl) ?_
          refine zv_eqS (τ := (sI (sI (sI (sI (sI σ 327 17 (zI (j : Int))) 327 18 (zI (j : Int))) 327 19 (zI 0)) 327 20 (zI 1)) 327 17 (zI (j : Int)))) ((sI_self rfl).symm) ?_
          refine zv_while (α := Nat) (fun v => n + 1 - v) (fun v => j ≤ v ∧ v ≤ n ∧ ∀ x, j ≤ x → x < v → kdB tx n 1 x = true) (fun v => (sI (sI (sI (sI (sI σ 327 17 (zI (j : Int))) 327 18 (zI (j : Int))) 327 19 (zI 0)) 327 20 (zI 1)) 327 17 (zI (v : Int)))) (fun v => [(0, .ref (ob E 327))]) (fun v => []) (fun i hI ih93 => ?_) (j) (⟨Nat.le_refl _, hI2, fun x a b => absurd b (by omega)⟩)
          obtain ⟨hJ1, hJ2, hJ3⟩ := hI
          have hcb := bA_b tx n i
          refine zv_aload_n C 0 dX11_advanceToken_93 rfl rfl ?_
          refine zv_aload_n C 0 dX11_advanceToken_94 rfl rfl ?_
          refine zG10_17 C (by decide : kd 327 = _) kX11_75 dX11_advanceToken_95 ?_
          refine zv_eqi (y := (zI (i : Int))) (rfl) ?_
          refine zv_cviD (st := []) C (c_X11_byteAt hfl E (sI (sI (sI (sI (sI σ 327 17 (zI (j : Int))) 327 18 (zI (j : Int))) 327 19 (zI 0)) 327 20 (zI 1)) 327 17 (zI (i : Int))) tx n i hMi (by omega)) mX11_byteAt kX11_78 (by decide : kd 327 = 10) rfl rfl rfl ⟨rfl, rfl⟩ (show zfit (zrm 0 0) 2 (zrm 1 25) = true from rfl) (Nat.le_of_ble_eq_true rfl) dX11_advanceToken_98 ⟨Nat.zero_le _, Nat.zero_le _⟩ ?_
          refine zv_i2lZ C (by omega) dX11_advanceToken_101 ?_
          refine zv_ldc2 C kX11_91 dX11_advanceToken_102 ?_
          refine zv_eql (y := zL 97) (by decide) ?_
          refine zv_ldc2 C kX11_93 dX11_advanceToken_105 ?_
          refine zv_eql (y := zL 122) (by decide) ?_
          refine zv_csiD (st := []) C (c_X11_inRange hfl E (sI (sI (sI (sI (sI σ 327 17 (zI (j : Int))) 327 18 (zI (j : Int))) 327 19 (zI 0)) 327 20 (zI 1)) 327 17 (zI (i : Int))) (bA tx n i) (97) (122) (by omega) (by omega) (by omega)) mX11_inRange kX11_71 rfl ⟨rfl, rfl⟩ (show zfit (zrm 0 0) 6 (zrm 1 25) = true from rfl) (Nat.le_of_ble_eq_true rfl) dX11_advanceToken_108 ⟨Nat.zero_le _, Nat.zero_le _⟩ ?_
          refine zv_if_eqB (tgt := 242) C dX11_advanceToken_111 (by decide) (fun h111 => ?_) (fun h111 => ?_)
          · skip
            have hnk := kdB_f (tx := tx) (n := n) (k := 1) (x := i) (fun z => by have := (bA_r (k := i) hbb (a := 97) (b := 122) (by omega) (by omega)).mpr ⟨z.1, kO_1.mp z.2⟩; omega)
            have hij : j < i := by
              rcases Nat.lt_or_ge j i with g | g
              · exact g
              · rw [show i = j by omega, kdB_t ⟨hz.1, hk1⟩] at hnk
                cases hnk
            have hen := kd_end hij hJ2 hn9 hnk hJ3
            exact zv_vret C hr dX11_advanceToken_242 (mTk_1 hb hz.1 hk1 hen rfl)
          · skip
            have hkk := kdB_t (tx := tx) (n := n) (k := 1) (x := i) (by have := (bA_r (k := i) hbb (a := 97) (b := 122) (by omega) (by omega)).mp (by omega); exact ⟨this.1, kO_1.mpr this.2⟩)
            have hin := (of_decide_eq_true hkk).1
            refine zv_aload_n C 0 dX11_advanceToken_114 rfl rfl ?_
            refine zv_dup C dX11_advanceToken_115 rfl ?_
            refine zG10_17 C (by decide : kd 327 = _) kX11_75 dX11_advanceToken_116 ?_
            refine zv_eqi (y := (zI (i : Int))) (rfl) ?_
            refine zv_iconst (v := zI 1) C dX11_advanceToken_119 rfl ?_
            refine zv_iaddZ C dX11_advanceToken_120 ?_
            refine zP10_17 C (by decide : kd 327 = _) kX11_75 dX11_advanceToken_121 ?_
            refine zv_goto (tgt := 93) C dX11_advanceToken_124 (by decide) ?_
            refine zv_sub (lv' := [(0, .ref (ob E 327))]) [0] (zcons rfl rfl) ?_
            refine zv_eqS (τ := (sI (sI (sI (sI (sI σ 327 17 (zI (j : Int))) 327 18 (zI (j : Int))) 327 19 (zI 0)) 327 20 (zI 1)) 327 17 (zI ((i + 1 : Nat) : Int)))) (by rw [sI_o]; rfl) ?_
            exact ih93 (i + 1) (⟨by omega, by omega, fun x a b => (by rcases Nat.lt_or_ge x i with g | g; exact hJ3 x a g; rw [show x = i by omega]; exact hkk)⟩) (by omega)
      · skip
        have hjn2 : n ≤ j := by
          rcases Nat.lt_or_ge j n with g | g
          · have : bA tx n j = tx j % 256 := if_pos g
            omega
          · exact g
        refine zv_aload_n C 1 dX11_advanceToken_66 rfl rfl ?_
        refine zv_iconst (v := zI 0) C dX11_advanceToken_67 rfl ?_
        refine zP10_20 C (by decide : kd 327 = _) kX11_88 dX11_advanceToken_68 ?_
        refine zv_goto (tgt := 242) C dX11_advanceToken_71 (by decide) ?_
        exact zv_vret C hr dX11_advanceToken_242 (mTk_0 hb hjn2 rfl)
    · skip
      obtain ⟨hjn, htj⟩ := (bA_p (v := 10) hbb (by omega)).mp (show bA tx n j = 10 by omega)
      have hws := wsB_t (tx := tx) (n := n) (x := j) ⟨hjn, Or.inr htj⟩
      refine zv_aload_n C 0 dX11_advanceToken_26 rfl rfl ?_
      refine zv_dup C dX11_advanceToken_27 rfl ?_
      refine zG10_17 C (by decide : kd 327 = _) kX11_75 dX11_advanceToken_28 ?_
      refine zv_eqi (y := (zI (j : Int))) (rfl) ?_
      refine zv_iconst (v := zI 1) C dX11_advanceToken_31 rfl ?_
      refine zv_iaddZ C dX11_advanceToken_32 ?_
      refine zP10_17 C (by decide : kd 327 = _) kX11_75 dX11_advanceToken_33 ?_
      refine zv_goto (tgt := 0) C dX11_advanceToken_36 (by decide) ?_
      refine zv_sub (lv' := [(0, .ref (ob E 327))]) [0] (zcons rfl rfl) ?_
      refine zv_eqS (τ := (sI σ 327 17 (zI ((j + 1 : Nat) : Int)))) (by rw [sI_o]; rfl) ?_
      exact ih (j + 1) (⟨by omega, by omega, fun x a b => (by rcases Nat.lt_or_ge x j with g | g; exact hI3 x a g; rw [show x = j by omega]; exact hws)⟩) (by omega)
