set_option maxRecDepth 20000 in
theorem c_X3_commonDivisor {l : Launch} (hfl : l.stackTraces = false) (E : zE) (σ : zS) (a b : Nat) (ha : a < 2 ^ 63) (hb : b < 2 ^ 63) : zRl l E yX3_commonDivisor cX3_commonDivisor 11 (zrm 0 0) [.long (zL (a : Int)), .long (zL (b : Int))] σ (fun r τ => r = zL ((max 1 (Nat.gcd a b) : Nat) : Int) ∧ τ = σ) := by
  refine Met.ofW (cc := cX3_commonDivisor) (maxL := 11) (ret := (some .long)) (by decide +kernel) rfl ?_
  intro p e s m args below meth c s₁ B hml hv
  obtain ⟨rfl, hd⟩ := hv
  have C := zX_of (own := RX3) hfl B hml rfl hd rfl
  have hr := B.returns
  refine zV_go hd (Nat.le_of_ble_eq_true rfl) (lv := [(0, .long (zL (a : Int))), (2, .long (zL (b : Int)))]) rfl ?_
  refine zv_lload_n C 0 dX3_commonDivisor_0 rfl rfl ?_
  refine zv_lstore (lv' := [(4, .long (zL (a : Int))), (0, .long (zL (a : Int))), (2, .long (zL (b : Int)))]) C dX3_commonDivisor_1  (by decide) rfl ?_
  refine zv_lload_n C 2 dX3_commonDivisor_3 rfl rfl ?_
  refine zv_lstore (lv' := [(6, .long (zL (b : Int))), (4, .long (zL (a : Int))), (0, .long (zL (a : Int))), (2, .long (zL (b : Int)))]) C dX3_commonDivisor_4  (by decide) rfl ?_
  refine zv_iconst (v := zI 0) C dX3_commonDivisor_6 rfl ?_
  refine zv_istore (lv' := [(8, .int (zI 0)), (6, .long (zL (b : Int))), (4, .long (zL (a : Int))), (0, .long (zL (a : Int))), (2, .long (zL (b : Int)))]) C dX3_commonDivisor_7  (by decide) rfl ?_
  have q9_6 : (0 : Int) = (0 : Int) := by first | rfl | omega
  refine zv_sub (lv' := [(0, .long (zL (a : Int))), (2, .long (zL (b : Int))), (4, .long (zL (a : Int))), (6, .long (zL (b : Int))), (8, .int (zI (0 : Int)))]) [3, 4, 2, 1, 0] (zcons rfl (zcons rfl (zcons rfl (zcons rfl (zcons (zqI q9_6) rfl))))) ?_
  refine zv_while (α := Nat × Nat × Nat) (fun v => 200 - v.1) (fun v => v.1 ≤ 200 ∧ euI v.1 v.2.1 v.2.2 ∧ Nat.gcd v.2.1 v.2.2 = Nat.gcd a b) (fun v => σ) (fun v => [(0, .long (zL (a : Int))), (2, .long (zL (b : Int))), (4, .long (zL (v.2.1 : Int))), (6, .long (zL (v.2.2 : Int))), (8, .int (zI (v.1 : Int)))]) (fun v => []) (fun v hI ih => ?_) ((0, a, b)) (⟨Nat.zero_le _, euI_0 ha hb, rfl⟩)
  obtain ⟨i, x, y⟩ := v
  dsimp only at hI ih ⊢
  obtain ⟨hI, hE, hG⟩ := hI
  obtain ⟨hx2, hy2, -⟩ := id hE
  have hx3 : (x : Int) < 9223372036854775808 := by omega
  have hy3 : (y : Int) < 9223372036854775808 := by omega
  refine zv_iload C 4 dX3_commonDivisor_9 rfl ?_
  refine zv_sipush (v := zI 200) C dX3_commonDivisor_11 (by decide) ?_
  refine zv_icmp_geZ (tgt := 45) C (by omega) (by omega) dX3_commonDivisor_14 (by decide) (fun h14 => ?_) (fun h14 => ?_)
  · skip
    have hy0 := euI_end hE (by omega)
    have hg0 : x = Nat.gcd a b := by rw [← hG, hy0, Nat.gcd_zero_right]
    refine zv_lload C 2 dX3_commonDivisor_45 rfl ?_
    refine zv_lconst (v := zL 0) C dX3_commonDivisor_47 (by decide) ?_
    refine zv_lc_leZ (tgt := 57) C (by omega) (by omega) dX3_commonDivisor_48 dX3_commonDivisor_49 (by decide) (fun h48 => ?_) (fun h48 => ?_)
    · skip
      refine zv_lconst (v := zL 1) C dX3_commonDivisor_57 (by decide) ?_
      exact zv_lret C hr dX3_commonDivisor_58 ⟨by congr 1; rw [← hg0]; omega, rfl⟩
    · skip
      refine zv_lload C 2 dX3_commonDivisor_52 rfl ?_
      refine zv_goto (tgt := 58) C dX3_commonDivisor_54 (by decide) ?_
      exact zv_lret C hr dX3_commonDivisor_58 ⟨by congr 1; rw [← hg0]; omega, rfl⟩
  · skip
    refine zv_lload C 3 dX3_commonDivisor_17 rfl ?_
    refine zv_lconst (v := zL 0) C dX3_commonDivisor_19 (by decide) ?_
    refine zv_lc_eqZ (tgt := 45) C (by omega) (by omega) dX3_commonDivisor_20 dX3_commonDivisor_21 (by decide) (fun h20 => ?_) (fun h20 => ?_)
    · skip
      have hy0 : y = 0 := by omega
      have hg0 : x = Nat.gcd a b := by rw [← hG, hy0, Nat.gcd_zero_right]
      refine zv_lload C 2 dX3_commonDivisor_45 rfl ?_
      refine zv_lconst (v := zL 0) C dX3_commonDivisor_47 (by decide) ?_
      refine zv_lc_leZ (tgt := 57) C (by omega) (by omega) dX3_commonDivisor_48 dX3_commonDivisor_49 (by decide) (fun h48 => ?_) (fun h48 => ?_)
      · skip
        refine zv_lconst (v := zL 1) C dX3_commonDivisor_57 (by decide) ?_
        exact zv_lret C hr dX3_commonDivisor_58 ⟨by congr 1; rw [← hg0]; omega, rfl⟩
      · skip
        refine zv_lload C 2 dX3_commonDivisor_52 rfl ?_
        refine zv_goto (tgt := 58) C dX3_commonDivisor_54 (by decide) ?_
        exact zv_lret C hr dX3_commonDivisor_58 ⟨by congr 1; rw [← hg0]; omega, rfl⟩
    · skip
      refine zv_lload C 2 dX3_commonDivisor_24 rfl ?_
      refine zv_lload C 3 dX3_commonDivisor_26 rfl ?_
      refine zv_lremP C (by omega) (by omega) dX3_commonDivisor_28 ?_
      refine zv_lstore (lv' := [(9, .long (zL ((x : Int) % (y : Int)))), (0, .long (zL (a : Int))), (2, .long (zL (b : Int))), (4, .long (zL (x : Int))), (6, .long (zL (y : Int))), (8, .int (zI (i : Int)))]) C dX3_commonDivisor_29  (by decide) rfl ?_
      refine zv_lload C 4 dX3_commonDivisor_31 rfl ?_
      refine zv_lstore (lv' := [(4, .long (zL (y : Int))), (9, .long (zL ((x : Int) % (y : Int)))), (0, .long (zL (a : Int))), (2, .long (zL (b : Int))), (6, .long (zL (y : Int))), (8, .int (zI (i : Int)))]) C dX3_commonDivisor_33  (by decide) rfl ?_
      refine zv_lload C 1 dX3_commonDivisor_35 rfl ?_
      refine zv_lstore (lv' := [(6, .long (zL ((x : Int) % (y : Int)))), (4, .long (zL (y : Int))), (9, .long (zL ((x : Int) % (y : Int)))), (0, .long (zL (a : Int))), (2, .long (zL (b : Int))), (8, .int (zI (i : Int)))]) C dX3_commonDivisor_37  (by decide) rfl ?_
      refine zv_iinc (v := (zI ((i : Int) + 1))) (lv' := [(8, .int (zI ((i : Int) + 1))), (6, .long (zL ((x : Int) % (y : Int)))), (4, .long (zL (y : Int))), (9, .long (zL ((x : Int) % (y : Int)))), (0, .long (zL (a : Int))), (2, .long (zL (b : Int)))]) C 5 dX3_commonDivisor_39 rfl (zI_add _ _) (by decide) rfl ?_
      refine zv_goto (tgt := 9) C dX3_commonDivisor_42 (by decide) ?_
      have q9_59 : ((i : Int) + 1 : Int) = ((i + 1 : Nat) : Int) := by first | rfl | omega
      have q9_60 : ((x : Int) % (y : Int) : Int) = ((x % y : Nat) : Int) := by exact (Int.natCast_emod x y).symm
      refine zv_sub (lv' := [(0, .long (zL (a : Int))), (2, .long (zL (b : Int))), (4, .long (zL (y : Int))), (6, .long (zL ((x % y : Nat) : Int))), (8, .int (zI ((i + 1 : Nat) : Int)))]) [4, 5, 2, 1, 0] (zcons rfl (zcons rfl (zcons rfl (zcons (zqL q9_60) (zcons (zqI q9_59) rfl))))) ?_
      exact ih ((i + 1, y, x % y)) (⟨by show i + 1 ≤ 200; omega, euI_s (i := i) (x := x) (y := y) hE (by omega), by rw [← hG, Nat.gcd_comm y, ← Nat.gcd_rec, Nat.gcd_comm]⟩) (by show 200 - (i + 1) < 200 - i; omega)
