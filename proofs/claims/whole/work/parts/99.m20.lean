/-! .. walked -/
theorem bf_its {p n t : Nat} (hp : 0 < p) (ht : t < 2) : (((n / p + t : Nat) : Int) * (p : Int) - (n : Int)).natAbs = if t = 0 then n % p else p - n % p := by
  have h : n / p * p + n % p = n := Nat.div_add_mod' n p
  have hm := Nat.mod_lt n hp
  have e : ((n / p + t : Nat) : Int) * (p : Int) = ((n / p * p : Nat) : Int) + (t : Int) * (p : Int) := by
    rw [Int.natCast_add, Int.add_mul, Int.natCast_mul]
  rw [e]
  rcases (show t = 0 ∨ t = 1 by omega) with q | q <;> subst q
  · rw [if_pos rfl]; omega
  · rw [if_neg (by decide)]; omega
set_option maxRecDepth 20000 in
theorem c_X11_bestFraction {l : Launch} (hfl : l.stackTraces = false) (E : zE) (σ : zS) (σc : zS) (U : zSU) (i L : Nat) (w : Int) (hB : zRb (gI σ 328) U) (hU : zSUp σc 29 U) (hi : i < U.nb) (hL : 1 ≤ L ∧ L ≤ 10000) (hw : w = 0 ∨ w = 1) : zRi l E yX11_bestFraction cX11_bestFraction 14 .int (zrm 2 46) [.ref (ob E 327), .int (zI (i : Int)), .int (zI (L : Int)), .int (zI w)] σ (fun r τ => r = zI (dBf (U.pe i) L w) ∧ mK σ τ 0) := by
  refine Met.ofW (cc := cX11_bestFraction) (maxL := 14) (ret := (some .int)) (by decide +kernel) rfl ?_
  intro p e s m args below meth c s₁ B hml hv
  obtain ⟨rfl, hd⟩ := hv
  have C := zX_of (own := RX11) hfl B hml rfl hd rfl
  have hr := B.returns
  refine zV_go hd (Nat.le_of_ble_eq_true rfl) (lv := [(0, .ref (ob E 327)), (1, .int (zI (i : Int))), (2, .int (zI (L : Int))), (3, .int (zI w))]) rfl ?_
  have hnb : U.nb ≤ 8 := hU.2.2.1
  have hs0 := hU.2.2.2.1
  have hpe := (hU.2.2.2.2 i hi).2.2.2.2.1
  have hdb := fun w => dBf_q (L := L) (w := w) hpe.1 hL.1
  refine zv_aload_n C 0 dX11_bestFraction_0 rfl rfl ?_
  refine zv_iload_n C 1 dX11_bestFraction_1 rfl rfl ?_
  refine zv_cviD (st := []) C (c0_X11_noBody hfl E σ σc U ((i : Int)) hB hU (by omega)) mX11_noBody kX11_319 (by decide : kd 327 = 10) rfl rfl rfl ⟨rfl, rfl⟩ (show zfit (zrm 1 25) 2 (zrm 2 46) = true from rfl) (Nat.le_of_ble_eq_true rfl) dX11_bestFraction_2 ⟨Nat.zero_le _, Nat.zero_le _⟩ ?_
  refine zv_if_neZ (tgt := 43) C (by omega) dX11_bestFraction_5 (by decide) (fun h5 => absurd h5 (by decide)) (fun h5 => ?_)
  refine zv_aload_n C 0 dX11_bestFraction_8 rfl rfl ?_
  refine zv_iload_n C 2 dX11_bestFraction_9 rfl rfl ?_
  refine zv_i2lZ C (by omega) dX11_bestFraction_10 ?_
  refine zv_lconst (v := zL 1) C dX11_bestFraction_11 (by decide) ?_
  refine zv_ldc2 C kX11_390 dX11_bestFraction_12 ?_
  refine zv_eql (y := zL 10000) (by decide) ?_
  refine zv_csiD (st := [.ref (ob E 327)]) C (c_X11_inRange hfl E (thW σ 0) ((L : Int)) (1) (10000) (by omega) (by omega) (by omega)) mX11_inRange kX11_71 rfl ⟨rfl, rfl⟩ (show zfit (zrm 0 0) 6 (zrm 2 46) = true from rfl) (Nat.le_of_ble_eq_true rfl) dX11_bestFraction_15 ⟨Nat.zero_le _, Nat.zero_le _⟩ ?_
  refine zv_if_eqB (tgt := 31) C dX11_bestFraction_18 (by decide) (fun h18 => ?_) (fun h18 => ?_)
  · skip
    refine zv_iconst (v := zI 1) C dX11_bestFraction_31 rfl ?_
    refine zv_goto (tgt := 36) C dX11_bestFraction_32 (by decide) ?_
    refine zv_iconst (v := zI 2) C dX11_bestFraction_36 rfl ?_
    exfalso
    omega
  · skip
    refine zv_iload_n C 3 dX11_bestFraction_21 rfl rfl ?_
    refine zv_i2lZ C (by omega) dX11_bestFraction_22 ?_
    refine zv_lconst (v := zL 0) C dX11_bestFraction_23 (by decide) ?_
    refine zv_lconst (v := zL 1) C dX11_bestFraction_24 (by decide) ?_
    refine zv_csiD (st := [.ref (ob E 327)]) C (c_X11_inRange hfl E (thW σ 0) (w) (0) (1) (by omega) (by omega) (by omega)) mX11_inRange kX11_71 rfl ⟨rfl, rfl⟩ (show zfit (zrm 0 0) 6 (zrm 2 46) = true from rfl) (Nat.le_of_ble_eq_true rfl) dX11_bestFraction_25 ⟨Nat.zero_le _, Nat.zero_le _⟩ ?_
    refine zv_if_neB (tgt := 35) C dX11_bestFraction_28 (by decide) (fun h28 => ?_) (fun h28 => ?_)
    · skip
      refine zv_iconst (v := zI 0) C dX11_bestFraction_35 rfl ?_
      refine zv_iconst (v := zI 2) C dX11_bestFraction_36 rfl ?_
      refine zv_cviD (st := []) C (c0_X11_fails hfl E (thW σ 0) 2) mX11_fails kX11_309 (by decide : kd 327 = 10) rfl rfl rfl ⟨rfl, rfl⟩ (show zfit (zrm 0 0) 3 (zrm 2 46) = true from rfl) (Nat.le_of_ble_eq_true rfl) dX11_bestFraction_37 ⟨Nat.zero_le _, Nat.zero_le _⟩ ?_
      refine zv_if_eqZ (tgt := 45) C (by omega) dX11_bestFraction_40 (by decide) (fun h40 => ?_) (fun h40 => absurd h40 (by decide))
      refine zv_aload_n C 0 dX11_bestFraction_45 rfl rfl ?_
      refine zv_iload_n C 1 dX11_bestFraction_46 rfl rfl ?_
      refine zv_iconst (v := zI 0) C dX11_bestFraction_47 rfl ?_
      refine zv_cviD (st := []) C (c0_X11_of hfl E (thW σ 0) U i hB hi hnb) mX11_of kX11_185 (by decide : kd 327 = 10) rfl rfl rfl ⟨rfl, rfl⟩ (show zfit (zrm 0 0) 3 (zrm 2 46) = true from rfl) (Nat.le_of_ble_eq_true rfl) dX11_bestFraction_48 ⟨Nat.zero_le _, Nat.zero_le _⟩ ?_
      refine zv_i2lZ C (by omega) dX11_bestFraction_51 ?_
      refine zv_lstore (lv' := [(4, .long (zL (U.pe i : Int))), (0, .ref (ob E 327)), (1, .int (zI (i : Int))), (2, .int (zI (L : Int))), (3, .int (zI w))]) C dX11_bestFraction_52  (by decide) rfl ?_
      refine zv_iconst (v := zI 0) C dX11_bestFraction_54 rfl ?_
      refine zv_istore (lv' := [(6, .int (zI 0)), (4, .long (zL (U.pe i : Int))), (0, .ref (ob E 327)), (1, .int (zI (i : Int))), (2, .int (zI (L : Int))), (3, .int (zI w))]) C dX11_bestFraction_55  (by decide) rfl ?_
      refine zv_iconst (v := zI 1) C dX11_bestFraction_57 rfl ?_
      refine zv_istore (lv' := [(7, .int (zI 1)), (6, .int (zI 0)), (4, .long (zL (U.pe i : Int))), (0, .ref (ob E 327)), (1, .int (zI (i : Int))), (2, .int (zI (L : Int))), (3, .int (zI w))]) C dX11_bestFraction_58  (by decide) rfl ?_
      refine zv_ldc2 C kX11_273 dX11_bestFraction_60 ?_
      refine zv_eql (y := zL 100) (by decide) ?_
      refine zv_lstore (lv' := [(8, .long (zL 100)), (7, .int (zI 1)), (6, .int (zI 0)), (4, .long (zL (U.pe i : Int))), (0, .ref (ob E 327)), (1, .int (zI (i : Int))), (2, .int (zI (L : Int))), (3, .int (zI w))]) C dX11_bestFraction_63  (by decide) rfl ?_
      refine zv_iconst (v := zI 1) C dX11_bestFraction_65 rfl ?_
      refine zv_istore (lv' := [(10, .int (zI 1)), (8, .long (zL 100)), (7, .int (zI 1)), (6, .int (zI 0)), (4, .long (zL (U.pe i : Int))), (0, .ref (ob E 327)), (1, .int (zI (i : Int))), (2, .int (zI (L : Int))), (3, .int (zI w))]) C dX11_bestFraction_66  (by decide) rfl ?_
      have q68_49 : (1 : Int) = (0 : Int) + 1 := by first | rfl | omega
      have q68_50 : (100 : Int) = ((bfQ (U.pe i) 0).2.2 : Int) := by rfl
      have q68_51 : (1 : Int) = ((bfQ (U.pe i) 0).2.1 : Int) := by rfl
      have q68_52 : (0 : Int) = ((bfQ (U.pe i) 0).1 : Int) := by rfl
      refine zv_sub (lv' := [(0, .ref (ob E 327)), (1, .int (zI (i : Int))), (2, .int (zI (L : Int))), (3, .int (zI w)), (4, .long (zL (U.pe i : Int))), (6, .int (zI ((bfQ (U.pe i) 0).1 : Int))), (7, .int (zI ((bfQ (U.pe i) 0).2.1 : Int))), (8, .long (zL ((bfQ (U.pe i) 0).2.2 : Int))), (10, .int (zI ((0 : Int) + 1)))]) [5, 6, 7, 8, 4, 3, 2, 1, 0] (zcons rfl (zcons rfl (zcons rfl (zcons rfl (zcons rfl (zcons (zqI q68_52) (zcons (zqI q68_51) (zcons (zqL q68_50) (zcons (zqI q68_49) rfl))))))))) ?_
      refine zv_while (α := Nat) (fun v => L - v) (fun v => v ≤ L ∧ (bfQ (U.pe i) v).1 ≤ 10001 ∧ (bfQ (U.pe i) v).2.1 ≤ 10000 ∧ (bfQ (U.pe i) v).2.2 ≤ 9999999) (fun v => (thW σ 0)) (fun v => [(0, .ref (ob E 327)), (1, .int (zI (i : Int))), (2, .int (zI (L : Int))), (3, .int (zI w)), (4, .long (zL (U.pe i : Int))), (6, .int (zI ((bfQ (U.pe i) v).1 : Int))), (7, .int (zI ((bfQ (U.pe i) v).2.1 : Int))), (8, .long (zL ((bfQ (U.pe i) v).2.2 : Int))), (10, .int (zI ((v : Int) + 1)))]) (fun v => []) (fun x hI ih => ?_) (0) (⟨Nat.zero_le _, (show 0 ≤ 10001 by decide), (show 1 ≤ 10000 by decide), (show 100 ≤ 9999999 by decide)⟩)
      obtain ⟨hx, hxb⟩ := hI
      refine zv_iload C 8 dX11_bestFraction_68 rfl ?_
      refine zv_iload_n C 2 dX11_bestFraction_70 rfl rfl ?_
      refine zv_icmp_gtZ (tgt := 168) C (by omega) (by omega) dX11_bestFraction_71 (by decide) (fun h71 => ?_) (fun h71 => ?_)
      · skip
        refine zv_iload_n C 3 dX11_bestFraction_168 rfl rfl ?_
        refine zv_if_neZ (tgt := 177) C (by omega) dX11_bestFraction_169 (by decide) (fun h169 => ?_) (fun h169 => ?_)
        · skip
          refine zv_iload C 6 dX11_bestFraction_177 rfl ?_
          exact zv_iret C hr rfl dX11_bestFraction_179 ⟨by rw [hdb, if_neg (by omega), show L = x by omega], mK_th _ _⟩
        · skip
          refine zv_iload C 5 dX11_bestFraction_172 rfl ?_
          refine zv_goto (tgt := 179) C dX11_bestFraction_174 (by decide) ?_
          exact zv_iret C hr rfl dX11_bestFraction_179 ⟨by rw [hdb, if_pos (by omega), show L = x by omega], mK_th _ _⟩
      · skip
        have hfk : ((100 * (x + 1) / U.pe i : Nat) : Int) = 100 * ((x : Int) + 1) / (U.pe i : Int) := by rw [Int.natCast_ediv, show ((100 * (x + 1) : Nat) : Int) = 100 * ((x : Int) + 1) by omega]
        have hfn : (0 : Int) ≤ ((100 * (x + 1) / U.pe i : Nat) : Int) := Int.natCast_nonneg _
        have hfb : 100 * (x + 1) / U.pe i ≤ 10000 := Nat.div_le_of_le_mul (Nat.mul_le_mul hpe.1 (by omega))
        have hbt := bfT_b (X := 0) (p := U.pe i) (q := x + 1) (z := (bfQ (U.pe i) x)) (by omega) (by omega) hxb hfb
        refine zv_ldc2 C kX11_273 dX11_bestFraction_74 ?_
        refine zv_eql (y := zL 100) (by decide) ?_
        refine zv_iload C 8 dX11_bestFraction_77 rfl ?_
        refine zv_i2lZ C (by omega) dX11_bestFraction_79 ?_
        refine zv_lmulZ C dX11_bestFraction_80 ?_
        refine zv_lload C 4 dX11_bestFraction_81 rfl ?_
        refine zv_ldivP C (by omega) (by omega) dX11_bestFraction_83 ?_
        refine zv_eql (y := (zL ((100 * (x + 1) / U.pe i : Nat) : Int))) (congrArg zL hfk.symm) ?_
        refine zv_l2iZ C dX11_bestFraction_84 ?_
        refine zv_istore (lv' := [(11, .int (zI ((100 * (x + 1) / U.pe i : Nat) : Int))), (0, .ref (ob E 327)), (1, .int (zI (i : Int))), (2, .int (zI (L : Int))), (3, .int (zI w)), (4, .long (zL (U.pe i : Int))), (6, .int (zI ((bfQ (U.pe i) x).1 : Int))), (7, .int (zI ((bfQ (U.pe i) x).2.1 : Int))), (8, .long (zL ((bfQ (U.pe i) x).2.2 : Int))), (10, .int (zI ((x : Int) + 1)))]) C dX11_bestFraction_85  (by decide) rfl ?_
        have q87_84 : (((100 * (x + 1) / U.pe i : Nat) : Int) : Int) = ((100 * (x + 1) / U.pe i + 0 : Nat) : Int) := by rfl
        have q87_85 : (((bfQ (U.pe i) x).2.2 : Int) : Int) = ((bfT (U.pe i) (x + 1) (bfQ (U.pe i) x) 0).2.2 : Int) := by rfl
        have q87_86 : (((bfQ (U.pe i) x).2.1 : Int) : Int) = ((bfT (U.pe i) (x + 1) (bfQ (U.pe i) x) 0).2.1 : Int) := by rfl
        have q87_87 : (((bfQ (U.pe i) x).1 : Int) : Int) = ((bfT (U.pe i) (x + 1) (bfQ (U.pe i) x) 0).1 : Int) := by rfl
        refine zv_sub (lv' := [(0, .ref (ob E 327)), (1, .int (zI (i : Int))), (2, .int (zI (L : Int))), (3, .int (zI w)), (4, .long (zL (U.pe i : Int))), (6, .int (zI ((bfT (U.pe i) (x + 1) (bfQ (U.pe i) x) 0).1 : Int))), (7, .int (zI ((bfT (U.pe i) (x + 1) (bfQ (U.pe i) x) 0).2.1 : Int))), (8, .long (zL ((bfT (U.pe i) (x + 1) (bfQ (U.pe i) x) 0).2.2 : Int))), (10, .int (zI ((x : Int) + 1))), (11, .int (zI ((100 * (x + 1) / U.pe i + 0 : Nat) : Int)))]) [1, 2, 3, 4, 5, 6, 7, 8, 9, 0] (zcons rfl (zcons rfl (zcons rfl (zcons rfl (zcons rfl (zcons (zqI q87_87) (zcons (zqI q87_86) (zcons (zqL q87_85) (zcons rfl (zcons (zqI q87_84) rfl)))))))))) ?_
        refine zv_while (α := Nat) (fun v => 3 - v) (fun v => v ≤ 2) (fun v => (thW σ 0)) (fun v => [(0, .ref (ob E 327)), (1, .int (zI (i : Int))), (2, .int (zI (L : Int))), (3, .int (zI w)), (4, .long (zL (U.pe i : Int))), (6, .int (zI ((bfT (U.pe i) (x + 1) (bfQ (U.pe i) x) v).1 : Int))), (7, .int (zI ((bfT (U.pe i) (x + 1) (bfQ (U.pe i) x) v).2.1 : Int))), (8, .long (zL ((bfT (U.pe i) (x + 1) (bfQ (U.pe i) x) v).2.2 : Int))), (10, .int (zI ((x : Int) + 1))), (11, .int (zI ((100 * (x + 1) / U.pe i + v : Nat) : Int)))]) (fun v => []) (fun t hI ih87 => ?_) (0) (by omega)
        refine zv_iload C 9 dX11_bestFraction_87 rfl ?_
        refine zv_i2lZ C (by omega) dX11_bestFraction_89 ?_
        refine zv_ldc2 C kX11_273 dX11_bestFraction_90 ?_
        refine zv_eql (y := zL 100) (by decide) ?_
        refine zv_iload C 8 dX11_bestFraction_93 rfl ?_
        refine zv_i2lZ C (by omega) dX11_bestFraction_95 ?_
        refine zv_lmulZ C dX11_bestFraction_96 ?_
        refine zv_lload C 4 dX11_bestFraction_97 rfl ?_
        refine zv_ldivP C (by omega) (by omega) dX11_bestFraction_99 ?_
        refine zv_eql (y := (zL ((100 * (x + 1) / U.pe i : Nat) : Int))) (congrArg zL hfk.symm) ?_
        refine zv_lconst (v := zL 1) C dX11_bestFraction_100 (by decide) ?_
        refine zv_laddZ C dX11_bestFraction_101 ?_
        refine zv_lc_gtZ (tgt := 162) C (by omega) (by omega) dX11_bestFraction_102 dX11_bestFraction_103 (by decide) (fun h102 => ?_) (fun h102 => ?_)
        · skip
          refine zv_iinc (v := (zI ((x : Int) + 1 + 1))) (lv' := [(10, .int (zI ((x : Int) + 1 + 1))), (0, .ref (ob E 327)), (1, .int (zI (i : Int))), (2, .int (zI (L : Int))), (3, .int (zI w)), (4, .long (zL (U.pe i : Int))), (6, .int (zI ((bfT (U.pe i) (x + 1) (bfQ (U.pe i) x) t).1 : Int))), (7, .int (zI ((bfT (U.pe i) (x + 1) (bfQ (U.pe i) x) t).2.1 : Int))), (8, .long (zL ((bfT (U.pe i) (x + 1) (bfQ (U.pe i) x) t).2.2 : Int))), (11, .int (zI ((100 * (x + 1) / U.pe i + t : Nat) : Int)))]) C 8 dX11_bestFraction_162 rfl (zI_add _ _) (by decide) rfl ?_
          refine zv_goto (tgt := 68) C dX11_bestFraction_165 (by decide) ?_
          have q68_106 : ((x : Int) + 1 + 1 : Int) = ((x + 1 : Nat) : Int) + 1 := by omega
          have q68_107 : (((bfT (U.pe i) (x + 1) (bfQ (U.pe i) x) t).2.2 : Int) : Int) = ((bfQ (U.pe i) (x + 1)).2.2 : Int) := by rw [bfQ, show t = 2 by omega]
          have q68_108 : (((bfT (U.pe i) (x + 1) (bfQ (U.pe i) x) t).2.1 : Int) : Int) = ((bfQ (U.pe i) (x + 1)).2.1 : Int) := by rw [bfQ, show t = 2 by omega]
          have q68_109 : (((bfT (U.pe i) (x + 1) (bfQ (U.pe i) x) t).1 : Int) : Int) = ((bfQ (U.pe i) (x + 1)).1 : Int) := by rw [bfQ, show t = 2 by omega]
          refine zv_sub (lv' := [(0, .ref (ob E 327)), (1, .int (zI (i : Int))), (2, .int (zI (L : Int))), (3, .int (zI w)), (4, .long (zL (U.pe i : Int))), (6, .int (zI ((bfQ (U.pe i) (x + 1)).1 : Int))), (7, .int (zI ((bfQ (U.pe i) (x + 1)).2.1 : Int))), (8, .long (zL ((bfQ (U.pe i) (x + 1)).2.2 : Int))), (10, .int (zI (((x + 1 : Nat) : Int) + 1)))]) [1, 2, 3, 4, 5, 6, 7, 8, 0] (zcons rfl (zcons rfl (zcons rfl (zcons rfl (zcons rfl (zcons (zqI q68_109) (zcons (zqI q68_108) (zcons (zqL q68_107) (zcons (zqI q68_106) rfl))))))))) ?_
          exact ih (x + 1) (⟨by omega, hbt 2 (by omega)⟩) (by omega)
        · skip
          have ht2 : t < 2 := by omega
          have hb2 := hbt t (by omega)
          have hd9 : (if t = 0 then 100 * (x + 1) % U.pe i else U.pe i - 100 * (x + 1) % U.pe i) ≤ 9999999 := by have := Nat.mod_lt (100 * (x + 1)) (show 0 < U.pe i by omega); split <;> omega
          have hm1 : (if t = 0 then 100 * (x + 1) % U.pe i else U.pe i - 100 * (x + 1) % U.pe i) * (bfT (U.pe i) (x + 1) (bfQ (U.pe i) x) t).2.1 ≤ 9999999 * 10000 := Nat.mul_le_mul hd9 hb2.2.1
          have hm2 : (bfT (U.pe i) (x + 1) (bfQ (U.pe i) x) t).2.2 * (x + 1) ≤ 9999999 * 10000 := Nat.mul_le_mul hb2.2.2 (by omega)
          have hits : (((((100 * (x + 1) / U.pe i + t : Nat) : Int) * (U.pe i : Int) - 100 * ((x : Int) + 1)).natAbs : Nat) : Int) = (((if t = 0 then 100 * (x + 1) % U.pe i else U.pe i - 100 * (x + 1) % U.pe i) : Nat) : Int) := by rw [← bf_its (p := U.pe i) (n := 100 * (x + 1)) (t := t) (by omega) ht2, show ((100 * (x + 1) : Nat) : Int) = 100 * ((x : Int) + 1) by omega]
          have hpp : (100 * (x + 1) / U.pe i + t) * U.pe i ≤ 10001 * 9999999 := Nat.mul_le_mul (by omega) (by omega)
          refine zv_iload C 9 dX11_bestFraction_106 rfl ?_
          refine zv_i2lZ C (by omega) dX11_bestFraction_108 ?_
          refine zv_lload C 4 dX11_bestFraction_109 rfl ?_
          refine zv_lmulZ C dX11_bestFraction_111 ?_
          refine zv_eql (y := (zL (((100 * (x + 1) / U.pe i + t) * U.pe i : Nat) : Int))) (congrArg zL (Int.natCast_mul _ _).symm) ?_
          refine zv_ldc2 C kX11_273 dX11_bestFraction_112 ?_
          refine zv_eql (y := zL 100) (by decide) ?_
          refine zv_iload C 8 dX11_bestFraction_115 rfl ?_
          refine zv_i2lZ C (by omega) dX11_bestFraction_117 ?_
          refine zv_lmulZ C dX11_bestFraction_118 ?_
          refine zv_lsubZ C dX11_bestFraction_119 ?_
          refine zv_cslD (st := []) C (c_J9_abs_067f4 hfl E (thW σ 0) ((((100 * (x + 1) / U.pe i + t) * U.pe i : Nat) : Int) - (100 * ((x : Int) + 1))) (by omega)) mJ9_abs_067f4 kX11_239 rfl ⟨rfl, rfl⟩ (show zfit (zrm 0 0) 2 (zrm 2 46) = true from rfl) (Nat.le_of_ble_eq_true rfl) dX11_bestFraction_120 ⟨Nat.zero_le _, Nat.zero_le _⟩ ?_
          refine zv_eql (y := (zL (((if t = 0 then 100 * (x + 1) % U.pe i else U.pe i - 100 * (x + 1) % U.pe i) : Nat) : Int))) (by rw [← hits, Int.natCast_mul]) ?_
          refine zv_lstore (lv' := [(12, .long (zL (((if t = 0 then 100 * (x + 1) % U.pe i else U.pe i - 100 * (x + 1) % U.pe i) : Nat) : Int))), (0, .ref (ob E 327)), (1, .int (zI (i : Int))), (2, .int (zI (L : Int))), (3, .int (zI w)), (4, .long (zL (U.pe i : Int))), (6, .int (zI ((bfT (U.pe i) (x + 1) (bfQ (U.pe i) x) t).1 : Int))), (7, .int (zI ((bfT (U.pe i) (x + 1) (bfQ (U.pe i) x) t).2.1 : Int))), (8, .long (zL ((bfT (U.pe i) (x + 1) (bfQ (U.pe i) x) t).2.2 : Int))), (10, .int (zI ((x : Int) + 1))), (11, .int (zI ((100 * (x + 1) / U.pe i + t : Nat) : Int)))]) C dX11_bestFraction_123  (by decide) rfl ?_
          refine zv_lload C 0 dX11_bestFraction_125 rfl ?_
          refine zv_iload C 7 dX11_bestFraction_127 rfl ?_
          refine zv_i2lZ C (by omega) dX11_bestFraction_129 ?_
          refine zv_lmulZ C dX11_bestFraction_130 ?_
          refine zv_eql (y := (zL (((if t = 0 then 100 * (x + 1) % U.pe i else U.pe i - 100 * (x + 1) % U.pe i) * (bfT (U.pe i) (x + 1) (bfQ (U.pe i) x) t).2.1 : Nat) : Int))) (congrArg zL (Int.natCast_mul _ _).symm) ?_
          refine zv_lload C 8 dX11_bestFraction_131 rfl ?_
          refine zv_iload C 9 dX11_bestFraction_133 rfl ?_
          refine zv_i2lZ C (by omega) dX11_bestFraction_135 ?_
          refine zv_lmulZ C dX11_bestFraction_136 ?_
          refine zv_eql (y := (zL (((bfT (U.pe i) (x + 1) (bfQ (U.pe i) x) t).2.2 * (x + 1) : Nat) : Int))) (by rw [Int.natCast_mul, show ((x + 1 : Nat) : Int) = (x : Int) + 1 by omega]) ?_
          refine zv_lc_ltZ (tgt := 144) C (by omega) (by omega) dX11_bestFraction_137 dX11_bestFraction_138 (by decide) (fun h137 => ?_) (fun h137 => ?_)
          · skip
            have hlt : (if t = 0 then 100 * (x + 1) % U.pe i else U.pe i - 100 * (x + 1) % U.pe i) * (bfT (U.pe i) (x + 1) (bfQ (U.pe i) x) t).2.1 < (bfT (U.pe i) (x + 1) (bfQ (U.pe i) x) t).2.2 * (x + 1) := by omega
            refine zv_iload C 10 dX11_bestFraction_144 rfl ?_
            refine zv_istore (lv' := [(6, .int (zI ((100 * (x + 1) / U.pe i + t : Nat) : Int))), (12, .long (zL (((if t = 0 then 100 * (x + 1) % U.pe i else U.pe i - 100 * (x + 1) % U.pe i) : Nat) : Int))), (0, .ref (ob E 327)), (1, .int (zI (i : Int))), (2, .int (zI (L : Int))), (3, .int (zI w)), (4, .long (zL (U.pe i : Int))), (7, .int (zI ((bfT (U.pe i) (x + 1) (bfQ (U.pe i) x) t).2.1 : Int))), (8, .long (zL ((bfT (U.pe i) (x + 1) (bfQ (U.pe i) x) t).2.2 : Int))), (10, .int (zI ((x : Int) + 1))), (11, .int (zI ((100 * (x + 1) / U.pe i + t : Nat) : Int)))]) C dX11_bestFraction_146  (by decide) rfl ?_
            refine zv_iload C 9 dX11_bestFraction_148 rfl ?_
            refine zv_istore (lv' := [(7, .int (zI ((x : Int) + 1))), (6, .int (zI ((100 * (x + 1) / U.pe i + t : Nat) : Int))), (12, .long (zL (((if t = 0 then 100 * (x + 1) % U.pe i else U.pe i - 100 * (x + 1) % U.pe i) : Nat) : Int))), (0, .ref (ob E 327)), (1, .int (zI (i : Int))), (2, .int (zI (L : Int))), (3, .int (zI w)), (4, .long (zL (U.pe i : Int))), (8, .long (zL ((bfT (U.pe i) (x + 1) (bfQ (U.pe i) x) t).2.2 : Int))), (10, .int (zI ((x : Int) + 1))), (11, .int (zI ((100 * (x + 1) / U.pe i + t : Nat) : Int)))]) C dX11_bestFraction_150  (by decide) rfl ?_
            refine zv_lload C 2 dX11_bestFraction_152 rfl ?_
            refine zv_lstore (lv' := [(8, .long (zL (((if t = 0 then 100 * (x + 1) % U.pe i else U.pe i - 100 * (x + 1) % U.pe i) : Nat) : Int))), (7, .int (zI ((x : Int) + 1))), (6, .int (zI ((100 * (x + 1) / U.pe i + t : Nat) : Int))), (12, .long (zL (((if t = 0 then 100 * (x + 1) % U.pe i else U.pe i - 100 * (x + 1) % U.pe i) : Nat) : Int))), (0, .ref (ob E 327)), (1, .int (zI (i : Int))), (2, .int (zI (L : Int))), (3, .int (zI w)), (4, .long (zL (U.pe i : Int))), (10, .int (zI ((x : Int) + 1))), (11, .int (zI ((100 * (x + 1) / U.pe i + t : Nat) : Int)))]) C dX11_bestFraction_154  (by decide) rfl ?_
            refine zv_iinc (v := (zI (((100 * (x + 1) / U.pe i + t : Nat) : Int) + 1))) (lv' := [(11, .int (zI (((100 * (x + 1) / U.pe i + t : Nat) : Int) + 1))), (8, .long (zL (((if t = 0 then 100 * (x + 1) % U.pe i else U.pe i - 100 * (x + 1) % U.pe i) : Nat) : Int))), (7, .int (zI ((x : Int) + 1))), (6, .int (zI ((100 * (x + 1) / U.pe i + t : Nat) : Int))), (12, .long (zL (((if t = 0 then 100 * (x + 1) % U.pe i else U.pe i - 100 * (x + 1) % U.pe i) : Nat) : Int))), (0, .ref (ob E 327)), (1, .int (zI (i : Int))), (2, .int (zI (L : Int))), (3, .int (zI w)), (4, .long (zL (U.pe i : Int))), (10, .int (zI ((x : Int) + 1)))]) C 10 dX11_bestFraction_156 rfl (zI_add _ _) (by decide) rfl ?_
            refine zv_goto (tgt := 87) C dX11_bestFraction_159 (by decide) ?_
            have q87_155 : (((100 * (x + 1) / U.pe i + t : Nat) : Int) + 1 : Int) = ((100 * (x + 1) / U.pe i + (t + 1) : Nat) : Int) := by omega
            have q87_156 : ((((if t = 0 then 100 * (x + 1) % U.pe i else U.pe i - 100 * (x + 1) % U.pe i) : Nat) : Int) : Int) = ((bfT (U.pe i) (x + 1) (bfQ (U.pe i) x) (t + 1)).2.2 : Int) := by rw [bfT, bf1]; first | rw [if_pos hlt] | rw [if_neg hlt]
            have q87_157 : ((x : Int) + 1 : Int) = ((bfT (U.pe i) (x + 1) (bfQ (U.pe i) x) (t + 1)).2.1 : Int) := by rw [bfT, bf1]; first | (rw [if_pos hlt]; show (x : Int) + 1 = ((x + 1 : Nat) : Int); omega) | rw [if_neg hlt]
            have q87_158 : (((100 * (x + 1) / U.pe i + t : Nat) : Int) : Int) = ((bfT (U.pe i) (x + 1) (bfQ (U.pe i) x) (t + 1)).1 : Int) := by rw [bfT, bf1]; first | rw [if_pos hlt] | rw [if_neg hlt]
            refine zv_sub (lv' := [(0, .ref (ob E 327)), (1, .int (zI (i : Int))), (2, .int (zI (L : Int))), (3, .int (zI w)), (4, .long (zL (U.pe i : Int))), (6, .int (zI ((bfT (U.pe i) (x + 1) (bfQ (U.pe i) x) (t + 1)).1 : Int))), (7, .int (zI ((bfT (U.pe i) (x + 1) (bfQ (U.pe i) x) (t + 1)).2.1 : Int))), (8, .long (zL ((bfT (U.pe i) (x + 1) (bfQ (U.pe i) x) (t + 1)).2.2 : Int))), (10, .int (zI ((x : Int) + 1))), (11, .int (zI ((100 * (x + 1) / U.pe i + (t + 1) : Nat) : Int)))]) [5, 6, 7, 8, 9, 3, 2, 1, 10, 0] (zcons rfl (zcons rfl (zcons rfl (zcons rfl (zcons rfl (zcons (zqI q87_158) (zcons (zqI q87_157) (zcons (zqL q87_156) (zcons rfl (zcons (zqI q87_155) rfl)))))))))) ?_
            exact ih87 (t + 1) (by omega) (by omega)
          · skip
            have hlt : ¬ (if t = 0 then 100 * (x + 1) % U.pe i else U.pe i - 100 * (x + 1) % U.pe i) * (bfT (U.pe i) (x + 1) (bfQ (U.pe i) x) t).2.1 < (bfT (U.pe i) (x + 1) (bfQ (U.pe i) x) t).2.2 * (x + 1) := by omega
            refine zv_goto (tgt := 156) C dX11_bestFraction_141 (by decide) ?_
            refine zv_iinc (v := (zI (((100 * (x + 1) / U.pe i + t : Nat) : Int) + 1))) (lv' := [(11, .int (zI (((100 * (x + 1) / U.pe i + t : Nat) : Int) + 1))), (12, .long (zL (((if t = 0 then 100 * (x + 1) % U.pe i else U.pe i - 100 * (x + 1) % U.pe i) : Nat) : Int))), (0, .ref (ob E 327)), (1, .int (zI (i : Int))), (2, .int (zI (L : Int))), (3, .int (zI w)), (4, .long (zL (U.pe i : Int))), (6, .int (zI ((bfT (U.pe i) (x + 1) (bfQ (U.pe i) x) t).1 : Int))), (7, .int (zI ((bfT (U.pe i) (x + 1) (bfQ (U.pe i) x) t).2.1 : Int))), (8, .long (zL ((bfT (U.pe i) (x + 1) (bfQ (U.pe i) x) t).2.2 : Int))), (10, .int (zI ((x : Int) + 1)))]) C 10 dX11_bestFraction_156 rfl (zI_add _ _) (by decide) rfl ?_
            refine zv_goto (tgt := 87) C dX11_bestFraction_159 (by decide) ?_
            have q87_166 : (((100 * (x + 1) / U.pe i + t : Nat) : Int) + 1 : Int) = ((100 * (x + 1) / U.pe i + (t + 1) : Nat) : Int) := by omega
            have q87_167 : (((bfT (U.pe i) (x + 1) (bfQ (U.pe i) x) t).2.2 : Int) : Int) = ((bfT (U.pe i) (x + 1) (bfQ (U.pe i) x) (t + 1)).2.2 : Int) := by rw [bfT, bf1]; first | rw [if_pos hlt] | rw [if_neg hlt]
            have q87_168 : (((bfT (U.pe i) (x + 1) (bfQ (U.pe i) x) t).2.1 : Int) : Int) = ((bfT (U.pe i) (x + 1) (bfQ (U.pe i) x) (t + 1)).2.1 : Int) := by rw [bfT, bf1]; first | (rw [if_pos hlt]; show (x : Int) + 1 = ((x + 1 : Nat) : Int); omega) | rw [if_neg hlt]
            have q87_169 : (((bfT (U.pe i) (x + 1) (bfQ (U.pe i) x) t).1 : Int) : Int) = ((bfT (U.pe i) (x + 1) (bfQ (U.pe i) x) (t + 1)).1 : Int) := by rw [bfT, bf1]; first | rw [if_pos hlt] | rw [if_neg hlt]
            refine zv_sub (lv' := [(0, .ref (ob E 327)), (1, .int (zI (i : Int))), (2, .int (zI (L : Int))), (3, .int (zI w)), (4, .long (zL (U.pe i : Int))), (6, .int (zI ((bfT (U.pe i) (x + 1) (bfQ (U.pe i) x) (t + 1)).1 : Int))), (7, .int (zI ((bfT (U.pe i) (x + 1) (bfQ (U.pe i) x) (t + 1)).2.1 : Int))), (8, .long (zL ((bfT (U.pe i) (x + 1) (bfQ (U.pe i) x) (t + 1)).2.2 : Int))), (10, .int (zI ((x : Int) + 1))), (11, .int (zI ((100 * (x + 1) / U.pe i + (t + 1) : Nat) : Int)))]) [2, 3, 4, 5, 6, 7, 8, 9, 10, 0] (zcons rfl (zcons rfl (zcons rfl (zcons rfl (zcons rfl (zcons (zqI q87_169) (zcons (zqI q87_168) (zcons (zqL q87_167) (zcons rfl (zcons (zqI q87_166) rfl)))))))))) ?_
            exact ih87 (t + 1) (by omega) (by omega)
    · skip
      refine zv_iconst (v := zI 1) C dX11_bestFraction_31 rfl ?_
      refine zv_goto (tgt := 36) C dX11_bestFraction_32 (by decide) ?_
      refine zv_iconst (v := zI 2) C dX11_bestFraction_36 rfl ?_
      exfalso
      omega
set_option maxRecDepth 20000 in
theorem x1_X11_bestFraction {l : Launch} (hfl : l.stackTraces = false) (E : zE) (σ : zS) (σc : zS) (U : zSU) (y a b : Int) (hB : zRb (gI σ 328) U) (hU : zSUp σc 29 U) (hy : -2147483648 ≤ y ∧ y < 2147483648) (hno : ¬ (0 ≤ y ∧ y < U.nb)) : zRi l E yX11_bestFraction cX11_bestFraction 14 .int (zrm 2 46) [.ref (ob E 327), .int (zI y), .int (zI a), .int (zI b)] σ (fun r τ => r = zI 0 ∧ mK σ τ 1) := by
  refine Met.ofW (cc := cX11_bestFraction) (maxL := 14) (ret := (some .int)) (by decide +kernel) rfl ?_
  intro p e s m args below meth c s₁ B hml hv
  obtain ⟨rfl, hd⟩ := hv
  have C := zX_of (own := RX11) hfl B hml rfl hd rfl
  have hr := B.returns
  refine zV_go hd (Nat.le_of_ble_eq_true rfl) (lv := [(0, .ref (ob E 327)), (1, .int (zI y)), (2, .int (zI a)), (3, .int (zI b))]) rfl ?_
  have hnb : U.nb ≤ 8 := hU.2.2.1
  have hs0 := hU.2.2.2.1
  
  refine zv_aload_n C 0 dX11_bestFraction_0 rfl rfl ?_
  refine zv_iload_n C 1 dX11_bestFraction_1 rfl rfl ?_
  refine zv_cviD (st := []) C (c1_X11_noBody hfl E σ σc U (y) hB hU (by omega) hno) mX11_noBody kX11_319 (by decide : kd 327 = 10) rfl rfl rfl ⟨rfl, rfl⟩ (show zfit (zrm 1 25) 2 (zrm 2 46) = true from rfl) (Nat.le_of_ble_eq_true rfl) dX11_bestFraction_2 ⟨Nat.zero_le _, Nat.zero_le _⟩ ?_
  refine zv_if_neZ (tgt := 43) C (by omega) dX11_bestFraction_5 (by decide) (fun h5 => ?_) (fun h5 => absurd h5 (by decide))
  refine zv_iconst (v := zI 0) C dX11_bestFraction_43 rfl ?_
  exact zv_iret C hr rfl dX11_bestFraction_44 ⟨rfl, by first | exact mK_th _ _ | exact mK_th2 _ _ _ | exact mK_C (mK_W (mK_th _ _) _ _) _ | exact mK_W (mK_th _ _) _ _⟩
set_option maxRecDepth 20000 in
theorem x2_X11_bestFraction {l : Launch} (hfl : l.stackTraces = false) (E : zE) (σ : zS) (σc : zS) (U : zSU) (i : Nat) (a b : Int) (hB : zRb (gI σ 328) U) (hU : zSUp σc 29 U) (hi : i < U.nb) (har : -2147483648 ≤ a ∧ a < 2147483648) (hbr : -2147483648 ≤ b ∧ b < 2147483648) (hno : ¬ ((1 ≤ a ∧ a ≤ 10000) ∧ (0 ≤ b ∧ b ≤ 1))) : zRi l E yX11_bestFraction cX11_bestFraction 14 .int (zrm 2 46) [.ref (ob E 327), .int (zI (i : Int)), .int (zI a), .int (zI b)] σ (fun r τ => r = zI 0 ∧ mK σ τ 2) := by
  refine Met.ofW (cc := cX11_bestFraction) (maxL := 14) (ret := (some .int)) (by decide +kernel) rfl ?_
  intro p e s m args below meth c s₁ B hml hv
  obtain ⟨rfl, hd⟩ := hv
  have C := zX_of (own := RX11) hfl B hml rfl hd rfl
  have hr := B.returns
  refine zV_go hd (Nat.le_of_ble_eq_true rfl) (lv := [(0, .ref (ob E 327)), (1, .int (zI (i : Int))), (2, .int (zI a)), (3, .int (zI b))]) rfl ?_
  have hnb : U.nb ≤ 8 := hU.2.2.1
  have hs0 := hU.2.2.2.1
  
  refine zv_aload_n C 0 dX11_bestFraction_0 rfl rfl ?_
  refine zv_iload_n C 1 dX11_bestFraction_1 rfl rfl ?_
  refine zv_cviD (st := []) C (c0_X11_noBody hfl E σ σc U ((i : Int)) hB hU (by omega)) mX11_noBody kX11_319 (by decide : kd 327 = 10) rfl rfl rfl ⟨rfl, rfl⟩ (show zfit (zrm 1 25) 2 (zrm 2 46) = true from rfl) (Nat.le_of_ble_eq_true rfl) dX11_bestFraction_2 ⟨Nat.zero_le _, Nat.zero_le _⟩ ?_
  refine zv_if_neZ (tgt := 43) C (by omega) dX11_bestFraction_5 (by decide) (fun h5 => absurd h5 (by decide)) (fun h5 => ?_)
  refine zv_aload_n C 0 dX11_bestFraction_8 rfl rfl ?_
  refine zv_iload_n C 2 dX11_bestFraction_9 rfl rfl ?_
  refine zv_i2lZ C (by omega) dX11_bestFraction_10 ?_
  refine zv_lconst (v := zL 1) C dX11_bestFraction_11 (by decide) ?_
  refine zv_ldc2 C kX11_390 dX11_bestFraction_12 ?_
  refine zv_eql (y := zL 10000) (by decide) ?_
  refine zv_csiD (st := [.ref (ob E 327)]) C (c_X11_inRange hfl E (thW σ 0) (a) (1) (10000) (by omega) (by omega) (by omega)) mX11_inRange kX11_71 rfl ⟨rfl, rfl⟩ (show zfit (zrm 0 0) 6 (zrm 2 46) = true from rfl) (Nat.le_of_ble_eq_true rfl) dX11_bestFraction_15 ⟨Nat.zero_le _, Nat.zero_le _⟩ ?_
  refine zv_if_eqB (tgt := 31) C dX11_bestFraction_18 (by decide) (fun h18 => ?_) (fun h18 => ?_)
  · skip
    refine zv_iconst (v := zI 1) C dX11_bestFraction_31 rfl ?_
    refine zv_goto (tgt := 36) C dX11_bestFraction_32 (by decide) ?_
    refine zv_iconst (v := zI 2) C dX11_bestFraction_36 rfl ?_
    refine zv_cviD (st := []) C (c1_X11_fails hfl E (thW σ 0) 2) mX11_fails kX11_309 (by decide : kd 327 = 10) rfl rfl rfl ⟨rfl, rfl⟩ (show zfit (zrm 0 0) 3 (zrm 2 46) = true from rfl) (Nat.le_of_ble_eq_true rfl) dX11_bestFraction_37 ⟨Nat.zero_le _, Nat.zero_le _⟩ ?_
    refine zv_if_eqZ (tgt := 45) C (by omega) dX11_bestFraction_40 (by decide) (fun h40 => absurd h40 (by decide)) (fun h40 => ?_)
    refine zv_iconst (v := zI 0) C dX11_bestFraction_43 rfl ?_
    exact zv_iret C hr rfl dX11_bestFraction_44 ⟨rfl, mK_th2 _ _ _⟩
  · skip
    refine zv_iload_n C 3 dX11_bestFraction_21 rfl rfl ?_
    refine zv_i2lZ C (by omega) dX11_bestFraction_22 ?_
    refine zv_lconst (v := zL 0) C dX11_bestFraction_23 (by decide) ?_
    refine zv_lconst (v := zL 1) C dX11_bestFraction_24 (by decide) ?_
    refine zv_csiD (st := [.ref (ob E 327)]) C (c_X11_inRange hfl E (thW σ 0) (b) (0) (1) (by omega) (by omega) (by omega)) mX11_inRange kX11_71 rfl ⟨rfl, rfl⟩ (show zfit (zrm 0 0) 6 (zrm 2 46) = true from rfl) (Nat.le_of_ble_eq_true rfl) dX11_bestFraction_25 ⟨Nat.zero_le _, Nat.zero_le _⟩ ?_
    refine zv_if_neB (tgt := 35) C dX11_bestFraction_28 (by decide) (fun h28 => ?_) (fun h28 => ?_)
    · skip
      refine zv_iconst (v := zI 0) C dX11_bestFraction_35 rfl ?_
      refine zv_iconst (v := zI 2) C dX11_bestFraction_36 rfl ?_
      exfalso
      omega
    · skip
      refine zv_iconst (v := zI 1) C dX11_bestFraction_31 rfl ?_
      refine zv_goto (tgt := 36) C dX11_bestFraction_32 (by decide) ?_
      refine zv_iconst (v := zI 2) C dX11_bestFraction_36 rfl ?_
      refine zv_cviD (st := []) C (c1_X11_fails hfl E (thW σ 0) 2) mX11_fails kX11_309 (by decide : kd 327 = 10) rfl rfl rfl ⟨rfl, rfl⟩ (show zfit (zrm 0 0) 3 (zrm 2 46) = true from rfl) (Nat.le_of_ble_eq_true rfl) dX11_bestFraction_37 ⟨Nat.zero_le _, Nat.zero_le _⟩ ?_
      refine zv_if_eqZ (tgt := 45) C (by omega) dX11_bestFraction_40 (by decide) (fun h40 => absurd h40 (by decide)) (fun h40 => ?_)
      refine zv_iconst (v := zI 0) C dX11_bestFraction_43 rfl ?_
      exact zv_iret C hr rfl dX11_bestFraction_44 ⟨rfl, mK_th2 _ _ _⟩
