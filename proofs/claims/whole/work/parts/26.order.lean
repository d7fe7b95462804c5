theorem fCmp_z2 {a b d : Nat} (hd : 0 < d) : fCmp a b 0 d = if a = 0 then 0 else 1 := by
  have h := fCmp_sw 0 d a b
  rw [h, fCmp_z1 hd]
  split <;> rfl
set_option maxRecDepth 20000 in
theorem c_X3_order {l : Launch} (hfl : l.stackTraces = false) (E : zE) (σ : zS) (a b a2 b2 : Nat) (ha : a < 2 ^ 63) (hb : 0 < b ∧ b < 2 ^ 63) (hc : a2 < 2 ^ 63) (hdd : 0 < b2 ∧ b2 < 2 ^ 63) : zRi l E yX3_order cX3_order 22 .int (zrm 1 23) [.long (zL (a : Int)), .long (zL (b : Int)), .long (zL (a2 : Int)), .long (zL (b2 : Int))] σ (fun r τ => r = zI (fCmp a b a2 b2) ∧ τ = σ) := by
  refine Met.ofW (cc := cX3_order) (maxL := 22) (ret := (some .int)) (by decide +kernel) rfl ?_
  intro p e s m args below meth c s₁ B hml hv
  obtain ⟨rfl, hd⟩ := hv
  have C := zX_of (own := RX3) hfl B hml rfl hd rfl
  have hr := B.returns
  refine zV_go hd (Nat.le_of_ble_eq_true rfl) (lv := [(0, .long (zL (a : Int))), (2, .long (zL (b : Int))), (4, .long (zL (a2 : Int))), (6, .long (zL (b2 : Int)))]) rfl ?_
  refine zv_lload_n C 0 dX3_order_0 rfl rfl ?_
  refine zv_lstore (lv' := [(8, .long (zL (a : Int))), (0, .long (zL (a : Int))), (2, .long (zL (b : Int))), (4, .long (zL (a2 : Int))), (6, .long (zL (b2 : Int)))]) C dX3_order_1  (by decide) rfl ?_
  refine zv_lload_n C 2 dX3_order_3 rfl rfl ?_
  refine zv_lstore (lv' := [(10, .long (zL (b : Int))), (8, .long (zL (a : Int))), (0, .long (zL (a : Int))), (2, .long (zL (b : Int))), (4, .long (zL (a2 : Int))), (6, .long (zL (b2 : Int)))]) C dX3_order_4  (by decide) rfl ?_
  refine zv_lload C 4 dX3_order_6 rfl ?_
  refine zv_lstore (lv' := [(12, .long (zL (a2 : Int))), (10, .long (zL (b : Int))), (8, .long (zL (a : Int))), (0, .long (zL (a : Int))), (2, .long (zL (b : Int))), (4, .long (zL (a2 : Int))), (6, .long (zL (b2 : Int)))]) C dX3_order_8  (by decide) rfl ?_
  refine zv_lload C 6 dX3_order_10 rfl ?_
  refine zv_lstore (lv' := [(14, .long (zL (b2 : Int))), (12, .long (zL (a2 : Int))), (10, .long (zL (b : Int))), (8, .long (zL (a : Int))), (0, .long (zL (a : Int))), (2, .long (zL (b : Int))), (4, .long (zL (a2 : Int))), (6, .long (zL (b2 : Int)))]) C dX3_order_12  (by decide) rfl ?_
  refine zv_iconst (v := zI 0) C dX3_order_14 rfl ?_
  refine zv_istore (lv' := [(16, .int (zI 0)), (14, .long (zL (b2 : Int))), (12, .long (zL (a2 : Int))), (10, .long (zL (b : Int))), (8, .long (zL (a : Int))), (0, .long (zL (a : Int))), (2, .long (zL (b : Int))), (4, .long (zL (a2 : Int))), (6, .long (zL (b2 : Int)))]) C dX3_order_15  (by decide) rfl ?_
  have q17_10 : (0 : Int) = (0 : Int) := by first | rfl | omega
  refine zv_sub (lv' := [(0, .long (zL (a : Int))), (2, .long (zL (b : Int))), (4, .long (zL (a2 : Int))), (6, .long (zL (b2 : Int))), (8, .long (zL (a : Int))), (10, .long (zL (b : Int))), (12, .long (zL (a2 : Int))), (14, .long (zL (b2 : Int))), (16, .int (zI (0 : Int)))]) [5, 6, 7, 8, 4, 3, 2, 1, 0] (zcons rfl (zcons rfl (zcons rfl (zcons rfl (zcons rfl (zcons rfl (zcons rfl (zcons rfl (zcons (zqI q17_10) rfl))))))))) ?_
  refine zv_while (α := Nat × Nat × Nat × Nat × Nat) (fun v => 200 - v.1) (fun v => v.1 ≤ 200 ∧ euI v.1 v.2.1 v.2.2.1 ∧ euI v.1 v.2.2.2.1 v.2.2.2.2 ∧ 0 < v.2.2.1 ∧ 0 < v.2.2.2.2 ∧ fCmp v.2.1 v.2.2.1 v.2.2.2.1 v.2.2.2.2 = fCmp a b a2 b2) (fun v => σ) (fun v => [(0, .long (zL (a : Int))), (2, .long (zL (b : Int))), (4, .long (zL (a2 : Int))), (6, .long (zL (b2 : Int))), (8, .long (zL (v.2.1 : Int))), (10, .long (zL (v.2.2.1 : Int))), (12, .long (zL (v.2.2.2.1 : Int))), (14, .long (zL (v.2.2.2.2 : Int))), (16, .int (zI (v.1 : Int)))]) (fun v => []) (fun v hI ih => ?_) ((0, a, b, a2, b2)) (⟨Nat.zero_le _, euI_0 ha hb.2, euI_0 hc hdd.2, hb.1, hdd.1, rfl⟩)
  obtain ⟨i, x, y, z, w⟩ := v
  dsimp only at hI ih ⊢
  obtain ⟨hI, hE1, hE2, hy0, hw0, hF⟩ := hI
  obtain ⟨hx2, hy2, -⟩ := id hE1
  obtain ⟨hz2, hw2, -⟩ := id hE2
  have hx3 : (x : Int) < 9223372036854775808 := by omega
  have hy3 : (y : Int) < 9223372036854775808 := by omega
  have hz3 : (z : Int) < 9223372036854775808 := by omega
  have hw3 : (w : Int) < 9223372036854775808 := by omega
  have d1 : (x : Int) / (y : Int) = ((x / y : Nat) : Int) := (Int.natCast_ediv x y).symm
  have d2 : (z : Int) / (w : Int) = ((z / w : Nat) : Int) := (Int.natCast_ediv z w).symm
  have d3 : (x : Int) % (y : Int) = ((x % y : Nat) : Int) := (Int.natCast_emod x y).symm
  have d4 : (z : Int) % (w : Int) = ((z % w : Nat) : Int) := (Int.natCast_emod z w).symm
  have p1 : 0 ≤ (x : Int) / (y : Int) := by rw [d1]; exact Int.natCast_nonneg _
  have p2 : 0 ≤ (z : Int) / (w : Int) := by rw [d2]; exact Int.natCast_nonneg _
  have e1 := Nat.div_le_self x y
  have e2 := Nat.div_le_self z w
  have e3 := Nat.mod_le x y
  have e4 := Nat.mod_le z w
  refine zv_iload C 8 dX3_order_17 rfl ?_
  refine zv_sipush (v := zI 200) C dX3_order_19 (by decide) ?_
  refine zv_icmp_geZ (tgt := 120) C (by omega) (by omega) dX3_order_22 (by decide) (fun h22 => ?_) (fun h22 => ?_)
  · exfalso
    have := euI_end hE1 (by omega); omega
  · skip
    refine zv_lload C 5 dX3_order_25 rfl ?_
    refine zv_lconst (v := zL 0) C dX3_order_27 (by decide) ?_
    refine zv_lc_leZ (tgt := 120) C (by omega) (by omega) dX3_order_28 dX3_order_29 (by decide) (fun h28 => ?_) (fun h28 => ?_)
    · exfalso
      omega
    · skip
      refine zv_lload C 7 dX3_order_32 rfl ?_
      refine zv_lconst (v := zL 0) C dX3_order_34 (by decide) ?_
      refine zv_lc_leZ (tgt := 120) C (by omega) (by omega) dX3_order_35 dX3_order_36 (by decide) (fun h35 => ?_) (fun h35 => ?_)
      · exfalso
        omega
      · skip
        refine zv_lload C 4 dX3_order_39 rfl ?_
        refine zv_lload C 5 dX3_order_41 rfl ?_
        refine zv_ldivP C (by omega) (by omega) dX3_order_43 ?_
        refine zv_eql (y := (zL ((x / y : Nat) : Int))) (by rw [d1]) ?_
        refine zv_lload C 6 dX3_order_44 rfl ?_
        refine zv_lload C 7 dX3_order_46 rfl ?_
        refine zv_ldivP C (by omega) (by omega) dX3_order_48 ?_
        refine zv_eql (y := (zL ((z / w : Nat) : Int))) (by rw [d2]) ?_
        refine zv_csiD (st := []) C (c_J13_compare_74951 hfl E σ (((x / y : Nat) : Int)) (((z / w : Nat) : Int)) (by omega) (by omega)) mJ13_compare_74951 kX3_55 rfl ⟨rfl, rfl⟩ (show zfit (zrm 0 0) 4 (zrm 1 23) = true from rfl) (Nat.le_of_ble_eq_true rfl) dX3_order_49 ⟨Nat.zero_le _, Nat.zero_le _⟩ ?_
        refine zv_istore (lv' := [(17, .int (zI (if ((x / y : Nat) : Int) < ((z / w : Nat) : Int) then -1 else if ((x / y : Nat) : Int) = ((z / w : Nat) : Int) then 0 else 1))), (0, .long (zL (a : Int))), (2, .long (zL (b : Int))), (4, .long (zL (a2 : Int))), (6, .long (zL (b2 : Int))), (8, .long (zL (x : Int))), (10, .long (zL (y : Int))), (12, .long (zL (z : Int))), (14, .long (zL (w : Int))), (16, .int (zI (i : Int)))]) C dX3_order_52  (by decide) rfl ?_
        refine zv_iload C 0 dX3_order_54 rfl ?_
        refine zv_if_eqZ (tgt := 62) C (by omega) dX3_order_56 (by decide) (fun h56 => ?_) (fun h56 => ?_)
        · skip
          have hQ : x / y = z / w := by split at h56 <;> (try split at h56) <;> omega
          refine zv_lload C 5 dX3_order_62 rfl ?_
          refine zv_lload C 6 dX3_order_64 rfl ?_
          refine zv_lremP C (by omega) (by omega) dX3_order_66 ?_
          refine zv_eql (y := (zL ((x % y : Nat) : Int))) (by rw [d3]) ?_
          refine zv_lstore (lv' := [(18, .long (zL ((x % y : Nat) : Int))), (17, .int (zI (if ((x / y : Nat) : Int) < ((z / w : Nat) : Int) then -1 else if ((x / y : Nat) : Int) = ((z / w : Nat) : Int) then 0 else 1))), (0, .long (zL (a : Int))), (2, .long (zL (b : Int))), (4, .long (zL (a2 : Int))), (6, .long (zL (b2 : Int))), (8, .long (zL (x : Int))), (10, .long (zL (y : Int))), (12, .long (zL (z : Int))), (14, .long (zL (w : Int))), (16, .int (zI (i : Int)))]) C dX3_order_67  (by decide) rfl ?_
          refine zv_lload C 8 dX3_order_69 rfl ?_
          refine zv_lload C 9 dX3_order_71 rfl ?_
          refine zv_lremP C (by omega) (by omega) dX3_order_73 ?_
          refine zv_eql (y := (zL ((z % w : Nat) : Int))) (by rw [d4]) ?_
          refine zv_lstore (lv' := [(20, .long (zL ((z % w : Nat) : Int))), (18, .long (zL ((x % y : Nat) : Int))), (17, .int (zI (if ((x / y : Nat) : Int) < ((z / w : Nat) : Int) then -1 else if ((x / y : Nat) : Int) = ((z / w : Nat) : Int) then 0 else 1))), (0, .long (zL (a : Int))), (2, .long (zL (b : Int))), (4, .long (zL (a2 : Int))), (6, .long (zL (b2 : Int))), (8, .long (zL (x : Int))), (10, .long (zL (y : Int))), (12, .long (zL (z : Int))), (14, .long (zL (w : Int))), (16, .int (zI (i : Int)))]) C dX3_order_74  (by decide) rfl ?_
          refine zv_lload C 1 dX3_order_76 rfl ?_
          refine zv_lconst (v := zL 0) C dX3_order_78 (by decide) ?_
          refine zv_lc_eqZ (tgt := 90) C (by omega) (by omega) dX3_order_79 dX3_order_80 (by decide) (fun h79 => ?_) (fun h79 => ?_)
          · skip
            refine zv_lload C 1 dX3_order_90 rfl ?_
            refine zv_lload C 0 dX3_order_92 rfl ?_
            refine zv_csiD (st := []) C (c_J13_compare_74951 hfl E σ (((x % y : Nat) : Int)) (((z % w : Nat) : Int)) (by omega) (by omega)) mJ13_compare_74951 kX3_55 rfl ⟨rfl, rfl⟩ (show zfit (zrm 0 0) 4 (zrm 1 23) = true from rfl) (Nat.le_of_ble_eq_true rfl) dX3_order_94 ⟨Nat.zero_le _, Nat.zero_le _⟩ ?_
            exact zv_iret C hr rfl dX3_order_97 ⟨by
                      refine congrArg zI ?_
                      rw [← hF, fCmp_e hQ]
                      rcases Nat.eq_zero_or_pos (x % y) with g | g
                      · rw [g, fCmp_z1 hy0]; split <;> split <;> (try split) <;> omega
                      · rw [show z % w = 0 by omega, fCmp_z2 hw0]; split <;> (try split) <;> (try split) <;> omega, rfl⟩
          · skip
            refine zv_lload C 0 dX3_order_83 rfl ?_
            refine zv_lconst (v := zL 0) C dX3_order_85 (by decide) ?_
            refine zv_lc_neZ (tgt := 98) C (by omega) (by omega) dX3_order_86 dX3_order_87 (by decide) (fun h86 => ?_) (fun h86 => ?_)
            · skip
              refine zv_lload C 10 dX3_order_98 rfl ?_
              refine zv_lstore (lv' := [(8, .long (zL (w : Int))), (20, .long (zL ((z % w : Nat) : Int))), (18, .long (zL ((x % y : Nat) : Int))), (17, .int (zI (if ((x / y : Nat) : Int) < ((z / w : Nat) : Int) then -1 else if ((x / y : Nat) : Int) = ((z / w : Nat) : Int) then 0 else 1))), (0, .long (zL (a : Int))), (2, .long (zL (b : Int))), (4, .long (zL (a2 : Int))), (6, .long (zL (b2 : Int))), (10, .long (zL (y : Int))), (12, .long (zL (z : Int))), (14, .long (zL (w : Int))), (16, .int (zI (i : Int)))]) C dX3_order_100  (by decide) rfl ?_
              refine zv_lload C 8 dX3_order_102 rfl ?_
              refine zv_lstore (lv' := [(12, .long (zL (y : Int))), (8, .long (zL (w : Int))), (20, .long (zL ((z % w : Nat) : Int))), (18, .long (zL ((x % y : Nat) : Int))), (17, .int (zI (if ((x / y : Nat) : Int) < ((z / w : Nat) : Int) then -1 else if ((x / y : Nat) : Int) = ((z / w : Nat) : Int) then 0 else 1))), (0, .long (zL (a : Int))), (2, .long (zL (b : Int))), (4, .long (zL (a2 : Int))), (6, .long (zL (b2 : Int))), (10, .long (zL (y : Int))), (14, .long (zL (w : Int))), (16, .int (zI (i : Int)))]) C dX3_order_104  (by decide) rfl ?_
              refine zv_lload C 2 dX3_order_106 rfl ?_
              refine zv_lstore (lv' := [(10, .long (zL ((z % w : Nat) : Int))), (12, .long (zL (y : Int))), (8, .long (zL (w : Int))), (20, .long (zL ((z % w : Nat) : Int))), (18, .long (zL ((x % y : Nat) : Int))), (17, .int (zI (if ((x / y : Nat) : Int) < ((z / w : Nat) : Int) then -1 else if ((x / y : Nat) : Int) = ((z / w : Nat) : Int) then 0 else 1))), (0, .long (zL (a : Int))), (2, .long (zL (b : Int))), (4, .long (zL (a2 : Int))), (6, .long (zL (b2 : Int))), (14, .long (zL (w : Int))), (16, .int (zI (i : Int)))]) C dX3_order_108  (by decide) rfl ?_
              refine zv_lload C 4 dX3_order_110 rfl ?_
              refine zv_lstore (lv' := [(14, .long (zL ((x % y : Nat) : Int))), (10, .long (zL ((z % w : Nat) : Int))), (12, .long (zL (y : Int))), (8, .long (zL (w : Int))), (20, .long (zL ((z % w : Nat) : Int))), (18, .long (zL ((x % y : Nat) : Int))), (17, .int (zI (if ((x / y : Nat) : Int) < ((z / w : Nat) : Int) then -1 else if ((x / y : Nat) : Int) = ((z / w : Nat) : Int) then 0 else 1))), (0, .long (zL (a : Int))), (2, .long (zL (b : Int))), (4, .long (zL (a2 : Int))), (6, .long (zL (b2 : Int))), (16, .int (zI (i : Int)))]) C dX3_order_112  (by decide) rfl ?_
              refine zv_iinc (v := (zI ((i : Int) + 1))) (lv' := [(16, .int (zI ((i : Int) + 1))), (14, .long (zL ((x % y : Nat) : Int))), (10, .long (zL ((z % w : Nat) : Int))), (12, .long (zL (y : Int))), (8, .long (zL (w : Int))), (20, .long (zL ((z % w : Nat) : Int))), (18, .long (zL ((x % y : Nat) : Int))), (17, .int (zI (if ((x / y : Nat) : Int) < ((z / w : Nat) : Int) then -1 else if ((x / y : Nat) : Int) = ((z / w : Nat) : Int) then 0 else 1))), (0, .long (zL (a : Int))), (2, .long (zL (b : Int))), (4, .long (zL (a2 : Int))), (6, .long (zL (b2 : Int)))]) C 11 dX3_order_114 rfl (zI_add _ _) (by decide) rfl ?_
              refine zv_goto (tgt := 17) C dX3_order_117 (by decide) ?_
              have q17_102 : ((i : Int) + 1 : Int) = ((i + 1 : Nat) : Int) := by first | rfl | omega
              refine zv_sub (lv' := [(0, .long (zL (a : Int))), (2, .long (zL (b : Int))), (4, .long (zL (a2 : Int))), (6, .long (zL (b2 : Int))), (8, .long (zL (w : Int))), (10, .long (zL ((z % w : Nat) : Int))), (12, .long (zL (y : Int))), (14, .long (zL ((x % y : Nat) : Int))), (16, .int (zI ((i + 1 : Nat) : Int)))]) [8, 9, 10, 11, 4, 2, 3, 1, 0] (zcons rfl (zcons rfl (zcons rfl (zcons rfl (zcons rfl (zcons rfl (zcons rfl (zcons rfl (zcons (zqI q17_102) rfl))))))))) ?_
              exact ih ((i + 1, w, z % w, y, x % y)) (⟨by show i + 1 ≤ 200; omega, euI_s (i := i) (x := z) (y := w) hE2 hw0, euI_s (i := i) (x := x) (y := y) hE1 hy0, (by show 0 < z % w; omega), (by show 0 < x % y; omega), (by show fCmp w (z % w) y (x % y) = _; rw [← hF, fCmp_e hQ, fCmp_t])⟩) (by show 200 - (i + 1) < 200 - i; omega)
            · skip
              refine zv_lload C 1 dX3_order_90 rfl ?_
              refine zv_lload C 0 dX3_order_92 rfl ?_
              refine zv_csiD (st := []) C (c_J13_compare_74951 hfl E σ (((x % y : Nat) : Int)) (((z % w : Nat) : Int)) (by omega) (by omega)) mJ13_compare_74951 kX3_55 rfl ⟨rfl, rfl⟩ (show zfit (zrm 0 0) 4 (zrm 1 23) = true from rfl) (Nat.le_of_ble_eq_true rfl) dX3_order_94 ⟨Nat.zero_le _, Nat.zero_le _⟩ ?_
              exact zv_iret C hr rfl dX3_order_97 ⟨by
                        refine congrArg zI ?_
                        rw [← hF, fCmp_e hQ]
                        rcases Nat.eq_zero_or_pos (x % y) with g | g
                        · rw [g, fCmp_z1 hy0]; split <;> split <;> (try split) <;> omega
                        · rw [show z % w = 0 by omega, fCmp_z2 hw0]; split <;> (try split) <;> (try split) <;> omega, rfl⟩
        · skip
          refine zv_iload C 0 dX3_order_59 rfl ?_
          exact zv_iret C hr rfl dX3_order_61 ⟨by
                    refine congrArg zI ?_
                    rw [← hF]
                    rcases Nat.lt_trichotomy (x / y) (z / w) with g | g | g
                    · rw [if_pos (by omega), fCmp_q hy0 hw0 g]
                    · rw [if_neg (by omega), if_pos (by omega)] at h56; exact absurd rfl h56
                    · rw [if_neg (by omega), if_neg (by omega), fCmp_sw, fCmp_q hw0 hy0 g]; rfl, rfl⟩
