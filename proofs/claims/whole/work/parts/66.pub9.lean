/-- the continued fraction of 100 / p: the numbers at hand, then the last two convergents -/
def cvS (p : Nat) : Nat → (Nat × Nat) × (Int × Int × Int × Int)
  | 0 => ((100, p), (1, 0, 0, 1))
  | j + 1 => if (cvS p j).1.2 = 0 then cvS p j else (((cvS p j).1.2, (cvS p j).1.1 % (cvS p j).1.2), ((((cvS p j).1.1 / (cvS p j).1.2 : Nat) : Int) * (cvS p j).2.1 + (cvS p j).2.2.1, (cvS p j).2.1, (((cvS p j).1.1 / (cvS p j).1.2 : Nat) : Int) * (cvS p j).2.2.2.1 + (cvS p j).2.2.2.2, (cvS p j).2.2.2.1))
def dCv (p k : Nat) (w : Int) : Int := if (cvS p k).1.2 = 0 then -1 else if w = 0 then (((cvS p k).1.1 / (cvS p k).1.2 : Nat) : Int) * (cvS p k).2.1 + (cvS p k).2.2.1 else (((cvS p k).1.1 / (cvS p k).1.2 : Nat) : Int) * (cvS p k).2.2.2.1 + (cvS p k).2.2.2.2
theorem cvS_0 {p j : Nat} (h : (cvS p j).1.2 = 0) : ∀ k, j ≤ k → (cvS p k).1.2 = 0 := by
  intro k
  induction k with
  | zero =>
    intro hk
    have e : j = 0 := by omega
    subst e
    exact h
  | succ k ih =>
    intro hk
    rcases Nat.lt_or_ge k j with q | q
    · rw [show k + 1 = j by omega]; exact h
    · have h1 := ih q
      simp only [cvS]
      rw [if_pos h1]
      exact h1
theorem cvS_b {p : Nat} (hp : 100 ≤ p ∧ p ≤ 9999999) : ∀ j, (cvS p j).1.1 ≤ 9999999 ∧ (cvS p j).1.2 ≤ 9999999 := by
  intro j
  induction j with
  | zero => exact ⟨by show 100 ≤ 9999999; omega, hp.2⟩
  | succ j ih =>
    simp only [cvS]
    split
    · exact ih
    · rename_i hne
      have := Nat.mod_lt (cvS p j).1.1 (show 0 < (cvS p j).1.2 by omega)
      exact ⟨ih.2, by show (cvS p j).1.1 % (cvS p j).1.2 ≤ 9999999; omega⟩
theorem cvS_e {p : Nat} (hp : 100 ≤ p ∧ p ≤ 9999999) : ∀ j, (cvS p j).1.2 = 0 ∨ euI j (cvS p j).1.1 (cvS p j).1.2 := by
  intro j
  induction j with
  | zero => exact Or.inr (euI_0 (by show 100 < 2 ^ 63; decide) (by show p < 2 ^ 63; omega))
  | succ j ih =>
    simp only [cvS]
    split
    · rename_i h0; exact Or.inl h0
    · rename_i hne
      rcases ih with h | h
      · exact absurd h hne
      · have h9 := euI_s h (show 0 < (cvS p j).1.2 by omega)
        exact Or.inr h9
theorem cvS_200 {p : Nat} (hp : 100 ≤ p ∧ p ≤ 9999999) : (cvS p 200).1.2 = 0 := by
  rcases cvS_e hp 200 with h | h
  · exact h
  · exact euI_end h (Nat.le_refl _)
set_option maxRecDepth 20000 in
theorem c_X10_convergent {l : Launch} (hfl : l.stackTraces = false) (E : zE) (σ : zS) (U : zSU) (i k : Nat) (w : Int) (hU : zSUp σ 29 U) (hi : i < U.nb) (hk : k < 2147483648) (hw : w = 0 ∨ w = 1) : zRl l E yX10_convergent cX10_convergent 25 (zrm 1 22) [.ref (ob E 0), .int (zI (i : Int)), .int (zI (k : Int)), .int (zI w)] σ (fun r τ => r = zL (dCv (U.pe i) k w) ∧ τ = σ) := by
  refine Met.ofW (cc := cX10_convergent) (maxL := 25) (ret := (some .long)) (by decide +kernel) rfl ?_
  intro p e s m args below meth c s₁ B hml hv
  obtain ⟨rfl, hd⟩ := hv
  have C := zX_of (own := RX10) hfl B hml rfl hd rfl
  have hr := B.returns
  refine zV_go hd (Nat.le_of_ble_eq_true rfl) (lv := [(0, .ref (ob E 0)), (1, .int (zI (i : Int))), (2, .int (zI (k : Int))), (3, .int (zI w))]) rfl ?_
  have hnb : U.nb ≤ 8 := hU.2.2.1
  have hs0 := hU.2.2.2.1
  have hpe := (hU.2.2.2.2 i hi).2.2.2.2.1
  refine zv_aload_n C 0 dX10_convergent_0 rfl rfl ?_
  refine zv_iload_n C 1 dX10_convergent_1 rfl rfl ?_
  refine zv_cvvD (st := []) C (c_X10_needBody hfl E σ U (i : Int) hU (by omega) (by omega)) mX10_needBody kX10_140 (by decide : kd 0 = 9) rfl rfl rfl ⟨rfl, rfl⟩ (show zfit (zrm 0 0) 2 (zrm 1 22) = true from rfl) (Nat.le_of_ble_eq_true rfl) dX10_convergent_2 ⟨Nat.zero_le _, Nat.zero_le _⟩ ?_
  refine zv_iload_n C 2 dX10_convergent_5 rfl rfl ?_
  refine zv_if_geZ (tgt := 20) C (by omega) dX10_convergent_6 (by decide) (fun h6 => ?_) (fun h6 => ?_)
  · skip
    refine zv_iload_n C 3 dX10_convergent_20 rfl rfl ?_
    refine zv_iconst (v := zI 0) C dX10_convergent_21 rfl ?_
    refine zv_iconst (v := zI 1) C dX10_convergent_22 rfl ?_
    refine zv_csvD (st := []) C (c_X10_needWithin hfl E σ w 0 1 (by omega) (by omega) (by omega) (by omega)) mX10_needWithin kX10_117 rfl ⟨rfl, rfl⟩ (show zfit (zrm 0 0) 3 (zrm 1 22) = true from rfl) (Nat.le_of_ble_eq_true rfl) dX10_convergent_23 ⟨Nat.zero_le _, Nat.zero_le _⟩ ?_
    refine zv_ldc2 C kX10_272 dX10_convergent_26 ?_
    refine zv_eql (y := zL 100) (by decide) ?_
    refine zv_lstore (lv' := [(4, .long (zL 100)), (0, .ref (ob E 0)), (1, .int (zI (i : Int))), (2, .int (zI (k : Int))), (3, .int (zI w))]) C dX10_convergent_29  (by decide) rfl ?_
    refine zv_aload_n C 1 dX10_convergent_31 rfl rfl ?_
    refine zG9_1 C (by decide : kd 0 = _) kX10_19 dX10_convergent_32 ?_
    refine zG4_3 C (by decide : kd 29 = _) kX10_143 dX10_convergent_35 ?_
    refine zv_iload_n C 2 dX10_convergent_38 rfl rfl ?_
    refine zv_iald (j := i) C (by decide : kd 31 = _) (zI_ix (by omega)) (Nat.lt_of_lt_of_eq (show i < 8 by omega) (by decide)) dX10_convergent_39 ?_
    refine zv_eqi (y := (zI (U.pe i : Int))) ((hU.2.2.2.2 i hi).2.1) ?_
    refine zv_i2lZ C (by omega) dX10_convergent_40 ?_
    refine zv_lstore (lv' := [(6, .long (zL (U.pe i : Int))), (4, .long (zL 100)), (0, .ref (ob E 0)), (1, .int (zI (i : Int))), (2, .int (zI (k : Int))), (3, .int (zI w))]) C dX10_convergent_41  (by decide) rfl ?_
    refine zv_lconst (v := zL 0) C dX10_convergent_43 (by decide) ?_
    refine zv_lstore (lv' := [(8, .long (zL 0)), (6, .long (zL (U.pe i : Int))), (4, .long (zL 100)), (0, .ref (ob E 0)), (1, .int (zI (i : Int))), (2, .int (zI (k : Int))), (3, .int (zI w))]) C dX10_convergent_44  (by decide) rfl ?_
    refine zv_lconst (v := zL 1) C dX10_convergent_46 (by decide) ?_
    refine zv_lstore (lv' := [(10, .long (zL 1)), (8, .long (zL 0)), (6, .long (zL (U.pe i : Int))), (4, .long (zL 100)), (0, .ref (ob E 0)), (1, .int (zI (i : Int))), (2, .int (zI (k : Int))), (3, .int (zI w))]) C dX10_convergent_47  (by decide) rfl ?_
    refine zv_lconst (v := zL 1) C dX10_convergent_49 (by decide) ?_
    refine zv_lstore (lv' := [(12, .long (zL 1)), (10, .long (zL 1)), (8, .long (zL 0)), (6, .long (zL (U.pe i : Int))), (4, .long (zL 100)), (0, .ref (ob E 0)), (1, .int (zI (i : Int))), (2, .int (zI (k : Int))), (3, .int (zI w))]) C dX10_convergent_50  (by decide) rfl ?_
    refine zv_lconst (v := zL 0) C dX10_convergent_52 (by decide) ?_
    refine zv_lstore (lv' := [(14, .long (zL 0)), (12, .long (zL 1)), (10, .long (zL 1)), (8, .long (zL 0)), (6, .long (zL (U.pe i : Int))), (4, .long (zL 100)), (0, .ref (ob E 0)), (1, .int (zI (i : Int))), (2, .int (zI (k : Int))), (3, .int (zI w))]) C dX10_convergent_53  (by decide) rfl ?_
    refine zv_iconst (v := zI 0) C dX10_convergent_55 rfl ?_
    refine zv_istore (lv' := [(16, .int (zI 0)), (14, .long (zL 0)), (12, .long (zL 1)), (10, .long (zL 1)), (8, .long (zL 0)), (6, .long (zL (U.pe i : Int))), (4, .long (zL 100)), (0, .ref (ob E 0)), (1, .int (zI (i : Int))), (2, .int (zI (k : Int))), (3, .int (zI w))]) C dX10_convergent_56  (by decide) rfl ?_
    have q58_34 : (0 : Int) = (0 : Int) := by first | rfl | omega
    have q58_35 : (0 : Int) = (cvS (U.pe i) 0).2.2.2.1 := by rfl
    have q58_36 : (1 : Int) = (cvS (U.pe i) 0).2.1 := by rfl
    have q58_37 : (1 : Int) = (cvS (U.pe i) 0).2.2.2.2 := by rfl
    have q58_38 : (0 : Int) = (cvS (U.pe i) 0).2.2.1 := by rfl
    have q58_39 : ((U.pe i : Int) : Int) = ((cvS (U.pe i) 0).1.2 : Int) := by rfl
    have q58_40 : (100 : Int) = ((cvS (U.pe i) 0).1.1 : Int) := by rfl
    refine zv_sub (lv' := [(2, .int (zI (k : Int))), (3, .int (zI w)), (4, .long (zL ((cvS (U.pe i) 0).1.1 : Int))), (6, .long (zL ((cvS (U.pe i) 0).1.2 : Int))), (8, .long (zL ((cvS (U.pe i) 0).2.2.1))), (10, .long (zL ((cvS (U.pe i) 0).2.2.2.2))), (12, .long (zL ((cvS (U.pe i) 0).2.1))), (14, .long (zL ((cvS (U.pe i) 0).2.2.2.1))), (16, .int (zI (0 : Int)))]) [9, 10, 6, 5, 4, 3, 2, 1, 0] (zcons rfl (zcons rfl (zcons (zqL q58_40) (zcons (zqL q58_39) (zcons (zqL q58_38) (zcons (zqL q58_37) (zcons (zqL q58_36) (zcons (zqL q58_35) (zcons (zqI q58_34) rfl))))))))) ?_
    refine zv_while (α := Nat) (fun v => 201 - v) (fun v => v ≤ 200 ∧ v ≤ k) (fun v => σ) (fun v => [(2, .int (zI (k : Int))), (3, .int (zI w)), (4, .long (zL ((cvS (U.pe i) v).1.1 : Int))), (6, .long (zL ((cvS (U.pe i) v).1.2 : Int))), (8, .long (zL ((cvS (U.pe i) v).2.2.1))), (10, .long (zL ((cvS (U.pe i) v).2.2.2.2))), (12, .long (zL ((cvS (U.pe i) v).2.1))), (14, .long (zL ((cvS (U.pe i) v).2.2.2.1))), (16, .int (zI (v : Int)))]) (fun v => []) (fun j hI ih => ?_) (0) (⟨by omega, by omega⟩)
    have hcb := cvS_b hpe j
    refine zv_iload C 8 dX10_convergent_58 rfl ?_
    refine zv_sipush (v := zI 200) C dX10_convergent_60 (by decide) ?_
    refine zv_icmp_geZ (tgt := 155) C (by omega) (by omega) dX10_convergent_63 (by decide) (fun h63 => ?_) (fun h63 => ?_)
    · skip
      refine zv_ldc2 C kX10_228 dX10_convergent_155 ?_
      refine zv_eql (y := zL (-1)) (by decide) ?_
      exact zv_lret C hr dX10_convergent_158 ⟨by rw [dCv, if_pos (cvS_0 (show (cvS (U.pe i) j).1.2 = 0 by first | omega | (rw [show j = 200 by omega]; exact cvS_200 hpe)) k (by omega))], rfl⟩
    · skip
      refine zv_lload C 3 dX10_convergent_66 rfl ?_
      refine zv_lconst (v := zL 0) C dX10_convergent_68 (by decide) ?_
      refine zv_lc_leZ (tgt := 155) C (by omega) (by omega) dX10_convergent_69 dX10_convergent_70 (by decide) (fun h69 => ?_) (fun h69 => ?_)
      · skip
        refine zv_ldc2 C kX10_228 dX10_convergent_155 ?_
        refine zv_eql (y := zL (-1)) (by decide) ?_
        exact zv_lret C hr dX10_convergent_158 ⟨by rw [dCv, if_pos (cvS_0 (show (cvS (U.pe i) j).1.2 = 0 by first | omega | (rw [show j = 200 by omega]; exact cvS_200 hpe)) k (by omega))], rfl⟩
      · skip
        have hj0 : ¬ (cvS (U.pe i) j).1.2 = 0 := by omega
        have hdv := Nat.div_le_self (cvS (U.pe i) j).1.1 (cvS (U.pe i) j).1.2
        refine zv_lload C 2 dX10_convergent_73 rfl ?_
        refine zv_lload C 3 dX10_convergent_75 rfl ?_
        refine zv_ldivP C (by omega) (by omega) dX10_convergent_77 ?_
        refine zv_eql (y := (zL (((cvS (U.pe i) j).1.1 / (cvS (U.pe i) j).1.2 : Nat) : Int))) (by rw [Int.natCast_ediv]) ?_
        refine zv_lstore (lv' := [(17, .long (zL (((cvS (U.pe i) j).1.1 / (cvS (U.pe i) j).1.2 : Nat) : Int))), (2, .int (zI (k : Int))), (3, .int (zI w)), (4, .long (zL ((cvS (U.pe i) j).1.1 : Int))), (6, .long (zL ((cvS (U.pe i) j).1.2 : Int))), (8, .long (zL ((cvS (U.pe i) j).2.2.1))), (10, .long (zL ((cvS (U.pe i) j).2.2.2.2))), (12, .long (zL ((cvS (U.pe i) j).2.1))), (14, .long (zL ((cvS (U.pe i) j).2.2.2.1))), (16, .int (zI (j : Int)))]) C dX10_convergent_78  (by decide) rfl ?_
        refine zv_lload C 3 dX10_convergent_80 rfl ?_
        refine zv_lload C 4 dX10_convergent_82 rfl ?_
        refine zv_lremP C (by omega) (by omega) dX10_convergent_84 ?_
        refine zv_eql (y := (zL (((cvS (U.pe i) j).1.1 % (cvS (U.pe i) j).1.2 : Nat) : Int))) (by rw [Int.natCast_emod]) ?_
        refine zv_lstore (lv' := [(19, .long (zL (((cvS (U.pe i) j).1.1 % (cvS (U.pe i) j).1.2 : Nat) : Int))), (17, .long (zL (((cvS (U.pe i) j).1.1 / (cvS (U.pe i) j).1.2 : Nat) : Int))), (2, .int (zI (k : Int))), (3, .int (zI w)), (4, .long (zL ((cvS (U.pe i) j).1.1 : Int))), (6, .long (zL ((cvS (U.pe i) j).1.2 : Int))), (8, .long (zL ((cvS (U.pe i) j).2.2.1))), (10, .long (zL ((cvS (U.pe i) j).2.2.2.2))), (12, .long (zL ((cvS (U.pe i) j).2.1))), (14, .long (zL ((cvS (U.pe i) j).2.2.2.1))), (16, .int (zI (j : Int)))]) C dX10_convergent_85  (by decide) rfl ?_
        refine zv_lload C 1 dX10_convergent_87 rfl ?_
        refine zv_lload C 8 dX10_convergent_89 rfl ?_
        refine zv_lmulZ C dX10_convergent_91 ?_
        refine zv_lload C 6 dX10_convergent_92 rfl ?_
        refine zv_laddZ C dX10_convergent_94 ?_
        refine zv_lstore (lv' := [(21, .long (zL (((((cvS (U.pe i) j).1.1 / (cvS (U.pe i) j).1.2 : Nat) : Int) * ((cvS (U.pe i) j).2.1)) + ((cvS (U.pe i) j).2.2.1)))), (19, .long (zL (((cvS (U.pe i) j).1.1 % (cvS (U.pe i) j).1.2 : Nat) : Int))), (17, .long (zL (((cvS (U.pe i) j).1.1 / (cvS (U.pe i) j).1.2 : Nat) : Int))), (2, .int (zI (k : Int))), (3, .int (zI w)), (4, .long (zL ((cvS (U.pe i) j).1.1 : Int))), (6, .long (zL ((cvS (U.pe i) j).1.2 : Int))), (8, .long (zL ((cvS (U.pe i) j).2.2.1))), (10, .long (zL ((cvS (U.pe i) j).2.2.2.2))), (12, .long (zL ((cvS (U.pe i) j).2.1))), (14, .long (zL ((cvS (U.pe i) j).2.2.2.1))), (16, .int (zI (j : Int)))]) C dX10_convergent_95  (by decide) rfl ?_
        refine zv_lload C 2 dX10_convergent_97 rfl ?_
        refine zv_lload C 10 dX10_convergent_99 rfl ?_
        refine zv_lmulZ C dX10_convergent_101 ?_
        refine zv_lload C 8 dX10_convergent_102 rfl ?_
        refine zv_laddZ C dX10_convergent_104 ?_
        refine zv_lstore (lv' := [(23, .long (zL (((((cvS (U.pe i) j).1.1 / (cvS (U.pe i) j).1.2 : Nat) : Int) * ((cvS (U.pe i) j).2.2.2.1)) + ((cvS (U.pe i) j).2.2.2.2)))), (21, .long (zL (((((cvS (U.pe i) j).1.1 / (cvS (U.pe i) j).1.2 : Nat) : Int) * ((cvS (U.pe i) j).2.1)) + ((cvS (U.pe i) j).2.2.1)))), (19, .long (zL (((cvS (U.pe i) j).1.1 % (cvS (U.pe i) j).1.2 : Nat) : Int))), (17, .long (zL (((cvS (U.pe i) j).1.1 / (cvS (U.pe i) j).1.2 : Nat) : Int))), (2, .int (zI (k : Int))), (3, .int (zI w)), (4, .long (zL ((cvS (U.pe i) j).1.1 : Int))), (6, .long (zL ((cvS (U.pe i) j).1.2 : Int))), (8, .long (zL ((cvS (U.pe i) j).2.2.1))), (10, .long (zL ((cvS (U.pe i) j).2.2.2.2))), (12, .long (zL ((cvS (U.pe i) j).2.1))), (14, .long (zL ((cvS (U.pe i) j).2.2.2.1))), (16, .int (zI (j : Int)))]) C dX10_convergent_105  (by decide) rfl ?_
        refine zv_iload C 12 dX10_convergent_107 rfl ?_
        refine zv_iload_n C 4 dX10_convergent_109 rfl rfl ?_
        refine zv_icmp_neZ (tgt := 125) C (by omega) (by omega) dX10_convergent_110 (by decide) (fun h110 => ?_) (fun h110 => ?_)
        · skip
          refine zv_lload C 10 dX10_convergent_125 rfl ?_
          refine zv_lstore (lv' := [(8, .long (zL ((cvS (U.pe i) j).2.1))), (23, .long (zL (((((cvS (U.pe i) j).1.1 / (cvS (U.pe i) j).1.2 : Nat) : Int) * ((cvS (U.pe i) j).2.2.2.1)) + ((cvS (U.pe i) j).2.2.2.2)))), (21, .long (zL (((((cvS (U.pe i) j).1.1 / (cvS (U.pe i) j).1.2 : Nat) : Int) * ((cvS (U.pe i) j).2.1)) + ((cvS (U.pe i) j).2.2.1)))), (19, .long (zL (((cvS (U.pe i) j).1.1 % (cvS (U.pe i) j).1.2 : Nat) : Int))), (17, .long (zL (((cvS (U.pe i) j).1.1 / (cvS (U.pe i) j).1.2 : Nat) : Int))), (2, .int (zI (k : Int))), (3, .int (zI w)), (4, .long (zL ((cvS (U.pe i) j).1.1 : Int))), (6, .long (zL ((cvS (U.pe i) j).1.2 : Int))), (10, .long (zL ((cvS (U.pe i) j).2.2.2.2))), (12, .long (zL ((cvS (U.pe i) j).2.1))), (14, .long (zL ((cvS (U.pe i) j).2.2.2.1))), (16, .int (zI (j : Int)))]) C dX10_convergent_127  (by decide) rfl ?_
          refine zv_lload C 11 dX10_convergent_129 rfl ?_
          refine zv_lstore (lv' := [(10, .long (zL ((cvS (U.pe i) j).2.2.2.1))), (8, .long (zL ((cvS (U.pe i) j).2.1))), (23, .long (zL (((((cvS (U.pe i) j).1.1 / (cvS (U.pe i) j).1.2 : Nat) : Int) * ((cvS (U.pe i) j).2.2.2.1)) + ((cvS (U.pe i) j).2.2.2.2)))), (21, .long (zL (((((cvS (U.pe i) j).1.1 / (cvS (U.pe i) j).1.2 : Nat) : Int) * ((cvS (U.pe i) j).2.1)) + ((cvS (U.pe i) j).2.2.1)))), (19, .long (zL (((cvS (U.pe i) j).1.1 % (cvS (U.pe i) j).1.2 : Nat) : Int))), (17, .long (zL (((cvS (U.pe i) j).1.1 / (cvS (U.pe i) j).1.2 : Nat) : Int))), (2, .int (zI (k : Int))), (3, .int (zI w)), (4, .long (zL ((cvS (U.pe i) j).1.1 : Int))), (6, .long (zL ((cvS (U.pe i) j).1.2 : Int))), (12, .long (zL ((cvS (U.pe i) j).2.1))), (14, .long (zL ((cvS (U.pe i) j).2.2.2.1))), (16, .int (zI (j : Int)))]) C dX10_convergent_131  (by decide) rfl ?_
          refine zv_lload C 3 dX10_convergent_133 rfl ?_
          refine zv_lstore (lv' := [(12, .long (zL (((((cvS (U.pe i) j).1.1 / (cvS (U.pe i) j).1.2 : Nat) : Int) * ((cvS (U.pe i) j).2.1)) + ((cvS (U.pe i) j).2.2.1)))), (10, .long (zL ((cvS (U.pe i) j).2.2.2.1))), (8, .long (zL ((cvS (U.pe i) j).2.1))), (23, .long (zL (((((cvS (U.pe i) j).1.1 / (cvS (U.pe i) j).1.2 : Nat) : Int) * ((cvS (U.pe i) j).2.2.2.1)) + ((cvS (U.pe i) j).2.2.2.2)))), (21, .long (zL (((((cvS (U.pe i) j).1.1 / (cvS (U.pe i) j).1.2 : Nat) : Int) * ((cvS (U.pe i) j).2.1)) + ((cvS (U.pe i) j).2.2.1)))), (19, .long (zL (((cvS (U.pe i) j).1.1 % (cvS (U.pe i) j).1.2 : Nat) : Int))), (17, .long (zL (((cvS (U.pe i) j).1.1 / (cvS (U.pe i) j).1.2 : Nat) : Int))), (2, .int (zI (k : Int))), (3, .int (zI w)), (4, .long (zL ((cvS (U.pe i) j).1.1 : Int))), (6, .long (zL ((cvS (U.pe i) j).1.2 : Int))), (14, .long (zL ((cvS (U.pe i) j).2.2.2.1))), (16, .int (zI (j : Int)))]) C dX10_convergent_135  (by decide) rfl ?_
          refine zv_lload C 3 dX10_convergent_137 rfl ?_
          refine zv_lstore (lv' := [(14, .long (zL (((((cvS (U.pe i) j).1.1 / (cvS (U.pe i) j).1.2 : Nat) : Int) * ((cvS (U.pe i) j).2.2.2.1)) + ((cvS (U.pe i) j).2.2.2.2)))), (12, .long (zL (((((cvS (U.pe i) j).1.1 / (cvS (U.pe i) j).1.2 : Nat) : Int) * ((cvS (U.pe i) j).2.1)) + ((cvS (U.pe i) j).2.2.1)))), (10, .long (zL ((cvS (U.pe i) j).2.2.2.1))), (8, .long (zL ((cvS (U.pe i) j).2.1))), (23, .long (zL (((((cvS (U.pe i) j).1.1 / (cvS (U.pe i) j).1.2 : Nat) : Int) * ((cvS (U.pe i) j).2.2.2.1)) + ((cvS (U.pe i) j).2.2.2.2)))), (21, .long (zL (((((cvS (U.pe i) j).1.1 / (cvS (U.pe i) j).1.2 : Nat) : Int) * ((cvS (U.pe i) j).2.1)) + ((cvS (U.pe i) j).2.2.1)))), (19, .long (zL (((cvS (U.pe i) j).1.1 % (cvS (U.pe i) j).1.2 : Nat) : Int))), (17, .long (zL (((cvS (U.pe i) j).1.1 / (cvS (U.pe i) j).1.2 : Nat) : Int))), (2, .int (zI (k : Int))), (3, .int (zI w)), (4, .long (zL ((cvS (U.pe i) j).1.1 : Int))), (6, .long (zL ((cvS (U.pe i) j).1.2 : Int))), (16, .int (zI (j : Int)))]) C dX10_convergent_139  (by decide) rfl ?_
          refine zv_lload C 11 dX10_convergent_141 rfl ?_
          refine zv_lstore (lv' := [(4, .long (zL ((cvS (U.pe i) j).1.2 : Int))), (14, .long (zL (((((cvS (U.pe i) j).1.1 / (cvS (U.pe i) j).1.2 : Nat) : Int) * ((cvS (U.pe i) j).2.2.2.1)) + ((cvS (U.pe i) j).2.2.2.2)))), (12, .long (zL (((((cvS (U.pe i) j).1.1 / (cvS (U.pe i) j).1.2 : Nat) : Int) * ((cvS (U.pe i) j).2.1)) + ((cvS (U.pe i) j).2.2.1)))), (10, .long (zL ((cvS (U.pe i) j).2.2.2.1))), (8, .long (zL ((cvS (U.pe i) j).2.1))), (23, .long (zL (((((cvS (U.pe i) j).1.1 / (cvS (U.pe i) j).1.2 : Nat) : Int) * ((cvS (U.pe i) j).2.2.2.1)) + ((cvS (U.pe i) j).2.2.2.2)))), (21, .long (zL (((((cvS (U.pe i) j).1.1 / (cvS (U.pe i) j).1.2 : Nat) : Int) * ((cvS (U.pe i) j).2.1)) + ((cvS (U.pe i) j).2.2.1)))), (19, .long (zL (((cvS (U.pe i) j).1.1 % (cvS (U.pe i) j).1.2 : Nat) : Int))), (17, .long (zL (((cvS (U.pe i) j).1.1 / (cvS (U.pe i) j).1.2 : Nat) : Int))), (2, .int (zI (k : Int))), (3, .int (zI w)), (6, .long (zL ((cvS (U.pe i) j).1.2 : Int))), (16, .int (zI (j : Int)))]) C dX10_convergent_143  (by decide) rfl ?_
          refine zv_lload C 7 dX10_convergent_145 rfl ?_
          refine zv_lstore (lv' := [(6, .long (zL (((cvS (U.pe i) j).1.1 % (cvS (U.pe i) j).1.2 : Nat) : Int))), (4, .long (zL ((cvS (U.pe i) j).1.2 : Int))), (14, .long (zL (((((cvS (U.pe i) j).1.1 / (cvS (U.pe i) j).1.2 : Nat) : Int) * ((cvS (U.pe i) j).2.2.2.1)) + ((cvS (U.pe i) j).2.2.2.2)))), (12, .long (zL (((((cvS (U.pe i) j).1.1 / (cvS (U.pe i) j).1.2 : Nat) : Int) * ((cvS (U.pe i) j).2.1)) + ((cvS (U.pe i) j).2.2.1)))), (10, .long (zL ((cvS (U.pe i) j).2.2.2.1))), (8, .long (zL ((cvS (U.pe i) j).2.1))), (23, .long (zL (((((cvS (U.pe i) j).1.1 / (cvS (U.pe i) j).1.2 : Nat) : Int) * ((cvS (U.pe i) j).2.2.2.1)) + ((cvS (U.pe i) j).2.2.2.2)))), (21, .long (zL (((((cvS (U.pe i) j).1.1 / (cvS (U.pe i) j).1.2 : Nat) : Int) * ((cvS (U.pe i) j).2.1)) + ((cvS (U.pe i) j).2.2.1)))), (19, .long (zL (((cvS (U.pe i) j).1.1 % (cvS (U.pe i) j).1.2 : Nat) : Int))), (17, .long (zL (((cvS (U.pe i) j).1.1 / (cvS (U.pe i) j).1.2 : Nat) : Int))), (2, .int (zI (k : Int))), (3, .int (zI w)), (16, .int (zI (j : Int)))]) C dX10_convergent_147  (by decide) rfl ?_
          refine zv_iinc (v := (zI ((j : Int) + 1))) (lv' := [(16, .int (zI ((j : Int) + 1))), (6, .long (zL (((cvS (U.pe i) j).1.1 % (cvS (U.pe i) j).1.2 : Nat) : Int))), (4, .long (zL ((cvS (U.pe i) j).1.2 : Int))), (14, .long (zL (((((cvS (U.pe i) j).1.1 / (cvS (U.pe i) j).1.2 : Nat) : Int) * ((cvS (U.pe i) j).2.2.2.1)) + ((cvS (U.pe i) j).2.2.2.2)))), (12, .long (zL (((((cvS (U.pe i) j).1.1 / (cvS (U.pe i) j).1.2 : Nat) : Int) * ((cvS (U.pe i) j).2.1)) + ((cvS (U.pe i) j).2.2.1)))), (10, .long (zL ((cvS (U.pe i) j).2.2.2.1))), (8, .long (zL ((cvS (U.pe i) j).2.1))), (23, .long (zL (((((cvS (U.pe i) j).1.1 / (cvS (U.pe i) j).1.2 : Nat) : Int) * ((cvS (U.pe i) j).2.2.2.1)) + ((cvS (U.pe i) j).2.2.2.2)))), (21, .long (zL (((((cvS (U.pe i) j).1.1 / (cvS (U.pe i) j).1.2 : Nat) : Int) * ((cvS (U.pe i) j).2.1)) + ((cvS (U.pe i) j).2.2.1)))), (19, .long (zL (((cvS (U.pe i) j).1.1 % (cvS (U.pe i) j).1.2 : Nat) : Int))), (17, .long (zL (((cvS (U.pe i) j).1.1 / (cvS (U.pe i) j).1.2 : Nat) : Int))), (2, .int (zI (k : Int))), (3, .int (zI w))]) C 12 dX10_convergent_149 rfl (zI_add _ _) (by decide) rfl ?_
          refine zv_goto (tgt := 58) C dX10_convergent_152 (by decide) ?_
          have q58_102 : ((j : Int) + 1 : Int) = ((j + 1 : Nat) : Int) := by first | rfl | omega
          have q58_103 : (((((cvS (U.pe i) j).1.1 / (cvS (U.pe i) j).1.2 : Nat) : Int) * ((cvS (U.pe i) j).2.2.2.1)) + ((cvS (U.pe i) j).2.2.2.2) : Int) = (cvS (U.pe i) (j + 1)).2.2.2.1 := by simp only [cvS]; rw [if_neg (by omega)]
          have q58_104 : (((((cvS (U.pe i) j).1.1 / (cvS (U.pe i) j).1.2 : Nat) : Int) * ((cvS (U.pe i) j).2.1)) + ((cvS (U.pe i) j).2.2.1) : Int) = (cvS (U.pe i) (j + 1)).2.1 := by simp only [cvS]; rw [if_neg (by omega)]
          have q58_105 : ((cvS (U.pe i) j).2.2.2.1 : Int) = (cvS (U.pe i) (j + 1)).2.2.2.2 := by simp only [cvS]; rw [if_neg (by omega)]
          have q58_106 : ((cvS (U.pe i) j).2.1 : Int) = (cvS (U.pe i) (j + 1)).2.2.1 := by simp only [cvS]; rw [if_neg (by omega)]
          have q58_107 : ((((cvS (U.pe i) j).1.1 % (cvS (U.pe i) j).1.2 : Nat) : Int) : Int) = ((cvS (U.pe i) (j + 1)).1.2 : Int) := by simp only [cvS]; rw [if_neg (by omega)]
          have q58_108 : (((cvS (U.pe i) j).1.2 : Int) : Int) = ((cvS (U.pe i) (j + 1)).1.1 : Int) := by simp only [cvS]; rw [if_neg (by omega)]
          refine zv_sub (lv' := [(2, .int (zI (k : Int))), (3, .int (zI w)), (4, .long (zL ((cvS (U.pe i) (j + 1)).1.1 : Int))), (6, .long (zL ((cvS (U.pe i) (j + 1)).1.2 : Int))), (8, .long (zL ((cvS (U.pe i) (j + 1)).2.2.1))), (10, .long (zL ((cvS (U.pe i) (j + 1)).2.2.2.2))), (12, .long (zL ((cvS (U.pe i) (j + 1)).2.1))), (14, .long (zL ((cvS (U.pe i) (j + 1)).2.2.2.1))), (16, .int (zI ((j + 1 : Nat) : Int)))]) [11, 12, 2, 1, 6, 5, 4, 3, 0] (zcons rfl (zcons rfl (zcons (zqL q58_108) (zcons (zqL q58_107) (zcons (zqL q58_106) (zcons (zqL q58_105) (zcons (zqL q58_104) (zcons (zqL q58_103) (zcons (zqI q58_102) rfl))))))))) ?_
          exact ih (j + 1) (⟨by omega, by omega⟩) (by omega)
        · skip
          refine zv_iload_n C 5 dX10_convergent_113 rfl rfl ?_
          refine zv_if_neZ (tgt := 122) C (by omega) dX10_convergent_114 (by decide) (fun h114 => ?_) (fun h114 => ?_)
          · skip
            refine zv_lload C 0 dX10_convergent_122 rfl ?_
            exact zv_lret C hr dX10_convergent_124 ⟨by rw [show k = j by omega, dCv, if_neg hj0, if_neg (by omega)], rfl⟩
          · skip
            refine zv_lload C 1 dX10_convergent_117 rfl ?_
            refine zv_goto (tgt := 124) C dX10_convergent_119 (by decide) ?_
            exact zv_lret C hr dX10_convergent_124 ⟨by rw [show k = j by omega, dCv, if_neg hj0, if_pos (by omega)], rfl⟩
  · exfalso
    omega
set_option maxRecDepth 20000 in
theorem x1_X10_convergent {l : Launch} (hfl : l.stackTraces = false) (E : zE) (σ : zS) (U : zSU) (b : Int) (y : Int) (z : Int) (hU : zSUp σ 29 U) (hbi : -2147483648 ≤ b ∧ b < 2147483648) (hno : ¬ (0 ≤ b ∧ b < U.nb)) : zRx l E yX10_convergent cX10_convergent 25 (some .long) (zrx 9 200) [.ref (ob E 0), .int (zI b), .int (zI y), .int (zI z)] σ "java/lang/IndexOutOfBoundsException" := by
  refine vx_ofW (cc := cX10_convergent) (maxL := 25) (ret := (some .long)) (by decide) rfl ?_
  intro p e s m args below meth c s₁ B hml hout hv
  obtain ⟨rfl, hd⟩ := hv
  have C := zX_of (own := RX10) hfl B hml rfl hd rfl
  have hr := B.returns
  refine zV_go hd (Nat.le_of_ble_eq_true rfl) (lv := [(0, .ref (ob E 0)), (1, .int (zI b)), (2, .int (zI y)), (3, .int (zI z))]) rfl ?_
  have hnb : U.nb ≤ 8 := hU.2.2.1
  have hs0 := hU.2.2.2.1
  
  refine zv_aload_n C 0 dX10_convergent_0 rfl rfl ?_
  refine zv_iload_n C 1 dX10_convergent_1 rfl rfl ?_
  exact zv_xcv (st := []) C (x_X10_needBody hfl E σ U b hU hbi hno) hout mX10_needBody kX10_140 (by decide : kd 0 = 9) rfl rfl rfl ⟨rfl, rfl⟩ (show zfit (zrx 6 100) 2 (zrx 9 200) = true from rfl) (Nat.le_of_ble_eq_true rfl) dX10_convergent_2
set_option maxRecDepth 20000 in
theorem x2_X10_convergent {l : Launch} (hfl : l.stackTraces = false) (E : zE) (σ : zS) (U : zSU) (i : Nat) (y z : Int) (hU : zSUp σ 29 U) (hi : i < U.nb) (hyi : -2147483648 ≤ y ∧ y < 2147483648) (hno : y < 0) : zRx l E yX10_convergent cX10_convergent 25 (some .long) (zrx 9 200) [.ref (ob E 0), .int (zI (i : Int)), .int (zI y), .int (zI z)] σ "java/lang/IllegalArgumentException" := by
  refine vx_ofW (cc := cX10_convergent) (maxL := 25) (ret := (some .long)) (by decide) rfl ?_
  intro p e s m args below meth c s₁ B hml hout hv
  obtain ⟨rfl, hd⟩ := hv
  have C := zX_of (own := RX10) hfl B hml rfl hd rfl
  have hr := B.returns
  refine zV_go hd (Nat.le_of_ble_eq_true rfl) (lv := [(0, .ref (ob E 0)), (1, .int (zI (i : Int))), (2, .int (zI y)), (3, .int (zI z))]) rfl ?_
  have hnb : U.nb ≤ 8 := hU.2.2.1
  have hs0 := hU.2.2.2.1
  
  refine zv_aload_n C 0 dX10_convergent_0 rfl rfl ?_
  refine zv_iload_n C 1 dX10_convergent_1 rfl rfl ?_
  refine zv_cvvD (st := []) C (c_X10_needBody hfl E σ U (i : Int) hU (by omega) (by omega)) mX10_needBody kX10_140 (by decide : kd 0 = 9) rfl rfl rfl ⟨rfl, rfl⟩ (show zfit (zrm 0 0) 2 (zrx 9 200) = true from rfl) (Nat.le_of_ble_eq_true rfl) dX10_convergent_2 ⟨Nat.zero_le _, Nat.zero_le _⟩ ?_
  refine zv_iload_n C 2 dX10_convergent_5 rfl rfl ?_
  refine zv_if_geZ (tgt := 20) C (by omega) dX10_convergent_6 (by decide) (fun h6 => ?_) (fun h6 => ?_)
  · exfalso
    omega
  · skip
    exact zv_throwW (text := "negative index") C hout rfl kX10_245 zini_IllegalArgumentException (by decide) (by decide) (by decide) zat_IllegalArgumentException zot_IllegalArgumentException dX10_convergent_9 dX10_convergent_12 dX10_convergent_13 dX10_convergent_16 dX10_convergent_19 (by decide) (by decide) ⟨by decide, by decide⟩
set_option maxRecDepth 20000 in
theorem x3_X10_convergent {l : Launch} (hfl : l.stackTraces = false) (E : zE) (σ : zS) (U : zSU) (i : Nat) (y z : Int) (hU : zSUp σ 29 U) (hi : i < U.nb) (hyi : -2147483648 ≤ y ∧ y < 2147483648) (hy : 0 ≤ y) (hzi : -2147483648 ≤ z ∧ z < 2147483648) (hno : ¬ (0 ≤ z ∧ z ≤ 1)) : zRx l E yX10_convergent cX10_convergent 25 (some .long) (zrx 9 200) [.ref (ob E 0), .int (zI (i : Int)), .int (zI y), .int (zI z)] σ "java/lang/IllegalArgumentException" := by
  refine vx_ofW (cc := cX10_convergent) (maxL := 25) (ret := (some .long)) (by decide) rfl ?_
  intro p e s m args below meth c s₁ B hml hout hv
  obtain ⟨rfl, hd⟩ := hv
  have C := zX_of (own := RX10) hfl B hml rfl hd rfl
  have hr := B.returns
  refine zV_go hd (Nat.le_of_ble_eq_true rfl) (lv := [(0, .ref (ob E 0)), (1, .int (zI (i : Int))), (2, .int (zI y)), (3, .int (zI z))]) rfl ?_
  have hnb : U.nb ≤ 8 := hU.2.2.1
  have hs0 := hU.2.2.2.1
  
  refine zv_aload_n C 0 dX10_convergent_0 rfl rfl ?_
  refine zv_iload_n C 1 dX10_convergent_1 rfl rfl ?_
  refine zv_cvvD (st := []) C (c_X10_needBody hfl E σ U (i : Int) hU (by omega) (by omega)) mX10_needBody kX10_140 (by decide : kd 0 = 9) rfl rfl rfl ⟨rfl, rfl⟩ (show zfit (zrm 0 0) 2 (zrx 9 200) = true from rfl) (Nat.le_of_ble_eq_true rfl) dX10_convergent_2 ⟨Nat.zero_le _, Nat.zero_le _⟩ ?_
  refine zv_iload_n C 2 dX10_convergent_5 rfl rfl ?_
  refine zv_if_geZ (tgt := 20) C (by omega) dX10_convergent_6 (by decide) (fun h6 => ?_) (fun h6 => ?_)
  · skip
    refine zv_iload_n C 3 dX10_convergent_20 rfl rfl ?_
    refine zv_iconst (v := zI 0) C dX10_convergent_21 rfl ?_
    refine zv_iconst (v := zI 1) C dX10_convergent_22 rfl ?_
    exact zv_xcs (st := []) C (x_X10_needWithin hfl E σ z 0 1 hzi (by omega) (by omega) hno) hout mX10_needWithin kX10_117 rfl ⟨rfl, rfl⟩ (show zfit (zrx 6 100) 3 (zrx 9 200) = true from rfl) (Nat.le_of_ble_eq_true rfl) dX10_convergent_23
  · exfalso
    omega
def dBf (p L : Nat) (w : Int) : Int := if w = 0 then (nN p (nB p L) : Int) else (nB p L : Int)
set_option maxRecDepth 20000 in
theorem c_X10_bestFraction {l : Launch} (hfl : l.stackTraces = false) (E : zE) (σ : zS) (U : zSU) (i L : Nat) (w : Int) (hU : zSUp σ 29 U) (hi : i < U.nb) (hL : 1 ≤ L ∧ L ≤ 10000) (hw : w = 0 ∨ w = 1) : zRi l E yX10_bestFraction cX10_bestFraction 5 .int (zrm 3 73) [.ref (ob E 0), .int (zI (i : Int)), .int (zI (L : Int)), .int (zI w)] σ (fun r τ => r = zI (dBf (U.pe i) L w) ∧ τ = σ) := by
  refine Met.ofW (cc := cX10_bestFraction) (maxL := 5) (ret := (some .int)) (by decide +kernel) rfl ?_
  intro p e s m args below meth c s₁ B hml hv
  obtain ⟨rfl, hd⟩ := hv
  have C := zX_of (own := RX10) hfl B hml rfl hd rfl
  have hr := B.returns
  refine zV_go hd (Nat.le_of_ble_eq_true rfl) (lv := [(0, .ref (ob E 0)), (1, .int (zI (i : Int))), (2, .int (zI (L : Int))), (3, .int (zI w))]) rfl ?_
  have hnb : U.nb ≤ 8 := hU.2.2.1
  have hs0 := hU.2.2.2.1
  have hpe := (hU.2.2.2.2 i hi).2.2.2.2.1
  have hnB := nB_b (U.pe i) L
  refine zv_aload_n C 0 dX10_bestFraction_0 rfl rfl ?_
  refine zv_iload_n C 1 dX10_bestFraction_1 rfl rfl ?_
  refine zv_cvvD (st := []) C (c_X10_needBody hfl E σ U (i : Int) hU (by omega) (by omega)) mX10_needBody kX10_140 (by decide : kd 0 = 9) rfl rfl rfl ⟨rfl, rfl⟩ (show zfit (zrm 0 0) 2 (zrm 3 73) = true from rfl) (Nat.le_of_ble_eq_true rfl) dX10_bestFraction_2 ⟨Nat.zero_le _, Nat.zero_le _⟩ ?_
  refine zv_iload_n C 2 dX10_bestFraction_5 rfl rfl ?_
  refine zv_iconst (v := zI 1) C dX10_bestFraction_6 rfl ?_
  refine zv_sipush (v := zI 10000) C dX10_bestFraction_7 (by decide) ?_
  refine zv_csvD (st := []) C (c_X10_needWithin hfl E σ (L : Int) 1 10000 (by omega) (by omega) (by omega) (by omega)) mX10_needWithin kX10_117 rfl ⟨rfl, rfl⟩ (show zfit (zrm 0 0) 3 (zrm 3 73) = true from rfl) (Nat.le_of_ble_eq_true rfl) dX10_bestFraction_10 ⟨Nat.zero_le _, Nat.zero_le _⟩ ?_
  refine zv_iload_n C 3 dX10_bestFraction_13 rfl rfl ?_
  refine zv_iconst (v := zI 0) C dX10_bestFraction_14 rfl ?_
  refine zv_iconst (v := zI 1) C dX10_bestFraction_15 rfl ?_
  refine zv_csvD (st := []) C (c_X10_needWithin hfl E σ w 0 1 (by omega) (by omega) (by omega) (by omega)) mX10_needWithin kX10_117 rfl ⟨rfl, rfl⟩ (show zfit (zrm 0 0) 3 (zrm 3 73) = true from rfl) (Nat.le_of_ble_eq_true rfl) dX10_bestFraction_16 ⟨Nat.zero_le _, Nat.zero_le _⟩ ?_
  refine zv_aload_n C 0 dX10_bestFraction_19 rfl rfl ?_
  refine zG9_5 C (by decide : kd 0 = _) kX10_47 dX10_bestFraction_20 ?_
  refine zv_aload_n C 0 dX10_bestFraction_23 rfl rfl ?_
  refine zG9_1 C (by decide : kd 0 = _) kX10_19 dX10_bestFraction_24 ?_
  refine zG4_3 C (by decide : kd 29 = _) kX10_143 dX10_bestFraction_27 ?_
  refine zv_iload_n C 1 dX10_bestFraction_30 rfl rfl ?_
  refine zv_iald (j := i) C (by decide : kd 31 = _) (zI_ix (by omega)) (Nat.lt_of_lt_of_eq (show i < 8 by omega) (by decide)) dX10_bestFraction_31 ?_
  refine zv_eqi (y := (zI (U.pe i : Int))) ((hU.2.2.2.2 i hi).2.1) ?_
  refine zv_iload_n C 2 dX10_bestFraction_32 rfl rfl ?_
  refine zv_cviD (st := []) C (c_X0_nearestDenominator hfl E σ (U.pe i) L (by omega) hL) mX0_nearestDenominator kX10_274 (by decide : kd 318 = 0) rfl rfl rfl ⟨rfl, rfl⟩ (show zfit (zrm 2 45) 9 (zrm 3 73) = true from rfl) (Nat.le_of_ble_eq_true rfl) dX10_bestFraction_33 ⟨Nat.zero_le _, Nat.zero_le _⟩ ?_
  refine zv_istore (lv' := [(4, .int (zI (nB (U.pe i) L : Int))), (0, .ref (ob E 0)), (1, .int (zI (i : Int))), (2, .int (zI (L : Int))), (3, .int (zI w))]) C dX10_bestFraction_36  (by decide) rfl ?_
  refine zv_iload_n C 4 dX10_bestFraction_38 rfl rfl ?_
  refine zv_if_neZ (tgt := 59) C (by omega) dX10_bestFraction_39 (by decide) (fun h39 => ?_) (fun h39 => ?_)
  · skip
    refine zv_iload C 0 dX10_bestFraction_59 rfl ?_
    exact zv_iret C hr rfl dX10_bestFraction_61 ⟨by rw [dBf, if_neg (by omega)], rfl⟩
  · skip
    refine zv_aload_n C 1 dX10_bestFraction_42 rfl rfl ?_
    refine zG9_1 C (by decide : kd 0 = _) kX10_19 dX10_bestFraction_43 ?_
    refine zG4_3 C (by decide : kd 29 = _) kX10_143 dX10_bestFraction_46 ?_
    refine zv_iload_n C 2 dX10_bestFraction_49 rfl rfl ?_
    refine zv_iald (j := i) C (by decide : kd 31 = _) (zI_ix (by omega)) (Nat.lt_of_lt_of_eq (show i < 8 by omega) (by decide)) dX10_bestFraction_50 ?_
    refine zv_eqi (y := (zI (U.pe i : Int))) ((hU.2.2.2.2 i hi).2.1) ?_
    refine zv_iload C 0 dX10_bestFraction_51 rfl ?_
    refine zv_csiD (st := []) C (c_X0_nearestNumerator hfl E σ (U.pe i) (nB (U.pe i) L) (by omega) (by omega)) mX0_nearestNumerator kX10_277 rfl ⟨rfl, rfl⟩ (show zfit (zrm 0 0) 5 (zrm 3 73) = true from rfl) (Nat.le_of_ble_eq_true rfl) dX10_bestFraction_53 ⟨Nat.zero_le _, Nat.zero_le _⟩ ?_
    refine zv_goto (tgt := 61) C dX10_bestFraction_56 (by decide) ?_
    exact zv_iret C hr rfl dX10_bestFraction_61 ⟨by rw [dBf, if_pos (by omega)], rfl⟩
set_option maxRecDepth 20000 in
theorem x1_X10_bestFraction {l : Launch} (hfl : l.stackTraces = false) (E : zE) (σ : zS) (U : zSU) (b : Int) (y : Int) (z : Int) (hU : zSUp σ 29 U) (hbi : -2147483648 ≤ b ∧ b < 2147483648) (hno : ¬ (0 ≤ b ∧ b < U.nb)) : zRx l E yX10_bestFraction cX10_bestFraction 5 (some .int) (zrx 9 200) [.ref (ob E 0), .int (zI b), .int (zI y), .int (zI z)] σ "java/lang/IndexOutOfBoundsException" := by
  refine vx_ofW (cc := cX10_bestFraction) (maxL := 5) (ret := (some .int)) (by decide) rfl ?_
  intro p e s m args below meth c s₁ B hml hout hv
  obtain ⟨rfl, hd⟩ := hv
  have C := zX_of (own := RX10) hfl B hml rfl hd rfl
  have hr := B.returns
  refine zV_go hd (Nat.le_of_ble_eq_true rfl) (lv := [(0, .ref (ob E 0)), (1, .int (zI b)), (2, .int (zI y)), (3, .int (zI z))]) rfl ?_
  have hnb : U.nb ≤ 8 := hU.2.2.1
  have hs0 := hU.2.2.2.1
  
  refine zv_aload_n C 0 dX10_bestFraction_0 rfl rfl ?_
  refine zv_iload_n C 1 dX10_bestFraction_1 rfl rfl ?_
  exact zv_xcv (st := []) C (x_X10_needBody hfl E σ U b hU hbi hno) hout mX10_needBody kX10_140 (by decide : kd 0 = 9) rfl rfl rfl ⟨rfl, rfl⟩ (show zfit (zrx 6 100) 2 (zrx 9 200) = true from rfl) (Nat.le_of_ble_eq_true rfl) dX10_bestFraction_2
set_option maxRecDepth 20000 in
theorem x2_X10_bestFraction {l : Launch} (hfl : l.stackTraces = false) (E : zE) (σ : zS) (U : zSU) (i : Nat) (y z : Int) (hU : zSUp σ 29 U) (hi : i < U.nb) (hyi : -2147483648 ≤ y ∧ y < 2147483648) (hno : ¬ (1 ≤ y ∧ y ≤ 10000)) : zRx l E yX10_bestFraction cX10_bestFraction 5 (some .int) (zrx 9 200) [.ref (ob E 0), .int (zI (i : Int)), .int (zI y), .int (zI z)] σ "java/lang/IllegalArgumentException" := by
  refine vx_ofW (cc := cX10_bestFraction) (maxL := 5) (ret := (some .int)) (by decide) rfl ?_
  intro p e s m args below meth c s₁ B hml hout hv
  obtain ⟨rfl, hd⟩ := hv
  have C := zX_of (own := RX10) hfl B hml rfl hd rfl
  have hr := B.returns
  refine zV_go hd (Nat.le_of_ble_eq_true rfl) (lv := [(0, .ref (ob E 0)), (1, .int (zI (i : Int))), (2, .int (zI y)), (3, .int (zI z))]) rfl ?_
  have hnb : U.nb ≤ 8 := hU.2.2.1
  have hs0 := hU.2.2.2.1
  
  refine zv_aload_n C 0 dX10_bestFraction_0 rfl rfl ?_
  refine zv_iload_n C 1 dX10_bestFraction_1 rfl rfl ?_
  refine zv_cvvD (st := []) C (c_X10_needBody hfl E σ U (i : Int) hU (by omega) (by omega)) mX10_needBody kX10_140 (by decide : kd 0 = 9) rfl rfl rfl ⟨rfl, rfl⟩ (show zfit (zrm 0 0) 2 (zrx 9 200) = true from rfl) (Nat.le_of_ble_eq_true rfl) dX10_bestFraction_2 ⟨Nat.zero_le _, Nat.zero_le _⟩ ?_
  refine zv_iload_n C 2 dX10_bestFraction_5 rfl rfl ?_
  refine zv_iconst (v := zI 1) C dX10_bestFraction_6 rfl ?_
  refine zv_sipush (v := zI 10000) C dX10_bestFraction_7 (by decide) ?_
  exact zv_xcs (st := []) C (x_X10_needWithin hfl E σ y 1 10000 hyi (by omega) (by omega) hno) hout mX10_needWithin kX10_117 rfl ⟨rfl, rfl⟩ (show zfit (zrx 6 100) 3 (zrx 9 200) = true from rfl) (Nat.le_of_ble_eq_true rfl) dX10_bestFraction_10
set_option maxRecDepth 20000 in
theorem x3_X10_bestFraction {l : Launch} (hfl : l.stackTraces = false) (E : zE) (σ : zS) (U : zSU) (i : Nat) (y z : Int) (hU : zSUp σ 29 U) (hi : i < U.nb) (hy : 1 ≤ y ∧ y ≤ 10000) (hzi : -2147483648 ≤ z ∧ z < 2147483648) (hno : ¬ (0 ≤ z ∧ z ≤ 1)) : zRx l E yX10_bestFraction cX10_bestFraction 5 (some .int) (zrx 9 200) [.ref (ob E 0), .int (zI (i : Int)), .int (zI y), .int (zI z)] σ "java/lang/IllegalArgumentException" := by
  refine vx_ofW (cc := cX10_bestFraction) (maxL := 5) (ret := (some .int)) (by decide) rfl ?_
  intro p e s m args below meth c s₁ B hml hout hv
  obtain ⟨rfl, hd⟩ := hv
  have C := zX_of (own := RX10) hfl B hml rfl hd rfl
  have hr := B.returns
  refine zV_go hd (Nat.le_of_ble_eq_true rfl) (lv := [(0, .ref (ob E 0)), (1, .int (zI (i : Int))), (2, .int (zI y)), (3, .int (zI z))]) rfl ?_
  have hnb : U.nb ≤ 8 := hU.2.2.1
  have hs0 := hU.2.2.2.1
  
  refine zv_aload_n C 0 dX10_bestFraction_0 rfl rfl ?_
  refine zv_iload_n C 1 dX10_bestFraction_1 rfl rfl ?_
  refine zv_cvvD (st := []) C (c_X10_needBody hfl E σ U (i : Int) hU (by omega) (by omega)) mX10_needBody kX10_140 (by decide : kd 0 = 9) rfl rfl rfl ⟨rfl, rfl⟩ (show zfit (zrm 0 0) 2 (zrx 9 200) = true from rfl) (Nat.le_of_ble_eq_true rfl) dX10_bestFraction_2 ⟨Nat.zero_le _, Nat.zero_le _⟩ ?_
  refine zv_iload_n C 2 dX10_bestFraction_5 rfl rfl ?_
  refine zv_iconst (v := zI 1) C dX10_bestFraction_6 rfl ?_
  refine zv_sipush (v := zI 10000) C dX10_bestFraction_7 (by decide) ?_
  refine zv_csvD (st := []) C (c_X10_needWithin hfl E σ y 1 10000 (by omega) (by omega) (by omega) hy) mX10_needWithin kX10_117 rfl ⟨rfl, rfl⟩ (show zfit (zrm 0 0) 3 (zrx 9 200) = true from rfl) (Nat.le_of_ble_eq_true rfl) dX10_bestFraction_10 ⟨Nat.zero_le _, Nat.zero_le _⟩ ?_
  refine zv_iload_n C 3 dX10_bestFraction_13 rfl rfl ?_
  refine zv_iconst (v := zI 0) C dX10_bestFraction_14 rfl ?_
  refine zv_iconst (v := zI 1) C dX10_bestFraction_15 rfl ?_
  exact zv_xcs (st := []) C (x_X10_needWithin hfl E σ z 0 1 hzi (by omega) (by omega) hno) hout mX10_needWithin kX10_117 rfl ⟨rfl, rfl⟩ (show zfit (zrx 6 100) 3 (zrx 9 200) = true from rfl) (Nat.le_of_ble_eq_true rfl) dX10_bestFraction_16
