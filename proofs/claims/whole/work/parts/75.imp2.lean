abbrev zIm : Type := (Int × Int) × Nat × Nat × Int
def imS (U : zSU) (S : zST) (i x w : Nat) (a : zIm) : zIm := if 0 ≤ (nwS U S i x w a.1 S.n).2 then ((nwS U S i x w a.1 S.n).1, x, w, (nwS U S i x w a.1 S.n).2) else ((nwS U S i x w a.1 S.n).1, a.2)
def imW (U : zSU) (S : zST) (i x : Nat) (a : zIm) : Nat → zIm
  | 0 => a
  | k + 1 => imS U S i x (k + 1) (imW U S i x a k)
def imF (U : zSU) (S : zST) (i : Nat) : Nat → zIm
  | 0 => (qDrift U S i, 0, 0, -1)
  | x + 1 => if S.tr i x 0 = 2 then imF U S i x else imW U S i x (imF U S i x) 2
theorem imS_1 (U : zSU) (S : zST) (i x w : Nat) (a : zIm) : (imS U S i x w a).1 = (nwS U S i x w a.1 S.n).1 := by
  unfold imS
  split <;> rfl
def imOk (S : zST) (i : Nat) (a : zIm) : Prop := rOk a.1 ∧ (-1 ≤ a.2.2.2 ∧ a.2.2.2 ≤ 100) ∧ (0 ≤ a.2.2.2 → a.2.1 < S.tn i ∧ (a.2.2.1 = 1 ∨ a.2.2.1 = 2) ∧ S.tr i a.2.1 0 ≠ 2 ∧ 8 ≤ a.2.2.2)
theorem imS_ok {σ : zS} {U : zSU} {S : zST} {i x w : Nat} {a : zIm} (hU : zSUp σ 29 U) (hS : zSTp σ 34 S) (hi : i < U.nb) (hx : x < S.tn i) (hw : w = 1 ∨ w = 2) (hg : S.tr i x 0 ≠ 2) (h : imOk S i a) : imOk S i (imS U S i x w a) := by
  have h1 := nwS_b hU hS hi hx hw hg h.1 S.n (Nat.le_refl _)
  unfold imS
  split
  · rename_i h0
    exact ⟨h1.1, ⟨h1.2.1, h1.2.2.1⟩, fun _ => ⟨hx, hw, hg, h1.2.2.2 h0⟩⟩
  · exact ⟨h1.1, h.2.1, h.2.2⟩
theorem imF_ok {σ : zS} {U : zSU} {S : zST} {i : Nat} (hU : zSUp σ 29 U) (hS : zSTp σ 34 S) (hi : i < U.nb) : ∀ x, x ≤ S.tn i → imOk S i (imF U S i x) := by
  intro x
  induction x with
  | zero => intro _; exact ⟨qDrift_b hU hS hi, by show (-1 : Int) ≤ -1 ∧ (-1 : Int) ≤ 100; omega, fun h => absurd h (by show ¬ ((0 : Int) ≤ -1); omega)⟩
  | succ x ih =>
    intro hx
    simp only [imF]
    split
    · exact ih (by omega)
    · rename_i hg
      exact imS_ok hU hS hi (by omega) (Or.inr rfl) hg (imS_ok hU hS hi (by omega) (Or.inl rfl) hg (ih (by omega)))
theorem imW_ok {σ : zS} {U : zSU} {S : zST} {i x : Nat} {a : zIm} (hU : zSUp σ 29 U) (hS : zSTp σ 34 S) (hi : i < U.nb) (hx : x < S.tn i) (hg : S.tr i x 0 ≠ 2) (h : imOk S i a) : ∀ k, k ≤ 2 → imOk S i (imW U S i x a k) := by
  intro k
  induction k with
  | zero => intro _; exact h
  | succ k ih => intro hk; exact imS_ok hU hS hi hx (by omega) hg (ih (by omega))
theorem zFr_U {σ τ : zS} {U : zSU} (h : zSUp σ 29 U) (hf : zFr 318 327 σ τ) : zSUp τ 29 U := zSUp_w h (fun a b _ _ => ⟨hf.1 a b (by omega), hf.2.1 a b (by omega)⟩)
theorem zFr_S {σ τ : zS} {S : zST} (h : zSTp σ 34 S) (hf : zFr 318 327 σ τ) : zSTp τ 34 S := zSTp_w h (fun a b _ _ => hf.1 a b (by omega))
set_option maxRecDepth 20000 in
theorem c0_X10_improve {l : Launch} (hfl : l.stackTraces = false) (E : zE) (σ : zS) (U : zSU) (S : zST) (i : Nat) (hU : zSUp σ 29 U) (hS : zSTp σ 34 S) (hi : i < U.nb) (hneg : (imF U S i (S.tn i)).2.2.2 < 0) : zRi l E yX10_improve cX10_improve 9 .int (zrm 12 300) [.ref (ob E 0), .int (zI (i : Int))] σ (fun r τ => r = zI (-1) ∧ zFr 318 327 σ τ) := by
  refine Met.ofW (cc := cX10_improve) (maxL := 9) (ret := (some .int)) (by decide +kernel) rfl ?_
  intro p e s m args below meth c s₁ B hml hv
  obtain ⟨rfl, hd⟩ := hv
  have C := zX_of (own := RX10) hfl B hml rfl hd rfl
  have hr := B.returns
  refine zV_go hd (Nat.le_of_ble_eq_true rfl) (lv := [(0, .ref (ob E 0)), (1, .int (zI (i : Int)))]) rfl ?_
  have hnb : U.nb ≤ 8 := hU.2.2.1
  have hs0 := hU.2.2.2.1
  have hi8 : i < 8 := by omega
  have hki : kd (34 + 4 + 2 * i) = 8 := ((zst (show kd 34 = 6 by decide)).2.2.2 i hi8).1
  have hT := (hS.2.2.2.2.2.2 i hi8).1
  have hTw := (hS.2.2.2.2.2.2 i hi8).2
  have ht4 := hT.2.1
  
  refine zv_aload_n C 0 dX10_improve_0 rfl rfl ?_
  refine zv_iload_n C 1 dX10_improve_1 rfl rfl ?_
  refine zv_cvvD (st := []) C (c_X10_needBody hfl E σ U (i : Int) hU (by omega) (by omega)) mX10_needBody kX10_140 (by decide : kd 0 = 9) rfl rfl rfl ⟨rfl, rfl⟩ (show zfit (zrm 0 0) 2 (zrm 12 300) = true from rfl) (Nat.le_of_ble_eq_true rfl) dX10_improve_2 ⟨Nat.zero_le _, Nat.zero_le _⟩ ?_
  refine zv_aload_n C 0 dX10_improve_5 rfl rfl ?_
  refine zG9_2 C (by decide : kd 0 = _) kX10_26 dX10_improve_6 ?_
  refine zG6_5 C (by decide : kd 34 = _) kX10_154 dX10_improve_9 ?_
  refine zv_iload_n C 1 dX10_improve_12 rfl rfl ?_
  refine zv_tald (j := i) C (by decide : kd 37 = _) (zI_ix (by omega)) (Nat.lt_of_lt_of_eq (show i < 8 by omega) (by decide)) dX10_improve_13 ?_
  refine zv_astore_n (lv' := [(2, .ref (ob E (34 + 4 + 2 * i))), (0, .ref (ob E 0)), (1, .int (zI (i : Int)))]) C dX10_improve_14 rfl (by decide) rfl ?_
  refine zv_aload_n C 1 dX10_improve_15 rfl rfl ?_
  refine zG9_9 C (by decide : kd 0 = _) kX10_64 dX10_improve_16 ?_
  refine zv_aload_n C 1 dX10_improve_19 rfl rfl ?_
  refine zv_iload_n C 2 dX10_improve_20 rfl rfl ?_
  refine zv_cvrD (st := [.ref (ob E 323)]) C (c_X10_driftOf hfl E σ U S i hU hS hi) mX10_driftOf kX10_210 (by decide : kd 0 = 9) rfl rfl rfl ⟨rfl, rfl⟩ (show zfit (zrm 4 105) 2 (zrm 12 300) = true from rfl) (Nat.le_of_ble_eq_true rfl) dX10_improve_21 ⟨Nat.zero_le _, Nat.zero_le _⟩ ?_
  refine zv_cvvD (st := []) C (c_X3_copyFrom hfl E (rW σ 322 (qDrift U S i).1 (qDrift U S i).2) 323 322 (by decide) (by decide)) mX3_copyFrom kX10_343 (by decide : kd 323 = 3) rfl rfl rfl ⟨rfl, rfl⟩ (show zfit (zrm 0 0) 2 (zrm 12 300) = true from rfl) (Nat.le_of_ble_eq_true rfl) dX10_improve_24 ⟨Nat.zero_le _, Nat.zero_le _⟩ ?_
  refine zv_eqS (τ := (rW (rW σ 322 (qDrift U S i).1 (qDrift U S i).2) 323 (qDrift U S i).1 (qDrift U S i).2)) (by show sJ (sJ (rW σ 322 (qDrift U S i).1 (qDrift U S i).2) 323 0 (gJ (rW σ 322 (qDrift U S i).1 (qDrift U S i).2) 322 0)) 323 1 (gJ (rW σ 322 (qDrift U S i).1 (qDrift U S i).2) 322 1) = _; rw [(rW_R _ 322 _ _).1, (rW_R _ 322 _ _).2]; rfl) ?_
  refine zv_iconst (v := zI 0) C dX10_improve_27 rfl ?_
  refine zv_istore_n (lv' := [(3, .int (zI 0)), (2, .ref (ob E (34 + 4 + 2 * i))), (0, .ref (ob E 0)), (1, .int (zI (i : Int)))]) C dX10_improve_28 rfl (by decide) rfl ?_
  refine zv_iconst (v := zI 0) C dX10_improve_29 rfl ?_
  refine zv_istore (lv' := [(4, .int (zI 0)), (3, .int (zI 0)), (2, .ref (ob E (34 + 4 + 2 * i))), (0, .ref (ob E 0)), (1, .int (zI (i : Int)))]) C dX10_improve_30  (by decide) rfl ?_
  refine zv_iconst (v := zI (-1)) C dX10_improve_32 rfl ?_
  refine zv_istore (lv' := [(5, .int (zI (-1))), (4, .int (zI 0)), (3, .int (zI 0)), (2, .ref (ob E (34 + 4 + 2 * i))), (0, .ref (ob E 0)), (1, .int (zI (i : Int)))]) C dX10_improve_33  (by decide) rfl ?_
  refine zv_iconst (v := zI 0) C dX10_improve_35 rfl ?_
  refine zv_istore (lv' := [(6, .int (zI 0)), (5, .int (zI (-1))), (4, .int (zI 0)), (3, .int (zI 0)), (2, .ref (ob E (34 + 4 + 2 * i))), (0, .ref (ob E 0)), (1, .int (zI (i : Int)))]) C dX10_improve_36  (by decide) rfl ?_
  have q38_32 : (0 : Int) = (0 : Int) := by first | rfl | omega
  have q38_33 : ((-1) : Int) = (imF U S i 0).2.2.2 := by first | rfl | omega
  have q38_34 : (0 : Int) = ((imF U S i 0).2.2.1 : Int) := by first | rfl | omega
  have q38_35 : (0 : Int) = ((imF U S i 0).2.1 : Int) := by first | rfl | omega
  refine zv_sub (lv' := [(0, .ref (ob E 0)), (1, .int (zI (i : Int))), (2, .ref (ob E (34 + 4 + 2 * i))), (3, .int (zI ((imF U S i 0).2.1 : Int))), (4, .int (zI ((imF U S i 0).2.2.1 : Int))), (5, .int (zI ((imF U S i 0).2.2.2))), (6, .int (zI (0 : Int)))]) [5, 6, 4, 3, 2, 1, 0] (zcons rfl (zcons rfl (zcons rfl (zcons (zqI q38_35) (zcons (zqI q38_34) (zcons (zqI q38_33) (zcons (zqI q38_32) rfl))))))) ?_
  refine zv_eqS (τ := (rW (rW σ 322 (qDrift U S i).1 (qDrift U S i).2) 323 (qDrift U S i).1 (qDrift U S i).2)) (rfl) ?_
  refine zv_while (α := Nat × zS) (fun v => S.tn i - v.1) (fun v => v.1 ≤ S.tn i ∧ zRt v.2 323 (imF U S i v.1).1.1 (imF U S i v.1).1.2 ∧ zFr 318 327 σ v.2) (fun v => v.2) (fun v => [(0, .ref (ob E 0)), (1, .int (zI (i : Int))), (2, .ref (ob E (34 + 4 + 2 * i))), (3, .int (zI ((imF U S i v.1).2.1 : Int))), (4, .int (zI ((imF U S i v.1).2.2.1 : Int))), (5, .int (zI ((imF U S i v.1).2.2.2))), (6, .int (zI (v.1 : Int)))]) (fun v => []) (fun v hI ih => ?_) ((0, (rW (rW σ 322 (qDrift U S i).1 (qDrift U S i).2) 323 (qDrift U S i).1 (qDrift U S i).2))) (⟨Nat.zero_le _, rW_R _ _ _ _, zFr_rW (zFr_rW (zFr_refl _ _ _) (by omega)) (by omega)⟩)
  obtain ⟨x, u⟩ := v
  dsimp only at hI ih ⊢
  obtain ⟨hI, hA, hB⟩ := hI
  have hUu := zFr_U hU hB
  have hSu := zFr_S hS hB
  have hTu := (hSu.2.2.2.2.2.2 i hi8).1
  have hok := imF_ok hU hS hi x hI
  have hokb := hok.2.1
  refine zv_iload C 6 dX10_improve_38 rfl ?_
  refine zv_aload_n C 2 dX10_improve_40 rfl rfl ?_
  refine zG8_1 C hki kX10_158 dX10_improve_41 ?_
  refine zv_eqi (y := (zI (S.tn i : Int))) (hTu.1) ?_
  refine zv_icmp_geZ (tgt := 104) C (by omega) (by omega) dX10_improve_44 (by decide) (fun h44 => ?_) (fun h44 => ?_)
  · skip
    have hxe : x = S.tn i := by omega
    refine zv_iload C 5 dX10_improve_104 rfl ?_
    refine zv_if_geZ (tgt := 111) C (by omega) dX10_improve_106 (by decide) (fun h106 => ?_) (fun h106 => ?_)
    · exfalso
      rw [← show x = S.tn i by omega] at hneg; omega
    · skip
      refine zv_iconst (v := zI (-1)) C dX10_improve_109 rfl ?_
      exact zv_iret C hr rfl dX10_improve_110 ⟨rfl, hB⟩
  · skip
    refine zv_iconst (v := zI 1) C dX10_improve_47 rfl ?_
    refine zv_istore (lv' := [(7, .int (zI 1)), (0, .ref (ob E 0)), (1, .int (zI (i : Int))), (2, .ref (ob E (34 + 4 + 2 * i))), (3, .int (zI ((imF U S i x).2.1 : Int))), (4, .int (zI ((imF U S i x).2.2.1 : Int))), (5, .int (zI ((imF U S i x).2.2.2))), (6, .int (zI (x : Int)))]) C dX10_improve_48  (by decide) rfl ?_
    have q50_64 : (1 : Int) = ((0 + 1 : Nat) : Int) := by first | rfl | omega
    have q50_65 : ((imF U S i x).2.2.2 : Int) = (imW U S i x (imF U S i x) 0).2.2.2 := by rfl
    have q50_66 : (((imF U S i x).2.2.1 : Int) : Int) = ((imW U S i x (imF U S i x) 0).2.2.1 : Int) := by rfl
    have q50_67 : (((imF U S i x).2.1 : Int) : Int) = ((imW U S i x (imF U S i x) 0).2.1 : Int) := by rfl
    refine zv_sub (lv' := [(0, .ref (ob E 0)), (1, .int (zI (i : Int))), (2, .ref (ob E (34 + 4 + 2 * i))), (3, .int (zI ((imW U S i x (imF U S i x) 0).2.1 : Int))), (4, .int (zI ((imW U S i x (imF U S i x) 0).2.2.1 : Int))), (5, .int (zI ((imW U S i x (imF U S i x) 0).2.2.2))), (6, .int (zI (x : Int))), (7, .int (zI ((0 + 1 : Nat) : Int)))]) [1, 2, 3, 4, 5, 6, 7, 0] (zcons rfl (zcons rfl (zcons rfl (zcons (zqI q50_67) (zcons (zqI q50_66) (zcons (zqI q50_65) (zcons rfl (zcons (zqI q50_64) rfl)))))))) ?_
    refine zv_eqS (τ := u) (rfl) ?_
    refine zv_while (α := Nat × zS) (fun v => 2 - v.1) (fun v => v.1 ≤ 2 ∧ zRt v.2 323 (imW U S i x (imF U S i x) v.1).1.1 (imW U S i x (imF U S i x) v.1).1.2 ∧ zFr 318 327 σ v.2 ∧ (S.tr i x 0 = 2 → v.1 = 0)) (fun v => v.2) (fun v => [(0, .ref (ob E 0)), (1, .int (zI (i : Int))), (2, .ref (ob E (34 + 4 + 2 * i))), (3, .int (zI ((imW U S i x (imF U S i x) v.1).2.1 : Int))), (4, .int (zI ((imW U S i x (imF U S i x) v.1).2.2.1 : Int))), (5, .int (zI ((imW U S i x (imF U S i x) v.1).2.2.2))), (6, .int (zI (x : Int))), (7, .int (zI ((v.1 + 1 : Nat) : Int)))]) (fun v => []) (fun v hI ih50 => ?_) ((0, u)) (⟨Nat.zero_le _, hA, hB, fun _ => rfl⟩)
    obtain ⟨k, u2⟩ := v
    dsimp only at hI ih50 ⊢
    obtain ⟨hJ, hA2, hB2, hC2⟩ := hI
    have hUu2 := zFr_U hU hB2
    have hSu2 := zFr_S hS hB2
    have hTu2 := (hSu2.2.2.2.2.2.2 i hi8).1
    refine zv_iload C 7 dX10_improve_50 rfl ?_
    refine zv_iconst (v := zI 2) C dX10_improve_52 rfl ?_
    refine zv_icmp_gtZ (tgt := 98) C (by omega) (by omega) dX10_improve_53 (by decide) (fun h53 => ?_) (fun h53 => ?_)
    · skip
      have hEx : imF U S i (x + 1) = imW U S i x (imF U S i x) k := by rw [imF, if_neg (fun z => by have := hC2 z; omega), show k = 2 by omega]
      refine zv_iinc (v := (zI ((x : Int) + 1))) (lv' := [(6, .int (zI ((x : Int) + 1))), (0, .ref (ob E 0)), (1, .int (zI (i : Int))), (2, .ref (ob E (34 + 4 + 2 * i))), (3, .int (zI ((imW U S i x (imF U S i x) k).2.1 : Int))), (4, .int (zI ((imW U S i x (imF U S i x) k).2.2.1 : Int))), (5, .int (zI ((imW U S i x (imF U S i x) k).2.2.2))), (7, .int (zI ((k + 1 : Nat) : Int)))]) C 6 dX10_improve_98 rfl (zI_add _ _) (by decide) rfl ?_
      refine zv_goto (tgt := 38) C dX10_improve_101 (by decide) ?_
      have q38_84 : ((x : Int) + 1 : Int) = ((x + 1 : Nat) : Int) := by first | rfl | omega
      have q38_85 : ((imW U S i x (imF U S i x) k).2.2.2 : Int) = (imF U S i (x + 1)).2.2.2 := by rw [hEx]
      have q38_86 : (((imW U S i x (imF U S i x) k).2.2.1 : Int) : Int) = ((imF U S i (x + 1)).2.2.1 : Int) := by rw [hEx]
      have q38_87 : (((imW U S i x (imF U S i x) k).2.1 : Int) : Int) = ((imF U S i (x + 1)).2.1 : Int) := by rw [hEx]
      refine zv_sub (lv' := [(0, .ref (ob E 0)), (1, .int (zI (i : Int))), (2, .ref (ob E (34 + 4 + 2 * i))), (3, .int (zI ((imF U S i (x + 1)).2.1 : Int))), (4, .int (zI ((imF U S i (x + 1)).2.2.1 : Int))), (5, .int (zI ((imF U S i (x + 1)).2.2.2))), (6, .int (zI ((x + 1 : Nat) : Int)))]) [1, 2, 3, 4, 5, 6, 0] (zcons rfl (zcons rfl (zcons rfl (zcons (zqI q38_87) (zcons (zqI q38_86) (zcons (zqI q38_85) (zcons (zqI q38_84) rfl))))))) ?_
      refine zv_eqS (τ := u2) (rfl) ?_
      exact ih ((x + 1, u2)) (⟨by show x + 1 ≤ S.tn i; omega, by show zRt u2 323 (imF U S i (x + 1)).1.1 (imF U S i (x + 1)).1.2; rw [hEx]; exact hA2, hB2⟩) (by show S.tn i - (x + 1) < S.tn i - x; omega)
    · skip
      refine zv_aload_n C 2 dX10_improve_56 rfl rfl ?_
      refine zv_iload C 6 dX10_improve_57 rfl ?_
      refine zv_cviD (st := []) C (c_X8_isGeared hfl E u2 (34 + 4 + 2 * i) (S.tn i) (S.tr i) x hki hTu2 (by omega)) mX8_isGeared kX10_293 hki rfl rfl rfl ⟨rfl, rfl⟩ (show zfit (zrm 1 23) 2 (zrm 12 300) = true from rfl) (Nat.le_of_ble_eq_true rfl) dX10_improve_59 ⟨Nat.zero_le _, Nat.zero_le _⟩ ?_
      refine zv_if_eqB (tgt := 98) C dX10_improve_62 (by decide) (fun h62 => ?_) (fun h62 => ?_)
      · skip
        have h2 : S.tr i x 0 = 2 := Decidable.not_not.mp h62
        have hEx : imF U S i (x + 1) = imW U S i x (imF U S i x) k := by rw [imF, if_pos h2, hC2 h2]; rfl
        refine zv_iinc (v := (zI ((x : Int) + 1))) (lv' := [(6, .int (zI ((x : Int) + 1))), (0, .ref (ob E 0)), (1, .int (zI (i : Int))), (2, .ref (ob E (34 + 4 + 2 * i))), (3, .int (zI ((imW U S i x (imF U S i x) k).2.1 : Int))), (4, .int (zI ((imW U S i x (imF U S i x) k).2.2.1 : Int))), (5, .int (zI ((imW U S i x (imF U S i x) k).2.2.2))), (7, .int (zI ((k + 1 : Nat) : Int)))]) C 6 dX10_improve_98 rfl (zI_add _ _) (by decide) rfl ?_
        refine zv_goto (tgt := 38) C dX10_improve_101 (by decide) ?_
        have q38_101 : ((x : Int) + 1 : Int) = ((x + 1 : Nat) : Int) := by first | rfl | omega
        have q38_102 : ((imW U S i x (imF U S i x) k).2.2.2 : Int) = (imF U S i (x + 1)).2.2.2 := by rw [hEx]
        have q38_103 : (((imW U S i x (imF U S i x) k).2.2.1 : Int) : Int) = ((imF U S i (x + 1)).2.2.1 : Int) := by rw [hEx]
        have q38_104 : (((imW U S i x (imF U S i x) k).2.1 : Int) : Int) = ((imF U S i (x + 1)).2.1 : Int) := by rw [hEx]
        refine zv_sub (lv' := [(0, .ref (ob E 0)), (1, .int (zI (i : Int))), (2, .ref (ob E (34 + 4 + 2 * i))), (3, .int (zI ((imF U S i (x + 1)).2.1 : Int))), (4, .int (zI ((imF U S i (x + 1)).2.2.1 : Int))), (5, .int (zI ((imF U S i (x + 1)).2.2.2))), (6, .int (zI ((x + 1 : Nat) : Int)))]) [1, 2, 3, 4, 5, 6, 0] (zcons rfl (zcons rfl (zcons rfl (zcons (zqI q38_104) (zcons (zqI q38_103) (zcons (zqI q38_102) (zcons (zqI q38_101) rfl))))))) ?_
        refine zv_eqS (τ := u2) (rfl) ?_
        exact ih ((x + 1, u2)) (⟨by show x + 1 ≤ S.tn i; omega, by show zRt u2 323 (imF U S i (x + 1)).1.1 (imF U S i (x + 1)).1.2; rw [hEx]; exact hA2, hB2⟩) (by show S.tn i - (x + 1) < S.tn i - x; omega)
      · skip
        have hokk := imW_ok hU hS hi (by omega) h62 hok k hJ
        have hnb7 := nwS_b hUu2 hSu2 hi (show x < S.tn i by omega) (show k + 1 = 1 ∨ k + 1 = 2 by omega) h62 hokk.1 S.n (Nat.le_refl _)
        refine zv_aload_n C 0 dX10_improve_65 rfl rfl ?_
        refine zv_iload_n C 1 dX10_improve_66 rfl rfl ?_
        refine zv_iload C 6 dX10_improve_67 rfl ?_
        refine zv_iload C 7 dX10_improve_69 rfl ?_
        refine zv_cvi (st := []) C (c_X10_nearerWheel hfl E u2 U S i x (k + 1) (imW U S i x (imF U S i x) k).1 hUu2 hSu2 hi (by omega) (by omega) h62 hA2 hokk.1) mX10_nearerWheel kX10_346 (by decide : kd 0 = 9) rfl rfl rfl ⟨rfl, rfl⟩ (show zfit (zrm 5 126) 9 (zrm 12 300) = true from rfl) (Nat.le_of_ble_eq_true rfl) dX10_improve_71 ⟨Nat.zero_le _, Nat.zero_le _⟩ (fun r71 τ71 hp71 => ?_)
        obtain ⟨he71, hz71, hf71⟩ := hp71
        refine zv_eqi (y := zI (nwS U S i x (k + 1) (imW U S i x (imF U S i x) k).1 S.n).2) he71 ?_
        refine zv_istore (lv' := [(8, .int (zI ((nwS U S i x (k + 1) (imW U S i x (imF U S i x) k).1 S.n).2))), (0, .ref (ob E 0)), (1, .int (zI (i : Int))), (2, .ref (ob E (34 + 4 + 2 * i))), (3, .int (zI ((imW U S i x (imF U S i x) k).2.1 : Int))), (4, .int (zI ((imW U S i x (imF U S i x) k).2.2.1 : Int))), (5, .int (zI ((imW U S i x (imF U S i x) k).2.2.2))), (6, .int (zI (x : Int))), (7, .int (zI ((k + 1 : Nat) : Int)))]) C dX10_improve_74  (by decide) rfl ?_
        refine zv_iload C 0 dX10_improve_76 rfl ?_
        refine zv_if_ltZ (tgt := 92) C (by omega) dX10_improve_78 (by decide) (fun h78 => ?_) (fun h78 => ?_)
        · skip
          refine zv_iinc (v := (zI (((k + 1 : Nat) : Int) + 1))) (lv' := [(7, .int (zI (((k + 1 : Nat) : Int) + 1))), (8, .int (zI ((nwS U S i x (k + 1) (imW U S i x (imF U S i x) k).1 S.n).2))), (0, .ref (ob E 0)), (1, .int (zI (i : Int))), (2, .ref (ob E (34 + 4 + 2 * i))), (3, .int (zI ((imW U S i x (imF U S i x) k).2.1 : Int))), (4, .int (zI ((imW U S i x (imF U S i x) k).2.2.1 : Int))), (5, .int (zI ((imW U S i x (imF U S i x) k).2.2.2))), (6, .int (zI (x : Int)))]) C 8 dX10_improve_92 rfl (zI_add _ _) (by decide) rfl ?_
          refine zv_goto (tgt := 50) C dX10_improve_95 (by decide) ?_
          have q50_124 : (((k + 1 : Nat) : Int) + 1 : Int) = (((k + 1) + 1 : Nat) : Int) := by first | rfl | omega
          have q50_125 : ((imW U S i x (imF U S i x) k).2.2.2 : Int) = (imW U S i x (imF U S i x) (k + 1)).2.2.2 := by first | (rw [imW, imS, if_pos (by omega)]) | (rw [imW, imS, if_neg (by omega)])
          have q50_126 : (((imW U S i x (imF U S i x) k).2.2.1 : Int) : Int) = ((imW U S i x (imF U S i x) (k + 1)).2.2.1 : Int) := by first | (rw [imW, imS, if_pos (by omega)]) | (rw [imW, imS, if_neg (by omega)])
          have q50_127 : (((imW U S i x (imF U S i x) k).2.1 : Int) : Int) = ((imW U S i x (imF U S i x) (k + 1)).2.1 : Int) := by first | (rw [imW, imS, if_pos (by omega)]) | (rw [imW, imS, if_neg (by omega)])
          refine zv_sub (lv' := [(0, .ref (ob E 0)), (1, .int (zI (i : Int))), (2, .ref (ob E (34 + 4 + 2 * i))), (3, .int (zI ((imW U S i x (imF U S i x) (k + 1)).2.1 : Int))), (4, .int (zI ((imW U S i x (imF U S i x) (k + 1)).2.2.1 : Int))), (5, .int (zI ((imW U S i x (imF U S i x) (k + 1)).2.2.2))), (6, .int (zI (x : Int))), (7, .int (zI (((k + 1) + 1 : Nat) : Int)))]) [2, 3, 4, 5, 6, 7, 8, 0] (zcons rfl (zcons rfl (zcons rfl (zcons (zqI q50_127) (zcons (zqI q50_126) (zcons (zqI q50_125) (zcons rfl (zcons (zqI q50_124) rfl)))))))) ?_
          refine zv_eqS (τ := τ71) (rfl) ?_
          exact ih50 ((k + 1, τ71)) (⟨by show k + 1 ≤ 2; omega, by show zRt τ71 323 (imW U S i x (imF U S i x) (k + 1)).1.1 (imW U S i x (imF U S i x) (k + 1)).1.2; rw [imW, imS_1]; exact hz71, zFr_trans hB2 hf71, fun z => absurd z h62⟩) (by show 2 - (k + 1) < 2 - k; omega)
        · skip
          refine zv_iload C 7 dX10_improve_81 rfl ?_
          refine zv_istore_n (lv' := [(3, .int (zI (x : Int))), (8, .int (zI ((nwS U S i x (k + 1) (imW U S i x (imF U S i x) k).1 S.n).2))), (0, .ref (ob E 0)), (1, .int (zI (i : Int))), (2, .ref (ob E (34 + 4 + 2 * i))), (4, .int (zI ((imW U S i x (imF U S i x) k).2.2.1 : Int))), (5, .int (zI ((imW U S i x (imF U S i x) k).2.2.2))), (6, .int (zI (x : Int))), (7, .int (zI ((k + 1 : Nat) : Int)))]) C dX10_improve_83 rfl (by decide) rfl ?_
          refine zv_iload C 8 dX10_improve_84 rfl ?_
          refine zv_istore (lv' := [(4, .int (zI ((k + 1 : Nat) : Int))), (3, .int (zI (x : Int))), (8, .int (zI ((nwS U S i x (k + 1) (imW U S i x (imF U S i x) k).1 S.n).2))), (0, .ref (ob E 0)), (1, .int (zI (i : Int))), (2, .ref (ob E (34 + 4 + 2 * i))), (5, .int (zI ((imW U S i x (imF U S i x) k).2.2.2))), (6, .int (zI (x : Int))), (7, .int (zI ((k + 1 : Nat) : Int)))]) C dX10_improve_86  (by decide) rfl ?_
          refine zv_iload C 2 dX10_improve_88 rfl ?_
          refine zv_istore (lv' := [(5, .int (zI ((nwS U S i x (k + 1) (imW U S i x (imF U S i x) k).1 S.n).2))), (4, .int (zI ((k + 1 : Nat) : Int))), (3, .int (zI (x : Int))), (8, .int (zI ((nwS U S i x (k + 1) (imW U S i x (imF U S i x) k).1 S.n).2))), (0, .ref (ob E 0)), (1, .int (zI (i : Int))), (2, .ref (ob E (34 + 4 + 2 * i))), (6, .int (zI (x : Int))), (7, .int (zI ((k + 1 : Nat) : Int)))]) C dX10_improve_90  (by decide) rfl ?_
          refine zv_iinc (v := (zI (((k + 1 : Nat) : Int) + 1))) (lv' := [(7, .int (zI (((k + 1 : Nat) : Int) + 1))), (5, .int (zI ((nwS U S i x (k + 1) (imW U S i x (imF U S i x) k).1 S.n).2))), (4, .int (zI ((k + 1 : Nat) : Int))), (3, .int (zI (x : Int))), (8, .int (zI ((nwS U S i x (k + 1) (imW U S i x (imF U S i x) k).1 S.n).2))), (0, .ref (ob E 0)), (1, .int (zI (i : Int))), (2, .ref (ob E (34 + 4 + 2 * i))), (6, .int (zI (x : Int)))]) C 8 dX10_improve_92 rfl (zI_add _ _) (by decide) rfl ?_
          refine zv_goto (tgt := 50) C dX10_improve_95 (by decide) ?_
          have q50_140 : (((k + 1 : Nat) : Int) + 1 : Int) = (((k + 1) + 1 : Nat) : Int) := by first | rfl | omega
          have q50_141 : ((nwS U S i x (k + 1) (imW U S i x (imF U S i x) k).1 S.n).2 : Int) = (imW U S i x (imF U S i x) (k + 1)).2.2.2 := by first | (rw [imW, imS, if_pos (by omega)]) | (rw [imW, imS, if_neg (by omega)])
          have q50_142 : (((k + 1 : Nat) : Int) : Int) = ((imW U S i x (imF U S i x) (k + 1)).2.2.1 : Int) := by first | (rw [imW, imS, if_pos (by omega)]) | (rw [imW, imS, if_neg (by omega)])
          have q50_143 : ((x : Int) : Int) = ((imW U S i x (imF U S i x) (k + 1)).2.1 : Int) := by first | (rw [imW, imS, if_pos (by omega)]) | (rw [imW, imS, if_neg (by omega)])
          refine zv_sub (lv' := [(0, .ref (ob E 0)), (1, .int (zI (i : Int))), (2, .ref (ob E (34 + 4 + 2 * i))), (3, .int (zI ((imW U S i x (imF U S i x) (k + 1)).2.1 : Int))), (4, .int (zI ((imW U S i x (imF U S i x) (k + 1)).2.2.1 : Int))), (5, .int (zI ((imW U S i x (imF U S i x) (k + 1)).2.2.2))), (6, .int (zI (x : Int))), (7, .int (zI (((k + 1) + 1 : Nat) : Int)))]) [5, 6, 7, 3, 2, 1, 8, 0] (zcons rfl (zcons rfl (zcons rfl (zcons (zqI q50_143) (zcons (zqI q50_142) (zcons (zqI q50_141) (zcons rfl (zcons (zqI q50_140) rfl)))))))) ?_
          refine zv_eqS (τ := τ71) (rfl) ?_
          exact ih50 ((k + 1, τ71)) (⟨by show k + 1 ≤ 2; omega, by show zRt τ71 323 (imW U S i x (imF U S i x) (k + 1)).1.1 (imW U S i x (imF U S i x) (k + 1)).1.2; rw [imW, imS_1]; exact hz71, zFr_trans hB2 hf71, fun z => absurd z h62⟩) (by show 2 - (k + 1) < 2 - k; omega)
set_option maxRecDepth 20000 in
theorem c_X10_improve {l : Launch} (hfl : l.stackTraces = false) (E : zE) (σ : zS) (ni : Nat) (tx : Nat → Int) (ec : Nat) (eo : Int) (U : zSU) (S : zST) (hh : List zST) (kp : Option zST) (ou : List Nat) (i : Nat) (h : zCP σ (zDv.mk ni tx ec eo U S hh kp ou)) (hi : i < U.nb) (hpos : 0 ≤ (imF U S i (S.tn i)).2.2.2) : zRi l E yX10_improve cX10_improve 9 .int (zrm 12 300) [.ref (ob E 0), .int (zI (i : Int))] σ (fun r τ => r = zI (imF U S i (S.tn i)).2.2.2 ∧ zCP τ ((zDv.mk ni tx ec eo U S hh kp ou).re.sS ((S.cel i (imF U S i (S.tn i)).2.1 (imF U S i (S.tn i)).2.2.1 (imF U S i (S.tn i)).2.2.2.toNat).fre i)) ∧ zFr 0 327 σ τ) := by
  refine Met.ofW (cc := cX10_improve) (maxL := 9) (ret := (some .int)) (by decide +kernel) rfl ?_
  intro p e s m args below meth c s₁ B hml hv
  obtain ⟨rfl, hd⟩ := hv
  have C := zX_of (own := RX10) hfl B hml rfl hd rfl
  have hr := B.returns
  refine zV_go hd (Nat.le_of_ble_eq_true rfl) (lv := [(0, .ref (ob E 0)), (1, .int (zI (i : Int)))]) rfl ?_
  have hU : zSUp σ 29 U := h.2.2.1
  have hS : zSTp σ 34 S := h.2.2.2.1.1
  have hq9 : zSTq S := h.2.2.2.1.2
  have hnb : U.nb ≤ 8 := hU.2.2.1
  have hs0 := hU.2.2.2.1
  have hi8 : i < 8 := by omega
  have hki : kd (34 + 4 + 2 * i) = 8 := ((zst (show kd 34 = 6 by decide)).2.2.2 i hi8).1
  have hT := (hS.2.2.2.2.2.2 i hi8).1
  have hTw := (hS.2.2.2.2.2.2 i hi8).2
  have ht4 := hT.2.1
  
  refine zv_aload_n C 0 dX10_improve_0 rfl rfl ?_
  refine zv_iload_n C 1 dX10_improve_1 rfl rfl ?_
  refine zv_cvvD (st := []) C (c_X10_needBody hfl E σ U (i : Int) hU (by omega) (by omega)) mX10_needBody kX10_140 (by decide : kd 0 = 9) rfl rfl rfl ⟨rfl, rfl⟩ (show zfit (zrm 0 0) 2 (zrm 12 300) = true from rfl) (Nat.le_of_ble_eq_true rfl) dX10_improve_2 ⟨Nat.zero_le _, Nat.zero_le _⟩ ?_
  refine zv_aload_n C 0 dX10_improve_5 rfl rfl ?_
  refine zG9_2 C (by decide : kd 0 = _) kX10_26 dX10_improve_6 ?_
  refine zG6_5 C (by decide : kd 34 = _) kX10_154 dX10_improve_9 ?_
  refine zv_iload_n C 1 dX10_improve_12 rfl rfl ?_
  refine zv_tald (j := i) C (by decide : kd 37 = _) (zI_ix (by omega)) (Nat.lt_of_lt_of_eq (show i < 8 by omega) (by decide)) dX10_improve_13 ?_
  refine zv_astore_n (lv' := [(2, .ref (ob E (34 + 4 + 2 * i))), (0, .ref (ob E 0)), (1, .int (zI (i : Int)))]) C dX10_improve_14 rfl (by decide) rfl ?_
  refine zv_aload_n C 1 dX10_improve_15 rfl rfl ?_
  refine zG9_9 C (by decide : kd 0 = _) kX10_64 dX10_improve_16 ?_
  refine zv_aload_n C 1 dX10_improve_19 rfl rfl ?_
  refine zv_iload_n C 2 dX10_improve_20 rfl rfl ?_
  refine zv_cvrD (st := [.ref (ob E 323)]) C (c_X10_driftOf hfl E σ U S i hU hS hi) mX10_driftOf kX10_210 (by decide : kd 0 = 9) rfl rfl rfl ⟨rfl, rfl⟩ (show zfit (zrm 4 105) 2 (zrm 12 300) = true from rfl) (Nat.le_of_ble_eq_true rfl) dX10_improve_21 ⟨Nat.zero_le _, Nat.zero_le _⟩ ?_
  refine zv_cvvD (st := []) C (c_X3_copyFrom hfl E (rW σ 322 (qDrift U S i).1 (qDrift U S i).2) 323 322 (by decide) (by decide)) mX3_copyFrom kX10_343 (by decide : kd 323 = 3) rfl rfl rfl ⟨rfl, rfl⟩ (show zfit (zrm 0 0) 2 (zrm 12 300) = true from rfl) (Nat.le_of_ble_eq_true rfl) dX10_improve_24 ⟨Nat.zero_le _, Nat.zero_le _⟩ ?_
  refine zv_eqS (τ := (rW (rW σ 322 (qDrift U S i).1 (qDrift U S i).2) 323 (qDrift U S i).1 (qDrift U S i).2)) (by show sJ (sJ (rW σ 322 (qDrift U S i).1 (qDrift U S i).2) 323 0 (gJ (rW σ 322 (qDrift U S i).1 (qDrift U S i).2) 322 0)) 323 1 (gJ (rW σ 322 (qDrift U S i).1 (qDrift U S i).2) 322 1) = _; rw [(rW_R _ 322 _ _).1, (rW_R _ 322 _ _).2]; rfl) ?_
  refine zv_iconst (v := zI 0) C dX10_improve_27 rfl ?_
  refine zv_istore_n (lv' := [(3, .int (zI 0)), (2, .ref (ob E (34 + 4 + 2 * i))), (0, .ref (ob E 0)), (1, .int (zI (i : Int)))]) C dX10_improve_28 rfl (by decide) rfl ?_
  refine zv_iconst (v := zI 0) C dX10_improve_29 rfl ?_
  refine zv_istore (lv' := [(4, .int (zI 0)), (3, .int (zI 0)), (2, .ref (ob E (34 + 4 + 2 * i))), (0, .ref (ob E 0)), (1, .int (zI (i : Int)))]) C dX10_improve_30  (by decide) rfl ?_
  refine zv_iconst (v := zI (-1)) C dX10_improve_32 rfl ?_
  refine zv_istore (lv' := [(5, .int (zI (-1))), (4, .int (zI 0)), (3, .int (zI 0)), (2, .ref (ob E (34 + 4 + 2 * i))), (0, .ref (ob E 0)), (1, .int (zI (i : Int)))]) C dX10_improve_33  (by decide) rfl ?_
  refine zv_iconst (v := zI 0) C dX10_improve_35 rfl ?_
  refine zv_istore (lv' := [(6, .int (zI 0)), (5, .int (zI (-1))), (4, .int (zI 0)), (3, .int (zI 0)), (2, .ref (ob E (34 + 4 + 2 * i))), (0, .ref (ob E 0)), (1, .int (zI (i : Int)))]) C dX10_improve_36  (by decide) rfl ?_
  have q38_35 : (0 : Int) = (0 : Int) := by first | rfl | omega
  have q38_36 : ((-1) : Int) = (imF U S i 0).2.2.2 := by first | rfl | omega
  have q38_37 : (0 : Int) = ((imF U S i 0).2.2.1 : Int) := by first | rfl | omega
  have q38_38 : (0 : Int) = ((imF U S i 0).2.1 : Int) := by first | rfl | omega
  refine zv_sub (lv' := [(0, .ref (ob E 0)), (1, .int (zI (i : Int))), (2, .ref (ob E (34 + 4 + 2 * i))), (3, .int (zI ((imF U S i 0).2.1 : Int))), (4, .int (zI ((imF U S i 0).2.2.1 : Int))), (5, .int (zI ((imF U S i 0).2.2.2))), (6, .int (zI (0 : Int)))]) [5, 6, 4, 3, 2, 1, 0] (zcons rfl (zcons rfl (zcons rfl (zcons (zqI q38_38) (zcons (zqI q38_37) (zcons (zqI q38_36) (zcons (zqI q38_35) rfl))))))) ?_
  refine zv_eqS (τ := (rW (rW σ 322 (qDrift U S i).1 (qDrift U S i).2) 323 (qDrift U S i).1 (qDrift U S i).2)) (rfl) ?_
  refine zv_while (α := Nat × zS) (fun v => S.tn i - v.1) (fun v => v.1 ≤ S.tn i ∧ zRt v.2 323 (imF U S i v.1).1.1 (imF U S i v.1).1.2 ∧ zFr 318 327 σ v.2) (fun v => v.2) (fun v => [(0, .ref (ob E 0)), (1, .int (zI (i : Int))), (2, .ref (ob E (34 + 4 + 2 * i))), (3, .int (zI ((imF U S i v.1).2.1 : Int))), (4, .int (zI ((imF U S i v.1).2.2.1 : Int))), (5, .int (zI ((imF U S i v.1).2.2.2))), (6, .int (zI (v.1 : Int)))]) (fun v => []) (fun v hI ih => ?_) ((0, (rW (rW σ 322 (qDrift U S i).1 (qDrift U S i).2) 323 (qDrift U S i).1 (qDrift U S i).2))) (⟨Nat.zero_le _, rW_R _ _ _ _, zFr_rW (zFr_rW (zFr_refl _ _ _) (by omega)) (by omega)⟩)
  obtain ⟨x, u⟩ := v
  dsimp only at hI ih ⊢
  obtain ⟨hI, hA, hB⟩ := hI
  have hUu := zFr_U hU hB
  have hSu := zFr_S hS hB
  have hTu := (hSu.2.2.2.2.2.2 i hi8).1
  have hok := imF_ok hU hS hi x hI
  have hokb := hok.2.1
  refine zv_iload C 6 dX10_improve_38 rfl ?_
  refine zv_aload_n C 2 dX10_improve_40 rfl rfl ?_
  refine zG8_1 C hki kX10_158 dX10_improve_41 ?_
  refine zv_eqi (y := (zI (S.tn i : Int))) (hTu.1) ?_
  refine zv_icmp_geZ (tgt := 104) C (by omega) (by omega) dX10_improve_44 (by decide) (fun h44 => ?_) (fun h44 => ?_)
  · skip
    refine zv_iload C 5 dX10_improve_104 rfl ?_
    refine zv_if_geZ (tgt := 111) C (by omega) dX10_improve_106 (by decide) (fun h106 => ?_) (fun h106 => ?_)
    · skip
      have hxe : S.tn i = x := by omega
      rw [hxe] at hpos
      obtain ⟨hok1, hok2, hok3⟩ := hok
      obtain ⟨hp1, hp2, hp3, hp4⟩ := hok3 (by omega)
      have h9 : zCP u (zDv.mk ni tx ec eo U S hh kp ou) := zCP_f h hB
      obtain ⟨q, hq12, hq1, hq2, hq3, hq4⟩ := h9.2.2.2.2.1
      have hq2 : gI u 54 2 = zI (hh.length : Int) := hq2
      have hq3 : hh.length ≤ 12 := hq3
      have hRe : zCP (hRem u 34 q hh.length) (zDv.mk ni tx ec eo U S hh kp ou).re := zCP_re h9 hq12 hq1 hq3 hq4
      have hSR : zSTp (hRem u 34 q hh.length) 34 S := hRe.2.2.2.1.1
      have htn : (((imF U S i x).2.2.2.toNat : Nat) : Int) = (imF U S i x).2.2.2 := by omega
      refine zv_aload_n C 0 dX10_improve_111 rfl rfl ?_
      refine zG9_3 C (by decide : kd 0 = _) kX10_33 dX10_improve_112 ?_
      refine zv_aload_n C 0 dX10_improve_115 rfl rfl ?_
      refine zG9_2 C (by decide : kd 0 = _) kX10_26 dX10_improve_116 ?_
      refine zv_cvvD (st := []) C (c_X1_remember hfl E u 34 q hh.length (by decide) (by decide) hq1 hq12 hq2 hq3) mX1_remember kX10_304 (by decide : kd 54 = 1) rfl rfl rfl ⟨rfl, rfl⟩ (show zfit (zrm 3 103) 2 (zrm 12 300) = true from rfl) (Nat.le_of_ble_eq_true rfl) dX10_improve_119 ⟨Nat.zero_le _, Nat.zero_le _⟩ ?_
      refine zv_aload_n C 2 dX10_improve_122 rfl rfl ?_
      refine zv_iload_n C 3 dX10_improve_123 rfl rfl ?_
      refine zv_iload C 4 dX10_improve_124 rfl ?_
      refine zv_iload C 5 dX10_improve_126 rfl ?_
      refine zv_cvvD (st := []) C (c_X8_putCell hfl E (hRem u 34 q hh.length) (34 + 4 + 2 * i) (imF U S i x).2.1 (imF U S i x).2.2.1 (zI (imF U S i x).2.2.2) hki (by omega) (by omega)) mX8_putCell kX10_350 hki rfl rfl rfl ⟨rfl, rfl⟩ (show zfit (zrm 0 0) 5 (zrm 12 300) = true from rfl) (Nat.le_of_ble_eq_true rfl) dX10_improve_128 ⟨Nat.zero_le _, Nat.zero_le _⟩ ?_
      refine zv_aload_n C 0 dX10_improve_131 rfl rfl ?_
      refine zG9_2 C (by decide : kd 0 = _) kX10_26 dX10_improve_132 ?_
      refine zG6_4 C (by decide : kd 34 = _) kX10_310 dX10_improve_135 ?_
      refine zv_iload_n C 1 dX10_improve_138 rfl rfl ?_
      refine zv_iconst (v := zI 0) C dX10_improve_139 rfl ?_
      refine zv_iast (j := i) C (by decide : kd 36 = _) (zI_ix (by omega)) (Nat.lt_of_lt_of_eq (show i < 8 by omega) (by decide)) dX10_improve_140 ?_
      refine zv_iload C 5 dX10_improve_141 rfl ?_
      exact zv_iret C hr rfl dX10_improve_143 (by rw [hxe]; exact ⟨rfl, (fun z : zCP _ _ ∧ zFr 0 327 u _ => ⟨z.1, zFr_trans (zFr_mono hB (by decide) (by decide)) z.2⟩) (zCP_chg hRe (zSTp_fre (zSTp_cel hSR hi8 hp1 hp2 hp3 (by omega) (by rw [gI_sI, if_pos ⟨rfl, rfl⟩, htn]) (fun a b _ _ z => by rw [gI_sI, if_neg z]))) (zSTq_fre (zSTq_e hq9 rfl rfl) i) (zFr_I (zFr_I (zFr_refl _ _ _) (by omega)) (by omega)))⟩)
    · exfalso
      rw [← show x = S.tn i by omega] at hpos; omega
  · skip
    refine zv_iconst (v := zI 1) C dX10_improve_47 rfl ?_
    refine zv_istore (lv' := [(7, .int (zI 1)), (0, .ref (ob E 0)), (1, .int (zI (i : Int))), (2, .ref (ob E (34 + 4 + 2 * i))), (3, .int (zI ((imF U S i x).2.1 : Int))), (4, .int (zI ((imF U S i x).2.2.1 : Int))), (5, .int (zI ((imF U S i x).2.2.2))), (6, .int (zI (x : Int)))]) C dX10_improve_48  (by decide) rfl ?_
    have q50_93 : (1 : Int) = ((0 + 1 : Nat) : Int) := by first | rfl | omega
    have q50_94 : ((imF U S i x).2.2.2 : Int) = (imW U S i x (imF U S i x) 0).2.2.2 := by rfl
    have q50_95 : (((imF U S i x).2.2.1 : Int) : Int) = ((imW U S i x (imF U S i x) 0).2.2.1 : Int) := by rfl
    have q50_96 : (((imF U S i x).2.1 : Int) : Int) = ((imW U S i x (imF U S i x) 0).2.1 : Int) := by rfl
    refine zv_sub (lv' := [(0, .ref (ob E 0)), (1, .int (zI (i : Int))), (2, .ref (ob E (34 + 4 + 2 * i))), (3, .int (zI ((imW U S i x (imF U S i x) 0).2.1 : Int))), (4, .int (zI ((imW U S i x (imF U S i x) 0).2.2.1 : Int))), (5, .int (zI ((imW U S i x (imF U S i x) 0).2.2.2))), (6, .int (zI (x : Int))), (7, .int (zI ((0 + 1 : Nat) : Int)))]) [1, 2, 3, 4, 5, 6, 7, 0] (zcons rfl (zcons rfl (zcons rfl (zcons (zqI q50_96) (zcons (zqI q50_95) (zcons (zqI q50_94) (zcons rfl (zcons (zqI q50_93) rfl)))))))) ?_
    refine zv_eqS (τ := u) (rfl) ?_
    refine zv_while (α := Nat × zS) (fun v => 2 - v.1) (fun v => v.1 ≤ 2 ∧ zRt v.2 323 (imW U S i x (imF U S i x) v.1).1.1 (imW U S i x (imF U S i x) v.1).1.2 ∧ zFr 318 327 σ v.2 ∧ (S.tr i x 0 = 2 → v.1 = 0)) (fun v => v.2) (fun v => [(0, .ref (ob E 0)), (1, .int (zI (i : Int))), (2, .ref (ob E (34 + 4 + 2 * i))), (3, .int (zI ((imW U S i x (imF U S i x) v.1).2.1 : Int))), (4, .int (zI ((imW U S i x (imF U S i x) v.1).2.2.1 : Int))), (5, .int (zI ((imW U S i x (imF U S i x) v.1).2.2.2))), (6, .int (zI (x : Int))), (7, .int (zI ((v.1 + 1 : Nat) : Int)))]) (fun v => []) (fun v hI ih50 => ?_) ((0, u)) (⟨Nat.zero_le _, hA, hB, fun _ => rfl⟩)
    obtain ⟨k, u2⟩ := v
    dsimp only at hI ih50 ⊢
    obtain ⟨hJ, hA2, hB2, hC2⟩ := hI
    have hUu2 := zFr_U hU hB2
    have hSu2 := zFr_S hS hB2
    have hTu2 := (hSu2.2.2.2.2.2.2 i hi8).1
    refine zv_iload C 7 dX10_improve_50 rfl ?_
    refine zv_iconst (v := zI 2) C dX10_improve_52 rfl ?_
    refine zv_icmp_gtZ (tgt := 98) C (by omega) (by omega) dX10_improve_53 (by decide) (fun h53 => ?_) (fun h53 => ?_)
    · skip
      have hEx : imF U S i (x + 1) = imW U S i x (imF U S i x) k := by rw [imF, if_neg (fun z => by have := hC2 z; omega), show k = 2 by omega]
      refine zv_iinc (v := (zI ((x : Int) + 1))) (lv' := [(6, .int (zI ((x : Int) + 1))), (0, .ref (ob E 0)), (1, .int (zI (i : Int))), (2, .ref (ob E (34 + 4 + 2 * i))), (3, .int (zI ((imW U S i x (imF U S i x) k).2.1 : Int))), (4, .int (zI ((imW U S i x (imF U S i x) k).2.2.1 : Int))), (5, .int (zI ((imW U S i x (imF U S i x) k).2.2.2))), (7, .int (zI ((k + 1 : Nat) : Int)))]) C 6 dX10_improve_98 rfl (zI_add _ _) (by decide) rfl ?_
      refine zv_goto (tgt := 38) C dX10_improve_101 (by decide) ?_
      have q38_113 : ((x : Int) + 1 : Int) = ((x + 1 : Nat) : Int) := by first | rfl | omega
      have q38_114 : ((imW U S i x (imF U S i x) k).2.2.2 : Int) = (imF U S i (x + 1)).2.2.2 := by rw [hEx]
      have q38_115 : (((imW U S i x (imF U S i x) k).2.2.1 : Int) : Int) = ((imF U S i (x + 1)).2.2.1 : Int) := by rw [hEx]
      have q38_116 : (((imW U S i x (imF U S i x) k).2.1 : Int) : Int) = ((imF U S i (x + 1)).2.1 : Int) := by rw [hEx]
      refine zv_sub (lv' := [(0, .ref (ob E 0)), (1, .int (zI (i : Int))), (2, .ref (ob E (34 + 4 + 2 * i))), (3, .int (zI ((imF U S i (x + 1)).2.1 : Int))), (4, .int (zI ((imF U S i (x + 1)).2.2.1 : Int))), (5, .int (zI ((imF U S i (x + 1)).2.2.2))), (6, .int (zI ((x + 1 : Nat) : Int)))]) [1, 2, 3, 4, 5, 6, 0] (zcons rfl (zcons rfl (zcons rfl (zcons (zqI q38_116) (zcons (zqI q38_115) (zcons (zqI q38_114) (zcons (zqI q38_113) rfl))))))) ?_
      refine zv_eqS (τ := u2) (rfl) ?_
      exact ih ((x + 1, u2)) (⟨by show x + 1 ≤ S.tn i; omega, by show zRt u2 323 (imF U S i (x + 1)).1.1 (imF U S i (x + 1)).1.2; rw [hEx]; exact hA2, hB2⟩) (by show S.tn i - (x + 1) < S.tn i - x; omega)
    · skip
      refine zv_aload_n C 2 dX10_improve_56 rfl rfl ?_
      refine zv_iload C 6 dX10_improve_57 rfl ?_
      refine zv_cviD (st := []) C (c_X8_isGeared hfl E u2 (34 + 4 + 2 * i) (S.tn i) (S.tr i) x hki hTu2 (by omega)) mX8_isGeared kX10_293 hki rfl rfl rfl ⟨rfl, rfl⟩ (show zfit (zrm 1 23) 2 (zrm 12 300) = true from rfl) (Nat.le_of_ble_eq_true rfl) dX10_improve_59 ⟨Nat.zero_le _, Nat.zero_le _⟩ ?_
      refine zv_if_eqB (tgt := 98) C dX10_improve_62 (by decide) (fun h62 => ?_) (fun h62 => ?_)
      · skip
        have h2 : S.tr i x 0 = 2 := Decidable.not_not.mp h62
        have hEx : imF U S i (x + 1) = imW U S i x (imF U S i x) k := by rw [imF, if_pos h2, hC2 h2]; rfl
        refine zv_iinc (v := (zI ((x : Int) + 1))) (lv' := [(6, .int (zI ((x : Int) + 1))), (0, .ref (ob E 0)), (1, .int (zI (i : Int))), (2, .ref (ob E (34 + 4 + 2 * i))), (3, .int (zI ((imW U S i x (imF U S i x) k).2.1 : Int))), (4, .int (zI ((imW U S i x (imF U S i x) k).2.2.1 : Int))), (5, .int (zI ((imW U S i x (imF U S i x) k).2.2.2))), (7, .int (zI ((k + 1 : Nat) : Int)))]) C 6 dX10_improve_98 rfl (zI_add _ _) (by decide) rfl ?_
        refine zv_goto (tgt := 38) C dX10_improve_101 (by decide) ?_
        have q38_130 : ((x : Int) + 1 : Int) = ((x + 1 : Nat) : Int) := by first | rfl | omega
        have q38_131 : ((imW U S i x (imF U S i x) k).2.2.2 : Int) = (imF U S i (x + 1)).2.2.2 := by rw [hEx]
        have q38_132 : (((imW U S i x (imF U S i x) k).2.2.1 : Int) : Int) = ((imF U S i (x + 1)).2.2.1 : Int) := by rw [hEx]
        have q38_133 : (((imW U S i x (imF U S i x) k).2.1 : Int) : Int) = ((imF U S i (x + 1)).2.1 : Int) := by rw [hEx]
        refine zv_sub (lv' := [(0, .ref (ob E 0)), (1, .int (zI (i : Int))), (2, .ref (ob E (34 + 4 + 2 * i))), (3, .int (zI ((imF U S i (x + 1)).2.1 : Int))), (4, .int (zI ((imF U S i (x + 1)).2.2.1 : Int))), (5, .int (zI ((imF U S i (x + 1)).2.2.2))), (6, .int (zI ((x + 1 : Nat) : Int)))]) [1, 2, 3, 4, 5, 6, 0] (zcons rfl (zcons rfl (zcons rfl (zcons (zqI q38_133) (zcons (zqI q38_132) (zcons (zqI q38_131) (zcons (zqI q38_130) rfl))))))) ?_
        refine zv_eqS (τ := u2) (rfl) ?_
        exact ih ((x + 1, u2)) (⟨by show x + 1 ≤ S.tn i; omega, by show zRt u2 323 (imF U S i (x + 1)).1.1 (imF U S i (x + 1)).1.2; rw [hEx]; exact hA2, hB2⟩) (by show S.tn i - (x + 1) < S.tn i - x; omega)
      · skip
        have hokk := imW_ok hU hS hi (by omega) h62 hok k hJ
        have hnb7 := nwS_b hUu2 hSu2 hi (show x < S.tn i by omega) (show k + 1 = 1 ∨ k + 1 = 2 by omega) h62 hokk.1 S.n (Nat.le_refl _)
        refine zv_aload_n C 0 dX10_improve_65 rfl rfl ?_
        refine zv_iload_n C 1 dX10_improve_66 rfl rfl ?_
        refine zv_iload C 6 dX10_improve_67 rfl ?_
        refine zv_iload C 7 dX10_improve_69 rfl ?_
        refine zv_cvi (st := []) C (c_X10_nearerWheel hfl E u2 U S i x (k + 1) (imW U S i x (imF U S i x) k).1 hUu2 hSu2 hi (by omega) (by omega) h62 hA2 hokk.1) mX10_nearerWheel kX10_346 (by decide : kd 0 = 9) rfl rfl rfl ⟨rfl, rfl⟩ (show zfit (zrm 5 126) 9 (zrm 12 300) = true from rfl) (Nat.le_of_ble_eq_true rfl) dX10_improve_71 ⟨Nat.zero_le _, Nat.zero_le _⟩ (fun r71 τ71 hp71 => ?_)
        obtain ⟨he71, hz71, hf71⟩ := hp71
        refine zv_eqi (y := zI (nwS U S i x (k + 1) (imW U S i x (imF U S i x) k).1 S.n).2) he71 ?_
        refine zv_istore (lv' := [(8, .int (zI ((nwS U S i x (k + 1) (imW U S i x (imF U S i x) k).1 S.n).2))), (0, .ref (ob E 0)), (1, .int (zI (i : Int))), (2, .ref (ob E (34 + 4 + 2 * i))), (3, .int (zI ((imW U S i x (imF U S i x) k).2.1 : Int))), (4, .int (zI ((imW U S i x (imF U S i x) k).2.2.1 : Int))), (5, .int (zI ((imW U S i x (imF U S i x) k).2.2.2))), (6, .int (zI (x : Int))), (7, .int (zI ((k + 1 : Nat) : Int)))]) C dX10_improve_74  (by decide) rfl ?_
        refine zv_iload C 0 dX10_improve_76 rfl ?_
        refine zv_if_ltZ (tgt := 92) C (by omega) dX10_improve_78 (by decide) (fun h78 => ?_) (fun h78 => ?_)
        · skip
          refine zv_iinc (v := (zI (((k + 1 : Nat) : Int) + 1))) (lv' := [(7, .int (zI (((k + 1 : Nat) : Int) + 1))), (8, .int (zI ((nwS U S i x (k + 1) (imW U S i x (imF U S i x) k).1 S.n).2))), (0, .ref (ob E 0)), (1, .int (zI (i : Int))), (2, .ref (ob E (34 + 4 + 2 * i))), (3, .int (zI ((imW U S i x (imF U S i x) k).2.1 : Int))), (4, .int (zI ((imW U S i x (imF U S i x) k).2.2.1 : Int))), (5, .int (zI ((imW U S i x (imF U S i x) k).2.2.2))), (6, .int (zI (x : Int)))]) C 8 dX10_improve_92 rfl (zI_add _ _) (by decide) rfl ?_
          refine zv_goto (tgt := 50) C dX10_improve_95 (by decide) ?_
          have q50_153 : (((k + 1 : Nat) : Int) + 1 : Int) = (((k + 1) + 1 : Nat) : Int) := by first | rfl | omega
          have q50_154 : ((imW U S i x (imF U S i x) k).2.2.2 : Int) = (imW U S i x (imF U S i x) (k + 1)).2.2.2 := by first | (rw [imW, imS, if_pos (by omega)]) | (rw [imW, imS, if_neg (by omega)])
          have q50_155 : (((imW U S i x (imF U S i x) k).2.2.1 : Int) : Int) = ((imW U S i x (imF U S i x) (k + 1)).2.2.1 : Int) := by first | (rw [imW, imS, if_pos (by omega)]) | (rw [imW, imS, if_neg (by omega)])
          have q50_156 : (((imW U S i x (imF U S i x) k).2.1 : Int) : Int) = ((imW U S i x (imF U S i x) (k + 1)).2.1 : Int) := by first | (rw [imW, imS, if_pos (by omega)]) | (rw [imW, imS, if_neg (by omega)])
          refine zv_sub (lv' := [(0, .ref (ob E 0)), (1, .int (zI (i : Int))), (2, .ref (ob E (34 + 4 + 2 * i))), (3, .int (zI ((imW U S i x (imF U S i x) (k + 1)).2.1 : Int))), (4, .int (zI ((imW U S i x (imF U S i x) (k + 1)).2.2.1 : Int))), (5, .int (zI ((imW U S i x (imF U S i x) (k + 1)).2.2.2))), (6, .int (zI (x : Int))), (7, .int (zI (((k + 1) + 1 : Nat) : Int)))]) [2, 3, 4, 5, 6, 7, 8, 0] (zcons rfl (zcons rfl (zcons rfl (zcons (zqI q50_156) (zcons (zqI q50_155) (zcons (zqI q50_154) (zcons rfl (zcons (zqI q50_153) rfl)))))))) ?_
          refine zv_eqS (τ := τ71) (rfl) ?_
          exact ih50 ((k + 1, τ71)) (⟨by show k + 1 ≤ 2; omega, by show zRt τ71 323 (imW U S i x (imF U S i x) (k + 1)).1.1 (imW U S i x (imF U S i x) (k + 1)).1.2; rw [imW, imS_1]; exact hz71, zFr_trans hB2 hf71, fun z => absurd z h62⟩) (by show 2 - (k + 1) < 2 - k; omega)
        · skip
          refine zv_iload C 7 dX10_improve_81 rfl ?_
          refine zv_istore_n (lv' := [(3, .int (zI (x : Int))), (8, .int (zI ((nwS U S i x (k + 1) (imW U S i x (imF U S i x) k).1 S.n).2))), (0, .ref (ob E 0)), (1, .int (zI (i : Int))), (2, .ref (ob E (34 + 4 + 2 * i))), (4, .int (zI ((imW U S i x (imF U S i x) k).2.2.1 : Int))), (5, .int (zI ((imW U S i x (imF U S i x) k).2.2.2))), (6, .int (zI (x : Int))), (7, .int (zI ((k + 1 : Nat) : Int)))]) C dX10_improve_83 rfl (by decide) rfl ?_
          refine zv_iload C 8 dX10_improve_84 rfl ?_
          refine zv_istore (lv' := [(4, .int (zI ((k + 1 : Nat) : Int))), (3, .int (zI (x : Int))), (8, .int (zI ((nwS U S i x (k + 1) (imW U S i x (imF U S i x) k).1 S.n).2))), (0, .ref (ob E 0)), (1, .int (zI (i : Int))), (2, .ref (ob E (34 + 4 + 2 * i))), (5, .int (zI ((imW U S i x (imF U S i x) k).2.2.2))), (6, .int (zI (x : Int))), (7, .int (zI ((k + 1 : Nat) : Int)))]) C dX10_improve_86  (by decide) rfl ?_
          refine zv_iload C 2 dX10_improve_88 rfl ?_
          refine zv_istore (lv' := [(5, .int (zI ((nwS U S i x (k + 1) (imW U S i x (imF U S i x) k).1 S.n).2))), (4, .int (zI ((k + 1 : Nat) : Int))), (3, .int (zI (x : Int))), (8, .int (zI ((nwS U S i x (k + 1) (imW U S i x (imF U S i x) k).1 S.n).2))), (0, .ref (ob E 0)), (1, .int (zI (i : Int))), (2, .ref (ob E (34 + 4 + 2 * i))), (6, .int (zI (x : Int))), (7, .int (zI ((k + 1 : Nat) : Int)))]) C dX10_improve_90  (by decide) rfl ?_
          refine zv_iinc (v := (zI (((k + 1 : Nat) : Int) + 1))) (lv' := [(7, .int (zI (((k + 1 : Nat) : Int) + 1))), (5, .int (zI ((nwS U S i x (k + 1) (imW U S i x (imF U S i x) k).1 S.n).2))), (4, .int (zI ((k + 1 : Nat) : Int))), (3, .int (zI (x : Int))), (8, .int (zI ((nwS U S i x (k + 1) (imW U S i x (imF U S i x) k).1 S.n).2))), (0, .ref (ob E 0)), (1, .int (zI (i : Int))), (2, .ref (ob E (34 + 4 + 2 * i))), (6, .int (zI (x : Int)))]) C 8 dX10_improve_92 rfl (zI_add _ _) (by decide) rfl ?_
          refine zv_goto (tgt := 50) C dX10_improve_95 (by decide) ?_
          have q50_169 : (((k + 1 : Nat) : Int) + 1 : Int) = (((k + 1) + 1 : Nat) : Int) := by first | rfl | omega
          have q50_170 : ((nwS U S i x (k + 1) (imW U S i x (imF U S i x) k).1 S.n).2 : Int) = (imW U S i x (imF U S i x) (k + 1)).2.2.2 := by first | (rw [imW, imS, if_pos (by omega)]) | (rw [imW, imS, if_neg (by omega)])
          have q50_171 : (((k + 1 : Nat) : Int) : Int) = ((imW U S i x (imF U S i x) (k + 1)).2.2.1 : Int) := by first | (rw [imW, imS, if_pos (by omega)]) | (rw [imW, imS, if_neg (by omega)])
          have q50_172 : ((x : Int) : Int) = ((imW U S i x (imF U S i x) (k + 1)).2.1 : Int) := by first | (rw [imW, imS, if_pos (by omega)]) | (rw [imW, imS, if_neg (by omega)])
          refine zv_sub (lv' := [(0, .ref (ob E 0)), (1, .int (zI (i : Int))), (2, .ref (ob E (34 + 4 + 2 * i))), (3, .int (zI ((imW U S i x (imF U S i x) (k + 1)).2.1 : Int))), (4, .int (zI ((imW U S i x (imF U S i x) (k + 1)).2.2.1 : Int))), (5, .int (zI ((imW U S i x (imF U S i x) (k + 1)).2.2.2))), (6, .int (zI (x : Int))), (7, .int (zI (((k + 1) + 1 : Nat) : Int)))]) [5, 6, 7, 3, 2, 1, 8, 0] (zcons rfl (zcons rfl (zcons rfl (zcons (zqI q50_172) (zcons (zqI q50_171) (zcons (zqI q50_170) (zcons rfl (zcons (zqI q50_169) rfl)))))))) ?_
          refine zv_eqS (τ := τ71) (rfl) ?_
          exact ih50 ((k + 1, τ71)) (⟨by show k + 1 ≤ 2; omega, by show zRt τ71 323 (imW U S i x (imF U S i x) (k + 1)).1.1 (imW U S i x (imF U S i x) (k + 1)).1.2; rw [imW, imS_1]; exact hz71, zFr_trans hB2 hf71, fun z => absurd z h62⟩) (by show 2 - (k + 1) < 2 - k; omega)
set_option maxRecDepth 20000 in
theorem x1_X10_improve {l : Launch} (hfl : l.stackTraces = false) (E : zE) (σ : zS) (U : zSU) (b : Int) (hU : zSUp σ 29 U) (hbi : -2147483648 ≤ b ∧ b < 2147483648) (hno : ¬ (0 ≤ b ∧ b < U.nb)) : zRx l E yX10_improve cX10_improve 9 (some .int) (zrx 9 200) [.ref (ob E 0), .int (zI b)] σ "java/lang/IndexOutOfBoundsException" := by
  refine vx_ofW (cc := cX10_improve) (maxL := 9) (ret := (some .int)) (by decide) rfl ?_
  intro p e s m args below meth c s₁ B hml hout hv
  obtain ⟨rfl, hd⟩ := hv
  have C := zX_of (own := RX10) hfl B hml rfl hd rfl
  have hr := B.returns
  refine zV_go hd (Nat.le_of_ble_eq_true rfl) (lv := [(0, .ref (ob E 0)), (1, .int (zI b))]) rfl ?_
  have hnb : U.nb ≤ 8 := hU.2.2.1
  have hs0 := hU.2.2.2.1
  
  refine zv_aload_n C 0 dX10_improve_0 rfl rfl ?_
  refine zv_iload_n C 1 dX10_improve_1 rfl rfl ?_
  exact zv_xcv (st := []) C (x_X10_needBody hfl E σ U b hU hbi hno) hout mX10_needBody kX10_140 (by decide : kd 0 = 9) rfl rfl rfl ⟨rfl, rfl⟩ (show zfit (zrx 6 100) 2 (zrx 9 200) = true from rfl) (Nat.le_of_ble_eq_true rfl) dX10_improve_2
