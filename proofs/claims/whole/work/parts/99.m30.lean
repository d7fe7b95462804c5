/-! improving, in the reference -/
def imP (U : zSU) (S : zST) (i x w : Nat) (a : zIm) (n : Nat) : zIm := if 0 ≤ (nwS U S i x w a.1 n).2 then ((nwS U S i x w a.1 n).1, x, w, (nwS U S i x w a.1 n).2) else ((nwS U S i x w a.1 n).1, a.2)
theorem imP_0 (U : zSU) (S : zST) (i x w : Nat) (a : zIm) : imP U S i x w a 0 = a := by
  unfold imP
  rw [if_neg (show ¬ (0 : Int) ≤ (nwS U S i x w a.1 0).2 by show ¬ (0 : Int) ≤ -1; omega)]
  rfl
theorem imP_1 (U : zSU) (S : zST) (i x w : Nat) (a : zIm) (n : Nat) : (imP U S i x w a n).1 = (nwS U S i x w a.1 n).1 := by
  unfold imP
  split <;> rfl
theorem imP_s (U : zSU) (S : zST) (i x w : Nat) (a : zIm) (n : Nat) : imP U S i x w a (n + 1) = if fCmp (qDrift U (S.cel i x w (S.f n)) i).1.natAbs (qDrift U (S.cel i x w (S.f n)) i).2.toNat (imP U S i x w a n).1.1.natAbs (imP U S i x w a n).1.2.toNat < 0 then (qDrift U (S.cel i x w (S.f n)) i, x, w, (S.f n : Int)) else imP U S i x w a n := by
  rw [imP_1]
  by_cases h : fCmp (qDrift U (S.cel i x w (S.f n)) i).1.natAbs (qDrift U (S.cel i x w (S.f n)) i).2.toNat (nwS U S i x w a.1 n).1.1.natAbs (nwS U S i x w a.1 n).1.2.toNat < 0
  · rw [if_pos h]
    unfold imP
    rw [nwS, if_pos h]
    exact if_pos (Int.natCast_nonneg _)
  · rw [if_neg h]
    unfold imP
    rw [nwS, if_neg h]
def plc (i : Nat) (a : zIm) : Int := if a.2.2.2 < 0 then -1 else ((19 + 14 * i + (2 + 3 * a.2.1 + a.2.2.1) : Nat) : Int)
theorem plc_p (i x w t : Nat) (r : Int × Int) : plc i (r, x, w, (t : Int)) = ((19 + 14 * i + (2 + 3 * x + w) : Nat) : Int) := if_neg (by show ¬ (t : Int) < 0; omega)
theorem sI_mW (σ : zS) (x j : Nat) (t v : Int32) (a b : Int) : sI (mW (sI σ x j t) a b) x j v = mW (sI σ x j v) a b := by
  show mW (sI (sI σ x j t) x j v) a b = _
  rw [sI_o]
theorem mV {σ v : zS} {nb k at9 : Nat} {S : zST} {z : Int32} (hK : mK σ (sI v 332 at9 z) k) (hW : zRo (gI σ 332) nb S) (hn : S.n ≤ 16) (ha : 19 ≤ at9) : gI v 332 0 = zI (S.n : Int) ∧ ∀ j, j < S.n → gI v 332 (1 + j) = zI (S.f j : Int) := by
  obtain ⟨h1, h2, -⟩ := mK_R hK hW
  refine ⟨?_, fun j hj => ?_⟩
  · rw [gI_sI, if_neg (by omega)] at h1
    exact h1
  · have := h2 j hj
    rw [gI_sI, if_neg (by omega)] at this
    exact this
theorem zRk_cel {S : zST} (h : zRk S) (i x w t : Nat) : zRk (S.cel i x w t) := ⟨h.1, fun j hj => by
  have := h.2 j hj
  show (if j = i then S.tn i else S.tn j) ≤ 4
  split
  · rename_i z; rw [← z]; exact this
  · exact this⟩
theorem gI_mWI (σ : zS) (a b : Int) (x j : Nat) : gI (mW σ a b) x j = gI σ x j := rfl
theorem plc_b {σ : zS} {U : zSU} {S : zST} {i : Nat} (hU : zSUp σ 29 U) (hS : zSTp σ 34 S) (hi : i < U.nb) {x : Nat} (hx : x ≤ S.tn i) : -1 ≤ plc i (imF U S i x) ∧ plc i (imF U S i x) ≤ 2147483647 ∧ (imF U S i x).2.2.2 ≤ 100 := by
  obtain ⟨-, h2, h3⟩ := imF_ok hU hS hi x hx
  have hnb := hU.2.2.1
  have ht := (hS.2.2.2.2.2.2 i (by omega)).1.2.1
  unfold plc
  split
  · omega
  · have := h3 (by omega)
    omega
set_option maxRecDepth 20000 in
theorem c0_X11_improve {l : Launch} (hfl : l.stackTraces = false) (E : zE) (σ : zS) (σc : zS) (U : zSU) (S : zST) (i : Nat) (hB : zRb (gI σ 328) U) (hU : zSUp σc 29 U) (hW : zRo (gI σ 332) U.nb S) (hS : zSTp σc 34 S) (hi : i < U.nb) (hneg : (imF U S i (S.tn i)).2.2.2 < 0) : zRi l E yX11_improve cX11_improve 15 .int (zrm 6 152) [.ref (ob E 327), .int (zI (i : Int))] σ (fun r τ => r = zI (-1) ∧ mK σ τ 0) := by
  refine Met.ofW (cc := cX11_improve) (maxL := 15) (ret := (some .int)) (by decide +kernel) rfl ?_
  intro p e s m args below meth c s₁ B hml hv
  obtain ⟨rfl, hd⟩ := hv
  have C := zX_of (own := RX11) hfl B hml rfl hd rfl
  have hr := B.returns
  refine zV_go hd (Nat.le_of_ble_eq_true rfl) (lv := [(0, .ref (ob E 327)), (1, .int (zI (i : Int)))]) rfl ?_
  have hnb : U.nb ≤ 8 := hU.2.2.1
  have hs0 := hU.2.2.2.1
  have hk9 : zRk S := zRk_S hS
  have hi8 : i < 8 := by omega
  have hTc := hS.2.2.2.2.2.2 i hi8
  have ht : S.tn i ≤ 4 := hTc.1.2.1
  have hc : ∀ j w, j < S.tn i → w < 3 → S.tr i j w ≤ 100 := fun j w a b => hTc.1.2.2.2 j w a b
  have hn16 : S.n ≤ 16 := hS.1.2.1
  have hf9 : ∀ i, i < S.n → 8 ≤ S.f i ∧ S.f i ≤ 100 := fun i h => ⟨hS.2.1 i h, hS.1.2.2.2 i h⟩
  have hPl : ∀ x, x ≤ S.tn i → -1 ≤ plc i (imF U S i x) ∧ plc i (imF U S i x) ≤ 2147483647 ∧ (imF U S i x).2.2.2 ≤ 100 := fun x hx => plc_b hU hS hi hx
  have hro0 := rO_b hU hS hi
  
  refine zv_aload_n C 0 dX11_improve_0 rfl rfl ?_
  refine zv_iload_n C 1 dX11_improve_1 rfl rfl ?_
  refine zv_cviD (st := []) C (c0_X11_noBody hfl E σ σc U ((i : Int)) hB hU (by omega)) mX11_noBody kX11_319 (by decide : kd 327 = 10) rfl rfl rfl ⟨rfl, rfl⟩ (show zfit (zrm 1 25) 2 (zrm 6 152) = true from rfl) (Nat.le_of_ble_eq_true rfl) dX11_improve_2 ⟨Nat.zero_le _, Nat.zero_le _⟩ ?_
  refine zv_if_eqZ (tgt := 10) C (by omega) dX11_improve_5 (by decide) (fun h5 => ?_) (fun h5 => absurd h5 (by decide))
  refine zv_aload_n C 0 dX11_improve_10 rfl rfl ?_
  refine zv_iload_n C 1 dX11_improve_11 rfl rfl ?_
  refine zv_cvlD (st := []) C (c_X11_offNow hfl E (thW σ 0) σc U S i hB hU hW hS hi) mX11_offNow kX11_418 (by decide : kd 327 = 10) rfl rfl rfl ⟨rfl, rfl⟩ (show zfit (zrm 5 127) 6 (zrm 6 152) = true from rfl) (Nat.le_of_ble_eq_true rfl) dX11_improve_12 ⟨Nat.zero_le _, Nat.zero_le _⟩ ?_
  refine zv_lstore_n (lv' := [(2, .long (zL ((rO U S i).1 : Int))), (0, .ref (ob E 327)), (1, .int (zI (i : Int)))]) C dX11_improve_15 rfl (by decide) rfl ?_
  refine zv_aload_n C 1 dX11_improve_16 rfl rfl ?_
  refine zG10_23 C (by decide : kd 327 = _) kX11_253 dX11_improve_17 ?_
  refine zv_eql (y := (zL ((rO U S i).2 : Int))) ((mW_r _ _ _).2.trans (congrArg zL (rO_b hU hS hi).2.2.symm)) ?_
  refine zv_lstore (lv' := [(4, .long (zL ((rO U S i).2 : Int))), (2, .long (zL ((rO U S i).1 : Int))), (0, .ref (ob E 327)), (1, .int (zI (i : Int)))]) C dX11_improve_20  (by decide) rfl ?_
  refine zv_iconst (v := zI (-1)) C dX11_improve_22 rfl ?_
  refine zv_istore (lv' := [(6, .int (zI (-1))), (4, .long (zL ((rO U S i).2 : Int))), (2, .long (zL ((rO U S i).1 : Int))), (0, .ref (ob E 327)), (1, .int (zI (i : Int)))]) C dX11_improve_23  (by decide) rfl ?_
  refine zv_iconst (v := zI (-1)) C dX11_improve_25 rfl ?_
  refine zv_istore (lv' := [(7, .int (zI (-1))), (6, .int (zI (-1))), (4, .long (zL ((rO U S i).2 : Int))), (2, .long (zL ((rO U S i).1 : Int))), (0, .ref (ob E 327)), (1, .int (zI (i : Int)))]) C dX11_improve_26  (by decide) rfl ?_
  refine zv_iconst (v := zI 0) C dX11_improve_28 rfl ?_
  refine zv_istore (lv' := [(8, .int (zI 0)), (7, .int (zI (-1))), (6, .int (zI (-1))), (4, .long (zL ((rO U S i).2 : Int))), (2, .long (zL ((rO U S i).1 : Int))), (0, .ref (ob E 327)), (1, .int (zI (i : Int)))]) C dX11_improve_29  (by decide) rfl ?_
  have q31_30 : (0 : Int) = (0 : Int) := by rfl
  have q31_31 : ((-1) : Int) = (imF U S i 0).2.2.2 := by rfl
  have q31_32 : ((-1) : Int) = plc i (imF U S i 0) := by rfl
  have q31_33 : (((rO U S i).2 : Int) : Int) = (((rO U S i).2 : Nat) : Int) := by rfl
  have q31_34 : (((rO U S i).1 : Int) : Int) = (((rO U S i).1 : Nat) : Int) := by rfl
  refine zv_sub (lv' := [(0, .ref (ob E 327)), (1, .int (zI (i : Int))), (2, .long (zL (((rO U S i).1 : Nat) : Int))), (4, .long (zL (((rO U S i).2 : Nat) : Int))), (6, .int (zI (plc i (imF U S i 0)))), (7, .int (zI ((imF U S i 0).2.2.2))), (8, .int (zI (0 : Int)))]) [5, 6, 4, 3, 2, 1, 0] (zcons rfl (zcons rfl (zcons (zqL q31_34) (zcons (zqL q31_33) (zcons (zqI q31_32) (zcons (zqI q31_31) (zcons (zqI q31_30) rfl))))))) ?_
  refine zv_eqS (τ := (mW (thW σ 0) (qPtr U S i).1 (qPtr U S i).2)) (rfl) ?_
  refine zv_while (α := Nat × zS × Nat × Nat) (fun v => S.tn i - v.1) (fun v => v.1 ≤ S.tn i ∧ mK σ v.2.1 0 ∧ imL U S i v.2.2.1 v.2.2.2 (imF U S i v.1).1) (fun v => v.2.1) (fun v => [(0, .ref (ob E 327)), (1, .int (zI (i : Int))), (2, .long (zL (v.2.2.1 : Int))), (4, .long (zL (v.2.2.2 : Int))), (6, .int (zI (plc i (imF U S i v.1)))), (7, .int (zI ((imF U S i v.1).2.2.2))), (8, .int (zI (v.1 : Int)))]) (fun v => []) (fun v hI ih => ?_) ((0, (mW (thW σ 0) (qPtr U S i).1 (qPtr U S i).2), (rO U S i).1, (rO U S i).2)) (⟨Nat.zero_le _, mK_W (mK_th _ _) _ _, imL_0 hS i⟩)
  obtain ⟨x, u, f1, b1⟩ := v
  dsimp only at hI ih ⊢
  obtain ⟨hx, hK, hL⟩ := hI
  have hW1 : zRo (gI u 332) U.nb S := mK_R hK hW
  have hLb := imL_b hU hi hL
  have hplc : -1 ≤ plc i (imF U S i x) ∧ plc i (imF U S i x) ≤ 2147483647 ∧ (imF U S i x).2.2.2 ≤ 100 := hPl x hx
  refine zv_iload C 6 dX11_improve_31 rfl ?_
  refine zv_aload_n C 0 dX11_improve_33 rfl rfl ?_
  refine zv_iload_n C 1 dX11_improve_34 rfl rfl ?_
  refine zv_cviD (st := [.int (zI (x : Int))]) C (c_X11_parts hfl E u U.nb S i hW1 hi8) mX11_parts kX11_188 (by decide : kd 327 = 10) rfl rfl rfl ⟨rfl, rfl⟩ (show zfit (zrm 1 21) 2 (zrm 6 152) = true from rfl) (Nat.le_of_ble_eq_true rfl) dX11_improve_35 ⟨Nat.zero_le _, Nat.zero_le _⟩ ?_
  refine zv_icmp_geZ (tgt := 209) C (by omega) (by omega) dX11_improve_38 (by decide) (fun h38 => ?_) (fun h38 => ?_)
  · skip
    have hxe : x = S.tn i := by omega
    have hpl : plc i (imF U S i x) = -1 := by rw [hxe]; exact if_pos hneg
    refine zv_iload C 4 dX11_improve_209 rfl ?_
    refine zv_iconst (v := zI (-1)) C dX11_improve_211 rfl ?_
    refine zv_icmp_neZ (tgt := 217) C (by omega) (by omega) dX11_improve_212 (by decide) (fun h212 => ?_) (fun h212 => ?_)
    · exfalso
      omega
    · skip
      refine zv_iconst (v := zI (-1)) C dX11_improve_215 rfl ?_
      exact zv_iret C hr rfl dX11_improve_216 ⟨rfl, hK⟩
  · skip
    refine zv_iconst (v := zI 1) C dX11_improve_41 rfl ?_
    refine zv_istore (lv' := [(9, .int (zI 1)), (0, .ref (ob E 327)), (1, .int (zI (i : Int))), (2, .long (zL (f1 : Int))), (4, .long (zL (b1 : Int))), (6, .int (zI (plc i (imF U S i x)))), (7, .int (zI ((imF U S i x).2.2.2))), (8, .int (zI (x : Int)))]) C dX11_improve_42  (by decide) rfl ?_
    have q44_63 : (1 : Int) = ((0 + 1 : Nat) : Int) := by rfl
    have q44_64 : ((imF U S i x).2.2.2 : Int) = (imW U S i x (imF U S i x) 0).2.2.2 := by rfl
    have q44_65 : (plc i (imF U S i x) : Int) = plc i (imW U S i x (imF U S i x) 0) := by rfl
    refine zv_sub (lv' := [(0, .ref (ob E 327)), (1, .int (zI (i : Int))), (2, .long (zL (f1 : Int))), (4, .long (zL (b1 : Int))), (6, .int (zI (plc i (imW U S i x (imF U S i x) 0)))), (7, .int (zI ((imW U S i x (imF U S i x) 0).2.2.2))), (8, .int (zI (x : Int))), (9, .int (zI ((0 + 1 : Nat) : Int)))]) [1, 2, 3, 4, 5, 6, 7, 0] (zcons rfl (zcons rfl (zcons rfl (zcons rfl (zcons (zqI q44_65) (zcons (zqI q44_64) (zcons rfl (zcons (zqI q44_63) rfl)))))))) ?_
    refine zv_eqS (τ := u) (rfl) ?_
    refine zv_while (α := Nat × zS × Nat × Nat) (fun v => 2 - v.1) (fun v => v.1 ≤ 2 ∧ mK σ v.2.1 0 ∧ imL U S i v.2.2.1 v.2.2.2 (imW U S i x (imF U S i x) v.1).1 ∧ (S.tr i x 0 = 2 → v.1 = 0)) (fun v => v.2.1) (fun v => [(0, .ref (ob E 327)), (1, .int (zI (i : Int))), (2, .long (zL (v.2.2.1 : Int))), (4, .long (zL (v.2.2.2 : Int))), (6, .int (zI (plc i (imW U S i x (imF U S i x) v.1)))), (7, .int (zI ((imW U S i x (imF U S i x) v.1).2.2.2))), (8, .int (zI (x : Int))), (9, .int (zI ((v.1 + 1 : Nat) : Int)))]) (fun v => []) (fun v hI ih44 => ?_) ((0, u, f1, b1)) (⟨Nat.zero_le _, hK, hL, fun _ => rfl⟩)
    obtain ⟨k, u2, f2, b2⟩ := v
    dsimp only at hI ih44 ⊢
    obtain ⟨hk2, hK2, hL2, hC2⟩ := hI
    have hW2 : zRo (gI u2 332) U.nb S := mK_R hK2 hW
    have hLb2 := imL_b hU hi hL2
    refine zv_iload C 7 dX11_improve_44 rfl ?_
    refine zv_iconst (v := zI 3) C dX11_improve_46 rfl ?_
    refine zv_icmp_geZ (tgt := 203) C (by omega) (by omega) dX11_improve_47 (by decide) (fun h47 => ?_) (fun h47 => ?_)
    · skip
      have hEx : imF U S i (x + 1) = imW U S i x (imF U S i x) k := by rw [imF, if_neg (fun z => by have := hC2 z; omega), show k = 2 by omega]
      refine zv_iinc (v := (zI ((x : Int) + 1))) (lv' := [(8, .int (zI ((x : Int) + 1))), (0, .ref (ob E 327)), (1, .int (zI (i : Int))), (2, .long (zL (f2 : Int))), (4, .long (zL (b2 : Int))), (6, .int (zI (plc i (imW U S i x (imF U S i x) k)))), (7, .int (zI ((imW U S i x (imF U S i x) k).2.2.2))), (9, .int (zI ((k + 1 : Nat) : Int)))]) C 6 dX11_improve_203 rfl (zI_add _ _) (by decide) rfl ?_
      refine zv_goto (tgt := 31) C dX11_improve_206 (by decide) ?_
      have q31_81 : ((x : Int) + 1 : Int) = ((x + 1 : Nat) : Int) := by omega
      have q31_82 : ((imW U S i x (imF U S i x) k).2.2.2 : Int) = (imF U S i (x + 1)).2.2.2 := by rw [hEx]
      have q31_83 : (plc i (imW U S i x (imF U S i x) k) : Int) = plc i (imF U S i (x + 1)) := by rw [hEx]
      refine zv_sub (lv' := [(0, .ref (ob E 327)), (1, .int (zI (i : Int))), (2, .long (zL (f2 : Int))), (4, .long (zL (b2 : Int))), (6, .int (zI (plc i (imF U S i (x + 1))))), (7, .int (zI ((imF U S i (x + 1)).2.2.2))), (8, .int (zI ((x + 1 : Nat) : Int)))]) [1, 2, 3, 4, 5, 6, 0] (zcons rfl (zcons rfl (zcons rfl (zcons rfl (zcons (zqI q31_83) (zcons (zqI q31_82) (zcons (zqI q31_81) rfl))))))) ?_
      refine zv_eqS (τ := u2) (rfl) ?_
      exact ih ((x + 1, u2, f2, b2)) (⟨by show x + 1 ≤ S.tn i; omega, hK2, by show imL U S i f2 b2 (imF U S i (x + 1)).1; rw [hEx]; exact hL2⟩) (by show S.tn i - (x + 1) < S.tn i - x; omega)
    · skip
      have hc0 := hc x 0 (by omega) (by omega)
      refine zv_aload_n C 0 dX11_improve_50 rfl rfl ?_
      refine zv_iload_n C 1 dX11_improve_51 rfl rfl ?_
      refine zv_iload C 6 dX11_improve_52 rfl ?_
      refine zv_iconst (v := zI 0) C dX11_improve_54 rfl ?_
      refine zv_cviD (st := []) C (c_X11_partOf hfl E u2 U.nb S i x 0 hW2 hi8 (by omega) ht (by omega)) mX11_partOf kX11_191 (by decide : kd 327 = 10) rfl rfl rfl ⟨rfl, rfl⟩ (show zfit (zrm 1 21) 4 (zrm 6 152) = true from rfl) (Nat.le_of_ble_eq_true rfl) dX11_improve_55 ⟨Nat.zero_le _, Nat.zero_le _⟩ ?_
      refine zv_iconst (v := zI 2) C dX11_improve_58 rfl ?_
      refine zv_icmp_eqZ (tgt := 203) C (by omega) (by omega) dX11_improve_59 (by decide) (fun h59 => ?_) (fun h59 => ?_)
      · skip
        have h2 : S.tr i x 0 = 2 := by omega
        have hEx : imF U S i (x + 1) = imW U S i x (imF U S i x) k := by rw [imF, if_pos h2, hC2 h2]; rfl
        refine zv_iinc (v := (zI ((x : Int) + 1))) (lv' := [(8, .int (zI ((x : Int) + 1))), (0, .ref (ob E 327)), (1, .int (zI (i : Int))), (2, .long (zL (f2 : Int))), (4, .long (zL (b2 : Int))), (6, .int (zI (plc i (imW U S i x (imF U S i x) k)))), (7, .int (zI ((imW U S i x (imF U S i x) k).2.2.2))), (9, .int (zI ((k + 1 : Nat) : Int)))]) C 6 dX11_improve_203 rfl (zI_add _ _) (by decide) rfl ?_
        refine zv_goto (tgt := 31) C dX11_improve_206 (by decide) ?_
        have q31_101 : ((x : Int) + 1 : Int) = ((x + 1 : Nat) : Int) := by omega
        have q31_102 : ((imW U S i x (imF U S i x) k).2.2.2 : Int) = (imF U S i (x + 1)).2.2.2 := by rw [hEx]
        have q31_103 : (plc i (imW U S i x (imF U S i x) k) : Int) = plc i (imF U S i (x + 1)) := by rw [hEx]
        refine zv_sub (lv' := [(0, .ref (ob E 327)), (1, .int (zI (i : Int))), (2, .long (zL (f2 : Int))), (4, .long (zL (b2 : Int))), (6, .int (zI (plc i (imF U S i (x + 1))))), (7, .int (zI ((imF U S i (x + 1)).2.2.2))), (8, .int (zI ((x + 1 : Nat) : Int)))]) [1, 2, 3, 4, 5, 6, 0] (zcons rfl (zcons rfl (zcons rfl (zcons rfl (zcons (zqI q31_103) (zcons (zqI q31_102) (zcons (zqI q31_101) rfl))))))) ?_
        refine zv_eqS (τ := u2) (rfl) ?_
        exact ih ((x + 1, u2, f2, b2)) (⟨by show x + 1 ≤ S.tn i; omega, hK2, by show imL U S i f2 b2 (imF U S i (x + 1)).1; rw [hEx]; exact hL2⟩) (by show S.tn i - (x + 1) < S.tn i - x; omega)
      · skip
        have hg : S.tr i x 0 ≠ 2 := by omega
        have hat : gI u2 332 (19 + 14 * i + (2 + 3 * x + (k + 1))) = zI (S.tr i x (k + 1) : Int) := by
          rw [show (19 + 14 * i + (2 + 3 * x + (k + 1))) = 21 + 14 * i + 3 * x + (k + 1) by omega]
          exact (hW2.2.2.2.2 i hi8).2.2 x (k + 1) (by omega) (by omega)
        have hwb := hc x (k + 1) (by omega) (by omega)
        refine zv_iload_n C 1 dX11_improve_62 rfl rfl ?_
        refine zv_iconst (v := zI 2) C dX11_improve_63 rfl ?_
        refine zv_iconst (v := zI 3) C dX11_improve_64 rfl ?_
        refine zv_iload C 6 dX11_improve_65 rfl ?_
        refine zv_imulZ C dX11_improve_67 ?_
        refine zv_iaddZ C dX11_improve_68 ?_
        refine zv_iload C 7 dX11_improve_69 rfl ?_
        refine zv_iaddZ C dX11_improve_71 ?_
        refine zv_eqi (y := (zI ((2 + 3 * x + (k + 1) : Nat) : Int))) (congrArg zI (by omega)) ?_
        refine zv_csiD (st := []) C (c_X11_trainAt hfl E u2 i (2 + 3 * x + (k + 1)) (by omega) (by omega)) mX11_trainAt kX11_53 rfl ⟨rfl, rfl⟩ (show zfit (zrm 0 0) 2 (zrm 6 152) = true from rfl) (Nat.le_of_ble_eq_true rfl) dX11_improve_72 ⟨Nat.zero_le _, Nat.zero_le _⟩ ?_
        refine zv_istore (lv' := [(10, .int (zI ((19 + 14 * i + (2 + 3 * x + (k + 1))) : Int))), (0, .ref (ob E 327)), (1, .int (zI (i : Int))), (2, .long (zL (f2 : Int))), (4, .long (zL (b2 : Int))), (6, .int (zI (plc i (imW U S i x (imF U S i x) k)))), (7, .int (zI ((imW U S i x (imF U S i x) k).2.2.2))), (8, .int (zI (x : Int))), (9, .int (zI ((k + 1 : Nat) : Int)))]) C dX11_improve_75  (by decide) rfl ?_
        refine zv_aload_n C 1 dX11_improve_77 rfl rfl ?_
        refine zG10_4 C (by decide : kd 327 = _) kX11_22 dX11_improve_78 ?_
        refine zv_iload C 0 dX11_improve_81 rfl ?_
        refine zv_iald (j := (19 + 14 * i + (2 + 3 * x + (k + 1)))) C (by decide : kd 332 = _) (zI_ix rfl) (Nat.lt_of_lt_of_eq (show (19 + 14 * i + (2 + 3 * x + (k + 1))) < 131 by omega) (by decide)) dX11_improve_83 ?_
        refine zv_eqi (y := (zI (S.tr i x (k + 1) : Int))) (hat) ?_
        refine zv_istore (lv' := [(11, .int (zI (S.tr i x (k + 1) : Int))), (10, .int (zI ((19 + 14 * i + (2 + 3 * x + (k + 1))) : Int))), (0, .ref (ob E 327)), (1, .int (zI (i : Int))), (2, .long (zL (f2 : Int))), (4, .long (zL (b2 : Int))), (6, .int (zI (plc i (imW U S i x (imF U S i x) k)))), (7, .int (zI ((imW U S i x (imF U S i x) k).2.2.2))), (8, .int (zI (x : Int))), (9, .int (zI ((k + 1 : Nat) : Int)))]) C dX11_improve_84  (by decide) rfl ?_
        refine zv_iconst (v := zI 0) C dX11_improve_86 rfl ?_
        refine zv_istore (lv' := [(12, .int (zI 0)), (11, .int (zI (S.tr i x (k + 1) : Int))), (10, .int (zI ((19 + 14 * i + (2 + 3 * x + (k + 1))) : Int))), (0, .ref (ob E 327)), (1, .int (zI (i : Int))), (2, .long (zL (f2 : Int))), (4, .long (zL (b2 : Int))), (6, .int (zI (plc i (imW U S i x (imF U S i x) k)))), (7, .int (zI ((imW U S i x (imF U S i x) k).2.2.2))), (8, .int (zI (x : Int))), (9, .int (zI ((k + 1 : Nat) : Int)))]) C dX11_improve_87  (by decide) rfl ?_
        have q89_132 : (0 : Int) = (0 : Int) := by rfl
        have q89_133 : ((imW U S i x (imF U S i x) k).2.2.2 : Int) = (imP U S i x (k + 1) (imW U S i x (imF U S i x) k) 0).2.2.2 := by rw [imP_0]
        have q89_134 : (plc i (imW U S i x (imF U S i x) k) : Int) = plc i (imP U S i x (k + 1) (imW U S i x (imF U S i x) k) 0) := by rw [imP_0]
        refine zv_sub (lv' := [(0, .ref (ob E 327)), (1, .int (zI (i : Int))), (2, .long (zL (f2 : Int))), (4, .long (zL (b2 : Int))), (6, .int (zI (plc i (imP U S i x (k + 1) (imW U S i x (imF U S i x) k) 0)))), (7, .int (zI ((imP U S i x (k + 1) (imW U S i x (imF U S i x) k) 0).2.2.2))), (8, .int (zI (x : Int))), (9, .int (zI ((k + 1 : Nat) : Int))), (10, .int (zI ((19 + 14 * i + (2 + 3 * x + (k + 1))) : Int))), (11, .int (zI (S.tr i x (k + 1) : Int))), (12, .int (zI (0 : Int)))]) [3, 4, 5, 6, 7, 8, 9, 10, 2, 1, 0] (zcons rfl (zcons rfl (zcons rfl (zcons rfl (zcons (zqI q89_134) (zcons (zqI q89_133) (zcons rfl (zcons rfl (zcons rfl (zcons rfl (zcons (zqI q89_132) rfl))))))))))) ?_
        refine zv_eqS (τ := u2) (rfl) ?_
        refine zv_while (α := Nat × zS × Nat × Nat) (fun v => S.n - v.1) (fun v => v.1 ≤ S.n ∧ mK σ (sI v.2.1 332 (19 + 14 * i + (2 + 3 * x + (k + 1))) (zI (S.tr i x (k + 1) : Int))) 0 ∧ imL U S i v.2.2.1 v.2.2.2 (imP U S i x (k + 1) (imW U S i x (imF U S i x) k) v.1).1) (fun v => v.2.1) (fun v => [(0, .ref (ob E 327)), (1, .int (zI (i : Int))), (2, .long (zL (v.2.2.1 : Int))), (4, .long (zL (v.2.2.2 : Int))), (6, .int (zI (plc i (imP U S i x (k + 1) (imW U S i x (imF U S i x) k) v.1)))), (7, .int (zI ((imP U S i x (k + 1) (imW U S i x (imF U S i x) k) v.1).2.2.2))), (8, .int (zI (x : Int))), (9, .int (zI ((k + 1 : Nat) : Int))), (10, .int (zI ((19 + 14 * i + (2 + 3 * x + (k + 1))) : Int))), (11, .int (zI (S.tr i x (k + 1) : Int))), (12, .int (zI (v.1 : Int)))]) (fun v => []) (fun v hI ih89 => ?_) ((0, u2, f2, b2)) (⟨Nat.zero_le _, by show mK σ (sI u2 332 (19 + 14 * i + (2 + 3 * x + (k + 1))) (zI (S.tr i x (k + 1) : Int))) 0; rw [sI_self hat]; exact hK2, by rw [imP_0]; exact hL2⟩)
        obtain ⟨n9, v9, f3, b3⟩ := v
        dsimp only at hI ih89 ⊢
        obtain ⟨hn9, hK3, hL3⟩ := hI
        obtain ⟨hv0, hvf⟩ := mV hK3 hW hn16 (by omega)
        have hLb3 := imL_b hU hi hL3
        refine zv_iload C 10 dX11_improve_89 rfl ?_
        refine zv_aload_n C 0 dX11_improve_91 rfl rfl ?_
        refine zG10_4 C (by decide : kd 327 = _) kX11_22 dX11_improve_92 ?_
        refine zv_iconst (v := zI 0) C dX11_improve_95 rfl ?_
        refine zv_iald (j := 0) C (by decide : kd 332 = _) (zI_ix (by omega)) (by decide) dX11_improve_96 ?_
        refine zv_eqi (y := (zI (S.n : Int))) (hv0) ?_
        refine zv_icmp_geZ (tgt := 188) C (by omega) (by omega) dX11_improve_97 (by decide) (fun h97 => ?_) (fun h97 => ?_)
        · skip
          have hse : n9 = S.n := by omega
          refine zv_aload_n C 0 dX11_improve_188 rfl rfl ?_
          refine zG10_4 C (by decide : kd 327 = _) kX11_22 dX11_improve_189 ?_
          refine zv_iload C 8 dX11_improve_192 rfl ?_
          refine zv_iload C 9 dX11_improve_194 rfl ?_
          refine zv_iast (j := (19 + 14 * i + (2 + 3 * x + (k + 1)))) C (by decide : kd 332 = _) (zI_ix rfl) (Nat.lt_of_lt_of_eq (show (19 + 14 * i + (2 + 3 * x + (k + 1))) < 131 by omega) (by decide)) dX11_improve_196 ?_
          refine zv_iinc (v := (zI (((k + 1 : Nat) : Int) + 1))) (lv' := [(9, .int (zI (((k + 1 : Nat) : Int) + 1))), (0, .ref (ob E 327)), (1, .int (zI (i : Int))), (2, .long (zL (f3 : Int))), (4, .long (zL (b3 : Int))), (6, .int (zI (plc i (imP U S i x (k + 1) (imW U S i x (imF U S i x) k) n9)))), (7, .int (zI ((imP U S i x (k + 1) (imW U S i x (imF U S i x) k) n9).2.2.2))), (8, .int (zI (x : Int))), (10, .int (zI ((19 + 14 * i + (2 + 3 * x + (k + 1))) : Int))), (11, .int (zI (S.tr i x (k + 1) : Int))), (12, .int (zI (n9 : Int)))]) C 7 dX11_improve_197 rfl (zI_add _ _) (by decide) rfl ?_
          refine zv_goto (tgt := 44) C dX11_improve_200 (by decide) ?_
          have q44_159 : (((k + 1 : Nat) : Int) + 1 : Int) = (((k + 1) + 1 : Nat) : Int) := by omega
          have q44_160 : ((imP U S i x (k + 1) (imW U S i x (imF U S i x) k) n9).2.2.2 : Int) = (imW U S i x (imF U S i x) (k + 1)).2.2.2 := by rw [hse]; rfl
          have q44_161 : (plc i (imP U S i x (k + 1) (imW U S i x (imF U S i x) k) n9) : Int) = plc i (imW U S i x (imF U S i x) (k + 1)) := by rw [hse]; rfl
          refine zv_sub (lv' := [(0, .ref (ob E 327)), (1, .int (zI (i : Int))), (2, .long (zL (f3 : Int))), (4, .long (zL (b3 : Int))), (6, .int (zI (plc i (imW U S i x (imF U S i x) (k + 1))))), (7, .int (zI ((imW U S i x (imF U S i x) (k + 1)).2.2.2))), (8, .int (zI (x : Int))), (9, .int (zI (((k + 1) + 1 : Nat) : Int)))]) [1, 2, 3, 4, 5, 6, 7, 0] (zcons rfl (zcons rfl (zcons rfl (zcons rfl (zcons (zqI q44_161) (zcons (zqI q44_160) (zcons rfl (zcons (zqI q44_159) rfl)))))))) ?_
          refine zv_eqS (τ := (sI v9 332 (19 + 14 * i + (2 + 3 * x + (k + 1))) (zI (S.tr i x (k + 1) : Int)))) (rfl) ?_
          exact ih44 ((k + 1, (sI v9 332 (19 + 14 * i + (2 + 3 * x + (k + 1))) (zI (S.tr i x (k + 1) : Int))), f3, b3)) (⟨by show k + 1 ≤ 2; omega, hK3, by show imL U S i f3 b3 (imP U S i x (k + 1) (imW U S i x (imF U S i x) k) S.n).1; rw [← hse]; exact hL3, fun z => absurd z hg⟩) (by show 2 - (k + 1) < 2 - k; omega)
        · skip
          have hfn := hf9 n9 (by omega)
          refine zv_aload_n C 0 dX11_improve_100 rfl rfl ?_
          refine zG10_4 C (by decide : kd 327 = _) kX11_22 dX11_improve_101 ?_
          refine zv_iconst (v := zI 1) C dX11_improve_104 rfl ?_
          refine zv_iload C 10 dX11_improve_105 rfl ?_
          refine zv_iaddZ C dX11_improve_107 ?_
          refine zv_iald (j := 1 + n9) C (by decide : kd 332 = _) (zI_ix (by omega)) (Nat.lt_of_lt_of_eq (show 1 + n9 < 131 by omega) (by decide)) dX11_improve_108 ?_
          refine zv_eqi (y := (zI (S.f n9 : Int))) (hvf n9 (by omega)) ?_
          refine zv_iload C 9 dX11_improve_109 rfl ?_
          refine zv_icmp_neZ (tgt := 117) C (by omega) (by omega) dX11_improve_111 (by decide) (fun h111 => ?_) (fun h111 => ?_)
          · skip
            obtain ⟨σ9, hU9, hS9⟩ := cel_ok (t := S.f n9) hU hS hi8 (show x < S.tn i by omega) (show k + 1 = 1 ∨ k + 1 = 2 by omega) hg (by omega)
            have hB9 : zRb (gI (sI v9 332 (19 + 14 * i + (2 + 3 * x + (k + 1))) (zI (S.f n9 : Int))) 328) U := by
              rw [show gI (sI v9 332 (19 + 14 * i + (2 + 3 * x + (k + 1))) (zI (S.f n9 : Int))) 328 = gI (sI v9 332 (19 + 14 * i + (2 + 3 * x + (k + 1))) (zI (S.tr i x (k + 1) : Int))) 328 from funext fun j => by rw [gI_sI, if_neg (by omega), gI_sI, if_neg (by omega)]]
              exact mK_B hK3 hB
            have hro := rO_b hU9 hS9 hi
            have hcc := imL_c hU hS9 hi hL3
            have hW9 : zRo (gI (sI v9 332 (19 + 14 * i + (2 + 3 * x + (k + 1))) (zI (S.f n9 : Int))) 332) U.nb (S.cel i x (k + 1) (S.f n9)) := by
              have := zRo_cel (i := i) (x := x) (w := k + 1) (S.f n9) (mK_R hK3 hW) hk9 hi8 (by omega) (by omega)
              rw [sI_o] at this
              exact this
            have hmul : (rO U (S.cel i x (k + 1) (S.f n9)) i).2 * b3 ≤ 100000000 * 100000000 := Nat.mul_le_mul hro.2.1.2 hLb3.2.2
            refine zv_aload_n C 0 dX11_improve_117 rfl rfl ?_
            refine zG10_4 C (by decide : kd 327 = _) kX11_22 dX11_improve_118 ?_
            refine zv_iload C 8 dX11_improve_121 rfl ?_
            refine zv_aload_n C 0 dX11_improve_123 rfl rfl ?_
            refine zG10_4 C (by decide : kd 327 = _) kX11_22 dX11_improve_124 ?_
            refine zv_iconst (v := zI 1) C dX11_improve_127 rfl ?_
            refine zv_iload C 10 dX11_improve_128 rfl ?_
            refine zv_iaddZ C dX11_improve_130 ?_
            refine zv_iald (j := 1 + n9) C (by decide : kd 332 = _) (zI_ix (by omega)) (Nat.lt_of_lt_of_eq (show 1 + n9 < 131 by omega) (by decide)) dX11_improve_131 ?_
            refine zv_eqi (y := (zI (S.f n9 : Int))) (hvf n9 (by omega)) ?_
            refine zv_iast (j := (19 + 14 * i + (2 + 3 * x + (k + 1)))) C (by decide : kd 332 = _) (zI_ix rfl) (Nat.lt_of_lt_of_eq (show (19 + 14 * i + (2 + 3 * x + (k + 1))) < 131 by omega) (by decide)) dX11_improve_132 ?_
            refine zv_aload_n C 0 dX11_improve_133 rfl rfl ?_
            refine zv_iload_n C 1 dX11_improve_134 rfl rfl ?_
            refine zv_cvlD (st := []) C (c_X11_offNow hfl E (sI v9 332 (19 + 14 * i + (2 + 3 * x + (k + 1))) (zI (S.f n9 : Int))) σ9 U (S.cel i x (k + 1) (S.f n9)) i hB9 hU9 hW9 hS9 hi) mX11_offNow kX11_418 (by decide : kd 327 = 10) rfl rfl rfl ⟨rfl, rfl⟩ (show zfit (zrm 5 127) 6 (zrm 6 152) = true from rfl) (Nat.le_of_ble_eq_true rfl) dX11_improve_135 ⟨Nat.zero_le _, Nat.zero_le _⟩ ?_
            refine zv_lstore (lv' := [(13, .long (zL ((rO U (S.cel i x (k + 1) (S.f n9)) i).1 : Int))), (0, .ref (ob E 327)), (1, .int (zI (i : Int))), (2, .long (zL (f3 : Int))), (4, .long (zL (b3 : Int))), (6, .int (zI (plc i (imP U S i x (k + 1) (imW U S i x (imF U S i x) k) n9)))), (7, .int (zI ((imP U S i x (k + 1) (imW U S i x (imF U S i x) k) n9).2.2.2))), (8, .int (zI (x : Int))), (9, .int (zI ((k + 1 : Nat) : Int))), (10, .int (zI ((19 + 14 * i + (2 + 3 * x + (k + 1))) : Int))), (11, .int (zI (S.tr i x (k + 1) : Int))), (12, .int (zI (n9 : Int)))]) C dX11_improve_138  (by decide) rfl ?_
            refine zv_lload C 0 dX11_improve_140 rfl ?_
            refine zv_aload_n C 1 dX11_improve_142 rfl rfl ?_
            refine zG10_23 C (by decide : kd 327 = _) kX11_253 dX11_improve_143 ?_
            refine zv_eql (y := (zL ((rO U (S.cel i x (k + 1) (S.f n9)) i).2 : Int))) ((mW_r _ _ _).2.trans (congrArg zL hro.2.2.symm)) ?_
            refine zv_lload_n C 3 dX11_improve_146 rfl rfl ?_
            refine zv_lload C 4 dX11_improve_147 rfl ?_
            refine zv_csiD (st := []) C (c_X11_isLess hfl E (mW (sI v9 332 (19 + 14 * i + (2 + 3 * x + (k + 1))) (zI (S.f n9 : Int))) (qPtr U (S.cel i x (k + 1) (S.f n9)) i).1 (qPtr U (S.cel i x (k + 1) (S.f n9)) i).2) (rO U (S.cel i x (k + 1) (S.f n9)) i).1 (rO U (S.cel i x (k + 1) (S.f n9)) i).2 f3 b3 hro.1 (by omega) hLb3.1 (by omega) (by omega)) mX11_isLess kX11_367 rfl ⟨rfl, rfl⟩ (show zfit (zrm 0 0) 8 (zrm 6 152) = true from rfl) (Nat.le_of_ble_eq_true rfl) dX11_improve_149 ⟨Nat.zero_le _, Nat.zero_le _⟩ ?_
            refine zv_if_neB (tgt := 158) C dX11_improve_152 (by decide) (fun h152 => ?_) (fun h152 => ?_)
            · skip
              have hcm : (rO U (S.cel i x (k + 1) (S.f n9)) i).1 * b3 < f3 * (rO U (S.cel i x (k + 1) (S.f n9)) i).2 := by omega
              have hyes := hcc.mpr hcm
              refine zv_lload C 0 dX11_improve_158 rfl ?_
              refine zv_lstore_n (lv' := [(2, .long (zL ((rO U (S.cel i x (k + 1) (S.f n9)) i).1 : Int))), (13, .long (zL ((rO U (S.cel i x (k + 1) (S.f n9)) i).1 : Int))), (0, .ref (ob E 327)), (1, .int (zI (i : Int))), (4, .long (zL (b3 : Int))), (6, .int (zI (plc i (imP U S i x (k + 1) (imW U S i x (imF U S i x) k) n9)))), (7, .int (zI ((imP U S i x (k + 1) (imW U S i x (imF U S i x) k) n9).2.2.2))), (8, .int (zI (x : Int))), (9, .int (zI ((k + 1 : Nat) : Int))), (10, .int (zI ((19 + 14 * i + (2 + 3 * x + (k + 1))) : Int))), (11, .int (zI (S.tr i x (k + 1) : Int))), (12, .int (zI (n9 : Int)))]) C dX11_improve_160 rfl (by decide) rfl ?_
              refine zv_aload_n C 2 dX11_improve_161 rfl rfl ?_
              refine zG10_23 C (by decide : kd 327 = _) kX11_253 dX11_improve_162 ?_
              refine zv_eql (y := (zL ((rO U (S.cel i x (k + 1) (S.f n9)) i).2 : Int))) ((mW_r _ _ _).2.trans (congrArg zL hro.2.2.symm)) ?_
              refine zv_lstore (lv' := [(4, .long (zL ((rO U (S.cel i x (k + 1) (S.f n9)) i).2 : Int))), (2, .long (zL ((rO U (S.cel i x (k + 1) (S.f n9)) i).1 : Int))), (13, .long (zL ((rO U (S.cel i x (k + 1) (S.f n9)) i).1 : Int))), (0, .ref (ob E 327)), (1, .int (zI (i : Int))), (6, .int (zI (plc i (imP U S i x (k + 1) (imW U S i x (imF U S i x) k) n9)))), (7, .int (zI ((imP U S i x (k + 1) (imW U S i x (imF U S i x) k) n9).2.2.2))), (8, .int (zI (x : Int))), (9, .int (zI ((k + 1 : Nat) : Int))), (10, .int (zI ((19 + 14 * i + (2 + 3 * x + (k + 1))) : Int))), (11, .int (zI (S.tr i x (k + 1) : Int))), (12, .int (zI (n9 : Int)))]) C dX11_improve_165  (by decide) rfl ?_
              refine zv_iload C 9 dX11_improve_167 rfl ?_
              refine zv_istore (lv' := [(6, .int (zI ((19 + 14 * i + (2 + 3 * x + (k + 1))) : Int))), (4, .long (zL ((rO U (S.cel i x (k + 1) (S.f n9)) i).2 : Int))), (2, .long (zL ((rO U (S.cel i x (k + 1) (S.f n9)) i).1 : Int))), (13, .long (zL ((rO U (S.cel i x (k + 1) (S.f n9)) i).1 : Int))), (0, .ref (ob E 327)), (1, .int (zI (i : Int))), (7, .int (zI ((imP U S i x (k + 1) (imW U S i x (imF U S i x) k) n9).2.2.2))), (8, .int (zI (x : Int))), (9, .int (zI ((k + 1 : Nat) : Int))), (10, .int (zI ((19 + 14 * i + (2 + 3 * x + (k + 1))) : Int))), (11, .int (zI (S.tr i x (k + 1) : Int))), (12, .int (zI (n9 : Int)))]) C dX11_improve_169  (by decide) rfl ?_
              refine zv_aload_n C 4 dX11_improve_171 rfl rfl ?_
              refine zG10_4 C (by decide : kd 327 = _) kX11_22 dX11_improve_172 ?_
              refine zv_iconst (v := zI 1) C dX11_improve_175 rfl ?_
              refine zv_iload C 11 dX11_improve_176 rfl ?_
              refine zv_iaddZ C dX11_improve_178 ?_
              refine zv_iald (j := 1 + n9) C (by decide : kd 332 = _) (zI_ix (by omega)) (Nat.lt_of_lt_of_eq (show 1 + n9 < 131 by omega) (by decide)) dX11_improve_179 ?_
              refine zv_eqi (y := (zI (S.f n9 : Int))) (by rw [gI_mWI, gI_sI, if_neg (by omega)]; exact hvf n9 (by omega)) ?_
              refine zv_istore (lv' := [(7, .int (zI (S.f n9 : Int))), (6, .int (zI ((19 + 14 * i + (2 + 3 * x + (k + 1))) : Int))), (4, .long (zL ((rO U (S.cel i x (k + 1) (S.f n9)) i).2 : Int))), (2, .long (zL ((rO U (S.cel i x (k + 1) (S.f n9)) i).1 : Int))), (13, .long (zL ((rO U (S.cel i x (k + 1) (S.f n9)) i).1 : Int))), (0, .ref (ob E 327)), (1, .int (zI (i : Int))), (8, .int (zI (x : Int))), (9, .int (zI ((k + 1 : Nat) : Int))), (10, .int (zI ((19 + 14 * i + (2 + 3 * x + (k + 1))) : Int))), (11, .int (zI (S.tr i x (k + 1) : Int))), (12, .int (zI (n9 : Int)))]) C dX11_improve_180  (by decide) rfl ?_
              refine zv_iinc (v := (zI ((n9 : Int) + 1))) (lv' := [(12, .int (zI ((n9 : Int) + 1))), (7, .int (zI (S.f n9 : Int))), (6, .int (zI ((19 + 14 * i + (2 + 3 * x + (k + 1))) : Int))), (4, .long (zL ((rO U (S.cel i x (k + 1) (S.f n9)) i).2 : Int))), (2, .long (zL ((rO U (S.cel i x (k + 1) (S.f n9)) i).1 : Int))), (13, .long (zL ((rO U (S.cel i x (k + 1) (S.f n9)) i).1 : Int))), (0, .ref (ob E 327)), (1, .int (zI (i : Int))), (8, .int (zI (x : Int))), (9, .int (zI ((k + 1 : Nat) : Int))), (10, .int (zI ((19 + 14 * i + (2 + 3 * x + (k + 1))) : Int))), (11, .int (zI (S.tr i x (k + 1) : Int)))]) C 11 dX11_improve_182 rfl (zI_add _ _) (by decide) rfl ?_
              refine zv_goto (tgt := 89) C dX11_improve_185 (by decide) ?_
              have q89_232 : ((n9 : Int) + 1 : Int) = ((n9 + 1 : Nat) : Int) := by omega
              have q89_233 : ((S.f n9 : Int) : Int) = (imP U S i x (k + 1) (imW U S i x (imF U S i x) k) (n9 + 1)).2.2.2 := by first | rw [imP_s, if_neg hno] | rw [imP_s, if_pos hyes]
              have q89_234 : (((19 + 14 * i + (2 + 3 * x + (k + 1))) : Int) : Int) = plc i (imP U S i x (k + 1) (imW U S i x (imF U S i x) k) (n9 + 1)) := by first | rw [imP_s, if_neg hno] | (rw [imP_s, if_pos hyes, plc_p]; omega)
              have q89_235 : (((rO U (S.cel i x (k + 1) (S.f n9)) i).2 : Int) : Int) = ((((rO U (S.cel i x (k + 1) (S.f n9)) i).2) : Nat) : Int) := by rfl
              have q89_236 : (((rO U (S.cel i x (k + 1) (S.f n9)) i).1 : Int) : Int) = ((((rO U (S.cel i x (k + 1) (S.f n9)) i).1) : Nat) : Int) := by rfl
              refine zv_sub (lv' := [(0, .ref (ob E 327)), (1, .int (zI (i : Int))), (2, .long (zL ((((rO U (S.cel i x (k + 1) (S.f n9)) i).1) : Nat) : Int))), (4, .long (zL ((((rO U (S.cel i x (k + 1) (S.f n9)) i).2) : Nat) : Int))), (6, .int (zI (plc i (imP U S i x (k + 1) (imW U S i x (imF U S i x) k) (n9 + 1))))), (7, .int (zI ((imP U S i x (k + 1) (imW U S i x (imF U S i x) k) (n9 + 1)).2.2.2))), (8, .int (zI (x : Int))), (9, .int (zI ((k + 1 : Nat) : Int))), (10, .int (zI ((19 + 14 * i + (2 + 3 * x + (k + 1))) : Int))), (11, .int (zI (S.tr i x (k + 1) : Int))), (12, .int (zI ((n9 + 1 : Nat) : Int)))]) [6, 7, 4, 3, 2, 1, 8, 9, 10, 11, 0] (zcons rfl (zcons rfl (zcons (zqL q89_236) (zcons (zqL q89_235) (zcons (zqI q89_234) (zcons (zqI q89_233) (zcons rfl (zcons rfl (zcons rfl (zcons rfl (zcons (zqI q89_232) rfl))))))))))) ?_
              refine zv_eqS (τ := (mW (sI v9 332 (19 + 14 * i + (2 + 3 * x + (k + 1))) (zI (S.f n9 : Int))) (qPtr U (S.cel i x (k + 1) (S.f n9)) i).1 (qPtr U (S.cel i x (k + 1) (S.f n9)) i).2)) (rfl) ?_
              exact ih89 ((n9 + 1, (mW (sI v9 332 (19 + 14 * i + (2 + 3 * x + (k + 1))) (zI (S.f n9 : Int))) (qPtr U (S.cel i x (k + 1) (S.f n9)) i).1 (qPtr U (S.cel i x (k + 1) (S.f n9)) i).2), ((rO U (S.cel i x (k + 1) (S.f n9)) i).1), ((rO U (S.cel i x (k + 1) (S.f n9)) i).2))) (by first | exact ⟨by show n9 + 1 ≤ S.n; omega, hK3, by rw [imP_s, if_neg hno]; exact hL3⟩ | exact ⟨by show n9 + 1 ≤ S.n; omega, by rw [sI_mW]; exact mK_W hK3 _ _, by rw [imP_s, if_neg hno]; exact hL3⟩ | exact ⟨by show n9 + 1 ≤ S.n; omega, by rw [sI_mW]; exact mK_W hK3 _ _, by rw [imP_s, if_pos hyes]; exact imL_s hU hS9 hi hL3 hcm⟩) (by show S.n - (n9 + 1) < S.n - n9; omega)
            · skip
              have hno : ¬ _ := fun z => absurd (hcc.mp z) (by omega)
              refine zv_goto (tgt := 182) C dX11_improve_155 (by decide) ?_
              refine zv_iinc (v := (zI ((n9 : Int) + 1))) (lv' := [(12, .int (zI ((n9 : Int) + 1))), (13, .long (zL ((rO U (S.cel i x (k + 1) (S.f n9)) i).1 : Int))), (0, .ref (ob E 327)), (1, .int (zI (i : Int))), (2, .long (zL (f3 : Int))), (4, .long (zL (b3 : Int))), (6, .int (zI (plc i (imP U S i x (k + 1) (imW U S i x (imF U S i x) k) n9)))), (7, .int (zI ((imP U S i x (k + 1) (imW U S i x (imF U S i x) k) n9).2.2.2))), (8, .int (zI (x : Int))), (9, .int (zI ((k + 1 : Nat) : Int))), (10, .int (zI ((19 + 14 * i + (2 + 3 * x + (k + 1))) : Int))), (11, .int (zI (S.tr i x (k + 1) : Int)))]) C 11 dX11_improve_182 rfl (zI_add _ _) (by decide) rfl ?_
              refine zv_goto (tgt := 89) C dX11_improve_185 (by decide) ?_
              have q89_245 : ((n9 : Int) + 1 : Int) = ((n9 + 1 : Nat) : Int) := by omega
              have q89_246 : ((imP U S i x (k + 1) (imW U S i x (imF U S i x) k) n9).2.2.2 : Int) = (imP U S i x (k + 1) (imW U S i x (imF U S i x) k) (n9 + 1)).2.2.2 := by first | rw [imP_s, if_neg hno] | rw [imP_s, if_pos hyes]
              have q89_247 : (plc i (imP U S i x (k + 1) (imW U S i x (imF U S i x) k) n9) : Int) = plc i (imP U S i x (k + 1) (imW U S i x (imF U S i x) k) (n9 + 1)) := by first | rw [imP_s, if_neg hno] | (rw [imP_s, if_pos hyes, plc_p]; omega)
              refine zv_sub (lv' := [(0, .ref (ob E 327)), (1, .int (zI (i : Int))), (2, .long (zL (f3 : Int))), (4, .long (zL (b3 : Int))), (6, .int (zI (plc i (imP U S i x (k + 1) (imW U S i x (imF U S i x) k) (n9 + 1))))), (7, .int (zI ((imP U S i x (k + 1) (imW U S i x (imF U S i x) k) (n9 + 1)).2.2.2))), (8, .int (zI (x : Int))), (9, .int (zI ((k + 1 : Nat) : Int))), (10, .int (zI ((19 + 14 * i + (2 + 3 * x + (k + 1))) : Int))), (11, .int (zI (S.tr i x (k + 1) : Int))), (12, .int (zI ((n9 + 1 : Nat) : Int)))]) [2, 3, 4, 5, 6, 7, 8, 9, 10, 11, 0] (zcons rfl (zcons rfl (zcons rfl (zcons rfl (zcons (zqI q89_247) (zcons (zqI q89_246) (zcons rfl (zcons rfl (zcons rfl (zcons rfl (zcons (zqI q89_245) rfl))))))))))) ?_
              refine zv_eqS (τ := (mW (sI v9 332 (19 + 14 * i + (2 + 3 * x + (k + 1))) (zI (S.f n9 : Int))) (qPtr U (S.cel i x (k + 1) (S.f n9)) i).1 (qPtr U (S.cel i x (k + 1) (S.f n9)) i).2)) (rfl) ?_
              exact ih89 ((n9 + 1, (mW (sI v9 332 (19 + 14 * i + (2 + 3 * x + (k + 1))) (zI (S.f n9 : Int))) (qPtr U (S.cel i x (k + 1) (S.f n9)) i).1 (qPtr U (S.cel i x (k + 1) (S.f n9)) i).2), f3, b3)) (by first | exact ⟨by show n9 + 1 ≤ S.n; omega, hK3, by rw [imP_s, if_neg hno]; exact hL3⟩ | exact ⟨by show n9 + 1 ≤ S.n; omega, by rw [sI_mW]; exact mK_W hK3 _ _, by rw [imP_s, if_neg hno]; exact hL3⟩ | exact ⟨by show n9 + 1 ≤ S.n; omega, by rw [sI_mW]; exact mK_W hK3 _ _, by rw [imP_s, if_pos hyes]; exact imL_s hU hS9 hi hL3 hcm⟩) (by show S.n - (n9 + 1) < S.n - n9; omega)
          · skip
            have hno := imL_n (x := x) (w := k + 1) (t := S.f n9) hU hS hi hL3 (by omega)
            refine zv_goto (tgt := 182) C dX11_improve_114 (by decide) ?_
            refine zv_iinc (v := (zI ((n9 : Int) + 1))) (lv' := [(12, .int (zI ((n9 : Int) + 1))), (0, .ref (ob E 327)), (1, .int (zI (i : Int))), (2, .long (zL (f3 : Int))), (4, .long (zL (b3 : Int))), (6, .int (zI (plc i (imP U S i x (k + 1) (imW U S i x (imF U S i x) k) n9)))), (7, .int (zI ((imP U S i x (k + 1) (imW U S i x (imF U S i x) k) n9).2.2.2))), (8, .int (zI (x : Int))), (9, .int (zI ((k + 1 : Nat) : Int))), (10, .int (zI ((19 + 14 * i + (2 + 3 * x + (k + 1))) : Int))), (11, .int (zI (S.tr i x (k + 1) : Int)))]) C 10 dX11_improve_182 rfl (zI_add _ _) (by decide) rfl ?_
            refine zv_goto (tgt := 89) C dX11_improve_185 (by decide) ?_
            have q89_256 : ((n9 : Int) + 1 : Int) = ((n9 + 1 : Nat) : Int) := by omega
            have q89_257 : ((imP U S i x (k + 1) (imW U S i x (imF U S i x) k) n9).2.2.2 : Int) = (imP U S i x (k + 1) (imW U S i x (imF U S i x) k) (n9 + 1)).2.2.2 := by first | rw [imP_s, if_neg hno] | rw [imP_s, if_pos hyes]
            have q89_258 : (plc i (imP U S i x (k + 1) (imW U S i x (imF U S i x) k) n9) : Int) = plc i (imP U S i x (k + 1) (imW U S i x (imF U S i x) k) (n9 + 1)) := by first | rw [imP_s, if_neg hno] | (rw [imP_s, if_pos hyes, plc_p]; omega)
            refine zv_sub (lv' := [(0, .ref (ob E 327)), (1, .int (zI (i : Int))), (2, .long (zL (f3 : Int))), (4, .long (zL (b3 : Int))), (6, .int (zI (plc i (imP U S i x (k + 1) (imW U S i x (imF U S i x) k) (n9 + 1))))), (7, .int (zI ((imP U S i x (k + 1) (imW U S i x (imF U S i x) k) (n9 + 1)).2.2.2))), (8, .int (zI (x : Int))), (9, .int (zI ((k + 1 : Nat) : Int))), (10, .int (zI ((19 + 14 * i + (2 + 3 * x + (k + 1))) : Int))), (11, .int (zI (S.tr i x (k + 1) : Int))), (12, .int (zI ((n9 + 1 : Nat) : Int)))]) [1, 2, 3, 4, 5, 6, 7, 8, 9, 10, 0] (zcons rfl (zcons rfl (zcons rfl (zcons rfl (zcons (zqI q89_258) (zcons (zqI q89_257) (zcons rfl (zcons rfl (zcons rfl (zcons rfl (zcons (zqI q89_256) rfl))))))))))) ?_
            refine zv_eqS (τ := v9) (rfl) ?_
            exact ih89 ((n9 + 1, v9, f3, b3)) (by first | exact ⟨by show n9 + 1 ≤ S.n; omega, hK3, by rw [imP_s, if_neg hno]; exact hL3⟩ | exact ⟨by show n9 + 1 ≤ S.n; omega, by rw [sI_mW]; exact mK_W hK3 _ _, by rw [imP_s, if_neg hno]; exact hL3⟩ | exact ⟨by show n9 + 1 ≤ S.n; omega, by rw [sI_mW]; exact mK_W hK3 _ _, by rw [imP_s, if_pos hyes]; exact imL_s hU hS9 hi hL3 hcm⟩) (by show S.n - (n9 + 1) < S.n - n9; omega)
set_option maxRecDepth 20000 in
theorem c_X11_improve {l : Launch} (hfl : l.stackTraces = false) (E : zE) (σ : zS) (σc : zS) (ni : Nat) (tx : Nat → Int) (ec : Nat) (eo : Int) (U : zSU) (S : zST) (hh : List zST) (kp : Option zST) (ou : List Nat) (i : Nat) (h : zMP σ (zDv.mk ni tx ec eo U S hh kp ou)) (hU : zSUp σc 29 U) (hS : zSTp σc 34 S) (hi : i < U.nb) (hpos : 0 ≤ (imF U S i (S.tn i)).2.2.2) : zRi l E yX11_improve cX11_improve 15 .int (zrm 6 152) [.ref (ob E 327), .int (zI (i : Int))] σ (fun r τ => r = zI (imF U S i (S.tn i)).2.2.2 ∧ mH σ τ ((zDv.mk ni tx ec eo U S hh kp ou).re.sS ((S.cel i (imF U S i (S.tn i)).2.1 (imF U S i (S.tn i)).2.2.1 (imF U S i (S.tn i)).2.2.2.toNat).fre i))) := by
  refine Met.ofW (cc := cX11_improve) (maxL := 15) (ret := (some .int)) (by decide +kernel) rfl ?_
  intro p e s m args below meth c s₁ B hml hv
  obtain ⟨rfl, hd⟩ := hv
  have C := zX_of (own := RX11) hfl B hml rfl hd rfl
  have hr := B.returns
  refine zV_go hd (Nat.le_of_ble_eq_true rfl) (lv := [(0, .ref (ob E 327)), (1, .int (zI (i : Int)))]) rfl ?_
  have hnb : U.nb ≤ 8 := hU.2.2.1
  have hs0 := hU.2.2.2.1
  have hB : zRb (gI σ 328) U := h.2.2.1
  have hW : zRo (gI σ 332) U.nb S := h.2.2.2.2.1.1
  have hk9 : zRk S := h.2.2.2.2.1.2
  have h0 : zMP (thW σ 0) (zDv.mk ni tx ec eo U S hh kp ou) := zMP_q h (mK_th σ 0).1
  have hi8 : i < 8 := by omega
  have hTc := hS.2.2.2.2.2.2 i hi8
  have ht : S.tn i ≤ 4 := hTc.1.2.1
  have hc : ∀ j w, j < S.tn i → w < 3 → S.tr i j w ≤ 100 := fun j w a b => hTc.1.2.2.2 j w a b
  have hn16 : S.n ≤ 16 := hS.1.2.1
  have hf9 : ∀ i, i < S.n → 8 ≤ S.f i ∧ S.f i ≤ 100 := fun i h => ⟨hS.2.1 i h, hS.1.2.2.2 i h⟩
  have hPl : ∀ x, x ≤ S.tn i → -1 ≤ plc i (imF U S i x) ∧ plc i (imF U S i x) ≤ 2147483647 ∧ (imF U S i x).2.2.2 ≤ 100 := fun x hx => plc_b hU hS hi hx
  have hro0 := rO_b hU hS hi
  
  refine zv_aload_n C 0 dX11_improve_0 rfl rfl ?_
  refine zv_iload_n C 1 dX11_improve_1 rfl rfl ?_
  refine zv_cviD (st := []) C (c0_X11_noBody hfl E σ σc U ((i : Int)) hB hU (by omega)) mX11_noBody kX11_319 (by decide : kd 327 = 10) rfl rfl rfl ⟨rfl, rfl⟩ (show zfit (zrm 1 25) 2 (zrm 6 152) = true from rfl) (Nat.le_of_ble_eq_true rfl) dX11_improve_2 ⟨Nat.zero_le _, Nat.zero_le _⟩ ?_
  refine zv_if_eqZ (tgt := 10) C (by omega) dX11_improve_5 (by decide) (fun h5 => ?_) (fun h5 => absurd h5 (by decide))
  refine zv_aload_n C 0 dX11_improve_10 rfl rfl ?_
  refine zv_iload_n C 1 dX11_improve_11 rfl rfl ?_
  refine zv_cvlD (st := []) C (c_X11_offNow hfl E (thW σ 0) σc U S i hB hU hW hS hi) mX11_offNow kX11_418 (by decide : kd 327 = 10) rfl rfl rfl ⟨rfl, rfl⟩ (show zfit (zrm 5 127) 6 (zrm 6 152) = true from rfl) (Nat.le_of_ble_eq_true rfl) dX11_improve_12 ⟨Nat.zero_le _, Nat.zero_le _⟩ ?_
  refine zv_lstore_n (lv' := [(2, .long (zL ((rO U S i).1 : Int))), (0, .ref (ob E 327)), (1, .int (zI (i : Int)))]) C dX11_improve_15 rfl (by decide) rfl ?_
  refine zv_aload_n C 1 dX11_improve_16 rfl rfl ?_
  refine zG10_23 C (by decide : kd 327 = _) kX11_253 dX11_improve_17 ?_
  refine zv_eql (y := (zL ((rO U S i).2 : Int))) ((mW_r _ _ _).2.trans (congrArg zL (rO_b hU hS hi).2.2.symm)) ?_
  refine zv_lstore (lv' := [(4, .long (zL ((rO U S i).2 : Int))), (2, .long (zL ((rO U S i).1 : Int))), (0, .ref (ob E 327)), (1, .int (zI (i : Int)))]) C dX11_improve_20  (by decide) rfl ?_
  refine zv_iconst (v := zI (-1)) C dX11_improve_22 rfl ?_
  refine zv_istore (lv' := [(6, .int (zI (-1))), (4, .long (zL ((rO U S i).2 : Int))), (2, .long (zL ((rO U S i).1 : Int))), (0, .ref (ob E 327)), (1, .int (zI (i : Int)))]) C dX11_improve_23  (by decide) rfl ?_
  refine zv_iconst (v := zI (-1)) C dX11_improve_25 rfl ?_
  refine zv_istore (lv' := [(7, .int (zI (-1))), (6, .int (zI (-1))), (4, .long (zL ((rO U S i).2 : Int))), (2, .long (zL ((rO U S i).1 : Int))), (0, .ref (ob E 327)), (1, .int (zI (i : Int)))]) C dX11_improve_26  (by decide) rfl ?_
  refine zv_iconst (v := zI 0) C dX11_improve_28 rfl ?_
  refine zv_istore (lv' := [(8, .int (zI 0)), (7, .int (zI (-1))), (6, .int (zI (-1))), (4, .long (zL ((rO U S i).2 : Int))), (2, .long (zL ((rO U S i).1 : Int))), (0, .ref (ob E 327)), (1, .int (zI (i : Int)))]) C dX11_improve_29  (by decide) rfl ?_
  have q31_33 : (0 : Int) = (0 : Int) := by rfl
  have q31_34 : ((-1) : Int) = (imF U S i 0).2.2.2 := by rfl
  have q31_35 : ((-1) : Int) = plc i (imF U S i 0) := by rfl
  have q31_36 : (((rO U S i).2 : Int) : Int) = (((rO U S i).2 : Nat) : Int) := by rfl
  have q31_37 : (((rO U S i).1 : Int) : Int) = (((rO U S i).1 : Nat) : Int) := by rfl
  refine zv_sub (lv' := [(0, .ref (ob E 327)), (1, .int (zI (i : Int))), (2, .long (zL (((rO U S i).1 : Nat) : Int))), (4, .long (zL (((rO U S i).2 : Nat) : Int))), (6, .int (zI (plc i (imF U S i 0)))), (7, .int (zI ((imF U S i 0).2.2.2))), (8, .int (zI (0 : Int)))]) [5, 6, 4, 3, 2, 1, 0] (zcons rfl (zcons rfl (zcons (zqL q31_37) (zcons (zqL q31_36) (zcons (zqI q31_35) (zcons (zqI q31_34) (zcons (zqI q31_33) rfl))))))) ?_
  refine zv_eqS (τ := (mW (thW σ 0) (qPtr U S i).1 (qPtr U S i).2)) (rfl) ?_
  refine zv_while (α := Nat × zS × Nat × Nat) (fun v => S.tn i - v.1) (fun v => v.1 ≤ S.tn i ∧ mK σ v.2.1 0 ∧ imL U S i v.2.2.1 v.2.2.2 (imF U S i v.1).1) (fun v => v.2.1) (fun v => [(0, .ref (ob E 327)), (1, .int (zI (i : Int))), (2, .long (zL (v.2.2.1 : Int))), (4, .long (zL (v.2.2.2 : Int))), (6, .int (zI (plc i (imF U S i v.1)))), (7, .int (zI ((imF U S i v.1).2.2.2))), (8, .int (zI (v.1 : Int)))]) (fun v => []) (fun v hI ih => ?_) ((0, (mW (thW σ 0) (qPtr U S i).1 (qPtr U S i).2), (rO U S i).1, (rO U S i).2)) (⟨Nat.zero_le _, mK_W (mK_th _ _) _ _, imL_0 hS i⟩)
  obtain ⟨x, u, f1, b1⟩ := v
  dsimp only at hI ih ⊢
  obtain ⟨hx, hK, hL⟩ := hI
  have hW1 : zRo (gI u 332) U.nb S := mK_R hK hW
  have hLb := imL_b hU hi hL
  have hplc : -1 ≤ plc i (imF U S i x) ∧ plc i (imF U S i x) ≤ 2147483647 ∧ (imF U S i x).2.2.2 ≤ 100 := hPl x hx
  refine zv_iload C 6 dX11_improve_31 rfl ?_
  refine zv_aload_n C 0 dX11_improve_33 rfl rfl ?_
  refine zv_iload_n C 1 dX11_improve_34 rfl rfl ?_
  refine zv_cviD (st := [.int (zI (x : Int))]) C (c_X11_parts hfl E u U.nb S i hW1 hi8) mX11_parts kX11_188 (by decide : kd 327 = 10) rfl rfl rfl ⟨rfl, rfl⟩ (show zfit (zrm 1 21) 2 (zrm 6 152) = true from rfl) (Nat.le_of_ble_eq_true rfl) dX11_improve_35 ⟨Nat.zero_le _, Nat.zero_le _⟩ ?_
  refine zv_icmp_geZ (tgt := 209) C (by omega) (by omega) dX11_improve_38 (by decide) (fun h38 => ?_) (fun h38 => ?_)
  · skip
    have hxe : S.tn i = x := by omega
    rw [hxe] at hpos
    have hpl : plc i (imF U S i x) = (((19 + 14 * i + (2 + 3 * (imF U S i x).2.1 + (imF U S i x).2.2.1)) : Nat) : Int) := if_neg (by omega)
    obtain ⟨-, hok2, hok3⟩ := imF_ok hU hS hi x hx
    obtain ⟨hp1, hp2, hp3, hp4⟩ := hok3 (by omega)
    have htn : (((imF U S i x).2.2.2.toNat : Nat) : Int) = (imF U S i x).2.2.2 := by omega
    have hz0 : zMP u (zDv.mk ni tx ec eo U S hh kp ou) := zMP_q h hK.1
    refine zv_iload C 4 dX11_improve_209 rfl ?_
    refine zv_iconst (v := zI (-1)) C dX11_improve_211 rfl ?_
    refine zv_icmp_neZ (tgt := 217) C (by omega) (by omega) dX11_improve_212 (by decide) (fun h212 => ?_) (fun h212 => ?_)
    · skip
      refine zv_aload_n C 0 dX11_improve_217 rfl rfl ?_
      refine zv_cvv (st := []) C (c_X11_remembers hfl E u (zDv.mk ni tx ec eo U S hh kp ou) hz0) mX11_remembers kX11_392 (by decide : kd 327 = 10) rfl rfl rfl ⟨rfl, rfl⟩ (show zfit (zrm 1 25) 1 (zrm 6 152) = true from rfl) (Nat.le_of_ble_eq_true rfl) dX11_improve_218 ⟨Nat.zero_le _, Nat.zero_le _⟩ (fun τ1 hp218 => ?_)
      obtain ⟨hz1, hz2, hz3, hz4⟩ := hp218
      have hW7 : zRo (gI τ1 332) U.nb S := by rw [hz4]; exact hW1
      have ht7 : gI τ1 327 10 = zI 0 := hz2.trans hK.2
      have hf7 : zFr 327 339 σ τ1 := zFr_trans (mS_fr hK.1) hz3
      have hq7 := zRo_cel (i := i) (x := (imF U S i x).2.1) (w := (imF U S i x).2.2.1) (imF U S i x).2.2.2.toNat hW7 hk9 hi8 hp1 (by omega)
      rw [htn] at hq7
      refine zv_aload_n C 0 dX11_improve_221 rfl rfl ?_
      refine zG10_4 C (by decide : kd 327 = _) kX11_22 dX11_improve_222 ?_
      refine zv_iload C 4 dX11_improve_225 rfl ?_
      refine zv_iload C 5 dX11_improve_227 rfl ?_
      refine zv_iast (j := (19 + 14 * i + (2 + 3 * (imF U S i x).2.1 + (imF U S i x).2.2.1))) C (by decide : kd 332 = _) (zI_ix hpl) (Nat.lt_of_lt_of_eq (show (19 + 14 * i + (2 + 3 * (imF U S i x).2.1 + (imF U S i x).2.2.1)) < 131 by omega) (by decide)) dX11_improve_229 ?_
      refine zv_aload_n C 0 dX11_improve_230 rfl rfl ?_
      refine zv_iload_n C 1 dX11_improve_231 rfl rfl ?_
      refine zv_cvvD (st := []) C (c_X11_frees hfl E (sI τ1 332 (19 + 14 * i + (2 + 3 * (imF U S i x).2.1 + (imF U S i x).2.2.1)) (zI ((imF U S i x).2.2.2))) i (by omega)) mX11_frees kX11_395 (by decide : kd 327 = 10) rfl rfl rfl ⟨rfl, rfl⟩ (show zfit (zrm 1 21) 2 (zrm 6 152) = true from rfl) (Nat.le_of_ble_eq_true rfl) dX11_improve_232 ⟨Nat.zero_le _, Nat.zero_le _⟩ ?_
      refine zv_iload C 5 dX11_improve_235 rfl ?_
      exact zv_iret C hr rfl dX11_improve_237 (by rw [hxe]; exact ⟨rfl, zMP_x hz1 (zRo_fre hq7 (zRk_cel hk9 i _ _ _) hi8) (zRk_cel hk9 i _ _ _) (zMx_I (zMx_I (zMx_r _) _ _) _ _), ht7, zFr_I (zFr_I hf7 (by decide)) (by decide)⟩)
    · exfalso
      omega
  · skip
    refine zv_iconst (v := zI 1) C dX11_improve_41 rfl ?_
    refine zv_istore (lv' := [(9, .int (zI 1)), (0, .ref (ob E 327)), (1, .int (zI (i : Int))), (2, .long (zL (f1 : Int))), (4, .long (zL (b1 : Int))), (6, .int (zI (plc i (imF U S i x)))), (7, .int (zI ((imF U S i x).2.2.2))), (8, .int (zI (x : Int)))]) C dX11_improve_42  (by decide) rfl ?_
    have q44_87 : (1 : Int) = ((0 + 1 : Nat) : Int) := by rfl
    have q44_88 : ((imF U S i x).2.2.2 : Int) = (imW U S i x (imF U S i x) 0).2.2.2 := by rfl
    have q44_89 : (plc i (imF U S i x) : Int) = plc i (imW U S i x (imF U S i x) 0) := by rfl
    refine zv_sub (lv' := [(0, .ref (ob E 327)), (1, .int (zI (i : Int))), (2, .long (zL (f1 : Int))), (4, .long (zL (b1 : Int))), (6, .int (zI (plc i (imW U S i x (imF U S i x) 0)))), (7, .int (zI ((imW U S i x (imF U S i x) 0).2.2.2))), (8, .int (zI (x : Int))), (9, .int (zI ((0 + 1 : Nat) : Int)))]) [1, 2, 3, 4, 5, 6, 7, 0] (zcons rfl (zcons rfl (zcons rfl (zcons rfl (zcons (zqI q44_89) (zcons (zqI q44_88) (zcons rfl (zcons (zqI q44_87) rfl)))))))) ?_
    refine zv_eqS (τ := u) (rfl) ?_
    refine zv_while (α := Nat × zS × Nat × Nat) (fun v => 2 - v.1) (fun v => v.1 ≤ 2 ∧ mK σ v.2.1 0 ∧ imL U S i v.2.2.1 v.2.2.2 (imW U S i x (imF U S i x) v.1).1 ∧ (S.tr i x 0 = 2 → v.1 = 0)) (fun v => v.2.1) (fun v => [(0, .ref (ob E 327)), (1, .int (zI (i : Int))), (2, .long (zL (v.2.2.1 : Int))), (4, .long (zL (v.2.2.2 : Int))), (6, .int (zI (plc i (imW U S i x (imF U S i x) v.1)))), (7, .int (zI ((imW U S i x (imF U S i x) v.1).2.2.2))), (8, .int (zI (x : Int))), (9, .int (zI ((v.1 + 1 : Nat) : Int)))]) (fun v => []) (fun v hI ih44 => ?_) ((0, u, f1, b1)) (⟨Nat.zero_le _, hK, hL, fun _ => rfl⟩)
    obtain ⟨k, u2, f2, b2⟩ := v
    dsimp only at hI ih44 ⊢
    obtain ⟨hk2, hK2, hL2, hC2⟩ := hI
    have hW2 : zRo (gI u2 332) U.nb S := mK_R hK2 hW
    have hLb2 := imL_b hU hi hL2
    refine zv_iload C 7 dX11_improve_44 rfl ?_
    refine zv_iconst (v := zI 3) C dX11_improve_46 rfl ?_
    refine zv_icmp_geZ (tgt := 203) C (by omega) (by omega) dX11_improve_47 (by decide) (fun h47 => ?_) (fun h47 => ?_)
    · skip
      have hEx : imF U S i (x + 1) = imW U S i x (imF U S i x) k := by rw [imF, if_neg (fun z => by have := hC2 z; omega), show k = 2 by omega]
      refine zv_iinc (v := (zI ((x : Int) + 1))) (lv' := [(8, .int (zI ((x : Int) + 1))), (0, .ref (ob E 327)), (1, .int (zI (i : Int))), (2, .long (zL (f2 : Int))), (4, .long (zL (b2 : Int))), (6, .int (zI (plc i (imW U S i x (imF U S i x) k)))), (7, .int (zI ((imW U S i x (imF U S i x) k).2.2.2))), (9, .int (zI ((k + 1 : Nat) : Int)))]) C 6 dX11_improve_203 rfl (zI_add _ _) (by decide) rfl ?_
      refine zv_goto (tgt := 31) C dX11_improve_206 (by decide) ?_
      have q31_105 : ((x : Int) + 1 : Int) = ((x + 1 : Nat) : Int) := by omega
      have q31_106 : ((imW U S i x (imF U S i x) k).2.2.2 : Int) = (imF U S i (x + 1)).2.2.2 := by rw [hEx]
      have q31_107 : (plc i (imW U S i x (imF U S i x) k) : Int) = plc i (imF U S i (x + 1)) := by rw [hEx]
      refine zv_sub (lv' := [(0, .ref (ob E 327)), (1, .int (zI (i : Int))), (2, .long (zL (f2 : Int))), (4, .long (zL (b2 : Int))), (6, .int (zI (plc i (imF U S i (x + 1))))), (7, .int (zI ((imF U S i (x + 1)).2.2.2))), (8, .int (zI ((x + 1 : Nat) : Int)))]) [1, 2, 3, 4, 5, 6, 0] (zcons rfl (zcons rfl (zcons rfl (zcons rfl (zcons (zqI q31_107) (zcons (zqI q31_106) (zcons (zqI q31_105) rfl))))))) ?_
      refine zv_eqS (τ := u2) (rfl) ?_
      exact ih ((x + 1, u2, f2, b2)) (⟨by show x + 1 ≤ S.tn i; omega, hK2, by show imL U S i f2 b2 (imF U S i (x + 1)).1; rw [hEx]; exact hL2⟩) (by show S.tn i - (x + 1) < S.tn i - x; omega)
    · skip
      have hc0 := hc x 0 (by omega) (by omega)
      refine zv_aload_n C 0 dX11_improve_50 rfl rfl ?_
      refine zv_iload_n C 1 dX11_improve_51 rfl rfl ?_
      refine zv_iload C 6 dX11_improve_52 rfl ?_
      refine zv_iconst (v := zI 0) C dX11_improve_54 rfl ?_
      refine zv_cviD (st := []) C (c_X11_partOf hfl E u2 U.nb S i x 0 hW2 hi8 (by omega) ht (by omega)) mX11_partOf kX11_191 (by decide : kd 327 = 10) rfl rfl rfl ⟨rfl, rfl⟩ (show zfit (zrm 1 21) 4 (zrm 6 152) = true from rfl) (Nat.le_of_ble_eq_true rfl) dX11_improve_55 ⟨Nat.zero_le _, Nat.zero_le _⟩ ?_
      refine zv_iconst (v := zI 2) C dX11_improve_58 rfl ?_
      refine zv_icmp_eqZ (tgt := 203) C (by omega) (by omega) dX11_improve_59 (by decide) (fun h59 => ?_) (fun h59 => ?_)
      · skip
        have h2 : S.tr i x 0 = 2 := by omega
        have hEx : imF U S i (x + 1) = imW U S i x (imF U S i x) k := by rw [imF, if_pos h2, hC2 h2]; rfl
        refine zv_iinc (v := (zI ((x : Int) + 1))) (lv' := [(8, .int (zI ((x : Int) + 1))), (0, .ref (ob E 327)), (1, .int (zI (i : Int))), (2, .long (zL (f2 : Int))), (4, .long (zL (b2 : Int))), (6, .int (zI (plc i (imW U S i x (imF U S i x) k)))), (7, .int (zI ((imW U S i x (imF U S i x) k).2.2.2))), (9, .int (zI ((k + 1 : Nat) : Int)))]) C 6 dX11_improve_203 rfl (zI_add _ _) (by decide) rfl ?_
        refine zv_goto (tgt := 31) C dX11_improve_206 (by decide) ?_
        have q31_125 : ((x : Int) + 1 : Int) = ((x + 1 : Nat) : Int) := by omega
        have q31_126 : ((imW U S i x (imF U S i x) k).2.2.2 : Int) = (imF U S i (x + 1)).2.2.2 := by rw [hEx]
        have q31_127 : (plc i (imW U S i x (imF U S i x) k) : Int) = plc i (imF U S i (x + 1)) := by rw [hEx]
        refine zv_sub (lv' := [(0, .ref (ob E 327)), (1, .int (zI (i : Int))), (2, .long (zL (f2 : Int))), (4, .long (zL (b2 : Int))), (6, .int (zI (plc i (imF U S i (x + 1))))), (7, .int (zI ((imF U S i (x + 1)).2.2.2))), (8, .int (zI ((x + 1 : Nat) : Int)))]) [1, 2, 3, 4, 5, 6, 0] (zcons rfl (zcons rfl (zcons rfl (zcons rfl (zcons (zqI q31_127) (zcons (zqI q31_126) (zcons (zqI q31_125) rfl))))))) ?_
        refine zv_eqS (τ := u2) (rfl) ?_
        exact ih ((x + 1, u2, f2, b2)) (⟨by show x + 1 ≤ S.tn i; omega, hK2, by show imL U S i f2 b2 (imF U S i (x + 1)).1; rw [hEx]; exact hL2⟩) (by show S.tn i - (x + 1) < S.tn i - x; omega)
      · skip
        have hg : S.tr i x 0 ≠ 2 := by omega
        have hat : gI u2 332 (19 + 14 * i + (2 + 3 * x + (k + 1))) = zI (S.tr i x (k + 1) : Int) := by
          rw [show (19 + 14 * i + (2 + 3 * x + (k + 1))) = 21 + 14 * i + 3 * x + (k + 1) by omega]
          exact (hW2.2.2.2.2 i hi8).2.2 x (k + 1) (by omega) (by omega)
        have hwb := hc x (k + 1) (by omega) (by omega)
        refine zv_iload_n C 1 dX11_improve_62 rfl rfl ?_
        refine zv_iconst (v := zI 2) C dX11_improve_63 rfl ?_
        refine zv_iconst (v := zI 3) C dX11_improve_64 rfl ?_
        refine zv_iload C 6 dX11_improve_65 rfl ?_
        refine zv_imulZ C dX11_improve_67 ?_
        refine zv_iaddZ C dX11_improve_68 ?_
        refine zv_iload C 7 dX11_improve_69 rfl ?_
        refine zv_iaddZ C dX11_improve_71 ?_
        refine zv_eqi (y := (zI ((2 + 3 * x + (k + 1) : Nat) : Int))) (congrArg zI (by omega)) ?_
        refine zv_csiD (st := []) C (c_X11_trainAt hfl E u2 i (2 + 3 * x + (k + 1)) (by omega) (by omega)) mX11_trainAt kX11_53 rfl ⟨rfl, rfl⟩ (show zfit (zrm 0 0) 2 (zrm 6 152) = true from rfl) (Nat.le_of_ble_eq_true rfl) dX11_improve_72 ⟨Nat.zero_le _, Nat.zero_le _⟩ ?_
        refine zv_istore (lv' := [(10, .int (zI ((19 + 14 * i + (2 + 3 * x + (k + 1))) : Int))), (0, .ref (ob E 327)), (1, .int (zI (i : Int))), (2, .long (zL (f2 : Int))), (4, .long (zL (b2 : Int))), (6, .int (zI (plc i (imW U S i x (imF U S i x) k)))), (7, .int (zI ((imW U S i x (imF U S i x) k).2.2.2))), (8, .int (zI (x : Int))), (9, .int (zI ((k + 1 : Nat) : Int)))]) C dX11_improve_75  (by decide) rfl ?_
        refine zv_aload_n C 1 dX11_improve_77 rfl rfl ?_
        refine zG10_4 C (by decide : kd 327 = _) kX11_22 dX11_improve_78 ?_
        refine zv_iload C 0 dX11_improve_81 rfl ?_
        refine zv_iald (j := (19 + 14 * i + (2 + 3 * x + (k + 1)))) C (by decide : kd 332 = _) (zI_ix rfl) (Nat.lt_of_lt_of_eq (show (19 + 14 * i + (2 + 3 * x + (k + 1))) < 131 by omega) (by decide)) dX11_improve_83 ?_
        refine zv_eqi (y := (zI (S.tr i x (k + 1) : Int))) (hat) ?_
        refine zv_istore (lv' := [(11, .int (zI (S.tr i x (k + 1) : Int))), (10, .int (zI ((19 + 14 * i + (2 + 3 * x + (k + 1))) : Int))), (0, .ref (ob E 327)), (1, .int (zI (i : Int))), (2, .long (zL (f2 : Int))), (4, .long (zL (b2 : Int))), (6, .int (zI (plc i (imW U S i x (imF U S i x) k)))), (7, .int (zI ((imW U S i x (imF U S i x) k).2.2.2))), (8, .int (zI (x : Int))), (9, .int (zI ((k + 1 : Nat) : Int)))]) C dX11_improve_84  (by decide) rfl ?_
        refine zv_iconst (v := zI 0) C dX11_improve_86 rfl ?_
        refine zv_istore (lv' := [(12, .int (zI 0)), (11, .int (zI (S.tr i x (k + 1) : Int))), (10, .int (zI ((19 + 14 * i + (2 + 3 * x + (k + 1))) : Int))), (0, .ref (ob E 327)), (1, .int (zI (i : Int))), (2, .long (zL (f2 : Int))), (4, .long (zL (b2 : Int))), (6, .int (zI (plc i (imW U S i x (imF U S i x) k)))), (7, .int (zI ((imW U S i x (imF U S i x) k).2.2.2))), (8, .int (zI (x : Int))), (9, .int (zI ((k + 1 : Nat) : Int)))]) C dX11_improve_87  (by decide) rfl ?_
        have q89_156 : (0 : Int) = (0 : Int) := by rfl
        have q89_157 : ((imW U S i x (imF U S i x) k).2.2.2 : Int) = (imP U S i x (k + 1) (imW U S i x (imF U S i x) k) 0).2.2.2 := by rw [imP_0]
        have q89_158 : (plc i (imW U S i x (imF U S i x) k) : Int) = plc i (imP U S i x (k + 1) (imW U S i x (imF U S i x) k) 0) := by rw [imP_0]
        refine zv_sub (lv' := [(0, .ref (ob E 327)), (1, .int (zI (i : Int))), (2, .long (zL (f2 : Int))), (4, .long (zL (b2 : Int))), (6, .int (zI (plc i (imP U S i x (k + 1) (imW U S i x (imF U S i x) k) 0)))), (7, .int (zI ((imP U S i x (k + 1) (imW U S i x (imF U S i x) k) 0).2.2.2))), (8, .int (zI (x : Int))), (9, .int (zI ((k + 1 : Nat) : Int))), (10, .int (zI ((19 + 14 * i + (2 + 3 * x + (k + 1))) : Int))), (11, .int (zI (S.tr i x (k + 1) : Int))), (12, .int (zI (0 : Int)))]) [3, 4, 5, 6, 7, 8, 9, 10, 2, 1, 0] (zcons rfl (zcons rfl (zcons rfl (zcons rfl (zcons (zqI q89_158) (zcons (zqI q89_157) (zcons rfl (zcons rfl (zcons rfl (zcons rfl (zcons (zqI q89_156) rfl))))))))))) ?_
        refine zv_eqS (τ := u2) (rfl) ?_
        refine zv_while (α := Nat × zS × Nat × Nat) (fun v => S.n - v.1) (fun v => v.1 ≤ S.n ∧ mK σ (sI v.2.1 332 (19 + 14 * i + (2 + 3 * x + (k + 1))) (zI (S.tr i x (k + 1) : Int))) 0 ∧ imL U S i v.2.2.1 v.2.2.2 (imP U S i x (k + 1) (imW U S i x (imF U S i x) k) v.1).1) (fun v => v.2.1) (fun v => [(0, .ref (ob E 327)), (1, .int (zI (i : Int))), (2, .long (zL (v.2.2.1 : Int))), (4, .long (zL (v.2.2.2 : Int))), (6, .int (zI (plc i (imP U S i x (k + 1) (imW U S i x (imF U S i x) k) v.1)))), (7, .int (zI ((imP U S i x (k + 1) (imW U S i x (imF U S i x) k) v.1).2.2.2))), (8, .int (zI (x : Int))), (9, .int (zI ((k + 1 : Nat) : Int))), (10, .int (zI ((19 + 14 * i + (2 + 3 * x + (k + 1))) : Int))), (11, .int (zI (S.tr i x (k + 1) : Int))), (12, .int (zI (v.1 : Int)))]) (fun v => []) (fun v hI ih89 => ?_) ((0, u2, f2, b2)) (⟨Nat.zero_le _, by show mK σ (sI u2 332 (19 + 14 * i + (2 + 3 * x + (k + 1))) (zI (S.tr i x (k + 1) : Int))) 0; rw [sI_self hat]; exact hK2, by rw [imP_0]; exact hL2⟩)
        obtain ⟨n9, v9, f3, b3⟩ := v
        dsimp only at hI ih89 ⊢
        obtain ⟨hn9, hK3, hL3⟩ := hI
        obtain ⟨hv0, hvf⟩ := mV hK3 hW hn16 (by omega)
        have hLb3 := imL_b hU hi hL3
        refine zv_iload C 10 dX11_improve_89 rfl ?_
        refine zv_aload_n C 0 dX11_improve_91 rfl rfl ?_
        refine zG10_4 C (by decide : kd 327 = _) kX11_22 dX11_improve_92 ?_
        refine zv_iconst (v := zI 0) C dX11_improve_95 rfl ?_
        refine zv_iald (j := 0) C (by decide : kd 332 = _) (zI_ix (by omega)) (by decide) dX11_improve_96 ?_
        refine zv_eqi (y := (zI (S.n : Int))) (hv0) ?_
        refine zv_icmp_geZ (tgt := 188) C (by omega) (by omega) dX11_improve_97 (by decide) (fun h97 => ?_) (fun h97 => ?_)
        · skip
          have hse : n9 = S.n := by omega
          refine zv_aload_n C 0 dX11_improve_188 rfl rfl ?_
          refine zG10_4 C (by decide : kd 327 = _) kX11_22 dX11_improve_189 ?_
          refine zv_iload C 8 dX11_improve_192 rfl ?_
          refine zv_iload C 9 dX11_improve_194 rfl ?_
          refine zv_iast (j := (19 + 14 * i + (2 + 3 * x + (k + 1)))) C (by decide : kd 332 = _) (zI_ix rfl) (Nat.lt_of_lt_of_eq (show (19 + 14 * i + (2 + 3 * x + (k + 1))) < 131 by omega) (by decide)) dX11_improve_196 ?_
          refine zv_iinc (v := (zI (((k + 1 : Nat) : Int) + 1))) (lv' := [(9, .int (zI (((k + 1 : Nat) : Int) + 1))), (0, .ref (ob E 327)), (1, .int (zI (i : Int))), (2, .long (zL (f3 : Int))), (4, .long (zL (b3 : Int))), (6, .int (zI (plc i (imP U S i x (k + 1) (imW U S i x (imF U S i x) k) n9)))), (7, .int (zI ((imP U S i x (k + 1) (imW U S i x (imF U S i x) k) n9).2.2.2))), (8, .int (zI (x : Int))), (10, .int (zI ((19 + 14 * i + (2 + 3 * x + (k + 1))) : Int))), (11, .int (zI (S.tr i x (k + 1) : Int))), (12, .int (zI (n9 : Int)))]) C 7 dX11_improve_197 rfl (zI_add _ _) (by decide) rfl ?_
          refine zv_goto (tgt := 44) C dX11_improve_200 (by decide) ?_
          have q44_183 : (((k + 1 : Nat) : Int) + 1 : Int) = (((k + 1) + 1 : Nat) : Int) := by omega
          have q44_184 : ((imP U S i x (k + 1) (imW U S i x (imF U S i x) k) n9).2.2.2 : Int) = (imW U S i x (imF U S i x) (k + 1)).2.2.2 := by rw [hse]; rfl
          have q44_185 : (plc i (imP U S i x (k + 1) (imW U S i x (imF U S i x) k) n9) : Int) = plc i (imW U S i x (imF U S i x) (k + 1)) := by rw [hse]; rfl
          refine zv_sub (lv' := [(0, .ref (ob E 327)), (1, .int (zI (i : Int))), (2, .long (zL (f3 : Int))), (4, .long (zL (b3 : Int))), (6, .int (zI (plc i (imW U S i x (imF U S i x) (k + 1))))), (7, .int (zI ((imW U S i x (imF U S i x) (k + 1)).2.2.2))), (8, .int (zI (x : Int))), (9, .int (zI (((k + 1) + 1 : Nat) : Int)))]) [1, 2, 3, 4, 5, 6, 7, 0] (zcons rfl (zcons rfl (zcons rfl (zcons rfl (zcons (zqI q44_185) (zcons (zqI q44_184) (zcons rfl (zcons (zqI q44_183) rfl)))))))) ?_
          refine zv_eqS (τ := (sI v9 332 (19 + 14 * i + (2 + 3 * x + (k + 1))) (zI (S.tr i x (k + 1) : Int)))) (rfl) ?_
          exact ih44 ((k + 1, (sI v9 332 (19 + 14 * i + (2 + 3 * x + (k + 1))) (zI (S.tr i x (k + 1) : Int))), f3, b3)) (⟨by show k + 1 ≤ 2; omega, hK3, by show imL U S i f3 b3 (imP U S i x (k + 1) (imW U S i x (imF U S i x) k) S.n).1; rw [← hse]; exact hL3, fun z => absurd z hg⟩) (by show 2 - (k + 1) < 2 - k; omega)
        · skip
          have hfn := hf9 n9 (by omega)
          refine zv_aload_n C 0 dX11_improve_100 rfl rfl ?_
          refine zG10_4 C (by decide : kd 327 = _) kX11_22 dX11_improve_101 ?_
          refine zv_iconst (v := zI 1) C dX11_improve_104 rfl ?_
          refine zv_iload C 10 dX11_improve_105 rfl ?_
          refine zv_iaddZ C dX11_improve_107 ?_
          refine zv_iald (j := 1 + n9) C (by decide : kd 332 = _) (zI_ix (by omega)) (Nat.lt_of_lt_of_eq (show 1 + n9 < 131 by omega) (by decide)) dX11_improve_108 ?_
          refine zv_eqi (y := (zI (S.f n9 : Int))) (hvf n9 (by omega)) ?_
          refine zv_iload C 9 dX11_improve_109 rfl ?_
          refine zv_icmp_neZ (tgt := 117) C (by omega) (by omega) dX11_improve_111 (by decide) (fun h111 => ?_) (fun h111 => ?_)
          · skip
            obtain ⟨σ9, hU9, hS9⟩ := cel_ok (t := S.f n9) hU hS hi8 (show x < S.tn i by omega) (show k + 1 = 1 ∨ k + 1 = 2 by omega) hg (by omega)
            have hB9 : zRb (gI (sI v9 332 (19 + 14 * i + (2 + 3 * x + (k + 1))) (zI (S.f n9 : Int))) 328) U := by
              rw [show gI (sI v9 332 (19 + 14 * i + (2 + 3 * x + (k + 1))) (zI (S.f n9 : Int))) 328 = gI (sI v9 332 (19 + 14 * i + (2 + 3 * x + (k + 1))) (zI (S.tr i x (k + 1) : Int))) 328 from funext fun j => by rw [gI_sI, if_neg (by omega), gI_sI, if_neg (by omega)]]
              exact mK_B hK3 hB
            have hro := rO_b hU9 hS9 hi
            have hcc := imL_c hU hS9 hi hL3
            have hW9 : zRo (gI (sI v9 332 (19 + 14 * i + (2 + 3 * x + (k + 1))) (zI (S.f n9 : Int))) 332) U.nb (S.cel i x (k + 1) (S.f n9)) := by
              have := zRo_cel (i := i) (x := x) (w := k + 1) (S.f n9) (mK_R hK3 hW) hk9 hi8 (by omega) (by omega)
              rw [sI_o] at this
              exact this
            have hmul : (rO U (S.cel i x (k + 1) (S.f n9)) i).2 * b3 ≤ 100000000 * 100000000 := Nat.mul_le_mul hro.2.1.2 hLb3.2.2
            refine zv_aload_n C 0 dX11_improve_117 rfl rfl ?_
            refine zG10_4 C (by decide : kd 327 = _) kX11_22 dX11_improve_118 ?_
            refine zv_iload C 8 dX11_improve_121 rfl ?_
            refine zv_aload_n C 0 dX11_improve_123 rfl rfl ?_
            refine zG10_4 C (by decide : kd 327 = _) kX11_22 dX11_improve_124 ?_
            refine zv_iconst (v := zI 1) C dX11_improve_127 rfl ?_
            refine zv_iload C 10 dX11_improve_128 rfl ?_
            refine zv_iaddZ C dX11_improve_130 ?_
            refine zv_iald (j := 1 + n9) C (by decide : kd 332 = _) (zI_ix (by omega)) (Nat.lt_of_lt_of_eq (show 1 + n9 < 131 by omega) (by decide)) dX11_improve_131 ?_
            refine zv_eqi (y := (zI (S.f n9 : Int))) (hvf n9 (by omega)) ?_
            refine zv_iast (j := (19 + 14 * i + (2 + 3 * x + (k + 1)))) C (by decide : kd 332 = _) (zI_ix rfl) (Nat.lt_of_lt_of_eq (show (19 + 14 * i + (2 + 3 * x + (k + 1))) < 131 by omega) (by decide)) dX11_improve_132 ?_
            refine zv_aload_n C 0 dX11_improve_133 rfl rfl ?_
            refine zv_iload_n C 1 dX11_improve_134 rfl rfl ?_
            refine zv_cvlD (st := []) C (c_X11_offNow hfl E (sI v9 332 (19 + 14 * i + (2 + 3 * x + (k + 1))) (zI (S.f n9 : Int))) σ9 U (S.cel i x (k + 1) (S.f n9)) i hB9 hU9 hW9 hS9 hi) mX11_offNow kX11_418 (by decide : kd 327 = 10) rfl rfl rfl ⟨rfl, rfl⟩ (show zfit (zrm 5 127) 6 (zrm 6 152) = true from rfl) (Nat.le_of_ble_eq_true rfl) dX11_improve_135 ⟨Nat.zero_le _, Nat.zero_le _⟩ ?_
            refine zv_lstore (lv' := [(13, .long (zL ((rO U (S.cel i x (k + 1) (S.f n9)) i).1 : Int))), (0, .ref (ob E 327)), (1, .int (zI (i : Int))), (2, .long (zL (f3 : Int))), (4, .long (zL (b3 : Int))), (6, .int (zI (plc i (imP U S i x (k + 1) (imW U S i x (imF U S i x) k) n9)))), (7, .int (zI ((imP U S i x (k + 1) (imW U S i x (imF U S i x) k) n9).2.2.2))), (8, .int (zI (x : Int))), (9, .int (zI ((k + 1 : Nat) : Int))), (10, .int (zI ((19 + 14 * i + (2 + 3 * x + (k + 1))) : Int))), (11, .int (zI (S.tr i x (k + 1) : Int))), (12, .int (zI (n9 : Int)))]) C dX11_improve_138  (by decide) rfl ?_
            refine zv_lload C 0 dX11_improve_140 rfl ?_
            refine zv_aload_n C 1 dX11_improve_142 rfl rfl ?_
            refine zG10_23 C (by decide : kd 327 = _) kX11_253 dX11_improve_143 ?_
            refine zv_eql (y := (zL ((rO U (S.cel i x (k + 1) (S.f n9)) i).2 : Int))) ((mW_r _ _ _).2.trans (congrArg zL hro.2.2.symm)) ?_
            refine zv_lload_n C 3 dX11_improve_146 rfl rfl ?_
            refine zv_lload C 4 dX11_improve_147 rfl ?_
            refine zv_csiD (st := []) C (c_X11_isLess hfl E (mW (sI v9 332 (19 + 14 * i + (2 + 3 * x + (k + 1))) (zI (S.f n9 : Int))) (qPtr U (S.cel i x (k + 1) (S.f n9)) i).1 (qPtr U (S.cel i x (k + 1) (S.f n9)) i).2) (rO U (S.cel i x (k + 1) (S.f n9)) i).1 (rO U (S.cel i x (k + 1) (S.f n9)) i).2 f3 b3 hro.1 (by omega) hLb3.1 (by omega) (by omega)) mX11_isLess kX11_367 rfl ⟨rfl, rfl⟩ (show zfit (zrm 0 0) 8 (zrm 6 152) = true from rfl) (Nat.le_of_ble_eq_true rfl) dX11_improve_149 ⟨Nat.zero_le _, Nat.zero_le _⟩ ?_
            refine zv_if_neB (tgt := 158) C dX11_improve_152 (by decide) (fun h152 => ?_) (fun h152 => ?_)
            · skip
              have hcm : (rO U (S.cel i x (k + 1) (S.f n9)) i).1 * b3 < f3 * (rO U (S.cel i x (k + 1) (S.f n9)) i).2 := by omega
              have hyes := hcc.mpr hcm
              refine zv_lload C 0 dX11_improve_158 rfl ?_
              refine zv_lstore_n (lv' := [(2, .long (zL ((rO U (S.cel i x (k + 1) (S.f n9)) i).1 : Int))), (13, .long (zL ((rO U (S.cel i x (k + 1) (S.f n9)) i).1 : Int))), (0, .ref (ob E 327)), (1, .int (zI (i : Int))), (4, .long (zL (b3 : Int))), (6, .int (zI (plc i (imP U S i x (k + 1) (imW U S i x (imF U S i x) k) n9)))), (7, .int (zI ((imP U S i x (k + 1) (imW U S i x (imF U S i x) k) n9).2.2.2))), (8, .int (zI (x : Int))), (9, .int (zI ((k + 1 : Nat) : Int))), (10, .int (zI ((19 + 14 * i + (2 + 3 * x + (k + 1))) : Int))), (11, .int (zI (S.tr i x (k + 1) : Int))), (12, .int (zI (n9 : Int)))]) C dX11_improve_160 rfl (by decide) rfl ?_
              refine zv_aload_n C 2 dX11_improve_161 rfl rfl ?_
              refine zG10_23 C (by decide : kd 327 = _) kX11_253 dX11_improve_162 ?_
              refine zv_eql (y := (zL ((rO U (S.cel i x (k + 1) (S.f n9)) i).2 : Int))) ((mW_r _ _ _).2.trans (congrArg zL hro.2.2.symm)) ?_
              refine zv_lstore (lv' := [(4, .long (zL ((rO U (S.cel i x (k + 1) (S.f n9)) i).2 : Int))), (2, .long (zL ((rO U (S.cel i x (k + 1) (S.f n9)) i).1 : Int))), (13, .long (zL ((rO U (S.cel i x (k + 1) (S.f n9)) i).1 : Int))), (0, .ref (ob E 327)), (1, .int (zI (i : Int))), (6, .int (zI (plc i (imP U S i x (k + 1) (imW U S i x (imF U S i x) k) n9)))), (7, .int (zI ((imP U S i x (k + 1) (imW U S i x (imF U S i x) k) n9).2.2.2))), (8, .int (zI (x : Int))), (9, .int (zI ((k + 1 : Nat) : Int))), (10, .int (zI ((19 + 14 * i + (2 + 3 * x + (k + 1))) : Int))), (11, .int (zI (S.tr i x (k + 1) : Int))), (12, .int (zI (n9 : Int)))]) C dX11_improve_165  (by decide) rfl ?_
              refine zv_iload C 9 dX11_improve_167 rfl ?_
              refine zv_istore (lv' := [(6, .int (zI ((19 + 14 * i + (2 + 3 * x + (k + 1))) : Int))), (4, .long (zL ((rO U (S.cel i x (k + 1) (S.f n9)) i).2 : Int))), (2, .long (zL ((rO U (S.cel i x (k + 1) (S.f n9)) i).1 : Int))), (13, .long (zL ((rO U (S.cel i x (k + 1) (S.f n9)) i).1 : Int))), (0, .ref (ob E 327)), (1, .int (zI (i : Int))), (7, .int (zI ((imP U S i x (k + 1) (imW U S i x (imF U S i x) k) n9).2.2.2))), (8, .int (zI (x : Int))), (9, .int (zI ((k + 1 : Nat) : Int))), (10, .int (zI ((19 + 14 * i + (2 + 3 * x + (k + 1))) : Int))), (11, .int (zI (S.tr i x (k + 1) : Int))), (12, .int (zI (n9 : Int)))]) C dX11_improve_169  (by decide) rfl ?_
              refine zv_aload_n C 4 dX11_improve_171 rfl rfl ?_
              refine zG10_4 C (by decide : kd 327 = _) kX11_22 dX11_improve_172 ?_
              refine zv_iconst (v := zI 1) C dX11_improve_175 rfl ?_
              refine zv_iload C 11 dX11_improve_176 rfl ?_
              refine zv_iaddZ C dX11_improve_178 ?_
              refine zv_iald (j := 1 + n9) C (by decide : kd 332 = _) (zI_ix (by omega)) (Nat.lt_of_lt_of_eq (show 1 + n9 < 131 by omega) (by decide)) dX11_improve_179 ?_
              refine zv_eqi (y := (zI (S.f n9 : Int))) (by rw [gI_mWI, gI_sI, if_neg (by omega)]; exact hvf n9 (by omega)) ?_
              refine zv_istore (lv' := [(7, .int (zI (S.f n9 : Int))), (6, .int (zI ((19 + 14 * i + (2 + 3 * x + (k + 1))) : Int))), (4, .long (zL ((rO U (S.cel i x (k + 1) (S.f n9)) i).2 : Int))), (2, .long (zL ((rO U (S.cel i x (k + 1) (S.f n9)) i).1 : Int))), (13, .long (zL ((rO U (S.cel i x (k + 1) (S.f n9)) i).1 : Int))), (0, .ref (ob E 327)), (1, .int (zI (i : Int))), (8, .int (zI (x : Int))), (9, .int (zI ((k + 1 : Nat) : Int))), (10, .int (zI ((19 + 14 * i + (2 + 3 * x + (k + 1))) : Int))), (11, .int (zI (S.tr i x (k + 1) : Int))), (12, .int (zI (n9 : Int)))]) C dX11_improve_180  (by decide) rfl ?_
              refine zv_iinc (v := (zI ((n9 : Int) + 1))) (lv' := [(12, .int (zI ((n9 : Int) + 1))), (7, .int (zI (S.f n9 : Int))), (6, .int (zI ((19 + 14 * i + (2 + 3 * x + (k + 1))) : Int))), (4, .long (zL ((rO U (S.cel i x (k + 1) (S.f n9)) i).2 : Int))), (2, .long (zL ((rO U (S.cel i x (k + 1) (S.f n9)) i).1 : Int))), (13, .long (zL ((rO U (S.cel i x (k + 1) (S.f n9)) i).1 : Int))), (0, .ref (ob E 327)), (1, .int (zI (i : Int))), (8, .int (zI (x : Int))), (9, .int (zI ((k + 1 : Nat) : Int))), (10, .int (zI ((19 + 14 * i + (2 + 3 * x + (k + 1))) : Int))), (11, .int (zI (S.tr i x (k + 1) : Int)))]) C 11 dX11_improve_182 rfl (zI_add _ _) (by decide) rfl ?_
              refine zv_goto (tgt := 89) C dX11_improve_185 (by decide) ?_
              have q89_256 : ((n9 : Int) + 1 : Int) = ((n9 + 1 : Nat) : Int) := by omega
              have q89_257 : ((S.f n9 : Int) : Int) = (imP U S i x (k + 1) (imW U S i x (imF U S i x) k) (n9 + 1)).2.2.2 := by first | rw [imP_s, if_neg hno] | rw [imP_s, if_pos hyes]
              have q89_258 : (((19 + 14 * i + (2 + 3 * x + (k + 1))) : Int) : Int) = plc i (imP U S i x (k + 1) (imW U S i x (imF U S i x) k) (n9 + 1)) := by first | rw [imP_s, if_neg hno] | (rw [imP_s, if_pos hyes, plc_p]; omega)
              have q89_259 : (((rO U (S.cel i x (k + 1) (S.f n9)) i).2 : Int) : Int) = ((((rO U (S.cel i x (k + 1) (S.f n9)) i).2) : Nat) : Int) := by rfl
              have q89_260 : (((rO U (S.cel i x (k + 1) (S.f n9)) i).1 : Int) : Int) = ((((rO U (S.cel i x (k + 1) (S.f n9)) i).1) : Nat) : Int) := by rfl
              refine zv_sub (lv' := [(0, .ref (ob E 327)), (1, .int (zI (i : Int))), (2, .long (zL ((((rO U (S.cel i x (k + 1) (S.f n9)) i).1) : Nat) : Int))), (4, .long (zL ((((rO U (S.cel i x (k + 1) (S.f n9)) i).2) : Nat) : Int))), (6, .int (zI (plc i (imP U S i x (k + 1) (imW U S i x (imF U S i x) k) (n9 + 1))))), (7, .int (zI ((imP U S i x (k + 1) (imW U S i x (imF U S i x) k) (n9 + 1)).2.2.2))), (8, .int (zI (x : Int))), (9, .int (zI ((k + 1 : Nat) : Int))), (10, .int (zI ((19 + 14 * i + (2 + 3 * x + (k + 1))) : Int))), (11, .int (zI (S.tr i x (k + 1) : Int))), (12, .int (zI ((n9 + 1 : Nat) : Int)))]) [6, 7, 4, 3, 2, 1, 8, 9, 10, 11, 0] (zcons rfl (zcons rfl (zcons (zqL q89_260) (zcons (zqL q89_259) (zcons (zqI q89_258) (zcons (zqI q89_257) (zcons rfl (zcons rfl (zcons rfl (zcons rfl (zcons (zqI q89_256) rfl))))))))))) ?_
              refine zv_eqS (τ := (mW (sI v9 332 (19 + 14 * i + (2 + 3 * x + (k + 1))) (zI (S.f n9 : Int))) (qPtr U (S.cel i x (k + 1) (S.f n9)) i).1 (qPtr U (S.cel i x (k + 1) (S.f n9)) i).2)) (rfl) ?_
              exact ih89 ((n9 + 1, (mW (sI v9 332 (19 + 14 * i + (2 + 3 * x + (k + 1))) (zI (S.f n9 : Int))) (qPtr U (S.cel i x (k + 1) (S.f n9)) i).1 (qPtr U (S.cel i x (k + 1) (S.f n9)) i).2), ((rO U (S.cel i x (k + 1) (S.f n9)) i).1), ((rO U (S.cel i x (k + 1) (S.f n9)) i).2))) (by first | exact ⟨by show n9 + 1 ≤ S.n; omega, hK3, by rw [imP_s, if_neg hno]; exact hL3⟩ | exact ⟨by show n9 + 1 ≤ S.n; omega, by rw [sI_mW]; exact mK_W hK3 _ _, by rw [imP_s, if_neg hno]; exact hL3⟩ | exact ⟨by show n9 + 1 ≤ S.n; omega, by rw [sI_mW]; exact mK_W hK3 _ _, by rw [imP_s, if_pos hyes]; exact imL_s hU hS9 hi hL3 hcm⟩) (by show S.n - (n9 + 1) < S.n - n9; omega)
            · skip
              have hno : ¬ _ := fun z => absurd (hcc.mp z) (by omega)
              refine zv_goto (tgt := 182) C dX11_improve_155 (by decide) ?_
              refine zv_iinc (v := (zI ((n9 : Int) + 1))) (lv' := [(12, .int (zI ((n9 : Int) + 1))), (13, .long (zL ((rO U (S.cel i x (k + 1) (S.f n9)) i).1 : Int))), (0, .ref (ob E 327)), (1, .int (zI (i : Int))), (2, .long (zL (f3 : Int))), (4, .long (zL (b3 : Int))), (6, .int (zI (plc i (imP U S i x (k + 1) (imW U S i x (imF U S i x) k) n9)))), (7, .int (zI ((imP U S i x (k + 1) (imW U S i x (imF U S i x) k) n9).2.2.2))), (8, .int (zI (x : Int))), (9, .int (zI ((k + 1 : Nat) : Int))), (10, .int (zI ((19 + 14 * i + (2 + 3 * x + (k + 1))) : Int))), (11, .int (zI (S.tr i x (k + 1) : Int)))]) C 11 dX11_improve_182 rfl (zI_add _ _) (by decide) rfl ?_
              refine zv_goto (tgt := 89) C dX11_improve_185 (by decide) ?_
              have q89_269 : ((n9 : Int) + 1 : Int) = ((n9 + 1 : Nat) : Int) := by omega
              have q89_270 : ((imP U S i x (k + 1) (imW U S i x (imF U S i x) k) n9).2.2.2 : Int) = (imP U S i x (k + 1) (imW U S i x (imF U S i x) k) (n9 + 1)).2.2.2 := by first | rw [imP_s, if_neg hno] | rw [imP_s, if_pos hyes]
              have q89_271 : (plc i (imP U S i x (k + 1) (imW U S i x (imF U S i x) k) n9) : Int) = plc i (imP U S i x (k + 1) (imW U S i x (imF U S i x) k) (n9 + 1)) := by first | rw [imP_s, if_neg hno] | (rw [imP_s, if_pos hyes, plc_p]; omega)
              refine zv_sub (lv' := [(0, .ref (ob E 327)), (1, .int (zI (i : Int))), (2, .long (zL (f3 : Int))), (4, .long (zL (b3 : Int))), (6, .int (zI (plc i (imP U S i x (k + 1) (imW U S i x (imF U S i x) k) (n9 + 1))))), (7, .int (zI ((imP U S i x (k + 1) (imW U S i x (imF U S i x) k) (n9 + 1)).2.2.2))), (8, .int (zI (x : Int))), (9, .int (zI ((k + 1 : Nat) : Int))), (10, .int (zI ((19 + 14 * i + (2 + 3 * x + (k + 1))) : Int))), (11, .int (zI (S.tr i x (k + 1) : Int))), (12, .int (zI ((n9 + 1 : Nat) : Int)))]) [2, 3, 4, 5, 6, 7, 8, 9, 10, 11, 0] (zcons rfl (zcons rfl (zcons rfl (zcons rfl (zcons (zqI q89_271) (zcons (zqI q89_270) (zcons rfl (zcons rfl (zcons rfl (zcons rfl (zcons (zqI q89_269) rfl))))))))))) ?_
              refine zv_eqS (τ := (mW (sI v9 332 (19 + 14 * i + (2 + 3 * x + (k + 1))) (zI (S.f n9 : Int))) (qPtr U (S.cel i x (k + 1) (S.f n9)) i).1 (qPtr U (S.cel i x (k + 1) (S.f n9)) i).2)) (rfl) ?_
              exact ih89 ((n9 + 1, (mW (sI v9 332 (19 + 14 * i + (2 + 3 * x + (k + 1))) (zI (S.f n9 : Int))) (qPtr U (S.cel i x (k + 1) (S.f n9)) i).1 (qPtr U (S.cel i x (k + 1) (S.f n9)) i).2), f3, b3)) (by first | exact ⟨by show n9 + 1 ≤ S.n; omega, hK3, by rw [imP_s, if_neg hno]; exact hL3⟩ | exact ⟨by show n9 + 1 ≤ S.n; omega, by rw [sI_mW]; exact mK_W hK3 _ _, by rw [imP_s, if_neg hno]; exact hL3⟩ | exact ⟨by show n9 + 1 ≤ S.n; omega, by rw [sI_mW]; exact mK_W hK3 _ _, by rw [imP_s, if_pos hyes]; exact imL_s hU hS9 hi hL3 hcm⟩) (by show S.n - (n9 + 1) < S.n - n9; omega)
          · skip
            have hno := imL_n (x := x) (w := k + 1) (t := S.f n9) hU hS hi hL3 (by omega)
            refine zv_goto (tgt := 182) C dX11_improve_114 (by decide) ?_
            refine zv_iinc (v := (zI ((n9 : Int) + 1))) (lv' := [(12, .int (zI ((n9 : Int) + 1))), (0, .ref (ob E 327)), (1, .int (zI (i : Int))), (2, .long (zL (f3 : Int))), (4, .long (zL (b3 : Int))), (6, .int (zI (plc i (imP U S i x (k + 1) (imW U S i x (imF U S i x) k) n9)))), (7, .int (zI ((imP U S i x (k + 1) (imW U S i x (imF U S i x) k) n9).2.2.2))), (8, .int (zI (x : Int))), (9, .int (zI ((k + 1 : Nat) : Int))), (10, .int (zI ((19 + 14 * i + (2 + 3 * x + (k + 1))) : Int))), (11, .int (zI (S.tr i x (k + 1) : Int)))]) C 10 dX11_improve_182 rfl (zI_add _ _) (by decide) rfl ?_
            refine zv_goto (tgt := 89) C dX11_improve_185 (by decide) ?_
            have q89_280 : ((n9 : Int) + 1 : Int) = ((n9 + 1 : Nat) : Int) := by omega
            have q89_281 : ((imP U S i x (k + 1) (imW U S i x (imF U S i x) k) n9).2.2.2 : Int) = (imP U S i x (k + 1) (imW U S i x (imF U S i x) k) (n9 + 1)).2.2.2 := by first | rw [imP_s, if_neg hno] | rw [imP_s, if_pos hyes]
            have q89_282 : (plc i (imP U S i x (k + 1) (imW U S i x (imF U S i x) k) n9) : Int) = plc i (imP U S i x (k + 1) (imW U S i x (imF U S i x) k) (n9 + 1)) := by first | rw [imP_s, if_neg hno] | (rw [imP_s, if_pos hyes, plc_p]; omega)
            refine zv_sub (lv' := [(0, .ref (ob E 327)), (1, .int (zI (i : Int))), (2, .long (zL (f3 : Int))), (4, .long (zL (b3 : Int))), (6, .int (zI (plc i (imP U S i x (k + 1) (imW U S i x (imF U S i x) k) (n9 + 1))))), (7, .int (zI ((imP U S i x (k + 1) (imW U S i x (imF U S i x) k) (n9 + 1)).2.2.2))), (8, .int (zI (x : Int))), (9, .int (zI ((k + 1 : Nat) : Int))), (10, .int (zI ((19 + 14 * i + (2 + 3 * x + (k + 1))) : Int))), (11, .int (zI (S.tr i x (k + 1) : Int))), (12, .int (zI ((n9 + 1 : Nat) : Int)))]) [1, 2, 3, 4, 5, 6, 7, 8, 9, 10, 0] (zcons rfl (zcons rfl (zcons rfl (zcons rfl (zcons (zqI q89_282) (zcons (zqI q89_281) (zcons rfl (zcons rfl (zcons rfl (zcons rfl (zcons (zqI q89_280) rfl))))))))))) ?_
            refine zv_eqS (τ := v9) (rfl) ?_
            exact ih89 ((n9 + 1, v9, f3, b3)) (by first | exact ⟨by show n9 + 1 ≤ S.n; omega, hK3, by rw [imP_s, if_neg hno]; exact hL3⟩ | exact ⟨by show n9 + 1 ≤ S.n; omega, by rw [sI_mW]; exact mK_W hK3 _ _, by rw [imP_s, if_neg hno]; exact hL3⟩ | exact ⟨by show n9 + 1 ≤ S.n; omega, by rw [sI_mW]; exact mK_W hK3 _ _, by rw [imP_s, if_pos hyes]; exact imL_s hU hS9 hi hL3 hcm⟩) (by show S.n - (n9 + 1) < S.n - n9; omega)
set_option maxRecDepth 20000 in
theorem x1_X11_improve {l : Launch} (hfl : l.stackTraces = false) (E : zE) (σ : zS) (σc : zS) (U : zSU) (y : Int) (hB : zRb (gI σ 328) U) (hU : zSUp σc 29 U) (hy : -2147483648 ≤ y ∧ y < 2147483648) (hno : ¬ (0 ≤ y ∧ y < U.nb)) : zRi l E yX11_improve cX11_improve 15 .int (zrm 2 46) [.ref (ob E 327), .int (zI y)] σ (fun r τ => r = zI 0 ∧ mK σ τ 1) := by
  refine Met.ofW (cc := cX11_improve) (maxL := 15) (ret := (some .int)) (by decide +kernel) rfl ?_
  intro p e s m args below meth c s₁ B hml hv
  obtain ⟨rfl, hd⟩ := hv
  have C := zX_of (own := RX11) hfl B hml rfl hd rfl
  have hr := B.returns
  refine zV_go hd (Nat.le_of_ble_eq_true rfl) (lv := [(0, .ref (ob E 327)), (1, .int (zI y))]) rfl ?_
  have hnb : U.nb ≤ 8 := hU.2.2.1
  have hs0 := hU.2.2.2.1
  
  refine zv_aload_n C 0 dX11_improve_0 rfl rfl ?_
  refine zv_iload_n C 1 dX11_improve_1 rfl rfl ?_
  refine zv_cviD (st := []) C (c1_X11_noBody hfl E σ σc U (y) hB hU (by omega) hno) mX11_noBody kX11_319 (by decide : kd 327 = 10) rfl rfl rfl ⟨rfl, rfl⟩ (show zfit (zrm 1 25) 2 (zrm 2 46) = true from rfl) (Nat.le_of_ble_eq_true rfl) dX11_improve_2 ⟨Nat.zero_le _, Nat.zero_le _⟩ ?_
  refine zv_if_eqZ (tgt := 10) C (by omega) dX11_improve_5 (by decide) (fun h5 => absurd h5 (by decide)) (fun h5 => ?_)
  refine zv_iconst (v := zI 0) C dX11_improve_8 rfl ?_
  exact zv_iret C hr rfl dX11_improve_9 ⟨rfl, by first | exact mK_th _ _ | exact mK_th2 _ _ _ | exact mK_C (mK_W (mK_th _ _) _ _) _ | exact mK_W (mK_th _ _) _ _⟩
