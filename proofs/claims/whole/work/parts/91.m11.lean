/-! stock and slack changed -/
theorem zRk_ins {S : zST} (h : zRk S) (t : Nat) (hn : S.n < 16) : zRk (S.ins t) := ⟨by show S.n + 1 ≤ 16; omega, h.2⟩
theorem iSw_o (σ : zS) (f : Nat → Nat) (n t x j : Nat) (hx : x ≠ 332) : gI (iSw σ f n t) x j = gI σ x j := by
  unfold iSw
  rw [gI_sI, if_neg (by omega), gI_inI, if_neg (by omega), if_neg (by omega)]
theorem zMx_S {σ τ : zS} (h : zMx σ τ) (f : Nat → Nat) (n t : Nat) : zMx σ (iSw τ f n t) := fun x j a b c => (iSw_o _ _ _ _ _ _ a).trans (h x j a b c)
theorem zFr_S2 {σ τ : zS} (h : zFr 327 339 σ τ) (f : Nat → Nat) (n t : Nat) : zFr 327 339 σ (iSw τ f n t) := ⟨fun x j a => (iSw_o _ _ _ _ _ _ (by omega)).trans (h.1 x j a), fun x j a => h.2.1 x j a, fun x j => h.2.2 x j⟩
theorem shI_m (σ : zS) {j n : Nat} (h0 : 0 < j) (hn : j ≤ n) : sI (shI σ 332 (1 + j) (1 + n)) 332 (1 + j) (gI (shI σ 332 (1 + j) (1 + n)) 332 j) = shI σ 332 (1 + (j - 1)) (1 + n) := by
  have e := shI_s σ 332 (1 + j) (1 + n) (by omega) (by omega)
  rw [show 1 + j - 1 = j by omega] at e
  rw [e, show 1 + (j - 1) = j by omega]
/-- numbers moved down -/
def sdW (σ : zS) (p q : Nat) : zS := (fun x j => if x = 332 ∧ 1 + p ≤ j ∧ j < 1 + q then σ.1 332 (j + 1) else σ.1 x j, σ.2)
theorem gI_sdW (σ : zS) (p q x j : Nat) : gI (sdW σ p q) x j = if x = 332 ∧ 1 + p ≤ j ∧ j < 1 + q then gI σ 332 (j + 1) else gI σ x j := rfl
theorem sdW_0 (σ : zS) (p : Nat) : sdW σ p p = σ := zS_ext (fun x j => by rw [gI_sdW, if_neg (by omega)]) (fun _ _ => rfl) (fun _ _ => rfl)
theorem sdW_s (σ : zS) {p q : Nat} (h : p ≤ q) : sI (sdW σ p q) 332 (1 + q) (gI (sdW σ p q) 332 (1 + q + 1)) = sdW σ p (q + 1) := by
  refine zS_ext (fun x j => ?_) (fun _ _ => rfl) (fun _ _ => rfl)
  rw [gI_sI, gI_sdW, gI_sdW, gI_sdW, if_neg (show ¬ (332 = 332 ∧ 1 + p ≤ 1 + q + 1 ∧ 1 + q + 1 < 1 + q) by omega)]
  by_cases h1 : x = 332 ∧ j = 1 + q
  · rw [if_pos h1, if_pos (by omega), h1.2]
  · rw [if_neg h1]
    by_cases h2 : x = 332 ∧ 1 + p ≤ j ∧ j < 1 + q
    · rw [if_pos h2, if_pos (by omega)]
    · rw [if_neg h2, if_neg (by omega)]
theorem dpF_1 {f : Nat → Nat} {t : Int} {n j : Nat} (hs : ∀ a b, a < b → b < n → f a < f b) (hj : j < n) (hf : (f j : Int) = t) : ∀ m, m ≤ n → (m ≤ j → sKp f t m = m ∧ ∀ i, i < m → dpF f t m i = f i) ∧ (j < m → sKp f t m = m - 1 ∧ ∀ i, i < m - 1 → dpF f t m i = if i < j then f i else f (i + 1)) := by
  intro m
  induction m with
  | zero => intro _; exact ⟨fun _ => ⟨rfl, fun i h => absurd h (by omega)⟩, fun h => absurd h (by omega)⟩
  | succ m ih =>
    intro hm
    obtain ⟨i1, i2⟩ := ih (by omega)
    rcases (show m < j ∨ m = j ∨ j < m by omega) with q | q | q
    · obtain ⟨a, b⟩ := i1 (by omega)
      have hne : ¬ (f m : Int) = t := by have := hs m j q hj; omega
      refine ⟨fun _ => ?_, fun z => absurd z (by omega)⟩
      simp only [sKp, dpF, if_neg hne, a]
      refine ⟨trivial, fun i hi => ?_⟩
      by_cases e : i = m
      · rw [if_pos e, e]
      · rw [if_neg e]; exact b i (by omega)
    · obtain ⟨a, b⟩ := i1 (by omega)
      have heq : (f m : Int) = t := by rw [q]; exact hf
      refine ⟨fun z => absurd z (by omega), fun _ => ?_⟩
      simp only [sKp, dpF, if_pos heq, a]
      refine ⟨by omega, fun i hi => ?_⟩
      rw [if_pos (by omega)]
      exact b i (by omega)
    · obtain ⟨a, b⟩ := i2 (by omega)
      have hne : ¬ (f m : Int) = t := by have := hs j m q (by omega); omega
      refine ⟨fun z => absurd z (by omega), fun _ => ?_⟩
      simp only [sKp, dpF, if_neg hne, a]
      refine ⟨by omega, fun i hi => ?_⟩
      by_cases e : i = m - 1
      · rw [if_pos e, if_neg (by omega), e, show m - 1 + 1 = m by omega]
      · rw [if_neg e]; exact b i (by omega)
theorem zRo_drp {σ : zS} {nb j : Nat} {t : Int} {S : zST} (h : zRo (gI σ 332) nb S) (hk : zRk S) (hs : ∀ a b, a < b → b < S.n → S.f a < S.f b) (hj : j < S.n) (hf : (S.f j : Int) = t) : zRo (gI (sdW (sI σ 332 0 (zI ((S.n : Int) - 1))) j (S.n - 1)) 332) nb (S.drp t) := by
  obtain ⟨h1, h2, h3, h4, h5⟩ := h
  have hn := hk.1
  obtain ⟨d1, d2⟩ := (dpF_1 hs hj hf S.n (Nat.le_refl _)).2 hj
  have o : ∀ x, 17 ≤ x → gI (sdW (sI σ 332 0 (zI ((S.n : Int) - 1))) j (S.n - 1)) 332 x = gI σ 332 x := fun x q => by
    rw [gI_sdW, if_neg (by omega), gI_sI, if_neg (by omega)]
  refine ⟨?_, fun q hq => ?_, (o 17 (by omega)).trans h3, (o 18 (by omega)).trans h4, fun x hx => ?_⟩
  · rw [gI_sdW, if_neg (by omega), gI_sI, if_pos ⟨rfl, rfl⟩]
    exact congrArg zI (by show _ = ((sKp S.f t S.n : Nat) : Int); rw [d1]; omega)
  · have hq2 : q < S.n - 1 := by rw [← d1]; exact hq
    show _ = zI ((dpF S.f t S.n q : Nat) : Int)
    rw [d2 q hq2, gI_sdW]
    by_cases z : q < j
    · rw [if_neg (by omega), if_pos z, gI_sI, if_neg (by omega)]; exact h2 q (by omega)
    · rw [if_pos (by omega), if_neg z, gI_sI, if_neg (by omega), show 1 + q + 1 = 1 + (q + 1) by omega]; exact h2 (q + 1) (by omega)
  · obtain ⟨a1, a2, a3⟩ := h5 x hx
    exact ⟨(o _ (by omega)).trans a1, fun hb => (o _ (by omega)).trans (a2 hb), fun p w hp hw => (o _ (by omega)).trans (a3 p w hp hw)⟩
theorem sdW_o (σ : zS) (p q x j : Nat) (hx : x ≠ 332) : gI (sdW σ p q) x j = gI σ x j := by rw [gI_sdW, if_neg (by omega)]
theorem zMx_D {σ τ : zS} (h : zMx σ τ) (p q : Nat) : zMx σ (sdW τ p q) := fun x j a b c => (sdW_o _ _ _ _ _ a).trans (h x j a b c)
theorem zFr_D {σ τ : zS} (h : zFr 327 339 σ τ) (p q : Nat) : zFr 327 339 σ (sdW τ p q) := ⟨fun x j a => (sdW_o _ _ _ _ _ (by omega)).trans (h.1 x j a), fun x j a => h.2.1 x j a, fun x j => h.2.2 x j⟩
set_option maxRecDepth 20000 in
theorem c_X11_addsStock {l : Launch} (hfl : l.stackTraces = false) (E : zE) (σ : zS) (nb : Nat) (S : zST) (t : Nat) (hW : zRo (gI σ 332) nb S) (hn : S.n < 16) (hf : ∀ i, i < S.n → S.f i ≤ 1000) (ht : t ≤ 1000) : zRv l E yX11_addsStock cX11_addsStock 3 (zrm 0 0) [.ref (ob E 327), .int (zI (t : Int))] σ (fun τ => τ = iSw σ S.f S.n t) := by
  refine Met.ofW (cc := cX11_addsStock) (maxL := 3) (ret := none) (by decide +kernel) rfl ?_
  intro p e s m args below meth c s₁ B hml hv
  obtain ⟨rfl, hd⟩ := hv
  have C := zX_of (own := RX11) hfl B hml rfl hd rfl
  have hr := B.returns
  refine zV_go hd (Nat.le_of_ble_eq_true rfl) (lv := [(0, .ref (ob E 327)), (1, .int (zI (t : Int)))]) rfl ?_
  refine zv_aload_n C 0 dX11_addsStock_0 rfl rfl ?_
  refine zG10_4 C (by decide : kd 327 = _) kX11_22 dX11_addsStock_1 ?_
  refine zv_iconst (v := zI 0) C dX11_addsStock_4 rfl ?_
  refine zv_iald (j := 0) C (by decide : kd 332 = _) (zI_ix (by omega)) (by decide) dX11_addsStock_5 ?_
  refine zv_eqi (y := (zI (S.n : Int))) (hW.1) ?_
  refine zv_istore_n (lv' := [(2, .int (zI (S.n : Int))), (0, .ref (ob E 327)), (1, .int (zI (t : Int)))]) C dX11_addsStock_6 rfl (by decide) rfl ?_
  have q7_6 : ((S.n : Int) : Int) = ((S.n : Nat) : Int) := by first | rfl | omega
  refine zv_sub (lv' := [(0, .ref (ob E 327)), (1, .int (zI (t : Int))), (2, .int (zI ((S.n : Nat) : Int)))]) [1, 2, 0] (zcons rfl (zcons rfl (zcons (zqI q7_6) rfl))) ?_
  refine zv_eqS (τ := (shI σ 332 (1 + S.n) (1 + S.n))) ((shI_0 σ 332 (1 + S.n)).symm) ?_
  refine zv_while (α := Nat) (fun v => v) (fun v => v ≤ S.n ∧ sIn S.f t S.n = sIn S.f t v) (fun v => (shI σ 332 (1 + v) (1 + S.n))) (fun v => [(0, .ref (ob E 327)), (1, .int (zI (t : Int))), (2, .int (zI (v : Int)))]) (fun v => []) (fun j hI ih => ?_) (S.n) (⟨Nat.le_refl _, rfl⟩)
  obtain ⟨hI, hI2⟩ := hI
  refine zv_iload_n C 2 dX11_addsStock_7 rfl rfl ?_
  refine zv_if_leZ (tgt := 49) C (by omega) dX11_addsStock_8 (by decide) (fun h8 => ?_) (fun h8 => ?_)
  · skip
    have e9 : sIn S.f t j = j := by
      cases j with
      | zero => rfl
      | succ j => simp only [sIn]; exact if_neg (by first | omega | (simp at h22; omega))
    refine zv_aload_n C 0 dX11_addsStock_49 rfl rfl ?_
    refine zG10_4 C (by decide : kd 327 = _) kX11_22 dX11_addsStock_50 ?_
    refine zv_iconst (v := zI 1) C dX11_addsStock_53 rfl ?_
    refine zv_iload_n C 2 dX11_addsStock_54 rfl rfl ?_
    refine zv_iaddZ C dX11_addsStock_55 ?_
    refine zv_iload_n C 1 dX11_addsStock_56 rfl rfl ?_
    refine zv_iast (j := 1 + j) C (by decide : kd 332 = _) (zI_ix (by omega)) (Nat.lt_of_lt_of_eq (show 1 + j < 131 by omega) (by decide)) dX11_addsStock_57 ?_
    refine zv_aload_n C 0 dX11_addsStock_58 rfl rfl ?_
    refine zG10_4 C (by decide : kd 327 = _) kX11_22 dX11_addsStock_59 ?_
    refine zv_iconst (v := zI 0) C dX11_addsStock_62 rfl ?_
    refine zv_dup2 C dX11_addsStock_63 rfl rfl ?_
    refine zv_iald (j := 0) C (by decide : kd 332 = _) (zI_ix (by omega)) (by decide) dX11_addsStock_64 ?_
    refine zv_eqi (y := (zI (S.n : Int))) (by rw [gI_sI, if_neg (by omega), gI_shI, if_neg (by omega)]; exact hW.1) ?_
    refine zv_iconst (v := zI 1) C dX11_addsStock_65 rfl ?_
    refine zv_iaddZ C dX11_addsStock_66 ?_
    refine zv_iast (j := 0) C (by decide : kd 332 = _) (zI_ix (by omega)) (by decide) dX11_addsStock_67 ?_
    exact zv_vret C hr dX11_addsStock_68 (by rw [shI_in, iSw, hI2, e9])
  · skip
    have hj1 : j = (j - 1) + 1 := by omega
    have hfj := hf (j - 1) (by omega)
    refine zv_aload_n C 0 dX11_addsStock_11 rfl rfl ?_
    refine zG10_4 C (by decide : kd 327 = _) kX11_22 dX11_addsStock_12 ?_
    refine zv_iconst (v := zI 1) C dX11_addsStock_15 rfl ?_
    refine zv_iload_n C 2 dX11_addsStock_16 rfl rfl ?_
    refine zv_iaddZ C dX11_addsStock_17 ?_
    refine zv_iconst (v := zI 1) C dX11_addsStock_18 rfl ?_
    refine zv_isubZ C dX11_addsStock_19 ?_
    refine zv_iald (j := j) C (by decide : kd 332 = _) (zI_ix (by omega)) (Nat.lt_of_lt_of_eq (show j < 131 by omega) (by decide)) dX11_addsStock_20 ?_
    refine zv_eqi (y := (zI (S.f (j - 1) : Int))) (by rw [gI_shI, if_neg (by omega)]; exact (congrArg (gI σ 332) (show j = 1 + (j - 1) by omega)).trans (hW.2.1 (j - 1) (by omega))) ?_
    refine zv_iload_n C 1 dX11_addsStock_21 rfl rfl ?_
    refine zv_icmp_leZ (tgt := 49) C (by omega) (by omega) dX11_addsStock_22 (by decide) (fun h22 => ?_) (fun h22 => ?_)
    · skip
      have e9 : sIn S.f t j = j := by
        cases j with
        | zero => rfl
        | succ j => simp only [sIn]; exact if_neg (by first | omega | (simp at h22; omega))
      refine zv_aload_n C 0 dX11_addsStock_49 rfl rfl ?_
      refine zG10_4 C (by decide : kd 327 = _) kX11_22 dX11_addsStock_50 ?_
      refine zv_iconst (v := zI 1) C dX11_addsStock_53 rfl ?_
      refine zv_iload_n C 2 dX11_addsStock_54 rfl rfl ?_
      refine zv_iaddZ C dX11_addsStock_55 ?_
      refine zv_iload_n C 1 dX11_addsStock_56 rfl rfl ?_
      refine zv_iast (j := 1 + j) C (by decide : kd 332 = _) (zI_ix (by omega)) (Nat.lt_of_lt_of_eq (show 1 + j < 131 by omega) (by decide)) dX11_addsStock_57 ?_
      refine zv_aload_n C 0 dX11_addsStock_58 rfl rfl ?_
      refine zG10_4 C (by decide : kd 327 = _) kX11_22 dX11_addsStock_59 ?_
      refine zv_iconst (v := zI 0) C dX11_addsStock_62 rfl ?_
      refine zv_dup2 C dX11_addsStock_63 rfl rfl ?_
      refine zv_iald (j := 0) C (by decide : kd 332 = _) (zI_ix (by omega)) (by decide) dX11_addsStock_64 ?_
      refine zv_eqi (y := (zI (S.n : Int))) (by rw [gI_sI, if_neg (by omega), gI_shI, if_neg (by omega)]; exact hW.1) ?_
      refine zv_iconst (v := zI 1) C dX11_addsStock_65 rfl ?_
      refine zv_iaddZ C dX11_addsStock_66 ?_
      refine zv_iast (j := 0) C (by decide : kd 332 = _) (zI_ix (by omega)) (by decide) dX11_addsStock_67 ?_
      exact zv_vret C hr dX11_addsStock_68 (by rw [shI_in, iSw, hI2, e9])
    · skip
      have h9 : t < S.f (j - 1) := by omega
      refine zv_aload_n C 0 dX11_addsStock_25 rfl rfl ?_
      refine zG10_4 C (by decide : kd 327 = _) kX11_22 dX11_addsStock_26 ?_
      refine zv_iconst (v := zI 1) C dX11_addsStock_29 rfl ?_
      refine zv_iload_n C 2 dX11_addsStock_30 rfl rfl ?_
      refine zv_iaddZ C dX11_addsStock_31 ?_
      refine zv_aload_n C 0 dX11_addsStock_32 rfl rfl ?_
      refine zG10_4 C (by decide : kd 327 = _) kX11_22 dX11_addsStock_33 ?_
      refine zv_iconst (v := zI 1) C dX11_addsStock_36 rfl ?_
      refine zv_iload_n C 2 dX11_addsStock_37 rfl rfl ?_
      refine zv_iaddZ C dX11_addsStock_38 ?_
      refine zv_iconst (v := zI 1) C dX11_addsStock_39 rfl ?_
      refine zv_isubZ C dX11_addsStock_40 ?_
      refine zv_iald (j := j) C (by decide : kd 332 = _) (zI_ix (by omega)) (Nat.lt_of_lt_of_eq (show j < 131 by omega) (by decide)) dX11_addsStock_41 ?_
      refine zv_iast (j := 1 + j) C (by decide : kd 332 = _) (zI_ix (by omega)) (Nat.lt_of_lt_of_eq (show 1 + j < 131 by omega) (by decide)) dX11_addsStock_42 ?_
      refine zv_iinc (v := (zI ((j : Int) + (-1)))) (lv' := [(2, .int (zI ((j : Int) + (-1)))), (0, .ref (ob E 327)), (1, .int (zI (t : Int)))]) C 2 dX11_addsStock_43 rfl (zI_add _ _) (by decide) rfl ?_
      refine zv_goto (tgt := 7) C dX11_addsStock_46 (by decide) ?_
      have q7_89 : ((j : Int) + (-1) : Int) = ((j - 1 : Nat) : Int) := by first | rfl | omega
      refine zv_sub (lv' := [(0, .ref (ob E 327)), (1, .int (zI (t : Int))), (2, .int (zI ((j - 1 : Nat) : Int)))]) [1, 2, 0] (zcons rfl (zcons rfl (zcons (zqI q7_89) rfl))) ?_
      refine zv_eqS (τ := (shI σ 332 (1 + (j - 1)) (1 + S.n))) (shI_m σ (by omega) hI) ?_
      exact ih (j - 1) (⟨by omega, by rw [hI2, hj1, sIn, if_pos (by rw [hj1] at h9; simpa using h9)]; simp⟩) (by omega)
set_option maxRecDepth 20000 in
theorem c_X11_addStock {l : Launch} (hfl : l.stackTraces = false) (E : zE) (σ : zS) (σc : zS) (ni : Nat) (tx : Nat → Int) (ec : Nat) (eo : Int) (U : zSU) (S : zST) (hh : List zST) (kp : Option zST) (ou : List Nat) (t : Nat) (h : zMP σ (zDv.mk ni tx ec eo U S hh kp ou)) (hU : zSUp σc 29 U) (hS : zSTp σc 34 S) (ht : 8 ≤ t ∧ t ≤ 100) (hok : S.n < 16 ∧ sHas S.f (t : Int) S.n = false) : zRi l E yX11_addStock cX11_addStock 2 .int (zrm 2 45) [.ref (ob E 327), .int (zI (t : Int))] σ (fun r τ => r = zI ((S.n + 1 : Nat) : Int) ∧ mH σ τ ((zDv.mk ni tx ec eo U S hh kp ou).re.sS (S.ins t))) := by
  refine Met.ofW (cc := cX11_addStock) (maxL := 2) (ret := (some .int)) (by decide +kernel) rfl ?_
  intro p e s m args below meth c s₁ B hml hv
  obtain ⟨rfl, hd⟩ := hv
  have C := zX_of (own := RX11) hfl B hml rfl hd rfl
  have hr := B.returns
  refine zV_go hd (Nat.le_of_ble_eq_true rfl) (lv := [(0, .ref (ob E 327)), (1, .int (zI (t : Int)))]) rfl ?_
  have hnb : U.nb ≤ 8 := hU.2.2.1
  have hs0 := hU.2.2.2.1
  have hB : zRb (gI σ 328) U := h.2.2.1
  have hW : zRo (gI σ 332) U.nb S := h.2.2.2.2.1.1
  have hk9 : zRk S := h.2.2.2.2.1.2
  have h0 : zMP (thW σ 0) (zDv.mk ni tx ec eo U S hh kp ou) := zMP_q h (mK_th σ 0).1
  have hn16 : S.n ≤ 16 := hk9.1
  have hf9 : ∀ i, i < S.n → S.f i ≤ 1000 := fun i h => Nat.le_trans (hS.1.2.2.2 i h) (by decide)
  
  refine zv_aload_n C 0 dX11_addStock_0 rfl rfl ?_
  refine zv_iconst (v := zI 0) C dX11_addStock_1 rfl ?_
  refine zP10_10 C (by decide : kd 327 = _) kX11_50 dX11_addStock_2 ?_
  refine zv_eqS (τ := (thW σ 0)) (rfl) ?_
  refine zv_aload_n C 0 dX11_addStock_5 rfl rfl ?_
  refine zv_iload_n C 1 dX11_addStock_6 rfl rfl ?_
  refine zv_i2lZ C (by omega) dX11_addStock_7 ?_
  refine zv_ldc2 C kX11_398 dX11_addStock_8 ?_
  refine zv_eql (y := zL 8) (by decide) ?_
  refine zv_ldc2 C kX11_273 dX11_addStock_11 ?_
  refine zv_eql (y := zL 100) (by decide) ?_
  refine zv_csiD (st := [.ref (ob E 327)]) C (c_X11_inRange hfl E (thW σ 0) ((t : Int)) (8) (100) (by omega) (by omega) (by omega)) mX11_inRange kX11_71 rfl ⟨rfl, rfl⟩ (show zfit (zrm 0 0) 6 (zrm 2 45) = true from rfl) (Nat.le_of_ble_eq_true rfl) dX11_addStock_14 ⟨Nat.zero_le _, Nat.zero_le _⟩ ?_
  refine zv_if_neB (tgt := 24) C dX11_addStock_17 (by decide) (fun h17 => ?_) (fun h17 => ?_)
  · skip
    refine zv_iconst (v := zI 0) C dX11_addStock_24 rfl ?_
    refine zv_iconst (v := zI 1) C dX11_addStock_25 rfl ?_
    refine zv_cviD (st := []) C (c0_X11_fails hfl E (thW σ 0) 1) mX11_fails kX11_309 (by decide : kd 327 = 10) rfl rfl rfl ⟨rfl, rfl⟩ (show zfit (zrm 0 0) 3 (zrm 2 45) = true from rfl) (Nat.le_of_ble_eq_true rfl) dX11_addStock_26 ⟨Nat.zero_le _, Nat.zero_le _⟩ ?_
    refine zv_if_neZ (tgt := 64) C (by omega) dX11_addStock_29 (by decide) (fun h29 => absurd h29 (by decide)) (fun h29 => ?_)
    refine zv_aload_n C 0 dX11_addStock_32 rfl rfl ?_
    refine zv_aload_n C 0 dX11_addStock_33 rfl rfl ?_
    refine zv_iload_n C 1 dX11_addStock_34 rfl rfl ?_
    refine zv_cviD (st := [.ref (ob E 327)]) C (c_X11_hasStock hfl E (thW σ 0) U.nb S ((t : Int)) hW hn16 hf9 (by omega)) mX11_hasStock kX11_172 (by decide : kd 327 = 10) rfl rfl rfl ⟨rfl, rfl⟩ (show zfit (zrm 0 0) 3 (zrm 2 45) = true from rfl) (Nat.le_of_ble_eq_true rfl) dX11_addStock_35 ⟨Nat.zero_le _, Nat.zero_le _⟩ ?_
    refine zv_if_neB (tgt := 52) C dX11_addStock_38 (by decide) (fun h38 => ?_) (fun h38 => ?_)
    · skip
      refine zv_iconst (v := zI 1) C dX11_addStock_52 rfl ?_
      refine zv_goto (tgt := 57) C dX11_addStock_53 (by decide) ?_
      refine zv_iconst (v := zI 2) C dX11_addStock_57 rfl ?_
      exfalso
      first | omega | exact absurd h38 (by rw [hok.2]; decide)
    · skip
      refine zv_aload_n C 0 dX11_addStock_41 rfl rfl ?_
      refine zG10_4 C (by decide : kd 327 = _) kX11_22 dX11_addStock_42 ?_
      refine zv_iconst (v := zI 0) C dX11_addStock_45 rfl ?_
      refine zv_iald (j := 0) C (by decide : kd 332 = _) (zI_ix (by omega)) (by decide) dX11_addStock_46 ?_
      refine zv_eqi (y := (zI (S.n : Int))) (hW.1) ?_
      refine zv_bipush (v := zI 16) C dX11_addStock_47 (by decide) ?_
      refine zv_icmp_neZ (tgt := 56) C (by omega) (by omega) dX11_addStock_49 (by decide) (fun h49 => ?_) (fun h49 => ?_)
      · skip
        refine zv_iconst (v := zI 0) C dX11_addStock_56 rfl ?_
        refine zv_iconst (v := zI 2) C dX11_addStock_57 rfl ?_
        refine zv_cviD (st := []) C (c0_X11_fails hfl E (thW σ 0) 2) mX11_fails kX11_309 (by decide : kd 327 = 10) rfl rfl rfl ⟨rfl, rfl⟩ (show zfit (zrm 0 0) 3 (zrm 2 45) = true from rfl) (Nat.le_of_ble_eq_true rfl) dX11_addStock_58 ⟨Nat.zero_le _, Nat.zero_le _⟩ ?_
        refine zv_if_eqZ (tgt := 66) C (by omega) dX11_addStock_61 (by decide) (fun h61 => ?_) (fun h61 => absurd h61 (by decide))
        refine zv_aload_n C 0 dX11_addStock_66 rfl rfl ?_
        refine zv_cvv (st := []) C (c_X11_remembers hfl E (thW σ 0) (zDv.mk ni tx ec eo U S hh kp ou) h0) mX11_remembers kX11_392 (by decide : kd 327 = 10) rfl rfl rfl ⟨rfl, rfl⟩ (show zfit (zrm 1 25) 1 (zrm 2 45) = true from rfl) (Nat.le_of_ble_eq_true rfl) dX11_addStock_67 ⟨Nat.zero_le _, Nat.zero_le _⟩ (fun τ1 hp67 => ?_)
        obtain ⟨hz1, hz2, hz3, hz4⟩ := hp67
        have hW1 : zRo (gI τ1 332) U.nb S := by rw [hz4]; exact hW
        have hB1 : zRb (gI τ1 328) U := hz1.2.2.1
        have ht1 : gI τ1 327 10 = zI 0 := hz2.trans (mK_th σ 0).2
        have hf1 : zFr 327 339 σ τ1 := zFr_trans (zFr_th σ 0) hz3
        refine zv_aload_n C 0 dX11_addStock_70 rfl rfl ?_
        refine zv_iload_n C 1 dX11_addStock_71 rfl rfl ?_
        refine zv_cvvD (st := []) C (c_X11_addsStock hfl E τ1 U.nb S t hW1 hok.1 hf9 (by omega)) mX11_addsStock kX11_175 (by decide : kd 327 = 10) rfl rfl rfl ⟨rfl, rfl⟩ (show zfit (zrm 0 0) 3 (zrm 2 45) = true from rfl) (Nat.le_of_ble_eq_true rfl) dX11_addStock_72 ⟨Nat.zero_le _, Nat.zero_le _⟩ ?_
        refine zv_aload_n C 0 dX11_addStock_75 rfl rfl ?_
        refine zG10_4 C (by decide : kd 327 = _) kX11_22 dX11_addStock_76 ?_
        refine zv_iconst (v := zI 0) C dX11_addStock_79 rfl ?_
        refine zv_iald (j := 0) C (by decide : kd 332 = _) (zI_ix (by omega)) (by decide) dX11_addStock_80 ?_
        refine zv_eqi (y := (zI ((S.n + 1 : Nat) : Int))) ((zRo_ins hW1 hk9 hok.1).1) ?_
        exact zv_iret C hr rfl dX11_addStock_81 ⟨rfl, zMP_x hz1 (zRo_ins hW1 hk9 hok.1) (zRk_ins hk9 t hok.1) (zMx_S (zMx_r _) _ _ _), (iSw_o _ _ _ _ _ _ (by decide)).trans ht1, zFr_S2 hf1 _ _ _⟩
      · skip
        refine zv_iconst (v := zI 1) C dX11_addStock_52 rfl ?_
        refine zv_goto (tgt := 57) C dX11_addStock_53 (by decide) ?_
        refine zv_iconst (v := zI 2) C dX11_addStock_57 rfl ?_
        exfalso
        first | omega | exact absurd h38 (by rw [hok.2]; decide)
  · skip
    refine zv_iconst (v := zI 1) C dX11_addStock_20 rfl ?_
    refine zv_goto (tgt := 25) C dX11_addStock_21 (by decide) ?_
    refine zv_iconst (v := zI 1) C dX11_addStock_25 rfl ?_
    exfalso
    first | omega | exact absurd h38 (by rw [hok.2]; decide)
set_option maxRecDepth 20000 in
theorem x1_X11_addStock {l : Launch} (hfl : l.stackTraces = false) (E : zE) (σ : zS) (nb : Nat) (S : zST) (y : Int) (hW : zRo (gI σ 332) nb S) (hy : -2147483648 ≤ y ∧ y < 2147483648) (hno : ¬ (8 ≤ y ∧ y ≤ 100)) : zRi l E yX11_addStock cX11_addStock 2 .int (zrm 1 25) [.ref (ob E 327), .int (zI y)] σ (fun r τ => r = zI 0 ∧ mK σ τ 1) := by
  refine Met.ofW (cc := cX11_addStock) (maxL := 2) (ret := (some .int)) (by decide +kernel) rfl ?_
  intro p e s m args below meth c s₁ B hml hv
  obtain ⟨rfl, hd⟩ := hv
  have C := zX_of (own := RX11) hfl B hml rfl hd rfl
  have hr := B.returns
  refine zV_go hd (Nat.le_of_ble_eq_true rfl) (lv := [(0, .ref (ob E 327)), (1, .int (zI y))]) rfl ?_
  refine zv_aload_n C 0 dX11_addStock_0 rfl rfl ?_
  refine zv_iconst (v := zI 0) C dX11_addStock_1 rfl ?_
  refine zP10_10 C (by decide : kd 327 = _) kX11_50 dX11_addStock_2 ?_
  refine zv_eqS (τ := (thW σ 0)) (rfl) ?_
  refine zv_aload_n C 0 dX11_addStock_5 rfl rfl ?_
  refine zv_iload_n C 1 dX11_addStock_6 rfl rfl ?_
  refine zv_i2lZ C (by omega) dX11_addStock_7 ?_
  refine zv_ldc2 C kX11_398 dX11_addStock_8 ?_
  refine zv_eql (y := zL 8) (by decide) ?_
  refine zv_ldc2 C kX11_273 dX11_addStock_11 ?_
  refine zv_eql (y := zL 100) (by decide) ?_
  refine zv_csiD (st := [.ref (ob E 327)]) C (c_X11_inRange hfl E (thW σ 0) (y) (8) (100) (by omega) (by omega) (by omega)) mX11_inRange kX11_71 rfl ⟨rfl, rfl⟩ (show zfit (zrm 0 0) 6 (zrm 1 25) = true from rfl) (Nat.le_of_ble_eq_true rfl) dX11_addStock_14 ⟨Nat.zero_le _, Nat.zero_le _⟩ ?_
  refine zv_if_neB (tgt := 24) C dX11_addStock_17 (by decide) (fun h17 => ?_) (fun h17 => ?_)
  · skip
    refine zv_iconst (v := zI 0) C dX11_addStock_24 rfl ?_
    refine zv_iconst (v := zI 1) C dX11_addStock_25 rfl ?_
    exfalso
    omega
  · skip
    refine zv_iconst (v := zI 1) C dX11_addStock_20 rfl ?_
    refine zv_goto (tgt := 25) C dX11_addStock_21 (by decide) ?_
    refine zv_iconst (v := zI 1) C dX11_addStock_25 rfl ?_
    refine zv_cviD (st := []) C (c1_X11_fails hfl E (thW σ 0) 1) mX11_fails kX11_309 (by decide : kd 327 = 10) rfl rfl rfl ⟨rfl, rfl⟩ (show zfit (zrm 0 0) 3 (zrm 1 25) = true from rfl) (Nat.le_of_ble_eq_true rfl) dX11_addStock_26 ⟨Nat.zero_le _, Nat.zero_le _⟩ ?_
    refine zv_if_neZ (tgt := 64) C (by omega) dX11_addStock_29 (by decide) (fun h29 => ?_) (fun h29 => absurd h29 (by decide))
    refine zv_iconst (v := zI 0) C dX11_addStock_64 rfl ?_
    exact zv_iret C hr rfl dX11_addStock_65 ⟨rfl, mK_th2 _ _ _⟩
set_option maxRecDepth 20000 in
theorem x2_X11_addStock {l : Launch} (hfl : l.stackTraces = false) (E : zE) (σ : zS) (σc : zS) (U : zSU) (S : zST) (t : Nat) (hB : zRb (gI σ 328) U) (hU : zSUp σc 29 U) (hW : zRo (gI σ 332) U.nb S) (hS : zSTp σc 34 S) (ht : 8 ≤ t ∧ t ≤ 100) (hno : ¬ (S.n < 16 ∧ sHas S.f (t : Int) S.n = false)) : zRi l E yX11_addStock cX11_addStock 2 .int (zrm 1 25) [.ref (ob E 327), .int (zI (t : Int))] σ (fun r τ => r = zI 0 ∧ mK σ τ 2) := by
  refine Met.ofW (cc := cX11_addStock) (maxL := 2) (ret := (some .int)) (by decide +kernel) rfl ?_
  intro p e s m args below meth c s₁ B hml hv
  obtain ⟨rfl, hd⟩ := hv
  have C := zX_of (own := RX11) hfl B hml rfl hd rfl
  have hr := B.returns
  refine zV_go hd (Nat.le_of_ble_eq_true rfl) (lv := [(0, .ref (ob E 327)), (1, .int (zI (t : Int)))]) rfl ?_
  have hnb : U.nb ≤ 8 := hU.2.2.1
  have hs0 := hU.2.2.2.1
  have hn16 : S.n ≤ 16 := hS.1.2.1
  have hf9 : ∀ i, i < S.n → S.f i ≤ 1000 := fun i h => Nat.le_trans (hS.1.2.2.2 i h) (by decide)
  
  refine zv_aload_n C 0 dX11_addStock_0 rfl rfl ?_
  refine zv_iconst (v := zI 0) C dX11_addStock_1 rfl ?_
  refine zP10_10 C (by decide : kd 327 = _) kX11_50 dX11_addStock_2 ?_
  refine zv_eqS (τ := (thW σ 0)) (rfl) ?_
  refine zv_aload_n C 0 dX11_addStock_5 rfl rfl ?_
  refine zv_iload_n C 1 dX11_addStock_6 rfl rfl ?_
  refine zv_i2lZ C (by omega) dX11_addStock_7 ?_
  refine zv_ldc2 C kX11_398 dX11_addStock_8 ?_
  refine zv_eql (y := zL 8) (by decide) ?_
  refine zv_ldc2 C kX11_273 dX11_addStock_11 ?_
  refine zv_eql (y := zL 100) (by decide) ?_
  refine zv_csiD (st := [.ref (ob E 327)]) C (c_X11_inRange hfl E (thW σ 0) ((t : Int)) (8) (100) (by omega) (by omega) (by omega)) mX11_inRange kX11_71 rfl ⟨rfl, rfl⟩ (show zfit (zrm 0 0) 6 (zrm 1 25) = true from rfl) (Nat.le_of_ble_eq_true rfl) dX11_addStock_14 ⟨Nat.zero_le _, Nat.zero_le _⟩ ?_
  refine zv_if_neB (tgt := 24) C dX11_addStock_17 (by decide) (fun h17 => ?_) (fun h17 => ?_)
  · skip
    refine zv_iconst (v := zI 0) C dX11_addStock_24 rfl ?_
    refine zv_iconst (v := zI 1) C dX11_addStock_25 rfl ?_
    refine zv_cviD (st := []) C (c0_X11_fails hfl E (thW σ 0) 1) mX11_fails kX11_309 (by decide : kd 327 = 10) rfl rfl rfl ⟨rfl, rfl⟩ (show zfit (zrm 0 0) 3 (zrm 1 25) = true from rfl) (Nat.le_of_ble_eq_true rfl) dX11_addStock_26 ⟨Nat.zero_le _, Nat.zero_le _⟩ ?_
    refine zv_if_neZ (tgt := 64) C (by omega) dX11_addStock_29 (by decide) (fun h29 => absurd h29 (by decide)) (fun h29 => ?_)
    refine zv_aload_n C 0 dX11_addStock_32 rfl rfl ?_
    refine zv_aload_n C 0 dX11_addStock_33 rfl rfl ?_
    refine zv_iload_n C 1 dX11_addStock_34 rfl rfl ?_
    refine zv_cviD (st := [.ref (ob E 327)]) C (c_X11_hasStock hfl E (thW σ 0) U.nb S ((t : Int)) hW hn16 hf9 (by omega)) mX11_hasStock kX11_172 (by decide : kd 327 = 10) rfl rfl rfl ⟨rfl, rfl⟩ (show zfit (zrm 0 0) 3 (zrm 1 25) = true from rfl) (Nat.le_of_ble_eq_true rfl) dX11_addStock_35 ⟨Nat.zero_le _, Nat.zero_le _⟩ ?_
    refine zv_if_neB (tgt := 52) C dX11_addStock_38 (by decide) (fun h38 => ?_) (fun h38 => ?_)
    · skip
      refine zv_iconst (v := zI 1) C dX11_addStock_52 rfl ?_
      refine zv_goto (tgt := 57) C dX11_addStock_53 (by decide) ?_
      refine zv_iconst (v := zI 2) C dX11_addStock_57 rfl ?_
      refine zv_cviD (st := []) C (c1_X11_fails hfl E (thW σ 0) 2) mX11_fails kX11_309 (by decide : kd 327 = 10) rfl rfl rfl ⟨rfl, rfl⟩ (show zfit (zrm 0 0) 3 (zrm 1 25) = true from rfl) (Nat.le_of_ble_eq_true rfl) dX11_addStock_58 ⟨Nat.zero_le _, Nat.zero_le _⟩ ?_
      refine zv_if_eqZ (tgt := 66) C (by omega) dX11_addStock_61 (by decide) (fun h61 => absurd h61 (by decide)) (fun h61 => ?_)
      refine zv_iconst (v := zI 0) C dX11_addStock_64 rfl ?_
      exact zv_iret C hr rfl dX11_addStock_65 ⟨rfl, mK_th2 _ _ _⟩
    · skip
      refine zv_aload_n C 0 dX11_addStock_41 rfl rfl ?_
      refine zG10_4 C (by decide : kd 327 = _) kX11_22 dX11_addStock_42 ?_
      refine zv_iconst (v := zI 0) C dX11_addStock_45 rfl ?_
      refine zv_iald (j := 0) C (by decide : kd 332 = _) (zI_ix (by omega)) (by decide) dX11_addStock_46 ?_
      refine zv_eqi (y := zI (S.n : Int)) (hW.1) ?_
      refine zv_bipush (v := zI 16) C dX11_addStock_47 (by decide) ?_
      refine zv_icmp_neZ (tgt := 56) C (by omega) (by omega) dX11_addStock_49 (by decide) (fun h49 => ?_) (fun h49 => ?_)
      · skip
        refine zv_iconst (v := zI 0) C dX11_addStock_56 rfl ?_
        refine zv_iconst (v := zI 2) C dX11_addStock_57 rfl ?_
        exfalso
        first | omega | exact hno ⟨by omega, by simpa using h38⟩
      · skip
        refine zv_iconst (v := zI 1) C dX11_addStock_52 rfl ?_
        refine zv_goto (tgt := 57) C dX11_addStock_53 (by decide) ?_
        refine zv_iconst (v := zI 2) C dX11_addStock_57 rfl ?_
        refine zv_cviD (st := []) C (c1_X11_fails hfl E (thW σ 0) 2) mX11_fails kX11_309 (by decide : kd 327 = 10) rfl rfl rfl ⟨rfl, rfl⟩ (show zfit (zrm 0 0) 3 (zrm 1 25) = true from rfl) (Nat.le_of_ble_eq_true rfl) dX11_addStock_58 ⟨Nat.zero_le _, Nat.zero_le _⟩ ?_
        refine zv_if_eqZ (tgt := 66) C (by omega) dX11_addStock_61 (by decide) (fun h61 => absurd h61 (by decide)) (fun h61 => ?_)
        refine zv_iconst (v := zI 0) C dX11_addStock_64 rfl ?_
        exact zv_iret C hr rfl dX11_addStock_65 ⟨rfl, mK_th2 _ _ _⟩
  · skip
    refine zv_iconst (v := zI 1) C dX11_addStock_20 rfl ?_
    refine zv_goto (tgt := 25) C dX11_addStock_21 (by decide) ?_
    refine zv_iconst (v := zI 1) C dX11_addStock_25 rfl ?_
    exfalso
    first | omega | exact hno ⟨by omega, by simpa using h38⟩
set_option maxRecDepth 20000 in
theorem c_X11_setSlack {l : Launch} (hfl : l.stackTraces = false) (E : zE) (σ : zS) (σc : zS) (ni : Nat) (tx : Nat → Int) (ec : Nat) (eo : Int) (U : zSU) (S : zST) (hh : List zST) (kp : Option zST) (ou : List Nat) (t : Nat) (h : zMP σ (zDv.mk ni tx ec eo U S hh kp ou)) (hU : zSUp σc 29 U) (hS : zSTp σc 34 S) (ht : t ≤ 999) : zRi l E yX11_setSlack cX11_setSlack 4 .int (zrm 2 45) [.ref (ob E 327), .int (zI (t : Int))] σ (fun r τ => r = zI (S.sl : Int) ∧ mH σ τ ((zDv.mk ni tx ec eo U S hh kp ou).re.sS (S.slk t))) := by
  refine Met.ofW (cc := cX11_setSlack) (maxL := 4) (ret := (some .int)) (by decide +kernel) rfl ?_
  intro p e s m args below meth c s₁ B hml hv
  obtain ⟨rfl, hd⟩ := hv
  have C := zX_of (own := RX11) hfl B hml rfl hd rfl
  have hr := B.returns
  refine zV_go hd (Nat.le_of_ble_eq_true rfl) (lv := [(0, .ref (ob E 327)), (1, .int (zI (t : Int)))]) rfl ?_
  have hnb : U.nb ≤ 8 := hU.2.2.1
  have hs0 := hU.2.2.2.1
  have hB : zRb (gI σ 328) U := h.2.2.1
  have hW : zRo (gI σ 332) U.nb S := h.2.2.2.2.1.1
  have hk9 : zRk S := h.2.2.2.2.1.2
  have h0 : zMP (thW σ 0) (zDv.mk ni tx ec eo U S hh kp ou) := zMP_q h (mK_th σ 0).1
  
  refine zv_aload_n C 0 dX11_setSlack_0 rfl rfl ?_
  refine zv_iconst (v := zI 0) C dX11_setSlack_1 rfl ?_
  refine zP10_10 C (by decide : kd 327 = _) kX11_50 dX11_setSlack_2 ?_
  refine zv_eqS (τ := (thW σ 0)) (rfl) ?_
  refine zv_aload_n C 0 dX11_setSlack_5 rfl rfl ?_
  refine zv_iload_n C 1 dX11_setSlack_6 rfl rfl ?_
  refine zv_i2lZ C (by omega) dX11_setSlack_7 ?_
  refine zv_lconst (v := zL 0) C dX11_setSlack_8 (by decide) ?_
  refine zv_ldc2 C kX11_403 dX11_setSlack_9 ?_
  refine zv_eql (y := zL 999) (by decide) ?_
  refine zv_csiD (st := [.ref (ob E 327)]) C (c_X11_inRange hfl E (thW σ 0) ((t : Int)) (0) (999) (by omega) (by omega) (by omega)) mX11_inRange kX11_71 rfl ⟨rfl, rfl⟩ (show zfit (zrm 0 0) 6 (zrm 2 45) = true from rfl) (Nat.le_of_ble_eq_true rfl) dX11_setSlack_12 ⟨Nat.zero_le _, Nat.zero_le _⟩ ?_
  refine zv_if_neB (tgt := 22) C dX11_setSlack_15 (by decide) (fun h15 => ?_) (fun h15 => ?_)
  · skip
    refine zv_iconst (v := zI 0) C dX11_setSlack_22 rfl ?_
    refine zv_iconst (v := zI 1) C dX11_setSlack_23 rfl ?_
    refine zv_cviD (st := []) C (c0_X11_fails hfl E (thW σ 0) 1) mX11_fails kX11_309 (by decide : kd 327 = 10) rfl rfl rfl ⟨rfl, rfl⟩ (show zfit (zrm 0 0) 3 (zrm 2 45) = true from rfl) (Nat.le_of_ble_eq_true rfl) dX11_setSlack_24 ⟨Nat.zero_le _, Nat.zero_le _⟩ ?_
    refine zv_if_eqZ (tgt := 32) C (by omega) dX11_setSlack_27 (by decide) (fun h27 => ?_) (fun h27 => absurd h27 (by decide))
    refine zv_aload_n C 0 dX11_setSlack_32 rfl rfl ?_
    refine zv_cvv (st := []) C (c_X11_remembers hfl E (thW σ 0) (zDv.mk ni tx ec eo U S hh kp ou) h0) mX11_remembers kX11_392 (by decide : kd 327 = 10) rfl rfl rfl ⟨rfl, rfl⟩ (show zfit (zrm 1 25) 1 (zrm 2 45) = true from rfl) (Nat.le_of_ble_eq_true rfl) dX11_setSlack_33 ⟨Nat.zero_le _, Nat.zero_le _⟩ (fun τ1 hp33 => ?_)
    obtain ⟨hz1, hz2, hz3, hz4⟩ := hp33
    have hW1 : zRo (gI τ1 332) U.nb S := by rw [hz4]; exact hW
    have hB1 : zRb (gI τ1 328) U := hz1.2.2.1
    have ht1 : gI τ1 327 10 = zI 0 := hz2.trans (mK_th σ 0).2
    have hf1 : zFr 327 339 σ τ1 := zFr_trans (zFr_th σ 0) hz3
    refine zv_aload_n C 0 dX11_setSlack_36 rfl rfl ?_
    refine zG10_4 C (by decide : kd 327 = _) kX11_22 dX11_setSlack_37 ?_
    refine zv_bipush (v := zI 17) C dX11_setSlack_40 (by decide) ?_
    refine zv_iald (j := 17) C (by decide : kd 332 = _) (zI_ix (by omega)) (by decide) dX11_setSlack_42 ?_
    refine zv_eqi (y := (zI (S.sl : Int))) (hW1.2.2.1) ?_
    refine zv_istore_n (lv' := [(2, .int (zI (S.sl : Int))), (0, .ref (ob E 327)), (1, .int (zI (t : Int)))]) C dX11_setSlack_43 rfl (by decide) rfl ?_
    refine zv_aload_n C 1 dX11_setSlack_44 rfl rfl ?_
    refine zG10_4 C (by decide : kd 327 = _) kX11_22 dX11_setSlack_45 ?_
    refine zv_bipush (v := zI 17) C dX11_setSlack_48 (by decide) ?_
    refine zv_iload_n C 2 dX11_setSlack_50 rfl rfl ?_
    refine zv_iast (j := 17) C (by decide : kd 332 = _) (zI_ix (by omega)) (by decide) dX11_setSlack_51 ?_
    refine zv_iconst (v := zI 0) C dX11_setSlack_52 rfl ?_
    refine zv_istore_n (lv' := [(3, .int (zI 0)), (2, .int (zI (S.sl : Int))), (0, .ref (ob E 327)), (1, .int (zI (t : Int)))]) C dX11_setSlack_53 rfl (by decide) rfl ?_
    have q54_44 : (0 : Int) = (0 : Int) := by first | rfl | omega
    refine zv_sub (lv' := [(0, .ref (ob E 327)), (1, .int (zI (t : Int))), (2, .int (zI (S.sl : Int))), (3, .int (zI (0 : Int)))]) [2, 3, 1, 0] (zcons rfl (zcons rfl (zcons rfl (zcons (zqI q54_44) rfl)))) ?_
    refine zv_eqS (τ := (frL (sI τ1 332 17 (zI (t : Int))) 0)) (rfl) ?_
    refine zv_while (α := Nat) (fun v => U.nb - v) (fun v => v ≤ U.nb) (fun v => (frL (sI τ1 332 17 (zI (t : Int))) v)) (fun v => [(0, .ref (ob E 327)), (1, .int (zI (t : Int))), (2, .int (zI (S.sl : Int))), (3, .int (zI (v : Int)))]) (fun v => []) (fun j hI ih => ?_) (0) (by omega)
    refine zv_iload_n C 3 dX11_setSlack_54 rfl rfl ?_
    refine zv_aload_n C 0 dX11_setSlack_55 rfl rfl ?_
    refine zG10_0 C (by decide : kd 327 = _) kX11_7 dX11_setSlack_56 ?_
    refine zv_iconst (v := zI 0) C dX11_setSlack_59 rfl ?_
    refine zv_iald (j := 0) C (by decide : kd 328 = _) (zI_ix (by omega)) (by decide) dX11_setSlack_60 ?_
    refine zv_eqi (y := zI (U.nb : Int)) ((by rw [frL_o _ _ _ _ (fun z => absurd z (by decide))]; exact hB1.1)) ?_
    refine zv_icmp_geZ (tgt := 75) C (by omega) (by omega) dX11_setSlack_61 (by decide) (fun h61 => ?_) (fun h61 => ?_)
    · skip
      refine zv_iload_n C 2 dX11_setSlack_75 rfl rfl ?_
      exact zv_iret C hr rfl dX11_setSlack_76 (by rw [show j = U.nb by omega]; exact ⟨rfl, zMP_x hz1 (zRo_slk hW1 hk9 hnb) hk9 (zMx_L (zMx_I (zMx_r _) _ _) _), (frL_o _ _ _ _ (fun z => absurd z (by decide))).trans ht1, zFr_L (zFr_I hf1 (by decide)) _⟩)
    · skip
      refine zv_aload_n C 0 dX11_setSlack_64 rfl rfl ?_
      refine zv_iload_n C 3 dX11_setSlack_65 rfl rfl ?_
      refine zv_cvvD (st := []) C (c_X11_frees hfl E (frL (sI τ1 332 17 (zI (t : Int))) j) j (by omega)) mX11_frees kX11_395 (by decide : kd 327 = 10) rfl rfl rfl ⟨rfl, rfl⟩ (show zfit (zrm 1 21) 2 (zrm 2 45) = true from rfl) (Nat.le_of_ble_eq_true rfl) dX11_setSlack_66 ⟨Nat.zero_le _, Nat.zero_le _⟩ ?_
      refine zv_iinc (v := (zI ((j : Int) + 1))) (lv' := [(3, .int (zI ((j : Int) + 1))), (0, .ref (ob E 327)), (1, .int (zI (t : Int))), (2, .int (zI (S.sl : Int)))]) C 3 dX11_setSlack_69 rfl (zI_add _ _) (by decide) rfl ?_
      refine zv_goto (tgt := 54) C dX11_setSlack_72 (by decide) ?_
      have q54_64 : ((j : Int) + 1 : Int) = ((j + 1 : Nat) : Int) := by first | rfl | omega
      refine zv_sub (lv' := [(0, .ref (ob E 327)), (1, .int (zI (t : Int))), (2, .int (zI (S.sl : Int))), (3, .int (zI ((j + 1 : Nat) : Int)))]) [1, 2, 3, 0] (zcons rfl (zcons rfl (zcons rfl (zcons (zqI q54_64) rfl)))) ?_
      refine zv_eqS (τ := (frL (sI τ1 332 17 (zI (t : Int))) (j + 1))) (rfl) ?_
      exact ih (j + 1) (by omega) (by omega)
  · skip
    refine zv_iconst (v := zI 1) C dX11_setSlack_18 rfl ?_
    refine zv_goto (tgt := 23) C dX11_setSlack_19 (by decide) ?_
    refine zv_iconst (v := zI 1) C dX11_setSlack_23 rfl ?_
    exfalso
    omega
