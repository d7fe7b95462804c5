/-! how far a train is off, unreduced -/
def rO (U : zSU) (S : zST) (i : Nat) : Nat × Nat := (((qPtr U S i).1 * (qDue U i).2 - (qDue U i).1 * (qPtr U S i).2).natAbs, (qPtr U S i).2.toNat)
theorem rO_b {σ σ' : zS} {k k' : Nat} {U : zSU} {S : zST} (h : zSUp σ k U) (hS : zSTp σ' k' S) {i : Nat} (hi : i < U.nb) : (rO U S i).1 < 2 ^ 62 ∧ (0 < (rO U S i).2 ∧ (rO U S i).2 ≤ 100000000) ∧ (((rO U S i).2 : Nat) : Int) = (qPtr U S i).2 := by
  obtain ⟨a1, a2, a3⟩ := qPtr_b h hS hi
  obtain ⟨b1, b2, b3⟩ := qDue_b h hi
  have m1 : ((qPtr U S i).1 * (qDue U i).2).natAbs ≤ 200000000 * 9999999 := by
    rw [Int.natAbs_mul]
    exact Nat.mul_le_mul a1 (by omega)
  have m2 : ((qDue U i).1 * (qPtr U S i).2).natAbs ≤ 100 * 100000000 := by
    rw [Int.natAbs_mul]
    exact Nat.mul_le_mul b1 (by omega)
  unfold rO
  dsimp only
  omega
theorem rO_a {σ σ' : zS} {k k' : Nat} {U : zSU} {S : zST} (h : zSUp σ k U) (hS : zSTp σ' k' S) {i : Nat} (hi : i < U.nb) : ∃ g : Nat, 0 < g ∧ (rO U S i).1 = g * (qDrift U S i).1.natAbs ∧ (rO U S i).2 * (qDue U i).2.toNat = g * (qDrift U S i).2.toNat := by
  obtain ⟨a1, a2, a3⟩ := qPtr_b h hS hi
  obtain ⟨b1, b2, b3⟩ := qDue_b h hi
  obtain ⟨c1, c2, c3⟩ := qDrift_b h hS hi
  have hpe := (h.2.2.2.2 i hi).2.2.2.2.1
  have hn := rT_neg (rtT U i) (U.pe i : Int)
  have hD : qDrift U S i = (rT ((qPtr U S i).1 * (qDue U i).2 - (qDue U i).1 * (qPtr U S i).2) ((qPtr U S i).2 * (qDue U i).2), rB ((qPtr U S i).1 * (qDue U i).2 - (qDue U i).1 * (qPtr U S i).2) ((qPtr U S i).2 * (qDue U i).2)) := by
    rw [qDrift, rAd_low a2 (show (1 : Int) ≤ (U.pe i : Int) by omega), hn.1, hn.2]
    show rAd (qPtr U S i) (-(qDue U i).1) (qDue U i).2 = _
    unfold rAd
    rw [Int.neg_mul, ← Int.sub_eq_add_neg]
  obtain ⟨z, hz⟩ : ∃ z, z = (qPtr U S i).1 * (qDue U i).2 - (qDue U i).1 * (qPtr U S i).2 := ⟨_, rfl⟩
  obtain ⟨w, hw⟩ : ∃ w, w = (qPtr U S i).2 * (qDue U i).2 := ⟨_, rfl⟩
  rw [← hz, ← hw] at hD
  have hw1 : 1 ≤ w := by
    have := Int.mul_le_mul a2 b2 (by omega) (by omega)
    rw [hw]; omega
  have e := rT_e (z := z) hw1
  have d1 : (qDrift U S i).1 = rT z w := by rw [hD]
  have d2 : (qDrift U S i).2 = rB z w := by rw [hD]
  have g0 : 0 < rG z w := by
    rcases Nat.eq_zero_or_pos (rG z w) with q | q
    · rw [q] at e
      have := e.2
      rw [show ((0 : Nat) : Int) = 0 from rfl, Int.zero_mul] at this
      omega
    · exact q
  refine ⟨rG z w, g0, ?_, ?_⟩
  · show ((qPtr U S i).1 * (qDue U i).2 - (qDue U i).1 * (qPtr U S i).2).natAbs = _
    rw [← hz, d1]
    have := congrArg Int.natAbs e.1
    rw [Int.natAbs_mul] at this
    exact this
  · show (qPtr U S i).2.toNat * (qDue U i).2.toNat = _
    have h1 : w = (rG z w : Int) * (qDrift U S i).2 := by rw [d2]; exact e.2
    rw [hw] at h1
    have e1 : (((qPtr U S i).2.toNat : Nat) : Int) = (qPtr U S i).2 := by omega
    have e2 : (((qDue U i).2.toNat : Nat) : Int) = (qDue U i).2 := by omega
    have e3 : (((qDrift U S i).2.toNat : Nat) : Int) = (qDrift U S i).2 := by omega
    rw [← hw] at h1
    apply Int.natCast_inj.mp
    rw [Int.natCast_mul, Int.natCast_mul, e1, e2, e3, ← hw]
    exact h1
theorem fc_lt {a b c d : Nat} : fCmp a b c d < 0 ↔ a * d < c * b := by
  unfold fCmp
  by_cases h : a * d < c * b
  · rw [if_pos h]; omega
  · rw [if_neg h]
    split <;> omega
theorem rO_cmp {σ σ' τ' : zS} {k k' k2 : Nat} {U : zSU} {S S2 : zST} (h : zSUp σ k U) (hS : zSTp σ' k' S) (hS2 : zSTp τ' k2 S2) {i : Nat} (hi : i < U.nb) : fCmp (qDrift U S i).1.natAbs (qDrift U S i).2.toNat (qDrift U S2 i).1.natAbs (qDrift U S2 i).2.toNat < 0 ↔ (rO U S i).1 * (rO U S2 i).2 < (rO U S2 i).1 * (rO U S i).2 := by
  obtain ⟨b1, b2, b3⟩ := qDue_b h hi
  obtain ⟨g, hg, e1, e2⟩ := rO_a h hS hi
  obtain ⟨g', hg', f1, f2⟩ := rO_a h hS2 hi
  rw [fc_lt]
  generalize (qDrift U S i).1.natAbs = a at e1 ⊢
  generalize (qDrift U S i).2.toNat = b at e2 ⊢
  generalize (qDrift U S2 i).1.natAbs = c at f1 ⊢
  generalize (qDrift U S2 i).2.toNat = d at f2 ⊢
  have hq : 0 < (qDue U i).2.toNat := by omega
  generalize (qDue U i).2.toNat = q at e2 f2 hq
  generalize (rO U S i).1 = o1 at e1 ⊢
  generalize (rO U S2 i).1 = o2 at f1 ⊢
  generalize (rO U S i).2 = p1 at e2 ⊢
  generalize (rO U S2 i).2 = p2 at f2 ⊢
  have k1 : q * (o1 * p2) = (g * g') * (a * d) := by
    rw [show q * (o1 * p2) = o1 * (p2 * q) by simp only [Nat.mul_comm, Nat.mul_left_comm, Nat.mul_assoc], e1, f2]
    simp only [Nat.mul_comm, Nat.mul_left_comm, Nat.mul_assoc]
  have k2 : q * (o2 * p1) = (g * g') * (c * b) := by
    rw [show q * (o2 * p1) = o2 * (p1 * q) by simp only [Nat.mul_comm, Nat.mul_left_comm, Nat.mul_assoc], f1, e2]
    simp only [Nat.mul_comm, Nat.mul_left_comm, Nat.mul_assoc]
  have hz : o1 * p2 < o2 * p1 ↔ q * (o1 * p2) < q * (o2 * p1) := (Nat.mul_lt_mul_left hq).symm
  rw [hz, k1, k2, Nat.mul_lt_mul_left (Nat.mul_pos hg hg')]
/-- the nearest so far, in both forms -/
def imL (U : zSU) (S : zST) (i f b : Nat) (r : Int × Int) : Prop := ∃ S', r = qDrift U S' i ∧ f = (rO U S' i).1 ∧ b = (rO U S' i).2 ∧ (∃ σ' k', zSTp σ' k' S') ∧ f * (rO U S i).2 ≤ (rO U S i).1 * b
theorem imL_0 {σ : zS} {k : Nat} {U : zSU} {S : zST} (hS : zSTp σ k S) (i : Nat) : imL U S i (rO U S i).1 (rO U S i).2 (qDrift U S i) := ⟨S, rfl, rfl, rfl, ⟨σ, k, hS⟩, Nat.le_refl _⟩
theorem imL_b {σ : zS} {k : Nat} {U : zSU} {S : zST} {i f b : Nat} {r : Int × Int} (hU : zSUp σ k U) (hi : i < U.nb) (h : imL U S i f b r) : f < 2 ^ 62 ∧ 0 < b ∧ b ≤ 100000000 := by
  obtain ⟨S', h1, h2, h3, ⟨σ', k', h4⟩, h5⟩ := h
  have := rO_b hU h4 hi
  subst h2 h3
  exact ⟨this.1, this.2.1.1, this.2.1.2⟩
theorem imL_c {σ τ : zS} {k k2 : Nat} {U : zSU} {S S2 : zST} {i f b : Nat} {r : Int × Int} (hU : zSUp σ k U) (hS2 : zSTp τ k2 S2) (hi : i < U.nb) (h : imL U S i f b r) : fCmp (qDrift U S2 i).1.natAbs (qDrift U S2 i).2.toNat r.1.natAbs r.2.toNat < 0 ↔ (rO U S2 i).1 * b < f * (rO U S2 i).2 := by
  obtain ⟨S', h1, h2, h3, ⟨σ', k', h4⟩, h5⟩ := h
  subst h1 h2 h3
  exact rO_cmp hU hS2 h4 hi
theorem imL_s {σ τ : zS} {k k2 : Nat} {U : zSU} {S S2 : zST} {i f b : Nat} {r : Int × Int} (hU : zSUp σ k U) (hS2 : zSTp τ k2 S2) (hi : i < U.nb) (h : imL U S i f b r) (hl : (rO U S2 i).1 * b < f * (rO U S2 i).2) : imL U S i (rO U S2 i).1 (rO U S2 i).2 (qDrift U S2 i) := by
  have hb := imL_b hU hi h
  obtain ⟨S', h1, h2, h3, h4, h5⟩ := h
  refine ⟨S2, rfl, rfl, rfl, ⟨τ, k2, hS2⟩, ?_⟩
  generalize (rO U S2 i).1 = o2 at hl ⊢
  generalize (rO U S2 i).2 = p2 at hl ⊢
  generalize (rO U S i).1 = o at h5 ⊢
  generalize (rO U S i).2 = p at h5 ⊢
  refine Nat.le_of_mul_le_mul_left (c := b) ?_ hb.2.1
  calc b * (o2 * p) = (o2 * b) * p := by simp only [Nat.mul_comm, Nat.mul_left_comm, Nat.mul_assoc]
    _ ≤ (f * p2) * p := Nat.mul_le_mul_right p (Nat.le_of_lt hl)
    _ = (f * p) * p2 := by simp only [Nat.mul_comm, Nat.mul_left_comm, Nat.mul_assoc]
    _ ≤ (o * b) * p2 := Nat.mul_le_mul_right p2 h5
    _ = b * (o * p2) := by simp only [Nat.mul_comm, Nat.mul_left_comm, Nat.mul_assoc]
theorem cel_s (S : zST) (i x w : Nat) : S.cel i x w (S.tr i x w) = S := by
  have e1 : (fun j => if j = i then S.tn i else S.tn j) = S.tn := funext fun j => by
    split
    · rename_i z; rw [z]
    · rfl
  have e2 : (fun j => if j = i then (fun a b => if a = x ∧ b = w then S.tr i x w else S.tr i a b) else S.tr j) = S.tr := funext fun j => by
    split
    · rename_i z
      subst z
      funext a b
      split
      · rename_i y; rw [y.1, y.2]
      · rfl
    · rfl
  show zST.mk S.n S.f S.sl S.dy S.lg (fun j => if j = i then S.tn i else S.tn j) (fun j => if j = i then (fun a b => if a = x ∧ b = w then S.tr i x w else S.tr i a b) else S.tr j) = S
  rw [e1, e2]
  rfl
/-- the number that stands there is no nearer -/
theorem imL_n {σ τ : zS} {k k2 : Nat} {U : zSU} {S : zST} {i f b x w t : Nat} {r : Int × Int} (hU : zSUp σ k U) (hS : zSTp τ k2 S) (hi : i < U.nb) (h : imL U S i f b r) (ht : S.tr i x w = t) : ¬ fCmp (qDrift U (S.cel i x w t) i).1.natAbs (qDrift U (S.cel i x w t) i).2.toNat r.1.natAbs r.2.toNat < 0 := by
  subst ht
  rw [cel_s, imL_c hU hS hi h]
  obtain ⟨S', h1, h2, h3, h4, h5⟩ := h
  omega
theorem cel_ok {σ : zS} {U : zSU} {S : zST} {i x w t : Nat} (hU : zSUp σ 29 U) (h : zSTp σ 34 S) (hi : i < 8) (hx : x < S.tn i) (hw : w = 1 ∨ w = 2) (hg : S.tr i x 0 ≠ 2) (ht : 8 ≤ t ∧ t ≤ 100) : ∃ σ', zSUp σ' 29 U ∧ zSTp σ' 34 (S.cel i x w t) :=
  ⟨sI σ (34 + 4 + 2 * i + 1) (3 * x + w) (zI (t : Int)), zSUp_w hU (fun a b _ _ => ⟨by rw [gI_sI, if_neg (by omega)], rfl⟩), zSTp_cel h hi hx hw hg ht (by rw [gI_sI, if_pos ⟨rfl, rfl⟩]) (fun a b _ _ z => by rw [gI_sI, if_neg z])⟩
theorem ix14d {i j p w x v n : Nat} (hp : p < n) (hn : n ≤ 4) (hw : w < 3) (hx : x < 4) (hv : v < 3) (h : ¬ (j = i ∧ p = x ∧ w = v)) : 21 + 14 * j + 3 * p + w ≠ 19 + 14 * i + (2 + 3 * x + v) := by
  rcases Nat.lt_or_ge j i with q | q
  · omega
  · rcases Nat.lt_or_ge i j with q2 | q2 <;> omega
theorem zRo_cel {σ : zS} {nb : Nat} {S : zST} {i x w : Nat} (t : Nat) (h : zRo (gI σ 332) nb S) (hk : zRk S) (hi : i < 8) (hx : x < S.tn i) (hw : w < 3) : zRo (gI (sI σ 332 (19 + 14 * i + (2 + 3 * x + w)) (zI (t : Int))) 332) nb (S.cel i x w t) := by
  obtain ⟨h1, h2, h3, h4, h5⟩ := h
  have hn := hk.1
  have hti := hk.2 i hi
  have o : ∀ j, j ≠ 19 + 14 * i + (2 + 3 * x + w) → gI (sI σ 332 (19 + 14 * i + (2 + 3 * x + w)) (zI (t : Int))) 332 j = gI σ 332 j := fun j q => by rw [gI_sI, if_neg (by omega)]
  refine ⟨(o 0 (by omega)).trans h1, fun q hq => (o _ (by have : q < S.n := hq; omega)).trans (h2 q hq), (o 17 (by omega)).trans h3, (o 18 (by omega)).trans h4, fun j hj => ?_⟩
  obtain ⟨a1, a2, a3⟩ := h5 j hj
  have ht4 := hk.2 j hj
  have g := ix14 (i := j) (j := i) hx hti hw
  have htj : (S.cel i x w t).tn j = S.tn j := by
    show (if j = i then S.tn i else S.tn j) = _
    split
    · rename_i z; rw [z]
    · rfl
  refine ⟨?_, fun hb => (o _ (by omega)).trans (a2 hb), fun p v hp hv => ?_⟩
  · rw [htj, o _ (by omega)]; exact a1
  · rw [htj] at hp
    show _ = zI (((if j = i then (fun a b => if a = x ∧ b = w then t else S.tr i a b) else S.tr j) p v : Nat) : Int)
    by_cases z : j = i
    · subst z
      rw [if_pos rfl]
      show _ = zI ((if p = x ∧ v = w then t else S.tr j p v : Nat) : Int)
      by_cases y : p = x ∧ v = w
      · rw [if_pos y, gI_sI, if_pos (by omega)]
      · rw [if_neg y, o _ (ix14d hp ht4 hv (by omega) hw (by omega))]
        exact a3 p v hp hv
    · rw [if_neg z, o _ (ix14d hp ht4 hv (by omega) hw (by omega))]
      exact a3 p v hp hv
set_option maxRecDepth 20000 in
theorem c_X11_offNow {l : Launch} (hfl : l.stackTraces = false) (E : zE) (σ : zS) (σc : zS) (U : zSU) (S : zST) (i : Nat) (hB : zRb (gI σ 328) U) (hU : zSUp σc 29 U) (hW : zRo (gI σ 332) U.nb S) (hS : zSTp σc 34 S) (hi : i < U.nb) : zRl l E yX11_offNow cX11_offNow 6 (zrm 5 127) [.ref (ob E 327), .int (zI (i : Int))] σ (fun r τ => r = zL ((rO U S i).1 : Int) ∧ τ = mW σ (qPtr U S i).1 (qPtr U S i).2) := by
  refine Met.ofW (cc := cX11_offNow) (maxL := 6) (ret := (some .long)) (by decide +kernel) rfl ?_
  intro p e s m args below meth c s₁ B hml hv
  obtain ⟨rfl, hd⟩ := hv
  have C := zX_of (own := RX11) hfl B hml rfl hd rfl
  have hr := B.returns
  refine zV_go hd (Nat.le_of_ble_eq_true rfl) (lv := [(0, .ref (ob E 327)), (1, .int (zI (i : Int)))]) rfl ?_
  have hnb : U.nb ≤ 8 := hU.2.2.1
  have hs0 := hU.2.2.2.1
  have hi8 : i < 8 := by omega
  have hca := (hU.2.2.2.2 i hi).2.2.2.2.2.2
  have hpe := (hU.2.2.2.2 i hi).2.2.2.2.1
  have hre := (hU.2.2.2.2 i hi).2.2.2.2.2.1
  have hqp := qPtr_b hU hS hi
  have hqd := qDue_b hU hi
  have m1 : ((qPtr U S i).1 * (qDue U i).2).natAbs ≤ 200000000 * 9999999 := by
    rw [Int.natAbs_mul]
    exact Nat.mul_le_mul hqp.1 (by omega)
  have m2 : ((qDue U i).1 * (qPtr U S i).2).natAbs ≤ 100 * 100000000 := by
    rw [Int.natAbs_mul]
    exact Nat.mul_le_mul hqd.1 (by omega)
  refine zv_aload_n C 0 dX11_offNow_0 rfl rfl ?_
  refine zv_iload_n C 1 dX11_offNow_1 rfl rfl ?_
  refine zv_cvvD (st := []) C (c_X11_due hfl E σ σc U i hB hU hi) mX11_due kX11_275 (by decide : kd 327 = 10) rfl rfl rfl ⟨rfl, rfl⟩ (show zfit (zrm 3 76) 2 (zrm 5 127) = true from rfl) (Nat.le_of_ble_eq_true rfl) dX11_offNow_2 ⟨Nat.zero_le _, Nat.zero_le _⟩ ?_
  refine zv_aload_n C 0 dX11_offNow_5 rfl rfl ?_
  refine zG10_22 C (by decide : kd 327 = _) kX11_249 dX11_offNow_6 ?_
  refine zv_eql (y := (zL ((qDue U i).1))) ((mW_r _ _ _).1) ?_
  refine zv_lstore_n (lv' := [(2, .long (zL ((qDue U i).1))), (0, .ref (ob E 327)), (1, .int (zI (i : Int)))]) C dX11_offNow_9 rfl (by decide) rfl ?_
  refine zv_aload_n C 1 dX11_offNow_10 rfl rfl ?_
  refine zG10_23 C (by decide : kd 327 = _) kX11_253 dX11_offNow_11 ?_
  refine zv_eql (y := (zL ((qDue U i).2))) ((mW_r _ _ _).2) ?_
  refine zv_lstore (lv' := [(4, .long (zL ((qDue U i).2))), (2, .long (zL ((qDue U i).1))), (0, .ref (ob E 327)), (1, .int (zI (i : Int)))]) C dX11_offNow_14  (by decide) rfl ?_
  refine zv_aload_n C 2 dX11_offNow_16 rfl rfl ?_
  refine zv_iload_n C 3 dX11_offNow_17 rfl rfl ?_
  refine zv_cvvD (st := []) C (c_X11_ratio hfl E (mW σ (qDue U i).1 (qDue U i).2) σc U S i hB hU hW hS hi) mX11_ratio kX11_278 (by decide : kd 327 = 10) rfl rfl rfl ⟨rfl, rfl⟩ (show zfit (zrm 4 102) 6 (zrm 5 127) = true from rfl) (Nat.le_of_ble_eq_true rfl) dX11_offNow_18 ⟨Nat.zero_le _, Nat.zero_le _⟩ ?_
  refine zv_eqS (τ := (mW σ (qPtr U S i).1 (qPtr U S i).2)) (mW_o _ _ _ _ _) ?_
  refine zv_aload_n C 2 dX11_offNow_21 rfl rfl ?_
  refine zG10_22 C (by decide : kd 327 = _) kX11_249 dX11_offNow_22 ?_
  refine zv_eql (y := (zL ((qPtr U S i).1))) ((mW_r _ _ _).1) ?_
  refine zv_lload C 0 dX11_offNow_25 rfl ?_
  refine zv_lmulZ C dX11_offNow_27 ?_
  refine zv_lload_n C 1 dX11_offNow_28 rfl rfl ?_
  refine zv_aload_n C 2 dX11_offNow_29 rfl rfl ?_
  refine zG10_23 C (by decide : kd 327 = _) kX11_253 dX11_offNow_30 ?_
  refine zv_eql (y := (zL ((qPtr U S i).2))) ((mW_r _ _ _).2) ?_
  refine zv_lmulZ C dX11_offNow_33 ?_
  refine zv_lsubZ C dX11_offNow_34 ?_
  refine zv_cslD (st := []) C (c_J9_abs_067f4 hfl E (mW σ (qPtr U S i).1 (qPtr U S i).2) ((((qPtr U S i).1) * ((qDue U i).2)) - (((qDue U i).1) * ((qPtr U S i).2))) (by omega)) mJ9_abs_067f4 kX11_239 rfl ⟨rfl, rfl⟩ (show zfit (zrm 0 0) 2 (zrm 5 127) = true from rfl) (Nat.le_of_ble_eq_true rfl) dX11_offNow_35 ⟨Nat.zero_le _, Nat.zero_le _⟩ ?_
  refine zv_eql (y := (zL ((rO U S i).1 : Int))) (rfl) ?_
  exact zv_lret C hr dX11_offNow_38 ⟨rfl, rfl⟩
