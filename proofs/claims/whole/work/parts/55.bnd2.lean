theorem rArc_k {t b F : Int} {K : Nat} (hb : 1 ≤ b) (hF : 0 ≤ F) (h : t.natAbs ≤ K * b.natAbs) : -((K : Int) * F) ≤ rArc t b F ∧ rArc t b F ≤ (K : Int) * F := by
  have h1 : 0 ≤ (t.natAbs : Int) * F := Int.mul_nonneg (by omega) hF
  have h2 : 0 ≤ (t.natAbs : Int) * F / b := Int.ediv_nonneg h1 (by omega)
  have h3 : (t.natAbs : Int) ≤ (K : Int) * b := by
    have : (t.natAbs : Int) ≤ ((K * b.natAbs : Nat) : Int) := by omega
    rw [Int.natCast_mul] at this
    rw [show ((b.natAbs : Nat) : Int) = b by omega] at this
    exact this
  have h4 : (t.natAbs : Int) * F ≤ (K : Int) * F * b := by
    have := Int.mul_le_mul_of_nonneg_right h3 hF
    rw [Int.mul_assoc, Int.mul_comm b F, ← Int.mul_assoc] at this
    exact this
  have h5 : (t.natAbs : Int) * F / b ≤ (K : Int) * F := Int.ediv_le_of_le_mul (by omega) h4
  unfold rArc
  split <;> omega
theorem qDrift_k {σ σ' : zS} {k k' : Nat} {U : zSU} {S : zST} (h : zSUp σ k U) (hS : zSTp σ' k' S) {i : Nat} (hi : i < U.nb) : (qDrift U S i).1.natAbs ≤ 20001 * (qDrift U S i).2.natAbs := by
  have hnb := h.2.2.1
  have own : ∀ j, j < 8 → (tZ (S.tn j) (S.tr j)).natAbs ≤ 10000 * (tBot (S.tr j) (S.tn j)).natAbs ∧ 1 ≤ tBot (S.tr j) (S.tn j) := by
    intro j hj
    have hw := (hS.2.2.2.2.2.2 j hj).2
    have h1 := tZ_b hw
    have h2 := tBot_10000 _ _ hw _ (Nat.le_refl _)
    exact ⟨by omega, h2.1⟩
  have ho := own i (by omega)
  have hq : (qOwn S i).1.natAbs ≤ 10000 * (qOwn S i).2.natAbs := rT_k ho.2 ho.1
  have hp : (qPtr U S i).1.natAbs ≤ 20000 * (qPtr U S i).2.natAbs := by
    unfold qPtr
    split
    · omega
    · have hc := (h.2.2.2.2 i hi).2.2.2.2.2.2
      have hj := own (U.ca i).toNat (by omega)
      exact rAd_k (K := 10000) (L := 10000) (qOwn_b hS (by omega)).2.1 hj.2 hq hj.1
  have hpe := (h.2.2.2.2 i hi).2.2.2.2.1
  have hrt := rtT_b U i
  exact rAd_k (K := 20000) (L := 1) (qPtr_b h hS hi).2.1 (by omega) hp (by omega)
theorem qErr_b {σ σ' : zS} {k k' : Nat} {U : zSU} {S : zST} (h : zSUp σ k U) (hS : zSTp σ' k' S) {i : Nat} (hi : i < U.nb) {y : Int} (hy : U.s0 - 1 ≤ y ∧ y ≤ U.s0 + 999) : -51842592000000000 ≤ qErr U S i y ∧ qErr U S i y ≤ 51842592000000000 := by
  have hs := h.2.2.2.1
  have he := yEnd_in hs (y := y) (by omega)
  have h1 := rArc_k (F := yEnd U.s0 y * 1296000) (qDrift_b h hS hi).2.1 (by omega) (qDrift_k h hS hi)
  unfold qErr qArc
  omega
def qSum (U : zSU) (S : zST) (y : Int) : Nat → Int
  | 0 => 0
  | i + 1 => qSum U S y i + ((qErr U S i y).natAbs : Int)
