/-! the best fraction, in the reference: two numerators are tried a denominator -/
def bf1 (z : Nat × Nat × Nat) (n d q : Nat) : Nat × Nat × Nat := if d * z.2.1 < z.2.2 * q then (n, q, d) else z
def bfT (p q : Nat) (z : Nat × Nat × Nat) : Nat → Nat × Nat × Nat
  | 0 => z
  | t + 1 => bf1 (bfT p q z t) (100 * q / p + t) (if t = 0 then 100 * q % p else p - 100 * q % p) q
def bfQ (p : Nat) : Nat → Nat × Nat × Nat
  | 0 => (0, 1, 100)
  | q + 1 => bfT p (q + 1) (bfQ p q) 2
theorem bfT_2 {p q B off up : Nat} : bfT p q (up, B, off) 2 = if nD p q * B < off * q then (nN p q, q, nD p q) else (up, B, off) := by
  have e : bfT p q (up, B, off) 2 = bf1 (bf1 (up, B, off) (100 * q / p + 0) (100 * q % p) q) (100 * q / p + 1) (p - 100 * q % p) q := rfl
  rw [e]
  unfold bf1 nD nN
  generalize 100 * q % p = r
  generalize p - r = s
  generalize 100 * q / p = f
  dsimp only
  by_cases h : r ≤ s
  · rw [if_pos h, if_pos h]
    have h1 : r * q ≤ s * q := Nat.mul_le_mul_right q h
    have h2 : r * B ≤ s * B := Nat.mul_le_mul_right B h
    by_cases g : r * B < off * q
    · rw [if_pos g]
      dsimp only
      rw [if_neg (show ¬ s * q < r * q by omega)]
      exact (if_pos g).symm
    · rw [if_neg g]
      dsimp only
      rw [if_neg (show ¬ s * B < off * q by omega)]
      exact (if_neg g).symm
  · rw [if_neg h, if_neg h]
    have h1 : s * B ≤ r * B := Nat.mul_le_mul_right B (by omega)
    by_cases g : r * B < off * q
    · rw [if_pos g, if_pos (show s * B < off * q by omega)]
      dsimp only
      by_cases w : q = 0
      · subst w; omega
      · rw [if_pos (Nat.mul_lt_mul_of_pos_right (show s < r by omega) (by omega))]
    · rw [if_neg g]
theorem bfQ_1 {p : Nat} (hp : 100 ≤ p) : bfQ p 1 = (nN p 1, 1, nD p 1) := by
  have e : bfQ p 1 = bfT p 1 (0, 1, 100) 2 := rfl
  rw [e, bfT_2]
  by_cases h : p = 100
  · subst h; rfl
  · have hr : 100 * 1 % p = 100 := Nat.mod_eq_of_lt (by omega)
    have hf : 100 * 1 / p = 0 := Nat.div_eq_of_lt (by omega)
    unfold nD nN
    rw [hr, hf]
    by_cases g : 100 ≤ p - 100
    · rw [if_pos g, if_pos g, if_neg (by omega)]
    · rw [if_neg g, if_neg g, if_pos (by omega)]
theorem bfQ_s {p : Nat} (hp : 100 ≤ p) : ∀ q, bfQ p (q + 1) = (nN p (nB p (q + 1)), nB p (q + 1), nD p (nB p (q + 1))) := by
  intro q
  induction q with
  | zero => rw [bfQ_1 hp, nB_1]
  | succ q ih =>
    have e : bfQ p (q + 1 + 1) = bfT p (q + 1 + 1) (bfQ p (q + 1)) 2 := rfl
    have n : nB p (q + 1 + 1) = if nD p (q + 1 + 1) * nB p (q + 1) < nD p (nB p (q + 1)) * (q + 1 + 1) then q + 1 + 1 else nB p (q + 1) := rfl
    rw [e, ih, bfT_2]
    by_cases g : nD p (q + 1 + 1) * nB p (q + 1) < nD p (nB p (q + 1)) * (q + 1 + 1)
    · rw [if_pos g, n, if_pos g]
    · rw [if_neg g, n, if_neg g]
theorem dBf_q {p L : Nat} {w : Int} (hp : 100 ≤ p) (hL : 1 ≤ L) : dBf p L w = if w = 0 then ((bfQ p L).1 : Int) else ((bfQ p L).2.1 : Int) := by
  obtain ⟨q, rfl⟩ : ∃ q, L = q + 1 := ⟨L - 1, by omega⟩
  rw [bfQ_s hp, dBf]
theorem bfT_b {p q X : Nat} {z : Nat × Nat × Nat} (hp : 0 < p ∧ p ≤ 9999999) (hq : 1 ≤ q ∧ q ≤ 10000) (hz : z.1 ≤ 10001 ∧ z.2.1 ≤ 10000 ∧ z.2.2 ≤ 9999999) (hX : 100 * q / p ≤ 10000) : ∀ t, t ≤ 2 → (bfT p q z t).1 ≤ 10001 ∧ (bfT p q z t).2.1 ≤ 10000 ∧ (bfT p q z t).2.2 ≤ 9999999 := by
  intro t
  have hr := Nat.mod_lt (100 * q) hp.1
  induction t with
  | zero => intro _; exact hz
  | succ t ih =>
    intro ht
    have h := ih (by omega)
    have hd9 : (if t = 0 then 100 * q % p else p - 100 * q % p) ≤ 9999999 := by split <;> omega
    rw [bfT]
    generalize (if t = 0 then 100 * q % p else p - 100 * q % p) = d at hd9
    unfold bf1
    by_cases g : d * (bfT p q z t).2.1 < (bfT p q z t).2.2 * q
    · rw [if_pos g]
      exact ⟨by show 100 * q / p + t ≤ 10001; omega, hq.2, hd9⟩
    · rw [if_neg g]
      exact h
