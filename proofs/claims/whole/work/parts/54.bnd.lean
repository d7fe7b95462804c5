/-! how great the ratios are: a fraction in lowest terms is as great as the fraction -/
theorem rT_k {z w : Int} {K : Nat} (hw : 1 ≤ w) (h : z.natAbs ≤ K * w.natAbs) : (rT z w).natAbs ≤ K * (rB z w).natAbs := by
  have hg1 : 0 < Nat.gcd z.natAbs w.natAbs := Nat.gcd_pos_of_pos_right _ (by omega)
  have hg : rG z w = Nat.gcd z.natAbs w.natAbs := by unfold rG; omega
  obtain ⟨a, ha⟩ := Nat.gcd_dvd_left z.natAbs w.natAbs
  obtain ⟨b, hb⟩ := Nat.gcd_dvd_right z.natAbs w.natAbs
  generalize Nat.gcd z.natAbs w.natAbs = g at hg1 hg ha hb
  have e1 : (rT z w).natAbs = a := by
    unfold rT
    rw [Int.natAbs_tdiv, hg, Int.natAbs_natCast, ha]
    exact Nat.mul_div_cancel_left _ hg1
  have hb0 : 0 < b := by
    rcases Nat.eq_zero_or_pos b with q | q
    · rw [q, Nat.mul_zero] at hb; omega
    · exact q
  have e2 : w / (rG z w : Int) = (b : Int) := by
    have hw2 : w = (g : Int) * (b : Int) := by rw [← Int.natCast_mul, ← hb]; omega
    rw [hg]
    have e5 : (g : Int) * (b : Int) / (g : Int) = (b : Int) := Int.mul_ediv_cancel_left _ (by omega)
    rw [← hw2] at e5
    exact e5
  have e3 : (rB z w).natAbs = b := by unfold rB; rw [e2]; omega
  rw [e1, e3]
  rw [ha, hb] at h
  have h2 : g * a ≤ g * (K * b) := by
    rw [Nat.mul_left_comm]; exact h
  exact Nat.le_of_mul_le_mul_left h2 hg1
theorem rAd_k {p : Int × Int} {z w : Int} {K L : Nat} (h2 : 1 ≤ p.2) (h4 : 1 ≤ w) (h1 : p.1.natAbs ≤ K * p.2.natAbs) (h3 : z.natAbs ≤ L * w.natAbs) : (rAd p z w).1.natAbs ≤ (K + L) * (rAd p z w).2.natAbs := by
  have e4 : (1 : Int) * 1 ≤ p.2 * w := Int.mul_le_mul h2 h4 (by omega) (by omega)
  refine rT_k (by omega) ?_
  refine Nat.le_trans (Int.natAbs_add_le _ _) ?_
  rw [Int.natAbs_mul, Int.natAbs_mul, Int.natAbs_mul, Nat.add_mul]
  have a1 : p.1.natAbs * w.natAbs ≤ K * p.2.natAbs * w.natAbs := Nat.mul_le_mul_right _ h1
  have a2 : z.natAbs * p.2.natAbs ≤ L * w.natAbs * p.2.natAbs := Nat.mul_le_mul_right _ h3
  rw [Nat.mul_assoc] at a1 a2
  rw [Nat.mul_comm w.natAbs] at a2
  omega
