theorem stF_e (j i : Nat) : stF (4 + 2 * j) i = (i == 1) := by
  unfold stF
  rw [if_neg (by omega), if_neg (by omega), if_neg (by omega), if_neg (by omega), if_pos (by omega)]
theorem stF_o (j i : Nat) : stF (5 + 2 * j) i = decide (i < 12) := by
  unfold stF
  rw [if_neg (by omega), if_neg (by omega), if_neg (by omega), if_neg (by omega), if_neg (by omega)]
/-- a Train's copy -/
def cpT (σ : zS) (a b : Nat) : zS := cpI (sI σ a 1 (gI σ b 1)) (b + 1) (a + 1) 12
theorem cpS_0 (σ : zS) (a b : Nat) (h : a + 20 ≤ b ∨ b + 20 ≤ a) : cpI (sI (sI (sI (cpI σ (b + 1) (a + 1) 16) a 1 (gI σ b 1)) a 2 (gI σ b 2)) a 3 (gI σ b 3)) (b + 2) (a + 2) 8 = cpS σ a b (4 + 2 * 0) := by
  refine zS_ext (fun x i => ?_) (fun _ _ => rfl) (fun _ _ => rfl)
  by_cases h0 : x = a
  · subst h0
    have e : stF (x - x) i = (i == 1 || i == 2 || i == 3) := by simp [stF]
    simp only [gI_cpI, gI_sI, gI_cpS, e, Nat.sub_self, Nat.add_zero]
    grind
  by_cases h1 : x = a + 1
  · subst h1
    have e : stF (a + 1 - a) i = decide (i < 16) := by rw [show a + 1 - a = 1 by omega]; simp [stF]
    simp only [gI_cpI, gI_sI, gI_cpS, e, show a + 1 - a = 1 by omega]
    grind
  by_cases h2 : x = a + 2
  · subst h2
    have e : stF (a + 2 - a) i = decide (i < 8) := by rw [show a + 2 - a = 2 by omega]; simp [stF]
    simp only [gI_cpI, gI_sI, gI_cpS, e, show a + 2 - a = 2 by omega]
    grind
  by_cases h3 : x = a + 3
  · subst h3
    have e : stF (a + 3 - a) i = false := by rw [show a + 3 - a = 3 by omega]; simp [stF]
    simp only [gI_cpI, gI_sI, gI_cpS, e, show a + 3 - a = 3 by omega]
    grind
  · simp only [gI_cpI, gI_sI, gI_cpS]
    rw [if_neg (by omega), if_neg (by omega), if_neg (by omega), if_neg (by omega), if_neg (by omega), if_neg (by omega)]
theorem cpS_s (σ : zS) (a b j : Nat) (hj : j < 8) (h : a + 20 ≤ b ∨ b + 20 ≤ a) : cpT (cpS σ a b (4 + 2 * j)) (a + 4 + 2 * j) (b + 4 + 2 * j) = cpS σ a b (4 + 2 * (j + 1)) := by
  refine zS_ext (fun x i => ?_) (fun _ _ => rfl) (fun _ _ => rfl)
  unfold cpT
  by_cases h0 : x = a + 4 + 2 * j
  · subst h0
    have e : stF (a + 4 + 2 * j - a) i = (i == 1) := by rw [show a + 4 + 2 * j - a = 4 + 2 * j by omega]; exact stF_e j i
    simp only [gI_cpI, gI_sI, gI_cpS, e]
    rw [if_neg (by omega)]
    by_cases hi : i = 1
    · subst hi
      rw [if_pos (by simp), if_neg (by omega), if_pos ⟨by omega, by omega, by simp⟩]
      congr 1
      omega
    · rw [if_neg (by omega), if_neg (by omega), if_neg (by simp [hi])]
  by_cases h1 : x = a + 4 + 2 * j + 1
  · subst h1
    have e : stF (a + 4 + 2 * j + 1 - a) i = decide (i < 12) := by rw [show a + 4 + 2 * j + 1 - a = 5 + 2 * j by omega]; exact stF_o j i
    simp only [gI_cpI, gI_sI, gI_cpS, e]
    by_cases hi : i < 12
    · rw [if_pos (by simp [hi]), if_neg (by omega), if_neg (by omega), if_pos ⟨by omega, by omega, by simp [hi]⟩]
      congr 1
      omega
    · rw [if_neg (by omega), if_neg (by omega), if_neg (by omega), if_neg (by simp [hi])]
  · simp only [gI_cpI, gI_sI, gI_cpS]
    rw [if_neg (by omega), if_neg (by omega)]
    by_cases hx : a ≤ x ∧ x < a + (4 + 2 * j) ∧ stF (x - a) i = true
    · rw [if_pos hx, if_pos ⟨hx.1, by omega, hx.2.2⟩]
    · rw [if_neg hx, if_neg (fun q => hx ⟨q.1, by omega, q.2.2⟩)]
/-- the trains of the State at a, emptied: the first n -/
def emT (σ : zS) (a n : Nat) : zS := (fun x i => if a + 4 ≤ x ∧ x < a + 4 + 2 * n ∧ (x - a) % 2 = 0 ∧ i = 1 then zI 0 else σ.1 x i, σ.2)
theorem gI_emT (σ : zS) (a n x i : Nat) : gI (emT σ a n) x i = if a + 4 ≤ x ∧ x < a + 4 + 2 * n ∧ (x - a) % 2 = 0 ∧ i = 1 then zI 0 else gI σ x i := rfl
theorem emT_0 (σ : zS) (a : Nat) : emT σ a 0 = σ := zS_ext (fun x i => by rw [gI_emT, if_neg (by omega)]) (fun _ _ => rfl) (fun _ _ => rfl)
theorem emT_s (σ : zS) (a n : Nat) : sI (emT σ a n) (a + 4 + 2 * n) 1 (zI 0) = emT σ a (n + 1) := zS_ext (fun x i => by
  rw [gI_sI, gI_emT, gI_emT]
  by_cases h : x = a + 4 + 2 * n ∧ i = 1
  · rw [if_pos h, if_pos (by omega)]
  · rw [if_neg h]
    by_cases h2 : a + 4 ≤ x ∧ x < a + 4 + 2 * n ∧ (x - a) % 2 = 0 ∧ i = 1
    · rw [if_pos h2, if_pos (by omega)]
    · rw [if_neg h2, if_neg (by omega)]) (fun _ _ => rfl) (fun _ _ => rfl)
