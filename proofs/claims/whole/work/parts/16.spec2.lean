/-! a stock's numbers (n of them, f i), a State's twenty cells, the calendar -/
def sHas (f : Nat → Nat) (t : Int) : Nat → Bool
  | 0 => false
  | j + 1 => sHas f t j || decide ((f j : Int) = t)
/-- where a number goes in -/
def sIn (f : Nat → Nat) (t : Nat) : Nat → Nat
  | 0 => 0
  | n + 1 => if t < f n then sIn f t n else n + 1
theorem sIn_le (f : Nat → Nat) (t n : Nat) : sIn f t n ≤ n := by
  induction n with
  | zero => exact Nat.le_refl _
  | succ n ih => simp only [sIn]; split <;> omega
def zStk (σ : zS) (k n : Nat) (f : Nat → Nat) : Prop := gI σ k 1 = zI n ∧ n ≤ 16 ∧ (∀ i, i < n → gI σ (k + 1) i = zI (f i)) ∧ ∀ i, i < n → f i ≤ 100
/-- the ints that a State's cells hold -/
def stF (r j : Nat) : Bool := if r = 0 then (j == 1 || j == 2 || j == 3) else if r = 1 then decide (j < 16) else if r = 2 then decide (j < 8) else if r = 3 then false else if r % 2 = 0 then j == 1 else decide (j < 12)
/-- the first m cells of the State at b, copied over those of the State at a -/
def cpS (σ : zS) (a b m : Nat) : zS := (fun x j => if a ≤ x ∧ x < a + m ∧ stF (x - a) j = true then σ.1 (b + (x - a)) j else σ.1 x j, σ.2)
theorem gI_cpS (σ : zS) (a b m x j : Nat) : gI (cpS σ a b m) x j = if a ≤ x ∧ x < a + m ∧ stF (x - a) j = true then gI σ (b + (x - a)) j else gI σ x j := rfl
theorem gJ_cpS (σ : zS) (a b m x j : Nat) : gJ (cpS σ a b m) x j = gJ σ x j := rfl
theorem gD_cpS (σ : zS) (a b m x j : Nat) : gD (cpS σ a b m) x j = gD σ x j := rfl
/-- the first n places of an array, filled -/
def flI (σ : zS) (a n : Nat) (v : Int32) : zS := (fun x j => if x = a ∧ j < n then v else σ.1 x j, σ.2)
theorem gI_flI (σ : zS) (a n : Nat) (v : Int32) (x j : Nat) : gI (flI σ a n v) x j = if x = a ∧ j < n then v else gI σ x j := rfl
theorem gJ_flI (σ : zS) (a n : Nat) (v : Int32) (x j : Nat) : gJ (flI σ a n v) x j = gJ σ x j := rfl
theorem gD_flI (σ : zS) (a n : Nat) (v : Int32) (x j : Nat) : gD (flI σ a n v) x j = gD σ x j := rfl
theorem flI_0 (σ : zS) (a : Nat) (v : Int32) : flI σ a 0 v = σ := zS_ext (fun x j => by simp [gI_flI]) (fun _ _ => rfl) (fun _ _ => rfl)
theorem flI_s (σ : zS) (a n : Nat) (v : Int32) : sI (flI σ a n v) a n v = flI σ a (n + 1) v := zS_ext (fun x j => by grind [gI_flI, gI_sI]) (fun _ _ => rfl) (fun _ _ => rfl)
theorem kd6 : ∀ k, k < 341 → kd k = 6 → k ∈ [9, 34, 56, 76, 96, 116, 136, 156, 176, 196, 216, 236, 256, 276, 296] := by decide +kernel
theorem kd6_apart {a b : Nat} (ha : kd a = 6) (hb : kd b = 6) (h : a ≠ b) : a + 20 ≤ b ∨ b + 20 ≤ a := by
  have h1 := kd6 a (kd_lt ha (by decide)) ha
  have h2 := kd6 b (kd_lt hb (by decide)) hb
  have h3 : ∀ x ∈ [9, 34, 56, 76, 96, 116, 136, 156, 176, 196, 216, 236, 256, 276, 296], ∀ y ∈ [9, 34, 56, 76, 96, 116, 136, 156, 176, 196, 216, 236, 256, 276, 296], x ≠ y → x + 20 ≤ y ∨ y + 20 ≤ x := by decide
  exact h3 a h1 b h2 h
theorem kd8_apart : ∀ a, a < 341 → kd a = 8 → ∀ b, b < 341 → kd b = 8 → a ≠ b → a + 1 ≠ b := by
  intro a ha h b hb h2 _ e
  have : ∀ a, a < 341 → kd a = 8 → kd (a + 1) ≠ 8 := by decide +kernel
  exact this a ha h (by rw [e]; exact h2)
/-- the years with 366 days up to one, of a year that isn't below 0 -/
def yLp (y : Int) : Int := y / 4 - y / 100 + y / 400
/-- the day with which a year ends -/
def yEnd (s y : Int) : Int := 365 * (y - s + 1) + yLp y - yLp (s - 1)
theorem sHas_iff (f : Nat → Nat) (t : Int) (n : Nat) : sHas f t n = true ↔ ∃ i, i < n ∧ (f i : Int) = t := by
  induction n with
  | zero => simp [sHas]
  | succ n ih =>
    simp only [sHas, Bool.or_eq_true, decide_eq_true_eq, ih]
    constructor
    · rintro (⟨i, h1, h2⟩ | h)
      · exact ⟨i, by omega, h2⟩
      · exact ⟨n, by omega, h⟩
    · rintro ⟨i, h1, h2⟩
      rcases Nat.lt_or_ge i n with g | g
      · exact Or.inl ⟨i, g, h2⟩
      · have : i = n := by omega
        subst this
        exact Or.inr h2
/-- the row behind an insertion at place p, n numbers before -/
def inI (σ : zS) (a p n : Nat) (v : Int32) : zS := (fun x j => if x = a ∧ j = p then v else if x = a ∧ p < j ∧ j ≤ n then σ.1 a (j - 1) else σ.1 x j, σ.2)
theorem gI_inI (σ : zS) (a p n : Nat) (v : Int32) (x j : Nat) : gI (inI σ a p n v) x j = if x = a ∧ j = p then v else if x = a ∧ p < j ∧ j ≤ n then gI σ a (j - 1) else gI σ x j := rfl
/-- .. before the number itself is written -/
def shI (σ : zS) (a p n : Nat) : zS := (fun x j => if x = a ∧ p < j ∧ j ≤ n then σ.1 a (j - 1) else σ.1 x j, σ.2)
theorem gI_shI (σ : zS) (a p n : Nat) (x j : Nat) : gI (shI σ a p n) x j = if x = a ∧ p < j ∧ j ≤ n then gI σ a (j - 1) else gI σ x j := rfl
theorem shI_0 (σ : zS) (a n : Nat) : shI σ a n n = σ := zS_ext (fun x j => by rw [gI_shI, if_neg (by omega)]) (fun _ _ => rfl) (fun _ _ => rfl)
theorem shI_s (σ : zS) (a p n : Nat) (hp : 0 < p) (hn : p ≤ n) : sI (shI σ a p n) a p (gI (shI σ a p n) a (p - 1)) = shI σ a (p - 1) n := zS_ext (fun x j => by grind [gI_sI, gI_shI]) (fun _ _ => rfl) (fun _ _ => rfl)
theorem shI_in (σ : zS) (a p n : Nat) (v : Int32) : sI (shI σ a p n) a p v = inI σ a p n v := zS_ext (fun x j => by grind [gI_sI, gI_shI, gI_inI]) (fun _ _ => rfl) (fun _ _ => rfl)
/-- how many of the first j aren't t; the row with those alone -/
def sKp (f : Nat → Nat) (t : Int) : Nat → Nat
  | 0 => 0
  | j + 1 => if (f j : Int) = t then sKp f t j else sKp f t j + 1
theorem sKp_le (f : Nat → Nat) (t : Int) (j : Nat) : sKp f t j ≤ j := by
  induction j with
  | zero => exact Nat.le_refl _
  | succ j ih => simp only [sKp]; split <;> omega
def dpI (σ : zS) (a : Nat) (f : Nat → Nat) (t : Int) : Nat → zS
  | 0 => σ
  | j + 1 => if (f j : Int) = t then dpI σ a f t j else sI (dpI σ a f t j) a (sKp f t j) (zI (f j))
theorem dpI_hi (σ : zS) (a : Nat) (f : Nat → Nat) (t : Int) (j : Nat) : ∀ i, j ≤ i → gI (dpI σ a f t j) a i = gI σ a i := by
  induction j with
  | zero => intro i _; rfl
  | succ j ih =>
    intro i hi
    have := sKp_le f t j
    simp only [dpI]
    split
    · exact ih i (by omega)
    · rw [gI_sI, if_neg (by omega)]; exact ih i (by omega)
theorem dpI_ne (σ : zS) (a : Nat) (f : Nat → Nat) (t : Int) (j : Nat) : ∀ x i, x ≠ a → gI (dpI σ a f t j) x i = gI σ x i := by
  induction j with
  | zero => intro x i _; rfl
  | succ j ih =>
    intro x i hi
    simp only [dpI]
    split
    · exact ih x i hi
    · rw [gI_sI, if_neg (by omega)]; exact ih x i hi
