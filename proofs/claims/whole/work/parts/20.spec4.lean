/-! a Setup: its start, its bodies (names, periods, retro, carriers) -/
def zSu (σ : zS) (k : Nat) (s : Int) (n : Nat) (nm : Nat → Int64) (pe re : Nat → Nat) (ca : Nat → Int) : Prop :=
  gI σ k 0 = zI s ∧ gI σ k 1 = zI n ∧ n ≤ 8 ∧ (1600 ≤ s ∧ s ≤ 2400) ∧ ∀ i, i < n → gJ σ (k + 1) i = nm i ∧ gI σ (k + 2) i = zI (pe i) ∧ gI σ (k + 3) i = zI (re i) ∧ gI σ (k + 4) i = zI (ca i) ∧ (100 ≤ pe i ∧ pe i ≤ 9999999) ∧ re i ≤ 1 ∧ (-1 ≤ ca i ∧ ca i < n)
/-- the first of the first n places that holds x, or -1 -/
def pO (nm : Nat → Int64) (x : Int64) : Nat → Int
  | 0 => -1
  | j + 1 => if 0 ≤ pO nm x j then pO nm x j else if nm j = x then (j : Int) else -1
theorem pO_of {nm : Nat → Int64} {x : Int64} {j : Nat} (h : pO nm x j = -1) (hx : nm j = x) : ∀ n, j < n → pO nm x n = (j : Int) := by
  intro n
  induction n with
  | zero => intro q; omega
  | succ n ih =>
    intro q
    rcases Nat.lt_or_ge j n with g | g
    · have := ih g
      simp only [pO, this]
      rw [if_pos (by omega)]
    · have : j = n := by omega
      subst this
      simp only [pO, h]
      rw [if_neg (by omega), if_pos hx]
theorem pO_in (nm : Nat → Int64) (x : Int64) (n : Nat) : -1 ≤ pO nm x n ∧ pO nm x n < n ∧ (pO nm x n < 0 → pO nm x n = -1) := by
  induction n with
  | zero => exact ⟨Int.le_refl _, by simp [pO], fun _ => rfl⟩
  | succ n ih =>
    simp only [pO]
    split
    · omega
    · split <;> omega
theorem yLp_mono {a b : Int} (h : a ≤ b) : yLp a ≤ yLp b := by unfold yLp; omega
theorem yLp_in {y : Int} (h : 0 ≤ y ∧ y ≤ 100000) : 0 ≤ yLp y ∧ yLp y ≤ 25250 := by unfold yLp; omega
theorem yEnd_in {s y : Int} (hs : 1600 ≤ s ∧ s ≤ 2400) (hy : s - 1 ≤ y ∧ y ≤ 4000) : 0 ≤ yEnd s y ∧ yEnd s y ≤ 2000000 := by
  have h1 := yLp_mono (show s - 1 ≤ y from hy.1)
  have h2 := yLp_in (y := s - 1) (by omega)
  have h3 := yLp_in (y := y) (by omega)
  unfold yEnd
  omega
theorem yEnd_s (s y : Int) : 365 ≤ yEnd s (y + 1) - yEnd s y ∧ yEnd s (y + 1) - yEnd s y ≤ 366 := by
  unfold yEnd yLp
  omega
theorem yEnd_cap {s y : Int} (hs : 1600 ≤ s ∧ s ≤ 2400) (hy : s ≤ y ∧ y ≤ s + 999) : 0 ≤ yEnd s y ∧ yEnd s y ≤ 366000 := by
  have h1 := yLp_mono (show s - 1 ≤ y by omega)
  unfold yEnd
  unfold yLp at *
  omega
/-- the year to which a day belongs: the first one from start + day / 366 that ends behind it -/
def yIs (s d Y : Int) : Prop := s + d / 366 ≤ Y ∧ d < yEnd s Y ∧ ∀ y, s + d / 366 ≤ y → y < Y → yEnd s y ≤ d
theorem yIs_one {s d Y Z : Int} (h : yIs s d Y) (g : yIs s d Z) : Y = Z := by
  rcases Int.lt_trichotomy Y Z with q | q | q
  · have := g.2.2 Y h.1 q; have := h.2.1; omega
  · exact q
  · have := h.2.2 Z g.1 q; have := g.2.1; omega
theorem yIs_end {s d : Int} (hs : 1600 ≤ s ∧ s ≤ 2400) (hd : 0 ≤ d ∧ d ≤ 400000) {j : Int} (hj : 3 ≤ j) : d < yEnd s (s + d / 366 + j) := by
  have h1 := yLp_mono (show s - 1 ≤ s + d / 366 + j by omega)
  unfold yEnd
  omega
