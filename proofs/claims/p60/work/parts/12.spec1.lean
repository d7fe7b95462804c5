/-! a train's numbers: c i w is part i's cell w (0 its kind, 1 its driver, 2 its driven gear) -/
def tGe (c : Nat → Nat → Nat) : Nat → Nat
  | 0 => 0
  | j + 1 => tGe c j + (if c j 0 = 2 then 0 else 1)
def tTe (c : Nat → Nat → Nat) : Nat → Nat
  | 0 => 0
  | j + 1 => tTe c j + (c j 1 + c j 2)
def tWh (c : Nat → Nat → Nat) (t : Int) : Nat → Nat
  | 0 => 0
  | j + 1 => tWh c t j + (if (c j 1 : Int) = t then 1 else 0) + (if c j 0 ≠ 2 ∧ (c j 2 : Int) = t then 1 else 0)
def tTop (c : Nat → Nat → Nat) : Nat → Int
  | 0 => 1
  | j + 1 => tTop c j * (if c j 0 = 1 then 1 else -1) * (if c j 0 = 2 then 1 else (c j 1 : Int))
def tBot (c : Nat → Nat → Nat) : Nat → Int
  | 0 => 1
  | j + 1 => tBot c j * (if c j 0 = 2 then 1 else (c j 2 : Int))
def tPl (c : Nat → Nat → Nat) (a : Int) : Nat → Int
  | 0 => 0
  | j + 1 => if c j 0 = 2 then tPl c a j + 2 * a * tBot c j else tPl c a j * c j 1 + a * (tBot c j * c j 2)
theorem tGe_le (c : Nat → Nat → Nat) (j : Nat) : tGe c j ≤ j := by
  induction j with
  | zero => exact Nat.le_refl _
  | succ j ih => unfold tGe; split <;> omega
