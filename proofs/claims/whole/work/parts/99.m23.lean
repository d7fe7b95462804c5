/-! both searches of pairs find the same -/
theorem fc_iff {a b c d s s0 k : Nat} : (fCmp a b c d < 0 ∨ (fCmp a b c d = 0 ∧ s + k < s0 + k)) ↔ (a * d < c * b ∨ (a * d = c * b ∧ s < s0)) := by
  unfold fCmp
  by_cases h : a * d < c * b
  · rw [if_pos h]; omega
  · rw [if_neg h]
    by_cases g : a * d = c * b
    · rw [if_pos g]; omega
    · rw [if_neg g]; omega
def gRp : gB → hB → Prop
  | none, none => True
  | some (ov, un, sm, a, b, _, _), some (f0, u0, a0, c0, d0, e0) => ov = f0 ∧ un = u0 ∧ a = a0 ∧ b = c0 ∧ d0 = 0 ∧ e0 = 0 ∧ sm = a0 + c0 + 2
  | _, _ => False
def gRt : gB → hB → Prop
  | none, none => True
  | some (ov, un, sm, a, b, a2, b2), some (f0, u0, a0, c0, d0, e0) => ov = f0 ∧ un = u0 ∧ a = a0 ∧ b = c0 ∧ a2 = d0 ∧ b2 = e0 ∧ sm = a0 + c0 + d0 + e0
  | _, _ => False
theorem gOv_p (t : Int) (b1 a b : Nat) : gOv t.natAbs b1 a b 1 1 = hOff t b1 a b := by
  unfold gOv hOff
  rw [Nat.mul_one, Nat.mul_one, Nat.mul_comm b]
theorem gOv_t (t : Int) (b1 a b a2 b2 : Nat) : gOv t.natAbs b1 a b a2 b2 = hOff t b1 (a * a2) (b * b2) := by
  unfold gOv hOff
  rw [Nat.mul_comm (b * b2)]
theorem gRp_new {g : gB} {h : hB} (r : gRp g h) (t : Int) (b1 a b : Nat) : gRp (gNew t.natAbs b1 g a b 1 1) (hNew h (hOff t b1 a b) b a b 0 0) := by
  have e : gBet g (gOv t.natAbs b1 a b 1 1) (b * 1) (a + b + 1 + 1) = hBet h (hOff t b1 a b) b (a + b + 0 + 0) := by
    cases g with
    | none =>
      cases h with
      | none => rfl
      | some q => exact absurd r id
    | some q =>
      obtain ⟨ov, un, sm, x, y, x2, y2⟩ := q
      cases h with
      | none => exact absurd r id
      | some z =>
        obtain ⟨f0, u0, a0, c0, d0, e0⟩ := z
        obtain ⟨r1, r2, r3, r4, r5, r6, r7⟩ := r
        subst r1 r2 r3 r4 r5 r6 r7
        rw [gOv_p, Nat.mul_one]
        exact decide_eq_decide.mpr (fc_iff (s := a + b + 0 + 0) (s0 := x + y + 0 + 0) (k := 2))
  unfold gNew hNew
  rw [e]
  by_cases q : hBet h (hOff t b1 a b) b (a + b + 0 + 0) = true
  · rw [if_pos q, if_pos q]
    exact ⟨gOv_p _ _ _ _, Nat.mul_one _, rfl, rfl, rfl, rfl, rfl⟩
  · rw [if_neg q, if_neg q]
    exact r
theorem gRt_new {g : gB} {h : hB} (r : gRt g h) (t : Int) (b1 a b a2 b2 : Nat) : gRt (gNew t.natAbs b1 g a b a2 b2) (hNew h (hOff t b1 (a * a2) (b * b2)) (b * b2) a b a2 b2) := by
  have e : gBet g (gOv t.natAbs b1 a b a2 b2) (b * b2) (a + b + a2 + b2) = hBet h (hOff t b1 (a * a2) (b * b2)) (b * b2) (a + b + a2 + b2) := by
    cases g with
    | none =>
      cases h with
      | none => rfl
      | some q => exact absurd r id
    | some q =>
      obtain ⟨ov, un, sm, x, y, x2, y2⟩ := q
      cases h with
      | none => exact absurd r id
      | some z =>
        obtain ⟨f0, u0, a0, c0, d0, e0⟩ := z
        obtain ⟨r1, r2, r3, r4, r5, r6, r7⟩ := r
        subst r1 r2 r3 r4 r5 r6 r7
        rw [gOv_t]
        exact decide_eq_decide.mpr (fc_iff (s := a + b + a2 + b2) (s0 := x + y + x2 + y2) (k := 0))
  unfold gNew hNew
  rw [e]
  by_cases q : hBet h (hOff t b1 (a * a2) (b * b2)) (b * b2) (a + b + a2 + b2) = true
  · rw [if_pos q, if_pos q]
    exact ⟨gOv_t _ _ _ _ _ _, rfl, rfl, rfl, rfl, rfl, rfl⟩
  · rw [if_neg q, if_neg q]
    exact r
/-- the reference's rows of pairs -/
def hRow (t : Int) (b1 : Nat) (f : Nat → Nat) (i : Nat) : Nat → hB → hB
  | 0, h => h
  | j + 1, h => if i = j then hRow t b1 f i j h else hNew (hRow t b1 f i j h) (hOff t b1 (f i) (f j)) (f j) (f i) (f j) 0 0
def hPair (t : Int) (b1 : Nat) (f : Nat → Nat) (n : Nat) : Nat → hB
  | 0 => none
  | i + 1 => hRow t b1 f i n (hPair t b1 f n i)
theorem gRp_row {g : gB} {h : hB} (r : gRp g h) (t : Int) (b1 : Nat) (f : Nat → Nat) (i : Nat) : ∀ j, gRp (gRow t.natAbs b1 (gQp f i) j g) (hRow t b1 f i j h) := by
  intro j
  induction j with
  | zero => exact r
  | succ j ih =>
    by_cases q : i = j
    · rw [gRow, gQp_e q, hRow, if_pos q]; exact ih
    · rw [gRow, gQp_n q, hRow, if_neg q]; exact gRp_new ih t b1 (f i) (f j)
theorem gRp_pair (t : Int) (b1 : Nat) (f : Nat → Nat) (n : Nat) : ∀ i, gRp (gPair t.natAbs b1 f n i) (hPair t b1 f n i) := by
  intro i
  induction i with
  | zero => exact trivial
  | succ i ih => rw [gPair, hPair]; exact gRp_row ih t b1 f i n
