/-! trains searched -/
theorem lx_n {n a b : Nat} (h : a < b) : a / n < b / n ∨ (a / n = b / n ∧ a % n < b % n) := by
  have h1 := Nat.div_add_mod a n
  have h2 := Nat.div_add_mod b n
  have h3 : a / n ≤ b / n := Nat.div_le_div_right (Nat.le_of_lt h)
  rcases Nat.lt_or_ge (a / n) (b / n) with q | q
  · exact Or.inl q
  · have e : a / n = b / n := Nat.le_antisymm h3 q
    rw [e] at h1
    exact Or.inr ⟨e, by omega⟩
theorem dm_n {n x y : Nat} (hy : y < n) : (x * n + y) / n = x ∧ (x * n + y) % n = y := by
  refine ⟨?_, ?_⟩
  · rw [Nat.mul_comm, Nat.mul_add_div (by omega), Nat.div_eq_of_lt hy, Nat.add_zero]
  · rw [Nat.mul_comm, Nat.mul_add_mod, Nat.mod_eq_of_lt hy]
/-- one candidate: the pairs o and m -/
def hTc (t : Int) (b : Nat) (f : Nat → Nat) (n o m : Nat) (h : hB) : hB := if o / n = o % n ∨ m / n = m % n then h else hNew h (hOff t b (f (o / n) * f (m / n)) (f (o % n) * f (m % n))) (f (o % n) * f (m % n)) (f (o / n)) (f (o % n)) (f (m / n)) (f (m % n))
def hT2 (t : Int) (b : Nat) (f : Nat → Nat) (n o : Nat) : Nat → hB → hB
  | 0, h => h
  | m + 1, h => if m < o then hT2 t b f n o m h else hTc t b f n o m (hT2 t b f n o m h)
def hT1 (t : Int) (b : Nat) (f : Nat → Nat) (n : Nat) : Nat → hB
  | 0 => none
  | o + 1 => hT2 t b f n o (n * n) (hT1 t b f n o)
theorem hT2_0 {t : Int} {b : Nat} {f : Nat → Nat} {n o : Nat} {h : hB} : ∀ {m : Nat}, m ≤ o → hT2 t b f n o m h = h := by
  intro m
  induction m with
  | zero => intro _; rfl
  | succ m ih => intro q; rw [hT2, if_pos (by omega), ih (by omega)]
theorem hT2_s {t : Int} {b : Nat} {f : Nat → Nat} {n o m : Nat} {h : hB} (q : o ≤ m) : hT2 t b f n o (m + 1) h = hTc t b f n o m (hT2 t b f n o m h) := by
  rw [hT2, if_neg (by omega)]
theorem hT2_e {t : Int} {b : Nat} {f : Nat → Nat} {n o : Nat} {h : hB} (q : o / n = o % n) : ∀ m, hT2 t b f n o m h = h := by
  intro m
  induction m with
  | zero => rfl
  | succ m ih =>
    rw [hT2, hTc, if_pos (Or.inl q), ih]
    split <;> rfl
theorem mn_le {n x i : Nat} (h : x < i) : x * n + n ≤ i * n := by
  have := Nat.mul_le_mul_right n (show x + 1 ≤ i by omega)
  rw [Nat.add_mul, Nat.one_mul] at this
  exact this
theorem gRt_row {g : gB} {h : hB} {t : Int} {b : Nat} {f : Nat → Nat} {n i j x : Nat} (hij : i ≠ j) (hj : j < n) (hx : i ≤ x) (r : gRt g (hT2 t b f n (i * n + j) (x * n) h)) : ∀ y, y ≤ n → gRt (gRow t.natAbs b (gQt f i j x) y g) (hT2 t b f n (i * n + j) (x * n + y) h) := by
  intro y
  induction y with
  | zero => intro _; exact r
  | succ y ih =>
    intro hy
    have r1 := ih (by omega)
    have hd := dm_n (n := n) (x := x) (y := y) (by omega)
    have ho := dm_n (n := n) (x := i) (y := j) hj
    show gRt _ (hT2 t b f n (i * n + j) ((x * n + y) + 1) h)
    by_cases c : x = i ∧ y < j
    · rw [gRow_z (gQt_e (Or.inr c)), hT2, if_pos (by rw [c.1]; omega)]
      exact r1
    · have hle : i * n + j ≤ x * n + y := by
        rcases Nat.lt_or_ge i x with q | q
        · have := mn_le (n := n) q
          omega
        · have e : i = x := by omega
          subst e
          omega
      rw [hT2_s hle, hTc, ho.1, ho.2, hd.1, hd.2]
      by_cases c2 : x = y
      · rw [gRow_z (gQt_e (Or.inl c2)), if_pos (Or.inr c2)]
        exact r1
      · rw [gRow_s (gQt_n (fun z => z.elim c2 c)), if_neg (fun z => z.elim hij c2)]
        exact gRt_new r1 t b _ _ _ _
theorem gRt_tr {g : gB} {h : hB} {t : Int} {b : Nat} {f : Nat → Nat} {n i j : Nat} (hij : i ≠ j) (hj : j < n) (r : gRt g h) : ∀ x, gRt (gTr t.natAbs b f n i j x g) (hT2 t b f n (i * n + j) (x * n) h) := by
  intro x
  induction x with
  | zero => rw [show 0 * n = 0 from Nat.zero_mul n]; exact r
  | succ x ih =>
    rw [gTr, Nat.add_mul, Nat.one_mul]
    by_cases c : x < i
    · rw [if_pos c]
      have := mn_le (n := n) c
      rw [hT2_0 (by omega)]
      rw [hT2_0 (by omega)] at ih
      exact ih
    · rw [if_neg c]
      exact gRt_row hij hj (by omega) ih n (Nat.le_refl _)
theorem gRt_trow {g : gB} {t : Int} {b : Nat} {f : Nat → Nat} {n i : Nat} (r : gRt g (hT1 t b f n (i * n))) : ∀ j, j ≤ n → gRt (gTrow t.natAbs b f n i j g) (hT1 t b f n (i * n + j)) := by
  intro j
  induction j with
  | zero => intro _; exact r
  | succ j ih =>
    intro hj
    have r1 := ih (by omega)
    have ho := dm_n (n := n) (x := i) (y := j) (by omega)
    show gRt _ (hT2 t b f n (i * n + j) (n * n) (hT1 t b f n (i * n + j)))
    rw [gTrow]
    by_cases c : i = j
    · rw [if_pos c, hT2_e (by rw [ho.1, ho.2]; exact c)]
      exact r1
    · rw [if_neg c]
      exact gRt_tr c (by omega) r1 n
theorem gRt_train (t : Int) (b : Nat) (f : Nat → Nat) (n : Nat) : ∀ i, gRt (gTrain t.natAbs b f n i) (hT1 t b f n (i * n)) := by
  intro i
  induction i with
  | zero => rw [show 0 * n = 0 from Nat.zero_mul n]; exact trivial
  | succ i ih =>
    rw [gTrain, Nat.add_mul, Nat.one_mul]
    exact gRt_trow ih n (Nat.le_refl _)
/-- the best's wheels are a candidate before (o, m) -/
def hIt (f : Nat → Nat) (n o m : Nat) : hB → Prop
  | none => True
  | some (f0, u0, a0, c0, d0, e0) => ∃ o' m', o' < n * n ∧ m' < n * n ∧ (o' < o ∨ (o' = o ∧ m' < m)) ∧ a0 = f (o' / n) ∧ c0 = f (o' % n) ∧ d0 = f (m' / n) ∧ e0 = f (m' % n) ∧ u0 = c0 * e0 ∧ f0 < 2 ^ 62
theorem nn_d {n o : Nat} (h : o < n * n) : o / n < n ∧ o % n < n := by
  have hn : 0 < n := by
    rcases Nat.eq_zero_or_pos n with q | q
    · subst q; omega
    · exact q
  exact ⟨Nat.div_lt_of_lt_mul h, Nat.mod_lt _ hn⟩
theorem hIt_bf {f : Nat → Nat} {n o m : Nat} {g : hB} (hs : ∀ a b, a < b → b < n → f a < f b) (ho : o < n * n) (hm : m < n * n) (h : hIt f n o m g) : hBf g (f (o / n)) (f (o % n)) (f (m / n)) (f (m % n)) := by
  cases g with
  | none => trivial
  | some q =>
    obtain ⟨f0, u0, a0, c0, d0, e0⟩ := q
    obtain ⟨o', m', h1, h2, h3, h4, h5, h6, h7, h8, h9⟩ := h
    subst h4 h5 h6 h7
    have d1 := nn_d ho
    have d2 := nn_d hm
    rcases h3 with h3 | ⟨h3, h3'⟩
    · rcases lx_n (n := n) h3 with q | ⟨q, q2⟩
      · exact Or.inl (hs _ _ q d1.1)
      · exact Or.inr ⟨congrArg f q, Or.inl (hs _ _ q2 d1.2)⟩
    · subst h3
      refine Or.inr ⟨rfl, Or.inr ⟨rfl, ?_⟩⟩
      rcases lx_n (n := n) h3' with q | ⟨q, q2⟩
      · exact Or.inl (hs _ _ q d2.1)
      · exact Or.inr ⟨congrArg f q, Nat.le_of_lt (hs _ _ q2 d2.2)⟩
theorem hIt_ok {f : Nat → Nat} {n o m : Nat} {g : hB} (hf : ∀ i, i < n → 8 ≤ f i ∧ f i ≤ 100) (h : hIt f n o m g) : hOk g := by
  cases g with
  | none => trivial
  | some q =>
    obtain ⟨f0, u0, a0, c0, d0, e0⟩ := q
    obtain ⟨o', m', h1, h2, h3, h4, h5, h6, h7, h8, h9⟩ := h
    have d1 := nn_d h1
    have d2 := nn_d h2
    have g1 := hf _ d1.1
    have g2 := hf _ d1.2
    have g3 := hf _ d2.1
    have g4 := hf _ d2.2
    subst h4 h5 h6 h7 h8
    have k1 : f (o' % n) * f (m' % n) ≤ 100 * 100 := Nat.mul_le_mul g2.2 g4.2
    have k2 : 8 * 8 ≤ f (o' % n) * f (m' % n) := Nat.mul_le_mul g2.1 g4.1
    exact ⟨h9, by omega, by omega, by omega, by omega, by omega⟩
theorem hIt_s {f : Nat → Nat} {n o m o' m' : Nat} {g : hB} (h : hIt f n o m g) (hle : o < o' ∨ (o = o' ∧ m ≤ m')) : hIt f n o' m' g := by
  cases g with
  | none => trivial
  | some q =>
    obtain ⟨f0, u0, a0, c0, d0, e0⟩ := q
    obtain ⟨i', k', h1, h2, h3, h4⟩ := h
    exact ⟨i', k', h1, h2, by omega, h4⟩
theorem hIt_new {f : Nat → Nat} {n o m F : Nat} {g : hB} (h : hIt f n o m g) (ho : o < n * n) (hm : m < n * n) (hF : F < 2 ^ 62) : hIt f n o (m + 1) (hNew g F (f (o % n) * f (m % n)) (f (o / n)) (f (o % n)) (f (m / n)) (f (m % n))) := by
  unfold hNew
  split
  · exact ⟨o, m, ho, hm, Or.inr ⟨rfl, by omega⟩, rfl, rfl, rfl, rfl, rfl, hF⟩
  · exact hIt_s h (Or.inr ⟨rfl, by omega⟩)
theorem hIt_row {f : Nat → Nat} {n o : Nat} {g : hB} (h : hIt f n o (n * n) g) : hIt f n (o + 1) (o + 1) g := hIt_s h (Or.inl (by omega))
