/-! the surroundings of the start -/
theorem va_T_cg {ty : FieldType} {t N : Nat} {f g : Nat → Value} {A : Nat → Prop} {U : State} {H : Heap} (h : va_T ty t N f A U H) (e : ∀ j, j < N → f j = g j) : va_T ty t N g A U H := by
  obtain ⟨c, h1, h2, h3, h4, h5, h6, h7⟩ := h
  exact ⟨c, h1, h2, h3, h4, h5, fun j hj => by rw [← e j hj]; exact h6 j hj, h7⟩
theorem st_K {args : Array Value} {s : State} (ht : ∀ w ∈ zT, w.before args s = true) (hts : ∀ w ∈ lw_tbl, w.before args s = true) : ∃ (dC : Nat → ClassId) (dI : Nat → Nat → Nat) (cA : Nat → ClassId), ∀ (n : Nat) (cd : Nat → Nat), va_K (dC, dI) vwCl (zTy ((dC, dI), cA, n, cd)) s := by
  obtain ⟨c0, i0, h0⟩ := u_known (C := RX0) (T := TX0) (N := 7) (n := 7) ht iX0 (ht _ mtX0)
  obtain ⟨c1, i1, h1⟩ := u_known (C := RX1) (T := TX1) (N := 5) (n := 5) ht iX1 (ht _ mtX1)
  obtain ⟨c2, i2, h2⟩ := u_known (C := RX2) (T := TX2) (N := 2) (n := 2) ht iX2 (ht _ mtX2)
  obtain ⟨c3, i3, h3⟩ := u_known (C := RX3) (T := TX3) (N := 2) (n := 2) ht iX3 (ht _ mtX3)
  obtain ⟨c4, i4, h4⟩ := u_known (C := RX4) (T := TX4) (N := 6) (n := 6) ht iX4 (ht _ mtX4)
  obtain ⟨c5, i5, h5⟩ := u_known (C := RX5) (T := TX5) (N := 8) (n := 8) ht iX5 (ht _ mtX5)
  obtain ⟨c6, i6, h6⟩ := u_known (C := RX6) (T := TX6) (N := 6) (n := 6) ht iX6 (ht _ mtX6)
  obtain ⟨c7, i7, h7⟩ := u_known (C := RX7) (T := TX7) (N := 7) (n := 7) ht iX7 (ht _ mtX7)
  obtain ⟨c8, i8, h8⟩ := u_known (C := RX8) (T := TX8) (N := 2) (n := 2) ht iX8 (ht _ mtX8)
  obtain ⟨c9, i9, h9⟩ := u_known (C := RX10) (T := TX10) (N := 12) (n := 12) ht iX10 (ht _ mtX10)
  obtain ⟨c10, i10, h10⟩ := u_known (C := RX11) (T := TX11) (N := 30) (n := 30) ht iX11 (ht _ mtX11)
  obtain ⟨a0, k0, p0, f0, g0, q0⟩ := Cond.arrayClass_spec (hts (.arrayClass .byte) (by decide +kernel))
  obtain ⟨a1, k1, p1, f1, g1, q1⟩ := Cond.arrayClass_spec (hts (.arrayClass .int) (by decide +kernel))
  obtain ⟨a2, k2, p2, f2, g2, q2⟩ := Cond.arrayClass_spec (hts (.arrayClass .long) (by decide +kernel))
  obtain ⟨a3, k3, p3, f3, g3, q3⟩ := Cond.arrayClass_spec (hts (.arrayClass .boolean) (by decide +kernel))
  obtain ⟨a6, k6, p6, f6, g6, q6⟩ := Cond.arrayClass_spec (hts (.arrayClass .double) (by decide +kernel))
  obtain ⟨p4, a4, k4, f4, -, g4, q4, r4⟩ := Cond.arrayOver_spec (hts (.arrayOver (.object "PlanetDrive$State")) (by decide +kernel))
  obtain ⟨p5, a5, k5, f5, -, g5, q5, r5⟩ := Cond.arrayOver_spec (hts (.arrayOver (.object "PlanetDrive$Train")) (by decide +kernel))
  refine ⟨fun k => [c0, c1, c2, c3, c4, c5, c6, c7, c8, c9, c10].getD k c0, fun k => [i0, i1, i2, i3, i4, i5, i6, i7, i8, i9, i10].getD k i0, fun k => [a0, a1, a2, a3, a4, a5, a6].getD k a0, fun n cd => ⟨fun c q hq => ?_, fun k q hq => ?_⟩⟩
  · rcases c with _ | c
    · cases hq
      exact h0
    rcases c with _ | c
    · cases hq
      exact h1
    rcases c with _ | c
    · cases hq
      exact h2
    rcases c with _ | c
    · cases hq
      exact h3
    rcases c with _ | c
    · cases hq
      exact h4
    rcases c with _ | c
    · cases hq
      exact h5
    rcases c with _ | c
    · cases hq
      exact h6
    rcases c with _ | c
    · cases hq
      exact h7
    rcases c with _ | c
    · cases hq
      exact h8
    rcases c with _ | c
    · cases hq
      exact h9
    rcases c with _ | c
    · cases hq
      exact h10
    simp [vwCl] at hq
  · rcases k with _ | k
    · cases hq
      exact ⟨fun N z => ⟨(fun q h => by cases h), k0, g0, p0, q0⟩, f0⟩
    rcases k with _ | k
    · cases hq
      exact ⟨fun N z => ⟨(fun q h => by cases h), k1, g1, p1, q1⟩, f1⟩
    rcases k with _ | k
    · cases hq
      exact ⟨fun N z => ⟨(fun q h => by cases h), k2, g2, p2, q2⟩, f2⟩
    rcases k with _ | k
    · cases hq
      exact ⟨fun N z => ⟨(fun q h => by cases h), k3, g3, p3, q3⟩, f3⟩
    rcases k with _ | k
    · cases hq
      exact ⟨fun N z => ⟨(fun q h => by cases h), k4, g4, p4, q4⟩, k4, p4, g4, q4, f4, r4⟩
    rcases k with _ | k
    · cases hq
      exact ⟨fun N z => ⟨(fun q h => by cases h), k5, g5, p5, q5⟩, k5, p5, g5, q5, f5, r5⟩
    rcases k with _ | k
    · cases hq
      exact ⟨fun N z => ⟨(fun q h => by cases h), k6, g6, p6, q6⟩, f6⟩
    simp [zTy] at hq
theorem st_E {args : Array Value} {s : State} (hs : ∀ w ∈ flatC (Jvm.Cond.and given_1 narrow_1), w.before args s = true) (hts : ∀ w ∈ lw_tbl, w.before args s = true) : ∃ E : zE, E.2.2.1 = s.heap.size ∧ zKn E s ∧ zCst E s s.heap := by
  have ht : ∀ w ∈ zT, w.before args s = true := fun w hw => hts w (List.mem_filter.mp hw).1
  have hA : ∀ a : Nat, a < s.heap.size → ¬ (fun q : Nat => s.heap.size ≤ q) a := fun a h q => Nat.lt_irrefl _ (Nat.lt_of_lt_of_le h q)
  obtain ⟨dC, dI, cA, hK⟩ := st_K ht hts
  obtain ⟨ad, had⟩ := st_words hs hts hA
  obtain ⟨t, t1, t2⟩ := st_all hs hts hA (ad := ad) (fun i hi => (had i hi).1)
  obtain ⟨adK, adV, hS, hR⟩ := st_str hs hts hA
  have c1 : ∀ i, i < 11 → (if i < 11 then ad i else if i = 11 then t else if i < 40 then adK (i - 20) else adV (i - 40)) = ad i := fun i hi => if_pos hi
  have c2 : ∀ i, i < 11 → (if 20 + i < 11 then ad (20 + i) else if 20 + i = 11 then t else if 20 + i < 40 then adK (20 + i - 20) else adV (20 + i - 40)) = adK i := fun i hi => by
    rw [if_neg (by omega), if_neg (by omega), if_pos (by omega), Nat.add_sub_cancel_left]
  have c3 : ∀ i, i < 11 → (if 40 + i < 11 then ad (40 + i) else if 40 + i = 11 then t else if 40 + i < 40 then adK (40 + i - 20) else adV (40 + i - 40)) = adV i := fun i hi => by
    rw [if_neg (by omega), if_neg (by omega), if_neg (by omega), Nat.add_sub_cancel_left]
  generalize hcd : (fun i => if i < 11 then ad i else if i = 11 then t else if i < 40 then adK (i - 20) else adV (i - 40)) = cd
  have d1 : ∀ i, i < 11 → cd i = ad i := fun i hi => by rw [← hcd]; exact c1 i hi
  have d2 : ∀ i, i < 11 → cd (20 + i) = adK i := fun i hi => by rw [← hcd]; exact c2 i hi
  have d3 : ∀ i, i < 11 → cd (40 + i) = adV i := fun i hi => by rw [← hcd]; exact c3 i hi
  have d4 : cd 11 = t := by rw [← hcd]; rfl
  refine ⟨((dC, dI), cA, s.heap.size, cd), rfl, ⟨hK _ _, (st_ao hts).1, (st_ao hts).2, st_nw hts⟩, ?_, ?_, ?_, ⟨fun i hi => ?_, fun i j hi hj e => ?_⟩, st_cs hs hts hA, st_u hs hts hA, st_p hs hts hA, ?_, st_ms hs hts, st_nc hs, st_nw hts, (st_ao hts).1, (st_ao hts).2, st_f hs hts hA⟩
  · intro i hi
    show va_Z _ _ _ (.ref (cd i)) _ _ _ ∧ va_OF _ _ _ _ (cd i) _ _ _
    rw [d1 i hi]
    exact (had i hi).2
  · show va_Z _ _ _ (.ref (cd 11)) _ _ _
    rw [d4]
    exact t1
  · show va_T _ (cd 11) _ _ _ _ _
    rw [d4]
    exact va_T_cg t2 (fun j hj => by
      show Value.ref (ad j) = Value.ref (cd j)
      rw [d1 j hj])
  · show va_O _ (cd (20 + i)) _ _ _ ∧ va_OF _ _ _ _ (cd (20 + i)) _ _ _ ∧ va_OF _ _ _ (.ref (cd (40 + i))) (cd (20 + i)) _ _ _ ∧ va_T _ (cd (40 + i)) _ _ _ _ _
    rw [d2 i hi, d3 i hi]
    exact hS.1 i hi
  · have e : cd (20 + i) = cd (20 + j) := e
    rw [d2 i hi, d2 j hj] at e
    exact hS.2 i j hi hj e
  · intro i hi
    show vk_R _ _ _ (cd (20 + i)) _
    rw [d2 i hi]
    exact hR i hi
