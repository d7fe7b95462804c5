/-! what the statement gives of the start -/
theorem nw_1 : ∀ i, i < 11 → Cond.exactly (.static "PlanetDrive$Word" (zWn.getD i "") "LPlanetDrive$Word;") "PlanetDrive$Word" ∈ flatC (Jvm.Cond.and given_1 narrow_1) := by decide +kernel
theorem nw_2 : ∀ i, i < 11 → Cond.eq (.field (.static "PlanetDrive$Word" (zWn.getD i "") "LPlanetDrive$Word;") "PlanetDrive$Word" "letters" "J") (.long (zWl.getD i 0)) ∈ flatC (Jvm.Cond.and given_1 narrow_1) := by decide +kernel
theorem nw_3 : ∀ i, i < 11 → Cond.laysStatic "PlanetDrive$Word" (zWn.getD i "") "LPlanetDrive$Word;" ∈ lw_tbl := by decide +kernel
theorem nw_4 : ∀ i, i < 11 → Cond.eq (.elem (.static "PlanetDrive$Word" "ALL" "[LPlanetDrive$Word;") (.int (Int32.ofNat i))) (.static "PlanetDrive$Word" (zWn.getD i "") "LPlanetDrive$Word;") ∈ flatC (Jvm.Cond.and given_1 narrow_1) := by decide +kernel
theorem st_words {args : Array Value} {s : State} {A : Nat → Prop} (hs : ∀ w ∈ flatC (Jvm.Cond.and given_1 narrow_1), w.before args s = true) (hts : ∀ w ∈ lw_tbl, w.before args s = true) (hA : ∀ a : Nat, a < s.heap.size → ¬ A a) : ∃ ad : Nat → Nat, ∀ i, i < 11 → (Term.static "PlanetDrive$Word" (zWn.getD i "") "LPlanetDrive$Word;").eval args s none [] s = some (.ref (ad i)) ∧ va_Z "PlanetDrive$Word" (zWn.getD i "") "LPlanetDrive$Word;" (.ref (ad i)) A s s.heap ∧ va_OF "PlanetDrive$Word" "letters" "J" (.long (zWl.getD i 0)) (ad i) A s s.heap := by
  have h0 : ∀ i : Nat, ∃ t : Nat, i < 11 → (Term.static "PlanetDrive$Word" (zWn.getD i "") "LPlanetDrive$Word;").eval args s none [] s = some (.ref t) := by
    intro i
    by_cases hi : i < 11
    · obtain ⟨a, c, cell, k, q1, -⟩ := Cond.exactly_spec (hs _ (nw_1 i hi))
      exact ⟨a, fun _ => q1⟩
    · exact ⟨0, fun h => absurd h hi⟩
  obtain ⟨ad, had⟩ := Classical.axiomOfChoice h0
  exact ⟨ad, fun i hi => ⟨had i hi, va_Zof (hts _ (nw_3 i hi)) (hts (.initialized "PlanetDrive$Word") (by decide +kernel)) (had i hi) hA, vk_OFof (had i hi) (va_eqtl (hs _ (nw_2 i hi))) hA⟩⟩
theorem st_all {args : Array Value} {s : State} {A : Nat → Prop} (hs : ∀ w ∈ flatC (Jvm.Cond.and given_1 narrow_1), w.before args s = true) (hts : ∀ w ∈ lw_tbl, w.before args s = true) (hA : ∀ a : Nat, a < s.heap.size → ¬ A a) {ad : Nat → Nat} (had : ∀ i, i < 11 → (Term.static "PlanetDrive$Word" (zWn.getD i "") "LPlanetDrive$Word;").eval args s none [] s = some (.ref (ad i))) : ∃ t : Nat, va_Z "PlanetDrive$Word" "ALL" "[LPlanetDrive$Word;" (.ref t) A s s.heap ∧ va_T (.object "PlanetDrive$Word") t 11 (fun j => .ref (ad j)) A s s.heap := by
  obtain ⟨t, h1, h2⟩ := va_Tof (N := 11) (f := fun j => .ref (ad j)) (tm := .static "PlanetDrive$Word" "ALL" "[LPlanetDrive$Word;") (ty := .object "PlanetDrive$Word") (by decide) (hs _ (by decide +kernel)) (va_eqt (z := 11) (hs _ (by decide +kernel))) (fun j hj => va_eqv (hs _ (nw_4 j hj)) (had j hj)) hA
  exact ⟨t, va_Zof (hts (.laysStatic "PlanetDrive$Word" "ALL" "[LPlanetDrive$Word;") (by decide +kernel)) (hts (.initialized "PlanetDrive$Word") (by decide +kernel)) h1 hA, h2⟩
theorem st_cs {args : Array Value} {s : State} {A : Nat → Prop} (hs : ∀ w ∈ flatC (Jvm.Cond.and given_1 narrow_1), w.before args s = true) (hts : ∀ w ∈ lw_tbl, w.before args s = true) (hA : ∀ a : Nat, a < s.heap.size → ¬ A a) : va_Z "java/lang/String" "COMPACT_STRINGS" "Z" (.int 1) A s s.heap := va_Zof (hts (.laysStatic "java/lang/String" "COMPACT_STRINGS" "Z") (by decide +kernel)) (hts (.initialized "java/lang/String") (by decide +kernel)) (va_eqt (hs _ (by decide +kernel))) hA
theorem st_u {args : Array Value} {s : State} {A : Nat → Prop} (hs : ∀ w ∈ flatC (Jvm.Cond.and given_1 narrow_1), w.before args s = true) (hts : ∀ w ∈ lw_tbl, w.before args s = true) (hA : ∀ a : Nat, a < s.heap.size → ¬ A a) : vx_Zq Bundle.tN "UNASSIGNED_STACK" Bundle.steD A s s.heap := vx_Zqof (hts (.laysStatic "java/lang/Throwable" "UNASSIGNED_STACK" "[Ljava/lang/StackTraceElement;") (by decide +kernel)) (hts (.initialized "java/lang/Throwable") (by decide +kernel)) (hs (.isRef (.static "java/lang/Throwable" "UNASSIGNED_STACK" "[Ljava/lang/StackTraceElement;")) (by decide +kernel)) hA
theorem st_p {args : Array Value} {s : State} {A : Nat → Prop} (hs : ∀ w ∈ flatC (Jvm.Cond.and given_1 narrow_1), w.before args s = true) (hts : ∀ w ∈ lw_tbl, w.before args s = true) (hA : ∀ a : Nat, a < s.heap.size → ¬ A a) : vx_Zq Bundle.tN "SUPPRESSED_SENTINEL" Bundle.listD A s s.heap := vx_Zqof (hts (.laysStatic "java/lang/Throwable" "SUPPRESSED_SENTINEL" "Ljava/util/List;") (by decide +kernel)) (hts (.initialized "java/lang/Throwable") (by decide +kernel)) (hs (.isRef (.static "java/lang/Throwable" "SUPPRESSED_SENTINEL" "Ljava/util/List;")) (by decide +kernel)) hA
theorem st_f {args : Array Value} {s : State} {A : Nat → Prop} (hs : ∀ w ∈ flatC (Jvm.Cond.and given_1 narrow_1), w.before args s = true) (hts : ∀ w ∈ lw_tbl, w.before args s = true) (hA : ∀ a : Nat, a < s.heap.size → ¬ A a) : vx_Zq "jdk/internal/util/Preconditions" "SIOOBE_FORMATTER" "Ljava/util/function/BiFunction;" A s s.heap := vx_Zqof (hts (.laysStatic "jdk/internal/util/Preconditions" "SIOOBE_FORMATTER" "Ljava/util/function/BiFunction;") (by decide +kernel)) (hts (.initialized "jdk/internal/util/Preconditions") (by decide +kernel)) (hs (.isRef (.static "jdk/internal/util/Preconditions" "SIOOBE_FORMATTER" "Ljava/util/function/BiFunction;")) (by decide +kernel)) hA
theorem nw_5 : ∀ q ∈ zMs, Cond.exactly (.string "PlanetDrive" q.1) "java/lang/String" ∈ flatC (Jvm.Cond.and given_1 narrow_1) := by decide +kernel
theorem nw_6 : ∀ q ∈ zMs, Cond.stringRef "PlanetDrive" q.1 q.2 ∈ lw_tbl := by decide +kernel
theorem st_ms {args : Array Value} {s : State} (hs : ∀ w ∈ flatC (Jvm.Cond.and given_1 narrow_1), w.before args s = true) (hts : ∀ w ∈ lw_tbl, w.before args s = true) : ∀ q ∈ zMs, ∃ a, vk_R "PlanetDrive" q.1 q.2 a s := fun q hq => by
  obtain ⟨a, c, cell, k, q1, -⟩ := Cond.exactly_spec (hs _ (nw_5 q hq))
  exact ⟨a, vk_R.of (hts _ (nw_6 q hq)) q1⟩
theorem nw_7 : ∀ q ∈ zNc, Cond.not (.castable q.1 q.2) ∈ flatC (Jvm.Cond.and given_1 narrow_1) := by decide +kernel
theorem st_nc {args : Array Value} {s : State} (hs : ∀ w ∈ flatC (Jvm.Cond.and given_1 narrow_1), w.before args s = true) : ∀ q ∈ zNc, va_Nc q.1 q.2 s := fun q hq => va_Nc.of (hs _ (nw_7 q hq))
theorem st_nw {args : Array Value} {s : State} (hts : ∀ w ∈ lw_tbl, w.before args s = true) : ∀ w ∈ zNw, va_Nw w s := fun w hw => by
  obtain ⟨h1, h2⟩ := List.mem_filter.mp hw
  exact va_Nw.of (by cases w <;> first | rfl | (simp [zNk] at h2)) (hts w (List.mem_append_right _ h1))
theorem st_ao {args : Array Value} {s : State} (hts : ∀ w ∈ lw_tbl, w.before args s = true) : va_AO "PlanetDrive$State" s ∧ va_AO "PlanetDrive$Train" s := ⟨va_AO.of (hts (.arrayOver (.object "PlanetDrive$State")) (by decide +kernel)), va_AO.of (hts (.arrayOver (.object "PlanetDrive$Train")) (by decide +kernel))⟩
/-! the literals -/
abbrev tmS (i : Nat) : Term := .string "PlanetDriveModel" (zSx.getD i 0)
theorem ns_1 : ∀ i, i < 11 → Cond.exactly (tmS i) "java/lang/String" ∈ flatC (Jvm.Cond.and given_1 narrow_1) := by decide +kernel
theorem ns_2 : ∀ i, i < 11 → Cond.eq (.field (tmS i) "java/lang/String" "coder" "B") (.int 0) ∈ flatC (Jvm.Cond.and given_1 narrow_1) := by decide +kernel
theorem ns_3 : ∀ i, i < 11 → Cond.arrayOf (.field (tmS i) "java/lang/String" "value" "[B") .byte ∈ flatC (Jvm.Cond.and given_1 narrow_1) := by decide +kernel
theorem ns_4 : ∀ i, i < 11 → Cond.eq (.length (.field (tmS i) "java/lang/String" "value" "[B")) (.int (Int32.ofNat (zSn.getD i 0))) ∈ flatC (Jvm.Cond.and given_1 narrow_1) := by decide +kernel
theorem ns_5_0 : ∀ j, j < zSn.getD 0 0 → Cond.eq (.elem (.field (tmS 0) "java/lang/String" "value" "[B") (.int (Int32.ofNat j))) (.int ((zSb.getD 0 []).getD j 0)) ∈ flatC (Jvm.Cond.and given_1 narrow_1) := by decide +kernel
theorem ns_5_1 : ∀ j, j < zSn.getD 1 0 → Cond.eq (.elem (.field (tmS 1) "java/lang/String" "value" "[B") (.int (Int32.ofNat j))) (.int ((zSb.getD 1 []).getD j 0)) ∈ flatC (Jvm.Cond.and given_1 narrow_1) := by decide +kernel
theorem ns_5_2 : ∀ j, j < zSn.getD 2 0 → Cond.eq (.elem (.field (tmS 2) "java/lang/String" "value" "[B") (.int (Int32.ofNat j))) (.int ((zSb.getD 2 []).getD j 0)) ∈ flatC (Jvm.Cond.and given_1 narrow_1) := by decide +kernel
theorem ns_5_3 : ∀ j, j < zSn.getD 3 0 → Cond.eq (.elem (.field (tmS 3) "java/lang/String" "value" "[B") (.int (Int32.ofNat j))) (.int ((zSb.getD 3 []).getD j 0)) ∈ flatC (Jvm.Cond.and given_1 narrow_1) := by decide +kernel
theorem ns_5_4 : ∀ j, j < zSn.getD 4 0 → Cond.eq (.elem (.field (tmS 4) "java/lang/String" "value" "[B") (.int (Int32.ofNat j))) (.int ((zSb.getD 4 []).getD j 0)) ∈ flatC (Jvm.Cond.and given_1 narrow_1) := by decide +kernel
theorem ns_5_5 : ∀ j, j < zSn.getD 5 0 → Cond.eq (.elem (.field (tmS 5) "java/lang/String" "value" "[B") (.int (Int32.ofNat j))) (.int ((zSb.getD 5 []).getD j 0)) ∈ flatC (Jvm.Cond.and given_1 narrow_1) := by decide +kernel
theorem ns_5_6 : ∀ j, j < zSn.getD 6 0 → Cond.eq (.elem (.field (tmS 6) "java/lang/String" "value" "[B") (.int (Int32.ofNat j))) (.int ((zSb.getD 6 []).getD j 0)) ∈ flatC (Jvm.Cond.and given_1 narrow_1) := by decide +kernel
theorem ns_5_7 : ∀ j, j < zSn.getD 7 0 → Cond.eq (.elem (.field (tmS 7) "java/lang/String" "value" "[B") (.int (Int32.ofNat j))) (.int ((zSb.getD 7 []).getD j 0)) ∈ flatC (Jvm.Cond.and given_1 narrow_1) := by decide +kernel
theorem ns_5_8 : ∀ j, j < zSn.getD 8 0 → Cond.eq (.elem (.field (tmS 8) "java/lang/String" "value" "[B") (.int (Int32.ofNat j))) (.int ((zSb.getD 8 []).getD j 0)) ∈ flatC (Jvm.Cond.and given_1 narrow_1) := by decide +kernel
theorem ns_5_9 : ∀ j, j < zSn.getD 9 0 → Cond.eq (.elem (.field (tmS 9) "java/lang/String" "value" "[B") (.int (Int32.ofNat j))) (.int ((zSb.getD 9 []).getD j 0)) ∈ flatC (Jvm.Cond.and given_1 narrow_1) := by decide +kernel
theorem ns_5_10 : ∀ j, j < zSn.getD 10 0 → Cond.eq (.elem (.field (tmS 10) "java/lang/String" "value" "[B") (.int (Int32.ofNat j))) (.int ((zSb.getD 10 []).getD j 0)) ∈ flatC (Jvm.Cond.and given_1 narrow_1) := by decide +kernel
theorem ns_5 : ∀ i, i < 11 → ∀ j, j < zSn.getD i 0 → Cond.eq (.elem (.field (tmS i) "java/lang/String" "value" "[B") (.int (Int32.ofNat j))) (.int ((zSb.getD i []).getD j 0)) ∈ flatC (Jvm.Cond.and given_1 narrow_1) := fun i hi => by
  rcases i with _ | i
  · exact ns_5_0
  rcases i with _ | i
  · exact ns_5_1
  rcases i with _ | i
  · exact ns_5_2
  rcases i with _ | i
  · exact ns_5_3
  rcases i with _ | i
  · exact ns_5_4
  rcases i with _ | i
  · exact ns_5_5
  rcases i with _ | i
  · exact ns_5_6
  rcases i with _ | i
  · exact ns_5_7
  rcases i with _ | i
  · exact ns_5_8
  rcases i with _ | i
  · exact ns_5_9
  rcases i with _ | i
  · exact ns_5_10
  omega
theorem ns_6 : ∀ i, i < 11 → Cond.stringRef "PlanetDriveModel" (zSx.getD i 0) (zSw.getD i "") ∈ lw_tbl := by decide +kernel
theorem ns_7 : ∀ i, i < 11 → zSn.getD i 0 < 2 ^ 31 := by decide
theorem ns_8 : ∀ i, i < 11 → ∀ j, j < 11 → i ≠ j → Int32.ofNat (zSn.getD i 0) ≠ Int32.ofNat (zSn.getD j 0) ∨ ∃ b, b < 6 ∧ b < zSn.getD i 0 ∧ b < zSn.getD j 0 ∧ (zSb.getD i []).getD b 0 ≠ (zSb.getD j []).getD b 0 := by decide +kernel
theorem va_OF_v {o n d : String} {v w : Value} {t : Nat} {A : Nat → Prop} {U : State} {H : Heap} (h1 : va_OF o n d v t A U H) (h2 : va_OF o n d w t A U H) : v = w := by
  obtain ⟨c1, k1, i1, f1, e1, a1, a2, a3, a4, a5, -⟩ := h1
  obtain ⟨c2, k2, i2, f2, e2, b1, b2, b3, b4, b5, -⟩ := h2
  have hf := Option.some.inj (a1.symm.trans b1)
  have he := Option.some.inj (a3.symm.trans b3)
  have hff : f1 = f2 := by
    have := congrArg (fun z => z.2.2.2) hf
    exact this
  subst hff he
  exact Option.some.inj (a5.symm.trans b5)
theorem st_str {args : Array Value} {s : State} {A : Nat → Prop} (hs : ∀ w ∈ flatC (Jvm.Cond.and given_1 narrow_1), w.before args s = true) (hts : ∀ w ∈ lw_tbl, w.before args s = true) (hA : ∀ a : Nat, a < s.heap.size → ¬ A a) : ∃ adK adV : Nat → Nat, vk_S 11 zSn zSb adK adV A s s.heap ∧ ∀ i, i < 11 → vk_R "PlanetDriveModel" (zSx.getD i 0) (zSw.getD i "") (adK i) s := by
  have h0 : ∀ i : Nat, ∃ q : Nat × Nat, i < 11 → (tmS i).eval args s none [] s = some (.ref q.1) ∧ va_O "java/lang/String" q.1 A s s.heap ∧ va_OF "java/lang/String" "coder" "B" (.int 0) q.1 A s s.heap ∧ va_OF "java/lang/String" "value" "[B" (.ref q.2) q.1 A s s.heap ∧ va_T .byte q.2 (zSn.getD i 0) (fun j => .int ((zSb.getD i []).getD j 0)) A s s.heap := by
    intro i
    by_cases hi : i < 11
    · obtain ⟨a, c, cell, k, q1, -⟩ := Cond.exactly_spec (hs _ (ns_1 i hi))
      obtain ⟨t, t1, t2⟩ := va_Tof (f := fun j => .int ((zSb.getD i []).getD j 0)) (ns_7 i hi) (hs _ (ns_3 i hi)) (va_eqt (hs _ (ns_4 i hi))) (fun j hj => va_eqt (hs _ (ns_5 i hi j hj))) hA
      exact ⟨(a, t), fun _ => ⟨q1, va_Oof (hs _ (ns_1 i hi)) q1 hA, vk_OFof q1 (va_eqt (hs _ (ns_2 i hi))) hA, vk_OFof q1 t1 hA, t2⟩⟩
    · exact ⟨(0, 0), fun h => absurd h hi⟩
  obtain ⟨ad, had⟩ := Classical.axiomOfChoice h0
  refine ⟨fun i => (ad i).1, fun i => (ad i).2, ⟨fun i hi => (had i hi).2, fun i j hi hj e => ?_⟩, fun i hi => vk_R.of (hts _ (ns_6 i hi)) (had i hi).1⟩
  by_cases hij : i = j
  · exact hij
  · exfalso
    have v1 := (had i hi).2.2.2.1
    have v2 := (had j hj).2.2.2.1
    have e : (ad i).1 = (ad j).1 := e
    rw [e] at v1
    have hv := va_OF_v v1 v2
    have hv2 : (ad i).2 = (ad j).2 := by injection hv
    obtain ⟨c1, a1, -, -, -, a2, a3, -⟩ := (had i hi).2.2.2.2
    obtain ⟨c2, b1, -, -, -, b2, b3, -⟩ := (had j hj).2.2.2.2
    rw [hv2] at a1
    have hc := Option.some.inj (a1.symm.trans b1)
    subst hc
    rcases ns_8 i hi j hj hij with h | ⟨b, -, h1, h2, h3⟩
    · exact h (a2.symm.trans b2)
    · have := Option.some.inj ((a3 b h1).symm.trans (b3 b h2))
      injection this with this
      exact h3 this
