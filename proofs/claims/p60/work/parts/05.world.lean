/-! the words that every contract rests on: the tables' good words, by their places -/
def zT : List Cond := lw_tbl.filter goodWord
theorem zT_mem {w : Cond} (i : Nat) (h : lw_tbl[i]? = some w) (g : goodWord w = true) : w ∈ zT := List.mem_filter.mpr ⟨List.mem_of_getElem? h, g⟩
theorem zT_good : GoodIn zT zT := fun _ h => ⟨h, good_of_word (List.mem_filter.mp h).2⟩
/-! the world: every cell lies at a fixed distance behind the first one; what moves are the ints, the longs and the doubles -/
abbrev zS : Type := (Nat → Nat → Int32) × (Nat → Nat → Int64) × (Nat → Nat → UInt64)
def gI (σ : zS) (k j : Nat) : Int32 := σ.1 k j
def gJ (σ : zS) (k j : Nat) : Int64 := σ.2.1 k j
def gD (σ : zS) (k j : Nat) : UInt64 := σ.2.2 k j
def sI (σ : zS) (k j : Nat) (v : Int32) : zS := (fun a b => if a = k ∧ b = j then v else σ.1 a b, σ.2)
def sJ (σ : zS) (k j : Nat) (v : Int64) : zS := (σ.1, fun a b => if a = k ∧ b = j then v else σ.2.1 a b, σ.2.2)
def sD (σ : zS) (k j : Nat) (v : UInt64) : zS := (σ.1, σ.2.1, fun a b => if a = k ∧ b = j then v else σ.2.2 a b)
theorem gI_sI (σ : zS) (k j : Nat) (v : Int32) (a b : Nat) : gI (sI σ k j v) a b = if a = k ∧ b = j then v else gI σ a b := rfl
theorem gI_sJ (σ : zS) (k j : Nat) (v : Int64) (a b : Nat) : gI (sJ σ k j v) a b = gI σ a b := rfl
theorem gI_sD (σ : zS) (k j : Nat) (v : UInt64) (a b : Nat) : gI (sD σ k j v) a b = gI σ a b := rfl
theorem gJ_sI (σ : zS) (k j : Nat) (v : Int32) (a b : Nat) : gJ (sI σ k j v) a b = gJ σ a b := rfl
theorem gJ_sJ (σ : zS) (k j : Nat) (v : Int64) (a b : Nat) : gJ (sJ σ k j v) a b = if a = k ∧ b = j then v else gJ σ a b := rfl
theorem gJ_sD (σ : zS) (k j : Nat) (v : UInt64) (a b : Nat) : gJ (sD σ k j v) a b = gJ σ a b := rfl
theorem gD_sI (σ : zS) (k j : Nat) (v : Int32) (a b : Nat) : gD (sI σ k j v) a b = gD σ a b := rfl
theorem gD_sJ (σ : zS) (k j : Nat) (v : Int64) (a b : Nat) : gD (sJ σ k j v) a b = gD σ a b := rfl
theorem gD_sD (σ : zS) (k j : Nat) (v : UInt64) (a b : Nat) : gD (sD σ k j v) a b = if a = k ∧ b = j then v else gD σ a b := rfl
theorem zS_ext {σ τ : zS} (h1 : ∀ a b, gI σ a b = gI τ a b) (h2 : ∀ a b, gJ σ a b = gJ τ a b) (h3 : ∀ a b, gD σ a b = gD τ a b) : σ = τ := by
  obtain ⟨a, b, c⟩ := σ
  obtain ⟨a', b', c'⟩ := τ
  have e1 : a = a' := funext fun x => funext fun y => h1 x y
  have e2 : b = b' := funext fun x => funext fun y => h2 x y
  have e3 : c = c' := funext fun x => funext fun y => h3 x y
  rw [e1, e2, e3]
/-- the surroundings: the classes' numbers and slots, the arrays' classes, the first cell, the constants' cells -/
abbrev zE : Type := va_G × (Nat → ClassId) × Nat × (Nat → Nat)
def ob (E : zE) (k : Nat) : Nat := E.2.2.1 + k
def cAt (E : zE) (i : Nat) : ClassId := E.2.1 i
def cad (E : zE) (i : Nat) : Nat := E.2.2.2 i
theorem ob_inj {E : zE} {a b : Nat} (h : ob E a = ob E b) : a = b := Nat.add_left_cancel h
/-- a place in a State's twenty cells -/
def zrel (k : Nat) : Nat := if 9 ≤ k ∧ k < 29 then k - 9 else if 34 ≤ k ∧ k < 54 then k - 34 else if 56 ≤ k ∧ k < 316 then (k - 56) % 20 else 20
def kdS (r : Nat) : Nat := if r = 0 then 6 else if r = 3 then 16 else if r = 1 ∨ r = 2 then 12 else if r % 2 = 0 then 8 else 12
def lenS (r : Nat) : Nat := if r = 1 then 16 else if r = 2 then 8 else if r = 3 then 8 else 12
def kdT : List (Nat × Nat) := [(0, 9), (1, 5), (2, 7), (3, 11), (4, 4), (5, 13), (6, 12), (7, 14), (8, 12), (29, 4), (30, 13), (31, 12), (32, 14), (33, 12), (54, 1), (55, 15), (316, 2), (317, 11), (318, 0), (319, 12), (320, 3), (321, 3), (322, 3), (323, 3), (324, 8), (325, 12), (326, 13)]
def lenT : List (Nat × Nat) := [(3, 900), (5, 8), (6, 8), (7, 8), (8, 8), (30, 8), (31, 8), (32, 8), (33, 8), (55, 12), (317, 1024), (319, 4), (325, 12), (326, 8)]
/-- the kind of the cell at a place: the class's number in vwCl, or 11 and on for arrays -/
def kd (k : Nat) : Nat := if zrel k < 20 then kdS (zrel k) else (kdT.lookup k).getD 99
def zlen (k : Nat) : Nat := if zrel k < 20 then lenS (zrel k) else (lenT.lookup k).getD 0
theorem kd_lt {k c : Nat} (h : kd k = c) (hc : c < 18) : k < 327 := by
  rcases Nat.lt_or_ge k 327 with q | q
  · exact q
  · exfalso
    have h1 : zrel k = 20 := by
      unfold zrel
      rw [if_neg (by omega), if_neg (by omega), if_neg (by omega)]
    have h2 : kdT.lookup k = none := by
      simp only [kdT, List.lookup]
      simp only [show ∀ n : Nat, n < 327 → (k == n) = false from fun n hn => by rw [beq_eq_false_iff_ne]; omega, Nat.reduceLT]
    unfold kd at h
    rw [h1, h2] at h
    simp at h
    omega
/-- what a place of a boolean array holds -/
def zbn (x : Int32) : Int32 := if x = 0 then 0 else 1
theorem zbn_or (x : Int32) : zbn x = 0 ∨ zbn x = 1 := by
  unfold zbn
  split
  · exact Or.inl rfl
  · exact Or.inr rfl
theorem zbn_of {x : Int32} (h : x = 0 ∨ x = 1) : zbn x = x := by
  rcases h with rfl | rfl <;> rfl
def zc (E : zE) (σ : zS) (k : Nat) : va_E :=
  if kd k = 0 then .inr (0, [.ref (ob E (k + 1)), .long (gJ σ k 1), .long (gJ σ k 2), .int (gI σ k 3), .long (gJ σ k 4), .long (gJ σ k 5), .int (gI σ k 6)])
  else if kd k = 1 then .inr (1, [.ref (ob E (k + 1)), .int (gI σ k 1), .int (gI σ k 2), .ref (ob E (k + 2)), .int (gI σ k 4)])
  else if kd k = 2 then .inr (2, [.ref (ob E (k + 1)), .int (gI σ k 1)])
  else if kd k = 3 then .inr (3, [.long (gJ σ k 0), .long (gJ σ k 1)])
  else if kd k = 4 then .inr (4, [.int (gI σ k 0), .int (gI σ k 1), .ref (ob E (k + 1)), .ref (ob E (k + 2)), .ref (ob E (k + 3)), .ref (ob E (k + 4))])
  else if kd k = 5 then .inr (5, [.ref (ob E (k + 1)), .ref (ob E (k + 3)), .ref (ob E (k + 8)), .int (gI σ k 3), .int (gI σ k 4), .int (gI σ k 5), .int (gI σ k 6), .int (gI σ k 7)])
  else if kd k = 6 then .inr (6, [.ref (ob E (k + 1)), .int (gI σ k 1), .int (gI σ k 2), .int (gI σ k 3), .ref (ob E (k + 2)), .ref (ob E (k + 3))])
  else if kd k = 7 then .inr (7, [.ref (ob E (k + 1)), .int (gI σ k 1), .int (gI σ k 2), .int (gI σ k 3), .int (gI σ k 4), .int (gI σ k 5), .long (gJ σ k 6)])
  else if kd k = 8 then .inr (8, [.ref (ob E (k + 1)), .int (gI σ k 1)])
  else if kd k = 9 then .inr (9, [.ref (ob E (k + 1)), .ref (ob E (k + 29)), .ref (ob E (k + 34)), .ref (ob E (k + 54)), .ref (ob E (k + 316)), .ref (ob E (k + 318)), .ref (ob E (k + 320)), .ref (ob E (k + 321)), .ref (ob E (k + 322)), .ref (ob E (k + 323)), .ref (ob E (k + 324)), .ref (ob E (k + 326))])
  else if kd k = 11 then .inl (cAt E 0, zlen k, .inl (gI σ k))
  else if kd k = 12 then .inl (cAt E 1, zlen k, .inl (gI σ k))
  else if kd k = 13 then .inl (cAt E 2, zlen k, .inr (.inl (gJ σ k)))
  else if kd k = 14 then .inl (cAt E 3, zlen k, .inl (fun j => zbn (gI σ k j)))
  else if kd k = 15 then .inl (cAt E 4, zlen k, .inr (.inr (.inr (.inr (fun i => some (ob E (k + 21 + 20 * i)))))))
  else if kd k = 16 then .inl (cAt E 5, zlen k, .inr (.inr (.inr (.inr (fun i => some (ob E (k + 1 + 2 * i)))))))
  else .inr (99, [])
def zW (E : zE) (σ : zS) : va_W := (List.range 327).map fun k => (ob E k, zc E σ k)
def zTy (E : zE) : List (ClassId × FieldType) := [(cAt E 0, .byte), (cAt E 1, .int), (cAt E 2, .long), (cAt E 3, .boolean), (cAt E 4, .object "PlanetDrive$State"), (cAt E 5, .object "PlanetDrive$Train")]
def zA (E : zE) : Nat → Prop := fun q => E.2.2.1 ≤ q ∧ q < E.2.2.1 + 327
theorem zW_at (E : zE) (σ : zS) {k : Nat} (h : k < 327) : (zW E σ)[k]? = some (ob E k, zc E σ k) := by
  unfold zW
  rw [List.getElem?_map, List.getElem?_range h]
  rfl
theorem zW_in {E : zE} {σ : zS} {i : Nat} {p : Nat × va_E} (h : (zW E σ)[i]? = some p) : i < 327 ∧ p = (ob E i, zc E σ i) := by
  have hi : i < 327 := by
    rcases Nat.lt_or_ge i 327 with q | q
    · exact q
    · rw [List.getElem?_eq_none (by simpa [zW] using q)] at h
      cases h
  rw [zW_at E σ hi] at h
  exact ⟨hi, (Option.some.inj h).symm⟩
theorem zW_D (E : zE) (σ : zS) : va_D (zA E) (zW E σ) := by
  refine ⟨fun i j p q hp hq hpq => ?_, fun k q hq => ?_⟩
  · obtain ⟨-, rfl⟩ := zW_in hp
    obtain ⟨-, rfl⟩ := zW_in hq
    exact ob_inj hpq
  · obtain ⟨hi, rfl⟩ := zW_in hq
    exact ⟨Nat.le_add_right _ _, Nat.add_lt_add_left hi _⟩
theorem zW_set {E : zE} {σ τ : zS} {k : Nat} {v : va_E} (h1 : zc E τ k = v) (h2 : ∀ j, j ≠ k → zc E τ j = zc E σ j) : (zW E σ).set k (ob E k, v) = zW E τ := by
  subst h1
  apply List.ext_getElem?
  intro i
  rw [List.getElem?_set]
  by_cases hi : k = i
  · subst hi
    rw [if_pos rfl]
    by_cases hk : k < 327
    · rw [if_pos (by simpa [zW] using hk), zW_at E τ hk]
    · rw [if_neg (by simpa [zW] using hk), List.getElem?_eq_none (by simpa [zW] using Nat.not_lt.mp hk)]
  · rw [if_neg hi]
    by_cases hk : i < 327
    · rw [zW_at E τ hk, zW_at E σ hk, h2 i (Ne.symm hi)]
    · rw [List.getElem?_eq_none (by simpa [zW] using Nat.not_lt.mp hk), List.getElem?_eq_none (by simpa [zW] using Nat.not_lt.mp hk)]
theorem gI_ne (σ : zS) {k k' : Nat} (j : Nat) (v : Int32) (h : k' ≠ k) : gI (sI σ k j v) k' = gI σ k' := funext fun b => by
  rw [gI_sI, if_neg (fun q => h q.1)]
theorem gJ_ne (σ : zS) {k k' : Nat} (j : Nat) (v : Int64) (h : k' ≠ k) : gJ (sJ σ k j v) k' = gJ σ k' := funext fun b => by
  rw [gJ_sJ, if_neg (fun q => h q.1)]
theorem gD_ne (σ : zS) {k k' : Nat} (j : Nat) (v : UInt64) (h : k' ≠ k) : gD (sD σ k j v) k' = gD σ k' := funext fun b => by
  rw [gD_sD, if_neg (fun q => h q.1)]
theorem zc_cong {E : zE} {σ τ : zS} {k : Nat} (h1 : gI τ k = gI σ k) (h2 : gJ τ k = gJ σ k) (h3 : gD τ k = gD σ k) : zc E τ k = zc E σ k := by
  unfold zc
  rw [h1, h2, h3]
theorem zc_sI (E : zE) (σ : zS) (k j : Nat) (v : Int32) : ∀ k', k' ≠ k → zc E (sI σ k j v) k' = zc E σ k' := fun _ h => zc_cong (gI_ne σ j v h) rfl rfl
theorem zc_sJ (E : zE) (σ : zS) (k j : Nat) (v : Int64) : ∀ k', k' ≠ k → zc E (sJ σ k j v) k' = zc E σ k' := fun _ h => zc_cong rfl (gJ_ne σ j v h) rfl
theorem zc_sD (E : zE) (σ : zS) (k j : Nat) (v : UInt64) : ∀ k', k' ≠ k → zc E (sD σ k j v) k' = zc E σ k' := fun _ h => zc_cong rfl rfl (gD_ne σ j v h)
theorem zup_I (σ : zS) (k j : Nat) (v : Int32) : gI (sI σ k j v) k = upd (gI σ k) j v := funext fun b => by
  rw [gI_sI]
  simp [upd]
theorem zup_J (σ : zS) (k j : Nat) (v : Int64) : gJ (sJ σ k j v) k = vp_updL (gJ σ k) j v := funext fun b => by
  rw [gJ_sJ]
  simp [vp_updL]
theorem zup_D (σ : zS) (k j : Nat) (v : UInt64) : gD (sD σ k j v) k = vf_upd (gD σ k) j v := funext fun b => by
  rw [gD_sD]
  simp [vf_upd]
theorem zc_0 {E : zE} {σ : zS} {k : Nat} (h : kd k = 0) : zc E σ k = .inr (0, [.ref (ob E (k + 1)), .long (gJ σ k 1), .long (gJ σ k 2), .int (gI σ k 3), .long (gJ σ k 4), .long (gJ σ k 5), .int (gI σ k 6)]) := by simp [zc, h]
theorem zc_1 {E : zE} {σ : zS} {k : Nat} (h : kd k = 1) : zc E σ k = .inr (1, [.ref (ob E (k + 1)), .int (gI σ k 1), .int (gI σ k 2), .ref (ob E (k + 2)), .int (gI σ k 4)]) := by simp [zc, h]
theorem zc_2 {E : zE} {σ : zS} {k : Nat} (h : kd k = 2) : zc E σ k = .inr (2, [.ref (ob E (k + 1)), .int (gI σ k 1)]) := by simp [zc, h]
theorem zc_3 {E : zE} {σ : zS} {k : Nat} (h : kd k = 3) : zc E σ k = .inr (3, [.long (gJ σ k 0), .long (gJ σ k 1)]) := by simp [zc, h]
theorem zc_4 {E : zE} {σ : zS} {k : Nat} (h : kd k = 4) : zc E σ k = .inr (4, [.int (gI σ k 0), .int (gI σ k 1), .ref (ob E (k + 1)), .ref (ob E (k + 2)), .ref (ob E (k + 3)), .ref (ob E (k + 4))]) := by simp [zc, h]
theorem zc_5 {E : zE} {σ : zS} {k : Nat} (h : kd k = 5) : zc E σ k = .inr (5, [.ref (ob E (k + 1)), .ref (ob E (k + 3)), .ref (ob E (k + 8)), .int (gI σ k 3), .int (gI σ k 4), .int (gI σ k 5), .int (gI σ k 6), .int (gI σ k 7)]) := by simp [zc, h]
theorem zc_6 {E : zE} {σ : zS} {k : Nat} (h : kd k = 6) : zc E σ k = .inr (6, [.ref (ob E (k + 1)), .int (gI σ k 1), .int (gI σ k 2), .int (gI σ k 3), .ref (ob E (k + 2)), .ref (ob E (k + 3))]) := by simp [zc, h]
theorem zc_7 {E : zE} {σ : zS} {k : Nat} (h : kd k = 7) : zc E σ k = .inr (7, [.ref (ob E (k + 1)), .int (gI σ k 1), .int (gI σ k 2), .int (gI σ k 3), .int (gI σ k 4), .int (gI σ k 5), .long (gJ σ k 6)]) := by simp [zc, h]
theorem zc_8 {E : zE} {σ : zS} {k : Nat} (h : kd k = 8) : zc E σ k = .inr (8, [.ref (ob E (k + 1)), .int (gI σ k 1)]) := by simp [zc, h]
theorem zc_9 {E : zE} {σ : zS} {k : Nat} (h : kd k = 9) : zc E σ k = .inr (9, [.ref (ob E (k + 1)), .ref (ob E (k + 29)), .ref (ob E (k + 34)), .ref (ob E (k + 54)), .ref (ob E (k + 316)), .ref (ob E (k + 318)), .ref (ob E (k + 320)), .ref (ob E (k + 321)), .ref (ob E (k + 322)), .ref (ob E (k + 323)), .ref (ob E (k + 324)), .ref (ob E (k + 326))]) := by simp [zc, h]
theorem zc_11 {E : zE} {σ : zS} {k : Nat} (h : kd k = 11) : zc E σ k = .inl (cAt E 0, zlen k, .inl (gI σ k)) := by simp [zc, h]
theorem zc_12 {E : zE} {σ : zS} {k : Nat} (h : kd k = 12) : zc E σ k = .inl (cAt E 1, zlen k, .inl (gI σ k)) := by simp [zc, h]
theorem zc_13 {E : zE} {σ : zS} {k : Nat} (h : kd k = 13) : zc E σ k = .inl (cAt E 2, zlen k, .inr (.inl (gJ σ k))) := by simp [zc, h]
theorem zc_14 {E : zE} {σ : zS} {k : Nat} (h : kd k = 14) : zc E σ k = .inl (cAt E 3, zlen k, .inl (fun j => zbn (gI σ k j))) := by simp [zc, h]
theorem zc_15 {E : zE} {σ : zS} {k : Nat} (h : kd k = 15) : zc E σ k = .inl (cAt E 4, zlen k, .inr (.inr (.inr (.inr (fun i => some (ob E (k + 21 + 20 * i))))))) := by simp [zc, h]
theorem zc_16 {E : zE} {σ : zS} {k : Nat} (h : kd k = 16) : zc E σ k = .inl (cAt E 5, zlen k, .inr (.inr (.inr (.inr (fun i => some (ob E (k + 1 + 2 * i))))))) := by simp [zc, h]
