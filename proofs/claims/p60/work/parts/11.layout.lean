/-! where the parts of a Train, a State lie -/
theorem ztr_all : ∀ k, k < 327 → kd k = 8 → kd (k + 1) = 12 ∧ zlen (k + 1) = 12 := by decide +kernel
theorem ztr {k : Nat} (h : kd k = 8) : kd (k + 1) = 12 ∧ zlen (k + 1) = 12 := ztr_all k (kd_lt h (by decide)) h
theorem zst_all : ∀ k, k < 327 → kd k = 6 → (kd (k + 1) = 12 ∧ zlen (k + 1) = 16) ∧ (kd (k + 2) = 12 ∧ zlen (k + 2) = 8) ∧ (kd (k + 3) = 16 ∧ zlen (k + 3) = 8) ∧ ∀ j, j < 8 → kd (k + 4 + 2 * j) = 8 ∧ kd (k + 5 + 2 * j) = 12 ∧ zlen (k + 5 + 2 * j) = 12 := by decide +kernel
theorem zst {k : Nat} (h : kd k = 6) : (kd (k + 1) = 12 ∧ zlen (k + 1) = 16) ∧ (kd (k + 2) = 12 ∧ zlen (k + 2) = 8) ∧ (kd (k + 3) = 16 ∧ zlen (k + 3) = 8) ∧ ∀ j, j < 8 → kd (k + 4 + 2 * j) = 8 ∧ kd (k + 5 + 2 * j) = 12 ∧ zlen (k + 5 + 2 * j) = 12 := zst_all k (kd_lt h (by decide)) h
theorem zsu_all : ∀ k, k < 327 → kd k = 4 → (kd (k + 1) = 13 ∧ zlen (k + 1) = 8) ∧ (kd (k + 2) = 12 ∧ zlen (k + 2) = 8) ∧ (kd (k + 3) = 14 ∧ zlen (k + 3) = 8) ∧ (kd (k + 4) = 12 ∧ zlen (k + 4) = 8) := by decide +kernel
theorem zsu {k : Nat} (h : kd k = 4) : (kd (k + 1) = 13 ∧ zlen (k + 1) = 8) ∧ (kd (k + 2) = 12 ∧ zlen (k + 2) = 8) ∧ (kd (k + 3) = 14 ∧ zlen (k + 3) = 8) ∧ (kd (k + 4) = 12 ∧ zlen (k + 4) = 8) := zsu_all k (kd_lt h (by decide)) h
/-- a train at k: n parts, what stands in their cells -/
def zTr (σ : zS) (k n : Nat) (c : Nat → Nat → Nat) : Prop := gI σ k 1 = zI n ∧ n ≤ 4 ∧ (∀ i w, i < n → w < 3 → gI σ (k + 1) (3 * i + w) = zI (c i w)) ∧ ∀ i w, i < n → w < 3 → c i w ≤ 100
theorem zV_go {p : Program} {l : Launch} {e : Env} {R : Room} {s : State} {m : MethodId} {args : Array Value} {below : List Frame} {meth : Method} {c : Code} {nL : Nat} {E : zE} {Q : State → Prop} {σ : zS} {vs : List Value} (hd : zWd E σ s) (hn : (lg_sl vs).length ≤ nL) {lv : List (Nat × Value)} (hlv : lv_args 0 vs = lv) (k : zV p l e R s m args below meth c nL E Q 0 0 σ 0 lv []) : W p l e R s m args below meth c s.heap [] 0 0 Q (entryFrame m vs.toArray nL) := zV_start (s₁ := s) hd hn hlv k
theorem zv_while {p : Program} {l : Launch} {e : Env} {R : Room} {s : State} {m : MethodId} {args : Array Value} {below : List Frame} {meth : Method} {c : Code} {nL : Nat} {E : zE} {Q : State → Prop} {ce sl pc : Nat} {α : Type} (μ : α → Nat) (Inv : α → Prop) (F : α → zS) (L : α → List (Nat × Value)) (T : α → List Value)
    (hstep : ∀ v, Inv v → (∀ v', Inv v' → μ v' < μ v → zV p l e R s m args below meth c nL E Q ce sl (F v') pc (L v') (T v')) → zV p l e R s m args below meth c nL E Q ce sl (F v) pc (L v) (T v)) : ∀ v, Inv v → zV p l e R s m args below meth c nL E Q ce sl (F v) pc (L v) (T v) := by
  have key : ∀ n v, μ v ≤ n → Inv v → zV p l e R s m args below meth c nL E Q ce sl (F v) pc (L v) (T v) := by
    intro n
    induction n with
    | zero => intro v hv hI; exact hstep v hI (fun v' _ h => absurd h (by omega))
    | succ n ih => intro v hv hI; exact hstep v hI (fun v' hI' h => ih v' (by omega) hI')
  exact fun v hI => key (μ v) v (Nat.le_refl _) hI
abbrev zB (P : Prop) [Decidable P] : Int32 := if P then zI 1 else zI 0
theorem zB_t {P : Prop} [Decidable P] (h : P) : zB P = zI 1 := if_pos h
theorem zB_f {P : Prop} [Decidable P] (h : ¬ P) : zB P = zI 0 := if_neg h
theorem zB_nar {P : Prop} [Decidable P] : narrow .boolean (.int (zB P)) = .int (zB P) := by
  unfold zB
  split <;> rfl
section
variable {p : Program} {l : Launch} {e : Env} {R : Room} {s : State} {m : MethodId} {args : Array Value} {below : List Frame} {meth : Method} {c : Code} {cc : ByteArray} {own : String} {nL : Nat} {E : zE} {Q : State → Prop} {ce sl : Nat} {σ : zS} {pc : Nat} {lv : List (Nat × Value)} {st : List Value}
theorem zv_if_eqB (C : zX p l s m args meth c cc own nL E) {P : Prop} [Decidable P] {off : Int} {tgt : Nat} (hdg : decode cc pc = .ok (.ifCond .eq off, 3)) (ht : (pc : Int) + off = (tgt : Int)) (kt : ¬ P → zV p l e R s m args below meth c nL E Q ce sl σ tgt lv st) (kf : P → zV p l e R s m args below meth c nL E Q ce sl σ (pc + 3) lv st) : zV p l e R s m args below meth c nL E Q ce sl σ pc lv (.int (zB P) :: st) := by
  by_cases h : P
  · rw [zB_t h]
    exact zv_if_eqZ C (by omega) hdg ht (fun q => absurd q (by decide)) (fun _ => kf h)
  · rw [zB_f h]
    exact zv_if_eqZ C (by omega) hdg ht (fun _ => kt h) (fun q => absurd rfl q)
theorem zv_if_neB (C : zX p l s m args meth c cc own nL E) {P : Prop} [Decidable P] {off : Int} {tgt : Nat} (hdg : decode cc pc = .ok (.ifCond .ne off, 3)) (ht : (pc : Int) + off = (tgt : Int)) (kt : P → zV p l e R s m args below meth c nL E Q ce sl σ tgt lv st) (kf : ¬ P → zV p l e R s m args below meth c nL E Q ce sl σ (pc + 3) lv st) : zV p l e R s m args below meth c nL E Q ce sl σ pc lv (.int (zB P) :: st) := by
  by_cases h : P
  · rw [zB_t h]
    exact zv_if_neZ C (by omega) hdg ht (fun _ => kt h) (fun q => absurd q (by decide))
  · rw [zB_f h]
    exact zv_if_neZ C (by omega) hdg ht (fun q => absurd rfl q) (fun _ => kf h)
end
theorem zcons {i : Nat} {v v' : Value} {l l' : List (Nat × Value)} (h : v = v') (hl : l = l') : (i, v) :: l = (i, v') :: l' := by rw [h, hl]
theorem zqI {a b : Int} (h : a = b) : Value.int (zI a) = Value.int (zI b) := by rw [h]
theorem zqL {a b : Int} (h : a = b) : Value.long (zL a) = Value.long (zL b) := by rw [h]
theorem zqi {a b : Int32} (h : a = b) : Value.int a = Value.int b := by rw [h]
theorem zql {a b : Int64} (h : a = b) : Value.long a = Value.long b := by rw [h]
theorem zqa {a b : Nat} (h : a = b) : Value.ref a = Value.ref b := by rw [h]
