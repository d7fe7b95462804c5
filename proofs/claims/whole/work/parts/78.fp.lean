/-! doubles and floats: returned, divided, compared -/
def zRdd (l : Launch) (E : zE) (y : MethodName) (cc : ByteArray) (nL : Nat) (rm : Room) (As : List Value) (σ : zS) (post : UInt64 → zS → Prop) : Prop := Met l y (zws y cc nL (some .double)) rm (va_Pc As (zWd E σ)) (va_Qd post (zWp E) (zA E)) 0 0 (zA E)
section
variable {p : Program} {l : Launch} {e : Env} {R : Room} {s : State} {m : MethodId} {args : Array Value} {below : List Frame} {meth : Method} {c : Code} {cc : ByteArray} {own : String} {nL : Nat} {E : zE} {Q : State → Prop} {ce sl : Nat} {σ : zS} {pc : Nat} {lv : List (Nat × Value)} {st lv0 : List Value}
variable {y : MethodName} {cy : ByteArray} {nY : Nat} {rm : Room} {As : List Value}
theorem zv_dret (C : zX p l s m args meth c cc own nL E) {v : UInt64} {post : UInt64 → zS → Prop} (hr : meth.sig.returnType = some .double) (hdg : decode cc pc = .ok (.dreturn, 1)) (h : post v σ) : zV p l e R s m args below meth c nL E (MQ below (va_Qd post (zWp E) (zA E)) args s 0 0 (zA E)) 0 0 σ pc lv [.double v] := fun H locs ls hP hS hl => W.dret C.exec C.code hr (fun t ht _ => ⟨⟨v, σ, rfl, h, by show va_P _ _ _ t.heap; rw [ht]; exact hP⟩, hS.F ht⟩) hS.2.2 hdg C.locks
theorem zv_cvd (C : zX p l s m args meth c cc own nL E) {post : UInt64 → zS → Prop} {n ix ci k : Nat} (hM : zRdd l E y cy nY rm (.ref (ob E k) :: As) σ post) (hm : zMv y cy nY (some .double) n) (hlink : Cond.methodLink own ix y ∈ zT) (hk : kd k = ci) {q : vw_C} (hc : vwCl[ci]? = some q) (hq : q.1 = y.cls) (hn : As.length = n) (hrm : rm.cells = 0 ∧ rm.slots = 0) (hR : zfit rm nY R = true) (hcat : (st.map fun v => v.category).sum ≤ 8) (hdg : decode cc pc = .ok (.invokevirtual ix, 3)) (hf : ce ≤ R.cells ∧ sl ≤ R.slots) (kk : ∀ (r : UInt64) (τ : zS), post r τ → zV p l e R s m args below meth c nL E Q ce sl τ (pc + 3) lv (.double r :: st)) : zV p l e R s m args below meth c nL E Q ce sl σ pc lv (As.reverse ++ .ref (ob E k) :: st) := fun H locs ls hP hS hl =>
  va_calld (zrunV C hP hS hl hM hm hlink hk hc hq hn hrm hR hcat hdg hf) hS (fun _ _ h => h) (fun _ h => h) (fun r u t H1 locs1 ht _ hp hB _ _ hS1 => kk r u hp H1 locs1 ls (by rw [← ht]; exact hB) hS1 hl)
theorem zv_csd (C : zX p l s m args meth c cc own nL E) {post : UInt64 → zS → Prop} {n ix : Nat} (hM : zRdd l E y cy nY rm As σ post) (hm : zMst y cy nY (some .double) n) (hlink : Cond.methodLink own ix y ∈ zT) (hn : As.length = n) (hrm : rm.cells = 0 ∧ rm.slots = 0) (hR : zfit rm nY R = true) (hcat : (st.map fun v => v.category).sum ≤ 8) (hdg : decode cc pc = .ok (.invokestatic ix, 3)) (hf : ce ≤ R.cells ∧ sl ≤ R.slots) (kk : ∀ (r : UInt64) (τ : zS), post r τ → zV p l e R s m args below meth c nL E Q ce sl τ (pc + 3) lv (.double r :: st)) : zV p l e R s m args below meth c nL E Q ce sl σ pc lv (As.reverse ++ st) := fun H locs ls hP hS hl =>
  va_calld (zrunS C hP hS hl hM hm hlink hn hrm hR hcat hdg hf) hS (fun _ _ h => h) (fun _ h => h) (fun r u t H1 locs1 ht _ hp hB _ _ hS1 => kk r u hp H1 locs1 ls (by rw [← ht]; exact hB) hS1 hl)
variable {ce sl : Nat} {Q : State → Prop}
theorem zv_ddiv (C : zX p l s m args meth c cc own nL E) {x y : UInt64} (hdg : decode cc pc = .ok (.ddiv, 1)) (hne : vf_n64 (FP.ddiv x y)) (kk : zV p l e R s m args below meth c nL E Q ce sl σ (pc + 1) lv (.double (FP.ddiv x y) :: st)) : zV p l e R s m args below meth c nL E Q ce sl σ pc lv (.double y :: .double x :: st) := fun H locs ls hP hS hl => lv_ddiv C.exec C.code hdg hne (kk H locs ls hP hS hl)
theorem zv_fdiv (C : zX p l s m args meth c cc own nL E) {x y : UInt32} (hdg : decode cc pc = .ok (.fdiv, 1)) (hne : vf_n32 (FP.fdiv x y)) (kk : zV p l e R s m args below meth c nL E Q ce sl σ (pc + 1) lv (.float (FP.fdiv x y) :: st)) : zV p l e R s m args below meth c nL E Q ce sl σ pc lv (.float y :: .float x :: st) := fun H locs ls hP hS hl => lv_fdiv C.exec C.code hdg hne (kk H locs ls hP hS hl)
theorem zv_f2d (C : zX p l s m args meth c cc own nL E) {x : UInt32} (hdg : decode cc pc = .ok (.f2d, 1)) (hne : vf_n64 (FP.f2d x)) (kk : zV p l e R s m args below meth c nL E Q ce sl σ (pc + 1) lv (.double (FP.f2d x) :: st)) : zV p l e R s m args below meth c nL E Q ce sl σ pc lv (.float x :: st) := fun H locs ls hP hS hl => lv_f2d C.exec C.code hdg hne (kk H locs ls hP hS hl)
theorem zv_fconst1 (C : zX p l s m args meth c cc own nL E) (hdg : decode cc pc = .ok (.fconst 1, 1)) (kk : zV p l e R s m args below meth c nL E Q ce sl σ (pc + 1) lv (.float FP.fconst1 :: st)) : zV p l e R s m args below meth c nL E Q ce sl σ pc lv st := fun H locs ls hP hS hl => lv_fconst1 C.exec C.code hdg (kk H locs ls hP hS hl)
end
section
variable {p : Program} {l : Launch} {e : Env} {R : Room} {s : State} {m : MethodId} {args : Array Value} {below : List Frame} {meth : Method} {c : Code} {cc : ByteArray} {own : String} {nL : Nat} {E : zE} {Q : State → Prop} {ce sl : Nat} {σ : zS} {pc : Nat} {lv : List (Nat × Value)} {st : List Value}
variable {y : MethodName} {cy : ByteArray} {nY : Nat} {rm : Room} {As : List Value}
theorem zv_cvdD (C : zX p l s m args meth c cc own nL E) {r0 : UInt64} {τ0 : zS} {n ix ci k : Nat} (hM : zRdd l E y cy nY rm (.ref (ob E k) :: As) σ (fun r τ => r = r0 ∧ τ = τ0)) (hm : zMv y cy nY (some .double) n) (hlink : Cond.methodLink own ix y ∈ zT) (hk : kd k = ci) {q : vw_C} (hc : vwCl[ci]? = some q) (hq : q.1 = y.cls) (hn : As.length = n) (hrm : rm.cells = 0 ∧ rm.slots = 0) (hR : zfit rm nY R = true) (hcat : (st.map fun v => v.category).sum ≤ 8) (hdg : decode cc pc = .ok (.invokevirtual ix, 3)) (hf : ce ≤ R.cells ∧ sl ≤ R.slots) (kk : zV p l e R s m args below meth c nL E Q ce sl τ0 (pc + 3) lv (.double r0 :: st)) : zV p l e R s m args below meth c nL E Q ce sl σ pc lv (As.reverse ++ .ref (ob E k) :: st) :=
  zv_cvd C hM hm hlink hk hc hq hn hrm hR hcat hdg hf (fun r τ h => by rw [h.1, h.2]; exact kk)
theorem zv_csdD (C : zX p l s m args meth c cc own nL E) {r0 : UInt64} {τ0 : zS} {n ix : Nat} (hM : zRdd l E y cy nY rm As σ (fun r τ => r = r0 ∧ τ = τ0)) (hm : zMst y cy nY (some .double) n) (hlink : Cond.methodLink own ix y ∈ zT) (hn : As.length = n) (hrm : rm.cells = 0 ∧ rm.slots = 0) (hR : zfit rm nY R = true) (hcat : (st.map fun v => v.category).sum ≤ 8) (hdg : decode cc pc = .ok (.invokestatic ix, 3)) (hf : ce ≤ R.cells ∧ sl ≤ R.slots) (kk : zV p l e R s m args below meth c nL E Q ce sl τ0 (pc + 3) lv (.double r0 :: st)) : zV p l e R s m args below meth c nL E Q ce sl σ pc lv (As.reverse ++ st) :=
  zv_csd C hM hm hlink hn hrm hR hcat hdg hf (fun r τ h => by rw [h.1, h.2]; exact kk)
end
/-- what is wanted of the doubles: proved where the whole library is read -/
def zFN : Prop := (∀ a b : Int, -9223372036854775808 ≤ a ∧ a < 9223372036854775808 → 1 ≤ b ∧ b < 9223372036854775808 → vf_n64 (FP.ddiv (FP.l2d (zL a)) (FP.l2d (zL b)))) ∧
  (∀ a b c d : Int, -9223372036854775808 ≤ a ∧ a < 9223372036854775808 → 1 ≤ b ∧ b < 9223372036854775808 → -9223372036854775808 ≤ c ∧ c < 9223372036854775808 → c ≠ 0 → 1 ≤ d ∧ d < 9223372036854775808 → vf_n64 (FP.ddiv (FP.ddiv (FP.l2d (zL a)) (FP.l2d (zL b))) (FP.ddiv (FP.l2d (zL c)) (FP.l2d (zL d)))))
theorem vf8 : ∀ a, a < 9 → ∀ b, b < 9 → 1 ≤ b → FP.fdiv (FP.i2f (zI ((a : Nat) : Int))) (FP.i2f (zI ((b : Nat) : Int))) &&& 0x7fffffff ≤ 0x7f800000 := by decide +kernel
theorem nan_f {a b : Nat} (ha : a ≤ 8) (hb : 1 ≤ b ∧ b ≤ 8) : vf_n32 (FP.fdiv (FP.i2f (zI (a : Int))) (FP.i2f (zI (b : Int)))) := vf8 a (by omega) b (by omega) hb.1
theorem qDue_0 {σ : zS} {k : Nat} {U : zSU} (h : zSUp σ k U) {i : Nat} (hi : i < U.nb) : (qDue U i).1 ≠ 0 := by
  have hp := (h.2.2.2.2 i hi).2.2.2.2.1
  intro h0
  have hr : rtT U i ≠ 0 ∧ (rtT U i).natAbs ≤ 100 := by unfold rtT; split <;> decide
  have hg : Nat.gcd (rtT U i).natAbs ((U.pe i : Int)).natAbs ≤ (rtT U i).natAbs := Nat.gcd_le_left _ (by omega)
  have h1 : (rT (rtT U i) (U.pe i)).natAbs = 0 := by
    have : rT (rtT U i) (U.pe i) = 0 := h0
    rw [this]; rfl
  unfold rT at h1
  rw [Int.natAbs_tdiv, Int.natAbs_natCast] at h1
  have h2 : 1 ≤ (rtT U i).natAbs / rG (rtT U i) (U.pe i) := Nat.div_pos (by unfold rG; omega) (rG_pos _ _)
  exact absurd (Nat.le_trans h2 (Nat.le_of_eq h1)) (by decide)
def dAcc (U : zSU) (S : zST) (i : Nat) : UInt64 := FP.ddiv (FP.ddiv (FP.l2d (zL (qPtr U S i).1)) (FP.l2d (zL (qPtr U S i).2))) (FP.ddiv (FP.l2d (zL (qDue U i).1)) (FP.l2d (zL (qDue U i).2)))
def dGd (U : zSU) (S : zST) (y lim : Int) : Nat → Nat
  | 0 => 0
  | j + 1 => if ((qErr U S j y).natAbs : Int) ≤ lim then dGd U S y lim j + 1 else dGd U S y lim j
theorem dGd_le (U : zSU) (S : zST) (y lim : Int) (j : Nat) : dGd U S y lim j ≤ j := by
  induction j with
  | zero => exact Nat.le_refl _
  | succ j ih => simp only [dGd]; split <;> omega
def dGs (U : zSU) (S : zST) (y lim : Int) : UInt32 := if U.nb = 0 then FP.fconst1 else FP.fdiv (FP.i2f (zI (dGd U S y lim U.nb : Int))) (FP.i2f (zI (U.nb : Int)))
