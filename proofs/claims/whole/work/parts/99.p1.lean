/-! a world under way: the cells from the k0th on, as far as they are made; how the constructors work on it -/
def zpW (E : zE) (k0 : Nat) (cw : Nat → va_E) (n : Nat) : va_W := (List.range n).map fun j => (ob E (k0 + j), cw j)
def zAk (E : zE) (k0 : Nat) : Nat → Prop := fun q => ob E k0 ≤ q
def zP (E : zE) (k0 : Nat) (cw : Nat → va_E) (n : Nat) (H : Heap) : Prop := H.size = ob E (k0 + n) ∧ va_P E.1 vwCl (zpW E k0 cw n) H
def zU (cw : Nat → va_E) (k : Nat) (e : va_E) : Nat → va_E := fun j => if j = k then e else cw j
theorem zpW_at {E : zE} {k0 : Nat} {cw : Nat → va_E} {n j : Nat} (h : j < n) : (zpW E k0 cw n)[j]? = some (ob E (k0 + j), cw j) := by
  unfold zpW
  rw [List.getElem?_map, List.getElem?_range h]
  rfl
theorem zpW_in {E : zE} {k0 : Nat} {cw : Nat → va_E} {n i : Nat} {q : Nat × va_E} (h : (zpW E k0 cw n)[i]? = some q) : i < n ∧ q = (ob E (k0 + i), cw i) := by
  have hi : i < n := by
    rcases Nat.lt_or_ge i n with g | g
    · exact g
    · rw [List.getElem?_eq_none (by simpa [zpW] using g)] at h
      cases h
  rw [zpW_at hi] at h
  exact ⟨hi, (Option.some.inj h).symm⟩
theorem zpW_D (E : zE) (k0 : Nat) (cw : Nat → va_E) (n : Nat) : va_D (zAk E k0) (zpW E k0 cw n) := by
  refine ⟨fun i j q r hq hr hqr => ?_, fun k q hq => ?_⟩
  · obtain ⟨-, rfl⟩ := zpW_in hq
    obtain ⟨-, rfl⟩ := zpW_in hr
    have h : ob E (k0 + i) = ob E (k0 + j) := hqr
    unfold ob at h
    omega
  · obtain ⟨-, rfl⟩ := zpW_in hq
    show ob E k0 ≤ ob E (k0 + k)
    unfold ob
    omega
theorem zP_lt {E : zE} {k0 : Nat} {cw : Nat → va_E} {n i : Nat} {H : Heap} (h : zP E k0 cw n H) (hi : i < n) : ob E (k0 + i) < H.size := by
  rw [h.1]
  unfold ob
  omega
theorem zP_push {E : zE} {k0 : Nat} {cw : Nat → va_E} {n : Nat} {H H1 : Heap} {x : va_E} (hP : zP E k0 cw n H) (z1 : H1.size = H.size + 1) (o1 : ∀ q : Nat, q < H.size → H1[q]? = H[q]?) (hx : va_at E.1 vwCl (H.size, x) H1) : zP E k0 (zU cw n x) (n + 1) H1 := by
  refine ⟨by rw [z1, hP.1]; rfl, fun i q hq => ?_⟩
  obtain ⟨hi, rfl⟩ := zpW_in hq
  unfold zU
  by_cases g : i = n
  · subst g
    rw [if_pos rfl, ← hP.1]
    exact hx
  · rw [if_neg g]
    exact (hP.2 i _ (zpW_at (by omega))).kept (o1 _ (zP_lt hP (by omega)))
theorem zP_set {E : zE} {k0 : Nat} {cw : Nat → va_E} {n i : Nat} {H H1 : Heap} {x : va_E} (hP : zP E k0 cw n H) (z1 : H1.size = H.size) (o1 : ∀ q : Nat, q ≠ ob E (k0 + i) → H1[q]? = H[q]?) (hx : va_at E.1 vwCl (ob E (k0 + i), x) H1) : zP E k0 (zU cw i x) n H1 := by
  refine ⟨by rw [z1, hP.1], fun j q hq => ?_⟩
  obtain ⟨hj, rfl⟩ := zpW_in hq
  unfold zU
  by_cases g : j = i
  · subst g
    rw [if_pos rfl]
    exact hx
  · rw [if_neg g]
    exact (hP.2 j _ (zpW_at hj)).kept (o1 _ (by show ob E (k0 + j) ≠ ob E (k0 + i); unfold ob; omega))
theorem zP_cong {E : zE} {k0 : Nat} {cw cw' : Nat → va_E} {n : Nat} {H : Heap} (hP : zP E k0 cw n H) (h : ∀ j, j < n → cw j = cw' j) : zP E k0 cw' n H := ⟨hP.1, fun i q hq => by
  obtain ⟨hi, rfl⟩ := zpW_in hq
  rw [← h i hi]
  exact hP.2 i _ (zpW_at hi)⟩
theorem zP_fat {E : zE} {k0 : Nat} {cw : Nat → va_E} {n : Nat} {H : Heap} (hz : H.size = ob E (k0 + n)) (h : ∀ j, j < n → va_at E.1 vwCl (ob E (k0 + j), cw j) H) : zP E k0 cw n H := ⟨hz, fun i q hq => by
  obtain ⟨hi, rfl⟩ := zpW_in hq
  exact h i hi⟩
theorem zP_at {E : zE} {k0 : Nat} {cw : Nat → va_E} {n j : Nat} {H : Heap} (hP : zP E k0 cw n H) (h : j < n) : va_at E.1 vwCl (ob E (k0 + j), cw j) H := hP.2 j _ (zpW_at h)
/-- rows of references that agree as far as they reach -/
theorem va_q {D : va_G} {cl : List vw_C} {a N : Nat} {cA : ClassId} {f g : Nat → Option Nat} {H : Heap} (h : ∀ i, i < N → f i = g i) (hat : va_at D cl (a, .inl (cA, N, .inr (.inr (.inr (.inr f))))) H) : va_at D cl (a, .inl (cA, N, .inr (.inr (.inr (.inr g))))) H := by
  have h1 : H[a]? = some (vp_cell cA (N, .inr (.inr (.inr (.inr f))))) := hat
  show H[a]? = some (vp_cell cA (N, .inr (.inr (.inr (.inr g)))))
  rw [h1, vp_cell_q, vp_cell_q]
  unfold arrV
  congr 2
  apply congrArg
  funext j
  exact congrArg va_rf (h j.1 j.2)
/-- what the tables say of the classes -/
def zKn (E : zE) (U : State) : Prop := va_K E.1 vwCl (zTy E) U ∧ va_AO "PlanetDrive$State" U ∧ va_AO "PlanetDrive$Train" U ∧ ∀ w ∈ zNw, va_Nw w U
theorem zKn.moved {E : zE} {u U : State} (hW : u.WarmedH U.vm) (h : zKn E u) : zKn E U := ⟨va_K.moved hW.alike h.1, va_AO.moved hW.alike h.2.1, va_AO.moved hW.alike h.2.2.1, fun w hw => zNw_warm hW w hw (h.2.2.2 w hw)⟩
def zYx (p : Program) (l : Launch) (s : State) (m : MethodId) (args : Array Value) (meth : Method) (c : Code) (cc : ByteArray) (own : String) (nL : Nat) (E : zE) (k0 : Nat) : Prop :=
  p.tables.exec = Jvm.exec ∧ c.code = cc ∧ c.maxLocals = nL ∧ s.vm.findClass own = some m.cls ∧ (∀ w ∈ zT, w.before args s = true) ∧ zKn E s ∧ ob E k0 ≤ s.heap.size ∧ meth.locks = false
theorem zYx.exec {p : Program} {l : Launch} {s : State} {m : MethodId} {args : Array Value} {meth : Method} {c : Code} {cc : ByteArray} {own : String} {nL : Nat} {E : zE} {k0 : Nat} (C : zYx p l s m args meth c cc own nL E k0) : p.tables.exec = Jvm.exec := C.1
theorem zYx.code {p : Program} {l : Launch} {s : State} {m : MethodId} {args : Array Value} {meth : Method} {c : Code} {cc : ByteArray} {own : String} {nL : Nat} {E : zE} {k0 : Nat} (C : zYx p l s m args meth c cc own nL E k0) : c.code = cc := C.2.1
theorem zYx.maxL {p : Program} {l : Launch} {s : State} {m : MethodId} {args : Array Value} {meth : Method} {c : Code} {cc : ByteArray} {own : String} {nL : Nat} {E : zE} {k0 : Nat} (C : zYx p l s m args meth c cc own nL E k0) : c.maxLocals = nL := C.2.2.1
theorem zYx.cls {p : Program} {l : Launch} {s : State} {m : MethodId} {args : Array Value} {meth : Method} {c : Code} {cc : ByteArray} {own : String} {nL : Nat} {E : zE} {k0 : Nat} (C : zYx p l s m args meth c cc own nL E k0) : s.vm.findClass own = some m.cls := C.2.2.2.1
theorem zYx.words {p : Program} {l : Launch} {s : State} {m : MethodId} {args : Array Value} {meth : Method} {c : Code} {cc : ByteArray} {own : String} {nL : Nat} {E : zE} {k0 : Nat} (C : zYx p l s m args meth c cc own nL E k0) : ∀ w ∈ zT, w.before args s = true := C.2.2.2.2.1
theorem zYx.kn {p : Program} {l : Launch} {s : State} {m : MethodId} {args : Array Value} {meth : Method} {c : Code} {cc : ByteArray} {own : String} {nL : Nat} {E : zE} {k0 : Nat} (C : zYx p l s m args meth c cc own nL E k0) : zKn E s := C.2.2.2.2.2.1
theorem zYx.known {p : Program} {l : Launch} {s : State} {m : MethodId} {args : Array Value} {meth : Method} {c : Code} {cc : ByteArray} {own : String} {nL : Nat} {E : zE} {k0 : Nat} (C : zYx p l s m args meth c cc own nL E k0) : va_K E.1 vwCl (zTy E) s := C.kn.1
theorem zYx.locks {p : Program} {l : Launch} {s : State} {m : MethodId} {args : Array Value} {meth : Method} {c : Code} {cc : ByteArray} {own : String} {nL : Nat} {E : zE} {k0 : Nat} (C : zYx p l s m args meth c cc own nL E k0) : meth.locks = false := C.2.2.2.2.2.2.2
def zVp (p : Program) (l : Launch) (e : Env) (R : Room) (s : State) (m : MethodId) (args : Array Value) (below : List Frame) (meth : Method) (c : Code) (nL : Nat) (E : zE) (k0 : Nat) (Q : State → Prop) (ce sl : Nat) (cw : Nat → va_E) (n pc : Nat) (lv : List (Nat × Value)) (st : List Value) : Prop :=
  ∀ (H : Heap) (locs : List Loc) (ls : Array Slot), zP E k0 cw n H → va_S (zAk E k0) s.heap H locs → lv_has ls nL lv → W p l e R s m args below meth c H locs ce sl Q (F0 m pc ls st)
section
variable {p : Program} {l : Launch} {e : Env} {R : Room} {s : State} {m : MethodId} {args : Array Value} {below : List Frame} {meth : Method} {c : Code} {cc : ByteArray} {own : String} {nL : Nat} {E : zE} {k0 : Nat} {Q : State → Prop} {ce sl : Nat} {cw : Nat → va_E} {n pc : Nat} {lv : List (Nat × Value)} {st : List Value}
theorem zp_aload_n (C : zYx p l s m args meth c cc own nL E k0) {k : Fin 4} {i : Nat} {x : Nat} (q : Nat) (hdg : decode cc pc = .ok (.aload_n k, 1)) (hi : (k : Nat) = i) (hk : lv[q]? = some (i, .ref x)) (kk : zVp p l e R s m args below meth c nL E k0 Q ce sl cw n (pc + 1) lv (.ref x :: st)) : zVp p l e R s m args below meth c nL E k0 Q ce sl cw n pc lv st := fun H locs ls hP hS hl => lv_aload_n C.exec C.code hdg hi (lv_at hl q hk) (kk H locs ls hP hS hl)
theorem zp_aload (C : zYx p l s m args meth c cc own nL E k0) {i : Nat} {x : Nat} (q : Nat) (hdg : decode cc pc = .ok (.aload i, 2)) (hk : lv[q]? = some (i, .ref x)) (kk : zVp p l e R s m args below meth c nL E k0 Q ce sl cw n (pc + 2) lv (.ref x :: st)) : zVp p l e R s m args below meth c nL E k0 Q ce sl cw n pc lv st := fun H locs ls hP hS hl => lv_aload C.exec C.code hdg (lv_at hl q hk) (kk H locs ls hP hS hl)
theorem zp_iload_n (C : zYx p l s m args meth c cc own nL E k0) {k : Fin 4} {i : Nat} {x : Int32} (q : Nat) (hdg : decode cc pc = .ok (.iload_n k, 1)) (hi : (k : Nat) = i) (hk : lv[q]? = some (i, .int x)) (kk : zVp p l e R s m args below meth c nL E k0 Q ce sl cw n (pc + 1) lv (.int x :: st)) : zVp p l e R s m args below meth c nL E k0 Q ce sl cw n pc lv st := fun H locs ls hP hS hl => lv_iload_n C.exec C.code hdg hi (lv_at hl q hk) (kk H locs ls hP hS hl)
theorem zp_iload (C : zYx p l s m args meth c cc own nL E k0) {i : Nat} {x : Int32} (q : Nat) (hdg : decode cc pc = .ok (.iload i, 2)) (hk : lv[q]? = some (i, .int x)) (kk : zVp p l e R s m args below meth c nL E k0 Q ce sl cw n (pc + 2) lv (.int x :: st)) : zVp p l e R s m args below meth c nL E k0 Q ce sl cw n pc lv st := fun H locs ls hP hS hl => lv_iload C.exec C.code hdg (lv_at hl q hk) (kk H locs ls hP hS hl)
theorem zp_istore_n (C : zYx p l s m args meth c cc own nL E k0) {k : Fin 4} {i : Nat} {x : Int32} {lv' : List (Nat × Value)} (hdg : decode cc pc = .ok (.istore_n k, 1)) (hi : (k : Nat) = i) (hn : i < nL) (he : (i, Value.int x) :: lv.filter (fun q => !(q.1 == i) && !(q.1 + 1 == i && q.2.category == 2)) = lv') (kk : zVp p l e R s m args below meth c nL E k0 Q ce sl cw n (pc + 1) lv' st) : zVp p l e R s m args below meth c nL E k0 Q ce sl cw n pc lv (.int x :: st) := fun H locs ls hP hS hl => lv_istore_n C.exec C.code hdg hi hl hn he (fun ls' hl' => kk H locs ls' hP hS hl')
theorem zp_astore_n (C : zYx p l s m args meth c cc own nL E k0) {k : Fin 4} {i : Nat} {x : Nat} {lv' : List (Nat × Value)} (hdg : decode cc pc = .ok (.astore_n k, 1)) (hi : (k : Nat) = i) (hn : i < nL) (he : (i, Value.ref x) :: lv.filter (fun q => !(q.1 == i) && !(q.1 + 1 == i && q.2.category == 2)) = lv') (kk : zVp p l e R s m args below meth c nL E k0 Q ce sl cw n (pc + 1) lv' st) : zVp p l e R s m args below meth c nL E k0 Q ce sl cw n pc lv (.ref x :: st) := fun H locs ls hP hS hl => lv_astore_n C.exec C.code hdg hi hl hn he (fun ls' hl' => kk H locs ls' hP hS hl')
theorem zp_astore (C : zYx p l s m args meth c cc own nL E k0) {i : Nat} {x : Nat} {lv' : List (Nat × Value)} (hdg : decode cc pc = .ok (.astore i, 2)) (hn : i < nL) (he : (i, Value.ref x) :: lv.filter (fun q => !(q.1 == i) && !(q.1 + 1 == i && q.2.category == 2)) = lv') (kk : zVp p l e R s m args below meth c nL E k0 Q ce sl cw n (pc + 2) lv' st) : zVp p l e R s m args below meth c nL E k0 Q ce sl cw n pc lv (.ref x :: st) := fun H locs ls hP hS hl => lv_astore C.exec C.code hdg hl hn he (fun ls' hl' => kk H locs ls' hP hS hl')
theorem zp_iconst (C : zYx p l s m args meth c cc own nL E k0) {nn : Int} {v : Int32} (hdg : decode cc pc = .ok (.iconst nn, 1)) (hv : Int32.ofInt nn = v) (kk : zVp p l e R s m args below meth c nL E k0 Q ce sl cw n (pc + 1) lv (.int v :: st)) : zVp p l e R s m args below meth c nL E k0 Q ce sl cw n pc lv st := fun H locs ls hP hS hl => lv_iconst C.exec C.code hdg hv (kk H locs ls hP hS hl)
theorem zp_bipush (C : zYx p l s m args meth c cc own nL E k0) {nn : Int} {v : Int32} (hdg : decode cc pc = .ok (.bipush nn, 2)) (hv : (Int8.ofInt nn).toInt32 = v) (kk : zVp p l e R s m args below meth c nL E k0 Q ce sl cw n (pc + 2) lv (.int v :: st)) : zVp p l e R s m args below meth c nL E k0 Q ce sl cw n pc lv st := fun H locs ls hP hS hl => lv_bipush C.exec C.code hdg hv (kk H locs ls hP hS hl)
theorem zp_sipush (C : zYx p l s m args meth c cc own nL E k0) {nn : Int} {v : Int32} (hdg : decode cc pc = .ok (.sipush nn, 3)) (hv : (Int16.ofInt nn).toInt32 = v) (kk : zVp p l e R s m args below meth c nL E k0 Q ce sl cw n (pc + 3) lv (.int v :: st)) : zVp p l e R s m args below meth c nL E k0 Q ce sl cw n pc lv st := fun H locs ls hP hS hl => lv_sipush C.exec C.code hdg hv (kk H locs ls hP hS hl)
theorem zp_lconst (C : zYx p l s m args meth c cc own nL E k0) {nn : Fin 2} {v : Int64} (hdg : decode cc pc = .ok (.lconst nn, 1)) (hv : Int64.ofNat (nn : Nat) = v) (kk : zVp p l e R s m args below meth c nL E k0 Q ce sl cw n (pc + 1) lv (.long v :: st)) : zVp p l e R s m args below meth c nL E k0 Q ce sl cw n pc lv st := fun H locs ls hP hS hl => lv_lconst C.exec C.code hdg hv (kk H locs ls hP hS hl)
theorem zp_dup (C : zYx p l s m args meth c cc own nL E k0) {v : Value} (hdg : decode cc pc = .ok (.dup, 1)) (hv : v.category = 1) (kk : zVp p l e R s m args below meth c nL E k0 Q ce sl cw n (pc + 1) lv (v :: v :: st)) : zVp p l e R s m args below meth c nL E k0 Q ce sl cw n pc lv (v :: st) := fun H locs ls hP hS hl => lv_dup C.exec C.code hdg hv (kk H locs ls hP hS hl)
theorem zp_goto (C : zYx p l s m args meth c cc own nL E k0) {off : Int} {tgt : Nat} (hdg : decode cc pc = .ok (.goto off, 3)) (ht : (pc : Int) + off = (tgt : Int)) (kk : zVp p l e R s m args below meth c nL E k0 Q ce sl cw n tgt lv st) : zVp p l e R s m args below meth c nL E k0 Q ce sl cw n pc lv st := fun H locs ls hP hS hl => lv_goto C.exec C.code hdg ht (kk H locs ls hP hS hl)
theorem zp_icmp_ge (C : zYx p l s m args meth c cc own nL E k0) {x y : Int32} {off : Int} {tgt : Nat} (hdg : decode cc pc = .ok (.if_icmp .ge off, 3)) (ht : (pc : Int) + off = (tgt : Int)) (kt : y ≤ x → zVp p l e R s m args below meth c nL E k0 Q ce sl cw n tgt lv st) (kf : ¬ y ≤ x → zVp p l e R s m args below meth c nL E k0 Q ce sl cw n (pc + 3) lv st) : zVp p l e R s m args below meth c nL E k0 Q ce sl cw n pc lv (.int y :: .int x :: st) := fun H locs ls hP hS hl => lv_icmp_ge C.exec C.code hdg ht (fun h => kt h H locs ls hP hS hl) (fun h => kf h H locs ls hP hS hl)
theorem zp_iinc (C : zYx p l s m args meth c cc own nL E k0) {i : Nat} {nn : Int} {x v : Int32} {lv' : List (Nat × Value)} (q : Nat) (hdg : decode cc pc = .ok (.iinc i nn, 3)) (hk : lv[q]? = some (i, .int x)) (hv : x + Int32.ofInt nn = v) (hn : i < nL) (he : (i, Value.int v) :: lv.filter (fun q => !(q.1 == i) && !(q.1 + 1 == i && q.2.category == 2)) = lv') (kk : zVp p l e R s m args below meth c nL E k0 Q ce sl cw n (pc + 3) lv' st) : zVp p l e R s m args below meth c nL E k0 Q ce sl cw n pc lv st := fun H locs ls hP hS hl => lv_iinc C.exec C.code hdg hl hk hv hn he (fun ls' hl' => kk H locs ls' hP hS hl')
theorem zp_sub {lv' : List (Nat × Value)} (ks : List Nat) (he : lv_pick lv ks = lv') (kk : zVp p l e R s m args below meth c nL E k0 Q ce sl cw n pc lv' st) : zVp p l e R s m args below meth c nL E k0 Q ce sl cw n pc lv st := fun H locs ls hP hS hl => kk H locs ls hP hS (lv_sub hl ks he)
theorem zp_icmp_geZ (C : zYx p l s m args meth c cc own nL E k0) {a b : Int} {off : Int} {tgt : Nat} (ha : -2147483648 ≤ a ∧ a < 2147483648) (hb : -2147483648 ≤ b ∧ b < 2147483648) (hdg : decode cc pc = .ok (.if_icmp .ge off, 3)) (ht : (pc : Int) + off = (tgt : Int)) (kt : b ≤ a → zVp p l e R s m args below meth c nL E k0 Q ce sl cw n tgt lv st) (kf : a < b → zVp p l e R s m args below meth c nL E k0 Q ce sl cw n (pc + 3) lv st) : zVp p l e R s m args below meth c nL E k0 Q ce sl cw n pc lv (.int (zI b) :: .int (zI a) :: st) := zp_icmp_ge C hdg ht (fun h => kt (by have h := h; rw [zI_le hb ha] at h; exact h)) (fun h => kf (by rw [zI_le hb ha] at h; omega))
theorem zp_cong2 {cw' : Nat → va_E} (h : ∀ j, j < n → ∀ H, va_at E.1 vwCl (ob E (k0 + j), cw j) H → va_at E.1 vwCl (ob E (k0 + j), cw' j) H) (kk : zVp p l e R s m args below meth c nL E k0 Q ce sl cw' n pc lv st) : zVp p l e R s m args below meth c nL E k0 Q ce sl cw n pc lv st := fun H locs ls hP hS hl => kk H locs ls (zP_fat hP.1 fun j hj => h j hj H (zP_at hP hj)) hS hl
theorem zp_cong {cw' : Nat → va_E} (h : ∀ j, j < n → cw j = cw' j) (kk : zVp p l e R s m args below meth c nL E k0 Q ce sl cw' n pc lv st) : zVp p l e R s m args below meth c nL E k0 Q ce sl cw n pc lv st := fun H locs ls hP hS hl => kk H locs ls (zP_cong hP h) hS hl
theorem zp_eqi {x y : Int32} (h : x = y) (kk : zVp p l e R s m args below meth c nL E k0 Q ce sl cw n pc lv (.int y :: st)) : zVp p l e R s m args below meth c nL E k0 Q ce sl cw n pc lv (.int x :: st) := by rw [h]; exact kk
/-- Object's constructor -/
theorem zp_obj (C : zYx p l s m args meth c cc own nL E k0) {ix a : Nat} (h1 : Cond.methodLink own ix Lib.objectInit ∈ zT) (h2 : Cond.instanceMethod Lib.objectInit ∈ zT) (h3 : Cond.code Lib.objectInit ⟨#[0xb1]⟩ 1 none ∈ zT) (hdg : decode cc pc = .ok (.invokespecial ix, 3)) (hR : 1 ≤ R.frames ∧ (st.map fun v => v.category).sum + 12 ≤ R.locals) (kk : zVp p l e R s m args below meth c nL E k0 Q ce sl cw n (pc + 3) lv st) : zVp p l e R s m args below meth c nL E k0 Q ce sl cw n pc lv (.ref a :: st) := fun H locs ls hP hS hl =>
  W.objInit C.exec C.code C.cls (C.words _ h1) (C.words _ h2) (C.words _ h3) rfl (by rw [C.maxL]; exact hl.1) rfl hdg hR.1 (by show 2 * 0 + _ + 12 ≤ _; omega) (kk H locs ls hP hS hl)
theorem zp_newa (C : zYx p l s m args meth c cc own nL E k0) {atype : ArrayType} {ti : Nat} (ht : (zTy E)[ti]? = some (cAt E ti, newarray.typeOf atype)) (harr : Cond.arrayClass (newarray.typeOf atype) ∈ zT) {nv : Int32} {N' : Nat} {x : vp_A} (ha : ∀ cA : ClassId, vp_cell cA x = arrV cA N' (fun _ => defaultValue (newarray.typeOf atype))) (hn : ¬ nv < 0) (hN : nv.toNatClampNeg = N') (hbytes : N' * componentBytes (newarray.typeOf atype) ≤ 536870912) (hcells : ce + 1 ≤ R.cells) (hslots : sl + N' ≤ R.slots) (hdg : decode cc pc = .ok (.newarray atype, 2))
    (kk : zVp p l e R s m args below meth c nL E k0 Q (ce + 1) (sl + N') (zU cw n (.inl (cAt E ti, x))) (n + 1) (pc + 2) lv (.ref (ob E (k0 + n)) :: st)) : zVp p l e R s m args below meth c nL E k0 Q ce sl cw n pc lv (.int nv :: st) := fun H locs ls hP hS hl => by
  refine va_newaK C.exec C.code (C.words _ harr) rfl hdg rfl hn hN hbytes hcells hslots rfl fun H1 cA e1 z1 o1 hAr hNm => ?_
  have hcA : cA = cAt E ti := by
    have h := (C.known.2 ti _ ht).2
    cases atype <;> exact Option.some.inj (hNm.symm.trans h)
  subst hcA
  have e2 := kk H1 locs ls (zP_push hP z1 o1 (by show H1[H.size]? = some (vp_cell _ _); rw [ha]; exact e1)) ⟨Nat.le_trans hS.1 (by omega), fun q h1 h2 => (o1 q (Nat.lt_of_lt_of_le h1 hS.1)).trans (hS.2.1 q h1 h2), hS.2.2⟩ hl
  rw [← hP.1] at e2
  exact e2
theorem zp_newq (C : zYx p l s m args meth c cc own nL E k0) {ti ix : Nat} {Cn : String} (ht : (zTy E)[ti]? = some (cAt E ti, .object Cn)) (hover : va_AO Cn s) (hcl : Cond.classLink own ix Cn ∈ zT) {nv : Int32} {N' : Nat} (hn : ¬ nv < 0) (hN : nv.toNatClampNeg = N') (hbytes : N' * 4 ≤ 536870912) (hcells : ce + 1 ≤ R.cells) (hslots : sl + N' ≤ R.slots) (hdg : decode cc pc = .ok (.anewarray ix, 3))
    (kk : zVp p l e R s m args below meth c nL E k0 Q (ce + 1) (sl + N') (zU cw n (.inl (cAt E ti, N', .inr (.inr (.inr (.inr (fun _ => none))))))) (n + 1) (pc + 3) lv (.ref (ob E (k0 + n)) :: st)) : zVp p l e R s m args below meth c nL E k0 Q ce sl cw n pc lv (.int nv :: st) := fun H locs ls hP hS hl => by
  subst hN
  refine W.anew C.exec C.code C.cls (C.words _ hcl) (va_AO.use hover) rfl hdg rfl hn hbytes hcells hslots fun cA kA comp f1 f2 f3 f4 => ?_
  have hcA : cA = cAt E ti := by
    obtain ⟨kA', comp', -, -, -, h⟩ := (C.known.2 ti _ ht).2
    exact Option.some.inj (f1.symm.trans h)
  subst hcA
  generalize hH1 : H.push ({ cls := cAt E ti, slots := Array.replicate nv.toNatClampNeg .null, vm := .none } : Cell) = H1
  have z1 : H1.size = H.size + 1 := by rw [← hH1, Array.size_push]
  have e1 : H1[H.size]? = some (arrV (cAt E ti) nv.toNatClampNeg (fun _ => .null)) := by rw [← hH1, Array.getElem?_push_size, ← arrV_new]
  have o1 : ∀ q : Nat, q < H.size → H1[q]? = H[q]? := fun q hq => by rw [← hH1, Array.getElem?_push, if_neg (Nat.ne_of_lt hq)]
  have e2 := kk H1 locs ls (zP_push hP z1 o1 (by show H1[H.size]? = some (vp_cell _ _); rw [e1, vp_cell_q]; rfl)) ⟨Nat.le_trans hS.1 (by omega), fun q h1 h2 => (o1 q (Nat.lt_of_lt_of_le h1 hS.1)).trans (hS.2.1 q h1 h2), hS.2.2⟩ hl
  rw [← hP.1] at e2
  exact e2
theorem zp_new (C : zYx p l s m args meth c cc own nL E k0) {ci ix N : Nat} {Cn : String} {T : u_T} {ty0 : Nat → FieldType} {fs : List Value} (hin : ∀ w ∈ u_ws Cn T N, w ∈ zT) (hty : ∀ k, k < N → parseFieldDescriptor (T k).2.2.1 = some (ty0 k)) (hcl : Cond.classLink own ix Cn ∈ zT) (hinst : Cond.instantiable Cn N ∈ zT) (hini : Cond.initialized Cn ∈ zT) (hc : vwCl[ci]? = some (Cn, T, N)) (hfs : ∀ j, j < N → defaultValue (ty0 j) = vp_V fs j) (hcells : ce + 1 ≤ R.cells) (hslots : sl + N ≤ R.slots) (hdg : decode cc pc = .ok (.new ix, 3))
    (kk : zVp p l e R s m args below meth c nL E k0 Q (ce + 1) (sl + N) (zU cw n (.inr (ci, fs))) (n + 1) (pc + 3) lv (.ref (ob E (k0 + n)) :: st)) : zVp p l e R s m args below meth c nL E k0 Q ce sl cw n pc lv st := fun H locs ls hP hS hl => by
  have hKn := C.known.1 ci _ hc
  refine W.newcK C.exec C.code C.cls (C.words _ hcl) (C.words _ hinst) (C.words _ hini) rfl hdg hcells hslots hKn.2.1 rfl fun H1 kC hkC e1 z1 o1 => ?_
  have e2 := kk H1 locs ls (zP_push hP z1 o1 ⟨_, hc, (u_born ty0 C.words hin hKn hkC e1 hty).to hfs⟩) ⟨Nat.le_trans hS.1 (by omega), fun q h1 h2 => (o1 q (Nat.lt_of_lt_of_le h1 hS.1)).trans (hS.2.1 q h1 h2), hS.2.2⟩ hl
  rw [← hP.1] at e2
  exact e2
theorem zp_get (C : zYx p l s m args meth c cc own nL E k0) {i ci j ix N : Nat} {Cn : String} {T : u_T} {fs : List Value} {v : Value} (hi : i < n) (hz : cw i = .inr (ci, fs)) (hc : vwCl[ci]? = some (Cn, T, N)) (hin : ∀ w ∈ u_ws Cn T N, w ∈ zT) (hj : j < N) (hdecl : (T j).1 = Cn) (hv : fs[j]? = some v) (hlink : Cond.fieldLink own ix Cn (T j).2.1 (T j).2.2.1 ∈ zT) (hdg : decode cc pc = .ok (.getfield ix, 3)) (kk : zVp p l e R s m args below meth c nL E k0 Q ce sl cw n (pc + 3) lv (v :: st)) : zVp p l e R s m args below meth c nL E k0 Q ce sl cw n pc lv (.ref (ob E (k0 + i)) :: st) := fun H locs ls hP hS hl =>
  va_get (D := E.1) (ci := ci) (C := Cn) (T := T) (N := N) C.exec C.code C.words hin C.cls C.known hP.2 i (by rw [zpW_at hi, hz]) hc j hj (C.words _ hlink) (fun _ h => by rw [hdecl] at h; exact h) hv hdg (kk H locs ls hP hS hl)
theorem zp_put (C : zYx p l s m args meth c cc own nL E k0) {i ci j ix N : Nat} {Cn : String} {T : u_T} {ty0 : Nat → FieldType} {fs : List Value} {ty : FieldType} {v : Value} (hi : i < n) (hz : cw i = .inr (ci, fs)) (hc : vwCl[ci]? = some (Cn, T, N)) (hin : ∀ w ∈ u_ws Cn T N, w ∈ zT) (hty : ∀ k, k < N → parseFieldDescriptor (T k).2.2.1 = some (ty0 k)) (hnm : ∀ a, a < N → ∀ b, b < N → a ≠ b → (T a).2.1 ≠ (T b).2.1) (hj : j < N) (hdecl : (T j).1 = Cn) (hfin : (T j).2.2.2 = false) (hd : parseFieldDescriptor (T j).2.2.1 = some ty) (hn : narrow ty v = v) (hfit : fits ty v = true) (hl2 : j < fs.length) (hlink : Cond.fieldLink own ix Cn (T j).2.1 (T j).2.2.1 ∈ zT) (hdg : decode cc pc = .ok (.putfield ix, 3)) (kk : zVp p l e R s m args below meth c nL E k0 Q ce sl (zU cw i (.inr (ci, fs.set j v))) n (pc + 3) lv st) : zVp p l e R s m args below meth c nL E k0 Q ce sl cw n pc lv (v :: .ref (ob E (k0 + i)) :: st) := fun H locs ls hP hS hl => by
  have hap := va_apart (own := own) C.words hin ty0 hty hnm C.known hc
  obtain ⟨r, h1, cell, q1, q2, q3, q4⟩ := hP.2 i _ (by rw [zpW_at hi, hz])
  have hr : r = (Cn, T, N) := Option.some.inj (h1.symm.trans hc)
  subst hr
  obtain ⟨hS0, hfc, kC, hkC, hkind⟩ := C.known.1 ci _ hc
  obtain ⟨cf, kf, fi, f, hif, hsl⟩ := hS0 j hj
  have hlay := C.words _ (hin _ (u_in_lay hj))
  unfold u_lay at hlay
  rw [if_neg (by rw [hfin]; decide)] at hlay
  have hst := (u_facts hfc hkC (u_lays C.words hin hj) hif).1
  have h6 := u_store hfc hkC hkind hlay hif hd hn hfit
  refine W.putK C.exec C.code (f := f) ⟨C.cls, C.words _ hlink, ⟨_, _, _, by rw [hdecl] at hif; exact hif⟩, hst⟩ (by rw [q2]; exact h6) q1 q3 (by rw [hsl]; exact k2_hasslot (q4 j hj)) rfl rfl hdg fun H' e1 e2 e3 => ?_
  rw [hsl] at e1 ⊢
  exact kk H' _ ls (zP_set hP e2 e3 ⟨_, hc, t_OB.to (V := updV (vp_V fs) j v) ⟨_, e1, q2, q3, t_set q4 hap hj v⟩ (fun k _ => vp_updV_set hl2 v k)⟩) (hS.put e2 e3 (by show ob E k0 ≤ ob E (k0 + i); unfold ob; omega)) hl
theorem zp_putF (C : zYx p l s m args meth c cc own nL E k0) {i ci j ix N : Nat} {T : u_T} {ty0 : Nat → FieldType} {fs : List Value} {ty : FieldType} {v : Value} (hi : i < n) (hz : cw i = .inr (ci, fs)) (hc : vwCl[ci]? = some (own, T, N)) (hin : ∀ w ∈ u_ws own T N, w ∈ zT) (hty : ∀ k, k < N → parseFieldDescriptor (T k).2.2.1 = some (ty0 k)) (hnm : ∀ a, a < N → ∀ b, b < N → a ≠ b → (T a).2.1 ≠ (T b).2.1) (hj : j < N) (hdecl : (T j).1 = own) (hfin : (T j).2.2.2 = true) (hin2 : meth.name = "<init>") (hd : parseFieldDescriptor (T j).2.2.1 = some ty) (hn : narrow ty v = v) (hfit : fits ty v = true) (hl2 : j < fs.length) (hlink : Cond.fieldLink own ix own (T j).2.1 (T j).2.2.1 ∈ zT) (hdg : decode cc pc = .ok (.putfield ix, 3)) (kk : zVp p l e R s m args below meth c nL E k0 Q ce sl (zU cw i (.inr (ci, fs.set j v))) n (pc + 3) lv st) : zVp p l e R s m args below meth c nL E k0 Q ce sl cw n pc lv (v :: .ref (ob E (k0 + i)) :: st) := fun H locs ls hP hS hl => by
  have hap := va_apart (own := own) C.words hin ty0 hty hnm C.known hc
  obtain ⟨r, h1, cell, q1, q2, q3, q4⟩ := hP.2 i _ (by rw [zpW_at hi, hz])
  have hr : r = (own, T, N) := Option.some.inj (h1.symm.trans hc)
  subst hr
  obtain ⟨hS0, hfc, kC, hkC, hkind⟩ := C.known.1 ci _ hc
  obtain ⟨cf, kf, fi, f, hif, hsl⟩ := hS0 j hj
  have hlay := C.words _ (hin _ (u_in_lay hj))
  unfold u_lay at hlay
  rw [if_pos hfin] at hlay
  have hst := (u_facts hfc hkC (u_lays C.words hin hj) hif).1
  have hcf : m.cls = cf := by
    obtain ⟨_, _, c', _, _, _, -, -, hf', -, -, -, hown2, -⟩ := Cond.laysFinal_spec hlay
    have e1 : c' = cf := by have := hif.symm.trans hf'; simp at this; exact this.1.symm
    rw [hdecl] at hown2
    rw [← e1]; exact Option.some.inj (C.cls.symm.trans hown2)
  have h6 := u_fits hfc hkC hkind (Or.inr hlay) hif hd hn hfit
  refine W.putFinK C.exec C.code C.cls (C.words _ hlink) (by rw [hdecl] at hif; exact hif) hst hcf hin2 (by rw [q2]; exact h6) q1 q3 (by rw [hsl]; exact k2_hasslot (q4 j hj)) rfl rfl hdg fun H' e1 e2 e3 => ?_
  rw [hsl] at e1 ⊢
  exact kk H' _ ls (zP_set hP e2 e3 ⟨_, hc, t_OB.to (V := updV (vp_V fs) j v) ⟨_, e1, q2, q3, t_set q4 hap hj v⟩ (fun k _ => vp_updV_set hl2 v k)⟩) (hS.put e2 e3 (by show ob E k0 ≤ ob E (k0 + i); unfold ob; omega)) hl
theorem zp_aast (C : zYx p l s m args meth c cc own nL E k0) {i i2 ti ci : Nat} {r : vw_C} {N' : Nat} {vs : List Value} {f : Nat → Option Nat} (hi : i < n) (ha : cw i = .inl (cAt E ti, N', .inr (.inr (.inr (.inr f))))) (ht : (zTy E)[ti]? = some (cAt E ti, .object r.1)) (hi2 : i2 < n) (hv : cw i2 = .inr (ci, vs)) (hc : vwCl[ci]? = some r) {x : Int32} {j : Nat} (hx : x = nI j) (hj : j < N') (hj2 : N' < 2 ^ 31) (hdg : decode cc pc = .ok (.aastore, 1))
    (kk : zVp p l e R s m args below meth c nL E k0 Q ce sl (zU cw i (.inl (cAt E ti, N', .inr (.inr (.inr (.inr (va_up f j (some (ob E (k0 + i2)))))))))) n (pc + 1) lv st) : zVp p l e R s m args below meth c nL E k0 Q ce sl cw n pc lv (.ref (ob E (k0 + i2)) :: .int x :: .ref (ob E (k0 + i)) :: st) := fun H locs ls hP hS hl => by
  subst hx
  have hxc : (nI j).toNatClampNeg = j := nI_clamp (by omega)
  have hin := vp_in_nI hj hj2
  have hlt : (nI j).toNatClampNeg < N' := Nat.not_le.mp fun q => hin (Or.inr q)
  have h0 : ¬ nI j < 0 := fun q => hin (Or.inl q)
  obtain ⟨r', hr', cellV, g1, g2, g3, -⟩ := hP.2 i2 _ (by rw [zpW_at hi2, hv])
  have hcls := (C.known.1 ci r hc).2
  obtain ⟨kA, comp, k1, k2, k3, -⟩ := (C.known.2 ti _ ht).2
  have hcomp : comp = E.1.1 ci := Option.some.inj (k3.symm.trans hcls.1)
  subst hcomp
  obtain ⟨kC, hkC, -⟩ := hcls.2
  have hat : H[ob E (k0 + i)]? = some (vp_cell (cAt E ti) (N', .inr (.inr (.inr (.inr f))))) := by
    have := zP_at hP hi
    rw [ha] at this
    exact this
  refine W.aast C.exec C.code hat (fun q h => by cases h) (fun h => by cases h) k1 k2 rfl hkC ⟨h0, by show _ < (arrV _ _ _).slots.size; rw [arrV_size]; exact hlt⟩ g1 (fun q h => by rw [g3] at h; cases h) (by rw [g2]; exact hkC) (by rw [g2]; exact va_assign hcls) rfl rfl hdg fun H1 e z oq => ?_
  refine kk H1 _ ls (zP_set hP z oq ?_) (hS.put z oq (by show ob E k0 ≤ ob E (k0 + i); unfold ob; omega)) hl
  show H1[ob E (k0 + i)]? = some (vp_cell _ _)
  rw [e, hxc]
  rw [vp_cell_q, vp_cell_q, arrV_store]
  congr 2
  funext q
  by_cases hq : q = j
  · subst hq
    simp [updV, va_up, va_rf]
  · simp [updV, va_up, hq]
end
/-- the picture at the start -/
def zG0 : zS := (fun k j => if kd k = 4 ∧ j = 0 then 2000 else if kd k = 6 ∧ j = 2 then 60 else if kd k = 5 ∧ j = 4 then -1 else if kd k = 10 ∧ j = 14 then -1 else 0, fun k j => if kd k = 3 ∧ j = 1 then 1 else if kd k = 0 ∧ (j = 2 ∨ j = 5) then 1 else 0, fun _ _ => 0)
/-- a constructor's contract -/
def zRc (l : Launch) (E : zE) (G : zS) (k0 : Nat) (y : MethodName) (cc : ByteArray) (nL : Nat) (rm : Room) (ob0 : va_E) (N mc ms : Nat) : Prop := Met l y (zws y cc nL none) rm (va_Pc [.ref (ob E k0)] (fun U => zP E k0 (fun _ => ob0) 1 U.heap ∧ zKn E U)) (va_Qv (fun _ : Unit => True) (fun _ U => zP E k0 (fun j => zc E G (k0 + j)) N U.heap) (zAk E k0)) mc ms (zAk E k0)
section
variable {p : Program} {l : Launch} {e : Env} {R : Room} {s : State} {m : MethodId} {args : Array Value} {below : List Frame} {meth : Method} {c : Code} {cc : ByteArray} {own : String} {nL : Nat} {E : zE} {k0 : Nat} {Q : State → Prop} {ce sl : Nat} {cw : Nat → va_E} {n pc : Nat} {lv : List (Nat × Value)} {st : List Value}
theorem zp_go {G : zS} {y : MethodName} {rm : Room} {N mc ms : Nat} {ob0 : va_E} (hy : plainName y.cls = true) (hown : y.cls = own) (hnm : y.name = "<init>") (hL : 1 ≤ nL)
    (body : ∀ p e s m args below meth c, zYx p l s m args meth c cc own nL E k0 → meth.sig.returnType = none → meth.name = "<init>" → zVp p l e (headSpec (zws y cc nL none) rm).room s m args below meth c nL E k0 (MQ below (va_Qv (fun _ : Unit => True) (fun _ U => zP E k0 (fun j => zc E G (k0 + j)) N U.heap) (zAk E k0)) args s mc ms (zAk E k0)) 0 0 (fun _ => ob0) 1 0 [(0, .ref (ob E (k0 + 0)))] []) : zRc l E G k0 y cc nL rm ob0 N mc ms := by
  refine Met.ofW (cc := cc) (maxL := nL) (ret := none) hy rfl ?_
  intro p e s m args below meth c s₁ B hml hv
  obtain ⟨rfl, hP, hK⟩ := hv
  have hP : zP E k0 (fun _ => ob0) 1 s.heap := hP
  have C : zYx p l s m [Value.ref (ob E k0)].toArray meth c cc own nL E k0 := ⟨B.exec, B.bytes, hml, by rw [← hown]; exact findClass_of_methodNamed B.named, fun w h => atoms_spec (ws := zws y cc nL none) B.pre w (List.mem_cons_of_mem _ h), hK, by rw [hP.1]; unfold ob; omega, B.notSynchronized⟩
  rw [lg_entry_eq]
  exact body p e s m _ below meth c C B.returns (by rw [← hnm]; exact (name_of_methodNamed B.named B.method).1) _ _ _ hP va_S.rf (lv_entry [.ref (ob E k0)] hL)
theorem zp_ret {G : zS} (C : zYx p l s m args meth c cc own nL E k0) (hr : meth.sig.returnType = none) (hdg : decode cc pc = .ok (.return_, 1)) (h : ∀ j, j < n → cw j = zc E G (k0 + j)) : zVp p l e R s m args below meth c nL E k0 (MQ below (va_Qv (fun _ : Unit => True) (fun _ U => zP E k0 (fun j => zc E G (k0 + j)) n U.heap) (zAk E k0)) args s ce sl (zAk E k0)) ce sl cw n pc lv [] := fun H locs ls hP hS hl => W.vret C.exec C.code hr (fun t ht _ => ⟨⟨(), rfl, trivial, by show zP _ _ _ _ t.heap; rw [ht]; exact zP_cong hP h⟩, hS.F ht⟩) hS.2.2 hdg C.locks
/-- a constructor called -/
theorem zp_cI (C : zYx p l s m args meth c cc own nL E k0) {G : zS} {y : MethodName} {cy : ByteArray} {nY : Nat} {rm : Room} {ob0 : va_E} {N mc ms i ix : Nat} (hM : zRc l E G (k0 + i) y cy nY rm ob0 N mc ms) (hn : n = i + 1) (hob : cw i = ob0) (m1 : Cond.code y cy nY none ∈ zT) (m2 : Cond.initialized y.cls ∈ zT) (m3 : Cond.instanceMethod y ∈ zT) (hlink : Cond.methodLink own ix y ∈ zT ∨ Cond.methodLinkNest own ix y "PlanetDrive" ∈ zNw) (hy1 : y.name = "<init>") (hd : y.cls ≠ "java/lang/invoke/MethodHandle" ∧ y.cls ≠ "java/lang/invoke/VarHandle" ∧ (parseMethodDescriptor y.desc).map (fun d => d.parameters.length) = some 0) (hrm : rm.cells = mc ∧ rm.slots = ms) (hR : zfit rm nY R = true) (hcat : (st.map fun v => v.category).sum ≤ 8) (hdg : decode cc pc = .ok (.invokespecial ix, 3)) (hf : ce + mc ≤ R.cells ∧ sl + ms ≤ R.slots)
    (kk : zVp p l e R s m args below meth c nL E k0 Q (ce + mc) (sl + ms) (fun j => if i ≤ j then zc E G (k0 + j) else cw j) (i + N) (pc + 3) lv st) : zVp p l e R s m args below meth c nL E k0 Q ce sl cw n pc lv (.ref (ob E (k0 + i)) :: st) := fun H locs ls hP hS hl => by
  subst hn
  have hp : PreS s H (va_Pc [.ref (ob E (k0 + i))] (fun U => zP E (k0 + i) (fun _ => ob0) 1 U.heap ∧ zKn E U)) (.ref (ob E (k0 + i)) :: []) := ⟨fun a U g mk h => ⟨h.1, h.2.1, zKn.moved (u := U) (U := U.calling g mk a) (State.WarmedH.refl U) h.2.2⟩, fun U hU hW => ⟨rfl, zP_fat (by rw [hU, hP.1]; rfl) (fun j hj => by
    obtain rfl : j = 0 := by omega
    rw [hU]
    have := zP_at hP (show i < i + 1 by omega)
    rw [hob] at this
    exact this), zKn.moved hW C.kn⟩⟩
  have hrun : va_Run p l e R s m args below meth c H locs ce sl mc ms (F0 m pc ls (.ref (ob E (k0 + i)) :: st)) st (va_Qv (fun _ : Unit => True) (fun _ U => zP E (k0 + i) (fun j => zc E G (k0 + i + j)) N U.heap) (zAk E (k0 + i)) (Value.ref (ob E (k0 + i)) :: []).toArray) (zAk E (k0 + i)) := by
    rcases hlink with h | h
    · exact va_runI (As := []) (rest := st) ⟨C.exec, C.code, C.maxL, C.cls, C.words⟩ hM (cwI 0 C.words (zgood (zgood_ws m1)) rfl hrm.1 hrm.2 (C.words _ m2) (C.words _ h) (C.words _ m3) hy1 hd (zfit_of hR).1) hp rfl rfl hl.1 rfl (lv_room hcat) hdg hf
    · exact va_runIN (As := []) (rest := st) ⟨C.exec, C.code, C.maxL, C.cls, C.words⟩ hM ⟨va_cnB 0 C.words (zgood (zgood_ws m1)) rfl hrm.1 hrm.2 (C.kn.2.2.2 _ h) (C.words _ m2) hd (zfit_of hR).1, hy1, C.words _ m3⟩ hp rfl rfl hl.1 rfl (lv_room hcat) hdg hf
  refine va_callv hrun hS (fun q _ h => ?_) (fun q h => ?_) (fun u t H1 locs1 ht hvm _ hB hz hk hS1 => kk H1 locs1 ls ?_ hS1 hl)
  · have h2 : ob E (k0 + i) ≤ q := h
    show ob E k0 ≤ q
    unfold ob at h2 ⊢
    omega
  · have h2 : ob E (k0 + i) ≤ q := h
    show ob E k0 ≤ q
    unfold ob at h2 ⊢
    omega
  · rw [ht] at hB
    refine zP_fat (by rw [hB.1, Nat.add_assoc]) (fun j hj => ?_)
    by_cases g : i ≤ j
    · rw [if_pos g]
      have := zP_at hB (show j - i < N by omega)
      rw [show k0 + i + (j - i) = k0 + j by omega] at this
      exact this
    · rw [if_neg g]
      exact (zP_at hP (by omega)).kept (hk _ (zP_lt hP (by omega)) (fun h => by
        have h2 : ob E (k0 + i) ≤ ob E (k0 + j) := h
        unfold ob at h2
        omega))
end
