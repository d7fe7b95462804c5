/-! the law's own methods: they catch -/
def zwh (y : MethodName) (cc : ByteArray) (nL : Nat) (hh : List (Nat × Nat × Nat × Nat)) : List Cond := Cond.codeWith y cc nL (some .int) hh :: zT
def zRh (l : Launch) (E : zE) (y : MethodName) (cc : ByteArray) (nL : Nat) (hh : List (Nat × Nat × Nat × Nat)) (rm : Room) (mc ms : Nat) (As : List Value) (σ : zS) (post : Int32 → zS → Prop) : Prop := vx_Met l y (zwh y cc nL hh) rm (va_Pc As (zWd E σ)) (va_Qi post (zWp E) (zA E)) (fun _ _ _ => False) mc ms (zA E)
theorem zX_ofH {p : Program} {l : Launch} {e : Env} {s : State} {m : MethodId} {args : Array Value} {below : List Frame} {meth : Method} {c : Code} {cc : ByteArray} {own : String} {nL : Nat} {E : zE} {y : MethodName} {hh : List (Nat × Nat × Nat × Nat)} {rm : Room} {ret : Option FieldType} {σ : zS} {s₁ : State} (hl : l.stackTraces = false) (B : BodyLoose p l y (headSpec (zwh y cc nL hh) rm) cc nL ret e s m args below meth c s₁) (hml : c.maxLocals = nL) (hd : zWd E σ s) (hy : y.cls = own) : zX p l s m args meth c cc own nL E := by
  refine ⟨B.exec, B.bytes, hml, by rw [← hy]; exact findClass_of_methodNamed B.named, fun w h => ?_, hd.2.1, hd.2.2, ?_, B.notSynchronized, hl⟩
  · exact atoms_spec (ws := zwh y cc nL hh) B.pre w (List.mem_cons_of_mem _ h)
  · have h := (hd.1 340 _ (zW_at E σ (by decide))).lt
    have h2 : ob E 340 < s.heap.size := h
    unfold ob at h2
    omega
theorem zMetH {l : Launch} {E : zE} {y : MethodName} {cc : ByteArray} {nL : Nat} {hh : List (Nat × Nat × Nat × Nat)} {rm : Room} {mc ms : Nat} {As : List Value} {σ : zS} {post : Int32 → zS → Prop} (hfl : l.stackTraces = false) (hy : plainName y.cls = true) (hcls : y.cls = RL) (hlen : (lg_sl As).length ≤ nL)
    (body : ∀ p e s m args below meth c, zX p l s m args meth c cc RL nL E → meth.sig.returnType = some .int → c.exceptionTable.toList = tableOf hh → zV p l e (headSpec (zwh y cc nL hh) rm).room s m args below meth c nL E (MQ below (va_Qi post (zWp E) (zA E)) args s mc ms (zA E)) 0 0 σ 0 (lv_args 0 As) []) : zRh l E y cc nL hh rm mc ms As σ post := by
  refine vx_ofWH (cc := cc) (maxL := nL) (ret := some .int) (hh := hh) hy rfl ?_
  intro p e s m args below meth c s₁ B hml hv
  obtain ⟨rfl, hd⟩ := hv
  exact vx_ret (zV_start (s₁ := s₁) hd hlen rfl (body p e s m _ below meth c (zX_ofH hfl B hml hd hcls) B.returns (vx_table (x := y) B (atoms_spec (ws := zwh y cc nL hh) B.pre _ List.mem_cons_self))))
section
variable {p : Program} {l : Launch} {e : Env} {R : Room} {s : State} {m : MethodId} {args : Array Value} {below : List Frame} {meth : Method} {c : Code} {cc : ByteArray} {own : String} {nL : Nat} {E : zE} {Q : State → Prop} {ce sl : Nat} {σ : zS} {pc : Nat} {lv : List (Nat × Value)} {st : List Value}
variable {y : MethodName} {cy : ByteArray} {nY : Nat} {rm : Room} {As : List Value}
theorem zv_iretN (C : zX p l s m args meth c cc own nL E) {v : Int32} {rt : FieldType} {post : Int32 → zS → Prop} (hr : meth.sig.returnType = some rt) (hn : narrow rt (.int v) = .int v) (hdg : decode cc pc = .ok (.ireturn, 1)) (h : post v σ) : zV p l e R s m args below meth c nL E (MQ below (va_Qi post (zWp E) (zA E)) args s ce sl (zA E)) ce sl σ pc lv [.int v] := fun H locs ls hP hS hl => W.zret C.exec C.code hr hn (fun t ht _ => ⟨⟨v, σ, rfl, h, by show va_P _ _ _ t.heap; rw [ht]; exact hP⟩, hS.F ht⟩) hS.2.2 hdg C.locks
/-- a call that throws, caught here -/
theorem zv_xcatch (C : zX p l s m args meth c cc own nL E) {ret : Option FieldType} {n ix ci k : Nat} {X nm : String} {post : zS → Prop} (hM : zRxp l E y cy nY ret rm (.ref (ob E k) :: As) σ X post) {pre suf : List ExceptionTableEntry} {x : ExceptionTableEntry} (htab : c.exceptionTable.toList = pre ++ x :: suf) (hpass : ∀ z ∈ pre, z.catchType ≠ 0 ∧ ∃ nm' : String, Cond.classLink own z.catchType nm' ∈ zT ∧ (X, nm') ∈ zNc) (hx : covers x pc = true) (h0 : x.catchType ≠ 0) (hlk : Cond.classLink own x.catchType nm ∈ zT) (hcast : Cond.castable X nm ∈ zNw)
    (hm : zMv y cy nY ret n) (hlink : Cond.methodLink own ix y ∈ zT) (hk : kd k = ci) {q : vw_C} (hc : vwCl[ci]? = some q) (hq : q.1 = y.cls) (hn : As.length = n) (hrm : rm.cells = 1 ∧ rm.slots = 6) (hR : zfit rm nY R = true) (hcat : (st.map fun v => v.category).sum ≤ 8) (hdg : decode cc pc = .ok (.invokevirtual ix, 3)) (hf : ce + 1 ≤ R.cells ∧ sl + 6 ≤ R.slots)
    (kk : ∀ (a : Nat) (τ : zS), post τ → zV p l e R s m args below meth c nL E Q (ce + 1) (sl + 6) τ x.handlerPc lv [.ref a]) : zV p l e R s m args below meth c nL E Q ce sl σ pc lv (As.reverse ++ .ref (ob E k) :: st) := fun H locs ls hP hS hl => by
  have hci : ci < 11 := by
    rcases Nat.lt_or_ge ci 11 with h | h
    · exact h
    · rw [List.getElem?_eq_none (by simpa [vwCl] using h)] at hc; cases hc
  obtain ⟨fs, hz⟩ := zobj hk hci E σ
  obtain ⟨⟨m1, m2, m3, m4, m5⟩, m6, m7⟩ := hm
  have hrecv := va_recv C.known hP hc (a := ob E k) (q0 := k) (fs := fs) (by rw [zW_at E σ (kd_lt hk (by omega)), hz])
  rw [hq] at hrecv
  have hrun := vx_runV (meth := meth) (cells := ce) (slots := sl) (C := y.cls) (index := ix) (bytes := cy) (maxL := nY) (ret := ret) (n := n) (rest := st) (g := F0 m pc ls (As.reverse ++ .ref (ob E k) :: st)) (R := R) (p := p) (e := e) (locs := locs) (H := H) (below := below) ⟨C.exec, C.code, C.maxL, C.cls, C.words⟩ hM (cwV n C.words (zgood fun w hw => ?_) rfl hrm.1 hrm.2 ⟨rfl, m3, m4, m5⟩ (zfit_of hR).1) ⟨zPc_blind _ E σ, hrecv, fun U hU hW => ⟨rfl, zwd_of C hP hS hU hW⟩⟩ rfl hn hl.1 rfl (lv_room hcat) hdg hf
  · intro T hT Xs
    rcases hrun T hT Xs with ⟨v, st₀, t, T', L, -, -, -, -, -, hF, -⟩ | ⟨a, st₀, t, T', L, Ex, cell, h1, X', hL, e1, e2, ⟨u, hu, ⟨rfl, hB⟩, hF⟩, hce, hcv, hcl, stp⟩
    · exact hF.elim
    · obtain ⟨k1, k2, k3⟩ := vx_keep (A1 := zA E) h1 e1 hS (fun _ _ h => h) (fun _ h => h) hL hF
      have hP1 : va_P E.1 vwCl (zW E u) T'.heap := by rw [e1]; exact hB
      obtain ⟨t2, a1, b1⟩ := vx_catch (rest := st) (pc := pc) (ls := ls) C.cls pre x suf htab (fun z hz => Or.inr ⟨(hpass z hz).1, by
        obtain ⟨nm', g1, g2⟩ := (hpass z hz).2
        exact ⟨nm', C.words _ g1, C.consts.2.2.2.2.2.2.2.2.2.1 _ g2⟩⟩) hx h0 (C.words _ hlk) (va_Nw.use rfl (C.consts.2.2.2.2.2.2.2.2.2.2.1 _ hcast)) (H := T'.heap) (q := a) (by rw [e1]; exact hce) hcv hcl (kk a u hu _ _ _ hP1 k3 hl) T' rfl X'
      exact ⟨t2, stp.trans a1, b1⟩
  · rcases List.mem_append.mp hw with h | h
    · simp only [List.mem_cons, List.not_mem_nil, or_false] at h
      rcases h with rfl | rfl | rfl | rfl
      · exact hlink
      · exact m6
      · exact m7
      · exact m2
    · exact zgood_ws m1 w h
end
theorem zcl_13 : Cond.classLink RL 13 "java/lang/IllegalArgumentException" ∈ zT := zT_mem 677 (by decide +kernel) (by decide)
theorem zcl_19 : Cond.classLink RL 19 "java/lang/IndexOutOfBoundsException" ∈ zT := zT_mem 764 (by decide +kernel) (by decide)
theorem zcl_25 : Cond.classLink RL 25 "java/util/NoSuchElementException" ∈ zT := zT_mem 796 (by decide +kernel) (by decide)
theorem zcl_90 : Cond.classLink RL 90 "java/lang/IllegalStateException" ∈ zT := zT_mem 1099 (by decide +kernel) (by decide)
theorem zca_13 : Cond.castable "java/lang/IllegalArgumentException" "java/lang/IllegalArgumentException" ∈ zNw := List.mem_filter.mpr ⟨List.contains_iff_mem.mp (by decide +kernel), rfl⟩
theorem zca_19 : Cond.castable "java/lang/IndexOutOfBoundsException" "java/lang/IndexOutOfBoundsException" ∈ zNw := List.mem_filter.mpr ⟨List.contains_iff_mem.mp (by decide +kernel), rfl⟩
theorem zca_25 : Cond.castable "java/util/NoSuchElementException" "java/util/NoSuchElementException" ∈ zNw := List.mem_filter.mpr ⟨List.contains_iff_mem.mp (by decide +kernel), rfl⟩
theorem zca_90 : Cond.castable "java/lang/IllegalStateException" "java/lang/IllegalStateException" ∈ zNw := List.mem_filter.mpr ⟨List.contains_iff_mem.mp (by decide +kernel), rfl⟩
