abbrev zrm (f n : Nat) : Room := { frames := f, cells := 0, slots := 0, locals := n }
abbrev zrx (f n : Nat) : Room := { frames := f, cells := 1, slots := 6, locals := n }
/-- what the tables say of a method that is called -/
def zMt (y : MethodName) (cc : ByteArray) (nL : Nat) (ret : Option FieldType) (n : Nat) : Prop := Cond.code y cc nL ret ∈ zT ∧ Cond.initialized y.cls ∈ zT ∧ (y.cls ≠ "java/lang/invoke/MethodHandle" ∧ y.cls ≠ "java/lang/invoke/VarHandle" ∧ (parseMethodDescriptor y.desc).map (fun d => d.parameters.length) = some n)
def zMv (y : MethodName) (cc : ByteArray) (nL : Nat) (ret : Option FieldType) (n : Nat) : Prop := zMt y cc nL ret n ∧ Cond.instanceMethod y ∈ zT ∧ Cond.selects y.cls y y ∈ zT
def zMst (y : MethodName) (cc : ByteArray) (nL : Nat) (ret : Option FieldType) (n : Nat) : Prop := zMt y cc nL ret n ∧ Cond.static y ∈ zT
/-- a callee's room in its caller's -/
def zfit (rm : Room) (nL : Nat) (R : Room) : Bool := Nat.ble (rm.frames + 1) R.frames && Nat.ble (8 + (nL + 11) + rm.locals) R.locals && Nat.ble rm.cells R.cells && Nat.ble rm.slots R.slots
theorem zfit_of {rm R : Room} {nL : Nat} (h : zfit rm nL R = true) : (rm.frames + 1 ≤ R.frames ∧ 8 + (nL + 11) + rm.locals ≤ R.locals) ∧ rm.cells ≤ R.cells ∧ rm.slots ≤ R.slots := by
  simp only [zfit, Bool.and_eq_true] at h
  exact ⟨⟨Nat.le_of_ble_eq_true h.1.1.1, Nat.le_of_ble_eq_true h.1.1.2⟩, Nat.le_of_ble_eq_true h.1.2, Nat.le_of_ble_eq_true h.2⟩
theorem zgood {ws : List Cond} (h : ∀ w ∈ ws, w ∈ zT) : GoodIn zT ws := fun w hw => ⟨h w hw, (zT_good w (h w hw)).2⟩
theorem zgood_ws {y : MethodName} {cc : ByteArray} {nL : Nat} {ret : Option FieldType} (h : Cond.code y cc nL ret ∈ zT) : ∀ w ∈ zws y cc nL ret, w ∈ zT := fun w hw => (List.mem_cons.mp hw).elim (fun q => by rw [q]; exact h) (fun q => q)
section
variable {p : Program} {l : Launch} {e : Env} {R : Room} {s : State} {m : MethodId} {args : Array Value} {below : List Frame} {meth : Method} {c : Code} {cc : ByteArray} {own : String} {nL : Nat} {E : zE} {Q : State → Prop} {ce sl : Nat} {σ : zS} {pc : Nat} {lv : List (Nat × Value)} {st lv0 : List Value}
variable {y : MethodName} {cy : ByteArray} {nY : Nat} {rm : Room} {As : List Value}
theorem zv_iret (C : zX p l s m args meth c cc own nL E) {v : Int32} {rt : FieldType} {post : Int32 → zS → Prop} (hr : meth.sig.returnType = some rt) (hn : narrow rt (.int v) = .int v) (hdg : decode cc pc = .ok (.ireturn, 1)) (h : post v σ) : zV p l e R s m args below meth c nL E (MQ below (va_Qi post (zWp E) (zA E)) args s 0 0 (zA E)) 0 0 σ pc lv [.int v] := fun H locs ls hP hS hl => W.zret C.exec C.code hr hn (fun t ht _ => ⟨⟨v, σ, rfl, h, by show va_P _ _ _ t.heap; rw [ht]; exact hP⟩, hS.F ht⟩) hS.2.2 hdg C.locks
theorem zv_lret (C : zX p l s m args meth c cc own nL E) {v : Int64} {post : Int64 → zS → Prop} (hr : meth.sig.returnType = some .long) (hdg : decode cc pc = .ok (.lreturn, 1)) (h : post v σ) : zV p l e R s m args below meth c nL E (MQ below (va_Ql post (zWp E) (zA E)) args s 0 0 (zA E)) 0 0 σ pc lv [.long v] := fun H locs ls hP hS hl => W.lret C.exec C.code hr (fun t ht _ => ⟨⟨v, σ, rfl, h, by show va_P _ _ _ t.heap; rw [ht]; exact hP⟩, hS.F ht⟩) hS.2.2 hdg C.locks
theorem zv_fret (C : zX p l s m args meth c cc own nL E) {v : UInt32} {post : UInt32 → zS → Prop} (hr : meth.sig.returnType = some .float) (hdg : decode cc pc = .ok (.freturn, 1)) (h : post v σ) : zV p l e R s m args below meth c nL E (MQ below (va_Qf post (zWp E) (zA E)) args s 0 0 (zA E)) 0 0 σ pc lv [.float v] := fun H locs ls hP hS hl => W.fret C.exec C.code hr (fun t ht _ => ⟨⟨v, σ, rfl, h, by show va_P _ _ _ t.heap; rw [ht]; exact hP⟩, hS.F ht⟩) hS.2.2 hdg C.locks
theorem zv_vret (C : zX p l s m args meth c cc own nL E) {post : zS → Prop} (hr : meth.sig.returnType = none) (hdg : decode cc pc = .ok (.return_, 1)) (h : post σ) : zV p l e R s m args below meth c nL E (MQ below (va_Qv post (zWp E) (zA E)) args s 0 0 (zA E)) 0 0 σ pc lv [] := fun H locs ls hP hS hl => W.vret C.exec C.code hr (fun t ht _ => ⟨⟨σ, rfl, h, by show va_P _ _ _ t.heap; rw [ht]; exact hP⟩, hS.F ht⟩) hS.2.2 hdg C.locks
theorem zv_aret (C : zX p l s m args meth c cc own nL E) {k : Nat} {rt : FieldType} {post : zS → Prop} (hr : meth.sig.returnType = some rt) (hrt : (∃ n, rt = .object n) ∨ ∃ t, rt = .array t) (hdg : decode cc pc = .ok (.areturn, 1)) (h : post σ) : zV p l e R s m args below meth c nL E (MQ below (va_Qr post (fun u a t => a = ob E k ∧ zWp E u t) (zA E)) args s 0 0 (zA E)) 0 0 σ pc lv [.ref (ob E k)] := fun H locs ls hP hS hl => W.aret C.exec C.code hr hrt (Or.inr ⟨_, rfl⟩) (fun t ht _ => ⟨⟨σ, ob E k, rfl, h, rfl, by show va_P _ _ _ t.heap; rw [ht]; exact hP⟩, hS.F ht⟩) hS.2.2 hdg C.locks
theorem zPc_blind (vs : List Value) (E : zE) (σ : zS) : FrameBlind (va_Pc vs (zWd E σ)) := fun a _ g mk h => ⟨h.1, zWd_calling g mk a h.2⟩
theorem zrunV (C : zX p l s m args meth c cc own nL E) {ret : Option FieldType} {Qc : Array Value → State → Outcome → State → Prop} {mc ms n ix ci k : Nat} {free : Addr → Prop} {H : Heap} {locs : List Loc} {ls : Array Slot} (hP : va_P E.1 vwCl (zW E σ) H) (hS : va_S (zA E) s.heap H locs) (hl : lv_has ls nL lv) (hM : Met l y (zws y cy nY ret) rm (va_Pc (.ref (ob E k) :: As) (zWd E σ)) Qc mc ms free) (hm : zMv y cy nY ret n) (hlink : Cond.methodLink own ix y ∈ zT) (hk : kd k = ci) {q : vw_C} (hc : vwCl[ci]? = some q) (hq : q.1 = y.cls) (hn : As.length = n) (hrm : rm.cells = mc ∧ rm.slots = ms) (hR : zfit rm nY R = true) (hcat : (st.map fun v => v.category).sum ≤ 8) (hdg : decode cc pc = .ok (.invokevirtual ix, 3)) (hf : ce + mc ≤ R.cells ∧ sl + ms ≤ R.slots) : va_Run p l e R s m args below meth c H locs ce sl mc ms (F0 m pc ls (As.reverse ++ .ref (ob E k) :: st)) st (Qc (Value.ref (ob E k) :: As).toArray) free := by
  have hci : ci < 11 := by
    rcases Nat.lt_or_ge ci 11 with h | h
    · exact h
    · rw [List.getElem?_eq_none (by simpa [vwCl] using h)] at hc; cases hc
  obtain ⟨fs, hz⟩ := zobj hk hci E σ
  obtain ⟨⟨m1, m2, m3, m4, m5⟩, m6, m7⟩ := hm
  have hrecv := va_recv C.known hP hc (a := ob E k) (q0 := k) (fs := fs) (by rw [zW_at E σ (kd_lt hk (by omega)), hz])
  rw [hq] at hrecv
  refine va_runV (C := y.cls) (index := ix) (bytes := cy) (maxL := nY) (ret := ret) (n := n) ⟨C.exec, C.code, C.maxL, C.cls, C.words⟩ hM (cwV n C.words (zgood fun w hw => ?_) rfl hrm.1 hrm.2 ⟨rfl, m3, m4, m5⟩ (zfit_of hR).1) ⟨zPc_blind _ E σ, hrecv, fun U hU hW => ⟨rfl, zwd_of C hP hS hU hW⟩⟩ rfl hn hl.1 rfl (lv_room hcat) hdg hf
  rcases List.mem_append.mp hw with h | h
  · simp only [List.mem_cons, List.not_mem_nil, or_false] at h
    rcases h with rfl | rfl | rfl | rfl
    · exact hlink
    · exact m6
    · exact m7
    · exact m2
  · exact zgood_ws m1 w h
theorem zrunS (C : zX p l s m args meth c cc own nL E) {ret : Option FieldType} {Qc : Array Value → State → Outcome → State → Prop} {mc ms n ix : Nat} {free : Addr → Prop} {H : Heap} {locs : List Loc} {ls : Array Slot} (hP : va_P E.1 vwCl (zW E σ) H) (hS : va_S (zA E) s.heap H locs) (hl : lv_has ls nL lv) (hM : Met l y (zws y cy nY ret) rm (va_Pc As (zWd E σ)) Qc mc ms free) (hm : zMst y cy nY ret n) (hlink : Cond.methodLink own ix y ∈ zT) (hn : As.length = n) (hrm : rm.cells = mc ∧ rm.slots = ms) (hR : zfit rm nY R = true) (hcat : (st.map fun v => v.category).sum ≤ 8) (hdg : decode cc pc = .ok (.invokestatic ix, 3)) (hf : ce + mc ≤ R.cells ∧ sl + ms ≤ R.slots) : va_Run p l e R s m args below meth c H locs ce sl mc ms (F0 m pc ls (As.reverse ++ st)) st (Qc As.toArray) free := by
  obtain ⟨⟨m1, m2, m3, m4, m5⟩, m6⟩ := hm
  refine va_runS (index := ix) (bytes := cy) (maxL := nY) (ret := ret) (n := n) ⟨C.exec, C.code, C.maxL, C.cls, C.words⟩ hM (va_cwS n C.words (zgood fun w hw => ?_) rfl hrm.1 hrm.2 ⟨m3, m4, m5⟩ (zfit_of hR).1) ⟨zPc_blind _ E σ, fun U hU hW => ⟨rfl, zwd_of C hP hS hU hW⟩⟩ rfl hn hl.1 rfl (lv_room hcat) hdg hf
  rcases List.mem_append.mp hw with h | h
  · simp only [List.mem_cons, List.not_mem_nil, or_false] at h
    rcases h with rfl | rfl | rfl
    · exact hlink
    · exact m6
    · exact m2
  · exact zgood_ws m1 w h
theorem zv_cvi (C : zX p l s m args meth c cc own nL E) {rt : FieldType} {post : Int32 → zS → Prop} {n ix ci k : Nat} (hM : zRi l E y cy nY rt rm (.ref (ob E k) :: As) σ post) (hm : zMv y cy nY (some rt) n) (hlink : Cond.methodLink own ix y ∈ zT) (hk : kd k = ci) {q : vw_C} (hc : vwCl[ci]? = some q) (hq : q.1 = y.cls) (hn : As.length = n) (hrm : rm.cells = 0 ∧ rm.slots = 0) (hR : zfit rm nY R = true) (hcat : (st.map fun v => v.category).sum ≤ 8) (hdg : decode cc pc = .ok (.invokevirtual ix, 3)) (hf : ce ≤ R.cells ∧ sl ≤ R.slots) (kk : ∀ (r : Int32) (τ : zS), post r τ → zV p l e R s m args below meth c nL E Q ce sl τ (pc + 3) lv (.int r :: st)) : zV p l e R s m args below meth c nL E Q ce sl σ pc lv (As.reverse ++ .ref (ob E k) :: st) := fun H locs ls hP hS hl =>
  va_calli (zrunV C hP hS hl hM hm hlink hk hc hq hn hrm hR hcat hdg hf) hS (fun _ _ h => h) (fun _ h => h) (fun r u t H1 locs1 ht _ hp hB _ _ hS1 => kk r u hp H1 locs1 ls (by rw [← ht]; exact hB) hS1 hl)
theorem zv_csi (C : zX p l s m args meth c cc own nL E) {rt : FieldType} {post : Int32 → zS → Prop} {n ix : Nat} (hM : zRi l E y cy nY rt rm As σ post) (hm : zMst y cy nY (some rt) n) (hlink : Cond.methodLink own ix y ∈ zT) (hn : As.length = n) (hrm : rm.cells = 0 ∧ rm.slots = 0) (hR : zfit rm nY R = true) (hcat : (st.map fun v => v.category).sum ≤ 8) (hdg : decode cc pc = .ok (.invokestatic ix, 3)) (hf : ce ≤ R.cells ∧ sl ≤ R.slots) (kk : ∀ (r : Int32) (τ : zS), post r τ → zV p l e R s m args below meth c nL E Q ce sl τ (pc + 3) lv (.int r :: st)) : zV p l e R s m args below meth c nL E Q ce sl σ pc lv (As.reverse ++ st) := fun H locs ls hP hS hl =>
  va_calli (zrunS C hP hS hl hM hm hlink hn hrm hR hcat hdg hf) hS (fun _ _ h => h) (fun _ h => h) (fun r u t H1 locs1 ht _ hp hB _ _ hS1 => kk r u hp H1 locs1 ls (by rw [← ht]; exact hB) hS1 hl)
theorem zv_cvl (C : zX p l s m args meth c cc own nL E) {post : Int64 → zS → Prop} {n ix ci k : Nat} (hM : zRl l E y cy nY rm (.ref (ob E k) :: As) σ post) (hm : zMv y cy nY (some .long) n) (hlink : Cond.methodLink own ix y ∈ zT) (hk : kd k = ci) {q : vw_C} (hc : vwCl[ci]? = some q) (hq : q.1 = y.cls) (hn : As.length = n) (hrm : rm.cells = 0 ∧ rm.slots = 0) (hR : zfit rm nY R = true) (hcat : (st.map fun v => v.category).sum ≤ 8) (hdg : decode cc pc = .ok (.invokevirtual ix, 3)) (hf : ce ≤ R.cells ∧ sl ≤ R.slots) (kk : ∀ (r : Int64) (τ : zS), post r τ → zV p l e R s m args below meth c nL E Q ce sl τ (pc + 3) lv (.long r :: st)) : zV p l e R s m args below meth c nL E Q ce sl σ pc lv (As.reverse ++ .ref (ob E k) :: st) := fun H locs ls hP hS hl =>
  va_calll (zrunV C hP hS hl hM hm hlink hk hc hq hn hrm hR hcat hdg hf) hS (fun _ _ h => h) (fun _ h => h) (fun r u t H1 locs1 ht _ hp hB _ _ hS1 => kk r u hp H1 locs1 ls (by rw [← ht]; exact hB) hS1 hl)
theorem zv_csl (C : zX p l s m args meth c cc own nL E) {post : Int64 → zS → Prop} {n ix : Nat} (hM : zRl l E y cy nY rm As σ post) (hm : zMst y cy nY (some .long) n) (hlink : Cond.methodLink own ix y ∈ zT) (hn : As.length = n) (hrm : rm.cells = 0 ∧ rm.slots = 0) (hR : zfit rm nY R = true) (hcat : (st.map fun v => v.category).sum ≤ 8) (hdg : decode cc pc = .ok (.invokestatic ix, 3)) (hf : ce ≤ R.cells ∧ sl ≤ R.slots) (kk : ∀ (r : Int64) (τ : zS), post r τ → zV p l e R s m args below meth c nL E Q ce sl τ (pc + 3) lv (.long r :: st)) : zV p l e R s m args below meth c nL E Q ce sl σ pc lv (As.reverse ++ st) := fun H locs ls hP hS hl =>
  va_calll (zrunS C hP hS hl hM hm hlink hn hrm hR hcat hdg hf) hS (fun _ _ h => h) (fun _ h => h) (fun r u t H1 locs1 ht _ hp hB _ _ hS1 => kk r u hp H1 locs1 ls (by rw [← ht]; exact hB) hS1 hl)
theorem zv_cvf (C : zX p l s m args meth c cc own nL E) {post : UInt32 → zS → Prop} {n ix ci k : Nat} (hM : zRf l E y cy nY rm (.ref (ob E k) :: As) σ post) (hm : zMv y cy nY (some .float) n) (hlink : Cond.methodLink own ix y ∈ zT) (hk : kd k = ci) {q : vw_C} (hc : vwCl[ci]? = some q) (hq : q.1 = y.cls) (hn : As.length = n) (hrm : rm.cells = 0 ∧ rm.slots = 0) (hR : zfit rm nY R = true) (hcat : (st.map fun v => v.category).sum ≤ 8) (hdg : decode cc pc = .ok (.invokevirtual ix, 3)) (hf : ce ≤ R.cells ∧ sl ≤ R.slots) (kk : ∀ (r : UInt32) (τ : zS), post r τ → zV p l e R s m args below meth c nL E Q ce sl τ (pc + 3) lv (.float r :: st)) : zV p l e R s m args below meth c nL E Q ce sl σ pc lv (As.reverse ++ .ref (ob E k) :: st) := fun H locs ls hP hS hl =>
  va_callf (zrunV C hP hS hl hM hm hlink hk hc hq hn hrm hR hcat hdg hf) hS (fun _ _ h => h) (fun _ h => h) (fun r u t H1 locs1 ht _ hp hB _ _ hS1 => kk r u hp H1 locs1 ls (by rw [← ht]; exact hB) hS1 hl)
theorem zv_csf (C : zX p l s m args meth c cc own nL E) {post : UInt32 → zS → Prop} {n ix : Nat} (hM : zRf l E y cy nY rm As σ post) (hm : zMst y cy nY (some .float) n) (hlink : Cond.methodLink own ix y ∈ zT) (hn : As.length = n) (hrm : rm.cells = 0 ∧ rm.slots = 0) (hR : zfit rm nY R = true) (hcat : (st.map fun v => v.category).sum ≤ 8) (hdg : decode cc pc = .ok (.invokestatic ix, 3)) (hf : ce ≤ R.cells ∧ sl ≤ R.slots) (kk : ∀ (r : UInt32) (τ : zS), post r τ → zV p l e R s m args below meth c nL E Q ce sl τ (pc + 3) lv (.float r :: st)) : zV p l e R s m args below meth c nL E Q ce sl σ pc lv (As.reverse ++ st) := fun H locs ls hP hS hl =>
  va_callf (zrunS C hP hS hl hM hm hlink hn hrm hR hcat hdg hf) hS (fun _ _ h => h) (fun _ h => h) (fun r u t H1 locs1 ht _ hp hB _ _ hS1 => kk r u hp H1 locs1 ls (by rw [← ht]; exact hB) hS1 hl)
theorem zv_cvv (C : zX p l s m args meth c cc own nL E) {post : zS → Prop} {n ix ci k : Nat} (hM : zRv l E y cy nY rm (.ref (ob E k) :: As) σ post) (hm : zMv y cy nY none n) (hlink : Cond.methodLink own ix y ∈ zT) (hk : kd k = ci) {q : vw_C} (hc : vwCl[ci]? = some q) (hq : q.1 = y.cls) (hn : As.length = n) (hrm : rm.cells = 0 ∧ rm.slots = 0) (hR : zfit rm nY R = true) (hcat : (st.map fun v => v.category).sum ≤ 8) (hdg : decode cc pc = .ok (.invokevirtual ix, 3)) (hf : ce ≤ R.cells ∧ sl ≤ R.slots) (kk : ∀ (τ : zS), post τ → zV p l e R s m args below meth c nL E Q ce sl τ (pc + 3) lv ( st)) : zV p l e R s m args below meth c nL E Q ce sl σ pc lv (As.reverse ++ .ref (ob E k) :: st) := fun H locs ls hP hS hl =>
  va_callv (zrunV C hP hS hl hM hm hlink hk hc hq hn hrm hR hcat hdg hf) hS (fun _ _ h => h) (fun _ h => h) (fun u t H1 locs1 ht _ hp hB _ _ hS1 => kk u hp H1 locs1 ls (by rw [← ht]; exact hB) hS1 hl)
theorem zv_csv (C : zX p l s m args meth c cc own nL E) {post : zS → Prop} {n ix : Nat} (hM : zRv l E y cy nY rm As σ post) (hm : zMst y cy nY none n) (hlink : Cond.methodLink own ix y ∈ zT) (hn : As.length = n) (hrm : rm.cells = 0 ∧ rm.slots = 0) (hR : zfit rm nY R = true) (hcat : (st.map fun v => v.category).sum ≤ 8) (hdg : decode cc pc = .ok (.invokestatic ix, 3)) (hf : ce ≤ R.cells ∧ sl ≤ R.slots) (kk : ∀ (τ : zS), post τ → zV p l e R s m args below meth c nL E Q ce sl τ (pc + 3) lv ( st)) : zV p l e R s m args below meth c nL E Q ce sl σ pc lv (As.reverse ++ st) := fun H locs ls hP hS hl =>
  va_callv (zrunS C hP hS hl hM hm hlink hn hrm hR hcat hdg hf) hS (fun _ _ h => h) (fun _ h => h) (fun u t H1 locs1 ht _ hp hB _ _ hS1 => kk u hp H1 locs1 ls (by rw [← ht]; exact hB) hS1 hl)
theorem zv_cvr (C : zX p l s m args meth c cc own nL E) {rt : FieldType} {post : zS → Prop} {n ix ci k kr : Nat} (hM : zRr l E y cy nY rt rm (.ref (ob E k) :: As) σ kr post) (hm : zMv y cy nY (some rt) n) (hlink : Cond.methodLink own ix y ∈ zT) (hk : kd k = ci) {q : vw_C} (hc : vwCl[ci]? = some q) (hq : q.1 = y.cls) (hn : As.length = n) (hrm : rm.cells = 0 ∧ rm.slots = 0) (hR : zfit rm nY R = true) (hcat : (st.map fun v => v.category).sum ≤ 8) (hdg : decode cc pc = .ok (.invokevirtual ix, 3)) (hf : ce ≤ R.cells ∧ sl ≤ R.slots) (kk : ∀ (τ : zS), post τ → zV p l e R s m args below meth c nL E Q ce sl τ (pc + 3) lv (.ref (ob E kr) :: st)) : zV p l e R s m args below meth c nL E Q ce sl σ pc lv (As.reverse ++ .ref (ob E k) :: st) := fun H locs ls hP hS hl =>
  va_callr (zrunV C hP hS hl hM hm hlink hk hc hq hn hrm hR hcat hdg hf) hS (fun _ _ h => h) (fun _ h => h) (fun u a t H1 locs1 ht _ hp hB _ _ hS1 => by
    obtain ⟨rfl, hB⟩ := hB
    exact kk u hp H1 locs1 ls (by rw [← ht]; exact hB) hS1 hl)
theorem zv_throwS (C : zX p l s m args meth c cc own nL E) {X text : String} {names : List String} {ik is ic : Nat} (hout : ∀ x ∈ c.exceptionTable.toList, False) (hown : own = "PlanetDrive") (hk : Cond.classLink own ik X ∈ zT) (hini : Cond.initialized X ∈ zT) (hmsg : (is, text) ∈ zMs) (hfit : Bundle.fit X = true) (hnames : ∀ n ∈ names, Bundle.fit n = true) (hat : ∀ w ∈ vx_atS own ic X names, w ∈ zT ∨ w ∈ zNw) (hgood : ∀ w ∈ Cond.classLink own ik X :: Cond.initialized X :: vx_atS own ic X names, vx_ot w = true)
    (d0 : decode cc pc = .ok (.new ik, 3)) (d3 : decode cc (pc + 3) = .ok (.dup, 1)) (d4 : decode cc (pc + 4) = .ok (.ldc is, 2)) (d6 : decode cc (pc + 6) = .ok (.invokespecial ic, 3)) (d9 : decode cc (pc + 9) = .ok (.athrow, 1))
    (hRf : names.length + 3 < R.frames) (hRl : (st.map fun v => v.category).sum + (13 * (names.length + 1) + 43) ≤ R.locals) (hRc : 1 ≤ R.cells ∧ 6 ≤ R.slots) : zV p l e R s m args below meth c nL E (vx_MQ below (fun _ _ _ _ => False) (vx_X (fun u : zS => u = σ) (fun Y u t => Y = X ∧ zWp E u t) (zA E)) args s 1 6 (zA E)) 0 0 σ pc lv st := fun H locs ls hP hS hl => by
  subst hown
  obtain ⟨a, ha⟩ := C.consts.2.2.2.2.2.2.2.2.1 _ hmsg
  refine vx_throwS C.exec C.code C.noTrace C.cls hfit hnames (C.words _ hk) (C.words _ hini) ha (fun w hw => ?_) hgood C.consts.2.2.2.2.2.1 C.consts.2.2.2.2.2.2.1 hS (hl.1.trans C.maxL.symm) d0 d3 d4 d6 d9 (fun x hx => (hout x hx).elim) hRf hRl hRc.1 hRc.2 C.locks (fun t _ h1 h2 => ⟨σ, rfl, ⟨rfl, hP.kept fun k q hq => h2 q.1 (hP k q hq).lt⟩, Nat.le_trans hS.1 h1, fun q h3 h4 => ?_⟩) hS.2.2 (Nat.le_refl _) (Nat.le_refl _)
  · rcases hat w hw with h | h
    · exact C.words w h
    · have hz := C.consts.2.2.2.2.2.2.2.2.2.2.1 w h
      have hk := (List.mem_filter.mp h).2
      exact va_Nw.use (by cases w <;> first | rfl | (simp [zNk] at hk)) hz
  · rw [h2 q (Nat.lt_of_lt_of_le h3 hS.1)]
    exact hS.2.1 q h3 h4
theorem zv_throwW (C : zX p l s m args meth c cc own nL E) {X text : String} {names : List String} {ik is ic : Nat} (hout : ∀ x ∈ c.exceptionTable.toList, False) (hown : own = "PlanetDrive") (hk : Cond.classLink own ik X ∈ zT) (hini : Cond.initialized X ∈ zT) (hmsg : (is, text) ∈ zMs) (hfit : Bundle.fit X = true) (hnames : ∀ n ∈ names, Bundle.fit n = true) (hat : ∀ w ∈ vx_atS own ic X names, w ∈ zT ∨ w ∈ zNw) (hgood : ∀ w ∈ Cond.classLink own ik X :: Cond.initialized X :: vx_atS own ic X names, vx_ot w = true)
    (d0 : decode cc pc = .ok (.new ik, 3)) (d3 : decode cc (pc + 3) = .ok (.dup, 1)) (d4 : decode cc (pc + 4) = .ok (.ldc_w is, 3)) (d6 : decode cc (pc + 7) = .ok (.invokespecial ic, 3)) (d9 : decode cc (pc + 10) = .ok (.athrow, 1))
    (hRf : names.length + 3 < R.frames) (hRl : (st.map fun v => v.category).sum + (13 * (names.length + 1) + 43) ≤ R.locals) (hRc : 1 ≤ R.cells ∧ 6 ≤ R.slots) : zV p l e R s m args below meth c nL E (vx_MQ below (fun _ _ _ _ => False) (vx_X (fun u : zS => u = σ) (fun Y u t => Y = X ∧ zWp E u t) (zA E)) args s 1 6 (zA E)) 0 0 σ pc lv st := fun H locs ls hP hS hl => by
  subst hown
  obtain ⟨a, ha⟩ := C.consts.2.2.2.2.2.2.2.2.1 _ hmsg
  refine vx_throwSW C.exec C.code C.noTrace C.cls hfit hnames (C.words _ hk) (C.words _ hini) ha (fun w hw => ?_) hgood C.consts.2.2.2.2.2.1 C.consts.2.2.2.2.2.2.1 hS (hl.1.trans C.maxL.symm) d0 d3 d4 d6 d9 (fun x hx => (hout x hx).elim) hRf hRl hRc.1 hRc.2 C.locks (fun t _ h1 h2 => ⟨σ, rfl, ⟨rfl, hP.kept fun k q hq => h2 q.1 (hP k q hq).lt⟩, Nat.le_trans hS.1 h1, fun q h3 h4 => ?_⟩) hS.2.2 (Nat.le_refl _) (Nat.le_refl _)
  · rcases hat w hw with h | h
    · exact C.words w h
    · have hz := C.consts.2.2.2.2.2.2.2.2.2.2.1 w h
      have hk := (List.mem_filter.mp h).2
      exact va_Nw.use (by cases w <;> first | rfl | (simp [zNk] at hk)) hz
  · rw [h2 q (Nat.lt_of_lt_of_le h3 hS.1)]
    exact hS.2.1 q h3 h4
/-- a call that throws: it goes on to the caller -/
theorem zv_out (C : zX p l s m args meth c cc own nL E) {X : String} {σ0 : zS} {H : Heap} {locs : List Loc} {ls : Array Slot} (hout : ∀ x ∈ c.exceptionTable.toList, False) (hS : va_S (zA E) s.heap H locs) (hr : vx_Run p l e R s m args below meth c H locs 0 0 1 6 (F0 m pc ls lv0) st (fun (_ : State) (_ : Outcome) (_ : State) => False) (vx_X (fun u : zS => u = σ0) (fun Y u t => Y = X ∧ zWp E u t) (zA E)) (zA E)) : W p l e R s m args below meth c H locs 0 0 (vx_MQ below (fun _ _ _ _ => False) (vx_X (fun u : zS => u = σ0) (fun Y u t => Y = X ∧ zWp E u t) (zA E)) args s 1 6 (zA E)) (F0 m pc ls lv0) := by
  intro T hT Xs
  rcases hr T hT Xs with ⟨v, st₀, t, T', L, -, -, -, -, -, hF, -⟩ | ⟨q, st₀, t, T', L, Ex, cell, h0, X', hL, e1, e2, ⟨u, rfl, ⟨rfl, hB⟩, hF⟩, hce, hcv, hcl, stp⟩
  · exact hF.elim
  · obtain ⟨k1, k2, k3⟩ := vx_keep (A1 := zA E) h0 e1 hS (fun _ _ h => h) (fun _ h => h) hL hF
    have hP1 : va_P E.1 vwCl (zW E u) T'.heap := by rw [e1]; exact hB
    obtain ⟨t2, a1, b1⟩ := vx_out (mc := 1) (ms := 6) (Qc := fun _ _ _ _ => False) (XC := vx_X (fun w : zS => w = u) (fun Y w t => Y = Ex ∧ zWp E w t) (zA E)) (free := zA E) (pc := pc) (ls := ls) (rest := st) (fun x hx => (hout x hx).elim) C.locks (H := T'.heap) (by rw [e1]; exact hce) hcv hcl (fun t ht _ => ⟨u, rfl, ⟨rfl, by show va_P _ _ _ t.heap; rw [ht]; exact hP1⟩, k3.F ht⟩) k3.2.2 (Nat.le_refl _) (Nat.le_refl _) T' rfl X'
    exact ⟨t2, stp.trans a1, b1⟩
theorem zv_xcv (C : zX p l s m args meth c cc own nL E) {ret : Option FieldType} {n ix ci k : Nat} {X : String} (hM : zRx l E y cy nY ret rm (.ref (ob E k) :: As) σ X) (hout : ∀ x ∈ c.exceptionTable.toList, False) (hm : zMv y cy nY ret n) (hlink : Cond.methodLink own ix y ∈ zT) (hk : kd k = ci) {q : vw_C} (hc : vwCl[ci]? = some q) (hq : q.1 = y.cls) (hn : As.length = n) (hrm : rm.cells = 1 ∧ rm.slots = 6) (hR : zfit rm nY R = true) (hcat : (st.map fun v => v.category).sum ≤ 8) (hdg : decode cc pc = .ok (.invokevirtual ix, 3)) : zV p l e R s m args below meth c nL E (vx_MQ below (fun _ _ _ _ => False) (vx_X (fun u : zS => u = σ) (fun Y u t => Y = X ∧ zWp E u t) (zA E)) args s 1 6 (zA E)) 0 0 σ pc lv (As.reverse ++ .ref (ob E k) :: st) := fun H locs ls hP hS hl => by
  have hci : ci < 11 := by
    rcases Nat.lt_or_ge ci 11 with h | h
    · exact h
    · rw [List.getElem?_eq_none (by simpa [vwCl] using h)] at hc; cases hc
  obtain ⟨fs, hz⟩ := zobj hk hci E σ
  obtain ⟨⟨m1, m2, m3, m4, m5⟩, m6, m7⟩ := hm
  have hrecv := va_recv C.known hP hc (a := ob E k) (q0 := k) (fs := fs) (by rw [zW_at E σ (kd_lt hk (by omega)), hz])
  rw [hq] at hrecv
  have hf := (zfit_of hR).2
  rw [hrm.1, hrm.2] at hf
  refine zv_out C hout hS (vx_runV (C := y.cls) (index := ix) (bytes := cy) (maxL := nY) (ret := ret) (n := n) ⟨C.exec, C.code, C.maxL, C.cls, C.words⟩ hM (cwV n C.words (zgood fun w hw => ?_) rfl hrm.1 hrm.2 ⟨rfl, m3, m4, m5⟩ (zfit_of hR).1) ⟨zPc_blind _ E σ, hrecv, fun U hU hW => ⟨rfl, zwd_of C hP hS hU hW⟩⟩ rfl hn hl.1 rfl (lv_room hcat) hdg ⟨by omega, by omega⟩)
  rcases List.mem_append.mp hw with h | h
  · simp only [List.mem_cons, List.not_mem_nil, or_false] at h
    rcases h with rfl | rfl | rfl | rfl
    · exact hlink
    · exact m6
    · exact m7
    · exact m2
  · exact zgood_ws m1 w h
theorem zv_xcs (C : zX p l s m args meth c cc own nL E) {ret : Option FieldType} {n ix : Nat} {X : String} (hM : zRx l E y cy nY ret rm As σ X) (hout : ∀ x ∈ c.exceptionTable.toList, False) (hm : zMst y cy nY ret n) (hlink : Cond.methodLink own ix y ∈ zT) (hn : As.length = n) (hrm : rm.cells = 1 ∧ rm.slots = 6) (hR : zfit rm nY R = true) (hcat : (st.map fun v => v.category).sum ≤ 8) (hdg : decode cc pc = .ok (.invokestatic ix, 3)) : zV p l e R s m args below meth c nL E (vx_MQ below (fun _ _ _ _ => False) (vx_X (fun u : zS => u = σ) (fun Y u t => Y = X ∧ zWp E u t) (zA E)) args s 1 6 (zA E)) 0 0 σ pc lv (As.reverse ++ st) := fun H locs ls hP hS hl => by
  obtain ⟨⟨m1, m2, m3, m4, m5⟩, m6⟩ := hm
  have hf := (zfit_of hR).2
  rw [hrm.1, hrm.2] at hf
  refine zv_out C hout hS (vx_runS (index := ix) (bytes := cy) (maxL := nY) (ret := ret) (n := n) ⟨C.exec, C.code, C.maxL, C.cls, C.words⟩ hM (va_cwS n C.words (zgood fun w hw => ?_) rfl hrm.1 hrm.2 ⟨m3, m4, m5⟩ (zfit_of hR).1) ⟨zPc_blind _ E σ, fun U hU hW => ⟨rfl, zwd_of C hP hS hU hW⟩⟩ rfl hn hl.1 rfl (lv_room hcat) hdg ⟨by omega, by omega⟩)
  rcases List.mem_append.mp hw with h | h
  · simp only [List.mem_cons, List.not_mem_nil, or_false] at h
    rcases h with rfl | rfl | rfl
    · exact hlink
    · exact m6
    · exact m2
  · exact zgood_ws m1 w h
end
