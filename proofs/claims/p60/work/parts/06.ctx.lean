/-! what lies at the start already and is never written: the words' constants, the literals, the statics of Throwable, which classes don't pass for which -/
def zWn : List String := ["STOCK", "START", "SLACK", "BODY", "PERIOD", "RETRO", "ON", "TRAIN", "GEAR_PART", "RING_PART", "IDLER_PART"]
def zWl : List Int64 := [495874696043, 495873782388, 495739560811, 1651467385, 123581013520228, 491328402031, 28526, 500135192942, 1734697330, 1919512167, 452656391538]
def zNk : Cond → Bool
  | .methodLinkNest .. => true
  | .castable .. => true
  | .declares _ => true
  | _ => false
def zNw : List Cond := tables_1.filter zNk
def zCst (E : zE) (s : State) (H : Heap) : Prop :=
  (∀ i, i < 11 → va_Z "PlanetDrive$Word" (zWn.getD i "") "LPlanetDrive$Word;" (.ref (cad E i)) (zA E) s H ∧ va_OF "PlanetDrive$Word" "letters" "J" (.long (zWl.getD i 0)) (cad E i) (zA E) s H) ∧
  va_Z "PlanetDrive$Word" "ALL" "[LPlanetDrive$Word;" (.ref (cad E 11)) (zA E) s H ∧ va_T (.object "PlanetDrive$Word") (cad E 11) 11 (fun j => .ref (cad E j)) (zA E) s H ∧
  (∀ w ∈ zNw, va_Nw w s) ∧ va_AO "PlanetDrive$State" s ∧ va_AO "PlanetDrive$Train" s
theorem zCst_kept {E : zE} {s : State} {H H1 : Heap} (h : zCst E s H) (hq : ∀ a : Nat, a < H.size → ¬ zA E a → H1[a]? = H[a]?) : zCst E s H1 := by
  obtain ⟨h1, h2, h3, h4, h5, h6⟩ := h
  exact ⟨fun i hi => ⟨(h1 i hi).1.kept hq, (h1 i hi).2.kept hq⟩, h2.kept hq, h3.kept hq, h4, h5, h6⟩
theorem zNw_warm {s U : State} (hW : s.WarmedH U.vm) : ∀ w ∈ zNw, va_Nw w s → va_Nw w U := by
  intro w hw h
  have hk := (List.mem_filter.mp hw).2
  cases w <;> first | exact va_Nw.warmM hW h | exact va_Nw.warmC hW h | exact va_Nw.warmD hW h | (simp [zNk] at hk)
theorem zCst_warm {E : zE} {s U : State} {H : Heap} (hW : s.WarmedH U.vm) (h : zCst E s H) : zCst E U H := by
  obtain ⟨h1, h2, h3, h4, h5, h6⟩ := h
  have ha := hW.alike
  exact ⟨fun i hi => ⟨va_Z.moved ha (h1 i hi).1, va_OF.moved ha (h1 i hi).2⟩, va_Z.moved ha h2, va_T.moved ha h3, fun w hw => zNw_warm hW w hw (h4 w hw), va_AO.moved ha h5, va_AO.moved ha h6⟩
/-- the world as a state holds it -/
def zWd (E : zE) (σ : zS) (U : State) : Prop := va_P E.1 vwCl (zW E σ) U.heap ∧ va_K E.1 vwCl (zTy E) U ∧ zCst E U U.heap
theorem zWd_calling {E : zE} {σ : zS} {U : State} (g : JFrame) (mk : MethodId) (a : Array Value) (h : zWd E σ U) : zWd E σ (U.calling g mk a) := by
  obtain ⟨h1, h2, h3⟩ := h
  exact ⟨h1, va_K.moved (u := U) (U := U.calling g mk a) (Vm.Alike.refl U.vm) h2, zCst_warm (s := U) (U := U.calling g mk a) (State.WarmedH.refl U) h3⟩
section
variable {p : Program} {l : Launch} {e : Env} {R : Room} {s : State} {m : MethodId} {args : Array Value} {below : List Frame} {meth : Method} {c : Code} {cc : ByteArray} {own : String} {nL : Nat} {E : zE}
/-- what stays the same while a method runs -/
def zX (p : Program) (l : Launch) (s : State) (m : MethodId) (args : Array Value) (meth : Method) (c : Code) (cc : ByteArray) (own : String) (nL : Nat) (E : zE) : Prop :=
  p.tables.exec = Jvm.exec ∧ c.code = cc ∧ c.maxLocals = nL ∧ s.vm.findClass own = some m.cls ∧ (∀ w ∈ zT, w.before args s = true) ∧ va_K E.1 vwCl (zTy E) s ∧ zCst E s s.heap ∧ meth.locks = false
theorem zX.exec (C : zX p l s m args meth c cc own nL E) : p.tables.exec = Jvm.exec := C.1
theorem zX.code (C : zX p l s m args meth c cc own nL E) : c.code = cc := C.2.1
theorem zX.maxL (C : zX p l s m args meth c cc own nL E) : c.maxLocals = nL := C.2.2.1
theorem zX.cls (C : zX p l s m args meth c cc own nL E) : s.vm.findClass own = some m.cls := C.2.2.2.1
theorem zX.words (C : zX p l s m args meth c cc own nL E) : ∀ w ∈ zT, w.before args s = true := C.2.2.2.2.1
theorem zX.known (C : zX p l s m args meth c cc own nL E) : va_K E.1 vwCl (zTy E) s := C.2.2.2.2.2.1
theorem zX.consts (C : zX p l s m args meth c cc own nL E) : zCst E s s.heap := C.2.2.2.2.2.2.1
theorem zX.locks (C : zX p l s m args meth c cc own nL E) : meth.locks = false := C.2.2.2.2.2.2.2
/-- from this place, with this world, these locals and this stack, the machine comes to a state with Q -/
def zV (p : Program) (l : Launch) (e : Env) (R : Room) (s : State) (m : MethodId) (args : Array Value) (below : List Frame) (meth : Method) (c : Code) (nL : Nat) (E : zE) (Q : State → Prop) (ce sl : Nat) (σ : zS) (pc : Nat) (lv : List (Nat × Value)) (st : List Value) : Prop :=
  ∀ (H : Heap) (locs : List Loc) (ls : Array Slot), va_P E.1 vwCl (zW E σ) H → va_S (zA E) s.heap H locs → lv_has ls nL lv → W p l e R s m args below meth c H locs ce sl Q (F0 m pc ls st)
theorem zwd_of (C : zX p l s m args meth c cc own nL E) {σ : zS} {H : Heap} {locs : List Loc} (hP : va_P E.1 vwCl (zW E σ) H) (hS : va_S (zA E) s.heap H locs) {U : State} (hU : U.heap = H) (hW : s.WarmedH U.vm) : zWd E σ U := by
  refine ⟨by rw [hU]; exact hP, va_K.moved hW.alike C.known, ?_⟩
  rw [hU]
  exact zCst_warm hW (zCst_kept C.consts hS.2.1)
/-- the world's cells alone: what a method hands back -/
def zWp (E : zE) (σ : zS) (U : State) : Prop := va_P E.1 vwCl (zW E σ) U.heap
/-- a method's contract, when it returns: an int (long, ..), the world behind it -/
abbrev zws (y : MethodName) (cc : ByteArray) (nL : Nat) (ret : Option FieldType) : List Cond := .code y cc nL ret :: zT
def zRi (l : Launch) (E : zE) (y : MethodName) (cc : ByteArray) (nL : Nat) (rt : FieldType) (rm : Room) (As : List Value) (σ : zS) (post : Int32 → zS → Prop) : Prop := Met l y (zws y cc nL (some rt)) rm (va_Pc As (zWd E σ)) (va_Qi post (zWp E) (zA E)) 0 0 (zA E)
def zRl (l : Launch) (E : zE) (y : MethodName) (cc : ByteArray) (nL : Nat) (rm : Room) (As : List Value) (σ : zS) (post : Int64 → zS → Prop) : Prop := Met l y (zws y cc nL (some .long)) rm (va_Pc As (zWd E σ)) (va_Ql post (zWp E) (zA E)) 0 0 (zA E)
def zRf (l : Launch) (E : zE) (y : MethodName) (cc : ByteArray) (nL : Nat) (rm : Room) (As : List Value) (σ : zS) (post : UInt32 → zS → Prop) : Prop := Met l y (zws y cc nL (some .float)) rm (va_Pc As (zWd E σ)) (va_Qf post (zWp E) (zA E)) 0 0 (zA E)
def zRv (l : Launch) (E : zE) (y : MethodName) (cc : ByteArray) (nL : Nat) (rm : Room) (As : List Value) (σ : zS) (post : zS → Prop) : Prop := Met l y (zws y cc nL none) rm (va_Pc As (zWd E σ)) (va_Qv post (zWp E) (zA E)) 0 0 (zA E)
def zRr (l : Launch) (E : zE) (y : MethodName) (cc : ByteArray) (nL : Nat) (rt : FieldType) (rm : Room) (As : List Value) (σ : zS) (k : Nat) (post : zS → Prop) : Prop := Met l y (zws y cc nL (some rt)) rm (va_Pc As (zWd E σ)) (va_Qr post (fun u a t => a = ob E k ∧ zWp E u t) (zA E)) 0 0 (zA E)
theorem zX_of {y : MethodName} {ws : List Cond} {rm : Room} {ret : Option FieldType} {σ : zS} {s₁ : State} (hl : True) (B : BodyLoose p l y (headSpec ws rm) cc nL ret e s m args below meth c s₁) (hml : c.maxLocals = nL) (hw : ws = zws y cc nL ret) (hd : zWd E σ s) (hy : y.cls = own) : zX p l s m args meth c cc own nL E := by
  refine ⟨B.exec, B.bytes, hml, by rw [← hy]; exact findClass_of_methodNamed B.named, fun w h => ?_, hd.2.1, hd.2.2, B.notSynchronized⟩
  subst hw
  exact atoms_spec (ws := zws y cc nL ret) B.pre w (List.mem_cons_of_mem _ h)
theorem zV_start {Q : State → Prop} {σ : zS} {vs : List Value} {s₁ : State} (hd : zWd E σ s) (hn : (lg_sl vs).length ≤ nL) {lv : List (Nat × Value)} (hlv : lv_args 0 vs = lv) (k : zV p l e R s m args below meth c nL E Q 0 0 σ 0 lv []) : W p l e R s m args below meth c s.heap [] 0 0 Q (entryFrame m vs.toArray nL) := by
  subst hlv
  rw [lg_entry_eq]
  exact k _ _ _ hd.1 va_S.rf (lv_entry vs hn)
end
