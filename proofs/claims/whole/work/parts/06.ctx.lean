/-! what lies at the start already and is never written: the words' constants, the literals, the statics of Throwable, which classes don't pass for which -/
def zWn : List String := ["STOCK", "START", "SLACK", "BODY", "PERIOD", "RETRO", "ON", "TRAIN", "GEAR_PART", "RING_PART", "IDLER_PART"]
def zSw : List String := ["stock", "start", "slack", "body", "period", "retro", "on", "train", "gear", "ring", "idler"]
def zSx : List Nat := [126, 128, 130, 132, 134, 136, 138, 140, 142, 144, 146]
def zSb : List (List Int32) := [[115, 116, 111, 99, 107], [115, 116, 97, 114, 116], [115, 108, 97, 99, 107], [98, 111, 100, 121], [112, 101, 114, 105, 111, 100], [114, 101, 116, 114, 111], [111, 110], [116, 114, 97, 105, 110], [103, 101, 97, 114], [114, 105, 110, 103], [105, 100, 108, 101, 114]]
def zSn : List Nat := [5, 5, 5, 4, 6, 5, 2, 5, 4, 4, 5]
def zWl : List Int64 := [495874696043, 495873782388, 495739560811, 1651467385, 123581013520228, 491328402031, 28526, 500135192942, 1734697330, 1919512167, 452656391538]
def zMs : List (Nat × String) := [(167, "no such part"), (176, "no such place in the stock"), (236, "no such place in the order"), (247, "a later year is needed"), (270, "negative index"), (301, "fewer than two numbers in the stock"), (316, "no room for the part"), (318, "no part to remove"), (323, "the stock has it, or is full"), (370, "no state is saved"), (425, "no such body"), (428, "both bodies are the same"), (430, "a number is out of range"), (432, "the years run backward")]
def zNc : List (String × String) := [("java/lang/IllegalArgumentException", "java/lang/IndexOutOfBoundsException"), ("java/util/NoSuchElementException", "java/lang/IndexOutOfBoundsException"), ("java/lang/IllegalArgumentException", "java/util/NoSuchElementException"), ("java/util/NoSuchElementException", "java/lang/IllegalArgumentException"), ("java/lang/IllegalStateException", "java/lang/IndexOutOfBoundsException"), ("java/lang/IllegalStateException", "java/lang/IllegalArgumentException")]
def zNk : Cond → Bool
  | .methodLinkNest .. => true
  | .castable .. => true
  | .declares _ => true
  | _ => false
def zNw : List Cond := tables_1.filter zNk
def zCst (E : zE) (s : State) (H : Heap) : Prop :=
  (∀ i, i < 11 → va_Z "PlanetDrive$Word" (zWn.getD i "") "LPlanetDrive$Word;" (.ref (cad E i)) (zA E) s H ∧ va_OF "PlanetDrive$Word" "letters" "J" (.long (zWl.getD i 0)) (cad E i) (zA E) s H) ∧
  va_Z "PlanetDrive$Word" "ALL" "[LPlanetDrive$Word;" (.ref (cad E 11)) (zA E) s H ∧ va_T (.object "PlanetDrive$Word") (cad E 11) 11 (fun j => .ref (cad E j)) (zA E) s H ∧
  vk_S 11 zSn zSb (fun i => cad E (20 + i)) (fun i => cad E (40 + i)) (zA E) s H ∧ va_Z "java/lang/String" "COMPACT_STRINGS" "Z" (.int 1) (zA E) s H ∧
  vx_Zq Bundle.tN "UNASSIGNED_STACK" Bundle.steD (zA E) s H ∧ vx_Zq Bundle.tN "SUPPRESSED_SENTINEL" Bundle.listD (zA E) s H ∧
  (∀ i, i < 11 → vk_R "PlanetDriveModel" (zSx.getD i 0) (zSw.getD i "") (cad E (20 + i)) s) ∧ (∀ q ∈ zMs, ∃ a, vk_R "PlanetDrive" q.1 q.2 a s) ∧ (∀ q ∈ zNc, va_Nc q.1 q.2 s) ∧
  (∀ w ∈ zNw, va_Nw w s) ∧ va_AO "PlanetDrive$State" s ∧ va_AO "PlanetDrive$Train" s ∧ vx_Zq "jdk/internal/util/Preconditions" "SIOOBE_FORMATTER" "Ljava/util/function/BiFunction;" (zA E) s H
theorem zCst_kept {E : zE} {s : State} {H H1 : Heap} (h : zCst E s H) (hq : ∀ a : Nat, a < H.size → ¬ zA E a → H1[a]? = H[a]?) : zCst E s H1 := by
  obtain ⟨h1, h2, h3, h4, h5, h6, h7, h8, h9, h10, h11, h12, h13, h14⟩ := h
  exact ⟨fun i hi => ⟨(h1 i hi).1.kept hq, (h1 i hi).2.kept hq⟩, h2.kept hq, h3.kept hq, h4.kept hq, h5.kept hq, h6.kept hq, h7.kept hq, h8, h9, h10, h11, h12, h13, h14.kept hq⟩
theorem zNw_warm {s U : State} (hW : s.WarmedH U.vm) : ∀ w ∈ zNw, va_Nw w s → va_Nw w U := by
  intro w hw h
  have hk := (List.mem_filter.mp hw).2
  cases w <;> first | exact va_Nw.warmM hW h | exact va_Nw.warmC hW h | exact va_Nw.warmD hW h | (simp [zNk] at hk)
theorem zCst_warm {E : zE} {s U : State} {H : Heap} (hW : s.WarmedH U.vm) (h : zCst E s H) : zCst E U H := by
  obtain ⟨h1, h2, h3, h4, h5, h6, h7, h8, h9, h10, h11, h12, h13, h14⟩ := h
  have ha := hW.alike
  refine ⟨fun i hi => ⟨va_Z.moved ha (h1 i hi).1, va_OF.moved ha (h1 i hi).2⟩, va_Z.moved ha h2, va_T.moved ha h3, vk_S.moved ha h4, va_Z.moved ha h5, vx_Zq.moved ha h6, vx_Zq.moved ha h7, fun i hi => vk_R.warm hW (h8 i hi), fun q hq => ?_, fun q hq => ?_, fun w hw => ?_, va_AO.moved ha h12, va_AO.moved ha h13, vx_Zq.moved ha h14⟩
  · obtain ⟨a, g⟩ := h9 q hq
    exact ⟨a, vk_R.warm hW g⟩
  · exact va_Nc.moved ha (h10 q hq)
  · exact zNw_warm hW w hw (h11 w hw)
/-- the world as a state holds it -/
def zWd (E : zE) (σ : zS) (U : State) : Prop := va_P E.1 vwCl (zW E σ) U.heap ∧ va_K E.1 vwCl (zTy E) U ∧ zCst E U U.heap
theorem zWd_calling {E : zE} {σ : zS} {U : State} (g : JFrame) (mk : MethodId) (a : Array Value) (h : zWd E σ U) : zWd E σ (U.calling g mk a) := by
  obtain ⟨h1, h2, h3⟩ := h
  exact ⟨h1, va_K.moved (u := U) (U := U.calling g mk a) (Vm.Alike.refl U.vm) h2, zCst_warm (s := U) (U := U.calling g mk a) (State.WarmedH.refl U) h3⟩
section
variable {p : Program} {l : Launch} {e : Env} {R : Room} {s : State} {m : MethodId} {args : Array Value} {below : List Frame} {meth : Method} {c : Code} {cc : ByteArray} {own : String} {nL : Nat} {E : zE}
/-- what stays the same while a method runs -/
def zX (p : Program) (l : Launch) (s : State) (m : MethodId) (args : Array Value) (meth : Method) (c : Code) (cc : ByteArray) (own : String) (nL : Nat) (E : zE) : Prop :=
  p.tables.exec = Jvm.exec ∧ c.code = cc ∧ c.maxLocals = nL ∧ s.vm.findClass own = some m.cls ∧ (∀ w ∈ zT, w.before args s = true) ∧ va_K E.1 vwCl (zTy E) s ∧ zCst E s s.heap ∧ E.2.2.1 ≤ s.heap.size ∧ meth.locks = false ∧ l.stackTraces = false
theorem zX.exec (C : zX p l s m args meth c cc own nL E) : p.tables.exec = Jvm.exec := C.1
theorem zX.code (C : zX p l s m args meth c cc own nL E) : c.code = cc := C.2.1
theorem zX.maxL (C : zX p l s m args meth c cc own nL E) : c.maxLocals = nL := C.2.2.1
theorem zX.cls (C : zX p l s m args meth c cc own nL E) : s.vm.findClass own = some m.cls := C.2.2.2.1
theorem zX.words (C : zX p l s m args meth c cc own nL E) : ∀ w ∈ zT, w.before args s = true := C.2.2.2.2.1
theorem zX.known (C : zX p l s m args meth c cc own nL E) : va_K E.1 vwCl (zTy E) s := C.2.2.2.2.2.1
theorem zX.consts (C : zX p l s m args meth c cc own nL E) : zCst E s s.heap := C.2.2.2.2.2.2.1
theorem zX.size (C : zX p l s m args meth c cc own nL E) : E.2.2.1 ≤ s.heap.size := C.2.2.2.2.2.2.2.1
theorem zX.locks (C : zX p l s m args meth c cc own nL E) : meth.locks = false := C.2.2.2.2.2.2.2.2.1
theorem zX.noTrace (C : zX p l s m args meth c cc own nL E) : l.stackTraces = false := C.2.2.2.2.2.2.2.2.2
theorem zX.fresh (C : zX p l s m args meth c cc own nL E) : ∀ q, s.heap.size ≤ q → zA E q := fun q h => by
  have := C.size
  show E.2.2.1 ≤ q
  omega
/-- from this place, with this world, these locals and this stack, the machine comes to a state with Q -/
def zV (p : Program) (l : Launch) (e : Env) (R : Room) (s : State) (m : MethodId) (args : Array Value) (below : List Frame) (meth : Method) (c : Code) (nL : Nat) (E : zE) (Q : State → Prop) (ce sl : Nat) (σ : zS) (pc : Nat) (lv : List (Nat × Value)) (st : List Value) : Prop :=
  ∀ (H : Heap) (locs : List Loc) (ls : Array Slot), va_P E.1 vwCl (zW E σ) H → va_S (zA E) s.heap H locs → lv_has ls nL lv → W p l e R s m args below meth c H locs ce sl Q (F0 m pc ls st)
theorem zwd_of (C : zX p l s m args meth c cc own nL E) {σ : zS} {H : Heap} {locs : List Loc} (hP : va_P E.1 vwCl (zW E σ) H) (hS : va_S (zA E) s.heap H locs) {U : State} (hU : U.heap = H) (hW : s.WarmedH U.vm) : zWd E σ U := by
  refine ⟨by rw [hU]; exact hP, va_K.moved hW.alike C.known, ?_⟩
  rw [hU]
  exact zCst_warm hW (zCst_kept C.consts hS.2.1)
/-- the world's cells alone: what a method hands back -/
def zWp (E : zE) (σ : zS) (U : State) : Prop := va_P E.1 vwCl (zW E σ) U.heap
/-- a method's contract, when it returns: an int (long, ..), the world behind it -/
abbrev zws (y : MethodName) (cc : ByteArray) (nL : Nat) (ret : Option FieldType) : List Cond := .code y cc nL ret :: zT
def zRi (l : Launch) (E : zE) (y : MethodName) (cc : ByteArray) (nL : Nat) (rt : FieldType) (rm : Room) (As : List Value) (σ : zS) (post : Int32 → zS → Prop) : Prop := Met l y (zws y cc nL (some rt)) rm (va_Pc As (zWd E σ)) (va_Qi post (zWp E) (zA E)) 0 0 (zA E)
def zRl (l : Launch) (E : zE) (y : MethodName) (cc : ByteArray) (nL : Nat) (rm : Room) (As : List Value) (σ : zS) (post : Int64 → zS → Prop) : Prop := Met l y (zws y cc nL (some .long)) rm (va_Pc As (zWd E σ)) (va_Ql post (zWp E) (zA E)) 0 0 (zA E)
def zRf (l : Launch) (E : zE) (y : MethodName) (cc : ByteArray) (nL : Nat) (rm : Room) (As : List Value) (σ : zS) (post : UInt32 → zS → Prop) : Prop := Met l y (zws y cc nL (some .float)) rm (va_Pc As (zWd E σ)) (va_Qf post (zWp E) (zA E)) 0 0 (zA E)
def zRv (l : Launch) (E : zE) (y : MethodName) (cc : ByteArray) (nL : Nat) (rm : Room) (As : List Value) (σ : zS) (post : zS → Prop) : Prop := Met l y (zws y cc nL none) rm (va_Pc As (zWd E σ)) (va_Qv post (zWp E) (zA E)) 0 0 (zA E)
def zRr (l : Launch) (E : zE) (y : MethodName) (cc : ByteArray) (nL : Nat) (rt : FieldType) (rm : Room) (As : List Value) (σ : zS) (k : Nat) (post : zS → Prop) : Prop := Met l y (zws y cc nL (some rt)) rm (va_Pc As (zWd E σ)) (va_Qr post (fun u a t => a = ob E k ∧ zWp E u t) (zA E)) 0 0 (zA E)
/-- .. and when it throws an exception of the class X: the world as it was -/
def zRx (l : Launch) (E : zE) (y : MethodName) (cc : ByteArray) (nL : Nat) (rt : Option FieldType) (rm : Room) (As : List Value) (σ : zS) (X : String) : Prop := vx_Met l y (zws y cc nL rt) rm (va_Pc As (zWd E σ)) (fun _ _ _ _ => False) (vx_X (fun u : zS => u = σ) (fun Y u t => Y = X ∧ zWp E u t) (zA E)) 1 6 (zA E)
theorem zX_of {y : MethodName} {ws : List Cond} {rm : Room} {ret : Option FieldType} {σ : zS} {s₁ : State} (hl : l.stackTraces = false) (B : BodyLoose p l y (headSpec ws rm) cc nL ret e s m args below meth c s₁) (hml : c.maxLocals = nL) (hw : ws = zws y cc nL ret) (hd : zWd E σ s) (hy : y.cls = own) : zX p l s m args meth c cc own nL E := by
  refine ⟨B.exec, B.bytes, hml, by rw [← hy]; exact findClass_of_methodNamed B.named, fun w h => ?_, hd.2.1, hd.2.2, ?_, B.notSynchronized, hl⟩
  · subst hw
    exact atoms_spec (ws := zws y cc nL ret) B.pre w (List.mem_cons_of_mem _ h)
  · have h := (hd.1 340 _ (zW_at E σ (by decide))).lt
    have h2 : ob E 340 < s.heap.size := h
    unfold ob at h2
    omega
theorem zV_start {Q : State → Prop} {σ : zS} {vs : List Value} {s₁ : State} (hd : zWd E σ s) (hn : (lg_sl vs).length ≤ nL) {lv : List (Nat × Value)} (hlv : lv_args 0 vs = lv) (k : zV p l e R s m args below meth c nL E Q 0 0 σ 0 lv []) : W p l e R s m args below meth c s.heap [] 0 0 Q (entryFrame m vs.toArray nL) := by
  subst hlv
  rw [lg_entry_eq]
  exact k _ _ _ hd.1 va_S.rf (lv_entry vs hn)
end
