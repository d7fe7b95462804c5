/-! the cells at the start -/
theorem zG_n {k : Nat} (h : 10 < kd k) : gI zG0 k = (fun _ => 0) ∧ gJ zG0 k = (fun _ => 0) ∧ gD zG0 k = (fun _ => 0) := by
  refine ⟨funext fun j => ?_, funext fun j => ?_, rfl⟩
  · show (if kd k = 4 ∧ j = 0 then (2000 : Int32) else if kd k = 6 ∧ j = 2 then 60 else if kd k = 5 ∧ j = 4 then -1 else if kd k = 10 ∧ j = 14 then -1 else 0) = 0
    rw [if_neg (by omega), if_neg (by omega), if_neg (by omega), if_neg (by omega)]
  · show (if kd k = 3 ∧ j = 1 then (1 : Int64) else if kd k = 0 ∧ (j = 2 ∨ j = 5) then 1 else 0) = 0
    rw [if_neg (by omega), if_neg (by omega)]
theorem zc0_11 {E : zE} {k N : Nat} (h : kd k = 11) (hN : zlen k = N) : zc E zG0 k = .inl (cAt E 0, N, .inl (fun _ => 0)) := by
  obtain ⟨g1, g2, g3⟩ := zG_n (k := k) (by omega)
  unfold zc
  rw [if_neg (by omega), if_neg (by omega), if_neg (by omega), if_neg (by omega), if_neg (by omega), if_neg (by omega), if_neg (by omega), if_neg (by omega), if_neg (by omega), if_neg (by omega), if_neg (by omega), if_pos h]
  rw [hN, g1]
theorem zc0_12 {E : zE} {k N : Nat} (h : kd k = 12) (hN : zlen k = N) : zc E zG0 k = .inl (cAt E 1, N, .inl (fun _ => 0)) := by
  obtain ⟨g1, g2, g3⟩ := zG_n (k := k) (by omega)
  unfold zc
  rw [if_neg (by omega), if_neg (by omega), if_neg (by omega), if_neg (by omega), if_neg (by omega), if_neg (by omega), if_neg (by omega), if_neg (by omega), if_neg (by omega), if_neg (by omega), if_neg (by omega), if_neg (by omega), if_pos h]
  rw [hN, g1]
theorem zc0_13 {E : zE} {k N : Nat} (h : kd k = 13) (hN : zlen k = N) : zc E zG0 k = .inl (cAt E 2, N, .inr (.inl (fun _ => 0))) := by
  obtain ⟨g1, g2, g3⟩ := zG_n (k := k) (by omega)
  unfold zc
  rw [if_neg (by omega), if_neg (by omega), if_neg (by omega), if_neg (by omega), if_neg (by omega), if_neg (by omega), if_neg (by omega), if_neg (by omega), if_neg (by omega), if_neg (by omega), if_neg (by omega), if_neg (by omega), if_neg (by omega), if_pos h]
  rw [hN, g2]
theorem zc0_14 {E : zE} {k N : Nat} (h : kd k = 14) (hN : zlen k = N) : zc E zG0 k = .inl (cAt E 3, N, .inl (fun _ => 0)) := by
  obtain ⟨g1, g2, g3⟩ := zG_n (k := k) (by omega)
  unfold zc
  rw [if_neg (by omega), if_neg (by omega), if_neg (by omega), if_neg (by omega), if_neg (by omega), if_neg (by omega), if_neg (by omega), if_neg (by omega), if_neg (by omega), if_neg (by omega), if_neg (by omega), if_neg (by omega), if_neg (by omega), if_neg (by omega), if_pos h]
  rw [hN, g1]
  rfl
theorem zc0_17 {E : zE} {k N : Nat} (h : kd k = 17) (hN : zlen k = N) : zc E zG0 k = .inl (cAt E 6, N, .inr (.inr (.inr (.inl (fun _ => 0))))) := by
  obtain ⟨g1, g2, g3⟩ := zG_n (k := k) (by omega)
  unfold zc
  rw [if_neg (by omega), if_neg (by omega), if_neg (by omega), if_neg (by omega), if_neg (by omega), if_neg (by omega), if_neg (by omega), if_neg (by omega), if_neg (by omega), if_neg (by omega), if_neg (by omega), if_neg (by omega), if_neg (by omega), if_neg (by omega), if_neg (by omega), if_neg (by omega), if_neg (by omega), if_pos h]
  rw [hN, g3]
theorem zc0_0 {E : zE} {k : Nat} (h : kd k = 0) : zc E zG0 k = .inr (0, [.ref (ob E (k + 1)), .long 0, .long 1, .int 0, .long 0, .long 1, .int 0]) := by
  unfold zc
  rw [if_pos h]
  simp [zG0, gI, gJ, h]
theorem zc0_1 {E : zE} {k : Nat} (h : kd k = 1) : zc E zG0 k = .inr (1, [.ref (ob E (k + 1)), .int 0, .int 0, .ref (ob E (k + 2)), .int 0]) := by
  unfold zc
  rw [if_neg (by omega), if_pos h]
  simp [zG0, gI, gJ, h]
theorem zc0_2 {E : zE} {k : Nat} (h : kd k = 2) : zc E zG0 k = .inr (2, [.ref (ob E (k + 1)), .int 0]) := by
  unfold zc
  rw [if_neg (by omega), if_neg (by omega), if_pos h]
  simp [zG0, gI, gJ, h]
theorem zc0_3 {E : zE} {k : Nat} (h : kd k = 3) : zc E zG0 k = .inr (3, [.long 0, .long 1]) := by
  unfold zc
  rw [if_neg (by omega), if_neg (by omega), if_neg (by omega), if_pos h]
  simp [zG0, gI, gJ, h]
theorem zc0_4 {E : zE} {k : Nat} (h : kd k = 4) : zc E zG0 k = .inr (4, [.int 2000, .int 0, .ref (ob E (k + 1)), .ref (ob E (k + 2)), .ref (ob E (k + 3)), .ref (ob E (k + 4))]) := by
  unfold zc
  rw [if_neg (by omega), if_neg (by omega), if_neg (by omega), if_neg (by omega), if_pos h]
  simp [zG0, gI, gJ, h]
theorem zc0_5 {E : zE} {k : Nat} (h : kd k = 5) : zc E zG0 k = .inr (5, [.ref (ob E (k + 1)), .ref (ob E (k + 3)), .ref (ob E (k + 8)), .int 0, .int (-1), .int 0, .int 0, .int 0]) := by
  unfold zc
  rw [if_neg (by omega), if_neg (by omega), if_neg (by omega), if_neg (by omega), if_neg (by omega), if_pos h]
  simp [zG0, gI, gJ, h]
theorem zc0_6 {E : zE} {k : Nat} (h : kd k = 6) : zc E zG0 k = .inr (6, [.ref (ob E (k + 1)), .int 0, .int 60, .int 0, .ref (ob E (k + 2)), .ref (ob E (k + 3))]) := by
  unfold zc
  rw [if_neg (by omega), if_neg (by omega), if_neg (by omega), if_neg (by omega), if_neg (by omega), if_neg (by omega), if_pos h]
  simp [zG0, gI, gJ, h]
theorem zc0_7 {E : zE} {k : Nat} (h : kd k = 7) : zc E zG0 k = .inr (7, [.ref (ob E (k + 1)), .int 0, .int 0, .int 0, .int 0, .int 0, .long 0]) := by
  unfold zc
  rw [if_neg (by omega), if_neg (by omega), if_neg (by omega), if_neg (by omega), if_neg (by omega), if_neg (by omega), if_neg (by omega), if_pos h]
  simp [zG0, gI, gJ, h]
theorem zc0_8 {E : zE} {k : Nat} (h : kd k = 8) : zc E zG0 k = .inr (8, [.ref (ob E (k + 1)), .int 0]) := by
  unfold zc
  rw [if_neg (by omega), if_neg (by omega), if_neg (by omega), if_neg (by omega), if_neg (by omega), if_neg (by omega), if_neg (by omega), if_neg (by omega), if_pos h]
  simp [zG0, gI, gJ, h]
theorem zc0_9 {E : zE} {k : Nat} (h : kd k = 9) : zc E zG0 k = .inr (9, [.ref (ob E (k + 1)), .ref (ob E (k + 29)), .ref (ob E (k + 34)), .ref (ob E (k + 54)), .ref (ob E (k + 316)), .ref (ob E (k + 318)), .ref (ob E (k + 320)), .ref (ob E (k + 321)), .ref (ob E (k + 322)), .ref (ob E (k + 323)), .ref (ob E (k + 324)), .ref (ob E (k + 326))]) := by
  unfold zc
  rw [if_neg (by omega), if_neg (by omega), if_neg (by omega), if_neg (by omega), if_neg (by omega), if_neg (by omega), if_neg (by omega), if_neg (by omega), if_neg (by omega), if_pos h]
  
theorem zc0_15 {E : zE} {k N : Nat} (h : kd k = 15) (hN : zlen k = N) : zc E zG0 k = .inl (cAt E 4, N, .inr (.inr (.inr (.inr (fun i => some (ob E (k + 21 + 20 * i))))))) := by
  unfold zc
  rw [if_neg (by omega), if_neg (by omega), if_neg (by omega), if_neg (by omega), if_neg (by omega), if_neg (by omega), if_neg (by omega), if_neg (by omega), if_neg (by omega), if_neg (by omega), if_neg (by omega), if_neg (by omega), if_neg (by omega), if_neg (by omega), if_neg (by omega), if_pos h]
  rw [hN]
theorem zc0_16 {E : zE} {k N : Nat} (h : kd k = 16) (hN : zlen k = N) : zc E zG0 k = .inl (cAt E 5, N, .inr (.inr (.inr (.inr (fun i => some (ob E (k + 1 + 2 * i))))))) := by
  unfold zc
  rw [if_neg (by omega), if_neg (by omega), if_neg (by omega), if_neg (by omega), if_neg (by omega), if_neg (by omega), if_neg (by omega), if_neg (by omega), if_neg (by omega), if_neg (by omega), if_neg (by omega), if_neg (by omega), if_neg (by omega), if_neg (by omega), if_neg (by omega), if_neg (by omega), if_pos h]
  rw [hN]
theorem k0_all : ∀ k, k < 341 → kd k = 0 → kd (k + 1) = 12 ∧ zlen (k + 1) = 4 := by decide +kernel
theorem k2_all : ∀ k, k < 341 → kd k = 2 → kd (k + 1) = 11 ∧ zlen (k + 1) = 1024 := by decide +kernel
theorem k7_all : ∀ k, k < 341 → kd k = 7 → kd (k + 1) = 11 ∧ zlen (k + 1) = 900 := by decide +kernel
theorem k8_all : ∀ k, k < 341 → kd k = 8 → kd (k + 1) = 12 ∧ zlen (k + 1) = 12 := by decide +kernel
theorem k0_of {k : Nat} (h : kd k = 0) : kd (k + 1) = 12 ∧ zlen (k + 1) = 4 := k0_all k (kd_lt h (by decide)) h
theorem k2_of {k : Nat} (h : kd k = 2) : kd (k + 1) = 11 ∧ zlen (k + 1) = 1024 := k2_all k (kd_lt h (by decide)) h
theorem k7_of {k : Nat} (h : kd k = 7) : kd (k + 1) = 11 ∧ zlen (k + 1) = 900 := k7_all k (kd_lt h (by decide)) h
theorem k8_of {k : Nat} (h : kd k = 8) : kd (k + 1) = 12 ∧ zlen (k + 1) = 12 := k8_all k (kd_lt h (by decide)) h
/-- the object under way, its row of references under way, the rest as it is at the start -/
def cN (E : zE) (k0 : Nat) (c0 : va_E) (a : Nat) (xa : va_E) : Nat → va_E := fun j => if j = 0 then c0 else if j = a then xa else zc E zG0 (k0 + j)
def zrc (f c s l : Nat) : Room := { frames := f, cells := c, slots := s, locals := l }
section
variable {p : Program} {l : Launch} {e : Env} {R : Room} {s : State} {m : MethodId} {args : Array Value} {below : List Frame} {meth : Method} {c : Code} {cc : ByteArray} {own : String} {nL : Nat} {E : zE} {k0 : Nat} {Q : State → Prop} {ce sl : Nat} {cw : Nat → va_E} {n pc : Nat} {lv : List (Nat × Value)} {st : List Value}
variable {c0 xa : va_E} {a : Nat}
theorem zq_start {ob0 : va_E} (kk : zVp p l e R s m args below meth c nL E k0 Q ce sl (cN E k0 ob0 a xa) 1 pc lv st) : zVp p l e R s m args below meth c nL E k0 Q ce sl (fun _ => ob0) 1 pc lv st := zp_cong (fun j hj => by
  obtain rfl : j = 0 := by omega
  rfl) kk
theorem zq_newa (C : zYx p l s m args meth c cc own nL E k0) {atype : ArrayType} {ti : Nat} (ht : (zTy E)[ti]? = some (cAt E ti, newarray.typeOf atype)) (harr : Cond.arrayClass (newarray.typeOf atype) ∈ zT) {nv : Int32} {N' : Nat} {x : vp_A} (ha : ∀ cA : ClassId, vp_cell cA x = arrV cA N' (fun _ => defaultValue (newarray.typeOf atype))) (hn : ¬ nv < 0) (hN : nv.toNatClampNeg = N') (hbytes : N' * componentBytes (newarray.typeOf atype) ≤ 536870912) (hcells : ce + 1 ≤ R.cells) (hslots : sl + N' ≤ R.slots) (hdg : decode cc pc = .ok (.newarray atype, 2)) (h0 : n ≠ 0 ∧ n ≠ a) (hz : zc E zG0 (k0 + n) = .inl (cAt E ti, x))
    (kk : zVp p l e R s m args below meth c nL E k0 Q (ce + 1) (sl + N') (cN E k0 c0 a xa) (n + 1) (pc + 2) lv (.ref (ob E (k0 + n)) :: st)) : zVp p l e R s m args below meth c nL E k0 Q ce sl (cN E k0 c0 a xa) n pc lv (.int nv :: st) :=
  zp_newa C ht harr ha hn hN hbytes hcells hslots hdg (zp_cong (fun j hj => by
    unfold zU cN
    by_cases g : j = n
    · subst g
      rw [if_pos rfl, if_neg h0.1, if_neg h0.2, hz]
    · rw [if_neg g]) kk)
theorem zq_newq (C : zYx p l s m args meth c cc own nL E k0) {ti ix : Nat} {Cn : String} (ht : (zTy E)[ti]? = some (cAt E ti, .object Cn)) (hover : va_AO Cn s) (hcl : Cond.classLink own ix Cn ∈ zT) {nv : Int32} {N' : Nat} (hn : ¬ nv < 0) (hN : nv.toNatClampNeg = N') (hbytes : N' * 4 ≤ 536870912) (hcells : ce + 1 ≤ R.cells) (hslots : sl + N' ≤ R.slots) (hdg : decode cc pc = .ok (.anewarray ix, 3)) (h0 : n ≠ 0) (hna : n = a)
    (kk : zVp p l e R s m args below meth c nL E k0 Q (ce + 1) (sl + N') (cN E k0 c0 a (.inl (cAt E ti, N', .inr (.inr (.inr (.inr (fun _ => none))))))) (n + 1) (pc + 3) lv (.ref (ob E (k0 + n)) :: st)) : zVp p l e R s m args below meth c nL E k0 Q ce sl (cN E k0 c0 a xa) n pc lv (.int nv :: st) :=
  zp_newq C ht hover hcl hn hN hbytes hcells hslots hdg (zp_cong (fun j hj => by
    unfold zU cN
    by_cases g : j = n
    · subst g
      rw [if_pos rfl, if_neg h0, if_pos hna]
    · rw [if_neg g]
      by_cases g2 : j = a
      · exact absurd (g2.trans hna.symm) g
      · rw [if_neg g2, if_neg g2]) kk)
theorem zq_put (C : zYx p l s m args meth c cc own nL E k0) {ci j ix N : Nat} {Cn : String} {T : u_T} {ty0 : Nat → FieldType} {fs : List Value} {ty : FieldType} {v : Value} (hi : 0 < n) (hz : c0 = .inr (ci, fs)) (hc : vwCl[ci]? = some (Cn, T, N)) (hin : ∀ w ∈ u_ws Cn T N, w ∈ zT) (hty : ∀ k, k < N → parseFieldDescriptor (T k).2.2.1 = some (ty0 k)) (hnm : ∀ a, a < N → ∀ b, b < N → a ≠ b → (T a).2.1 ≠ (T b).2.1) (hj : j < N) (hdecl : (T j).1 = Cn) (hfin : (T j).2.2.2 = false) (hd : parseFieldDescriptor (T j).2.2.1 = some ty) (hn : narrow ty v = v) (hfit : fits ty v = true) (hl2 : j < fs.length) (hlink : Cond.fieldLink own ix Cn (T j).2.1 (T j).2.2.1 ∈ zT) (hdg : decode cc pc = .ok (.putfield ix, 3)) {c1 : va_E} (h1 : .inr (ci, fs.set j v) = c1) (kk : zVp p l e R s m args below meth c nL E k0 Q ce sl (cN E k0 c1 a xa) n (pc + 3) lv st) : zVp p l e R s m args below meth c nL E k0 Q ce sl (cN E k0 c0 a xa) n pc lv (v :: .ref (ob E (k0 + 0)) :: st) :=
  zp_put C hi (by subst hz; rfl) hc hin hty hnm hj hdecl hfin hd hn hfit hl2 hlink hdg (zp_cong (fun k _ => by
    unfold zU cN
    by_cases g : k = 0
    · rw [if_pos g, if_pos g, h1]
    · rw [if_neg g, if_neg g, if_neg g]) kk)
theorem zq_putF (C : zYx p l s m args meth c cc own nL E k0) {ci j ix N : Nat} {T : u_T} {ty0 : Nat → FieldType} {fs : List Value} {ty : FieldType} {v : Value} (hi : 0 < n) (hz : c0 = .inr (ci, fs)) (hc : vwCl[ci]? = some (own, T, N)) (hin : ∀ w ∈ u_ws own T N, w ∈ zT) (hty : ∀ k, k < N → parseFieldDescriptor (T k).2.2.1 = some (ty0 k)) (hnm : ∀ a, a < N → ∀ b, b < N → a ≠ b → (T a).2.1 ≠ (T b).2.1) (hj : j < N) (hdecl : (T j).1 = own) (hfin : (T j).2.2.2 = true) (hin2 : meth.name = "<init>") (hd : parseFieldDescriptor (T j).2.2.1 = some ty) (hn : narrow ty v = v) (hfit : fits ty v = true) (hl2 : j < fs.length) (hlink : Cond.fieldLink own ix own (T j).2.1 (T j).2.2.1 ∈ zT) (hdg : decode cc pc = .ok (.putfield ix, 3)) {c1 : va_E} (h1 : .inr (ci, fs.set j v) = c1) (kk : zVp p l e R s m args below meth c nL E k0 Q ce sl (cN E k0 c1 a xa) n (pc + 3) lv st) : zVp p l e R s m args below meth c nL E k0 Q ce sl (cN E k0 c0 a xa) n pc lv (v :: .ref (ob E (k0 + 0)) :: st) :=
  zp_putF C hi (by subst hz; rfl) hc hin hty hnm hj hdecl hfin hin2 hd hn hfit hl2 hlink hdg (zp_cong (fun k _ => by
    unfold zU cN
    by_cases g : k = 0
    · rw [if_pos g, if_pos g, h1]
    · rw [if_neg g, if_neg g, if_neg g]) kk)
theorem zq_cI (C : zYx p l s m args meth c cc own nL E k0) {y : MethodName} {cy : ByteArray} {nY : Nat} {rm : Room} {ob0 : va_E} {N mc ms i ix : Nat} (hM : zRc l E zG0 (k0 + i) y cy nY rm ob0 N mc ms) (hn : n = i + 1) (h0 : i ≠ 0 ∧ (a = 0 ∨ a < i ∨ i + N ≤ a)) (m1 : Cond.code y cy nY none ∈ zT) (m2 : Cond.initialized y.cls ∈ zT) (m3 : Cond.instanceMethod y ∈ zT) (hlink : Cond.methodLink own ix y ∈ zT ∨ Cond.methodLinkNest own ix y "PlanetDrive" ∈ zNw) (hy1 : y.name = "<init>") (hd : y.cls ≠ "java/lang/invoke/MethodHandle" ∧ y.cls ≠ "java/lang/invoke/VarHandle" ∧ (parseMethodDescriptor y.desc).map (fun d => d.parameters.length) = some 0) (hrm : rm.cells = mc ∧ rm.slots = ms) (hR : zfit rm nY R = true) (hcat : (st.map fun v => v.category).sum ≤ 8) (hdg : decode cc pc = .ok (.invokespecial ix, 3)) (hf : ce + mc ≤ R.cells ∧ sl + ms ≤ R.slots)
    (kk : zVp p l e R s m args below meth c nL E k0 Q (ce + mc) (sl + ms) (cN E k0 c0 a xa) (i + N) (pc + 3) lv st) : zVp p l e R s m args below meth c nL E k0 Q ce sl (zU (cN E k0 c0 a xa) i ob0) n pc lv (.ref (ob E (k0 + i)) :: st) :=
  zp_cI C hM hn (by unfold zU; rw [if_pos rfl]) m1 m2 m3 hlink hy1 hd hrm hR hcat hdg hf (zp_cong (fun j hj => by
    unfold zU cN
    by_cases g : i ≤ j
    · rw [if_pos g, if_neg (by omega), if_neg (by omega)]
    · rw [if_neg g, if_neg (by omega)]) kk)
theorem zq_ret (C : zYx p l s m args meth c cc own nL E k0) (hr : meth.sig.returnType = none) (hdg : decode cc pc = .ok (.return_, 1)) (h : c0 = zc E zG0 (k0 + 0)) (ha : a = 0 ∨ ∀ H, va_at E.1 vwCl (ob E (k0 + a), xa) H → va_at E.1 vwCl (ob E (k0 + a), zc E zG0 (k0 + a)) H) : zVp p l e R s m args below meth c nL E k0 (MQ below (va_Qv (fun _ : Unit => True) (fun _ U => zP E k0 (fun j => zc E zG0 (k0 + j)) n U.heap) (zAk E k0)) args s ce sl (zAk E k0)) ce sl (cN E k0 c0 a xa) n pc lv [] :=
  zp_cong2 (cw' := fun j => zc E zG0 (k0 + j)) (fun j _ H hat => by
    unfold cN at hat
    by_cases g : j = 0
    · subst g
      rw [if_pos rfl, h] at hat
      exact hat
    · rw [if_neg g] at hat
      by_cases g2 : j = a
      · subst g2
        rw [if_pos rfl] at hat
        rcases ha with q | q
        · exact absurd q g
        · exact q H hat
      · rw [if_neg g2] at hat
        exact hat) (zp_ret C hr hdg (fun j _ => rfl))
end
