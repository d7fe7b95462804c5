/-! the reserved words: enum constants, their letters, the array of all -/
section
variable {p : Program} {l : Launch} {e : Env} {R : Room} {s : State} {m : MethodId} {args : Array Value} {below : List Frame} {meth : Method} {c : Code} {cc : ByteArray} {own : String} {nL : Nat} {E : zE} {Q : State → Prop} {ce sl : Nat} {σ : zS} {pc : Nat} {lv : List (Nat × Value)} {st : List Value}
theorem zv_getW (C : zX p l s m args meth c cc own nL E) {i index : Nat} (hi : i < 11) (hlink : Cond.fieldLink own index "PlanetDrive$Word" (zWn.getD i "") "LPlanetDrive$Word;" ∈ zT) (hdg : decode cc pc = .ok (.getstatic index, 3)) (kk : zV p l e R s m args below meth c nL E Q ce sl σ (pc + 3) lv (.ref (cad E i) :: st)) : zV p l e R s m args below meth c nL E Q ce sl σ pc lv st := fun H locs ls hP hS hl =>
  va_gets C.exec C.code ((C.consts.1 i hi).1) hS C.cls (C.words _ hlink) (fun _ h => h) hdg (kk H locs ls hP hS hl)
theorem zv_getALL (C : zX p l s m args meth c cc own nL E) {index : Nat} (hlink : Cond.fieldLink own index "PlanetDrive$Word" "ALL" "[LPlanetDrive$Word;" ∈ zT) (hdg : decode cc pc = .ok (.getstatic index, 3)) (kk : zV p l e R s m args below meth c nL E Q ce sl σ (pc + 3) lv (.ref (cad E 11) :: st)) : zV p l e R s m args below meth c nL E Q ce sl σ pc lv st := fun H locs ls hP hS hl =>
  va_gets C.exec C.code C.consts.2.1 hS C.cls (C.words _ hlink) (fun _ h => h) hdg (kk H locs ls hP hS hl)
theorem zv_wlet (C : zX p l s m args meth c cc own nL E) {i index : Nat} (hi : i < 11) (hlink : Cond.fieldLink own index "PlanetDrive$Word" "letters" "J" ∈ zT) (hdg : decode cc pc = .ok (.getfield index, 3)) (kk : zV p l e R s m args below meth c nL E Q ce sl σ (pc + 3) lv (.long (zWl.getD i 0) :: st)) : zV p l e R s m args below meth c nL E Q ce sl σ pc lv (.ref (cad E i) :: st) := fun H locs ls hP hS hl =>
  va_getX (o := "PlanetDrive$Word") (N := 11) (v := fun i => .long (zWl.getD i 0)) (ad := fun i => cad E i) C.exec C.code (fun i hi => (C.consts.1 i hi).2) hi hS C.cls (C.words _ hlink) (fun _ h => h) hdg (kk H locs ls hP hS hl)
theorem zv_alenC (C : zX p l s m args meth c cc own nL E) (hdg : decode cc pc = .ok (.arraylength, 1)) (kk : zV p l e R s m args below meth c nL E Q ce sl σ (pc + 1) lv (.int (zI 11) :: st)) : zV p l e R s m args below meth c nL E Q ce sl σ pc lv (.ref (cad E 11) :: st) := fun H locs ls hP hS hl =>
  va_tlen C.exec C.code C.consts.2.2.1 hS (show Int32.ofNat 11 = zI 11 by decide) hdg (kk H locs ls hP hS hl)
theorem zv_aaldC (C : zX p l s m args meth c cc own nL E) {j : Nat} {i : Int32} (hi : i = nI j) (hj : j < 11) (hdg : decode cc pc = .ok (.aaload, 1)) (kk : zV p l e R s m args below meth c nL E Q ce sl σ (pc + 1) lv (.ref (cad E j) :: st)) : zV p l e R s m args below meth c nL E Q ce sl σ pc lv (.int i :: .ref (cad E 11) :: st) := fun H locs ls hP hS hl => by
  subst hi
  refine vb_tq C.exec C.code C.consts.2.2.1 hS (vp_in_nI hj (by decide)) (v := .ref (cad E j)) (by rw [nI_clamp (Nat.lt_trans hj (by decide))]) hdg ?_
  exact kk H locs ls hP hS hl
end
theorem zWl_mem (x : Int64) : x ∈ zWl ↔ ∃ i, i < 11 ∧ zWl.getD i 0 = x := by
  rw [List.mem_iff_getElem]
  constructor
  · rintro ⟨i, hi, h⟩
    exact ⟨i, hi, by rw [List.getD_eq_getElem?_getD, List.getElem?_eq_getElem hi]; exact h⟩
  · rintro ⟨i, hi, h⟩
    exact ⟨i, hi, by rw [List.getD_eq_getElem?_getD, List.getElem?_eq_getElem (show i < zWl.length from hi)] at h; exact h⟩
set_option maxRecDepth 20000 in
theorem c_X9_isOne {l : Launch} (hfl : l.stackTraces = false) (E : zE) (σ : zS) (x : Int64)  : zRi l E yX9_isOne cX9_isOne 3 .boolean (zrm 0 0) [.long x] σ (fun r τ => r = zB (x ∈ zWl) ∧ τ = σ) := by
  refine Met.ofW (cc := cX9_isOne) (maxL := 3) (ret := (some .boolean)) (by decide +kernel) rfl ?_
  intro p e s m args below meth c s₁ B hml hv
  obtain ⟨rfl, hd⟩ := hv
  have C := zX_of (own := RX9) hfl B hml rfl hd rfl
  have hr := B.returns
  refine zV_go hd (Nat.le_of_ble_eq_true rfl) (lv := [(0, .long x)]) rfl ?_
  refine zv_iconst (v := zI 0) C dX9_isOne_0 rfl ?_
  refine zv_istore_n (lv' := [(2, .int (zI 0)), (0, .long x)]) C dX9_isOne_1 rfl (by decide) rfl ?_
  have q2_2 : (0 : Int) = (0 : Int) := by first | rfl | omega
  refine zv_sub (lv' := [(0, .long x), (2, .int (zI (0 : Int)))]) [1, 0] (zcons rfl (zcons (zqI q2_2) rfl)) ?_
  refine zv_while (α := Nat) (fun v => 11 - v) (fun v => v ≤ 11 ∧ ∀ i, i < v → zWl.getD i 0 ≠ x) (fun v => σ) (fun v => [(0, .long x), (2, .int (zI (v : Int)))]) (fun v => []) (fun j hI ih => ?_) (0) (⟨by omega, fun i h => absurd h (Nat.not_lt_zero _)⟩)
  obtain ⟨hI, hI2⟩ := hI
  refine zv_iload_n C 1 dX9_isOne_2 rfl rfl ?_
  refine zv_getALL C kX9_74 dX9_isOne_3 ?_
  refine zv_alenC C dX9_isOne_6 ?_
  refine zv_icmp_geZ (tgt := 31) C (by omega) (by omega) dX9_isOne_7 (by decide) (fun h7 => ?_) (fun h7 => ?_)
  · skip
    refine zv_iconst (v := zI 0) C dX9_isOne_31 rfl ?_
    exact zv_iret C hr rfl dX9_isOne_32 ⟨(zB_f (fun q => by obtain ⟨i, h1, h2⟩ := (zWl_mem x).mp q; exact hI2 i (by omega) h2)).symm, rfl⟩
  · skip
    refine zv_getALL C kX9_74 dX9_isOne_10 ?_
    refine zv_iload_n C 1 dX9_isOne_13 rfl rfl ?_
    refine zv_aaldC (j := j) C (zI_ix (by omega)) (by omega) dX9_isOne_14 ?_
    refine zv_wlet (i := j) C (by omega) kX9_60 dX9_isOne_15 ?_
    refine zv_lload_n C 0 dX9_isOne_18 rfl rfl ?_
    refine zv_lc_ne (tgt := 25) C dX9_isOne_19 dX9_isOne_20 (by decide) (fun h19 => ?_) (fun h19 => ?_)
    · skip
      refine zv_iinc (v := (zI ((j : Int) + 1))) (lv' := [(2, .int (zI ((j : Int) + 1))), (0, .long x)]) C 1 dX9_isOne_25 rfl (zI_add _ _) (by decide) rfl ?_
      refine zv_goto (tgt := 2) C dX9_isOne_28 (by decide) ?_
      have q2_23 : ((j : Int) + 1 : Int) = ((j + 1 : Nat) : Int) := by first | rfl | omega
      refine zv_sub (lv' := [(0, .long x), (2, .int (zI ((j + 1 : Nat) : Int)))]) [1, 0] (zcons rfl (zcons (zqI q2_23) rfl)) ?_
      exact ih (j + 1) (⟨by omega, fun i h => (by rcases Nat.lt_or_ge i j with g | g; exact hI2 i g; rw [show i = j by omega]; exact h19)⟩) (by omega)
    · skip
      refine zv_iconst (v := zI 1) C dX9_isOne_23 rfl ?_
      exact zv_iret C hr rfl dX9_isOne_24 ⟨(zB_t ((zWl_mem x).mpr ⟨j, by omega, by first | exact h19 | (exact Classical.byContradiction fun q => h19 q)⟩)).symm, rfl⟩
