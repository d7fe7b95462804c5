/-! the words of the language as strings -/
theorem kJ0_9 : Cond.fieldLink RJ0 9 "java/lang/String" "value" "[B" ∈ zT := zT_mem 2107 (by decide +kernel) (by decide)
theorem kJ0_15 : Cond.fieldLink RJ0 15 "java/lang/String" "coder" "B" ∈ zT := zT_mem 2108 (by decide +kernel) (by decide)
theorem kJ0_38 : Cond.fieldLink RJ0 38 "java/lang/String" "COMPACT_STRINGS" "Z" ∈ zT := zT_mem 1534 (by decide +kernel) (by decide)
theorem kJ0_1053 : Cond.fieldLink RJ0 1053 "jdk/internal/util/Preconditions" "SIOOBE_FORMATTER" "Ljava/util/function/BiFunction;" ∈ zT := zT_mem 1550 (by decide +kernel) (by decide)
theorem kJ0_335 : Cond.methodLink RJ0 335 yJ0_coder_7d493 ∈ zT := zT_mem 1530 (by decide +kernel) (by decide)
theorem kJ0_492 : Cond.methodLink RJ0 492 yJ0_isLatin1_aae02 ∈ zT := zT_mem 1540 (by decide +kernel) (by decide)
theorem kJ0_495 : Cond.methodLink RJ0 495 yJ1_charAt_3b067 ∈ zT := zT_mem 1544 (by decide +kernel) (by decide)
theorem kJ0_1059 : Cond.methodLink RJ0 1059 yJ3_checkIndex_8e157 ∈ zT := zT_mem 1552 (by decide +kernel) (by decide)
theorem kJ1_9 : Cond.methodLink RJ1 9 yJ0_checkIndex_df160 ∈ zT := zT_mem 1547 (by decide +kernel) (by decide)
def sC (w k : Nat) : Nat := ((zSb.getD w []).getD k 0).toInt.toNat
theorem sC_e : ∀ w, w < 11 → ∀ k, k < zSn.getD w 0 → (zSb.getD w []).getD k 0 = zI (sC w k : Int) ∧ 97 ≤ sC w k ∧ sC w k ≤ 122 := by decide +kernel
theorem sN_b : ∀ w, w < 11 → 2 ≤ zSn.getD w 0 ∧ zSn.getD w 0 ≤ 6 := by decide +kernel
theorem zI_ch {x : Nat} (h : x < 128) : ((zI (x : Int) &&& zI 255).toUInt32 % 65536).toInt32 = zI (x : Int) := by
  have h0 : ∀ y, y < 128 → ((zI ((y : Nat) : Int) &&& zI 255).toUInt32 % 65536).toInt32 = zI ((y : Nat) : Int) := by decide +kernel
  exact h0 x h
theorem zI_cn {x : Nat} (h : x < 128) : narrow .char (.int (zI (x : Int))) = .int (zI (x : Int)) := by
  have h0 : ∀ y, y < 128 → vp_nar .char (zI ((y : Nat) : Int)) = zI ((y : Nat) : Int) := by decide +kernel
  exact congrArg Value.int (h0 x h)
section
variable {p : Program} {l : Launch} {e : Env} {R : Room} {s : State} {m : MethodId} {args : Array Value} {below : List Frame} {meth : Method} {c : Code} {cc : ByteArray} {own : String} {nL : Nat} {E : zE} {Q : State → Prop} {ce sl : Nat} {σ : zS} {pc : Nat} {lv : List (Nat × Value)} {st : List Value}
variable {y : MethodName} {cy : ByteArray} {nY : Nat} {rm : Room} {As : List Value}
theorem zv_ldcStr (C : zX p l s m args meth c cc own nL E) {i ix : Nat} (hi : i < 11) (ho : own = "PlanetDriveModel") (hx : zSx.getD i 0 = ix) (hdg : decode cc pc = .ok (.ldc ix, 2)) (kk : zV p l e R s m args below meth c nL E Q ce sl σ (pc + 2) lv (.ref (cad E (20 + i)) :: st)) : zV p l e R s m args below meth c nL E Q ce sl σ pc lv st := fun H locs ls hP hS hl => by
  subst ho hx
  exact va_ldcS C.exec C.code C.cls (C.consts.2.2.2.2.2.2.2.1 i hi) hdg (kk H locs ls hP hS hl)
theorem zv_sval (C : zX p l s m args meth c cc own nL E) {i index : Nat} (hi : i < 11) (hlink : Cond.fieldLink own index "java/lang/String" "value" "[B" ∈ zT) (hdg : decode cc pc = .ok (.getfield index, 3)) (kk : zV p l e R s m args below meth c nL E Q ce sl σ (pc + 3) lv (.ref (cad E (40 + i)) :: st)) : zV p l e R s m args below meth c nL E Q ce sl σ pc lv (.ref (cad E (20 + i)) :: st) := fun H locs ls hP hS hl =>
  vk_getf C.exec C.code (C.consts.2.2.2.1.1 i hi).2.2.1 hS C.cls (C.words _ hlink) (fun _ h => h) hdg (kk H locs ls hP hS hl)
theorem zv_scod (C : zX p l s m args meth c cc own nL E) {i index : Nat} (hi : i < 11) (hlink : Cond.fieldLink own index "java/lang/String" "coder" "B" ∈ zT) (hdg : decode cc pc = .ok (.getfield index, 3)) (kk : zV p l e R s m args below meth c nL E Q ce sl σ (pc + 3) lv (.int (zI 0) :: st)) : zV p l e R s m args below meth c nL E Q ce sl σ pc lv (.ref (cad E (20 + i)) :: st) := fun H locs ls hP hS hl =>
  vk_getf C.exec C.code (C.consts.2.2.2.1.1 i hi).2.1 hS C.cls (C.words _ hlink) (fun _ h => h) hdg (kk H locs ls hP hS hl)
theorem zv_getCS (C : zX p l s m args meth c cc own nL E) {index : Nat} (hlink : Cond.fieldLink own index "java/lang/String" "COMPACT_STRINGS" "Z" ∈ zT) (hdg : decode cc pc = .ok (.getstatic index, 3)) (kk : zV p l e R s m args below meth c nL E Q ce sl σ (pc + 3) lv (.int (zI 1) :: st)) : zV p l e R s m args below meth c nL E Q ce sl σ pc lv st := fun H locs ls hP hS hl =>
  va_gets C.exec C.code C.consts.2.2.2.2.1 hS C.cls (C.words _ hlink) (fun _ h => h) hdg (kk H locs ls hP hS hl)
theorem zv_getPF (C : zX p l s m args meth c cc own nL E) {index : Nat} (hlink : Cond.fieldLink own index "jdk/internal/util/Preconditions" "SIOOBE_FORMATTER" "Ljava/util/function/BiFunction;" ∈ zT) (hdg : decode cc pc = .ok (.getstatic index, 3)) (kk : ∀ v : Value, (v = .null ∨ ∃ t, v = .ref t) → zV p l e R s m args below meth c nL E Q ce sl σ (pc + 3) lv (v :: st)) : zV p l e R s m args below meth c nL E Q ce sl σ pc lv st := fun H locs ls hP hS hl => by
  rcases C.consts.2.2.2.2.2.2.2.2.2.2.2.2.2.1 with h | ⟨t, h⟩
  · exact va_gets C.exec C.code h hS C.cls (C.words _ hlink) (fun _ h => h) hdg (kk .null (Or.inl rfl) H locs ls hP hS hl)
  · exact va_gets C.exec C.code h hS C.cls (C.words _ hlink) (fun _ h => h) hdg (kk (.ref t) (Or.inr ⟨t, rfl⟩) H locs ls hP hS hl)
theorem sN_n : ∀ i, i < 11 → Int32.ofNat (zSn.getD i 0) = zI (zSn.getD i 0 : Int) := by decide +kernel
theorem zv_alenS (C : zX p l s m args meth c cc own nL E) {i : Nat} (hi : i < 11) (hdg : decode cc pc = .ok (.arraylength, 1)) (kk : zV p l e R s m args below meth c nL E Q ce sl σ (pc + 1) lv (.int (zI (zSn.getD i 0 : Int)) :: st)) : zV p l e R s m args below meth c nL E Q ce sl σ pc lv (.ref (cad E (40 + i)) :: st) := fun H locs ls hP hS hl =>
  va_tlen C.exec C.code (C.consts.2.2.2.1.1 i hi).2.2.2 hS (sN_n i hi) hdg (kk H locs ls hP hS hl)
theorem zv_baldS (C : zX p l s m args meth c cc own nL E) {i j : Nat} {x : Int32} (hi : i < 11) (hx : x = nI j) (hj : j < zSn.getD i 0) (hdg : decode cc pc = .ok (.baload, 1)) (kk : zV p l e R s m args below meth c nL E Q ce sl σ (pc + 1) lv (.int (zI (sC i j : Int)) :: st)) : zV p l e R s m args below meth c nL E Q ce sl σ pc lv (.int x :: .ref (cad E (40 + i)) :: st) := fun H locs ls hP hS hl => by
  subst hx
  have hb := (sN_b i hi).2
  refine va_tb C.exec C.code (C.consts.2.2.2.1.1 i hi).2.2.2 hS (vp_in_nI hj (by omega)) (v := .int (zI (sC i j : Int))) ?_ hdg (kk H locs ls hP hS hl)
  rw [nI_clamp (by omega)]
  exact congrArg Value.int (sC_e i hi j hj).1
theorem zrunK (C : zX p l s m args meth c cc own nL E) {ret : Option FieldType} {Qc : Array Value → State → Outcome → State → Prop} {mc ms n ix i : Nat} {free : Addr → Prop} {H : Heap} {locs : List Loc} {ls : Array Slot} (hP : va_P E.1 vwCl (zW E σ) H) (hS : va_S (zA E) s.heap H locs) (hl : lv_has ls nL lv) (hM : Met l y (zws y cy nY ret) rm (va_Pc (.ref (cad E (20 + i)) :: As) (zWd E σ)) Qc mc ms free) (hm : zMv y cy nY ret n) (hlink : Cond.methodLink own ix y ∈ zT) (hi : i < 11) (hq : y.cls = "java/lang/String") (hn : As.length = n) (hrm : rm.cells = mc ∧ rm.slots = ms) (hR : zfit rm nY R = true) (hcat : (st.map fun v => v.category).sum ≤ 8) (hdg : decode cc pc = .ok (.invokevirtual ix, 3)) (hf : ce + mc ≤ R.cells ∧ sl + ms ≤ R.slots) : va_Run p l e R s m args below meth c H locs ce sl mc ms (F0 m pc ls (As.reverse ++ .ref (cad E (20 + i)) :: st)) st (Qc (Value.ref (cad E (20 + i)) :: As).toArray) free := by
  obtain ⟨⟨m1, m2, m3, m4, m5⟩, m6, m7⟩ := hm
  have hrecv := vk_recv C.consts.2.2.2.1 hi hS
  rw [← hq] at hrecv
  refine va_runV (C := y.cls) (index := ix) (bytes := cy) (maxL := nY) (ret := ret) (n := n) ⟨C.exec, C.code, C.maxL, C.cls, C.words⟩ hM (cwV n C.words (zgood fun w hw => ?_) rfl hrm.1 hrm.2 ⟨rfl, m3, m4, m5⟩ (zfit_of hR).1) ⟨zPc_blind _ E σ, hrecv, fun U hU hW => ⟨rfl, zwd_of C hP hS hU hW⟩⟩ rfl hn hl.1 rfl (lv_room hcat) hdg hf
  rcases List.mem_append.mp hw with h | h
  · simp only [List.mem_cons, List.not_mem_nil, or_false] at h
    rcases h with rfl | rfl | rfl | rfl
    · exact hlink
    · exact m6
    · exact m7
    · exact m2
  · exact zgood_ws m1 w h
theorem zv_cKi (C : zX p l s m args meth c cc own nL E) {rt : FieldType} {post : Int32 → zS → Prop} {n ix i : Nat} (hM : zRi l E y cy nY rt rm (.ref (cad E (20 + i)) :: As) σ post) (hm : zMv y cy nY (some rt) n) (hlink : Cond.methodLink own ix y ∈ zT) (hi : i < 11) (hq : y.cls = "java/lang/String") (hn : As.length = n) (hrm : rm.cells = 0 ∧ rm.slots = 0) (hR : zfit rm nY R = true) (hcat : (st.map fun v => v.category).sum ≤ 8) (hdg : decode cc pc = .ok (.invokevirtual ix, 3)) (hf : ce ≤ R.cells ∧ sl ≤ R.slots) (kk : ∀ (r : Int32) (τ : zS), post r τ → zV p l e R s m args below meth c nL E Q ce sl τ (pc + 3) lv (.int r :: st)) : zV p l e R s m args below meth c nL E Q ce sl σ pc lv (As.reverse ++ .ref (cad E (20 + i)) :: st) := fun H locs ls hP hS hl =>
  va_calli (zrunK C hP hS hl hM hm hlink hi hq hn hrm hR hcat hdg hf) hS (fun _ _ h => h) (fun _ h => h) (fun r u t H1 locs1 ht _ hp hB _ _ hS1 => kk r u hp H1 locs1 ls (by rw [← ht]; exact hB) hS1 hl)
theorem zv_cKiD (C : zX p l s m args meth c cc own nL E) {rt : FieldType} {r0 : Int32} {τ0 : zS} {n ix i : Nat} (hM : zRi l E y cy nY rt rm (.ref (cad E (20 + i)) :: As) σ (fun r τ => r = r0 ∧ τ = τ0)) (hm : zMv y cy nY (some rt) n) (hlink : Cond.methodLink own ix y ∈ zT) (hi : i < 11) (hq : y.cls = "java/lang/String") (hn : As.length = n) (hrm : rm.cells = 0 ∧ rm.slots = 0) (hR : zfit rm nY R = true) (hcat : (st.map fun v => v.category).sum ≤ 8) (hdg : decode cc pc = .ok (.invokevirtual ix, 3)) (hf : ce ≤ R.cells ∧ sl ≤ R.slots) (kk : zV p l e R s m args below meth c nL E Q ce sl τ0 (pc + 3) lv (.int r0 :: st)) : zV p l e R s m args below meth c nL E Q ce sl σ pc lv (As.reverse ++ .ref (cad E (20 + i)) :: st) :=
  zv_cKi C hM hm hlink hi hq hn hrm hR hcat hdg hf (fun r τ h => by rw [h.1, h.2]; exact kk)
end
set_option maxRecDepth 20000 in
theorem c_J0_coder_7d493 {l : Launch} (hfl : l.stackTraces = false) (E : zE) (σ : zS) (w : Nat) (hw : w < 11) : zRi l E yJ0_coder_7d493 cJ0_coder_7d493 1 .byte (zrm 0 0) [.ref (cad E (20 + w))] σ (fun r τ => r = zI 0 ∧ τ = σ) := by
  refine Met.ofW (cc := cJ0_coder_7d493) (maxL := 1) (ret := (some .byte)) (by decide +kernel) rfl ?_
  intro p e s m args below meth c s₁ B hml hv
  obtain ⟨rfl, hd⟩ := hv
  have C := zX_of (own := RJ0) hfl B hml rfl hd rfl
  have hr := B.returns
  refine zV_go hd (Nat.le_of_ble_eq_true rfl) (lv := [(0, .ref (cad E (20 + w)))]) rfl ?_
  refine zv_getCS C kJ0_38 dJ0_coder_7d493_0 ?_
  refine zv_if_eqZ (tgt := 13) C (by omega) dJ0_coder_7d493_3 (by decide) (fun h3 => absurd h3 (by decide)) (fun h3 => ?_)
  refine zv_aload_n C 0 dJ0_coder_7d493_6 rfl rfl ?_
  refine zv_scod (i := w) C hw kJ0_15 dJ0_coder_7d493_7 ?_
  refine zv_goto (tgt := 14) C dJ0_coder_7d493_10 (by decide) ?_
  exact zv_iret C hr rfl dJ0_coder_7d493_14 ⟨rfl, rfl⟩
set_option maxRecDepth 20000 in
theorem c_J0_isLatin1_aae02 {l : Launch} (hfl : l.stackTraces = false) (E : zE) (σ : zS) (w : Nat) (hw : w < 11) : zRi l E yJ0_isLatin1_aae02 cJ0_isLatin1_aae02 1 .boolean (zrm 0 0) [.ref (cad E (20 + w))] σ (fun r τ => r = zI 1 ∧ τ = σ) := by
  refine Met.ofW (cc := cJ0_isLatin1_aae02) (maxL := 1) (ret := (some .boolean)) (by decide +kernel) rfl ?_
  intro p e s m args below meth c s₁ B hml hv
  obtain ⟨rfl, hd⟩ := hv
  have C := zX_of (own := RJ0) hfl B hml rfl hd rfl
  have hr := B.returns
  refine zV_go hd (Nat.le_of_ble_eq_true rfl) (lv := [(0, .ref (cad E (20 + w)))]) rfl ?_
  refine zv_getCS C kJ0_38 dJ0_isLatin1_aae02_0 ?_
  refine zv_if_eqZ (tgt := 17) C (by omega) dJ0_isLatin1_aae02_3 (by decide) (fun h3 => absurd h3 (by decide)) (fun h3 => ?_)
  refine zv_aload_n C 0 dJ0_isLatin1_aae02_6 rfl rfl ?_
  refine zv_scod (i := w) C hw kJ0_15 dJ0_isLatin1_aae02_7 ?_
  refine zv_if_neZ (tgt := 17) C (by omega) dJ0_isLatin1_aae02_10 (by decide) (fun h10 => absurd h10 (by decide)) (fun h10 => ?_)
  refine zv_iconst (v := zI 1) C dJ0_isLatin1_aae02_13 rfl ?_
  refine zv_goto (tgt := 18) C dJ0_isLatin1_aae02_14 (by decide) ?_
  exact zv_iret C hr rfl dJ0_isLatin1_aae02_18 ⟨rfl, rfl⟩
theorem sN_sh : ∀ w, w < 11 → zI (zSn.getD w 0 : Int) >>> (zI 0 &&& 31) = zI (zSn.getD w 0 : Int) := by decide +kernel
set_option maxRecDepth 20000 in
theorem c_J0_length_8abf5 {l : Launch} (hfl : l.stackTraces = false) (E : zE) (σ : zS) (w : Nat) (hw : w < 11) : zRi l E yJ0_length_8abf5 cJ0_length_8abf5 1 .int (zrm 1 20) [.ref (cad E (20 + w))] σ (fun r τ => r = zI (zSn.getD w 0 : Int) ∧ τ = σ) := by
  refine Met.ofW (cc := cJ0_length_8abf5) (maxL := 1) (ret := (some .int)) (by decide +kernel) rfl ?_
  intro p e s m args below meth c s₁ B hml hv
  obtain ⟨rfl, hd⟩ := hv
  have C := zX_of (own := RJ0) hfl B hml rfl hd rfl
  have hr := B.returns
  refine zV_go hd (Nat.le_of_ble_eq_true rfl) (lv := [(0, .ref (cad E (20 + w)))]) rfl ?_
  refine zv_aload_n C 0 dJ0_length_8abf5_0 rfl rfl ?_
  refine zv_sval (i := w) C hw kJ0_9 dJ0_length_8abf5_1 ?_
  refine zv_alenS (i := w) C hw dJ0_length_8abf5_4 ?_
  refine zv_aload_n C 0 dJ0_length_8abf5_5 rfl rfl ?_
  refine zv_cKiD (st := [.int (zI (zSn.getD w 0 : Int))]) C (c_J0_coder_7d493 hfl E σ w hw) mJ0_coder_7d493 kJ0_335 hw rfl rfl ⟨rfl, rfl⟩ (show zfit (zrm 0 0) 1 (zrm 1 20) = true from rfl) (Nat.le_of_ble_eq_true rfl) dJ0_length_8abf5_6 ⟨Nat.zero_le _, Nat.zero_le _⟩ ?_
  refine zv_ishr C dJ0_length_8abf5_9 ?_
  refine zv_eqi (y := (zI (zSn.getD w 0 : Int))) (sN_sh w hw) ?_
  exact zv_iret C hr rfl dJ0_length_8abf5_10 ⟨rfl, rfl⟩
theorem dJ3_checkIndex_8e157_0 : decode cJ3_checkIndex_8e157 0 = .ok (.iload_n 0, 1) := by decide +kernel
theorem dJ3_checkIndex_8e157_1 : decode cJ3_checkIndex_8e157 1 = .ok (.ifCond .lt 8, 3) := by decide +kernel
theorem dJ3_checkIndex_8e157_4 : decode cJ3_checkIndex_8e157 4 = .ok (.iload_n 0, 1) := by decide +kernel
theorem dJ3_checkIndex_8e157_5 : decode cJ3_checkIndex_8e157 5 = .ok (.iload_n 1, 1) := by decide +kernel
theorem dJ3_checkIndex_8e157_6 : decode cJ3_checkIndex_8e157 6 = .ok (.if_icmp .lt 10, 3) := by decide +kernel
theorem dJ3_checkIndex_8e157_9 : decode cJ3_checkIndex_8e157 9 = .ok (.aload_n 2, 1) := by decide +kernel
theorem dJ3_checkIndex_8e157_10 : decode cJ3_checkIndex_8e157 10 = .ok (.iload_n 0, 1) := by decide +kernel
theorem dJ3_checkIndex_8e157_11 : decode cJ3_checkIndex_8e157 11 = .ok (.iload_n 1, 1) := by decide +kernel
theorem dJ3_checkIndex_8e157_12 : decode cJ3_checkIndex_8e157 12 = .ok (.invokestatic 95, 3) := by decide +kernel
theorem dJ3_checkIndex_8e157_15 : decode cJ3_checkIndex_8e157 15 = .ok (.athrow, 1) := by decide +kernel
theorem dJ3_checkIndex_8e157_16 : decode cJ3_checkIndex_8e157 16 = .ok (.iload_n 0, 1) := by decide +kernel
theorem dJ3_checkIndex_8e157_17 : decode cJ3_checkIndex_8e157 17 = .ok (.ireturn, 1) := by decide +kernel
set_option maxRecDepth 20000 in
theorem cN_J3_checkIndex {l : Launch} (hfl : l.stackTraces = false) (E : zE) (σ : zS) (k n : Nat) (hk : k < n) (hn : n ≤ 1000) : zRi l E yJ3_checkIndex_8e157 cJ3_checkIndex_8e157 3 .int (zrm 0 0) [.int (zI (k : Int)), .int (zI (n : Int)), .null] σ (fun r τ => r = zI (k : Int) ∧ τ = σ) := by
  refine Met.ofW (cc := cJ3_checkIndex_8e157) (maxL := 3) (ret := (some .int)) (by decide +kernel) rfl ?_
  intro p e s m args below meth c s₁ B hml hv
  obtain ⟨rfl, hd⟩ := hv
  have C := zX_of (own := RJ3) hfl B hml rfl hd rfl
  have hr := B.returns
  refine zV_go hd (Nat.le_of_ble_eq_true rfl) (lv := [(0, .int (zI (k : Int))), (1, .int (zI (n : Int))), (2, .null)]) rfl ?_
  refine zv_iload_n C 0 dJ3_checkIndex_8e157_0 rfl rfl ?_
  refine zv_if_ltZ (tgt := 9) C (by omega) dJ3_checkIndex_8e157_1 (by decide) (fun h1 => ?_) (fun h1 => ?_)
  · exfalso
    omega
  · skip
    refine zv_iload_n C 0 dJ3_checkIndex_8e157_4 rfl rfl ?_
    refine zv_iload_n C 1 dJ3_checkIndex_8e157_5 rfl rfl ?_
    refine zv_icmp_ltZ (tgt := 16) C (by omega) (by omega) dJ3_checkIndex_8e157_6 (by decide) (fun h6 => ?_) (fun h6 => ?_)
    · skip
      refine zv_iload_n C 0 dJ3_checkIndex_8e157_16 rfl rfl ?_
      exact zv_iret C hr rfl dJ3_checkIndex_8e157_17 ⟨rfl, rfl⟩
    · exfalso
      omega
set_option maxRecDepth 20000 in
theorem cR_J3_checkIndex {l : Launch} (hfl : l.stackTraces = false) (E : zE) (σ : zS) (k n t : Nat) (hk : k < n) (hn : n ≤ 1000) : zRi l E yJ3_checkIndex_8e157 cJ3_checkIndex_8e157 3 .int (zrm 0 0) [.int (zI (k : Int)), .int (zI (n : Int)), .ref t] σ (fun r τ => r = zI (k : Int) ∧ τ = σ) := by
  refine Met.ofW (cc := cJ3_checkIndex_8e157) (maxL := 3) (ret := (some .int)) (by decide +kernel) rfl ?_
  intro p e s m args below meth c s₁ B hml hv
  obtain ⟨rfl, hd⟩ := hv
  have C := zX_of (own := RJ3) hfl B hml rfl hd rfl
  have hr := B.returns
  refine zV_go hd (Nat.le_of_ble_eq_true rfl) (lv := [(0, .int (zI (k : Int))), (1, .int (zI (n : Int))), (2, .ref t)]) rfl ?_
  refine zv_iload_n C 0 dJ3_checkIndex_8e157_0 rfl rfl ?_
  refine zv_if_ltZ (tgt := 9) C (by omega) dJ3_checkIndex_8e157_1 (by decide) (fun h1 => ?_) (fun h1 => ?_)
  · exfalso
    omega
  · skip
    refine zv_iload_n C 0 dJ3_checkIndex_8e157_4 rfl rfl ?_
    refine zv_iload_n C 1 dJ3_checkIndex_8e157_5 rfl rfl ?_
    refine zv_icmp_ltZ (tgt := 16) C (by omega) (by omega) dJ3_checkIndex_8e157_6 (by decide) (fun h6 => ?_) (fun h6 => ?_)
    · skip
      refine zv_iload_n C 0 dJ3_checkIndex_8e157_16 rfl rfl ?_
      exact zv_iret C hr rfl dJ3_checkIndex_8e157_17 ⟨rfl, rfl⟩
    · exfalso
      omega
theorem c_J3_checkIndex_8e157 {l : Launch} (hfl : l.stackTraces = false) (E : zE) (σ : zS) (k n : Nat) (v9 : Value) (hv9 : v9 = .null ∨ ∃ t, v9 = .ref t) (hk : k < n) (hn : n ≤ 1000) : zRi l E yJ3_checkIndex_8e157 cJ3_checkIndex_8e157 3 .int (zrm 0 0) [.int (zI (k : Int)), .int (zI (n : Int)), v9] σ (fun r τ => r = zI (k : Int) ∧ τ = σ) := by
  rcases hv9 with rfl | ⟨t, rfl⟩
  · exact cN_J3_checkIndex hfl E σ k n hk hn
  · exact cR_J3_checkIndex hfl E σ k n t hk hn
set_option maxRecDepth 20000 in
theorem c_J0_checkIndex_df160 {l : Launch} (hfl : l.stackTraces = false) (E : zE) (σ : zS) (k n : Nat) (hk : k < n) (hn : n ≤ 1000) : zRv l E yJ0_checkIndex_df160 cJ0_checkIndex_df160 2 (zrm 1 22) [.int (zI (k : Int)), .int (zI (n : Int))] σ (fun τ => τ = σ) := by
  refine Met.ofW (cc := cJ0_checkIndex_df160) (maxL := 2) (ret := none) (by decide +kernel) rfl ?_
  intro p e s m args below meth c s₁ B hml hv
  obtain ⟨rfl, hd⟩ := hv
  have C := zX_of (own := RJ0) hfl B hml rfl hd rfl
  have hr := B.returns
  refine zV_go hd (Nat.le_of_ble_eq_true rfl) (lv := [(0, .int (zI (k : Int))), (1, .int (zI (n : Int)))]) rfl ?_
  refine zv_iload_n C 0 dJ0_checkIndex_df160_0 rfl rfl ?_
  refine zv_iload_n C 1 dJ0_checkIndex_df160_1 rfl rfl ?_
  refine zv_getPF C kJ0_1053 dJ0_checkIndex_df160_2 (fun v2 hv2 => ?_)
  refine zv_csiD (st := []) C (c_J3_checkIndex_8e157 hfl E σ k n v2 hv2 (by omega) (by omega)) mJ3_checkIndex_8e157 kJ0_1059 rfl ⟨rfl, rfl⟩ (show zfit (zrm 0 0) 3 (zrm 1 22) = true from rfl) (Nat.le_of_ble_eq_true rfl) dJ0_checkIndex_df160_5 ⟨Nat.zero_le _, Nat.zero_le _⟩ ?_
  refine zv_pop C dJ0_checkIndex_df160_8 rfl ?_
  exact zv_vret C hr dJ0_checkIndex_df160_9 rfl
set_option maxRecDepth 20000 in
theorem c_J1_charAt_3b067 {l : Launch} (hfl : l.stackTraces = false) (E : zE) (σ : zS) (w k : Nat) (hw : w < 11) (hk : k < zSn.getD w 0) : zRi l E yJ1_charAt_3b067 cJ1_charAt_3b067 2 .char (zrm 2 43) [.ref (cad E (40 + w)), .int (zI (k : Int))] σ (fun r τ => r = zI (sC w k : Int) ∧ τ = σ) := by
  refine Met.ofW (cc := cJ1_charAt_3b067) (maxL := 2) (ret := (some .char)) (by decide +kernel) rfl ?_
  intro p e s m args below meth c s₁ B hml hv
  obtain ⟨rfl, hd⟩ := hv
  have C := zX_of (own := RJ1) hfl B hml rfl hd rfl
  have hr := B.returns
  refine zV_go hd (Nat.le_of_ble_eq_true rfl) (lv := [(0, .ref (cad E (40 + w))), (1, .int (zI (k : Int)))]) rfl ?_
  have hsn := (sN_b w hw).2
  have hsc := (sC_e w hw k hk).2
  refine zv_iload_n C 1 dJ1_charAt_3b067_0 rfl rfl ?_
  refine zv_aload_n C 0 dJ1_charAt_3b067_1 rfl rfl ?_
  refine zv_alenS (i := w) C hw dJ1_charAt_3b067_2 ?_
  refine zv_csvD (st := []) C (c_J0_checkIndex_df160 hfl E σ k (zSn.getD w 0) hk (by omega)) mJ0_checkIndex_df160 kJ1_9 rfl ⟨rfl, rfl⟩ (show zfit (zrm 1 22) 2 (zrm 2 43) = true from rfl) (Nat.le_of_ble_eq_true rfl) dJ1_charAt_3b067_3 ⟨Nat.zero_le _, Nat.zero_le _⟩ ?_
  refine zv_aload_n C 0 dJ1_charAt_3b067_6 rfl rfl ?_
  refine zv_iload_n C 1 dJ1_charAt_3b067_7 rfl rfl ?_
  refine zv_baldS (i := w) (j := k) C hw (zI_ix (by omega)) (by assumption) dJ1_charAt_3b067_8 ?_
  refine zv_sipush (v := zI 255) C dJ1_charAt_3b067_9 (by decide) ?_
  refine zv_iand C dJ1_charAt_3b067_12 ?_
  refine zv_i2c C dJ1_charAt_3b067_13 ?_
  refine zv_eqi (y := (zI (sC w k : Int))) (zI_ch (by omega)) ?_
  exact zv_iret C hr (zI_cn (by omega)) dJ1_charAt_3b067_14 ⟨rfl, rfl⟩
set_option maxRecDepth 20000 in
theorem c_J0_charAt_5068e {l : Launch} (hfl : l.stackTraces = false) (E : zE) (σ : zS) (w k : Nat) (hw : w < 11) (hk : k < zSn.getD w 0) : zRi l E yJ0_charAt_5068e cJ0_charAt_5068e 2 .char (zrm 3 64) [.ref (cad E (20 + w)), .int (zI (k : Int))] σ (fun r τ => r = zI (sC w k : Int) ∧ τ = σ) := by
  refine Met.ofW (cc := cJ0_charAt_5068e) (maxL := 2) (ret := (some .char)) (by decide +kernel) rfl ?_
  intro p e s m args below meth c s₁ B hml hv
  obtain ⟨rfl, hd⟩ := hv
  have C := zX_of (own := RJ0) hfl B hml rfl hd rfl
  have hr := B.returns
  refine zV_go hd (Nat.le_of_ble_eq_true rfl) (lv := [(0, .ref (cad E (20 + w))), (1, .int (zI (k : Int)))]) rfl ?_
  have hsn := (sN_b w hw).2
  have hsc := (sC_e w hw k hk).2
  refine zv_aload_n C 0 dJ0_charAt_5068e_0 rfl rfl ?_
  refine zv_cKiD (st := []) C (c_J0_isLatin1_aae02 hfl E σ w hw) mJ0_isLatin1_aae02 kJ0_492 hw rfl rfl ⟨rfl, rfl⟩ (show zfit (zrm 0 0) 1 (zrm 3 64) = true from rfl) (Nat.le_of_ble_eq_true rfl) dJ0_charAt_5068e_1 ⟨Nat.zero_le _, Nat.zero_le _⟩ ?_
  refine zv_if_eqZ (tgt := 16) C (by omega) dJ0_charAt_5068e_4 (by decide) (fun h4 => absurd h4 (by decide)) (fun h4 => ?_)
  refine zv_aload_n C 0 dJ0_charAt_5068e_7 rfl rfl ?_
  refine zv_sval (i := w) C hw kJ0_9 dJ0_charAt_5068e_8 ?_
  refine zv_iload_n C 1 dJ0_charAt_5068e_11 rfl rfl ?_
  refine zv_csiD (st := []) C (c_J1_charAt_3b067 hfl E σ w k hw hk) mJ1_charAt_3b067 kJ0_495 rfl ⟨rfl, rfl⟩ (show zfit (zrm 2 43) 2 (zrm 3 64) = true from rfl) (Nat.le_of_ble_eq_true rfl) dJ0_charAt_5068e_12 ⟨Nat.zero_le _, Nat.zero_le _⟩ ?_
  exact zv_iret C hr (zI_cn (by omega)) dJ0_charAt_5068e_15 ⟨rfl, rfl⟩
