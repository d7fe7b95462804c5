/-! the reference's constructor -/
theorem zc0_10 {E : zE} {k : Nat} (h : kd k = 10) : zc E zG0 k = .inr (10, [.ref (ob E (k + 1)), .ref (ob E (k + 2)), .ref (ob E (k + 3)), .ref (ob E (k + 4)), .ref (ob E (k + 5)), .ref (ob E (k + 6)), .ref (ob E (k + 7)), .ref (ob E (k + 8)), .int 0, .int 0, .int 0, .ref (ob E (k + 9)), .int 0, .int 0, .int (-1), .int 0, .int 0, .int 0, .int 0, .int 0, .int 0, .int 0, .long 0, .long 0, .int 0, .ref (ob E (k + 10)), .long 0, .long 0, .ref (ob E (k + 11)), .int 0]) := by
  unfold zc
  rw [if_neg (by omega), if_neg (by omega), if_neg (by omega), if_neg (by omega), if_neg (by omega), if_neg (by omega), if_neg (by omega), if_neg (by omega), if_neg (by omega), if_neg (by omega), if_pos h]
  simp [zG0, gI, gJ, h]
section
variable {p : Program} {l : Launch} {e : Env} {R : Room} {s : State} {m : MethodId} {args : Array Value} {below : List Frame} {meth : Method} {c : Code} {cc : ByteArray} {own : String} {nL : Nat} {E : zE} {k0 : Nat} {Q : State → Prop} {ce sl : Nat} {cw : Nat → va_E} {n pc : Nat} {lv : List (Nat × Value)} {st : List Value}
theorem zp_iast (C : zYx p l s m args meth c cc own nL E k0) {i N' : Nat} {f : Nat → Int32} (hi : i < n) (ha : cw i = .inl (cAt E 1, N', .inl f)) {x v : Int32} {j : Nat} (hx : x = nI j) (hj : j < N') (hj2 : N' < 2 ^ 31) (hdg : decode cc pc = .ok (.iastore, 1)) (kk : zVp p l e R s m args below meth c nL E k0 Q ce sl (zU cw i (.inl (cAt E 1, N', .inl (upd f j v)))) n (pc + 1) lv st) : zVp p l e R s m args below meth c nL E k0 Q ce sl cw n pc lv (.int v :: .int x :: .ref (ob E (k0 + i)) :: st) := fun H locs ls hP hS hl => by
  subst hx
  have hxc : (nI j).toNatClampNeg = j := nI_clamp (by omega)
  have hin := vp_in_nI hj hj2
  have hat : H[ob E (k0 + i)]? = some (vp_cell (cAt E 1) (N', .inl f)) := by
    have := zP_at hP hi
    rw [ha] at this
    exact this
  refine W.iast C.exec C.code hat ((C.known.2 1 (cAt E 1, .int) rfl).1 N' (fun j => .int (f j))) (fun q => by cases q) (by show ¬ (nI j < 0 ∨ (arrV _ _ _).slots.size ≤ _); rw [arrV_size]; exact hin) rfl rfl hdg fun H1 e z oq => ?_
  refine kk H1 _ ls (zP_set hP z oq ?_) (hS.put z oq (by show ob E k0 ≤ ob E (k0 + i); unfold ob; omega)) hl
  show H1[ob E (k0 + i)]? = some (vp_cell _ _)
  rw [e, hxc]
  rw [vp_cell_i, vp_cell_i, arrV_store]
  congr 2
  funext q
  by_cases hq : q = j
  · subst hq
    simp [updV, upd]
  · simp [updV, upd, hq]
/-- a method on a world under way -/
def zRq9 (l : Launch) (E : zE) (k0 : Nat) (y : MethodName) (cc : ByteArray) (nL : Nat) (rm : Room) (cw : Nat → va_E) (n : Nat) (cw' : Nat → va_E) (n' mc ms : Nat) : Prop := Met l y (zws y cc nL none) rm (va_Pc [.ref (ob E k0)] (fun U => zP E k0 cw n U.heap ∧ zKn E U)) (va_Qv (fun _ : Unit => True) (fun _ U => zP E k0 cw' n' U.heap) (zAk E k0)) mc ms (zAk E k0)
theorem zp_goK {y : MethodName} {rm : Room} {cw' : Nat → va_E} {n' mc ms : Nat} (hy : plainName y.cls = true) (hown : y.cls = own) (hL : 1 ≤ nL)
    (body : ∀ p e s m args below meth c, zYx p l s m args meth c cc own nL E k0 → meth.sig.returnType = none → zVp p l e (headSpec (zws y cc nL none) rm).room s m args below meth c nL E k0 (MQ below (va_Qv (fun _ : Unit => True) (fun _ U => zP E k0 cw' n' U.heap) (zAk E k0)) args s mc ms (zAk E k0)) 0 0 cw n 0 [(0, .ref (ob E (k0 + 0)))] []) : zRq9 l E k0 y cc nL rm cw n cw' n' mc ms := by
  refine Met.ofW (cc := cc) (maxL := nL) (ret := none) hy rfl ?_
  intro p e s m args below meth c s₁ B hml hv
  obtain ⟨rfl, hP, hK⟩ := hv
  have hP : zP E k0 cw n s.heap := hP
  have C : zYx p l s m [Value.ref (ob E k0)].toArray meth c cc own nL E k0 := ⟨B.exec, B.bytes, hml, by rw [← hown]; exact findClass_of_methodNamed B.named, fun w h => atoms_spec (ws := zws y cc nL none) B.pre w (List.mem_cons_of_mem _ h), hK, by rw [hP.1]; unfold ob; omega, B.notSynchronized⟩
  rw [lg_entry_eq]
  exact body p e s m _ below meth c C B.returns _ _ _ hP va_S.rf (lv_entry [.ref (ob E k0)] hL)
theorem zp_retK {cw' : Nat → va_E} (C : zYx p l s m args meth c cc own nL E k0) (hr : meth.sig.returnType = none) (hdg : decode cc pc = .ok (.return_, 1)) (h : ∀ j, j < n → cw j = cw' j) : zVp p l e R s m args below meth c nL E k0 (MQ below (va_Qv (fun _ : Unit => True) (fun _ U => zP E k0 cw' n U.heap) (zAk E k0)) args s ce sl (zAk E k0)) ce sl cw n pc lv [] := fun H locs ls hP hS hl => W.vret C.exec C.code hr (fun t ht _ => ⟨⟨(), rfl, trivial, by show zP _ _ _ _ t.heap; rw [ht]; exact zP_cong hP h⟩, hS.F ht⟩) hS.2.2 hdg C.locks
theorem zp_cV (C : zYx p l s m args meth c cc own nL E k0) {y : MethodName} {cy : ByteArray} {nY : Nat} {rm : Room} {cw' : Nat → va_E} {n' mc ms ix ci : Nat} {fs : List Value} (hM : zRq9 l E k0 y cy nY rm cw n cw' n' mc ms) (h0 : 0 < n) (hz : cw 0 = .inr (ci, fs)) (hm : zMv y cy nY none 0) (hlink : Cond.methodLink own ix y ∈ zT) {q : vw_C} (hc : vwCl[ci]? = some q) (hq : q.1 = y.cls) (hrm : rm.cells = mc ∧ rm.slots = ms) (hR : zfit rm nY R = true) (hcat : (st.map fun v => v.category).sum ≤ 8) (hdg : decode cc pc = .ok (.invokevirtual ix, 3)) (hf : ce + mc ≤ R.cells ∧ sl + ms ≤ R.slots)
    (kk : zVp p l e R s m args below meth c nL E k0 Q (ce + mc) (sl + ms) cw' n' (pc + 3) lv st) : zVp p l e R s m args below meth c nL E k0 Q ce sl cw n pc lv (.ref (ob E (k0 + 0)) :: st) := fun H locs ls hP hS hl => by
  obtain ⟨⟨m1, m2, m3, m4, m5⟩, m6, m7⟩ := hm
  have hrecv := va_recv C.known hP.2 hc (a := ob E (k0 + 0)) (q0 := 0) (fs := fs) (by rw [zpW_at h0, hz])
  rw [hq] at hrecv
  have hrun := va_runV (As := []) (rest := st) (R := R) (p := p) (e := e) (meth := meth) (below := below) (H := H) (locs := locs) (cells := ce) (slots := sl) (g := F0 m pc ls (.ref (ob E (k0 + 0)) :: st)) (C := y.cls) (index := ix) (bytes := cy) (maxL := nY) (ret := none) (n := 0) ⟨C.exec, C.code, C.maxL, C.cls, C.words⟩ hM (cwV 0 C.words (zgood fun w hw => ?_) rfl hrm.1 hrm.2 ⟨rfl, m3, m4, m5⟩ (zfit_of hR).1) ⟨fun a U g mk h => ⟨h.1, h.2.1, zKn.moved (u := U) (U := U.calling g mk a) (State.WarmedH.refl U) h.2.2⟩, hrecv, fun U hU hW => ⟨rfl, by rw [hU]; exact hP, zKn.moved hW C.kn⟩⟩ rfl rfl hl.1 rfl (lv_room hcat) hdg hf
  · refine va_callv hrun hS (fun q _ h => h) (fun q h => h) (fun u t H1 locs1 ht hvm _ hB hz hk hS1 => kk H1 locs1 ls ?_ hS1 hl)
    rw [← ht]
    exact hB
  · rcases List.mem_append.mp hw with h | h
    · simp only [List.mem_cons, List.not_mem_nil, or_false] at h
      rcases h with rfl | rfl | rfl | rfl
      · exact hlink
      · exact m6
      · exact m7
      · exact m2
    · exact zgood_ws m1 w h
end
theorem upd_0 (j : Nat) : upd (fun _ => (0 : Int32)) j 0 = fun _ => 0 := funext fun q => by
  unfold upd
  split <;> rfl
theorem clr_b {p : Program} {l : Launch} {e : Env} {R : Room} {s : State} {m : MethodId} {args : Array Value} {below : List Frame} {meth : Method} {c : Code} {E : zE} {Q : State → Prop} {ce sl : Nat} {cw : Nat → va_E} (C : zYx p l s m args meth c cX11_clear RX11 2 E 327) (h0 : cw 0 = .inr (10, [.ref (ob E (327 + 1)), .ref (ob E (327 + 2)), .ref (ob E (327 + 3)), .ref (ob E (327 + 4)), .ref (ob E (327 + 5)), .ref (ob E (327 + 6)), .ref (ob E (327 + 7)), .ref (ob E (327 + 8)), .int 0, .int 0, .int 0, .ref (ob E (327 + 9)), .int 0, .int 0, .int (-1), .int 0, .int 0, .int 0, .int 0, .int 0, .int 0, .int 0, .long 0, .long 0, .int 0, .ref (ob E (327 + 10)), .long 0, .long 0, .ref (ob E (327 + 11)), .int 0])) (h1 : cw 1 = .inl (cAt E 1, 26, .inl (fun _ => 0))) (K : zVp p l e R s m args below meth c 2 E 327 Q ce sl cw 12 21 [(1, .int (zI 26)), (0, .ref (ob E (327 + 0)))] []) : ∀ d j : Nat, j + d = 26 → zVp p l e R s m args below meth c 2 E 327 Q ce sl cw 12 2 [(1, .int (zI (j : Int))), (0, .ref (ob E (327 + 0)))] [] := by
  intro d
  induction d with
  | zero =>
    intro j hj
    obtain rfl : j = 26 := by omega
    refine zp_iload_n C 0 dX11_clear_2 rfl rfl ?_
    refine zp_bipush (v := zI 26) C dX11_clear_3 (by decide) ?_
    refine zp_icmp_geZ (tgt := 21) C (by omega) (by omega) dX11_clear_5 (by decide) (fun _ => ?_) (fun h => ?_)
    · exact K
    · omega
  | succ d ih =>
    intro j hj
    refine zp_iload_n C 0 dX11_clear_2 rfl rfl ?_
    refine zp_bipush (v := zI 26) C dX11_clear_3 (by decide) ?_
    refine zp_icmp_geZ (tgt := 21) C (by omega) (by omega) dX11_clear_5 (by decide) (fun h => ?_) (fun _ => ?_)
    · omega
    refine zp_aload_n C 1 dX11_clear_8 rfl rfl ?_
    refine zp_get (i := 0) (ci := 10) (j := 0) (fs := [.ref (ob E (327 + 1)), .ref (ob E (327 + 2)), .ref (ob E (327 + 3)), .ref (ob E (327 + 4)), .ref (ob E (327 + 5)), .ref (ob E (327 + 6)), .ref (ob E (327 + 7)), .ref (ob E (327 + 8)), .int 0, .int 0, .int 0, .ref (ob E (327 + 9)), .int 0, .int 0, .int (-1), .int 0, .int 0, .int 0, .int 0, .int 0, .int 0, .int 0, .long 0, .long 0, .int 0, .ref (ob E (327 + 10)), .long 0, .long 0, .ref (ob E (327 + 11)), .int 0]) (v := .ref (ob E (327 + 1))) C (by omega) h0 rfl iX11 (by decide) rfl rfl kX11_7 dX11_clear_9 ?_
    refine zp_iload_n C 0 dX11_clear_12 rfl rfl ?_
    refine zp_iconst (v := 0) C dX11_clear_13 (by decide) ?_
    refine zp_iast (i := 1) (N' := 26) (f := fun _ => 0) (j := j) C (by omega) h1 (zI_ix rfl) (by omega) (by decide) dX11_clear_14 ?_
    refine zp_cong (cw' := cw) (fun k _ => by
      unfold zU
      by_cases g : k = 1
      · rw [if_pos g, g, h1, upd_0]
      · rw [if_neg g]) ?_
    refine zp_iinc (v := zI ((j : Int) + 1)) (lv' := [(1, .int (zI ((j : Int) + 1))), (0, .ref (ob E (327 + 0)))]) C 0 dX11_clear_15 rfl (zI_add _ _) (by decide) rfl ?_
    refine zp_goto (tgt := 2) C dX11_clear_18 (by decide) ?_
    exact ih (j + 1) (by omega)
theorem clr_w {p : Program} {l : Launch} {e : Env} {R : Room} {s : State} {m : MethodId} {args : Array Value} {below : List Frame} {meth : Method} {c : Code} {E : zE} {Q : State → Prop} {ce sl : Nat} {cw : Nat → va_E} (C : zYx p l s m args meth c cX11_clear RX11 2 E 327) (h0 : cw 0 = .inr (10, [.ref (ob E (327 + 1)), .ref (ob E (327 + 2)), .ref (ob E (327 + 3)), .ref (ob E (327 + 4)), .ref (ob E (327 + 5)), .ref (ob E (327 + 6)), .ref (ob E (327 + 7)), .ref (ob E (327 + 8)), .int 0, .int 0, .int 0, .ref (ob E (327 + 9)), .int 0, .int 0, .int (-1), .int 0, .int 0, .int 0, .int 0, .int 0, .int 0, .int 0, .long 0, .long 0, .int 0, .ref (ob E (327 + 10)), .long 0, .long 0, .ref (ob E (327 + 11)), .int 0])) (h1 : cw 5 = .inl (cAt E 1, 131, .inl (fun _ => 0))) (K : zVp p l e R s m args below meth c 2 E 327 Q ce sl cw 12 52 [(1, .int (zI 131)), (0, .ref (ob E (327 + 0)))] []) : ∀ d j : Nat, j + d = 131 → zVp p l e R s m args below meth c 2 E 327 Q ce sl cw 12 32 [(1, .int (zI (j : Int))), (0, .ref (ob E (327 + 0)))] [] := by
  intro d
  induction d with
  | zero =>
    intro j hj
    obtain rfl : j = 131 := by omega
    refine zp_iload_n C 0 dX11_clear_32 rfl rfl ?_
    refine zp_sipush (v := zI 131) C dX11_clear_33 (by decide) ?_
    refine zp_icmp_geZ (tgt := 52) C (by omega) (by omega) dX11_clear_36 (by decide) (fun _ => ?_) (fun h => ?_)
    · exact K
    · omega
  | succ d ih =>
    intro j hj
    refine zp_iload_n C 0 dX11_clear_32 rfl rfl ?_
    refine zp_sipush (v := zI 131) C dX11_clear_33 (by decide) ?_
    refine zp_icmp_geZ (tgt := 52) C (by omega) (by omega) dX11_clear_36 (by decide) (fun h => ?_) (fun _ => ?_)
    · omega
    refine zp_aload_n C 1 dX11_clear_39 rfl rfl ?_
    refine zp_get (i := 0) (ci := 10) (j := 4) (fs := [.ref (ob E (327 + 1)), .ref (ob E (327 + 2)), .ref (ob E (327 + 3)), .ref (ob E (327 + 4)), .ref (ob E (327 + 5)), .ref (ob E (327 + 6)), .ref (ob E (327 + 7)), .ref (ob E (327 + 8)), .int 0, .int 0, .int 0, .ref (ob E (327 + 9)), .int 0, .int 0, .int (-1), .int 0, .int 0, .int 0, .int 0, .int 0, .int 0, .int 0, .long 0, .long 0, .int 0, .ref (ob E (327 + 10)), .long 0, .long 0, .ref (ob E (327 + 11)), .int 0]) (v := .ref (ob E (327 + 5))) C (by omega) h0 rfl iX11 (by decide) rfl rfl kX11_22 dX11_clear_40 ?_
    refine zp_iload_n C 0 dX11_clear_43 rfl rfl ?_
    refine zp_iconst (v := 0) C dX11_clear_44 (by decide) ?_
    refine zp_iast (i := 5) (N' := 131) (f := fun _ => 0) (j := j) C (by omega) h1 (zI_ix rfl) (by omega) (by decide) dX11_clear_45 ?_
    refine zp_cong (cw' := cw) (fun k _ => by
      unfold zU
      by_cases g : k = 5
      · rw [if_pos g, g, h1, upd_0]
      · rw [if_neg g]) ?_
    refine zp_iinc (v := zI ((j : Int) + 1)) (lv' := [(1, .int (zI ((j : Int) + 1))), (0, .ref (ob E (327 + 0)))]) C 0 dX11_clear_46 rfl (zI_add _ _) (by decide) rfl ?_
    refine zp_goto (tgt := 32) C dX11_clear_49 (by decide) ?_
    exact ih (j + 1) (by omega)
theorem clW_o {x : Nat} (h1 : x ≠ 328) (h2 : x ≠ 332) : gI (clW zG0) x = gI zG0 x := funext fun j => by
  rw [gI_clW, if_neg (by omega), if_neg (by omega), if_neg (by omega), if_neg (by omega)]
theorem clW_b : gI (clW zG0) 328 = upd (fun _ => 0) 1 2000 := funext fun j => by
  have g : gI zG0 328 j = 0 := congrFun (zG_n (k := 328) (by decide +kernel)).1 j
  rw [gI_clW, if_neg (by omega), if_neg (by omega), g]
  unfold upd
  by_cases q : j = 1
  · rw [if_pos ⟨rfl, q⟩, if_pos q]; rfl
  · rw [if_neg (fun z => q z.2), if_neg q]
    split <;> rfl
theorem clW_w : gI (clW zG0) 332 = upd (fun _ => 0) 17 60 := funext fun j => by
  have g : gI zG0 332 j = 0 := congrFun (zG_n (k := 332) (by decide +kernel)).1 j
  rw [gI_clW, if_neg (c := 332 = 328 ∧ j = 1) (by omega), if_neg (c := 332 = 328 ∧ j < 26) (by omega), g]
  unfold upd
  by_cases q : j = 17
  · rw [if_pos ⟨rfl, q⟩, if_pos q]; rfl
  · rw [if_neg (fun z => q z.2), if_neg q]
    split <;> rfl
set_option maxRecDepth 20000 in
theorem k_X11_clear {l : Launch} (E : zE) : zRq9 l E 327 yX11_clear cX11_clear 2 (zrc 1 0 0 30) (fun j => zc E zG0 (327 + j)) 12 (fun j => zc E (clW zG0) (327 + j)) 12 0 0 := by
  have e0 : zc E zG0 (327 + 0) = .inr (10, [.ref (ob E (327 + 1)), .ref (ob E (327 + 2)), .ref (ob E (327 + 3)), .ref (ob E (327 + 4)), .ref (ob E (327 + 5)), .ref (ob E (327 + 6)), .ref (ob E (327 + 7)), .ref (ob E (327 + 8)), .int 0, .int 0, .int 0, .ref (ob E (327 + 9)), .int 0, .int 0, .int (-1), .int 0, .int 0, .int 0, .int 0, .int 0, .int 0, .int 0, .long 0, .long 0, .int 0, .ref (ob E (327 + 10)), .long 0, .long 0, .ref (ob E (327 + 11)), .int 0]) := zc0_10 (k := 327) (by decide +kernel)
  have e1 : zc E zG0 (327 + 1) = .inl (cAt E 1, 26, .inl (fun _ => 0)) := zc0_12 (k := 328) (by decide +kernel) (by decide +kernel)
  have e5 : zc E zG0 (327 + 5) = .inl (cAt E 1, 131, .inl (fun _ => 0)) := zc0_12 (k := 332) (by decide +kernel) (by decide +kernel)
  refine zp_goK (own := RX11) (by decide +kernel) rfl (by decide) (fun p e s m args below meth c C hr => ?_)
  refine zp_iconst (v := zI 0) C dX11_clear_0 rfl ?_
  refine zp_istore_n (lv' := [(1, .int (zI 0)), (0, .ref (ob E (327 + 0)))]) C dX11_clear_1 rfl (by decide) rfl ?_
  refine clr_b C e0 e1 ?_ 26 0 rfl
  refine zp_aload_n C 1 dX11_clear_21 rfl rfl ?_
  refine zp_get (i := 0) (ci := 10) (j := 0) (fs := [.ref (ob E (327 + 1)), .ref (ob E (327 + 2)), .ref (ob E (327 + 3)), .ref (ob E (327 + 4)), .ref (ob E (327 + 5)), .ref (ob E (327 + 6)), .ref (ob E (327 + 7)), .ref (ob E (327 + 8)), .int 0, .int 0, .int 0, .ref (ob E (327 + 9)), .int 0, .int 0, .int (-1), .int 0, .int 0, .int 0, .int 0, .int 0, .int 0, .int 0, .long 0, .long 0, .int 0, .ref (ob E (327 + 10)), .long 0, .long 0, .ref (ob E (327 + 11)), .int 0]) (v := .ref (ob E (327 + 1))) C (by omega) e0 rfl iX11 (by decide) rfl rfl kX11_7 dX11_clear_22 ?_
  refine zp_iconst (v := zI 1) C dX11_clear_25 rfl ?_
  refine zp_sipush (v := 2000) C dX11_clear_26 (by decide) ?_
  refine zp_iast (i := 1) (N' := 26) (f := fun _ => 0) (j := 1) C (by omega) e1 (zI_ix rfl) (by omega) (by decide) dX11_clear_29 ?_
  refine zp_iconst (v := zI 0) C dX11_clear_30 rfl ?_
  refine zp_istore_n (lv' := [(1, .int (zI 0)), (0, .ref (ob E (327 + 0)))]) C dX11_clear_31 rfl (by decide) rfl ?_
  refine clr_w C e0 e5 ?_ 131 0 rfl
  refine zp_aload_n C 1 dX11_clear_52 rfl rfl ?_
  refine zp_get (i := 0) (ci := 10) (j := 4) (fs := [.ref (ob E (327 + 1)), .ref (ob E (327 + 2)), .ref (ob E (327 + 3)), .ref (ob E (327 + 4)), .ref (ob E (327 + 5)), .ref (ob E (327 + 6)), .ref (ob E (327 + 7)), .ref (ob E (327 + 8)), .int 0, .int 0, .int 0, .ref (ob E (327 + 9)), .int 0, .int 0, .int (-1), .int 0, .int 0, .int 0, .int 0, .int 0, .int 0, .int 0, .long 0, .long 0, .int 0, .ref (ob E (327 + 10)), .long 0, .long 0, .ref (ob E (327 + 11)), .int 0]) (v := .ref (ob E (327 + 5))) C (by omega) e0 rfl iX11 (by decide) rfl rfl kX11_22 dX11_clear_53 ?_
  refine zp_bipush (v := zI 17) C dX11_clear_56 (by decide) ?_
  refine zp_bipush (v := 60) C dX11_clear_58 (by decide) ?_
  refine zp_iast (i := 5) (N' := 131) (f := fun _ => 0) (j := 17) C (by omega) e5 (zI_ix rfl) (by omega) (by decide) dX11_clear_60 ?_
  refine zp_retK C hr dX11_clear_61 (fun j hj => ?_)
  unfold zU
  by_cases g5 : j = 5
  · subst g5
    rw [if_pos rfl, ← clW_w]
    unfold zc
    rw [if_neg (by decide +kernel), if_neg (by decide +kernel), if_neg (by decide +kernel), if_neg (by decide +kernel), if_neg (by decide +kernel), if_neg (by decide +kernel), if_neg (by decide +kernel), if_neg (by decide +kernel), if_neg (by decide +kernel), if_neg (by decide +kernel), if_neg (by decide +kernel), if_neg (by decide +kernel), if_pos (by decide +kernel)]
    rfl
  · rw [if_neg g5]
    by_cases g1 : j = 1
    · subst g1
      rw [if_pos rfl, ← clW_b]
      unfold zc
      rw [if_neg (by decide +kernel), if_neg (by decide +kernel), if_neg (by decide +kernel), if_neg (by decide +kernel), if_neg (by decide +kernel), if_neg (by decide +kernel), if_neg (by decide +kernel), if_neg (by decide +kernel), if_neg (by decide +kernel), if_neg (by decide +kernel), if_neg (by decide +kernel), if_neg (by decide +kernel), if_pos (by decide +kernel)]
      rfl
    · rw [if_neg g1]
      exact (zc_cong (clW_o (by omega) (by omega)) rfl rfl).symm
theorem mcX11 : Cond.code yX11_init cX11_init 1 none ∈ zT := (zT_mem 1378 (by decide +kernel) (by decide))
theorem miX11 : Cond.initialized yX11_init.cls ∈ zT := (zT_mem 109 (by decide +kernel) (by decide))
theorem mmX11 : Cond.instanceMethod yX11_init ∈ zT := (zT_mem 1377 (by decide +kernel) (by decide))
theorem mtX11 : Cond.instantiable RX11 30 ∈ zT := (zT_mem 1375 (by decide +kernel) (by decide))
set_option maxRecDepth 20000 in
theorem c_X11_init {l : Launch} (E : zE) : zRc l E (clW zG0) 327 yX11_init cX11_init 1 (zrc 3 11 4249 80) (.inr (10, [.null, .null, .null, .null, .null, .null, .null, .null, .int 0, .int 0, .int 0, .null, .int 0, .int 0, .int 0, .int 0, .int 0, .int 0, .int 0, .int 0, .int 0, .int 0, .long 0, .long 0, .int 0, .null, .long 0, .long 0, .null, .int 0])) 12 11 4249 := by
  refine zp_go (own := RX11) (by decide +kernel) rfl rfl (by decide) (fun p e s m args below meth c C hr hnm => ?_)
  refine zq_start (a := 0) (xa := .inr (99, [])) ?_
  refine zp_aload_n C 0 dX11_init_0 rfl rfl ?_
  refine zp_obj C (zT_mem 1379 (by decide +kernel) (by decide)) zoi zoc dX11_init_1 ⟨(Nat.le_of_ble_eq_true rfl), (Nat.le_of_ble_eq_true rfl)⟩ ?_
  refine zp_aload_n C 0 dX11_init_4 rfl rfl ?_
  refine zp_bipush (v := 26) C dX11_init_5 (by decide) ?_
  refine zq_newa (atype := .int) (ti := 1) (N' := 26) (x := (26, .inl (fun _ => 0))) C rfl (zT_mem 209 (by decide +kernel) (by decide)) (fun _ => rfl) (by decide) (by decide) (by decide) (Nat.le_of_ble_eq_true rfl) (Nat.le_of_ble_eq_true rfl) dX11_init_7 ⟨by decide, by decide⟩ (zc0_12 (by decide +kernel) (by decide +kernel)) ?_
  refine zq_putF (ci := 10) (j := 0) (ty := tyX11 0) (fs := [.null, .null, .null, .null, .null, .null, .null, .null, .int 0, .int 0, .int 0, .null, .int 0, .int 0, .int 0, .int 0, .int 0, .int 0, .int 0, .int 0, .int 0, .int 0, .long 0, .long 0, .int 0, .null, .long 0, .long 0, .null, .int 0]) C (by decide) rfl rfl iX11 tyX11_ok nmX11 (by decide) rfl rfl hnm (tyX11_ok _ (by decide)) (by first | rfl | decide) rfl (Nat.le_of_ble_eq_true rfl) kX11_7 dX11_init_9 (c1 := .inr (10, [.ref (ob E (327 + 1)), .null, .null, .null, .null, .null, .null, .null, .int 0, .int 0, .int 0, .null, .int 0, .int 0, .int 0, .int 0, .int 0, .int 0, .int 0, .int 0, .int 0, .int 0, .long 0, .long 0, .int 0, .null, .long 0, .long 0, .null, .int 0])) rfl ?_
  refine zp_aload_n C 0 dX11_init_12 rfl rfl ?_
  refine zp_bipush (v := 26) C dX11_init_13 (by decide) ?_
  refine zq_newa (atype := .int) (ti := 1) (N' := 26) (x := (26, .inl (fun _ => 0))) C rfl (zT_mem 209 (by decide +kernel) (by decide)) (fun _ => rfl) (by decide) (by decide) (by decide) (Nat.le_of_ble_eq_true rfl) (Nat.le_of_ble_eq_true rfl) dX11_init_15 ⟨by decide, by decide⟩ (zc0_12 (by decide +kernel) (by decide +kernel)) ?_
  refine zq_putF (ci := 10) (j := 1) (ty := tyX11 1) (fs := [.ref (ob E (327 + 1)), .null, .null, .null, .null, .null, .null, .null, .int 0, .int 0, .int 0, .null, .int 0, .int 0, .int 0, .int 0, .int 0, .int 0, .int 0, .int 0, .int 0, .int 0, .long 0, .long 0, .int 0, .null, .long 0, .long 0, .null, .int 0]) C (by decide) rfl rfl iX11 tyX11_ok nmX11 (by decide) rfl rfl hnm (tyX11_ok _ (by decide)) (by first | rfl | decide) rfl (Nat.le_of_ble_eq_true rfl) kX11_13 dX11_init_17 (c1 := .inr (10, [.ref (ob E (327 + 1)), .ref (ob E (327 + 2)), .null, .null, .null, .null, .null, .null, .int 0, .int 0, .int 0, .null, .int 0, .int 0, .int 0, .int 0, .int 0, .int 0, .int 0, .int 0, .int 0, .int 0, .long 0, .long 0, .int 0, .null, .long 0, .long 0, .null, .int 0])) rfl ?_
  refine zp_aload_n C 0 dX11_init_20 rfl rfl ?_
  refine zp_bipush (v := 64) C dX11_init_21 (by decide) ?_
  refine zq_newa (atype := .int) (ti := 1) (N' := 64) (x := (64, .inl (fun _ => 0))) C rfl (zT_mem 209 (by decide +kernel) (by decide)) (fun _ => rfl) (by decide) (by decide) (by decide) (Nat.le_of_ble_eq_true rfl) (Nat.le_of_ble_eq_true rfl) dX11_init_23 ⟨by decide, by decide⟩ (zc0_12 (by decide +kernel) (by decide +kernel)) ?_
  refine zq_putF (ci := 10) (j := 2) (ty := tyX11 2) (fs := [.ref (ob E (327 + 1)), .ref (ob E (327 + 2)), .null, .null, .null, .null, .null, .null, .int 0, .int 0, .int 0, .null, .int 0, .int 0, .int 0, .int 0, .int 0, .int 0, .int 0, .int 0, .int 0, .int 0, .long 0, .long 0, .int 0, .null, .long 0, .long 0, .null, .int 0]) C (by decide) rfl rfl iX11 tyX11_ok nmX11 (by decide) rfl rfl hnm (tyX11_ok _ (by decide)) (by first | rfl | decide) rfl (Nat.le_of_ble_eq_true rfl) kX11_16 dX11_init_25 (c1 := .inr (10, [.ref (ob E (327 + 1)), .ref (ob E (327 + 2)), .ref (ob E (327 + 3)), .null, .null, .null, .null, .null, .int 0, .int 0, .int 0, .null, .int 0, .int 0, .int 0, .int 0, .int 0, .int 0, .int 0, .int 0, .int 0, .int 0, .long 0, .long 0, .int 0, .null, .long 0, .long 0, .null, .int 0])) rfl ?_
  refine zp_aload_n C 0 dX11_init_28 rfl rfl ?_
  refine zp_bipush (v := 64) C dX11_init_29 (by decide) ?_
  refine zq_newa (atype := .int) (ti := 1) (N' := 64) (x := (64, .inl (fun _ => 0))) C rfl (zT_mem 209 (by decide +kernel) (by decide)) (fun _ => rfl) (by decide) (by decide) (by decide) (Nat.le_of_ble_eq_true rfl) (Nat.le_of_ble_eq_true rfl) dX11_init_31 ⟨by decide, by decide⟩ (zc0_12 (by decide +kernel) (by decide +kernel)) ?_
  refine zq_putF (ci := 10) (j := 3) (ty := tyX11 3) (fs := [.ref (ob E (327 + 1)), .ref (ob E (327 + 2)), .ref (ob E (327 + 3)), .null, .null, .null, .null, .null, .int 0, .int 0, .int 0, .null, .int 0, .int 0, .int 0, .int 0, .int 0, .int 0, .int 0, .int 0, .int 0, .int 0, .long 0, .long 0, .int 0, .null, .long 0, .long 0, .null, .int 0]) C (by decide) rfl rfl iX11 tyX11_ok nmX11 (by decide) rfl rfl hnm (tyX11_ok _ (by decide)) (by first | rfl | decide) rfl (Nat.le_of_ble_eq_true rfl) kX11_19 dX11_init_33 (c1 := .inr (10, [.ref (ob E (327 + 1)), .ref (ob E (327 + 2)), .ref (ob E (327 + 3)), .ref (ob E (327 + 4)), .null, .null, .null, .null, .int 0, .int 0, .int 0, .null, .int 0, .int 0, .int 0, .int 0, .int 0, .int 0, .int 0, .int 0, .int 0, .int 0, .long 0, .long 0, .int 0, .null, .long 0, .long 0, .null, .int 0])) rfl ?_
  refine zp_aload_n C 0 dX11_init_36 rfl rfl ?_
  refine zp_sipush (v := 131) C dX11_init_37 (by decide) ?_
  refine zq_newa (atype := .int) (ti := 1) (N' := 131) (x := (131, .inl (fun _ => 0))) C rfl (zT_mem 209 (by decide +kernel) (by decide)) (fun _ => rfl) (by decide) (by decide) (by decide) (Nat.le_of_ble_eq_true rfl) (Nat.le_of_ble_eq_true rfl) dX11_init_40 ⟨by decide, by decide⟩ (zc0_12 (by decide +kernel) (by decide +kernel)) ?_
  refine zq_putF (ci := 10) (j := 4) (ty := tyX11 4) (fs := [.ref (ob E (327 + 1)), .ref (ob E (327 + 2)), .ref (ob E (327 + 3)), .ref (ob E (327 + 4)), .null, .null, .null, .null, .int 0, .int 0, .int 0, .null, .int 0, .int 0, .int 0, .int 0, .int 0, .int 0, .int 0, .int 0, .int 0, .int 0, .long 0, .long 0, .int 0, .null, .long 0, .long 0, .null, .int 0]) C (by decide) rfl rfl iX11 tyX11_ok nmX11 (by decide) rfl rfl hnm (tyX11_ok _ (by decide)) (by first | rfl | decide) rfl (Nat.le_of_ble_eq_true rfl) kX11_22 dX11_init_42 (c1 := .inr (10, [.ref (ob E (327 + 1)), .ref (ob E (327 + 2)), .ref (ob E (327 + 3)), .ref (ob E (327 + 4)), .ref (ob E (327 + 5)), .null, .null, .null, .int 0, .int 0, .int 0, .null, .int 0, .int 0, .int 0, .int 0, .int 0, .int 0, .int 0, .int 0, .int 0, .int 0, .long 0, .long 0, .int 0, .null, .long 0, .long 0, .null, .int 0])) rfl ?_
  refine zp_aload_n C 0 dX11_init_45 rfl rfl ?_
  refine zp_sipush (v := 131) C dX11_init_46 (by decide) ?_
  refine zq_newa (atype := .int) (ti := 1) (N' := 131) (x := (131, .inl (fun _ => 0))) C rfl (zT_mem 209 (by decide +kernel) (by decide)) (fun _ => rfl) (by decide) (by decide) (by decide) (Nat.le_of_ble_eq_true rfl) (Nat.le_of_ble_eq_true rfl) dX11_init_49 ⟨by decide, by decide⟩ (zc0_12 (by decide +kernel) (by decide +kernel)) ?_
  refine zq_putF (ci := 10) (j := 5) (ty := tyX11 5) (fs := [.ref (ob E (327 + 1)), .ref (ob E (327 + 2)), .ref (ob E (327 + 3)), .ref (ob E (327 + 4)), .ref (ob E (327 + 5)), .null, .null, .null, .int 0, .int 0, .int 0, .null, .int 0, .int 0, .int 0, .int 0, .int 0, .int 0, .int 0, .int 0, .int 0, .int 0, .long 0, .long 0, .int 0, .null, .long 0, .long 0, .null, .int 0]) C (by decide) rfl rfl iX11 tyX11_ok nmX11 (by decide) rfl rfl hnm (tyX11_ok _ (by decide)) (by first | rfl | decide) rfl (Nat.le_of_ble_eq_true rfl) kX11_25 dX11_init_51 (c1 := .inr (10, [.ref (ob E (327 + 1)), .ref (ob E (327 + 2)), .ref (ob E (327 + 3)), .ref (ob E (327 + 4)), .ref (ob E (327 + 5)), .ref (ob E (327 + 6)), .null, .null, .int 0, .int 0, .int 0, .null, .int 0, .int 0, .int 0, .int 0, .int 0, .int 0, .int 0, .int 0, .int 0, .int 0, .long 0, .long 0, .int 0, .null, .long 0, .long 0, .null, .int 0])) rfl ?_
  refine zp_aload_n C 0 dX11_init_54 rfl rfl ?_
  refine zp_sipush (v := 131) C dX11_init_55 (by decide) ?_
  refine zq_newa (atype := .int) (ti := 1) (N' := 131) (x := (131, .inl (fun _ => 0))) C rfl (zT_mem 209 (by decide +kernel) (by decide)) (fun _ => rfl) (by decide) (by decide) (by decide) (Nat.le_of_ble_eq_true rfl) (Nat.le_of_ble_eq_true rfl) dX11_init_58 ⟨by decide, by decide⟩ (zc0_12 (by decide +kernel) (by decide +kernel)) ?_
  refine zq_putF (ci := 10) (j := 6) (ty := tyX11 6) (fs := [.ref (ob E (327 + 1)), .ref (ob E (327 + 2)), .ref (ob E (327 + 3)), .ref (ob E (327 + 4)), .ref (ob E (327 + 5)), .ref (ob E (327 + 6)), .null, .null, .int 0, .int 0, .int 0, .null, .int 0, .int 0, .int 0, .int 0, .int 0, .int 0, .int 0, .int 0, .int 0, .int 0, .long 0, .long 0, .int 0, .null, .long 0, .long 0, .null, .int 0]) C (by decide) rfl rfl iX11 tyX11_ok nmX11 (by decide) rfl rfl hnm (tyX11_ok _ (by decide)) (by first | rfl | decide) rfl (Nat.le_of_ble_eq_true rfl) kX11_28 dX11_init_60 (c1 := .inr (10, [.ref (ob E (327 + 1)), .ref (ob E (327 + 2)), .ref (ob E (327 + 3)), .ref (ob E (327 + 4)), .ref (ob E (327 + 5)), .ref (ob E (327 + 6)), .ref (ob E (327 + 7)), .null, .int 0, .int 0, .int 0, .null, .int 0, .int 0, .int 0, .int 0, .int 0, .int 0, .int 0, .int 0, .int 0, .int 0, .long 0, .long 0, .int 0, .null, .long 0, .long 0, .null, .int 0])) rfl ?_
  refine zp_aload_n C 0 dX11_init_63 rfl rfl ?_
  refine zp_sipush (v := 1572) C dX11_init_64 (by decide) ?_
  refine zq_newa (atype := .int) (ti := 1) (N' := 1572) (x := (1572, .inl (fun _ => 0))) C rfl (zT_mem 209 (by decide +kernel) (by decide)) (fun _ => rfl) (by decide) (by decide) (by decide) (Nat.le_of_ble_eq_true rfl) (Nat.le_of_ble_eq_true rfl) dX11_init_67 ⟨by decide, by decide⟩ (zc0_12 (by decide +kernel) (by decide +kernel)) ?_
  refine zq_putF (ci := 10) (j := 7) (ty := tyX11 7) (fs := [.ref (ob E (327 + 1)), .ref (ob E (327 + 2)), .ref (ob E (327 + 3)), .ref (ob E (327 + 4)), .ref (ob E (327 + 5)), .ref (ob E (327 + 6)), .ref (ob E (327 + 7)), .null, .int 0, .int 0, .int 0, .null, .int 0, .int 0, .int 0, .int 0, .int 0, .int 0, .int 0, .int 0, .int 0, .int 0, .long 0, .long 0, .int 0, .null, .long 0, .long 0, .null, .int 0]) C (by decide) rfl rfl iX11 tyX11_ok nmX11 (by decide) rfl rfl hnm (tyX11_ok _ (by decide)) (by first | rfl | decide) rfl (Nat.le_of_ble_eq_true rfl) kX11_31 dX11_init_69 (c1 := .inr (10, [.ref (ob E (327 + 1)), .ref (ob E (327 + 2)), .ref (ob E (327 + 3)), .ref (ob E (327 + 4)), .ref (ob E (327 + 5)), .ref (ob E (327 + 6)), .ref (ob E (327 + 7)), .ref (ob E (327 + 8)), .int 0, .int 0, .int 0, .null, .int 0, .int 0, .int 0, .int 0, .int 0, .int 0, .int 0, .int 0, .int 0, .int 0, .long 0, .long 0, .int 0, .null, .long 0, .long 0, .null, .int 0])) rfl ?_
  refine zp_aload_n C 0 dX11_init_72 rfl rfl ?_
  refine zp_sipush (v := 900) C dX11_init_73 (by decide) ?_
  refine zq_newa (atype := .int) (ti := 1) (N' := 900) (x := (900, .inl (fun _ => 0))) C rfl (zT_mem 209 (by decide +kernel) (by decide)) (fun _ => rfl) (by decide) (by decide) (by decide) (Nat.le_of_ble_eq_true rfl) (Nat.le_of_ble_eq_true rfl) dX11_init_76 ⟨by decide, by decide⟩ (zc0_12 (by decide +kernel) (by decide +kernel)) ?_
  refine zq_putF (ci := 10) (j := 11) (ty := tyX11 11) (fs := [.ref (ob E (327 + 1)), .ref (ob E (327 + 2)), .ref (ob E (327 + 3)), .ref (ob E (327 + 4)), .ref (ob E (327 + 5)), .ref (ob E (327 + 6)), .ref (ob E (327 + 7)), .ref (ob E (327 + 8)), .int 0, .int 0, .int 0, .null, .int 0, .int 0, .int 0, .int 0, .int 0, .int 0, .int 0, .int 0, .int 0, .int 0, .long 0, .long 0, .int 0, .null, .long 0, .long 0, .null, .int 0]) C (by decide) rfl rfl iX11 tyX11_ok nmX11 (by decide) rfl rfl hnm (tyX11_ok _ (by decide)) (by first | rfl | decide) rfl (Nat.le_of_ble_eq_true rfl) kX11_34 dX11_init_78 (c1 := .inr (10, [.ref (ob E (327 + 1)), .ref (ob E (327 + 2)), .ref (ob E (327 + 3)), .ref (ob E (327 + 4)), .ref (ob E (327 + 5)), .ref (ob E (327 + 6)), .ref (ob E (327 + 7)), .ref (ob E (327 + 8)), .int 0, .int 0, .int 0, .ref (ob E (327 + 9)), .int 0, .int 0, .int 0, .int 0, .int 0, .int 0, .int 0, .int 0, .int 0, .int 0, .long 0, .long 0, .int 0, .null, .long 0, .long 0, .null, .int 0])) rfl ?_
  refine zp_aload_n C 0 dX11_init_81 rfl rfl ?_
  refine zp_iconst (v := (-1)) C dX11_init_82 (by decide) ?_
  refine zq_put (ci := 10) (j := 14) (ty := tyX11 14) (fs := [.ref (ob E (327 + 1)), .ref (ob E (327 + 2)), .ref (ob E (327 + 3)), .ref (ob E (327 + 4)), .ref (ob E (327 + 5)), .ref (ob E (327 + 6)), .ref (ob E (327 + 7)), .ref (ob E (327 + 8)), .int 0, .int 0, .int 0, .ref (ob E (327 + 9)), .int 0, .int 0, .int 0, .int 0, .int 0, .int 0, .int 0, .int 0, .int 0, .int 0, .long 0, .long 0, .int 0, .null, .long 0, .long 0, .null, .int 0]) C (by decide) rfl rfl iX11 tyX11_ok nmX11 (by decide) rfl rfl (tyX11_ok _ (by decide)) (by first | rfl | decide) rfl (Nat.le_of_ble_eq_true rfl) kX11_37 dX11_init_83 (c1 := .inr (10, [.ref (ob E (327 + 1)), .ref (ob E (327 + 2)), .ref (ob E (327 + 3)), .ref (ob E (327 + 4)), .ref (ob E (327 + 5)), .ref (ob E (327 + 6)), .ref (ob E (327 + 7)), .ref (ob E (327 + 8)), .int 0, .int 0, .int 0, .ref (ob E (327 + 9)), .int 0, .int 0, .int (-1), .int 0, .int 0, .int 0, .int 0, .int 0, .int 0, .int 0, .long 0, .long 0, .int 0, .null, .long 0, .long 0, .null, .int 0])) rfl ?_
  refine zp_aload_n C 0 dX11_init_86 rfl rfl ?_
  refine zp_iconst (v := 4) C dX11_init_87 (by decide) ?_
  refine zq_newa (atype := .int) (ti := 1) (N' := 4) (x := (4, .inl (fun _ => 0))) C rfl (zT_mem 209 (by decide +kernel) (by decide)) (fun _ => rfl) (by decide) (by decide) (by decide) (Nat.le_of_ble_eq_true rfl) (Nat.le_of_ble_eq_true rfl) dX11_init_88 ⟨by decide, by decide⟩ (zc0_12 (by decide +kernel) (by decide +kernel)) ?_
  refine zq_putF (ci := 10) (j := 25) (ty := tyX11 25) (fs := [.ref (ob E (327 + 1)), .ref (ob E (327 + 2)), .ref (ob E (327 + 3)), .ref (ob E (327 + 4)), .ref (ob E (327 + 5)), .ref (ob E (327 + 6)), .ref (ob E (327 + 7)), .ref (ob E (327 + 8)), .int 0, .int 0, .int 0, .ref (ob E (327 + 9)), .int 0, .int 0, .int (-1), .int 0, .int 0, .int 0, .int 0, .int 0, .int 0, .int 0, .long 0, .long 0, .int 0, .null, .long 0, .long 0, .null, .int 0]) C (by decide) rfl rfl iX11 tyX11_ok nmX11 (by decide) rfl rfl hnm (tyX11_ok _ (by decide)) (by first | rfl | decide) rfl (Nat.le_of_ble_eq_true rfl) kX11_41 dX11_init_90 (c1 := .inr (10, [.ref (ob E (327 + 1)), .ref (ob E (327 + 2)), .ref (ob E (327 + 3)), .ref (ob E (327 + 4)), .ref (ob E (327 + 5)), .ref (ob E (327 + 6)), .ref (ob E (327 + 7)), .ref (ob E (327 + 8)), .int 0, .int 0, .int 0, .ref (ob E (327 + 9)), .int 0, .int 0, .int (-1), .int 0, .int 0, .int 0, .int 0, .int 0, .int 0, .int 0, .long 0, .long 0, .int 0, .ref (ob E (327 + 10)), .long 0, .long 0, .null, .int 0])) rfl ?_
  refine zp_aload_n C 0 dX11_init_93 rfl rfl ?_
  refine zp_sipush (v := 1200) C dX11_init_94 (by decide) ?_
  refine zq_newa (atype := .int) (ti := 1) (N' := 1200) (x := (1200, .inl (fun _ => 0))) C rfl (zT_mem 209 (by decide +kernel) (by decide)) (fun _ => rfl) (by decide) (by decide) (by decide) (Nat.le_of_ble_eq_true rfl) (Nat.le_of_ble_eq_true rfl) dX11_init_97 ⟨by decide, by decide⟩ (zc0_12 (by decide +kernel) (by decide +kernel)) ?_
  refine zq_putF (ci := 10) (j := 28) (ty := tyX11 28) (fs := [.ref (ob E (327 + 1)), .ref (ob E (327 + 2)), .ref (ob E (327 + 3)), .ref (ob E (327 + 4)), .ref (ob E (327 + 5)), .ref (ob E (327 + 6)), .ref (ob E (327 + 7)), .ref (ob E (327 + 8)), .int 0, .int 0, .int 0, .ref (ob E (327 + 9)), .int 0, .int 0, .int (-1), .int 0, .int 0, .int 0, .int 0, .int 0, .int 0, .int 0, .long 0, .long 0, .int 0, .ref (ob E (327 + 10)), .long 0, .long 0, .null, .int 0]) C (by decide) rfl rfl iX11 tyX11_ok nmX11 (by decide) rfl rfl hnm (tyX11_ok _ (by decide)) (by first | rfl | decide) rfl (Nat.le_of_ble_eq_true rfl) kX11_44 dX11_init_99 (c1 := .inr (10, [.ref (ob E (327 + 1)), .ref (ob E (327 + 2)), .ref (ob E (327 + 3)), .ref (ob E (327 + 4)), .ref (ob E (327 + 5)), .ref (ob E (327 + 6)), .ref (ob E (327 + 7)), .ref (ob E (327 + 8)), .int 0, .int 0, .int 0, .ref (ob E (327 + 9)), .int 0, .int 0, .int (-1), .int 0, .int 0, .int 0, .int 0, .int 0, .int 0, .int 0, .long 0, .long 0, .int 0, .ref (ob E (327 + 10)), .long 0, .long 0, .ref (ob E (327 + 11)), .int 0])) rfl ?_
  refine zp_aload_n C 0 dX11_init_102 rfl rfl ?_
  refine zp_cong (cw' := fun j => zc E zG0 (327 + j)) (fun j _ => by
    unfold cN
    by_cases q : j = 0
    · subst q
      rw [if_pos rfl]
      exact (zc0_10 (k := 327) (by decide +kernel)).symm
    · rw [if_neg q, if_neg q]) ?_
  refine zp_cV C (k_X11_clear E) (by omega) (zc0_10 (k := 327) (by decide +kernel)) mX11_clear kX11_47 (ci := 10) rfl rfl ⟨rfl, rfl⟩ (show zfit (zrc 1 0 0 30) 2 (zrc 3 11 4249 80) = true from rfl) (Nat.le_of_ble_eq_true rfl) dX11_init_103 ⟨(Nat.le_of_ble_eq_true rfl), (Nat.le_of_ble_eq_true rfl)⟩ ?_
  exact zp_ret C hr dX11_init_106 (fun j _ => rfl)
