/-! the law's own walk: the script, calls of its own methods, what ties both pictures -/
def zML (y : MethodName) (cc : ByteArray) (nL : Nat) (hh : List (Nat × Nat × Nat × Nat)) (n : Nat) : Prop := Cond.codeWith y cc nL (some .int) hh ∈ zT ∧ Cond.initialized y.cls ∈ zT ∧ Cond.static y ∈ zT ∧ (y.cls ≠ "java/lang/invoke/MethodHandle" ∧ y.cls ≠ "java/lang/invoke/VarHandle" ∧ (parseMethodDescriptor y.desc).map (fun d => d.parameters.length) = some n)
section
variable {p : Program} {l : Launch} {e : Env} {R : Room} {s : State} {m : MethodId} {args : Array Value} {below : List Frame} {meth : Method} {c : Code} {cc : ByteArray} {own : String} {nL : Nat} {E : zE} {Q : State → Prop} {ce sl : Nat} {σ : zS} {pc : Nat} {lv : List (Nat × Value)} {st : List Value}
variable {y : MethodName} {cy : ByteArray} {nY : Nat} {rm : Room} {As : List Value}
theorem zv_sld (C : zX p l s m args meth c cc own nL E) {b L : Nat} {xs : Nat → Int32} (hX : va_X b L xs s s.heap) (hbl : b < s.heap.size) (hbA : ¬ zA E b) (hL : L ≤ 3072) {i v : Int32} {j : Nat} (hi : i = nI j) (hj : j < L) (hv : xs j = v) (hdg : decode cc pc = .ok (.iaload, 1)) (kk : zV p l e R s m args below meth c nL E Q ce sl σ (pc + 1) lv (.int v :: st)) : zV p l e R s m args below meth c nL E Q ce sl σ pc lv (.int i :: .ref b :: st) := fun H locs ls hP hS hl => by
  subst hi hv
  refine va_sld C.exec C.code hX hbl hbA hS (vp_in_nI hj (by omega)) hdg ?_
  rw [nI_clamp (by omega)]
  exact kk H locs ls hP hS hl
theorem zv_slen (C : zX p l s m args meth c cc own nL E) {b L : Nat} {xs : Nat → Int32} (hX : va_X b L xs s s.heap) (hbl : b < s.heap.size) (hbA : ¬ zA E b) (hdg : decode cc pc = .ok (.arraylength, 1)) (kk : zV p l e R s m args below meth c nL E Q ce sl σ (pc + 1) lv (.int (zI (L : Int)) :: st)) : zV p l e R s m args below meth c nL E Q ce sl σ pc lv (.ref b :: st) := fun H locs ls hP hS hl => by
  refine va_slen C.exec C.code hX hbl hbA hS hdg ?_
  have h := kk H locs ls hP hS hl
  rw [zI_ix (z := (L : Int)) (j := L) rfl] at h
  exact h
theorem zv_cH (C : zX p l s m args meth c cc own nL E) {hh : List (Nat × Nat × Nat × Nat)} {mc ms : Nat} {post : Int32 → zS → Prop} {n ix : Nat} (hM : zRh l E y cy nY hh rm mc ms As σ post) (hm : zML y cy nY hh n) (hlink : Cond.methodLink own ix y ∈ zT) (hn : As.length = n) (hrm : rm.cells = mc ∧ rm.slots = ms) (hR : zfit rm nY R = true) (hcat : (st.map fun v => v.category).sum ≤ 8) (hdg : decode cc pc = .ok (.invokestatic ix, 3)) (hf : ce + mc ≤ R.cells ∧ sl + ms ≤ R.slots) (kk : ∀ (r : Int32) (τ : zS), post r τ → zV p l e R s m args below meth c nL E Q (ce + mc) (sl + ms) τ (pc + 3) lv (.int r :: st)) : zV p l e R s m args below meth c nL E Q ce sl σ pc lv (As.reverse ++ st) := fun H locs ls hP hS hl => by
  obtain ⟨m1, m2, m3, m4⟩ := hm
  have hrun := vx_runSX (meth := meth) (cells := ce) (slots := sl) (index := ix) (bytes := cy) (maxL := nY) (ret := some .int) (n := n) (rest := st) (g := F0 m pc ls (As.reverse ++ st)) (R := R) (p := p) (e := e) (locs := locs) (H := H) (below := below) (hh := hh) ⟨C.exec, C.code, C.maxL, C.cls, C.words⟩ hM (vx_cwSW n C.words (zgood fun w hw => ?_) rfl hrm.1 hrm.2 m4 (zfit_of hR).1) ⟨zPc_blind _ E σ, fun U hU hW => ⟨rfl, zwd_of C hP hS hU hW⟩⟩ rfl hn hl.1 rfl (lv_room hcat) hdg hf
  · have hva : va_Run p l e R s m args below meth c H locs ce sl mc ms (F0 m pc ls (As.reverse ++ st)) st (va_Qi post (zWp E) (zA E) As.toArray) (zA E) := fun T hT X => by
      rcases hrun T hT X with h | ⟨q, st₀, t, T', L, Ex, cell, -, -, -, -, -, hx, -⟩
      · exact h
      · exact hx.elim
    exact va_calli hva hS (fun _ _ h => h) (fun _ h => h) (fun r u t H1 locs1 ht _ hp hB _ _ hS1 => kk r u hp H1 locs1 ls (by rw [← ht]; exact hB) hS1 hl)
  · rcases List.mem_append.mp hw with h | h
    · simp only [List.mem_cons, List.not_mem_nil, or_false] at h
      rcases h with rfl | rfl | rfl
      · exact hlink
      · exact m3
      · exact m2
    · rcases List.mem_cons.mp h with q | q
      · rw [q]; exact m1
      · exact q
end
def zRel (σ : zS) (D : zDv) : Prop := zCP σ D ∧ zMP σ D
theorem zMP_fr {σ τ : zS} {D : zDv} (h : zMP σ D) (e : zFr 0 327 σ τ) : zMP τ D := by
  have eg : ∀ x, 327 ≤ x → gI τ x = gI σ x := fun x q => funext fun j => e.1 x j (Or.inr q)
  unfold zMP zMi zMh zMk zMo at h ⊢
  rw [eg 327 (by decide), eg 336 (by decide), eg 328 (by decide), eg 330 (by decide), eg 332 (by decide), eg 334 (by decide), eg 335 (by decide), eg 338 (by decide)]
  exact h
theorem zCP_fr {σ τ : zS} {D : zDv} (h : zCP σ D) (e : zFr 327 339 σ τ) : zCP τ D := zCP_w h (fun x y hx => ⟨e.1 x y (Or.inl (by omega)), e.2.1 x y (Or.inl (by omega))⟩)
theorem zRel_J {σ : zS} {D : zDv} (h : zRel σ D) (v : Int64) : zRel (sJ σ 339 0 v) D := ⟨zCP_w h.1 (fun x y hx => ⟨rfl, by rw [gJ_sJ, if_neg (by omega)]⟩), h.2⟩
theorem zRel_D {σ : zS} {D : zDv} (h : zRel σ D) (v : UInt64) : zRel (sD σ 340 0 v) D := ⟨zCP_w h.1 (fun x y hx => ⟨rfl, rfl⟩), h.2⟩
/-- a question answered by the class -/
theorem zRel_c {σ τ : zS} {D : zDv} (h : zRel σ D) (e : zFr 318 327 σ τ) : zRel τ D := ⟨zCP_f h.1 e, zMP_fr h.2 (zFr_mono e (by decide) (by decide))⟩
/-- .. by the reference -/
theorem zRel_m {σ τ : zS} {D : zDv} {k : Nat} (h : zRel σ D) (e : mK σ τ k) : zRel τ D := ⟨zCP_fr h.1 (mS_fr e.1), zMP_q h.2 e.1⟩
theorem zRel_N {U : zSU} {g : Nat → Int32} (h : zNm g U) : zNq U := zUq_N (fun j hj => by
  obtain ⟨tx, b, m, h1, h2, h3, -⟩ := h j hj
  exact ⟨tx, b, m, h1, h2, h3⟩)
theorem mL_count : zML yL_count cL_count 4 [(0, 9, 12, 13)] 3 := ⟨zT_mem 676 (by decide +kernel) (by decide), zT_mem 98 (by decide +kernel) (by decide), zT_mem 675 (by decide +kernel) (by decide), by decide, by decide, by decide +kernel⟩
theorem mL_body : zML yL_body cL_body 5 [(0, 10, 13, 19), (0, 10, 17, 13)] 4 := ⟨zT_mem 763 (by decide +kernel) (by decide), zT_mem 98 (by decide +kernel) (by decide), zT_mem 762 (by decide +kernel) (by decide), by decide, by decide, by decide +kernel⟩
theorem mL_part : zML yL_part cL_part 6 [(0, 12, 15, 19), (0, 12, 19, 25), (0, 12, 23, 13)] 5 := ⟨zT_mem 795 (by decide +kernel) (by decide), zT_mem 98 (by decide +kernel) (by decide), zT_mem 794 (by decide +kernel) (by decide), by decide, by decide, by decide +kernel⟩
theorem mL_stock : zML yL_stock cL_stock 4 [(0, 9, 12, 25)] 3 := ⟨zT_mem 820 (by decide +kernel) (by decide), zT_mem 98 (by decide +kernel) (by decide), zT_mem 819 (by decide +kernel) (by decide), by decide, by decide, by decide +kernel⟩
theorem mL_numerator : zML yL_numerator cL_numerator 4 [(0, 8, 11, 19)] 3 := ⟨zT_mem 828 (by decide +kernel) (by decide), zT_mem 98 (by decide +kernel) (by decide), zT_mem 827 (by decide +kernel) (by decide), by decide, by decide, by decide +kernel⟩
theorem mL_denominator : zML yL_denominator cL_denominator 4 [(0, 8, 11, 19)] 3 := ⟨zT_mem 866 (by decide +kernel) (by decide), zT_mem 98 (by decide +kernel) (by decide), zT_mem 865 (by decide +kernel) (by decide), by decide, by decide, by decide +kernel⟩
theorem mL_daysOf : zML yL_daysOf cL_daysOf 4 [(0, 9, 12, 13)] 3 := ⟨zT_mem 873 (by decide +kernel) (by decide), zT_mem 98 (by decide +kernel) (by decide), zT_mem 872 (by decide +kernel) (by decide), by decide, by decide, by decide +kernel⟩
theorem mL_endOf : zML yL_endOf cL_endOf 4 [(0, 9, 12, 13)] 3 := ⟨zT_mem 891 (by decide +kernel) (by decide), zT_mem 98 (by decide +kernel) (by decide), zT_mem 890 (by decide +kernel) (by decide), by decide, by decide, by decide +kernel⟩
theorem mL_yearOf : zML yL_yearOf cL_yearOf 4 [(0, 9, 12, 13)] 3 := ⟨zT_mem 898 (by decide +kernel) (by decide), zT_mem 98 (by decide +kernel) (by decide), zT_mem 897 (by decide +kernel) (by decide), by decide, by decide, by decide +kernel⟩
theorem mL_errorBy : zML yL_errorBy cL_errorBy 5 [(0, 9, 12, 19), (0, 9, 16, 13)] 4 := ⟨zT_mem 911 (by decide +kernel) (by decide), zT_mem 98 (by decide +kernel) (by decide), zT_mem 910 (by decide +kernel) (by decide), by decide, by decide, by decide +kernel⟩
theorem mL_error : zML yL_error cL_error 5 [(0, 9, 12, 19), (0, 9, 16, 13)] 4 := ⟨zT_mem 935 (by decide +kernel) (by decide), zT_mem 98 (by decide +kernel) (by decide), zT_mem 934 (by decide +kernel) (by decide), by decide, by decide, by decide +kernel⟩
theorem mL_angle : zML yL_angle cL_angle 5 [(0, 10, 13, 19), (0, 10, 17, 13)] 4 := ⟨zT_mem 946 (by decide +kernel) (by decide), zT_mem 98 (by decide +kernel) (by decide), zT_mem 945 (by decide +kernel) (by decide), by decide, by decide, by decide +kernel⟩
theorem mL_trueAngle : zML yL_trueAngle cL_trueAngle 5 [(0, 10, 13, 19), (0, 10, 17, 13)] 4 := ⟨zT_mem 960 (by decide +kernel) (by decide), zT_mem 98 (by decide +kernel) (by decide), zT_mem 959 (by decide +kernel) (by decide), by decide, by decide, by decide +kernel⟩
theorem mL_worst : zML yL_worst cL_worst 4 [(0, 9, 12, 13)] 3 := ⟨zT_mem 971 (by decide +kernel) (by decide), zT_mem 98 (by decide +kernel) (by decide), zT_mem 970 (by decide +kernel) (by decide), by decide, by decide, by decide +kernel⟩
theorem mL_ranked : zML yL_ranked cL_ranked 5 [(0, 10, 13, 13), (0, 10, 17, 25)] 4 := ⟨zT_mem 984 (by decide +kernel) (by decide), zT_mem 98 (by decide +kernel) (by decide), zT_mem 983 (by decide +kernel) (by decide), by decide, by decide, by decide +kernel⟩
theorem mL_firstBeyond : zML yL_firstBeyond cL_firstBeyond 5 [(0, 10, 13, 19), (0, 10, 17, 13)] 4 := ⟨zT_mem 996 (by decide +kernel) (by decide), zT_mem 98 (by decide +kernel) (by decide), zT_mem 995 (by decide +kernel) (by decide), by decide, by decide, by decide +kernel⟩
theorem mL_totalError : zML yL_totalError cL_totalError 4 [(0, 8, 11, 13)] 3 := ⟨zT_mem 1004 (by decide +kernel) (by decide), zT_mem 98 (by decide +kernel) (by decide), zT_mem 1003 (by decide +kernel) (by decide), by decide, by decide, by decide +kernel⟩
theorem mL_growth : zML yL_growth cL_growth 6 [(0, 11, 14, 19), (0, 11, 18, 13)] 5 := ⟨zT_mem 1011 (by decide +kernel) (by decide), zT_mem 98 (by decide +kernel) (by decide), zT_mem 1010 (by decide +kernel) (by decide), by decide, by decide, by decide +kernel⟩
theorem mL_bestPair : zML yL_bestPair cL_bestPair 5 [(0, 10, 13, 19), (0, 10, 17, 13)] 4 := ⟨zT_mem 1025 (by decide +kernel) (by decide), zT_mem 98 (by decide +kernel) (by decide), zT_mem 1024 (by decide +kernel) (by decide), by decide, by decide, by decide +kernel⟩
theorem mL_bestTrain : zML yL_bestTrain cL_bestTrain 5 [(0, 10, 13, 19), (0, 10, 17, 13)] 4 := ⟨zT_mem 1055 (by decide +kernel) (by decide), zT_mem 98 (by decide +kernel) (by decide), zT_mem 1054 (by decide +kernel) (by decide), by decide, by decide, by decide +kernel⟩
theorem mL_convergent : zML yL_convergent cL_convergent 6 [(0, 11, 14, 19), (0, 11, 18, 13)] 5 := ⟨zT_mem 1070 (by decide +kernel) (by decide), zT_mem 98 (by decide +kernel) (by decide), zT_mem 1069 (by decide +kernel) (by decide), by decide, by decide, by decide +kernel⟩
theorem mL_bestFraction : zML yL_bestFraction cL_bestFraction 6 [(0, 12, 15, 19), (0, 12, 19, 13)] 5 := ⟨zT_mem 1079 (by decide +kernel) (by decide), zT_mem 98 (by decide +kernel) (by decide), zT_mem 1078 (by decide +kernel) (by decide), by decide, by decide, by decide +kernel⟩
theorem mL_build : zML yL_build cL_build 4 [(0, 9, 12, 19), (0, 9, 15, 90)] 3 := ⟨zT_mem 1098 (by decide +kernel) (by decide), zT_mem 98 (by decide +kernel) (by decide), zT_mem 1097 (by decide +kernel) (by decide), by decide, by decide, by decide +kernel⟩
theorem mL_addPart : zML yL_addPart cL_addPart 7 [(0, 14, 17, 19), (0, 14, 21, 13), (0, 14, 25, 90)] 6 := ⟨zT_mem 1123 (by decide +kernel) (by decide), zT_mem 98 (by decide +kernel) (by decide), zT_mem 1122 (by decide +kernel) (by decide), by decide, by decide, by decide +kernel⟩
theorem mL_removePart : zML yL_removePart cL_removePart 4 [(0, 9, 12, 19), (0, 9, 15, 90)] 3 := ⟨zT_mem 1132 (by decide +kernel) (by decide), zT_mem 98 (by decide +kernel) (by decide), zT_mem 1131 (by decide +kernel) (by decide), by decide, by decide, by decide +kernel⟩
theorem mL_addStock : zML yL_addStock cL_addStock 4 [(0, 9, 12, 13), (0, 9, 15, 90)] 3 := ⟨zT_mem 1140 (by decide +kernel) (by decide), zT_mem 98 (by decide +kernel) (by decide), zT_mem 1139 (by decide +kernel) (by decide), by decide, by decide, by decide +kernel⟩
theorem mL_setSlack : zML yL_setSlack cL_setSlack 4 [(0, 9, 12, 13)] 3 := ⟨zT_mem 1150 (by decide +kernel) (by decide), zT_mem 98 (by decide +kernel) (by decide), zT_mem 1149 (by decide +kernel) (by decide), by decide, by decide, by decide +kernel⟩
theorem mL_crank : zML yL_crank cL_crank 4 [(0, 9, 12, 13)] 3 := ⟨zT_mem 1158 (by decide +kernel) (by decide), zT_mem 98 (by decide +kernel) (by decide), zT_mem 1157 (by decide +kernel) (by decide), by decide, by decide, by decide +kernel⟩
theorem mL_backlash : zML yL_backlash cL_backlash 4 [(0, 9, 12, 19)] 3 := ⟨zT_mem 1184 (by decide +kernel) (by decide), zT_mem 98 (by decide +kernel) (by decide), zT_mem 1183 (by decide +kernel) (by decide), by decide, by decide, by decide +kernel⟩
theorem mL_lag : zML yL_lag cL_lag 4 [(0, 9, 12, 19)] 3 := ⟨zT_mem 1191 (by decide +kernel) (by decide), zT_mem 98 (by decide +kernel) (by decide), zT_mem 1190 (by decide +kernel) (by decide), by decide, by decide, by decide +kernel⟩
theorem mL_shown : zML yL_shown cL_shown 4 [(0, 9, 12, 19)] 3 := ⟨zT_mem 1198 (by decide +kernel) (by decide), zT_mem 98 (by decide +kernel) (by decide), zT_mem 1197 (by decide +kernel) (by decide), by decide, by decide, by decide +kernel⟩
theorem mL_missing : zML yL_missing cL_missing 4 [(0, 9, 12, 19)] 3 := ⟨zT_mem 1210 (by decide +kernel) (by decide), zT_mem 98 (by decide +kernel) (by decide), zT_mem 1209 (by decide +kernel) (by decide), by decide, by decide, by decide +kernel⟩
theorem mL_nextMeeting : zML yL_nextMeeting cL_nextMeeting 7 [(0, 14, 17, 19), (0, 14, 21, 13)] 6 := ⟨zT_mem 1218 (by decide +kernel) (by decide), zT_mem 98 (by decide +kernel) (by decide), zT_mem 1217 (by decide +kernel) (by decide), by decide, by decide, by decide +kernel⟩
theorem mL_accuracy : zML yL_accuracy cL_accuracy 4 [(0, 8, 11, 19)] 3 := ⟨zT_mem 1234 (by decide +kernel) (by decide), zT_mem 98 (by decide +kernel) (by decide), zT_mem 1233 (by decide +kernel) (by decide), by decide, by decide, by decide +kernel⟩
theorem mL_improve : zML yL_improve cL_improve 4 [(0, 9, 12, 19)] 3 := ⟨zT_mem 1241 (by decide +kernel) (by decide), zT_mem 98 (by decide +kernel) (by decide), zT_mem 1240 (by decide +kernel) (by decide), by decide, by decide, by decide +kernel⟩
theorem mL_swapTrains : zML yL_swapTrains cL_swapTrains 5 [(0, 10, 13, 19), (0, 10, 17, 13)] 4 := ⟨zT_mem 1258 (by decide +kernel) (by decide), zT_mem 98 (by decide +kernel) (by decide), zT_mem 1257 (by decide +kernel) (by decide), by decide, by decide, by decide +kernel⟩
theorem mL_copyTrain : zML yL_copyTrain cL_copyTrain 5 [(0, 10, 13, 19), (0, 10, 17, 13)] 4 := ⟨zT_mem 1271 (by decide +kernel) (by decide), zT_mem 98 (by decide +kernel) (by decide), zT_mem 1270 (by decide +kernel) (by decide), by decide, by decide, by decide +kernel⟩
theorem mL_worstYear : zML yL_worstYear cL_worstYear 6 [(0, 12, 15, 19), (0, 12, 19, 13)] 5 := ⟨zT_mem 1278 (by decide +kernel) (by decide), zT_mem 98 (by decide +kernel) (by decide), zT_mem 1277 (by decide +kernel) (by decide), by decide, by decide, by decide +kernel⟩
theorem mL_revolutions : zML yL_revolutions cL_revolutions 5 [(0, 9, 12, 19), (0, 9, 16, 13)] 4 := ⟨zT_mem 1285 (by decide +kernel) (by decide), zT_mem 98 (by decide +kernel) (by decide), zT_mem 1284 (by decide +kernel) (by decide), by decide, by decide, by decide +kernel⟩
theorem mL_leapYears : zML yL_leapYears cL_leapYears 5 [(0, 10, 13, 13)] 4 := ⟨zT_mem 1293 (by decide +kernel) (by decide), zT_mem 98 (by decide +kernel) (by decide), zT_mem 1292 (by decide +kernel) (by decide), by decide, by decide, by decide +kernel⟩
theorem mL_meetingTime : zML yL_meetingTime cL_meetingTime 6 [(0, 11, 14, 19), (0, 11, 18, 13)] 5 := ⟨zT_mem 1301 (by decide +kernel) (by decide), zT_mem 98 (by decide +kernel) (by decide), zT_mem 1300 (by decide +kernel) (by decide), by decide, by decide, by decide +kernel⟩
theorem mL_aligned : zML yL_aligned cL_aligned 6 [(0, 12, 15, 19), (0, 12, 19, 13)] 5 := ⟨zT_mem 1308 (by decide +kernel) (by decide), zT_mem 98 (by decide +kernel) (by decide), zT_mem 1307 (by decide +kernel) (by decide), by decide, by decide, by decide +kernel⟩
theorem mL_goodShare : zML yL_goodShare cL_goodShare 5 [(0, 10, 13, 13)] 4 := ⟨zT_mem 1315 (by decide +kernel) (by decide), zT_mem 98 (by decide +kernel) (by decide), zT_mem 1314 (by decide +kernel) (by decide), by decide, by decide, by decide +kernel⟩
theorem mL_printErrors : zML yL_printErrors cL_printErrors 7 [(0, 14, 17, 19), (0, 14, 21, 13)] 6 := ⟨zT_mem 1322 (by decide +kernel) (by decide), zT_mem 98 (by decide +kernel) (by decide), zT_mem 1321 (by decide +kernel) (by decide), by decide, by decide, by decide +kernel⟩
theorem mL_report : zML yL_report cL_report 4 [(0, 9, 12, 13)] 3 := ⟨zT_mem 1341 (by decide +kernel) (by decide), zT_mem 98 (by decide +kernel) (by decide), zT_mem 1340 (by decide +kernel) (by decide), by decide, by decide, by decide +kernel⟩
theorem mL_printTrain : zML yL_printTrain cL_printTrain 4 [(0, 9, 12, 19)] 3 := ⟨zT_mem 1353 (by decide +kernel) (by decide), zT_mem 98 (by decide +kernel) (by decide), zT_mem 1352 (by decide +kernel) (by decide), by decide, by decide, by decide +kernel⟩
theorem mL_restoreState : zML yL_restoreState cL_restoreState 3 [(0, 8, 11, 90)] 2 := ⟨zT_mem 1364 (by decide +kernel) (by decide), zT_mem 98 (by decide +kernel) (by decide), zT_mem 1363 (by decide +kernel) (by decide), by decide, by decide, by decide +kernel⟩
