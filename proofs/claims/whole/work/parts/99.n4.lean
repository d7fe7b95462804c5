set_option maxRecDepth 20000 in
theorem w_c_X10_removePart {l : Launch} (hfl : l.stackTraces = false) (E : zE) (σ : zS) (ni : Nat) (tx : Nat → Int) (ec : Nat) (eo : Int) (U : zSU) (S : zST) (hh : List zST) (kp : Option zST) (ou : List Nat) (i : Nat) (h : zCP σ (zDv.mk ni tx ec eo U S hh kp ou)) (hi : i < U.nb) (ht0 : S.tn i ≠ 0) : zRh l E yL_removePart cL_removePart 4 [(0, 9, 12, 19), (0, 9, 15, 90)] (zrm 5 146) 0 0 [.ref (ob E 0), .int (zI (i : Int)), .ref (ob E 339)] σ (fun r τ => r = zI 0 ∧ ∃ (v : Int32) (υ : zS), (fun r τ => r = zI ((S.tn i : Int) - 1) ∧ zCP τ ((zDv.mk ni tx ec eo U S hh kp ou).re.sS ((S.pop i).fre i)) ∧ zFr 0 327 σ τ) v υ ∧ τ = sJ υ 339 0 v.toInt64) := by
  refine zMetH hfl (by decide) rfl (Nat.le_of_ble_eq_true rfl) ?_
  intro p e s m args below meth c C hr htab
  refine (?_ : zV p l e _ s m args below meth c 4 E _ 0 0 σ 0 [(0, .ref (ob E 0)), (1, .int (zI (i : Int))), (2, .ref (ob E 339))] [])
  refine zv_aload_n C 2 dL_removePart_0 rfl rfl ?_
  refine zv_iconst (v := zI 0) C dL_removePart_1 rfl ?_
  refine zv_aload_n C 0 dL_removePart_2 rfl rfl ?_
  refine zv_iload_n C 1 dL_removePart_3 rfl rfl ?_
  refine zv_cvi (st := [.int (zI 0), .ref (ob E 339)]) C (c_X10_removePart hfl E σ ni tx ec eo U S hh kp ou i h hi ht0) mX10_removePart kL_96 (by decide : kd 0 = 9) rfl rfl rfl ⟨rfl, rfl⟩ (show zfit (zrm 4 124) 3 (zrm 5 146) = true from rfl) (Nat.le_of_ble_eq_true rfl) dL_removePart_4 ⟨Nat.zero_le _, Nat.zero_le _⟩ (fun r4 τ4 hp4 => ?_)
  refine zv_i2l C dL_removePart_7 ?_
  refine zv_last (j := 0) C (by decide : kd 339 = _) (zI_ix (by omega)) (by decide) dL_removePart_8 ?_
  refine zv_goto (tgt := 18) C dL_removePart_9 (by decide) ?_
  refine zv_iconst (v := zI 0) C dL_removePart_18 rfl ?_
  exact zv_iret C hr rfl dL_removePart_19 ⟨rfl, r4, τ4, hp4, rfl⟩
set_option maxRecDepth 20000 in
theorem w_x1_X10_removePart {l : Launch} (hfl : l.stackTraces = false) (E : zE) (σ : zS) (U : zSU) (b : Int) (hU : zSUp σ 29 U) (hbi : -2147483648 ≤ b ∧ b < 2147483648) (hno : ¬ (0 ≤ b ∧ b < U.nb)) : zRh l E yL_removePart cL_removePart 4 [(0, 9, 12, 19), (0, 9, 15, 90)] (zrx 10 222) 1 6 [.ref (ob E 0), .int (zI b), .ref (ob E 339)] σ (fun r τ => r = zI 1 ∧ (fun u => u = σ) τ) := by
  refine zMetH hfl (by decide) rfl (Nat.le_of_ble_eq_true rfl) ?_
  intro p e s m args below meth c C hr htab
  refine (?_ : zV p l e _ s m args below meth c 4 E _ 0 0 σ 0 [(0, .ref (ob E 0)), (1, .int (zI b)), (2, .ref (ob E 339))] [])
  have hpass : ∀ z ∈ tableOf [], z.catchType ≠ 0 ∧ ∃ nm' : String, Cond.classLink RL z.catchType nm' ∈ zT ∧ ("java/lang/IndexOutOfBoundsException", nm') ∈ zNc := fun z hz => by
    cases hz
  refine zv_aload_n C 2 dL_removePart_0 rfl rfl ?_
  refine zv_iconst (v := zI 0) C dL_removePart_1 rfl ?_
  refine zv_aload_n C 0 dL_removePart_2 rfl rfl ?_
  refine zv_iload_n C 1 dL_removePart_3 rfl rfl ?_
  refine zv_xcatch (st := [.int (zI 0), .ref (ob E 339)]) C (x1_X10_removePart hfl E σ U b hU hbi hno) (pre := tableOf []) (suf := tableOf [(0, 9, 15, 90)]) (x := ⟨0, 9, 12, 19⟩) htab hpass (by decide) (by decide) zcl_19 zca_19 mX10_removePart kL_96 (by decide : kd 0 = 9) rfl rfl rfl ⟨rfl, rfl⟩ (show zfit (zrx 9 200) 3 (zrx 10 222) = true from rfl) (Nat.le_of_ble_eq_true rfl) dL_removePart_4 ⟨Nat.le_of_ble_eq_true rfl, Nat.le_of_ble_eq_true rfl⟩ (fun q9 τ9 hp9 => ?_)
  refine zv_astore_n (lv' := [(3, .ref q9), (0, .ref (ob E 0)), (1, .int (zI b)), (2, .ref (ob E 339))]) C dL_removePart_12 rfl (by decide) rfl ?_
  refine zv_iconst (v := zI 1) C dL_removePart_13 rfl ?_
  exact zv_iretN C hr rfl dL_removePart_14 ⟨rfl, hp9⟩
set_option maxRecDepth 20000 in
theorem w_x2_X10_removePart {l : Launch} (hfl : l.stackTraces = false) (E : zE) (σ : zS) (U : zSU) (S : zST) (i : Nat) (hU : zSUp σ 29 U) (hS : zSTp σ 34 S) (hi : i < U.nb) (ht0 : S.tn i = 0) : zRh l E yL_removePart cL_removePart 4 [(0, 9, 12, 19), (0, 9, 15, 90)] (zrx 10 222) 1 6 [.ref (ob E 0), .int (zI (i : Int)), .ref (ob E 339)] σ (fun r τ => r = zI 2 ∧ (fun u => u = σ) τ) := by
  refine zMetH hfl (by decide) rfl (Nat.le_of_ble_eq_true rfl) ?_
  intro p e s m args below meth c C hr htab
  refine (?_ : zV p l e _ s m args below meth c 4 E _ 0 0 σ 0 [(0, .ref (ob E 0)), (1, .int (zI (i : Int))), (2, .ref (ob E 339))] [])
  have hpass : ∀ z ∈ tableOf [(0, 9, 12, 19)], z.catchType ≠ 0 ∧ ∃ nm' : String, Cond.classLink RL z.catchType nm' ∈ zT ∧ ("java/lang/IllegalStateException", nm') ∈ zNc := fun z hz => by
    simp only [tableOf, List.map_cons, List.map_nil, List.mem_cons, List.not_mem_nil, or_false] at hz
    rcases hz with rfl
    · exact ⟨by decide, "java/lang/IndexOutOfBoundsException", zcl_19, by decide⟩
  refine zv_aload_n C 2 dL_removePart_0 rfl rfl ?_
  refine zv_iconst (v := zI 0) C dL_removePart_1 rfl ?_
  refine zv_aload_n C 0 dL_removePart_2 rfl rfl ?_
  refine zv_iload_n C 1 dL_removePart_3 rfl rfl ?_
  refine zv_xcatch (st := [.int (zI 0), .ref (ob E 339)]) C (x2_X10_removePart hfl E σ U S i hU hS hi ht0) (pre := tableOf [(0, 9, 12, 19)]) (suf := tableOf []) (x := ⟨0, 9, 15, 90⟩) htab hpass (by decide) (by decide) zcl_90 zca_90 mX10_removePart kL_96 (by decide : kd 0 = 9) rfl rfl rfl ⟨rfl, rfl⟩ (show zfit (zrx 9 200) 3 (zrx 10 222) = true from rfl) (Nat.le_of_ble_eq_true rfl) dL_removePart_4 ⟨Nat.le_of_ble_eq_true rfl, Nat.le_of_ble_eq_true rfl⟩ (fun q9 τ9 hp9 => ?_)
  refine zv_astore_n (lv' := [(3, .ref q9), (0, .ref (ob E 0)), (1, .int (zI (i : Int))), (2, .ref (ob E 339))]) C dL_removePart_15 rfl (by decide) rfl ?_
  refine zv_iconst (v := zI 2) C dL_removePart_16 rfl ?_
  exact zv_iretN C hr rfl dL_removePart_17 ⟨rfl, hp9⟩
set_option maxRecDepth 20000 in
theorem w_c_X10_addStock {l : Launch} (hfl : l.stackTraces = false) (E : zE) (σ : zS) (ni : Nat) (tx : Nat → Int) (ec : Nat) (eo : Int) (U : zSU) (S : zST) (hh : List zST) (kp : Option zST) (ou : List Nat) (t : Nat) (h : zCP σ (zDv.mk ni tx ec eo U S hh kp ou)) (ht : 8 ≤ t ∧ t ≤ 100) (hok : S.n < 16 ∧ sHas S.f (t : Int) S.n = false) : zRh l E yL_addStock cL_addStock 4 [(0, 9, 12, 13), (0, 9, 15, 90)] (zrm 5 145) 0 0 [.ref (ob E 0), .int (zI (t : Int)), .ref (ob E 339)] σ (fun r τ => r = zI 0 ∧ ∃ (v : Int32) (υ : zS), (fun r τ => r = zI ((S.n + 1 : Nat) : Int) ∧ zCP τ ((zDv.mk ni tx ec eo U S hh kp ou).re.sS (S.ins t)) ∧ zFr 0 327 σ τ) v υ ∧ τ = sJ υ 339 0 v.toInt64) := by
  refine zMetH hfl (by decide) rfl (Nat.le_of_ble_eq_true rfl) ?_
  intro p e s m args below meth c C hr htab
  refine (?_ : zV p l e _ s m args below meth c 4 E _ 0 0 σ 0 [(0, .ref (ob E 0)), (1, .int (zI (t : Int))), (2, .ref (ob E 339))] [])
  refine zv_aload_n C 2 dL_addStock_0 rfl rfl ?_
  refine zv_iconst (v := zI 0) C dL_addStock_1 rfl ?_
  refine zv_aload_n C 0 dL_addStock_2 rfl rfl ?_
  refine zv_iload_n C 1 dL_addStock_3 rfl rfl ?_
  refine zv_cvi (st := [.int (zI 0), .ref (ob E 339)]) C (c_X10_addStock hfl E σ ni tx ec eo U S hh kp ou t h ht hok) mX10_addStock kL_99 (by decide : kd 0 = 9) rfl rfl rfl ⟨rfl, rfl⟩ (show zfit (zrm 4 124) 2 (zrm 5 145) = true from rfl) (Nat.le_of_ble_eq_true rfl) dL_addStock_4 ⟨Nat.zero_le _, Nat.zero_le _⟩ (fun r4 τ4 hp4 => ?_)
  refine zv_i2l C dL_addStock_7 ?_
  refine zv_last (j := 0) C (by decide : kd 339 = _) (zI_ix (by omega)) (by decide) dL_addStock_8 ?_
  refine zv_goto (tgt := 18) C dL_addStock_9 (by decide) ?_
  refine zv_iconst (v := zI 0) C dL_addStock_18 rfl ?_
  exact zv_iret C hr rfl dL_addStock_19 ⟨rfl, r4, τ4, hp4, rfl⟩
set_option maxRecDepth 20000 in
theorem w_x1_X10_addStock {l : Launch} (hfl : l.stackTraces = false) (E : zE) (σ : zS) (y : Int) (hyi : -2147483648 ≤ y ∧ y < 2147483648) (hno : ¬ (8 ≤ y ∧ y ≤ 100)) : zRh l E yL_addStock cL_addStock 4 [(0, 9, 12, 13), (0, 9, 15, 90)] (zrx 10 221) 1 6 [.ref (ob E 0), .int (zI y), .ref (ob E 339)] σ (fun r τ => r = zI 1 ∧ (fun u => u = σ) τ) := by
  refine zMetH hfl (by decide) rfl (Nat.le_of_ble_eq_true rfl) ?_
  intro p e s m args below meth c C hr htab
  refine (?_ : zV p l e _ s m args below meth c 4 E _ 0 0 σ 0 [(0, .ref (ob E 0)), (1, .int (zI y)), (2, .ref (ob E 339))] [])
  have hpass : ∀ z ∈ tableOf [], z.catchType ≠ 0 ∧ ∃ nm' : String, Cond.classLink RL z.catchType nm' ∈ zT ∧ ("java/lang/IllegalArgumentException", nm') ∈ zNc := fun z hz => by
    cases hz
  refine zv_aload_n C 2 dL_addStock_0 rfl rfl ?_
  refine zv_iconst (v := zI 0) C dL_addStock_1 rfl ?_
  refine zv_aload_n C 0 dL_addStock_2 rfl rfl ?_
  refine zv_iload_n C 1 dL_addStock_3 rfl rfl ?_
  refine zv_xcatch (st := [.int (zI 0), .ref (ob E 339)]) C (x1_X10_addStock hfl E σ y hyi hno) (pre := tableOf []) (suf := tableOf [(0, 9, 15, 90)]) (x := ⟨0, 9, 12, 13⟩) htab hpass (by decide) (by decide) zcl_13 zca_13 mX10_addStock kL_99 (by decide : kd 0 = 9) rfl rfl rfl ⟨rfl, rfl⟩ (show zfit (zrx 9 200) 2 (zrx 10 221) = true from rfl) (Nat.le_of_ble_eq_true rfl) dL_addStock_4 ⟨Nat.le_of_ble_eq_true rfl, Nat.le_of_ble_eq_true rfl⟩ (fun q9 τ9 hp9 => ?_)
  refine zv_astore_n (lv' := [(3, .ref q9), (0, .ref (ob E 0)), (1, .int (zI y)), (2, .ref (ob E 339))]) C dL_addStock_12 rfl (by decide) rfl ?_
  refine zv_iconst (v := zI 1) C dL_addStock_13 rfl ?_
  exact zv_iretN C hr rfl dL_addStock_14 ⟨rfl, hp9⟩
set_option maxRecDepth 20000 in
theorem w_x2_X10_addStock {l : Launch} (hfl : l.stackTraces = false) (E : zE) (σ : zS) (S : zST) (t : Nat) (hS : zSTp σ 34 S) (ht : 8 ≤ t ∧ t ≤ 100) (hno : ¬ (S.n < 16 ∧ sHas S.f (t : Int) S.n = false)) : zRh l E yL_addStock cL_addStock 4 [(0, 9, 12, 13), (0, 9, 15, 90)] (zrx 10 221) 1 6 [.ref (ob E 0), .int (zI (t : Int)), .ref (ob E 339)] σ (fun r τ => r = zI 2 ∧ (fun u => u = σ) τ) := by
  refine zMetH hfl (by decide) rfl (Nat.le_of_ble_eq_true rfl) ?_
  intro p e s m args below meth c C hr htab
  refine (?_ : zV p l e _ s m args below meth c 4 E _ 0 0 σ 0 [(0, .ref (ob E 0)), (1, .int (zI (t : Int))), (2, .ref (ob E 339))] [])
  have hpass : ∀ z ∈ tableOf [(0, 9, 12, 13)], z.catchType ≠ 0 ∧ ∃ nm' : String, Cond.classLink RL z.catchType nm' ∈ zT ∧ ("java/lang/IllegalStateException", nm') ∈ zNc := fun z hz => by
    simp only [tableOf, List.map_cons, List.map_nil, List.mem_cons, List.not_mem_nil, or_false] at hz
    rcases hz with rfl
    · exact ⟨by decide, "java/lang/IllegalArgumentException", zcl_13, by decide⟩
  refine zv_aload_n C 2 dL_addStock_0 rfl rfl ?_
  refine zv_iconst (v := zI 0) C dL_addStock_1 rfl ?_
  refine zv_aload_n C 0 dL_addStock_2 rfl rfl ?_
  refine zv_iload_n C 1 dL_addStock_3 rfl rfl ?_
  refine zv_xcatch (st := [.int (zI 0), .ref (ob E 339)]) C (x2_X10_addStock hfl E σ S t hS ht hno) (pre := tableOf [(0, 9, 12, 13)]) (suf := tableOf []) (x := ⟨0, 9, 15, 90⟩) htab hpass (by decide) (by decide) zcl_90 zca_90 mX10_addStock kL_99 (by decide : kd 0 = 9) rfl rfl rfl ⟨rfl, rfl⟩ (show zfit (zrx 9 200) 2 (zrx 10 221) = true from rfl) (Nat.le_of_ble_eq_true rfl) dL_addStock_4 ⟨Nat.le_of_ble_eq_true rfl, Nat.le_of_ble_eq_true rfl⟩ (fun q9 τ9 hp9 => ?_)
  refine zv_astore_n (lv' := [(3, .ref q9), (0, .ref (ob E 0)), (1, .int (zI (t : Int))), (2, .ref (ob E 339))]) C dL_addStock_15 rfl (by decide) rfl ?_
  refine zv_iconst (v := zI 2) C dL_addStock_16 rfl ?_
  exact zv_iretN C hr rfl dL_addStock_17 ⟨rfl, hp9⟩
set_option maxRecDepth 20000 in
theorem w_c_X10_setSlack {l : Launch} (hfl : l.stackTraces = false) (E : zE) (σ : zS) (ni : Nat) (tx : Nat → Int) (ec : Nat) (eo : Int) (U : zSU) (S : zST) (hh : List zST) (kp : Option zST) (ou : List Nat) (t : Nat) (h : zCP σ (zDv.mk ni tx ec eo U S hh kp ou)) (ht : t ≤ 999) : zRh l E yL_setSlack cL_setSlack 4 [(0, 9, 12, 13)] (zrm 5 146) 0 0 [.ref (ob E 0), .int (zI (t : Int)), .ref (ob E 339)] σ (fun r τ => r = zI 0 ∧ ∃ (v : Int32) (υ : zS), (fun r τ => r = zI (S.sl : Int) ∧ zCP τ ((zDv.mk ni tx ec eo U S hh kp ou).re.sS (S.slk t)) ∧ zFr 0 327 σ τ) v υ ∧ τ = sJ υ 339 0 v.toInt64) := by
  refine zMetH hfl (by decide) rfl (Nat.le_of_ble_eq_true rfl) ?_
  intro p e s m args below meth c C hr htab
  refine (?_ : zV p l e _ s m args below meth c 4 E _ 0 0 σ 0 [(0, .ref (ob E 0)), (1, .int (zI (t : Int))), (2, .ref (ob E 339))] [])
  refine zv_aload_n C 2 dL_setSlack_0 rfl rfl ?_
  refine zv_iconst (v := zI 0) C dL_setSlack_1 rfl ?_
  refine zv_aload_n C 0 dL_setSlack_2 rfl rfl ?_
  refine zv_iload_n C 1 dL_setSlack_3 rfl rfl ?_
  refine zv_cvi (st := [.int (zI 0), .ref (ob E 339)]) C (c_X10_setSlack hfl E σ ni tx ec eo U S hh kp ou t h ht) mX10_setSlack kL_102 (by decide : kd 0 = 9) rfl rfl rfl ⟨rfl, rfl⟩ (show zfit (zrm 4 124) 3 (zrm 5 146) = true from rfl) (Nat.le_of_ble_eq_true rfl) dL_setSlack_4 ⟨Nat.zero_le _, Nat.zero_le _⟩ (fun r4 τ4 hp4 => ?_)
  refine zv_i2l C dL_setSlack_7 ?_
  refine zv_last (j := 0) C (by decide : kd 339 = _) (zI_ix (by omega)) (by decide) dL_setSlack_8 ?_
  refine zv_goto (tgt := 15) C dL_setSlack_9 (by decide) ?_
  refine zv_iconst (v := zI 0) C dL_setSlack_15 rfl ?_
  exact zv_iret C hr rfl dL_setSlack_16 ⟨rfl, r4, τ4, hp4, rfl⟩
set_option maxRecDepth 20000 in
theorem w_x1_X10_setSlack {l : Launch} (hfl : l.stackTraces = false) (E : zE) (σ : zS) (y : Int) (hyi : -2147483648 ≤ y ∧ y < 2147483648) (hno : ¬ (0 ≤ y ∧ y ≤ 999)) : zRh l E yL_setSlack cL_setSlack 4 [(0, 9, 12, 13)] (zrx 10 222) 1 6 [.ref (ob E 0), .int (zI y), .ref (ob E 339)] σ (fun r τ => r = zI 1 ∧ (fun u => u = σ) τ) := by
  refine zMetH hfl (by decide) rfl (Nat.le_of_ble_eq_true rfl) ?_
  intro p e s m args below meth c C hr htab
  refine (?_ : zV p l e _ s m args below meth c 4 E _ 0 0 σ 0 [(0, .ref (ob E 0)), (1, .int (zI y)), (2, .ref (ob E 339))] [])
  have hpass : ∀ z ∈ tableOf [], z.catchType ≠ 0 ∧ ∃ nm' : String, Cond.classLink RL z.catchType nm' ∈ zT ∧ ("java/lang/IllegalArgumentException", nm') ∈ zNc := fun z hz => by
    cases hz
  refine zv_aload_n C 2 dL_setSlack_0 rfl rfl ?_
  refine zv_iconst (v := zI 0) C dL_setSlack_1 rfl ?_
  refine zv_aload_n C 0 dL_setSlack_2 rfl rfl ?_
  refine zv_iload_n C 1 dL_setSlack_3 rfl rfl ?_
  refine zv_xcatch (st := [.int (zI 0), .ref (ob E 339)]) C (x1_X10_setSlack hfl E σ y hyi hno) (pre := tableOf []) (suf := tableOf []) (x := ⟨0, 9, 12, 13⟩) htab hpass (by decide) (by decide) zcl_13 zca_13 mX10_setSlack kL_102 (by decide : kd 0 = 9) rfl rfl rfl ⟨rfl, rfl⟩ (show zfit (zrx 9 200) 3 (zrx 10 222) = true from rfl) (Nat.le_of_ble_eq_true rfl) dL_setSlack_4 ⟨Nat.le_of_ble_eq_true rfl, Nat.le_of_ble_eq_true rfl⟩ (fun q9 τ9 hp9 => ?_)
  refine zv_astore_n (lv' := [(3, .ref q9), (0, .ref (ob E 0)), (1, .int (zI y)), (2, .ref (ob E 339))]) C dL_setSlack_12 rfl (by decide) rfl ?_
  refine zv_iconst (v := zI 1) C dL_setSlack_13 rfl ?_
  exact zv_iretN C hr rfl dL_setSlack_14 ⟨rfl, hp9⟩
set_option maxRecDepth 20000 in
theorem w_c_X10_crank {l : Launch} (hfl : l.stackTraces = false) (E : zE) (σ : zS) (ni : Nat) (tx : Nat → Int) (ec : Nat) (eo : Int) (U : zSU) (S : zST) (hh : List zST) (kp : Option zST) (ou : List Nat) (d : Nat) (h : zCP σ (zDv.mk ni tx ec eo U S hh kp ou)) (hd4 : d ≤ 400000) : zRh l E yL_crank cL_crank 4 [(0, 9, 12, 13)] (zrm 5 151) 0 0 [.ref (ob E 0), .int (zI (d : Int)), .ref (ob E 339)] σ (fun r τ => r = zI 0 ∧ ∃ (v : Int32) (υ : zS), (fun r τ => r = zI (S.dy : Int) ∧ zCP τ ((zDv.mk ni tx ec eo U S hh kp ou).re.sS (S.crk U d)) ∧ zFr 0 327 σ τ) v υ ∧ τ = sJ υ 339 0 v.toInt64) := by
  refine zMetH hfl (by decide) rfl (Nat.le_of_ble_eq_true rfl) ?_
  intro p e s m args below meth c C hr htab
  refine (?_ : zV p l e _ s m args below meth c 4 E _ 0 0 σ 0 [(0, .ref (ob E 0)), (1, .int (zI (d : Int))), (2, .ref (ob E 339))] [])
  refine zv_aload_n C 2 dL_crank_0 rfl rfl ?_
  refine zv_iconst (v := zI 0) C dL_crank_1 rfl ?_
  refine zv_aload_n C 0 dL_crank_2 rfl rfl ?_
  refine zv_iload_n C 1 dL_crank_3 rfl rfl ?_
  refine zv_cvi (st := [.int (zI 0), .ref (ob E 339)]) C (c_X10_crank hfl E σ ni tx ec eo U S hh kp ou d h hd4) mX10_crank kL_105 (by decide : kd 0 = 9) rfl rfl rfl ⟨rfl, rfl⟩ (show zfit (zrm 4 124) 8 (zrm 5 151) = true from rfl) (Nat.le_of_ble_eq_true rfl) dL_crank_4 ⟨Nat.zero_le _, Nat.zero_le _⟩ (fun r4 τ4 hp4 => ?_)
  refine zv_i2l C dL_crank_7 ?_
  refine zv_last (j := 0) C (by decide : kd 339 = _) (zI_ix (by omega)) (by decide) dL_crank_8 ?_
  refine zv_goto (tgt := 15) C dL_crank_9 (by decide) ?_
  refine zv_iconst (v := zI 0) C dL_crank_15 rfl ?_
  exact zv_iret C hr rfl dL_crank_16 ⟨rfl, r4, τ4, hp4, rfl⟩
set_option maxRecDepth 20000 in
theorem w_x1_X10_crank {l : Launch} (hfl : l.stackTraces = false) (E : zE) (σ : zS) (y : Int) (hyi : -2147483648 ≤ y ∧ y < 2147483648) (hno : ¬ (0 ≤ y ∧ y ≤ 400000)) : zRh l E yL_crank cL_crank 4 [(0, 9, 12, 13)] (zrx 10 227) 1 6 [.ref (ob E 0), .int (zI y), .ref (ob E 339)] σ (fun r τ => r = zI 1 ∧ (fun u => u = σ) τ) := by
  refine zMetH hfl (by decide) rfl (Nat.le_of_ble_eq_true rfl) ?_
  intro p e s m args below meth c C hr htab
  refine (?_ : zV p l e _ s m args below meth c 4 E _ 0 0 σ 0 [(0, .ref (ob E 0)), (1, .int (zI y)), (2, .ref (ob E 339))] [])
  have hpass : ∀ z ∈ tableOf [], z.catchType ≠ 0 ∧ ∃ nm' : String, Cond.classLink RL z.catchType nm' ∈ zT ∧ ("java/lang/IllegalArgumentException", nm') ∈ zNc := fun z hz => by
    cases hz
  refine zv_aload_n C 2 dL_crank_0 rfl rfl ?_
  refine zv_iconst (v := zI 0) C dL_crank_1 rfl ?_
  refine zv_aload_n C 0 dL_crank_2 rfl rfl ?_
  refine zv_iload_n C 1 dL_crank_3 rfl rfl ?_
  refine zv_xcatch (st := [.int (zI 0), .ref (ob E 339)]) C (x1_X10_crank hfl E σ y hyi hno) (pre := tableOf []) (suf := tableOf []) (x := ⟨0, 9, 12, 13⟩) htab hpass (by decide) (by decide) zcl_13 zca_13 mX10_crank kL_105 (by decide : kd 0 = 9) rfl rfl rfl ⟨rfl, rfl⟩ (show zfit (zrx 9 200) 8 (zrx 10 227) = true from rfl) (Nat.le_of_ble_eq_true rfl) dL_crank_4 ⟨Nat.le_of_ble_eq_true rfl, Nat.le_of_ble_eq_true rfl⟩ (fun q9 τ9 hp9 => ?_)
  refine zv_astore_n (lv' := [(3, .ref q9), (0, .ref (ob E 0)), (1, .int (zI y)), (2, .ref (ob E 339))]) C dL_crank_12 rfl (by decide) rfl ?_
  refine zv_iconst (v := zI 1) C dL_crank_13 rfl ?_
  exact zv_iretN C hr rfl dL_crank_14 ⟨rfl, hp9⟩
set_option maxRecDepth 20000 in
theorem w_c_X10_backlash {l : Launch} (hfl : l.stackTraces = false) (E : zE) (σ : zS) (U : zSU) (S : zST) (i : Nat) (hU : zSUp σ 29 U) (hS : zSTp σ 34 S) (hi : i < U.nb) : zRh l E yL_backlash cL_backlash 4 [(0, 9, 12, 19)] (zrm 4 91) 0 0 [.ref (ob E 0), .int (zI (i : Int)), .ref (ob E 339)] σ (fun r τ => r = zI 0 ∧ ∃ (v : Int32) (υ : zS), (fun r τ => r = zI (qPlay S i) ∧ τ = σ) v υ ∧ τ = sJ υ 339 0 v.toInt64) := by
  refine zMetH hfl (by decide) rfl (Nat.le_of_ble_eq_true rfl) ?_
  intro p e s m args below meth c C hr htab
  refine (?_ : zV p l e _ s m args below meth c 4 E _ 0 0 σ 0 [(0, .ref (ob E 0)), (1, .int (zI (i : Int))), (2, .ref (ob E 339))] [])
  refine zv_aload_n C 2 dL_backlash_0 rfl rfl ?_
  refine zv_iconst (v := zI 0) C dL_backlash_1 rfl ?_
  refine zv_aload_n C 0 dL_backlash_2 rfl rfl ?_
  refine zv_iload_n C 1 dL_backlash_3 rfl rfl ?_
  refine zv_cvi (st := [.int (zI 0), .ref (ob E 339)]) C (c_X10_backlash hfl E σ U S i hU hS hi) mX10_backlash kL_108 (by decide : kd 0 = 9) rfl rfl rfl ⟨rfl, rfl⟩ (show zfit (zrm 3 70) 2 (zrm 4 91) = true from rfl) (Nat.le_of_ble_eq_true rfl) dL_backlash_4 ⟨Nat.zero_le _, Nat.zero_le _⟩ (fun r4 τ4 hp4 => ?_)
  refine zv_i2l C dL_backlash_7 ?_
  refine zv_last (j := 0) C (by decide : kd 339 = _) (zI_ix (by omega)) (by decide) dL_backlash_8 ?_
  refine zv_goto (tgt := 15) C dL_backlash_9 (by decide) ?_
  refine zv_iconst (v := zI 0) C dL_backlash_15 rfl ?_
  exact zv_iret C hr rfl dL_backlash_16 ⟨rfl, r4, τ4, hp4, rfl⟩
set_option maxRecDepth 20000 in
theorem w_x1_X10_backlash {l : Launch} (hfl : l.stackTraces = false) (E : zE) (σ : zS) (U : zSU) (b : Int) (hU : zSUp σ 29 U) (hbi : -2147483648 ≤ b ∧ b < 2147483648) (hno : ¬ (0 ≤ b ∧ b < U.nb)) : zRh l E yL_backlash cL_backlash 4 [(0, 9, 12, 19)] (zrx 10 221) 1 6 [.ref (ob E 0), .int (zI b), .ref (ob E 339)] σ (fun r τ => r = zI 1 ∧ (fun u => u = σ) τ) := by
  refine zMetH hfl (by decide) rfl (Nat.le_of_ble_eq_true rfl) ?_
  intro p e s m args below meth c C hr htab
  refine (?_ : zV p l e _ s m args below meth c 4 E _ 0 0 σ 0 [(0, .ref (ob E 0)), (1, .int (zI b)), (2, .ref (ob E 339))] [])
  have hpass : ∀ z ∈ tableOf [], z.catchType ≠ 0 ∧ ∃ nm' : String, Cond.classLink RL z.catchType nm' ∈ zT ∧ ("java/lang/IndexOutOfBoundsException", nm') ∈ zNc := fun z hz => by
    cases hz
  refine zv_aload_n C 2 dL_backlash_0 rfl rfl ?_
  refine zv_iconst (v := zI 0) C dL_backlash_1 rfl ?_
  refine zv_aload_n C 0 dL_backlash_2 rfl rfl ?_
  refine zv_iload_n C 1 dL_backlash_3 rfl rfl ?_
  refine zv_xcatch (st := [.int (zI 0), .ref (ob E 339)]) C (x1_X10_backlash hfl E σ U b hU hbi hno) (pre := tableOf []) (suf := tableOf []) (x := ⟨0, 9, 12, 19⟩) htab hpass (by decide) (by decide) zcl_19 zca_19 mX10_backlash kL_108 (by decide : kd 0 = 9) rfl rfl rfl ⟨rfl, rfl⟩ (show zfit (zrx 9 200) 2 (zrx 10 221) = true from rfl) (Nat.le_of_ble_eq_true rfl) dL_backlash_4 ⟨Nat.le_of_ble_eq_true rfl, Nat.le_of_ble_eq_true rfl⟩ (fun q9 τ9 hp9 => ?_)
  refine zv_astore_n (lv' := [(3, .ref q9), (0, .ref (ob E 0)), (1, .int (zI b)), (2, .ref (ob E 339))]) C dL_backlash_12 rfl (by decide) rfl ?_
  refine zv_iconst (v := zI 1) C dL_backlash_13 rfl ?_
  exact zv_iretN C hr rfl dL_backlash_14 ⟨rfl, hp9⟩
set_option maxRecDepth 20000 in
theorem w_c_X10_lag {l : Launch} (hfl : l.stackTraces = false) (E : zE) (σ : zS) (U : zSU) (S : zST) (i : Nat) (hU : zSUp σ 29 U) (hS : zSTp σ 34 S) (hi : i < U.nb) : zRh l E yL_lag cL_lag 4 [(0, 9, 12, 19)] (zrm 2 42) 0 0 [.ref (ob E 0), .int (zI (i : Int)), .ref (ob E 339)] σ (fun r τ => r = zI 0 ∧ ∃ (v : Int32) (υ : zS), (fun r τ => r = zI (S.lg i) ∧ τ = σ) v υ ∧ τ = sJ υ 339 0 v.toInt64) := by
  refine zMetH hfl (by decide) rfl (Nat.le_of_ble_eq_true rfl) ?_
  intro p e s m args below meth c C hr htab
  refine (?_ : zV p l e _ s m args below meth c 4 E _ 0 0 σ 0 [(0, .ref (ob E 0)), (1, .int (zI (i : Int))), (2, .ref (ob E 339))] [])
  refine zv_aload_n C 2 dL_lag_0 rfl rfl ?_
  refine zv_iconst (v := zI 0) C dL_lag_1 rfl ?_
  refine zv_aload_n C 0 dL_lag_2 rfl rfl ?_
  refine zv_iload_n C 1 dL_lag_3 rfl rfl ?_
  refine zv_cvi (st := [.int (zI 0), .ref (ob E 339)]) C (c_X10_lag hfl E σ U S i hU hS hi) mX10_lag kL_111 (by decide : kd 0 = 9) rfl rfl rfl ⟨rfl, rfl⟩ (show zfit (zrm 1 21) 2 (zrm 2 42) = true from rfl) (Nat.le_of_ble_eq_true rfl) dL_lag_4 ⟨Nat.zero_le _, Nat.zero_le _⟩ (fun r4 τ4 hp4 => ?_)
  refine zv_i2l C dL_lag_7 ?_
  refine zv_last (j := 0) C (by decide : kd 339 = _) (zI_ix (by omega)) (by decide) dL_lag_8 ?_
  refine zv_goto (tgt := 15) C dL_lag_9 (by decide) ?_
  refine zv_iconst (v := zI 0) C dL_lag_15 rfl ?_
  exact zv_iret C hr rfl dL_lag_16 ⟨rfl, r4, τ4, hp4, rfl⟩
set_option maxRecDepth 20000 in
theorem w_x1_X10_lag {l : Launch} (hfl : l.stackTraces = false) (E : zE) (σ : zS) (U : zSU) (b : Int) (hU : zSUp σ 29 U) (hbi : -2147483648 ≤ b ∧ b < 2147483648) (hno : ¬ (0 ≤ b ∧ b < U.nb)) : zRh l E yL_lag cL_lag 4 [(0, 9, 12, 19)] (zrx 10 221) 1 6 [.ref (ob E 0), .int (zI b), .ref (ob E 339)] σ (fun r τ => r = zI 1 ∧ (fun u => u = σ) τ) := by
  refine zMetH hfl (by decide) rfl (Nat.le_of_ble_eq_true rfl) ?_
  intro p e s m args below meth c C hr htab
  refine (?_ : zV p l e _ s m args below meth c 4 E _ 0 0 σ 0 [(0, .ref (ob E 0)), (1, .int (zI b)), (2, .ref (ob E 339))] [])
  have hpass : ∀ z ∈ tableOf [], z.catchType ≠ 0 ∧ ∃ nm' : String, Cond.classLink RL z.catchType nm' ∈ zT ∧ ("java/lang/IndexOutOfBoundsException", nm') ∈ zNc := fun z hz => by
    cases hz
  refine zv_aload_n C 2 dL_lag_0 rfl rfl ?_
  refine zv_iconst (v := zI 0) C dL_lag_1 rfl ?_
  refine zv_aload_n C 0 dL_lag_2 rfl rfl ?_
  refine zv_iload_n C 1 dL_lag_3 rfl rfl ?_
  refine zv_xcatch (st := [.int (zI 0), .ref (ob E 339)]) C (x1_X10_lag hfl E σ U b hU hbi hno) (pre := tableOf []) (suf := tableOf []) (x := ⟨0, 9, 12, 19⟩) htab hpass (by decide) (by decide) zcl_19 zca_19 mX10_lag kL_111 (by decide : kd 0 = 9) rfl rfl rfl ⟨rfl, rfl⟩ (show zfit (zrx 9 200) 2 (zrx 10 221) = true from rfl) (Nat.le_of_ble_eq_true rfl) dL_lag_4 ⟨Nat.le_of_ble_eq_true rfl, Nat.le_of_ble_eq_true rfl⟩ (fun q9 τ9 hp9 => ?_)
  refine zv_astore_n (lv' := [(3, .ref q9), (0, .ref (ob E 0)), (1, .int (zI b)), (2, .ref (ob E 339))]) C dL_lag_12 rfl (by decide) rfl ?_
  refine zv_iconst (v := zI 1) C dL_lag_13 rfl ?_
  exact zv_iretN C hr rfl dL_lag_14 ⟨rfl, hp9⟩
set_option maxRecDepth 20000 in
theorem w_c_X10_shown {l : Launch} (hfl : l.stackTraces = false) (E : zE) (σ : zS) (U : zSU) (S : zST) (i : Nat) (hU : zSUp σ 29 U) (hS : zSTp σ 34 S) (hi : i < U.nb) (hq9 : zSTq S) : zRh l E yL_shown cL_shown 4 [(0, 9, 12, 19)] (zrm 5 128) 0 0 [.ref (ob E 0), .int (zI (i : Int)), .ref (ob E 339)] σ (fun r τ => r = zI 0 ∧ ∃ (v : Int32) (υ : zS), (fun r τ => r = zI ((qDrum U S i (S.dy : Int) + S.lg i) % 1296000) ∧ τ = (rW σ 320 (qPtr U S i).1 (qPtr U S i).2)) v υ ∧ τ = sJ υ 339 0 v.toInt64) := by
  refine zMetH hfl (by decide) rfl (Nat.le_of_ble_eq_true rfl) ?_
  intro p e s m args below meth c C hr htab
  refine (?_ : zV p l e _ s m args below meth c 4 E _ 0 0 σ 0 [(0, .ref (ob E 0)), (1, .int (zI (i : Int))), (2, .ref (ob E 339))] [])
  refine zv_aload_n C 2 dL_shown_0 rfl rfl ?_
  refine zv_iconst (v := zI 0) C dL_shown_1 rfl ?_
  refine zv_aload_n C 0 dL_shown_2 rfl rfl ?_
  refine zv_iload_n C 1 dL_shown_3 rfl rfl ?_
  refine zv_cvi (st := [.int (zI 0), .ref (ob E 339)]) C (c_X10_shown hfl E σ U S i hU hS hi hq9) mX10_shown kL_114 (by decide : kd 0 = 9) rfl rfl rfl ⟨rfl, rfl⟩ (show zfit (zrm 4 105) 4 (zrm 5 128) = true from rfl) (Nat.le_of_ble_eq_true rfl) dL_shown_4 ⟨Nat.zero_le _, Nat.zero_le _⟩ (fun r4 τ4 hp4 => ?_)
  refine zv_i2l C dL_shown_7 ?_
  refine zv_last (j := 0) C (by decide : kd 339 = _) (zI_ix (by omega)) (by decide) dL_shown_8 ?_
  refine zv_goto (tgt := 15) C dL_shown_9 (by decide) ?_
  refine zv_iconst (v := zI 0) C dL_shown_15 rfl ?_
  exact zv_iret C hr rfl dL_shown_16 ⟨rfl, r4, τ4, hp4, rfl⟩
set_option maxRecDepth 20000 in
theorem w_x1_X10_shown {l : Launch} (hfl : l.stackTraces = false) (E : zE) (σ : zS) (U : zSU) (b : Int) (hU : zSUp σ 29 U) (hbi : -2147483648 ≤ b ∧ b < 2147483648) (hno : ¬ (0 ≤ b ∧ b < U.nb)) : zRh l E yL_shown cL_shown 4 [(0, 9, 12, 19)] (zrx 10 223) 1 6 [.ref (ob E 0), .int (zI b), .ref (ob E 339)] σ (fun r τ => r = zI 1 ∧ (fun u => u = σ) τ) := by
  refine zMetH hfl (by decide) rfl (Nat.le_of_ble_eq_true rfl) ?_
  intro p e s m args below meth c C hr htab
  refine (?_ : zV p l e _ s m args below meth c 4 E _ 0 0 σ 0 [(0, .ref (ob E 0)), (1, .int (zI b)), (2, .ref (ob E 339))] [])
  have hpass : ∀ z ∈ tableOf [], z.catchType ≠ 0 ∧ ∃ nm' : String, Cond.classLink RL z.catchType nm' ∈ zT ∧ ("java/lang/IndexOutOfBoundsException", nm') ∈ zNc := fun z hz => by
    cases hz
  refine zv_aload_n C 2 dL_shown_0 rfl rfl ?_
  refine zv_iconst (v := zI 0) C dL_shown_1 rfl ?_
  refine zv_aload_n C 0 dL_shown_2 rfl rfl ?_
  refine zv_iload_n C 1 dL_shown_3 rfl rfl ?_
  refine zv_xcatch (st := [.int (zI 0), .ref (ob E 339)]) C (x1_X10_shown hfl E σ U b hU hbi hno) (pre := tableOf []) (suf := tableOf []) (x := ⟨0, 9, 12, 19⟩) htab hpass (by decide) (by decide) zcl_19 zca_19 mX10_shown kL_114 (by decide : kd 0 = 9) rfl rfl rfl ⟨rfl, rfl⟩ (show zfit (zrx 9 200) 4 (zrx 10 223) = true from rfl) (Nat.le_of_ble_eq_true rfl) dL_shown_4 ⟨Nat.le_of_ble_eq_true rfl, Nat.le_of_ble_eq_true rfl⟩ (fun q9 τ9 hp9 => ?_)
  refine zv_astore_n (lv' := [(3, .ref q9), (0, .ref (ob E 0)), (1, .int (zI b)), (2, .ref (ob E 339))]) C dL_shown_12 rfl (by decide) rfl ?_
  refine zv_iconst (v := zI 1) C dL_shown_13 rfl ?_
  exact zv_iretN C hr rfl dL_shown_14 ⟨rfl, hp9⟩
set_option maxRecDepth 20000 in
theorem w_c_X10_missing {l : Launch} (hfl : l.stackTraces = false) (E : zE) (σ : zS) (U : zSU) (S : zST) (i : Nat) (hU : zSUp σ 29 U) (hS : zSTp σ 34 S) (hi : i < U.nb) : zRh l E yL_missing cL_missing 4 [(0, 9, 12, 19)] (zrm 3 68) 0 0 [.ref (ob E 0), .int (zI (i : Int)), .ref (ob E 339)] σ (fun r τ => r = zI 0 ∧ ∃ (v : Int32) (υ : zS), (fun r τ => r = zI (dMis S i (S.tn i) : Int) ∧ τ = σ) v υ ∧ τ = sJ υ 339 0 v.toInt64) := by
  refine zMetH hfl (by decide) rfl (Nat.le_of_ble_eq_true rfl) ?_
  intro p e s m args below meth c C hr htab
  refine (?_ : zV p l e _ s m args below meth c 4 E _ 0 0 σ 0 [(0, .ref (ob E 0)), (1, .int (zI (i : Int))), (2, .ref (ob E 339))] [])
  refine zv_aload_n C 2 dL_missing_0 rfl rfl ?_
  refine zv_iconst (v := zI 0) C dL_missing_1 rfl ?_
  refine zv_aload_n C 0 dL_missing_2 rfl rfl ?_
  refine zv_iload_n C 1 dL_missing_3 rfl rfl ?_
  refine zv_cvi (st := [.int (zI 0), .ref (ob E 339)]) C (c_X10_missing hfl E σ U S i hU hS hi) mX10_missing kL_117 (by decide : kd 0 = 9) rfl rfl rfl ⟨rfl, rfl⟩ (show zfit (zrm 2 44) 5 (zrm 3 68) = true from rfl) (Nat.le_of_ble_eq_true rfl) dL_missing_4 ⟨Nat.zero_le _, Nat.zero_le _⟩ (fun r4 τ4 hp4 => ?_)
  refine zv_i2l C dL_missing_7 ?_
  refine zv_last (j := 0) C (by decide : kd 339 = _) (zI_ix (by omega)) (by decide) dL_missing_8 ?_
  refine zv_goto (tgt := 15) C dL_missing_9 (by decide) ?_
  refine zv_iconst (v := zI 0) C dL_missing_15 rfl ?_
  exact zv_iret C hr rfl dL_missing_16 ⟨rfl, r4, τ4, hp4, rfl⟩
set_option maxRecDepth 20000 in
theorem w_x1_X10_missing {l : Launch} (hfl : l.stackTraces = false) (E : zE) (σ : zS) (U : zSU) (b : Int) (hU : zSUp σ 29 U) (hbi : -2147483648 ≤ b ∧ b < 2147483648) (hno : ¬ (0 ≤ b ∧ b < U.nb)) : zRh l E yL_missing cL_missing 4 [(0, 9, 12, 19)] (zrx 10 224) 1 6 [.ref (ob E 0), .int (zI b), .ref (ob E 339)] σ (fun r τ => r = zI 1 ∧ (fun u => u = σ) τ) := by
  refine zMetH hfl (by decide) rfl (Nat.le_of_ble_eq_true rfl) ?_
  intro p e s m args below meth c C hr htab
  refine (?_ : zV p l e _ s m args below meth c 4 E _ 0 0 σ 0 [(0, .ref (ob E 0)), (1, .int (zI b)), (2, .ref (ob E 339))] [])
  have hpass : ∀ z ∈ tableOf [], z.catchType ≠ 0 ∧ ∃ nm' : String, Cond.classLink RL z.catchType nm' ∈ zT ∧ ("java/lang/IndexOutOfBoundsException", nm') ∈ zNc := fun z hz => by
    cases hz
  refine zv_aload_n C 2 dL_missing_0 rfl rfl ?_
  refine zv_iconst (v := zI 0) C dL_missing_1 rfl ?_
  refine zv_aload_n C 0 dL_missing_2 rfl rfl ?_
  refine zv_iload_n C 1 dL_missing_3 rfl rfl ?_
  refine zv_xcatch (st := [.int (zI 0), .ref (ob E 339)]) C (x1_X10_missing hfl E σ U b hU hbi hno) (pre := tableOf []) (suf := tableOf []) (x := ⟨0, 9, 12, 19⟩) htab hpass (by decide) (by decide) zcl_19 zca_19 mX10_missing kL_117 (by decide : kd 0 = 9) rfl rfl rfl ⟨rfl, rfl⟩ (show zfit (zrx 9 200) 5 (zrx 10 224) = true from rfl) (Nat.le_of_ble_eq_true rfl) dL_missing_4 ⟨Nat.le_of_ble_eq_true rfl, Nat.le_of_ble_eq_true rfl⟩ (fun q9 τ9 hp9 => ?_)
  refine zv_astore_n (lv' := [(3, .ref q9), (0, .ref (ob E 0)), (1, .int (zI b)), (2, .ref (ob E 339))]) C dL_missing_12 rfl (by decide) rfl ?_
  refine zv_iconst (v := zI 1) C dL_missing_13 rfl ?_
  exact zv_iretN C hr rfl dL_missing_14 ⟨rfl, hp9⟩
set_option maxRecDepth 20000 in
theorem w_c_X10_nextMeeting {l : Launch} (hfl : l.stackTraces = false) (E : zE) (σ : zS) (U : zSU) (S : zST) (i o : Nat) (d orb : Int) (hU : zSUp σ 29 U) (hS : zSTp σ 34 S) (hi : i < U.nb) (ho : o < U.nb) (hdd9 : 0 ≤ d ∧ d ≤ 390000) (horb : 0 ≤ orb ∧ orb ≤ 648000) : zRh l E yL_nextMeeting cL_nextMeeting 7 [(0, 14, 17, 19), (0, 14, 21, 13)] (zrm 5 132) 0 0 [.ref (ob E 0), .int (zI (i : Int)), .int (zI (o : Int)), .int (zI d), .int (zI orb), .ref (ob E 339)] σ (fun r τ => r = zI 0 ∧ ∃ (v : Int32) (υ : zS), (fun r τ => r = zI (dNmR U S i o d orb) ∧ τ = rW2 σ U S i o) v υ ∧ τ = sJ υ 339 0 v.toInt64) := by
  refine zMetH hfl (by decide) rfl (Nat.le_of_ble_eq_true rfl) ?_
  intro p e s m args below meth c C hr htab
  refine (?_ : zV p l e _ s m args below meth c 7 E _ 0 0 σ 0 [(0, .ref (ob E 0)), (1, .int (zI (i : Int))), (2, .int (zI (o : Int))), (3, .int (zI d)), (4, .int (zI orb)), (5, .ref (ob E 339))] [])
  refine zv_aload C 5 dL_nextMeeting_0 rfl ?_
  refine zv_iconst (v := zI 0) C dL_nextMeeting_2 rfl ?_
  refine zv_aload_n C 0 dL_nextMeeting_3 rfl rfl ?_
  refine zv_iload_n C 1 dL_nextMeeting_4 rfl rfl ?_
  refine zv_iload_n C 2 dL_nextMeeting_5 rfl rfl ?_
  refine zv_iload_n C 3 dL_nextMeeting_6 rfl rfl ?_
  refine zv_iload C 4 dL_nextMeeting_7 rfl ?_
  refine zv_cvi (st := [.int (zI 0), .ref (ob E 339)]) C (c_X10_nextMeeting hfl E σ U S i o d orb hU hS hi ho hdd9 horb) mX10_nextMeeting kL_120 (by decide : kd 0 = 9) rfl rfl rfl ⟨rfl, rfl⟩ (show zfit (zrm 4 105) 8 (zrm 5 132) = true from rfl) (Nat.le_of_ble_eq_true rfl) dL_nextMeeting_9 ⟨Nat.zero_le _, Nat.zero_le _⟩ (fun r9 τ9 hp9 => ?_)
  refine zv_i2l C dL_nextMeeting_12 ?_
  refine zv_last (j := 0) C (by decide : kd 339 = _) (zI_ix (by omega)) (by decide) dL_nextMeeting_13 ?_
  refine zv_goto (tgt := 25) C dL_nextMeeting_14 (by decide) ?_
  refine zv_iconst (v := zI 0) C dL_nextMeeting_25 rfl ?_
  exact zv_iret C hr rfl dL_nextMeeting_26 ⟨rfl, r9, τ9, hp9, rfl⟩
set_option maxRecDepth 20000 in
theorem w_x1_X10_nextMeeting {l : Launch} (hfl : l.stackTraces = false) (E : zE) (σ : zS) (U : zSU) (b : Int) (y : Int) (z : Int) (w : Int) (hU : zSUp σ 29 U) (hbi : -2147483648 ≤ b ∧ b < 2147483648) (hno : ¬ (0 ≤ b ∧ b < U.nb)) : zRh l E yL_nextMeeting cL_nextMeeting 7 [(0, 14, 17, 19), (0, 14, 21, 13)] (zrx 10 227) 1 6 [.ref (ob E 0), .int (zI b), .int (zI y), .int (zI z), .int (zI w), .ref (ob E 339)] σ (fun r τ => r = zI 1 ∧ (fun u => u = σ) τ) := by
  refine zMetH hfl (by decide) rfl (Nat.le_of_ble_eq_true rfl) ?_
  intro p e s m args below meth c C hr htab
  refine (?_ : zV p l e _ s m args below meth c 7 E _ 0 0 σ 0 [(0, .ref (ob E 0)), (1, .int (zI b)), (2, .int (zI y)), (3, .int (zI z)), (4, .int (zI w)), (5, .ref (ob E 339))] [])
  have hpass : ∀ z ∈ tableOf [], z.catchType ≠ 0 ∧ ∃ nm' : String, Cond.classLink RL z.catchType nm' ∈ zT ∧ ("java/lang/IndexOutOfBoundsException", nm') ∈ zNc := fun z hz => by
    cases hz
  refine zv_aload C 5 dL_nextMeeting_0 rfl ?_
  refine zv_iconst (v := zI 0) C dL_nextMeeting_2 rfl ?_
  refine zv_aload_n C 0 dL_nextMeeting_3 rfl rfl ?_
  refine zv_iload_n C 1 dL_nextMeeting_4 rfl rfl ?_
  refine zv_iload_n C 2 dL_nextMeeting_5 rfl rfl ?_
  refine zv_iload_n C 3 dL_nextMeeting_6 rfl rfl ?_
  refine zv_iload C 4 dL_nextMeeting_7 rfl ?_
  refine zv_xcatch (st := [.int (zI 0), .ref (ob E 339)]) C (x1_X10_nextMeeting hfl E σ U b y z w hU hbi hno) (pre := tableOf []) (suf := tableOf [(0, 14, 21, 13)]) (x := ⟨0, 14, 17, 19⟩) htab hpass (by decide) (by decide) zcl_19 zca_19 mX10_nextMeeting kL_120 (by decide : kd 0 = 9) rfl rfl rfl ⟨rfl, rfl⟩ (show zfit (zrx 9 200) 8 (zrx 10 227) = true from rfl) (Nat.le_of_ble_eq_true rfl) dL_nextMeeting_9 ⟨Nat.le_of_ble_eq_true rfl, Nat.le_of_ble_eq_true rfl⟩ (fun q9 τ9 hp9 => ?_)
  refine zv_astore (lv' := [(6, .ref q9), (0, .ref (ob E 0)), (1, .int (zI b)), (2, .int (zI y)), (3, .int (zI z)), (4, .int (zI w)), (5, .ref (ob E 339))]) C dL_nextMeeting_17  (by decide) rfl ?_
  refine zv_iconst (v := zI 1) C dL_nextMeeting_19 rfl ?_
  exact zv_iretN C hr rfl dL_nextMeeting_20 ⟨rfl, hp9⟩
set_option maxRecDepth 20000 in
theorem w_x2_X10_nextMeeting {l : Launch} (hfl : l.stackTraces = false) (E : zE) (σ : zS) (U : zSU) (i : Nat) (y z w : Int) (hU : zSUp σ 29 U) (hi : i < U.nb) (hyi : -2147483648 ≤ y ∧ y < 2147483648) (hno : ¬ (0 ≤ y ∧ y < U.nb)) : zRh l E yL_nextMeeting cL_nextMeeting 7 [(0, 14, 17, 19), (0, 14, 21, 13)] (zrx 10 227) 1 6 [.ref (ob E 0), .int (zI (i : Int)), .int (zI y), .int (zI z), .int (zI w), .ref (ob E 339)] σ (fun r τ => r = zI 1 ∧ (fun u => u = σ) τ) := by
  refine zMetH hfl (by decide) rfl (Nat.le_of_ble_eq_true rfl) ?_
  intro p e s m args below meth c C hr htab
  refine (?_ : zV p l e _ s m args below meth c 7 E _ 0 0 σ 0 [(0, .ref (ob E 0)), (1, .int (zI (i : Int))), (2, .int (zI y)), (3, .int (zI z)), (4, .int (zI w)), (5, .ref (ob E 339))] [])
  have hpass : ∀ z ∈ tableOf [], z.catchType ≠ 0 ∧ ∃ nm' : String, Cond.classLink RL z.catchType nm' ∈ zT ∧ ("java/lang/IndexOutOfBoundsException", nm') ∈ zNc := fun z hz => by
    cases hz
  refine zv_aload C 5 dL_nextMeeting_0 rfl ?_
  refine zv_iconst (v := zI 0) C dL_nextMeeting_2 rfl ?_
  refine zv_aload_n C 0 dL_nextMeeting_3 rfl rfl ?_
  refine zv_iload_n C 1 dL_nextMeeting_4 rfl rfl ?_
  refine zv_iload_n C 2 dL_nextMeeting_5 rfl rfl ?_
  refine zv_iload_n C 3 dL_nextMeeting_6 rfl rfl ?_
  refine zv_iload C 4 dL_nextMeeting_7 rfl ?_
  refine zv_xcatch (st := [.int (zI 0), .ref (ob E 339)]) C (x2_X10_nextMeeting hfl E σ U i y z w hU hi hyi hno) (pre := tableOf []) (suf := tableOf [(0, 14, 21, 13)]) (x := ⟨0, 14, 17, 19⟩) htab hpass (by decide) (by decide) zcl_19 zca_19 mX10_nextMeeting kL_120 (by decide : kd 0 = 9) rfl rfl rfl ⟨rfl, rfl⟩ (show zfit (zrx 9 200) 8 (zrx 10 227) = true from rfl) (Nat.le_of_ble_eq_true rfl) dL_nextMeeting_9 ⟨Nat.le_of_ble_eq_true rfl, Nat.le_of_ble_eq_true rfl⟩ (fun q9 τ9 hp9 => ?_)
  refine zv_astore (lv' := [(6, .ref q9), (0, .ref (ob E 0)), (1, .int (zI (i : Int))), (2, .int (zI y)), (3, .int (zI z)), (4, .int (zI w)), (5, .ref (ob E 339))]) C dL_nextMeeting_17  (by decide) rfl ?_
  refine zv_iconst (v := zI 1) C dL_nextMeeting_19 rfl ?_
  exact zv_iretN C hr rfl dL_nextMeeting_20 ⟨rfl, hp9⟩
set_option maxRecDepth 20000 in
theorem w_x3_X10_nextMeeting {l : Launch} (hfl : l.stackTraces = false) (E : zE) (σ : zS) (U : zSU) (i o : Nat) (y z : Int) (hU : zSUp σ 29 U) (hi : i < U.nb) (ho : o < U.nb) (hyi : -2147483648 ≤ y ∧ y < 2147483648) (hno : ¬ (0 ≤ y ∧ y ≤ 390000)) : zRh l E yL_nextMeeting cL_nextMeeting 7 [(0, 14, 17, 19), (0, 14, 21, 13)] (zrx 10 227) 1 6 [.ref (ob E 0), .int (zI (i : Int)), .int (zI (o : Int)), .int (zI y), .int (zI z), .ref (ob E 339)] σ (fun r τ => r = zI 2 ∧ (fun u => u = σ) τ) := by
  refine zMetH hfl (by decide) rfl (Nat.le_of_ble_eq_true rfl) ?_
  intro p e s m args below meth c C hr htab
  refine (?_ : zV p l e _ s m args below meth c 7 E _ 0 0 σ 0 [(0, .ref (ob E 0)), (1, .int (zI (i : Int))), (2, .int (zI (o : Int))), (3, .int (zI y)), (4, .int (zI z)), (5, .ref (ob E 339))] [])
  have hpass : ∀ z ∈ tableOf [(0, 14, 17, 19)], z.catchType ≠ 0 ∧ ∃ nm' : String, Cond.classLink RL z.catchType nm' ∈ zT ∧ ("java/lang/IllegalArgumentException", nm') ∈ zNc := fun z hz => by
    simp only [tableOf, List.map_cons, List.map_nil, List.mem_cons, List.not_mem_nil, or_false] at hz
    rcases hz with rfl
    · exact ⟨by decide, "java/lang/IndexOutOfBoundsException", zcl_19, by decide⟩
  refine zv_aload C 5 dL_nextMeeting_0 rfl ?_
  refine zv_iconst (v := zI 0) C dL_nextMeeting_2 rfl ?_
  refine zv_aload_n C 0 dL_nextMeeting_3 rfl rfl ?_
  refine zv_iload_n C 1 dL_nextMeeting_4 rfl rfl ?_
  refine zv_iload_n C 2 dL_nextMeeting_5 rfl rfl ?_
  refine zv_iload_n C 3 dL_nextMeeting_6 rfl rfl ?_
  refine zv_iload C 4 dL_nextMeeting_7 rfl ?_
  refine zv_xcatch (st := [.int (zI 0), .ref (ob E 339)]) C (x3_X10_nextMeeting hfl E σ U i o y z hU hi ho hyi hno) (pre := tableOf [(0, 14, 17, 19)]) (suf := tableOf []) (x := ⟨0, 14, 21, 13⟩) htab hpass (by decide) (by decide) zcl_13 zca_13 mX10_nextMeeting kL_120 (by decide : kd 0 = 9) rfl rfl rfl ⟨rfl, rfl⟩ (show zfit (zrx 9 200) 8 (zrx 10 227) = true from rfl) (Nat.le_of_ble_eq_true rfl) dL_nextMeeting_9 ⟨Nat.le_of_ble_eq_true rfl, Nat.le_of_ble_eq_true rfl⟩ (fun q9 τ9 hp9 => ?_)
  refine zv_astore (lv' := [(6, .ref q9), (0, .ref (ob E 0)), (1, .int (zI (i : Int))), (2, .int (zI (o : Int))), (3, .int (zI y)), (4, .int (zI z)), (5, .ref (ob E 339))]) C dL_nextMeeting_21  (by decide) rfl ?_
  refine zv_iconst (v := zI 2) C dL_nextMeeting_23 rfl ?_
  exact zv_iretN C hr rfl dL_nextMeeting_24 ⟨rfl, hp9⟩
set_option maxRecDepth 20000 in
theorem w_x4_X10_nextMeeting {l : Launch} (hfl : l.stackTraces = false) (E : zE) (σ : zS) (U : zSU) (i o : Nat) (y z : Int) (hU : zSUp σ 29 U) (hi : i < U.nb) (ho : o < U.nb) (hy : 0 ≤ y ∧ y ≤ 390000) (hzi : -2147483648 ≤ z ∧ z < 2147483648) (hno : ¬ (0 ≤ z ∧ z ≤ 648000)) : zRh l E yL_nextMeeting cL_nextMeeting 7 [(0, 14, 17, 19), (0, 14, 21, 13)] (zrx 10 227) 1 6 [.ref (ob E 0), .int (zI (i : Int)), .int (zI (o : Int)), .int (zI y), .int (zI z), .ref (ob E 339)] σ (fun r τ => r = zI 2 ∧ (fun u => u = σ) τ) := by
  refine zMetH hfl (by decide) rfl (Nat.le_of_ble_eq_true rfl) ?_
  intro p e s m args below meth c C hr htab
  refine (?_ : zV p l e _ s m args below meth c 7 E _ 0 0 σ 0 [(0, .ref (ob E 0)), (1, .int (zI (i : Int))), (2, .int (zI (o : Int))), (3, .int (zI y)), (4, .int (zI z)), (5, .ref (ob E 339))] [])
  have hpass : ∀ z ∈ tableOf [(0, 14, 17, 19)], z.catchType ≠ 0 ∧ ∃ nm' : String, Cond.classLink RL z.catchType nm' ∈ zT ∧ ("java/lang/IllegalArgumentException", nm') ∈ zNc := fun z hz => by
    simp only [tableOf, List.map_cons, List.map_nil, List.mem_cons, List.not_mem_nil, or_false] at hz
    rcases hz with rfl
    · exact ⟨by decide, "java/lang/IndexOutOfBoundsException", zcl_19, by decide⟩
  refine zv_aload C 5 dL_nextMeeting_0 rfl ?_
  refine zv_iconst (v := zI 0) C dL_nextMeeting_2 rfl ?_
  refine zv_aload_n C 0 dL_nextMeeting_3 rfl rfl ?_
  refine zv_iload_n C 1 dL_nextMeeting_4 rfl rfl ?_
  refine zv_iload_n C 2 dL_nextMeeting_5 rfl rfl ?_
  refine zv_iload_n C 3 dL_nextMeeting_6 rfl rfl ?_
  refine zv_iload C 4 dL_nextMeeting_7 rfl ?_
  refine zv_xcatch (st := [.int (zI 0), .ref (ob E 339)]) C (x4_X10_nextMeeting hfl E σ U i o y z hU hi ho hy hzi hno) (pre := tableOf [(0, 14, 17, 19)]) (suf := tableOf []) (x := ⟨0, 14, 21, 13⟩) htab hpass (by decide) (by decide) zcl_13 zca_13 mX10_nextMeeting kL_120 (by decide : kd 0 = 9) rfl rfl rfl ⟨rfl, rfl⟩ (show zfit (zrx 9 200) 8 (zrx 10 227) = true from rfl) (Nat.le_of_ble_eq_true rfl) dL_nextMeeting_9 ⟨Nat.le_of_ble_eq_true rfl, Nat.le_of_ble_eq_true rfl⟩ (fun q9 τ9 hp9 => ?_)
  refine zv_astore (lv' := [(6, .ref q9), (0, .ref (ob E 0)), (1, .int (zI (i : Int))), (2, .int (zI (o : Int))), (3, .int (zI y)), (4, .int (zI z)), (5, .ref (ob E 339))]) C dL_nextMeeting_21  (by decide) rfl ?_
  refine zv_iconst (v := zI 2) C dL_nextMeeting_23 rfl ?_
  exact zv_iretN C hr rfl dL_nextMeeting_24 ⟨rfl, hp9⟩
set_option maxRecDepth 20000 in
theorem w_c_X10_accuracy {l : Launch} (hfl : l.stackTraces = false) (E : zE) (σ : zS) (U : zSU) (S : zST) (i : Nat) (hFN : zFN) (hU : zSUp σ 29 U) (hS : zSTp σ 34 S) (hi : i < U.nb) : zRh l E yL_accuracy cL_accuracy 4 [(0, 8, 11, 19)] (zrm 5 128) 0 0 [.ref (ob E 0), .int (zI (i : Int)), .ref (ob E 340)] σ (fun r τ => r = zI 0 ∧ ∃ (v : UInt64) (υ : zS), (fun r τ => r = dAcc U S i ∧ τ = (rW (rW σ 320 (qPtr U S i).1 (qPtr U S i).2) 321 (qDue U i).1 (qDue U i).2)) v υ ∧ τ = sD υ 340 0 v) := by
  refine zMetH hfl (by decide) rfl (Nat.le_of_ble_eq_true rfl) ?_
  intro p e s m args below meth c C hr htab
  refine (?_ : zV p l e _ s m args below meth c 4 E _ 0 0 σ 0 [(0, .ref (ob E 0)), (1, .int (zI (i : Int))), (2, .ref (ob E 340))] [])
  refine zv_aload_n C 2 dL_accuracy_0 rfl rfl ?_
  refine zv_iconst (v := zI 0) C dL_accuracy_1 rfl ?_
  refine zv_aload_n C 0 dL_accuracy_2 rfl rfl ?_
  refine zv_iload_n C 1 dL_accuracy_3 rfl rfl ?_
  refine zv_cvd (st := [.int (zI 0), .ref (ob E 340)]) C (c_X10_accuracy hfl E σ U S i hFN hU hS hi) mX10_accuracy kL_123 (by decide : kd 0 = 9) rfl rfl rfl ⟨rfl, rfl⟩ (show zfit (zrm 4 105) 4 (zrm 5 128) = true from rfl) (Nat.le_of_ble_eq_true rfl) dL_accuracy_4 ⟨Nat.zero_le _, Nat.zero_le _⟩ (fun r4 τ4 hp4 => ?_)
  refine zv_dast (j := 0) C (by decide : kd 340 = _) (zI_ix (by omega)) (by decide) dL_accuracy_7 ?_
  refine zv_goto (tgt := 14) C dL_accuracy_8 (by decide) ?_
  refine zv_iconst (v := zI 0) C dL_accuracy_14 rfl ?_
  exact zv_iret C hr rfl dL_accuracy_15 ⟨rfl, r4, τ4, hp4, rfl⟩
set_option maxRecDepth 20000 in
theorem w_x1_X10_accuracy {l : Launch} (hfl : l.stackTraces = false) (E : zE) (σ : zS) (U : zSU) (b : Int) (hU : zSUp σ 29 U) (hbi : -2147483648 ≤ b ∧ b < 2147483648) (hno : ¬ (0 ≤ b ∧ b < U.nb)) : zRh l E yL_accuracy cL_accuracy 4 [(0, 8, 11, 19)] (zrx 13 323) 1 6 [.ref (ob E 0), .int (zI b), .ref (ob E 340)] σ (fun r τ => r = zI 1 ∧ (fun u => u = σ) τ) := by
  refine zMetH hfl (by decide) rfl (Nat.le_of_ble_eq_true rfl) ?_
  intro p e s m args below meth c C hr htab
  refine (?_ : zV p l e _ s m args below meth c 4 E _ 0 0 σ 0 [(0, .ref (ob E 0)), (1, .int (zI b)), (2, .ref (ob E 340))] [])
  have hpass : ∀ z ∈ tableOf [], z.catchType ≠ 0 ∧ ∃ nm' : String, Cond.classLink RL z.catchType nm' ∈ zT ∧ ("java/lang/IndexOutOfBoundsException", nm') ∈ zNc := fun z hz => by
    cases hz
  refine zv_aload_n C 2 dL_accuracy_0 rfl rfl ?_
  refine zv_iconst (v := zI 0) C dL_accuracy_1 rfl ?_
  refine zv_aload_n C 0 dL_accuracy_2 rfl rfl ?_
  refine zv_iload_n C 1 dL_accuracy_3 rfl rfl ?_
  refine zv_xcatch (st := [.int (zI 0), .ref (ob E 340)]) C (x1_X10_accuracy hfl E σ U b hU hbi hno) (pre := tableOf []) (suf := tableOf []) (x := ⟨0, 8, 11, 19⟩) htab hpass (by decide) (by decide) zcl_19 zca_19 mX10_accuracy kL_123 (by decide : kd 0 = 9) rfl rfl rfl ⟨rfl, rfl⟩ (show zfit (zrx 12 300) 4 (zrx 13 323) = true from rfl) (Nat.le_of_ble_eq_true rfl) dL_accuracy_4 ⟨Nat.le_of_ble_eq_true rfl, Nat.le_of_ble_eq_true rfl⟩ (fun q9 τ9 hp9 => ?_)
  refine zv_astore_n (lv' := [(3, .ref q9), (0, .ref (ob E 0)), (1, .int (zI b)), (2, .ref (ob E 340))]) C dL_accuracy_11 rfl (by decide) rfl ?_
  refine zv_iconst (v := zI 1) C dL_accuracy_12 rfl ?_
  exact zv_iretN C hr rfl dL_accuracy_13 ⟨rfl, hp9⟩
set_option maxRecDepth 20000 in
theorem w_c0_X10_improve {l : Launch} (hfl : l.stackTraces = false) (E : zE) (σ : zS) (U : zSU) (S : zST) (i : Nat) (hU : zSUp σ 29 U) (hS : zSTp σ 34 S) (hi : i < U.nb) (hneg : (imF U S i (S.tn i)).2.2.2 < 0) : zRh l E yL_improve cL_improve 4 [(0, 9, 12, 19)] (zrm 13 328) 0 0 [.ref (ob E 0), .int (zI (i : Int)), .ref (ob E 339)] σ (fun r τ => r = zI 0 ∧ ∃ (v : Int32) (υ : zS), (fun r τ => r = zI (-1) ∧ zFr 318 327 σ τ) v υ ∧ τ = sJ υ 339 0 v.toInt64) := by
  refine zMetH hfl (by decide) rfl (Nat.le_of_ble_eq_true rfl) ?_
  intro p e s m args below meth c C hr htab
  refine (?_ : zV p l e _ s m args below meth c 4 E _ 0 0 σ 0 [(0, .ref (ob E 0)), (1, .int (zI (i : Int))), (2, .ref (ob E 339))] [])
  refine zv_aload_n C 2 dL_improve_0 rfl rfl ?_
  refine zv_iconst (v := zI 0) C dL_improve_1 rfl ?_
  refine zv_aload_n C 0 dL_improve_2 rfl rfl ?_
  refine zv_iload_n C 1 dL_improve_3 rfl rfl ?_
  refine zv_cvi (st := [.int (zI 0), .ref (ob E 339)]) C (c0_X10_improve hfl E σ U S i hU hS hi hneg) mX10_improve kL_127 (by decide : kd 0 = 9) rfl rfl rfl ⟨rfl, rfl⟩ (show zfit (zrm 12 300) 9 (zrm 13 328) = true from rfl) (Nat.le_of_ble_eq_true rfl) dL_improve_4 ⟨Nat.zero_le _, Nat.zero_le _⟩ (fun r4 τ4 hp4 => ?_)
  refine zv_i2l C dL_improve_7 ?_
  refine zv_last (j := 0) C (by decide : kd 339 = _) (zI_ix (by omega)) (by decide) dL_improve_8 ?_
  refine zv_goto (tgt := 15) C dL_improve_9 (by decide) ?_
  refine zv_iconst (v := zI 0) C dL_improve_15 rfl ?_
  exact zv_iret C hr rfl dL_improve_16 ⟨rfl, r4, τ4, hp4, rfl⟩
set_option maxRecDepth 20000 in
theorem w_c_X10_improve {l : Launch} (hfl : l.stackTraces = false) (E : zE) (σ : zS) (ni : Nat) (tx : Nat → Int) (ec : Nat) (eo : Int) (U : zSU) (S : zST) (hh : List zST) (kp : Option zST) (ou : List Nat) (i : Nat) (h : zCP σ (zDv.mk ni tx ec eo U S hh kp ou)) (hi : i < U.nb) (hpos : 0 ≤ (imF U S i (S.tn i)).2.2.2) : zRh l E yL_improve cL_improve 4 [(0, 9, 12, 19)] (zrm 13 328) 0 0 [.ref (ob E 0), .int (zI (i : Int)), .ref (ob E 339)] σ (fun r τ => r = zI 0 ∧ ∃ (v : Int32) (υ : zS), (fun r τ => r = zI (imF U S i (S.tn i)).2.2.2 ∧ zCP τ ((zDv.mk ni tx ec eo U S hh kp ou).re.sS ((S.cel i (imF U S i (S.tn i)).2.1 (imF U S i (S.tn i)).2.2.1 (imF U S i (S.tn i)).2.2.2.toNat).fre i)) ∧ zFr 0 327 σ τ) v υ ∧ τ = sJ υ 339 0 v.toInt64) := by
  refine zMetH hfl (by decide) rfl (Nat.le_of_ble_eq_true rfl) ?_
  intro p e s m args below meth c C hr htab
  refine (?_ : zV p l e _ s m args below meth c 4 E _ 0 0 σ 0 [(0, .ref (ob E 0)), (1, .int (zI (i : Int))), (2, .ref (ob E 339))] [])
  refine zv_aload_n C 2 dL_improve_0 rfl rfl ?_
  refine zv_iconst (v := zI 0) C dL_improve_1 rfl ?_
  refine zv_aload_n C 0 dL_improve_2 rfl rfl ?_
  refine zv_iload_n C 1 dL_improve_3 rfl rfl ?_
  refine zv_cvi (st := [.int (zI 0), .ref (ob E 339)]) C (c_X10_improve hfl E σ ni tx ec eo U S hh kp ou i h hi hpos) mX10_improve kL_127 (by decide : kd 0 = 9) rfl rfl rfl ⟨rfl, rfl⟩ (show zfit (zrm 12 300) 9 (zrm 13 328) = true from rfl) (Nat.le_of_ble_eq_true rfl) dL_improve_4 ⟨Nat.zero_le _, Nat.zero_le _⟩ (fun r4 τ4 hp4 => ?_)
  refine zv_i2l C dL_improve_7 ?_
  refine zv_last (j := 0) C (by decide : kd 339 = _) (zI_ix (by omega)) (by decide) dL_improve_8 ?_
  refine zv_goto (tgt := 15) C dL_improve_9 (by decide) ?_
  refine zv_iconst (v := zI 0) C dL_improve_15 rfl ?_
  exact zv_iret C hr rfl dL_improve_16 ⟨rfl, r4, τ4, hp4, rfl⟩
set_option maxRecDepth 20000 in
theorem w_x1_X10_improve {l : Launch} (hfl : l.stackTraces = false) (E : zE) (σ : zS) (U : zSU) (b : Int) (hU : zSUp σ 29 U) (hbi : -2147483648 ≤ b ∧ b < 2147483648) (hno : ¬ (0 ≤ b ∧ b < U.nb)) : zRh l E yL_improve cL_improve 4 [(0, 9, 12, 19)] (zrx 10 228) 1 6 [.ref (ob E 0), .int (zI b), .ref (ob E 339)] σ (fun r τ => r = zI 1 ∧ (fun u => u = σ) τ) := by
  refine zMetH hfl (by decide) rfl (Nat.le_of_ble_eq_true rfl) ?_
  intro p e s m args below meth c C hr htab
  refine (?_ : zV p l e _ s m args below meth c 4 E _ 0 0 σ 0 [(0, .ref (ob E 0)), (1, .int (zI b)), (2, .ref (ob E 339))] [])
  have hpass : ∀ z ∈ tableOf [], z.catchType ≠ 0 ∧ ∃ nm' : String, Cond.classLink RL z.catchType nm' ∈ zT ∧ ("java/lang/IndexOutOfBoundsException", nm') ∈ zNc := fun z hz => by
    cases hz
  refine zv_aload_n C 2 dL_improve_0 rfl rfl ?_
  refine zv_iconst (v := zI 0) C dL_improve_1 rfl ?_
  refine zv_aload_n C 0 dL_improve_2 rfl rfl ?_
  refine zv_iload_n C 1 dL_improve_3 rfl rfl ?_
  refine zv_xcatch (st := [.int (zI 0), .ref (ob E 339)]) C (x1_X10_improve hfl E σ U b hU hbi hno) (pre := tableOf []) (suf := tableOf []) (x := ⟨0, 9, 12, 19⟩) htab hpass (by decide) (by decide) zcl_19 zca_19 mX10_improve kL_127 (by decide : kd 0 = 9) rfl rfl rfl ⟨rfl, rfl⟩ (show zfit (zrx 9 200) 9 (zrx 10 228) = true from rfl) (Nat.le_of_ble_eq_true rfl) dL_improve_4 ⟨Nat.le_of_ble_eq_true rfl, Nat.le_of_ble_eq_true rfl⟩ (fun q9 τ9 hp9 => ?_)
  refine zv_astore_n (lv' := [(3, .ref q9), (0, .ref (ob E 0)), (1, .int (zI b)), (2, .ref (ob E 339))]) C dL_improve_12 rfl (by decide) rfl ?_
  refine zv_iconst (v := zI 1) C dL_improve_13 rfl ?_
  exact zv_iretN C hr rfl dL_improve_14 ⟨rfl, hp9⟩
set_option maxRecDepth 20000 in
theorem w_c_X10_swapTrains {l : Launch} (hfl : l.stackTraces = false) (E : zE) (σ : zS) (ni : Nat) (tx : Nat → Int) (ec : Nat) (eo : Int) (U : zSU) (S : zST) (hh : List zST) (kp : Option zST) (ou : List Nat) (i o : Nat) (h : zCP σ (zDv.mk ni tx ec eo U S hh kp ou)) (hi : i < U.nb) (ho : o < U.nb) (hio : i ≠ o) : zRh l E yL_swapTrains cL_swapTrains 5 [(0, 10, 13, 19), (0, 10, 17, 13)] (zrm 5 146) 0 0 [.ref (ob E 0), .int (zI (i : Int)), .int (zI (o : Int)), .ref (ob E 339)] σ (fun r τ => r = zI 0 ∧ ∃ (v : Int32) (υ : zS), (fun r τ => r = zI (S.tn o : Int) ∧ zCP τ ((zDv.mk ni tx ec eo U S hh kp ou).re.sS (S.swp i o)) ∧ zFr 0 327 σ τ) v υ ∧ τ = sJ υ 339 0 v.toInt64) := by
  refine zMetH hfl (by decide) rfl (Nat.le_of_ble_eq_true rfl) ?_
  intro p e s m args below meth c C hr htab
  refine (?_ : zV p l e _ s m args below meth c 5 E _ 0 0 σ 0 [(0, .ref (ob E 0)), (1, .int (zI (i : Int))), (2, .int (zI (o : Int))), (3, .ref (ob E 339))] [])
  refine zv_aload_n C 3 dL_swapTrains_0 rfl rfl ?_
  refine zv_iconst (v := zI 0) C dL_swapTrains_1 rfl ?_
  refine zv_aload_n C 0 dL_swapTrains_2 rfl rfl ?_
  refine zv_iload_n C 1 dL_swapTrains_3 rfl rfl ?_
  refine zv_iload_n C 2 dL_swapTrains_4 rfl rfl ?_
  refine zv_cvi (st := [.int (zI 0), .ref (ob E 339)]) C (c_X10_swapTrains hfl E σ ni tx ec eo U S hh kp ou i o h hi ho hio) mX10_swapTrains kL_130 (by decide : kd 0 = 9) rfl rfl rfl ⟨rfl, rfl⟩ (show zfit (zrm 4 124) 3 (zrm 5 146) = true from rfl) (Nat.le_of_ble_eq_true rfl) dL_swapTrains_5 ⟨Nat.zero_le _, Nat.zero_le _⟩ (fun r5 τ5 hp5 => ?_)
  refine zv_i2l C dL_swapTrains_8 ?_
  refine zv_last (j := 0) C (by decide : kd 339 = _) (zI_ix (by omega)) (by decide) dL_swapTrains_9 ?_
  refine zv_goto (tgt := 21) C dL_swapTrains_10 (by decide) ?_
  refine zv_iconst (v := zI 0) C dL_swapTrains_21 rfl ?_
  exact zv_iret C hr rfl dL_swapTrains_22 ⟨rfl, r5, τ5, hp5, rfl⟩
set_option maxRecDepth 20000 in
theorem w_x1_X10_swapTrains {l : Launch} (hfl : l.stackTraces = false) (E : zE) (σ : zS) (U : zSU) (y z : Int) (hU : zSUp σ 29 U) (hyi : -2147483648 ≤ y ∧ y < 2147483648) (hzi : -2147483648 ≤ z ∧ z < 2147483648) (hno : ¬ (0 ≤ y ∧ y < U.nb)) : zRh l E yL_swapTrains cL_swapTrains 5 [(0, 10, 13, 19), (0, 10, 17, 13)] (zrx 10 222) 1 6 [.ref (ob E 0), .int (zI y), .int (zI z), .ref (ob E 339)] σ (fun r τ => r = zI 1 ∧ (fun u => u = σ) τ) := by
  refine zMetH hfl (by decide) rfl (Nat.le_of_ble_eq_true rfl) ?_
  intro p e s m args below meth c C hr htab
  refine (?_ : zV p l e _ s m args below meth c 5 E _ 0 0 σ 0 [(0, .ref (ob E 0)), (1, .int (zI y)), (2, .int (zI z)), (3, .ref (ob E 339))] [])
  have hpass : ∀ z ∈ tableOf [], z.catchType ≠ 0 ∧ ∃ nm' : String, Cond.classLink RL z.catchType nm' ∈ zT ∧ ("java/lang/IndexOutOfBoundsException", nm') ∈ zNc := fun z hz => by
    cases hz
  refine zv_aload_n C 3 dL_swapTrains_0 rfl rfl ?_
  refine zv_iconst (v := zI 0) C dL_swapTrains_1 rfl ?_
  refine zv_aload_n C 0 dL_swapTrains_2 rfl rfl ?_
  refine zv_iload_n C 1 dL_swapTrains_3 rfl rfl ?_
  refine zv_iload_n C 2 dL_swapTrains_4 rfl rfl ?_
  refine zv_xcatch (st := [.int (zI 0), .ref (ob E 339)]) C (x1_X10_swapTrains hfl E σ U y z hU hyi hzi hno) (pre := tableOf []) (suf := tableOf [(0, 10, 17, 13)]) (x := ⟨0, 10, 13, 19⟩) htab hpass (by decide) (by decide) zcl_19 zca_19 mX10_swapTrains kL_130 (by decide : kd 0 = 9) rfl rfl rfl ⟨rfl, rfl⟩ (show zfit (zrx 9 200) 3 (zrx 10 222) = true from rfl) (Nat.le_of_ble_eq_true rfl) dL_swapTrains_5 ⟨Nat.le_of_ble_eq_true rfl, Nat.le_of_ble_eq_true rfl⟩ (fun q9 τ9 hp9 => ?_)
  refine zv_astore (lv' := [(4, .ref q9), (0, .ref (ob E 0)), (1, .int (zI y)), (2, .int (zI z)), (3, .ref (ob E 339))]) C dL_swapTrains_13  (by decide) rfl ?_
  refine zv_iconst (v := zI 1) C dL_swapTrains_15 rfl ?_
  exact zv_iretN C hr rfl dL_swapTrains_16 ⟨rfl, hp9⟩
set_option maxRecDepth 20000 in
theorem w_x2_X10_swapTrains {l : Launch} (hfl : l.stackTraces = false) (E : zE) (σ : zS) (U : zSU) (y z : Int) (hU : zSUp σ 29 U) (hyi : -2147483648 ≤ y ∧ y < 2147483648) (hzi : -2147483648 ≤ z ∧ z < 2147483648) (hy : 0 ≤ y ∧ y < U.nb) (hno : ¬ (0 ≤ z ∧ z < U.nb)) : zRh l E yL_swapTrains cL_swapTrains 5 [(0, 10, 13, 19), (0, 10, 17, 13)] (zrx 10 222) 1 6 [.ref (ob E 0), .int (zI y), .int (zI z), .ref (ob E 339)] σ (fun r τ => r = zI 1 ∧ (fun u => u = σ) τ) := by
  refine zMetH hfl (by decide) rfl (Nat.le_of_ble_eq_true rfl) ?_
  intro p e s m args below meth c C hr htab
  refine (?_ : zV p l e _ s m args below meth c 5 E _ 0 0 σ 0 [(0, .ref (ob E 0)), (1, .int (zI y)), (2, .int (zI z)), (3, .ref (ob E 339))] [])
  have hpass : ∀ z ∈ tableOf [], z.catchType ≠ 0 ∧ ∃ nm' : String, Cond.classLink RL z.catchType nm' ∈ zT ∧ ("java/lang/IndexOutOfBoundsException", nm') ∈ zNc := fun z hz => by
    cases hz
  refine zv_aload_n C 3 dL_swapTrains_0 rfl rfl ?_
  refine zv_iconst (v := zI 0) C dL_swapTrains_1 rfl ?_
  refine zv_aload_n C 0 dL_swapTrains_2 rfl rfl ?_
  refine zv_iload_n C 1 dL_swapTrains_3 rfl rfl ?_
  refine zv_iload_n C 2 dL_swapTrains_4 rfl rfl ?_
  refine zv_xcatch (st := [.int (zI 0), .ref (ob E 339)]) C (x2_X10_swapTrains hfl E σ U y z hU hyi hzi hy hno) (pre := tableOf []) (suf := tableOf [(0, 10, 17, 13)]) (x := ⟨0, 10, 13, 19⟩) htab hpass (by decide) (by decide) zcl_19 zca_19 mX10_swapTrains kL_130 (by decide : kd 0 = 9) rfl rfl rfl ⟨rfl, rfl⟩ (show zfit (zrx 9 200) 3 (zrx 10 222) = true from rfl) (Nat.le_of_ble_eq_true rfl) dL_swapTrains_5 ⟨Nat.le_of_ble_eq_true rfl, Nat.le_of_ble_eq_true rfl⟩ (fun q9 τ9 hp9 => ?_)
  refine zv_astore (lv' := [(4, .ref q9), (0, .ref (ob E 0)), (1, .int (zI y)), (2, .int (zI z)), (3, .ref (ob E 339))]) C dL_swapTrains_13  (by decide) rfl ?_
  refine zv_iconst (v := zI 1) C dL_swapTrains_15 rfl ?_
  exact zv_iretN C hr rfl dL_swapTrains_16 ⟨rfl, hp9⟩
set_option maxRecDepth 20000 in
theorem w_x3_X10_swapTrains {l : Launch} (hfl : l.stackTraces = false) (E : zE) (σ : zS) (U : zSU) (y : Int) (hU : zSUp σ 29 U) (hyi : -2147483648 ≤ y ∧ y < 2147483648) (hy : 0 ≤ y ∧ y < U.nb) : zRh l E yL_swapTrains cL_swapTrains 5 [(0, 10, 13, 19), (0, 10, 17, 13)] (zrx 10 222) 1 6 [.ref (ob E 0), .int (zI y), .int (zI y), .ref (ob E 339)] σ (fun r τ => r = zI 2 ∧ (fun u => u = σ) τ) := by
  refine zMetH hfl (by decide) rfl (Nat.le_of_ble_eq_true rfl) ?_
  intro p e s m args below meth c C hr htab
  refine (?_ : zV p l e _ s m args below meth c 5 E _ 0 0 σ 0 [(0, .ref (ob E 0)), (1, .int (zI y)), (2, .int (zI y)), (3, .ref (ob E 339))] [])
  have hpass : ∀ z ∈ tableOf [(0, 10, 13, 19)], z.catchType ≠ 0 ∧ ∃ nm' : String, Cond.classLink RL z.catchType nm' ∈ zT ∧ ("java/lang/IllegalArgumentException", nm') ∈ zNc := fun z hz => by
    simp only [tableOf, List.map_cons, List.map_nil, List.mem_cons, List.not_mem_nil, or_false] at hz
    rcases hz with rfl
    · exact ⟨by decide, "java/lang/IndexOutOfBoundsException", zcl_19, by decide⟩
  refine zv_aload_n C 3 dL_swapTrains_0 rfl rfl ?_
  refine zv_iconst (v := zI 0) C dL_swapTrains_1 rfl ?_
  refine zv_aload_n C 0 dL_swapTrains_2 rfl rfl ?_
  refine zv_iload_n C 1 dL_swapTrains_3 rfl rfl ?_
  refine zv_iload_n C 2 dL_swapTrains_4 rfl rfl ?_
  refine zv_xcatch (st := [.int (zI 0), .ref (ob E 339)]) C (x3_X10_swapTrains hfl E σ U y hU hyi hy) (pre := tableOf [(0, 10, 13, 19)]) (suf := tableOf []) (x := ⟨0, 10, 17, 13⟩) htab hpass (by decide) (by decide) zcl_13 zca_13 mX10_swapTrains kL_130 (by decide : kd 0 = 9) rfl rfl rfl ⟨rfl, rfl⟩ (show zfit (zrx 9 200) 3 (zrx 10 222) = true from rfl) (Nat.le_of_ble_eq_true rfl) dL_swapTrains_5 ⟨Nat.le_of_ble_eq_true rfl, Nat.le_of_ble_eq_true rfl⟩ (fun q9 τ9 hp9 => ?_)
  refine zv_astore (lv' := [(4, .ref q9), (0, .ref (ob E 0)), (1, .int (zI y)), (2, .int (zI y)), (3, .ref (ob E 339))]) C dL_swapTrains_17  (by decide) rfl ?_
  refine zv_iconst (v := zI 2) C dL_swapTrains_19 rfl ?_
  exact zv_iretN C hr rfl dL_swapTrains_20 ⟨rfl, hp9⟩
set_option maxRecDepth 20000 in
theorem w_c_X10_copyTrain {l : Launch} (hfl : l.stackTraces = false) (E : zE) (σ : zS) (ni : Nat) (tx : Nat → Int) (ec : Nat) (eo : Int) (U : zSU) (S : zST) (hh : List zST) (kp : Option zST) (ou : List Nat) (i o : Nat) (h : zCP σ (zDv.mk ni tx ec eo U S hh kp ou)) (hi : i < U.nb) (ho : o < U.nb) (hio : i ≠ o) : zRh l E yL_copyTrain cL_copyTrain 5 [(0, 10, 13, 19), (0, 10, 17, 13)] (zrm 5 146) 0 0 [.ref (ob E 0), .int (zI (i : Int)), .int (zI (o : Int)), .ref (ob E 339)] σ (fun r τ => r = zI 0 ∧ ∃ (v : Int32) (υ : zS), (fun r τ => r = zI (S.tn i : Int) ∧ zCP τ ((zDv.mk ni tx ec eo U S hh kp ou).re.sS (S.cpt i o)) ∧ zFr 0 327 σ τ) v υ ∧ τ = sJ υ 339 0 v.toInt64) := by
  refine zMetH hfl (by decide) rfl (Nat.le_of_ble_eq_true rfl) ?_
  intro p e s m args below meth c C hr htab
  refine (?_ : zV p l e _ s m args below meth c 5 E _ 0 0 σ 0 [(0, .ref (ob E 0)), (1, .int (zI (i : Int))), (2, .int (zI (o : Int))), (3, .ref (ob E 339))] [])
  refine zv_aload_n C 3 dL_copyTrain_0 rfl rfl ?_
  refine zv_iconst (v := zI 0) C dL_copyTrain_1 rfl ?_
  refine zv_aload_n C 0 dL_copyTrain_2 rfl rfl ?_
  refine zv_iload_n C 1 dL_copyTrain_3 rfl rfl ?_
  refine zv_iload_n C 2 dL_copyTrain_4 rfl rfl ?_
  refine zv_cvi (st := [.int (zI 0), .ref (ob E 339)]) C (c_X10_copyTrain hfl E σ ni tx ec eo U S hh kp ou i o h hi ho hio) mX10_copyTrain kL_133 (by decide : kd 0 = 9) rfl rfl rfl ⟨rfl, rfl⟩ (show zfit (zrm 4 124) 3 (zrm 5 146) = true from rfl) (Nat.le_of_ble_eq_true rfl) dL_copyTrain_5 ⟨Nat.zero_le _, Nat.zero_le _⟩ (fun r5 τ5 hp5 => ?_)
  refine zv_i2l C dL_copyTrain_8 ?_
  refine zv_last (j := 0) C (by decide : kd 339 = _) (zI_ix (by omega)) (by decide) dL_copyTrain_9 ?_
  refine zv_goto (tgt := 21) C dL_copyTrain_10 (by decide) ?_
  refine zv_iconst (v := zI 0) C dL_copyTrain_21 rfl ?_
  exact zv_iret C hr rfl dL_copyTrain_22 ⟨rfl, r5, τ5, hp5, rfl⟩
set_option maxRecDepth 20000 in
theorem w_x1_X10_copyTrain {l : Launch} (hfl : l.stackTraces = false) (E : zE) (σ : zS) (U : zSU) (y z : Int) (hU : zSUp σ 29 U) (hyi : -2147483648 ≤ y ∧ y < 2147483648) (hzi : -2147483648 ≤ z ∧ z < 2147483648) (hno : ¬ (0 ≤ y ∧ y < U.nb)) : zRh l E yL_copyTrain cL_copyTrain 5 [(0, 10, 13, 19), (0, 10, 17, 13)] (zrx 10 222) 1 6 [.ref (ob E 0), .int (zI y), .int (zI z), .ref (ob E 339)] σ (fun r τ => r = zI 1 ∧ (fun u => u = σ) τ) := by
  refine zMetH hfl (by decide) rfl (Nat.le_of_ble_eq_true rfl) ?_
  intro p e s m args below meth c C hr htab
  refine (?_ : zV p l e _ s m args below meth c 5 E _ 0 0 σ 0 [(0, .ref (ob E 0)), (1, .int (zI y)), (2, .int (zI z)), (3, .ref (ob E 339))] [])
  have hpass : ∀ z ∈ tableOf [], z.catchType ≠ 0 ∧ ∃ nm' : String, Cond.classLink RL z.catchType nm' ∈ zT ∧ ("java/lang/IndexOutOfBoundsException", nm') ∈ zNc := fun z hz => by
    cases hz
  refine zv_aload_n C 3 dL_copyTrain_0 rfl rfl ?_
  refine zv_iconst (v := zI 0) C dL_copyTrain_1 rfl ?_
  refine zv_aload_n C 0 dL_copyTrain_2 rfl rfl ?_
  refine zv_iload_n C 1 dL_copyTrain_3 rfl rfl ?_
  refine zv_iload_n C 2 dL_copyTrain_4 rfl rfl ?_
  refine zv_xcatch (st := [.int (zI 0), .ref (ob E 339)]) C (x1_X10_copyTrain hfl E σ U y z hU hyi hzi hno) (pre := tableOf []) (suf := tableOf [(0, 10, 17, 13)]) (x := ⟨0, 10, 13, 19⟩) htab hpass (by decide) (by decide) zcl_19 zca_19 mX10_copyTrain kL_133 (by decide : kd 0 = 9) rfl rfl rfl ⟨rfl, rfl⟩ (show zfit (zrx 9 200) 3 (zrx 10 222) = true from rfl) (Nat.le_of_ble_eq_true rfl) dL_copyTrain_5 ⟨Nat.le_of_ble_eq_true rfl, Nat.le_of_ble_eq_true rfl⟩ (fun q9 τ9 hp9 => ?_)
  refine zv_astore (lv' := [(4, .ref q9), (0, .ref (ob E 0)), (1, .int (zI y)), (2, .int (zI z)), (3, .ref (ob E 339))]) C dL_copyTrain_13  (by decide) rfl ?_
  refine zv_iconst (v := zI 1) C dL_copyTrain_15 rfl ?_
  exact zv_iretN C hr rfl dL_copyTrain_16 ⟨rfl, hp9⟩
set_option maxRecDepth 20000 in
theorem w_x2_X10_copyTrain {l : Launch} (hfl : l.stackTraces = false) (E : zE) (σ : zS) (U : zSU) (y z : Int) (hU : zSUp σ 29 U) (hyi : -2147483648 ≤ y ∧ y < 2147483648) (hzi : -2147483648 ≤ z ∧ z < 2147483648) (hy : 0 ≤ y ∧ y < U.nb) (hno : ¬ (0 ≤ z ∧ z < U.nb)) : zRh l E yL_copyTrain cL_copyTrain 5 [(0, 10, 13, 19), (0, 10, 17, 13)] (zrx 10 222) 1 6 [.ref (ob E 0), .int (zI y), .int (zI z), .ref (ob E 339)] σ (fun r τ => r = zI 1 ∧ (fun u => u = σ) τ) := by
  refine zMetH hfl (by decide) rfl (Nat.le_of_ble_eq_true rfl) ?_
  intro p e s m args below meth c C hr htab
  refine (?_ : zV p l e _ s m args below meth c 5 E _ 0 0 σ 0 [(0, .ref (ob E 0)), (1, .int (zI y)), (2, .int (zI z)), (3, .ref (ob E 339))] [])
  have hpass : ∀ z ∈ tableOf [], z.catchType ≠ 0 ∧ ∃ nm' : String, Cond.classLink RL z.catchType nm' ∈ zT ∧ ("java/lang/IndexOutOfBoundsException", nm') ∈ zNc := fun z hz => by
    cases hz
  refine zv_aload_n C 3 dL_copyTrain_0 rfl rfl ?_
  refine zv_iconst (v := zI 0) C dL_copyTrain_1 rfl ?_
  refine zv_aload_n C 0 dL_copyTrain_2 rfl rfl ?_
  refine zv_iload_n C 1 dL_copyTrain_3 rfl rfl ?_
  refine zv_iload_n C 2 dL_copyTrain_4 rfl rfl ?_
  refine zv_xcatch (st := [.int (zI 0), .ref (ob E 339)]) C (x2_X10_copyTrain hfl E σ U y z hU hyi hzi hy hno) (pre := tableOf []) (suf := tableOf [(0, 10, 17, 13)]) (x := ⟨0, 10, 13, 19⟩) htab hpass (by decide) (by decide) zcl_19 zca_19 mX10_copyTrain kL_133 (by decide : kd 0 = 9) rfl rfl rfl ⟨rfl, rfl⟩ (show zfit (zrx 9 200) 3 (zrx 10 222) = true from rfl) (Nat.le_of_ble_eq_true rfl) dL_copyTrain_5 ⟨Nat.le_of_ble_eq_true rfl, Nat.le_of_ble_eq_true rfl⟩ (fun q9 τ9 hp9 => ?_)
  refine zv_astore (lv' := [(4, .ref q9), (0, .ref (ob E 0)), (1, .int (zI y)), (2, .int (zI z)), (3, .ref (ob E 339))]) C dL_copyTrain_13  (by decide) rfl ?_
  refine zv_iconst (v := zI 1) C dL_copyTrain_15 rfl ?_
  exact zv_iretN C hr rfl dL_copyTrain_16 ⟨rfl, hp9⟩
set_option maxRecDepth 20000 in
theorem w_x3_X10_copyTrain {l : Launch} (hfl : l.stackTraces = false) (E : zE) (σ : zS) (U : zSU) (y : Int) (hU : zSUp σ 29 U) (hyi : -2147483648 ≤ y ∧ y < 2147483648) (hy : 0 ≤ y ∧ y < U.nb) : zRh l E yL_copyTrain cL_copyTrain 5 [(0, 10, 13, 19), (0, 10, 17, 13)] (zrx 10 222) 1 6 [.ref (ob E 0), .int (zI y), .int (zI y), .ref (ob E 339)] σ (fun r τ => r = zI 2 ∧ (fun u => u = σ) τ) := by
  refine zMetH hfl (by decide) rfl (Nat.le_of_ble_eq_true rfl) ?_
  intro p e s m args below meth c C hr htab
  refine (?_ : zV p l e _ s m args below meth c 5 E _ 0 0 σ 0 [(0, .ref (ob E 0)), (1, .int (zI y)), (2, .int (zI y)), (3, .ref (ob E 339))] [])
  have hpass : ∀ z ∈ tableOf [(0, 10, 13, 19)], z.catchType ≠ 0 ∧ ∃ nm' : String, Cond.classLink RL z.catchType nm' ∈ zT ∧ ("java/lang/IllegalArgumentException", nm') ∈ zNc := fun z hz => by
    simp only [tableOf, List.map_cons, List.map_nil, List.mem_cons, List.not_mem_nil, or_false] at hz
    rcases hz with rfl
    · exact ⟨by decide, "java/lang/IndexOutOfBoundsException", zcl_19, by decide⟩
  refine zv_aload_n C 3 dL_copyTrain_0 rfl rfl ?_
  refine zv_iconst (v := zI 0) C dL_copyTrain_1 rfl ?_
  refine zv_aload_n C 0 dL_copyTrain_2 rfl rfl ?_
  refine zv_iload_n C 1 dL_copyTrain_3 rfl rfl ?_
  refine zv_iload_n C 2 dL_copyTrain_4 rfl rfl ?_
  refine zv_xcatch (st := [.int (zI 0), .ref (ob E 339)]) C (x3_X10_copyTrain hfl E σ U y hU hyi hy) (pre := tableOf [(0, 10, 13, 19)]) (suf := tableOf []) (x := ⟨0, 10, 17, 13⟩) htab hpass (by decide) (by decide) zcl_13 zca_13 mX10_copyTrain kL_133 (by decide : kd 0 = 9) rfl rfl rfl ⟨rfl, rfl⟩ (show zfit (zrx 9 200) 3 (zrx 10 222) = true from rfl) (Nat.le_of_ble_eq_true rfl) dL_copyTrain_5 ⟨Nat.le_of_ble_eq_true rfl, Nat.le_of_ble_eq_true rfl⟩ (fun q9 τ9 hp9 => ?_)
  refine zv_astore (lv' := [(4, .ref q9), (0, .ref (ob E 0)), (1, .int (zI y)), (2, .int (zI y)), (3, .ref (ob E 339))]) C dL_copyTrain_17  (by decide) rfl ?_
  refine zv_iconst (v := zI 2) C dL_copyTrain_19 rfl ?_
  exact zv_iretN C hr rfl dL_copyTrain_20 ⟨rfl, hp9⟩
set_option maxRecDepth 20000 in
theorem w_c_X10_worstYear {l : Launch} (hfl : l.stackTraces = false) (E : zE) (σ : zS) (U : zSU) (S : zST) (i : Nat) (a b : Int) (hU : zSUp σ 29 U) (hS : zSTp σ 34 S) (hi : i < U.nb) (ha : U.s0 ≤ a ∧ a ≤ U.s0 + 999) (hb : U.s0 ≤ b ∧ b ≤ U.s0 + 999) (hle : a ≤ b) : zRh l E yL_worstYear cL_worstYear 6 [(0, 12, 15, 19), (0, 12, 19, 13)] (zrm 6 156) 0 0 [.ref (ob E 0), .int (zI (i : Int)), .int (zI a), .int (zI b), .ref (ob E 339)] σ (fun r τ => r = zI 0 ∧ ∃ (v : Int32) (υ : zS), (fun r τ => r = zI (dWy U S i a ((b - a).toNat + 1)).1 ∧ τ = (rW σ 322 (qDrift U S i).1 (qDrift U S i).2)) v υ ∧ τ = sJ υ 339 0 v.toInt64) := by
  refine zMetH hfl (by decide) rfl (Nat.le_of_ble_eq_true rfl) ?_
  intro p e s m args below meth c C hr htab
  refine (?_ : zV p l e _ s m args below meth c 6 E _ 0 0 σ 0 [(0, .ref (ob E 0)), (1, .int (zI (i : Int))), (2, .int (zI a)), (3, .int (zI b)), (4, .ref (ob E 339))] [])
  refine zv_aload C 4 dL_worstYear_0 rfl ?_
  refine zv_iconst (v := zI 0) C dL_worstYear_2 rfl ?_
  refine zv_aload_n C 0 dL_worstYear_3 rfl rfl ?_
  refine zv_iload_n C 1 dL_worstYear_4 rfl rfl ?_
  refine zv_iload_n C 2 dL_worstYear_5 rfl rfl ?_
  refine zv_iload_n C 3 dL_worstYear_6 rfl rfl ?_
  refine zv_cvi (st := [.int (zI 0), .ref (ob E 339)]) C (c_X10_worstYear hfl E σ U S i a b hU hS hi ha hb hle) mX10_worstYear kL_136 (by decide : kd 0 = 9) rfl rfl rfl ⟨rfl, rfl⟩ (show zfit (zrm 5 126) 11 (zrm 6 156) = true from rfl) (Nat.le_of_ble_eq_true rfl) dL_worstYear_7 ⟨Nat.zero_le _, Nat.zero_le _⟩ (fun r7 τ7 hp7 => ?_)
  refine zv_i2l C dL_worstYear_10 ?_
  refine zv_last (j := 0) C (by decide : kd 339 = _) (zI_ix (by omega)) (by decide) dL_worstYear_11 ?_
  refine zv_goto (tgt := 23) C dL_worstYear_12 (by decide) ?_
  refine zv_iconst (v := zI 0) C dL_worstYear_23 rfl ?_
  exact zv_iret C hr rfl dL_worstYear_24 ⟨rfl, r7, τ7, hp7, rfl⟩
set_option maxRecDepth 20000 in
theorem w_x1_X10_worstYear {l : Launch} (hfl : l.stackTraces = false) (E : zE) (σ : zS) (U : zSU) (b : Int) (y : Int) (z : Int) (hU : zSUp σ 29 U) (hbi : -2147483648 ≤ b ∧ b < 2147483648) (hno : ¬ (0 ≤ b ∧ b < U.nb)) : zRh l E yL_worstYear cL_worstYear 6 [(0, 12, 15, 19), (0, 12, 19, 13)] (zrx 12 290) 1 6 [.ref (ob E 0), .int (zI b), .int (zI y), .int (zI z), .ref (ob E 339)] σ (fun r τ => r = zI 1 ∧ (fun u => u = σ) τ) := by
  refine zMetH hfl (by decide) rfl (Nat.le_of_ble_eq_true rfl) ?_
  intro p e s m args below meth c C hr htab
  refine (?_ : zV p l e _ s m args below meth c 6 E _ 0 0 σ 0 [(0, .ref (ob E 0)), (1, .int (zI b)), (2, .int (zI y)), (3, .int (zI z)), (4, .ref (ob E 339))] [])
  have hpass : ∀ z ∈ tableOf [], z.catchType ≠ 0 ∧ ∃ nm' : String, Cond.classLink RL z.catchType nm' ∈ zT ∧ ("java/lang/IndexOutOfBoundsException", nm') ∈ zNc := fun z hz => by
    cases hz
  refine zv_aload C 4 dL_worstYear_0 rfl ?_
  refine zv_iconst (v := zI 0) C dL_worstYear_2 rfl ?_
  refine zv_aload_n C 0 dL_worstYear_3 rfl rfl ?_
  refine zv_iload_n C 1 dL_worstYear_4 rfl rfl ?_
  refine zv_iload_n C 2 dL_worstYear_5 rfl rfl ?_
  refine zv_iload_n C 3 dL_worstYear_6 rfl rfl ?_
  refine zv_xcatch (st := [.int (zI 0), .ref (ob E 339)]) C (x1_X10_worstYear hfl E σ U b y z hU hbi hno) (pre := tableOf []) (suf := tableOf [(0, 12, 19, 13)]) (x := ⟨0, 12, 15, 19⟩) htab hpass (by decide) (by decide) zcl_19 zca_19 mX10_worstYear kL_136 (by decide : kd 0 = 9) rfl rfl rfl ⟨rfl, rfl⟩ (show zfit (zrx 11 260) 11 (zrx 12 290) = true from rfl) (Nat.le_of_ble_eq_true rfl) dL_worstYear_7 ⟨Nat.le_of_ble_eq_true rfl, Nat.le_of_ble_eq_true rfl⟩ (fun q9 τ9 hp9 => ?_)
  refine zv_astore (lv' := [(5, .ref q9), (0, .ref (ob E 0)), (1, .int (zI b)), (2, .int (zI y)), (3, .int (zI z)), (4, .ref (ob E 339))]) C dL_worstYear_15  (by decide) rfl ?_
  refine zv_iconst (v := zI 1) C dL_worstYear_17 rfl ?_
  exact zv_iretN C hr rfl dL_worstYear_18 ⟨rfl, hp9⟩
set_option maxRecDepth 20000 in
theorem w_x2_X10_worstYear {l : Launch} (hfl : l.stackTraces = false) (E : zE) (σ : zS) (U : zSU) (i : Nat) (y z : Int) (hU : zSUp σ 29 U) (hi : i < U.nb) (hyi : -2147483648 ≤ y ∧ y < 2147483648) (hzi : -2147483648 ≤ z ∧ z < 2147483648) (hno : ¬ (U.s0 ≤ y ∧ y ≤ U.s0 + 999)) : zRh l E yL_worstYear cL_worstYear 6 [(0, 12, 15, 19), (0, 12, 19, 13)] (zrx 12 290) 1 6 [.ref (ob E 0), .int (zI (i : Int)), .int (zI y), .int (zI z), .ref (ob E 339)] σ (fun r τ => r = zI 2 ∧ (fun u => u = σ) τ) := by
  refine zMetH hfl (by decide) rfl (Nat.le_of_ble_eq_true rfl) ?_
  intro p e s m args below meth c C hr htab
  refine (?_ : zV p l e _ s m args below meth c 6 E _ 0 0 σ 0 [(0, .ref (ob E 0)), (1, .int (zI (i : Int))), (2, .int (zI y)), (3, .int (zI z)), (4, .ref (ob E 339))] [])
  have hpass : ∀ z ∈ tableOf [(0, 12, 15, 19)], z.catchType ≠ 0 ∧ ∃ nm' : String, Cond.classLink RL z.catchType nm' ∈ zT ∧ ("java/lang/IllegalArgumentException", nm') ∈ zNc := fun z hz => by
    simp only [tableOf, List.map_cons, List.map_nil, List.mem_cons, List.not_mem_nil, or_false] at hz
    rcases hz with rfl
    · exact ⟨by decide, "java/lang/IndexOutOfBoundsException", zcl_19, by decide⟩
  refine zv_aload C 4 dL_worstYear_0 rfl ?_
  refine zv_iconst (v := zI 0) C dL_worstYear_2 rfl ?_
  refine zv_aload_n C 0 dL_worstYear_3 rfl rfl ?_
  refine zv_iload_n C 1 dL_worstYear_4 rfl rfl ?_
  refine zv_iload_n C 2 dL_worstYear_5 rfl rfl ?_
  refine zv_iload_n C 3 dL_worstYear_6 rfl rfl ?_
  refine zv_xcatch (st := [.int (zI 0), .ref (ob E 339)]) C (x2_X10_worstYear hfl E σ U i y z hU hi hyi hzi hno) (pre := tableOf [(0, 12, 15, 19)]) (suf := tableOf []) (x := ⟨0, 12, 19, 13⟩) htab hpass (by decide) (by decide) zcl_13 zca_13 mX10_worstYear kL_136 (by decide : kd 0 = 9) rfl rfl rfl ⟨rfl, rfl⟩ (show zfit (zrx 11 260) 11 (zrx 12 290) = true from rfl) (Nat.le_of_ble_eq_true rfl) dL_worstYear_7 ⟨Nat.le_of_ble_eq_true rfl, Nat.le_of_ble_eq_true rfl⟩ (fun q9 τ9 hp9 => ?_)
  refine zv_astore (lv' := [(5, .ref q9), (0, .ref (ob E 0)), (1, .int (zI (i : Int))), (2, .int (zI y)), (3, .int (zI z)), (4, .ref (ob E 339))]) C dL_worstYear_19  (by decide) rfl ?_
  refine zv_iconst (v := zI 2) C dL_worstYear_21 rfl ?_
  exact zv_iretN C hr rfl dL_worstYear_22 ⟨rfl, hp9⟩
set_option maxRecDepth 20000 in
theorem w_x3_X10_worstYear {l : Launch} (hfl : l.stackTraces = false) (E : zE) (σ : zS) (U : zSU) (i : Nat) (y z : Int) (hU : zSUp σ 29 U) (hi : i < U.nb) (hyi : -2147483648 ≤ y ∧ y < 2147483648) (hzi : -2147483648 ≤ z ∧ z < 2147483648) (hy : U.s0 ≤ y ∧ y ≤ U.s0 + 999) (hno : ¬ (U.s0 ≤ z ∧ z ≤ U.s0 + 999)) : zRh l E yL_worstYear cL_worstYear 6 [(0, 12, 15, 19), (0, 12, 19, 13)] (zrx 12 290) 1 6 [.ref (ob E 0), .int (zI (i : Int)), .int (zI y), .int (zI z), .ref (ob E 339)] σ (fun r τ => r = zI 2 ∧ (fun u => u = σ) τ) := by
  refine zMetH hfl (by decide) rfl (Nat.le_of_ble_eq_true rfl) ?_
  intro p e s m args below meth c C hr htab
  refine (?_ : zV p l e _ s m args below meth c 6 E _ 0 0 σ 0 [(0, .ref (ob E 0)), (1, .int (zI (i : Int))), (2, .int (zI y)), (3, .int (zI z)), (4, .ref (ob E 339))] [])
  have hpass : ∀ z ∈ tableOf [(0, 12, 15, 19)], z.catchType ≠ 0 ∧ ∃ nm' : String, Cond.classLink RL z.catchType nm' ∈ zT ∧ ("java/lang/IllegalArgumentException", nm') ∈ zNc := fun z hz => by
    simp only [tableOf, List.map_cons, List.map_nil, List.mem_cons, List.not_mem_nil, or_false] at hz
    rcases hz with rfl
    · exact ⟨by decide, "java/lang/IndexOutOfBoundsException", zcl_19, by decide⟩
  refine zv_aload C 4 dL_worstYear_0 rfl ?_
  refine zv_iconst (v := zI 0) C dL_worstYear_2 rfl ?_
  refine zv_aload_n C 0 dL_worstYear_3 rfl rfl ?_
  refine zv_iload_n C 1 dL_worstYear_4 rfl rfl ?_
  refine zv_iload_n C 2 dL_worstYear_5 rfl rfl ?_
  refine zv_iload_n C 3 dL_worstYear_6 rfl rfl ?_
  refine zv_xcatch (st := [.int (zI 0), .ref (ob E 339)]) C (x3_X10_worstYear hfl E σ U i y z hU hi hyi hzi hy hno) (pre := tableOf [(0, 12, 15, 19)]) (suf := tableOf []) (x := ⟨0, 12, 19, 13⟩) htab hpass (by decide) (by decide) zcl_13 zca_13 mX10_worstYear kL_136 (by decide : kd 0 = 9) rfl rfl rfl ⟨rfl, rfl⟩ (show zfit (zrx 11 260) 11 (zrx 12 290) = true from rfl) (Nat.le_of_ble_eq_true rfl) dL_worstYear_7 ⟨Nat.le_of_ble_eq_true rfl, Nat.le_of_ble_eq_true rfl⟩ (fun q9 τ9 hp9 => ?_)
  refine zv_astore (lv' := [(5, .ref q9), (0, .ref (ob E 0)), (1, .int (zI (i : Int))), (2, .int (zI y)), (3, .int (zI z)), (4, .ref (ob E 339))]) C dL_worstYear_19  (by decide) rfl ?_
  refine zv_iconst (v := zI 2) C dL_worstYear_21 rfl ?_
  exact zv_iretN C hr rfl dL_worstYear_22 ⟨rfl, hp9⟩
set_option maxRecDepth 20000 in
theorem w_x4_X10_worstYear {l : Launch} (hfl : l.stackTraces = false) (E : zE) (σ : zS) (U : zSU) (i : Nat) (y z : Int) (hU : zSUp σ 29 U) (hi : i < U.nb) (hyi : -2147483648 ≤ y ∧ y < 2147483648) (hzi : -2147483648 ≤ z ∧ z < 2147483648) (hy : U.s0 ≤ y ∧ y ≤ U.s0 + 999) (hz : U.s0 ≤ z ∧ z ≤ U.s0 + 999) (hno : z < y) : zRh l E yL_worstYear cL_worstYear 6 [(0, 12, 15, 19), (0, 12, 19, 13)] (zrx 12 290) 1 6 [.ref (ob E 0), .int (zI (i : Int)), .int (zI y), .int (zI z), .ref (ob E 339)] σ (fun r τ => r = zI 2 ∧ (fun u => u = σ) τ) := by
  refine zMetH hfl (by decide) rfl (Nat.le_of_ble_eq_true rfl) ?_
  intro p e s m args below meth c C hr htab
  refine (?_ : zV p l e _ s m args below meth c 6 E _ 0 0 σ 0 [(0, .ref (ob E 0)), (1, .int (zI (i : Int))), (2, .int (zI y)), (3, .int (zI z)), (4, .ref (ob E 339))] [])
  have hpass : ∀ z ∈ tableOf [(0, 12, 15, 19)], z.catchType ≠ 0 ∧ ∃ nm' : String, Cond.classLink RL z.catchType nm' ∈ zT ∧ ("java/lang/IllegalArgumentException", nm') ∈ zNc := fun z hz => by
    simp only [tableOf, List.map_cons, List.map_nil, List.mem_cons, List.not_mem_nil, or_false] at hz
    rcases hz with rfl
    · exact ⟨by decide, "java/lang/IndexOutOfBoundsException", zcl_19, by decide⟩
  refine zv_aload C 4 dL_worstYear_0 rfl ?_
  refine zv_iconst (v := zI 0) C dL_worstYear_2 rfl ?_
  refine zv_aload_n C 0 dL_worstYear_3 rfl rfl ?_
  refine zv_iload_n C 1 dL_worstYear_4 rfl rfl ?_
  refine zv_iload_n C 2 dL_worstYear_5 rfl rfl ?_
  refine zv_iload_n C 3 dL_worstYear_6 rfl rfl ?_
  refine zv_xcatch (st := [.int (zI 0), .ref (ob E 339)]) C (x4_X10_worstYear hfl E σ U i y z hU hi hyi hzi hy hz hno) (pre := tableOf [(0, 12, 15, 19)]) (suf := tableOf []) (x := ⟨0, 12, 19, 13⟩) htab hpass (by decide) (by decide) zcl_13 zca_13 mX10_worstYear kL_136 (by decide : kd 0 = 9) rfl rfl rfl ⟨rfl, rfl⟩ (show zfit (zrx 11 260) 11 (zrx 12 290) = true from rfl) (Nat.le_of_ble_eq_true rfl) dL_worstYear_7 ⟨Nat.le_of_ble_eq_true rfl, Nat.le_of_ble_eq_true rfl⟩ (fun q9 τ9 hp9 => ?_)
  refine zv_astore (lv' := [(5, .ref q9), (0, .ref (ob E 0)), (1, .int (zI (i : Int))), (2, .int (zI y)), (3, .int (zI z)), (4, .ref (ob E 339))]) C dL_worstYear_19  (by decide) rfl ?_
  refine zv_iconst (v := zI 2) C dL_worstYear_21 rfl ?_
  exact zv_iretN C hr rfl dL_worstYear_22 ⟨rfl, hp9⟩
set_option maxRecDepth 20000 in
theorem w_c_X10_revolutions {l : Launch} (hfl : l.stackTraces = false) (E : zE) (σ : zS) (U : zSU) (S : zST) (i : Nat) (y : Int) (hU : zSUp σ 29 U) (hS : zSTp σ 34 S) (hi : i < U.nb) (hy : U.s0 ≤ y ∧ y ≤ U.s0 + 999) : zRh l E yL_revolutions cL_revolutions 5 [(0, 9, 12, 19), (0, 9, 16, 13)] (zrm 5 127) 0 0 [.ref (ob E 0), .int (zI (i : Int)), .int (zI y), .ref (ob E 339)] σ (fun r τ => r = zI 0 ∧ ∃ (v : Int64) (υ : zS), (fun r τ => r = zL ((qPtr U S i).1 * yEnd U.s0 y / (qPtr U S i).2) ∧ τ = (rW σ 320 (qPtr U S i).1 (qPtr U S i).2)) v υ ∧ τ = sJ υ 339 0 v) := by
  refine zMetH hfl (by decide) rfl (Nat.le_of_ble_eq_true rfl) ?_
  intro p e s m args below meth c C hr htab
  refine (?_ : zV p l e _ s m args below meth c 5 E _ 0 0 σ 0 [(0, .ref (ob E 0)), (1, .int (zI (i : Int))), (2, .int (zI y)), (3, .ref (ob E 339))] [])
  refine zv_aload_n C 3 dL_revolutions_0 rfl rfl ?_
  refine zv_iconst (v := zI 0) C dL_revolutions_1 rfl ?_
  refine zv_aload_n C 0 dL_revolutions_2 rfl rfl ?_
  refine zv_iload_n C 1 dL_revolutions_3 rfl rfl ?_
  refine zv_iload_n C 2 dL_revolutions_4 rfl rfl ?_
  refine zv_cvl (st := [.int (zI 0), .ref (ob E 339)]) C (c_X10_revolutions hfl E σ U S i y hU hS hi hy) mX10_revolutions kL_139 (by decide : kd 0 = 9) rfl rfl rfl ⟨rfl, rfl⟩ (show zfit (zrm 4 105) 3 (zrm 5 127) = true from rfl) (Nat.le_of_ble_eq_true rfl) dL_revolutions_5 ⟨Nat.zero_le _, Nat.zero_le _⟩ (fun r5 τ5 hp5 => ?_)
  refine zv_last (j := 0) C (by decide : kd 339 = _) (zI_ix (by omega)) (by decide) dL_revolutions_8 ?_
  refine zv_goto (tgt := 20) C dL_revolutions_9 (by decide) ?_
  refine zv_iconst (v := zI 0) C dL_revolutions_20 rfl ?_
  exact zv_iret C hr rfl dL_revolutions_21 ⟨rfl, r5, τ5, hp5, rfl⟩
set_option maxRecDepth 20000 in
theorem w_x1_X10_revolutions {l : Launch} (hfl : l.stackTraces = false) (E : zE) (σ : zS) (U : zSU) (b : Int) (y : Int) (hU : zSUp σ 29 U) (hbi : -2147483648 ≤ b ∧ b < 2147483648) (hno : ¬ (0 ≤ b ∧ b < U.nb)) : zRh l E yL_revolutions cL_revolutions 5 [(0, 9, 12, 19), (0, 9, 16, 13)] (zrx 10 222) 1 6 [.ref (ob E 0), .int (zI b), .int (zI y), .ref (ob E 339)] σ (fun r τ => r = zI 1 ∧ (fun u => u = σ) τ) := by
  refine zMetH hfl (by decide) rfl (Nat.le_of_ble_eq_true rfl) ?_
  intro p e s m args below meth c C hr htab
  refine (?_ : zV p l e _ s m args below meth c 5 E _ 0 0 σ 0 [(0, .ref (ob E 0)), (1, .int (zI b)), (2, .int (zI y)), (3, .ref (ob E 339))] [])
  have hpass : ∀ z ∈ tableOf [], z.catchType ≠ 0 ∧ ∃ nm' : String, Cond.classLink RL z.catchType nm' ∈ zT ∧ ("java/lang/IndexOutOfBoundsException", nm') ∈ zNc := fun z hz => by
    cases hz
  refine zv_aload_n C 3 dL_revolutions_0 rfl rfl ?_
  refine zv_iconst (v := zI 0) C dL_revolutions_1 rfl ?_
  refine zv_aload_n C 0 dL_revolutions_2 rfl rfl ?_
  refine zv_iload_n C 1 dL_revolutions_3 rfl rfl ?_
  refine zv_iload_n C 2 dL_revolutions_4 rfl rfl ?_
  refine zv_xcatch (st := [.int (zI 0), .ref (ob E 339)]) C (x1_X10_revolutions hfl E σ U b y hU hbi hno) (pre := tableOf []) (suf := tableOf [(0, 9, 16, 13)]) (x := ⟨0, 9, 12, 19⟩) htab hpass (by decide) (by decide) zcl_19 zca_19 mX10_revolutions kL_139 (by decide : kd 0 = 9) rfl rfl rfl ⟨rfl, rfl⟩ (show zfit (zrx 9 200) 3 (zrx 10 222) = true from rfl) (Nat.le_of_ble_eq_true rfl) dL_revolutions_5 ⟨Nat.le_of_ble_eq_true rfl, Nat.le_of_ble_eq_true rfl⟩ (fun q9 τ9 hp9 => ?_)
  refine zv_astore (lv' := [(4, .ref q9), (0, .ref (ob E 0)), (1, .int (zI b)), (2, .int (zI y)), (3, .ref (ob E 339))]) C dL_revolutions_12  (by decide) rfl ?_
  refine zv_iconst (v := zI 1) C dL_revolutions_14 rfl ?_
  exact zv_iretN C hr rfl dL_revolutions_15 ⟨rfl, hp9⟩
set_option maxRecDepth 20000 in
theorem w_x2_X10_revolutions {l : Launch} (hfl : l.stackTraces = false) (E : zE) (σ : zS) (U : zSU) (S : zST) (i : Nat) (y : Int) (hU : zSUp σ 29 U) (hi : i < U.nb) (hyi : -2147483648 ≤ y ∧ y < 2147483648) (hno : ¬ (U.s0 ≤ y ∧ y ≤ U.s0 + 999)) : zRh l E yL_revolutions cL_revolutions 5 [(0, 9, 12, 19), (0, 9, 16, 13)] (zrx 10 222) 1 6 [.ref (ob E 0), .int (zI (i : Int)), .int (zI y), .ref (ob E 339)] σ (fun r τ => r = zI 2 ∧ (fun u => u = σ) τ) := by
  refine zMetH hfl (by decide) rfl (Nat.le_of_ble_eq_true rfl) ?_
  intro p e s m args below meth c C hr htab
  refine (?_ : zV p l e _ s m args below meth c 5 E _ 0 0 σ 0 [(0, .ref (ob E 0)), (1, .int (zI (i : Int))), (2, .int (zI y)), (3, .ref (ob E 339))] [])
  have hpass : ∀ z ∈ tableOf [(0, 9, 12, 19)], z.catchType ≠ 0 ∧ ∃ nm' : String, Cond.classLink RL z.catchType nm' ∈ zT ∧ ("java/lang/IllegalArgumentException", nm') ∈ zNc := fun z hz => by
    simp only [tableOf, List.map_cons, List.map_nil, List.mem_cons, List.not_mem_nil, or_false] at hz
    rcases hz with rfl
    · exact ⟨by decide, "java/lang/IndexOutOfBoundsException", zcl_19, by decide⟩
  refine zv_aload_n C 3 dL_revolutions_0 rfl rfl ?_
  refine zv_iconst (v := zI 0) C dL_revolutions_1 rfl ?_
  refine zv_aload_n C 0 dL_revolutions_2 rfl rfl ?_
  refine zv_iload_n C 1 dL_revolutions_3 rfl rfl ?_
  refine zv_iload_n C 2 dL_revolutions_4 rfl rfl ?_
  refine zv_xcatch (st := [.int (zI 0), .ref (ob E 339)]) C (x2_X10_revolutions hfl E σ U S i y hU hi hyi hno) (pre := tableOf [(0, 9, 12, 19)]) (suf := tableOf []) (x := ⟨0, 9, 16, 13⟩) htab hpass (by decide) (by decide) zcl_13 zca_13 mX10_revolutions kL_139 (by decide : kd 0 = 9) rfl rfl rfl ⟨rfl, rfl⟩ (show zfit (zrx 9 200) 3 (zrx 10 222) = true from rfl) (Nat.le_of_ble_eq_true rfl) dL_revolutions_5 ⟨Nat.le_of_ble_eq_true rfl, Nat.le_of_ble_eq_true rfl⟩ (fun q9 τ9 hp9 => ?_)
  refine zv_astore (lv' := [(4, .ref q9), (0, .ref (ob E 0)), (1, .int (zI (i : Int))), (2, .int (zI y)), (3, .ref (ob E 339))]) C dL_revolutions_16  (by decide) rfl ?_
  refine zv_iconst (v := zI 2) C dL_revolutions_18 rfl ?_
  exact zv_iretN C hr rfl dL_revolutions_19 ⟨rfl, hp9⟩
set_option maxRecDepth 20000 in
theorem w_c_X10_leapYears {l : Launch} (hfl : l.stackTraces = false) (E : zE) (σ : zS) (U : zSU) (b d : Int) (hU : zSUp σ 29 U) (hb : U.s0 ≤ b ∧ b ≤ U.s0 + 999) (hd2 : U.s0 ≤ d ∧ d ≤ U.s0 + 999) (hle : b ≤ d) : zRh l E yL_leapYears cL_leapYears 5 [(0, 10, 13, 13)] (zrm 4 87) 0 0 [.ref (ob E 0), .int (zI b), .int (zI d), .ref (ob E 339)] σ (fun r τ => r = zI 0 ∧ ∃ (v : Int32) (υ : zS), (fun r τ => r = zI (yLp d - yLp (b - 1)) ∧ τ = σ) v υ ∧ τ = sJ υ 339 0 v.toInt64) := by
  refine zMetH hfl (by decide) rfl (Nat.le_of_ble_eq_true rfl) ?_
  intro p e s m args below meth c C hr htab
  refine (?_ : zV p l e _ s m args below meth c 5 E _ 0 0 σ 0 [(0, .ref (ob E 0)), (1, .int (zI b)), (2, .int (zI d)), (3, .ref (ob E 339))] [])
  refine zv_aload_n C 3 dL_leapYears_0 rfl rfl ?_
  refine zv_iconst (v := zI 0) C dL_leapYears_1 rfl ?_
  refine zv_aload_n C 0 dL_leapYears_2 rfl rfl ?_
  refine zv_iload_n C 1 dL_leapYears_3 rfl rfl ?_
  refine zv_iload_n C 2 dL_leapYears_4 rfl rfl ?_
  refine zv_cvi (st := [.int (zI 0), .ref (ob E 339)]) C (c_X10_leapYears hfl E σ U b d hU hb hd2 hle) mX10_leapYears kL_142 (by decide : kd 0 = 9) rfl rfl rfl ⟨rfl, rfl⟩ (show zfit (zrm 3 65) 3 (zrm 4 87) = true from rfl) (Nat.le_of_ble_eq_true rfl) dL_leapYears_5 ⟨Nat.zero_le _, Nat.zero_le _⟩ (fun r5 τ5 hp5 => ?_)
  refine zv_i2l C dL_leapYears_8 ?_
  refine zv_last (j := 0) C (by decide : kd 339 = _) (zI_ix (by omega)) (by decide) dL_leapYears_9 ?_
  refine zv_goto (tgt := 17) C dL_leapYears_10 (by decide) ?_
  refine zv_iconst (v := zI 0) C dL_leapYears_17 rfl ?_
  exact zv_iret C hr rfl dL_leapYears_18 ⟨rfl, r5, τ5, hp5, rfl⟩
set_option maxRecDepth 20000 in
theorem w_x1_X10_leapYears {l : Launch} (hfl : l.stackTraces = false) (E : zE) (σ : zS) (U : zSU) (b d : Int) (hU : zSUp σ 29 U) (hbi : -2147483648 ≤ b ∧ b < 2147483648) (hdi : -2147483648 ≤ d ∧ d < 2147483648) (hb : ¬ (U.s0 ≤ b ∧ b ≤ U.s0 + 999)) : zRh l E yL_leapYears cL_leapYears 5 [(0, 10, 13, 13)] (zrx 13 282) 1 6 [.ref (ob E 0), .int (zI b), .int (zI d), .ref (ob E 339)] σ (fun r τ => r = zI 1 ∧ (fun u => u = σ) τ) := by
  refine zMetH hfl (by decide) rfl (Nat.le_of_ble_eq_true rfl) ?_
  intro p e s m args below meth c C hr htab
  refine (?_ : zV p l e _ s m args below meth c 5 E _ 0 0 σ 0 [(0, .ref (ob E 0)), (1, .int (zI b)), (2, .int (zI d)), (3, .ref (ob E 339))] [])
  have hpass : ∀ z ∈ tableOf [], z.catchType ≠ 0 ∧ ∃ nm' : String, Cond.classLink RL z.catchType nm' ∈ zT ∧ ("java/lang/IllegalArgumentException", nm') ∈ zNc := fun z hz => by
    cases hz
  refine zv_aload_n C 3 dL_leapYears_0 rfl rfl ?_
  refine zv_iconst (v := zI 0) C dL_leapYears_1 rfl ?_
  refine zv_aload_n C 0 dL_leapYears_2 rfl rfl ?_
  refine zv_iload_n C 1 dL_leapYears_3 rfl rfl ?_
  refine zv_iload_n C 2 dL_leapYears_4 rfl rfl ?_
  refine zv_xcatch (st := [.int (zI 0), .ref (ob E 339)]) C (x1_X10_leapYears hfl E σ U b d hU hbi hdi hb) (pre := tableOf []) (suf := tableOf []) (x := ⟨0, 10, 13, 13⟩) htab hpass (by decide) (by decide) zcl_13 zca_13 mX10_leapYears kL_142 (by decide : kd 0 = 9) rfl rfl rfl ⟨rfl, rfl⟩ (show zfit (zrx 12 260) 3 (zrx 13 282) = true from rfl) (Nat.le_of_ble_eq_true rfl) dL_leapYears_5 ⟨Nat.le_of_ble_eq_true rfl, Nat.le_of_ble_eq_true rfl⟩ (fun q9 τ9 hp9 => ?_)
  refine zv_astore (lv' := [(4, .ref q9), (0, .ref (ob E 0)), (1, .int (zI b)), (2, .int (zI d)), (3, .ref (ob E 339))]) C dL_leapYears_13  (by decide) rfl ?_
  refine zv_iconst (v := zI 1) C dL_leapYears_15 rfl ?_
  exact zv_iretN C hr rfl dL_leapYears_16 ⟨rfl, hp9⟩
set_option maxRecDepth 20000 in
theorem w_x2_X10_leapYears {l : Launch} (hfl : l.stackTraces = false) (E : zE) (σ : zS) (U : zSU) (b d : Int) (hU : zSUp σ 29 U) (hbi : -2147483648 ≤ b ∧ b < 2147483648) (hdi : -2147483648 ≤ d ∧ d < 2147483648) (hb : (U.s0 ≤ b ∧ b ≤ U.s0 + 999)) (hd2 : ¬ (U.s0 ≤ d ∧ d ≤ U.s0 + 999)) : zRh l E yL_leapYears cL_leapYears 5 [(0, 10, 13, 13)] (zrx 13 282) 1 6 [.ref (ob E 0), .int (zI b), .int (zI d), .ref (ob E 339)] σ (fun r τ => r = zI 1 ∧ (fun u => u = σ) τ) := by
  refine zMetH hfl (by decide) rfl (Nat.le_of_ble_eq_true rfl) ?_
  intro p e s m args below meth c C hr htab
  refine (?_ : zV p l e _ s m args below meth c 5 E _ 0 0 σ 0 [(0, .ref (ob E 0)), (1, .int (zI b)), (2, .int (zI d)), (3, .ref (ob E 339))] [])
  have hpass : ∀ z ∈ tableOf [], z.catchType ≠ 0 ∧ ∃ nm' : String, Cond.classLink RL z.catchType nm' ∈ zT ∧ ("java/lang/IllegalArgumentException", nm') ∈ zNc := fun z hz => by
    cases hz
  refine zv_aload_n C 3 dL_leapYears_0 rfl rfl ?_
  refine zv_iconst (v := zI 0) C dL_leapYears_1 rfl ?_
  refine zv_aload_n C 0 dL_leapYears_2 rfl rfl ?_
  refine zv_iload_n C 1 dL_leapYears_3 rfl rfl ?_
  refine zv_iload_n C 2 dL_leapYears_4 rfl rfl ?_
  refine zv_xcatch (st := [.int (zI 0), .ref (ob E 339)]) C (x2_X10_leapYears hfl E σ U b d hU hbi hdi hb hd2) (pre := tableOf []) (suf := tableOf []) (x := ⟨0, 10, 13, 13⟩) htab hpass (by decide) (by decide) zcl_13 zca_13 mX10_leapYears kL_142 (by decide : kd 0 = 9) rfl rfl rfl ⟨rfl, rfl⟩ (show zfit (zrx 12 260) 3 (zrx 13 282) = true from rfl) (Nat.le_of_ble_eq_true rfl) dL_leapYears_5 ⟨Nat.le_of_ble_eq_true rfl, Nat.le_of_ble_eq_true rfl⟩ (fun q9 τ9 hp9 => ?_)
  refine zv_astore (lv' := [(4, .ref q9), (0, .ref (ob E 0)), (1, .int (zI b)), (2, .int (zI d)), (3, .ref (ob E 339))]) C dL_leapYears_13  (by decide) rfl ?_
  refine zv_iconst (v := zI 1) C dL_leapYears_15 rfl ?_
  exact zv_iretN C hr rfl dL_leapYears_16 ⟨rfl, hp9⟩
set_option maxRecDepth 20000 in
theorem w_x3_X10_leapYears {l : Launch} (hfl : l.stackTraces = false) (E : zE) (σ : zS) (U : zSU) (b d : Int) (hU : zSUp σ 29 U) (hbi : -2147483648 ≤ b ∧ b < 2147483648) (hdi : -2147483648 ≤ d ∧ d < 2147483648) (hb : (U.s0 ≤ b ∧ b ≤ U.s0 + 999)) (hd2 : (U.s0 ≤ d ∧ d ≤ U.s0 + 999)) (hlt : d < b) : zRh l E yL_leapYears cL_leapYears 5 [(0, 10, 13, 13)] (zrx 13 282) 1 6 [.ref (ob E 0), .int (zI b), .int (zI d), .ref (ob E 339)] σ (fun r τ => r = zI 1 ∧ (fun u => u = σ) τ) := by
  refine zMetH hfl (by decide) rfl (Nat.le_of_ble_eq_true rfl) ?_
  intro p e s m args below meth c C hr htab
  refine (?_ : zV p l e _ s m args below meth c 5 E _ 0 0 σ 0 [(0, .ref (ob E 0)), (1, .int (zI b)), (2, .int (zI d)), (3, .ref (ob E 339))] [])
  have hpass : ∀ z ∈ tableOf [], z.catchType ≠ 0 ∧ ∃ nm' : String, Cond.classLink RL z.catchType nm' ∈ zT ∧ ("java/lang/IllegalArgumentException", nm') ∈ zNc := fun z hz => by
    cases hz
  refine zv_aload_n C 3 dL_leapYears_0 rfl rfl ?_
  refine zv_iconst (v := zI 0) C dL_leapYears_1 rfl ?_
  refine zv_aload_n C 0 dL_leapYears_2 rfl rfl ?_
  refine zv_iload_n C 1 dL_leapYears_3 rfl rfl ?_
  refine zv_iload_n C 2 dL_leapYears_4 rfl rfl ?_
  refine zv_xcatch (st := [.int (zI 0), .ref (ob E 339)]) C (x3_X10_leapYears hfl E σ U b d hU hbi hdi hb hd2 hlt) (pre := tableOf []) (suf := tableOf []) (x := ⟨0, 10, 13, 13⟩) htab hpass (by decide) (by decide) zcl_13 zca_13 mX10_leapYears kL_142 (by decide : kd 0 = 9) rfl rfl rfl ⟨rfl, rfl⟩ (show zfit (zrx 12 260) 3 (zrx 13 282) = true from rfl) (Nat.le_of_ble_eq_true rfl) dL_leapYears_5 ⟨Nat.le_of_ble_eq_true rfl, Nat.le_of_ble_eq_true rfl⟩ (fun q9 τ9 hp9 => ?_)
  refine zv_astore (lv' := [(4, .ref q9), (0, .ref (ob E 0)), (1, .int (zI b)), (2, .int (zI d)), (3, .ref (ob E 339))]) C dL_leapYears_13  (by decide) rfl ?_
  refine zv_iconst (v := zI 1) C dL_leapYears_15 rfl ?_
  exact zv_iretN C hr rfl dL_leapYears_16 ⟨rfl, hp9⟩
set_option maxRecDepth 20000 in
theorem w_c_X10_meetingTime {l : Launch} (hfl : l.stackTraces = false) (E : zE) (σ : zS) (U : zSU) (S : zST) (i o : Nat) (w : Int) (hU : zSUp σ 29 U) (hS : zSTp σ 34 S) (hi : i < U.nb) (ho : o < U.nb) (hw : w = 0 ∨ w = 1) : zRh l E yL_meetingTime cL_meetingTime 6 [(0, 11, 14, 19), (0, 11, 18, 13)] (zrm 5 130) 0 0 [.ref (ob E 0), .int (zI (i : Int)), .int (zI (o : Int)), .int (zI w), .ref (ob E 339)] σ (fun r τ => r = zI 0 ∧ ∃ (v : Int64) (υ : zS), (fun r τ => r = zL (dMt U S i o w) ∧ τ = rW3 σ U S i o) v υ ∧ τ = sJ υ 339 0 v) := by
  refine zMetH hfl (by decide) rfl (Nat.le_of_ble_eq_true rfl) ?_
  intro p e s m args below meth c C hr htab
  refine (?_ : zV p l e _ s m args below meth c 6 E _ 0 0 σ 0 [(0, .ref (ob E 0)), (1, .int (zI (i : Int))), (2, .int (zI (o : Int))), (3, .int (zI w)), (4, .ref (ob E 339))] [])
  refine zv_aload C 4 dL_meetingTime_0 rfl ?_
  refine zv_iconst (v := zI 0) C dL_meetingTime_2 rfl ?_
  refine zv_aload_n C 0 dL_meetingTime_3 rfl rfl ?_
  refine zv_iload_n C 1 dL_meetingTime_4 rfl rfl ?_
  refine zv_iload_n C 2 dL_meetingTime_5 rfl rfl ?_
  refine zv_iload_n C 3 dL_meetingTime_6 rfl rfl ?_
  refine zv_cvl (st := [.int (zI 0), .ref (ob E 339)]) C (c_X10_meetingTime hfl E σ U S i o w hU hS hi ho hw) mX10_meetingTime kL_145 (by decide : kd 0 = 9) rfl rfl rfl ⟨rfl, rfl⟩ (show zfit (zrm 4 105) 6 (zrm 5 130) = true from rfl) (Nat.le_of_ble_eq_true rfl) dL_meetingTime_7 ⟨Nat.zero_le _, Nat.zero_le _⟩ (fun r7 τ7 hp7 => ?_)
  refine zv_last (j := 0) C (by decide : kd 339 = _) (zI_ix (by omega)) (by decide) dL_meetingTime_10 ?_
  refine zv_goto (tgt := 22) C dL_meetingTime_11 (by decide) ?_
  refine zv_iconst (v := zI 0) C dL_meetingTime_22 rfl ?_
  exact zv_iret C hr rfl dL_meetingTime_23 ⟨rfl, r7, τ7, hp7, rfl⟩
set_option maxRecDepth 20000 in
theorem w_x1_X10_meetingTime {l : Launch} (hfl : l.stackTraces = false) (E : zE) (σ : zS) (U : zSU) (b : Int) (y : Int) (z : Int) (hU : zSUp σ 29 U) (hbi : -2147483648 ≤ b ∧ b < 2147483648) (hno : ¬ (0 ≤ b ∧ b < U.nb)) : zRh l E yL_meetingTime cL_meetingTime 6 [(0, 11, 14, 19), (0, 11, 18, 13)] (zrx 10 225) 1 6 [.ref (ob E 0), .int (zI b), .int (zI y), .int (zI z), .ref (ob E 339)] σ (fun r τ => r = zI 1 ∧ (fun u => u = σ) τ) := by
  refine zMetH hfl (by decide) rfl (Nat.le_of_ble_eq_true rfl) ?_
  intro p e s m args below meth c C hr htab
  refine (?_ : zV p l e _ s m args below meth c 6 E _ 0 0 σ 0 [(0, .ref (ob E 0)), (1, .int (zI b)), (2, .int (zI y)), (3, .int (zI z)), (4, .ref (ob E 339))] [])
  have hpass : ∀ z ∈ tableOf [], z.catchType ≠ 0 ∧ ∃ nm' : String, Cond.classLink RL z.catchType nm' ∈ zT ∧ ("java/lang/IndexOutOfBoundsException", nm') ∈ zNc := fun z hz => by
    cases hz
  refine zv_aload C 4 dL_meetingTime_0 rfl ?_
  refine zv_iconst (v := zI 0) C dL_meetingTime_2 rfl ?_
  refine zv_aload_n C 0 dL_meetingTime_3 rfl rfl ?_
  refine zv_iload_n C 1 dL_meetingTime_4 rfl rfl ?_
  refine zv_iload_n C 2 dL_meetingTime_5 rfl rfl ?_
  refine zv_iload_n C 3 dL_meetingTime_6 rfl rfl ?_
  refine zv_xcatch (st := [.int (zI 0), .ref (ob E 339)]) C (x1_X10_meetingTime hfl E σ U b y z hU hbi hno) (pre := tableOf []) (suf := tableOf [(0, 11, 18, 13)]) (x := ⟨0, 11, 14, 19⟩) htab hpass (by decide) (by decide) zcl_19 zca_19 mX10_meetingTime kL_145 (by decide : kd 0 = 9) rfl rfl rfl ⟨rfl, rfl⟩ (show zfit (zrx 9 200) 6 (zrx 10 225) = true from rfl) (Nat.le_of_ble_eq_true rfl) dL_meetingTime_7 ⟨Nat.le_of_ble_eq_true rfl, Nat.le_of_ble_eq_true rfl⟩ (fun q9 τ9 hp9 => ?_)
  refine zv_astore (lv' := [(5, .ref q9), (0, .ref (ob E 0)), (1, .int (zI b)), (2, .int (zI y)), (3, .int (zI z)), (4, .ref (ob E 339))]) C dL_meetingTime_14  (by decide) rfl ?_
  refine zv_iconst (v := zI 1) C dL_meetingTime_16 rfl ?_
  exact zv_iretN C hr rfl dL_meetingTime_17 ⟨rfl, hp9⟩
set_option maxRecDepth 20000 in
theorem w_x2_X10_meetingTime {l : Launch} (hfl : l.stackTraces = false) (E : zE) (σ : zS) (U : zSU) (i : Nat) (y z : Int) (hU : zSUp σ 29 U) (hi : i < U.nb) (hyi : -2147483648 ≤ y ∧ y < 2147483648) (hno : ¬ (0 ≤ y ∧ y < U.nb)) : zRh l E yL_meetingTime cL_meetingTime 6 [(0, 11, 14, 19), (0, 11, 18, 13)] (zrx 10 225) 1 6 [.ref (ob E 0), .int (zI (i : Int)), .int (zI y), .int (zI z), .ref (ob E 339)] σ (fun r τ => r = zI 1 ∧ (fun u => u = σ) τ) := by
  refine zMetH hfl (by decide) rfl (Nat.le_of_ble_eq_true rfl) ?_
  intro p e s m args below meth c C hr htab
  refine (?_ : zV p l e _ s m args below meth c 6 E _ 0 0 σ 0 [(0, .ref (ob E 0)), (1, .int (zI (i : Int))), (2, .int (zI y)), (3, .int (zI z)), (4, .ref (ob E 339))] [])
  have hpass : ∀ z ∈ tableOf [], z.catchType ≠ 0 ∧ ∃ nm' : String, Cond.classLink RL z.catchType nm' ∈ zT ∧ ("java/lang/IndexOutOfBoundsException", nm') ∈ zNc := fun z hz => by
    cases hz
  refine zv_aload C 4 dL_meetingTime_0 rfl ?_
  refine zv_iconst (v := zI 0) C dL_meetingTime_2 rfl ?_
  refine zv_aload_n C 0 dL_meetingTime_3 rfl rfl ?_
  refine zv_iload_n C 1 dL_meetingTime_4 rfl rfl ?_
  refine zv_iload_n C 2 dL_meetingTime_5 rfl rfl ?_
  refine zv_iload_n C 3 dL_meetingTime_6 rfl rfl ?_
  refine zv_xcatch (st := [.int (zI 0), .ref (ob E 339)]) C (x2_X10_meetingTime hfl E σ U i y z hU hi hyi hno) (pre := tableOf []) (suf := tableOf [(0, 11, 18, 13)]) (x := ⟨0, 11, 14, 19⟩) htab hpass (by decide) (by decide) zcl_19 zca_19 mX10_meetingTime kL_145 (by decide : kd 0 = 9) rfl rfl rfl ⟨rfl, rfl⟩ (show zfit (zrx 9 200) 6 (zrx 10 225) = true from rfl) (Nat.le_of_ble_eq_true rfl) dL_meetingTime_7 ⟨Nat.le_of_ble_eq_true rfl, Nat.le_of_ble_eq_true rfl⟩ (fun q9 τ9 hp9 => ?_)
  refine zv_astore (lv' := [(5, .ref q9), (0, .ref (ob E 0)), (1, .int (zI (i : Int))), (2, .int (zI y)), (3, .int (zI z)), (4, .ref (ob E 339))]) C dL_meetingTime_14  (by decide) rfl ?_
  refine zv_iconst (v := zI 1) C dL_meetingTime_16 rfl ?_
  exact zv_iretN C hr rfl dL_meetingTime_17 ⟨rfl, hp9⟩
set_option maxRecDepth 20000 in
theorem w_x3_X10_meetingTime {l : Launch} (hfl : l.stackTraces = false) (E : zE) (σ : zS) (U : zSU) (i o : Nat) (z : Int) (hU : zSUp σ 29 U) (hi : i < U.nb) (ho : o < U.nb) (hzi : -2147483648 ≤ z ∧ z < 2147483648) (hno : ¬ (0 ≤ z ∧ z ≤ 1)) : zRh l E yL_meetingTime cL_meetingTime 6 [(0, 11, 14, 19), (0, 11, 18, 13)] (zrx 10 225) 1 6 [.ref (ob E 0), .int (zI (i : Int)), .int (zI (o : Int)), .int (zI z), .ref (ob E 339)] σ (fun r τ => r = zI 2 ∧ (fun u => u = σ) τ) := by
  refine zMetH hfl (by decide) rfl (Nat.le_of_ble_eq_true rfl) ?_
  intro p e s m args below meth c C hr htab
  refine (?_ : zV p l e _ s m args below meth c 6 E _ 0 0 σ 0 [(0, .ref (ob E 0)), (1, .int (zI (i : Int))), (2, .int (zI (o : Int))), (3, .int (zI z)), (4, .ref (ob E 339))] [])
  have hpass : ∀ z ∈ tableOf [(0, 11, 14, 19)], z.catchType ≠ 0 ∧ ∃ nm' : String, Cond.classLink RL z.catchType nm' ∈ zT ∧ ("java/lang/IllegalArgumentException", nm') ∈ zNc := fun z hz => by
    simp only [tableOf, List.map_cons, List.map_nil, List.mem_cons, List.not_mem_nil, or_false] at hz
    rcases hz with rfl
    · exact ⟨by decide, "java/lang/IndexOutOfBoundsException", zcl_19, by decide⟩
  refine zv_aload C 4 dL_meetingTime_0 rfl ?_
  refine zv_iconst (v := zI 0) C dL_meetingTime_2 rfl ?_
  refine zv_aload_n C 0 dL_meetingTime_3 rfl rfl ?_
  refine zv_iload_n C 1 dL_meetingTime_4 rfl rfl ?_
  refine zv_iload_n C 2 dL_meetingTime_5 rfl rfl ?_
  refine zv_iload_n C 3 dL_meetingTime_6 rfl rfl ?_
  refine zv_xcatch (st := [.int (zI 0), .ref (ob E 339)]) C (x3_X10_meetingTime hfl E σ U i o z hU hi ho hzi hno) (pre := tableOf [(0, 11, 14, 19)]) (suf := tableOf []) (x := ⟨0, 11, 18, 13⟩) htab hpass (by decide) (by decide) zcl_13 zca_13 mX10_meetingTime kL_145 (by decide : kd 0 = 9) rfl rfl rfl ⟨rfl, rfl⟩ (show zfit (zrx 9 200) 6 (zrx 10 225) = true from rfl) (Nat.le_of_ble_eq_true rfl) dL_meetingTime_7 ⟨Nat.le_of_ble_eq_true rfl, Nat.le_of_ble_eq_true rfl⟩ (fun q9 τ9 hp9 => ?_)
  refine zv_astore (lv' := [(5, .ref q9), (0, .ref (ob E 0)), (1, .int (zI (i : Int))), (2, .int (zI (o : Int))), (3, .int (zI z)), (4, .ref (ob E 339))]) C dL_meetingTime_18  (by decide) rfl ?_
  refine zv_iconst (v := zI 2) C dL_meetingTime_20 rfl ?_
  exact zv_iretN C hr rfl dL_meetingTime_21 ⟨rfl, hp9⟩
set_option maxRecDepth 20000 in
theorem w_c_X10_aligned {l : Launch} (hfl : l.stackTraces = false) (E : zE) (σ : zS) (U : zSU) (S : zST) (i : Nat) (d orb : Int) (hU : zSUp σ 29 U) (hS : zSTp σ 34 S) (hi : i < U.nb) (hdd9 : 0 ≤ d ∧ d ≤ 400000) (horb : 0 ≤ orb ∧ orb ≤ 648000) : zRh l E yL_aligned cL_aligned 6 [(0, 12, 15, 19), (0, 12, 19, 13)] (zrm 5 131) 0 0 [.ref (ob E 0), .int (zI (i : Int)), .int (zI d), .int (zI orb), .ref (ob E 339)] σ (fun r τ => r = zI 0 ∧ ∃ (v : Int32) (υ : zS), (fun r τ => r = dAl U S i d orb U.nb ∧ τ = alW σ U S i U.nb) v υ ∧ τ = sJ υ 339 0 v.toInt64) := by
  refine zMetH hfl (by decide) rfl (Nat.le_of_ble_eq_true rfl) ?_
  intro p e s m args below meth c C hr htab
  refine (?_ : zV p l e _ s m args below meth c 6 E _ 0 0 σ 0 [(0, .ref (ob E 0)), (1, .int (zI (i : Int))), (2, .int (zI d)), (3, .int (zI orb)), (4, .ref (ob E 339))] [])
  refine zv_aload C 4 dL_aligned_0 rfl ?_
  refine zv_iconst (v := zI 0) C dL_aligned_2 rfl ?_
  refine zv_aload_n C 0 dL_aligned_3 rfl rfl ?_
  refine zv_iload_n C 1 dL_aligned_4 rfl rfl ?_
  refine zv_iload_n C 2 dL_aligned_5 rfl rfl ?_
  refine zv_iload_n C 3 dL_aligned_6 rfl rfl ?_
  refine zv_cvi (st := [.int (zI 0), .ref (ob E 339)]) C (c_X10_aligned hfl E σ U S i d orb hU hS hi hdd9 horb) mX10_aligned kL_148 (by decide : kd 0 = 9) rfl rfl rfl ⟨rfl, rfl⟩ (show zfit (zrm 4 105) 7 (zrm 5 131) = true from rfl) (Nat.le_of_ble_eq_true rfl) dL_aligned_7 ⟨Nat.zero_le _, Nat.zero_le _⟩ (fun r7 τ7 hp7 => ?_)
  refine zv_i2l C dL_aligned_10 ?_
  refine zv_last (j := 0) C (by decide : kd 339 = _) (zI_ix (by omega)) (by decide) dL_aligned_11 ?_
  refine zv_goto (tgt := 23) C dL_aligned_12 (by decide) ?_
  refine zv_iconst (v := zI 0) C dL_aligned_23 rfl ?_
  exact zv_iret C hr rfl dL_aligned_24 ⟨rfl, r7, τ7, hp7, rfl⟩
set_option maxRecDepth 20000 in
theorem w_x1_X10_aligned {l : Launch} (hfl : l.stackTraces = false) (E : zE) (σ : zS) (U : zSU) (b : Int) (y : Int) (z : Int) (hU : zSUp σ 29 U) (hbi : -2147483648 ≤ b ∧ b < 2147483648) (hno : ¬ (0 ≤ b ∧ b < U.nb)) : zRh l E yL_aligned cL_aligned 6 [(0, 12, 15, 19), (0, 12, 19, 13)] (zrx 10 226) 1 6 [.ref (ob E 0), .int (zI b), .int (zI y), .int (zI z), .ref (ob E 339)] σ (fun r τ => r = zI 1 ∧ (fun u => u = σ) τ) := by
  refine zMetH hfl (by decide) rfl (Nat.le_of_ble_eq_true rfl) ?_
  intro p e s m args below meth c C hr htab
  refine (?_ : zV p l e _ s m args below meth c 6 E _ 0 0 σ 0 [(0, .ref (ob E 0)), (1, .int (zI b)), (2, .int (zI y)), (3, .int (zI z)), (4, .ref (ob E 339))] [])
  have hpass : ∀ z ∈ tableOf [], z.catchType ≠ 0 ∧ ∃ nm' : String, Cond.classLink RL z.catchType nm' ∈ zT ∧ ("java/lang/IndexOutOfBoundsException", nm') ∈ zNc := fun z hz => by
    cases hz
  refine zv_aload C 4 dL_aligned_0 rfl ?_
  refine zv_iconst (v := zI 0) C dL_aligned_2 rfl ?_
  refine zv_aload_n C 0 dL_aligned_3 rfl rfl ?_
  refine zv_iload_n C 1 dL_aligned_4 rfl rfl ?_
  refine zv_iload_n C 2 dL_aligned_5 rfl rfl ?_
  refine zv_iload_n C 3 dL_aligned_6 rfl rfl ?_
  refine zv_xcatch (st := [.int (zI 0), .ref (ob E 339)]) C (x1_X10_aligned hfl E σ U b y z hU hbi hno) (pre := tableOf []) (suf := tableOf [(0, 12, 19, 13)]) (x := ⟨0, 12, 15, 19⟩) htab hpass (by decide) (by decide) zcl_19 zca_19 mX10_aligned kL_148 (by decide : kd 0 = 9) rfl rfl rfl ⟨rfl, rfl⟩ (show zfit (zrx 9 200) 7 (zrx 10 226) = true from rfl) (Nat.le_of_ble_eq_true rfl) dL_aligned_7 ⟨Nat.le_of_ble_eq_true rfl, Nat.le_of_ble_eq_true rfl⟩ (fun q9 τ9 hp9 => ?_)
  refine zv_astore (lv' := [(5, .ref q9), (0, .ref (ob E 0)), (1, .int (zI b)), (2, .int (zI y)), (3, .int (zI z)), (4, .ref (ob E 339))]) C dL_aligned_15  (by decide) rfl ?_
  refine zv_iconst (v := zI 1) C dL_aligned_17 rfl ?_
  exact zv_iretN C hr rfl dL_aligned_18 ⟨rfl, hp9⟩
set_option maxRecDepth 20000 in
theorem w_x2_X10_aligned {l : Launch} (hfl : l.stackTraces = false) (E : zE) (σ : zS) (U : zSU) (i : Nat) (y z : Int) (hU : zSUp σ 29 U) (hi : i < U.nb) (hyi : -2147483648 ≤ y ∧ y < 2147483648) (hno : ¬ (0 ≤ y ∧ y ≤ 400000)) : zRh l E yL_aligned cL_aligned 6 [(0, 12, 15, 19), (0, 12, 19, 13)] (zrx 10 226) 1 6 [.ref (ob E 0), .int (zI (i : Int)), .int (zI y), .int (zI z), .ref (ob E 339)] σ (fun r τ => r = zI 2 ∧ (fun u => u = σ) τ) := by
  refine zMetH hfl (by decide) rfl (Nat.le_of_ble_eq_true rfl) ?_
  intro p e s m args below meth c C hr htab
  refine (?_ : zV p l e _ s m args below meth c 6 E _ 0 0 σ 0 [(0, .ref (ob E 0)), (1, .int (zI (i : Int))), (2, .int (zI y)), (3, .int (zI z)), (4, .ref (ob E 339))] [])
  have hpass : ∀ z ∈ tableOf [(0, 12, 15, 19)], z.catchType ≠ 0 ∧ ∃ nm' : String, Cond.classLink RL z.catchType nm' ∈ zT ∧ ("java/lang/IllegalArgumentException", nm') ∈ zNc := fun z hz => by
    simp only [tableOf, List.map_cons, List.map_nil, List.mem_cons, List.not_mem_nil, or_false] at hz
    rcases hz with rfl
    · exact ⟨by decide, "java/lang/IndexOutOfBoundsException", zcl_19, by decide⟩
  refine zv_aload C 4 dL_aligned_0 rfl ?_
  refine zv_iconst (v := zI 0) C dL_aligned_2 rfl ?_
  refine zv_aload_n C 0 dL_aligned_3 rfl rfl ?_
  refine zv_iload_n C 1 dL_aligned_4 rfl rfl ?_
  refine zv_iload_n C 2 dL_aligned_5 rfl rfl ?_
  refine zv_iload_n C 3 dL_aligned_6 rfl rfl ?_
  refine zv_xcatch (st := [.int (zI 0), .ref (ob E 339)]) C (x2_X10_aligned hfl E σ U i y z hU hi hyi hno) (pre := tableOf [(0, 12, 15, 19)]) (suf := tableOf []) (x := ⟨0, 12, 19, 13⟩) htab hpass (by decide) (by decide) zcl_13 zca_13 mX10_aligned kL_148 (by decide : kd 0 = 9) rfl rfl rfl ⟨rfl, rfl⟩ (show zfit (zrx 9 200) 7 (zrx 10 226) = true from rfl) (Nat.le_of_ble_eq_true rfl) dL_aligned_7 ⟨Nat.le_of_ble_eq_true rfl, Nat.le_of_ble_eq_true rfl⟩ (fun q9 τ9 hp9 => ?_)
  refine zv_astore (lv' := [(5, .ref q9), (0, .ref (ob E 0)), (1, .int (zI (i : Int))), (2, .int (zI y)), (3, .int (zI z)), (4, .ref (ob E 339))]) C dL_aligned_19  (by decide) rfl ?_
  refine zv_iconst (v := zI 2) C dL_aligned_21 rfl ?_
  exact zv_iretN C hr rfl dL_aligned_22 ⟨rfl, hp9⟩
set_option maxRecDepth 20000 in
theorem w_x3_X10_aligned {l : Launch} (hfl : l.stackTraces = false) (E : zE) (σ : zS) (U : zSU) (i : Nat) (y z : Int) (hU : zSUp σ 29 U) (hi : i < U.nb) (hy : 0 ≤ y ∧ y ≤ 400000) (hzi : -2147483648 ≤ z ∧ z < 2147483648) (hno : ¬ (0 ≤ z ∧ z ≤ 648000)) : zRh l E yL_aligned cL_aligned 6 [(0, 12, 15, 19), (0, 12, 19, 13)] (zrx 10 226) 1 6 [.ref (ob E 0), .int (zI (i : Int)), .int (zI y), .int (zI z), .ref (ob E 339)] σ (fun r τ => r = zI 2 ∧ (fun u => u = σ) τ) := by
  refine zMetH hfl (by decide) rfl (Nat.le_of_ble_eq_true rfl) ?_
  intro p e s m args below meth c C hr htab
  refine (?_ : zV p l e _ s m args below meth c 6 E _ 0 0 σ 0 [(0, .ref (ob E 0)), (1, .int (zI (i : Int))), (2, .int (zI y)), (3, .int (zI z)), (4, .ref (ob E 339))] [])
  have hpass : ∀ z ∈ tableOf [(0, 12, 15, 19)], z.catchType ≠ 0 ∧ ∃ nm' : String, Cond.classLink RL z.catchType nm' ∈ zT ∧ ("java/lang/IllegalArgumentException", nm') ∈ zNc := fun z hz => by
    simp only [tableOf, List.map_cons, List.map_nil, List.mem_cons, List.not_mem_nil, or_false] at hz
    rcases hz with rfl
    · exact ⟨by decide, "java/lang/IndexOutOfBoundsException", zcl_19, by decide⟩
  refine zv_aload C 4 dL_aligned_0 rfl ?_
  refine zv_iconst (v := zI 0) C dL_aligned_2 rfl ?_
  refine zv_aload_n C 0 dL_aligned_3 rfl rfl ?_
  refine zv_iload_n C 1 dL_aligned_4 rfl rfl ?_
  refine zv_iload_n C 2 dL_aligned_5 rfl rfl ?_
  refine zv_iload_n C 3 dL_aligned_6 rfl rfl ?_
  refine zv_xcatch (st := [.int (zI 0), .ref (ob E 339)]) C (x3_X10_aligned hfl E σ U i y z hU hi hy hzi hno) (pre := tableOf [(0, 12, 15, 19)]) (suf := tableOf []) (x := ⟨0, 12, 19, 13⟩) htab hpass (by decide) (by decide) zcl_13 zca_13 mX10_aligned kL_148 (by decide : kd 0 = 9) rfl rfl rfl ⟨rfl, rfl⟩ (show zfit (zrx 9 200) 7 (zrx 10 226) = true from rfl) (Nat.le_of_ble_eq_true rfl) dL_aligned_7 ⟨Nat.le_of_ble_eq_true rfl, Nat.le_of_ble_eq_true rfl⟩ (fun q9 τ9 hp9 => ?_)
  refine zv_astore (lv' := [(5, .ref q9), (0, .ref (ob E 0)), (1, .int (zI (i : Int))), (2, .int (zI y)), (3, .int (zI z)), (4, .ref (ob E 339))]) C dL_aligned_19  (by decide) rfl ?_
  refine zv_iconst (v := zI 2) C dL_aligned_21 rfl ?_
  exact zv_iretN C hr rfl dL_aligned_22 ⟨rfl, hp9⟩
set_option maxRecDepth 20000 in
theorem w_c_X10_printErrors {l : Launch} (hfl : l.stackTraces = false) (E : zE) (σ : zS) (ni : Nat) (tx : Nat → Int) (ec : Nat) (eo : Int) (U : zSU) (S : zST) (hh : List zST) (kp : Option zST) (ou : List Nat) (i : Nat) (a b st : Int) (h : zCP σ (zDv.mk ni tx ec eo U S hh kp ou)) (hi : i < U.nb) (ha : U.s0 ≤ a ∧ a ≤ U.s0 + 999) (hb : U.s0 ≤ b ∧ b ≤ U.s0 + 999) (hle : a ≤ b) (hst : 1 ≤ st ∧ st ≤ 999) : zRh l E yL_printErrors cL_printErrors 7 [(0, 14, 17, 19), (0, 14, 21, 13)] (zrm 6 153) 0 0 [.ref (ob E 0), .int (zI (i : Int)), .int (zI a), .int (zI b), .int (zI st), .ref (ob E 339)] σ (fun r τ => r = zI 0 ∧ ∃ (v : Int32) (υ : zS), (fun r τ => r = zI ((peL U S i a b st 40).length : Int) ∧ zCP τ ((zDv.mk ni tx ec eo U S hh kp ou).sO (peL U S i a b st 40)) ∧ zFr 0 327 σ τ) v υ ∧ τ = sJ υ 339 0 v.toInt64) := by
  refine zMetH hfl (by decide) rfl (Nat.le_of_ble_eq_true rfl) ?_
  intro p e s m args below meth c C hr htab
  refine (?_ : zV p l e _ s m args below meth c 7 E _ 0 0 σ 0 [(0, .ref (ob E 0)), (1, .int (zI (i : Int))), (2, .int (zI a)), (3, .int (zI b)), (4, .int (zI st)), (5, .ref (ob E 339))] [])
  refine zv_aload C 5 dL_printErrors_0 rfl ?_
  refine zv_iconst (v := zI 0) C dL_printErrors_2 rfl ?_
  refine zv_aload_n C 0 dL_printErrors_3 rfl rfl ?_
  refine zv_iload_n C 1 dL_printErrors_4 rfl rfl ?_
  refine zv_iload_n C 2 dL_printErrors_5 rfl rfl ?_
  refine zv_iload_n C 3 dL_printErrors_6 rfl rfl ?_
  refine zv_iload C 4 dL_printErrors_7 rfl ?_
  refine zv_cvi (st := [.int (zI 0), .ref (ob E 339)]) C (c_X10_printErrors hfl E σ ni tx ec eo U S hh kp ou i a b st h hi ha hb hle hst) mX10_printErrors kL_155 (by decide : kd 0 = 9) rfl rfl rfl ⟨rfl, rfl⟩ (show zfit (zrm 5 126) 8 (zrm 6 153) = true from rfl) (Nat.le_of_ble_eq_true rfl) dL_printErrors_9 ⟨Nat.zero_le _, Nat.zero_le _⟩ (fun r9 τ9 hp9 => ?_)
  refine zv_i2l C dL_printErrors_12 ?_
  refine zv_last (j := 0) C (by decide : kd 339 = _) (zI_ix (by omega)) (by decide) dL_printErrors_13 ?_
  refine zv_goto (tgt := 25) C dL_printErrors_14 (by decide) ?_
  refine zv_iconst (v := zI 0) C dL_printErrors_25 rfl ?_
  exact zv_iret C hr rfl dL_printErrors_26 ⟨rfl, r9, τ9, hp9, rfl⟩
set_option maxRecDepth 20000 in
theorem w_x1_X10_printErrors {l : Launch} (hfl : l.stackTraces = false) (E : zE) (σ : zS) (U : zSU) (b : Int) (y : Int) (z : Int) (w : Int) (hU : zSUp σ 29 U) (hbi : -2147483648 ≤ b ∧ b < 2147483648) (hno : ¬ (0 ≤ b ∧ b < U.nb)) : zRh l E yL_printErrors cL_printErrors 7 [(0, 14, 17, 19), (0, 14, 21, 13)] (zrx 13 327) 1 6 [.ref (ob E 0), .int (zI b), .int (zI y), .int (zI z), .int (zI w), .ref (ob E 339)] σ (fun r τ => r = zI 1 ∧ (fun u => u = σ) τ) := by
  refine zMetH hfl (by decide) rfl (Nat.le_of_ble_eq_true rfl) ?_
  intro p e s m args below meth c C hr htab
  refine (?_ : zV p l e _ s m args below meth c 7 E _ 0 0 σ 0 [(0, .ref (ob E 0)), (1, .int (zI b)), (2, .int (zI y)), (3, .int (zI z)), (4, .int (zI w)), (5, .ref (ob E 339))] [])
  have hpass : ∀ z ∈ tableOf [], z.catchType ≠ 0 ∧ ∃ nm' : String, Cond.classLink RL z.catchType nm' ∈ zT ∧ ("java/lang/IndexOutOfBoundsException", nm') ∈ zNc := fun z hz => by
    cases hz
  refine zv_aload C 5 dL_printErrors_0 rfl ?_
  refine zv_iconst (v := zI 0) C dL_printErrors_2 rfl ?_
  refine zv_aload_n C 0 dL_printErrors_3 rfl rfl ?_
  refine zv_iload_n C 1 dL_printErrors_4 rfl rfl ?_
  refine zv_iload_n C 2 dL_printErrors_5 rfl rfl ?_
  refine zv_iload_n C 3 dL_printErrors_6 rfl rfl ?_
  refine zv_iload C 4 dL_printErrors_7 rfl ?_
  refine zv_xcatch (st := [.int (zI 0), .ref (ob E 339)]) C (x1_X10_printErrors hfl E σ U b y z w hU hbi hno) (pre := tableOf []) (suf := tableOf [(0, 14, 21, 13)]) (x := ⟨0, 14, 17, 19⟩) htab hpass (by decide) (by decide) zcl_19 zca_19 mX10_printErrors kL_155 (by decide : kd 0 = 9) rfl rfl rfl ⟨rfl, rfl⟩ (show zfit (zrx 12 300) 8 (zrx 13 327) = true from rfl) (Nat.le_of_ble_eq_true rfl) dL_printErrors_9 ⟨Nat.le_of_ble_eq_true rfl, Nat.le_of_ble_eq_true rfl⟩ (fun q9 τ9 hp9 => ?_)
  refine zv_astore (lv' := [(6, .ref q9), (0, .ref (ob E 0)), (1, .int (zI b)), (2, .int (zI y)), (3, .int (zI z)), (4, .int (zI w)), (5, .ref (ob E 339))]) C dL_printErrors_17  (by decide) rfl ?_
  refine zv_iconst (v := zI 1) C dL_printErrors_19 rfl ?_
  exact zv_iretN C hr rfl dL_printErrors_20 ⟨rfl, hp9⟩
set_option maxRecDepth 20000 in
theorem w_x2_X10_printErrors {l : Launch} (hfl : l.stackTraces = false) (E : zE) (σ : zS) (U : zSU) (i : Nat) (y z : Int) (w : Int) (hU : zSUp σ 29 U) (hi : i < U.nb) (hyi : -2147483648 ≤ y ∧ y < 2147483648) (hzi : -2147483648 ≤ z ∧ z < 2147483648) (hno : ¬ (U.s0 ≤ y ∧ y ≤ U.s0 + 999)) : zRh l E yL_printErrors cL_printErrors 7 [(0, 14, 17, 19), (0, 14, 21, 13)] (zrx 13 327) 1 6 [.ref (ob E 0), .int (zI (i : Int)), .int (zI y), .int (zI z), .int (zI w), .ref (ob E 339)] σ (fun r τ => r = zI 2 ∧ (fun u => u = σ) τ) := by
  refine zMetH hfl (by decide) rfl (Nat.le_of_ble_eq_true rfl) ?_
  intro p e s m args below meth c C hr htab
  refine (?_ : zV p l e _ s m args below meth c 7 E _ 0 0 σ 0 [(0, .ref (ob E 0)), (1, .int (zI (i : Int))), (2, .int (zI y)), (3, .int (zI z)), (4, .int (zI w)), (5, .ref (ob E 339))] [])
  have hpass : ∀ z ∈ tableOf [(0, 14, 17, 19)], z.catchType ≠ 0 ∧ ∃ nm' : String, Cond.classLink RL z.catchType nm' ∈ zT ∧ ("java/lang/IllegalArgumentException", nm') ∈ zNc := fun z hz => by
    simp only [tableOf, List.map_cons, List.map_nil, List.mem_cons, List.not_mem_nil, or_false] at hz
    rcases hz with rfl
    · exact ⟨by decide, "java/lang/IndexOutOfBoundsException", zcl_19, by decide⟩
  refine zv_aload C 5 dL_printErrors_0 rfl ?_
  refine zv_iconst (v := zI 0) C dL_printErrors_2 rfl ?_
  refine zv_aload_n C 0 dL_printErrors_3 rfl rfl ?_
  refine zv_iload_n C 1 dL_printErrors_4 rfl rfl ?_
  refine zv_iload_n C 2 dL_printErrors_5 rfl rfl ?_
  refine zv_iload_n C 3 dL_printErrors_6 rfl rfl ?_
  refine zv_iload C 4 dL_printErrors_7 rfl ?_
  refine zv_xcatch (st := [.int (zI 0), .ref (ob E 339)]) C (x2_X10_printErrors hfl E σ U i y z w hU hi hyi hzi hno) (pre := tableOf [(0, 14, 17, 19)]) (suf := tableOf []) (x := ⟨0, 14, 21, 13⟩) htab hpass (by decide) (by decide) zcl_13 zca_13 mX10_printErrors kL_155 (by decide : kd 0 = 9) rfl rfl rfl ⟨rfl, rfl⟩ (show zfit (zrx 12 300) 8 (zrx 13 327) = true from rfl) (Nat.le_of_ble_eq_true rfl) dL_printErrors_9 ⟨Nat.le_of_ble_eq_true rfl, Nat.le_of_ble_eq_true rfl⟩ (fun q9 τ9 hp9 => ?_)
  refine zv_astore (lv' := [(6, .ref q9), (0, .ref (ob E 0)), (1, .int (zI (i : Int))), (2, .int (zI y)), (3, .int (zI z)), (4, .int (zI w)), (5, .ref (ob E 339))]) C dL_printErrors_21  (by decide) rfl ?_
  refine zv_iconst (v := zI 2) C dL_printErrors_23 rfl ?_
  exact zv_iretN C hr rfl dL_printErrors_24 ⟨rfl, hp9⟩
set_option maxRecDepth 20000 in
theorem w_x3_X10_printErrors {l : Launch} (hfl : l.stackTraces = false) (E : zE) (σ : zS) (U : zSU) (i : Nat) (y z : Int) (w : Int) (hU : zSUp σ 29 U) (hi : i < U.nb) (hyi : -2147483648 ≤ y ∧ y < 2147483648) (hzi : -2147483648 ≤ z ∧ z < 2147483648) (hy : U.s0 ≤ y ∧ y ≤ U.s0 + 999) (hno : ¬ (U.s0 ≤ z ∧ z ≤ U.s0 + 999)) : zRh l E yL_printErrors cL_printErrors 7 [(0, 14, 17, 19), (0, 14, 21, 13)] (zrx 13 327) 1 6 [.ref (ob E 0), .int (zI (i : Int)), .int (zI y), .int (zI z), .int (zI w), .ref (ob E 339)] σ (fun r τ => r = zI 2 ∧ (fun u => u = σ) τ) := by
  refine zMetH hfl (by decide) rfl (Nat.le_of_ble_eq_true rfl) ?_
  intro p e s m args below meth c C hr htab
  refine (?_ : zV p l e _ s m args below meth c 7 E _ 0 0 σ 0 [(0, .ref (ob E 0)), (1, .int (zI (i : Int))), (2, .int (zI y)), (3, .int (zI z)), (4, .int (zI w)), (5, .ref (ob E 339))] [])
  have hpass : ∀ z ∈ tableOf [(0, 14, 17, 19)], z.catchType ≠ 0 ∧ ∃ nm' : String, Cond.classLink RL z.catchType nm' ∈ zT ∧ ("java/lang/IllegalArgumentException", nm') ∈ zNc := fun z hz => by
    simp only [tableOf, List.map_cons, List.map_nil, List.mem_cons, List.not_mem_nil, or_false] at hz
    rcases hz with rfl
    · exact ⟨by decide, "java/lang/IndexOutOfBoundsException", zcl_19, by decide⟩
  refine zv_aload C 5 dL_printErrors_0 rfl ?_
  refine zv_iconst (v := zI 0) C dL_printErrors_2 rfl ?_
  refine zv_aload_n C 0 dL_printErrors_3 rfl rfl ?_
  refine zv_iload_n C 1 dL_printErrors_4 rfl rfl ?_
  refine zv_iload_n C 2 dL_printErrors_5 rfl rfl ?_
  refine zv_iload_n C 3 dL_printErrors_6 rfl rfl ?_
  refine zv_iload C 4 dL_printErrors_7 rfl ?_
  refine zv_xcatch (st := [.int (zI 0), .ref (ob E 339)]) C (x3_X10_printErrors hfl E σ U i y z w hU hi hyi hzi hy hno) (pre := tableOf [(0, 14, 17, 19)]) (suf := tableOf []) (x := ⟨0, 14, 21, 13⟩) htab hpass (by decide) (by decide) zcl_13 zca_13 mX10_printErrors kL_155 (by decide : kd 0 = 9) rfl rfl rfl ⟨rfl, rfl⟩ (show zfit (zrx 12 300) 8 (zrx 13 327) = true from rfl) (Nat.le_of_ble_eq_true rfl) dL_printErrors_9 ⟨Nat.le_of_ble_eq_true rfl, Nat.le_of_ble_eq_true rfl⟩ (fun q9 τ9 hp9 => ?_)
  refine zv_astore (lv' := [(6, .ref q9), (0, .ref (ob E 0)), (1, .int (zI (i : Int))), (2, .int (zI y)), (3, .int (zI z)), (4, .int (zI w)), (5, .ref (ob E 339))]) C dL_printErrors_21  (by decide) rfl ?_
  refine zv_iconst (v := zI 2) C dL_printErrors_23 rfl ?_
  exact zv_iretN C hr rfl dL_printErrors_24 ⟨rfl, hp9⟩
set_option maxRecDepth 20000 in
theorem w_x4_X10_printErrors {l : Launch} (hfl : l.stackTraces = false) (E : zE) (σ : zS) (U : zSU) (i : Nat) (y z : Int) (w : Int) (hU : zSUp σ 29 U) (hi : i < U.nb) (hyi : -2147483648 ≤ y ∧ y < 2147483648) (hzi : -2147483648 ≤ z ∧ z < 2147483648) (hy : U.s0 ≤ y ∧ y ≤ U.s0 + 999) (hz : U.s0 ≤ z ∧ z ≤ U.s0 + 999) (hno : z < y) : zRh l E yL_printErrors cL_printErrors 7 [(0, 14, 17, 19), (0, 14, 21, 13)] (zrx 13 327) 1 6 [.ref (ob E 0), .int (zI (i : Int)), .int (zI y), .int (zI z), .int (zI w), .ref (ob E 339)] σ (fun r τ => r = zI 2 ∧ (fun u => u = σ) τ) := by
  refine zMetH hfl (by decide) rfl (Nat.le_of_ble_eq_true rfl) ?_
  intro p e s m args below meth c C hr htab
  refine (?_ : zV p l e _ s m args below meth c 7 E _ 0 0 σ 0 [(0, .ref (ob E 0)), (1, .int (zI (i : Int))), (2, .int (zI y)), (3, .int (zI z)), (4, .int (zI w)), (5, .ref (ob E 339))] [])
  have hpass : ∀ z ∈ tableOf [(0, 14, 17, 19)], z.catchType ≠ 0 ∧ ∃ nm' : String, Cond.classLink RL z.catchType nm' ∈ zT ∧ ("java/lang/IllegalArgumentException", nm') ∈ zNc := fun z hz => by
    simp only [tableOf, List.map_cons, List.map_nil, List.mem_cons, List.not_mem_nil, or_false] at hz
    rcases hz with rfl
    · exact ⟨by decide, "java/lang/IndexOutOfBoundsException", zcl_19, by decide⟩
  refine zv_aload C 5 dL_printErrors_0 rfl ?_
  refine zv_iconst (v := zI 0) C dL_printErrors_2 rfl ?_
  refine zv_aload_n C 0 dL_printErrors_3 rfl rfl ?_
  refine zv_iload_n C 1 dL_printErrors_4 rfl rfl ?_
  refine zv_iload_n C 2 dL_printErrors_5 rfl rfl ?_
  refine zv_iload_n C 3 dL_printErrors_6 rfl rfl ?_
  refine zv_iload C 4 dL_printErrors_7 rfl ?_
  refine zv_xcatch (st := [.int (zI 0), .ref (ob E 339)]) C (x4_X10_printErrors hfl E σ U i y z w hU hi hyi hzi hy hz hno) (pre := tableOf [(0, 14, 17, 19)]) (suf := tableOf []) (x := ⟨0, 14, 21, 13⟩) htab hpass (by decide) (by decide) zcl_13 zca_13 mX10_printErrors kL_155 (by decide : kd 0 = 9) rfl rfl rfl ⟨rfl, rfl⟩ (show zfit (zrx 12 300) 8 (zrx 13 327) = true from rfl) (Nat.le_of_ble_eq_true rfl) dL_printErrors_9 ⟨Nat.le_of_ble_eq_true rfl, Nat.le_of_ble_eq_true rfl⟩ (fun q9 τ9 hp9 => ?_)
  refine zv_astore (lv' := [(6, .ref q9), (0, .ref (ob E 0)), (1, .int (zI (i : Int))), (2, .int (zI y)), (3, .int (zI z)), (4, .int (zI w)), (5, .ref (ob E 339))]) C dL_printErrors_21  (by decide) rfl ?_
  refine zv_iconst (v := zI 2) C dL_printErrors_23 rfl ?_
  exact zv_iretN C hr rfl dL_printErrors_24 ⟨rfl, hp9⟩
set_option maxRecDepth 20000 in
theorem w_x5_X10_printErrors {l : Launch} (hfl : l.stackTraces = false) (E : zE) (σ : zS) (U : zSU) (i : Nat) (a b w : Int) (hU : zSUp σ 29 U) (hi : i < U.nb) (ha : U.s0 ≤ a ∧ a ≤ U.s0 + 999) (hb : U.s0 ≤ b ∧ b ≤ U.s0 + 999) (hle : a ≤ b) (hwi : -2147483648 ≤ w ∧ w < 2147483648) (hno : ¬ (1 ≤ w ∧ w ≤ 999)) : zRh l E yL_printErrors cL_printErrors 7 [(0, 14, 17, 19), (0, 14, 21, 13)] (zrx 13 327) 1 6 [.ref (ob E 0), .int (zI (i : Int)), .int (zI a), .int (zI b), .int (zI w), .ref (ob E 339)] σ (fun r τ => r = zI 2 ∧ (fun u => u = σ) τ) := by
  refine zMetH hfl (by decide) rfl (Nat.le_of_ble_eq_true rfl) ?_
  intro p e s m args below meth c C hr htab
  refine (?_ : zV p l e _ s m args below meth c 7 E _ 0 0 σ 0 [(0, .ref (ob E 0)), (1, .int (zI (i : Int))), (2, .int (zI a)), (3, .int (zI b)), (4, .int (zI w)), (5, .ref (ob E 339))] [])
  have hpass : ∀ z ∈ tableOf [(0, 14, 17, 19)], z.catchType ≠ 0 ∧ ∃ nm' : String, Cond.classLink RL z.catchType nm' ∈ zT ∧ ("java/lang/IllegalArgumentException", nm') ∈ zNc := fun z hz => by
    simp only [tableOf, List.map_cons, List.map_nil, List.mem_cons, List.not_mem_nil, or_false] at hz
    rcases hz with rfl
    · exact ⟨by decide, "java/lang/IndexOutOfBoundsException", zcl_19, by decide⟩
  refine zv_aload C 5 dL_printErrors_0 rfl ?_
  refine zv_iconst (v := zI 0) C dL_printErrors_2 rfl ?_
  refine zv_aload_n C 0 dL_printErrors_3 rfl rfl ?_
  refine zv_iload_n C 1 dL_printErrors_4 rfl rfl ?_
  refine zv_iload_n C 2 dL_printErrors_5 rfl rfl ?_
  refine zv_iload_n C 3 dL_printErrors_6 rfl rfl ?_
  refine zv_iload C 4 dL_printErrors_7 rfl ?_
  refine zv_xcatch (st := [.int (zI 0), .ref (ob E 339)]) C (x5_X10_printErrors hfl E σ U i a b w hU hi ha hb hle hwi hno) (pre := tableOf [(0, 14, 17, 19)]) (suf := tableOf []) (x := ⟨0, 14, 21, 13⟩) htab hpass (by decide) (by decide) zcl_13 zca_13 mX10_printErrors kL_155 (by decide : kd 0 = 9) rfl rfl rfl ⟨rfl, rfl⟩ (show zfit (zrx 12 300) 8 (zrx 13 327) = true from rfl) (Nat.le_of_ble_eq_true rfl) dL_printErrors_9 ⟨Nat.le_of_ble_eq_true rfl, Nat.le_of_ble_eq_true rfl⟩ (fun q9 τ9 hp9 => ?_)
  refine zv_astore (lv' := [(6, .ref q9), (0, .ref (ob E 0)), (1, .int (zI (i : Int))), (2, .int (zI a)), (3, .int (zI b)), (4, .int (zI w)), (5, .ref (ob E 339))]) C dL_printErrors_21  (by decide) rfl ?_
  refine zv_iconst (v := zI 2) C dL_printErrors_23 rfl ?_
  exact zv_iretN C hr rfl dL_printErrors_24 ⟨rfl, hp9⟩
set_option maxRecDepth 20000 in
theorem w_c_X10_report {l : Launch} (hfl : l.stackTraces = false) (E : zE) (σ : zS) (ni : Nat) (tx : Nat → Int) (ec : Nat) (eo : Int) (U : zSU) (S : zST) (hh : List zST) (kp : Option zST) (ou : List Nat) (y : Int) (h : zCP σ (zDv.mk ni tx ec eo U S hh kp ou)) (hnq : zNq U) (hy : U.s0 ≤ y ∧ y ≤ U.s0 + 999) : zRh l E yL_report cL_report 4 [(0, 9, 12, 13)] (zrm 7 170) 0 0 [.ref (ob E 0), .int (zI y), .ref (ob E 339)] σ (fun r τ => r = zI 0 ∧ ∃ (v : Int32) (υ : zS), (fun r τ => r = zI ((rpL U S y U.nb).length : Int) ∧ zCP τ ((zDv.mk ni tx ec eo U S hh kp ou).sO (rpL U S y U.nb)) ∧ zFr 0 327 σ τ) v υ ∧ τ = sJ υ 339 0 v.toInt64) := by
  refine zMetH hfl (by decide) rfl (Nat.le_of_ble_eq_true rfl) ?_
  intro p e s m args below meth c C hr htab
  refine (?_ : zV p l e _ s m args below meth c 4 E _ 0 0 σ 0 [(0, .ref (ob E 0)), (1, .int (zI y)), (2, .ref (ob E 339))] [])
  refine zv_aload_n C 2 dL_report_0 rfl rfl ?_
  refine zv_iconst (v := zI 0) C dL_report_1 rfl ?_
  refine zv_aload_n C 0 dL_report_2 rfl rfl ?_
  refine zv_iload_n C 1 dL_report_3 rfl rfl ?_
  refine zv_cvi (st := [.int (zI 0), .ref (ob E 339)]) C (c_X10_report hfl E σ ni tx ec eo U S hh kp ou y h hnq hy) mX10_report kL_158 (by decide : kd 0 = 9) rfl rfl rfl ⟨rfl, rfl⟩ (show zfit (zrm 6 148) 3 (zrm 7 170) = true from rfl) (Nat.le_of_ble_eq_true rfl) dL_report_4 ⟨Nat.zero_le _, Nat.zero_le _⟩ (fun r4 τ4 hp4 => ?_)
  refine zv_i2l C dL_report_7 ?_
  refine zv_last (j := 0) C (by decide : kd 339 = _) (zI_ix (by omega)) (by decide) dL_report_8 ?_
  refine zv_goto (tgt := 15) C dL_report_9 (by decide) ?_
  refine zv_iconst (v := zI 0) C dL_report_15 rfl ?_
  exact zv_iret C hr rfl dL_report_16 ⟨rfl, r4, τ4, hp4, rfl⟩
set_option maxRecDepth 20000 in
theorem w_x1_X10_report {l : Launch} (hfl : l.stackTraces = false) (E : zE) (σ : zS) (U : zSU) (y : Int) (hU : zSUp σ 29 U) (hyi : -2147483648 ≤ y ∧ y < 2147483648) (hno : ¬ (U.s0 ≤ y ∧ y ≤ U.s0 + 999)) : zRh l E yL_report cL_report 4 [(0, 9, 12, 13)] (zrx 10 222) 1 6 [.ref (ob E 0), .int (zI y), .ref (ob E 339)] σ (fun r τ => r = zI 1 ∧ (fun u => u = σ) τ) := by
  refine zMetH hfl (by decide) rfl (Nat.le_of_ble_eq_true rfl) ?_
  intro p e s m args below meth c C hr htab
  refine (?_ : zV p l e _ s m args below meth c 4 E _ 0 0 σ 0 [(0, .ref (ob E 0)), (1, .int (zI y)), (2, .ref (ob E 339))] [])
  have hpass : ∀ z ∈ tableOf [], z.catchType ≠ 0 ∧ ∃ nm' : String, Cond.classLink RL z.catchType nm' ∈ zT ∧ ("java/lang/IllegalArgumentException", nm') ∈ zNc := fun z hz => by
    cases hz
  refine zv_aload_n C 2 dL_report_0 rfl rfl ?_
  refine zv_iconst (v := zI 0) C dL_report_1 rfl ?_
  refine zv_aload_n C 0 dL_report_2 rfl rfl ?_
  refine zv_iload_n C 1 dL_report_3 rfl rfl ?_
  refine zv_xcatch (st := [.int (zI 0), .ref (ob E 339)]) C (x1_X10_report hfl E σ U y hU hyi hno) (pre := tableOf []) (suf := tableOf []) (x := ⟨0, 9, 12, 13⟩) htab hpass (by decide) (by decide) zcl_13 zca_13 mX10_report kL_158 (by decide : kd 0 = 9) rfl rfl rfl ⟨rfl, rfl⟩ (show zfit (zrx 9 200) 3 (zrx 10 222) = true from rfl) (Nat.le_of_ble_eq_true rfl) dL_report_4 ⟨Nat.le_of_ble_eq_true rfl, Nat.le_of_ble_eq_true rfl⟩ (fun q9 τ9 hp9 => ?_)
  refine zv_astore_n (lv' := [(3, .ref q9), (0, .ref (ob E 0)), (1, .int (zI y)), (2, .ref (ob E 339))]) C dL_report_12 rfl (by decide) rfl ?_
  refine zv_iconst (v := zI 1) C dL_report_13 rfl ?_
  exact zv_iretN C hr rfl dL_report_14 ⟨rfl, hp9⟩
set_option maxRecDepth 20000 in
theorem w_c_X10_printTrain {l : Launch} (hfl : l.stackTraces = false) (E : zE) (σ : zS) (ni : Nat) (tx : Nat → Int) (ec : Nat) (eo : Int) (U : zSU) (S : zST) (hh : List zST) (kp : Option zST) (ou : List Nat) (i : Nat) (h : zCP σ (zDv.mk ni tx ec eo U S hh kp ou)) (hi : i < U.nb) : zRh l E yL_printTrain cL_printTrain 4 [(0, 9, 12, 19)] (zrm 5 128) 0 0 [.ref (ob E 0), .int (zI (i : Int)), .ref (ob E 339)] σ (fun r τ => r = zI 0 ∧ ∃ (v : Int32) (υ : zS), (fun r τ => r = zI ((ptF U S i).length : Int) ∧ zCP τ ((zDv.mk ni tx ec eo U S hh kp ou).sO (ptF U S i)) ∧ zFr 0 327 σ τ) v υ ∧ τ = sJ υ 339 0 v.toInt64) := by
  refine zMetH hfl (by decide) rfl (Nat.le_of_ble_eq_true rfl) ?_
  intro p e s m args below meth c C hr htab
  refine (?_ : zV p l e _ s m args below meth c 4 E _ 0 0 σ 0 [(0, .ref (ob E 0)), (1, .int (zI (i : Int))), (2, .ref (ob E 339))] [])
  refine zv_aload_n C 2 dL_printTrain_0 rfl rfl ?_
  refine zv_iconst (v := zI 0) C dL_printTrain_1 rfl ?_
  refine zv_aload_n C 0 dL_printTrain_2 rfl rfl ?_
  refine zv_iload_n C 1 dL_printTrain_3 rfl rfl ?_
  refine zv_cvi (st := [.int (zI 0), .ref (ob E 339)]) C (c_X10_printTrain hfl E σ ni tx ec eo U S hh kp ou i h hi) mX10_printTrain kL_161 (by decide : kd 0 = 9) rfl rfl rfl ⟨rfl, rfl⟩ (show zfit (zrm 4 105) 4 (zrm 5 128) = true from rfl) (Nat.le_of_ble_eq_true rfl) dL_printTrain_4 ⟨Nat.zero_le _, Nat.zero_le _⟩ (fun r4 τ4 hp4 => ?_)
  refine zv_i2l C dL_printTrain_7 ?_
  refine zv_last (j := 0) C (by decide : kd 339 = _) (zI_ix (by omega)) (by decide) dL_printTrain_8 ?_
  refine zv_goto (tgt := 15) C dL_printTrain_9 (by decide) ?_
  refine zv_iconst (v := zI 0) C dL_printTrain_15 rfl ?_
  exact zv_iret C hr rfl dL_printTrain_16 ⟨rfl, r4, τ4, hp4, rfl⟩
set_option maxRecDepth 20000 in
theorem w_x1_X10_printTrain {l : Launch} (hfl : l.stackTraces = false) (E : zE) (σ : zS) (U : zSU) (b : Int) (hU : zSUp σ 29 U) (hbi : -2147483648 ≤ b ∧ b < 2147483648) (hno : ¬ (0 ≤ b ∧ b < U.nb)) : zRh l E yL_printTrain cL_printTrain 4 [(0, 9, 12, 19)] (zrx 13 323) 1 6 [.ref (ob E 0), .int (zI b), .ref (ob E 339)] σ (fun r τ => r = zI 1 ∧ (fun u => u = σ) τ) := by
  refine zMetH hfl (by decide) rfl (Nat.le_of_ble_eq_true rfl) ?_
  intro p e s m args below meth c C hr htab
  refine (?_ : zV p l e _ s m args below meth c 4 E _ 0 0 σ 0 [(0, .ref (ob E 0)), (1, .int (zI b)), (2, .ref (ob E 339))] [])
  have hpass : ∀ z ∈ tableOf [], z.catchType ≠ 0 ∧ ∃ nm' : String, Cond.classLink RL z.catchType nm' ∈ zT ∧ ("java/lang/IndexOutOfBoundsException", nm') ∈ zNc := fun z hz => by
    cases hz
  refine zv_aload_n C 2 dL_printTrain_0 rfl rfl ?_
  refine zv_iconst (v := zI 0) C dL_printTrain_1 rfl ?_
  refine zv_aload_n C 0 dL_printTrain_2 rfl rfl ?_
  refine zv_iload_n C 1 dL_printTrain_3 rfl rfl ?_
  refine zv_xcatch (st := [.int (zI 0), .ref (ob E 339)]) C (x1_X10_printTrain hfl E σ U b hU hbi hno) (pre := tableOf []) (suf := tableOf []) (x := ⟨0, 9, 12, 19⟩) htab hpass (by decide) (by decide) zcl_19 zca_19 mX10_printTrain kL_161 (by decide : kd 0 = 9) rfl rfl rfl ⟨rfl, rfl⟩ (show zfit (zrx 12 300) 4 (zrx 13 323) = true from rfl) (Nat.le_of_ble_eq_true rfl) dL_printTrain_4 ⟨Nat.le_of_ble_eq_true rfl, Nat.le_of_ble_eq_true rfl⟩ (fun q9 τ9 hp9 => ?_)
  refine zv_astore_n (lv' := [(3, .ref q9), (0, .ref (ob E 0)), (1, .int (zI b)), (2, .ref (ob E 339))]) C dL_printTrain_12 rfl (by decide) rfl ?_
  refine zv_iconst (v := zI 1) C dL_printTrain_13 rfl ?_
  exact zv_iretN C hr rfl dL_printTrain_14 ⟨rfl, hp9⟩
set_option maxRecDepth 20000 in
theorem w_c_X10_restoreState {l : Launch} (hfl : l.stackTraces = false) (E : zE) (σ : zS) (ni : Nat) (tx : Nat → Int) (ec : Nat) (eo : Int) (U : zSU) (S : zST) (hh : List zST) (ou : List Nat) (S1 : zST) (h : zCP σ (zDv.mk ni tx ec eo U S hh (some S1) ou)) : zRh l E yL_restoreState cL_restoreState 3 [(0, 8, 11, 90)] (zrm 5 144) 0 0 [.ref (ob E 0), .ref (ob E 339)] σ (fun r τ => r = zI 0 ∧ ∃ (v : Int32) (υ : zS), (fun r τ => r = zI (S1.dy : Int) ∧ zCP τ (zDv.mk ni tx ec eo U S1 [] (some S1) ou) ∧ zFr 0 327 σ τ) v υ ∧ τ = sJ υ 339 0 v.toInt64) := by
  refine zMetH hfl (by decide) rfl (Nat.le_of_ble_eq_true rfl) ?_
  intro p e s m args below meth c C hr htab
  refine (?_ : zV p l e _ s m args below meth c 3 E _ 0 0 σ 0 [(0, .ref (ob E 0)), (1, .ref (ob E 339))] [])
  refine zv_aload_n C 1 dL_restoreState_0 rfl rfl ?_
  refine zv_iconst (v := zI 0) C dL_restoreState_1 rfl ?_
  refine zv_aload_n C 0 dL_restoreState_2 rfl rfl ?_
  refine zv_cvi (st := [.int (zI 0), .ref (ob E 339)]) C (c_X10_restoreState hfl E σ ni tx ec eo U S hh ou S1 h) mX10_restoreState kL_164 (by decide : kd 0 = 9) rfl rfl rfl ⟨rfl, rfl⟩ (show zfit (zrm 4 124) 1 (zrm 5 144) = true from rfl) (Nat.le_of_ble_eq_true rfl) dL_restoreState_3 ⟨Nat.zero_le _, Nat.zero_le _⟩ (fun r3 τ3 hp3 => ?_)
  refine zv_i2l C dL_restoreState_6 ?_
  refine zv_last (j := 0) C (by decide : kd 339 = _) (zI_ix (by omega)) (by decide) dL_restoreState_7 ?_
  refine zv_goto (tgt := 14) C dL_restoreState_8 (by decide) ?_
  refine zv_iconst (v := zI 0) C dL_restoreState_14 rfl ?_
  exact zv_iret C hr rfl dL_restoreState_15 ⟨rfl, r3, τ3, hp3, rfl⟩
set_option maxRecDepth 20000 in
theorem w_x1_X10_restoreState {l : Launch} (hfl : l.stackTraces = false) (E : zE) (σ : zS) (ni : Nat) (tx : Nat → Int) (ec : Nat) (eo : Int) (U : zSU) (S : zST) (hh : List zST) (ou : List Nat) (h : zCP σ (zDv.mk ni tx ec eo U S hh none ou)) : zRh l E yL_restoreState cL_restoreState 3 [(0, 8, 11, 90)] (zrx 10 220) 1 6 [.ref (ob E 0), .ref (ob E 339)] σ (fun r τ => r = zI 1 ∧ (fun u => u = σ) τ) := by
  refine zMetH hfl (by decide) rfl (Nat.le_of_ble_eq_true rfl) ?_
  intro p e s m args below meth c C hr htab
  refine (?_ : zV p l e _ s m args below meth c 3 E _ 0 0 σ 0 [(0, .ref (ob E 0)), (1, .ref (ob E 339))] [])
  have hpass : ∀ z ∈ tableOf [], z.catchType ≠ 0 ∧ ∃ nm' : String, Cond.classLink RL z.catchType nm' ∈ zT ∧ ("java/lang/IllegalStateException", nm') ∈ zNc := fun z hz => by
    cases hz
  refine zv_aload_n C 1 dL_restoreState_0 rfl rfl ?_
  refine zv_iconst (v := zI 0) C dL_restoreState_1 rfl ?_
  refine zv_aload_n C 0 dL_restoreState_2 rfl rfl ?_
  refine zv_xcatch (st := [.int (zI 0), .ref (ob E 339)]) C (x1_X10_restoreState hfl E σ ni tx ec eo U S hh ou h) (pre := tableOf []) (suf := tableOf []) (x := ⟨0, 8, 11, 90⟩) htab hpass (by decide) (by decide) zcl_90 zca_90 mX10_restoreState kL_164 (by decide : kd 0 = 9) rfl rfl rfl ⟨rfl, rfl⟩ (show zfit (zrx 9 200) 1 (zrx 10 220) = true from rfl) (Nat.le_of_ble_eq_true rfl) dL_restoreState_3 ⟨Nat.le_of_ble_eq_true rfl, Nat.le_of_ble_eq_true rfl⟩ (fun q9 τ9 hp9 => ?_)
  refine zv_astore_n (lv' := [(2, .ref q9), (0, .ref (ob E 0)), (1, .ref (ob E 339))]) C dL_restoreState_11 rfl (by decide) rfl ?_
  refine zv_iconst (v := zI 1) C dL_restoreState_12 rfl ?_
  exact zv_iretN C hr rfl dL_restoreState_13 ⟨rfl, hp9⟩
