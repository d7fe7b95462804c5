set_option maxRecDepth 20000 in
theorem w_c_X10_count {l : Launch} (hfl : l.stackTraces = false) (E : zE) (σ : zS) (U : zSU) (S : zST) (q : Nat) (y : Int) (hU : zSUp σ 29 U) (hS : zSTp σ 34 S) (hq : gI σ 54 2 = zI (q : Int)) (hy : 0 ≤ y ∧ y ≤ 6) : zRh l E yL_count cL_count 4 [(0, 9, 12, 13)] (zrm 4 88) 0 0 [.ref (ob E 0), .int (zI y), .ref (ob E 339)] σ (fun r τ => r = zI 0 ∧ ∃ (v : Int32) (υ : zS), (fun r τ => r = zI (dCnt U S q y) ∧ τ = σ) v υ ∧ τ = sJ υ 339 0 v.toInt64) := by
  refine zMetH hfl (by decide) rfl (Nat.le_of_ble_eq_true rfl) ?_
  intro p e s m args below meth c C hr htab
  refine (?_ : zV p l e _ s m args below meth c 4 E _ 0 0 σ 0 [(0, .ref (ob E 0)), (1, .int (zI y)), (2, .ref (ob E 339))] [])
  refine zv_aload_n C 2 dL_count_0 rfl rfl ?_
  refine zv_iconst (v := zI 0) C dL_count_1 rfl ?_
  refine zv_aload_n C 0 dL_count_2 rfl rfl ?_
  refine zv_iload_n C 1 dL_count_3 rfl rfl ?_
  refine zv_cvi (st := [.int (zI 0), .ref (ob E 339)]) C (c_X10_count hfl E σ U S q y hU hS hq hy) mX10_count kL_7 (by decide : kd 0 = 9) rfl rfl rfl ⟨rfl, rfl⟩ (show zfit (zrm 3 67) 2 (zrm 4 88) = true from rfl) (Nat.le_of_ble_eq_true rfl) dL_count_4 ⟨Nat.zero_le _, Nat.zero_le _⟩ (fun r4 τ4 hp4 => ?_)
  refine zv_i2l C dL_count_7 ?_
  refine zv_last (j := 0) C (by decide : kd 339 = _) (zI_ix (by omega)) (by decide) dL_count_8 ?_
  refine zv_goto (tgt := 15) C dL_count_9 (by decide) ?_
  refine zv_iconst (v := zI 0) C dL_count_15 rfl ?_
  exact zv_iret C hr rfl dL_count_16 ⟨rfl, r4, τ4, hp4, rfl⟩
set_option maxRecDepth 20000 in
theorem w_x1_X10_count {l : Launch} (hfl : l.stackTraces = false) (E : zE) (σ : zS) (U : zSU) (y : Int) (hyi : -2147483648 ≤ y ∧ y < 2147483648) (hno : ¬ (0 ≤ y ∧ y ≤ 6)) : zRh l E yL_count cL_count 4 [(0, 9, 12, 13)] (zrx 10 221) 1 6 [.ref (ob E 0), .int (zI y), .ref (ob E 339)] σ (fun r τ => r = zI 1 ∧ (fun u => u = σ) τ) := by
  refine zMetH hfl (by decide) rfl (Nat.le_of_ble_eq_true rfl) ?_
  intro p e s m args below meth c C hr htab
  refine (?_ : zV p l e _ s m args below meth c 4 E _ 0 0 σ 0 [(0, .ref (ob E 0)), (1, .int (zI y)), (2, .ref (ob E 339))] [])
  have hpass : ∀ z ∈ tableOf [], z.catchType ≠ 0 ∧ ∃ nm' : String, Cond.classLink RL z.catchType nm' ∈ zT ∧ ("java/lang/IllegalArgumentException", nm') ∈ zNc := fun z hz => by
    cases hz
  refine zv_aload_n C 2 dL_count_0 rfl rfl ?_
  refine zv_iconst (v := zI 0) C dL_count_1 rfl ?_
  refine zv_aload_n C 0 dL_count_2 rfl rfl ?_
  refine zv_iload_n C 1 dL_count_3 rfl rfl ?_
  refine zv_xcatch (st := [.int (zI 0), .ref (ob E 339)]) C (x1_X10_count hfl E σ U y hyi hno) (pre := tableOf []) (suf := tableOf []) (x := ⟨0, 9, 12, 13⟩) htab hpass (by decide) (by decide) zcl_13 zca_13 mX10_count kL_7 (by decide : kd 0 = 9) rfl rfl rfl ⟨rfl, rfl⟩ (show zfit (zrx 9 200) 2 (zrx 10 221) = true from rfl) (Nat.le_of_ble_eq_true rfl) dL_count_4 ⟨Nat.le_of_ble_eq_true rfl, Nat.le_of_ble_eq_true rfl⟩ (fun q9 τ9 hp9 => ?_)
  refine zv_astore_n (lv' := [(3, .ref q9), (0, .ref (ob E 0)), (1, .int (zI y)), (2, .ref (ob E 339))]) C dL_count_12 rfl (by decide) rfl ?_
  refine zv_iconst (v := zI 1) C dL_count_13 rfl ?_
  exact zv_iretN C hr rfl dL_count_14 ⟨rfl, hp9⟩
set_option maxRecDepth 20000 in
theorem w_c_X10_body {l : Launch} (hfl : l.stackTraces = false) (E : zE) (σ : zS) (U : zSU) (S : zST) (i : Nat) (y : Int) (hU : zSUp σ 29 U) (hS : zSTp σ 34 S) (hi : i < U.nb) (hy : 0 ≤ y ∧ y ≤ 5) : zRh l E yL_body cL_body 5 [(0, 10, 13, 19), (0, 10, 17, 13)] (zrm 3 67) 0 0 [.ref (ob E 0), .int (zI (i : Int)), .int (zI y), .ref (ob E 339)] σ (fun r τ => r = zI 0 ∧ ∃ (v : Int32) (υ : zS), (fun r τ => r = zI (dBod U S i y) ∧ τ = σ) v υ ∧ τ = sJ υ 339 0 v.toInt64) := by
  refine zMetH hfl (by decide) rfl (Nat.le_of_ble_eq_true rfl) ?_
  intro p e s m args below meth c C hr htab
  refine (?_ : zV p l e _ s m args below meth c 5 E _ 0 0 σ 0 [(0, .ref (ob E 0)), (1, .int (zI (i : Int))), (2, .int (zI y)), (3, .ref (ob E 339))] [])
  refine zv_aload_n C 3 dL_body_0 rfl rfl ?_
  refine zv_iconst (v := zI 0) C dL_body_1 rfl ?_
  refine zv_aload_n C 0 dL_body_2 rfl rfl ?_
  refine zv_iload_n C 1 dL_body_3 rfl rfl ?_
  refine zv_iload_n C 2 dL_body_4 rfl rfl ?_
  refine zv_cvi (st := [.int (zI 0), .ref (ob E 339)]) C (c_X10_body hfl E σ U S i y hU hS hi hy) mX10_body kL_15 (by decide : kd 0 = 9) rfl rfl rfl ⟨rfl, rfl⟩ (show zfit (zrm 2 45) 3 (zrm 3 67) = true from rfl) (Nat.le_of_ble_eq_true rfl) dL_body_5 ⟨Nat.zero_le _, Nat.zero_le _⟩ (fun r5 τ5 hp5 => ?_)
  refine zv_i2l C dL_body_8 ?_
  refine zv_last (j := 0) C (by decide : kd 339 = _) (zI_ix (by omega)) (by decide) dL_body_9 ?_
  refine zv_goto (tgt := 21) C dL_body_10 (by decide) ?_
  refine zv_iconst (v := zI 0) C dL_body_21 rfl ?_
  exact zv_iret C hr rfl dL_body_22 ⟨rfl, r5, τ5, hp5, rfl⟩
set_option maxRecDepth 20000 in
theorem w_x1_X10_body {l : Launch} (hfl : l.stackTraces = false) (E : zE) (σ : zS) (U : zSU) (b : Int) (y : Int) (hU : zSUp σ 29 U) (hbi : -2147483648 ≤ b ∧ b < 2147483648) (hno : ¬ (0 ≤ b ∧ b < U.nb)) : zRh l E yL_body cL_body 5 [(0, 10, 13, 19), (0, 10, 17, 13)] (zrx 10 222) 1 6 [.ref (ob E 0), .int (zI b), .int (zI y), .ref (ob E 339)] σ (fun r τ => r = zI 1 ∧ (fun u => u = σ) τ) := by
  refine zMetH hfl (by decide) rfl (Nat.le_of_ble_eq_true rfl) ?_
  intro p e s m args below meth c C hr htab
  refine (?_ : zV p l e _ s m args below meth c 5 E _ 0 0 σ 0 [(0, .ref (ob E 0)), (1, .int (zI b)), (2, .int (zI y)), (3, .ref (ob E 339))] [])
  have hpass : ∀ z ∈ tableOf [], z.catchType ≠ 0 ∧ ∃ nm' : String, Cond.classLink RL z.catchType nm' ∈ zT ∧ ("java/lang/IndexOutOfBoundsException", nm') ∈ zNc := fun z hz => by
    cases hz
  refine zv_aload_n C 3 dL_body_0 rfl rfl ?_
  refine zv_iconst (v := zI 0) C dL_body_1 rfl ?_
  refine zv_aload_n C 0 dL_body_2 rfl rfl ?_
  refine zv_iload_n C 1 dL_body_3 rfl rfl ?_
  refine zv_iload_n C 2 dL_body_4 rfl rfl ?_
  refine zv_xcatch (st := [.int (zI 0), .ref (ob E 339)]) C (x1_X10_body hfl E σ U b y hU hbi hno) (pre := tableOf []) (suf := tableOf [(0, 10, 17, 13)]) (x := ⟨0, 10, 13, 19⟩) htab hpass (by decide) (by decide) zcl_19 zca_19 mX10_body kL_15 (by decide : kd 0 = 9) rfl rfl rfl ⟨rfl, rfl⟩ (show zfit (zrx 9 200) 3 (zrx 10 222) = true from rfl) (Nat.le_of_ble_eq_true rfl) dL_body_5 ⟨Nat.le_of_ble_eq_true rfl, Nat.le_of_ble_eq_true rfl⟩ (fun q9 τ9 hp9 => ?_)
  refine zv_astore (lv' := [(4, .ref q9), (0, .ref (ob E 0)), (1, .int (zI b)), (2, .int (zI y)), (3, .ref (ob E 339))]) C dL_body_13  (by decide) rfl ?_
  refine zv_iconst (v := zI 1) C dL_body_15 rfl ?_
  exact zv_iretN C hr rfl dL_body_16 ⟨rfl, hp9⟩
set_option maxRecDepth 20000 in
theorem w_x2_X10_body {l : Launch} (hfl : l.stackTraces = false) (E : zE) (σ : zS) (U : zSU) (S : zST) (i : Nat) (y : Int) (hU : zSUp σ 29 U) (hi : i < U.nb) (hyi : -2147483648 ≤ y ∧ y < 2147483648) (hno : ¬ (0 ≤ y ∧ y ≤ 5)) : zRh l E yL_body cL_body 5 [(0, 10, 13, 19), (0, 10, 17, 13)] (zrx 10 222) 1 6 [.ref (ob E 0), .int (zI (i : Int)), .int (zI y), .ref (ob E 339)] σ (fun r τ => r = zI 2 ∧ (fun u => u = σ) τ) := by
  refine zMetH hfl (by decide) rfl (Nat.le_of_ble_eq_true rfl) ?_
  intro p e s m args below meth c C hr htab
  refine (?_ : zV p l e _ s m args below meth c 5 E _ 0 0 σ 0 [(0, .ref (ob E 0)), (1, .int (zI (i : Int))), (2, .int (zI y)), (3, .ref (ob E 339))] [])
  have hpass : ∀ z ∈ tableOf [(0, 10, 13, 19)], z.catchType ≠ 0 ∧ ∃ nm' : String, Cond.classLink RL z.catchType nm' ∈ zT ∧ ("java/lang/IllegalArgumentException", nm') ∈ zNc := fun z hz => by
    simp only [tableOf, List.map_cons, List.map_nil, List.mem_cons, List.not_mem_nil, or_false] at hz
    rcases hz with rfl
    · exact ⟨by decide, "java/lang/IndexOutOfBoundsException", zcl_19, by decide⟩
  refine zv_aload_n C 3 dL_body_0 rfl rfl ?_
  refine zv_iconst (v := zI 0) C dL_body_1 rfl ?_
  refine zv_aload_n C 0 dL_body_2 rfl rfl ?_
  refine zv_iload_n C 1 dL_body_3 rfl rfl ?_
  refine zv_iload_n C 2 dL_body_4 rfl rfl ?_
  refine zv_xcatch (st := [.int (zI 0), .ref (ob E 339)]) C (x2_X10_body hfl E σ U S i y hU hi hyi hno) (pre := tableOf [(0, 10, 13, 19)]) (suf := tableOf []) (x := ⟨0, 10, 17, 13⟩) htab hpass (by decide) (by decide) zcl_13 zca_13 mX10_body kL_15 (by decide : kd 0 = 9) rfl rfl rfl ⟨rfl, rfl⟩ (show zfit (zrx 9 200) 3 (zrx 10 222) = true from rfl) (Nat.le_of_ble_eq_true rfl) dL_body_5 ⟨Nat.le_of_ble_eq_true rfl, Nat.le_of_ble_eq_true rfl⟩ (fun q9 τ9 hp9 => ?_)
  refine zv_astore (lv' := [(4, .ref q9), (0, .ref (ob E 0)), (1, .int (zI (i : Int))), (2, .int (zI y)), (3, .ref (ob E 339))]) C dL_body_17  (by decide) rfl ?_
  refine zv_iconst (v := zI 2) C dL_body_19 rfl ?_
  exact zv_iretN C hr rfl dL_body_20 ⟨rfl, hp9⟩
set_option maxRecDepth 20000 in
theorem w_c_X10_part {l : Launch} (hfl : l.stackTraces = false) (E : zE) (σ : zS) (U : zSU) (S : zST) (i : Nat) (j w : Nat) (hU : zSUp σ 29 U) (hS : zSTp σ 34 S) (hi : i < U.nb) (hj : j < S.tn i) (hw : w < 3) : zRh l E yL_part cL_part 6 [(0, 12, 15, 19), (0, 12, 19, 25), (0, 12, 23, 13)] (zrm 2 47) 0 0 [.ref (ob E 0), .int (zI (i : Int)), .int (zI (j : Int)), .int (zI (w : Int)), .ref (ob E 339)] σ (fun r τ => r = zI 0 ∧ ∃ (v : Int32) (υ : zS), (fun r τ => r = zI (S.tr i j w : Int) ∧ τ = σ) v υ ∧ τ = sJ υ 339 0 v.toInt64) := by
  refine zMetH hfl (by decide) rfl (Nat.le_of_ble_eq_true rfl) ?_
  intro p e s m args below meth c C hr htab
  refine (?_ : zV p l e _ s m args below meth c 6 E _ 0 0 σ 0 [(0, .ref (ob E 0)), (1, .int (zI (i : Int))), (2, .int (zI (j : Int))), (3, .int (zI (w : Int))), (4, .ref (ob E 339))] [])
  refine zv_aload C 4 dL_part_0 rfl ?_
  refine zv_iconst (v := zI 0) C dL_part_2 rfl ?_
  refine zv_aload_n C 0 dL_part_3 rfl rfl ?_
  refine zv_iload_n C 1 dL_part_4 rfl rfl ?_
  refine zv_iload_n C 2 dL_part_5 rfl rfl ?_
  refine zv_iload_n C 3 dL_part_6 rfl rfl ?_
  refine zv_cvi (st := [.int (zI 0), .ref (ob E 339)]) C (c_X10_part hfl E σ U S i j w hU hS hi hj hw) mX10_part kL_21 (by decide : kd 0 = 9) rfl rfl rfl ⟨rfl, rfl⟩ (show zfit (zrm 1 23) 5 (zrm 2 47) = true from rfl) (Nat.le_of_ble_eq_true rfl) dL_part_7 ⟨Nat.zero_le _, Nat.zero_le _⟩ (fun r7 τ7 hp7 => ?_)
  refine zv_i2l C dL_part_10 ?_
  refine zv_last (j := 0) C (by decide : kd 339 = _) (zI_ix (by omega)) (by decide) dL_part_11 ?_
  refine zv_goto (tgt := 27) C dL_part_12 (by decide) ?_
  refine zv_iconst (v := zI 0) C dL_part_27 rfl ?_
  exact zv_iret C hr rfl dL_part_28 ⟨rfl, r7, τ7, hp7, rfl⟩
set_option maxRecDepth 20000 in
theorem w_x1_X10_part {l : Launch} (hfl : l.stackTraces = false) (E : zE) (σ : zS) (U : zSU) (b : Int) (y : Int) (z : Int) (hU : zSUp σ 29 U) (hbi : -2147483648 ≤ b ∧ b < 2147483648) (hno : ¬ (0 ≤ b ∧ b < U.nb)) : zRh l E yL_part cL_part 6 [(0, 12, 15, 19), (0, 12, 19, 25), (0, 12, 23, 13)] (zrx 10 224) 1 6 [.ref (ob E 0), .int (zI b), .int (zI y), .int (zI z), .ref (ob E 339)] σ (fun r τ => r = zI 1 ∧ (fun u => u = σ) τ) := by
  refine zMetH hfl (by decide) rfl (Nat.le_of_ble_eq_true rfl) ?_
  intro p e s m args below meth c C hr htab
  refine (?_ : zV p l e _ s m args below meth c 6 E _ 0 0 σ 0 [(0, .ref (ob E 0)), (1, .int (zI b)), (2, .int (zI y)), (3, .int (zI z)), (4, .ref (ob E 339))] [])
  have hpass : ∀ z ∈ tableOf [], z.catchType ≠ 0 ∧ ∃ nm' : String, Cond.classLink RL z.catchType nm' ∈ zT ∧ ("java/lang/IndexOutOfBoundsException", nm') ∈ zNc := fun z hz => by
    cases hz
  refine zv_aload C 4 dL_part_0 rfl ?_
  refine zv_iconst (v := zI 0) C dL_part_2 rfl ?_
  refine zv_aload_n C 0 dL_part_3 rfl rfl ?_
  refine zv_iload_n C 1 dL_part_4 rfl rfl ?_
  refine zv_iload_n C 2 dL_part_5 rfl rfl ?_
  refine zv_iload_n C 3 dL_part_6 rfl rfl ?_
  refine zv_xcatch (st := [.int (zI 0), .ref (ob E 339)]) C (x1_X10_part hfl E σ U b y z hU hbi hno) (pre := tableOf []) (suf := tableOf [(0, 12, 19, 25), (0, 12, 23, 13)]) (x := ⟨0, 12, 15, 19⟩) htab hpass (by decide) (by decide) zcl_19 zca_19 mX10_part kL_21 (by decide : kd 0 = 9) rfl rfl rfl ⟨rfl, rfl⟩ (show zfit (zrx 9 200) 5 (zrx 10 224) = true from rfl) (Nat.le_of_ble_eq_true rfl) dL_part_7 ⟨Nat.le_of_ble_eq_true rfl, Nat.le_of_ble_eq_true rfl⟩ (fun q9 τ9 hp9 => ?_)
  refine zv_astore (lv' := [(5, .ref q9), (0, .ref (ob E 0)), (1, .int (zI b)), (2, .int (zI y)), (3, .int (zI z)), (4, .ref (ob E 339))]) C dL_part_15  (by decide) rfl ?_
  refine zv_iconst (v := zI 1) C dL_part_17 rfl ?_
  exact zv_iretN C hr rfl dL_part_18 ⟨rfl, hp9⟩
set_option maxRecDepth 20000 in
theorem w_x2_X10_part {l : Launch} (hfl : l.stackTraces = false) (E : zE) (σ : zS) (U : zSU) (S : zST) (i : Nat) (y z : Int) (hU : zSUp σ 29 U) (hS : zSTp σ 34 S) (hi : i < U.nb) (hyi : -2147483648 ≤ y ∧ y < 2147483648) (hno : ¬ (0 ≤ y ∧ y < S.tn i)) : zRh l E yL_part cL_part 6 [(0, 12, 15, 19), (0, 12, 19, 25), (0, 12, 23, 13)] (zrx 10 224) 1 6 [.ref (ob E 0), .int (zI (i : Int)), .int (zI y), .int (zI z), .ref (ob E 339)] σ (fun r τ => r = zI 2 ∧ (fun u => u = σ) τ) := by
  refine zMetH hfl (by decide) rfl (Nat.le_of_ble_eq_true rfl) ?_
  intro p e s m args below meth c C hr htab
  refine (?_ : zV p l e _ s m args below meth c 6 E _ 0 0 σ 0 [(0, .ref (ob E 0)), (1, .int (zI (i : Int))), (2, .int (zI y)), (3, .int (zI z)), (4, .ref (ob E 339))] [])
  have hpass : ∀ z ∈ tableOf [(0, 12, 15, 19)], z.catchType ≠ 0 ∧ ∃ nm' : String, Cond.classLink RL z.catchType nm' ∈ zT ∧ ("java/util/NoSuchElementException", nm') ∈ zNc := fun z hz => by
    simp only [tableOf, List.map_cons, List.map_nil, List.mem_cons, List.not_mem_nil, or_false] at hz
    rcases hz with rfl
    · exact ⟨by decide, "java/lang/IndexOutOfBoundsException", zcl_19, by decide⟩
  refine zv_aload C 4 dL_part_0 rfl ?_
  refine zv_iconst (v := zI 0) C dL_part_2 rfl ?_
  refine zv_aload_n C 0 dL_part_3 rfl rfl ?_
  refine zv_iload_n C 1 dL_part_4 rfl rfl ?_
  refine zv_iload_n C 2 dL_part_5 rfl rfl ?_
  refine zv_iload_n C 3 dL_part_6 rfl rfl ?_
  refine zv_xcatch (st := [.int (zI 0), .ref (ob E 339)]) C (x2_X10_part hfl E σ U S i y z hU hS hi hyi hno) (pre := tableOf [(0, 12, 15, 19)]) (suf := tableOf [(0, 12, 23, 13)]) (x := ⟨0, 12, 19, 25⟩) htab hpass (by decide) (by decide) zcl_25 zca_25 mX10_part kL_21 (by decide : kd 0 = 9) rfl rfl rfl ⟨rfl, rfl⟩ (show zfit (zrx 9 200) 5 (zrx 10 224) = true from rfl) (Nat.le_of_ble_eq_true rfl) dL_part_7 ⟨Nat.le_of_ble_eq_true rfl, Nat.le_of_ble_eq_true rfl⟩ (fun q9 τ9 hp9 => ?_)
  refine zv_astore (lv' := [(5, .ref q9), (0, .ref (ob E 0)), (1, .int (zI (i : Int))), (2, .int (zI y)), (3, .int (zI z)), (4, .ref (ob E 339))]) C dL_part_19  (by decide) rfl ?_
  refine zv_iconst (v := zI 2) C dL_part_21 rfl ?_
  exact zv_iretN C hr rfl dL_part_22 ⟨rfl, hp9⟩
set_option maxRecDepth 20000 in
theorem w_x3_X10_part {l : Launch} (hfl : l.stackTraces = false) (E : zE) (σ : zS) (U : zSU) (S : zST) (i : Nat) (j : Nat) (z : Int) (hU : zSUp σ 29 U) (hS : zSTp σ 34 S) (hi : i < U.nb) (hj : j < S.tn i) (hzi : -2147483648 ≤ z ∧ z < 2147483648) (hno : ¬ (0 ≤ z ∧ z ≤ 2)) : zRh l E yL_part cL_part 6 [(0, 12, 15, 19), (0, 12, 19, 25), (0, 12, 23, 13)] (zrx 10 224) 1 6 [.ref (ob E 0), .int (zI (i : Int)), .int (zI (j : Int)), .int (zI z), .ref (ob E 339)] σ (fun r τ => r = zI 3 ∧ (fun u => u = σ) τ) := by
  refine zMetH hfl (by decide) rfl (Nat.le_of_ble_eq_true rfl) ?_
  intro p e s m args below meth c C hr htab
  refine (?_ : zV p l e _ s m args below meth c 6 E _ 0 0 σ 0 [(0, .ref (ob E 0)), (1, .int (zI (i : Int))), (2, .int (zI (j : Int))), (3, .int (zI z)), (4, .ref (ob E 339))] [])
  have hpass : ∀ z ∈ tableOf [(0, 12, 15, 19), (0, 12, 19, 25)], z.catchType ≠ 0 ∧ ∃ nm' : String, Cond.classLink RL z.catchType nm' ∈ zT ∧ ("java/lang/IllegalArgumentException", nm') ∈ zNc := fun z hz => by
    simp only [tableOf, List.map_cons, List.map_nil, List.mem_cons, List.not_mem_nil, or_false] at hz
    rcases hz with rfl | rfl
    · exact ⟨by decide, "java/lang/IndexOutOfBoundsException", zcl_19, by decide⟩
    · exact ⟨by decide, "java/util/NoSuchElementException", zcl_25, by decide⟩
  refine zv_aload C 4 dL_part_0 rfl ?_
  refine zv_iconst (v := zI 0) C dL_part_2 rfl ?_
  refine zv_aload_n C 0 dL_part_3 rfl rfl ?_
  refine zv_iload_n C 1 dL_part_4 rfl rfl ?_
  refine zv_iload_n C 2 dL_part_5 rfl rfl ?_
  refine zv_iload_n C 3 dL_part_6 rfl rfl ?_
  refine zv_xcatch (st := [.int (zI 0), .ref (ob E 339)]) C (x3_X10_part hfl E σ U S i j z hU hS hi hj hzi hno) (pre := tableOf [(0, 12, 15, 19), (0, 12, 19, 25)]) (suf := tableOf []) (x := ⟨0, 12, 23, 13⟩) htab hpass (by decide) (by decide) zcl_13 zca_13 mX10_part kL_21 (by decide : kd 0 = 9) rfl rfl rfl ⟨rfl, rfl⟩ (show zfit (zrx 9 200) 5 (zrx 10 224) = true from rfl) (Nat.le_of_ble_eq_true rfl) dL_part_7 ⟨Nat.le_of_ble_eq_true rfl, Nat.le_of_ble_eq_true rfl⟩ (fun q9 τ9 hp9 => ?_)
  refine zv_astore (lv' := [(5, .ref q9), (0, .ref (ob E 0)), (1, .int (zI (i : Int))), (2, .int (zI (j : Int))), (3, .int (zI z)), (4, .ref (ob E 339))]) C dL_part_23  (by decide) rfl ?_
  refine zv_iconst (v := zI 3) C dL_part_25 rfl ?_
  exact zv_iretN C hr rfl dL_part_26 ⟨rfl, hp9⟩
set_option maxRecDepth 20000 in
theorem w_c_X10_stock {l : Launch} (hfl : l.stackTraces = false) (E : zE) (σ : zS) (S : zST) (j : Nat) (hS : zSTp σ 34 S) (hj : j < S.n) : zRh l E yL_stock cL_stock 4 [(0, 9, 12, 25)] (zrm 1 21) 0 0 [.ref (ob E 0), .int (zI (j : Int)), .ref (ob E 339)] σ (fun r τ => r = zI 0 ∧ ∃ (v : Int32) (υ : zS), (fun r τ => r = zI (S.f j : Int) ∧ τ = σ) v υ ∧ τ = sJ υ 339 0 v.toInt64) := by
  refine zMetH hfl (by decide) rfl (Nat.le_of_ble_eq_true rfl) ?_
  intro p e s m args below meth c C hr htab
  refine (?_ : zV p l e _ s m args below meth c 4 E _ 0 0 σ 0 [(0, .ref (ob E 0)), (1, .int (zI (j : Int))), (2, .ref (ob E 339))] [])
  refine zv_aload_n C 2 dL_stock_0 rfl rfl ?_
  refine zv_iconst (v := zI 0) C dL_stock_1 rfl ?_
  refine zv_aload_n C 0 dL_stock_2 rfl rfl ?_
  refine zv_iload_n C 1 dL_stock_3 rfl rfl ?_
  refine zv_cvi (st := [.int (zI 0), .ref (ob E 339)]) C (c_X10_stock hfl E σ S j hS hj) mX10_stock kL_27 (by decide : kd 0 = 9) rfl rfl rfl ⟨rfl, rfl⟩ (show zfit (zrm 0 0) 2 (zrm 1 21) = true from rfl) (Nat.le_of_ble_eq_true rfl) dL_stock_4 ⟨Nat.zero_le _, Nat.zero_le _⟩ (fun r4 τ4 hp4 => ?_)
  refine zv_i2l C dL_stock_7 ?_
  refine zv_last (j := 0) C (by decide : kd 339 = _) (zI_ix (by omega)) (by decide) dL_stock_8 ?_
  refine zv_goto (tgt := 15) C dL_stock_9 (by decide) ?_
  refine zv_iconst (v := zI 0) C dL_stock_15 rfl ?_
  exact zv_iret C hr rfl dL_stock_16 ⟨rfl, r4, τ4, hp4, rfl⟩
set_option maxRecDepth 20000 in
theorem w_x1_X10_stock {l : Launch} (hfl : l.stackTraces = false) (E : zE) (σ : zS) (S : zST) (y : Int) (hS : zSTp σ 34 S) (hyi : -2147483648 ≤ y ∧ y < 2147483648) (hno : ¬ (0 ≤ y ∧ y < S.n)) : zRh l E yL_stock cL_stock 4 [(0, 9, 12, 25)] (zrx 10 221) 1 6 [.ref (ob E 0), .int (zI y), .ref (ob E 339)] σ (fun r τ => r = zI 1 ∧ (fun u => u = σ) τ) := by
  refine zMetH hfl (by decide) rfl (Nat.le_of_ble_eq_true rfl) ?_
  intro p e s m args below meth c C hr htab
  refine (?_ : zV p l e _ s m args below meth c 4 E _ 0 0 σ 0 [(0, .ref (ob E 0)), (1, .int (zI y)), (2, .ref (ob E 339))] [])
  have hpass : ∀ z ∈ tableOf [], z.catchType ≠ 0 ∧ ∃ nm' : String, Cond.classLink RL z.catchType nm' ∈ zT ∧ ("java/util/NoSuchElementException", nm') ∈ zNc := fun z hz => by
    cases hz
  refine zv_aload_n C 2 dL_stock_0 rfl rfl ?_
  refine zv_iconst (v := zI 0) C dL_stock_1 rfl ?_
  refine zv_aload_n C 0 dL_stock_2 rfl rfl ?_
  refine zv_iload_n C 1 dL_stock_3 rfl rfl ?_
  refine zv_xcatch (st := [.int (zI 0), .ref (ob E 339)]) C (x1_X10_stock hfl E σ S y hS hyi hno) (pre := tableOf []) (suf := tableOf []) (x := ⟨0, 9, 12, 25⟩) htab hpass (by decide) (by decide) zcl_25 zca_25 mX10_stock kL_27 (by decide : kd 0 = 9) rfl rfl rfl ⟨rfl, rfl⟩ (show zfit (zrx 9 200) 2 (zrx 10 221) = true from rfl) (Nat.le_of_ble_eq_true rfl) dL_stock_4 ⟨Nat.le_of_ble_eq_true rfl, Nat.le_of_ble_eq_true rfl⟩ (fun q9 τ9 hp9 => ?_)
  refine zv_astore_n (lv' := [(3, .ref q9), (0, .ref (ob E 0)), (1, .int (zI y)), (2, .ref (ob E 339))]) C dL_stock_12 rfl (by decide) rfl ?_
  refine zv_iconst (v := zI 1) C dL_stock_13 rfl ?_
  exact zv_iretN C hr rfl dL_stock_14 ⟨rfl, hp9⟩
set_option maxRecDepth 20000 in
theorem w_c_X10_numerator {l : Launch} (hfl : l.stackTraces = false) (E : zE) (σ : zS) (U : zSU) (S : zST) (i : Nat) (hU : zSUp σ 29 U) (hS : zSTp σ 34 S) (hi : i < U.nb) : zRh l E yL_numerator cL_numerator 4 [(0, 8, 11, 19)] (zrm 5 126) 0 0 [.ref (ob E 0), .int (zI (i : Int)), .ref (ob E 339)] σ (fun r τ => r = zI 0 ∧ ∃ (v : Int64) (υ : zS), (fun r τ => r = zL (qPtr U S i).1 ∧ τ = (rW σ 320 (qPtr U S i).1 (qPtr U S i).2)) v υ ∧ τ = sJ υ 339 0 v) := by
  refine zMetH hfl (by decide) rfl (Nat.le_of_ble_eq_true rfl) ?_
  intro p e s m args below meth c C hr htab
  refine (?_ : zV p l e _ s m args below meth c 4 E _ 0 0 σ 0 [(0, .ref (ob E 0)), (1, .int (zI (i : Int))), (2, .ref (ob E 339))] [])
  refine zv_aload_n C 2 dL_numerator_0 rfl rfl ?_
  refine zv_iconst (v := zI 0) C dL_numerator_1 rfl ?_
  refine zv_aload_n C 0 dL_numerator_2 rfl rfl ?_
  refine zv_iload_n C 1 dL_numerator_3 rfl rfl ?_
  refine zv_cvl (st := [.int (zI 0), .ref (ob E 339)]) C (c_X10_numerator hfl E σ U S i hU hS hi) mX10_numerator kL_30 (by decide : kd 0 = 9) rfl rfl rfl ⟨rfl, rfl⟩ (show zfit (zrm 4 105) 2 (zrm 5 126) = true from rfl) (Nat.le_of_ble_eq_true rfl) dL_numerator_4 ⟨Nat.zero_le _, Nat.zero_le _⟩ (fun r4 τ4 hp4 => ?_)
  refine zv_last (j := 0) C (by decide : kd 339 = _) (zI_ix (by omega)) (by decide) dL_numerator_7 ?_
  refine zv_goto (tgt := 14) C dL_numerator_8 (by decide) ?_
  refine zv_iconst (v := zI 0) C dL_numerator_14 rfl ?_
  exact zv_iret C hr rfl dL_numerator_15 ⟨rfl, r4, τ4, hp4, rfl⟩
set_option maxRecDepth 20000 in
theorem w_x1_X10_numerator {l : Launch} (hfl : l.stackTraces = false) (E : zE) (σ : zS) (U : zSU) (b : Int) (hU : zSUp σ 29 U) (hbi : -2147483648 ≤ b ∧ b < 2147483648) (hno : ¬ (0 ≤ b ∧ b < U.nb)) : zRh l E yL_numerator cL_numerator 4 [(0, 8, 11, 19)] (zrx 10 221) 1 6 [.ref (ob E 0), .int (zI b), .ref (ob E 339)] σ (fun r τ => r = zI 1 ∧ (fun u => u = σ) τ) := by
  refine zMetH hfl (by decide) rfl (Nat.le_of_ble_eq_true rfl) ?_
  intro p e s m args below meth c C hr htab
  refine (?_ : zV p l e _ s m args below meth c 4 E _ 0 0 σ 0 [(0, .ref (ob E 0)), (1, .int (zI b)), (2, .ref (ob E 339))] [])
  have hpass : ∀ z ∈ tableOf [], z.catchType ≠ 0 ∧ ∃ nm' : String, Cond.classLink RL z.catchType nm' ∈ zT ∧ ("java/lang/IndexOutOfBoundsException", nm') ∈ zNc := fun z hz => by
    cases hz
  refine zv_aload_n C 2 dL_numerator_0 rfl rfl ?_
  refine zv_iconst (v := zI 0) C dL_numerator_1 rfl ?_
  refine zv_aload_n C 0 dL_numerator_2 rfl rfl ?_
  refine zv_iload_n C 1 dL_numerator_3 rfl rfl ?_
  refine zv_xcatch (st := [.int (zI 0), .ref (ob E 339)]) C (x1_X10_numerator hfl E σ U b hU hbi hno) (pre := tableOf []) (suf := tableOf []) (x := ⟨0, 8, 11, 19⟩) htab hpass (by decide) (by decide) zcl_19 zca_19 mX10_numerator kL_30 (by decide : kd 0 = 9) rfl rfl rfl ⟨rfl, rfl⟩ (show zfit (zrx 9 200) 2 (zrx 10 221) = true from rfl) (Nat.le_of_ble_eq_true rfl) dL_numerator_4 ⟨Nat.le_of_ble_eq_true rfl, Nat.le_of_ble_eq_true rfl⟩ (fun q9 τ9 hp9 => ?_)
  refine zv_astore_n (lv' := [(3, .ref q9), (0, .ref (ob E 0)), (1, .int (zI b)), (2, .ref (ob E 339))]) C dL_numerator_11 rfl (by decide) rfl ?_
  refine zv_iconst (v := zI 1) C dL_numerator_12 rfl ?_
  exact zv_iretN C hr rfl dL_numerator_13 ⟨rfl, hp9⟩
set_option maxRecDepth 20000 in
theorem w_c_X10_denominator {l : Launch} (hfl : l.stackTraces = false) (E : zE) (σ : zS) (U : zSU) (S : zST) (i : Nat) (hU : zSUp σ 29 U) (hS : zSTp σ 34 S) (hi : i < U.nb) : zRh l E yL_denominator cL_denominator 4 [(0, 8, 11, 19)] (zrm 5 126) 0 0 [.ref (ob E 0), .int (zI (i : Int)), .ref (ob E 339)] σ (fun r τ => r = zI 0 ∧ ∃ (v : Int64) (υ : zS), (fun r τ => r = zL (qPtr U S i).2 ∧ τ = (rW σ 320 (qPtr U S i).1 (qPtr U S i).2)) v υ ∧ τ = sJ υ 339 0 v) := by
  refine zMetH hfl (by decide) rfl (Nat.le_of_ble_eq_true rfl) ?_
  intro p e s m args below meth c C hr htab
  refine (?_ : zV p l e _ s m args below meth c 4 E _ 0 0 σ 0 [(0, .ref (ob E 0)), (1, .int (zI (i : Int))), (2, .ref (ob E 339))] [])
  refine zv_aload_n C 2 dL_denominator_0 rfl rfl ?_
  refine zv_iconst (v := zI 0) C dL_denominator_1 rfl ?_
  refine zv_aload_n C 0 dL_denominator_2 rfl rfl ?_
  refine zv_iload_n C 1 dL_denominator_3 rfl rfl ?_
  refine zv_cvl (st := [.int (zI 0), .ref (ob E 339)]) C (c_X10_denominator hfl E σ U S i hU hS hi) mX10_denominator kL_34 (by decide : kd 0 = 9) rfl rfl rfl ⟨rfl, rfl⟩ (show zfit (zrm 4 105) 2 (zrm 5 126) = true from rfl) (Nat.le_of_ble_eq_true rfl) dL_denominator_4 ⟨Nat.zero_le _, Nat.zero_le _⟩ (fun r4 τ4 hp4 => ?_)
  refine zv_last (j := 0) C (by decide : kd 339 = _) (zI_ix (by omega)) (by decide) dL_denominator_7 ?_
  refine zv_goto (tgt := 14) C dL_denominator_8 (by decide) ?_
  refine zv_iconst (v := zI 0) C dL_denominator_14 rfl ?_
  exact zv_iret C hr rfl dL_denominator_15 ⟨rfl, r4, τ4, hp4, rfl⟩
set_option maxRecDepth 20000 in
theorem w_x1_X10_denominator {l : Launch} (hfl : l.stackTraces = false) (E : zE) (σ : zS) (U : zSU) (b : Int) (hU : zSUp σ 29 U) (hbi : -2147483648 ≤ b ∧ b < 2147483648) (hno : ¬ (0 ≤ b ∧ b < U.nb)) : zRh l E yL_denominator cL_denominator 4 [(0, 8, 11, 19)] (zrx 10 221) 1 6 [.ref (ob E 0), .int (zI b), .ref (ob E 339)] σ (fun r τ => r = zI 1 ∧ (fun u => u = σ) τ) := by
  refine zMetH hfl (by decide) rfl (Nat.le_of_ble_eq_true rfl) ?_
  intro p e s m args below meth c C hr htab
  refine (?_ : zV p l e _ s m args below meth c 4 E _ 0 0 σ 0 [(0, .ref (ob E 0)), (1, .int (zI b)), (2, .ref (ob E 339))] [])
  have hpass : ∀ z ∈ tableOf [], z.catchType ≠ 0 ∧ ∃ nm' : String, Cond.classLink RL z.catchType nm' ∈ zT ∧ ("java/lang/IndexOutOfBoundsException", nm') ∈ zNc := fun z hz => by
    cases hz
  refine zv_aload_n C 2 dL_denominator_0 rfl rfl ?_
  refine zv_iconst (v := zI 0) C dL_denominator_1 rfl ?_
  refine zv_aload_n C 0 dL_denominator_2 rfl rfl ?_
  refine zv_iload_n C 1 dL_denominator_3 rfl rfl ?_
  refine zv_xcatch (st := [.int (zI 0), .ref (ob E 339)]) C (x1_X10_denominator hfl E σ U b hU hbi hno) (pre := tableOf []) (suf := tableOf []) (x := ⟨0, 8, 11, 19⟩) htab hpass (by decide) (by decide) zcl_19 zca_19 mX10_denominator kL_34 (by decide : kd 0 = 9) rfl rfl rfl ⟨rfl, rfl⟩ (show zfit (zrx 9 200) 2 (zrx 10 221) = true from rfl) (Nat.le_of_ble_eq_true rfl) dL_denominator_4 ⟨Nat.le_of_ble_eq_true rfl, Nat.le_of_ble_eq_true rfl⟩ (fun q9 τ9 hp9 => ?_)
  refine zv_astore_n (lv' := [(3, .ref q9), (0, .ref (ob E 0)), (1, .int (zI b)), (2, .ref (ob E 339))]) C dL_denominator_11 rfl (by decide) rfl ?_
  refine zv_iconst (v := zI 1) C dL_denominator_12 rfl ?_
  exact zv_iretN C hr rfl dL_denominator_13 ⟨rfl, hp9⟩
set_option maxRecDepth 20000 in
theorem w_c_X10_daysOf {l : Launch} (hfl : l.stackTraces = false) (E : zE) (σ : zS) (U : zSU) (y : Int) (hU : zSUp σ 29 U) (hy : U.s0 ≤ y ∧ y ≤ U.s0 + 999) : zRh l E yL_daysOf cL_daysOf 4 [(0, 9, 12, 13)] (zrm 3 64) 0 0 [.ref (ob E 0), .int (zI y), .ref (ob E 339)] σ (fun r τ => r = zI 0 ∧ ∃ (v : Int32) (υ : zS), (fun r τ => r = zI (yEnd U.s0 y - yEnd U.s0 (y - 1)) ∧ τ = σ) v υ ∧ τ = sJ υ 339 0 v.toInt64) := by
  refine zMetH hfl (by decide) rfl (Nat.le_of_ble_eq_true rfl) ?_
  intro p e s m args below meth c C hr htab
  refine (?_ : zV p l e _ s m args below meth c 4 E _ 0 0 σ 0 [(0, .ref (ob E 0)), (1, .int (zI y)), (2, .ref (ob E 339))] [])
  refine zv_aload_n C 2 dL_daysOf_0 rfl rfl ?_
  refine zv_iconst (v := zI 0) C dL_daysOf_1 rfl ?_
  refine zv_aload_n C 0 dL_daysOf_2 rfl rfl ?_
  refine zv_iload_n C 1 dL_daysOf_3 rfl rfl ?_
  refine zv_cvi (st := [.int (zI 0), .ref (ob E 339)]) C (c_X10_daysOf hfl E σ U y hU hy) mX10_daysOf kL_37 (by decide : kd 0 = 9) rfl rfl rfl ⟨rfl, rfl⟩ (show zfit (zrm 2 43) 2 (zrm 3 64) = true from rfl) (Nat.le_of_ble_eq_true rfl) dL_daysOf_4 ⟨Nat.zero_le _, Nat.zero_le _⟩ (fun r4 τ4 hp4 => ?_)
  refine zv_i2l C dL_daysOf_7 ?_
  refine zv_last (j := 0) C (by decide : kd 339 = _) (zI_ix (by omega)) (by decide) dL_daysOf_8 ?_
  refine zv_goto (tgt := 15) C dL_daysOf_9 (by decide) ?_
  refine zv_iconst (v := zI 0) C dL_daysOf_15 rfl ?_
  exact zv_iret C hr rfl dL_daysOf_16 ⟨rfl, r4, τ4, hp4, rfl⟩
set_option maxRecDepth 20000 in
theorem w_x1_X10_daysOf {l : Launch} (hfl : l.stackTraces = false) (E : zE) (σ : zS) (U : zSU) (y : Int) (hU : zSUp σ 29 U) (hyi : -2147483648 ≤ y ∧ y < 2147483648) (hno : ¬ (U.s0 ≤ y ∧ y ≤ U.s0 + 999)) : zRh l E yL_daysOf cL_daysOf 4 [(0, 9, 12, 13)] (zrx 10 221) 1 6 [.ref (ob E 0), .int (zI y), .ref (ob E 339)] σ (fun r τ => r = zI 1 ∧ (fun u => u = σ) τ) := by
  refine zMetH hfl (by decide) rfl (Nat.le_of_ble_eq_true rfl) ?_
  intro p e s m args below meth c C hr htab
  refine (?_ : zV p l e _ s m args below meth c 4 E _ 0 0 σ 0 [(0, .ref (ob E 0)), (1, .int (zI y)), (2, .ref (ob E 339))] [])
  have hpass : ∀ z ∈ tableOf [], z.catchType ≠ 0 ∧ ∃ nm' : String, Cond.classLink RL z.catchType nm' ∈ zT ∧ ("java/lang/IllegalArgumentException", nm') ∈ zNc := fun z hz => by
    cases hz
  refine zv_aload_n C 2 dL_daysOf_0 rfl rfl ?_
  refine zv_iconst (v := zI 0) C dL_daysOf_1 rfl ?_
  refine zv_aload_n C 0 dL_daysOf_2 rfl rfl ?_
  refine zv_iload_n C 1 dL_daysOf_3 rfl rfl ?_
  refine zv_xcatch (st := [.int (zI 0), .ref (ob E 339)]) C (x1_X10_daysOf hfl E σ U y hU hyi hno) (pre := tableOf []) (suf := tableOf []) (x := ⟨0, 9, 12, 13⟩) htab hpass (by decide) (by decide) zcl_13 zca_13 mX10_daysOf kL_37 (by decide : kd 0 = 9) rfl rfl rfl ⟨rfl, rfl⟩ (show zfit (zrx 9 200) 2 (zrx 10 221) = true from rfl) (Nat.le_of_ble_eq_true rfl) dL_daysOf_4 ⟨Nat.le_of_ble_eq_true rfl, Nat.le_of_ble_eq_true rfl⟩ (fun q9 τ9 hp9 => ?_)
  refine zv_astore_n (lv' := [(3, .ref q9), (0, .ref (ob E 0)), (1, .int (zI y)), (2, .ref (ob E 339))]) C dL_daysOf_12 rfl (by decide) rfl ?_
  refine zv_iconst (v := zI 1) C dL_daysOf_13 rfl ?_
  exact zv_iretN C hr rfl dL_daysOf_14 ⟨rfl, hp9⟩
set_option maxRecDepth 20000 in
theorem w_c_X10_endOf {l : Launch} (hfl : l.stackTraces = false) (E : zE) (σ : zS) (U : zSU) (y : Int) (hU : zSUp σ 29 U) (hy : U.s0 ≤ y ∧ y ≤ U.s0 + 999) : zRh l E yL_endOf cL_endOf 4 [(0, 9, 12, 13)] (zrm 3 64) 0 0 [.ref (ob E 0), .int (zI y), .ref (ob E 339)] σ (fun r τ => r = zI 0 ∧ ∃ (v : Int32) (υ : zS), (fun r τ => r = zI (yEnd U.s0 y) ∧ τ = σ) v υ ∧ τ = sJ υ 339 0 v.toInt64) := by
  refine zMetH hfl (by decide) rfl (Nat.le_of_ble_eq_true rfl) ?_
  intro p e s m args below meth c C hr htab
  refine (?_ : zV p l e _ s m args below meth c 4 E _ 0 0 σ 0 [(0, .ref (ob E 0)), (1, .int (zI y)), (2, .ref (ob E 339))] [])
  refine zv_aload_n C 2 dL_endOf_0 rfl rfl ?_
  refine zv_iconst (v := zI 0) C dL_endOf_1 rfl ?_
  refine zv_aload_n C 0 dL_endOf_2 rfl rfl ?_
  refine zv_iload_n C 1 dL_endOf_3 rfl rfl ?_
  refine zv_cvi (st := [.int (zI 0), .ref (ob E 339)]) C (c_X10_endOf hfl E σ U y hU hy) mX10_endOf kL_40 (by decide : kd 0 = 9) rfl rfl rfl ⟨rfl, rfl⟩ (show zfit (zrm 2 43) 2 (zrm 3 64) = true from rfl) (Nat.le_of_ble_eq_true rfl) dL_endOf_4 ⟨Nat.zero_le _, Nat.zero_le _⟩ (fun r4 τ4 hp4 => ?_)
  refine zv_i2l C dL_endOf_7 ?_
  refine zv_last (j := 0) C (by decide : kd 339 = _) (zI_ix (by omega)) (by decide) dL_endOf_8 ?_
  refine zv_goto (tgt := 15) C dL_endOf_9 (by decide) ?_
  refine zv_iconst (v := zI 0) C dL_endOf_15 rfl ?_
  exact zv_iret C hr rfl dL_endOf_16 ⟨rfl, r4, τ4, hp4, rfl⟩
set_option maxRecDepth 20000 in
theorem w_x1_X10_endOf {l : Launch} (hfl : l.stackTraces = false) (E : zE) (σ : zS) (U : zSU) (y : Int) (hU : zSUp σ 29 U) (hyi : -2147483648 ≤ y ∧ y < 2147483648) (hno : ¬ (U.s0 ≤ y ∧ y ≤ U.s0 + 999)) : zRh l E yL_endOf cL_endOf 4 [(0, 9, 12, 13)] (zrx 10 221) 1 6 [.ref (ob E 0), .int (zI y), .ref (ob E 339)] σ (fun r τ => r = zI 1 ∧ (fun u => u = σ) τ) := by
  refine zMetH hfl (by decide) rfl (Nat.le_of_ble_eq_true rfl) ?_
  intro p e s m args below meth c C hr htab
  refine (?_ : zV p l e _ s m args below meth c 4 E _ 0 0 σ 0 [(0, .ref (ob E 0)), (1, .int (zI y)), (2, .ref (ob E 339))] [])
  have hpass : ∀ z ∈ tableOf [], z.catchType ≠ 0 ∧ ∃ nm' : String, Cond.classLink RL z.catchType nm' ∈ zT ∧ ("java/lang/IllegalArgumentException", nm') ∈ zNc := fun z hz => by
    cases hz
  refine zv_aload_n C 2 dL_endOf_0 rfl rfl ?_
  refine zv_iconst (v := zI 0) C dL_endOf_1 rfl ?_
  refine zv_aload_n C 0 dL_endOf_2 rfl rfl ?_
  refine zv_iload_n C 1 dL_endOf_3 rfl rfl ?_
  refine zv_xcatch (st := [.int (zI 0), .ref (ob E 339)]) C (x1_X10_endOf hfl E σ U y hU hyi hno) (pre := tableOf []) (suf := tableOf []) (x := ⟨0, 9, 12, 13⟩) htab hpass (by decide) (by decide) zcl_13 zca_13 mX10_endOf kL_40 (by decide : kd 0 = 9) rfl rfl rfl ⟨rfl, rfl⟩ (show zfit (zrx 9 200) 2 (zrx 10 221) = true from rfl) (Nat.le_of_ble_eq_true rfl) dL_endOf_4 ⟨Nat.le_of_ble_eq_true rfl, Nat.le_of_ble_eq_true rfl⟩ (fun q9 τ9 hp9 => ?_)
  refine zv_astore_n (lv' := [(3, .ref q9), (0, .ref (ob E 0)), (1, .int (zI y)), (2, .ref (ob E 339))]) C dL_endOf_12 rfl (by decide) rfl ?_
  refine zv_iconst (v := zI 1) C dL_endOf_13 rfl ?_
  exact zv_iretN C hr rfl dL_endOf_14 ⟨rfl, hp9⟩
set_option maxRecDepth 20000 in
theorem w_c_X10_yearOf {l : Launch} (hfl : l.stackTraces = false) (E : zE) (σ : zS) (U : zSU) (y : Int) (hU : zSUp σ 29 U) (hy : 0 ≤ y ∧ y ≤ 400000) : zRh l E yL_yearOf cL_yearOf 4 [(0, 9, 12, 13)] (zrm 4 85) 0 0 [.ref (ob E 0), .int (zI y), .ref (ob E 339)] σ (fun r τ => r = zI 0 ∧ ∃ (v : Int32) (υ : zS), (fun r τ => ∃ Y : Int, r = zI Y ∧ yIs U.s0 y Y ∧ Y ≤ U.s0 + 1096 ∧ τ = σ) v υ ∧ τ = sJ υ 339 0 v.toInt64) := by
  refine zMetH hfl (by decide) rfl (Nat.le_of_ble_eq_true rfl) ?_
  intro p e s m args below meth c C hr htab
  refine (?_ : zV p l e _ s m args below meth c 4 E _ 0 0 σ 0 [(0, .ref (ob E 0)), (1, .int (zI y)), (2, .ref (ob E 339))] [])
  refine zv_aload_n C 2 dL_yearOf_0 rfl rfl ?_
  refine zv_iconst (v := zI 0) C dL_yearOf_1 rfl ?_
  refine zv_aload_n C 0 dL_yearOf_2 rfl rfl ?_
  refine zv_iload_n C 1 dL_yearOf_3 rfl rfl ?_
  refine zv_cvi (st := [.int (zI 0), .ref (ob E 339)]) C (c_X10_yearOf hfl E σ U y hU hy) mX10_yearOf kL_43 (by decide : kd 0 = 9) rfl rfl rfl ⟨rfl, rfl⟩ (show zfit (zrm 3 64) 2 (zrm 4 85) = true from rfl) (Nat.le_of_ble_eq_true rfl) dL_yearOf_4 ⟨Nat.zero_le _, Nat.zero_le _⟩ (fun r4 τ4 hp4 => ?_)
  refine zv_i2l C dL_yearOf_7 ?_
  refine zv_last (j := 0) C (by decide : kd 339 = _) (zI_ix (by omega)) (by decide) dL_yearOf_8 ?_
  refine zv_goto (tgt := 15) C dL_yearOf_9 (by decide) ?_
  refine zv_iconst (v := zI 0) C dL_yearOf_15 rfl ?_
  exact zv_iret C hr rfl dL_yearOf_16 ⟨rfl, r4, τ4, hp4, rfl⟩
set_option maxRecDepth 20000 in
theorem w_x1_X10_yearOf {l : Launch} (hfl : l.stackTraces = false) (E : zE) (σ : zS) (U : zSU) (y : Int) (hyi : -2147483648 ≤ y ∧ y < 2147483648) (hno : ¬ (0 ≤ y ∧ y ≤ 400000)) : zRh l E yL_yearOf cL_yearOf 4 [(0, 9, 12, 13)] (zrx 10 221) 1 6 [.ref (ob E 0), .int (zI y), .ref (ob E 339)] σ (fun r τ => r = zI 1 ∧ (fun u => u = σ) τ) := by
  refine zMetH hfl (by decide) rfl (Nat.le_of_ble_eq_true rfl) ?_
  intro p e s m args below meth c C hr htab
  refine (?_ : zV p l e _ s m args below meth c 4 E _ 0 0 σ 0 [(0, .ref (ob E 0)), (1, .int (zI y)), (2, .ref (ob E 339))] [])
  have hpass : ∀ z ∈ tableOf [], z.catchType ≠ 0 ∧ ∃ nm' : String, Cond.classLink RL z.catchType nm' ∈ zT ∧ ("java/lang/IllegalArgumentException", nm') ∈ zNc := fun z hz => by
    cases hz
  refine zv_aload_n C 2 dL_yearOf_0 rfl rfl ?_
  refine zv_iconst (v := zI 0) C dL_yearOf_1 rfl ?_
  refine zv_aload_n C 0 dL_yearOf_2 rfl rfl ?_
  refine zv_iload_n C 1 dL_yearOf_3 rfl rfl ?_
  refine zv_xcatch (st := [.int (zI 0), .ref (ob E 339)]) C (x1_X10_yearOf hfl E σ U y hyi hno) (pre := tableOf []) (suf := tableOf []) (x := ⟨0, 9, 12, 13⟩) htab hpass (by decide) (by decide) zcl_13 zca_13 mX10_yearOf kL_43 (by decide : kd 0 = 9) rfl rfl rfl ⟨rfl, rfl⟩ (show zfit (zrx 9 200) 2 (zrx 10 221) = true from rfl) (Nat.le_of_ble_eq_true rfl) dL_yearOf_4 ⟨Nat.le_of_ble_eq_true rfl, Nat.le_of_ble_eq_true rfl⟩ (fun q9 τ9 hp9 => ?_)
  refine zv_astore_n (lv' := [(3, .ref q9), (0, .ref (ob E 0)), (1, .int (zI y)), (2, .ref (ob E 339))]) C dL_yearOf_12 rfl (by decide) rfl ?_
  refine zv_iconst (v := zI 1) C dL_yearOf_13 rfl ?_
  exact zv_iretN C hr rfl dL_yearOf_14 ⟨rfl, hp9⟩
set_option maxRecDepth 20000 in
theorem w_c_X10_errorBy {l : Launch} (hfl : l.stackTraces = false) (E : zE) (σ : zS) (U : zSU) (S : zST) (i : Nat) (f : Nat) (hU : zSUp σ 29 U) (hS : zSTp σ 34 S) (hi : i < U.nb) (hf : f ≤ 400000) : zRh l E yL_errorBy cL_errorBy 5 [(0, 9, 12, 19), (0, 9, 16, 13)] (zrm 6 148) 0 0 [.ref (ob E 0), .int (zI (i : Int)), .int (zI (f : Int)), .ref (ob E 339)] σ (fun r τ => r = zI 0 ∧ ∃ (v : Int64) (υ : zS), (fun r τ => r = zL (qArc U S i (f : Int)) ∧ τ = (rW σ 322 (qDrift U S i).1 (qDrift U S i).2)) v υ ∧ τ = sJ υ 339 0 v) := by
  refine zMetH hfl (by decide) rfl (Nat.le_of_ble_eq_true rfl) ?_
  intro p e s m args below meth c C hr htab
  refine (?_ : zV p l e _ s m args below meth c 5 E _ 0 0 σ 0 [(0, .ref (ob E 0)), (1, .int (zI (i : Int))), (2, .int (zI (f : Int))), (3, .ref (ob E 339))] [])
  refine zv_aload_n C 3 dL_errorBy_0 rfl rfl ?_
  refine zv_iconst (v := zI 0) C dL_errorBy_1 rfl ?_
  refine zv_aload_n C 0 dL_errorBy_2 rfl rfl ?_
  refine zv_iload_n C 1 dL_errorBy_3 rfl rfl ?_
  refine zv_iload_n C 2 dL_errorBy_4 rfl rfl ?_
  refine zv_cvl (st := [.int (zI 0), .ref (ob E 339)]) C (c_X10_errorBy hfl E σ U S i f hU hS hi hf) mX10_errorBy kL_46 (by decide : kd 0 = 9) rfl rfl rfl ⟨rfl, rfl⟩ (show zfit (zrm 5 126) 3 (zrm 6 148) = true from rfl) (Nat.le_of_ble_eq_true rfl) dL_errorBy_5 ⟨Nat.zero_le _, Nat.zero_le _⟩ (fun r5 τ5 hp5 => ?_)
  refine zv_last (j := 0) C (by decide : kd 339 = _) (zI_ix (by omega)) (by decide) dL_errorBy_8 ?_
  refine zv_goto (tgt := 20) C dL_errorBy_9 (by decide) ?_
  refine zv_iconst (v := zI 0) C dL_errorBy_20 rfl ?_
  exact zv_iret C hr rfl dL_errorBy_21 ⟨rfl, r5, τ5, hp5, rfl⟩
set_option maxRecDepth 20000 in
theorem w_x1_X10_errorBy {l : Launch} (hfl : l.stackTraces = false) (E : zE) (σ : zS) (U : zSU) (b : Int) (y : Int) (hU : zSUp σ 29 U) (hbi : -2147483648 ≤ b ∧ b < 2147483648) (hno : ¬ (0 ≤ b ∧ b < U.nb)) : zRh l E yL_errorBy cL_errorBy 5 [(0, 9, 12, 19), (0, 9, 16, 13)] (zrx 10 222) 1 6 [.ref (ob E 0), .int (zI b), .int (zI y), .ref (ob E 339)] σ (fun r τ => r = zI 1 ∧ (fun u => u = σ) τ) := by
  refine zMetH hfl (by decide) rfl (Nat.le_of_ble_eq_true rfl) ?_
  intro p e s m args below meth c C hr htab
  refine (?_ : zV p l e _ s m args below meth c 5 E _ 0 0 σ 0 [(0, .ref (ob E 0)), (1, .int (zI b)), (2, .int (zI y)), (3, .ref (ob E 339))] [])
  have hpass : ∀ z ∈ tableOf [], z.catchType ≠ 0 ∧ ∃ nm' : String, Cond.classLink RL z.catchType nm' ∈ zT ∧ ("java/lang/IndexOutOfBoundsException", nm') ∈ zNc := fun z hz => by
    cases hz
  refine zv_aload_n C 3 dL_errorBy_0 rfl rfl ?_
  refine zv_iconst (v := zI 0) C dL_errorBy_1 rfl ?_
  refine zv_aload_n C 0 dL_errorBy_2 rfl rfl ?_
  refine zv_iload_n C 1 dL_errorBy_3 rfl rfl ?_
  refine zv_iload_n C 2 dL_errorBy_4 rfl rfl ?_
  refine zv_xcatch (st := [.int (zI 0), .ref (ob E 339)]) C (x1_X10_errorBy hfl E σ U b y hU hbi hno) (pre := tableOf []) (suf := tableOf [(0, 9, 16, 13)]) (x := ⟨0, 9, 12, 19⟩) htab hpass (by decide) (by decide) zcl_19 zca_19 mX10_errorBy kL_46 (by decide : kd 0 = 9) rfl rfl rfl ⟨rfl, rfl⟩ (show zfit (zrx 9 200) 3 (zrx 10 222) = true from rfl) (Nat.le_of_ble_eq_true rfl) dL_errorBy_5 ⟨Nat.le_of_ble_eq_true rfl, Nat.le_of_ble_eq_true rfl⟩ (fun q9 τ9 hp9 => ?_)
  refine zv_astore (lv' := [(4, .ref q9), (0, .ref (ob E 0)), (1, .int (zI b)), (2, .int (zI y)), (3, .ref (ob E 339))]) C dL_errorBy_12  (by decide) rfl ?_
  refine zv_iconst (v := zI 1) C dL_errorBy_14 rfl ?_
  exact zv_iretN C hr rfl dL_errorBy_15 ⟨rfl, hp9⟩
set_option maxRecDepth 20000 in
theorem w_x2_X10_errorBy {l : Launch} (hfl : l.stackTraces = false) (E : zE) (σ : zS) (U : zSU) (S : zST) (i : Nat) (y : Int) (hU : zSUp σ 29 U) (hi : i < U.nb) (hyi : -2147483648 ≤ y ∧ y < 2147483648) (hno : ¬ (0 ≤ y ∧ y ≤ 400000)) : zRh l E yL_errorBy cL_errorBy 5 [(0, 9, 12, 19), (0, 9, 16, 13)] (zrx 10 222) 1 6 [.ref (ob E 0), .int (zI (i : Int)), .int (zI y), .ref (ob E 339)] σ (fun r τ => r = zI 2 ∧ (fun u => u = σ) τ) := by
  refine zMetH hfl (by decide) rfl (Nat.le_of_ble_eq_true rfl) ?_
  intro p e s m args below meth c C hr htab
  refine (?_ : zV p l e _ s m args below meth c 5 E _ 0 0 σ 0 [(0, .ref (ob E 0)), (1, .int (zI (i : Int))), (2, .int (zI y)), (3, .ref (ob E 339))] [])
  have hpass : ∀ z ∈ tableOf [(0, 9, 12, 19)], z.catchType ≠ 0 ∧ ∃ nm' : String, Cond.classLink RL z.catchType nm' ∈ zT ∧ ("java/lang/IllegalArgumentException", nm') ∈ zNc := fun z hz => by
    simp only [tableOf, List.map_cons, List.map_nil, List.mem_cons, List.not_mem_nil, or_false] at hz
    rcases hz with rfl
    · exact ⟨by decide, "java/lang/IndexOutOfBoundsException", zcl_19, by decide⟩
  refine zv_aload_n C 3 dL_errorBy_0 rfl rfl ?_
  refine zv_iconst (v := zI 0) C dL_errorBy_1 rfl ?_
  refine zv_aload_n C 0 dL_errorBy_2 rfl rfl ?_
  refine zv_iload_n C 1 dL_errorBy_3 rfl rfl ?_
  refine zv_iload_n C 2 dL_errorBy_4 rfl rfl ?_
  refine zv_xcatch (st := [.int (zI 0), .ref (ob E 339)]) C (x2_X10_errorBy hfl E σ U S i y hU hi hyi hno) (pre := tableOf [(0, 9, 12, 19)]) (suf := tableOf []) (x := ⟨0, 9, 16, 13⟩) htab hpass (by decide) (by decide) zcl_13 zca_13 mX10_errorBy kL_46 (by decide : kd 0 = 9) rfl rfl rfl ⟨rfl, rfl⟩ (show zfit (zrx 9 200) 3 (zrx 10 222) = true from rfl) (Nat.le_of_ble_eq_true rfl) dL_errorBy_5 ⟨Nat.le_of_ble_eq_true rfl, Nat.le_of_ble_eq_true rfl⟩ (fun q9 τ9 hp9 => ?_)
  refine zv_astore (lv' := [(4, .ref q9), (0, .ref (ob E 0)), (1, .int (zI (i : Int))), (2, .int (zI y)), (3, .ref (ob E 339))]) C dL_errorBy_16  (by decide) rfl ?_
  refine zv_iconst (v := zI 2) C dL_errorBy_18 rfl ?_
  exact zv_iretN C hr rfl dL_errorBy_19 ⟨rfl, hp9⟩
set_option maxRecDepth 20000 in
theorem w_c_X10_error {l : Launch} (hfl : l.stackTraces = false) (E : zE) (σ : zS) (U : zSU) (S : zST) (i : Nat) (y : Int) (hU : zSUp σ 29 U) (hS : zSTp σ 34 S) (hi : i < U.nb) (hy : U.s0 ≤ y ∧ y ≤ U.s0 + 999) : zRh l E yL_error cL_error 5 [(0, 9, 12, 19), (0, 9, 16, 13)] (zrm 7 170) 0 0 [.ref (ob E 0), .int (zI (i : Int)), .int (zI y), .ref (ob E 339)] σ (fun r τ => r = zI 0 ∧ ∃ (v : Int64) (υ : zS), (fun r τ => r = zL (qErr U S i y) ∧ τ = (rW σ 322 (qDrift U S i).1 (qDrift U S i).2)) v υ ∧ τ = sJ υ 339 0 v) := by
  refine zMetH hfl (by decide) rfl (Nat.le_of_ble_eq_true rfl) ?_
  intro p e s m args below meth c C hr htab
  refine (?_ : zV p l e _ s m args below meth c 5 E _ 0 0 σ 0 [(0, .ref (ob E 0)), (1, .int (zI (i : Int))), (2, .int (zI y)), (3, .ref (ob E 339))] [])
  refine zv_aload_n C 3 dL_error_0 rfl rfl ?_
  refine zv_iconst (v := zI 0) C dL_error_1 rfl ?_
  refine zv_aload_n C 0 dL_error_2 rfl rfl ?_
  refine zv_iload_n C 1 dL_error_3 rfl rfl ?_
  refine zv_iload_n C 2 dL_error_4 rfl rfl ?_
  refine zv_cvl (st := [.int (zI 0), .ref (ob E 339)]) C (c_X10_error hfl E σ U S i y hU hS hi hy) mX10_error kL_50 (by decide : kd 0 = 9) rfl rfl rfl ⟨rfl, rfl⟩ (show zfit (zrm 6 148) 3 (zrm 7 170) = true from rfl) (Nat.le_of_ble_eq_true rfl) dL_error_5 ⟨Nat.zero_le _, Nat.zero_le _⟩ (fun r5 τ5 hp5 => ?_)
  refine zv_last (j := 0) C (by decide : kd 339 = _) (zI_ix (by omega)) (by decide) dL_error_8 ?_
  refine zv_goto (tgt := 20) C dL_error_9 (by decide) ?_
  refine zv_iconst (v := zI 0) C dL_error_20 rfl ?_
  exact zv_iret C hr rfl dL_error_21 ⟨rfl, r5, τ5, hp5, rfl⟩
set_option maxRecDepth 20000 in
theorem w_x1_X10_error {l : Launch} (hfl : l.stackTraces = false) (E : zE) (σ : zS) (U : zSU) (b : Int) (y : Int) (hU : zSUp σ 29 U) (hbi : -2147483648 ≤ b ∧ b < 2147483648) (hno : ¬ (0 ≤ b ∧ b < U.nb)) : zRh l E yL_error cL_error 5 [(0, 9, 12, 19), (0, 9, 16, 13)] (zrx 10 222) 1 6 [.ref (ob E 0), .int (zI b), .int (zI y), .ref (ob E 339)] σ (fun r τ => r = zI 1 ∧ (fun u => u = σ) τ) := by
  refine zMetH hfl (by decide) rfl (Nat.le_of_ble_eq_true rfl) ?_
  intro p e s m args below meth c C hr htab
  refine (?_ : zV p l e _ s m args below meth c 5 E _ 0 0 σ 0 [(0, .ref (ob E 0)), (1, .int (zI b)), (2, .int (zI y)), (3, .ref (ob E 339))] [])
  have hpass : ∀ z ∈ tableOf [], z.catchType ≠ 0 ∧ ∃ nm' : String, Cond.classLink RL z.catchType nm' ∈ zT ∧ ("java/lang/IndexOutOfBoundsException", nm') ∈ zNc := fun z hz => by
    cases hz
  refine zv_aload_n C 3 dL_error_0 rfl rfl ?_
  refine zv_iconst (v := zI 0) C dL_error_1 rfl ?_
  refine zv_aload_n C 0 dL_error_2 rfl rfl ?_
  refine zv_iload_n C 1 dL_error_3 rfl rfl ?_
  refine zv_iload_n C 2 dL_error_4 rfl rfl ?_
  refine zv_xcatch (st := [.int (zI 0), .ref (ob E 339)]) C (x1_X10_error hfl E σ U b y hU hbi hno) (pre := tableOf []) (suf := tableOf [(0, 9, 16, 13)]) (x := ⟨0, 9, 12, 19⟩) htab hpass (by decide) (by decide) zcl_19 zca_19 mX10_error kL_50 (by decide : kd 0 = 9) rfl rfl rfl ⟨rfl, rfl⟩ (show zfit (zrx 9 200) 3 (zrx 10 222) = true from rfl) (Nat.le_of_ble_eq_true rfl) dL_error_5 ⟨Nat.le_of_ble_eq_true rfl, Nat.le_of_ble_eq_true rfl⟩ (fun q9 τ9 hp9 => ?_)
  refine zv_astore (lv' := [(4, .ref q9), (0, .ref (ob E 0)), (1, .int (zI b)), (2, .int (zI y)), (3, .ref (ob E 339))]) C dL_error_12  (by decide) rfl ?_
  refine zv_iconst (v := zI 1) C dL_error_14 rfl ?_
  exact zv_iretN C hr rfl dL_error_15 ⟨rfl, hp9⟩
set_option maxRecDepth 20000 in
theorem w_x2_X10_error {l : Launch} (hfl : l.stackTraces = false) (E : zE) (σ : zS) (U : zSU) (S : zST) (i : Nat) (y : Int) (hU : zSUp σ 29 U) (hi : i < U.nb) (hyi : -2147483648 ≤ y ∧ y < 2147483648) (hno : ¬ (U.s0 ≤ y ∧ y ≤ U.s0 + 999)) : zRh l E yL_error cL_error 5 [(0, 9, 12, 19), (0, 9, 16, 13)] (zrx 10 222) 1 6 [.ref (ob E 0), .int (zI (i : Int)), .int (zI y), .ref (ob E 339)] σ (fun r τ => r = zI 2 ∧ (fun u => u = σ) τ) := by
  refine zMetH hfl (by decide) rfl (Nat.le_of_ble_eq_true rfl) ?_
  intro p e s m args below meth c C hr htab
  refine (?_ : zV p l e _ s m args below meth c 5 E _ 0 0 σ 0 [(0, .ref (ob E 0)), (1, .int (zI (i : Int))), (2, .int (zI y)), (3, .ref (ob E 339))] [])
  have hpass : ∀ z ∈ tableOf [(0, 9, 12, 19)], z.catchType ≠ 0 ∧ ∃ nm' : String, Cond.classLink RL z.catchType nm' ∈ zT ∧ ("java/lang/IllegalArgumentException", nm') ∈ zNc := fun z hz => by
    simp only [tableOf, List.map_cons, List.map_nil, List.mem_cons, List.not_mem_nil, or_false] at hz
    rcases hz with rfl
    · exact ⟨by decide, "java/lang/IndexOutOfBoundsException", zcl_19, by decide⟩
  refine zv_aload_n C 3 dL_error_0 rfl rfl ?_
  refine zv_iconst (v := zI 0) C dL_error_1 rfl ?_
  refine zv_aload_n C 0 dL_error_2 rfl rfl ?_
  refine zv_iload_n C 1 dL_error_3 rfl rfl ?_
  refine zv_iload_n C 2 dL_error_4 rfl rfl ?_
  refine zv_xcatch (st := [.int (zI 0), .ref (ob E 339)]) C (x2_X10_error hfl E σ U S i y hU hi hyi hno) (pre := tableOf [(0, 9, 12, 19)]) (suf := tableOf []) (x := ⟨0, 9, 16, 13⟩) htab hpass (by decide) (by decide) zcl_13 zca_13 mX10_error kL_50 (by decide : kd 0 = 9) rfl rfl rfl ⟨rfl, rfl⟩ (show zfit (zrx 9 200) 3 (zrx 10 222) = true from rfl) (Nat.le_of_ble_eq_true rfl) dL_error_5 ⟨Nat.le_of_ble_eq_true rfl, Nat.le_of_ble_eq_true rfl⟩ (fun q9 τ9 hp9 => ?_)
  refine zv_astore (lv' := [(4, .ref q9), (0, .ref (ob E 0)), (1, .int (zI (i : Int))), (2, .int (zI y)), (3, .ref (ob E 339))]) C dL_error_16  (by decide) rfl ?_
  refine zv_iconst (v := zI 2) C dL_error_18 rfl ?_
  exact zv_iretN C hr rfl dL_error_19 ⟨rfl, hp9⟩
set_option maxRecDepth 20000 in
theorem w_c_X10_angle {l : Launch} (hfl : l.stackTraces = false) (E : zE) (σ : zS) (U : zSU) (S : zST) (i : Nat) (f : Nat) (hU : zSUp σ 29 U) (hS : zSTp σ 34 S) (hi : i < U.nb) (hf : f ≤ 400000) : zRh l E yL_angle cL_angle 5 [(0, 10, 13, 19), (0, 10, 17, 13)] (zrm 5 127) 0 0 [.ref (ob E 0), .int (zI (i : Int)), .int (zI (f : Int)), .ref (ob E 339)] σ (fun r τ => r = zI 0 ∧ ∃ (v : Int32) (υ : zS), (fun r τ => r = zI ((qPtr U S i).1 * (f : Int) % (qPtr U S i).2 * 1296000 / (qPtr U S i).2) ∧ τ = (rW σ 320 (qPtr U S i).1 (qPtr U S i).2)) v υ ∧ τ = sJ υ 339 0 v.toInt64) := by
  refine zMetH hfl (by decide) rfl (Nat.le_of_ble_eq_true rfl) ?_
  intro p e s m args below meth c C hr htab
  refine (?_ : zV p l e _ s m args below meth c 5 E _ 0 0 σ 0 [(0, .ref (ob E 0)), (1, .int (zI (i : Int))), (2, .int (zI (f : Int))), (3, .ref (ob E 339))] [])
  refine zv_aload_n C 3 dL_angle_0 rfl rfl ?_
  refine zv_iconst (v := zI 0) C dL_angle_1 rfl ?_
  refine zv_aload_n C 0 dL_angle_2 rfl rfl ?_
  refine zv_iload_n C 1 dL_angle_3 rfl rfl ?_
  refine zv_iload_n C 2 dL_angle_4 rfl rfl ?_
  refine zv_cvi (st := [.int (zI 0), .ref (ob E 339)]) C (c_X10_angle hfl E σ U S i f hU hS hi hf) mX10_angle kL_53 (by decide : kd 0 = 9) rfl rfl rfl ⟨rfl, rfl⟩ (show zfit (zrm 4 105) 3 (zrm 5 127) = true from rfl) (Nat.le_of_ble_eq_true rfl) dL_angle_5 ⟨Nat.zero_le _, Nat.zero_le _⟩ (fun r5 τ5 hp5 => ?_)
  refine zv_i2l C dL_angle_8 ?_
  refine zv_last (j := 0) C (by decide : kd 339 = _) (zI_ix (by omega)) (by decide) dL_angle_9 ?_
  refine zv_goto (tgt := 21) C dL_angle_10 (by decide) ?_
  refine zv_iconst (v := zI 0) C dL_angle_21 rfl ?_
  exact zv_iret C hr rfl dL_angle_22 ⟨rfl, r5, τ5, hp5, rfl⟩
set_option maxRecDepth 20000 in
theorem w_x1_X10_angle {l : Launch} (hfl : l.stackTraces = false) (E : zE) (σ : zS) (U : zSU) (b : Int) (y : Int) (hU : zSUp σ 29 U) (hbi : -2147483648 ≤ b ∧ b < 2147483648) (hno : ¬ (0 ≤ b ∧ b < U.nb)) : zRh l E yL_angle cL_angle 5 [(0, 10, 13, 19), (0, 10, 17, 13)] (zrx 10 222) 1 6 [.ref (ob E 0), .int (zI b), .int (zI y), .ref (ob E 339)] σ (fun r τ => r = zI 1 ∧ (fun u => u = σ) τ) := by
  refine zMetH hfl (by decide) rfl (Nat.le_of_ble_eq_true rfl) ?_
  intro p e s m args below meth c C hr htab
  refine (?_ : zV p l e _ s m args below meth c 5 E _ 0 0 σ 0 [(0, .ref (ob E 0)), (1, .int (zI b)), (2, .int (zI y)), (3, .ref (ob E 339))] [])
  have hpass : ∀ z ∈ tableOf [], z.catchType ≠ 0 ∧ ∃ nm' : String, Cond.classLink RL z.catchType nm' ∈ zT ∧ ("java/lang/IndexOutOfBoundsException", nm') ∈ zNc := fun z hz => by
    cases hz
  refine zv_aload_n C 3 dL_angle_0 rfl rfl ?_
  refine zv_iconst (v := zI 0) C dL_angle_1 rfl ?_
  refine zv_aload_n C 0 dL_angle_2 rfl rfl ?_
  refine zv_iload_n C 1 dL_angle_3 rfl rfl ?_
  refine zv_iload_n C 2 dL_angle_4 rfl rfl ?_
  refine zv_xcatch (st := [.int (zI 0), .ref (ob E 339)]) C (x1_X10_angle hfl E σ U b y hU hbi hno) (pre := tableOf []) (suf := tableOf [(0, 10, 17, 13)]) (x := ⟨0, 10, 13, 19⟩) htab hpass (by decide) (by decide) zcl_19 zca_19 mX10_angle kL_53 (by decide : kd 0 = 9) rfl rfl rfl ⟨rfl, rfl⟩ (show zfit (zrx 9 200) 3 (zrx 10 222) = true from rfl) (Nat.le_of_ble_eq_true rfl) dL_angle_5 ⟨Nat.le_of_ble_eq_true rfl, Nat.le_of_ble_eq_true rfl⟩ (fun q9 τ9 hp9 => ?_)
  refine zv_astore (lv' := [(4, .ref q9), (0, .ref (ob E 0)), (1, .int (zI b)), (2, .int (zI y)), (3, .ref (ob E 339))]) C dL_angle_13  (by decide) rfl ?_
  refine zv_iconst (v := zI 1) C dL_angle_15 rfl ?_
  exact zv_iretN C hr rfl dL_angle_16 ⟨rfl, hp9⟩
set_option maxRecDepth 20000 in
theorem w_x2_X10_angle {l : Launch} (hfl : l.stackTraces = false) (E : zE) (σ : zS) (U : zSU) (S : zST) (i : Nat) (y : Int) (hU : zSUp σ 29 U) (hi : i < U.nb) (hyi : -2147483648 ≤ y ∧ y < 2147483648) (hno : ¬ (0 ≤ y ∧ y ≤ 400000)) : zRh l E yL_angle cL_angle 5 [(0, 10, 13, 19), (0, 10, 17, 13)] (zrx 10 222) 1 6 [.ref (ob E 0), .int (zI (i : Int)), .int (zI y), .ref (ob E 339)] σ (fun r τ => r = zI 2 ∧ (fun u => u = σ) τ) := by
  refine zMetH hfl (by decide) rfl (Nat.le_of_ble_eq_true rfl) ?_
  intro p e s m args below meth c C hr htab
  refine (?_ : zV p l e _ s m args below meth c 5 E _ 0 0 σ 0 [(0, .ref (ob E 0)), (1, .int (zI (i : Int))), (2, .int (zI y)), (3, .ref (ob E 339))] [])
  have hpass : ∀ z ∈ tableOf [(0, 10, 13, 19)], z.catchType ≠ 0 ∧ ∃ nm' : String, Cond.classLink RL z.catchType nm' ∈ zT ∧ ("java/lang/IllegalArgumentException", nm') ∈ zNc := fun z hz => by
    simp only [tableOf, List.map_cons, List.map_nil, List.mem_cons, List.not_mem_nil, or_false] at hz
    rcases hz with rfl
    · exact ⟨by decide, "java/lang/IndexOutOfBoundsException", zcl_19, by decide⟩
  refine zv_aload_n C 3 dL_angle_0 rfl rfl ?_
  refine zv_iconst (v := zI 0) C dL_angle_1 rfl ?_
  refine zv_aload_n C 0 dL_angle_2 rfl rfl ?_
  refine zv_iload_n C 1 dL_angle_3 rfl rfl ?_
  refine zv_iload_n C 2 dL_angle_4 rfl rfl ?_
  refine zv_xcatch (st := [.int (zI 0), .ref (ob E 339)]) C (x2_X10_angle hfl E σ U S i y hU hi hyi hno) (pre := tableOf [(0, 10, 13, 19)]) (suf := tableOf []) (x := ⟨0, 10, 17, 13⟩) htab hpass (by decide) (by decide) zcl_13 zca_13 mX10_angle kL_53 (by decide : kd 0 = 9) rfl rfl rfl ⟨rfl, rfl⟩ (show zfit (zrx 9 200) 3 (zrx 10 222) = true from rfl) (Nat.le_of_ble_eq_true rfl) dL_angle_5 ⟨Nat.le_of_ble_eq_true rfl, Nat.le_of_ble_eq_true rfl⟩ (fun q9 τ9 hp9 => ?_)
  refine zv_astore (lv' := [(4, .ref q9), (0, .ref (ob E 0)), (1, .int (zI (i : Int))), (2, .int (zI y)), (3, .ref (ob E 339))]) C dL_angle_17  (by decide) rfl ?_
  refine zv_iconst (v := zI 2) C dL_angle_19 rfl ?_
  exact zv_iretN C hr rfl dL_angle_20 ⟨rfl, hp9⟩
set_option maxRecDepth 20000 in
theorem w_c_X10_trueAngle {l : Launch} (hfl : l.stackTraces = false) (E : zE) (σ : zS) (U : zSU) (S : zST) (i : Nat) (f : Nat) (hU : zSUp σ 29 U) (hS : zSTp σ 34 S) (hi : i < U.nb) (hf : f ≤ 400000) : zRh l E yL_trueAngle cL_trueAngle 5 [(0, 10, 13, 19), (0, 10, 17, 13)] (zrm 4 100) 0 0 [.ref (ob E 0), .int (zI (i : Int)), .int (zI (f : Int)), .ref (ob E 339)] σ (fun r τ => r = zI 0 ∧ ∃ (v : Int32) (υ : zS), (fun r τ => r = zI ((qDue U i).1 * (f : Int) % (qDue U i).2 * 1296000 / (qDue U i).2) ∧ τ = (rW σ 320 (qDue U i).1 (qDue U i).2)) v υ ∧ τ = sJ υ 339 0 v.toInt64) := by
  refine zMetH hfl (by decide) rfl (Nat.le_of_ble_eq_true rfl) ?_
  intro p e s m args below meth c C hr htab
  refine (?_ : zV p l e _ s m args below meth c 5 E _ 0 0 σ 0 [(0, .ref (ob E 0)), (1, .int (zI (i : Int))), (2, .int (zI (f : Int))), (3, .ref (ob E 339))] [])
  refine zv_aload_n C 3 dL_trueAngle_0 rfl rfl ?_
  refine zv_iconst (v := zI 0) C dL_trueAngle_1 rfl ?_
  refine zv_aload_n C 0 dL_trueAngle_2 rfl rfl ?_
  refine zv_iload_n C 1 dL_trueAngle_3 rfl rfl ?_
  refine zv_iload_n C 2 dL_trueAngle_4 rfl rfl ?_
  refine zv_cvi (st := [.int (zI 0), .ref (ob E 339)]) C (c_X10_trueAngle hfl E σ U S i f hU hS hi hf) mX10_trueAngle kL_56 (by decide : kd 0 = 9) rfl rfl rfl ⟨rfl, rfl⟩ (show zfit (zrm 3 78) 3 (zrm 4 100) = true from rfl) (Nat.le_of_ble_eq_true rfl) dL_trueAngle_5 ⟨Nat.zero_le _, Nat.zero_le _⟩ (fun r5 τ5 hp5 => ?_)
  refine zv_i2l C dL_trueAngle_8 ?_
  refine zv_last (j := 0) C (by decide : kd 339 = _) (zI_ix (by omega)) (by decide) dL_trueAngle_9 ?_
  refine zv_goto (tgt := 21) C dL_trueAngle_10 (by decide) ?_
  refine zv_iconst (v := zI 0) C dL_trueAngle_21 rfl ?_
  exact zv_iret C hr rfl dL_trueAngle_22 ⟨rfl, r5, τ5, hp5, rfl⟩
set_option maxRecDepth 20000 in
theorem w_x1_X10_trueAngle {l : Launch} (hfl : l.stackTraces = false) (E : zE) (σ : zS) (U : zSU) (b : Int) (y : Int) (hU : zSUp σ 29 U) (hbi : -2147483648 ≤ b ∧ b < 2147483648) (hno : ¬ (0 ≤ b ∧ b < U.nb)) : zRh l E yL_trueAngle cL_trueAngle 5 [(0, 10, 13, 19), (0, 10, 17, 13)] (zrx 10 222) 1 6 [.ref (ob E 0), .int (zI b), .int (zI y), .ref (ob E 339)] σ (fun r τ => r = zI 1 ∧ (fun u => u = σ) τ) := by
  refine zMetH hfl (by decide) rfl (Nat.le_of_ble_eq_true rfl) ?_
  intro p e s m args below meth c C hr htab
  refine (?_ : zV p l e _ s m args below meth c 5 E _ 0 0 σ 0 [(0, .ref (ob E 0)), (1, .int (zI b)), (2, .int (zI y)), (3, .ref (ob E 339))] [])
  have hpass : ∀ z ∈ tableOf [], z.catchType ≠ 0 ∧ ∃ nm' : String, Cond.classLink RL z.catchType nm' ∈ zT ∧ ("java/lang/IndexOutOfBoundsException", nm') ∈ zNc := fun z hz => by
    cases hz
  refine zv_aload_n C 3 dL_trueAngle_0 rfl rfl ?_
  refine zv_iconst (v := zI 0) C dL_trueAngle_1 rfl ?_
  refine zv_aload_n C 0 dL_trueAngle_2 rfl rfl ?_
  refine zv_iload_n C 1 dL_trueAngle_3 rfl rfl ?_
  refine zv_iload_n C 2 dL_trueAngle_4 rfl rfl ?_
  refine zv_xcatch (st := [.int (zI 0), .ref (ob E 339)]) C (x1_X10_trueAngle hfl E σ U b y hU hbi hno) (pre := tableOf []) (suf := tableOf [(0, 10, 17, 13)]) (x := ⟨0, 10, 13, 19⟩) htab hpass (by decide) (by decide) zcl_19 zca_19 mX10_trueAngle kL_56 (by decide : kd 0 = 9) rfl rfl rfl ⟨rfl, rfl⟩ (show zfit (zrx 9 200) 3 (zrx 10 222) = true from rfl) (Nat.le_of_ble_eq_true rfl) dL_trueAngle_5 ⟨Nat.le_of_ble_eq_true rfl, Nat.le_of_ble_eq_true rfl⟩ (fun q9 τ9 hp9 => ?_)
  refine zv_astore (lv' := [(4, .ref q9), (0, .ref (ob E 0)), (1, .int (zI b)), (2, .int (zI y)), (3, .ref (ob E 339))]) C dL_trueAngle_13  (by decide) rfl ?_
  refine zv_iconst (v := zI 1) C dL_trueAngle_15 rfl ?_
  exact zv_iretN C hr rfl dL_trueAngle_16 ⟨rfl, hp9⟩
set_option maxRecDepth 20000 in
theorem w_x2_X10_trueAngle {l : Launch} (hfl : l.stackTraces = false) (E : zE) (σ : zS) (U : zSU) (S : zST) (i : Nat) (y : Int) (hU : zSUp σ 29 U) (hi : i < U.nb) (hyi : -2147483648 ≤ y ∧ y < 2147483648) (hno : ¬ (0 ≤ y ∧ y ≤ 400000)) : zRh l E yL_trueAngle cL_trueAngle 5 [(0, 10, 13, 19), (0, 10, 17, 13)] (zrx 10 222) 1 6 [.ref (ob E 0), .int (zI (i : Int)), .int (zI y), .ref (ob E 339)] σ (fun r τ => r = zI 2 ∧ (fun u => u = σ) τ) := by
  refine zMetH hfl (by decide) rfl (Nat.le_of_ble_eq_true rfl) ?_
  intro p e s m args below meth c C hr htab
  refine (?_ : zV p l e _ s m args below meth c 5 E _ 0 0 σ 0 [(0, .ref (ob E 0)), (1, .int (zI (i : Int))), (2, .int (zI y)), (3, .ref (ob E 339))] [])
  have hpass : ∀ z ∈ tableOf [(0, 10, 13, 19)], z.catchType ≠ 0 ∧ ∃ nm' : String, Cond.classLink RL z.catchType nm' ∈ zT ∧ ("java/lang/IllegalArgumentException", nm') ∈ zNc := fun z hz => by
    simp only [tableOf, List.map_cons, List.map_nil, List.mem_cons, List.not_mem_nil, or_false] at hz
    rcases hz with rfl
    · exact ⟨by decide, "java/lang/IndexOutOfBoundsException", zcl_19, by decide⟩
  refine zv_aload_n C 3 dL_trueAngle_0 rfl rfl ?_
  refine zv_iconst (v := zI 0) C dL_trueAngle_1 rfl ?_
  refine zv_aload_n C 0 dL_trueAngle_2 rfl rfl ?_
  refine zv_iload_n C 1 dL_trueAngle_3 rfl rfl ?_
  refine zv_iload_n C 2 dL_trueAngle_4 rfl rfl ?_
  refine zv_xcatch (st := [.int (zI 0), .ref (ob E 339)]) C (x2_X10_trueAngle hfl E σ U S i y hU hi hyi hno) (pre := tableOf [(0, 10, 13, 19)]) (suf := tableOf []) (x := ⟨0, 10, 17, 13⟩) htab hpass (by decide) (by decide) zcl_13 zca_13 mX10_trueAngle kL_56 (by decide : kd 0 = 9) rfl rfl rfl ⟨rfl, rfl⟩ (show zfit (zrx 9 200) 3 (zrx 10 222) = true from rfl) (Nat.le_of_ble_eq_true rfl) dL_trueAngle_5 ⟨Nat.le_of_ble_eq_true rfl, Nat.le_of_ble_eq_true rfl⟩ (fun q9 τ9 hp9 => ?_)
  refine zv_astore (lv' := [(4, .ref q9), (0, .ref (ob E 0)), (1, .int (zI (i : Int))), (2, .int (zI y)), (3, .ref (ob E 339))]) C dL_trueAngle_17  (by decide) rfl ?_
  refine zv_iconst (v := zI 2) C dL_trueAngle_19 rfl ?_
  exact zv_iretN C hr rfl dL_trueAngle_20 ⟨rfl, hp9⟩
set_option maxRecDepth 20000 in
theorem w_c_X10_worst {l : Launch} (hfl : l.stackTraces = false) (E : zE) (σ : zS) (U : zSU) (S : zST) (y : Int) (hU : zSUp σ 29 U) (hS : zSTp σ 34 S) (hy : U.s0 ≤ y ∧ y ≤ U.s0 + 999) : zRh l E yL_worst cL_worst 4 [(0, 9, 12, 13)] (zrm 7 175) 0 0 [.ref (ob E 0), .int (zI y), .ref (ob E 339)] σ (fun r τ => r = zI 0 ∧ ∃ (v : Int32) (υ : zS), (fun r τ => r = zI (dWor U S y U.nb).1 ∧ τ = qW σ U S U.nb) v υ ∧ τ = sJ υ 339 0 v.toInt64) := by
  refine zMetH hfl (by decide) rfl (Nat.le_of_ble_eq_true rfl) ?_
  intro p e s m args below meth c C hr htab
  refine (?_ : zV p l e _ s m args below meth c 4 E _ 0 0 σ 0 [(0, .ref (ob E 0)), (1, .int (zI y)), (2, .ref (ob E 339))] [])
  refine zv_aload_n C 2 dL_worst_0 rfl rfl ?_
  refine zv_iconst (v := zI 0) C dL_worst_1 rfl ?_
  refine zv_aload_n C 0 dL_worst_2 rfl rfl ?_
  refine zv_iload_n C 1 dL_worst_3 rfl rfl ?_
  refine zv_cvi (st := [.int (zI 0), .ref (ob E 339)]) C (c_X10_worst hfl E σ U S y hU hS hy) mX10_worst kL_59 (by decide : kd 0 = 9) rfl rfl rfl ⟨rfl, rfl⟩ (show zfit (zrm 6 148) 8 (zrm 7 175) = true from rfl) (Nat.le_of_ble_eq_true rfl) dL_worst_4 ⟨Nat.zero_le _, Nat.zero_le _⟩ (fun r4 τ4 hp4 => ?_)
  refine zv_i2l C dL_worst_7 ?_
  refine zv_last (j := 0) C (by decide : kd 339 = _) (zI_ix (by omega)) (by decide) dL_worst_8 ?_
  refine zv_goto (tgt := 15) C dL_worst_9 (by decide) ?_
  refine zv_iconst (v := zI 0) C dL_worst_15 rfl ?_
  exact zv_iret C hr rfl dL_worst_16 ⟨rfl, r4, τ4, hp4, rfl⟩
set_option maxRecDepth 20000 in
theorem w_x1_X10_worst {l : Launch} (hfl : l.stackTraces = false) (E : zE) (σ : zS) (U : zSU) (y : Int) (hU : zSUp σ 29 U) (hyi : -2147483648 ≤ y ∧ y < 2147483648) (hno : ¬ (U.s0 ≤ y ∧ y ≤ U.s0 + 999)) : zRh l E yL_worst cL_worst 4 [(0, 9, 12, 13)] (zrx 10 227) 1 6 [.ref (ob E 0), .int (zI y), .ref (ob E 339)] σ (fun r τ => r = zI 1 ∧ (fun u => u = σ) τ) := by
  refine zMetH hfl (by decide) rfl (Nat.le_of_ble_eq_true rfl) ?_
  intro p e s m args below meth c C hr htab
  refine (?_ : zV p l e _ s m args below meth c 4 E _ 0 0 σ 0 [(0, .ref (ob E 0)), (1, .int (zI y)), (2, .ref (ob E 339))] [])
  have hpass : ∀ z ∈ tableOf [], z.catchType ≠ 0 ∧ ∃ nm' : String, Cond.classLink RL z.catchType nm' ∈ zT ∧ ("java/lang/IllegalArgumentException", nm') ∈ zNc := fun z hz => by
    cases hz
  refine zv_aload_n C 2 dL_worst_0 rfl rfl ?_
  refine zv_iconst (v := zI 0) C dL_worst_1 rfl ?_
  refine zv_aload_n C 0 dL_worst_2 rfl rfl ?_
  refine zv_iload_n C 1 dL_worst_3 rfl rfl ?_
  refine zv_xcatch (st := [.int (zI 0), .ref (ob E 339)]) C (x1_X10_worst hfl E σ U y hU hyi hno) (pre := tableOf []) (suf := tableOf []) (x := ⟨0, 9, 12, 13⟩) htab hpass (by decide) (by decide) zcl_13 zca_13 mX10_worst kL_59 (by decide : kd 0 = 9) rfl rfl rfl ⟨rfl, rfl⟩ (show zfit (zrx 9 200) 8 (zrx 10 227) = true from rfl) (Nat.le_of_ble_eq_true rfl) dL_worst_4 ⟨Nat.le_of_ble_eq_true rfl, Nat.le_of_ble_eq_true rfl⟩ (fun q9 τ9 hp9 => ?_)
  refine zv_astore_n (lv' := [(3, .ref q9), (0, .ref (ob E 0)), (1, .int (zI y)), (2, .ref (ob E 339))]) C dL_worst_12 rfl (by decide) rfl ?_
  refine zv_iconst (v := zI 1) C dL_worst_13 rfl ?_
  exact zv_iretN C hr rfl dL_worst_14 ⟨rfl, hp9⟩
set_option maxRecDepth 20000 in
theorem w_c_X10_ranked {l : Launch} (hfl : l.stackTraces = false) (E : zE) (σ : zS) (U : zSU) (S : zST) (y : Int) (rk : Int) (hU : zSUp σ 29 U) (hS : zSTp σ 34 S) (hy : U.s0 ≤ y ∧ y ≤ U.s0 + 999) (hrk : -2147483648 ≤ rk ∧ rk < 2147483648) (hfi : 0 ≤ fi (dRk U S y rk) U.nb) : zRh l E yL_ranked cL_ranked 5 [(0, 10, 13, 13), (0, 10, 17, 25)] (zrm 7 171) 0 0 [.ref (ob E 0), .int (zI y), .int (zI rk), .ref (ob E 339)] σ (fun r τ => r = zI 0 ∧ ∃ (v : Int32) (υ : zS), (fun r τ => r = zI (fi (dRk U S y rk) U.nb) ∧ τ = qM σ U S y U.nb) v υ ∧ τ = sJ υ 339 0 v.toInt64) := by
  refine zMetH hfl (by decide) rfl (Nat.le_of_ble_eq_true rfl) ?_
  intro p e s m args below meth c C hr htab
  refine (?_ : zV p l e _ s m args below meth c 5 E _ 0 0 σ 0 [(0, .ref (ob E 0)), (1, .int (zI y)), (2, .int (zI rk)), (3, .ref (ob E 339))] [])
  refine zv_aload_n C 3 dL_ranked_0 rfl rfl ?_
  refine zv_iconst (v := zI 0) C dL_ranked_1 rfl ?_
  refine zv_aload_n C 0 dL_ranked_2 rfl rfl ?_
  refine zv_iload_n C 1 dL_ranked_3 rfl rfl ?_
  refine zv_iload_n C 2 dL_ranked_4 rfl rfl ?_
  refine zv_cvi (st := [.int (zI 0), .ref (ob E 339)]) C (c_X10_ranked hfl E σ U S y rk hU hS hy hrk hfi) mX10_ranked kL_62 (by decide : kd 0 = 9) rfl rfl rfl ⟨rfl, rfl⟩ (show zfit (zrm 6 148) 4 (zrm 7 171) = true from rfl) (Nat.le_of_ble_eq_true rfl) dL_ranked_5 ⟨Nat.zero_le _, Nat.zero_le _⟩ (fun r5 τ5 hp5 => ?_)
  refine zv_i2l C dL_ranked_8 ?_
  refine zv_last (j := 0) C (by decide : kd 339 = _) (zI_ix (by omega)) (by decide) dL_ranked_9 ?_
  refine zv_goto (tgt := 21) C dL_ranked_10 (by decide) ?_
  refine zv_iconst (v := zI 0) C dL_ranked_21 rfl ?_
  exact zv_iret C hr rfl dL_ranked_22 ⟨rfl, r5, τ5, hp5, rfl⟩
set_option maxRecDepth 20000 in
theorem w_x1_X10_ranked {l : Launch} (hfl : l.stackTraces = false) (E : zE) (σ : zS) (U : zSU) (y rk : Int) (hU : zSUp σ 29 U) (hyi : -2147483648 ≤ y ∧ y < 2147483648) (hno : ¬ (U.s0 ≤ y ∧ y ≤ U.s0 + 999)) : zRh l E yL_ranked cL_ranked 5 [(0, 10, 13, 13), (0, 10, 17, 25)] (zrx 11 233) 1 6 [.ref (ob E 0), .int (zI y), .int (zI rk), .ref (ob E 339)] σ (fun r τ => r = zI 1 ∧ (fun u => u = σ) τ) := by
  refine zMetH hfl (by decide) rfl (Nat.le_of_ble_eq_true rfl) ?_
  intro p e s m args below meth c C hr htab
  refine (?_ : zV p l e _ s m args below meth c 5 E _ 0 0 σ 0 [(0, .ref (ob E 0)), (1, .int (zI y)), (2, .int (zI rk)), (3, .ref (ob E 339))] [])
  have hpass : ∀ z ∈ tableOf [], z.catchType ≠ 0 ∧ ∃ nm' : String, Cond.classLink RL z.catchType nm' ∈ zT ∧ ("java/lang/IllegalArgumentException", nm') ∈ zNc := fun z hz => by
    cases hz
  refine zv_aload_n C 3 dL_ranked_0 rfl rfl ?_
  refine zv_iconst (v := zI 0) C dL_ranked_1 rfl ?_
  refine zv_aload_n C 0 dL_ranked_2 rfl rfl ?_
  refine zv_iload_n C 1 dL_ranked_3 rfl rfl ?_
  refine zv_iload_n C 2 dL_ranked_4 rfl rfl ?_
  refine zv_xcatch (st := [.int (zI 0), .ref (ob E 339)]) C (x1_X10_ranked hfl E σ U y rk hU hyi hno) (pre := tableOf []) (suf := tableOf [(0, 10, 17, 25)]) (x := ⟨0, 10, 13, 13⟩) htab hpass (by decide) (by decide) zcl_13 zca_13 mX10_ranked kL_62 (by decide : kd 0 = 9) rfl rfl rfl ⟨rfl, rfl⟩ (show zfit (zrx 10 210) 4 (zrx 11 233) = true from rfl) (Nat.le_of_ble_eq_true rfl) dL_ranked_5 ⟨Nat.le_of_ble_eq_true rfl, Nat.le_of_ble_eq_true rfl⟩ (fun q9 τ9 hp9 => ?_)
  refine zv_astore (lv' := [(4, .ref q9), (0, .ref (ob E 0)), (1, .int (zI y)), (2, .int (zI rk)), (3, .ref (ob E 339))]) C dL_ranked_13  (by decide) rfl ?_
  refine zv_iconst (v := zI 1) C dL_ranked_15 rfl ?_
  exact zv_iretN C hr rfl dL_ranked_16 ⟨rfl, hp9⟩
set_option maxRecDepth 20000 in
theorem w_x2_X10_ranked {l : Launch} (hfl : l.stackTraces = false) (E : zE) (σ : zS) (U : zSU) (S : zST) (y : Int) (rk : Int) (hU : zSUp σ 29 U) (hS : zSTp σ 34 S) (hy : U.s0 ≤ y ∧ y ≤ U.s0 + 999) (hrk : -2147483648 ≤ rk ∧ rk < 2147483648) (hfi : fi (dRk U S y rk) U.nb = -1) : zRh l E yL_ranked cL_ranked 5 [(0, 10, 13, 13), (0, 10, 17, 25)] (zrx 11 233) 1 6 [.ref (ob E 0), .int (zI y), .int (zI rk), .ref (ob E 339)] σ (fun r τ => r = zI 2 ∧ (fun u => u = qM σ U S y U.nb) τ) := by
  refine zMetH hfl (by decide) rfl (Nat.le_of_ble_eq_true rfl) ?_
  intro p e s m args below meth c C hr htab
  refine (?_ : zV p l e _ s m args below meth c 5 E _ 0 0 σ 0 [(0, .ref (ob E 0)), (1, .int (zI y)), (2, .int (zI rk)), (3, .ref (ob E 339))] [])
  have hpass : ∀ z ∈ tableOf [(0, 10, 13, 13)], z.catchType ≠ 0 ∧ ∃ nm' : String, Cond.classLink RL z.catchType nm' ∈ zT ∧ ("java/util/NoSuchElementException", nm') ∈ zNc := fun z hz => by
    simp only [tableOf, List.map_cons, List.map_nil, List.mem_cons, List.not_mem_nil, or_false] at hz
    rcases hz with rfl
    · exact ⟨by decide, "java/lang/IllegalArgumentException", zcl_13, by decide⟩
  refine zv_aload_n C 3 dL_ranked_0 rfl rfl ?_
  refine zv_iconst (v := zI 0) C dL_ranked_1 rfl ?_
  refine zv_aload_n C 0 dL_ranked_2 rfl rfl ?_
  refine zv_iload_n C 1 dL_ranked_3 rfl rfl ?_
  refine zv_iload_n C 2 dL_ranked_4 rfl rfl ?_
  refine zv_xcatch (st := [.int (zI 0), .ref (ob E 339)]) C (x2_X10_ranked hfl E σ U S y rk hU hS hy hrk hfi) (pre := tableOf [(0, 10, 13, 13)]) (suf := tableOf []) (x := ⟨0, 10, 17, 25⟩) htab hpass (by decide) (by decide) zcl_25 zca_25 mX10_ranked kL_62 (by decide : kd 0 = 9) rfl rfl rfl ⟨rfl, rfl⟩ (show zfit (zrx 10 210) 4 (zrx 11 233) = true from rfl) (Nat.le_of_ble_eq_true rfl) dL_ranked_5 ⟨Nat.le_of_ble_eq_true rfl, Nat.le_of_ble_eq_true rfl⟩ (fun q9 τ9 hp9 => ?_)
  refine zv_astore (lv' := [(4, .ref q9), (0, .ref (ob E 0)), (1, .int (zI y)), (2, .int (zI rk)), (3, .ref (ob E 339))]) C dL_ranked_17  (by decide) rfl ?_
  refine zv_iconst (v := zI 2) C dL_ranked_19 rfl ?_
  exact zv_iretN C hr rfl dL_ranked_20 ⟨rfl, hp9⟩
set_option maxRecDepth 20000 in
theorem w_c_X10_firstBeyond {l : Launch} (hfl : l.stackTraces = false) (E : zE) (σ : zS) (U : zSU) (S : zST) (i : Nat) (lim : Int) (hU : zSUp σ 29 U) (hS : zSTp σ 34 S) (hi : i < U.nb) (hl : 0 ≤ lim ∧ lim ≤ 1000000000) : zRh l E yL_firstBeyond cL_firstBeyond 5 [(0, 10, 13, 19), (0, 10, 17, 13)] (zrm 6 150) 0 0 [.ref (ob E 0), .int (zI (i : Int)), .int (zI lim), .ref (ob E 339)] σ (fun r τ => r = zI 0 ∧ ∃ (v : Int32) (υ : zS), (fun r τ => r = zI (dFbR U S i lim) ∧ τ = (rW σ 322 (qDrift U S i).1 (qDrift U S i).2)) v υ ∧ τ = sJ υ 339 0 v.toInt64) := by
  refine zMetH hfl (by decide) rfl (Nat.le_of_ble_eq_true rfl) ?_
  intro p e s m args below meth c C hr htab
  refine (?_ : zV p l e _ s m args below meth c 5 E _ 0 0 σ 0 [(0, .ref (ob E 0)), (1, .int (zI (i : Int))), (2, .int (zI lim)), (3, .ref (ob E 339))] [])
  refine zv_aload_n C 3 dL_firstBeyond_0 rfl rfl ?_
  refine zv_iconst (v := zI 0) C dL_firstBeyond_1 rfl ?_
  refine zv_aload_n C 0 dL_firstBeyond_2 rfl rfl ?_
  refine zv_iload_n C 1 dL_firstBeyond_3 rfl rfl ?_
  refine zv_iload_n C 2 dL_firstBeyond_4 rfl rfl ?_
  refine zv_cvi (st := [.int (zI 0), .ref (ob E 339)]) C (c_X10_firstBeyond hfl E σ U S i lim hU hS hi hl) mX10_firstBeyond kL_65 (by decide : kd 0 = 9) rfl rfl rfl ⟨rfl, rfl⟩ (show zfit (zrm 5 126) 5 (zrm 6 150) = true from rfl) (Nat.le_of_ble_eq_true rfl) dL_firstBeyond_5 ⟨Nat.zero_le _, Nat.zero_le _⟩ (fun r5 τ5 hp5 => ?_)
  refine zv_i2l C dL_firstBeyond_8 ?_
  refine zv_last (j := 0) C (by decide : kd 339 = _) (zI_ix (by omega)) (by decide) dL_firstBeyond_9 ?_
  refine zv_goto (tgt := 21) C dL_firstBeyond_10 (by decide) ?_
  refine zv_iconst (v := zI 0) C dL_firstBeyond_21 rfl ?_
  exact zv_iret C hr rfl dL_firstBeyond_22 ⟨rfl, r5, τ5, hp5, rfl⟩
set_option maxRecDepth 20000 in
theorem w_x1_X10_firstBeyond {l : Launch} (hfl : l.stackTraces = false) (E : zE) (σ : zS) (U : zSU) (b : Int) (y : Int) (hU : zSUp σ 29 U) (hbi : -2147483648 ≤ b ∧ b < 2147483648) (hno : ¬ (0 ≤ b ∧ b < U.nb)) : zRh l E yL_firstBeyond cL_firstBeyond 5 [(0, 10, 13, 19), (0, 10, 17, 13)] (zrx 10 224) 1 6 [.ref (ob E 0), .int (zI b), .int (zI y), .ref (ob E 339)] σ (fun r τ => r = zI 1 ∧ (fun u => u = σ) τ) := by
  refine zMetH hfl (by decide) rfl (Nat.le_of_ble_eq_true rfl) ?_
  intro p e s m args below meth c C hr htab
  refine (?_ : zV p l e _ s m args below meth c 5 E _ 0 0 σ 0 [(0, .ref (ob E 0)), (1, .int (zI b)), (2, .int (zI y)), (3, .ref (ob E 339))] [])
  have hpass : ∀ z ∈ tableOf [], z.catchType ≠ 0 ∧ ∃ nm' : String, Cond.classLink RL z.catchType nm' ∈ zT ∧ ("java/lang/IndexOutOfBoundsException", nm') ∈ zNc := fun z hz => by
    cases hz
  refine zv_aload_n C 3 dL_firstBeyond_0 rfl rfl ?_
  refine zv_iconst (v := zI 0) C dL_firstBeyond_1 rfl ?_
  refine zv_aload_n C 0 dL_firstBeyond_2 rfl rfl ?_
  refine zv_iload_n C 1 dL_firstBeyond_3 rfl rfl ?_
  refine zv_iload_n C 2 dL_firstBeyond_4 rfl rfl ?_
  refine zv_xcatch (st := [.int (zI 0), .ref (ob E 339)]) C (x1_X10_firstBeyond hfl E σ U b y hU hbi hno) (pre := tableOf []) (suf := tableOf [(0, 10, 17, 13)]) (x := ⟨0, 10, 13, 19⟩) htab hpass (by decide) (by decide) zcl_19 zca_19 mX10_firstBeyond kL_65 (by decide : kd 0 = 9) rfl rfl rfl ⟨rfl, rfl⟩ (show zfit (zrx 9 200) 5 (zrx 10 224) = true from rfl) (Nat.le_of_ble_eq_true rfl) dL_firstBeyond_5 ⟨Nat.le_of_ble_eq_true rfl, Nat.le_of_ble_eq_true rfl⟩ (fun q9 τ9 hp9 => ?_)
  refine zv_astore (lv' := [(4, .ref q9), (0, .ref (ob E 0)), (1, .int (zI b)), (2, .int (zI y)), (3, .ref (ob E 339))]) C dL_firstBeyond_13  (by decide) rfl ?_
  refine zv_iconst (v := zI 1) C dL_firstBeyond_15 rfl ?_
  exact zv_iretN C hr rfl dL_firstBeyond_16 ⟨rfl, hp9⟩
set_option maxRecDepth 20000 in
theorem w_x2_X10_firstBeyond {l : Launch} (hfl : l.stackTraces = false) (E : zE) (σ : zS) (U : zSU) (S : zST) (i : Nat) (y : Int) (hU : zSUp σ 29 U) (hi : i < U.nb) (hyi : -2147483648 ≤ y ∧ y < 2147483648) (hno : ¬ (0 ≤ y ∧ y ≤ 1000000000)) : zRh l E yL_firstBeyond cL_firstBeyond 5 [(0, 10, 13, 19), (0, 10, 17, 13)] (zrx 10 224) 1 6 [.ref (ob E 0), .int (zI (i : Int)), .int (zI y), .ref (ob E 339)] σ (fun r τ => r = zI 2 ∧ (fun u => u = σ) τ) := by
  refine zMetH hfl (by decide) rfl (Nat.le_of_ble_eq_true rfl) ?_
  intro p e s m args below meth c C hr htab
  refine (?_ : zV p l e _ s m args below meth c 5 E _ 0 0 σ 0 [(0, .ref (ob E 0)), (1, .int (zI (i : Int))), (2, .int (zI y)), (3, .ref (ob E 339))] [])
  have hpass : ∀ z ∈ tableOf [(0, 10, 13, 19)], z.catchType ≠ 0 ∧ ∃ nm' : String, Cond.classLink RL z.catchType nm' ∈ zT ∧ ("java/lang/IllegalArgumentException", nm') ∈ zNc := fun z hz => by
    simp only [tableOf, List.map_cons, List.map_nil, List.mem_cons, List.not_mem_nil, or_false] at hz
    rcases hz with rfl
    · exact ⟨by decide, "java/lang/IndexOutOfBoundsException", zcl_19, by decide⟩
  refine zv_aload_n C 3 dL_firstBeyond_0 rfl rfl ?_
  refine zv_iconst (v := zI 0) C dL_firstBeyond_1 rfl ?_
  refine zv_aload_n C 0 dL_firstBeyond_2 rfl rfl ?_
  refine zv_iload_n C 1 dL_firstBeyond_3 rfl rfl ?_
  refine zv_iload_n C 2 dL_firstBeyond_4 rfl rfl ?_
  refine zv_xcatch (st := [.int (zI 0), .ref (ob E 339)]) C (x2_X10_firstBeyond hfl E σ U S i y hU hi hyi hno) (pre := tableOf [(0, 10, 13, 19)]) (suf := tableOf []) (x := ⟨0, 10, 17, 13⟩) htab hpass (by decide) (by decide) zcl_13 zca_13 mX10_firstBeyond kL_65 (by decide : kd 0 = 9) rfl rfl rfl ⟨rfl, rfl⟩ (show zfit (zrx 9 200) 5 (zrx 10 224) = true from rfl) (Nat.le_of_ble_eq_true rfl) dL_firstBeyond_5 ⟨Nat.le_of_ble_eq_true rfl, Nat.le_of_ble_eq_true rfl⟩ (fun q9 τ9 hp9 => ?_)
  refine zv_astore (lv' := [(4, .ref q9), (0, .ref (ob E 0)), (1, .int (zI (i : Int))), (2, .int (zI y)), (3, .ref (ob E 339))]) C dL_firstBeyond_17  (by decide) rfl ?_
  refine zv_iconst (v := zI 2) C dL_firstBeyond_19 rfl ?_
  exact zv_iretN C hr rfl dL_firstBeyond_20 ⟨rfl, hp9⟩
set_option maxRecDepth 20000 in
theorem w_c_X10_totalError {l : Launch} (hfl : l.stackTraces = false) (E : zE) (σ : zS) (U : zSU) (S : zST) (y : Int) (hU : zSUp σ 29 U) (hS : zSTp σ 34 S) (hy : U.s0 ≤ y ∧ y ≤ U.s0 + 999) : zRh l E yL_totalError cL_totalError 4 [(0, 8, 11, 13)] (zrm 7 172) 0 0 [.ref (ob E 0), .int (zI y), .ref (ob E 339)] σ (fun r τ => r = zI 0 ∧ ∃ (v : Int64) (υ : zS), (fun r τ => r = zL (qSum U S y U.nb) ∧ τ = qW σ U S U.nb) v υ ∧ τ = sJ υ 339 0 v) := by
  refine zMetH hfl (by decide) rfl (Nat.le_of_ble_eq_true rfl) ?_
  intro p e s m args below meth c C hr htab
  refine (?_ : zV p l e _ s m args below meth c 4 E _ 0 0 σ 0 [(0, .ref (ob E 0)), (1, .int (zI y)), (2, .ref (ob E 339))] [])
  refine zv_aload_n C 2 dL_totalError_0 rfl rfl ?_
  refine zv_iconst (v := zI 0) C dL_totalError_1 rfl ?_
  refine zv_aload_n C 0 dL_totalError_2 rfl rfl ?_
  refine zv_iload_n C 1 dL_totalError_3 rfl rfl ?_
  refine zv_cvl (st := [.int (zI 0), .ref (ob E 339)]) C (c_X10_totalError hfl E σ U S y hU hS hy) mX10_totalError kL_68 (by decide : kd 0 = 9) rfl rfl rfl ⟨rfl, rfl⟩ (show zfit (zrm 6 148) 5 (zrm 7 172) = true from rfl) (Nat.le_of_ble_eq_true rfl) dL_totalError_4 ⟨Nat.zero_le _, Nat.zero_le _⟩ (fun r4 τ4 hp4 => ?_)
  refine zv_last (j := 0) C (by decide : kd 339 = _) (zI_ix (by omega)) (by decide) dL_totalError_7 ?_
  refine zv_goto (tgt := 14) C dL_totalError_8 (by decide) ?_
  refine zv_iconst (v := zI 0) C dL_totalError_14 rfl ?_
  exact zv_iret C hr rfl dL_totalError_15 ⟨rfl, r4, τ4, hp4, rfl⟩
set_option maxRecDepth 20000 in
theorem w_x1_X10_totalError {l : Launch} (hfl : l.stackTraces = false) (E : zE) (σ : zS) (U : zSU) (y : Int) (hU : zSUp σ 29 U) (hyi : -2147483648 ≤ y ∧ y < 2147483648) (hno : ¬ (U.s0 ≤ y ∧ y ≤ U.s0 + 999)) : zRh l E yL_totalError cL_totalError 4 [(0, 8, 11, 13)] (zrx 10 224) 1 6 [.ref (ob E 0), .int (zI y), .ref (ob E 339)] σ (fun r τ => r = zI 1 ∧ (fun u => u = σ) τ) := by
  refine zMetH hfl (by decide) rfl (Nat.le_of_ble_eq_true rfl) ?_
  intro p e s m args below meth c C hr htab
  refine (?_ : zV p l e _ s m args below meth c 4 E _ 0 0 σ 0 [(0, .ref (ob E 0)), (1, .int (zI y)), (2, .ref (ob E 339))] [])
  have hpass : ∀ z ∈ tableOf [], z.catchType ≠ 0 ∧ ∃ nm' : String, Cond.classLink RL z.catchType nm' ∈ zT ∧ ("java/lang/IllegalArgumentException", nm') ∈ zNc := fun z hz => by
    cases hz
  refine zv_aload_n C 2 dL_totalError_0 rfl rfl ?_
  refine zv_iconst (v := zI 0) C dL_totalError_1 rfl ?_
  refine zv_aload_n C 0 dL_totalError_2 rfl rfl ?_
  refine zv_iload_n C 1 dL_totalError_3 rfl rfl ?_
  refine zv_xcatch (st := [.int (zI 0), .ref (ob E 339)]) C (x1_X10_totalError hfl E σ U y hU hyi hno) (pre := tableOf []) (suf := tableOf []) (x := ⟨0, 8, 11, 13⟩) htab hpass (by decide) (by decide) zcl_13 zca_13 mX10_totalError kL_68 (by decide : kd 0 = 9) rfl rfl rfl ⟨rfl, rfl⟩ (show zfit (zrx 9 200) 5 (zrx 10 224) = true from rfl) (Nat.le_of_ble_eq_true rfl) dL_totalError_4 ⟨Nat.le_of_ble_eq_true rfl, Nat.le_of_ble_eq_true rfl⟩ (fun q9 τ9 hp9 => ?_)
  refine zv_astore_n (lv' := [(3, .ref q9), (0, .ref (ob E 0)), (1, .int (zI y)), (2, .ref (ob E 339))]) C dL_totalError_11 rfl (by decide) rfl ?_
  refine zv_iconst (v := zI 1) C dL_totalError_12 rfl ?_
  exact zv_iretN C hr rfl dL_totalError_13 ⟨rfl, hp9⟩
set_option maxRecDepth 20000 in
theorem w_c_X10_growth {l : Launch} (hfl : l.stackTraces = false) (E : zE) (σ : zS) (U : zSU) (S : zST) (i : Nat) (a b : Int) (hU : zSUp σ 29 U) (hS : zSTp σ 34 S) (hi : i < U.nb) (ha : U.s0 ≤ a ∧ a ≤ U.s0 + 999) (hb : U.s0 ≤ b ∧ b ≤ U.s0 + 999) (hlt : a < b) : zRh l E yL_growth cL_growth 6 [(0, 11, 14, 19), (0, 11, 18, 13)] (zrm 6 157) 0 0 [.ref (ob E 0), .int (zI (i : Int)), .int (zI a), .int (zI b), .ref (ob E 339)] σ (fun r τ => r = zI 0 ∧ ∃ (v : Int64) (υ : zS), (fun r τ => r = zL (dGr U S i a (b - a).toNat) ∧ τ = (rW σ 322 (qDrift U S i).1 (qDrift U S i).2)) v υ ∧ τ = sJ υ 339 0 v) := by
  refine zMetH hfl (by decide) rfl (Nat.le_of_ble_eq_true rfl) ?_
  intro p e s m args below meth c C hr htab
  refine (?_ : zV p l e _ s m args below meth c 6 E _ 0 0 σ 0 [(0, .ref (ob E 0)), (1, .int (zI (i : Int))), (2, .int (zI a)), (3, .int (zI b)), (4, .ref (ob E 339))] [])
  refine zv_aload C 4 dL_growth_0 rfl ?_
  refine zv_iconst (v := zI 0) C dL_growth_2 rfl ?_
  refine zv_aload_n C 0 dL_growth_3 rfl rfl ?_
  refine zv_iload_n C 1 dL_growth_4 rfl rfl ?_
  refine zv_iload_n C 2 dL_growth_5 rfl rfl ?_
  refine zv_iload_n C 3 dL_growth_6 rfl rfl ?_
  refine zv_cvl (st := [.int (zI 0), .ref (ob E 339)]) C (c_X10_growth hfl E σ U S i a b hU hS hi ha hb hlt) mX10_growth kL_71 (by decide : kd 0 = 9) rfl rfl rfl ⟨rfl, rfl⟩ (show zfit (zrm 5 126) 12 (zrm 6 157) = true from rfl) (Nat.le_of_ble_eq_true rfl) dL_growth_7 ⟨Nat.zero_le _, Nat.zero_le _⟩ (fun r7 τ7 hp7 => ?_)
  refine zv_last (j := 0) C (by decide : kd 339 = _) (zI_ix (by omega)) (by decide) dL_growth_10 ?_
  refine zv_goto (tgt := 22) C dL_growth_11 (by decide) ?_
  refine zv_iconst (v := zI 0) C dL_growth_22 rfl ?_
  exact zv_iret C hr rfl dL_growth_23 ⟨rfl, r7, τ7, hp7, rfl⟩
set_option maxRecDepth 20000 in
theorem w_x1_X10_growth {l : Launch} (hfl : l.stackTraces = false) (E : zE) (σ : zS) (U : zSU) (b : Int) (y : Int) (z : Int) (hU : zSUp σ 29 U) (hbi : -2147483648 ≤ b ∧ b < 2147483648) (hno : ¬ (0 ≤ b ∧ b < U.nb)) : zRh l E yL_growth cL_growth 6 [(0, 11, 14, 19), (0, 11, 18, 13)] (zrx 12 291) 1 6 [.ref (ob E 0), .int (zI b), .int (zI y), .int (zI z), .ref (ob E 339)] σ (fun r τ => r = zI 1 ∧ (fun u => u = σ) τ) := by
  refine zMetH hfl (by decide) rfl (Nat.le_of_ble_eq_true rfl) ?_
  intro p e s m args below meth c C hr htab
  refine (?_ : zV p l e _ s m args below meth c 6 E _ 0 0 σ 0 [(0, .ref (ob E 0)), (1, .int (zI b)), (2, .int (zI y)), (3, .int (zI z)), (4, .ref (ob E 339))] [])
  have hpass : ∀ z ∈ tableOf [], z.catchType ≠ 0 ∧ ∃ nm' : String, Cond.classLink RL z.catchType nm' ∈ zT ∧ ("java/lang/IndexOutOfBoundsException", nm') ∈ zNc := fun z hz => by
    cases hz
  refine zv_aload C 4 dL_growth_0 rfl ?_
  refine zv_iconst (v := zI 0) C dL_growth_2 rfl ?_
  refine zv_aload_n C 0 dL_growth_3 rfl rfl ?_
  refine zv_iload_n C 1 dL_growth_4 rfl rfl ?_
  refine zv_iload_n C 2 dL_growth_5 rfl rfl ?_
  refine zv_iload_n C 3 dL_growth_6 rfl rfl ?_
  refine zv_xcatch (st := [.int (zI 0), .ref (ob E 339)]) C (x1_X10_growth hfl E σ U b y z hU hbi hno) (pre := tableOf []) (suf := tableOf [(0, 11, 18, 13)]) (x := ⟨0, 11, 14, 19⟩) htab hpass (by decide) (by decide) zcl_19 zca_19 mX10_growth kL_71 (by decide : kd 0 = 9) rfl rfl rfl ⟨rfl, rfl⟩ (show zfit (zrx 11 260) 12 (zrx 12 291) = true from rfl) (Nat.le_of_ble_eq_true rfl) dL_growth_7 ⟨Nat.le_of_ble_eq_true rfl, Nat.le_of_ble_eq_true rfl⟩ (fun q9 τ9 hp9 => ?_)
  refine zv_astore (lv' := [(5, .ref q9), (0, .ref (ob E 0)), (1, .int (zI b)), (2, .int (zI y)), (3, .int (zI z)), (4, .ref (ob E 339))]) C dL_growth_14  (by decide) rfl ?_
  refine zv_iconst (v := zI 1) C dL_growth_16 rfl ?_
  exact zv_iretN C hr rfl dL_growth_17 ⟨rfl, hp9⟩
set_option maxRecDepth 20000 in
theorem w_x2_X10_growth {l : Launch} (hfl : l.stackTraces = false) (E : zE) (σ : zS) (U : zSU) (i : Nat) (y z : Int) (hU : zSUp σ 29 U) (hi : i < U.nb) (hyi : -2147483648 ≤ y ∧ y < 2147483648) (hzi : -2147483648 ≤ z ∧ z < 2147483648) (hno : ¬ (U.s0 ≤ y ∧ y ≤ U.s0 + 999)) : zRh l E yL_growth cL_growth 6 [(0, 11, 14, 19), (0, 11, 18, 13)] (zrx 12 291) 1 6 [.ref (ob E 0), .int (zI (i : Int)), .int (zI y), .int (zI z), .ref (ob E 339)] σ (fun r τ => r = zI 2 ∧ (fun u => u = σ) τ) := by
  refine zMetH hfl (by decide) rfl (Nat.le_of_ble_eq_true rfl) ?_
  intro p e s m args below meth c C hr htab
  refine (?_ : zV p l e _ s m args below meth c 6 E _ 0 0 σ 0 [(0, .ref (ob E 0)), (1, .int (zI (i : Int))), (2, .int (zI y)), (3, .int (zI z)), (4, .ref (ob E 339))] [])
  have hpass : ∀ z ∈ tableOf [(0, 11, 14, 19)], z.catchType ≠ 0 ∧ ∃ nm' : String, Cond.classLink RL z.catchType nm' ∈ zT ∧ ("java/lang/IllegalArgumentException", nm') ∈ zNc := fun z hz => by
    simp only [tableOf, List.map_cons, List.map_nil, List.mem_cons, List.not_mem_nil, or_false] at hz
    rcases hz with rfl
    · exact ⟨by decide, "java/lang/IndexOutOfBoundsException", zcl_19, by decide⟩
  refine zv_aload C 4 dL_growth_0 rfl ?_
  refine zv_iconst (v := zI 0) C dL_growth_2 rfl ?_
  refine zv_aload_n C 0 dL_growth_3 rfl rfl ?_
  refine zv_iload_n C 1 dL_growth_4 rfl rfl ?_
  refine zv_iload_n C 2 dL_growth_5 rfl rfl ?_
  refine zv_iload_n C 3 dL_growth_6 rfl rfl ?_
  refine zv_xcatch (st := [.int (zI 0), .ref (ob E 339)]) C (x2_X10_growth hfl E σ U i y z hU hi hyi hzi hno) (pre := tableOf [(0, 11, 14, 19)]) (suf := tableOf []) (x := ⟨0, 11, 18, 13⟩) htab hpass (by decide) (by decide) zcl_13 zca_13 mX10_growth kL_71 (by decide : kd 0 = 9) rfl rfl rfl ⟨rfl, rfl⟩ (show zfit (zrx 11 260) 12 (zrx 12 291) = true from rfl) (Nat.le_of_ble_eq_true rfl) dL_growth_7 ⟨Nat.le_of_ble_eq_true rfl, Nat.le_of_ble_eq_true rfl⟩ (fun q9 τ9 hp9 => ?_)
  refine zv_astore (lv' := [(5, .ref q9), (0, .ref (ob E 0)), (1, .int (zI (i : Int))), (2, .int (zI y)), (3, .int (zI z)), (4, .ref (ob E 339))]) C dL_growth_18  (by decide) rfl ?_
  refine zv_iconst (v := zI 2) C dL_growth_20 rfl ?_
  exact zv_iretN C hr rfl dL_growth_21 ⟨rfl, hp9⟩
set_option maxRecDepth 20000 in
theorem w_x3_X10_growth {l : Launch} (hfl : l.stackTraces = false) (E : zE) (σ : zS) (U : zSU) (i : Nat) (y z : Int) (hU : zSUp σ 29 U) (hi : i < U.nb) (hyi : -2147483648 ≤ y ∧ y < 2147483648) (hzi : -2147483648 ≤ z ∧ z < 2147483648) (hy : U.s0 ≤ y ∧ y ≤ U.s0 + 999) (hno : ¬ (U.s0 ≤ z ∧ z ≤ U.s0 + 999)) : zRh l E yL_growth cL_growth 6 [(0, 11, 14, 19), (0, 11, 18, 13)] (zrx 12 291) 1 6 [.ref (ob E 0), .int (zI (i : Int)), .int (zI y), .int (zI z), .ref (ob E 339)] σ (fun r τ => r = zI 2 ∧ (fun u => u = σ) τ) := by
  refine zMetH hfl (by decide) rfl (Nat.le_of_ble_eq_true rfl) ?_
  intro p e s m args below meth c C hr htab
  refine (?_ : zV p l e _ s m args below meth c 6 E _ 0 0 σ 0 [(0, .ref (ob E 0)), (1, .int (zI (i : Int))), (2, .int (zI y)), (3, .int (zI z)), (4, .ref (ob E 339))] [])
  have hpass : ∀ z ∈ tableOf [(0, 11, 14, 19)], z.catchType ≠ 0 ∧ ∃ nm' : String, Cond.classLink RL z.catchType nm' ∈ zT ∧ ("java/lang/IllegalArgumentException", nm') ∈ zNc := fun z hz => by
    simp only [tableOf, List.map_cons, List.map_nil, List.mem_cons, List.not_mem_nil, or_false] at hz
    rcases hz with rfl
    · exact ⟨by decide, "java/lang/IndexOutOfBoundsException", zcl_19, by decide⟩
  refine zv_aload C 4 dL_growth_0 rfl ?_
  refine zv_iconst (v := zI 0) C dL_growth_2 rfl ?_
  refine zv_aload_n C 0 dL_growth_3 rfl rfl ?_
  refine zv_iload_n C 1 dL_growth_4 rfl rfl ?_
  refine zv_iload_n C 2 dL_growth_5 rfl rfl ?_
  refine zv_iload_n C 3 dL_growth_6 rfl rfl ?_
  refine zv_xcatch (st := [.int (zI 0), .ref (ob E 339)]) C (x3_X10_growth hfl E σ U i y z hU hi hyi hzi hy hno) (pre := tableOf [(0, 11, 14, 19)]) (suf := tableOf []) (x := ⟨0, 11, 18, 13⟩) htab hpass (by decide) (by decide) zcl_13 zca_13 mX10_growth kL_71 (by decide : kd 0 = 9) rfl rfl rfl ⟨rfl, rfl⟩ (show zfit (zrx 11 260) 12 (zrx 12 291) = true from rfl) (Nat.le_of_ble_eq_true rfl) dL_growth_7 ⟨Nat.le_of_ble_eq_true rfl, Nat.le_of_ble_eq_true rfl⟩ (fun q9 τ9 hp9 => ?_)
  refine zv_astore (lv' := [(5, .ref q9), (0, .ref (ob E 0)), (1, .int (zI (i : Int))), (2, .int (zI y)), (3, .int (zI z)), (4, .ref (ob E 339))]) C dL_growth_18  (by decide) rfl ?_
  refine zv_iconst (v := zI 2) C dL_growth_20 rfl ?_
  exact zv_iretN C hr rfl dL_growth_21 ⟨rfl, hp9⟩
set_option maxRecDepth 20000 in
theorem w_x4_X10_growth {l : Launch} (hfl : l.stackTraces = false) (E : zE) (σ : zS) (U : zSU) (i : Nat) (y z : Int) (hU : zSUp σ 29 U) (hi : i < U.nb) (hyi : -2147483648 ≤ y ∧ y < 2147483648) (hzi : -2147483648 ≤ z ∧ z < 2147483648) (hy : U.s0 ≤ y ∧ y ≤ U.s0 + 999) (hz : U.s0 ≤ z ∧ z ≤ U.s0 + 999) (hno : z < y) : zRh l E yL_growth cL_growth 6 [(0, 11, 14, 19), (0, 11, 18, 13)] (zrx 12 291) 1 6 [.ref (ob E 0), .int (zI (i : Int)), .int (zI y), .int (zI z), .ref (ob E 339)] σ (fun r τ => r = zI 2 ∧ (fun u => u = σ) τ) := by
  refine zMetH hfl (by decide) rfl (Nat.le_of_ble_eq_true rfl) ?_
  intro p e s m args below meth c C hr htab
  refine (?_ : zV p l e _ s m args below meth c 6 E _ 0 0 σ 0 [(0, .ref (ob E 0)), (1, .int (zI (i : Int))), (2, .int (zI y)), (3, .int (zI z)), (4, .ref (ob E 339))] [])
  have hpass : ∀ z ∈ tableOf [(0, 11, 14, 19)], z.catchType ≠ 0 ∧ ∃ nm' : String, Cond.classLink RL z.catchType nm' ∈ zT ∧ ("java/lang/IllegalArgumentException", nm') ∈ zNc := fun z hz => by
    simp only [tableOf, List.map_cons, List.map_nil, List.mem_cons, List.not_mem_nil, or_false] at hz
    rcases hz with rfl
    · exact ⟨by decide, "java/lang/IndexOutOfBoundsException", zcl_19, by decide⟩
  refine zv_aload C 4 dL_growth_0 rfl ?_
  refine zv_iconst (v := zI 0) C dL_growth_2 rfl ?_
  refine zv_aload_n C 0 dL_growth_3 rfl rfl ?_
  refine zv_iload_n C 1 dL_growth_4 rfl rfl ?_
  refine zv_iload_n C 2 dL_growth_5 rfl rfl ?_
  refine zv_iload_n C 3 dL_growth_6 rfl rfl ?_
  refine zv_xcatch (st := [.int (zI 0), .ref (ob E 339)]) C (x4_X10_growth hfl E σ U i y z hU hi hyi hzi hy hz hno) (pre := tableOf [(0, 11, 14, 19)]) (suf := tableOf []) (x := ⟨0, 11, 18, 13⟩) htab hpass (by decide) (by decide) zcl_13 zca_13 mX10_growth kL_71 (by decide : kd 0 = 9) rfl rfl rfl ⟨rfl, rfl⟩ (show zfit (zrx 11 260) 12 (zrx 12 291) = true from rfl) (Nat.le_of_ble_eq_true rfl) dL_growth_7 ⟨Nat.le_of_ble_eq_true rfl, Nat.le_of_ble_eq_true rfl⟩ (fun q9 τ9 hp9 => ?_)
  refine zv_astore (lv' := [(5, .ref q9), (0, .ref (ob E 0)), (1, .int (zI (i : Int))), (2, .int (zI y)), (3, .int (zI z)), (4, .ref (ob E 339))]) C dL_growth_18  (by decide) rfl ?_
  refine zv_iconst (v := zI 2) C dL_growth_20 rfl ?_
  exact zv_iretN C hr rfl dL_growth_21 ⟨rfl, hp9⟩
set_option maxRecDepth 20000 in
theorem w_x5_X10_growth {l : Launch} (hfl : l.stackTraces = false) (E : zE) (σ : zS) (U : zSU) (i : Nat) (y : Int) (hU : zSUp σ 29 U) (hi : i < U.nb) (hyi : -2147483648 ≤ y ∧ y < 2147483648) (hy : U.s0 ≤ y ∧ y ≤ U.s0 + 999) : zRh l E yL_growth cL_growth 6 [(0, 11, 14, 19), (0, 11, 18, 13)] (zrx 12 291) 1 6 [.ref (ob E 0), .int (zI (i : Int)), .int (zI y), .int (zI y), .ref (ob E 339)] σ (fun r τ => r = zI 2 ∧ (fun u => u = σ) τ) := by
  refine zMetH hfl (by decide) rfl (Nat.le_of_ble_eq_true rfl) ?_
  intro p e s m args below meth c C hr htab
  refine (?_ : zV p l e _ s m args below meth c 6 E _ 0 0 σ 0 [(0, .ref (ob E 0)), (1, .int (zI (i : Int))), (2, .int (zI y)), (3, .int (zI y)), (4, .ref (ob E 339))] [])
  have hpass : ∀ z ∈ tableOf [(0, 11, 14, 19)], z.catchType ≠ 0 ∧ ∃ nm' : String, Cond.classLink RL z.catchType nm' ∈ zT ∧ ("java/lang/IllegalArgumentException", nm') ∈ zNc := fun z hz => by
    simp only [tableOf, List.map_cons, List.map_nil, List.mem_cons, List.not_mem_nil, or_false] at hz
    rcases hz with rfl
    · exact ⟨by decide, "java/lang/IndexOutOfBoundsException", zcl_19, by decide⟩
  refine zv_aload C 4 dL_growth_0 rfl ?_
  refine zv_iconst (v := zI 0) C dL_growth_2 rfl ?_
  refine zv_aload_n C 0 dL_growth_3 rfl rfl ?_
  refine zv_iload_n C 1 dL_growth_4 rfl rfl ?_
  refine zv_iload_n C 2 dL_growth_5 rfl rfl ?_
  refine zv_iload_n C 3 dL_growth_6 rfl rfl ?_
  refine zv_xcatch (st := [.int (zI 0), .ref (ob E 339)]) C (x5_X10_growth hfl E σ U i y hU hi hyi hy) (pre := tableOf [(0, 11, 14, 19)]) (suf := tableOf []) (x := ⟨0, 11, 18, 13⟩) htab hpass (by decide) (by decide) zcl_13 zca_13 mX10_growth kL_71 (by decide : kd 0 = 9) rfl rfl rfl ⟨rfl, rfl⟩ (show zfit (zrx 11 260) 12 (zrx 12 291) = true from rfl) (Nat.le_of_ble_eq_true rfl) dL_growth_7 ⟨Nat.le_of_ble_eq_true rfl, Nat.le_of_ble_eq_true rfl⟩ (fun q9 τ9 hp9 => ?_)
  refine zv_astore (lv' := [(5, .ref q9), (0, .ref (ob E 0)), (1, .int (zI (i : Int))), (2, .int (zI y)), (3, .int (zI y)), (4, .ref (ob E 339))]) C dL_growth_18  (by decide) rfl ?_
  refine zv_iconst (v := zI 2) C dL_growth_20 rfl ?_
  exact zv_iretN C hr rfl dL_growth_21 ⟨rfl, hp9⟩
set_option maxRecDepth 20000 in
theorem w_c_X10_bestPair {l : Launch} (hfl : l.stackTraces = false) (E : zE) (σ : zS) (U : zSU) (S : zST) (i : Nat) (w : Nat) (hU : zSUp σ 29 U) (hS : zSTp σ 34 S) (hi : i < U.nb) (hw : w < 2) : zRh l E yL_bestPair cL_bestPair 5 [(0, 10, 13, 19), (0, 10, 17, 13)] (zrm 5 140) 0 0 [.ref (ob E 0), .int (zI (i : Int)), .int (zI (w : Int)), .ref (ob E 339)] σ (fun r τ => r = zI 0 ∧ ∃ (v : Int32) (υ : zS), (fun r τ => r = zI (dBp U S i w) ∧ τ = if S.n < 2 then σ else bW σ U i (gBP U S i)) v υ ∧ τ = sJ υ 339 0 v.toInt64) := by
  refine zMetH hfl (by decide) rfl (Nat.le_of_ble_eq_true rfl) ?_
  intro p e s m args below meth c C hr htab
  refine (?_ : zV p l e _ s m args below meth c 5 E _ 0 0 σ 0 [(0, .ref (ob E 0)), (1, .int (zI (i : Int))), (2, .int (zI (w : Int))), (3, .ref (ob E 339))] [])
  refine zv_aload_n C 3 dL_bestPair_0 rfl rfl ?_
  refine zv_iconst (v := zI 0) C dL_bestPair_1 rfl ?_
  refine zv_aload_n C 0 dL_bestPair_2 rfl rfl ?_
  refine zv_iload_n C 1 dL_bestPair_3 rfl rfl ?_
  refine zv_iload_n C 2 dL_bestPair_4 rfl rfl ?_
  refine zv_cvi (st := [.int (zI 0), .ref (ob E 339)]) C (c_X10_bestPair hfl E σ U S i w hU hS hi hw) mX10_bestPair kL_75 (by decide : kd 0 = 9) rfl rfl rfl ⟨rfl, rfl⟩ (show zfit (zrm 4 118) 3 (zrm 5 140) = true from rfl) (Nat.le_of_ble_eq_true rfl) dL_bestPair_5 ⟨Nat.zero_le _, Nat.zero_le _⟩ (fun r5 τ5 hp5 => ?_)
  refine zv_i2l C dL_bestPair_8 ?_
  refine zv_last (j := 0) C (by decide : kd 339 = _) (zI_ix (by omega)) (by decide) dL_bestPair_9 ?_
  refine zv_goto (tgt := 21) C dL_bestPair_10 (by decide) ?_
  refine zv_iconst (v := zI 0) C dL_bestPair_21 rfl ?_
  exact zv_iret C hr rfl dL_bestPair_22 ⟨rfl, r5, τ5, hp5, rfl⟩
set_option maxRecDepth 20000 in
theorem w_x1_X10_bestPair {l : Launch} (hfl : l.stackTraces = false) (E : zE) (σ : zS) (U : zSU) (b : Int) (y : Int) (hU : zSUp σ 29 U) (hbi : -2147483648 ≤ b ∧ b < 2147483648) (hno : ¬ (0 ≤ b ∧ b < U.nb)) : zRh l E yL_bestPair cL_bestPair 5 [(0, 10, 13, 19), (0, 10, 17, 13)] (zrx 10 222) 1 6 [.ref (ob E 0), .int (zI b), .int (zI y), .ref (ob E 339)] σ (fun r τ => r = zI 1 ∧ (fun u => u = σ) τ) := by
  refine zMetH hfl (by decide) rfl (Nat.le_of_ble_eq_true rfl) ?_
  intro p e s m args below meth c C hr htab
  refine (?_ : zV p l e _ s m args below meth c 5 E _ 0 0 σ 0 [(0, .ref (ob E 0)), (1, .int (zI b)), (2, .int (zI y)), (3, .ref (ob E 339))] [])
  have hpass : ∀ z ∈ tableOf [], z.catchType ≠ 0 ∧ ∃ nm' : String, Cond.classLink RL z.catchType nm' ∈ zT ∧ ("java/lang/IndexOutOfBoundsException", nm') ∈ zNc := fun z hz => by
    cases hz
  refine zv_aload_n C 3 dL_bestPair_0 rfl rfl ?_
  refine zv_iconst (v := zI 0) C dL_bestPair_1 rfl ?_
  refine zv_aload_n C 0 dL_bestPair_2 rfl rfl ?_
  refine zv_iload_n C 1 dL_bestPair_3 rfl rfl ?_
  refine zv_iload_n C 2 dL_bestPair_4 rfl rfl ?_
  refine zv_xcatch (st := [.int (zI 0), .ref (ob E 339)]) C (x1_X10_bestPair hfl E σ U b y hU hbi hno) (pre := tableOf []) (suf := tableOf [(0, 10, 17, 13)]) (x := ⟨0, 10, 13, 19⟩) htab hpass (by decide) (by decide) zcl_19 zca_19 mX10_bestPair kL_75 (by decide : kd 0 = 9) rfl rfl rfl ⟨rfl, rfl⟩ (show zfit (zrx 9 200) 3 (zrx 10 222) = true from rfl) (Nat.le_of_ble_eq_true rfl) dL_bestPair_5 ⟨Nat.le_of_ble_eq_true rfl, Nat.le_of_ble_eq_true rfl⟩ (fun q9 τ9 hp9 => ?_)
  refine zv_astore (lv' := [(4, .ref q9), (0, .ref (ob E 0)), (1, .int (zI b)), (2, .int (zI y)), (3, .ref (ob E 339))]) C dL_bestPair_13  (by decide) rfl ?_
  refine zv_iconst (v := zI 1) C dL_bestPair_15 rfl ?_
  exact zv_iretN C hr rfl dL_bestPair_16 ⟨rfl, hp9⟩
set_option maxRecDepth 20000 in
theorem w_x2_X10_bestPair {l : Launch} (hfl : l.stackTraces = false) (E : zE) (σ : zS) (U : zSU) (S : zST) (i : Nat) (y : Int) (hU : zSUp σ 29 U) (hi : i < U.nb) (hyi : -2147483648 ≤ y ∧ y < 2147483648) (hno : ¬ (0 ≤ y ∧ y ≤ 1)) : zRh l E yL_bestPair cL_bestPair 5 [(0, 10, 13, 19), (0, 10, 17, 13)] (zrx 10 222) 1 6 [.ref (ob E 0), .int (zI (i : Int)), .int (zI y), .ref (ob E 339)] σ (fun r τ => r = zI 2 ∧ (fun u => u = σ) τ) := by
  refine zMetH hfl (by decide) rfl (Nat.le_of_ble_eq_true rfl) ?_
  intro p e s m args below meth c C hr htab
  refine (?_ : zV p l e _ s m args below meth c 5 E _ 0 0 σ 0 [(0, .ref (ob E 0)), (1, .int (zI (i : Int))), (2, .int (zI y)), (3, .ref (ob E 339))] [])
  have hpass : ∀ z ∈ tableOf [(0, 10, 13, 19)], z.catchType ≠ 0 ∧ ∃ nm' : String, Cond.classLink RL z.catchType nm' ∈ zT ∧ ("java/lang/IllegalArgumentException", nm') ∈ zNc := fun z hz => by
    simp only [tableOf, List.map_cons, List.map_nil, List.mem_cons, List.not_mem_nil, or_false] at hz
    rcases hz with rfl
    · exact ⟨by decide, "java/lang/IndexOutOfBoundsException", zcl_19, by decide⟩
  refine zv_aload_n C 3 dL_bestPair_0 rfl rfl ?_
  refine zv_iconst (v := zI 0) C dL_bestPair_1 rfl ?_
  refine zv_aload_n C 0 dL_bestPair_2 rfl rfl ?_
  refine zv_iload_n C 1 dL_bestPair_3 rfl rfl ?_
  refine zv_iload_n C 2 dL_bestPair_4 rfl rfl ?_
  refine zv_xcatch (st := [.int (zI 0), .ref (ob E 339)]) C (x2_X10_bestPair hfl E σ U S i y hU hi hyi hno) (pre := tableOf [(0, 10, 13, 19)]) (suf := tableOf []) (x := ⟨0, 10, 17, 13⟩) htab hpass (by decide) (by decide) zcl_13 zca_13 mX10_bestPair kL_75 (by decide : kd 0 = 9) rfl rfl rfl ⟨rfl, rfl⟩ (show zfit (zrx 9 200) 3 (zrx 10 222) = true from rfl) (Nat.le_of_ble_eq_true rfl) dL_bestPair_5 ⟨Nat.le_of_ble_eq_true rfl, Nat.le_of_ble_eq_true rfl⟩ (fun q9 τ9 hp9 => ?_)
  refine zv_astore (lv' := [(4, .ref q9), (0, .ref (ob E 0)), (1, .int (zI (i : Int))), (2, .int (zI y)), (3, .ref (ob E 339))]) C dL_bestPair_17  (by decide) rfl ?_
  refine zv_iconst (v := zI 2) C dL_bestPair_19 rfl ?_
  exact zv_iretN C hr rfl dL_bestPair_20 ⟨rfl, hp9⟩
set_option maxRecDepth 20000 in
theorem w_c_X10_bestTrain {l : Launch} (hfl : l.stackTraces = false) (E : zE) (σ : zS) (U : zSU) (S : zST) (i : Nat) (w : Nat) (hU : zSUp σ 29 U) (hS : zSTp σ 34 S) (hi : i < U.nb) (hw : w < 4) : zRh l E yL_bestTrain cL_bestTrain 5 [(0, 10, 13, 19), (0, 10, 17, 13)] (zrm 6 165) 0 0 [.ref (ob E 0), .int (zI (i : Int)), .int (zI (w : Int)), .ref (ob E 339)] σ (fun r τ => r = zI 0 ∧ ∃ (v : Int32) (υ : zS), (fun r τ => r = zI (dBt U S i w) ∧ τ = if S.n < 2 then σ else bW σ U i (gBT U S i)) v υ ∧ τ = sJ υ 339 0 v.toInt64) := by
  refine zMetH hfl (by decide) rfl (Nat.le_of_ble_eq_true rfl) ?_
  intro p e s m args below meth c C hr htab
  refine (?_ : zV p l e _ s m args below meth c 5 E _ 0 0 σ 0 [(0, .ref (ob E 0)), (1, .int (zI (i : Int))), (2, .int (zI (w : Int))), (3, .ref (ob E 339))] [])
  refine zv_aload_n C 3 dL_bestTrain_0 rfl rfl ?_
  refine zv_iconst (v := zI 0) C dL_bestTrain_1 rfl ?_
  refine zv_aload_n C 0 dL_bestTrain_2 rfl rfl ?_
  refine zv_iload_n C 1 dL_bestTrain_3 rfl rfl ?_
  refine zv_iload_n C 2 dL_bestTrain_4 rfl rfl ?_
  refine zv_cvi (st := [.int (zI 0), .ref (ob E 339)]) C (c_X10_bestTrain hfl E σ U S i w hU hS hi hw) mX10_bestTrain kL_78 (by decide : kd 0 = 9) rfl rfl rfl ⟨rfl, rfl⟩ (show zfit (zrm 5 143) 3 (zrm 6 165) = true from rfl) (Nat.le_of_ble_eq_true rfl) dL_bestTrain_5 ⟨Nat.zero_le _, Nat.zero_le _⟩ (fun r5 τ5 hp5 => ?_)
  refine zv_i2l C dL_bestTrain_8 ?_
  refine zv_last (j := 0) C (by decide : kd 339 = _) (zI_ix (by omega)) (by decide) dL_bestTrain_9 ?_
  refine zv_goto (tgt := 21) C dL_bestTrain_10 (by decide) ?_
  refine zv_iconst (v := zI 0) C dL_bestTrain_21 rfl ?_
  exact zv_iret C hr rfl dL_bestTrain_22 ⟨rfl, r5, τ5, hp5, rfl⟩
set_option maxRecDepth 20000 in
theorem w_x1_X10_bestTrain {l : Launch} (hfl : l.stackTraces = false) (E : zE) (σ : zS) (U : zSU) (b : Int) (y : Int) (hU : zSUp σ 29 U) (hbi : -2147483648 ≤ b ∧ b < 2147483648) (hno : ¬ (0 ≤ b ∧ b < U.nb)) : zRh l E yL_bestTrain cL_bestTrain 5 [(0, 10, 13, 19), (0, 10, 17, 13)] (zrx 10 222) 1 6 [.ref (ob E 0), .int (zI b), .int (zI y), .ref (ob E 339)] σ (fun r τ => r = zI 1 ∧ (fun u => u = σ) τ) := by
  refine zMetH hfl (by decide) rfl (Nat.le_of_ble_eq_true rfl) ?_
  intro p e s m args below meth c C hr htab
  refine (?_ : zV p l e _ s m args below meth c 5 E _ 0 0 σ 0 [(0, .ref (ob E 0)), (1, .int (zI b)), (2, .int (zI y)), (3, .ref (ob E 339))] [])
  have hpass : ∀ z ∈ tableOf [], z.catchType ≠ 0 ∧ ∃ nm' : String, Cond.classLink RL z.catchType nm' ∈ zT ∧ ("java/lang/IndexOutOfBoundsException", nm') ∈ zNc := fun z hz => by
    cases hz
  refine zv_aload_n C 3 dL_bestTrain_0 rfl rfl ?_
  refine zv_iconst (v := zI 0) C dL_bestTrain_1 rfl ?_
  refine zv_aload_n C 0 dL_bestTrain_2 rfl rfl ?_
  refine zv_iload_n C 1 dL_bestTrain_3 rfl rfl ?_
  refine zv_iload_n C 2 dL_bestTrain_4 rfl rfl ?_
  refine zv_xcatch (st := [.int (zI 0), .ref (ob E 339)]) C (x1_X10_bestTrain hfl E σ U b y hU hbi hno) (pre := tableOf []) (suf := tableOf [(0, 10, 17, 13)]) (x := ⟨0, 10, 13, 19⟩) htab hpass (by decide) (by decide) zcl_19 zca_19 mX10_bestTrain kL_78 (by decide : kd 0 = 9) rfl rfl rfl ⟨rfl, rfl⟩ (show zfit (zrx 9 200) 3 (zrx 10 222) = true from rfl) (Nat.le_of_ble_eq_true rfl) dL_bestTrain_5 ⟨Nat.le_of_ble_eq_true rfl, Nat.le_of_ble_eq_true rfl⟩ (fun q9 τ9 hp9 => ?_)
  refine zv_astore (lv' := [(4, .ref q9), (0, .ref (ob E 0)), (1, .int (zI b)), (2, .int (zI y)), (3, .ref (ob E 339))]) C dL_bestTrain_13  (by decide) rfl ?_
  refine zv_iconst (v := zI 1) C dL_bestTrain_15 rfl ?_
  exact zv_iretN C hr rfl dL_bestTrain_16 ⟨rfl, hp9⟩
set_option maxRecDepth 20000 in
theorem w_x2_X10_bestTrain {l : Launch} (hfl : l.stackTraces = false) (E : zE) (σ : zS) (U : zSU) (S : zST) (i : Nat) (y : Int) (hU : zSUp σ 29 U) (hi : i < U.nb) (hyi : -2147483648 ≤ y ∧ y < 2147483648) (hno : ¬ (0 ≤ y ∧ y ≤ 3)) : zRh l E yL_bestTrain cL_bestTrain 5 [(0, 10, 13, 19), (0, 10, 17, 13)] (zrx 10 222) 1 6 [.ref (ob E 0), .int (zI (i : Int)), .int (zI y), .ref (ob E 339)] σ (fun r τ => r = zI 2 ∧ (fun u => u = σ) τ) := by
  refine zMetH hfl (by decide) rfl (Nat.le_of_ble_eq_true rfl) ?_
  intro p e s m args below meth c C hr htab
  refine (?_ : zV p l e _ s m args below meth c 5 E _ 0 0 σ 0 [(0, .ref (ob E 0)), (1, .int (zI (i : Int))), (2, .int (zI y)), (3, .ref (ob E 339))] [])
  have hpass : ∀ z ∈ tableOf [(0, 10, 13, 19)], z.catchType ≠ 0 ∧ ∃ nm' : String, Cond.classLink RL z.catchType nm' ∈ zT ∧ ("java/lang/IllegalArgumentException", nm') ∈ zNc := fun z hz => by
    simp only [tableOf, List.map_cons, List.map_nil, List.mem_cons, List.not_mem_nil, or_false] at hz
    rcases hz with rfl
    · exact ⟨by decide, "java/lang/IndexOutOfBoundsException", zcl_19, by decide⟩
  refine zv_aload_n C 3 dL_bestTrain_0 rfl rfl ?_
  refine zv_iconst (v := zI 0) C dL_bestTrain_1 rfl ?_
  refine zv_aload_n C 0 dL_bestTrain_2 rfl rfl ?_
  refine zv_iload_n C 1 dL_bestTrain_3 rfl rfl ?_
  refine zv_iload_n C 2 dL_bestTrain_4 rfl rfl ?_
  refine zv_xcatch (st := [.int (zI 0), .ref (ob E 339)]) C (x2_X10_bestTrain hfl E σ U S i y hU hi hyi hno) (pre := tableOf [(0, 10, 13, 19)]) (suf := tableOf []) (x := ⟨0, 10, 17, 13⟩) htab hpass (by decide) (by decide) zcl_13 zca_13 mX10_bestTrain kL_78 (by decide : kd 0 = 9) rfl rfl rfl ⟨rfl, rfl⟩ (show zfit (zrx 9 200) 3 (zrx 10 222) = true from rfl) (Nat.le_of_ble_eq_true rfl) dL_bestTrain_5 ⟨Nat.le_of_ble_eq_true rfl, Nat.le_of_ble_eq_true rfl⟩ (fun q9 τ9 hp9 => ?_)
  refine zv_astore (lv' := [(4, .ref q9), (0, .ref (ob E 0)), (1, .int (zI (i : Int))), (2, .int (zI y)), (3, .ref (ob E 339))]) C dL_bestTrain_17  (by decide) rfl ?_
  refine zv_iconst (v := zI 2) C dL_bestTrain_19 rfl ?_
  exact zv_iretN C hr rfl dL_bestTrain_20 ⟨rfl, hp9⟩
set_option maxRecDepth 20000 in
theorem w_c_X10_convergent {l : Launch} (hfl : l.stackTraces = false) (E : zE) (σ : zS) (U : zSU) (i k : Nat) (w : Int) (hU : zSUp σ 29 U) (hi : i < U.nb) (hk : k < 2147483648) (hw : w = 0 ∨ w = 1) : zRh l E yL_convergent cL_convergent 6 [(0, 11, 14, 19), (0, 11, 18, 13)] (zrm 2 66) 0 0 [.ref (ob E 0), .int (zI (i : Int)), .int (zI (k : Int)), .int (zI w), .ref (ob E 339)] σ (fun r τ => r = zI 0 ∧ ∃ (v : Int64) (υ : zS), (fun r τ => r = zL (dCv (U.pe i) k w) ∧ τ = σ) v υ ∧ τ = sJ υ 339 0 v) := by
  refine zMetH hfl (by decide) rfl (Nat.le_of_ble_eq_true rfl) ?_
  intro p e s m args below meth c C hr htab
  refine (?_ : zV p l e _ s m args below meth c 6 E _ 0 0 σ 0 [(0, .ref (ob E 0)), (1, .int (zI (i : Int))), (2, .int (zI (k : Int))), (3, .int (zI w)), (4, .ref (ob E 339))] [])
  refine zv_aload C 4 dL_convergent_0 rfl ?_
  refine zv_iconst (v := zI 0) C dL_convergent_2 rfl ?_
  refine zv_aload_n C 0 dL_convergent_3 rfl rfl ?_
  refine zv_iload_n C 1 dL_convergent_4 rfl rfl ?_
  refine zv_iload_n C 2 dL_convergent_5 rfl rfl ?_
  refine zv_iload_n C 3 dL_convergent_6 rfl rfl ?_
  refine zv_cvl (st := [.int (zI 0), .ref (ob E 339)]) C (c_X10_convergent hfl E σ U i k w hU hi hk hw) mX10_convergent kL_81 (by decide : kd 0 = 9) rfl rfl rfl ⟨rfl, rfl⟩ (show zfit (zrm 1 22) 25 (zrm 2 66) = true from rfl) (Nat.le_of_ble_eq_true rfl) dL_convergent_7 ⟨Nat.zero_le _, Nat.zero_le _⟩ (fun r7 τ7 hp7 => ?_)
  refine zv_last (j := 0) C (by decide : kd 339 = _) (zI_ix (by omega)) (by decide) dL_convergent_10 ?_
  refine zv_goto (tgt := 22) C dL_convergent_11 (by decide) ?_
  refine zv_iconst (v := zI 0) C dL_convergent_22 rfl ?_
  exact zv_iret C hr rfl dL_convergent_23 ⟨rfl, r7, τ7, hp7, rfl⟩
set_option maxRecDepth 20000 in
theorem w_x1_X10_convergent {l : Launch} (hfl : l.stackTraces = false) (E : zE) (σ : zS) (U : zSU) (b : Int) (y : Int) (z : Int) (hU : zSUp σ 29 U) (hbi : -2147483648 ≤ b ∧ b < 2147483648) (hno : ¬ (0 ≤ b ∧ b < U.nb)) : zRh l E yL_convergent cL_convergent 6 [(0, 11, 14, 19), (0, 11, 18, 13)] (zrx 10 244) 1 6 [.ref (ob E 0), .int (zI b), .int (zI y), .int (zI z), .ref (ob E 339)] σ (fun r τ => r = zI 1 ∧ (fun u => u = σ) τ) := by
  refine zMetH hfl (by decide) rfl (Nat.le_of_ble_eq_true rfl) ?_
  intro p e s m args below meth c C hr htab
  refine (?_ : zV p l e _ s m args below meth c 6 E _ 0 0 σ 0 [(0, .ref (ob E 0)), (1, .int (zI b)), (2, .int (zI y)), (3, .int (zI z)), (4, .ref (ob E 339))] [])
  have hpass : ∀ z ∈ tableOf [], z.catchType ≠ 0 ∧ ∃ nm' : String, Cond.classLink RL z.catchType nm' ∈ zT ∧ ("java/lang/IndexOutOfBoundsException", nm') ∈ zNc := fun z hz => by
    cases hz
  refine zv_aload C 4 dL_convergent_0 rfl ?_
  refine zv_iconst (v := zI 0) C dL_convergent_2 rfl ?_
  refine zv_aload_n C 0 dL_convergent_3 rfl rfl ?_
  refine zv_iload_n C 1 dL_convergent_4 rfl rfl ?_
  refine zv_iload_n C 2 dL_convergent_5 rfl rfl ?_
  refine zv_iload_n C 3 dL_convergent_6 rfl rfl ?_
  refine zv_xcatch (st := [.int (zI 0), .ref (ob E 339)]) C (x1_X10_convergent hfl E σ U b y z hU hbi hno) (pre := tableOf []) (suf := tableOf [(0, 11, 18, 13)]) (x := ⟨0, 11, 14, 19⟩) htab hpass (by decide) (by decide) zcl_19 zca_19 mX10_convergent kL_81 (by decide : kd 0 = 9) rfl rfl rfl ⟨rfl, rfl⟩ (show zfit (zrx 9 200) 25 (zrx 10 244) = true from rfl) (Nat.le_of_ble_eq_true rfl) dL_convergent_7 ⟨Nat.le_of_ble_eq_true rfl, Nat.le_of_ble_eq_true rfl⟩ (fun q9 τ9 hp9 => ?_)
  refine zv_astore (lv' := [(5, .ref q9), (0, .ref (ob E 0)), (1, .int (zI b)), (2, .int (zI y)), (3, .int (zI z)), (4, .ref (ob E 339))]) C dL_convergent_14  (by decide) rfl ?_
  refine zv_iconst (v := zI 1) C dL_convergent_16 rfl ?_
  exact zv_iretN C hr rfl dL_convergent_17 ⟨rfl, hp9⟩
set_option maxRecDepth 20000 in
theorem w_x2_X10_convergent {l : Launch} (hfl : l.stackTraces = false) (E : zE) (σ : zS) (U : zSU) (i : Nat) (y z : Int) (hU : zSUp σ 29 U) (hi : i < U.nb) (hyi : -2147483648 ≤ y ∧ y < 2147483648) (hno : y < 0) : zRh l E yL_convergent cL_convergent 6 [(0, 11, 14, 19), (0, 11, 18, 13)] (zrx 10 244) 1 6 [.ref (ob E 0), .int (zI (i : Int)), .int (zI y), .int (zI z), .ref (ob E 339)] σ (fun r τ => r = zI 2 ∧ (fun u => u = σ) τ) := by
  refine zMetH hfl (by decide) rfl (Nat.le_of_ble_eq_true rfl) ?_
  intro p e s m args below meth c C hr htab
  refine (?_ : zV p l e _ s m args below meth c 6 E _ 0 0 σ 0 [(0, .ref (ob E 0)), (1, .int (zI (i : Int))), (2, .int (zI y)), (3, .int (zI z)), (4, .ref (ob E 339))] [])
  have hpass : ∀ z ∈ tableOf [(0, 11, 14, 19)], z.catchType ≠ 0 ∧ ∃ nm' : String, Cond.classLink RL z.catchType nm' ∈ zT ∧ ("java/lang/IllegalArgumentException", nm') ∈ zNc := fun z hz => by
    simp only [tableOf, List.map_cons, List.map_nil, List.mem_cons, List.not_mem_nil, or_false] at hz
    rcases hz with rfl
    · exact ⟨by decide, "java/lang/IndexOutOfBoundsException", zcl_19, by decide⟩
  refine zv_aload C 4 dL_convergent_0 rfl ?_
  refine zv_iconst (v := zI 0) C dL_convergent_2 rfl ?_
  refine zv_aload_n C 0 dL_convergent_3 rfl rfl ?_
  refine zv_iload_n C 1 dL_convergent_4 rfl rfl ?_
  refine zv_iload_n C 2 dL_convergent_5 rfl rfl ?_
  refine zv_iload_n C 3 dL_convergent_6 rfl rfl ?_
  refine zv_xcatch (st := [.int (zI 0), .ref (ob E 339)]) C (x2_X10_convergent hfl E σ U i y z hU hi hyi hno) (pre := tableOf [(0, 11, 14, 19)]) (suf := tableOf []) (x := ⟨0, 11, 18, 13⟩) htab hpass (by decide) (by decide) zcl_13 zca_13 mX10_convergent kL_81 (by decide : kd 0 = 9) rfl rfl rfl ⟨rfl, rfl⟩ (show zfit (zrx 9 200) 25 (zrx 10 244) = true from rfl) (Nat.le_of_ble_eq_true rfl) dL_convergent_7 ⟨Nat.le_of_ble_eq_true rfl, Nat.le_of_ble_eq_true rfl⟩ (fun q9 τ9 hp9 => ?_)
  refine zv_astore (lv' := [(5, .ref q9), (0, .ref (ob E 0)), (1, .int (zI (i : Int))), (2, .int (zI y)), (3, .int (zI z)), (4, .ref (ob E 339))]) C dL_convergent_18  (by decide) rfl ?_
  refine zv_iconst (v := zI 2) C dL_convergent_20 rfl ?_
  exact zv_iretN C hr rfl dL_convergent_21 ⟨rfl, hp9⟩
set_option maxRecDepth 20000 in
theorem w_x3_X10_convergent {l : Launch} (hfl : l.stackTraces = false) (E : zE) (σ : zS) (U : zSU) (i : Nat) (y z : Int) (hU : zSUp σ 29 U) (hi : i < U.nb) (hyi : -2147483648 ≤ y ∧ y < 2147483648) (hy : 0 ≤ y) (hzi : -2147483648 ≤ z ∧ z < 2147483648) (hno : ¬ (0 ≤ z ∧ z ≤ 1)) : zRh l E yL_convergent cL_convergent 6 [(0, 11, 14, 19), (0, 11, 18, 13)] (zrx 10 244) 1 6 [.ref (ob E 0), .int (zI (i : Int)), .int (zI y), .int (zI z), .ref (ob E 339)] σ (fun r τ => r = zI 2 ∧ (fun u => u = σ) τ) := by
  refine zMetH hfl (by decide) rfl (Nat.le_of_ble_eq_true rfl) ?_
  intro p e s m args below meth c C hr htab
  refine (?_ : zV p l e _ s m args below meth c 6 E _ 0 0 σ 0 [(0, .ref (ob E 0)), (1, .int (zI (i : Int))), (2, .int (zI y)), (3, .int (zI z)), (4, .ref (ob E 339))] [])
  have hpass : ∀ z ∈ tableOf [(0, 11, 14, 19)], z.catchType ≠ 0 ∧ ∃ nm' : String, Cond.classLink RL z.catchType nm' ∈ zT ∧ ("java/lang/IllegalArgumentException", nm') ∈ zNc := fun z hz => by
    simp only [tableOf, List.map_cons, List.map_nil, List.mem_cons, List.not_mem_nil, or_false] at hz
    rcases hz with rfl
    · exact ⟨by decide, "java/lang/IndexOutOfBoundsException", zcl_19, by decide⟩
  refine zv_aload C 4 dL_convergent_0 rfl ?_
  refine zv_iconst (v := zI 0) C dL_convergent_2 rfl ?_
  refine zv_aload_n C 0 dL_convergent_3 rfl rfl ?_
  refine zv_iload_n C 1 dL_convergent_4 rfl rfl ?_
  refine zv_iload_n C 2 dL_convergent_5 rfl rfl ?_
  refine zv_iload_n C 3 dL_convergent_6 rfl rfl ?_
  refine zv_xcatch (st := [.int (zI 0), .ref (ob E 339)]) C (x3_X10_convergent hfl E σ U i y z hU hi hyi hy hzi hno) (pre := tableOf [(0, 11, 14, 19)]) (suf := tableOf []) (x := ⟨0, 11, 18, 13⟩) htab hpass (by decide) (by decide) zcl_13 zca_13 mX10_convergent kL_81 (by decide : kd 0 = 9) rfl rfl rfl ⟨rfl, rfl⟩ (show zfit (zrx 9 200) 25 (zrx 10 244) = true from rfl) (Nat.le_of_ble_eq_true rfl) dL_convergent_7 ⟨Nat.le_of_ble_eq_true rfl, Nat.le_of_ble_eq_true rfl⟩ (fun q9 τ9 hp9 => ?_)
  refine zv_astore (lv' := [(5, .ref q9), (0, .ref (ob E 0)), (1, .int (zI (i : Int))), (2, .int (zI y)), (3, .int (zI z)), (4, .ref (ob E 339))]) C dL_convergent_18  (by decide) rfl ?_
  refine zv_iconst (v := zI 2) C dL_convergent_20 rfl ?_
  exact zv_iretN C hr rfl dL_convergent_21 ⟨rfl, hp9⟩
set_option maxRecDepth 20000 in
theorem w_c_X10_bestFraction {l : Launch} (hfl : l.stackTraces = false) (E : zE) (σ : zS) (U : zSU) (i L : Nat) (w : Int) (hU : zSUp σ 29 U) (hi : i < U.nb) (hL : 1 ≤ L ∧ L ≤ 10000) (hw : w = 0 ∨ w = 1) : zRh l E yL_bestFraction cL_bestFraction 6 [(0, 12, 15, 19), (0, 12, 19, 13)] (zrm 4 97) 0 0 [.ref (ob E 0), .int (zI (i : Int)), .int (zI (L : Int)), .int (zI w), .ref (ob E 339)] σ (fun r τ => r = zI 0 ∧ ∃ (v : Int32) (υ : zS), (fun r τ => r = zI (dBf (U.pe i) L w) ∧ τ = σ) v υ ∧ τ = sJ υ 339 0 v.toInt64) := by
  refine zMetH hfl (by decide) rfl (Nat.le_of_ble_eq_true rfl) ?_
  intro p e s m args below meth c C hr htab
  refine (?_ : zV p l e _ s m args below meth c 6 E _ 0 0 σ 0 [(0, .ref (ob E 0)), (1, .int (zI (i : Int))), (2, .int (zI (L : Int))), (3, .int (zI w)), (4, .ref (ob E 339))] [])
  refine zv_aload C 4 dL_bestFraction_0 rfl ?_
  refine zv_iconst (v := zI 0) C dL_bestFraction_2 rfl ?_
  refine zv_aload_n C 0 dL_bestFraction_3 rfl rfl ?_
  refine zv_iload_n C 1 dL_bestFraction_4 rfl rfl ?_
  refine zv_iload_n C 2 dL_bestFraction_5 rfl rfl ?_
  refine zv_iload_n C 3 dL_bestFraction_6 rfl rfl ?_
  refine zv_cvi (st := [.int (zI 0), .ref (ob E 339)]) C (c_X10_bestFraction hfl E σ U i L w hU hi hL hw) mX10_bestFraction kL_84 (by decide : kd 0 = 9) rfl rfl rfl ⟨rfl, rfl⟩ (show zfit (zrm 3 73) 5 (zrm 4 97) = true from rfl) (Nat.le_of_ble_eq_true rfl) dL_bestFraction_7 ⟨Nat.zero_le _, Nat.zero_le _⟩ (fun r7 τ7 hp7 => ?_)
  refine zv_i2l C dL_bestFraction_10 ?_
  refine zv_last (j := 0) C (by decide : kd 339 = _) (zI_ix (by omega)) (by decide) dL_bestFraction_11 ?_
  refine zv_goto (tgt := 23) C dL_bestFraction_12 (by decide) ?_
  refine zv_iconst (v := zI 0) C dL_bestFraction_23 rfl ?_
  exact zv_iret C hr rfl dL_bestFraction_24 ⟨rfl, r7, τ7, hp7, rfl⟩
set_option maxRecDepth 20000 in
theorem w_x1_X10_bestFraction {l : Launch} (hfl : l.stackTraces = false) (E : zE) (σ : zS) (U : zSU) (b : Int) (y : Int) (z : Int) (hU : zSUp σ 29 U) (hbi : -2147483648 ≤ b ∧ b < 2147483648) (hno : ¬ (0 ≤ b ∧ b < U.nb)) : zRh l E yL_bestFraction cL_bestFraction 6 [(0, 12, 15, 19), (0, 12, 19, 13)] (zrx 10 224) 1 6 [.ref (ob E 0), .int (zI b), .int (zI y), .int (zI z), .ref (ob E 339)] σ (fun r τ => r = zI 1 ∧ (fun u => u = σ) τ) := by
  refine zMetH hfl (by decide) rfl (Nat.le_of_ble_eq_true rfl) ?_
  intro p e s m args below meth c C hr htab
  refine (?_ : zV p l e _ s m args below meth c 6 E _ 0 0 σ 0 [(0, .ref (ob E 0)), (1, .int (zI b)), (2, .int (zI y)), (3, .int (zI z)), (4, .ref (ob E 339))] [])
  have hpass : ∀ z ∈ tableOf [], z.catchType ≠ 0 ∧ ∃ nm' : String, Cond.classLink RL z.catchType nm' ∈ zT ∧ ("java/lang/IndexOutOfBoundsException", nm') ∈ zNc := fun z hz => by
    cases hz
  refine zv_aload C 4 dL_bestFraction_0 rfl ?_
  refine zv_iconst (v := zI 0) C dL_bestFraction_2 rfl ?_
  refine zv_aload_n C 0 dL_bestFraction_3 rfl rfl ?_
  refine zv_iload_n C 1 dL_bestFraction_4 rfl rfl ?_
  refine zv_iload_n C 2 dL_bestFraction_5 rfl rfl ?_
  refine zv_iload_n C 3 dL_bestFraction_6 rfl rfl ?_
  refine zv_xcatch (st := [.int (zI 0), .ref (ob E 339)]) C (x1_X10_bestFraction hfl E σ U b y z hU hbi hno) (pre := tableOf []) (suf := tableOf [(0, 12, 19, 13)]) (x := ⟨0, 12, 15, 19⟩) htab hpass (by decide) (by decide) zcl_19 zca_19 mX10_bestFraction kL_84 (by decide : kd 0 = 9) rfl rfl rfl ⟨rfl, rfl⟩ (show zfit (zrx 9 200) 5 (zrx 10 224) = true from rfl) (Nat.le_of_ble_eq_true rfl) dL_bestFraction_7 ⟨Nat.le_of_ble_eq_true rfl, Nat.le_of_ble_eq_true rfl⟩ (fun q9 τ9 hp9 => ?_)
  refine zv_astore (lv' := [(5, .ref q9), (0, .ref (ob E 0)), (1, .int (zI b)), (2, .int (zI y)), (3, .int (zI z)), (4, .ref (ob E 339))]) C dL_bestFraction_15  (by decide) rfl ?_
  refine zv_iconst (v := zI 1) C dL_bestFraction_17 rfl ?_
  exact zv_iretN C hr rfl dL_bestFraction_18 ⟨rfl, hp9⟩
set_option maxRecDepth 20000 in
theorem w_x2_X10_bestFraction {l : Launch} (hfl : l.stackTraces = false) (E : zE) (σ : zS) (U : zSU) (i : Nat) (y z : Int) (hU : zSUp σ 29 U) (hi : i < U.nb) (hyi : -2147483648 ≤ y ∧ y < 2147483648) (hno : ¬ (1 ≤ y ∧ y ≤ 10000)) : zRh l E yL_bestFraction cL_bestFraction 6 [(0, 12, 15, 19), (0, 12, 19, 13)] (zrx 10 224) 1 6 [.ref (ob E 0), .int (zI (i : Int)), .int (zI y), .int (zI z), .ref (ob E 339)] σ (fun r τ => r = zI 2 ∧ (fun u => u = σ) τ) := by
  refine zMetH hfl (by decide) rfl (Nat.le_of_ble_eq_true rfl) ?_
  intro p e s m args below meth c C hr htab
  refine (?_ : zV p l e _ s m args below meth c 6 E _ 0 0 σ 0 [(0, .ref (ob E 0)), (1, .int (zI (i : Int))), (2, .int (zI y)), (3, .int (zI z)), (4, .ref (ob E 339))] [])
  have hpass : ∀ z ∈ tableOf [(0, 12, 15, 19)], z.catchType ≠ 0 ∧ ∃ nm' : String, Cond.classLink RL z.catchType nm' ∈ zT ∧ ("java/lang/IllegalArgumentException", nm') ∈ zNc := fun z hz => by
    simp only [tableOf, List.map_cons, List.map_nil, List.mem_cons, List.not_mem_nil, or_false] at hz
    rcases hz with rfl
    · exact ⟨by decide, "java/lang/IndexOutOfBoundsException", zcl_19, by decide⟩
  refine zv_aload C 4 dL_bestFraction_0 rfl ?_
  refine zv_iconst (v := zI 0) C dL_bestFraction_2 rfl ?_
  refine zv_aload_n C 0 dL_bestFraction_3 rfl rfl ?_
  refine zv_iload_n C 1 dL_bestFraction_4 rfl rfl ?_
  refine zv_iload_n C 2 dL_bestFraction_5 rfl rfl ?_
  refine zv_iload_n C 3 dL_bestFraction_6 rfl rfl ?_
  refine zv_xcatch (st := [.int (zI 0), .ref (ob E 339)]) C (x2_X10_bestFraction hfl E σ U i y z hU hi hyi hno) (pre := tableOf [(0, 12, 15, 19)]) (suf := tableOf []) (x := ⟨0, 12, 19, 13⟩) htab hpass (by decide) (by decide) zcl_13 zca_13 mX10_bestFraction kL_84 (by decide : kd 0 = 9) rfl rfl rfl ⟨rfl, rfl⟩ (show zfit (zrx 9 200) 5 (zrx 10 224) = true from rfl) (Nat.le_of_ble_eq_true rfl) dL_bestFraction_7 ⟨Nat.le_of_ble_eq_true rfl, Nat.le_of_ble_eq_true rfl⟩ (fun q9 τ9 hp9 => ?_)
  refine zv_astore (lv' := [(5, .ref q9), (0, .ref (ob E 0)), (1, .int (zI (i : Int))), (2, .int (zI y)), (3, .int (zI z)), (4, .ref (ob E 339))]) C dL_bestFraction_19  (by decide) rfl ?_
  refine zv_iconst (v := zI 2) C dL_bestFraction_21 rfl ?_
  exact zv_iretN C hr rfl dL_bestFraction_22 ⟨rfl, hp9⟩
set_option maxRecDepth 20000 in
theorem w_x3_X10_bestFraction {l : Launch} (hfl : l.stackTraces = false) (E : zE) (σ : zS) (U : zSU) (i : Nat) (y z : Int) (hU : zSUp σ 29 U) (hi : i < U.nb) (hy : 1 ≤ y ∧ y ≤ 10000) (hzi : -2147483648 ≤ z ∧ z < 2147483648) (hno : ¬ (0 ≤ z ∧ z ≤ 1)) : zRh l E yL_bestFraction cL_bestFraction 6 [(0, 12, 15, 19), (0, 12, 19, 13)] (zrx 10 224) 1 6 [.ref (ob E 0), .int (zI (i : Int)), .int (zI y), .int (zI z), .ref (ob E 339)] σ (fun r τ => r = zI 2 ∧ (fun u => u = σ) τ) := by
  refine zMetH hfl (by decide) rfl (Nat.le_of_ble_eq_true rfl) ?_
  intro p e s m args below meth c C hr htab
  refine (?_ : zV p l e _ s m args below meth c 6 E _ 0 0 σ 0 [(0, .ref (ob E 0)), (1, .int (zI (i : Int))), (2, .int (zI y)), (3, .int (zI z)), (4, .ref (ob E 339))] [])
  have hpass : ∀ z ∈ tableOf [(0, 12, 15, 19)], z.catchType ≠ 0 ∧ ∃ nm' : String, Cond.classLink RL z.catchType nm' ∈ zT ∧ ("java/lang/IllegalArgumentException", nm') ∈ zNc := fun z hz => by
    simp only [tableOf, List.map_cons, List.map_nil, List.mem_cons, List.not_mem_nil, or_false] at hz
    rcases hz with rfl
    · exact ⟨by decide, "java/lang/IndexOutOfBoundsException", zcl_19, by decide⟩
  refine zv_aload C 4 dL_bestFraction_0 rfl ?_
  refine zv_iconst (v := zI 0) C dL_bestFraction_2 rfl ?_
  refine zv_aload_n C 0 dL_bestFraction_3 rfl rfl ?_
  refine zv_iload_n C 1 dL_bestFraction_4 rfl rfl ?_
  refine zv_iload_n C 2 dL_bestFraction_5 rfl rfl ?_
  refine zv_iload_n C 3 dL_bestFraction_6 rfl rfl ?_
  refine zv_xcatch (st := [.int (zI 0), .ref (ob E 339)]) C (x3_X10_bestFraction hfl E σ U i y z hU hi hy hzi hno) (pre := tableOf [(0, 12, 15, 19)]) (suf := tableOf []) (x := ⟨0, 12, 19, 13⟩) htab hpass (by decide) (by decide) zcl_13 zca_13 mX10_bestFraction kL_84 (by decide : kd 0 = 9) rfl rfl rfl ⟨rfl, rfl⟩ (show zfit (zrx 9 200) 5 (zrx 10 224) = true from rfl) (Nat.le_of_ble_eq_true rfl) dL_bestFraction_7 ⟨Nat.le_of_ble_eq_true rfl, Nat.le_of_ble_eq_true rfl⟩ (fun q9 τ9 hp9 => ?_)
  refine zv_astore (lv' := [(5, .ref q9), (0, .ref (ob E 0)), (1, .int (zI (i : Int))), (2, .int (zI y)), (3, .int (zI z)), (4, .ref (ob E 339))]) C dL_bestFraction_19  (by decide) rfl ?_
  refine zv_iconst (v := zI 2) C dL_bestFraction_21 rfl ?_
  exact zv_iretN C hr rfl dL_bestFraction_22 ⟨rfl, hp9⟩
set_option maxRecDepth 20000 in
theorem w_c_X10_build {l : Launch} (hfl : l.stackTraces = false) (E : zE) (σ : zS) (ni : Nat) (tx : Nat → Int) (ec : Nat) (eo : Int) (U : zSU) (S : zST) (hh : List zST) (kp : Option zST) (ou : List Nat) (i : Nat) (h : zCP σ (zDv.mk ni tx ec eo U S hh kp ou)) (hi : i < U.nb) (hn2 : 2 ≤ S.n) : zRh l E yL_build cL_build 4 [(0, 9, 12, 19), (0, 9, 15, 90)] (zrm 6 166) 0 0 [.ref (ob E 0), .int (zI (i : Int)), .ref (ob E 339)] σ (fun r τ => r = zI 0 ∧ ∃ (v : Int32) (υ : zS), (fun r τ => r = zI (if (qTrue U i).1 < 0 then 3 else 2) ∧ zCP τ ((zDv.mk ni tx ec eo U S hh kp ou).re.sS (S.bld i (gBT U S i) (decide ((qTrue U i).1 < 0)))) ∧ zFr 0 327 σ τ) v υ ∧ τ = sJ υ 339 0 v.toInt64) := by
  refine zMetH hfl (by decide) rfl (Nat.le_of_ble_eq_true rfl) ?_
  intro p e s m args below meth c C hr htab
  refine (?_ : zV p l e _ s m args below meth c 4 E _ 0 0 σ 0 [(0, .ref (ob E 0)), (1, .int (zI (i : Int))), (2, .ref (ob E 339))] [])
  refine zv_aload_n C 2 dL_build_0 rfl rfl ?_
  refine zv_iconst (v := zI 0) C dL_build_1 rfl ?_
  refine zv_aload_n C 0 dL_build_2 rfl rfl ?_
  refine zv_iload_n C 1 dL_build_3 rfl rfl ?_
  refine zv_cvi (st := [.int (zI 0), .ref (ob E 339)]) C (c_X10_build hfl E σ ni tx ec eo U S hh kp ou i h hi hn2) mX10_build kL_87 (by decide : kd 0 = 9) rfl rfl rfl ⟨rfl, rfl⟩ (show zfit (zrm 5 143) 4 (zrm 6 166) = true from rfl) (Nat.le_of_ble_eq_true rfl) dL_build_4 ⟨Nat.zero_le _, Nat.zero_le _⟩ (fun r4 τ4 hp4 => ?_)
  refine zv_i2l C dL_build_7 ?_
  refine zv_last (j := 0) C (by decide : kd 339 = _) (zI_ix (by omega)) (by decide) dL_build_8 ?_
  refine zv_goto (tgt := 18) C dL_build_9 (by decide) ?_
  refine zv_iconst (v := zI 0) C dL_build_18 rfl ?_
  exact zv_iret C hr rfl dL_build_19 ⟨rfl, r4, τ4, hp4, rfl⟩
set_option maxRecDepth 20000 in
theorem w_x1_X10_build {l : Launch} (hfl : l.stackTraces = false) (E : zE) (σ : zS) (U : zSU) (b : Int) (hU : zSUp σ 29 U) (hbi : -2147483648 ≤ b ∧ b < 2147483648) (hno : ¬ (0 ≤ b ∧ b < U.nb)) : zRh l E yL_build cL_build 4 [(0, 9, 12, 19), (0, 9, 15, 90)] (zrx 10 223) 1 6 [.ref (ob E 0), .int (zI b), .ref (ob E 339)] σ (fun r τ => r = zI 1 ∧ (fun u => u = σ) τ) := by
  refine zMetH hfl (by decide) rfl (Nat.le_of_ble_eq_true rfl) ?_
  intro p e s m args below meth c C hr htab
  refine (?_ : zV p l e _ s m args below meth c 4 E _ 0 0 σ 0 [(0, .ref (ob E 0)), (1, .int (zI b)), (2, .ref (ob E 339))] [])
  have hpass : ∀ z ∈ tableOf [], z.catchType ≠ 0 ∧ ∃ nm' : String, Cond.classLink RL z.catchType nm' ∈ zT ∧ ("java/lang/IndexOutOfBoundsException", nm') ∈ zNc := fun z hz => by
    cases hz
  refine zv_aload_n C 2 dL_build_0 rfl rfl ?_
  refine zv_iconst (v := zI 0) C dL_build_1 rfl ?_
  refine zv_aload_n C 0 dL_build_2 rfl rfl ?_
  refine zv_iload_n C 1 dL_build_3 rfl rfl ?_
  refine zv_xcatch (st := [.int (zI 0), .ref (ob E 339)]) C (x1_X10_build hfl E σ U b hU hbi hno) (pre := tableOf []) (suf := tableOf [(0, 9, 15, 90)]) (x := ⟨0, 9, 12, 19⟩) htab hpass (by decide) (by decide) zcl_19 zca_19 mX10_build kL_87 (by decide : kd 0 = 9) rfl rfl rfl ⟨rfl, rfl⟩ (show zfit (zrx 9 200) 4 (zrx 10 223) = true from rfl) (Nat.le_of_ble_eq_true rfl) dL_build_4 ⟨Nat.le_of_ble_eq_true rfl, Nat.le_of_ble_eq_true rfl⟩ (fun q9 τ9 hp9 => ?_)
  refine zv_astore_n (lv' := [(3, .ref q9), (0, .ref (ob E 0)), (1, .int (zI b)), (2, .ref (ob E 339))]) C dL_build_12 rfl (by decide) rfl ?_
  refine zv_iconst (v := zI 1) C dL_build_13 rfl ?_
  exact zv_iretN C hr rfl dL_build_14 ⟨rfl, hp9⟩
set_option maxRecDepth 20000 in
theorem w_x2_X10_build {l : Launch} (hfl : l.stackTraces = false) (E : zE) (σ : zS) (U : zSU) (S : zST) (i : Nat) (hU : zSUp σ 29 U) (hS : zSTp σ 34 S) (hi : i < U.nb) (hno : S.n < 2) : zRh l E yL_build cL_build 4 [(0, 9, 12, 19), (0, 9, 15, 90)] (zrx 10 223) 1 6 [.ref (ob E 0), .int (zI (i : Int)), .ref (ob E 339)] σ (fun r τ => r = zI 2 ∧ (fun u => u = σ) τ) := by
  refine zMetH hfl (by decide) rfl (Nat.le_of_ble_eq_true rfl) ?_
  intro p e s m args below meth c C hr htab
  refine (?_ : zV p l e _ s m args below meth c 4 E _ 0 0 σ 0 [(0, .ref (ob E 0)), (1, .int (zI (i : Int))), (2, .ref (ob E 339))] [])
  have hpass : ∀ z ∈ tableOf [(0, 9, 12, 19)], z.catchType ≠ 0 ∧ ∃ nm' : String, Cond.classLink RL z.catchType nm' ∈ zT ∧ ("java/lang/IllegalStateException", nm') ∈ zNc := fun z hz => by
    simp only [tableOf, List.map_cons, List.map_nil, List.mem_cons, List.not_mem_nil, or_false] at hz
    rcases hz with rfl
    · exact ⟨by decide, "java/lang/IndexOutOfBoundsException", zcl_19, by decide⟩
  refine zv_aload_n C 2 dL_build_0 rfl rfl ?_
  refine zv_iconst (v := zI 0) C dL_build_1 rfl ?_
  refine zv_aload_n C 0 dL_build_2 rfl rfl ?_
  refine zv_iload_n C 1 dL_build_3 rfl rfl ?_
  refine zv_xcatch (st := [.int (zI 0), .ref (ob E 339)]) C (x2_X10_build hfl E σ U S i hU hS hi hno) (pre := tableOf [(0, 9, 12, 19)]) (suf := tableOf []) (x := ⟨0, 9, 15, 90⟩) htab hpass (by decide) (by decide) zcl_90 zca_90 mX10_build kL_87 (by decide : kd 0 = 9) rfl rfl rfl ⟨rfl, rfl⟩ (show zfit (zrx 9 200) 4 (zrx 10 223) = true from rfl) (Nat.le_of_ble_eq_true rfl) dL_build_4 ⟨Nat.le_of_ble_eq_true rfl, Nat.le_of_ble_eq_true rfl⟩ (fun q9 τ9 hp9 => ?_)
  refine zv_astore_n (lv' := [(3, .ref q9), (0, .ref (ob E 0)), (1, .int (zI (i : Int))), (2, .ref (ob E 339))]) C dL_build_15 rfl (by decide) rfl ?_
  refine zv_iconst (v := zI 2) C dL_build_16 rfl ?_
  exact zv_iretN C hr rfl dL_build_17 ⟨rfl, hp9⟩
set_option maxRecDepth 20000 in
theorem w_c_X10_addPart {l : Launch} (hfl : l.stackTraces = false) (E : zE) (σ : zS) (ni : Nat) (tx : Nat → Int) (ec : Nat) (eo : Int) (U : zSU) (S : zST) (hh : List zST) (kp : Option zST) (ou : List Nat) (i a b d : Nat) (h : zCP σ (zDv.mk ni tx ec eo U S hh kp ou)) (hi : i < U.nb) (ha : a ≤ 2) (hb : 8 ≤ b ∧ b ≤ 100) (hd1 : a = 2 → d = 0) (hd2 : a ≠ 2 → 8 ≤ d ∧ d ≤ 100) (hroom : S.tn i < 4 ∧ (a = 2 ∨ tGe (S.tr i) (S.tn i) < 2)) : zRh l E yL_addPart cL_addPart 7 [(0, 14, 17, 19), (0, 14, 21, 13), (0, 14, 25, 90)] (zrm 5 149) 0 0 [.ref (ob E 0), .int (zI (i : Int)), .int (zI (a : Int)), .int (zI (b : Int)), .int (zI (d : Int)), .ref (ob E 339)] σ (fun r τ => r = zI 0 ∧ ∃ (v : Int32) (υ : zS), (fun r τ => r = zI ((S.tn i + 1 : Nat) : Int) ∧ zCP τ ((zDv.mk ni tx ec eo U S hh kp ou).re.sS ((S.apd i a b d).fre i)) ∧ zFr 0 327 σ τ) v υ ∧ τ = sJ υ 339 0 v.toInt64) := by
  refine zMetH hfl (by decide) rfl (Nat.le_of_ble_eq_true rfl) ?_
  intro p e s m args below meth c C hr htab
  refine (?_ : zV p l e _ s m args below meth c 7 E _ 0 0 σ 0 [(0, .ref (ob E 0)), (1, .int (zI (i : Int))), (2, .int (zI (a : Int))), (3, .int (zI (b : Int))), (4, .int (zI (d : Int))), (5, .ref (ob E 339))] [])
  refine zv_aload C 5 dL_addPart_0 rfl ?_
  refine zv_iconst (v := zI 0) C dL_addPart_2 rfl ?_
  refine zv_aload_n C 0 dL_addPart_3 rfl rfl ?_
  refine zv_iload_n C 1 dL_addPart_4 rfl rfl ?_
  refine zv_iload_n C 2 dL_addPart_5 rfl rfl ?_
  refine zv_iload_n C 3 dL_addPart_6 rfl rfl ?_
  refine zv_iload C 4 dL_addPart_7 rfl ?_
  refine zv_cvi (st := [.int (zI 0), .ref (ob E 339)]) C (c_X10_addPart hfl E σ ni tx ec eo U S hh kp ou i a b d h hi ha hb hd1 hd2 hroom) mX10_addPart kL_92 (by decide : kd 0 = 9) rfl rfl rfl ⟨rfl, rfl⟩ (show zfit (zrm 4 124) 6 (zrm 5 149) = true from rfl) (Nat.le_of_ble_eq_true rfl) dL_addPart_9 ⟨Nat.zero_le _, Nat.zero_le _⟩ (fun r9 τ9 hp9 => ?_)
  refine zv_i2l C dL_addPart_12 ?_
  refine zv_last (j := 0) C (by decide : kd 339 = _) (zI_ix (by omega)) (by decide) dL_addPart_13 ?_
  refine zv_goto (tgt := 29) C dL_addPart_14 (by decide) ?_
  refine zv_iconst (v := zI 0) C dL_addPart_29 rfl ?_
  exact zv_iret C hr rfl dL_addPart_30 ⟨rfl, r9, τ9, hp9, rfl⟩
set_option maxRecDepth 20000 in
theorem w_x1_X10_addPart {l : Launch} (hfl : l.stackTraces = false) (E : zE) (σ : zS) (U : zSU) (b : Int) (y : Int) (z : Int) (w : Int) (hU : zSUp σ 29 U) (hbi : -2147483648 ≤ b ∧ b < 2147483648) (hno : ¬ (0 ≤ b ∧ b < U.nb)) : zRh l E yL_addPart cL_addPart 7 [(0, 14, 17, 19), (0, 14, 21, 13), (0, 14, 25, 90)] (zrx 10 225) 1 6 [.ref (ob E 0), .int (zI b), .int (zI y), .int (zI z), .int (zI w), .ref (ob E 339)] σ (fun r τ => r = zI 1 ∧ (fun u => u = σ) τ) := by
  refine zMetH hfl (by decide) rfl (Nat.le_of_ble_eq_true rfl) ?_
  intro p e s m args below meth c C hr htab
  refine (?_ : zV p l e _ s m args below meth c 7 E _ 0 0 σ 0 [(0, .ref (ob E 0)), (1, .int (zI b)), (2, .int (zI y)), (3, .int (zI z)), (4, .int (zI w)), (5, .ref (ob E 339))] [])
  have hpass : ∀ z ∈ tableOf [], z.catchType ≠ 0 ∧ ∃ nm' : String, Cond.classLink RL z.catchType nm' ∈ zT ∧ ("java/lang/IndexOutOfBoundsException", nm') ∈ zNc := fun z hz => by
    cases hz
  refine zv_aload C 5 dL_addPart_0 rfl ?_
  refine zv_iconst (v := zI 0) C dL_addPart_2 rfl ?_
  refine zv_aload_n C 0 dL_addPart_3 rfl rfl ?_
  refine zv_iload_n C 1 dL_addPart_4 rfl rfl ?_
  refine zv_iload_n C 2 dL_addPart_5 rfl rfl ?_
  refine zv_iload_n C 3 dL_addPart_6 rfl rfl ?_
  refine zv_iload C 4 dL_addPart_7 rfl ?_
  refine zv_xcatch (st := [.int (zI 0), .ref (ob E 339)]) C (x1_X10_addPart hfl E σ U b y z w hU hbi hno) (pre := tableOf []) (suf := tableOf [(0, 14, 21, 13), (0, 14, 25, 90)]) (x := ⟨0, 14, 17, 19⟩) htab hpass (by decide) (by decide) zcl_19 zca_19 mX10_addPart kL_92 (by decide : kd 0 = 9) rfl rfl rfl ⟨rfl, rfl⟩ (show zfit (zrx 9 200) 6 (zrx 10 225) = true from rfl) (Nat.le_of_ble_eq_true rfl) dL_addPart_9 ⟨Nat.le_of_ble_eq_true rfl, Nat.le_of_ble_eq_true rfl⟩ (fun q9 τ9 hp9 => ?_)
  refine zv_astore (lv' := [(6, .ref q9), (0, .ref (ob E 0)), (1, .int (zI b)), (2, .int (zI y)), (3, .int (zI z)), (4, .int (zI w)), (5, .ref (ob E 339))]) C dL_addPart_17  (by decide) rfl ?_
  refine zv_iconst (v := zI 1) C dL_addPart_19 rfl ?_
  exact zv_iretN C hr rfl dL_addPart_20 ⟨rfl, hp9⟩
set_option maxRecDepth 20000 in
theorem w_x2_X10_addPart {l : Launch} (hfl : l.stackTraces = false) (E : zE) (σ : zS) (U : zSU) (i : Nat) (y z w : Int) (hU : zSUp σ 29 U) (hi : i < U.nb) (hyi : -2147483648 ≤ y ∧ y < 2147483648) (hno : ¬ (0 ≤ y ∧ y ≤ 2)) : zRh l E yL_addPart cL_addPart 7 [(0, 14, 17, 19), (0, 14, 21, 13), (0, 14, 25, 90)] (zrx 10 225) 1 6 [.ref (ob E 0), .int (zI (i : Int)), .int (zI y), .int (zI z), .int (zI w), .ref (ob E 339)] σ (fun r τ => r = zI 2 ∧ (fun u => u = σ) τ) := by
  refine zMetH hfl (by decide) rfl (Nat.le_of_ble_eq_true rfl) ?_
  intro p e s m args below meth c C hr htab
  refine (?_ : zV p l e _ s m args below meth c 7 E _ 0 0 σ 0 [(0, .ref (ob E 0)), (1, .int (zI (i : Int))), (2, .int (zI y)), (3, .int (zI z)), (4, .int (zI w)), (5, .ref (ob E 339))] [])
  have hpass : ∀ z ∈ tableOf [(0, 14, 17, 19)], z.catchType ≠ 0 ∧ ∃ nm' : String, Cond.classLink RL z.catchType nm' ∈ zT ∧ ("java/lang/IllegalArgumentException", nm') ∈ zNc := fun z hz => by
    simp only [tableOf, List.map_cons, List.map_nil, List.mem_cons, List.not_mem_nil, or_false] at hz
    rcases hz with rfl
    · exact ⟨by decide, "java/lang/IndexOutOfBoundsException", zcl_19, by decide⟩
  refine zv_aload C 5 dL_addPart_0 rfl ?_
  refine zv_iconst (v := zI 0) C dL_addPart_2 rfl ?_
  refine zv_aload_n C 0 dL_addPart_3 rfl rfl ?_
  refine zv_iload_n C 1 dL_addPart_4 rfl rfl ?_
  refine zv_iload_n C 2 dL_addPart_5 rfl rfl ?_
  refine zv_iload_n C 3 dL_addPart_6 rfl rfl ?_
  refine zv_iload C 4 dL_addPart_7 rfl ?_
  refine zv_xcatch (st := [.int (zI 0), .ref (ob E 339)]) C (x2_X10_addPart hfl E σ U i y z w hU hi hyi hno) (pre := tableOf [(0, 14, 17, 19)]) (suf := tableOf [(0, 14, 25, 90)]) (x := ⟨0, 14, 21, 13⟩) htab hpass (by decide) (by decide) zcl_13 zca_13 mX10_addPart kL_92 (by decide : kd 0 = 9) rfl rfl rfl ⟨rfl, rfl⟩ (show zfit (zrx 9 200) 6 (zrx 10 225) = true from rfl) (Nat.le_of_ble_eq_true rfl) dL_addPart_9 ⟨Nat.le_of_ble_eq_true rfl, Nat.le_of_ble_eq_true rfl⟩ (fun q9 τ9 hp9 => ?_)
  refine zv_astore (lv' := [(6, .ref q9), (0, .ref (ob E 0)), (1, .int (zI (i : Int))), (2, .int (zI y)), (3, .int (zI z)), (4, .int (zI w)), (5, .ref (ob E 339))]) C dL_addPart_21  (by decide) rfl ?_
  refine zv_iconst (v := zI 2) C dL_addPart_23 rfl ?_
  exact zv_iretN C hr rfl dL_addPart_24 ⟨rfl, hp9⟩
set_option maxRecDepth 20000 in
theorem w_x3_X10_addPart {l : Launch} (hfl : l.stackTraces = false) (E : zE) (σ : zS) (U : zSU) (i : Nat) (y z w : Int) (hU : zSUp σ 29 U) (hi : i < U.nb) (hy : 0 ≤ y ∧ y ≤ 2) (hzi : -2147483648 ≤ z ∧ z < 2147483648) (hno : ¬ (8 ≤ z ∧ z ≤ 100)) : zRh l E yL_addPart cL_addPart 7 [(0, 14, 17, 19), (0, 14, 21, 13), (0, 14, 25, 90)] (zrx 10 225) 1 6 [.ref (ob E 0), .int (zI (i : Int)), .int (zI y), .int (zI z), .int (zI w), .ref (ob E 339)] σ (fun r τ => r = zI 2 ∧ (fun u => u = σ) τ) := by
  refine zMetH hfl (by decide) rfl (Nat.le_of_ble_eq_true rfl) ?_
  intro p e s m args below meth c C hr htab
  refine (?_ : zV p l e _ s m args below meth c 7 E _ 0 0 σ 0 [(0, .ref (ob E 0)), (1, .int (zI (i : Int))), (2, .int (zI y)), (3, .int (zI z)), (4, .int (zI w)), (5, .ref (ob E 339))] [])
  have hpass : ∀ z ∈ tableOf [(0, 14, 17, 19)], z.catchType ≠ 0 ∧ ∃ nm' : String, Cond.classLink RL z.catchType nm' ∈ zT ∧ ("java/lang/IllegalArgumentException", nm') ∈ zNc := fun z hz => by
    simp only [tableOf, List.map_cons, List.map_nil, List.mem_cons, List.not_mem_nil, or_false] at hz
    rcases hz with rfl
    · exact ⟨by decide, "java/lang/IndexOutOfBoundsException", zcl_19, by decide⟩
  refine zv_aload C 5 dL_addPart_0 rfl ?_
  refine zv_iconst (v := zI 0) C dL_addPart_2 rfl ?_
  refine zv_aload_n C 0 dL_addPart_3 rfl rfl ?_
  refine zv_iload_n C 1 dL_addPart_4 rfl rfl ?_
  refine zv_iload_n C 2 dL_addPart_5 rfl rfl ?_
  refine zv_iload_n C 3 dL_addPart_6 rfl rfl ?_
  refine zv_iload C 4 dL_addPart_7 rfl ?_
  refine zv_xcatch (st := [.int (zI 0), .ref (ob E 339)]) C (x3_X10_addPart hfl E σ U i y z w hU hi hy hzi hno) (pre := tableOf [(0, 14, 17, 19)]) (suf := tableOf [(0, 14, 25, 90)]) (x := ⟨0, 14, 21, 13⟩) htab hpass (by decide) (by decide) zcl_13 zca_13 mX10_addPart kL_92 (by decide : kd 0 = 9) rfl rfl rfl ⟨rfl, rfl⟩ (show zfit (zrx 9 200) 6 (zrx 10 225) = true from rfl) (Nat.le_of_ble_eq_true rfl) dL_addPart_9 ⟨Nat.le_of_ble_eq_true rfl, Nat.le_of_ble_eq_true rfl⟩ (fun q9 τ9 hp9 => ?_)
  refine zv_astore (lv' := [(6, .ref q9), (0, .ref (ob E 0)), (1, .int (zI (i : Int))), (2, .int (zI y)), (3, .int (zI z)), (4, .int (zI w)), (5, .ref (ob E 339))]) C dL_addPart_21  (by decide) rfl ?_
  refine zv_iconst (v := zI 2) C dL_addPart_23 rfl ?_
  exact zv_iretN C hr rfl dL_addPart_24 ⟨rfl, hp9⟩
set_option maxRecDepth 20000 in
theorem w_x4_X10_addPart {l : Launch} (hfl : l.stackTraces = false) (E : zE) (σ : zS) (U : zSU) (i : Nat) (z w : Int) (hU : zSUp σ 29 U) (hi : i < U.nb) (hz : 8 ≤ z ∧ z ≤ 100) (hwi : -2147483648 ≤ w ∧ w < 2147483648) (hno : ¬ w = 0) : zRh l E yL_addPart cL_addPart 7 [(0, 14, 17, 19), (0, 14, 21, 13), (0, 14, 25, 90)] (zrx 10 225) 1 6 [.ref (ob E 0), .int (zI (i : Int)), .int (zI 2), .int (zI z), .int (zI w), .ref (ob E 339)] σ (fun r τ => r = zI 2 ∧ (fun u => u = σ) τ) := by
  refine zMetH hfl (by decide) rfl (Nat.le_of_ble_eq_true rfl) ?_
  intro p e s m args below meth c C hr htab
  refine (?_ : zV p l e _ s m args below meth c 7 E _ 0 0 σ 0 [(0, .ref (ob E 0)), (1, .int (zI (i : Int))), (2, .int (zI 2)), (3, .int (zI z)), (4, .int (zI w)), (5, .ref (ob E 339))] [])
  have hpass : ∀ z ∈ tableOf [(0, 14, 17, 19)], z.catchType ≠ 0 ∧ ∃ nm' : String, Cond.classLink RL z.catchType nm' ∈ zT ∧ ("java/lang/IllegalArgumentException", nm') ∈ zNc := fun z hz => by
    simp only [tableOf, List.map_cons, List.map_nil, List.mem_cons, List.not_mem_nil, or_false] at hz
    rcases hz with rfl
    · exact ⟨by decide, "java/lang/IndexOutOfBoundsException", zcl_19, by decide⟩
  refine zv_aload C 5 dL_addPart_0 rfl ?_
  refine zv_iconst (v := zI 0) C dL_addPart_2 rfl ?_
  refine zv_aload_n C 0 dL_addPart_3 rfl rfl ?_
  refine zv_iload_n C 1 dL_addPart_4 rfl rfl ?_
  refine zv_iload_n C 2 dL_addPart_5 rfl rfl ?_
  refine zv_iload_n C 3 dL_addPart_6 rfl rfl ?_
  refine zv_iload C 4 dL_addPart_7 rfl ?_
  refine zv_xcatch (st := [.int (zI 0), .ref (ob E 339)]) C (x4_X10_addPart hfl E σ U i z w hU hi hz hwi hno) (pre := tableOf [(0, 14, 17, 19)]) (suf := tableOf [(0, 14, 25, 90)]) (x := ⟨0, 14, 21, 13⟩) htab hpass (by decide) (by decide) zcl_13 zca_13 mX10_addPart kL_92 (by decide : kd 0 = 9) rfl rfl rfl ⟨rfl, rfl⟩ (show zfit (zrx 9 200) 6 (zrx 10 225) = true from rfl) (Nat.le_of_ble_eq_true rfl) dL_addPart_9 ⟨Nat.le_of_ble_eq_true rfl, Nat.le_of_ble_eq_true rfl⟩ (fun q9 τ9 hp9 => ?_)
  refine zv_astore (lv' := [(6, .ref q9), (0, .ref (ob E 0)), (1, .int (zI (i : Int))), (2, .int (zI 2)), (3, .int (zI z)), (4, .int (zI w)), (5, .ref (ob E 339))]) C dL_addPart_21  (by decide) rfl ?_
  refine zv_iconst (v := zI 2) C dL_addPart_23 rfl ?_
  exact zv_iretN C hr rfl dL_addPart_24 ⟨rfl, hp9⟩
set_option maxRecDepth 20000 in
theorem w_x5_X10_addPart {l : Launch} (hfl : l.stackTraces = false) (E : zE) (σ : zS) (U : zSU) (i : Nat) (y z w : Int) (hU : zSUp σ 29 U) (hi : i < U.nb) (hy : 0 ≤ y ∧ y < 2) (hz : 8 ≤ z ∧ z ≤ 100) (hwi : -2147483648 ≤ w ∧ w < 2147483648) (hno : ¬ (8 ≤ w ∧ w ≤ 100)) : zRh l E yL_addPart cL_addPart 7 [(0, 14, 17, 19), (0, 14, 21, 13), (0, 14, 25, 90)] (zrx 10 225) 1 6 [.ref (ob E 0), .int (zI (i : Int)), .int (zI y), .int (zI z), .int (zI w), .ref (ob E 339)] σ (fun r τ => r = zI 2 ∧ (fun u => u = σ) τ) := by
  refine zMetH hfl (by decide) rfl (Nat.le_of_ble_eq_true rfl) ?_
  intro p e s m args below meth c C hr htab
  refine (?_ : zV p l e _ s m args below meth c 7 E _ 0 0 σ 0 [(0, .ref (ob E 0)), (1, .int (zI (i : Int))), (2, .int (zI y)), (3, .int (zI z)), (4, .int (zI w)), (5, .ref (ob E 339))] [])
  have hpass : ∀ z ∈ tableOf [(0, 14, 17, 19)], z.catchType ≠ 0 ∧ ∃ nm' : String, Cond.classLink RL z.catchType nm' ∈ zT ∧ ("java/lang/IllegalArgumentException", nm') ∈ zNc := fun z hz => by
    simp only [tableOf, List.map_cons, List.map_nil, List.mem_cons, List.not_mem_nil, or_false] at hz
    rcases hz with rfl
    · exact ⟨by decide, "java/lang/IndexOutOfBoundsException", zcl_19, by decide⟩
  refine zv_aload C 5 dL_addPart_0 rfl ?_
  refine zv_iconst (v := zI 0) C dL_addPart_2 rfl ?_
  refine zv_aload_n C 0 dL_addPart_3 rfl rfl ?_
  refine zv_iload_n C 1 dL_addPart_4 rfl rfl ?_
  refine zv_iload_n C 2 dL_addPart_5 rfl rfl ?_
  refine zv_iload_n C 3 dL_addPart_6 rfl rfl ?_
  refine zv_iload C 4 dL_addPart_7 rfl ?_
  refine zv_xcatch (st := [.int (zI 0), .ref (ob E 339)]) C (x5_X10_addPart hfl E σ U i y z w hU hi hy hz hwi hno) (pre := tableOf [(0, 14, 17, 19)]) (suf := tableOf [(0, 14, 25, 90)]) (x := ⟨0, 14, 21, 13⟩) htab hpass (by decide) (by decide) zcl_13 zca_13 mX10_addPart kL_92 (by decide : kd 0 = 9) rfl rfl rfl ⟨rfl, rfl⟩ (show zfit (zrx 9 200) 6 (zrx 10 225) = true from rfl) (Nat.le_of_ble_eq_true rfl) dL_addPart_9 ⟨Nat.le_of_ble_eq_true rfl, Nat.le_of_ble_eq_true rfl⟩ (fun q9 τ9 hp9 => ?_)
  refine zv_astore (lv' := [(6, .ref q9), (0, .ref (ob E 0)), (1, .int (zI (i : Int))), (2, .int (zI y)), (3, .int (zI z)), (4, .int (zI w)), (5, .ref (ob E 339))]) C dL_addPart_21  (by decide) rfl ?_
  refine zv_iconst (v := zI 2) C dL_addPart_23 rfl ?_
  exact zv_iretN C hr rfl dL_addPart_24 ⟨rfl, hp9⟩
set_option maxRecDepth 20000 in
theorem w_x6_X10_addPart {l : Launch} (hfl : l.stackTraces = false) (E : zE) (σ : zS) (U : zSU) (S : zST) (i : Nat) (a b d : Nat) (hU : zSUp σ 29 U) (hS : zSTp σ 34 S) (hi : i < U.nb) (ha : a ≤ 2) (hb : 8 ≤ b ∧ b ≤ 100) (hd1 : a = 2 → d = 0) (hd2 : a ≠ 2 → 8 ≤ d ∧ d ≤ 100) (hno : ¬ (S.tn i < 4 ∧ (a = 2 ∨ tGe (S.tr i) (S.tn i) < 2))) : zRh l E yL_addPart cL_addPart 7 [(0, 14, 17, 19), (0, 14, 21, 13), (0, 14, 25, 90)] (zrx 10 225) 1 6 [.ref (ob E 0), .int (zI (i : Int)), .int (zI (a : Int)), .int (zI (b : Int)), .int (zI (d : Int)), .ref (ob E 339)] σ (fun r τ => r = zI 3 ∧ (fun u => u = σ) τ) := by
  refine zMetH hfl (by decide) rfl (Nat.le_of_ble_eq_true rfl) ?_
  intro p e s m args below meth c C hr htab
  refine (?_ : zV p l e _ s m args below meth c 7 E _ 0 0 σ 0 [(0, .ref (ob E 0)), (1, .int (zI (i : Int))), (2, .int (zI (a : Int))), (3, .int (zI (b : Int))), (4, .int (zI (d : Int))), (5, .ref (ob E 339))] [])
  have hpass : ∀ z ∈ tableOf [(0, 14, 17, 19), (0, 14, 21, 13)], z.catchType ≠ 0 ∧ ∃ nm' : String, Cond.classLink RL z.catchType nm' ∈ zT ∧ ("java/lang/IllegalStateException", nm') ∈ zNc := fun z hz => by
    simp only [tableOf, List.map_cons, List.map_nil, List.mem_cons, List.not_mem_nil, or_false] at hz
    rcases hz with rfl | rfl
    · exact ⟨by decide, "java/lang/IndexOutOfBoundsException", zcl_19, by decide⟩
    · exact ⟨by decide, "java/lang/IllegalArgumentException", zcl_13, by decide⟩
  refine zv_aload C 5 dL_addPart_0 rfl ?_
  refine zv_iconst (v := zI 0) C dL_addPart_2 rfl ?_
  refine zv_aload_n C 0 dL_addPart_3 rfl rfl ?_
  refine zv_iload_n C 1 dL_addPart_4 rfl rfl ?_
  refine zv_iload_n C 2 dL_addPart_5 rfl rfl ?_
  refine zv_iload_n C 3 dL_addPart_6 rfl rfl ?_
  refine zv_iload C 4 dL_addPart_7 rfl ?_
  refine zv_xcatch (st := [.int (zI 0), .ref (ob E 339)]) C (x6_X10_addPart hfl E σ U S i a b d hU hS hi ha hb hd1 hd2 hno) (pre := tableOf [(0, 14, 17, 19), (0, 14, 21, 13)]) (suf := tableOf []) (x := ⟨0, 14, 25, 90⟩) htab hpass (by decide) (by decide) zcl_90 zca_90 mX10_addPart kL_92 (by decide : kd 0 = 9) rfl rfl rfl ⟨rfl, rfl⟩ (show zfit (zrx 9 200) 6 (zrx 10 225) = true from rfl) (Nat.le_of_ble_eq_true rfl) dL_addPart_9 ⟨Nat.le_of_ble_eq_true rfl, Nat.le_of_ble_eq_true rfl⟩ (fun q9 τ9 hp9 => ?_)
  refine zv_astore (lv' := [(6, .ref q9), (0, .ref (ob E 0)), (1, .int (zI (i : Int))), (2, .int (zI (a : Int))), (3, .int (zI (b : Int))), (4, .int (zI (d : Int))), (5, .ref (ob E 339))]) C dL_addPart_25  (by decide) rfl ?_
  refine zv_iconst (v := zI 3) C dL_addPart_27 rfl ?_
  exact zv_iretN C hr rfl dL_addPart_28 ⟨rfl, hp9⟩
