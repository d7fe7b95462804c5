/-! the law's loop -/
theorem dL_law_0 : decode cL_law 0 = .ok (.new 8, 3) := by decide +kernel
theorem dL_law_3 : decode cL_law 3 = .ok (.dup, 1) := by decide +kernel
theorem dL_law_4 : decode cL_law 4 = .ok (.invokespecial 168, 3) := by decide +kernel
theorem dL_law_7 : decode cL_law 7 = .ok (.astore_n 1, 1) := by decide +kernel
theorem dL_law_8 : decode cL_law 8 = .ok (.new 169, 3) := by decide +kernel
theorem dL_law_11 : decode cL_law 11 = .ok (.dup, 1) := by decide +kernel
theorem dL_law_12 : decode cL_law 12 = .ok (.invokespecial 171, 3) := by decide +kernel
theorem dL_law_15 : decode cL_law 15 = .ok (.astore_n 2, 1) := by decide +kernel
theorem dL_law_16 : decode cL_law 16 = .ok (.iconst 1, 1) := by decide +kernel
theorem dL_law_17 : decode cL_law 17 = .ok (.newarray .long, 2) := by decide +kernel
theorem dL_law_19 : decode cL_law 19 = .ok (.astore_n 3, 1) := by decide +kernel
theorem dL_law_20 : decode cL_law 20 = .ok (.iconst 1, 1) := by decide +kernel
theorem dL_law_21 : decode cL_law 21 = .ok (.newarray .double, 2) := by decide +kernel
theorem dL_law_23 : decode cL_law 23 = .ok (.astore 4, 2) := by decide +kernel
theorem dL_law_25 : decode cL_law 25 = .ok (.iconst 0, 1) := by decide +kernel
theorem dL_law_26 : decode cL_law 26 = .ok (.istore 5, 2) := by decide +kernel
theorem dL_law_28 : decode cL_law 28 = .ok (.iload 5, 2) := by decide +kernel
theorem dL_law_30 : decode cL_law 30 = .ok (.aload_n 0, 1) := by decide +kernel
theorem dL_law_31 : decode cL_law 31 = .ok (.arraylength, 1) := by decide +kernel
theorem dL_law_32 : decode cL_law 32 = .ok (.bipush 6, 2) := by decide +kernel
theorem dL_law_34 : decode cL_law 34 = .ok (.isub, 1) := by decide +kernel
theorem dL_law_35 : decode cL_law 35 = .ok (.if_icmp .gt 3595, 3) := by decide +kernel
theorem dL_law_38 : decode cL_law 38 = .ok (.aload_n 0, 1) := by decide +kernel
theorem dL_law_39 : decode cL_law 39 = .ok (.iload 5, 2) := by decide +kernel
theorem dL_law_41 : decode cL_law 41 = .ok (.iaload, 1) := by decide +kernel
theorem dL_law_42 : decode cL_law 42 = .ok (.bipush 63, 2) := by decide +kernel
theorem dL_law_44 : decode cL_law 44 = .ok (.iand, 1) := by decide +kernel
theorem dL_law_45 : decode cL_law 45 = .ok (.tableswitch 3579 0 56 #[243, 316, 341, 354, 367, 380, 436, 504, 584, 640, 695, 750, 806, 862, 918, 985, 1052, 1120, 1188, 1244, 1312, 1380, 1435, 1514, 1582, 1650, 1729, 1809, 1865, 1957, 2013, 2069, 2094, 2150, 2206, 2262, 2318, 2374, 2430, 2522, 2599, 2655, 2723, 2791, 2871, 2938, 3006, 3085, 3165, 3190, 3280, 3372, 3428, 3484, 3509, 3522, 3535], 243) := by decide +kernel
theorem dL_law_3624 : decode cL_law 3624 = .ok (.iinc 5 6, 3) := by decide +kernel
theorem dL_law_3627 : decode cL_law 3627 = .ok (.goto (-3599), 3) := by decide +kernel
theorem dL_law_3630 : decode cL_law 3630 = .ok (.iconst 1, 1) := by decide +kernel
theorem dL_law_3631 : decode cL_law 3631 = .ok (.ireturn, 1) := by decide +kernel
theorem i6_and (y : Int32) : (y &&& zI 63).toInt = y.toInt % 64 := by
  have e : (y &&& zI 63).toBitVec.toNat = y.toBitVec.toNat % 64 := by
    rw [Int32.toBitVec_and, BitVec.toNat_and]
    exact Nat.and_two_pow_sub_one_eq_mod _ 6
  have hm : y.toBitVec.toNat % 64 < 64 := Nat.mod_lt _ (by decide)
  show (y &&& zI 63).toBitVec.toInt = y.toBitVec.toInt % 64
  rw [BitVec.toInt_eq_toNat_cond, BitVec.toInt_eq_toNat_cond, e, if_pos (by omega)]
  split <;> omega
theorem zv_tabI {p : Program} {l : Launch} {e : Env} {R : Room} {s : State} {m : MethodId} {args : Array Value} {below : List Frame} {meth : Method} {c : Code} {cc : ByteArray} {own : String} {nL : Nat} {E : zE} {Q : State → Prop} {ce sl : Nat} {σ : zS} {pc : Nat} {lv : List (Nat × Value)} {st : List Value} (C : zX p l s m args meth c cc own nL E) {dflt lo hi : Int} {offs : Array Int} {len : Nat} {x : Int32} {off : Int} {tgt : Nat} (hdg : decode cc pc = .ok (.tableswitch dflt lo hi offs, len)) (h1 : ¬ x.toInt < lo) (h2 : ¬ hi < x.toInt) (ho : offs[(x.toInt - lo).toNat]? = some off) (ht : (pc : Int) + off = (tgt : Int)) (kk : zV p l e R s m args below meth c nL E Q ce sl σ tgt lv st) : zV p l e R s m args below meth c nL E Q ce sl σ pc lv (.int x :: st) := fun H locs ls hP hS hl => lv_tableIn C.exec C.code hdg h1 h2 ho ht (kk H locs ls hP hS hl)
theorem zv_tabO {p : Program} {l : Launch} {e : Env} {R : Room} {s : State} {m : MethodId} {args : Array Value} {below : List Frame} {meth : Method} {c : Code} {cc : ByteArray} {own : String} {nL : Nat} {E : zE} {Q : State → Prop} {ce sl : Nat} {σ : zS} {pc : Nat} {lv : List (Nat × Value)} {st : List Value} (C : zX p l s m args meth c cc own nL E) {dflt lo hi : Int} {offs : Array Int} {len : Nat} {x : Int32} {tgt : Nat} (hdg : decode cc pc = .ok (.tableswitch dflt lo hi offs, len)) (h : x.toInt < lo ∨ hi < x.toInt) (ht : (pc : Int) + dflt = (tgt : Int)) (kk : zV p l e R s m args below meth c nL E Q ce sl σ tgt lv st) : zV p l e R s m args below meth c nL E Q ce sl σ pc lv (.int x :: st) := fun H locs ls hP hS hl => lv_tableOut C.exec C.code hdg h ht (kk H locs ls hP hS hl)
set_option maxRecDepth 20000 in
theorem law_loop {p : Program} {l : Launch} {e : Env} {s : State} {m : MethodId} {args : Array Value} {below : List Frame} {meth : Method} {c : Code} {E : zE} {Q : State → Prop} {b0 L : Nat} {xs : Nat → Int32} (hFN : zFN) (W : zLW p l s m args meth c E b0 L xs) (hend : ∀ (σ : zS) (i ce sl : Nat), ce ≤ 5000 → sl ≤ 60000 → zV p l e room_1 s m args below meth c 9 E Q ce sl σ 3630 (lwL b0 i E) []) : ∀ (d i : Nat) (σ : zS) (D : zDv) (ce sl : Nat), L + 6 ≤ i + d → i ≤ L → ce ≤ 341 + i → sl ≤ 40000 + i → zRel σ D → zV p l e room_1 s m args below meth c 9 E Q ce sl σ 28 (lwL b0 i E) [] := by
  have C := W.2.1
  have hL := W.2.2.2.2.2
  have hroom : room_1.cells = 601024 ∧ room_1.slots = 7293034 := ⟨rfl, rfl⟩
  intro d
  induction d with
  | zero => intro i σ D ce sl h1 h2; omega
  | succ d ih =>
    intro i σ D ce sl hd hi hce hsl hR
    refine (?_ : zV p l e room_1 s m args below meth c 9 E Q ce sl σ 28 [(0, .ref b0), (1, .ref (ob E 0)), (2, .ref (ob E 327)), (3, .ref (ob E 339)), (4, .ref (ob E 340)), (5, .int (zI (i : Int)))] [])
    refine zv_iload C 5 dL_law_28 rfl ?_
    refine zv_aload_n C 0 dL_law_30 rfl rfl ?_
    refine zv_slen C W.2.2.1 W.2.2.2.1 W.2.2.2.2.1 dL_law_31 ?_
    refine zv_bipush (v := zI 6) C dL_law_32 (by decide) ?_
    refine zv_isubZ C dL_law_34 ?_
    refine zv_icmp_gtZ (tgt := 3630) C (by omega) (by omega) dL_law_35 (by decide) (fun h => ?_) (fun h => ?_)
    · exact hend σ i ce sl (by omega) (by omega)
    have hi6 : i + 6 ≤ L := by omega
    refine zv_aload_n C 0 dL_law_38 rfl rfl ?_
    refine zv_iload C 5 dL_law_39 rfl ?_
    refine zv_sld (j := i) (v := xs i) C W.2.2.1 W.2.2.2.1 W.2.2.2.2.1 W.2.2.2.2.2 (zI_ix rfl) (by omega) rfl dL_law_41 ?_
    refine zv_bipush (v := zI 63) C dL_law_42 (by decide) ?_
    refine zv_iand C dL_law_44 ?_
    have kk : zNx p l e s m args below meth c E Q b0 i ce sl := fun σ' D' ce' sl' g1 g2 hR' => by
      refine (?_ : zV p l e room_1 s m args below meth c 9 E Q ce' sl' σ' 3624 [(0, .ref b0), (1, .ref (ob E 0)), (2, .ref (ob E 327)), (3, .ref (ob E 339)), (4, .ref (ob E 340)), (5, .int (zI (i : Int)))] [])
      refine zv_iinc (v := zI ((i : Int) + 6)) (lv' := [(5, .int (zI ((i : Int) + 6))), (0, .ref b0), (1, .ref (ob E 0)), (2, .ref (ob E 327)), (3, .ref (ob E 339)), (4, .ref (ob E 340))]) C 5 dL_law_3624 rfl (zI_add _ _) (by decide) rfl ?_
      refine zv_goto (tgt := 28) C dL_law_3627 (by decide) ?_
      refine zv_sub (lv' := lwL b0 (i + 6) E) [1, 2, 3, 4, 5, 0] rfl ?_
      exact ih (i + 6) σ' D' ce' sl' (by omega) (by omega) (by omega) (by omega) hR'
    have hm := i6_and (xs i)
    have hr : 0 ≤ (xs i).toInt % 64 ∧ (xs i).toInt % 64 < 64 := ⟨by omega, by omega⟩
    by_cases hk57 : 56 < (xs i &&& zI 63).toInt
    · exact zv_tabO (tgt := 3624) C dL_law_45 (Or.inr hk57) (by decide) (kk σ D ce sl (by omega) (by omega) hR)
    have hcs : ce + 1 ≤ room_1.cells ∧ sl + 6 ≤ room_1.slots := ⟨by omega, by omega⟩
    obtain ⟨⟨ni, tx⟩, ⟨ec, eo⟩, U, S, hh, kp, ou⟩ := D
    have hR : zRel σ (zDv.mk ni tx ec eo U S hh kp ou) := hR
    have hc : (xs i &&& zI 63).toInt = 0 ∨ (xs i &&& zI 63).toInt = 1 ∨ (xs i &&& zI 63).toInt = 2 ∨ (xs i &&& zI 63).toInt = 3 ∨ (xs i &&& zI 63).toInt = 4 ∨ (xs i &&& zI 63).toInt = 5 ∨ (xs i &&& zI 63).toInt = 6 ∨ (xs i &&& zI 63).toInt = 7 ∨ (xs i &&& zI 63).toInt = 8 ∨ (xs i &&& zI 63).toInt = 9 ∨ (xs i &&& zI 63).toInt = 10 ∨ (xs i &&& zI 63).toInt = 11 ∨ (xs i &&& zI 63).toInt = 12 ∨ (xs i &&& zI 63).toInt = 13 ∨ (xs i &&& zI 63).toInt = 14 ∨ (xs i &&& zI 63).toInt = 15 ∨ (xs i &&& zI 63).toInt = 16 ∨ (xs i &&& zI 63).toInt = 17 ∨ (xs i &&& zI 63).toInt = 18 ∨ (xs i &&& zI 63).toInt = 19 ∨ (xs i &&& zI 63).toInt = 20 ∨ (xs i &&& zI 63).toInt = 21 ∨ (xs i &&& zI 63).toInt = 22 ∨ (xs i &&& zI 63).toInt = 23 ∨ (xs i &&& zI 63).toInt = 24 ∨ (xs i &&& zI 63).toInt = 25 ∨ (xs i &&& zI 63).toInt = 26 ∨ (xs i &&& zI 63).toInt = 27 ∨ (xs i &&& zI 63).toInt = 28 ∨ (xs i &&& zI 63).toInt = 29 ∨ (xs i &&& zI 63).toInt = 30 ∨ (xs i &&& zI 63).toInt = 31 ∨ (xs i &&& zI 63).toInt = 32 ∨ (xs i &&& zI 63).toInt = 33 ∨ (xs i &&& zI 63).toInt = 34 ∨ (xs i &&& zI 63).toInt = 35 ∨ (xs i &&& zI 63).toInt = 36 ∨ (xs i &&& zI 63).toInt = 37 ∨ (xs i &&& zI 63).toInt = 38 ∨ (xs i &&& zI 63).toInt = 39 ∨ (xs i &&& zI 63).toInt = 40 ∨ (xs i &&& zI 63).toInt = 41 ∨ (xs i &&& zI 63).toInt = 42 ∨ (xs i &&& zI 63).toInt = 43 ∨ (xs i &&& zI 63).toInt = 44 ∨ (xs i &&& zI 63).toInt = 45 ∨ (xs i &&& zI 63).toInt = 46 ∨ (xs i &&& zI 63).toInt = 47 ∨ (xs i &&& zI 63).toInt = 48 ∨ (xs i &&& zI 63).toInt = 49 ∨ (xs i &&& zI 63).toInt = 50 ∨ (xs i &&& zI 63).toInt = 51 ∨ (xs i &&& zI 63).toInt = 52 ∨ (xs i &&& zI 63).toInt = 53 ∨ (xs i &&& zI 63).toInt = 54 ∨ (xs i &&& zI 63).toInt = 55 ∨ (xs i &&& zI 63).toInt = 56 := by omega
    rcases hc with hk | hk | hk | hk | hk | hk | hk | hk | hk | hk | hk | hk | hk | hk | hk | hk | hk | hk | hk | hk | hk | hk | hk | hk | hk | hk | hk | hk | hk | hk | hk | hk | hk | hk | hk | hk | hk | hk | hk | hk | hk | hk | hk | hk | hk | hk | hk | hk | hk | hk | hk | hk | hk | hk | hk | hk | hk
    · exact zv_tabI (off := 243) (tgt := 288) C dL_law_45 (by omega) (by omega) (by rw [hk]; rfl) (by decide) (LK_0 ni tx ec eo U S hh kp ou hFN W hi6 hcs hR kk)
    · exact zv_tabI (off := 316) (tgt := 361) C dL_law_45 (by omega) (by omega) (by rw [hk]; rfl) (by decide) (LK_1 ni tx ec eo U S hh kp ou hFN W hi6 hcs hR kk)
    · exact zv_tabI (off := 341) (tgt := 386) C dL_law_45 (by omega) (by omega) (by rw [hk]; rfl) (by decide) (LK_2 ni tx ec eo U S hh kp ou hFN W hi6 hcs hR kk)
    · exact zv_tabI (off := 354) (tgt := 399) C dL_law_45 (by omega) (by omega) (by rw [hk]; rfl) (by decide) (LK_3 ni tx ec eo U S hh kp ou hFN W hi6 hcs hR kk)
    · exact zv_tabI (off := 367) (tgt := 412) C dL_law_45 (by omega) (by omega) (by rw [hk]; rfl) (by decide) (LK_4 ni tx ec eo U S hh kp ou hFN W hi6 hcs hR kk)
    · exact zv_tabI (off := 380) (tgt := 425) C dL_law_45 (by omega) (by omega) (by rw [hk]; rfl) (by decide) (LK_5 ni tx ec eo U S hh kp ou hFN W hi6 hcs hR kk)
    · exact zv_tabI (off := 436) (tgt := 481) C dL_law_45 (by omega) (by omega) (by rw [hk]; rfl) (by decide) (LK_6 ni tx ec eo U S hh kp ou hFN W hi6 hcs hR kk)
    · exact zv_tabI (off := 504) (tgt := 549) C dL_law_45 (by omega) (by omega) (by rw [hk]; rfl) (by decide) (LK_7 ni tx ec eo U S hh kp ou hFN W hi6 hcs hR kk)
    · exact zv_tabI (off := 584) (tgt := 629) C dL_law_45 (by omega) (by omega) (by rw [hk]; rfl) (by decide) (LK_8 ni tx ec eo U S hh kp ou hFN W hi6 hcs hR kk)
    · exact zv_tabI (off := 640) (tgt := 685) C dL_law_45 (by omega) (by omega) (by rw [hk]; rfl) (by decide) (LK_9 ni tx ec eo U S hh kp ou hFN W hi6 hcs hR kk)
    · exact zv_tabI (off := 695) (tgt := 740) C dL_law_45 (by omega) (by omega) (by rw [hk]; rfl) (by decide) (LK_10 ni tx ec eo U S hh kp ou hFN W hi6 hcs hR kk)
    · exact zv_tabI (off := 750) (tgt := 795) C dL_law_45 (by omega) (by omega) (by rw [hk]; rfl) (by decide) (LK_11 ni tx ec eo U S hh kp ou hFN W hi6 hcs hR kk)
    · exact zv_tabI (off := 806) (tgt := 851) C dL_law_45 (by omega) (by omega) (by rw [hk]; rfl) (by decide) (LK_12 ni tx ec eo U S hh kp ou hFN W hi6 hcs hR kk)
    · exact zv_tabI (off := 862) (tgt := 907) C dL_law_45 (by omega) (by omega) (by rw [hk]; rfl) (by decide) (LK_13 ni tx ec eo U S hh kp ou hFN W hi6 hcs hR kk)
    · exact zv_tabI (off := 918) (tgt := 963) C dL_law_45 (by omega) (by omega) (by rw [hk]; rfl) (by decide) (LK_14 ni tx ec eo U S hh kp ou hFN W hi6 hcs hR kk)
    · exact zv_tabI (off := 985) (tgt := 1030) C dL_law_45 (by omega) (by omega) (by rw [hk]; rfl) (by decide) (LK_15 ni tx ec eo U S hh kp ou hFN W hi6 hcs hR kk)
    · exact zv_tabI (off := 1052) (tgt := 1097) C dL_law_45 (by omega) (by omega) (by rw [hk]; rfl) (by decide) (LK_16 ni tx ec eo U S hh kp ou hFN W hi6 hcs hR kk)
    · exact zv_tabI (off := 1120) (tgt := 1165) C dL_law_45 (by omega) (by omega) (by rw [hk]; rfl) (by decide) (LK_17 ni tx ec eo U S hh kp ou hFN W hi6 hcs hR kk)
    · exact zv_tabI (off := 1188) (tgt := 1233) C dL_law_45 (by omega) (by omega) (by rw [hk]; rfl) (by decide) (LK_18 ni tx ec eo U S hh kp ou hFN W hi6 hcs hR kk)
    · exact zv_tabI (off := 1244) (tgt := 1289) C dL_law_45 (by omega) (by omega) (by rw [hk]; rfl) (by decide) (LK_19 ni tx ec eo U S hh kp ou hFN W hi6 hcs hR kk)
    · exact zv_tabI (off := 1312) (tgt := 1357) C dL_law_45 (by omega) (by omega) (by rw [hk]; rfl) (by decide) (LK_20 ni tx ec eo U S hh kp ou hFN W hi6 hcs hR kk)
    · exact zv_tabI (off := 1380) (tgt := 1425) C dL_law_45 (by omega) (by omega) (by rw [hk]; rfl) (by decide) (LK_21 ni tx ec eo U S hh kp ou hFN W hi6 hcs hR kk)
    · exact zv_tabI (off := 1435) (tgt := 1480) C dL_law_45 (by omega) (by omega) (by rw [hk]; rfl) (by decide) (LK_22 ni tx ec eo U S hh kp ou hFN W hi6 hcs hR kk)
    · exact zv_tabI (off := 1514) (tgt := 1559) C dL_law_45 (by omega) (by omega) (by rw [hk]; rfl) (by decide) (LK_23 ni tx ec eo U S hh kp ou hFN W hi6 hcs hR kk)
    · exact zv_tabI (off := 1582) (tgt := 1627) C dL_law_45 (by omega) (by omega) (by rw [hk]; rfl) (by decide) (LK_24 ni tx ec eo U S hh kp ou hFN W hi6 hcs hR kk)
    · exact zv_tabI (off := 1650) (tgt := 1695) C dL_law_45 (by omega) (by omega) (by rw [hk]; rfl) (by decide) (LK_25 ni tx ec eo U S hh kp ou hFN W hi6 hcs hR kk)
    · exact zv_tabI (off := 1729) (tgt := 1774) C dL_law_45 (by omega) (by omega) (by rw [hk]; rfl) (by decide) (LK_26 ni tx ec eo U S hh kp ou hFN W hi6 hcs hR kk)
    · exact zv_tabI (off := 1809) (tgt := 1854) C dL_law_45 (by omega) (by omega) (by rw [hk]; rfl) (by decide) (LK_27 ni tx ec eo U S hh kp ou hFN W hi6 hcs hR kk)
    · exact zv_tabI (off := 1865) (tgt := 1910) C dL_law_45 (by omega) (by omega) (by rw [hk]; rfl) (by decide) (LK_28 ni tx ec eo U S hh kp ou hFN W hi6 hcs hR kk)
    · exact zv_tabI (off := 1957) (tgt := 2002) C dL_law_45 (by omega) (by omega) (by rw [hk]; rfl) (by decide) (LK_29 ni tx ec eo U S hh kp ou hFN W hi6 hcs hR kk)
    · exact zv_tabI (off := 2013) (tgt := 2058) C dL_law_45 (by omega) (by omega) (by rw [hk]; rfl) (by decide) (LK_30 ni tx ec eo U S hh kp ou hFN W hi6 hcs hR kk)
    · exact zv_tabI (off := 2069) (tgt := 2114) C dL_law_45 (by omega) (by omega) (by rw [hk]; rfl) (by decide) (LK_31 ni tx ec eo U S hh kp ou hFN W hi6 hcs hR kk)
    · exact zv_tabI (off := 2094) (tgt := 2139) C dL_law_45 (by omega) (by omega) (by rw [hk]; rfl) (by decide) (LK_32 ni tx ec eo U S hh kp ou hFN W hi6 hcs hR kk)
    · exact zv_tabI (off := 2150) (tgt := 2195) C dL_law_45 (by omega) (by omega) (by rw [hk]; rfl) (by decide) (LK_33 ni tx ec eo U S hh kp ou hFN W hi6 hcs hR kk)
    · exact zv_tabI (off := 2206) (tgt := 2251) C dL_law_45 (by omega) (by omega) (by rw [hk]; rfl) (by decide) (LK_34 ni tx ec eo U S hh kp ou hFN W hi6 hcs hR kk)
    · exact zv_tabI (off := 2262) (tgt := 2307) C dL_law_45 (by omega) (by omega) (by rw [hk]; rfl) (by decide) (LK_35 ni tx ec eo U S hh kp ou hFN W hi6 hcs hR kk)
    · exact zv_tabI (off := 2318) (tgt := 2363) C dL_law_45 (by omega) (by omega) (by rw [hk]; rfl) (by decide) (LK_36 ni tx ec eo U S hh kp ou hFN W hi6 hcs hR kk)
    · exact zv_tabI (off := 2374) (tgt := 2419) C dL_law_45 (by omega) (by omega) (by rw [hk]; rfl) (by decide) (LK_37 ni tx ec eo U S hh kp ou hFN W hi6 hcs hR kk)
    · exact zv_tabI (off := 2430) (tgt := 2475) C dL_law_45 (by omega) (by omega) (by rw [hk]; rfl) (by decide) (LK_38 ni tx ec eo U S hh kp ou hFN W hi6 hcs hR kk)
    · exact zv_tabI (off := 2522) (tgt := 2567) C dL_law_45 (by omega) (by omega) (by rw [hk]; rfl) (by decide) (LK_39 ni tx ec eo U S hh kp ou hFN W hi6 hcs hR kk)
    · exact zv_tabI (off := 2599) (tgt := 2644) C dL_law_45 (by omega) (by omega) (by rw [hk]; rfl) (by decide) (LK_40 ni tx ec eo U S hh kp ou hFN W hi6 hcs hR kk)
    · exact zv_tabI (off := 2655) (tgt := 2700) C dL_law_45 (by omega) (by omega) (by rw [hk]; rfl) (by decide) (LK_41 ni tx ec eo U S hh kp ou hFN W hi6 hcs hR kk)
    · exact zv_tabI (off := 2723) (tgt := 2768) C dL_law_45 (by omega) (by omega) (by rw [hk]; rfl) (by decide) (LK_42 ni tx ec eo U S hh kp ou hFN W hi6 hcs hR kk)
    · exact zv_tabI (off := 2791) (tgt := 2836) C dL_law_45 (by omega) (by omega) (by rw [hk]; rfl) (by decide) (LK_43 ni tx ec eo U S hh kp ou hFN W hi6 hcs hR kk)
    · exact zv_tabI (off := 2871) (tgt := 2916) C dL_law_45 (by omega) (by omega) (by rw [hk]; rfl) (by decide) (LK_44 ni tx ec eo U S hh kp ou hFN W hi6 hcs hR kk)
    · exact zv_tabI (off := 2938) (tgt := 2983) C dL_law_45 (by omega) (by omega) (by rw [hk]; rfl) (by decide) (LK_45 ni tx ec eo U S hh kp ou hFN W hi6 hcs hR kk)
    · exact zv_tabI (off := 3006) (tgt := 3051) C dL_law_45 (by omega) (by omega) (by rw [hk]; rfl) (by decide) (LK_46 ni tx ec eo U S hh kp ou hFN W hi6 hcs hR kk)
    · exact zv_tabI (off := 3085) (tgt := 3130) C dL_law_45 (by omega) (by omega) (by rw [hk]; rfl) (by decide) (LK_47 ni tx ec eo U S hh kp ou hFN W hi6 hcs hR kk)
    · exact zv_tabI (off := 3165) (tgt := 3210) C dL_law_45 (by omega) (by omega) (by rw [hk]; rfl) (by decide) (LK_48 ni tx ec eo U S hh kp ou hFN W hi6 hcs hR kk)
    · exact zv_tabI (off := 3190) (tgt := 3235) C dL_law_45 (by omega) (by omega) (by rw [hk]; rfl) (by decide) (LK_49 ni tx ec eo U S hh kp ou hFN W hi6 hcs hR kk)
    · exact zv_tabI (off := 3280) (tgt := 3325) C dL_law_45 (by omega) (by omega) (by rw [hk]; rfl) (by decide) (LK_50 ni tx ec eo U S hh kp ou hFN W hi6 hcs hR kk)
    · exact zv_tabI (off := 3372) (tgt := 3417) C dL_law_45 (by omega) (by omega) (by rw [hk]; rfl) (by decide) (LK_51 ni tx ec eo U S hh kp ou hFN W hi6 hcs hR kk)
    · exact zv_tabI (off := 3428) (tgt := 3473) C dL_law_45 (by omega) (by omega) (by rw [hk]; rfl) (by decide) (LK_52 ni tx ec eo U S hh kp ou hFN W hi6 hcs hR kk)
    · exact zv_tabI (off := 3484) (tgt := 3529) C dL_law_45 (by omega) (by omega) (by rw [hk]; rfl) (by decide) (LK_53 ni tx ec eo U S hh kp ou hFN W hi6 hcs hR kk)
    · exact zv_tabI (off := 3509) (tgt := 3554) C dL_law_45 (by omega) (by omega) (by rw [hk]; rfl) (by decide) (LK_54 ni tx ec eo U S hh kp ou hFN W hi6 hcs hR kk)
    · exact zv_tabI (off := 3522) (tgt := 3567) C dL_law_45 (by omega) (by omega) (by rw [hk]; rfl) (by decide) (LK_55 ni tx ec eo U S hh kp ou hFN W hi6 hcs hR kk)
    · exact zv_tabI (off := 3535) (tgt := 3580) C dL_law_45 (by omega) (by omega) (by rw [hk]; rfl) (by decide) (LK_56 ni tx ec eo U S hh kp ou hFN W hi6 hcs hR kk)
