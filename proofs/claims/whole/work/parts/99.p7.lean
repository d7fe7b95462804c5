/-! the law's start -/
section
variable {p : Program} {l : Launch} {e : Env} {R : Room} {s : State} {m : MethodId} {args : Array Value} {below : List Frame} {meth : Method} {c : Code} {cc : ByteArray} {own : String} {nL : Nat} {E : zE} {k0 : Nat} {Q : State → Prop} {ce sl : Nat} {cw : Nat → va_E} {n pc : Nat} {lv : List (Nat × Value)} {st : List Value}
theorem zp_istore (C : zYx p l s m args meth c cc own nL E k0) {i : Nat} {x : Int32} {lv' : List (Nat × Value)} (hdg : decode cc pc = .ok (.istore i, 2)) (hn : i < nL) (he : (i, Value.int x) :: lv.filter (fun q => !(q.1 == i) && !(q.1 + 1 == i && q.2.category == 2)) = lv') (kk : zVp p l e R s m args below meth c nL E k0 Q ce sl cw n (pc + 2) lv' st) : zVp p l e R s m args below meth c nL E k0 Q ce sl cw n pc lv (.int x :: st) := fun H locs ls hP hS hl => lv_istore C.exec C.code hdg hl hn he (fun ls' hl' => kk H locs ls' hP hS hl')
theorem zp_toV {σ : zS} (h : ∀ j, j < 341 → cw j = zc E σ j) (hn : n = 341) (kk : zV p l e R s m args below meth c nL E Q ce sl σ pc lv st) : zVp p l e R s m args below meth c nL E 0 Q ce sl cw n pc lv st := fun H locs ls hP hS hl => by
  subst hn
  refine kk H locs ls (fun k q hq => ?_) hS hl
  obtain ⟨hk, rfl⟩ := zW_in hq
  have := zP_at hP hk
  rw [h k hk, Nat.zero_add] at this
  exact this
end
theorem zG_cong {E : zE} {j : Nat} (h1 : j ≠ 328) (h2 : j ≠ 332) : zc E zG0 j = zc E (clW zG0) j := (zc_cong (clW_o h1 h2) rfl rfl).symm
set_option maxRecDepth 20000 in
theorem law_start {p : Program} {l : Launch} {e : Env} {s : State} {m : MethodId} {args : Array Value} {below : List Frame} {meth : Method} {c : Code} {E : zE} {Q : State → Prop} {b0 : Nat} (C : zYx p l s m args meth c cL_law RL 9 E 0) (hgo : zV p l e room_1 s m args below meth c 9 E Q 341 8618 (clW zG0) 28 (lwL b0 0 E) []) : zVp p l e room_1 s m args below meth c 9 E 0 Q 0 0 (fun _ => .inr (99, [])) 0 0 [(0, .ref b0)] [] := by
  have hroom : room_1.cells = 601024 ∧ room_1.slots = 7293034 := ⟨rfl, rfl⟩
  refine zp_new (ci := 9) (fs := [.null, .null, .null, .null, .null, .null, .null, .null, .null, .null, .null, .null]) C iX10 tyX10_ok (zT_mem 126 (by decide +kernel) (by decide)) mtX10 miX10 rfl dfX10 (by omega) (by omega) dL_law_0 ?_
  refine zp_dup C dL_law_3 rfl ?_
  refine zp_cI (i := 0) (N := 327) (G := zG0) C (c_X10_init E) rfl rfl mcX10 miX10 mmX10 (Or.inl (zT_mem 128 (by decide +kernel) (by decide))) rfl ⟨by decide, by decide, by decide⟩ ⟨rfl, rfl⟩ (show zfit (zrc 8 326 4325 260) 1 room_1 = true from rfl) (Nat.le_of_ble_eq_true rfl) dL_law_4 ⟨by omega, by omega⟩ ?_
  refine zp_astore_n (lv' := [(1, .ref (ob E (0 + 0))), (0, .ref b0)]) C dL_law_7 rfl (by decide) rfl ?_
  refine zp_new (ci := 10) (fs := [.null, .null, .null, .null, .null, .null, .null, .null, .int 0, .int 0, .int 0, .null, .int 0, .int 0, .int 0, .int 0, .int 0, .int 0, .int 0, .int 0, .int 0, .int 0, .long 0, .long 0, .int 0, .null, .long 0, .long 0, .null, .int 0]) C iX11 tyX11_ok (zT_mem 1374 (by decide +kernel) (by decide)) mtX11 miX11 rfl dfX11 (by omega) (by omega) dL_law_8 ?_
  refine zp_dup C dL_law_11 rfl ?_
  refine zp_cI (i := 327) (N := 12) (G := clW zG0) C (c_X11_init E) rfl rfl mcX11 miX11 mmX11 (Or.inl (zT_mem 1376 (by decide +kernel) (by decide))) rfl ⟨by decide, by decide, by decide⟩ ⟨rfl, rfl⟩ (show zfit (zrc 3 11 4249 80) 1 room_1 = true from rfl) (Nat.le_of_ble_eq_true rfl) dL_law_12 ⟨by omega, by omega⟩ ?_
  refine zp_astore_n (lv' := [(2, .ref (ob E (0 + 327))), (1, .ref (ob E (0 + 0))), (0, .ref b0)]) C dL_law_15 rfl (by decide) rfl ?_
  refine zp_iconst (v := 1) C dL_law_16 (by decide) ?_
  refine zp_newa (atype := .long) (ti := 2) (N' := 1) (x := (1, .inr (.inl (fun _ => 0)))) C rfl (zT_mem 208 (by decide +kernel) (by decide)) (fun _ => rfl) (by decide) (by decide) (by decide) (by omega) (by omega) dL_law_17 ?_
  refine zp_astore_n (lv' := [(3, .ref (ob E (0 + 339))), (2, .ref (ob E (0 + 327))), (1, .ref (ob E (0 + 0))), (0, .ref b0)]) C dL_law_19 rfl (by decide) rfl ?_
  refine zp_iconst (v := 1) C dL_law_20 (by decide) ?_
  refine zp_newa (atype := .double) (ti := 6) (N' := 1) (x := (1, .inr (.inr (.inr (.inl (fun _ => 0)))))) C rfl (zT_mem 2085 (by decide +kernel) (by decide)) (fun _ => rfl) (by decide) (by decide) (by decide) (by omega) (by omega) dL_law_21 ?_
  refine zp_astore (lv' := [(4, .ref (ob E (0 + 340))), (3, .ref (ob E (0 + 339))), (2, .ref (ob E (0 + 327))), (1, .ref (ob E (0 + 0))), (0, .ref b0)]) C dL_law_23 (by decide) rfl ?_
  refine zp_iconst (v := zI 0) C dL_law_25 rfl ?_
  refine zp_istore (lv' := [(5, .int (zI 0)), (4, .ref (ob E (0 + 340))), (3, .ref (ob E (0 + 339))), (2, .ref (ob E (0 + 327))), (1, .ref (ob E (0 + 0))), (0, .ref b0)]) C dL_law_26 (by decide) rfl ?_
  refine zp_sub (lv' := lwL b0 0 E) [5, 4, 3, 2, 1, 0] rfl ?_
  refine zp_toV (σ := clW zG0) (fun j hj => ?_) rfl hgo
  unfold zU
  by_cases g1 : j = 340
  · rw [if_pos g1, g1]
    exact (zc0_17 (k := 340) (by decide +kernel) (by decide +kernel)).symm.trans (zG_cong (by decide) (by decide))
  · rw [if_neg g1]
    by_cases g2 : j = 339
    · rw [if_pos g2, g2]
      exact (zc0_13 (k := 339) (by decide +kernel) (by decide +kernel)).symm.trans (zG_cong (by decide) (by decide))
    · rw [if_neg g2]
      dsimp only
      by_cases g3 : 327 ≤ j
      · rw [if_pos g3, Nat.zero_add]
      · rw [if_neg g3, if_neg (by omega), if_pos (Nat.zero_le j), Nat.zero_add]
        exact zG_cong (by omega) (by omega)
def zNS : Nat := 8618
def zNC : Nat := 341
