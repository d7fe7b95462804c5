/-! the law's cases -/
theorem dL_law_795 : decode cL_law 795 = .ok (.aload_n 1, 1) := by decide +kernel
theorem dL_law_796 : decode cL_law 796 = .ok (.aload_n 0, 1) := by decide +kernel
theorem dL_law_797 : decode cL_law 797 = .ok (.iload 5, 2) := by decide +kernel
theorem dL_law_799 : decode cL_law 799 = .ok (.iconst 1, 1) := by decide +kernel
theorem dL_law_800 : decode cL_law 800 = .ok (.iadd, 1) := by decide +kernel
theorem dL_law_801 : decode cL_law 801 = .ok (.iaload, 1) := by decide +kernel
theorem dL_law_802 : decode cL_law 802 = .ok (.aload_n 3, 1) := by decide +kernel
theorem dL_law_803 : decode cL_law 803 = .ok (.invokestatic 220, 3) := by decide +kernel
theorem dL_law_806 : decode cL_law 806 = .ok (.istore 6, 2) := by decide +kernel
theorem dL_law_808 : decode cL_law 808 = .ok (.aload_n 2, 1) := by decide +kernel
theorem dL_law_809 : decode cL_law 809 = .ok (.aload_n 0, 1) := by decide +kernel
theorem dL_law_810 : decode cL_law 810 = .ok (.iload 5, 2) := by decide +kernel
theorem dL_law_812 : decode cL_law 812 = .ok (.iconst 1, 1) := by decide +kernel
theorem dL_law_813 : decode cL_law 813 = .ok (.iadd, 1) := by decide +kernel
theorem dL_law_814 : decode cL_law 814 = .ok (.iaload, 1) := by decide +kernel
theorem dL_law_815 : decode cL_law 815 = .ok (.invokevirtual 222, 3) := by decide +kernel
theorem dL_law_818 : decode cL_law 818 = .ok (.istore 7, 2) := by decide +kernel
theorem dL_law_820 : decode cL_law 820 = .ok (.aload_n 2, 1) := by decide +kernel
theorem dL_law_821 : decode cL_law 821 = .ok (.invokevirtual 200, 3) := by decide +kernel
theorem dL_law_824 : decode cL_law 824 = .ok (.iload 6, 2) := by decide +kernel
theorem dL_law_826 : decode cL_law 826 = .ok (.if_icmp .eq 5, 3) := by decide +kernel
theorem dL_law_829 : decode cL_law 829 = .ok (.iconst 0, 1) := by decide +kernel
theorem dL_law_830 : decode cL_law 830 = .ok (.ireturn, 1) := by decide +kernel
theorem dL_law_831 : decode cL_law 831 = .ok (.iload 6, 2) := by decide +kernel
theorem dL_law_833 : decode cL_law 833 = .ok (.ifCond .ne 15, 3) := by decide +kernel
theorem dL_law_836 : decode cL_law 836 = .ok (.aload_n 3, 1) := by decide +kernel
theorem dL_law_837 : decode cL_law 837 = .ok (.iconst 0, 1) := by decide +kernel
theorem dL_law_838 : decode cL_law 838 = .ok (.laload, 1) := by decide +kernel
theorem dL_law_839 : decode cL_law 839 = .ok (.iload 7, 2) := by decide +kernel
theorem dL_law_841 : decode cL_law 841 = .ok (.i2l, 1) := by decide +kernel
theorem dL_law_842 : decode cL_law 842 = .ok (.lcmp, 1) := by decide +kernel
theorem dL_law_843 : decode cL_law 843 = .ok (.ifCond .eq 5, 3) := by decide +kernel
theorem dL_law_846 : decode cL_law 846 = .ok (.iconst 0, 1) := by decide +kernel
theorem dL_law_847 : decode cL_law 847 = .ok (.ireturn, 1) := by decide +kernel
theorem dL_law_848 : decode cL_law 848 = .ok (.goto 2776, 3) := by decide +kernel
set_option maxRecDepth 20000 in
theorem lw_daysOf_c_c {p : Program} {l : Launch} {e : Env} {s : State} {m : MethodId} {args : Array Value} {below : List Frame} {meth : Method} {c : Code} {E : zE} {Q : State → Prop} {b0 L i ce sl : Nat} {xs : Nat → Int32} {σ : zS} (ni : Nat) (tx : Nat → Int) (ec : Nat) (eo : Int) (U : zSU) (S : zST) (hh : List zST) (kp : Option zST) (ou : List Nat) (v1 : Int) (W : zLW p l s m args meth c E b0 L xs) (hi : i + 6 ≤ L) (hcs : ce + 1 ≤ room_1.cells ∧ sl + 6 ≤ room_1.slots) (hR : zRel σ (zDv.mk ni tx ec eo U S hh kp ou)) (hx1 : xs (i + 1) = (zI v1)) (hy0 : U.s0 ≤ v1 ∧ v1 ≤ U.s0 + 999)  (kk : zNx p l e s m args below meth c E Q b0 i ce sl) : zV p l e room_1 s m args below meth c 9 E Q ce sl σ 795 (lwL b0 i E) [] := by
  refine (?_ : zV p l e room_1 s m args below meth c 9 E Q ce sl σ 795 [(0, .ref b0), (1, .ref (ob E 0)), (2, .ref (ob E 327)), (3, .ref (ob E 339)), (4, .ref (ob E 340)), (5, .int (zI (i : Int)))] [])
  have C := W.2.1
  have hfl := W.1
  have hroom : room_1.cells = 601024 ∧ room_1.slots = 7293034 := ⟨rfl, rfl⟩
  refine zv_aload_n C 1 dL_law_795 rfl rfl ?_
  refine zv_aload_n C 0 dL_law_796 rfl rfl ?_
  refine zv_iload C 5 dL_law_797 rfl ?_
  refine zv_iconst (v := zI 1) C dL_law_799 rfl ?_
  refine zv_iaddZ C dL_law_800 ?_
  refine zv_sld (j := i + 1) (v := (zI v1)) C W.2.2.1 W.2.2.2.1 W.2.2.2.2.1 W.2.2.2.2.2 (zI_ix (by omega)) (by omega) hx1 dL_law_801 ?_
  refine zv_aload_n C 3 dL_law_802 rfl rfl ?_
  refine zv_cH (st := []) C (w_c_X10_daysOf hfl E σ U v1 hR.1.2.2.1 (by first | assumption | omega)) mL_daysOf kL_220 rfl ⟨rfl, rfl⟩ (show zfit (zrm 3 64) 4 room_1 = true from rfl) (Nat.le_of_ble_eq_true rfl) dL_law_803 ⟨by omega, by omega⟩ (fun r803 τ803 hp803 => ?_)
  obtain ⟨hr0, v9, υ9, hP9, hτ9⟩ := hp803
  refine zv_eqi (y := zI 0) hr0 ?_
  obtain ⟨hv9, hW9⟩ := hP9
  have hF9 : zFr 318 327 σ υ9 := by first | exact hW9 | (rw [hW9]; exact (by first | exact zFr_refl _ _ _ | exact zFr_rW (zFr_refl _ _ _) (by omega) | exact zFr_rW (zFr_rW (zFr_refl _ _ _) (by omega)) (by omega) | exact qW_f _ _ _ _ | exact qM_f _ _ _ _ _ | exact rW2_f _ _ _ _ _ | exact rW3_f _ _ _ _ _ | exact alW_f _ _ _ _ _ | (split <;> first | exact zFr_refl _ _ _ | exact bW_f _ _ _ _) | assumption))
  have hR1 : zRel τ803 (zDv.mk ni tx ec eo U S hh kp ou) := by rw [hτ9]; exact zRel_J (zRel_c hR hF9) _
  have ho9 : gJ τ803 339 0 = v9.toInt64 := by rw [hτ9, gJ_sJ, if_pos ⟨rfl, rfl⟩]
  rw [hv9] at ho9
  refine zv_istore (lv' := [(6, .int (zI 0)), (0, .ref b0), (1, .ref (ob E 0)), (2, .ref (ob E 327)), (3, .ref (ob E 339)), (4, .ref (ob E 340)), (5, .int (zI (i : Int)))]) C dL_law_806  (by decide) rfl ?_
  refine zv_aload_n C 3 dL_law_808 rfl rfl ?_
  refine zv_aload_n C 1 dL_law_809 rfl rfl ?_
  refine zv_iload C 6 dL_law_810 rfl ?_
  refine zv_iconst (v := zI 1) C dL_law_812 rfl ?_
  refine zv_iaddZ C dL_law_813 ?_
  refine zv_sld (j := i + 1) (v := (zI v1)) C W.2.2.1 W.2.2.2.1 W.2.2.2.2.1 W.2.2.2.2.2 (zI_ix (by omega)) (by omega) hx1 dL_law_814 ?_
  refine zv_cvi (st := []) C (c_X11_daysOf hfl E τ803 σ U v1 hR1.2.2.2.1 hR.1.2.2.1 (by first | assumption | omega)) mX11_daysOf kL_222 (by decide : kd 327 = 10) rfl rfl rfl ⟨rfl, rfl⟩ (show zfit (zrm 3 68) 2 room_1 = true from rfl) (Nat.le_of_ble_eq_true rfl) dL_law_815 ⟨by omega, by omega⟩ (fun r815 τ815 hp815 => ?_)
  obtain ⟨hr2, hK2⟩ := hp815
  refine zv_eqi (y := zI (yEnd U.s0 v1 - yEnd U.s0 (v1 - 1))) hr2 ?_
  have hR2 : zRel τ815 (zDv.mk ni tx ec eo U S hh kp ou) := zRel_m hR1 hK2
  have ht2 : gI τ815 327 10 = zI 0 := hK2.2
  have hJ2 : gJ τ815 339 0 = gJ τ803 339 0 := hK2.1.2.1 339 0 (by decide)
  have hD2 : gD τ815 340 0 = gD τ803 340 0 := hK2.1.2.2 340 0
  refine zv_istore (lv' := [(7, .int (zI (yEnd U.s0 v1 - yEnd U.s0 (v1 - 1)))), (6, .int (zI 0)), (0, .ref b0), (1, .ref (ob E 0)), (2, .ref (ob E 327)), (3, .ref (ob E 339)), (4, .ref (ob E 340)), (5, .int (zI (i : Int)))]) C dL_law_818  (by decide) rfl ?_
  refine zv_aload_n C 4 dL_law_820 rfl rfl ?_
  refine zv_cviD (st := []) C (c_X11_thrown hfl E τ815) mX11_thrown kL_200 (by decide : kd 327 = 10) rfl rfl rfl ⟨rfl, rfl⟩ (show zfit (zrm 0 0) 1 room_1 = true from rfl) (Nat.le_of_ble_eq_true rfl) dL_law_821 ⟨by omega, by omega⟩ ?_
  refine zv_eqi (y := (zI 0)) (ht2) ?_
  refine zv_iload C 1 dL_law_824 rfl ?_
  refine zv_icmp_eqZ (tgt := 831) C (by omega) (by omega) dL_law_826 (by decide) (fun h826 => ?_) (fun h826 => ?_)
  · skip
    refine zv_iload C 1 dL_law_831 rfl ?_
    refine zv_if_neZ (tgt := 848) C (by omega) dL_law_833 (by decide) (fun h833 => absurd h833 (by decide)) (fun h833 => ?_)
    refine zv_aload_n C 5 dL_law_836 rfl rfl ?_
    refine zv_iconst (v := zI 0) C dL_law_837 rfl ?_
    refine zv_lald (j := 0) C (by decide : kd 339 = _) (zI_ix (by omega)) (by decide) dL_law_838 ?_
    refine zv_eql (y := ((zI (yEnd U.s0 v1 - yEnd U.s0 (v1 - 1))).toInt64)) (hJ2.trans ho9) ?_
    refine zv_iload C 0 dL_law_839 rfl ?_
    refine zv_i2l C dL_law_841 ?_
    refine zv_lc_eq (tgt := 848) C dL_law_842 dL_law_843 (by decide) (fun h842 => ?_) (fun h842 => ?_)
    · skip
      refine zv_goto (tgt := 3624) C dL_law_848 (by decide) ?_
      refine zv_sub (lv' := [(0, .ref b0), (1, .ref (ob E 0)), (2, .ref (ob E 327)), (3, .ref (ob E 339)), (4, .ref (ob E 340)), (5, .int (zI (i : Int)))]) [2, 3, 4, 5, 6, 7] (zcons rfl (zcons rfl (zcons rfl (zcons rfl (zcons rfl (zcons rfl rfl)))))) ?_
      exact kk _ _ _ _ (by omega) (by omega) hR2
    · exfalso
      exact h842 rfl
  · exfalso
    omega
set_option maxRecDepth 20000 in
theorem lw_daysOf_x1_x1 {p : Program} {l : Launch} {e : Env} {s : State} {m : MethodId} {args : Array Value} {below : List Frame} {meth : Method} {c : Code} {E : zE} {Q : State → Prop} {b0 L i ce sl : Nat} {xs : Nat → Int32} {σ : zS} (ni : Nat) (tx : Nat → Int) (ec : Nat) (eo : Int) (U : zSU) (S : zST) (hh : List zST) (kp : Option zST) (ou : List Nat) (v1 : Int) (W : zLW p l s m args meth c E b0 L xs) (hi : i + 6 ≤ L) (hcs : ce + 1 ≤ room_1.cells ∧ sl + 6 ≤ room_1.slots) (hR : zRel σ (zDv.mk ni tx ec eo U S hh kp ou)) (hx1 : xs (i + 1) = (zI v1)) (hyi0 : -2147483648 ≤ v1 ∧ v1 < 2147483648) (hno1 : ¬ (U.s0 ≤ v1 ∧ v1 ≤ U.s0 + 999))  (kk : zNx p l e s m args below meth c E Q b0 i ce sl) : zV p l e room_1 s m args below meth c 9 E Q ce sl σ 795 (lwL b0 i E) [] := by
  refine (?_ : zV p l e room_1 s m args below meth c 9 E Q ce sl σ 795 [(0, .ref b0), (1, .ref (ob E 0)), (2, .ref (ob E 327)), (3, .ref (ob E 339)), (4, .ref (ob E 340)), (5, .int (zI (i : Int)))] [])
  have C := W.2.1
  have hfl := W.1
  have hroom : room_1.cells = 601024 ∧ room_1.slots = 7293034 := ⟨rfl, rfl⟩
  refine zv_aload_n C 1 dL_law_795 rfl rfl ?_
  refine zv_aload_n C 0 dL_law_796 rfl rfl ?_
  refine zv_iload C 5 dL_law_797 rfl ?_
  refine zv_iconst (v := zI 1) C dL_law_799 rfl ?_
  refine zv_iaddZ C dL_law_800 ?_
  refine zv_sld (j := i + 1) (v := (zI v1)) C W.2.2.1 W.2.2.2.1 W.2.2.2.2.1 W.2.2.2.2.2 (zI_ix (by omega)) (by omega) hx1 dL_law_801 ?_
  refine zv_aload_n C 3 dL_law_802 rfl rfl ?_
  refine zv_cH (st := []) C (w_x1_X10_daysOf hfl E σ U v1 hR.1.2.2.1 (by first | assumption | omega) (by first | assumption | omega)) mL_daysOf kL_220 rfl ⟨rfl, rfl⟩ (show zfit (zrx 10 221) 4 room_1 = true from rfl) (Nat.le_of_ble_eq_true rfl) dL_law_803 ⟨by exact hcs.1, by exact hcs.2⟩ (fun r803 τ803 hp803 => ?_)
  obtain ⟨hr0, hP9⟩ := hp803
  refine zv_eqi (y := zI 1) hr0 ?_
  have hF9 : zFr 318 327 σ τ803 := by rw [hP9]; exact (by first | exact zFr_refl _ _ _ | exact zFr_rW (zFr_refl _ _ _) (by omega) | exact zFr_rW (zFr_rW (zFr_refl _ _ _) (by omega)) (by omega) | exact qW_f _ _ _ _ | exact qM_f _ _ _ _ _ | exact rW2_f _ _ _ _ _ | exact rW3_f _ _ _ _ _ | exact alW_f _ _ _ _ _ | (split <;> first | exact zFr_refl _ _ _ | exact bW_f _ _ _ _) | assumption)
  have hR1 : zRel τ803 (zDv.mk ni tx ec eo U S hh kp ou) := zRel_c hR hF9
  refine zv_istore (lv' := [(6, .int (zI 1)), (0, .ref b0), (1, .ref (ob E 0)), (2, .ref (ob E 327)), (3, .ref (ob E 339)), (4, .ref (ob E 340)), (5, .int (zI (i : Int)))]) C dL_law_806  (by decide) rfl ?_
  refine zv_aload_n C 3 dL_law_808 rfl rfl ?_
  refine zv_aload_n C 1 dL_law_809 rfl rfl ?_
  refine zv_iload C 6 dL_law_810 rfl ?_
  refine zv_iconst (v := zI 1) C dL_law_812 rfl ?_
  refine zv_iaddZ C dL_law_813 ?_
  refine zv_sld (j := i + 1) (v := (zI v1)) C W.2.2.1 W.2.2.2.1 W.2.2.2.2.1 W.2.2.2.2.2 (zI_ix (by omega)) (by omega) hx1 dL_law_814 ?_
  refine zv_cvi (st := []) C (x1_X11_daysOf hfl E τ803 σ U v1 hR1.2.2.2.1 hR.1.2.2.1 (by first | assumption | omega) (by first | assumption | omega)) mX11_daysOf kL_222 (by decide : kd 327 = 10) rfl rfl rfl ⟨rfl, rfl⟩ (show zfit (zrm 3 68) 2 room_1 = true from rfl) (Nat.le_of_ble_eq_true rfl) dL_law_815 ⟨by omega, by omega⟩ (fun r815 τ815 hp815 => ?_)
  obtain ⟨hr2, hK2⟩ := hp815
  refine zv_eqi (y := zI 0) hr2 ?_
  have hR2 : zRel τ815 (zDv.mk ni tx ec eo U S hh kp ou) := zRel_m hR1 hK2
  have ht2 : gI τ815 327 10 = zI 1 := hK2.2
  have hJ2 : gJ τ815 339 0 = gJ τ803 339 0 := hK2.1.2.1 339 0 (by decide)
  have hD2 : gD τ815 340 0 = gD τ803 340 0 := hK2.1.2.2 340 0
  refine zv_istore (lv' := [(7, .int (zI 0)), (6, .int (zI 1)), (0, .ref b0), (1, .ref (ob E 0)), (2, .ref (ob E 327)), (3, .ref (ob E 339)), (4, .ref (ob E 340)), (5, .int (zI (i : Int)))]) C dL_law_818  (by decide) rfl ?_
  refine zv_aload_n C 4 dL_law_820 rfl rfl ?_
  refine zv_cviD (st := []) C (c_X11_thrown hfl E τ815) mX11_thrown kL_200 (by decide : kd 327 = 10) rfl rfl rfl ⟨rfl, rfl⟩ (show zfit (zrm 0 0) 1 room_1 = true from rfl) (Nat.le_of_ble_eq_true rfl) dL_law_821 ⟨by omega, by omega⟩ ?_
  refine zv_eqi (y := (zI 1)) (ht2) ?_
  refine zv_iload C 1 dL_law_824 rfl ?_
  refine zv_icmp_eqZ (tgt := 831) C (by omega) (by omega) dL_law_826 (by decide) (fun h826 => ?_) (fun h826 => ?_)
  · skip
    refine zv_iload C 1 dL_law_831 rfl ?_
    refine zv_if_neZ (tgt := 848) C (by omega) dL_law_833 (by decide) (fun h833 => ?_) (fun h833 => absurd h833 (by decide))
    refine zv_goto (tgt := 3624) C dL_law_848 (by decide) ?_
    refine zv_sub (lv' := [(0, .ref b0), (1, .ref (ob E 0)), (2, .ref (ob E 327)), (3, .ref (ob E 339)), (4, .ref (ob E 340)), (5, .int (zI (i : Int)))]) [2, 3, 4, 5, 6, 7] (zcons rfl (zcons rfl (zcons rfl (zcons rfl (zcons rfl (zcons rfl rfl)))))) ?_
    exact kk _ _ _ _ (by omega) (by omega) hR2
  · exfalso
    omega
theorem LK_11 {p : Program} {l : Launch} {e : Env} {s : State} {m : MethodId} {args : Array Value} {below : List Frame} {meth : Method} {c : Code} {E : zE} {Q : State → Prop} {b0 L i ce sl : Nat} {xs : Nat → Int32} {σ : zS} (ni : Nat) (tx : Nat → Int) (ec : Nat) (eo : Int) (U : zSU) (S : zST) (hh : List zST) (kp : Option zST) (ou : List Nat) (hFN : zFN) (W : zLW p l s m args meth c E b0 L xs) (hi : i + 6 ≤ L) (hcs : ce + 1 ≤ room_1.cells ∧ sl + 6 ≤ room_1.slots) (hR : zRel σ (zDv.mk ni tx ec eo U S hh kp ou)) (kk : zNx p l e s m args below meth c E Q b0 i ce sl) : zV p l e room_1 s m args below meth c 9 E Q ce sl σ 795 (lwL b0 i E) [] := by
  obtain ⟨v1, hx1, hv1⟩ := zI_cov (xs (i + 1))
  by_cases g1 : U.s0 ≤ v1 ∧ v1 ≤ U.s0 + 999
  case neg =>
    exact lw_daysOf_x1_x1 _ _ _ _ _ _ _ _ _ _ W hi hcs hR hx1 (by first | assumption | omega) (by first | assumption | omega) kk
  exact lw_daysOf_c_c _ _ _ _ _ _ _ _ _ _ W hi hcs hR hx1 (by first | assumption | omega) kk
theorem dL_law_851 : decode cL_law 851 = .ok (.aload_n 1, 1) := by decide +kernel
theorem dL_law_852 : decode cL_law 852 = .ok (.aload_n 0, 1) := by decide +kernel
theorem dL_law_853 : decode cL_law 853 = .ok (.iload 5, 2) := by decide +kernel
theorem dL_law_855 : decode cL_law 855 = .ok (.iconst 1, 1) := by decide +kernel
theorem dL_law_856 : decode cL_law 856 = .ok (.iadd, 1) := by decide +kernel
theorem dL_law_857 : decode cL_law 857 = .ok (.iaload, 1) := by decide +kernel
theorem dL_law_858 : decode cL_law 858 = .ok (.aload_n 3, 1) := by decide +kernel
theorem dL_law_859 : decode cL_law 859 = .ok (.invokestatic 223, 3) := by decide +kernel
theorem dL_law_862 : decode cL_law 862 = .ok (.istore 6, 2) := by decide +kernel
theorem dL_law_864 : decode cL_law 864 = .ok (.aload_n 2, 1) := by decide +kernel
theorem dL_law_865 : decode cL_law 865 = .ok (.aload_n 0, 1) := by decide +kernel
theorem dL_law_866 : decode cL_law 866 = .ok (.iload 5, 2) := by decide +kernel
theorem dL_law_868 : decode cL_law 868 = .ok (.iconst 1, 1) := by decide +kernel
theorem dL_law_869 : decode cL_law 869 = .ok (.iadd, 1) := by decide +kernel
theorem dL_law_870 : decode cL_law 870 = .ok (.iaload, 1) := by decide +kernel
theorem dL_law_871 : decode cL_law 871 = .ok (.invokevirtual 225, 3) := by decide +kernel
theorem dL_law_874 : decode cL_law 874 = .ok (.istore 7, 2) := by decide +kernel
theorem dL_law_876 : decode cL_law 876 = .ok (.aload_n 2, 1) := by decide +kernel
theorem dL_law_877 : decode cL_law 877 = .ok (.invokevirtual 200, 3) := by decide +kernel
theorem dL_law_880 : decode cL_law 880 = .ok (.iload 6, 2) := by decide +kernel
theorem dL_law_882 : decode cL_law 882 = .ok (.if_icmp .eq 5, 3) := by decide +kernel
theorem dL_law_885 : decode cL_law 885 = .ok (.iconst 0, 1) := by decide +kernel
theorem dL_law_886 : decode cL_law 886 = .ok (.ireturn, 1) := by decide +kernel
theorem dL_law_887 : decode cL_law 887 = .ok (.iload 6, 2) := by decide +kernel
theorem dL_law_889 : decode cL_law 889 = .ok (.ifCond .ne 15, 3) := by decide +kernel
theorem dL_law_892 : decode cL_law 892 = .ok (.aload_n 3, 1) := by decide +kernel
theorem dL_law_893 : decode cL_law 893 = .ok (.iconst 0, 1) := by decide +kernel
theorem dL_law_894 : decode cL_law 894 = .ok (.laload, 1) := by decide +kernel
theorem dL_law_895 : decode cL_law 895 = .ok (.iload 7, 2) := by decide +kernel
theorem dL_law_897 : decode cL_law 897 = .ok (.i2l, 1) := by decide +kernel
theorem dL_law_898 : decode cL_law 898 = .ok (.lcmp, 1) := by decide +kernel
theorem dL_law_899 : decode cL_law 899 = .ok (.ifCond .eq 5, 3) := by decide +kernel
theorem dL_law_902 : decode cL_law 902 = .ok (.iconst 0, 1) := by decide +kernel
theorem dL_law_903 : decode cL_law 903 = .ok (.ireturn, 1) := by decide +kernel
theorem dL_law_904 : decode cL_law 904 = .ok (.goto 2720, 3) := by decide +kernel
set_option maxRecDepth 20000 in
theorem lw_endOf_c_c {p : Program} {l : Launch} {e : Env} {s : State} {m : MethodId} {args : Array Value} {below : List Frame} {meth : Method} {c : Code} {E : zE} {Q : State → Prop} {b0 L i ce sl : Nat} {xs : Nat → Int32} {σ : zS} (ni : Nat) (tx : Nat → Int) (ec : Nat) (eo : Int) (U : zSU) (S : zST) (hh : List zST) (kp : Option zST) (ou : List Nat) (v1 : Int) (W : zLW p l s m args meth c E b0 L xs) (hi : i + 6 ≤ L) (hcs : ce + 1 ≤ room_1.cells ∧ sl + 6 ≤ room_1.slots) (hR : zRel σ (zDv.mk ni tx ec eo U S hh kp ou)) (hx1 : xs (i + 1) = (zI v1)) (hy0 : U.s0 ≤ v1 ∧ v1 ≤ U.s0 + 999)  (kk : zNx p l e s m args below meth c E Q b0 i ce sl) : zV p l e room_1 s m args below meth c 9 E Q ce sl σ 851 (lwL b0 i E) [] := by
  refine (?_ : zV p l e room_1 s m args below meth c 9 E Q ce sl σ 851 [(0, .ref b0), (1, .ref (ob E 0)), (2, .ref (ob E 327)), (3, .ref (ob E 339)), (4, .ref (ob E 340)), (5, .int (zI (i : Int)))] [])
  have C := W.2.1
  have hfl := W.1
  have hroom : room_1.cells = 601024 ∧ room_1.slots = 7293034 := ⟨rfl, rfl⟩
  refine zv_aload_n C 1 dL_law_851 rfl rfl ?_
  refine zv_aload_n C 0 dL_law_852 rfl rfl ?_
  refine zv_iload C 5 dL_law_853 rfl ?_
  refine zv_iconst (v := zI 1) C dL_law_855 rfl ?_
  refine zv_iaddZ C dL_law_856 ?_
  refine zv_sld (j := i + 1) (v := (zI v1)) C W.2.2.1 W.2.2.2.1 W.2.2.2.2.1 W.2.2.2.2.2 (zI_ix (by omega)) (by omega) hx1 dL_law_857 ?_
  refine zv_aload_n C 3 dL_law_858 rfl rfl ?_
  refine zv_cH (st := []) C (w_c_X10_endOf hfl E σ U v1 hR.1.2.2.1 (by first | assumption | omega)) mL_endOf kL_223 rfl ⟨rfl, rfl⟩ (show zfit (zrm 3 64) 4 room_1 = true from rfl) (Nat.le_of_ble_eq_true rfl) dL_law_859 ⟨by omega, by omega⟩ (fun r859 τ859 hp859 => ?_)
  obtain ⟨hr0, v9, υ9, hP9, hτ9⟩ := hp859
  refine zv_eqi (y := zI 0) hr0 ?_
  obtain ⟨hv9, hW9⟩ := hP9
  have hF9 : zFr 318 327 σ υ9 := by first | exact hW9 | (rw [hW9]; exact (by first | exact zFr_refl _ _ _ | exact zFr_rW (zFr_refl _ _ _) (by omega) | exact zFr_rW (zFr_rW (zFr_refl _ _ _) (by omega)) (by omega) | exact qW_f _ _ _ _ | exact qM_f _ _ _ _ _ | exact rW2_f _ _ _ _ _ | exact rW3_f _ _ _ _ _ | exact alW_f _ _ _ _ _ | (split <;> first | exact zFr_refl _ _ _ | exact bW_f _ _ _ _) | assumption))
  have hR1 : zRel τ859 (zDv.mk ni tx ec eo U S hh kp ou) := by rw [hτ9]; exact zRel_J (zRel_c hR hF9) _
  have ho9 : gJ τ859 339 0 = v9.toInt64 := by rw [hτ9, gJ_sJ, if_pos ⟨rfl, rfl⟩]
  rw [hv9] at ho9
  refine zv_istore (lv' := [(6, .int (zI 0)), (0, .ref b0), (1, .ref (ob E 0)), (2, .ref (ob E 327)), (3, .ref (ob E 339)), (4, .ref (ob E 340)), (5, .int (zI (i : Int)))]) C dL_law_862  (by decide) rfl ?_
  refine zv_aload_n C 3 dL_law_864 rfl rfl ?_
  refine zv_aload_n C 1 dL_law_865 rfl rfl ?_
  refine zv_iload C 6 dL_law_866 rfl ?_
  refine zv_iconst (v := zI 1) C dL_law_868 rfl ?_
  refine zv_iaddZ C dL_law_869 ?_
  refine zv_sld (j := i + 1) (v := (zI v1)) C W.2.2.1 W.2.2.2.1 W.2.2.2.2.1 W.2.2.2.2.2 (zI_ix (by omega)) (by omega) hx1 dL_law_870 ?_
  refine zv_cvi (st := []) C (c_X11_endOf hfl E τ859 σ U v1 hR1.2.2.2.1 hR.1.2.2.1 (by first | assumption | omega)) mX11_endOf kL_225 (by decide : kd 327 = 10) rfl rfl rfl ⟨rfl, rfl⟩ (show zfit (zrm 3 68) 2 room_1 = true from rfl) (Nat.le_of_ble_eq_true rfl) dL_law_871 ⟨by omega, by omega⟩ (fun r871 τ871 hp871 => ?_)
  obtain ⟨hr2, hK2⟩ := hp871
  refine zv_eqi (y := zI (yEnd U.s0 v1)) hr2 ?_
  have hR2 : zRel τ871 (zDv.mk ni tx ec eo U S hh kp ou) := zRel_m hR1 hK2
  have ht2 : gI τ871 327 10 = zI 0 := hK2.2
  have hJ2 : gJ τ871 339 0 = gJ τ859 339 0 := hK2.1.2.1 339 0 (by decide)
  have hD2 : gD τ871 340 0 = gD τ859 340 0 := hK2.1.2.2 340 0
  refine zv_istore (lv' := [(7, .int (zI (yEnd U.s0 v1))), (6, .int (zI 0)), (0, .ref b0), (1, .ref (ob E 0)), (2, .ref (ob E 327)), (3, .ref (ob E 339)), (4, .ref (ob E 340)), (5, .int (zI (i : Int)))]) C dL_law_874  (by decide) rfl ?_
  refine zv_aload_n C 4 dL_law_876 rfl rfl ?_
  refine zv_cviD (st := []) C (c_X11_thrown hfl E τ871) mX11_thrown kL_200 (by decide : kd 327 = 10) rfl rfl rfl ⟨rfl, rfl⟩ (show zfit (zrm 0 0) 1 room_1 = true from rfl) (Nat.le_of_ble_eq_true rfl) dL_law_877 ⟨by omega, by omega⟩ ?_
  refine zv_eqi (y := (zI 0)) (ht2) ?_
  refine zv_iload C 1 dL_law_880 rfl ?_
  refine zv_icmp_eqZ (tgt := 887) C (by omega) (by omega) dL_law_882 (by decide) (fun h882 => ?_) (fun h882 => ?_)
  · skip
    refine zv_iload C 1 dL_law_887 rfl ?_
    refine zv_if_neZ (tgt := 904) C (by omega) dL_law_889 (by decide) (fun h889 => absurd h889 (by decide)) (fun h889 => ?_)
    refine zv_aload_n C 5 dL_law_892 rfl rfl ?_
    refine zv_iconst (v := zI 0) C dL_law_893 rfl ?_
    refine zv_lald (j := 0) C (by decide : kd 339 = _) (zI_ix (by omega)) (by decide) dL_law_894 ?_
    refine zv_eql (y := ((zI (yEnd U.s0 v1)).toInt64)) (hJ2.trans ho9) ?_
    refine zv_iload C 0 dL_law_895 rfl ?_
    refine zv_i2l C dL_law_897 ?_
    refine zv_lc_eq (tgt := 904) C dL_law_898 dL_law_899 (by decide) (fun h898 => ?_) (fun h898 => ?_)
    · skip
      refine zv_goto (tgt := 3624) C dL_law_904 (by decide) ?_
      refine zv_sub (lv' := [(0, .ref b0), (1, .ref (ob E 0)), (2, .ref (ob E 327)), (3, .ref (ob E 339)), (4, .ref (ob E 340)), (5, .int (zI (i : Int)))]) [2, 3, 4, 5, 6, 7] (zcons rfl (zcons rfl (zcons rfl (zcons rfl (zcons rfl (zcons rfl rfl)))))) ?_
      exact kk _ _ _ _ (by omega) (by omega) hR2
    · exfalso
      exact h898 rfl
  · exfalso
    omega
set_option maxRecDepth 20000 in
theorem lw_endOf_x1_x1 {p : Program} {l : Launch} {e : Env} {s : State} {m : MethodId} {args : Array Value} {below : List Frame} {meth : Method} {c : Code} {E : zE} {Q : State → Prop} {b0 L i ce sl : Nat} {xs : Nat → Int32} {σ : zS} (ni : Nat) (tx : Nat → Int) (ec : Nat) (eo : Int) (U : zSU) (S : zST) (hh : List zST) (kp : Option zST) (ou : List Nat) (v1 : Int) (W : zLW p l s m args meth c E b0 L xs) (hi : i + 6 ≤ L) (hcs : ce + 1 ≤ room_1.cells ∧ sl + 6 ≤ room_1.slots) (hR : zRel σ (zDv.mk ni tx ec eo U S hh kp ou)) (hx1 : xs (i + 1) = (zI v1)) (hyi0 : -2147483648 ≤ v1 ∧ v1 < 2147483648) (hno1 : ¬ (U.s0 ≤ v1 ∧ v1 ≤ U.s0 + 999))  (kk : zNx p l e s m args below meth c E Q b0 i ce sl) : zV p l e room_1 s m args below meth c 9 E Q ce sl σ 851 (lwL b0 i E) [] := by
  refine (?_ : zV p l e room_1 s m args below meth c 9 E Q ce sl σ 851 [(0, .ref b0), (1, .ref (ob E 0)), (2, .ref (ob E 327)), (3, .ref (ob E 339)), (4, .ref (ob E 340)), (5, .int (zI (i : Int)))] [])
  have C := W.2.1
  have hfl := W.1
  have hroom : room_1.cells = 601024 ∧ room_1.slots = 7293034 := ⟨rfl, rfl⟩
  refine zv_aload_n C 1 dL_law_851 rfl rfl ?_
  refine zv_aload_n C 0 dL_law_852 rfl rfl ?_
  refine zv_iload C 5 dL_law_853 rfl ?_
  refine zv_iconst (v := zI 1) C dL_law_855 rfl ?_
  refine zv_iaddZ C dL_law_856 ?_
  refine zv_sld (j := i + 1) (v := (zI v1)) C W.2.2.1 W.2.2.2.1 W.2.2.2.2.1 W.2.2.2.2.2 (zI_ix (by omega)) (by omega) hx1 dL_law_857 ?_
  refine zv_aload_n C 3 dL_law_858 rfl rfl ?_
  refine zv_cH (st := []) C (w_x1_X10_endOf hfl E σ U v1 hR.1.2.2.1 (by first | assumption | omega) (by first | assumption | omega)) mL_endOf kL_223 rfl ⟨rfl, rfl⟩ (show zfit (zrx 10 221) 4 room_1 = true from rfl) (Nat.le_of_ble_eq_true rfl) dL_law_859 ⟨by exact hcs.1, by exact hcs.2⟩ (fun r859 τ859 hp859 => ?_)
  obtain ⟨hr0, hP9⟩ := hp859
  refine zv_eqi (y := zI 1) hr0 ?_
  have hF9 : zFr 318 327 σ τ859 := by rw [hP9]; exact (by first | exact zFr_refl _ _ _ | exact zFr_rW (zFr_refl _ _ _) (by omega) | exact zFr_rW (zFr_rW (zFr_refl _ _ _) (by omega)) (by omega) | exact qW_f _ _ _ _ | exact qM_f _ _ _ _ _ | exact rW2_f _ _ _ _ _ | exact rW3_f _ _ _ _ _ | exact alW_f _ _ _ _ _ | (split <;> first | exact zFr_refl _ _ _ | exact bW_f _ _ _ _) | assumption)
  have hR1 : zRel τ859 (zDv.mk ni tx ec eo U S hh kp ou) := zRel_c hR hF9
  refine zv_istore (lv' := [(6, .int (zI 1)), (0, .ref b0), (1, .ref (ob E 0)), (2, .ref (ob E 327)), (3, .ref (ob E 339)), (4, .ref (ob E 340)), (5, .int (zI (i : Int)))]) C dL_law_862  (by decide) rfl ?_
  refine zv_aload_n C 3 dL_law_864 rfl rfl ?_
  refine zv_aload_n C 1 dL_law_865 rfl rfl ?_
  refine zv_iload C 6 dL_law_866 rfl ?_
  refine zv_iconst (v := zI 1) C dL_law_868 rfl ?_
  refine zv_iaddZ C dL_law_869 ?_
  refine zv_sld (j := i + 1) (v := (zI v1)) C W.2.2.1 W.2.2.2.1 W.2.2.2.2.1 W.2.2.2.2.2 (zI_ix (by omega)) (by omega) hx1 dL_law_870 ?_
  refine zv_cvi (st := []) C (x1_X11_endOf hfl E τ859 σ U v1 hR1.2.2.2.1 hR.1.2.2.1 (by first | assumption | omega) (by first | assumption | omega)) mX11_endOf kL_225 (by decide : kd 327 = 10) rfl rfl rfl ⟨rfl, rfl⟩ (show zfit (zrm 3 68) 2 room_1 = true from rfl) (Nat.le_of_ble_eq_true rfl) dL_law_871 ⟨by omega, by omega⟩ (fun r871 τ871 hp871 => ?_)
  obtain ⟨hr2, hK2⟩ := hp871
  refine zv_eqi (y := zI 0) hr2 ?_
  have hR2 : zRel τ871 (zDv.mk ni tx ec eo U S hh kp ou) := zRel_m hR1 hK2
  have ht2 : gI τ871 327 10 = zI 1 := hK2.2
  have hJ2 : gJ τ871 339 0 = gJ τ859 339 0 := hK2.1.2.1 339 0 (by decide)
  have hD2 : gD τ871 340 0 = gD τ859 340 0 := hK2.1.2.2 340 0
  refine zv_istore (lv' := [(7, .int (zI 0)), (6, .int (zI 1)), (0, .ref b0), (1, .ref (ob E 0)), (2, .ref (ob E 327)), (3, .ref (ob E 339)), (4, .ref (ob E 340)), (5, .int (zI (i : Int)))]) C dL_law_874  (by decide) rfl ?_
  refine zv_aload_n C 4 dL_law_876 rfl rfl ?_
  refine zv_cviD (st := []) C (c_X11_thrown hfl E τ871) mX11_thrown kL_200 (by decide : kd 327 = 10) rfl rfl rfl ⟨rfl, rfl⟩ (show zfit (zrm 0 0) 1 room_1 = true from rfl) (Nat.le_of_ble_eq_true rfl) dL_law_877 ⟨by omega, by omega⟩ ?_
  refine zv_eqi (y := (zI 1)) (ht2) ?_
  refine zv_iload C 1 dL_law_880 rfl ?_
  refine zv_icmp_eqZ (tgt := 887) C (by omega) (by omega) dL_law_882 (by decide) (fun h882 => ?_) (fun h882 => ?_)
  · skip
    refine zv_iload C 1 dL_law_887 rfl ?_
    refine zv_if_neZ (tgt := 904) C (by omega) dL_law_889 (by decide) (fun h889 => ?_) (fun h889 => absurd h889 (by decide))
    refine zv_goto (tgt := 3624) C dL_law_904 (by decide) ?_
    refine zv_sub (lv' := [(0, .ref b0), (1, .ref (ob E 0)), (2, .ref (ob E 327)), (3, .ref (ob E 339)), (4, .ref (ob E 340)), (5, .int (zI (i : Int)))]) [2, 3, 4, 5, 6, 7] (zcons rfl (zcons rfl (zcons rfl (zcons rfl (zcons rfl (zcons rfl rfl)))))) ?_
    exact kk _ _ _ _ (by omega) (by omega) hR2
  · exfalso
    omega
theorem LK_12 {p : Program} {l : Launch} {e : Env} {s : State} {m : MethodId} {args : Array Value} {below : List Frame} {meth : Method} {c : Code} {E : zE} {Q : State → Prop} {b0 L i ce sl : Nat} {xs : Nat → Int32} {σ : zS} (ni : Nat) (tx : Nat → Int) (ec : Nat) (eo : Int) (U : zSU) (S : zST) (hh : List zST) (kp : Option zST) (ou : List Nat) (hFN : zFN) (W : zLW p l s m args meth c E b0 L xs) (hi : i + 6 ≤ L) (hcs : ce + 1 ≤ room_1.cells ∧ sl + 6 ≤ room_1.slots) (hR : zRel σ (zDv.mk ni tx ec eo U S hh kp ou)) (kk : zNx p l e s m args below meth c E Q b0 i ce sl) : zV p l e room_1 s m args below meth c 9 E Q ce sl σ 851 (lwL b0 i E) [] := by
  obtain ⟨v1, hx1, hv1⟩ := zI_cov (xs (i + 1))
  by_cases g1 : U.s0 ≤ v1 ∧ v1 ≤ U.s0 + 999
  case neg =>
    exact lw_endOf_x1_x1 _ _ _ _ _ _ _ _ _ _ W hi hcs hR hx1 (by first | assumption | omega) (by first | assumption | omega) kk
  exact lw_endOf_c_c _ _ _ _ _ _ _ _ _ _ W hi hcs hR hx1 (by first | assumption | omega) kk
theorem dL_law_907 : decode cL_law 907 = .ok (.aload_n 1, 1) := by decide +kernel
theorem dL_law_908 : decode cL_law 908 = .ok (.aload_n 0, 1) := by decide +kernel
theorem dL_law_909 : decode cL_law 909 = .ok (.iload 5, 2) := by decide +kernel
theorem dL_law_911 : decode cL_law 911 = .ok (.iconst 1, 1) := by decide +kernel
theorem dL_law_912 : decode cL_law 912 = .ok (.iadd, 1) := by decide +kernel
theorem dL_law_913 : decode cL_law 913 = .ok (.iaload, 1) := by decide +kernel
theorem dL_law_914 : decode cL_law 914 = .ok (.aload_n 3, 1) := by decide +kernel
theorem dL_law_915 : decode cL_law 915 = .ok (.invokestatic 226, 3) := by decide +kernel
theorem dL_law_918 : decode cL_law 918 = .ok (.istore 6, 2) := by decide +kernel
theorem dL_law_920 : decode cL_law 920 = .ok (.aload_n 2, 1) := by decide +kernel
theorem dL_law_921 : decode cL_law 921 = .ok (.aload_n 0, 1) := by decide +kernel
theorem dL_law_922 : decode cL_law 922 = .ok (.iload 5, 2) := by decide +kernel
theorem dL_law_924 : decode cL_law 924 = .ok (.iconst 1, 1) := by decide +kernel
theorem dL_law_925 : decode cL_law 925 = .ok (.iadd, 1) := by decide +kernel
theorem dL_law_926 : decode cL_law 926 = .ok (.iaload, 1) := by decide +kernel
theorem dL_law_927 : decode cL_law 927 = .ok (.invokevirtual 228, 3) := by decide +kernel
theorem dL_law_930 : decode cL_law 930 = .ok (.istore 7, 2) := by decide +kernel
theorem dL_law_932 : decode cL_law 932 = .ok (.aload_n 2, 1) := by decide +kernel
theorem dL_law_933 : decode cL_law 933 = .ok (.invokevirtual 200, 3) := by decide +kernel
theorem dL_law_936 : decode cL_law 936 = .ok (.iload 6, 2) := by decide +kernel
theorem dL_law_938 : decode cL_law 938 = .ok (.if_icmp .eq 5, 3) := by decide +kernel
theorem dL_law_941 : decode cL_law 941 = .ok (.iconst 0, 1) := by decide +kernel
theorem dL_law_942 : decode cL_law 942 = .ok (.ireturn, 1) := by decide +kernel
theorem dL_law_943 : decode cL_law 943 = .ok (.iload 6, 2) := by decide +kernel
theorem dL_law_945 : decode cL_law 945 = .ok (.ifCond .ne 15, 3) := by decide +kernel
theorem dL_law_948 : decode cL_law 948 = .ok (.aload_n 3, 1) := by decide +kernel
theorem dL_law_949 : decode cL_law 949 = .ok (.iconst 0, 1) := by decide +kernel
theorem dL_law_950 : decode cL_law 950 = .ok (.laload, 1) := by decide +kernel
theorem dL_law_951 : decode cL_law 951 = .ok (.iload 7, 2) := by decide +kernel
theorem dL_law_953 : decode cL_law 953 = .ok (.i2l, 1) := by decide +kernel
theorem dL_law_954 : decode cL_law 954 = .ok (.lcmp, 1) := by decide +kernel
theorem dL_law_955 : decode cL_law 955 = .ok (.ifCond .eq 5, 3) := by decide +kernel
theorem dL_law_958 : decode cL_law 958 = .ok (.iconst 0, 1) := by decide +kernel
theorem dL_law_959 : decode cL_law 959 = .ok (.ireturn, 1) := by decide +kernel
theorem dL_law_960 : decode cL_law 960 = .ok (.goto 2664, 3) := by decide +kernel
set_option maxRecDepth 20000 in
theorem lw_yearOf_c_c {p : Program} {l : Launch} {e : Env} {s : State} {m : MethodId} {args : Array Value} {below : List Frame} {meth : Method} {c : Code} {E : zE} {Q : State → Prop} {b0 L i ce sl : Nat} {xs : Nat → Int32} {σ : zS} (ni : Nat) (tx : Nat → Int) (ec : Nat) (eo : Int) (U : zSU) (S : zST) (hh : List zST) (kp : Option zST) (ou : List Nat) (v1 : Int) (W : zLW p l s m args meth c E b0 L xs) (hi : i + 6 ≤ L) (hcs : ce + 1 ≤ room_1.cells ∧ sl + 6 ≤ room_1.slots) (hR : zRel σ (zDv.mk ni tx ec eo U S hh kp ou)) (hx1 : xs (i + 1) = (zI v1)) (hy0 : 0 ≤ v1 ∧ v1 ≤ 400000)  (kk : zNx p l e s m args below meth c E Q b0 i ce sl) : zV p l e room_1 s m args below meth c 9 E Q ce sl σ 907 (lwL b0 i E) [] := by
  refine (?_ : zV p l e room_1 s m args below meth c 9 E Q ce sl σ 907 [(0, .ref b0), (1, .ref (ob E 0)), (2, .ref (ob E 327)), (3, .ref (ob E 339)), (4, .ref (ob E 340)), (5, .int (zI (i : Int)))] [])
  have C := W.2.1
  have hfl := W.1
  have hroom : room_1.cells = 601024 ∧ room_1.slots = 7293034 := ⟨rfl, rfl⟩
  refine zv_aload_n C 1 dL_law_907 rfl rfl ?_
  refine zv_aload_n C 0 dL_law_908 rfl rfl ?_
  refine zv_iload C 5 dL_law_909 rfl ?_
  refine zv_iconst (v := zI 1) C dL_law_911 rfl ?_
  refine zv_iaddZ C dL_law_912 ?_
  refine zv_sld (j := i + 1) (v := (zI v1)) C W.2.2.1 W.2.2.2.1 W.2.2.2.2.1 W.2.2.2.2.2 (zI_ix (by omega)) (by omega) hx1 dL_law_913 ?_
  refine zv_aload_n C 3 dL_law_914 rfl rfl ?_
  refine zv_cH (st := []) C (w_c_X10_yearOf hfl E σ U v1 hR.1.2.2.1 (by first | assumption | omega)) mL_yearOf kL_226 rfl ⟨rfl, rfl⟩ (show zfit (zrm 4 85) 4 room_1 = true from rfl) (Nat.le_of_ble_eq_true rfl) dL_law_915 ⟨by omega, by omega⟩ (fun r915 τ915 hp915 => ?_)
  obtain ⟨hr0, v9, υ9, hP9, hτ9⟩ := hp915
  refine zv_eqi (y := zI 0) hr0 ?_
  obtain ⟨Y9, hv9, hY9, hY8, hW9⟩ := hP9
  have hF9 : zFr 318 327 σ υ9 := by first | exact hW9 | (rw [hW9]; exact (by first | exact zFr_refl _ _ _ | exact zFr_rW (zFr_refl _ _ _) (by omega) | exact zFr_rW (zFr_rW (zFr_refl _ _ _) (by omega)) (by omega) | exact qW_f _ _ _ _ | exact qM_f _ _ _ _ _ | exact rW2_f _ _ _ _ _ | exact rW3_f _ _ _ _ _ | exact alW_f _ _ _ _ _ | (split <;> first | exact zFr_refl _ _ _ | exact bW_f _ _ _ _) | assumption))
  have hR1 : zRel τ915 (zDv.mk ni tx ec eo U S hh kp ou) := by rw [hτ9]; exact zRel_J (zRel_c hR hF9) _
  have ho9 : gJ τ915 339 0 = v9.toInt64 := by rw [hτ9, gJ_sJ, if_pos ⟨rfl, rfl⟩]
  rw [hv9] at ho9
  refine zv_istore (lv' := [(6, .int (zI 0)), (0, .ref b0), (1, .ref (ob E 0)), (2, .ref (ob E 327)), (3, .ref (ob E 339)), (4, .ref (ob E 340)), (5, .int (zI (i : Int)))]) C dL_law_918  (by decide) rfl ?_
  refine zv_aload_n C 3 dL_law_920 rfl rfl ?_
  refine zv_aload_n C 1 dL_law_921 rfl rfl ?_
  refine zv_iload C 6 dL_law_922 rfl ?_
  refine zv_iconst (v := zI 1) C dL_law_924 rfl ?_
  refine zv_iaddZ C dL_law_925 ?_
  refine zv_sld (j := i + 1) (v := (zI v1)) C W.2.2.1 W.2.2.2.1 W.2.2.2.2.1 W.2.2.2.2.2 (zI_ix (by omega)) (by omega) hx1 dL_law_926 ?_
  refine zv_cvi (st := []) C (c_X11_yearOf hfl E τ915 σ U v1 Y9 hR1.2.2.2.1 hR.1.2.2.1 (by first | assumption | omega) (⟨hY9, hY8⟩)) mX11_yearOf kL_228 (by decide : kd 327 = 10) rfl rfl rfl ⟨rfl, rfl⟩ (show zfit (zrm 2 45) 3 room_1 = true from rfl) (Nat.le_of_ble_eq_true rfl) dL_law_927 ⟨by omega, by omega⟩ (fun r927 τ927 hp927 => ?_)
  obtain ⟨hr2, hK2⟩ := hp927
  refine zv_eqi (y := zI Y9) hr2 ?_
  have hR2 : zRel τ927 (zDv.mk ni tx ec eo U S hh kp ou) := zRel_m hR1 hK2
  have ht2 : gI τ927 327 10 = zI 0 := hK2.2
  have hJ2 : gJ τ927 339 0 = gJ τ915 339 0 := hK2.1.2.1 339 0 (by decide)
  have hD2 : gD τ927 340 0 = gD τ915 340 0 := hK2.1.2.2 340 0
  refine zv_istore (lv' := [(7, .int (zI Y9)), (6, .int (zI 0)), (0, .ref b0), (1, .ref (ob E 0)), (2, .ref (ob E 327)), (3, .ref (ob E 339)), (4, .ref (ob E 340)), (5, .int (zI (i : Int)))]) C dL_law_930  (by decide) rfl ?_
  refine zv_aload_n C 4 dL_law_932 rfl rfl ?_
  refine zv_cviD (st := []) C (c_X11_thrown hfl E τ927) mX11_thrown kL_200 (by decide : kd 327 = 10) rfl rfl rfl ⟨rfl, rfl⟩ (show zfit (zrm 0 0) 1 room_1 = true from rfl) (Nat.le_of_ble_eq_true rfl) dL_law_933 ⟨by omega, by omega⟩ ?_
  refine zv_eqi (y := (zI 0)) (ht2) ?_
  refine zv_iload C 1 dL_law_936 rfl ?_
  refine zv_icmp_eqZ (tgt := 943) C (by omega) (by omega) dL_law_938 (by decide) (fun h938 => ?_) (fun h938 => ?_)
  · skip
    refine zv_iload C 1 dL_law_943 rfl ?_
    refine zv_if_neZ (tgt := 960) C (by omega) dL_law_945 (by decide) (fun h945 => absurd h945 (by decide)) (fun h945 => ?_)
    refine zv_aload_n C 5 dL_law_948 rfl rfl ?_
    refine zv_iconst (v := zI 0) C dL_law_949 rfl ?_
    refine zv_lald (j := 0) C (by decide : kd 339 = _) (zI_ix (by omega)) (by decide) dL_law_950 ?_
    refine zv_eql (y := ((zI Y9).toInt64)) (hJ2.trans ho9) ?_
    refine zv_iload C 0 dL_law_951 rfl ?_
    refine zv_i2l C dL_law_953 ?_
    refine zv_lc_eq (tgt := 960) C dL_law_954 dL_law_955 (by decide) (fun h954 => ?_) (fun h954 => ?_)
    · skip
      refine zv_goto (tgt := 3624) C dL_law_960 (by decide) ?_
      refine zv_sub (lv' := [(0, .ref b0), (1, .ref (ob E 0)), (2, .ref (ob E 327)), (3, .ref (ob E 339)), (4, .ref (ob E 340)), (5, .int (zI (i : Int)))]) [2, 3, 4, 5, 6, 7] (zcons rfl (zcons rfl (zcons rfl (zcons rfl (zcons rfl (zcons rfl rfl)))))) ?_
      exact kk _ _ _ _ (by omega) (by omega) hR2
    · exfalso
      exact h954 rfl
  · exfalso
    omega
set_option maxRecDepth 20000 in
theorem lw_yearOf_x1_x1 {p : Program} {l : Launch} {e : Env} {s : State} {m : MethodId} {args : Array Value} {below : List Frame} {meth : Method} {c : Code} {E : zE} {Q : State → Prop} {b0 L i ce sl : Nat} {xs : Nat → Int32} {σ : zS} (ni : Nat) (tx : Nat → Int) (ec : Nat) (eo : Int) (U : zSU) (S : zST) (hh : List zST) (kp : Option zST) (ou : List Nat) (v1 : Int) (W : zLW p l s m args meth c E b0 L xs) (hi : i + 6 ≤ L) (hcs : ce + 1 ≤ room_1.cells ∧ sl + 6 ≤ room_1.slots) (hR : zRel σ (zDv.mk ni tx ec eo U S hh kp ou)) (hx1 : xs (i + 1) = (zI v1)) (hyi0 : -2147483648 ≤ v1 ∧ v1 < 2147483648) (hno1 : ¬ (0 ≤ v1 ∧ v1 ≤ 400000))  (kk : zNx p l e s m args below meth c E Q b0 i ce sl) : zV p l e room_1 s m args below meth c 9 E Q ce sl σ 907 (lwL b0 i E) [] := by
  refine (?_ : zV p l e room_1 s m args below meth c 9 E Q ce sl σ 907 [(0, .ref b0), (1, .ref (ob E 0)), (2, .ref (ob E 327)), (3, .ref (ob E 339)), (4, .ref (ob E 340)), (5, .int (zI (i : Int)))] [])
  have C := W.2.1
  have hfl := W.1
  have hroom : room_1.cells = 601024 ∧ room_1.slots = 7293034 := ⟨rfl, rfl⟩
  refine zv_aload_n C 1 dL_law_907 rfl rfl ?_
  refine zv_aload_n C 0 dL_law_908 rfl rfl ?_
  refine zv_iload C 5 dL_law_909 rfl ?_
  refine zv_iconst (v := zI 1) C dL_law_911 rfl ?_
  refine zv_iaddZ C dL_law_912 ?_
  refine zv_sld (j := i + 1) (v := (zI v1)) C W.2.2.1 W.2.2.2.1 W.2.2.2.2.1 W.2.2.2.2.2 (zI_ix (by omega)) (by omega) hx1 dL_law_913 ?_
  refine zv_aload_n C 3 dL_law_914 rfl rfl ?_
  refine zv_cH (st := []) C (w_x1_X10_yearOf hfl E σ U v1 (by first | assumption | omega) (by first | assumption | omega)) mL_yearOf kL_226 rfl ⟨rfl, rfl⟩ (show zfit (zrx 10 221) 4 room_1 = true from rfl) (Nat.le_of_ble_eq_true rfl) dL_law_915 ⟨by exact hcs.1, by exact hcs.2⟩ (fun r915 τ915 hp915 => ?_)
  obtain ⟨hr0, hP9⟩ := hp915
  refine zv_eqi (y := zI 1) hr0 ?_
  have hF9 : zFr 318 327 σ τ915 := by rw [hP9]; exact (by first | exact zFr_refl _ _ _ | exact zFr_rW (zFr_refl _ _ _) (by omega) | exact zFr_rW (zFr_rW (zFr_refl _ _ _) (by omega)) (by omega) | exact qW_f _ _ _ _ | exact qM_f _ _ _ _ _ | exact rW2_f _ _ _ _ _ | exact rW3_f _ _ _ _ _ | exact alW_f _ _ _ _ _ | (split <;> first | exact zFr_refl _ _ _ | exact bW_f _ _ _ _) | assumption)
  have hR1 : zRel τ915 (zDv.mk ni tx ec eo U S hh kp ou) := zRel_c hR hF9
  refine zv_istore (lv' := [(6, .int (zI 1)), (0, .ref b0), (1, .ref (ob E 0)), (2, .ref (ob E 327)), (3, .ref (ob E 339)), (4, .ref (ob E 340)), (5, .int (zI (i : Int)))]) C dL_law_918  (by decide) rfl ?_
  refine zv_aload_n C 3 dL_law_920 rfl rfl ?_
  refine zv_aload_n C 1 dL_law_921 rfl rfl ?_
  refine zv_iload C 6 dL_law_922 rfl ?_
  refine zv_iconst (v := zI 1) C dL_law_924 rfl ?_
  refine zv_iaddZ C dL_law_925 ?_
  refine zv_sld (j := i + 1) (v := (zI v1)) C W.2.2.1 W.2.2.2.1 W.2.2.2.2.1 W.2.2.2.2.2 (zI_ix (by omega)) (by omega) hx1 dL_law_926 ?_
  refine zv_cvi (st := []) C (x1_X11_yearOf hfl E τ915 σ U v1 hR1.2.2.2.1 hR.1.2.2.1 (by first | assumption | omega) (by first | assumption | omega)) mX11_yearOf kL_228 (by decide : kd 327 = 10) rfl rfl rfl ⟨rfl, rfl⟩ (show zfit (zrm 2 45) 3 room_1 = true from rfl) (Nat.le_of_ble_eq_true rfl) dL_law_927 ⟨by omega, by omega⟩ (fun r927 τ927 hp927 => ?_)
  obtain ⟨hr2, hK2⟩ := hp927
  refine zv_eqi (y := zI 0) hr2 ?_
  have hR2 : zRel τ927 (zDv.mk ni tx ec eo U S hh kp ou) := zRel_m hR1 hK2
  have ht2 : gI τ927 327 10 = zI 1 := hK2.2
  have hJ2 : gJ τ927 339 0 = gJ τ915 339 0 := hK2.1.2.1 339 0 (by decide)
  have hD2 : gD τ927 340 0 = gD τ915 340 0 := hK2.1.2.2 340 0
  refine zv_istore (lv' := [(7, .int (zI 0)), (6, .int (zI 1)), (0, .ref b0), (1, .ref (ob E 0)), (2, .ref (ob E 327)), (3, .ref (ob E 339)), (4, .ref (ob E 340)), (5, .int (zI (i : Int)))]) C dL_law_930  (by decide) rfl ?_
  refine zv_aload_n C 4 dL_law_932 rfl rfl ?_
  refine zv_cviD (st := []) C (c_X11_thrown hfl E τ927) mX11_thrown kL_200 (by decide : kd 327 = 10) rfl rfl rfl ⟨rfl, rfl⟩ (show zfit (zrm 0 0) 1 room_1 = true from rfl) (Nat.le_of_ble_eq_true rfl) dL_law_933 ⟨by omega, by omega⟩ ?_
  refine zv_eqi (y := (zI 1)) (ht2) ?_
  refine zv_iload C 1 dL_law_936 rfl ?_
  refine zv_icmp_eqZ (tgt := 943) C (by omega) (by omega) dL_law_938 (by decide) (fun h938 => ?_) (fun h938 => ?_)
  · skip
    refine zv_iload C 1 dL_law_943 rfl ?_
    refine zv_if_neZ (tgt := 960) C (by omega) dL_law_945 (by decide) (fun h945 => ?_) (fun h945 => absurd h945 (by decide))
    refine zv_goto (tgt := 3624) C dL_law_960 (by decide) ?_
    refine zv_sub (lv' := [(0, .ref b0), (1, .ref (ob E 0)), (2, .ref (ob E 327)), (3, .ref (ob E 339)), (4, .ref (ob E 340)), (5, .int (zI (i : Int)))]) [2, 3, 4, 5, 6, 7] (zcons rfl (zcons rfl (zcons rfl (zcons rfl (zcons rfl (zcons rfl rfl)))))) ?_
    exact kk _ _ _ _ (by omega) (by omega) hR2
  · exfalso
    omega
theorem LK_13 {p : Program} {l : Launch} {e : Env} {s : State} {m : MethodId} {args : Array Value} {below : List Frame} {meth : Method} {c : Code} {E : zE} {Q : State → Prop} {b0 L i ce sl : Nat} {xs : Nat → Int32} {σ : zS} (ni : Nat) (tx : Nat → Int) (ec : Nat) (eo : Int) (U : zSU) (S : zST) (hh : List zST) (kp : Option zST) (ou : List Nat) (hFN : zFN) (W : zLW p l s m args meth c E b0 L xs) (hi : i + 6 ≤ L) (hcs : ce + 1 ≤ room_1.cells ∧ sl + 6 ≤ room_1.slots) (hR : zRel σ (zDv.mk ni tx ec eo U S hh kp ou)) (kk : zNx p l e s m args below meth c E Q b0 i ce sl) : zV p l e room_1 s m args below meth c 9 E Q ce sl σ 907 (lwL b0 i E) [] := by
  obtain ⟨v1, hx1, hv1⟩ := zI_cov (xs (i + 1))
  by_cases g1 : 0 ≤ v1 ∧ v1 ≤ 400000
  case neg =>
    exact lw_yearOf_x1_x1 _ _ _ _ _ _ _ _ _ _ W hi hcs hR hx1 (by first | assumption | omega) (by first | assumption | omega) kk
  exact lw_yearOf_c_c _ _ _ _ _ _ _ _ _ _ W hi hcs hR hx1 (by first | assumption | omega) kk
theorem dL_law_963 : decode cL_law 963 = .ok (.aload_n 1, 1) := by decide +kernel
theorem dL_law_964 : decode cL_law 964 = .ok (.aload_n 0, 1) := by decide +kernel
theorem dL_law_965 : decode cL_law 965 = .ok (.iload 5, 2) := by decide +kernel
theorem dL_law_967 : decode cL_law 967 = .ok (.iconst 1, 1) := by decide +kernel
theorem dL_law_968 : decode cL_law 968 = .ok (.iadd, 1) := by decide +kernel
theorem dL_law_969 : decode cL_law 969 = .ok (.iaload, 1) := by decide +kernel
theorem dL_law_970 : decode cL_law 970 = .ok (.aload_n 0, 1) := by decide +kernel
theorem dL_law_971 : decode cL_law 971 = .ok (.iload 5, 2) := by decide +kernel
theorem dL_law_973 : decode cL_law 973 = .ok (.iconst 2, 1) := by decide +kernel
theorem dL_law_974 : decode cL_law 974 = .ok (.iadd, 1) := by decide +kernel
theorem dL_law_975 : decode cL_law 975 = .ok (.iaload, 1) := by decide +kernel
theorem dL_law_976 : decode cL_law 976 = .ok (.aload_n 3, 1) := by decide +kernel
theorem dL_law_977 : decode cL_law 977 = .ok (.invokestatic 229, 3) := by decide +kernel
theorem dL_law_980 : decode cL_law 980 = .ok (.istore 6, 2) := by decide +kernel
theorem dL_law_982 : decode cL_law 982 = .ok (.aload_n 2, 1) := by decide +kernel
theorem dL_law_983 : decode cL_law 983 = .ok (.aload_n 0, 1) := by decide +kernel
theorem dL_law_984 : decode cL_law 984 = .ok (.iload 5, 2) := by decide +kernel
theorem dL_law_986 : decode cL_law 986 = .ok (.iconst 1, 1) := by decide +kernel
theorem dL_law_987 : decode cL_law 987 = .ok (.iadd, 1) := by decide +kernel
theorem dL_law_988 : decode cL_law 988 = .ok (.iaload, 1) := by decide +kernel
theorem dL_law_989 : decode cL_law 989 = .ok (.aload_n 0, 1) := by decide +kernel
theorem dL_law_990 : decode cL_law 990 = .ok (.iload 5, 2) := by decide +kernel
theorem dL_law_992 : decode cL_law 992 = .ok (.iconst 2, 1) := by decide +kernel
theorem dL_law_993 : decode cL_law 993 = .ok (.iadd, 1) := by decide +kernel
theorem dL_law_994 : decode cL_law 994 = .ok (.iaload, 1) := by decide +kernel
theorem dL_law_995 : decode cL_law 995 = .ok (.invokevirtual 231, 3) := by decide +kernel
theorem dL_law_998 : decode cL_law 998 = .ok (.lstore 7, 2) := by decide +kernel
theorem dL_law_1000 : decode cL_law 1000 = .ok (.aload_n 2, 1) := by decide +kernel
theorem dL_law_1001 : decode cL_law 1001 = .ok (.invokevirtual 200, 3) := by decide +kernel
theorem dL_law_1004 : decode cL_law 1004 = .ok (.iload 6, 2) := by decide +kernel
theorem dL_law_1006 : decode cL_law 1006 = .ok (.if_icmp .eq 5, 3) := by decide +kernel
theorem dL_law_1009 : decode cL_law 1009 = .ok (.iconst 0, 1) := by decide +kernel
theorem dL_law_1010 : decode cL_law 1010 = .ok (.ireturn, 1) := by decide +kernel
theorem dL_law_1011 : decode cL_law 1011 = .ok (.iload 6, 2) := by decide +kernel
theorem dL_law_1013 : decode cL_law 1013 = .ok (.ifCond .ne 14, 3) := by decide +kernel
theorem dL_law_1016 : decode cL_law 1016 = .ok (.aload_n 3, 1) := by decide +kernel
theorem dL_law_1017 : decode cL_law 1017 = .ok (.iconst 0, 1) := by decide +kernel
theorem dL_law_1018 : decode cL_law 1018 = .ok (.laload, 1) := by decide +kernel
theorem dL_law_1019 : decode cL_law 1019 = .ok (.lload 7, 2) := by decide +kernel
theorem dL_law_1021 : decode cL_law 1021 = .ok (.lcmp, 1) := by decide +kernel
theorem dL_law_1022 : decode cL_law 1022 = .ok (.ifCond .eq 5, 3) := by decide +kernel
theorem dL_law_1025 : decode cL_law 1025 = .ok (.iconst 0, 1) := by decide +kernel
theorem dL_law_1026 : decode cL_law 1026 = .ok (.ireturn, 1) := by decide +kernel
theorem dL_law_1027 : decode cL_law 1027 = .ok (.goto 2597, 3) := by decide +kernel
set_option maxRecDepth 20000 in
theorem lw_errorBy_c_c {p : Program} {l : Launch} {e : Env} {s : State} {m : MethodId} {args : Array Value} {below : List Frame} {meth : Method} {c : Code} {E : zE} {Q : State → Prop} {b0 L i ce sl : Nat} {xs : Nat → Int32} {σ : zS} (ni : Nat) (tx : Nat → Int) (ec : Nat) (eo : Int) (U : zSU) (S : zST) (hh : List zST) (kp : Option zST) (ou : List Nat) (n1 : Nat) (n2 : Nat) (W : zLW p l s m args meth c E b0 L xs) (hi : i + 6 ≤ L) (hcs : ce + 1 ≤ room_1.cells ∧ sl + 6 ≤ room_1.slots) (hR : zRel σ (zDv.mk ni tx ec eo U S hh kp ou)) (hx1 : xs (i + 1) = (zI (n1 : Int))) (hx2 : xs (i + 2) = (zI (n2 : Int))) (hi0 : n1 < U.nb) (hf1 : n2 ≤ 400000)  (kk : zNx p l e s m args below meth c E Q b0 i ce sl) : zV p l e room_1 s m args below meth c 9 E Q ce sl σ 963 (lwL b0 i E) [] := by
  refine (?_ : zV p l e room_1 s m args below meth c 9 E Q ce sl σ 963 [(0, .ref b0), (1, .ref (ob E 0)), (2, .ref (ob E 327)), (3, .ref (ob E 339)), (4, .ref (ob E 340)), (5, .int (zI (i : Int)))] [])
  have C := W.2.1
  have hfl := W.1
  have hroom : room_1.cells = 601024 ∧ room_1.slots = 7293034 := ⟨rfl, rfl⟩
  refine zv_aload_n C 1 dL_law_963 rfl rfl ?_
  refine zv_aload_n C 0 dL_law_964 rfl rfl ?_
  refine zv_iload C 5 dL_law_965 rfl ?_
  refine zv_iconst (v := zI 1) C dL_law_967 rfl ?_
  refine zv_iaddZ C dL_law_968 ?_
  refine zv_sld (j := i + 1) (v := (zI (n1 : Int))) C W.2.2.1 W.2.2.2.1 W.2.2.2.2.1 W.2.2.2.2.2 (zI_ix (by omega)) (by omega) hx1 dL_law_969 ?_
  refine zv_aload_n C 0 dL_law_970 rfl rfl ?_
  refine zv_iload C 5 dL_law_971 rfl ?_
  refine zv_iconst (v := zI 2) C dL_law_973 rfl ?_
  refine zv_iaddZ C dL_law_974 ?_
  refine zv_sld (j := i + 2) (v := (zI (n2 : Int))) C W.2.2.1 W.2.2.2.1 W.2.2.2.2.1 W.2.2.2.2.2 (zI_ix (by omega)) (by omega) hx2 dL_law_975 ?_
  refine zv_aload_n C 3 dL_law_976 rfl rfl ?_
  refine zv_cH (st := []) C (w_c_X10_errorBy hfl E σ U S n1 n2 hR.1.2.2.1 hR.1.2.2.2.1.1 (by first | assumption | omega) (by first | assumption | omega)) mL_errorBy kL_229 rfl ⟨rfl, rfl⟩ (show zfit (zrm 6 148) 5 room_1 = true from rfl) (Nat.le_of_ble_eq_true rfl) dL_law_977 ⟨by omega, by omega⟩ (fun r977 τ977 hp977 => ?_)
  obtain ⟨hr0, v9, υ9, hP9, hτ9⟩ := hp977
  refine zv_eqi (y := zI 0) hr0 ?_
  obtain ⟨hv9, hW9⟩ := hP9
  have hF9 : zFr 318 327 σ υ9 := by first | exact hW9 | (rw [hW9]; exact (by first | exact zFr_refl _ _ _ | exact zFr_rW (zFr_refl _ _ _) (by omega) | exact zFr_rW (zFr_rW (zFr_refl _ _ _) (by omega)) (by omega) | exact qW_f _ _ _ _ | exact qM_f _ _ _ _ _ | exact rW2_f _ _ _ _ _ | exact rW3_f _ _ _ _ _ | exact alW_f _ _ _ _ _ | (split <;> first | exact zFr_refl _ _ _ | exact bW_f _ _ _ _) | assumption))
  have hR1 : zRel τ977 (zDv.mk ni tx ec eo U S hh kp ou) := by rw [hτ9]; exact zRel_J (zRel_c hR hF9) _
  have ho9 : gJ τ977 339 0 = v9 := by rw [hτ9, gJ_sJ, if_pos ⟨rfl, rfl⟩]
  rw [hv9] at ho9
  refine zv_istore (lv' := [(6, .int (zI 0)), (0, .ref b0), (1, .ref (ob E 0)), (2, .ref (ob E 327)), (3, .ref (ob E 339)), (4, .ref (ob E 340)), (5, .int (zI (i : Int)))]) C dL_law_980  (by decide) rfl ?_
  refine zv_aload_n C 3 dL_law_982 rfl rfl ?_
  refine zv_aload_n C 1 dL_law_983 rfl rfl ?_
  refine zv_iload C 6 dL_law_984 rfl ?_
  refine zv_iconst (v := zI 1) C dL_law_986 rfl ?_
  refine zv_iaddZ C dL_law_987 ?_
  refine zv_sld (j := i + 1) (v := (zI (n1 : Int))) C W.2.2.1 W.2.2.2.1 W.2.2.2.2.1 W.2.2.2.2.2 (zI_ix (by omega)) (by omega) hx1 dL_law_988 ?_
  refine zv_aload_n C 1 dL_law_989 rfl rfl ?_
  refine zv_iload C 6 dL_law_990 rfl ?_
  refine zv_iconst (v := zI 2) C dL_law_992 rfl ?_
  refine zv_iaddZ C dL_law_993 ?_
  refine zv_sld (j := i + 2) (v := (zI (n2 : Int))) C W.2.2.1 W.2.2.2.1 W.2.2.2.2.1 W.2.2.2.2.2 (zI_ix (by omega)) (by omega) hx2 dL_law_994 ?_
  refine zv_cvl (st := []) C (c_X11_errorBy hfl E τ977 σ U S n1 n2 hR1.2.2.2.1 hR.1.2.2.1 hR1.2.2.2.2.2.1.1 hR.1.2.2.2.1.1 (by first | assumption | omega) (by first | assumption | omega)) mX11_errorBy kL_231 (by decide : kd 327 = 10) rfl rfl rfl ⟨rfl, rfl⟩ (show zfit (zrm 2 46) 3 room_1 = true from rfl) (Nat.le_of_ble_eq_true rfl) dL_law_995 ⟨by omega, by omega⟩ (fun r995 τ995 hp995 => ?_)
  obtain ⟨hr2, hK2⟩ := hp995
  refine zv_eql (y := zL (qArc U S n1 (n2 : Int))) hr2 ?_
  have hR2 : zRel τ995 (zDv.mk ni tx ec eo U S hh kp ou) := zRel_m hR1 hK2
  have ht2 : gI τ995 327 10 = zI 0 := hK2.2
  have hJ2 : gJ τ995 339 0 = gJ τ977 339 0 := hK2.1.2.1 339 0 (by decide)
  have hD2 : gD τ995 340 0 = gD τ977 340 0 := hK2.1.2.2 340 0
  refine zv_lstore (lv' := [(7, .long (zL (qArc U S n1 (n2 : Int)))), (6, .int (zI 0)), (0, .ref b0), (1, .ref (ob E 0)), (2, .ref (ob E 327)), (3, .ref (ob E 339)), (4, .ref (ob E 340)), (5, .int (zI (i : Int)))]) C dL_law_998  (by decide) rfl ?_
  refine zv_aload_n C 4 dL_law_1000 rfl rfl ?_
  refine zv_cviD (st := []) C (c_X11_thrown hfl E τ995) mX11_thrown kL_200 (by decide : kd 327 = 10) rfl rfl rfl ⟨rfl, rfl⟩ (show zfit (zrm 0 0) 1 room_1 = true from rfl) (Nat.le_of_ble_eq_true rfl) dL_law_1001 ⟨by omega, by omega⟩ ?_
  refine zv_eqi (y := (zI 0)) (ht2) ?_
  refine zv_iload C 1 dL_law_1004 rfl ?_
  refine zv_icmp_eqZ (tgt := 1011) C (by omega) (by omega) dL_law_1006 (by decide) (fun h1006 => ?_) (fun h1006 => ?_)
  · skip
    refine zv_iload C 1 dL_law_1011 rfl ?_
    refine zv_if_neZ (tgt := 1027) C (by omega) dL_law_1013 (by decide) (fun h1013 => absurd h1013 (by decide)) (fun h1013 => ?_)
    refine zv_aload_n C 5 dL_law_1016 rfl rfl ?_
    refine zv_iconst (v := zI 0) C dL_law_1017 rfl ?_
    refine zv_lald (j := 0) C (by decide : kd 339 = _) (zI_ix (by omega)) (by decide) dL_law_1018 ?_
    refine zv_eql (y := (zL (qArc U S n1 (n2 : Int)))) (hJ2.trans ho9) ?_
    refine zv_lload C 0 dL_law_1019 rfl ?_
    refine zv_lc_eq (tgt := 1027) C dL_law_1021 dL_law_1022 (by decide) (fun h1021 => ?_) (fun h1021 => ?_)
    · skip
      refine zv_goto (tgt := 3624) C dL_law_1027 (by decide) ?_
      refine zv_sub (lv' := [(0, .ref b0), (1, .ref (ob E 0)), (2, .ref (ob E 327)), (3, .ref (ob E 339)), (4, .ref (ob E 340)), (5, .int (zI (i : Int)))]) [2, 3, 4, 5, 6, 7] (zcons rfl (zcons rfl (zcons rfl (zcons rfl (zcons rfl (zcons rfl rfl)))))) ?_
      exact kk _ _ _ _ (by omega) (by omega) hR2
    · exfalso
      exact h1021 rfl
  · exfalso
    omega
set_option maxRecDepth 20000 in
theorem lw_errorBy_x1_x1 {p : Program} {l : Launch} {e : Env} {s : State} {m : MethodId} {args : Array Value} {below : List Frame} {meth : Method} {c : Code} {E : zE} {Q : State → Prop} {b0 L i ce sl : Nat} {xs : Nat → Int32} {σ : zS} (ni : Nat) (tx : Nat → Int) (ec : Nat) (eo : Int) (U : zSU) (S : zST) (hh : List zST) (kp : Option zST) (ou : List Nat) (v1 : Int) (v2 : Int) (W : zLW p l s m args meth c E b0 L xs) (hi : i + 6 ≤ L) (hcs : ce + 1 ≤ room_1.cells ∧ sl + 6 ≤ room_1.slots) (hR : zRel σ (zDv.mk ni tx ec eo U S hh kp ou)) (hx1 : xs (i + 1) = (zI v1)) (hx2 : xs (i + 2) = (zI v2)) (hbi0 : -2147483648 ≤ v1 ∧ v1 < 2147483648) (hno1 : ¬ (0 ≤ v1 ∧ v1 < U.nb))  (kk : zNx p l e s m args below meth c E Q b0 i ce sl) : zV p l e room_1 s m args below meth c 9 E Q ce sl σ 963 (lwL b0 i E) [] := by
  refine (?_ : zV p l e room_1 s m args below meth c 9 E Q ce sl σ 963 [(0, .ref b0), (1, .ref (ob E 0)), (2, .ref (ob E 327)), (3, .ref (ob E 339)), (4, .ref (ob E 340)), (5, .int (zI (i : Int)))] [])
  have C := W.2.1
  have hfl := W.1
  have hroom : room_1.cells = 601024 ∧ room_1.slots = 7293034 := ⟨rfl, rfl⟩
  refine zv_aload_n C 1 dL_law_963 rfl rfl ?_
  refine zv_aload_n C 0 dL_law_964 rfl rfl ?_
  refine zv_iload C 5 dL_law_965 rfl ?_
  refine zv_iconst (v := zI 1) C dL_law_967 rfl ?_
  refine zv_iaddZ C dL_law_968 ?_
  refine zv_sld (j := i + 1) (v := (zI v1)) C W.2.2.1 W.2.2.2.1 W.2.2.2.2.1 W.2.2.2.2.2 (zI_ix (by omega)) (by omega) hx1 dL_law_969 ?_
  refine zv_aload_n C 0 dL_law_970 rfl rfl ?_
  refine zv_iload C 5 dL_law_971 rfl ?_
  refine zv_iconst (v := zI 2) C dL_law_973 rfl ?_
  refine zv_iaddZ C dL_law_974 ?_
  refine zv_sld (j := i + 2) (v := (zI v2)) C W.2.2.1 W.2.2.2.1 W.2.2.2.2.1 W.2.2.2.2.2 (zI_ix (by omega)) (by omega) hx2 dL_law_975 ?_
  refine zv_aload_n C 3 dL_law_976 rfl rfl ?_
  refine zv_cH (st := []) C (w_x1_X10_errorBy hfl E σ U v1 v2 hR.1.2.2.1 (by first | assumption | omega) (by first | assumption | omega)) mL_errorBy kL_229 rfl ⟨rfl, rfl⟩ (show zfit (zrx 10 222) 5 room_1 = true from rfl) (Nat.le_of_ble_eq_true rfl) dL_law_977 ⟨by exact hcs.1, by exact hcs.2⟩ (fun r977 τ977 hp977 => ?_)
  obtain ⟨hr0, hP9⟩ := hp977
  refine zv_eqi (y := zI 1) hr0 ?_
  have hF9 : zFr 318 327 σ τ977 := by rw [hP9]; exact (by first | exact zFr_refl _ _ _ | exact zFr_rW (zFr_refl _ _ _) (by omega) | exact zFr_rW (zFr_rW (zFr_refl _ _ _) (by omega)) (by omega) | exact qW_f _ _ _ _ | exact qM_f _ _ _ _ _ | exact rW2_f _ _ _ _ _ | exact rW3_f _ _ _ _ _ | exact alW_f _ _ _ _ _ | (split <;> first | exact zFr_refl _ _ _ | exact bW_f _ _ _ _) | assumption)
  have hR1 : zRel τ977 (zDv.mk ni tx ec eo U S hh kp ou) := zRel_c hR hF9
  refine zv_istore (lv' := [(6, .int (zI 1)), (0, .ref b0), (1, .ref (ob E 0)), (2, .ref (ob E 327)), (3, .ref (ob E 339)), (4, .ref (ob E 340)), (5, .int (zI (i : Int)))]) C dL_law_980  (by decide) rfl ?_
  refine zv_aload_n C 3 dL_law_982 rfl rfl ?_
  refine zv_aload_n C 1 dL_law_983 rfl rfl ?_
  refine zv_iload C 6 dL_law_984 rfl ?_
  refine zv_iconst (v := zI 1) C dL_law_986 rfl ?_
  refine zv_iaddZ C dL_law_987 ?_
  refine zv_sld (j := i + 1) (v := (zI v1)) C W.2.2.1 W.2.2.2.1 W.2.2.2.2.1 W.2.2.2.2.2 (zI_ix (by omega)) (by omega) hx1 dL_law_988 ?_
  refine zv_aload_n C 1 dL_law_989 rfl rfl ?_
  refine zv_iload C 6 dL_law_990 rfl ?_
  refine zv_iconst (v := zI 2) C dL_law_992 rfl ?_
  refine zv_iaddZ C dL_law_993 ?_
  refine zv_sld (j := i + 2) (v := (zI v2)) C W.2.2.1 W.2.2.2.1 W.2.2.2.2.1 W.2.2.2.2.2 (zI_ix (by omega)) (by omega) hx2 dL_law_994 ?_
  refine zv_cvl (st := []) C (x1_X11_errorBy hfl E τ977 σ U v1 v2 hR1.2.2.2.1 hR.1.2.2.1 (by first | assumption | omega) (by first | assumption | omega)) mX11_errorBy kL_231 (by decide : kd 327 = 10) rfl rfl rfl ⟨rfl, rfl⟩ (show zfit (zrm 2 46) 3 room_1 = true from rfl) (Nat.le_of_ble_eq_true rfl) dL_law_995 ⟨by omega, by omega⟩ (fun r995 τ995 hp995 => ?_)
  obtain ⟨hr2, hK2⟩ := hp995
  refine zv_eql (y := zL 0) hr2 ?_
  have hR2 : zRel τ995 (zDv.mk ni tx ec eo U S hh kp ou) := zRel_m hR1 hK2
  have ht2 : gI τ995 327 10 = zI 1 := hK2.2
  have hJ2 : gJ τ995 339 0 = gJ τ977 339 0 := hK2.1.2.1 339 0 (by decide)
  have hD2 : gD τ995 340 0 = gD τ977 340 0 := hK2.1.2.2 340 0
  refine zv_lstore (lv' := [(7, .long (zL 0)), (6, .int (zI 1)), (0, .ref b0), (1, .ref (ob E 0)), (2, .ref (ob E 327)), (3, .ref (ob E 339)), (4, .ref (ob E 340)), (5, .int (zI (i : Int)))]) C dL_law_998  (by decide) rfl ?_
  refine zv_aload_n C 4 dL_law_1000 rfl rfl ?_
  refine zv_cviD (st := []) C (c_X11_thrown hfl E τ995) mX11_thrown kL_200 (by decide : kd 327 = 10) rfl rfl rfl ⟨rfl, rfl⟩ (show zfit (zrm 0 0) 1 room_1 = true from rfl) (Nat.le_of_ble_eq_true rfl) dL_law_1001 ⟨by omega, by omega⟩ ?_
  refine zv_eqi (y := (zI 1)) (ht2) ?_
  refine zv_iload C 1 dL_law_1004 rfl ?_
  refine zv_icmp_eqZ (tgt := 1011) C (by omega) (by omega) dL_law_1006 (by decide) (fun h1006 => ?_) (fun h1006 => ?_)
  · skip
    refine zv_iload C 1 dL_law_1011 rfl ?_
    refine zv_if_neZ (tgt := 1027) C (by omega) dL_law_1013 (by decide) (fun h1013 => ?_) (fun h1013 => absurd h1013 (by decide))
    refine zv_goto (tgt := 3624) C dL_law_1027 (by decide) ?_
    refine zv_sub (lv' := [(0, .ref b0), (1, .ref (ob E 0)), (2, .ref (ob E 327)), (3, .ref (ob E 339)), (4, .ref (ob E 340)), (5, .int (zI (i : Int)))]) [2, 3, 4, 5, 6, 7] (zcons rfl (zcons rfl (zcons rfl (zcons rfl (zcons rfl (zcons rfl rfl)))))) ?_
    exact kk _ _ _ _ (by omega) (by omega) hR2
  · exfalso
    omega
set_option maxRecDepth 20000 in
theorem lw_errorBy_x2_x2 {p : Program} {l : Launch} {e : Env} {s : State} {m : MethodId} {args : Array Value} {below : List Frame} {meth : Method} {c : Code} {E : zE} {Q : State → Prop} {b0 L i ce sl : Nat} {xs : Nat → Int32} {σ : zS} (ni : Nat) (tx : Nat → Int) (ec : Nat) (eo : Int) (U : zSU) (S : zST) (hh : List zST) (kp : Option zST) (ou : List Nat) (n1 : Nat) (v2 : Int) (W : zLW p l s m args meth c E b0 L xs) (hi : i + 6 ≤ L) (hcs : ce + 1 ≤ room_1.cells ∧ sl + 6 ≤ room_1.slots) (hR : zRel σ (zDv.mk ni tx ec eo U S hh kp ou)) (hx1 : xs (i + 1) = (zI (n1 : Int))) (hx2 : xs (i + 2) = (zI v2)) (hi0 : n1 < U.nb) (hyi1 : -2147483648 ≤ v2 ∧ v2 < 2147483648) (hno2 : ¬ (0 ≤ v2 ∧ v2 ≤ 400000))  (kk : zNx p l e s m args below meth c E Q b0 i ce sl) : zV p l e room_1 s m args below meth c 9 E Q ce sl σ 963 (lwL b0 i E) [] := by
  refine (?_ : zV p l e room_1 s m args below meth c 9 E Q ce sl σ 963 [(0, .ref b0), (1, .ref (ob E 0)), (2, .ref (ob E 327)), (3, .ref (ob E 339)), (4, .ref (ob E 340)), (5, .int (zI (i : Int)))] [])
  have C := W.2.1
  have hfl := W.1
  have hroom : room_1.cells = 601024 ∧ room_1.slots = 7293034 := ⟨rfl, rfl⟩
  refine zv_aload_n C 1 dL_law_963 rfl rfl ?_
  refine zv_aload_n C 0 dL_law_964 rfl rfl ?_
  refine zv_iload C 5 dL_law_965 rfl ?_
  refine zv_iconst (v := zI 1) C dL_law_967 rfl ?_
  refine zv_iaddZ C dL_law_968 ?_
  refine zv_sld (j := i + 1) (v := (zI (n1 : Int))) C W.2.2.1 W.2.2.2.1 W.2.2.2.2.1 W.2.2.2.2.2 (zI_ix (by omega)) (by omega) hx1 dL_law_969 ?_
  refine zv_aload_n C 0 dL_law_970 rfl rfl ?_
  refine zv_iload C 5 dL_law_971 rfl ?_
  refine zv_iconst (v := zI 2) C dL_law_973 rfl ?_
  refine zv_iaddZ C dL_law_974 ?_
  refine zv_sld (j := i + 2) (v := (zI v2)) C W.2.2.1 W.2.2.2.1 W.2.2.2.2.1 W.2.2.2.2.2 (zI_ix (by omega)) (by omega) hx2 dL_law_975 ?_
  refine zv_aload_n C 3 dL_law_976 rfl rfl ?_
  refine zv_cH (st := []) C (w_x2_X10_errorBy hfl E σ U S n1 v2 hR.1.2.2.1 (by first | assumption | omega) (by first | assumption | omega) (by first | assumption | omega)) mL_errorBy kL_229 rfl ⟨rfl, rfl⟩ (show zfit (zrx 10 222) 5 room_1 = true from rfl) (Nat.le_of_ble_eq_true rfl) dL_law_977 ⟨by exact hcs.1, by exact hcs.2⟩ (fun r977 τ977 hp977 => ?_)
  obtain ⟨hr0, hP9⟩ := hp977
  refine zv_eqi (y := zI 2) hr0 ?_
  have hF9 : zFr 318 327 σ τ977 := by rw [hP9]; exact (by first | exact zFr_refl _ _ _ | exact zFr_rW (zFr_refl _ _ _) (by omega) | exact zFr_rW (zFr_rW (zFr_refl _ _ _) (by omega)) (by omega) | exact qW_f _ _ _ _ | exact qM_f _ _ _ _ _ | exact rW2_f _ _ _ _ _ | exact rW3_f _ _ _ _ _ | exact alW_f _ _ _ _ _ | (split <;> first | exact zFr_refl _ _ _ | exact bW_f _ _ _ _) | assumption)
  have hR1 : zRel τ977 (zDv.mk ni tx ec eo U S hh kp ou) := zRel_c hR hF9
  refine zv_istore (lv' := [(6, .int (zI 2)), (0, .ref b0), (1, .ref (ob E 0)), (2, .ref (ob E 327)), (3, .ref (ob E 339)), (4, .ref (ob E 340)), (5, .int (zI (i : Int)))]) C dL_law_980  (by decide) rfl ?_
  refine zv_aload_n C 3 dL_law_982 rfl rfl ?_
  refine zv_aload_n C 1 dL_law_983 rfl rfl ?_
  refine zv_iload C 6 dL_law_984 rfl ?_
  refine zv_iconst (v := zI 1) C dL_law_986 rfl ?_
  refine zv_iaddZ C dL_law_987 ?_
  refine zv_sld (j := i + 1) (v := (zI (n1 : Int))) C W.2.2.1 W.2.2.2.1 W.2.2.2.2.1 W.2.2.2.2.2 (zI_ix (by omega)) (by omega) hx1 dL_law_988 ?_
  refine zv_aload_n C 1 dL_law_989 rfl rfl ?_
  refine zv_iload C 6 dL_law_990 rfl ?_
  refine zv_iconst (v := zI 2) C dL_law_992 rfl ?_
  refine zv_iaddZ C dL_law_993 ?_
  refine zv_sld (j := i + 2) (v := (zI v2)) C W.2.2.1 W.2.2.2.1 W.2.2.2.2.1 W.2.2.2.2.2 (zI_ix (by omega)) (by omega) hx2 dL_law_994 ?_
  refine zv_cvl (st := []) C (x2_X11_errorBy hfl E τ977 σ U n1 v2 hR1.2.2.2.1 hR.1.2.2.1 (by first | assumption | omega) (by first | assumption | omega) (by first | assumption | omega)) mX11_errorBy kL_231 (by decide : kd 327 = 10) rfl rfl rfl ⟨rfl, rfl⟩ (show zfit (zrm 2 46) 3 room_1 = true from rfl) (Nat.le_of_ble_eq_true rfl) dL_law_995 ⟨by omega, by omega⟩ (fun r995 τ995 hp995 => ?_)
  obtain ⟨hr2, hK2⟩ := hp995
  refine zv_eql (y := zL 0) hr2 ?_
  have hR2 : zRel τ995 (zDv.mk ni tx ec eo U S hh kp ou) := zRel_m hR1 hK2
  have ht2 : gI τ995 327 10 = zI 2 := hK2.2
  have hJ2 : gJ τ995 339 0 = gJ τ977 339 0 := hK2.1.2.1 339 0 (by decide)
  have hD2 : gD τ995 340 0 = gD τ977 340 0 := hK2.1.2.2 340 0
  refine zv_lstore (lv' := [(7, .long (zL 0)), (6, .int (zI 2)), (0, .ref b0), (1, .ref (ob E 0)), (2, .ref (ob E 327)), (3, .ref (ob E 339)), (4, .ref (ob E 340)), (5, .int (zI (i : Int)))]) C dL_law_998  (by decide) rfl ?_
  refine zv_aload_n C 4 dL_law_1000 rfl rfl ?_
  refine zv_cviD (st := []) C (c_X11_thrown hfl E τ995) mX11_thrown kL_200 (by decide : kd 327 = 10) rfl rfl rfl ⟨rfl, rfl⟩ (show zfit (zrm 0 0) 1 room_1 = true from rfl) (Nat.le_of_ble_eq_true rfl) dL_law_1001 ⟨by omega, by omega⟩ ?_
  refine zv_eqi (y := (zI 2)) (ht2) ?_
  refine zv_iload C 1 dL_law_1004 rfl ?_
  refine zv_icmp_eqZ (tgt := 1011) C (by omega) (by omega) dL_law_1006 (by decide) (fun h1006 => ?_) (fun h1006 => ?_)
  · skip
    refine zv_iload C 1 dL_law_1011 rfl ?_
    refine zv_if_neZ (tgt := 1027) C (by omega) dL_law_1013 (by decide) (fun h1013 => ?_) (fun h1013 => absurd h1013 (by decide))
    refine zv_goto (tgt := 3624) C dL_law_1027 (by decide) ?_
    refine zv_sub (lv' := [(0, .ref b0), (1, .ref (ob E 0)), (2, .ref (ob E 327)), (3, .ref (ob E 339)), (4, .ref (ob E 340)), (5, .int (zI (i : Int)))]) [2, 3, 4, 5, 6, 7] (zcons rfl (zcons rfl (zcons rfl (zcons rfl (zcons rfl (zcons rfl rfl)))))) ?_
    exact kk _ _ _ _ (by omega) (by omega) hR2
  · exfalso
    omega
theorem LK_14 {p : Program} {l : Launch} {e : Env} {s : State} {m : MethodId} {args : Array Value} {below : List Frame} {meth : Method} {c : Code} {E : zE} {Q : State → Prop} {b0 L i ce sl : Nat} {xs : Nat → Int32} {σ : zS} (ni : Nat) (tx : Nat → Int) (ec : Nat) (eo : Int) (U : zSU) (S : zST) (hh : List zST) (kp : Option zST) (ou : List Nat) (hFN : zFN) (W : zLW p l s m args meth c E b0 L xs) (hi : i + 6 ≤ L) (hcs : ce + 1 ≤ room_1.cells ∧ sl + 6 ≤ room_1.slots) (hR : zRel σ (zDv.mk ni tx ec eo U S hh kp ou)) (kk : zNx p l e s m args below meth c E Q b0 i ce sl) : zV p l e room_1 s m args below meth c 9 E Q ce sl σ 963 (lwL b0 i E) [] := by
  obtain ⟨v1, hx1, hv1⟩ := zI_cov (xs (i + 1))
  obtain ⟨v2, hx2, hv2⟩ := zI_cov (xs (i + 2))
  by_cases g1 : 0 ≤ v1 ∧ v1 < U.nb
  case neg =>
    exact lw_errorBy_x1_x1 _ _ _ _ _ _ _ _ _ _ _ W hi hcs hR hx1 hx2 (by first | assumption | omega) (by first | assumption | omega) kk
  obtain ⟨n1, rfl⟩ := Int.eq_ofNat_of_zero_le (show 0 ≤ v1 by omega)
  by_cases g2 : 0 ≤ v2 ∧ v2 ≤ 400000
  case neg =>
    exact lw_errorBy_x2_x2 _ _ _ _ _ _ _ _ _ _ _ W hi hcs hR hx1 hx2 (by first | assumption | omega) (by first | assumption | omega) (by first | assumption | omega) kk
  obtain ⟨n2, rfl⟩ := Int.eq_ofNat_of_zero_le (show 0 ≤ v2 by omega)
  exact lw_errorBy_c_c _ _ _ _ _ _ _ _ _ _ _ W hi hcs hR hx1 hx2 (by first | assumption | omega) (by first | assumption | omega) kk
theorem dL_law_1030 : decode cL_law 1030 = .ok (.aload_n 1, 1) := by decide +kernel
theorem dL_law_1031 : decode cL_law 1031 = .ok (.aload_n 0, 1) := by decide +kernel
theorem dL_law_1032 : decode cL_law 1032 = .ok (.iload 5, 2) := by decide +kernel
theorem dL_law_1034 : decode cL_law 1034 = .ok (.iconst 1, 1) := by decide +kernel
theorem dL_law_1035 : decode cL_law 1035 = .ok (.iadd, 1) := by decide +kernel
theorem dL_law_1036 : decode cL_law 1036 = .ok (.iaload, 1) := by decide +kernel
theorem dL_law_1037 : decode cL_law 1037 = .ok (.aload_n 0, 1) := by decide +kernel
theorem dL_law_1038 : decode cL_law 1038 = .ok (.iload 5, 2) := by decide +kernel
theorem dL_law_1040 : decode cL_law 1040 = .ok (.iconst 2, 1) := by decide +kernel
theorem dL_law_1041 : decode cL_law 1041 = .ok (.iadd, 1) := by decide +kernel
theorem dL_law_1042 : decode cL_law 1042 = .ok (.iaload, 1) := by decide +kernel
theorem dL_law_1043 : decode cL_law 1043 = .ok (.aload_n 3, 1) := by decide +kernel
theorem dL_law_1044 : decode cL_law 1044 = .ok (.invokestatic 232, 3) := by decide +kernel
theorem dL_law_1047 : decode cL_law 1047 = .ok (.istore 6, 2) := by decide +kernel
theorem dL_law_1049 : decode cL_law 1049 = .ok (.aload_n 2, 1) := by decide +kernel
theorem dL_law_1050 : decode cL_law 1050 = .ok (.aload_n 0, 1) := by decide +kernel
theorem dL_law_1051 : decode cL_law 1051 = .ok (.iload 5, 2) := by decide +kernel
theorem dL_law_1053 : decode cL_law 1053 = .ok (.iconst 1, 1) := by decide +kernel
theorem dL_law_1054 : decode cL_law 1054 = .ok (.iadd, 1) := by decide +kernel
theorem dL_law_1055 : decode cL_law 1055 = .ok (.iaload, 1) := by decide +kernel
theorem dL_law_1056 : decode cL_law 1056 = .ok (.aload_n 0, 1) := by decide +kernel
theorem dL_law_1057 : decode cL_law 1057 = .ok (.iload 5, 2) := by decide +kernel
theorem dL_law_1059 : decode cL_law 1059 = .ok (.iconst 2, 1) := by decide +kernel
theorem dL_law_1060 : decode cL_law 1060 = .ok (.iadd, 1) := by decide +kernel
theorem dL_law_1061 : decode cL_law 1061 = .ok (.iaload, 1) := by decide +kernel
theorem dL_law_1062 : decode cL_law 1062 = .ok (.invokevirtual 234, 3) := by decide +kernel
theorem dL_law_1065 : decode cL_law 1065 = .ok (.lstore 7, 2) := by decide +kernel
theorem dL_law_1067 : decode cL_law 1067 = .ok (.aload_n 2, 1) := by decide +kernel
theorem dL_law_1068 : decode cL_law 1068 = .ok (.invokevirtual 200, 3) := by decide +kernel
theorem dL_law_1071 : decode cL_law 1071 = .ok (.iload 6, 2) := by decide +kernel
theorem dL_law_1073 : decode cL_law 1073 = .ok (.if_icmp .eq 5, 3) := by decide +kernel
theorem dL_law_1076 : decode cL_law 1076 = .ok (.iconst 0, 1) := by decide +kernel
theorem dL_law_1077 : decode cL_law 1077 = .ok (.ireturn, 1) := by decide +kernel
theorem dL_law_1078 : decode cL_law 1078 = .ok (.iload 6, 2) := by decide +kernel
theorem dL_law_1080 : decode cL_law 1080 = .ok (.ifCond .ne 14, 3) := by decide +kernel
theorem dL_law_1083 : decode cL_law 1083 = .ok (.aload_n 3, 1) := by decide +kernel
theorem dL_law_1084 : decode cL_law 1084 = .ok (.iconst 0, 1) := by decide +kernel
theorem dL_law_1085 : decode cL_law 1085 = .ok (.laload, 1) := by decide +kernel
theorem dL_law_1086 : decode cL_law 1086 = .ok (.lload 7, 2) := by decide +kernel
theorem dL_law_1088 : decode cL_law 1088 = .ok (.lcmp, 1) := by decide +kernel
theorem dL_law_1089 : decode cL_law 1089 = .ok (.ifCond .eq 5, 3) := by decide +kernel
theorem dL_law_1092 : decode cL_law 1092 = .ok (.iconst 0, 1) := by decide +kernel
theorem dL_law_1093 : decode cL_law 1093 = .ok (.ireturn, 1) := by decide +kernel
theorem dL_law_1094 : decode cL_law 1094 = .ok (.goto 2530, 3) := by decide +kernel
set_option maxRecDepth 20000 in
theorem lw_error_c_c {p : Program} {l : Launch} {e : Env} {s : State} {m : MethodId} {args : Array Value} {below : List Frame} {meth : Method} {c : Code} {E : zE} {Q : State → Prop} {b0 L i ce sl : Nat} {xs : Nat → Int32} {σ : zS} (ni : Nat) (tx : Nat → Int) (ec : Nat) (eo : Int) (U : zSU) (S : zST) (hh : List zST) (kp : Option zST) (ou : List Nat) (n1 : Nat) (v2 : Int) (W : zLW p l s m args meth c E b0 L xs) (hi : i + 6 ≤ L) (hcs : ce + 1 ≤ room_1.cells ∧ sl + 6 ≤ room_1.slots) (hR : zRel σ (zDv.mk ni tx ec eo U S hh kp ou)) (hx1 : xs (i + 1) = (zI (n1 : Int))) (hx2 : xs (i + 2) = (zI v2)) (hi0 : n1 < U.nb) (hy1 : U.s0 ≤ v2 ∧ v2 ≤ U.s0 + 999)  (kk : zNx p l e s m args below meth c E Q b0 i ce sl) : zV p l e room_1 s m args below meth c 9 E Q ce sl σ 1030 (lwL b0 i E) [] := by
  refine (?_ : zV p l e room_1 s m args below meth c 9 E Q ce sl σ 1030 [(0, .ref b0), (1, .ref (ob E 0)), (2, .ref (ob E 327)), (3, .ref (ob E 339)), (4, .ref (ob E 340)), (5, .int (zI (i : Int)))] [])
  have C := W.2.1
  have hfl := W.1
  have hroom : room_1.cells = 601024 ∧ room_1.slots = 7293034 := ⟨rfl, rfl⟩
  refine zv_aload_n C 1 dL_law_1030 rfl rfl ?_
  refine zv_aload_n C 0 dL_law_1031 rfl rfl ?_
  refine zv_iload C 5 dL_law_1032 rfl ?_
  refine zv_iconst (v := zI 1) C dL_law_1034 rfl ?_
  refine zv_iaddZ C dL_law_1035 ?_
  refine zv_sld (j := i + 1) (v := (zI (n1 : Int))) C W.2.2.1 W.2.2.2.1 W.2.2.2.2.1 W.2.2.2.2.2 (zI_ix (by omega)) (by omega) hx1 dL_law_1036 ?_
  refine zv_aload_n C 0 dL_law_1037 rfl rfl ?_
  refine zv_iload C 5 dL_law_1038 rfl ?_
  refine zv_iconst (v := zI 2) C dL_law_1040 rfl ?_
  refine zv_iaddZ C dL_law_1041 ?_
  refine zv_sld (j := i + 2) (v := (zI v2)) C W.2.2.1 W.2.2.2.1 W.2.2.2.2.1 W.2.2.2.2.2 (zI_ix (by omega)) (by omega) hx2 dL_law_1042 ?_
  refine zv_aload_n C 3 dL_law_1043 rfl rfl ?_
  refine zv_cH (st := []) C (w_c_X10_error hfl E σ U S n1 v2 hR.1.2.2.1 hR.1.2.2.2.1.1 (by first | assumption | omega) (by first | assumption | omega)) mL_error kL_232 rfl ⟨rfl, rfl⟩ (show zfit (zrm 7 170) 5 room_1 = true from rfl) (Nat.le_of_ble_eq_true rfl) dL_law_1044 ⟨by omega, by omega⟩ (fun r1044 τ1044 hp1044 => ?_)
  obtain ⟨hr0, v9, υ9, hP9, hτ9⟩ := hp1044
  refine zv_eqi (y := zI 0) hr0 ?_
  obtain ⟨hv9, hW9⟩ := hP9
  have hF9 : zFr 318 327 σ υ9 := by first | exact hW9 | (rw [hW9]; exact (by first | exact zFr_refl _ _ _ | exact zFr_rW (zFr_refl _ _ _) (by omega) | exact zFr_rW (zFr_rW (zFr_refl _ _ _) (by omega)) (by omega) | exact qW_f _ _ _ _ | exact qM_f _ _ _ _ _ | exact rW2_f _ _ _ _ _ | exact rW3_f _ _ _ _ _ | exact alW_f _ _ _ _ _ | (split <;> first | exact zFr_refl _ _ _ | exact bW_f _ _ _ _) | assumption))
  have hR1 : zRel τ1044 (zDv.mk ni tx ec eo U S hh kp ou) := by rw [hτ9]; exact zRel_J (zRel_c hR hF9) _
  have ho9 : gJ τ1044 339 0 = v9 := by rw [hτ9, gJ_sJ, if_pos ⟨rfl, rfl⟩]
  rw [hv9] at ho9
  refine zv_istore (lv' := [(6, .int (zI 0)), (0, .ref b0), (1, .ref (ob E 0)), (2, .ref (ob E 327)), (3, .ref (ob E 339)), (4, .ref (ob E 340)), (5, .int (zI (i : Int)))]) C dL_law_1047  (by decide) rfl ?_
  refine zv_aload_n C 3 dL_law_1049 rfl rfl ?_
  refine zv_aload_n C 1 dL_law_1050 rfl rfl ?_
  refine zv_iload C 6 dL_law_1051 rfl ?_
  refine zv_iconst (v := zI 1) C dL_law_1053 rfl ?_
  refine zv_iaddZ C dL_law_1054 ?_
  refine zv_sld (j := i + 1) (v := (zI (n1 : Int))) C W.2.2.1 W.2.2.2.1 W.2.2.2.2.1 W.2.2.2.2.2 (zI_ix (by omega)) (by omega) hx1 dL_law_1055 ?_
  refine zv_aload_n C 1 dL_law_1056 rfl rfl ?_
  refine zv_iload C 6 dL_law_1057 rfl ?_
  refine zv_iconst (v := zI 2) C dL_law_1059 rfl ?_
  refine zv_iaddZ C dL_law_1060 ?_
  refine zv_sld (j := i + 2) (v := (zI v2)) C W.2.2.1 W.2.2.2.1 W.2.2.2.2.1 W.2.2.2.2.2 (zI_ix (by omega)) (by omega) hx2 dL_law_1061 ?_
  refine zv_cvl (st := []) C (c_X11_error hfl E τ1044 σ U S n1 v2 hR1.2.2.2.1 hR.1.2.2.1 hR1.2.2.2.2.2.1.1 hR.1.2.2.2.1.1 (by first | assumption | omega) (by first | assumption | omega)) mX11_error kL_234 (by decide : kd 327 = 10) rfl rfl rfl ⟨rfl, rfl⟩ (show zfit (zrm 3 68) 3 room_1 = true from rfl) (Nat.le_of_ble_eq_true rfl) dL_law_1062 ⟨by omega, by omega⟩ (fun r1062 τ1062 hp1062 => ?_)
  obtain ⟨hr2, hK2⟩ := hp1062
  refine zv_eql (y := zL (qErr U S n1 v2)) hr2 ?_
  have hR2 : zRel τ1062 (zDv.mk ni tx ec eo U S hh kp ou) := zRel_m hR1 hK2
  have ht2 : gI τ1062 327 10 = zI 0 := hK2.2
  have hJ2 : gJ τ1062 339 0 = gJ τ1044 339 0 := hK2.1.2.1 339 0 (by decide)
  have hD2 : gD τ1062 340 0 = gD τ1044 340 0 := hK2.1.2.2 340 0
  refine zv_lstore (lv' := [(7, .long (zL (qErr U S n1 v2))), (6, .int (zI 0)), (0, .ref b0), (1, .ref (ob E 0)), (2, .ref (ob E 327)), (3, .ref (ob E 339)), (4, .ref (ob E 340)), (5, .int (zI (i : Int)))]) C dL_law_1065  (by decide) rfl ?_
  refine zv_aload_n C 4 dL_law_1067 rfl rfl ?_
  refine zv_cviD (st := []) C (c_X11_thrown hfl E τ1062) mX11_thrown kL_200 (by decide : kd 327 = 10) rfl rfl rfl ⟨rfl, rfl⟩ (show zfit (zrm 0 0) 1 room_1 = true from rfl) (Nat.le_of_ble_eq_true rfl) dL_law_1068 ⟨by omega, by omega⟩ ?_
  refine zv_eqi (y := (zI 0)) (ht2) ?_
  refine zv_iload C 1 dL_law_1071 rfl ?_
  refine zv_icmp_eqZ (tgt := 1078) C (by omega) (by omega) dL_law_1073 (by decide) (fun h1073 => ?_) (fun h1073 => ?_)
  · skip
    refine zv_iload C 1 dL_law_1078 rfl ?_
    refine zv_if_neZ (tgt := 1094) C (by omega) dL_law_1080 (by decide) (fun h1080 => absurd h1080 (by decide)) (fun h1080 => ?_)
    refine zv_aload_n C 5 dL_law_1083 rfl rfl ?_
    refine zv_iconst (v := zI 0) C dL_law_1084 rfl ?_
    refine zv_lald (j := 0) C (by decide : kd 339 = _) (zI_ix (by omega)) (by decide) dL_law_1085 ?_
    refine zv_eql (y := (zL (qErr U S n1 v2))) (hJ2.trans ho9) ?_
    refine zv_lload C 0 dL_law_1086 rfl ?_
    refine zv_lc_eq (tgt := 1094) C dL_law_1088 dL_law_1089 (by decide) (fun h1088 => ?_) (fun h1088 => ?_)
    · skip
      refine zv_goto (tgt := 3624) C dL_law_1094 (by decide) ?_
      refine zv_sub (lv' := [(0, .ref b0), (1, .ref (ob E 0)), (2, .ref (ob E 327)), (3, .ref (ob E 339)), (4, .ref (ob E 340)), (5, .int (zI (i : Int)))]) [2, 3, 4, 5, 6, 7] (zcons rfl (zcons rfl (zcons rfl (zcons rfl (zcons rfl (zcons rfl rfl)))))) ?_
      exact kk _ _ _ _ (by omega) (by omega) hR2
    · exfalso
      exact h1088 rfl
  · exfalso
    omega
set_option maxRecDepth 20000 in
theorem lw_error_x1_x1 {p : Program} {l : Launch} {e : Env} {s : State} {m : MethodId} {args : Array Value} {below : List Frame} {meth : Method} {c : Code} {E : zE} {Q : State → Prop} {b0 L i ce sl : Nat} {xs : Nat → Int32} {σ : zS} (ni : Nat) (tx : Nat → Int) (ec : Nat) (eo : Int) (U : zSU) (S : zST) (hh : List zST) (kp : Option zST) (ou : List Nat) (v1 : Int) (v2 : Int) (W : zLW p l s m args meth c E b0 L xs) (hi : i + 6 ≤ L) (hcs : ce + 1 ≤ room_1.cells ∧ sl + 6 ≤ room_1.slots) (hR : zRel σ (zDv.mk ni tx ec eo U S hh kp ou)) (hx1 : xs (i + 1) = (zI v1)) (hx2 : xs (i + 2) = (zI v2)) (hbi0 : -2147483648 ≤ v1 ∧ v1 < 2147483648) (hno1 : ¬ (0 ≤ v1 ∧ v1 < U.nb))  (kk : zNx p l e s m args below meth c E Q b0 i ce sl) : zV p l e room_1 s m args below meth c 9 E Q ce sl σ 1030 (lwL b0 i E) [] := by
  refine (?_ : zV p l e room_1 s m args below meth c 9 E Q ce sl σ 1030 [(0, .ref b0), (1, .ref (ob E 0)), (2, .ref (ob E 327)), (3, .ref (ob E 339)), (4, .ref (ob E 340)), (5, .int (zI (i : Int)))] [])
  have C := W.2.1
  have hfl := W.1
  have hroom : room_1.cells = 601024 ∧ room_1.slots = 7293034 := ⟨rfl, rfl⟩
  refine zv_aload_n C 1 dL_law_1030 rfl rfl ?_
  refine zv_aload_n C 0 dL_law_1031 rfl rfl ?_
  refine zv_iload C 5 dL_law_1032 rfl ?_
  refine zv_iconst (v := zI 1) C dL_law_1034 rfl ?_
  refine zv_iaddZ C dL_law_1035 ?_
  refine zv_sld (j := i + 1) (v := (zI v1)) C W.2.2.1 W.2.2.2.1 W.2.2.2.2.1 W.2.2.2.2.2 (zI_ix (by omega)) (by omega) hx1 dL_law_1036 ?_
  refine zv_aload_n C 0 dL_law_1037 rfl rfl ?_
  refine zv_iload C 5 dL_law_1038 rfl ?_
  refine zv_iconst (v := zI 2) C dL_law_1040 rfl ?_
  refine zv_iaddZ C dL_law_1041 ?_
  refine zv_sld (j := i + 2) (v := (zI v2)) C W.2.2.1 W.2.2.2.1 W.2.2.2.2.1 W.2.2.2.2.2 (zI_ix (by omega)) (by omega) hx2 dL_law_1042 ?_
  refine zv_aload_n C 3 dL_law_1043 rfl rfl ?_
  refine zv_cH (st := []) C (w_x1_X10_error hfl E σ U v1 v2 hR.1.2.2.1 (by first | assumption | omega) (by first | assumption | omega)) mL_error kL_232 rfl ⟨rfl, rfl⟩ (show zfit (zrx 10 222) 5 room_1 = true from rfl) (Nat.le_of_ble_eq_true rfl) dL_law_1044 ⟨by exact hcs.1, by exact hcs.2⟩ (fun r1044 τ1044 hp1044 => ?_)
  obtain ⟨hr0, hP9⟩ := hp1044
  refine zv_eqi (y := zI 1) hr0 ?_
  have hF9 : zFr 318 327 σ τ1044 := by rw [hP9]; exact (by first | exact zFr_refl _ _ _ | exact zFr_rW (zFr_refl _ _ _) (by omega) | exact zFr_rW (zFr_rW (zFr_refl _ _ _) (by omega)) (by omega) | exact qW_f _ _ _ _ | exact qM_f _ _ _ _ _ | exact rW2_f _ _ _ _ _ | exact rW3_f _ _ _ _ _ | exact alW_f _ _ _ _ _ | (split <;> first | exact zFr_refl _ _ _ | exact bW_f _ _ _ _) | assumption)
  have hR1 : zRel τ1044 (zDv.mk ni tx ec eo U S hh kp ou) := zRel_c hR hF9
  refine zv_istore (lv' := [(6, .int (zI 1)), (0, .ref b0), (1, .ref (ob E 0)), (2, .ref (ob E 327)), (3, .ref (ob E 339)), (4, .ref (ob E 340)), (5, .int (zI (i : Int)))]) C dL_law_1047  (by decide) rfl ?_
  refine zv_aload_n C 3 dL_law_1049 rfl rfl ?_
  refine zv_aload_n C 1 dL_law_1050 rfl rfl ?_
  refine zv_iload C 6 dL_law_1051 rfl ?_
  refine zv_iconst (v := zI 1) C dL_law_1053 rfl ?_
  refine zv_iaddZ C dL_law_1054 ?_
  refine zv_sld (j := i + 1) (v := (zI v1)) C W.2.2.1 W.2.2.2.1 W.2.2.2.2.1 W.2.2.2.2.2 (zI_ix (by omega)) (by omega) hx1 dL_law_1055 ?_
  refine zv_aload_n C 1 dL_law_1056 rfl rfl ?_
  refine zv_iload C 6 dL_law_1057 rfl ?_
  refine zv_iconst (v := zI 2) C dL_law_1059 rfl ?_
  refine zv_iaddZ C dL_law_1060 ?_
  refine zv_sld (j := i + 2) (v := (zI v2)) C W.2.2.1 W.2.2.2.1 W.2.2.2.2.1 W.2.2.2.2.2 (zI_ix (by omega)) (by omega) hx2 dL_law_1061 ?_
  refine zv_cvl (st := []) C (x1_X11_error hfl E τ1044 σ U v1 v2 hR1.2.2.2.1 hR.1.2.2.1 (by first | assumption | omega) (by first | assumption | omega)) mX11_error kL_234 (by decide : kd 327 = 10) rfl rfl rfl ⟨rfl, rfl⟩ (show zfit (zrm 3 68) 3 room_1 = true from rfl) (Nat.le_of_ble_eq_true rfl) dL_law_1062 ⟨by omega, by omega⟩ (fun r1062 τ1062 hp1062 => ?_)
  obtain ⟨hr2, hK2⟩ := hp1062
  refine zv_eql (y := zL 0) hr2 ?_
  have hR2 : zRel τ1062 (zDv.mk ni tx ec eo U S hh kp ou) := zRel_m hR1 hK2
  have ht2 : gI τ1062 327 10 = zI 1 := hK2.2
  have hJ2 : gJ τ1062 339 0 = gJ τ1044 339 0 := hK2.1.2.1 339 0 (by decide)
  have hD2 : gD τ1062 340 0 = gD τ1044 340 0 := hK2.1.2.2 340 0
  refine zv_lstore (lv' := [(7, .long (zL 0)), (6, .int (zI 1)), (0, .ref b0), (1, .ref (ob E 0)), (2, .ref (ob E 327)), (3, .ref (ob E 339)), (4, .ref (ob E 340)), (5, .int (zI (i : Int)))]) C dL_law_1065  (by decide) rfl ?_
  refine zv_aload_n C 4 dL_law_1067 rfl rfl ?_
  refine zv_cviD (st := []) C (c_X11_thrown hfl E τ1062) mX11_thrown kL_200 (by decide : kd 327 = 10) rfl rfl rfl ⟨rfl, rfl⟩ (show zfit (zrm 0 0) 1 room_1 = true from rfl) (Nat.le_of_ble_eq_true rfl) dL_law_1068 ⟨by omega, by omega⟩ ?_
  refine zv_eqi (y := (zI 1)) (ht2) ?_
  refine zv_iload C 1 dL_law_1071 rfl ?_
  refine zv_icmp_eqZ (tgt := 1078) C (by omega) (by omega) dL_law_1073 (by decide) (fun h1073 => ?_) (fun h1073 => ?_)
  · skip
    refine zv_iload C 1 dL_law_1078 rfl ?_
    refine zv_if_neZ (tgt := 1094) C (by omega) dL_law_1080 (by decide) (fun h1080 => ?_) (fun h1080 => absurd h1080 (by decide))
    refine zv_goto (tgt := 3624) C dL_law_1094 (by decide) ?_
    refine zv_sub (lv' := [(0, .ref b0), (1, .ref (ob E 0)), (2, .ref (ob E 327)), (3, .ref (ob E 339)), (4, .ref (ob E 340)), (5, .int (zI (i : Int)))]) [2, 3, 4, 5, 6, 7] (zcons rfl (zcons rfl (zcons rfl (zcons rfl (zcons rfl (zcons rfl rfl)))))) ?_
    exact kk _ _ _ _ (by omega) (by omega) hR2
  · exfalso
    omega
set_option maxRecDepth 20000 in
theorem lw_error_x2_x2 {p : Program} {l : Launch} {e : Env} {s : State} {m : MethodId} {args : Array Value} {below : List Frame} {meth : Method} {c : Code} {E : zE} {Q : State → Prop} {b0 L i ce sl : Nat} {xs : Nat → Int32} {σ : zS} (ni : Nat) (tx : Nat → Int) (ec : Nat) (eo : Int) (U : zSU) (S : zST) (hh : List zST) (kp : Option zST) (ou : List Nat) (n1 : Nat) (v2 : Int) (W : zLW p l s m args meth c E b0 L xs) (hi : i + 6 ≤ L) (hcs : ce + 1 ≤ room_1.cells ∧ sl + 6 ≤ room_1.slots) (hR : zRel σ (zDv.mk ni tx ec eo U S hh kp ou)) (hx1 : xs (i + 1) = (zI (n1 : Int))) (hx2 : xs (i + 2) = (zI v2)) (hi0 : n1 < U.nb) (hyi1 : -2147483648 ≤ v2 ∧ v2 < 2147483648) (hno2 : ¬ (U.s0 ≤ v2 ∧ v2 ≤ U.s0 + 999))  (kk : zNx p l e s m args below meth c E Q b0 i ce sl) : zV p l e room_1 s m args below meth c 9 E Q ce sl σ 1030 (lwL b0 i E) [] := by
  refine (?_ : zV p l e room_1 s m args below meth c 9 E Q ce sl σ 1030 [(0, .ref b0), (1, .ref (ob E 0)), (2, .ref (ob E 327)), (3, .ref (ob E 339)), (4, .ref (ob E 340)), (5, .int (zI (i : Int)))] [])
  have C := W.2.1
  have hfl := W.1
  have hroom : room_1.cells = 601024 ∧ room_1.slots = 7293034 := ⟨rfl, rfl⟩
  refine zv_aload_n C 1 dL_law_1030 rfl rfl ?_
  refine zv_aload_n C 0 dL_law_1031 rfl rfl ?_
  refine zv_iload C 5 dL_law_1032 rfl ?_
  refine zv_iconst (v := zI 1) C dL_law_1034 rfl ?_
  refine zv_iaddZ C dL_law_1035 ?_
  refine zv_sld (j := i + 1) (v := (zI (n1 : Int))) C W.2.2.1 W.2.2.2.1 W.2.2.2.2.1 W.2.2.2.2.2 (zI_ix (by omega)) (by omega) hx1 dL_law_1036 ?_
  refine zv_aload_n C 0 dL_law_1037 rfl rfl ?_
  refine zv_iload C 5 dL_law_1038 rfl ?_
  refine zv_iconst (v := zI 2) C dL_law_1040 rfl ?_
  refine zv_iaddZ C dL_law_1041 ?_
  refine zv_sld (j := i + 2) (v := (zI v2)) C W.2.2.1 W.2.2.2.1 W.2.2.2.2.1 W.2.2.2.2.2 (zI_ix (by omega)) (by omega) hx2 dL_law_1042 ?_
  refine zv_aload_n C 3 dL_law_1043 rfl rfl ?_
  refine zv_cH (st := []) C (w_x2_X10_error hfl E σ U S n1 v2 hR.1.2.2.1 (by first | assumption | omega) (by first | assumption | omega) (by first | assumption | omega)) mL_error kL_232 rfl ⟨rfl, rfl⟩ (show zfit (zrx 10 222) 5 room_1 = true from rfl) (Nat.le_of_ble_eq_true rfl) dL_law_1044 ⟨by exact hcs.1, by exact hcs.2⟩ (fun r1044 τ1044 hp1044 => ?_)
  obtain ⟨hr0, hP9⟩ := hp1044
  refine zv_eqi (y := zI 2) hr0 ?_
  have hF9 : zFr 318 327 σ τ1044 := by rw [hP9]; exact (by first | exact zFr_refl _ _ _ | exact zFr_rW (zFr_refl _ _ _) (by omega) | exact zFr_rW (zFr_rW (zFr_refl _ _ _) (by omega)) (by omega) | exact qW_f _ _ _ _ | exact qM_f _ _ _ _ _ | exact rW2_f _ _ _ _ _ | exact rW3_f _ _ _ _ _ | exact alW_f _ _ _ _ _ | (split <;> first | exact zFr_refl _ _ _ | exact bW_f _ _ _ _) | assumption)
  have hR1 : zRel τ1044 (zDv.mk ni tx ec eo U S hh kp ou) := zRel_c hR hF9
  refine zv_istore (lv' := [(6, .int (zI 2)), (0, .ref b0), (1, .ref (ob E 0)), (2, .ref (ob E 327)), (3, .ref (ob E 339)), (4, .ref (ob E 340)), (5, .int (zI (i : Int)))]) C dL_law_1047  (by decide) rfl ?_
  refine zv_aload_n C 3 dL_law_1049 rfl rfl ?_
  refine zv_aload_n C 1 dL_law_1050 rfl rfl ?_
  refine zv_iload C 6 dL_law_1051 rfl ?_
  refine zv_iconst (v := zI 1) C dL_law_1053 rfl ?_
  refine zv_iaddZ C dL_law_1054 ?_
  refine zv_sld (j := i + 1) (v := (zI (n1 : Int))) C W.2.2.1 W.2.2.2.1 W.2.2.2.2.1 W.2.2.2.2.2 (zI_ix (by omega)) (by omega) hx1 dL_law_1055 ?_
  refine zv_aload_n C 1 dL_law_1056 rfl rfl ?_
  refine zv_iload C 6 dL_law_1057 rfl ?_
  refine zv_iconst (v := zI 2) C dL_law_1059 rfl ?_
  refine zv_iaddZ C dL_law_1060 ?_
  refine zv_sld (j := i + 2) (v := (zI v2)) C W.2.2.1 W.2.2.2.1 W.2.2.2.2.1 W.2.2.2.2.2 (zI_ix (by omega)) (by omega) hx2 dL_law_1061 ?_
  refine zv_cvl (st := []) C (x2_X11_error hfl E τ1044 σ U n1 v2 hR1.2.2.2.1 hR.1.2.2.1 (by first | assumption | omega) (by first | assumption | omega) (by first | assumption | omega)) mX11_error kL_234 (by decide : kd 327 = 10) rfl rfl rfl ⟨rfl, rfl⟩ (show zfit (zrm 3 68) 3 room_1 = true from rfl) (Nat.le_of_ble_eq_true rfl) dL_law_1062 ⟨by omega, by omega⟩ (fun r1062 τ1062 hp1062 => ?_)
  obtain ⟨hr2, hK2⟩ := hp1062
  refine zv_eql (y := zL 0) hr2 ?_
  have hR2 : zRel τ1062 (zDv.mk ni tx ec eo U S hh kp ou) := zRel_m hR1 hK2
  have ht2 : gI τ1062 327 10 = zI 2 := hK2.2
  have hJ2 : gJ τ1062 339 0 = gJ τ1044 339 0 := hK2.1.2.1 339 0 (by decide)
  have hD2 : gD τ1062 340 0 = gD τ1044 340 0 := hK2.1.2.2 340 0
  refine zv_lstore (lv' := [(7, .long (zL 0)), (6, .int (zI 2)), (0, .ref b0), (1, .ref (ob E 0)), (2, .ref (ob E 327)), (3, .ref (ob E 339)), (4, .ref (ob E 340)), (5, .int (zI (i : Int)))]) C dL_law_1065  (by decide) rfl ?_
  refine zv_aload_n C 4 dL_law_1067 rfl rfl ?_
  refine zv_cviD (st := []) C (c_X11_thrown hfl E τ1062) mX11_thrown kL_200 (by decide : kd 327 = 10) rfl rfl rfl ⟨rfl, rfl⟩ (show zfit (zrm 0 0) 1 room_1 = true from rfl) (Nat.le_of_ble_eq_true rfl) dL_law_1068 ⟨by omega, by omega⟩ ?_
  refine zv_eqi (y := (zI 2)) (ht2) ?_
  refine zv_iload C 1 dL_law_1071 rfl ?_
  refine zv_icmp_eqZ (tgt := 1078) C (by omega) (by omega) dL_law_1073 (by decide) (fun h1073 => ?_) (fun h1073 => ?_)
  · skip
    refine zv_iload C 1 dL_law_1078 rfl ?_
    refine zv_if_neZ (tgt := 1094) C (by omega) dL_law_1080 (by decide) (fun h1080 => ?_) (fun h1080 => absurd h1080 (by decide))
    refine zv_goto (tgt := 3624) C dL_law_1094 (by decide) ?_
    refine zv_sub (lv' := [(0, .ref b0), (1, .ref (ob E 0)), (2, .ref (ob E 327)), (3, .ref (ob E 339)), (4, .ref (ob E 340)), (5, .int (zI (i : Int)))]) [2, 3, 4, 5, 6, 7] (zcons rfl (zcons rfl (zcons rfl (zcons rfl (zcons rfl (zcons rfl rfl)))))) ?_
    exact kk _ _ _ _ (by omega) (by omega) hR2
  · exfalso
    omega
theorem LK_15 {p : Program} {l : Launch} {e : Env} {s : State} {m : MethodId} {args : Array Value} {below : List Frame} {meth : Method} {c : Code} {E : zE} {Q : State → Prop} {b0 L i ce sl : Nat} {xs : Nat → Int32} {σ : zS} (ni : Nat) (tx : Nat → Int) (ec : Nat) (eo : Int) (U : zSU) (S : zST) (hh : List zST) (kp : Option zST) (ou : List Nat) (hFN : zFN) (W : zLW p l s m args meth c E b0 L xs) (hi : i + 6 ≤ L) (hcs : ce + 1 ≤ room_1.cells ∧ sl + 6 ≤ room_1.slots) (hR : zRel σ (zDv.mk ni tx ec eo U S hh kp ou)) (kk : zNx p l e s m args below meth c E Q b0 i ce sl) : zV p l e room_1 s m args below meth c 9 E Q ce sl σ 1030 (lwL b0 i E) [] := by
  obtain ⟨v1, hx1, hv1⟩ := zI_cov (xs (i + 1))
  obtain ⟨v2, hx2, hv2⟩ := zI_cov (xs (i + 2))
  by_cases g1 : 0 ≤ v1 ∧ v1 < U.nb
  case neg =>
    exact lw_error_x1_x1 _ _ _ _ _ _ _ _ _ _ _ W hi hcs hR hx1 hx2 (by first | assumption | omega) (by first | assumption | omega) kk
  obtain ⟨n1, rfl⟩ := Int.eq_ofNat_of_zero_le (show 0 ≤ v1 by omega)
  by_cases g2 : U.s0 ≤ v2 ∧ v2 ≤ U.s0 + 999
  case neg =>
    exact lw_error_x2_x2 _ _ _ _ _ _ _ _ _ _ _ W hi hcs hR hx1 hx2 (by first | assumption | omega) (by first | assumption | omega) (by first | assumption | omega) kk
  exact lw_error_c_c _ _ _ _ _ _ _ _ _ _ _ W hi hcs hR hx1 hx2 (by first | assumption | omega) (by first | assumption | omega) kk
theorem dL_law_1097 : decode cL_law 1097 = .ok (.aload_n 1, 1) := by decide +kernel
theorem dL_law_1098 : decode cL_law 1098 = .ok (.aload_n 0, 1) := by decide +kernel
theorem dL_law_1099 : decode cL_law 1099 = .ok (.iload 5, 2) := by decide +kernel
theorem dL_law_1101 : decode cL_law 1101 = .ok (.iconst 1, 1) := by decide +kernel
theorem dL_law_1102 : decode cL_law 1102 = .ok (.iadd, 1) := by decide +kernel
theorem dL_law_1103 : decode cL_law 1103 = .ok (.iaload, 1) := by decide +kernel
theorem dL_law_1104 : decode cL_law 1104 = .ok (.aload_n 0, 1) := by decide +kernel
theorem dL_law_1105 : decode cL_law 1105 = .ok (.iload 5, 2) := by decide +kernel
theorem dL_law_1107 : decode cL_law 1107 = .ok (.iconst 2, 1) := by decide +kernel
theorem dL_law_1108 : decode cL_law 1108 = .ok (.iadd, 1) := by decide +kernel
theorem dL_law_1109 : decode cL_law 1109 = .ok (.iaload, 1) := by decide +kernel
theorem dL_law_1110 : decode cL_law 1110 = .ok (.aload_n 3, 1) := by decide +kernel
theorem dL_law_1111 : decode cL_law 1111 = .ok (.invokestatic 235, 3) := by decide +kernel
theorem dL_law_1114 : decode cL_law 1114 = .ok (.istore 6, 2) := by decide +kernel
theorem dL_law_1116 : decode cL_law 1116 = .ok (.aload_n 2, 1) := by decide +kernel
theorem dL_law_1117 : decode cL_law 1117 = .ok (.aload_n 0, 1) := by decide +kernel
theorem dL_law_1118 : decode cL_law 1118 = .ok (.iload 5, 2) := by decide +kernel
theorem dL_law_1120 : decode cL_law 1120 = .ok (.iconst 1, 1) := by decide +kernel
theorem dL_law_1121 : decode cL_law 1121 = .ok (.iadd, 1) := by decide +kernel
theorem dL_law_1122 : decode cL_law 1122 = .ok (.iaload, 1) := by decide +kernel
theorem dL_law_1123 : decode cL_law 1123 = .ok (.aload_n 0, 1) := by decide +kernel
theorem dL_law_1124 : decode cL_law 1124 = .ok (.iload 5, 2) := by decide +kernel
theorem dL_law_1126 : decode cL_law 1126 = .ok (.iconst 2, 1) := by decide +kernel
theorem dL_law_1127 : decode cL_law 1127 = .ok (.iadd, 1) := by decide +kernel
theorem dL_law_1128 : decode cL_law 1128 = .ok (.iaload, 1) := by decide +kernel
theorem dL_law_1129 : decode cL_law 1129 = .ok (.invokevirtual 237, 3) := by decide +kernel
theorem dL_law_1132 : decode cL_law 1132 = .ok (.istore 7, 2) := by decide +kernel
theorem dL_law_1134 : decode cL_law 1134 = .ok (.aload_n 2, 1) := by decide +kernel
theorem dL_law_1135 : decode cL_law 1135 = .ok (.invokevirtual 200, 3) := by decide +kernel
theorem dL_law_1138 : decode cL_law 1138 = .ok (.iload 6, 2) := by decide +kernel
theorem dL_law_1140 : decode cL_law 1140 = .ok (.if_icmp .eq 5, 3) := by decide +kernel
theorem dL_law_1143 : decode cL_law 1143 = .ok (.iconst 0, 1) := by decide +kernel
theorem dL_law_1144 : decode cL_law 1144 = .ok (.ireturn, 1) := by decide +kernel
theorem dL_law_1145 : decode cL_law 1145 = .ok (.iload 6, 2) := by decide +kernel
theorem dL_law_1147 : decode cL_law 1147 = .ok (.ifCond .ne 15, 3) := by decide +kernel
theorem dL_law_1150 : decode cL_law 1150 = .ok (.aload_n 3, 1) := by decide +kernel
theorem dL_law_1151 : decode cL_law 1151 = .ok (.iconst 0, 1) := by decide +kernel
theorem dL_law_1152 : decode cL_law 1152 = .ok (.laload, 1) := by decide +kernel
theorem dL_law_1153 : decode cL_law 1153 = .ok (.iload 7, 2) := by decide +kernel
theorem dL_law_1155 : decode cL_law 1155 = .ok (.i2l, 1) := by decide +kernel
theorem dL_law_1156 : decode cL_law 1156 = .ok (.lcmp, 1) := by decide +kernel
theorem dL_law_1157 : decode cL_law 1157 = .ok (.ifCond .eq 5, 3) := by decide +kernel
theorem dL_law_1160 : decode cL_law 1160 = .ok (.iconst 0, 1) := by decide +kernel
theorem dL_law_1161 : decode cL_law 1161 = .ok (.ireturn, 1) := by decide +kernel
theorem dL_law_1162 : decode cL_law 1162 = .ok (.goto 2462, 3) := by decide +kernel
set_option maxRecDepth 20000 in
theorem lw_angle_c_c {p : Program} {l : Launch} {e : Env} {s : State} {m : MethodId} {args : Array Value} {below : List Frame} {meth : Method} {c : Code} {E : zE} {Q : State → Prop} {b0 L i ce sl : Nat} {xs : Nat → Int32} {σ : zS} (ni : Nat) (tx : Nat → Int) (ec : Nat) (eo : Int) (U : zSU) (S : zST) (hh : List zST) (kp : Option zST) (ou : List Nat) (n1 : Nat) (n2 : Nat) (W : zLW p l s m args meth c E b0 L xs) (hi : i + 6 ≤ L) (hcs : ce + 1 ≤ room_1.cells ∧ sl + 6 ≤ room_1.slots) (hR : zRel σ (zDv.mk ni tx ec eo U S hh kp ou)) (hx1 : xs (i + 1) = (zI (n1 : Int))) (hx2 : xs (i + 2) = (zI (n2 : Int))) (hi0 : n1 < U.nb) (hf1 : n2 ≤ 400000)  (kk : zNx p l e s m args below meth c E Q b0 i ce sl) : zV p l e room_1 s m args below meth c 9 E Q ce sl σ 1097 (lwL b0 i E) [] := by
  refine (?_ : zV p l e room_1 s m args below meth c 9 E Q ce sl σ 1097 [(0, .ref b0), (1, .ref (ob E 0)), (2, .ref (ob E 327)), (3, .ref (ob E 339)), (4, .ref (ob E 340)), (5, .int (zI (i : Int)))] [])
  have C := W.2.1
  have hfl := W.1
  have hroom : room_1.cells = 601024 ∧ room_1.slots = 7293034 := ⟨rfl, rfl⟩
  refine zv_aload_n C 1 dL_law_1097 rfl rfl ?_
  refine zv_aload_n C 0 dL_law_1098 rfl rfl ?_
  refine zv_iload C 5 dL_law_1099 rfl ?_
  refine zv_iconst (v := zI 1) C dL_law_1101 rfl ?_
  refine zv_iaddZ C dL_law_1102 ?_
  refine zv_sld (j := i + 1) (v := (zI (n1 : Int))) C W.2.2.1 W.2.2.2.1 W.2.2.2.2.1 W.2.2.2.2.2 (zI_ix (by omega)) (by omega) hx1 dL_law_1103 ?_
  refine zv_aload_n C 0 dL_law_1104 rfl rfl ?_
  refine zv_iload C 5 dL_law_1105 rfl ?_
  refine zv_iconst (v := zI 2) C dL_law_1107 rfl ?_
  refine zv_iaddZ C dL_law_1108 ?_
  refine zv_sld (j := i + 2) (v := (zI (n2 : Int))) C W.2.2.1 W.2.2.2.1 W.2.2.2.2.1 W.2.2.2.2.2 (zI_ix (by omega)) (by omega) hx2 dL_law_1109 ?_
  refine zv_aload_n C 3 dL_law_1110 rfl rfl ?_
  refine zv_cH (st := []) C (w_c_X10_angle hfl E σ U S n1 n2 hR.1.2.2.1 hR.1.2.2.2.1.1 (by first | assumption | omega) (by first | assumption | omega)) mL_angle kL_235 rfl ⟨rfl, rfl⟩ (show zfit (zrm 5 127) 5 room_1 = true from rfl) (Nat.le_of_ble_eq_true rfl) dL_law_1111 ⟨by omega, by omega⟩ (fun r1111 τ1111 hp1111 => ?_)
  obtain ⟨hr0, v9, υ9, hP9, hτ9⟩ := hp1111
  refine zv_eqi (y := zI 0) hr0 ?_
  obtain ⟨hv9, hW9⟩ := hP9
  have hF9 : zFr 318 327 σ υ9 := by first | exact hW9 | (rw [hW9]; exact (by first | exact zFr_refl _ _ _ | exact zFr_rW (zFr_refl _ _ _) (by omega) | exact zFr_rW (zFr_rW (zFr_refl _ _ _) (by omega)) (by omega) | exact qW_f _ _ _ _ | exact qM_f _ _ _ _ _ | exact rW2_f _ _ _ _ _ | exact rW3_f _ _ _ _ _ | exact alW_f _ _ _ _ _ | (split <;> first | exact zFr_refl _ _ _ | exact bW_f _ _ _ _) | assumption))
  have hR1 : zRel τ1111 (zDv.mk ni tx ec eo U S hh kp ou) := by rw [hτ9]; exact zRel_J (zRel_c hR hF9) _
  have ho9 : gJ τ1111 339 0 = v9.toInt64 := by rw [hτ9, gJ_sJ, if_pos ⟨rfl, rfl⟩]
  rw [hv9] at ho9
  refine zv_istore (lv' := [(6, .int (zI 0)), (0, .ref b0), (1, .ref (ob E 0)), (2, .ref (ob E 327)), (3, .ref (ob E 339)), (4, .ref (ob E 340)), (5, .int (zI (i : Int)))]) C dL_law_1114  (by decide) rfl ?_
  refine zv_aload_n C 3 dL_law_1116 rfl rfl ?_
  refine zv_aload_n C 1 dL_law_1117 rfl rfl ?_
  refine zv_iload C 6 dL_law_1118 rfl ?_
  refine zv_iconst (v := zI 1) C dL_law_1120 rfl ?_
  refine zv_iaddZ C dL_law_1121 ?_
  refine zv_sld (j := i + 1) (v := (zI (n1 : Int))) C W.2.2.1 W.2.2.2.1 W.2.2.2.2.1 W.2.2.2.2.2 (zI_ix (by omega)) (by omega) hx1 dL_law_1122 ?_
  refine zv_aload_n C 1 dL_law_1123 rfl rfl ?_
  refine zv_iload C 6 dL_law_1124 rfl ?_
  refine zv_iconst (v := zI 2) C dL_law_1126 rfl ?_
  refine zv_iaddZ C dL_law_1127 ?_
  refine zv_sld (j := i + 2) (v := (zI (n2 : Int))) C W.2.2.1 W.2.2.2.1 W.2.2.2.2.1 W.2.2.2.2.2 (zI_ix (by omega)) (by omega) hx2 dL_law_1128 ?_
  refine zv_cvi (st := []) C (c_X11_angle hfl E τ1111 σ U S n1 n2 hR1.2.2.2.1 hR.1.2.2.1 hR1.2.2.2.2.2.1.1 hR.1.2.2.2.1.1 (by first | assumption | omega) (by first | assumption | omega)) mX11_angle kL_237 (by decide : kd 327 = 10) rfl rfl rfl ⟨rfl, rfl⟩ (show zfit (zrm 2 46) 3 room_1 = true from rfl) (Nat.le_of_ble_eq_true rfl) dL_law_1129 ⟨by omega, by omega⟩ (fun r1129 τ1129 hp1129 => ?_)
  obtain ⟨hr2, hK2⟩ := hp1129
  refine zv_eqi (y := zI (qAng U S n1 (n2 : Int))) hr2 ?_
  have hR2 : zRel τ1129 (zDv.mk ni tx ec eo U S hh kp ou) := zRel_m hR1 hK2
  have ht2 : gI τ1129 327 10 = zI 0 := hK2.2
  have hJ2 : gJ τ1129 339 0 = gJ τ1111 339 0 := hK2.1.2.1 339 0 (by decide)
  have hD2 : gD τ1129 340 0 = gD τ1111 340 0 := hK2.1.2.2 340 0
  refine zv_istore (lv' := [(7, .int (zI (qAng U S n1 (n2 : Int)))), (6, .int (zI 0)), (0, .ref b0), (1, .ref (ob E 0)), (2, .ref (ob E 327)), (3, .ref (ob E 339)), (4, .ref (ob E 340)), (5, .int (zI (i : Int)))]) C dL_law_1132  (by decide) rfl ?_
  refine zv_aload_n C 4 dL_law_1134 rfl rfl ?_
  refine zv_cviD (st := []) C (c_X11_thrown hfl E τ1129) mX11_thrown kL_200 (by decide : kd 327 = 10) rfl rfl rfl ⟨rfl, rfl⟩ (show zfit (zrm 0 0) 1 room_1 = true from rfl) (Nat.le_of_ble_eq_true rfl) dL_law_1135 ⟨by omega, by omega⟩ ?_
  refine zv_eqi (y := (zI 0)) (ht2) ?_
  refine zv_iload C 1 dL_law_1138 rfl ?_
  refine zv_icmp_eqZ (tgt := 1145) C (by omega) (by omega) dL_law_1140 (by decide) (fun h1140 => ?_) (fun h1140 => ?_)
  · skip
    refine zv_iload C 1 dL_law_1145 rfl ?_
    refine zv_if_neZ (tgt := 1162) C (by omega) dL_law_1147 (by decide) (fun h1147 => absurd h1147 (by decide)) (fun h1147 => ?_)
    refine zv_aload_n C 5 dL_law_1150 rfl rfl ?_
    refine zv_iconst (v := zI 0) C dL_law_1151 rfl ?_
    refine zv_lald (j := 0) C (by decide : kd 339 = _) (zI_ix (by omega)) (by decide) dL_law_1152 ?_
    refine zv_eql (y := ((zI (qAng U S n1 (n2 : Int))).toInt64)) (hJ2.trans ho9) ?_
    refine zv_iload C 0 dL_law_1153 rfl ?_
    refine zv_i2l C dL_law_1155 ?_
    refine zv_lc_eq (tgt := 1162) C dL_law_1156 dL_law_1157 (by decide) (fun h1156 => ?_) (fun h1156 => ?_)
    · skip
      refine zv_goto (tgt := 3624) C dL_law_1162 (by decide) ?_
      refine zv_sub (lv' := [(0, .ref b0), (1, .ref (ob E 0)), (2, .ref (ob E 327)), (3, .ref (ob E 339)), (4, .ref (ob E 340)), (5, .int (zI (i : Int)))]) [2, 3, 4, 5, 6, 7] (zcons rfl (zcons rfl (zcons rfl (zcons rfl (zcons rfl (zcons rfl rfl)))))) ?_
      exact kk _ _ _ _ (by omega) (by omega) hR2
    · exfalso
      exact h1156 rfl
  · exfalso
    omega
set_option maxRecDepth 20000 in
theorem lw_angle_x1_x1 {p : Program} {l : Launch} {e : Env} {s : State} {m : MethodId} {args : Array Value} {below : List Frame} {meth : Method} {c : Code} {E : zE} {Q : State → Prop} {b0 L i ce sl : Nat} {xs : Nat → Int32} {σ : zS} (ni : Nat) (tx : Nat → Int) (ec : Nat) (eo : Int) (U : zSU) (S : zST) (hh : List zST) (kp : Option zST) (ou : List Nat) (v1 : Int) (v2 : Int) (W : zLW p l s m args meth c E b0 L xs) (hi : i + 6 ≤ L) (hcs : ce + 1 ≤ room_1.cells ∧ sl + 6 ≤ room_1.slots) (hR : zRel σ (zDv.mk ni tx ec eo U S hh kp ou)) (hx1 : xs (i + 1) = (zI v1)) (hx2 : xs (i + 2) = (zI v2)) (hbi0 : -2147483648 ≤ v1 ∧ v1 < 2147483648) (hno1 : ¬ (0 ≤ v1 ∧ v1 < U.nb))  (kk : zNx p l e s m args below meth c E Q b0 i ce sl) : zV p l e room_1 s m args below meth c 9 E Q ce sl σ 1097 (lwL b0 i E) [] := by
  refine (?_ : zV p l e room_1 s m args below meth c 9 E Q ce sl σ 1097 [(0, .ref b0), (1, .ref (ob E 0)), (2, .ref (ob E 327)), (3, .ref (ob E 339)), (4, .ref (ob E 340)), (5, .int (zI (i : Int)))] [])
  have C := W.2.1
  have hfl := W.1
  have hroom : room_1.cells = 601024 ∧ room_1.slots = 7293034 := ⟨rfl, rfl⟩
  refine zv_aload_n C 1 dL_law_1097 rfl rfl ?_
  refine zv_aload_n C 0 dL_law_1098 rfl rfl ?_
  refine zv_iload C 5 dL_law_1099 rfl ?_
  refine zv_iconst (v := zI 1) C dL_law_1101 rfl ?_
  refine zv_iaddZ C dL_law_1102 ?_
  refine zv_sld (j := i + 1) (v := (zI v1)) C W.2.2.1 W.2.2.2.1 W.2.2.2.2.1 W.2.2.2.2.2 (zI_ix (by omega)) (by omega) hx1 dL_law_1103 ?_
  refine zv_aload_n C 0 dL_law_1104 rfl rfl ?_
  refine zv_iload C 5 dL_law_1105 rfl ?_
  refine zv_iconst (v := zI 2) C dL_law_1107 rfl ?_
  refine zv_iaddZ C dL_law_1108 ?_
  refine zv_sld (j := i + 2) (v := (zI v2)) C W.2.2.1 W.2.2.2.1 W.2.2.2.2.1 W.2.2.2.2.2 (zI_ix (by omega)) (by omega) hx2 dL_law_1109 ?_
  refine zv_aload_n C 3 dL_law_1110 rfl rfl ?_
  refine zv_cH (st := []) C (w_x1_X10_angle hfl E σ U v1 v2 hR.1.2.2.1 (by first | assumption | omega) (by first | assumption | omega)) mL_angle kL_235 rfl ⟨rfl, rfl⟩ (show zfit (zrx 10 222) 5 room_1 = true from rfl) (Nat.le_of_ble_eq_true rfl) dL_law_1111 ⟨by exact hcs.1, by exact hcs.2⟩ (fun r1111 τ1111 hp1111 => ?_)
  obtain ⟨hr0, hP9⟩ := hp1111
  refine zv_eqi (y := zI 1) hr0 ?_
  have hF9 : zFr 318 327 σ τ1111 := by rw [hP9]; exact (by first | exact zFr_refl _ _ _ | exact zFr_rW (zFr_refl _ _ _) (by omega) | exact zFr_rW (zFr_rW (zFr_refl _ _ _) (by omega)) (by omega) | exact qW_f _ _ _ _ | exact qM_f _ _ _ _ _ | exact rW2_f _ _ _ _ _ | exact rW3_f _ _ _ _ _ | exact alW_f _ _ _ _ _ | (split <;> first | exact zFr_refl _ _ _ | exact bW_f _ _ _ _) | assumption)
  have hR1 : zRel τ1111 (zDv.mk ni tx ec eo U S hh kp ou) := zRel_c hR hF9
  refine zv_istore (lv' := [(6, .int (zI 1)), (0, .ref b0), (1, .ref (ob E 0)), (2, .ref (ob E 327)), (3, .ref (ob E 339)), (4, .ref (ob E 340)), (5, .int (zI (i : Int)))]) C dL_law_1114  (by decide) rfl ?_
  refine zv_aload_n C 3 dL_law_1116 rfl rfl ?_
  refine zv_aload_n C 1 dL_law_1117 rfl rfl ?_
  refine zv_iload C 6 dL_law_1118 rfl ?_
  refine zv_iconst (v := zI 1) C dL_law_1120 rfl ?_
  refine zv_iaddZ C dL_law_1121 ?_
  refine zv_sld (j := i + 1) (v := (zI v1)) C W.2.2.1 W.2.2.2.1 W.2.2.2.2.1 W.2.2.2.2.2 (zI_ix (by omega)) (by omega) hx1 dL_law_1122 ?_
  refine zv_aload_n C 1 dL_law_1123 rfl rfl ?_
  refine zv_iload C 6 dL_law_1124 rfl ?_
  refine zv_iconst (v := zI 2) C dL_law_1126 rfl ?_
  refine zv_iaddZ C dL_law_1127 ?_
  refine zv_sld (j := i + 2) (v := (zI v2)) C W.2.2.1 W.2.2.2.1 W.2.2.2.2.1 W.2.2.2.2.2 (zI_ix (by omega)) (by omega) hx2 dL_law_1128 ?_
  refine zv_cvi (st := []) C (x1_X11_angle hfl E τ1111 σ U v1 v2 hR1.2.2.2.1 hR.1.2.2.1 (by first | assumption | omega) (by first | assumption | omega)) mX11_angle kL_237 (by decide : kd 327 = 10) rfl rfl rfl ⟨rfl, rfl⟩ (show zfit (zrm 2 46) 3 room_1 = true from rfl) (Nat.le_of_ble_eq_true rfl) dL_law_1129 ⟨by omega, by omega⟩ (fun r1129 τ1129 hp1129 => ?_)
  obtain ⟨hr2, hK2⟩ := hp1129
  refine zv_eqi (y := zI 0) hr2 ?_
  have hR2 : zRel τ1129 (zDv.mk ni tx ec eo U S hh kp ou) := zRel_m hR1 hK2
  have ht2 : gI τ1129 327 10 = zI 1 := hK2.2
  have hJ2 : gJ τ1129 339 0 = gJ τ1111 339 0 := hK2.1.2.1 339 0 (by decide)
  have hD2 : gD τ1129 340 0 = gD τ1111 340 0 := hK2.1.2.2 340 0
  refine zv_istore (lv' := [(7, .int (zI 0)), (6, .int (zI 1)), (0, .ref b0), (1, .ref (ob E 0)), (2, .ref (ob E 327)), (3, .ref (ob E 339)), (4, .ref (ob E 340)), (5, .int (zI (i : Int)))]) C dL_law_1132  (by decide) rfl ?_
  refine zv_aload_n C 4 dL_law_1134 rfl rfl ?_
  refine zv_cviD (st := []) C (c_X11_thrown hfl E τ1129) mX11_thrown kL_200 (by decide : kd 327 = 10) rfl rfl rfl ⟨rfl, rfl⟩ (show zfit (zrm 0 0) 1 room_1 = true from rfl) (Nat.le_of_ble_eq_true rfl) dL_law_1135 ⟨by omega, by omega⟩ ?_
  refine zv_eqi (y := (zI 1)) (ht2) ?_
  refine zv_iload C 1 dL_law_1138 rfl ?_
  refine zv_icmp_eqZ (tgt := 1145) C (by omega) (by omega) dL_law_1140 (by decide) (fun h1140 => ?_) (fun h1140 => ?_)
  · skip
    refine zv_iload C 1 dL_law_1145 rfl ?_
    refine zv_if_neZ (tgt := 1162) C (by omega) dL_law_1147 (by decide) (fun h1147 => ?_) (fun h1147 => absurd h1147 (by decide))
    refine zv_goto (tgt := 3624) C dL_law_1162 (by decide) ?_
    refine zv_sub (lv' := [(0, .ref b0), (1, .ref (ob E 0)), (2, .ref (ob E 327)), (3, .ref (ob E 339)), (4, .ref (ob E 340)), (5, .int (zI (i : Int)))]) [2, 3, 4, 5, 6, 7] (zcons rfl (zcons rfl (zcons rfl (zcons rfl (zcons rfl (zcons rfl rfl)))))) ?_
    exact kk _ _ _ _ (by omega) (by omega) hR2
  · exfalso
    omega
set_option maxRecDepth 20000 in
theorem lw_angle_x2_x2 {p : Program} {l : Launch} {e : Env} {s : State} {m : MethodId} {args : Array Value} {below : List Frame} {meth : Method} {c : Code} {E : zE} {Q : State → Prop} {b0 L i ce sl : Nat} {xs : Nat → Int32} {σ : zS} (ni : Nat) (tx : Nat → Int) (ec : Nat) (eo : Int) (U : zSU) (S : zST) (hh : List zST) (kp : Option zST) (ou : List Nat) (n1 : Nat) (v2 : Int) (W : zLW p l s m args meth c E b0 L xs) (hi : i + 6 ≤ L) (hcs : ce + 1 ≤ room_1.cells ∧ sl + 6 ≤ room_1.slots) (hR : zRel σ (zDv.mk ni tx ec eo U S hh kp ou)) (hx1 : xs (i + 1) = (zI (n1 : Int))) (hx2 : xs (i + 2) = (zI v2)) (hi0 : n1 < U.nb) (hyi1 : -2147483648 ≤ v2 ∧ v2 < 2147483648) (hno2 : ¬ (0 ≤ v2 ∧ v2 ≤ 400000))  (kk : zNx p l e s m args below meth c E Q b0 i ce sl) : zV p l e room_1 s m args below meth c 9 E Q ce sl σ 1097 (lwL b0 i E) [] := by
  refine (?_ : zV p l e room_1 s m args below meth c 9 E Q ce sl σ 1097 [(0, .ref b0), (1, .ref (ob E 0)), (2, .ref (ob E 327)), (3, .ref (ob E 339)), (4, .ref (ob E 340)), (5, .int (zI (i : Int)))] [])
  have C := W.2.1
  have hfl := W.1
  have hroom : room_1.cells = 601024 ∧ room_1.slots = 7293034 := ⟨rfl, rfl⟩
  refine zv_aload_n C 1 dL_law_1097 rfl rfl ?_
  refine zv_aload_n C 0 dL_law_1098 rfl rfl ?_
  refine zv_iload C 5 dL_law_1099 rfl ?_
  refine zv_iconst (v := zI 1) C dL_law_1101 rfl ?_
  refine zv_iaddZ C dL_law_1102 ?_
  refine zv_sld (j := i + 1) (v := (zI (n1 : Int))) C W.2.2.1 W.2.2.2.1 W.2.2.2.2.1 W.2.2.2.2.2 (zI_ix (by omega)) (by omega) hx1 dL_law_1103 ?_
  refine zv_aload_n C 0 dL_law_1104 rfl rfl ?_
  refine zv_iload C 5 dL_law_1105 rfl ?_
  refine zv_iconst (v := zI 2) C dL_law_1107 rfl ?_
  refine zv_iaddZ C dL_law_1108 ?_
  refine zv_sld (j := i + 2) (v := (zI v2)) C W.2.2.1 W.2.2.2.1 W.2.2.2.2.1 W.2.2.2.2.2 (zI_ix (by omega)) (by omega) hx2 dL_law_1109 ?_
  refine zv_aload_n C 3 dL_law_1110 rfl rfl ?_
  refine zv_cH (st := []) C (w_x2_X10_angle hfl E σ U S n1 v2 hR.1.2.2.1 (by first | assumption | omega) (by first | assumption | omega) (by first | assumption | omega)) mL_angle kL_235 rfl ⟨rfl, rfl⟩ (show zfit (zrx 10 222) 5 room_1 = true from rfl) (Nat.le_of_ble_eq_true rfl) dL_law_1111 ⟨by exact hcs.1, by exact hcs.2⟩ (fun r1111 τ1111 hp1111 => ?_)
  obtain ⟨hr0, hP9⟩ := hp1111
  refine zv_eqi (y := zI 2) hr0 ?_
  have hF9 : zFr 318 327 σ τ1111 := by rw [hP9]; exact (by first | exact zFr_refl _ _ _ | exact zFr_rW (zFr_refl _ _ _) (by omega) | exact zFr_rW (zFr_rW (zFr_refl _ _ _) (by omega)) (by omega) | exact qW_f _ _ _ _ | exact qM_f _ _ _ _ _ | exact rW2_f _ _ _ _ _ | exact rW3_f _ _ _ _ _ | exact alW_f _ _ _ _ _ | (split <;> first | exact zFr_refl _ _ _ | exact bW_f _ _ _ _) | assumption)
  have hR1 : zRel τ1111 (zDv.mk ni tx ec eo U S hh kp ou) := zRel_c hR hF9
  refine zv_istore (lv' := [(6, .int (zI 2)), (0, .ref b0), (1, .ref (ob E 0)), (2, .ref (ob E 327)), (3, .ref (ob E 339)), (4, .ref (ob E 340)), (5, .int (zI (i : Int)))]) C dL_law_1114  (by decide) rfl ?_
  refine zv_aload_n C 3 dL_law_1116 rfl rfl ?_
  refine zv_aload_n C 1 dL_law_1117 rfl rfl ?_
  refine zv_iload C 6 dL_law_1118 rfl ?_
  refine zv_iconst (v := zI 1) C dL_law_1120 rfl ?_
  refine zv_iaddZ C dL_law_1121 ?_
  refine zv_sld (j := i + 1) (v := (zI (n1 : Int))) C W.2.2.1 W.2.2.2.1 W.2.2.2.2.1 W.2.2.2.2.2 (zI_ix (by omega)) (by omega) hx1 dL_law_1122 ?_
  refine zv_aload_n C 1 dL_law_1123 rfl rfl ?_
  refine zv_iload C 6 dL_law_1124 rfl ?_
  refine zv_iconst (v := zI 2) C dL_law_1126 rfl ?_
  refine zv_iaddZ C dL_law_1127 ?_
  refine zv_sld (j := i + 2) (v := (zI v2)) C W.2.2.1 W.2.2.2.1 W.2.2.2.2.1 W.2.2.2.2.2 (zI_ix (by omega)) (by omega) hx2 dL_law_1128 ?_
  refine zv_cvi (st := []) C (x2_X11_angle hfl E τ1111 σ U n1 v2 hR1.2.2.2.1 hR.1.2.2.1 (by first | assumption | omega) (by first | assumption | omega) (by first | assumption | omega)) mX11_angle kL_237 (by decide : kd 327 = 10) rfl rfl rfl ⟨rfl, rfl⟩ (show zfit (zrm 2 46) 3 room_1 = true from rfl) (Nat.le_of_ble_eq_true rfl) dL_law_1129 ⟨by omega, by omega⟩ (fun r1129 τ1129 hp1129 => ?_)
  obtain ⟨hr2, hK2⟩ := hp1129
  refine zv_eqi (y := zI 0) hr2 ?_
  have hR2 : zRel τ1129 (zDv.mk ni tx ec eo U S hh kp ou) := zRel_m hR1 hK2
  have ht2 : gI τ1129 327 10 = zI 2 := hK2.2
  have hJ2 : gJ τ1129 339 0 = gJ τ1111 339 0 := hK2.1.2.1 339 0 (by decide)
  have hD2 : gD τ1129 340 0 = gD τ1111 340 0 := hK2.1.2.2 340 0
  refine zv_istore (lv' := [(7, .int (zI 0)), (6, .int (zI 2)), (0, .ref b0), (1, .ref (ob E 0)), (2, .ref (ob E 327)), (3, .ref (ob E 339)), (4, .ref (ob E 340)), (5, .int (zI (i : Int)))]) C dL_law_1132  (by decide) rfl ?_
  refine zv_aload_n C 4 dL_law_1134 rfl rfl ?_
  refine zv_cviD (st := []) C (c_X11_thrown hfl E τ1129) mX11_thrown kL_200 (by decide : kd 327 = 10) rfl rfl rfl ⟨rfl, rfl⟩ (show zfit (zrm 0 0) 1 room_1 = true from rfl) (Nat.le_of_ble_eq_true rfl) dL_law_1135 ⟨by omega, by omega⟩ ?_
  refine zv_eqi (y := (zI 2)) (ht2) ?_
  refine zv_iload C 1 dL_law_1138 rfl ?_
  refine zv_icmp_eqZ (tgt := 1145) C (by omega) (by omega) dL_law_1140 (by decide) (fun h1140 => ?_) (fun h1140 => ?_)
  · skip
    refine zv_iload C 1 dL_law_1145 rfl ?_
    refine zv_if_neZ (tgt := 1162) C (by omega) dL_law_1147 (by decide) (fun h1147 => ?_) (fun h1147 => absurd h1147 (by decide))
    refine zv_goto (tgt := 3624) C dL_law_1162 (by decide) ?_
    refine zv_sub (lv' := [(0, .ref b0), (1, .ref (ob E 0)), (2, .ref (ob E 327)), (3, .ref (ob E 339)), (4, .ref (ob E 340)), (5, .int (zI (i : Int)))]) [2, 3, 4, 5, 6, 7] (zcons rfl (zcons rfl (zcons rfl (zcons rfl (zcons rfl (zcons rfl rfl)))))) ?_
    exact kk _ _ _ _ (by omega) (by omega) hR2
  · exfalso
    omega
theorem LK_16 {p : Program} {l : Launch} {e : Env} {s : State} {m : MethodId} {args : Array Value} {below : List Frame} {meth : Method} {c : Code} {E : zE} {Q : State → Prop} {b0 L i ce sl : Nat} {xs : Nat → Int32} {σ : zS} (ni : Nat) (tx : Nat → Int) (ec : Nat) (eo : Int) (U : zSU) (S : zST) (hh : List zST) (kp : Option zST) (ou : List Nat) (hFN : zFN) (W : zLW p l s m args meth c E b0 L xs) (hi : i + 6 ≤ L) (hcs : ce + 1 ≤ room_1.cells ∧ sl + 6 ≤ room_1.slots) (hR : zRel σ (zDv.mk ni tx ec eo U S hh kp ou)) (kk : zNx p l e s m args below meth c E Q b0 i ce sl) : zV p l e room_1 s m args below meth c 9 E Q ce sl σ 1097 (lwL b0 i E) [] := by
  obtain ⟨v1, hx1, hv1⟩ := zI_cov (xs (i + 1))
  obtain ⟨v2, hx2, hv2⟩ := zI_cov (xs (i + 2))
  by_cases g1 : 0 ≤ v1 ∧ v1 < U.nb
  case neg =>
    exact lw_angle_x1_x1 _ _ _ _ _ _ _ _ _ _ _ W hi hcs hR hx1 hx2 (by first | assumption | omega) (by first | assumption | omega) kk
  obtain ⟨n1, rfl⟩ := Int.eq_ofNat_of_zero_le (show 0 ≤ v1 by omega)
  by_cases g2 : 0 ≤ v2 ∧ v2 ≤ 400000
  case neg =>
    exact lw_angle_x2_x2 _ _ _ _ _ _ _ _ _ _ _ W hi hcs hR hx1 hx2 (by first | assumption | omega) (by first | assumption | omega) (by first | assumption | omega) kk
  obtain ⟨n2, rfl⟩ := Int.eq_ofNat_of_zero_le (show 0 ≤ v2 by omega)
  exact lw_angle_c_c _ _ _ _ _ _ _ _ _ _ _ W hi hcs hR hx1 hx2 (by first | assumption | omega) (by first | assumption | omega) kk
theorem dL_law_1165 : decode cL_law 1165 = .ok (.aload_n 1, 1) := by decide +kernel
theorem dL_law_1166 : decode cL_law 1166 = .ok (.aload_n 0, 1) := by decide +kernel
theorem dL_law_1167 : decode cL_law 1167 = .ok (.iload 5, 2) := by decide +kernel
theorem dL_law_1169 : decode cL_law 1169 = .ok (.iconst 1, 1) := by decide +kernel
theorem dL_law_1170 : decode cL_law 1170 = .ok (.iadd, 1) := by decide +kernel
theorem dL_law_1171 : decode cL_law 1171 = .ok (.iaload, 1) := by decide +kernel
theorem dL_law_1172 : decode cL_law 1172 = .ok (.aload_n 0, 1) := by decide +kernel
theorem dL_law_1173 : decode cL_law 1173 = .ok (.iload 5, 2) := by decide +kernel
theorem dL_law_1175 : decode cL_law 1175 = .ok (.iconst 2, 1) := by decide +kernel
theorem dL_law_1176 : decode cL_law 1176 = .ok (.iadd, 1) := by decide +kernel
theorem dL_law_1177 : decode cL_law 1177 = .ok (.iaload, 1) := by decide +kernel
theorem dL_law_1178 : decode cL_law 1178 = .ok (.aload_n 3, 1) := by decide +kernel
theorem dL_law_1179 : decode cL_law 1179 = .ok (.invokestatic 238, 3) := by decide +kernel
theorem dL_law_1182 : decode cL_law 1182 = .ok (.istore 6, 2) := by decide +kernel
theorem dL_law_1184 : decode cL_law 1184 = .ok (.aload_n 2, 1) := by decide +kernel
theorem dL_law_1185 : decode cL_law 1185 = .ok (.aload_n 0, 1) := by decide +kernel
theorem dL_law_1186 : decode cL_law 1186 = .ok (.iload 5, 2) := by decide +kernel
theorem dL_law_1188 : decode cL_law 1188 = .ok (.iconst 1, 1) := by decide +kernel
theorem dL_law_1189 : decode cL_law 1189 = .ok (.iadd, 1) := by decide +kernel
theorem dL_law_1190 : decode cL_law 1190 = .ok (.iaload, 1) := by decide +kernel
theorem dL_law_1191 : decode cL_law 1191 = .ok (.aload_n 0, 1) := by decide +kernel
theorem dL_law_1192 : decode cL_law 1192 = .ok (.iload 5, 2) := by decide +kernel
theorem dL_law_1194 : decode cL_law 1194 = .ok (.iconst 2, 1) := by decide +kernel
theorem dL_law_1195 : decode cL_law 1195 = .ok (.iadd, 1) := by decide +kernel
theorem dL_law_1196 : decode cL_law 1196 = .ok (.iaload, 1) := by decide +kernel
theorem dL_law_1197 : decode cL_law 1197 = .ok (.invokevirtual 240, 3) := by decide +kernel
theorem dL_law_1200 : decode cL_law 1200 = .ok (.istore 7, 2) := by decide +kernel
theorem dL_law_1202 : decode cL_law 1202 = .ok (.aload_n 2, 1) := by decide +kernel
theorem dL_law_1203 : decode cL_law 1203 = .ok (.invokevirtual 200, 3) := by decide +kernel
theorem dL_law_1206 : decode cL_law 1206 = .ok (.iload 6, 2) := by decide +kernel
theorem dL_law_1208 : decode cL_law 1208 = .ok (.if_icmp .eq 5, 3) := by decide +kernel
theorem dL_law_1211 : decode cL_law 1211 = .ok (.iconst 0, 1) := by decide +kernel
theorem dL_law_1212 : decode cL_law 1212 = .ok (.ireturn, 1) := by decide +kernel
theorem dL_law_1213 : decode cL_law 1213 = .ok (.iload 6, 2) := by decide +kernel
theorem dL_law_1215 : decode cL_law 1215 = .ok (.ifCond .ne 15, 3) := by decide +kernel
theorem dL_law_1218 : decode cL_law 1218 = .ok (.aload_n 3, 1) := by decide +kernel
theorem dL_law_1219 : decode cL_law 1219 = .ok (.iconst 0, 1) := by decide +kernel
theorem dL_law_1220 : decode cL_law 1220 = .ok (.laload, 1) := by decide +kernel
theorem dL_law_1221 : decode cL_law 1221 = .ok (.iload 7, 2) := by decide +kernel
theorem dL_law_1223 : decode cL_law 1223 = .ok (.i2l, 1) := by decide +kernel
theorem dL_law_1224 : decode cL_law 1224 = .ok (.lcmp, 1) := by decide +kernel
theorem dL_law_1225 : decode cL_law 1225 = .ok (.ifCond .eq 5, 3) := by decide +kernel
theorem dL_law_1228 : decode cL_law 1228 = .ok (.iconst 0, 1) := by decide +kernel
theorem dL_law_1229 : decode cL_law 1229 = .ok (.ireturn, 1) := by decide +kernel
theorem dL_law_1230 : decode cL_law 1230 = .ok (.goto 2394, 3) := by decide +kernel
set_option maxRecDepth 20000 in
theorem lw_trueAngle_c_c {p : Program} {l : Launch} {e : Env} {s : State} {m : MethodId} {args : Array Value} {below : List Frame} {meth : Method} {c : Code} {E : zE} {Q : State → Prop} {b0 L i ce sl : Nat} {xs : Nat → Int32} {σ : zS} (ni : Nat) (tx : Nat → Int) (ec : Nat) (eo : Int) (U : zSU) (S : zST) (hh : List zST) (kp : Option zST) (ou : List Nat) (n1 : Nat) (n2 : Nat) (W : zLW p l s m args meth c E b0 L xs) (hi : i + 6 ≤ L) (hcs : ce + 1 ≤ room_1.cells ∧ sl + 6 ≤ room_1.slots) (hR : zRel σ (zDv.mk ni tx ec eo U S hh kp ou)) (hx1 : xs (i + 1) = (zI (n1 : Int))) (hx2 : xs (i + 2) = (zI (n2 : Int))) (hi0 : n1 < U.nb) (hf1 : n2 ≤ 400000)  (kk : zNx p l e s m args below meth c E Q b0 i ce sl) : zV p l e room_1 s m args below meth c 9 E Q ce sl σ 1165 (lwL b0 i E) [] := by
  refine (?_ : zV p l e room_1 s m args below meth c 9 E Q ce sl σ 1165 [(0, .ref b0), (1, .ref (ob E 0)), (2, .ref (ob E 327)), (3, .ref (ob E 339)), (4, .ref (ob E 340)), (5, .int (zI (i : Int)))] [])
  have C := W.2.1
  have hfl := W.1
  have hroom : room_1.cells = 601024 ∧ room_1.slots = 7293034 := ⟨rfl, rfl⟩
  refine zv_aload_n C 1 dL_law_1165 rfl rfl ?_
  refine zv_aload_n C 0 dL_law_1166 rfl rfl ?_
  refine zv_iload C 5 dL_law_1167 rfl ?_
  refine zv_iconst (v := zI 1) C dL_law_1169 rfl ?_
  refine zv_iaddZ C dL_law_1170 ?_
  refine zv_sld (j := i + 1) (v := (zI (n1 : Int))) C W.2.2.1 W.2.2.2.1 W.2.2.2.2.1 W.2.2.2.2.2 (zI_ix (by omega)) (by omega) hx1 dL_law_1171 ?_
  refine zv_aload_n C 0 dL_law_1172 rfl rfl ?_
  refine zv_iload C 5 dL_law_1173 rfl ?_
  refine zv_iconst (v := zI 2) C dL_law_1175 rfl ?_
  refine zv_iaddZ C dL_law_1176 ?_
  refine zv_sld (j := i + 2) (v := (zI (n2 : Int))) C W.2.2.1 W.2.2.2.1 W.2.2.2.2.1 W.2.2.2.2.2 (zI_ix (by omega)) (by omega) hx2 dL_law_1177 ?_
  refine zv_aload_n C 3 dL_law_1178 rfl rfl ?_
  refine zv_cH (st := []) C (w_c_X10_trueAngle hfl E σ U S n1 n2 hR.1.2.2.1 hR.1.2.2.2.1.1 (by first | assumption | omega) (by first | assumption | omega)) mL_trueAngle kL_238 rfl ⟨rfl, rfl⟩ (show zfit (zrm 4 100) 5 room_1 = true from rfl) (Nat.le_of_ble_eq_true rfl) dL_law_1179 ⟨by omega, by omega⟩ (fun r1179 τ1179 hp1179 => ?_)
  obtain ⟨hr0, v9, υ9, hP9, hτ9⟩ := hp1179
  refine zv_eqi (y := zI 0) hr0 ?_
  obtain ⟨hv9, hW9⟩ := hP9
  have hF9 : zFr 318 327 σ υ9 := by first | exact hW9 | (rw [hW9]; exact (by first | exact zFr_refl _ _ _ | exact zFr_rW (zFr_refl _ _ _) (by omega) | exact zFr_rW (zFr_rW (zFr_refl _ _ _) (by omega)) (by omega) | exact qW_f _ _ _ _ | exact qM_f _ _ _ _ _ | exact rW2_f _ _ _ _ _ | exact rW3_f _ _ _ _ _ | exact alW_f _ _ _ _ _ | (split <;> first | exact zFr_refl _ _ _ | exact bW_f _ _ _ _) | assumption))
  have hR1 : zRel τ1179 (zDv.mk ni tx ec eo U S hh kp ou) := by rw [hτ9]; exact zRel_J (zRel_c hR hF9) _
  have ho9 : gJ τ1179 339 0 = v9.toInt64 := by rw [hτ9, gJ_sJ, if_pos ⟨rfl, rfl⟩]
  rw [hv9] at ho9
  refine zv_istore (lv' := [(6, .int (zI 0)), (0, .ref b0), (1, .ref (ob E 0)), (2, .ref (ob E 327)), (3, .ref (ob E 339)), (4, .ref (ob E 340)), (5, .int (zI (i : Int)))]) C dL_law_1182  (by decide) rfl ?_
  refine zv_aload_n C 3 dL_law_1184 rfl rfl ?_
  refine zv_aload_n C 1 dL_law_1185 rfl rfl ?_
  refine zv_iload C 6 dL_law_1186 rfl ?_
  refine zv_iconst (v := zI 1) C dL_law_1188 rfl ?_
  refine zv_iaddZ C dL_law_1189 ?_
  refine zv_sld (j := i + 1) (v := (zI (n1 : Int))) C W.2.2.1 W.2.2.2.1 W.2.2.2.2.1 W.2.2.2.2.2 (zI_ix (by omega)) (by omega) hx1 dL_law_1190 ?_
  refine zv_aload_n C 1 dL_law_1191 rfl rfl ?_
  refine zv_iload C 6 dL_law_1192 rfl ?_
  refine zv_iconst (v := zI 2) C dL_law_1194 rfl ?_
  refine zv_iaddZ C dL_law_1195 ?_
  refine zv_sld (j := i + 2) (v := (zI (n2 : Int))) C W.2.2.1 W.2.2.2.1 W.2.2.2.2.1 W.2.2.2.2.2 (zI_ix (by omega)) (by omega) hx2 dL_law_1196 ?_
  refine zv_cvi (st := []) C (c_X11_trueAngle hfl E τ1179 σ U S n1 n2 hR1.2.2.2.1 hR.1.2.2.1 hR1.2.2.2.2.2.1.1 hR.1.2.2.2.1.1 (by first | assumption | omega) (by first | assumption | omega)) mX11_trueAngle kL_240 (by decide : kd 327 = 10) rfl rfl rfl ⟨rfl, rfl⟩ (show zfit (zrm 2 46) 3 room_1 = true from rfl) (Nat.le_of_ble_eq_true rfl) dL_law_1197 ⟨by omega, by omega⟩ (fun r1197 τ1197 hp1197 => ?_)
  obtain ⟨hr2, hK2⟩ := hp1197
  refine zv_eqi (y := zI ((qDue U n1).1 * (n2 : Int) % (qDue U n1).2 * 1296000 / (qDue U n1).2)) hr2 ?_
  have hR2 : zRel τ1197 (zDv.mk ni tx ec eo U S hh kp ou) := zRel_m hR1 hK2
  have ht2 : gI τ1197 327 10 = zI 0 := hK2.2
  have hJ2 : gJ τ1197 339 0 = gJ τ1179 339 0 := hK2.1.2.1 339 0 (by decide)
  have hD2 : gD τ1197 340 0 = gD τ1179 340 0 := hK2.1.2.2 340 0
  refine zv_istore (lv' := [(7, .int (zI ((qDue U n1).1 * (n2 : Int) % (qDue U n1).2 * 1296000 / (qDue U n1).2))), (6, .int (zI 0)), (0, .ref b0), (1, .ref (ob E 0)), (2, .ref (ob E 327)), (3, .ref (ob E 339)), (4, .ref (ob E 340)), (5, .int (zI (i : Int)))]) C dL_law_1200  (by decide) rfl ?_
  refine zv_aload_n C 4 dL_law_1202 rfl rfl ?_
  refine zv_cviD (st := []) C (c_X11_thrown hfl E τ1197) mX11_thrown kL_200 (by decide : kd 327 = 10) rfl rfl rfl ⟨rfl, rfl⟩ (show zfit (zrm 0 0) 1 room_1 = true from rfl) (Nat.le_of_ble_eq_true rfl) dL_law_1203 ⟨by omega, by omega⟩ ?_
  refine zv_eqi (y := (zI 0)) (ht2) ?_
  refine zv_iload C 1 dL_law_1206 rfl ?_
  refine zv_icmp_eqZ (tgt := 1213) C (by omega) (by omega) dL_law_1208 (by decide) (fun h1208 => ?_) (fun h1208 => ?_)
  · skip
    refine zv_iload C 1 dL_law_1213 rfl ?_
    refine zv_if_neZ (tgt := 1230) C (by omega) dL_law_1215 (by decide) (fun h1215 => absurd h1215 (by decide)) (fun h1215 => ?_)
    refine zv_aload_n C 5 dL_law_1218 rfl rfl ?_
    refine zv_iconst (v := zI 0) C dL_law_1219 rfl ?_
    refine zv_lald (j := 0) C (by decide : kd 339 = _) (zI_ix (by omega)) (by decide) dL_law_1220 ?_
    refine zv_eql (y := ((zI ((qDue U n1).1 * (n2 : Int) % (qDue U n1).2 * 1296000 / (qDue U n1).2)).toInt64)) (hJ2.trans ho9) ?_
    refine zv_iload C 0 dL_law_1221 rfl ?_
    refine zv_i2l C dL_law_1223 ?_
    refine zv_lc_eq (tgt := 1230) C dL_law_1224 dL_law_1225 (by decide) (fun h1224 => ?_) (fun h1224 => ?_)
    · skip
      refine zv_goto (tgt := 3624) C dL_law_1230 (by decide) ?_
      refine zv_sub (lv' := [(0, .ref b0), (1, .ref (ob E 0)), (2, .ref (ob E 327)), (3, .ref (ob E 339)), (4, .ref (ob E 340)), (5, .int (zI (i : Int)))]) [2, 3, 4, 5, 6, 7] (zcons rfl (zcons rfl (zcons rfl (zcons rfl (zcons rfl (zcons rfl rfl)))))) ?_
      exact kk _ _ _ _ (by omega) (by omega) hR2
    · exfalso
      exact h1224 rfl
  · exfalso
    omega
set_option maxRecDepth 20000 in
theorem lw_trueAngle_x1_x1 {p : Program} {l : Launch} {e : Env} {s : State} {m : MethodId} {args : Array Value} {below : List Frame} {meth : Method} {c : Code} {E : zE} {Q : State → Prop} {b0 L i ce sl : Nat} {xs : Nat → Int32} {σ : zS} (ni : Nat) (tx : Nat → Int) (ec : Nat) (eo : Int) (U : zSU) (S : zST) (hh : List zST) (kp : Option zST) (ou : List Nat) (v1 : Int) (v2 : Int) (W : zLW p l s m args meth c E b0 L xs) (hi : i + 6 ≤ L) (hcs : ce + 1 ≤ room_1.cells ∧ sl + 6 ≤ room_1.slots) (hR : zRel σ (zDv.mk ni tx ec eo U S hh kp ou)) (hx1 : xs (i + 1) = (zI v1)) (hx2 : xs (i + 2) = (zI v2)) (hbi0 : -2147483648 ≤ v1 ∧ v1 < 2147483648) (hno1 : ¬ (0 ≤ v1 ∧ v1 < U.nb))  (kk : zNx p l e s m args below meth c E Q b0 i ce sl) : zV p l e room_1 s m args below meth c 9 E Q ce sl σ 1165 (lwL b0 i E) [] := by
  refine (?_ : zV p l e room_1 s m args below meth c 9 E Q ce sl σ 1165 [(0, .ref b0), (1, .ref (ob E 0)), (2, .ref (ob E 327)), (3, .ref (ob E 339)), (4, .ref (ob E 340)), (5, .int (zI (i : Int)))] [])
  have C := W.2.1
  have hfl := W.1
  have hroom : room_1.cells = 601024 ∧ room_1.slots = 7293034 := ⟨rfl, rfl⟩
  refine zv_aload_n C 1 dL_law_1165 rfl rfl ?_
  refine zv_aload_n C 0 dL_law_1166 rfl rfl ?_
  refine zv_iload C 5 dL_law_1167 rfl ?_
  refine zv_iconst (v := zI 1) C dL_law_1169 rfl ?_
  refine zv_iaddZ C dL_law_1170 ?_
  refine zv_sld (j := i + 1) (v := (zI v1)) C W.2.2.1 W.2.2.2.1 W.2.2.2.2.1 W.2.2.2.2.2 (zI_ix (by omega)) (by omega) hx1 dL_law_1171 ?_
  refine zv_aload_n C 0 dL_law_1172 rfl rfl ?_
  refine zv_iload C 5 dL_law_1173 rfl ?_
  refine zv_iconst (v := zI 2) C dL_law_1175 rfl ?_
  refine zv_iaddZ C dL_law_1176 ?_
  refine zv_sld (j := i + 2) (v := (zI v2)) C W.2.2.1 W.2.2.2.1 W.2.2.2.2.1 W.2.2.2.2.2 (zI_ix (by omega)) (by omega) hx2 dL_law_1177 ?_
  refine zv_aload_n C 3 dL_law_1178 rfl rfl ?_
  refine zv_cH (st := []) C (w_x1_X10_trueAngle hfl E σ U v1 v2 hR.1.2.2.1 (by first | assumption | omega) (by first | assumption | omega)) mL_trueAngle kL_238 rfl ⟨rfl, rfl⟩ (show zfit (zrx 10 222) 5 room_1 = true from rfl) (Nat.le_of_ble_eq_true rfl) dL_law_1179 ⟨by exact hcs.1, by exact hcs.2⟩ (fun r1179 τ1179 hp1179 => ?_)
  obtain ⟨hr0, hP9⟩ := hp1179
  refine zv_eqi (y := zI 1) hr0 ?_
  have hF9 : zFr 318 327 σ τ1179 := by rw [hP9]; exact (by first | exact zFr_refl _ _ _ | exact zFr_rW (zFr_refl _ _ _) (by omega) | exact zFr_rW (zFr_rW (zFr_refl _ _ _) (by omega)) (by omega) | exact qW_f _ _ _ _ | exact qM_f _ _ _ _ _ | exact rW2_f _ _ _ _ _ | exact rW3_f _ _ _ _ _ | exact alW_f _ _ _ _ _ | (split <;> first | exact zFr_refl _ _ _ | exact bW_f _ _ _ _) | assumption)
  have hR1 : zRel τ1179 (zDv.mk ni tx ec eo U S hh kp ou) := zRel_c hR hF9
  refine zv_istore (lv' := [(6, .int (zI 1)), (0, .ref b0), (1, .ref (ob E 0)), (2, .ref (ob E 327)), (3, .ref (ob E 339)), (4, .ref (ob E 340)), (5, .int (zI (i : Int)))]) C dL_law_1182  (by decide) rfl ?_
  refine zv_aload_n C 3 dL_law_1184 rfl rfl ?_
  refine zv_aload_n C 1 dL_law_1185 rfl rfl ?_
  refine zv_iload C 6 dL_law_1186 rfl ?_
  refine zv_iconst (v := zI 1) C dL_law_1188 rfl ?_
  refine zv_iaddZ C dL_law_1189 ?_
  refine zv_sld (j := i + 1) (v := (zI v1)) C W.2.2.1 W.2.2.2.1 W.2.2.2.2.1 W.2.2.2.2.2 (zI_ix (by omega)) (by omega) hx1 dL_law_1190 ?_
  refine zv_aload_n C 1 dL_law_1191 rfl rfl ?_
  refine zv_iload C 6 dL_law_1192 rfl ?_
  refine zv_iconst (v := zI 2) C dL_law_1194 rfl ?_
  refine zv_iaddZ C dL_law_1195 ?_
  refine zv_sld (j := i + 2) (v := (zI v2)) C W.2.2.1 W.2.2.2.1 W.2.2.2.2.1 W.2.2.2.2.2 (zI_ix (by omega)) (by omega) hx2 dL_law_1196 ?_
  refine zv_cvi (st := []) C (x1_X11_trueAngle hfl E τ1179 σ U v1 v2 hR1.2.2.2.1 hR.1.2.2.1 (by first | assumption | omega) (by first | assumption | omega)) mX11_trueAngle kL_240 (by decide : kd 327 = 10) rfl rfl rfl ⟨rfl, rfl⟩ (show zfit (zrm 2 46) 3 room_1 = true from rfl) (Nat.le_of_ble_eq_true rfl) dL_law_1197 ⟨by omega, by omega⟩ (fun r1197 τ1197 hp1197 => ?_)
  obtain ⟨hr2, hK2⟩ := hp1197
  refine zv_eqi (y := zI 0) hr2 ?_
  have hR2 : zRel τ1197 (zDv.mk ni tx ec eo U S hh kp ou) := zRel_m hR1 hK2
  have ht2 : gI τ1197 327 10 = zI 1 := hK2.2
  have hJ2 : gJ τ1197 339 0 = gJ τ1179 339 0 := hK2.1.2.1 339 0 (by decide)
  have hD2 : gD τ1197 340 0 = gD τ1179 340 0 := hK2.1.2.2 340 0
  refine zv_istore (lv' := [(7, .int (zI 0)), (6, .int (zI 1)), (0, .ref b0), (1, .ref (ob E 0)), (2, .ref (ob E 327)), (3, .ref (ob E 339)), (4, .ref (ob E 340)), (5, .int (zI (i : Int)))]) C dL_law_1200  (by decide) rfl ?_
  refine zv_aload_n C 4 dL_law_1202 rfl rfl ?_
  refine zv_cviD (st := []) C (c_X11_thrown hfl E τ1197) mX11_thrown kL_200 (by decide : kd 327 = 10) rfl rfl rfl ⟨rfl, rfl⟩ (show zfit (zrm 0 0) 1 room_1 = true from rfl) (Nat.le_of_ble_eq_true rfl) dL_law_1203 ⟨by omega, by omega⟩ ?_
  refine zv_eqi (y := (zI 1)) (ht2) ?_
  refine zv_iload C 1 dL_law_1206 rfl ?_
  refine zv_icmp_eqZ (tgt := 1213) C (by omega) (by omega) dL_law_1208 (by decide) (fun h1208 => ?_) (fun h1208 => ?_)
  · skip
    refine zv_iload C 1 dL_law_1213 rfl ?_
    refine zv_if_neZ (tgt := 1230) C (by omega) dL_law_1215 (by decide) (fun h1215 => ?_) (fun h1215 => absurd h1215 (by decide))
    refine zv_goto (tgt := 3624) C dL_law_1230 (by decide) ?_
    refine zv_sub (lv' := [(0, .ref b0), (1, .ref (ob E 0)), (2, .ref (ob E 327)), (3, .ref (ob E 339)), (4, .ref (ob E 340)), (5, .int (zI (i : Int)))]) [2, 3, 4, 5, 6, 7] (zcons rfl (zcons rfl (zcons rfl (zcons rfl (zcons rfl (zcons rfl rfl)))))) ?_
    exact kk _ _ _ _ (by omega) (by omega) hR2
  · exfalso
    omega
set_option maxRecDepth 20000 in
theorem lw_trueAngle_x2_x2 {p : Program} {l : Launch} {e : Env} {s : State} {m : MethodId} {args : Array Value} {below : List Frame} {meth : Method} {c : Code} {E : zE} {Q : State → Prop} {b0 L i ce sl : Nat} {xs : Nat → Int32} {σ : zS} (ni : Nat) (tx : Nat → Int) (ec : Nat) (eo : Int) (U : zSU) (S : zST) (hh : List zST) (kp : Option zST) (ou : List Nat) (n1 : Nat) (v2 : Int) (W : zLW p l s m args meth c E b0 L xs) (hi : i + 6 ≤ L) (hcs : ce + 1 ≤ room_1.cells ∧ sl + 6 ≤ room_1.slots) (hR : zRel σ (zDv.mk ni tx ec eo U S hh kp ou)) (hx1 : xs (i + 1) = (zI (n1 : Int))) (hx2 : xs (i + 2) = (zI v2)) (hi0 : n1 < U.nb) (hyi1 : -2147483648 ≤ v2 ∧ v2 < 2147483648) (hno2 : ¬ (0 ≤ v2 ∧ v2 ≤ 400000))  (kk : zNx p l e s m args below meth c E Q b0 i ce sl) : zV p l e room_1 s m args below meth c 9 E Q ce sl σ 1165 (lwL b0 i E) [] := by
  refine (?_ : zV p l e room_1 s m args below meth c 9 E Q ce sl σ 1165 [(0, .ref b0), (1, .ref (ob E 0)), (2, .ref (ob E 327)), (3, .ref (ob E 339)), (4, .ref (ob E 340)), (5, .int (zI (i : Int)))] [])
  have C := W.2.1
  have hfl := W.1
  have hroom : room_1.cells = 601024 ∧ room_1.slots = 7293034 := ⟨rfl, rfl⟩
  refine zv_aload_n C 1 dL_law_1165 rfl rfl ?_
  refine zv_aload_n C 0 dL_law_1166 rfl rfl ?_
  refine zv_iload C 5 dL_law_1167 rfl ?_
  refine zv_iconst (v := zI 1) C dL_law_1169 rfl ?_
  refine zv_iaddZ C dL_law_1170 ?_
  refine zv_sld (j := i + 1) (v := (zI (n1 : Int))) C W.2.2.1 W.2.2.2.1 W.2.2.2.2.1 W.2.2.2.2.2 (zI_ix (by omega)) (by omega) hx1 dL_law_1171 ?_
  refine zv_aload_n C 0 dL_law_1172 rfl rfl ?_
  refine zv_iload C 5 dL_law_1173 rfl ?_
  refine zv_iconst (v := zI 2) C dL_law_1175 rfl ?_
  refine zv_iaddZ C dL_law_1176 ?_
  refine zv_sld (j := i + 2) (v := (zI v2)) C W.2.2.1 W.2.2.2.1 W.2.2.2.2.1 W.2.2.2.2.2 (zI_ix (by omega)) (by omega) hx2 dL_law_1177 ?_
  refine zv_aload_n C 3 dL_law_1178 rfl rfl ?_
  refine zv_cH (st := []) C (w_x2_X10_trueAngle hfl E σ U S n1 v2 hR.1.2.2.1 (by first | assumption | omega) (by first | assumption | omega) (by first | assumption | omega)) mL_trueAngle kL_238 rfl ⟨rfl, rfl⟩ (show zfit (zrx 10 222) 5 room_1 = true from rfl) (Nat.le_of_ble_eq_true rfl) dL_law_1179 ⟨by exact hcs.1, by exact hcs.2⟩ (fun r1179 τ1179 hp1179 => ?_)
  obtain ⟨hr0, hP9⟩ := hp1179
  refine zv_eqi (y := zI 2) hr0 ?_
  have hF9 : zFr 318 327 σ τ1179 := by rw [hP9]; exact (by first | exact zFr_refl _ _ _ | exact zFr_rW (zFr_refl _ _ _) (by omega) | exact zFr_rW (zFr_rW (zFr_refl _ _ _) (by omega)) (by omega) | exact qW_f _ _ _ _ | exact qM_f _ _ _ _ _ | exact rW2_f _ _ _ _ _ | exact rW3_f _ _ _ _ _ | exact alW_f _ _ _ _ _ | (split <;> first | exact zFr_refl _ _ _ | exact bW_f _ _ _ _) | assumption)
  have hR1 : zRel τ1179 (zDv.mk ni tx ec eo U S hh kp ou) := zRel_c hR hF9
  refine zv_istore (lv' := [(6, .int (zI 2)), (0, .ref b0), (1, .ref (ob E 0)), (2, .ref (ob E 327)), (3, .ref (ob E 339)), (4, .ref (ob E 340)), (5, .int (zI (i : Int)))]) C dL_law_1182  (by decide) rfl ?_
  refine zv_aload_n C 3 dL_law_1184 rfl rfl ?_
  refine zv_aload_n C 1 dL_law_1185 rfl rfl ?_
  refine zv_iload C 6 dL_law_1186 rfl ?_
  refine zv_iconst (v := zI 1) C dL_law_1188 rfl ?_
  refine zv_iaddZ C dL_law_1189 ?_
  refine zv_sld (j := i + 1) (v := (zI (n1 : Int))) C W.2.2.1 W.2.2.2.1 W.2.2.2.2.1 W.2.2.2.2.2 (zI_ix (by omega)) (by omega) hx1 dL_law_1190 ?_
  refine zv_aload_n C 1 dL_law_1191 rfl rfl ?_
  refine zv_iload C 6 dL_law_1192 rfl ?_
  refine zv_iconst (v := zI 2) C dL_law_1194 rfl ?_
  refine zv_iaddZ C dL_law_1195 ?_
  refine zv_sld (j := i + 2) (v := (zI v2)) C W.2.2.1 W.2.2.2.1 W.2.2.2.2.1 W.2.2.2.2.2 (zI_ix (by omega)) (by omega) hx2 dL_law_1196 ?_
  refine zv_cvi (st := []) C (x2_X11_trueAngle hfl E τ1179 σ U n1 v2 hR1.2.2.2.1 hR.1.2.2.1 (by first | assumption | omega) (by first | assumption | omega) (by first | assumption | omega)) mX11_trueAngle kL_240 (by decide : kd 327 = 10) rfl rfl rfl ⟨rfl, rfl⟩ (show zfit (zrm 2 46) 3 room_1 = true from rfl) (Nat.le_of_ble_eq_true rfl) dL_law_1197 ⟨by omega, by omega⟩ (fun r1197 τ1197 hp1197 => ?_)
  obtain ⟨hr2, hK2⟩ := hp1197
  refine zv_eqi (y := zI 0) hr2 ?_
  have hR2 : zRel τ1197 (zDv.mk ni tx ec eo U S hh kp ou) := zRel_m hR1 hK2
  have ht2 : gI τ1197 327 10 = zI 2 := hK2.2
  have hJ2 : gJ τ1197 339 0 = gJ τ1179 339 0 := hK2.1.2.1 339 0 (by decide)
  have hD2 : gD τ1197 340 0 = gD τ1179 340 0 := hK2.1.2.2 340 0
  refine zv_istore (lv' := [(7, .int (zI 0)), (6, .int (zI 2)), (0, .ref b0), (1, .ref (ob E 0)), (2, .ref (ob E 327)), (3, .ref (ob E 339)), (4, .ref (ob E 340)), (5, .int (zI (i : Int)))]) C dL_law_1200  (by decide) rfl ?_
  refine zv_aload_n C 4 dL_law_1202 rfl rfl ?_
  refine zv_cviD (st := []) C (c_X11_thrown hfl E τ1197) mX11_thrown kL_200 (by decide : kd 327 = 10) rfl rfl rfl ⟨rfl, rfl⟩ (show zfit (zrm 0 0) 1 room_1 = true from rfl) (Nat.le_of_ble_eq_true rfl) dL_law_1203 ⟨by omega, by omega⟩ ?_
  refine zv_eqi (y := (zI 2)) (ht2) ?_
  refine zv_iload C 1 dL_law_1206 rfl ?_
  refine zv_icmp_eqZ (tgt := 1213) C (by omega) (by omega) dL_law_1208 (by decide) (fun h1208 => ?_) (fun h1208 => ?_)
  · skip
    refine zv_iload C 1 dL_law_1213 rfl ?_
    refine zv_if_neZ (tgt := 1230) C (by omega) dL_law_1215 (by decide) (fun h1215 => ?_) (fun h1215 => absurd h1215 (by decide))
    refine zv_goto (tgt := 3624) C dL_law_1230 (by decide) ?_
    refine zv_sub (lv' := [(0, .ref b0), (1, .ref (ob E 0)), (2, .ref (ob E 327)), (3, .ref (ob E 339)), (4, .ref (ob E 340)), (5, .int (zI (i : Int)))]) [2, 3, 4, 5, 6, 7] (zcons rfl (zcons rfl (zcons rfl (zcons rfl (zcons rfl (zcons rfl rfl)))))) ?_
    exact kk _ _ _ _ (by omega) (by omega) hR2
  · exfalso
    omega
theorem LK_17 {p : Program} {l : Launch} {e : Env} {s : State} {m : MethodId} {args : Array Value} {below : List Frame} {meth : Method} {c : Code} {E : zE} {Q : State → Prop} {b0 L i ce sl : Nat} {xs : Nat → Int32} {σ : zS} (ni : Nat) (tx : Nat → Int) (ec : Nat) (eo : Int) (U : zSU) (S : zST) (hh : List zST) (kp : Option zST) (ou : List Nat) (hFN : zFN) (W : zLW p l s m args meth c E b0 L xs) (hi : i + 6 ≤ L) (hcs : ce + 1 ≤ room_1.cells ∧ sl + 6 ≤ room_1.slots) (hR : zRel σ (zDv.mk ni tx ec eo U S hh kp ou)) (kk : zNx p l e s m args below meth c E Q b0 i ce sl) : zV p l e room_1 s m args below meth c 9 E Q ce sl σ 1165 (lwL b0 i E) [] := by
  obtain ⟨v1, hx1, hv1⟩ := zI_cov (xs (i + 1))
  obtain ⟨v2, hx2, hv2⟩ := zI_cov (xs (i + 2))
  by_cases g1 : 0 ≤ v1 ∧ v1 < U.nb
  case neg =>
    exact lw_trueAngle_x1_x1 _ _ _ _ _ _ _ _ _ _ _ W hi hcs hR hx1 hx2 (by first | assumption | omega) (by first | assumption | omega) kk
  obtain ⟨n1, rfl⟩ := Int.eq_ofNat_of_zero_le (show 0 ≤ v1 by omega)
  by_cases g2 : 0 ≤ v2 ∧ v2 ≤ 400000
  case neg =>
    exact lw_trueAngle_x2_x2 _ _ _ _ _ _ _ _ _ _ _ W hi hcs hR hx1 hx2 (by first | assumption | omega) (by first | assumption | omega) (by first | assumption | omega) kk
  obtain ⟨n2, rfl⟩ := Int.eq_ofNat_of_zero_le (show 0 ≤ v2 by omega)
  exact lw_trueAngle_c_c _ _ _ _ _ _ _ _ _ _ _ W hi hcs hR hx1 hx2 (by first | assumption | omega) (by first | assumption | omega) kk
theorem dL_law_1233 : decode cL_law 1233 = .ok (.aload_n 1, 1) := by decide +kernel
theorem dL_law_1234 : decode cL_law 1234 = .ok (.aload_n 0, 1) := by decide +kernel
theorem dL_law_1235 : decode cL_law 1235 = .ok (.iload 5, 2) := by decide +kernel
theorem dL_law_1237 : decode cL_law 1237 = .ok (.iconst 1, 1) := by decide +kernel
theorem dL_law_1238 : decode cL_law 1238 = .ok (.iadd, 1) := by decide +kernel
theorem dL_law_1239 : decode cL_law 1239 = .ok (.iaload, 1) := by decide +kernel
theorem dL_law_1240 : decode cL_law 1240 = .ok (.aload_n 3, 1) := by decide +kernel
theorem dL_law_1241 : decode cL_law 1241 = .ok (.invokestatic 241, 3) := by decide +kernel
theorem dL_law_1244 : decode cL_law 1244 = .ok (.istore 6, 2) := by decide +kernel
theorem dL_law_1246 : decode cL_law 1246 = .ok (.aload_n 2, 1) := by decide +kernel
theorem dL_law_1247 : decode cL_law 1247 = .ok (.aload_n 0, 1) := by decide +kernel
theorem dL_law_1248 : decode cL_law 1248 = .ok (.iload 5, 2) := by decide +kernel
theorem dL_law_1250 : decode cL_law 1250 = .ok (.iconst 1, 1) := by decide +kernel
theorem dL_law_1251 : decode cL_law 1251 = .ok (.iadd, 1) := by decide +kernel
theorem dL_law_1252 : decode cL_law 1252 = .ok (.iaload, 1) := by decide +kernel
theorem dL_law_1253 : decode cL_law 1253 = .ok (.invokevirtual 243, 3) := by decide +kernel
theorem dL_law_1256 : decode cL_law 1256 = .ok (.istore 7, 2) := by decide +kernel
theorem dL_law_1258 : decode cL_law 1258 = .ok (.aload_n 2, 1) := by decide +kernel
theorem dL_law_1259 : decode cL_law 1259 = .ok (.invokevirtual 200, 3) := by decide +kernel
theorem dL_law_1262 : decode cL_law 1262 = .ok (.iload 6, 2) := by decide +kernel
theorem dL_law_1264 : decode cL_law 1264 = .ok (.if_icmp .eq 5, 3) := by decide +kernel
theorem dL_law_1267 : decode cL_law 1267 = .ok (.iconst 0, 1) := by decide +kernel
theorem dL_law_1268 : decode cL_law 1268 = .ok (.ireturn, 1) := by decide +kernel
theorem dL_law_1269 : decode cL_law 1269 = .ok (.iload 6, 2) := by decide +kernel
theorem dL_law_1271 : decode cL_law 1271 = .ok (.ifCond .ne 15, 3) := by decide +kernel
theorem dL_law_1274 : decode cL_law 1274 = .ok (.aload_n 3, 1) := by decide +kernel
theorem dL_law_1275 : decode cL_law 1275 = .ok (.iconst 0, 1) := by decide +kernel
theorem dL_law_1276 : decode cL_law 1276 = .ok (.laload, 1) := by decide +kernel
theorem dL_law_1277 : decode cL_law 1277 = .ok (.iload 7, 2) := by decide +kernel
theorem dL_law_1279 : decode cL_law 1279 = .ok (.i2l, 1) := by decide +kernel
theorem dL_law_1280 : decode cL_law 1280 = .ok (.lcmp, 1) := by decide +kernel
theorem dL_law_1281 : decode cL_law 1281 = .ok (.ifCond .eq 5, 3) := by decide +kernel
theorem dL_law_1284 : decode cL_law 1284 = .ok (.iconst 0, 1) := by decide +kernel
theorem dL_law_1285 : decode cL_law 1285 = .ok (.ireturn, 1) := by decide +kernel
theorem dL_law_1286 : decode cL_law 1286 = .ok (.goto 2338, 3) := by decide +kernel
set_option maxRecDepth 20000 in
theorem lw_worst_c_c {p : Program} {l : Launch} {e : Env} {s : State} {m : MethodId} {args : Array Value} {below : List Frame} {meth : Method} {c : Code} {E : zE} {Q : State → Prop} {b0 L i ce sl : Nat} {xs : Nat → Int32} {σ : zS} (ni : Nat) (tx : Nat → Int) (ec : Nat) (eo : Int) (U : zSU) (S : zST) (hh : List zST) (kp : Option zST) (ou : List Nat) (v1 : Int) (W : zLW p l s m args meth c E b0 L xs) (hi : i + 6 ≤ L) (hcs : ce + 1 ≤ room_1.cells ∧ sl + 6 ≤ room_1.slots) (hR : zRel σ (zDv.mk ni tx ec eo U S hh kp ou)) (hx1 : xs (i + 1) = (zI v1)) (hy0 : U.s0 ≤ v1 ∧ v1 ≤ U.s0 + 999)  (kk : zNx p l e s m args below meth c E Q b0 i ce sl) : zV p l e room_1 s m args below meth c 9 E Q ce sl σ 1233 (lwL b0 i E) [] := by
  refine (?_ : zV p l e room_1 s m args below meth c 9 E Q ce sl σ 1233 [(0, .ref b0), (1, .ref (ob E 0)), (2, .ref (ob E 327)), (3, .ref (ob E 339)), (4, .ref (ob E 340)), (5, .int (zI (i : Int)))] [])
  have C := W.2.1
  have hfl := W.1
  have hroom : room_1.cells = 601024 ∧ room_1.slots = 7293034 := ⟨rfl, rfl⟩
  refine zv_aload_n C 1 dL_law_1233 rfl rfl ?_
  refine zv_aload_n C 0 dL_law_1234 rfl rfl ?_
  refine zv_iload C 5 dL_law_1235 rfl ?_
  refine zv_iconst (v := zI 1) C dL_law_1237 rfl ?_
  refine zv_iaddZ C dL_law_1238 ?_
  refine zv_sld (j := i + 1) (v := (zI v1)) C W.2.2.1 W.2.2.2.1 W.2.2.2.2.1 W.2.2.2.2.2 (zI_ix (by omega)) (by omega) hx1 dL_law_1239 ?_
  refine zv_aload_n C 3 dL_law_1240 rfl rfl ?_
  refine zv_cH (st := []) C (w_c_X10_worst hfl E σ U S v1 hR.1.2.2.1 hR.1.2.2.2.1.1 (by first | assumption | omega)) mL_worst kL_241 rfl ⟨rfl, rfl⟩ (show zfit (zrm 7 175) 4 room_1 = true from rfl) (Nat.le_of_ble_eq_true rfl) dL_law_1241 ⟨by omega, by omega⟩ (fun r1241 τ1241 hp1241 => ?_)
  obtain ⟨hr0, v9, υ9, hP9, hτ9⟩ := hp1241
  refine zv_eqi (y := zI 0) hr0 ?_
  obtain ⟨hv9, hW9⟩ := hP9
  have hF9 : zFr 318 327 σ υ9 := by first | exact hW9 | (rw [hW9]; exact (by first | exact zFr_refl _ _ _ | exact zFr_rW (zFr_refl _ _ _) (by omega) | exact zFr_rW (zFr_rW (zFr_refl _ _ _) (by omega)) (by omega) | exact qW_f _ _ _ _ | exact qM_f _ _ _ _ _ | exact rW2_f _ _ _ _ _ | exact rW3_f _ _ _ _ _ | exact alW_f _ _ _ _ _ | (split <;> first | exact zFr_refl _ _ _ | exact bW_f _ _ _ _) | assumption))
  have hR1 : zRel τ1241 (zDv.mk ni tx ec eo U S hh kp ou) := by rw [hτ9]; exact zRel_J (zRel_c hR hF9) _
  have ho9 : gJ τ1241 339 0 = v9.toInt64 := by rw [hτ9, gJ_sJ, if_pos ⟨rfl, rfl⟩]
  rw [hv9] at ho9
  refine zv_istore (lv' := [(6, .int (zI 0)), (0, .ref b0), (1, .ref (ob E 0)), (2, .ref (ob E 327)), (3, .ref (ob E 339)), (4, .ref (ob E 340)), (5, .int (zI (i : Int)))]) C dL_law_1244  (by decide) rfl ?_
  refine zv_aload_n C 3 dL_law_1246 rfl rfl ?_
  refine zv_aload_n C 1 dL_law_1247 rfl rfl ?_
  refine zv_iload C 6 dL_law_1248 rfl ?_
  refine zv_iconst (v := zI 1) C dL_law_1250 rfl ?_
  refine zv_iaddZ C dL_law_1251 ?_
  refine zv_sld (j := i + 1) (v := (zI v1)) C W.2.2.1 W.2.2.2.1 W.2.2.2.2.1 W.2.2.2.2.2 (zI_ix (by omega)) (by omega) hx1 dL_law_1252 ?_
  refine zv_cvi (st := []) C (c_X11_worst hfl E τ1241 σ U S v1 hR1.2.2.2.1 hR.1.2.2.1 hR1.2.2.2.2.2.1.1 hR.1.2.2.2.1.1 (by first | assumption | omega)) mX11_worst kL_243 (by decide : kd 327 = 10) rfl rfl rfl ⟨rfl, rfl⟩ (show zfit (zrm 3 68) 8 room_1 = true from rfl) (Nat.le_of_ble_eq_true rfl) dL_law_1253 ⟨by omega, by omega⟩ (fun r1253 τ1253 hp1253 => ?_)
  obtain ⟨hr2, hK2⟩ := hp1253
  refine zv_eqi (y := zI (dWor U S v1 U.nb).1) hr2 ?_
  have hR2 : zRel τ1253 (zDv.mk ni tx ec eo U S hh kp ou) := zRel_m hR1 hK2
  have ht2 : gI τ1253 327 10 = zI 0 := hK2.2
  have hJ2 : gJ τ1253 339 0 = gJ τ1241 339 0 := hK2.1.2.1 339 0 (by decide)
  have hD2 : gD τ1253 340 0 = gD τ1241 340 0 := hK2.1.2.2 340 0
  refine zv_istore (lv' := [(7, .int (zI (dWor U S v1 U.nb).1)), (6, .int (zI 0)), (0, .ref b0), (1, .ref (ob E 0)), (2, .ref (ob E 327)), (3, .ref (ob E 339)), (4, .ref (ob E 340)), (5, .int (zI (i : Int)))]) C dL_law_1256  (by decide) rfl ?_
  refine zv_aload_n C 4 dL_law_1258 rfl rfl ?_
  refine zv_cviD (st := []) C (c_X11_thrown hfl E τ1253) mX11_thrown kL_200 (by decide : kd 327 = 10) rfl rfl rfl ⟨rfl, rfl⟩ (show zfit (zrm 0 0) 1 room_1 = true from rfl) (Nat.le_of_ble_eq_true rfl) dL_law_1259 ⟨by omega, by omega⟩ ?_
  refine zv_eqi (y := (zI 0)) (ht2) ?_
  refine zv_iload C 1 dL_law_1262 rfl ?_
  refine zv_icmp_eqZ (tgt := 1269) C (by omega) (by omega) dL_law_1264 (by decide) (fun h1264 => ?_) (fun h1264 => ?_)
  · skip
    refine zv_iload C 1 dL_law_1269 rfl ?_
    refine zv_if_neZ (tgt := 1286) C (by omega) dL_law_1271 (by decide) (fun h1271 => absurd h1271 (by decide)) (fun h1271 => ?_)
    refine zv_aload_n C 5 dL_law_1274 rfl rfl ?_
    refine zv_iconst (v := zI 0) C dL_law_1275 rfl ?_
    refine zv_lald (j := 0) C (by decide : kd 339 = _) (zI_ix (by omega)) (by decide) dL_law_1276 ?_
    refine zv_eql (y := ((zI (dWor U S v1 U.nb).1).toInt64)) (hJ2.trans ho9) ?_
    refine zv_iload C 0 dL_law_1277 rfl ?_
    refine zv_i2l C dL_law_1279 ?_
    refine zv_lc_eq (tgt := 1286) C dL_law_1280 dL_law_1281 (by decide) (fun h1280 => ?_) (fun h1280 => ?_)
    · skip
      refine zv_goto (tgt := 3624) C dL_law_1286 (by decide) ?_
      refine zv_sub (lv' := [(0, .ref b0), (1, .ref (ob E 0)), (2, .ref (ob E 327)), (3, .ref (ob E 339)), (4, .ref (ob E 340)), (5, .int (zI (i : Int)))]) [2, 3, 4, 5, 6, 7] (zcons rfl (zcons rfl (zcons rfl (zcons rfl (zcons rfl (zcons rfl rfl)))))) ?_
      exact kk _ _ _ _ (by omega) (by omega) hR2
    · exfalso
      exact h1280 rfl
  · exfalso
    omega
set_option maxRecDepth 20000 in
theorem lw_worst_x1_x1 {p : Program} {l : Launch} {e : Env} {s : State} {m : MethodId} {args : Array Value} {below : List Frame} {meth : Method} {c : Code} {E : zE} {Q : State → Prop} {b0 L i ce sl : Nat} {xs : Nat → Int32} {σ : zS} (ni : Nat) (tx : Nat → Int) (ec : Nat) (eo : Int) (U : zSU) (S : zST) (hh : List zST) (kp : Option zST) (ou : List Nat) (v1 : Int) (W : zLW p l s m args meth c E b0 L xs) (hi : i + 6 ≤ L) (hcs : ce + 1 ≤ room_1.cells ∧ sl + 6 ≤ room_1.slots) (hR : zRel σ (zDv.mk ni tx ec eo U S hh kp ou)) (hx1 : xs (i + 1) = (zI v1)) (hyi0 : -2147483648 ≤ v1 ∧ v1 < 2147483648) (hno1 : ¬ (U.s0 ≤ v1 ∧ v1 ≤ U.s0 + 999))  (kk : zNx p l e s m args below meth c E Q b0 i ce sl) : zV p l e room_1 s m args below meth c 9 E Q ce sl σ 1233 (lwL b0 i E) [] := by
  refine (?_ : zV p l e room_1 s m args below meth c 9 E Q ce sl σ 1233 [(0, .ref b0), (1, .ref (ob E 0)), (2, .ref (ob E 327)), (3, .ref (ob E 339)), (4, .ref (ob E 340)), (5, .int (zI (i : Int)))] [])
  have C := W.2.1
  have hfl := W.1
  have hroom : room_1.cells = 601024 ∧ room_1.slots = 7293034 := ⟨rfl, rfl⟩
  refine zv_aload_n C 1 dL_law_1233 rfl rfl ?_
  refine zv_aload_n C 0 dL_law_1234 rfl rfl ?_
  refine zv_iload C 5 dL_law_1235 rfl ?_
  refine zv_iconst (v := zI 1) C dL_law_1237 rfl ?_
  refine zv_iaddZ C dL_law_1238 ?_
  refine zv_sld (j := i + 1) (v := (zI v1)) C W.2.2.1 W.2.2.2.1 W.2.2.2.2.1 W.2.2.2.2.2 (zI_ix (by omega)) (by omega) hx1 dL_law_1239 ?_
  refine zv_aload_n C 3 dL_law_1240 rfl rfl ?_
  refine zv_cH (st := []) C (w_x1_X10_worst hfl E σ U v1 hR.1.2.2.1 (by first | assumption | omega) (by first | assumption | omega)) mL_worst kL_241 rfl ⟨rfl, rfl⟩ (show zfit (zrx 10 227) 4 room_1 = true from rfl) (Nat.le_of_ble_eq_true rfl) dL_law_1241 ⟨by exact hcs.1, by exact hcs.2⟩ (fun r1241 τ1241 hp1241 => ?_)
  obtain ⟨hr0, hP9⟩ := hp1241
  refine zv_eqi (y := zI 1) hr0 ?_
  have hF9 : zFr 318 327 σ τ1241 := by rw [hP9]; exact (by first | exact zFr_refl _ _ _ | exact zFr_rW (zFr_refl _ _ _) (by omega) | exact zFr_rW (zFr_rW (zFr_refl _ _ _) (by omega)) (by omega) | exact qW_f _ _ _ _ | exact qM_f _ _ _ _ _ | exact rW2_f _ _ _ _ _ | exact rW3_f _ _ _ _ _ | exact alW_f _ _ _ _ _ | (split <;> first | exact zFr_refl _ _ _ | exact bW_f _ _ _ _) | assumption)
  have hR1 : zRel τ1241 (zDv.mk ni tx ec eo U S hh kp ou) := zRel_c hR hF9
  refine zv_istore (lv' := [(6, .int (zI 1)), (0, .ref b0), (1, .ref (ob E 0)), (2, .ref (ob E 327)), (3, .ref (ob E 339)), (4, .ref (ob E 340)), (5, .int (zI (i : Int)))]) C dL_law_1244  (by decide) rfl ?_
  refine zv_aload_n C 3 dL_law_1246 rfl rfl ?_
  refine zv_aload_n C 1 dL_law_1247 rfl rfl ?_
  refine zv_iload C 6 dL_law_1248 rfl ?_
  refine zv_iconst (v := zI 1) C dL_law_1250 rfl ?_
  refine zv_iaddZ C dL_law_1251 ?_
  refine zv_sld (j := i + 1) (v := (zI v1)) C W.2.2.1 W.2.2.2.1 W.2.2.2.2.1 W.2.2.2.2.2 (zI_ix (by omega)) (by omega) hx1 dL_law_1252 ?_
  refine zv_cvi (st := []) C (x1_X11_worst hfl E τ1241 σ U v1 hR1.2.2.2.1 hR.1.2.2.1 (by first | assumption | omega) (by first | assumption | omega)) mX11_worst kL_243 (by decide : kd 327 = 10) rfl rfl rfl ⟨rfl, rfl⟩ (show zfit (zrm 3 68) 8 room_1 = true from rfl) (Nat.le_of_ble_eq_true rfl) dL_law_1253 ⟨by omega, by omega⟩ (fun r1253 τ1253 hp1253 => ?_)
  obtain ⟨hr2, hK2⟩ := hp1253
  refine zv_eqi (y := zI 0) hr2 ?_
  have hR2 : zRel τ1253 (zDv.mk ni tx ec eo U S hh kp ou) := zRel_m hR1 hK2
  have ht2 : gI τ1253 327 10 = zI 1 := hK2.2
  have hJ2 : gJ τ1253 339 0 = gJ τ1241 339 0 := hK2.1.2.1 339 0 (by decide)
  have hD2 : gD τ1253 340 0 = gD τ1241 340 0 := hK2.1.2.2 340 0
  refine zv_istore (lv' := [(7, .int (zI 0)), (6, .int (zI 1)), (0, .ref b0), (1, .ref (ob E 0)), (2, .ref (ob E 327)), (3, .ref (ob E 339)), (4, .ref (ob E 340)), (5, .int (zI (i : Int)))]) C dL_law_1256  (by decide) rfl ?_
  refine zv_aload_n C 4 dL_law_1258 rfl rfl ?_
  refine zv_cviD (st := []) C (c_X11_thrown hfl E τ1253) mX11_thrown kL_200 (by decide : kd 327 = 10) rfl rfl rfl ⟨rfl, rfl⟩ (show zfit (zrm 0 0) 1 room_1 = true from rfl) (Nat.le_of_ble_eq_true rfl) dL_law_1259 ⟨by omega, by omega⟩ ?_
  refine zv_eqi (y := (zI 1)) (ht2) ?_
  refine zv_iload C 1 dL_law_1262 rfl ?_
  refine zv_icmp_eqZ (tgt := 1269) C (by omega) (by omega) dL_law_1264 (by decide) (fun h1264 => ?_) (fun h1264 => ?_)
  · skip
    refine zv_iload C 1 dL_law_1269 rfl ?_
    refine zv_if_neZ (tgt := 1286) C (by omega) dL_law_1271 (by decide) (fun h1271 => ?_) (fun h1271 => absurd h1271 (by decide))
    refine zv_goto (tgt := 3624) C dL_law_1286 (by decide) ?_
    refine zv_sub (lv' := [(0, .ref b0), (1, .ref (ob E 0)), (2, .ref (ob E 327)), (3, .ref (ob E 339)), (4, .ref (ob E 340)), (5, .int (zI (i : Int)))]) [2, 3, 4, 5, 6, 7] (zcons rfl (zcons rfl (zcons rfl (zcons rfl (zcons rfl (zcons rfl rfl)))))) ?_
    exact kk _ _ _ _ (by omega) (by omega) hR2
  · exfalso
    omega
theorem LK_18 {p : Program} {l : Launch} {e : Env} {s : State} {m : MethodId} {args : Array Value} {below : List Frame} {meth : Method} {c : Code} {E : zE} {Q : State → Prop} {b0 L i ce sl : Nat} {xs : Nat → Int32} {σ : zS} (ni : Nat) (tx : Nat → Int) (ec : Nat) (eo : Int) (U : zSU) (S : zST) (hh : List zST) (kp : Option zST) (ou : List Nat) (hFN : zFN) (W : zLW p l s m args meth c E b0 L xs) (hi : i + 6 ≤ L) (hcs : ce + 1 ≤ room_1.cells ∧ sl + 6 ≤ room_1.slots) (hR : zRel σ (zDv.mk ni tx ec eo U S hh kp ou)) (kk : zNx p l e s m args below meth c E Q b0 i ce sl) : zV p l e room_1 s m args below meth c 9 E Q ce sl σ 1233 (lwL b0 i E) [] := by
  obtain ⟨v1, hx1, hv1⟩ := zI_cov (xs (i + 1))
  by_cases g1 : U.s0 ≤ v1 ∧ v1 ≤ U.s0 + 999
  case neg =>
    exact lw_worst_x1_x1 _ _ _ _ _ _ _ _ _ _ W hi hcs hR hx1 (by first | assumption | omega) (by first | assumption | omega) kk
  exact lw_worst_c_c _ _ _ _ _ _ _ _ _ _ W hi hcs hR hx1 (by first | assumption | omega) kk
