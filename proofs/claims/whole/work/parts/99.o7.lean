/-! the law's cases -/
theorem dL_law_2836 : decode cL_law 2836 = .ok (.aload_n 1, 1) := by decide +kernel
theorem dL_law_2837 : decode cL_law 2837 = .ok (.aload_n 0, 1) := by decide +kernel
theorem dL_law_2838 : decode cL_law 2838 = .ok (.iload 5, 2) := by decide +kernel
theorem dL_law_2840 : decode cL_law 2840 = .ok (.iconst 1, 1) := by decide +kernel
theorem dL_law_2841 : decode cL_law 2841 = .ok (.iadd, 1) := by decide +kernel
theorem dL_law_2842 : decode cL_law 2842 = .ok (.iaload, 1) := by decide +kernel
theorem dL_law_2843 : decode cL_law 2843 = .ok (.aload_n 0, 1) := by decide +kernel
theorem dL_law_2844 : decode cL_law 2844 = .ok (.iload 5, 2) := by decide +kernel
theorem dL_law_2846 : decode cL_law 2846 = .ok (.iconst 2, 1) := by decide +kernel
theorem dL_law_2847 : decode cL_law 2847 = .ok (.iadd, 1) := by decide +kernel
theorem dL_law_2848 : decode cL_law 2848 = .ok (.iaload, 1) := by decide +kernel
theorem dL_law_2849 : decode cL_law 2849 = .ok (.aload_n 0, 1) := by decide +kernel
theorem dL_law_2850 : decode cL_law 2850 = .ok (.iload 5, 2) := by decide +kernel
theorem dL_law_2852 : decode cL_law 2852 = .ok (.iconst 3, 1) := by decide +kernel
theorem dL_law_2853 : decode cL_law 2853 = .ok (.iadd, 1) := by decide +kernel
theorem dL_law_2854 : decode cL_law 2854 = .ok (.iaload, 1) := by decide +kernel
theorem dL_law_2855 : decode cL_law 2855 = .ok (.aload_n 3, 1) := by decide +kernel
theorem dL_law_2856 : decode cL_law 2856 = .ok (.invokestatic 319, 3) := by decide +kernel
theorem dL_law_2859 : decode cL_law 2859 = .ok (.istore 6, 2) := by decide +kernel
theorem dL_law_2861 : decode cL_law 2861 = .ok (.aload_n 2, 1) := by decide +kernel
theorem dL_law_2862 : decode cL_law 2862 = .ok (.aload_n 0, 1) := by decide +kernel
theorem dL_law_2863 : decode cL_law 2863 = .ok (.iload 5, 2) := by decide +kernel
theorem dL_law_2865 : decode cL_law 2865 = .ok (.iconst 1, 1) := by decide +kernel
theorem dL_law_2866 : decode cL_law 2866 = .ok (.iadd, 1) := by decide +kernel
theorem dL_law_2867 : decode cL_law 2867 = .ok (.iaload, 1) := by decide +kernel
theorem dL_law_2868 : decode cL_law 2868 = .ok (.aload_n 0, 1) := by decide +kernel
theorem dL_law_2869 : decode cL_law 2869 = .ok (.iload 5, 2) := by decide +kernel
theorem dL_law_2871 : decode cL_law 2871 = .ok (.iconst 2, 1) := by decide +kernel
theorem dL_law_2872 : decode cL_law 2872 = .ok (.iadd, 1) := by decide +kernel
theorem dL_law_2873 : decode cL_law 2873 = .ok (.iaload, 1) := by decide +kernel
theorem dL_law_2874 : decode cL_law 2874 = .ok (.aload_n 0, 1) := by decide +kernel
theorem dL_law_2875 : decode cL_law 2875 = .ok (.iload 5, 2) := by decide +kernel
theorem dL_law_2877 : decode cL_law 2877 = .ok (.iconst 3, 1) := by decide +kernel
theorem dL_law_2878 : decode cL_law 2878 = .ok (.iadd, 1) := by decide +kernel
theorem dL_law_2879 : decode cL_law 2879 = .ok (.iaload, 1) := by decide +kernel
theorem dL_law_2880 : decode cL_law 2880 = .ok (.invokevirtual 321, 3) := by decide +kernel
theorem dL_law_2883 : decode cL_law 2883 = .ok (.istore 7, 2) := by decide +kernel
theorem dL_law_2885 : decode cL_law 2885 = .ok (.aload_n 2, 1) := by decide +kernel
theorem dL_law_2886 : decode cL_law 2886 = .ok (.invokevirtual 200, 3) := by decide +kernel
theorem dL_law_2889 : decode cL_law 2889 = .ok (.iload 6, 2) := by decide +kernel
theorem dL_law_2891 : decode cL_law 2891 = .ok (.if_icmp .eq 5, 3) := by decide +kernel
theorem dL_law_2894 : decode cL_law 2894 = .ok (.iconst 0, 1) := by decide +kernel
theorem dL_law_2895 : decode cL_law 2895 = .ok (.ireturn, 1) := by decide +kernel
theorem dL_law_2896 : decode cL_law 2896 = .ok (.iload 6, 2) := by decide +kernel
theorem dL_law_2898 : decode cL_law 2898 = .ok (.ifCond .ne 15, 3) := by decide +kernel
theorem dL_law_2901 : decode cL_law 2901 = .ok (.aload_n 3, 1) := by decide +kernel
theorem dL_law_2902 : decode cL_law 2902 = .ok (.iconst 0, 1) := by decide +kernel
theorem dL_law_2903 : decode cL_law 2903 = .ok (.laload, 1) := by decide +kernel
theorem dL_law_2904 : decode cL_law 2904 = .ok (.iload 7, 2) := by decide +kernel
theorem dL_law_2906 : decode cL_law 2906 = .ok (.i2l, 1) := by decide +kernel
theorem dL_law_2907 : decode cL_law 2907 = .ok (.lcmp, 1) := by decide +kernel
theorem dL_law_2908 : decode cL_law 2908 = .ok (.ifCond .eq 5, 3) := by decide +kernel
theorem dL_law_2911 : decode cL_law 2911 = .ok (.iconst 0, 1) := by decide +kernel
theorem dL_law_2912 : decode cL_law 2912 = .ok (.ireturn, 1) := by decide +kernel
theorem dL_law_2913 : decode cL_law 2913 = .ok (.goto 711, 3) := by decide +kernel
set_option maxRecDepth 20000 in
theorem lw_worstYear_c_c {p : Program} {l : Launch} {e : Env} {s : State} {m : MethodId} {args : Array Value} {below : List Frame} {meth : Method} {c : Code} {E : zE} {Q : State → Prop} {b0 L i ce sl : Nat} {xs : Nat → Int32} {σ : zS} (ni : Nat) (tx : Nat → Int) (ec : Nat) (eo : Int) (U : zSU) (S : zST) (hh : List zST) (kp : Option zST) (ou : List Nat) (n1 : Nat) (v2 : Int) (v3 : Int) (W : zLW p l s m args meth c E b0 L xs) (hi : i + 6 ≤ L) (hcs : ce + 1 ≤ room_1.cells ∧ sl + 6 ≤ room_1.slots) (hR : zRel σ (zDv.mk ni tx ec eo U S hh kp ou)) (hx1 : xs (i + 1) = (zI (n1 : Int))) (hx2 : xs (i + 2) = (zI v2)) (hx3 : xs (i + 3) = (zI v3)) (hi0 : n1 < U.nb) (ha1 : U.s0 ≤ v2 ∧ v2 ≤ U.s0 + 999) (hb2 : U.s0 ≤ v3 ∧ v3 ≤ U.s0 + 999) (hle3 : v2 ≤ v3)  (kk : zNx p l e s m args below meth c E Q b0 i ce sl) : zV p l e room_1 s m args below meth c 9 E Q ce sl σ 2836 (lwL b0 i E) [] := by
  refine (?_ : zV p l e room_1 s m args below meth c 9 E Q ce sl σ 2836 [(0, .ref b0), (1, .ref (ob E 0)), (2, .ref (ob E 327)), (3, .ref (ob E 339)), (4, .ref (ob E 340)), (5, .int (zI (i : Int)))] [])
  have C := W.2.1
  have hfl := W.1
  have hroom : room_1.cells = 601024 ∧ room_1.slots = 7293034 := ⟨rfl, rfl⟩
  refine zv_aload_n C 1 dL_law_2836 rfl rfl ?_
  refine zv_aload_n C 0 dL_law_2837 rfl rfl ?_
  refine zv_iload C 5 dL_law_2838 rfl ?_
  refine zv_iconst (v := zI 1) C dL_law_2840 rfl ?_
  refine zv_iaddZ C dL_law_2841 ?_
  refine zv_sld (j := i + 1) (v := (zI (n1 : Int))) C W.2.2.1 W.2.2.2.1 W.2.2.2.2.1 W.2.2.2.2.2 (zI_ix (by omega)) (by omega) hx1 dL_law_2842 ?_
  refine zv_aload_n C 0 dL_law_2843 rfl rfl ?_
  refine zv_iload C 5 dL_law_2844 rfl ?_
  refine zv_iconst (v := zI 2) C dL_law_2846 rfl ?_
  refine zv_iaddZ C dL_law_2847 ?_
  refine zv_sld (j := i + 2) (v := (zI v2)) C W.2.2.1 W.2.2.2.1 W.2.2.2.2.1 W.2.2.2.2.2 (zI_ix (by omega)) (by omega) hx2 dL_law_2848 ?_
  refine zv_aload_n C 0 dL_law_2849 rfl rfl ?_
  refine zv_iload C 5 dL_law_2850 rfl ?_
  refine zv_iconst (v := zI 3) C dL_law_2852 rfl ?_
  refine zv_iaddZ C dL_law_2853 ?_
  refine zv_sld (j := i + 3) (v := (zI v3)) C W.2.2.1 W.2.2.2.1 W.2.2.2.2.1 W.2.2.2.2.2 (zI_ix (by omega)) (by omega) hx3 dL_law_2854 ?_
  refine zv_aload_n C 3 dL_law_2855 rfl rfl ?_
  refine zv_cH (st := []) C (w_c_X10_worstYear hfl E σ U S n1 v2 v3 hR.1.2.2.1 hR.1.2.2.2.1.1 (by first | assumption | omega) (by first | assumption | omega) (by first | assumption | omega) (by first | assumption | omega)) mL_worstYear kL_319 rfl ⟨rfl, rfl⟩ (show zfit (zrm 6 156) 6 room_1 = true from rfl) (Nat.le_of_ble_eq_true rfl) dL_law_2856 ⟨by omega, by omega⟩ (fun r2856 τ2856 hp2856 => ?_)
  obtain ⟨hr0, v9, υ9, hP9, hτ9⟩ := hp2856
  refine zv_eqi (y := zI 0) hr0 ?_
  obtain ⟨hv9, hW9⟩ := hP9
  have hF9 : zFr 318 327 σ υ9 := by first | exact hW9 | (rw [hW9]; exact (by first | exact zFr_refl _ _ _ | exact zFr_rW (zFr_refl _ _ _) (by omega) | exact zFr_rW (zFr_rW (zFr_refl _ _ _) (by omega)) (by omega) | exact qW_f _ _ _ _ | exact qM_f _ _ _ _ _ | exact rW2_f _ _ _ _ _ | exact rW3_f _ _ _ _ _ | exact alW_f _ _ _ _ _ | (split <;> first | exact zFr_refl _ _ _ | exact bW_f _ _ _ _) | assumption))
  have hR1 : zRel τ2856 (zDv.mk ni tx ec eo U S hh kp ou) := by rw [hτ9]; exact zRel_J (zRel_c hR hF9) _
  have ho9 : gJ τ2856 339 0 = v9.toInt64 := by rw [hτ9, gJ_sJ, if_pos ⟨rfl, rfl⟩]
  rw [hv9] at ho9
  refine zv_istore (lv' := [(6, .int (zI 0)), (0, .ref b0), (1, .ref (ob E 0)), (2, .ref (ob E 327)), (3, .ref (ob E 339)), (4, .ref (ob E 340)), (5, .int (zI (i : Int)))]) C dL_law_2859  (by decide) rfl ?_
  refine zv_aload_n C 3 dL_law_2861 rfl rfl ?_
  refine zv_aload_n C 1 dL_law_2862 rfl rfl ?_
  refine zv_iload C 6 dL_law_2863 rfl ?_
  refine zv_iconst (v := zI 1) C dL_law_2865 rfl ?_
  refine zv_iaddZ C dL_law_2866 ?_
  refine zv_sld (j := i + 1) (v := (zI (n1 : Int))) C W.2.2.1 W.2.2.2.1 W.2.2.2.2.1 W.2.2.2.2.2 (zI_ix (by omega)) (by omega) hx1 dL_law_2867 ?_
  refine zv_aload_n C 1 dL_law_2868 rfl rfl ?_
  refine zv_iload C 6 dL_law_2869 rfl ?_
  refine zv_iconst (v := zI 2) C dL_law_2871 rfl ?_
  refine zv_iaddZ C dL_law_2872 ?_
  refine zv_sld (j := i + 2) (v := (zI v2)) C W.2.2.1 W.2.2.2.1 W.2.2.2.2.1 W.2.2.2.2.2 (zI_ix (by omega)) (by omega) hx2 dL_law_2873 ?_
  refine zv_aload_n C 1 dL_law_2874 rfl rfl ?_
  refine zv_iload C 6 dL_law_2875 rfl ?_
  refine zv_iconst (v := zI 3) C dL_law_2877 rfl ?_
  refine zv_iaddZ C dL_law_2878 ?_
  refine zv_sld (j := i + 3) (v := (zI v3)) C W.2.2.1 W.2.2.2.1 W.2.2.2.2.1 W.2.2.2.2.2 (zI_ix (by omega)) (by omega) hx3 dL_law_2879 ?_
  refine zv_cvi (st := []) C (c_X11_worstYear hfl E τ2856 σ U S n1 v2 v3 hR1.2.2.2.1 hR.1.2.2.1 hR1.2.2.2.2.2.1.1 hR.1.2.2.2.1.1 (by first | assumption | omega) (by first | assumption | omega) (by first | assumption | omega) (by first | assumption | omega)) mX11_worstYear kL_321 (by decide : kd 327 = 10) rfl rfl rfl ⟨rfl, rfl⟩ (show zfit (zrm 2 46) 6 room_1 = true from rfl) (Nat.le_of_ble_eq_true rfl) dL_law_2880 ⟨by omega, by omega⟩ (fun r2880 τ2880 hp2880 => ?_)
  obtain ⟨hr2, hK2⟩ := hp2880
  refine zv_eqi (y := zI (dWy U S n1 v2 ((v3 - v2).toNat + 1)).1) hr2 ?_
  have hR2 : zRel τ2880 (zDv.mk ni tx ec eo U S hh kp ou) := zRel_m hR1 hK2
  have ht2 : gI τ2880 327 10 = zI 0 := hK2.2
  have hJ2 : gJ τ2880 339 0 = gJ τ2856 339 0 := hK2.1.2.1 339 0 (by decide)
  have hD2 : gD τ2880 340 0 = gD τ2856 340 0 := hK2.1.2.2 340 0
  refine zv_istore (lv' := [(7, .int (zI (dWy U S n1 v2 ((v3 - v2).toNat + 1)).1)), (6, .int (zI 0)), (0, .ref b0), (1, .ref (ob E 0)), (2, .ref (ob E 327)), (3, .ref (ob E 339)), (4, .ref (ob E 340)), (5, .int (zI (i : Int)))]) C dL_law_2883  (by decide) rfl ?_
  refine zv_aload_n C 4 dL_law_2885 rfl rfl ?_
  refine zv_cviD (st := []) C (c_X11_thrown hfl E τ2880) mX11_thrown kL_200 (by decide : kd 327 = 10) rfl rfl rfl ⟨rfl, rfl⟩ (show zfit (zrm 0 0) 1 room_1 = true from rfl) (Nat.le_of_ble_eq_true rfl) dL_law_2886 ⟨by omega, by omega⟩ ?_
  refine zv_eqi (y := (zI 0)) (ht2) ?_
  refine zv_iload C 1 dL_law_2889 rfl ?_
  refine zv_icmp_eqZ (tgt := 2896) C (by omega) (by omega) dL_law_2891 (by decide) (fun h2891 => ?_) (fun h2891 => ?_)
  · skip
    refine zv_iload C 1 dL_law_2896 rfl ?_
    refine zv_if_neZ (tgt := 2913) C (by omega) dL_law_2898 (by decide) (fun h2898 => absurd h2898 (by decide)) (fun h2898 => ?_)
    refine zv_aload_n C 5 dL_law_2901 rfl rfl ?_
    refine zv_iconst (v := zI 0) C dL_law_2902 rfl ?_
    refine zv_lald (j := 0) C (by decide : kd 339 = _) (zI_ix (by omega)) (by decide) dL_law_2903 ?_
    refine zv_eql (y := ((zI (dWy U S n1 v2 ((v3 - v2).toNat + 1)).1).toInt64)) (hJ2.trans ho9) ?_
    refine zv_iload C 0 dL_law_2904 rfl ?_
    refine zv_i2l C dL_law_2906 ?_
    refine zv_lc_eq (tgt := 2913) C dL_law_2907 dL_law_2908 (by decide) (fun h2907 => ?_) (fun h2907 => ?_)
    · skip
      refine zv_goto (tgt := 3624) C dL_law_2913 (by decide) ?_
      refine zv_sub (lv' := [(0, .ref b0), (1, .ref (ob E 0)), (2, .ref (ob E 327)), (3, .ref (ob E 339)), (4, .ref (ob E 340)), (5, .int (zI (i : Int)))]) [2, 3, 4, 5, 6, 7] (zcons rfl (zcons rfl (zcons rfl (zcons rfl (zcons rfl (zcons rfl rfl)))))) ?_
      exact kk _ _ _ _ (by omega) (by omega) hR2
    · exfalso
      exact h2907 rfl
  · exfalso
    omega
set_option maxRecDepth 20000 in
theorem lw_worstYear_x1_x1 {p : Program} {l : Launch} {e : Env} {s : State} {m : MethodId} {args : Array Value} {below : List Frame} {meth : Method} {c : Code} {E : zE} {Q : State → Prop} {b0 L i ce sl : Nat} {xs : Nat → Int32} {σ : zS} (ni : Nat) (tx : Nat → Int) (ec : Nat) (eo : Int) (U : zSU) (S : zST) (hh : List zST) (kp : Option zST) (ou : List Nat) (v1 : Int) (v2 : Int) (v3 : Int) (W : zLW p l s m args meth c E b0 L xs) (hi : i + 6 ≤ L) (hcs : ce + 1 ≤ room_1.cells ∧ sl + 6 ≤ room_1.slots) (hR : zRel σ (zDv.mk ni tx ec eo U S hh kp ou)) (hx1 : xs (i + 1) = (zI v1)) (hx2 : xs (i + 2) = (zI v2)) (hx3 : xs (i + 3) = (zI v3)) (hbi0 : -2147483648 ≤ v1 ∧ v1 < 2147483648) (hno1 : ¬ (0 ≤ v1 ∧ v1 < U.nb))  (kk : zNx p l e s m args below meth c E Q b0 i ce sl) : zV p l e room_1 s m args below meth c 9 E Q ce sl σ 2836 (lwL b0 i E) [] := by
  refine (?_ : zV p l e room_1 s m args below meth c 9 E Q ce sl σ 2836 [(0, .ref b0), (1, .ref (ob E 0)), (2, .ref (ob E 327)), (3, .ref (ob E 339)), (4, .ref (ob E 340)), (5, .int (zI (i : Int)))] [])
  have C := W.2.1
  have hfl := W.1
  have hroom : room_1.cells = 601024 ∧ room_1.slots = 7293034 := ⟨rfl, rfl⟩
  refine zv_aload_n C 1 dL_law_2836 rfl rfl ?_
  refine zv_aload_n C 0 dL_law_2837 rfl rfl ?_
  refine zv_iload C 5 dL_law_2838 rfl ?_
  refine zv_iconst (v := zI 1) C dL_law_2840 rfl ?_
  refine zv_iaddZ C dL_law_2841 ?_
  refine zv_sld (j := i + 1) (v := (zI v1)) C W.2.2.1 W.2.2.2.1 W.2.2.2.2.1 W.2.2.2.2.2 (zI_ix (by omega)) (by omega) hx1 dL_law_2842 ?_
  refine zv_aload_n C 0 dL_law_2843 rfl rfl ?_
  refine zv_iload C 5 dL_law_2844 rfl ?_
  refine zv_iconst (v := zI 2) C dL_law_2846 rfl ?_
  refine zv_iaddZ C dL_law_2847 ?_
  refine zv_sld (j := i + 2) (v := (zI v2)) C W.2.2.1 W.2.2.2.1 W.2.2.2.2.1 W.2.2.2.2.2 (zI_ix (by omega)) (by omega) hx2 dL_law_2848 ?_
  refine zv_aload_n C 0 dL_law_2849 rfl rfl ?_
  refine zv_iload C 5 dL_law_2850 rfl ?_
  refine zv_iconst (v := zI 3) C dL_law_2852 rfl ?_
  refine zv_iaddZ C dL_law_2853 ?_
  refine zv_sld (j := i + 3) (v := (zI v3)) C W.2.2.1 W.2.2.2.1 W.2.2.2.2.1 W.2.2.2.2.2 (zI_ix (by omega)) (by omega) hx3 dL_law_2854 ?_
  refine zv_aload_n C 3 dL_law_2855 rfl rfl ?_
  refine zv_cH (st := []) C (w_x1_X10_worstYear hfl E σ U v1 v2 v3 hR.1.2.2.1 (by first | assumption | omega) (by first | assumption | omega)) mL_worstYear kL_319 rfl ⟨rfl, rfl⟩ (show zfit (zrx 12 290) 6 room_1 = true from rfl) (Nat.le_of_ble_eq_true rfl) dL_law_2856 ⟨by exact hcs.1, by exact hcs.2⟩ (fun r2856 τ2856 hp2856 => ?_)
  obtain ⟨hr0, hP9⟩ := hp2856
  refine zv_eqi (y := zI 1) hr0 ?_
  have hF9 : zFr 318 327 σ τ2856 := by rw [hP9]; exact (by first | exact zFr_refl _ _ _ | exact zFr_rW (zFr_refl _ _ _) (by omega) | exact zFr_rW (zFr_rW (zFr_refl _ _ _) (by omega)) (by omega) | exact qW_f _ _ _ _ | exact qM_f _ _ _ _ _ | exact rW2_f _ _ _ _ _ | exact rW3_f _ _ _ _ _ | exact alW_f _ _ _ _ _ | (split <;> first | exact zFr_refl _ _ _ | exact bW_f _ _ _ _) | assumption)
  have hR1 : zRel τ2856 (zDv.mk ni tx ec eo U S hh kp ou) := zRel_c hR hF9
  refine zv_istore (lv' := [(6, .int (zI 1)), (0, .ref b0), (1, .ref (ob E 0)), (2, .ref (ob E 327)), (3, .ref (ob E 339)), (4, .ref (ob E 340)), (5, .int (zI (i : Int)))]) C dL_law_2859  (by decide) rfl ?_
  refine zv_aload_n C 3 dL_law_2861 rfl rfl ?_
  refine zv_aload_n C 1 dL_law_2862 rfl rfl ?_
  refine zv_iload C 6 dL_law_2863 rfl ?_
  refine zv_iconst (v := zI 1) C dL_law_2865 rfl ?_
  refine zv_iaddZ C dL_law_2866 ?_
  refine zv_sld (j := i + 1) (v := (zI v1)) C W.2.2.1 W.2.2.2.1 W.2.2.2.2.1 W.2.2.2.2.2 (zI_ix (by omega)) (by omega) hx1 dL_law_2867 ?_
  refine zv_aload_n C 1 dL_law_2868 rfl rfl ?_
  refine zv_iload C 6 dL_law_2869 rfl ?_
  refine zv_iconst (v := zI 2) C dL_law_2871 rfl ?_
  refine zv_iaddZ C dL_law_2872 ?_
  refine zv_sld (j := i + 2) (v := (zI v2)) C W.2.2.1 W.2.2.2.1 W.2.2.2.2.1 W.2.2.2.2.2 (zI_ix (by omega)) (by omega) hx2 dL_law_2873 ?_
  refine zv_aload_n C 1 dL_law_2874 rfl rfl ?_
  refine zv_iload C 6 dL_law_2875 rfl ?_
  refine zv_iconst (v := zI 3) C dL_law_2877 rfl ?_
  refine zv_iaddZ C dL_law_2878 ?_
  refine zv_sld (j := i + 3) (v := (zI v3)) C W.2.2.1 W.2.2.2.1 W.2.2.2.2.1 W.2.2.2.2.2 (zI_ix (by omega)) (by omega) hx3 dL_law_2879 ?_
  refine zv_cvi (st := []) C (x1_X11_worstYear hfl E τ2856 σ U v1 v2 v3 hR1.2.2.2.1 hR.1.2.2.1 (by first | assumption | omega) (by first | assumption | omega)) mX11_worstYear kL_321 (by decide : kd 327 = 10) rfl rfl rfl ⟨rfl, rfl⟩ (show zfit (zrm 2 46) 6 room_1 = true from rfl) (Nat.le_of_ble_eq_true rfl) dL_law_2880 ⟨by omega, by omega⟩ (fun r2880 τ2880 hp2880 => ?_)
  obtain ⟨hr2, hK2⟩ := hp2880
  refine zv_eqi (y := zI 0) hr2 ?_
  have hR2 : zRel τ2880 (zDv.mk ni tx ec eo U S hh kp ou) := zRel_m hR1 hK2
  have ht2 : gI τ2880 327 10 = zI 1 := hK2.2
  have hJ2 : gJ τ2880 339 0 = gJ τ2856 339 0 := hK2.1.2.1 339 0 (by decide)
  have hD2 : gD τ2880 340 0 = gD τ2856 340 0 := hK2.1.2.2 340 0
  refine zv_istore (lv' := [(7, .int (zI 0)), (6, .int (zI 1)), (0, .ref b0), (1, .ref (ob E 0)), (2, .ref (ob E 327)), (3, .ref (ob E 339)), (4, .ref (ob E 340)), (5, .int (zI (i : Int)))]) C dL_law_2883  (by decide) rfl ?_
  refine zv_aload_n C 4 dL_law_2885 rfl rfl ?_
  refine zv_cviD (st := []) C (c_X11_thrown hfl E τ2880) mX11_thrown kL_200 (by decide : kd 327 = 10) rfl rfl rfl ⟨rfl, rfl⟩ (show zfit (zrm 0 0) 1 room_1 = true from rfl) (Nat.le_of_ble_eq_true rfl) dL_law_2886 ⟨by omega, by omega⟩ ?_
  refine zv_eqi (y := (zI 1)) (ht2) ?_
  refine zv_iload C 1 dL_law_2889 rfl ?_
  refine zv_icmp_eqZ (tgt := 2896) C (by omega) (by omega) dL_law_2891 (by decide) (fun h2891 => ?_) (fun h2891 => ?_)
  · skip
    refine zv_iload C 1 dL_law_2896 rfl ?_
    refine zv_if_neZ (tgt := 2913) C (by omega) dL_law_2898 (by decide) (fun h2898 => ?_) (fun h2898 => absurd h2898 (by decide))
    refine zv_goto (tgt := 3624) C dL_law_2913 (by decide) ?_
    refine zv_sub (lv' := [(0, .ref b0), (1, .ref (ob E 0)), (2, .ref (ob E 327)), (3, .ref (ob E 339)), (4, .ref (ob E 340)), (5, .int (zI (i : Int)))]) [2, 3, 4, 5, 6, 7] (zcons rfl (zcons rfl (zcons rfl (zcons rfl (zcons rfl (zcons rfl rfl)))))) ?_
    exact kk _ _ _ _ (by omega) (by omega) hR2
  · exfalso
    omega
set_option maxRecDepth 20000 in
theorem lw_worstYear_x2_x2 {p : Program} {l : Launch} {e : Env} {s : State} {m : MethodId} {args : Array Value} {below : List Frame} {meth : Method} {c : Code} {E : zE} {Q : State → Prop} {b0 L i ce sl : Nat} {xs : Nat → Int32} {σ : zS} (ni : Nat) (tx : Nat → Int) (ec : Nat) (eo : Int) (U : zSU) (S : zST) (hh : List zST) (kp : Option zST) (ou : List Nat) (n1 : Nat) (v2 : Int) (v3 : Int) (W : zLW p l s m args meth c E b0 L xs) (hi : i + 6 ≤ L) (hcs : ce + 1 ≤ room_1.cells ∧ sl + 6 ≤ room_1.slots) (hR : zRel σ (zDv.mk ni tx ec eo U S hh kp ou)) (hx1 : xs (i + 1) = (zI (n1 : Int))) (hx2 : xs (i + 2) = (zI v2)) (hx3 : xs (i + 3) = (zI v3)) (hi0 : n1 < U.nb) (hyi1 : -2147483648 ≤ v2 ∧ v2 < 2147483648) (hzi2 : -2147483648 ≤ v3 ∧ v3 < 2147483648) (hno3 : ¬ (U.s0 ≤ v2 ∧ v2 ≤ U.s0 + 999))  (kk : zNx p l e s m args below meth c E Q b0 i ce sl) : zV p l e room_1 s m args below meth c 9 E Q ce sl σ 2836 (lwL b0 i E) [] := by
  refine (?_ : zV p l e room_1 s m args below meth c 9 E Q ce sl σ 2836 [(0, .ref b0), (1, .ref (ob E 0)), (2, .ref (ob E 327)), (3, .ref (ob E 339)), (4, .ref (ob E 340)), (5, .int (zI (i : Int)))] [])
  have C := W.2.1
  have hfl := W.1
  have hroom : room_1.cells = 601024 ∧ room_1.slots = 7293034 := ⟨rfl, rfl⟩
  refine zv_aload_n C 1 dL_law_2836 rfl rfl ?_
  refine zv_aload_n C 0 dL_law_2837 rfl rfl ?_
  refine zv_iload C 5 dL_law_2838 rfl ?_
  refine zv_iconst (v := zI 1) C dL_law_2840 rfl ?_
  refine zv_iaddZ C dL_law_2841 ?_
  refine zv_sld (j := i + 1) (v := (zI (n1 : Int))) C W.2.2.1 W.2.2.2.1 W.2.2.2.2.1 W.2.2.2.2.2 (zI_ix (by omega)) (by omega) hx1 dL_law_2842 ?_
  refine zv_aload_n C 0 dL_law_2843 rfl rfl ?_
  refine zv_iload C 5 dL_law_2844 rfl ?_
  refine zv_iconst (v := zI 2) C dL_law_2846 rfl ?_
  refine zv_iaddZ C dL_law_2847 ?_
  refine zv_sld (j := i + 2) (v := (zI v2)) C W.2.2.1 W.2.2.2.1 W.2.2.2.2.1 W.2.2.2.2.2 (zI_ix (by omega)) (by omega) hx2 dL_law_2848 ?_
  refine zv_aload_n C 0 dL_law_2849 rfl rfl ?_
  refine zv_iload C 5 dL_law_2850 rfl ?_
  refine zv_iconst (v := zI 3) C dL_law_2852 rfl ?_
  refine zv_iaddZ C dL_law_2853 ?_
  refine zv_sld (j := i + 3) (v := (zI v3)) C W.2.2.1 W.2.2.2.1 W.2.2.2.2.1 W.2.2.2.2.2 (zI_ix (by omega)) (by omega) hx3 dL_law_2854 ?_
  refine zv_aload_n C 3 dL_law_2855 rfl rfl ?_
  refine zv_cH (st := []) C (w_x2_X10_worstYear hfl E σ U n1 v2 v3 hR.1.2.2.1 (by first | assumption | omega) (by first | assumption | omega) (by first | assumption | omega) (by first | assumption | omega)) mL_worstYear kL_319 rfl ⟨rfl, rfl⟩ (show zfit (zrx 12 290) 6 room_1 = true from rfl) (Nat.le_of_ble_eq_true rfl) dL_law_2856 ⟨by exact hcs.1, by exact hcs.2⟩ (fun r2856 τ2856 hp2856 => ?_)
  obtain ⟨hr0, hP9⟩ := hp2856
  refine zv_eqi (y := zI 2) hr0 ?_
  have hF9 : zFr 318 327 σ τ2856 := by rw [hP9]; exact (by first | exact zFr_refl _ _ _ | exact zFr_rW (zFr_refl _ _ _) (by omega) | exact zFr_rW (zFr_rW (zFr_refl _ _ _) (by omega)) (by omega) | exact qW_f _ _ _ _ | exact qM_f _ _ _ _ _ | exact rW2_f _ _ _ _ _ | exact rW3_f _ _ _ _ _ | exact alW_f _ _ _ _ _ | (split <;> first | exact zFr_refl _ _ _ | exact bW_f _ _ _ _) | assumption)
  have hR1 : zRel τ2856 (zDv.mk ni tx ec eo U S hh kp ou) := zRel_c hR hF9
  refine zv_istore (lv' := [(6, .int (zI 2)), (0, .ref b0), (1, .ref (ob E 0)), (2, .ref (ob E 327)), (3, .ref (ob E 339)), (4, .ref (ob E 340)), (5, .int (zI (i : Int)))]) C dL_law_2859  (by decide) rfl ?_
  refine zv_aload_n C 3 dL_law_2861 rfl rfl ?_
  refine zv_aload_n C 1 dL_law_2862 rfl rfl ?_
  refine zv_iload C 6 dL_law_2863 rfl ?_
  refine zv_iconst (v := zI 1) C dL_law_2865 rfl ?_
  refine zv_iaddZ C dL_law_2866 ?_
  refine zv_sld (j := i + 1) (v := (zI (n1 : Int))) C W.2.2.1 W.2.2.2.1 W.2.2.2.2.1 W.2.2.2.2.2 (zI_ix (by omega)) (by omega) hx1 dL_law_2867 ?_
  refine zv_aload_n C 1 dL_law_2868 rfl rfl ?_
  refine zv_iload C 6 dL_law_2869 rfl ?_
  refine zv_iconst (v := zI 2) C dL_law_2871 rfl ?_
  refine zv_iaddZ C dL_law_2872 ?_
  refine zv_sld (j := i + 2) (v := (zI v2)) C W.2.2.1 W.2.2.2.1 W.2.2.2.2.1 W.2.2.2.2.2 (zI_ix (by omega)) (by omega) hx2 dL_law_2873 ?_
  refine zv_aload_n C 1 dL_law_2874 rfl rfl ?_
  refine zv_iload C 6 dL_law_2875 rfl ?_
  refine zv_iconst (v := zI 3) C dL_law_2877 rfl ?_
  refine zv_iaddZ C dL_law_2878 ?_
  refine zv_sld (j := i + 3) (v := (zI v3)) C W.2.2.1 W.2.2.2.1 W.2.2.2.2.1 W.2.2.2.2.2 (zI_ix (by omega)) (by omega) hx3 dL_law_2879 ?_
  refine zv_cvi (st := []) C (x2_X11_worstYear hfl E τ2856 σ U n1 v2 v3 hR1.2.2.2.1 hR.1.2.2.1 (by first | assumption | omega) (by first | assumption | omega) (by first | assumption | omega) (by first | assumption | omega)) mX11_worstYear kL_321 (by decide : kd 327 = 10) rfl rfl rfl ⟨rfl, rfl⟩ (show zfit (zrm 2 46) 6 room_1 = true from rfl) (Nat.le_of_ble_eq_true rfl) dL_law_2880 ⟨by omega, by omega⟩ (fun r2880 τ2880 hp2880 => ?_)
  obtain ⟨hr2, hK2⟩ := hp2880
  refine zv_eqi (y := zI 0) hr2 ?_
  have hR2 : zRel τ2880 (zDv.mk ni tx ec eo U S hh kp ou) := zRel_m hR1 hK2
  have ht2 : gI τ2880 327 10 = zI 2 := hK2.2
  have hJ2 : gJ τ2880 339 0 = gJ τ2856 339 0 := hK2.1.2.1 339 0 (by decide)
  have hD2 : gD τ2880 340 0 = gD τ2856 340 0 := hK2.1.2.2 340 0
  refine zv_istore (lv' := [(7, .int (zI 0)), (6, .int (zI 2)), (0, .ref b0), (1, .ref (ob E 0)), (2, .ref (ob E 327)), (3, .ref (ob E 339)), (4, .ref (ob E 340)), (5, .int (zI (i : Int)))]) C dL_law_2883  (by decide) rfl ?_
  refine zv_aload_n C 4 dL_law_2885 rfl rfl ?_
  refine zv_cviD (st := []) C (c_X11_thrown hfl E τ2880) mX11_thrown kL_200 (by decide : kd 327 = 10) rfl rfl rfl ⟨rfl, rfl⟩ (show zfit (zrm 0 0) 1 room_1 = true from rfl) (Nat.le_of_ble_eq_true rfl) dL_law_2886 ⟨by omega, by omega⟩ ?_
  refine zv_eqi (y := (zI 2)) (ht2) ?_
  refine zv_iload C 1 dL_law_2889 rfl ?_
  refine zv_icmp_eqZ (tgt := 2896) C (by omega) (by omega) dL_law_2891 (by decide) (fun h2891 => ?_) (fun h2891 => ?_)
  · skip
    refine zv_iload C 1 dL_law_2896 rfl ?_
    refine zv_if_neZ (tgt := 2913) C (by omega) dL_law_2898 (by decide) (fun h2898 => ?_) (fun h2898 => absurd h2898 (by decide))
    refine zv_goto (tgt := 3624) C dL_law_2913 (by decide) ?_
    refine zv_sub (lv' := [(0, .ref b0), (1, .ref (ob E 0)), (2, .ref (ob E 327)), (3, .ref (ob E 339)), (4, .ref (ob E 340)), (5, .int (zI (i : Int)))]) [2, 3, 4, 5, 6, 7] (zcons rfl (zcons rfl (zcons rfl (zcons rfl (zcons rfl (zcons rfl rfl)))))) ?_
    exact kk _ _ _ _ (by omega) (by omega) hR2
  · exfalso
    omega
set_option maxRecDepth 20000 in
theorem lw_worstYear_x3_x2 {p : Program} {l : Launch} {e : Env} {s : State} {m : MethodId} {args : Array Value} {below : List Frame} {meth : Method} {c : Code} {E : zE} {Q : State → Prop} {b0 L i ce sl : Nat} {xs : Nat → Int32} {σ : zS} (ni : Nat) (tx : Nat → Int) (ec : Nat) (eo : Int) (U : zSU) (S : zST) (hh : List zST) (kp : Option zST) (ou : List Nat) (n1 : Nat) (v2 : Int) (v3 : Int) (W : zLW p l s m args meth c E b0 L xs) (hi : i + 6 ≤ L) (hcs : ce + 1 ≤ room_1.cells ∧ sl + 6 ≤ room_1.slots) (hR : zRel σ (zDv.mk ni tx ec eo U S hh kp ou)) (hx1 : xs (i + 1) = (zI (n1 : Int))) (hx2 : xs (i + 2) = (zI v2)) (hx3 : xs (i + 3) = (zI v3)) (hi0 : n1 < U.nb) (hyi1 : -2147483648 ≤ v2 ∧ v2 < 2147483648) (hzi2 : -2147483648 ≤ v3 ∧ v3 < 2147483648) (hy3 : U.s0 ≤ v2 ∧ v2 ≤ U.s0 + 999) (hno4 : ¬ (U.s0 ≤ v3 ∧ v3 ≤ U.s0 + 999))  (kk : zNx p l e s m args below meth c E Q b0 i ce sl) : zV p l e room_1 s m args below meth c 9 E Q ce sl σ 2836 (lwL b0 i E) [] := by
  refine (?_ : zV p l e room_1 s m args below meth c 9 E Q ce sl σ 2836 [(0, .ref b0), (1, .ref (ob E 0)), (2, .ref (ob E 327)), (3, .ref (ob E 339)), (4, .ref (ob E 340)), (5, .int (zI (i : Int)))] [])
  have C := W.2.1
  have hfl := W.1
  have hroom : room_1.cells = 601024 ∧ room_1.slots = 7293034 := ⟨rfl, rfl⟩
  refine zv_aload_n C 1 dL_law_2836 rfl rfl ?_
  refine zv_aload_n C 0 dL_law_2837 rfl rfl ?_
  refine zv_iload C 5 dL_law_2838 rfl ?_
  refine zv_iconst (v := zI 1) C dL_law_2840 rfl ?_
  refine zv_iaddZ C dL_law_2841 ?_
  refine zv_sld (j := i + 1) (v := (zI (n1 : Int))) C W.2.2.1 W.2.2.2.1 W.2.2.2.2.1 W.2.2.2.2.2 (zI_ix (by omega)) (by omega) hx1 dL_law_2842 ?_
  refine zv_aload_n C 0 dL_law_2843 rfl rfl ?_
  refine zv_iload C 5 dL_law_2844 rfl ?_
  refine zv_iconst (v := zI 2) C dL_law_2846 rfl ?_
  refine zv_iaddZ C dL_law_2847 ?_
  refine zv_sld (j := i + 2) (v := (zI v2)) C W.2.2.1 W.2.2.2.1 W.2.2.2.2.1 W.2.2.2.2.2 (zI_ix (by omega)) (by omega) hx2 dL_law_2848 ?_
  refine zv_aload_n C 0 dL_law_2849 rfl rfl ?_
  refine zv_iload C 5 dL_law_2850 rfl ?_
  refine zv_iconst (v := zI 3) C dL_law_2852 rfl ?_
  refine zv_iaddZ C dL_law_2853 ?_
  refine zv_sld (j := i + 3) (v := (zI v3)) C W.2.2.1 W.2.2.2.1 W.2.2.2.2.1 W.2.2.2.2.2 (zI_ix (by omega)) (by omega) hx3 dL_law_2854 ?_
  refine zv_aload_n C 3 dL_law_2855 rfl rfl ?_
  refine zv_cH (st := []) C (w_x3_X10_worstYear hfl E σ U n1 v2 v3 hR.1.2.2.1 (by first | assumption | omega) (by first | assumption | omega) (by first | assumption | omega) (by first | assumption | omega) (by first | assumption | omega)) mL_worstYear kL_319 rfl ⟨rfl, rfl⟩ (show zfit (zrx 12 290) 6 room_1 = true from rfl) (Nat.le_of_ble_eq_true rfl) dL_law_2856 ⟨by exact hcs.1, by exact hcs.2⟩ (fun r2856 τ2856 hp2856 => ?_)
  obtain ⟨hr0, hP9⟩ := hp2856
  refine zv_eqi (y := zI 2) hr0 ?_
  have hF9 : zFr 318 327 σ τ2856 := by rw [hP9]; exact (by first | exact zFr_refl _ _ _ | exact zFr_rW (zFr_refl _ _ _) (by omega) | exact zFr_rW (zFr_rW (zFr_refl _ _ _) (by omega)) (by omega) | exact qW_f _ _ _ _ | exact qM_f _ _ _ _ _ | exact rW2_f _ _ _ _ _ | exact rW3_f _ _ _ _ _ | exact alW_f _ _ _ _ _ | (split <;> first | exact zFr_refl _ _ _ | exact bW_f _ _ _ _) | assumption)
  have hR1 : zRel τ2856 (zDv.mk ni tx ec eo U S hh kp ou) := zRel_c hR hF9
  refine zv_istore (lv' := [(6, .int (zI 2)), (0, .ref b0), (1, .ref (ob E 0)), (2, .ref (ob E 327)), (3, .ref (ob E 339)), (4, .ref (ob E 340)), (5, .int (zI (i : Int)))]) C dL_law_2859  (by decide) rfl ?_
  refine zv_aload_n C 3 dL_law_2861 rfl rfl ?_
  refine zv_aload_n C 1 dL_law_2862 rfl rfl ?_
  refine zv_iload C 6 dL_law_2863 rfl ?_
  refine zv_iconst (v := zI 1) C dL_law_2865 rfl ?_
  refine zv_iaddZ C dL_law_2866 ?_
  refine zv_sld (j := i + 1) (v := (zI (n1 : Int))) C W.2.2.1 W.2.2.2.1 W.2.2.2.2.1 W.2.2.2.2.2 (zI_ix (by omega)) (by omega) hx1 dL_law_2867 ?_
  refine zv_aload_n C 1 dL_law_2868 rfl rfl ?_
  refine zv_iload C 6 dL_law_2869 rfl ?_
  refine zv_iconst (v := zI 2) C dL_law_2871 rfl ?_
  refine zv_iaddZ C dL_law_2872 ?_
  refine zv_sld (j := i + 2) (v := (zI v2)) C W.2.2.1 W.2.2.2.1 W.2.2.2.2.1 W.2.2.2.2.2 (zI_ix (by omega)) (by omega) hx2 dL_law_2873 ?_
  refine zv_aload_n C 1 dL_law_2874 rfl rfl ?_
  refine zv_iload C 6 dL_law_2875 rfl ?_
  refine zv_iconst (v := zI 3) C dL_law_2877 rfl ?_
  refine zv_iaddZ C dL_law_2878 ?_
  refine zv_sld (j := i + 3) (v := (zI v3)) C W.2.2.1 W.2.2.2.1 W.2.2.2.2.1 W.2.2.2.2.2 (zI_ix (by omega)) (by omega) hx3 dL_law_2879 ?_
  refine zv_cvi (st := []) C (x2_X11_worstYear hfl E τ2856 σ U n1 v2 v3 hR1.2.2.2.1 hR.1.2.2.1 (by first | assumption | omega) (by first | assumption | omega) (by first | assumption | omega) (by first | assumption | omega)) mX11_worstYear kL_321 (by decide : kd 327 = 10) rfl rfl rfl ⟨rfl, rfl⟩ (show zfit (zrm 2 46) 6 room_1 = true from rfl) (Nat.le_of_ble_eq_true rfl) dL_law_2880 ⟨by omega, by omega⟩ (fun r2880 τ2880 hp2880 => ?_)
  obtain ⟨hr2, hK2⟩ := hp2880
  refine zv_eqi (y := zI 0) hr2 ?_
  have hR2 : zRel τ2880 (zDv.mk ni tx ec eo U S hh kp ou) := zRel_m hR1 hK2
  have ht2 : gI τ2880 327 10 = zI 2 := hK2.2
  have hJ2 : gJ τ2880 339 0 = gJ τ2856 339 0 := hK2.1.2.1 339 0 (by decide)
  have hD2 : gD τ2880 340 0 = gD τ2856 340 0 := hK2.1.2.2 340 0
  refine zv_istore (lv' := [(7, .int (zI 0)), (6, .int (zI 2)), (0, .ref b0), (1, .ref (ob E 0)), (2, .ref (ob E 327)), (3, .ref (ob E 339)), (4, .ref (ob E 340)), (5, .int (zI (i : Int)))]) C dL_law_2883  (by decide) rfl ?_
  refine zv_aload_n C 4 dL_law_2885 rfl rfl ?_
  refine zv_cviD (st := []) C (c_X11_thrown hfl E τ2880) mX11_thrown kL_200 (by decide : kd 327 = 10) rfl rfl rfl ⟨rfl, rfl⟩ (show zfit (zrm 0 0) 1 room_1 = true from rfl) (Nat.le_of_ble_eq_true rfl) dL_law_2886 ⟨by omega, by omega⟩ ?_
  refine zv_eqi (y := (zI 2)) (ht2) ?_
  refine zv_iload C 1 dL_law_2889 rfl ?_
  refine zv_icmp_eqZ (tgt := 2896) C (by omega) (by omega) dL_law_2891 (by decide) (fun h2891 => ?_) (fun h2891 => ?_)
  · skip
    refine zv_iload C 1 dL_law_2896 rfl ?_
    refine zv_if_neZ (tgt := 2913) C (by omega) dL_law_2898 (by decide) (fun h2898 => ?_) (fun h2898 => absurd h2898 (by decide))
    refine zv_goto (tgt := 3624) C dL_law_2913 (by decide) ?_
    refine zv_sub (lv' := [(0, .ref b0), (1, .ref (ob E 0)), (2, .ref (ob E 327)), (3, .ref (ob E 339)), (4, .ref (ob E 340)), (5, .int (zI (i : Int)))]) [2, 3, 4, 5, 6, 7] (zcons rfl (zcons rfl (zcons rfl (zcons rfl (zcons rfl (zcons rfl rfl)))))) ?_
    exact kk _ _ _ _ (by omega) (by omega) hR2
  · exfalso
    omega
set_option maxRecDepth 20000 in
theorem lw_worstYear_x4_x2 {p : Program} {l : Launch} {e : Env} {s : State} {m : MethodId} {args : Array Value} {below : List Frame} {meth : Method} {c : Code} {E : zE} {Q : State → Prop} {b0 L i ce sl : Nat} {xs : Nat → Int32} {σ : zS} (ni : Nat) (tx : Nat → Int) (ec : Nat) (eo : Int) (U : zSU) (S : zST) (hh : List zST) (kp : Option zST) (ou : List Nat) (n1 : Nat) (v2 : Int) (v3 : Int) (W : zLW p l s m args meth c E b0 L xs) (hi : i + 6 ≤ L) (hcs : ce + 1 ≤ room_1.cells ∧ sl + 6 ≤ room_1.slots) (hR : zRel σ (zDv.mk ni tx ec eo U S hh kp ou)) (hx1 : xs (i + 1) = (zI (n1 : Int))) (hx2 : xs (i + 2) = (zI v2)) (hx3 : xs (i + 3) = (zI v3)) (hi0 : n1 < U.nb) (hyi1 : -2147483648 ≤ v2 ∧ v2 < 2147483648) (hzi2 : -2147483648 ≤ v3 ∧ v3 < 2147483648) (hy3 : U.s0 ≤ v2 ∧ v2 ≤ U.s0 + 999) (hz4 : U.s0 ≤ v3 ∧ v3 ≤ U.s0 + 999) (hno5 : v3 < v2)  (kk : zNx p l e s m args below meth c E Q b0 i ce sl) : zV p l e room_1 s m args below meth c 9 E Q ce sl σ 2836 (lwL b0 i E) [] := by
  refine (?_ : zV p l e room_1 s m args below meth c 9 E Q ce sl σ 2836 [(0, .ref b0), (1, .ref (ob E 0)), (2, .ref (ob E 327)), (3, .ref (ob E 339)), (4, .ref (ob E 340)), (5, .int (zI (i : Int)))] [])
  have C := W.2.1
  have hfl := W.1
  have hroom : room_1.cells = 601024 ∧ room_1.slots = 7293034 := ⟨rfl, rfl⟩
  refine zv_aload_n C 1 dL_law_2836 rfl rfl ?_
  refine zv_aload_n C 0 dL_law_2837 rfl rfl ?_
  refine zv_iload C 5 dL_law_2838 rfl ?_
  refine zv_iconst (v := zI 1) C dL_law_2840 rfl ?_
  refine zv_iaddZ C dL_law_2841 ?_
  refine zv_sld (j := i + 1) (v := (zI (n1 : Int))) C W.2.2.1 W.2.2.2.1 W.2.2.2.2.1 W.2.2.2.2.2 (zI_ix (by omega)) (by omega) hx1 dL_law_2842 ?_
  refine zv_aload_n C 0 dL_law_2843 rfl rfl ?_
  refine zv_iload C 5 dL_law_2844 rfl ?_
  refine zv_iconst (v := zI 2) C dL_law_2846 rfl ?_
  refine zv_iaddZ C dL_law_2847 ?_
  refine zv_sld (j := i + 2) (v := (zI v2)) C W.2.2.1 W.2.2.2.1 W.2.2.2.2.1 W.2.2.2.2.2 (zI_ix (by omega)) (by omega) hx2 dL_law_2848 ?_
  refine zv_aload_n C 0 dL_law_2849 rfl rfl ?_
  refine zv_iload C 5 dL_law_2850 rfl ?_
  refine zv_iconst (v := zI 3) C dL_law_2852 rfl ?_
  refine zv_iaddZ C dL_law_2853 ?_
  refine zv_sld (j := i + 3) (v := (zI v3)) C W.2.2.1 W.2.2.2.1 W.2.2.2.2.1 W.2.2.2.2.2 (zI_ix (by omega)) (by omega) hx3 dL_law_2854 ?_
  refine zv_aload_n C 3 dL_law_2855 rfl rfl ?_
  refine zv_cH (st := []) C (w_x4_X10_worstYear hfl E σ U n1 v2 v3 hR.1.2.2.1 (by first | assumption | omega) (by first | assumption | omega) (by first | assumption | omega) (by first | assumption | omega) (by first | assumption | omega) (by first | assumption | omega)) mL_worstYear kL_319 rfl ⟨rfl, rfl⟩ (show zfit (zrx 12 290) 6 room_1 = true from rfl) (Nat.le_of_ble_eq_true rfl) dL_law_2856 ⟨by exact hcs.1, by exact hcs.2⟩ (fun r2856 τ2856 hp2856 => ?_)
  obtain ⟨hr0, hP9⟩ := hp2856
  refine zv_eqi (y := zI 2) hr0 ?_
  have hF9 : zFr 318 327 σ τ2856 := by rw [hP9]; exact (by first | exact zFr_refl _ _ _ | exact zFr_rW (zFr_refl _ _ _) (by omega) | exact zFr_rW (zFr_rW (zFr_refl _ _ _) (by omega)) (by omega) | exact qW_f _ _ _ _ | exact qM_f _ _ _ _ _ | exact rW2_f _ _ _ _ _ | exact rW3_f _ _ _ _ _ | exact alW_f _ _ _ _ _ | (split <;> first | exact zFr_refl _ _ _ | exact bW_f _ _ _ _) | assumption)
  have hR1 : zRel τ2856 (zDv.mk ni tx ec eo U S hh kp ou) := zRel_c hR hF9
  refine zv_istore (lv' := [(6, .int (zI 2)), (0, .ref b0), (1, .ref (ob E 0)), (2, .ref (ob E 327)), (3, .ref (ob E 339)), (4, .ref (ob E 340)), (5, .int (zI (i : Int)))]) C dL_law_2859  (by decide) rfl ?_
  refine zv_aload_n C 3 dL_law_2861 rfl rfl ?_
  refine zv_aload_n C 1 dL_law_2862 rfl rfl ?_
  refine zv_iload C 6 dL_law_2863 rfl ?_
  refine zv_iconst (v := zI 1) C dL_law_2865 rfl ?_
  refine zv_iaddZ C dL_law_2866 ?_
  refine zv_sld (j := i + 1) (v := (zI (n1 : Int))) C W.2.2.1 W.2.2.2.1 W.2.2.2.2.1 W.2.2.2.2.2 (zI_ix (by omega)) (by omega) hx1 dL_law_2867 ?_
  refine zv_aload_n C 1 dL_law_2868 rfl rfl ?_
  refine zv_iload C 6 dL_law_2869 rfl ?_
  refine zv_iconst (v := zI 2) C dL_law_2871 rfl ?_
  refine zv_iaddZ C dL_law_2872 ?_
  refine zv_sld (j := i + 2) (v := (zI v2)) C W.2.2.1 W.2.2.2.1 W.2.2.2.2.1 W.2.2.2.2.2 (zI_ix (by omega)) (by omega) hx2 dL_law_2873 ?_
  refine zv_aload_n C 1 dL_law_2874 rfl rfl ?_
  refine zv_iload C 6 dL_law_2875 rfl ?_
  refine zv_iconst (v := zI 3) C dL_law_2877 rfl ?_
  refine zv_iaddZ C dL_law_2878 ?_
  refine zv_sld (j := i + 3) (v := (zI v3)) C W.2.2.1 W.2.2.2.1 W.2.2.2.2.1 W.2.2.2.2.2 (zI_ix (by omega)) (by omega) hx3 dL_law_2879 ?_
  refine zv_cvi (st := []) C (x2_X11_worstYear hfl E τ2856 σ U n1 v2 v3 hR1.2.2.2.1 hR.1.2.2.1 (by first | assumption | omega) (by first | assumption | omega) (by first | assumption | omega) (by first | assumption | omega)) mX11_worstYear kL_321 (by decide : kd 327 = 10) rfl rfl rfl ⟨rfl, rfl⟩ (show zfit (zrm 2 46) 6 room_1 = true from rfl) (Nat.le_of_ble_eq_true rfl) dL_law_2880 ⟨by omega, by omega⟩ (fun r2880 τ2880 hp2880 => ?_)
  obtain ⟨hr2, hK2⟩ := hp2880
  refine zv_eqi (y := zI 0) hr2 ?_
  have hR2 : zRel τ2880 (zDv.mk ni tx ec eo U S hh kp ou) := zRel_m hR1 hK2
  have ht2 : gI τ2880 327 10 = zI 2 := hK2.2
  have hJ2 : gJ τ2880 339 0 = gJ τ2856 339 0 := hK2.1.2.1 339 0 (by decide)
  have hD2 : gD τ2880 340 0 = gD τ2856 340 0 := hK2.1.2.2 340 0
  refine zv_istore (lv' := [(7, .int (zI 0)), (6, .int (zI 2)), (0, .ref b0), (1, .ref (ob E 0)), (2, .ref (ob E 327)), (3, .ref (ob E 339)), (4, .ref (ob E 340)), (5, .int (zI (i : Int)))]) C dL_law_2883  (by decide) rfl ?_
  refine zv_aload_n C 4 dL_law_2885 rfl rfl ?_
  refine zv_cviD (st := []) C (c_X11_thrown hfl E τ2880) mX11_thrown kL_200 (by decide : kd 327 = 10) rfl rfl rfl ⟨rfl, rfl⟩ (show zfit (zrm 0 0) 1 room_1 = true from rfl) (Nat.le_of_ble_eq_true rfl) dL_law_2886 ⟨by omega, by omega⟩ ?_
  refine zv_eqi (y := (zI 2)) (ht2) ?_
  refine zv_iload C 1 dL_law_2889 rfl ?_
  refine zv_icmp_eqZ (tgt := 2896) C (by omega) (by omega) dL_law_2891 (by decide) (fun h2891 => ?_) (fun h2891 => ?_)
  · skip
    refine zv_iload C 1 dL_law_2896 rfl ?_
    refine zv_if_neZ (tgt := 2913) C (by omega) dL_law_2898 (by decide) (fun h2898 => ?_) (fun h2898 => absurd h2898 (by decide))
    refine zv_goto (tgt := 3624) C dL_law_2913 (by decide) ?_
    refine zv_sub (lv' := [(0, .ref b0), (1, .ref (ob E 0)), (2, .ref (ob E 327)), (3, .ref (ob E 339)), (4, .ref (ob E 340)), (5, .int (zI (i : Int)))]) [2, 3, 4, 5, 6, 7] (zcons rfl (zcons rfl (zcons rfl (zcons rfl (zcons rfl (zcons rfl rfl)))))) ?_
    exact kk _ _ _ _ (by omega) (by omega) hR2
  · exfalso
    omega
theorem LK_43 {p : Program} {l : Launch} {e : Env} {s : State} {m : MethodId} {args : Array Value} {below : List Frame} {meth : Method} {c : Code} {E : zE} {Q : State → Prop} {b0 L i ce sl : Nat} {xs : Nat → Int32} {σ : zS} (ni : Nat) (tx : Nat → Int) (ec : Nat) (eo : Int) (U : zSU) (S : zST) (hh : List zST) (kp : Option zST) (ou : List Nat) (hFN : zFN) (W : zLW p l s m args meth c E b0 L xs) (hi : i + 6 ≤ L) (hcs : ce + 1 ≤ room_1.cells ∧ sl + 6 ≤ room_1.slots) (hR : zRel σ (zDv.mk ni tx ec eo U S hh kp ou)) (kk : zNx p l e s m args below meth c E Q b0 i ce sl) : zV p l e room_1 s m args below meth c 9 E Q ce sl σ 2836 (lwL b0 i E) [] := by
  obtain ⟨v1, hx1, hv1⟩ := zI_cov (xs (i + 1))
  obtain ⟨v2, hx2, hv2⟩ := zI_cov (xs (i + 2))
  obtain ⟨v3, hx3, hv3⟩ := zI_cov (xs (i + 3))
  by_cases g1 : 0 ≤ v1 ∧ v1 < U.nb
  case neg =>
    exact lw_worstYear_x1_x1 _ _ _ _ _ _ _ _ _ _ _ _ W hi hcs hR hx1 hx2 hx3 (by first | assumption | omega) (by first | assumption | omega) kk
  obtain ⟨n1, rfl⟩ := Int.eq_ofNat_of_zero_le (show 0 ≤ v1 by omega)
  by_cases g2 : U.s0 ≤ v2 ∧ v2 ≤ U.s0 + 999
  case neg =>
    exact lw_worstYear_x2_x2 _ _ _ _ _ _ _ _ _ _ _ _ W hi hcs hR hx1 hx2 hx3 (by first | assumption | omega) (by first | assumption | omega) (by first | assumption | omega) (by first | assumption | omega) kk
  by_cases g3 : U.s0 ≤ v3 ∧ v3 ≤ U.s0 + 999
  case neg =>
    exact lw_worstYear_x3_x2 _ _ _ _ _ _ _ _ _ _ _ _ W hi hcs hR hx1 hx2 hx3 (by first | assumption | omega) (by first | assumption | omega) (by first | assumption | omega) (by first | assumption | omega) (by first | assumption | omega) kk
  by_cases g4 : v2 ≤ v3
  case neg =>
    exact lw_worstYear_x4_x2 _ _ _ _ _ _ _ _ _ _ _ _ W hi hcs hR hx1 hx2 hx3 (by first | assumption | omega) (by first | assumption | omega) (by first | assumption | omega) (by first | assumption | omega) (by first | assumption | omega) (by first | assumption | omega) kk
  exact lw_worstYear_c_c _ _ _ _ _ _ _ _ _ _ _ _ W hi hcs hR hx1 hx2 hx3 (by first | assumption | omega) (by first | assumption | omega) (by first | assumption | omega) (by first | assumption | omega) kk
theorem dL_law_2916 : decode cL_law 2916 = .ok (.aload_n 1, 1) := by decide +kernel
theorem dL_law_2917 : decode cL_law 2917 = .ok (.aload_n 0, 1) := by decide +kernel
theorem dL_law_2918 : decode cL_law 2918 = .ok (.iload 5, 2) := by decide +kernel
theorem dL_law_2920 : decode cL_law 2920 = .ok (.iconst 1, 1) := by decide +kernel
theorem dL_law_2921 : decode cL_law 2921 = .ok (.iadd, 1) := by decide +kernel
theorem dL_law_2922 : decode cL_law 2922 = .ok (.iaload, 1) := by decide +kernel
theorem dL_law_2923 : decode cL_law 2923 = .ok (.aload_n 0, 1) := by decide +kernel
theorem dL_law_2924 : decode cL_law 2924 = .ok (.iload 5, 2) := by decide +kernel
theorem dL_law_2926 : decode cL_law 2926 = .ok (.iconst 2, 1) := by decide +kernel
theorem dL_law_2927 : decode cL_law 2927 = .ok (.iadd, 1) := by decide +kernel
theorem dL_law_2928 : decode cL_law 2928 = .ok (.iaload, 1) := by decide +kernel
theorem dL_law_2929 : decode cL_law 2929 = .ok (.aload_n 3, 1) := by decide +kernel
theorem dL_law_2930 : decode cL_law 2930 = .ok (.invokestatic 322, 3) := by decide +kernel
theorem dL_law_2933 : decode cL_law 2933 = .ok (.istore 6, 2) := by decide +kernel
theorem dL_law_2935 : decode cL_law 2935 = .ok (.aload_n 2, 1) := by decide +kernel
theorem dL_law_2936 : decode cL_law 2936 = .ok (.aload_n 0, 1) := by decide +kernel
theorem dL_law_2937 : decode cL_law 2937 = .ok (.iload 5, 2) := by decide +kernel
theorem dL_law_2939 : decode cL_law 2939 = .ok (.iconst 1, 1) := by decide +kernel
theorem dL_law_2940 : decode cL_law 2940 = .ok (.iadd, 1) := by decide +kernel
theorem dL_law_2941 : decode cL_law 2941 = .ok (.iaload, 1) := by decide +kernel
theorem dL_law_2942 : decode cL_law 2942 = .ok (.aload_n 0, 1) := by decide +kernel
theorem dL_law_2943 : decode cL_law 2943 = .ok (.iload 5, 2) := by decide +kernel
theorem dL_law_2945 : decode cL_law 2945 = .ok (.iconst 2, 1) := by decide +kernel
theorem dL_law_2946 : decode cL_law 2946 = .ok (.iadd, 1) := by decide +kernel
theorem dL_law_2947 : decode cL_law 2947 = .ok (.iaload, 1) := by decide +kernel
theorem dL_law_2948 : decode cL_law 2948 = .ok (.invokevirtual 324, 3) := by decide +kernel
theorem dL_law_2951 : decode cL_law 2951 = .ok (.lstore 7, 2) := by decide +kernel
theorem dL_law_2953 : decode cL_law 2953 = .ok (.aload_n 2, 1) := by decide +kernel
theorem dL_law_2954 : decode cL_law 2954 = .ok (.invokevirtual 200, 3) := by decide +kernel
theorem dL_law_2957 : decode cL_law 2957 = .ok (.iload 6, 2) := by decide +kernel
theorem dL_law_2959 : decode cL_law 2959 = .ok (.if_icmp .eq 5, 3) := by decide +kernel
theorem dL_law_2962 : decode cL_law 2962 = .ok (.iconst 0, 1) := by decide +kernel
theorem dL_law_2963 : decode cL_law 2963 = .ok (.ireturn, 1) := by decide +kernel
theorem dL_law_2964 : decode cL_law 2964 = .ok (.iload 6, 2) := by decide +kernel
theorem dL_law_2966 : decode cL_law 2966 = .ok (.ifCond .ne 14, 3) := by decide +kernel
theorem dL_law_2969 : decode cL_law 2969 = .ok (.aload_n 3, 1) := by decide +kernel
theorem dL_law_2970 : decode cL_law 2970 = .ok (.iconst 0, 1) := by decide +kernel
theorem dL_law_2971 : decode cL_law 2971 = .ok (.laload, 1) := by decide +kernel
theorem dL_law_2972 : decode cL_law 2972 = .ok (.lload 7, 2) := by decide +kernel
theorem dL_law_2974 : decode cL_law 2974 = .ok (.lcmp, 1) := by decide +kernel
theorem dL_law_2975 : decode cL_law 2975 = .ok (.ifCond .eq 5, 3) := by decide +kernel
theorem dL_law_2978 : decode cL_law 2978 = .ok (.iconst 0, 1) := by decide +kernel
theorem dL_law_2979 : decode cL_law 2979 = .ok (.ireturn, 1) := by decide +kernel
theorem dL_law_2980 : decode cL_law 2980 = .ok (.goto 644, 3) := by decide +kernel
set_option maxRecDepth 20000 in
theorem lw_revolutions_c_c {p : Program} {l : Launch} {e : Env} {s : State} {m : MethodId} {args : Array Value} {below : List Frame} {meth : Method} {c : Code} {E : zE} {Q : State → Prop} {b0 L i ce sl : Nat} {xs : Nat → Int32} {σ : zS} (ni : Nat) (tx : Nat → Int) (ec : Nat) (eo : Int) (U : zSU) (S : zST) (hh : List zST) (kp : Option zST) (ou : List Nat) (n1 : Nat) (v2 : Int) (W : zLW p l s m args meth c E b0 L xs) (hi : i + 6 ≤ L) (hcs : ce + 1 ≤ room_1.cells ∧ sl + 6 ≤ room_1.slots) (hR : zRel σ (zDv.mk ni tx ec eo U S hh kp ou)) (hx1 : xs (i + 1) = (zI (n1 : Int))) (hx2 : xs (i + 2) = (zI v2)) (hi0 : n1 < U.nb) (hy1 : U.s0 ≤ v2 ∧ v2 ≤ U.s0 + 999)  (kk : zNx p l e s m args below meth c E Q b0 i ce sl) : zV p l e room_1 s m args below meth c 9 E Q ce sl σ 2916 (lwL b0 i E) [] := by
  refine (?_ : zV p l e room_1 s m args below meth c 9 E Q ce sl σ 2916 [(0, .ref b0), (1, .ref (ob E 0)), (2, .ref (ob E 327)), (3, .ref (ob E 339)), (4, .ref (ob E 340)), (5, .int (zI (i : Int)))] [])
  have C := W.2.1
  have hfl := W.1
  have hroom : room_1.cells = 601024 ∧ room_1.slots = 7293034 := ⟨rfl, rfl⟩
  refine zv_aload_n C 1 dL_law_2916 rfl rfl ?_
  refine zv_aload_n C 0 dL_law_2917 rfl rfl ?_
  refine zv_iload C 5 dL_law_2918 rfl ?_
  refine zv_iconst (v := zI 1) C dL_law_2920 rfl ?_
  refine zv_iaddZ C dL_law_2921 ?_
  refine zv_sld (j := i + 1) (v := (zI (n1 : Int))) C W.2.2.1 W.2.2.2.1 W.2.2.2.2.1 W.2.2.2.2.2 (zI_ix (by omega)) (by omega) hx1 dL_law_2922 ?_
  refine zv_aload_n C 0 dL_law_2923 rfl rfl ?_
  refine zv_iload C 5 dL_law_2924 rfl ?_
  refine zv_iconst (v := zI 2) C dL_law_2926 rfl ?_
  refine zv_iaddZ C dL_law_2927 ?_
  refine zv_sld (j := i + 2) (v := (zI v2)) C W.2.2.1 W.2.2.2.1 W.2.2.2.2.1 W.2.2.2.2.2 (zI_ix (by omega)) (by omega) hx2 dL_law_2928 ?_
  refine zv_aload_n C 3 dL_law_2929 rfl rfl ?_
  refine zv_cH (st := []) C (w_c_X10_revolutions hfl E σ U S n1 v2 hR.1.2.2.1 hR.1.2.2.2.1.1 (by first | assumption | omega) (by first | assumption | omega)) mL_revolutions kL_322 rfl ⟨rfl, rfl⟩ (show zfit (zrm 5 127) 5 room_1 = true from rfl) (Nat.le_of_ble_eq_true rfl) dL_law_2930 ⟨by omega, by omega⟩ (fun r2930 τ2930 hp2930 => ?_)
  obtain ⟨hr0, v9, υ9, hP9, hτ9⟩ := hp2930
  refine zv_eqi (y := zI 0) hr0 ?_
  obtain ⟨hv9, hW9⟩ := hP9
  have hF9 : zFr 318 327 σ υ9 := by first | exact hW9 | (rw [hW9]; exact (by first | exact zFr_refl _ _ _ | exact zFr_rW (zFr_refl _ _ _) (by omega) | exact zFr_rW (zFr_rW (zFr_refl _ _ _) (by omega)) (by omega) | exact qW_f _ _ _ _ | exact qM_f _ _ _ _ _ | exact rW2_f _ _ _ _ _ | exact rW3_f _ _ _ _ _ | exact alW_f _ _ _ _ _ | (split <;> first | exact zFr_refl _ _ _ | exact bW_f _ _ _ _) | assumption))
  have hR1 : zRel τ2930 (zDv.mk ni tx ec eo U S hh kp ou) := by rw [hτ9]; exact zRel_J (zRel_c hR hF9) _
  have ho9 : gJ τ2930 339 0 = v9 := by rw [hτ9, gJ_sJ, if_pos ⟨rfl, rfl⟩]
  rw [hv9] at ho9
  refine zv_istore (lv' := [(6, .int (zI 0)), (0, .ref b0), (1, .ref (ob E 0)), (2, .ref (ob E 327)), (3, .ref (ob E 339)), (4, .ref (ob E 340)), (5, .int (zI (i : Int)))]) C dL_law_2933  (by decide) rfl ?_
  refine zv_aload_n C 3 dL_law_2935 rfl rfl ?_
  refine zv_aload_n C 1 dL_law_2936 rfl rfl ?_
  refine zv_iload C 6 dL_law_2937 rfl ?_
  refine zv_iconst (v := zI 1) C dL_law_2939 rfl ?_
  refine zv_iaddZ C dL_law_2940 ?_
  refine zv_sld (j := i + 1) (v := (zI (n1 : Int))) C W.2.2.1 W.2.2.2.1 W.2.2.2.2.1 W.2.2.2.2.2 (zI_ix (by omega)) (by omega) hx1 dL_law_2941 ?_
  refine zv_aload_n C 1 dL_law_2942 rfl rfl ?_
  refine zv_iload C 6 dL_law_2943 rfl ?_
  refine zv_iconst (v := zI 2) C dL_law_2945 rfl ?_
  refine zv_iaddZ C dL_law_2946 ?_
  refine zv_sld (j := i + 2) (v := (zI v2)) C W.2.2.1 W.2.2.2.1 W.2.2.2.2.1 W.2.2.2.2.2 (zI_ix (by omega)) (by omega) hx2 dL_law_2947 ?_
  refine zv_cvl (st := []) C (c_X11_revolutions hfl E τ2930 σ U S n1 v2 hR1.2.2.2.1 hR.1.2.2.1 hR1.2.2.2.2.2.1.1 hR.1.2.2.2.1.1 (by first | assumption | omega) (by first | assumption | omega)) mX11_revolutions kL_324 (by decide : kd 327 = 10) rfl rfl rfl ⟨rfl, rfl⟩ (show zfit (zrm 3 68) 3 room_1 = true from rfl) (Nat.le_of_ble_eq_true rfl) dL_law_2948 ⟨by omega, by omega⟩ (fun r2948 τ2948 hp2948 => ?_)
  obtain ⟨hr2, hK2⟩ := hp2948
  refine zv_eql (y := zL ((qPtr U S n1).1 * yEnd U.s0 v2 / (qPtr U S n1).2)) hr2 ?_
  have hR2 : zRel τ2948 (zDv.mk ni tx ec eo U S hh kp ou) := zRel_m hR1 hK2
  have ht2 : gI τ2948 327 10 = zI 0 := hK2.2
  have hJ2 : gJ τ2948 339 0 = gJ τ2930 339 0 := hK2.1.2.1 339 0 (by decide)
  have hD2 : gD τ2948 340 0 = gD τ2930 340 0 := hK2.1.2.2 340 0
  refine zv_lstore (lv' := [(7, .long (zL ((qPtr U S n1).1 * yEnd U.s0 v2 / (qPtr U S n1).2))), (6, .int (zI 0)), (0, .ref b0), (1, .ref (ob E 0)), (2, .ref (ob E 327)), (3, .ref (ob E 339)), (4, .ref (ob E 340)), (5, .int (zI (i : Int)))]) C dL_law_2951  (by decide) rfl ?_
  refine zv_aload_n C 4 dL_law_2953 rfl rfl ?_
  refine zv_cviD (st := []) C (c_X11_thrown hfl E τ2948) mX11_thrown kL_200 (by decide : kd 327 = 10) rfl rfl rfl ⟨rfl, rfl⟩ (show zfit (zrm 0 0) 1 room_1 = true from rfl) (Nat.le_of_ble_eq_true rfl) dL_law_2954 ⟨by omega, by omega⟩ ?_
  refine zv_eqi (y := (zI 0)) (ht2) ?_
  refine zv_iload C 1 dL_law_2957 rfl ?_
  refine zv_icmp_eqZ (tgt := 2964) C (by omega) (by omega) dL_law_2959 (by decide) (fun h2959 => ?_) (fun h2959 => ?_)
  · skip
    refine zv_iload C 1 dL_law_2964 rfl ?_
    refine zv_if_neZ (tgt := 2980) C (by omega) dL_law_2966 (by decide) (fun h2966 => absurd h2966 (by decide)) (fun h2966 => ?_)
    refine zv_aload_n C 5 dL_law_2969 rfl rfl ?_
    refine zv_iconst (v := zI 0) C dL_law_2970 rfl ?_
    refine zv_lald (j := 0) C (by decide : kd 339 = _) (zI_ix (by omega)) (by decide) dL_law_2971 ?_
    refine zv_eql (y := (zL ((qPtr U S n1).1 * yEnd U.s0 v2 / (qPtr U S n1).2))) (hJ2.trans ho9) ?_
    refine zv_lload C 0 dL_law_2972 rfl ?_
    refine zv_lc_eq (tgt := 2980) C dL_law_2974 dL_law_2975 (by decide) (fun h2974 => ?_) (fun h2974 => ?_)
    · skip
      refine zv_goto (tgt := 3624) C dL_law_2980 (by decide) ?_
      refine zv_sub (lv' := [(0, .ref b0), (1, .ref (ob E 0)), (2, .ref (ob E 327)), (3, .ref (ob E 339)), (4, .ref (ob E 340)), (5, .int (zI (i : Int)))]) [2, 3, 4, 5, 6, 7] (zcons rfl (zcons rfl (zcons rfl (zcons rfl (zcons rfl (zcons rfl rfl)))))) ?_
      exact kk _ _ _ _ (by omega) (by omega) hR2
    · exfalso
      exact h2974 rfl
  · exfalso
    omega
set_option maxRecDepth 20000 in
theorem lw_revolutions_x1_x1 {p : Program} {l : Launch} {e : Env} {s : State} {m : MethodId} {args : Array Value} {below : List Frame} {meth : Method} {c : Code} {E : zE} {Q : State → Prop} {b0 L i ce sl : Nat} {xs : Nat → Int32} {σ : zS} (ni : Nat) (tx : Nat → Int) (ec : Nat) (eo : Int) (U : zSU) (S : zST) (hh : List zST) (kp : Option zST) (ou : List Nat) (v1 : Int) (v2 : Int) (W : zLW p l s m args meth c E b0 L xs) (hi : i + 6 ≤ L) (hcs : ce + 1 ≤ room_1.cells ∧ sl + 6 ≤ room_1.slots) (hR : zRel σ (zDv.mk ni tx ec eo U S hh kp ou)) (hx1 : xs (i + 1) = (zI v1)) (hx2 : xs (i + 2) = (zI v2)) (hbi0 : -2147483648 ≤ v1 ∧ v1 < 2147483648) (hno1 : ¬ (0 ≤ v1 ∧ v1 < U.nb))  (kk : zNx p l e s m args below meth c E Q b0 i ce sl) : zV p l e room_1 s m args below meth c 9 E Q ce sl σ 2916 (lwL b0 i E) [] := by
  refine (?_ : zV p l e room_1 s m args below meth c 9 E Q ce sl σ 2916 [(0, .ref b0), (1, .ref (ob E 0)), (2, .ref (ob E 327)), (3, .ref (ob E 339)), (4, .ref (ob E 340)), (5, .int (zI (i : Int)))] [])
  have C := W.2.1
  have hfl := W.1
  have hroom : room_1.cells = 601024 ∧ room_1.slots = 7293034 := ⟨rfl, rfl⟩
  refine zv_aload_n C 1 dL_law_2916 rfl rfl ?_
  refine zv_aload_n C 0 dL_law_2917 rfl rfl ?_
  refine zv_iload C 5 dL_law_2918 rfl ?_
  refine zv_iconst (v := zI 1) C dL_law_2920 rfl ?_
  refine zv_iaddZ C dL_law_2921 ?_
  refine zv_sld (j := i + 1) (v := (zI v1)) C W.2.2.1 W.2.2.2.1 W.2.2.2.2.1 W.2.2.2.2.2 (zI_ix (by omega)) (by omega) hx1 dL_law_2922 ?_
  refine zv_aload_n C 0 dL_law_2923 rfl rfl ?_
  refine zv_iload C 5 dL_law_2924 rfl ?_
  refine zv_iconst (v := zI 2) C dL_law_2926 rfl ?_
  refine zv_iaddZ C dL_law_2927 ?_
  refine zv_sld (j := i + 2) (v := (zI v2)) C W.2.2.1 W.2.2.2.1 W.2.2.2.2.1 W.2.2.2.2.2 (zI_ix (by omega)) (by omega) hx2 dL_law_2928 ?_
  refine zv_aload_n C 3 dL_law_2929 rfl rfl ?_
  refine zv_cH (st := []) C (w_x1_X10_revolutions hfl E σ U v1 v2 hR.1.2.2.1 (by first | assumption | omega) (by first | assumption | omega)) mL_revolutions kL_322 rfl ⟨rfl, rfl⟩ (show zfit (zrx 10 222) 5 room_1 = true from rfl) (Nat.le_of_ble_eq_true rfl) dL_law_2930 ⟨by exact hcs.1, by exact hcs.2⟩ (fun r2930 τ2930 hp2930 => ?_)
  obtain ⟨hr0, hP9⟩ := hp2930
  refine zv_eqi (y := zI 1) hr0 ?_
  have hF9 : zFr 318 327 σ τ2930 := by rw [hP9]; exact (by first | exact zFr_refl _ _ _ | exact zFr_rW (zFr_refl _ _ _) (by omega) | exact zFr_rW (zFr_rW (zFr_refl _ _ _) (by omega)) (by omega) | exact qW_f _ _ _ _ | exact qM_f _ _ _ _ _ | exact rW2_f _ _ _ _ _ | exact rW3_f _ _ _ _ _ | exact alW_f _ _ _ _ _ | (split <;> first | exact zFr_refl _ _ _ | exact bW_f _ _ _ _) | assumption)
  have hR1 : zRel τ2930 (zDv.mk ni tx ec eo U S hh kp ou) := zRel_c hR hF9
  refine zv_istore (lv' := [(6, .int (zI 1)), (0, .ref b0), (1, .ref (ob E 0)), (2, .ref (ob E 327)), (3, .ref (ob E 339)), (4, .ref (ob E 340)), (5, .int (zI (i : Int)))]) C dL_law_2933  (by decide) rfl ?_
  refine zv_aload_n C 3 dL_law_2935 rfl rfl ?_
  refine zv_aload_n C 1 dL_law_2936 rfl rfl ?_
  refine zv_iload C 6 dL_law_2937 rfl ?_
  refine zv_iconst (v := zI 1) C dL_law_2939 rfl ?_
  refine zv_iaddZ C dL_law_2940 ?_
  refine zv_sld (j := i + 1) (v := (zI v1)) C W.2.2.1 W.2.2.2.1 W.2.2.2.2.1 W.2.2.2.2.2 (zI_ix (by omega)) (by omega) hx1 dL_law_2941 ?_
  refine zv_aload_n C 1 dL_law_2942 rfl rfl ?_
  refine zv_iload C 6 dL_law_2943 rfl ?_
  refine zv_iconst (v := zI 2) C dL_law_2945 rfl ?_
  refine zv_iaddZ C dL_law_2946 ?_
  refine zv_sld (j := i + 2) (v := (zI v2)) C W.2.2.1 W.2.2.2.1 W.2.2.2.2.1 W.2.2.2.2.2 (zI_ix (by omega)) (by omega) hx2 dL_law_2947 ?_
  refine zv_cvl (st := []) C (x1_X11_revolutions hfl E τ2930 σ U v1 v2 hR1.2.2.2.1 hR.1.2.2.1 (by first | assumption | omega) (by first | assumption | omega)) mX11_revolutions kL_324 (by decide : kd 327 = 10) rfl rfl rfl ⟨rfl, rfl⟩ (show zfit (zrm 3 68) 3 room_1 = true from rfl) (Nat.le_of_ble_eq_true rfl) dL_law_2948 ⟨by omega, by omega⟩ (fun r2948 τ2948 hp2948 => ?_)
  obtain ⟨hr2, hK2⟩ := hp2948
  refine zv_eql (y := zL 0) hr2 ?_
  have hR2 : zRel τ2948 (zDv.mk ni tx ec eo U S hh kp ou) := zRel_m hR1 hK2
  have ht2 : gI τ2948 327 10 = zI 1 := hK2.2
  have hJ2 : gJ τ2948 339 0 = gJ τ2930 339 0 := hK2.1.2.1 339 0 (by decide)
  have hD2 : gD τ2948 340 0 = gD τ2930 340 0 := hK2.1.2.2 340 0
  refine zv_lstore (lv' := [(7, .long (zL 0)), (6, .int (zI 1)), (0, .ref b0), (1, .ref (ob E 0)), (2, .ref (ob E 327)), (3, .ref (ob E 339)), (4, .ref (ob E 340)), (5, .int (zI (i : Int)))]) C dL_law_2951  (by decide) rfl ?_
  refine zv_aload_n C 4 dL_law_2953 rfl rfl ?_
  refine zv_cviD (st := []) C (c_X11_thrown hfl E τ2948) mX11_thrown kL_200 (by decide : kd 327 = 10) rfl rfl rfl ⟨rfl, rfl⟩ (show zfit (zrm 0 0) 1 room_1 = true from rfl) (Nat.le_of_ble_eq_true rfl) dL_law_2954 ⟨by omega, by omega⟩ ?_
  refine zv_eqi (y := (zI 1)) (ht2) ?_
  refine zv_iload C 1 dL_law_2957 rfl ?_
  refine zv_icmp_eqZ (tgt := 2964) C (by omega) (by omega) dL_law_2959 (by decide) (fun h2959 => ?_) (fun h2959 => ?_)
  · skip
    refine zv_iload C 1 dL_law_2964 rfl ?_
    refine zv_if_neZ (tgt := 2980) C (by omega) dL_law_2966 (by decide) (fun h2966 => ?_) (fun h2966 => absurd h2966 (by decide))
    refine zv_goto (tgt := 3624) C dL_law_2980 (by decide) ?_
    refine zv_sub (lv' := [(0, .ref b0), (1, .ref (ob E 0)), (2, .ref (ob E 327)), (3, .ref (ob E 339)), (4, .ref (ob E 340)), (5, .int (zI (i : Int)))]) [2, 3, 4, 5, 6, 7] (zcons rfl (zcons rfl (zcons rfl (zcons rfl (zcons rfl (zcons rfl rfl)))))) ?_
    exact kk _ _ _ _ (by omega) (by omega) hR2
  · exfalso
    omega
set_option maxRecDepth 20000 in
theorem lw_revolutions_x2_x2 {p : Program} {l : Launch} {e : Env} {s : State} {m : MethodId} {args : Array Value} {below : List Frame} {meth : Method} {c : Code} {E : zE} {Q : State → Prop} {b0 L i ce sl : Nat} {xs : Nat → Int32} {σ : zS} (ni : Nat) (tx : Nat → Int) (ec : Nat) (eo : Int) (U : zSU) (S : zST) (hh : List zST) (kp : Option zST) (ou : List Nat) (n1 : Nat) (v2 : Int) (W : zLW p l s m args meth c E b0 L xs) (hi : i + 6 ≤ L) (hcs : ce + 1 ≤ room_1.cells ∧ sl + 6 ≤ room_1.slots) (hR : zRel σ (zDv.mk ni tx ec eo U S hh kp ou)) (hx1 : xs (i + 1) = (zI (n1 : Int))) (hx2 : xs (i + 2) = (zI v2)) (hi0 : n1 < U.nb) (hyi1 : -2147483648 ≤ v2 ∧ v2 < 2147483648) (hno2 : ¬ (U.s0 ≤ v2 ∧ v2 ≤ U.s0 + 999))  (kk : zNx p l e s m args below meth c E Q b0 i ce sl) : zV p l e room_1 s m args below meth c 9 E Q ce sl σ 2916 (lwL b0 i E) [] := by
  refine (?_ : zV p l e room_1 s m args below meth c 9 E Q ce sl σ 2916 [(0, .ref b0), (1, .ref (ob E 0)), (2, .ref (ob E 327)), (3, .ref (ob E 339)), (4, .ref (ob E 340)), (5, .int (zI (i : Int)))] [])
  have C := W.2.1
  have hfl := W.1
  have hroom : room_1.cells = 601024 ∧ room_1.slots = 7293034 := ⟨rfl, rfl⟩
  refine zv_aload_n C 1 dL_law_2916 rfl rfl ?_
  refine zv_aload_n C 0 dL_law_2917 rfl rfl ?_
  refine zv_iload C 5 dL_law_2918 rfl ?_
  refine zv_iconst (v := zI 1) C dL_law_2920 rfl ?_
  refine zv_iaddZ C dL_law_2921 ?_
  refine zv_sld (j := i + 1) (v := (zI (n1 : Int))) C W.2.2.1 W.2.2.2.1 W.2.2.2.2.1 W.2.2.2.2.2 (zI_ix (by omega)) (by omega) hx1 dL_law_2922 ?_
  refine zv_aload_n C 0 dL_law_2923 rfl rfl ?_
  refine zv_iload C 5 dL_law_2924 rfl ?_
  refine zv_iconst (v := zI 2) C dL_law_2926 rfl ?_
  refine zv_iaddZ C dL_law_2927 ?_
  refine zv_sld (j := i + 2) (v := (zI v2)) C W.2.2.1 W.2.2.2.1 W.2.2.2.2.1 W.2.2.2.2.2 (zI_ix (by omega)) (by omega) hx2 dL_law_2928 ?_
  refine zv_aload_n C 3 dL_law_2929 rfl rfl ?_
  refine zv_cH (st := []) C (w_x2_X10_revolutions hfl E σ U S n1 v2 hR.1.2.2.1 (by first | assumption | omega) (by first | assumption | omega) (by first | assumption | omega)) mL_revolutions kL_322 rfl ⟨rfl, rfl⟩ (show zfit (zrx 10 222) 5 room_1 = true from rfl) (Nat.le_of_ble_eq_true rfl) dL_law_2930 ⟨by exact hcs.1, by exact hcs.2⟩ (fun r2930 τ2930 hp2930 => ?_)
  obtain ⟨hr0, hP9⟩ := hp2930
  refine zv_eqi (y := zI 2) hr0 ?_
  have hF9 : zFr 318 327 σ τ2930 := by rw [hP9]; exact (by first | exact zFr_refl _ _ _ | exact zFr_rW (zFr_refl _ _ _) (by omega) | exact zFr_rW (zFr_rW (zFr_refl _ _ _) (by omega)) (by omega) | exact qW_f _ _ _ _ | exact qM_f _ _ _ _ _ | exact rW2_f _ _ _ _ _ | exact rW3_f _ _ _ _ _ | exact alW_f _ _ _ _ _ | (split <;> first | exact zFr_refl _ _ _ | exact bW_f _ _ _ _) | assumption)
  have hR1 : zRel τ2930 (zDv.mk ni tx ec eo U S hh kp ou) := zRel_c hR hF9
  refine zv_istore (lv' := [(6, .int (zI 2)), (0, .ref b0), (1, .ref (ob E 0)), (2, .ref (ob E 327)), (3, .ref (ob E 339)), (4, .ref (ob E 340)), (5, .int (zI (i : Int)))]) C dL_law_2933  (by decide) rfl ?_
  refine zv_aload_n C 3 dL_law_2935 rfl rfl ?_
  refine zv_aload_n C 1 dL_law_2936 rfl rfl ?_
  refine zv_iload C 6 dL_law_2937 rfl ?_
  refine zv_iconst (v := zI 1) C dL_law_2939 rfl ?_
  refine zv_iaddZ C dL_law_2940 ?_
  refine zv_sld (j := i + 1) (v := (zI (n1 : Int))) C W.2.2.1 W.2.2.2.1 W.2.2.2.2.1 W.2.2.2.2.2 (zI_ix (by omega)) (by omega) hx1 dL_law_2941 ?_
  refine zv_aload_n C 1 dL_law_2942 rfl rfl ?_
  refine zv_iload C 6 dL_law_2943 rfl ?_
  refine zv_iconst (v := zI 2) C dL_law_2945 rfl ?_
  refine zv_iaddZ C dL_law_2946 ?_
  refine zv_sld (j := i + 2) (v := (zI v2)) C W.2.2.1 W.2.2.2.1 W.2.2.2.2.1 W.2.2.2.2.2 (zI_ix (by omega)) (by omega) hx2 dL_law_2947 ?_
  refine zv_cvl (st := []) C (x2_X11_revolutions hfl E τ2930 σ U n1 v2 hR1.2.2.2.1 hR.1.2.2.1 (by first | assumption | omega) (by first | assumption | omega) (by first | assumption | omega)) mX11_revolutions kL_324 (by decide : kd 327 = 10) rfl rfl rfl ⟨rfl, rfl⟩ (show zfit (zrm 3 68) 3 room_1 = true from rfl) (Nat.le_of_ble_eq_true rfl) dL_law_2948 ⟨by omega, by omega⟩ (fun r2948 τ2948 hp2948 => ?_)
  obtain ⟨hr2, hK2⟩ := hp2948
  refine zv_eql (y := zL 0) hr2 ?_
  have hR2 : zRel τ2948 (zDv.mk ni tx ec eo U S hh kp ou) := zRel_m hR1 hK2
  have ht2 : gI τ2948 327 10 = zI 2 := hK2.2
  have hJ2 : gJ τ2948 339 0 = gJ τ2930 339 0 := hK2.1.2.1 339 0 (by decide)
  have hD2 : gD τ2948 340 0 = gD τ2930 340 0 := hK2.1.2.2 340 0
  refine zv_lstore (lv' := [(7, .long (zL 0)), (6, .int (zI 2)), (0, .ref b0), (1, .ref (ob E 0)), (2, .ref (ob E 327)), (3, .ref (ob E 339)), (4, .ref (ob E 340)), (5, .int (zI (i : Int)))]) C dL_law_2951  (by decide) rfl ?_
  refine zv_aload_n C 4 dL_law_2953 rfl rfl ?_
  refine zv_cviD (st := []) C (c_X11_thrown hfl E τ2948) mX11_thrown kL_200 (by decide : kd 327 = 10) rfl rfl rfl ⟨rfl, rfl⟩ (show zfit (zrm 0 0) 1 room_1 = true from rfl) (Nat.le_of_ble_eq_true rfl) dL_law_2954 ⟨by omega, by omega⟩ ?_
  refine zv_eqi (y := (zI 2)) (ht2) ?_
  refine zv_iload C 1 dL_law_2957 rfl ?_
  refine zv_icmp_eqZ (tgt := 2964) C (by omega) (by omega) dL_law_2959 (by decide) (fun h2959 => ?_) (fun h2959 => ?_)
  · skip
    refine zv_iload C 1 dL_law_2964 rfl ?_
    refine zv_if_neZ (tgt := 2980) C (by omega) dL_law_2966 (by decide) (fun h2966 => ?_) (fun h2966 => absurd h2966 (by decide))
    refine zv_goto (tgt := 3624) C dL_law_2980 (by decide) ?_
    refine zv_sub (lv' := [(0, .ref b0), (1, .ref (ob E 0)), (2, .ref (ob E 327)), (3, .ref (ob E 339)), (4, .ref (ob E 340)), (5, .int (zI (i : Int)))]) [2, 3, 4, 5, 6, 7] (zcons rfl (zcons rfl (zcons rfl (zcons rfl (zcons rfl (zcons rfl rfl)))))) ?_
    exact kk _ _ _ _ (by omega) (by omega) hR2
  · exfalso
    omega
theorem LK_44 {p : Program} {l : Launch} {e : Env} {s : State} {m : MethodId} {args : Array Value} {below : List Frame} {meth : Method} {c : Code} {E : zE} {Q : State → Prop} {b0 L i ce sl : Nat} {xs : Nat → Int32} {σ : zS} (ni : Nat) (tx : Nat → Int) (ec : Nat) (eo : Int) (U : zSU) (S : zST) (hh : List zST) (kp : Option zST) (ou : List Nat) (hFN : zFN) (W : zLW p l s m args meth c E b0 L xs) (hi : i + 6 ≤ L) (hcs : ce + 1 ≤ room_1.cells ∧ sl + 6 ≤ room_1.slots) (hR : zRel σ (zDv.mk ni tx ec eo U S hh kp ou)) (kk : zNx p l e s m args below meth c E Q b0 i ce sl) : zV p l e room_1 s m args below meth c 9 E Q ce sl σ 2916 (lwL b0 i E) [] := by
  obtain ⟨v1, hx1, hv1⟩ := zI_cov (xs (i + 1))
  obtain ⟨v2, hx2, hv2⟩ := zI_cov (xs (i + 2))
  by_cases g1 : 0 ≤ v1 ∧ v1 < U.nb
  case neg =>
    exact lw_revolutions_x1_x1 _ _ _ _ _ _ _ _ _ _ _ W hi hcs hR hx1 hx2 (by first | assumption | omega) (by first | assumption | omega) kk
  obtain ⟨n1, rfl⟩ := Int.eq_ofNat_of_zero_le (show 0 ≤ v1 by omega)
  by_cases g2 : U.s0 ≤ v2 ∧ v2 ≤ U.s0 + 999
  case neg =>
    exact lw_revolutions_x2_x2 _ _ _ _ _ _ _ _ _ _ _ W hi hcs hR hx1 hx2 (by first | assumption | omega) (by first | assumption | omega) (by first | assumption | omega) kk
  exact lw_revolutions_c_c _ _ _ _ _ _ _ _ _ _ _ W hi hcs hR hx1 hx2 (by first | assumption | omega) (by first | assumption | omega) kk
theorem dL_law_2983 : decode cL_law 2983 = .ok (.aload_n 1, 1) := by decide +kernel
theorem dL_law_2984 : decode cL_law 2984 = .ok (.aload_n 0, 1) := by decide +kernel
theorem dL_law_2985 : decode cL_law 2985 = .ok (.iload 5, 2) := by decide +kernel
theorem dL_law_2987 : decode cL_law 2987 = .ok (.iconst 1, 1) := by decide +kernel
theorem dL_law_2988 : decode cL_law 2988 = .ok (.iadd, 1) := by decide +kernel
theorem dL_law_2989 : decode cL_law 2989 = .ok (.iaload, 1) := by decide +kernel
theorem dL_law_2990 : decode cL_law 2990 = .ok (.aload_n 0, 1) := by decide +kernel
theorem dL_law_2991 : decode cL_law 2991 = .ok (.iload 5, 2) := by decide +kernel
theorem dL_law_2993 : decode cL_law 2993 = .ok (.iconst 2, 1) := by decide +kernel
theorem dL_law_2994 : decode cL_law 2994 = .ok (.iadd, 1) := by decide +kernel
theorem dL_law_2995 : decode cL_law 2995 = .ok (.iaload, 1) := by decide +kernel
theorem dL_law_2996 : decode cL_law 2996 = .ok (.aload_n 3, 1) := by decide +kernel
theorem dL_law_2997 : decode cL_law 2997 = .ok (.invokestatic 325, 3) := by decide +kernel
theorem dL_law_3000 : decode cL_law 3000 = .ok (.istore 6, 2) := by decide +kernel
theorem dL_law_3002 : decode cL_law 3002 = .ok (.aload_n 2, 1) := by decide +kernel
theorem dL_law_3003 : decode cL_law 3003 = .ok (.aload_n 0, 1) := by decide +kernel
theorem dL_law_3004 : decode cL_law 3004 = .ok (.iload 5, 2) := by decide +kernel
theorem dL_law_3006 : decode cL_law 3006 = .ok (.iconst 1, 1) := by decide +kernel
theorem dL_law_3007 : decode cL_law 3007 = .ok (.iadd, 1) := by decide +kernel
theorem dL_law_3008 : decode cL_law 3008 = .ok (.iaload, 1) := by decide +kernel
theorem dL_law_3009 : decode cL_law 3009 = .ok (.aload_n 0, 1) := by decide +kernel
theorem dL_law_3010 : decode cL_law 3010 = .ok (.iload 5, 2) := by decide +kernel
theorem dL_law_3012 : decode cL_law 3012 = .ok (.iconst 2, 1) := by decide +kernel
theorem dL_law_3013 : decode cL_law 3013 = .ok (.iadd, 1) := by decide +kernel
theorem dL_law_3014 : decode cL_law 3014 = .ok (.iaload, 1) := by decide +kernel
theorem dL_law_3015 : decode cL_law 3015 = .ok (.invokevirtual 327, 3) := by decide +kernel
theorem dL_law_3018 : decode cL_law 3018 = .ok (.istore 7, 2) := by decide +kernel
theorem dL_law_3020 : decode cL_law 3020 = .ok (.aload_n 2, 1) := by decide +kernel
theorem dL_law_3021 : decode cL_law 3021 = .ok (.invokevirtual 200, 3) := by decide +kernel
theorem dL_law_3024 : decode cL_law 3024 = .ok (.iload 6, 2) := by decide +kernel
theorem dL_law_3026 : decode cL_law 3026 = .ok (.if_icmp .eq 5, 3) := by decide +kernel
theorem dL_law_3029 : decode cL_law 3029 = .ok (.iconst 0, 1) := by decide +kernel
theorem dL_law_3030 : decode cL_law 3030 = .ok (.ireturn, 1) := by decide +kernel
theorem dL_law_3031 : decode cL_law 3031 = .ok (.iload 6, 2) := by decide +kernel
theorem dL_law_3033 : decode cL_law 3033 = .ok (.ifCond .ne 15, 3) := by decide +kernel
theorem dL_law_3036 : decode cL_law 3036 = .ok (.aload_n 3, 1) := by decide +kernel
theorem dL_law_3037 : decode cL_law 3037 = .ok (.iconst 0, 1) := by decide +kernel
theorem dL_law_3038 : decode cL_law 3038 = .ok (.laload, 1) := by decide +kernel
theorem dL_law_3039 : decode cL_law 3039 = .ok (.iload 7, 2) := by decide +kernel
theorem dL_law_3041 : decode cL_law 3041 = .ok (.i2l, 1) := by decide +kernel
theorem dL_law_3042 : decode cL_law 3042 = .ok (.lcmp, 1) := by decide +kernel
theorem dL_law_3043 : decode cL_law 3043 = .ok (.ifCond .eq 5, 3) := by decide +kernel
theorem dL_law_3046 : decode cL_law 3046 = .ok (.iconst 0, 1) := by decide +kernel
theorem dL_law_3047 : decode cL_law 3047 = .ok (.ireturn, 1) := by decide +kernel
theorem dL_law_3048 : decode cL_law 3048 = .ok (.goto 576, 3) := by decide +kernel
set_option maxRecDepth 20000 in
theorem lw_leapYears_c_c {p : Program} {l : Launch} {e : Env} {s : State} {m : MethodId} {args : Array Value} {below : List Frame} {meth : Method} {c : Code} {E : zE} {Q : State → Prop} {b0 L i ce sl : Nat} {xs : Nat → Int32} {σ : zS} (ni : Nat) (tx : Nat → Int) (ec : Nat) (eo : Int) (U : zSU) (S : zST) (hh : List zST) (kp : Option zST) (ou : List Nat) (v1 : Int) (v2 : Int) (W : zLW p l s m args meth c E b0 L xs) (hi : i + 6 ≤ L) (hcs : ce + 1 ≤ room_1.cells ∧ sl + 6 ≤ room_1.slots) (hR : zRel σ (zDv.mk ni tx ec eo U S hh kp ou)) (hx1 : xs (i + 1) = (zI v1)) (hx2 : xs (i + 2) = (zI v2)) (hb0 : U.s0 ≤ v1 ∧ v1 ≤ U.s0 + 999) (hd21 : U.s0 ≤ v2 ∧ v2 ≤ U.s0 + 999) (hle2 : v1 ≤ v2)  (kk : zNx p l e s m args below meth c E Q b0 i ce sl) : zV p l e room_1 s m args below meth c 9 E Q ce sl σ 2983 (lwL b0 i E) [] := by
  refine (?_ : zV p l e room_1 s m args below meth c 9 E Q ce sl σ 2983 [(0, .ref b0), (1, .ref (ob E 0)), (2, .ref (ob E 327)), (3, .ref (ob E 339)), (4, .ref (ob E 340)), (5, .int (zI (i : Int)))] [])
  have C := W.2.1
  have hfl := W.1
  have hroom : room_1.cells = 601024 ∧ room_1.slots = 7293034 := ⟨rfl, rfl⟩
  refine zv_aload_n C 1 dL_law_2983 rfl rfl ?_
  refine zv_aload_n C 0 dL_law_2984 rfl rfl ?_
  refine zv_iload C 5 dL_law_2985 rfl ?_
  refine zv_iconst (v := zI 1) C dL_law_2987 rfl ?_
  refine zv_iaddZ C dL_law_2988 ?_
  refine zv_sld (j := i + 1) (v := (zI v1)) C W.2.2.1 W.2.2.2.1 W.2.2.2.2.1 W.2.2.2.2.2 (zI_ix (by omega)) (by omega) hx1 dL_law_2989 ?_
  refine zv_aload_n C 0 dL_law_2990 rfl rfl ?_
  refine zv_iload C 5 dL_law_2991 rfl ?_
  refine zv_iconst (v := zI 2) C dL_law_2993 rfl ?_
  refine zv_iaddZ C dL_law_2994 ?_
  refine zv_sld (j := i + 2) (v := (zI v2)) C W.2.2.1 W.2.2.2.1 W.2.2.2.2.1 W.2.2.2.2.2 (zI_ix (by omega)) (by omega) hx2 dL_law_2995 ?_
  refine zv_aload_n C 3 dL_law_2996 rfl rfl ?_
  refine zv_cH (st := []) C (w_c_X10_leapYears hfl E σ U v1 v2 hR.1.2.2.1 (by first | assumption | omega) (by first | assumption | omega) (by first | assumption | omega)) mL_leapYears kL_325 rfl ⟨rfl, rfl⟩ (show zfit (zrm 4 87) 5 room_1 = true from rfl) (Nat.le_of_ble_eq_true rfl) dL_law_2997 ⟨by omega, by omega⟩ (fun r2997 τ2997 hp2997 => ?_)
  obtain ⟨hr0, v9, υ9, hP9, hτ9⟩ := hp2997
  refine zv_eqi (y := zI 0) hr0 ?_
  obtain ⟨hv9, hW9⟩ := hP9
  have hF9 : zFr 318 327 σ υ9 := by first | exact hW9 | (rw [hW9]; exact (by first | exact zFr_refl _ _ _ | exact zFr_rW (zFr_refl _ _ _) (by omega) | exact zFr_rW (zFr_rW (zFr_refl _ _ _) (by omega)) (by omega) | exact qW_f _ _ _ _ | exact qM_f _ _ _ _ _ | exact rW2_f _ _ _ _ _ | exact rW3_f _ _ _ _ _ | exact alW_f _ _ _ _ _ | (split <;> first | exact zFr_refl _ _ _ | exact bW_f _ _ _ _) | assumption))
  have hR1 : zRel τ2997 (zDv.mk ni tx ec eo U S hh kp ou) := by rw [hτ9]; exact zRel_J (zRel_c hR hF9) _
  have ho9 : gJ τ2997 339 0 = v9.toInt64 := by rw [hτ9, gJ_sJ, if_pos ⟨rfl, rfl⟩]
  rw [hv9] at ho9
  refine zv_istore (lv' := [(6, .int (zI 0)), (0, .ref b0), (1, .ref (ob E 0)), (2, .ref (ob E 327)), (3, .ref (ob E 339)), (4, .ref (ob E 340)), (5, .int (zI (i : Int)))]) C dL_law_3000  (by decide) rfl ?_
  refine zv_aload_n C 3 dL_law_3002 rfl rfl ?_
  refine zv_aload_n C 1 dL_law_3003 rfl rfl ?_
  refine zv_iload C 6 dL_law_3004 rfl ?_
  refine zv_iconst (v := zI 1) C dL_law_3006 rfl ?_
  refine zv_iaddZ C dL_law_3007 ?_
  refine zv_sld (j := i + 1) (v := (zI v1)) C W.2.2.1 W.2.2.2.1 W.2.2.2.2.1 W.2.2.2.2.2 (zI_ix (by omega)) (by omega) hx1 dL_law_3008 ?_
  refine zv_aload_n C 1 dL_law_3009 rfl rfl ?_
  refine zv_iload C 6 dL_law_3010 rfl ?_
  refine zv_iconst (v := zI 2) C dL_law_3012 rfl ?_
  refine zv_iaddZ C dL_law_3013 ?_
  refine zv_sld (j := i + 2) (v := (zI v2)) C W.2.2.1 W.2.2.2.1 W.2.2.2.2.1 W.2.2.2.2.2 (zI_ix (by omega)) (by omega) hx2 dL_law_3014 ?_
  refine zv_cvi (st := []) C (c_X11_leapYears hfl E τ2997 σ U v1 v2 hR1.2.2.2.1 hR.1.2.2.1 (by first | assumption | omega) (by first | assumption | omega) (by first | assumption | omega)) mX11_leapYears kL_327 (by decide : kd 327 = 10) rfl rfl rfl ⟨rfl, rfl⟩ (show zfit (zrm 2 46) 3 room_1 = true from rfl) (Nat.le_of_ble_eq_true rfl) dL_law_3015 ⟨by omega, by omega⟩ (fun r3015 τ3015 hp3015 => ?_)
  obtain ⟨hr2, hK2⟩ := hp3015
  refine zv_eqi (y := zI (yLp v2 - yLp (v1 - 1))) hr2 ?_
  have hR2 : zRel τ3015 (zDv.mk ni tx ec eo U S hh kp ou) := zRel_m hR1 hK2
  have ht2 : gI τ3015 327 10 = zI 0 := hK2.2
  have hJ2 : gJ τ3015 339 0 = gJ τ2997 339 0 := hK2.1.2.1 339 0 (by decide)
  have hD2 : gD τ3015 340 0 = gD τ2997 340 0 := hK2.1.2.2 340 0
  refine zv_istore (lv' := [(7, .int (zI (yLp v2 - yLp (v1 - 1)))), (6, .int (zI 0)), (0, .ref b0), (1, .ref (ob E 0)), (2, .ref (ob E 327)), (3, .ref (ob E 339)), (4, .ref (ob E 340)), (5, .int (zI (i : Int)))]) C dL_law_3018  (by decide) rfl ?_
  refine zv_aload_n C 4 dL_law_3020 rfl rfl ?_
  refine zv_cviD (st := []) C (c_X11_thrown hfl E τ3015) mX11_thrown kL_200 (by decide : kd 327 = 10) rfl rfl rfl ⟨rfl, rfl⟩ (show zfit (zrm 0 0) 1 room_1 = true from rfl) (Nat.le_of_ble_eq_true rfl) dL_law_3021 ⟨by omega, by omega⟩ ?_
  refine zv_eqi (y := (zI 0)) (ht2) ?_
  refine zv_iload C 1 dL_law_3024 rfl ?_
  refine zv_icmp_eqZ (tgt := 3031) C (by omega) (by omega) dL_law_3026 (by decide) (fun h3026 => ?_) (fun h3026 => ?_)
  · skip
    refine zv_iload C 1 dL_law_3031 rfl ?_
    refine zv_if_neZ (tgt := 3048) C (by omega) dL_law_3033 (by decide) (fun h3033 => absurd h3033 (by decide)) (fun h3033 => ?_)
    refine zv_aload_n C 5 dL_law_3036 rfl rfl ?_
    refine zv_iconst (v := zI 0) C dL_law_3037 rfl ?_
    refine zv_lald (j := 0) C (by decide : kd 339 = _) (zI_ix (by omega)) (by decide) dL_law_3038 ?_
    refine zv_eql (y := ((zI (yLp v2 - yLp (v1 - 1))).toInt64)) (hJ2.trans ho9) ?_
    refine zv_iload C 0 dL_law_3039 rfl ?_
    refine zv_i2l C dL_law_3041 ?_
    refine zv_lc_eq (tgt := 3048) C dL_law_3042 dL_law_3043 (by decide) (fun h3042 => ?_) (fun h3042 => ?_)
    · skip
      refine zv_goto (tgt := 3624) C dL_law_3048 (by decide) ?_
      refine zv_sub (lv' := [(0, .ref b0), (1, .ref (ob E 0)), (2, .ref (ob E 327)), (3, .ref (ob E 339)), (4, .ref (ob E 340)), (5, .int (zI (i : Int)))]) [2, 3, 4, 5, 6, 7] (zcons rfl (zcons rfl (zcons rfl (zcons rfl (zcons rfl (zcons rfl rfl)))))) ?_
      exact kk _ _ _ _ (by omega) (by omega) hR2
    · exfalso
      exact h3042 rfl
  · exfalso
    omega
set_option maxRecDepth 20000 in
theorem lw_leapYears_x1_x1 {p : Program} {l : Launch} {e : Env} {s : State} {m : MethodId} {args : Array Value} {below : List Frame} {meth : Method} {c : Code} {E : zE} {Q : State → Prop} {b0 L i ce sl : Nat} {xs : Nat → Int32} {σ : zS} (ni : Nat) (tx : Nat → Int) (ec : Nat) (eo : Int) (U : zSU) (S : zST) (hh : List zST) (kp : Option zST) (ou : List Nat) (v1 : Int) (v2 : Int) (W : zLW p l s m args meth c E b0 L xs) (hi : i + 6 ≤ L) (hcs : ce + 1 ≤ room_1.cells ∧ sl + 6 ≤ room_1.slots) (hR : zRel σ (zDv.mk ni tx ec eo U S hh kp ou)) (hx1 : xs (i + 1) = (zI v1)) (hx2 : xs (i + 2) = (zI v2)) (hbi0 : -2147483648 ≤ v1 ∧ v1 < 2147483648) (hdi1 : -2147483648 ≤ v2 ∧ v2 < 2147483648) (hb2 : ¬ (U.s0 ≤ v1 ∧ v1 ≤ U.s0 + 999))  (kk : zNx p l e s m args below meth c E Q b0 i ce sl) : zV p l e room_1 s m args below meth c 9 E Q ce sl σ 2983 (lwL b0 i E) [] := by
  refine (?_ : zV p l e room_1 s m args below meth c 9 E Q ce sl σ 2983 [(0, .ref b0), (1, .ref (ob E 0)), (2, .ref (ob E 327)), (3, .ref (ob E 339)), (4, .ref (ob E 340)), (5, .int (zI (i : Int)))] [])
  have C := W.2.1
  have hfl := W.1
  have hroom : room_1.cells = 601024 ∧ room_1.slots = 7293034 := ⟨rfl, rfl⟩
  refine zv_aload_n C 1 dL_law_2983 rfl rfl ?_
  refine zv_aload_n C 0 dL_law_2984 rfl rfl ?_
  refine zv_iload C 5 dL_law_2985 rfl ?_
  refine zv_iconst (v := zI 1) C dL_law_2987 rfl ?_
  refine zv_iaddZ C dL_law_2988 ?_
  refine zv_sld (j := i + 1) (v := (zI v1)) C W.2.2.1 W.2.2.2.1 W.2.2.2.2.1 W.2.2.2.2.2 (zI_ix (by omega)) (by omega) hx1 dL_law_2989 ?_
  refine zv_aload_n C 0 dL_law_2990 rfl rfl ?_
  refine zv_iload C 5 dL_law_2991 rfl ?_
  refine zv_iconst (v := zI 2) C dL_law_2993 rfl ?_
  refine zv_iaddZ C dL_law_2994 ?_
  refine zv_sld (j := i + 2) (v := (zI v2)) C W.2.2.1 W.2.2.2.1 W.2.2.2.2.1 W.2.2.2.2.2 (zI_ix (by omega)) (by omega) hx2 dL_law_2995 ?_
  refine zv_aload_n C 3 dL_law_2996 rfl rfl ?_
  refine zv_cH (st := []) C (w_x1_X10_leapYears hfl E σ U v1 v2 hR.1.2.2.1 (by first | assumption | omega) (by first | assumption | omega) (by first | assumption | omega)) mL_leapYears kL_325 rfl ⟨rfl, rfl⟩ (show zfit (zrx 13 282) 5 room_1 = true from rfl) (Nat.le_of_ble_eq_true rfl) dL_law_2997 ⟨by exact hcs.1, by exact hcs.2⟩ (fun r2997 τ2997 hp2997 => ?_)
  obtain ⟨hr0, hP9⟩ := hp2997
  refine zv_eqi (y := zI 1) hr0 ?_
  have hF9 : zFr 318 327 σ τ2997 := by rw [hP9]; exact (by first | exact zFr_refl _ _ _ | exact zFr_rW (zFr_refl _ _ _) (by omega) | exact zFr_rW (zFr_rW (zFr_refl _ _ _) (by omega)) (by omega) | exact qW_f _ _ _ _ | exact qM_f _ _ _ _ _ | exact rW2_f _ _ _ _ _ | exact rW3_f _ _ _ _ _ | exact alW_f _ _ _ _ _ | (split <;> first | exact zFr_refl _ _ _ | exact bW_f _ _ _ _) | assumption)
  have hR1 : zRel τ2997 (zDv.mk ni tx ec eo U S hh kp ou) := zRel_c hR hF9
  refine zv_istore (lv' := [(6, .int (zI 1)), (0, .ref b0), (1, .ref (ob E 0)), (2, .ref (ob E 327)), (3, .ref (ob E 339)), (4, .ref (ob E 340)), (5, .int (zI (i : Int)))]) C dL_law_3000  (by decide) rfl ?_
  refine zv_aload_n C 3 dL_law_3002 rfl rfl ?_
  refine zv_aload_n C 1 dL_law_3003 rfl rfl ?_
  refine zv_iload C 6 dL_law_3004 rfl ?_
  refine zv_iconst (v := zI 1) C dL_law_3006 rfl ?_
  refine zv_iaddZ C dL_law_3007 ?_
  refine zv_sld (j := i + 1) (v := (zI v1)) C W.2.2.1 W.2.2.2.1 W.2.2.2.2.1 W.2.2.2.2.2 (zI_ix (by omega)) (by omega) hx1 dL_law_3008 ?_
  refine zv_aload_n C 1 dL_law_3009 rfl rfl ?_
  refine zv_iload C 6 dL_law_3010 rfl ?_
  refine zv_iconst (v := zI 2) C dL_law_3012 rfl ?_
  refine zv_iaddZ C dL_law_3013 ?_
  refine zv_sld (j := i + 2) (v := (zI v2)) C W.2.2.1 W.2.2.2.1 W.2.2.2.2.1 W.2.2.2.2.2 (zI_ix (by omega)) (by omega) hx2 dL_law_3014 ?_
  refine zv_cvi (st := []) C (x1_X11_leapYears hfl E τ2997 σ U v1 v2 hR1.2.2.2.1 hR.1.2.2.1 (by first | assumption | omega) (by first | assumption | omega) (by first | assumption | omega)) mX11_leapYears kL_327 (by decide : kd 327 = 10) rfl rfl rfl ⟨rfl, rfl⟩ (show zfit (zrm 2 46) 3 room_1 = true from rfl) (Nat.le_of_ble_eq_true rfl) dL_law_3015 ⟨by omega, by omega⟩ (fun r3015 τ3015 hp3015 => ?_)
  obtain ⟨hr2, hK2⟩ := hp3015
  refine zv_eqi (y := zI 0) hr2 ?_
  have hR2 : zRel τ3015 (zDv.mk ni tx ec eo U S hh kp ou) := zRel_m hR1 hK2
  have ht2 : gI τ3015 327 10 = zI 1 := hK2.2
  have hJ2 : gJ τ3015 339 0 = gJ τ2997 339 0 := hK2.1.2.1 339 0 (by decide)
  have hD2 : gD τ3015 340 0 = gD τ2997 340 0 := hK2.1.2.2 340 0
  refine zv_istore (lv' := [(7, .int (zI 0)), (6, .int (zI 1)), (0, .ref b0), (1, .ref (ob E 0)), (2, .ref (ob E 327)), (3, .ref (ob E 339)), (4, .ref (ob E 340)), (5, .int (zI (i : Int)))]) C dL_law_3018  (by decide) rfl ?_
  refine zv_aload_n C 4 dL_law_3020 rfl rfl ?_
  refine zv_cviD (st := []) C (c_X11_thrown hfl E τ3015) mX11_thrown kL_200 (by decide : kd 327 = 10) rfl rfl rfl ⟨rfl, rfl⟩ (show zfit (zrm 0 0) 1 room_1 = true from rfl) (Nat.le_of_ble_eq_true rfl) dL_law_3021 ⟨by omega, by omega⟩ ?_
  refine zv_eqi (y := (zI 1)) (ht2) ?_
  refine zv_iload C 1 dL_law_3024 rfl ?_
  refine zv_icmp_eqZ (tgt := 3031) C (by omega) (by omega) dL_law_3026 (by decide) (fun h3026 => ?_) (fun h3026 => ?_)
  · skip
    refine zv_iload C 1 dL_law_3031 rfl ?_
    refine zv_if_neZ (tgt := 3048) C (by omega) dL_law_3033 (by decide) (fun h3033 => ?_) (fun h3033 => absurd h3033 (by decide))
    refine zv_goto (tgt := 3624) C dL_law_3048 (by decide) ?_
    refine zv_sub (lv' := [(0, .ref b0), (1, .ref (ob E 0)), (2, .ref (ob E 327)), (3, .ref (ob E 339)), (4, .ref (ob E 340)), (5, .int (zI (i : Int)))]) [2, 3, 4, 5, 6, 7] (zcons rfl (zcons rfl (zcons rfl (zcons rfl (zcons rfl (zcons rfl rfl)))))) ?_
    exact kk _ _ _ _ (by omega) (by omega) hR2
  · exfalso
    omega
set_option maxRecDepth 20000 in
theorem lw_leapYears_x2_x1 {p : Program} {l : Launch} {e : Env} {s : State} {m : MethodId} {args : Array Value} {below : List Frame} {meth : Method} {c : Code} {E : zE} {Q : State → Prop} {b0 L i ce sl : Nat} {xs : Nat → Int32} {σ : zS} (ni : Nat) (tx : Nat → Int) (ec : Nat) (eo : Int) (U : zSU) (S : zST) (hh : List zST) (kp : Option zST) (ou : List Nat) (v1 : Int) (v2 : Int) (W : zLW p l s m args meth c E b0 L xs) (hi : i + 6 ≤ L) (hcs : ce + 1 ≤ room_1.cells ∧ sl + 6 ≤ room_1.slots) (hR : zRel σ (zDv.mk ni tx ec eo U S hh kp ou)) (hx1 : xs (i + 1) = (zI v1)) (hx2 : xs (i + 2) = (zI v2)) (hbi0 : -2147483648 ≤ v1 ∧ v1 < 2147483648) (hdi1 : -2147483648 ≤ v2 ∧ v2 < 2147483648) (hb2 : (U.s0 ≤ v1 ∧ v1 ≤ U.s0 + 999)) (hd23 : ¬ (U.s0 ≤ v2 ∧ v2 ≤ U.s0 + 999))  (kk : zNx p l e s m args below meth c E Q b0 i ce sl) : zV p l e room_1 s m args below meth c 9 E Q ce sl σ 2983 (lwL b0 i E) [] := by
  refine (?_ : zV p l e room_1 s m args below meth c 9 E Q ce sl σ 2983 [(0, .ref b0), (1, .ref (ob E 0)), (2, .ref (ob E 327)), (3, .ref (ob E 339)), (4, .ref (ob E 340)), (5, .int (zI (i : Int)))] [])
  have C := W.2.1
  have hfl := W.1
  have hroom : room_1.cells = 601024 ∧ room_1.slots = 7293034 := ⟨rfl, rfl⟩
  refine zv_aload_n C 1 dL_law_2983 rfl rfl ?_
  refine zv_aload_n C 0 dL_law_2984 rfl rfl ?_
  refine zv_iload C 5 dL_law_2985 rfl ?_
  refine zv_iconst (v := zI 1) C dL_law_2987 rfl ?_
  refine zv_iaddZ C dL_law_2988 ?_
  refine zv_sld (j := i + 1) (v := (zI v1)) C W.2.2.1 W.2.2.2.1 W.2.2.2.2.1 W.2.2.2.2.2 (zI_ix (by omega)) (by omega) hx1 dL_law_2989 ?_
  refine zv_aload_n C 0 dL_law_2990 rfl rfl ?_
  refine zv_iload C 5 dL_law_2991 rfl ?_
  refine zv_iconst (v := zI 2) C dL_law_2993 rfl ?_
  refine zv_iaddZ C dL_law_2994 ?_
  refine zv_sld (j := i + 2) (v := (zI v2)) C W.2.2.1 W.2.2.2.1 W.2.2.2.2.1 W.2.2.2.2.2 (zI_ix (by omega)) (by omega) hx2 dL_law_2995 ?_
  refine zv_aload_n C 3 dL_law_2996 rfl rfl ?_
  refine zv_cH (st := []) C (w_x2_X10_leapYears hfl E σ U v1 v2 hR.1.2.2.1 (by first | assumption | omega) (by first | assumption | omega) (by first | assumption | omega) (by first | assumption | omega)) mL_leapYears kL_325 rfl ⟨rfl, rfl⟩ (show zfit (zrx 13 282) 5 room_1 = true from rfl) (Nat.le_of_ble_eq_true rfl) dL_law_2997 ⟨by exact hcs.1, by exact hcs.2⟩ (fun r2997 τ2997 hp2997 => ?_)
  obtain ⟨hr0, hP9⟩ := hp2997
  refine zv_eqi (y := zI 1) hr0 ?_
  have hF9 : zFr 318 327 σ τ2997 := by rw [hP9]; exact (by first | exact zFr_refl _ _ _ | exact zFr_rW (zFr_refl _ _ _) (by omega) | exact zFr_rW (zFr_rW (zFr_refl _ _ _) (by omega)) (by omega) | exact qW_f _ _ _ _ | exact qM_f _ _ _ _ _ | exact rW2_f _ _ _ _ _ | exact rW3_f _ _ _ _ _ | exact alW_f _ _ _ _ _ | (split <;> first | exact zFr_refl _ _ _ | exact bW_f _ _ _ _) | assumption)
  have hR1 : zRel τ2997 (zDv.mk ni tx ec eo U S hh kp ou) := zRel_c hR hF9
  refine zv_istore (lv' := [(6, .int (zI 1)), (0, .ref b0), (1, .ref (ob E 0)), (2, .ref (ob E 327)), (3, .ref (ob E 339)), (4, .ref (ob E 340)), (5, .int (zI (i : Int)))]) C dL_law_3000  (by decide) rfl ?_
  refine zv_aload_n C 3 dL_law_3002 rfl rfl ?_
  refine zv_aload_n C 1 dL_law_3003 rfl rfl ?_
  refine zv_iload C 6 dL_law_3004 rfl ?_
  refine zv_iconst (v := zI 1) C dL_law_3006 rfl ?_
  refine zv_iaddZ C dL_law_3007 ?_
  refine zv_sld (j := i + 1) (v := (zI v1)) C W.2.2.1 W.2.2.2.1 W.2.2.2.2.1 W.2.2.2.2.2 (zI_ix (by omega)) (by omega) hx1 dL_law_3008 ?_
  refine zv_aload_n C 1 dL_law_3009 rfl rfl ?_
  refine zv_iload C 6 dL_law_3010 rfl ?_
  refine zv_iconst (v := zI 2) C dL_law_3012 rfl ?_
  refine zv_iaddZ C dL_law_3013 ?_
  refine zv_sld (j := i + 2) (v := (zI v2)) C W.2.2.1 W.2.2.2.1 W.2.2.2.2.1 W.2.2.2.2.2 (zI_ix (by omega)) (by omega) hx2 dL_law_3014 ?_
  refine zv_cvi (st := []) C (x1_X11_leapYears hfl E τ2997 σ U v1 v2 hR1.2.2.2.1 hR.1.2.2.1 (by first | assumption | omega) (by first | assumption | omega) (by first | assumption | omega)) mX11_leapYears kL_327 (by decide : kd 327 = 10) rfl rfl rfl ⟨rfl, rfl⟩ (show zfit (zrm 2 46) 3 room_1 = true from rfl) (Nat.le_of_ble_eq_true rfl) dL_law_3015 ⟨by omega, by omega⟩ (fun r3015 τ3015 hp3015 => ?_)
  obtain ⟨hr2, hK2⟩ := hp3015
  refine zv_eqi (y := zI 0) hr2 ?_
  have hR2 : zRel τ3015 (zDv.mk ni tx ec eo U S hh kp ou) := zRel_m hR1 hK2
  have ht2 : gI τ3015 327 10 = zI 1 := hK2.2
  have hJ2 : gJ τ3015 339 0 = gJ τ2997 339 0 := hK2.1.2.1 339 0 (by decide)
  have hD2 : gD τ3015 340 0 = gD τ2997 340 0 := hK2.1.2.2 340 0
  refine zv_istore (lv' := [(7, .int (zI 0)), (6, .int (zI 1)), (0, .ref b0), (1, .ref (ob E 0)), (2, .ref (ob E 327)), (3, .ref (ob E 339)), (4, .ref (ob E 340)), (5, .int (zI (i : Int)))]) C dL_law_3018  (by decide) rfl ?_
  refine zv_aload_n C 4 dL_law_3020 rfl rfl ?_
  refine zv_cviD (st := []) C (c_X11_thrown hfl E τ3015) mX11_thrown kL_200 (by decide : kd 327 = 10) rfl rfl rfl ⟨rfl, rfl⟩ (show zfit (zrm 0 0) 1 room_1 = true from rfl) (Nat.le_of_ble_eq_true rfl) dL_law_3021 ⟨by omega, by omega⟩ ?_
  refine zv_eqi (y := (zI 1)) (ht2) ?_
  refine zv_iload C 1 dL_law_3024 rfl ?_
  refine zv_icmp_eqZ (tgt := 3031) C (by omega) (by omega) dL_law_3026 (by decide) (fun h3026 => ?_) (fun h3026 => ?_)
  · skip
    refine zv_iload C 1 dL_law_3031 rfl ?_
    refine zv_if_neZ (tgt := 3048) C (by omega) dL_law_3033 (by decide) (fun h3033 => ?_) (fun h3033 => absurd h3033 (by decide))
    refine zv_goto (tgt := 3624) C dL_law_3048 (by decide) ?_
    refine zv_sub (lv' := [(0, .ref b0), (1, .ref (ob E 0)), (2, .ref (ob E 327)), (3, .ref (ob E 339)), (4, .ref (ob E 340)), (5, .int (zI (i : Int)))]) [2, 3, 4, 5, 6, 7] (zcons rfl (zcons rfl (zcons rfl (zcons rfl (zcons rfl (zcons rfl rfl)))))) ?_
    exact kk _ _ _ _ (by omega) (by omega) hR2
  · exfalso
    omega
set_option maxRecDepth 20000 in
theorem lw_leapYears_x3_x1 {p : Program} {l : Launch} {e : Env} {s : State} {m : MethodId} {args : Array Value} {below : List Frame} {meth : Method} {c : Code} {E : zE} {Q : State → Prop} {b0 L i ce sl : Nat} {xs : Nat → Int32} {σ : zS} (ni : Nat) (tx : Nat → Int) (ec : Nat) (eo : Int) (U : zSU) (S : zST) (hh : List zST) (kp : Option zST) (ou : List Nat) (v1 : Int) (v2 : Int) (W : zLW p l s m args meth c E b0 L xs) (hi : i + 6 ≤ L) (hcs : ce + 1 ≤ room_1.cells ∧ sl + 6 ≤ room_1.slots) (hR : zRel σ (zDv.mk ni tx ec eo U S hh kp ou)) (hx1 : xs (i + 1) = (zI v1)) (hx2 : xs (i + 2) = (zI v2)) (hbi0 : -2147483648 ≤ v1 ∧ v1 < 2147483648) (hdi1 : -2147483648 ≤ v2 ∧ v2 < 2147483648) (hb2 : (U.s0 ≤ v1 ∧ v1 ≤ U.s0 + 999)) (hd23 : (U.s0 ≤ v2 ∧ v2 ≤ U.s0 + 999)) (hlt4 : v2 < v1)  (kk : zNx p l e s m args below meth c E Q b0 i ce sl) : zV p l e room_1 s m args below meth c 9 E Q ce sl σ 2983 (lwL b0 i E) [] := by
  refine (?_ : zV p l e room_1 s m args below meth c 9 E Q ce sl σ 2983 [(0, .ref b0), (1, .ref (ob E 0)), (2, .ref (ob E 327)), (3, .ref (ob E 339)), (4, .ref (ob E 340)), (5, .int (zI (i : Int)))] [])
  have C := W.2.1
  have hfl := W.1
  have hroom : room_1.cells = 601024 ∧ room_1.slots = 7293034 := ⟨rfl, rfl⟩
  refine zv_aload_n C 1 dL_law_2983 rfl rfl ?_
  refine zv_aload_n C 0 dL_law_2984 rfl rfl ?_
  refine zv_iload C 5 dL_law_2985 rfl ?_
  refine zv_iconst (v := zI 1) C dL_law_2987 rfl ?_
  refine zv_iaddZ C dL_law_2988 ?_
  refine zv_sld (j := i + 1) (v := (zI v1)) C W.2.2.1 W.2.2.2.1 W.2.2.2.2.1 W.2.2.2.2.2 (zI_ix (by omega)) (by omega) hx1 dL_law_2989 ?_
  refine zv_aload_n C 0 dL_law_2990 rfl rfl ?_
  refine zv_iload C 5 dL_law_2991 rfl ?_
  refine zv_iconst (v := zI 2) C dL_law_2993 rfl ?_
  refine zv_iaddZ C dL_law_2994 ?_
  refine zv_sld (j := i + 2) (v := (zI v2)) C W.2.2.1 W.2.2.2.1 W.2.2.2.2.1 W.2.2.2.2.2 (zI_ix (by omega)) (by omega) hx2 dL_law_2995 ?_
  refine zv_aload_n C 3 dL_law_2996 rfl rfl ?_
  refine zv_cH (st := []) C (w_x3_X10_leapYears hfl E σ U v1 v2 hR.1.2.2.1 (by first | assumption | omega) (by first | assumption | omega) (by first | assumption | omega) (by first | assumption | omega) (by first | assumption | omega)) mL_leapYears kL_325 rfl ⟨rfl, rfl⟩ (show zfit (zrx 13 282) 5 room_1 = true from rfl) (Nat.le_of_ble_eq_true rfl) dL_law_2997 ⟨by exact hcs.1, by exact hcs.2⟩ (fun r2997 τ2997 hp2997 => ?_)
  obtain ⟨hr0, hP9⟩ := hp2997
  refine zv_eqi (y := zI 1) hr0 ?_
  have hF9 : zFr 318 327 σ τ2997 := by rw [hP9]; exact (by first | exact zFr_refl _ _ _ | exact zFr_rW (zFr_refl _ _ _) (by omega) | exact zFr_rW (zFr_rW (zFr_refl _ _ _) (by omega)) (by omega) | exact qW_f _ _ _ _ | exact qM_f _ _ _ _ _ | exact rW2_f _ _ _ _ _ | exact rW3_f _ _ _ _ _ | exact alW_f _ _ _ _ _ | (split <;> first | exact zFr_refl _ _ _ | exact bW_f _ _ _ _) | assumption)
  have hR1 : zRel τ2997 (zDv.mk ni tx ec eo U S hh kp ou) := zRel_c hR hF9
  refine zv_istore (lv' := [(6, .int (zI 1)), (0, .ref b0), (1, .ref (ob E 0)), (2, .ref (ob E 327)), (3, .ref (ob E 339)), (4, .ref (ob E 340)), (5, .int (zI (i : Int)))]) C dL_law_3000  (by decide) rfl ?_
  refine zv_aload_n C 3 dL_law_3002 rfl rfl ?_
  refine zv_aload_n C 1 dL_law_3003 rfl rfl ?_
  refine zv_iload C 6 dL_law_3004 rfl ?_
  refine zv_iconst (v := zI 1) C dL_law_3006 rfl ?_
  refine zv_iaddZ C dL_law_3007 ?_
  refine zv_sld (j := i + 1) (v := (zI v1)) C W.2.2.1 W.2.2.2.1 W.2.2.2.2.1 W.2.2.2.2.2 (zI_ix (by omega)) (by omega) hx1 dL_law_3008 ?_
  refine zv_aload_n C 1 dL_law_3009 rfl rfl ?_
  refine zv_iload C 6 dL_law_3010 rfl ?_
  refine zv_iconst (v := zI 2) C dL_law_3012 rfl ?_
  refine zv_iaddZ C dL_law_3013 ?_
  refine zv_sld (j := i + 2) (v := (zI v2)) C W.2.2.1 W.2.2.2.1 W.2.2.2.2.1 W.2.2.2.2.2 (zI_ix (by omega)) (by omega) hx2 dL_law_3014 ?_
  refine zv_cvi (st := []) C (x1_X11_leapYears hfl E τ2997 σ U v1 v2 hR1.2.2.2.1 hR.1.2.2.1 (by first | assumption | omega) (by first | assumption | omega) (by first | assumption | omega)) mX11_leapYears kL_327 (by decide : kd 327 = 10) rfl rfl rfl ⟨rfl, rfl⟩ (show zfit (zrm 2 46) 3 room_1 = true from rfl) (Nat.le_of_ble_eq_true rfl) dL_law_3015 ⟨by omega, by omega⟩ (fun r3015 τ3015 hp3015 => ?_)
  obtain ⟨hr2, hK2⟩ := hp3015
  refine zv_eqi (y := zI 0) hr2 ?_
  have hR2 : zRel τ3015 (zDv.mk ni tx ec eo U S hh kp ou) := zRel_m hR1 hK2
  have ht2 : gI τ3015 327 10 = zI 1 := hK2.2
  have hJ2 : gJ τ3015 339 0 = gJ τ2997 339 0 := hK2.1.2.1 339 0 (by decide)
  have hD2 : gD τ3015 340 0 = gD τ2997 340 0 := hK2.1.2.2 340 0
  refine zv_istore (lv' := [(7, .int (zI 0)), (6, .int (zI 1)), (0, .ref b0), (1, .ref (ob E 0)), (2, .ref (ob E 327)), (3, .ref (ob E 339)), (4, .ref (ob E 340)), (5, .int (zI (i : Int)))]) C dL_law_3018  (by decide) rfl ?_
  refine zv_aload_n C 4 dL_law_3020 rfl rfl ?_
  refine zv_cviD (st := []) C (c_X11_thrown hfl E τ3015) mX11_thrown kL_200 (by decide : kd 327 = 10) rfl rfl rfl ⟨rfl, rfl⟩ (show zfit (zrm 0 0) 1 room_1 = true from rfl) (Nat.le_of_ble_eq_true rfl) dL_law_3021 ⟨by omega, by omega⟩ ?_
  refine zv_eqi (y := (zI 1)) (ht2) ?_
  refine zv_iload C 1 dL_law_3024 rfl ?_
  refine zv_icmp_eqZ (tgt := 3031) C (by omega) (by omega) dL_law_3026 (by decide) (fun h3026 => ?_) (fun h3026 => ?_)
  · skip
    refine zv_iload C 1 dL_law_3031 rfl ?_
    refine zv_if_neZ (tgt := 3048) C (by omega) dL_law_3033 (by decide) (fun h3033 => ?_) (fun h3033 => absurd h3033 (by decide))
    refine zv_goto (tgt := 3624) C dL_law_3048 (by decide) ?_
    refine zv_sub (lv' := [(0, .ref b0), (1, .ref (ob E 0)), (2, .ref (ob E 327)), (3, .ref (ob E 339)), (4, .ref (ob E 340)), (5, .int (zI (i : Int)))]) [2, 3, 4, 5, 6, 7] (zcons rfl (zcons rfl (zcons rfl (zcons rfl (zcons rfl (zcons rfl rfl)))))) ?_
    exact kk _ _ _ _ (by omega) (by omega) hR2
  · exfalso
    omega
theorem LK_45 {p : Program} {l : Launch} {e : Env} {s : State} {m : MethodId} {args : Array Value} {below : List Frame} {meth : Method} {c : Code} {E : zE} {Q : State → Prop} {b0 L i ce sl : Nat} {xs : Nat → Int32} {σ : zS} (ni : Nat) (tx : Nat → Int) (ec : Nat) (eo : Int) (U : zSU) (S : zST) (hh : List zST) (kp : Option zST) (ou : List Nat) (hFN : zFN) (W : zLW p l s m args meth c E b0 L xs) (hi : i + 6 ≤ L) (hcs : ce + 1 ≤ room_1.cells ∧ sl + 6 ≤ room_1.slots) (hR : zRel σ (zDv.mk ni tx ec eo U S hh kp ou)) (kk : zNx p l e s m args below meth c E Q b0 i ce sl) : zV p l e room_1 s m args below meth c 9 E Q ce sl σ 2983 (lwL b0 i E) [] := by
  obtain ⟨v1, hx1, hv1⟩ := zI_cov (xs (i + 1))
  obtain ⟨v2, hx2, hv2⟩ := zI_cov (xs (i + 2))
  by_cases g1 : U.s0 ≤ v1 ∧ v1 ≤ U.s0 + 999
  case neg =>
    exact lw_leapYears_x1_x1 _ _ _ _ _ _ _ _ _ _ _ W hi hcs hR hx1 hx2 (by first | assumption | omega) (by first | assumption | omega) (by first | assumption | omega) kk
  by_cases g2 : U.s0 ≤ v2 ∧ v2 ≤ U.s0 + 999
  case neg =>
    exact lw_leapYears_x2_x1 _ _ _ _ _ _ _ _ _ _ _ W hi hcs hR hx1 hx2 (by first | assumption | omega) (by first | assumption | omega) (by first | assumption | omega) (by first | assumption | omega) kk
  by_cases g3 : v1 ≤ v2
  case neg =>
    exact lw_leapYears_x3_x1 _ _ _ _ _ _ _ _ _ _ _ W hi hcs hR hx1 hx2 (by first | assumption | omega) (by first | assumption | omega) (by first | assumption | omega) (by first | assumption | omega) (by first | assumption | omega) kk
  exact lw_leapYears_c_c _ _ _ _ _ _ _ _ _ _ _ W hi hcs hR hx1 hx2 (by first | assumption | omega) (by first | assumption | omega) (by first | assumption | omega) kk
theorem dL_law_3051 : decode cL_law 3051 = .ok (.aload_n 1, 1) := by decide +kernel
theorem dL_law_3052 : decode cL_law 3052 = .ok (.aload_n 0, 1) := by decide +kernel
theorem dL_law_3053 : decode cL_law 3053 = .ok (.iload 5, 2) := by decide +kernel
theorem dL_law_3055 : decode cL_law 3055 = .ok (.iconst 1, 1) := by decide +kernel
theorem dL_law_3056 : decode cL_law 3056 = .ok (.iadd, 1) := by decide +kernel
theorem dL_law_3057 : decode cL_law 3057 = .ok (.iaload, 1) := by decide +kernel
theorem dL_law_3058 : decode cL_law 3058 = .ok (.aload_n 0, 1) := by decide +kernel
theorem dL_law_3059 : decode cL_law 3059 = .ok (.iload 5, 2) := by decide +kernel
theorem dL_law_3061 : decode cL_law 3061 = .ok (.iconst 2, 1) := by decide +kernel
theorem dL_law_3062 : decode cL_law 3062 = .ok (.iadd, 1) := by decide +kernel
theorem dL_law_3063 : decode cL_law 3063 = .ok (.iaload, 1) := by decide +kernel
theorem dL_law_3064 : decode cL_law 3064 = .ok (.aload_n 0, 1) := by decide +kernel
theorem dL_law_3065 : decode cL_law 3065 = .ok (.iload 5, 2) := by decide +kernel
theorem dL_law_3067 : decode cL_law 3067 = .ok (.iconst 3, 1) := by decide +kernel
theorem dL_law_3068 : decode cL_law 3068 = .ok (.iadd, 1) := by decide +kernel
theorem dL_law_3069 : decode cL_law 3069 = .ok (.iaload, 1) := by decide +kernel
theorem dL_law_3070 : decode cL_law 3070 = .ok (.aload_n 3, 1) := by decide +kernel
theorem dL_law_3071 : decode cL_law 3071 = .ok (.invokestatic 328, 3) := by decide +kernel
theorem dL_law_3074 : decode cL_law 3074 = .ok (.istore 6, 2) := by decide +kernel
theorem dL_law_3076 : decode cL_law 3076 = .ok (.aload_n 2, 1) := by decide +kernel
theorem dL_law_3077 : decode cL_law 3077 = .ok (.aload_n 0, 1) := by decide +kernel
theorem dL_law_3078 : decode cL_law 3078 = .ok (.iload 5, 2) := by decide +kernel
theorem dL_law_3080 : decode cL_law 3080 = .ok (.iconst 1, 1) := by decide +kernel
theorem dL_law_3081 : decode cL_law 3081 = .ok (.iadd, 1) := by decide +kernel
theorem dL_law_3082 : decode cL_law 3082 = .ok (.iaload, 1) := by decide +kernel
theorem dL_law_3083 : decode cL_law 3083 = .ok (.aload_n 0, 1) := by decide +kernel
theorem dL_law_3084 : decode cL_law 3084 = .ok (.iload 5, 2) := by decide +kernel
theorem dL_law_3086 : decode cL_law 3086 = .ok (.iconst 2, 1) := by decide +kernel
theorem dL_law_3087 : decode cL_law 3087 = .ok (.iadd, 1) := by decide +kernel
theorem dL_law_3088 : decode cL_law 3088 = .ok (.iaload, 1) := by decide +kernel
theorem dL_law_3089 : decode cL_law 3089 = .ok (.aload_n 0, 1) := by decide +kernel
theorem dL_law_3090 : decode cL_law 3090 = .ok (.iload 5, 2) := by decide +kernel
theorem dL_law_3092 : decode cL_law 3092 = .ok (.iconst 3, 1) := by decide +kernel
theorem dL_law_3093 : decode cL_law 3093 = .ok (.iadd, 1) := by decide +kernel
theorem dL_law_3094 : decode cL_law 3094 = .ok (.iaload, 1) := by decide +kernel
theorem dL_law_3095 : decode cL_law 3095 = .ok (.invokevirtual 330, 3) := by decide +kernel
theorem dL_law_3098 : decode cL_law 3098 = .ok (.lstore 7, 2) := by decide +kernel
theorem dL_law_3100 : decode cL_law 3100 = .ok (.aload_n 2, 1) := by decide +kernel
theorem dL_law_3101 : decode cL_law 3101 = .ok (.invokevirtual 200, 3) := by decide +kernel
theorem dL_law_3104 : decode cL_law 3104 = .ok (.iload 6, 2) := by decide +kernel
theorem dL_law_3106 : decode cL_law 3106 = .ok (.if_icmp .eq 5, 3) := by decide +kernel
theorem dL_law_3109 : decode cL_law 3109 = .ok (.iconst 0, 1) := by decide +kernel
theorem dL_law_3110 : decode cL_law 3110 = .ok (.ireturn, 1) := by decide +kernel
theorem dL_law_3111 : decode cL_law 3111 = .ok (.iload 6, 2) := by decide +kernel
theorem dL_law_3113 : decode cL_law 3113 = .ok (.ifCond .ne 14, 3) := by decide +kernel
theorem dL_law_3116 : decode cL_law 3116 = .ok (.aload_n 3, 1) := by decide +kernel
theorem dL_law_3117 : decode cL_law 3117 = .ok (.iconst 0, 1) := by decide +kernel
theorem dL_law_3118 : decode cL_law 3118 = .ok (.laload, 1) := by decide +kernel
theorem dL_law_3119 : decode cL_law 3119 = .ok (.lload 7, 2) := by decide +kernel
theorem dL_law_3121 : decode cL_law 3121 = .ok (.lcmp, 1) := by decide +kernel
theorem dL_law_3122 : decode cL_law 3122 = .ok (.ifCond .eq 5, 3) := by decide +kernel
theorem dL_law_3125 : decode cL_law 3125 = .ok (.iconst 0, 1) := by decide +kernel
theorem dL_law_3126 : decode cL_law 3126 = .ok (.ireturn, 1) := by decide +kernel
theorem dL_law_3127 : decode cL_law 3127 = .ok (.goto 497, 3) := by decide +kernel
set_option maxRecDepth 20000 in
theorem lw_meetingTime_c_c {p : Program} {l : Launch} {e : Env} {s : State} {m : MethodId} {args : Array Value} {below : List Frame} {meth : Method} {c : Code} {E : zE} {Q : State → Prop} {b0 L i ce sl : Nat} {xs : Nat → Int32} {σ : zS} (ni : Nat) (tx : Nat → Int) (ec : Nat) (eo : Int) (U : zSU) (S : zST) (hh : List zST) (kp : Option zST) (ou : List Nat) (n1 : Nat) (n2 : Nat) (v3 : Int) (W : zLW p l s m args meth c E b0 L xs) (hi : i + 6 ≤ L) (hcs : ce + 1 ≤ room_1.cells ∧ sl + 6 ≤ room_1.slots) (hR : zRel σ (zDv.mk ni tx ec eo U S hh kp ou)) (hx1 : xs (i + 1) = (zI (n1 : Int))) (hx2 : xs (i + 2) = (zI (n2 : Int))) (hx3 : xs (i + 3) = (zI v3)) (hi0 : n1 < U.nb) (ho1 : n2 < U.nb) (hw2 : v3 = 0 ∨ v3 = 1)  (kk : zNx p l e s m args below meth c E Q b0 i ce sl) : zV p l e room_1 s m args below meth c 9 E Q ce sl σ 3051 (lwL b0 i E) [] := by
  refine (?_ : zV p l e room_1 s m args below meth c 9 E Q ce sl σ 3051 [(0, .ref b0), (1, .ref (ob E 0)), (2, .ref (ob E 327)), (3, .ref (ob E 339)), (4, .ref (ob E 340)), (5, .int (zI (i : Int)))] [])
  have C := W.2.1
  have hfl := W.1
  have hroom : room_1.cells = 601024 ∧ room_1.slots = 7293034 := ⟨rfl, rfl⟩
  refine zv_aload_n C 1 dL_law_3051 rfl rfl ?_
  refine zv_aload_n C 0 dL_law_3052 rfl rfl ?_
  refine zv_iload C 5 dL_law_3053 rfl ?_
  refine zv_iconst (v := zI 1) C dL_law_3055 rfl ?_
  refine zv_iaddZ C dL_law_3056 ?_
  refine zv_sld (j := i + 1) (v := (zI (n1 : Int))) C W.2.2.1 W.2.2.2.1 W.2.2.2.2.1 W.2.2.2.2.2 (zI_ix (by omega)) (by omega) hx1 dL_law_3057 ?_
  refine zv_aload_n C 0 dL_law_3058 rfl rfl ?_
  refine zv_iload C 5 dL_law_3059 rfl ?_
  refine zv_iconst (v := zI 2) C dL_law_3061 rfl ?_
  refine zv_iaddZ C dL_law_3062 ?_
  refine zv_sld (j := i + 2) (v := (zI (n2 : Int))) C W.2.2.1 W.2.2.2.1 W.2.2.2.2.1 W.2.2.2.2.2 (zI_ix (by omega)) (by omega) hx2 dL_law_3063 ?_
  refine zv_aload_n C 0 dL_law_3064 rfl rfl ?_
  refine zv_iload C 5 dL_law_3065 rfl ?_
  refine zv_iconst (v := zI 3) C dL_law_3067 rfl ?_
  refine zv_iaddZ C dL_law_3068 ?_
  refine zv_sld (j := i + 3) (v := (zI v3)) C W.2.2.1 W.2.2.2.1 W.2.2.2.2.1 W.2.2.2.2.2 (zI_ix (by omega)) (by omega) hx3 dL_law_3069 ?_
  refine zv_aload_n C 3 dL_law_3070 rfl rfl ?_
  refine zv_cH (st := []) C (w_c_X10_meetingTime hfl E σ U S n1 n2 v3 hR.1.2.2.1 hR.1.2.2.2.1.1 (by first | assumption | omega) (by first | assumption | omega) (by first | assumption | omega)) mL_meetingTime kL_328 rfl ⟨rfl, rfl⟩ (show zfit (zrm 5 130) 6 room_1 = true from rfl) (Nat.le_of_ble_eq_true rfl) dL_law_3071 ⟨by omega, by omega⟩ (fun r3071 τ3071 hp3071 => ?_)
  obtain ⟨hr0, v9, υ9, hP9, hτ9⟩ := hp3071
  refine zv_eqi (y := zI 0) hr0 ?_
  obtain ⟨hv9, hW9⟩ := hP9
  have hF9 : zFr 318 327 σ υ9 := by first | exact hW9 | (rw [hW9]; exact (by first | exact zFr_refl _ _ _ | exact zFr_rW (zFr_refl _ _ _) (by omega) | exact zFr_rW (zFr_rW (zFr_refl _ _ _) (by omega)) (by omega) | exact qW_f _ _ _ _ | exact qM_f _ _ _ _ _ | exact rW2_f _ _ _ _ _ | exact rW3_f _ _ _ _ _ | exact alW_f _ _ _ _ _ | (split <;> first | exact zFr_refl _ _ _ | exact bW_f _ _ _ _) | assumption))
  have hR1 : zRel τ3071 (zDv.mk ni tx ec eo U S hh kp ou) := by rw [hτ9]; exact zRel_J (zRel_c hR hF9) _
  have ho9 : gJ τ3071 339 0 = v9 := by rw [hτ9, gJ_sJ, if_pos ⟨rfl, rfl⟩]
  rw [hv9] at ho9
  refine zv_istore (lv' := [(6, .int (zI 0)), (0, .ref b0), (1, .ref (ob E 0)), (2, .ref (ob E 327)), (3, .ref (ob E 339)), (4, .ref (ob E 340)), (5, .int (zI (i : Int)))]) C dL_law_3074  (by decide) rfl ?_
  refine zv_aload_n C 3 dL_law_3076 rfl rfl ?_
  refine zv_aload_n C 1 dL_law_3077 rfl rfl ?_
  refine zv_iload C 6 dL_law_3078 rfl ?_
  refine zv_iconst (v := zI 1) C dL_law_3080 rfl ?_
  refine zv_iaddZ C dL_law_3081 ?_
  refine zv_sld (j := i + 1) (v := (zI (n1 : Int))) C W.2.2.1 W.2.2.2.1 W.2.2.2.2.1 W.2.2.2.2.2 (zI_ix (by omega)) (by omega) hx1 dL_law_3082 ?_
  refine zv_aload_n C 1 dL_law_3083 rfl rfl ?_
  refine zv_iload C 6 dL_law_3084 rfl ?_
  refine zv_iconst (v := zI 2) C dL_law_3086 rfl ?_
  refine zv_iaddZ C dL_law_3087 ?_
  refine zv_sld (j := i + 2) (v := (zI (n2 : Int))) C W.2.2.1 W.2.2.2.1 W.2.2.2.2.1 W.2.2.2.2.2 (zI_ix (by omega)) (by omega) hx2 dL_law_3088 ?_
  refine zv_aload_n C 1 dL_law_3089 rfl rfl ?_
  refine zv_iload C 6 dL_law_3090 rfl ?_
  refine zv_iconst (v := zI 3) C dL_law_3092 rfl ?_
  refine zv_iaddZ C dL_law_3093 ?_
  refine zv_sld (j := i + 3) (v := (zI v3)) C W.2.2.1 W.2.2.2.1 W.2.2.2.2.1 W.2.2.2.2.2 (zI_ix (by omega)) (by omega) hx3 dL_law_3094 ?_
  refine zv_cvl (st := []) C (c_X11_meetingTime hfl E τ3071 σ U S n1 n2 v3 hR1.2.2.2.1 hR.1.2.2.1 hR1.2.2.2.2.2.1.1 hR.1.2.2.2.1.1 (by first | assumption | omega) (by first | assumption | omega) (by first | assumption | omega)) mX11_meetingTime kL_330 (by decide : kd 327 = 10) rfl rfl rfl ⟨rfl, rfl⟩ (show zfit (zrm 5 127) 10 room_1 = true from rfl) (Nat.le_of_ble_eq_true rfl) dL_law_3095 ⟨by omega, by omega⟩ (fun r3095 τ3095 hp3095 => ?_)
  obtain ⟨hr2, hK2⟩ := hp3095
  refine zv_eql (y := zL (dMt U S n1 n2 v3)) hr2 ?_
  have hR2 : zRel τ3095 (zDv.mk ni tx ec eo U S hh kp ou) := zRel_m hR1 hK2
  have ht2 : gI τ3095 327 10 = zI 0 := hK2.2
  have hJ2 : gJ τ3095 339 0 = gJ τ3071 339 0 := hK2.1.2.1 339 0 (by decide)
  have hD2 : gD τ3095 340 0 = gD τ3071 340 0 := hK2.1.2.2 340 0
  refine zv_lstore (lv' := [(7, .long (zL (dMt U S n1 n2 v3))), (6, .int (zI 0)), (0, .ref b0), (1, .ref (ob E 0)), (2, .ref (ob E 327)), (3, .ref (ob E 339)), (4, .ref (ob E 340)), (5, .int (zI (i : Int)))]) C dL_law_3098  (by decide) rfl ?_
  refine zv_aload_n C 4 dL_law_3100 rfl rfl ?_
  refine zv_cviD (st := []) C (c_X11_thrown hfl E τ3095) mX11_thrown kL_200 (by decide : kd 327 = 10) rfl rfl rfl ⟨rfl, rfl⟩ (show zfit (zrm 0 0) 1 room_1 = true from rfl) (Nat.le_of_ble_eq_true rfl) dL_law_3101 ⟨by omega, by omega⟩ ?_
  refine zv_eqi (y := (zI 0)) (ht2) ?_
  refine zv_iload C 1 dL_law_3104 rfl ?_
  refine zv_icmp_eqZ (tgt := 3111) C (by omega) (by omega) dL_law_3106 (by decide) (fun h3106 => ?_) (fun h3106 => ?_)
  · skip
    refine zv_iload C 1 dL_law_3111 rfl ?_
    refine zv_if_neZ (tgt := 3127) C (by omega) dL_law_3113 (by decide) (fun h3113 => absurd h3113 (by decide)) (fun h3113 => ?_)
    refine zv_aload_n C 5 dL_law_3116 rfl rfl ?_
    refine zv_iconst (v := zI 0) C dL_law_3117 rfl ?_
    refine zv_lald (j := 0) C (by decide : kd 339 = _) (zI_ix (by omega)) (by decide) dL_law_3118 ?_
    refine zv_eql (y := (zL (dMt U S n1 n2 v3))) (hJ2.trans ho9) ?_
    refine zv_lload C 0 dL_law_3119 rfl ?_
    refine zv_lc_eq (tgt := 3127) C dL_law_3121 dL_law_3122 (by decide) (fun h3121 => ?_) (fun h3121 => ?_)
    · skip
      refine zv_goto (tgt := 3624) C dL_law_3127 (by decide) ?_
      refine zv_sub (lv' := [(0, .ref b0), (1, .ref (ob E 0)), (2, .ref (ob E 327)), (3, .ref (ob E 339)), (4, .ref (ob E 340)), (5, .int (zI (i : Int)))]) [2, 3, 4, 5, 6, 7] (zcons rfl (zcons rfl (zcons rfl (zcons rfl (zcons rfl (zcons rfl rfl)))))) ?_
      exact kk _ _ _ _ (by omega) (by omega) hR2
    · exfalso
      exact h3121 rfl
  · exfalso
    omega
set_option maxRecDepth 20000 in
theorem lw_meetingTime_x1_x1 {p : Program} {l : Launch} {e : Env} {s : State} {m : MethodId} {args : Array Value} {below : List Frame} {meth : Method} {c : Code} {E : zE} {Q : State → Prop} {b0 L i ce sl : Nat} {xs : Nat → Int32} {σ : zS} (ni : Nat) (tx : Nat → Int) (ec : Nat) (eo : Int) (U : zSU) (S : zST) (hh : List zST) (kp : Option zST) (ou : List Nat) (v1 : Int) (v2 : Int) (v3 : Int) (W : zLW p l s m args meth c E b0 L xs) (hi : i + 6 ≤ L) (hcs : ce + 1 ≤ room_1.cells ∧ sl + 6 ≤ room_1.slots) (hR : zRel σ (zDv.mk ni tx ec eo U S hh kp ou)) (hx1 : xs (i + 1) = (zI v1)) (hx2 : xs (i + 2) = (zI v2)) (hx3 : xs (i + 3) = (zI v3)) (hbi0 : -2147483648 ≤ v1 ∧ v1 < 2147483648) (hno1 : ¬ (0 ≤ v1 ∧ v1 < U.nb))  (kk : zNx p l e s m args below meth c E Q b0 i ce sl) : zV p l e room_1 s m args below meth c 9 E Q ce sl σ 3051 (lwL b0 i E) [] := by
  refine (?_ : zV p l e room_1 s m args below meth c 9 E Q ce sl σ 3051 [(0, .ref b0), (1, .ref (ob E 0)), (2, .ref (ob E 327)), (3, .ref (ob E 339)), (4, .ref (ob E 340)), (5, .int (zI (i : Int)))] [])
  have C := W.2.1
  have hfl := W.1
  have hroom : room_1.cells = 601024 ∧ room_1.slots = 7293034 := ⟨rfl, rfl⟩
  refine zv_aload_n C 1 dL_law_3051 rfl rfl ?_
  refine zv_aload_n C 0 dL_law_3052 rfl rfl ?_
  refine zv_iload C 5 dL_law_3053 rfl ?_
  refine zv_iconst (v := zI 1) C dL_law_3055 rfl ?_
  refine zv_iaddZ C dL_law_3056 ?_
  refine zv_sld (j := i + 1) (v := (zI v1)) C W.2.2.1 W.2.2.2.1 W.2.2.2.2.1 W.2.2.2.2.2 (zI_ix (by omega)) (by omega) hx1 dL_law_3057 ?_
  refine zv_aload_n C 0 dL_law_3058 rfl rfl ?_
  refine zv_iload C 5 dL_law_3059 rfl ?_
  refine zv_iconst (v := zI 2) C dL_law_3061 rfl ?_
  refine zv_iaddZ C dL_law_3062 ?_
  refine zv_sld (j := i + 2) (v := (zI v2)) C W.2.2.1 W.2.2.2.1 W.2.2.2.2.1 W.2.2.2.2.2 (zI_ix (by omega)) (by omega) hx2 dL_law_3063 ?_
  refine zv_aload_n C 0 dL_law_3064 rfl rfl ?_
  refine zv_iload C 5 dL_law_3065 rfl ?_
  refine zv_iconst (v := zI 3) C dL_law_3067 rfl ?_
  refine zv_iaddZ C dL_law_3068 ?_
  refine zv_sld (j := i + 3) (v := (zI v3)) C W.2.2.1 W.2.2.2.1 W.2.2.2.2.1 W.2.2.2.2.2 (zI_ix (by omega)) (by omega) hx3 dL_law_3069 ?_
  refine zv_aload_n C 3 dL_law_3070 rfl rfl ?_
  refine zv_cH (st := []) C (w_x1_X10_meetingTime hfl E σ U v1 v2 v3 hR.1.2.2.1 (by first | assumption | omega) (by first | assumption | omega)) mL_meetingTime kL_328 rfl ⟨rfl, rfl⟩ (show zfit (zrx 10 225) 6 room_1 = true from rfl) (Nat.le_of_ble_eq_true rfl) dL_law_3071 ⟨by exact hcs.1, by exact hcs.2⟩ (fun r3071 τ3071 hp3071 => ?_)
  obtain ⟨hr0, hP9⟩ := hp3071
  refine zv_eqi (y := zI 1) hr0 ?_
  have hF9 : zFr 318 327 σ τ3071 := by rw [hP9]; exact (by first | exact zFr_refl _ _ _ | exact zFr_rW (zFr_refl _ _ _) (by omega) | exact zFr_rW (zFr_rW (zFr_refl _ _ _) (by omega)) (by omega) | exact qW_f _ _ _ _ | exact qM_f _ _ _ _ _ | exact rW2_f _ _ _ _ _ | exact rW3_f _ _ _ _ _ | exact alW_f _ _ _ _ _ | (split <;> first | exact zFr_refl _ _ _ | exact bW_f _ _ _ _) | assumption)
  have hR1 : zRel τ3071 (zDv.mk ni tx ec eo U S hh kp ou) := zRel_c hR hF9
  refine zv_istore (lv' := [(6, .int (zI 1)), (0, .ref b0), (1, .ref (ob E 0)), (2, .ref (ob E 327)), (3, .ref (ob E 339)), (4, .ref (ob E 340)), (5, .int (zI (i : Int)))]) C dL_law_3074  (by decide) rfl ?_
  refine zv_aload_n C 3 dL_law_3076 rfl rfl ?_
  refine zv_aload_n C 1 dL_law_3077 rfl rfl ?_
  refine zv_iload C 6 dL_law_3078 rfl ?_
  refine zv_iconst (v := zI 1) C dL_law_3080 rfl ?_
  refine zv_iaddZ C dL_law_3081 ?_
  refine zv_sld (j := i + 1) (v := (zI v1)) C W.2.2.1 W.2.2.2.1 W.2.2.2.2.1 W.2.2.2.2.2 (zI_ix (by omega)) (by omega) hx1 dL_law_3082 ?_
  refine zv_aload_n C 1 dL_law_3083 rfl rfl ?_
  refine zv_iload C 6 dL_law_3084 rfl ?_
  refine zv_iconst (v := zI 2) C dL_law_3086 rfl ?_
  refine zv_iaddZ C dL_law_3087 ?_
  refine zv_sld (j := i + 2) (v := (zI v2)) C W.2.2.1 W.2.2.2.1 W.2.2.2.2.1 W.2.2.2.2.2 (zI_ix (by omega)) (by omega) hx2 dL_law_3088 ?_
  refine zv_aload_n C 1 dL_law_3089 rfl rfl ?_
  refine zv_iload C 6 dL_law_3090 rfl ?_
  refine zv_iconst (v := zI 3) C dL_law_3092 rfl ?_
  refine zv_iaddZ C dL_law_3093 ?_
  refine zv_sld (j := i + 3) (v := (zI v3)) C W.2.2.1 W.2.2.2.1 W.2.2.2.2.1 W.2.2.2.2.2 (zI_ix (by omega)) (by omega) hx3 dL_law_3094 ?_
  refine zv_cvl (st := []) C (x1_X11_meetingTime hfl E τ3071 σ U v1 v2 v3 hR1.2.2.2.1 hR.1.2.2.1 (by first | assumption | omega) (by first | assumption | omega)) mX11_meetingTime kL_330 (by decide : kd 327 = 10) rfl rfl rfl ⟨rfl, rfl⟩ (show zfit (zrm 5 127) 10 room_1 = true from rfl) (Nat.le_of_ble_eq_true rfl) dL_law_3095 ⟨by omega, by omega⟩ (fun r3095 τ3095 hp3095 => ?_)
  obtain ⟨hr2, hK2⟩ := hp3095
  refine zv_eql (y := zL 0) hr2 ?_
  have hR2 : zRel τ3095 (zDv.mk ni tx ec eo U S hh kp ou) := zRel_m hR1 hK2
  have ht2 : gI τ3095 327 10 = zI 1 := hK2.2
  have hJ2 : gJ τ3095 339 0 = gJ τ3071 339 0 := hK2.1.2.1 339 0 (by decide)
  have hD2 : gD τ3095 340 0 = gD τ3071 340 0 := hK2.1.2.2 340 0
  refine zv_lstore (lv' := [(7, .long (zL 0)), (6, .int (zI 1)), (0, .ref b0), (1, .ref (ob E 0)), (2, .ref (ob E 327)), (3, .ref (ob E 339)), (4, .ref (ob E 340)), (5, .int (zI (i : Int)))]) C dL_law_3098  (by decide) rfl ?_
  refine zv_aload_n C 4 dL_law_3100 rfl rfl ?_
  refine zv_cviD (st := []) C (c_X11_thrown hfl E τ3095) mX11_thrown kL_200 (by decide : kd 327 = 10) rfl rfl rfl ⟨rfl, rfl⟩ (show zfit (zrm 0 0) 1 room_1 = true from rfl) (Nat.le_of_ble_eq_true rfl) dL_law_3101 ⟨by omega, by omega⟩ ?_
  refine zv_eqi (y := (zI 1)) (ht2) ?_
  refine zv_iload C 1 dL_law_3104 rfl ?_
  refine zv_icmp_eqZ (tgt := 3111) C (by omega) (by omega) dL_law_3106 (by decide) (fun h3106 => ?_) (fun h3106 => ?_)
  · skip
    refine zv_iload C 1 dL_law_3111 rfl ?_
    refine zv_if_neZ (tgt := 3127) C (by omega) dL_law_3113 (by decide) (fun h3113 => ?_) (fun h3113 => absurd h3113 (by decide))
    refine zv_goto (tgt := 3624) C dL_law_3127 (by decide) ?_
    refine zv_sub (lv' := [(0, .ref b0), (1, .ref (ob E 0)), (2, .ref (ob E 327)), (3, .ref (ob E 339)), (4, .ref (ob E 340)), (5, .int (zI (i : Int)))]) [2, 3, 4, 5, 6, 7] (zcons rfl (zcons rfl (zcons rfl (zcons rfl (zcons rfl (zcons rfl rfl)))))) ?_
    exact kk _ _ _ _ (by omega) (by omega) hR2
  · exfalso
    omega
set_option maxRecDepth 20000 in
theorem lw_meetingTime_x2_x2 {p : Program} {l : Launch} {e : Env} {s : State} {m : MethodId} {args : Array Value} {below : List Frame} {meth : Method} {c : Code} {E : zE} {Q : State → Prop} {b0 L i ce sl : Nat} {xs : Nat → Int32} {σ : zS} (ni : Nat) (tx : Nat → Int) (ec : Nat) (eo : Int) (U : zSU) (S : zST) (hh : List zST) (kp : Option zST) (ou : List Nat) (n1 : Nat) (v2 : Int) (v3 : Int) (W : zLW p l s m args meth c E b0 L xs) (hi : i + 6 ≤ L) (hcs : ce + 1 ≤ room_1.cells ∧ sl + 6 ≤ room_1.slots) (hR : zRel σ (zDv.mk ni tx ec eo U S hh kp ou)) (hx1 : xs (i + 1) = (zI (n1 : Int))) (hx2 : xs (i + 2) = (zI v2)) (hx3 : xs (i + 3) = (zI v3)) (hi0 : n1 < U.nb) (hyi1 : -2147483648 ≤ v2 ∧ v2 < 2147483648) (hno2 : ¬ (0 ≤ v2 ∧ v2 < U.nb))  (kk : zNx p l e s m args below meth c E Q b0 i ce sl) : zV p l e room_1 s m args below meth c 9 E Q ce sl σ 3051 (lwL b0 i E) [] := by
  refine (?_ : zV p l e room_1 s m args below meth c 9 E Q ce sl σ 3051 [(0, .ref b0), (1, .ref (ob E 0)), (2, .ref (ob E 327)), (3, .ref (ob E 339)), (4, .ref (ob E 340)), (5, .int (zI (i : Int)))] [])
  have C := W.2.1
  have hfl := W.1
  have hroom : room_1.cells = 601024 ∧ room_1.slots = 7293034 := ⟨rfl, rfl⟩
  refine zv_aload_n C 1 dL_law_3051 rfl rfl ?_
  refine zv_aload_n C 0 dL_law_3052 rfl rfl ?_
  refine zv_iload C 5 dL_law_3053 rfl ?_
  refine zv_iconst (v := zI 1) C dL_law_3055 rfl ?_
  refine zv_iaddZ C dL_law_3056 ?_
  refine zv_sld (j := i + 1) (v := (zI (n1 : Int))) C W.2.2.1 W.2.2.2.1 W.2.2.2.2.1 W.2.2.2.2.2 (zI_ix (by omega)) (by omega) hx1 dL_law_3057 ?_
  refine zv_aload_n C 0 dL_law_3058 rfl rfl ?_
  refine zv_iload C 5 dL_law_3059 rfl ?_
  refine zv_iconst (v := zI 2) C dL_law_3061 rfl ?_
  refine zv_iaddZ C dL_law_3062 ?_
  refine zv_sld (j := i + 2) (v := (zI v2)) C W.2.2.1 W.2.2.2.1 W.2.2.2.2.1 W.2.2.2.2.2 (zI_ix (by omega)) (by omega) hx2 dL_law_3063 ?_
  refine zv_aload_n C 0 dL_law_3064 rfl rfl ?_
  refine zv_iload C 5 dL_law_3065 rfl ?_
  refine zv_iconst (v := zI 3) C dL_law_3067 rfl ?_
  refine zv_iaddZ C dL_law_3068 ?_
  refine zv_sld (j := i + 3) (v := (zI v3)) C W.2.2.1 W.2.2.2.1 W.2.2.2.2.1 W.2.2.2.2.2 (zI_ix (by omega)) (by omega) hx3 dL_law_3069 ?_
  refine zv_aload_n C 3 dL_law_3070 rfl rfl ?_
  refine zv_cH (st := []) C (w_x2_X10_meetingTime hfl E σ U n1 v2 v3 hR.1.2.2.1 (by first | assumption | omega) (by first | assumption | omega) (by first | assumption | omega)) mL_meetingTime kL_328 rfl ⟨rfl, rfl⟩ (show zfit (zrx 10 225) 6 room_1 = true from rfl) (Nat.le_of_ble_eq_true rfl) dL_law_3071 ⟨by exact hcs.1, by exact hcs.2⟩ (fun r3071 τ3071 hp3071 => ?_)
  obtain ⟨hr0, hP9⟩ := hp3071
  refine zv_eqi (y := zI 1) hr0 ?_
  have hF9 : zFr 318 327 σ τ3071 := by rw [hP9]; exact (by first | exact zFr_refl _ _ _ | exact zFr_rW (zFr_refl _ _ _) (by omega) | exact zFr_rW (zFr_rW (zFr_refl _ _ _) (by omega)) (by omega) | exact qW_f _ _ _ _ | exact qM_f _ _ _ _ _ | exact rW2_f _ _ _ _ _ | exact rW3_f _ _ _ _ _ | exact alW_f _ _ _ _ _ | (split <;> first | exact zFr_refl _ _ _ | exact bW_f _ _ _ _) | assumption)
  have hR1 : zRel τ3071 (zDv.mk ni tx ec eo U S hh kp ou) := zRel_c hR hF9
  refine zv_istore (lv' := [(6, .int (zI 1)), (0, .ref b0), (1, .ref (ob E 0)), (2, .ref (ob E 327)), (3, .ref (ob E 339)), (4, .ref (ob E 340)), (5, .int (zI (i : Int)))]) C dL_law_3074  (by decide) rfl ?_
  refine zv_aload_n C 3 dL_law_3076 rfl rfl ?_
  refine zv_aload_n C 1 dL_law_3077 rfl rfl ?_
  refine zv_iload C 6 dL_law_3078 rfl ?_
  refine zv_iconst (v := zI 1) C dL_law_3080 rfl ?_
  refine zv_iaddZ C dL_law_3081 ?_
  refine zv_sld (j := i + 1) (v := (zI (n1 : Int))) C W.2.2.1 W.2.2.2.1 W.2.2.2.2.1 W.2.2.2.2.2 (zI_ix (by omega)) (by omega) hx1 dL_law_3082 ?_
  refine zv_aload_n C 1 dL_law_3083 rfl rfl ?_
  refine zv_iload C 6 dL_law_3084 rfl ?_
  refine zv_iconst (v := zI 2) C dL_law_3086 rfl ?_
  refine zv_iaddZ C dL_law_3087 ?_
  refine zv_sld (j := i + 2) (v := (zI v2)) C W.2.2.1 W.2.2.2.1 W.2.2.2.2.1 W.2.2.2.2.2 (zI_ix (by omega)) (by omega) hx2 dL_law_3088 ?_
  refine zv_aload_n C 1 dL_law_3089 rfl rfl ?_
  refine zv_iload C 6 dL_law_3090 rfl ?_
  refine zv_iconst (v := zI 3) C dL_law_3092 rfl ?_
  refine zv_iaddZ C dL_law_3093 ?_
  refine zv_sld (j := i + 3) (v := (zI v3)) C W.2.2.1 W.2.2.2.1 W.2.2.2.2.1 W.2.2.2.2.2 (zI_ix (by omega)) (by omega) hx3 dL_law_3094 ?_
  refine zv_cvl (st := []) C (x2_X11_meetingTime hfl E τ3071 σ U (n1 : Int) v2 v3 hR1.2.2.2.1 hR.1.2.2.1 (by first | assumption | omega) (by first | assumption | omega) (by first | assumption | omega)) mX11_meetingTime kL_330 (by decide : kd 327 = 10) rfl rfl rfl ⟨rfl, rfl⟩ (show zfit (zrm 5 127) 10 room_1 = true from rfl) (Nat.le_of_ble_eq_true rfl) dL_law_3095 ⟨by omega, by omega⟩ (fun r3095 τ3095 hp3095 => ?_)
  obtain ⟨hr2, hK2⟩ := hp3095
  refine zv_eql (y := zL 0) hr2 ?_
  have hR2 : zRel τ3095 (zDv.mk ni tx ec eo U S hh kp ou) := zRel_m hR1 hK2
  have ht2 : gI τ3095 327 10 = zI 1 := hK2.2
  have hJ2 : gJ τ3095 339 0 = gJ τ3071 339 0 := hK2.1.2.1 339 0 (by decide)
  have hD2 : gD τ3095 340 0 = gD τ3071 340 0 := hK2.1.2.2 340 0
  refine zv_lstore (lv' := [(7, .long (zL 0)), (6, .int (zI 1)), (0, .ref b0), (1, .ref (ob E 0)), (2, .ref (ob E 327)), (3, .ref (ob E 339)), (4, .ref (ob E 340)), (5, .int (zI (i : Int)))]) C dL_law_3098  (by decide) rfl ?_
  refine zv_aload_n C 4 dL_law_3100 rfl rfl ?_
  refine zv_cviD (st := []) C (c_X11_thrown hfl E τ3095) mX11_thrown kL_200 (by decide : kd 327 = 10) rfl rfl rfl ⟨rfl, rfl⟩ (show zfit (zrm 0 0) 1 room_1 = true from rfl) (Nat.le_of_ble_eq_true rfl) dL_law_3101 ⟨by omega, by omega⟩ ?_
  refine zv_eqi (y := (zI 1)) (ht2) ?_
  refine zv_iload C 1 dL_law_3104 rfl ?_
  refine zv_icmp_eqZ (tgt := 3111) C (by omega) (by omega) dL_law_3106 (by decide) (fun h3106 => ?_) (fun h3106 => ?_)
  · skip
    refine zv_iload C 1 dL_law_3111 rfl ?_
    refine zv_if_neZ (tgt := 3127) C (by omega) dL_law_3113 (by decide) (fun h3113 => ?_) (fun h3113 => absurd h3113 (by decide))
    refine zv_goto (tgt := 3624) C dL_law_3127 (by decide) ?_
    refine zv_sub (lv' := [(0, .ref b0), (1, .ref (ob E 0)), (2, .ref (ob E 327)), (3, .ref (ob E 339)), (4, .ref (ob E 340)), (5, .int (zI (i : Int)))]) [2, 3, 4, 5, 6, 7] (zcons rfl (zcons rfl (zcons rfl (zcons rfl (zcons rfl (zcons rfl rfl)))))) ?_
    exact kk _ _ _ _ (by omega) (by omega) hR2
  · exfalso
    omega
set_option maxRecDepth 20000 in
theorem lw_meetingTime_x3_x3 {p : Program} {l : Launch} {e : Env} {s : State} {m : MethodId} {args : Array Value} {below : List Frame} {meth : Method} {c : Code} {E : zE} {Q : State → Prop} {b0 L i ce sl : Nat} {xs : Nat → Int32} {σ : zS} (ni : Nat) (tx : Nat → Int) (ec : Nat) (eo : Int) (U : zSU) (S : zST) (hh : List zST) (kp : Option zST) (ou : List Nat) (n1 : Nat) (n2 : Nat) (v3 : Int) (W : zLW p l s m args meth c E b0 L xs) (hi : i + 6 ≤ L) (hcs : ce + 1 ≤ room_1.cells ∧ sl + 6 ≤ room_1.slots) (hR : zRel σ (zDv.mk ni tx ec eo U S hh kp ou)) (hx1 : xs (i + 1) = (zI (n1 : Int))) (hx2 : xs (i + 2) = (zI (n2 : Int))) (hx3 : xs (i + 3) = (zI v3)) (hi0 : n1 < U.nb) (ho1 : n2 < U.nb) (hzi2 : -2147483648 ≤ v3 ∧ v3 < 2147483648) (hno3 : ¬ (0 ≤ v3 ∧ v3 ≤ 1))  (kk : zNx p l e s m args below meth c E Q b0 i ce sl) : zV p l e room_1 s m args below meth c 9 E Q ce sl σ 3051 (lwL b0 i E) [] := by
  refine (?_ : zV p l e room_1 s m args below meth c 9 E Q ce sl σ 3051 [(0, .ref b0), (1, .ref (ob E 0)), (2, .ref (ob E 327)), (3, .ref (ob E 339)), (4, .ref (ob E 340)), (5, .int (zI (i : Int)))] [])
  have C := W.2.1
  have hfl := W.1
  have hroom : room_1.cells = 601024 ∧ room_1.slots = 7293034 := ⟨rfl, rfl⟩
  refine zv_aload_n C 1 dL_law_3051 rfl rfl ?_
  refine zv_aload_n C 0 dL_law_3052 rfl rfl ?_
  refine zv_iload C 5 dL_law_3053 rfl ?_
  refine zv_iconst (v := zI 1) C dL_law_3055 rfl ?_
  refine zv_iaddZ C dL_law_3056 ?_
  refine zv_sld (j := i + 1) (v := (zI (n1 : Int))) C W.2.2.1 W.2.2.2.1 W.2.2.2.2.1 W.2.2.2.2.2 (zI_ix (by omega)) (by omega) hx1 dL_law_3057 ?_
  refine zv_aload_n C 0 dL_law_3058 rfl rfl ?_
  refine zv_iload C 5 dL_law_3059 rfl ?_
  refine zv_iconst (v := zI 2) C dL_law_3061 rfl ?_
  refine zv_iaddZ C dL_law_3062 ?_
  refine zv_sld (j := i + 2) (v := (zI (n2 : Int))) C W.2.2.1 W.2.2.2.1 W.2.2.2.2.1 W.2.2.2.2.2 (zI_ix (by omega)) (by omega) hx2 dL_law_3063 ?_
  refine zv_aload_n C 0 dL_law_3064 rfl rfl ?_
  refine zv_iload C 5 dL_law_3065 rfl ?_
  refine zv_iconst (v := zI 3) C dL_law_3067 rfl ?_
  refine zv_iaddZ C dL_law_3068 ?_
  refine zv_sld (j := i + 3) (v := (zI v3)) C W.2.2.1 W.2.2.2.1 W.2.2.2.2.1 W.2.2.2.2.2 (zI_ix (by omega)) (by omega) hx3 dL_law_3069 ?_
  refine zv_aload_n C 3 dL_law_3070 rfl rfl ?_
  refine zv_cH (st := []) C (w_x3_X10_meetingTime hfl E σ U n1 n2 v3 hR.1.2.2.1 (by first | assumption | omega) (by first | assumption | omega) (by first | assumption | omega) (by first | assumption | omega)) mL_meetingTime kL_328 rfl ⟨rfl, rfl⟩ (show zfit (zrx 10 225) 6 room_1 = true from rfl) (Nat.le_of_ble_eq_true rfl) dL_law_3071 ⟨by exact hcs.1, by exact hcs.2⟩ (fun r3071 τ3071 hp3071 => ?_)
  obtain ⟨hr0, hP9⟩ := hp3071
  refine zv_eqi (y := zI 2) hr0 ?_
  have hF9 : zFr 318 327 σ τ3071 := by rw [hP9]; exact (by first | exact zFr_refl _ _ _ | exact zFr_rW (zFr_refl _ _ _) (by omega) | exact zFr_rW (zFr_rW (zFr_refl _ _ _) (by omega)) (by omega) | exact qW_f _ _ _ _ | exact qM_f _ _ _ _ _ | exact rW2_f _ _ _ _ _ | exact rW3_f _ _ _ _ _ | exact alW_f _ _ _ _ _ | (split <;> first | exact zFr_refl _ _ _ | exact bW_f _ _ _ _) | assumption)
  have hR1 : zRel τ3071 (zDv.mk ni tx ec eo U S hh kp ou) := zRel_c hR hF9
  refine zv_istore (lv' := [(6, .int (zI 2)), (0, .ref b0), (1, .ref (ob E 0)), (2, .ref (ob E 327)), (3, .ref (ob E 339)), (4, .ref (ob E 340)), (5, .int (zI (i : Int)))]) C dL_law_3074  (by decide) rfl ?_
  refine zv_aload_n C 3 dL_law_3076 rfl rfl ?_
  refine zv_aload_n C 1 dL_law_3077 rfl rfl ?_
  refine zv_iload C 6 dL_law_3078 rfl ?_
  refine zv_iconst (v := zI 1) C dL_law_3080 rfl ?_
  refine zv_iaddZ C dL_law_3081 ?_
  refine zv_sld (j := i + 1) (v := (zI (n1 : Int))) C W.2.2.1 W.2.2.2.1 W.2.2.2.2.1 W.2.2.2.2.2 (zI_ix (by omega)) (by omega) hx1 dL_law_3082 ?_
  refine zv_aload_n C 1 dL_law_3083 rfl rfl ?_
  refine zv_iload C 6 dL_law_3084 rfl ?_
  refine zv_iconst (v := zI 2) C dL_law_3086 rfl ?_
  refine zv_iaddZ C dL_law_3087 ?_
  refine zv_sld (j := i + 2) (v := (zI (n2 : Int))) C W.2.2.1 W.2.2.2.1 W.2.2.2.2.1 W.2.2.2.2.2 (zI_ix (by omega)) (by omega) hx2 dL_law_3088 ?_
  refine zv_aload_n C 1 dL_law_3089 rfl rfl ?_
  refine zv_iload C 6 dL_law_3090 rfl ?_
  refine zv_iconst (v := zI 3) C dL_law_3092 rfl ?_
  refine zv_iaddZ C dL_law_3093 ?_
  refine zv_sld (j := i + 3) (v := (zI v3)) C W.2.2.1 W.2.2.2.1 W.2.2.2.2.1 W.2.2.2.2.2 (zI_ix (by omega)) (by omega) hx3 dL_law_3094 ?_
  refine zv_cvl (st := []) C (x3_X11_meetingTime hfl E τ3071 σ U n1 n2 v3 hR1.2.2.2.1 hR.1.2.2.1 (by first | assumption | omega) (by first | assumption | omega) (by first | assumption | omega) (by first | assumption | omega)) mX11_meetingTime kL_330 (by decide : kd 327 = 10) rfl rfl rfl ⟨rfl, rfl⟩ (show zfit (zrm 5 127) 10 room_1 = true from rfl) (Nat.le_of_ble_eq_true rfl) dL_law_3095 ⟨by omega, by omega⟩ (fun r3095 τ3095 hp3095 => ?_)
  obtain ⟨hr2, hK2⟩ := hp3095
  refine zv_eql (y := zL 0) hr2 ?_
  have hR2 : zRel τ3095 (zDv.mk ni tx ec eo U S hh kp ou) := zRel_m hR1 hK2
  have ht2 : gI τ3095 327 10 = zI 2 := hK2.2
  have hJ2 : gJ τ3095 339 0 = gJ τ3071 339 0 := hK2.1.2.1 339 0 (by decide)
  have hD2 : gD τ3095 340 0 = gD τ3071 340 0 := hK2.1.2.2 340 0
  refine zv_lstore (lv' := [(7, .long (zL 0)), (6, .int (zI 2)), (0, .ref b0), (1, .ref (ob E 0)), (2, .ref (ob E 327)), (3, .ref (ob E 339)), (4, .ref (ob E 340)), (5, .int (zI (i : Int)))]) C dL_law_3098  (by decide) rfl ?_
  refine zv_aload_n C 4 dL_law_3100 rfl rfl ?_
  refine zv_cviD (st := []) C (c_X11_thrown hfl E τ3095) mX11_thrown kL_200 (by decide : kd 327 = 10) rfl rfl rfl ⟨rfl, rfl⟩ (show zfit (zrm 0 0) 1 room_1 = true from rfl) (Nat.le_of_ble_eq_true rfl) dL_law_3101 ⟨by omega, by omega⟩ ?_
  refine zv_eqi (y := (zI 2)) (ht2) ?_
  refine zv_iload C 1 dL_law_3104 rfl ?_
  refine zv_icmp_eqZ (tgt := 3111) C (by omega) (by omega) dL_law_3106 (by decide) (fun h3106 => ?_) (fun h3106 => ?_)
  · skip
    refine zv_iload C 1 dL_law_3111 rfl ?_
    refine zv_if_neZ (tgt := 3127) C (by omega) dL_law_3113 (by decide) (fun h3113 => ?_) (fun h3113 => absurd h3113 (by decide))
    refine zv_goto (tgt := 3624) C dL_law_3127 (by decide) ?_
    refine zv_sub (lv' := [(0, .ref b0), (1, .ref (ob E 0)), (2, .ref (ob E 327)), (3, .ref (ob E 339)), (4, .ref (ob E 340)), (5, .int (zI (i : Int)))]) [2, 3, 4, 5, 6, 7] (zcons rfl (zcons rfl (zcons rfl (zcons rfl (zcons rfl (zcons rfl rfl)))))) ?_
    exact kk _ _ _ _ (by omega) (by omega) hR2
  · exfalso
    omega
theorem LK_46 {p : Program} {l : Launch} {e : Env} {s : State} {m : MethodId} {args : Array Value} {below : List Frame} {meth : Method} {c : Code} {E : zE} {Q : State → Prop} {b0 L i ce sl : Nat} {xs : Nat → Int32} {σ : zS} (ni : Nat) (tx : Nat → Int) (ec : Nat) (eo : Int) (U : zSU) (S : zST) (hh : List zST) (kp : Option zST) (ou : List Nat) (hFN : zFN) (W : zLW p l s m args meth c E b0 L xs) (hi : i + 6 ≤ L) (hcs : ce + 1 ≤ room_1.cells ∧ sl + 6 ≤ room_1.slots) (hR : zRel σ (zDv.mk ni tx ec eo U S hh kp ou)) (kk : zNx p l e s m args below meth c E Q b0 i ce sl) : zV p l e room_1 s m args below meth c 9 E Q ce sl σ 3051 (lwL b0 i E) [] := by
  obtain ⟨v1, hx1, hv1⟩ := zI_cov (xs (i + 1))
  obtain ⟨v2, hx2, hv2⟩ := zI_cov (xs (i + 2))
  obtain ⟨v3, hx3, hv3⟩ := zI_cov (xs (i + 3))
  by_cases g1 : 0 ≤ v1 ∧ v1 < U.nb
  case neg =>
    exact lw_meetingTime_x1_x1 _ _ _ _ _ _ _ _ _ _ _ _ W hi hcs hR hx1 hx2 hx3 (by first | assumption | omega) (by first | assumption | omega) kk
  obtain ⟨n1, rfl⟩ := Int.eq_ofNat_of_zero_le (show 0 ≤ v1 by omega)
  by_cases g2 : 0 ≤ v2 ∧ v2 < U.nb
  case neg =>
    exact lw_meetingTime_x2_x2 _ _ _ _ _ _ _ _ _ _ _ _ W hi hcs hR hx1 hx2 hx3 (by first | assumption | omega) (by first | assumption | omega) (by first | assumption | omega) kk
  obtain ⟨n2, rfl⟩ := Int.eq_ofNat_of_zero_le (show 0 ≤ v2 by omega)
  by_cases g3 : 0 ≤ v3 ∧ v3 ≤ 1
  case neg =>
    exact lw_meetingTime_x3_x3 _ _ _ _ _ _ _ _ _ _ _ _ W hi hcs hR hx1 hx2 hx3 (by first | assumption | omega) (by first | assumption | omega) (by first | assumption | omega) (by first | assumption | omega) kk
  exact lw_meetingTime_c_c _ _ _ _ _ _ _ _ _ _ _ _ W hi hcs hR hx1 hx2 hx3 (by first | assumption | omega) (by first | assumption | omega) (by first | assumption | omega) kk
theorem dL_law_3130 : decode cL_law 3130 = .ok (.aload_n 1, 1) := by decide +kernel
theorem dL_law_3131 : decode cL_law 3131 = .ok (.aload_n 0, 1) := by decide +kernel
theorem dL_law_3132 : decode cL_law 3132 = .ok (.iload 5, 2) := by decide +kernel
theorem dL_law_3134 : decode cL_law 3134 = .ok (.iconst 1, 1) := by decide +kernel
theorem dL_law_3135 : decode cL_law 3135 = .ok (.iadd, 1) := by decide +kernel
theorem dL_law_3136 : decode cL_law 3136 = .ok (.iaload, 1) := by decide +kernel
theorem dL_law_3137 : decode cL_law 3137 = .ok (.aload_n 0, 1) := by decide +kernel
theorem dL_law_3138 : decode cL_law 3138 = .ok (.iload 5, 2) := by decide +kernel
theorem dL_law_3140 : decode cL_law 3140 = .ok (.iconst 2, 1) := by decide +kernel
theorem dL_law_3141 : decode cL_law 3141 = .ok (.iadd, 1) := by decide +kernel
theorem dL_law_3142 : decode cL_law 3142 = .ok (.iaload, 1) := by decide +kernel
theorem dL_law_3143 : decode cL_law 3143 = .ok (.aload_n 0, 1) := by decide +kernel
theorem dL_law_3144 : decode cL_law 3144 = .ok (.iload 5, 2) := by decide +kernel
theorem dL_law_3146 : decode cL_law 3146 = .ok (.iconst 3, 1) := by decide +kernel
theorem dL_law_3147 : decode cL_law 3147 = .ok (.iadd, 1) := by decide +kernel
theorem dL_law_3148 : decode cL_law 3148 = .ok (.iaload, 1) := by decide +kernel
theorem dL_law_3149 : decode cL_law 3149 = .ok (.aload_n 3, 1) := by decide +kernel
theorem dL_law_3150 : decode cL_law 3150 = .ok (.invokestatic 331, 3) := by decide +kernel
theorem dL_law_3153 : decode cL_law 3153 = .ok (.istore 6, 2) := by decide +kernel
theorem dL_law_3155 : decode cL_law 3155 = .ok (.aload_n 2, 1) := by decide +kernel
theorem dL_law_3156 : decode cL_law 3156 = .ok (.aload_n 0, 1) := by decide +kernel
theorem dL_law_3157 : decode cL_law 3157 = .ok (.iload 5, 2) := by decide +kernel
theorem dL_law_3159 : decode cL_law 3159 = .ok (.iconst 1, 1) := by decide +kernel
theorem dL_law_3160 : decode cL_law 3160 = .ok (.iadd, 1) := by decide +kernel
theorem dL_law_3161 : decode cL_law 3161 = .ok (.iaload, 1) := by decide +kernel
theorem dL_law_3162 : decode cL_law 3162 = .ok (.aload_n 0, 1) := by decide +kernel
theorem dL_law_3163 : decode cL_law 3163 = .ok (.iload 5, 2) := by decide +kernel
theorem dL_law_3165 : decode cL_law 3165 = .ok (.iconst 2, 1) := by decide +kernel
theorem dL_law_3166 : decode cL_law 3166 = .ok (.iadd, 1) := by decide +kernel
theorem dL_law_3167 : decode cL_law 3167 = .ok (.iaload, 1) := by decide +kernel
theorem dL_law_3168 : decode cL_law 3168 = .ok (.aload_n 0, 1) := by decide +kernel
theorem dL_law_3169 : decode cL_law 3169 = .ok (.iload 5, 2) := by decide +kernel
theorem dL_law_3171 : decode cL_law 3171 = .ok (.iconst 3, 1) := by decide +kernel
theorem dL_law_3172 : decode cL_law 3172 = .ok (.iadd, 1) := by decide +kernel
theorem dL_law_3173 : decode cL_law 3173 = .ok (.iaload, 1) := by decide +kernel
theorem dL_law_3174 : decode cL_law 3174 = .ok (.invokevirtual 333, 3) := by decide +kernel
theorem dL_law_3177 : decode cL_law 3177 = .ok (.istore 7, 2) := by decide +kernel
theorem dL_law_3179 : decode cL_law 3179 = .ok (.aload_n 2, 1) := by decide +kernel
theorem dL_law_3180 : decode cL_law 3180 = .ok (.invokevirtual 200, 3) := by decide +kernel
theorem dL_law_3183 : decode cL_law 3183 = .ok (.iload 6, 2) := by decide +kernel
theorem dL_law_3185 : decode cL_law 3185 = .ok (.if_icmp .eq 5, 3) := by decide +kernel
theorem dL_law_3188 : decode cL_law 3188 = .ok (.iconst 0, 1) := by decide +kernel
theorem dL_law_3189 : decode cL_law 3189 = .ok (.ireturn, 1) := by decide +kernel
theorem dL_law_3190 : decode cL_law 3190 = .ok (.iload 6, 2) := by decide +kernel
theorem dL_law_3192 : decode cL_law 3192 = .ok (.ifCond .ne 15, 3) := by decide +kernel
theorem dL_law_3195 : decode cL_law 3195 = .ok (.aload_n 3, 1) := by decide +kernel
theorem dL_law_3196 : decode cL_law 3196 = .ok (.iconst 0, 1) := by decide +kernel
theorem dL_law_3197 : decode cL_law 3197 = .ok (.laload, 1) := by decide +kernel
theorem dL_law_3198 : decode cL_law 3198 = .ok (.iload 7, 2) := by decide +kernel
theorem dL_law_3200 : decode cL_law 3200 = .ok (.i2l, 1) := by decide +kernel
theorem dL_law_3201 : decode cL_law 3201 = .ok (.lcmp, 1) := by decide +kernel
theorem dL_law_3202 : decode cL_law 3202 = .ok (.ifCond .eq 5, 3) := by decide +kernel
theorem dL_law_3205 : decode cL_law 3205 = .ok (.iconst 0, 1) := by decide +kernel
theorem dL_law_3206 : decode cL_law 3206 = .ok (.ireturn, 1) := by decide +kernel
theorem dL_law_3207 : decode cL_law 3207 = .ok (.goto 417, 3) := by decide +kernel
set_option maxRecDepth 20000 in
theorem lw_aligned_c_c {p : Program} {l : Launch} {e : Env} {s : State} {m : MethodId} {args : Array Value} {below : List Frame} {meth : Method} {c : Code} {E : zE} {Q : State → Prop} {b0 L i ce sl : Nat} {xs : Nat → Int32} {σ : zS} (ni : Nat) (tx : Nat → Int) (ec : Nat) (eo : Int) (U : zSU) (S : zST) (hh : List zST) (kp : Option zST) (ou : List Nat) (n1 : Nat) (n2 : Nat) (v3 : Int) (W : zLW p l s m args meth c E b0 L xs) (hi : i + 6 ≤ L) (hcs : ce + 1 ≤ room_1.cells ∧ sl + 6 ≤ room_1.slots) (hR : zRel σ (zDv.mk ni tx ec eo U S hh kp ou)) (hx1 : xs (i + 1) = (zI (n1 : Int))) (hx2 : xs (i + 2) = (zI (n2 : Int))) (hx3 : xs (i + 3) = (zI v3)) (hi0 : n1 < U.nb) (hdd91 : 0 ≤ (n2 : Int) ∧ (n2 : Int) ≤ 400000) (horb2 : 0 ≤ v3 ∧ v3 ≤ 648000)  (kk : zNx p l e s m args below meth c E Q b0 i ce sl) : zV p l e room_1 s m args below meth c 9 E Q ce sl σ 3130 (lwL b0 i E) [] := by
  refine (?_ : zV p l e room_1 s m args below meth c 9 E Q ce sl σ 3130 [(0, .ref b0), (1, .ref (ob E 0)), (2, .ref (ob E 327)), (3, .ref (ob E 339)), (4, .ref (ob E 340)), (5, .int (zI (i : Int)))] [])
  have C := W.2.1
  have hfl := W.1
  have hroom : room_1.cells = 601024 ∧ room_1.slots = 7293034 := ⟨rfl, rfl⟩
  refine zv_aload_n C 1 dL_law_3130 rfl rfl ?_
  refine zv_aload_n C 0 dL_law_3131 rfl rfl ?_
  refine zv_iload C 5 dL_law_3132 rfl ?_
  refine zv_iconst (v := zI 1) C dL_law_3134 rfl ?_
  refine zv_iaddZ C dL_law_3135 ?_
  refine zv_sld (j := i + 1) (v := (zI (n1 : Int))) C W.2.2.1 W.2.2.2.1 W.2.2.2.2.1 W.2.2.2.2.2 (zI_ix (by omega)) (by omega) hx1 dL_law_3136 ?_
  refine zv_aload_n C 0 dL_law_3137 rfl rfl ?_
  refine zv_iload C 5 dL_law_3138 rfl ?_
  refine zv_iconst (v := zI 2) C dL_law_3140 rfl ?_
  refine zv_iaddZ C dL_law_3141 ?_
  refine zv_sld (j := i + 2) (v := (zI (n2 : Int))) C W.2.2.1 W.2.2.2.1 W.2.2.2.2.1 W.2.2.2.2.2 (zI_ix (by omega)) (by omega) hx2 dL_law_3142 ?_
  refine zv_aload_n C 0 dL_law_3143 rfl rfl ?_
  refine zv_iload C 5 dL_law_3144 rfl ?_
  refine zv_iconst (v := zI 3) C dL_law_3146 rfl ?_
  refine zv_iaddZ C dL_law_3147 ?_
  refine zv_sld (j := i + 3) (v := (zI v3)) C W.2.2.1 W.2.2.2.1 W.2.2.2.2.1 W.2.2.2.2.2 (zI_ix (by omega)) (by omega) hx3 dL_law_3148 ?_
  refine zv_aload_n C 3 dL_law_3149 rfl rfl ?_
  refine zv_cH (st := []) C (w_c_X10_aligned hfl E σ U S n1 (n2 : Int) v3 hR.1.2.2.1 hR.1.2.2.2.1.1 (by first | assumption | omega) (by first | assumption | omega) (by first | assumption | omega)) mL_aligned kL_331 rfl ⟨rfl, rfl⟩ (show zfit (zrm 5 131) 6 room_1 = true from rfl) (Nat.le_of_ble_eq_true rfl) dL_law_3150 ⟨by omega, by omega⟩ (fun r3150 τ3150 hp3150 => ?_)
  obtain ⟨hr0, v9, υ9, hP9, hτ9⟩ := hp3150
  refine zv_eqi (y := zI 0) hr0 ?_
  obtain ⟨hv9, hW9⟩ := hP9
  have hF9 : zFr 318 327 σ υ9 := by first | exact hW9 | (rw [hW9]; exact (by first | exact zFr_refl _ _ _ | exact zFr_rW (zFr_refl _ _ _) (by omega) | exact zFr_rW (zFr_rW (zFr_refl _ _ _) (by omega)) (by omega) | exact qW_f _ _ _ _ | exact qM_f _ _ _ _ _ | exact rW2_f _ _ _ _ _ | exact rW3_f _ _ _ _ _ | exact alW_f _ _ _ _ _ | (split <;> first | exact zFr_refl _ _ _ | exact bW_f _ _ _ _) | assumption))
  have hR1 : zRel τ3150 (zDv.mk ni tx ec eo U S hh kp ou) := by rw [hτ9]; exact zRel_J (zRel_c hR hF9) _
  have ho9 : gJ τ3150 339 0 = v9.toInt64 := by rw [hτ9, gJ_sJ, if_pos ⟨rfl, rfl⟩]
  rw [hv9] at ho9
  refine zv_istore (lv' := [(6, .int (zI 0)), (0, .ref b0), (1, .ref (ob E 0)), (2, .ref (ob E 327)), (3, .ref (ob E 339)), (4, .ref (ob E 340)), (5, .int (zI (i : Int)))]) C dL_law_3153  (by decide) rfl ?_
  refine zv_aload_n C 3 dL_law_3155 rfl rfl ?_
  refine zv_aload_n C 1 dL_law_3156 rfl rfl ?_
  refine zv_iload C 6 dL_law_3157 rfl ?_
  refine zv_iconst (v := zI 1) C dL_law_3159 rfl ?_
  refine zv_iaddZ C dL_law_3160 ?_
  refine zv_sld (j := i + 1) (v := (zI (n1 : Int))) C W.2.2.1 W.2.2.2.1 W.2.2.2.2.1 W.2.2.2.2.2 (zI_ix (by omega)) (by omega) hx1 dL_law_3161 ?_
  refine zv_aload_n C 1 dL_law_3162 rfl rfl ?_
  refine zv_iload C 6 dL_law_3163 rfl ?_
  refine zv_iconst (v := zI 2) C dL_law_3165 rfl ?_
  refine zv_iaddZ C dL_law_3166 ?_
  refine zv_sld (j := i + 2) (v := (zI (n2 : Int))) C W.2.2.1 W.2.2.2.1 W.2.2.2.2.1 W.2.2.2.2.2 (zI_ix (by omega)) (by omega) hx2 dL_law_3167 ?_
  refine zv_aload_n C 1 dL_law_3168 rfl rfl ?_
  refine zv_iload C 6 dL_law_3169 rfl ?_
  refine zv_iconst (v := zI 3) C dL_law_3171 rfl ?_
  refine zv_iaddZ C dL_law_3172 ?_
  refine zv_sld (j := i + 3) (v := (zI v3)) C W.2.2.1 W.2.2.2.1 W.2.2.2.2.1 W.2.2.2.2.2 (zI_ix (by omega)) (by omega) hx3 dL_law_3173 ?_
  refine zv_cvi (st := []) C (c_X11_aligned hfl E τ3150 σ U S n1 n2 v3 hR1.2.2.2.1 hR.1.2.2.1 hR1.2.2.2.2.2.1.1 hR.1.2.2.2.1.1 (by first | assumption | omega) (by first | assumption | omega) (by first | assumption | omega)) mX11_aligned kL_333 (by decide : kd 327 = 10) rfl rfl rfl ⟨rfl, rfl⟩ (show zfit (zrm 2 46) 6 room_1 = true from rfl) (Nat.le_of_ble_eq_true rfl) dL_law_3174 ⟨by omega, by omega⟩ (fun r3174 τ3174 hp3174 => ?_)
  obtain ⟨hr2, hK2⟩ := hp3174
  refine zv_eqi (y := dAl U S n1 (n2 : Int) v3 U.nb) hr2 ?_
  have hR2 : zRel τ3174 (zDv.mk ni tx ec eo U S hh kp ou) := zRel_m hR1 hK2
  have ht2 : gI τ3174 327 10 = zI 0 := hK2.2
  have hJ2 : gJ τ3174 339 0 = gJ τ3150 339 0 := hK2.1.2.1 339 0 (by decide)
  have hD2 : gD τ3174 340 0 = gD τ3150 340 0 := hK2.1.2.2 340 0
  refine zv_istore (lv' := [(7, .int (dAl U S n1 (n2 : Int) v3 U.nb)), (6, .int (zI 0)), (0, .ref b0), (1, .ref (ob E 0)), (2, .ref (ob E 327)), (3, .ref (ob E 339)), (4, .ref (ob E 340)), (5, .int (zI (i : Int)))]) C dL_law_3177  (by decide) rfl ?_
  refine zv_aload_n C 4 dL_law_3179 rfl rfl ?_
  refine zv_cviD (st := []) C (c_X11_thrown hfl E τ3174) mX11_thrown kL_200 (by decide : kd 327 = 10) rfl rfl rfl ⟨rfl, rfl⟩ (show zfit (zrm 0 0) 1 room_1 = true from rfl) (Nat.le_of_ble_eq_true rfl) dL_law_3180 ⟨by omega, by omega⟩ ?_
  refine zv_eqi (y := (zI 0)) (ht2) ?_
  refine zv_iload C 1 dL_law_3183 rfl ?_
  refine zv_icmp_eqZ (tgt := 3190) C (by omega) (by omega) dL_law_3185 (by decide) (fun h3185 => ?_) (fun h3185 => ?_)
  · skip
    refine zv_iload C 1 dL_law_3190 rfl ?_
    refine zv_if_neZ (tgt := 3207) C (by omega) dL_law_3192 (by decide) (fun h3192 => absurd h3192 (by decide)) (fun h3192 => ?_)
    refine zv_aload_n C 5 dL_law_3195 rfl rfl ?_
    refine zv_iconst (v := zI 0) C dL_law_3196 rfl ?_
    refine zv_lald (j := 0) C (by decide : kd 339 = _) (zI_ix (by omega)) (by decide) dL_law_3197 ?_
    refine zv_eql (y := ((dAl U S n1 (n2 : Int) v3 U.nb).toInt64)) (hJ2.trans ho9) ?_
    refine zv_iload C 0 dL_law_3198 rfl ?_
    refine zv_i2l C dL_law_3200 ?_
    refine zv_lc_eq (tgt := 3207) C dL_law_3201 dL_law_3202 (by decide) (fun h3201 => ?_) (fun h3201 => ?_)
    · skip
      refine zv_goto (tgt := 3624) C dL_law_3207 (by decide) ?_
      refine zv_sub (lv' := [(0, .ref b0), (1, .ref (ob E 0)), (2, .ref (ob E 327)), (3, .ref (ob E 339)), (4, .ref (ob E 340)), (5, .int (zI (i : Int)))]) [2, 3, 4, 5, 6, 7] (zcons rfl (zcons rfl (zcons rfl (zcons rfl (zcons rfl (zcons rfl rfl)))))) ?_
      exact kk _ _ _ _ (by omega) (by omega) hR2
    · exfalso
      exact h3201 rfl
  · exfalso
    omega
set_option maxRecDepth 20000 in
theorem lw_aligned_x1_x1 {p : Program} {l : Launch} {e : Env} {s : State} {m : MethodId} {args : Array Value} {below : List Frame} {meth : Method} {c : Code} {E : zE} {Q : State → Prop} {b0 L i ce sl : Nat} {xs : Nat → Int32} {σ : zS} (ni : Nat) (tx : Nat → Int) (ec : Nat) (eo : Int) (U : zSU) (S : zST) (hh : List zST) (kp : Option zST) (ou : List Nat) (v1 : Int) (v2 : Int) (v3 : Int) (W : zLW p l s m args meth c E b0 L xs) (hi : i + 6 ≤ L) (hcs : ce + 1 ≤ room_1.cells ∧ sl + 6 ≤ room_1.slots) (hR : zRel σ (zDv.mk ni tx ec eo U S hh kp ou)) (hx1 : xs (i + 1) = (zI v1)) (hx2 : xs (i + 2) = (zI v2)) (hx3 : xs (i + 3) = (zI v3)) (hbi0 : -2147483648 ≤ v1 ∧ v1 < 2147483648) (hno1 : ¬ (0 ≤ v1 ∧ v1 < U.nb))  (kk : zNx p l e s m args below meth c E Q b0 i ce sl) : zV p l e room_1 s m args below meth c 9 E Q ce sl σ 3130 (lwL b0 i E) [] := by
  refine (?_ : zV p l e room_1 s m args below meth c 9 E Q ce sl σ 3130 [(0, .ref b0), (1, .ref (ob E 0)), (2, .ref (ob E 327)), (3, .ref (ob E 339)), (4, .ref (ob E 340)), (5, .int (zI (i : Int)))] [])
  have C := W.2.1
  have hfl := W.1
  have hroom : room_1.cells = 601024 ∧ room_1.slots = 7293034 := ⟨rfl, rfl⟩
  refine zv_aload_n C 1 dL_law_3130 rfl rfl ?_
  refine zv_aload_n C 0 dL_law_3131 rfl rfl ?_
  refine zv_iload C 5 dL_law_3132 rfl ?_
  refine zv_iconst (v := zI 1) C dL_law_3134 rfl ?_
  refine zv_iaddZ C dL_law_3135 ?_
  refine zv_sld (j := i + 1) (v := (zI v1)) C W.2.2.1 W.2.2.2.1 W.2.2.2.2.1 W.2.2.2.2.2 (zI_ix (by omega)) (by omega) hx1 dL_law_3136 ?_
  refine zv_aload_n C 0 dL_law_3137 rfl rfl ?_
  refine zv_iload C 5 dL_law_3138 rfl ?_
  refine zv_iconst (v := zI 2) C dL_law_3140 rfl ?_
  refine zv_iaddZ C dL_law_3141 ?_
  refine zv_sld (j := i + 2) (v := (zI v2)) C W.2.2.1 W.2.2.2.1 W.2.2.2.2.1 W.2.2.2.2.2 (zI_ix (by omega)) (by omega) hx2 dL_law_3142 ?_
  refine zv_aload_n C 0 dL_law_3143 rfl rfl ?_
  refine zv_iload C 5 dL_law_3144 rfl ?_
  refine zv_iconst (v := zI 3) C dL_law_3146 rfl ?_
  refine zv_iaddZ C dL_law_3147 ?_
  refine zv_sld (j := i + 3) (v := (zI v3)) C W.2.2.1 W.2.2.2.1 W.2.2.2.2.1 W.2.2.2.2.2 (zI_ix (by omega)) (by omega) hx3 dL_law_3148 ?_
  refine zv_aload_n C 3 dL_law_3149 rfl rfl ?_
  refine zv_cH (st := []) C (w_x1_X10_aligned hfl E σ U v1 v2 v3 hR.1.2.2.1 (by first | assumption | omega) (by first | assumption | omega)) mL_aligned kL_331 rfl ⟨rfl, rfl⟩ (show zfit (zrx 10 226) 6 room_1 = true from rfl) (Nat.le_of_ble_eq_true rfl) dL_law_3150 ⟨by exact hcs.1, by exact hcs.2⟩ (fun r3150 τ3150 hp3150 => ?_)
  obtain ⟨hr0, hP9⟩ := hp3150
  refine zv_eqi (y := zI 1) hr0 ?_
  have hF9 : zFr 318 327 σ τ3150 := by rw [hP9]; exact (by first | exact zFr_refl _ _ _ | exact zFr_rW (zFr_refl _ _ _) (by omega) | exact zFr_rW (zFr_rW (zFr_refl _ _ _) (by omega)) (by omega) | exact qW_f _ _ _ _ | exact qM_f _ _ _ _ _ | exact rW2_f _ _ _ _ _ | exact rW3_f _ _ _ _ _ | exact alW_f _ _ _ _ _ | (split <;> first | exact zFr_refl _ _ _ | exact bW_f _ _ _ _) | assumption)
  have hR1 : zRel τ3150 (zDv.mk ni tx ec eo U S hh kp ou) := zRel_c hR hF9
  refine zv_istore (lv' := [(6, .int (zI 1)), (0, .ref b0), (1, .ref (ob E 0)), (2, .ref (ob E 327)), (3, .ref (ob E 339)), (4, .ref (ob E 340)), (5, .int (zI (i : Int)))]) C dL_law_3153  (by decide) rfl ?_
  refine zv_aload_n C 3 dL_law_3155 rfl rfl ?_
  refine zv_aload_n C 1 dL_law_3156 rfl rfl ?_
  refine zv_iload C 6 dL_law_3157 rfl ?_
  refine zv_iconst (v := zI 1) C dL_law_3159 rfl ?_
  refine zv_iaddZ C dL_law_3160 ?_
  refine zv_sld (j := i + 1) (v := (zI v1)) C W.2.2.1 W.2.2.2.1 W.2.2.2.2.1 W.2.2.2.2.2 (zI_ix (by omega)) (by omega) hx1 dL_law_3161 ?_
  refine zv_aload_n C 1 dL_law_3162 rfl rfl ?_
  refine zv_iload C 6 dL_law_3163 rfl ?_
  refine zv_iconst (v := zI 2) C dL_law_3165 rfl ?_
  refine zv_iaddZ C dL_law_3166 ?_
  refine zv_sld (j := i + 2) (v := (zI v2)) C W.2.2.1 W.2.2.2.1 W.2.2.2.2.1 W.2.2.2.2.2 (zI_ix (by omega)) (by omega) hx2 dL_law_3167 ?_
  refine zv_aload_n C 1 dL_law_3168 rfl rfl ?_
  refine zv_iload C 6 dL_law_3169 rfl ?_
  refine zv_iconst (v := zI 3) C dL_law_3171 rfl ?_
  refine zv_iaddZ C dL_law_3172 ?_
  refine zv_sld (j := i + 3) (v := (zI v3)) C W.2.2.1 W.2.2.2.1 W.2.2.2.2.1 W.2.2.2.2.2 (zI_ix (by omega)) (by omega) hx3 dL_law_3173 ?_
  refine zv_cvi (st := []) C (x1_X11_aligned hfl E τ3150 σ U v1 v2 v3 hR1.2.2.2.1 hR.1.2.2.1 (by first | assumption | omega) (by first | assumption | omega)) mX11_aligned kL_333 (by decide : kd 327 = 10) rfl rfl rfl ⟨rfl, rfl⟩ (show zfit (zrm 2 46) 6 room_1 = true from rfl) (Nat.le_of_ble_eq_true rfl) dL_law_3174 ⟨by omega, by omega⟩ (fun r3174 τ3174 hp3174 => ?_)
  obtain ⟨hr2, hK2⟩ := hp3174
  refine zv_eqi (y := zI 0) hr2 ?_
  have hR2 : zRel τ3174 (zDv.mk ni tx ec eo U S hh kp ou) := zRel_m hR1 hK2
  have ht2 : gI τ3174 327 10 = zI 1 := hK2.2
  have hJ2 : gJ τ3174 339 0 = gJ τ3150 339 0 := hK2.1.2.1 339 0 (by decide)
  have hD2 : gD τ3174 340 0 = gD τ3150 340 0 := hK2.1.2.2 340 0
  refine zv_istore (lv' := [(7, .int (zI 0)), (6, .int (zI 1)), (0, .ref b0), (1, .ref (ob E 0)), (2, .ref (ob E 327)), (3, .ref (ob E 339)), (4, .ref (ob E 340)), (5, .int (zI (i : Int)))]) C dL_law_3177  (by decide) rfl ?_
  refine zv_aload_n C 4 dL_law_3179 rfl rfl ?_
  refine zv_cviD (st := []) C (c_X11_thrown hfl E τ3174) mX11_thrown kL_200 (by decide : kd 327 = 10) rfl rfl rfl ⟨rfl, rfl⟩ (show zfit (zrm 0 0) 1 room_1 = true from rfl) (Nat.le_of_ble_eq_true rfl) dL_law_3180 ⟨by omega, by omega⟩ ?_
  refine zv_eqi (y := (zI 1)) (ht2) ?_
  refine zv_iload C 1 dL_law_3183 rfl ?_
  refine zv_icmp_eqZ (tgt := 3190) C (by omega) (by omega) dL_law_3185 (by decide) (fun h3185 => ?_) (fun h3185 => ?_)
  · skip
    refine zv_iload C 1 dL_law_3190 rfl ?_
    refine zv_if_neZ (tgt := 3207) C (by omega) dL_law_3192 (by decide) (fun h3192 => ?_) (fun h3192 => absurd h3192 (by decide))
    refine zv_goto (tgt := 3624) C dL_law_3207 (by decide) ?_
    refine zv_sub (lv' := [(0, .ref b0), (1, .ref (ob E 0)), (2, .ref (ob E 327)), (3, .ref (ob E 339)), (4, .ref (ob E 340)), (5, .int (zI (i : Int)))]) [2, 3, 4, 5, 6, 7] (zcons rfl (zcons rfl (zcons rfl (zcons rfl (zcons rfl (zcons rfl rfl)))))) ?_
    exact kk _ _ _ _ (by omega) (by omega) hR2
  · exfalso
    omega
set_option maxRecDepth 20000 in
theorem lw_aligned_x2_x2 {p : Program} {l : Launch} {e : Env} {s : State} {m : MethodId} {args : Array Value} {below : List Frame} {meth : Method} {c : Code} {E : zE} {Q : State → Prop} {b0 L i ce sl : Nat} {xs : Nat → Int32} {σ : zS} (ni : Nat) (tx : Nat → Int) (ec : Nat) (eo : Int) (U : zSU) (S : zST) (hh : List zST) (kp : Option zST) (ou : List Nat) (n1 : Nat) (v2 : Int) (v3 : Int) (W : zLW p l s m args meth c E b0 L xs) (hi : i + 6 ≤ L) (hcs : ce + 1 ≤ room_1.cells ∧ sl + 6 ≤ room_1.slots) (hR : zRel σ (zDv.mk ni tx ec eo U S hh kp ou)) (hx1 : xs (i + 1) = (zI (n1 : Int))) (hx2 : xs (i + 2) = (zI v2)) (hx3 : xs (i + 3) = (zI v3)) (hi0 : n1 < U.nb) (hyi1 : -2147483648 ≤ v2 ∧ v2 < 2147483648) (hno2 : ¬ (0 ≤ v2 ∧ v2 ≤ 400000)) (hvr : -2147483648 ≤ v3 ∧ v3 < 2147483648) (kk : zNx p l e s m args below meth c E Q b0 i ce sl) : zV p l e room_1 s m args below meth c 9 E Q ce sl σ 3130 (lwL b0 i E) [] := by
  refine (?_ : zV p l e room_1 s m args below meth c 9 E Q ce sl σ 3130 [(0, .ref b0), (1, .ref (ob E 0)), (2, .ref (ob E 327)), (3, .ref (ob E 339)), (4, .ref (ob E 340)), (5, .int (zI (i : Int)))] [])
  have C := W.2.1
  have hfl := W.1
  have hroom : room_1.cells = 601024 ∧ room_1.slots = 7293034 := ⟨rfl, rfl⟩
  refine zv_aload_n C 1 dL_law_3130 rfl rfl ?_
  refine zv_aload_n C 0 dL_law_3131 rfl rfl ?_
  refine zv_iload C 5 dL_law_3132 rfl ?_
  refine zv_iconst (v := zI 1) C dL_law_3134 rfl ?_
  refine zv_iaddZ C dL_law_3135 ?_
  refine zv_sld (j := i + 1) (v := (zI (n1 : Int))) C W.2.2.1 W.2.2.2.1 W.2.2.2.2.1 W.2.2.2.2.2 (zI_ix (by omega)) (by omega) hx1 dL_law_3136 ?_
  refine zv_aload_n C 0 dL_law_3137 rfl rfl ?_
  refine zv_iload C 5 dL_law_3138 rfl ?_
  refine zv_iconst (v := zI 2) C dL_law_3140 rfl ?_
  refine zv_iaddZ C dL_law_3141 ?_
  refine zv_sld (j := i + 2) (v := (zI v2)) C W.2.2.1 W.2.2.2.1 W.2.2.2.2.1 W.2.2.2.2.2 (zI_ix (by omega)) (by omega) hx2 dL_law_3142 ?_
  refine zv_aload_n C 0 dL_law_3143 rfl rfl ?_
  refine zv_iload C 5 dL_law_3144 rfl ?_
  refine zv_iconst (v := zI 3) C dL_law_3146 rfl ?_
  refine zv_iaddZ C dL_law_3147 ?_
  refine zv_sld (j := i + 3) (v := (zI v3)) C W.2.2.1 W.2.2.2.1 W.2.2.2.2.1 W.2.2.2.2.2 (zI_ix (by omega)) (by omega) hx3 dL_law_3148 ?_
  refine zv_aload_n C 3 dL_law_3149 rfl rfl ?_
  refine zv_cH (st := []) C (w_x2_X10_aligned hfl E σ U n1 v2 v3 hR.1.2.2.1 (by first | assumption | omega) (by first | assumption | omega) (by first | assumption | omega)) mL_aligned kL_331 rfl ⟨rfl, rfl⟩ (show zfit (zrx 10 226) 6 room_1 = true from rfl) (Nat.le_of_ble_eq_true rfl) dL_law_3150 ⟨by exact hcs.1, by exact hcs.2⟩ (fun r3150 τ3150 hp3150 => ?_)
  obtain ⟨hr0, hP9⟩ := hp3150
  refine zv_eqi (y := zI 2) hr0 ?_
  have hF9 : zFr 318 327 σ τ3150 := by rw [hP9]; exact (by first | exact zFr_refl _ _ _ | exact zFr_rW (zFr_refl _ _ _) (by omega) | exact zFr_rW (zFr_rW (zFr_refl _ _ _) (by omega)) (by omega) | exact qW_f _ _ _ _ | exact qM_f _ _ _ _ _ | exact rW2_f _ _ _ _ _ | exact rW3_f _ _ _ _ _ | exact alW_f _ _ _ _ _ | (split <;> first | exact zFr_refl _ _ _ | exact bW_f _ _ _ _) | assumption)
  have hR1 : zRel τ3150 (zDv.mk ni tx ec eo U S hh kp ou) := zRel_c hR hF9
  refine zv_istore (lv' := [(6, .int (zI 2)), (0, .ref b0), (1, .ref (ob E 0)), (2, .ref (ob E 327)), (3, .ref (ob E 339)), (4, .ref (ob E 340)), (5, .int (zI (i : Int)))]) C dL_law_3153  (by decide) rfl ?_
  refine zv_aload_n C 3 dL_law_3155 rfl rfl ?_
  refine zv_aload_n C 1 dL_law_3156 rfl rfl ?_
  refine zv_iload C 6 dL_law_3157 rfl ?_
  refine zv_iconst (v := zI 1) C dL_law_3159 rfl ?_
  refine zv_iaddZ C dL_law_3160 ?_
  refine zv_sld (j := i + 1) (v := (zI (n1 : Int))) C W.2.2.1 W.2.2.2.1 W.2.2.2.2.1 W.2.2.2.2.2 (zI_ix (by omega)) (by omega) hx1 dL_law_3161 ?_
  refine zv_aload_n C 1 dL_law_3162 rfl rfl ?_
  refine zv_iload C 6 dL_law_3163 rfl ?_
  refine zv_iconst (v := zI 2) C dL_law_3165 rfl ?_
  refine zv_iaddZ C dL_law_3166 ?_
  refine zv_sld (j := i + 2) (v := (zI v2)) C W.2.2.1 W.2.2.2.1 W.2.2.2.2.1 W.2.2.2.2.2 (zI_ix (by omega)) (by omega) hx2 dL_law_3167 ?_
  refine zv_aload_n C 1 dL_law_3168 rfl rfl ?_
  refine zv_iload C 6 dL_law_3169 rfl ?_
  refine zv_iconst (v := zI 3) C dL_law_3171 rfl ?_
  refine zv_iaddZ C dL_law_3172 ?_
  refine zv_sld (j := i + 3) (v := (zI v3)) C W.2.2.1 W.2.2.2.1 W.2.2.2.2.1 W.2.2.2.2.2 (zI_ix (by omega)) (by omega) hx3 dL_law_3173 ?_
  refine zv_cvi (st := []) C (x2_X11_aligned hfl E τ3150 σ U n1 v2 v3 hR1.2.2.2.1 hR.1.2.2.1 (by first | assumption | omega) (by first | assumption | omega) (by first | assumption | omega) (by first | assumption | omega)) mX11_aligned kL_333 (by decide : kd 327 = 10) rfl rfl rfl ⟨rfl, rfl⟩ (show zfit (zrm 2 46) 6 room_1 = true from rfl) (Nat.le_of_ble_eq_true rfl) dL_law_3174 ⟨by omega, by omega⟩ (fun r3174 τ3174 hp3174 => ?_)
  obtain ⟨hr2, hK2⟩ := hp3174
  refine zv_eqi (y := zI 0) hr2 ?_
  have hR2 : zRel τ3174 (zDv.mk ni tx ec eo U S hh kp ou) := zRel_m hR1 hK2
  have ht2 : gI τ3174 327 10 = zI 2 := hK2.2
  have hJ2 : gJ τ3174 339 0 = gJ τ3150 339 0 := hK2.1.2.1 339 0 (by decide)
  have hD2 : gD τ3174 340 0 = gD τ3150 340 0 := hK2.1.2.2 340 0
  refine zv_istore (lv' := [(7, .int (zI 0)), (6, .int (zI 2)), (0, .ref b0), (1, .ref (ob E 0)), (2, .ref (ob E 327)), (3, .ref (ob E 339)), (4, .ref (ob E 340)), (5, .int (zI (i : Int)))]) C dL_law_3177  (by decide) rfl ?_
  refine zv_aload_n C 4 dL_law_3179 rfl rfl ?_
  refine zv_cviD (st := []) C (c_X11_thrown hfl E τ3174) mX11_thrown kL_200 (by decide : kd 327 = 10) rfl rfl rfl ⟨rfl, rfl⟩ (show zfit (zrm 0 0) 1 room_1 = true from rfl) (Nat.le_of_ble_eq_true rfl) dL_law_3180 ⟨by omega, by omega⟩ ?_
  refine zv_eqi (y := (zI 2)) (ht2) ?_
  refine zv_iload C 1 dL_law_3183 rfl ?_
  refine zv_icmp_eqZ (tgt := 3190) C (by omega) (by omega) dL_law_3185 (by decide) (fun h3185 => ?_) (fun h3185 => ?_)
  · skip
    refine zv_iload C 1 dL_law_3190 rfl ?_
    refine zv_if_neZ (tgt := 3207) C (by omega) dL_law_3192 (by decide) (fun h3192 => ?_) (fun h3192 => absurd h3192 (by decide))
    refine zv_goto (tgt := 3624) C dL_law_3207 (by decide) ?_
    refine zv_sub (lv' := [(0, .ref b0), (1, .ref (ob E 0)), (2, .ref (ob E 327)), (3, .ref (ob E 339)), (4, .ref (ob E 340)), (5, .int (zI (i : Int)))]) [2, 3, 4, 5, 6, 7] (zcons rfl (zcons rfl (zcons rfl (zcons rfl (zcons rfl (zcons rfl rfl)))))) ?_
    exact kk _ _ _ _ (by omega) (by omega) hR2
  · exfalso
    omega
set_option maxRecDepth 20000 in
theorem lw_aligned_x3_x2 {p : Program} {l : Launch} {e : Env} {s : State} {m : MethodId} {args : Array Value} {below : List Frame} {meth : Method} {c : Code} {E : zE} {Q : State → Prop} {b0 L i ce sl : Nat} {xs : Nat → Int32} {σ : zS} (ni : Nat) (tx : Nat → Int) (ec : Nat) (eo : Int) (U : zSU) (S : zST) (hh : List zST) (kp : Option zST) (ou : List Nat) (n1 : Nat) (v2 : Int) (v3 : Int) (W : zLW p l s m args meth c E b0 L xs) (hi : i + 6 ≤ L) (hcs : ce + 1 ≤ room_1.cells ∧ sl + 6 ≤ room_1.slots) (hR : zRel σ (zDv.mk ni tx ec eo U S hh kp ou)) (hx1 : xs (i + 1) = (zI (n1 : Int))) (hx2 : xs (i + 2) = (zI v2)) (hx3 : xs (i + 3) = (zI v3)) (hi0 : n1 < U.nb) (hy1 : 0 ≤ v2 ∧ v2 ≤ 400000) (hzi2 : -2147483648 ≤ v3 ∧ v3 < 2147483648) (hno3 : ¬ (0 ≤ v3 ∧ v3 ≤ 648000))  (kk : zNx p l e s m args below meth c E Q b0 i ce sl) : zV p l e room_1 s m args below meth c 9 E Q ce sl σ 3130 (lwL b0 i E) [] := by
  refine (?_ : zV p l e room_1 s m args below meth c 9 E Q ce sl σ 3130 [(0, .ref b0), (1, .ref (ob E 0)), (2, .ref (ob E 327)), (3, .ref (ob E 339)), (4, .ref (ob E 340)), (5, .int (zI (i : Int)))] [])
  have C := W.2.1
  have hfl := W.1
  have hroom : room_1.cells = 601024 ∧ room_1.slots = 7293034 := ⟨rfl, rfl⟩
  refine zv_aload_n C 1 dL_law_3130 rfl rfl ?_
  refine zv_aload_n C 0 dL_law_3131 rfl rfl ?_
  refine zv_iload C 5 dL_law_3132 rfl ?_
  refine zv_iconst (v := zI 1) C dL_law_3134 rfl ?_
  refine zv_iaddZ C dL_law_3135 ?_
  refine zv_sld (j := i + 1) (v := (zI (n1 : Int))) C W.2.2.1 W.2.2.2.1 W.2.2.2.2.1 W.2.2.2.2.2 (zI_ix (by omega)) (by omega) hx1 dL_law_3136 ?_
  refine zv_aload_n C 0 dL_law_3137 rfl rfl ?_
  refine zv_iload C 5 dL_law_3138 rfl ?_
  refine zv_iconst (v := zI 2) C dL_law_3140 rfl ?_
  refine zv_iaddZ C dL_law_3141 ?_
  refine zv_sld (j := i + 2) (v := (zI v2)) C W.2.2.1 W.2.2.2.1 W.2.2.2.2.1 W.2.2.2.2.2 (zI_ix (by omega)) (by omega) hx2 dL_law_3142 ?_
  refine zv_aload_n C 0 dL_law_3143 rfl rfl ?_
  refine zv_iload C 5 dL_law_3144 rfl ?_
  refine zv_iconst (v := zI 3) C dL_law_3146 rfl ?_
  refine zv_iaddZ C dL_law_3147 ?_
  refine zv_sld (j := i + 3) (v := (zI v3)) C W.2.2.1 W.2.2.2.1 W.2.2.2.2.1 W.2.2.2.2.2 (zI_ix (by omega)) (by omega) hx3 dL_law_3148 ?_
  refine zv_aload_n C 3 dL_law_3149 rfl rfl ?_
  refine zv_cH (st := []) C (w_x3_X10_aligned hfl E σ U n1 v2 v3 hR.1.2.2.1 (by first | assumption | omega) (by first | assumption | omega) (by first | assumption | omega) (by first | assumption | omega)) mL_aligned kL_331 rfl ⟨rfl, rfl⟩ (show zfit (zrx 10 226) 6 room_1 = true from rfl) (Nat.le_of_ble_eq_true rfl) dL_law_3150 ⟨by exact hcs.1, by exact hcs.2⟩ (fun r3150 τ3150 hp3150 => ?_)
  obtain ⟨hr0, hP9⟩ := hp3150
  refine zv_eqi (y := zI 2) hr0 ?_
  have hF9 : zFr 318 327 σ τ3150 := by rw [hP9]; exact (by first | exact zFr_refl _ _ _ | exact zFr_rW (zFr_refl _ _ _) (by omega) | exact zFr_rW (zFr_rW (zFr_refl _ _ _) (by omega)) (by omega) | exact qW_f _ _ _ _ | exact qM_f _ _ _ _ _ | exact rW2_f _ _ _ _ _ | exact rW3_f _ _ _ _ _ | exact alW_f _ _ _ _ _ | (split <;> first | exact zFr_refl _ _ _ | exact bW_f _ _ _ _) | assumption)
  have hR1 : zRel τ3150 (zDv.mk ni tx ec eo U S hh kp ou) := zRel_c hR hF9
  refine zv_istore (lv' := [(6, .int (zI 2)), (0, .ref b0), (1, .ref (ob E 0)), (2, .ref (ob E 327)), (3, .ref (ob E 339)), (4, .ref (ob E 340)), (5, .int (zI (i : Int)))]) C dL_law_3153  (by decide) rfl ?_
  refine zv_aload_n C 3 dL_law_3155 rfl rfl ?_
  refine zv_aload_n C 1 dL_law_3156 rfl rfl ?_
  refine zv_iload C 6 dL_law_3157 rfl ?_
  refine zv_iconst (v := zI 1) C dL_law_3159 rfl ?_
  refine zv_iaddZ C dL_law_3160 ?_
  refine zv_sld (j := i + 1) (v := (zI (n1 : Int))) C W.2.2.1 W.2.2.2.1 W.2.2.2.2.1 W.2.2.2.2.2 (zI_ix (by omega)) (by omega) hx1 dL_law_3161 ?_
  refine zv_aload_n C 1 dL_law_3162 rfl rfl ?_
  refine zv_iload C 6 dL_law_3163 rfl ?_
  refine zv_iconst (v := zI 2) C dL_law_3165 rfl ?_
  refine zv_iaddZ C dL_law_3166 ?_
  refine zv_sld (j := i + 2) (v := (zI v2)) C W.2.2.1 W.2.2.2.1 W.2.2.2.2.1 W.2.2.2.2.2 (zI_ix (by omega)) (by omega) hx2 dL_law_3167 ?_
  refine zv_aload_n C 1 dL_law_3168 rfl rfl ?_
  refine zv_iload C 6 dL_law_3169 rfl ?_
  refine zv_iconst (v := zI 3) C dL_law_3171 rfl ?_
  refine zv_iaddZ C dL_law_3172 ?_
  refine zv_sld (j := i + 3) (v := (zI v3)) C W.2.2.1 W.2.2.2.1 W.2.2.2.2.1 W.2.2.2.2.2 (zI_ix (by omega)) (by omega) hx3 dL_law_3173 ?_
  refine zv_cvi (st := []) C (x2_X11_aligned hfl E τ3150 σ U n1 v2 v3 hR1.2.2.2.1 hR.1.2.2.1 (by first | assumption | omega) (by first | assumption | omega) (by first | assumption | omega) (by first | assumption | omega)) mX11_aligned kL_333 (by decide : kd 327 = 10) rfl rfl rfl ⟨rfl, rfl⟩ (show zfit (zrm 2 46) 6 room_1 = true from rfl) (Nat.le_of_ble_eq_true rfl) dL_law_3174 ⟨by omega, by omega⟩ (fun r3174 τ3174 hp3174 => ?_)
  obtain ⟨hr2, hK2⟩ := hp3174
  refine zv_eqi (y := zI 0) hr2 ?_
  have hR2 : zRel τ3174 (zDv.mk ni tx ec eo U S hh kp ou) := zRel_m hR1 hK2
  have ht2 : gI τ3174 327 10 = zI 2 := hK2.2
  have hJ2 : gJ τ3174 339 0 = gJ τ3150 339 0 := hK2.1.2.1 339 0 (by decide)
  have hD2 : gD τ3174 340 0 = gD τ3150 340 0 := hK2.1.2.2 340 0
  refine zv_istore (lv' := [(7, .int (zI 0)), (6, .int (zI 2)), (0, .ref b0), (1, .ref (ob E 0)), (2, .ref (ob E 327)), (3, .ref (ob E 339)), (4, .ref (ob E 340)), (5, .int (zI (i : Int)))]) C dL_law_3177  (by decide) rfl ?_
  refine zv_aload_n C 4 dL_law_3179 rfl rfl ?_
  refine zv_cviD (st := []) C (c_X11_thrown hfl E τ3174) mX11_thrown kL_200 (by decide : kd 327 = 10) rfl rfl rfl ⟨rfl, rfl⟩ (show zfit (zrm 0 0) 1 room_1 = true from rfl) (Nat.le_of_ble_eq_true rfl) dL_law_3180 ⟨by omega, by omega⟩ ?_
  refine zv_eqi (y := (zI 2)) (ht2) ?_
  refine zv_iload C 1 dL_law_3183 rfl ?_
  refine zv_icmp_eqZ (tgt := 3190) C (by omega) (by omega) dL_law_3185 (by decide) (fun h3185 => ?_) (fun h3185 => ?_)
  · skip
    refine zv_iload C 1 dL_law_3190 rfl ?_
    refine zv_if_neZ (tgt := 3207) C (by omega) dL_law_3192 (by decide) (fun h3192 => ?_) (fun h3192 => absurd h3192 (by decide))
    refine zv_goto (tgt := 3624) C dL_law_3207 (by decide) ?_
    refine zv_sub (lv' := [(0, .ref b0), (1, .ref (ob E 0)), (2, .ref (ob E 327)), (3, .ref (ob E 339)), (4, .ref (ob E 340)), (5, .int (zI (i : Int)))]) [2, 3, 4, 5, 6, 7] (zcons rfl (zcons rfl (zcons rfl (zcons rfl (zcons rfl (zcons rfl rfl)))))) ?_
    exact kk _ _ _ _ (by omega) (by omega) hR2
  · exfalso
    omega
theorem LK_47 {p : Program} {l : Launch} {e : Env} {s : State} {m : MethodId} {args : Array Value} {below : List Frame} {meth : Method} {c : Code} {E : zE} {Q : State → Prop} {b0 L i ce sl : Nat} {xs : Nat → Int32} {σ : zS} (ni : Nat) (tx : Nat → Int) (ec : Nat) (eo : Int) (U : zSU) (S : zST) (hh : List zST) (kp : Option zST) (ou : List Nat) (hFN : zFN) (W : zLW p l s m args meth c E b0 L xs) (hi : i + 6 ≤ L) (hcs : ce + 1 ≤ room_1.cells ∧ sl + 6 ≤ room_1.slots) (hR : zRel σ (zDv.mk ni tx ec eo U S hh kp ou)) (kk : zNx p l e s m args below meth c E Q b0 i ce sl) : zV p l e room_1 s m args below meth c 9 E Q ce sl σ 3130 (lwL b0 i E) [] := by
  obtain ⟨v1, hx1, hv1⟩ := zI_cov (xs (i + 1))
  obtain ⟨v2, hx2, hv2⟩ := zI_cov (xs (i + 2))
  obtain ⟨v3, hx3, hv3⟩ := zI_cov (xs (i + 3))
  by_cases g1 : 0 ≤ v1 ∧ v1 < U.nb
  case neg =>
    exact lw_aligned_x1_x1 _ _ _ _ _ _ _ _ _ _ _ _ W hi hcs hR hx1 hx2 hx3 (by first | assumption | omega) (by first | assumption | omega) kk
  obtain ⟨n1, rfl⟩ := Int.eq_ofNat_of_zero_le (show 0 ≤ v1 by omega)
  by_cases g2 : 0 ≤ v2 ∧ v2 ≤ 400000
  case neg =>
    exact lw_aligned_x2_x2 _ _ _ _ _ _ _ _ _ _ _ _ W hi hcs hR hx1 hx2 hx3 (by first | assumption | omega) (by first | assumption | omega) (by first | assumption | omega) (by first | assumption | omega) kk
  by_cases g3 : 0 ≤ v3 ∧ v3 ≤ 648000
  case neg =>
    exact lw_aligned_x3_x2 _ _ _ _ _ _ _ _ _ _ _ _ W hi hcs hR hx1 hx2 hx3 (by first | assumption | omega) (by first | assumption | omega) (by first | assumption | omega) (by first | assumption | omega) kk
  obtain ⟨n2, rfl⟩ := Int.eq_ofNat_of_zero_le (show 0 ≤ v2 by omega)
  exact lw_aligned_c_c _ _ _ _ _ _ _ _ _ _ _ _ W hi hcs hR hx1 hx2 hx3 (by first | assumption | omega) (by first | assumption | omega) (by first | assumption | omega) kk
