/-! the law's cases -/
theorem dL_law_1695 : decode cL_law 1695 = .ok (.aload_n 1, 1) := by decide +kernel
theorem dL_law_1696 : decode cL_law 1696 = .ok (.aload_n 0, 1) := by decide +kernel
theorem dL_law_1697 : decode cL_law 1697 = .ok (.iload 5, 2) := by decide +kernel
theorem dL_law_1699 : decode cL_law 1699 = .ok (.iconst 1, 1) := by decide +kernel
theorem dL_law_1700 : decode cL_law 1700 = .ok (.iadd, 1) := by decide +kernel
theorem dL_law_1701 : decode cL_law 1701 = .ok (.iaload, 1) := by decide +kernel
theorem dL_law_1702 : decode cL_law 1702 = .ok (.aload_n 0, 1) := by decide +kernel
theorem dL_law_1703 : decode cL_law 1703 = .ok (.iload 5, 2) := by decide +kernel
theorem dL_law_1705 : decode cL_law 1705 = .ok (.iconst 2, 1) := by decide +kernel
theorem dL_law_1706 : decode cL_law 1706 = .ok (.iadd, 1) := by decide +kernel
theorem dL_law_1707 : decode cL_law 1707 = .ok (.iaload, 1) := by decide +kernel
theorem dL_law_1708 : decode cL_law 1708 = .ok (.aload_n 0, 1) := by decide +kernel
theorem dL_law_1709 : decode cL_law 1709 = .ok (.iload 5, 2) := by decide +kernel
theorem dL_law_1711 : decode cL_law 1711 = .ok (.iconst 3, 1) := by decide +kernel
theorem dL_law_1712 : decode cL_law 1712 = .ok (.iadd, 1) := by decide +kernel
theorem dL_law_1713 : decode cL_law 1713 = .ok (.iaload, 1) := by decide +kernel
theorem dL_law_1714 : decode cL_law 1714 = .ok (.aload_n 3, 1) := by decide +kernel
theorem dL_law_1715 : decode cL_law 1715 = .ok (.invokestatic 262, 3) := by decide +kernel
theorem dL_law_1718 : decode cL_law 1718 = .ok (.istore 6, 2) := by decide +kernel
theorem dL_law_1720 : decode cL_law 1720 = .ok (.aload_n 2, 1) := by decide +kernel
theorem dL_law_1721 : decode cL_law 1721 = .ok (.aload_n 0, 1) := by decide +kernel
theorem dL_law_1722 : decode cL_law 1722 = .ok (.iload 5, 2) := by decide +kernel
theorem dL_law_1724 : decode cL_law 1724 = .ok (.iconst 1, 1) := by decide +kernel
theorem dL_law_1725 : decode cL_law 1725 = .ok (.iadd, 1) := by decide +kernel
theorem dL_law_1726 : decode cL_law 1726 = .ok (.iaload, 1) := by decide +kernel
theorem dL_law_1727 : decode cL_law 1727 = .ok (.aload_n 0, 1) := by decide +kernel
theorem dL_law_1728 : decode cL_law 1728 = .ok (.iload 5, 2) := by decide +kernel
theorem dL_law_1730 : decode cL_law 1730 = .ok (.iconst 2, 1) := by decide +kernel
theorem dL_law_1731 : decode cL_law 1731 = .ok (.iadd, 1) := by decide +kernel
theorem dL_law_1732 : decode cL_law 1732 = .ok (.iaload, 1) := by decide +kernel
theorem dL_law_1733 : decode cL_law 1733 = .ok (.aload_n 0, 1) := by decide +kernel
theorem dL_law_1734 : decode cL_law 1734 = .ok (.iload 5, 2) := by decide +kernel
theorem dL_law_1736 : decode cL_law 1736 = .ok (.iconst 3, 1) := by decide +kernel
theorem dL_law_1737 : decode cL_law 1737 = .ok (.iadd, 1) := by decide +kernel
theorem dL_law_1738 : decode cL_law 1738 = .ok (.iaload, 1) := by decide +kernel
theorem dL_law_1739 : decode cL_law 1739 = .ok (.invokevirtual 264, 3) := by decide +kernel
theorem dL_law_1742 : decode cL_law 1742 = .ok (.lstore 7, 2) := by decide +kernel
theorem dL_law_1744 : decode cL_law 1744 = .ok (.aload_n 2, 1) := by decide +kernel
theorem dL_law_1745 : decode cL_law 1745 = .ok (.invokevirtual 200, 3) := by decide +kernel
theorem dL_law_1748 : decode cL_law 1748 = .ok (.iload 6, 2) := by decide +kernel
theorem dL_law_1750 : decode cL_law 1750 = .ok (.if_icmp .eq 5, 3) := by decide +kernel
theorem dL_law_1753 : decode cL_law 1753 = .ok (.iconst 0, 1) := by decide +kernel
theorem dL_law_1754 : decode cL_law 1754 = .ok (.ireturn, 1) := by decide +kernel
theorem dL_law_1755 : decode cL_law 1755 = .ok (.iload 6, 2) := by decide +kernel
theorem dL_law_1757 : decode cL_law 1757 = .ok (.ifCond .ne 14, 3) := by decide +kernel
theorem dL_law_1760 : decode cL_law 1760 = .ok (.aload_n 3, 1) := by decide +kernel
theorem dL_law_1761 : decode cL_law 1761 = .ok (.iconst 0, 1) := by decide +kernel
theorem dL_law_1762 : decode cL_law 1762 = .ok (.laload, 1) := by decide +kernel
theorem dL_law_1763 : decode cL_law 1763 = .ok (.lload 7, 2) := by decide +kernel
theorem dL_law_1765 : decode cL_law 1765 = .ok (.lcmp, 1) := by decide +kernel
theorem dL_law_1766 : decode cL_law 1766 = .ok (.ifCond .eq 5, 3) := by decide +kernel
theorem dL_law_1769 : decode cL_law 1769 = .ok (.iconst 0, 1) := by decide +kernel
theorem dL_law_1770 : decode cL_law 1770 = .ok (.ireturn, 1) := by decide +kernel
theorem dL_law_1771 : decode cL_law 1771 = .ok (.goto 1853, 3) := by decide +kernel
set_option maxRecDepth 20000 in
theorem lw_convergent_c_c {p : Program} {l : Launch} {e : Env} {s : State} {m : MethodId} {args : Array Value} {below : List Frame} {meth : Method} {c : Code} {E : zE} {Q : State → Prop} {b0 L i ce sl : Nat} {xs : Nat → Int32} {σ : zS} (ni : Nat) (tx : Nat → Int) (ec : Nat) (eo : Int) (U : zSU) (S : zST) (hh : List zST) (kp : Option zST) (ou : List Nat) (n1 : Nat) (n2 : Nat) (v3 : Int) (W : zLW p l s m args meth c E b0 L xs) (hi : i + 6 ≤ L) (hcs : ce + 1 ≤ room_1.cells ∧ sl + 6 ≤ room_1.slots) (hR : zRel σ (zDv.mk ni tx ec eo U S hh kp ou)) (hx1 : xs (i + 1) = (zI (n1 : Int))) (hx2 : xs (i + 2) = (zI (n2 : Int))) (hx3 : xs (i + 3) = (zI v3)) (hi0 : n1 < U.nb) (hk1 : n2 < 2147483648) (hw2 : v3 = 0 ∨ v3 = 1)  (kk : zNx p l e s m args below meth c E Q b0 i ce sl) : zV p l e room_1 s m args below meth c 9 E Q ce sl σ 1695 (lwL b0 i E) [] := by
  refine (?_ : zV p l e room_1 s m args below meth c 9 E Q ce sl σ 1695 [(0, .ref b0), (1, .ref (ob E 0)), (2, .ref (ob E 327)), (3, .ref (ob E 339)), (4, .ref (ob E 340)), (5, .int (zI (i : Int)))] [])
  have C := W.2.1
  have hfl := W.1
  have hroom : room_1.cells = 601024 ∧ room_1.slots = 7293034 := ⟨rfl, rfl⟩
  refine zv_aload_n C 1 dL_law_1695 rfl rfl ?_
  refine zv_aload_n C 0 dL_law_1696 rfl rfl ?_
  refine zv_iload C 5 dL_law_1697 rfl ?_
  refine zv_iconst (v := zI 1) C dL_law_1699 rfl ?_
  refine zv_iaddZ C dL_law_1700 ?_
  refine zv_sld (j := i + 1) (v := (zI (n1 : Int))) C W.2.2.1 W.2.2.2.1 W.2.2.2.2.1 W.2.2.2.2.2 (zI_ix (by omega)) (by omega) hx1 dL_law_1701 ?_
  refine zv_aload_n C 0 dL_law_1702 rfl rfl ?_
  refine zv_iload C 5 dL_law_1703 rfl ?_
  refine zv_iconst (v := zI 2) C dL_law_1705 rfl ?_
  refine zv_iaddZ C dL_law_1706 ?_
  refine zv_sld (j := i + 2) (v := (zI (n2 : Int))) C W.2.2.1 W.2.2.2.1 W.2.2.2.2.1 W.2.2.2.2.2 (zI_ix (by omega)) (by omega) hx2 dL_law_1707 ?_
  refine zv_aload_n C 0 dL_law_1708 rfl rfl ?_
  refine zv_iload C 5 dL_law_1709 rfl ?_
  refine zv_iconst (v := zI 3) C dL_law_1711 rfl ?_
  refine zv_iaddZ C dL_law_1712 ?_
  refine zv_sld (j := i + 3) (v := (zI v3)) C W.2.2.1 W.2.2.2.1 W.2.2.2.2.1 W.2.2.2.2.2 (zI_ix (by omega)) (by omega) hx3 dL_law_1713 ?_
  refine zv_aload_n C 3 dL_law_1714 rfl rfl ?_
  refine zv_cH (st := []) C (w_c_X10_convergent hfl E σ U n1 n2 v3 hR.1.2.2.1 (by first | assumption | omega) (by first | assumption | omega) (by first | assumption | omega)) mL_convergent kL_262 rfl ⟨rfl, rfl⟩ (show zfit (zrm 2 66) 6 room_1 = true from rfl) (Nat.le_of_ble_eq_true rfl) dL_law_1715 ⟨by omega, by omega⟩ (fun r1715 τ1715 hp1715 => ?_)
  obtain ⟨hr0, v9, υ9, hP9, hτ9⟩ := hp1715
  refine zv_eqi (y := zI 0) hr0 ?_
  obtain ⟨hv9, hW9⟩ := hP9
  have hF9 : zFr 318 327 σ υ9 := by first | exact hW9 | (rw [hW9]; exact (by first | exact zFr_refl _ _ _ | exact zFr_rW (zFr_refl _ _ _) (by omega) | exact zFr_rW (zFr_rW (zFr_refl _ _ _) (by omega)) (by omega) | exact qW_f _ _ _ _ | exact qM_f _ _ _ _ _ | exact rW2_f _ _ _ _ _ | exact rW3_f _ _ _ _ _ | exact alW_f _ _ _ _ _ | (split <;> first | exact zFr_refl _ _ _ | exact bW_f _ _ _ _) | assumption))
  have hR1 : zRel τ1715 (zDv.mk ni tx ec eo U S hh kp ou) := by rw [hτ9]; exact zRel_J (zRel_c hR hF9) _
  have ho9 : gJ τ1715 339 0 = v9 := by rw [hτ9, gJ_sJ, if_pos ⟨rfl, rfl⟩]
  rw [hv9] at ho9
  refine zv_istore (lv' := [(6, .int (zI 0)), (0, .ref b0), (1, .ref (ob E 0)), (2, .ref (ob E 327)), (3, .ref (ob E 339)), (4, .ref (ob E 340)), (5, .int (zI (i : Int)))]) C dL_law_1718  (by decide) rfl ?_
  refine zv_aload_n C 3 dL_law_1720 rfl rfl ?_
  refine zv_aload_n C 1 dL_law_1721 rfl rfl ?_
  refine zv_iload C 6 dL_law_1722 rfl ?_
  refine zv_iconst (v := zI 1) C dL_law_1724 rfl ?_
  refine zv_iaddZ C dL_law_1725 ?_
  refine zv_sld (j := i + 1) (v := (zI (n1 : Int))) C W.2.2.1 W.2.2.2.1 W.2.2.2.2.1 W.2.2.2.2.2 (zI_ix (by omega)) (by omega) hx1 dL_law_1726 ?_
  refine zv_aload_n C 1 dL_law_1727 rfl rfl ?_
  refine zv_iload C 6 dL_law_1728 rfl ?_
  refine zv_iconst (v := zI 2) C dL_law_1730 rfl ?_
  refine zv_iaddZ C dL_law_1731 ?_
  refine zv_sld (j := i + 2) (v := (zI (n2 : Int))) C W.2.2.1 W.2.2.2.1 W.2.2.2.2.1 W.2.2.2.2.2 (zI_ix (by omega)) (by omega) hx2 dL_law_1732 ?_
  refine zv_aload_n C 1 dL_law_1733 rfl rfl ?_
  refine zv_iload C 6 dL_law_1734 rfl ?_
  refine zv_iconst (v := zI 3) C dL_law_1736 rfl ?_
  refine zv_iaddZ C dL_law_1737 ?_
  refine zv_sld (j := i + 3) (v := (zI v3)) C W.2.2.1 W.2.2.2.1 W.2.2.2.2.1 W.2.2.2.2.2 (zI_ix (by omega)) (by omega) hx3 dL_law_1738 ?_
  refine zv_cvl (st := []) C (c_X11_convergent hfl E τ1715 σ U n1 n2 v3 hR1.2.2.2.1 hR.1.2.2.1 (by first | assumption | omega) (by first | assumption | omega) (by first | assumption | omega)) mX11_convergent kL_264 (by decide : kd 327 = 10) rfl rfl rfl ⟨rfl, rfl⟩ (show zfit (zrm 2 46) 25 room_1 = true from rfl) (Nat.le_of_ble_eq_true rfl) dL_law_1739 ⟨by omega, by omega⟩ (fun r1739 τ1739 hp1739 => ?_)
  obtain ⟨hr2, hK2⟩ := hp1739
  refine zv_eql (y := zL (dCv (U.pe n1) n2 v3)) hr2 ?_
  have hR2 : zRel τ1739 (zDv.mk ni tx ec eo U S hh kp ou) := zRel_m hR1 hK2
  have ht2 : gI τ1739 327 10 = zI 0 := hK2.2
  have hJ2 : gJ τ1739 339 0 = gJ τ1715 339 0 := hK2.1.2.1 339 0 (by decide)
  have hD2 : gD τ1739 340 0 = gD τ1715 340 0 := hK2.1.2.2 340 0
  refine zv_lstore (lv' := [(7, .long (zL (dCv (U.pe n1) n2 v3))), (6, .int (zI 0)), (0, .ref b0), (1, .ref (ob E 0)), (2, .ref (ob E 327)), (3, .ref (ob E 339)), (4, .ref (ob E 340)), (5, .int (zI (i : Int)))]) C dL_law_1742  (by decide) rfl ?_
  refine zv_aload_n C 4 dL_law_1744 rfl rfl ?_
  refine zv_cviD (st := []) C (c_X11_thrown hfl E τ1739) mX11_thrown kL_200 (by decide : kd 327 = 10) rfl rfl rfl ⟨rfl, rfl⟩ (show zfit (zrm 0 0) 1 room_1 = true from rfl) (Nat.le_of_ble_eq_true rfl) dL_law_1745 ⟨by omega, by omega⟩ ?_
  refine zv_eqi (y := (zI 0)) (ht2) ?_
  refine zv_iload C 1 dL_law_1748 rfl ?_
  refine zv_icmp_eqZ (tgt := 1755) C (by omega) (by omega) dL_law_1750 (by decide) (fun h1750 => ?_) (fun h1750 => ?_)
  · skip
    refine zv_iload C 1 dL_law_1755 rfl ?_
    refine zv_if_neZ (tgt := 1771) C (by omega) dL_law_1757 (by decide) (fun h1757 => absurd h1757 (by decide)) (fun h1757 => ?_)
    refine zv_aload_n C 5 dL_law_1760 rfl rfl ?_
    refine zv_iconst (v := zI 0) C dL_law_1761 rfl ?_
    refine zv_lald (j := 0) C (by decide : kd 339 = _) (zI_ix (by omega)) (by decide) dL_law_1762 ?_
    refine zv_eql (y := (zL (dCv (U.pe n1) n2 v3))) (hJ2.trans ho9) ?_
    refine zv_lload C 0 dL_law_1763 rfl ?_
    refine zv_lc_eq (tgt := 1771) C dL_law_1765 dL_law_1766 (by decide) (fun h1765 => ?_) (fun h1765 => ?_)
    · skip
      refine zv_goto (tgt := 3624) C dL_law_1771 (by decide) ?_
      refine zv_sub (lv' := [(0, .ref b0), (1, .ref (ob E 0)), (2, .ref (ob E 327)), (3, .ref (ob E 339)), (4, .ref (ob E 340)), (5, .int (zI (i : Int)))]) [2, 3, 4, 5, 6, 7] (zcons rfl (zcons rfl (zcons rfl (zcons rfl (zcons rfl (zcons rfl rfl)))))) ?_
      exact kk _ _ _ _ (by omega) (by omega) hR2
    · exfalso
      exact h1765 rfl
  · exfalso
    omega
set_option maxRecDepth 20000 in
theorem lw_convergent_x1_x1 {p : Program} {l : Launch} {e : Env} {s : State} {m : MethodId} {args : Array Value} {below : List Frame} {meth : Method} {c : Code} {E : zE} {Q : State → Prop} {b0 L i ce sl : Nat} {xs : Nat → Int32} {σ : zS} (ni : Nat) (tx : Nat → Int) (ec : Nat) (eo : Int) (U : zSU) (S : zST) (hh : List zST) (kp : Option zST) (ou : List Nat) (v1 : Int) (v2 : Int) (v3 : Int) (W : zLW p l s m args meth c E b0 L xs) (hi : i + 6 ≤ L) (hcs : ce + 1 ≤ room_1.cells ∧ sl + 6 ≤ room_1.slots) (hR : zRel σ (zDv.mk ni tx ec eo U S hh kp ou)) (hx1 : xs (i + 1) = (zI v1)) (hx2 : xs (i + 2) = (zI v2)) (hx3 : xs (i + 3) = (zI v3)) (hbi0 : -2147483648 ≤ v1 ∧ v1 < 2147483648) (hno1 : ¬ (0 ≤ v1 ∧ v1 < U.nb))  (kk : zNx p l e s m args below meth c E Q b0 i ce sl) : zV p l e room_1 s m args below meth c 9 E Q ce sl σ 1695 (lwL b0 i E) [] := by
  refine (?_ : zV p l e room_1 s m args below meth c 9 E Q ce sl σ 1695 [(0, .ref b0), (1, .ref (ob E 0)), (2, .ref (ob E 327)), (3, .ref (ob E 339)), (4, .ref (ob E 340)), (5, .int (zI (i : Int)))] [])
  have C := W.2.1
  have hfl := W.1
  have hroom : room_1.cells = 601024 ∧ room_1.slots = 7293034 := ⟨rfl, rfl⟩
  refine zv_aload_n C 1 dL_law_1695 rfl rfl ?_
  refine zv_aload_n C 0 dL_law_1696 rfl rfl ?_
  refine zv_iload C 5 dL_law_1697 rfl ?_
  refine zv_iconst (v := zI 1) C dL_law_1699 rfl ?_
  refine zv_iaddZ C dL_law_1700 ?_
  refine zv_sld (j := i + 1) (v := (zI v1)) C W.2.2.1 W.2.2.2.1 W.2.2.2.2.1 W.2.2.2.2.2 (zI_ix (by omega)) (by omega) hx1 dL_law_1701 ?_
  refine zv_aload_n C 0 dL_law_1702 rfl rfl ?_
  refine zv_iload C 5 dL_law_1703 rfl ?_
  refine zv_iconst (v := zI 2) C dL_law_1705 rfl ?_
  refine zv_iaddZ C dL_law_1706 ?_
  refine zv_sld (j := i + 2) (v := (zI v2)) C W.2.2.1 W.2.2.2.1 W.2.2.2.2.1 W.2.2.2.2.2 (zI_ix (by omega)) (by omega) hx2 dL_law_1707 ?_
  refine zv_aload_n C 0 dL_law_1708 rfl rfl ?_
  refine zv_iload C 5 dL_law_1709 rfl ?_
  refine zv_iconst (v := zI 3) C dL_law_1711 rfl ?_
  refine zv_iaddZ C dL_law_1712 ?_
  refine zv_sld (j := i + 3) (v := (zI v3)) C W.2.2.1 W.2.2.2.1 W.2.2.2.2.1 W.2.2.2.2.2 (zI_ix (by omega)) (by omega) hx3 dL_law_1713 ?_
  refine zv_aload_n C 3 dL_law_1714 rfl rfl ?_
  refine zv_cH (st := []) C (w_x1_X10_convergent hfl E σ U v1 v2 v3 hR.1.2.2.1 (by first | assumption | omega) (by first | assumption | omega)) mL_convergent kL_262 rfl ⟨rfl, rfl⟩ (show zfit (zrx 10 244) 6 room_1 = true from rfl) (Nat.le_of_ble_eq_true rfl) dL_law_1715 ⟨by exact hcs.1, by exact hcs.2⟩ (fun r1715 τ1715 hp1715 => ?_)
  obtain ⟨hr0, hP9⟩ := hp1715
  refine zv_eqi (y := zI 1) hr0 ?_
  have hF9 : zFr 318 327 σ τ1715 := by rw [hP9]; exact (by first | exact zFr_refl _ _ _ | exact zFr_rW (zFr_refl _ _ _) (by omega) | exact zFr_rW (zFr_rW (zFr_refl _ _ _) (by omega)) (by omega) | exact qW_f _ _ _ _ | exact qM_f _ _ _ _ _ | exact rW2_f _ _ _ _ _ | exact rW3_f _ _ _ _ _ | exact alW_f _ _ _ _ _ | (split <;> first | exact zFr_refl _ _ _ | exact bW_f _ _ _ _) | assumption)
  have hR1 : zRel τ1715 (zDv.mk ni tx ec eo U S hh kp ou) := zRel_c hR hF9
  refine zv_istore (lv' := [(6, .int (zI 1)), (0, .ref b0), (1, .ref (ob E 0)), (2, .ref (ob E 327)), (3, .ref (ob E 339)), (4, .ref (ob E 340)), (5, .int (zI (i : Int)))]) C dL_law_1718  (by decide) rfl ?_
  refine zv_aload_n C 3 dL_law_1720 rfl rfl ?_
  refine zv_aload_n C 1 dL_law_1721 rfl rfl ?_
  refine zv_iload C 6 dL_law_1722 rfl ?_
  refine zv_iconst (v := zI 1) C dL_law_1724 rfl ?_
  refine zv_iaddZ C dL_law_1725 ?_
  refine zv_sld (j := i + 1) (v := (zI v1)) C W.2.2.1 W.2.2.2.1 W.2.2.2.2.1 W.2.2.2.2.2 (zI_ix (by omega)) (by omega) hx1 dL_law_1726 ?_
  refine zv_aload_n C 1 dL_law_1727 rfl rfl ?_
  refine zv_iload C 6 dL_law_1728 rfl ?_
  refine zv_iconst (v := zI 2) C dL_law_1730 rfl ?_
  refine zv_iaddZ C dL_law_1731 ?_
  refine zv_sld (j := i + 2) (v := (zI v2)) C W.2.2.1 W.2.2.2.1 W.2.2.2.2.1 W.2.2.2.2.2 (zI_ix (by omega)) (by omega) hx2 dL_law_1732 ?_
  refine zv_aload_n C 1 dL_law_1733 rfl rfl ?_
  refine zv_iload C 6 dL_law_1734 rfl ?_
  refine zv_iconst (v := zI 3) C dL_law_1736 rfl ?_
  refine zv_iaddZ C dL_law_1737 ?_
  refine zv_sld (j := i + 3) (v := (zI v3)) C W.2.2.1 W.2.2.2.1 W.2.2.2.2.1 W.2.2.2.2.2 (zI_ix (by omega)) (by omega) hx3 dL_law_1738 ?_
  refine zv_cvl (st := []) C (x1_X11_convergent hfl E τ1715 σ U v1 v2 v3 hR1.2.2.2.1 hR.1.2.2.1 (by first | assumption | omega) (by first | assumption | omega)) mX11_convergent kL_264 (by decide : kd 327 = 10) rfl rfl rfl ⟨rfl, rfl⟩ (show zfit (zrm 2 46) 25 room_1 = true from rfl) (Nat.le_of_ble_eq_true rfl) dL_law_1739 ⟨by omega, by omega⟩ (fun r1739 τ1739 hp1739 => ?_)
  obtain ⟨hr2, hK2⟩ := hp1739
  refine zv_eql (y := zL 0) hr2 ?_
  have hR2 : zRel τ1739 (zDv.mk ni tx ec eo U S hh kp ou) := zRel_m hR1 hK2
  have ht2 : gI τ1739 327 10 = zI 1 := hK2.2
  have hJ2 : gJ τ1739 339 0 = gJ τ1715 339 0 := hK2.1.2.1 339 0 (by decide)
  have hD2 : gD τ1739 340 0 = gD τ1715 340 0 := hK2.1.2.2 340 0
  refine zv_lstore (lv' := [(7, .long (zL 0)), (6, .int (zI 1)), (0, .ref b0), (1, .ref (ob E 0)), (2, .ref (ob E 327)), (3, .ref (ob E 339)), (4, .ref (ob E 340)), (5, .int (zI (i : Int)))]) C dL_law_1742  (by decide) rfl ?_
  refine zv_aload_n C 4 dL_law_1744 rfl rfl ?_
  refine zv_cviD (st := []) C (c_X11_thrown hfl E τ1739) mX11_thrown kL_200 (by decide : kd 327 = 10) rfl rfl rfl ⟨rfl, rfl⟩ (show zfit (zrm 0 0) 1 room_1 = true from rfl) (Nat.le_of_ble_eq_true rfl) dL_law_1745 ⟨by omega, by omega⟩ ?_
  refine zv_eqi (y := (zI 1)) (ht2) ?_
  refine zv_iload C 1 dL_law_1748 rfl ?_
  refine zv_icmp_eqZ (tgt := 1755) C (by omega) (by omega) dL_law_1750 (by decide) (fun h1750 => ?_) (fun h1750 => ?_)
  · skip
    refine zv_iload C 1 dL_law_1755 rfl ?_
    refine zv_if_neZ (tgt := 1771) C (by omega) dL_law_1757 (by decide) (fun h1757 => ?_) (fun h1757 => absurd h1757 (by decide))
    refine zv_goto (tgt := 3624) C dL_law_1771 (by decide) ?_
    refine zv_sub (lv' := [(0, .ref b0), (1, .ref (ob E 0)), (2, .ref (ob E 327)), (3, .ref (ob E 339)), (4, .ref (ob E 340)), (5, .int (zI (i : Int)))]) [2, 3, 4, 5, 6, 7] (zcons rfl (zcons rfl (zcons rfl (zcons rfl (zcons rfl (zcons rfl rfl)))))) ?_
    exact kk _ _ _ _ (by omega) (by omega) hR2
  · exfalso
    omega
set_option maxRecDepth 20000 in
theorem lw_convergent_x2_x2 {p : Program} {l : Launch} {e : Env} {s : State} {m : MethodId} {args : Array Value} {below : List Frame} {meth : Method} {c : Code} {E : zE} {Q : State → Prop} {b0 L i ce sl : Nat} {xs : Nat → Int32} {σ : zS} (ni : Nat) (tx : Nat → Int) (ec : Nat) (eo : Int) (U : zSU) (S : zST) (hh : List zST) (kp : Option zST) (ou : List Nat) (n1 : Nat) (v2 : Int) (v3 : Int) (W : zLW p l s m args meth c E b0 L xs) (hi : i + 6 ≤ L) (hcs : ce + 1 ≤ room_1.cells ∧ sl + 6 ≤ room_1.slots) (hR : zRel σ (zDv.mk ni tx ec eo U S hh kp ou)) (hx1 : xs (i + 1) = (zI (n1 : Int))) (hx2 : xs (i + 2) = (zI v2)) (hx3 : xs (i + 3) = (zI v3)) (hi0 : n1 < U.nb) (hyi1 : -2147483648 ≤ v2 ∧ v2 < 2147483648) (hno2 : v2 < 0) (hvr : -2147483648 ≤ v3 ∧ v3 < 2147483648) (kk : zNx p l e s m args below meth c E Q b0 i ce sl) : zV p l e room_1 s m args below meth c 9 E Q ce sl σ 1695 (lwL b0 i E) [] := by
  refine (?_ : zV p l e room_1 s m args below meth c 9 E Q ce sl σ 1695 [(0, .ref b0), (1, .ref (ob E 0)), (2, .ref (ob E 327)), (3, .ref (ob E 339)), (4, .ref (ob E 340)), (5, .int (zI (i : Int)))] [])
  have C := W.2.1
  have hfl := W.1
  have hroom : room_1.cells = 601024 ∧ room_1.slots = 7293034 := ⟨rfl, rfl⟩
  refine zv_aload_n C 1 dL_law_1695 rfl rfl ?_
  refine zv_aload_n C 0 dL_law_1696 rfl rfl ?_
  refine zv_iload C 5 dL_law_1697 rfl ?_
  refine zv_iconst (v := zI 1) C dL_law_1699 rfl ?_
  refine zv_iaddZ C dL_law_1700 ?_
  refine zv_sld (j := i + 1) (v := (zI (n1 : Int))) C W.2.2.1 W.2.2.2.1 W.2.2.2.2.1 W.2.2.2.2.2 (zI_ix (by omega)) (by omega) hx1 dL_law_1701 ?_
  refine zv_aload_n C 0 dL_law_1702 rfl rfl ?_
  refine zv_iload C 5 dL_law_1703 rfl ?_
  refine zv_iconst (v := zI 2) C dL_law_1705 rfl ?_
  refine zv_iaddZ C dL_law_1706 ?_
  refine zv_sld (j := i + 2) (v := (zI v2)) C W.2.2.1 W.2.2.2.1 W.2.2.2.2.1 W.2.2.2.2.2 (zI_ix (by omega)) (by omega) hx2 dL_law_1707 ?_
  refine zv_aload_n C 0 dL_law_1708 rfl rfl ?_
  refine zv_iload C 5 dL_law_1709 rfl ?_
  refine zv_iconst (v := zI 3) C dL_law_1711 rfl ?_
  refine zv_iaddZ C dL_law_1712 ?_
  refine zv_sld (j := i + 3) (v := (zI v3)) C W.2.2.1 W.2.2.2.1 W.2.2.2.2.1 W.2.2.2.2.2 (zI_ix (by omega)) (by omega) hx3 dL_law_1713 ?_
  refine zv_aload_n C 3 dL_law_1714 rfl rfl ?_
  refine zv_cH (st := []) C (w_x2_X10_convergent hfl E σ U n1 v2 v3 hR.1.2.2.1 (by first | assumption | omega) (by first | assumption | omega) (by first | assumption | omega)) mL_convergent kL_262 rfl ⟨rfl, rfl⟩ (show zfit (zrx 10 244) 6 room_1 = true from rfl) (Nat.le_of_ble_eq_true rfl) dL_law_1715 ⟨by exact hcs.1, by exact hcs.2⟩ (fun r1715 τ1715 hp1715 => ?_)
  obtain ⟨hr0, hP9⟩ := hp1715
  refine zv_eqi (y := zI 2) hr0 ?_
  have hF9 : zFr 318 327 σ τ1715 := by rw [hP9]; exact (by first | exact zFr_refl _ _ _ | exact zFr_rW (zFr_refl _ _ _) (by omega) | exact zFr_rW (zFr_rW (zFr_refl _ _ _) (by omega)) (by omega) | exact qW_f _ _ _ _ | exact qM_f _ _ _ _ _ | exact rW2_f _ _ _ _ _ | exact rW3_f _ _ _ _ _ | exact alW_f _ _ _ _ _ | (split <;> first | exact zFr_refl _ _ _ | exact bW_f _ _ _ _) | assumption)
  have hR1 : zRel τ1715 (zDv.mk ni tx ec eo U S hh kp ou) := zRel_c hR hF9
  refine zv_istore (lv' := [(6, .int (zI 2)), (0, .ref b0), (1, .ref (ob E 0)), (2, .ref (ob E 327)), (3, .ref (ob E 339)), (4, .ref (ob E 340)), (5, .int (zI (i : Int)))]) C dL_law_1718  (by decide) rfl ?_
  refine zv_aload_n C 3 dL_law_1720 rfl rfl ?_
  refine zv_aload_n C 1 dL_law_1721 rfl rfl ?_
  refine zv_iload C 6 dL_law_1722 rfl ?_
  refine zv_iconst (v := zI 1) C dL_law_1724 rfl ?_
  refine zv_iaddZ C dL_law_1725 ?_
  refine zv_sld (j := i + 1) (v := (zI (n1 : Int))) C W.2.2.1 W.2.2.2.1 W.2.2.2.2.1 W.2.2.2.2.2 (zI_ix (by omega)) (by omega) hx1 dL_law_1726 ?_
  refine zv_aload_n C 1 dL_law_1727 rfl rfl ?_
  refine zv_iload C 6 dL_law_1728 rfl ?_
  refine zv_iconst (v := zI 2) C dL_law_1730 rfl ?_
  refine zv_iaddZ C dL_law_1731 ?_
  refine zv_sld (j := i + 2) (v := (zI v2)) C W.2.2.1 W.2.2.2.1 W.2.2.2.2.1 W.2.2.2.2.2 (zI_ix (by omega)) (by omega) hx2 dL_law_1732 ?_
  refine zv_aload_n C 1 dL_law_1733 rfl rfl ?_
  refine zv_iload C 6 dL_law_1734 rfl ?_
  refine zv_iconst (v := zI 3) C dL_law_1736 rfl ?_
  refine zv_iaddZ C dL_law_1737 ?_
  refine zv_sld (j := i + 3) (v := (zI v3)) C W.2.2.1 W.2.2.2.1 W.2.2.2.2.1 W.2.2.2.2.2 (zI_ix (by omega)) (by omega) hx3 dL_law_1738 ?_
  refine zv_cvl (st := []) C (x2_X11_convergent hfl E τ1715 σ U n1 v2 v3 hR1.2.2.2.1 hR.1.2.2.1 (by first | assumption | omega) (by first | assumption | omega) (by first | assumption | omega) (by first | assumption | omega)) mX11_convergent kL_264 (by decide : kd 327 = 10) rfl rfl rfl ⟨rfl, rfl⟩ (show zfit (zrm 2 46) 25 room_1 = true from rfl) (Nat.le_of_ble_eq_true rfl) dL_law_1739 ⟨by omega, by omega⟩ (fun r1739 τ1739 hp1739 => ?_)
  obtain ⟨hr2, hK2⟩ := hp1739
  refine zv_eql (y := zL 0) hr2 ?_
  have hR2 : zRel τ1739 (zDv.mk ni tx ec eo U S hh kp ou) := zRel_m hR1 hK2
  have ht2 : gI τ1739 327 10 = zI 2 := hK2.2
  have hJ2 : gJ τ1739 339 0 = gJ τ1715 339 0 := hK2.1.2.1 339 0 (by decide)
  have hD2 : gD τ1739 340 0 = gD τ1715 340 0 := hK2.1.2.2 340 0
  refine zv_lstore (lv' := [(7, .long (zL 0)), (6, .int (zI 2)), (0, .ref b0), (1, .ref (ob E 0)), (2, .ref (ob E 327)), (3, .ref (ob E 339)), (4, .ref (ob E 340)), (5, .int (zI (i : Int)))]) C dL_law_1742  (by decide) rfl ?_
  refine zv_aload_n C 4 dL_law_1744 rfl rfl ?_
  refine zv_cviD (st := []) C (c_X11_thrown hfl E τ1739) mX11_thrown kL_200 (by decide : kd 327 = 10) rfl rfl rfl ⟨rfl, rfl⟩ (show zfit (zrm 0 0) 1 room_1 = true from rfl) (Nat.le_of_ble_eq_true rfl) dL_law_1745 ⟨by omega, by omega⟩ ?_
  refine zv_eqi (y := (zI 2)) (ht2) ?_
  refine zv_iload C 1 dL_law_1748 rfl ?_
  refine zv_icmp_eqZ (tgt := 1755) C (by omega) (by omega) dL_law_1750 (by decide) (fun h1750 => ?_) (fun h1750 => ?_)
  · skip
    refine zv_iload C 1 dL_law_1755 rfl ?_
    refine zv_if_neZ (tgt := 1771) C (by omega) dL_law_1757 (by decide) (fun h1757 => ?_) (fun h1757 => absurd h1757 (by decide))
    refine zv_goto (tgt := 3624) C dL_law_1771 (by decide) ?_
    refine zv_sub (lv' := [(0, .ref b0), (1, .ref (ob E 0)), (2, .ref (ob E 327)), (3, .ref (ob E 339)), (4, .ref (ob E 340)), (5, .int (zI (i : Int)))]) [2, 3, 4, 5, 6, 7] (zcons rfl (zcons rfl (zcons rfl (zcons rfl (zcons rfl (zcons rfl rfl)))))) ?_
    exact kk _ _ _ _ (by omega) (by omega) hR2
  · exfalso
    omega
set_option maxRecDepth 20000 in
theorem lw_convergent_x3_x2 {p : Program} {l : Launch} {e : Env} {s : State} {m : MethodId} {args : Array Value} {below : List Frame} {meth : Method} {c : Code} {E : zE} {Q : State → Prop} {b0 L i ce sl : Nat} {xs : Nat → Int32} {σ : zS} (ni : Nat) (tx : Nat → Int) (ec : Nat) (eo : Int) (U : zSU) (S : zST) (hh : List zST) (kp : Option zST) (ou : List Nat) (n1 : Nat) (v2 : Int) (v3 : Int) (W : zLW p l s m args meth c E b0 L xs) (hi : i + 6 ≤ L) (hcs : ce + 1 ≤ room_1.cells ∧ sl + 6 ≤ room_1.slots) (hR : zRel σ (zDv.mk ni tx ec eo U S hh kp ou)) (hx1 : xs (i + 1) = (zI (n1 : Int))) (hx2 : xs (i + 2) = (zI v2)) (hx3 : xs (i + 3) = (zI v3)) (hi0 : n1 < U.nb) (hyi1 : -2147483648 ≤ v2 ∧ v2 < 2147483648) (hy2 : 0 ≤ v2) (hzi3 : -2147483648 ≤ v3 ∧ v3 < 2147483648) (hno4 : ¬ (0 ≤ v3 ∧ v3 ≤ 1))  (kk : zNx p l e s m args below meth c E Q b0 i ce sl) : zV p l e room_1 s m args below meth c 9 E Q ce sl σ 1695 (lwL b0 i E) [] := by
  refine (?_ : zV p l e room_1 s m args below meth c 9 E Q ce sl σ 1695 [(0, .ref b0), (1, .ref (ob E 0)), (2, .ref (ob E 327)), (3, .ref (ob E 339)), (4, .ref (ob E 340)), (5, .int (zI (i : Int)))] [])
  have C := W.2.1
  have hfl := W.1
  have hroom : room_1.cells = 601024 ∧ room_1.slots = 7293034 := ⟨rfl, rfl⟩
  refine zv_aload_n C 1 dL_law_1695 rfl rfl ?_
  refine zv_aload_n C 0 dL_law_1696 rfl rfl ?_
  refine zv_iload C 5 dL_law_1697 rfl ?_
  refine zv_iconst (v := zI 1) C dL_law_1699 rfl ?_
  refine zv_iaddZ C dL_law_1700 ?_
  refine zv_sld (j := i + 1) (v := (zI (n1 : Int))) C W.2.2.1 W.2.2.2.1 W.2.2.2.2.1 W.2.2.2.2.2 (zI_ix (by omega)) (by omega) hx1 dL_law_1701 ?_
  refine zv_aload_n C 0 dL_law_1702 rfl rfl ?_
  refine zv_iload C 5 dL_law_1703 rfl ?_
  refine zv_iconst (v := zI 2) C dL_law_1705 rfl ?_
  refine zv_iaddZ C dL_law_1706 ?_
  refine zv_sld (j := i + 2) (v := (zI v2)) C W.2.2.1 W.2.2.2.1 W.2.2.2.2.1 W.2.2.2.2.2 (zI_ix (by omega)) (by omega) hx2 dL_law_1707 ?_
  refine zv_aload_n C 0 dL_law_1708 rfl rfl ?_
  refine zv_iload C 5 dL_law_1709 rfl ?_
  refine zv_iconst (v := zI 3) C dL_law_1711 rfl ?_
  refine zv_iaddZ C dL_law_1712 ?_
  refine zv_sld (j := i + 3) (v := (zI v3)) C W.2.2.1 W.2.2.2.1 W.2.2.2.2.1 W.2.2.2.2.2 (zI_ix (by omega)) (by omega) hx3 dL_law_1713 ?_
  refine zv_aload_n C 3 dL_law_1714 rfl rfl ?_
  refine zv_cH (st := []) C (w_x3_X10_convergent hfl E σ U n1 v2 v3 hR.1.2.2.1 (by first | assumption | omega) (by first | assumption | omega) (by first | assumption | omega) (by first | assumption | omega) (by first | assumption | omega)) mL_convergent kL_262 rfl ⟨rfl, rfl⟩ (show zfit (zrx 10 244) 6 room_1 = true from rfl) (Nat.le_of_ble_eq_true rfl) dL_law_1715 ⟨by exact hcs.1, by exact hcs.2⟩ (fun r1715 τ1715 hp1715 => ?_)
  obtain ⟨hr0, hP9⟩ := hp1715
  refine zv_eqi (y := zI 2) hr0 ?_
  have hF9 : zFr 318 327 σ τ1715 := by rw [hP9]; exact (by first | exact zFr_refl _ _ _ | exact zFr_rW (zFr_refl _ _ _) (by omega) | exact zFr_rW (zFr_rW (zFr_refl _ _ _) (by omega)) (by omega) | exact qW_f _ _ _ _ | exact qM_f _ _ _ _ _ | exact rW2_f _ _ _ _ _ | exact rW3_f _ _ _ _ _ | exact alW_f _ _ _ _ _ | (split <;> first | exact zFr_refl _ _ _ | exact bW_f _ _ _ _) | assumption)
  have hR1 : zRel τ1715 (zDv.mk ni tx ec eo U S hh kp ou) := zRel_c hR hF9
  refine zv_istore (lv' := [(6, .int (zI 2)), (0, .ref b0), (1, .ref (ob E 0)), (2, .ref (ob E 327)), (3, .ref (ob E 339)), (4, .ref (ob E 340)), (5, .int (zI (i : Int)))]) C dL_law_1718  (by decide) rfl ?_
  refine zv_aload_n C 3 dL_law_1720 rfl rfl ?_
  refine zv_aload_n C 1 dL_law_1721 rfl rfl ?_
  refine zv_iload C 6 dL_law_1722 rfl ?_
  refine zv_iconst (v := zI 1) C dL_law_1724 rfl ?_
  refine zv_iaddZ C dL_law_1725 ?_
  refine zv_sld (j := i + 1) (v := (zI (n1 : Int))) C W.2.2.1 W.2.2.2.1 W.2.2.2.2.1 W.2.2.2.2.2 (zI_ix (by omega)) (by omega) hx1 dL_law_1726 ?_
  refine zv_aload_n C 1 dL_law_1727 rfl rfl ?_
  refine zv_iload C 6 dL_law_1728 rfl ?_
  refine zv_iconst (v := zI 2) C dL_law_1730 rfl ?_
  refine zv_iaddZ C dL_law_1731 ?_
  refine zv_sld (j := i + 2) (v := (zI v2)) C W.2.2.1 W.2.2.2.1 W.2.2.2.2.1 W.2.2.2.2.2 (zI_ix (by omega)) (by omega) hx2 dL_law_1732 ?_
  refine zv_aload_n C 1 dL_law_1733 rfl rfl ?_
  refine zv_iload C 6 dL_law_1734 rfl ?_
  refine zv_iconst (v := zI 3) C dL_law_1736 rfl ?_
  refine zv_iaddZ C dL_law_1737 ?_
  refine zv_sld (j := i + 3) (v := (zI v3)) C W.2.2.1 W.2.2.2.1 W.2.2.2.2.1 W.2.2.2.2.2 (zI_ix (by omega)) (by omega) hx3 dL_law_1738 ?_
  refine zv_cvl (st := []) C (x2_X11_convergent hfl E τ1715 σ U n1 v2 v3 hR1.2.2.2.1 hR.1.2.2.1 (by first | assumption | omega) (by first | assumption | omega) (by first | assumption | omega) (by first | assumption | omega)) mX11_convergent kL_264 (by decide : kd 327 = 10) rfl rfl rfl ⟨rfl, rfl⟩ (show zfit (zrm 2 46) 25 room_1 = true from rfl) (Nat.le_of_ble_eq_true rfl) dL_law_1739 ⟨by omega, by omega⟩ (fun r1739 τ1739 hp1739 => ?_)
  obtain ⟨hr2, hK2⟩ := hp1739
  refine zv_eql (y := zL 0) hr2 ?_
  have hR2 : zRel τ1739 (zDv.mk ni tx ec eo U S hh kp ou) := zRel_m hR1 hK2
  have ht2 : gI τ1739 327 10 = zI 2 := hK2.2
  have hJ2 : gJ τ1739 339 0 = gJ τ1715 339 0 := hK2.1.2.1 339 0 (by decide)
  have hD2 : gD τ1739 340 0 = gD τ1715 340 0 := hK2.1.2.2 340 0
  refine zv_lstore (lv' := [(7, .long (zL 0)), (6, .int (zI 2)), (0, .ref b0), (1, .ref (ob E 0)), (2, .ref (ob E 327)), (3, .ref (ob E 339)), (4, .ref (ob E 340)), (5, .int (zI (i : Int)))]) C dL_law_1742  (by decide) rfl ?_
  refine zv_aload_n C 4 dL_law_1744 rfl rfl ?_
  refine zv_cviD (st := []) C (c_X11_thrown hfl E τ1739) mX11_thrown kL_200 (by decide : kd 327 = 10) rfl rfl rfl ⟨rfl, rfl⟩ (show zfit (zrm 0 0) 1 room_1 = true from rfl) (Nat.le_of_ble_eq_true rfl) dL_law_1745 ⟨by omega, by omega⟩ ?_
  refine zv_eqi (y := (zI 2)) (ht2) ?_
  refine zv_iload C 1 dL_law_1748 rfl ?_
  refine zv_icmp_eqZ (tgt := 1755) C (by omega) (by omega) dL_law_1750 (by decide) (fun h1750 => ?_) (fun h1750 => ?_)
  · skip
    refine zv_iload C 1 dL_law_1755 rfl ?_
    refine zv_if_neZ (tgt := 1771) C (by omega) dL_law_1757 (by decide) (fun h1757 => ?_) (fun h1757 => absurd h1757 (by decide))
    refine zv_goto (tgt := 3624) C dL_law_1771 (by decide) ?_
    refine zv_sub (lv' := [(0, .ref b0), (1, .ref (ob E 0)), (2, .ref (ob E 327)), (3, .ref (ob E 339)), (4, .ref (ob E 340)), (5, .int (zI (i : Int)))]) [2, 3, 4, 5, 6, 7] (zcons rfl (zcons rfl (zcons rfl (zcons rfl (zcons rfl (zcons rfl rfl)))))) ?_
    exact kk _ _ _ _ (by omega) (by omega) hR2
  · exfalso
    omega
theorem LK_25 {p : Program} {l : Launch} {e : Env} {s : State} {m : MethodId} {args : Array Value} {below : List Frame} {meth : Method} {c : Code} {E : zE} {Q : State → Prop} {b0 L i ce sl : Nat} {xs : Nat → Int32} {σ : zS} (ni : Nat) (tx : Nat → Int) (ec : Nat) (eo : Int) (U : zSU) (S : zST) (hh : List zST) (kp : Option zST) (ou : List Nat) (hFN : zFN) (W : zLW p l s m args meth c E b0 L xs) (hi : i + 6 ≤ L) (hcs : ce + 1 ≤ room_1.cells ∧ sl + 6 ≤ room_1.slots) (hR : zRel σ (zDv.mk ni tx ec eo U S hh kp ou)) (kk : zNx p l e s m args below meth c E Q b0 i ce sl) : zV p l e room_1 s m args below meth c 9 E Q ce sl σ 1695 (lwL b0 i E) [] := by
  obtain ⟨v1, hx1, hv1⟩ := zI_cov (xs (i + 1))
  obtain ⟨v2, hx2, hv2⟩ := zI_cov (xs (i + 2))
  obtain ⟨v3, hx3, hv3⟩ := zI_cov (xs (i + 3))
  by_cases g1 : 0 ≤ v1 ∧ v1 < U.nb
  case neg =>
    exact lw_convergent_x1_x1 _ _ _ _ _ _ _ _ _ _ _ _ W hi hcs hR hx1 hx2 hx3 (by first | assumption | omega) (by first | assumption | omega) kk
  obtain ⟨n1, rfl⟩ := Int.eq_ofNat_of_zero_le (show 0 ≤ v1 by omega)
  by_cases g2 : ¬ v2 < 0
  case neg =>
    exact lw_convergent_x2_x2 _ _ _ _ _ _ _ _ _ _ _ _ W hi hcs hR hx1 hx2 hx3 (by first | assumption | omega) (by first | assumption | omega) (by first | assumption | omega) (by first | assumption | omega) kk
  by_cases g3 : 0 ≤ v3 ∧ v3 ≤ 1
  case neg =>
    exact lw_convergent_x3_x2 _ _ _ _ _ _ _ _ _ _ _ _ W hi hcs hR hx1 hx2 hx3 (by first | assumption | omega) (by first | assumption | omega) (by first | assumption | omega) (by first | assumption | omega) (by first | assumption | omega) kk
  obtain ⟨n2, rfl⟩ := Int.eq_ofNat_of_zero_le (show 0 ≤ v2 by omega)
  exact lw_convergent_c_c _ _ _ _ _ _ _ _ _ _ _ _ W hi hcs hR hx1 hx2 hx3 (by first | assumption | omega) (by first | assumption | omega) (by first | assumption | omega) kk
theorem dL_law_1774 : decode cL_law 1774 = .ok (.aload_n 1, 1) := by decide +kernel
theorem dL_law_1775 : decode cL_law 1775 = .ok (.aload_n 0, 1) := by decide +kernel
theorem dL_law_1776 : decode cL_law 1776 = .ok (.iload 5, 2) := by decide +kernel
theorem dL_law_1778 : decode cL_law 1778 = .ok (.iconst 1, 1) := by decide +kernel
theorem dL_law_1779 : decode cL_law 1779 = .ok (.iadd, 1) := by decide +kernel
theorem dL_law_1780 : decode cL_law 1780 = .ok (.iaload, 1) := by decide +kernel
theorem dL_law_1781 : decode cL_law 1781 = .ok (.aload_n 0, 1) := by decide +kernel
theorem dL_law_1782 : decode cL_law 1782 = .ok (.iload 5, 2) := by decide +kernel
theorem dL_law_1784 : decode cL_law 1784 = .ok (.iconst 2, 1) := by decide +kernel
theorem dL_law_1785 : decode cL_law 1785 = .ok (.iadd, 1) := by decide +kernel
theorem dL_law_1786 : decode cL_law 1786 = .ok (.iaload, 1) := by decide +kernel
theorem dL_law_1787 : decode cL_law 1787 = .ok (.aload_n 0, 1) := by decide +kernel
theorem dL_law_1788 : decode cL_law 1788 = .ok (.iload 5, 2) := by decide +kernel
theorem dL_law_1790 : decode cL_law 1790 = .ok (.iconst 3, 1) := by decide +kernel
theorem dL_law_1791 : decode cL_law 1791 = .ok (.iadd, 1) := by decide +kernel
theorem dL_law_1792 : decode cL_law 1792 = .ok (.iaload, 1) := by decide +kernel
theorem dL_law_1793 : decode cL_law 1793 = .ok (.aload_n 3, 1) := by decide +kernel
theorem dL_law_1794 : decode cL_law 1794 = .ok (.invokestatic 265, 3) := by decide +kernel
theorem dL_law_1797 : decode cL_law 1797 = .ok (.istore 6, 2) := by decide +kernel
theorem dL_law_1799 : decode cL_law 1799 = .ok (.aload_n 2, 1) := by decide +kernel
theorem dL_law_1800 : decode cL_law 1800 = .ok (.aload_n 0, 1) := by decide +kernel
theorem dL_law_1801 : decode cL_law 1801 = .ok (.iload 5, 2) := by decide +kernel
theorem dL_law_1803 : decode cL_law 1803 = .ok (.iconst 1, 1) := by decide +kernel
theorem dL_law_1804 : decode cL_law 1804 = .ok (.iadd, 1) := by decide +kernel
theorem dL_law_1805 : decode cL_law 1805 = .ok (.iaload, 1) := by decide +kernel
theorem dL_law_1806 : decode cL_law 1806 = .ok (.aload_n 0, 1) := by decide +kernel
theorem dL_law_1807 : decode cL_law 1807 = .ok (.iload 5, 2) := by decide +kernel
theorem dL_law_1809 : decode cL_law 1809 = .ok (.iconst 2, 1) := by decide +kernel
theorem dL_law_1810 : decode cL_law 1810 = .ok (.iadd, 1) := by decide +kernel
theorem dL_law_1811 : decode cL_law 1811 = .ok (.iaload, 1) := by decide +kernel
theorem dL_law_1812 : decode cL_law 1812 = .ok (.aload_n 0, 1) := by decide +kernel
theorem dL_law_1813 : decode cL_law 1813 = .ok (.iload 5, 2) := by decide +kernel
theorem dL_law_1815 : decode cL_law 1815 = .ok (.iconst 3, 1) := by decide +kernel
theorem dL_law_1816 : decode cL_law 1816 = .ok (.iadd, 1) := by decide +kernel
theorem dL_law_1817 : decode cL_law 1817 = .ok (.iaload, 1) := by decide +kernel
theorem dL_law_1818 : decode cL_law 1818 = .ok (.invokevirtual 267, 3) := by decide +kernel
theorem dL_law_1821 : decode cL_law 1821 = .ok (.istore 7, 2) := by decide +kernel
theorem dL_law_1823 : decode cL_law 1823 = .ok (.aload_n 2, 1) := by decide +kernel
theorem dL_law_1824 : decode cL_law 1824 = .ok (.invokevirtual 200, 3) := by decide +kernel
theorem dL_law_1827 : decode cL_law 1827 = .ok (.iload 6, 2) := by decide +kernel
theorem dL_law_1829 : decode cL_law 1829 = .ok (.if_icmp .eq 5, 3) := by decide +kernel
theorem dL_law_1832 : decode cL_law 1832 = .ok (.iconst 0, 1) := by decide +kernel
theorem dL_law_1833 : decode cL_law 1833 = .ok (.ireturn, 1) := by decide +kernel
theorem dL_law_1834 : decode cL_law 1834 = .ok (.iload 6, 2) := by decide +kernel
theorem dL_law_1836 : decode cL_law 1836 = .ok (.ifCond .ne 15, 3) := by decide +kernel
theorem dL_law_1839 : decode cL_law 1839 = .ok (.aload_n 3, 1) := by decide +kernel
theorem dL_law_1840 : decode cL_law 1840 = .ok (.iconst 0, 1) := by decide +kernel
theorem dL_law_1841 : decode cL_law 1841 = .ok (.laload, 1) := by decide +kernel
theorem dL_law_1842 : decode cL_law 1842 = .ok (.iload 7, 2) := by decide +kernel
theorem dL_law_1844 : decode cL_law 1844 = .ok (.i2l, 1) := by decide +kernel
theorem dL_law_1845 : decode cL_law 1845 = .ok (.lcmp, 1) := by decide +kernel
theorem dL_law_1846 : decode cL_law 1846 = .ok (.ifCond .eq 5, 3) := by decide +kernel
theorem dL_law_1849 : decode cL_law 1849 = .ok (.iconst 0, 1) := by decide +kernel
theorem dL_law_1850 : decode cL_law 1850 = .ok (.ireturn, 1) := by decide +kernel
theorem dL_law_1851 : decode cL_law 1851 = .ok (.goto 1773, 3) := by decide +kernel
set_option maxRecDepth 20000 in
theorem lw_bestFraction_c_c {p : Program} {l : Launch} {e : Env} {s : State} {m : MethodId} {args : Array Value} {below : List Frame} {meth : Method} {c : Code} {E : zE} {Q : State → Prop} {b0 L i ce sl : Nat} {xs : Nat → Int32} {σ : zS} (ni : Nat) (tx : Nat → Int) (ec : Nat) (eo : Int) (U : zSU) (S : zST) (hh : List zST) (kp : Option zST) (ou : List Nat) (n1 : Nat) (n2 : Nat) (v3 : Int) (W : zLW p l s m args meth c E b0 L xs) (hi : i + 6 ≤ L) (hcs : ce + 1 ≤ room_1.cells ∧ sl + 6 ≤ room_1.slots) (hR : zRel σ (zDv.mk ni tx ec eo U S hh kp ou)) (hx1 : xs (i + 1) = (zI (n1 : Int))) (hx2 : xs (i + 2) = (zI (n2 : Int))) (hx3 : xs (i + 3) = (zI v3)) (hi0 : n1 < U.nb) (hL1 : 1 ≤ n2 ∧ n2 ≤ 10000) (hw2 : v3 = 0 ∨ v3 = 1)  (kk : zNx p l e s m args below meth c E Q b0 i ce sl) : zV p l e room_1 s m args below meth c 9 E Q ce sl σ 1774 (lwL b0 i E) [] := by
  refine (?_ : zV p l e room_1 s m args below meth c 9 E Q ce sl σ 1774 [(0, .ref b0), (1, .ref (ob E 0)), (2, .ref (ob E 327)), (3, .ref (ob E 339)), (4, .ref (ob E 340)), (5, .int (zI (i : Int)))] [])
  have C := W.2.1
  have hfl := W.1
  have hroom : room_1.cells = 601024 ∧ room_1.slots = 7293034 := ⟨rfl, rfl⟩
  refine zv_aload_n C 1 dL_law_1774 rfl rfl ?_
  refine zv_aload_n C 0 dL_law_1775 rfl rfl ?_
  refine zv_iload C 5 dL_law_1776 rfl ?_
  refine zv_iconst (v := zI 1) C dL_law_1778 rfl ?_
  refine zv_iaddZ C dL_law_1779 ?_
  refine zv_sld (j := i + 1) (v := (zI (n1 : Int))) C W.2.2.1 W.2.2.2.1 W.2.2.2.2.1 W.2.2.2.2.2 (zI_ix (by omega)) (by omega) hx1 dL_law_1780 ?_
  refine zv_aload_n C 0 dL_law_1781 rfl rfl ?_
  refine zv_iload C 5 dL_law_1782 rfl ?_
  refine zv_iconst (v := zI 2) C dL_law_1784 rfl ?_
  refine zv_iaddZ C dL_law_1785 ?_
  refine zv_sld (j := i + 2) (v := (zI (n2 : Int))) C W.2.2.1 W.2.2.2.1 W.2.2.2.2.1 W.2.2.2.2.2 (zI_ix (by omega)) (by omega) hx2 dL_law_1786 ?_
  refine zv_aload_n C 0 dL_law_1787 rfl rfl ?_
  refine zv_iload C 5 dL_law_1788 rfl ?_
  refine zv_iconst (v := zI 3) C dL_law_1790 rfl ?_
  refine zv_iaddZ C dL_law_1791 ?_
  refine zv_sld (j := i + 3) (v := (zI v3)) C W.2.2.1 W.2.2.2.1 W.2.2.2.2.1 W.2.2.2.2.2 (zI_ix (by omega)) (by omega) hx3 dL_law_1792 ?_
  refine zv_aload_n C 3 dL_law_1793 rfl rfl ?_
  refine zv_cH (st := []) C (w_c_X10_bestFraction hfl E σ U n1 n2 v3 hR.1.2.2.1 (by first | assumption | omega) (by first | assumption | omega) (by first | assumption | omega)) mL_bestFraction kL_265 rfl ⟨rfl, rfl⟩ (show zfit (zrm 4 97) 6 room_1 = true from rfl) (Nat.le_of_ble_eq_true rfl) dL_law_1794 ⟨by omega, by omega⟩ (fun r1794 τ1794 hp1794 => ?_)
  obtain ⟨hr0, v9, υ9, hP9, hτ9⟩ := hp1794
  refine zv_eqi (y := zI 0) hr0 ?_
  obtain ⟨hv9, hW9⟩ := hP9
  have hF9 : zFr 318 327 σ υ9 := by first | exact hW9 | (rw [hW9]; exact (by first | exact zFr_refl _ _ _ | exact zFr_rW (zFr_refl _ _ _) (by omega) | exact zFr_rW (zFr_rW (zFr_refl _ _ _) (by omega)) (by omega) | exact qW_f _ _ _ _ | exact qM_f _ _ _ _ _ | exact rW2_f _ _ _ _ _ | exact rW3_f _ _ _ _ _ | exact alW_f _ _ _ _ _ | (split <;> first | exact zFr_refl _ _ _ | exact bW_f _ _ _ _) | assumption))
  have hR1 : zRel τ1794 (zDv.mk ni tx ec eo U S hh kp ou) := by rw [hτ9]; exact zRel_J (zRel_c hR hF9) _
  have ho9 : gJ τ1794 339 0 = v9.toInt64 := by rw [hτ9, gJ_sJ, if_pos ⟨rfl, rfl⟩]
  rw [hv9] at ho9
  refine zv_istore (lv' := [(6, .int (zI 0)), (0, .ref b0), (1, .ref (ob E 0)), (2, .ref (ob E 327)), (3, .ref (ob E 339)), (4, .ref (ob E 340)), (5, .int (zI (i : Int)))]) C dL_law_1797  (by decide) rfl ?_
  refine zv_aload_n C 3 dL_law_1799 rfl rfl ?_
  refine zv_aload_n C 1 dL_law_1800 rfl rfl ?_
  refine zv_iload C 6 dL_law_1801 rfl ?_
  refine zv_iconst (v := zI 1) C dL_law_1803 rfl ?_
  refine zv_iaddZ C dL_law_1804 ?_
  refine zv_sld (j := i + 1) (v := (zI (n1 : Int))) C W.2.2.1 W.2.2.2.1 W.2.2.2.2.1 W.2.2.2.2.2 (zI_ix (by omega)) (by omega) hx1 dL_law_1805 ?_
  refine zv_aload_n C 1 dL_law_1806 rfl rfl ?_
  refine zv_iload C 6 dL_law_1807 rfl ?_
  refine zv_iconst (v := zI 2) C dL_law_1809 rfl ?_
  refine zv_iaddZ C dL_law_1810 ?_
  refine zv_sld (j := i + 2) (v := (zI (n2 : Int))) C W.2.2.1 W.2.2.2.1 W.2.2.2.2.1 W.2.2.2.2.2 (zI_ix (by omega)) (by omega) hx2 dL_law_1811 ?_
  refine zv_aload_n C 1 dL_law_1812 rfl rfl ?_
  refine zv_iload C 6 dL_law_1813 rfl ?_
  refine zv_iconst (v := zI 3) C dL_law_1815 rfl ?_
  refine zv_iaddZ C dL_law_1816 ?_
  refine zv_sld (j := i + 3) (v := (zI v3)) C W.2.2.1 W.2.2.2.1 W.2.2.2.2.1 W.2.2.2.2.2 (zI_ix (by omega)) (by omega) hx3 dL_law_1817 ?_
  refine zv_cvi (st := []) C (c_X11_bestFraction hfl E τ1794 σ U n1 n2 v3 hR1.2.2.2.1 hR.1.2.2.1 (by first | assumption | omega) (by first | assumption | omega) (by first | assumption | omega)) mX11_bestFraction kL_267 (by decide : kd 327 = 10) rfl rfl rfl ⟨rfl, rfl⟩ (show zfit (zrm 2 46) 14 room_1 = true from rfl) (Nat.le_of_ble_eq_true rfl) dL_law_1818 ⟨by omega, by omega⟩ (fun r1818 τ1818 hp1818 => ?_)
  obtain ⟨hr2, hK2⟩ := hp1818
  refine zv_eqi (y := zI (dBf (U.pe n1) n2 v3)) hr2 ?_
  have hR2 : zRel τ1818 (zDv.mk ni tx ec eo U S hh kp ou) := zRel_m hR1 hK2
  have ht2 : gI τ1818 327 10 = zI 0 := hK2.2
  have hJ2 : gJ τ1818 339 0 = gJ τ1794 339 0 := hK2.1.2.1 339 0 (by decide)
  have hD2 : gD τ1818 340 0 = gD τ1794 340 0 := hK2.1.2.2 340 0
  refine zv_istore (lv' := [(7, .int (zI (dBf (U.pe n1) n2 v3))), (6, .int (zI 0)), (0, .ref b0), (1, .ref (ob E 0)), (2, .ref (ob E 327)), (3, .ref (ob E 339)), (4, .ref (ob E 340)), (5, .int (zI (i : Int)))]) C dL_law_1821  (by decide) rfl ?_
  refine zv_aload_n C 4 dL_law_1823 rfl rfl ?_
  refine zv_cviD (st := []) C (c_X11_thrown hfl E τ1818) mX11_thrown kL_200 (by decide : kd 327 = 10) rfl rfl rfl ⟨rfl, rfl⟩ (show zfit (zrm 0 0) 1 room_1 = true from rfl) (Nat.le_of_ble_eq_true rfl) dL_law_1824 ⟨by omega, by omega⟩ ?_
  refine zv_eqi (y := (zI 0)) (ht2) ?_
  refine zv_iload C 1 dL_law_1827 rfl ?_
  refine zv_icmp_eqZ (tgt := 1834) C (by omega) (by omega) dL_law_1829 (by decide) (fun h1829 => ?_) (fun h1829 => ?_)
  · skip
    refine zv_iload C 1 dL_law_1834 rfl ?_
    refine zv_if_neZ (tgt := 1851) C (by omega) dL_law_1836 (by decide) (fun h1836 => absurd h1836 (by decide)) (fun h1836 => ?_)
    refine zv_aload_n C 5 dL_law_1839 rfl rfl ?_
    refine zv_iconst (v := zI 0) C dL_law_1840 rfl ?_
    refine zv_lald (j := 0) C (by decide : kd 339 = _) (zI_ix (by omega)) (by decide) dL_law_1841 ?_
    refine zv_eql (y := ((zI (dBf (U.pe n1) n2 v3)).toInt64)) (hJ2.trans ho9) ?_
    refine zv_iload C 0 dL_law_1842 rfl ?_
    refine zv_i2l C dL_law_1844 ?_
    refine zv_lc_eq (tgt := 1851) C dL_law_1845 dL_law_1846 (by decide) (fun h1845 => ?_) (fun h1845 => ?_)
    · skip
      refine zv_goto (tgt := 3624) C dL_law_1851 (by decide) ?_
      refine zv_sub (lv' := [(0, .ref b0), (1, .ref (ob E 0)), (2, .ref (ob E 327)), (3, .ref (ob E 339)), (4, .ref (ob E 340)), (5, .int (zI (i : Int)))]) [2, 3, 4, 5, 6, 7] (zcons rfl (zcons rfl (zcons rfl (zcons rfl (zcons rfl (zcons rfl rfl)))))) ?_
      exact kk _ _ _ _ (by omega) (by omega) hR2
    · exfalso
      exact h1845 rfl
  · exfalso
    omega
set_option maxRecDepth 20000 in
theorem lw_bestFraction_x1_x1 {p : Program} {l : Launch} {e : Env} {s : State} {m : MethodId} {args : Array Value} {below : List Frame} {meth : Method} {c : Code} {E : zE} {Q : State → Prop} {b0 L i ce sl : Nat} {xs : Nat → Int32} {σ : zS} (ni : Nat) (tx : Nat → Int) (ec : Nat) (eo : Int) (U : zSU) (S : zST) (hh : List zST) (kp : Option zST) (ou : List Nat) (v1 : Int) (v2 : Int) (v3 : Int) (W : zLW p l s m args meth c E b0 L xs) (hi : i + 6 ≤ L) (hcs : ce + 1 ≤ room_1.cells ∧ sl + 6 ≤ room_1.slots) (hR : zRel σ (zDv.mk ni tx ec eo U S hh kp ou)) (hx1 : xs (i + 1) = (zI v1)) (hx2 : xs (i + 2) = (zI v2)) (hx3 : xs (i + 3) = (zI v3)) (hbi0 : -2147483648 ≤ v1 ∧ v1 < 2147483648) (hno1 : ¬ (0 ≤ v1 ∧ v1 < U.nb))  (kk : zNx p l e s m args below meth c E Q b0 i ce sl) : zV p l e room_1 s m args below meth c 9 E Q ce sl σ 1774 (lwL b0 i E) [] := by
  refine (?_ : zV p l e room_1 s m args below meth c 9 E Q ce sl σ 1774 [(0, .ref b0), (1, .ref (ob E 0)), (2, .ref (ob E 327)), (3, .ref (ob E 339)), (4, .ref (ob E 340)), (5, .int (zI (i : Int)))] [])
  have C := W.2.1
  have hfl := W.1
  have hroom : room_1.cells = 601024 ∧ room_1.slots = 7293034 := ⟨rfl, rfl⟩
  refine zv_aload_n C 1 dL_law_1774 rfl rfl ?_
  refine zv_aload_n C 0 dL_law_1775 rfl rfl ?_
  refine zv_iload C 5 dL_law_1776 rfl ?_
  refine zv_iconst (v := zI 1) C dL_law_1778 rfl ?_
  refine zv_iaddZ C dL_law_1779 ?_
  refine zv_sld (j := i + 1) (v := (zI v1)) C W.2.2.1 W.2.2.2.1 W.2.2.2.2.1 W.2.2.2.2.2 (zI_ix (by omega)) (by omega) hx1 dL_law_1780 ?_
  refine zv_aload_n C 0 dL_law_1781 rfl rfl ?_
  refine zv_iload C 5 dL_law_1782 rfl ?_
  refine zv_iconst (v := zI 2) C dL_law_1784 rfl ?_
  refine zv_iaddZ C dL_law_1785 ?_
  refine zv_sld (j := i + 2) (v := (zI v2)) C W.2.2.1 W.2.2.2.1 W.2.2.2.2.1 W.2.2.2.2.2 (zI_ix (by omega)) (by omega) hx2 dL_law_1786 ?_
  refine zv_aload_n C 0 dL_law_1787 rfl rfl ?_
  refine zv_iload C 5 dL_law_1788 rfl ?_
  refine zv_iconst (v := zI 3) C dL_law_1790 rfl ?_
  refine zv_iaddZ C dL_law_1791 ?_
  refine zv_sld (j := i + 3) (v := (zI v3)) C W.2.2.1 W.2.2.2.1 W.2.2.2.2.1 W.2.2.2.2.2 (zI_ix (by omega)) (by omega) hx3 dL_law_1792 ?_
  refine zv_aload_n C 3 dL_law_1793 rfl rfl ?_
  refine zv_cH (st := []) C (w_x1_X10_bestFraction hfl E σ U v1 v2 v3 hR.1.2.2.1 (by first | assumption | omega) (by first | assumption | omega)) mL_bestFraction kL_265 rfl ⟨rfl, rfl⟩ (show zfit (zrx 10 224) 6 room_1 = true from rfl) (Nat.le_of_ble_eq_true rfl) dL_law_1794 ⟨by exact hcs.1, by exact hcs.2⟩ (fun r1794 τ1794 hp1794 => ?_)
  obtain ⟨hr0, hP9⟩ := hp1794
  refine zv_eqi (y := zI 1) hr0 ?_
  have hF9 : zFr 318 327 σ τ1794 := by rw [hP9]; exact (by first | exact zFr_refl _ _ _ | exact zFr_rW (zFr_refl _ _ _) (by omega) | exact zFr_rW (zFr_rW (zFr_refl _ _ _) (by omega)) (by omega) | exact qW_f _ _ _ _ | exact qM_f _ _ _ _ _ | exact rW2_f _ _ _ _ _ | exact rW3_f _ _ _ _ _ | exact alW_f _ _ _ _ _ | (split <;> first | exact zFr_refl _ _ _ | exact bW_f _ _ _ _) | assumption)
  have hR1 : zRel τ1794 (zDv.mk ni tx ec eo U S hh kp ou) := zRel_c hR hF9
  refine zv_istore (lv' := [(6, .int (zI 1)), (0, .ref b0), (1, .ref (ob E 0)), (2, .ref (ob E 327)), (3, .ref (ob E 339)), (4, .ref (ob E 340)), (5, .int (zI (i : Int)))]) C dL_law_1797  (by decide) rfl ?_
  refine zv_aload_n C 3 dL_law_1799 rfl rfl ?_
  refine zv_aload_n C 1 dL_law_1800 rfl rfl ?_
  refine zv_iload C 6 dL_law_1801 rfl ?_
  refine zv_iconst (v := zI 1) C dL_law_1803 rfl ?_
  refine zv_iaddZ C dL_law_1804 ?_
  refine zv_sld (j := i + 1) (v := (zI v1)) C W.2.2.1 W.2.2.2.1 W.2.2.2.2.1 W.2.2.2.2.2 (zI_ix (by omega)) (by omega) hx1 dL_law_1805 ?_
  refine zv_aload_n C 1 dL_law_1806 rfl rfl ?_
  refine zv_iload C 6 dL_law_1807 rfl ?_
  refine zv_iconst (v := zI 2) C dL_law_1809 rfl ?_
  refine zv_iaddZ C dL_law_1810 ?_
  refine zv_sld (j := i + 2) (v := (zI v2)) C W.2.2.1 W.2.2.2.1 W.2.2.2.2.1 W.2.2.2.2.2 (zI_ix (by omega)) (by omega) hx2 dL_law_1811 ?_
  refine zv_aload_n C 1 dL_law_1812 rfl rfl ?_
  refine zv_iload C 6 dL_law_1813 rfl ?_
  refine zv_iconst (v := zI 3) C dL_law_1815 rfl ?_
  refine zv_iaddZ C dL_law_1816 ?_
  refine zv_sld (j := i + 3) (v := (zI v3)) C W.2.2.1 W.2.2.2.1 W.2.2.2.2.1 W.2.2.2.2.2 (zI_ix (by omega)) (by omega) hx3 dL_law_1817 ?_
  refine zv_cvi (st := []) C (x1_X11_bestFraction hfl E τ1794 σ U v1 v2 v3 hR1.2.2.2.1 hR.1.2.2.1 (by first | assumption | omega) (by first | assumption | omega)) mX11_bestFraction kL_267 (by decide : kd 327 = 10) rfl rfl rfl ⟨rfl, rfl⟩ (show zfit (zrm 2 46) 14 room_1 = true from rfl) (Nat.le_of_ble_eq_true rfl) dL_law_1818 ⟨by omega, by omega⟩ (fun r1818 τ1818 hp1818 => ?_)
  obtain ⟨hr2, hK2⟩ := hp1818
  refine zv_eqi (y := zI 0) hr2 ?_
  have hR2 : zRel τ1818 (zDv.mk ni tx ec eo U S hh kp ou) := zRel_m hR1 hK2
  have ht2 : gI τ1818 327 10 = zI 1 := hK2.2
  have hJ2 : gJ τ1818 339 0 = gJ τ1794 339 0 := hK2.1.2.1 339 0 (by decide)
  have hD2 : gD τ1818 340 0 = gD τ1794 340 0 := hK2.1.2.2 340 0
  refine zv_istore (lv' := [(7, .int (zI 0)), (6, .int (zI 1)), (0, .ref b0), (1, .ref (ob E 0)), (2, .ref (ob E 327)), (3, .ref (ob E 339)), (4, .ref (ob E 340)), (5, .int (zI (i : Int)))]) C dL_law_1821  (by decide) rfl ?_
  refine zv_aload_n C 4 dL_law_1823 rfl rfl ?_
  refine zv_cviD (st := []) C (c_X11_thrown hfl E τ1818) mX11_thrown kL_200 (by decide : kd 327 = 10) rfl rfl rfl ⟨rfl, rfl⟩ (show zfit (zrm 0 0) 1 room_1 = true from rfl) (Nat.le_of_ble_eq_true rfl) dL_law_1824 ⟨by omega, by omega⟩ ?_
  refine zv_eqi (y := (zI 1)) (ht2) ?_
  refine zv_iload C 1 dL_law_1827 rfl ?_
  refine zv_icmp_eqZ (tgt := 1834) C (by omega) (by omega) dL_law_1829 (by decide) (fun h1829 => ?_) (fun h1829 => ?_)
  · skip
    refine zv_iload C 1 dL_law_1834 rfl ?_
    refine zv_if_neZ (tgt := 1851) C (by omega) dL_law_1836 (by decide) (fun h1836 => ?_) (fun h1836 => absurd h1836 (by decide))
    refine zv_goto (tgt := 3624) C dL_law_1851 (by decide) ?_
    refine zv_sub (lv' := [(0, .ref b0), (1, .ref (ob E 0)), (2, .ref (ob E 327)), (3, .ref (ob E 339)), (4, .ref (ob E 340)), (5, .int (zI (i : Int)))]) [2, 3, 4, 5, 6, 7] (zcons rfl (zcons rfl (zcons rfl (zcons rfl (zcons rfl (zcons rfl rfl)))))) ?_
    exact kk _ _ _ _ (by omega) (by omega) hR2
  · exfalso
    omega
set_option maxRecDepth 20000 in
theorem lw_bestFraction_x2_x2 {p : Program} {l : Launch} {e : Env} {s : State} {m : MethodId} {args : Array Value} {below : List Frame} {meth : Method} {c : Code} {E : zE} {Q : State → Prop} {b0 L i ce sl : Nat} {xs : Nat → Int32} {σ : zS} (ni : Nat) (tx : Nat → Int) (ec : Nat) (eo : Int) (U : zSU) (S : zST) (hh : List zST) (kp : Option zST) (ou : List Nat) (n1 : Nat) (v2 : Int) (v3 : Int) (W : zLW p l s m args meth c E b0 L xs) (hi : i + 6 ≤ L) (hcs : ce + 1 ≤ room_1.cells ∧ sl + 6 ≤ room_1.slots) (hR : zRel σ (zDv.mk ni tx ec eo U S hh kp ou)) (hx1 : xs (i + 1) = (zI (n1 : Int))) (hx2 : xs (i + 2) = (zI v2)) (hx3 : xs (i + 3) = (zI v3)) (hi0 : n1 < U.nb) (hyi1 : -2147483648 ≤ v2 ∧ v2 < 2147483648) (hno2 : ¬ (1 ≤ v2 ∧ v2 ≤ 10000)) (hvr : -2147483648 ≤ v3 ∧ v3 < 2147483648) (kk : zNx p l e s m args below meth c E Q b0 i ce sl) : zV p l e room_1 s m args below meth c 9 E Q ce sl σ 1774 (lwL b0 i E) [] := by
  refine (?_ : zV p l e room_1 s m args below meth c 9 E Q ce sl σ 1774 [(0, .ref b0), (1, .ref (ob E 0)), (2, .ref (ob E 327)), (3, .ref (ob E 339)), (4, .ref (ob E 340)), (5, .int (zI (i : Int)))] [])
  have C := W.2.1
  have hfl := W.1
  have hroom : room_1.cells = 601024 ∧ room_1.slots = 7293034 := ⟨rfl, rfl⟩
  refine zv_aload_n C 1 dL_law_1774 rfl rfl ?_
  refine zv_aload_n C 0 dL_law_1775 rfl rfl ?_
  refine zv_iload C 5 dL_law_1776 rfl ?_
  refine zv_iconst (v := zI 1) C dL_law_1778 rfl ?_
  refine zv_iaddZ C dL_law_1779 ?_
  refine zv_sld (j := i + 1) (v := (zI (n1 : Int))) C W.2.2.1 W.2.2.2.1 W.2.2.2.2.1 W.2.2.2.2.2 (zI_ix (by omega)) (by omega) hx1 dL_law_1780 ?_
  refine zv_aload_n C 0 dL_law_1781 rfl rfl ?_
  refine zv_iload C 5 dL_law_1782 rfl ?_
  refine zv_iconst (v := zI 2) C dL_law_1784 rfl ?_
  refine zv_iaddZ C dL_law_1785 ?_
  refine zv_sld (j := i + 2) (v := (zI v2)) C W.2.2.1 W.2.2.2.1 W.2.2.2.2.1 W.2.2.2.2.2 (zI_ix (by omega)) (by omega) hx2 dL_law_1786 ?_
  refine zv_aload_n C 0 dL_law_1787 rfl rfl ?_
  refine zv_iload C 5 dL_law_1788 rfl ?_
  refine zv_iconst (v := zI 3) C dL_law_1790 rfl ?_
  refine zv_iaddZ C dL_law_1791 ?_
  refine zv_sld (j := i + 3) (v := (zI v3)) C W.2.2.1 W.2.2.2.1 W.2.2.2.2.1 W.2.2.2.2.2 (zI_ix (by omega)) (by omega) hx3 dL_law_1792 ?_
  refine zv_aload_n C 3 dL_law_1793 rfl rfl ?_
  refine zv_cH (st := []) C (w_x2_X10_bestFraction hfl E σ U n1 v2 v3 hR.1.2.2.1 (by first | assumption | omega) (by first | assumption | omega) (by first | assumption | omega)) mL_bestFraction kL_265 rfl ⟨rfl, rfl⟩ (show zfit (zrx 10 224) 6 room_1 = true from rfl) (Nat.le_of_ble_eq_true rfl) dL_law_1794 ⟨by exact hcs.1, by exact hcs.2⟩ (fun r1794 τ1794 hp1794 => ?_)
  obtain ⟨hr0, hP9⟩ := hp1794
  refine zv_eqi (y := zI 2) hr0 ?_
  have hF9 : zFr 318 327 σ τ1794 := by rw [hP9]; exact (by first | exact zFr_refl _ _ _ | exact zFr_rW (zFr_refl _ _ _) (by omega) | exact zFr_rW (zFr_rW (zFr_refl _ _ _) (by omega)) (by omega) | exact qW_f _ _ _ _ | exact qM_f _ _ _ _ _ | exact rW2_f _ _ _ _ _ | exact rW3_f _ _ _ _ _ | exact alW_f _ _ _ _ _ | (split <;> first | exact zFr_refl _ _ _ | exact bW_f _ _ _ _) | assumption)
  have hR1 : zRel τ1794 (zDv.mk ni tx ec eo U S hh kp ou) := zRel_c hR hF9
  refine zv_istore (lv' := [(6, .int (zI 2)), (0, .ref b0), (1, .ref (ob E 0)), (2, .ref (ob E 327)), (3, .ref (ob E 339)), (4, .ref (ob E 340)), (5, .int (zI (i : Int)))]) C dL_law_1797  (by decide) rfl ?_
  refine zv_aload_n C 3 dL_law_1799 rfl rfl ?_
  refine zv_aload_n C 1 dL_law_1800 rfl rfl ?_
  refine zv_iload C 6 dL_law_1801 rfl ?_
  refine zv_iconst (v := zI 1) C dL_law_1803 rfl ?_
  refine zv_iaddZ C dL_law_1804 ?_
  refine zv_sld (j := i + 1) (v := (zI (n1 : Int))) C W.2.2.1 W.2.2.2.1 W.2.2.2.2.1 W.2.2.2.2.2 (zI_ix (by omega)) (by omega) hx1 dL_law_1805 ?_
  refine zv_aload_n C 1 dL_law_1806 rfl rfl ?_
  refine zv_iload C 6 dL_law_1807 rfl ?_
  refine zv_iconst (v := zI 2) C dL_law_1809 rfl ?_
  refine zv_iaddZ C dL_law_1810 ?_
  refine zv_sld (j := i + 2) (v := (zI v2)) C W.2.2.1 W.2.2.2.1 W.2.2.2.2.1 W.2.2.2.2.2 (zI_ix (by omega)) (by omega) hx2 dL_law_1811 ?_
  refine zv_aload_n C 1 dL_law_1812 rfl rfl ?_
  refine zv_iload C 6 dL_law_1813 rfl ?_
  refine zv_iconst (v := zI 3) C dL_law_1815 rfl ?_
  refine zv_iaddZ C dL_law_1816 ?_
  refine zv_sld (j := i + 3) (v := (zI v3)) C W.2.2.1 W.2.2.2.1 W.2.2.2.2.1 W.2.2.2.2.2 (zI_ix (by omega)) (by omega) hx3 dL_law_1817 ?_
  refine zv_cvi (st := []) C (x2_X11_bestFraction hfl E τ1794 σ U n1 v2 v3 hR1.2.2.2.1 hR.1.2.2.1 (by first | assumption | omega) (by first | assumption | omega) (by first | assumption | omega) (by first | assumption | omega)) mX11_bestFraction kL_267 (by decide : kd 327 = 10) rfl rfl rfl ⟨rfl, rfl⟩ (show zfit (zrm 2 46) 14 room_1 = true from rfl) (Nat.le_of_ble_eq_true rfl) dL_law_1818 ⟨by omega, by omega⟩ (fun r1818 τ1818 hp1818 => ?_)
  obtain ⟨hr2, hK2⟩ := hp1818
  refine zv_eqi (y := zI 0) hr2 ?_
  have hR2 : zRel τ1818 (zDv.mk ni tx ec eo U S hh kp ou) := zRel_m hR1 hK2
  have ht2 : gI τ1818 327 10 = zI 2 := hK2.2
  have hJ2 : gJ τ1818 339 0 = gJ τ1794 339 0 := hK2.1.2.1 339 0 (by decide)
  have hD2 : gD τ1818 340 0 = gD τ1794 340 0 := hK2.1.2.2 340 0
  refine zv_istore (lv' := [(7, .int (zI 0)), (6, .int (zI 2)), (0, .ref b0), (1, .ref (ob E 0)), (2, .ref (ob E 327)), (3, .ref (ob E 339)), (4, .ref (ob E 340)), (5, .int (zI (i : Int)))]) C dL_law_1821  (by decide) rfl ?_
  refine zv_aload_n C 4 dL_law_1823 rfl rfl ?_
  refine zv_cviD (st := []) C (c_X11_thrown hfl E τ1818) mX11_thrown kL_200 (by decide : kd 327 = 10) rfl rfl rfl ⟨rfl, rfl⟩ (show zfit (zrm 0 0) 1 room_1 = true from rfl) (Nat.le_of_ble_eq_true rfl) dL_law_1824 ⟨by omega, by omega⟩ ?_
  refine zv_eqi (y := (zI 2)) (ht2) ?_
  refine zv_iload C 1 dL_law_1827 rfl ?_
  refine zv_icmp_eqZ (tgt := 1834) C (by omega) (by omega) dL_law_1829 (by decide) (fun h1829 => ?_) (fun h1829 => ?_)
  · skip
    refine zv_iload C 1 dL_law_1834 rfl ?_
    refine zv_if_neZ (tgt := 1851) C (by omega) dL_law_1836 (by decide) (fun h1836 => ?_) (fun h1836 => absurd h1836 (by decide))
    refine zv_goto (tgt := 3624) C dL_law_1851 (by decide) ?_
    refine zv_sub (lv' := [(0, .ref b0), (1, .ref (ob E 0)), (2, .ref (ob E 327)), (3, .ref (ob E 339)), (4, .ref (ob E 340)), (5, .int (zI (i : Int)))]) [2, 3, 4, 5, 6, 7] (zcons rfl (zcons rfl (zcons rfl (zcons rfl (zcons rfl (zcons rfl rfl)))))) ?_
    exact kk _ _ _ _ (by omega) (by omega) hR2
  · exfalso
    omega
set_option maxRecDepth 20000 in
theorem lw_bestFraction_x3_x2 {p : Program} {l : Launch} {e : Env} {s : State} {m : MethodId} {args : Array Value} {below : List Frame} {meth : Method} {c : Code} {E : zE} {Q : State → Prop} {b0 L i ce sl : Nat} {xs : Nat → Int32} {σ : zS} (ni : Nat) (tx : Nat → Int) (ec : Nat) (eo : Int) (U : zSU) (S : zST) (hh : List zST) (kp : Option zST) (ou : List Nat) (n1 : Nat) (v2 : Int) (v3 : Int) (W : zLW p l s m args meth c E b0 L xs) (hi : i + 6 ≤ L) (hcs : ce + 1 ≤ room_1.cells ∧ sl + 6 ≤ room_1.slots) (hR : zRel σ (zDv.mk ni tx ec eo U S hh kp ou)) (hx1 : xs (i + 1) = (zI (n1 : Int))) (hx2 : xs (i + 2) = (zI v2)) (hx3 : xs (i + 3) = (zI v3)) (hi0 : n1 < U.nb) (hy1 : 1 ≤ v2 ∧ v2 ≤ 10000) (hzi2 : -2147483648 ≤ v3 ∧ v3 < 2147483648) (hno3 : ¬ (0 ≤ v3 ∧ v3 ≤ 1))  (kk : zNx p l e s m args below meth c E Q b0 i ce sl) : zV p l e room_1 s m args below meth c 9 E Q ce sl σ 1774 (lwL b0 i E) [] := by
  refine (?_ : zV p l e room_1 s m args below meth c 9 E Q ce sl σ 1774 [(0, .ref b0), (1, .ref (ob E 0)), (2, .ref (ob E 327)), (3, .ref (ob E 339)), (4, .ref (ob E 340)), (5, .int (zI (i : Int)))] [])
  have C := W.2.1
  have hfl := W.1
  have hroom : room_1.cells = 601024 ∧ room_1.slots = 7293034 := ⟨rfl, rfl⟩
  refine zv_aload_n C 1 dL_law_1774 rfl rfl ?_
  refine zv_aload_n C 0 dL_law_1775 rfl rfl ?_
  refine zv_iload C 5 dL_law_1776 rfl ?_
  refine zv_iconst (v := zI 1) C dL_law_1778 rfl ?_
  refine zv_iaddZ C dL_law_1779 ?_
  refine zv_sld (j := i + 1) (v := (zI (n1 : Int))) C W.2.2.1 W.2.2.2.1 W.2.2.2.2.1 W.2.2.2.2.2 (zI_ix (by omega)) (by omega) hx1 dL_law_1780 ?_
  refine zv_aload_n C 0 dL_law_1781 rfl rfl ?_
  refine zv_iload C 5 dL_law_1782 rfl ?_
  refine zv_iconst (v := zI 2) C dL_law_1784 rfl ?_
  refine zv_iaddZ C dL_law_1785 ?_
  refine zv_sld (j := i + 2) (v := (zI v2)) C W.2.2.1 W.2.2.2.1 W.2.2.2.2.1 W.2.2.2.2.2 (zI_ix (by omega)) (by omega) hx2 dL_law_1786 ?_
  refine zv_aload_n C 0 dL_law_1787 rfl rfl ?_
  refine zv_iload C 5 dL_law_1788 rfl ?_
  refine zv_iconst (v := zI 3) C dL_law_1790 rfl ?_
  refine zv_iaddZ C dL_law_1791 ?_
  refine zv_sld (j := i + 3) (v := (zI v3)) C W.2.2.1 W.2.2.2.1 W.2.2.2.2.1 W.2.2.2.2.2 (zI_ix (by omega)) (by omega) hx3 dL_law_1792 ?_
  refine zv_aload_n C 3 dL_law_1793 rfl rfl ?_
  refine zv_cH (st := []) C (w_x3_X10_bestFraction hfl E σ U n1 v2 v3 hR.1.2.2.1 (by first | assumption | omega) (by first | assumption | omega) (by first | assumption | omega) (by first | assumption | omega)) mL_bestFraction kL_265 rfl ⟨rfl, rfl⟩ (show zfit (zrx 10 224) 6 room_1 = true from rfl) (Nat.le_of_ble_eq_true rfl) dL_law_1794 ⟨by exact hcs.1, by exact hcs.2⟩ (fun r1794 τ1794 hp1794 => ?_)
  obtain ⟨hr0, hP9⟩ := hp1794
  refine zv_eqi (y := zI 2) hr0 ?_
  have hF9 : zFr 318 327 σ τ1794 := by rw [hP9]; exact (by first | exact zFr_refl _ _ _ | exact zFr_rW (zFr_refl _ _ _) (by omega) | exact zFr_rW (zFr_rW (zFr_refl _ _ _) (by omega)) (by omega) | exact qW_f _ _ _ _ | exact qM_f _ _ _ _ _ | exact rW2_f _ _ _ _ _ | exact rW3_f _ _ _ _ _ | exact alW_f _ _ _ _ _ | (split <;> first | exact zFr_refl _ _ _ | exact bW_f _ _ _ _) | assumption)
  have hR1 : zRel τ1794 (zDv.mk ni tx ec eo U S hh kp ou) := zRel_c hR hF9
  refine zv_istore (lv' := [(6, .int (zI 2)), (0, .ref b0), (1, .ref (ob E 0)), (2, .ref (ob E 327)), (3, .ref (ob E 339)), (4, .ref (ob E 340)), (5, .int (zI (i : Int)))]) C dL_law_1797  (by decide) rfl ?_
  refine zv_aload_n C 3 dL_law_1799 rfl rfl ?_
  refine zv_aload_n C 1 dL_law_1800 rfl rfl ?_
  refine zv_iload C 6 dL_law_1801 rfl ?_
  refine zv_iconst (v := zI 1) C dL_law_1803 rfl ?_
  refine zv_iaddZ C dL_law_1804 ?_
  refine zv_sld (j := i + 1) (v := (zI (n1 : Int))) C W.2.2.1 W.2.2.2.1 W.2.2.2.2.1 W.2.2.2.2.2 (zI_ix (by omega)) (by omega) hx1 dL_law_1805 ?_
  refine zv_aload_n C 1 dL_law_1806 rfl rfl ?_
  refine zv_iload C 6 dL_law_1807 rfl ?_
  refine zv_iconst (v := zI 2) C dL_law_1809 rfl ?_
  refine zv_iaddZ C dL_law_1810 ?_
  refine zv_sld (j := i + 2) (v := (zI v2)) C W.2.2.1 W.2.2.2.1 W.2.2.2.2.1 W.2.2.2.2.2 (zI_ix (by omega)) (by omega) hx2 dL_law_1811 ?_
  refine zv_aload_n C 1 dL_law_1812 rfl rfl ?_
  refine zv_iload C 6 dL_law_1813 rfl ?_
  refine zv_iconst (v := zI 3) C dL_law_1815 rfl ?_
  refine zv_iaddZ C dL_law_1816 ?_
  refine zv_sld (j := i + 3) (v := (zI v3)) C W.2.2.1 W.2.2.2.1 W.2.2.2.2.1 W.2.2.2.2.2 (zI_ix (by omega)) (by omega) hx3 dL_law_1817 ?_
  refine zv_cvi (st := []) C (x2_X11_bestFraction hfl E τ1794 σ U n1 v2 v3 hR1.2.2.2.1 hR.1.2.2.1 (by first | assumption | omega) (by first | assumption | omega) (by first | assumption | omega) (by first | assumption | omega)) mX11_bestFraction kL_267 (by decide : kd 327 = 10) rfl rfl rfl ⟨rfl, rfl⟩ (show zfit (zrm 2 46) 14 room_1 = true from rfl) (Nat.le_of_ble_eq_true rfl) dL_law_1818 ⟨by omega, by omega⟩ (fun r1818 τ1818 hp1818 => ?_)
  obtain ⟨hr2, hK2⟩ := hp1818
  refine zv_eqi (y := zI 0) hr2 ?_
  have hR2 : zRel τ1818 (zDv.mk ni tx ec eo U S hh kp ou) := zRel_m hR1 hK2
  have ht2 : gI τ1818 327 10 = zI 2 := hK2.2
  have hJ2 : gJ τ1818 339 0 = gJ τ1794 339 0 := hK2.1.2.1 339 0 (by decide)
  have hD2 : gD τ1818 340 0 = gD τ1794 340 0 := hK2.1.2.2 340 0
  refine zv_istore (lv' := [(7, .int (zI 0)), (6, .int (zI 2)), (0, .ref b0), (1, .ref (ob E 0)), (2, .ref (ob E 327)), (3, .ref (ob E 339)), (4, .ref (ob E 340)), (5, .int (zI (i : Int)))]) C dL_law_1821  (by decide) rfl ?_
  refine zv_aload_n C 4 dL_law_1823 rfl rfl ?_
  refine zv_cviD (st := []) C (c_X11_thrown hfl E τ1818) mX11_thrown kL_200 (by decide : kd 327 = 10) rfl rfl rfl ⟨rfl, rfl⟩ (show zfit (zrm 0 0) 1 room_1 = true from rfl) (Nat.le_of_ble_eq_true rfl) dL_law_1824 ⟨by omega, by omega⟩ ?_
  refine zv_eqi (y := (zI 2)) (ht2) ?_
  refine zv_iload C 1 dL_law_1827 rfl ?_
  refine zv_icmp_eqZ (tgt := 1834) C (by omega) (by omega) dL_law_1829 (by decide) (fun h1829 => ?_) (fun h1829 => ?_)
  · skip
    refine zv_iload C 1 dL_law_1834 rfl ?_
    refine zv_if_neZ (tgt := 1851) C (by omega) dL_law_1836 (by decide) (fun h1836 => ?_) (fun h1836 => absurd h1836 (by decide))
    refine zv_goto (tgt := 3624) C dL_law_1851 (by decide) ?_
    refine zv_sub (lv' := [(0, .ref b0), (1, .ref (ob E 0)), (2, .ref (ob E 327)), (3, .ref (ob E 339)), (4, .ref (ob E 340)), (5, .int (zI (i : Int)))]) [2, 3, 4, 5, 6, 7] (zcons rfl (zcons rfl (zcons rfl (zcons rfl (zcons rfl (zcons rfl rfl)))))) ?_
    exact kk _ _ _ _ (by omega) (by omega) hR2
  · exfalso
    omega
theorem LK_26 {p : Program} {l : Launch} {e : Env} {s : State} {m : MethodId} {args : Array Value} {below : List Frame} {meth : Method} {c : Code} {E : zE} {Q : State → Prop} {b0 L i ce sl : Nat} {xs : Nat → Int32} {σ : zS} (ni : Nat) (tx : Nat → Int) (ec : Nat) (eo : Int) (U : zSU) (S : zST) (hh : List zST) (kp : Option zST) (ou : List Nat) (hFN : zFN) (W : zLW p l s m args meth c E b0 L xs) (hi : i + 6 ≤ L) (hcs : ce + 1 ≤ room_1.cells ∧ sl + 6 ≤ room_1.slots) (hR : zRel σ (zDv.mk ni tx ec eo U S hh kp ou)) (kk : zNx p l e s m args below meth c E Q b0 i ce sl) : zV p l e room_1 s m args below meth c 9 E Q ce sl σ 1774 (lwL b0 i E) [] := by
  obtain ⟨v1, hx1, hv1⟩ := zI_cov (xs (i + 1))
  obtain ⟨v2, hx2, hv2⟩ := zI_cov (xs (i + 2))
  obtain ⟨v3, hx3, hv3⟩ := zI_cov (xs (i + 3))
  by_cases g1 : 0 ≤ v1 ∧ v1 < U.nb
  case neg =>
    exact lw_bestFraction_x1_x1 _ _ _ _ _ _ _ _ _ _ _ _ W hi hcs hR hx1 hx2 hx3 (by first | assumption | omega) (by first | assumption | omega) kk
  obtain ⟨n1, rfl⟩ := Int.eq_ofNat_of_zero_le (show 0 ≤ v1 by omega)
  by_cases g2 : 1 ≤ v2 ∧ v2 ≤ 10000
  case neg =>
    exact lw_bestFraction_x2_x2 _ _ _ _ _ _ _ _ _ _ _ _ W hi hcs hR hx1 hx2 hx3 (by first | assumption | omega) (by first | assumption | omega) (by first | assumption | omega) (by first | assumption | omega) kk
  by_cases g3 : 0 ≤ v3 ∧ v3 ≤ 1
  case neg =>
    exact lw_bestFraction_x3_x2 _ _ _ _ _ _ _ _ _ _ _ _ W hi hcs hR hx1 hx2 hx3 (by first | assumption | omega) (by first | assumption | omega) (by first | assumption | omega) (by first | assumption | omega) kk
  obtain ⟨n2, rfl⟩ := Int.eq_ofNat_of_zero_le (show 0 ≤ v2 by omega)
  exact lw_bestFraction_c_c _ _ _ _ _ _ _ _ _ _ _ _ W hi hcs hR hx1 hx2 hx3 (by first | assumption | omega) (by first | assumption | omega) (by first | assumption | omega) kk
theorem dL_law_1854 : decode cL_law 1854 = .ok (.aload_n 1, 1) := by decide +kernel
theorem dL_law_1855 : decode cL_law 1855 = .ok (.aload_n 0, 1) := by decide +kernel
theorem dL_law_1856 : decode cL_law 1856 = .ok (.iload 5, 2) := by decide +kernel
theorem dL_law_1858 : decode cL_law 1858 = .ok (.iconst 1, 1) := by decide +kernel
theorem dL_law_1859 : decode cL_law 1859 = .ok (.iadd, 1) := by decide +kernel
theorem dL_law_1860 : decode cL_law 1860 = .ok (.iaload, 1) := by decide +kernel
theorem dL_law_1861 : decode cL_law 1861 = .ok (.aload_n 3, 1) := by decide +kernel
theorem dL_law_1862 : decode cL_law 1862 = .ok (.invokestatic 268, 3) := by decide +kernel
theorem dL_law_1865 : decode cL_law 1865 = .ok (.istore 6, 2) := by decide +kernel
theorem dL_law_1867 : decode cL_law 1867 = .ok (.aload_n 2, 1) := by decide +kernel
theorem dL_law_1868 : decode cL_law 1868 = .ok (.aload_n 0, 1) := by decide +kernel
theorem dL_law_1869 : decode cL_law 1869 = .ok (.iload 5, 2) := by decide +kernel
theorem dL_law_1871 : decode cL_law 1871 = .ok (.iconst 1, 1) := by decide +kernel
theorem dL_law_1872 : decode cL_law 1872 = .ok (.iadd, 1) := by decide +kernel
theorem dL_law_1873 : decode cL_law 1873 = .ok (.iaload, 1) := by decide +kernel
theorem dL_law_1874 : decode cL_law 1874 = .ok (.invokevirtual 270, 3) := by decide +kernel
theorem dL_law_1877 : decode cL_law 1877 = .ok (.istore 7, 2) := by decide +kernel
theorem dL_law_1879 : decode cL_law 1879 = .ok (.aload_n 2, 1) := by decide +kernel
theorem dL_law_1880 : decode cL_law 1880 = .ok (.invokevirtual 200, 3) := by decide +kernel
theorem dL_law_1883 : decode cL_law 1883 = .ok (.iload 6, 2) := by decide +kernel
theorem dL_law_1885 : decode cL_law 1885 = .ok (.if_icmp .eq 5, 3) := by decide +kernel
theorem dL_law_1888 : decode cL_law 1888 = .ok (.iconst 0, 1) := by decide +kernel
theorem dL_law_1889 : decode cL_law 1889 = .ok (.ireturn, 1) := by decide +kernel
theorem dL_law_1890 : decode cL_law 1890 = .ok (.iload 6, 2) := by decide +kernel
theorem dL_law_1892 : decode cL_law 1892 = .ok (.ifCond .ne 15, 3) := by decide +kernel
theorem dL_law_1895 : decode cL_law 1895 = .ok (.aload_n 3, 1) := by decide +kernel
theorem dL_law_1896 : decode cL_law 1896 = .ok (.iconst 0, 1) := by decide +kernel
theorem dL_law_1897 : decode cL_law 1897 = .ok (.laload, 1) := by decide +kernel
theorem dL_law_1898 : decode cL_law 1898 = .ok (.iload 7, 2) := by decide +kernel
theorem dL_law_1900 : decode cL_law 1900 = .ok (.i2l, 1) := by decide +kernel
theorem dL_law_1901 : decode cL_law 1901 = .ok (.lcmp, 1) := by decide +kernel
theorem dL_law_1902 : decode cL_law 1902 = .ok (.ifCond .eq 5, 3) := by decide +kernel
theorem dL_law_1905 : decode cL_law 1905 = .ok (.iconst 0, 1) := by decide +kernel
theorem dL_law_1906 : decode cL_law 1906 = .ok (.ireturn, 1) := by decide +kernel
theorem dL_law_1907 : decode cL_law 1907 = .ok (.goto 1717, 3) := by decide +kernel
set_option maxRecDepth 20000 in
theorem lw_build_c_c {p : Program} {l : Launch} {e : Env} {s : State} {m : MethodId} {args : Array Value} {below : List Frame} {meth : Method} {c : Code} {E : zE} {Q : State → Prop} {b0 L i ce sl : Nat} {xs : Nat → Int32} {σ : zS} (ni : Nat) (tx : Nat → Int) (ec : Nat) (eo : Int) (U : zSU) (S : zST) (hh : List zST) (kp : Option zST) (ou : List Nat) (n1 : Nat) (W : zLW p l s m args meth c E b0 L xs) (hi : i + 6 ≤ L) (hcs : ce + 1 ≤ room_1.cells ∧ sl + 6 ≤ room_1.slots) (hR : zRel σ (zDv.mk ni tx ec eo U S hh kp ou)) (hx1 : xs (i + 1) = (zI (n1 : Int))) (hi0 : n1 < U.nb) (hn21 : 2 ≤ S.n)  (kk : zNx p l e s m args below meth c E Q b0 i ce sl) : zV p l e room_1 s m args below meth c 9 E Q ce sl σ 1854 (lwL b0 i E) [] := by
  refine (?_ : zV p l e room_1 s m args below meth c 9 E Q ce sl σ 1854 [(0, .ref b0), (1, .ref (ob E 0)), (2, .ref (ob E 327)), (3, .ref (ob E 339)), (4, .ref (ob E 340)), (5, .int (zI (i : Int)))] [])
  have C := W.2.1
  have hfl := W.1
  have hroom : room_1.cells = 601024 ∧ room_1.slots = 7293034 := ⟨rfl, rfl⟩
  refine zv_aload_n C 1 dL_law_1854 rfl rfl ?_
  refine zv_aload_n C 0 dL_law_1855 rfl rfl ?_
  refine zv_iload C 5 dL_law_1856 rfl ?_
  refine zv_iconst (v := zI 1) C dL_law_1858 rfl ?_
  refine zv_iaddZ C dL_law_1859 ?_
  refine zv_sld (j := i + 1) (v := (zI (n1 : Int))) C W.2.2.1 W.2.2.2.1 W.2.2.2.2.1 W.2.2.2.2.2 (zI_ix (by omega)) (by omega) hx1 dL_law_1860 ?_
  refine zv_aload_n C 3 dL_law_1861 rfl rfl ?_
  refine zv_cH (st := []) C (w_c_X10_build hfl E σ ni tx ec eo U S hh kp ou n1 hR.1 (by first | assumption | omega) (by first | assumption | omega)) mL_build kL_268 rfl ⟨rfl, rfl⟩ (show zfit (zrm 6 166) 4 room_1 = true from rfl) (Nat.le_of_ble_eq_true rfl) dL_law_1862 ⟨by omega, by omega⟩ (fun r1862 τ1862 hp1862 => ?_)
  obtain ⟨hr0, v9, υ9, hP9, hτ9⟩ := hp1862
  refine zv_eqi (y := zI 0) hr0 ?_
  obtain ⟨hv9, hC9, hF9⟩ := hP9
  have hC1 := zCP_w (τ := τ1862) hC9 (fun x y hx => by rw [hτ9]; exact ⟨rfl, by first | rfl | rw [gJ_sJ, if_neg (by omega)]⟩)
  have hM1 : zMP τ1862 (zDv.mk ni tx ec eo U S hh kp ou) := by rw [hτ9]; exact (zMP_fr hR.2 hF9 : zMP υ9 (zDv.mk ni tx ec eo U S hh kp ou))
  have ho9 : gJ τ1862 339 0 = v9.toInt64 := by rw [hτ9, gJ_sJ, if_pos ⟨rfl, rfl⟩]
  rw [hv9] at ho9
  refine zv_istore (lv' := [(6, .int (zI 0)), (0, .ref b0), (1, .ref (ob E 0)), (2, .ref (ob E 327)), (3, .ref (ob E 339)), (4, .ref (ob E 340)), (5, .int (zI (i : Int)))]) C dL_law_1865  (by decide) rfl ?_
  refine zv_aload_n C 3 dL_law_1867 rfl rfl ?_
  refine zv_aload_n C 1 dL_law_1868 rfl rfl ?_
  refine zv_iload C 6 dL_law_1869 rfl ?_
  refine zv_iconst (v := zI 1) C dL_law_1871 rfl ?_
  refine zv_iaddZ C dL_law_1872 ?_
  refine zv_sld (j := i + 1) (v := (zI (n1 : Int))) C W.2.2.1 W.2.2.2.1 W.2.2.2.2.1 W.2.2.2.2.2 (zI_ix (by omega)) (by omega) hx1 dL_law_1873 ?_
  refine zv_cvi (st := []) C (c_X11_build hfl E τ1862 σ ni tx ec eo U S hh kp ou n1 hM1 hR.1.2.2.1 hR.1.2.2.2.1.1 (by first | assumption | omega) (by first | assumption | omega)) mX11_build kL_270 (by decide : kd 327 = 10) rfl rfl rfl ⟨rfl, rfl⟩ (show zfit (zrm 2 46) 3 room_1 = true from rfl) (Nat.le_of_ble_eq_true rfl) dL_law_1874 ⟨by omega, by omega⟩ (fun r1874 τ1874 hp1874 => ?_)
  obtain ⟨hr2, hK2⟩ := hp1874
  refine zv_eqi (y := zI (if (qTrue U n1).1 < 0 then 3 else 2)) hr2 ?_
  have hR2 : zRel τ1874 _ := ⟨zCP_fr hC1 hK2.2.2, hK2.1⟩
  have ht2 : gI τ1874 327 10 = zI 0 := hK2.2.1
  have hJ2 : gJ τ1874 339 0 = gJ τ1862 339 0 := hK2.2.2.2.1 339 0 (by decide)
  refine zv_istore (lv' := [(7, .int (zI (if (qTrue U n1).1 < 0 then 3 else 2))), (6, .int (zI 0)), (0, .ref b0), (1, .ref (ob E 0)), (2, .ref (ob E 327)), (3, .ref (ob E 339)), (4, .ref (ob E 340)), (5, .int (zI (i : Int)))]) C dL_law_1877  (by decide) rfl ?_
  refine zv_aload_n C 4 dL_law_1879 rfl rfl ?_
  refine zv_cviD (st := []) C (c_X11_thrown hfl E τ1874) mX11_thrown kL_200 (by decide : kd 327 = 10) rfl rfl rfl ⟨rfl, rfl⟩ (show zfit (zrm 0 0) 1 room_1 = true from rfl) (Nat.le_of_ble_eq_true rfl) dL_law_1880 ⟨by omega, by omega⟩ ?_
  refine zv_eqi (y := (zI 0)) (ht2) ?_
  refine zv_iload C 1 dL_law_1883 rfl ?_
  refine zv_icmp_eqZ (tgt := 1890) C (by omega) (by omega) dL_law_1885 (by decide) (fun h1885 => ?_) (fun h1885 => ?_)
  · skip
    refine zv_iload C 1 dL_law_1890 rfl ?_
    refine zv_if_neZ (tgt := 1907) C (by omega) dL_law_1892 (by decide) (fun h1892 => absurd h1892 (by decide)) (fun h1892 => ?_)
    refine zv_aload_n C 5 dL_law_1895 rfl rfl ?_
    refine zv_iconst (v := zI 0) C dL_law_1896 rfl ?_
    refine zv_lald (j := 0) C (by decide : kd 339 = _) (zI_ix (by omega)) (by decide) dL_law_1897 ?_
    refine zv_eql (y := ((zI (if (qTrue U n1).1 < 0 then 3 else 2)).toInt64)) (hJ2.trans ho9) ?_
    refine zv_iload C 0 dL_law_1898 rfl ?_
    refine zv_i2l C dL_law_1900 ?_
    refine zv_lc_eq (tgt := 1907) C dL_law_1901 dL_law_1902 (by decide) (fun h1901 => ?_) (fun h1901 => ?_)
    · skip
      refine zv_goto (tgt := 3624) C dL_law_1907 (by decide) ?_
      refine zv_sub (lv' := [(0, .ref b0), (1, .ref (ob E 0)), (2, .ref (ob E 327)), (3, .ref (ob E 339)), (4, .ref (ob E 340)), (5, .int (zI (i : Int)))]) [2, 3, 4, 5, 6, 7] (zcons rfl (zcons rfl (zcons rfl (zcons rfl (zcons rfl (zcons rfl rfl)))))) ?_
      exact kk _ _ _ _ (by omega) (by omega) hR2
    · exfalso
      exact h1901 rfl
  · exfalso
    omega
set_option maxRecDepth 20000 in
theorem lw_build_x1_x1 {p : Program} {l : Launch} {e : Env} {s : State} {m : MethodId} {args : Array Value} {below : List Frame} {meth : Method} {c : Code} {E : zE} {Q : State → Prop} {b0 L i ce sl : Nat} {xs : Nat → Int32} {σ : zS} (ni : Nat) (tx : Nat → Int) (ec : Nat) (eo : Int) (U : zSU) (S : zST) (hh : List zST) (kp : Option zST) (ou : List Nat) (v1 : Int) (W : zLW p l s m args meth c E b0 L xs) (hi : i + 6 ≤ L) (hcs : ce + 1 ≤ room_1.cells ∧ sl + 6 ≤ room_1.slots) (hR : zRel σ (zDv.mk ni tx ec eo U S hh kp ou)) (hx1 : xs (i + 1) = (zI v1)) (hbi0 : -2147483648 ≤ v1 ∧ v1 < 2147483648) (hno1 : ¬ (0 ≤ v1 ∧ v1 < U.nb))  (kk : zNx p l e s m args below meth c E Q b0 i ce sl) : zV p l e room_1 s m args below meth c 9 E Q ce sl σ 1854 (lwL b0 i E) [] := by
  refine (?_ : zV p l e room_1 s m args below meth c 9 E Q ce sl σ 1854 [(0, .ref b0), (1, .ref (ob E 0)), (2, .ref (ob E 327)), (3, .ref (ob E 339)), (4, .ref (ob E 340)), (5, .int (zI (i : Int)))] [])
  have C := W.2.1
  have hfl := W.1
  have hroom : room_1.cells = 601024 ∧ room_1.slots = 7293034 := ⟨rfl, rfl⟩
  refine zv_aload_n C 1 dL_law_1854 rfl rfl ?_
  refine zv_aload_n C 0 dL_law_1855 rfl rfl ?_
  refine zv_iload C 5 dL_law_1856 rfl ?_
  refine zv_iconst (v := zI 1) C dL_law_1858 rfl ?_
  refine zv_iaddZ C dL_law_1859 ?_
  refine zv_sld (j := i + 1) (v := (zI v1)) C W.2.2.1 W.2.2.2.1 W.2.2.2.2.1 W.2.2.2.2.2 (zI_ix (by omega)) (by omega) hx1 dL_law_1860 ?_
  refine zv_aload_n C 3 dL_law_1861 rfl rfl ?_
  refine zv_cH (st := []) C (w_x1_X10_build hfl E σ U v1 hR.1.2.2.1 (by first | assumption | omega) (by first | assumption | omega)) mL_build kL_268 rfl ⟨rfl, rfl⟩ (show zfit (zrx 10 223) 4 room_1 = true from rfl) (Nat.le_of_ble_eq_true rfl) dL_law_1862 ⟨by exact hcs.1, by exact hcs.2⟩ (fun r1862 τ1862 hp1862 => ?_)
  obtain ⟨hr0, hP9⟩ := hp1862
  refine zv_eqi (y := zI 1) hr0 ?_
  have hF9 : zFr 318 327 σ τ1862 := by rw [hP9]; exact (by first | exact zFr_refl _ _ _ | exact zFr_rW (zFr_refl _ _ _) (by omega) | exact zFr_rW (zFr_rW (zFr_refl _ _ _) (by omega)) (by omega) | exact qW_f _ _ _ _ | exact qM_f _ _ _ _ _ | exact rW2_f _ _ _ _ _ | exact rW3_f _ _ _ _ _ | exact alW_f _ _ _ _ _ | (split <;> first | exact zFr_refl _ _ _ | exact bW_f _ _ _ _) | assumption)
  have hR1 : zRel τ1862 (zDv.mk ni tx ec eo U S hh kp ou) := zRel_c hR hF9
  refine zv_istore (lv' := [(6, .int (zI 1)), (0, .ref b0), (1, .ref (ob E 0)), (2, .ref (ob E 327)), (3, .ref (ob E 339)), (4, .ref (ob E 340)), (5, .int (zI (i : Int)))]) C dL_law_1865  (by decide) rfl ?_
  refine zv_aload_n C 3 dL_law_1867 rfl rfl ?_
  refine zv_aload_n C 1 dL_law_1868 rfl rfl ?_
  refine zv_iload C 6 dL_law_1869 rfl ?_
  refine zv_iconst (v := zI 1) C dL_law_1871 rfl ?_
  refine zv_iaddZ C dL_law_1872 ?_
  refine zv_sld (j := i + 1) (v := (zI v1)) C W.2.2.1 W.2.2.2.1 W.2.2.2.2.1 W.2.2.2.2.2 (zI_ix (by omega)) (by omega) hx1 dL_law_1873 ?_
  refine zv_cvi (st := []) C (x1_X11_build hfl E τ1862 σ U v1 hR1.2.2.2.1 hR.1.2.2.1 (by first | assumption | omega) (by first | assumption | omega)) mX11_build kL_270 (by decide : kd 327 = 10) rfl rfl rfl ⟨rfl, rfl⟩ (show zfit (zrm 2 46) 3 room_1 = true from rfl) (Nat.le_of_ble_eq_true rfl) dL_law_1874 ⟨by omega, by omega⟩ (fun r1874 τ1874 hp1874 => ?_)
  obtain ⟨hr2, hK2⟩ := hp1874
  refine zv_eqi (y := zI 0) hr2 ?_
  have hR2 : zRel τ1874 (zDv.mk ni tx ec eo U S hh kp ou) := zRel_m hR1 hK2
  have ht2 : gI τ1874 327 10 = zI 1 := hK2.2
  have hJ2 : gJ τ1874 339 0 = gJ τ1862 339 0 := hK2.1.2.1 339 0 (by decide)
  have hD2 : gD τ1874 340 0 = gD τ1862 340 0 := hK2.1.2.2 340 0
  refine zv_istore (lv' := [(7, .int (zI 0)), (6, .int (zI 1)), (0, .ref b0), (1, .ref (ob E 0)), (2, .ref (ob E 327)), (3, .ref (ob E 339)), (4, .ref (ob E 340)), (5, .int (zI (i : Int)))]) C dL_law_1877  (by decide) rfl ?_
  refine zv_aload_n C 4 dL_law_1879 rfl rfl ?_
  refine zv_cviD (st := []) C (c_X11_thrown hfl E τ1874) mX11_thrown kL_200 (by decide : kd 327 = 10) rfl rfl rfl ⟨rfl, rfl⟩ (show zfit (zrm 0 0) 1 room_1 = true from rfl) (Nat.le_of_ble_eq_true rfl) dL_law_1880 ⟨by omega, by omega⟩ ?_
  refine zv_eqi (y := (zI 1)) (ht2) ?_
  refine zv_iload C 1 dL_law_1883 rfl ?_
  refine zv_icmp_eqZ (tgt := 1890) C (by omega) (by omega) dL_law_1885 (by decide) (fun h1885 => ?_) (fun h1885 => ?_)
  · skip
    refine zv_iload C 1 dL_law_1890 rfl ?_
    refine zv_if_neZ (tgt := 1907) C (by omega) dL_law_1892 (by decide) (fun h1892 => ?_) (fun h1892 => absurd h1892 (by decide))
    refine zv_goto (tgt := 3624) C dL_law_1907 (by decide) ?_
    refine zv_sub (lv' := [(0, .ref b0), (1, .ref (ob E 0)), (2, .ref (ob E 327)), (3, .ref (ob E 339)), (4, .ref (ob E 340)), (5, .int (zI (i : Int)))]) [2, 3, 4, 5, 6, 7] (zcons rfl (zcons rfl (zcons rfl (zcons rfl (zcons rfl (zcons rfl rfl)))))) ?_
    exact kk _ _ _ _ (by omega) (by omega) hR2
  · exfalso
    omega
set_option maxRecDepth 20000 in
theorem lw_build_x2_x2 {p : Program} {l : Launch} {e : Env} {s : State} {m : MethodId} {args : Array Value} {below : List Frame} {meth : Method} {c : Code} {E : zE} {Q : State → Prop} {b0 L i ce sl : Nat} {xs : Nat → Int32} {σ : zS} (ni : Nat) (tx : Nat → Int) (ec : Nat) (eo : Int) (U : zSU) (S : zST) (hh : List zST) (kp : Option zST) (ou : List Nat) (n1 : Nat) (W : zLW p l s m args meth c E b0 L xs) (hi : i + 6 ≤ L) (hcs : ce + 1 ≤ room_1.cells ∧ sl + 6 ≤ room_1.slots) (hR : zRel σ (zDv.mk ni tx ec eo U S hh kp ou)) (hx1 : xs (i + 1) = (zI (n1 : Int))) (hi0 : n1 < U.nb) (hno1 : S.n < 2)  (kk : zNx p l e s m args below meth c E Q b0 i ce sl) : zV p l e room_1 s m args below meth c 9 E Q ce sl σ 1854 (lwL b0 i E) [] := by
  refine (?_ : zV p l e room_1 s m args below meth c 9 E Q ce sl σ 1854 [(0, .ref b0), (1, .ref (ob E 0)), (2, .ref (ob E 327)), (3, .ref (ob E 339)), (4, .ref (ob E 340)), (5, .int (zI (i : Int)))] [])
  have C := W.2.1
  have hfl := W.1
  have hroom : room_1.cells = 601024 ∧ room_1.slots = 7293034 := ⟨rfl, rfl⟩
  refine zv_aload_n C 1 dL_law_1854 rfl rfl ?_
  refine zv_aload_n C 0 dL_law_1855 rfl rfl ?_
  refine zv_iload C 5 dL_law_1856 rfl ?_
  refine zv_iconst (v := zI 1) C dL_law_1858 rfl ?_
  refine zv_iaddZ C dL_law_1859 ?_
  refine zv_sld (j := i + 1) (v := (zI (n1 : Int))) C W.2.2.1 W.2.2.2.1 W.2.2.2.2.1 W.2.2.2.2.2 (zI_ix (by omega)) (by omega) hx1 dL_law_1860 ?_
  refine zv_aload_n C 3 dL_law_1861 rfl rfl ?_
  refine zv_cH (st := []) C (w_x2_X10_build hfl E σ U S n1 hR.1.2.2.1 hR.1.2.2.2.1.1 (by first | assumption | omega) (by first | assumption | omega)) mL_build kL_268 rfl ⟨rfl, rfl⟩ (show zfit (zrx 10 223) 4 room_1 = true from rfl) (Nat.le_of_ble_eq_true rfl) dL_law_1862 ⟨by exact hcs.1, by exact hcs.2⟩ (fun r1862 τ1862 hp1862 => ?_)
  obtain ⟨hr0, hP9⟩ := hp1862
  refine zv_eqi (y := zI 2) hr0 ?_
  have hF9 : zFr 318 327 σ τ1862 := by rw [hP9]; exact (by first | exact zFr_refl _ _ _ | exact zFr_rW (zFr_refl _ _ _) (by omega) | exact zFr_rW (zFr_rW (zFr_refl _ _ _) (by omega)) (by omega) | exact qW_f _ _ _ _ | exact qM_f _ _ _ _ _ | exact rW2_f _ _ _ _ _ | exact rW3_f _ _ _ _ _ | exact alW_f _ _ _ _ _ | (split <;> first | exact zFr_refl _ _ _ | exact bW_f _ _ _ _) | assumption)
  have hR1 : zRel τ1862 (zDv.mk ni tx ec eo U S hh kp ou) := zRel_c hR hF9
  refine zv_istore (lv' := [(6, .int (zI 2)), (0, .ref b0), (1, .ref (ob E 0)), (2, .ref (ob E 327)), (3, .ref (ob E 339)), (4, .ref (ob E 340)), (5, .int (zI (i : Int)))]) C dL_law_1865  (by decide) rfl ?_
  refine zv_aload_n C 3 dL_law_1867 rfl rfl ?_
  refine zv_aload_n C 1 dL_law_1868 rfl rfl ?_
  refine zv_iload C 6 dL_law_1869 rfl ?_
  refine zv_iconst (v := zI 1) C dL_law_1871 rfl ?_
  refine zv_iaddZ C dL_law_1872 ?_
  refine zv_sld (j := i + 1) (v := (zI (n1 : Int))) C W.2.2.1 W.2.2.2.1 W.2.2.2.2.1 W.2.2.2.2.2 (zI_ix (by omega)) (by omega) hx1 dL_law_1873 ?_
  refine zv_cvi (st := []) C (x2_X11_build hfl E τ1862 σ U S n1 hR1.2.2.2.1 hR.1.2.2.1 hR1.2.2.2.2.2.1.1 hR.1.2.2.2.1.1 (by first | assumption | omega) (by first | assumption | omega)) mX11_build kL_270 (by decide : kd 327 = 10) rfl rfl rfl ⟨rfl, rfl⟩ (show zfit (zrm 2 46) 3 room_1 = true from rfl) (Nat.le_of_ble_eq_true rfl) dL_law_1874 ⟨by omega, by omega⟩ (fun r1874 τ1874 hp1874 => ?_)
  obtain ⟨hr2, hK2⟩ := hp1874
  refine zv_eqi (y := zI 0) hr2 ?_
  have hR2 : zRel τ1874 (zDv.mk ni tx ec eo U S hh kp ou) := zRel_m hR1 hK2
  have ht2 : gI τ1874 327 10 = zI 2 := hK2.2
  have hJ2 : gJ τ1874 339 0 = gJ τ1862 339 0 := hK2.1.2.1 339 0 (by decide)
  have hD2 : gD τ1874 340 0 = gD τ1862 340 0 := hK2.1.2.2 340 0
  refine zv_istore (lv' := [(7, .int (zI 0)), (6, .int (zI 2)), (0, .ref b0), (1, .ref (ob E 0)), (2, .ref (ob E 327)), (3, .ref (ob E 339)), (4, .ref (ob E 340)), (5, .int (zI (i : Int)))]) C dL_law_1877  (by decide) rfl ?_
  refine zv_aload_n C 4 dL_law_1879 rfl rfl ?_
  refine zv_cviD (st := []) C (c_X11_thrown hfl E τ1874) mX11_thrown kL_200 (by decide : kd 327 = 10) rfl rfl rfl ⟨rfl, rfl⟩ (show zfit (zrm 0 0) 1 room_1 = true from rfl) (Nat.le_of_ble_eq_true rfl) dL_law_1880 ⟨by omega, by omega⟩ ?_
  refine zv_eqi (y := (zI 2)) (ht2) ?_
  refine zv_iload C 1 dL_law_1883 rfl ?_
  refine zv_icmp_eqZ (tgt := 1890) C (by omega) (by omega) dL_law_1885 (by decide) (fun h1885 => ?_) (fun h1885 => ?_)
  · skip
    refine zv_iload C 1 dL_law_1890 rfl ?_
    refine zv_if_neZ (tgt := 1907) C (by omega) dL_law_1892 (by decide) (fun h1892 => ?_) (fun h1892 => absurd h1892 (by decide))
    refine zv_goto (tgt := 3624) C dL_law_1907 (by decide) ?_
    refine zv_sub (lv' := [(0, .ref b0), (1, .ref (ob E 0)), (2, .ref (ob E 327)), (3, .ref (ob E 339)), (4, .ref (ob E 340)), (5, .int (zI (i : Int)))]) [2, 3, 4, 5, 6, 7] (zcons rfl (zcons rfl (zcons rfl (zcons rfl (zcons rfl (zcons rfl rfl)))))) ?_
    exact kk _ _ _ _ (by omega) (by omega) hR2
  · exfalso
    omega
theorem LK_27 {p : Program} {l : Launch} {e : Env} {s : State} {m : MethodId} {args : Array Value} {below : List Frame} {meth : Method} {c : Code} {E : zE} {Q : State → Prop} {b0 L i ce sl : Nat} {xs : Nat → Int32} {σ : zS} (ni : Nat) (tx : Nat → Int) (ec : Nat) (eo : Int) (U : zSU) (S : zST) (hh : List zST) (kp : Option zST) (ou : List Nat) (hFN : zFN) (W : zLW p l s m args meth c E b0 L xs) (hi : i + 6 ≤ L) (hcs : ce + 1 ≤ room_1.cells ∧ sl + 6 ≤ room_1.slots) (hR : zRel σ (zDv.mk ni tx ec eo U S hh kp ou)) (kk : zNx p l e s m args below meth c E Q b0 i ce sl) : zV p l e room_1 s m args below meth c 9 E Q ce sl σ 1854 (lwL b0 i E) [] := by
  obtain ⟨v1, hx1, hv1⟩ := zI_cov (xs (i + 1))
  by_cases g1 : 0 ≤ v1 ∧ v1 < U.nb
  case neg =>
    exact lw_build_x1_x1 _ _ _ _ _ _ _ _ _ _ W hi hcs hR hx1 (by first | assumption | omega) (by first | assumption | omega) kk
  obtain ⟨n1, rfl⟩ := Int.eq_ofNat_of_zero_le (show 0 ≤ v1 by omega)
  by_cases g2 : 2 ≤ S.n
  case neg =>
    exact lw_build_x2_x2 _ _ _ _ _ _ _ _ _ _ W hi hcs hR hx1 (by first | assumption | omega) (by first | assumption | omega) kk
  exact lw_build_c_c _ _ _ _ _ _ _ _ _ _ W hi hcs hR hx1 (by first | assumption | omega) (by first | assumption | omega) kk
theorem dL_law_1910 : decode cL_law 1910 = .ok (.aload_n 1, 1) := by decide +kernel
theorem dL_law_1911 : decode cL_law 1911 = .ok (.aload_n 0, 1) := by decide +kernel
theorem dL_law_1912 : decode cL_law 1912 = .ok (.iload 5, 2) := by decide +kernel
theorem dL_law_1914 : decode cL_law 1914 = .ok (.iconst 1, 1) := by decide +kernel
theorem dL_law_1915 : decode cL_law 1915 = .ok (.iadd, 1) := by decide +kernel
theorem dL_law_1916 : decode cL_law 1916 = .ok (.iaload, 1) := by decide +kernel
theorem dL_law_1917 : decode cL_law 1917 = .ok (.aload_n 0, 1) := by decide +kernel
theorem dL_law_1918 : decode cL_law 1918 = .ok (.iload 5, 2) := by decide +kernel
theorem dL_law_1920 : decode cL_law 1920 = .ok (.iconst 2, 1) := by decide +kernel
theorem dL_law_1921 : decode cL_law 1921 = .ok (.iadd, 1) := by decide +kernel
theorem dL_law_1922 : decode cL_law 1922 = .ok (.iaload, 1) := by decide +kernel
theorem dL_law_1923 : decode cL_law 1923 = .ok (.aload_n 0, 1) := by decide +kernel
theorem dL_law_1924 : decode cL_law 1924 = .ok (.iload 5, 2) := by decide +kernel
theorem dL_law_1926 : decode cL_law 1926 = .ok (.iconst 3, 1) := by decide +kernel
theorem dL_law_1927 : decode cL_law 1927 = .ok (.iadd, 1) := by decide +kernel
theorem dL_law_1928 : decode cL_law 1928 = .ok (.iaload, 1) := by decide +kernel
theorem dL_law_1929 : decode cL_law 1929 = .ok (.aload_n 0, 1) := by decide +kernel
theorem dL_law_1930 : decode cL_law 1930 = .ok (.iload 5, 2) := by decide +kernel
theorem dL_law_1932 : decode cL_law 1932 = .ok (.iconst 4, 1) := by decide +kernel
theorem dL_law_1933 : decode cL_law 1933 = .ok (.iadd, 1) := by decide +kernel
theorem dL_law_1934 : decode cL_law 1934 = .ok (.iaload, 1) := by decide +kernel
theorem dL_law_1935 : decode cL_law 1935 = .ok (.aload_n 3, 1) := by decide +kernel
theorem dL_law_1936 : decode cL_law 1936 = .ok (.invokestatic 271, 3) := by decide +kernel
theorem dL_law_1939 : decode cL_law 1939 = .ok (.istore 6, 2) := by decide +kernel
theorem dL_law_1941 : decode cL_law 1941 = .ok (.aload_n 2, 1) := by decide +kernel
theorem dL_law_1942 : decode cL_law 1942 = .ok (.aload_n 0, 1) := by decide +kernel
theorem dL_law_1943 : decode cL_law 1943 = .ok (.iload 5, 2) := by decide +kernel
theorem dL_law_1945 : decode cL_law 1945 = .ok (.iconst 1, 1) := by decide +kernel
theorem dL_law_1946 : decode cL_law 1946 = .ok (.iadd, 1) := by decide +kernel
theorem dL_law_1947 : decode cL_law 1947 = .ok (.iaload, 1) := by decide +kernel
theorem dL_law_1948 : decode cL_law 1948 = .ok (.aload_n 0, 1) := by decide +kernel
theorem dL_law_1949 : decode cL_law 1949 = .ok (.iload 5, 2) := by decide +kernel
theorem dL_law_1951 : decode cL_law 1951 = .ok (.iconst 2, 1) := by decide +kernel
theorem dL_law_1952 : decode cL_law 1952 = .ok (.iadd, 1) := by decide +kernel
theorem dL_law_1953 : decode cL_law 1953 = .ok (.iaload, 1) := by decide +kernel
theorem dL_law_1954 : decode cL_law 1954 = .ok (.aload_n 0, 1) := by decide +kernel
theorem dL_law_1955 : decode cL_law 1955 = .ok (.iload 5, 2) := by decide +kernel
theorem dL_law_1957 : decode cL_law 1957 = .ok (.iconst 3, 1) := by decide +kernel
theorem dL_law_1958 : decode cL_law 1958 = .ok (.iadd, 1) := by decide +kernel
theorem dL_law_1959 : decode cL_law 1959 = .ok (.iaload, 1) := by decide +kernel
theorem dL_law_1960 : decode cL_law 1960 = .ok (.aload_n 0, 1) := by decide +kernel
theorem dL_law_1961 : decode cL_law 1961 = .ok (.iload 5, 2) := by decide +kernel
theorem dL_law_1963 : decode cL_law 1963 = .ok (.iconst 4, 1) := by decide +kernel
theorem dL_law_1964 : decode cL_law 1964 = .ok (.iadd, 1) := by decide +kernel
theorem dL_law_1965 : decode cL_law 1965 = .ok (.iaload, 1) := by decide +kernel
theorem dL_law_1966 : decode cL_law 1966 = .ok (.invokevirtual 274, 3) := by decide +kernel
theorem dL_law_1969 : decode cL_law 1969 = .ok (.istore 7, 2) := by decide +kernel
theorem dL_law_1971 : decode cL_law 1971 = .ok (.aload_n 2, 1) := by decide +kernel
theorem dL_law_1972 : decode cL_law 1972 = .ok (.invokevirtual 200, 3) := by decide +kernel
theorem dL_law_1975 : decode cL_law 1975 = .ok (.iload 6, 2) := by decide +kernel
theorem dL_law_1977 : decode cL_law 1977 = .ok (.if_icmp .eq 5, 3) := by decide +kernel
theorem dL_law_1980 : decode cL_law 1980 = .ok (.iconst 0, 1) := by decide +kernel
theorem dL_law_1981 : decode cL_law 1981 = .ok (.ireturn, 1) := by decide +kernel
theorem dL_law_1982 : decode cL_law 1982 = .ok (.iload 6, 2) := by decide +kernel
theorem dL_law_1984 : decode cL_law 1984 = .ok (.ifCond .ne 15, 3) := by decide +kernel
theorem dL_law_1987 : decode cL_law 1987 = .ok (.aload_n 3, 1) := by decide +kernel
theorem dL_law_1988 : decode cL_law 1988 = .ok (.iconst 0, 1) := by decide +kernel
theorem dL_law_1989 : decode cL_law 1989 = .ok (.laload, 1) := by decide +kernel
theorem dL_law_1990 : decode cL_law 1990 = .ok (.iload 7, 2) := by decide +kernel
theorem dL_law_1992 : decode cL_law 1992 = .ok (.i2l, 1) := by decide +kernel
theorem dL_law_1993 : decode cL_law 1993 = .ok (.lcmp, 1) := by decide +kernel
theorem dL_law_1994 : decode cL_law 1994 = .ok (.ifCond .eq 5, 3) := by decide +kernel
theorem dL_law_1997 : decode cL_law 1997 = .ok (.iconst 0, 1) := by decide +kernel
theorem dL_law_1998 : decode cL_law 1998 = .ok (.ireturn, 1) := by decide +kernel
theorem dL_law_1999 : decode cL_law 1999 = .ok (.goto 1625, 3) := by decide +kernel
set_option maxRecDepth 20000 in
theorem lw_addPart_c_c {p : Program} {l : Launch} {e : Env} {s : State} {m : MethodId} {args : Array Value} {below : List Frame} {meth : Method} {c : Code} {E : zE} {Q : State → Prop} {b0 L i ce sl : Nat} {xs : Nat → Int32} {σ : zS} (ni : Nat) (tx : Nat → Int) (ec : Nat) (eo : Int) (U : zSU) (S : zST) (hh : List zST) (kp : Option zST) (ou : List Nat) (n1 : Nat) (n2 : Nat) (n3 : Nat) (n4 : Nat) (W : zLW p l s m args meth c E b0 L xs) (hi : i + 6 ≤ L) (hcs : ce + 1 ≤ room_1.cells ∧ sl + 6 ≤ room_1.slots) (hR : zRel σ (zDv.mk ni tx ec eo U S hh kp ou)) (hx1 : xs (i + 1) = (zI (n1 : Int))) (hx2 : xs (i + 2) = (zI (n2 : Int))) (hx3 : xs (i + 3) = (zI (n3 : Int))) (hx4 : xs (i + 4) = (zI (n4 : Int))) (hi0 : n1 < U.nb) (ha1 : n2 ≤ 2) (hb2 : 8 ≤ n3 ∧ n3 ≤ 100) (hd13 : n2 = 2 → n4 = 0) (hd24 : n2 ≠ 2 → 8 ≤ n4 ∧ n4 ≤ 100) (hroom5 : S.tn n1 < 4 ∧ (n2 = 2 ∨ tGe (S.tr n1) (S.tn n1) < 2))  (kk : zNx p l e s m args below meth c E Q b0 i ce sl) : zV p l e room_1 s m args below meth c 9 E Q ce sl σ 1910 (lwL b0 i E) [] := by
  refine (?_ : zV p l e room_1 s m args below meth c 9 E Q ce sl σ 1910 [(0, .ref b0), (1, .ref (ob E 0)), (2, .ref (ob E 327)), (3, .ref (ob E 339)), (4, .ref (ob E 340)), (5, .int (zI (i : Int)))] [])
  have C := W.2.1
  have hfl := W.1
  have hroom : room_1.cells = 601024 ∧ room_1.slots = 7293034 := ⟨rfl, rfl⟩
  refine zv_aload_n C 1 dL_law_1910 rfl rfl ?_
  refine zv_aload_n C 0 dL_law_1911 rfl rfl ?_
  refine zv_iload C 5 dL_law_1912 rfl ?_
  refine zv_iconst (v := zI 1) C dL_law_1914 rfl ?_
  refine zv_iaddZ C dL_law_1915 ?_
  refine zv_sld (j := i + 1) (v := (zI (n1 : Int))) C W.2.2.1 W.2.2.2.1 W.2.2.2.2.1 W.2.2.2.2.2 (zI_ix (by omega)) (by omega) hx1 dL_law_1916 ?_
  refine zv_aload_n C 0 dL_law_1917 rfl rfl ?_
  refine zv_iload C 5 dL_law_1918 rfl ?_
  refine zv_iconst (v := zI 2) C dL_law_1920 rfl ?_
  refine zv_iaddZ C dL_law_1921 ?_
  refine zv_sld (j := i + 2) (v := (zI (n2 : Int))) C W.2.2.1 W.2.2.2.1 W.2.2.2.2.1 W.2.2.2.2.2 (zI_ix (by omega)) (by omega) hx2 dL_law_1922 ?_
  refine zv_aload_n C 0 dL_law_1923 rfl rfl ?_
  refine zv_iload C 5 dL_law_1924 rfl ?_
  refine zv_iconst (v := zI 3) C dL_law_1926 rfl ?_
  refine zv_iaddZ C dL_law_1927 ?_
  refine zv_sld (j := i + 3) (v := (zI (n3 : Int))) C W.2.2.1 W.2.2.2.1 W.2.2.2.2.1 W.2.2.2.2.2 (zI_ix (by omega)) (by omega) hx3 dL_law_1928 ?_
  refine zv_aload_n C 0 dL_law_1929 rfl rfl ?_
  refine zv_iload C 5 dL_law_1930 rfl ?_
  refine zv_iconst (v := zI 4) C dL_law_1932 rfl ?_
  refine zv_iaddZ C dL_law_1933 ?_
  refine zv_sld (j := i + 4) (v := (zI (n4 : Int))) C W.2.2.1 W.2.2.2.1 W.2.2.2.2.1 W.2.2.2.2.2 (zI_ix (by omega)) (by omega) hx4 dL_law_1934 ?_
  refine zv_aload_n C 3 dL_law_1935 rfl rfl ?_
  refine zv_cH (st := []) C (w_c_X10_addPart hfl E σ ni tx ec eo U S hh kp ou n1 n2 n3 n4 hR.1 (by first | assumption | omega) (by first | assumption | omega) (by first | assumption | omega) (by first | assumption | omega) (by first | assumption | omega) (by first | assumption | omega)) mL_addPart kL_271 rfl ⟨rfl, rfl⟩ (show zfit (zrm 5 149) 7 room_1 = true from rfl) (Nat.le_of_ble_eq_true rfl) dL_law_1936 ⟨by omega, by omega⟩ (fun r1936 τ1936 hp1936 => ?_)
  obtain ⟨hr0, v9, υ9, hP9, hτ9⟩ := hp1936
  refine zv_eqi (y := zI 0) hr0 ?_
  obtain ⟨hv9, hC9, hF9⟩ := hP9
  have hC1 := zCP_w (τ := τ1936) hC9 (fun x y hx => by rw [hτ9]; exact ⟨rfl, by first | rfl | rw [gJ_sJ, if_neg (by omega)]⟩)
  have hM1 : zMP τ1936 (zDv.mk ni tx ec eo U S hh kp ou) := by rw [hτ9]; exact (zMP_fr hR.2 hF9 : zMP υ9 (zDv.mk ni tx ec eo U S hh kp ou))
  have ho9 : gJ τ1936 339 0 = v9.toInt64 := by rw [hτ9, gJ_sJ, if_pos ⟨rfl, rfl⟩]
  rw [hv9] at ho9
  refine zv_istore (lv' := [(6, .int (zI 0)), (0, .ref b0), (1, .ref (ob E 0)), (2, .ref (ob E 327)), (3, .ref (ob E 339)), (4, .ref (ob E 340)), (5, .int (zI (i : Int)))]) C dL_law_1939  (by decide) rfl ?_
  refine zv_aload_n C 3 dL_law_1941 rfl rfl ?_
  refine zv_aload_n C 1 dL_law_1942 rfl rfl ?_
  refine zv_iload C 6 dL_law_1943 rfl ?_
  refine zv_iconst (v := zI 1) C dL_law_1945 rfl ?_
  refine zv_iaddZ C dL_law_1946 ?_
  refine zv_sld (j := i + 1) (v := (zI (n1 : Int))) C W.2.2.1 W.2.2.2.1 W.2.2.2.2.1 W.2.2.2.2.2 (zI_ix (by omega)) (by omega) hx1 dL_law_1947 ?_
  refine zv_aload_n C 1 dL_law_1948 rfl rfl ?_
  refine zv_iload C 6 dL_law_1949 rfl ?_
  refine zv_iconst (v := zI 2) C dL_law_1951 rfl ?_
  refine zv_iaddZ C dL_law_1952 ?_
  refine zv_sld (j := i + 2) (v := (zI (n2 : Int))) C W.2.2.1 W.2.2.2.1 W.2.2.2.2.1 W.2.2.2.2.2 (zI_ix (by omega)) (by omega) hx2 dL_law_1953 ?_
  refine zv_aload_n C 1 dL_law_1954 rfl rfl ?_
  refine zv_iload C 6 dL_law_1955 rfl ?_
  refine zv_iconst (v := zI 3) C dL_law_1957 rfl ?_
  refine zv_iaddZ C dL_law_1958 ?_
  refine zv_sld (j := i + 3) (v := (zI (n3 : Int))) C W.2.2.1 W.2.2.2.1 W.2.2.2.2.1 W.2.2.2.2.2 (zI_ix (by omega)) (by omega) hx3 dL_law_1959 ?_
  refine zv_aload_n C 1 dL_law_1960 rfl rfl ?_
  refine zv_iload C 6 dL_law_1961 rfl ?_
  refine zv_iconst (v := zI 4) C dL_law_1963 rfl ?_
  refine zv_iaddZ C dL_law_1964 ?_
  refine zv_sld (j := i + 4) (v := (zI (n4 : Int))) C W.2.2.1 W.2.2.2.1 W.2.2.2.2.1 W.2.2.2.2.2 (zI_ix (by omega)) (by omega) hx4 dL_law_1965 ?_
  refine zv_cvi (st := []) C (c_X11_addPart hfl E τ1936 σ ni tx ec eo U S hh kp ou n1 n2 n3 n4 hM1 hR.1.2.2.1 hR.1.2.2.2.1.1 (by first | assumption | omega) (by first | assumption | omega) (by first | assumption | omega) (by first | assumption | omega) (by first | assumption | omega) (by first | assumption | omega)) mX11_addPart kL_274 (by decide : kd 327 = 10) rfl rfl rfl ⟨rfl, rfl⟩ (show zfit (zrm 4 89) 5 room_1 = true from rfl) (Nat.le_of_ble_eq_true rfl) dL_law_1966 ⟨by omega, by omega⟩ (fun r1966 τ1966 hp1966 => ?_)
  obtain ⟨hr2, hK2⟩ := hp1966
  refine zv_eqi (y := zI ((S.tn n1 + 1 : Nat) : Int)) hr2 ?_
  have hR2 : zRel τ1966 _ := ⟨zCP_fr hC1 hK2.2.2, hK2.1⟩
  have ht2 : gI τ1966 327 10 = zI 0 := hK2.2.1
  have hJ2 : gJ τ1966 339 0 = gJ τ1936 339 0 := hK2.2.2.2.1 339 0 (by decide)
  refine zv_istore (lv' := [(7, .int (zI ((S.tn n1 + 1 : Nat) : Int))), (6, .int (zI 0)), (0, .ref b0), (1, .ref (ob E 0)), (2, .ref (ob E 327)), (3, .ref (ob E 339)), (4, .ref (ob E 340)), (5, .int (zI (i : Int)))]) C dL_law_1969  (by decide) rfl ?_
  refine zv_aload_n C 4 dL_law_1971 rfl rfl ?_
  refine zv_cviD (st := []) C (c_X11_thrown hfl E τ1966) mX11_thrown kL_200 (by decide : kd 327 = 10) rfl rfl rfl ⟨rfl, rfl⟩ (show zfit (zrm 0 0) 1 room_1 = true from rfl) (Nat.le_of_ble_eq_true rfl) dL_law_1972 ⟨by omega, by omega⟩ ?_
  refine zv_eqi (y := (zI 0)) (ht2) ?_
  refine zv_iload C 1 dL_law_1975 rfl ?_
  refine zv_icmp_eqZ (tgt := 1982) C (by omega) (by omega) dL_law_1977 (by decide) (fun h1977 => ?_) (fun h1977 => ?_)
  · skip
    refine zv_iload C 1 dL_law_1982 rfl ?_
    refine zv_if_neZ (tgt := 1999) C (by omega) dL_law_1984 (by decide) (fun h1984 => absurd h1984 (by decide)) (fun h1984 => ?_)
    refine zv_aload_n C 5 dL_law_1987 rfl rfl ?_
    refine zv_iconst (v := zI 0) C dL_law_1988 rfl ?_
    refine zv_lald (j := 0) C (by decide : kd 339 = _) (zI_ix (by omega)) (by decide) dL_law_1989 ?_
    refine zv_eql (y := ((zI ((S.tn n1 + 1 : Nat) : Int)).toInt64)) (hJ2.trans ho9) ?_
    refine zv_iload C 0 dL_law_1990 rfl ?_
    refine zv_i2l C dL_law_1992 ?_
    refine zv_lc_eq (tgt := 1999) C dL_law_1993 dL_law_1994 (by decide) (fun h1993 => ?_) (fun h1993 => ?_)
    · skip
      refine zv_goto (tgt := 3624) C dL_law_1999 (by decide) ?_
      refine zv_sub (lv' := [(0, .ref b0), (1, .ref (ob E 0)), (2, .ref (ob E 327)), (3, .ref (ob E 339)), (4, .ref (ob E 340)), (5, .int (zI (i : Int)))]) [2, 3, 4, 5, 6, 7] (zcons rfl (zcons rfl (zcons rfl (zcons rfl (zcons rfl (zcons rfl rfl)))))) ?_
      exact kk _ _ _ _ (by omega) (by omega) hR2
    · exfalso
      exact h1993 rfl
  · exfalso
    omega
set_option maxRecDepth 20000 in
theorem lw_addPart_x1_x1 {p : Program} {l : Launch} {e : Env} {s : State} {m : MethodId} {args : Array Value} {below : List Frame} {meth : Method} {c : Code} {E : zE} {Q : State → Prop} {b0 L i ce sl : Nat} {xs : Nat → Int32} {σ : zS} (ni : Nat) (tx : Nat → Int) (ec : Nat) (eo : Int) (U : zSU) (S : zST) (hh : List zST) (kp : Option zST) (ou : List Nat) (v1 : Int) (v2 : Int) (v3 : Int) (v4 : Int) (W : zLW p l s m args meth c E b0 L xs) (hi : i + 6 ≤ L) (hcs : ce + 1 ≤ room_1.cells ∧ sl + 6 ≤ room_1.slots) (hR : zRel σ (zDv.mk ni tx ec eo U S hh kp ou)) (hx1 : xs (i + 1) = (zI v1)) (hx2 : xs (i + 2) = (zI v2)) (hx3 : xs (i + 3) = (zI v3)) (hx4 : xs (i + 4) = (zI v4)) (hbi0 : -2147483648 ≤ v1 ∧ v1 < 2147483648) (hno1 : ¬ (0 ≤ v1 ∧ v1 < U.nb))  (kk : zNx p l e s m args below meth c E Q b0 i ce sl) : zV p l e room_1 s m args below meth c 9 E Q ce sl σ 1910 (lwL b0 i E) [] := by
  refine (?_ : zV p l e room_1 s m args below meth c 9 E Q ce sl σ 1910 [(0, .ref b0), (1, .ref (ob E 0)), (2, .ref (ob E 327)), (3, .ref (ob E 339)), (4, .ref (ob E 340)), (5, .int (zI (i : Int)))] [])
  have C := W.2.1
  have hfl := W.1
  have hroom : room_1.cells = 601024 ∧ room_1.slots = 7293034 := ⟨rfl, rfl⟩
  refine zv_aload_n C 1 dL_law_1910 rfl rfl ?_
  refine zv_aload_n C 0 dL_law_1911 rfl rfl ?_
  refine zv_iload C 5 dL_law_1912 rfl ?_
  refine zv_iconst (v := zI 1) C dL_law_1914 rfl ?_
  refine zv_iaddZ C dL_law_1915 ?_
  refine zv_sld (j := i + 1) (v := (zI v1)) C W.2.2.1 W.2.2.2.1 W.2.2.2.2.1 W.2.2.2.2.2 (zI_ix (by omega)) (by omega) hx1 dL_law_1916 ?_
  refine zv_aload_n C 0 dL_law_1917 rfl rfl ?_
  refine zv_iload C 5 dL_law_1918 rfl ?_
  refine zv_iconst (v := zI 2) C dL_law_1920 rfl ?_
  refine zv_iaddZ C dL_law_1921 ?_
  refine zv_sld (j := i + 2) (v := (zI v2)) C W.2.2.1 W.2.2.2.1 W.2.2.2.2.1 W.2.2.2.2.2 (zI_ix (by omega)) (by omega) hx2 dL_law_1922 ?_
  refine zv_aload_n C 0 dL_law_1923 rfl rfl ?_
  refine zv_iload C 5 dL_law_1924 rfl ?_
  refine zv_iconst (v := zI 3) C dL_law_1926 rfl ?_
  refine zv_iaddZ C dL_law_1927 ?_
  refine zv_sld (j := i + 3) (v := (zI v3)) C W.2.2.1 W.2.2.2.1 W.2.2.2.2.1 W.2.2.2.2.2 (zI_ix (by omega)) (by omega) hx3 dL_law_1928 ?_
  refine zv_aload_n C 0 dL_law_1929 rfl rfl ?_
  refine zv_iload C 5 dL_law_1930 rfl ?_
  refine zv_iconst (v := zI 4) C dL_law_1932 rfl ?_
  refine zv_iaddZ C dL_law_1933 ?_
  refine zv_sld (j := i + 4) (v := (zI v4)) C W.2.2.1 W.2.2.2.1 W.2.2.2.2.1 W.2.2.2.2.2 (zI_ix (by omega)) (by omega) hx4 dL_law_1934 ?_
  refine zv_aload_n C 3 dL_law_1935 rfl rfl ?_
  refine zv_cH (st := []) C (w_x1_X10_addPart hfl E σ U v1 v2 v3 v4 hR.1.2.2.1 (by first | assumption | omega) (by first | assumption | omega)) mL_addPart kL_271 rfl ⟨rfl, rfl⟩ (show zfit (zrx 10 225) 7 room_1 = true from rfl) (Nat.le_of_ble_eq_true rfl) dL_law_1936 ⟨by exact hcs.1, by exact hcs.2⟩ (fun r1936 τ1936 hp1936 => ?_)
  obtain ⟨hr0, hP9⟩ := hp1936
  refine zv_eqi (y := zI 1) hr0 ?_
  have hF9 : zFr 318 327 σ τ1936 := by rw [hP9]; exact (by first | exact zFr_refl _ _ _ | exact zFr_rW (zFr_refl _ _ _) (by omega) | exact zFr_rW (zFr_rW (zFr_refl _ _ _) (by omega)) (by omega) | exact qW_f _ _ _ _ | exact qM_f _ _ _ _ _ | exact rW2_f _ _ _ _ _ | exact rW3_f _ _ _ _ _ | exact alW_f _ _ _ _ _ | (split <;> first | exact zFr_refl _ _ _ | exact bW_f _ _ _ _) | assumption)
  have hR1 : zRel τ1936 (zDv.mk ni tx ec eo U S hh kp ou) := zRel_c hR hF9
  refine zv_istore (lv' := [(6, .int (zI 1)), (0, .ref b0), (1, .ref (ob E 0)), (2, .ref (ob E 327)), (3, .ref (ob E 339)), (4, .ref (ob E 340)), (5, .int (zI (i : Int)))]) C dL_law_1939  (by decide) rfl ?_
  refine zv_aload_n C 3 dL_law_1941 rfl rfl ?_
  refine zv_aload_n C 1 dL_law_1942 rfl rfl ?_
  refine zv_iload C 6 dL_law_1943 rfl ?_
  refine zv_iconst (v := zI 1) C dL_law_1945 rfl ?_
  refine zv_iaddZ C dL_law_1946 ?_
  refine zv_sld (j := i + 1) (v := (zI v1)) C W.2.2.1 W.2.2.2.1 W.2.2.2.2.1 W.2.2.2.2.2 (zI_ix (by omega)) (by omega) hx1 dL_law_1947 ?_
  refine zv_aload_n C 1 dL_law_1948 rfl rfl ?_
  refine zv_iload C 6 dL_law_1949 rfl ?_
  refine zv_iconst (v := zI 2) C dL_law_1951 rfl ?_
  refine zv_iaddZ C dL_law_1952 ?_
  refine zv_sld (j := i + 2) (v := (zI v2)) C W.2.2.1 W.2.2.2.1 W.2.2.2.2.1 W.2.2.2.2.2 (zI_ix (by omega)) (by omega) hx2 dL_law_1953 ?_
  refine zv_aload_n C 1 dL_law_1954 rfl rfl ?_
  refine zv_iload C 6 dL_law_1955 rfl ?_
  refine zv_iconst (v := zI 3) C dL_law_1957 rfl ?_
  refine zv_iaddZ C dL_law_1958 ?_
  refine zv_sld (j := i + 3) (v := (zI v3)) C W.2.2.1 W.2.2.2.1 W.2.2.2.2.1 W.2.2.2.2.2 (zI_ix (by omega)) (by omega) hx3 dL_law_1959 ?_
  refine zv_aload_n C 1 dL_law_1960 rfl rfl ?_
  refine zv_iload C 6 dL_law_1961 rfl ?_
  refine zv_iconst (v := zI 4) C dL_law_1963 rfl ?_
  refine zv_iaddZ C dL_law_1964 ?_
  refine zv_sld (j := i + 4) (v := (zI v4)) C W.2.2.1 W.2.2.2.1 W.2.2.2.2.1 W.2.2.2.2.2 (zI_ix (by omega)) (by omega) hx4 dL_law_1965 ?_
  refine zv_cvi (st := []) C (x1_X11_addPart hfl E τ1936 σ U v1 v2 v3 v4 hR1.2.2.2.1 hR.1.2.2.1 (by first | assumption | omega) (by first | assumption | omega)) mX11_addPart kL_274 (by decide : kd 327 = 10) rfl rfl rfl ⟨rfl, rfl⟩ (show zfit (zrm 4 89) 5 room_1 = true from rfl) (Nat.le_of_ble_eq_true rfl) dL_law_1966 ⟨by omega, by omega⟩ (fun r1966 τ1966 hp1966 => ?_)
  obtain ⟨hr2, hK2⟩ := hp1966
  refine zv_eqi (y := zI 0) hr2 ?_
  have hR2 : zRel τ1966 (zDv.mk ni tx ec eo U S hh kp ou) := zRel_m hR1 hK2
  have ht2 : gI τ1966 327 10 = zI 1 := hK2.2
  have hJ2 : gJ τ1966 339 0 = gJ τ1936 339 0 := hK2.1.2.1 339 0 (by decide)
  have hD2 : gD τ1966 340 0 = gD τ1936 340 0 := hK2.1.2.2 340 0
  refine zv_istore (lv' := [(7, .int (zI 0)), (6, .int (zI 1)), (0, .ref b0), (1, .ref (ob E 0)), (2, .ref (ob E 327)), (3, .ref (ob E 339)), (4, .ref (ob E 340)), (5, .int (zI (i : Int)))]) C dL_law_1969  (by decide) rfl ?_
  refine zv_aload_n C 4 dL_law_1971 rfl rfl ?_
  refine zv_cviD (st := []) C (c_X11_thrown hfl E τ1966) mX11_thrown kL_200 (by decide : kd 327 = 10) rfl rfl rfl ⟨rfl, rfl⟩ (show zfit (zrm 0 0) 1 room_1 = true from rfl) (Nat.le_of_ble_eq_true rfl) dL_law_1972 ⟨by omega, by omega⟩ ?_
  refine zv_eqi (y := (zI 1)) (ht2) ?_
  refine zv_iload C 1 dL_law_1975 rfl ?_
  refine zv_icmp_eqZ (tgt := 1982) C (by omega) (by omega) dL_law_1977 (by decide) (fun h1977 => ?_) (fun h1977 => ?_)
  · skip
    refine zv_iload C 1 dL_law_1982 rfl ?_
    refine zv_if_neZ (tgt := 1999) C (by omega) dL_law_1984 (by decide) (fun h1984 => ?_) (fun h1984 => absurd h1984 (by decide))
    refine zv_goto (tgt := 3624) C dL_law_1999 (by decide) ?_
    refine zv_sub (lv' := [(0, .ref b0), (1, .ref (ob E 0)), (2, .ref (ob E 327)), (3, .ref (ob E 339)), (4, .ref (ob E 340)), (5, .int (zI (i : Int)))]) [2, 3, 4, 5, 6, 7] (zcons rfl (zcons rfl (zcons rfl (zcons rfl (zcons rfl (zcons rfl rfl)))))) ?_
    exact kk _ _ _ _ (by omega) (by omega) hR2
  · exfalso
    omega
set_option maxRecDepth 20000 in
theorem lw_addPart_x2_x2 {p : Program} {l : Launch} {e : Env} {s : State} {m : MethodId} {args : Array Value} {below : List Frame} {meth : Method} {c : Code} {E : zE} {Q : State → Prop} {b0 L i ce sl : Nat} {xs : Nat → Int32} {σ : zS} (ni : Nat) (tx : Nat → Int) (ec : Nat) (eo : Int) (U : zSU) (S : zST) (hh : List zST) (kp : Option zST) (ou : List Nat) (n1 : Nat) (v2 : Int) (v3 : Int) (v4 : Int) (W : zLW p l s m args meth c E b0 L xs) (hi : i + 6 ≤ L) (hcs : ce + 1 ≤ room_1.cells ∧ sl + 6 ≤ room_1.slots) (hR : zRel σ (zDv.mk ni tx ec eo U S hh kp ou)) (hx1 : xs (i + 1) = (zI (n1 : Int))) (hx2 : xs (i + 2) = (zI v2)) (hx3 : xs (i + 3) = (zI v3)) (hx4 : xs (i + 4) = (zI v4)) (hi0 : n1 < U.nb) (hyi1 : -2147483648 ≤ v2 ∧ v2 < 2147483648) (hno2 : ¬ (0 ≤ v2 ∧ v2 ≤ 2)) (hvr : (-2147483648 ≤ v3 ∧ v3 < 2147483648) ∧ -2147483648 ≤ v4 ∧ v4 < 2147483648) (kk : zNx p l e s m args below meth c E Q b0 i ce sl) : zV p l e room_1 s m args below meth c 9 E Q ce sl σ 1910 (lwL b0 i E) [] := by
  refine (?_ : zV p l e room_1 s m args below meth c 9 E Q ce sl σ 1910 [(0, .ref b0), (1, .ref (ob E 0)), (2, .ref (ob E 327)), (3, .ref (ob E 339)), (4, .ref (ob E 340)), (5, .int (zI (i : Int)))] [])
  have C := W.2.1
  have hfl := W.1
  have hroom : room_1.cells = 601024 ∧ room_1.slots = 7293034 := ⟨rfl, rfl⟩
  refine zv_aload_n C 1 dL_law_1910 rfl rfl ?_
  refine zv_aload_n C 0 dL_law_1911 rfl rfl ?_
  refine zv_iload C 5 dL_law_1912 rfl ?_
  refine zv_iconst (v := zI 1) C dL_law_1914 rfl ?_
  refine zv_iaddZ C dL_law_1915 ?_
  refine zv_sld (j := i + 1) (v := (zI (n1 : Int))) C W.2.2.1 W.2.2.2.1 W.2.2.2.2.1 W.2.2.2.2.2 (zI_ix (by omega)) (by omega) hx1 dL_law_1916 ?_
  refine zv_aload_n C 0 dL_law_1917 rfl rfl ?_
  refine zv_iload C 5 dL_law_1918 rfl ?_
  refine zv_iconst (v := zI 2) C dL_law_1920 rfl ?_
  refine zv_iaddZ C dL_law_1921 ?_
  refine zv_sld (j := i + 2) (v := (zI v2)) C W.2.2.1 W.2.2.2.1 W.2.2.2.2.1 W.2.2.2.2.2 (zI_ix (by omega)) (by omega) hx2 dL_law_1922 ?_
  refine zv_aload_n C 0 dL_law_1923 rfl rfl ?_
  refine zv_iload C 5 dL_law_1924 rfl ?_
  refine zv_iconst (v := zI 3) C dL_law_1926 rfl ?_
  refine zv_iaddZ C dL_law_1927 ?_
  refine zv_sld (j := i + 3) (v := (zI v3)) C W.2.2.1 W.2.2.2.1 W.2.2.2.2.1 W.2.2.2.2.2 (zI_ix (by omega)) (by omega) hx3 dL_law_1928 ?_
  refine zv_aload_n C 0 dL_law_1929 rfl rfl ?_
  refine zv_iload C 5 dL_law_1930 rfl ?_
  refine zv_iconst (v := zI 4) C dL_law_1932 rfl ?_
  refine zv_iaddZ C dL_law_1933 ?_
  refine zv_sld (j := i + 4) (v := (zI v4)) C W.2.2.1 W.2.2.2.1 W.2.2.2.2.1 W.2.2.2.2.2 (zI_ix (by omega)) (by omega) hx4 dL_law_1934 ?_
  refine zv_aload_n C 3 dL_law_1935 rfl rfl ?_
  refine zv_cH (st := []) C (w_x2_X10_addPart hfl E σ U n1 v2 v3 v4 hR.1.2.2.1 (by first | assumption | omega) (by first | assumption | omega) (by first | assumption | omega)) mL_addPart kL_271 rfl ⟨rfl, rfl⟩ (show zfit (zrx 10 225) 7 room_1 = true from rfl) (Nat.le_of_ble_eq_true rfl) dL_law_1936 ⟨by exact hcs.1, by exact hcs.2⟩ (fun r1936 τ1936 hp1936 => ?_)
  obtain ⟨hr0, hP9⟩ := hp1936
  refine zv_eqi (y := zI 2) hr0 ?_
  have hF9 : zFr 318 327 σ τ1936 := by rw [hP9]; exact (by first | exact zFr_refl _ _ _ | exact zFr_rW (zFr_refl _ _ _) (by omega) | exact zFr_rW (zFr_rW (zFr_refl _ _ _) (by omega)) (by omega) | exact qW_f _ _ _ _ | exact qM_f _ _ _ _ _ | exact rW2_f _ _ _ _ _ | exact rW3_f _ _ _ _ _ | exact alW_f _ _ _ _ _ | (split <;> first | exact zFr_refl _ _ _ | exact bW_f _ _ _ _) | assumption)
  have hR1 : zRel τ1936 (zDv.mk ni tx ec eo U S hh kp ou) := zRel_c hR hF9
  refine zv_istore (lv' := [(6, .int (zI 2)), (0, .ref b0), (1, .ref (ob E 0)), (2, .ref (ob E 327)), (3, .ref (ob E 339)), (4, .ref (ob E 340)), (5, .int (zI (i : Int)))]) C dL_law_1939  (by decide) rfl ?_
  refine zv_aload_n C 3 dL_law_1941 rfl rfl ?_
  refine zv_aload_n C 1 dL_law_1942 rfl rfl ?_
  refine zv_iload C 6 dL_law_1943 rfl ?_
  refine zv_iconst (v := zI 1) C dL_law_1945 rfl ?_
  refine zv_iaddZ C dL_law_1946 ?_
  refine zv_sld (j := i + 1) (v := (zI (n1 : Int))) C W.2.2.1 W.2.2.2.1 W.2.2.2.2.1 W.2.2.2.2.2 (zI_ix (by omega)) (by omega) hx1 dL_law_1947 ?_
  refine zv_aload_n C 1 dL_law_1948 rfl rfl ?_
  refine zv_iload C 6 dL_law_1949 rfl ?_
  refine zv_iconst (v := zI 2) C dL_law_1951 rfl ?_
  refine zv_iaddZ C dL_law_1952 ?_
  refine zv_sld (j := i + 2) (v := (zI v2)) C W.2.2.1 W.2.2.2.1 W.2.2.2.2.1 W.2.2.2.2.2 (zI_ix (by omega)) (by omega) hx2 dL_law_1953 ?_
  refine zv_aload_n C 1 dL_law_1954 rfl rfl ?_
  refine zv_iload C 6 dL_law_1955 rfl ?_
  refine zv_iconst (v := zI 3) C dL_law_1957 rfl ?_
  refine zv_iaddZ C dL_law_1958 ?_
  refine zv_sld (j := i + 3) (v := (zI v3)) C W.2.2.1 W.2.2.2.1 W.2.2.2.2.1 W.2.2.2.2.2 (zI_ix (by omega)) (by omega) hx3 dL_law_1959 ?_
  refine zv_aload_n C 1 dL_law_1960 rfl rfl ?_
  refine zv_iload C 6 dL_law_1961 rfl ?_
  refine zv_iconst (v := zI 4) C dL_law_1963 rfl ?_
  refine zv_iaddZ C dL_law_1964 ?_
  refine zv_sld (j := i + 4) (v := (zI v4)) C W.2.2.1 W.2.2.2.1 W.2.2.2.2.1 W.2.2.2.2.2 (zI_ix (by omega)) (by omega) hx4 dL_law_1965 ?_
  refine zv_cvi (st := []) C (x2_X11_addPart hfl E τ1936 σ U n1 v2 v3 v4 hR1.2.2.2.1 hR.1.2.2.1 (by first | assumption | omega) (by first | assumption | omega) (by first | assumption | omega) (by first | assumption | omega) (by first | assumption | omega)) mX11_addPart kL_274 (by decide : kd 327 = 10) rfl rfl rfl ⟨rfl, rfl⟩ (show zfit (zrm 4 89) 5 room_1 = true from rfl) (Nat.le_of_ble_eq_true rfl) dL_law_1966 ⟨by omega, by omega⟩ (fun r1966 τ1966 hp1966 => ?_)
  obtain ⟨hr2, hK2⟩ := hp1966
  refine zv_eqi (y := zI 0) hr2 ?_
  have hR2 : zRel τ1966 (zDv.mk ni tx ec eo U S hh kp ou) := zRel_m hR1 hK2
  have ht2 : gI τ1966 327 10 = zI 2 := hK2.2
  have hJ2 : gJ τ1966 339 0 = gJ τ1936 339 0 := hK2.1.2.1 339 0 (by decide)
  have hD2 : gD τ1966 340 0 = gD τ1936 340 0 := hK2.1.2.2 340 0
  refine zv_istore (lv' := [(7, .int (zI 0)), (6, .int (zI 2)), (0, .ref b0), (1, .ref (ob E 0)), (2, .ref (ob E 327)), (3, .ref (ob E 339)), (4, .ref (ob E 340)), (5, .int (zI (i : Int)))]) C dL_law_1969  (by decide) rfl ?_
  refine zv_aload_n C 4 dL_law_1971 rfl rfl ?_
  refine zv_cviD (st := []) C (c_X11_thrown hfl E τ1966) mX11_thrown kL_200 (by decide : kd 327 = 10) rfl rfl rfl ⟨rfl, rfl⟩ (show zfit (zrm 0 0) 1 room_1 = true from rfl) (Nat.le_of_ble_eq_true rfl) dL_law_1972 ⟨by omega, by omega⟩ ?_
  refine zv_eqi (y := (zI 2)) (ht2) ?_
  refine zv_iload C 1 dL_law_1975 rfl ?_
  refine zv_icmp_eqZ (tgt := 1982) C (by omega) (by omega) dL_law_1977 (by decide) (fun h1977 => ?_) (fun h1977 => ?_)
  · skip
    refine zv_iload C 1 dL_law_1982 rfl ?_
    refine zv_if_neZ (tgt := 1999) C (by omega) dL_law_1984 (by decide) (fun h1984 => ?_) (fun h1984 => absurd h1984 (by decide))
    refine zv_goto (tgt := 3624) C dL_law_1999 (by decide) ?_
    refine zv_sub (lv' := [(0, .ref b0), (1, .ref (ob E 0)), (2, .ref (ob E 327)), (3, .ref (ob E 339)), (4, .ref (ob E 340)), (5, .int (zI (i : Int)))]) [2, 3, 4, 5, 6, 7] (zcons rfl (zcons rfl (zcons rfl (zcons rfl (zcons rfl (zcons rfl rfl)))))) ?_
    exact kk _ _ _ _ (by omega) (by omega) hR2
  · exfalso
    omega
set_option maxRecDepth 20000 in
theorem lw_addPart_x3_x2 {p : Program} {l : Launch} {e : Env} {s : State} {m : MethodId} {args : Array Value} {below : List Frame} {meth : Method} {c : Code} {E : zE} {Q : State → Prop} {b0 L i ce sl : Nat} {xs : Nat → Int32} {σ : zS} (ni : Nat) (tx : Nat → Int) (ec : Nat) (eo : Int) (U : zSU) (S : zST) (hh : List zST) (kp : Option zST) (ou : List Nat) (n1 : Nat) (v2 : Int) (v3 : Int) (v4 : Int) (W : zLW p l s m args meth c E b0 L xs) (hi : i + 6 ≤ L) (hcs : ce + 1 ≤ room_1.cells ∧ sl + 6 ≤ room_1.slots) (hR : zRel σ (zDv.mk ni tx ec eo U S hh kp ou)) (hx1 : xs (i + 1) = (zI (n1 : Int))) (hx2 : xs (i + 2) = (zI v2)) (hx3 : xs (i + 3) = (zI v3)) (hx4 : xs (i + 4) = (zI v4)) (hi0 : n1 < U.nb) (hy1 : 0 ≤ v2 ∧ v2 ≤ 2) (hzi2 : -2147483648 ≤ v3 ∧ v3 < 2147483648) (hno3 : ¬ (8 ≤ v3 ∧ v3 ≤ 100)) (hvr : -2147483648 ≤ v4 ∧ v4 < 2147483648) (kk : zNx p l e s m args below meth c E Q b0 i ce sl) : zV p l e room_1 s m args below meth c 9 E Q ce sl σ 1910 (lwL b0 i E) [] := by
  refine (?_ : zV p l e room_1 s m args below meth c 9 E Q ce sl σ 1910 [(0, .ref b0), (1, .ref (ob E 0)), (2, .ref (ob E 327)), (3, .ref (ob E 339)), (4, .ref (ob E 340)), (5, .int (zI (i : Int)))] [])
  have C := W.2.1
  have hfl := W.1
  have hroom : room_1.cells = 601024 ∧ room_1.slots = 7293034 := ⟨rfl, rfl⟩
  refine zv_aload_n C 1 dL_law_1910 rfl rfl ?_
  refine zv_aload_n C 0 dL_law_1911 rfl rfl ?_
  refine zv_iload C 5 dL_law_1912 rfl ?_
  refine zv_iconst (v := zI 1) C dL_law_1914 rfl ?_
  refine zv_iaddZ C dL_law_1915 ?_
  refine zv_sld (j := i + 1) (v := (zI (n1 : Int))) C W.2.2.1 W.2.2.2.1 W.2.2.2.2.1 W.2.2.2.2.2 (zI_ix (by omega)) (by omega) hx1 dL_law_1916 ?_
  refine zv_aload_n C 0 dL_law_1917 rfl rfl ?_
  refine zv_iload C 5 dL_law_1918 rfl ?_
  refine zv_iconst (v := zI 2) C dL_law_1920 rfl ?_
  refine zv_iaddZ C dL_law_1921 ?_
  refine zv_sld (j := i + 2) (v := (zI v2)) C W.2.2.1 W.2.2.2.1 W.2.2.2.2.1 W.2.2.2.2.2 (zI_ix (by omega)) (by omega) hx2 dL_law_1922 ?_
  refine zv_aload_n C 0 dL_law_1923 rfl rfl ?_
  refine zv_iload C 5 dL_law_1924 rfl ?_
  refine zv_iconst (v := zI 3) C dL_law_1926 rfl ?_
  refine zv_iaddZ C dL_law_1927 ?_
  refine zv_sld (j := i + 3) (v := (zI v3)) C W.2.2.1 W.2.2.2.1 W.2.2.2.2.1 W.2.2.2.2.2 (zI_ix (by omega)) (by omega) hx3 dL_law_1928 ?_
  refine zv_aload_n C 0 dL_law_1929 rfl rfl ?_
  refine zv_iload C 5 dL_law_1930 rfl ?_
  refine zv_iconst (v := zI 4) C dL_law_1932 rfl ?_
  refine zv_iaddZ C dL_law_1933 ?_
  refine zv_sld (j := i + 4) (v := (zI v4)) C W.2.2.1 W.2.2.2.1 W.2.2.2.2.1 W.2.2.2.2.2 (zI_ix (by omega)) (by omega) hx4 dL_law_1934 ?_
  refine zv_aload_n C 3 dL_law_1935 rfl rfl ?_
  refine zv_cH (st := []) C (w_x3_X10_addPart hfl E σ U n1 v2 v3 v4 hR.1.2.2.1 (by first | assumption | omega) (by first | assumption | omega) (by first | assumption | omega) (by first | assumption | omega)) mL_addPart kL_271 rfl ⟨rfl, rfl⟩ (show zfit (zrx 10 225) 7 room_1 = true from rfl) (Nat.le_of_ble_eq_true rfl) dL_law_1936 ⟨by exact hcs.1, by exact hcs.2⟩ (fun r1936 τ1936 hp1936 => ?_)
  obtain ⟨hr0, hP9⟩ := hp1936
  refine zv_eqi (y := zI 2) hr0 ?_
  have hF9 : zFr 318 327 σ τ1936 := by rw [hP9]; exact (by first | exact zFr_refl _ _ _ | exact zFr_rW (zFr_refl _ _ _) (by omega) | exact zFr_rW (zFr_rW (zFr_refl _ _ _) (by omega)) (by omega) | exact qW_f _ _ _ _ | exact qM_f _ _ _ _ _ | exact rW2_f _ _ _ _ _ | exact rW3_f _ _ _ _ _ | exact alW_f _ _ _ _ _ | (split <;> first | exact zFr_refl _ _ _ | exact bW_f _ _ _ _) | assumption)
  have hR1 : zRel τ1936 (zDv.mk ni tx ec eo U S hh kp ou) := zRel_c hR hF9
  refine zv_istore (lv' := [(6, .int (zI 2)), (0, .ref b0), (1, .ref (ob E 0)), (2, .ref (ob E 327)), (3, .ref (ob E 339)), (4, .ref (ob E 340)), (5, .int (zI (i : Int)))]) C dL_law_1939  (by decide) rfl ?_
  refine zv_aload_n C 3 dL_law_1941 rfl rfl ?_
  refine zv_aload_n C 1 dL_law_1942 rfl rfl ?_
  refine zv_iload C 6 dL_law_1943 rfl ?_
  refine zv_iconst (v := zI 1) C dL_law_1945 rfl ?_
  refine zv_iaddZ C dL_law_1946 ?_
  refine zv_sld (j := i + 1) (v := (zI (n1 : Int))) C W.2.2.1 W.2.2.2.1 W.2.2.2.2.1 W.2.2.2.2.2 (zI_ix (by omega)) (by omega) hx1 dL_law_1947 ?_
  refine zv_aload_n C 1 dL_law_1948 rfl rfl ?_
  refine zv_iload C 6 dL_law_1949 rfl ?_
  refine zv_iconst (v := zI 2) C dL_law_1951 rfl ?_
  refine zv_iaddZ C dL_law_1952 ?_
  refine zv_sld (j := i + 2) (v := (zI v2)) C W.2.2.1 W.2.2.2.1 W.2.2.2.2.1 W.2.2.2.2.2 (zI_ix (by omega)) (by omega) hx2 dL_law_1953 ?_
  refine zv_aload_n C 1 dL_law_1954 rfl rfl ?_
  refine zv_iload C 6 dL_law_1955 rfl ?_
  refine zv_iconst (v := zI 3) C dL_law_1957 rfl ?_
  refine zv_iaddZ C dL_law_1958 ?_
  refine zv_sld (j := i + 3) (v := (zI v3)) C W.2.2.1 W.2.2.2.1 W.2.2.2.2.1 W.2.2.2.2.2 (zI_ix (by omega)) (by omega) hx3 dL_law_1959 ?_
  refine zv_aload_n C 1 dL_law_1960 rfl rfl ?_
  refine zv_iload C 6 dL_law_1961 rfl ?_
  refine zv_iconst (v := zI 4) C dL_law_1963 rfl ?_
  refine zv_iaddZ C dL_law_1964 ?_
  refine zv_sld (j := i + 4) (v := (zI v4)) C W.2.2.1 W.2.2.2.1 W.2.2.2.2.1 W.2.2.2.2.2 (zI_ix (by omega)) (by omega) hx4 dL_law_1965 ?_
  refine zv_cvi (st := []) C (x2_X11_addPart hfl E τ1936 σ U n1 v2 v3 v4 hR1.2.2.2.1 hR.1.2.2.1 (by first | assumption | omega) (by first | assumption | omega) (by first | assumption | omega) (by first | assumption | omega) (by first | assumption | omega)) mX11_addPart kL_274 (by decide : kd 327 = 10) rfl rfl rfl ⟨rfl, rfl⟩ (show zfit (zrm 4 89) 5 room_1 = true from rfl) (Nat.le_of_ble_eq_true rfl) dL_law_1966 ⟨by omega, by omega⟩ (fun r1966 τ1966 hp1966 => ?_)
  obtain ⟨hr2, hK2⟩ := hp1966
  refine zv_eqi (y := zI 0) hr2 ?_
  have hR2 : zRel τ1966 (zDv.mk ni tx ec eo U S hh kp ou) := zRel_m hR1 hK2
  have ht2 : gI τ1966 327 10 = zI 2 := hK2.2
  have hJ2 : gJ τ1966 339 0 = gJ τ1936 339 0 := hK2.1.2.1 339 0 (by decide)
  have hD2 : gD τ1966 340 0 = gD τ1936 340 0 := hK2.1.2.2 340 0
  refine zv_istore (lv' := [(7, .int (zI 0)), (6, .int (zI 2)), (0, .ref b0), (1, .ref (ob E 0)), (2, .ref (ob E 327)), (3, .ref (ob E 339)), (4, .ref (ob E 340)), (5, .int (zI (i : Int)))]) C dL_law_1969  (by decide) rfl ?_
  refine zv_aload_n C 4 dL_law_1971 rfl rfl ?_
  refine zv_cviD (st := []) C (c_X11_thrown hfl E τ1966) mX11_thrown kL_200 (by decide : kd 327 = 10) rfl rfl rfl ⟨rfl, rfl⟩ (show zfit (zrm 0 0) 1 room_1 = true from rfl) (Nat.le_of_ble_eq_true rfl) dL_law_1972 ⟨by omega, by omega⟩ ?_
  refine zv_eqi (y := (zI 2)) (ht2) ?_
  refine zv_iload C 1 dL_law_1975 rfl ?_
  refine zv_icmp_eqZ (tgt := 1982) C (by omega) (by omega) dL_law_1977 (by decide) (fun h1977 => ?_) (fun h1977 => ?_)
  · skip
    refine zv_iload C 1 dL_law_1982 rfl ?_
    refine zv_if_neZ (tgt := 1999) C (by omega) dL_law_1984 (by decide) (fun h1984 => ?_) (fun h1984 => absurd h1984 (by decide))
    refine zv_goto (tgt := 3624) C dL_law_1999 (by decide) ?_
    refine zv_sub (lv' := [(0, .ref b0), (1, .ref (ob E 0)), (2, .ref (ob E 327)), (3, .ref (ob E 339)), (4, .ref (ob E 340)), (5, .int (zI (i : Int)))]) [2, 3, 4, 5, 6, 7] (zcons rfl (zcons rfl (zcons rfl (zcons rfl (zcons rfl (zcons rfl rfl)))))) ?_
    exact kk _ _ _ _ (by omega) (by omega) hR2
  · exfalso
    omega
set_option maxRecDepth 20000 in
theorem lw_addPart_x4_x2 {p : Program} {l : Launch} {e : Env} {s : State} {m : MethodId} {args : Array Value} {below : List Frame} {meth : Method} {c : Code} {E : zE} {Q : State → Prop} {b0 L i ce sl : Nat} {xs : Nat → Int32} {σ : zS} (ni : Nat) (tx : Nat → Int) (ec : Nat) (eo : Int) (U : zSU) (S : zST) (hh : List zST) (kp : Option zST) (ou : List Nat) (n1 : Nat) (v3 : Int) (v4 : Int) (W : zLW p l s m args meth c E b0 L xs) (hi : i + 6 ≤ L) (hcs : ce + 1 ≤ room_1.cells ∧ sl + 6 ≤ room_1.slots) (hR : zRel σ (zDv.mk ni tx ec eo U S hh kp ou)) (hx1 : xs (i + 1) = (zI (n1 : Int))) (hx2 : xs (i + 2) = (zI 2)) (hx3 : xs (i + 3) = (zI v3)) (hx4 : xs (i + 4) = (zI v4)) (hi0 : n1 < U.nb) (hz1 : 8 ≤ v3 ∧ v3 ≤ 100) (hwi2 : -2147483648 ≤ v4 ∧ v4 < 2147483648) (hno3 : ¬ v4 = 0)  (kk : zNx p l e s m args below meth c E Q b0 i ce sl) : zV p l e room_1 s m args below meth c 9 E Q ce sl σ 1910 (lwL b0 i E) [] := by
  refine (?_ : zV p l e room_1 s m args below meth c 9 E Q ce sl σ 1910 [(0, .ref b0), (1, .ref (ob E 0)), (2, .ref (ob E 327)), (3, .ref (ob E 339)), (4, .ref (ob E 340)), (5, .int (zI (i : Int)))] [])
  have C := W.2.1
  have hfl := W.1
  have hroom : room_1.cells = 601024 ∧ room_1.slots = 7293034 := ⟨rfl, rfl⟩
  refine zv_aload_n C 1 dL_law_1910 rfl rfl ?_
  refine zv_aload_n C 0 dL_law_1911 rfl rfl ?_
  refine zv_iload C 5 dL_law_1912 rfl ?_
  refine zv_iconst (v := zI 1) C dL_law_1914 rfl ?_
  refine zv_iaddZ C dL_law_1915 ?_
  refine zv_sld (j := i + 1) (v := (zI (n1 : Int))) C W.2.2.1 W.2.2.2.1 W.2.2.2.2.1 W.2.2.2.2.2 (zI_ix (by omega)) (by omega) hx1 dL_law_1916 ?_
  refine zv_aload_n C 0 dL_law_1917 rfl rfl ?_
  refine zv_iload C 5 dL_law_1918 rfl ?_
  refine zv_iconst (v := zI 2) C dL_law_1920 rfl ?_
  refine zv_iaddZ C dL_law_1921 ?_
  refine zv_sld (j := i + 2) (v := (zI 2)) C W.2.2.1 W.2.2.2.1 W.2.2.2.2.1 W.2.2.2.2.2 (zI_ix (by omega)) (by omega) hx2 dL_law_1922 ?_
  refine zv_aload_n C 0 dL_law_1923 rfl rfl ?_
  refine zv_iload C 5 dL_law_1924 rfl ?_
  refine zv_iconst (v := zI 3) C dL_law_1926 rfl ?_
  refine zv_iaddZ C dL_law_1927 ?_
  refine zv_sld (j := i + 3) (v := (zI v3)) C W.2.2.1 W.2.2.2.1 W.2.2.2.2.1 W.2.2.2.2.2 (zI_ix (by omega)) (by omega) hx3 dL_law_1928 ?_
  refine zv_aload_n C 0 dL_law_1929 rfl rfl ?_
  refine zv_iload C 5 dL_law_1930 rfl ?_
  refine zv_iconst (v := zI 4) C dL_law_1932 rfl ?_
  refine zv_iaddZ C dL_law_1933 ?_
  refine zv_sld (j := i + 4) (v := (zI v4)) C W.2.2.1 W.2.2.2.1 W.2.2.2.2.1 W.2.2.2.2.2 (zI_ix (by omega)) (by omega) hx4 dL_law_1934 ?_
  refine zv_aload_n C 3 dL_law_1935 rfl rfl ?_
  refine zv_cH (st := []) C (w_x4_X10_addPart hfl E σ U n1 v3 v4 hR.1.2.2.1 (by first | assumption | omega) (by first | assumption | omega) (by first | assumption | omega) (by first | assumption | omega)) mL_addPart kL_271 rfl ⟨rfl, rfl⟩ (show zfit (zrx 10 225) 7 room_1 = true from rfl) (Nat.le_of_ble_eq_true rfl) dL_law_1936 ⟨by exact hcs.1, by exact hcs.2⟩ (fun r1936 τ1936 hp1936 => ?_)
  obtain ⟨hr0, hP9⟩ := hp1936
  refine zv_eqi (y := zI 2) hr0 ?_
  have hF9 : zFr 318 327 σ τ1936 := by rw [hP9]; exact (by first | exact zFr_refl _ _ _ | exact zFr_rW (zFr_refl _ _ _) (by omega) | exact zFr_rW (zFr_rW (zFr_refl _ _ _) (by omega)) (by omega) | exact qW_f _ _ _ _ | exact qM_f _ _ _ _ _ | exact rW2_f _ _ _ _ _ | exact rW3_f _ _ _ _ _ | exact alW_f _ _ _ _ _ | (split <;> first | exact zFr_refl _ _ _ | exact bW_f _ _ _ _) | assumption)
  have hR1 : zRel τ1936 (zDv.mk ni tx ec eo U S hh kp ou) := zRel_c hR hF9
  refine zv_istore (lv' := [(6, .int (zI 2)), (0, .ref b0), (1, .ref (ob E 0)), (2, .ref (ob E 327)), (3, .ref (ob E 339)), (4, .ref (ob E 340)), (5, .int (zI (i : Int)))]) C dL_law_1939  (by decide) rfl ?_
  refine zv_aload_n C 3 dL_law_1941 rfl rfl ?_
  refine zv_aload_n C 1 dL_law_1942 rfl rfl ?_
  refine zv_iload C 6 dL_law_1943 rfl ?_
  refine zv_iconst (v := zI 1) C dL_law_1945 rfl ?_
  refine zv_iaddZ C dL_law_1946 ?_
  refine zv_sld (j := i + 1) (v := (zI (n1 : Int))) C W.2.2.1 W.2.2.2.1 W.2.2.2.2.1 W.2.2.2.2.2 (zI_ix (by omega)) (by omega) hx1 dL_law_1947 ?_
  refine zv_aload_n C 1 dL_law_1948 rfl rfl ?_
  refine zv_iload C 6 dL_law_1949 rfl ?_
  refine zv_iconst (v := zI 2) C dL_law_1951 rfl ?_
  refine zv_iaddZ C dL_law_1952 ?_
  refine zv_sld (j := i + 2) (v := (zI 2)) C W.2.2.1 W.2.2.2.1 W.2.2.2.2.1 W.2.2.2.2.2 (zI_ix (by omega)) (by omega) hx2 dL_law_1953 ?_
  refine zv_aload_n C 1 dL_law_1954 rfl rfl ?_
  refine zv_iload C 6 dL_law_1955 rfl ?_
  refine zv_iconst (v := zI 3) C dL_law_1957 rfl ?_
  refine zv_iaddZ C dL_law_1958 ?_
  refine zv_sld (j := i + 3) (v := (zI v3)) C W.2.2.1 W.2.2.2.1 W.2.2.2.2.1 W.2.2.2.2.2 (zI_ix (by omega)) (by omega) hx3 dL_law_1959 ?_
  refine zv_aload_n C 1 dL_law_1960 rfl rfl ?_
  refine zv_iload C 6 dL_law_1961 rfl ?_
  refine zv_iconst (v := zI 4) C dL_law_1963 rfl ?_
  refine zv_iaddZ C dL_law_1964 ?_
  refine zv_sld (j := i + 4) (v := (zI v4)) C W.2.2.1 W.2.2.2.1 W.2.2.2.2.1 W.2.2.2.2.2 (zI_ix (by omega)) (by omega) hx4 dL_law_1965 ?_
  refine zv_cvi (st := []) C (x2_X11_addPart hfl E τ1936 σ U n1 2 v3 v4 hR1.2.2.2.1 hR.1.2.2.1 (by first | assumption | omega) (by first | assumption | omega) (by first | assumption | omega) (by first | assumption | omega) (by first | assumption | omega)) mX11_addPart kL_274 (by decide : kd 327 = 10) rfl rfl rfl ⟨rfl, rfl⟩ (show zfit (zrm 4 89) 5 room_1 = true from rfl) (Nat.le_of_ble_eq_true rfl) dL_law_1966 ⟨by omega, by omega⟩ (fun r1966 τ1966 hp1966 => ?_)
  obtain ⟨hr2, hK2⟩ := hp1966
  refine zv_eqi (y := zI 0) hr2 ?_
  have hR2 : zRel τ1966 (zDv.mk ni tx ec eo U S hh kp ou) := zRel_m hR1 hK2
  have ht2 : gI τ1966 327 10 = zI 2 := hK2.2
  have hJ2 : gJ τ1966 339 0 = gJ τ1936 339 0 := hK2.1.2.1 339 0 (by decide)
  have hD2 : gD τ1966 340 0 = gD τ1936 340 0 := hK2.1.2.2 340 0
  refine zv_istore (lv' := [(7, .int (zI 0)), (6, .int (zI 2)), (0, .ref b0), (1, .ref (ob E 0)), (2, .ref (ob E 327)), (3, .ref (ob E 339)), (4, .ref (ob E 340)), (5, .int (zI (i : Int)))]) C dL_law_1969  (by decide) rfl ?_
  refine zv_aload_n C 4 dL_law_1971 rfl rfl ?_
  refine zv_cviD (st := []) C (c_X11_thrown hfl E τ1966) mX11_thrown kL_200 (by decide : kd 327 = 10) rfl rfl rfl ⟨rfl, rfl⟩ (show zfit (zrm 0 0) 1 room_1 = true from rfl) (Nat.le_of_ble_eq_true rfl) dL_law_1972 ⟨by omega, by omega⟩ ?_
  refine zv_eqi (y := (zI 2)) (ht2) ?_
  refine zv_iload C 1 dL_law_1975 rfl ?_
  refine zv_icmp_eqZ (tgt := 1982) C (by omega) (by omega) dL_law_1977 (by decide) (fun h1977 => ?_) (fun h1977 => ?_)
  · skip
    refine zv_iload C 1 dL_law_1982 rfl ?_
    refine zv_if_neZ (tgt := 1999) C (by omega) dL_law_1984 (by decide) (fun h1984 => ?_) (fun h1984 => absurd h1984 (by decide))
    refine zv_goto (tgt := 3624) C dL_law_1999 (by decide) ?_
    refine zv_sub (lv' := [(0, .ref b0), (1, .ref (ob E 0)), (2, .ref (ob E 327)), (3, .ref (ob E 339)), (4, .ref (ob E 340)), (5, .int (zI (i : Int)))]) [2, 3, 4, 5, 6, 7] (zcons rfl (zcons rfl (zcons rfl (zcons rfl (zcons rfl (zcons rfl rfl)))))) ?_
    exact kk _ _ _ _ (by omega) (by omega) hR2
  · exfalso
    omega
set_option maxRecDepth 20000 in
theorem lw_addPart_x5_x2 {p : Program} {l : Launch} {e : Env} {s : State} {m : MethodId} {args : Array Value} {below : List Frame} {meth : Method} {c : Code} {E : zE} {Q : State → Prop} {b0 L i ce sl : Nat} {xs : Nat → Int32} {σ : zS} (ni : Nat) (tx : Nat → Int) (ec : Nat) (eo : Int) (U : zSU) (S : zST) (hh : List zST) (kp : Option zST) (ou : List Nat) (n1 : Nat) (v2 : Int) (v3 : Int) (v4 : Int) (W : zLW p l s m args meth c E b0 L xs) (hi : i + 6 ≤ L) (hcs : ce + 1 ≤ room_1.cells ∧ sl + 6 ≤ room_1.slots) (hR : zRel σ (zDv.mk ni tx ec eo U S hh kp ou)) (hx1 : xs (i + 1) = (zI (n1 : Int))) (hx2 : xs (i + 2) = (zI v2)) (hx3 : xs (i + 3) = (zI v3)) (hx4 : xs (i + 4) = (zI v4)) (hi0 : n1 < U.nb) (hy1 : 0 ≤ v2 ∧ v2 < 2) (hz2 : 8 ≤ v3 ∧ v3 ≤ 100) (hwi3 : -2147483648 ≤ v4 ∧ v4 < 2147483648) (hno4 : ¬ (8 ≤ v4 ∧ v4 ≤ 100))  (kk : zNx p l e s m args below meth c E Q b0 i ce sl) : zV p l e room_1 s m args below meth c 9 E Q ce sl σ 1910 (lwL b0 i E) [] := by
  refine (?_ : zV p l e room_1 s m args below meth c 9 E Q ce sl σ 1910 [(0, .ref b0), (1, .ref (ob E 0)), (2, .ref (ob E 327)), (3, .ref (ob E 339)), (4, .ref (ob E 340)), (5, .int (zI (i : Int)))] [])
  have C := W.2.1
  have hfl := W.1
  have hroom : room_1.cells = 601024 ∧ room_1.slots = 7293034 := ⟨rfl, rfl⟩
  refine zv_aload_n C 1 dL_law_1910 rfl rfl ?_
  refine zv_aload_n C 0 dL_law_1911 rfl rfl ?_
  refine zv_iload C 5 dL_law_1912 rfl ?_
  refine zv_iconst (v := zI 1) C dL_law_1914 rfl ?_
  refine zv_iaddZ C dL_law_1915 ?_
  refine zv_sld (j := i + 1) (v := (zI (n1 : Int))) C W.2.2.1 W.2.2.2.1 W.2.2.2.2.1 W.2.2.2.2.2 (zI_ix (by omega)) (by omega) hx1 dL_law_1916 ?_
  refine zv_aload_n C 0 dL_law_1917 rfl rfl ?_
  refine zv_iload C 5 dL_law_1918 rfl ?_
  refine zv_iconst (v := zI 2) C dL_law_1920 rfl ?_
  refine zv_iaddZ C dL_law_1921 ?_
  refine zv_sld (j := i + 2) (v := (zI v2)) C W.2.2.1 W.2.2.2.1 W.2.2.2.2.1 W.2.2.2.2.2 (zI_ix (by omega)) (by omega) hx2 dL_law_1922 ?_
  refine zv_aload_n C 0 dL_law_1923 rfl rfl ?_
  refine zv_iload C 5 dL_law_1924 rfl ?_
  refine zv_iconst (v := zI 3) C dL_law_1926 rfl ?_
  refine zv_iaddZ C dL_law_1927 ?_
  refine zv_sld (j := i + 3) (v := (zI v3)) C W.2.2.1 W.2.2.2.1 W.2.2.2.2.1 W.2.2.2.2.2 (zI_ix (by omega)) (by omega) hx3 dL_law_1928 ?_
  refine zv_aload_n C 0 dL_law_1929 rfl rfl ?_
  refine zv_iload C 5 dL_law_1930 rfl ?_
  refine zv_iconst (v := zI 4) C dL_law_1932 rfl ?_
  refine zv_iaddZ C dL_law_1933 ?_
  refine zv_sld (j := i + 4) (v := (zI v4)) C W.2.2.1 W.2.2.2.1 W.2.2.2.2.1 W.2.2.2.2.2 (zI_ix (by omega)) (by omega) hx4 dL_law_1934 ?_
  refine zv_aload_n C 3 dL_law_1935 rfl rfl ?_
  refine zv_cH (st := []) C (w_x5_X10_addPart hfl E σ U n1 v2 v3 v4 hR.1.2.2.1 (by first | assumption | omega) (by first | assumption | omega) (by first | assumption | omega) (by first | assumption | omega) (by first | assumption | omega)) mL_addPart kL_271 rfl ⟨rfl, rfl⟩ (show zfit (zrx 10 225) 7 room_1 = true from rfl) (Nat.le_of_ble_eq_true rfl) dL_law_1936 ⟨by exact hcs.1, by exact hcs.2⟩ (fun r1936 τ1936 hp1936 => ?_)
  obtain ⟨hr0, hP9⟩ := hp1936
  refine zv_eqi (y := zI 2) hr0 ?_
  have hF9 : zFr 318 327 σ τ1936 := by rw [hP9]; exact (by first | exact zFr_refl _ _ _ | exact zFr_rW (zFr_refl _ _ _) (by omega) | exact zFr_rW (zFr_rW (zFr_refl _ _ _) (by omega)) (by omega) | exact qW_f _ _ _ _ | exact qM_f _ _ _ _ _ | exact rW2_f _ _ _ _ _ | exact rW3_f _ _ _ _ _ | exact alW_f _ _ _ _ _ | (split <;> first | exact zFr_refl _ _ _ | exact bW_f _ _ _ _) | assumption)
  have hR1 : zRel τ1936 (zDv.mk ni tx ec eo U S hh kp ou) := zRel_c hR hF9
  refine zv_istore (lv' := [(6, .int (zI 2)), (0, .ref b0), (1, .ref (ob E 0)), (2, .ref (ob E 327)), (3, .ref (ob E 339)), (4, .ref (ob E 340)), (5, .int (zI (i : Int)))]) C dL_law_1939  (by decide) rfl ?_
  refine zv_aload_n C 3 dL_law_1941 rfl rfl ?_
  refine zv_aload_n C 1 dL_law_1942 rfl rfl ?_
  refine zv_iload C 6 dL_law_1943 rfl ?_
  refine zv_iconst (v := zI 1) C dL_law_1945 rfl ?_
  refine zv_iaddZ C dL_law_1946 ?_
  refine zv_sld (j := i + 1) (v := (zI (n1 : Int))) C W.2.2.1 W.2.2.2.1 W.2.2.2.2.1 W.2.2.2.2.2 (zI_ix (by omega)) (by omega) hx1 dL_law_1947 ?_
  refine zv_aload_n C 1 dL_law_1948 rfl rfl ?_
  refine zv_iload C 6 dL_law_1949 rfl ?_
  refine zv_iconst (v := zI 2) C dL_law_1951 rfl ?_
  refine zv_iaddZ C dL_law_1952 ?_
  refine zv_sld (j := i + 2) (v := (zI v2)) C W.2.2.1 W.2.2.2.1 W.2.2.2.2.1 W.2.2.2.2.2 (zI_ix (by omega)) (by omega) hx2 dL_law_1953 ?_
  refine zv_aload_n C 1 dL_law_1954 rfl rfl ?_
  refine zv_iload C 6 dL_law_1955 rfl ?_
  refine zv_iconst (v := zI 3) C dL_law_1957 rfl ?_
  refine zv_iaddZ C dL_law_1958 ?_
  refine zv_sld (j := i + 3) (v := (zI v3)) C W.2.2.1 W.2.2.2.1 W.2.2.2.2.1 W.2.2.2.2.2 (zI_ix (by omega)) (by omega) hx3 dL_law_1959 ?_
  refine zv_aload_n C 1 dL_law_1960 rfl rfl ?_
  refine zv_iload C 6 dL_law_1961 rfl ?_
  refine zv_iconst (v := zI 4) C dL_law_1963 rfl ?_
  refine zv_iaddZ C dL_law_1964 ?_
  refine zv_sld (j := i + 4) (v := (zI v4)) C W.2.2.1 W.2.2.2.1 W.2.2.2.2.1 W.2.2.2.2.2 (zI_ix (by omega)) (by omega) hx4 dL_law_1965 ?_
  refine zv_cvi (st := []) C (x2_X11_addPart hfl E τ1936 σ U n1 v2 v3 v4 hR1.2.2.2.1 hR.1.2.2.1 (by first | assumption | omega) (by first | assumption | omega) (by first | assumption | omega) (by first | assumption | omega) (by first | assumption | omega)) mX11_addPart kL_274 (by decide : kd 327 = 10) rfl rfl rfl ⟨rfl, rfl⟩ (show zfit (zrm 4 89) 5 room_1 = true from rfl) (Nat.le_of_ble_eq_true rfl) dL_law_1966 ⟨by omega, by omega⟩ (fun r1966 τ1966 hp1966 => ?_)
  obtain ⟨hr2, hK2⟩ := hp1966
  refine zv_eqi (y := zI 0) hr2 ?_
  have hR2 : zRel τ1966 (zDv.mk ni tx ec eo U S hh kp ou) := zRel_m hR1 hK2
  have ht2 : gI τ1966 327 10 = zI 2 := hK2.2
  have hJ2 : gJ τ1966 339 0 = gJ τ1936 339 0 := hK2.1.2.1 339 0 (by decide)
  have hD2 : gD τ1966 340 0 = gD τ1936 340 0 := hK2.1.2.2 340 0
  refine zv_istore (lv' := [(7, .int (zI 0)), (6, .int (zI 2)), (0, .ref b0), (1, .ref (ob E 0)), (2, .ref (ob E 327)), (3, .ref (ob E 339)), (4, .ref (ob E 340)), (5, .int (zI (i : Int)))]) C dL_law_1969  (by decide) rfl ?_
  refine zv_aload_n C 4 dL_law_1971 rfl rfl ?_
  refine zv_cviD (st := []) C (c_X11_thrown hfl E τ1966) mX11_thrown kL_200 (by decide : kd 327 = 10) rfl rfl rfl ⟨rfl, rfl⟩ (show zfit (zrm 0 0) 1 room_1 = true from rfl) (Nat.le_of_ble_eq_true rfl) dL_law_1972 ⟨by omega, by omega⟩ ?_
  refine zv_eqi (y := (zI 2)) (ht2) ?_
  refine zv_iload C 1 dL_law_1975 rfl ?_
  refine zv_icmp_eqZ (tgt := 1982) C (by omega) (by omega) dL_law_1977 (by decide) (fun h1977 => ?_) (fun h1977 => ?_)
  · skip
    refine zv_iload C 1 dL_law_1982 rfl ?_
    refine zv_if_neZ (tgt := 1999) C (by omega) dL_law_1984 (by decide) (fun h1984 => ?_) (fun h1984 => absurd h1984 (by decide))
    refine zv_goto (tgt := 3624) C dL_law_1999 (by decide) ?_
    refine zv_sub (lv' := [(0, .ref b0), (1, .ref (ob E 0)), (2, .ref (ob E 327)), (3, .ref (ob E 339)), (4, .ref (ob E 340)), (5, .int (zI (i : Int)))]) [2, 3, 4, 5, 6, 7] (zcons rfl (zcons rfl (zcons rfl (zcons rfl (zcons rfl (zcons rfl rfl)))))) ?_
    exact kk _ _ _ _ (by omega) (by omega) hR2
  · exfalso
    omega
set_option maxRecDepth 20000 in
theorem lw_addPart_x6_x3 {p : Program} {l : Launch} {e : Env} {s : State} {m : MethodId} {args : Array Value} {below : List Frame} {meth : Method} {c : Code} {E : zE} {Q : State → Prop} {b0 L i ce sl : Nat} {xs : Nat → Int32} {σ : zS} (ni : Nat) (tx : Nat → Int) (ec : Nat) (eo : Int) (U : zSU) (S : zST) (hh : List zST) (kp : Option zST) (ou : List Nat) (n1 : Nat) (n2 : Nat) (n3 : Nat) (n4 : Nat) (W : zLW p l s m args meth c E b0 L xs) (hi : i + 6 ≤ L) (hcs : ce + 1 ≤ room_1.cells ∧ sl + 6 ≤ room_1.slots) (hR : zRel σ (zDv.mk ni tx ec eo U S hh kp ou)) (hx1 : xs (i + 1) = (zI (n1 : Int))) (hx2 : xs (i + 2) = (zI (n2 : Int))) (hx3 : xs (i + 3) = (zI (n3 : Int))) (hx4 : xs (i + 4) = (zI (n4 : Int))) (hi0 : n1 < U.nb) (ha1 : n2 ≤ 2) (hb2 : 8 ≤ n3 ∧ n3 ≤ 100) (hd13 : n2 = 2 → n4 = 0) (hd24 : n2 ≠ 2 → 8 ≤ n4 ∧ n4 ≤ 100) (hno5 : ¬ (S.tn n1 < 4 ∧ (n2 = 2 ∨ tGe (S.tr n1) (S.tn n1) < 2)))  (kk : zNx p l e s m args below meth c E Q b0 i ce sl) : zV p l e room_1 s m args below meth c 9 E Q ce sl σ 1910 (lwL b0 i E) [] := by
  refine (?_ : zV p l e room_1 s m args below meth c 9 E Q ce sl σ 1910 [(0, .ref b0), (1, .ref (ob E 0)), (2, .ref (ob E 327)), (3, .ref (ob E 339)), (4, .ref (ob E 340)), (5, .int (zI (i : Int)))] [])
  have C := W.2.1
  have hfl := W.1
  have hroom : room_1.cells = 601024 ∧ room_1.slots = 7293034 := ⟨rfl, rfl⟩
  refine zv_aload_n C 1 dL_law_1910 rfl rfl ?_
  refine zv_aload_n C 0 dL_law_1911 rfl rfl ?_
  refine zv_iload C 5 dL_law_1912 rfl ?_
  refine zv_iconst (v := zI 1) C dL_law_1914 rfl ?_
  refine zv_iaddZ C dL_law_1915 ?_
  refine zv_sld (j := i + 1) (v := (zI (n1 : Int))) C W.2.2.1 W.2.2.2.1 W.2.2.2.2.1 W.2.2.2.2.2 (zI_ix (by omega)) (by omega) hx1 dL_law_1916 ?_
  refine zv_aload_n C 0 dL_law_1917 rfl rfl ?_
  refine zv_iload C 5 dL_law_1918 rfl ?_
  refine zv_iconst (v := zI 2) C dL_law_1920 rfl ?_
  refine zv_iaddZ C dL_law_1921 ?_
  refine zv_sld (j := i + 2) (v := (zI (n2 : Int))) C W.2.2.1 W.2.2.2.1 W.2.2.2.2.1 W.2.2.2.2.2 (zI_ix (by omega)) (by omega) hx2 dL_law_1922 ?_
  refine zv_aload_n C 0 dL_law_1923 rfl rfl ?_
  refine zv_iload C 5 dL_law_1924 rfl ?_
  refine zv_iconst (v := zI 3) C dL_law_1926 rfl ?_
  refine zv_iaddZ C dL_law_1927 ?_
  refine zv_sld (j := i + 3) (v := (zI (n3 : Int))) C W.2.2.1 W.2.2.2.1 W.2.2.2.2.1 W.2.2.2.2.2 (zI_ix (by omega)) (by omega) hx3 dL_law_1928 ?_
  refine zv_aload_n C 0 dL_law_1929 rfl rfl ?_
  refine zv_iload C 5 dL_law_1930 rfl ?_
  refine zv_iconst (v := zI 4) C dL_law_1932 rfl ?_
  refine zv_iaddZ C dL_law_1933 ?_
  refine zv_sld (j := i + 4) (v := (zI (n4 : Int))) C W.2.2.1 W.2.2.2.1 W.2.2.2.2.1 W.2.2.2.2.2 (zI_ix (by omega)) (by omega) hx4 dL_law_1934 ?_
  refine zv_aload_n C 3 dL_law_1935 rfl rfl ?_
  refine zv_cH (st := []) C (w_x6_X10_addPart hfl E σ U S n1 n2 n3 n4 hR.1.2.2.1 hR.1.2.2.2.1.1 (by first | assumption | omega) (by first | assumption | omega) (by first | assumption | omega) (by first | assumption | omega) (by first | assumption | omega) (by first | assumption | omega)) mL_addPart kL_271 rfl ⟨rfl, rfl⟩ (show zfit (zrx 10 225) 7 room_1 = true from rfl) (Nat.le_of_ble_eq_true rfl) dL_law_1936 ⟨by exact hcs.1, by exact hcs.2⟩ (fun r1936 τ1936 hp1936 => ?_)
  obtain ⟨hr0, hP9⟩ := hp1936
  refine zv_eqi (y := zI 3) hr0 ?_
  have hF9 : zFr 318 327 σ τ1936 := by rw [hP9]; exact (by first | exact zFr_refl _ _ _ | exact zFr_rW (zFr_refl _ _ _) (by omega) | exact zFr_rW (zFr_rW (zFr_refl _ _ _) (by omega)) (by omega) | exact qW_f _ _ _ _ | exact qM_f _ _ _ _ _ | exact rW2_f _ _ _ _ _ | exact rW3_f _ _ _ _ _ | exact alW_f _ _ _ _ _ | (split <;> first | exact zFr_refl _ _ _ | exact bW_f _ _ _ _) | assumption)
  have hR1 : zRel τ1936 (zDv.mk ni tx ec eo U S hh kp ou) := zRel_c hR hF9
  refine zv_istore (lv' := [(6, .int (zI 3)), (0, .ref b0), (1, .ref (ob E 0)), (2, .ref (ob E 327)), (3, .ref (ob E 339)), (4, .ref (ob E 340)), (5, .int (zI (i : Int)))]) C dL_law_1939  (by decide) rfl ?_
  refine zv_aload_n C 3 dL_law_1941 rfl rfl ?_
  refine zv_aload_n C 1 dL_law_1942 rfl rfl ?_
  refine zv_iload C 6 dL_law_1943 rfl ?_
  refine zv_iconst (v := zI 1) C dL_law_1945 rfl ?_
  refine zv_iaddZ C dL_law_1946 ?_
  refine zv_sld (j := i + 1) (v := (zI (n1 : Int))) C W.2.2.1 W.2.2.2.1 W.2.2.2.2.1 W.2.2.2.2.2 (zI_ix (by omega)) (by omega) hx1 dL_law_1947 ?_
  refine zv_aload_n C 1 dL_law_1948 rfl rfl ?_
  refine zv_iload C 6 dL_law_1949 rfl ?_
  refine zv_iconst (v := zI 2) C dL_law_1951 rfl ?_
  refine zv_iaddZ C dL_law_1952 ?_
  refine zv_sld (j := i + 2) (v := (zI (n2 : Int))) C W.2.2.1 W.2.2.2.1 W.2.2.2.2.1 W.2.2.2.2.2 (zI_ix (by omega)) (by omega) hx2 dL_law_1953 ?_
  refine zv_aload_n C 1 dL_law_1954 rfl rfl ?_
  refine zv_iload C 6 dL_law_1955 rfl ?_
  refine zv_iconst (v := zI 3) C dL_law_1957 rfl ?_
  refine zv_iaddZ C dL_law_1958 ?_
  refine zv_sld (j := i + 3) (v := (zI (n3 : Int))) C W.2.2.1 W.2.2.2.1 W.2.2.2.2.1 W.2.2.2.2.2 (zI_ix (by omega)) (by omega) hx3 dL_law_1959 ?_
  refine zv_aload_n C 1 dL_law_1960 rfl rfl ?_
  refine zv_iload C 6 dL_law_1961 rfl ?_
  refine zv_iconst (v := zI 4) C dL_law_1963 rfl ?_
  refine zv_iaddZ C dL_law_1964 ?_
  refine zv_sld (j := i + 4) (v := (zI (n4 : Int))) C W.2.2.1 W.2.2.2.1 W.2.2.2.2.1 W.2.2.2.2.2 (zI_ix (by omega)) (by omega) hx4 dL_law_1965 ?_
  refine zv_cvi (st := []) C (x3_X11_addPart hfl E τ1936 σ U S n1 n2 n3 n4 hR1.2.2.2.1 hR.1.2.2.1 hR1.2.2.2.2.2.1.1 hR.1.2.2.2.1.1 (by first | assumption | omega) (by first | assumption | omega) (by first | assumption | omega) (by first | assumption | omega) (by first | assumption | omega) (by first | assumption | omega)) mX11_addPart kL_274 (by decide : kd 327 = 10) rfl rfl rfl ⟨rfl, rfl⟩ (show zfit (zrm 4 89) 5 room_1 = true from rfl) (Nat.le_of_ble_eq_true rfl) dL_law_1966 ⟨by omega, by omega⟩ (fun r1966 τ1966 hp1966 => ?_)
  obtain ⟨hr2, hK2⟩ := hp1966
  refine zv_eqi (y := zI 0) hr2 ?_
  have hR2 : zRel τ1966 (zDv.mk ni tx ec eo U S hh kp ou) := zRel_m hR1 hK2
  have ht2 : gI τ1966 327 10 = zI 3 := hK2.2
  have hJ2 : gJ τ1966 339 0 = gJ τ1936 339 0 := hK2.1.2.1 339 0 (by decide)
  have hD2 : gD τ1966 340 0 = gD τ1936 340 0 := hK2.1.2.2 340 0
  refine zv_istore (lv' := [(7, .int (zI 0)), (6, .int (zI 3)), (0, .ref b0), (1, .ref (ob E 0)), (2, .ref (ob E 327)), (3, .ref (ob E 339)), (4, .ref (ob E 340)), (5, .int (zI (i : Int)))]) C dL_law_1969  (by decide) rfl ?_
  refine zv_aload_n C 4 dL_law_1971 rfl rfl ?_
  refine zv_cviD (st := []) C (c_X11_thrown hfl E τ1966) mX11_thrown kL_200 (by decide : kd 327 = 10) rfl rfl rfl ⟨rfl, rfl⟩ (show zfit (zrm 0 0) 1 room_1 = true from rfl) (Nat.le_of_ble_eq_true rfl) dL_law_1972 ⟨by omega, by omega⟩ ?_
  refine zv_eqi (y := (zI 3)) (ht2) ?_
  refine zv_iload C 1 dL_law_1975 rfl ?_
  refine zv_icmp_eqZ (tgt := 1982) C (by omega) (by omega) dL_law_1977 (by decide) (fun h1977 => ?_) (fun h1977 => ?_)
  · skip
    refine zv_iload C 1 dL_law_1982 rfl ?_
    refine zv_if_neZ (tgt := 1999) C (by omega) dL_law_1984 (by decide) (fun h1984 => ?_) (fun h1984 => absurd h1984 (by decide))
    refine zv_goto (tgt := 3624) C dL_law_1999 (by decide) ?_
    refine zv_sub (lv' := [(0, .ref b0), (1, .ref (ob E 0)), (2, .ref (ob E 327)), (3, .ref (ob E 339)), (4, .ref (ob E 340)), (5, .int (zI (i : Int)))]) [2, 3, 4, 5, 6, 7] (zcons rfl (zcons rfl (zcons rfl (zcons rfl (zcons rfl (zcons rfl rfl)))))) ?_
    exact kk _ _ _ _ (by omega) (by omega) hR2
  · exfalso
    omega
theorem LK_28 {p : Program} {l : Launch} {e : Env} {s : State} {m : MethodId} {args : Array Value} {below : List Frame} {meth : Method} {c : Code} {E : zE} {Q : State → Prop} {b0 L i ce sl : Nat} {xs : Nat → Int32} {σ : zS} (ni : Nat) (tx : Nat → Int) (ec : Nat) (eo : Int) (U : zSU) (S : zST) (hh : List zST) (kp : Option zST) (ou : List Nat) (hFN : zFN) (W : zLW p l s m args meth c E b0 L xs) (hi : i + 6 ≤ L) (hcs : ce + 1 ≤ room_1.cells ∧ sl + 6 ≤ room_1.slots) (hR : zRel σ (zDv.mk ni tx ec eo U S hh kp ou)) (kk : zNx p l e s m args below meth c E Q b0 i ce sl) : zV p l e room_1 s m args below meth c 9 E Q ce sl σ 1910 (lwL b0 i E) [] := by
  obtain ⟨v1, hx1, hv1⟩ := zI_cov (xs (i + 1))
  obtain ⟨v2, hx2, hv2⟩ := zI_cov (xs (i + 2))
  obtain ⟨v3, hx3, hv3⟩ := zI_cov (xs (i + 3))
  obtain ⟨v4, hx4, hv4⟩ := zI_cov (xs (i + 4))
  by_cases g1 : 0 ≤ v1 ∧ v1 < U.nb
  case neg =>
    exact lw_addPart_x1_x1 _ _ _ _ _ _ _ _ _ _ _ _ _ W hi hcs hR hx1 hx2 hx3 hx4 (by first | assumption | omega) (by first | assumption | omega) kk
  obtain ⟨n1, rfl⟩ := Int.eq_ofNat_of_zero_le (show 0 ≤ v1 by omega)
  by_cases g2 : 0 ≤ v2 ∧ v2 ≤ 2
  case neg =>
    exact lw_addPart_x2_x2 _ _ _ _ _ _ _ _ _ _ _ _ _ W hi hcs hR hx1 hx2 hx3 hx4 (by first | assumption | omega) (by first | assumption | omega) (by first | assumption | omega) (by first | assumption | omega) kk
  by_cases g3 : 8 ≤ v3 ∧ v3 ≤ 100
  case neg =>
    exact lw_addPart_x3_x2 _ _ _ _ _ _ _ _ _ _ _ _ _ W hi hcs hR hx1 hx2 hx3 hx4 (by first | assumption | omega) (by first | assumption | omega) (by first | assumption | omega) (by first | assumption | omega) (by first | assumption | omega) kk
  by_cases g4 : (v2 = 2 → v4 = 0) ∧ (v2 ≠ 2 → 8 ≤ v4 ∧ v4 ≤ 100)
  case neg =>
    by_cases g5 : v2 = 2
    case neg =>
      exact lw_addPart_x5_x2 _ _ _ _ _ _ _ _ _ _ _ _ _ W hi hcs hR hx1 hx2 hx3 hx4 (by first | assumption | omega) (by first | assumption | omega) (by first | assumption | omega) (by first | assumption | omega) (by first | assumption | omega) kk
    obtain rfl : v2 = 2 := by omega
    exact lw_addPart_x4_x2 _ _ _ _ _ _ _ _ _ _ _ _ W hi hcs hR hx1 hx2 hx3 hx4 (by first | assumption | omega) (by first | assumption | omega) (by first | assumption | omega) (by first | assumption | omega) kk
  obtain ⟨n2, rfl⟩ := Int.eq_ofNat_of_zero_le (show 0 ≤ v2 by omega)
  obtain ⟨n3, rfl⟩ := Int.eq_ofNat_of_zero_le (show 0 ≤ v3 by omega)
  obtain ⟨n4, rfl⟩ := Int.eq_ofNat_of_zero_le (show 0 ≤ v4 by omega)
  by_cases g6 : S.tn n1 < 4 ∧ (n2 = 2 ∨ tGe (S.tr n1) (S.tn n1) < 2)
  case neg =>
    exact lw_addPart_x6_x3 _ _ _ _ _ _ _ _ _ _ _ _ _ W hi hcs hR hx1 hx2 hx3 hx4 (by first | assumption | omega) (by first | assumption | omega) (by first | assumption | omega) (by first | assumption | omega) (by first | assumption | omega) (by first | assumption | omega) kk
  exact lw_addPart_c_c _ _ _ _ _ _ _ _ _ _ _ _ _ W hi hcs hR hx1 hx2 hx3 hx4 (by first | assumption | omega) (by first | assumption | omega) (by first | assumption | omega) (by first | assumption | omega) (by first | assumption | omega) (by first | assumption | omega) kk
