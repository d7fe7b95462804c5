/-! the best of the reference's search: off, below, four wheels -/
abbrev hB := Option (Nat × Nat × Nat × Nat × Nat × Nat)
def zHb (σ : zS) : hB → Prop
  | none => gI σ 337 0 = zI (-1)
  | some (f0, u0, a0, c0, d0, e0) => gI σ 337 0 = zI (a0 : Int) ∧ gI σ 337 1 = zI (c0 : Int) ∧ gI σ 337 2 = zI (d0 : Int) ∧ gI σ 337 3 = zI (e0 : Int) ∧ gJ σ 327 26 = zL (f0 : Int) ∧ gJ σ 327 27 = zL (u0 : Int)
/-- what is before a candidate, in the order of the four wheels -/
def hLe (a0 c0 d0 e0 a1 c1 d1 e1 : Nat) : Prop := a0 < a1 ∨ (a0 = a1 ∧ (c0 < c1 ∨ (c0 = c1 ∧ (d0 < d1 ∨ (d0 = d1 ∧ e0 ≤ e1)))))
def hOk : hB → Prop
  | none => True
  | some (f0, u0, a0, c0, d0, e0) => f0 < 2 ^ 62 ∧ (0 < u0 ∧ u0 ≤ 10000) ∧ a0 ≤ 100 ∧ c0 ≤ 100 ∧ d0 ≤ 100 ∧ e0 ≤ 100
def hBf (g : hB) (a1 c1 d1 e1 : Nat) : Prop := match g with
  | none => True
  | some (_, _, a0, c0, d0, e0) => hLe a0 c0 d0 e0 a1 c1 d1 e1
def hBet (g : hB) (f1 u1 sm : Nat) : Bool := match g with
  | none => true
  | some (f0, u0, a0, c0, d0, e0) => decide (f1 * u0 < f0 * u1 ∨ (f1 * u0 = f0 * u1 ∧ sm < a0 + c0 + d0 + e0))
def hNew (g : hB) (f1 u1 a1 c1 d1 e1 : Nat) : hB := if hBet g f1 u1 (a1 + c1 + d1 + e1) then some (f1, u1, a1, c1, d1, e1) else g
def hSw (σ : zS) (f1 u1 a1 c1 d1 e1 : Nat) : zS := sJ (sJ (sI (sI (sI (sI σ 337 0 (zI (a1 : Int))) 337 1 (zI (c1 : Int))) 337 2 (zI (d1 : Int))) 337 3 (zI (e1 : Int))) 327 26 (zL (f1 : Int))) 327 27 (zL (u1 : Int))
theorem zHb_s (σ : zS) (f1 u1 a1 c1 d1 e1 : Nat) : zHb (hSw σ f1 u1 a1 c1 d1 e1) (some (f1, u1, a1, c1, d1, e1)) := ⟨rfl, rfl, rfl, rfl, rfl, rfl⟩
theorem mK_H {σ τ : zS} {k : Nat} (h : mK σ τ k) (f1 u1 a1 c1 d1 e1 : Nat) : mK σ (hSw τ f1 u1 a1 c1 d1 e1) k := mK_J (mK_J (mK_7 (mK_7 (mK_7 (mK_7 h _ _) _ _) _ _) _ _) _ _) _ _
set_option maxRecDepth 20000 in
theorem c0_X11_isBetter {l : Launch} (hfl : l.stackTraces = false) (E : zE) (σ : zS) (f1 u1 a1 c1 d1 e1 : Nat) (hg : zHb σ none) (hf1 : f1 < 2 ^ 62) (hu1 : 0 < u1 ∧ u1 ≤ 10000) (ha1 : a1 ≤ 100) (hc1 : c1 ≤ 100) (hd1 : d1 ≤ 100) (he1 : e1 ≤ 100) : zRi l E yX11_isBetter cX11_isBetter 10 .boolean (zrm 4 120) [.ref (ob E 327), .long (zL (f1 : Int)), .long (zL (u1 : Int)), .int (zI (a1 : Int)), .int (zI (c1 : Int)), .int (zI (d1 : Int)), .int (zI (e1 : Int))] σ (fun r τ => r = zI 1 ∧ τ = σ) := by
  refine Met.ofW (cc := cX11_isBetter) (maxL := 10) (ret := (some .boolean)) (by decide +kernel) rfl ?_
  intro p e s m args below meth c s₁ B hml hv
  obtain ⟨rfl, hd⟩ := hv
  have C := zX_of (own := RX11) hfl B hml rfl hd rfl
  have hr := B.returns
  refine zV_go hd (Nat.le_of_ble_eq_true rfl) (lv := [(0, .ref (ob E 327)), (1, .long (zL (f1 : Int))), (3, .long (zL (u1 : Int))), (5, .int (zI (a1 : Int))), (6, .int (zI (c1 : Int))), (7, .int (zI (d1 : Int))), (8, .int (zI (e1 : Int)))]) rfl ?_
  refine zv_aload_n C 0 dX11_isBetter_0 rfl rfl ?_
  refine zG10_25 C (by decide : kd 327 = _) kX11_41 dX11_isBetter_1 ?_
  refine zv_iconst (v := zI 0) C dX11_isBetter_4 rfl ?_
  refine zv_iald (j := 0) C (by decide : kd 337 = _) (zI_ix (by omega)) (by decide) dX11_isBetter_5 ?_
  refine zv_eqi (y := (zI (-1))) (hg) ?_
  refine zv_iconst (v := zI (-1)) C dX11_isBetter_6 rfl ?_
  refine zv_icmp_eqZ (tgt := 26) C (by omega) (by omega) dX11_isBetter_7 (by decide) (fun h7 => ?_) (fun h7 => ?_)
  · skip
    refine zv_iconst (v := zI 1) C dX11_isBetter_26 rfl ?_
    exact zv_iret C hr rfl dX11_isBetter_27 ⟨rfl, rfl⟩
  · exfalso
    omega
set_option maxRecDepth 20000 in
theorem c_X11_isBetter {l : Launch} (hfl : l.stackTraces = false) (E : zE) (σ : zS) (f0 u0 a0 c0 d0 e0 : Nat) (f1 u1 a1 c1 d1 e1 : Nat) (hg : zHb σ (some (f0, u0, a0, c0, d0, e0))) (hok : hOk (some (f0, u0, a0, c0, d0, e0))) (hf1 : f1 < 2 ^ 62) (hu1 : 0 < u1 ∧ u1 ≤ 10000) (ha1 : a1 ≤ 100) (hc1 : c1 ≤ 100) (hd1 : d1 ≤ 100) (he1 : e1 ≤ 100) (hlx : hLe a0 c0 d0 e0 a1 c1 d1 e1) : zRi l E yX11_isBetter cX11_isBetter 10 .boolean (zrm 4 120) [.ref (ob E 327), .long (zL (f1 : Int)), .long (zL (u1 : Int)), .int (zI (a1 : Int)), .int (zI (c1 : Int)), .int (zI (d1 : Int)), .int (zI (e1 : Int))] σ (fun r τ => r = zB (hBet (some (f0, u0, a0, c0, d0, e0)) f1 u1 (a1 + c1 + d1 + e1) = true) ∧ τ = σ) := by
  refine Met.ofW (cc := cX11_isBetter) (maxL := 10) (ret := (some .boolean)) (by decide +kernel) rfl ?_
  intro p e s m args below meth c s₁ B hml hv
  obtain ⟨rfl, hd⟩ := hv
  have C := zX_of (own := RX11) hfl B hml rfl hd rfl
  have hr := B.returns
  refine zV_go hd (Nat.le_of_ble_eq_true rfl) (lv := [(0, .ref (ob E 327)), (1, .long (zL (f1 : Int))), (3, .long (zL (u1 : Int))), (5, .int (zI (a1 : Int))), (6, .int (zI (c1 : Int))), (7, .int (zI (d1 : Int))), (8, .int (zI (e1 : Int)))]) rfl ?_
  obtain ⟨k1, k2, k3, k4, k5, k6⟩ := hok
  unfold hLe at hlx
  have hbu : u1 * u0 ≤ 10000 * 10000 := Nat.mul_le_mul hu1.2 k2.2
  have hbu2 : u0 * u1 ≤ 10000 * 10000 := Nat.mul_le_mul k2.2 hu1.2
  have hiff : (hBet (some (f0, u0, a0, c0, d0, e0)) f1 u1 (a1 + c1 + d1 + e1) = true) ↔ (f1 * u0 < f0 * u1 ∨ (f1 * u0 = f0 * u1 ∧ a1 + c1 + d1 + e1 < a0 + c0 + d0 + e0)) := decide_eq_true_iff
  refine zv_aload_n C 0 dX11_isBetter_0 rfl rfl ?_
  refine zG10_25 C (by decide : kd 327 = _) kX11_41 dX11_isBetter_1 ?_
  refine zv_iconst (v := zI 0) C dX11_isBetter_4 rfl ?_
  refine zv_iald (j := 0) C (by decide : kd 337 = _) (zI_ix (by omega)) (by decide) dX11_isBetter_5 ?_
  refine zv_eqi (y := (zI (a0 : Int))) (hg.1) ?_
  refine zv_iconst (v := zI (-1)) C dX11_isBetter_6 rfl ?_
  refine zv_icmp_eqZ (tgt := 26) C (by omega) (by omega) dX11_isBetter_7 (by decide) (fun h7 => ?_) (fun h7 => ?_)
  · skip
    refine zv_iconst (v := zI 1) C dX11_isBetter_26 rfl ?_
    exact zv_iret C hr rfl dX11_isBetter_27 ⟨(zB_t (hiff.mpr (by omega))).symm, rfl⟩
  · skip
    refine zv_lload_n C 1 dX11_isBetter_10 rfl rfl ?_
    refine zv_lload_n C 2 dX11_isBetter_11 rfl rfl ?_
    refine zv_aload_n C 0 dX11_isBetter_12 rfl rfl ?_
    refine zG10_26 C (by decide : kd 327 = _) kX11_361 dX11_isBetter_13 ?_
    refine zv_eql (y := (zL (f0 : Int))) (hg.2.2.2.2.1) ?_
    refine zv_aload_n C 0 dX11_isBetter_16 rfl rfl ?_
    refine zG10_27 C (by decide : kd 327 = _) kX11_364 dX11_isBetter_17 ?_
    refine zv_eql (y := (zL (u0 : Int))) (hg.2.2.2.2.2) ?_
    refine zv_csiD (st := []) C (c_X11_isLess hfl E σ f1 u1 f0 u0 hf1 (by omega) k1 (by omega) (by omega)) mX11_isLess kX11_367 rfl ⟨rfl, rfl⟩ (show zfit (zrm 0 0) 8 (zrm 4 120) = true from rfl) (Nat.le_of_ble_eq_true rfl) dX11_isBetter_20 ⟨Nat.zero_le _, Nat.zero_le _⟩ ?_
    refine zv_if_eqB (tgt := 28) C dX11_isBetter_23 (by decide) (fun h23 => ?_) (fun h23 => ?_)
    · skip
      refine zv_aload_n C 0 dX11_isBetter_28 rfl rfl ?_
      refine zG10_26 C (by decide : kd 327 = _) kX11_361 dX11_isBetter_29 ?_
      refine zv_eql (y := (zL (f0 : Int))) (hg.2.2.2.2.1) ?_
      refine zv_aload_n C 0 dX11_isBetter_32 rfl rfl ?_
      refine zG10_27 C (by decide : kd 327 = _) kX11_364 dX11_isBetter_33 ?_
      refine zv_eql (y := (zL (u0 : Int))) (hg.2.2.2.2.2) ?_
      refine zv_lload_n C 1 dX11_isBetter_36 rfl rfl ?_
      refine zv_lload_n C 2 dX11_isBetter_37 rfl rfl ?_
      refine zv_csiD (st := []) C (c_X11_isLess hfl E σ f0 u0 f1 u1 k1 (by omega) hf1 (by omega) (by omega)) mX11_isLess kX11_367 rfl ⟨rfl, rfl⟩ (show zfit (zrm 0 0) 8 (zrm 4 120) = true from rfl) (Nat.le_of_ble_eq_true rfl) dX11_isBetter_38 ⟨Nat.zero_le _, Nat.zero_le _⟩ ?_
      refine zv_if_eqB (tgt := 46) C dX11_isBetter_41 (by decide) (fun h41 => ?_) (fun h41 => ?_)
      · skip
        refine zv_iload C 3 dX11_isBetter_46 rfl ?_
        refine zv_iload C 4 dX11_isBetter_48 rfl ?_
        refine zv_iaddZ C dX11_isBetter_50 ?_
        refine zv_iload C 5 dX11_isBetter_51 rfl ?_
        refine zv_iaddZ C dX11_isBetter_53 ?_
        refine zv_iload C 6 dX11_isBetter_54 rfl ?_
        refine zv_iaddZ C dX11_isBetter_56 ?_
        refine zv_aload_n C 0 dX11_isBetter_57 rfl rfl ?_
        refine zG10_25 C (by decide : kd 327 = _) kX11_41 dX11_isBetter_58 ?_
        refine zv_iconst (v := zI 0) C dX11_isBetter_61 rfl ?_
        refine zv_iald (j := 0) C (by decide : kd 337 = _) (zI_ix (by omega)) (by decide) dX11_isBetter_62 ?_
        refine zv_eqi (y := (zI (a0 : Int))) (hg.1) ?_
        refine zv_isubZ C dX11_isBetter_63 ?_
        refine zv_aload_n C 0 dX11_isBetter_64 rfl rfl ?_
        refine zG10_25 C (by decide : kd 327 = _) kX11_41 dX11_isBetter_65 ?_
        refine zv_iconst (v := zI 1) C dX11_isBetter_68 rfl ?_
        refine zv_iald (j := 1) C (by decide : kd 337 = _) (zI_ix (by omega)) (by decide) dX11_isBetter_69 ?_
        refine zv_eqi (y := (zI (c0 : Int))) (hg.2.1) ?_
        refine zv_isubZ C dX11_isBetter_70 ?_
        refine zv_aload_n C 0 dX11_isBetter_71 rfl rfl ?_
        refine zG10_25 C (by decide : kd 327 = _) kX11_41 dX11_isBetter_72 ?_
        refine zv_iconst (v := zI 2) C dX11_isBetter_75 rfl ?_
        refine zv_iald (j := 2) C (by decide : kd 337 = _) (zI_ix (by omega)) (by decide) dX11_isBetter_76 ?_
        refine zv_eqi (y := (zI (d0 : Int))) (hg.2.2.1) ?_
        refine zv_isubZ C dX11_isBetter_77 ?_
        refine zv_aload_n C 0 dX11_isBetter_78 rfl rfl ?_
        refine zG10_25 C (by decide : kd 327 = _) kX11_41 dX11_isBetter_79 ?_
        refine zv_iconst (v := zI 3) C dX11_isBetter_82 rfl ?_
        refine zv_iald (j := 3) C (by decide : kd 337 = _) (zI_ix (by omega)) (by decide) dX11_isBetter_83 ?_
        refine zv_eqi (y := (zI (e0 : Int))) (hg.2.2.2.1) ?_
        refine zv_isubZ C dX11_isBetter_84 ?_
        refine zv_istore (lv' := [(9, .int (zI ((((((((a1 : Int) + (c1 : Int)) + (d1 : Int)) + (e1 : Int)) - (a0 : Int)) - (c0 : Int)) - (d0 : Int)) - (e0 : Int)))), (0, .ref (ob E 327)), (1, .long (zL (f1 : Int))), (3, .long (zL (u1 : Int))), (5, .int (zI (a1 : Int))), (6, .int (zI (c1 : Int))), (7, .int (zI (d1 : Int))), (8, .int (zI (e1 : Int)))]) C dX11_isBetter_85  (by decide) rfl ?_
        refine zv_iload C 0 dX11_isBetter_87 rfl ?_
        refine zv_if_eqZ (tgt := 103) C (by omega) dX11_isBetter_89 (by decide) (fun h89 => ?_) (fun h89 => ?_)
        · skip
          refine zv_iload C 4 dX11_isBetter_103 rfl ?_
          refine zv_aload_n C 1 dX11_isBetter_105 rfl rfl ?_
          refine zG10_25 C (by decide : kd 327 = _) kX11_41 dX11_isBetter_106 ?_
          refine zv_iconst (v := zI 0) C dX11_isBetter_109 rfl ?_
          refine zv_iald (j := 0) C (by decide : kd 337 = _) (zI_ix (by omega)) (by decide) dX11_isBetter_110 ?_
          refine zv_eqi (y := (zI (a0 : Int))) (hg.1) ?_
          refine zv_icmp_eqZ (tgt := 131) C (by omega) (by omega) dX11_isBetter_111 (by decide) (fun h111 => ?_) (fun h111 => ?_)
          · skip
            refine zv_iload C 5 dX11_isBetter_131 rfl ?_
            refine zv_aload_n C 1 dX11_isBetter_133 rfl rfl ?_
            refine zG10_25 C (by decide : kd 327 = _) kX11_41 dX11_isBetter_134 ?_
            refine zv_iconst (v := zI 1) C dX11_isBetter_137 rfl ?_
            refine zv_iald (j := 1) C (by decide : kd 337 = _) (zI_ix (by omega)) (by decide) dX11_isBetter_138 ?_
            refine zv_eqi (y := (zI (c0 : Int))) (hg.2.1) ?_
            refine zv_icmp_eqZ (tgt := 159) C (by omega) (by omega) dX11_isBetter_139 (by decide) (fun h139 => ?_) (fun h139 => ?_)
            · skip
              refine zv_iload C 6 dX11_isBetter_159 rfl ?_
              refine zv_aload_n C 1 dX11_isBetter_161 rfl rfl ?_
              refine zG10_25 C (by decide : kd 327 = _) kX11_41 dX11_isBetter_162 ?_
              refine zv_iconst (v := zI 2) C dX11_isBetter_165 rfl ?_
              refine zv_iald (j := 2) C (by decide : kd 337 = _) (zI_ix (by omega)) (by decide) dX11_isBetter_166 ?_
              refine zv_eqi (y := (zI (d0 : Int))) (hg.2.2.1) ?_
              refine zv_icmp_eqZ (tgt := 189) C (by omega) (by omega) dX11_isBetter_167 (by decide) (fun h167 => ?_) (fun h167 => ?_)
              · skip
                refine zv_iload C 7 dX11_isBetter_189 rfl ?_
                refine zv_aload_n C 1 dX11_isBetter_191 rfl rfl ?_
                refine zG10_25 C (by decide : kd 327 = _) kX11_41 dX11_isBetter_192 ?_
                refine zv_iconst (v := zI 3) C dX11_isBetter_195 rfl ?_
                refine zv_iald (j := 3) C (by decide : kd 337 = _) (zI_ix (by omega)) (by decide) dX11_isBetter_196 ?_
                refine zv_eqi (y := (zI (e0 : Int))) (hg.2.2.2.1) ?_
                refine zv_icmp_geZ (tgt := 204) C (by omega) (by omega) dX11_isBetter_197 (by decide) (fun h197 => ?_) (fun h197 => ?_)
                · skip
                  refine zv_iconst (v := zI 0) C dX11_isBetter_204 rfl ?_
                  exact zv_iret C hr rfl dX11_isBetter_205 ⟨(zB_f (fun z => absurd (hiff.mp z) (by omega))).symm, rfl⟩
                · skip
                  refine zv_iconst (v := zI 1) C dX11_isBetter_200 rfl ?_
                  refine zv_goto (tgt := 205) C dX11_isBetter_201 (by decide) ?_
                  exact zv_iret C hr rfl dX11_isBetter_205 ⟨(zB_t (hiff.mpr (by omega))).symm, rfl⟩
              · skip
                refine zv_iload C 6 dX11_isBetter_170 rfl ?_
                refine zv_aload_n C 1 dX11_isBetter_172 rfl rfl ?_
                refine zG10_25 C (by decide : kd 327 = _) kX11_41 dX11_isBetter_173 ?_
                refine zv_iconst (v := zI 2) C dX11_isBetter_176 rfl ?_
                refine zv_iald (j := 2) C (by decide : kd 337 = _) (zI_ix (by omega)) (by decide) dX11_isBetter_177 ?_
                refine zv_eqi (y := (zI (d0 : Int))) (hg.2.2.1) ?_
                refine zv_icmp_geZ (tgt := 185) C (by omega) (by omega) dX11_isBetter_178 (by decide) (fun h178 => ?_) (fun h178 => ?_)
                · skip
                  refine zv_iconst (v := zI 0) C dX11_isBetter_185 rfl ?_
                  refine zv_goto (tgt := 205) C dX11_isBetter_186 (by decide) ?_
                  exact zv_iret C hr rfl dX11_isBetter_205 ⟨(zB_f (fun z => absurd (hiff.mp z) (by omega))).symm, rfl⟩
                · skip
                  refine zv_iconst (v := zI 1) C dX11_isBetter_181 rfl ?_
                  refine zv_goto (tgt := 205) C dX11_isBetter_182 (by decide) ?_
                  exact zv_iret C hr rfl dX11_isBetter_205 ⟨(zB_t (hiff.mpr (by omega))).symm, rfl⟩
            · skip
              refine zv_iload C 5 dX11_isBetter_142 rfl ?_
              refine zv_aload_n C 1 dX11_isBetter_144 rfl rfl ?_
              refine zG10_25 C (by decide : kd 327 = _) kX11_41 dX11_isBetter_145 ?_
              refine zv_iconst (v := zI 1) C dX11_isBetter_148 rfl ?_
              refine zv_iald (j := 1) C (by decide : kd 337 = _) (zI_ix (by omega)) (by decide) dX11_isBetter_149 ?_
              refine zv_eqi (y := (zI (c0 : Int))) (hg.2.1) ?_
              refine zv_icmp_geZ (tgt := 157) C (by omega) (by omega) dX11_isBetter_150 (by decide) (fun h150 => ?_) (fun h150 => ?_)
              · skip
                refine zv_iconst (v := zI 0) C dX11_isBetter_157 rfl ?_
                exact zv_iret C hr rfl dX11_isBetter_158 ⟨(zB_f (fun z => absurd (hiff.mp z) (by omega))).symm, rfl⟩
              · skip
                refine zv_iconst (v := zI 1) C dX11_isBetter_153 rfl ?_
                refine zv_goto (tgt := 158) C dX11_isBetter_154 (by decide) ?_
                exact zv_iret C hr rfl dX11_isBetter_158 ⟨(zB_t (hiff.mpr (by omega))).symm, rfl⟩
          · skip
            refine zv_iload C 4 dX11_isBetter_114 rfl ?_
            refine zv_aload_n C 1 dX11_isBetter_116 rfl rfl ?_
            refine zG10_25 C (by decide : kd 327 = _) kX11_41 dX11_isBetter_117 ?_
            refine zv_iconst (v := zI 0) C dX11_isBetter_120 rfl ?_
            refine zv_iald (j := 0) C (by decide : kd 337 = _) (zI_ix (by omega)) (by decide) dX11_isBetter_121 ?_
            refine zv_eqi (y := (zI (a0 : Int))) (hg.1) ?_
            refine zv_icmp_geZ (tgt := 129) C (by omega) (by omega) dX11_isBetter_122 (by decide) (fun h122 => ?_) (fun h122 => ?_)
            · skip
              refine zv_iconst (v := zI 0) C dX11_isBetter_129 rfl ?_
              exact zv_iret C hr rfl dX11_isBetter_130 ⟨(zB_f (fun z => absurd (hiff.mp z) (by omega))).symm, rfl⟩
            · skip
              refine zv_iconst (v := zI 1) C dX11_isBetter_125 rfl ?_
              refine zv_goto (tgt := 130) C dX11_isBetter_126 (by decide) ?_
              exact zv_iret C hr rfl dX11_isBetter_130 ⟨(zB_t (hiff.mpr (by omega))).symm, rfl⟩
        · skip
          refine zv_iload C 0 dX11_isBetter_92 rfl ?_
          refine zv_if_geZ (tgt := 101) C (by omega) dX11_isBetter_94 (by decide) (fun h94 => ?_) (fun h94 => ?_)
          · skip
            refine zv_iconst (v := zI 0) C dX11_isBetter_101 rfl ?_
            exact zv_iret C hr rfl dX11_isBetter_102 ⟨(zB_f (fun z => absurd (hiff.mp z) (by omega))).symm, rfl⟩
          · skip
            refine zv_iconst (v := zI 1) C dX11_isBetter_97 rfl ?_
            refine zv_goto (tgt := 102) C dX11_isBetter_98 (by decide) ?_
            exact zv_iret C hr rfl dX11_isBetter_102 ⟨(zB_t (hiff.mpr (by omega))).symm, rfl⟩
      · skip
        refine zv_iconst (v := zI 0) C dX11_isBetter_44 rfl ?_
        exact zv_iret C hr rfl dX11_isBetter_45 ⟨(zB_f (fun z => absurd (hiff.mp z) (by omega))).symm, rfl⟩
    · skip
      refine zv_iconst (v := zI 1) C dX11_isBetter_26 rfl ?_
      exact zv_iret C hr rfl dX11_isBetter_27 ⟨(zB_t (hiff.mpr (by omega))).symm, rfl⟩
theorem cG_isBetter {l : Launch} (hfl : l.stackTraces = false) (E : zE) (σ : zS) (g : hB) (f1 u1 a1 c1 d1 e1 : Nat) (hg : zHb σ g) (hok : hOk g) (hf1 : f1 < 2 ^ 62) (hu1 : 0 < u1 ∧ u1 ≤ 10000) (ha1 : a1 ≤ 100) (hc1 : c1 ≤ 100) (hd1 : d1 ≤ 100) (he1 : e1 ≤ 100) (hlx : hBf g a1 c1 d1 e1) : zRi l E yX11_isBetter cX11_isBetter 10 .boolean (zrm 4 120) [.ref (ob E 327), .long (zL (f1 : Int)), .long (zL (u1 : Int)), .int (zI (a1 : Int)), .int (zI (c1 : Int)), .int (zI (d1 : Int)), .int (zI (e1 : Int))] σ (fun r τ => r = zB (hBet g f1 u1 (a1 + c1 + d1 + e1) = true) ∧ τ = σ) := by
  cases g with
  | none =>
    rw [show zB (hBet none f1 u1 (a1 + c1 + d1 + e1) = true) = zI 1 from zB_t rfl]
    exact c0_X11_isBetter hfl E σ f1 u1 a1 c1 d1 e1 hg hf1 hu1 ha1 hc1 hd1 he1
  | some q =>
    obtain ⟨f0, u0, a0, c0, d0, e0⟩ := q
    exact c_X11_isBetter hfl E σ f0 u0 a0 c0 d0 e0 f1 u1 a1 c1 d1 e1 hg hok hf1 hu1 ha1 hc1 hd1 he1 hlx
/-- how far a candidate is off; the world behind it -/
def hOff (t : Int) (b v u1 : Nat) : Nat := (((v * b : Nat) : Int) - ((t.natAbs * u1 : Nat) : Int)).natAbs
def hWd (σ : zS) (g : hB) (f1 u1 a1 c1 d1 e1 : Nat) : zS := if hBet g f1 u1 (a1 + c1 + d1 + e1) = true then hSw σ f1 u1 a1 c1 d1 e1 else σ
theorem zHb_w {σ : zS} {g : hB} (h : zHb σ g) (f1 u1 a1 c1 d1 e1 : Nat) : zHb (hWd σ g f1 u1 a1 c1 d1 e1) (hNew g f1 u1 a1 c1 d1 e1) := by
  unfold hWd hNew
  by_cases q : hBet g f1 u1 (a1 + c1 + d1 + e1) = true
  · rw [if_pos q, if_pos q]; exact zHb_s _ _ _ _ _ _ _
  · rw [if_neg q, if_neg q]; exact h
theorem mK_Hw {σ τ : zS} {k : Nat} (h : mK σ τ k) (g : hB) (f1 u1 a1 c1 d1 e1 : Nat) : mK σ (hWd τ g f1 u1 a1 c1 d1 e1) k := by
  unfold hWd
  split
  · exact mK_H h _ _ _ _ _ _
  · exact h
set_option maxRecDepth 20000 in
theorem c_X11_offers {l : Launch} (hfl : l.stackTraces = false) (E : zE) (σ : zS) (g : hB) (t : Int) (b9 v1 u1 a1 c1 d1 e1 : Nat) (hg : zHb σ g) (hok : hOk g) (hup : gJ σ 327 22 = zL t) (hdn : gJ σ 327 23 = zL (b9 : Int)) (ht : t.natAbs ≤ 281474976710656) (hb9 : b9 ≤ 281474976710656) (hv1 : v1 ≤ 10000) (hu1 : 0 < u1 ∧ u1 ≤ 10000) (ha1 : a1 ≤ 100) (hc1 : c1 ≤ 100) (hd1 : d1 ≤ 100) (he1 : e1 ≤ 100) (hlx : hBf g a1 c1 d1 e1) : zRv l E yX11_offers cX11_offers 11 (zrm 5 149) [.ref (ob E 327), .long (zL (v1 : Int)), .long (zL (u1 : Int)), .int (zI (a1 : Int)), .int (zI (c1 : Int)), .int (zI (d1 : Int)), .int (zI (e1 : Int))] σ (fun τ => τ = hWd σ g (hOff t b9 v1 u1) u1 a1 c1 d1 e1) := by
  refine Met.ofW (cc := cX11_offers) (maxL := 11) (ret := none) (by decide +kernel) rfl ?_
  intro p e s m args below meth c s₁ B hml hv
  obtain ⟨rfl, hd⟩ := hv
  have C := zX_of (own := RX11) hfl B hml rfl hd rfl
  have hr := B.returns
  refine zV_go hd (Nat.le_of_ble_eq_true rfl) (lv := [(0, .ref (ob E 327)), (1, .long (zL (v1 : Int))), (3, .long (zL (u1 : Int))), (5, .int (zI (a1 : Int))), (6, .int (zI (c1 : Int))), (7, .int (zI (d1 : Int))), (8, .int (zI (e1 : Int)))]) rfl ?_
  have m1 : v1 * b9 ≤ 10000 * 281474976710656 := Nat.mul_le_mul hv1 hb9
  have m2 : t.natAbs * u1 ≤ 281474976710656 * 10000 := Nat.mul_le_mul ht hu1.2
  have ho : hOff t b9 v1 u1 < 2 ^ 62 := by unfold hOff; omega
  refine zv_lload_n C 1 dX11_offers_0 rfl rfl ?_
  refine zv_aload_n C 0 dX11_offers_1 rfl rfl ?_
  refine zG10_23 C (by decide : kd 327 = _) kX11_253 dX11_offers_2 ?_
  refine zv_eql (y := (zL (b9 : Int))) (hdn) ?_
  refine zv_lmulZ C dX11_offers_5 ?_
  refine zv_eql (y := (zL ((v1 * b9 : Nat) : Int))) (congrArg zL (Int.natCast_mul _ _).symm) ?_
  refine zv_aload_n C 0 dX11_offers_6 rfl rfl ?_
  refine zG10_22 C (by decide : kd 327 = _) kX11_249 dX11_offers_7 ?_
  refine zv_eql (y := (zL t)) (hup) ?_
  refine zv_cslD (st := [.long (zL ((v1 * b9 : Nat) : Int))]) C (c_J9_abs_067f4 hfl E σ (t) (by omega)) mJ9_abs_067f4 kX11_239 rfl ⟨rfl, rfl⟩ (show zfit (zrm 0 0) 2 (zrm 5 149) = true from rfl) (Nat.le_of_ble_eq_true rfl) dX11_offers_10 ⟨Nat.zero_le _, Nat.zero_le _⟩ ?_
  refine zv_lload_n C 2 dX11_offers_13 rfl rfl ?_
  refine zv_lmulZ C dX11_offers_14 ?_
  refine zv_eql (y := (zL ((t.natAbs * u1 : Nat) : Int))) (congrArg zL (Int.natCast_mul _ _).symm) ?_
  refine zv_lsubZ C dX11_offers_15 ?_
  refine zv_cslD (st := []) C (c_J9_abs_067f4 hfl E σ (((v1 * b9 : Nat) : Int) - ((t.natAbs * u1 : Nat) : Int)) (by omega)) mJ9_abs_067f4 kX11_239 rfl ⟨rfl, rfl⟩ (show zfit (zrm 0 0) 2 (zrm 5 149) = true from rfl) (Nat.le_of_ble_eq_true rfl) dX11_offers_16 ⟨Nat.zero_le _, Nat.zero_le _⟩ ?_
  refine zv_eql (y := (zL ((hOff t b9 v1 u1 : Nat) : Int))) (rfl) ?_
  refine zv_lstore (lv' := [(9, .long (zL ((hOff t b9 v1 u1 : Nat) : Int))), (0, .ref (ob E 327)), (1, .long (zL (v1 : Int))), (3, .long (zL (u1 : Int))), (5, .int (zI (a1 : Int))), (6, .int (zI (c1 : Int))), (7, .int (zI (d1 : Int))), (8, .int (zI (e1 : Int)))]) C dX11_offers_19  (by decide) rfl ?_
  refine zv_aload_n C 1 dX11_offers_21 rfl rfl ?_
  refine zv_lload C 0 dX11_offers_22 rfl ?_
  refine zv_lload_n C 3 dX11_offers_24 rfl rfl ?_
  refine zv_iload C 4 dX11_offers_25 rfl ?_
  refine zv_iload C 5 dX11_offers_27 rfl ?_
  refine zv_iload C 6 dX11_offers_29 rfl ?_
  refine zv_iload C 7 dX11_offers_31 rfl ?_
  refine zv_cviD (st := []) C (cG_isBetter hfl E σ g (hOff t b9 v1 u1) u1 a1 c1 d1 e1 hg hok ho hu1 ha1 hc1 hd1 he1 hlx) mX11_isBetter kX11_371 (by decide : kd 327 = 10) rfl rfl rfl ⟨rfl, rfl⟩ (show zfit (zrm 4 120) 10 (zrm 5 149) = true from rfl) (Nat.le_of_ble_eq_true rfl) dX11_offers_33 ⟨Nat.zero_le _, Nat.zero_le _⟩ ?_
  refine zv_if_neB (tgt := 40) C dX11_offers_36 (by decide) (fun h36 => ?_) (fun h36 => ?_)
  · skip
    refine zv_aload_n C 1 dX11_offers_40 rfl rfl ?_
    refine zG10_25 C (by decide : kd 327 = _) kX11_41 dX11_offers_41 ?_
    refine zv_iconst (v := zI 0) C dX11_offers_44 rfl ?_
    refine zv_iload C 4 dX11_offers_45 rfl ?_
    refine zv_iast (j := 0) C (by decide : kd 337 = _) (zI_ix (by omega)) (by decide) dX11_offers_47 ?_
    refine zv_aload_n C 1 dX11_offers_48 rfl rfl ?_
    refine zG10_25 C (by decide : kd 327 = _) kX11_41 dX11_offers_49 ?_
    refine zv_iconst (v := zI 1) C dX11_offers_52 rfl ?_
    refine zv_iload C 5 dX11_offers_53 rfl ?_
    refine zv_iast (j := 1) C (by decide : kd 337 = _) (zI_ix (by omega)) (by decide) dX11_offers_55 ?_
    refine zv_aload_n C 1 dX11_offers_56 rfl rfl ?_
    refine zG10_25 C (by decide : kd 327 = _) kX11_41 dX11_offers_57 ?_
    refine zv_iconst (v := zI 2) C dX11_offers_60 rfl ?_
    refine zv_iload C 6 dX11_offers_61 rfl ?_
    refine zv_iast (j := 2) C (by decide : kd 337 = _) (zI_ix (by omega)) (by decide) dX11_offers_63 ?_
    refine zv_aload_n C 1 dX11_offers_64 rfl rfl ?_
    refine zG10_25 C (by decide : kd 327 = _) kX11_41 dX11_offers_65 ?_
    refine zv_iconst (v := zI 3) C dX11_offers_68 rfl ?_
    refine zv_iload C 7 dX11_offers_69 rfl ?_
    refine zv_iast (j := 3) C (by decide : kd 337 = _) (zI_ix (by omega)) (by decide) dX11_offers_71 ?_
    refine zv_aload_n C 1 dX11_offers_72 rfl rfl ?_
    refine zv_lload C 0 dX11_offers_73 rfl ?_
    refine zP10_26 C (by decide : kd 327 = _) kX11_361 dX11_offers_75 ?_
    refine zv_aload_n C 1 dX11_offers_78 rfl rfl ?_
    refine zv_lload_n C 3 dX11_offers_79 rfl rfl ?_
    refine zP10_27 C (by decide : kd 327 = _) kX11_364 dX11_offers_80 ?_
    exact zv_vret C hr dX11_offers_83 (by rw [hWd, if_pos h36]; rfl)
  · skip
    exact zv_vret C hr dX11_offers_39 (by rw [hWd, if_neg h36])
