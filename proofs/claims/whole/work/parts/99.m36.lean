/-! names found; once alone -/
def nmE (u v : Nat → Int) : Nat → Nat
  | 0 => 1
  | i + 1 => if nmE u v i ≠ 0 ∧ u i = v i then 1 else 0
theorem nmE_a (u v : Nat → Int) : ∀ k, nmE u v k ≠ 0 ↔ ∀ x, x < k → u x = v x := by
  intro k
  induction k with
  | zero => exact ⟨fun _ x h => absurd h (Nat.not_lt_zero x), fun _ => by show (1 : Nat) ≠ 0; omega⟩
  | succ k ih =>
    unfold nmE
    split
    · rename_i h
      refine ⟨fun _ x hx => ?_, fun _ => by omega⟩
      rcases Nat.lt_or_ge x k with g | g
      · exact ih.mp h.1 x g
      · rw [show x = k by omega]; exact h.2
    · rename_i h
      refine ⟨fun z => absurd rfl z, fun z => absurd ⟨ih.mpr (fun x hx => z x (by omega)), z k (by omega)⟩ h⟩
theorem nmE_1 (u v : Nat → Int) (k : Nat) : nmE u v k ≤ 1 := by
  cases k with
  | zero => exact Nat.le_refl 1
  | succ k => unfold nmE; split <;> omega
theorem nm_eq {tx tx' : Nat → Int} {b b' m m' : Nat} (hm : m ≤ 8) (hm' : m' ≤ 8) (h : ∀ i, i < m → 97 ≤ tx (b + i) ∧ tx (b + i) ≤ 122) (h' : ∀ i, i < m' → 97 ≤ tx' (b' + i) ∧ tx' (b' + i) ≤ 122) : zL (pk tx b m : Int) = zL (pk tx' b' m' : Int) ↔ ∀ x, x < 8 → (if x < m then tx (b + x) else 0) = (if x < m' then tx' (b' + x) else 0) := by
  rw [zL_in (pk_63 hm h) (pk_63 hm' h'), pk_i m m' h h']
  constructor
  · rintro ⟨e, g⟩ x hx
    subst e
    split
    · rename_i z; exact g x z
    · rfl
  · intro g
    have e : m = m' := by
      rcases Nat.lt_trichotomy m m' with z | z | z
      · have h1 := g m (by omega)
        rw [if_neg (by omega), if_pos z] at h1
        have h2 := h' m z
        omega
      · exact z
      · have h1 := g m' (by omega)
        rw [if_pos z, if_neg (by omega)] at h1
        have h2 := h m' z
        omega
    subst e
    refine ⟨rfl, fun i hi => ?_⟩
    have h1 := g i (by omega)
    rw [if_pos hi, if_pos hi] at h1
    exact h1
theorem oB_a1 (P : zPs) : zI (oB P : Int) &&& zI 1 = zI ((if P.o1 = true then 1 else 0 : Nat) : Int) := by
  unfold oB
  cases P.o1 <;> cases P.o2 <;> cases P.o3 <;> decide
theorem oB_a2 (P : zPs) : zI (oB P : Int) &&& zI 2 = zI ((if P.o2 = true then 2 else 0 : Nat) : Int) := by
  unfold oB
  cases P.o1 <;> cases P.o2 <;> cases P.o3 <;> decide
theorem oB_a4 (P : zPs) : zI (oB P : Int) &&& zI 4 = zI ((if P.o3 = true then 4 else 0 : Nat) : Int) := by
  unfold oB
  cases P.o1 <;> cases P.o2 <;> cases P.o3 <;> decide
theorem oB_r1 (P : zPs) : zI (oB P : Int) ||| zI 1 = zI (oB P.so1 : Int) := by
  show zI (oB P : Int) ||| zI 1 = zI (((if true = true then 1 else 0) + (if P.o2 = true then 2 else 0) + (if P.o3 = true then 4 else 0) : Nat) : Int)
  unfold oB
  cases P.o1 <;> cases P.o2 <;> cases P.o3 <;> decide
theorem oB_r2 (P : zPs) : zI (oB P : Int) ||| zI 2 = zI (oB P.so2 : Int) := by
  show zI (oB P : Int) ||| zI 2 = zI (((if P.o1 = true then 1 else 0) + (if true = true then 2 else 0) + (if P.o3 = true then 4 else 0) : Nat) : Int)
  unfold oB
  cases P.o1 <;> cases P.o2 <;> cases P.o3 <;> decide
theorem oB_r4 (P : zPs) : zI (oB P : Int) ||| zI 4 = zI (oB P.so3 : Int) := by
  show zI (oB P : Int) ||| zI 4 = zI (((if P.o1 = true then 1 else 0) + (if P.o2 = true then 2 else 0) + (if true = true then 4 else 0) : Nat) : Int)
  unfold oB
  cases P.o1 <;> cases P.o2 <;> cases P.o3 <;> decide
/-- the bits of what has been seen change alone -/
theorem mPS_o {σ : zS} {tx : Nat → Int} {n : Nat} {P P' : zPs} (h : mPS σ tx n P) (hq : P'.q = P.q) (hU : P'.U = P.U) (hS : P'.S = P.S) : mPS (sI σ 327 21 (zI (oB P' : Int))) tx n P' := by
  obtain ⟨h1, h2, h3, ⟨h4, h5, h6, h7, h8⟩, h9, h10⟩ := h
  have e : ∀ x j, ¬ (x = 327 ∧ j = 21) → gI (sI σ 327 21 (zI (oB P' : Int))) x j = gI σ x j := fun x j q => by rw [gI_sI, if_neg q]
  have eg : ∀ x, x ≠ 327 → gI (sI σ 327 21 (zI (oB P' : Int))) x = gI σ x := fun x q => funext fun j => e x j (by omega)
  refine ⟨⟨(e _ _ (by omega)).trans h1.1, h1.2.1, fun i hi => (e _ _ (by omega)).trans (h1.2.2.1 i hi), h1.2.2.2⟩, ?_, by rw [hq]; exact h3, ⟨by rw [eg 328 (by decide), hU]; exact h4, by rw [eg 330 (by decide), hU]; exact h5, by rw [eg 332 (by decide), hS]; exact h6, by rw [gI_sI, if_pos ⟨rfl, rfl⟩], ?_⟩, (e _ _ (by omega)).trans h9, (e _ _ (by omega)).trans h10⟩
  · rw [hq]
    exact ⟨(e _ _ (by omega)).trans h2.1, (e _ _ (by omega)).trans h2.2.1, (e _ _ (by omega)).trans h2.2.2.1, fun z => (e _ _ (by omega)).trans (h2.2.2.2 z)⟩
  · unfold mBd
    rw [hU, hS]
    exact h8
def pKn (tx : Nat → Int) (n : Nat) (P : zPs) : Nat := if pNam tx n P.q ≠ 0 then 1 else if pO P.U.nm (tP tx n P.q) P.U.nb < 0 then 3 else 0
set_option maxRecDepth 20000 in
theorem c_X11_find {l : Launch} (hfl : l.stackTraces = false) (E : zE) (σ : zS) (tx : Nat → Int) (n : Nat) (P : zPs) (hP : mPS σ tx n P) (hN : tNm tx n P.q) : zRi l E yX11_find cX11_find 4 .int (zrm 0 0) [.ref (ob E 327)] σ (fun r τ => r = zI (pO P.U.nm (tP tx n P.q) P.U.nb) ∧ τ = σ) := by
  refine Met.ofW (cc := cX11_find) (maxL := 4) (ret := (some .int)) (by decide +kernel) rfl ?_
  intro p e s m args below meth c s₁ B hml hv
  obtain ⟨rfl, hd⟩ := hv
  have C := zX_of (own := RX11) hfl B hml rfl hd rfl
  have hr := B.returns
  refine zV_go hd (Nat.le_of_ble_eq_true rfl) (lv := [(0, .ref (ob E 327))]) rfl ?_
  have hn9 := hP.1.2.1
  have hpe := hP.2.2.2.2.1
  have hpb := (mPS_w hP).2.1
  have hlq := tE_L tx hP.2.2.1
  have hkq := tK_b tx n P.q
  have hnb : P.U.nb ≤ 8 := hP.2.2.2.1.2.2.2.2.1
  have hNM : zNm (gI σ 330) P.U := hP.2.2.2.1.2.1
  have hls := (tK_1 hN.1).2.2
  have hL8 := hN.2.1
  refine zv_iconst (v := zI 0) C dX11_find_0 rfl ?_
  refine zv_istore_n (lv' := [(1, .int (zI 0)), (0, .ref (ob E 327))]) C dX11_find_1 rfl (by decide) rfl ?_
  have q2_11 : (0 : Int) = (0 : Int) := by first | rfl | omega
  refine zv_sub (lv' := [(0, .ref (ob E 327)), (1, .int (zI (0 : Int)))]) [1, 0] (zcons rfl (zcons (zqI q2_11) rfl)) ?_
  refine zv_while (α := Nat) (fun v => P.U.nb - v) (fun v => v ≤ P.U.nb ∧ pO P.U.nm (tP tx n P.q) v = -1) (fun v => σ) (fun v => [(0, .ref (ob E 327)), (1, .int (zI (v : Int)))]) (fun v => []) (fun k hI ih => ?_) (0) (⟨Nat.zero_le _, rfl⟩)
  obtain ⟨hk, hk2⟩ := hI
  refine zv_iload_n C 1 dX11_find_2 rfl rfl ?_
  refine zv_aload_n C 0 dX11_find_3 rfl rfl ?_
  refine zG10_0 C (by decide : kd 327 = _) kX11_7 dX11_find_4 ?_
  refine zv_iconst (v := zI 0) C dX11_find_7 rfl ?_
  refine zv_iald (j := 0) C (by decide : kd 328 = _) (zI_ix (by omega)) (by decide) dX11_find_8 ?_
  refine zv_eqi (y := (zI (P.U.nb : Int))) (hP.2.2.2.1.1.1) ?_
  refine zv_icmp_geZ (tgt := 92) C (by omega) (by omega) dX11_find_9 (by decide) (fun h9 => ?_) (fun h9 => ?_)
  · skip
    have hke : k = P.U.nb := by omega
    refine zv_iconst (v := zI (-1)) C dX11_find_92 rfl ?_
    exact zv_iret C hr rfl dX11_find_93 ⟨congrArg zI (by rw [← hke, hk2]), rfl⟩
  · skip
    obtain ⟨tx9, b9, m9, hm9, hl9, hnm9, hg9⟩ := hNM k (by omega)
    obtain ⟨u9, hu9⟩ : ∃ u : Nat → Int, u = (fun x : Nat => if x < m9 then tx9 (b9 + x) else 0) := ⟨_, rfl⟩
    obtain ⟨v9, hv9⟩ : ∃ v : Nat → Int, v = (fun x : Nat => if x < tL tx n P.q then tx (tB tx n P.q + x) else 0) := ⟨_, rfl⟩
    have hiff : P.U.nm k = tP tx n P.q ↔ ∀ x, x < 8 → u9 x = v9 x := by
      rw [hnm9, hu9, hv9]
      exact nm_eq hm9.2 hL8 hl9 hls
    refine zv_iconst (v := zI 1) C dX11_find_12 rfl ?_
    refine zv_istore_n (lv' := [(2, .int (zI 1)), (0, .ref (ob E 327)), (1, .int (zI (k : Int)))]) C dX11_find_13 rfl (by decide) rfl ?_
    refine zv_iconst (v := zI 0) C dX11_find_14 rfl ?_
    refine zv_istore_n (lv' := [(3, .int (zI 0)), (2, .int (zI 1)), (0, .ref (ob E 327)), (1, .int (zI (k : Int)))]) C dX11_find_15 rfl (by decide) rfl ?_
    have q16_37 : (0 : Int) = (0 : Int) := by first | rfl | omega
    have q16_38 : (1 : Int) = (nmE u9 v9 0 : Int) := by rfl
    refine zv_sub (lv' := [(0, .ref (ob E 327)), (1, .int (zI (k : Int))), (2, .int (zI (nmE u9 v9 0 : Int))), (3, .int (zI (0 : Int)))]) [2, 3, 1, 0] (zcons rfl (zcons rfl (zcons (zqI q16_38) (zcons (zqI q16_37) rfl)))) ?_
    refine zv_while (α := Nat) (fun v => 8 - v) (fun v => v ≤ 8) (fun v => σ) (fun v => [(0, .ref (ob E 327)), (1, .int (zI (k : Int))), (2, .int (zI (nmE u9 v9 v : Int))), (3, .int (zI (v : Int)))]) (fun v => []) (fun i hI ih16 => ?_) (0) (by omega)
    have hi8 : i ≤ 8 := hI
    have hn1 := nmE_1 u9 v9 i
    refine zv_iload_n C 3 dX11_find_16 rfl rfl ?_
    refine zv_bipush (v := zI 8) C dX11_find_17 (by decide) ?_
    refine zv_icmp_geZ (tgt := 80) C (by omega) (by omega) dX11_find_19 (by decide) (fun h19 => ?_) (fun h19 => ?_)
    · skip
      refine zv_iload_n C 2 dX11_find_80 rfl rfl ?_
      refine zv_if_eqZ (tgt := 86) C (by omega) dX11_find_81 (by decide) (fun h81 => ?_) (fun h81 => ?_)
      · skip
        have hzz : nmE u9 v9 8 = 0 := by
          rw [← show i = 8 by omega]
          omega
        have hne : ¬ P.U.nm k = tP tx n P.q := fun z => (nmE_a u9 v9 8).mpr (hiff.mp z) hzz
        refine zv_iinc (v := (zI ((k : Int) + 1))) (lv' := [(1, .int (zI ((k : Int) + 1))), (0, .ref (ob E 327)), (2, .int (zI (nmE u9 v9 i : Int))), (3, .int (zI (i : Int)))]) C 1 dX11_find_86 rfl (zI_add _ _) (by decide) rfl ?_
        refine zv_goto (tgt := 2) C dX11_find_89 (by decide) ?_
        have q2_56 : ((k : Int) + 1 : Int) = ((k + 1 : Nat) : Int) := by first | rfl | omega
        refine zv_sub (lv' := [(0, .ref (ob E 327)), (1, .int (zI ((k + 1 : Nat) : Int)))]) [1, 0] (zcons rfl (zcons (zqI q2_56) rfl)) ?_
        exact ih (k + 1) (⟨by omega, by rw [pO, if_neg (by omega), if_neg hne]⟩) (by omega)
      · skip
        have hnz : nmE u9 v9 8 ≠ 0 := by
          rw [← show i = 8 by omega]
          omega
        have heq := hiff.mpr ((nmE_a _ _ 8).mp hnz)
        refine zv_iload_n C 1 dX11_find_84 rfl rfl ?_
        exact zv_iret C hr rfl dX11_find_85 ⟨congrArg zI (pO_of hk2 heq P.U.nb (by omega)).symm, rfl⟩
    · skip
      have hub : 0 ≤ u9 i ∧ u9 i ≤ 122 := by
        rw [hu9]
        show 0 ≤ (if i < m9 then tx9 (b9 + i) else 0) ∧ (if i < m9 then tx9 (b9 + i) else 0) ≤ 122
        split
        · rename_i z; have := hl9 i z; omega
        · omega
      refine zv_iload_n C 2 dX11_find_22 rfl rfl ?_
      refine zv_if_eqZ (tgt := 72) C (by omega) dX11_find_23 (by decide) (fun h23 => ?_) (fun h23 => ?_)
      · skip
        refine zv_iconst (v := zI 0) C dX11_find_72 rfl ?_
        refine zv_istore_n (lv' := [(2, .int (zI 0)), (0, .ref (ob E 327)), (1, .int (zI (k : Int))), (3, .int (zI (i : Int)))]) C dX11_find_73 rfl (by decide) rfl ?_
        refine zv_iinc (v := (zI ((i : Int) + 1))) (lv' := [(3, .int (zI ((i : Int) + 1))), (2, .int (zI 0)), (0, .ref (ob E 327)), (1, .int (zI (k : Int)))]) C 3 dX11_find_74 rfl (zI_add _ _) (by decide) rfl ?_
        refine zv_goto (tgt := 16) C dX11_find_77 (by decide) ?_
        have q16_80 : ((i : Int) + 1 : Int) = ((i + 1 : Nat) : Int) := by first | rfl | omega
        have q16_81 : (0 : Int) = (nmE u9 v9 (i + 1) : Int) := by first | (rw [nmE, if_pos ⟨by omega, by omega⟩]; rfl) | (rw [nmE, if_neg (by omega)]; rfl)
        refine zv_sub (lv' := [(0, .ref (ob E 327)), (1, .int (zI (k : Int))), (2, .int (zI (nmE u9 v9 (i + 1) : Int))), (3, .int (zI ((i + 1 : Nat) : Int)))]) [2, 3, 1, 0] (zcons rfl (zcons rfl (zcons (zqI q16_81) (zcons (zqI q16_80) rfl)))) ?_
        exact ih16 (i + 1) (by omega) (by omega)
      · skip
        refine zv_aload_n C 0 dX11_find_26 rfl rfl ?_
        refine zG10_2 C (by decide : kd 327 = _) kX11_16 dX11_find_27 ?_
        refine zv_bipush (v := zI 8) C dX11_find_30 (by decide) ?_
        refine zv_iload_n C 1 dX11_find_32 rfl rfl ?_
        refine zv_imulZ C dX11_find_33 ?_
        refine zv_iload_n C 3 dX11_find_34 rfl rfl ?_
        refine zv_iaddZ C dX11_find_35 ?_
        refine zv_iald (j := 8 * k + i) C (by decide : kd 330 = _) (zI_ix (by omega)) (Nat.lt_of_lt_of_eq (show 8 * k + i < 64 by omega) (by decide)) dX11_find_36 ?_
        refine zv_eqi (y := (zI (u9 i))) (by rw [hu9]; exact hg9 i (by omega)) ?_
        refine zv_iload_n C 3 dX11_find_37 rfl rfl ?_
        refine zv_aload_n C 0 dX11_find_38 rfl rfl ?_
        refine zG10_17 C (by decide : kd 327 = _) kX11_75 dX11_find_39 ?_
        refine zv_eqi (y := (zI (tE tx n P.q : Int))) ((mPS_w hP).1) ?_
        refine zv_aload_n C 0 dX11_find_42 rfl rfl ?_
        refine zG10_18 C (by decide : kd 327 = _) kX11_82 dX11_find_43 ?_
        refine zv_eqi (y := (zI (tB tx n P.q : Int))) (hpb) ?_
        refine zv_isubZ C dX11_find_46 ?_
        refine zv_icmp_geZ (tgt := 64) C (by omega) (by omega) dX11_find_47 (by decide) (fun h47 => ?_) (fun h47 => ?_)
        · skip
          have hv1 : v9 i = 0 := by rw [hv9]; exact if_neg (by omega)
          refine zv_iconst (v := zI 0) C dX11_find_64 rfl ?_
          refine zv_icmp_neZ (tgt := 72) C (by omega) (by omega) dX11_find_65 (by decide) (fun h65 => ?_) (fun h65 => ?_)
          · skip
            refine zv_iconst (v := zI 0) C dX11_find_72 rfl ?_
            refine zv_istore_n (lv' := [(2, .int (zI 0)), (0, .ref (ob E 327)), (1, .int (zI (k : Int))), (3, .int (zI (i : Int)))]) C dX11_find_73 rfl (by decide) rfl ?_
            refine zv_iinc (v := (zI ((i : Int) + 1))) (lv' := [(3, .int (zI ((i : Int) + 1))), (2, .int (zI 0)), (0, .ref (ob E 327)), (1, .int (zI (k : Int)))]) C 3 dX11_find_74 rfl (zI_add _ _) (by decide) rfl ?_
            refine zv_goto (tgt := 16) C dX11_find_77 (by decide) ?_
            have q16_112 : ((i : Int) + 1 : Int) = ((i + 1 : Nat) : Int) := by first | rfl | omega
            have q16_113 : (0 : Int) = (nmE u9 v9 (i + 1) : Int) := by first | (rw [nmE, if_pos ⟨by omega, by omega⟩]; rfl) | (rw [nmE, if_neg (by omega)]; rfl)
            refine zv_sub (lv' := [(0, .ref (ob E 327)), (1, .int (zI (k : Int))), (2, .int (zI (nmE u9 v9 (i + 1) : Int))), (3, .int (zI ((i + 1 : Nat) : Int)))]) [2, 3, 1, 0] (zcons rfl (zcons rfl (zcons (zqI q16_113) (zcons (zqI q16_112) rfl)))) ?_
            exact ih16 (i + 1) (by omega) (by omega)
          · skip
            refine zv_iconst (v := zI 1) C dX11_find_68 rfl ?_
            refine zv_goto (tgt := 73) C dX11_find_69 (by decide) ?_
            refine zv_istore_n (lv' := [(2, .int (zI 1)), (0, .ref (ob E 327)), (1, .int (zI (k : Int))), (3, .int (zI (i : Int)))]) C dX11_find_73 rfl (by decide) rfl ?_
            refine zv_iinc (v := (zI ((i : Int) + 1))) (lv' := [(3, .int (zI ((i : Int) + 1))), (2, .int (zI 1)), (0, .ref (ob E 327)), (1, .int (zI (k : Int)))]) C 3 dX11_find_74 rfl (zI_add _ _) (by decide) rfl ?_
            refine zv_goto (tgt := 16) C dX11_find_77 (by decide) ?_
            have q16_122 : ((i : Int) + 1 : Int) = ((i + 1 : Nat) : Int) := by first | rfl | omega
            have q16_123 : (1 : Int) = (nmE u9 v9 (i + 1) : Int) := by first | (rw [nmE, if_pos ⟨by omega, by omega⟩]; rfl) | (rw [nmE, if_neg (by omega)]; rfl)
            refine zv_sub (lv' := [(0, .ref (ob E 327)), (1, .int (zI (k : Int))), (2, .int (zI (nmE u9 v9 (i + 1) : Int))), (3, .int (zI ((i + 1 : Nat) : Int)))]) [2, 3, 1, 0] (zcons rfl (zcons rfl (zcons (zqI q16_123) (zcons (zqI q16_122) rfl)))) ?_
            exact ih16 (i + 1) (by omega) (by omega)
        · skip
          have hv1 : v9 i = tx (tB tx n P.q + i) := by rw [hv9]; exact if_pos (by omega)
          have hli := hls i (by omega)
          refine zv_aload_n C 0 dX11_find_50 rfl rfl ?_
          refine zG10_11 C (by decide : kd 327 = _) kX11_34 dX11_find_51 ?_
          refine zv_aload_n C 0 dX11_find_54 rfl rfl ?_
          refine zG10_18 C (by decide : kd 327 = _) kX11_82 dX11_find_55 ?_
          refine zv_eqi (y := (zI (tB tx n P.q : Int))) (hpb) ?_
          refine zv_iload_n C 3 dX11_find_58 rfl rfl ?_
          refine zv_iaddZ C dX11_find_59 ?_
          refine zv_iald (j := tB tx n P.q + i) C (by decide : kd 336 = _) (zI_ix rfl) (Nat.lt_of_lt_of_eq (show tB tx n P.q + i < 900 by omega) (by decide)) dX11_find_60 ?_
          refine zv_eqi (y := (zI (tx (tB tx n P.q + i)))) (by rw [hP.1.2.2.1 _ (by omega)]; exact congrArg zI (by omega)) ?_
          refine zv_goto (tgt := 65) C dX11_find_61 (by decide) ?_
          refine zv_icmp_neZ (tgt := 72) C (by omega) (by omega) dX11_find_65 (by decide) (fun h65 => ?_) (fun h65 => ?_)
          · skip
            refine zv_iconst (v := zI 0) C dX11_find_72 rfl ?_
            refine zv_istore_n (lv' := [(2, .int (zI 0)), (0, .ref (ob E 327)), (1, .int (zI (k : Int))), (3, .int (zI (i : Int)))]) C dX11_find_73 rfl (by decide) rfl ?_
            refine zv_iinc (v := (zI ((i : Int) + 1))) (lv' := [(3, .int (zI ((i : Int) + 1))), (2, .int (zI 0)), (0, .ref (ob E 327)), (1, .int (zI (k : Int)))]) C 3 dX11_find_74 rfl (zI_add _ _) (by decide) rfl ?_
            refine zv_goto (tgt := 16) C dX11_find_77 (by decide) ?_
            have q16_145 : ((i : Int) + 1 : Int) = ((i + 1 : Nat) : Int) := by first | rfl | omega
            have q16_146 : (0 : Int) = (nmE u9 v9 (i + 1) : Int) := by first | (rw [nmE, if_pos ⟨by omega, by omega⟩]; rfl) | (rw [nmE, if_neg (by omega)]; rfl)
            refine zv_sub (lv' := [(0, .ref (ob E 327)), (1, .int (zI (k : Int))), (2, .int (zI (nmE u9 v9 (i + 1) : Int))), (3, .int (zI ((i + 1 : Nat) : Int)))]) [2, 3, 1, 0] (zcons rfl (zcons rfl (zcons (zqI q16_146) (zcons (zqI q16_145) rfl)))) ?_
            exact ih16 (i + 1) (by omega) (by omega)
          · skip
            refine zv_iconst (v := zI 1) C dX11_find_68 rfl ?_
            refine zv_goto (tgt := 73) C dX11_find_69 (by decide) ?_
            refine zv_istore_n (lv' := [(2, .int (zI 1)), (0, .ref (ob E 327)), (1, .int (zI (k : Int))), (3, .int (zI (i : Int)))]) C dX11_find_73 rfl (by decide) rfl ?_
            refine zv_iinc (v := (zI ((i : Int) + 1))) (lv' := [(3, .int (zI ((i : Int) + 1))), (2, .int (zI 1)), (0, .ref (ob E 327)), (1, .int (zI (k : Int)))]) C 3 dX11_find_74 rfl (zI_add _ _) (by decide) rfl ?_
            refine zv_goto (tgt := 16) C dX11_find_77 (by decide) ?_
            have q16_155 : ((i : Int) + 1 : Int) = ((i + 1 : Nat) : Int) := by first | rfl | omega
            have q16_156 : (1 : Int) = (nmE u9 v9 (i + 1) : Int) := by first | (rw [nmE, if_pos ⟨by omega, by omega⟩]; rfl) | (rw [nmE, if_neg (by omega)]; rfl)
            refine zv_sub (lv' := [(0, .ref (ob E 327)), (1, .int (zI (k : Int))), (2, .int (zI (nmE u9 v9 (i + 1) : Int))), (3, .int (zI ((i + 1 : Nat) : Int)))]) [2, 3, 1, 0] (zcons rfl (zcons rfl (zcons (zqI q16_156) (zcons (zqI q16_155) rfl)))) ?_
            exact ih16 (i + 1) (by omega) (by omega)
set_option maxRecDepth 20000 in
theorem c_X11_seesKnown {l : Launch} (hfl : l.stackTraces = false) (E : zE) (σ : zS) (tx : Nat → Int) (n : Nat) (P : zPs) (hP : mPS σ tx n P) : zRi l E yX11_seesKnown cX11_seesKnown 3 .int (zrm 7 148) [.ref (ob E 327)] σ (fun r τ => r = zI (if pKn tx n P = 0 then pO P.U.nm (tP tx n P.q) P.U.nb else -1) ∧ τ = mfC σ (pKn tx n P) (tB tx n P.q)) := by
  refine Met.ofW (cc := cX11_seesKnown) (maxL := 3) (ret := (some .int)) (by decide +kernel) rfl ?_
  intro p e s m args below meth c s₁ B hml hv
  obtain ⟨rfl, hd⟩ := hv
  have C := zX_of (own := RX11) hfl B hml rfl hd rfl
  have hr := B.returns
  refine zV_go hd (Nat.le_of_ble_eq_true rfl) (lv := [(0, .ref (ob E 327))]) rfl ?_
  have hn9 := hP.1.2.1
  have hpe := hP.2.2.2.2.1
  have hpb := (mPS_w hP).2.1
  have hlq := tE_L tx hP.2.2.1
  have hkq := tK_b tx n P.q
  have hpo := pO_in P.U.nm (tP tx n P.q) P.U.nb
  have hnb : P.U.nb ≤ 8 := hP.2.2.2.1.2.2.2.2.1
  have hnam : pNam tx n P.q = 0 ∨ pNam tx n P.q = 1 := by unfold pNam; split <;> omega
  refine zv_aload_n C 0 dX11_seesKnown_0 rfl rfl ?_
  refine zv_cviD (st := []) C (c_X11_seesName hfl E σ tx n P hP) mX11_seesName kX11_152 (by decide : kd 327 = 10) rfl rfl rfl ⟨rfl, rfl⟩ (show zfit (zrm 6 128) 1 (zrm 7 148) = true from rfl) (Nat.le_of_ble_eq_true rfl) dX11_seesKnown_1 ⟨Nat.zero_le _, Nat.zero_le _⟩ ?_
  refine zv_if_neB (tgt := 9) C dX11_seesKnown_4 (by decide) (fun h4 => ?_) (fun h4 => ?_)
  · skip
    have hNm : tNm tx n P.q := by
      unfold pNam at h4
      split at h4
      · assumption
      · cases h4
    refine zv_eqS (τ := σ) (by rw [h4, mfC_0]) ?_
    refine zv_aload_n C 0 dX11_seesKnown_9 rfl rfl ?_
    refine zv_cviD (st := []) C (c_X11_find hfl E σ tx n P hP hNm) mX11_find kX11_155 (by decide : kd 327 = 10) rfl rfl rfl ⟨rfl, rfl⟩ (show zfit (zrm 0 0) 4 (zrm 7 148) = true from rfl) (Nat.le_of_ble_eq_true rfl) dX11_seesKnown_10 ⟨Nat.zero_le _, Nat.zero_le _⟩ ?_
    refine zv_istore_n (lv' := [(1, .int (zI (pO P.U.nm (tP tx n P.q) P.U.nb))), (0, .ref (ob E 327))]) C dX11_seesKnown_13 rfl (by decide) rfl ?_
    refine zv_iload_n C 0 dX11_seesKnown_14 rfl rfl ?_
    refine zv_iconst (v := zI (-1)) C dX11_seesKnown_15 rfl ?_
    refine zv_icmp_neZ (tgt := 27) C (by omega) (by omega) dX11_seesKnown_16 (by decide) (fun h16 => ?_) (fun h16 => ?_)
    · skip
      have hK : pKn tx n P = 0 := by rw [pKn, if_neg (fun z => z h4), if_neg (by omega)]
      refine zv_iconst (v := zI 1) C dX11_seesKnown_27 rfl ?_
      refine zv_goto (tgt := 32) C dX11_seesKnown_28 (by decide) ?_
      refine zv_istore_n (lv' := [(2, .int (zI 1)), (1, .int (zI (pO P.U.nm (tP tx n P.q) P.U.nb))), (0, .ref (ob E 327))]) C dX11_seesKnown_32 rfl (by decide) rfl ?_
      refine zv_iload_n C 0 dX11_seesKnown_33 rfl rfl ?_
      refine zv_if_eqZ (tgt := 41) C (by omega) dX11_seesKnown_34 (by decide) (fun h34 => absurd h34 (by decide)) (fun h34 => ?_)
      refine zv_iload_n C 1 dX11_seesKnown_37 rfl rfl ?_
      refine zv_goto (tgt := 42) C dX11_seesKnown_38 (by decide) ?_
      exact zv_iret C hr rfl dX11_seesKnown_42 ⟨by rw [hK]; rfl, by rw [hK, mfC_0]⟩
    · skip
      have hK : pKn tx n P = 3 := by rw [pKn, if_neg (fun z => z h4), if_pos (by omega)]
      refine zv_aload_n C 1 dX11_seesKnown_19 rfl rfl ?_
      refine zv_iconst (v := zI 3) C dX11_seesKnown_20 rfl ?_
      refine zv_cviD (st := []) C (c_X11_failsAt hfl E σ tx n P 3 hP (by decide)) mX11_failsAt kX11_122 (by decide : kd 327 = 10) rfl rfl rfl ⟨rfl, rfl⟩ (show zfit (zrm 0 0) 2 (zrm 7 148) = true from rfl) (Nat.le_of_ble_eq_true rfl) dX11_seesKnown_21 ⟨Nat.zero_le _, Nat.zero_le _⟩ ?_
      refine zv_if_eqZ (tgt := 31) C (by omega) dX11_seesKnown_24 (by decide) (fun h24 => ?_) (fun h24 => absurd h24 (by decide))
      refine zv_iconst (v := zI 0) C dX11_seesKnown_31 rfl ?_
      refine zv_istore_n (lv' := [(2, .int (zI 0)), (1, .int (zI (pO P.U.nm (tP tx n P.q) P.U.nb))), (0, .ref (ob E 327))]) C dX11_seesKnown_32 rfl (by decide) rfl ?_
      refine zv_iload_n C 0 dX11_seesKnown_33 rfl rfl ?_
      refine zv_if_eqZ (tgt := 41) C (by omega) dX11_seesKnown_34 (by decide) (fun h34 => ?_) (fun h34 => absurd h34 (by decide))
      refine zv_iconst (v := zI (-1)) C dX11_seesKnown_41 rfl ?_
      exact zv_iret C hr rfl dX11_seesKnown_42 ⟨by rw [hK]; rfl, by rw [hK]⟩
  · skip
    have hK : pKn tx n P = 1 := if_pos h4
    have hn1 : pNam tx n P.q = 1 := by omega
    refine zv_iconst (v := zI (-1)) C dX11_seesKnown_7 rfl ?_
    exact zv_iret C hr rfl dX11_seesKnown_8 ⟨by rw [hK]; rfl, by rw [hK, hn1]⟩
set_option maxRecDepth 20000 in
theorem c1_X11_starts {l : Launch} (hfl : l.stackTraces = false) (E : zE) (σ : zS) (tx : Nat → Int) (n : Nat) (P : zPs) (hP : mPS σ tx n P) : zRi l E yX11_starts cX11_starts 2 .boolean (zrm 6 120) [.ref (ob E 327), .int (zI 1)] σ (fun r τ => r = zI 1 ∧ mPS τ tx n (pAdv tx n P) ∧ mA σ τ) := by
  refine Met.ofW (cc := cX11_starts) (maxL := 2) (ret := (some .boolean)) (by decide +kernel) rfl ?_
  intro p e s m args below meth c s₁ B hml hv
  obtain ⟨rfl, hd⟩ := hv
  have C := zX_of (own := RX11) hfl B hml rfl hd rfl
  have hr := B.returns
  refine zV_go hd (Nat.le_of_ble_eq_true rfl) (lv := [(0, .ref (ob E 327)), (1, .int (zI 1))]) rfl ?_
  refine zv_iload_n C 1 dX11_starts_0 rfl rfl ?_
  refine zv_if_neZ (tgt := 10) C (by omega) dX11_starts_1 (by decide) (fun h1 => ?_) (fun h1 => absurd h1 (by decide))
  refine zv_aload_n C 0 dX11_starts_10 rfl rfl ?_
  refine zv_cvv (st := []) C (c_X11_advanceToken hfl E σ tx n (tE tx n P.q) hP.1 hP.2.1.1 (tE_n hP.2.2.1).2.1) mX11_advanceToken kX11_119 (by decide : kd 327 = 10) rfl rfl rfl ⟨rfl, rfl⟩ (show zfit (zrm 1 25) 2 (zrm 6 120) = true from rfl) (Nat.le_of_ble_eq_true rfl) dX11_starts_11 ⟨Nat.zero_le _, Nat.zero_le _⟩ (fun τ1 hp11 => ?_)
  have hA1 : mPS τ1 tx n (pAdv tx n P) := mPS_A hP hp11.2 hp11.1
  have hA1f := mF_A hp11.2
  refine zv_iconst (v := zI 1) C dX11_starts_14 rfl ?_
  exact zv_iret C hr rfl dX11_starts_15 ⟨rfl, hA1, hp11.2⟩
set_option maxRecDepth 20000 in
theorem c0_X11_starts {l : Launch} (hfl : l.stackTraces = false) (E : zE) (σ : zS) (tx : Nat → Int) (n : Nat) (P : zPs) (hP : mPS σ tx n P) : zRi l E yX11_starts cX11_starts 2 .boolean (zrm 6 120) [.ref (ob E 327), .int (zI 0)] σ (fun r τ => r = zI 0 ∧ τ = mfC σ 4 (tB tx n P.q)) := by
  refine Met.ofW (cc := cX11_starts) (maxL := 2) (ret := (some .boolean)) (by decide +kernel) rfl ?_
  intro p e s m args below meth c s₁ B hml hv
  obtain ⟨rfl, hd⟩ := hv
  have C := zX_of (own := RX11) hfl B hml rfl hd rfl
  have hr := B.returns
  refine zV_go hd (Nat.le_of_ble_eq_true rfl) (lv := [(0, .ref (ob E 327)), (1, .int (zI 0))]) rfl ?_
  refine zv_iload_n C 1 dX11_starts_0 rfl rfl ?_
  refine zv_if_neZ (tgt := 10) C (by omega) dX11_starts_1 (by decide) (fun h1 => absurd h1 (by decide)) (fun h1 => ?_)
  refine zv_aload_n C 0 dX11_starts_4 rfl rfl ?_
  refine zv_iconst (v := zI 4) C dX11_starts_5 rfl ?_
  refine zv_cviD (st := []) C (c_X11_failsAt hfl E σ tx n P 4 hP (by decide)) mX11_failsAt kX11_122 (by decide : kd 327 = 10) rfl rfl rfl ⟨rfl, rfl⟩ (show zfit (zrm 0 0) 2 (zrm 6 120) = true from rfl) (Nat.le_of_ble_eq_true rfl) dX11_starts_6 ⟨Nat.zero_le _, Nat.zero_le _⟩ ?_
  exact zv_iret C hr rfl dX11_starts_9 ⟨rfl, rfl⟩
set_option maxRecDepth 20000 in
theorem cB_X11_starts {l : Launch} (hfl : l.stackTraces = false) (E : zE) (σ : zS) (tx : Nat → Int) (n : Nat) (P : zPs) (Q : Prop) [Decidable Q] (hP : mPS σ tx n P) : zRi l E yX11_starts cX11_starts 2 .boolean (zrm 6 120) [.ref (ob E 327), .int (zB (Q))] σ (fun r τ => r = zB Q ∧ (Q → mPS τ tx n (pAdv tx n P) ∧ mA σ τ) ∧ (¬ Q → τ = mfC σ 4 (tB tx n P.q))) := by
  refine Met.ofW (cc := cX11_starts) (maxL := 2) (ret := (some .boolean)) (by decide +kernel) rfl ?_
  intro p e s m args below meth c s₁ B hml hv
  obtain ⟨rfl, hd⟩ := hv
  have C := zX_of (own := RX11) hfl B hml rfl hd rfl
  have hr := B.returns
  refine zV_go hd (Nat.le_of_ble_eq_true rfl) (lv := [(0, .ref (ob E 327)), (1, .int (zB (Q)))]) rfl ?_
  refine zv_iload_n C 1 dX11_starts_0 rfl rfl ?_
  refine zv_if_neB (tgt := 10) C dX11_starts_1 (by decide) (fun h1 => ?_) (fun h1 => ?_)
  · skip
    refine zv_aload_n C 0 dX11_starts_10 rfl rfl ?_
    refine zv_cvv (st := []) C (c_X11_advanceToken hfl E σ tx n (tE tx n P.q) hP.1 hP.2.1.1 (tE_n hP.2.2.1).2.1) mX11_advanceToken kX11_119 (by decide : kd 327 = 10) rfl rfl rfl ⟨rfl, rfl⟩ (show zfit (zrm 1 25) 2 (zrm 6 120) = true from rfl) (Nat.le_of_ble_eq_true rfl) dX11_starts_11 ⟨Nat.zero_le _, Nat.zero_le _⟩ (fun τ1 hp11 => ?_)
    have hA1 : mPS τ1 tx n (pAdv tx n P) := mPS_A hP hp11.2 hp11.1
    have hA1f := mF_A hp11.2
    refine zv_iconst (v := zI 1) C dX11_starts_14 rfl ?_
    exact zv_iret C hr rfl dX11_starts_15 ⟨(zB_t h1).symm, fun _ => ⟨hA1, hp11.2⟩, fun z => absurd h1 z⟩
  · skip
    refine zv_aload_n C 0 dX11_starts_4 rfl rfl ?_
    refine zv_iconst (v := zI 4) C dX11_starts_5 rfl ?_
    refine zv_cviD (st := []) C (c_X11_failsAt hfl E σ tx n P 4 hP (by decide)) mX11_failsAt kX11_122 (by decide : kd 327 = 10) rfl rfl rfl ⟨rfl, rfl⟩ (show zfit (zrm 0 0) 2 (zrm 6 120) = true from rfl) (Nat.le_of_ble_eq_true rfl) dX11_starts_6 ⟨Nat.zero_le _, Nat.zero_le _⟩ ?_
    exact zv_iret C hr rfl dX11_starts_9 ⟨(zB_f h1).symm, fun z => absurd z h1, fun _ => rfl⟩
set_option maxRecDepth 20000 in
theorem c1_X11_startsOnce {l : Launch} (hfl : l.stackTraces = false) (E : zE) (σ : zS) (tx : Nat → Int) (n : Nat) (P : zPs) (hP : mPS σ tx n P) : zRi l E yX11_startsOnce cX11_startsOnce 3 .boolean (zrm 7 141) [.ref (ob E 327), .int (zI 1)] σ (fun r τ => mR σ τ tx n r (if P.o1 = true then 4 else 0) (if P.o1 = true then P else pAdv tx n P.so1)) := by
  refine Met.ofW (cc := cX11_startsOnce) (maxL := 3) (ret := (some .boolean)) (by decide +kernel) rfl ?_
  intro p e s m args below meth c s₁ B hml hv
  obtain ⟨rfl, hd⟩ := hv
  have C := zX_of (own := RX11) hfl B hml rfl hd rfl
  have hr := B.returns
  refine zV_go hd (Nat.le_of_ble_eq_true rfl) (lv := [(0, .ref (ob E 327)), (1, .int (zI 1))]) rfl ?_
  obtain ⟨b9, hb9⟩ : ∃ b : Nat, b = if P.o1 = true then 1 else 0 := ⟨_, rfl⟩
  have hb9l : b9 ≤ 1 := by rw [hb9]; split <;> omega
  have hso := mPS_o (P' := P.so1) hP rfl rfl rfl
  refine zv_aload_n C 0 dX11_startsOnce_0 rfl rfl ?_
  refine zG10_21 C (by decide : kd 327 = _) kX11_158 dX11_startsOnce_1 ?_
  refine zv_eqi (y := (zI (oB P : Int))) (hP.2.2.2.1.2.2.2.1) ?_
  refine zv_iload_n C 1 dX11_startsOnce_4 rfl rfl ?_
  refine zv_iand C dX11_startsOnce_5 ?_
  refine zv_eqi (y := (zI (b9 : Int))) (by rw [hb9]; exact oB_a1 P) ?_
  refine zv_if_neZ (tgt := 13) C (by omega) dX11_startsOnce_6 (by decide) (fun h6 => ?_) (fun h6 => ?_)
  · skip
    have ho : P.o1 = true := by
      rcases Bool.eq_false_or_eq_true P.o1 with q | q
      · exact q
      · rw [if_neg (by rw [q]; decide)] at hb9
        omega
    refine zv_iconst (v := zI 0) C dX11_startsOnce_13 rfl ?_
    refine zv_istore_n (lv' := [(2, .int (zI 0)), (0, .ref (ob E 327)), (1, .int (zI 1))]) C dX11_startsOnce_14 rfl (by decide) rfl ?_
    refine zv_aload_n C 1 dX11_startsOnce_15 rfl rfl ?_
    refine zv_dup C dX11_startsOnce_16 rfl ?_
    refine zG10_21 C (by decide : kd 327 = _) kX11_158 dX11_startsOnce_17 ?_
    refine zv_eqi (y := (zI (oB P : Int))) (hP.2.2.2.1.2.2.2.1) ?_
    refine zv_iload_n C 2 dX11_startsOnce_20 rfl rfl ?_
    refine zv_ior C dX11_startsOnce_21 ?_
    refine zv_eqi (y := (zI (oB P.so1 : Int))) (oB_r1 P) ?_
    refine zP10_21 C (by decide : kd 327 = _) kX11_158 dX11_startsOnce_22 ?_
    refine zv_aload_n C 1 dX11_startsOnce_25 rfl rfl ?_
    refine zv_iload_n C 0 dX11_startsOnce_26 rfl rfl ?_
    refine zv_cvi (st := []) C (c0_X11_starts hfl E (sI σ 327 21 (zI (oB P.so1 : Int))) tx n P.so1 hso) mX11_starts kX11_161 (by decide : kd 327 = 10) rfl rfl rfl ⟨rfl, rfl⟩ (show zfit (zrm 6 120) 2 (zrm 7 141) = true from rfl) (Nat.le_of_ble_eq_true rfl) dX11_startsOnce_27 ⟨Nat.zero_le _, Nat.zero_le _⟩ (fun r27 τ27 hp27 => ?_)
    exact zv_iret C hr (by first | (rw [hp27.1]; rfl) | rfl) dX11_startsOnce_30 (by first | (rw [if_pos ho, if_pos ho, hp27.1, hp27.2]; exact mR_f (P := P) (by decide) (mF_I (mF_r σ) _ (by omega))) | (rw [if_neg ho, if_neg ho, hp27.1]; exact mR_o (mF_t (mF_I (mF_r σ) _ (by omega)) (mF_A hp27.2.2)) hp27.2.1))
  · skip
    have ho : ¬ P.o1 = true := fun z => by rw [if_pos z] at hb9; omega
    refine zv_iconst (v := zI 1) C dX11_startsOnce_9 rfl ?_
    refine zv_goto (tgt := 14) C dX11_startsOnce_10 (by decide) ?_
    refine zv_istore_n (lv' := [(2, .int (zI 1)), (0, .ref (ob E 327)), (1, .int (zI 1))]) C dX11_startsOnce_14 rfl (by decide) rfl ?_
    refine zv_aload_n C 1 dX11_startsOnce_15 rfl rfl ?_
    refine zv_dup C dX11_startsOnce_16 rfl ?_
    refine zG10_21 C (by decide : kd 327 = _) kX11_158 dX11_startsOnce_17 ?_
    refine zv_eqi (y := (zI (oB P : Int))) (hP.2.2.2.1.2.2.2.1) ?_
    refine zv_iload_n C 2 dX11_startsOnce_20 rfl rfl ?_
    refine zv_ior C dX11_startsOnce_21 ?_
    refine zv_eqi (y := (zI (oB P.so1 : Int))) (oB_r1 P) ?_
    refine zP10_21 C (by decide : kd 327 = _) kX11_158 dX11_startsOnce_22 ?_
    refine zv_aload_n C 1 dX11_startsOnce_25 rfl rfl ?_
    refine zv_iload_n C 0 dX11_startsOnce_26 rfl rfl ?_
    refine zv_cvi (st := []) C (c1_X11_starts hfl E (sI σ 327 21 (zI (oB P.so1 : Int))) tx n P.so1 hso) mX11_starts kX11_161 (by decide : kd 327 = 10) rfl rfl rfl ⟨rfl, rfl⟩ (show zfit (zrm 6 120) 2 (zrm 7 141) = true from rfl) (Nat.le_of_ble_eq_true rfl) dX11_startsOnce_27 ⟨Nat.zero_le _, Nat.zero_le _⟩ (fun r27 τ27 hp27 => ?_)
    exact zv_iret C hr (by first | (rw [hp27.1]; rfl) | rfl) dX11_startsOnce_30 (by first | (rw [if_pos ho, if_pos ho, hp27.1, hp27.2]; exact mR_f (P := P) (by decide) (mF_I (mF_r σ) _ (by omega))) | (rw [if_neg ho, if_neg ho, hp27.1]; exact mR_o (mF_t (mF_I (mF_r σ) _ (by omega)) (mF_A hp27.2.2)) hp27.2.1))
set_option maxRecDepth 20000 in
theorem c2_X11_startsOnce {l : Launch} (hfl : l.stackTraces = false) (E : zE) (σ : zS) (tx : Nat → Int) (n : Nat) (P : zPs) (hP : mPS σ tx n P) : zRi l E yX11_startsOnce cX11_startsOnce 3 .boolean (zrm 7 141) [.ref (ob E 327), .int (zI 2)] σ (fun r τ => mR σ τ tx n r (if P.o2 = true then 4 else 0) (if P.o2 = true then P else pAdv tx n P.so2)) := by
  refine Met.ofW (cc := cX11_startsOnce) (maxL := 3) (ret := (some .boolean)) (by decide +kernel) rfl ?_
  intro p e s m args below meth c s₁ B hml hv
  obtain ⟨rfl, hd⟩ := hv
  have C := zX_of (own := RX11) hfl B hml rfl hd rfl
  have hr := B.returns
  refine zV_go hd (Nat.le_of_ble_eq_true rfl) (lv := [(0, .ref (ob E 327)), (1, .int (zI 2))]) rfl ?_
  obtain ⟨b9, hb9⟩ : ∃ b : Nat, b = if P.o2 = true then 2 else 0 := ⟨_, rfl⟩
  have hb9l : b9 ≤ 2 := by rw [hb9]; split <;> omega
  have hso := mPS_o (P' := P.so2) hP rfl rfl rfl
  refine zv_aload_n C 0 dX11_startsOnce_0 rfl rfl ?_
  refine zG10_21 C (by decide : kd 327 = _) kX11_158 dX11_startsOnce_1 ?_
  refine zv_eqi (y := (zI (oB P : Int))) (hP.2.2.2.1.2.2.2.1) ?_
  refine zv_iload_n C 1 dX11_startsOnce_4 rfl rfl ?_
  refine zv_iand C dX11_startsOnce_5 ?_
  refine zv_eqi (y := (zI (b9 : Int))) (by rw [hb9]; exact oB_a2 P) ?_
  refine zv_if_neZ (tgt := 13) C (by omega) dX11_startsOnce_6 (by decide) (fun h6 => ?_) (fun h6 => ?_)
  · skip
    have ho : P.o2 = true := by
      rcases Bool.eq_false_or_eq_true P.o2 with q | q
      · exact q
      · rw [if_neg (by rw [q]; decide)] at hb9
        omega
    refine zv_iconst (v := zI 0) C dX11_startsOnce_13 rfl ?_
    refine zv_istore_n (lv' := [(2, .int (zI 0)), (0, .ref (ob E 327)), (1, .int (zI 2))]) C dX11_startsOnce_14 rfl (by decide) rfl ?_
    refine zv_aload_n C 1 dX11_startsOnce_15 rfl rfl ?_
    refine zv_dup C dX11_startsOnce_16 rfl ?_
    refine zG10_21 C (by decide : kd 327 = _) kX11_158 dX11_startsOnce_17 ?_
    refine zv_eqi (y := (zI (oB P : Int))) (hP.2.2.2.1.2.2.2.1) ?_
    refine zv_iload_n C 2 dX11_startsOnce_20 rfl rfl ?_
    refine zv_ior C dX11_startsOnce_21 ?_
    refine zv_eqi (y := (zI (oB P.so2 : Int))) (oB_r2 P) ?_
    refine zP10_21 C (by decide : kd 327 = _) kX11_158 dX11_startsOnce_22 ?_
    refine zv_aload_n C 1 dX11_startsOnce_25 rfl rfl ?_
    refine zv_iload_n C 0 dX11_startsOnce_26 rfl rfl ?_
    refine zv_cvi (st := []) C (c0_X11_starts hfl E (sI σ 327 21 (zI (oB P.so2 : Int))) tx n P.so2 hso) mX11_starts kX11_161 (by decide : kd 327 = 10) rfl rfl rfl ⟨rfl, rfl⟩ (show zfit (zrm 6 120) 2 (zrm 7 141) = true from rfl) (Nat.le_of_ble_eq_true rfl) dX11_startsOnce_27 ⟨Nat.zero_le _, Nat.zero_le _⟩ (fun r27 τ27 hp27 => ?_)
    exact zv_iret C hr (by first | (rw [hp27.1]; rfl) | rfl) dX11_startsOnce_30 (by first | (rw [if_pos ho, if_pos ho, hp27.1, hp27.2]; exact mR_f (P := P) (by decide) (mF_I (mF_r σ) _ (by omega))) | (rw [if_neg ho, if_neg ho, hp27.1]; exact mR_o (mF_t (mF_I (mF_r σ) _ (by omega)) (mF_A hp27.2.2)) hp27.2.1))
  · skip
    have ho : ¬ P.o2 = true := fun z => by rw [if_pos z] at hb9; omega
    refine zv_iconst (v := zI 1) C dX11_startsOnce_9 rfl ?_
    refine zv_goto (tgt := 14) C dX11_startsOnce_10 (by decide) ?_
    refine zv_istore_n (lv' := [(2, .int (zI 1)), (0, .ref (ob E 327)), (1, .int (zI 2))]) C dX11_startsOnce_14 rfl (by decide) rfl ?_
    refine zv_aload_n C 1 dX11_startsOnce_15 rfl rfl ?_
    refine zv_dup C dX11_startsOnce_16 rfl ?_
    refine zG10_21 C (by decide : kd 327 = _) kX11_158 dX11_startsOnce_17 ?_
    refine zv_eqi (y := (zI (oB P : Int))) (hP.2.2.2.1.2.2.2.1) ?_
    refine zv_iload_n C 2 dX11_startsOnce_20 rfl rfl ?_
    refine zv_ior C dX11_startsOnce_21 ?_
    refine zv_eqi (y := (zI (oB P.so2 : Int))) (oB_r2 P) ?_
    refine zP10_21 C (by decide : kd 327 = _) kX11_158 dX11_startsOnce_22 ?_
    refine zv_aload_n C 1 dX11_startsOnce_25 rfl rfl ?_
    refine zv_iload_n C 0 dX11_startsOnce_26 rfl rfl ?_
    refine zv_cvi (st := []) C (c1_X11_starts hfl E (sI σ 327 21 (zI (oB P.so2 : Int))) tx n P.so2 hso) mX11_starts kX11_161 (by decide : kd 327 = 10) rfl rfl rfl ⟨rfl, rfl⟩ (show zfit (zrm 6 120) 2 (zrm 7 141) = true from rfl) (Nat.le_of_ble_eq_true rfl) dX11_startsOnce_27 ⟨Nat.zero_le _, Nat.zero_le _⟩ (fun r27 τ27 hp27 => ?_)
    exact zv_iret C hr (by first | (rw [hp27.1]; rfl) | rfl) dX11_startsOnce_30 (by first | (rw [if_pos ho, if_pos ho, hp27.1, hp27.2]; exact mR_f (P := P) (by decide) (mF_I (mF_r σ) _ (by omega))) | (rw [if_neg ho, if_neg ho, hp27.1]; exact mR_o (mF_t (mF_I (mF_r σ) _ (by omega)) (mF_A hp27.2.2)) hp27.2.1))
set_option maxRecDepth 20000 in
theorem c4_X11_startsOnce {l : Launch} (hfl : l.stackTraces = false) (E : zE) (σ : zS) (tx : Nat → Int) (n : Nat) (P : zPs) (hP : mPS σ tx n P) : zRi l E yX11_startsOnce cX11_startsOnce 3 .boolean (zrm 7 141) [.ref (ob E 327), .int (zI 4)] σ (fun r τ => mR σ τ tx n r (if P.o3 = true then 4 else 0) (if P.o3 = true then P else pAdv tx n P.so3)) := by
  refine Met.ofW (cc := cX11_startsOnce) (maxL := 3) (ret := (some .boolean)) (by decide +kernel) rfl ?_
  intro p e s m args below meth c s₁ B hml hv
  obtain ⟨rfl, hd⟩ := hv
  have C := zX_of (own := RX11) hfl B hml rfl hd rfl
  have hr := B.returns
  refine zV_go hd (Nat.le_of_ble_eq_true rfl) (lv := [(0, .ref (ob E 327)), (1, .int (zI 4))]) rfl ?_
  obtain ⟨b9, hb9⟩ : ∃ b : Nat, b = if P.o3 = true then 4 else 0 := ⟨_, rfl⟩
  have hb9l : b9 ≤ 4 := by rw [hb9]; split <;> omega
  have hso := mPS_o (P' := P.so3) hP rfl rfl rfl
  refine zv_aload_n C 0 dX11_startsOnce_0 rfl rfl ?_
  refine zG10_21 C (by decide : kd 327 = _) kX11_158 dX11_startsOnce_1 ?_
  refine zv_eqi (y := (zI (oB P : Int))) (hP.2.2.2.1.2.2.2.1) ?_
  refine zv_iload_n C 1 dX11_startsOnce_4 rfl rfl ?_
  refine zv_iand C dX11_startsOnce_5 ?_
  refine zv_eqi (y := (zI (b9 : Int))) (by rw [hb9]; exact oB_a4 P) ?_
  refine zv_if_neZ (tgt := 13) C (by omega) dX11_startsOnce_6 (by decide) (fun h6 => ?_) (fun h6 => ?_)
  · skip
    have ho : P.o3 = true := by
      rcases Bool.eq_false_or_eq_true P.o3 with q | q
      · exact q
      · rw [if_neg (by rw [q]; decide)] at hb9
        omega
    refine zv_iconst (v := zI 0) C dX11_startsOnce_13 rfl ?_
    refine zv_istore_n (lv' := [(2, .int (zI 0)), (0, .ref (ob E 327)), (1, .int (zI 4))]) C dX11_startsOnce_14 rfl (by decide) rfl ?_
    refine zv_aload_n C 1 dX11_startsOnce_15 rfl rfl ?_
    refine zv_dup C dX11_startsOnce_16 rfl ?_
    refine zG10_21 C (by decide : kd 327 = _) kX11_158 dX11_startsOnce_17 ?_
    refine zv_eqi (y := (zI (oB P : Int))) (hP.2.2.2.1.2.2.2.1) ?_
    refine zv_iload_n C 2 dX11_startsOnce_20 rfl rfl ?_
    refine zv_ior C dX11_startsOnce_21 ?_
    refine zv_eqi (y := (zI (oB P.so3 : Int))) (oB_r4 P) ?_
    refine zP10_21 C (by decide : kd 327 = _) kX11_158 dX11_startsOnce_22 ?_
    refine zv_aload_n C 1 dX11_startsOnce_25 rfl rfl ?_
    refine zv_iload_n C 0 dX11_startsOnce_26 rfl rfl ?_
    refine zv_cvi (st := []) C (c0_X11_starts hfl E (sI σ 327 21 (zI (oB P.so3 : Int))) tx n P.so3 hso) mX11_starts kX11_161 (by decide : kd 327 = 10) rfl rfl rfl ⟨rfl, rfl⟩ (show zfit (zrm 6 120) 2 (zrm 7 141) = true from rfl) (Nat.le_of_ble_eq_true rfl) dX11_startsOnce_27 ⟨Nat.zero_le _, Nat.zero_le _⟩ (fun r27 τ27 hp27 => ?_)
    exact zv_iret C hr (by first | (rw [hp27.1]; rfl) | rfl) dX11_startsOnce_30 (by first | (rw [if_pos ho, if_pos ho, hp27.1, hp27.2]; exact mR_f (P := P) (by decide) (mF_I (mF_r σ) _ (by omega))) | (rw [if_neg ho, if_neg ho, hp27.1]; exact mR_o (mF_t (mF_I (mF_r σ) _ (by omega)) (mF_A hp27.2.2)) hp27.2.1))
  · skip
    have ho : ¬ P.o3 = true := fun z => by rw [if_pos z] at hb9; omega
    refine zv_iconst (v := zI 1) C dX11_startsOnce_9 rfl ?_
    refine zv_goto (tgt := 14) C dX11_startsOnce_10 (by decide) ?_
    refine zv_istore_n (lv' := [(2, .int (zI 1)), (0, .ref (ob E 327)), (1, .int (zI 4))]) C dX11_startsOnce_14 rfl (by decide) rfl ?_
    refine zv_aload_n C 1 dX11_startsOnce_15 rfl rfl ?_
    refine zv_dup C dX11_startsOnce_16 rfl ?_
    refine zG10_21 C (by decide : kd 327 = _) kX11_158 dX11_startsOnce_17 ?_
    refine zv_eqi (y := (zI (oB P : Int))) (hP.2.2.2.1.2.2.2.1) ?_
    refine zv_iload_n C 2 dX11_startsOnce_20 rfl rfl ?_
    refine zv_ior C dX11_startsOnce_21 ?_
    refine zv_eqi (y := (zI (oB P.so3 : Int))) (oB_r4 P) ?_
    refine zP10_21 C (by decide : kd 327 = _) kX11_158 dX11_startsOnce_22 ?_
    refine zv_aload_n C 1 dX11_startsOnce_25 rfl rfl ?_
    refine zv_iload_n C 0 dX11_startsOnce_26 rfl rfl ?_
    refine zv_cvi (st := []) C (c1_X11_starts hfl E (sI σ 327 21 (zI (oB P.so3 : Int))) tx n P.so3 hso) mX11_starts kX11_161 (by decide : kd 327 = 10) rfl rfl rfl ⟨rfl, rfl⟩ (show zfit (zrm 6 120) 2 (zrm 7 141) = true from rfl) (Nat.le_of_ble_eq_true rfl) dX11_startsOnce_27 ⟨Nat.zero_le _, Nat.zero_le _⟩ (fun r27 τ27 hp27 => ?_)
    exact zv_iret C hr (by first | (rw [hp27.1]; rfl) | rfl) dX11_startsOnce_30 (by first | (rw [if_pos ho, if_pos ho, hp27.1, hp27.2]; exact mR_f (P := P) (by decide) (mF_I (mF_r σ) _ (by omega))) | (rw [if_neg ho, if_neg ho, hp27.1]; exact mR_o (mF_t (mF_I (mF_r σ) _ (by omega)) (mF_A hp27.2.2)) hp27.2.1))
set_option maxRecDepth 20000 in
theorem c_X11_kindHere {l : Launch} (hfl : l.stackTraces = false) (E : zE) (σ : zS) (tx : Nat → Int) (n : Nat) (P : zPs) (hP : mPS σ tx n P) : zRi l E yX11_kindHere cX11_kindHere 1 .int (zrm 5 107) [.ref (ob E 327)] σ (fun r τ => r = zI (pKd tx n P.q) ∧ τ = σ) := by
  refine Met.ofW (cc := cX11_kindHere) (maxL := 1) (ret := (some .int)) (by decide +kernel) rfl ?_
  intro p e s m args below meth c s₁ B hml hv
  obtain ⟨rfl, hd⟩ := hv
  have C := zX_of (own := RX11) hfl B hml rfl hd rfl
  have hr := B.returns
  refine zV_go hd (Nat.le_of_ble_eq_true rfl) (lv := [(0, .ref (ob E 327))]) rfl ?_
  refine zv_aload_n C 0 dX11_kindHere_0 rfl rfl ?_
  refine zv_ldcStr (i := 8) C (by decide) rfl rfl dX11_kindHere_1 ?_
  refine zv_cviD (st := []) C (c_X11_isWord hfl E σ tx n P 8 hP (by decide)) mX11_isWord kX11_115 (by decide : kd 327 = 10) rfl rfl rfl ⟨rfl, rfl⟩ (show zfit (zrm 4 85) 3 (zrm 5 107) = true from rfl) (Nat.le_of_ble_eq_true rfl) dX11_kindHere_3 ⟨Nat.zero_le _, Nat.zero_le _⟩ ?_
  refine zv_if_eqB (tgt := 13) C dX11_kindHere_6 (by decide) (fun h6 => ?_) (fun h6 => ?_)
  · skip
    refine zv_aload_n C 0 dX11_kindHere_13 rfl rfl ?_
    refine zv_ldcStr (i := 9) C (by decide) rfl rfl dX11_kindHere_14 ?_
    refine zv_cviD (st := []) C (c_X11_isWord hfl E σ tx n P 9 hP (by decide)) mX11_isWord kX11_115 (by decide : kd 327 = 10) rfl rfl rfl ⟨rfl, rfl⟩ (show zfit (zrm 4 85) 3 (zrm 5 107) = true from rfl) (Nat.le_of_ble_eq_true rfl) dX11_kindHere_16 ⟨Nat.zero_le _, Nat.zero_le _⟩ ?_
    refine zv_if_eqB (tgt := 26) C dX11_kindHere_19 (by decide) (fun h19 => ?_) (fun h19 => ?_)
    · skip
      refine zv_aload_n C 0 dX11_kindHere_26 rfl rfl ?_
      refine zv_ldcStr (i := 10) C (by decide) rfl rfl dX11_kindHere_27 ?_
      refine zv_cviD (st := []) C (c_X11_isWord hfl E σ tx n P 10 hP (by decide)) mX11_isWord kX11_115 (by decide : kd 327 = 10) rfl rfl rfl ⟨rfl, rfl⟩ (show zfit (zrm 4 85) 3 (zrm 5 107) = true from rfl) (Nat.le_of_ble_eq_true rfl) dX11_kindHere_29 ⟨Nat.zero_le _, Nat.zero_le _⟩ ?_
      refine zv_if_eqB (tgt := 39) C dX11_kindHere_32 (by decide) (fun h32 => ?_) (fun h32 => ?_)
      · skip
        refine zv_iconst (v := zI (-1)) C dX11_kindHere_39 rfl ?_
        exact zv_iret C hr rfl dX11_kindHere_40 ⟨congrArg zI (by unfold pKd; first | rw [if_pos h6] | rw [if_neg h6, if_pos h19] | rw [if_neg h6, if_neg h19, if_pos h32] | rw [if_neg h6, if_neg h19, if_neg h32]), rfl⟩
      · skip
        refine zv_iconst (v := zI 2) C dX11_kindHere_35 rfl ?_
        refine zv_goto (tgt := 40) C dX11_kindHere_36 (by decide) ?_
        exact zv_iret C hr rfl dX11_kindHere_40 ⟨congrArg zI (by unfold pKd; first | rw [if_pos h6] | rw [if_neg h6, if_pos h19] | rw [if_neg h6, if_neg h19, if_pos h32] | rw [if_neg h6, if_neg h19, if_neg h32]), rfl⟩
    · skip
      refine zv_iconst (v := zI 1) C dX11_kindHere_22 rfl ?_
      refine zv_goto (tgt := 40) C dX11_kindHere_23 (by decide) ?_
      exact zv_iret C hr rfl dX11_kindHere_40 ⟨congrArg zI (by unfold pKd; first | rw [if_pos h6] | rw [if_neg h6, if_pos h19] | rw [if_neg h6, if_neg h19, if_pos h32] | rw [if_neg h6, if_neg h19, if_neg h32]), rfl⟩
  · skip
    refine zv_iconst (v := zI 0) C dX11_kindHere_9 rfl ?_
    refine zv_goto (tgt := 40) C dX11_kindHere_10 (by decide) ?_
    exact zv_iret C hr rfl dX11_kindHere_40 ⟨congrArg zI (by unfold pKd; first | rw [if_pos h6] | rw [if_neg h6, if_pos h19] | rw [if_neg h6, if_neg h19, if_pos h32] | rw [if_neg h6, if_neg h19, if_neg h32]), rfl⟩
