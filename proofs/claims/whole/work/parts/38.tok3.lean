theorem tWi_le (P : Nat → Bool) : ∀ f i, i ≤ tWi P f i := by
  intro f
  induction f with
  | zero => intro i; exact Nat.le_refl _
  | succ f ih =>
    intro i
    unfold tWi
    split
    · have := ih (i + 1); omega
    · exact Nat.le_refl _
theorem tWi_all (P : Nat → Bool) : ∀ f i x, i ≤ x → x < tWi P f i → P x = true := by
  intro f
  induction f with
  | zero => intro i x h1 h2; exact absurd h2 (by show ¬ x < i; omega)
  | succ f ih =>
    intro i x h1 h2
    unfold tWi at h2
    split at h2
    · rename_i g
      rcases Nat.eq_or_lt_of_le h1 with z | z
      · rw [← z]; exact g
      · exact ih (i + 1) x z h2
    · omega
theorem tK_b (tx : Nat → Int) (n q : Nat) : tK tx n q ≤ 4 := by
  unfold tK
  split
  · exact (kO_b _).2
  · omega
/-- the kind as the class has it: a number of more than seven digits is none -/
def tC (tx : Nat → Int) (n q : Nat) : Nat := if tK tx n q = 2 ∧ 7 < tL tx n q then 4 else tK tx n q
theorem tC_b (tx : Nat → Int) (n q : Nat) : tC tx n q ≤ 4 ∧ (tC tx n q = 0 ↔ tK tx n q = 0) ∧ (tC tx n q = 1 ↔ tK tx n q = 1) ∧ (tC tx n q = 2 ↔ tK tx n q = 2 ∧ tL tx n q ≤ 7) ∧ (tC tx n q = 3 ↔ tK tx n q = 3) := by
  have := tK_b tx n q
  unfold tC
  split <;> omega
theorem zTk_c {σ : zS} {tx : Nat → Int} {n q : Nat} (h : zTk σ tx n q) : gI σ 2 2 = zI (tC tx n q : Int) := by
  rw [h.1]
  unfold tC
  split <;> rfl
/-- a word's letters -/
theorem tK_1 {tx : Nat → Int} {n q : Nat} (h : tK tx n q = 1) : tB tx n q < n ∧ 1 ≤ tL tx n q ∧ (∀ i, i < tL tx n q → 97 ≤ tx (tB tx n q + i) ∧ tx (tB tx n q + i) ≤ 122) := by
  unfold tK at h
  split at h
  · rename_i g
    have e : tE tx n q = tWi (kdB tx n 1) 900 (tB tx n q + 1) := by unfold tE; rw [if_pos g, h, if_pos (by decide)]
    have hl := tWi_le (kdB tx n 1) 900 (tB tx n q + 1)
    rw [← e] at hl
    refine ⟨g, by unfold tL; omega, fun i hi => ?_⟩
    rcases Nat.eq_zero_or_pos i with z | z
    · subst z; exact kO_1.mp h
    · have := tWi_all (kdB tx n 1) 900 (tB tx n q + 1) (tB tx n q + i) (by omega) (by rw [← e]; unfold tL at hi; omega)
      exact kO_1.mp (of_decide_eq_true this).2
  · omega
theorem tK_2 {tx : Nat → Int} {n q : Nat} (h : tK tx n q = 2) : tB tx n q < n ∧ 1 ≤ tL tx n q ∧ (∀ i, i < tL tx n q → 48 ≤ tx (tB tx n q + i) ∧ tx (tB tx n q + i) ≤ 57) := by
  unfold tK at h
  split at h
  · rename_i g
    have e : tE tx n q = tWi (kdB tx n 2) 900 (tB tx n q + 1) := by unfold tE; rw [if_pos g, h, if_pos (by decide)]
    have hl := tWi_le (kdB tx n 2) 900 (tB tx n q + 1)
    rw [← e] at hl
    refine ⟨g, by unfold tL; omega, fun i hi => ?_⟩
    rcases Nat.eq_zero_or_pos i with z | z
    · subst z; exact kO_2.mp h
    · have := tWi_all (kdB tx n 2) 900 (tB tx n q + 1) (tB tx n q + i) (by omega) (by rw [← e]; unfold tL at hi; omega)
      exact kO_2.mp (of_decide_eq_true this).2
  · omega
theorem tWi_n {P : Nat → Bool} {n : Nat} (hP : ∀ x, n ≤ x → P x = false) : ∀ f i, i ≤ n → tWi P f i ≤ n := by
  intro f
  induction f with
  | zero => intro i h; exact h
  | succ f ih =>
    intro i h
    unfold tWi
    split
    · rename_i g
      rcases Nat.lt_or_ge i n with z | z
      · exact ih (i + 1) z
      · rw [hP i z] at g; cases g
    · exact h
theorem tB_n {tx : Nat → Int} {n q : Nat} (h : q ≤ n) : q ≤ tB tx n q ∧ tB tx n q ≤ n := ⟨tWi_le _ _ _, tWi_n (fun x hx => wsB_f (by omega)) 900 q h⟩
theorem tE_n {tx : Nat → Int} {n q : Nat} (h : q ≤ n) : tB tx n q ≤ tE tx n q ∧ tE tx n q ≤ n ∧ (tK tx n q ≠ 0 → tB tx n q < tE tx n q) := by
  have h1 := tB_n (tx := tx) h
  unfold tE tK
  split
  · rename_i g
    split
    · have h2 := tWi_le (kdB tx n (kO (tx (tB tx n q)))) 900 (tB tx n q + 1)
      have h3 := tWi_n (P := kdB tx n (kO (tx (tB tx n q)))) (n := n) (fun x hx => kdB_f (by omega)) 900 (tB tx n q + 1) g
      exact ⟨by omega, h3, fun _ => by omega⟩
    · exact ⟨by omega, by omega, fun _ => by omega⟩
  · exact ⟨by omega, by omega, fun z => absurd rfl z⟩
/-- the packed letters of the word from q on -/
def tP (tx : Nat → Int) (n q : Nat) : Int64 := zL (pk tx (tB tx n q) (tL tx n q) : Int)
abbrev tIs (tx : Nat → Int) (n q i : Nat) : Prop := tK tx n q = 1 ∧ tL tx n q ≤ 8 ∧ tP tx n q = zWl.getD i 0
abbrev tNm (tx : Nat → Int) (n q : Nat) : Prop := tK tx n q = 1 ∧ tL tx n q ≤ 8 ∧ tP tx n q ∉ zWl
theorem zTk_l {σ : zS} {tx : Nat → Int} {n q : Nat} (h : zTk σ tx n q) (hk : tK tx n q = 1) : (tL tx n q ≤ 8 → gJ σ 2 6 = tP tx n q ∧ gJ σ 2 6 ≠ 0) ∧ (¬ tL tx n q ≤ 8 → gJ σ 2 6 = 0) := by
  have h1 := h.2.2.2.1 hk
  refine ⟨fun g => ?_, fun g => ?_⟩
  · rw [if_pos g] at h1
    refine ⟨h1, ?_⟩
    obtain ⟨h2, h3, h4⟩ := tK_1 hk
    rw [h1]
    have hb := pk_b h4 (tL tx n q) (Nat.le_refl _)
    have hpw : 256 ^ (tL tx n q - 1) ≤ 256 ^ 7 := Nat.pow_le_pow_right (by decide) (by omega)
    obtain ⟨j, hj⟩ : ∃ j, tL tx n q = j + 1 := ⟨tL tx n q - 1, by omega⟩
    have hp : 0 < pk tx (tB tx n q) (tL tx n q) := by
      have := h4 j (by omega)
      rw [hj]
      show 0 < pk tx (tB tx n q) j * 256 + (tx (tB tx n q + j)).toNat
      omega
    intro z
    have z2 : zL (pk tx (tB tx n q) (tL tx n q) : Int) = zL 0 := z
    rw [zL_inj (by omega) (by omega)] at z2
    omega
  · rw [if_neg g] at h1; exact h1
theorem zWl_0 : ∀ i, i < 11 → zWl.getD i 0 ≠ 0 := by decide +kernel
set_option maxRecDepth 20000 in
theorem c_X7_isWord {l : Launch} (hfl : l.stackTraces = false) (E : zE) (σ : zS) (tx : Nat → Int) (n q i : Nat) (hT : zTk σ tx n q) (hi : i < 11) : zRi l E yX7_isWord cX7_isWord 2 .boolean (zrm 0 0) [.ref (ob E 2), .ref (cad E i)] σ (fun r τ => r = zB (tIs tx n q i) ∧ τ = σ) := by
  refine Met.ofW (cc := cX7_isWord) (maxL := 2) (ret := (some .boolean)) (by decide +kernel) rfl ?_
  intro p e s m args below meth c s₁ B hml hv
  obtain ⟨rfl, hd⟩ := hv
  have C := zX_of (own := RX7) hfl B hml rfl hd rfl
  have hr := B.returns
  refine zV_go hd (Nat.le_of_ble_eq_true rfl) (lv := [(0, .ref (ob E 2)), (1, .ref (cad E i))]) rfl ?_
  have hc := tC_b tx n q
  have hkc := zTk_c hT
  refine zv_aload_n C 0 dX7_isWord_0 rfl rfl ?_
  refine zG7_2 C (by decide : kd 2 = _) kX7_19 dX7_isWord_1 ?_
  refine zv_eqi (y := (zI (tC tx n q : Int))) (hkc) ?_
  refine zv_iconst (v := zI 1) C dX7_isWord_4 rfl ?_
  refine zv_icmp_neZ (tgt := 24) C (by omega) (by omega) dX7_isWord_5 (by decide) (fun h5 => ?_) (fun h5 => ?_)
  · skip
    skip
    refine zv_iconst (v := zI 0) C dX7_isWord_24 rfl ?_
    exact zv_iret C hr rfl dX7_isWord_25 ⟨(zB_f (fun z => by have := z.1; omega)).symm, rfl⟩
  · skip
    refine zv_aload_n C 0 dX7_isWord_8 rfl rfl ?_
    refine zG7_6 C (by decide : kd 2 = _) kX7_31 dX7_isWord_9 ?_
    refine zv_aload_n C 1 dX7_isWord_12 rfl rfl ?_
    refine zv_wlet (i := i) C hi kX7_45 dX7_isWord_13 ?_
    refine zv_lc_ne (tgt := 24) C dX7_isWord_16 dX7_isWord_17 (by decide) (fun h16 => ?_) (fun h16 => ?_)
    · skip
      have hq : gJ σ 2 6 ≠ zWl.getD i 0 := h16
      refine zv_iconst (v := zI 0) C dX7_isWord_24 rfl ?_
      exact zv_iret C hr rfl dX7_isWord_25 ⟨(zB_f (fun z => hq (by rw [((zTk_l hT z.1).1 z.2.1).1]; exact z.2.2))).symm, rfl⟩
    · skip
      have hk1 : tK tx n q = 1 := by omega
      have hq : gJ σ 2 6 = zWl.getD i 0 := by first | exact h16 | exact Classical.byContradiction fun z => h16 z
      refine zv_iconst (v := zI 1) C dX7_isWord_20 rfl ?_
      refine zv_goto (tgt := 25) C dX7_isWord_21 (by decide) ?_
      exact zv_iret C hr rfl dX7_isWord_25 ⟨(zB_t ⟨hk1, Classical.byContradiction fun q => (zWl_0 i hi) (by rw [← hq]; exact (zTk_l hT hk1).2 q), by have q : tL tx n q ≤ 8 := Classical.byContradiction fun q => (zWl_0 i hi) (by rw [← hq]; exact (zTk_l hT hk1).2 q); rw [← hq, ((zTk_l hT hk1).1 q).1]⟩).symm, rfl⟩
set_option maxRecDepth 20000 in
theorem c_X7_isName {l : Launch} (hfl : l.stackTraces = false) (E : zE) (σ : zS) (tx : Nat → Int) (n q : Nat) (hT : zTk σ tx n q) : zRi l E yX7_isName cX7_isName 1 .boolean (zrm 1 22) [.ref (ob E 2)] σ (fun r τ => r = zB (tNm tx n q) ∧ τ = σ) := by
  refine Met.ofW (cc := cX7_isName) (maxL := 1) (ret := (some .boolean)) (by decide +kernel) rfl ?_
  intro p e s m args below meth c s₁ B hml hv
  obtain ⟨rfl, hd⟩ := hv
  have C := zX_of (own := RX7) hfl B hml rfl hd rfl
  have hr := B.returns
  refine zV_go hd (Nat.le_of_ble_eq_true rfl) (lv := [(0, .ref (ob E 2))]) rfl ?_
  have hc := tC_b tx n q
  have hkc := zTk_c hT
  refine zv_aload_n C 0 dX7_isName_0 rfl rfl ?_
  refine zG7_2 C (by decide : kd 2 = _) kX7_19 dX7_isName_1 ?_
  refine zv_eqi (y := (zI (tC tx n q : Int))) (hkc) ?_
  refine zv_iconst (v := zI 1) C dX7_isName_4 rfl ?_
  refine zv_icmp_neZ (tgt := 31) C (by omega) (by omega) dX7_isName_5 (by decide) (fun h5 => ?_) (fun h5 => ?_)
  · skip
    skip
    refine zv_iconst (v := zI 0) C dX7_isName_31 rfl ?_
    exact zv_iret C hr rfl dX7_isName_32 ⟨(zB_f (fun z => by have := z.1; omega)).symm, rfl⟩
  · skip
    refine zv_aload_n C 0 dX7_isName_8 rfl rfl ?_
    refine zG7_6 C (by decide : kd 2 = _) kX7_31 dX7_isName_9 ?_
    refine zv_lconst (v := zL 0) C dX7_isName_12 (by decide) ?_
    refine zv_lc_eq (tgt := 31) C dX7_isName_13 dX7_isName_14 (by decide) (fun h13 => ?_) (fun h13 => ?_)
    · skip
      skip
      refine zv_iconst (v := zI 0) C dX7_isName_31 rfl ?_
      exact zv_iret C hr rfl dX7_isName_32 ⟨(zB_f (fun z => ((zTk_l hT z.1).1 z.2.1).2 h13)).symm, rfl⟩
    · skip
      refine zv_aload_n C 0 dX7_isName_17 rfl rfl ?_
      refine zG7_6 C (by decide : kd 2 = _) kX7_31 dX7_isName_18 ?_
      refine zv_csiD (st := []) C (c_X9_isOne hfl E σ (gJ σ 2 6)) mX9_isOne kX7_48 rfl ⟨rfl, rfl⟩ (show zfit (zrm 0 0) 3 (zrm 1 22) = true from rfl) (Nat.le_of_ble_eq_true rfl) dX7_isName_21 ⟨Nat.zero_le _, Nat.zero_le _⟩ ?_
      refine zv_if_neB (tgt := 31) C dX7_isName_24 (by decide) (fun h24 => ?_) (fun h24 => ?_)
      · skip
        skip
        refine zv_iconst (v := zI 0) C dX7_isName_31 rfl ?_
        exact zv_iret C hr rfl dX7_isName_32 ⟨(zB_f (fun z => z.2.2 (by rw [← ((zTk_l hT z.1).1 z.2.1).1]; exact h24))).symm, rfl⟩
      · skip
        have hk1 : tK tx n q = 1 := by omega
        have hl8 : tL tx n q ≤ 8 := Classical.byContradiction fun z => h13 ((zTk_l hT hk1).2 z)
        refine zv_iconst (v := zI 1) C dX7_isName_27 rfl ?_
        refine zv_goto (tgt := 32) C dX7_isName_28 (by decide) ?_
        exact zv_iret C hr rfl dX7_isName_32 ⟨(zB_t ⟨hk1, hl8, by rw [← ((zTk_l hT hk1).1 hl8).1]; exact h24⟩).symm, rfl⟩
set_option maxRecDepth 20000 in
theorem c_X7_rewind {l : Launch} (hfl : l.stackTraces = false) (E : zE) (σ : zS) (tx : Nat → Int) (n : Nat) (hX : zTx σ tx n) : zRv l E yX7_rewind cX7_rewind 1 (zrm 2 41) [.ref (ob E 2)] σ (fun τ => zTk τ tx n 0 ∧ zFr 2 3 σ τ ∧ gI τ 2 1 = gI σ 2 1) := by
  refine Met.ofW (cc := cX7_rewind) (maxL := 1) (ret := none) (by decide +kernel) rfl ?_
  intro p e s m args below meth c s₁ B hml hv
  obtain ⟨rfl, hd⟩ := hv
  have C := zX_of (own := RX7) hfl B hml rfl hd rfl
  have hr := B.returns
  refine zV_go hd (Nat.le_of_ble_eq_true rfl) (lv := [(0, .ref (ob E 2))]) rfl ?_
  refine zv_aload_n C 0 dX7_rewind_0 rfl rfl ?_
  refine zv_iconst (v := zI 0) C dX7_rewind_1 rfl ?_
  refine zP7_4 C (by decide : kd 2 = _) kX7_25 dX7_rewind_2 ?_
  refine zv_aload_n C 0 dX7_rewind_5 rfl rfl ?_
  refine zv_cvv (st := []) C (c_X7_advance hfl E (sI σ 2 4 (zI 0)) tx n 0 (zTx_w hX (by rw [gI_sI, if_neg (by omega)]) (fun x => by rw [gI_sI, if_neg (by omega)])) (by rw [gI_sI, if_pos ⟨rfl, rfl⟩]; rfl) (Nat.zero_le _)) mX7_advance kX7_35 (by decide : kd 2 = 7) rfl rfl rfl ⟨rfl, rfl⟩ (show zfit (zrm 1 21) 1 (zrm 2 41) = true from rfl) (Nat.le_of_ble_eq_true rfl) dX7_rewind_6 ⟨Nat.zero_le _, Nat.zero_le _⟩ (fun τ6 hp6 => ?_)
  exact zv_vret C hr dX7_rewind_9 ⟨hp6.1, ⟨fun x y hx => by rw [hp6.2.1.1 x y hx, gI_sI, if_neg (by omega)], fun x y hx => by rw [hp6.2.1.2.1 x y hx]; rfl, fun x y => by rw [hp6.2.1.2.2 x y]; rfl⟩, by rw [hp6.2.2, gI_sI, if_neg (by omega)]⟩
