/-! changes, in the reference -/
def mH (σ τ : zS) (D : zDv) : Prop := zMP τ D ∧ gI τ 327 10 = zI 0 ∧ zFr 327 339 σ τ
theorem zFr_th (σ : zS) (k : Nat) : zFr 327 339 σ (thW σ k) := zFr_I (zFr_refl _ _ _) (by decide)
theorem zMx_r (σ : zS) : zMx σ σ := fun _ _ _ _ _ => rfl
theorem zMx_I {σ τ : zS} (h : zMx σ τ) (k : Nat) (v : Int32) : zMx σ (sI τ 332 k v) := fun x j a b c => by rw [gI_sI, if_neg (by omega)]; exact h x j a b c
theorem zMx_m {σ τ : zS} (h : zMx σ τ) (u d : Int) : zMx σ (mW τ u d) := fun x j a b c => h x j a b c
theorem zMx_c {σ τ : zS} (h : zMx σ τ) (q : Bool) : zMx σ (mC τ q) := fun x j a b c => by unfold mC; rw [gI_sI, if_neg (by omega)]; exact h x j a b c
theorem zRk_S {σ : zS} {k : Nat} {S : zST} (h : zSTp σ k S) : zRk S := ⟨h.1.2.1, fun j hj => (h.2.2.2.2.2.2 j hj).1.2.1⟩
theorem zRk_pop {S : zST} (h : zRk S) (i : Nat) : zRk (S.pop i) := ⟨h.1, fun j hj => by
  have := h.2 j hj
  show (if j = i then S.tn i - 1 else S.tn j) ≤ 4
  split
  · rename_i z; subst z; omega
  · exact this⟩
theorem zRk_apd {S : zST} (h : zRk S) {i : Nat} (a b d : Nat) (ht : S.tn i < 4) : zRk (S.apd i a b d) := ⟨h.1, fun j hj => by
  have := h.2 j hj
  show (if j = i then S.tn i + 1 else S.tn j) ≤ 4
  split <;> omega⟩
theorem ix14 {i j p w n : Nat} (hp : p < n) (hn : n ≤ 4) (hw : w < 3) : 21 + 14 * j + 3 * p + w ≠ 19 + 14 * i ∧ 21 + 14 * j + 3 * p + w ≠ 20 + 14 * i := by
  rcases Nat.lt_or_ge j i with h | h <;> omega
theorem ix14b {i j n : Nat} (hn : n < 4) : 20 + 14 * j < 21 + 14 * i + 3 * n ∨ 23 + 14 * i + 3 * n < 20 + 14 * j := by
  rcases Nat.lt_or_ge i j with h | h <;> omega
theorem zRo_pop {σ : zS} {nb : Nat} {S : zST} {i : Nat} (h : zRo (gI σ 332) nb S) (hk : zRk S) (hi : i < 8) (ht : S.tn i ≠ 0) : zRo (gI (sI σ 332 (19 + 14 * i + 0) (zI ((S.tn i : Int) - 1))) 332) nb (S.pop i) := by
  obtain ⟨h1, h2, h3, h4, h5⟩ := h
  have hn := hk.1
  have o : ∀ j, j ≠ 19 + 14 * i → gI (sI σ 332 (19 + 14 * i + 0) (zI ((S.tn i : Int) - 1))) 332 j = gI σ 332 j := fun j q => by rw [gI_sI, if_neg (by omega)]
  refine ⟨(o 0 (by omega)).trans h1, fun q hq => (o _ (by have : q < S.n := hq; omega)).trans (h2 q hq), (o 17 (by omega)).trans h3, (o 18 (by omega)).trans h4, fun j hj => ?_⟩
  obtain ⟨a1, a2, a3⟩ := h5 j hj
  have ht4 := hk.2 j hj
  have htj : (S.pop i).tn j = if j = i then S.tn i - 1 else S.tn j := rfl
  have hrj : (S.pop i).tr j = S.tr j := by
    show (if j = i then S.tr i else S.tr j) = _
    split
    · rename_i z; rw [z]
    · rfl
  refine ⟨?_, fun hb => (o _ (by omega)).trans (a2 hb), fun p w hp hw => ?_⟩
  · rw [htj]
    by_cases z : j = i
    · subst z
      rw [gI_sI, if_pos (by omega), if_pos rfl]
      exact congrArg zI (by omega)
    · rw [if_neg z, o _ (by omega)]; exact a1
  · have hp2 : p < S.tn j := by
      rw [htj] at hp
      split at hp
      · rename_i z; subst z; omega
      · exact hp
    rw [hrj]
    exact (o _ (ix14 hp2 ht4 hw).1).trans (a3 p w hp2 hw)
theorem zRo_fre {σ : zS} {nb : Nat} {S : zST} {i : Nat} (h : zRo (gI σ 332) nb S) (hk : zRk S) (hi : i < 8) : zRo (gI (sI σ 332 (19 + 14 * i + 1) (zI 0)) 332) nb (S.fre i) := by
  obtain ⟨h1, h2, h3, h4, h5⟩ := h
  have hn := hk.1
  have o : ∀ j, j ≠ 20 + 14 * i → gI (sI σ 332 (19 + 14 * i + 1) (zI 0)) 332 j = gI σ 332 j := fun j q => by rw [gI_sI, if_neg (by omega)]
  refine ⟨(o 0 (by omega)).trans h1, fun q hq => (o _ (by have : q < S.n := hq; omega)).trans (h2 q hq), (o 17 (by omega)).trans h3, (o 18 (by omega)).trans h4, fun j hj => ?_⟩
  obtain ⟨a1, a2, a3⟩ := h5 j hj
  have ht4 := hk.2 j hj
  refine ⟨(o _ (by omega)).trans a1, fun hb => ?_, fun p w hp hw => ?_⟩
  · show _ = zI (if j = i then 0 else S.lg j)
    by_cases z : j = i
    · rw [if_pos z, gI_sI, if_pos (by omega)]
    · rw [if_neg z, o _ (by omega)]; exact a2 hb
  · have hp2 : p < S.tn j := hp
    exact (o _ (ix14 hp2 ht4 hw).2).trans (a3 p w hp2 hw)
/-- a part's cells written -/
def aPw (σ : zS) (i n : Nat) (a b d : Int) : zS := sI (sI (sI (sI σ 332 (19 + 14 * i + (2 + 3 * n)) (zI a)) 332 (19 + 14 * i + (2 + 3 * n) + 1) (zI b)) 332 (19 + 14 * i + (2 + 3 * n) + 2) (zI d)) 332 (19 + 14 * i + 0) (zI ((n : Int) + 1))
theorem zRo_apd {σ : zS} {nb : Nat} {S : zST} {i a b d : Nat} (h : zRo (gI σ 332) nb S) (hk : zRk S) (hi : i < 8) (ht : S.tn i < 4) : zRo (gI (aPw σ i (S.tn i) (a : Int) (b : Int) (d : Int)) 332) nb (S.apd i a b d) := by
  obtain ⟨h1, h2, h3, h4, h5⟩ := h
  have hn := hk.1
  have o : ∀ j, j ≠ 19 + 14 * i → (j < 21 + 14 * i + 3 * S.tn i ∨ 23 + 14 * i + 3 * S.tn i < j) → gI (aPw σ i (S.tn i) (a : Int) (b : Int) (d : Int)) 332 j = gI σ 332 j := fun j q r => by
    unfold aPw
    rw [gI_sI, if_neg (by omega), gI_sI, if_neg (by omega), gI_sI, if_neg (by omega), gI_sI, if_neg (by omega)]
  refine ⟨(o 0 (by omega) (by omega)).trans h1, fun q hq => (o _ (by have : q < S.n := hq; omega) (by have : q < S.n := hq; omega)).trans (h2 q hq), (o 17 (by omega) (by omega)).trans h3, (o 18 (by omega) (by omega)).trans h4, fun j hj => ?_⟩
  obtain ⟨a1, a2, a3⟩ := h5 j hj
  have ht4 := hk.2 j hj
  have htj : (S.apd i a b d).tn j = if j = i then S.tn i + 1 else S.tn j := rfl
  have hrj : (S.apd i a b d).tr j = if j = i then (fun x w => if x = S.tn i then (if w = 0 then a else if w = 1 then b else d) else S.tr i x w) else S.tr j := rfl
  refine ⟨?_, fun hb => (o _ (by omega) (ix14b ht)).trans (a2 hb), fun p w hp hw => ?_⟩
  · rw [htj]
    by_cases z : j = i
    · subst z
      unfold aPw
      rw [gI_sI, if_pos (by omega), if_pos rfl]
      exact congrArg zI (by omega)
    · rw [if_neg z, o _ (by omega) (by omega)]; exact a1
  · rw [htj] at hp
    rw [hrj]
    by_cases z : j = i
    · subst z
      rw [if_pos rfl] at hp ⊢
      by_cases y : p = S.tn j
      · subst y
        show _ = zI ((if S.tn j = S.tn j then (if w = 0 then a else if w = 1 then b else d) else S.tr j (S.tn j) w : Nat) : Int)
        rw [if_pos rfl]
        unfold aPw
        rcases (show w = 0 ∨ w = 1 ∨ w = 2 by omega) with q | q | q <;> subst q
        · rw [gI_sI, if_neg (by omega), gI_sI, if_neg (by omega), gI_sI, if_neg (by omega), gI_sI, if_pos (by omega)]; rfl
        · rw [gI_sI, if_neg (by omega), gI_sI, if_neg (by omega), gI_sI, if_pos (by omega)]; rfl
        · rw [gI_sI, if_neg (by omega), gI_sI, if_pos (by omega)]; rfl
      · show _ = zI ((if p = S.tn j then (if w = 0 then a else if w = 1 then b else d) else S.tr j p w : Nat) : Int)
        rw [if_neg y]
        exact (o _ (by omega) (by omega)).trans (a3 p w (by omega) hw)
    · rw [if_neg z] at hp ⊢
      exact (o _ (by omega) (by omega)).trans (a3 p w hp hw)
/-- .. a number put in -/
def iSw (σ : zS) (f : Nat → Nat) (n t : Nat) : zS := sI (inI σ 332 (1 + sIn f t n) (1 + n) (zI (t : Int))) 332 0 (zI ((n : Int) + 1))
theorem zRo_ins {σ : zS} {nb t : Nat} {S : zST} (h : zRo (gI σ 332) nb S) (hk : zRk S) (hn : S.n < 16) : zRo (gI (iSw σ S.f S.n t) 332) nb (S.ins t) := by
  obtain ⟨h1, h2, h3, h4, h5⟩ := h
  have hp := sIn_le S.f t S.n
  have o : ∀ j, 17 ≤ j → gI (iSw σ S.f S.n t) 332 j = gI σ 332 j := fun j q => by
    unfold iSw
    rw [gI_sI, if_neg (by omega), gI_inI, if_neg (by omega), if_neg (by omega)]
  refine ⟨by unfold iSw; rw [gI_sI, if_pos ⟨rfl, rfl⟩]; exact congrArg zI (by show (S.n : Int) + 1 = ((S.n + 1 : Nat) : Int); omega), fun q hq => ?_, (o 17 (by omega)).trans h3, (o 18 (by omega)).trans h4, fun j hj => ?_⟩
  · have hq2 : q < S.n + 1 := hq
    show _ = zI ((if q < sIn S.f t S.n then S.f q else if q = sIn S.f t S.n then t else S.f (q - 1) : Nat) : Int)
    unfold iSw
    rw [gI_sI, if_neg (by omega), gI_inI]
    by_cases z : q = sIn S.f t S.n
    · rw [if_pos (by omega), if_neg (by omega), if_pos z]
    · rw [if_neg (by omega)]
      by_cases y : q < sIn S.f t S.n
      · rw [if_neg (by omega), if_pos y]; exact h2 q (by omega)
      · rw [if_pos (by omega), if_neg y, if_neg z, show 1 + q - 1 = 1 + (q - 1) by omega]; exact h2 (q - 1) (by omega)
  · obtain ⟨a1, a2, a3⟩ := h5 j hj
    exact ⟨(o _ (by omega)).trans a1, fun hb => (o _ (by omega)).trans (a2 hb), fun p w hp hw => (o _ (by omega)).trans (a3 p w hp hw)⟩
/-- all lags cleared -/
def frL (σ : zS) : Nat → zS
  | 0 => σ
  | j + 1 => sI (frL σ j) 332 (19 + 14 * j + 1) (zI 0)
theorem frL_o (σ : zS) : ∀ n x j, (x = 332 → ∀ i, i < n → j ≠ 20 + 14 * i) → gI (frL σ n) x j = gI σ x j := by
  intro n
  induction n with
  | zero => intro x j _; rfl
  | succ n ih =>
    intro x j h
    show gI (sI (frL σ n) 332 (19 + 14 * n + 1) (zI 0)) x j = _
    rw [gI_sI, if_neg (fun q => h q.1 n (by omega) (by omega))]
    exact ih x j (fun a i b => h a i (by omega))
theorem frL_h (σ : zS) : ∀ n i, i < n → gI (frL σ n) 332 (20 + 14 * i) = zI 0 := by
  intro n
  induction n with
  | zero => intro i h; omega
  | succ n ih =>
    intro i h
    show gI (sI (frL σ n) 332 (19 + 14 * n + 1) (zI 0)) 332 (20 + 14 * i) = _
    rw [gI_sI]
    by_cases q : i = n
    · rw [if_pos (by omega)]
    · rw [if_neg (by omega)]; exact ih i (by omega)
theorem zMx_L {σ τ : zS} (h : zMx σ τ) (n : Nat) : zMx σ (frL τ n) := fun x j a b c => by rw [frL_o _ _ _ _ (fun z => absurd z a)]; exact h x j a b c
theorem zFr_L {σ τ : zS} (h : zFr 327 339 σ τ) : ∀ n, zFr 327 339 σ (frL τ n)
  | 0 => h
  | n + 1 => zFr_I (zFr_L h n) (by decide)
theorem zRo_slk {σ : zS} {nb v : Nat} {S : zST} (h : zRo (gI σ 332) nb S) (hk : zRk S) (hnb : nb ≤ 8) : zRo (gI (frL (sI σ 332 17 (zI (v : Int))) nb) 332) nb (S.slk v) := by
  obtain ⟨h1, h2, h3, h4, h5⟩ := h
  have hn := hk.1
  have o : ∀ j, j ≠ 17 → (∀ i, i < nb → j ≠ 20 + 14 * i) → gI (frL (sI σ 332 17 (zI (v : Int))) nb) 332 j = gI σ 332 j := fun j q r => by
    rw [frL_o _ _ _ _ (fun _ => r), gI_sI, if_neg (by omega)]
  refine ⟨(o 0 (by omega) (fun i _ => by omega)).trans h1, fun q hq => (o _ (by have : q < S.n := hq; omega) (fun i _ => by have : q < S.n := hq; omega)).trans (h2 q hq), by rw [frL_o _ _ _ _ (fun _ i _ => by omega), gI_sI, if_pos ⟨rfl, rfl⟩]; rfl, (o 18 (by omega) (fun i _ => by omega)).trans h4, fun j hj => ?_⟩
  obtain ⟨a1, a2, a3⟩ := h5 j hj
  have ht4 := hk.2 j hj
  exact ⟨(o _ (by omega) (fun i _ => by omega)).trans a1, fun hb => frL_h _ _ _ hb, fun p w hp hw => (o _ (by omega) (fun i _ => (ix14 (show p < S.tn j from hp) ht4 hw).2)).trans (a3 p w hp hw)⟩
set_option maxRecDepth 20000 in
theorem c_X11_frees {l : Launch} (hfl : l.stackTraces = false) (E : zE) (σ : zS) (i : Nat) (hi : i < 8) : zRv l E yX11_frees cX11_frees 2 (zrm 1 21) [.ref (ob E 327), .int (zI (i : Int))] σ (fun τ => τ = sI σ 332 (19 + 14 * i + 1) (zI 0)) := by
  refine Met.ofW (cc := cX11_frees) (maxL := 2) (ret := none) (by decide +kernel) rfl ?_
  intro p e s m args below meth c s₁ B hml hv
  obtain ⟨rfl, hd⟩ := hv
  have C := zX_of (own := RX11) hfl B hml rfl hd rfl
  have hr := B.returns
  refine zV_go hd (Nat.le_of_ble_eq_true rfl) (lv := [(0, .ref (ob E 327)), (1, .int (zI (i : Int)))]) rfl ?_
  refine zv_aload_n C 0 dX11_frees_0 rfl rfl ?_
  refine zG10_4 C (by decide : kd 327 = _) kX11_22 dX11_frees_1 ?_
  refine zv_iload_n C 1 dX11_frees_4 rfl rfl ?_
  refine zv_iconst (v := zI 1) C dX11_frees_5 rfl ?_
  refine zv_csiD (st := [.ref (ob E 332)]) C (c_X11_trainAt hfl E σ i (1) (by omega) (by omega)) mX11_trainAt kX11_53 rfl ⟨rfl, rfl⟩ (show zfit (zrm 0 0) 2 (zrm 1 21) = true from rfl) (Nat.le_of_ble_eq_true rfl) dX11_frees_6 ⟨Nat.zero_le _, Nat.zero_le _⟩ ?_
  refine zv_iconst (v := zI 0) C dX11_frees_9 rfl ?_
  refine zv_iast (j := 19 + 14 * i + 1) C (by decide : kd 332 = _) (zI_ix rfl) (Nat.lt_of_lt_of_eq (show 19 + 14 * i + 1 < 131 by omega) (by decide)) dX11_frees_10 ?_
  exact zv_vret C hr dX11_frees_11 rfl
set_option maxRecDepth 20000 in
theorem c_X11_isPart {l : Launch} (hfl : l.stackTraces = false) (E : zE) (σ : zS) (a b d : Int) (ha : -2147483648 ≤ a ∧ a < 2147483648) (hb : -2147483648 ≤ b ∧ b < 2147483648) (hdd : -2147483648 ≤ d ∧ d < 2147483648) : zRi l E yX11_isPart cX11_isPart 3 .boolean (zrm 1 25) [.int (zI a), .int (zI b), .int (zI d)] σ (fun r τ => r = zB ((0 ≤ a ∧ a ≤ 2) ∧ (8 ≤ b ∧ b ≤ 100) ∧ (a = 2 → d = 0) ∧ (a ≠ 2 → 8 ≤ d ∧ d ≤ 100)) ∧ τ = σ) := by
  refine Met.ofW (cc := cX11_isPart) (maxL := 3) (ret := (some .boolean)) (by decide +kernel) rfl ?_
  intro p e s m args below meth c s₁ B hml hv
  obtain ⟨rfl, hd⟩ := hv
  have C := zX_of (own := RX11) hfl B hml rfl hd rfl
  have hr := B.returns
  refine zV_go hd (Nat.le_of_ble_eq_true rfl) (lv := [(0, .int (zI a)), (1, .int (zI b)), (2, .int (zI d))]) rfl ?_
  refine zv_iload_n C 0 dX11_isPart_0 rfl rfl ?_
  refine zv_i2lZ C (by omega) dX11_isPart_1 ?_
  refine zv_lconst (v := zL 0) C dX11_isPart_2 (by decide) ?_
  refine zv_ldc2 C kX11_256 dX11_isPart_3 ?_
  refine zv_eql (y := zL 2) (by decide) ?_
  refine zv_csiD (st := []) C (c_X11_inRange hfl E σ (a) (0) (2) (by omega) (by omega) (by omega)) mX11_inRange kX11_71 rfl ⟨rfl, rfl⟩ (show zfit (zrm 0 0) 6 (zrm 1 25) = true from rfl) (Nat.le_of_ble_eq_true rfl) dX11_isPart_6 ⟨Nat.zero_le _, Nat.zero_le _⟩ ?_
  refine zv_if_eqB (tgt := 56) C dX11_isPart_9 (by decide) (fun h9 => ?_) (fun h9 => ?_)
  · skip
    refine zv_iconst (v := zI 0) C dX11_isPart_56 rfl ?_
    exact zv_iret C hr rfl dX11_isPart_57 ⟨(zB_f (by omega)).symm, rfl⟩
  · skip
    refine zv_iload_n C 1 dX11_isPart_12 rfl rfl ?_
    refine zv_i2lZ C (by omega) dX11_isPart_13 ?_
    refine zv_ldc2 C kX11_398 dX11_isPart_14 ?_
    refine zv_eql (y := zL 8) (by decide) ?_
    refine zv_ldc2 C kX11_273 dX11_isPart_17 ?_
    refine zv_eql (y := zL 100) (by decide) ?_
    refine zv_csiD (st := []) C (c_X11_inRange hfl E σ (b) (8) (100) (by omega) (by omega) (by omega)) mX11_inRange kX11_71 rfl ⟨rfl, rfl⟩ (show zfit (zrm 0 0) 6 (zrm 1 25) = true from rfl) (Nat.le_of_ble_eq_true rfl) dX11_isPart_20 ⟨Nat.zero_le _, Nat.zero_le _⟩ ?_
    refine zv_if_eqB (tgt := 56) C dX11_isPart_23 (by decide) (fun h23 => ?_) (fun h23 => ?_)
    · skip
      refine zv_iconst (v := zI 0) C dX11_isPart_56 rfl ?_
      exact zv_iret C hr rfl dX11_isPart_57 ⟨(zB_f (by omega)).symm, rfl⟩
    · skip
      refine zv_iload_n C 0 dX11_isPart_26 rfl rfl ?_
      refine zv_iconst (v := zI 2) C dX11_isPart_27 rfl ?_
      refine zv_icmp_neZ (tgt := 38) C (by omega) (by omega) dX11_isPart_28 (by decide) (fun h28 => ?_) (fun h28 => ?_)
      · skip
        refine zv_iload_n C 2 dX11_isPart_38 rfl rfl ?_
        refine zv_i2lZ C (by omega) dX11_isPart_39 ?_
        refine zv_ldc2 C kX11_398 dX11_isPart_40 ?_
        refine zv_eql (y := zL 8) (by decide) ?_
        refine zv_ldc2 C kX11_273 dX11_isPart_43 ?_
        refine zv_eql (y := zL 100) (by decide) ?_
        refine zv_csiD (st := []) C (c_X11_inRange hfl E σ (d) (8) (100) (by omega) (by omega) (by omega)) mX11_inRange kX11_71 rfl ⟨rfl, rfl⟩ (show zfit (zrm 0 0) 6 (zrm 1 25) = true from rfl) (Nat.le_of_ble_eq_true rfl) dX11_isPart_46 ⟨Nat.zero_le _, Nat.zero_le _⟩ ?_
        refine zv_if_eqB (tgt := 56) C dX11_isPart_49 (by decide) (fun h49 => ?_) (fun h49 => ?_)
        · skip
          refine zv_iconst (v := zI 0) C dX11_isPart_56 rfl ?_
          exact zv_iret C hr rfl dX11_isPart_57 ⟨(zB_f (by omega)).symm, rfl⟩
        · skip
          refine zv_iconst (v := zI 1) C dX11_isPart_52 rfl ?_
          refine zv_goto (tgt := 57) C dX11_isPart_53 (by decide) ?_
          exact zv_iret C hr rfl dX11_isPart_57 ⟨(zB_t (by omega)).symm, rfl⟩
      · skip
        refine zv_iload_n C 2 dX11_isPart_31 rfl rfl ?_
        refine zv_if_neZ (tgt := 56) C (by omega) dX11_isPart_32 (by decide) (fun h32 => ?_) (fun h32 => ?_)
        · skip
          refine zv_iconst (v := zI 0) C dX11_isPart_56 rfl ?_
          exact zv_iret C hr rfl dX11_isPart_57 ⟨(zB_f (by omega)).symm, rfl⟩
        · skip
          refine zv_goto (tgt := 52) C dX11_isPart_35 (by decide) ?_
          refine zv_iconst (v := zI 1) C dX11_isPart_52 rfl ?_
          refine zv_goto (tgt := 57) C dX11_isPart_53 (by decide) ?_
          exact zv_iret C hr rfl dX11_isPart_57 ⟨(zB_t (by omega)).symm, rfl⟩
set_option maxRecDepth 20000 in
theorem c_X11_hasRoom {l : Launch} (hfl : l.stackTraces = false) (E : zE) (σ : zS) (nb : Nat) (S : zST) (i : Nat) (a : Int) (hW : zRo (gI σ 332) nb S) (hi : i < 8) (ht : S.tn i ≤ 4) (hc : ∀ j w, j < S.tn i → w < 3 → S.tr i j w ≤ 100) (ha : 0 ≤ a ∧ a ≤ 2) : zRi l E yX11_hasRoom cX11_hasRoom 3 .boolean (zrm 3 67) [.ref (ob E 327), .int (zI (i : Int)), .int (zI a)] σ (fun r τ => r = zB (S.tn i < 4 ∧ (a = 2 ∨ tGe (S.tr i) (S.tn i) < 2)) ∧ τ = σ) := by
  refine Met.ofW (cc := cX11_hasRoom) (maxL := 3) (ret := (some .boolean)) (by decide +kernel) rfl ?_
  intro p e s m args below meth c s₁ B hml hv
  obtain ⟨rfl, hd⟩ := hv
  have C := zX_of (own := RX11) hfl B hml rfl hd rfl
  have hr := B.returns
  refine zV_go hd (Nat.le_of_ble_eq_true rfl) (lv := [(0, .ref (ob E 327)), (1, .int (zI (i : Int))), (2, .int (zI a))]) rfl ?_
  have hgl := tGe_le (S.tr i) (S.tn i)
  refine zv_aload_n C 0 dX11_hasRoom_0 rfl rfl ?_
  refine zv_iload_n C 1 dX11_hasRoom_1 rfl rfl ?_
  refine zv_cviD (st := []) C (c_X11_parts hfl E σ nb S i hW hi) mX11_parts kX11_188 (by decide : kd 327 = 10) rfl rfl rfl ⟨rfl, rfl⟩ (show zfit (zrm 1 21) 2 (zrm 3 67) = true from rfl) (Nat.le_of_ble_eq_true rfl) dX11_hasRoom_2 ⟨Nat.zero_le _, Nat.zero_le _⟩ ?_
  refine zv_iconst (v := zI 4) C dX11_hasRoom_5 rfl ?_
  refine zv_icmp_geZ (tgt := 27) C (by omega) (by omega) dX11_hasRoom_6 (by decide) (fun h6 => ?_) (fun h6 => ?_)
  · skip
    refine zv_iconst (v := zI 0) C dX11_hasRoom_27 rfl ?_
    exact zv_iret C hr rfl dX11_hasRoom_28 ⟨(zB_f (by omega)).symm, rfl⟩
  · skip
    refine zv_iload_n C 2 dX11_hasRoom_9 rfl rfl ?_
    refine zv_iconst (v := zI 2) C dX11_hasRoom_10 rfl ?_
    refine zv_icmp_eqZ (tgt := 23) C (by omega) (by omega) dX11_hasRoom_11 (by decide) (fun h11 => ?_) (fun h11 => ?_)
    · skip
      refine zv_iconst (v := zI 1) C dX11_hasRoom_23 rfl ?_
      refine zv_goto (tgt := 28) C dX11_hasRoom_24 (by decide) ?_
      exact zv_iret C hr rfl dX11_hasRoom_28 ⟨(zB_t (by omega)).symm, rfl⟩
    · skip
      refine zv_aload_n C 0 dX11_hasRoom_14 rfl rfl ?_
      refine zv_iload_n C 1 dX11_hasRoom_15 rfl rfl ?_
      refine zv_cviD (st := []) C (c_X11_gears hfl E σ nb S i hW hi ht hc) mX11_gears kX11_195 (by decide : kd 327 = 10) rfl rfl rfl ⟨rfl, rfl⟩ (show zfit (zrm 2 44) 4 (zrm 3 67) = true from rfl) (Nat.le_of_ble_eq_true rfl) dX11_hasRoom_16 ⟨Nat.zero_le _, Nat.zero_le _⟩ ?_
      refine zv_iconst (v := zI 2) C dX11_hasRoom_19 rfl ?_
      refine zv_icmp_geZ (tgt := 27) C (by omega) (by omega) dX11_hasRoom_20 (by decide) (fun h20 => ?_) (fun h20 => ?_)
      · skip
        refine zv_iconst (v := zI 0) C dX11_hasRoom_27 rfl ?_
        exact zv_iret C hr rfl dX11_hasRoom_28 ⟨(zB_f (by omega)).symm, rfl⟩
      · skip
        refine zv_iconst (v := zI 1) C dX11_hasRoom_23 rfl ?_
        refine zv_goto (tgt := 28) C dX11_hasRoom_24 (by decide) ?_
        exact zv_iret C hr rfl dX11_hasRoom_28 ⟨(zB_t (by omega)).symm, rfl⟩
set_option maxRecDepth 20000 in
theorem c_X11_addsPart {l : Launch} (hfl : l.stackTraces = false) (E : zE) (σ : zS) (nb : Nat) (S : zST) (i : Nat) (a b d : Int) (hW : zRo (gI σ 332) nb S) (hi : i < 8) (ht : S.tn i < 4) : zRv l E yX11_addsPart cX11_addsPart 6 (zrm 2 42) [.ref (ob E 327), .int (zI (i : Int)), .int (zI a), .int (zI b), .int (zI d)] σ (fun τ => τ = aPw σ i (S.tn i) a b d) := by
  refine Met.ofW (cc := cX11_addsPart) (maxL := 6) (ret := none) (by decide +kernel) rfl ?_
  intro p e s m args below meth c s₁ B hml hv
  obtain ⟨rfl, hd⟩ := hv
  have C := zX_of (own := RX11) hfl B hml rfl hd rfl
  have hr := B.returns
  refine zV_go hd (Nat.le_of_ble_eq_true rfl) (lv := [(0, .ref (ob E 327)), (1, .int (zI (i : Int))), (2, .int (zI a)), (3, .int (zI b)), (4, .int (zI d))]) rfl ?_
  refine zv_iload_n C 1 dX11_addsPart_0 rfl rfl ?_
  refine zv_iconst (v := zI 2) C dX11_addsPart_1 rfl ?_
  refine zv_iconst (v := zI 3) C dX11_addsPart_2 rfl ?_
  refine zv_aload_n C 0 dX11_addsPart_3 rfl rfl ?_
  refine zv_iload_n C 1 dX11_addsPart_4 rfl rfl ?_
  refine zv_cviD (st := [.int (zI 3), .int (zI 2), .int (zI (i : Int))]) C (c_X11_parts hfl E σ nb S i hW hi) mX11_parts kX11_188 (by decide : kd 327 = 10) rfl rfl rfl ⟨rfl, rfl⟩ (show zfit (zrm 1 21) 2 (zrm 2 42) = true from rfl) (Nat.le_of_ble_eq_true rfl) dX11_addsPart_5 ⟨Nat.zero_le _, Nat.zero_le _⟩ ?_
  refine zv_imulZ C dX11_addsPart_8 ?_
  refine zv_iaddZ C dX11_addsPart_9 ?_
  refine zv_eqi (y := (zI ((2 + 3 * S.tn i : Nat) : Int))) (congrArg zI (by omega)) ?_
  refine zv_csiD (st := []) C (c_X11_trainAt hfl E σ i (2 + 3 * S.tn i) (by omega) (by omega)) mX11_trainAt kX11_53 rfl ⟨rfl, rfl⟩ (show zfit (zrm 0 0) 2 (zrm 2 42) = true from rfl) (Nat.le_of_ble_eq_true rfl) dX11_addsPart_10 ⟨Nat.zero_le _, Nat.zero_le _⟩ ?_
  refine zv_istore (lv' := [(5, .int (zI ((19 + 14 * i + (2 + 3 * S.tn i) : Nat) : Int))), (0, .ref (ob E 327)), (1, .int (zI (i : Int))), (2, .int (zI a)), (3, .int (zI b)), (4, .int (zI d))]) C dX11_addsPart_13  (by decide) rfl ?_
  refine zv_aload_n C 1 dX11_addsPart_15 rfl rfl ?_
  refine zG10_4 C (by decide : kd 327 = _) kX11_22 dX11_addsPart_16 ?_
  refine zv_iload C 0 dX11_addsPart_19 rfl ?_
  refine zv_iload_n C 3 dX11_addsPart_21 rfl rfl ?_
  refine zv_iast (j := 19 + 14 * i + (2 + 3 * S.tn i)) C (by decide : kd 332 = _) (zI_ix rfl) (Nat.lt_of_lt_of_eq (show 19 + 14 * i + (2 + 3 * S.tn i) < 131 by omega) (by decide)) dX11_addsPart_22 ?_
  refine zv_aload_n C 1 dX11_addsPart_23 rfl rfl ?_
  refine zG10_4 C (by decide : kd 327 = _) kX11_22 dX11_addsPart_24 ?_
  refine zv_iload C 0 dX11_addsPart_27 rfl ?_
  refine zv_iconst (v := zI 1) C dX11_addsPart_29 rfl ?_
  refine zv_iaddZ C dX11_addsPart_30 ?_
  refine zv_iload_n C 4 dX11_addsPart_31 rfl rfl ?_
  refine zv_iast (j := 19 + 14 * i + (2 + 3 * S.tn i) + 1) C (by decide : kd 332 = _) (zI_ix (by omega)) (Nat.lt_of_lt_of_eq (show 19 + 14 * i + (2 + 3 * S.tn i) + 1 < 131 by omega) (by decide)) dX11_addsPart_32 ?_
  refine zv_aload_n C 1 dX11_addsPart_33 rfl rfl ?_
  refine zG10_4 C (by decide : kd 327 = _) kX11_22 dX11_addsPart_34 ?_
  refine zv_iload C 0 dX11_addsPart_37 rfl ?_
  refine zv_iconst (v := zI 2) C dX11_addsPart_39 rfl ?_
  refine zv_iaddZ C dX11_addsPart_40 ?_
  refine zv_iload C 5 dX11_addsPart_41 rfl ?_
  refine zv_iast (j := 19 + 14 * i + (2 + 3 * S.tn i) + 2) C (by decide : kd 332 = _) (zI_ix (by omega)) (Nat.lt_of_lt_of_eq (show 19 + 14 * i + (2 + 3 * S.tn i) + 2 < 131 by omega) (by decide)) dX11_addsPart_43 ?_
  refine zv_aload_n C 1 dX11_addsPart_44 rfl rfl ?_
  refine zG10_4 C (by decide : kd 327 = _) kX11_22 dX11_addsPart_45 ?_
  refine zv_iload_n C 2 dX11_addsPart_48 rfl rfl ?_
  refine zv_iconst (v := zI 0) C dX11_addsPart_49 rfl ?_
  refine zv_csiD (st := [.ref (ob E 332)]) C (c_X11_trainAt hfl E (sI (sI (sI σ 332 (19 + 14 * i + (2 + 3 * S.tn i)) (zI a)) 332 (19 + 14 * i + (2 + 3 * S.tn i) + 1) (zI b)) 332 (19 + 14 * i + (2 + 3 * S.tn i) + 2) (zI d)) i (0) (by omega) (by omega)) mX11_trainAt kX11_53 rfl ⟨rfl, rfl⟩ (show zfit (zrm 0 0) 2 (zrm 2 42) = true from rfl) (Nat.le_of_ble_eq_true rfl) dX11_addsPart_50 ⟨Nat.zero_le _, Nat.zero_le _⟩ ?_
  refine zv_dup2 C dX11_addsPart_53 rfl rfl ?_
  refine zv_iald (j := 19 + 14 * i + 0) C (by decide : kd 332 = _) (zI_ix rfl) (Nat.lt_of_lt_of_eq (show 19 + 14 * i + 0 < 131 by omega) (by decide)) dX11_addsPart_54 ?_
  refine zv_eqi (y := (zI (S.tn i : Int))) (by rw [gI_sI, if_neg (by omega), gI_sI, if_neg (by omega), gI_sI, if_neg (by omega)]; exact (hW.2.2.2.2 i hi).1) ?_
  refine zv_iconst (v := zI 1) C dX11_addsPart_55 rfl ?_
  refine zv_iaddZ C dX11_addsPart_56 ?_
  refine zv_iast (j := 19 + 14 * i + 0) C (by decide : kd 332 = _) (zI_ix rfl) (Nat.lt_of_lt_of_eq (show 19 + 14 * i + 0 < 131 by omega) (by decide)) dX11_addsPart_57 ?_
  exact zv_vret C hr dX11_addsPart_58 rfl
set_option maxRecDepth 20000 in
theorem c_X11_removePart {l : Launch} (hfl : l.stackTraces = false) (E : zE) (σ : zS) (σc : zS) (ni : Nat) (tx : Nat → Int) (ec : Nat) (eo : Int) (U : zSU) (S : zST) (hh : List zST) (kp : Option zST) (ou : List Nat) (i : Nat) (h : zMP σ (zDv.mk ni tx ec eo U S hh kp ou)) (hU : zSUp σc 29 U) (hS : zSTp σc 34 S) (hi : i < U.nb) (ht0 : S.tn i ≠ 0) : zRi l E yX11_removePart cX11_removePart 2 .int (zrm 2 46) [.ref (ob E 327), .int (zI (i : Int))] σ (fun r τ => r = zI ((S.tn i : Int) - 1) ∧ mH σ τ ((zDv.mk ni tx ec eo U S hh kp ou).re.sS ((S.pop i).fre i))) := by
  refine Met.ofW (cc := cX11_removePart) (maxL := 2) (ret := (some .int)) (by decide +kernel) rfl ?_
  intro p e s m args below meth c s₁ B hml hv
  obtain ⟨rfl, hd⟩ := hv
  have C := zX_of (own := RX11) hfl B hml rfl hd rfl
  have hr := B.returns
  refine zV_go hd (Nat.le_of_ble_eq_true rfl) (lv := [(0, .ref (ob E 327)), (1, .int (zI (i : Int)))]) rfl ?_
  have hnb : U.nb ≤ 8 := hU.2.2.1
  have hs0 := hU.2.2.2.1
  have hB : zRb (gI σ 328) U := h.2.2.1
  have hW : zRo (gI σ 332) U.nb S := h.2.2.2.2.1.1
  have hk9 : zRk S := h.2.2.2.2.1.2
  have h0 : zMP (thW σ 0) (zDv.mk ni tx ec eo U S hh kp ou) := zMP_q h (mK_th σ 0).1
  have hi8 : i < 8 := by omega
  have ht := hk9.2 i hi8
  have hc : ∀ j w, j < S.tn i → w < 3 → S.tr i j w ≤ 100 := fun j w a b => (hS.2.2.2.2.2.2 i hi8).1.2.2.2 j w a b
  
  refine zv_aload_n C 0 dX11_removePart_0 rfl rfl ?_
  refine zv_iload_n C 1 dX11_removePart_1 rfl rfl ?_
  refine zv_cviD (st := []) C (c0_X11_noBody hfl E σ σc U ((i : Int)) hB hU (by omega)) mX11_noBody kX11_319 (by decide : kd 327 = 10) rfl rfl rfl ⟨rfl, rfl⟩ (show zfit (zrm 1 25) 2 (zrm 2 46) = true from rfl) (Nat.le_of_ble_eq_true rfl) dX11_removePart_2 ⟨Nat.zero_le _, Nat.zero_le _⟩ ?_
  refine zv_if_neZ (tgt := 29) C (by omega) dX11_removePart_5 (by decide) (fun h5 => absurd h5 (by decide)) (fun h5 => ?_)
  refine zv_aload_n C 0 dX11_removePart_8 rfl rfl ?_
  refine zv_aload_n C 0 dX11_removePart_9 rfl rfl ?_
  refine zv_iload_n C 1 dX11_removePart_10 rfl rfl ?_
  refine zv_cviD (st := [.ref (ob E 327)]) C (c_X11_parts hfl E (thW σ 0) U.nb S i hW (by omega)) mX11_parts kX11_188 (by decide : kd 327 = 10) rfl rfl rfl ⟨rfl, rfl⟩ (show zfit (zrm 1 21) 2 (zrm 2 46) = true from rfl) (Nat.le_of_ble_eq_true rfl) dX11_removePart_11 ⟨Nat.zero_le _, Nat.zero_le _⟩ ?_
  refine zv_if_neZ (tgt := 21) C (by omega) dX11_removePart_14 (by decide) (fun h14 => ?_) (fun h14 => ?_)
  · skip
    refine zv_iconst (v := zI 0) C dX11_removePart_21 rfl ?_
    refine zv_iconst (v := zI 2) C dX11_removePart_22 rfl ?_
    refine zv_cviD (st := []) C (c0_X11_fails hfl E (thW σ 0) 2) mX11_fails kX11_309 (by decide : kd 327 = 10) rfl rfl rfl ⟨rfl, rfl⟩ (show zfit (zrm 0 0) 3 (zrm 2 46) = true from rfl) (Nat.le_of_ble_eq_true rfl) dX11_removePart_23 ⟨Nat.zero_le _, Nat.zero_le _⟩ ?_
    refine zv_if_eqZ (tgt := 31) C (by omega) dX11_removePart_26 (by decide) (fun h26 => ?_) (fun h26 => absurd h26 (by decide))
    refine zv_aload_n C 0 dX11_removePart_31 rfl rfl ?_
    refine zv_cvv (st := []) C (c_X11_remembers hfl E (thW σ 0) (zDv.mk ni tx ec eo U S hh kp ou) h0) mX11_remembers kX11_392 (by decide : kd 327 = 10) rfl rfl rfl ⟨rfl, rfl⟩ (show zfit (zrm 1 25) 1 (zrm 2 46) = true from rfl) (Nat.le_of_ble_eq_true rfl) dX11_removePart_32 ⟨Nat.zero_le _, Nat.zero_le _⟩ (fun τ1 hp32 => ?_)
    obtain ⟨hz1, hz2, hz3, hz4⟩ := hp32
    have hW1 : zRo (gI τ1 332) U.nb S := by rw [hz4]; exact hW
    have hB1 : zRb (gI τ1 328) U := hz1.2.2.1
    have ht1 : gI τ1 327 10 = zI 0 := hz2.trans (mK_th σ 0).2
    have hf1 : zFr 327 339 σ τ1 := zFr_trans (zFr_th σ 0) hz3
    refine zv_aload_n C 0 dX11_removePart_35 rfl rfl ?_
    refine zG10_4 C (by decide : kd 327 = _) kX11_22 dX11_removePart_36 ?_
    refine zv_iload_n C 1 dX11_removePart_39 rfl rfl ?_
    refine zv_iconst (v := zI 0) C dX11_removePart_40 rfl ?_
    refine zv_csiD (st := [.ref (ob E 332)]) C (c_X11_trainAt hfl E τ1 i (0) (by omega) (by omega)) mX11_trainAt kX11_53 rfl ⟨rfl, rfl⟩ (show zfit (zrm 0 0) 2 (zrm 2 46) = true from rfl) (Nat.le_of_ble_eq_true rfl) dX11_removePart_41 ⟨Nat.zero_le _, Nat.zero_le _⟩ ?_
    refine zv_dup2 C dX11_removePart_44 rfl rfl ?_
    refine zv_iald (j := 19 + 14 * i + 0) C (by decide : kd 332 = _) (zI_ix rfl) (Nat.lt_of_lt_of_eq (show 19 + 14 * i + 0 < 131 by omega) (by decide)) dX11_removePart_45 ?_
    refine zv_eqi (y := (zI (S.tn i : Int))) ((hW1.2.2.2.2 i hi8).1) ?_
    refine zv_iconst (v := zI 1) C dX11_removePart_46 rfl ?_
    refine zv_isubZ C dX11_removePart_47 ?_
    refine zv_iast (j := 19 + 14 * i + 0) C (by decide : kd 332 = _) (zI_ix rfl) (Nat.lt_of_lt_of_eq (show 19 + 14 * i + 0 < 131 by omega) (by decide)) dX11_removePart_48 ?_
    refine zv_aload_n C 0 dX11_removePart_49 rfl rfl ?_
    refine zv_iload_n C 1 dX11_removePart_50 rfl rfl ?_
    refine zv_cvvD (st := []) C (c_X11_frees hfl E (sI τ1 332 (19 + 14 * i + 0) (zI ((S.tn i : Int) - 1))) i (by omega)) mX11_frees kX11_395 (by decide : kd 327 = 10) rfl rfl rfl ⟨rfl, rfl⟩ (show zfit (zrm 1 21) 2 (zrm 2 46) = true from rfl) (Nat.le_of_ble_eq_true rfl) dX11_removePart_51 ⟨Nat.zero_le _, Nat.zero_le _⟩ ?_
    refine zv_aload_n C 0 dX11_removePart_54 rfl rfl ?_
    refine zv_iload_n C 1 dX11_removePart_55 rfl rfl ?_
    refine zv_cviD (st := []) C (c_X11_parts hfl E (sI (sI τ1 332 (19 + 14 * i + 0) (zI ((S.tn i : Int) - 1))) 332 (19 + 14 * i + 1) (zI 0)) U.nb ((S.pop i).fre i) i (zRo_fre (zRo_pop hW1 hk9 hi8 ht0) (zRk_pop hk9 i) hi8) hi8) mX11_parts kX11_188 (by decide : kd 327 = 10) rfl rfl rfl ⟨rfl, rfl⟩ (show zfit (zrm 1 21) 2 (zrm 2 46) = true from rfl) (Nat.le_of_ble_eq_true rfl) dX11_removePart_56 ⟨Nat.zero_le _, Nat.zero_le _⟩ ?_
    refine zv_eqi (y := (zI ((S.tn i : Int) - 1))) (congrArg zI (by show ((if i = i then S.tn i - 1 else S.tn i : Nat) : Int) = _; rw [if_pos rfl]; omega)) ?_
    exact zv_iret C hr rfl dX11_removePart_59 ⟨rfl, zMP_x hz1 (zRo_fre (zRo_pop hW1 hk9 hi8 ht0) (zRk_pop hk9 i) hi8) (zRk_pop hk9 i) (zMx_I (zMx_I (zMx_r _) _ _) _ _), ht1, zFr_I (zFr_I hf1 (by decide)) (by decide)⟩
  · skip
    refine zv_iconst (v := zI 1) C dX11_removePart_17 rfl ?_
    refine zv_goto (tgt := 22) C dX11_removePart_18 (by decide) ?_
    refine zv_iconst (v := zI 2) C dX11_removePart_22 rfl ?_
    exfalso
    omega
set_option maxRecDepth 20000 in
theorem x1_X11_removePart {l : Launch} (hfl : l.stackTraces = false) (E : zE) (σ : zS) (σc : zS) (U : zSU) (y : Int) (hB : zRb (gI σ 328) U) (hU : zSUp σc 29 U) (hy : -2147483648 ≤ y ∧ y < 2147483648) (hno : ¬ (0 ≤ y ∧ y < U.nb)) : zRi l E yX11_removePart cX11_removePart 2 .int (zrm 2 46) [.ref (ob E 327), .int (zI y)] σ (fun r τ => r = zI 0 ∧ mK σ τ 1) := by
  refine Met.ofW (cc := cX11_removePart) (maxL := 2) (ret := (some .int)) (by decide +kernel) rfl ?_
  intro p e s m args below meth c s₁ B hml hv
  obtain ⟨rfl, hd⟩ := hv
  have C := zX_of (own := RX11) hfl B hml rfl hd rfl
  have hr := B.returns
  refine zV_go hd (Nat.le_of_ble_eq_true rfl) (lv := [(0, .ref (ob E 327)), (1, .int (zI y))]) rfl ?_
  have hnb : U.nb ≤ 8 := hU.2.2.1
  have hs0 := hU.2.2.2.1
  
  refine zv_aload_n C 0 dX11_removePart_0 rfl rfl ?_
  refine zv_iload_n C 1 dX11_removePart_1 rfl rfl ?_
  refine zv_cviD (st := []) C (c1_X11_noBody hfl E σ σc U (y) hB hU (by omega) hno) mX11_noBody kX11_319 (by decide : kd 327 = 10) rfl rfl rfl ⟨rfl, rfl⟩ (show zfit (zrm 1 25) 2 (zrm 2 46) = true from rfl) (Nat.le_of_ble_eq_true rfl) dX11_removePart_2 ⟨Nat.zero_le _, Nat.zero_le _⟩ ?_
  refine zv_if_neZ (tgt := 29) C (by omega) dX11_removePart_5 (by decide) (fun h5 => ?_) (fun h5 => absurd h5 (by decide))
  refine zv_iconst (v := zI 0) C dX11_removePart_29 rfl ?_
  exact zv_iret C hr rfl dX11_removePart_30 ⟨rfl, by first | exact mK_th _ _ | exact mK_th2 _ _ _ | exact mK_C (mK_W (mK_th _ _) _ _) _ | exact mK_W (mK_th _ _) _ _⟩
set_option maxRecDepth 20000 in
theorem x2_X11_removePart {l : Launch} (hfl : l.stackTraces = false) (E : zE) (σ : zS) (σc : zS) (U : zSU) (S : zST) (i : Nat) (hB : zRb (gI σ 328) U) (hU : zSUp σc 29 U) (hW : zRo (gI σ 332) U.nb S) (hS : zSTp σc 34 S) (hi : i < U.nb) (ht0 : S.tn i = 0) : zRi l E yX11_removePart cX11_removePart 2 .int (zrm 2 46) [.ref (ob E 327), .int (zI (i : Int))] σ (fun r τ => r = zI 0 ∧ mK σ τ 2) := by
  refine Met.ofW (cc := cX11_removePart) (maxL := 2) (ret := (some .int)) (by decide +kernel) rfl ?_
  intro p e s m args below meth c s₁ B hml hv
  obtain ⟨rfl, hd⟩ := hv
  have C := zX_of (own := RX11) hfl B hml rfl hd rfl
  have hr := B.returns
  refine zV_go hd (Nat.le_of_ble_eq_true rfl) (lv := [(0, .ref (ob E 327)), (1, .int (zI (i : Int)))]) rfl ?_
  have hnb : U.nb ≤ 8 := hU.2.2.1
  have hs0 := hU.2.2.2.1
  
  refine zv_aload_n C 0 dX11_removePart_0 rfl rfl ?_
  refine zv_iload_n C 1 dX11_removePart_1 rfl rfl ?_
  refine zv_cviD (st := []) C (c0_X11_noBody hfl E σ σc U ((i : Int)) hB hU (by omega)) mX11_noBody kX11_319 (by decide : kd 327 = 10) rfl rfl rfl ⟨rfl, rfl⟩ (show zfit (zrm 1 25) 2 (zrm 2 46) = true from rfl) (Nat.le_of_ble_eq_true rfl) dX11_removePart_2 ⟨Nat.zero_le _, Nat.zero_le _⟩ ?_
  refine zv_if_neZ (tgt := 29) C (by omega) dX11_removePart_5 (by decide) (fun h5 => absurd h5 (by decide)) (fun h5 => ?_)
  refine zv_aload_n C 0 dX11_removePart_8 rfl rfl ?_
  refine zv_aload_n C 0 dX11_removePart_9 rfl rfl ?_
  refine zv_iload_n C 1 dX11_removePart_10 rfl rfl ?_
  refine zv_cviD (st := [.ref (ob E 327)]) C (c_X11_parts hfl E (thW σ 0) U.nb S i hW (by omega)) mX11_parts kX11_188 (by decide : kd 327 = 10) rfl rfl rfl ⟨rfl, rfl⟩ (show zfit (zrm 1 21) 2 (zrm 2 46) = true from rfl) (Nat.le_of_ble_eq_true rfl) dX11_removePart_11 ⟨Nat.zero_le _, Nat.zero_le _⟩ ?_
  refine zv_if_neZ (tgt := 21) C (by omega) dX11_removePart_14 (by decide) (fun h14 => ?_) (fun h14 => ?_)
  · skip
    refine zv_iconst (v := zI 0) C dX11_removePart_21 rfl ?_
    refine zv_iconst (v := zI 2) C dX11_removePart_22 rfl ?_
    exfalso
    omega
  · skip
    refine zv_iconst (v := zI 1) C dX11_removePart_17 rfl ?_
    refine zv_goto (tgt := 22) C dX11_removePart_18 (by decide) ?_
    refine zv_iconst (v := zI 2) C dX11_removePart_22 rfl ?_
    refine zv_cviD (st := []) C (c1_X11_fails hfl E (thW σ 0) 2) mX11_fails kX11_309 (by decide : kd 327 = 10) rfl rfl rfl ⟨rfl, rfl⟩ (show zfit (zrm 0 0) 3 (zrm 2 46) = true from rfl) (Nat.le_of_ble_eq_true rfl) dX11_removePart_23 ⟨Nat.zero_le _, Nat.zero_le _⟩ ?_
    refine zv_if_eqZ (tgt := 31) C (by omega) dX11_removePart_26 (by decide) (fun h26 => absurd h26 (by decide)) (fun h26 => ?_)
    refine zv_iconst (v := zI 0) C dX11_removePart_29 rfl ?_
    exact zv_iret C hr rfl dX11_removePart_30 ⟨rfl, mK_th2 _ _ _⟩
set_option maxRecDepth 20000 in
theorem c_X11_addPart {l : Launch} (hfl : l.stackTraces = false) (E : zE) (σ : zS) (σc : zS) (ni : Nat) (tx : Nat → Int) (ec : Nat) (eo : Int) (U : zSU) (S : zST) (hh : List zST) (kp : Option zST) (ou : List Nat) (i a b d : Nat) (h : zMP σ (zDv.mk ni tx ec eo U S hh kp ou)) (hU : zSUp σc 29 U) (hS : zSTp σc 34 S) (hi : i < U.nb) (ha : a ≤ 2) (hb : 8 ≤ b ∧ b ≤ 100) (hd1 : a = 2 → d = 0) (hd2 : a ≠ 2 → 8 ≤ d ∧ d ≤ 100) (hroom : S.tn i < 4 ∧ (a = 2 ∨ tGe (S.tr i) (S.tn i) < 2)) : zRi l E yX11_addPart cX11_addPart 5 .int (zrm 4 89) [.ref (ob E 327), .int (zI (i : Int)), .int (zI (a : Int)), .int (zI (b : Int)), .int (zI (d : Int))] σ (fun r τ => r = zI ((S.tn i + 1 : Nat) : Int) ∧ mH σ τ ((zDv.mk ni tx ec eo U S hh kp ou).re.sS ((S.apd i a b d).fre i))) := by
  refine Met.ofW (cc := cX11_addPart) (maxL := 5) (ret := (some .int)) (by decide +kernel) rfl ?_
  intro p e s m args below meth c s₁ B hml hv
  obtain ⟨rfl, hd⟩ := hv
  have C := zX_of (own := RX11) hfl B hml rfl hd rfl
  have hr := B.returns
  refine zV_go hd (Nat.le_of_ble_eq_true rfl) (lv := [(0, .ref (ob E 327)), (1, .int (zI (i : Int))), (2, .int (zI (a : Int))), (3, .int (zI (b : Int))), (4, .int (zI (d : Int)))]) rfl ?_
  have hnb : U.nb ≤ 8 := hU.2.2.1
  have hs0 := hU.2.2.2.1
  have hB : zRb (gI σ 328) U := h.2.2.1
  have hW : zRo (gI σ 332) U.nb S := h.2.2.2.2.1.1
  have hk9 : zRk S := h.2.2.2.2.1.2
  have h0 : zMP (thW σ 0) (zDv.mk ni tx ec eo U S hh kp ou) := zMP_q h (mK_th σ 0).1
  have hi8 : i < 8 := by omega
  have ht := hk9.2 i hi8
  have hc : ∀ j w, j < S.tn i → w < 3 → S.tr i j w ≤ 100 := fun j w a b => (hS.2.2.2.2.2.2 i hi8).1.2.2.2 j w a b
  
  refine zv_aload_n C 0 dX11_addPart_0 rfl rfl ?_
  refine zv_iload_n C 1 dX11_addPart_1 rfl rfl ?_
  refine zv_cviD (st := []) C (c0_X11_noBody hfl E σ σc U ((i : Int)) hB hU (by omega)) mX11_noBody kX11_319 (by decide : kd 327 = 10) rfl rfl rfl ⟨rfl, rfl⟩ (show zfit (zrm 1 25) 2 (zrm 4 89) = true from rfl) (Nat.le_of_ble_eq_true rfl) dX11_addPart_2 ⟨Nat.zero_le _, Nat.zero_le _⟩ ?_
  refine zv_if_neZ (tgt := 53) C (by omega) dX11_addPart_5 (by decide) (fun h5 => absurd h5 (by decide)) (fun h5 => ?_)
  refine zv_aload_n C 0 dX11_addPart_8 rfl rfl ?_
  refine zv_iload_n C 2 dX11_addPart_9 rfl rfl ?_
  refine zv_iload_n C 3 dX11_addPart_10 rfl rfl ?_
  refine zv_iload C 4 dX11_addPart_11 rfl ?_
  refine zv_csiD (st := [.ref (ob E 327)]) C (c_X11_isPart hfl E (thW σ 0) ((a : Int)) ((b : Int)) ((d : Int)) (by omega) (by omega) (by omega)) mX11_isPart kX11_400 rfl ⟨rfl, rfl⟩ (show zfit (zrm 1 25) 3 (zrm 4 89) = true from rfl) (Nat.le_of_ble_eq_true rfl) dX11_addPart_13 ⟨Nat.zero_le _, Nat.zero_le _⟩ ?_
  refine zv_if_neB (tgt := 23) C dX11_addPart_16 (by decide) (fun h16 => ?_) (fun h16 => ?_)
  · skip
    refine zv_iconst (v := zI 0) C dX11_addPart_23 rfl ?_
    refine zv_iconst (v := zI 2) C dX11_addPart_24 rfl ?_
    refine zv_cviD (st := []) C (c0_X11_fails hfl E (thW σ 0) 2) mX11_fails kX11_309 (by decide : kd 327 = 10) rfl rfl rfl ⟨rfl, rfl⟩ (show zfit (zrm 0 0) 3 (zrm 4 89) = true from rfl) (Nat.le_of_ble_eq_true rfl) dX11_addPart_25 ⟨Nat.zero_le _, Nat.zero_le _⟩ ?_
    refine zv_if_neZ (tgt := 53) C (by omega) dX11_addPart_28 (by decide) (fun h28 => absurd h28 (by decide)) (fun h28 => ?_)
    refine zv_aload_n C 0 dX11_addPart_31 rfl rfl ?_
    refine zv_aload_n C 0 dX11_addPart_32 rfl rfl ?_
    refine zv_iload_n C 1 dX11_addPart_33 rfl rfl ?_
    refine zv_iload_n C 2 dX11_addPart_34 rfl rfl ?_
    refine zv_cviD (st := [.ref (ob E 327)]) C (c_X11_hasRoom hfl E (thW σ 0) U.nb S i (a : Int) hW hi8 ht hc (by omega)) mX11_hasRoom kX11_201 (by decide : kd 327 = 10) rfl rfl rfl ⟨rfl, rfl⟩ (show zfit (zrm 3 67) 3 (zrm 4 89) = true from rfl) (Nat.le_of_ble_eq_true rfl) dX11_addPart_35 ⟨Nat.zero_le _, Nat.zero_le _⟩ ?_
    refine zv_if_neB (tgt := 45) C dX11_addPart_38 (by decide) (fun h38 => ?_) (fun h38 => ?_)
    · skip
      refine zv_iconst (v := zI 0) C dX11_addPart_45 rfl ?_
      refine zv_iconst (v := zI 3) C dX11_addPart_46 rfl ?_
      refine zv_cviD (st := []) C (c0_X11_fails hfl E (thW σ 0) 3) mX11_fails kX11_309 (by decide : kd 327 = 10) rfl rfl rfl ⟨rfl, rfl⟩ (show zfit (zrm 0 0) 3 (zrm 4 89) = true from rfl) (Nat.le_of_ble_eq_true rfl) dX11_addPart_47 ⟨Nat.zero_le _, Nat.zero_le _⟩ ?_
      refine zv_if_eqZ (tgt := 55) C (by omega) dX11_addPart_50 (by decide) (fun h50 => ?_) (fun h50 => absurd h50 (by decide))
      refine zv_aload_n C 0 dX11_addPart_55 rfl rfl ?_
      refine zv_cvv (st := []) C (c_X11_remembers hfl E (thW σ 0) (zDv.mk ni tx ec eo U S hh kp ou) h0) mX11_remembers kX11_392 (by decide : kd 327 = 10) rfl rfl rfl ⟨rfl, rfl⟩ (show zfit (zrm 1 25) 1 (zrm 4 89) = true from rfl) (Nat.le_of_ble_eq_true rfl) dX11_addPart_56 ⟨Nat.zero_le _, Nat.zero_le _⟩ (fun τ1 hp56 => ?_)
      obtain ⟨hz1, hz2, hz3, hz4⟩ := hp56
      have hW1 : zRo (gI τ1 332) U.nb S := by rw [hz4]; exact hW
      have hB1 : zRb (gI τ1 328) U := hz1.2.2.1
      have ht1 : gI τ1 327 10 = zI 0 := hz2.trans (mK_th σ 0).2
      have hf1 : zFr 327 339 σ τ1 := zFr_trans (zFr_th σ 0) hz3
      refine zv_aload_n C 0 dX11_addPart_59 rfl rfl ?_
      refine zv_iload_n C 1 dX11_addPart_60 rfl rfl ?_
      refine zv_iload_n C 2 dX11_addPart_61 rfl rfl ?_
      refine zv_iload_n C 3 dX11_addPart_62 rfl rfl ?_
      refine zv_iload C 4 dX11_addPart_63 rfl ?_
      refine zv_cvvD (st := []) C (c_X11_addsPart hfl E τ1 U.nb S i (a : Int) (b : Int) (d : Int) hW1 hi8 hroom.1) mX11_addsPart kX11_204 (by decide : kd 327 = 10) rfl rfl rfl ⟨rfl, rfl⟩ (show zfit (zrm 2 42) 6 (zrm 4 89) = true from rfl) (Nat.le_of_ble_eq_true rfl) dX11_addPart_65 ⟨Nat.zero_le _, Nat.zero_le _⟩ ?_
      refine zv_aload_n C 0 dX11_addPart_68 rfl rfl ?_
      refine zv_iload_n C 1 dX11_addPart_69 rfl rfl ?_
      refine zv_cvvD (st := []) C (c_X11_frees hfl E (aPw τ1 i (S.tn i) (a : Int) (b : Int) (d : Int)) i (by omega)) mX11_frees kX11_395 (by decide : kd 327 = 10) rfl rfl rfl ⟨rfl, rfl⟩ (show zfit (zrm 1 21) 2 (zrm 4 89) = true from rfl) (Nat.le_of_ble_eq_true rfl) dX11_addPart_70 ⟨Nat.zero_le _, Nat.zero_le _⟩ ?_
      refine zv_aload_n C 0 dX11_addPart_73 rfl rfl ?_
      refine zv_iload_n C 1 dX11_addPart_74 rfl rfl ?_
      refine zv_cviD (st := []) C (c_X11_parts hfl E (sI (aPw τ1 i (S.tn i) (a : Int) (b : Int) (d : Int)) 332 (19 + 14 * i + 1) (zI 0)) U.nb ((S.apd i a b d).fre i) i (zRo_fre (zRo_apd hW1 hk9 hi8 hroom.1) (zRk_apd hk9 a b d hroom.1) hi8) hi8) mX11_parts kX11_188 (by decide : kd 327 = 10) rfl rfl rfl ⟨rfl, rfl⟩ (show zfit (zrm 1 21) 2 (zrm 4 89) = true from rfl) (Nat.le_of_ble_eq_true rfl) dX11_addPart_75 ⟨Nat.zero_le _, Nat.zero_le _⟩ ?_
      refine zv_eqi (y := (zI ((S.tn i + 1 : Nat) : Int))) (congrArg zI (by show ((if i = i then S.tn i + 1 else S.tn i : Nat) : Int) = _; rw [if_pos rfl])) ?_
      exact zv_iret C hr rfl dX11_addPart_78 ⟨rfl, zMP_x hz1 (zRo_fre (zRo_apd hW1 hk9 hi8 hroom.1) (zRk_apd hk9 a b d hroom.1) hi8) (zRk_apd hk9 a b d hroom.1) (zMx_I (zMx_I (zMx_I (zMx_I (zMx_I (zMx_r _) _ _) _ _) _ _) _ _) _ _), ht1, zFr_I (zFr_I (zFr_I (zFr_I (zFr_I hf1 (by decide)) (by decide)) (by decide)) (by decide)) (by decide)⟩
    · skip
      refine zv_iconst (v := zI 1) C dX11_addPart_41 rfl ?_
      refine zv_goto (tgt := 46) C dX11_addPart_42 (by decide) ?_
      refine zv_iconst (v := zI 3) C dX11_addPart_46 rfl ?_
      exfalso
      omega
  · skip
    refine zv_iconst (v := zI 1) C dX11_addPart_19 rfl ?_
    refine zv_goto (tgt := 24) C dX11_addPart_20 (by decide) ?_
    refine zv_iconst (v := zI 2) C dX11_addPart_24 rfl ?_
    exfalso
    omega
set_option maxRecDepth 20000 in
theorem x1_X11_addPart {l : Launch} (hfl : l.stackTraces = false) (E : zE) (σ : zS) (σc : zS) (U : zSU) (y z w x : Int) (hB : zRb (gI σ 328) U) (hU : zSUp σc 29 U) (hy : -2147483648 ≤ y ∧ y < 2147483648) (hno : ¬ (0 ≤ y ∧ y < U.nb)) : zRi l E yX11_addPart cX11_addPart 5 .int (zrm 2 46) [.ref (ob E 327), .int (zI y), .int (zI z), .int (zI w), .int (zI x)] σ (fun r τ => r = zI 0 ∧ mK σ τ 1) := by
  refine Met.ofW (cc := cX11_addPart) (maxL := 5) (ret := (some .int)) (by decide +kernel) rfl ?_
  intro p e s m args below meth c s₁ B hml hv
  obtain ⟨rfl, hd⟩ := hv
  have C := zX_of (own := RX11) hfl B hml rfl hd rfl
  have hr := B.returns
  refine zV_go hd (Nat.le_of_ble_eq_true rfl) (lv := [(0, .ref (ob E 327)), (1, .int (zI y)), (2, .int (zI z)), (3, .int (zI w)), (4, .int (zI x))]) rfl ?_
  have hnb : U.nb ≤ 8 := hU.2.2.1
  have hs0 := hU.2.2.2.1
  
  refine zv_aload_n C 0 dX11_addPart_0 rfl rfl ?_
  refine zv_iload_n C 1 dX11_addPart_1 rfl rfl ?_
  refine zv_cviD (st := []) C (c1_X11_noBody hfl E σ σc U (y) hB hU (by omega) hno) mX11_noBody kX11_319 (by decide : kd 327 = 10) rfl rfl rfl ⟨rfl, rfl⟩ (show zfit (zrm 1 25) 2 (zrm 2 46) = true from rfl) (Nat.le_of_ble_eq_true rfl) dX11_addPart_2 ⟨Nat.zero_le _, Nat.zero_le _⟩ ?_
  refine zv_if_neZ (tgt := 53) C (by omega) dX11_addPart_5 (by decide) (fun h5 => ?_) (fun h5 => absurd h5 (by decide))
  refine zv_iconst (v := zI 0) C dX11_addPart_53 rfl ?_
  exact zv_iret C hr rfl dX11_addPart_54 ⟨rfl, by first | exact mK_th _ _ | exact mK_th2 _ _ _ | exact mK_C (mK_W (mK_th _ _) _ _) _ | exact mK_W (mK_th _ _) _ _⟩
set_option maxRecDepth 20000 in
theorem x2_X11_addPart {l : Launch} (hfl : l.stackTraces = false) (E : zE) (σ : zS) (σc : zS) (U : zSU) (i : Nat) (y z w : Int) (hB : zRb (gI σ 328) U) (hU : zSUp σc 29 U) (hi : i < U.nb) (hyi : -2147483648 ≤ y ∧ y < 2147483648) (hzi : -2147483648 ≤ z ∧ z < 2147483648) (hwi : -2147483648 ≤ w ∧ w < 2147483648) (hno : ¬ ((0 ≤ y ∧ y ≤ 2) ∧ (8 ≤ z ∧ z ≤ 100) ∧ (y = 2 → w = 0) ∧ (y ≠ 2 → 8 ≤ w ∧ w ≤ 100))) : zRi l E yX11_addPart cX11_addPart 5 .int (zrm 2 47) [.ref (ob E 327), .int (zI (i : Int)), .int (zI y), .int (zI z), .int (zI w)] σ (fun r τ => r = zI 0 ∧ mK σ τ 2) := by
  refine Met.ofW (cc := cX11_addPart) (maxL := 5) (ret := (some .int)) (by decide +kernel) rfl ?_
  intro p e s m args below meth c s₁ B hml hv
  obtain ⟨rfl, hd⟩ := hv
  have C := zX_of (own := RX11) hfl B hml rfl hd rfl
  have hr := B.returns
  refine zV_go hd (Nat.le_of_ble_eq_true rfl) (lv := [(0, .ref (ob E 327)), (1, .int (zI (i : Int))), (2, .int (zI y)), (3, .int (zI z)), (4, .int (zI w))]) rfl ?_
  have hnb : U.nb ≤ 8 := hU.2.2.1
  have hs0 := hU.2.2.2.1
  
  refine zv_aload_n C 0 dX11_addPart_0 rfl rfl ?_
  refine zv_iload_n C 1 dX11_addPart_1 rfl rfl ?_
  refine zv_cviD (st := []) C (c0_X11_noBody hfl E σ σc U ((i : Int)) hB hU (by omega)) mX11_noBody kX11_319 (by decide : kd 327 = 10) rfl rfl rfl ⟨rfl, rfl⟩ (show zfit (zrm 1 25) 2 (zrm 2 47) = true from rfl) (Nat.le_of_ble_eq_true rfl) dX11_addPart_2 ⟨Nat.zero_le _, Nat.zero_le _⟩ ?_
  refine zv_if_neZ (tgt := 53) C (by omega) dX11_addPart_5 (by decide) (fun h5 => absurd h5 (by decide)) (fun h5 => ?_)
  refine zv_aload_n C 0 dX11_addPart_8 rfl rfl ?_
  refine zv_iload_n C 2 dX11_addPart_9 rfl rfl ?_
  refine zv_iload_n C 3 dX11_addPart_10 rfl rfl ?_
  refine zv_iload C 4 dX11_addPart_11 rfl ?_
  refine zv_csiD (st := [.ref (ob E 327)]) C (c_X11_isPart hfl E (thW σ 0) (y) (z) (w) (by omega) (by omega) (by omega)) mX11_isPart kX11_400 rfl ⟨rfl, rfl⟩ (show zfit (zrm 1 25) 3 (zrm 2 47) = true from rfl) (Nat.le_of_ble_eq_true rfl) dX11_addPart_13 ⟨Nat.zero_le _, Nat.zero_le _⟩ ?_
  refine zv_if_neB (tgt := 23) C dX11_addPart_16 (by decide) (fun h16 => ?_) (fun h16 => ?_)
  · skip
    refine zv_iconst (v := zI 0) C dX11_addPart_23 rfl ?_
    refine zv_iconst (v := zI 2) C dX11_addPart_24 rfl ?_
    exfalso
    exact hno h16
  · skip
    refine zv_iconst (v := zI 1) C dX11_addPart_19 rfl ?_
    refine zv_goto (tgt := 24) C dX11_addPart_20 (by decide) ?_
    refine zv_iconst (v := zI 2) C dX11_addPart_24 rfl ?_
    refine zv_cviD (st := []) C (c1_X11_fails hfl E (thW σ 0) 2) mX11_fails kX11_309 (by decide : kd 327 = 10) rfl rfl rfl ⟨rfl, rfl⟩ (show zfit (zrm 0 0) 3 (zrm 2 47) = true from rfl) (Nat.le_of_ble_eq_true rfl) dX11_addPart_25 ⟨Nat.zero_le _, Nat.zero_le _⟩ ?_
    refine zv_if_neZ (tgt := 53) C (by omega) dX11_addPart_28 (by decide) (fun h28 => ?_) (fun h28 => absurd h28 (by decide))
    refine zv_iconst (v := zI 0) C dX11_addPart_53 rfl ?_
    exact zv_iret C hr rfl dX11_addPart_54 ⟨rfl, mK_th2 _ _ _⟩
set_option maxRecDepth 20000 in
theorem x3_X11_addPart {l : Launch} (hfl : l.stackTraces = false) (E : zE) (σ : zS) (σc : zS) (U : zSU) (S : zST) (i a b d : Nat) (hB : zRb (gI σ 328) U) (hU : zSUp σc 29 U) (hW : zRo (gI σ 332) U.nb S) (hS : zSTp σc 34 S) (hi : i < U.nb) (ha : a ≤ 2) (hb : 8 ≤ b ∧ b ≤ 100) (hd1 : a = 2 → d = 0) (hd2 : a ≠ 2 → 8 ≤ d ∧ d ≤ 100) (hno : ¬ (S.tn i < 4 ∧ (a = 2 ∨ tGe (S.tr i) (S.tn i) < 2))) : zRi l E yX11_addPart cX11_addPart 5 .int (zrm 4 89) [.ref (ob E 327), .int (zI (i : Int)), .int (zI (a : Int)), .int (zI (b : Int)), .int (zI (d : Int))] σ (fun r τ => r = zI 0 ∧ mK σ τ 3) := by
  refine Met.ofW (cc := cX11_addPart) (maxL := 5) (ret := (some .int)) (by decide +kernel) rfl ?_
  intro p e s m args below meth c s₁ B hml hv
  obtain ⟨rfl, hd⟩ := hv
  have C := zX_of (own := RX11) hfl B hml rfl hd rfl
  have hr := B.returns
  refine zV_go hd (Nat.le_of_ble_eq_true rfl) (lv := [(0, .ref (ob E 327)), (1, .int (zI (i : Int))), (2, .int (zI (a : Int))), (3, .int (zI (b : Int))), (4, .int (zI (d : Int)))]) rfl ?_
  have hnb : U.nb ≤ 8 := hU.2.2.1
  have hs0 := hU.2.2.2.1
  have hi8 : i < 8 := by omega
  have hTc := hS.2.2.2.2.2.2 i hi8
  have ht := hTc.1.2.1
  have hc : ∀ j w, j < S.tn i → w < 3 → S.tr i j w ≤ 100 := fun j w a b => hTc.1.2.2.2 j w a b
  have hgl := tGe_le (S.tr i) (S.tn i)
  
  refine zv_aload_n C 0 dX11_addPart_0 rfl rfl ?_
  refine zv_iload_n C 1 dX11_addPart_1 rfl rfl ?_
  refine zv_cviD (st := []) C (c0_X11_noBody hfl E σ σc U ((i : Int)) hB hU (by omega)) mX11_noBody kX11_319 (by decide : kd 327 = 10) rfl rfl rfl ⟨rfl, rfl⟩ (show zfit (zrm 1 25) 2 (zrm 4 89) = true from rfl) (Nat.le_of_ble_eq_true rfl) dX11_addPart_2 ⟨Nat.zero_le _, Nat.zero_le _⟩ ?_
  refine zv_if_neZ (tgt := 53) C (by omega) dX11_addPart_5 (by decide) (fun h5 => absurd h5 (by decide)) (fun h5 => ?_)
  refine zv_aload_n C 0 dX11_addPart_8 rfl rfl ?_
  refine zv_iload_n C 2 dX11_addPart_9 rfl rfl ?_
  refine zv_iload_n C 3 dX11_addPart_10 rfl rfl ?_
  refine zv_iload C 4 dX11_addPart_11 rfl ?_
  refine zv_csiD (st := [.ref (ob E 327)]) C (c_X11_isPart hfl E (thW σ 0) ((a : Int)) ((b : Int)) ((d : Int)) (by omega) (by omega) (by omega)) mX11_isPart kX11_400 rfl ⟨rfl, rfl⟩ (show zfit (zrm 1 25) 3 (zrm 4 89) = true from rfl) (Nat.le_of_ble_eq_true rfl) dX11_addPart_13 ⟨Nat.zero_le _, Nat.zero_le _⟩ ?_
  refine zv_if_neB (tgt := 23) C dX11_addPart_16 (by decide) (fun h16 => ?_) (fun h16 => ?_)
  · skip
    refine zv_iconst (v := zI 0) C dX11_addPart_23 rfl ?_
    refine zv_iconst (v := zI 2) C dX11_addPart_24 rfl ?_
    refine zv_cviD (st := []) C (c0_X11_fails hfl E (thW σ 0) 2) mX11_fails kX11_309 (by decide : kd 327 = 10) rfl rfl rfl ⟨rfl, rfl⟩ (show zfit (zrm 0 0) 3 (zrm 4 89) = true from rfl) (Nat.le_of_ble_eq_true rfl) dX11_addPart_25 ⟨Nat.zero_le _, Nat.zero_le _⟩ ?_
    refine zv_if_neZ (tgt := 53) C (by omega) dX11_addPart_28 (by decide) (fun h28 => absurd h28 (by decide)) (fun h28 => ?_)
    refine zv_aload_n C 0 dX11_addPart_31 rfl rfl ?_
    refine zv_aload_n C 0 dX11_addPart_32 rfl rfl ?_
    refine zv_iload_n C 1 dX11_addPart_33 rfl rfl ?_
    refine zv_iload_n C 2 dX11_addPart_34 rfl rfl ?_
    refine zv_cviD (st := [.ref (ob E 327)]) C (c_X11_hasRoom hfl E (thW σ 0) U.nb S i (a : Int) hW hi8 ht hc (by omega)) mX11_hasRoom kX11_201 (by decide : kd 327 = 10) rfl rfl rfl ⟨rfl, rfl⟩ (show zfit (zrm 3 67) 3 (zrm 4 89) = true from rfl) (Nat.le_of_ble_eq_true rfl) dX11_addPart_35 ⟨Nat.zero_le _, Nat.zero_le _⟩ ?_
    refine zv_if_neB (tgt := 45) C dX11_addPart_38 (by decide) (fun h38 => ?_) (fun h38 => ?_)
    · skip
      refine zv_iconst (v := zI 0) C dX11_addPart_45 rfl ?_
      refine zv_iconst (v := zI 3) C dX11_addPart_46 rfl ?_
      exfalso
      omega
    · skip
      refine zv_iconst (v := zI 1) C dX11_addPart_41 rfl ?_
      refine zv_goto (tgt := 46) C dX11_addPart_42 (by decide) ?_
      refine zv_iconst (v := zI 3) C dX11_addPart_46 rfl ?_
      refine zv_cviD (st := []) C (c1_X11_fails hfl E (thW σ 0) 3) mX11_fails kX11_309 (by decide : kd 327 = 10) rfl rfl rfl ⟨rfl, rfl⟩ (show zfit (zrm 0 0) 3 (zrm 4 89) = true from rfl) (Nat.le_of_ble_eq_true rfl) dX11_addPart_47 ⟨Nat.zero_le _, Nat.zero_le _⟩ ?_
      refine zv_if_eqZ (tgt := 55) C (by omega) dX11_addPart_50 (by decide) (fun h50 => absurd h50 (by decide)) (fun h50 => ?_)
      refine zv_iconst (v := zI 0) C dX11_addPart_53 rfl ?_
      exact zv_iret C hr rfl dX11_addPart_54 ⟨rfl, mK_th2 _ _ _⟩
  · skip
    refine zv_iconst (v := zI 1) C dX11_addPart_19 rfl ?_
    refine zv_goto (tgt := 24) C dX11_addPart_20 (by decide) ?_
    refine zv_iconst (v := zI 2) C dX11_addPart_24 rfl ?_
    exfalso
    omega
