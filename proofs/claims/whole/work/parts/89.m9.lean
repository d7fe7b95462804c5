/-! the reference's cells hold the drive -/
def zRk (S : zST) : Prop := S.n ≤ 16 ∧ ∀ j, j < 8 → S.tn j ≤ 4
/-- names, letter by letter -/
def zNm (g : Nat → Int32) (U : zSU) : Prop := ∀ j, j < U.nb → ∃ (tx : Nat → Int) (b m : Nat), (1 ≤ m ∧ m ≤ 8) ∧ (∀ i, i < m → 97 ≤ tx (b + i) ∧ tx (b + i) ≤ 122) ∧ U.nm j = zL (pk tx b m : Int) ∧ ∀ i, i < 8 → g (8 * j + i) = zI (if i < m then tx (b + i) else 0)
def zMh (σ : zS) (nb : Nat) (hh : List zST) : Prop := gI σ 327 8 = zI (hh.length : Int) ∧ hh.length ≤ 12 ∧ ∀ k S, hh[k]? = some S → zRo (fun j => gI σ 335 (131 * (hh.length - 1 - k) + j)) nb S ∧ zRk S
def zMk (σ : zS) (nb : Nat) (kp : Option zST) : Prop := gI σ 327 9 = zB (kp.isSome = true) ∧ ∀ S, kp = some S → zRo (gI σ 334) nb S ∧ zRk S
def zMo (σ : zS) (ou : List Nat) : Prop := gI σ 327 29 = zI (ou.length : Int) ∧ ou.length ≤ 1024 ∧ ∀ i, i < ou.length → gI σ 338 i = zI ((ou.getD i 0 : Nat) : Int)
def zMi (σ : zS) (ni : Nat) (tx : Nat → Int) : Prop := gI σ 327 12 = zI (ni : Int) ∧ ni ≤ 900 ∧ ∀ i, i < ni → gI σ 336 i = zI (tx i % 256)
def zMP (σ : zS) (D : zDv) : Prop := zMi σ D.ni D.tx ∧ (gI σ 327 13 = zI (D.ec : Int) ∧ gI σ 327 14 = zI D.eo) ∧ zRb (gI σ 328) D.U ∧ zNm (gI σ 330) D.U ∧ (zRo (gI σ 332) D.U.nb D.S ∧ zRk D.S) ∧ zMh σ D.U.nb D.hh ∧ zMk σ D.U.nb D.kp ∧ zMo σ D.ou
theorem zRo_cg {g g' : Nat → Int32} {nb : Nat} {S : zST} (h : zRo g nb S) (hk : zRk S) (e : ∀ j, j < 131 → g' j = g j) : zRo g' nb S := by
  obtain ⟨h1, h2, h3, h4, h5⟩ := h
  have hn := hk.1
  refine ⟨(e 0 (by omega)).trans h1, fun q hq => (e _ (by omega)).trans (h2 q hq), (e 17 (by omega)).trans h3, (e 18 (by omega)).trans h4, fun j hj => ?_⟩
  obtain ⟨a1, a2, a3⟩ := h5 j hj
  have ht := hk.2 j hj
  exact ⟨(e _ (by omega)).trans a1, fun hb => (e _ (by omega)).trans (a2 hb), fun p w hp hw => (e _ (by omega)).trans (a3 p w hp hw)⟩
/-- what a row's changes reach -/
def zMx (σ τ : zS) : Prop := ∀ x j, x ≠ 332 → (x = 327 → j ≠ 10 ∧ j ≠ 24) → x ≠ 337 → gI τ x j = gI σ x j
theorem zMx_g {σ τ : zS} (e : zMx σ τ) (x : Nat) (hx : x ≠ 332) (hy : x ≠ 327) (hz : x ≠ 337) : gI τ x = gI σ x := funext fun j => e x j hx (fun z => absurd z hy) hz
theorem zMP_x {σ τ : zS} {D : zDv} {S : zST} (h : zMP σ D) (hW : zRo (gI τ 332) D.U.nb S) (hk : zRk S) (e : zMx σ τ) : zMP τ (D.sS S) := by
  obtain ⟨h1, h2, h3, h4, h5, h6, h7, h8⟩ := h
  have e7 : ∀ j, j ≠ 10 → j ≠ 24 → gI τ 327 j = gI σ 327 j := fun j a b => e 327 j (by decide) (fun _ => ⟨a, b⟩) (by decide)
  refine ⟨⟨(e7 12 (by decide) (by decide)).trans h1.1, h1.2.1, fun i hi => ?_⟩, ⟨(e7 13 (by decide) (by decide)).trans h2.1, (e7 14 (by decide) (by decide)).trans h2.2⟩, ?_, ?_, ⟨hW, hk⟩, ⟨(e7 8 (by decide) (by decide)).trans h6.1, h6.2.1, fun k S' hS => ?_⟩, ⟨(e7 9 (by decide) (by decide)).trans h7.1, fun S' hS => ?_⟩, ⟨(e7 29 (by decide) (by decide)).trans h8.1, h8.2.1, fun i hi => ?_⟩⟩
  · rw [zMx_g e 336 (by decide) (by decide) (by decide)]; exact h1.2.2 i hi
  · rw [zMx_g e 328 (by decide) (by decide) (by decide)]; exact h3
  · rw [zMx_g e 330 (by decide) (by decide) (by decide)]; exact h4
  · rw [zMx_g e 335 (by decide) (by decide) (by decide)]; exact h6.2.2 k S' hS
  · rw [zMx_g e 334 (by decide) (by decide) (by decide)]; exact h7.2 S' hS
  · rw [zMx_g e 338 (by decide) (by decide) (by decide)]; exact h8.2.2 i hi
/-- questions -/
theorem zMP_q {σ τ : zS} {D : zDv} (h : zMP σ D) (e : mS σ τ) : zMP τ D :=
  zMP_x (S := D.S) h (by rw [mS_g e 332 (by decide) (by decide)]; exact h.2.2.2.2.1.1) h.2.2.2.2.1.2 (fun x j _ a b => e.1 x j a b)
/-- a state put down, with room -/
def mRA (σ : zS) (q : Nat) : zS := sI (cpR σ 332 0 335 (131 * q) 131) 327 8 (zI ((q : Int) + 1))
/-- .. without -/
def mRB (σ : zS) : zS := sI (cpR (sI (cpR σ 335 131 335 0 1441) 327 8 (zI 11)) 332 0 335 (131 * 11) 131) 327 8 (zI (11 + 1))
theorem take_k {S T : zST} {hh : List zST} {k : Nat} (h : (hh.take 11)[k]? = some T) : k < 11 ∧ k < hh.length ∧ hh[k]? = some T := by
  rw [List.getElem?_take] at h
  split at h
  · rename_i z
    refine ⟨z, ?_, h⟩
    obtain ⟨q, -⟩ := List.getElem?_eq_some_iff.mp h
    exact q
  · cases h
theorem gI_mRA (σ : zS) (q x j : Nat) : gI (mRA σ q) x j = if x = 327 ∧ j = 8 then zI ((q : Int) + 1) else if x = 335 ∧ 131 * q ≤ j ∧ j < 131 * q + 131 then gI σ 332 (0 + (j - 131 * q)) else gI σ x j := rfl
theorem gI_mRB (σ : zS) (x j : Nat) : gI (mRB σ) x j = if x = 327 ∧ j = 8 then zI (11 + 1) else if x = 335 ∧ 131 * 11 ≤ j ∧ j < 131 * 11 + 131 then gI σ 332 (0 + (j - 131 * 11)) else if x = 327 ∧ j = 8 then zI 11 else if x = 335 ∧ 0 ≤ j ∧ j < 0 + 1441 then gI σ 335 (131 + (j - 0)) else gI σ x j := rfl
theorem zMh_A {σ : zS} {nb : Nat} {hh : List zST} {S : zST} (h : zMh σ nb hh) (hW : zRo (gI σ 332) nb S) (hk : zRk S) (hq : hh.length < 12) : zMh (mRA σ hh.length) nb ((S :: hh).take 12) := by
  obtain ⟨h1, h2, h3⟩ := h
  have hl : ((S :: hh).take 12).length = hh.length + 1 := by
    rw [List.take_succ_cons, List.length_cons, List.length_take]
    omega
  refine ⟨by rw [hl, gI_mRA, if_pos ⟨rfl, rfl⟩]; rfl, by omega, fun k T hT => ?_⟩
  rw [hl]
  rw [List.take_succ_cons] at hT
  cases k with
  | zero =>
    cases hT
    refine ⟨zRo_cg hW hk (fun j hj => ?_), hk⟩
    show gI (mRA σ hh.length) 335 (131 * (hh.length + 1 - 1 - 0) + j) = _
    rw [gI_mRA, if_neg (by omega), if_pos (by omega)]
    congr 1
    omega
  | succ k =>
    obtain ⟨g1, g2, g3⟩ := take_k (S := S) hT
    obtain ⟨a, b⟩ := h3 k T g3
    refine ⟨zRo_cg a b (fun j hj => ?_), b⟩
    show gI (mRA σ hh.length) 335 (131 * (hh.length + 1 - 1 - (k + 1)) + j) = gI σ 335 (131 * (hh.length - 1 - k) + j)
    rw [gI_mRA, if_neg (by omega), if_neg (by omega)]
    congr 1
    omega
theorem zMh_B {σ : zS} {nb : Nat} {hh : List zST} {S : zST} (h : zMh σ nb hh) (hW : zRo (gI σ 332) nb S) (hk : zRk S) (hq : hh.length = 12) : zMh (mRB σ) nb ((S :: hh).take 12) := by
  obtain ⟨h1, h2, h3⟩ := h
  have hl : ((S :: hh).take 12).length = 12 := by
    rw [List.take_succ_cons, List.length_cons, List.length_take]
    omega
  refine ⟨by rw [hl, gI_mRB, if_pos ⟨rfl, rfl⟩]; rfl, by omega, fun k T hT => ?_⟩
  rw [hl]
  rw [List.take_succ_cons] at hT
  cases k with
  | zero =>
    cases hT
    refine ⟨zRo_cg hW hk (fun j hj => ?_), hk⟩
    show gI (mRB σ) 335 (131 * (12 - 1 - 0) + j) = _
    rw [gI_mRB, if_neg (by omega), if_pos (by omega)]
    exact congrArg (gI σ 332) (by omega)
  | succ k =>
    obtain ⟨g1, g2, g3⟩ := take_k (S := S) hT
    obtain ⟨a, b⟩ := h3 k T g3
    refine ⟨zRo_cg a b (fun j hj => ?_), b⟩
    show gI (mRB σ) 335 (131 * (12 - 1 - (k + 1)) + j) = gI σ 335 (131 * (hh.length - 1 - k) + j)
    rw [gI_mRB, if_neg (by omega), if_neg (by omega), if_neg (by omega), if_pos (by omega)]
    exact congrArg (gI σ 335) (by omega)
/-- what is kept when the past alone changes -/
theorem zMP_h {σ τ : zS} {D : zDv} {hh : List zST} (h : zMP σ D) (hh' : zMh τ D.U.nb hh) (e : ∀ x j, x ≠ 335 → ¬ (x = 327 ∧ j = 8) → gI τ x j = gI σ x j) : zMP τ (D.sH hh) := by
  obtain ⟨h1, h2, h3, h4, h5, h6, h7, h8⟩ := h
  have e7 : ∀ j, j ≠ 8 → gI τ 327 j = gI σ 327 j := fun j a => e 327 j (by decide) (fun z => a z.2)
  have eg : ∀ x, x ≠ 335 → x ≠ 327 → gI τ x = gI σ x := fun x a b => funext fun j => e x j a (fun z => b z.1)
  refine ⟨⟨(e7 12 (by decide)).trans h1.1, h1.2.1, fun i hi => ?_⟩, ⟨(e7 13 (by decide)).trans h2.1, (e7 14 (by decide)).trans h2.2⟩, ?_, ?_, ⟨?_, h5.2⟩, hh', ⟨(e7 9 (by decide)).trans h7.1, fun S' hS => ?_⟩, ⟨(e7 29 (by decide)).trans h8.1, h8.2.1, fun i hi => ?_⟩⟩
  · rw [eg 336 (by decide) (by decide)]; exact h1.2.2 i hi
  · rw [eg 328 (by decide) (by decide)]; exact h3
  · rw [eg 330 (by decide) (by decide)]; exact h4
  · rw [eg 332 (by decide) (by decide)]; exact h5.1
  · rw [eg 334 (by decide) (by decide)]; exact h7.2 S' hS
  · rw [eg 338 (by decide) (by decide)]; exact h8.2.2 i hi
def mRp (σ τ : zS) (D : zDv) : Prop := zMP τ D.re ∧ gI τ 327 10 = gI σ 327 10 ∧ zFr 327 339 σ τ ∧ gI τ 332 = gI σ 332
theorem mRp_A {σ : zS} {D : zDv} (h : zMP σ D) (hq : D.hh.length < 12) : mRp σ (mRA σ D.hh.length) D := by
  refine ⟨zMP_h h (zMh_A h.2.2.2.2.2.1 h.2.2.2.2.1.1 h.2.2.2.2.1.2 hq) (fun x j a b => ?_), ?_, ⟨fun x j a => ?_, fun _ _ _ => rfl, fun _ _ => rfl⟩, funext fun j => ?_⟩
  · rw [gI_mRA, if_neg b, if_neg (by omega)]
  · rw [gI_mRA, if_neg (by omega), if_neg (by omega)]
  · rw [gI_mRA, if_neg (by omega), if_neg (by omega)]
  · rw [gI_mRA, if_neg (by omega), if_neg (by omega)]
theorem mRp_B {σ : zS} {D : zDv} (h : zMP σ D) (hq : D.hh.length = 12) : mRp σ (mRB σ) D := by
  refine ⟨zMP_h h (zMh_B h.2.2.2.2.2.1 h.2.2.2.2.1.1 h.2.2.2.2.1.2 hq) (fun x j a b => ?_), ?_, ⟨fun x j a => ?_, fun _ _ _ => rfl, fun _ _ => rfl⟩, funext fun j => ?_⟩
  · rw [gI_mRB, if_neg b, if_neg (by omega), if_neg b, if_neg (by omega)]
  · rw [gI_mRB, if_neg (by omega), if_neg (by omega), if_neg (by omega), if_neg (by omega)]
  · rw [gI_mRB, if_neg (by omega), if_neg (by omega), if_neg (by omega), if_neg (by omega)]
  · rw [gI_mRB, if_neg (by omega), if_neg (by omega), if_neg (by omega), if_neg (by omega)]
set_option maxRecDepth 20000 in
theorem c_X11_remembers {l : Launch} (hfl : l.stackTraces = false) (E : zE) (σ : zS) (D : zDv) (h : zMP σ D) : zRv l E yX11_remembers cX11_remembers 1 (zrm 1 25) [.ref (ob E 327)] σ (fun τ => mRp σ τ D) := by
  refine Met.ofW (cc := cX11_remembers) (maxL := 1) (ret := none) (by decide +kernel) rfl ?_
  intro p e s m args below meth c s₁ B hml hv
  obtain ⟨rfl, hd⟩ := hv
  have C := zX_of (own := RX11) hfl B hml rfl hd rfl
  have hr := B.returns
  refine zV_go hd (Nat.le_of_ble_eq_true rfl) (lv := [(0, .ref (ob E 327))]) rfl ?_
  have hq := h.2.2.2.2.2.1.1
  have hq2 := h.2.2.2.2.2.1.2.1
  obtain ⟨q, hqq⟩ : ∃ q : Nat, q = D.hh.length := ⟨_, rfl⟩
  rw [← hqq] at hq hq2
  refine zv_aload_n C 0 dX11_remembers_0 rfl rfl ?_
  refine zG10_8 C (by decide : kd 327 = _) kX11_57 dX11_remembers_1 ?_
  refine zv_eqi (y := (zI (q : Int))) (hq) ?_
  refine zv_bipush (v := zI 12) C dX11_remembers_4 (by decide) ?_
  refine zv_icmp_neZ (tgt := 37) C (by omega) (by omega) dX11_remembers_6 (by decide) (fun h6 => ?_) (fun h6 => ?_)
  · skip
    refine zv_aload_n C 0 dX11_remembers_37 rfl rfl ?_
    refine zG10_4 C (by decide : kd 327 = _) kX11_22 dX11_remembers_38 ?_
    refine zv_iconst (v := zI 0) C dX11_remembers_41 rfl ?_
    refine zv_aload_n C 0 dX11_remembers_42 rfl rfl ?_
    refine zG10_7 C (by decide : kd 327 = _) kX11_31 dX11_remembers_43 ?_
    refine zv_sipush (v := zI 131) C dX11_remembers_46 (by decide) ?_
    refine zv_aload_n C 0 dX11_remembers_49 rfl rfl ?_
    refine zG10_8 C (by decide : kd 327 = _) kX11_57 dX11_remembers_50 ?_
    refine zv_eqi (y := (zI (q : Int))) (hq) ?_
    refine zv_imulZ C dX11_remembers_53 ?_
    refine zv_eqi (y := (zI ((131 * q : Nat) : Int))) (congrArg zI (by omega)) ?_
    refine zv_sipush (v := zI 131) C dX11_remembers_54 (by decide) ?_
    refine zv_csvD (st := []) C (c_X11_copies hfl E σ 332 335 0 (131 * q) 131 (by decide) (by decide) (by decide) (Nat.le_trans (show 131 * q + 131 ≤ 1572 by omega) (by decide)) (Or.inl (by decide)) (by omega) (by omega) (by omega)) mX11_copies kX11_60 rfl ⟨rfl, rfl⟩ (show zfit (zrm 0 0) 6 (zrm 1 25) = true from rfl) (Nat.le_of_ble_eq_true rfl) dX11_remembers_57 ⟨Nat.zero_le _, Nat.zero_le _⟩ ?_
    refine zv_aload_n C 0 dX11_remembers_60 rfl rfl ?_
    refine zv_dup C dX11_remembers_61 rfl ?_
    refine zG10_8 C (by decide : kd 327 = _) kX11_57 dX11_remembers_62 ?_
    refine zv_eqi (y := (zI (q : Int))) (hq) ?_
    refine zv_iconst (v := zI 1) C dX11_remembers_65 rfl ?_
    refine zv_iaddZ C dX11_remembers_66 ?_
    refine zP10_8 C (by decide : kd 327 = _) kX11_57 dX11_remembers_67 ?_
    exact zv_vret C hr dX11_remembers_70 (by show mRp σ (mRA σ q) D; rw [hqq]; exact mRp_A h (by omega))
  · skip
    refine zv_aload_n C 0 dX11_remembers_9 rfl rfl ?_
    refine zG10_7 C (by decide : kd 327 = _) kX11_31 dX11_remembers_10 ?_
    refine zv_sipush (v := zI 131) C dX11_remembers_13 (by decide) ?_
    refine zv_aload_n C 0 dX11_remembers_16 rfl rfl ?_
    refine zG10_7 C (by decide : kd 327 = _) kX11_31 dX11_remembers_17 ?_
    refine zv_iconst (v := zI 0) C dX11_remembers_20 rfl ?_
    refine zv_sipush (v := zI 1441) C dX11_remembers_21 (by decide) ?_
    refine zv_csvD (st := []) C (c_X11_copies hfl E σ 335 335 131 (0) 1441 (by decide) (by decide) (by decide) (by decide) (Or.inr (by decide)) (by omega) (by omega) (by omega)) mX11_copies kX11_60 rfl ⟨rfl, rfl⟩ (show zfit (zrm 0 0) 6 (zrm 1 25) = true from rfl) (Nat.le_of_ble_eq_true rfl) dX11_remembers_24 ⟨Nat.zero_le _, Nat.zero_le _⟩ ?_
    refine zv_aload_n C 0 dX11_remembers_27 rfl rfl ?_
    refine zv_dup C dX11_remembers_28 rfl ?_
    refine zG10_8 C (by decide : kd 327 = _) kX11_57 dX11_remembers_29 ?_
    refine zv_eqi (y := (zI (q : Int))) (hq) ?_
    refine zv_iconst (v := zI 1) C dX11_remembers_32 rfl ?_
    refine zv_isubZ C dX11_remembers_33 ?_
    refine zP10_8 C (by decide : kd 327 = _) kX11_57 dX11_remembers_34 ?_
    refine zv_eqS (τ := (sI (cpR σ 335 131 335 0 1441) 327 8 (zI 11))) (by rw [show (q : Int) - 1 = 11 by omega]) ?_
    refine zv_aload_n C 0 dX11_remembers_37 rfl rfl ?_
    refine zG10_4 C (by decide : kd 327 = _) kX11_22 dX11_remembers_38 ?_
    refine zv_iconst (v := zI 0) C dX11_remembers_41 rfl ?_
    refine zv_aload_n C 0 dX11_remembers_42 rfl rfl ?_
    refine zG10_7 C (by decide : kd 327 = _) kX11_31 dX11_remembers_43 ?_
    refine zv_sipush (v := zI 131) C dX11_remembers_46 (by decide) ?_
    refine zv_aload_n C 0 dX11_remembers_49 rfl rfl ?_
    refine zG10_8 C (by decide : kd 327 = _) kX11_57 dX11_remembers_50 ?_
    refine zv_eqi (y := (zI 11)) (rfl) ?_
    refine zv_imulZ C dX11_remembers_53 ?_
    refine zv_eqi (y := (zI ((131 * 11 : Nat) : Int))) (rfl) ?_
    refine zv_sipush (v := zI 131) C dX11_remembers_54 (by decide) ?_
    refine zv_csvD (st := []) C (c_X11_copies hfl E (sI (cpR σ 335 131 335 0 1441) 327 8 (zI 11)) 332 335 0 (131 * 11) 131 (by decide) (by decide) (by decide) (Nat.le_trans (show 131 * 11 + 131 ≤ 1572 by omega) (by decide)) (Or.inl (by decide)) (by omega) (by omega) (by omega)) mX11_copies kX11_60 rfl ⟨rfl, rfl⟩ (show zfit (zrm 0 0) 6 (zrm 1 25) = true from rfl) (Nat.le_of_ble_eq_true rfl) dX11_remembers_57 ⟨Nat.zero_le _, Nat.zero_le _⟩ ?_
    refine zv_aload_n C 0 dX11_remembers_60 rfl rfl ?_
    refine zv_dup C dX11_remembers_61 rfl ?_
    refine zG10_8 C (by decide : kd 327 = _) kX11_57 dX11_remembers_62 ?_
    refine zv_eqi (y := (zI 11)) (rfl) ?_
    refine zv_iconst (v := zI 1) C dX11_remembers_65 rfl ?_
    refine zv_iaddZ C dX11_remembers_66 ?_
    refine zP10_8 C (by decide : kd 327 = _) kX11_57 dX11_remembers_67 ?_
    exact zv_vret C hr dX11_remembers_70 (mRp_B h (by omega))
