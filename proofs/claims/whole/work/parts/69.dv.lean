/-! the whole drive: input, error, setup, state, what can be undone (the newest first), what is saved, output -/
def zDv : Type := (Nat × (Nat → Int)) × (Nat × Int) × zSU × zST × List zST × Option zST × List Nat
def zDv.mk (ni : Nat) (tx : Nat → Int) (ec : Nat) (eo : Int) (U : zSU) (S : zST) (hh : List zST) (kp : Option zST) (ou : List Nat) : zDv := ((ni, tx), (ec, eo), U, S, hh, kp, ou)
def zDv.ni (z : zDv) : Nat := z.1.1
def zDv.tx (z : zDv) : Nat → Int := z.1.2
def zDv.ec (z : zDv) : Nat := z.2.1.1
def zDv.eo (z : zDv) : Int := z.2.1.2
def zDv.U (z : zDv) : zSU := z.2.2.1
def zDv.S (z : zDv) : zST := z.2.2.2.1
def zDv.hh (z : zDv) : List zST := z.2.2.2.2.1
def zDv.kp (z : zDv) : Option zST := z.2.2.2.2.2.1
def zDv.ou (z : zDv) : List Nat := z.2.2.2.2.2.2
def zDv.sS (z : zDv) (S : zST) : zDv := zDv.mk z.ni z.tx z.ec z.eo z.U S z.hh z.kp z.ou
def zDv.sO (z : zDv) (ou : List Nat) : zDv := zDv.mk z.ni z.tx z.ec z.eo z.U z.S z.hh z.kp ou
def zDv.sH (z : zDv) (hh : List zST) : zDv := zDv.mk z.ni z.tx z.ec z.eo z.U z.S hh z.kp z.ou
def zDv.sK (z : zDv) (kp : Option zST) : zDv := zDv.mk z.ni z.tx z.ec z.eo z.U z.S z.hh kp z.ou
def zDv.sT (z : zDv) (ni : Nat) (tx : Nat → Int) : zDv := zDv.mk ni tx z.ec z.eo z.U z.S z.hh z.kp z.ou
/-- the state put down for an undo -/
def zDv.re (z : zDv) : zDv := z.sH ((z.S :: z.hh).take 12)
def zHi (σ : zS) (hh : List zST) : Prop := ∃ q : Nat, q < 12 ∧ gI σ 54 1 = zI (q : Int) ∧ gI σ 54 2 = zI (hh.length : Int) ∧ hh.length ≤ 12 ∧ ∀ i S, hh[i]? = some S → zSTp σ (76 + 20 * ((q + 12 - i) % 12)) S ∧ zSTq S
def zKq (σ : zS) (kp : Option zST) : Prop := gI σ 54 4 = zB (kp.isSome = true) ∧ ∀ S, kp = some S → zSTp σ 56 S ∧ zSTq S
def zOu (σ : zS) (ou : List Nat) : Prop := gI σ 316 1 = zI (ou.length : Int) ∧ ou.length ≤ 1024 ∧ ∀ i, i < ou.length → gI σ 317 i = zI ((ou.getD i 0 : Nat) : Int)
/-- the class's cells hold the drive -/
def zCP (σ : zS) (D : zDv) : Prop := zTx σ D.tx D.ni ∧ (gI σ 1 3 = zI (D.ec : Int) ∧ gI σ 1 4 = zI D.eo) ∧ zSUp σ 29 D.U ∧ (zSTp σ 34 D.S ∧ zSTq D.S) ∧ zHi σ D.hh ∧ zKq σ D.kp ∧ zOu σ D.ou
theorem zHi_w {σ τ : zS} {hh : List zST} (h : zHi σ hh) (e : ∀ x y, 54 ≤ x → x < 316 → gI τ x y = gI σ x y) : zHi τ hh := by
  obtain ⟨q, h1, h2, h3, h4, h5⟩ := h
  refine ⟨q, h1, (e 54 1 (by omega) (by omega)).trans h2, (e 54 2 (by omega) (by omega)).trans h3, h4, fun i S hi => ?_⟩
  obtain ⟨a, b⟩ := h5 i S hi
  have := Nat.mod_lt (q + 12 - i) (show 0 < 12 by decide)
  exact ⟨zSTp_w a (fun x y g1 g2 => e x y (by omega) (by omega)), b⟩
theorem zKq_w {σ τ : zS} {kp : Option zST} (h : zKq σ kp) (e : ∀ x y, 54 ≤ x → x < 76 → gI τ x y = gI σ x y) : zKq τ kp := by
  obtain ⟨h1, h2⟩ := h
  refine ⟨(e 54 4 (by omega) (by omega)).trans h1, fun S hk => ?_⟩
  obtain ⟨a, b⟩ := h2 S hk
  exact ⟨zSTp_w a (fun x y g1 g2 => e x y (by omega) (by omega)), b⟩
theorem zOu_w {σ τ : zS} {ou : List Nat} (h : zOu σ ou) (e : ∀ x y, 316 ≤ x → x < 318 → gI τ x y = gI σ x y) : zOu τ ou := by
  obtain ⟨h1, h2, h3⟩ := h
  exact ⟨(e 316 1 (by omega) (by omega)).trans h1, h2, fun i hi => (e 317 i (by omega) (by omega)).trans (h3 i hi)⟩
/-- questions touch the scratch cells alone -/
theorem zCP_w {σ τ : zS} {D : zDv} (h : zCP σ D) (e : ∀ x y, x < 318 → gI τ x y = gI σ x y ∧ gJ τ x y = gJ σ x y) : zCP τ D := by
  obtain ⟨h1, h2, h3, h4, h5, h6, h7⟩ := h
  exact ⟨zTx_w h1 (e 2 1 (by omega)).1 (fun i => (e 3 i (by omega)).1), ⟨(e 1 3 (by omega)).1.trans h2.1, (e 1 4 (by omega)).1.trans h2.2⟩, zSUp_w h3 (fun x y a b => e x y (by omega)),
    ⟨zSTp_w h4.1 (fun x y a b => (e x y (by omega)).1), h4.2⟩, zHi_w h5 (fun x y a b => (e x y (by omega)).1), zKq_w h6 (fun x y a b => (e x y (by omega)).1), zOu_w h7 (fun x y a b => (e x y (by omega)).1)⟩
theorem zCP_f {σ τ : zS} {D : zDv} (h : zCP σ D) (e : zFr 318 327 σ τ) : zCP τ D := zCP_w h (fun x y hx => ⟨e.1 x y (by omega), e.2.1 x y (by omega)⟩)
/-- a change of the state alone -/
theorem zCP_S {σ τ : zS} {D : zDv} {S : zST} (h : zCP σ D) (hS : zSTp τ 34 S) (hq : zSTq S) (e : ∀ x y, x < 34 ∨ 54 ≤ x → x < 318 → gI τ x y = gI σ x y ∧ gJ τ x y = gJ σ x y) : zCP τ (D.sS S) := by
  obtain ⟨h1, h2, h3, h4, h5, h6, h7⟩ := h
  exact ⟨zTx_w h1 (e 2 1 (by omega) (by omega)).1 (fun i => (e 3 i (by omega) (by omega)).1), ⟨(e 1 3 (by omega) (by omega)).1.trans h2.1, (e 1 4 (by omega) (by omega)).1.trans h2.2⟩, zSUp_w h3 (fun x y a b => e x y (by omega) (by omega)),
    ⟨hS, hq⟩, zHi_w h5 (fun x y a b => (e x y (by omega) (by omega)).1), zKq_w h6 (fun x y a b => (e x y (by omega) (by omega)).1), zOu_w h7 (fun x y a b => (e x y (by omega) (by omega)).1)⟩
theorem stF_r (r j : Nat) (h : (r = 0 ∧ (j = 1 ∨ j = 2 ∨ j = 3)) ∨ (r = 1 ∧ j < 16) ∨ (r = 2 ∧ j < 8)) : stF r j = true := by
  rcases h with ⟨rfl, h⟩ | ⟨rfl, h⟩ | ⟨rfl, h⟩
  · rcases h with rfl | rfl | rfl <;> rfl
  · simp [stF, h]
  · simp [stF, h]
/-- a State's copy holds the same state -/
theorem zSTp_cp {σ : zS} {a b : Nat} {S : zST} (h : zSTp σ b S) (hab : a + 20 ≤ b ∨ b + 20 ≤ a) : zSTp (cpS σ a b 20) a S := by
  have e : ∀ r j, r < 20 → stF r j = true → gI (cpS σ a b 20) (a + r) j = gI σ (b + r) j := by
    intro r j hr hj
    rw [gI_cpS, Nat.add_sub_cancel_left, if_pos ⟨by omega, by omega, hj⟩]
  obtain ⟨⟨s1, s2, s3, s4⟩, h2, h3, h4, h5, h6, h7⟩ := h
  refine ⟨⟨(e 0 1 (by omega) rfl).trans s1, s2, fun i hi => (e 1 i (by omega) (stF_r _ _ (by omega))).trans (s3 i hi), s4⟩, h2, h3, ⟨(e 0 2 (by omega) rfl).trans h4.1, h4.2⟩, (e 0 3 (by omega) rfl).trans h5, fun i hi => (e 2 i (by omega) (stF_r _ _ (by omega))).trans (h6 i hi), fun j hj => ⟨?_, (h7 j hj).2⟩⟩
  obtain ⟨⟨t1, t2, t3, t4⟩, -⟩ := h7 j hj
  refine ⟨?_, t2, fun i w hi hw => ?_, t4⟩
  · have := e (4 + 2 * j) 1 (by omega) (by rw [stF_e]; rfl)
    rw [Nat.add_assoc, this, ← Nat.add_assoc]
    exact t1
  · have := e (5 + 2 * j) (3 * i + w) (by omega) (by rw [stF_o]; exact decide_eq_true (by omega))
    rw [show a + 4 + 2 * j + 1 = a + (5 + 2 * j) by omega, this, show b + (5 + 2 * j) = b + 4 + 2 * j + 1 by omega]
    exact t3 i w hi hw
theorem gI_cpS_o (σ : zS) (a b m x j : Nat) (h : x < a ∨ a + m ≤ x) : gI (cpS σ a b m) x j = gI σ x j := by rw [gI_cpS, if_neg (by omega)]
/-- the history behind a remembering -/
theorem gI_hRem (σ : zS) (n q x j : Nat) (h : x < 54 ∨ (54 < x ∧ x < 76) ∨ 316 ≤ x ∨ (x = 54 ∧ 3 ≤ j)) : gI (hRem σ 34 n q) x j = gI σ x j := by
  have := Nat.mod_lt (n + 1) (show 0 < 12 by decide)
  unfold hRem
  rw [gI_sI, if_neg (by omega), gI_cpS_o _ _ _ _ _ _ (by omega), gI_sI, if_neg (by omega)]
theorem zHi_re {σ : zS} {hh : List zST} {S : zST} {n : Nat} (hn : n < 12) (hS : zSTp σ 34 S) (hq : zSTq S) (h4 : hh.length ≤ 12) (h5 : ∀ i S, hh[i]? = some S → zSTp σ (76 + 20 * ((n + 12 - i) % 12)) S ∧ zSTq S) : zHi (hRem σ 34 n hh.length) ((S :: hh).take 12) := by
  have hm := Nat.mod_lt (n + 1) (show 0 < 12 by decide)
  refine ⟨(n + 1) % 12, hm, ?_, ?_, ?_, fun i S' hi => ?_⟩
  · unfold hRem
    rw [gI_sI, if_neg (by omega), gI_cpS_o _ _ _ _ _ _ (by omega), gI_sI, if_pos ⟨rfl, rfl⟩]
  · unfold hRem
    rw [gI_sI, if_pos ⟨rfl, rfl⟩, List.length_take, List.length_cons]
    congr 2
    omega
  · rw [List.length_take, List.length_cons]; omega
  · rw [List.getElem?_take] at hi
    split at hi
    · rename_i hi12
      cases i with
      | zero =>
        rw [List.getElem?_cons_zero] at hi
        cases hi
        refine ⟨?_, hq⟩
        rw [show ((n + 1) % 12 + 12 - 0) % 12 = (n + 1) % 12 by omega]
        have h1 : zSTp (cpS (sI σ 54 1 (zI (((n + 1) % 12 : Nat) : Int))) (76 + 20 * ((n + 1) % 12)) 34 20) (76 + 20 * ((n + 1) % 12)) S :=
          zSTp_cp (zSTp_w hS (fun x y a b => by rw [gI_sI, if_neg (by omega)])) (by omega)
        exact zSTp_w h1 (fun x y a b => by unfold hRem; rw [gI_sI, if_neg (by omega)])
      | succ i =>
        rw [List.getElem?_cons_succ] at hi
        obtain ⟨a, b⟩ := h5 i S' hi
        refine ⟨?_, b⟩
        rw [show ((n + 1) % 12 + 12 - (i + 1)) % 12 = (n + 12 - i) % 12 by omega]
        have hne : (n + 12 - i) % 12 ≠ (n + 1) % 12 := by omega
        have hm2 := Nat.mod_lt (n + 12 - i) (show 0 < 12 by decide)
        refine zSTp_w a (fun x y g1 g2 => ?_)
        unfold hRem
        rw [gI_sI, if_neg (by omega), gI_cpS_o _ _ _ _ _ _ (by omega), gI_sI, if_neg (by omega)]
    · cases hi
theorem zCP_re {σ : zS} {D : zDv} {n : Nat} (h : zCP σ D) (hn : n < 12) (h1 : gI σ 54 1 = zI (n : Int)) (h4 : D.hh.length ≤ 12) (h5 : ∀ i S, D.hh[i]? = some S → zSTp σ (76 + 20 * ((n + 12 - i) % 12)) S ∧ zSTq S) : zCP (hRem σ 34 n D.hh.length) D.re := by
  obtain ⟨a1, a2, a3, a4, a5, a6, a7⟩ := h
  have e : ∀ x j, x < 54 ∨ (54 < x ∧ x < 76) ∨ 316 ≤ x ∨ (x = 54 ∧ 3 ≤ j) → gI (hRem σ 34 n D.hh.length) x j = gI σ x j := fun x j => gI_hRem σ n _ x j
  exact ⟨zTx_w a1 (e 2 1 (by omega)) (fun i => e 3 i (by omega)), ⟨(e 1 3 (by omega)).trans a2.1, (e 1 4 (by omega)).trans a2.2⟩, zSUp_w a3 (fun x y a b => ⟨e x y (by omega), rfl⟩), ⟨zSTp_w a4.1 (fun x y a b => e x y (by omega)), a4.2⟩,
    zHi_re hn a4.1 a4.2 h4 h5, ⟨(e 54 4 (by omega)).trans a6.1, fun S hk => ⟨zSTp_w (a6.2 S hk).1 (fun x y a b => e x y (by omega)), (a6.2 S hk).2⟩⟩, zOu_w a7 (fun x y a b => e x y (by omega))⟩
theorem zFr_hRem (σ : zS) (n q : Nat) : zFr 34 327 σ (hRem σ 34 n q) := ⟨fun x y h => gI_hRem σ n q x y (by omega), fun _ _ _ => rfl, fun _ _ => rfl⟩
/-! a train exchanged; a lag set to 0 -/
def zST.sT (S : zST) (i n : Nat) (c : Nat → Nat → Nat) : zST := zST.mk S.n S.f S.sl S.dy S.lg (fun j => if j = i then n else S.tn j) (fun j => if j = i then c else S.tr j)
def zST.fre (S : zST) (i : Nat) : zST := zST.mk S.n S.f S.sl S.dy (fun j => if j = i then 0 else S.lg j) S.tn S.tr
theorem zSTp_sT {σ τ : zS} {k : Nat} {S : zST} {i n : Nat} {c : Nat → Nat → Nat} (h : zSTp σ k S) (hT : zTr τ (k + 4 + 2 * i) n c) (hw : zTw n c)
    (e : ∀ x y, k ≤ x → x < k + 20 → x ≠ k + 4 + 2 * i → x ≠ k + 5 + 2 * i → gI τ x y = gI σ x y) : zSTp τ k (S.sT i n c) := by
  obtain ⟨h1, h2, h3, h4, h5, h6, h7⟩ := h
  refine ⟨zStk_w h1 (fun x y a b => e x y (by omega) (by omega) (by omega) (by omega)), h2, h3, ⟨(e k 2 (by omega) (by omega) (by omega) (by omega)).trans h4.1, h4.2⟩, (e k 3 (by omega) (by omega) (by omega) (by omega)).trans h5, fun j hj => (e (k + 2) j (by omega) (by omega) (by omega) (by omega)).trans (h6 j hj), fun j hj => ?_⟩
  show zTr τ (k + 4 + 2 * j) (if j = i then n else S.tn j) (if j = i then c else S.tr j) ∧ zTw (if j = i then n else S.tn j) (if j = i then c else S.tr j)
  by_cases q : j = i
  · subst q; rw [if_pos rfl, if_pos rfl]; exact ⟨hT, hw⟩
  · rw [if_neg q, if_neg q]
    exact ⟨zTr_w (h7 j hj).1 (fun x y a b => e x y (by omega) (by omega) (by omega) (by omega)), (h7 j hj).2⟩
theorem zSTp_fre {σ : zS} {k : Nat} {S : zST} {i : Nat} (h : zSTp σ k S) : zSTp (sI σ (k + 2) i (zI 0)) k (S.fre i) := by
  have e : ∀ x y, x ≠ k + 2 → gI (sI σ (k + 2) i (zI 0)) x y = gI σ x y := fun x y q => by rw [gI_sI, if_neg (by omega)]
  obtain ⟨h1, h2, h3, h4, h5, h6, h7⟩ := h
  refine ⟨zStk_w h1 (fun x y a b => e x y (by omega)), h2, h3, ⟨(e k 2 (by omega)).trans h4.1, h4.2⟩, (e k 3 (by omega)).trans h5, fun j hj => ?_, fun j hj => ⟨zTr_w (h7 j hj).1 (fun x y a b => e x y (by omega)), (h7 j hj).2⟩⟩
  show gI (sI σ (k + 2) i (zI 0)) (k + 2) j = zI (if j = i then 0 else S.lg j)
  rw [gI_sI]
  by_cases q : j = i
  · subst q; rw [if_pos ⟨rfl, rfl⟩, if_pos rfl]
  · rw [if_neg (by omega), if_neg q]; exact h6 j hj
theorem zSTq_fre {S : zST} (h : zSTq S) (i : Nat) : zSTq (S.fre i) := by
  refine ⟨h.1, fun j hj => ?_⟩
  show 0 ≤ (if j = i then (0 : Int) else S.lg j) ∧ (if j = i then (0 : Int) else S.lg j) ≤ 10000000
  split
  · omega
  · exact h.2 j hj
theorem zSTq_e {S S' : zST} (h : zSTq S) (h1 : S'.dy = S.dy) (h2 : S'.lg = S.lg) : zSTq S' := ⟨by rw [h1]; exact h.1, by rw [h2]; exact h.2⟩
theorem tGe_s_le (c : Nat → Nat → Nat) (n : Nat) : tGe c n ≤ tGe c (n + 1) := by
  simp only [tGe]; omega
theorem zTw_pop {n : Nat} {c : Nat → Nat → Nat} (h : zTw (n + 1) c) : zTw n c := ⟨by have := h.1; omega, Nat.le_trans (tGe_s_le c n) h.2.1, fun i hi => h.2.2 i (by omega)⟩
theorem zTr_pop {σ : zS} {k n : Nat} {c : Nat → Nat → Nat} (h : zTr σ k (n + 1) c) : zTr (sI σ k 1 (zI (n : Int))) k n c :=
  ⟨by rw [gI_sI, if_pos ⟨rfl, rfl⟩], by have := h.2.1; omega, fun i w hi hw => by rw [gI_sI, if_neg (by omega)]; exact h.2.2.1 i w (by omega) hw, fun i w hi hw => h.2.2.2 i w (by omega) hw⟩
theorem zFr_I {lo hi : Nat} {σ τ : zS} {k j : Nat} {v : Int32} (h : zFr lo hi σ τ) (hk : lo ≤ k ∧ k < hi) : zFr lo hi σ (sI τ k j v) :=
  ⟨fun x y q => by rw [gI_sI, if_neg (by omega)]; exact h.1 x y q, fun x y q => h.2.1 x y q, h.2.2⟩
theorem zFr_J {lo hi : Nat} {σ τ : zS} {k j : Nat} {v : Int64} (h : zFr lo hi σ τ) (hk : lo ≤ k ∧ k < hi) : zFr lo hi σ (sJ τ k j v) :=
  ⟨fun x y q => h.1 x y q, fun x y q => by rw [gJ_sJ, if_neg (by omega)]; exact h.2.1 x y q, h.2.2⟩
theorem zFr_rW {lo hi : Nat} {σ τ : zS} {k : Nat} {t b : Int} (h : zFr lo hi σ τ) (hk : lo ≤ k ∧ k < hi) : zFr lo hi σ (rW τ k t b) := zFr_J (zFr_J h hk) hk
theorem zFr_of {lo hi : Nat} {σ τ : zS} (h1 : ∀ x y, x < lo ∨ hi ≤ x → gI τ x y = gI σ x y) (h2 : τ.2 = σ.2) : zFr lo hi σ τ := by
  refine ⟨h1, fun x y _ => ?_, fun x y => ?_⟩
  · unfold gJ; rw [h2]
  · unfold gD; rw [h2]
