/-! a drive, written down: the setup, the state -/
def zSU : Type := Int × Nat × (Nat → Int64) × (Nat → Nat) × (Nat → Nat) × (Nat → Int)
def zSU.mk (s0 : Int) (nb : Nat) (nm : Nat → Int64) (pe : Nat → Nat) (re : Nat → Nat) (ca : Nat → Int) : zSU := (s0, nb, nm, pe, re, ca)
def zSU.s0 (z : zSU) : Int := z.1
def zSU.nb (z : zSU) : Nat := z.2.1
def zSU.nm (z : zSU) : Nat → Int64 := z.2.2.1
def zSU.pe (z : zSU) : Nat → Nat := z.2.2.2.1
def zSU.re (z : zSU) : Nat → Nat := z.2.2.2.2.1
def zSU.ca (z : zSU) : Nat → Int := z.2.2.2.2.2
def zST : Type := Nat × (Nat → Nat) × Nat × Nat × (Nat → Int) × (Nat → Nat) × (Nat → Nat → Nat → Nat)
def zST.mk (n : Nat) (f : Nat → Nat) (sl : Nat) (dy : Nat) (lg : Nat → Int) (tn : Nat → Nat) (tr : Nat → Nat → Nat → Nat) : zST := (n, f, sl, dy, lg, tn, tr)
def zST.n (z : zST) : Nat := z.1
def zST.f (z : zST) : Nat → Nat := z.2.1
def zST.sl (z : zST) : Nat := z.2.2.1
def zST.dy (z : zST) : Nat := z.2.2.2.1
def zST.lg (z : zST) : Nat → Int := z.2.2.2.2.1
def zST.tn (z : zST) : Nat → Nat := z.2.2.2.2.2.1
def zST.tr (z : zST) : Nat → Nat → Nat → Nat := z.2.2.2.2.2.2
def zPs : Type := Nat × zSU × zST × Bool × Bool × Bool
def zPs.mk (q : Nat) (U : zSU) (S : zST) (o1 : Bool) (o2 : Bool) (o3 : Bool) : zPs := (q, U, S, o1, o2, o3)
def zPs.q (z : zPs) : Nat := z.1
def zPs.U (z : zPs) : zSU := z.2.1
def zPs.S (z : zPs) : zST := z.2.2.1
def zPs.o1 (z : zPs) : Bool := z.2.2.2.1
def zPs.o2 (z : zPs) : Bool := z.2.2.2.2.1
def zPs.o3 (z : zPs) : Bool := z.2.2.2.2.2
def zSUp (σ : zS) (k : Nat) (U : zSU) : Prop := zSu σ k U.s0 U.nb U.nm U.pe U.re U.ca
def zSTp (σ : zS) (k : Nat) (S : zST) : Prop :=
  zStk σ k S.n S.f ∧ (∀ i, i < S.n → 8 ≤ S.f i) ∧ (∀ i j, i < j → j < S.n → S.f i < S.f j) ∧ (gI σ k 2 = zI (S.sl : Int) ∧ S.sl ≤ 999) ∧ gI σ k 3 = zI (S.dy : Int) ∧
  (∀ i, i < 8 → gI σ (k + 2) i = zI (S.lg i)) ∧ ∀ j, j < 8 → zTr σ (k + 4 + 2 * j) (S.tn j) (S.tr j) ∧ zTw (S.tn j) (S.tr j)
theorem zTr_w {σ τ : zS} {k n : Nat} {c : Nat → Nat → Nat} (h : zTr σ k n c) (e : ∀ x y, k ≤ x → x < k + 2 → gI τ x y = gI σ x y) : zTr τ k n c :=
  ⟨(e k 1 (by omega) (by omega)).trans h.1, h.2.1, fun i w hi hw => (e (k + 1) _ (by omega) (by omega)).trans (h.2.2.1 i w hi hw), h.2.2.2⟩
theorem zStk_w {σ τ : zS} {k n : Nat} {f : Nat → Nat} (h : zStk σ k n f) (e : ∀ x y, k ≤ x → x < k + 2 → gI τ x y = gI σ x y) : zStk τ k n f :=
  ⟨(e k 1 (by omega) (by omega)).trans h.1, h.2.1, fun i hi => (e (k + 1) _ (by omega) (by omega)).trans (h.2.2.1 i hi), h.2.2.2⟩
theorem zSTp_w {σ τ : zS} {k : Nat} {S : zST} (h : zSTp σ k S) (e : ∀ x y, k ≤ x → x < k + 20 → gI τ x y = gI σ x y) : zSTp τ k S := by
  obtain ⟨h1, h2, h3, h4, h5, h6, h7⟩ := h
  exact ⟨zStk_w h1 (fun x y a b => e x y a (by omega)), h2, h3, ⟨(e k 2 (by omega) (by omega)).trans h4.1, h4.2⟩, (e k 3 (by omega) (by omega)).trans h5, fun i hi => (e (k + 2) i (by omega) (by omega)).trans (h6 i hi),
    fun j hj => ⟨zTr_w (h7 j hj).1 (fun x y a b => e x y (by omega) (by omega)), (h7 j hj).2⟩⟩
theorem zSUp_w {σ τ : zS} {k : Nat} {U : zSU} (h : zSUp σ k U) (e : ∀ x y, k ≤ x → x < k + 5 → gI τ x y = gI σ x y ∧ gJ τ x y = gJ σ x y) : zSUp τ k U := by
  obtain ⟨h1, h2, h3, h4, h5⟩ := h
  refine ⟨(e k 0 (by omega) (by omega)).1.trans h1, (e k 1 (by omega) (by omega)).1.trans h2, h3, h4, fun i hi => ?_⟩
  obtain ⟨a1, a2, a3, a4, a5⟩ := h5 i hi
  exact ⟨(e (k + 1) i (by omega) (by omega)).2.trans a1, (e (k + 2) i (by omega) (by omega)).1.trans a2, (e (k + 3) i (by omega) (by omega)).1.trans a3, (e (k + 4) i (by omega) (by omega)).1.trans a4, a5⟩
/-- the reader's own drive, and what it has seen -/
def zDr (σ : zS) (P : zPs) : Prop := zSUp σ 4 P.U ∧ zSTp σ 9 P.S ∧ gI σ 1 5 = zB (P.o1 = true) ∧ gI σ 1 6 = zB (P.o2 = true) ∧ gI σ 1 7 = zB (P.o3 = true)
def zPS (σ : zS) (tx : Nat → Int) (n : Nat) (P : zPs) : Prop := zTx σ tx n ∧ zTk σ tx n P.q ∧ P.q ≤ n ∧ zDr σ P
theorem zDr_w {σ τ : zS} {P : zPs} (h : zDr σ P) (e : ∀ x y, 4 ≤ x → x < 29 → gI τ x y = gI σ x y ∧ gJ τ x y = gJ σ x y) (e1 : gI τ 1 5 = gI σ 1 5 ∧ gI τ 1 6 = gI σ 1 6 ∧ gI τ 1 7 = gI σ 1 7) : zDr τ P := by
  obtain ⟨h1, h2, h3, h4, h5⟩ := h
  exact ⟨zSUp_w h1 (fun x y a b => e x y a (by omega)), zSTp_w h2 (fun x y a b => (e x y (by omega) (by omega)).1), e1.1.trans h3, e1.2.1.trans h4, e1.2.2.trans h5⟩
def pAdv (tx : Nat → Int) (n : Nat) (P : zPs) : zPs := zPs.mk (tE tx n P.q) P.U P.S P.o1 P.o2 P.o3
theorem zPS_adv {σ τ : zS} {tx : Nat → Int} {n : Nat} {P : zPs} (h : zPS σ tx n P) (ht : zTk τ tx n (tE tx n P.q)) (hf : zFr 2 3 σ τ) (h1 : gI τ 2 1 = gI σ 2 1) : zPS τ tx n (pAdv tx n P) := by
  obtain ⟨a, b, c, d⟩ := h
  exact ⟨zTx_w a h1 (fun i => hf.1 3 i (by omega)), ht, (tE_n c).2.1, zDr_w d (fun x y g1 g2 => ⟨hf.1 x y (by omega), hf.2.1 x y (by omega)⟩) ⟨hf.1 1 5 (by omega), hf.1 1 6 (by omega), hf.1 1 7 (by omega)⟩⟩
theorem zFr_refl (lo hi : Nat) (σ : zS) : zFr lo hi σ σ := ⟨fun _ _ _ => rfl, fun _ _ _ => rfl, fun _ _ => rfl⟩
theorem zFr_trans {lo hi : Nat} {σ τ υ : zS} (h : zFr lo hi σ τ) (g : zFr lo hi τ υ) : zFr lo hi σ υ :=
  ⟨fun x y z => (g.1 x y z).trans (h.1 x y z), fun x y z => (g.2.1 x y z).trans (h.2.1 x y z), fun x y => (g.2.2 x y).trans (h.2.2 x y)⟩
theorem zFr_mono {lo hi lo' hi' : Nat} {σ τ : zS} (h : zFr lo hi σ τ) (h1 : lo' ≤ lo) (h2 : hi ≤ hi') : zFr lo' hi' σ τ :=
  ⟨fun x y z => h.1 x y (by omega), fun x y z => h.2.1 x y (by omega), h.2.2⟩
theorem zFr_fW (σ : zS) (c b : Nat) : zFr 1 29 σ (fW σ c b) := ⟨fun x y z => gI_fW σ c b x y (by omega), fun x y _ => gJ_fW σ c b x y, fun _ _ => rfl⟩
/-- what a step of the reader leaves: in order, the drive so far; at a fault, its code and place -/
def zRd (σ τ : zS) (tx : Nat → Int) (n c : Nat) (P : zPs) : Prop :=
  zFr 1 29 σ τ ∧ (c = 0 → zPS τ tx n P ∧ gI τ 1 3 = gI σ 1 3 ∧ gI τ 1 4 = gI σ 1 4) ∧ (c ≠ 0 → gI τ 1 3 = zI (c : Int) ∧ gI τ 1 4 = zI (tB tx n P.q : Int))
theorem zRd_f {σ τ : zS} {tx : Nat → Int} {n c : Nat} {P : zPs} (hc : c ≠ 0) (hf : zFr 1 29 σ τ) : zRd σ (fW τ c (tB tx n P.q)) tx n c P :=
  ⟨zFr_trans hf (zFr_fW _ _ _), fun z => absurd z hc, fun _ => ⟨by unfold fW; rw [gI_sI, if_neg (by omega), gI_sI, if_pos ⟨rfl, rfl⟩], by unfold fW; rw [gI_sI, if_pos ⟨rfl, rfl⟩]⟩⟩
