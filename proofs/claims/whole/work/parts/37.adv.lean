theorem sI_self {σ : zS} {k j : Nat} {v : Int32} (h : gI σ k j = v) : sI σ k j v = σ := by
  apply zS_ext
  · intro x y
    simp only [gI_sI]
    split
    · rename_i q; rw [q.1, q.2, h]
    · rfl
  · intro x y; rfl
  · intro x y; rfl
theorem c_X7_takeRun {l : Launch} (hfl : l.stackTraces = false) (E : zE) (σ : zS) (tx : Nat → Int) (n b en k : Nat) (hX : zTx σ tx n) (hk2 : k = 1 ∨ k = 2) (hk : gI σ 2 2 = zI (k : Int)) (hb : gI σ 2 3 = zI (b : Int)) (he : gI σ 2 4 = zI (en : Int)) (hbe : b ≤ en ∧ en ≤ n) (hw : ∀ i, i < en - b → kO (tx (b + i)) = k) : zRv l E yX7_takeRun cX7_takeRun 2 (zrm 0 0) [.ref (ob E 2)] σ (fun τ => τ = sJ (sI (sI σ 2 2 (zI (if k = 2 ∧ 7 < en - b then 4 else (k : Int)))) 2 5 (zI (if k = 2 ∧ en - b ≤ 7 then (nu tx b (en - b) : Int) else 0))) 2 6 (zL (if k = 1 ∧ en - b ≤ 8 then (pk tx b (en - b) : Int) else 0))) := by
  rcases hk2 with rfl | rfl
  · have h := c_X7_takeRun_1 hfl E σ tx n b en hX hk hb he hbe (fun i hi => kO_1.mp (hw i hi))
    have e : sJ (sI σ 2 5 (zI 0)) 2 6 (zL (if en - b ≤ 8 then (pk tx b (en - b) : Int) else 0)) = sJ (sI (sI σ 2 2 (zI (if (1 : Nat) = 2 ∧ 7 < en - b then 4 else ((1 : Nat) : Int)))) 2 5 (zI (if (1 : Nat) = 2 ∧ en - b ≤ 7 then (nu tx b (en - b) : Int) else 0))) 2 6 (zL (if (1 : Nat) = 1 ∧ en - b ≤ 8 then (pk tx b (en - b) : Int) else 0)) := by
      rw [if_neg (show ¬ ((1 : Nat) = 2 ∧ 7 < en - b) by omega), if_neg (show ¬ ((1 : Nat) = 2 ∧ en - b ≤ 7) by omega), sI_self hk]
      refine congrArg (fun z => sJ (sI σ 2 5 (zI 0)) 2 6 (zL z)) ?_
      split
      · rw [if_pos (by omega)]
      · rw [if_neg (by omega)]
    rw [e] at h
    exact h
  · have h := c_X7_takeRun_2 hfl E σ tx n b en hX hk hb he hbe (fun i hi => kO_2.mp (hw i hi))
    have e : sJ (sI (sI σ 2 2 (zI (if en - b ≤ 7 then 2 else 4))) 2 5 (zI (if en - b ≤ 7 then (nu tx b (en - b) : Int) else 0))) 2 6 (zL 0) = sJ (sI (sI σ 2 2 (zI (if (2 : Nat) = 2 ∧ 7 < en - b then 4 else ((2 : Nat) : Int)))) 2 5 (zI (if (2 : Nat) = 2 ∧ en - b ≤ 7 then (nu tx b (en - b) : Int) else 0))) 2 6 (zL (if (2 : Nat) = 1 ∧ en - b ≤ 8 then (pk tx b (en - b) : Int) else 0)) := by
      rw [if_neg (show ¬ ((2 : Nat) = 1 ∧ en - b ≤ 8) by omega)]
      rcases Nat.lt_or_ge 7 (en - b) with g | g
      · rw [if_neg (by omega), if_neg (by omega), if_pos (by omega), if_neg (by omega)]
      · rw [if_pos (by omega), if_pos (by omega), if_neg (by omega), if_pos (by omega)]; rfl
    rw [e] at h
    exact h
/-- on while it holds -/
def tWi (P : Nat → Bool) : Nat → Nat → Nat
  | 0, i => i
  | f + 1, i => if P i then tWi P f (i + 1) else i
theorem tWi_eq {P : Nat → Bool} {j : Nat} (hj : P j = false) : ∀ f i, i ≤ j → j - i ≤ f → (∀ x, i ≤ x → x < j → P x = true) → tWi P f i = j := by
  intro f
  induction f with
  | zero => intro i h1 h2 _; show i = j; omega
  | succ f ih =>
    intro i h1 h2 h3
    unfold tWi
    rcases Nat.lt_or_ge i j with g | g
    · rw [if_pos (h3 i (Nat.le_refl _) g)]
      exact ih (i + 1) (by omega) (by omega) (fun x hx => h3 x (by omega))
    · have e : i = j := by omega
      subst e
      rw [hj]; rfl
def wsB (tx : Nat → Int) (n x : Nat) : Bool := decide (x < n ∧ (tx x = 32 ∨ tx x = 10))
def kdB (tx : Nat → Int) (n k x : Nat) : Bool := decide (x < n ∧ kO (tx x) = k)
/-- where the token from p on begins, of what kind it is, where it ends -/
def tB (tx : Nat → Int) (n q : Nat) : Nat := tWi (wsB tx n) 900 q
def tK (tx : Nat → Int) (n q : Nat) : Nat := if tB tx n q < n then kO (tx (tB tx n q)) else 0
def tE (tx : Nat → Int) (n q : Nat) : Nat := if tB tx n q < n then (if kO (tx (tB tx n q)) ≤ 2 then tWi (kdB tx n (kO (tx (tB tx n q)))) 900 (tB tx n q + 1) else tB tx n q + 1) else tB tx n q
def tL (tx : Nat → Int) (n q : Nat) : Nat := tE tx n q - tB tx n q
def zTk (σ : zS) (tx : Nat → Int) (n q : Nat) : Prop :=
  gI σ 2 2 = zI (if tK tx n q = 2 ∧ 7 < tL tx n q then 4 else (tK tx n q : Int)) ∧ gI σ 2 3 = zI (tB tx n q : Int) ∧ gI σ 2 4 = zI (tE tx n q : Int) ∧
  (tK tx n q = 1 → gJ σ 2 6 = zL (if tL tx n q ≤ 8 then (pk tx (tB tx n q) (tL tx n q) : Int) else 0)) ∧ (tK tx n q = 2 → tL tx n q ≤ 7 → gI σ 2 5 = zI (nu tx (tB tx n q) (tL tx n q) : Int))
/-- what lies outside stays -/
def zFr (lo hi : Nat) (σ τ : zS) : Prop := (∀ x y, x < lo ∨ hi ≤ x → gI τ x y = gI σ x y) ∧ (∀ x y, x < lo ∨ hi ≤ x → gJ τ x y = gJ σ x y) ∧ ∀ x y, gD τ x y = gD σ x y
theorem zTk_0 {σ τ : zS} {tx : Nat → Int} {n q b : Nat} (hb : tB tx n q = b) (hn : n ≤ b) (h : τ = sI (sI (sI σ 2 3 (zI (b : Int))) 2 4 (zI (b : Int))) 2 2 (zI 0)) : zTk τ tx n q ∧ zFr 2 3 σ τ ∧ gI τ 2 1 = gI σ 2 1 := by
  subst h
  have hk : tK tx n q = 0 := by unfold tK; rw [hb, if_neg (by omega)]
  have he : tE tx n q = b := by unfold tE; rw [hb, if_neg (by omega)]
  refine ⟨⟨?_, ?_, ?_, fun z => by omega, fun z => by omega⟩, ⟨fun x y hx => ?_, fun x y hx => rfl, fun x y => rfl⟩, ?_⟩
  · rw [hk, if_neg (by omega), gI_sI, if_pos ⟨rfl, rfl⟩]; rfl
  · rw [hb, gI_sI, if_neg (by omega), gI_sI, if_neg (by omega), gI_sI, if_pos ⟨rfl, rfl⟩]
  · rw [he, gI_sI, if_neg (by omega), gI_sI, if_pos ⟨rfl, rfl⟩]
  · simp only [gI_sI]; rw [if_neg (by omega), if_neg (by omega), if_neg (by omega)]
  · simp only [gI_sI]; rw [if_neg (by omega), if_neg (by omega), if_neg (by omega)]
theorem zTk_3 {σ τ : zS} {tx : Nat → Int} {n q b : Nat} (hb : tB tx n q = b) (hn : b < n) (hk : 3 ≤ kO (tx b)) (h : τ = sI (sI (sI σ 2 3 (zI (b : Int))) 2 2 (zI (kO (tx b) : Int))) 2 4 (zI ((b + 1 : Nat) : Int))) : zTk τ tx n q ∧ zFr 2 3 σ τ ∧ gI τ 2 1 = gI σ 2 1 := by
  subst h
  have hk' : tK tx n q = kO (tx b) := by unfold tK; rw [hb, if_pos hn]
  have he : tE tx n q = b + 1 := by unfold tE; rw [hb, if_pos hn, if_neg (by omega)]
  refine ⟨⟨?_, ?_, ?_, fun z => by omega, fun z => by omega⟩, ⟨fun x y hx => ?_, fun x y hx => rfl, fun x y => rfl⟩, ?_⟩
  · rw [hk', if_neg (by omega), gI_sI, if_neg (by omega), gI_sI, if_pos ⟨rfl, rfl⟩]
  · rw [hb, gI_sI, if_neg (by omega), gI_sI, if_neg (by omega), gI_sI, if_pos ⟨rfl, rfl⟩]
  · rw [he, gI_sI, if_pos ⟨rfl, rfl⟩]
  · simp only [gI_sI]; rw [if_neg (by omega), if_neg (by omega), if_neg (by omega)]
  · simp only [gI_sI]; rw [if_neg (by omega), if_neg (by omega), if_neg (by omega)]
theorem zTk_1 {σ τ : zS} {tx : Nat → Int} {n q b en k : Nat} (hb : tB tx n q = b) (hn : b < n) (hk : kO (tx b) = k) (hk2 : k = 1 ∨ k = 2) (he : tE tx n q = en) (h : τ = sJ (sI (sI (sI (sI (sI σ 2 3 (zI (b : Int))) 2 2 (zI (k : Int))) 2 4 (zI (en : Int))) 2 2 (zI (if k = 2 ∧ 7 < en - b then 4 else (k : Int)))) 2 5 (zI (if k = 2 ∧ en - b ≤ 7 then (nu tx b (en - b) : Int) else 0))) 2 6 (zL (if k = 1 ∧ en - b ≤ 8 then (pk tx b (en - b) : Int) else 0))) : zTk τ tx n q ∧ zFr 2 3 σ τ ∧ gI τ 2 1 = gI σ 2 1 := by
  subst h
  have hk' : tK tx n q = k := by unfold tK; rw [hb, if_pos hn, hk]
  have hl : tL tx n q = en - b := by unfold tL; rw [he, hb]
  refine ⟨⟨?_, ?_, ?_, fun z => ?_, fun z z2 => ?_⟩, ⟨fun x y hx => ?_, fun x y hx => ?_, fun x y => rfl⟩, ?_⟩
  · rw [hk', hl, gI_sJ, gI_sI, if_neg (by omega), gI_sI, if_pos ⟨rfl, rfl⟩]
  · rw [hb, gI_sJ, gI_sI, if_neg (by omega), gI_sI, if_neg (by omega), gI_sI, if_neg (by omega), gI_sI, if_neg (by omega), gI_sI, if_pos ⟨rfl, rfl⟩]
  · rw [he, gI_sJ, gI_sI, if_neg (by omega), gI_sI, if_neg (by omega), gI_sI, if_pos ⟨rfl, rfl⟩]
  · rw [hk'] at z
    rw [hl, hb, gJ_sJ, if_pos ⟨rfl, rfl⟩]
    split
    · rw [if_pos (by omega)]
    · rw [if_neg (by omega)]
  · rw [hk'] at z
    rw [hl] at z2 ⊢
    rw [hb, gI_sJ, gI_sI, if_pos ⟨rfl, rfl⟩, if_pos ⟨z, z2⟩]
  · rw [gI_sJ]; simp only [gI_sI]; rw [if_neg (by omega), if_neg (by omega), if_neg (by omega), if_neg (by omega), if_neg (by omega)]
  · rw [gJ_sJ, if_neg (by omega)]; rfl
  · rw [gI_sJ]; simp only [gI_sI]; rw [if_neg (by omega), if_neg (by omega), if_neg (by omega), if_neg (by omega), if_neg (by omega)]
theorem adv_w (σ : zS) (a b c : Int32) : sI (sI (sI (sI σ 2 3 a) 2 4 a) 2 2 b) 2 4 c = sI (sI (sI σ 2 3 a) 2 2 b) 2 4 c := by
  apply zS_ext
  · intro x y; simp only [gI_sI]; grind
  · intro x y; rfl
  · intro x y; rfl
theorem zTx_w {σ τ : zS} {tx : Nat → Int} {n : Nat} (h : zTx σ tx n) (h1 : gI τ 2 1 = gI σ 2 1) (h3 : ∀ i, gI τ 3 i = gI σ 3 i) : zTx τ tx n :=
  ⟨h1.trans h.1, h.2.1, fun i hi => (h3 i).trans (h.2.2.1 i hi), h.2.2.2⟩
theorem wsB_t {tx : Nat → Int} {n x : Nat} (h : x < n ∧ (tx x = 32 ∨ tx x = 10)) : wsB tx n x = true := decide_eq_true h
theorem wsB_f {tx : Nat → Int} {n x : Nat} (h : ¬ (x < n ∧ (tx x = 32 ∨ tx x = 10))) : wsB tx n x = false := decide_eq_false h
theorem kdB_t {tx : Nat → Int} {n k x : Nat} (h : x < n ∧ kO (tx x) = k) : kdB tx n k x = true := decide_eq_true h
theorem kdB_f {tx : Nat → Int} {n k x : Nat} (h : ¬ (x < n ∧ kO (tx x) = k)) : kdB tx n k x = false := decide_eq_false h
set_option maxRecDepth 20000 in
theorem c_X7_advance {l : Launch} (hfl : l.stackTraces = false) (E : zE) (σ : zS) (tx : Nat → Int) (n q : Nat) (hX : zTx σ tx n) (he : gI σ 2 4 = zI (q : Int)) (hq : q ≤ n) : zRv l E yX7_advance cX7_advance 1 (zrm 1 21) [.ref (ob E 2)] σ (fun τ => zTk τ tx n q ∧ zFr 2 3 σ τ ∧ gI τ 2 1 = gI σ 2 1) := by
  refine Met.ofW (cc := cX7_advance) (maxL := 1) (ret := none) (by decide +kernel) rfl ?_
  intro p e s m args below meth c s₁ B hml hv
  obtain ⟨rfl, hd⟩ := hv
  have C := zX_of (own := RX7) hfl B hml rfl hd rfl
  have hr := B.returns
  refine zV_go hd (Nat.le_of_ble_eq_true rfl) (lv := [(0, .ref (ob E 2))]) rfl ?_
  have hn9 := hX.2.1
  refine zv_aload_n C 0 dX7_advance_0 rfl rfl ?_
  refine zv_aload_n C 0 dX7_advance_1 rfl rfl ?_
  refine zG7_4 C (by decide : kd 2 = _) kX7_25 dX7_advance_2 ?_
  refine zv_eqi (y := (zI (q : Int))) (he) ?_
  refine zP7_3 C (by decide : kd 2 = _) kX7_22 dX7_advance_5 ?_
  refine zv_sub (lv' := [(0, .ref (ob E 2))]) [0] (zcons rfl rfl) ?_
  refine zv_eqS (τ := (sI σ 2 3 (zI ((q + 0 : Nat) : Int)))) (rfl) ?_
  refine zv_while (α := Nat) (fun v => n - v) (fun v => q + v ≤ n ∧ ∀ x, q ≤ x → x < q + v → wsB tx n x = true) (fun v => (sI σ 2 3 (zI ((q + v : Nat) : Int)))) (fun v => [(0, .ref (ob E 2))]) (fun v => []) (fun j hI ih => ?_) (0) (⟨by omega, fun x h1 h2 => absurd h2 (by omega)⟩)
  obtain ⟨hI, hI2⟩ := hI
  refine zv_aload_n C 0 dX7_advance_8 rfl rfl ?_
  refine zG7_3 C (by decide : kd 2 = _) kX7_22 dX7_advance_9 ?_
  refine zv_eqi (y := (zI ((q + j : Nat) : Int))) (by rw [gI_sI, if_pos ⟨rfl, rfl⟩]) ?_
  refine zv_aload_n C 0 dX7_advance_12 rfl rfl ?_
  refine zG7_1 C (by decide : kd 2 = _) kX7_15 dX7_advance_13 ?_
  refine zv_eqi (y := (zI (n : Int))) (by rw [gI_sI, if_neg (by omega)]; exact hX.1) ?_
  refine zv_icmp_geZ (tgt := 60) C (by omega) (by omega) dX7_advance_16 (by decide) (fun h16 => ?_) (fun h16 => ?_)
  · skip
    have hB : tB tx n q = q + j := tWi_eq (wsB_f (by omega)) 900 q (by omega) (by omega) hI2
    refine zv_aload_n C 0 dX7_advance_60 rfl rfl ?_
    refine zv_aload_n C 0 dX7_advance_61 rfl rfl ?_
    refine zG7_3 C (by decide : kd 2 = _) kX7_22 dX7_advance_62 ?_
    refine zv_eqi (y := (zI ((q + j : Nat) : Int))) (by rw [gI_sI, if_pos ⟨rfl, rfl⟩]) ?_
    refine zP7_4 C (by decide : kd 2 = _) kX7_25 dX7_advance_65 ?_
    refine zv_aload_n C 0 dX7_advance_68 rfl rfl ?_
    refine zG7_3 C (by decide : kd 2 = _) kX7_22 dX7_advance_69 ?_
    refine zv_eqi (y := (zI ((q + j : Nat) : Int))) (by rw [gI_sI, if_neg (by omega), gI_sI, if_pos ⟨rfl, rfl⟩]) ?_
    refine zv_aload_n C 0 dX7_advance_72 rfl rfl ?_
    refine zG7_1 C (by decide : kd 2 = _) kX7_15 dX7_advance_73 ?_
    refine zv_eqi (y := (zI (n : Int))) (by rw [gI_sI, if_neg (by omega), gI_sI, if_neg (by omega)]; exact hX.1) ?_
    refine zv_icmp_ltZ (tgt := 85) C (by omega) (by omega) dX7_advance_76 (by decide) (fun h76 => ?_) (fun h76 => ?_)
    · exfalso
      omega
    · skip
      refine zv_aload_n C 0 dX7_advance_79 rfl rfl ?_
      refine zv_iconst (v := zI 0) C dX7_advance_80 rfl ?_
      refine zP7_2 C (by decide : kd 2 = _) kX7_19 dX7_advance_81 ?_
      exact zv_vret C hr dX7_advance_84 (zTk_0 hB (by omega) rfl)
  · skip
    have hbt := hX.2.2.2 (q + j) (by omega)
    have hkb := kO_b (tx (q + j))
    refine zv_aload_n C 0 dX7_advance_19 rfl rfl ?_
    refine zG7_0 C (by decide : kd 2 = _) kX7_9 dX7_advance_20 ?_
    refine zv_aload_n C 0 dX7_advance_23 rfl rfl ?_
    refine zG7_3 C (by decide : kd 2 = _) kX7_22 dX7_advance_24 ?_
    refine zv_eqi (y := (zI ((q + j : Nat) : Int))) (by rw [gI_sI, if_pos ⟨rfl, rfl⟩]) ?_
    refine zv_bald (j := q + j) C (by decide : kd 3 = _) (zI_ix rfl) (Nat.lt_of_lt_of_le (by omega) (by decide : 900 ≤ zlen 3)) dX7_advance_27 ?_
    refine zv_eqi (y := (zI (tx (q + j)))) (by simp only [gI_sI, gI_sJ]; (repeat rw [if_neg (by omega)]); exact hX.2.2.1 _ (by omega)) ?_
    refine zv_bipush (v := zI 32) C dX7_advance_28 (by decide) ?_
    refine zv_icmp_eqZ (tgt := 47) C (by omega) (by omega) dX7_advance_30 (by decide) (fun h30 => ?_) (fun h30 => ?_)
    · skip
      refine zv_aload_n C 0 dX7_advance_47 rfl rfl ?_
      refine zv_dup C dX7_advance_48 rfl ?_
      refine zG7_3 C (by decide : kd 2 = _) kX7_22 dX7_advance_49 ?_
      refine zv_eqi (y := (zI ((q + j : Nat) : Int))) (by rw [gI_sI, if_pos ⟨rfl, rfl⟩]) ?_
      refine zv_iconst (v := zI 1) C dX7_advance_52 rfl ?_
      refine zv_iaddZ C dX7_advance_53 ?_
      refine zv_eqi (y := (zI ((q + (j + 1) : Nat) : Int))) (congrArg zI (by omega)) ?_
      refine zP7_3 C (by decide : kd 2 = _) kX7_22 dX7_advance_54 ?_
      refine zv_goto (tgt := 8) C dX7_advance_57 (by decide) ?_
      refine zv_sub (lv' := [(0, .ref (ob E 2))]) [0] (zcons rfl rfl) ?_
      refine zv_eqS (τ := (sI σ 2 3 (zI ((q + (j + 1) : Nat) : Int)))) (by rw [sI_o]) ?_
      exact ih (j + 1) (⟨by omega, fun x h1 h2 => (by rcases Nat.lt_or_ge x (q + j) with g | g; exact hI2 x h1 g; rw [show x = q + j by omega]; exact wsB_t (by omega))⟩) (by omega)
    · skip
      refine zv_aload_n C 0 dX7_advance_33 rfl rfl ?_
      refine zG7_0 C (by decide : kd 2 = _) kX7_9 dX7_advance_34 ?_
      refine zv_aload_n C 0 dX7_advance_37 rfl rfl ?_
      refine zG7_3 C (by decide : kd 2 = _) kX7_22 dX7_advance_38 ?_
      refine zv_eqi (y := (zI ((q + j : Nat) : Int))) (by rw [gI_sI, if_pos ⟨rfl, rfl⟩]) ?_
      refine zv_bald (j := q + j) C (by decide : kd 3 = _) (zI_ix rfl) (Nat.lt_of_lt_of_le (by omega) (by decide : 900 ≤ zlen 3)) dX7_advance_41 ?_
      refine zv_eqi (y := (zI (tx (q + j)))) (by simp only [gI_sI, gI_sJ]; (repeat rw [if_neg (by omega)]); exact hX.2.2.1 _ (by omega)) ?_
      refine zv_bipush (v := zI 10) C dX7_advance_42 (by decide) ?_
      refine zv_icmp_neZ (tgt := 60) C (by omega) (by omega) dX7_advance_44 (by decide) (fun h44 => ?_) (fun h44 => ?_)
      · skip
        have hB : tB tx n q = q + j := tWi_eq (wsB_f (by omega)) 900 q (by omega) (by omega) hI2
        refine zv_aload_n C 0 dX7_advance_60 rfl rfl ?_
        refine zv_aload_n C 0 dX7_advance_61 rfl rfl ?_
        refine zG7_3 C (by decide : kd 2 = _) kX7_22 dX7_advance_62 ?_
        refine zv_eqi (y := (zI ((q + j : Nat) : Int))) (by rw [gI_sI, if_pos ⟨rfl, rfl⟩]) ?_
        refine zP7_4 C (by decide : kd 2 = _) kX7_25 dX7_advance_65 ?_
        refine zv_aload_n C 0 dX7_advance_68 rfl rfl ?_
        refine zG7_3 C (by decide : kd 2 = _) kX7_22 dX7_advance_69 ?_
        refine zv_eqi (y := (zI ((q + j : Nat) : Int))) (by rw [gI_sI, if_neg (by omega), gI_sI, if_pos ⟨rfl, rfl⟩]) ?_
        refine zv_aload_n C 0 dX7_advance_72 rfl rfl ?_
        refine zG7_1 C (by decide : kd 2 = _) kX7_15 dX7_advance_73 ?_
        refine zv_eqi (y := (zI (n : Int))) (by rw [gI_sI, if_neg (by omega), gI_sI, if_neg (by omega)]; exact hX.1) ?_
        refine zv_icmp_ltZ (tgt := 85) C (by omega) (by omega) dX7_advance_76 (by decide) (fun h76 => ?_) (fun h76 => ?_)
        · skip
          refine zv_aload_n C 0 dX7_advance_85 rfl rfl ?_
          refine zv_aload_n C 0 dX7_advance_86 rfl rfl ?_
          refine zG7_0 C (by decide : kd 2 = _) kX7_9 dX7_advance_87 ?_
          refine zv_aload_n C 0 dX7_advance_90 rfl rfl ?_
          refine zG7_3 C (by decide : kd 2 = _) kX7_22 dX7_advance_91 ?_
          refine zv_eqi (y := (zI ((q + j : Nat) : Int))) (by rw [gI_sI, if_neg (by omega), gI_sI, if_pos ⟨rfl, rfl⟩]) ?_
          refine zv_bald (j := q + j) C (by decide : kd 3 = _) (zI_ix rfl) (Nat.lt_of_lt_of_le (by omega) (by decide : 900 ≤ zlen 3)) dX7_advance_94 ?_
          refine zv_eqi (y := (zI (tx (q + j)))) (by simp only [gI_sI, gI_sJ]; (repeat rw [if_neg (by omega)]); exact hX.2.2.1 _ (by omega)) ?_
          refine zv_csiD (st := [.ref (ob E 2)]) C (c_X7_kindOf hfl E (sI (sI σ 2 3 (zI ((q + j : Nat) : Int))) 2 4 (zI ((q + j : Nat) : Int))) (tx (q + j)) (hX.2.2.2 _ (by omega))) mX7_kindOf kX7_38 rfl ⟨rfl, rfl⟩ (show zfit (zrm 0 0) 1 (zrm 1 21) = true from rfl) (Nat.le_of_ble_eq_true rfl) dX7_advance_95 ⟨Nat.zero_le _, Nat.zero_le _⟩ ?_
          refine zP7_2 C (by decide : kd 2 = _) kX7_19 dX7_advance_98 ?_
          refine zv_aload_n C 0 dX7_advance_101 rfl rfl ?_
          refine zv_dup C dX7_advance_102 rfl ?_
          refine zG7_4 C (by decide : kd 2 = _) kX7_25 dX7_advance_103 ?_
          refine zv_eqi (y := (zI ((q + j : Nat) : Int))) (by rw [gI_sI, if_neg (by omega), gI_sI, if_pos ⟨rfl, rfl⟩]) ?_
          refine zv_iconst (v := zI 1) C dX7_advance_106 rfl ?_
          refine zv_iaddZ C dX7_advance_107 ?_
          refine zv_eqi (y := (zI ((q + j + 1 : Nat) : Int))) (congrArg zI (by omega)) ?_
          refine zP7_4 C (by decide : kd 2 = _) kX7_25 dX7_advance_108 ?_
          refine zv_eqS (τ := (sI (sI (sI σ 2 3 (zI ((q + j : Nat) : Int))) 2 2 (zI (kO (tx (q + j)) : Int))) 2 4 (zI ((q + j + 1 : Nat) : Int)))) (adv_w σ _ _ _) ?_
          refine zv_aload_n C 0 dX7_advance_111 rfl rfl ?_
          refine zG7_2 C (by decide : kd 2 = _) kX7_19 dX7_advance_112 ?_
          refine zv_eqi (y := (zI (kO (tx (q + j)) : Int))) (by rw [gI_sI, if_neg (by omega), gI_sI, if_pos ⟨rfl, rfl⟩]) ?_
          refine zv_iconst (v := zI 1) C dX7_advance_115 rfl ?_
          refine zv_icmp_eqZ (tgt := 127) C (by omega) (by omega) dX7_advance_116 (by decide) (fun h116 => ?_) (fun h116 => ?_)
          · skip
            have hk12 : kO (tx (q + j)) = 1 ∨ kO (tx (q + j)) = 2 := by omega
            refine zv_sub (lv' := [(0, .ref (ob E 2))]) [0] (zcons rfl rfl) ?_
            refine zv_eqS (τ := (sI (sI (sI σ 2 3 (zI ((q + j : Nat) : Int))) 2 2 (zI (kO (tx (q + j)) : Int))) 2 4 (zI ((q + j + 1 + 0 : Nat) : Int)))) (rfl) ?_
            refine zv_while (α := Nat) (fun v => n - v) (fun v => q + j + 1 + v ≤ n ∧ ∀ x, q + j + 1 ≤ x → x < q + j + 1 + v → kdB tx n (kO (tx (q + j))) x = true) (fun v => (sI (sI (sI σ 2 3 (zI ((q + j : Nat) : Int))) 2 2 (zI (kO (tx (q + j)) : Int))) 2 4 (zI ((q + j + 1 + v : Nat) : Int)))) (fun v => [(0, .ref (ob E 2))]) (fun v => []) (fun i hI ih127 => ?_) (0) (⟨by omega, fun x h1 h2 => absurd h2 (by omega)⟩)
            obtain ⟨hI3, hI4⟩ := hI
            refine zv_aload_n C 0 dX7_advance_127 rfl rfl ?_
            refine zG7_4 C (by decide : kd 2 = _) kX7_25 dX7_advance_128 ?_
            refine zv_eqi (y := (zI ((q + j + 1 + i : Nat) : Int))) (by rw [gI_sI, if_pos ⟨rfl, rfl⟩]) ?_
            refine zv_aload_n C 0 dX7_advance_131 rfl rfl ?_
            refine zG7_1 C (by decide : kd 2 = _) kX7_15 dX7_advance_132 ?_
            refine zv_eqi (y := (zI (n : Int))) (by rw [gI_sI, if_neg (by omega), gI_sI, if_neg (by omega), gI_sI, if_neg (by omega)]; exact hX.1) ?_
            refine zv_icmp_geZ (tgt := 170) C (by omega) (by omega) dX7_advance_135 (by decide) (fun h135 => ?_) (fun h135 => ?_)
            · skip
              have hE : tE tx n q = q + j + 1 + i := by
                unfold tE
                rw [hB, if_pos (by omega), if_pos (by omega)]
                exact tWi_eq (kdB_f (by omega)) 900 _ (by omega) (by omega) hI4
              have hX2 : zTx (sI (sI (sI σ 2 3 (zI ((q + j : Nat) : Int))) 2 2 (zI (kO (tx (q + j)) : Int))) 2 4 (zI ((q + j + 1 + i : Nat) : Int))) tx n := zTx_w hX (by simp only [gI_sI]; (repeat rw [if_neg (by omega)])) (fun x => by simp only [gI_sI]; (repeat rw [if_neg (by omega)]))
              have hw2 : ∀ x, x < q + j + 1 + i - (q + j) → kO (tx (q + j + x)) = kO (tx (q + j)) := by
                intro x hx
                rcases Nat.eq_zero_or_pos x with z | z
                · rw [z]; rfl
                · exact (of_decide_eq_true (hI4 (q + j + x) (by omega) (by omega))).2
              refine zv_aload_n C 0 dX7_advance_170 rfl rfl ?_
              refine zv_cvvD (st := []) C (c_X7_takeRun hfl E (sI (sI (sI σ 2 3 (zI ((q + j : Nat) : Int))) 2 2 (zI (kO (tx (q + j)) : Int))) 2 4 (zI ((q + j + 1 + i : Nat) : Int))) tx n (q + j) (q + j + 1 + i) (kO (tx (q + j))) hX2 hk12 (by rw [gI_sI, if_neg (by omega), gI_sI, if_pos ⟨rfl, rfl⟩]) (by rw [gI_sI, if_neg (by omega), gI_sI, if_neg (by omega), gI_sI, if_pos ⟨rfl, rfl⟩]) (by rw [gI_sI, if_pos ⟨rfl, rfl⟩]) ⟨by omega, hI3⟩ hw2) mX7_takeRun kX7_42 (by decide : kd 2 = 7) rfl rfl rfl ⟨rfl, rfl⟩ (show zfit (zrm 0 0) 2 (zrm 1 21) = true from rfl) (Nat.le_of_ble_eq_true rfl) dX7_advance_171 ⟨Nat.zero_le _, Nat.zero_le _⟩ ?_
              exact zv_vret C hr dX7_advance_174 (zTk_1 hB (by omega) rfl hk12 hE rfl)
            · skip
              have hbt2 := hX.2.2.2 (q + j + 1 + i) (by omega)
              have hkb2 := kO_b (tx (q + j + 1 + i))
              refine zv_aload_n C 0 dX7_advance_138 rfl rfl ?_
              refine zG7_0 C (by decide : kd 2 = _) kX7_9 dX7_advance_139 ?_
              refine zv_aload_n C 0 dX7_advance_142 rfl rfl ?_
              refine zG7_4 C (by decide : kd 2 = _) kX7_25 dX7_advance_143 ?_
              refine zv_eqi (y := (zI ((q + j + 1 + i : Nat) : Int))) (by rw [gI_sI, if_pos ⟨rfl, rfl⟩]) ?_
              refine zv_bald (j := q + j + 1 + i) C (by decide : kd 3 = _) (zI_ix rfl) (Nat.lt_of_lt_of_le (by omega) (by decide : 900 ≤ zlen 3)) dX7_advance_146 ?_
              refine zv_eqi (y := (zI (tx (q + j + 1 + i)))) (by simp only [gI_sI, gI_sJ]; (repeat rw [if_neg (by omega)]); exact hX.2.2.1 _ (by omega)) ?_
              refine zv_csiD (st := []) C (c_X7_kindOf hfl E (sI (sI (sI σ 2 3 (zI ((q + j : Nat) : Int))) 2 2 (zI (kO (tx (q + j)) : Int))) 2 4 (zI ((q + j + 1 + i : Nat) : Int))) (tx (q + j + 1 + i)) (hX.2.2.2 _ (by omega))) mX7_kindOf kX7_38 rfl ⟨rfl, rfl⟩ (show zfit (zrm 0 0) 1 (zrm 1 21) = true from rfl) (Nat.le_of_ble_eq_true rfl) dX7_advance_147 ⟨Nat.zero_le _, Nat.zero_le _⟩ ?_
              refine zv_aload_n C 0 dX7_advance_150 rfl rfl ?_
              refine zG7_2 C (by decide : kd 2 = _) kX7_19 dX7_advance_151 ?_
              refine zv_eqi (y := (zI (kO (tx (q + j)) : Int))) (by rw [gI_sI, if_neg (by omega), gI_sI, if_pos ⟨rfl, rfl⟩]) ?_
              refine zv_icmp_neZ (tgt := 170) C (by omega) (by omega) dX7_advance_154 (by decide) (fun h154 => ?_) (fun h154 => ?_)
              · skip
                have hE : tE tx n q = q + j + 1 + i := by
                  unfold tE
                  rw [hB, if_pos (by omega), if_pos (by omega)]
                  exact tWi_eq (kdB_f (by omega)) 900 _ (by omega) (by omega) hI4
                have hX2 : zTx (sI (sI (sI σ 2 3 (zI ((q + j : Nat) : Int))) 2 2 (zI (kO (tx (q + j)) : Int))) 2 4 (zI ((q + j + 1 + i : Nat) : Int))) tx n := zTx_w hX (by simp only [gI_sI]; (repeat rw [if_neg (by omega)])) (fun x => by simp only [gI_sI]; (repeat rw [if_neg (by omega)]))
                have hw2 : ∀ x, x < q + j + 1 + i - (q + j) → kO (tx (q + j + x)) = kO (tx (q + j)) := by
                  intro x hx
                  rcases Nat.eq_zero_or_pos x with z | z
                  · rw [z]; rfl
                  · exact (of_decide_eq_true (hI4 (q + j + x) (by omega) (by omega))).2
                refine zv_aload_n C 0 dX7_advance_170 rfl rfl ?_
                refine zv_cvvD (st := []) C (c_X7_takeRun hfl E (sI (sI (sI σ 2 3 (zI ((q + j : Nat) : Int))) 2 2 (zI (kO (tx (q + j)) : Int))) 2 4 (zI ((q + j + 1 + i : Nat) : Int))) tx n (q + j) (q + j + 1 + i) (kO (tx (q + j))) hX2 hk12 (by rw [gI_sI, if_neg (by omega), gI_sI, if_pos ⟨rfl, rfl⟩]) (by rw [gI_sI, if_neg (by omega), gI_sI, if_neg (by omega), gI_sI, if_pos ⟨rfl, rfl⟩]) (by rw [gI_sI, if_pos ⟨rfl, rfl⟩]) ⟨by omega, hI3⟩ hw2) mX7_takeRun kX7_42 (by decide : kd 2 = 7) rfl rfl rfl ⟨rfl, rfl⟩ (show zfit (zrm 0 0) 2 (zrm 1 21) = true from rfl) (Nat.le_of_ble_eq_true rfl) dX7_advance_171 ⟨Nat.zero_le _, Nat.zero_le _⟩ ?_
                exact zv_vret C hr dX7_advance_174 (zTk_1 hB (by omega) rfl hk12 hE rfl)
              · skip
                refine zv_aload_n C 0 dX7_advance_157 rfl rfl ?_
                refine zv_dup C dX7_advance_158 rfl ?_
                refine zG7_4 C (by decide : kd 2 = _) kX7_25 dX7_advance_159 ?_
                refine zv_eqi (y := (zI ((q + j + 1 + i : Nat) : Int))) (by rw [gI_sI, if_pos ⟨rfl, rfl⟩]) ?_
                refine zv_iconst (v := zI 1) C dX7_advance_162 rfl ?_
                refine zv_iaddZ C dX7_advance_163 ?_
                refine zv_eqi (y := (zI ((q + j + 1 + (i + 1) : Nat) : Int))) (congrArg zI (by omega)) ?_
                refine zP7_4 C (by decide : kd 2 = _) kX7_25 dX7_advance_164 ?_
                refine zv_goto (tgt := 127) C dX7_advance_167 (by decide) ?_
                refine zv_sub (lv' := [(0, .ref (ob E 2))]) [0] (zcons rfl rfl) ?_
                refine zv_eqS (τ := (sI (sI (sI σ 2 3 (zI ((q + j : Nat) : Int))) 2 2 (zI (kO (tx (q + j)) : Int))) 2 4 (zI ((q + j + 1 + (i + 1) : Nat) : Int)))) (by rw [sI_o]) ?_
                exact ih127 (i + 1) (⟨by omega, fun x h1 h2 => (by rcases Nat.lt_or_ge x (q + j + 1 + i) with g | g; exact hI4 x h1 g; rw [show x = q + j + 1 + i by omega]; exact kdB_t ⟨by omega, by omega⟩)⟩) (by omega)
          · skip
            refine zv_aload_n C 0 dX7_advance_119 rfl rfl ?_
            refine zG7_2 C (by decide : kd 2 = _) kX7_19 dX7_advance_120 ?_
            refine zv_eqi (y := (zI (kO (tx (q + j)) : Int))) (by rw [gI_sI, if_neg (by omega), gI_sI, if_pos ⟨rfl, rfl⟩]) ?_
            refine zv_iconst (v := zI 2) C dX7_advance_123 rfl ?_
            refine zv_icmp_neZ (tgt := 174) C (by omega) (by omega) dX7_advance_124 (by decide) (fun h124 => ?_) (fun h124 => ?_)
            · skip
              exact zv_vret C hr dX7_advance_174 (zTk_3 hB (by omega) (by have := kO_b (tx (q + j)); omega) rfl)
            · skip
              have hk12 : kO (tx (q + j)) = 1 ∨ kO (tx (q + j)) = 2 := by omega
              refine zv_sub (lv' := [(0, .ref (ob E 2))]) [0] (zcons rfl rfl) ?_
              refine zv_eqS (τ := (sI (sI (sI σ 2 3 (zI ((q + j : Nat) : Int))) 2 2 (zI (kO (tx (q + j)) : Int))) 2 4 (zI ((q + j + 1 + 0 : Nat) : Int)))) (rfl) ?_
              refine zv_while (α := Nat) (fun v => n - v) (fun v => q + j + 1 + v ≤ n ∧ ∀ x, q + j + 1 ≤ x → x < q + j + 1 + v → kdB tx n (kO (tx (q + j))) x = true) (fun v => (sI (sI (sI σ 2 3 (zI ((q + j : Nat) : Int))) 2 2 (zI (kO (tx (q + j)) : Int))) 2 4 (zI ((q + j + 1 + v : Nat) : Int)))) (fun v => [(0, .ref (ob E 2))]) (fun v => []) (fun i hI ih127 => ?_) (0) (⟨by omega, fun x h1 h2 => absurd h2 (by omega)⟩)
              obtain ⟨hI3, hI4⟩ := hI
              refine zv_aload_n C 0 dX7_advance_127 rfl rfl ?_
              refine zG7_4 C (by decide : kd 2 = _) kX7_25 dX7_advance_128 ?_
              refine zv_eqi (y := (zI ((q + j + 1 + i : Nat) : Int))) (by rw [gI_sI, if_pos ⟨rfl, rfl⟩]) ?_
              refine zv_aload_n C 0 dX7_advance_131 rfl rfl ?_
              refine zG7_1 C (by decide : kd 2 = _) kX7_15 dX7_advance_132 ?_
              refine zv_eqi (y := (zI (n : Int))) (by rw [gI_sI, if_neg (by omega), gI_sI, if_neg (by omega), gI_sI, if_neg (by omega)]; exact hX.1) ?_
              refine zv_icmp_geZ (tgt := 170) C (by omega) (by omega) dX7_advance_135 (by decide) (fun h135 => ?_) (fun h135 => ?_)
              · skip
                have hE : tE tx n q = q + j + 1 + i := by
                  unfold tE
                  rw [hB, if_pos (by omega), if_pos (by omega)]
                  exact tWi_eq (kdB_f (by omega)) 900 _ (by omega) (by omega) hI4
                have hX2 : zTx (sI (sI (sI σ 2 3 (zI ((q + j : Nat) : Int))) 2 2 (zI (kO (tx (q + j)) : Int))) 2 4 (zI ((q + j + 1 + i : Nat) : Int))) tx n := zTx_w hX (by simp only [gI_sI]; (repeat rw [if_neg (by omega)])) (fun x => by simp only [gI_sI]; (repeat rw [if_neg (by omega)]))
                have hw2 : ∀ x, x < q + j + 1 + i - (q + j) → kO (tx (q + j + x)) = kO (tx (q + j)) := by
                  intro x hx
                  rcases Nat.eq_zero_or_pos x with z | z
                  · rw [z]; rfl
                  · exact (of_decide_eq_true (hI4 (q + j + x) (by omega) (by omega))).2
                refine zv_aload_n C 0 dX7_advance_170 rfl rfl ?_
                refine zv_cvvD (st := []) C (c_X7_takeRun hfl E (sI (sI (sI σ 2 3 (zI ((q + j : Nat) : Int))) 2 2 (zI (kO (tx (q + j)) : Int))) 2 4 (zI ((q + j + 1 + i : Nat) : Int))) tx n (q + j) (q + j + 1 + i) (kO (tx (q + j))) hX2 hk12 (by rw [gI_sI, if_neg (by omega), gI_sI, if_pos ⟨rfl, rfl⟩]) (by rw [gI_sI, if_neg (by omega), gI_sI, if_neg (by omega), gI_sI, if_pos ⟨rfl, rfl⟩]) (by rw [gI_sI, if_pos ⟨rfl, rfl⟩]) ⟨by omega, hI3⟩ hw2) mX7_takeRun kX7_42 (by decide : kd 2 = 7) rfl rfl rfl ⟨rfl, rfl⟩ (show zfit (zrm 0 0) 2 (zrm 1 21) = true from rfl) (Nat.le_of_ble_eq_true rfl) dX7_advance_171 ⟨Nat.zero_le _, Nat.zero_le _⟩ ?_
                exact zv_vret C hr dX7_advance_174 (zTk_1 hB (by omega) rfl hk12 hE rfl)
              · skip
                have hbt2 := hX.2.2.2 (q + j + 1 + i) (by omega)
                have hkb2 := kO_b (tx (q + j + 1 + i))
                refine zv_aload_n C 0 dX7_advance_138 rfl rfl ?_
                refine zG7_0 C (by decide : kd 2 = _) kX7_9 dX7_advance_139 ?_
                refine zv_aload_n C 0 dX7_advance_142 rfl rfl ?_
                refine zG7_4 C (by decide : kd 2 = _) kX7_25 dX7_advance_143 ?_
                refine zv_eqi (y := (zI ((q + j + 1 + i : Nat) : Int))) (by rw [gI_sI, if_pos ⟨rfl, rfl⟩]) ?_
                refine zv_bald (j := q + j + 1 + i) C (by decide : kd 3 = _) (zI_ix rfl) (Nat.lt_of_lt_of_le (by omega) (by decide : 900 ≤ zlen 3)) dX7_advance_146 ?_
                refine zv_eqi (y := (zI (tx (q + j + 1 + i)))) (by simp only [gI_sI, gI_sJ]; (repeat rw [if_neg (by omega)]); exact hX.2.2.1 _ (by omega)) ?_
                refine zv_csiD (st := []) C (c_X7_kindOf hfl E (sI (sI (sI σ 2 3 (zI ((q + j : Nat) : Int))) 2 2 (zI (kO (tx (q + j)) : Int))) 2 4 (zI ((q + j + 1 + i : Nat) : Int))) (tx (q + j + 1 + i)) (hX.2.2.2 _ (by omega))) mX7_kindOf kX7_38 rfl ⟨rfl, rfl⟩ (show zfit (zrm 0 0) 1 (zrm 1 21) = true from rfl) (Nat.le_of_ble_eq_true rfl) dX7_advance_147 ⟨Nat.zero_le _, Nat.zero_le _⟩ ?_
                refine zv_aload_n C 0 dX7_advance_150 rfl rfl ?_
                refine zG7_2 C (by decide : kd 2 = _) kX7_19 dX7_advance_151 ?_
                refine zv_eqi (y := (zI (kO (tx (q + j)) : Int))) (by rw [gI_sI, if_neg (by omega), gI_sI, if_pos ⟨rfl, rfl⟩]) ?_
                refine zv_icmp_neZ (tgt := 170) C (by omega) (by omega) dX7_advance_154 (by decide) (fun h154 => ?_) (fun h154 => ?_)
                · skip
                  have hE : tE tx n q = q + j + 1 + i := by
                    unfold tE
                    rw [hB, if_pos (by omega), if_pos (by omega)]
                    exact tWi_eq (kdB_f (by omega)) 900 _ (by omega) (by omega) hI4
                  have hX2 : zTx (sI (sI (sI σ 2 3 (zI ((q + j : Nat) : Int))) 2 2 (zI (kO (tx (q + j)) : Int))) 2 4 (zI ((q + j + 1 + i : Nat) : Int))) tx n := zTx_w hX (by simp only [gI_sI]; (repeat rw [if_neg (by omega)])) (fun x => by simp only [gI_sI]; (repeat rw [if_neg (by omega)]))
                  have hw2 : ∀ x, x < q + j + 1 + i - (q + j) → kO (tx (q + j + x)) = kO (tx (q + j)) := by
                    intro x hx
                    rcases Nat.eq_zero_or_pos x with z | z
                    · rw [z]; rfl
                    · exact (of_decide_eq_true (hI4 (q + j + x) (by omega) (by omega))).2
                  refine zv_aload_n C 0 dX7_advance_170 rfl rfl ?_
                  refine zv_cvvD (st := []) C (c_X7_takeRun hfl E (sI (sI (sI σ 2 3 (zI ((q + j : Nat) : Int))) 2 2 (zI (kO (tx (q + j)) : Int))) 2 4 (zI ((q + j + 1 + i : Nat) : Int))) tx n (q + j) (q + j + 1 + i) (kO (tx (q + j))) hX2 hk12 (by rw [gI_sI, if_neg (by omega), gI_sI, if_pos ⟨rfl, rfl⟩]) (by rw [gI_sI, if_neg (by omega), gI_sI, if_neg (by omega), gI_sI, if_pos ⟨rfl, rfl⟩]) (by rw [gI_sI, if_pos ⟨rfl, rfl⟩]) ⟨by omega, hI3⟩ hw2) mX7_takeRun kX7_42 (by decide : kd 2 = 7) rfl rfl rfl ⟨rfl, rfl⟩ (show zfit (zrm 0 0) 2 (zrm 1 21) = true from rfl) (Nat.le_of_ble_eq_true rfl) dX7_advance_171 ⟨Nat.zero_le _, Nat.zero_le _⟩ ?_
                  exact zv_vret C hr dX7_advance_174 (zTk_1 hB (by omega) rfl hk12 hE rfl)
                · skip
                  refine zv_aload_n C 0 dX7_advance_157 rfl rfl ?_
                  refine zv_dup C dX7_advance_158 rfl ?_
                  refine zG7_4 C (by decide : kd 2 = _) kX7_25 dX7_advance_159 ?_
                  refine zv_eqi (y := (zI ((q + j + 1 + i : Nat) : Int))) (by rw [gI_sI, if_pos ⟨rfl, rfl⟩]) ?_
                  refine zv_iconst (v := zI 1) C dX7_advance_162 rfl ?_
                  refine zv_iaddZ C dX7_advance_163 ?_
                  refine zv_eqi (y := (zI ((q + j + 1 + (i + 1) : Nat) : Int))) (congrArg zI (by omega)) ?_
                  refine zP7_4 C (by decide : kd 2 = _) kX7_25 dX7_advance_164 ?_
                  refine zv_goto (tgt := 127) C dX7_advance_167 (by decide) ?_
                  refine zv_sub (lv' := [(0, .ref (ob E 2))]) [0] (zcons rfl rfl) ?_
                  refine zv_eqS (τ := (sI (sI (sI σ 2 3 (zI ((q + j : Nat) : Int))) 2 2 (zI (kO (tx (q + j)) : Int))) 2 4 (zI ((q + j + 1 + (i + 1) : Nat) : Int)))) (by rw [sI_o]) ?_
                  exact ih127 (i + 1) (⟨by omega, fun x h1 h2 => (by rcases Nat.lt_or_ge x (q + j + 1 + i) with g | g; exact hI4 x h1 g; rw [show x = q + j + 1 + i by omega]; exact kdB_t ⟨by omega, by omega⟩)⟩) (by omega)
        · exfalso
          omega
      · skip
        refine zv_aload_n C 0 dX7_advance_47 rfl rfl ?_
        refine zv_dup C dX7_advance_48 rfl ?_
        refine zG7_3 C (by decide : kd 2 = _) kX7_22 dX7_advance_49 ?_
        refine zv_eqi (y := (zI ((q + j : Nat) : Int))) (by rw [gI_sI, if_pos ⟨rfl, rfl⟩]) ?_
        refine zv_iconst (v := zI 1) C dX7_advance_52 rfl ?_
        refine zv_iaddZ C dX7_advance_53 ?_
        refine zv_eqi (y := (zI ((q + (j + 1) : Nat) : Int))) (congrArg zI (by omega)) ?_
        refine zP7_3 C (by decide : kd 2 = _) kX7_22 dX7_advance_54 ?_
        refine zv_goto (tgt := 8) C dX7_advance_57 (by decide) ?_
        refine zv_sub (lv' := [(0, .ref (ob E 2))]) [0] (zcons rfl rfl) ?_
        refine zv_eqS (τ := (sI σ 2 3 (zI ((q + (j + 1) : Nat) : Int)))) (by rw [sI_o]) ?_
        exact ih (j + 1) (⟨by omega, fun x h1 h2 => (by rcases Nat.lt_or_ge x (q + j) with g | g; exact hI2 x h1 g; rw [show x = q + j by omega]; exact wsB_t (by omega))⟩) (by omega)
