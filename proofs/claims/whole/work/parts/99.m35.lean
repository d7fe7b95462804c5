/-! reading, in the reference -/
theorem pk_i {tx tx' : Nat → Int} {b b' : Nat} : ∀ (m m' : Nat), (∀ i, i < m → 97 ≤ tx (b + i) ∧ tx (b + i) ≤ 122) → (∀ i, i < m' → 97 ≤ tx' (b' + i) ∧ tx' (b' + i) ≤ 122) → (pk tx b m = pk tx' b' m' ↔ (m = m' ∧ ∀ i, i < m → tx (b + i) = tx' (b' + i))) := by
  intro m
  induction m with
  | zero =>
    intro m' h h'
    cases m' with
    | zero => exact ⟨fun _ => ⟨rfl, fun i hi => absurd hi (Nat.not_lt_zero i)⟩, fun _ => rfl⟩
    | succ m' =>
      have := h' m' (by omega)
      constructor
      · intro e
        have e2 : (0 : Nat) = pk tx' b' m' * 256 + (tx' (b' + m')).toNat := e
        omega
      · intro e; omega
  | succ m ih =>
    intro m' h h'
    have h1 := h m (by omega)
    cases m' with
    | zero =>
      constructor
      · intro e
        have e2 : pk tx b m * 256 + (tx (b + m)).toNat = 0 := e
        omega
      · intro e; omega
    | succ m' =>
      have h2 := h' m' (by omega)
      have hi := ih m' (fun i q => h i (by omega)) (fun i q => h' i (by omega))
      show pk tx b m * 256 + (tx (b + m)).toNat = pk tx' b' m' * 256 + (tx' (b' + m')).toNat ↔ _
      constructor
      · intro e
        have e1 : pk tx b m = pk tx' b' m' := by omega
        obtain ⟨g1, g2⟩ := hi.mp e1
        subst g1
        refine ⟨rfl, fun i q => ?_⟩
        rcases Nat.lt_or_ge i m with z | z
        · exact g2 i z
        · rw [show i = m by omega]; omega
      · intro e
        have e0 : m = m' := by omega
        subst e0
        rw [hi.mpr ⟨rfl, fun i q => e.2 i (by omega)⟩, e.2 m (by omega)]
def sT (w k : Nat) : Int := (sC w k : Int)
theorem zWl_pk : ∀ w, w < 11 → zWl.getD w 0 = zL (pk (sT w) 0 (zSn.getD w 0) : Int) := by decide +kernel
theorem pk_63 {tx : Nat → Int} {b m : Nat} (hm : m ≤ 8) (h : ∀ i, i < m → 97 ≤ tx (b + i) ∧ tx (b + i) ≤ 122) : pk tx b m < 9223372036854775808 := by
  have hb := pk_b h m (Nat.le_refl _)
  rcases hb with q | q
  · have hpw : 256 ^ (m - 1) ≤ 256 ^ 7 := Nat.pow_le_pow_right (by decide) (by omega)
    omega
  · subst q
    show 0 < 9223372036854775808
    omega
theorem zL_in {a b : Nat} (ha : a < 9223372036854775808) (hb : b < 9223372036854775808) : zL (a : Int) = zL (b : Int) ↔ a = b := by
  constructor
  · intro h
    have := congrArg Int64.toInt h
    rw [zL_toInt (by omega), zL_toInt (by omega)] at this
    omega
  · intro h; rw [h]
theorem tIs_s {tx : Nat → Int} {n q w : Nat} (hk : tK tx n q = 1) (hw : w < 11) : tIs tx n q w ↔ (tL tx n q = zSn.getD w 0 ∧ ∀ i, i < zSn.getD w 0 → tx (tB tx n q + i) = (sC w i : Int)) := by
  have hl := (tK_1 hk).2.2
  have hs := sN_b w hw
  have hsl : ∀ i, i < zSn.getD w 0 → 97 ≤ sT w (0 + i) ∧ sT w (0 + i) ≤ 122 := fun i hi => by
    have := (sC_e w hw i hi).2
    rw [Nat.zero_add]
    show (97 : Int) ≤ (sC w i : Int) ∧ (sC w i : Int) ≤ 122
    omega
  have hp := pk_i (tx := tx) (tx' := sT w) (b := tB tx n q) (b' := 0) (tL tx n q) (zSn.getD w 0) hl hsl
  constructor
  · rintro ⟨-, h8, he⟩
    rw [zWl_pk w hw] at he
    obtain ⟨g1, g2⟩ := hp.mp ((zL_in (pk_63 h8 hl) (pk_63 (by omega) hsl)).mp he)
    refine ⟨g1, fun i hi => ?_⟩
    have := g2 i (by omega)
    rw [Nat.zero_add] at this
    exact this
  · rintro ⟨g1, g2⟩
    refine ⟨hk, by omega, ?_⟩
    rw [zWl_pk w hw]
    show zL (pk tx (tB tx n q) (tL tx n q) : Int) = _
    rw [hp.mpr ⟨g1, fun i hi => by rw [Nat.zero_add]; exact g2 i (by omega)⟩]
abbrev tKw (tx : Nat → Int) (n q : Nat) : Prop := tIs tx n q 0 ∨ tIs tx n q 1 ∨ tIs tx n q 2 ∨ tIs tx n q 3 ∨ tIs tx n q 4 ∨ tIs tx n q 5 ∨ tIs tx n q 6 ∨ tIs tx n q 7 ∨ tIs tx n q 8 ∨ tIs tx n q 9 ∨ tIs tx n q 10
theorem tKw_e (tx : Nat → Int) (n q : Nat) : tKw tx n q ↔ ∃ w, w < 11 ∧ tIs tx n q w := by
  constructor
  · rintro (h | h | h | h | h | h | h | h | h | h | h)
    · exact ⟨0, by decide, h⟩
    · exact ⟨1, by decide, h⟩
    · exact ⟨2, by decide, h⟩
    · exact ⟨3, by decide, h⟩
    · exact ⟨4, by decide, h⟩
    · exact ⟨5, by decide, h⟩
    · exact ⟨6, by decide, h⟩
    · exact ⟨7, by decide, h⟩
    · exact ⟨8, by decide, h⟩
    · exact ⟨9, by decide, h⟩
    · exact ⟨10, by decide, h⟩
  · rintro ⟨w, hw, h⟩
    rcases (show w = 0 ∨ w = 1 ∨ w = 2 ∨ w = 3 ∨ w = 4 ∨ w = 5 ∨ w = 6 ∨ w = 7 ∨ w = 8 ∨ w = 9 ∨ w = 10 by omega) with g | g | g | g | g | g | g | g | g | g | g
    · subst g; exact Or.inl h
    · subst g; exact Or.inr (Or.inl h)
    · subst g; exact Or.inr (Or.inr (Or.inl h))
    · subst g; exact Or.inr (Or.inr (Or.inr (Or.inl h)))
    · subst g; exact Or.inr (Or.inr (Or.inr (Or.inr (Or.inl h))))
    · subst g; exact Or.inr (Or.inr (Or.inr (Or.inr (Or.inr (Or.inl h)))))
    · subst g; exact Or.inr (Or.inr (Or.inr (Or.inr (Or.inr (Or.inr (Or.inl h))))))
    · subst g; exact Or.inr (Or.inr (Or.inr (Or.inr (Or.inr (Or.inr (Or.inr (Or.inl h)))))))
    · subst g; exact Or.inr (Or.inr (Or.inr (Or.inr (Or.inr (Or.inr (Or.inr (Or.inr (Or.inl h))))))))
    · subst g; exact Or.inr (Or.inr (Or.inr (Or.inr (Or.inr (Or.inr (Or.inr (Or.inr (Or.inr (Or.inl h)))))))))
    · subst g; exact Or.inr (Or.inr (Or.inr (Or.inr (Or.inr (Or.inr (Or.inr (Or.inr (Or.inr (Or.inr (h))))))))))
/-- what reading changes -/
def mF (σ τ : zS) : Prop := (∀ x j, x ≠ 328 → x ≠ 330 → x ≠ 332 → (x = 327 → j < 15 ∨ 21 < j) → gI τ x j = gI σ x j) ∧ τ.2 = σ.2
theorem mF_r (σ : zS) : mF σ σ := ⟨fun _ _ _ _ _ _ => rfl, rfl⟩
theorem mF_t {σ τ υ : zS} (h : mF σ τ) (g : mF τ υ) : mF σ υ := ⟨fun x j a b c d => (g.1 x j a b c d).trans (h.1 x j a b c d), g.2.trans h.2⟩
theorem mF_A {σ τ : zS} (h : mA σ τ) : mF σ τ := ⟨fun x j a b c d => h.1 x j (by omega), h.2⟩
theorem mF_I {σ τ : zS} (h : mF σ τ) {x j : Nat} (v : Int32) (hx : x = 328 ∨ x = 330 ∨ x = 332 ∨ (x = 327 ∧ 15 ≤ j ∧ j ≤ 21)) : mF σ (sI τ x j v) := ⟨fun y i a b c d => by rw [gI_sI, if_neg (by omega)]; exact h.1 y i a b c d, h.2⟩
def oB (P : zPs) : Nat := (if P.o1 = true then 1 else 0) + (if P.o2 = true then 2 else 0) + (if P.o3 = true then 4 else 0)
/-- the bounds of a drive that is being read -/
def mBd (P : zPs) : Prop := P.U.nb ≤ 8 ∧ P.S.n ≤ 16 ∧ (∀ i, i < P.S.n → P.S.f i ≤ 100) ∧ (∀ j, j < 8 → P.S.tn j ≤ 4 ∧ ∀ p w, p < P.S.tn j → w < 3 → P.S.tr j p w ≤ 100) ∧ ∀ j, j < P.U.nb → -1 ≤ P.U.ca j ∧ P.U.ca j ≤ 7
def mDr (σ : zS) (P : zPs) : Prop := zRb (gI σ 328) P.U ∧ zNm (gI σ 330) P.U ∧ zRo (gI σ 332) 8 P.S ∧ gI σ 327 21 = zI (oB P : Int) ∧ mBd P
def mPS (σ : zS) (tx : Nat → Int) (n : Nat) (P : zPs) : Prop := mIn σ tx n ∧ mTk σ tx n P.q ∧ P.q ≤ n ∧ mDr σ P ∧ gI σ 327 15 = zI 0 ∧ gI σ 327 16 = zI (-1)
theorem mA_g {σ τ : zS} (h : mA σ τ) (x : Nat) (hx : x ≠ 327) : gI τ x = gI σ x := funext fun j => h.1 x j (by omega)
theorem mDr_A {σ τ : zS} {P : zPs} (h : mDr σ P) (e : mA σ τ) : mDr τ P := by
  obtain ⟨h1, h2, h3, h4, h5⟩ := h
  exact ⟨by rw [mA_g e 328 (by decide)]; exact h1, by rw [mA_g e 330 (by decide)]; exact h2, by rw [mA_g e 332 (by decide)]; exact h3, (e.1 327 21 (by omega)).trans h4, h5⟩
theorem mPS_A {σ τ : zS} {tx : Nat → Int} {n : Nat} {P : zPs} (h : mPS σ tx n P) (e : mA σ τ) (ht : mTk τ tx n (tE tx n P.q)) : mPS τ tx n (pAdv tx n P) :=
  ⟨mIn_A h.1 e, ht, (tE_n h.2.2.1).2.1, mDr_A h.2.2.2.1 e, (e.1 327 15 (by omega)).trans h.2.2.2.2.1, (e.1 327 16 (by omega)).trans h.2.2.2.2.2⟩
/-- told, if it is a fault -/
def mfW (σ : zS) (c b : Nat) : zS := sI (sI σ 327 15 (zI (c : Int))) 327 16 (zI (b : Int))
def mfC (σ : zS) (c b : Nat) : zS := if c = 0 then σ else mfW σ c b
theorem mfC_0 (σ : zS) (b : Nat) : mfC σ 0 b = σ := if_pos rfl
theorem mfC_s {σ : zS} {c b : Nat} (h : c ≠ 0) : mfC σ c b = mfW σ c b := if_neg h
theorem mF_fC (σ : zS) (c b : Nat) : mF σ (mfC σ c b) := by
  unfold mfC mfW
  split
  · exact mF_r σ
  · exact mF_I (mF_I (mF_r σ) _ (by omega)) _ (by omega)
/-- a step of the reader: its answer, its fault, the drive so far -/
def mR (σ τ : zS) (tx : Nat → Int) (n : Nat) (r : Int32) (c : Nat) (P : zPs) : Prop := r = zB (c = 0) ∧ mF σ τ ∧ (c = 0 → mPS τ tx n P) ∧ (c ≠ 0 → gI τ 327 15 = zI (c : Int) ∧ gI τ 327 16 = zI (tB tx n P.q : Int))
theorem mR_f {σ τ : zS} {tx : Nat → Int} {n c : Nat} {P : zPs} (hc : c ≠ 0) (h : mF σ τ) : mR σ (mfC τ c (tB tx n P.q)) tx n (zI 0) c P := by
  refine ⟨(zB_f hc).symm, mF_t h (mF_fC _ _ _), fun z => absurd z hc, fun _ => ?_⟩
  rw [mfC_s hc]
  exact ⟨by unfold mfW; rw [gI_sI, if_neg (by omega), gI_sI, if_pos ⟨rfl, rfl⟩], by unfold mfW; rw [gI_sI, if_pos ⟨rfl, rfl⟩]⟩
theorem mR_o {σ τ : zS} {tx : Nat → Int} {n : Nat} {P : zPs} (h : mF σ τ) (hP : mPS τ tx n P) : mR σ τ tx n (zI 1) 0 P := ⟨(zB_t rfl).symm, h, fun _ => hP, fun z => absurd rfl z⟩
theorem mR_t {σ τ υ : zS} {tx : Nat → Int} {n c : Nat} {r : Int32} {P : zPs} (h : mF σ τ) (g : mR τ υ tx n r c P) : mR σ υ tx n r c P := ⟨g.1, mF_t h g.2.1, g.2.2⟩
theorem mPS_w {σ : zS} {tx : Nat → Int} {n : Nat} {P : zPs} (h : mPS σ tx n P) : gI σ 327 17 = zI (tE tx n P.q : Int) ∧ gI σ 327 18 = zI (tB tx n P.q : Int) ∧ gI σ 327 20 = zI (tK tx n P.q : Int) := ⟨h.2.1.1, h.2.1.2.1, h.2.1.2.2.1⟩
theorem tE_L (tx : Nat → Int) {n q : Nat} (h : q ≤ n) : (tE tx n q : Int) = (tB tx n q : Int) + (tL tx n q : Int) ∧ tE tx n q ≤ n := by
  have := tE_n (tx := tx) h
  unfold tL
  omega
set_option maxRecDepth 20000 in
theorem c_X11_failsAt {l : Launch} (hfl : l.stackTraces = false) (E : zE) (σ : zS) (tx : Nat → Int) (n : Nat) (P : zPs) (k : Nat) (hP : mPS σ tx n P) (hk : k ≠ 0) : zRi l E yX11_failsAt cX11_failsAt 2 .boolean (zrm 0 0) [.ref (ob E 327), .int (zI (k : Int))] σ (fun r τ => r = zI 0 ∧ τ = mfC σ k (tB tx n P.q)) := by
  refine Met.ofW (cc := cX11_failsAt) (maxL := 2) (ret := (some .boolean)) (by decide +kernel) rfl ?_
  intro p e s m args below meth c s₁ B hml hv
  obtain ⟨rfl, hd⟩ := hv
  have C := zX_of (own := RX11) hfl B hml rfl hd rfl
  have hr := B.returns
  refine zV_go hd (Nat.le_of_ble_eq_true rfl) (lv := [(0, .ref (ob E 327)), (1, .int (zI (k : Int)))]) rfl ?_
  have hn9 := hP.1.2.1
  have hpe := hP.2.2.2.2.1
  have hpb := (mPS_w hP).2.1
  have hlq := tE_L tx hP.2.2.1
  have hkq := tK_b tx n P.q
  
  refine zv_aload_n C 0 dX11_failsAt_0 rfl rfl ?_
  refine zG10_15 C (by decide : kd 327 = _) kX11_99 dX11_failsAt_1 ?_
  refine zv_eqi (y := (zI 0)) (hpe) ?_
  refine zv_if_neZ (tgt := 20) C (by omega) dX11_failsAt_4 (by decide) (fun h4 => absurd h4 (by decide)) (fun h4 => ?_)
  refine zv_aload_n C 0 dX11_failsAt_7 rfl rfl ?_
  refine zv_iload_n C 1 dX11_failsAt_8 rfl rfl ?_
  refine zP10_15 C (by decide : kd 327 = _) kX11_99 dX11_failsAt_9 ?_
  refine zv_aload_n C 0 dX11_failsAt_12 rfl rfl ?_
  refine zv_aload_n C 0 dX11_failsAt_13 rfl rfl ?_
  refine zG10_18 C (by decide : kd 327 = _) kX11_82 dX11_failsAt_14 ?_
  refine zv_eqi (y := (zI (tB tx n P.q : Int))) (hpb) ?_
  refine zP10_16 C (by decide : kd 327 = _) kX11_102 dX11_failsAt_17 ?_
  refine zv_iconst (v := zI 0) C dX11_failsAt_20 rfl ?_
  exact zv_iret C hr rfl dX11_failsAt_21 ⟨rfl, by rw [mfC_s hk]; rfl⟩
set_option maxRecDepth 20000 in
theorem c_X11_isWord {l : Launch} (hfl : l.stackTraces = false) (E : zE) (σ : zS) (tx : Nat → Int) (n : Nat) (P : zPs) (w : Nat) (hP : mPS σ tx n P) (hw : w < 11) : zRi l E yX11_isWord cX11_isWord 3 .boolean (zrm 4 85) [.ref (ob E 327), .ref (cad E (20 + w))] σ (fun r τ => r = zB (tIs tx n P.q w) ∧ τ = σ) := by
  refine Met.ofW (cc := cX11_isWord) (maxL := 3) (ret := (some .boolean)) (by decide +kernel) rfl ?_
  intro p e s m args below meth c s₁ B hml hv
  obtain ⟨rfl, hd⟩ := hv
  have C := zX_of (own := RX11) hfl B hml rfl hd rfl
  have hr := B.returns
  refine zV_go hd (Nat.le_of_ble_eq_true rfl) (lv := [(0, .ref (ob E 327)), (1, .ref (cad E (20 + w)))]) rfl ?_
  have hn9 := hP.1.2.1
  have hpe := hP.2.2.2.2.1
  have hpb := (mPS_w hP).2.1
  have hlq := tE_L tx hP.2.2.1
  have hkq := tK_b tx n P.q
  have hsb := sN_b w hw
  refine zv_aload_n C 0 dX11_isWord_0 rfl rfl ?_
  refine zG10_20 C (by decide : kd 327 = _) kX11_88 dX11_isWord_1 ?_
  refine zv_eqi (y := (zI (tK tx n P.q : Int))) ((mPS_w hP).2.2) ?_
  refine zv_iconst (v := zI 1) C dX11_isWord_4 rfl ?_
  refine zv_icmp_neZ (tgt := 24) C (by omega) (by omega) dX11_isWord_5 (by decide) (fun h5 => ?_) (fun h5 => ?_)
  · skip
    have hno : ¬ tIs tx n P.q w := fun z => by have := z.1; omega
    refine zv_iconst (v := zI 0) C dX11_isWord_24 rfl ?_
    exact zv_iret C hr rfl dX11_isWord_25 ⟨(zB_f hno).symm, rfl⟩
  · skip
    have hk1 : tK tx n P.q = 1 := by omega
    have hls := (tK_1 hk1).2.2
    have hiw := tIs_s hk1 hw
    refine zv_aload_n C 0 dX11_isWord_8 rfl rfl ?_
    refine zG10_17 C (by decide : kd 327 = _) kX11_75 dX11_isWord_9 ?_
    refine zv_eqi (y := (zI (tE tx n P.q : Int))) ((mPS_w hP).1) ?_
    refine zv_aload_n C 0 dX11_isWord_12 rfl rfl ?_
    refine zG10_18 C (by decide : kd 327 = _) kX11_82 dX11_isWord_13 ?_
    refine zv_eqi (y := (zI (tB tx n P.q : Int))) (hpb) ?_
    refine zv_isubZ C dX11_isWord_16 ?_
    refine zv_aload_n C 1 dX11_isWord_17 rfl rfl ?_
    refine zv_cKiD (st := [.int (zI ((tE tx n P.q : Int) - (tB tx n P.q : Int)))]) C (c_J0_length_8abf5 hfl E σ w hw) mJ0_length_8abf5 kX11_105 hw rfl rfl ⟨rfl, rfl⟩ (show zfit (zrm 1 20) 1 (zrm 4 85) = true from rfl) (Nat.le_of_ble_eq_true rfl) dX11_isWord_18 ⟨Nat.zero_le _, Nat.zero_le _⟩ ?_
    refine zv_icmp_eqZ (tgt := 26) C (by omega) (by omega) dX11_isWord_21 (by decide) (fun h21 => ?_) (fun h21 => ?_)
    · skip
      refine zv_iconst (v := zI 0) C dX11_isWord_26 rfl ?_
      refine zv_istore_n (lv' := [(2, .int (zI 0)), (0, .ref (ob E 327)), (1, .ref (cad E (20 + w)))]) C dX11_isWord_27 rfl (by decide) rfl ?_
      have q28_32 : (0 : Int) = (0 : Int) := by first | rfl | omega
      refine zv_sub (lv' := [(0, .ref (ob E 327)), (1, .ref (cad E (20 + w))), (2, .int (zI (0 : Int)))]) [1, 2, 0] (zcons rfl (zcons rfl (zcons (zqI q28_32) rfl))) ?_
      refine zv_while (α := Nat) (fun v => zSn.getD w 0 - v) (fun v => v ≤ zSn.getD w 0 ∧ ∀ i, i < v → tx (tB tx n P.q + i) = (sC w i : Int)) (fun v => σ) (fun v => [(0, .ref (ob E 327)), (1, .ref (cad E (20 + w))), (2, .int (zI (v : Int)))]) (fun v => []) (fun j hI ih => ?_) (0) (⟨Nat.zero_le _, fun i hi => absurd hi (Nat.not_lt_zero i)⟩)
      obtain ⟨hJ, hJ2⟩ := hI
      refine zv_iload_n C 2 dX11_isWord_28 rfl rfl ?_
      refine zv_aload_n C 1 dX11_isWord_29 rfl rfl ?_
      refine zv_cKiD (st := [.int (zI (j : Int))]) C (c_J0_length_8abf5 hfl E σ w hw) mJ0_length_8abf5 kX11_105 hw rfl rfl ⟨rfl, rfl⟩ (show zfit (zrm 1 20) 1 (zrm 4 85) = true from rfl) (Nat.le_of_ble_eq_true rfl) dX11_isWord_30 ⟨Nat.zero_le _, Nat.zero_le _⟩ ?_
      refine zv_icmp_geZ (tgt := 63) C (by omega) (by omega) dX11_isWord_33 (by decide) (fun h33 => ?_) (fun h33 => ?_)
      · skip
        refine zv_iconst (v := zI 1) C dX11_isWord_63 rfl ?_
        exact zv_iret C hr rfl dX11_isWord_64 ⟨(zB_t (hiw.mpr ⟨by omega, fun i hi => hJ2 i (by omega)⟩)).symm, rfl⟩
      · skip
        have hlj := hls j (by omega)
        have hsj := (sC_e w hw j (by omega)).2
        refine zv_aload_n C 0 dX11_isWord_36 rfl rfl ?_
        refine zG10_11 C (by decide : kd 327 = _) kX11_34 dX11_isWord_37 ?_
        refine zv_aload_n C 0 dX11_isWord_40 rfl rfl ?_
        refine zG10_18 C (by decide : kd 327 = _) kX11_82 dX11_isWord_41 ?_
        refine zv_eqi (y := (zI (tB tx n P.q : Int))) (hpb) ?_
        refine zv_iload_n C 2 dX11_isWord_44 rfl rfl ?_
        refine zv_iaddZ C dX11_isWord_45 ?_
        refine zv_iald (j := tB tx n P.q + j) C (by decide : kd 336 = _) (zI_ix rfl) (Nat.lt_of_lt_of_eq (show tB tx n P.q + j < 900 by omega) (by decide)) dX11_isWord_46 ?_
        refine zv_eqi (y := (zI (tx (tB tx n P.q + j)))) (by rw [hP.1.2.2.1 _ (by omega)]; exact congrArg zI (by omega)) ?_
        refine zv_aload_n C 1 dX11_isWord_47 rfl rfl ?_
        refine zv_iload_n C 2 dX11_isWord_48 rfl rfl ?_
        refine zv_cKiD (st := [.int (zI (tx (tB tx n P.q + j)))]) C (c_J0_charAt_5068e hfl E σ w j hw (by omega)) mJ0_charAt_5068e kX11_111 hw rfl rfl ⟨rfl, rfl⟩ (show zfit (zrm 3 64) 2 (zrm 4 85) = true from rfl) (Nat.le_of_ble_eq_true rfl) dX11_isWord_49 ⟨Nat.zero_le _, Nat.zero_le _⟩ ?_
        refine zv_icmp_eqZ (tgt := 57) C (by omega) (by omega) dX11_isWord_52 (by decide) (fun h52 => ?_) (fun h52 => ?_)
        · skip
          refine zv_iinc (v := (zI ((j : Int) + 1))) (lv' := [(2, .int (zI ((j : Int) + 1))), (0, .ref (ob E 327)), (1, .ref (cad E (20 + w)))]) C 2 dX11_isWord_57 rfl (zI_add _ _) (by decide) rfl ?_
          refine zv_goto (tgt := 28) C dX11_isWord_60 (by decide) ?_
          have q28_62 : ((j : Int) + 1 : Int) = ((j + 1 : Nat) : Int) := by first | rfl | omega
          refine zv_sub (lv' := [(0, .ref (ob E 327)), (1, .ref (cad E (20 + w))), (2, .int (zI ((j + 1 : Nat) : Int)))]) [1, 2, 0] (zcons rfl (zcons rfl (zcons (zqI q28_62) rfl))) ?_
          exact ih (j + 1) (⟨by omega, fun i hi => (by rcases Nat.lt_or_ge i j with g | g; exact hJ2 i g; rw [show i = j by omega]; omega)⟩) (by omega)
        · skip
          have hno : ¬ tIs tx n P.q w := fun z => by have := (hiw.mp z).2 j (by omega); omega
          refine zv_iconst (v := zI 0) C dX11_isWord_55 rfl ?_
          exact zv_iret C hr rfl dX11_isWord_56 ⟨(zB_f hno).symm, rfl⟩
    · skip
      have hno : ¬ tIs tx n P.q w := fun z => by have := (hiw.mp z).1; omega
      refine zv_iconst (v := zI 0) C dX11_isWord_24 rfl ?_
      exact zv_iret C hr rfl dX11_isWord_25 ⟨(zB_f hno).symm, rfl⟩
set_option maxRecDepth 20000 in
theorem c_X11_takesWord {l : Launch} (hfl : l.stackTraces = false) (E : zE) (σ : zS) (tx : Nat → Int) (n : Nat) (P : zPs) (w : Nat) (hP : mPS σ tx n P) (hw : w < 11) : zRi l E yX11_takesWord cX11_takesWord 2 .boolean (zrm 5 107) [.ref (ob E 327), .ref (cad E (20 + w))] σ (fun r τ => r = zB (tIs tx n P.q w) ∧ mA σ τ ∧ mPS τ tx n (if tIs tx n P.q w then pAdv tx n P else P)) := by
  refine Met.ofW (cc := cX11_takesWord) (maxL := 2) (ret := (some .boolean)) (by decide +kernel) rfl ?_
  intro p e s m args below meth c s₁ B hml hv
  obtain ⟨rfl, hd⟩ := hv
  have C := zX_of (own := RX11) hfl B hml rfl hd rfl
  have hr := B.returns
  refine zV_go hd (Nat.le_of_ble_eq_true rfl) (lv := [(0, .ref (ob E 327)), (1, .ref (cad E (20 + w)))]) rfl ?_
  have hn9 := hP.1.2.1
  have hpe := hP.2.2.2.2.1
  have hpb := (mPS_w hP).2.1
  have hlq := tE_L tx hP.2.2.1
  have hkq := tK_b tx n P.q
  
  refine zv_aload_n C 0 dX11_takesWord_0 rfl rfl ?_
  refine zv_aload_n C 1 dX11_takesWord_1 rfl rfl ?_
  refine zv_cviD (st := []) C (c_X11_isWord hfl E σ tx n P w hP hw) mX11_isWord kX11_115 (by decide : kd 327 = 10) rfl rfl rfl ⟨rfl, rfl⟩ (show zfit (zrm 4 85) 3 (zrm 5 107) = true from rfl) (Nat.le_of_ble_eq_true rfl) dX11_takesWord_2 ⟨Nat.zero_le _, Nat.zero_le _⟩ ?_
  refine zv_if_neB (tgt := 10) C dX11_takesWord_5 (by decide) (fun h5 => ?_) (fun h5 => ?_)
  · skip
    refine zv_aload_n C 0 dX11_takesWord_10 rfl rfl ?_
    refine zv_cvv (st := []) C (c_X11_advanceToken hfl E σ tx n (tE tx n P.q) hP.1 hP.2.1.1 (tE_n hP.2.2.1).2.1) mX11_advanceToken kX11_119 (by decide : kd 327 = 10) rfl rfl rfl ⟨rfl, rfl⟩ (show zfit (zrm 1 25) 2 (zrm 5 107) = true from rfl) (Nat.le_of_ble_eq_true rfl) dX11_takesWord_11 ⟨Nat.zero_le _, Nat.zero_le _⟩ (fun τ1 hp11 => ?_)
    have hA1 : mPS τ1 tx n (pAdv tx n P) := mPS_A hP hp11.2 hp11.1
    have hA1f := mF_A hp11.2
    refine zv_iconst (v := zI 1) C dX11_takesWord_14 rfl ?_
    exact zv_iret C hr rfl dX11_takesWord_15 ⟨(zB_t h5).symm, hp11.2, by rw [if_pos h5]; exact hA1⟩
  · skip
    refine zv_iconst (v := zI 0) C dX11_takesWord_8 rfl ?_
    exact zv_iret C hr rfl dX11_takesWord_9 ⟨(zB_f h5).symm, mA_r σ, by rw [if_neg h5]; exact hP⟩
theorem pNum_e {tx : Nat → Int} {n q lo hi : Nat} (h : tK tx n q = 2) (h7 : tL tx n q ≤ 7) : (pNum tx n q lo hi = 0 ↔ (lo ≤ tV tx n q ∧ tV tx n q ≤ hi)) ∧ (¬ (lo ≤ tV tx n q ∧ tV tx n q ≤ hi) → pNum tx n q lo hi = 2) := by
  have hc := (tC_b tx n q).2.2.2.1.mpr ⟨h, h7⟩
  unfold pNum
  rw [if_pos hc]
  constructor
  · split
    · rename_i g; exact ⟨fun _ => g, fun _ => rfl⟩
    · rename_i g; exact ⟨fun z => absurd z (by decide), fun z => absurd z g⟩
  · intro g; exact if_neg g
theorem pNum_n {tx : Nat → Int} {n q lo hi : Nat} (h : ¬ (tK tx n q = 2 ∧ tL tx n q ≤ 7)) : pNum tx n q lo hi = 1 := by
  unfold pNum
  rw [if_neg (fun z => h ((tC_b tx n q).2.2.2.1.mp z))]
set_option maxRecDepth 20000 in
theorem c_X11_seesNumber {l : Launch} (hfl : l.stackTraces = false) (E : zE) (σ : zS) (tx : Nat → Int) (n : Nat) (P : zPs) (lo hi : Nat) (hP : mPS σ tx n P) (hlo : lo ≤ 10000000) (hhi : hi ≤ 10000000) : zRi l E yX11_seesNumber cX11_seesNumber 3 .boolean (zrm 1 25) [.ref (ob E 327), .int (zI (lo : Int)), .int (zI (hi : Int))] σ (fun r τ => r = zB (pNum tx n P.q lo hi = 0) ∧ τ = mfC σ (pNum tx n P.q lo hi) (tB tx n P.q)) := by
  refine Met.ofW (cc := cX11_seesNumber) (maxL := 3) (ret := (some .boolean)) (by decide +kernel) rfl ?_
  intro p e s m args below meth c s₁ B hml hv
  obtain ⟨rfl, hd⟩ := hv
  have C := zX_of (own := RX11) hfl B hml rfl hd rfl
  have hr := B.returns
  refine zV_go hd (Nat.le_of_ble_eq_true rfl) (lv := [(0, .ref (ob E 327)), (1, .int (zI (lo : Int))), (2, .int (zI (hi : Int)))]) rfl ?_
  have hn9 := hP.1.2.1
  have hpe := hP.2.2.2.2.1
  have hpb := (mPS_w hP).2.1
  have hlq := tE_L tx hP.2.2.1
  have hkq := tK_b tx n P.q
  
  refine zv_aload_n C 0 dX11_seesNumber_0 rfl rfl ?_
  refine zG10_20 C (by decide : kd 327 = _) kX11_88 dX11_seesNumber_1 ?_
  refine zv_eqi (y := (zI (tK tx n P.q : Int))) ((mPS_w hP).2.2) ?_
  refine zv_iconst (v := zI 2) C dX11_seesNumber_4 rfl ?_
  refine zv_icmp_neZ (tgt := 22) C (by omega) (by omega) dX11_seesNumber_5 (by decide) (fun h5 => ?_) (fun h5 => ?_)
  · skip
    have hc1 := pNum_n (lo := lo) (hi := hi) (show ¬ (tK tx n P.q = 2 ∧ tL tx n P.q ≤ 7) by omega)
    refine zv_aload_n C 0 dX11_seesNumber_22 rfl rfl ?_
    refine zv_iconst (v := zI 1) C dX11_seesNumber_23 rfl ?_
    refine zv_cviD (st := []) C (c_X11_failsAt hfl E σ tx n P 1 hP (by decide)) mX11_failsAt kX11_122 (by decide : kd 327 = 10) rfl rfl rfl ⟨rfl, rfl⟩ (show zfit (zrm 0 0) 2 (zrm 1 25) = true from rfl) (Nat.le_of_ble_eq_true rfl) dX11_seesNumber_24 ⟨Nat.zero_le _, Nat.zero_le _⟩ ?_
    exact zv_iret C hr rfl dX11_seesNumber_27 ⟨by rw [hc1]; rfl, by rw [hc1]⟩
  · skip
    refine zv_aload_n C 0 dX11_seesNumber_8 rfl rfl ?_
    refine zG10_17 C (by decide : kd 327 = _) kX11_75 dX11_seesNumber_9 ?_
    refine zv_eqi (y := (zI (tE tx n P.q : Int))) ((mPS_w hP).1) ?_
    refine zv_aload_n C 0 dX11_seesNumber_12 rfl rfl ?_
    refine zG10_18 C (by decide : kd 327 = _) kX11_82 dX11_seesNumber_13 ?_
    refine zv_eqi (y := (zI (tB tx n P.q : Int))) (hpb) ?_
    refine zv_isubZ C dX11_seesNumber_16 ?_
    refine zv_bipush (v := zI 7) C dX11_seesNumber_17 (by decide) ?_
    refine zv_icmp_leZ (tgt := 28) C (by omega) (by omega) dX11_seesNumber_19 (by decide) (fun h19 => ?_) (fun h19 => ?_)
    · skip
      have hk2 : tK tx n P.q = 2 := by omega
      have hl7 : tL tx n P.q ≤ 7 := by omega
      have hpn := pNum_e (lo := lo) (hi := hi) hk2 hl7
      have hvb := tV_b ((tC_b tx n P.q).2.2.2.1.mpr ⟨hk2, hl7⟩)
      have hval : gI σ 327 19 = zI (tV tx n P.q : Int) := by
        have := hP.2.1.2.2.2 hk2
        rw [Nat.min_eq_left hl7] at this
        exact this
      refine zv_aload_n C 0 dX11_seesNumber_28 rfl rfl ?_
      refine zG10_19 C (by decide : kd 327 = _) kX11_85 dX11_seesNumber_29 ?_
      refine zv_eqi (y := (zI (tV tx n P.q : Int))) (hval) ?_
      refine zv_i2lZ C (by omega) dX11_seesNumber_32 ?_
      refine zv_iload_n C 1 dX11_seesNumber_33 rfl rfl ?_
      refine zv_i2lZ C (by omega) dX11_seesNumber_34 ?_
      refine zv_iload_n C 2 dX11_seesNumber_35 rfl rfl ?_
      refine zv_i2lZ C (by omega) dX11_seesNumber_36 ?_
      refine zv_csiD (st := []) C (c_X11_inRange hfl E σ ((tV tx n P.q : Int)) ((lo : Int)) ((hi : Int)) (by omega) (by omega) (by omega)) mX11_inRange kX11_71 rfl ⟨rfl, rfl⟩ (show zfit (zrm 0 0) 6 (zrm 1 25) = true from rfl) (Nat.le_of_ble_eq_true rfl) dX11_seesNumber_37 ⟨Nat.zero_le _, Nat.zero_le _⟩ ?_
      refine zv_if_neB (tgt := 51) C dX11_seesNumber_40 (by decide) (fun h40 => ?_) (fun h40 => ?_)
      · skip
        refine zv_iconst (v := zI 1) C dX11_seesNumber_51 rfl ?_
        refine zv_goto (tgt := 56) C dX11_seesNumber_52 (by decide) ?_
        exact zv_iret C hr rfl dX11_seesNumber_56 (by have hz := hpn.1.mpr (by omega); rw [hz, mfC_0]; exact ⟨rfl, rfl⟩)
      · skip
        refine zv_aload_n C 0 dX11_seesNumber_43 rfl rfl ?_
        refine zv_iconst (v := zI 2) C dX11_seesNumber_44 rfl ?_
        refine zv_cviD (st := []) C (c_X11_failsAt hfl E σ tx n P 2 hP (by decide)) mX11_failsAt kX11_122 (by decide : kd 327 = 10) rfl rfl rfl ⟨rfl, rfl⟩ (show zfit (zrm 0 0) 2 (zrm 1 25) = true from rfl) (Nat.le_of_ble_eq_true rfl) dX11_seesNumber_45 ⟨Nat.zero_le _, Nat.zero_le _⟩ ?_
        refine zv_if_eqZ (tgt := 55) C (by omega) dX11_seesNumber_48 (by decide) (fun h48 => ?_) (fun h48 => absurd h48 (by decide))
        refine zv_iconst (v := zI 0) C dX11_seesNumber_55 rfl ?_
        exact zv_iret C hr rfl dX11_seesNumber_56 (by have hz := hpn.2 (by omega); rw [hz]; exact ⟨rfl, rfl⟩)
    · skip
      have hc1 := pNum_n (lo := lo) (hi := hi) (show ¬ (tK tx n P.q = 2 ∧ tL tx n P.q ≤ 7) by omega)
      refine zv_aload_n C 0 dX11_seesNumber_22 rfl rfl ?_
      refine zv_iconst (v := zI 1) C dX11_seesNumber_23 rfl ?_
      refine zv_cviD (st := []) C (c_X11_failsAt hfl E σ tx n P 1 hP (by decide)) mX11_failsAt kX11_122 (by decide : kd 327 = 10) rfl rfl rfl ⟨rfl, rfl⟩ (show zfit (zrm 0 0) 2 (zrm 1 25) = true from rfl) (Nat.le_of_ble_eq_true rfl) dX11_seesNumber_24 ⟨Nat.zero_le _, Nat.zero_le _⟩ ?_
      exact zv_iret C hr rfl dX11_seesNumber_27 ⟨by rw [hc1]; rfl, by rw [hc1]⟩
set_option maxRecDepth 20000 in
theorem c_X11_isKeyword {l : Launch} (hfl : l.stackTraces = false) (E : zE) (σ : zS) (tx : Nat → Int) (n : Nat) (P : zPs) (hP : mPS σ tx n P) : zRi l E yX11_isKeyword cX11_isKeyword 2 .boolean (zrm 5 107) [.ref (ob E 327)] σ (fun r τ => r = zB (tKw tx n P.q) ∧ τ = σ) := by
  refine Met.ofW (cc := cX11_isKeyword) (maxL := 2) (ret := (some .boolean)) (by decide +kernel) rfl ?_
  intro p e s m args below meth c s₁ B hml hv
  obtain ⟨rfl, hd⟩ := hv
  have C := zX_of (own := RX11) hfl B hml rfl hd rfl
  have hr := B.returns
  refine zV_go hd (Nat.le_of_ble_eq_true rfl) (lv := [(0, .ref (ob E 327))]) rfl ?_
  have hn9 := hP.1.2.1
  have hpe := hP.2.2.2.2.1
  have hpb := (mPS_w hP).2.1
  have hlq := tE_L tx hP.2.2.1
  have hkq := tK_b tx n P.q
  
  refine zv_aload_n C 0 dX11_isKeyword_0 rfl rfl ?_
  refine zv_ldcStr (i := 0) C (by decide) rfl rfl dX11_isKeyword_1 ?_
  refine zv_cviD (st := []) C (c_X11_isWord hfl E σ tx n P 0 hP (by decide)) mX11_isWord kX11_115 (by decide : kd 327 = 10) rfl rfl rfl ⟨rfl, rfl⟩ (show zfit (zrm 4 85) 3 (zrm 5 107) = true from rfl) (Nat.le_of_ble_eq_true rfl) dX11_isKeyword_3 ⟨Nat.zero_le _, Nat.zero_le _⟩ ?_
  refine zv_if_neB (tgt := 54) C dX11_isKeyword_6 (by decide) (fun h6 => ?_) (fun h6 => ?_)
  · skip
    have hex : tKw tx n P.q := (tKw_e _ _ _).mpr ⟨0, by decide, h6⟩
    refine zv_iconst (v := zI 1) C dX11_isKeyword_54 rfl ?_
    refine zv_goto (tgt := 59) C dX11_isKeyword_55 (by decide) ?_
    refine zv_istore_n (lv' := [(1, .int (zI 1)), (0, .ref (ob E 327))]) C dX11_isKeyword_59 rfl (by decide) rfl ?_
    refine zv_iload_n C 0 dX11_isKeyword_60 rfl rfl ?_
    refine zv_if_neZ (tgt := 109) C (by omega) dX11_isKeyword_61 (by decide) (fun h61 => ?_) (fun h61 => absurd h61 (by decide))
    refine zv_iconst (v := zI 1) C dX11_isKeyword_109 rfl ?_
    refine zv_goto (tgt := 114) C dX11_isKeyword_110 (by decide) ?_
    exact zv_iret C hr rfl dX11_isKeyword_114 ⟨(zB_t hex).symm, rfl⟩
  · skip
    refine zv_aload_n C 0 dX11_isKeyword_9 rfl rfl ?_
    refine zv_ldcStr (i := 1) C (by decide) rfl rfl dX11_isKeyword_10 ?_
    refine zv_cviD (st := []) C (c_X11_isWord hfl E σ tx n P 1 hP (by decide)) mX11_isWord kX11_115 (by decide : kd 327 = 10) rfl rfl rfl ⟨rfl, rfl⟩ (show zfit (zrm 4 85) 3 (zrm 5 107) = true from rfl) (Nat.le_of_ble_eq_true rfl) dX11_isKeyword_12 ⟨Nat.zero_le _, Nat.zero_le _⟩ ?_
    refine zv_if_neB (tgt := 54) C dX11_isKeyword_15 (by decide) (fun h15 => ?_) (fun h15 => ?_)
    · skip
      have hex : tKw tx n P.q := (tKw_e _ _ _).mpr ⟨1, by decide, h15⟩
      refine zv_iconst (v := zI 1) C dX11_isKeyword_54 rfl ?_
      refine zv_goto (tgt := 59) C dX11_isKeyword_55 (by decide) ?_
      refine zv_istore_n (lv' := [(1, .int (zI 1)), (0, .ref (ob E 327))]) C dX11_isKeyword_59 rfl (by decide) rfl ?_
      refine zv_iload_n C 0 dX11_isKeyword_60 rfl rfl ?_
      refine zv_if_neZ (tgt := 109) C (by omega) dX11_isKeyword_61 (by decide) (fun h61 => ?_) (fun h61 => absurd h61 (by decide))
      refine zv_iconst (v := zI 1) C dX11_isKeyword_109 rfl ?_
      refine zv_goto (tgt := 114) C dX11_isKeyword_110 (by decide) ?_
      exact zv_iret C hr rfl dX11_isKeyword_114 ⟨(zB_t hex).symm, rfl⟩
    · skip
      refine zv_aload_n C 0 dX11_isKeyword_18 rfl rfl ?_
      refine zv_ldcStr (i := 2) C (by decide) rfl rfl dX11_isKeyword_19 ?_
      refine zv_cviD (st := []) C (c_X11_isWord hfl E σ tx n P 2 hP (by decide)) mX11_isWord kX11_115 (by decide : kd 327 = 10) rfl rfl rfl ⟨rfl, rfl⟩ (show zfit (zrm 4 85) 3 (zrm 5 107) = true from rfl) (Nat.le_of_ble_eq_true rfl) dX11_isKeyword_21 ⟨Nat.zero_le _, Nat.zero_le _⟩ ?_
      refine zv_if_neB (tgt := 54) C dX11_isKeyword_24 (by decide) (fun h24 => ?_) (fun h24 => ?_)
      · skip
        have hex : tKw tx n P.q := (tKw_e _ _ _).mpr ⟨2, by decide, h24⟩
        refine zv_iconst (v := zI 1) C dX11_isKeyword_54 rfl ?_
        refine zv_goto (tgt := 59) C dX11_isKeyword_55 (by decide) ?_
        refine zv_istore_n (lv' := [(1, .int (zI 1)), (0, .ref (ob E 327))]) C dX11_isKeyword_59 rfl (by decide) rfl ?_
        refine zv_iload_n C 0 dX11_isKeyword_60 rfl rfl ?_
        refine zv_if_neZ (tgt := 109) C (by omega) dX11_isKeyword_61 (by decide) (fun h61 => ?_) (fun h61 => absurd h61 (by decide))
        refine zv_iconst (v := zI 1) C dX11_isKeyword_109 rfl ?_
        refine zv_goto (tgt := 114) C dX11_isKeyword_110 (by decide) ?_
        exact zv_iret C hr rfl dX11_isKeyword_114 ⟨(zB_t hex).symm, rfl⟩
      · skip
        refine zv_aload_n C 0 dX11_isKeyword_27 rfl rfl ?_
        refine zv_ldcStr (i := 3) C (by decide) rfl rfl dX11_isKeyword_28 ?_
        refine zv_cviD (st := []) C (c_X11_isWord hfl E σ tx n P 3 hP (by decide)) mX11_isWord kX11_115 (by decide : kd 327 = 10) rfl rfl rfl ⟨rfl, rfl⟩ (show zfit (zrm 4 85) 3 (zrm 5 107) = true from rfl) (Nat.le_of_ble_eq_true rfl) dX11_isKeyword_30 ⟨Nat.zero_le _, Nat.zero_le _⟩ ?_
        refine zv_if_neB (tgt := 54) C dX11_isKeyword_33 (by decide) (fun h33 => ?_) (fun h33 => ?_)
        · skip
          have hex : tKw tx n P.q := (tKw_e _ _ _).mpr ⟨3, by decide, h33⟩
          refine zv_iconst (v := zI 1) C dX11_isKeyword_54 rfl ?_
          refine zv_goto (tgt := 59) C dX11_isKeyword_55 (by decide) ?_
          refine zv_istore_n (lv' := [(1, .int (zI 1)), (0, .ref (ob E 327))]) C dX11_isKeyword_59 rfl (by decide) rfl ?_
          refine zv_iload_n C 0 dX11_isKeyword_60 rfl rfl ?_
          refine zv_if_neZ (tgt := 109) C (by omega) dX11_isKeyword_61 (by decide) (fun h61 => ?_) (fun h61 => absurd h61 (by decide))
          refine zv_iconst (v := zI 1) C dX11_isKeyword_109 rfl ?_
          refine zv_goto (tgt := 114) C dX11_isKeyword_110 (by decide) ?_
          exact zv_iret C hr rfl dX11_isKeyword_114 ⟨(zB_t hex).symm, rfl⟩
        · skip
          refine zv_aload_n C 0 dX11_isKeyword_36 rfl rfl ?_
          refine zv_ldcStr (i := 4) C (by decide) rfl rfl dX11_isKeyword_37 ?_
          refine zv_cviD (st := []) C (c_X11_isWord hfl E σ tx n P 4 hP (by decide)) mX11_isWord kX11_115 (by decide : kd 327 = 10) rfl rfl rfl ⟨rfl, rfl⟩ (show zfit (zrm 4 85) 3 (zrm 5 107) = true from rfl) (Nat.le_of_ble_eq_true rfl) dX11_isKeyword_39 ⟨Nat.zero_le _, Nat.zero_le _⟩ ?_
          refine zv_if_neB (tgt := 54) C dX11_isKeyword_42 (by decide) (fun h42 => ?_) (fun h42 => ?_)
          · skip
            have hex : tKw tx n P.q := (tKw_e _ _ _).mpr ⟨4, by decide, h42⟩
            refine zv_iconst (v := zI 1) C dX11_isKeyword_54 rfl ?_
            refine zv_goto (tgt := 59) C dX11_isKeyword_55 (by decide) ?_
            refine zv_istore_n (lv' := [(1, .int (zI 1)), (0, .ref (ob E 327))]) C dX11_isKeyword_59 rfl (by decide) rfl ?_
            refine zv_iload_n C 0 dX11_isKeyword_60 rfl rfl ?_
            refine zv_if_neZ (tgt := 109) C (by omega) dX11_isKeyword_61 (by decide) (fun h61 => ?_) (fun h61 => absurd h61 (by decide))
            refine zv_iconst (v := zI 1) C dX11_isKeyword_109 rfl ?_
            refine zv_goto (tgt := 114) C dX11_isKeyword_110 (by decide) ?_
            exact zv_iret C hr rfl dX11_isKeyword_114 ⟨(zB_t hex).symm, rfl⟩
          · skip
            refine zv_aload_n C 0 dX11_isKeyword_45 rfl rfl ?_
            refine zv_ldcStr (i := 5) C (by decide) rfl rfl dX11_isKeyword_46 ?_
            refine zv_cviD (st := []) C (c_X11_isWord hfl E σ tx n P 5 hP (by decide)) mX11_isWord kX11_115 (by decide : kd 327 = 10) rfl rfl rfl ⟨rfl, rfl⟩ (show zfit (zrm 4 85) 3 (zrm 5 107) = true from rfl) (Nat.le_of_ble_eq_true rfl) dX11_isKeyword_48 ⟨Nat.zero_le _, Nat.zero_le _⟩ ?_
            refine zv_if_eqB (tgt := 58) C dX11_isKeyword_51 (by decide) (fun h51 => ?_) (fun h51 => ?_)
            · skip
              refine zv_iconst (v := zI 0) C dX11_isKeyword_58 rfl ?_
              refine zv_istore_n (lv' := [(1, .int (zI 0)), (0, .ref (ob E 327))]) C dX11_isKeyword_59 rfl (by decide) rfl ?_
              refine zv_iload_n C 0 dX11_isKeyword_60 rfl rfl ?_
              refine zv_if_neZ (tgt := 109) C (by omega) dX11_isKeyword_61 (by decide) (fun h61 => absurd h61 (by decide)) (fun h61 => ?_)
              refine zv_aload_n C 1 dX11_isKeyword_64 rfl rfl ?_
              refine zv_ldcStr (i := 6) C (by decide) rfl rfl dX11_isKeyword_65 ?_
              refine zv_cviD (st := []) C (c_X11_isWord hfl E σ tx n P 6 hP (by decide)) mX11_isWord kX11_115 (by decide : kd 327 = 10) rfl rfl rfl ⟨rfl, rfl⟩ (show zfit (zrm 4 85) 3 (zrm 5 107) = true from rfl) (Nat.le_of_ble_eq_true rfl) dX11_isKeyword_67 ⟨Nat.zero_le _, Nat.zero_le _⟩ ?_
              refine zv_if_neB (tgt := 109) C dX11_isKeyword_70 (by decide) (fun h70 => ?_) (fun h70 => ?_)
              · skip
                have hex : tKw tx n P.q := (tKw_e _ _ _).mpr ⟨6, by decide, h70⟩
                refine zv_iconst (v := zI 1) C dX11_isKeyword_109 rfl ?_
                refine zv_goto (tgt := 114) C dX11_isKeyword_110 (by decide) ?_
                exact zv_iret C hr rfl dX11_isKeyword_114 ⟨(zB_t hex).symm, rfl⟩
              · skip
                refine zv_aload_n C 1 dX11_isKeyword_73 rfl rfl ?_
                refine zv_ldcStr (i := 7) C (by decide) rfl rfl dX11_isKeyword_74 ?_
                refine zv_cviD (st := []) C (c_X11_isWord hfl E σ tx n P 7 hP (by decide)) mX11_isWord kX11_115 (by decide : kd 327 = 10) rfl rfl rfl ⟨rfl, rfl⟩ (show zfit (zrm 4 85) 3 (zrm 5 107) = true from rfl) (Nat.le_of_ble_eq_true rfl) dX11_isKeyword_76 ⟨Nat.zero_le _, Nat.zero_le _⟩ ?_
                refine zv_if_neB (tgt := 109) C dX11_isKeyword_79 (by decide) (fun h79 => ?_) (fun h79 => ?_)
                · skip
                  have hex : tKw tx n P.q := (tKw_e _ _ _).mpr ⟨7, by decide, h79⟩
                  refine zv_iconst (v := zI 1) C dX11_isKeyword_109 rfl ?_
                  refine zv_goto (tgt := 114) C dX11_isKeyword_110 (by decide) ?_
                  exact zv_iret C hr rfl dX11_isKeyword_114 ⟨(zB_t hex).symm, rfl⟩
                · skip
                  refine zv_aload_n C 1 dX11_isKeyword_82 rfl rfl ?_
                  refine zv_ldcStr (i := 8) C (by decide) rfl rfl dX11_isKeyword_83 ?_
                  refine zv_cviD (st := []) C (c_X11_isWord hfl E σ tx n P 8 hP (by decide)) mX11_isWord kX11_115 (by decide : kd 327 = 10) rfl rfl rfl ⟨rfl, rfl⟩ (show zfit (zrm 4 85) 3 (zrm 5 107) = true from rfl) (Nat.le_of_ble_eq_true rfl) dX11_isKeyword_85 ⟨Nat.zero_le _, Nat.zero_le _⟩ ?_
                  refine zv_if_neB (tgt := 109) C dX11_isKeyword_88 (by decide) (fun h88 => ?_) (fun h88 => ?_)
                  · skip
                    have hex : tKw tx n P.q := (tKw_e _ _ _).mpr ⟨8, by decide, h88⟩
                    refine zv_iconst (v := zI 1) C dX11_isKeyword_109 rfl ?_
                    refine zv_goto (tgt := 114) C dX11_isKeyword_110 (by decide) ?_
                    exact zv_iret C hr rfl dX11_isKeyword_114 ⟨(zB_t hex).symm, rfl⟩
                  · skip
                    refine zv_aload_n C 1 dX11_isKeyword_91 rfl rfl ?_
                    refine zv_ldcStr (i := 9) C (by decide) rfl rfl dX11_isKeyword_92 ?_
                    refine zv_cviD (st := []) C (c_X11_isWord hfl E σ tx n P 9 hP (by decide)) mX11_isWord kX11_115 (by decide : kd 327 = 10) rfl rfl rfl ⟨rfl, rfl⟩ (show zfit (zrm 4 85) 3 (zrm 5 107) = true from rfl) (Nat.le_of_ble_eq_true rfl) dX11_isKeyword_94 ⟨Nat.zero_le _, Nat.zero_le _⟩ ?_
                    refine zv_if_neB (tgt := 109) C dX11_isKeyword_97 (by decide) (fun h97 => ?_) (fun h97 => ?_)
                    · skip
                      have hex : tKw tx n P.q := (tKw_e _ _ _).mpr ⟨9, by decide, h97⟩
                      refine zv_iconst (v := zI 1) C dX11_isKeyword_109 rfl ?_
                      refine zv_goto (tgt := 114) C dX11_isKeyword_110 (by decide) ?_
                      exact zv_iret C hr rfl dX11_isKeyword_114 ⟨(zB_t hex).symm, rfl⟩
                    · skip
                      refine zv_aload_n C 1 dX11_isKeyword_100 rfl rfl ?_
                      refine zv_ldcStr (i := 10) C (by decide) rfl rfl dX11_isKeyword_101 ?_
                      refine zv_cviD (st := []) C (c_X11_isWord hfl E σ tx n P 10 hP (by decide)) mX11_isWord kX11_115 (by decide : kd 327 = 10) rfl rfl rfl ⟨rfl, rfl⟩ (show zfit (zrm 4 85) 3 (zrm 5 107) = true from rfl) (Nat.le_of_ble_eq_true rfl) dX11_isKeyword_103 ⟨Nat.zero_le _, Nat.zero_le _⟩ ?_
                      refine zv_if_eqB (tgt := 113) C dX11_isKeyword_106 (by decide) (fun h106 => ?_) (fun h106 => ?_)
                      · skip
                        refine zv_iconst (v := zI 0) C dX11_isKeyword_113 rfl ?_
                        exact zv_iret C hr rfl dX11_isKeyword_114 ⟨(zB_f (fun hz => by rcases hz with g | g | g | g | g | g | g | g | g | g | g <;> contradiction)).symm, rfl⟩
                      · skip
                        have hex : tKw tx n P.q := (tKw_e _ _ _).mpr ⟨10, by decide, h106⟩
                        refine zv_iconst (v := zI 1) C dX11_isKeyword_109 rfl ?_
                        refine zv_goto (tgt := 114) C dX11_isKeyword_110 (by decide) ?_
                        exact zv_iret C hr rfl dX11_isKeyword_114 ⟨(zB_t hex).symm, rfl⟩
            · skip
              have hex : tKw tx n P.q := (tKw_e _ _ _).mpr ⟨5, by decide, h51⟩
              refine zv_iconst (v := zI 1) C dX11_isKeyword_54 rfl ?_
              refine zv_goto (tgt := 59) C dX11_isKeyword_55 (by decide) ?_
              refine zv_istore_n (lv' := [(1, .int (zI 1)), (0, .ref (ob E 327))]) C dX11_isKeyword_59 rfl (by decide) rfl ?_
              refine zv_iload_n C 0 dX11_isKeyword_60 rfl rfl ?_
              refine zv_if_neZ (tgt := 109) C (by omega) dX11_isKeyword_61 (by decide) (fun h61 => ?_) (fun h61 => absurd h61 (by decide))
              refine zv_iconst (v := zI 1) C dX11_isKeyword_109 rfl ?_
              refine zv_goto (tgt := 114) C dX11_isKeyword_110 (by decide) ?_
              exact zv_iret C hr rfl dX11_isKeyword_114 ⟨(zB_t hex).symm, rfl⟩
theorem tNm_w {tx : Nat → Int} {n q : Nat} (h1 : tK tx n q = 1) (h8 : tL tx n q ≤ 8) : tNm tx n q ↔ ¬ tKw tx n q := by
  rw [tKw_e]
  constructor
  · rintro ⟨-, -, h⟩ ⟨w, hw, -, -, he⟩
    exact h ((zWl_mem _).mpr ⟨w, hw, he.symm⟩)
  · intro h
    refine ⟨h1, h8, fun hm => ?_⟩
    obtain ⟨w, hw, he⟩ := (zWl_mem _).mp hm
    exact h ⟨w, hw, h1, h8, he.symm⟩
theorem pNam_t {tx : Nat → Int} {n q : Nat} (h : tNm tx n q) : pNam tx n q = 0 := if_pos h
theorem pNam_f {tx : Nat → Int} {n q : Nat} (h : ¬ tNm tx n q) : pNam tx n q = 1 := if_neg h
set_option maxRecDepth 20000 in
theorem c_X11_seesName {l : Launch} (hfl : l.stackTraces = false) (E : zE) (σ : zS) (tx : Nat → Int) (n : Nat) (P : zPs) (hP : mPS σ tx n P) : zRi l E yX11_seesName cX11_seesName 1 .boolean (zrm 6 128) [.ref (ob E 327)] σ (fun r τ => r = zB (pNam tx n P.q = 0) ∧ τ = mfC σ (pNam tx n P.q) (tB tx n P.q)) := by
  refine Met.ofW (cc := cX11_seesName) (maxL := 1) (ret := (some .boolean)) (by decide +kernel) rfl ?_
  intro p e s m args below meth c s₁ B hml hv
  obtain ⟨rfl, hd⟩ := hv
  have C := zX_of (own := RX11) hfl B hml rfl hd rfl
  have hr := B.returns
  refine zV_go hd (Nat.le_of_ble_eq_true rfl) (lv := [(0, .ref (ob E 327))]) rfl ?_
  have hn9 := hP.1.2.1
  have hpe := hP.2.2.2.2.1
  have hpb := (mPS_w hP).2.1
  have hlq := tE_L tx hP.2.2.1
  have hkq := tK_b tx n P.q
  
  refine zv_aload_n C 0 dX11_seesName_0 rfl rfl ?_
  refine zG10_20 C (by decide : kd 327 = _) kX11_88 dX11_seesName_1 ?_
  refine zv_eqi (y := (zI (tK tx n P.q : Int))) ((mPS_w hP).2.2) ?_
  refine zv_iconst (v := zI 1) C dX11_seesName_4 rfl ?_
  refine zv_icmp_neZ (tgt := 29) C (by omega) (by omega) dX11_seesName_5 (by decide) (fun h5 => ?_) (fun h5 => ?_)
  · skip
    have hno : ¬ tNm tx n P.q := fun z => by have := z.1; omega
    refine zv_aload_n C 0 dX11_seesName_29 rfl rfl ?_
    refine zv_iconst (v := zI 1) C dX11_seesName_30 rfl ?_
    refine zv_cviD (st := []) C (c_X11_failsAt hfl E σ tx n P 1 hP (by decide)) mX11_failsAt kX11_122 (by decide : kd 327 = 10) rfl rfl rfl ⟨rfl, rfl⟩ (show zfit (zrm 0 0) 2 (zrm 6 128) = true from rfl) (Nat.le_of_ble_eq_true rfl) dX11_seesName_31 ⟨Nat.zero_le _, Nat.zero_le _⟩ ?_
    refine zv_if_eqZ (tgt := 41) C (by omega) dX11_seesName_34 (by decide) (fun h34 => ?_) (fun h34 => absurd h34 (by decide))
    refine zv_iconst (v := zI 0) C dX11_seesName_41 rfl ?_
    exact zv_iret C hr rfl dX11_seesName_42 (by rw [pNam_f hno]; exact ⟨rfl, rfl⟩)
  · skip
    refine zv_aload_n C 0 dX11_seesName_8 rfl rfl ?_
    refine zG10_17 C (by decide : kd 327 = _) kX11_75 dX11_seesName_9 ?_
    refine zv_eqi (y := (zI (tE tx n P.q : Int))) ((mPS_w hP).1) ?_
    refine zv_aload_n C 0 dX11_seesName_12 rfl rfl ?_
    refine zG10_18 C (by decide : kd 327 = _) kX11_82 dX11_seesName_13 ?_
    refine zv_eqi (y := (zI (tB tx n P.q : Int))) (hpb) ?_
    refine zv_isubZ C dX11_seesName_16 ?_
    refine zv_bipush (v := zI 8) C dX11_seesName_17 (by decide) ?_
    refine zv_icmp_gtZ (tgt := 29) C (by omega) (by omega) dX11_seesName_19 (by decide) (fun h19 => ?_) (fun h19 => ?_)
    · skip
      have hno : ¬ tNm tx n P.q := fun z => by have := z.2.1; omega
      refine zv_aload_n C 0 dX11_seesName_29 rfl rfl ?_
      refine zv_iconst (v := zI 1) C dX11_seesName_30 rfl ?_
      refine zv_cviD (st := []) C (c_X11_failsAt hfl E σ tx n P 1 hP (by decide)) mX11_failsAt kX11_122 (by decide : kd 327 = 10) rfl rfl rfl ⟨rfl, rfl⟩ (show zfit (zrm 0 0) 2 (zrm 6 128) = true from rfl) (Nat.le_of_ble_eq_true rfl) dX11_seesName_31 ⟨Nat.zero_le _, Nat.zero_le _⟩ ?_
      refine zv_if_eqZ (tgt := 41) C (by omega) dX11_seesName_34 (by decide) (fun h34 => ?_) (fun h34 => absurd h34 (by decide))
      refine zv_iconst (v := zI 0) C dX11_seesName_41 rfl ?_
      exact zv_iret C hr rfl dX11_seesName_42 (by rw [pNam_f hno]; exact ⟨rfl, rfl⟩)
    · skip
      refine zv_aload_n C 0 dX11_seesName_22 rfl rfl ?_
      refine zv_cviD (st := []) C (c_X11_isKeyword hfl E σ tx n P hP) mX11_isKeyword kX11_148 (by decide : kd 327 = 10) rfl rfl rfl ⟨rfl, rfl⟩ (show zfit (zrm 5 107) 2 (zrm 6 128) = true from rfl) (Nat.le_of_ble_eq_true rfl) dX11_seesName_23 ⟨Nat.zero_le _, Nat.zero_le _⟩ ?_
      refine zv_if_eqB (tgt := 37) C dX11_seesName_26 (by decide) (fun h26 => ?_) (fun h26 => ?_)
      · skip
        have hyes : tNm tx n P.q := (tNm_w (by omega) (by omega)).mpr h26
        refine zv_iconst (v := zI 1) C dX11_seesName_37 rfl ?_
        refine zv_goto (tgt := 42) C dX11_seesName_38 (by decide) ?_
        exact zv_iret C hr rfl dX11_seesName_42 (by rw [pNam_t hyes, mfC_0]; exact ⟨rfl, rfl⟩)
      · skip
        have hno : ¬ tNm tx n P.q := fun z => (tNm_w (by omega) (by omega)).mp z h26
        refine zv_aload_n C 0 dX11_seesName_29 rfl rfl ?_
        refine zv_iconst (v := zI 1) C dX11_seesName_30 rfl ?_
        refine zv_cviD (st := []) C (c_X11_failsAt hfl E σ tx n P 1 hP (by decide)) mX11_failsAt kX11_122 (by decide : kd 327 = 10) rfl rfl rfl ⟨rfl, rfl⟩ (show zfit (zrm 0 0) 2 (zrm 6 128) = true from rfl) (Nat.le_of_ble_eq_true rfl) dX11_seesName_31 ⟨Nat.zero_le _, Nat.zero_le _⟩ ?_
        refine zv_if_eqZ (tgt := 41) C (by omega) dX11_seesName_34 (by decide) (fun h34 => ?_) (fun h34 => absurd h34 (by decide))
        refine zv_iconst (v := zI 0) C dX11_seesName_41 rfl ?_
        exact zv_iret C hr rfl dX11_seesName_42 (by rw [pNam_f hno]; exact ⟨rfl, rfl⟩)
