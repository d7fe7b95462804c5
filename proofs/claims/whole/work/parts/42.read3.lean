theorem sIn_hi (f : Nat → Nat) (t : Nat) : ∀ n i, sIn f t n ≤ i → i < n → t < f i := by
  intro n
  induction n with
  | zero => intro i _ h; omega
  | succ n ih =>
    intro i h1 h2
    simp only [sIn] at h1
    split at h1
    · rename_i g
      rcases Nat.lt_or_ge i n with z | z
      · exact ih i h1 z
      · rw [show i = n by omega]; exact g
    · omega
theorem sIn_lo (f : Nat → Nat) (t : Nat) : ∀ n, 0 < sIn f t n → ¬ t < f (sIn f t n - 1) := by
  intro n
  induction n with
  | zero => intro h; exact absurd h (Nat.lt_irrefl 0)
  | succ n ih =>
    intro h
    simp only [sIn] at h ⊢
    split
    · rename_i g
      rw [if_pos g] at h
      exact ih h
    · rename_i g
      exact g
theorem sHas_f {f : Nat → Nat} {t : Int} : ∀ {n : Nat}, sHas f t n = false → ∀ i, i < n → (f i : Int) ≠ t := by
  intro n
  induction n with
  | zero => intro _ i h; omega
  | succ n ih =>
    intro h i hi
    simp only [sHas, Bool.or_eq_false_iff, decide_eq_false_iff_not] at h
    rcases Nat.lt_or_ge i n with z | z
    · exact ih h.1 i z
    · rw [show i = n by omega]; exact h.2
def sInF (f : Nat → Nat) (t n : Nat) : Nat → Nat := fun i => if i < sIn f t n then f i else if i = sIn f t n then t else f (i - 1)
theorem sInF_up {f : Nat → Nat} {t n : Nat} (hs : ∀ i j, i < j → j < n → f i < f j) (hh : sHas f (t : Int) n = false) : ∀ i j, i < j → j < n + 1 → sInF f t n i < sInF f t n j := by
  intro i j hij hj
  have hp := sIn_le f t n
  have hlo : ∀ x, x < sIn f t n → f x < t := by
    intro x hx
    have h1 := sIn_lo f t n (by omega)
    have h2 := sHas_f hh x (by omega)
    rcases Nat.lt_or_ge x (sIn f t n - 1) with g | g
    · have := hs x (sIn f t n - 1) g (by omega); omega
    · rw [show x = sIn f t n - 1 by omega] at h2 ⊢; omega
  have hhi := sIn_hi f t n
  unfold sInF
  split
  · rename_i a
    split
    · exact hs i j hij (by omega)
    · split
      · exact hlo i a
      · have h1 := hlo i a
        have h2 := hhi (j - 1) (by omega) (by omega)
        omega
  · split
    · rename_i a b
      rw [if_neg (by omega), if_neg (by omega)]
      exact hhi (j - 1) (by omega) (by omega)
    · rw [if_neg (by omega), if_neg (by omega)]
      exact hs (i - 1) (j - 1) (by omega) (by omega)
theorem sInF_b {f : Nat → Nat} {t n : Nat} (hs : ∀ i, i < n → 8 ≤ f i ∧ f i ≤ 100) (ht : 8 ≤ t ∧ t ≤ 100) : ∀ i, i < n + 1 → 8 ≤ sInF f t n i ∧ sInF f t n i ≤ 100 := by
  intro i hi
  have hp := sIn_le f t n
  unfold sInF
  split
  · exact hs i (by omega)
  · split
    · exact ht
    · exact hs (i - 1) (by omega)
def zST.ins (S : zST) (v : Nat) : zST := zST.mk (S.n + 1) (sInF S.f v S.n) S.sl S.dy S.lg S.tn S.tr
theorem zSTp_ins {σ : zS} {k : Nat} {S : zST} {v : Nat} (h : zSTp σ k S) (hn : S.n < 16) (hh : sHas S.f (v : Int) S.n = false) (hv : 8 ≤ v ∧ v ≤ 100) : zSTp (sI (inI σ (k + 1) (sIn S.f v S.n) S.n (zI (v : Int))) k 1 (zI ((S.n + 1 : Nat) : Int))) k (S.ins v) := by
  obtain ⟨h1, h2, h3, h4, h5, h6, h7⟩ := h
  have e : ∀ x y, (x ≠ k + 1) → (x ≠ k ∨ y ≠ 1) → gI (sI (inI σ (k + 1) (sIn S.f v S.n) S.n (zI (v : Int))) k 1 (zI ((S.n + 1 : Nat) : Int))) x y = gI σ x y := by
    intro x y g1 g2
    rw [gI_sI, if_neg (by omega), gI_inI, if_neg (by omega), if_neg (by omega)]
  have hb := sInF_b (f := S.f) (t := v) (n := S.n) (fun i hi => ⟨h2 i hi, h1.2.2.2 i hi⟩) hv
  refine ⟨⟨by rw [gI_sI, if_pos ⟨rfl, rfl⟩]; rfl, by show S.n + 1 ≤ 16; omega, fun i hi => ?_, fun i hi => (hb i hi).2⟩, fun i hi => (hb i hi).1, sInF_up h3 hh, ⟨(e k 2 (by omega) (by omega)).trans h4.1, h4.2⟩, (e k 3 (by omega) (by omega)).trans h5, fun i hi => (e (k + 2) i (by omega) (by omega)).trans (h6 i hi),
    fun j hj => ⟨zTr_w (h7 j hj).1 (fun x y a b => e x y (by omega) (by omega)), (h7 j hj).2⟩⟩
  have hi' : i < S.n + 1 := hi
  show gI _ (k + 1) i = zI (sInF S.f v S.n i : Int)
  rw [gI_sI, if_neg (by omega), gI_inI]
  unfold sInF
  rcases Nat.lt_trichotomy i (sIn S.f v S.n) with g | g | g
  · rw [if_neg (by omega), if_neg (by omega), if_pos g]; exact h1.2.2.1 i (by have := sIn_le S.f v S.n; omega)
  · rw [if_pos ⟨rfl, g⟩, if_neg (by omega), if_pos g]
  · rw [if_neg (by omega), if_pos ⟨rfl, g, by omega⟩, if_neg (by omega), if_neg (by omega)]; exact h1.2.2.1 (i - 1) (by omega)
theorem zPS_ins {σ : zS} {tx : Nat → Int} {n : Nat} {P : zPs} {v : Nat} (h : zPS σ tx n P) (hn : P.S.n < 16) (hh : sHas P.S.f (v : Int) P.S.n = false) (hv : 8 ≤ v ∧ v ≤ 100) : zPS (sI (inI σ 10 (sIn P.S.f v P.S.n) P.S.n (zI (v : Int))) 9 1 (zI ((P.S.n + 1 : Nat) : Int))) tx n (P.sS (P.S.ins v)) := by
  have e : ∀ x y, (x ≠ 10) → (x ≠ 9 ∨ y ≠ 1) → gI (sI (inI σ 10 (sIn P.S.f v P.S.n) P.S.n (zI (v : Int))) 9 1 (zI ((P.S.n + 1 : Nat) : Int))) x y = gI σ x y := by
    intro x y g1 g2
    rw [gI_sI, if_neg (by omega), gI_inI, if_neg (by omega), if_neg (by omega)]
  exact zPS_dr h (fun x y hx => ⟨e x y (by omega) (by omega), rfl⟩) (zSUp_w h.2.2.2.1 (fun x y a b => ⟨e x y (by omega) (by omega), rfl⟩)) (zSTp_ins (k := 9) h.2.2.2.2.1 hn hh hv)
/-- the stock's numbers -/
def pStk (tx : Nat → Int) (n : Nat) : Nat → Bool → zPs → Nat × zPs
  | 0, _, P => (0, P)
  | m + 1, b, P =>
    if b = false ∧ tC tx n P.q ≠ 2 then (0, P) else if pNum tx n P.q 8 100 ≠ 0 then (pNum tx n P.q 8 100, P) else
    if ¬ (P.S.n < 16 ∧ sHas P.S.f (tV tx n P.q : Int) P.S.n = false) then (4, P) else pStk tx n m false (pAdv tx n (P.sS (P.S.ins (tV tx n P.q))))
theorem pStk_a {tx : Nat → Int} {n m : Nat} {P : zPs} (h : tC tx n P.q ≠ 2) : pStk tx n (m + 1) false P = (0, P) := by rw [pStk, if_pos ⟨rfl, h⟩]
theorem pStk_b {tx : Nat → Int} {n m : Nat} {b : Bool} {P : zPs} (h : b = true ∨ tC tx n P.q = 2) (h2 : ¬ pNum tx n P.q 8 100 = 0) : pStk tx n (m + 1) b P = (pNum tx n P.q 8 100, P) := by
  rw [pStk, if_neg (fun z => h.elim (fun q => by rw [q] at z; cases z.1) (fun q => z.2 q)), if_pos h2]
theorem pStk_c {tx : Nat → Int} {n m : Nat} {b : Bool} {P : zPs} (h : b = true ∨ tC tx n P.q = 2) (h2 : pNum tx n P.q 8 100 = 0) (h3 : ¬ (P.S.n < 16 ∧ sHas P.S.f (tV tx n P.q : Int) P.S.n = false)) : pStk tx n (m + 1) b P = (4, P) := by
  rw [pStk, if_neg (fun z => h.elim (fun q => by rw [q] at z; cases z.1) (fun q => z.2 q)), if_neg (fun z => z h2), if_pos h3]
theorem pStk_d {tx : Nat → Int} {n m : Nat} {b : Bool} {P : zPs} (h : b = true ∨ tC tx n P.q = 2) (h2 : pNum tx n P.q 8 100 = 0) (h3 : P.S.n < 16 ∧ sHas P.S.f (tV tx n P.q : Int) P.S.n = false) : pStk tx n (m + 1) b P = pStk tx n m false (pAdv tx n (P.sS (P.S.ins (tV tx n P.q)))) := by
  rw [pStk, if_neg (fun z => h.elim (fun q => by rw [q] at z; cases z.1) (fun q => z.2 q)), if_neg (fun z => z h2), if_neg (fun z => z h3)]
def pStock (tx : Nat → Int) (n : Nat) (P : zPs) : Nat × zPs := if P.o1 = true then (4, P) else pStk tx n 17 true (pAdv tx n P.so1)
set_option maxRecDepth 20000 in
theorem c_X5_readStock {l : Launch} (hfl : l.stackTraces = false) (E : zE) (σ : zS) (tx : Nat → Int) (n : Nat) (P : zPs) (hP : zPS σ tx n P) : zRi l E yX5_readStock cX5_readStock 2 .boolean (zrm 2 43) [.ref (ob E 1)] σ (fun r τ => r = zB ((pStock tx n P).1 = 0) ∧ zRd σ τ tx n (pStock tx n P).1 (pStock tx n P).2) := by
  refine Met.ofW (cc := cX5_readStock) (maxL := 2) (ret := (some .boolean)) (by decide +kernel) rfl ?_
  intro p e s m args below meth c s₁ B hml hv
  obtain ⟨rfl, hd⟩ := hv
  have C := zX_of (own := RX5) hfl B hml rfl hd rfl
  have hr := B.returns
  refine zV_go hd (Nat.le_of_ble_eq_true rfl) (lv := [(0, .ref (ob E 1))]) rfl ?_
  refine zv_aload_n C 0 dX5_readStock_0 rfl rfl ?_
  refine zG5_5 C (by decide : kd 1 = _) kX5_39 dX5_readStock_1 ?_
  refine zv_eqi (y := (zB (P.o1 = true))) (hP.2.2.2.2.2.1) ?_
  refine zv_if_eqB (tgt := 13) C dX5_readStock_4 (by decide) (fun h4 => ?_) (fun h4 => ?_)
  · skip
    have hB : zPS (sI σ 1 5 (zI 1)) tx n P.so1 := zPS_flag hP true P.o2 P.o3 (Or.inl ⟨rfl, rfl, rfl, rfl⟩)
    refine zv_aload_n C 0 dX5_readStock_13 rfl rfl ?_
    refine zv_iconst (v := zI 1) C dX5_readStock_14 rfl ?_
    refine zP5_5 C (by decide : kd 1 = _) (Or.inr rfl) kX5_39 dX5_readStock_15 ?_
    refine zv_aload_n C 0 dX5_readStock_18 rfl rfl ?_
    refine zG5_0 C (by decide : kd 1 = _) kX5_12 dX5_readStock_19 ?_
    refine zv_cvv (st := []) C (c_X7_advance hfl E (sI σ 1 5 (zI 1)) tx n (tE tx n P.so1.q) hB.1 hB.2.1.2.2.1 (tE_n hB.2.2.1).2.1) mX7_advance kX5_110 (by decide : kd 2 = 7) rfl rfl rfl ⟨rfl, rfl⟩ (show zfit (zrm 1 21) 1 (zrm 2 43) = true from rfl) (Nat.le_of_ble_eq_true rfl) dX5_readStock_22 ⟨Nat.zero_le _, Nat.zero_le _⟩ (fun τ22 hp22 => ?_)
    have hA22 := zPS_adv hB hp22.1 hp22.2.1 hp22.2.2
    refine zv_iconst (v := zI 0) C dX5_readStock_25 rfl ?_
    refine zv_istore_n (lv' := [(1, .int (zI 0)), (0, .ref (ob E 1))]) C dX5_readStock_26 rfl (by decide) rfl ?_
    have q27_15 : (0 : Int) = (0 : Int) := by first | rfl | omega
    refine zv_sub (lv' := [(0, .ref (ob E 1)), (1, .int (zI (0 : Int)))]) [1, 0] (zcons rfl (zcons (zqI q27_15) rfl)) ?_
    refine zv_eqS (τ := τ22) (rfl) ?_
    refine zv_while (α := Nat × zPs × zS) (fun v => 17 - v.1) (fun v => v.1 ≤ 17 ∧ zPS v.2.2 tx n v.2.1 ∧ zKp σ v.2.2 ∧ pStk tx n (17 - v.1) (decide (v.1 = 0)) v.2.1 = pStk tx n 17 true (pAdv tx n P.so1)) (fun v => v.2.2) (fun v => [(0, .ref (ob E 1)), (1, .int (zI (v.1 : Int)))]) (fun v => []) (fun v hI ih => ?_) ((0, pAdv tx n P.so1, τ22)) (⟨Nat.zero_le _, hA22, zKp_fr (zKp_I (zKp_refl σ) (by decide) (by decide)) hp22.2.1, rfl⟩)
    obtain ⟨i, y, u⟩ := v
    dsimp only at hI ih ⊢
    obtain ⟨hI, hY, hK, hE⟩ := hI
    have hcy := tC_b tx n y.q
    refine zv_iload_n C 1 dX5_readStock_27 rfl rfl ?_
    refine zv_bipush (v := zI 16) C dX5_readStock_28 (by decide) ?_
    refine zv_icmp_gtZ (tgt := 111) C (by omega) (by omega) dX5_readStock_30 (by decide) (fun h30 => ?_) (fun h30 => ?_)
    · skip
      have hpS : pStock tx n P = (0, y) := by rw [pStock, if_neg h4, ← hE, show 17 - i = 0 by omega]; rfl
      refine zv_iconst (v := zI 1) C dX5_readStock_111 rfl ?_
      exact zv_iret C hr rfl dX5_readStock_112 ⟨by rw [hpS]; rfl, by rw [hpS]; exact zRd_ok hY hK⟩
    · skip
      obtain ⟨w, hw⟩ : ∃ w, 17 - i = w + 1 := ⟨16 - i, by omega⟩
      rw [hw] at hE
      refine zv_iload_n C 1 dX5_readStock_33 rfl rfl ?_
      refine zv_if_eqZ (tgt := 48) C (by omega) dX5_readStock_34 (by decide) (fun h34 => ?_) (fun h34 => ?_)
      · skip
        have hfst : decide (i = 0) = true ∨ tC tx n y.q = 2 := Or.inl (decide_eq_true (by omega))
        refine zv_aload_n C 0 dX5_readStock_48 rfl rfl ?_
        refine zv_bipush (v := zI 8) C dX5_readStock_49 (by decide) ?_
        refine zv_bipush (v := zI 100) C dX5_readStock_51 (by decide) ?_
        refine zv_cviD (st := []) C (c_X5_numberStands hfl E u tx n y.q 8 100 hY.2.1 (by decide) (by decide)) mX5_numberStands kX5_119 (by decide : kd 1 = 5) rfl rfl rfl ⟨rfl, rfl⟩ (show zfit (zrm 1 21) 3 (zrm 2 43) = true from rfl) (Nat.le_of_ble_eq_true rfl) dX5_readStock_53 ⟨Nat.zero_le _, Nat.zero_le _⟩ ?_
        refine zv_if_neB (tgt := 61) C dX5_readStock_56 (by decide) (fun h56 => ?_) (fun h56 => ?_)
        · skip
          refine zv_eqS (τ := u) (by rw [h56]; exact fC_0 _ _) ?_
          have hn0 := pNum_0 h56
          refine zv_aload_n C 0 dX5_readStock_61 rfl rfl ?_
          refine zG5_2 C (by decide : kd 1 = _) kX5_28 dX5_readStock_62 ?_
          refine zv_aload_n C 0 dX5_readStock_65 rfl rfl ?_
          refine zG5_0 C (by decide : kd 1 = _) kX5_12 dX5_readStock_66 ?_
          refine zG7_5 C (by decide : kd 2 = _) kX5_113 dX5_readStock_69 ?_
          refine zv_eqi (y := (zI (tV tx n y.q : Int))) (zTk_v hY.2.1 hn0.1) ?_
          refine zv_cviD (st := []) C (c_X6_canTakeStock hfl E u 9 y.S.n y.S.f (tV tx n y.q : Int) (by decide) hY.2.2.2.2.1.1 (by omega)) mX6_canTakeStock kX5_123 (by decide : kd 9 = 6) rfl rfl rfl ⟨rfl, rfl⟩ (show zfit (zrm 1 22) 2 (zrm 2 43) = true from rfl) (Nat.le_of_ble_eq_true rfl) dX5_readStock_72 ⟨Nat.zero_le _, Nat.zero_le _⟩ ?_
          refine zv_if_neB (tgt := 84) C dX5_readStock_75 (by decide) (fun h75 => ?_) (fun h75 => ?_)
          · skip
            have hD := zPS_ins hY h75.1 h75.2 (v := tV tx n y.q) hn0.2
            have hKi : zKp u (sI (inI u 10 (sIn y.S.f (tV tx n y.q) y.S.n) y.S.n (zI (tV tx n y.q : Int))) 9 1 (zI ((y.S.n + 1 : Nat) : Int))) := zKp_I ⟨⟨fun x z g => by rw [gI_inI, if_neg (by omega), if_neg (by omega)], fun x z g => rfl, fun x z => rfl⟩, by rw [gI_inI, if_neg (by omega), if_neg (by omega)], by rw [gI_inI, if_neg (by omega), if_neg (by omega)]⟩ (by decide) (by decide)
            refine zv_aload_n C 0 dX5_readStock_84 rfl rfl ?_
            refine zG5_2 C (by decide : kd 1 = _) kX5_28 dX5_readStock_85 ?_
            refine zv_aload_n C 0 dX5_readStock_88 rfl rfl ?_
            refine zG5_0 C (by decide : kd 1 = _) kX5_12 dX5_readStock_89 ?_
            refine zG7_5 C (by decide : kd 2 = _) kX5_113 dX5_readStock_92 ?_
            refine zv_eqi (y := (zI (tV tx n y.q : Int))) (zTk_v hY.2.1 hn0.1) ?_
            refine zv_cvvD (st := []) C (c_X6_insertStock hfl E u 9 y.S.n y.S.f (tV tx n y.q) (by decide) hY.2.2.2.2.1.1 h75.1 hn0.2.2) mX6_insertStock kX5_126 (by decide : kd 9 = 6) rfl rfl rfl ⟨rfl, rfl⟩ (show zfit (zrm 0 0) 3 (zrm 2 43) = true from rfl) (Nat.le_of_ble_eq_true rfl) dX5_readStock_95 ⟨Nat.zero_le _, Nat.zero_le _⟩ ?_
            refine zv_aload_n C 0 dX5_readStock_98 rfl rfl ?_
            refine zG5_0 C (by decide : kd 1 = _) kX5_12 dX5_readStock_99 ?_
            refine zv_cvv (st := []) C (c_X7_advance hfl E (sI (inI u 10 (sIn y.S.f (tV tx n y.q) y.S.n) y.S.n (zI (tV tx n y.q : Int))) 9 1 (zI ((y.S.n + 1 : Nat) : Int))) tx n (tE tx n (y.sS (y.S.ins (tV tx n y.q))).q) hD.1 hD.2.1.2.2.1 (tE_n hD.2.2.1).2.1) mX7_advance kX5_110 (by decide : kd 2 = 7) rfl rfl rfl ⟨rfl, rfl⟩ (show zfit (zrm 1 21) 1 (zrm 2 43) = true from rfl) (Nat.le_of_ble_eq_true rfl) dX5_readStock_102 ⟨Nat.zero_le _, Nat.zero_le _⟩ (fun τ102 hp102 => ?_)
            have hA102 := zPS_adv hD hp102.1 hp102.2.1 hp102.2.2
            refine zv_iinc (v := (zI ((i : Int) + 1))) (lv' := [(1, .int (zI ((i : Int) + 1))), (0, .ref (ob E 1))]) C 1 dX5_readStock_105 rfl (zI_add _ _) (by decide) rfl ?_
            refine zv_goto (tgt := 27) C dX5_readStock_108 (by decide) ?_
            have q27_69 : ((i : Int) + 1 : Int) = ((i + 1 : Nat) : Int) := by first | rfl | omega
            refine zv_sub (lv' := [(0, .ref (ob E 1)), (1, .int (zI ((i + 1 : Nat) : Int)))]) [1, 0] (zcons rfl (zcons (zqI q27_69) rfl)) ?_
            refine zv_eqS (τ := τ102) (rfl) ?_
            exact ih ((i + 1, pAdv tx n (y.sS (y.S.ins (tV tx n y.q))), τ102)) (⟨by show i + 1 ≤ 17; omega, hA102, zKp_fr (zKp_tr hK hKi) hp102.2.1, (by show pStk tx n (17 - (i + 1)) (decide (i + 1 = 0)) _ = _; rw [← hE, pStk_d hfst h56 h75, show 17 - (i + 1) = w by omega]; rfl)⟩) (by show 17 - (i + 1) < 17 - i; omega)
          · skip
            have hpS : pStock tx n P = (4, y) := by rw [pStock, if_neg h4, ← hE, pStk_c hfst h56 h75]
            refine zv_aload_n C 0 dX5_readStock_78 rfl rfl ?_
            refine zv_iconst (v := zI 4) C dX5_readStock_79 rfl ?_
            refine zv_cviD (st := []) C (c_X5_fail hfl E u 4 (tB tx n y.q) hY.2.1.2.1) mX5_fail kX5_106 (by decide : kd 1 = 5) rfl rfl rfl ⟨rfl, rfl⟩ (show zfit (zrm 0 0) 2 (zrm 2 43) = true from rfl) (Nat.le_of_ble_eq_true rfl) dX5_readStock_80 ⟨Nat.zero_le _, Nat.zero_le _⟩ ?_
            exact zv_iret C hr rfl dX5_readStock_83 ⟨by rw [hpS]; rfl, by rw [hpS]; exact zRd_no (by decide) hK⟩
        · skip
          have hpS : pStock tx n P = (pNum tx n y.q 8 100, y) := by rw [pStock, if_neg h4, ← hE, pStk_b hfst h56]
          refine zv_iconst (v := zI 0) C dX5_readStock_59 rfl ?_
          exact zv_iret C hr rfl dX5_readStock_60 ⟨by rw [hpS]; exact (zB_f h56).symm, by rw [hpS, fC_s h56]; exact zRd_no h56 hK⟩
      · skip
        refine zv_aload_n C 0 dX5_readStock_37 rfl rfl ?_
        refine zG5_0 C (by decide : kd 1 = _) kX5_12 dX5_readStock_38 ?_
        refine zG7_2 C (by decide : kd 2 = _) kX5_56 dX5_readStock_41 ?_
        refine zv_eqi (y := (zI (tC tx n y.q : Int))) (zTk_c hY.2.1) ?_
        refine zv_iconst (v := zI 2) C dX5_readStock_44 rfl ?_
        refine zv_icmp_neZ (tgt := 111) C (by omega) (by omega) dX5_readStock_45 (by decide) (fun h45 => ?_) (fun h45 => ?_)
        · skip
          have hpS : pStock tx n P = (0, y) := by rw [pStock, if_neg h4, ← hE, decide_eq_false (by omega), pStk_a (by omega)]
          refine zv_iconst (v := zI 1) C dX5_readStock_111 rfl ?_
          exact zv_iret C hr rfl dX5_readStock_112 ⟨by rw [hpS]; rfl, by rw [hpS]; exact zRd_ok hY hK⟩
        · skip
          have hfst : decide (i = 0) = true ∨ tC tx n y.q = 2 := Or.inr (by omega)
          refine zv_aload_n C 0 dX5_readStock_48 rfl rfl ?_
          refine zv_bipush (v := zI 8) C dX5_readStock_49 (by decide) ?_
          refine zv_bipush (v := zI 100) C dX5_readStock_51 (by decide) ?_
          refine zv_cviD (st := []) C (c_X5_numberStands hfl E u tx n y.q 8 100 hY.2.1 (by decide) (by decide)) mX5_numberStands kX5_119 (by decide : kd 1 = 5) rfl rfl rfl ⟨rfl, rfl⟩ (show zfit (zrm 1 21) 3 (zrm 2 43) = true from rfl) (Nat.le_of_ble_eq_true rfl) dX5_readStock_53 ⟨Nat.zero_le _, Nat.zero_le _⟩ ?_
          refine zv_if_neB (tgt := 61) C dX5_readStock_56 (by decide) (fun h56 => ?_) (fun h56 => ?_)
          · skip
            refine zv_eqS (τ := u) (by rw [h56]; exact fC_0 _ _) ?_
            have hn0 := pNum_0 h56
            refine zv_aload_n C 0 dX5_readStock_61 rfl rfl ?_
            refine zG5_2 C (by decide : kd 1 = _) kX5_28 dX5_readStock_62 ?_
            refine zv_aload_n C 0 dX5_readStock_65 rfl rfl ?_
            refine zG5_0 C (by decide : kd 1 = _) kX5_12 dX5_readStock_66 ?_
            refine zG7_5 C (by decide : kd 2 = _) kX5_113 dX5_readStock_69 ?_
            refine zv_eqi (y := (zI (tV tx n y.q : Int))) (zTk_v hY.2.1 hn0.1) ?_
            refine zv_cviD (st := []) C (c_X6_canTakeStock hfl E u 9 y.S.n y.S.f (tV tx n y.q : Int) (by decide) hY.2.2.2.2.1.1 (by omega)) mX6_canTakeStock kX5_123 (by decide : kd 9 = 6) rfl rfl rfl ⟨rfl, rfl⟩ (show zfit (zrm 1 22) 2 (zrm 2 43) = true from rfl) (Nat.le_of_ble_eq_true rfl) dX5_readStock_72 ⟨Nat.zero_le _, Nat.zero_le _⟩ ?_
            refine zv_if_neB (tgt := 84) C dX5_readStock_75 (by decide) (fun h75 => ?_) (fun h75 => ?_)
            · skip
              have hD := zPS_ins hY h75.1 h75.2 (v := tV tx n y.q) hn0.2
              have hKi : zKp u (sI (inI u 10 (sIn y.S.f (tV tx n y.q) y.S.n) y.S.n (zI (tV tx n y.q : Int))) 9 1 (zI ((y.S.n + 1 : Nat) : Int))) := zKp_I ⟨⟨fun x z g => by rw [gI_inI, if_neg (by omega), if_neg (by omega)], fun x z g => rfl, fun x z => rfl⟩, by rw [gI_inI, if_neg (by omega), if_neg (by omega)], by rw [gI_inI, if_neg (by omega), if_neg (by omega)]⟩ (by decide) (by decide)
              refine zv_aload_n C 0 dX5_readStock_84 rfl rfl ?_
              refine zG5_2 C (by decide : kd 1 = _) kX5_28 dX5_readStock_85 ?_
              refine zv_aload_n C 0 dX5_readStock_88 rfl rfl ?_
              refine zG5_0 C (by decide : kd 1 = _) kX5_12 dX5_readStock_89 ?_
              refine zG7_5 C (by decide : kd 2 = _) kX5_113 dX5_readStock_92 ?_
              refine zv_eqi (y := (zI (tV tx n y.q : Int))) (zTk_v hY.2.1 hn0.1) ?_
              refine zv_cvvD (st := []) C (c_X6_insertStock hfl E u 9 y.S.n y.S.f (tV tx n y.q) (by decide) hY.2.2.2.2.1.1 h75.1 hn0.2.2) mX6_insertStock kX5_126 (by decide : kd 9 = 6) rfl rfl rfl ⟨rfl, rfl⟩ (show zfit (zrm 0 0) 3 (zrm 2 43) = true from rfl) (Nat.le_of_ble_eq_true rfl) dX5_readStock_95 ⟨Nat.zero_le _, Nat.zero_le _⟩ ?_
              refine zv_aload_n C 0 dX5_readStock_98 rfl rfl ?_
              refine zG5_0 C (by decide : kd 1 = _) kX5_12 dX5_readStock_99 ?_
              refine zv_cvv (st := []) C (c_X7_advance hfl E (sI (inI u 10 (sIn y.S.f (tV tx n y.q) y.S.n) y.S.n (zI (tV tx n y.q : Int))) 9 1 (zI ((y.S.n + 1 : Nat) : Int))) tx n (tE tx n (y.sS (y.S.ins (tV tx n y.q))).q) hD.1 hD.2.1.2.2.1 (tE_n hD.2.2.1).2.1) mX7_advance kX5_110 (by decide : kd 2 = 7) rfl rfl rfl ⟨rfl, rfl⟩ (show zfit (zrm 1 21) 1 (zrm 2 43) = true from rfl) (Nat.le_of_ble_eq_true rfl) dX5_readStock_102 ⟨Nat.zero_le _, Nat.zero_le _⟩ (fun τ102 hp102 => ?_)
              have hA102 := zPS_adv hD hp102.1 hp102.2.1 hp102.2.2
              refine zv_iinc (v := (zI ((i : Int) + 1))) (lv' := [(1, .int (zI ((i : Int) + 1))), (0, .ref (ob E 1))]) C 1 dX5_readStock_105 rfl (zI_add _ _) (by decide) rfl ?_
              refine zv_goto (tgt := 27) C dX5_readStock_108 (by decide) ?_
              have q27_128 : ((i : Int) + 1 : Int) = ((i + 1 : Nat) : Int) := by first | rfl | omega
              refine zv_sub (lv' := [(0, .ref (ob E 1)), (1, .int (zI ((i + 1 : Nat) : Int)))]) [1, 0] (zcons rfl (zcons (zqI q27_128) rfl)) ?_
              refine zv_eqS (τ := τ102) (rfl) ?_
              exact ih ((i + 1, pAdv tx n (y.sS (y.S.ins (tV tx n y.q))), τ102)) (⟨by show i + 1 ≤ 17; omega, hA102, zKp_fr (zKp_tr hK hKi) hp102.2.1, (by show pStk tx n (17 - (i + 1)) (decide (i + 1 = 0)) _ = _; rw [← hE, pStk_d hfst h56 h75, show 17 - (i + 1) = w by omega]; rfl)⟩) (by show 17 - (i + 1) < 17 - i; omega)
            · skip
              have hpS : pStock tx n P = (4, y) := by rw [pStock, if_neg h4, ← hE, pStk_c hfst h56 h75]
              refine zv_aload_n C 0 dX5_readStock_78 rfl rfl ?_
              refine zv_iconst (v := zI 4) C dX5_readStock_79 rfl ?_
              refine zv_cviD (st := []) C (c_X5_fail hfl E u 4 (tB tx n y.q) hY.2.1.2.1) mX5_fail kX5_106 (by decide : kd 1 = 5) rfl rfl rfl ⟨rfl, rfl⟩ (show zfit (zrm 0 0) 2 (zrm 2 43) = true from rfl) (Nat.le_of_ble_eq_true rfl) dX5_readStock_80 ⟨Nat.zero_le _, Nat.zero_le _⟩ ?_
              exact zv_iret C hr rfl dX5_readStock_83 ⟨by rw [hpS]; rfl, by rw [hpS]; exact zRd_no (by decide) hK⟩
          · skip
            have hpS : pStock tx n P = (pNum tx n y.q 8 100, y) := by rw [pStock, if_neg h4, ← hE, pStk_b hfst h56]
            refine zv_iconst (v := zI 0) C dX5_readStock_59 rfl ?_
            exact zv_iret C hr rfl dX5_readStock_60 ⟨by rw [hpS]; exact (zB_f h56).symm, by rw [hpS, fC_s h56]; exact zRd_no h56 hK⟩
  · skip
    have hp : pStock tx n P = (4, P) := if_pos h4
    refine zv_aload_n C 0 dX5_readStock_7 rfl rfl ?_
    refine zv_iconst (v := zI 4) C dX5_readStock_8 rfl ?_
    refine zv_cviD (st := []) C (c_X5_fail hfl E σ 4 (tB tx n P.q) hP.2.1.2.1) mX5_fail kX5_106 (by decide : kd 1 = 5) rfl rfl rfl ⟨rfl, rfl⟩ (show zfit (zrm 0 0) 2 (zrm 2 43) = true from rfl) (Nat.le_of_ble_eq_true rfl) dX5_readStock_9 ⟨Nat.zero_le _, Nat.zero_le _⟩ ?_
    exact zv_iret C hr rfl dX5_readStock_12 ⟨by rw [hp]; rfl, by rw [hp]; exact zRd_no (by decide) (zKp_refl σ)⟩
