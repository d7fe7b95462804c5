def zST.apd (S : zST) (j a b d : Nat) : zST := zST.mk S.n S.f S.sl S.dy S.lg (fun i => if i = j then S.tn j + 1 else S.tn i) (fun i => if i = j then (fun x w => if x = S.tn j then (if w = 0 then a else if w = 1 then b else d) else S.tr j x w) else S.tr i)
theorem tGe_c {c e : Nat → Nat → Nat} : ∀ n, (∀ i, i < n → c i 0 = e i 0) → tGe c n = tGe e n := by
  intro n
  induction n with
  | zero => intro _; rfl
  | succ n ih => intro h; simp only [tGe]; rw [ih (fun i hi => h i (by omega)), h n (by omega)]
theorem zTr_apd {σ : zS} {k n a b d : Nat} {tc : Nat → Nat → Nat} (hT : zTr σ k n tc) (hw : zTw n tc) (hn : n < 4) (ha : a ≤ 2) (hg : a = 2 ∨ tGe tc n < 2) (hb : 8 ≤ b ∧ b ≤ 100) (hd1 : a = 2 → d = 0) (hd2 : a ≠ 2 → 8 ≤ d ∧ d ≤ 100) :
    zTr (sI (sI (sI (sI σ (k + 1) (3 * n + 0) (zI (a : Int))) (k + 1) (3 * n + 1) (zI (b : Int))) (k + 1) (3 * n + 2) (zI (d : Int))) k 1 (zI ((n + 1 : Nat) : Int))) k (n + 1) (fun x w => if x = n then (if w = 0 then a else if w = 1 then b else d) else tc x w) ∧ zTw (n + 1) (fun x w => if x = n then (if w = 0 then a else if w = 1 then b else d) else tc x w) := by
  have hd100 : d ≤ 100 := by
    rcases Classical.em (a = 2) with q | q
    · rw [hd1 q]; omega
    · exact (hd2 q).2
  refine ⟨⟨by rw [gI_sI, if_pos ⟨rfl, rfl⟩], by omega, fun i w hi hw3 => ?_, fun i w hi hw3 => ?_⟩, by omega, ?_, fun i hi => ?_⟩
  · simp only [gI_sI]
    rw [if_neg (by omega)]
    rcases Classical.em (i = n) with q | q
    · subst q
      rw [if_pos rfl]
      rcases (show w = 0 ∨ w = 1 ∨ w = 2 by omega) with z | z | z
      · subst z; rw [if_neg (by omega), if_neg (by omega), if_pos ⟨trivial, rfl⟩, if_pos rfl]
      · subst z; rw [if_neg (by omega), if_pos ⟨trivial, rfl⟩, if_neg (by omega), if_pos rfl]
      · subst z; rw [if_pos ⟨trivial, rfl⟩, if_neg (by omega), if_neg (by omega)]
    · rw [if_neg (by omega), if_neg (by omega), if_neg (by omega), if_neg q]
      exact hT.2.2.1 i w (by omega) hw3
  · show (if i = n then (if w = 0 then a else if w = 1 then b else d) else tc i w) ≤ 100
    split
    · split
      · omega
      · split <;> omega
    · exact hT.2.2.2 i w (by omega) hw3
  · simp only [tGe]
    rw [tGe_c (e := tc) n (fun i hi => by show (if i = n then _ else tc i 0) = _; rw [if_neg (by omega)])]
    have h2 := hw.2.1
    show tGe tc n + (if a = 2 then 0 else 1) ≤ 2
    split <;> omega
  · show (if i = n then a else tc i 0) ≤ 2 ∧ 8 ≤ (if i = n then b else tc i 1) ∧ (if i = n then b else tc i 1) ≤ 100 ∧ ((if i = n then a else tc i 0) = 2 → (if i = n then d else tc i 2) = 0) ∧ ((if i = n then a else tc i 0) ≠ 2 → 8 ≤ (if i = n then d else tc i 2) ∧ (if i = n then d else tc i 2) ≤ 100)
    rcases Classical.em (i = n) with q | q
    · simp only [if_pos q]; exact ⟨ha, hb.1, hb.2, hd1, hd2⟩
    · simp only [if_neg q]; exact hw.2.2 i (by omega)
def apW (σ : zS) (k n a b d : Nat) : zS := sI (sI (sI (sI σ (k + 1) (3 * n + 0) (zI (a : Int))) (k + 1) (3 * n + 1) (zI (b : Int))) (k + 1) (3 * n + 2) (zI (d : Int))) k 1 (zI ((n + 1 : Nat) : Int))
theorem gI_apW (σ : zS) (k n a b d x y : Nat) (h : x ≠ k ∧ x ≠ k + 1) : gI (apW σ k n a b d) x y = gI σ x y := by
  simp only [apW, gI_sI]
  rw [if_neg (by omega), if_neg (by omega), if_neg (by omega), if_neg (by omega)]
theorem zSTp_apd {σ : zS} {k : Nat} {S : zST} {j a b d : Nat} (h : zSTp σ k S) (hj : j < 8) (hn : S.tn j < 4) (ha : a ≤ 2) (hg : a = 2 ∨ tGe (S.tr j) (S.tn j) < 2) (hb : 8 ≤ b ∧ b ≤ 100) (hd1 : a = 2 → d = 0) (hd2 : a ≠ 2 → 8 ≤ d ∧ d ≤ 100) : zSTp (apW σ (k + 4 + 2 * j) (S.tn j) a b d) k (S.apd j a b d) := by
  obtain ⟨h1, h2, h3, h4, h5, h6, h7⟩ := h
  refine ⟨zStk_w h1 (fun x y g1 g2 => gI_apW _ _ _ _ _ _ _ _ (by omega)), h2, h3, ⟨(gI_apW _ _ _ _ _ _ _ _ (by omega)).trans h4.1, h4.2⟩, (gI_apW _ _ _ _ _ _ _ _ (by omega)).trans h5, fun i hi => (gI_apW _ _ _ _ _ _ _ _ (by omega)).trans (h6 i hi), fun i hi => ?_⟩
  rcases Classical.em (i = j) with q | q
  · subst q
    have h8 := zTr_apd (h7 i hi).1 (h7 i hi).2 hn ha hg hb hd1 hd2
    have e1 : (S.apd i a b d).tn i = S.tn i + 1 := if_pos rfl
    have e2 : (S.apd i a b d).tr i = (fun x w => if x = S.tn i then (if w = 0 then a else if w = 1 then b else d) else S.tr i x w) := if_pos rfl
    rw [e1, e2]
    exact h8
  · have e1 : (S.apd j a b d).tn i = S.tn i := if_neg q
    have e2 : (S.apd j a b d).tr i = S.tr i := if_neg q
    rw [e1, e2]
    exact ⟨zTr_w (h7 i hi).1 (fun x y g1 g2 => gI_apW _ _ _ _ _ _ _ _ (by omega)), (h7 i hi).2⟩
theorem zPS_apd {σ : zS} {tx : Nat → Int} {n : Nat} {P : zPs} {j a b d : Nat} (h : zPS σ tx n P) (hj : j < 8) (hn : P.S.tn j < 4) (ha : a ≤ 2) (hg : a = 2 ∨ tGe (P.S.tr j) (P.S.tn j) < 2) (hb : 8 ≤ b ∧ b ≤ 100) (hd1 : a = 2 → d = 0) (hd2 : a ≠ 2 → 8 ≤ d ∧ d ≤ 100) : zPS (apW σ (9 + 4 + 2 * j) (P.S.tn j) a b d) tx n (P.sS (P.S.apd j a b d)) :=
  zPS_dr h (fun x y hx => ⟨gI_apW _ _ _ _ _ _ _ _ (by omega), rfl⟩) (zSUp_w h.2.2.2.1 (fun x y g1 g2 => ⟨gI_apW _ _ _ _ _ _ _ _ (by omega), rfl⟩)) (zSTp_apd h.2.2.2.2.1 hj hn ha hg hb hd1 hd2)
theorem zKp_ap {σ τ : zS} {k n a b d : Nat} (h : zKp σ τ) (h1 : 2 ≤ k ∧ k < 28) : zKp σ (apW τ k n a b d) :=
  zKp_tr h ⟨⟨fun x y z => gI_apW _ _ _ _ _ _ _ _ (by omega), fun x y z => rfl, fun x y => rfl⟩, gI_apW _ _ _ _ _ _ _ _ (by omega), gI_apW _ _ _ _ _ _ _ _ (by omega)⟩
theorem pKd_b (tx : Nat → Int) (n q : Nat) : -1 ≤ pKd tx n q ∧ pKd tx n q ≤ 2 := by
  unfold pKd
  split
  · omega
  · split
    · omega
    · split <;> omega
/-- one part of body j's train -/
def pPart (tx : Nat → Int) (n j : Nat) (P : zPs) : Nat × zPs :=
  if pKd tx n P.q < 0 then (1, P) else if ¬ (P.S.tn j < 4 ∧ (pKd tx n P.q = 2 ∨ tGe (P.S.tr j) (P.S.tn j) < 2)) then (4, P) else
  if pNum tx n (pAdv tx n P).q 8 100 ≠ 0 then (pNum tx n (pAdv tx n P).q 8 100, pAdv tx n P) else
  if pKd tx n P.q = 2 then (0, (pAdv tx n (pAdv tx n P)).sS (P.S.apd j 2 (tV tx n (pAdv tx n P).q) 0)) else
  if pNum tx n (pAdv tx n (pAdv tx n P)).q 8 100 ≠ 0 then (pNum tx n (pAdv tx n (pAdv tx n P)).q 8 100, pAdv tx n (pAdv tx n P)) else
  (0, pAdv tx n ((pAdv tx n (pAdv tx n P)).sS (P.S.apd j (pKd tx n P.q).toNat (tV tx n (pAdv tx n P).q) (tV tx n (pAdv tx n (pAdv tx n P)).q))))
theorem zTr_fr {σ τ : zS} {k n : Nat} {c : Nat → Nat → Nat} (h : zTr σ k n c) (hk : 3 ≤ k) (hf : zFr 2 3 σ τ) : zTr τ k n c := zTr_w h (fun x y g1 _ => hf.1 x y (by omega))
set_option maxRecDepth 20000 in
theorem c_X5_readPart {l : Launch} (hfl : l.stackTraces = false) (E : zE) (σ : zS) (tx : Nat → Int) (n j : Nat) (P : zPs) (hP : zPS σ tx n P) (hj : j < 8) : zRi l E yX5_readPart cX5_readPart 4 .boolean (zrm 2 47) [.ref (ob E 1), .ref (ob E (9 + 4 + 2 * j))] σ (fun r τ => r = zB ((pPart tx n j P).1 = 0) ∧ zRd σ τ tx n (pPart tx n j P).1 (pPart tx n j P).2) := by
  refine Met.ofW (cc := cX5_readPart) (maxL := 4) (ret := (some .boolean)) (by decide +kernel) rfl ?_
  intro p e s m args below meth c s₁ B hml hv
  obtain ⟨rfl, hd⟩ := hv
  have C := zX_of (own := RX5) hfl B hml rfl hd rfl
  have hr := B.returns
  refine zV_go hd (Nat.le_of_ble_eq_true rfl) (lv := [(0, .ref (ob E 1)), (1, .ref (ob E (9 + 4 + 2 * j)))]) rfl ?_
  have hkb := pKd_b tx n P.q
  have hk8 : kd (9 + 4 + 2 * j) = 8 := ((zst (show kd 9 = 6 by decide)).2.2.2 j hj).1
  have hTr : zTr σ (9 + 4 + 2 * j) (P.S.tn j) (P.S.tr j) := (hP.2.2.2.2.1.2.2.2.2.2.2 j hj).1
  refine zv_aload_n C 0 dX5_readPart_0 rfl rfl ?_
  refine zv_cviD (st := []) C (c_X5_kindOfPart hfl E σ tx n P.q hP.2.1) mX5_kindOfPart kX5_175 (by decide : kd 1 = 5) rfl rfl rfl ⟨rfl, rfl⟩ (show zfit (zrm 1 21) 1 (zrm 2 47) = true from rfl) (Nat.le_of_ble_eq_true rfl) dX5_readPart_1 ⟨Nat.zero_le _, Nat.zero_le _⟩ ?_
  refine zv_istore_n (lv' := [(2, .int (zI (pKd tx n P.q))), (0, .ref (ob E 1)), (1, .ref (ob E (9 + 4 + 2 * j)))]) C dX5_readPart_4 rfl (by decide) rfl ?_
  refine zv_iload_n C 0 dX5_readPart_5 rfl rfl ?_
  refine zv_if_geZ (tgt := 15) C (by omega) dX5_readPart_6 (by decide) (fun h6 => ?_) (fun h6 => ?_)
  · skip
    obtain ⟨a, ha⟩ : ∃ a : Nat, (a : Int) = pKd tx n P.q := ⟨(pKd tx n P.q).toNat, by omega⟩
    refine zv_aload_n C 2 dX5_readPart_15 rfl rfl ?_
    refine zv_iload_n C 0 dX5_readPart_16 rfl rfl ?_
    refine zv_eqi (y := (zI (a : Int))) (by rw [ha]) ?_
    refine zv_cviD (st := []) C (c_X8_hasRoomFor hfl E σ (9 + 4 + 2 * j) (P.S.tn j) (P.S.tr j) a hk8 hTr (by omega)) mX8_hasRoomFor kX5_192 hk8 rfl rfl rfl ⟨rfl, rfl⟩ (show zfit (zrm 1 22) 2 (zrm 2 47) = true from rfl) (Nat.le_of_ble_eq_true rfl) dX5_readPart_17 ⟨Nat.zero_le _, Nat.zero_le _⟩ ?_
    refine zv_if_neB (tgt := 29) C dX5_readPart_20 (by decide) (fun h20 => ?_) (fun h20 => ?_)
    · skip
      have hroom : P.S.tn j < 4 ∧ (pKd tx n P.q = 2 ∨ tGe (P.S.tr j) (P.S.tn j) < 2) := ⟨h20.1, h20.2.imp (fun q => by omega) id⟩
      refine zv_aload_n C 1 dX5_readPart_29 rfl rfl ?_
      refine zG5_0 C (by decide : kd 1 = _) kX5_12 dX5_readPart_30 ?_
      refine zv_cvv (st := []) C (c_X7_advance hfl E σ tx n (tE tx n P.q) hP.1 hP.2.1.2.2.1 (tE_n hP.2.2.1).2.1) mX7_advance kX5_110 (by decide : kd 2 = 7) rfl rfl rfl ⟨rfl, rfl⟩ (show zfit (zrm 1 21) 1 (zrm 2 47) = true from rfl) (Nat.le_of_ble_eq_true rfl) dX5_readPart_33 ⟨Nat.zero_le _, Nat.zero_le _⟩ (fun τ33 hp33 => ?_)
      have hA33 := zPS_adv hP hp33.1 hp33.2.1 hp33.2.2
      refine zv_aload_n C 1 dX5_readPart_36 rfl rfl ?_
      refine zv_bipush (v := zI 8) C dX5_readPart_37 (by decide) ?_
      refine zv_bipush (v := zI 100) C dX5_readPart_39 (by decide) ?_
      refine zv_cviD (st := []) C (c_X5_numberStands hfl E τ33 tx n (pAdv tx n P).q 8 100 hA33.2.1 (by decide) (by decide)) mX5_numberStands kX5_119 (by decide : kd 1 = 5) rfl rfl rfl ⟨rfl, rfl⟩ (show zfit (zrm 1 21) 3 (zrm 2 47) = true from rfl) (Nat.le_of_ble_eq_true rfl) dX5_readPart_41 ⟨Nat.zero_le _, Nat.zero_le _⟩ ?_
      refine zv_if_neB (tgt := 49) C dX5_readPart_44 (by decide) (fun h44 => ?_) (fun h44 => ?_)
      · skip
        refine zv_eqS (τ := τ33) (by rw [h44]; exact fC_0 _ _) ?_
        have hn0 := pNum_0 h44
        refine zv_aload_n C 1 dX5_readPart_49 rfl rfl ?_
        refine zG5_0 C (by decide : kd 1 = _) kX5_12 dX5_readPart_50 ?_
        refine zG7_5 C (by decide : kd 2 = _) kX5_113 dX5_readPart_53 ?_
        refine zv_eqi (y := (zI (tV tx n (pAdv tx n P).q : Int))) (zTk_v hA33.2.1 hn0.1) ?_
        refine zv_istore_n (lv' := [(3, .int (zI (tV tx n (pAdv tx n P).q : Int))), (2, .int (zI (pKd tx n P.q))), (0, .ref (ob E 1)), (1, .ref (ob E (9 + 4 + 2 * j)))]) C dX5_readPart_56 rfl (by decide) rfl ?_
        refine zv_aload_n C 2 dX5_readPart_57 rfl rfl ?_
        refine zG5_0 C (by decide : kd 1 = _) kX5_12 dX5_readPart_58 ?_
        refine zv_cvv (st := []) C (c_X7_advance hfl E τ33 tx n (tE tx n (pAdv tx n P).q) hA33.1 hA33.2.1.2.2.1 (tE_n hA33.2.2.1).2.1) mX7_advance kX5_110 (by decide : kd 2 = 7) rfl rfl rfl ⟨rfl, rfl⟩ (show zfit (zrm 1 21) 1 (zrm 2 47) = true from rfl) (Nat.le_of_ble_eq_true rfl) dX5_readPart_61 ⟨Nat.zero_le _, Nat.zero_le _⟩ (fun τ61 hp61 => ?_)
        have hA61 := zPS_adv hA33 hp61.1 hp61.2.1 hp61.2.2
        refine zv_iload_n C 1 dX5_readPart_64 rfl rfl ?_
        refine zv_iconst (v := zI 2) C dX5_readPart_65 rfl ?_
        refine zv_icmp_neZ (tgt := 78) C (by omega) (by omega) dX5_readPart_66 (by decide) (fun h66 => ?_) (fun h66 => ?_)
        · skip
          have hk2 : pKd tx n P.q ≠ 2 := by omega
          refine zv_aload_n C 2 dX5_readPart_78 rfl rfl ?_
          refine zv_bipush (v := zI 8) C dX5_readPart_79 (by decide) ?_
          refine zv_bipush (v := zI 100) C dX5_readPart_81 (by decide) ?_
          refine zv_cviD (st := []) C (c_X5_numberStands hfl E τ61 tx n (pAdv tx n (pAdv tx n P)).q 8 100 hA61.2.1 (by decide) (by decide)) mX5_numberStands kX5_119 (by decide : kd 1 = 5) rfl rfl rfl ⟨rfl, rfl⟩ (show zfit (zrm 1 21) 3 (zrm 2 47) = true from rfl) (Nat.le_of_ble_eq_true rfl) dX5_readPart_83 ⟨Nat.zero_le _, Nat.zero_le _⟩ ?_
          refine zv_if_neB (tgt := 91) C dX5_readPart_86 (by decide) (fun h86 => ?_) (fun h86 => ?_)
          · skip
            refine zv_eqS (τ := τ61) (by rw [h86]; exact fC_0 _ _) ?_
            have hn1 := pNum_0 h86
            have hD : zPS (apW τ61 (9 + 4 + 2 * j) (P.S.tn j) ((pKd tx n P.q).toNat) (tV tx n (pAdv tx n P).q) (tV tx n (pAdv tx n (pAdv tx n P)).q)) tx n ((pAdv tx n (pAdv tx n P)).sS (P.S.apd j ((pKd tx n P.q).toNat) (tV tx n (pAdv tx n P).q) (tV tx n (pAdv tx n (pAdv tx n P)).q))) := zPS_apd hA61 hj hroom.1 (by omega) (hroom.2.imp (fun q => by omega) id) hn0.2 (fun z => absurd z (by omega)) (fun _ => hn1.2)
            have hp : pPart tx n j P = (0, pAdv tx n ((pAdv tx n (pAdv tx n P)).sS (P.S.apd j ((pKd tx n P.q).toNat) (tV tx n (pAdv tx n P).q) (tV tx n (pAdv tx n (pAdv tx n P)).q)))) := by unfold pPart; rw [if_neg (by omega), if_neg (fun z => z hroom), if_neg (fun z => z h44), if_neg hk2, if_neg (fun z => z h86)]
            refine zv_aload_n C 3 dX5_readPart_91 rfl rfl ?_
            refine zv_iload_n C 1 dX5_readPart_92 rfl rfl ?_
            refine zv_eqi (y := (zI (((pKd tx n P.q).toNat) : Int))) (by rw [Int.toNat_of_nonneg (by omega)]) ?_
            refine zv_iload_n C 0 dX5_readPart_93 rfl rfl ?_
            refine zv_aload_n C 2 dX5_readPart_94 rfl rfl ?_
            refine zG5_0 C (by decide : kd 1 = _) kX5_12 dX5_readPart_95 ?_
            refine zG7_5 C (by decide : kd 2 = _) kX5_113 dX5_readPart_98 ?_
            refine zv_eqi (y := (zI (tV tx n (pAdv tx n (pAdv tx n P)).q : Int))) (zTk_v hA61.2.1 hn1.1) ?_
            refine zv_cvvD (st := []) C (c_X8_append hfl E τ61 (9 + 4 + 2 * j) (P.S.tn j) (P.S.tr j) (((pKd tx n P.q).toNat)) ((tV tx n (pAdv tx n P).q)) ((tV tx n (pAdv tx n (pAdv tx n P)).q)) hk8 (zTr_fr (zTr_fr hTr (by omega) hp33.2.1) (by omega) hp61.2.1) hroom.1) mX8_append kX5_195 hk8 rfl rfl rfl ⟨rfl, rfl⟩ (show zfit (zrm 1 24) 4 (zrm 2 47) = true from rfl) (Nat.le_of_ble_eq_true rfl) dX5_readPart_101 ⟨Nat.zero_le _, Nat.zero_le _⟩ ?_
            refine zv_aload_n C 2 dX5_readPart_104 rfl rfl ?_
            refine zG5_0 C (by decide : kd 1 = _) kX5_12 dX5_readPart_105 ?_
            refine zv_cvv (st := []) C (c_X7_advance hfl E (apW τ61 (9 + 4 + 2 * j) (P.S.tn j) (((pKd tx n P.q).toNat)) ((tV tx n (pAdv tx n P).q)) ((tV tx n (pAdv tx n (pAdv tx n P)).q))) tx n (tE tx n ((pAdv tx n (pAdv tx n P)).sS (P.S.apd j ((pKd tx n P.q).toNat) (tV tx n (pAdv tx n P).q) (tV tx n (pAdv tx n (pAdv tx n P)).q))).q) hD.1 hD.2.1.2.2.1 (tE_n hD.2.2.1).2.1) mX7_advance kX5_110 (by decide : kd 2 = 7) rfl rfl rfl ⟨rfl, rfl⟩ (show zfit (zrm 1 21) 1 (zrm 2 47) = true from rfl) (Nat.le_of_ble_eq_true rfl) dX5_readPart_108 ⟨Nat.zero_le _, Nat.zero_le _⟩ (fun τ108 hp108 => ?_)
            have hA108 := zPS_adv hD hp108.1 hp108.2.1 hp108.2.2
            refine zv_iconst (v := zI 1) C dX5_readPart_111 rfl ?_
            exact zv_iret C hr rfl dX5_readPart_112 ⟨by rw [hp]; rfl, by rw [hp]; exact zRd_ok hA108 (zKp_fr (zKp_ap (zKp_fr (zKp_fr (zKp_refl σ) hp33.2.1) hp61.2.1) (by omega)) hp108.2.1)⟩
          · skip
            have hp : pPart tx n j P = (pNum tx n (pAdv tx n (pAdv tx n P)).q 8 100, (pAdv tx n (pAdv tx n P))) := by unfold pPart; rw [if_neg (by omega), if_neg (fun z => z hroom), if_neg (fun z => z h44), if_neg hk2, if_pos h86]
            refine zv_iconst (v := zI 0) C dX5_readPart_89 rfl ?_
            exact zv_iret C hr rfl dX5_readPart_90 ⟨by rw [hp]; exact (zB_f h86).symm, by rw [hp, fC_s h86]; exact zRd_no h86 (zKp_fr (zKp_fr (zKp_refl σ) hp33.2.1) hp61.2.1)⟩
        · skip
          have hk2 : pKd tx n P.q = 2 := by omega
          have hD : zPS (apW τ61 (9 + 4 + 2 * j) (P.S.tn j) 2 (tV tx n (pAdv tx n P).q) 0) tx n ((pAdv tx n (pAdv tx n P)).sS (P.S.apd j 2 (tV tx n (pAdv tx n P).q) 0)) := zPS_apd hA61 hj hroom.1 (by decide) (Or.inl rfl) hn0.2 (fun _ => rfl) (fun z => absurd rfl z)
          have hp : pPart tx n j P = (0, ((pAdv tx n (pAdv tx n P)).sS (P.S.apd j 2 (tV tx n (pAdv tx n P).q) 0))) := by unfold pPart; rw [if_neg (by omega), if_neg (fun z => z hroom), if_neg (fun z => z h44), if_pos hk2]
          refine zv_aload_n C 3 dX5_readPart_69 rfl rfl ?_
          refine zv_iload_n C 1 dX5_readPart_70 rfl rfl ?_
          refine zv_eqi (y := (zI ((2 : Nat) : Int))) (by rw [hk2]; rfl) ?_
          refine zv_iload_n C 0 dX5_readPart_71 rfl rfl ?_
          refine zv_iconst (v := zI 0) C dX5_readPart_72 rfl ?_
          refine zv_cvvD (st := []) C (c_X8_append hfl E τ61 (9 + 4 + 2 * j) (P.S.tn j) (P.S.tr j) (2) ((tV tx n (pAdv tx n P).q)) (0) hk8 (zTr_fr (zTr_fr hTr (by omega) hp33.2.1) (by omega) hp61.2.1) hroom.1) mX8_append kX5_195 hk8 rfl rfl rfl ⟨rfl, rfl⟩ (show zfit (zrm 1 24) 4 (zrm 2 47) = true from rfl) (Nat.le_of_ble_eq_true rfl) dX5_readPart_73 ⟨Nat.zero_le _, Nat.zero_le _⟩ ?_
          refine zv_iconst (v := zI 1) C dX5_readPart_76 rfl ?_
          exact zv_iret C hr rfl dX5_readPart_77 ⟨by rw [hp]; rfl, by rw [hp]; exact zRd_ok hD (zKp_ap (zKp_fr (zKp_fr (zKp_refl σ) hp33.2.1) hp61.2.1) (by omega))⟩
      · skip
        have hp : pPart tx n j P = (pNum tx n (pAdv tx n P).q 8 100, (pAdv tx n P)) := by unfold pPart; rw [if_neg (by omega), if_neg (fun z => z hroom), if_pos h44]
        refine zv_iconst (v := zI 0) C dX5_readPart_47 rfl ?_
        exact zv_iret C hr rfl dX5_readPart_48 ⟨by rw [hp]; exact (zB_f h44).symm, by rw [hp, fC_s h44]; exact zRd_no h44 (zKp_fr (zKp_refl σ) hp33.2.1)⟩
    · skip
      have hp : pPart tx n j P = (4, P) := by unfold pPart; rw [if_neg (by omega), if_pos (fun z => h20 ⟨z.1, z.2.imp (fun q => by omega) id⟩)]
      refine zv_aload_n C 1 dX5_readPart_23 rfl rfl ?_
      refine zv_iconst (v := zI 4) C dX5_readPart_24 rfl ?_
      refine zv_cviD (st := []) C (c_X5_fail hfl E σ 4 (tB tx n P.q) hP.2.1.2.1) mX5_fail kX5_106 (by decide : kd 1 = 5) rfl rfl rfl ⟨rfl, rfl⟩ (show zfit (zrm 0 0) 2 (zrm 2 47) = true from rfl) (Nat.le_of_ble_eq_true rfl) dX5_readPart_25 ⟨Nat.zero_le _, Nat.zero_le _⟩ ?_
      exact zv_iret C hr rfl dX5_readPart_28 ⟨by rw [hp]; rfl, by rw [hp]; exact zRd_no (by decide) (zKp_refl σ)⟩
  · skip
    have hp : pPart tx n j P = (1, P) := if_pos (by omega)
    refine zv_aload_n C 1 dX5_readPart_9 rfl rfl ?_
    refine zv_iconst (v := zI 1) C dX5_readPart_10 rfl ?_
    refine zv_cviD (st := []) C (c_X5_fail hfl E σ 1 (tB tx n P.q) hP.2.1.2.1) mX5_fail kX5_106 (by decide : kd 1 = 5) rfl rfl rfl ⟨rfl, rfl⟩ (show zfit (zrm 0 0) 2 (zrm 2 47) = true from rfl) (Nat.le_of_ble_eq_true rfl) dX5_readPart_11 ⟨Nat.zero_le _, Nat.zero_le _⟩ ?_
    exact zv_iret C hr rfl dX5_readPart_14 ⟨by rw [hp]; rfl, by rw [hp]; exact zRd_no (by decide) (zKp_refl σ)⟩
