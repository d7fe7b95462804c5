/-! a body read, in the reference -/
def wrN (σ : zS) (q : Nat) (f : Nat → Int) (i : Nat) : zS := (fun x j => if x = 330 ∧ q ≤ j ∧ j < q + i then zI (f (j - q)) else σ.1 x j, σ.2)
theorem gI_wrN (σ : zS) (q : Nat) (f : Nat → Int) (i x j : Nat) : gI (wrN σ q f i) x j = if x = 330 ∧ q ≤ j ∧ j < q + i then zI (f (j - q)) else gI σ x j := rfl
theorem wrN_0 (σ : zS) (q : Nat) (f : Nat → Int) : wrN σ q f 0 = σ := zS_ext (fun x j => by rw [gI_wrN, if_neg (by omega)]) (fun _ _ => rfl) (fun _ _ => rfl)
theorem wrN_s (σ : zS) (q : Nat) (f : Nat → Int) (i : Nat) : sI (wrN σ q f i) 330 (q + i) (zI (f i)) = wrN σ q f (i + 1) := by
  refine zS_ext (fun x j => ?_) (fun _ _ => rfl) (fun _ _ => rfl)
  rw [gI_sI, gI_wrN, gI_wrN]
  by_cases h : x = 330 ∧ j = q + i
  · rw [if_pos h, if_pos (by omega), h.2, show q + i - q = i by omega]
  · rw [if_neg h]
    by_cases g : x = 330 ∧ q ≤ j ∧ j < q + i
    · rw [if_pos g, if_pos (by omega)]
    · rw [if_neg g, if_neg (by omega)]
theorem wrN_o {σ : zS} {q : Nat} {f : Nat → Int} {i x j : Nat} (h : x ≠ 330 ∨ j < q) : gI (wrN σ q f i) x j = gI σ x j := by rw [gI_wrN, if_neg (by omega)]
theorem mPS_e {σ τ : zS} {tx : Nat → Int} {n : Nat} {P : zPs} (h : mPS σ tx n P) (e : ∀ x j, (x = 328 → j < 2 + 3 * P.U.nb) → (x = 330 → j < 8 * P.U.nb) → gI τ x j = gI σ x j) : mPS τ tx n P := by
  have hnb := (mPS_b h).1
  have g3 : ∀ x, x ≠ 328 → x ≠ 330 → ∀ j, gI τ x j = gI σ x j := fun x a b j => e x j (fun z => absurd z a) (fun z => absurd z b)
  obtain ⟨h1, h2, h3, ⟨⟨b1, b2, b3⟩, h5, h6, h7, h8⟩, h9, h10⟩ := h
  refine ⟨⟨(g3 327 (by decide) (by decide) _).trans h1.1, h1.2.1, fun i hi => (g3 336 (by decide) (by decide) _).trans (h1.2.2.1 i hi), h1.2.2.2⟩, ⟨(g3 327 (by decide) (by decide) _).trans h2.1, (g3 327 (by decide) (by decide) _).trans h2.2.1, (g3 327 (by decide) (by decide) _).trans h2.2.2.1, fun z => (g3 327 (by decide) (by decide) _).trans (h2.2.2.2 z)⟩, h3,
    ⟨⟨(e _ _ (fun _ => by omega) (fun z => by cases z)).trans b1, (e _ _ (fun _ => by omega) (fun z => by cases z)).trans b2, fun j hj => ?_⟩, fun j hj => ?_, by rw [show gI τ 332 = gI σ 332 from funext (g3 332 (by decide) (by decide))]; exact h6, (g3 327 (by decide) (by decide) _).trans h7, h8⟩, (g3 327 (by decide) (by decide) _).trans h9, (g3 327 (by decide) (by decide) _).trans h10⟩
  · obtain ⟨c1, c2, c3⟩ := b3 j hj
    exact ⟨(e _ _ (fun _ => by omega) (fun z => by cases z)).trans c1, (e _ _ (fun _ => by omega) (fun z => by cases z)).trans c2, (e _ _ (fun _ => by omega) (fun z => by cases z)).trans c3⟩
  · obtain ⟨tx9, b9, m9, g1, g2, g4, g5⟩ := h5 j hj
    exact ⟨tx9, b9, m9, g1, g2, g4, fun i hi => (e _ _ (fun z => by cases z) (fun _ => by omega)).trans (g5 i hi)⟩
theorem mPS_328 {σ : zS} {tx : Nat → Int} {n : Nat} {P : zPs} (h : mPS σ tx n P) {k : Nat} (v : Int32) (hk : 2 + 3 * P.U.nb ≤ k) : mPS (sI σ 328 k v) tx n P :=
  mPS_e h (fun x j a b => by rw [gI_sI, if_neg (fun z => by have := a z.1; omega)])
/-- the body counted -/
theorem gI_sIf (σ : zS) (x k : Nat) (v : Int32) {y : Nat} (h : y ≠ x) : gI (sI σ x k v) y = gI σ y := funext fun j => by rw [gI_sI, if_neg (by omega)]
theorem mPS_tak {σ : zS} {tx : Nat → Int} {n q nb : Nat} {Y : zPs} {pp rn : Nat} {c0 : Int} (h : mPS σ tx n Y) (hE : Y.U.nb = nb) (hnb : nb < 8) (hN : tNm tx n q) (hnm : ∀ i, i < 8 → gI σ 330 (8 * nb + i) = zI (if i < tL tx n q then tx (tB tx n q + i) else 0)) (h0 : gI σ 328 (2 + 3 * nb) = zI (pp : Int)) (h1 : gI σ 328 (3 + 3 * nb) = zI (rn : Int)) (h2 : gI σ 328 (4 + 3 * nb) = zI c0) (hc : -1 ≤ c0 ∧ c0 ≤ 7) : mPS (sI σ 328 0 (zI ((nb : Int) + 1))) tx n (Y.sU (Y.U.tak (tP tx n q) pp rn c0)) := by
  subst hE
  obtain ⟨b1, b2, b3⟩ := h.2.2.2.1.1
  have hb := mPS_b h
  have e : ∀ x j, ¬ (x = 328 ∧ j = 0) → gI (sI σ 328 0 (zI ((Y.U.nb : Int) + 1))) x j = gI σ x j := fun x j z => by rw [gI_sI, if_neg z]
  refine mPS_U h ⟨by rw [gI_sI, if_pos ⟨rfl, rfl⟩]; rfl, (e _ _ (by omega)).trans b2, fun j hj => ?_⟩ (fun j hj => ?_) (fun x j a _ => e _ _ (by omega)) ⟨by show Y.U.nb + 1 ≤ 8; omega, hb.2.1, hb.2.2.1, hb.2.2.2.1, fun j hj => ?_⟩
  · have hj2 : j < Y.U.nb + 1 := hj
    show gI _ 328 (2 + 3 * j) = zI ((if j = Y.U.nb then pp else Y.U.pe j : Nat) : Int) ∧ gI _ 328 (3 + 3 * j) = zI ((if j = Y.U.nb then rn else Y.U.re j : Nat) : Int) ∧ gI _ 328 (4 + 3 * j) = zI (if j = Y.U.nb then c0 else Y.U.ca j)
    rw [e _ _ (by omega), e _ _ (by omega), e _ _ (by omega)]
    by_cases z : j = Y.U.nb
    · subst z
      rw [if_pos rfl, if_pos rfl, if_pos rfl]
      exact ⟨h0, h1, h2⟩
    · rw [if_neg z, if_neg z, if_neg z]
      exact b3 j (by omega)
  · have hj2 : j < Y.U.nb + 1 := hj
    show ∃ (tx' : Nat → Int) (b m : Nat), (1 ≤ m ∧ m ≤ 8) ∧ (∀ i, i < m → 97 ≤ tx' (b + i) ∧ tx' (b + i) ≤ 122) ∧ (if j = Y.U.nb then tP tx n q else Y.U.nm j) = zL (pk tx' b m : Int) ∧ ∀ i, i < 8 → gI (sI σ 328 0 (zI ((Y.U.nb : Int) + 1))) 330 (8 * j + i) = zI (if i < m then tx' (b + i) else 0)
    by_cases z : j = Y.U.nb
    · subst z
      have hk := tK_1 hN.1
      refine ⟨tx, tB tx n q, tL tx n q, ⟨hk.2.1, hN.2.1⟩, hk.2.2, if_pos rfl, fun i hi => ?_⟩
      rw [e _ _ (by omega)]
      exact hnm i hi
    · obtain ⟨tx9, b9, m9, g1, g2, g4, g5⟩ := h.2.2.2.1.2.1 j (by omega)
      refine ⟨tx9, b9, m9, g1, g2, by rw [if_neg z]; exact g4, fun i hi => ?_⟩
      rw [e _ _ (by omega)]
      exact g5 i hi
  · have hj2 : j < Y.U.nb + 1 := hj
    show -1 ≤ (if j = Y.U.nb then c0 else Y.U.ca j) ∧ (if j = Y.U.nb then c0 else Y.U.ca j) ≤ 7
    split
    · exact hc
    · exact hb.2.2.2.2 j (by omega)
set_option maxRecDepth 20000 in
theorem c_X11_readBody {l : Launch} (hfl : l.stackTraces = false) (E : zE) (σ : zS) (tx : Nat → Int) (n : Nat) (P : zPs) (hP : mPS σ tx n P) : zRi l E yX11_readBody cX11_readBody 4 .boolean (zrm 8 170) [.ref (ob E 327)] σ (fun r τ => mSt σ τ tx n r (pBody tx n P)) := by
  refine Met.ofW (cc := cX11_readBody) (maxL := 4) (ret := (some .boolean)) (by decide +kernel) rfl ?_
  intro p e s m args below meth c s₁ B hml hv
  obtain ⟨rfl, hd⟩ := hv
  have C := zX_of (own := RX11) hfl B hml rfl hd rfl
  have hr := B.returns
  refine zV_go hd (Nat.le_of_ble_eq_true rfl) (lv := [(0, .ref (ob E 327))]) rfl ?_
  have hpo := pO_in P.U.nm (tP tx n (pAdv tx n P).q) P.U.nb
  have hnb : P.U.nb ≤ 8 := (mPS_b hP).1
  have hn9 := hP.1.2.1
  have hU9 : (pRt tx n (pAdv tx n (pAdv tx n (pAdv tx n (pAdv tx n P))))).U = P.U := pRt_U tx n (pAdv tx n (pAdv tx n (pAdv tx n (pAdv tx n P))))
  obtain ⟨fN, hfN⟩ : ∃ f : Nat → Int, f = (fun x : Nat => if x < tL tx n (pAdv tx n P).q then tx (tB tx n (pAdv tx n P).q + x) else 0) := ⟨_, rfl⟩
  obtain ⟨z9, hz9⟩ : ∃ z : Int, z = if pKn tx n (pAdv tx n (pRt tx n (pAdv tx n (pAdv tx n (pAdv tx n (pAdv tx n P)))))) = 0 then pO P.U.nm (tP tx n (pAdv tx n (pRt tx n (pAdv tx n (pAdv tx n (pAdv tx n (pAdv tx n P)))))).q) P.U.nb else -1 := ⟨_, rfl⟩
  have hz9b : -1 ≤ z9 ∧ z9 < P.U.nb := by
    have := pO_in P.U.nm (tP tx n (pAdv tx n (pRt tx n (pAdv tx n (pAdv tx n (pAdv tx n (pAdv tx n P)))))).q) P.U.nb
    rw [hz9]
    split <;> omega
  refine zv_aload_n C 0 dX11_readBody_0 rfl rfl ?_
  refine zv_aload_n C 0 dX11_readBody_1 rfl rfl ?_
  refine zG10_0 C (by decide : kd 327 = _) kX11_7 dX11_readBody_2 ?_
  refine zv_iconst (v := zI 0) C dX11_readBody_5 rfl ?_
  refine zv_iald (j := 0) C (by decide : kd 328 = _) (zI_ix (by omega)) (by decide) dX11_readBody_6 ?_
  refine zv_eqi (y := (zI (P.U.nb : Int))) (hP.2.2.2.1.1.1) ?_
  refine zv_bipush (v := zI 8) C dX11_readBody_7 (by decide) ?_
  refine zv_icmp_geZ (tgt := 16) C (by omega) (by omega) dX11_readBody_9 (by decide) (fun h9 => ?_) (fun h9 => ?_)
  · skip
    refine zv_iconst (v := zI 0) C dX11_readBody_16 rfl ?_
    refine zv_cvi (st := []) C (c0_X11_starts hfl E σ tx n P hP) mX11_starts kX11_161 (by decide : kd 327 = 10) rfl rfl rfl ⟨rfl, rfl⟩ (show zfit (zrm 6 120) 2 (zrm 8 170) = true from rfl) (Nat.le_of_ble_eq_true rfl) dX11_readBody_17 ⟨Nat.zero_le _, Nat.zero_le _⟩ (fun r17 τ17 hp17 => ?_)
    refine zv_eqi (y := zI 0) hp17.1 ?_
    have hτ := hp17.2
    have hX : pBody tx n P = (4, P) := if_pos (by omega)
    refine zv_if_eqZ (tgt := 30) C (by omega) dX11_readBody_20 (by decide) (fun h20 => ?_) (fun h20 => absurd h20 (by decide))
    refine zv_iconst (v := zI 0) C dX11_readBody_30 rfl ?_
    exact zv_iret C hr rfl dX11_readBody_31 (mSt_f (by rw [hτ]; exact mR_f (P := P) (by decide) (mF_r σ)) (by decide) hX)
  · skip
    have hnb8 : P.U.nb < 8 := by omega
    refine zv_iconst (v := zI 1) C dX11_readBody_12 rfl ?_
    refine zv_goto (tgt := 17) C dX11_readBody_13 (by decide) ?_
    refine zv_cvi (st := []) C (c1_X11_starts hfl E σ tx n P hP) mX11_starts kX11_161 (by decide : kd 327 = 10) rfl rfl rfl ⟨rfl, rfl⟩ (show zfit (zrm 6 120) 2 (zrm 8 170) = true from rfl) (Nat.le_of_ble_eq_true rfl) dX11_readBody_17 ⟨Nat.zero_le _, Nat.zero_le _⟩ (fun r17 τ17 hp17 => ?_)
    refine zv_eqi (y := zI 1) hp17.1 ?_
    have hA1 : mPS τ17 tx n (pAdv tx n P) := hp17.2.1
    have hA1f := mF_A hp17.2.2
    have hlq := tE_L tx hA1.2.2.1
    have hpw := mPS_w hA1
    refine zv_if_eqZ (tgt := 30) C (by omega) dX11_readBody_20 (by decide) (fun h20 => absurd h20 (by decide)) (fun h20 => ?_)
    refine zv_aload_n C 0 dX11_readBody_23 rfl rfl ?_
    refine zv_cviD (st := []) C (c_X11_seesName hfl E τ17 tx n (pAdv tx n P) hA1) mX11_seesName kX11_152 (by decide : kd 327 = 10) rfl rfl rfl ⟨rfl, rfl⟩ (show zfit (zrm 6 128) 1 (zrm 8 170) = true from rfl) (Nat.le_of_ble_eq_true rfl) dX11_readBody_24 ⟨Nat.zero_le _, Nat.zero_le _⟩ ?_
    refine zv_if_neB (tgt := 32) C dX11_readBody_27 (by decide) (fun h27 => ?_) (fun h27 => ?_)
    · skip
      have hNm : tNm tx n (pAdv tx n P).q := by
        unfold pNam at h27
        split at h27
        · assumption
        · cases h27
      have hls := (tK_1 hNm.1).2.2
      refine zv_eqS (τ := τ17) (by rw [h27, mfC_0]) ?_
      refine zv_aload_n C 0 dX11_readBody_32 rfl rfl ?_
      refine zv_cviD (st := []) C (c_X11_find hfl E τ17 tx n (pAdv tx n P) hA1 hNm) mX11_find kX11_155 (by decide : kd 327 = 10) rfl rfl rfl ⟨rfl, rfl⟩ (show zfit (zrm 0 0) 4 (zrm 8 170) = true from rfl) (Nat.le_of_ble_eq_true rfl) dX11_readBody_33 ⟨Nat.zero_le _, Nat.zero_le _⟩ ?_
      refine zv_eqi (y := (zI (pO P.U.nm (tP tx n (pAdv tx n P).q) P.U.nb))) (rfl) ?_
      refine zv_iconst (v := zI (-1)) C dX11_readBody_36 rfl ?_
      refine zv_icmp_eqZ (tgt := 46) C (by omega) (by omega) dX11_readBody_37 (by decide) (fun h37 => ?_) (fun h37 => ?_)
      · skip
        refine zv_aload_n C 0 dX11_readBody_46 rfl rfl ?_
        refine zG10_0 C (by decide : kd 327 = _) kX11_7 dX11_readBody_47 ?_
        refine zv_iconst (v := zI 0) C dX11_readBody_50 rfl ?_
        refine zv_iald (j := 0) C (by decide : kd 328 = _) (zI_ix (by omega)) (by decide) dX11_readBody_51 ?_
        refine zv_eqi (y := (zI (P.U.nb : Int))) (hA1.2.2.2.1.1.1) ?_
        refine zv_istore_n (lv' := [(1, .int (zI (P.U.nb : Int))), (0, .ref (ob E 327))]) C dX11_readBody_52 rfl (by decide) rfl ?_
        refine zv_iconst (v := zI 2) C dX11_readBody_53 rfl ?_
        refine zv_iconst (v := zI 3) C dX11_readBody_54 rfl ?_
        refine zv_iload_n C 0 dX11_readBody_55 rfl rfl ?_
        refine zv_imulZ C dX11_readBody_56 ?_
        refine zv_iaddZ C dX11_readBody_57 ?_
        refine zv_istore_n (lv' := [(2, .int (zI (2 + (3 * (P.U.nb : Int))))), (1, .int (zI (P.U.nb : Int))), (0, .ref (ob E 327))]) C dX11_readBody_58 rfl (by decide) rfl ?_
        refine zv_iconst (v := zI 0) C dX11_readBody_59 rfl ?_
        refine zv_istore_n (lv' := [(3, .int (zI 0)), (2, .int (zI (2 + (3 * (P.U.nb : Int))))), (1, .int (zI (P.U.nb : Int))), (0, .ref (ob E 327))]) C dX11_readBody_60 rfl (by decide) rfl ?_
        have q61_69 : (0 : Int) = (0 : Int) := by first | rfl | omega
        have q61_70 : (2 + (3 * (P.U.nb : Int)) : Int) = 2 + 3 * (P.U.nb : Int) := by first | rfl | omega
        refine zv_sub (lv' := [(0, .ref (ob E 327)), (1, .int (zI (P.U.nb : Int))), (2, .int (zI (2 + 3 * (P.U.nb : Int)))), (3, .int (zI (0 : Int)))]) [3, 2, 1, 0] (zcons rfl (zcons rfl (zcons (zqI q61_70) (zcons (zqI q61_69) rfl)))) ?_
        refine zv_eqS (τ := (wrN τ17 (8 * P.U.nb) fN 0)) ((wrN_0 _ _ _).symm) ?_
        refine zv_while (α := Nat) (fun v => 8 - v) (fun v => v ≤ 8) (fun v => (wrN τ17 (8 * P.U.nb) fN v)) (fun v => [(0, .ref (ob E 327)), (1, .int (zI (P.U.nb : Int))), (2, .int (zI (2 + 3 * (P.U.nb : Int)))), (3, .int (zI (v : Int)))]) (fun v => []) (fun i hI ih => ?_) (0) (by omega)
        refine zv_iload_n C 3 dX11_readBody_61 rfl rfl ?_
        refine zv_bipush (v := zI 8) C dX11_readBody_62 (by decide) ?_
        refine zv_icmp_geZ (tgt := 112) C (by omega) (by omega) dX11_readBody_64 (by decide) (fun h64 => ?_) (fun h64 => ?_)
        · skip
          have hi8 : i = 8 := by omega
          have hA1n : mPS (wrN τ17 (8 * P.U.nb) fN 8) tx n (pAdv tx n P) := mPS_e hA1 (fun x j a b => wrN_o ((Classical.em (x = 330)).elim (fun z => Or.inr (b z)) Or.inl))
          have hx3 : ∀ i, i < 8 → gI (wrN τ17 (8 * P.U.nb) fN 8) 330 (8 * P.U.nb + i) = zI (if i < tL tx n (pAdv tx n P).q then tx (tB tx n (pAdv tx n P).q + i) else 0) := fun i hi => by
            rw [gI_wrN, if_pos (by omega), show 8 * P.U.nb + i - 8 * P.U.nb = i by omega, hfN]
          have hFn : mF τ17 (wrN τ17 (8 * P.U.nb) fN 8) := ⟨fun x j _ b _ _ => wrN_o (Or.inl b), rfl⟩
          refine zv_eqS (τ := (wrN τ17 (8 * P.U.nb) fN 8)) (by rw [hi8]) ?_
          refine zv_aload_n C 0 dX11_readBody_112 rfl rfl ?_
          refine zv_cvv (st := []) C (c_X11_advanceToken hfl E (wrN τ17 (8 * P.U.nb) fN 8) tx n (tE tx n (pAdv tx n P).q) hA1n.1 hA1n.2.1.1 (tE_n hA1n.2.2.1).2.1) mX11_advanceToken kX11_119 (by decide : kd 327 = 10) rfl rfl rfl ⟨rfl, rfl⟩ (show zfit (zrm 1 25) 2 (zrm 8 170) = true from rfl) (Nat.le_of_ble_eq_true rfl) dX11_readBody_113 ⟨Nat.zero_le _, Nat.zero_le _⟩ (fun τ113 hp113 => ?_)
          have hA2 : mPS τ113 tx n (pAdv tx n (pAdv tx n P)) := mPS_A hA1n hp113.2 hp113.1
          have hA2f := mF_A hp113.2
          refine zv_aload_n C 0 dX11_readBody_116 rfl rfl ?_
          refine zv_ldcStr (i := 4) C (by decide) rfl rfl dX11_readBody_117 ?_
          refine zv_cvi (st := []) C (c_X11_takesWord hfl E τ113 tx n (pAdv tx n (pAdv tx n P)) 4 hA2 (by decide)) mX11_takesWord kX11_178 (by decide : kd 327 = 10) rfl rfl rfl ⟨rfl, rfl⟩ (show zfit (zrm 5 107) 2 (zrm 8 170) = true from rfl) (Nat.le_of_ble_eq_true rfl) dX11_readBody_119 ⟨Nat.zero_le _, Nat.zero_le _⟩ (fun r119 τ119 hp119 => ?_)
          refine zv_eqi (y := zB (tIs tx n (pAdv tx n (pAdv tx n P)).q 4)) hp119.1 ?_
          refine zv_if_neB (tgt := 131) C dX11_readBody_122 (by decide) (fun h122 => ?_) (fun h122 => ?_)
          · skip
            have hA3 : mPS τ119 tx n (pAdv tx n (pAdv tx n (pAdv tx n P))) := by have := hp119.2.2; rw [if_pos h122] at this; exact this
            refine zv_aload_n C 0 dX11_readBody_131 rfl rfl ?_
            refine zv_bipush (v := zI 100) C dX11_readBody_132 (by decide) ?_
            refine zv_ldc C kX11_181 dX11_readBody_134 ?_
            refine zv_eqi (y := zI 9999999) (by decide) ?_
            refine zv_cviD (st := []) C (c_X11_seesNumber hfl E τ119 tx n (pAdv tx n (pAdv tx n (pAdv tx n P))) 100 9999999 hA3 (by decide) (by decide)) mX11_seesNumber kX11_168 (by decide : kd 327 = 10) rfl rfl rfl ⟨rfl, rfl⟩ (show zfit (zrm 1 25) 3 (zrm 8 170) = true from rfl) (Nat.le_of_ble_eq_true rfl) dX11_readBody_136 ⟨Nat.zero_le _, Nat.zero_le _⟩ ?_
            refine zv_if_neB (tgt := 144) C dX11_readBody_139 (by decide) (fun h139 => ?_) (fun h139 => ?_)
            · skip
              have hn0 := pNum_0 h139
              have hvc := mVal hA3 hn0.1
              have hA3b : mPS (sI τ119 328 (2 + 3 * P.U.nb + 0) (zI ((tV tx n (pAdv tx n (pAdv tx n (pAdv tx n P))).q) : Int))) tx n (pAdv tx n (pAdv tx n (pAdv tx n P))) := mPS_328 (P := (pAdv tx n (pAdv tx n (pAdv tx n P)))) hA3 _ (by show 2 + 3 * P.U.nb ≤ _; omega)
              have hX0 : pBody tx n P = pOn tx n (tP tx n (pAdv tx n P).q) (tV tx n (pAdv tx n (pAdv tx n (pAdv tx n P))).q) (pRe tx n (pAdv tx n (pAdv tx n (pAdv tx n (pAdv tx n P)))).q) (pRt tx n (pAdv tx n (pAdv tx n (pAdv tx n (pAdv tx n P))))) := by rw [pBody, if_neg (fun z => z hnb8), if_neg (fun z => z h27), if_neg (fun z => z (by omega)), if_neg (fun z => z h122), if_neg (fun z => z h139)]
              refine zv_eqS (τ := τ119) (by rw [h139, mfC_0]) ?_
              refine zv_aload_n C 0 dX11_readBody_144 rfl rfl ?_
              refine zG10_0 C (by decide : kd 327 = _) kX11_7 dX11_readBody_145 ?_
              refine zv_iload_n C 2 dX11_readBody_148 rfl rfl ?_
              refine zv_iconst (v := zI 0) C dX11_readBody_149 rfl ?_
              refine zv_iaddZ C dX11_readBody_150 ?_
              refine zv_aload_n C 0 dX11_readBody_151 rfl rfl ?_
              refine zG10_19 C (by decide : kd 327 = _) kX11_85 dX11_readBody_152 ?_
              refine zv_eqi (y := (zI ((tV tx n (pAdv tx n (pAdv tx n (pAdv tx n P))).q) : Int))) (hvc) ?_
              refine zv_iast (j := 2 + 3 * P.U.nb + 0) C (by decide : kd 328 = _) (zI_ix (by omega)) (Nat.lt_of_lt_of_eq (show 2 + 3 * P.U.nb + 0 < 26 by omega) (by decide)) dX11_readBody_155 ?_
              refine zv_aload_n C 0 dX11_readBody_156 rfl rfl ?_
              refine zv_cvv (st := []) C (c_X11_advanceToken hfl E (sI τ119 328 (2 + 3 * P.U.nb + 0) (zI ((tV tx n (pAdv tx n (pAdv tx n (pAdv tx n P))).q) : Int))) tx n (tE tx n (pAdv tx n (pAdv tx n (pAdv tx n P))).q) hA3b.1 hA3b.2.1.1 (tE_n hA3b.2.2.1).2.1) mX11_advanceToken kX11_119 (by decide : kd 327 = 10) rfl rfl rfl ⟨rfl, rfl⟩ (show zfit (zrm 1 25) 2 (zrm 8 170) = true from rfl) (Nat.le_of_ble_eq_true rfl) dX11_readBody_157 ⟨Nat.zero_le _, Nat.zero_le _⟩ (fun τ157 hp157 => ?_)
              have hA4 : mPS τ157 tx n (pAdv tx n (pAdv tx n (pAdv tx n (pAdv tx n P)))) := mPS_A hA3b hp157.2 hp157.1
              have hA4f := mF_A hp157.2
              refine zv_aload_n C 0 dX11_readBody_160 rfl rfl ?_
              refine zG10_0 C (by decide : kd 327 = _) kX11_7 dX11_readBody_161 ?_
              refine zv_iload_n C 2 dX11_readBody_164 rfl rfl ?_
              refine zv_iconst (v := zI 1) C dX11_readBody_165 rfl ?_
              refine zv_iaddZ C dX11_readBody_166 ?_
              refine zv_aload_n C 0 dX11_readBody_167 rfl rfl ?_
              refine zv_ldcStr (i := 5) C (by decide) rfl rfl dX11_readBody_168 ?_
              refine zv_cvi (st := [.int (zI ((2 + 3 * (P.U.nb : Int)) + 1)), .ref (ob E 328)]) C (c_X11_takesWord hfl E τ157 tx n (pAdv tx n (pAdv tx n (pAdv tx n (pAdv tx n P)))) 5 hA4 (by decide)) mX11_takesWord kX11_178 (by decide : kd 327 = 10) rfl rfl rfl ⟨rfl, rfl⟩ (show zfit (zrm 5 107) 2 (zrm 8 170) = true from rfl) (Nat.le_of_ble_eq_true rfl) dX11_readBody_170 ⟨Nat.zero_le _, Nat.zero_le _⟩ (fun r170 τ170 hp170 => ?_)
              refine zv_eqi (y := zB (tIs tx n (pAdv tx n (pAdv tx n (pAdv tx n (pAdv tx n P)))).q 5)) hp170.1 ?_
              refine zv_if_eqB (tgt := 180) C dX11_readBody_173 (by decide) (fun h173 => ?_) (fun h173 => ?_)
              · skip
                have hA5 : mPS τ170 tx n (pRt tx n (pAdv tx n (pAdv tx n (pAdv tx n (pAdv tx n P))))) := hp170.2.2
                have hA6 : mPS (sI (sI τ170 328 (2 + 3 * P.U.nb + 1) (zI ((pRe tx n (pAdv tx n (pAdv tx n (pAdv tx n (pAdv tx n P)))).q) : Int))) 328 (2 + 3 * P.U.nb + 2) (zI (-1))) tx n (pRt tx n (pAdv tx n (pAdv tx n (pAdv tx n (pAdv tx n P))))) := mPS_328 (mPS_328 hA5 _ (by rw [hU9]; omega)) _ (by rw [hU9]; omega)
                refine zv_iconst (v := zI 0) C dX11_readBody_180 rfl ?_
                refine zv_iast (j := 2 + 3 * P.U.nb + 1) C (by decide : kd 328 = _) (zI_ix (by omega)) (Nat.lt_of_lt_of_eq (show 2 + 3 * P.U.nb + 1 < 26 by omega) (by decide)) dX11_readBody_181 ?_
                refine zv_eqS (τ := (sI τ170 328 (2 + 3 * P.U.nb + 1) (zI ((pRe tx n (pAdv tx n (pAdv tx n (pAdv tx n (pAdv tx n P)))).q) : Int)))) (congrArg (fun z => sI τ170 328 (2 + 3 * P.U.nb + 1) (zI z)) (by rw [pRe, if_neg h173]; rfl)) ?_
                refine zv_aload_n C 0 dX11_readBody_182 rfl rfl ?_
                refine zG10_0 C (by decide : kd 327 = _) kX11_7 dX11_readBody_183 ?_
                refine zv_iload_n C 2 dX11_readBody_186 rfl rfl ?_
                refine zv_iconst (v := zI 2) C dX11_readBody_187 rfl ?_
                refine zv_iaddZ C dX11_readBody_188 ?_
                refine zv_iconst (v := zI (-1)) C dX11_readBody_189 rfl ?_
                refine zv_iast (j := 2 + 3 * P.U.nb + 2) C (by decide : kd 328 = _) (zI_ix (by omega)) (Nat.lt_of_lt_of_eq (show 2 + 3 * P.U.nb + 2 < 26 by omega) (by decide)) dX11_readBody_190 ?_
                refine zv_aload_n C 0 dX11_readBody_191 rfl rfl ?_
                refine zv_ldcStr (i := 6) C (by decide) rfl rfl dX11_readBody_192 ?_
                refine zv_cvi (st := []) C (c_X11_takesWord hfl E (sI (sI τ170 328 (2 + 3 * P.U.nb + 1) (zI ((pRe tx n (pAdv tx n (pAdv tx n (pAdv tx n (pAdv tx n P)))).q) : Int))) 328 (2 + 3 * P.U.nb + 2) (zI (-1))) tx n (pRt tx n (pAdv tx n (pAdv tx n (pAdv tx n (pAdv tx n P))))) 6 hA6 (by decide)) mX11_takesWord kX11_178 (by decide : kd 327 = 10) rfl rfl rfl ⟨rfl, rfl⟩ (show zfit (zrm 5 107) 2 (zrm 8 170) = true from rfl) (Nat.le_of_ble_eq_true rfl) dX11_readBody_194 ⟨Nat.zero_le _, Nat.zero_le _⟩ (fun r194 τ194 hp194 => ?_)
                refine zv_eqi (y := zB (tIs tx n (pRt tx n (pAdv tx n (pAdv tx n (pAdv tx n (pAdv tx n P))))).q 6)) hp194.1 ?_
                have hw0 : gI τ194 328 (2 + 3 * P.U.nb) = zI ((tV tx n (pAdv tx n (pAdv tx n (pAdv tx n P))).q) : Int) := by rw [mA_g hp194.2.1 328 (by decide), gI_sI, if_neg (by omega), gI_sI, if_neg (by omega), mA_g hp170.2.1 328 (by decide), mA_g hp157.2 328 (by decide), gI_sI, if_pos (by omega)]
                have hw1 : gI τ194 328 (3 + 3 * P.U.nb) = zI ((pRe tx n (pAdv tx n (pAdv tx n (pAdv tx n (pAdv tx n P)))).q) : Int) := by rw [mA_g hp194.2.1 328 (by decide), gI_sI, if_neg (by omega), gI_sI, if_pos (by omega)]
                have hw2 : gI τ194 328 (4 + 3 * P.U.nb) = zI (-1) := by rw [mA_g hp194.2.1 328 (by decide), gI_sI, if_pos (by omega)]
                have hw3 : ∀ i, i < 8 → gI τ194 330 (8 * P.U.nb + i) = zI (if i < tL tx n (pAdv tx n P).q then tx (tB tx n (pAdv tx n P).q + i) else 0) := by rw [mA_g hp194.2.1 330 (by decide), gI_sIf _ _ _ _ (by decide), gI_sIf _ _ _ _ (by decide), mA_g hp170.2.1 330 (by decide), mA_g hp157.2 330 (by decide), gI_sIf _ _ _ _ (by decide), mA_g hp119.2.1 330 (by decide), mA_g hp113.2 330 (by decide)]; exact hx3
                have hF7 : mF σ τ194 := mF_t (mF_t hA1f hFn) (mF_t hA2f (mF_t (mF_A hp119.2.1) (mF_t (mF_I (mF_r _) _ (by omega)) (mF_t (mF_A hp157.2) (mF_t (mF_A hp170.2.1) (mF_t (mF_I (mF_I (mF_r _) _ (by omega)) _ (by omega)) (mF_A hp194.2.1)))))))
                refine zv_if_eqB (tgt := 241) C dX11_readBody_197 (by decide) (fun h197 => ?_) (fun h197 => ?_)
                · skip
                  have hA7 : mPS τ194 tx n (pRt tx n (pAdv tx n (pAdv tx n (pAdv tx n (pAdv tx n P))))) := by have := hp194.2.2; rw [if_neg h197] at this; exact this
                  have hq7 : mPS (sI τ194 328 0 (zI ((P.U.nb : Int) + 1))) tx n ((pRt tx n (pAdv tx n (pAdv tx n (pAdv tx n (pAdv tx n P))))).sU ((pRt tx n (pAdv tx n (pAdv tx n (pAdv tx n (pAdv tx n P))))).U.tak (tP tx n (pAdv tx n P).q) (tV tx n (pAdv tx n (pAdv tx n (pAdv tx n P))).q) (pRe tx n (pAdv tx n (pAdv tx n (pAdv tx n (pAdv tx n P)))).q) (-1))) := mPS_tak (Y := (pRt tx n (pAdv tx n (pAdv tx n (pAdv tx n (pAdv tx n P)))))) hA7 (congrArg zSU.nb hU9) hnb8 hNm hw3 hw0 hw1 hw2 (by omega)
                  have hX : pBody tx n P = (0, (pRt tx n (pAdv tx n (pAdv tx n (pAdv tx n (pAdv tx n P))))).sU ((pRt tx n (pAdv tx n (pAdv tx n (pAdv tx n (pAdv tx n P))))).U.tak (tP tx n (pAdv tx n P).q) (tV tx n (pAdv tx n (pAdv tx n (pAdv tx n P))).q) (pRe tx n (pAdv tx n (pAdv tx n (pAdv tx n (pAdv tx n P)))).q) (-1))) := by rw [hX0, pOn, if_pos h197]
                  refine zv_aload_n C 0 dX11_readBody_241 rfl rfl ?_
                  refine zG10_0 C (by decide : kd 327 = _) kX11_7 dX11_readBody_242 ?_
                  refine zv_iconst (v := zI 0) C dX11_readBody_245 rfl ?_
                  refine zv_dup2 C dX11_readBody_246 rfl rfl ?_
                  refine zv_iald (j := 0) C (by decide : kd 328 = _) (zI_ix (by omega)) (by decide) dX11_readBody_247 ?_
                  refine zv_eqi (y := (zI (P.U.nb : Int))) (hA7.2.2.2.1.1.1.trans (congrArg (fun z => zI ((z : Nat) : Int)) (congrArg zSU.nb hU9))) ?_
                  refine zv_iconst (v := zI 1) C dX11_readBody_248 rfl ?_
                  refine zv_iaddZ C dX11_readBody_249 ?_
                  refine zv_iast (j := 0) C (by decide : kd 328 = _) (zI_ix (by omega)) (by decide) dX11_readBody_250 ?_
                  refine zv_iconst (v := zI 1) C dX11_readBody_251 rfl ?_
                  exact zv_iret C hr rfl dX11_readBody_252 (mSt_o (mR_o (mF_t hF7 (mF_I (mF_r _) _ (by omega))) hq7) hX)
                · skip
                  have hA7 : mPS τ194 tx n (pAdv tx n (pRt tx n (pAdv tx n (pAdv tx n (pAdv tx n (pAdv tx n P)))))) := by have := hp194.2.2; rw [if_pos h197] at this; exact this
                  have hU10 : (pAdv tx n (pRt tx n (pAdv tx n (pAdv tx n (pAdv tx n (pAdv tx n P)))))).U = P.U := hU9
                  refine zv_aload_n C 0 dX11_readBody_200 rfl rfl ?_
                  refine zv_cviD (st := []) C (c_X11_seesKnown hfl E τ194 tx n (pAdv tx n (pRt tx n (pAdv tx n (pAdv tx n (pAdv tx n (pAdv tx n P)))))) hA7) mX11_seesKnown kX11_182 (by decide : kd 327 = 10) rfl rfl rfl ⟨rfl, rfl⟩ (show zfit (zrm 7 148) 3 (zrm 8 170) = true from rfl) (Nat.le_of_ble_eq_true rfl) dX11_readBody_201 ⟨Nat.zero_le _, Nat.zero_le _⟩ ?_
                  refine zv_eqi (y := (zI z9)) (by rw [hz9, hU10]) ?_
                  refine zv_istore_n (lv' := [(3, .int (zI z9)), (0, .ref (ob E 327)), (1, .int (zI (P.U.nb : Int))), (2, .int (zI (2 + 3 * (P.U.nb : Int))))]) C dX11_readBody_204 rfl (by decide) rfl ?_
                  refine zv_iload_n C 0 dX11_readBody_205 rfl rfl ?_
                  refine zv_iconst (v := zI (-1)) C dX11_readBody_206 rfl ?_
                  refine zv_icmp_neZ (tgt := 212) C (by omega) (by omega) dX11_readBody_207 (by decide) (fun h207 => ?_) (fun h207 => ?_)
                  · skip
                    have hK0 : pKn tx n (pAdv tx n (pRt tx n (pAdv tx n (pAdv tx n (pAdv tx n (pAdv tx n P)))))) = 0 := by
                      rcases Nat.eq_zero_or_pos (pKn tx n (pAdv tx n (pRt tx n (pAdv tx n (pAdv tx n (pAdv tx n (pAdv tx n P))))))) with q | q
                      · exact q
                      · rw [if_neg (by omega)] at hz9; omega
                    obtain ⟨hNm2, hNam2, -⟩ := pKn_0 hK0
                    rw [if_pos hK0] at hz9
                    obtain ⟨j, hj9⟩ : ∃ j : Nat, z9 = (j : Int) := ⟨z9.toNat, by omega⟩
                    have hpj : (pO P.U.nm (tP tx n (pAdv tx n (pRt tx n (pAdv tx n (pAdv tx n (pAdv tx n (pAdv tx n P)))))).q) P.U.nb).toNat = j := by omega
                    have hB6 : zRb (gI τ194 328) P.U := by have := hA7.2.2.2.1.1; rw [hU10] at this; exact this
                    have hca := (mPS_b hP).2.2.2.2 j (by omega)
                    refine zv_eqS (τ := τ194) (by rw [hK0, mfC_0]) ?_
                    refine zv_aload_n C 1 dX11_readBody_212 rfl rfl ?_
                    refine zv_iload_n C 0 dX11_readBody_213 rfl rfl ?_
                    refine zv_eqi (y := (zI (j : Int))) (by rw [hj9]) ?_
                    refine zv_iconst (v := zI 2) C dX11_readBody_214 rfl ?_
                    refine zv_cviD (st := []) C (c2_X11_of hfl E τ194 P.U j hB6 (by omega) hnb) mX11_of kX11_185 (by decide : kd 327 = 10) rfl rfl rfl ⟨rfl, rfl⟩ (show zfit (zrm 0 0) 3 (zrm 8 170) = true from rfl) (Nat.le_of_ble_eq_true rfl) dX11_readBody_215 ⟨Nat.zero_le _, Nat.zero_le _⟩ ?_
                    refine zv_iconst (v := zI (-1)) C dX11_readBody_218 rfl ?_
                    refine zv_icmp_eqZ (tgt := 228) C (by omega) (by omega) dX11_readBody_219 (by decide) (fun h219 => ?_) (fun h219 => ?_)
                    · skip
                      have hX : pBody tx n P = (0, pAdv tx n ((pAdv tx n (pRt tx n (pAdv tx n (pAdv tx n (pAdv tx n (pAdv tx n P)))))).sU ((pRt tx n (pAdv tx n (pAdv tx n (pAdv tx n (pAdv tx n P))))).U.tak (tP tx n (pAdv tx n P).q) (tV tx n (pAdv tx n (pAdv tx n (pAdv tx n P))).q) (pRe tx n (pAdv tx n (pAdv tx n (pAdv tx n (pAdv tx n P)))).q) (j : Int)))) := by rw [hX0, pOn, if_neg (fun z => z h197), if_neg (fun z => z hNam2), hU9, hpj, if_neg (by omega), show pO P.U.nm (tP tx n (pAdv tx n (pRt tx n (pAdv tx n (pAdv tx n (pAdv tx n (pAdv tx n P)))))).q) P.U.nb = (j : Int) by omega]
                      have hA7c : mPS (sI τ194 328 (2 + 3 * P.U.nb + 2) (zI (j : Int))) tx n (pAdv tx n (pRt tx n (pAdv tx n (pAdv tx n (pAdv tx n (pAdv tx n P)))))) := mPS_328 hA7 _ (by rw [hU10]; omega)
                      refine zv_aload_n C 1 dX11_readBody_228 rfl rfl ?_
                      refine zG10_0 C (by decide : kd 327 = _) kX11_7 dX11_readBody_229 ?_
                      refine zv_iload_n C 3 dX11_readBody_232 rfl rfl ?_
                      refine zv_iconst (v := zI 2) C dX11_readBody_233 rfl ?_
                      refine zv_iaddZ C dX11_readBody_234 ?_
                      refine zv_iload_n C 0 dX11_readBody_235 rfl rfl ?_
                      refine zv_eqi (y := (zI (j : Int))) (by rw [hj9]) ?_
                      refine zv_iast (j := 2 + 3 * P.U.nb + 2) C (by decide : kd 328 = _) (zI_ix (by omega)) (Nat.lt_of_lt_of_eq (show 2 + 3 * P.U.nb + 2 < 26 by omega) (by decide)) dX11_readBody_236 ?_
                      refine zv_aload_n C 1 dX11_readBody_237 rfl rfl ?_
                      refine zv_cvv (st := []) C (c_X11_advanceToken hfl E (sI τ194 328 (2 + 3 * P.U.nb + 2) (zI (j : Int))) tx n (tE tx n (pAdv tx n (pRt tx n (pAdv tx n (pAdv tx n (pAdv tx n (pAdv tx n P)))))).q) hA7c.1 hA7c.2.1.1 (tE_n hA7c.2.2.1).2.1) mX11_advanceToken kX11_119 (by decide : kd 327 = 10) rfl rfl rfl ⟨rfl, rfl⟩ (show zfit (zrm 1 25) 2 (zrm 8 170) = true from rfl) (Nat.le_of_ble_eq_true rfl) dX11_readBody_238 ⟨Nat.zero_le _, Nat.zero_le _⟩ (fun τ238 hp238 => ?_)
                      have hA8 : mPS τ238 tx n (pAdv tx n (pAdv tx n (pRt tx n (pAdv tx n (pAdv tx n (pAdv tx n (pAdv tx n P))))))) := mPS_A hA7c hp238.2 hp238.1
                      have hA8f := mF_A hp238.2
                      have hy0 : gI τ238 328 (2 + 3 * P.U.nb) = zI ((tV tx n (pAdv tx n (pAdv tx n (pAdv tx n P))).q) : Int) := by rw [mA_g hp238.2 328 (by decide), gI_sI, if_neg (by omega)]; exact hw0
                      have hy1 : gI τ238 328 (3 + 3 * P.U.nb) = zI ((pRe tx n (pAdv tx n (pAdv tx n (pAdv tx n (pAdv tx n P)))).q) : Int) := by rw [mA_g hp238.2 328 (by decide), gI_sI, if_neg (by omega)]; exact hw1
                      have hy2 : gI τ238 328 (4 + 3 * P.U.nb) = zI (j : Int) := by rw [mA_g hp238.2 328 (by decide), gI_sI, if_pos (by omega)]
                      have hy3 : ∀ i, i < 8 → gI τ238 330 (8 * P.U.nb + i) = zI (if i < tL tx n (pAdv tx n P).q then tx (tB tx n (pAdv tx n P).q + i) else 0) := by rw [mA_g hp238.2 330 (by decide), gI_sIf _ _ _ _ (by decide)]; exact hw3
                      have hF9 : mF σ τ238 := mF_t hF7 (mF_t (mF_I (mF_r _) _ (by omega)) (mF_A hp238.2))
                      have hE8 : (pAdv tx n (pAdv tx n (pRt tx n (pAdv tx n (pAdv tx n (pAdv tx n (pAdv tx n P))))))).U.nb = P.U.nb := congrArg zSU.nb hU9
                      have hq9 : mPS (sI τ238 328 0 (zI ((P.U.nb : Int) + 1))) tx n (pAdv tx n ((pAdv tx n (pRt tx n (pAdv tx n (pAdv tx n (pAdv tx n (pAdv tx n P)))))).sU ((pRt tx n (pAdv tx n (pAdv tx n (pAdv tx n (pAdv tx n P))))).U.tak (tP tx n (pAdv tx n P).q) (tV tx n (pAdv tx n (pAdv tx n (pAdv tx n P))).q) (pRe tx n (pAdv tx n (pAdv tx n (pAdv tx n (pAdv tx n P)))).q) (j : Int)))) := mPS_tak (Y := pAdv tx n (pAdv tx n (pRt tx n (pAdv tx n (pAdv tx n (pAdv tx n (pAdv tx n P))))))) hA8 hE8 hnb8 hNm hy3 hy0 hy1 hy2 (by omega)
                      refine zv_aload_n C 1 dX11_readBody_241 rfl rfl ?_
                      refine zG10_0 C (by decide : kd 327 = _) kX11_7 dX11_readBody_242 ?_
                      refine zv_iconst (v := zI 0) C dX11_readBody_245 rfl ?_
                      refine zv_dup2 C dX11_readBody_246 rfl rfl ?_
                      refine zv_iald (j := 0) C (by decide : kd 328 = _) (zI_ix (by omega)) (by decide) dX11_readBody_247 ?_
                      refine zv_eqi (y := (zI (P.U.nb : Int))) (hA8.2.2.2.1.1.1.trans (congrArg (fun z => zI ((z : Nat) : Int)) hE8)) ?_
                      refine zv_iconst (v := zI 1) C dX11_readBody_248 rfl ?_
                      refine zv_iaddZ C dX11_readBody_249 ?_
                      refine zv_iast (j := 0) C (by decide : kd 328 = _) (zI_ix (by omega)) (by decide) dX11_readBody_250 ?_
                      refine zv_iconst (v := zI 1) C dX11_readBody_251 rfl ?_
                      exact zv_iret C hr rfl dX11_readBody_252 (mSt_o (mR_o (mF_t hF9 (mF_I (mF_r _) _ (by omega))) hq9) hX)
                    · skip
                      have hX : pBody tx n P = (3, (pAdv tx n (pRt tx n (pAdv tx n (pAdv tx n (pAdv tx n (pAdv tx n P))))))) := by rw [hX0, pOn, if_neg (fun z => z h197), if_neg (fun z => z hNam2), hU9, hpj, if_pos (Or.inr (by omega))]
                      refine zv_aload_n C 1 dX11_readBody_222 rfl rfl ?_
                      refine zv_iconst (v := zI 3) C dX11_readBody_223 rfl ?_
                      refine zv_cviD (st := []) C (c_X11_failsAt hfl E τ194 tx n (pAdv tx n (pRt tx n (pAdv tx n (pAdv tx n (pAdv tx n (pAdv tx n P)))))) 3 hA7 (by decide)) mX11_failsAt kX11_122 (by decide : kd 327 = 10) rfl rfl rfl ⟨rfl, rfl⟩ (show zfit (zrm 0 0) 2 (zrm 8 170) = true from rfl) (Nat.le_of_ble_eq_true rfl) dX11_readBody_224 ⟨Nat.zero_le _, Nat.zero_le _⟩ ?_
                      exact zv_iret C hr rfl dX11_readBody_227 (mSt_f (mR_f (P := (pAdv tx n (pRt tx n (pAdv tx n (pAdv tx n (pAdv tx n (pAdv tx n P))))))) (by decide) hF7) (by decide) hX)
                  · skip
                    have hKn : pKn tx n (pAdv tx n (pRt tx n (pAdv tx n (pAdv tx n (pAdv tx n (pAdv tx n P)))))) ≠ 0 := fun z => by
                      rw [if_pos z] at hz9
                      have h9 := (pKn_0 z).2.2
                      rw [hU10] at h9
                      omega
                    have hX : pBody tx n P = (pKn tx n (pAdv tx n (pRt tx n (pAdv tx n (pAdv tx n (pAdv tx n (pAdv tx n P)))))), (pAdv tx n (pRt tx n (pAdv tx n (pAdv tx n (pAdv tx n (pAdv tx n P))))))) := by
                      rcases pKn_n hKn with ⟨q1, q2⟩ | ⟨q1, q2, q3⟩
                      · rw [hX0, pOn, if_neg (fun z => z h197), if_pos q1, q2]
                      · rw [hU10] at q2
                        rw [hX0, pOn, if_neg (fun z => z h197), if_neg (fun z => z q1), hU9, q3]; exact if_pos (Or.inl q2)
                    refine zv_iconst (v := zI 0) C dX11_readBody_210 rfl ?_
                    exact zv_iret C hr rfl dX11_readBody_211 (mSt_f (mR_f (P := (pAdv tx n (pRt tx n (pAdv tx n (pAdv tx n (pAdv tx n (pAdv tx n P))))))) hKn hF7) hKn hX)
              · skip
                have hA5 : mPS τ170 tx n (pRt tx n (pAdv tx n (pAdv tx n (pAdv tx n (pAdv tx n P))))) := hp170.2.2
                have hA6 : mPS (sI (sI τ170 328 (2 + 3 * P.U.nb + 1) (zI ((pRe tx n (pAdv tx n (pAdv tx n (pAdv tx n (pAdv tx n P)))).q) : Int))) 328 (2 + 3 * P.U.nb + 2) (zI (-1))) tx n (pRt tx n (pAdv tx n (pAdv tx n (pAdv tx n (pAdv tx n P))))) := mPS_328 (mPS_328 hA5 _ (by rw [hU9]; omega)) _ (by rw [hU9]; omega)
                refine zv_iconst (v := zI 1) C dX11_readBody_176 rfl ?_
                refine zv_goto (tgt := 181) C dX11_readBody_177 (by decide) ?_
                refine zv_iast (j := 2 + 3 * P.U.nb + 1) C (by decide : kd 328 = _) (zI_ix (by omega)) (Nat.lt_of_lt_of_eq (show 2 + 3 * P.U.nb + 1 < 26 by omega) (by decide)) dX11_readBody_181 ?_
                refine zv_eqS (τ := (sI τ170 328 (2 + 3 * P.U.nb + 1) (zI ((pRe tx n (pAdv tx n (pAdv tx n (pAdv tx n (pAdv tx n P)))).q) : Int)))) (congrArg (fun z => sI τ170 328 (2 + 3 * P.U.nb + 1) (zI z)) (by rw [pRe, if_pos h173]; rfl)) ?_
                refine zv_aload_n C 0 dX11_readBody_182 rfl rfl ?_
                refine zG10_0 C (by decide : kd 327 = _) kX11_7 dX11_readBody_183 ?_
                refine zv_iload_n C 2 dX11_readBody_186 rfl rfl ?_
                refine zv_iconst (v := zI 2) C dX11_readBody_187 rfl ?_
                refine zv_iaddZ C dX11_readBody_188 ?_
                refine zv_iconst (v := zI (-1)) C dX11_readBody_189 rfl ?_
                refine zv_iast (j := 2 + 3 * P.U.nb + 2) C (by decide : kd 328 = _) (zI_ix (by omega)) (Nat.lt_of_lt_of_eq (show 2 + 3 * P.U.nb + 2 < 26 by omega) (by decide)) dX11_readBody_190 ?_
                refine zv_aload_n C 0 dX11_readBody_191 rfl rfl ?_
                refine zv_ldcStr (i := 6) C (by decide) rfl rfl dX11_readBody_192 ?_
                refine zv_cvi (st := []) C (c_X11_takesWord hfl E (sI (sI τ170 328 (2 + 3 * P.U.nb + 1) (zI ((pRe tx n (pAdv tx n (pAdv tx n (pAdv tx n (pAdv tx n P)))).q) : Int))) 328 (2 + 3 * P.U.nb + 2) (zI (-1))) tx n (pRt tx n (pAdv tx n (pAdv tx n (pAdv tx n (pAdv tx n P))))) 6 hA6 (by decide)) mX11_takesWord kX11_178 (by decide : kd 327 = 10) rfl rfl rfl ⟨rfl, rfl⟩ (show zfit (zrm 5 107) 2 (zrm 8 170) = true from rfl) (Nat.le_of_ble_eq_true rfl) dX11_readBody_194 ⟨Nat.zero_le _, Nat.zero_le _⟩ (fun r194 τ194 hp194 => ?_)
                refine zv_eqi (y := zB (tIs tx n (pRt tx n (pAdv tx n (pAdv tx n (pAdv tx n (pAdv tx n P))))).q 6)) hp194.1 ?_
                have hw0 : gI τ194 328 (2 + 3 * P.U.nb) = zI ((tV tx n (pAdv tx n (pAdv tx n (pAdv tx n P))).q) : Int) := by rw [mA_g hp194.2.1 328 (by decide), gI_sI, if_neg (by omega), gI_sI, if_neg (by omega), mA_g hp170.2.1 328 (by decide), mA_g hp157.2 328 (by decide), gI_sI, if_pos (by omega)]
                have hw1 : gI τ194 328 (3 + 3 * P.U.nb) = zI ((pRe tx n (pAdv tx n (pAdv tx n (pAdv tx n (pAdv tx n P)))).q) : Int) := by rw [mA_g hp194.2.1 328 (by decide), gI_sI, if_neg (by omega), gI_sI, if_pos (by omega)]
                have hw2 : gI τ194 328 (4 + 3 * P.U.nb) = zI (-1) := by rw [mA_g hp194.2.1 328 (by decide), gI_sI, if_pos (by omega)]
                have hw3 : ∀ i, i < 8 → gI τ194 330 (8 * P.U.nb + i) = zI (if i < tL tx n (pAdv tx n P).q then tx (tB tx n (pAdv tx n P).q + i) else 0) := by rw [mA_g hp194.2.1 330 (by decide), gI_sIf _ _ _ _ (by decide), gI_sIf _ _ _ _ (by decide), mA_g hp170.2.1 330 (by decide), mA_g hp157.2 330 (by decide), gI_sIf _ _ _ _ (by decide), mA_g hp119.2.1 330 (by decide), mA_g hp113.2 330 (by decide)]; exact hx3
                have hF7 : mF σ τ194 := mF_t (mF_t hA1f hFn) (mF_t hA2f (mF_t (mF_A hp119.2.1) (mF_t (mF_I (mF_r _) _ (by omega)) (mF_t (mF_A hp157.2) (mF_t (mF_A hp170.2.1) (mF_t (mF_I (mF_I (mF_r _) _ (by omega)) _ (by omega)) (mF_A hp194.2.1)))))))
                refine zv_if_eqB (tgt := 241) C dX11_readBody_197 (by decide) (fun h197 => ?_) (fun h197 => ?_)
                · skip
                  have hA7 : mPS τ194 tx n (pRt tx n (pAdv tx n (pAdv tx n (pAdv tx n (pAdv tx n P))))) := by have := hp194.2.2; rw [if_neg h197] at this; exact this
                  have hq7 : mPS (sI τ194 328 0 (zI ((P.U.nb : Int) + 1))) tx n ((pRt tx n (pAdv tx n (pAdv tx n (pAdv tx n (pAdv tx n P))))).sU ((pRt tx n (pAdv tx n (pAdv tx n (pAdv tx n (pAdv tx n P))))).U.tak (tP tx n (pAdv tx n P).q) (tV tx n (pAdv tx n (pAdv tx n (pAdv tx n P))).q) (pRe tx n (pAdv tx n (pAdv tx n (pAdv tx n (pAdv tx n P)))).q) (-1))) := mPS_tak (Y := (pRt tx n (pAdv tx n (pAdv tx n (pAdv tx n (pAdv tx n P)))))) hA7 (congrArg zSU.nb hU9) hnb8 hNm hw3 hw0 hw1 hw2 (by omega)
                  have hX : pBody tx n P = (0, (pRt tx n (pAdv tx n (pAdv tx n (pAdv tx n (pAdv tx n P))))).sU ((pRt tx n (pAdv tx n (pAdv tx n (pAdv tx n (pAdv tx n P))))).U.tak (tP tx n (pAdv tx n P).q) (tV tx n (pAdv tx n (pAdv tx n (pAdv tx n P))).q) (pRe tx n (pAdv tx n (pAdv tx n (pAdv tx n (pAdv tx n P)))).q) (-1))) := by rw [hX0, pOn, if_pos h197]
                  refine zv_aload_n C 0 dX11_readBody_241 rfl rfl ?_
                  refine zG10_0 C (by decide : kd 327 = _) kX11_7 dX11_readBody_242 ?_
                  refine zv_iconst (v := zI 0) C dX11_readBody_245 rfl ?_
                  refine zv_dup2 C dX11_readBody_246 rfl rfl ?_
                  refine zv_iald (j := 0) C (by decide : kd 328 = _) (zI_ix (by omega)) (by decide) dX11_readBody_247 ?_
                  refine zv_eqi (y := (zI (P.U.nb : Int))) (hA7.2.2.2.1.1.1.trans (congrArg (fun z => zI ((z : Nat) : Int)) (congrArg zSU.nb hU9))) ?_
                  refine zv_iconst (v := zI 1) C dX11_readBody_248 rfl ?_
                  refine zv_iaddZ C dX11_readBody_249 ?_
                  refine zv_iast (j := 0) C (by decide : kd 328 = _) (zI_ix (by omega)) (by decide) dX11_readBody_250 ?_
                  refine zv_iconst (v := zI 1) C dX11_readBody_251 rfl ?_
                  exact zv_iret C hr rfl dX11_readBody_252 (mSt_o (mR_o (mF_t hF7 (mF_I (mF_r _) _ (by omega))) hq7) hX)
                · skip
                  have hA7 : mPS τ194 tx n (pAdv tx n (pRt tx n (pAdv tx n (pAdv tx n (pAdv tx n (pAdv tx n P)))))) := by have := hp194.2.2; rw [if_pos h197] at this; exact this
                  have hU10 : (pAdv tx n (pRt tx n (pAdv tx n (pAdv tx n (pAdv tx n (pAdv tx n P)))))).U = P.U := hU9
                  refine zv_aload_n C 0 dX11_readBody_200 rfl rfl ?_
                  refine zv_cviD (st := []) C (c_X11_seesKnown hfl E τ194 tx n (pAdv tx n (pRt tx n (pAdv tx n (pAdv tx n (pAdv tx n (pAdv tx n P)))))) hA7) mX11_seesKnown kX11_182 (by decide : kd 327 = 10) rfl rfl rfl ⟨rfl, rfl⟩ (show zfit (zrm 7 148) 3 (zrm 8 170) = true from rfl) (Nat.le_of_ble_eq_true rfl) dX11_readBody_201 ⟨Nat.zero_le _, Nat.zero_le _⟩ ?_
                  refine zv_eqi (y := (zI z9)) (by rw [hz9, hU10]) ?_
                  refine zv_istore_n (lv' := [(3, .int (zI z9)), (0, .ref (ob E 327)), (1, .int (zI (P.U.nb : Int))), (2, .int (zI (2 + 3 * (P.U.nb : Int))))]) C dX11_readBody_204 rfl (by decide) rfl ?_
                  refine zv_iload_n C 0 dX11_readBody_205 rfl rfl ?_
                  refine zv_iconst (v := zI (-1)) C dX11_readBody_206 rfl ?_
                  refine zv_icmp_neZ (tgt := 212) C (by omega) (by omega) dX11_readBody_207 (by decide) (fun h207 => ?_) (fun h207 => ?_)
                  · skip
                    have hK0 : pKn tx n (pAdv tx n (pRt tx n (pAdv tx n (pAdv tx n (pAdv tx n (pAdv tx n P)))))) = 0 := by
                      rcases Nat.eq_zero_or_pos (pKn tx n (pAdv tx n (pRt tx n (pAdv tx n (pAdv tx n (pAdv tx n (pAdv tx n P))))))) with q | q
                      · exact q
                      · rw [if_neg (by omega)] at hz9; omega
                    obtain ⟨hNm2, hNam2, -⟩ := pKn_0 hK0
                    rw [if_pos hK0] at hz9
                    obtain ⟨j, hj9⟩ : ∃ j : Nat, z9 = (j : Int) := ⟨z9.toNat, by omega⟩
                    have hpj : (pO P.U.nm (tP tx n (pAdv tx n (pRt tx n (pAdv tx n (pAdv tx n (pAdv tx n (pAdv tx n P)))))).q) P.U.nb).toNat = j := by omega
                    have hB6 : zRb (gI τ194 328) P.U := by have := hA7.2.2.2.1.1; rw [hU10] at this; exact this
                    have hca := (mPS_b hP).2.2.2.2 j (by omega)
                    refine zv_eqS (τ := τ194) (by rw [hK0, mfC_0]) ?_
                    refine zv_aload_n C 1 dX11_readBody_212 rfl rfl ?_
                    refine zv_iload_n C 0 dX11_readBody_213 rfl rfl ?_
                    refine zv_eqi (y := (zI (j : Int))) (by rw [hj9]) ?_
                    refine zv_iconst (v := zI 2) C dX11_readBody_214 rfl ?_
                    refine zv_cviD (st := []) C (c2_X11_of hfl E τ194 P.U j hB6 (by omega) hnb) mX11_of kX11_185 (by decide : kd 327 = 10) rfl rfl rfl ⟨rfl, rfl⟩ (show zfit (zrm 0 0) 3 (zrm 8 170) = true from rfl) (Nat.le_of_ble_eq_true rfl) dX11_readBody_215 ⟨Nat.zero_le _, Nat.zero_le _⟩ ?_
                    refine zv_iconst (v := zI (-1)) C dX11_readBody_218 rfl ?_
                    refine zv_icmp_eqZ (tgt := 228) C (by omega) (by omega) dX11_readBody_219 (by decide) (fun h219 => ?_) (fun h219 => ?_)
                    · skip
                      have hX : pBody tx n P = (0, pAdv tx n ((pAdv tx n (pRt tx n (pAdv tx n (pAdv tx n (pAdv tx n (pAdv tx n P)))))).sU ((pRt tx n (pAdv tx n (pAdv tx n (pAdv tx n (pAdv tx n P))))).U.tak (tP tx n (pAdv tx n P).q) (tV tx n (pAdv tx n (pAdv tx n (pAdv tx n P))).q) (pRe tx n (pAdv tx n (pAdv tx n (pAdv tx n (pAdv tx n P)))).q) (j : Int)))) := by rw [hX0, pOn, if_neg (fun z => z h197), if_neg (fun z => z hNam2), hU9, hpj, if_neg (by omega), show pO P.U.nm (tP tx n (pAdv tx n (pRt tx n (pAdv tx n (pAdv tx n (pAdv tx n (pAdv tx n P)))))).q) P.U.nb = (j : Int) by omega]
                      have hA7c : mPS (sI τ194 328 (2 + 3 * P.U.nb + 2) (zI (j : Int))) tx n (pAdv tx n (pRt tx n (pAdv tx n (pAdv tx n (pAdv tx n (pAdv tx n P)))))) := mPS_328 hA7 _ (by rw [hU10]; omega)
                      refine zv_aload_n C 1 dX11_readBody_228 rfl rfl ?_
                      refine zG10_0 C (by decide : kd 327 = _) kX11_7 dX11_readBody_229 ?_
                      refine zv_iload_n C 3 dX11_readBody_232 rfl rfl ?_
                      refine zv_iconst (v := zI 2) C dX11_readBody_233 rfl ?_
                      refine zv_iaddZ C dX11_readBody_234 ?_
                      refine zv_iload_n C 0 dX11_readBody_235 rfl rfl ?_
                      refine zv_eqi (y := (zI (j : Int))) (by rw [hj9]) ?_
                      refine zv_iast (j := 2 + 3 * P.U.nb + 2) C (by decide : kd 328 = _) (zI_ix (by omega)) (Nat.lt_of_lt_of_eq (show 2 + 3 * P.U.nb + 2 < 26 by omega) (by decide)) dX11_readBody_236 ?_
                      refine zv_aload_n C 1 dX11_readBody_237 rfl rfl ?_
                      refine zv_cvv (st := []) C (c_X11_advanceToken hfl E (sI τ194 328 (2 + 3 * P.U.nb + 2) (zI (j : Int))) tx n (tE tx n (pAdv tx n (pRt tx n (pAdv tx n (pAdv tx n (pAdv tx n (pAdv tx n P)))))).q) hA7c.1 hA7c.2.1.1 (tE_n hA7c.2.2.1).2.1) mX11_advanceToken kX11_119 (by decide : kd 327 = 10) rfl rfl rfl ⟨rfl, rfl⟩ (show zfit (zrm 1 25) 2 (zrm 8 170) = true from rfl) (Nat.le_of_ble_eq_true rfl) dX11_readBody_238 ⟨Nat.zero_le _, Nat.zero_le _⟩ (fun τ238 hp238 => ?_)
                      have hA8 : mPS τ238 tx n (pAdv tx n (pAdv tx n (pRt tx n (pAdv tx n (pAdv tx n (pAdv tx n (pAdv tx n P))))))) := mPS_A hA7c hp238.2 hp238.1
                      have hA8f := mF_A hp238.2
                      have hy0 : gI τ238 328 (2 + 3 * P.U.nb) = zI ((tV tx n (pAdv tx n (pAdv tx n (pAdv tx n P))).q) : Int) := by rw [mA_g hp238.2 328 (by decide), gI_sI, if_neg (by omega)]; exact hw0
                      have hy1 : gI τ238 328 (3 + 3 * P.U.nb) = zI ((pRe tx n (pAdv tx n (pAdv tx n (pAdv tx n (pAdv tx n P)))).q) : Int) := by rw [mA_g hp238.2 328 (by decide), gI_sI, if_neg (by omega)]; exact hw1
                      have hy2 : gI τ238 328 (4 + 3 * P.U.nb) = zI (j : Int) := by rw [mA_g hp238.2 328 (by decide), gI_sI, if_pos (by omega)]
                      have hy3 : ∀ i, i < 8 → gI τ238 330 (8 * P.U.nb + i) = zI (if i < tL tx n (pAdv tx n P).q then tx (tB tx n (pAdv tx n P).q + i) else 0) := by rw [mA_g hp238.2 330 (by decide), gI_sIf _ _ _ _ (by decide)]; exact hw3
                      have hF9 : mF σ τ238 := mF_t hF7 (mF_t (mF_I (mF_r _) _ (by omega)) (mF_A hp238.2))
                      have hE8 : (pAdv tx n (pAdv tx n (pRt tx n (pAdv tx n (pAdv tx n (pAdv tx n (pAdv tx n P))))))).U.nb = P.U.nb := congrArg zSU.nb hU9
                      have hq9 : mPS (sI τ238 328 0 (zI ((P.U.nb : Int) + 1))) tx n (pAdv tx n ((pAdv tx n (pRt tx n (pAdv tx n (pAdv tx n (pAdv tx n (pAdv tx n P)))))).sU ((pRt tx n (pAdv tx n (pAdv tx n (pAdv tx n (pAdv tx n P))))).U.tak (tP tx n (pAdv tx n P).q) (tV tx n (pAdv tx n (pAdv tx n (pAdv tx n P))).q) (pRe tx n (pAdv tx n (pAdv tx n (pAdv tx n (pAdv tx n P)))).q) (j : Int)))) := mPS_tak (Y := pAdv tx n (pAdv tx n (pRt tx n (pAdv tx n (pAdv tx n (pAdv tx n (pAdv tx n P))))))) hA8 hE8 hnb8 hNm hy3 hy0 hy1 hy2 (by omega)
                      refine zv_aload_n C 1 dX11_readBody_241 rfl rfl ?_
                      refine zG10_0 C (by decide : kd 327 = _) kX11_7 dX11_readBody_242 ?_
                      refine zv_iconst (v := zI 0) C dX11_readBody_245 rfl ?_
                      refine zv_dup2 C dX11_readBody_246 rfl rfl ?_
                      refine zv_iald (j := 0) C (by decide : kd 328 = _) (zI_ix (by omega)) (by decide) dX11_readBody_247 ?_
                      refine zv_eqi (y := (zI (P.U.nb : Int))) (hA8.2.2.2.1.1.1.trans (congrArg (fun z => zI ((z : Nat) : Int)) hE8)) ?_
                      refine zv_iconst (v := zI 1) C dX11_readBody_248 rfl ?_
                      refine zv_iaddZ C dX11_readBody_249 ?_
                      refine zv_iast (j := 0) C (by decide : kd 328 = _) (zI_ix (by omega)) (by decide) dX11_readBody_250 ?_
                      refine zv_iconst (v := zI 1) C dX11_readBody_251 rfl ?_
                      exact zv_iret C hr rfl dX11_readBody_252 (mSt_o (mR_o (mF_t hF9 (mF_I (mF_r _) _ (by omega))) hq9) hX)
                    · skip
                      have hX : pBody tx n P = (3, (pAdv tx n (pRt tx n (pAdv tx n (pAdv tx n (pAdv tx n (pAdv tx n P))))))) := by rw [hX0, pOn, if_neg (fun z => z h197), if_neg (fun z => z hNam2), hU9, hpj, if_pos (Or.inr (by omega))]
                      refine zv_aload_n C 1 dX11_readBody_222 rfl rfl ?_
                      refine zv_iconst (v := zI 3) C dX11_readBody_223 rfl ?_
                      refine zv_cviD (st := []) C (c_X11_failsAt hfl E τ194 tx n (pAdv tx n (pRt tx n (pAdv tx n (pAdv tx n (pAdv tx n (pAdv tx n P)))))) 3 hA7 (by decide)) mX11_failsAt kX11_122 (by decide : kd 327 = 10) rfl rfl rfl ⟨rfl, rfl⟩ (show zfit (zrm 0 0) 2 (zrm 8 170) = true from rfl) (Nat.le_of_ble_eq_true rfl) dX11_readBody_224 ⟨Nat.zero_le _, Nat.zero_le _⟩ ?_
                      exact zv_iret C hr rfl dX11_readBody_227 (mSt_f (mR_f (P := (pAdv tx n (pRt tx n (pAdv tx n (pAdv tx n (pAdv tx n (pAdv tx n P))))))) (by decide) hF7) (by decide) hX)
                  · skip
                    have hKn : pKn tx n (pAdv tx n (pRt tx n (pAdv tx n (pAdv tx n (pAdv tx n (pAdv tx n P)))))) ≠ 0 := fun z => by
                      rw [if_pos z] at hz9
                      have h9 := (pKn_0 z).2.2
                      rw [hU10] at h9
                      omega
                    have hX : pBody tx n P = (pKn tx n (pAdv tx n (pRt tx n (pAdv tx n (pAdv tx n (pAdv tx n (pAdv tx n P)))))), (pAdv tx n (pRt tx n (pAdv tx n (pAdv tx n (pAdv tx n (pAdv tx n P))))))) := by
                      rcases pKn_n hKn with ⟨q1, q2⟩ | ⟨q1, q2, q3⟩
                      · rw [hX0, pOn, if_neg (fun z => z h197), if_pos q1, q2]
                      · rw [hU10] at q2
                        rw [hX0, pOn, if_neg (fun z => z h197), if_neg (fun z => z q1), hU9, q3]; exact if_pos (Or.inl q2)
                    refine zv_iconst (v := zI 0) C dX11_readBody_210 rfl ?_
                    exact zv_iret C hr rfl dX11_readBody_211 (mSt_f (mR_f (P := (pAdv tx n (pRt tx n (pAdv tx n (pAdv tx n (pAdv tx n (pAdv tx n P))))))) hKn hF7) hKn hX)
            · skip
              have hX : pBody tx n P = (pNum tx n (pAdv tx n (pAdv tx n (pAdv tx n P))).q 100 9999999, (pAdv tx n (pAdv tx n (pAdv tx n P)))) := by rw [pBody, if_neg (fun z => z hnb8), if_neg (fun z => z h27), if_neg (fun z => z (by omega)), if_neg (fun z => z h122), if_pos h139]
              refine zv_iconst (v := zI 0) C dX11_readBody_142 rfl ?_
              exact zv_iret C hr rfl dX11_readBody_143 (mSt_f (mR_f (P := (pAdv tx n (pAdv tx n (pAdv tx n P)))) h139 (mF_t (mF_t hA1f hFn) (mF_t hA2f (mF_A hp119.2.1)))) h139 hX)
          · skip
            have hA2b : mPS τ119 tx n (pAdv tx n (pAdv tx n P)) := by have := hp119.2.2; rw [if_neg h122] at this; exact this
            have hX : pBody tx n P = (1, (pAdv tx n (pAdv tx n P))) := by rw [pBody, if_neg (fun z => z hnb8), if_neg (fun z => z h27), if_neg (fun z => z (by omega)), if_pos h122]
            refine zv_aload_n C 0 dX11_readBody_125 rfl rfl ?_
            refine zv_iconst (v := zI 1) C dX11_readBody_126 rfl ?_
            refine zv_cviD (st := []) C (c_X11_failsAt hfl E τ119 tx n (pAdv tx n (pAdv tx n P)) 1 hA2b (by decide)) mX11_failsAt kX11_122 (by decide : kd 327 = 10) rfl rfl rfl ⟨rfl, rfl⟩ (show zfit (zrm 0 0) 2 (zrm 8 170) = true from rfl) (Nat.le_of_ble_eq_true rfl) dX11_readBody_127 ⟨Nat.zero_le _, Nat.zero_le _⟩ ?_
            exact zv_iret C hr rfl dX11_readBody_130 (mSt_f (mR_f (P := (pAdv tx n (pAdv tx n P))) (by decide) (mF_t (mF_t hA1f hFn) (mF_t hA2f (mF_A hp119.2.1)))) (by decide) hX)
        · skip
          refine zv_aload_n C 0 dX11_readBody_67 rfl rfl ?_
          refine zG10_2 C (by decide : kd 327 = _) kX11_16 dX11_readBody_68 ?_
          refine zv_bipush (v := zI 8) C dX11_readBody_71 (by decide) ?_
          refine zv_iload_n C 1 dX11_readBody_73 rfl rfl ?_
          refine zv_imulZ C dX11_readBody_74 ?_
          refine zv_iload_n C 3 dX11_readBody_75 rfl rfl ?_
          refine zv_iaddZ C dX11_readBody_76 ?_
          refine zv_iload_n C 3 dX11_readBody_77 rfl rfl ?_
          refine zv_aload_n C 0 dX11_readBody_78 rfl rfl ?_
          refine zG10_17 C (by decide : kd 327 = _) kX11_75 dX11_readBody_79 ?_
          refine zv_eqi (y := (zI (tE tx n (pAdv tx n P).q : Int))) ((wrN_o (Or.inl (by decide))).trans hpw.1) ?_
          refine zv_aload_n C 0 dX11_readBody_82 rfl rfl ?_
          refine zG10_18 C (by decide : kd 327 = _) kX11_82 dX11_readBody_83 ?_
          refine zv_eqi (y := (zI (tB tx n (pAdv tx n P).q : Int))) ((wrN_o (Or.inl (by decide))).trans hpw.2.1) ?_
          refine zv_isubZ C dX11_readBody_86 ?_
          refine zv_icmp_geZ (tgt := 104) C (by omega) (by omega) dX11_readBody_87 (by decide) (fun h87 => ?_) (fun h87 => ?_)
          · skip
            have hfi : fN i = 0 := by rw [hfN]; exact if_neg (by omega)
            refine zv_iconst (v := zI 0) C dX11_readBody_104 rfl ?_
            refine zv_iast (j := 8 * P.U.nb + i) C (by decide : kd 330 = _) (zI_ix (by omega)) (Nat.lt_of_lt_of_eq (show 8 * P.U.nb + i < 64 by omega) (by decide)) dX11_readBody_105 ?_
            refine zv_iinc (v := (zI ((i : Int) + 1))) (lv' := [(3, .int (zI ((i : Int) + 1))), (0, .ref (ob E 327)), (1, .int (zI (P.U.nb : Int))), (2, .int (zI (2 + 3 * (P.U.nb : Int))))]) C 3 dX11_readBody_106 rfl (zI_add _ _) (by decide) rfl ?_
            refine zv_goto (tgt := 61) C dX11_readBody_109 (by decide) ?_
            have q61_403 : ((i : Int) + 1 : Int) = ((i + 1 : Nat) : Int) := by first | rfl | omega
            refine zv_sub (lv' := [(0, .ref (ob E 327)), (1, .int (zI (P.U.nb : Int))), (2, .int (zI (2 + 3 * (P.U.nb : Int)))), (3, .int (zI ((i + 1 : Nat) : Int)))]) [1, 2, 3, 0] (zcons rfl (zcons rfl (zcons rfl (zcons (zqI q61_403) rfl)))) ?_
            refine zv_eqS (τ := (wrN τ17 (8 * P.U.nb) fN (i + 1))) (by rw [← wrN_s, hfi]) ?_
            exact ih (i + 1) (by omega) (by omega)
          · skip
            have hfi : fN i = tx (tB tx n (pAdv tx n P).q + i) := by rw [hfN]; exact if_pos (by omega)
            have hli := hls i (by omega)
            refine zv_aload_n C 0 dX11_readBody_90 rfl rfl ?_
            refine zG10_11 C (by decide : kd 327 = _) kX11_34 dX11_readBody_91 ?_
            refine zv_aload_n C 0 dX11_readBody_94 rfl rfl ?_
            refine zG10_18 C (by decide : kd 327 = _) kX11_82 dX11_readBody_95 ?_
            refine zv_eqi (y := (zI (tB tx n (pAdv tx n P).q : Int))) ((wrN_o (Or.inl (by decide))).trans hpw.2.1) ?_
            refine zv_iload_n C 3 dX11_readBody_98 rfl rfl ?_
            refine zv_iaddZ C dX11_readBody_99 ?_
            refine zv_iald (j := tB tx n (pAdv tx n P).q + i) C (by decide : kd 336 = _) (zI_ix rfl) (Nat.lt_of_lt_of_eq (show tB tx n (pAdv tx n P).q + i < 900 by omega) (by decide)) dX11_readBody_100 ?_
            refine zv_eqi (y := (zI (tx (tB tx n (pAdv tx n P).q + i)))) (by rw [wrN_o (Or.inl (by decide)), hA1.1.2.2.1 _ (by omega)]; exact congrArg zI (by omega)) ?_
            refine zv_goto (tgt := 105) C dX11_readBody_101 (by decide) ?_
            refine zv_iast (j := 8 * P.U.nb + i) C (by decide : kd 330 = _) (zI_ix (by omega)) (Nat.lt_of_lt_of_eq (show 8 * P.U.nb + i < 64 by omega) (by decide)) dX11_readBody_105 ?_
            refine zv_iinc (v := (zI ((i : Int) + 1))) (lv' := [(3, .int (zI ((i : Int) + 1))), (0, .ref (ob E 327)), (1, .int (zI (P.U.nb : Int))), (2, .int (zI (2 + 3 * (P.U.nb : Int))))]) C 3 dX11_readBody_106 rfl (zI_add _ _) (by decide) rfl ?_
            refine zv_goto (tgt := 61) C dX11_readBody_109 (by decide) ?_
            have q61_423 : ((i : Int) + 1 : Int) = ((i + 1 : Nat) : Int) := by first | rfl | omega
            refine zv_sub (lv' := [(0, .ref (ob E 327)), (1, .int (zI (P.U.nb : Int))), (2, .int (zI (2 + 3 * (P.U.nb : Int)))), (3, .int (zI ((i + 1 : Nat) : Int)))]) [1, 2, 3, 0] (zcons rfl (zcons rfl (zcons rfl (zcons (zqI q61_423) rfl)))) ?_
            refine zv_eqS (τ := (wrN τ17 (8 * P.U.nb) fN (i + 1))) (by rw [← wrN_s, hfi]) ?_
            exact ih (i + 1) (by omega) (by omega)
      · skip
        have hX : pBody tx n P = (3, (pAdv tx n P)) := by rw [pBody, if_neg (fun z => z hnb8), if_neg (fun z => z h27), if_pos (by omega)]
        refine zv_aload_n C 0 dX11_readBody_40 rfl rfl ?_
        refine zv_iconst (v := zI 3) C dX11_readBody_41 rfl ?_
        refine zv_cviD (st := []) C (c_X11_failsAt hfl E τ17 tx n (pAdv tx n P) 3 hA1 (by decide)) mX11_failsAt kX11_122 (by decide : kd 327 = 10) rfl rfl rfl ⟨rfl, rfl⟩ (show zfit (zrm 0 0) 2 (zrm 8 170) = true from rfl) (Nat.le_of_ble_eq_true rfl) dX11_readBody_42 ⟨Nat.zero_le _, Nat.zero_le _⟩ ?_
        exact zv_iret C hr rfl dX11_readBody_45 (mSt_f (mR_f (P := (pAdv tx n P)) (by decide) hA1f) (by decide) hX)
    · skip
      have hn1 : pNam tx n (pAdv tx n P).q = 1 := by
        unfold pNam at h27 ⊢
        split
        · rename_i q; rw [if_pos q] at h27; exact absurd rfl h27
        · rfl
      have hX : pBody tx n P = (1, (pAdv tx n P)) := by rw [pBody, if_neg (fun z => z hnb8), if_pos h27]
      refine zv_iconst (v := zI 0) C dX11_readBody_30 rfl ?_
      exact zv_iret C hr rfl dX11_readBody_31 (mSt_f (mR_f (P := (pAdv tx n P)) h27 hA1f) h27 (by rw [hX, hn1]))
