def zKp (σ τ : zS) : Prop := zFr 1 29 σ τ ∧ gI τ 1 3 = gI σ 1 3 ∧ gI τ 1 4 = gI σ 1 4
theorem zKp_refl (σ : zS) : zKp σ σ := ⟨zFr_refl 1 29 σ, rfl, rfl⟩
theorem zKp_tr {σ τ υ : zS} (h : zKp σ τ) (g : zKp τ υ) : zKp σ υ := ⟨zFr_trans h.1 g.1, g.2.1.trans h.2.1, g.2.2.trans h.2.2⟩
theorem zKp_fr {σ τ υ : zS} (h : zKp σ τ) (g : zFr 2 3 τ υ) : zKp σ υ := zKp_tr h ⟨zFr_mono g (by decide) (by decide), g.1 1 3 (by decide), g.1 1 4 (by decide)⟩
theorem zKp_I {σ τ : zS} {k j : Nat} {v : Int32} (h : zKp σ τ) (h1 : 1 ≤ k ∧ k < 29) (h2 : k ≠ 1 ∨ (j ≠ 3 ∧ j ≠ 4)) : zKp σ (sI τ k j v) :=
  zKp_tr h ⟨⟨fun x y z => by rw [gI_sI, if_neg (by omega)], fun x y z => rfl, fun x y => rfl⟩, by rw [gI_sI, if_neg (by omega)], by rw [gI_sI, if_neg (by omega)]⟩
theorem zKp_J {σ τ : zS} {k j : Nat} {v : Int64} (h : zKp σ τ) (h1 : 1 ≤ k ∧ k < 29) : zKp σ (sJ τ k j v) :=
  zKp_tr h ⟨⟨fun x y z => rfl, fun x y z => by rw [gJ_sJ, if_neg (by omega)], fun x y => rfl⟩, rfl, rfl⟩
theorem zRd_ok {σ τ : zS} {tx : Nat → Int} {n : Nat} {P : zPs} (hP : zPS τ tx n P) (hk : zKp σ τ) : zRd σ τ tx n 0 P := ⟨hk.1, fun _ => ⟨hP, hk.2⟩, fun z => absurd rfl z⟩
theorem zRd_no {σ τ : zS} {tx : Nat → Int} {n c : Nat} {P : zPs} (hc : c ≠ 0) (hk : zKp σ τ) : zRd σ (fW τ c (tB tx n P.q)) tx n c P := zRd_f hc hk.1
theorem zRd_tr {σ τ υ : zS} {tx : Nat → Int} {n c : Nat} {P : zPs} (hk : zKp σ τ) (h : zRd τ υ tx n c P) : zRd σ υ tx n c P :=
  ⟨zFr_trans hk.1 h.1, fun z => ⟨(h.2.1 z).1, (h.2.1 z).2.1.trans hk.2.1, (h.2.1 z).2.2.trans hk.2.2⟩, h.2.2⟩
def zPs.so1 (P : zPs) : zPs := zPs.mk P.q P.U P.S true P.o2 P.o3
def zPs.so2 (P : zPs) : zPs := zPs.mk P.q P.U P.S P.o1 true P.o3
def zPs.so3 (P : zPs) : zPs := zPs.mk P.q P.U P.S P.o1 P.o2 true
def zSU.ss0 (U : zSU) (v : Int) : zSU := zSU.mk v U.nb U.nm U.pe U.re U.ca
def zST.ssl (S : zST) (v : Nat) : zST := zST.mk S.n S.f v S.dy S.lg S.tn S.tr
def zPs.sU (P : zPs) (U : zSU) : zPs := zPs.mk P.q U P.S P.o1 P.o2 P.o3
def zPs.sS (P : zPs) (S : zST) : zPs := zPs.mk P.q P.U S P.o1 P.o2 P.o3
theorem zPS_flag {σ : zS} {tx : Nat → Int} {n : Nat} {P : zPs} {j : Nat} (h : zPS σ tx n P) (b1 b2 b3 : Bool) (hj : (j = 5 ∧ b1 = true ∧ b2 = P.o2 ∧ b3 = P.o3) ∨ (j = 6 ∧ b1 = P.o1 ∧ b2 = true ∧ b3 = P.o3) ∨ (j = 7 ∧ b1 = P.o1 ∧ b2 = P.o2 ∧ b3 = true)) : zPS (sI σ 1 j (zI 1)) tx n (zPs.mk P.q P.U P.S b1 b2 b3) := by
  obtain ⟨a, b, c, d1, d2, d3, d4, d5⟩ := h
  refine ⟨zTx_w a (by rw [gI_sI, if_neg (by omega)]) (fun i => by rw [gI_sI, if_neg (by omega)]), zTk_w b (fun y => by rw [gI_sI, if_neg (by omega)]) rfl, c, zSUp_w d1 (fun x y g1 g2 => ⟨by rw [gI_sI, if_neg (by omega)], rfl⟩), zSTp_w d2 (fun x y g1 g2 => by rw [gI_sI, if_neg (by omega)]), ?_⟩
  show gI (sI σ 1 j (zI 1)) 1 5 = zB (b1 = true) ∧ gI (sI σ 1 j (zI 1)) 1 6 = zB (b2 = true) ∧ gI (sI σ 1 j (zI 1)) 1 7 = zB (b3 = true)
  simp only [gI_sI]
  rcases hj with ⟨rfl, rfl, rfl, rfl⟩ | ⟨rfl, rfl, rfl, rfl⟩ | ⟨rfl, rfl, rfl, rfl⟩
  · exact ⟨rfl, by rw [if_neg (by omega)]; exact d4, by rw [if_neg (by omega)]; exact d5⟩
  · exact ⟨by rw [if_neg (by omega)]; exact d3, rfl, by rw [if_neg (by omega)]; exact d5⟩
  · exact ⟨by rw [if_neg (by omega)]; exact d3, by rw [if_neg (by omega)]; exact d4, rfl⟩
theorem zPS_dr {σ τ : zS} {tx : Nat → Int} {n : Nat} {P : zPs} {U : zSU} {S : zST} (h : zPS σ tx n P) (hk : ∀ x y, x < 4 → gI τ x y = gI σ x y ∧ gJ τ x y = gJ σ x y) (hU : zSUp τ 4 U) (hS : zSTp τ 9 S) : zPS τ tx n (zPs.mk P.q U S P.o1 P.o2 P.o3) := by
  obtain ⟨a, b, c, d1, d2, d3, d4, d5⟩ := h
  exact ⟨zTx_w a (hk 2 1 (by decide)).1 (fun i => (hk 3 i (by decide)).1), zTk_w b (fun y => (hk 2 y (by decide)).1) (hk 2 6 (by decide)).2, c, hU, hS, (hk 1 5 (by decide)).1.trans d3, (hk 1 6 (by decide)).1.trans d4, (hk 1 7 (by decide)).1.trans d5⟩
theorem zPS_s0 {σ : zS} {tx : Nat → Int} {n : Nat} {P : zPs} {v : Nat} (h : zPS σ tx n P) (hv : 1600 ≤ v ∧ v ≤ 2400) : zPS (sI σ 4 0 (zI (v : Int))) tx n (P.sU (P.U.ss0 (v : Int))) := by
  refine zPS_dr h (fun x y hx => ⟨by rw [gI_sI, if_neg (by omega)], rfl⟩) ?_ (zSTp_w h.2.2.2.2.1 (fun x y a b => by rw [gI_sI, if_neg (by omega)]))
  obtain ⟨h1, h2, h3, h4, h5⟩ := h.2.2.2.1
  refine ⟨by rw [gI_sI, if_pos ⟨rfl, rfl⟩]; rfl, by rw [gI_sI, if_neg (by omega)]; exact h2, h3, ⟨by show (1600 : Int) ≤ (v : Int); omega, by show (v : Int) ≤ 2400; omega⟩, fun i hi => ?_⟩
  obtain ⟨a1, a2, a3, a4, a5⟩ := h5 i hi
  exact ⟨a1, by rw [gI_sI, if_neg (by omega)]; exact a2, by rw [gI_sI, if_neg (by omega)]; exact a3, by rw [gI_sI, if_neg (by omega)]; exact a4, a5⟩
theorem zPS_sl {σ : zS} {tx : Nat → Int} {n : Nat} {P : zPs} {v : Nat} (h : zPS σ tx n P) (hv : v ≤ 999) : zPS (sI σ 9 2 (zI (v : Int))) tx n (P.sS (P.S.ssl v)) := by
  refine zPS_dr h (fun x y hx => ⟨by rw [gI_sI, if_neg (by omega)], rfl⟩) (zSUp_w h.2.2.2.1 (fun x y a b => ⟨by rw [gI_sI, if_neg (by omega)], rfl⟩)) ?_
  obtain ⟨h1, h2, h3, h4, h5, h6, h7⟩ := h.2.2.2.2.1
  exact ⟨⟨by rw [gI_sI, if_neg (by omega)]; exact h1.1, h1.2.1, fun i hi => by rw [gI_sI, if_neg (by omega)]; exact h1.2.2.1 i hi, h1.2.2.2⟩, h2, h3, ⟨by rw [gI_sI, if_pos ⟨rfl, rfl⟩]; rfl, hv⟩, by rw [gI_sI, if_neg (by omega)]; exact h5, fun i hi => by rw [gI_sI, if_neg (by omega)]; exact h6 i hi,
    fun j hj => ⟨zTr_w (h7 j hj).1 (fun x y a b => by rw [gI_sI, if_neg (by omega)]), (h7 j hj).2⟩⟩
theorem pNum_0 {tx : Nat → Int} {n q lo hi : Nat} (h : pNum tx n q lo hi = 0) : tC tx n q = 2 ∧ lo ≤ tV tx n q ∧ tV tx n q ≤ hi := by
  unfold pNum at h
  split at h
  · rename_i g
    split at h
    · rename_i g2; exact ⟨g, g2⟩
    · omega
  · omega
/-- the semicolon, the start, the slack -/
def pSemi (tx : Nat → Int) (n : Nat) (P : zPs) : Nat × zPs := if tC tx n P.q = 3 then (0, pAdv tx n P) else (1, P)
def pStart (tx : Nat → Int) (n : Nat) (P : zPs) : Nat × zPs :=
  if P.o2 = true then (4, P) else if pNum tx n (pAdv tx n P.so2).q 1600 2400 = 0 then (0, pAdv tx n ((pAdv tx n P.so2).sU (P.U.ss0 (tV tx n (pAdv tx n P.so2).q : Int)))) else (pNum tx n (pAdv tx n P.so2).q 1600 2400, pAdv tx n P.so2)
def pSlack (tx : Nat → Int) (n : Nat) (P : zPs) : Nat × zPs :=
  if P.o3 = true then (4, P) else if pNum tx n (pAdv tx n P.so3).q 0 999 = 0 then (0, pAdv tx n ((pAdv tx n P.so3).sS (P.S.ssl (tV tx n (pAdv tx n P.so3).q)))) else (pNum tx n (pAdv tx n P.so3).q 0 999, pAdv tx n P.so3)
set_option maxRecDepth 20000 in
theorem c_X5_readSemicolon {l : Launch} (hfl : l.stackTraces = false) (E : zE) (σ : zS) (tx : Nat → Int) (n : Nat) (P : zPs) (hP : zPS σ tx n P) : zRi l E yX5_readSemicolon cX5_readSemicolon 1 .boolean (zrm 2 41) [.ref (ob E 1)] σ (fun r τ => r = zB ((pSemi tx n P).1 = 0) ∧ zRd σ τ tx n (pSemi tx n P).1 (pSemi tx n P).2) := by
  refine Met.ofW (cc := cX5_readSemicolon) (maxL := 1) (ret := (some .boolean)) (by decide +kernel) rfl ?_
  intro p e s m args below meth c s₁ B hml hv
  obtain ⟨rfl, hd⟩ := hv
  have C := zX_of (own := RX5) hfl B hml rfl hd rfl
  have hr := B.returns
  refine zV_go hd (Nat.le_of_ble_eq_true rfl) (lv := [(0, .ref (ob E 1))]) rfl ?_
  have hc := tC_b tx n P.q
  have hkc := zTk_c hP.2.1
  refine zv_aload_n C 0 dX5_readSemicolon_0 rfl rfl ?_
  refine zG5_0 C (by decide : kd 1 = _) kX5_12 dX5_readSemicolon_1 ?_
  refine zG7_2 C (by decide : kd 2 = _) kX5_56 dX5_readSemicolon_4 ?_
  refine zv_eqi (y := (zI (tC tx n P.q : Int))) (hkc) ?_
  refine zv_iconst (v := zI 3) C dX5_readSemicolon_7 rfl ?_
  refine zv_icmp_eqZ (tgt := 17) C (by omega) (by omega) dX5_readSemicolon_8 (by decide) (fun h8 => ?_) (fun h8 => ?_)
  · skip
    have hp : pSemi tx n P = (0, pAdv tx n P) := if_pos (by omega)
    refine zv_aload_n C 0 dX5_readSemicolon_17 rfl rfl ?_
    refine zG5_0 C (by decide : kd 1 = _) kX5_12 dX5_readSemicolon_18 ?_
    refine zv_cvv (st := []) C (c_X7_advance hfl E σ tx n (tE tx n P.q) hP.1 hP.2.1.2.2.1 (tE_n hP.2.2.1).2.1) mX7_advance kX5_110 (by decide : kd 2 = 7) rfl rfl rfl ⟨rfl, rfl⟩ (show zfit (zrm 1 21) 1 (zrm 2 41) = true from rfl) (Nat.le_of_ble_eq_true rfl) dX5_readSemicolon_21 ⟨Nat.zero_le _, Nat.zero_le _⟩ (fun τ21 hp21 => ?_)
    have hA21 := zPS_adv hP hp21.1 hp21.2.1 hp21.2.2
    refine zv_iconst (v := zI 1) C dX5_readSemicolon_24 rfl ?_
    exact zv_iret C hr rfl dX5_readSemicolon_25 ⟨by rw [hp]; rfl, by rw [hp]; exact zRd_ok hA21 (zKp_fr (zKp_refl σ) hp21.2.1)⟩
  · skip
    have hp : pSemi tx n P = (1, P) := if_neg (by omega)
    refine zv_aload_n C 0 dX5_readSemicolon_11 rfl rfl ?_
    refine zv_iconst (v := zI 1) C dX5_readSemicolon_12 rfl ?_
    refine zv_cviD (st := []) C (c_X5_fail hfl E σ 1 (tB tx n P.q) hP.2.1.2.1) mX5_fail kX5_106 (by decide : kd 1 = 5) rfl rfl rfl ⟨rfl, rfl⟩ (show zfit (zrm 0 0) 2 (zrm 2 41) = true from rfl) (Nat.le_of_ble_eq_true rfl) dX5_readSemicolon_13 ⟨Nat.zero_le _, Nat.zero_le _⟩ ?_
    exact zv_iret C hr rfl dX5_readSemicolon_16 ⟨by rw [hp]; rfl, by rw [hp]; exact zRd_no (by decide) (zKp_refl σ)⟩
set_option maxRecDepth 20000 in
theorem c_X5_readStart {l : Launch} (hfl : l.stackTraces = false) (E : zE) (σ : zS) (tx : Nat → Int) (n : Nat) (P : zPs) (hP : zPS σ tx n P) : zRi l E yX5_readStart cX5_readStart 1 .boolean (zrm 2 43) [.ref (ob E 1)] σ (fun r τ => r = zB ((pStart tx n P).1 = 0) ∧ zRd σ τ tx n (pStart tx n P).1 (pStart tx n P).2) := by
  refine Met.ofW (cc := cX5_readStart) (maxL := 1) (ret := (some .boolean)) (by decide +kernel) rfl ?_
  intro p e s m args below meth c s₁ B hml hv
  obtain ⟨rfl, hd⟩ := hv
  have C := zX_of (own := RX5) hfl B hml rfl hd rfl
  have hr := B.returns
  refine zV_go hd (Nat.le_of_ble_eq_true rfl) (lv := [(0, .ref (ob E 1))]) rfl ?_
  refine zv_aload_n C 0 dX5_readStart_0 rfl rfl ?_
  refine zG5_6 C (by decide : kd 1 = _) kX5_43 dX5_readStart_1 ?_
  refine zv_eqi (y := (zB (P.o2 = true))) (hP.2.2.2.2.2.2.1) ?_
  refine zv_if_eqB (tgt := 13) C dX5_readStart_4 (by decide) (fun h4 => ?_) (fun h4 => ?_)
  · skip
    have hB : zPS (sI σ 1 6 (zI 1)) tx n P.so2 := zPS_flag hP P.o1 true P.o3 (Or.inr (Or.inl ⟨rfl, rfl, rfl, rfl⟩))
    refine zv_aload_n C 0 dX5_readStart_13 rfl rfl ?_
    refine zv_iconst (v := zI 1) C dX5_readStart_14 rfl ?_
    refine zP5_6 C (by decide : kd 1 = _) (Or.inr rfl) kX5_43 dX5_readStart_15 ?_
    refine zv_aload_n C 0 dX5_readStart_18 rfl rfl ?_
    refine zG5_0 C (by decide : kd 1 = _) kX5_12 dX5_readStart_19 ?_
    refine zv_cvv (st := []) C (c_X7_advance hfl E (sI σ 1 6 (zI 1)) tx n (tE tx n P.so2.q) hB.1 hB.2.1.2.2.1 (tE_n hB.2.2.1).2.1) mX7_advance kX5_110 (by decide : kd 2 = 7) rfl rfl rfl ⟨rfl, rfl⟩ (show zfit (zrm 1 21) 1 (zrm 2 43) = true from rfl) (Nat.le_of_ble_eq_true rfl) dX5_readStart_22 ⟨Nat.zero_le _, Nat.zero_le _⟩ (fun τ22 hp22 => ?_)
    have hA22 := zPS_adv hB hp22.1 hp22.2.1 hp22.2.2
    refine zv_aload_n C 0 dX5_readStart_25 rfl rfl ?_
    refine zv_sipush (v := zI 1600) C dX5_readStart_26 (by decide) ?_
    refine zv_sipush (v := zI 2400) C dX5_readStart_29 (by decide) ?_
    refine zv_cviD (st := []) C (c_X5_numberStands hfl E τ22 tx n (pAdv tx n P.so2).q 1600 2400 hA22.2.1 (by decide) (by decide)) mX5_numberStands kX5_119 (by decide : kd 1 = 5) rfl rfl rfl ⟨rfl, rfl⟩ (show zfit (zrm 1 21) 3 (zrm 2 43) = true from rfl) (Nat.le_of_ble_eq_true rfl) dX5_readStart_32 ⟨Nat.zero_le _, Nat.zero_le _⟩ ?_
    refine zv_if_neB (tgt := 40) C dX5_readStart_35 (by decide) (fun h35 => ?_) (fun h35 => ?_)
    · skip
      refine zv_eqS (τ := τ22) (by rw [h35]; exact fC_0 _ _) ?_
      have hn0 := pNum_0 h35
      have hD := zPS_s0 hA22 (v := tV tx n (pAdv tx n P.so2).q) (by omega)
      have hp : (pStart tx n P).1 = 0 := by unfold pStart; rw [if_neg h4, if_pos h35]
      have hp2 : (pStart tx n P).2 = pAdv tx n ((pAdv tx n P.so2).sU (P.U.ss0 (tV tx n (pAdv tx n P.so2).q))) := by unfold pStart; rw [if_neg h4, if_pos h35]
      refine zv_aload_n C 0 dX5_readStart_40 rfl rfl ?_
      refine zG5_1 C (by decide : kd 1 = _) kX5_21 dX5_readStart_41 ?_
      refine zv_aload_n C 0 dX5_readStart_44 rfl rfl ?_
      refine zG5_0 C (by decide : kd 1 = _) kX5_12 dX5_readStart_45 ?_
      refine zG7_5 C (by decide : kd 2 = _) kX5_113 dX5_readStart_48 ?_
      refine zv_eqi (y := (zI (tV tx n (pAdv tx n P.so2).q : Int))) (zTk_v hA22.2.1 hn0.1) ?_
      refine zP4_0 C (by decide : kd 4 = _) kX5_130 dX5_readStart_51 ?_
      refine zv_aload_n C 0 dX5_readStart_54 rfl rfl ?_
      refine zG5_0 C (by decide : kd 1 = _) kX5_12 dX5_readStart_55 ?_
      refine zv_cvv (st := []) C (c_X7_advance hfl E (sI τ22 4 0 (zI (tV tx n (pAdv tx n P.so2).q : Int))) tx n (tE tx n (pAdv tx n P.so2).q) hD.1 hD.2.1.2.2.1 (tE_n hD.2.2.1).2.1) mX7_advance kX5_110 (by decide : kd 2 = 7) rfl rfl rfl ⟨rfl, rfl⟩ (show zfit (zrm 1 21) 1 (zrm 2 43) = true from rfl) (Nat.le_of_ble_eq_true rfl) dX5_readStart_58 ⟨Nat.zero_le _, Nat.zero_le _⟩ (fun τ58 hp58 => ?_)
      have hA58 := zPS_adv hD hp58.1 hp58.2.1 hp58.2.2
      refine zv_iconst (v := zI 1) C dX5_readStart_61 rfl ?_
      exact zv_iret C hr rfl dX5_readStart_62 ⟨by rw [hp]; rfl, by rw [hp, hp2]; exact zRd_ok hA58 (zKp_fr (zKp_I (zKp_fr (zKp_I (zKp_refl σ) (by decide) (by decide)) hp22.2.1) (by decide) (by decide)) hp58.2.1)⟩
    · skip
      have hp : pStart tx n P = (pNum tx n (pAdv tx n P.so2).q 1600 2400, (pAdv tx n P.so2)) := by unfold pStart; rw [if_neg h4, if_neg h35]
      refine zv_iconst (v := zI 0) C dX5_readStart_38 rfl ?_
      exact zv_iret C hr rfl dX5_readStart_39 ⟨by rw [hp]; exact (zB_f h35).symm, by rw [hp, fC_s h35]; exact zRd_no h35 (zKp_fr (zKp_I (zKp_refl σ) (by decide) (by decide)) hp22.2.1)⟩
  · skip
    have hp : pStart tx n P = (4, P) := if_pos h4
    refine zv_aload_n C 0 dX5_readStart_7 rfl rfl ?_
    refine zv_iconst (v := zI 4) C dX5_readStart_8 rfl ?_
    refine zv_cviD (st := []) C (c_X5_fail hfl E σ 4 (tB tx n P.q) hP.2.1.2.1) mX5_fail kX5_106 (by decide : kd 1 = 5) rfl rfl rfl ⟨rfl, rfl⟩ (show zfit (zrm 0 0) 2 (zrm 2 43) = true from rfl) (Nat.le_of_ble_eq_true rfl) dX5_readStart_9 ⟨Nat.zero_le _, Nat.zero_le _⟩ ?_
    exact zv_iret C hr rfl dX5_readStart_12 ⟨by rw [hp]; rfl, by rw [hp]; exact zRd_no (by decide) (zKp_refl σ)⟩
set_option maxRecDepth 20000 in
theorem c_X5_readSlack {l : Launch} (hfl : l.stackTraces = false) (E : zE) (σ : zS) (tx : Nat → Int) (n : Nat) (P : zPs) (hP : zPS σ tx n P) : zRi l E yX5_readSlack cX5_readSlack 1 .boolean (zrm 2 43) [.ref (ob E 1)] σ (fun r τ => r = zB ((pSlack tx n P).1 = 0) ∧ zRd σ τ tx n (pSlack tx n P).1 (pSlack tx n P).2) := by
  refine Met.ofW (cc := cX5_readSlack) (maxL := 1) (ret := (some .boolean)) (by decide +kernel) rfl ?_
  intro p e s m args below meth c s₁ B hml hv
  obtain ⟨rfl, hd⟩ := hv
  have C := zX_of (own := RX5) hfl B hml rfl hd rfl
  have hr := B.returns
  refine zV_go hd (Nat.le_of_ble_eq_true rfl) (lv := [(0, .ref (ob E 1))]) rfl ?_
  refine zv_aload_n C 0 dX5_readSlack_0 rfl rfl ?_
  refine zG5_7 C (by decide : kd 1 = _) kX5_46 dX5_readSlack_1 ?_
  refine zv_eqi (y := (zB (P.o3 = true))) (hP.2.2.2.2.2.2.2) ?_
  refine zv_if_eqB (tgt := 13) C dX5_readSlack_4 (by decide) (fun h4 => ?_) (fun h4 => ?_)
  · skip
    have hB : zPS (sI σ 1 7 (zI 1)) tx n P.so3 := zPS_flag hP P.o1 P.o2 true (Or.inr (Or.inr ⟨rfl, rfl, rfl, rfl⟩))
    refine zv_aload_n C 0 dX5_readSlack_13 rfl rfl ?_
    refine zv_iconst (v := zI 1) C dX5_readSlack_14 rfl ?_
    refine zP5_7 C (by decide : kd 1 = _) (Or.inr rfl) kX5_46 dX5_readSlack_15 ?_
    refine zv_aload_n C 0 dX5_readSlack_18 rfl rfl ?_
    refine zG5_0 C (by decide : kd 1 = _) kX5_12 dX5_readSlack_19 ?_
    refine zv_cvv (st := []) C (c_X7_advance hfl E (sI σ 1 7 (zI 1)) tx n (tE tx n P.so3.q) hB.1 hB.2.1.2.2.1 (tE_n hB.2.2.1).2.1) mX7_advance kX5_110 (by decide : kd 2 = 7) rfl rfl rfl ⟨rfl, rfl⟩ (show zfit (zrm 1 21) 1 (zrm 2 43) = true from rfl) (Nat.le_of_ble_eq_true rfl) dX5_readSlack_22 ⟨Nat.zero_le _, Nat.zero_le _⟩ (fun τ22 hp22 => ?_)
    have hA22 := zPS_adv hB hp22.1 hp22.2.1 hp22.2.2
    refine zv_aload_n C 0 dX5_readSlack_25 rfl rfl ?_
    refine zv_iconst (v := zI 0) C dX5_readSlack_26 rfl ?_
    refine zv_sipush (v := zI 999) C dX5_readSlack_27 (by decide) ?_
    refine zv_cviD (st := []) C (c_X5_numberStands hfl E τ22 tx n (pAdv tx n P.so3).q 0 999 hA22.2.1 (by decide) (by decide)) mX5_numberStands kX5_119 (by decide : kd 1 = 5) rfl rfl rfl ⟨rfl, rfl⟩ (show zfit (zrm 1 21) 3 (zrm 2 43) = true from rfl) (Nat.le_of_ble_eq_true rfl) dX5_readSlack_30 ⟨Nat.zero_le _, Nat.zero_le _⟩ ?_
    refine zv_if_neB (tgt := 38) C dX5_readSlack_33 (by decide) (fun h33 => ?_) (fun h33 => ?_)
    · skip
      refine zv_eqS (τ := τ22) (by rw [h33]; exact fC_0 _ _) ?_
      have hn0 := pNum_0 h33
      have hD := zPS_sl hA22 (v := tV tx n (pAdv tx n P.so3).q) (by omega)
      have hp : (pSlack tx n P).1 = 0 := by unfold pSlack; rw [if_neg h4, if_pos h33]
      have hp2 : (pSlack tx n P).2 = pAdv tx n ((pAdv tx n P.so3).sS (P.S.ssl (tV tx n (pAdv tx n P.so3).q))) := by unfold pSlack; rw [if_neg h4, if_pos h33]
      refine zv_aload_n C 0 dX5_readSlack_38 rfl rfl ?_
      refine zG5_2 C (by decide : kd 1 = _) kX5_28 dX5_readSlack_39 ?_
      refine zv_aload_n C 0 dX5_readSlack_42 rfl rfl ?_
      refine zG5_0 C (by decide : kd 1 = _) kX5_12 dX5_readSlack_43 ?_
      refine zG7_5 C (by decide : kd 2 = _) kX5_113 dX5_readSlack_46 ?_
      refine zv_eqi (y := (zI (tV tx n (pAdv tx n P.so3).q : Int))) (zTk_v hA22.2.1 hn0.1) ?_
      refine zP6_2 C (by decide : kd 9 = _) kX5_131 dX5_readSlack_49 ?_
      refine zv_aload_n C 0 dX5_readSlack_52 rfl rfl ?_
      refine zG5_0 C (by decide : kd 1 = _) kX5_12 dX5_readSlack_53 ?_
      refine zv_cvv (st := []) C (c_X7_advance hfl E (sI τ22 9 2 (zI (tV tx n (pAdv tx n P.so3).q : Int))) tx n (tE tx n (pAdv tx n P.so3).q) hD.1 hD.2.1.2.2.1 (tE_n hD.2.2.1).2.1) mX7_advance kX5_110 (by decide : kd 2 = 7) rfl rfl rfl ⟨rfl, rfl⟩ (show zfit (zrm 1 21) 1 (zrm 2 43) = true from rfl) (Nat.le_of_ble_eq_true rfl) dX5_readSlack_56 ⟨Nat.zero_le _, Nat.zero_le _⟩ (fun τ56 hp56 => ?_)
      have hA56 := zPS_adv hD hp56.1 hp56.2.1 hp56.2.2
      refine zv_iconst (v := zI 1) C dX5_readSlack_59 rfl ?_
      exact zv_iret C hr rfl dX5_readSlack_60 ⟨by rw [hp]; rfl, by rw [hp, hp2]; exact zRd_ok hA56 (zKp_fr (zKp_I (zKp_fr (zKp_I (zKp_refl σ) (by decide) (by decide)) hp22.2.1) (by decide) (by decide)) hp56.2.1)⟩
    · skip
      have hp : pSlack tx n P = (pNum tx n (pAdv tx n P.so3).q 0 999, (pAdv tx n P.so3)) := by unfold pSlack; rw [if_neg h4, if_neg h33]
      refine zv_iconst (v := zI 0) C dX5_readSlack_36 rfl ?_
      exact zv_iret C hr rfl dX5_readSlack_37 ⟨by rw [hp]; exact (zB_f h33).symm, by rw [hp, fC_s h33]; exact zRd_no h33 (zKp_fr (zKp_I (zKp_refl σ) (by decide) (by decide)) hp22.2.1)⟩
  · skip
    have hp : pSlack tx n P = (4, P) := if_pos h4
    refine zv_aload_n C 0 dX5_readSlack_7 rfl rfl ?_
    refine zv_iconst (v := zI 4) C dX5_readSlack_8 rfl ?_
    refine zv_cviD (st := []) C (c_X5_fail hfl E σ 4 (tB tx n P.q) hP.2.1.2.1) mX5_fail kX5_106 (by decide : kd 1 = 5) rfl rfl rfl ⟨rfl, rfl⟩ (show zfit (zrm 0 0) 2 (zrm 2 43) = true from rfl) (Nat.le_of_ble_eq_true rfl) dX5_readSlack_9 ⟨Nat.zero_le _, Nat.zero_le _⟩ ?_
    exact zv_iret C hr rfl dX5_readSlack_12 ⟨by rw [hp]; rfl, by rw [hp]; exact zRd_no (by decide) (zKp_refl σ)⟩
