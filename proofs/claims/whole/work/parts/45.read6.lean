def zSU.tak (U : zSU) (x : Int64) (pp rn : Nat) (c0 : Int) : zSU := zSU.mk U.s0 (U.nb + 1) (fun i => if i = U.nb then x else U.nm i) (fun i => if i = U.nb then pp else U.pe i) (fun i => if i = U.nb then rn else U.re i) (fun i => if i = U.nb then c0 else U.ca i)
def tkW (σ : zS) (k n : Nat) (x : Int64) (pp rn : Nat) (c0 : Int) : zS := sI (sI (sI (sI (sJ σ (k + 1) n x) (k + 2) n (zI (pp : Int))) (k + 3) n (zI (rn : Int))) (k + 4) n (zI c0)) k 1 (zI ((n + 1 : Nat) : Int))
theorem gI_tkW (σ : zS) (k n : Nat) (x : Int64) (pp rn : Nat) (c0 : Int) (a b : Nat) (h : a < k ∨ k + 5 ≤ a) : gI (tkW σ k n x pp rn c0) a b = gI σ a b := by
  simp only [tkW, gI_sI, gI_sJ]
  rw [if_neg (by omega), if_neg (by omega), if_neg (by omega), if_neg (by omega)]
theorem gJ_tkW (σ : zS) (k n : Nat) (x : Int64) (pp rn : Nat) (c0 : Int) (a b : Nat) (h : a < k ∨ k + 5 ≤ a) : gJ (tkW σ k n x pp rn c0) a b = gJ σ a b := by
  simp only [tkW, gJ_sI, gJ_sJ]
  rw [if_neg (by omega)]
theorem zSUp_tak {σ : zS} {k : Nat} {U : zSU} {x : Int64} {pp rn : Nat} {c0 : Int} (h : zSUp σ k U) (hn : U.nb < 8) (hp : 100 ≤ pp ∧ pp ≤ 9999999) (hr : rn ≤ 1) (hc : -1 ≤ c0 ∧ c0 < U.nb) : zSUp (tkW σ k U.nb x pp rn c0) k (U.tak x pp rn c0) := by
  obtain ⟨h1, h2, h3, h4, h5⟩ := h
  refine ⟨?_, ?_, by show U.nb + 1 ≤ 8; omega, h4, fun i hi => ?_⟩
  · simp only [tkW]
    rw [gI_sI, if_neg (by omega), gI_sI, if_neg (by omega), gI_sI, if_neg (by omega), gI_sI, if_neg (by omega), gI_sJ]; exact h1
  · simp only [tkW]
    rw [gI_sI, if_pos ⟨rfl, rfl⟩]; rfl
  · have hi' : i < U.nb + 1 := hi
    show gJ (tkW σ k U.nb x pp rn c0) (k + 1) i = (if i = U.nb then x else U.nm i) ∧ gI (tkW σ k U.nb x pp rn c0) (k + 2) i = zI ((if i = U.nb then pp else U.pe i : Nat) : Int) ∧ gI (tkW σ k U.nb x pp rn c0) (k + 3) i = zI ((if i = U.nb then rn else U.re i : Nat) : Int) ∧ gI (tkW σ k U.nb x pp rn c0) (k + 4) i = zI (if i = U.nb then c0 else U.ca i) ∧ (100 ≤ (if i = U.nb then pp else U.pe i) ∧ (if i = U.nb then pp else U.pe i) ≤ 9999999) ∧ (if i = U.nb then rn else U.re i) ≤ 1 ∧ (-1 ≤ (if i = U.nb then c0 else U.ca i) ∧ (if i = U.nb then c0 else U.ca i) < ((U.nb + 1 : Nat) : Int))
    simp only [tkW]
    rcases Classical.em (i = U.nb) with q | q
    · subst q
      simp only [↓reduceIte]
      refine ⟨?_, ?_, ?_, ?_, hp, hr, by omega⟩
      · rw [gJ_sI, gJ_sI, gJ_sI, gJ_sI, gJ_sJ, if_pos ⟨rfl, rfl⟩]
      · rw [gI_sI, if_neg (by omega), gI_sI, if_neg (by omega), gI_sI, if_neg (by omega), gI_sI, if_pos ⟨rfl, rfl⟩]
      · rw [gI_sI, if_neg (by omega), gI_sI, if_neg (by omega), gI_sI, if_pos ⟨rfl, rfl⟩]
      · rw [gI_sI, if_neg (by omega), gI_sI, if_pos ⟨rfl, rfl⟩]
    · obtain ⟨a1, a2, a3, a4, a5, a6, a7⟩ := h5 i (by omega)
      simp only [if_neg q]
      refine ⟨?_, ?_, ?_, ?_, a5, a6, by omega⟩
      · rw [gJ_sI, gJ_sI, gJ_sI, gJ_sI, gJ_sJ, if_neg (by omega)]; exact a1
      · rw [gI_sI, if_neg (by omega), gI_sI, if_neg (by omega), gI_sI, if_neg (by omega), gI_sI, if_neg (by omega), gI_sJ]; exact a2
      · rw [gI_sI, if_neg (by omega), gI_sI, if_neg (by omega), gI_sI, if_neg (by omega), gI_sI, if_neg (by omega), gI_sJ]; exact a3
      · rw [gI_sI, if_neg (by omega), gI_sI, if_neg (by omega), gI_sI, if_neg (by omega), gI_sI, if_neg (by omega), gI_sJ]; exact a4
theorem zPS_tak {σ : zS} {tx : Nat → Int} {n : Nat} {P : zPs} {x : Int64} {pp rn : Nat} {c0 : Int} (h : zPS σ tx n P) (hn : P.U.nb < 8) (hp : 100 ≤ pp ∧ pp ≤ 9999999) (hr : rn ≤ 1) (hc : -1 ≤ c0 ∧ c0 < P.U.nb) : zPS (tkW σ 4 P.U.nb x pp rn c0) tx n (P.sU (P.U.tak x pp rn c0)) :=
  zPS_dr h (fun a b g => ⟨gI_tkW _ _ _ _ _ _ _ _ _ (by omega), gJ_tkW _ _ _ _ _ _ _ _ _ (by omega)⟩) (zSUp_tak h.2.2.2.1 hn hp hr hc) (zSTp_w h.2.2.2.2.1 (fun a b g1 g2 => gI_tkW _ _ _ _ _ _ _ _ _ (by omega)))
theorem zKp_tk {σ τ : zS} {n : Nat} {x : Int64} {pp rn : Nat} {c0 : Int} (h : zKp σ τ) : zKp σ (tkW τ 4 n x pp rn c0) :=
  zKp_tr h ⟨⟨fun a b g => gI_tkW _ _ _ _ _ _ _ _ _ (by omega), fun a b g => gJ_tkW _ _ _ _ _ _ _ _ _ (by omega), fun a b => rfl⟩, gI_tkW _ _ _ _ _ _ _ _ _ (by omega), gI_tkW _ _ _ _ _ _ _ _ _ (by omega)⟩
def pRe (tx : Nat → Int) (n q : Nat) : Nat := if tIs tx n q 5 then 1 else 0
theorem pRe_e (tx : Nat → Int) (n q : Nat) : zB (tIs tx n q 5) = zI (pRe tx n q : Int) := by
  unfold pRe
  rcases Classical.em (tIs tx n q 5) with h | h
  · rw [zB_t h, if_pos h]; rfl
  · rw [zB_f h, if_neg h]; rfl
theorem pRe_b (tx : Nat → Int) (n q : Nat) : pRe tx n q ≤ 1 := by unfold pRe; split <;> omega
def pRt (tx : Nat → Int) (n : Nat) (P : zPs) : zPs := if tIs tx n P.q 5 then pAdv tx n P else P
theorem pRt_U (tx : Nat → Int) (n : Nat) (P : zPs) : (pRt tx n P).U = P.U := by unfold pRt; split <;> rfl
def pOn (tx : Nat → Int) (n : Nat) (x : Int64) (pp rn : Nat) (Y : zPs) : Nat × zPs :=
  if ¬ tIs tx n Y.q 6 then (0, Y.sU (Y.U.tak x pp rn (-1))) else if pNam tx n (pAdv tx n Y).q ≠ 0 then (1, pAdv tx n Y) else
  if pO Y.U.nm (tP tx n (pAdv tx n Y).q) Y.U.nb < 0 ∨ ¬ Y.U.ca (pO Y.U.nm (tP tx n (pAdv tx n Y).q) Y.U.nb).toNat < 0 then (3, pAdv tx n Y) else
  (0, pAdv tx n ((pAdv tx n Y).sU (Y.U.tak x pp rn (pO Y.U.nm (tP tx n (pAdv tx n Y).q) Y.U.nb))))
def pBody (tx : Nat → Int) (n : Nat) (P : zPs) : Nat × zPs :=
  if ¬ P.U.nb < 8 then (4, P) else if pNam tx n (pAdv tx n P).q ≠ 0 then (1, pAdv tx n P) else
  if ¬ pO P.U.nm (tP tx n (pAdv tx n P).q) P.U.nb < 0 then (3, pAdv tx n P) else
  if ¬ tIs tx n (pAdv tx n (pAdv tx n P)).q 4 then (1, pAdv tx n (pAdv tx n P)) else
  if pNum tx n (pAdv tx n (pAdv tx n (pAdv tx n P))).q 100 9999999 ≠ 0 then (pNum tx n (pAdv tx n (pAdv tx n (pAdv tx n P))).q 100 9999999, pAdv tx n (pAdv tx n (pAdv tx n P))) else
  pOn tx n (tP tx n (pAdv tx n P).q) (tV tx n (pAdv tx n (pAdv tx n (pAdv tx n P))).q) (pRe tx n (pAdv tx n (pAdv tx n (pAdv tx n (pAdv tx n P)))).q) (pRt tx n (pAdv tx n (pAdv tx n (pAdv tx n (pAdv tx n P)))))
set_option maxRecDepth 20000 in
theorem c_X5_readBody {l : Launch} (hfl : l.stackTraces = false) (E : zE) (σ : zS) (tx : Nat → Int) (n : Nat) (P : zPs) (hP : zPS σ tx n P) : zRi l E yX5_readBody cX5_readBody 6 .boolean (zrm 3 62) [.ref (ob E 1)] σ (fun r τ => r = zB ((pBody tx n P).1 = 0) ∧ zRd σ τ tx n (pBody tx n P).1 (pBody tx n P).2) := by
  refine Met.ofW (cc := cX5_readBody) (maxL := 6) (ret := (some .boolean)) (by decide +kernel) rfl ?_
  intro p e s m args below meth c s₁ B hml hv
  obtain ⟨rfl, hd⟩ := hv
  have C := zX_of (own := RX5) hfl B hml rfl hd rfl
  have hr := B.returns
  refine zV_go hd (Nat.le_of_ble_eq_true rfl) (lv := [(0, .ref (ob E 1))]) rfl ?_
  have hnb : P.U.nb ≤ 8 := hP.2.2.2.1.2.2.1
  refine zv_aload_n C 0 dX5_readBody_0 rfl rfl ?_
  refine zG5_1 C (by decide : kd 1 = _) kX5_21 dX5_readBody_1 ?_
  refine zG4_1 C (by decide : kd 4 = _) kX5_134 dX5_readBody_4 ?_
  refine zv_eqi (y := (zI (P.U.nb : Int))) (hP.2.2.2.1.2.1) ?_
  refine zv_bipush (v := zI 8) C dX5_readBody_7 (by decide) ?_
  refine zv_icmp_ltZ (tgt := 18) C (by omega) (by omega) dX5_readBody_9 (by decide) (fun h9 => ?_) (fun h9 => ?_)
  · skip
    have h9 : P.U.nb < 8 := by omega
    refine zv_aload_n C 0 dX5_readBody_18 rfl rfl ?_
    refine zG5_0 C (by decide : kd 1 = _) kX5_12 dX5_readBody_19 ?_
    refine zv_cvv (st := []) C (c_X7_advance hfl E σ tx n (tE tx n P.q) hP.1 hP.2.1.2.2.1 (tE_n hP.2.2.1).2.1) mX7_advance kX5_110 (by decide : kd 2 = 7) rfl rfl rfl ⟨rfl, rfl⟩ (show zfit (zrm 1 21) 1 (zrm 3 62) = true from rfl) (Nat.le_of_ble_eq_true rfl) dX5_readBody_22 ⟨Nat.zero_le _, Nat.zero_le _⟩ (fun τ22 hp22 => ?_)
    have hA22 := zPS_adv hP hp22.1 hp22.2.1 hp22.2.2
    have hK22 := zKp_fr (zKp_refl σ) hp22.2.1
    refine zv_aload_n C 0 dX5_readBody_25 rfl rfl ?_
    refine zv_cviD (st := []) C (c_X5_nameStands hfl E τ22 tx n (pAdv tx n P).q hA22.2.1) mX5_nameStands kX5_137 (by decide : kd 1 = 5) rfl rfl rfl ⟨rfl, rfl⟩ (show zfit (zrm 2 42) 1 (zrm 3 62) = true from rfl) (Nat.le_of_ble_eq_true rfl) dX5_readBody_26 ⟨Nat.zero_le _, Nat.zero_le _⟩ ?_
    refine zv_if_neB (tgt := 34) C dX5_readBody_29 (by decide) (fun h29 => ?_) (fun h29 => ?_)
    · skip
      refine zv_eqS (τ := τ22) (by rw [h29]; exact fC_0 _ _) ?_
      have hpob1 := pO_b P.U.nm (tP tx n (pAdv tx n P).q) P.U.nb
      refine zv_aload_n C 0 dX5_readBody_34 rfl rfl ?_
      refine zG5_0 C (by decide : kd 1 = _) kX5_12 dX5_readBody_35 ?_
      refine zG7_6 C (by decide : kd 2 = _) kX5_140 dX5_readBody_38 ?_
      refine zv_eql (y := (tP tx n (pAdv tx n P).q)) (zTk_p hA22.2.1 (pNam_0 h29)) ?_
      refine zv_lstore_n (lv' := [(1, .long (tP tx n (pAdv tx n P).q)), (0, .ref (ob E 1))]) C dX5_readBody_41 rfl (by decide) rfl ?_
      refine zv_aload_n C 1 dX5_readBody_42 rfl rfl ?_
      refine zG5_1 C (by decide : kd 1 = _) kX5_21 dX5_readBody_43 ?_
      refine zv_lload_n C 0 dX5_readBody_46 rfl rfl ?_
      refine zv_cviD (st := []) C (c_X4_placeOf hfl E τ22 4 P.U.s0 P.U.nb P.U.nm P.U.pe P.U.re P.U.ca (tP tx n (pAdv tx n P).q) (by decide) hA22.2.2.2.1) mX4_placeOf kX5_144 (by decide : kd 4 = 4) rfl rfl rfl ⟨rfl, rfl⟩ (show zfit (zrm 0 0) 4 (zrm 3 62) = true from rfl) (Nat.le_of_ble_eq_true rfl) dX5_readBody_47 ⟨Nat.zero_le _, Nat.zero_le _⟩ ?_
      refine zv_if_ltZ (tgt := 59) C (by omega) dX5_readBody_50 (by decide) (fun h50 => ?_) (fun h50 => ?_)
      · skip
        refine zv_aload_n C 1 dX5_readBody_59 rfl rfl ?_
        refine zG5_0 C (by decide : kd 1 = _) kX5_12 dX5_readBody_60 ?_
        refine zv_cvv (st := []) C (c_X7_advance hfl E τ22 tx n (tE tx n (pAdv tx n P).q) hA22.1 hA22.2.1.2.2.1 (tE_n hA22.2.2.1).2.1) mX7_advance kX5_110 (by decide : kd 2 = 7) rfl rfl rfl ⟨rfl, rfl⟩ (show zfit (zrm 1 21) 1 (zrm 3 62) = true from rfl) (Nat.le_of_ble_eq_true rfl) dX5_readBody_63 ⟨Nat.zero_le _, Nat.zero_le _⟩ (fun τ63 hp63 => ?_)
        have hA63 := zPS_adv hA22 hp63.1 hp63.2.1 hp63.2.2
        have hK63 := zKp_fr hK22 hp63.2.1
        refine zv_aload_n C 1 dX5_readBody_66 rfl rfl ?_
        refine zG5_0 C (by decide : kd 1 = _) kX5_12 dX5_readBody_67 ?_
        refine zv_getW (i := 4) C (by decide) kX5_148 dX5_readBody_70 ?_
        refine zv_cviD (st := []) C (c_X7_isWord hfl E τ63 tx n (pAdv tx n (pAdv tx n P)).q 4 hA63.2.1 (by decide)) mX7_isWord kX5_75 (by decide : kd 2 = 7) rfl rfl rfl ⟨rfl, rfl⟩ (show zfit (zrm 0 0) 2 (zrm 3 62) = true from rfl) (Nat.le_of_ble_eq_true rfl) dX5_readBody_73 ⟨Nat.zero_le _, Nat.zero_le _⟩ ?_
        refine zv_if_neB (tgt := 85) C dX5_readBody_76 (by decide) (fun h76 => ?_) (fun h76 => ?_)
        · skip
          refine zv_aload_n C 1 dX5_readBody_85 rfl rfl ?_
          refine zG5_0 C (by decide : kd 1 = _) kX5_12 dX5_readBody_86 ?_
          refine zv_cvv (st := []) C (c_X7_advance hfl E τ63 tx n (tE tx n (pAdv tx n (pAdv tx n P)).q) hA63.1 hA63.2.1.2.2.1 (tE_n hA63.2.2.1).2.1) mX7_advance kX5_110 (by decide : kd 2 = 7) rfl rfl rfl ⟨rfl, rfl⟩ (show zfit (zrm 1 21) 1 (zrm 3 62) = true from rfl) (Nat.le_of_ble_eq_true rfl) dX5_readBody_89 ⟨Nat.zero_le _, Nat.zero_le _⟩ (fun τ89 hp89 => ?_)
          have hA89 := zPS_adv hA63 hp89.1 hp89.2.1 hp89.2.2
          have hK89 := zKp_fr hK63 hp89.2.1
          refine zv_aload_n C 1 dX5_readBody_92 rfl rfl ?_
          refine zv_bipush (v := zI 100) C dX5_readBody_93 (by decide) ?_
          refine zv_ldc C kX5_151 dX5_readBody_95 ?_
          refine zv_eqi (y := zI 9999999) (by decide) ?_
          refine zv_cviD (st := []) C (c_X5_numberStands hfl E τ89 tx n (pAdv tx n (pAdv tx n (pAdv tx n P))).q 100 9999999 hA89.2.1 (by decide) (by decide)) mX5_numberStands kX5_119 (by decide : kd 1 = 5) rfl rfl rfl ⟨rfl, rfl⟩ (show zfit (zrm 1 21) 3 (zrm 3 62) = true from rfl) (Nat.le_of_ble_eq_true rfl) dX5_readBody_97 ⟨Nat.zero_le _, Nat.zero_le _⟩ ?_
          refine zv_if_neB (tgt := 105) C dX5_readBody_100 (by decide) (fun h100 => ?_) (fun h100 => ?_)
          · skip
            refine zv_eqS (τ := τ89) (by rw [h100]; exact fC_0 _ _) ?_
            have hn0 := pNum_0 h100
            refine zv_aload_n C 1 dX5_readBody_105 rfl rfl ?_
            refine zG5_0 C (by decide : kd 1 = _) kX5_12 dX5_readBody_106 ?_
            refine zG7_5 C (by decide : kd 2 = _) kX5_113 dX5_readBody_109 ?_
            refine zv_eqi (y := (zI ((tV tx n (pAdv tx n (pAdv tx n (pAdv tx n P))).q) : Int))) (zTk_v hA89.2.1 hn0.1) ?_
            refine zv_istore_n (lv' := [(3, .int (zI ((tV tx n (pAdv tx n (pAdv tx n (pAdv tx n P))).q) : Int))), (1, .long (tP tx n (pAdv tx n P).q)), (0, .ref (ob E 1))]) C dX5_readBody_112 rfl (by decide) rfl ?_
            refine zv_aload_n C 2 dX5_readBody_113 rfl rfl ?_
            refine zG5_0 C (by decide : kd 1 = _) kX5_12 dX5_readBody_114 ?_
            refine zv_cvv (st := []) C (c_X7_advance hfl E τ89 tx n (tE tx n (pAdv tx n (pAdv tx n (pAdv tx n P))).q) hA89.1 hA89.2.1.2.2.1 (tE_n hA89.2.2.1).2.1) mX7_advance kX5_110 (by decide : kd 2 = 7) rfl rfl rfl ⟨rfl, rfl⟩ (show zfit (zrm 1 21) 1 (zrm 3 62) = true from rfl) (Nat.le_of_ble_eq_true rfl) dX5_readBody_117 ⟨Nat.zero_le _, Nat.zero_le _⟩ (fun τ117 hp117 => ?_)
            have hA117 := zPS_adv hA89 hp117.1 hp117.2.1 hp117.2.2
            have hK117 := zKp_fr hK89 hp117.2.1
            refine zv_aload_n C 2 dX5_readBody_120 rfl rfl ?_
            refine zG5_0 C (by decide : kd 1 = _) kX5_12 dX5_readBody_121 ?_
            refine zv_getW (i := 5) C (by decide) kX5_152 dX5_readBody_124 ?_
            refine zv_cviD (st := []) C (c_X7_isWord hfl E τ117 tx n (pAdv tx n (pAdv tx n (pAdv tx n (pAdv tx n P)))).q 5 hA117.2.1 (by decide)) mX7_isWord kX5_75 (by decide : kd 2 = 7) rfl rfl rfl ⟨rfl, rfl⟩ (show zfit (zrm 0 0) 2 (zrm 3 62) = true from rfl) (Nat.le_of_ble_eq_true rfl) dX5_readBody_127 ⟨Nat.zero_le _, Nat.zero_le _⟩ ?_
            refine zv_istore (lv' := [(4, .int (zB (tIs tx n (pAdv tx n (pAdv tx n (pAdv tx n (pAdv tx n P)))).q 5))), (3, .int (zI ((tV tx n (pAdv tx n (pAdv tx n (pAdv tx n P))).q) : Int))), (1, .long (tP tx n (pAdv tx n P).q)), (0, .ref (ob E 1))]) C dX5_readBody_130  (by decide) rfl ?_
            refine zv_iload C 0 dX5_readBody_132 rfl ?_
            refine zv_if_eqB (tgt := 144) C dX5_readBody_134 (by decide) (fun h134 => ?_) (fun h134 => ?_)
            · skip
              have hY5 : (pRt tx n (pAdv tx n (pAdv tx n (pAdv tx n (pAdv tx n P))))) = (pAdv tx n (pAdv tx n (pAdv tx n (pAdv tx n P)))) := if_neg h134
              have hC : zPS τ117 tx n (pRt tx n (pAdv tx n (pAdv tx n (pAdv tx n (pAdv tx n P))))) := by rw [hY5]; exact hA117
              have hKC := hK117
              have hY8 : (pRt tx n (pAdv tx n (pAdv tx n (pAdv tx n (pAdv tx n P))))).U.nb < 8 := by rw [pRt_U]; exact h9
              have hpb : pBody tx n P = pOn tx n (tP tx n (pAdv tx n P).q) (tV tx n (pAdv tx n (pAdv tx n (pAdv tx n P))).q) (pRe tx n (pAdv tx n (pAdv tx n (pAdv tx n (pAdv tx n P)))).q) (pRt tx n (pAdv tx n (pAdv tx n (pAdv tx n (pAdv tx n P))))) := by unfold pBody; rw [if_neg (fun z => z h9), if_neg (fun z => z h29), if_neg (fun z => z h50), if_neg (fun z => z h76), if_neg (fun z => z h100)]
              refine zv_aload_n C 3 dX5_readBody_144 rfl rfl ?_
              refine zG5_0 C (by decide : kd 1 = _) kX5_12 dX5_readBody_145 ?_
              refine zv_getW (i := 6) C (by decide) kX5_155 dX5_readBody_148 ?_
              refine zv_cviD (st := []) C (c_X7_isWord hfl E τ117 tx n (pRt tx n (pAdv tx n (pAdv tx n (pAdv tx n (pAdv tx n P))))).q 6 hC.2.1 (by decide)) mX7_isWord kX5_75 (by decide : kd 2 = 7) rfl rfl rfl ⟨rfl, rfl⟩ (show zfit (zrm 0 0) 2 (zrm 3 62) = true from rfl) (Nat.le_of_ble_eq_true rfl) dX5_readBody_151 ⟨Nat.zero_le _, Nat.zero_le _⟩ ?_
              refine zv_if_neB (tgt := 171) C dX5_readBody_154 (by decide) (fun h154 => ?_) (fun h154 => ?_)
              · skip
                refine zv_aload_n C 3 dX5_readBody_171 rfl rfl ?_
                refine zG5_0 C (by decide : kd 1 = _) kX5_12 dX5_readBody_172 ?_
                refine zv_cvv (st := []) C (c_X7_advance hfl E τ117 tx n (tE tx n (pRt tx n (pAdv tx n (pAdv tx n (pAdv tx n (pAdv tx n P))))).q) hC.1 hC.2.1.2.2.1 (tE_n hC.2.2.1).2.1) mX7_advance kX5_110 (by decide : kd 2 = 7) rfl rfl rfl ⟨rfl, rfl⟩ (show zfit (zrm 1 21) 1 (zrm 3 62) = true from rfl) (Nat.le_of_ble_eq_true rfl) dX5_readBody_175 ⟨Nat.zero_le _, Nat.zero_le _⟩ (fun τ175 hp175 => ?_)
                have hA175 := zPS_adv hC hp175.1 hp175.2.1 hp175.2.2
                have hK175 := zKp_fr hKC hp175.2.1
                refine zv_aload_n C 3 dX5_readBody_178 rfl rfl ?_
                refine zv_cviD (st := []) C (c_X5_nameStands hfl E τ175 tx n (pAdv tx n (pRt tx n (pAdv tx n (pAdv tx n (pAdv tx n (pAdv tx n P)))))).q hA175.2.1) mX5_nameStands kX5_137 (by decide : kd 1 = 5) rfl rfl rfl ⟨rfl, rfl⟩ (show zfit (zrm 2 42) 1 (zrm 3 62) = true from rfl) (Nat.le_of_ble_eq_true rfl) dX5_readBody_179 ⟨Nat.zero_le _, Nat.zero_le _⟩ ?_
                refine zv_if_neB (tgt := 187) C dX5_readBody_182 (by decide) (fun h182 => ?_) (fun h182 => ?_)
                · skip
                  refine zv_eqS (τ := τ175) (by rw [h182]; exact fC_0 _ _) ?_
                  have hpob := pO_b (pRt tx n (pAdv tx n (pAdv tx n (pAdv tx n (pAdv tx n P))))).U.nm (tP tx n (pAdv tx n (pRt tx n (pAdv tx n (pAdv tx n (pAdv tx n (pAdv tx n P)))))).q) (pRt tx n (pAdv tx n (pAdv tx n (pAdv tx n (pAdv tx n P))))).U.nb
                  refine zv_aload_n C 3 dX5_readBody_187 rfl rfl ?_
                  refine zG5_1 C (by decide : kd 1 = _) kX5_21 dX5_readBody_188 ?_
                  refine zv_aload_n C 3 dX5_readBody_191 rfl rfl ?_
                  refine zG5_0 C (by decide : kd 1 = _) kX5_12 dX5_readBody_192 ?_
                  refine zG7_6 C (by decide : kd 2 = _) kX5_140 dX5_readBody_195 ?_
                  refine zv_eql (y := (tP tx n (pAdv tx n (pRt tx n (pAdv tx n (pAdv tx n (pAdv tx n (pAdv tx n P)))))).q)) (zTk_p hA175.2.1 (pNam_0 h182)) ?_
                  refine zv_cviD (st := []) C (c_X4_placeOf hfl E τ175 4 (pRt tx n (pAdv tx n (pAdv tx n (pAdv tx n (pAdv tx n P))))).U.s0 (pRt tx n (pAdv tx n (pAdv tx n (pAdv tx n (pAdv tx n P))))).U.nb (pRt tx n (pAdv tx n (pAdv tx n (pAdv tx n (pAdv tx n P))))).U.nm (pRt tx n (pAdv tx n (pAdv tx n (pAdv tx n (pAdv tx n P))))).U.pe (pRt tx n (pAdv tx n (pAdv tx n (pAdv tx n (pAdv tx n P))))).U.re (pRt tx n (pAdv tx n (pAdv tx n (pAdv tx n (pAdv tx n P))))).U.ca (tP tx n (pAdv tx n (pRt tx n (pAdv tx n (pAdv tx n (pAdv tx n (pAdv tx n P)))))).q) (by decide) hA175.2.2.2.1) mX4_placeOf kX5_144 (by decide : kd 4 = 4) rfl rfl rfl ⟨rfl, rfl⟩ (show zfit (zrm 0 0) 4 (zrm 3 62) = true from rfl) (Nat.le_of_ble_eq_true rfl) dX5_readBody_198 ⟨Nat.zero_le _, Nat.zero_le _⟩ ?_
                  refine zv_istore (lv' := [(5, .int (zI (pO (pRt tx n (pAdv tx n (pAdv tx n (pAdv tx n (pAdv tx n P))))).U.nm (tP tx n (pAdv tx n (pRt tx n (pAdv tx n (pAdv tx n (pAdv tx n (pAdv tx n P)))))).q) (pRt tx n (pAdv tx n (pAdv tx n (pAdv tx n (pAdv tx n P))))).U.nb))), (4, .int (zB (tIs tx n (pAdv tx n (pAdv tx n (pAdv tx n (pAdv tx n P)))).q 5))), (3, .int (zI ((tV tx n (pAdv tx n (pAdv tx n (pAdv tx n P))).q) : Int))), (1, .long (tP tx n (pAdv tx n P).q)), (0, .ref (ob E 1))]) C dX5_readBody_201  (by decide) rfl ?_
                  refine zv_iload C 0 dX5_readBody_203 rfl ?_
                  refine zv_if_ltZ (tgt := 221) C (by omega) dX5_readBody_205 (by decide) (fun h205 => ?_) (fun h205 => ?_)
                  · skip
                    have hp : pBody tx n P = (3, (pAdv tx n (pRt tx n (pAdv tx n (pAdv tx n (pAdv tx n (pAdv tx n P))))))) := by rw [hpb]; unfold pOn; rw [if_neg (fun z => z h154), if_neg (fun z => z h182), if_pos (Or.inl h205)]
                    refine zv_aload_n C 4 dX5_readBody_221 rfl rfl ?_
                    refine zv_iconst (v := zI 3) C dX5_readBody_222 rfl ?_
                    refine zv_cviD (st := []) C (c_X5_fail hfl E τ175 3 (tB tx n (pAdv tx n (pRt tx n (pAdv tx n (pAdv tx n (pAdv tx n (pAdv tx n P)))))).q) hA175.2.1.2.1) mX5_fail kX5_106 (by decide : kd 1 = 5) rfl rfl rfl ⟨rfl, rfl⟩ (show zfit (zrm 0 0) 2 (zrm 3 62) = true from rfl) (Nat.le_of_ble_eq_true rfl) dX5_readBody_223 ⟨Nat.zero_le _, Nat.zero_le _⟩ ?_
                    exact zv_iret C hr rfl dX5_readBody_226 ⟨by rw [hp]; rfl, by rw [hp]; exact zRd_no (by decide) hK175⟩
                  · skip
                    obtain ⟨j, hj⟩ : ∃ j : Nat, pO (pRt tx n (pAdv tx n (pAdv tx n (pAdv tx n (pAdv tx n P))))).U.nm (tP tx n (pAdv tx n (pRt tx n (pAdv tx n (pAdv tx n (pAdv tx n (pAdv tx n P)))))).q) (pRt tx n (pAdv tx n (pAdv tx n (pAdv tx n (pAdv tx n P))))).U.nb = (j : Int) := ⟨(pO (pRt tx n (pAdv tx n (pAdv tx n (pAdv tx n (pAdv tx n P))))).U.nm (tP tx n (pAdv tx n (pRt tx n (pAdv tx n (pAdv tx n (pAdv tx n (pAdv tx n P)))))).q) (pRt tx n (pAdv tx n (pAdv tx n (pAdv tx n (pAdv tx n P))))).U.nb).toNat, by omega⟩
                    have hj2 : (pO (pRt tx n (pAdv tx n (pAdv tx n (pAdv tx n (pAdv tx n P))))).U.nm (tP tx n (pAdv tx n (pRt tx n (pAdv tx n (pAdv tx n (pAdv tx n (pAdv tx n P)))))).q) (pRt tx n (pAdv tx n (pAdv tx n (pAdv tx n (pAdv tx n P))))).U.nb).toNat = j := by omega
                    have hj8 : j < 8 := by omega
                    have hcb : -1 ≤ (pRt tx n (pAdv tx n (pAdv tx n (pAdv tx n (pAdv tx n P))))).U.ca j ∧ (pRt tx n (pAdv tx n (pAdv tx n (pAdv tx n (pAdv tx n P))))).U.ca j < ((pRt tx n (pAdv tx n (pAdv tx n (pAdv tx n (pAdv tx n P))))).U.nb : Int) := (hA175.2.2.2.1.2.2.2.2 j (show j < (pRt tx n (pAdv tx n (pAdv tx n (pAdv tx n (pAdv tx n P))))).U.nb by omega)).2.2.2.2.2.2
                    refine zv_aload_n C 4 dX5_readBody_208 rfl rfl ?_
                    refine zG5_1 C (by decide : kd 1 = _) kX5_21 dX5_readBody_209 ?_
                    refine zG4_5 C (by decide : kd 4 = _) kX5_162 dX5_readBody_212 ?_
                    refine zv_iload C 0 dX5_readBody_215 rfl ?_
                    refine zv_iald (j := j) C (by decide : kd 8 = _) (zI_ix hj) (Nat.lt_of_lt_of_eq hj8 (by decide)) dX5_readBody_217 ?_
                    refine zv_eqi (y := (zI ((pRt tx n (pAdv tx n (pAdv tx n (pAdv tx n (pAdv tx n P))))).U.ca j))) ((hA175.2.2.2.1.2.2.2.2 j (show j < (pRt tx n (pAdv tx n (pAdv tx n (pAdv tx n (pAdv tx n P))))).U.nb by omega)).2.2.2.1) ?_
                    refine zv_if_ltZ (tgt := 227) C (by omega) dX5_readBody_218 (by decide) (fun h218 => ?_) (fun h218 => ?_)
                    · skip
                      have hD : zPS (tkW τ175 4 (pRt tx n (pAdv tx n (pAdv tx n (pAdv tx n (pAdv tx n P))))).U.nb (tP tx n (pAdv tx n P).q) (tV tx n (pAdv tx n (pAdv tx n (pAdv tx n P))).q) (pRe tx n (pAdv tx n (pAdv tx n (pAdv tx n (pAdv tx n P)))).q) (pO (pRt tx n (pAdv tx n (pAdv tx n (pAdv tx n (pAdv tx n P))))).U.nm (tP tx n (pAdv tx n (pRt tx n (pAdv tx n (pAdv tx n (pAdv tx n (pAdv tx n P)))))).q) (pRt tx n (pAdv tx n (pAdv tx n (pAdv tx n (pAdv tx n P))))).U.nb)) tx n ((pAdv tx n (pRt tx n (pAdv tx n (pAdv tx n (pAdv tx n (pAdv tx n P)))))).sU ((pRt tx n (pAdv tx n (pAdv tx n (pAdv tx n (pAdv tx n P))))).U.tak (tP tx n (pAdv tx n P).q) (tV tx n (pAdv tx n (pAdv tx n (pAdv tx n P))).q) (pRe tx n (pAdv tx n (pAdv tx n (pAdv tx n (pAdv tx n P)))).q) (pO (pRt tx n (pAdv tx n (pAdv tx n (pAdv tx n (pAdv tx n P))))).U.nm (tP tx n (pAdv tx n (pRt tx n (pAdv tx n (pAdv tx n (pAdv tx n (pAdv tx n P)))))).q) (pRt tx n (pAdv tx n (pAdv tx n (pAdv tx n (pAdv tx n P))))).U.nb))) := zPS_tak hA175 hY8 hn0.2 (pRe_b _ _ _) (by show -1 ≤ pO (pRt tx n (pAdv tx n (pAdv tx n (pAdv tx n (pAdv tx n P))))).U.nm (tP tx n (pAdv tx n (pRt tx n (pAdv tx n (pAdv tx n (pAdv tx n (pAdv tx n P)))))).q) (pRt tx n (pAdv tx n (pAdv tx n (pAdv tx n (pAdv tx n P))))).U.nb ∧ pO (pRt tx n (pAdv tx n (pAdv tx n (pAdv tx n (pAdv tx n P))))).U.nm (tP tx n (pAdv tx n (pRt tx n (pAdv tx n (pAdv tx n (pAdv tx n (pAdv tx n P)))))).q) (pRt tx n (pAdv tx n (pAdv tx n (pAdv tx n (pAdv tx n P))))).U.nb < ((pRt tx n (pAdv tx n (pAdv tx n (pAdv tx n (pAdv tx n P))))).U.nb : Int); omega)
                      have hp : pBody tx n P = (0, pAdv tx n ((pAdv tx n (pRt tx n (pAdv tx n (pAdv tx n (pAdv tx n (pAdv tx n P)))))).sU ((pRt tx n (pAdv tx n (pAdv tx n (pAdv tx n (pAdv tx n P))))).U.tak (tP tx n (pAdv tx n P).q) (tV tx n (pAdv tx n (pAdv tx n (pAdv tx n P))).q) (pRe tx n (pAdv tx n (pAdv tx n (pAdv tx n (pAdv tx n P)))).q) (pO (pRt tx n (pAdv tx n (pAdv tx n (pAdv tx n (pAdv tx n P))))).U.nm (tP tx n (pAdv tx n (pRt tx n (pAdv tx n (pAdv tx n (pAdv tx n (pAdv tx n P)))))).q) (pRt tx n (pAdv tx n (pAdv tx n (pAdv tx n (pAdv tx n P))))).U.nb)))) := by rw [hpb]; unfold pOn; rw [if_neg (fun z => z h154), if_neg (fun z => z h182), if_neg (fun z => z.elim (fun q => by omega) (fun q => q (by rw [hj2]; exact h218)))]
                      refine zv_aload_n C 4 dX5_readBody_227 rfl rfl ?_
                      refine zG5_1 C (by decide : kd 1 = _) kX5_21 dX5_readBody_228 ?_
                      refine zv_lload_n C 3 dX5_readBody_231 rfl rfl ?_
                      refine zv_iload_n C 2 dX5_readBody_232 rfl rfl ?_
                      refine zv_iload C 1 dX5_readBody_233 rfl ?_
                      refine zv_eqi (y := (zI ((pRe tx n (pAdv tx n (pAdv tx n (pAdv tx n (pAdv tx n P)))).q) : Int))) (pRe_e _ _ _) ?_
                      refine zv_iload C 0 dX5_readBody_235 rfl ?_
                      refine zv_cvvD (st := []) C (c_X4_takeBody hfl E τ175 4 (pRt tx n (pAdv tx n (pAdv tx n (pAdv tx n (pAdv tx n P))))).U.s0 (pRt tx n (pAdv tx n (pAdv tx n (pAdv tx n (pAdv tx n P))))).U.nb (pRt tx n (pAdv tx n (pAdv tx n (pAdv tx n (pAdv tx n P))))).U.nm (pRt tx n (pAdv tx n (pAdv tx n (pAdv tx n (pAdv tx n P))))).U.pe (pRt tx n (pAdv tx n (pAdv tx n (pAdv tx n (pAdv tx n P))))).U.re (pRt tx n (pAdv tx n (pAdv tx n (pAdv tx n (pAdv tx n P))))).U.ca (tP tx n (pAdv tx n P).q) ((tV tx n (pAdv tx n (pAdv tx n (pAdv tx n P))).q) : Int) (pRe tx n (pAdv tx n (pAdv tx n (pAdv tx n (pAdv tx n P)))).q) (pO (pRt tx n (pAdv tx n (pAdv tx n (pAdv tx n (pAdv tx n P))))).U.nm (tP tx n (pAdv tx n (pRt tx n (pAdv tx n (pAdv tx n (pAdv tx n (pAdv tx n P)))))).q) (pRt tx n (pAdv tx n (pAdv tx n (pAdv tx n (pAdv tx n P))))).U.nb) (by decide) hA175.2.2.2.1 hY8 (pRe_b _ _ _)) mX4_takeBody kX5_158 (by decide : kd 4 = 4) rfl rfl rfl ⟨rfl, rfl⟩ (show zfit (zrm 0 0) 6 (zrm 3 62) = true from rfl) (Nat.le_of_ble_eq_true rfl) dX5_readBody_237 ⟨Nat.zero_le _, Nat.zero_le _⟩ ?_
                      refine zv_aload_n C 4 dX5_readBody_240 rfl rfl ?_
                      refine zG5_0 C (by decide : kd 1 = _) kX5_12 dX5_readBody_241 ?_
                      refine zv_cvv (st := []) C (c_X7_advance hfl E (tkW τ175 4 (pRt tx n (pAdv tx n (pAdv tx n (pAdv tx n (pAdv tx n P))))).U.nb (tP tx n (pAdv tx n P).q) (tV tx n (pAdv tx n (pAdv tx n (pAdv tx n P))).q) (pRe tx n (pAdv tx n (pAdv tx n (pAdv tx n (pAdv tx n P)))).q) (pO (pRt tx n (pAdv tx n (pAdv tx n (pAdv tx n (pAdv tx n P))))).U.nm (tP tx n (pAdv tx n (pRt tx n (pAdv tx n (pAdv tx n (pAdv tx n (pAdv tx n P)))))).q) (pRt tx n (pAdv tx n (pAdv tx n (pAdv tx n (pAdv tx n P))))).U.nb)) tx n (tE tx n ((pAdv tx n (pRt tx n (pAdv tx n (pAdv tx n (pAdv tx n (pAdv tx n P)))))).sU ((pRt tx n (pAdv tx n (pAdv tx n (pAdv tx n (pAdv tx n P))))).U.tak (tP tx n (pAdv tx n P).q) (tV tx n (pAdv tx n (pAdv tx n (pAdv tx n P))).q) (pRe tx n (pAdv tx n (pAdv tx n (pAdv tx n (pAdv tx n P)))).q) (pO (pRt tx n (pAdv tx n (pAdv tx n (pAdv tx n (pAdv tx n P))))).U.nm (tP tx n (pAdv tx n (pRt tx n (pAdv tx n (pAdv tx n (pAdv tx n (pAdv tx n P)))))).q) (pRt tx n (pAdv tx n (pAdv tx n (pAdv tx n (pAdv tx n P))))).U.nb))).q) hD.1 hD.2.1.2.2.1 (tE_n hD.2.2.1).2.1) mX7_advance kX5_110 (by decide : kd 2 = 7) rfl rfl rfl ⟨rfl, rfl⟩ (show zfit (zrm 1 21) 1 (zrm 3 62) = true from rfl) (Nat.le_of_ble_eq_true rfl) dX5_readBody_244 ⟨Nat.zero_le _, Nat.zero_le _⟩ (fun τ244 hp244 => ?_)
                      have hA244 := zPS_adv hD hp244.1 hp244.2.1 hp244.2.2
                      refine zv_iconst (v := zI 1) C dX5_readBody_247 rfl ?_
                      exact zv_iret C hr rfl dX5_readBody_248 ⟨by rw [hp]; rfl, by rw [hp]; exact zRd_ok hA244 (zKp_fr (zKp_tk hK175) hp244.2.1)⟩
                    · skip
                      have hp : pBody tx n P = (3, (pAdv tx n (pRt tx n (pAdv tx n (pAdv tx n (pAdv tx n (pAdv tx n P))))))) := by rw [hpb]; unfold pOn; rw [if_neg (fun z => z h154), if_neg (fun z => z h182), if_pos (Or.inr (by rw [hj2]; omega))]
                      refine zv_aload_n C 4 dX5_readBody_221 rfl rfl ?_
                      refine zv_iconst (v := zI 3) C dX5_readBody_222 rfl ?_
                      refine zv_cviD (st := []) C (c_X5_fail hfl E τ175 3 (tB tx n (pAdv tx n (pRt tx n (pAdv tx n (pAdv tx n (pAdv tx n (pAdv tx n P)))))).q) hA175.2.1.2.1) mX5_fail kX5_106 (by decide : kd 1 = 5) rfl rfl rfl ⟨rfl, rfl⟩ (show zfit (zrm 0 0) 2 (zrm 3 62) = true from rfl) (Nat.le_of_ble_eq_true rfl) dX5_readBody_223 ⟨Nat.zero_le _, Nat.zero_le _⟩ ?_
                      exact zv_iret C hr rfl dX5_readBody_226 ⟨by rw [hp]; rfl, by rw [hp]; exact zRd_no (by decide) hK175⟩
                · skip
                  have hp : pBody tx n P = (1, (pAdv tx n (pRt tx n (pAdv tx n (pAdv tx n (pAdv tx n (pAdv tx n P))))))) := by rw [hpb]; unfold pOn; rw [if_neg (fun z => z h154), if_pos h182]
                  refine zv_iconst (v := zI 0) C dX5_readBody_185 rfl ?_
                  exact zv_iret C hr rfl dX5_readBody_186 ⟨by rw [hp]; rfl, by rw [hp, fC_s h182, pNam_1 h182]; exact zRd_no (by decide) hK175⟩
              · skip
                have hD : zPS (tkW τ117 4 (pRt tx n (pAdv tx n (pAdv tx n (pAdv tx n (pAdv tx n P))))).U.nb (tP tx n (pAdv tx n P).q) (tV tx n (pAdv tx n (pAdv tx n (pAdv tx n P))).q) (pRe tx n (pAdv tx n (pAdv tx n (pAdv tx n (pAdv tx n P)))).q) (-1)) tx n ((pRt tx n (pAdv tx n (pAdv tx n (pAdv tx n (pAdv tx n P))))).sU ((pRt tx n (pAdv tx n (pAdv tx n (pAdv tx n (pAdv tx n P))))).U.tak (tP tx n (pAdv tx n P).q) (tV tx n (pAdv tx n (pAdv tx n (pAdv tx n P))).q) (pRe tx n (pAdv tx n (pAdv tx n (pAdv tx n (pAdv tx n P)))).q) (-1))) := zPS_tak hC hY8 hn0.2 (pRe_b _ _ _) (by omega)
                have hp : pBody tx n P = (0, ((pRt tx n (pAdv tx n (pAdv tx n (pAdv tx n (pAdv tx n P))))).sU ((pRt tx n (pAdv tx n (pAdv tx n (pAdv tx n (pAdv tx n P))))).U.tak (tP tx n (pAdv tx n P).q) (tV tx n (pAdv tx n (pAdv tx n (pAdv tx n P))).q) (pRe tx n (pAdv tx n (pAdv tx n (pAdv tx n (pAdv tx n P)))).q) (-1)))) := by rw [hpb]; unfold pOn; rw [if_pos h154]
                refine zv_aload_n C 3 dX5_readBody_157 rfl rfl ?_
                refine zG5_1 C (by decide : kd 1 = _) kX5_21 dX5_readBody_158 ?_
                refine zv_lload_n C 2 dX5_readBody_161 rfl rfl ?_
                refine zv_iload_n C 1 dX5_readBody_162 rfl rfl ?_
                refine zv_iload C 0 dX5_readBody_163 rfl ?_
                refine zv_eqi (y := (zI ((pRe tx n (pAdv tx n (pAdv tx n (pAdv tx n (pAdv tx n P)))).q) : Int))) (pRe_e _ _ _) ?_
                refine zv_iconst (v := zI (-1)) C dX5_readBody_165 rfl ?_
                refine zv_cvvD (st := []) C (c_X4_takeBody hfl E τ117 4 (pRt tx n (pAdv tx n (pAdv tx n (pAdv tx n (pAdv tx n P))))).U.s0 (pRt tx n (pAdv tx n (pAdv tx n (pAdv tx n (pAdv tx n P))))).U.nb (pRt tx n (pAdv tx n (pAdv tx n (pAdv tx n (pAdv tx n P))))).U.nm (pRt tx n (pAdv tx n (pAdv tx n (pAdv tx n (pAdv tx n P))))).U.pe (pRt tx n (pAdv tx n (pAdv tx n (pAdv tx n (pAdv tx n P))))).U.re (pRt tx n (pAdv tx n (pAdv tx n (pAdv tx n (pAdv tx n P))))).U.ca (tP tx n (pAdv tx n P).q) ((tV tx n (pAdv tx n (pAdv tx n (pAdv tx n P))).q) : Int) (pRe tx n (pAdv tx n (pAdv tx n (pAdv tx n (pAdv tx n P)))).q) (-1) (by decide) hC.2.2.2.1 hY8 (pRe_b _ _ _)) mX4_takeBody kX5_158 (by decide : kd 4 = 4) rfl rfl rfl ⟨rfl, rfl⟩ (show zfit (zrm 0 0) 6 (zrm 3 62) = true from rfl) (Nat.le_of_ble_eq_true rfl) dX5_readBody_166 ⟨Nat.zero_le _, Nat.zero_le _⟩ ?_
                refine zv_iconst (v := zI 1) C dX5_readBody_169 rfl ?_
                exact zv_iret C hr rfl dX5_readBody_170 ⟨by rw [hp]; rfl, by rw [hp]; exact zRd_ok hD (zKp_tk hKC)⟩
            · skip
              refine zv_aload_n C 3 dX5_readBody_137 rfl rfl ?_
              refine zG5_0 C (by decide : kd 1 = _) kX5_12 dX5_readBody_138 ?_
              refine zv_cvv (st := []) C (c_X7_advance hfl E τ117 tx n (tE tx n (pAdv tx n (pAdv tx n (pAdv tx n (pAdv tx n P)))).q) hA117.1 hA117.2.1.2.2.1 (tE_n hA117.2.2.1).2.1) mX7_advance kX5_110 (by decide : kd 2 = 7) rfl rfl rfl ⟨rfl, rfl⟩ (show zfit (zrm 1 21) 1 (zrm 3 62) = true from rfl) (Nat.le_of_ble_eq_true rfl) dX5_readBody_141 ⟨Nat.zero_le _, Nat.zero_le _⟩ (fun τ141 hp141 => ?_)
              have hA141 := zPS_adv hA117 hp141.1 hp141.2.1 hp141.2.2
              have hK141 := zKp_fr hK117 hp141.2.1
              have hY5 : (pRt tx n (pAdv tx n (pAdv tx n (pAdv tx n (pAdv tx n P))))) = (pAdv tx n (pAdv tx n (pAdv tx n (pAdv tx n (pAdv tx n P))))) := if_pos h134
              have hC : zPS τ141 tx n (pRt tx n (pAdv tx n (pAdv tx n (pAdv tx n (pAdv tx n P))))) := by rw [hY5]; exact hA141
              have hKC := hK141
              have hY8 : (pRt tx n (pAdv tx n (pAdv tx n (pAdv tx n (pAdv tx n P))))).U.nb < 8 := by rw [pRt_U]; exact h9
              have hpb : pBody tx n P = pOn tx n (tP tx n (pAdv tx n P).q) (tV tx n (pAdv tx n (pAdv tx n (pAdv tx n P))).q) (pRe tx n (pAdv tx n (pAdv tx n (pAdv tx n (pAdv tx n P)))).q) (pRt tx n (pAdv tx n (pAdv tx n (pAdv tx n (pAdv tx n P))))) := by unfold pBody; rw [if_neg (fun z => z h9), if_neg (fun z => z h29), if_neg (fun z => z h50), if_neg (fun z => z h76), if_neg (fun z => z h100)]
              refine zv_aload_n C 3 dX5_readBody_144 rfl rfl ?_
              refine zG5_0 C (by decide : kd 1 = _) kX5_12 dX5_readBody_145 ?_
              refine zv_getW (i := 6) C (by decide) kX5_155 dX5_readBody_148 ?_
              refine zv_cviD (st := []) C (c_X7_isWord hfl E τ141 tx n (pRt tx n (pAdv tx n (pAdv tx n (pAdv tx n (pAdv tx n P))))).q 6 hC.2.1 (by decide)) mX7_isWord kX5_75 (by decide : kd 2 = 7) rfl rfl rfl ⟨rfl, rfl⟩ (show zfit (zrm 0 0) 2 (zrm 3 62) = true from rfl) (Nat.le_of_ble_eq_true rfl) dX5_readBody_151 ⟨Nat.zero_le _, Nat.zero_le _⟩ ?_
              refine zv_if_neB (tgt := 171) C dX5_readBody_154 (by decide) (fun h154 => ?_) (fun h154 => ?_)
              · skip
                refine zv_aload_n C 3 dX5_readBody_171 rfl rfl ?_
                refine zG5_0 C (by decide : kd 1 = _) kX5_12 dX5_readBody_172 ?_
                refine zv_cvv (st := []) C (c_X7_advance hfl E τ141 tx n (tE tx n (pRt tx n (pAdv tx n (pAdv tx n (pAdv tx n (pAdv tx n P))))).q) hC.1 hC.2.1.2.2.1 (tE_n hC.2.2.1).2.1) mX7_advance kX5_110 (by decide : kd 2 = 7) rfl rfl rfl ⟨rfl, rfl⟩ (show zfit (zrm 1 21) 1 (zrm 3 62) = true from rfl) (Nat.le_of_ble_eq_true rfl) dX5_readBody_175 ⟨Nat.zero_le _, Nat.zero_le _⟩ (fun τ175 hp175 => ?_)
                have hA175 := zPS_adv hC hp175.1 hp175.2.1 hp175.2.2
                have hK175 := zKp_fr hKC hp175.2.1
                refine zv_aload_n C 3 dX5_readBody_178 rfl rfl ?_
                refine zv_cviD (st := []) C (c_X5_nameStands hfl E τ175 tx n (pAdv tx n (pRt tx n (pAdv tx n (pAdv tx n (pAdv tx n (pAdv tx n P)))))).q hA175.2.1) mX5_nameStands kX5_137 (by decide : kd 1 = 5) rfl rfl rfl ⟨rfl, rfl⟩ (show zfit (zrm 2 42) 1 (zrm 3 62) = true from rfl) (Nat.le_of_ble_eq_true rfl) dX5_readBody_179 ⟨Nat.zero_le _, Nat.zero_le _⟩ ?_
                refine zv_if_neB (tgt := 187) C dX5_readBody_182 (by decide) (fun h182 => ?_) (fun h182 => ?_)
                · skip
                  refine zv_eqS (τ := τ175) (by rw [h182]; exact fC_0 _ _) ?_
                  have hpob := pO_b (pRt tx n (pAdv tx n (pAdv tx n (pAdv tx n (pAdv tx n P))))).U.nm (tP tx n (pAdv tx n (pRt tx n (pAdv tx n (pAdv tx n (pAdv tx n (pAdv tx n P)))))).q) (pRt tx n (pAdv tx n (pAdv tx n (pAdv tx n (pAdv tx n P))))).U.nb
                  refine zv_aload_n C 3 dX5_readBody_187 rfl rfl ?_
                  refine zG5_1 C (by decide : kd 1 = _) kX5_21 dX5_readBody_188 ?_
                  refine zv_aload_n C 3 dX5_readBody_191 rfl rfl ?_
                  refine zG5_0 C (by decide : kd 1 = _) kX5_12 dX5_readBody_192 ?_
                  refine zG7_6 C (by decide : kd 2 = _) kX5_140 dX5_readBody_195 ?_
                  refine zv_eql (y := (tP tx n (pAdv tx n (pRt tx n (pAdv tx n (pAdv tx n (pAdv tx n (pAdv tx n P)))))).q)) (zTk_p hA175.2.1 (pNam_0 h182)) ?_
                  refine zv_cviD (st := []) C (c_X4_placeOf hfl E τ175 4 (pRt tx n (pAdv tx n (pAdv tx n (pAdv tx n (pAdv tx n P))))).U.s0 (pRt tx n (pAdv tx n (pAdv tx n (pAdv tx n (pAdv tx n P))))).U.nb (pRt tx n (pAdv tx n (pAdv tx n (pAdv tx n (pAdv tx n P))))).U.nm (pRt tx n (pAdv tx n (pAdv tx n (pAdv tx n (pAdv tx n P))))).U.pe (pRt tx n (pAdv tx n (pAdv tx n (pAdv tx n (pAdv tx n P))))).U.re (pRt tx n (pAdv tx n (pAdv tx n (pAdv tx n (pAdv tx n P))))).U.ca (tP tx n (pAdv tx n (pRt tx n (pAdv tx n (pAdv tx n (pAdv tx n (pAdv tx n P)))))).q) (by decide) hA175.2.2.2.1) mX4_placeOf kX5_144 (by decide : kd 4 = 4) rfl rfl rfl ⟨rfl, rfl⟩ (show zfit (zrm 0 0) 4 (zrm 3 62) = true from rfl) (Nat.le_of_ble_eq_true rfl) dX5_readBody_198 ⟨Nat.zero_le _, Nat.zero_le _⟩ ?_
                  refine zv_istore (lv' := [(5, .int (zI (pO (pRt tx n (pAdv tx n (pAdv tx n (pAdv tx n (pAdv tx n P))))).U.nm (tP tx n (pAdv tx n (pRt tx n (pAdv tx n (pAdv tx n (pAdv tx n (pAdv tx n P)))))).q) (pRt tx n (pAdv tx n (pAdv tx n (pAdv tx n (pAdv tx n P))))).U.nb))), (4, .int (zB (tIs tx n (pAdv tx n (pAdv tx n (pAdv tx n (pAdv tx n P)))).q 5))), (3, .int (zI ((tV tx n (pAdv tx n (pAdv tx n (pAdv tx n P))).q) : Int))), (1, .long (tP tx n (pAdv tx n P).q)), (0, .ref (ob E 1))]) C dX5_readBody_201  (by decide) rfl ?_
                  refine zv_iload C 0 dX5_readBody_203 rfl ?_
                  refine zv_if_ltZ (tgt := 221) C (by omega) dX5_readBody_205 (by decide) (fun h205 => ?_) (fun h205 => ?_)
                  · skip
                    have hp : pBody tx n P = (3, (pAdv tx n (pRt tx n (pAdv tx n (pAdv tx n (pAdv tx n (pAdv tx n P))))))) := by rw [hpb]; unfold pOn; rw [if_neg (fun z => z h154), if_neg (fun z => z h182), if_pos (Or.inl h205)]
                    refine zv_aload_n C 4 dX5_readBody_221 rfl rfl ?_
                    refine zv_iconst (v := zI 3) C dX5_readBody_222 rfl ?_
                    refine zv_cviD (st := []) C (c_X5_fail hfl E τ175 3 (tB tx n (pAdv tx n (pRt tx n (pAdv tx n (pAdv tx n (pAdv tx n (pAdv tx n P)))))).q) hA175.2.1.2.1) mX5_fail kX5_106 (by decide : kd 1 = 5) rfl rfl rfl ⟨rfl, rfl⟩ (show zfit (zrm 0 0) 2 (zrm 3 62) = true from rfl) (Nat.le_of_ble_eq_true rfl) dX5_readBody_223 ⟨Nat.zero_le _, Nat.zero_le _⟩ ?_
                    exact zv_iret C hr rfl dX5_readBody_226 ⟨by rw [hp]; rfl, by rw [hp]; exact zRd_no (by decide) hK175⟩
                  · skip
                    obtain ⟨j, hj⟩ : ∃ j : Nat, pO (pRt tx n (pAdv tx n (pAdv tx n (pAdv tx n (pAdv tx n P))))).U.nm (tP tx n (pAdv tx n (pRt tx n (pAdv tx n (pAdv tx n (pAdv tx n (pAdv tx n P)))))).q) (pRt tx n (pAdv tx n (pAdv tx n (pAdv tx n (pAdv tx n P))))).U.nb = (j : Int) := ⟨(pO (pRt tx n (pAdv tx n (pAdv tx n (pAdv tx n (pAdv tx n P))))).U.nm (tP tx n (pAdv tx n (pRt tx n (pAdv tx n (pAdv tx n (pAdv tx n (pAdv tx n P)))))).q) (pRt tx n (pAdv tx n (pAdv tx n (pAdv tx n (pAdv tx n P))))).U.nb).toNat, by omega⟩
                    have hj2 : (pO (pRt tx n (pAdv tx n (pAdv tx n (pAdv tx n (pAdv tx n P))))).U.nm (tP tx n (pAdv tx n (pRt tx n (pAdv tx n (pAdv tx n (pAdv tx n (pAdv tx n P)))))).q) (pRt tx n (pAdv tx n (pAdv tx n (pAdv tx n (pAdv tx n P))))).U.nb).toNat = j := by omega
                    have hj8 : j < 8 := by omega
                    have hcb : -1 ≤ (pRt tx n (pAdv tx n (pAdv tx n (pAdv tx n (pAdv tx n P))))).U.ca j ∧ (pRt tx n (pAdv tx n (pAdv tx n (pAdv tx n (pAdv tx n P))))).U.ca j < ((pRt tx n (pAdv tx n (pAdv tx n (pAdv tx n (pAdv tx n P))))).U.nb : Int) := (hA175.2.2.2.1.2.2.2.2 j (show j < (pRt tx n (pAdv tx n (pAdv tx n (pAdv tx n (pAdv tx n P))))).U.nb by omega)).2.2.2.2.2.2
                    refine zv_aload_n C 4 dX5_readBody_208 rfl rfl ?_
                    refine zG5_1 C (by decide : kd 1 = _) kX5_21 dX5_readBody_209 ?_
                    refine zG4_5 C (by decide : kd 4 = _) kX5_162 dX5_readBody_212 ?_
                    refine zv_iload C 0 dX5_readBody_215 rfl ?_
                    refine zv_iald (j := j) C (by decide : kd 8 = _) (zI_ix hj) (Nat.lt_of_lt_of_eq hj8 (by decide)) dX5_readBody_217 ?_
                    refine zv_eqi (y := (zI ((pRt tx n (pAdv tx n (pAdv tx n (pAdv tx n (pAdv tx n P))))).U.ca j))) ((hA175.2.2.2.1.2.2.2.2 j (show j < (pRt tx n (pAdv tx n (pAdv tx n (pAdv tx n (pAdv tx n P))))).U.nb by omega)).2.2.2.1) ?_
                    refine zv_if_ltZ (tgt := 227) C (by omega) dX5_readBody_218 (by decide) (fun h218 => ?_) (fun h218 => ?_)
                    · skip
                      have hD : zPS (tkW τ175 4 (pRt tx n (pAdv tx n (pAdv tx n (pAdv tx n (pAdv tx n P))))).U.nb (tP tx n (pAdv tx n P).q) (tV tx n (pAdv tx n (pAdv tx n (pAdv tx n P))).q) (pRe tx n (pAdv tx n (pAdv tx n (pAdv tx n (pAdv tx n P)))).q) (pO (pRt tx n (pAdv tx n (pAdv tx n (pAdv tx n (pAdv tx n P))))).U.nm (tP tx n (pAdv tx n (pRt tx n (pAdv tx n (pAdv tx n (pAdv tx n (pAdv tx n P)))))).q) (pRt tx n (pAdv tx n (pAdv tx n (pAdv tx n (pAdv tx n P))))).U.nb)) tx n ((pAdv tx n (pRt tx n (pAdv tx n (pAdv tx n (pAdv tx n (pAdv tx n P)))))).sU ((pRt tx n (pAdv tx n (pAdv tx n (pAdv tx n (pAdv tx n P))))).U.tak (tP tx n (pAdv tx n P).q) (tV tx n (pAdv tx n (pAdv tx n (pAdv tx n P))).q) (pRe tx n (pAdv tx n (pAdv tx n (pAdv tx n (pAdv tx n P)))).q) (pO (pRt tx n (pAdv tx n (pAdv tx n (pAdv tx n (pAdv tx n P))))).U.nm (tP tx n (pAdv tx n (pRt tx n (pAdv tx n (pAdv tx n (pAdv tx n (pAdv tx n P)))))).q) (pRt tx n (pAdv tx n (pAdv tx n (pAdv tx n (pAdv tx n P))))).U.nb))) := zPS_tak hA175 hY8 hn0.2 (pRe_b _ _ _) (by show -1 ≤ pO (pRt tx n (pAdv tx n (pAdv tx n (pAdv tx n (pAdv tx n P))))).U.nm (tP tx n (pAdv tx n (pRt tx n (pAdv tx n (pAdv tx n (pAdv tx n (pAdv tx n P)))))).q) (pRt tx n (pAdv tx n (pAdv tx n (pAdv tx n (pAdv tx n P))))).U.nb ∧ pO (pRt tx n (pAdv tx n (pAdv tx n (pAdv tx n (pAdv tx n P))))).U.nm (tP tx n (pAdv tx n (pRt tx n (pAdv tx n (pAdv tx n (pAdv tx n (pAdv tx n P)))))).q) (pRt tx n (pAdv tx n (pAdv tx n (pAdv tx n (pAdv tx n P))))).U.nb < ((pRt tx n (pAdv tx n (pAdv tx n (pAdv tx n (pAdv tx n P))))).U.nb : Int); omega)
                      have hp : pBody tx n P = (0, pAdv tx n ((pAdv tx n (pRt tx n (pAdv tx n (pAdv tx n (pAdv tx n (pAdv tx n P)))))).sU ((pRt tx n (pAdv tx n (pAdv tx n (pAdv tx n (pAdv tx n P))))).U.tak (tP tx n (pAdv tx n P).q) (tV tx n (pAdv tx n (pAdv tx n (pAdv tx n P))).q) (pRe tx n (pAdv tx n (pAdv tx n (pAdv tx n (pAdv tx n P)))).q) (pO (pRt tx n (pAdv tx n (pAdv tx n (pAdv tx n (pAdv tx n P))))).U.nm (tP tx n (pAdv tx n (pRt tx n (pAdv tx n (pAdv tx n (pAdv tx n (pAdv tx n P)))))).q) (pRt tx n (pAdv tx n (pAdv tx n (pAdv tx n (pAdv tx n P))))).U.nb)))) := by rw [hpb]; unfold pOn; rw [if_neg (fun z => z h154), if_neg (fun z => z h182), if_neg (fun z => z.elim (fun q => by omega) (fun q => q (by rw [hj2]; exact h218)))]
                      refine zv_aload_n C 4 dX5_readBody_227 rfl rfl ?_
                      refine zG5_1 C (by decide : kd 1 = _) kX5_21 dX5_readBody_228 ?_
                      refine zv_lload_n C 3 dX5_readBody_231 rfl rfl ?_
                      refine zv_iload_n C 2 dX5_readBody_232 rfl rfl ?_
                      refine zv_iload C 1 dX5_readBody_233 rfl ?_
                      refine zv_eqi (y := (zI ((pRe tx n (pAdv tx n (pAdv tx n (pAdv tx n (pAdv tx n P)))).q) : Int))) (pRe_e _ _ _) ?_
                      refine zv_iload C 0 dX5_readBody_235 rfl ?_
                      refine zv_cvvD (st := []) C (c_X4_takeBody hfl E τ175 4 (pRt tx n (pAdv tx n (pAdv tx n (pAdv tx n (pAdv tx n P))))).U.s0 (pRt tx n (pAdv tx n (pAdv tx n (pAdv tx n (pAdv tx n P))))).U.nb (pRt tx n (pAdv tx n (pAdv tx n (pAdv tx n (pAdv tx n P))))).U.nm (pRt tx n (pAdv tx n (pAdv tx n (pAdv tx n (pAdv tx n P))))).U.pe (pRt tx n (pAdv tx n (pAdv tx n (pAdv tx n (pAdv tx n P))))).U.re (pRt tx n (pAdv tx n (pAdv tx n (pAdv tx n (pAdv tx n P))))).U.ca (tP tx n (pAdv tx n P).q) ((tV tx n (pAdv tx n (pAdv tx n (pAdv tx n P))).q) : Int) (pRe tx n (pAdv tx n (pAdv tx n (pAdv tx n (pAdv tx n P)))).q) (pO (pRt tx n (pAdv tx n (pAdv tx n (pAdv tx n (pAdv tx n P))))).U.nm (tP tx n (pAdv tx n (pRt tx n (pAdv tx n (pAdv tx n (pAdv tx n (pAdv tx n P)))))).q) (pRt tx n (pAdv tx n (pAdv tx n (pAdv tx n (pAdv tx n P))))).U.nb) (by decide) hA175.2.2.2.1 hY8 (pRe_b _ _ _)) mX4_takeBody kX5_158 (by decide : kd 4 = 4) rfl rfl rfl ⟨rfl, rfl⟩ (show zfit (zrm 0 0) 6 (zrm 3 62) = true from rfl) (Nat.le_of_ble_eq_true rfl) dX5_readBody_237 ⟨Nat.zero_le _, Nat.zero_le _⟩ ?_
                      refine zv_aload_n C 4 dX5_readBody_240 rfl rfl ?_
                      refine zG5_0 C (by decide : kd 1 = _) kX5_12 dX5_readBody_241 ?_
                      refine zv_cvv (st := []) C (c_X7_advance hfl E (tkW τ175 4 (pRt tx n (pAdv tx n (pAdv tx n (pAdv tx n (pAdv tx n P))))).U.nb (tP tx n (pAdv tx n P).q) (tV tx n (pAdv tx n (pAdv tx n (pAdv tx n P))).q) (pRe tx n (pAdv tx n (pAdv tx n (pAdv tx n (pAdv tx n P)))).q) (pO (pRt tx n (pAdv tx n (pAdv tx n (pAdv tx n (pAdv tx n P))))).U.nm (tP tx n (pAdv tx n (pRt tx n (pAdv tx n (pAdv tx n (pAdv tx n (pAdv tx n P)))))).q) (pRt tx n (pAdv tx n (pAdv tx n (pAdv tx n (pAdv tx n P))))).U.nb)) tx n (tE tx n ((pAdv tx n (pRt tx n (pAdv tx n (pAdv tx n (pAdv tx n (pAdv tx n P)))))).sU ((pRt tx n (pAdv tx n (pAdv tx n (pAdv tx n (pAdv tx n P))))).U.tak (tP tx n (pAdv tx n P).q) (tV tx n (pAdv tx n (pAdv tx n (pAdv tx n P))).q) (pRe tx n (pAdv tx n (pAdv tx n (pAdv tx n (pAdv tx n P)))).q) (pO (pRt tx n (pAdv tx n (pAdv tx n (pAdv tx n (pAdv tx n P))))).U.nm (tP tx n (pAdv tx n (pRt tx n (pAdv tx n (pAdv tx n (pAdv tx n (pAdv tx n P)))))).q) (pRt tx n (pAdv tx n (pAdv tx n (pAdv tx n (pAdv tx n P))))).U.nb))).q) hD.1 hD.2.1.2.2.1 (tE_n hD.2.2.1).2.1) mX7_advance kX5_110 (by decide : kd 2 = 7) rfl rfl rfl ⟨rfl, rfl⟩ (show zfit (zrm 1 21) 1 (zrm 3 62) = true from rfl) (Nat.le_of_ble_eq_true rfl) dX5_readBody_244 ⟨Nat.zero_le _, Nat.zero_le _⟩ (fun τ244 hp244 => ?_)
                      have hA244 := zPS_adv hD hp244.1 hp244.2.1 hp244.2.2
                      refine zv_iconst (v := zI 1) C dX5_readBody_247 rfl ?_
                      exact zv_iret C hr rfl dX5_readBody_248 ⟨by rw [hp]; rfl, by rw [hp]; exact zRd_ok hA244 (zKp_fr (zKp_tk hK175) hp244.2.1)⟩
                    · skip
                      have hp : pBody tx n P = (3, (pAdv tx n (pRt tx n (pAdv tx n (pAdv tx n (pAdv tx n (pAdv tx n P))))))) := by rw [hpb]; unfold pOn; rw [if_neg (fun z => z h154), if_neg (fun z => z h182), if_pos (Or.inr (by rw [hj2]; omega))]
                      refine zv_aload_n C 4 dX5_readBody_221 rfl rfl ?_
                      refine zv_iconst (v := zI 3) C dX5_readBody_222 rfl ?_
                      refine zv_cviD (st := []) C (c_X5_fail hfl E τ175 3 (tB tx n (pAdv tx n (pRt tx n (pAdv tx n (pAdv tx n (pAdv tx n (pAdv tx n P)))))).q) hA175.2.1.2.1) mX5_fail kX5_106 (by decide : kd 1 = 5) rfl rfl rfl ⟨rfl, rfl⟩ (show zfit (zrm 0 0) 2 (zrm 3 62) = true from rfl) (Nat.le_of_ble_eq_true rfl) dX5_readBody_223 ⟨Nat.zero_le _, Nat.zero_le _⟩ ?_
                      exact zv_iret C hr rfl dX5_readBody_226 ⟨by rw [hp]; rfl, by rw [hp]; exact zRd_no (by decide) hK175⟩
                · skip
                  have hp : pBody tx n P = (1, (pAdv tx n (pRt tx n (pAdv tx n (pAdv tx n (pAdv tx n (pAdv tx n P))))))) := by rw [hpb]; unfold pOn; rw [if_neg (fun z => z h154), if_pos h182]
                  refine zv_iconst (v := zI 0) C dX5_readBody_185 rfl ?_
                  exact zv_iret C hr rfl dX5_readBody_186 ⟨by rw [hp]; rfl, by rw [hp, fC_s h182, pNam_1 h182]; exact zRd_no (by decide) hK175⟩
              · skip
                have hD : zPS (tkW τ141 4 (pRt tx n (pAdv tx n (pAdv tx n (pAdv tx n (pAdv tx n P))))).U.nb (tP tx n (pAdv tx n P).q) (tV tx n (pAdv tx n (pAdv tx n (pAdv tx n P))).q) (pRe tx n (pAdv tx n (pAdv tx n (pAdv tx n (pAdv tx n P)))).q) (-1)) tx n ((pRt tx n (pAdv tx n (pAdv tx n (pAdv tx n (pAdv tx n P))))).sU ((pRt tx n (pAdv tx n (pAdv tx n (pAdv tx n (pAdv tx n P))))).U.tak (tP tx n (pAdv tx n P).q) (tV tx n (pAdv tx n (pAdv tx n (pAdv tx n P))).q) (pRe tx n (pAdv tx n (pAdv tx n (pAdv tx n (pAdv tx n P)))).q) (-1))) := zPS_tak hC hY8 hn0.2 (pRe_b _ _ _) (by omega)
                have hp : pBody tx n P = (0, ((pRt tx n (pAdv tx n (pAdv tx n (pAdv tx n (pAdv tx n P))))).sU ((pRt tx n (pAdv tx n (pAdv tx n (pAdv tx n (pAdv tx n P))))).U.tak (tP tx n (pAdv tx n P).q) (tV tx n (pAdv tx n (pAdv tx n (pAdv tx n P))).q) (pRe tx n (pAdv tx n (pAdv tx n (pAdv tx n (pAdv tx n P)))).q) (-1)))) := by rw [hpb]; unfold pOn; rw [if_pos h154]
                refine zv_aload_n C 3 dX5_readBody_157 rfl rfl ?_
                refine zG5_1 C (by decide : kd 1 = _) kX5_21 dX5_readBody_158 ?_
                refine zv_lload_n C 2 dX5_readBody_161 rfl rfl ?_
                refine zv_iload_n C 1 dX5_readBody_162 rfl rfl ?_
                refine zv_iload C 0 dX5_readBody_163 rfl ?_
                refine zv_eqi (y := (zI ((pRe tx n (pAdv tx n (pAdv tx n (pAdv tx n (pAdv tx n P)))).q) : Int))) (pRe_e _ _ _) ?_
                refine zv_iconst (v := zI (-1)) C dX5_readBody_165 rfl ?_
                refine zv_cvvD (st := []) C (c_X4_takeBody hfl E τ141 4 (pRt tx n (pAdv tx n (pAdv tx n (pAdv tx n (pAdv tx n P))))).U.s0 (pRt tx n (pAdv tx n (pAdv tx n (pAdv tx n (pAdv tx n P))))).U.nb (pRt tx n (pAdv tx n (pAdv tx n (pAdv tx n (pAdv tx n P))))).U.nm (pRt tx n (pAdv tx n (pAdv tx n (pAdv tx n (pAdv tx n P))))).U.pe (pRt tx n (pAdv tx n (pAdv tx n (pAdv tx n (pAdv tx n P))))).U.re (pRt tx n (pAdv tx n (pAdv tx n (pAdv tx n (pAdv tx n P))))).U.ca (tP tx n (pAdv tx n P).q) ((tV tx n (pAdv tx n (pAdv tx n (pAdv tx n P))).q) : Int) (pRe tx n (pAdv tx n (pAdv tx n (pAdv tx n (pAdv tx n P)))).q) (-1) (by decide) hC.2.2.2.1 hY8 (pRe_b _ _ _)) mX4_takeBody kX5_158 (by decide : kd 4 = 4) rfl rfl rfl ⟨rfl, rfl⟩ (show zfit (zrm 0 0) 6 (zrm 3 62) = true from rfl) (Nat.le_of_ble_eq_true rfl) dX5_readBody_166 ⟨Nat.zero_le _, Nat.zero_le _⟩ ?_
                refine zv_iconst (v := zI 1) C dX5_readBody_169 rfl ?_
                exact zv_iret C hr rfl dX5_readBody_170 ⟨by rw [hp]; rfl, by rw [hp]; exact zRd_ok hD (zKp_tk hKC)⟩
          · skip
            have hp : pBody tx n P = (pNum tx n (pAdv tx n (pAdv tx n (pAdv tx n P))).q 100 9999999, (pAdv tx n (pAdv tx n (pAdv tx n P)))) := by unfold pBody; rw [if_neg (fun z => z h9), if_neg (fun z => z h29), if_neg (fun z => z h50), if_neg (fun z => z h76), if_pos h100]
            refine zv_iconst (v := zI 0) C dX5_readBody_103 rfl ?_
            exact zv_iret C hr rfl dX5_readBody_104 ⟨by rw [hp]; exact (zB_f h100).symm, by rw [hp, fC_s h100]; exact zRd_no h100 hK89⟩
        · skip
          have hp : pBody tx n P = (1, (pAdv tx n (pAdv tx n P))) := by unfold pBody; rw [if_neg (fun z => z h9), if_neg (fun z => z h29), if_neg (fun z => z h50), if_pos h76]
          refine zv_aload_n C 1 dX5_readBody_79 rfl rfl ?_
          refine zv_iconst (v := zI 1) C dX5_readBody_80 rfl ?_
          refine zv_cviD (st := []) C (c_X5_fail hfl E τ63 1 (tB tx n (pAdv tx n (pAdv tx n P)).q) hA63.2.1.2.1) mX5_fail kX5_106 (by decide : kd 1 = 5) rfl rfl rfl ⟨rfl, rfl⟩ (show zfit (zrm 0 0) 2 (zrm 3 62) = true from rfl) (Nat.le_of_ble_eq_true rfl) dX5_readBody_81 ⟨Nat.zero_le _, Nat.zero_le _⟩ ?_
          exact zv_iret C hr rfl dX5_readBody_84 ⟨by rw [hp]; rfl, by rw [hp]; exact zRd_no (by decide) hK63⟩
      · skip
        have hp : pBody tx n P = (3, (pAdv tx n P)) := by unfold pBody; rw [if_neg (fun z => z h9), if_neg (fun z => z h29), if_pos (by omega)]
        refine zv_aload_n C 1 dX5_readBody_53 rfl rfl ?_
        refine zv_iconst (v := zI 3) C dX5_readBody_54 rfl ?_
        refine zv_cviD (st := []) C (c_X5_fail hfl E τ22 3 (tB tx n (pAdv tx n P).q) hA22.2.1.2.1) mX5_fail kX5_106 (by decide : kd 1 = 5) rfl rfl rfl ⟨rfl, rfl⟩ (show zfit (zrm 0 0) 2 (zrm 3 62) = true from rfl) (Nat.le_of_ble_eq_true rfl) dX5_readBody_55 ⟨Nat.zero_le _, Nat.zero_le _⟩ ?_
        exact zv_iret C hr rfl dX5_readBody_58 ⟨by rw [hp]; rfl, by rw [hp]; exact zRd_no (by decide) hK22⟩
    · skip
      have hp : pBody tx n P = (1, (pAdv tx n P)) := by unfold pBody; rw [if_neg (fun z => z h9), if_pos h29]
      refine zv_iconst (v := zI 0) C dX5_readBody_32 rfl ?_
      exact zv_iret C hr rfl dX5_readBody_33 ⟨by rw [hp]; rfl, by rw [hp, fC_s h29, pNam_1 h29]; exact zRd_no (by decide) hK22⟩
  · skip
    have hp : pBody tx n P = (4, P) := if_pos (by omega)
    refine zv_aload_n C 0 dX5_readBody_12 rfl rfl ?_
    refine zv_iconst (v := zI 4) C dX5_readBody_13 rfl ?_
    refine zv_cviD (st := []) C (c_X5_fail hfl E σ 4 (tB tx n P.q) hP.2.1.2.1) mX5_fail kX5_106 (by decide : kd 1 = 5) rfl rfl rfl ⟨rfl, rfl⟩ (show zfit (zrm 0 0) 2 (zrm 3 62) = true from rfl) (Nat.le_of_ble_eq_true rfl) dX5_readBody_14 ⟨Nat.zero_le _, Nat.zero_le _⟩ ?_
    exact zv_iret C hr rfl dX5_readBody_17 ⟨by rw [hp]; rfl, by rw [hp]; exact zRd_no (by decide) (zKp_refl σ)⟩
