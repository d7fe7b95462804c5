/-- the stock's numbers that aren't t, behind each other -/
def dpF (f : Nat → Nat) (t : Int) : Nat → Nat → Nat
  | 0 => fun _ => 0
  | j + 1 => if (f j : Int) = t then dpF f t j else fun x => if x = sKp f t j then f j else dpF f t j x
theorem dpI_r (σ : zS) (a : Nat) (f : Nat → Nat) (t : Int) : ∀ j x, x < sKp f t j → gI (dpI σ a f t j) a x = zI ((dpF f t j x : Nat) : Int) := by
  intro j
  induction j with
  | zero => intro x h; simp [sKp] at h
  | succ j ih =>
    intro x h
    simp only [dpI, dpF, sKp] at h ⊢
    by_cases q : (f j : Int) = t
    · rw [if_pos q] at h ⊢
      rw [if_pos q]
      exact ih x h
    · rw [if_neg q] at h ⊢
      rw [if_neg q, gI_sI]
      by_cases e : x = sKp f t j
      · subst e; rw [if_pos ⟨rfl, rfl⟩, if_pos rfl]
      · rw [if_neg (by omega), if_neg e]; exact ih x (by omega)
theorem dpF_in (f : Nat → Nat) (t : Int) : ∀ j x, x < sKp f t j → ∃ i, i < j ∧ dpF f t j x = f i := by
  intro j
  induction j with
  | zero => intro x h; simp [sKp] at h
  | succ j ih =>
    intro x h
    simp only [dpF, sKp] at h ⊢
    by_cases q : (f j : Int) = t
    · rw [if_pos q] at h ⊢
      obtain ⟨i, h1, h2⟩ := ih x h
      exact ⟨i, by omega, h2⟩
    · rw [if_neg q] at h ⊢
      by_cases e : x = sKp f t j
      · exact ⟨j, by omega, by rw [if_pos e]⟩
      · obtain ⟨i, h1, h2⟩ := ih x (by omega)
        exact ⟨i, by omega, by rw [if_neg e]; exact h2⟩
theorem dpF_up {f : Nat → Nat} {t : Int} {n : Nat} (hs : ∀ i j, i < j → j < n → f i < f j) : ∀ m, m ≤ n → ∀ x y, x < y → y < sKp f t m → dpF f t m x < dpF f t m y := by
  intro m
  induction m with
  | zero => intro _ x y _ h; simp [sKp] at h
  | succ m ih =>
    intro hm x y hxy h
    simp only [dpF, sKp] at h ⊢
    by_cases q : (f m : Int) = t
    · rw [if_pos q] at h ⊢
      exact ih (by omega) x y hxy h
    · rw [if_neg q] at h ⊢
      by_cases e : y = sKp f t m
      · rw [if_pos e, if_neg (by omega)]
        obtain ⟨i, h1, h2⟩ := dpF_in f t m x (by omega)
        rw [h2]
        exact hs i m h1 (by omega)
      · rw [if_neg e, if_neg (by omega)]
        exact ih (by omega) x y hxy (by omega)
def zST.drp (S : zST) (t : Int) : zST := zST.mk (sKp S.f t S.n) (dpF S.f t S.n) S.sl S.dy S.lg S.tn S.tr
theorem zSTp_drp {σ : zS} {k : Nat} {S : zST} {t : Int} (h : zSTp σ k S) : zSTp (sI (dpI σ (k + 1) S.f t S.n) k 1 (zI (sKp S.f t S.n : Int))) k (S.drp t) := by
  have e : ∀ x y, x ≠ k + 1 → ¬ (x = k ∧ y = 1) → gI (sI (dpI σ (k + 1) S.f t S.n) k 1 (zI (sKp S.f t S.n : Int))) x y = gI σ x y := fun x y q1 q2 => by rw [gI_sI, if_neg q2]; exact dpI_ne _ _ _ _ _ _ _ q1
  obtain ⟨h1, h2, h3, h4, h5, h6, h7⟩ := h
  have hle := sKp_le S.f t S.n
  refine ⟨⟨by rw [gI_sI, if_pos ⟨rfl, rfl⟩]; rfl, Nat.le_trans hle h1.2.1, fun i hi => ?_, fun i hi => ?_⟩, fun i hi => ?_, fun i j hij hj => dpF_up (fun a b => h3 a b) S.n (Nat.le_refl _) i j hij hj, ⟨(e k 2 (by omega) (by omega)).trans h4.1, h4.2⟩, (e k 3 (by omega) (by omega)).trans h5, fun j hj => (e (k + 2) j (by omega) (by omega)).trans (h6 j hj), fun j hj => ⟨zTr_w (h7 j hj).1 (fun x y a b => e x y (by omega) (by omega)), (h7 j hj).2⟩⟩
  · rw [gI_sI, if_neg (by omega)]; exact dpI_r _ _ _ _ _ _ hi
  · obtain ⟨x, hx, q⟩ := dpF_in S.f t S.n i hi
    show dpF S.f t S.n i ≤ 100
    rw [q]; exact h1.2.2.2 x hx
  · obtain ⟨x, hx, q⟩ := dpF_in S.f t S.n i hi
    show 8 ≤ dpF S.f t S.n i
    rw [q]; exact h2 x hx
theorem dpI_2 (σ : zS) (a : Nat) (f : Nat → Nat) (t : Int) : ∀ j, (dpI σ a f t j).2 = σ.2 := by
  intro j
  induction j with
  | zero => rfl
  | succ j ih =>
    simp only [dpI]
    split
    · exact ih
    · exact ih
theorem sI_2 (σ : zS) (k j : Nat) (v : Int32) : (sI σ k j v).2 = σ.2 := rfl
set_option maxRecDepth 20000 in
theorem c_X10_removeStock {l : Launch} (hfl : l.stackTraces = false) (E : zE) (σ : zS) (ni : Nat) (tx : Nat → Int) (ec : Nat) (eo : Int) (U : zSU) (S : zST) (hh : List zST) (kp : Option zST) (ou : List Nat) (t : Int) (h : zCP σ (zDv.mk ni tx ec eo U S hh kp ou)) (htt : -2147483648 ≤ t ∧ t < 2147483648) (hok : sHas S.f t S.n = true) : zRi l E yX10_removeStock cX10_removeStock 2 .boolean (zrm 4 124) [.ref (ob E 0), .int (zI t)] σ (fun r τ => r = zI 1 ∧ zCP τ ((zDv.mk ni tx ec eo U S hh kp ou).re.sS (S.drp t)) ∧ zFr 0 327 σ τ) := by
  refine Met.ofW (cc := cX10_removeStock) (maxL := 2) (ret := (some .boolean)) (by decide +kernel) rfl ?_
  intro p e s m args below meth c s₁ B hml hv
  obtain ⟨rfl, hd⟩ := hv
  have C := zX_of (own := RX10) hfl B hml rfl hd rfl
  have hr := B.returns
  refine zV_go hd (Nat.le_of_ble_eq_true rfl) (lv := [(0, .ref (ob E 0)), (1, .int (zI t))]) rfl ?_
  obtain ⟨q, hq12, hq1, hq2, hq3, hq4⟩ := h.2.2.2.2.1
  have hq2 : gI σ 54 2 = zI (hh.length : Int) := hq2
  have hq3 : hh.length ≤ 12 := hq3
  have hU : zSUp σ 29 U := h.2.2.1
  have hS : zSTp σ 34 S := h.2.2.2.1.1
  have hq9 : zSTq S := h.2.2.2.1.2
  have hRe : zCP (hRem σ 34 q hh.length) (zDv.mk ni tx ec eo U S hh kp ou).re := zCP_re h hq12 hq1 hq3 hq4
  have hSR : zSTp (hRem σ 34 q hh.length) 34 S := hRe.2.2.2.1.1
  have hnb : U.nb ≤ 8 := hU.2.2.1
  have hs0 := hU.2.2.2.1
  
  refine zv_aload_n C 0 dX10_removeStock_0 rfl rfl ?_
  refine zG9_2 C (by decide : kd 0 = _) kX10_26 dX10_removeStock_1 ?_
  refine zv_iload_n C 1 dX10_removeStock_4 rfl rfl ?_
  refine zv_cviD (st := []) C (c_X6_hasStock hfl E σ 34 S.n S.f t (by decide) hS.1 htt) mX6_hasStock kX10_289 (by decide : kd 34 = 6) rfl rfl rfl ⟨rfl, rfl⟩ (show zfit (zrm 0 0) 3 (zrm 4 124) = true from rfl) (Nat.le_of_ble_eq_true rfl) dX10_removeStock_5 ⟨Nat.zero_le _, Nat.zero_le _⟩ ?_
  refine zv_if_neB (tgt := 13) C dX10_removeStock_8 (by decide) (fun h8 => ?_) (fun h8 => ?_)
  · skip
    refine zv_aload_n C 0 dX10_removeStock_13 rfl rfl ?_
    refine zG9_3 C (by decide : kd 0 = _) kX10_33 dX10_removeStock_14 ?_
    refine zv_aload_n C 0 dX10_removeStock_17 rfl rfl ?_
    refine zG9_2 C (by decide : kd 0 = _) kX10_26 dX10_removeStock_18 ?_
    refine zv_cvvD (st := []) C (c_X1_remember hfl E σ 34 q hh.length (by decide) (by decide) hq1 hq12 hq2 hq3) mX1_remember kX10_304 (by decide : kd 54 = 1) rfl rfl rfl ⟨rfl, rfl⟩ (show zfit (zrm 3 103) 2 (zrm 4 124) = true from rfl) (Nat.le_of_ble_eq_true rfl) dX10_removeStock_21 ⟨Nat.zero_le _, Nat.zero_le _⟩ ?_
    refine zv_aload_n C 0 dX10_removeStock_24 rfl rfl ?_
    refine zG9_2 C (by decide : kd 0 = _) kX10_26 dX10_removeStock_25 ?_
    refine zv_iload_n C 1 dX10_removeStock_28 rfl rfl ?_
    refine zv_cvvD (st := []) C (c_X6_dropStock hfl E (hRem σ 34 q hh.length) 34 S.n S.f t (by decide) hSR.1 htt) mX6_dropStock kX10_328 (by decide : kd 34 = 6) rfl rfl rfl ⟨rfl, rfl⟩ (show zfit (zrm 0 0) 4 (zrm 4 124) = true from rfl) (Nat.le_of_ble_eq_true rfl) dX10_removeStock_29 ⟨Nat.zero_le _, Nat.zero_le _⟩ ?_
    refine zv_iconst (v := zI 1) C dX10_removeStock_32 rfl ?_
    exact zv_iret C hr rfl dX10_removeStock_33 ⟨rfl, zCP_chg hRe (zSTp_drp hSR) (zSTq_e hq9 rfl rfl) (zFr_of (fun x y hx => by rw [gI_sI, if_neg (by omega)]; exact dpI_ne _ _ _ _ _ _ _ (by omega)) (by rw [sI_2]; exact dpI_2 _ _ _ _ _))⟩
  · exfalso
    exact h8 hok
set_option maxRecDepth 20000 in
theorem c0_X10_removeStock {l : Launch} (hfl : l.stackTraces = false) (E : zE) (σ : zS) (S : zST) (t : Int) (hS : zSTp σ 34 S) (htt : -2147483648 ≤ t ∧ t < 2147483648) (hno : ¬ sHas S.f t S.n = true) : zRi l E yX10_removeStock cX10_removeStock 2 .boolean (zrm 4 126) [.ref (ob E 0), .int (zI t)] σ (fun r τ => r = zI 0 ∧ τ = σ) := by
  refine Met.ofW (cc := cX10_removeStock) (maxL := 2) (ret := (some .boolean)) (by decide +kernel) rfl ?_
  intro p e s m args below meth c s₁ B hml hv
  obtain ⟨rfl, hd⟩ := hv
  have C := zX_of (own := RX10) hfl B hml rfl hd rfl
  have hr := B.returns
  refine zV_go hd (Nat.le_of_ble_eq_true rfl) (lv := [(0, .ref (ob E 0)), (1, .int (zI t))]) rfl ?_
  skip
  refine zv_aload_n C 0 dX10_removeStock_0 rfl rfl ?_
  refine zG9_2 C (by decide : kd 0 = _) kX10_26 dX10_removeStock_1 ?_
  refine zv_iload_n C 1 dX10_removeStock_4 rfl rfl ?_
  refine zv_cviD (st := []) C (c_X6_hasStock hfl E σ 34 S.n S.f t (by decide) hS.1 htt) mX6_hasStock kX10_289 (by decide : kd 34 = 6) rfl rfl rfl ⟨rfl, rfl⟩ (show zfit (zrm 0 0) 3 (zrm 4 126) = true from rfl) (Nat.le_of_ble_eq_true rfl) dX10_removeStock_5 ⟨Nat.zero_le _, Nat.zero_le _⟩ ?_
  refine zv_if_neB (tgt := 13) C dX10_removeStock_8 (by decide) (fun h8 => ?_) (fun h8 => ?_)
  · exfalso
    exact hno h8
  · skip
    refine zv_iconst (v := zI 0) C dX10_removeStock_11 rfl ?_
    exact zv_iret C hr rfl dX10_removeStock_12 ⟨rfl, rfl⟩
theorem gI_hBack (σ : zS) (n q x j : Nat) (h : x < 34 ∨ (54 < x) ∨ (x = 54 ∧ 3 ≤ j)) : gI (hBack σ 34 n q) x j = gI σ x j := by
  unfold hBack
  rw [gI_sI, if_neg (by omega), gI_sI, if_neg (by omega), gI_cpS_o _ _ _ _ _ _ (by omega)]
theorem zCP_back {σ : zS} {D : zDv} {n : Nat} {S : zST} {hh : List zST} (h : zCP σ D) (hD : D.hh = S :: hh) (hn : n < 12) (h4 : D.hh.length ≤ 12) (h5 : ∀ i S, D.hh[i]? = some S → zSTp σ (76 + 20 * ((n + 12 - i) % 12)) S ∧ zSTq S) : zCP (hBack σ 34 n D.hh.length) ((D.sS S).sH hh) ∧ zFr 0 327 σ (hBack σ 34 n D.hh.length) := by
  have e : ∀ x j, x < 34 ∨ 54 < x ∨ (x = 54 ∧ 3 ≤ j) → gI (hBack σ 34 n D.hh.length) x j = gI σ x j := fun x j => gI_hBack σ n _ x j
  obtain ⟨a1, a2, a3, a4, a5, a6, a7⟩ := h
  have hl : D.hh.length = hh.length + 1 := by rw [hD, List.length_cons]
  obtain ⟨b1, b2⟩ := h5 0 S (by rw [hD]; rfl)
  rw [show (n + 12 - 0) % 12 = n by omega] at b1
  have c1 : zSTp (hBack σ 34 n D.hh.length) 34 S := by
    refine zSTp_w (zSTp_cp (a := 34) b1 (by omega)) (fun x y g1 g2 => ?_)
    unfold hBack
    rw [gI_sI, if_neg (by omega), gI_sI, if_neg (by omega)]
  refine ⟨⟨zTx_w a1 (e 2 1 (by omega)) (fun i => e 3 i (by omega)), ⟨(e 1 3 (by omega)).trans a2.1, (e 1 4 (by omega)).trans a2.2⟩, zSUp_w a3 (fun x y a b => ⟨e x y (by omega), rfl⟩), ⟨c1, b2⟩,
    ⟨(n + 11) % 12, Nat.mod_lt _ (by decide), ?_, ?_, ?_, fun i S' hi => ?_⟩, ⟨(e 54 4 (by omega)).trans a6.1, fun S hk => ⟨zSTp_w (a6.2 S hk).1 (fun x y a b => e x y (by omega)), (a6.2 S hk).2⟩⟩, zOu_w a7 (fun x y a b => e x y (by omega))⟩, ⟨fun x y hx => e x y (by omega), fun _ _ _ => rfl, fun _ _ => rfl⟩⟩
  · unfold hBack
    rw [gI_sI, if_neg (by omega), gI_sI, if_pos ⟨rfl, rfl⟩]
  · unfold hBack
    rw [gI_sI, if_pos ⟨rfl, rfl⟩, hl]
    congr 1
    show ((hh.length + 1 : Nat) : Int) - 1 = (hh.length : Int)
    omega
  · show hh.length ≤ 12
    omega
  · have hi' : hh[i]? = some S' := hi
    obtain ⟨d1, d2⟩ := h5 (i + 1) S' (by rw [hD, List.getElem?_cons_succ]; exact hi')
    refine ⟨zSTp_w ?_ (fun x y g1 g2 => e x y (by have := Nat.mod_lt ((n + 11) % 12 + 12 - i) (show 0 < 12 by decide); omega)), d2⟩
    have hil := (List.getElem?_eq_some_iff.mp hi').1
    rw [show ((n + 11) % 12 + 12 - i) % 12 = (n + 12 - (i + 1)) % 12 by omega]
    exact d1
theorem zCP_keep {σ : zS} {D : zDv} (h : zCP σ D) : zCP (sI (cpS σ 56 34 20) 54 4 (zI 1)) (D.sK (some D.S)) ∧ zFr 0 327 σ (sI (cpS σ 56 34 20) 54 4 (zI 1)) := by
  have e : ∀ x j, x < 54 ∨ 76 ≤ x ∨ (x = 54 ∧ j ≤ 3) → gI (sI (cpS σ 56 34 20) 54 4 (zI 1)) x j = gI σ x j := fun x j q => by rw [gI_sI, if_neg (by omega), gI_cpS_o _ _ _ _ _ _ (by omega)]
  obtain ⟨a1, a2, a3, a4, ⟨n, b1, b2, b3, b4, b5⟩, a6, a7⟩ := h
  refine ⟨⟨zTx_w a1 (e 2 1 (by omega)) (fun i => e 3 i (by omega)), ⟨(e 1 3 (by omega)).trans a2.1, (e 1 4 (by omega)).trans a2.2⟩, zSUp_w a3 (fun x y a b => ⟨e x y (by omega), rfl⟩), ⟨zSTp_w a4.1 (fun x y a b => e x y (by omega)), a4.2⟩,
    ⟨n, b1, (e 54 1 (by omega)).trans b2, (e 54 2 (by omega)).trans b3, b4, fun i S hi => ⟨zSTp_w (b5 i S hi).1 (fun x y a b => e x y (by omega)), (b5 i S hi).2⟩⟩, ⟨by rw [gI_sI, if_pos ⟨rfl, rfl⟩]; rfl, fun S hS => ?_⟩, zOu_w a7 (fun x y a b => e x y (by omega))⟩, ⟨fun x y hx => e x y (by omega), fun _ _ _ => rfl, fun _ _ => rfl⟩⟩
  have hS' : D.S = S := Option.some.inj hS
  subst hS'
  exact ⟨zSTp_w (zSTp_cp (a := 56) a4.1 (by omega)) (fun x y g1 g2 => by rw [gI_sI, if_neg (by omega)]), a4.2⟩
theorem zCP_bring {σ : zS} {D : zDv} {S : zST} (h : zCP σ D) (hk : D.kp = some S) : zCP (sI (cpS σ 34 56 20) 54 2 (zI 0)) ((D.sS S).sH []) ∧ zFr 0 327 σ (sI (cpS σ 34 56 20) 54 2 (zI 0)) := by
  have e : ∀ x j, x < 34 ∨ 54 < x ∨ (x = 54 ∧ j ≠ 2) → gI (sI (cpS σ 34 56 20) 54 2 (zI 0)) x j = gI σ x j := fun x j q => by rw [gI_sI, if_neg (by omega), gI_cpS_o _ _ _ _ _ _ (by omega)]
  obtain ⟨a1, a2, a3, a4, ⟨n, b1, b2, b3, b4, b5⟩, a6, a7⟩ := h
  refine ⟨⟨zTx_w a1 (e 2 1 (by omega)) (fun i => e 3 i (by omega)), ⟨(e 1 3 (by omega)).trans a2.1, (e 1 4 (by omega)).trans a2.2⟩, zSUp_w a3 (fun x y a b => ⟨e x y (by omega), rfl⟩),
    ⟨zSTp_w (zSTp_cp (a := 34) (a6.2 S hk).1 (by omega)) (fun x y g1 g2 => by rw [gI_sI, if_neg (by omega)]), (a6.2 S hk).2⟩,
    ⟨n, b1, (e 54 1 (by omega)).trans b2, by rw [gI_sI, if_pos ⟨rfl, rfl⟩]; rfl, Nat.zero_le _, fun i S' hi => by simp [zDv.sH, zDv.sS, zDv.mk, zDv.hh] at hi⟩, ⟨(e 54 4 (by omega)).trans a6.1, fun S hk => ⟨zSTp_w (a6.2 S hk).1 (fun x y a b => e x y (by omega)), (a6.2 S hk).2⟩⟩, zOu_w a7 (fun x y a b => e x y (by omega))⟩, ⟨fun x y hx => e x y (by omega), fun _ _ _ => rfl, fun _ _ => rfl⟩⟩
set_option maxRecDepth 20000 in
theorem c_X10_undo {l : Launch} (hfl : l.stackTraces = false) (E : zE) (σ : zS) (ni : Nat) (tx : Nat → Int) (ec : Nat) (eo : Int) (U : zSU) (S : zST) (kp : Option zST) (ou : List Nat) (S1 : zST) (h1 : List zST) (h : zCP σ (zDv.mk ni tx ec eo U S (S1 :: h1) kp ou)) : zRi l E yX10_undo cX10_undo 1 .int (zrm 4 124) [.ref (ob E 0)] σ (fun r τ => r = zI (h1.length : Int) ∧ zCP τ (zDv.mk ni tx ec eo U S1 h1 kp ou) ∧ zFr 0 327 σ τ) := by
  refine Met.ofW (cc := cX10_undo) (maxL := 1) (ret := (some .int)) (by decide +kernel) rfl ?_
  intro p e s m args below meth c s₁ B hml hv
  obtain ⟨rfl, hd⟩ := hv
  have C := zX_of (own := RX10) hfl B hml rfl hd rfl
  have hr := B.returns
  refine zV_go hd (Nat.le_of_ble_eq_true rfl) (lv := [(0, .ref (ob E 0))]) rfl ?_
  obtain ⟨hh, hhe⟩ : ∃ z, z = S1 :: h1 := ⟨_, rfl⟩
  rw [← hhe] at h
  have hl1 : hh.length = h1.length + 1 := by rw [hhe, List.length_cons]
  obtain ⟨q, hq12, hq1, hq2, hq3, hq4⟩ := h.2.2.2.2.1
  have hq2 : gI σ 54 2 = zI (hh.length : Int) := hq2
  have hq3 : hh.length ≤ 12 := hq3
  have hU : zSUp σ 29 U := h.2.2.1
  have hS : zSTp σ 34 S := h.2.2.2.1.1
  have hq9 : zSTq S := h.2.2.2.1.2
  have hnb : U.nb ≤ 8 := hU.2.2.1
  have hs0 := hU.2.2.2.1
  have hbk := zCP_back (S := S1) (hh := h1) h hhe hq12 hq3 hq4
  have hbk : zCP (hBack σ 34 q hh.length) (zDv.mk ni tx ec eo U S1 h1 kp ou) ∧ zFr 0 327 σ (hBack σ 34 q hh.length) := hbk
  
  refine zv_aload_n C 0 dX10_undo_0 rfl rfl ?_
  refine zG9_3 C (by decide : kd 0 = _) kX10_33 dX10_undo_1 ?_
  refine zv_aload_n C 0 dX10_undo_4 rfl rfl ?_
  refine zG9_2 C (by decide : kd 0 = _) kX10_26 dX10_undo_5 ?_
  refine zv_cviD (st := []) C (c_X1_stepBack hfl E σ 34 q hh.length (by decide) (by decide) hq1 hq12 hq2 hq3) mX1_stepBack kX10_359 (by decide : kd 54 = 1) rfl rfl rfl ⟨rfl, rfl⟩ (show zfit (zrm 3 103) 2 (zrm 4 124) = true from rfl) (Nat.le_of_ble_eq_true rfl) dX10_undo_8 ⟨Nat.zero_le _, Nat.zero_le _⟩ ?_
  exact zv_iret C hr rfl dX10_undo_11 ⟨congrArg zI (by omega), by rw [if_neg (by omega)]; exact hbk⟩
set_option maxRecDepth 20000 in
theorem c0_X10_undo {l : Launch} (hfl : l.stackTraces = false) (E : zE) (σ : zS) (ni : Nat) (tx : Nat → Int) (ec : Nat) (eo : Int) (U : zSU) (S : zST) (kp : Option zST) (ou : List Nat) (h : zCP σ (zDv.mk ni tx ec eo U S [] kp ou)) : zRi l E yX10_undo cX10_undo 1 .int (zrm 4 124) [.ref (ob E 0)] σ (fun r τ => r = zI (-1) ∧ τ = σ) := by
  refine Met.ofW (cc := cX10_undo) (maxL := 1) (ret := (some .int)) (by decide +kernel) rfl ?_
  intro p e s m args below meth c s₁ B hml hv
  obtain ⟨rfl, hd⟩ := hv
  have C := zX_of (own := RX10) hfl B hml rfl hd rfl
  have hr := B.returns
  refine zV_go hd (Nat.le_of_ble_eq_true rfl) (lv := [(0, .ref (ob E 0))]) rfl ?_
  obtain ⟨hh, hhe⟩ : ∃ z : List zST, z = [] := ⟨_, rfl⟩
  rw [← hhe] at h
  have hl1 : hh.length = 0 := by rw [hhe]; rfl
  obtain ⟨q, hq12, hq1, hq2, hq3, hq4⟩ := h.2.2.2.2.1
  have hq2 : gI σ 54 2 = zI (hh.length : Int) := hq2
  have hq3 : hh.length ≤ 12 := hq3
  have hU : zSUp σ 29 U := h.2.2.1
  have hS : zSTp σ 34 S := h.2.2.2.1.1
  have hq9 : zSTq S := h.2.2.2.1.2
  have hnb : U.nb ≤ 8 := hU.2.2.1
  have hs0 := hU.2.2.2.1
  
  refine zv_aload_n C 0 dX10_undo_0 rfl rfl ?_
  refine zG9_3 C (by decide : kd 0 = _) kX10_33 dX10_undo_1 ?_
  refine zv_aload_n C 0 dX10_undo_4 rfl rfl ?_
  refine zG9_2 C (by decide : kd 0 = _) kX10_26 dX10_undo_5 ?_
  refine zv_cviD (st := []) C (c_X1_stepBack hfl E σ 34 q hh.length (by decide) (by decide) hq1 hq12 hq2 hq3) mX1_stepBack kX10_359 (by decide : kd 54 = 1) rfl rfl rfl ⟨rfl, rfl⟩ (show zfit (zrm 3 103) 2 (zrm 4 124) = true from rfl) (Nat.le_of_ble_eq_true rfl) dX10_undo_8 ⟨Nat.zero_le _, Nat.zero_le _⟩ ?_
  exact zv_iret C hr rfl dX10_undo_11 ⟨congrArg zI (by omega), by rw [if_pos hl1]⟩
set_option maxRecDepth 20000 in
theorem c_X10_saveState {l : Launch} (hfl : l.stackTraces = false) (E : zE) (σ : zS) (ni : Nat) (tx : Nat → Int) (ec : Nat) (eo : Int) (U : zSU) (S : zST) (hh : List zST) (kp : Option zST) (ou : List Nat) (h : zCP σ (zDv.mk ni tx ec eo U S hh kp ou)) : zRi l E yX10_saveState cX10_saveState 1 .int (zrm 4 124) [.ref (ob E 0)] σ (fun r τ => r = zI (S.dy : Int) ∧ zCP τ ((zDv.mk ni tx ec eo U S hh kp ou).sK (some S)) ∧ zFr 0 327 σ τ) := by
  refine Met.ofW (cc := cX10_saveState) (maxL := 1) (ret := (some .int)) (by decide +kernel) rfl ?_
  intro p e s m args below meth c s₁ B hml hv
  obtain ⟨rfl, hd⟩ := hv
  have C := zX_of (own := RX10) hfl B hml rfl hd rfl
  have hr := B.returns
  refine zV_go hd (Nat.le_of_ble_eq_true rfl) (lv := [(0, .ref (ob E 0))]) rfl ?_
  obtain ⟨q, hq12, hq1, hq2, hq3, hq4⟩ := h.2.2.2.2.1
  have hq2 : gI σ 54 2 = zI (hh.length : Int) := hq2
  have hq3 : hh.length ≤ 12 := hq3
  have hU : zSUp σ 29 U := h.2.2.1
  have hS : zSTp σ 34 S := h.2.2.2.1.1
  have hq9 : zSTq S := h.2.2.2.1.2
  have hnb : U.nb ≤ 8 := hU.2.2.1
  have hs0 := hU.2.2.2.1
  
  refine zv_aload_n C 0 dX10_saveState_0 rfl rfl ?_
  refine zG9_3 C (by decide : kd 0 = _) kX10_33 dX10_saveState_1 ?_
  refine zv_aload_n C 0 dX10_saveState_4 rfl rfl ?_
  refine zG9_2 C (by decide : kd 0 = _) kX10_26 dX10_saveState_5 ?_
  refine zv_cvvD (st := []) C (c_X1_keep hfl E σ 34 (by decide) (by decide)) mX1_keep kX10_363 (by decide : kd 54 = 1) rfl rfl rfl ⟨rfl, rfl⟩ (show zfit (zrm 3 103) 2 (zrm 4 124) = true from rfl) (Nat.le_of_ble_eq_true rfl) dX10_saveState_8 ⟨Nat.zero_le _, Nat.zero_le _⟩ ?_
  refine zv_aload_n C 0 dX10_saveState_11 rfl rfl ?_
  refine zG9_2 C (by decide : kd 0 = _) kX10_26 dX10_saveState_12 ?_
  refine zG6_3 C (by decide : kd 34 = _) kX10_130 dX10_saveState_15 ?_
  refine zv_eqi (y := (zI (S.dy : Int))) (by rw [gI_sI, if_neg (by omega), gI_cpS_o _ _ _ _ _ _ (by omega)]; exact hS.2.2.2.2.1) ?_
  exact zv_iret C hr rfl dX10_saveState_18 ⟨rfl, zCP_keep h⟩
set_option maxRecDepth 20000 in
theorem c_X10_restoreState {l : Launch} (hfl : l.stackTraces = false) (E : zE) (σ : zS) (ni : Nat) (tx : Nat → Int) (ec : Nat) (eo : Int) (U : zSU) (S : zST) (hh : List zST) (ou : List Nat) (S1 : zST) (h : zCP σ (zDv.mk ni tx ec eo U S hh (some S1) ou)) : zRi l E yX10_restoreState cX10_restoreState 1 .int (zrm 4 124) [.ref (ob E 0)] σ (fun r τ => r = zI (S1.dy : Int) ∧ zCP τ (zDv.mk ni tx ec eo U S1 [] (some S1) ou) ∧ zFr 0 327 σ τ) := by
  refine Met.ofW (cc := cX10_restoreState) (maxL := 1) (ret := (some .int)) (by decide +kernel) rfl ?_
  intro p e s m args below meth c s₁ B hml hv
  obtain ⟨rfl, hd⟩ := hv
  have C := zX_of (own := RX10) hfl B hml rfl hd rfl
  have hr := B.returns
  refine zV_go hd (Nat.le_of_ble_eq_true rfl) (lv := [(0, .ref (ob E 0))]) rfl ?_
  have hk1 : gI σ 54 4 = zI 1 := h.2.2.2.2.2.1.1
  have hk2 := zCP_bring h rfl
  have hS1 := (h.2.2.2.2.2.1.2 S1 rfl).1
  have hSS := hk2.1.2.2.2.1.1
  refine zv_aload_n C 0 dX10_restoreState_0 rfl rfl ?_
  refine zG9_3 C (by decide : kd 0 = _) kX10_33 dX10_restoreState_1 ?_
  refine zG1_4 C (by decide : kd 54 = _) kX10_366 dX10_restoreState_4 ?_
  refine zv_eqi (y := zI 1) (hk1) ?_
  refine zv_if_neZ (tgt := 21) C (by omega) dX10_restoreState_7 (by decide) (fun h7 => ?_) (fun h7 => ?_)
  · skip
    refine zv_aload_n C 0 dX10_restoreState_21 rfl rfl ?_
    refine zG9_3 C (by decide : kd 0 = _) kX10_33 dX10_restoreState_22 ?_
    refine zv_aload_n C 0 dX10_restoreState_25 rfl rfl ?_
    refine zG9_2 C (by decide : kd 0 = _) kX10_26 dX10_restoreState_26 ?_
    refine zv_cvvD (st := []) C (c_X1_bringBack hfl E σ 34 (by decide) (by decide)) mX1_bringBack kX10_372 (by decide : kd 54 = 1) rfl rfl rfl ⟨rfl, rfl⟩ (show zfit (zrm 3 103) 2 (zrm 4 124) = true from rfl) (Nat.le_of_ble_eq_true rfl) dX10_restoreState_29 ⟨Nat.zero_le _, Nat.zero_le _⟩ ?_
    refine zv_aload_n C 0 dX10_restoreState_32 rfl rfl ?_
    refine zG9_2 C (by decide : kd 0 = _) kX10_26 dX10_restoreState_33 ?_
    refine zG6_3 C (by decide : kd 34 = _) kX10_130 dX10_restoreState_36 ?_
    refine zv_eqi (y := (zI (S1.dy : Int))) (hSS.2.2.2.2.1) ?_
    exact zv_iret C hr rfl dX10_restoreState_39 ⟨rfl, hk2⟩
  · exfalso
    omega
set_option maxRecDepth 20000 in
theorem x1_X10_restoreState {l : Launch} (hfl : l.stackTraces = false) (E : zE) (σ : zS) (ni : Nat) (tx : Nat → Int) (ec : Nat) (eo : Int) (U : zSU) (S : zST) (hh : List zST) (ou : List Nat) (h : zCP σ (zDv.mk ni tx ec eo U S hh none ou)) : zRx l E yX10_restoreState cX10_restoreState 1 (some .int) (zrx 9 200) [.ref (ob E 0)] σ "java/lang/IllegalStateException" := by
  refine vx_ofW (cc := cX10_restoreState) (maxL := 1) (ret := (some .int)) (by decide) rfl ?_
  intro p e s m args below meth c s₁ B hml hout hv
  obtain ⟨rfl, hd⟩ := hv
  have C := zX_of (own := RX10) hfl B hml rfl hd rfl
  have hr := B.returns
  refine zV_go hd (Nat.le_of_ble_eq_true rfl) (lv := [(0, .ref (ob E 0))]) rfl ?_
  have hk1 : gI σ 54 4 = zI 0 := h.2.2.2.2.2.1.1
  refine zv_aload_n C 0 dX10_restoreState_0 rfl rfl ?_
  refine zG9_3 C (by decide : kd 0 = _) kX10_33 dX10_restoreState_1 ?_
  refine zG1_4 C (by decide : kd 54 = _) kX10_366 dX10_restoreState_4 ?_
  refine zv_eqi (y := zI 0) (hk1) ?_
  refine zv_if_neZ (tgt := 21) C (by omega) dX10_restoreState_7 (by decide) (fun h7 => ?_) (fun h7 => ?_)
  · exfalso
    omega
  · skip
    exact zv_throwW (text := "no state is saved") C hout rfl kX10_299 zini_IllegalStateException (by decide) (by decide) (by decide) zat_IllegalStateException zot_IllegalStateException dX10_restoreState_10 dX10_restoreState_13 dX10_restoreState_14 dX10_restoreState_17 dX10_restoreState_20 (by decide) (by decide) ⟨by decide, by decide⟩
