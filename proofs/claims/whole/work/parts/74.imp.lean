/-! improving a train: one cell after the other tried with every number of the stock -/
def zST.cel (S : zST) (i x w t : Nat) : zST := S.sT i (S.tn i) (fun a b => if a = x ∧ b = w then t else S.tr i a b)
theorem tGe_e {c c' : Nat → Nat → Nat} : ∀ n, (∀ i, i < n → c i 0 = c' i 0) → tGe c n = tGe c' n := by
  intro n
  induction n with
  | zero => intro _; rfl
  | succ n ih => intro h; simp only [tGe, ih (fun i hi => h i (by omega)), h n (by omega)]
theorem zSTp_cel {σ τ : zS} {S : zST} {i x w t : Nat} (h : zSTp σ 34 S) (hi : i < 8) (hx : x < S.tn i) (hw : w = 1 ∨ w = 2) (hg : S.tr i x 0 ≠ 2) (ht : 8 ≤ t ∧ t ≤ 100)
    (e1 : gI τ (34 + 4 + 2 * i + 1) (3 * x + w) = zI (t : Int)) (e : ∀ a b, 34 ≤ a → a < 54 → ¬ (a = 34 + 4 + 2 * i + 1 ∧ b = 3 * x + w) → gI τ a b = gI σ a b) : zSTp τ 34 (S.cel i x w t) := by
  obtain ⟨hT, hW⟩ := h.2.2.2.2.2.2 i hi
  have h0 : zSTp τ 34 (S.sT i (S.tn i) (fun a b => if a = x ∧ b = w then t else S.tr i a b)) := by
    obtain ⟨h1, h2, h3, h4, h5, h6, h7⟩ := h
    refine ⟨zStk_w h1 (fun a b c d => e a b (by omega) (by omega) (by omega)), h2, h3, ⟨(e 34 2 (by omega) (by omega) (by omega)).trans h4.1, h4.2⟩, (e 34 3 (by omega) (by omega) (by omega)).trans h5, fun j hj => (e 36 j (by omega) (by omega) (by omega)).trans (h6 j hj), fun j hj => ?_⟩
    show zTr τ (34 + 4 + 2 * j) (if j = i then S.tn i else S.tn j) (if j = i then (fun a b => if a = x ∧ b = w then t else S.tr i a b) else S.tr j) ∧ zTw (if j = i then S.tn i else S.tn j) (if j = i then (fun a b => if a = x ∧ b = w then t else S.tr i a b) else S.tr j)
    by_cases q : j = i
    · subst q
      rw [if_pos rfl, if_pos rfl]
      refine ⟨⟨(e (34 + 4 + 2 * j) 1 (by omega) (by omega) (by omega)).trans hT.1, hT.2.1, fun a b ha hb => ?_, fun a b ha hb => ?_⟩, hW.1, ?_, fun a ha => ?_⟩
      · show _ = zI ((if a = x ∧ b = w then t else S.tr j a b : Nat) : Int)
        by_cases z : a = x ∧ b = w
        · obtain ⟨rfl, rfl⟩ := z; rw [if_pos ⟨rfl, rfl⟩]; exact e1
        · rw [if_neg z, e _ _ (by omega) (by omega) (by omega)]; exact hT.2.2.1 a b ha hb
      · show (if a = x ∧ b = w then t else S.tr j a b) ≤ 100
        split
        · exact ht.2
        · exact hT.2.2.2 a b ha hb
      · rw [tGe_e (c' := S.tr j) _ (fun a _ => if_neg (by omega))]; exact hW.2.1
      · have hh := hW.2.2 a ha
        show (if a = x ∧ 0 = w then t else S.tr j a 0) ≤ 2 ∧ 8 ≤ (if a = x ∧ 1 = w then t else S.tr j a 1) ∧ (if a = x ∧ 1 = w then t else S.tr j a 1) ≤ 100 ∧ ((if a = x ∧ 0 = w then t else S.tr j a 0) = 2 → (if a = x ∧ 2 = w then t else S.tr j a 2) = 0) ∧ ((if a = x ∧ 0 = w then t else S.tr j a 0) ≠ 2 → 8 ≤ (if a = x ∧ 2 = w then t else S.tr j a 2) ∧ (if a = x ∧ 2 = w then t else S.tr j a 2) ≤ 100)
        rw [if_neg (show ¬ (a = x ∧ 0 = w) by omega)]
        by_cases z : a = x
        · subst z
          refine ⟨hh.1, ?_, ?_, fun z2 => absurd z2 hg, fun z2 => ?_⟩
          · split
            · exact ht.1
            · exact hh.2.1
          · split
            · exact ht.2
            · exact hh.2.2.1
          · split
            · exact ht
            · exact hh.2.2.2.2 z2
        · rw [if_neg (by omega), if_neg (by omega)]; exact hh
    · rw [if_neg q, if_neg q]
      exact ⟨zTr_w (h7 j hj).1 (fun a b c d => e a b (by omega) (by omega) (by omega)), (h7 j hj).2⟩
  exact h0
def rOk (r : Int × Int) : Prop := r.1.natAbs ≤ 2010000000000000 ∧ 1 ≤ r.2 ∧ r.2 ≤ 999999900000000
/-- one cell tried with the first numbers of the stock: the nearest so far, the number with which it came -/
def nwS (U : zSU) (S : zST) (i x w : Nat) (r0 : Int × Int) : Nat → (Int × Int) × Int
  | 0 => (r0, -1)
  | n + 1 => if fCmp (qDrift U (S.cel i x w (S.f n)) i).1.natAbs (qDrift U (S.cel i x w (S.f n)) i).2.toNat (nwS U S i x w r0 n).1.1.natAbs (nwS U S i x w r0 n).1.2.toNat < 0 then (qDrift U (S.cel i x w (S.f n)) i, (S.f n : Int)) else nwS U S i x w r0 n
def nwW (σ : zS) (U : zSU) (S : zST) (i x w : Nat) (r0 : Int × Int) : Nat → zS
  | 0 => σ
  | n + 1 => if fCmp (qDrift U (S.cel i x w (S.f n)) i).1.natAbs (qDrift U (S.cel i x w (S.f n)) i).2.toNat (nwS U S i x w r0 n).1.1.natAbs (nwS U S i x w r0 n).1.2.toNat < 0 then rW (rW (sI (nwW σ U S i x w r0 n) (34 + 4 + 2 * i + 1) (3 * x + w) (zI (S.f n : Int))) 322 (qDrift U (S.cel i x w (S.f n)) i).1 (qDrift U (S.cel i x w (S.f n)) i).2) 323 (qDrift U (S.cel i x w (S.f n)) i).1 (qDrift U (S.cel i x w (S.f n)) i).2
    else rW (sI (nwW σ U S i x w r0 n) (34 + 4 + 2 * i + 1) (3 * x + w) (zI (S.f n : Int))) 322 (qDrift U (S.cel i x w (S.f n)) i).1 (qDrift U (S.cel i x w (S.f n)) i).2
theorem nwW_I (σ : zS) (U : zSU) (S : zST) (i x w : Nat) (r0 : Int × Int) : ∀ n a b, ¬ (a = 34 + 4 + 2 * i + 1 ∧ b = 3 * x + w) → gI (nwW σ U S i x w r0 n) a b = gI σ a b := by
  intro n
  induction n with
  | zero => intro a b _; rfl
  | succ n ih =>
    intro a b h
    simp only [nwW]
    split
    · rw [gI_rW, gI_rW, gI_sI, if_neg h]; exact ih a b h
    · rw [gI_rW, gI_sI, if_neg h]; exact ih a b h
theorem nwW_J (σ : zS) (U : zSU) (S : zST) (i x w : Nat) (r0 : Int × Int) : ∀ n a b, a ≠ 322 → a ≠ 323 → gJ (nwW σ U S i x w r0 n) a b = gJ σ a b := by
  intro n
  induction n with
  | zero => intro a b _ _; rfl
  | succ n ih =>
    intro a b h1 h2
    simp only [nwW]
    split
    · rw [gJ_rW _ _ _ _ _ _ h2, gJ_rW _ _ _ _ _ _ h1]; exact ih a b h1 h2
    · rw [gJ_rW _ _ _ _ _ _ h1]; exact ih a b h1 h2
theorem nwW_D (σ : zS) (U : zSU) (S : zST) (i x w : Nat) (r0 : Int × Int) : ∀ n a b, gD (nwW σ U S i x w r0 n) a b = gD σ a b := by
  intro n
  induction n with
  | zero => intro a b; rfl
  | succ n ih =>
    intro a b
    simp only [nwW]
    split <;> exact ih a b
theorem nwW_F {σ : zS} (U : zSU) (S : zST) (i x w : Nat) (r0 : Int × Int) (n : Nat) {v : Int32} (h : gI σ (34 + 4 + 2 * i + 1) (3 * x + w) = v) : zFr 318 327 σ (sI (nwW σ U S i x w r0 n) (34 + 4 + 2 * i + 1) (3 * x + w) v) := by
  refine ⟨fun a b z => ?_, fun a b z => ?_, fun a b => ?_⟩
  · rw [gI_sI]
    by_cases zz : a = 34 + 4 + 2 * i + 1 ∧ b = 3 * x + w
    · rw [if_pos zz, zz.1, zz.2]; exact h.symm
    · rw [if_neg zz]; exact nwW_I _ _ _ _ _ _ _ _ _ _ zz
  · rw [gJ_sI]; exact nwW_J _ _ _ _ _ _ _ _ _ _ (by omega) (by omega)
  · rw [gD_sI]; exact nwW_D _ _ _ _ _ _ _ _ _ _
theorem nwW_R {σ : zS} {U : zSU} {S : zST} {i x w : Nat} {r0 : Int × Int} (h : zRt σ 323 r0.1 r0.2) : ∀ n, zRt (nwW σ U S i x w r0 n) 323 (nwS U S i x w r0 n).1.1 (nwS U S i x w r0 n).1.2 := by
  intro n
  induction n with
  | zero => exact h
  | succ n ih =>
    simp only [nwW, nwS]
    split
    · exact rW_R _ _ _ _
    · refine ⟨?_, ?_⟩
      · rw [gJ_rW _ _ _ _ _ _ (by omega), gJ_sI]; exact ih.1
      · rw [gJ_rW _ _ _ _ _ _ (by omega), gJ_sI]; exact ih.2
theorem nwW_U {σ : zS} {U : zSU} {S : zST} {i x w : Nat} {r0 : Int × Int} (h : zSUp σ 29 U) (n : Nat) : zSUp (nwW σ U S i x w r0 n) 29 U := zSUp_w h (fun a b _ _ => ⟨nwW_I _ _ _ _ _ _ _ _ _ _ (by omega), nwW_J _ _ _ _ _ _ _ _ _ _ (by omega) (by omega)⟩)
theorem nwS_b {σ : zS} {U : zSU} {S : zST} {i x w : Nat} {r0 : Int × Int} (hU : zSUp σ 29 U) (hS : zSTp σ 34 S) (hi : i < U.nb) (hx : x < S.tn i) (hw : w = 1 ∨ w = 2) (hg : S.tr i x 0 ≠ 2) (h : rOk r0) : ∀ n, n ≤ S.n → rOk (nwS U S i x w r0 n).1 ∧ -1 ≤ (nwS U S i x w r0 n).2 ∧ (nwS U S i x w r0 n).2 ≤ 100 ∧ (0 ≤ (nwS U S i x w r0 n).2 → 8 ≤ (nwS U S i x w r0 n).2) := by
  intro n
  have hnb := hU.2.2.1
  induction n with
  | zero => intro _; exact ⟨h, by show (-1 : Int) ≤ -1 ∧ (-1 : Int) ≤ 100 ∧ ((0 : Int) ≤ -1 → (8 : Int) ≤ -1); omega⟩
  | succ n ih =>
    intro hn
    have h1 := ih (by omega)
    have hf := hS.1.2.2.2 n (by omega)
    have hf8 := hS.2.1 n (by omega)
    simp only [nwS]
    split
    · refine ⟨?_, by show (-1 : Int) ≤ (S.f n : Int) ∧ (S.f n : Int) ≤ 100 ∧ ((0 : Int) ≤ (S.f n : Int) → (8 : Int) ≤ (S.f n : Int)); omega⟩
      have hc : zSTp (sI σ (34 + 4 + 2 * i + 1) (3 * x + w) (zI (S.f n : Int))) 34 (S.cel i x w (S.f n)) := zSTp_cel hS (by omega) hx hw hg ⟨hf8, hf⟩ (by rw [gI_sI, if_pos ⟨rfl, rfl⟩]) (fun a b _ _ z => by rw [gI_sI, if_neg z])
      exact qDrift_b hU hc hi
    · exact h1
set_option maxRecDepth 20000 in
theorem c_X10_nearerWheel {l : Launch} (hfl : l.stackTraces = false) (E : zE) (σ : zS) (U : zSU) (S : zST) (i x w : Nat) (r0 : Int × Int) (hU : zSUp σ 29 U) (hS : zSTp σ 34 S) (hi : i < U.nb) (hx : x < S.tn i) (hw : w = 1 ∨ w = 2) (hg : S.tr i x 0 ≠ 2) (hR : zRt σ 323 r0.1 r0.2) (hrk : rOk r0) : zRi l E yX10_nearerWheel cX10_nearerWheel 9 .int (zrm 5 126) [.ref (ob E 0), .int (zI (i : Int)), .int (zI (x : Int)), .int (zI (w : Int))] σ (fun r τ => r = zI (nwS U S i x w r0 S.n).2 ∧ zRt τ 323 (nwS U S i x w r0 S.n).1.1 (nwS U S i x w r0 S.n).1.2 ∧ zFr 318 327 σ τ) := by
  refine Met.ofW (cc := cX10_nearerWheel) (maxL := 9) (ret := (some .int)) (by decide +kernel) rfl ?_
  intro p e s m args below meth c s₁ B hml hv
  obtain ⟨rfl, hd⟩ := hv
  have C := zX_of (own := RX10) hfl B hml rfl hd rfl
  have hr := B.returns
  refine zV_go hd (Nat.le_of_ble_eq_true rfl) (lv := [(0, .ref (ob E 0)), (1, .int (zI (i : Int))), (2, .int (zI (x : Int))), (3, .int (zI (w : Int)))]) rfl ?_
  have hnb : U.nb ≤ 8 := hU.2.2.1
  have hs0 := hU.2.2.2.1
  have hi8 : i < 8 := by omega
  have hki : kd (34 + 4 + 2 * i) = 8 := ((zst (show kd 34 = 6 by decide)).2.2.2 i hi8).1
  have hT := (hS.2.2.2.2.2.2 i hi8).1
  have hTw := (hS.2.2.2.2.2.2 i hi8).2
  have ht4 := hT.2.1
  have hn16 := hS.1.2.1
  
  refine zv_aload_n C 0 dX10_nearerWheel_0 rfl rfl ?_
  refine zG9_2 C (by decide : kd 0 = _) kX10_26 dX10_nearerWheel_1 ?_
  refine zG6_5 C (by decide : kd 34 = _) kX10_154 dX10_nearerWheel_4 ?_
  refine zv_iload_n C 1 dX10_nearerWheel_7 rfl rfl ?_
  refine zv_tald (j := i) C (by decide : kd 37 = _) (zI_ix (by omega)) (Nat.lt_of_lt_of_eq (show i < 8 by omega) (by decide)) dX10_nearerWheel_8 ?_
  refine zv_astore (lv' := [(4, .ref (ob E (34 + 4 + 2 * i))), (0, .ref (ob E 0)), (1, .int (zI (i : Int))), (2, .int (zI (x : Int))), (3, .int (zI (w : Int)))]) C dX10_nearerWheel_9  (by decide) rfl ?_
  refine zv_aload C 0 dX10_nearerWheel_11 rfl ?_
  refine zv_iload_n C 3 dX10_nearerWheel_13 rfl rfl ?_
  refine zv_iload_n C 4 dX10_nearerWheel_14 rfl rfl ?_
  refine zv_cviD (st := []) C (c_X8_cell hfl E σ (34 + 4 + 2 * i) x w hki (by omega) (by omega)) mX8_cell kX10_172 hki rfl rfl rfl ⟨rfl, rfl⟩ (show zfit (zrm 0 0) 4 (zrm 5 126) = true from rfl) (Nat.le_of_ble_eq_true rfl) dX10_nearerWheel_15 ⟨Nat.zero_le _, Nat.zero_le _⟩ ?_
  refine zv_eqi (y := (zI (S.tr i x w : Int))) (hT.2.2.1 x w hx (by omega)) ?_
  refine zv_istore (lv' := [(5, .int (zI (S.tr i x w : Int))), (4, .ref (ob E (34 + 4 + 2 * i))), (0, .ref (ob E 0)), (1, .int (zI (i : Int))), (2, .int (zI (x : Int))), (3, .int (zI (w : Int)))]) C dX10_nearerWheel_18  (by decide) rfl ?_
  refine zv_iconst (v := zI (-1)) C dX10_nearerWheel_20 rfl ?_
  refine zv_istore (lv' := [(6, .int (zI (-1))), (5, .int (zI (S.tr i x w : Int))), (4, .ref (ob E (34 + 4 + 2 * i))), (0, .ref (ob E 0)), (1, .int (zI (i : Int))), (2, .int (zI (x : Int))), (3, .int (zI (w : Int)))]) C dX10_nearerWheel_21  (by decide) rfl ?_
  refine zv_iconst (v := zI 0) C dX10_nearerWheel_23 rfl ?_
  refine zv_istore (lv' := [(7, .int (zI 0)), (6, .int (zI (-1))), (5, .int (zI (S.tr i x w : Int))), (4, .ref (ob E (34 + 4 + 2 * i))), (0, .ref (ob E 0)), (1, .int (zI (i : Int))), (2, .int (zI (x : Int))), (3, .int (zI (w : Int)))]) C dX10_nearerWheel_24  (by decide) rfl ?_
  have q26_25 : (0 : Int) = (0 : Int) := by first | rfl | omega
  have q26_26 : ((-1) : Int) = (nwS U S i x w r0 0).2 := by first | rfl | omega
  refine zv_sub (lv' := [(0, .ref (ob E 0)), (1, .int (zI (i : Int))), (2, .int (zI (x : Int))), (3, .int (zI (w : Int))), (4, .ref (ob E (34 + 4 + 2 * i))), (5, .int (zI (S.tr i x w : Int))), (6, .int (zI ((nwS U S i x w r0 0).2))), (7, .int (zI (0 : Int)))]) [4, 5, 6, 7, 3, 2, 1, 0] (zcons rfl (zcons rfl (zcons rfl (zcons rfl (zcons rfl (zcons rfl (zcons (zqI q26_26) (zcons (zqI q26_25) rfl)))))))) ?_
  refine zv_eqS (τ := (nwW σ U S i x w r0 0)) (rfl) ?_
  refine zv_while (α := Nat) (fun v => S.n - v) (fun v => v ≤ S.n) (fun v => (nwW σ U S i x w r0 v)) (fun v => [(0, .ref (ob E 0)), (1, .int (zI (i : Int))), (2, .int (zI (x : Int))), (3, .int (zI (w : Int))), (4, .ref (ob E (34 + 4 + 2 * i))), (5, .int (zI (S.tr i x w : Int))), (6, .int (zI ((nwS U S i x w r0 v).2))), (7, .int (zI (v : Int)))]) (fun v => []) (fun j hI ih => ?_) (0) (by omega)
  have hnb9 := nwS_b hU hS hi hx hw hg hrk j hI
  have hrj := nwW_R (U := U) (S := S) (i := i) (x := x) (w := w) hR j
  have hr1 := hnb9.1.1
  have hr2 := hnb9.1.2
  refine zv_iload C 7 dX10_nearerWheel_26 rfl ?_
  refine zv_aload_n C 0 dX10_nearerWheel_28 rfl rfl ?_
  refine zG9_2 C (by decide : kd 0 = _) kX10_26 dX10_nearerWheel_29 ?_
  refine zG6_1 C (by decide : kd 34 = _) kX10_121 dX10_nearerWheel_32 ?_
  refine zv_eqi (y := zI (S.n : Int)) ((nwW_I _ _ _ _ _ _ _ _ _ _ (by omega)).trans hS.1.1) ?_
  refine zv_icmp_geZ (tgt := 125) C (by omega) (by omega) dX10_nearerWheel_35 (by decide) (fun h35 => ?_) (fun h35 => ?_)
  · skip
    refine zv_aload C 4 dX10_nearerWheel_125 rfl ?_
    refine zv_iload_n C 2 dX10_nearerWheel_127 rfl rfl ?_
    refine zv_iload_n C 3 dX10_nearerWheel_128 rfl rfl ?_
    refine zv_iload C 5 dX10_nearerWheel_129 rfl ?_
    refine zv_cvvD (st := []) C (c_X8_putCell hfl E (nwW σ U S i x w r0 j) (34 + 4 + 2 * i) x w (zI (S.tr i x w : Int)) hki (by omega) (by omega)) mX8_putCell kX10_350 hki rfl rfl rfl ⟨rfl, rfl⟩ (show zfit (zrm 0 0) 5 (zrm 5 126) = true from rfl) (Nat.le_of_ble_eq_true rfl) dX10_nearerWheel_131 ⟨Nat.zero_le _, Nat.zero_le _⟩ ?_
    refine zv_iload C 6 dX10_nearerWheel_134 rfl ?_
    exact zv_iret C hr rfl dX10_nearerWheel_136 (by rw [show j = S.n by omega] at hrj ⊢; exact ⟨rfl, ⟨hrj.1, hrj.2⟩, nwW_F _ _ _ _ _ _ _ (hT.2.2.1 x w hx (by omega))⟩)
  · skip
    have hfj := hS.1.2.2.2 j (by omega)
    have hfj8 := hS.2.1 j (by omega)
    have hUj := nwW_U (S := S) (i := i) (x := x) (w := w) (r0 := r0) hU j
    have hSj : zSTp (sI (nwW σ U S i x w r0 j) (34 + 4 + 2 * i + 1) (3 * x + w) (zI (S.f j : Int))) 34 (S.cel i x w (S.f j)) := zSTp_cel hS (by omega) hx hw hg ⟨hfj8, hfj⟩ (by rw [gI_sI, if_pos ⟨rfl, rfl⟩]) (fun a b _ _ z => by rw [gI_sI, if_neg z]; exact nwW_I _ _ _ _ _ _ _ _ _ _ z)
    have hUj2 : zSUp (sI (nwW σ U S i x w r0 j) (34 + 4 + 2 * i + 1) (3 * x + w) (zI (S.f j : Int))) 29 U := zSUp_w hUj (fun a b _ _ => ⟨by rw [gI_sI, if_neg (by omega)], rfl⟩)
    have hdq := qDrift_b hUj2 hSj hi
    have hfc := fCmp_b (qDrift U (S.cel i x w (S.f j)) i).1.natAbs (qDrift U (S.cel i x w (S.f j)) i).2.toNat (nwS U S i x w r0 j).1.1.natAbs (nwS U S i x w r0 j).1.2.toNat
    refine zv_aload C 4 dX10_nearerWheel_38 rfl ?_
    refine zv_iload_n C 2 dX10_nearerWheel_40 rfl rfl ?_
    refine zv_iload_n C 3 dX10_nearerWheel_41 rfl rfl ?_
    refine zv_aload_n C 0 dX10_nearerWheel_42 rfl rfl ?_
    refine zG9_2 C (by decide : kd 0 = _) kX10_26 dX10_nearerWheel_43 ?_
    refine zG6_0 C (by decide : kd 34 = _) kX10_178 dX10_nearerWheel_46 ?_
    refine zv_iload C 7 dX10_nearerWheel_49 rfl ?_
    refine zv_iald (j := j) C (by decide : kd 35 = _) (zI_ix rfl) (Nat.lt_of_lt_of_eq (show j < 16 by omega) (by decide)) dX10_nearerWheel_51 ?_
    refine zv_eqi (y := (zI (S.f j : Int))) ((nwW_I _ _ _ _ _ _ _ _ _ _ (by omega)).trans (hS.1.2.2.1 j (by omega))) ?_
    refine zv_cvvD (st := []) C (c_X8_putCell hfl E (nwW σ U S i x w r0 j) (34 + 4 + 2 * i) x w (zI (S.f j : Int)) hki (by omega) (by omega)) mX8_putCell kX10_350 hki rfl rfl rfl ⟨rfl, rfl⟩ (show zfit (zrm 0 0) 5 (zrm 5 126) = true from rfl) (Nat.le_of_ble_eq_true rfl) dX10_nearerWheel_52 ⟨Nat.zero_le _, Nat.zero_le _⟩ ?_
    refine zv_aload_n C 0 dX10_nearerWheel_55 rfl rfl ?_
    refine zv_iload_n C 1 dX10_nearerWheel_56 rfl rfl ?_
    refine zv_cvrD (st := []) C (c_X10_driftOf hfl E (sI (nwW σ U S i x w r0 j) (34 + 4 + 2 * i + 1) (3 * x + w) (zI (S.f j : Int))) U (S.cel i x w (S.f j)) i hUj2 hSj hi) mX10_driftOf kX10_210 (by decide : kd 0 = 9) rfl rfl rfl ⟨rfl, rfl⟩ (show zfit (zrm 4 105) 2 (zrm 5 126) = true from rfl) (Nat.le_of_ble_eq_true rfl) dX10_nearerWheel_57 ⟨Nat.zero_le _, Nat.zero_le _⟩ ?_
    refine zv_astore (lv' := [(8, .ref (ob E 322)), (0, .ref (ob E 0)), (1, .int (zI (i : Int))), (2, .int (zI (x : Int))), (3, .int (zI (w : Int))), (4, .ref (ob E (34 + 4 + 2 * i))), (5, .int (zI (S.tr i x w : Int))), (6, .int (zI ((nwS U S i x w r0 j).2))), (7, .int (zI (j : Int)))]) C dX10_nearerWheel_60  (by decide) rfl ?_
    refine zv_aload C 0 dX10_nearerWheel_62 rfl ?_
    refine zG3_0 C (by decide : kd 322 = _) kX10_185 dX10_nearerWheel_64 ?_
    refine zv_eql (y := (zL ((qDrift U (S.cel i x w (S.f j)) i).1))) ((rW_R _ _ _ _).1) ?_
    refine zv_cslD (st := []) C (c_J9_abs_067f4 hfl E (rW (sI (nwW σ U S i x w r0 j) (34 + 4 + 2 * i + 1) (3 * x + w) (zI (S.f j : Int))) 322 (qDrift U (S.cel i x w (S.f j)) i).1 (qDrift U (S.cel i x w (S.f j)) i).2) ((qDrift U (S.cel i x w (S.f j)) i).1) (by omega)) mJ9_abs_067f4 kX10_239 rfl ⟨rfl, rfl⟩ (show zfit (zrm 0 0) 2 (zrm 5 126) = true from rfl) (Nat.le_of_ble_eq_true rfl) dX10_nearerWheel_67 ⟨Nat.zero_le _, Nat.zero_le _⟩ ?_
    refine zv_aload C 0 dX10_nearerWheel_70 rfl ?_
    refine zG3_1 C (by decide : kd 322 = _) kX10_189 dX10_nearerWheel_72 ?_
    refine zv_eql (y := (zL ((qDrift U (S.cel i x w (S.f j)) i).2.toNat : Int))) (by rw [show (((qDrift U (S.cel i x w (S.f j)) i).2.toNat : Nat) : Int) = (qDrift U (S.cel i x w (S.f j)) i).2 by omega]; exact (rW_R _ _ _ _).2) ?_
    refine zv_aload_n C 1 dX10_nearerWheel_75 rfl rfl ?_
    refine zG9_9 C (by decide : kd 0 = _) kX10_64 dX10_nearerWheel_76 ?_
    refine zG3_0 C (by decide : kd 323 = _) kX10_185 dX10_nearerWheel_79 ?_
    refine zv_eql (y := (zL ((nwS U S i x w r0 j).1.1))) (by rw [gJ_rW _ _ _ _ _ _ (by omega)]; exact hrj.1) ?_
    refine zv_cslD (st := [.long (zL ((qDrift U (S.cel i x w (S.f j)) i).2.toNat : Int)), .long (zL (((qDrift U (S.cel i x w (S.f j)) i).1).natAbs : Int))]) C (c_J9_abs_067f4 hfl E (rW (sI (nwW σ U S i x w r0 j) (34 + 4 + 2 * i + 1) (3 * x + w) (zI (S.f j : Int))) 322 (qDrift U (S.cel i x w (S.f j)) i).1 (qDrift U (S.cel i x w (S.f j)) i).2) ((nwS U S i x w r0 j).1.1) (by omega)) mJ9_abs_067f4 kX10_239 rfl ⟨rfl, rfl⟩ (show zfit (zrm 0 0) 2 (zrm 5 126) = true from rfl) (Nat.le_of_ble_eq_true rfl) dX10_nearerWheel_82 ⟨Nat.zero_le _, Nat.zero_le _⟩ ?_
    refine zv_aload_n C 1 dX10_nearerWheel_85 rfl rfl ?_
    refine zG9_9 C (by decide : kd 0 = _) kX10_64 dX10_nearerWheel_86 ?_
    refine zG3_1 C (by decide : kd 323 = _) kX10_189 dX10_nearerWheel_89 ?_
    refine zv_eql (y := (zL ((nwS U S i x w r0 j).1.2.toNat : Int))) (by rw [show (((nwS U S i x w r0 j).1.2.toNat : Nat) : Int) = (nwS U S i x w r0 j).1.2 by omega, gJ_rW _ _ _ _ _ _ (by omega)]; exact hrj.2) ?_
    refine zv_csiD (st := []) C (c_X3_order hfl E (rW (sI (nwW σ U S i x w r0 j) (34 + 4 + 2 * i + 1) (3 * x + w) (zI (S.f j : Int))) 322 (qDrift U (S.cel i x w (S.f j)) i).1 (qDrift U (S.cel i x w (S.f j)) i).2) (qDrift U (S.cel i x w (S.f j)) i).1.natAbs (qDrift U (S.cel i x w (S.f j)) i).2.toNat (nwS U S i x w r0 j).1.1.natAbs (nwS U S i x w r0 j).1.2.toNat (by omega) (by omega) (by omega) (by omega)) mX3_order kX10_419 rfl ⟨rfl, rfl⟩ (show zfit (zrm 1 23) 22 (zrm 5 126) = true from rfl) (Nat.le_of_ble_eq_true rfl) dX10_nearerWheel_92 ⟨Nat.zero_le _, Nat.zero_le _⟩ ?_
    refine zv_if_geZ (tgt := 119) C (by omega) dX10_nearerWheel_95 (by decide) (fun h95 => ?_) (fun h95 => ?_)
    · skip
      refine zv_iinc (v := (zI ((j : Int) + 1))) (lv' := [(7, .int (zI ((j : Int) + 1))), (8, .ref (ob E 322)), (0, .ref (ob E 0)), (1, .int (zI (i : Int))), (2, .int (zI (x : Int))), (3, .int (zI (w : Int))), (4, .ref (ob E (34 + 4 + 2 * i))), (5, .int (zI (S.tr i x w : Int))), (6, .int (zI ((nwS U S i x w r0 j).2)))]) C 8 dX10_nearerWheel_119 rfl (zI_add _ _) (by decide) rfl ?_
      refine zv_goto (tgt := 26) C dX10_nearerWheel_122 (by decide) ?_
      have q26_91 : ((j : Int) + 1 : Int) = ((j + 1 : Nat) : Int) := by first | rfl | omega
      have q26_92 : ((nwS U S i x w r0 j).2 : Int) = (nwS U S i x w r0 (j + 1)).2 := by first | rw [nwS, if_pos (by omega)] | rw [nwS, if_neg (by omega)]
      refine zv_sub (lv' := [(0, .ref (ob E 0)), (1, .int (zI (i : Int))), (2, .int (zI (x : Int))), (3, .int (zI (w : Int))), (4, .ref (ob E (34 + 4 + 2 * i))), (5, .int (zI (S.tr i x w : Int))), (6, .int (zI ((nwS U S i x w r0 (j + 1)).2))), (7, .int (zI ((j + 1 : Nat) : Int)))]) [2, 3, 4, 5, 6, 7, 8, 0] (zcons rfl (zcons rfl (zcons rfl (zcons rfl (zcons rfl (zcons rfl (zcons (zqI q26_92) (zcons (zqI q26_91) rfl)))))))) ?_
      refine zv_eqS (τ := (nwW σ U S i x w r0 (j + 1))) (by first | exact (if_pos (by omega)).symm | exact (if_neg (by omega)).symm) ?_
      exact ih (j + 1) (by omega) (by omega)
    · skip
      refine zv_aload_n C 1 dX10_nearerWheel_98 rfl rfl ?_
      refine zG9_9 C (by decide : kd 0 = _) kX10_64 dX10_nearerWheel_99 ?_
      refine zv_aload C 0 dX10_nearerWheel_102 rfl ?_
      refine zv_cvvD (st := []) C (c_X3_copyFrom hfl E (rW (sI (nwW σ U S i x w r0 j) (34 + 4 + 2 * i + 1) (3 * x + w) (zI (S.f j : Int))) 322 (qDrift U (S.cel i x w (S.f j)) i).1 (qDrift U (S.cel i x w (S.f j)) i).2) 323 322 (by decide) (by decide)) mX3_copyFrom kX10_343 (by decide : kd 323 = 3) rfl rfl rfl ⟨rfl, rfl⟩ (show zfit (zrm 0 0) 2 (zrm 5 126) = true from rfl) (Nat.le_of_ble_eq_true rfl) dX10_nearerWheel_104 ⟨Nat.zero_le _, Nat.zero_le _⟩ ?_
      refine zv_eqS (τ := (rW (rW (sI (nwW σ U S i x w r0 j) (34 + 4 + 2 * i + 1) (3 * x + w) (zI (S.f j : Int))) 322 (qDrift U (S.cel i x w (S.f j)) i).1 (qDrift U (S.cel i x w (S.f j)) i).2) 323 (qDrift U (S.cel i x w (S.f j)) i).1 (qDrift U (S.cel i x w (S.f j)) i).2)) (by show sJ (sJ (rW (sI (nwW σ U S i x w r0 j) (34 + 4 + 2 * i + 1) (3 * x + w) (zI (S.f j : Int))) 322 (qDrift U (S.cel i x w (S.f j)) i).1 (qDrift U (S.cel i x w (S.f j)) i).2) 323 0 (gJ (rW (sI (nwW σ U S i x w r0 j) (34 + 4 + 2 * i + 1) (3 * x + w) (zI (S.f j : Int))) 322 (qDrift U (S.cel i x w (S.f j)) i).1 (qDrift U (S.cel i x w (S.f j)) i).2) 322 0)) 323 1 (gJ (rW (sI (nwW σ U S i x w r0 j) (34 + 4 + 2 * i + 1) (3 * x + w) (zI (S.f j : Int))) 322 (qDrift U (S.cel i x w (S.f j)) i).1 (qDrift U (S.cel i x w (S.f j)) i).2) 322 1) = _; rw [(rW_R _ 322 _ _).1, (rW_R _ 322 _ _).2]; rfl) ?_
      refine zv_aload_n C 1 dX10_nearerWheel_107 rfl rfl ?_
      refine zG9_2 C (by decide : kd 0 = _) kX10_26 dX10_nearerWheel_108 ?_
      refine zG6_0 C (by decide : kd 34 = _) kX10_178 dX10_nearerWheel_111 ?_
      refine zv_iload C 8 dX10_nearerWheel_114 rfl ?_
      refine zv_iald (j := j) C (by decide : kd 35 = _) (zI_ix rfl) (Nat.lt_of_lt_of_eq (show j < 16 by omega) (by decide)) dX10_nearerWheel_116 ?_
      refine zv_eqi (y := (zI (S.f j : Int))) (by rw [gI_rW, gI_rW, gI_sI, if_neg (by omega)]; exact (nwW_I _ _ _ _ _ _ _ _ _ _ (by omega)).trans (hS.1.2.2.1 j (by omega))) ?_
      refine zv_istore (lv' := [(6, .int (zI (S.f j : Int))), (8, .ref (ob E 322)), (0, .ref (ob E 0)), (1, .int (zI (i : Int))), (2, .int (zI (x : Int))), (3, .int (zI (w : Int))), (4, .ref (ob E (34 + 4 + 2 * i))), (5, .int (zI (S.tr i x w : Int))), (7, .int (zI (j : Int)))]) C dX10_nearerWheel_117  (by decide) rfl ?_
      refine zv_iinc (v := (zI ((j : Int) + 1))) (lv' := [(7, .int (zI ((j : Int) + 1))), (6, .int (zI (S.f j : Int))), (8, .ref (ob E 322)), (0, .ref (ob E 0)), (1, .int (zI (i : Int))), (2, .int (zI (x : Int))), (3, .int (zI (w : Int))), (4, .ref (ob E (34 + 4 + 2 * i))), (5, .int (zI (S.tr i x w : Int)))]) C 8 dX10_nearerWheel_119 rfl (zI_add _ _) (by decide) rfl ?_
      refine zv_goto (tgt := 26) C dX10_nearerWheel_122 (by decide) ?_
      have q26_111 : ((j : Int) + 1 : Int) = ((j + 1 : Nat) : Int) := by first | rfl | omega
      have q26_112 : ((S.f j : Int) : Int) = (nwS U S i x w r0 (j + 1)).2 := by first | rw [nwS, if_pos (by omega)] | rw [nwS, if_neg (by omega)]
      refine zv_sub (lv' := [(0, .ref (ob E 0)), (1, .int (zI (i : Int))), (2, .int (zI (x : Int))), (3, .int (zI (w : Int))), (4, .ref (ob E (34 + 4 + 2 * i))), (5, .int (zI (S.tr i x w : Int))), (6, .int (zI ((nwS U S i x w r0 (j + 1)).2))), (7, .int (zI ((j + 1 : Nat) : Int)))]) [3, 4, 5, 6, 7, 8, 1, 0] (zcons rfl (zcons rfl (zcons rfl (zcons rfl (zcons rfl (zcons rfl (zcons (zqI q26_112) (zcons (zqI q26_111) rfl)))))))) ?_
      refine zv_eqS (τ := (nwW σ U S i x w r0 (j + 1))) (by first | exact (if_pos (by omega)).symm | exact (if_neg (by omega)).symm) ?_
      exact ih (j + 1) (by omega) (by omega)
