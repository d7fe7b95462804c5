/-! the drive loaded, in the reference -/
def clW (σ : zS) : zS := sI (flI (sI (flI σ 328 26 (zI 0)) 328 1 (zI 2000)) 332 131 (zI 0)) 332 17 (zI 60)
theorem gI_clW (σ : zS) (x j : Nat) : gI (clW σ) x j = if x = 332 ∧ j = 17 then zI 60 else if x = 332 ∧ j < 131 then zI 0 else if x = 328 ∧ j = 1 then zI 2000 else if x = 328 ∧ j < 26 then zI 0 else gI σ x j := rfl
def kpW (σ : zS) : zS := cpR (cpR (cpR (thW σ 0) 328 0 329 0 26) 332 0 333 0 131) 330 0 331 0 64
theorem gI_kpW (σ : zS) (x j : Nat) : gI (kpW σ) x j = if x = 331 ∧ 0 ≤ j ∧ j < 0 + 64 then gI (cpR (cpR (thW σ 0) 328 0 329 0 26) 332 0 333 0 131) 330 (0 + (j - 0)) else if x = 333 ∧ 0 ≤ j ∧ j < 0 + 131 then gI (cpR (thW σ 0) 328 0 329 0 26) 332 (0 + (j - 0)) else if x = 329 ∧ 0 ≤ j ∧ j < 0 + 26 then gI (thW σ 0) 328 (0 + (j - 0)) else if x = 327 ∧ j = 10 then zI ((0 : Nat) : Int) else gI σ x j := rfl
theorem kp_o {σ : zS} {x j : Nat} (h1 : x ≠ 329) (h2 : x ≠ 331) (h3 : x ≠ 333) (h4 : x = 327 → j ≠ 10) : gI (kpW σ) x j = gI σ x j := by
  rw [gI_kpW, if_neg (by omega), if_neg (by omega), if_neg (by omega), if_neg (fun z => h4 z.1 z.2)]
theorem kp_b {σ : zS} {j : Nat} (h : j < 26) : gI (kpW σ) 329 j = gI σ 328 j := by
  rw [gI_kpW, if_neg (by omega), if_neg (by omega), if_pos (by omega)]
  unfold thW
  rw [gI_sI, if_neg (by omega)]
  exact congrArg (gI σ 328) (by omega)
theorem kp_w {σ : zS} {j : Nat} (h : j < 131) : gI (kpW σ) 333 j = gI σ 332 j := by
  rw [gI_kpW, if_neg (by omega), if_pos (by omega), gI_cpR, if_neg (by omega)]
  unfold thW
  rw [gI_sI, if_neg (by omega)]
  exact congrArg (gI σ 332) (by omega)
theorem kp_n {σ : zS} {j : Nat} (h : j < 64) : gI (kpW σ) 331 j = gI σ 330 j := by
  rw [gI_kpW, if_pos (by omega), gI_cpR, if_neg (by omega), gI_cpR, if_neg (by omega)]
  unfold thW
  rw [gI_sI, if_neg (by omega)]
  exact congrArg (gI σ 330) (by omega)
def ldW (σ : zS) : zS := sI (sI (sI (sI (clW (kpW σ)) 327 15 (zI 0)) 327 16 (zI (-1))) 327 17 (zI 0)) 327 21 (zI 0)
theorem ld_o {σ : zS} {x j : Nat} (h1 : x = 327 → j ≠ 10 ∧ (j < 15 ∨ 21 < j)) (h2 : x ≠ 328) (h3 : x ≠ 329) (h4 : x ≠ 331) (h5 : x ≠ 332) (h6 : x ≠ 333) : gI (ldW σ) x j = gI σ x j := by
  unfold ldW
  rw [gI_sI, if_neg (by omega), gI_sI, if_neg (by omega), gI_sI, if_neg (by omega), gI_sI, if_neg (by omega), gI_clW, if_neg (by omega), if_neg (by omega), if_neg (by omega), if_neg (by omega), kp_o h3 h4 h6 (fun z => (h1 z).1)]
theorem ld_k {σ : zS} {x j : Nat} (hx : x = 329 ∨ x = 331 ∨ x = 333) : gI (ldW σ) x j = gI (kpW σ) x j := by
  unfold ldW
  rw [gI_sI, if_neg (by omega), gI_sI, if_neg (by omega), gI_sI, if_neg (by omega), gI_sI, if_neg (by omega), gI_clW, if_neg (by omega), if_neg (by omega), if_neg (by omega), if_neg (by omega)]
theorem ld_b {σ : zS} {j : Nat} (h : j < 26) : gI (ldW σ) 328 j = zI (if j = 1 then 2000 else 0) := by
  unfold ldW
  rw [gI_sI, if_neg (by omega), gI_sI, if_neg (by omega), gI_sI, if_neg (by omega), gI_sI, if_neg (by omega), gI_clW, if_neg (by omega), if_neg (by omega)]
  by_cases q : j = 1
  · rw [if_pos ⟨rfl, q⟩, if_pos q]
  · rw [if_neg (by omega), if_pos (by omega), if_neg q]
theorem ld_w {σ : zS} {j : Nat} (h : j < 131) : gI (ldW σ) 332 j = zI (if j = 17 then 60 else 0) := by
  unfold ldW
  rw [gI_sI, if_neg (by omega), gI_sI, if_neg (by omega), gI_sI, if_neg (by omega), gI_sI, if_neg (by omega), gI_clW]
  by_cases q : j = 17
  · rw [if_pos ⟨rfl, q⟩, if_pos q]
  · rw [if_neg (by omega), if_pos (by omega), if_neg q]
theorem ld_7 (σ : zS) : gI (ldW σ) 327 10 = zI 0 ∧ gI (ldW σ) 327 15 = zI 0 ∧ gI (ldW σ) 327 16 = zI (-1) ∧ gI (ldW σ) 327 17 = zI 0 ∧ gI (ldW σ) 327 21 = zI 0 := by
  unfold ldW
  refine ⟨?_, ?_, ?_, ?_, ?_⟩
  · rw [gI_sI, if_neg (by omega), gI_sI, if_neg (by omega), gI_sI, if_neg (by omega), gI_sI, if_neg (by omega), gI_clW, if_neg (by omega), if_neg (by omega), if_neg (by omega), if_neg (by omega), gI_kpW, if_neg (by omega), if_neg (by omega), if_neg (by omega), if_pos ⟨rfl, rfl⟩]
    rfl
  · rw [gI_sI, if_neg (by omega), gI_sI, if_neg (by omega), gI_sI, if_neg (by omega), gI_sI, if_pos ⟨rfl, rfl⟩]
  · rw [gI_sI, if_neg (by omega), gI_sI, if_neg (by omega), gI_sI, if_pos ⟨rfl, rfl⟩]
  · rw [gI_sI, if_neg (by omega), gI_sI, if_pos ⟨rfl, rfl⟩]
  · rw [gI_sI, if_pos ⟨rfl, rfl⟩]
theorem ld_2 (σ : zS) : (ldW σ).2 = σ.2 := rfl
theorem ld_ro {g : Nat → Int32} (h : ∀ j, j < 131 → g j = zI (if j = 17 then 60 else 0)) : zRo g 8 S00 := by
  refine ⟨h 0 (by omega), fun i hi => absurd hi (Nat.not_lt_zero i), h 17 (by omega), h 18 (by omega), fun j hj => ⟨?_, fun _ => ?_, fun p w hp => absurd hp (Nat.not_lt_zero p)⟩⟩
  · rw [h _ (by omega), if_neg (by omega)]; rfl
  · rw [h _ (by omega), if_neg (by omega)]; rfl
theorem zRo_8 {g : Nat → Int32} {nb : Nat} {S : zST} (h : zRo g 8 S) (hn : nb ≤ 8) : zRo g nb S := ⟨h.1, h.2.1, h.2.2.1, h.2.2.2.1, fun j hj => ⟨(h.2.2.2.2 j hj).1, fun _ => (h.2.2.2.2 j hj).2.1 hj, (h.2.2.2.2 j hj).2.2⟩⟩
theorem ld_in {σ : zS} {ni : Nat} {tx : Nat → Int} (h : zMi σ ni tx) (hb : ∀ i, i < ni → -128 ≤ tx i ∧ tx i ≤ 127) : mIn (ldW σ) tx ni := ⟨(ld_o (by omega) (by decide) (by decide) (by decide) (by decide) (by decide)).trans h.1, h.2.1, fun i hi => (ld_o (by omega) (by decide) (by decide) (by decide) (by decide) (by decide)).trans (h.2.2 i hi), hb⟩
theorem ld_ps {σ τ : zS} {ni : Nat} {tx : Nat → Int} (h : mIn (ldW σ) tx ni) (ht : mTk τ tx ni 0) (e : mA (ldW σ) τ) : mPS τ tx ni P00 := by
  obtain ⟨h10, h15, h16, h17, h21⟩ := ld_7 σ
  refine ⟨mIn_A h e, ht, Nat.zero_le _, mDr_A ⟨⟨ld_b (by omega), ld_b (by omega), fun j hj => absurd hj (Nat.not_lt_zero j)⟩, fun j hj => absurd hj (Nat.not_lt_zero j), ld_ro (fun j hj => ld_w hj), h21, ⟨by decide, by decide, fun i hi => absurd hi (Nat.not_lt_zero i), fun j hj => ⟨Nat.zero_le _, fun p w hp => absurd hp (Nat.not_lt_zero p)⟩, fun j hj => absurd hj (Nat.not_lt_zero j)⟩⟩ e, (e.1 327 15 (by omega)).trans h15, (e.1 327 16 (by omega)).trans h16⟩
/-- what lies behind the reading -/
def ldF (σ υ : zS) (c : Nat) (v : Int) : zS := sI (sI (sI υ 327 12 (zI 0)) 327 13 (zI (c : Int))) 327 14 (zI v)
def gdW (σ : zS) : zS := sI (sI σ 327 9 (zI 0)) 327 8 (zI 0)
def rsW (σ : zS) : zS := cpR (cpR (cpR σ 329 0 328 0 26) 333 0 332 0 131) 331 0 330 0 64
theorem gI_rsW (σ : zS) (x j : Nat) : gI (rsW σ) x j = if x = 330 ∧ 0 ≤ j ∧ j < 0 + 64 then gI (cpR (cpR σ 329 0 328 0 26) 333 0 332 0 131) 331 (0 + (j - 0)) else if x = 332 ∧ 0 ≤ j ∧ j < 0 + 131 then gI (cpR σ 329 0 328 0 26) 333 (0 + (j - 0)) else if x = 328 ∧ 0 ≤ j ∧ j < 0 + 26 then gI σ 329 (0 + (j - 0)) else gI σ x j := rfl
theorem gI_ldF (σ υ : zS) (c : Nat) (v : Int) (x j : Nat) : gI (ldF σ υ c v) x j = if x = 327 ∧ j = 14 then zI v else if x = 327 ∧ j = 13 then zI (c : Int) else if x = 327 ∧ j = 12 then zI 0 else gI υ x j := rfl
theorem ld_good {σ υ : zS} {D : zDv} {P : zPs} (h : zMP σ D) (e : mF (ldW σ) υ) (hP : mPS υ D.tx D.ni P) : mH σ (gdW (ldF σ υ 0 (-1))) (zDv.mk 0 D.tx 0 (-1) P.U P.S [] none D.ou) := by
  obtain ⟨h1, h2, h3, h4, h5, h6, h7, h8⟩ := h
  obtain ⟨-, -, -, ⟨p1, p2, p3, p4, p5⟩, -, -⟩ := hP
  have g : ∀ x j, ¬ (x = 327 ∧ (j = 8 ∨ j = 9 ∨ j = 12 ∨ j = 13 ∨ j = 14)) → gI (gdW (ldF σ υ 0 (-1))) x j = gI υ x j := fun x j q => by
    unfold gdW
    rw [gI_sI, if_neg (by omega), gI_sI, if_neg (by omega), gI_ldF, if_neg (by omega), if_neg (by omega), if_neg (by omega)]
  have gg : ∀ x, x ≠ 327 → gI (gdW (ldF σ υ 0 (-1))) x = gI υ x := fun x q => funext fun j => g x j (by omega)
  have o : ∀ x j, x ≠ 327 → x ≠ 328 → x ≠ 329 → x ≠ 330 → x ≠ 331 → x ≠ 332 → x ≠ 333 → gI (gdW (ldF σ υ 0 (-1))) x j = gI σ x j := fun x j a b c d f k l => by
    rw [g x j (by omega), e.1 x j b d k (fun z => absurd z a), ld_o (fun z => absurd z a) b c f k l]
  have o7 : ∀ j, j ≠ 8 → j ≠ 9 → j ≠ 12 → j ≠ 13 → j ≠ 14 → j ≠ 10 → (j < 15 ∨ 21 < j) → gI (gdW (ldF σ υ 0 (-1))) 327 j = gI σ 327 j := fun j a b c d f k l => by
    rw [g 327 j (by omega), e.1 327 j (by decide) (by decide) (by decide) (fun _ => l), ld_o (fun _ => ⟨k, l⟩) (by decide) (by decide) (by decide) (by decide) (by decide)]
  refine ⟨⟨⟨?_, by show 0 ≤ 900; omega, fun i hi => absurd hi (Nat.not_lt_zero i)⟩, ⟨?_, ?_⟩, ?_, ?_, ⟨?_, mBd_k p5⟩, ⟨?_, Nat.zero_le _, fun k S' hS => by cases hS⟩, ⟨?_, fun S' hS => by cases hS⟩, ⟨?_, h8.2.1, fun i hi => ?_⟩⟩, ?_, ⟨fun x j a => ?_, fun x j a => ?_, fun x j => ?_⟩⟩
  · unfold gdW; rw [gI_sI, if_neg (by omega), gI_sI, if_neg (by omega), gI_ldF, if_neg (by omega), if_neg (by omega), if_pos ⟨rfl, rfl⟩]; rfl
  · unfold gdW; rw [gI_sI, if_neg (by omega), gI_sI, if_neg (by omega), gI_ldF, if_neg (by omega), if_pos ⟨rfl, rfl⟩]; rfl
  · unfold gdW; rw [gI_sI, if_neg (by omega), gI_sI, if_neg (by omega), gI_ldF, if_pos ⟨rfl, rfl⟩]; rfl
  · rw [gg 328 (by decide)]; exact p1
  · rw [gg 330 (by decide)]; exact p2
  · rw [gg 332 (by decide)]; exact zRo_8 p3 p5.1
  · unfold gdW; rw [gI_sI, if_pos ⟨rfl, rfl⟩]; rfl
  · unfold gdW; rw [gI_sI, if_neg (by omega), gI_sI, if_pos ⟨rfl, rfl⟩]; rfl
  · exact (o7 29 (by decide) (by decide) (by decide) (by decide) (by decide) (by decide) (by decide)).trans h8.1
  · rw [show gI (gdW (ldF σ υ 0 (-1))) 338 = gI σ 338 from funext fun j => o 338 j (by decide) (by decide) (by decide) (by decide) (by decide) (by decide) (by decide)]; exact h8.2.2 i hi
  · rw [g 327 10 (by omega), e.1 327 10 (by decide) (by decide) (by decide) (fun _ => by omega)]; exact (ld_7 σ).1
  · exact o x j (by omega) (by omega) (by omega) (by omega) (by omega) (by omega) (by omega)
  · show gJ υ x j = _; unfold gJ; rw [e.2]; rfl
  · show gD υ x j = _; unfold gD; rw [e.2]; rfl
theorem ld_bad {σ υ : zS} {D : zDv} {c : Nat} {v : Int} (h : zMP σ D) (e : mF (ldW σ) υ) (hnb : D.U.nb ≤ 8) : mH σ (rsW (ldF σ υ c v)) (zDv.mk 0 D.tx c v D.U D.S D.hh D.kp D.ou) := by
  obtain ⟨h1, h2, h3, h4, h5, h6, h7, h8⟩ := h
  have g : ∀ x j, ¬ (x = 327 ∧ (j = 12 ∨ j = 13 ∨ j = 14)) → gI (ldF σ υ c v) x j = gI υ x j := fun x j q => by
    rw [gI_ldF, if_neg (by omega), if_neg (by omega), if_neg (by omega)]
  have r : ∀ x j, x ≠ 328 → x ≠ 330 → x ≠ 332 → gI (rsW (ldF σ υ c v)) x j = gI (ldF σ υ c v) x j := fun x j a b d => by
    rw [gI_rsW, if_neg (by omega), if_neg (by omega), if_neg (by omega)]
  have o : ∀ x j, x ≠ 327 → x ≠ 328 → x ≠ 329 → x ≠ 330 → x ≠ 331 → x ≠ 332 → x ≠ 333 → gI (rsW (ldF σ υ c v)) x j = gI σ x j := fun x j a b d f k l m => by
    rw [r x j b f l, g x j (by omega), e.1 x j b f l (fun z => absurd z a), ld_o (fun z => absurd z a) b d k l m]
  have o7 : ∀ j, j ≠ 12 → j ≠ 13 → j ≠ 14 → j ≠ 10 → (j < 15 ∨ 21 < j) → gI (rsW (ldF σ υ c v)) 327 j = gI σ 327 j := fun j a b d k l => by
    rw [r 327 j (by decide) (by decide) (by decide), g 327 j (by omega), e.1 327 j (by decide) (by decide) (by decide) (fun _ => l), ld_o (fun _ => ⟨k, l⟩) (by decide) (by decide) (by decide) (by decide) (by decide)]
  have rb : ∀ j, j < 26 → gI (rsW (ldF σ υ c v)) 328 j = gI σ 328 j := fun j hj => by
    rw [gI_rsW, if_neg (by omega), if_neg (by omega), if_pos (by omega), g _ _ (by omega), e.1 _ _ (by decide) (by decide) (by decide) (fun z => by cases z), ld_k (Or.inl rfl), kp_b (by omega)]
    exact congrArg (gI σ 328) (by omega)
  have rw9 : ∀ j, j < 131 → gI (rsW (ldF σ υ c v)) 332 j = gI σ 332 j := fun j hj => by
    rw [gI_rsW, if_neg (by omega), if_pos (by omega), gI_cpR, if_neg (by omega), g _ _ (by omega), e.1 _ _ (by decide) (by decide) (by decide) (fun z => by cases z), ld_k (Or.inr (Or.inr rfl)), kp_w (by omega)]
    exact congrArg (gI σ 332) (by omega)
  have rn : ∀ j, j < 64 → gI (rsW (ldF σ υ c v)) 330 j = gI σ 330 j := fun j hj => by
    rw [gI_rsW, if_pos (by omega), gI_cpR, if_neg (by omega), gI_cpR, if_neg (by omega), g _ _ (by omega), e.1 _ _ (by decide) (by decide) (by decide) (fun z => by cases z), ld_k (Or.inr (Or.inl rfl)), kp_n (by omega)]
    exact congrArg (gI σ 330) (by omega)
  refine ⟨⟨⟨?_, by show 0 ≤ 900; omega, fun i hi => absurd hi (Nat.not_lt_zero i)⟩, ⟨?_, ?_⟩, ⟨(rb 0 (by omega)).trans h3.1, (rb 1 (by omega)).trans h3.2.1, fun j hj => ?_⟩, fun j hj => ?_, ⟨zRo_cg h5.1 h5.2 rw9, h5.2⟩, ⟨(o7 8 (by decide) (by decide) (by decide) (by decide) (by decide)).trans h6.1, h6.2.1, fun k S' hS => ?_⟩, ⟨(o7 9 (by decide) (by decide) (by decide) (by decide) (by decide)).trans h7.1, fun S' hS => ?_⟩, ⟨(o7 29 (by decide) (by decide) (by decide) (by decide) (by decide)).trans h8.1, h8.2.1, fun i hi => ?_⟩⟩, ?_, ⟨fun x j a => ?_, fun x j a => ?_, fun x j => ?_⟩⟩
  · rw [r 327 12 (by decide) (by decide) (by decide), gI_ldF, if_neg (by omega), if_neg (by omega), if_pos ⟨rfl, rfl⟩]; rfl
  · rw [r 327 13 (by decide) (by decide) (by decide), gI_ldF, if_neg (by omega), if_pos ⟨rfl, rfl⟩]; rfl
  · rw [r 327 14 (by decide) (by decide) (by decide), gI_ldF, if_pos ⟨rfl, rfl⟩]; rfl
  · have hj2 : j < D.U.nb := hj
    obtain ⟨c1, c2, c3⟩ := h3.2.2 j hj
    exact ⟨(rb _ (by omega)).trans c1, (rb _ (by omega)).trans c2, (rb _ (by omega)).trans c3⟩
  · have hj2 : j < D.U.nb := hj
    obtain ⟨tx9, b9, m9, g1, g2, g4, g5⟩ := h4 j hj
    exact ⟨tx9, b9, m9, g1, g2, g4, fun i hi => (rn _ (by omega)).trans (g5 i hi)⟩
  · rw [show gI (rsW (ldF σ υ c v)) 335 = gI σ 335 from funext fun j => o 335 j (by decide) (by decide) (by decide) (by decide) (by decide) (by decide) (by decide)]; exact h6.2.2 k S' hS
  · rw [show gI (rsW (ldF σ υ c v)) 334 = gI σ 334 from funext fun j => o 334 j (by decide) (by decide) (by decide) (by decide) (by decide) (by decide) (by decide)]; exact h7.2 S' hS
  · rw [show gI (rsW (ldF σ υ c v)) 338 = gI σ 338 from funext fun j => o 338 j (by decide) (by decide) (by decide) (by decide) (by decide) (by decide) (by decide)]; exact h8.2.2 i hi
  · rw [r 327 10 (by decide) (by decide) (by decide), g 327 10 (by omega), e.1 327 10 (by decide) (by decide) (by decide) (fun _ => by omega)]; exact (ld_7 σ).1
  · exact o x j (by omega) (by omega) (by omega) (by omega) (by omega) (by omega) (by omega)
  · show gJ υ x j = _; unfold gJ; rw [e.2]; rfl
  · show gD υ x j = _; unfold gD; rw [e.2]; rfl
set_option maxRecDepth 20000 in
theorem c_X11_clear {l : Launch} (hfl : l.stackTraces = false) (E : zE) (σ : zS)   : zRv l E yX11_clear cX11_clear 2 (zrm 0 0) [.ref (ob E 327)] σ (fun τ => τ = clW σ) := by
  refine Met.ofW (cc := cX11_clear) (maxL := 2) (ret := none) (by decide +kernel) rfl ?_
  intro p e s m args below meth c s₁ B hml hv
  obtain ⟨rfl, hd⟩ := hv
  have C := zX_of (own := RX11) hfl B hml rfl hd rfl
  have hr := B.returns
  refine zV_go hd (Nat.le_of_ble_eq_true rfl) (lv := [(0, .ref (ob E 327))]) rfl ?_
  refine zv_iconst (v := zI 0) C dX11_clear_0 rfl ?_
  refine zv_istore_n (lv' := [(1, .int (zI 0)), (0, .ref (ob E 327))]) C dX11_clear_1 rfl (by decide) rfl ?_
  have q2_2 : (0 : Int) = (0 : Int) := by first | rfl | omega
  refine zv_sub (lv' := [(0, .ref (ob E 327)), (1, .int (zI (0 : Int)))]) [1, 0] (zcons rfl (zcons (zqI q2_2) rfl)) ?_
  refine zv_eqS (τ := (flI σ 328 0 (zI 0))) ((flI_0 _ _ _).symm) ?_
  refine zv_while (α := Nat) (fun v => 26 - v) (fun v => v ≤ 26) (fun v => (flI σ 328 v (zI 0))) (fun v => [(0, .ref (ob E 327)), (1, .int (zI (v : Int)))]) (fun v => []) (fun j hI ih => ?_) (0) (by omega)
  refine zv_iload_n C 1 dX11_clear_2 rfl rfl ?_
  refine zv_bipush (v := zI 26) C dX11_clear_3 (by decide) ?_
  refine zv_icmp_geZ (tgt := 21) C (by omega) (by omega) dX11_clear_5 (by decide) (fun h5 => ?_) (fun h5 => ?_)
  · skip
    refine zv_eqS (τ := (flI σ 328 26 (zI 0))) (by rw [show j = 26 by omega]) ?_
    refine zv_aload_n C 0 dX11_clear_21 rfl rfl ?_
    refine zG10_0 C (by decide : kd 327 = _) kX11_7 dX11_clear_22 ?_
    refine zv_iconst (v := zI 1) C dX11_clear_25 rfl ?_
    refine zv_sipush (v := zI 2000) C dX11_clear_26 (by decide) ?_
    refine zv_iast (j := 1) C (by decide : kd 328 = _) (zI_ix (by omega)) (by decide) dX11_clear_29 ?_
    refine zv_iconst (v := zI 0) C dX11_clear_30 rfl ?_
    refine zv_istore_n (lv' := [(1, .int (zI 0)), (0, .ref (ob E 327))]) C dX11_clear_31 rfl (by decide) rfl ?_
    have q32_18 : (0 : Int) = (0 : Int) := by first | rfl | omega
    refine zv_sub (lv' := [(0, .ref (ob E 327)), (1, .int (zI (0 : Int)))]) [1, 0] (zcons rfl (zcons (zqI q32_18) rfl)) ?_
    refine zv_eqS (τ := (flI (sI (flI σ 328 26 (zI 0)) 328 1 (zI 2000)) 332 0 (zI 0))) ((flI_0 _ _ _).symm) ?_
    refine zv_while (α := Nat) (fun v => 131 - v) (fun v => v ≤ 131) (fun v => (flI (sI (flI σ 328 26 (zI 0)) 328 1 (zI 2000)) 332 v (zI 0))) (fun v => [(0, .ref (ob E 327)), (1, .int (zI (v : Int)))]) (fun v => []) (fun i hI ih32 => ?_) (0) (by omega)
    refine zv_iload_n C 1 dX11_clear_32 rfl rfl ?_
    refine zv_sipush (v := zI 131) C dX11_clear_33 (by decide) ?_
    refine zv_icmp_geZ (tgt := 52) C (by omega) (by omega) dX11_clear_36 (by decide) (fun h36 => ?_) (fun h36 => ?_)
    · skip
      refine zv_eqS (τ := (flI (sI (flI σ 328 26 (zI 0)) 328 1 (zI 2000)) 332 131 (zI 0))) (by rw [show i = 131 by omega]) ?_
      refine zv_aload_n C 0 dX11_clear_52 rfl rfl ?_
      refine zG10_4 C (by decide : kd 327 = _) kX11_22 dX11_clear_53 ?_
      refine zv_bipush (v := zI 17) C dX11_clear_56 (by decide) ?_
      refine zv_bipush (v := zI 60) C dX11_clear_58 (by decide) ?_
      refine zv_iast (j := 17) C (by decide : kd 332 = _) (zI_ix (by omega)) (by decide) dX11_clear_60 ?_
      exact zv_vret C hr dX11_clear_61 rfl
    · skip
      refine zv_aload_n C 0 dX11_clear_39 rfl rfl ?_
      refine zG10_4 C (by decide : kd 327 = _) kX11_22 dX11_clear_40 ?_
      refine zv_iload_n C 1 dX11_clear_43 rfl rfl ?_
      refine zv_iconst (v := zI 0) C dX11_clear_44 rfl ?_
      refine zv_iast (j := i) C (by decide : kd 332 = _) (zI_ix rfl) (Nat.lt_of_lt_of_eq (show i < 131 by omega) (by decide)) dX11_clear_45 ?_
      refine zv_iinc (v := (zI ((i : Int) + 1))) (lv' := [(1, .int (zI ((i : Int) + 1))), (0, .ref (ob E 327))]) C 1 dX11_clear_46 rfl (zI_add _ _) (by decide) rfl ?_
      refine zv_goto (tgt := 32) C dX11_clear_49 (by decide) ?_
      have q32_41 : ((i : Int) + 1 : Int) = ((i + 1 : Nat) : Int) := by first | rfl | omega
      refine zv_sub (lv' := [(0, .ref (ob E 327)), (1, .int (zI ((i + 1 : Nat) : Int)))]) [1, 0] (zcons rfl (zcons (zqI q32_41) rfl)) ?_
      refine zv_eqS (τ := (flI (sI (flI σ 328 26 (zI 0)) 328 1 (zI 2000)) 332 (i + 1) (zI 0))) (flI_s _ _ _ _) ?_
      exact ih32 (i + 1) (by omega) (by omega)
  · skip
    refine zv_aload_n C 0 dX11_clear_8 rfl rfl ?_
    refine zG10_0 C (by decide : kd 327 = _) kX11_7 dX11_clear_9 ?_
    refine zv_iload_n C 1 dX11_clear_12 rfl rfl ?_
    refine zv_iconst (v := zI 0) C dX11_clear_13 rfl ?_
    refine zv_iast (j := j) C (by decide : kd 328 = _) (zI_ix rfl) (Nat.lt_of_lt_of_eq (show j < 26 by omega) (by decide)) dX11_clear_14 ?_
    refine zv_iinc (v := (zI ((j : Int) + 1))) (lv' := [(1, .int (zI ((j : Int) + 1))), (0, .ref (ob E 327))]) C 1 dX11_clear_15 rfl (zI_add _ _) (by decide) rfl ?_
    refine zv_goto (tgt := 2) C dX11_clear_18 (by decide) ?_
    have q2_53 : ((j : Int) + 1 : Int) = ((j + 1 : Nat) : Int) := by first | rfl | omega
    refine zv_sub (lv' := [(0, .ref (ob E 327)), (1, .int (zI ((j + 1 : Nat) : Int)))]) [1, 0] (zcons rfl (zcons (zqI q2_53) rfl)) ?_
    refine zv_eqS (τ := (flI σ 328 (j + 1) (zI 0))) (flI_s _ _ _ _) ?_
    exact ih (j + 1) (by omega) (by omega)
set_option maxRecDepth 20000 in
theorem c_X11_loadDrive {l : Launch} (hfl : l.stackTraces = false) (E : zE) (σ : zS) (σc : zS) (ni : Nat) (tx : Nat → Int) (ec : Nat) (eo : Int) (U : zSU) (S : zST) (hh : List zST) (kp : Option zST) (ou : List Nat) (h : zMP σ (zDv.mk ni tx ec eo U S hh kp ou)) (hU : zSUp σc 29 U) (hS : zSTp σc 34 S) (hX : ∀ i, i < ni → -128 ≤ tx i ∧ tx i ≤ 127) (hok : (pText tx ni).1 = 0) : zRi l E yX11_loadDrive cX11_loadDrive 2 .int (zrm 12 300) [.ref (ob E 327)] σ (fun r τ => r = zI ((pText tx ni).2.U.nb : Int) ∧ mH σ τ (zDv.mk 0 tx 0 (-1) (pText tx ni).2.U (pText tx ni).2.S [] none ou)) := by
  refine Met.ofW (cc := cX11_loadDrive) (maxL := 2) (ret := (some .int)) (by decide +kernel) rfl ?_
  intro p e s m args below meth c s₁ B hml hv
  obtain ⟨rfl, hd⟩ := hv
  have C := zX_of (own := RX11) hfl B hml rfl hd rfl
  have hr := B.returns
  refine zV_go hd (Nat.le_of_ble_eq_true rfl) (lv := [(0, .ref (ob E 327))]) rfl ?_
  have hMi := ld_in h.1 hX
  refine zv_aload_n C 0 dX11_loadDrive_0 rfl rfl ?_
  refine zv_iconst (v := zI 0) C dX11_loadDrive_1 rfl ?_
  refine zP10_10 C (by decide : kd 327 = _) kX11_50 dX11_loadDrive_2 ?_
  refine zv_eqS (τ := (thW σ 0)) (rfl) ?_
  refine zv_aload_n C 0 dX11_loadDrive_5 rfl rfl ?_
  refine zG10_0 C (by decide : kd 327 = _) kX11_7 dX11_loadDrive_6 ?_
  refine zv_iconst (v := zI 0) C dX11_loadDrive_9 rfl ?_
  refine zv_aload_n C 0 dX11_loadDrive_10 rfl rfl ?_
  refine zG10_1 C (by decide : kd 327 = _) kX11_13 dX11_loadDrive_11 ?_
  refine zv_iconst (v := zI 0) C dX11_loadDrive_14 rfl ?_
  refine zv_bipush (v := zI 26) C dX11_loadDrive_15 (by decide) ?_
  refine zv_csvD (st := []) C (c_X11_copies hfl E (thW σ 0) 328 329 0 (0) 26 (by decide) (by decide) (by decide) (by decide) (Or.inl (by decide)) (by omega) (by omega) (by omega)) mX11_copies kX11_60 rfl ⟨rfl, rfl⟩ (show zfit (zrm 0 0) 6 (zrm 12 300) = true from rfl) (Nat.le_of_ble_eq_true rfl) dX11_loadDrive_17 ⟨Nat.zero_le _, Nat.zero_le _⟩ ?_
  refine zv_aload_n C 0 dX11_loadDrive_20 rfl rfl ?_
  refine zG10_4 C (by decide : kd 327 = _) kX11_22 dX11_loadDrive_21 ?_
  refine zv_iconst (v := zI 0) C dX11_loadDrive_24 rfl ?_
  refine zv_aload_n C 0 dX11_loadDrive_25 rfl rfl ?_
  refine zG10_5 C (by decide : kd 327 = _) kX11_25 dX11_loadDrive_26 ?_
  refine zv_iconst (v := zI 0) C dX11_loadDrive_29 rfl ?_
  refine zv_sipush (v := zI 131) C dX11_loadDrive_30 (by decide) ?_
  refine zv_csvD (st := []) C (c_X11_copies hfl E (cpR (thW σ 0) 328 0 329 (0) 26) 332 333 0 (0) 131 (by decide) (by decide) (by decide) (by decide) (Or.inl (by decide)) (by omega) (by omega) (by omega)) mX11_copies kX11_60 rfl ⟨rfl, rfl⟩ (show zfit (zrm 0 0) 6 (zrm 12 300) = true from rfl) (Nat.le_of_ble_eq_true rfl) dX11_loadDrive_33 ⟨Nat.zero_le _, Nat.zero_le _⟩ ?_
  refine zv_aload_n C 0 dX11_loadDrive_36 rfl rfl ?_
  refine zG10_2 C (by decide : kd 327 = _) kX11_16 dX11_loadDrive_37 ?_
  refine zv_iconst (v := zI 0) C dX11_loadDrive_40 rfl ?_
  refine zv_aload_n C 0 dX11_loadDrive_41 rfl rfl ?_
  refine zG10_3 C (by decide : kd 327 = _) kX11_19 dX11_loadDrive_42 ?_
  refine zv_iconst (v := zI 0) C dX11_loadDrive_45 rfl ?_
  refine zv_bipush (v := zI 64) C dX11_loadDrive_46 (by decide) ?_
  refine zv_csvD (st := []) C (c_X11_copies hfl E (cpR (cpR (thW σ 0) 328 0 329 (0) 26) 332 0 333 (0) 131) 330 331 0 (0) 64 (by decide) (by decide) (by decide) (by decide) (Or.inl (by decide)) (by omega) (by omega) (by omega)) mX11_copies kX11_60 rfl ⟨rfl, rfl⟩ (show zfit (zrm 0 0) 6 (zrm 12 300) = true from rfl) (Nat.le_of_ble_eq_true rfl) dX11_loadDrive_48 ⟨Nat.zero_le _, Nat.zero_le _⟩ ?_
  refine zv_aload_n C 0 dX11_loadDrive_51 rfl rfl ?_
  refine zv_cvvD (st := []) C (c_X11_clear hfl E (cpR (cpR (cpR (thW σ 0) 328 0 329 (0) 26) 332 0 333 (0) 131) 330 0 331 (0) 64)) mX11_clear kX11_47 (by decide : kd 327 = 10) rfl rfl rfl ⟨rfl, rfl⟩ (show zfit (zrm 0 0) 2 (zrm 12 300) = true from rfl) (Nat.le_of_ble_eq_true rfl) dX11_loadDrive_52 ⟨Nat.zero_le _, Nat.zero_le _⟩ ?_
  refine zv_aload_n C 0 dX11_loadDrive_55 rfl rfl ?_
  refine zv_iconst (v := zI 0) C dX11_loadDrive_56 rfl ?_
  refine zP10_15 C (by decide : kd 327 = _) kX11_99 dX11_loadDrive_57 ?_
  refine zv_aload_n C 0 dX11_loadDrive_60 rfl rfl ?_
  refine zv_iconst (v := zI (-1)) C dX11_loadDrive_61 rfl ?_
  refine zP10_16 C (by decide : kd 327 = _) kX11_102 dX11_loadDrive_62 ?_
  refine zv_aload_n C 0 dX11_loadDrive_65 rfl rfl ?_
  refine zv_iconst (v := zI 0) C dX11_loadDrive_66 rfl ?_
  refine zP10_17 C (by decide : kd 327 = _) kX11_75 dX11_loadDrive_67 ?_
  refine zv_aload_n C 0 dX11_loadDrive_70 rfl rfl ?_
  refine zv_iconst (v := zI 0) C dX11_loadDrive_71 rfl ?_
  refine zP10_21 C (by decide : kd 327 = _) kX11_158 dX11_loadDrive_72 ?_
  refine zv_eqS (τ := ldW σ) rfl ?_
  refine zv_aload_n C 0 dX11_loadDrive_75 rfl rfl ?_
  refine zv_cvv (st := []) C (c_X11_advanceToken hfl E (ldW σ) tx ni 0 hMi (ld_7 σ).2.2.2.1 (Nat.zero_le _)) mX11_advanceToken kX11_119 (by decide : kd 327 = 10) rfl rfl rfl ⟨rfl, rfl⟩ (show zfit (zrm 1 25) 2 (zrm 12 300) = true from rfl) (Nat.le_of_ble_eq_true rfl) dX11_loadDrive_76 ⟨Nat.zero_le _, Nat.zero_le _⟩ (fun τ1 hp76 => ?_)
  have hP0 := ld_ps hMi hp76.1 hp76.2
  refine zv_aload_n C 0 dX11_loadDrive_79 rfl rfl ?_
  refine zv_cvi (st := []) C (c_X11_readDrive hfl E τ1 tx ni hP0) mX11_readDrive kX11_229 (by decide : kd 327 = 10) rfl rfl rfl ⟨rfl, rfl⟩ (show zfit (zrm 10 213) 1 (zrm 12 300) = true from rfl) (Nat.le_of_ble_eq_true rfl) dX11_loadDrive_80 ⟨Nat.zero_le _, Nat.zero_le _⟩ (fun r80 τ2 hp80 => ?_)
  refine zv_eqi (y := zB ((pText tx ni).1 = 0)) hp80.1 ?_
  have hF2 : mF (ldW σ) τ2 := mF_t (mF_A hp76.2) hp80.2.1
  have hP2 := hp80.2.2.1 hok
  have he15 : gI τ2 327 15 = zI 0 := hP2.2.2.2.2.1
  have he16 : gI τ2 327 16 = zI (-1) := hP2.2.2.2.2.2
  refine zv_istore_n (lv' := [(1, .int (zB ((pText tx ni).1 = 0))), (0, .ref (ob E 327))]) C dX11_loadDrive_83 rfl (by decide) rfl ?_
  refine zv_aload_n C 1 dX11_loadDrive_84 rfl rfl ?_
  refine zv_iconst (v := zI 0) C dX11_loadDrive_85 rfl ?_
  refine zP10_12 C (by decide : kd 327 = _) kX11_64 dX11_loadDrive_86 ?_
  refine zv_aload_n C 1 dX11_loadDrive_89 rfl rfl ?_
  refine zv_aload_n C 1 dX11_loadDrive_90 rfl rfl ?_
  refine zG10_15 C (by decide : kd 327 = _) kX11_99 dX11_loadDrive_91 ?_
  refine zv_eqi (y := (zI 0)) (he15) ?_
  refine zP10_13 C (by decide : kd 327 = _) kX11_232 dX11_loadDrive_94 ?_
  refine zv_aload_n C 1 dX11_loadDrive_97 rfl rfl ?_
  refine zv_aload_n C 1 dX11_loadDrive_98 rfl rfl ?_
  refine zG10_16 C (by decide : kd 327 = _) kX11_102 dX11_loadDrive_99 ?_
  refine zv_eqi (y := (zI (-1))) (he16) ?_
  refine zP10_14 C (by decide : kd 327 = _) kX11_37 dX11_loadDrive_102 ?_
  refine zv_iload_n C 0 dX11_loadDrive_105 rfl rfl ?_
  refine zv_if_neB (tgt := 157) C dX11_loadDrive_106 (by decide) (fun h106 => ?_) (fun h106 => ?_)
  · skip
    have hfin := ld_good h hF2 hP2
    refine zv_aload_n C 1 dX11_loadDrive_157 rfl rfl ?_
    refine zv_iconst (v := zI 0) C dX11_loadDrive_158 rfl ?_
    refine zP10_9 C (by decide : kd 327 = _) (Or.inl rfl) kX11_235 dX11_loadDrive_159 ?_
    refine zv_aload_n C 1 dX11_loadDrive_162 rfl rfl ?_
    refine zv_iconst (v := zI 0) C dX11_loadDrive_163 rfl ?_
    refine zP10_8 C (by decide : kd 327 = _) kX11_57 dX11_loadDrive_164 ?_
    refine zv_aload_n C 1 dX11_loadDrive_167 rfl rfl ?_
    refine zG10_0 C (by decide : kd 327 = _) kX11_7 dX11_loadDrive_168 ?_
    refine zv_iconst (v := zI 0) C dX11_loadDrive_171 rfl ?_
    refine zv_iald (j := 0) C (by decide : kd 328 = _) (zI_ix (by omega)) (by decide) dX11_loadDrive_172 ?_
    refine zv_eqi (y := (zI ((pText tx ni).2.U.nb : Int))) (hfin.1.2.2.1.1) ?_
    exact zv_iret C hr rfl dX11_loadDrive_173 ⟨rfl, hfin⟩
  · exfalso
    exact h106 hok
set_option maxRecDepth 20000 in
theorem c0_X11_loadDrive {l : Launch} (hfl : l.stackTraces = false) (E : zE) (σ : zS) (σc : zS) (ni : Nat) (tx : Nat → Int) (ec : Nat) (eo : Int) (U : zSU) (S : zST) (hh : List zST) (kp : Option zST) (ou : List Nat) (h : zMP σ (zDv.mk ni tx ec eo U S hh kp ou)) (hU : zSUp σc 29 U) (hS : zSTp σc 34 S) (hX : ∀ i, i < ni → -128 ≤ tx i ∧ tx i ≤ 127) (hno : ¬ (pText tx ni).1 = 0) : zRi l E yX11_loadDrive cX11_loadDrive 2 .int (zrm 12 300) [.ref (ob E 327)] σ (fun r τ => r = zI (-1) ∧ mH σ τ (zDv.mk 0 tx (pText tx ni).1 (tB tx ni (pText tx ni).2.q : Int) U S hh kp ou)) := by
  refine Met.ofW (cc := cX11_loadDrive) (maxL := 2) (ret := (some .int)) (by decide +kernel) rfl ?_
  intro p e s m args below meth c s₁ B hml hv
  obtain ⟨rfl, hd⟩ := hv
  have C := zX_of (own := RX11) hfl B hml rfl hd rfl
  have hr := B.returns
  refine zV_go hd (Nat.le_of_ble_eq_true rfl) (lv := [(0, .ref (ob E 327))]) rfl ?_
  have hMi := ld_in h.1 hX
  refine zv_aload_n C 0 dX11_loadDrive_0 rfl rfl ?_
  refine zv_iconst (v := zI 0) C dX11_loadDrive_1 rfl ?_
  refine zP10_10 C (by decide : kd 327 = _) kX11_50 dX11_loadDrive_2 ?_
  refine zv_eqS (τ := (thW σ 0)) (rfl) ?_
  refine zv_aload_n C 0 dX11_loadDrive_5 rfl rfl ?_
  refine zG10_0 C (by decide : kd 327 = _) kX11_7 dX11_loadDrive_6 ?_
  refine zv_iconst (v := zI 0) C dX11_loadDrive_9 rfl ?_
  refine zv_aload_n C 0 dX11_loadDrive_10 rfl rfl ?_
  refine zG10_1 C (by decide : kd 327 = _) kX11_13 dX11_loadDrive_11 ?_
  refine zv_iconst (v := zI 0) C dX11_loadDrive_14 rfl ?_
  refine zv_bipush (v := zI 26) C dX11_loadDrive_15 (by decide) ?_
  refine zv_csvD (st := []) C (c_X11_copies hfl E (thW σ 0) 328 329 0 (0) 26 (by decide) (by decide) (by decide) (by decide) (Or.inl (by decide)) (by omega) (by omega) (by omega)) mX11_copies kX11_60 rfl ⟨rfl, rfl⟩ (show zfit (zrm 0 0) 6 (zrm 12 300) = true from rfl) (Nat.le_of_ble_eq_true rfl) dX11_loadDrive_17 ⟨Nat.zero_le _, Nat.zero_le _⟩ ?_
  refine zv_aload_n C 0 dX11_loadDrive_20 rfl rfl ?_
  refine zG10_4 C (by decide : kd 327 = _) kX11_22 dX11_loadDrive_21 ?_
  refine zv_iconst (v := zI 0) C dX11_loadDrive_24 rfl ?_
  refine zv_aload_n C 0 dX11_loadDrive_25 rfl rfl ?_
  refine zG10_5 C (by decide : kd 327 = _) kX11_25 dX11_loadDrive_26 ?_
  refine zv_iconst (v := zI 0) C dX11_loadDrive_29 rfl ?_
  refine zv_sipush (v := zI 131) C dX11_loadDrive_30 (by decide) ?_
  refine zv_csvD (st := []) C (c_X11_copies hfl E (cpR (thW σ 0) 328 0 329 (0) 26) 332 333 0 (0) 131 (by decide) (by decide) (by decide) (by decide) (Or.inl (by decide)) (by omega) (by omega) (by omega)) mX11_copies kX11_60 rfl ⟨rfl, rfl⟩ (show zfit (zrm 0 0) 6 (zrm 12 300) = true from rfl) (Nat.le_of_ble_eq_true rfl) dX11_loadDrive_33 ⟨Nat.zero_le _, Nat.zero_le _⟩ ?_
  refine zv_aload_n C 0 dX11_loadDrive_36 rfl rfl ?_
  refine zG10_2 C (by decide : kd 327 = _) kX11_16 dX11_loadDrive_37 ?_
  refine zv_iconst (v := zI 0) C dX11_loadDrive_40 rfl ?_
  refine zv_aload_n C 0 dX11_loadDrive_41 rfl rfl ?_
  refine zG10_3 C (by decide : kd 327 = _) kX11_19 dX11_loadDrive_42 ?_
  refine zv_iconst (v := zI 0) C dX11_loadDrive_45 rfl ?_
  refine zv_bipush (v := zI 64) C dX11_loadDrive_46 (by decide) ?_
  refine zv_csvD (st := []) C (c_X11_copies hfl E (cpR (cpR (thW σ 0) 328 0 329 (0) 26) 332 0 333 (0) 131) 330 331 0 (0) 64 (by decide) (by decide) (by decide) (by decide) (Or.inl (by decide)) (by omega) (by omega) (by omega)) mX11_copies kX11_60 rfl ⟨rfl, rfl⟩ (show zfit (zrm 0 0) 6 (zrm 12 300) = true from rfl) (Nat.le_of_ble_eq_true rfl) dX11_loadDrive_48 ⟨Nat.zero_le _, Nat.zero_le _⟩ ?_
  refine zv_aload_n C 0 dX11_loadDrive_51 rfl rfl ?_
  refine zv_cvvD (st := []) C (c_X11_clear hfl E (cpR (cpR (cpR (thW σ 0) 328 0 329 (0) 26) 332 0 333 (0) 131) 330 0 331 (0) 64)) mX11_clear kX11_47 (by decide : kd 327 = 10) rfl rfl rfl ⟨rfl, rfl⟩ (show zfit (zrm 0 0) 2 (zrm 12 300) = true from rfl) (Nat.le_of_ble_eq_true rfl) dX11_loadDrive_52 ⟨Nat.zero_le _, Nat.zero_le _⟩ ?_
  refine zv_aload_n C 0 dX11_loadDrive_55 rfl rfl ?_
  refine zv_iconst (v := zI 0) C dX11_loadDrive_56 rfl ?_
  refine zP10_15 C (by decide : kd 327 = _) kX11_99 dX11_loadDrive_57 ?_
  refine zv_aload_n C 0 dX11_loadDrive_60 rfl rfl ?_
  refine zv_iconst (v := zI (-1)) C dX11_loadDrive_61 rfl ?_
  refine zP10_16 C (by decide : kd 327 = _) kX11_102 dX11_loadDrive_62 ?_
  refine zv_aload_n C 0 dX11_loadDrive_65 rfl rfl ?_
  refine zv_iconst (v := zI 0) C dX11_loadDrive_66 rfl ?_
  refine zP10_17 C (by decide : kd 327 = _) kX11_75 dX11_loadDrive_67 ?_
  refine zv_aload_n C 0 dX11_loadDrive_70 rfl rfl ?_
  refine zv_iconst (v := zI 0) C dX11_loadDrive_71 rfl ?_
  refine zP10_21 C (by decide : kd 327 = _) kX11_158 dX11_loadDrive_72 ?_
  refine zv_eqS (τ := ldW σ) rfl ?_
  refine zv_aload_n C 0 dX11_loadDrive_75 rfl rfl ?_
  refine zv_cvv (st := []) C (c_X11_advanceToken hfl E (ldW σ) tx ni 0 hMi (ld_7 σ).2.2.2.1 (Nat.zero_le _)) mX11_advanceToken kX11_119 (by decide : kd 327 = 10) rfl rfl rfl ⟨rfl, rfl⟩ (show zfit (zrm 1 25) 2 (zrm 12 300) = true from rfl) (Nat.le_of_ble_eq_true rfl) dX11_loadDrive_76 ⟨Nat.zero_le _, Nat.zero_le _⟩ (fun τ1 hp76 => ?_)
  have hP0 := ld_ps hMi hp76.1 hp76.2
  refine zv_aload_n C 0 dX11_loadDrive_79 rfl rfl ?_
  refine zv_cvi (st := []) C (c_X11_readDrive hfl E τ1 tx ni hP0) mX11_readDrive kX11_229 (by decide : kd 327 = 10) rfl rfl rfl ⟨rfl, rfl⟩ (show zfit (zrm 10 213) 1 (zrm 12 300) = true from rfl) (Nat.le_of_ble_eq_true rfl) dX11_loadDrive_80 ⟨Nat.zero_le _, Nat.zero_le _⟩ (fun r80 τ2 hp80 => ?_)
  refine zv_eqi (y := zB ((pText tx ni).1 = 0)) hp80.1 ?_
  have hF2 : mF (ldW σ) τ2 := mF_t (mF_A hp76.2) hp80.2.1
  obtain ⟨he15, he16⟩ := hp80.2.2.2 hno
  refine zv_istore_n (lv' := [(1, .int (zB ((pText tx ni).1 = 0))), (0, .ref (ob E 327))]) C dX11_loadDrive_83 rfl (by decide) rfl ?_
  refine zv_aload_n C 1 dX11_loadDrive_84 rfl rfl ?_
  refine zv_iconst (v := zI 0) C dX11_loadDrive_85 rfl ?_
  refine zP10_12 C (by decide : kd 327 = _) kX11_64 dX11_loadDrive_86 ?_
  refine zv_aload_n C 1 dX11_loadDrive_89 rfl rfl ?_
  refine zv_aload_n C 1 dX11_loadDrive_90 rfl rfl ?_
  refine zG10_15 C (by decide : kd 327 = _) kX11_99 dX11_loadDrive_91 ?_
  refine zv_eqi (y := (zI ((pText tx ni).1 : Int))) (he15) ?_
  refine zP10_13 C (by decide : kd 327 = _) kX11_232 dX11_loadDrive_94 ?_
  refine zv_aload_n C 1 dX11_loadDrive_97 rfl rfl ?_
  refine zv_aload_n C 1 dX11_loadDrive_98 rfl rfl ?_
  refine zG10_16 C (by decide : kd 327 = _) kX11_102 dX11_loadDrive_99 ?_
  refine zv_eqi (y := (zI (tB tx ni (pText tx ni).2.q : Int))) (he16) ?_
  refine zP10_14 C (by decide : kd 327 = _) kX11_37 dX11_loadDrive_102 ?_
  refine zv_iload_n C 0 dX11_loadDrive_105 rfl rfl ?_
  refine zv_if_neB (tgt := 157) C dX11_loadDrive_106 (by decide) (fun h106 => ?_) (fun h106 => ?_)
  · exfalso
    exact hno h106
  · skip
    have hfin := ld_bad (c := (pText tx ni).1) (v := (tB tx ni (pText tx ni).2.q : Int)) h hF2 (by exact hU.2.2.1)
    refine zv_aload_n C 1 dX11_loadDrive_109 rfl rfl ?_
    refine zG10_1 C (by decide : kd 327 = _) kX11_13 dX11_loadDrive_110 ?_
    refine zv_iconst (v := zI 0) C dX11_loadDrive_113 rfl ?_
    refine zv_aload_n C 1 dX11_loadDrive_114 rfl rfl ?_
    refine zG10_0 C (by decide : kd 327 = _) kX11_7 dX11_loadDrive_115 ?_
    refine zv_iconst (v := zI 0) C dX11_loadDrive_118 rfl ?_
    refine zv_bipush (v := zI 26) C dX11_loadDrive_119 (by decide) ?_
    refine zv_csvD (st := []) C (c_X11_copies hfl E (sI (sI (sI τ2 327 12 (zI 0)) 327 13 (zI ((pText tx ni).1 : Int))) 327 14 (zI (tB tx ni (pText tx ni).2.q : Int))) 329 328 0 (0) 26 (by decide) (by decide) (by decide) (by decide) (Or.inl (by decide)) (by omega) (by omega) (by omega)) mX11_copies kX11_60 rfl ⟨rfl, rfl⟩ (show zfit (zrm 0 0) 6 (zrm 12 300) = true from rfl) (Nat.le_of_ble_eq_true rfl) dX11_loadDrive_121 ⟨Nat.zero_le _, Nat.zero_le _⟩ ?_
    refine zv_aload_n C 1 dX11_loadDrive_124 rfl rfl ?_
    refine zG10_5 C (by decide : kd 327 = _) kX11_25 dX11_loadDrive_125 ?_
    refine zv_iconst (v := zI 0) C dX11_loadDrive_128 rfl ?_
    refine zv_aload_n C 1 dX11_loadDrive_129 rfl rfl ?_
    refine zG10_4 C (by decide : kd 327 = _) kX11_22 dX11_loadDrive_130 ?_
    refine zv_iconst (v := zI 0) C dX11_loadDrive_133 rfl ?_
    refine zv_sipush (v := zI 131) C dX11_loadDrive_134 (by decide) ?_
    refine zv_csvD (st := []) C (c_X11_copies hfl E (cpR (sI (sI (sI τ2 327 12 (zI 0)) 327 13 (zI ((pText tx ni).1 : Int))) 327 14 (zI (tB tx ni (pText tx ni).2.q : Int))) 329 0 328 (0) 26) 333 332 0 (0) 131 (by decide) (by decide) (by decide) (by decide) (Or.inl (by decide)) (by omega) (by omega) (by omega)) mX11_copies kX11_60 rfl ⟨rfl, rfl⟩ (show zfit (zrm 0 0) 6 (zrm 12 300) = true from rfl) (Nat.le_of_ble_eq_true rfl) dX11_loadDrive_137 ⟨Nat.zero_le _, Nat.zero_le _⟩ ?_
    refine zv_aload_n C 1 dX11_loadDrive_140 rfl rfl ?_
    refine zG10_3 C (by decide : kd 327 = _) kX11_19 dX11_loadDrive_141 ?_
    refine zv_iconst (v := zI 0) C dX11_loadDrive_144 rfl ?_
    refine zv_aload_n C 1 dX11_loadDrive_145 rfl rfl ?_
    refine zG10_2 C (by decide : kd 327 = _) kX11_16 dX11_loadDrive_146 ?_
    refine zv_iconst (v := zI 0) C dX11_loadDrive_149 rfl ?_
    refine zv_bipush (v := zI 64) C dX11_loadDrive_150 (by decide) ?_
    refine zv_csvD (st := []) C (c_X11_copies hfl E (cpR (cpR (sI (sI (sI τ2 327 12 (zI 0)) 327 13 (zI ((pText tx ni).1 : Int))) 327 14 (zI (tB tx ni (pText tx ni).2.q : Int))) 329 0 328 (0) 26) 333 0 332 (0) 131) 331 330 0 (0) 64 (by decide) (by decide) (by decide) (by decide) (Or.inl (by decide)) (by omega) (by omega) (by omega)) mX11_copies kX11_60 rfl ⟨rfl, rfl⟩ (show zfit (zrm 0 0) 6 (zrm 12 300) = true from rfl) (Nat.le_of_ble_eq_true rfl) dX11_loadDrive_152 ⟨Nat.zero_le _, Nat.zero_le _⟩ ?_
    refine zv_iconst (v := zI (-1)) C dX11_loadDrive_155 rfl ?_
    exact zv_iret C hr rfl dX11_loadDrive_156 ⟨rfl, hfin⟩
