theorem zs_nat : Cond.native arraycopyName ∈ zT := zT_mem 598 (by decide +kernel) (by decide)
theorem zs_stat : Cond.static arraycopyName ∈ zT := zT_mem 597 (by decide +kernel) (by decide)
theorem zs_ini : Cond.initialized "java/lang/System" ∈ zT := zT_mem 112 (by decide +kernel) (by decide)
def cpI (σ : zS) (a b n : Nat) : zS := (fun x j => if x = b ∧ j < n then σ.1 a j else σ.1 x j, σ.2)
def cpJ (σ : zS) (a b n : Nat) : zS := (σ.1, fun x j => if x = b ∧ j < n then σ.2.1 a j else σ.2.1 x j, σ.2.2)
theorem gI_cpI (σ : zS) (a b n x j : Nat) : gI (cpI σ a b n) x j = if x = b ∧ j < n then gI σ a j else gI σ x j := rfl
theorem gJ_cpI (σ : zS) (a b n x j : Nat) : gJ (cpI σ a b n) x j = gJ σ x j := rfl
theorem gD_cpI (σ : zS) (a b n x j : Nat) : gD (cpI σ a b n) x j = gD σ x j := rfl
theorem gI_cpJ (σ : zS) (a b n x j : Nat) : gI (cpJ σ a b n) x j = gI σ x j := rfl
theorem gJ_cpJ (σ : zS) (a b n x j : Nat) : gJ (cpJ σ a b n) x j = if x = b ∧ j < n then gJ σ a j else gJ σ x j := rfl
theorem gD_cpJ (σ : zS) (a b n x j : Nat) : gD (cpJ σ a b n) x j = gD σ x j := rfl
theorem zc_cpI (E : zE) (σ : zS) (a b n : Nat) : ∀ k', k' ≠ b → zc E (cpI σ a b n) k' = zc E σ k' := fun k' h => zc_cong (funext fun j => by rw [gI_cpI, if_neg (fun q => h q.1)]) rfl rfl
theorem zc_cpJ (E : zE) (σ : zS) (a b n : Nat) : ∀ k', k' ≠ b → zc E (cpJ σ a b n) k' = zc E σ k' := fun k' h => zc_cong rfl (funext fun j => by rw [gJ_cpJ, if_neg (fun q => h q.1)]) rfl
theorem gI_cp (σ : zS) (a b n : Nat) : gI (cpI σ a b n) b = va_cpy (gI σ a) (gI σ b) 0 0 n := funext fun j => by
  rw [gI_cpI]
  simp [va_cpy]
theorem gI_cpz (σ : zS) (a b n : Nat) : (fun j => zbn (gI (cpI σ a b n) b j)) = va_cpy (fun j => zbn (gI σ a j)) (fun j => zbn (gI σ b j)) 0 0 n := funext fun j => by
  show zbn (gI (cpI σ a b n) b j) = _
  rw [gI_cpI]
  by_cases h : j < n
  · simp [va_cpy, h]
  · simp [va_cpy, h]
theorem gJ_cp (σ : zS) (a b n : Nat) : gJ (cpJ σ a b n) b = va_cpy (gJ σ a) (gJ σ b) 0 0 n := funext fun j => by
  rw [gJ_cpJ]
  simp [va_cpy]
theorem zcl {n : Nat} (h : n < 2 ^ 31) : (zI n).toNatClampNeg = n := by rw [zI_nat]; exact nI_clamp h
theorem znn {n : Nat} (h : n < 2 ^ 31) : ¬ zI n < 0 := by rw [zI_nat]; exact nI_pos h
section
variable {p : Program} {l : Launch} {e : Env} {R : Room} {s : State} {m : MethodId} {args : Array Value} {below : List Frame} {meth : Method} {c : Code} {cc : ByteArray} {own : String} {nL : Nat} {E : zE} {Q : State → Prop} {ce sl : Nat} {σ : zS} {pc : Nat} {lv : List (Nat × Value)} {st : List Value}
theorem zv_acpI (C : zX p l s m args meth c cc own nL E) {a b n ix : Nat} (hlink : Cond.methodLink own ix arraycopyName ∈ zT) (ha : kd a = 12) (hb : kd b = 12) (hna : n ≤ zlen a) (hnb : n ≤ zlen b) (hR : 1 ≤ R.frames ∧ (st.map fun v => v.category).sum + (nativeFrameWords "java/lang/System" "arraycopy" 5 + 11) ≤ R.locals) (hdg : decode cc pc = .ok (.invokestatic ix, 3)) (kk : zV p l e R s m args below meth c nL E Q ce sl (cpI σ a b n) (pc + 3) lv st) : zV p l e R s m args below meth c nL E Q ce sl σ pc lv (.int (zI n) :: .int (zI (0 : Nat)) :: .ref (ob E b) :: .int (zI (0 : Nat)) :: .ref (ob E a) :: st) := fun H locs ls hP hS hl => by
  have hn : n < 2 ^ 31 := Nat.lt_of_le_of_lt hna (zlen_lt a)
  refine va_copyi C.exec C.code (C.maxL.trans hl.1.symm) C.cls (C.words _ hlink) (C.words _ zs_nat) (C.words _ zs_stat) (C.words _ zs_ini) C.known hP (zW_D E σ) hS a b 1 1 (ty := .int) (by rw [zW_at E σ (kd_lt ha (by decide)), zc_12 ha]) (by rw [zW_at E σ (kd_lt hb (by decide)), zc_12 hb]) rfl rfl rfl (znn (by decide)) (znn (by decide)) (znn hn) (by rw [zcl hn, zcl (by decide)]; omega) (by rw [zcl hn, zcl (by decide)]; omega) (fun _ _ => rfl) hR.1 hR.2 hdg (fun H1 locs1 hP1 _ hS1 => kk H1 locs1 ls ?_ hS1 hl)
  rw [zcl hn, zcl (by decide)] at hP1
  rw [zW_set (τ := cpI σ a b n) (by rw [zc_12 hb, gI_cp]) (zc_cpI E σ a b n)] at hP1
  exact hP1
theorem zv_acpZ (C : zX p l s m args meth c cc own nL E) {a b n ix : Nat} (hlink : Cond.methodLink own ix arraycopyName ∈ zT) (ha : kd a = 14) (hb : kd b = 14) (hna : n ≤ zlen a) (hnb : n ≤ zlen b) (hR : 1 ≤ R.frames ∧ (st.map fun v => v.category).sum + (nativeFrameWords "java/lang/System" "arraycopy" 5 + 11) ≤ R.locals) (hdg : decode cc pc = .ok (.invokestatic ix, 3)) (kk : zV p l e R s m args below meth c nL E Q ce sl (cpI σ a b n) (pc + 3) lv st) : zV p l e R s m args below meth c nL E Q ce sl σ pc lv (.int (zI n) :: .int (zI (0 : Nat)) :: .ref (ob E b) :: .int (zI (0 : Nat)) :: .ref (ob E a) :: st) := fun H locs ls hP hS hl => by
  have hn : n < 2 ^ 31 := Nat.lt_of_le_of_lt hna (zlen_lt a)
  refine va_copyi C.exec C.code (C.maxL.trans hl.1.symm) C.cls (C.words _ hlink) (C.words _ zs_nat) (C.words _ zs_stat) (C.words _ zs_ini) C.known hP (zW_D E σ) hS a b 3 3 (ty := .boolean) (by rw [zW_at E σ (kd_lt ha (by decide)), zc_14 ha]) (by rw [zW_at E σ (kd_lt hb (by decide)), zc_14 hb]) rfl rfl rfl (znn (by decide)) (znn (by decide)) (znn hn) (by rw [zcl hn, zcl (by decide)]; omega) (by rw [zcl hn, zcl (by decide)]; omega) (fun i hi => by rw [zcl hn] at hi; rw [show ((zI (0 : Nat)).toNatClampNeg + i) = i by rw [zcl (by decide)]; omega]; show _ = _; rcases zbn_or (gI σ a i) with h | h <;> rw [h] <;> rfl) hR.1 hR.2 hdg (fun H1 locs1 hP1 _ hS1 => kk H1 locs1 ls ?_ hS1 hl)
  rw [zcl hn, zcl (by decide)] at hP1
  rw [zW_set (τ := cpI σ a b n) (by rw [zc_14 hb, gI_cpz]) (zc_cpI E σ a b n)] at hP1
  exact hP1
theorem zv_acpJ (C : zX p l s m args meth c cc own nL E) {a b n ix : Nat} (hlink : Cond.methodLink own ix arraycopyName ∈ zT) (ha : kd a = 13) (hb : kd b = 13) (hna : n ≤ zlen a) (hnb : n ≤ zlen b) (hR : 1 ≤ R.frames ∧ (st.map fun v => v.category).sum + (nativeFrameWords "java/lang/System" "arraycopy" 5 + 11) ≤ R.locals) (hdg : decode cc pc = .ok (.invokestatic ix, 3)) (kk : zV p l e R s m args below meth c nL E Q ce sl (cpJ σ a b n) (pc + 3) lv st) : zV p l e R s m args below meth c nL E Q ce sl σ pc lv (.int (zI n) :: .int (zI (0 : Nat)) :: .ref (ob E b) :: .int (zI (0 : Nat)) :: .ref (ob E a) :: st) := fun H locs ls hP hS hl => by
  have hn : n < 2 ^ 31 := Nat.lt_of_le_of_lt hna (zlen_lt a)
  refine va_copyl C.exec C.code (C.maxL.trans hl.1.symm) C.cls (C.words _ hlink) (C.words _ zs_nat) (C.words _ zs_stat) (C.words _ zs_ini) C.known hP (zW_D E σ) hS a b 2 2 (ty := .long) (by rw [zW_at E σ (kd_lt ha (by decide)), zc_13 ha]) (by rw [zW_at E σ (kd_lt hb (by decide)), zc_13 hb]) rfl rfl rfl (znn (by decide)) (znn (by decide)) (znn hn) (by rw [zcl hn, zcl (by decide)]; omega) (by rw [zcl hn, zcl (by decide)]; omega) (fun _ _ => rfl) hR.1 hR.2 hdg (fun H1 locs1 hP1 _ hS1 => kk H1 locs1 ls ?_ hS1 hl)
  rw [zcl hn, zcl (by decide)] at hP1
  rw [zW_set (τ := cpJ σ a b n) (by rw [zc_13 hb, gJ_cp]) (zc_cpJ E σ a b n)] at hP1
  exact hP1
end
