/-! the law's cases: what they want besides -/
theorem qM_f (σ : zS) (U : zSU) (S : zST) (y : Int) (j : Nat) : zFr 318 327 σ (qM σ U S y j) := by
  induction j with
  | zero => exact zFr_refl _ _ _
  | succ j ih => exact zFr_J (zFr_rW ih (by omega)) (by omega)
theorem rW2_f (σ : zS) (U : zSU) (S : zST) (i j : Nat) : zFr 318 327 σ (rW2 σ U S i j) := zFr_rW (zFr_rW (zFr_refl _ _ _) (by omega)) (by omega)
theorem rW3_f (σ : zS) (U : zSU) (S : zST) (i o : Nat) : zFr 318 327 σ (rW3 σ U S i o) := zFr_rW (rW2_f σ U S i o) (by omega)
theorem alW_f (σ : zS) (U : zSU) (S : zST) (i j : Nat) : zFr 318 327 σ (alW σ U S i j) := by
  induction j with
  | zero => exact zFr_rW (zFr_refl _ _ _) (by omega)
  | succ j ih => exact zFr_rW ih (by omega)
theorem zI_cov (x : Int32) : ∃ v : Int, x = zI v ∧ (-2147483648 ≤ v ∧ v < 2147483648) := ⟨x.toInt, (Int32.ofInt_toInt x).symm, Int32.le_toInt x, Int32.toInt_lt x⟩
section
variable {p : Program} {l : Launch} {e : Env} {R : Room} {s : State} {m : MethodId} {args : Array Value} {below : List Frame} {meth : Method} {c : Code} {cc : ByteArray} {own : String} {nL : Nat} {E : zE} {Q : State → Prop} {ce sl : Nat} {σ : zS} {pc : Nat} {lv : List (Nat × Value)} {st : List Value}
theorem zv_eqd {x y : UInt64} (h : x = y) (kk : zV p l e R s m args below meth c nL E Q ce sl σ pc lv (.double y :: st)) : zV p l e R s m args below meth c nL E Q ce sl σ pc lv (.double x :: st) := by rw [h]; exact kk
theorem zv_eqf {x y : UInt32} (h : x = y) (kk : zV p l e R s m args below meth c nL E Q ce sl σ pc lv (.float y :: st)) : zV p l e R s m args below meth c nL E Q ce sl σ pc lv (.float x :: st) := by rw [h]; exact kk
end
/-- every rank is taken -/
def ltM (ms : Nat → Int) (o i : Nat) : Prop := ms o < ms i ∨ (ms o = ms i ∧ o < i)
theorem dPl_m {ms : Nat → Int} {a b : Nat} (h : ∀ o, ltM ms o a → ltM ms o b) : ∀ n, dPl ms a n ≤ dPl ms b n := by
  intro n
  induction n with
  | zero => exact Nat.le_refl _
  | succ n ih =>
    have := h n
    unfold ltM at this
    simp only [dPl]
    split <;> split <;> omega
theorem dPl_ms {ms : Nat → Int} {a b : Nat} (h : ∀ o, ltM ms o a → ltM ms o b) {c : Nat} (h1 : ltM ms c b) (h2 : ¬ ltM ms c a) : ∀ n, c < n → dPl ms a n + 1 ≤ dPl ms b n := by
  intro n
  induction n with
  | zero => intro q; omega
  | succ n ih =>
    intro q
    have h3 := h n
    unfold ltM at h3
    rcases Nat.lt_or_ge c n with g | g
    · have := ih g
      simp only [dPl]
      split <;> split <;> omega
    · have : c = n := by omega
      subst this
      have := dPl_m h c
      unfold ltM at h1 h2
      simp only [dPl]
      rw [if_neg h2, if_pos h1]
      omega
theorem dPl_lt {ms : Nat → Int} {b : Nat} : ∀ n, b < n → dPl ms b n + 1 ≤ n := by
  intro n
  induction n with
  | zero => intro q; omega
  | succ n ih =>
    intro q
    simp only [dPl]
    rcases Nat.lt_or_ge b n with g | g
    · have := ih g
      split <;> omega
    · have : b = n := by omega
      subst this
      have := dPl_le ms b b
      rw [if_neg (by omega)]
      omega
theorem dPl_all (ms : Nat → Int) : ∀ n r, r < n → ∃ i, i < n ∧ dPl ms i n = r := by
  intro n
  induction n with
  | zero => intro r q; omega
  | succ n ih =>
    intro r q
    by_cases h1 : r = dPl ms n n
    · exact ⟨n, by omega, by simp only [dPl]; rw [if_neg (by omega)]; omega⟩
    · by_cases h2 : r < dPl ms n n
      · have hle := dPl_le ms n n
        obtain ⟨i, hi, hr⟩ := ih r (by omega)
        refine ⟨i, by omega, ?_⟩
        simp only [dPl]
        have hn : ¬ ltM ms n i := fun g => by
          have := dPl_m (ms := ms) (a := n) (b := i) (fun o ho => by unfold ltM at *; omega) n
          omega
        unfold ltM at hn
        rw [if_neg hn]
        omega
      · obtain ⟨i, hi, hr⟩ := ih (r - 1) (by omega)
        refine ⟨i, by omega, ?_⟩
        simp only [dPl]
        have hn : ltM ms n i := by
          by_cases g : ltM ms n i
          · exact g
          · have := dPl_ms (ms := ms) (a := i) (b := n) (fun o ho => by unfold ltM at *; omega) (c := i) (by unfold ltM at *; omega) (by unfold ltM; omega) n hi
            omega
        unfold ltM at hn
        rw [if_pos hn]
        omega
theorem fi_pos {P : Nat → Bool} : ∀ n j, j < n → P j = true → 0 ≤ fi P n := by
  intro n
  induction n with
  | zero => intro j q; omega
  | succ n ih =>
    intro j q h
    simp only [fi]
    rcases Nat.lt_or_ge j n with g | g
    · rw [if_pos (ih j g h)]; exact ih j g h
    · have : j = n := by omega
      subst this
      split
      · assumption
      · omega
theorem fi_neg {P : Nat → Bool} : ∀ n, (∀ j, j < n → ¬ P j = true) → fi P n = -1 := by
  intro n
  induction n with
  | zero => intro _; rfl
  | succ n ih => intro h; exact fi_s (ih fun j hj => h j (by omega)) (h n (by omega))
theorem rk_in {U : zSU} {S : zST} {y rk : Int} (h : 0 ≤ rk ∧ rk < U.nb) : 0 ≤ fi (dRk U S y rk) U.nb := by
  obtain ⟨i, hi, hr⟩ := dPl_all (qMs U S y) U.nb rk.toNat (by omega)
  exact fi_pos _ i hi (by unfold dRk; rw [hr]; exact decide_eq_true (by omega))
theorem rk_out {U : zSU} {S : zST} {y rk : Int} (h : ¬ (0 ≤ rk ∧ rk < U.nb)) : fi (dRk U S y rk) U.nb = -1 := fi_neg _ fun j hj q => by
  have := of_decide_eq_true q
  have := dPl_lt (ms := qMs U S y) U.nb hj
  omega
