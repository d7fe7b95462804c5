/-! ints and longs as whole numbers -/
def zI (z : Int) : Int32 := Int32.ofInt z
def zL (z : Int) : Int64 := Int64.ofInt z
theorem zI_of (x : Int32) : zI x.toInt = x := Int32.ofInt_toInt x
theorem zL_of (x : Int64) : zL x.toInt = x := Int64.ofInt_toInt x
theorem zI_nat (n : Nat) : zI (n : Int) = nI n := by
  unfold zI nI
  apply Int32.toBitVec_inj.mp
  simp [Int32.ofInt, Int32.ofNat]
theorem zL_nat (n : Nat) : zL (n : Int) = lN n := by
  unfold zL lN
  apply Int64.toBitVec_inj.mp
  simp [Int64.ofInt, Int64.ofNat]
theorem zI_ix {z : Int} {j : Nat} (h : z = j) : zI z = nI j := by rw [h, zI_nat]
theorem zI_toInt {z : Int} (h : -2147483648 ≤ z ∧ z < 2147483648) : (zI z).toInt = z := by
  unfold zI
  rw [Int32.toInt_ofInt]
  simp only [Int.bmod_def, show Int32.size = 4294967296 from rfl]
  omega
theorem zL_toInt {z : Int} (h : -9223372036854775808 ≤ z ∧ z < 9223372036854775808) : (zL z).toInt = z := by
  unfold zL
  rw [Int64.toInt_ofInt]
  simp only [Int.bmod_def, show Int64.size = 18446744073709551616 from rfl]
  omega
theorem zI_add (a b : Int) : zI a + zI b = zI (a + b) := (Int32.ofInt_add a b).symm
theorem zI_sub (a b : Int) : zI a - zI b = zI (a - b) := (Int32.ofInt_sub a b).symm
theorem zI_mul (a b : Int) : zI a * zI b = zI (a * b) := (Int32.ofInt_mul a b).symm
theorem zI_neg (a : Int) : -zI a = zI (-a) := (Int32.ofInt_neg a).symm
theorem zL_add (a b : Int) : zL a + zL b = zL (a + b) := (Int64.ofInt_add a b).symm
theorem zL_sub (a b : Int) : zL a - zL b = zL (a - b) := (Int64.ofInt_sub a b).symm
theorem zL_mul (a b : Int) : zL a * zL b = zL (a * b) := (Int64.ofInt_mul a b).symm
theorem zL_neg (a : Int) : -zL a = zL (-a) := (Int64.ofInt_neg a).symm
theorem zI_inj {a b : Int} (ha : -2147483648 ≤ a ∧ a < 2147483648) (hb : -2147483648 ≤ b ∧ b < 2147483648) : zI a = zI b ↔ a = b := by
  rw [← Int32.toInt_inj, zI_toInt ha, zI_toInt hb]
theorem zI_lt {a b : Int} (ha : -2147483648 ≤ a ∧ a < 2147483648) (hb : -2147483648 ≤ b ∧ b < 2147483648) : zI a < zI b ↔ a < b := by
  rw [Int32.lt_iff_toInt_lt, zI_toInt ha, zI_toInt hb]
theorem zI_le {a b : Int} (ha : -2147483648 ≤ a ∧ a < 2147483648) (hb : -2147483648 ≤ b ∧ b < 2147483648) : zI a ≤ zI b ↔ a ≤ b := by
  rw [Int32.le_iff_toInt_le, zI_toInt ha, zI_toInt hb]
theorem zL_inj {a b : Int} (ha : -9223372036854775808 ≤ a ∧ a < 9223372036854775808) (hb : -9223372036854775808 ≤ b ∧ b < 9223372036854775808) : zL a = zL b ↔ a = b := by
  rw [← Int64.toInt_inj, zL_toInt ha, zL_toInt hb]
theorem zL_lt {a b : Int} (ha : -9223372036854775808 ≤ a ∧ a < 9223372036854775808) (hb : -9223372036854775808 ≤ b ∧ b < 9223372036854775808) : zL a < zL b ↔ a < b := by
  rw [Int64.lt_iff_toInt_lt, zL_toInt ha, zL_toInt hb]
theorem zL_le {a b : Int} (ha : -9223372036854775808 ≤ a ∧ a < 9223372036854775808) (hb : -9223372036854775808 ≤ b ∧ b < 9223372036854775808) : zL a ≤ zL b ↔ a ≤ b := by
  rw [Int64.le_iff_toInt_le, zL_toInt ha, zL_toInt hb]
theorem zI_div {a b : Int} (ha : 0 ≤ a ∧ a < 2147483648) (hb : 0 < b ∧ b < 2147483648) : zI a / zI b = zI (a / b) := by
  apply Int32.toInt_inj.mp
  rw [Int32.toInt_div, zI_toInt ⟨by omega, ha.2⟩, zI_toInt ⟨by omega, hb.2⟩, Int.tdiv_eq_ediv_of_nonneg ha.1]
  have h1 : 0 ≤ a / b := Int.ediv_nonneg ha.1 (by omega)
  have h2 : a / b ≤ a := Int.ediv_le_self _ ha.1
  rw [zI_toInt ⟨by omega, by omega⟩, Int.bmod_def]
  omega
theorem zI_mod {a b : Int} (ha : 0 ≤ a ∧ a < 2147483648) (hb : 0 < b ∧ b < 2147483648) : zI a - zI a / zI b * zI b = zI (a % b) := by
  rw [zI_div ha hb, zI_mul, zI_sub]
  congr 1
  have := Int.emod_add_mul_ediv a b
  rw [Int.mul_comm (a / b) b]
  omega
theorem zI_tdiv {a b : Int} (ha : -2147483648 < a ∧ a < 2147483648) (hb : 0 < b ∧ b < 2147483648) : zI a / zI b = zI (a.tdiv b) := by
  apply Int32.toInt_inj.mp
  rw [Int32.toInt_div, zI_toInt ⟨by omega, ha.2⟩, zI_toInt ⟨by omega, hb.2⟩]
  have h1 := Int.natAbs_tdiv_le_natAbs a b
  rw [zI_toInt ⟨by omega, by omega⟩, Int.bmod_def]
  omega
theorem zL_div {a b : Int} (ha : 0 ≤ a ∧ a < 9223372036854775808) (hb : 0 < b ∧ b < 9223372036854775808) : zL a / zL b = zL (a / b) := by
  apply Int64.toInt_inj.mp
  rw [Int64.toInt_div, zL_toInt ⟨by omega, ha.2⟩, zL_toInt ⟨by omega, hb.2⟩, Int.tdiv_eq_ediv_of_nonneg ha.1]
  have h1 : 0 ≤ a / b := Int.ediv_nonneg ha.1 (by omega)
  have h2 : a / b ≤ a := Int.ediv_le_self _ ha.1
  rw [zL_toInt ⟨by omega, by omega⟩, Int.bmod_def]
  omega
theorem zL_mod {a b : Int} (ha : 0 ≤ a ∧ a < 9223372036854775808) (hb : 0 < b ∧ b < 9223372036854775808) : zL a - zL a / zL b * zL b = zL (a % b) := by
  rw [zL_div ha hb, zL_mul, zL_sub]
  congr 1
  have := Int.emod_add_mul_ediv a b
  rw [Int.mul_comm (a / b) b]
  omega
theorem zL_tdiv {a b : Int} (ha : -9223372036854775808 < a ∧ a < 9223372036854775808) (hb : 0 < b ∧ b < 9223372036854775808) : zL a / zL b = zL (a.tdiv b) := by
  apply Int64.toInt_inj.mp
  rw [Int64.toInt_div, zL_toInt ⟨by omega, ha.2⟩, zL_toInt ⟨by omega, hb.2⟩]
  have h1 := Int.natAbs_tdiv_le_natAbs a b
  rw [zL_toInt ⟨by omega, by omega⟩, Int.bmod_def]
  omega
theorem zI_l {a : Int} (ha : -2147483648 ≤ a ∧ a < 2147483648) : (zI a).toInt64 = zL a := by
  apply Int64.toInt_inj.mp
  rw [Int32.toInt_toInt64, zI_toInt ha, zL_toInt ⟨by omega, by omega⟩]
theorem zL_i (a : Int) : (zL a).toInt32 = zI a := by
  apply Int32.toInt_inj.mp
  unfold zL zI
  rw [Int64.toInt_toInt32, Int64.toInt_ofInt, Int32.toInt_ofInt]
  simp only [Int.bmod_def, show Int64.size = 18446744073709551616 from rfl, show Int32.size = 4294967296 from rfl]
  omega
theorem zI_ne0 {a : Int} (h : a ≠ 0) (ha : -2147483648 ≤ a ∧ a < 2147483648) : ¬ zI a = 0 := fun q => h ((zI_inj ha (by omega)).mp (q.trans rfl))
theorem zL_ne0 {a : Int} (h : a ≠ 0) (ha : -9223372036854775808 ≤ a ∧ a < 9223372036854775808) : ¬ zL a = 0 := fun q => h ((zL_inj ha (by omega)).mp (q.trans rfl))
section
variable {p : Program} {l : Launch} {e : Env} {R : Room} {s : State} {m : MethodId} {args : Array Value} {below : List Frame} {meth : Method} {c : Code} {cc : ByteArray} {own : String} {nL : Nat} {E : zE} {Q : State → Prop} {ce sl : Nat} {σ : zS} {pc : Nat} {lv : List (Nat × Value)} {st : List Value}
theorem zv_eqi {x y : Int32} (h : x = y) (kk : zV p l e R s m args below meth c nL E Q ce sl σ pc lv (.int y :: st)) : zV p l e R s m args below meth c nL E Q ce sl σ pc lv (.int x :: st) := by rw [h]; exact kk
theorem zv_eql {x y : Int64} (h : x = y) (kk : zV p l e R s m args below meth c nL E Q ce sl σ pc lv (.long y :: st)) : zV p l e R s m args below meth c nL E Q ce sl σ pc lv (.long x :: st) := by rw [h]; exact kk
theorem zv_eqS {τ : zS} (h : σ = τ) (kk : zV p l e R s m args below meth c nL E Q ce sl τ pc lv st) : zV p l e R s m args below meth c nL E Q ce sl σ pc lv st := by rw [h]; exact kk
theorem zv_eqL {lv' : List (Nat × Value)} (h : lv = lv') (kk : zV p l e R s m args below meth c nL E Q ce sl σ pc lv' st) : zV p l e R s m args below meth c nL E Q ce sl σ pc lv st := by rw [h]; exact kk
theorem zv_iaddZ (C : zX p l s m args meth c cc own nL E) {a b : Int} (hdg : decode cc pc = .ok (.iadd, 1)) (kk : zV p l e R s m args below meth c nL E Q ce sl σ (pc + 1) lv (.int (zI (a + b)) :: st)) : zV p l e R s m args below meth c nL E Q ce sl σ pc lv (.int (zI b) :: .int (zI a) :: st) := zv_iadd C hdg (zv_eqi (zI_add a b) kk)
theorem zv_isubZ (C : zX p l s m args meth c cc own nL E) {a b : Int} (hdg : decode cc pc = .ok (.isub, 1)) (kk : zV p l e R s m args below meth c nL E Q ce sl σ (pc + 1) lv (.int (zI (a - b)) :: st)) : zV p l e R s m args below meth c nL E Q ce sl σ pc lv (.int (zI b) :: .int (zI a) :: st) := zv_isub C hdg (zv_eqi (zI_sub a b) kk)
theorem zv_imulZ (C : zX p l s m args meth c cc own nL E) {a b : Int} (hdg : decode cc pc = .ok (.imul, 1)) (kk : zV p l e R s m args below meth c nL E Q ce sl σ (pc + 1) lv (.int (zI (a * b)) :: st)) : zV p l e R s m args below meth c nL E Q ce sl σ pc lv (.int (zI b) :: .int (zI a) :: st) := zv_imul C hdg (zv_eqi (zI_mul a b) kk)
theorem zv_laddZ (C : zX p l s m args meth c cc own nL E) {a b : Int} (hdg : decode cc pc = .ok (.ladd, 1)) (kk : zV p l e R s m args below meth c nL E Q ce sl σ (pc + 1) lv (.long (zL (a + b)) :: st)) : zV p l e R s m args below meth c nL E Q ce sl σ pc lv (.long (zL b) :: .long (zL a) :: st) := zv_ladd C hdg (zv_eql (zL_add a b) kk)
theorem zv_lsubZ (C : zX p l s m args meth c cc own nL E) {a b : Int} (hdg : decode cc pc = .ok (.lsub, 1)) (kk : zV p l e R s m args below meth c nL E Q ce sl σ (pc + 1) lv (.long (zL (a - b)) :: st)) : zV p l e R s m args below meth c nL E Q ce sl σ pc lv (.long (zL b) :: .long (zL a) :: st) := zv_lsub C hdg (zv_eql (zL_sub a b) kk)
theorem zv_lmulZ (C : zX p l s m args meth c cc own nL E) {a b : Int} (hdg : decode cc pc = .ok (.lmul, 1)) (kk : zV p l e R s m args below meth c nL E Q ce sl σ (pc + 1) lv (.long (zL (a * b)) :: st)) : zV p l e R s m args below meth c nL E Q ce sl σ pc lv (.long (zL b) :: .long (zL a) :: st) := zv_lmul C hdg (zv_eql (zL_mul a b) kk)
theorem zv_inegZ (C : zX p l s m args meth c cc own nL E) {a : Int} (hdg : decode cc pc = .ok (.ineg, 1)) (kk : zV p l e R s m args below meth c nL E Q ce sl σ (pc + 1) lv (.int (zI (-a)) :: st)) : zV p l e R s m args below meth c nL E Q ce sl σ pc lv (.int (zI a) :: st) := zv_ineg C hdg (zv_eqi (zI_neg a) kk)
theorem zv_lnegZ (C : zX p l s m args meth c cc own nL E) {a : Int} (hdg : decode cc pc = .ok (.lneg, 1)) (kk : zV p l e R s m args below meth c nL E Q ce sl σ (pc + 1) lv (.long (zL (-a)) :: st)) : zV p l e R s m args below meth c nL E Q ce sl σ pc lv (.long (zL a) :: st) := zv_lneg C hdg (zv_eql (zL_neg a) kk)
theorem zv_idivP (C : zX p l s m args meth c cc own nL E) {a b : Int} (ha : 0 ≤ a ∧ a < 2147483648) (hb : 0 < b ∧ b < 2147483648) (hdg : decode cc pc = .ok (.idiv, 1)) (kk : zV p l e R s m args below meth c nL E Q ce sl σ (pc + 1) lv (.int (zI (a / b)) :: st)) : zV p l e R s m args below meth c nL E Q ce sl σ pc lv (.int (zI b) :: .int (zI a) :: st) := zv_idiv C hdg (zI_ne0 (by omega) (by omega)) (zv_eqi (zI_div ha hb) kk)
theorem zv_iremP (C : zX p l s m args meth c cc own nL E) {a b : Int} (ha : 0 ≤ a ∧ a < 2147483648) (hb : 0 < b ∧ b < 2147483648) (hdg : decode cc pc = .ok (.irem, 1)) (kk : zV p l e R s m args below meth c nL E Q ce sl σ (pc + 1) lv (.int (zI (a % b)) :: st)) : zV p l e R s m args below meth c nL E Q ce sl σ pc lv (.int (zI b) :: .int (zI a) :: st) := zv_irem C hdg (zI_ne0 (by omega) (by omega)) (zv_eqi (zI_mod ha hb) kk)
theorem zv_idivT (C : zX p l s m args meth c cc own nL E) {a b : Int} (ha : -2147483648 < a ∧ a < 2147483648) (hb : 0 < b ∧ b < 2147483648) (hdg : decode cc pc = .ok (.idiv, 1)) (kk : zV p l e R s m args below meth c nL E Q ce sl σ (pc + 1) lv (.int (zI (a.tdiv b)) :: st)) : zV p l e R s m args below meth c nL E Q ce sl σ pc lv (.int (zI b) :: .int (zI a) :: st) := zv_idiv C hdg (zI_ne0 (by omega) (by omega)) (zv_eqi (zI_tdiv ha hb) kk)
theorem zv_ldivP (C : zX p l s m args meth c cc own nL E) {a b : Int} (ha : 0 ≤ a ∧ a < 9223372036854775808) (hb : 0 < b ∧ b < 9223372036854775808) (hdg : decode cc pc = .ok (.ldiv, 1)) (kk : zV p l e R s m args below meth c nL E Q ce sl σ (pc + 1) lv (.long (zL (a / b)) :: st)) : zV p l e R s m args below meth c nL E Q ce sl σ pc lv (.long (zL b) :: .long (zL a) :: st) := zv_ldiv C hdg (zL_ne0 (by omega) (by omega)) (zv_eql (zL_div ha hb) kk)
theorem zv_lremP (C : zX p l s m args meth c cc own nL E) {a b : Int} (ha : 0 ≤ a ∧ a < 9223372036854775808) (hb : 0 < b ∧ b < 9223372036854775808) (hdg : decode cc pc = .ok (.lrem, 1)) (kk : zV p l e R s m args below meth c nL E Q ce sl σ (pc + 1) lv (.long (zL (a % b)) :: st)) : zV p l e R s m args below meth c nL E Q ce sl σ pc lv (.long (zL b) :: .long (zL a) :: st) := zv_lrem C hdg (zL_ne0 (by omega) (by omega)) (zv_eql (zL_mod ha hb) kk)
theorem zv_ldivT (C : zX p l s m args meth c cc own nL E) {a b : Int} (ha : -9223372036854775808 < a ∧ a < 9223372036854775808) (hb : 0 < b ∧ b < 9223372036854775808) (hdg : decode cc pc = .ok (.ldiv, 1)) (kk : zV p l e R s m args below meth c nL E Q ce sl σ (pc + 1) lv (.long (zL (a.tdiv b)) :: st)) : zV p l e R s m args below meth c nL E Q ce sl σ pc lv (.long (zL b) :: .long (zL a) :: st) := zv_ldiv C hdg (zL_ne0 (by omega) (by omega)) (zv_eql (zL_tdiv ha hb) kk)
theorem zv_i2lZ (C : zX p l s m args meth c cc own nL E) {a : Int} (ha : -2147483648 ≤ a ∧ a < 2147483648) (hdg : decode cc pc = .ok (.i2l, 1)) (kk : zV p l e R s m args below meth c nL E Q ce sl σ (pc + 1) lv (.long (zL a) :: st)) : zV p l e R s m args below meth c nL E Q ce sl σ pc lv (.int (zI a) :: st) := zv_i2l C hdg (zv_eql (zI_l ha) kk)
theorem zv_l2iZ (C : zX p l s m args meth c cc own nL E) {a : Int} (hdg : decode cc pc = .ok (.l2i, 1)) (kk : zV p l e R s m args below meth c nL E Q ce sl σ (pc + 1) lv (.int (zI a) :: st)) : zV p l e R s m args below meth c nL E Q ce sl σ pc lv (.long (zL a) :: st) := zv_l2i C hdg (zv_eqi (zL_i a) kk)
theorem zv_icmp_eqZ (C : zX p l s m args meth c cc own nL E) {a b : Int} {off : Int} {tgt : Nat} (ha : -2147483648 ≤ a ∧ a < 2147483648) (hb : -2147483648 ≤ b ∧ b < 2147483648) (hdg : decode cc pc = .ok (.if_icmp .eq off, 3)) (ht : (pc : Int) + off = (tgt : Int)) (kt : a = b → zV p l e R s m args below meth c nL E Q ce sl σ tgt lv st) (kf : a ≠ b → zV p l e R s m args below meth c nL E Q ce sl σ (pc + 3) lv st) : zV p l e R s m args below meth c nL E Q ce sl σ pc lv (.int (zI b) :: .int (zI a) :: st) := zv_icmp_eq C hdg ht (fun h => kt (by have h := h; rw [zI_inj ha hb] at h; exact h)) (fun h => kf (by rw [zI_inj ha hb] at h; omega))
theorem zv_lc_eqZ (C : zX p l s m args meth c cc own nL E) {a b : Int} {off : Int} {tgt : Nat} (ha : -9223372036854775808 ≤ a ∧ a < 9223372036854775808) (hb : -9223372036854775808 ≤ b ∧ b < 9223372036854775808) (hdg : decode cc pc = .ok (.lcmp, 1)) (hd2 : decode cc (pc + 1) = .ok (.ifCond .eq off, 3)) (ht : ((pc + 1 : Nat) : Int) + off = (tgt : Int)) (kt : a = b → zV p l e R s m args below meth c nL E Q ce sl σ tgt lv st) (kf : a ≠ b → zV p l e R s m args below meth c nL E Q ce sl σ (pc + 4) lv st) : zV p l e R s m args below meth c nL E Q ce sl σ pc lv (.long (zL b) :: .long (zL a) :: st) := zv_lc_eq C hdg hd2 ht (fun h => kt (by have h := h; rw [zL_inj ha hb] at h; exact h)) (fun h => kf (by rw [zL_inj ha hb] at h; omega))
theorem zv_if_eqZ (C : zX p l s m args meth c cc own nL E) {a : Int} {off : Int} {tgt : Nat} (ha : -2147483648 ≤ a ∧ a < 2147483648) (hdg : decode cc pc = .ok (.ifCond .eq off, 3)) (ht : (pc : Int) + off = (tgt : Int)) (kt : a = 0 → zV p l e R s m args below meth c nL E Q ce sl σ tgt lv st) (kf : a ≠ 0 → zV p l e R s m args below meth c nL E Q ce sl σ (pc + 3) lv st) : zV p l e R s m args below meth c nL E Q ce sl σ pc lv (.int (zI a) :: st) := zv_if_eq C hdg ht (fun h => kt (by rw [show (0 : Int32) = zI 0 from rfl, zI_inj ha (by omega)] at h; exact h)) (fun h => kf (by rw [show (0 : Int32) = zI 0 from rfl, zI_inj ha (by omega)] at h; omega))
theorem zv_icmp_neZ (C : zX p l s m args meth c cc own nL E) {a b : Int} {off : Int} {tgt : Nat} (ha : -2147483648 ≤ a ∧ a < 2147483648) (hb : -2147483648 ≤ b ∧ b < 2147483648) (hdg : decode cc pc = .ok (.if_icmp .ne off, 3)) (ht : (pc : Int) + off = (tgt : Int)) (kt : a ≠ b → zV p l e R s m args below meth c nL E Q ce sl σ tgt lv st) (kf : a = b → zV p l e R s m args below meth c nL E Q ce sl σ (pc + 3) lv st) : zV p l e R s m args below meth c nL E Q ce sl σ pc lv (.int (zI b) :: .int (zI a) :: st) := zv_icmp_ne C hdg ht (fun h => kt (by rw [zI_inj ha hb] at h; exact h)) (fun h => kf (by rw [zI_inj ha hb] at h; omega))
theorem zv_lc_neZ (C : zX p l s m args meth c cc own nL E) {a b : Int} {off : Int} {tgt : Nat} (ha : -9223372036854775808 ≤ a ∧ a < 9223372036854775808) (hb : -9223372036854775808 ≤ b ∧ b < 9223372036854775808) (hdg : decode cc pc = .ok (.lcmp, 1)) (hd2 : decode cc (pc + 1) = .ok (.ifCond .ne off, 3)) (ht : ((pc + 1 : Nat) : Int) + off = (tgt : Int)) (kt : a ≠ b → zV p l e R s m args below meth c nL E Q ce sl σ tgt lv st) (kf : a = b → zV p l e R s m args below meth c nL E Q ce sl σ (pc + 4) lv st) : zV p l e R s m args below meth c nL E Q ce sl σ pc lv (.long (zL b) :: .long (zL a) :: st) := zv_lc_ne C hdg hd2 ht (fun h => kt (by rw [zL_inj ha hb] at h; exact h)) (fun h => kf (by rw [zL_inj ha hb] at h; omega))
theorem zv_if_neZ (C : zX p l s m args meth c cc own nL E) {a : Int} {off : Int} {tgt : Nat} (ha : -2147483648 ≤ a ∧ a < 2147483648) (hdg : decode cc pc = .ok (.ifCond .ne off, 3)) (ht : (pc : Int) + off = (tgt : Int)) (kt : a ≠ 0 → zV p l e R s m args below meth c nL E Q ce sl σ tgt lv st) (kf : a = 0 → zV p l e R s m args below meth c nL E Q ce sl σ (pc + 3) lv st) : zV p l e R s m args below meth c nL E Q ce sl σ pc lv (.int (zI a) :: st) := zv_if_ne C hdg ht (fun h => kt (by rw [show (0 : Int32) = zI 0 from rfl, zI_inj ha (by omega)] at h; exact h)) (fun h => kf (by rw [show (0 : Int32) = zI 0 from rfl, zI_inj ha (by omega)] at h; omega))
theorem zv_icmp_ltZ (C : zX p l s m args meth c cc own nL E) {a b : Int} {off : Int} {tgt : Nat} (ha : -2147483648 ≤ a ∧ a < 2147483648) (hb : -2147483648 ≤ b ∧ b < 2147483648) (hdg : decode cc pc = .ok (.if_icmp .lt off, 3)) (ht : (pc : Int) + off = (tgt : Int)) (kt : a < b → zV p l e R s m args below meth c nL E Q ce sl σ tgt lv st) (kf : b ≤ a → zV p l e R s m args below meth c nL E Q ce sl σ (pc + 3) lv st) : zV p l e R s m args below meth c nL E Q ce sl σ pc lv (.int (zI b) :: .int (zI a) :: st) := zv_icmp_lt C hdg ht (fun h => kt (by have h := h; rw [zI_lt ha hb] at h; exact h)) (fun h => kf (by rw [zI_lt ha hb] at h; omega))
theorem zv_lc_ltZ (C : zX p l s m args meth c cc own nL E) {a b : Int} {off : Int} {tgt : Nat} (ha : -9223372036854775808 ≤ a ∧ a < 9223372036854775808) (hb : -9223372036854775808 ≤ b ∧ b < 9223372036854775808) (hdg : decode cc pc = .ok (.lcmp, 1)) (hd2 : decode cc (pc + 1) = .ok (.ifCond .lt off, 3)) (ht : ((pc + 1 : Nat) : Int) + off = (tgt : Int)) (kt : a < b → zV p l e R s m args below meth c nL E Q ce sl σ tgt lv st) (kf : b ≤ a → zV p l e R s m args below meth c nL E Q ce sl σ (pc + 4) lv st) : zV p l e R s m args below meth c nL E Q ce sl σ pc lv (.long (zL b) :: .long (zL a) :: st) := zv_lc_lt C hdg hd2 ht (fun h => kt (by have h := h; rw [zL_lt ha hb] at h; exact h)) (fun h => kf (by rw [zL_lt ha hb] at h; omega))
theorem zv_if_ltZ (C : zX p l s m args meth c cc own nL E) {a : Int} {off : Int} {tgt : Nat} (ha : -2147483648 ≤ a ∧ a < 2147483648) (hdg : decode cc pc = .ok (.ifCond .lt off, 3)) (ht : (pc : Int) + off = (tgt : Int)) (kt : a < 0 → zV p l e R s m args below meth c nL E Q ce sl σ tgt lv st) (kf : 0 ≤ a → zV p l e R s m args below meth c nL E Q ce sl σ (pc + 3) lv st) : zV p l e R s m args below meth c nL E Q ce sl σ pc lv (.int (zI a) :: st) := zv_if_lt C hdg ht (fun h => kt (by rw [show (0 : Int32) = zI 0 from rfl, zI_lt ha (by omega)] at h; exact h)) (fun h => kf (by rw [show (0 : Int32) = zI 0 from rfl, zI_lt ha (by omega)] at h; omega))
theorem zv_icmp_geZ (C : zX p l s m args meth c cc own nL E) {a b : Int} {off : Int} {tgt : Nat} (ha : -2147483648 ≤ a ∧ a < 2147483648) (hb : -2147483648 ≤ b ∧ b < 2147483648) (hdg : decode cc pc = .ok (.if_icmp .ge off, 3)) (ht : (pc : Int) + off = (tgt : Int)) (kt : b ≤ a → zV p l e R s m args below meth c nL E Q ce sl σ tgt lv st) (kf : a < b → zV p l e R s m args below meth c nL E Q ce sl σ (pc + 3) lv st) : zV p l e R s m args below meth c nL E Q ce sl σ pc lv (.int (zI b) :: .int (zI a) :: st) := zv_icmp_ge C hdg ht (fun h => kt (by have h := h; rw [zI_le hb ha] at h; exact h)) (fun h => kf (by rw [zI_le hb ha] at h; omega))
theorem zv_lc_geZ (C : zX p l s m args meth c cc own nL E) {a b : Int} {off : Int} {tgt : Nat} (ha : -9223372036854775808 ≤ a ∧ a < 9223372036854775808) (hb : -9223372036854775808 ≤ b ∧ b < 9223372036854775808) (hdg : decode cc pc = .ok (.lcmp, 1)) (hd2 : decode cc (pc + 1) = .ok (.ifCond .ge off, 3)) (ht : ((pc + 1 : Nat) : Int) + off = (tgt : Int)) (kt : b ≤ a → zV p l e R s m args below meth c nL E Q ce sl σ tgt lv st) (kf : a < b → zV p l e R s m args below meth c nL E Q ce sl σ (pc + 4) lv st) : zV p l e R s m args below meth c nL E Q ce sl σ pc lv (.long (zL b) :: .long (zL a) :: st) := zv_lc_ge C hdg hd2 ht (fun h => kt (by have h := h; rw [zL_le hb ha] at h; exact h)) (fun h => kf (by rw [zL_le hb ha] at h; omega))
theorem zv_if_geZ (C : zX p l s m args meth c cc own nL E) {a : Int} {off : Int} {tgt : Nat} (ha : -2147483648 ≤ a ∧ a < 2147483648) (hdg : decode cc pc = .ok (.ifCond .ge off, 3)) (ht : (pc : Int) + off = (tgt : Int)) (kt : 0 ≤ a → zV p l e R s m args below meth c nL E Q ce sl σ tgt lv st) (kf : a < 0 → zV p l e R s m args below meth c nL E Q ce sl σ (pc + 3) lv st) : zV p l e R s m args below meth c nL E Q ce sl σ pc lv (.int (zI a) :: st) := zv_if_ge C hdg ht (fun h => kt (by rw [show (0 : Int32) = zI 0 from rfl, zI_le (by omega) ha] at h; exact h)) (fun h => kf (by rw [show (0 : Int32) = zI 0 from rfl, zI_le (by omega) ha] at h; omega))
theorem zv_icmp_gtZ (C : zX p l s m args meth c cc own nL E) {a b : Int} {off : Int} {tgt : Nat} (ha : -2147483648 ≤ a ∧ a < 2147483648) (hb : -2147483648 ≤ b ∧ b < 2147483648) (hdg : decode cc pc = .ok (.if_icmp .gt off, 3)) (ht : (pc : Int) + off = (tgt : Int)) (kt : b < a → zV p l e R s m args below meth c nL E Q ce sl σ tgt lv st) (kf : a ≤ b → zV p l e R s m args below meth c nL E Q ce sl σ (pc + 3) lv st) : zV p l e R s m args below meth c nL E Q ce sl σ pc lv (.int (zI b) :: .int (zI a) :: st) := zv_icmp_gt C hdg ht (fun h => kt (by have h := h; rw [zI_lt hb ha] at h; exact h)) (fun h => kf (by rw [zI_lt hb ha] at h; omega))
theorem zv_lc_gtZ (C : zX p l s m args meth c cc own nL E) {a b : Int} {off : Int} {tgt : Nat} (ha : -9223372036854775808 ≤ a ∧ a < 9223372036854775808) (hb : -9223372036854775808 ≤ b ∧ b < 9223372036854775808) (hdg : decode cc pc = .ok (.lcmp, 1)) (hd2 : decode cc (pc + 1) = .ok (.ifCond .gt off, 3)) (ht : ((pc + 1 : Nat) : Int) + off = (tgt : Int)) (kt : b < a → zV p l e R s m args below meth c nL E Q ce sl σ tgt lv st) (kf : a ≤ b → zV p l e R s m args below meth c nL E Q ce sl σ (pc + 4) lv st) : zV p l e R s m args below meth c nL E Q ce sl σ pc lv (.long (zL b) :: .long (zL a) :: st) := zv_lc_gt C hdg hd2 ht (fun h => kt (by have h := h; rw [zL_lt hb ha] at h; exact h)) (fun h => kf (by rw [zL_lt hb ha] at h; omega))
theorem zv_if_gtZ (C : zX p l s m args meth c cc own nL E) {a : Int} {off : Int} {tgt : Nat} (ha : -2147483648 ≤ a ∧ a < 2147483648) (hdg : decode cc pc = .ok (.ifCond .gt off, 3)) (ht : (pc : Int) + off = (tgt : Int)) (kt : 0 < a → zV p l e R s m args below meth c nL E Q ce sl σ tgt lv st) (kf : a ≤ 0 → zV p l e R s m args below meth c nL E Q ce sl σ (pc + 3) lv st) : zV p l e R s m args below meth c nL E Q ce sl σ pc lv (.int (zI a) :: st) := zv_if_gt C hdg ht (fun h => kt (by rw [show (0 : Int32) = zI 0 from rfl, zI_lt (by omega) ha] at h; exact h)) (fun h => kf (by rw [show (0 : Int32) = zI 0 from rfl, zI_lt (by omega) ha] at h; omega))
theorem zv_icmp_leZ (C : zX p l s m args meth c cc own nL E) {a b : Int} {off : Int} {tgt : Nat} (ha : -2147483648 ≤ a ∧ a < 2147483648) (hb : -2147483648 ≤ b ∧ b < 2147483648) (hdg : decode cc pc = .ok (.if_icmp .le off, 3)) (ht : (pc : Int) + off = (tgt : Int)) (kt : a ≤ b → zV p l e R s m args below meth c nL E Q ce sl σ tgt lv st) (kf : b < a → zV p l e R s m args below meth c nL E Q ce sl σ (pc + 3) lv st) : zV p l e R s m args below meth c nL E Q ce sl σ pc lv (.int (zI b) :: .int (zI a) :: st) := zv_icmp_le C hdg ht (fun h => kt (by have h := h; rw [zI_le ha hb] at h; exact h)) (fun h => kf (by rw [zI_le ha hb] at h; omega))
theorem zv_lc_leZ (C : zX p l s m args meth c cc own nL E) {a b : Int} {off : Int} {tgt : Nat} (ha : -9223372036854775808 ≤ a ∧ a < 9223372036854775808) (hb : -9223372036854775808 ≤ b ∧ b < 9223372036854775808) (hdg : decode cc pc = .ok (.lcmp, 1)) (hd2 : decode cc (pc + 1) = .ok (.ifCond .le off, 3)) (ht : ((pc + 1 : Nat) : Int) + off = (tgt : Int)) (kt : a ≤ b → zV p l e R s m args below meth c nL E Q ce sl σ tgt lv st) (kf : b < a → zV p l e R s m args below meth c nL E Q ce sl σ (pc + 4) lv st) : zV p l e R s m args below meth c nL E Q ce sl σ pc lv (.long (zL b) :: .long (zL a) :: st) := zv_lc_le C hdg hd2 ht (fun h => kt (by have h := h; rw [zL_le ha hb] at h; exact h)) (fun h => kf (by rw [zL_le ha hb] at h; omega))
theorem zv_if_leZ (C : zX p l s m args meth c cc own nL E) {a : Int} {off : Int} {tgt : Nat} (ha : -2147483648 ≤ a ∧ a < 2147483648) (hdg : decode cc pc = .ok (.ifCond .le off, 3)) (ht : (pc : Int) + off = (tgt : Int)) (kt : a ≤ 0 → zV p l e R s m args below meth c nL E Q ce sl σ tgt lv st) (kf : 0 < a → zV p l e R s m args below meth c nL E Q ce sl σ (pc + 3) lv st) : zV p l e R s m args below meth c nL E Q ce sl σ pc lv (.int (zI a) :: st) := zv_if_le C hdg ht (fun h => kt (by rw [show (0 : Int32) = zI 0 from rfl, zI_le ha (by omega)] at h; exact h)) (fun h => kf (by rw [show (0 : Int32) = zI 0 from rfl, zI_le ha (by omega)] at h; omega))
end
