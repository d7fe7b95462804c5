/-! (for the last part: wants the whole library) the quotients of accuracy are numbers -/
theorem vf_64 {r : UInt64} (h : FP.Core.dIsNaN r = false) : vf_n64 r := by
  have h1 : ¬ 9218868437227405312 < r.toNat % 2 ^ 63 := fun q => by rw [(FP.Core.isNaN_bits r).mpr q] at h; cases h
  unfold vf_n64
  have e1 : (0x7fffffffffffffff : UInt64).toNat = 2 ^ 63 - 1 := by decide
  have e2 : (0x7ff0000000000000 : UInt64).toNat = 9218868437227405312 := by decide
  rw [UInt64.le_iff_toNat_le, UInt64.toNat_and, e1, e2, Nat.and_two_pow_sub_one_eq_mod]
  exact Nat.le_of_not_lt h1
theorem vf_32 {r : UInt32} (h : FP.Core.fIsNaN r = false) : vf_n32 r := by
  have h1 : ¬ 2139095040 < r.toNat % 2 ^ 31 := fun q => by rw [(FP.Core.isNaN_bits32 r).mpr q] at h; cases h
  unfold vf_n32
  have e1 : (0x7fffffff : UInt32).toNat = 2 ^ 31 - 1 := by decide
  have e2 : (0x7f800000 : UInt32).toNat = 2139095040 := by decide
  rw [UInt32.le_iff_toNat_le, UInt32.toNat_and, e1, e2, Nat.and_two_pow_sub_one_eq_mod]
  exact Nat.le_of_not_lt h1
theorem nan64 {r : UInt64} (h : r.toNat % 2 ^ 63 ≤ 9218868437227405312) : FP.Core.dIsNaN r = false := by
  cases q : FP.Core.dIsNaN r with
  | false => rfl
  | true => have := (FP.Core.isNaN_bits r).mp q; omega
/-- a quotient of two numbers of a middling size isn't 0 -/
theorem zf_div {x y : UInt64} (hx : 1023 * 2 ^ 52 ≤ x.toNat % 2 ^ 63 ∧ x.toNat % 2 ^ 63 < 2047 * 2 ^ 52) (hy : 1023 * 2 ^ 52 ≤ y.toNat % 2 ^ 63 ∧ y.toNat % 2 ^ 63 < 2047 * 2 ^ 52) : 1 ≤ (FP.Core.ddiv x y).toNat % 2 ^ 63 := by
  have hf := FP.Core.good_b64
  have h1 : (FP.Core.ddiv x y).toNat = FP.Core.div FP.Core.b64 x.toNat y.toNat := FP.Core.toNat_of64 (FP.Core.quotient_fits hf _ _)
  have hi : FP.Core.infBits FP.Core.b64 = 2047 * 2 ^ 52 := FP.Core.infBits_b64
  have ht := FP.Core.tails_b64
  have hq := FP.Core.qmin_b64
  rw [← FP.Core.mag_toNat64] at hx hy
  rw [← FP.Core.mag_toNat64, h1]
  obtain ⟨s, c, q, x1, x2, x3⟩ := FP.Core.fin_of_mag hf (n := x.toNat) (by rw [hi]; exact hx.2)
  obtain ⟨t, d, r, y1, y2, y3⟩ := FP.Core.fin_of_mag hf (n := y.toNat) (by rw [hi]; exact hy.2)
  have hd0 : d ≠ 0 := by
    rintro rfl
    have h2 : FP.Core.zmag FP.Core.b64 (.fin t 0 r) = 0 := Nat.zero_mul _
    have h3 := FP.Core.unitsOf_lt_iff (f := FP.Core.b64) (m := 0) (k := FP.Core.mag FP.Core.b64 y.toNat)
    rw [FP.Core.unitsOf_zero, ← y3, h2] at h3
    exact absurd (h3.mpr (Nat.lt_of_lt_of_le (by decide) hy.1)) (Nat.lt_irrefl 0)
  have hd : FP.Core.decode FP.Core.b64 (FP.Core.div FP.Core.b64 x.toNat y.toNat) = FP.Core.roundRatio FP.Core.b64 (s != t) c d (q - r) := by
    unfold FP.Core.div
    rw [FP.Core.decode_enc hf (FP.Core.quotient_fits hf _ _), x1, y1]
    simp only [FP.Core.quotient, if_neg hd0]
  have hx1 := x2.2.1
  have hy1 := y2.2.1
  rw [hq] at hx1 hy1
  have g0 : 0 < d := Nat.pos_of_ne_zero hd0
  have g1 : 2 * FP.Core.b64.qmin - r ≤ FP.Core.b64.qmin := by rw [hq]; omega
  have g2 : 2 * FP.Core.b64.qmin - r ≤ q - r := by rw [hq]; omega
  have g3 : 1 ≤ FP.Core.infBits FP.Core.b64 := by rw [hi]; decide
  have e1 : FP.Core.inUnits c (q - r) (2 * FP.Core.b64.qmin - r) = FP.Core.zmag FP.Core.b64 (.fin s c q) * 2 ^ 1074 := by
    have e9 : (q - r - (2 * FP.Core.b64.qmin - r)).toNat = (q - FP.Core.b64.qmin).toNat + 1074 := by rw [hq]; omega
    show c * 2 ^ (q - r - (2 * FP.Core.b64.qmin - r)).toNat = c * 2 ^ (q - FP.Core.b64.qmin).toNat * 2 ^ 1074
    rw [Nat.mul_assoc, ← Nat.pow_add, e9]
  have e2 : 2 ^ (FP.Core.b64.qmin - (2 * FP.Core.b64.qmin - r)).toNat * d = FP.Core.zmag FP.Core.b64 (.fin t d r) := by
    have e9 : (FP.Core.b64.qmin - (2 * FP.Core.b64.qmin - r)).toNat = (r - FP.Core.b64.qmin).toNat := by rw [hq]; omega
    show _ = d * 2 ^ (r - FP.Core.b64.qmin).toNat
    rw [Nat.mul_comm, e9]
  have u1 : FP.Core.unitsOf FP.Core.b64 1 = 1 := by
    unfold FP.Core.unitsOf
    rw [ht, if_pos (by decide)]
  have lx : 2 ^ (52 + 1022) ≤ FP.Core.zmag FP.Core.b64 (.fin s c q) := by
    have := FP.Core.unitsOf_le_iff (f := FP.Core.b64).mpr (show 1023 * FP.Core.b64.tails ≤ FP.Core.mag FP.Core.b64 x.toNat by rw [ht]; exact hx.1)
    rw [FP.Core.unitsOf_start (by decide), ht, ← Nat.pow_add] at this
    rw [x3]; exact this
  have uy : FP.Core.zmag FP.Core.b64 (.fin t d r) < 2 ^ (52 + 2046) := by
    have := (FP.Core.units_lt_start (f := FP.Core.b64) (show FP.Core.mag FP.Core.b64 y.toNat < 2047 * FP.Core.b64.tails by rw [ht]; exact hy.2)).2
    rw [ht, ← Nat.pow_add] at this
    rw [y3]; exact this
  refine FP.Core.mag_ge hf hd g0 (e0 := 2 * FP.Core.b64.qmin - r) g1 g2 g3 ?_
  rw [e1, Nat.mul_assoc, e2, u1, Nat.one_mul]
  refine Nat.le_trans (Nat.le_of_lt uy) (Nat.le_trans ?_ (Nat.mul_le_mul_right _ lx))
  rw [← Nat.pow_add]
  exact Nat.pow_le_pow_right (by decide) (by decide)
theorem zL_to {a : Int} (h : -9223372036854775808 ≤ a ∧ a < 9223372036854775808) (h0 : a ≠ 0) : (zL a).toInt ≠ 0 := by rw [zL_toInt h]; exact h0
theorem nan_q {a b : Int} (ha : -9223372036854775808 ≤ a ∧ a < 9223372036854775808) (hb : 1 ≤ b ∧ b < 9223372036854775808) : FP.Core.dIsNaN (FP.ddiv (FP.l2d (zL a)) (FP.l2d (zL b))) = false := by
  have h1 := FP.Core.l2d_mag (zL a)
  have h2 := FP.Core.l2d_big (zL_to (a := b) (by omega) (by omega))
  exact FP.Core.ddiv_out (nan64 (by show (FP.Core.l2d (zL a)).toNat % 2 ^ 63 ≤ _; omega)) (FP.Core.l2d_fin _) (fun z => by have := (FP.Core.zero_bits2 _).mp z; have h3 : (FP.Core.l2d (zL b)).toNat % 2 ^ 63 = 0 := this; omega)
theorem nan_q2 {a b c d : Int} (ha : -9223372036854775808 ≤ a ∧ a < 9223372036854775808) (hb : 1 ≤ b ∧ b < 9223372036854775808) (hc : -9223372036854775808 ≤ c ∧ c < 9223372036854775808) (hc0 : c ≠ 0) (hd : 1 ≤ d ∧ d < 9223372036854775808) : FP.Core.dIsNaN (FP.ddiv (FP.ddiv (FP.l2d (zL a)) (FP.l2d (zL b))) (FP.ddiv (FP.l2d (zL c)) (FP.l2d (zL d)))) = false := by
  have h1 := FP.Core.l2d_mag (zL c)
  have h2 := FP.Core.l2d_big (zL_to hc hc0)
  have h3 := FP.Core.l2d_big (zL_to (a := d) (by omega) (by omega))
  have h4 := FP.Core.ddiv_mag (K := 1088) (L := 1023) h1 h3.1 h3.2 (by decide) (by decide)
  have h5 := zf_div h2 h3
  exact FP.Core.ddiv_out (nan_q ha hb) ((FP.Core.fin_bits _).mpr (Nat.lt_of_lt_of_le h4 (by decide))) (fun z => by have := (FP.Core.zero_bits2 _).mp z; have h6 : (FP.Core.ddiv (FP.Core.l2d (zL c)) (FP.Core.l2d (zL d))).toNat % 2 ^ 63 = 0 := this; omega)
theorem zFN_ok : zFN := ⟨fun a b ha hb => vf_64 (nan_q ha hb), fun a b c d ha hb hc hc0 hd => vf_64 (nan_q2 ha hb hc hc0 hd)⟩
/-! THE CLAIM OUT OF ONE WALK OF THE LAW'S BODY. Your part is whole_start (and what it stands on); all else here is the same for every law, but numbers. -/
def R_law : String := "PlanetDriveLaw"
def lw_P (b : Addr) (xs : List Int32) (args : Array Value) (s : State) : Prop := args = #[.ref b] ∧ s.IntsAt b xs ∧ xs.length ≤ 3072 ∧ (Jvm.Cond.and given_1 narrow_1).before args s = true
/-- what a walk over the start with the record d0 says of its end, said of the start itself -/
theorem lw_closed {s t : State} {o : Outcome} {d0 : Drawn} {L : List Loc} {k n : Nat} (hd0 : s.drawn.sameBut d0 lw_cs) (hv : ∃ v, o = .returned v) (hW : (s.setDrawn d0).WarmedH t.vm) (hs : (s.setDrawn d0).sameButNew ({ t with vm := s.vm } : State) L k n) : State.butDraws s t lw_cs (fun t1 => Framed s o t1 L k n) := by
  have h2 : t.drawn = d0 := congrArg State.drawn hs.1
  refine ⟨⟨hv, hW, State.sameButNew.setDrawn hs s.drawn⟩, ?_, by decide⟩
  rw [h2]
  exact hd0
def lw_Q (_ : Array Value) (s : State) (o : Outcome) (t : State) : Prop := o = .returned (some (.int 1)) ∧ State.butDraws s t lw_cs (fun t1 => Framed s o t1 [] 601024 7293034)
def lw_Z (below : List Frame) (a : Array Value) (s : State) : State → Prop := fun t => ∃ o, t.status = .running ∧ Ended t below o ∧ lw_Q a s o t
/-- the law's own end, with 1 on the stack, nothing written that was there before, its room as the claim has it; d0: the record of draws at this point (at the entry s.drawn: begin with 'refine W.base ?_' and 'have hd0 := Drawn.sameBut.refl s.drawn lw_cs') -/
theorem lw_ret {p : Program} {l : Launch} {e : Env} {s : State} {m : MethodId} {below : List Frame} {meth : Method} {c : Code} {b : Nat} {d0 : Drawn} (hd0 : s.drawn.sameBut d0 lw_cs) (hx : p.tables.exec = Jvm.exec) (hb : c.code = code) (hr : meth.sig.returnType = ret) (hlocks : meth.locks = false) {pc : Nat} {H : Heap} {ls : Array Slot} (hdg : decode code pc = .ok (.ireturn, 1)) : W p l e room_1 (s.setDrawn d0) m #[Value.ref b] below meth c H [] 601024 7293034 (lw_Z below #[Value.ref b] s) (F0 m pc ls [.int 1]) := by
  intro T hT X
  obtain ⟨fs, hret, hrun, hended, hW, hframe⟩ := X.leave (v := some (.int 1)) (hlocks := hlocks) (fun h => by rw [hr] at h; cases h)
  have hmeth' : T.vm.method? m = some meth := X.method'
  refine ⟨T.setFrames fs, ?_, .returned (some (.int 1)), hrun, hended, rfl, lw_closed hd0 ⟨_, rfl⟩ hW hframe⟩
  jvm_step X.here [X.here.top, hx, hb, hdg, hmeth', hr, ret, narrow_b1]
  (try refine ⟨rfl, ?_⟩); (try refine ⟨rfl, ?_⟩)
  first | (intro acts; rw [hret _ acts rfl rfl rfl]) | rw [hret _ _ rfl rfl rfl]
  exact Steps.refl _
/-- what holds at the law's entry: the machine, the code, the tables' words (any of lw_tbl by 'hts w (by decide +kernel)'), the script of L ints xs at the cell b, what the Statement gives of the start (any of its parts by flat_of_before) -/
def lw_At (p : Program) (s : State) (m : MethodId) (meth : Method) (c : Code) (b L : Nat) (xs : Nat → Int32) : Prop :=
  p.tables.exec = Jvm.exec ∧ c.code = code ∧ meth.sig.returnType = ret ∧ c.maxLocals = 9 ∧ s.vm.findClass R_law = some m.cls ∧ (∀ w ∈ lw_tbl, w.before #[Value.ref b] s = true) ∧ va_X b L xs s s.heap ∧ b < s.heap.size ∧ meth.locks = false ∧ (Jvm.Cond.and given_1 narrow_1).before #[Value.ref b] s = true
-- ===== YOUR PART BEGINS =====
/-- YOUR PART: from the entry, for every script of at most 3072 ints, the law comes to its end with true ('hflags': the launch's flags, for a law that throws: no stack traces) -/
theorem whole_start {p : Program} {e : Env} {s : State} {m : MethodId} {below : List Frame} {meth : Method} {c : Code} (l : Launch) (hflags : l.flags = flags0) {b L : Nat} {xs : Nat → Int32} (hL : L ≤ 3072) (C0 : lw_At p s m meth c b L xs) : W p l e room_1 s m #[Value.ref b] below meth c s.heap [] 0 0 (lw_Z below #[Value.ref b] s) (entryFrame m ([Value.ref b] : List Value).toArray 9) := by
  obtain ⟨hx, hb, hr, hml, hown, hts, hX, hbl, hlocks, hgv⟩ := C0
  have hfl : l.stackTraces = false := by
    unfold Launch.stackTraces
    rw [hflags]
    decide
  have hs := flat_of_before _ hgv
  have ht : ∀ w ∈ zT, w.before #[Value.ref b] s = true := fun w hw => hts w (List.mem_filter.mp hw).1
  obtain ⟨E, hE, hKn, hCst⟩ := st_E hs hts
  have hsz : s.heap.size = ob E (0 + 0) := hE.symm
  have C : zYx p l s m #[Value.ref b] meth c cL_law RL 9 E 0 := ⟨hx, hb, hml, hown, ht, hKn, Nat.le_of_eq hsz.symm, hlocks⟩
  have CX : zX p l s m #[Value.ref b] meth c cL_law RL 9 E := ⟨hx, hb, hml, hown, ht, hKn.1, hCst, Nat.le_of_eq hE, hlocks, hfl⟩
  have W0 : zLW p l s m #[Value.ref b] meth c E b L xs := ⟨hfl, CX, hX, hbl, fun h => by
    have h2 : E.2.2.1 ≤ b := h
    omega, hL⟩
  have hd0 := Drawn.sameBut.refl s.drawn lw_cs
  have hroom : room_1.cells = 601024 ∧ room_1.slots = 7293034 := ⟨rfl, rfl⟩
  have hend : ∀ (σ : zS) (i ce sl : Nat), ce ≤ 5000 → sl ≤ 60000 → zV p l e room_1 s m #[Value.ref b] below meth c 9 E (lw_Z below #[Value.ref b] s) ce sl σ 3630 (lwL b i E) [] := fun σ i ce sl h1 h2 =>
    zv_iconst (v := 1) CX dL_law_3630 (by decide) (fun H locs ls hP hS hl => va_forget (fun q hq => by
      have h3 : E.2.2.1 ≤ q.base := hS.2.2 q hq
      omega) (W.widen (k := 601024) (n := 7293034) (by omega) (by omega) (lw_ret hd0 hx hb hr hlocks dL_law_3631)))
  have hgo := law_loop zFN_ok W0 hend (L + 6) 0 (clW zG0) D00 zNC zNS (by omega) (Nat.zero_le _) (by decide) (by decide) rel_0
  have h := law_start (b0 := b) C hgo s.heap [] _ ⟨hsz, fun k q hq => by
    obtain ⟨hk, -⟩ := zpW_in hq
    exact absurd hk (Nat.not_lt_zero k)⟩ va_S.rf (lv_entry [.ref b] (n := 9) (Nat.le_of_ble_eq_true rfl))
  rw [lg_entry_eq]
  exact h
-- ===== YOUR PART ENDS =====
set_option maxHeartbeats 4000000 in
theorem lw_walk (l : Launch) (hflags : l.flags = flags0) (b : Addr) (xs : List Int32) : MetFree l x (headSpec (Jvm.Cond.code x code maxLocals ret :: tables_1) room_1) (lw_P b xs) (fun _ _ _ _ _ => True) lw_Q := by
  refine MetFree.of_bodyS (code := code) (maxLocals := maxLocals) (ret := ret) (by decide) ?_ ?_
  · intro args s m h hn
    obtain ⟨meth, c, h1, h2, h3, h4, h5, h6, -, -⟩ := Cond.code_spec hn (atoms_spec (ws := Jvm.Cond.code x code maxLocals ret :: tables_1) h _ List.mem_cons_self)
    exact ⟨meth, c, h1, h2, h3, h4, h5, h6⟩
  · intro p e s m args below meth c s₁ B hml0 hP _
    obtain ⟨rfl, hx, hbd, hgv⟩ := hP
    obtain ⟨scr, harrAt, hlist, hof, hsmall⟩ := hx
    obtain ⟨hcb, hkn, -, -⟩ := State.arrayAt?_spec harrAt
    have hown : s.vm.findClass R_law = some m.cls := findClass_of_methodNamed B.named
    have hts0 : ∀ c ∈ (Jvm.Cond.code x code maxLocals ret :: tables_1), c.before #[Value.ref b] s = true := atoms_spec (ws := Jvm.Cond.code x code maxLocals ret :: tables_1) B.pre
    have hts : ∀ w ∈ lw_tbl, w.before #[Value.ref b] s = true := k2_hts_sels lw_privs (fun w hw => hts0 w (List.mem_cons_of_mem _ hw)) lw_privs_ok
    have hml : c.maxLocals = 9 := B.maxLocals_eq (hts0 _ List.mem_cons_self)
    have X₀ : Stand p l e room_1 s m #[Value.ref b] below meth c s₁ [] 0 0 := Stand.of_body B
    have hh0 : s₁.heap = s.heap := by rw [B.state]; rfl
    have hsz : scr.slots.size = xs.length := by rw [← Array.length_toList, hlist, List.length_map]
    have hval : ∀ j : Nat, j < xs.length → scr.slots[j]? = some (.int (xs.getD j 0)) := fun j hj => by
      rw [← Array.getElem?_toList, hlist]
      simp [hj]
    have hbl : b < s.heap.size := (Array.getElem?_eq_some_iff.mp hcb).1
    have hX : va_X b xs.length (fun j => xs.getD j 0) s s.heap := ⟨scr, hcb, hof, hkn, hsz, hval⟩
    have K : W p l e room_1 s m #[Value.ref b] below meth c s₁.heap [] 0 0 (lw_Z below #[Value.ref b] s) (entryFrame m ([Value.ref b] : List Value).toArray 9) := by
      rw [hh0]
      exact whole_start l hflags hbd ⟨B.exec, B.bytes, B.returns, hml, hown, hts, hX, hbl, B.notSynchronized, hgv⟩
    obtain ⟨t, a1, o, b1, b2, b3⟩ := K s₁ rfl X₀
    exact ⟨t, o, a1, b1, b2, b3⟩
theorem lw_pre_spec {args : Array Value} {s : State} (h : (Jvm.Cond.and given_1 narrow_1).before args s = true) (hr : rest_1_c.before args s = true) : ∃ (b : Addr) (xs : List Int32), lw_P b xs args s := by
  have hs := flat_of_before _ h
  have hq := flat_of_before _ hr
  have hc : (Cond.count 1).before args s = true := hs _ (by decide +kernel)
  have harr : (Cond.arrayOf (.arg 0) .int).before args s = true := hs _ (by decide +kernel)
  have hle : (Cond.le (.length (.arg 0)) (.int 3072)).before args s = true := hs _ (by decide +kernel)
  have hlen : (Cond.isInt (.length (.arg 0))).before args s = true := hq _ (by decide +kernel)
  have hall : (Cond.all (.arg 0) (.isInt (.elem (.arg 0) (.index 0)))).before args s = true := hq _ (by decide +kernel)
  obtain ⟨b, xs, hb, hx⟩ := State.ints_of_pre rfl harr hlen hall
  have hsm : xs.length < 2 ^ 31 := hx.choose_spec.2.2.2
  have hev : (Term.length (.arg 0)).eval args s none [] s = some (.int xs.length.toInt32) := hx.length_eval hb
  have hv := Cond.le_ints hev (show (Term.int 3072).eval args s none [] s = some (.int 3072) from rfl)
  have hd : xs.length.toInt32 ≤ 3072 := by
    simpa [Cond.before, Cond.holds, hv] using hle
  have hN : xs.length ≤ 3072 := (Int32.ofNat_le_ofNat hsm (by decide)).mp (show Int32.ofNat xs.length ≤ Int32.ofNat 3072 from hd)
  exact ⟨b, xs, Cond.one_arg hc (show args[0]? = some (.ref b) from hb), hx, hN, h⟩
theorem lw_comes (l : Launch) (hflags : l.flags = flags0) : Comes l x (Jvm.Cond.code x code maxLocals ret :: tables_1) room_1 (fun tb e args s => Calls_1 tb e args s ∧ rest_1 tb e args s ∧ Pre_1 tb e args s)
    (fun _ _ args s o t => lw_Q args s o t) := by
  intro p e ha hc hk s m args below hf hfit hheap happ hpre
  obtain ⟨b, xs, hP⟩ := lw_pre_spec hpre.2.2 hpre.2.1
  obtain ⟨k, o, h1, h2, h3, hQ⟩ := lw_walk l hflags b xs p e ha hc hk s m args below hf ((Spec.applies_iff_loose hf).mp happ).1 hP trivial
  exact ⟨k, o, h1, h2, h3, hQ⟩
theorem lw_frame {s t : State} {o : Outcome} {args : Array Value} (h : State.butDraws s t lw_cs (fun t1 => Framed s o t1 [] 601024 7293034)) :
    State.butDraws s t [Jvm.Choice.named "NaN.bits"] (fun t1 => Framed s o t1 (fieldLocs frame_1_writes args s ++ arrayLocs frame_1_arrays args s ++ staticLocs frame_1_statics s) 601024 7293034) := h
theorem lw_limb (L : Cond) (hL : ∀ (args : Array Value) (s t : State), L.after args s (.returned (some (.int 1))) t = true) :
    ArmFor flags0 classFile x code maxLocals ret World_1 tables_1 room_1 Calls_1 rest_1 Pre_1
      (fun tb e a s o t => postC L tb e a s o t ∧ State.butDraws s t [Jvm.Choice.named "NaN.bits"] (fun t1 => Framed s o t1 (fieldLocs frame_1_writes a s ++ arrayLocs frame_1_arrays a s ++ staticLocs frame_1_statics s) 601024 7293034)) := by
  intro l hflags _ _ p e ha hc hk s m args below hf hfit hheap happ hpre
  obtain ⟨k, o, h1, h2, h3, rfl, hF⟩ := lw_comes l hflags p e ha hc hk s m args below hf hfit hheap happ hpre
  exact ⟨k, _, h1, h2, h3, hL args s _, lw_frame hF⟩
theorem i_vc : Claimed_1_1 ∧ Claimed_1_2 := ⟨lw_limb limb_1_1 (fun args s t => by simp [limb_1_1, Cond.after, Cond.holds, Cond.value]), lw_limb limb_1_2 (fun args s t => Cond.after_iff.mpr (by
  first | (rw [show limb_1_2 = Cond.eq .result (.int 1) from rfl, Cond.eq_ints (x := 1) (y := 1) rfl rfl]; simp; done) | (simp [limb_1_2, Cond.value, Term.eval]; done)))⟩
