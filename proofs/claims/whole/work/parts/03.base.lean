-- ===== combinators of the decompiled functions =====
def inb (i : Int32) (n : Nat) : Bool := decide (0 ≤ i.toInt) && decide (i.toInt < (n : Int))
theorem inb_in {i : Int32} {n : Nat} (h : inb i n = true) : vp_in i n := vp_in_iff.mpr (by simpa [inb] using h)
def nz32 (x : Int32) : Bool := !(x == 0)
theorem nz32_s {x : Int32} (h : nz32 x = true) : ¬ x = 0 := by simpa [nz32] using h
def nz64 (x : Int64) : Bool := !(x == 0)
theorem nz64_s {x : Int64} (h : nz64 x = true) : ¬ x = 0 := by simpa [nz64] using h
def isb (x : Int32) : Bool := x == 0 || x == 1
theorem isb_s {x : Int32} (h : isb x = true) : narrow .boolean (.int x) = .int x := by
  have h1 : x = 0 ∨ x = 1 := by simpa [isb] using h
  rcases h1 with rfl | rfl <;> rfl
def gd {α : Type} (b : Bool) (x : Option α) : Option α := bif b then x else none
theorem gd_s {α : Type} {b : Bool} {x : Option α} {z : α} (h : gd b x = some z) : b = true ∧ x = some z := by
  cases b with
  | true => exact ⟨rfl, h⟩
  | false => cases h
def b1 {α γ : Type} (x : Option α) (f : α → Option γ) : Option γ := match x with
  | none => none
  | some a => f a
def b2 {α β γ : Type} (x : Option (α × β)) (f : α → β → Option γ) : Option γ := match x with
  | none => none
  | some (a, b) => f a b
def b3 {α β δ γ : Type} (x : Option (α × β × δ)) (f : α → β → δ → Option γ) : Option γ := match x with
  | none => none
  | some (a, b, d) => f a b d
theorem b1_s {α γ : Type} {x : Option α} {f : α → Option γ} {z : γ} (h : b1 x f = some z) : ∃ a, x = some a ∧ f a = some z := by
  cases x with
  | none => cases h
  | some a => exact ⟨a, rfl, h⟩
theorem b2_s {α β γ : Type} {x : Option (α × β)} {f : α → β → Option γ} {z : γ} (h : b2 x f = some z) : ∃ a b, x = some (a, b) ∧ f a b = some z := by
  cases x with
  | none => cases h
  | some a => exact ⟨a.1, a.2, rfl, h⟩
theorem b3_s {α β δ γ : Type} {x : Option (α × β × δ)} {f : α → β → δ → Option γ} {z : γ} (h : b3 x f = some z) : ∃ a b d, x = some (a, b, d) ∧ f a b d = some z := by
  cases x with
  | none => cases h
  | some a => exact ⟨a.1, a.2.1, a.2.2, rfl, h⟩
theorem it_t {α : Type} {c : Prop} [Decidable c] {A B : Option α} {z : α} (hc : c) (h : (if c then A else B) = some z) : A = some z := by rw [if_pos hc] at h; exact h
theorem it_f {α : Type} {c : Prop} [Decidable c] {A B : Option α} {z : α} (hc : ¬ c) (h : (if c then A else B) = some z) : B = some z := by rw [if_neg hc] at h; exact h
/-- region T, its row f at place i put to v -/
def st (T : Nat → Nat → Int32) (f i : Nat) (v : Int32) : Nat → Nat → Int32 := fun g => bif Nat.beq g f then upd (T f) i v else T g
theorem st_same (T : Nat → Nat → Int32) (f i : Nat) (v : Int32) : st T f i v f = upd (T f) i v := by simp [st]
theorem st_ne (T : Nat → Nat → Int32) {f g : Nat} (i : Nat) (v : Int32) (h : g ≠ f) : st T f i v g = T g := by
  have : Nat.beq g f = false := by rw [← Bool.not_eq_true, Nat.beq_eq]; exact h
  simp [st, this]
/-- region T, its row f put whole -/
def sw (T : Nat → Nat → Int32) (f : Nat) (v : Nat → Int32) : Nat → Nat → Int32 := fun g => bif Nat.beq g f then v else T g
-- ===== nest mates' words =====
def nwF : List (String × Nat × String × String × String × String) := [(RX4, 64, "BallastLine$Track", "kinds", "[I", RX4), (RX4, 79, "BallastLine$Track", "beds", "[I", RX4), (RX2, 53, "BallastLine$Track", "firmness", "[I", RX4), (RX4, 90, "BallastLine$Track", "firmness", "[I", RX4), (RX4, 93, "BallastLine$Track", "hundredths", "[I", RX4), (RX2, 36, "BallastLine$Track", "axlesOver", "[I", RX4), (RX4, 100, "BallastLine$Track", "axlesOver", "[I", RX4), (RX4, 71, "BallastLine$Track", "lost", "[Z", RX4), (RX2, 23, "BallastLine$Track", "size", "I", RX4), (RX4, 120, "BallastLine$Track", "size", "I", RX4), (RX4, 109, "BallastLine$Train", "weights", "[I", RX4), (RX4, 112, "BallastLine$Train", "sinkings", "[B", RX4), (RX4, 106, "BallastLine$Train", "axles", "I", RX4), (RX4, 143, "BallastLine$Runs", "rows", "[[I", RX4), (RX4, 152, "BallastLine$Runs", "there", "[Z", RX4), (RX4, 207, "BallastLine$Works", "size", "I", RX4)]
def nwM : List (String × Nat × MethodName × String) := [(RX4, 9, yX1_init, RX4), (RX4, 18, yX2_init, RX4), (RX4, 25, yX0_init, RX4), (RX4, 32, yX3_init, RX4), (RX4, 56, yX1_renew, RX4), (RX4, 60, yX1_has, RX4), (RX4, 67, yX1_setLost, RX4), (RX4, 82, yX1_setBed, RX4), (RX4, 96, yX1_isOf, RX4), (RX4, 103, yX1_height, RX4), (RX1, 70, yX4_floorShare, RX4), (RX4, 116, yX2_roll, RX4), (RX2, 32, yX1_jointAt, RX4), (RX2, 39, yX1_bears, RX4), (RX2, 46, yX1_has, RX4), (RX2, 49, yX4_cutShare, RX4), (RX2, 64, yX1_isOf, RX4), (RX2, 68, yX1_sink, RX4), (RX4, 123, yX1_standing, RX4), (RX4, 127, yX1_sumOfBeds, RX4), (RX4, 134, yX1_raise, RX4), (RX4, 140, yX0_open, RX4), (RX4, 147, yX1_chord, RX4), (RX4, 155, yX0_unbend, RX4), (RX4, 168, yX0_bestShift, RX4), (RX4, 172, yX0_squaresApart, RX4), (RX4, 176, yX0_steepest, RX4), (RX4, 179, yX0_stepAfter, RX4), (RX4, 192, yX1_sumOfStones, RX4), (RX4, 204, yX1_greatestChord, RX4), (RX4, 208, yX3_add, RX4), (RX4, 211, yX3_bestSet, RX4), (RX4, 214, yX3_gainOf, RX4), (RX4, 217, yX3_worstFirst, RX4), (RX4, 220, yX0_howMany, RX4), (RX4, 233, yX0_digestOn, RX4)]
def nw (U : State) : Prop := (∀ q ∈ nwF, va_Nw (.fieldLinkNest q.1 q.2.1 q.2.2.1 q.2.2.2.1 q.2.2.2.2.1 q.2.2.2.2.2) U) ∧ (∀ q ∈ nwM, va_Nw (.methodLinkNest q.1 q.2.1 q.2.2.1 q.2.2.2) U)
theorem nw.warm {s U : State} (hW : s.WarmedH U.vm) (h : nw s) : nw U := ⟨fun q hq => va_Nw.warmF hW (h.1 q hq), fun q hq => va_Nw.warmM hW (h.2 q hq)⟩
theorem nw.same {u U : State} (hv : u.vm = U.vm) (h : nw u) : nw U := ⟨fun q hq => va_Nw.same rfl hv (h.1 q hq), fun q hq => va_Nw.same rfl hv (h.2 q hq)⟩
-- ===== contracts of one form =====
abbrev mPc (D : va_G) (av : List Value) (wc : va_W) (tc : List (ClassId × FieldType)) (sz : Nat) : Array Value → State → Prop := va_Pc av (fun U => U.heap.size = sz ∧ nw U ∧ va_P D vwCl wc U.heap ∧ va_K D vwCl tc U ∧ va_D (fun _ => True) wc)
abbrev mQi (D : va_G) (wc w1 : va_W) (sz : Nat) (r0 : Int32) : Array Value → State → Outcome → State → Prop := va_Qi (S := Unit) (fun r _ => r = r0) (fun _ t => va_P D vwCl w1 t.heap ∧ va_D (va_A wc sz) w1) (va_A wc sz)
abbrev mQl (D : va_G) (wc w1 : va_W) (sz : Nat) (r0 : Int64) : Array Value → State → Outcome → State → Prop := va_Ql (S := Unit) (fun r _ => r = r0) (fun _ t => va_P D vwCl w1 t.heap ∧ va_D (va_A wc sz) w1) (va_A wc sz)
abbrev mQv (D : va_G) (wc w1 : va_W) (sz : Nat) : Array Value → State → Outcome → State → Prop := va_Qv (S := Unit) (fun _ => True) (fun _ t => va_P D vwCl w1 t.heap ∧ va_D (va_A wc sz) w1) (va_A wc sz)
theorem mPc_blind {D : va_G} {av : List Value} {wc : va_W} {tc : List (ClassId × FieldType)} {sz : Nat} : FrameBlind (mPc D av wc tc sz) := fun a U g mk q => by
  obtain ⟨q0, q1, q2, qP, qK, qD⟩ := q
  exact ⟨q0, q1, nw.same (u := U) (U := U.calling g mk a) rfl q2, qP, va_K.moved (u := U) (U := U.calling g mk a) (Vm.Alike.refl U.vm) qK, qD⟩
theorem mk_met {l : Launch} {y : MethodName} {ws ws' : List Cond} {rm : Room} {Qc : Array Value → State → Outcome → State → Prop} {free : Addr → Prop} {cc : ByteArray} {maxL : Nat} {ret : Option FieldType} {D : va_G} {av : List Value} {wc : va_W} {tc : List (ClassId × FieldType)} {sz : Nat} {mc ms : Nat}
    (hy : plainName y.cls = true) (hw : ws = Cond.code y cc maxL ret :: ws') (hmx : (lg_sl av).length ≤ maxL)
    (body : ∀ (p : Program) (e : Env) (s : State) (m : MethodId) (below : List Frame) (meth : Method) (c : Code), p.tables.exec = Jvm.exec → c.code = cc → meth.sig.returnType = ret → c.maxLocals = maxL → (∀ w ∈ ws, w.before av.toArray s = true) → s.vm.findClass y.cls = some m.cls → meth.name = y.name → meth.locks = false → nw s → s.heap.size = sz → va_K D vwCl tc s → va_P D vwCl wc s.heap → va_D (va_A wc sz) wc → va_S (va_A wc sz) s.heap s.heap [] → (∀ q : Nat, s.heap.size ≤ q → va_A wc sz q) → ∀ ls : Array Slot, lv_has ls maxL (lv_args 0 av) →
      W p l e rm s m av.toArray below meth c s.heap [] 0 0 (MQ below Qc av.toArray s mc ms free) (F0 m 0 ls [])) : Met l y ws rm (mPc D av wc tc sz) Qc mc ms free := by
  refine Met.ofW (cc := cc) (maxL := maxL) (ret := ret) hy hw ?_
  intro p e s m args below meth c s₁ B hml hv
  obtain ⟨rfl, hsz, hnw, hP, hK, hD0⟩ := hv
  have hl := lv_entry av (n := maxL) hmx
  rw [lg_entry_eq]
  exact body p e s m below meth c B.exec B.bytes B.returns hml (atoms_spec (ws := ws) B.pre) (findClass_of_methodNamed B.named) (name_of_methodNamed B.named B.method).1 B.notSynchronized hnw hsz hK hP (hD0.self) va_S.rf (fun q h => Or.inr (by rw [← hsz]; exact h)) _ hl
section RET
variable {p : Program} {l : Launch} {e : Env} {R : Room} {s : State} {m : MethodId} {args : Array Value} {below : List Frame} {meth : Method} {c : Code} {H : Heap} {locs : List Loc} {cells slots : Nat} {D : va_G} {wc w1 : va_W} {sz : Nat} {cc : ByteArray} {pc : Nat} {ls : Array Slot}
theorem r_i {v r0 : Int32} (hx : p.tables.exec = Jvm.exec) (hb : c.code = cc) (hr : meth.sig.returnType = some .int) (hlocks : meth.locks = false) (hv : v = r0) (hP : va_P D vwCl w1 H) (hD : va_D (va_A wc sz) w1) (hS : va_S (va_A wc sz) s.heap H locs) (hdg : decode cc pc = .ok (.ireturn, 1)) : W p l e R s m args below meth c H locs cells slots (MQ below (mQi D wc w1 sz r0) args s cells slots (va_A wc sz)) (F0 m pc ls [.int v]) :=
  W.iret hx hb hr (fun t ht hW => ⟨⟨v, (), rfl, hv, by rw [ht]; exact hP, hD⟩, hS.F ht⟩) hS.2.2 hdg hlocks
theorem r_z {v r0 : Int32} (hx : p.tables.exec = Jvm.exec) (hb : c.code = cc) (hr : meth.sig.returnType = some .boolean) (hn : narrow .boolean (.int v) = .int v) (hlocks : meth.locks = false) (hv : v = r0) (hP : va_P D vwCl w1 H) (hD : va_D (va_A wc sz) w1) (hS : va_S (va_A wc sz) s.heap H locs) (hdg : decode cc pc = .ok (.ireturn, 1)) : W p l e R s m args below meth c H locs cells slots (MQ below (mQi D wc w1 sz r0) args s cells slots (va_A wc sz)) (F0 m pc ls [.int v]) :=
  W.zret (ty := .boolean) hx hb hr hn (fun t ht hW => ⟨⟨v, (), rfl, hv, by rw [ht]; exact hP, hD⟩, hS.F ht⟩) hS.2.2 hdg hlocks
theorem r_l {v r0 : Int64} (hx : p.tables.exec = Jvm.exec) (hb : c.code = cc) (hr : meth.sig.returnType = some .long) (hlocks : meth.locks = false) (hv : v = r0) (hP : va_P D vwCl w1 H) (hD : va_D (va_A wc sz) w1) (hS : va_S (va_A wc sz) s.heap H locs) (hdg : decode cc pc = .ok (.lreturn, 1)) : W p l e R s m args below meth c H locs cells slots (MQ below (mQl D wc w1 sz r0) args s cells slots (va_A wc sz)) (F0 m pc ls [.long v]) :=
  W.lret hx hb hr (fun t ht hW => ⟨⟨v, (), rfl, hv, by rw [ht]; exact hP, hD⟩, hS.F ht⟩) hS.2.2 hdg hlocks
theorem r_v (hx : p.tables.exec = Jvm.exec) (hb : c.code = cc) (hr : meth.sig.returnType = none) (hlocks : meth.locks = false) (hP : va_P D vwCl w1 H) (hD : va_D (va_A wc sz) w1) (hS : va_S (va_A wc sz) s.heap H locs) (hdg : decode cc pc = .ok (.return_, 1)) : W p l e R s m args below meth c H locs cells slots (MQ below (mQv D wc w1 sz) args s cells slots (va_A wc sz)) (F0 m pc ls []) :=
  W.vret hx hb hr (fun t ht hW => ⟨⟨(), rfl, trivial, by rw [ht]; exact hP, hD⟩, hS.F ht⟩) hS.2.2 hdg hlocks
end RET
-- ===== calls =====
/-- the callee's world wc lies in ws; with w1 for it, ws' comes -/
def fr (ws wc w1 ws' : va_W) : Prop := ∃ (isC isR perm : List Nat) (wr : va_W), isC.map (fun i => ws[i]?) = wc.map some ∧ isC.filterMap (fun i => ws[i]?) = wc ∧ va_nd isC = true ∧ isR.map (fun i => ws[i]?) = wr.map some ∧ va_nd isR = true ∧ (∀ i ∈ isR, i ∉ isC) ∧ perm.filterMap (fun i => (wr ++ w1)[i]?) = ws' ∧ va_nd perm = true ∧ perm.map (fun i => (wr ++ w1)[i]?) = ws'.map some
def ks (tys tc : List (ClassId × FieldType)) : Prop := ∃ js : List Nat, js.filterMap (fun i => tys[i]?) = tc
def rcv (wc : va_W) (b : Nat) (C : String) : Prop := ∃ (q0 ci : Nat) (fs : List Value) (q : vw_C), vwCl[ci]? = some q ∧ q.1 = C ∧ wc[q0]? = some (b, .inr (ci, fs))
section CALL
variable {p : Program} {l : Launch} {e : Env} {R : Room} {s : State} {m : MethodId} {args : Array Value} {below : List Frame} {meth : Method} {c : Code} {H : Heap} {locs : List Loc} {cells slots : Nat} {D : va_G} {ws wc w1 ws' : va_W} {cc : ByteArray} {pc : Nat} {ls : Array Slot} {A : Nat → Prop} {tys tc : List (ClassId × FieldType)}
variable {y : MethodName} {bytes : ByteArray} {maxL nL n index : Nat} {ret : Option FieldType} {wsy : List Cond} {rm : Room} {Qc : Array Value → State → Outcome → State → Prop} {Ts : List Cond} {own C host : String} {b : Addr} {As rest st0 : List Value} {Q : State → Prop}
theorem pr_of (hnw : nw s) (hK : va_K D vwCl tys s) (hP : va_P D vwCl ws H) (hD : va_D A ws) (hfr : fr ws wc w1 ws') (hks : ks tys tc) (av : List Value) : ∀ U : State, U.heap = H → s.WarmedH U.vm → mPc D av wc tc H.size av.toArray U := by
  obtain ⟨isC, isR, perm, wr, h1, h2, h3, -⟩ := hfr
  obtain ⟨js, hj⟩ := hks
  intro U hU hW
  refine ⟨rfl, by rw [hU], nw.warm hW hnw, by rw [hU]; exact hP.sub isC h2, va_K.moved hW.alike (hK.sub js hj), (hD.sub isC h3 h1).weaken (fun _ _ _ _ => trivial)⟩
theorem run_V (S : CallFix p m c cc nL s args Ts own) (hnw : nw s) (hK : va_K D vwCl tys s) (hP : va_P D vwCl ws H) (hD : va_D A ws) (hfr : fr ws wc w1 ws') (hks : ks tys tc)
    (hM : Met l y wsy rm (mPc D (.ref b :: As) wc tc H.size) Qc 0 0 (va_A wc H.size)) (cw : CallW R s args own C index y bytes maxL ret wsy rm 0 0 n) (hrc : rcv wc b C)
    (hn : As.length = n) (hsize : ls.size = nL) (hst : st0 = As.reverse ++ .ref b :: rest) (hW : (rest.map fun v => v.category).sum ≤ 8) (hdg : decode cc pc = .ok (.invokevirtual index, 3)) (hf : cells ≤ R.cells ∧ slots ≤ R.slots) :
    va_Run p l e R s m args below meth c H locs cells slots 0 0 (F0 m pc ls st0) rest (Qc (Value.ref b :: As).toArray) (va_A wc H.size) := by
  have hp := pr_of hnw hK hP hD hfr hks (.ref b :: As)
  obtain ⟨isC, isR, perm, wr, h1, h2, h3, -⟩ := hfr
  obtain ⟨js, hj⟩ := hks
  obtain ⟨q0, ci, fs, q, g1, g2, g3⟩ := hrc
  subst g2
  exact va_runV S hM cw ⟨mPc_blind, va_recv (hK.sub js hj) (hP.sub isC h2) g1 g3, hp⟩ rfl hn hsize hst (lv_room hW) hdg hf
theorem run_VN (S : CallFix p m c cc nL s args Ts own) (hnw : nw s) (hK : va_K D vwCl tys s) (hP : va_P D vwCl ws H) (hD : va_D A ws) (hfr : fr ws wc w1 ws') (hks : ks tys tc)
    (hM : Met l y wsy rm (mPc D (.ref b :: As) wc tc H.size) Qc 0 0 (va_A wc H.size)) (cw : va_CN R s args own index y host bytes maxL ret wsy rm 0 0 n ∧ (Cond.instanceMethod y).before args s = true ∧ (Cond.selects C y y).before args s = true) (hrc : rcv wc b C)
    (hn : As.length = n) (hsize : ls.size = nL) (hst : st0 = As.reverse ++ .ref b :: rest) (hW : (rest.map fun v => v.category).sum ≤ 8) (hdg : decode cc pc = .ok (.invokevirtual index, 3)) (hf : cells ≤ R.cells ∧ slots ≤ R.slots) :
    va_Run p l e R s m args below meth c H locs cells slots 0 0 (F0 m pc ls st0) rest (Qc (Value.ref b :: As).toArray) (va_A wc H.size) := by
  have hp := pr_of hnw hK hP hD hfr hks (.ref b :: As)
  obtain ⟨isC, isR, perm, wr, h1, h2, h3, -⟩ := hfr
  obtain ⟨js, hj⟩ := hks
  obtain ⟨q0, ci, fs, q, g1, g2, g3⟩ := hrc
  subst g2
  exact va_runVN S hM cw ⟨mPc_blind, va_recv (hK.sub js hj) (hP.sub isC h2) g1 g3, hp⟩ rfl hn hsize hst (lv_room hW) hdg hf
theorem run_S (S : CallFix p m c cc nL s args Ts own) (hnw : nw s) (hK : va_K D vwCl tys s) (hP : va_P D vwCl ws H) (hD : va_D A ws) (hfr : fr ws wc w1 ws') (hks : ks tys tc)
    (hM : Met l y wsy rm (mPc D As wc tc H.size) Qc 0 0 (va_A wc H.size)) (cw : CallB R s args own index y bytes maxL ret wsy rm 0 0 n ∧ (Cond.static y).before args s = true)
    (hn : As.length = n) (hsize : ls.size = nL) (hst : st0 = As.reverse ++ rest) (hW : (rest.map fun v => v.category).sum ≤ 8) (hdg : decode cc pc = .ok (.invokestatic index, 3)) (hf : cells ≤ R.cells ∧ slots ≤ R.slots) :
    va_Run p l e R s m args below meth c H locs cells slots 0 0 (F0 m pc ls st0) rest (Qc As.toArray) (va_A wc H.size) :=
  va_runS S hM cw ⟨mPc_blind, pr_of hnw hK hP hD hfr hks As⟩ rfl hn hsize hst (lv_room hW) hdg hf
theorem run_SN (S : CallFix p m c cc nL s args Ts own) (hnw : nw s) (hK : va_K D vwCl tys s) (hP : va_P D vwCl ws H) (hD : va_D A ws) (hfr : fr ws wc w1 ws') (hks : ks tys tc)
    (hM : Met l y wsy rm (mPc D As wc tc H.size) Qc 0 0 (va_A wc H.size)) (cw : va_CN R s args own index y host bytes maxL ret wsy rm 0 0 n ∧ (Cond.static y).before args s = true ∧ True)
    (hn : As.length = n) (hsize : ls.size = nL) (hst : st0 = As.reverse ++ rest) (hW : (rest.map fun v => v.category).sum ≤ 8) (hdg : decode cc pc = .ok (.invokestatic index, 3)) (hf : cells ≤ R.cells ∧ slots ≤ R.slots) :
    va_Run p l e R s m args below meth c H locs cells slots 0 0 (F0 m pc ls st0) rest (Qc As.toArray) (va_A wc H.size) :=
  va_runSN S hM cw ⟨mPc_blind, pr_of hnw hK hP hD hfr hks As⟩ rfl hn hsize hst (lv_room hW) hdg hf
theorem bk_of {H1 : Heap} (hP : va_P D vwCl ws H) (hD : va_D A ws) (hfr : fr ws wc w1 ws') (hF : ∀ q, va_A wc H.size q → A q) (hk1 : ∀ q : Nat, q < H.size → ¬ va_A wc H.size q → H1[q]? = H[q]?) (hP1 : va_P D vwCl w1 H1) (hD1 : va_D (va_A wc H.size) w1) : va_P D vwCl ws' H1 ∧ va_D A ws' := by
  obtain ⟨isC, isR, perm, wr, h1, h2, h3, h4, h5, h6, h7, h8, h9⟩ := hfr
  obtain ⟨hP2, hD2⟩ := va_join hP hD isC isR h1 h4 h5 h6 hk1 hF hP1 hD1
  exact ⟨hP2.sub perm h7, hD2.sub perm h8 h9⟩
theorem fre_of (hD : va_D A ws) (hS : va_S A s.heap H locs) (hA : ∀ q, s.heap.size ≤ q → A q) (hfr : fr ws wc w1 ws') : ∀ q, va_A wc H.size q → A q := by
  obtain ⟨isC, isR, perm, wr, h1, -⟩ := hfr
  exact va_free hD hS hA isC h1
theorem go_i {r0 : Int32} {av : Array Value} (hr : va_Run p l e R s m args below meth c H locs cells slots 0 0 (F0 m pc ls st0) rest (mQi D wc w1 H.size r0 av) (va_A wc H.size)) (hP : va_P D vwCl ws H) (hD : va_D A ws) (hS : va_S A s.heap H locs) (hA : ∀ q, s.heap.size ≤ q → A q) (hfr : fr ws wc w1 ws')
    (kk : ∀ (H1 : Heap) (locs1 : List Loc), va_P D vwCl ws' H1 → va_D A ws' → va_S A s.heap H1 locs1 → W p l e R s m args below meth c H1 locs1 cells slots Q (F0 m (pc + 3) ls (.int r0 :: rest))) : W p l e R s m args below meth c H locs cells slots Q (F0 m pc ls st0) := by
  have hF := fre_of hD hS hA hfr
  refine va_calli hr hS (fun q _ h => hF q h) hF (fun r u t H1 locs1 ht hvm hw hB hz1 hk1 hS1 => ?_)
  obtain ⟨hP1, hD1⟩ := hB
  rw [ht] at hP1
  obtain ⟨a1, a2⟩ := bk_of hP hD hfr hF hk1 hP1 hD1
  have hw' : r = r0 := hw
  rw [hw']
  exact kk H1 locs1 a1 a2 hS1
theorem go_l {r0 : Int64} {av : Array Value} (hr : va_Run p l e R s m args below meth c H locs cells slots 0 0 (F0 m pc ls st0) rest (mQl D wc w1 H.size r0 av) (va_A wc H.size)) (hP : va_P D vwCl ws H) (hD : va_D A ws) (hS : va_S A s.heap H locs) (hA : ∀ q, s.heap.size ≤ q → A q) (hfr : fr ws wc w1 ws')
    (kk : ∀ (H1 : Heap) (locs1 : List Loc), va_P D vwCl ws' H1 → va_D A ws' → va_S A s.heap H1 locs1 → W p l e R s m args below meth c H1 locs1 cells slots Q (F0 m (pc + 3) ls (.long r0 :: rest))) : W p l e R s m args below meth c H locs cells slots Q (F0 m pc ls st0) := by
  have hF := fre_of hD hS hA hfr
  refine va_calll hr hS (fun q _ h => hF q h) hF (fun r u t H1 locs1 ht hvm hw hB hz1 hk1 hS1 => ?_)
  obtain ⟨hP1, hD1⟩ := hB
  rw [ht] at hP1
  obtain ⟨a1, a2⟩ := bk_of hP hD hfr hF hk1 hP1 hD1
  have hw' : r = r0 := hw
  rw [hw']
  exact kk H1 locs1 a1 a2 hS1
theorem go_v {av : Array Value} (hr : va_Run p l e R s m args below meth c H locs cells slots 0 0 (F0 m pc ls st0) rest (mQv D wc w1 H.size av) (va_A wc H.size)) (hP : va_P D vwCl ws H) (hD : va_D A ws) (hS : va_S A s.heap H locs) (hA : ∀ q, s.heap.size ≤ q → A q) (hfr : fr ws wc w1 ws')
    (kk : ∀ (H1 : Heap) (locs1 : List Loc), va_P D vwCl ws' H1 → va_D A ws' → va_S A s.heap H1 locs1 → W p l e R s m args below meth c H1 locs1 cells slots Q (F0 m (pc + 3) ls rest)) : W p l e R s m args below meth c H locs cells slots Q (F0 m pc ls st0) := by
  have hF := fre_of hD hS hA hfr
  refine va_callv hr hS (fun q _ h => hF q h) hF (fun u t H1 locs1 ht hvm hw hB hz1 hk1 hS1 => ?_)
  obtain ⟨hP1, hD1⟩ := hB
  rw [ht] at hP1
  obtain ⟨a1, a2⟩ := bk_of hP hD hfr hF hk1 hP1 hD1
  exact kk H1 locs1 a1 a2 hS1
/-- aaload on an array of int arrays -/
theorem va_aldA (hexec : p.tables.exec = Jvm.exec) (hb : c.code = cc) (hK : va_K D vwCl tys s) (hP : va_P D vwCl ws H) (q0 t0 : Nat) {cA : ClassId} {a n' : Nat} {f : Nat → Option Nat} (ha : ws[q0]? = some (a, .inl (cA, n', .inr (.inr (.inr (.inr f)))))) (ht : tys[t0]? = some (cA, .array .int)) {i : Int32} (hin : vp_in i n') (hdg : decode cc pc = .ok (.aaload, 1))
    (kk : W p l e R s m args below meth c H locs cells slots Q (F0 m (pc + 1) ls (va_rf (f i.toNatClampNeg) :: rest))) : W p l e R s m args below meth c H locs cells slots Q (F0 m pc ls (.int i :: .ref a :: rest)) := by
  have hlt : i.toNatClampNeg < n' := Nat.not_le.mp fun q => hin (Or.inr q)
  exact W.aald (v := va_rf (f i.toNatClampNeg)) (ty := .array .int) hexec hb (hP q0 _ ha) ((hK.2 t0 _ ht).1 n' (fun j => va_rf (f j))) rfl (fun q => by cases q) (by show ¬ (i < 0 ∨ (arrV _ _ _).slots.size ≤ _); rw [arrV_size]; exact hin) (by show (arrV _ _ _).slots[_]? = _; rw [arrV_read _ _ hlt]) rfl rfl hdg kk
end CALL
def ltt {α γ : Type} (v : α) (f : α → Option γ) : Option γ := f v
theorem ltt_s {α γ : Type} {v y : α} {f : α → Option γ} {z : γ} (e : y = v) (h : ltt v f = some z) : f y = some z := by rw [e]; exact h
theorem clt_of {i : Int32} {n : Nat} (h : inb i n = true) : Int32.toNatClampNeg i < n := Nat.not_le.mp fun q => (inb_in h) (Or.inr q)
def cpok (sp dp n : Int32) : Bool := decide (¬ sp < 0) && decide (¬ dp < 0) && decide (¬ n < 0) && decide (sp.toNatClampNeg + n.toNatClampNeg ≤ 40) && decide (dp.toNatClampNeg + n.toNatClampNeg ≤ 40)
theorem cpok_s {sp dp n : Int32} (h : cpok sp dp n = true) : ¬ sp < 0 ∧ ¬ dp < 0 ∧ ¬ n < 0 ∧ sp.toNatClampNeg + n.toNatClampNeg ≤ 40 ∧ dp.toNatClampNeg + n.toNatClampNeg ≤ 40 := by
  simp only [cpok, Bool.and_eq_true, decide_eq_true_eq] at h
  exact ⟨h.1.1.1.1, h.1.1.1.2, h.1.1.2, h.1.2, h.2⟩
