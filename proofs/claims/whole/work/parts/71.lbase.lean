/-! THE CLAIM OUT OF ONE WALK OF THE LAW'S BODY. Your part is whole_start (and what it stands on); all else here is the same for every law, but numbers. -/
def R_law : String := "BallastLineLaw"
def lw_P (b : Addr) (xs : List Int32) (args : Array Value) (s : State) : Prop := args = #[.ref b] ∧ s.IntsAt b xs ∧ xs.length ≤ 3072 ∧ (Jvm.Cond.and given_1 narrow_1).before args s = true
def lw_Q (_ : Array Value) (s : State) (o : Outcome) (t : State) : Prop := o = .returned (some (.int 1)) ∧ Framed s o t [] 600000 7302250
def lw_Z (below : List Frame) (a : Array Value) (s : State) : State → Prop := fun t => ∃ o, t.status = .running ∧ Ended t below o ∧ lw_Q a s o t
/-- the law's own end, with 1 on the stack, nothing written that was there before, its room as the claim has it -/
theorem lw_ret {p : Program} {l : Launch} {e : Env} {s : State} {m : MethodId} {below : List Frame} {meth : Method} {c : Code} {b : Nat} (hx : p.tables.exec = Jvm.exec) (hb : c.code = code) (hr : meth.sig.returnType = ret) (hlocks : meth.locks = false) {pc : Nat} {H : Heap} {ls : Array Slot} (hdg : decode code pc = .ok (.ireturn, 1)) : W p l e room_1 s m #[Value.ref b] below meth c H [] 600000 7302250 (lw_Z below #[Value.ref b] s) (F0 m pc ls [.int 1]) := by
  intro T hT X
  obtain ⟨fs, hret, hrun, hended, hW, hframe⟩ := X.leave (v := some (.int 1)) (hlocks := hlocks) (fun h => by rw [hr] at h; cases h)
  have hmeth' : T.vm.method? m = some meth := X.method'
  refine ⟨T.setFrames fs, ?_, .returned (some (.int 1)), hrun, hended, rfl, ⟨_, rfl⟩, hW, hframe⟩
  jvm_step X.here [X.here.top, hx, hb, hdg, hmeth', hr, ret, narrow_b1]
  (try refine ⟨rfl, ?_⟩); (try refine ⟨rfl, ?_⟩)
  first | (intro acts; rw [hret _ acts rfl rfl rfl]) | rw [hret _ _ rfl rfl rfl]
  exact Steps.refl _
/-- what holds at the law's entry: the machine, the code, the tables' words (any of lw_tbl by 'hts w (by decide +kernel)'), the script of L ints xs at the cell b, what the Statement gives of the start (any of its parts by flat_of_before) -/
def lw_At (p : Program) (s : State) (m : MethodId) (meth : Method) (c : Code) (b L : Nat) (xs : Nat → Int32) : Prop :=
  p.tables.exec = Jvm.exec ∧ c.code = code ∧ meth.sig.returnType = ret ∧ c.maxLocals = 4 ∧ s.vm.findClass R_law = some m.cls ∧ (∀ w ∈ lw_tbl, w.before #[Value.ref b] s = true) ∧ va_X b L xs s s.heap ∧ b < s.heap.size ∧ meth.locks = false ∧ (Jvm.Cond.and given_1 narrow_1).before #[Value.ref b] s = true
abbrev xL (a a2 : Nat → Nat) (k k2 : Nat → ClassId) (B : RG) (L : Int64) (R T U V M : RG) (Lm : Int64) : va_W := xX a k B L R T U V ++ xM a2 k2 M Lm
abbrev tL (k k2 : Nat → ClassId) : List (ClassId × FieldType) := tX k ++ tM k2
set_option maxRecDepth 20000 in
theorem fr_L_X (a a2 : Nat → Nat) (k k2 : Nat → ClassId) (B : RG) (L : Int64) (R T U V M : RG) (Lm : Int64) (B1 : RG) (L1 : Int64) (R1 T1 U1 V1 : RG) : fr (xL a a2 k k2 B L R T U V M Lm) (xX a k B L R T U V) (xX a k B1 L1 R1 T1 U1 V1) (xL a a2 k k2 B1 L1 R1 T1 U1 V1 M Lm) := ⟨[0, 1, 2, 3, 4, 5, 6, 7, 8, 9, 10, 11, 12, 13, 14, 15, 16, 17, 18, 19, 20, 21, 22, 23, 24, 25, 26, 27, 28], [29, 30, 31, 32, 33, 34, 35, 36, 37, 38, 39, 40, 41, 42, 43, 44], [16, 17, 18, 19, 20, 21, 22, 23, 24, 25, 26, 27, 28, 29, 30, 31, 32, 33, 34, 35, 36, 37, 38, 39, 40, 41, 42, 43, 44, 0, 1, 2, 3, 4, 5, 6, 7, 8, 9, 10, 11, 12, 13, 14, 15], xM a2 k2 M Lm, rfl, rfl, by decide, rfl, by decide, by decide, rfl, by decide, rfl⟩
set_option maxRecDepth 20000 in
theorem fr_L_M (a a2 : Nat → Nat) (k k2 : Nat → ClassId) (B : RG) (L : Int64) (R T U V M : RG) (Lm : Int64) (M1 : RG) (Lm1 : Int64) : fr (xL a a2 k k2 B L R T U V M Lm) (xM a2 k2 M Lm) (xM a2 k2 M1 Lm1) (xL a a2 k k2 B L R T U V M1 Lm1) := ⟨[29, 30, 31, 32, 33, 34, 35, 36, 37, 38, 39, 40, 41, 42, 43, 44], [0, 1, 2, 3, 4, 5, 6, 7, 8, 9, 10, 11, 12, 13, 14, 15, 16, 17, 18, 19, 20, 21, 22, 23, 24, 25, 26, 27, 28], [0, 1, 2, 3, 4, 5, 6, 7, 8, 9, 10, 11, 12, 13, 14, 15, 16, 17, 18, 19, 20, 21, 22, 23, 24, 25, 26, 27, 28, 29, 30, 31, 32, 33, 34, 35, 36, 37, 38, 39, 40, 41, 42, 43, 44], xX a k B L R T U V, rfl, rfl, by decide, rfl, by decide, by decide, rfl, by decide, rfl⟩
theorem ks_L_X (k k2 : Nat → ClassId) : ks (tL k k2) (tX k) := ⟨[0, 1, 2, 3, 4, 5, 6, 7, 8, 9, 10, 11, 12, 13, 14, 15, 16, 17, 18, 19, 20, 21, 22, 23], rfl⟩
theorem ks_L_M (k k2 : Nat → ClassId) : ks (tL k k2) (tM k2) := ⟨[24, 25, 26, 27, 28, 29, 30, 31, 32, 33, 34, 35, 36, 37, 38], rfl⟩
theorem lgc_self (r : Int64) : lg_cmp r r = 0 := by
  unfold lg_cmp
  rw [if_neg (by rw [gt_iff_lt]; exact Int64.lt_irrefl), if_pos rfl]
theorem ixk (i : Nat) (q : Nat) {N : Nat} (h : i + q < N) (hN : N ≤ 3072) : vp_in (nI i + nI q) N := by
  rw [nI_add]
  exact vp_in_nI h (by omega)
