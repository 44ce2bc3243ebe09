def f_X0_open_J14  (p0 : Int32)  (s0 : Int32) (U : Nat → Nat → Int32) : Option (Int32 × (Nat → Nat → Int32)) := gd (inb p0 6) (ltt (st U 6 (Int32.toNatClampNeg p0) (vp_nar .boolean (1 : Int32))) (fun (U_2 : Nat → Nat → Int32) => some (s0, U_2)))
def f_X0_open (U0 : Nat → Nat → Int32) (p0 : Int32) : Option (Int32 × (Nat → Nat → Int32)) := gd (inb p0 6) (if (U0 6 (Int32.toNatClampNeg p0)) = (0 : Int32) then (f_X0_open_J14 p0 (0 : Int32) U0) else (f_X0_open_J14 p0 (1 : Int32) U0))
abbrev rm_X0_open : Room := { frames := 0, cells := 0, slots := 0, locals := 0 }
set_option maxHeartbeats 4000000 in
set_option maxRecDepth 100000 in
theorem c_X0_open (l : Launch) (D : va_G) (a : Nat → Nat) (k : Nat → ClassId) (sz : Nat) (U0 : Nat → Nat → Int32) (p0 : Int32) (r : Int32) (Uz : (Nat → Nat → Int32)) (h : f_X0_open U0 p0 = some (r, Uz)) : Met l yX0_open wsX0_open rm_X0_open (mPc D [.ref (a 11), .int p0] (xU a k U0) (tU k) sz) (mQi D (xU a k U0) (xU a k Uz) sz r) 0 0 (va_A (xU a k U0) sz) := by
  refine mk_met (cc := cX0_open) (maxL := 3) (ret := (some .int)) (by decide) rfl (Nat.le_of_ble_eq_true rfl) ?_
  intro p e s m below meth c hx hb hr hml hts hown hmn hlocks hnw hsz hK hP hD hS hA ls hl
  obtain ⟨A, hAe⟩ : ∃ A, A = va_A (xU a k U0) sz := ⟨_, rfl⟩
  rw [← hAe] at hD hS hA
  generalize hargs : List.toArray ([.ref (a 11), .int p0] : List Value) = args at hts ⊢
  generalize hQ : MQ below (mQi D (xU a k U0) (xU a k Uz) sz r) args s 0 0 (va_A (xU a k U0) sz) = Q
  have hl : lv_has ls 3 [(0, .ref (a 11)), (1, .int p0)] := hl
  have hin0 : ∀ w ∈ wsX00, w ∈ wsX0_open := fun w h => List.mem_cons_of_mem _ (List.mem_append_right _ h)
  have lb14 : ∀ (s0 : Int32) (U : Nat → Nat → Int32), ∀ (H : Heap) (locs : List Loc), va_P D vwCl (xU a k U) H → va_D A (xU a k U) → va_S A s.heap H locs → ∀ ls : Array Slot, lv_has ls 3 [(0, .ref (a 11)), (1, .int p0)] → f_X0_open_J14 p0 s0 U = some (r, Uz) → W p l e rm_X0_open s m args below meth c H locs 0 0 Q (F0 m 14 ls [.int s0]) := by
    intro  s0 U H locs hP hD hS ls hl h
    rw [f_X0_open_J14] at h
    refine lv_istore_n (lv' := [(2, .int s0), (0, .ref (a 11)), (1, .int p0)]) hx hb dX0_open_14 rfl hl (by decide) rfl (fun ls hl => ?_)
    refine lv_aload_n hx hb dX0_open_15 rfl (lv_at hl 1 rfl) ?_
    refine va_get (D := D) (ci := 0) (v := .ref (a 19)) (C := RX0) (T := TX0) (N := 2) hx hb hts hin0 hown hK hP 0 rfl rfl 1 (by decide) (hts (.fieldLink RX0 16 "BallastLine$Runs" "there" "[Z") (List.mem_of_getElem? (i := 1) rfl)) (fun _ h9 => h9) rfl dX0_open_16 ?_
    refine lv_iload_n hx hb dX0_open_19 rfl (lv_at hl 2 rfl) ?_
    refine lv_iconst (v := (1 : Int32)) hx hb dX0_open_20 (by decide) ?_
    obtain ⟨g1, h⟩ := gd_s h
    refine va_zast hx hb hK hP hD hS 8 7 rfl rfl (inb_in g1) dX0_open_21 (fun H locs hP hD hS => ?_)
    obtain ⟨U_2, eU_2⟩ : ∃ y : Nat → Nat → Int32, y = st U 6 (Int32.toNatClampNeg p0) (vp_nar .boolean (1 : Int32)) := ⟨_, rfl⟩
    have h := ltt_s eU_2 h
    have hP : va_P D vwCl (xU a k U_2) H := by rw [eU_2]; exact hP
    have hD : va_D A (xU a k U_2) := by rw [eU_2]; exact hD
    refine lv_iload_n hx hb dX0_open_22 rfl (lv_at hl 0 rfl) ?_
    have h := Option.some.inj h
    obtain ⟨hz0, h⟩ := Prod.mk.inj h
    have hP : va_P D vwCl (xU a k Uz) H := by rw [← h]; exact hP
    have hD : va_D A (xU a k Uz) := by rw [← h]; exact hD
    subst hQ
    subst hAe
    exact r_i hx hb hr hlocks hz0 hP hD hS dX0_open_23
  rw [f_X0_open] at h
  obtain ⟨H, hH⟩ : ∃ H, H = s.heap := ⟨_, rfl⟩
  obtain ⟨locs, hlc⟩ : ∃ L : List Loc, L = [] := ⟨_, rfl⟩
  rw [← hH] at hP
  have hS : va_S A s.heap H locs := by rw [hH, hlc]; exact hS
  suffices hW9 : W p l e rm_X0_open s m args below meth c H locs 0 0 Q (F0 m 0 ls []) by rw [hH, hlc] at hW9; exact hW9
  refine lv_aload_n hx hb dX0_open_0 rfl (lv_at hl 0 rfl) ?_
  refine va_get (D := D) (ci := 0) (v := .ref (a 19)) (C := RX0) (T := TX0) (N := 2) hx hb hts hin0 hown hK hP 0 rfl rfl 1 (by decide) (hts (.fieldLink RX0 16 "BallastLine$Runs" "there" "[Z") (List.mem_of_getElem? (i := 1) rfl)) (fun _ h9 => h9) rfl dX0_open_1 ?_
  refine lv_iload_n hx hb dX0_open_4 rfl (lv_at hl 1 rfl) ?_
  obtain ⟨g3, h⟩ := gd_s h
  refine va_zald hx hb hK hP 8 7 rfl rfl (inb_in g3) dX0_open_5 ?_
  refine lv_if_eq (tgt := 13) hx hb dX0_open_6 (by decide) (fun c4 => ?_) (fun c4 => ?_)
  · have h := it_t c4 h
    refine lv_iconst (v := (0 : Int32)) hx hb dX0_open_13 (by decide) ?_
    exact lb14  (0 : Int32) U0 H locs hP hD hS ls (lv_sub hl [0, 1] rfl) h
  · have h := it_f c4 h
    refine lv_iconst (v := (1 : Int32)) hx hb dX0_open_9 (by decide) ?_
    refine lv_goto (tgt := 14) hx hb dX0_open_10 (by decide) ?_
    exact lb14  (1 : Int32) U0 H locs hP hD hS ls (lv_sub hl [0, 1] rfl) h
def f_X0_howMany_J22 (U0 : Nat → Nat → Int32)  (ko4 : Int32 → Int32 → Option (Int32)) (x1 : Int32) (x2 : Int32) : Option (Int32) := ltt (x2 + (1 : Int32)) (fun v1 => ko4 x1 v1)
def f_X0_howMany_L4 (U0 : Nat → Nat → Int32)   : Nat → Int32 → Int32 → Option (Int32)
  | 0, _, _ => none
  | n + 1, x1, x2 => if (6 : Int32) ≤ x2 then (some x1) else (gd (inb x2 6) (if (U0 6 (Int32.toNatClampNeg x2)) = (0 : Int32) then (f_X0_howMany_J22 U0 (f_X0_howMany_L4 U0 n) x1 x2) else (ltt (x1 + (1 : Int32)) (fun v5 => f_X0_howMany_J22 U0 (f_X0_howMany_L4 U0 n) v5 x2))))
def f_X0_howMany (U0 : Nat → Nat → Int32)  : Option (Int32) := f_X0_howMany_L4 U0 64 (0 : Int32) (0 : Int32)
abbrev rm_X0_howMany : Room := { frames := 0, cells := 0, slots := 0, locals := 0 }
set_option maxHeartbeats 4000000 in
set_option maxRecDepth 100000 in
theorem c_X0_howMany (l : Launch) (D : va_G) (a : Nat → Nat) (k : Nat → ClassId) (sz : Nat) (U0 : Nat → Nat → Int32)  (r : Int32) (h : f_X0_howMany U0 = some r) : Met l yX0_howMany wsX0_howMany rm_X0_howMany (mPc D [.ref (a 11)] (xU a k U0) (tU k) sz) (mQi D (xU a k U0) (xU a k U0) sz r) 0 0 (va_A (xU a k U0) sz) := by
  refine mk_met (cc := cX0_howMany) (maxL := 3) (ret := (some .int)) (by decide) rfl (Nat.le_of_ble_eq_true rfl) ?_
  intro p e s m below meth c hx hb hr hml hts hown hmn hlocks hnw hsz hK hP hD hS hA ls hl
  obtain ⟨A, hAe⟩ : ∃ A, A = va_A (xU a k U0) sz := ⟨_, rfl⟩
  rw [← hAe] at hD hS hA
  generalize hargs : List.toArray ([.ref (a 11)] : List Value) = args at hts ⊢
  generalize hQ : MQ below (mQi D (xU a k U0) (xU a k U0) sz r) args s 0 0 (va_A (xU a k U0) sz) = Q
  have hl : lv_has ls 3 [(0, .ref (a 11))] := hl
  have hin0 : ∀ w ∈ wsX00, w ∈ wsX0_howMany := fun w h => List.mem_cons_of_mem _ (List.mem_append_right _ h)
  have lb22 : ∀ (ko4 : Int32 → Int32 → Option (Int32)), (∀ (x1 : Int32) (x2 : Int32), ∀ (H : Heap) (locs : List Loc), va_P D vwCl (xU a k U0) H → va_D A (xU a k U0) → va_S A s.heap H locs → ∀ ls : Array Slot, lv_has ls 3 [(0, .ref (a 11)), (1, .int x1), (2, .int x2)] → ko4 x1 x2 = some r → W p l e rm_X0_howMany s m args below meth c H locs 0 0 Q (F0 m 4 ls [])) → ∀ (x1 : Int32) (x2 : Int32), ∀ (H : Heap) (locs : List Loc), va_P D vwCl (xU a k U0) H → va_D A (xU a k U0) → va_S A s.heap H locs → ∀ ls : Array Slot, lv_has ls 3 [(0, .ref (a 11)), (1, .int x1), (2, .int x2)] → f_X0_howMany_J22 U0 ko4 x1 x2 = some r → W p l e rm_X0_howMany s m args below meth c H locs 0 0 Q (F0 m 22 ls []) := by
    intro ko4 hko4 x1 x2 H locs hP hD hS ls hl h
    rw [f_X0_howMany_J22] at h
    obtain ⟨v1, ev1⟩ : ∃ y : Int32, y = x2 + (1 : Int32) := ⟨_, rfl⟩
    have h := ltt_s ev1 h
    refine lv_iinc (v := v1) (lv' := [(2, .int v1), (0, .ref (a 11)), (1, .int x1)]) hx hb dX0_howMany_22 hl (k := 2) rfl (by rw [ev1]; rfl) (by decide) rfl (fun ls hl => ?_)
    refine lv_goto (tgt := 4) hx hb dX0_howMany_25 (by decide) ?_
    exact hko4 x1 v1 H locs hP hD hS ls (lv_sub hl [1, 2, 0] rfl) h
  have lb4 : ∀ (n : Nat), ∀ (x1 : Int32) (x2 : Int32), ∀ (H : Heap) (locs : List Loc), va_P D vwCl (xU a k U0) H → va_D A (xU a k U0) → va_S A s.heap H locs → ∀ ls : Array Slot, lv_has ls 3 [(0, .ref (a 11)), (1, .int x1), (2, .int x2)] → f_X0_howMany_L4 U0 n x1 x2 = some r → W p l e rm_X0_howMany s m args below meth c H locs 0 0 Q (F0 m 4 ls []) := by
    intro n
    induction n with
    | zero =>
      intro x1 x2 H locs hP hD hS ls hl h
      rw [f_X0_howMany_L4] at h
      cases h
    | succ n ih =>
      intro x1 x2 H locs hP hD hS ls hl h
      rw [f_X0_howMany_L4] at h
      refine lv_iload_n hx hb dX0_howMany_4 rfl (lv_at hl 2 rfl) ?_
      refine lv_bipush (v := (6 : Int32)) hx hb dX0_howMany_5 (by decide) ?_
      refine lv_icmp_ge (tgt := 28) hx hb dX0_howMany_7 (by decide) (fun c2 => ?_) (fun c2 => ?_)
      · have h := it_t c2 h
        refine lv_iload_n hx hb dX0_howMany_28 rfl (lv_at hl 1 rfl) ?_
        have h := Option.some.inj h
        subst hQ
        subst hAe
        exact r_i hx hb hr hlocks h hP hD hS dX0_howMany_29
      · have h := it_f c2 h
        refine lv_aload_n hx hb dX0_howMany_10 rfl (lv_at hl 0 rfl) ?_
        refine va_get (D := D) (ci := 0) (v := .ref (a 19)) (C := RX0) (T := TX0) (N := 2) hx hb hts hin0 hown hK hP 0 rfl rfl 1 (by decide) (hts (.fieldLink RX0 16 "BallastLine$Runs" "there" "[Z") (List.mem_of_getElem? (i := 1) rfl)) (fun _ h9 => h9) rfl dX0_howMany_11 ?_
        refine lv_iload_n hx hb dX0_howMany_14 rfl (lv_at hl 2 rfl) ?_
        obtain ⟨g3, h⟩ := gd_s h
        refine va_zald hx hb hK hP 8 7 rfl rfl (inb_in g3) dX0_howMany_15 ?_
        refine lv_if_eq (tgt := 22) hx hb dX0_howMany_16 (by decide) (fun c4 => ?_) (fun c4 => ?_)
        · have h := it_t c4 h
          exact lb22 (f_X0_howMany_L4 U0 n) ih x1 x2 H locs hP hD hS ls (lv_sub hl [0, 1, 2] rfl) h
        · have h := it_f c4 h
          obtain ⟨v5, ev5⟩ : ∃ y : Int32, y = x1 + (1 : Int32) := ⟨_, rfl⟩
          have h := ltt_s ev5 h
          refine lv_iinc (v := v5) (lv' := [(1, .int v5), (0, .ref (a 11)), (2, .int x2)]) hx hb dX0_howMany_19 hl (k := 1) rfl (by rw [ev5]; rfl) (by decide) rfl (fun ls hl => ?_)
          exact lb22 (f_X0_howMany_L4 U0 n) ih v5 x2 H locs hP hD hS ls (lv_sub hl [1, 0, 2] rfl) h
  rw [f_X0_howMany] at h
  obtain ⟨H, hH⟩ : ∃ H, H = s.heap := ⟨_, rfl⟩
  obtain ⟨locs, hlc⟩ : ∃ L : List Loc, L = [] := ⟨_, rfl⟩
  rw [← hH] at hP
  have hS : va_S A s.heap H locs := by rw [hH, hlc]; exact hS
  suffices hW9 : W p l e rm_X0_howMany s m args below meth c H locs 0 0 Q (F0 m 0 ls []) by rw [hH, hlc] at hW9; exact hW9
  refine lv_iconst (v := (0 : Int32)) hx hb dX0_howMany_0 (by decide) ?_
  refine lv_istore_n (lv' := [(1, .int (0 : Int32)), (0, .ref (a 11))]) hx hb dX0_howMany_1 rfl hl (by decide) rfl (fun ls hl => ?_)
  refine lv_iconst (v := (0 : Int32)) hx hb dX0_howMany_2 (by decide) ?_
  refine lv_istore_n (lv' := [(2, .int (0 : Int32)), (1, .int (0 : Int32)), (0, .ref (a 11))]) hx hb dX0_howMany_3 rfl hl (by decide) rfl (fun ls hl => ?_)
  exact lb4 64 (0 : Int32) (0 : Int32) H locs hP hD hS ls (lv_sub hl [2, 1, 0] rfl) h
def f_X0_unbend_L84  (p0 : Int32) (p1 : Int32) (p2 : Int32) (p3 : Int32)  : Nat → Nat → Int32 → (Nat → Nat → Int32) → Option ((Nat → Nat → Int32))
  | 0, _, _, _ => none
  | n + 1, q5, x7, U => if (40 : Int32) ≤ x7 then (some U) else (gd (inb x7 40) (ltt (st U q5 (Int32.toNatClampNeg x7) (0 : Int32)) (fun (U_3 : Nat → Nat → Int32) => ltt (x7 + (1 : Int32)) (fun v4 => f_X0_unbend_L84 p0 p1 p2 p3 n q5 v4 U_3))))
def f_X0_unbend_L27  (p0 : Int32) (p1 : Int32) (p2 : Int32) (p3 : Int32)  : Nat → Nat → Int32 → Int32 → (Nat → Nat → Int32) → Option ((Nat → Nat → Int32))
  | 0, _, _, _, _ => none
  | n + 1, q5, x6, x7, U => if (p3 - (2 : Int32)) < x7 then (f_X0_unbend_L84 p0 p1 p2 p3 64 q5 p3 U) else (gd (inb (x7 + (1 : Int32)) 40) (ltt ((U q5 (Int32.toNatClampNeg (x7 + (1 : Int32))))) (fun v7 => gd (inb x7 40) (gd (inb (x7 - (1 : Int32)) 40) (gd (inb (x7 + (1 : Int32)) 40) (ltt (st U q5 (Int32.toNatClampNeg (x7 + (1 : Int32))) ((((2 : Int32) * (U q5 (Int32.toNatClampNeg x7))) - (U q5 (Int32.toNatClampNeg (x7 - (1 : Int32))))) - x6)) (fun (U_11 : Nat → Nat → Int32) => ltt (x7 + (1 : Int32)) (fun v12 => f_X0_unbend_L27 p0 p1 p2 p3 n q5 v7 v12 U_11))))))))
def f_X0_unbend (U0 : Nat → Nat → Int32) (p0 : Int32) (p1 : Int32) (p2 : Int32) (p3 : Int32) : Option ((Nat → Nat → Int32)) := gd (inb p0 6) (ltt (Int32.toNatClampNeg p0) (fun q_14 => gd (inb (1 : Int32) 40) (ltt ((U0 q_14 (Int32.toNatClampNeg (1 : Int32)))) (fun v16 => gd (inb (0 : Int32) 40) (ltt (st U0 q_14 (Int32.toNatClampNeg (0 : Int32)) p1) (fun (U_18 : Nat → Nat → Int32) => gd (inb (1 : Int32) 40) (ltt (st U_18 q_14 (Int32.toNatClampNeg (1 : Int32)) p2) (fun (U_20 : Nat → Nat → Int32) => f_X0_unbend_L27 p0 p1 p2 p3 64 q_14 v16 (1 : Int32) U_20))))))))
abbrev rm_X0_unbend : Room := { frames := 0, cells := 0, slots := 0, locals := 0 }
set_option maxHeartbeats 4000000 in
set_option maxRecDepth 100000 in
theorem c_X0_unbend (l : Launch) (D : va_G) (a : Nat → Nat) (k : Nat → ClassId) (sz : Nat) (U0 : Nat → Nat → Int32) (p0 : Int32) (p1 : Int32) (p2 : Int32) (p3 : Int32) (Uz : (Nat → Nat → Int32)) (h : f_X0_unbend U0 p0 p1 p2 p3 = some Uz) : Met l yX0_unbend wsX0_unbend rm_X0_unbend (mPc D [.ref (a 11), .int p0, .int p1, .int p2, .int p3] (xU a k U0) (tU k) sz) (mQv D (xU a k U0) (xU a k Uz) sz) 0 0 (va_A (xU a k U0) sz) := by
  refine mk_met (cc := cX0_unbend) (maxL := 9) (ret := none) (by decide) rfl (Nat.le_of_ble_eq_true rfl) ?_
  intro p e s m below meth c hx hb hr hml hts hown hmn hlocks hnw hsz hK hP hD hS hA ls hl
  obtain ⟨A, hAe⟩ : ∃ A, A = va_A (xU a k U0) sz := ⟨_, rfl⟩
  rw [← hAe] at hD hS hA
  generalize hargs : List.toArray ([.ref (a 11), .int p0, .int p1, .int p2, .int p3] : List Value) = args at hts ⊢
  generalize hQ : MQ below (mQv D (xU a k U0) (xU a k Uz) sz) args s 0 0 (va_A (xU a k U0) sz) = Q
  have hl : lv_has ls 9 [(0, .ref (a 11)), (1, .int p0), (2, .int p1), (3, .int p2), (4, .int p3)] := hl
  have hin0 : ∀ w ∈ wsX00, w ∈ wsX0_unbend := fun w h => List.mem_cons_of_mem _ (List.mem_append_right _ h)
  have lb84 : ∀ (n : Nat), ∀ (q5 : Nat) (x7 : Int32) (U : Nat → Nat → Int32), (q5 < 6) → ∀ (H : Heap) (locs : List Loc), va_P D vwCl (xU a k U) H → va_D A (xU a k U) → va_S A s.heap H locs → ∀ ls : Array Slot, lv_has ls 9 [(5, .ref (a (13 + q5))), (7, .int x7)] → f_X0_unbend_L84 p0 p1 p2 p3 n q5 x7 U = some Uz → W p l e rm_X0_unbend s m args below meth c H locs 0 0 Q (F0 m 84 ls []) := by
    intro n
    induction n with
    | zero =>
      intro q5 x7 U hq5 H locs hP hD hS ls hl h
      rw [f_X0_unbend_L84] at h
      cases h
    | succ n ih =>
      intro q5 x7 U hq5 H locs hP hD hS ls hl h
      rw [f_X0_unbend_L84] at h
      refine lv_iload hx hb dX0_unbend_84 (lv_at hl 1 rfl) ?_
      refine lv_bipush (v := (40 : Int32)) hx hb dX0_unbend_86 (by decide) ?_
      refine lv_icmp_ge (tgt := 103) hx hb dX0_unbend_88 (by decide) (fun c1 => ?_) (fun c1 => ?_)
      · have h := it_t c1 h
        have h := Option.some.inj h
        have hP : va_P D vwCl (xU a k Uz) H := by rw [← h]; exact hP
        have hD : va_D A (xU a k Uz) := by rw [← h]; exact hD
        subst hQ
        subst hAe
        exact r_v hx hb hr hlocks hP hD hS dX0_unbend_103
      · have h := it_f c1 h
        refine lv_aload hx hb dX0_unbend_91 (lv_at hl 0 rfl) ?_
        refine lv_iload hx hb dX0_unbend_93 (lv_at hl 1 rfl) ?_
        refine lv_iconst (v := (0 : Int32)) hx hb dX0_unbend_95 (by decide) ?_
        obtain ⟨g2, h⟩ := gd_s h
        refine va_iast hx hb hK hP hD hS (2 + q5) (1 + q5) (rowat_U a k U q5 hq5) (rowty_U k q5 hq5) (inb_in g2) dX0_unbend_96 (fun H locs hP hD hS => ?_)
        rw [rowset_U a k U q5 hq5] at hP hD
        obtain ⟨U_3, eU_3⟩ : ∃ y : Nat → Nat → Int32, y = st U q5 (Int32.toNatClampNeg x7) (0 : Int32) := ⟨_, rfl⟩
        have h := ltt_s eU_3 h
        have hP : va_P D vwCl (xU a k U_3) H := by rw [eU_3]; exact hP
        have hD : va_D A (xU a k U_3) := by rw [eU_3]; exact hD
        obtain ⟨v4, ev4⟩ : ∃ y : Int32, y = x7 + (1 : Int32) := ⟨_, rfl⟩
        have h := ltt_s ev4 h
        refine lv_iinc (v := v4) (lv' := [(7, .int v4), (5, .ref (a (13 + q5)))]) hx hb dX0_unbend_97 hl (k := 1) rfl (by rw [ev4]; rfl) (by decide) rfl (fun ls hl => ?_)
        refine lv_goto (tgt := 84) hx hb dX0_unbend_100 (by decide) ?_
        exact ih q5 v4 U_3 hq5 H locs hP hD hS ls (lv_sub hl [1, 0] rfl) h
  have lb27 : ∀ (n : Nat), ∀ (q5 : Nat) (x6 : Int32) (x7 : Int32) (U : Nat → Nat → Int32), (q5 < 6) → ∀ (H : Heap) (locs : List Loc), va_P D vwCl (xU a k U) H → va_D A (xU a k U) → va_S A s.heap H locs → ∀ ls : Array Slot, lv_has ls 9 [(4, .int p3), (5, .ref (a (13 + q5))), (6, .int x6), (7, .int x7)] → f_X0_unbend_L27 p0 p1 p2 p3 n q5 x6 x7 U = some Uz → W p l e rm_X0_unbend s m args below meth c H locs 0 0 Q (F0 m 27 ls []) := by
    intro n
    induction n with
    | zero =>
      intro q5 x6 x7 U hq5 H locs hP hD hS ls hl h
      rw [f_X0_unbend_L27] at h
      cases h
    | succ n ih =>
      intro q5 x6 x7 U hq5 H locs hP hD hS ls hl h
      rw [f_X0_unbend_L27] at h
      refine lv_iload hx hb dX0_unbend_27 (lv_at hl 3 rfl) ?_
      refine lv_iload hx hb dX0_unbend_29 (lv_at hl 0 rfl) ?_
      refine lv_iconst (v := (2 : Int32)) hx hb dX0_unbend_31 (by decide) ?_
      refine lv_isub hx hb dX0_unbend_32 ?_
      refine lv_icmp_gt (tgt := 80) hx hb dX0_unbend_33 (by decide) (fun c5 => ?_) (fun c5 => ?_)
      · have h := it_t c5 h
        refine lv_iload hx hb dX0_unbend_80 (lv_at hl 0 rfl) ?_
        refine lv_istore (lv' := [(7, .int p3), (4, .int p3), (5, .ref (a (13 + q5))), (6, .int x6)]) hx hb dX0_unbend_82 hl (by decide) rfl (fun ls hl => ?_)
        exact lb84 64 q5 p3 U hq5 H locs hP hD hS ls (lv_sub hl [2, 0] rfl) h
      · have h := it_f c5 h
        refine lv_aload hx hb dX0_unbend_36 (lv_at hl 1 rfl) ?_
        refine lv_iload hx hb dX0_unbend_38 (lv_at hl 3 rfl) ?_
        refine lv_iconst (v := (1 : Int32)) hx hb dX0_unbend_40 (by decide) ?_
        refine lv_iadd hx hb dX0_unbend_41 ?_
        obtain ⟨g6, h⟩ := gd_s h
        refine va_iald hx hb hK hP (2 + q5) (1 + q5) (rowat_U a k U q5 hq5) (rowty_U k q5 hq5) (inb_in g6) dX0_unbend_42 ?_
        refine lv_topi (fun v7 ev7 => ?_)
        have h := ltt_s ev7 h
        refine lv_istore (lv' := [(8, .int v7), (4, .int p3), (5, .ref (a (13 + q5))), (6, .int x6), (7, .int x7)]) hx hb dX0_unbend_43 hl (by decide) rfl (fun ls hl => ?_)
        refine lv_aload hx hb dX0_unbend_45 (lv_at hl 2 rfl) ?_
        refine lv_iload hx hb dX0_unbend_47 (lv_at hl 4 rfl) ?_
        refine lv_iconst (v := (1 : Int32)) hx hb dX0_unbend_49 (by decide) ?_
        refine lv_iadd hx hb dX0_unbend_50 ?_
        refine lv_iconst (v := (2 : Int32)) hx hb dX0_unbend_51 (by decide) ?_
        refine lv_aload hx hb dX0_unbend_52 (lv_at hl 2 rfl) ?_
        refine lv_iload hx hb dX0_unbend_54 (lv_at hl 4 rfl) ?_
        obtain ⟨g8, h⟩ := gd_s h
        refine va_iald hx hb hK hP (2 + q5) (1 + q5) (rowat_U a k U q5 hq5) (rowty_U k q5 hq5) (inb_in g8) dX0_unbend_56 ?_
        refine lv_imul hx hb dX0_unbend_57 ?_
        refine lv_aload hx hb dX0_unbend_58 (lv_at hl 2 rfl) ?_
        refine lv_iload hx hb dX0_unbend_60 (lv_at hl 4 rfl) ?_
        refine lv_iconst (v := (1 : Int32)) hx hb dX0_unbend_62 (by decide) ?_
        refine lv_isub hx hb dX0_unbend_63 ?_
        obtain ⟨g9, h⟩ := gd_s h
        refine va_iald hx hb hK hP (2 + q5) (1 + q5) (rowat_U a k U q5 hq5) (rowty_U k q5 hq5) (inb_in g9) dX0_unbend_64 ?_
        refine lv_isub hx hb dX0_unbend_65 ?_
        refine lv_iload hx hb dX0_unbend_66 (lv_at hl 3 rfl) ?_
        refine lv_isub hx hb dX0_unbend_68 ?_
        obtain ⟨g10, h⟩ := gd_s h
        refine va_iast hx hb hK hP hD hS (2 + q5) (1 + q5) (rowat_U a k U q5 hq5) (rowty_U k q5 hq5) (inb_in g10) dX0_unbend_69 (fun H locs hP hD hS => ?_)
        rw [rowset_U a k U q5 hq5] at hP hD
        obtain ⟨U_11, eU_11⟩ : ∃ y : Nat → Nat → Int32, y = st U q5 (Int32.toNatClampNeg (x7 + (1 : Int32))) ((((2 : Int32) * (U q5 (Int32.toNatClampNeg x7))) - (U q5 (Int32.toNatClampNeg (x7 - (1 : Int32))))) - x6) := ⟨_, rfl⟩
        have h := ltt_s eU_11 h
        have hP : va_P D vwCl (xU a k U_11) H := by rw [eU_11]; exact hP
        have hD : va_D A (xU a k U_11) := by rw [eU_11]; exact hD
        refine lv_iload hx hb dX0_unbend_70 (lv_at hl 0 rfl) ?_
        refine lv_istore (lv' := [(6, .int v7), (8, .int v7), (4, .int p3), (5, .ref (a (13 + q5))), (7, .int x7)]) hx hb dX0_unbend_72 hl (by decide) rfl (fun ls hl => ?_)
        obtain ⟨v12, ev12⟩ : ∃ y : Int32, y = x7 + (1 : Int32) := ⟨_, rfl⟩
        have h := ltt_s ev12 h
        refine lv_iinc (v := v12) (lv' := [(7, .int v12), (6, .int v7), (8, .int v7), (4, .int p3), (5, .ref (a (13 + q5)))]) hx hb dX0_unbend_74 hl (k := 4) rfl (by rw [ev12]; rfl) (by decide) rfl (fun ls hl => ?_)
        refine lv_goto (tgt := 27) hx hb dX0_unbend_77 (by decide) ?_
        exact ih q5 v7 v12 U_11 hq5 H locs hP hD hS ls (lv_sub hl [3, 4, 1, 0] rfl) h
  rw [f_X0_unbend] at h
  obtain ⟨H, hH⟩ : ∃ H, H = s.heap := ⟨_, rfl⟩
  obtain ⟨locs, hlc⟩ : ∃ L : List Loc, L = [] := ⟨_, rfl⟩
  rw [← hH] at hP
  have hS : va_S A s.heap H locs := by rw [hH, hlc]; exact hS
  suffices hW9 : W p l e rm_X0_unbend s m args below meth c H locs 0 0 Q (F0 m 0 ls []) by rw [hH, hlc] at hW9; exact hW9
  refine lv_aload_n hx hb dX0_unbend_0 rfl (lv_at hl 0 rfl) ?_
  refine va_get (D := D) (ci := 0) (v := .ref (a 12)) (C := RX0) (T := TX0) (N := 2) hx hb hts hin0 hown hK hP 0 rfl rfl 0 (by decide) (hts (.fieldLink RX0 11 "BallastLine$Runs" "rows" "[[I") (List.mem_of_getElem? (i := 1) rfl)) (fun _ h9 => h9) rfl dX0_unbend_1 ?_
  refine lv_iload_n hx hb dX0_unbend_4 rfl (lv_at hl 1 rfl) ?_
  obtain ⟨g13, h⟩ := gd_s h
  obtain ⟨q_14, eq_14⟩ : ∃ y : Nat, y = Int32.toNatClampNeg p0 := ⟨_, rfl⟩
  have h := ltt_s eq_14 h
  have hq_14 : q_14 < 6 := by rw [eq_14]; exact clt_of g13
  refine va_ldrow hx hb hK hP 1 0 rfl rfl (inb_in g13) eq_14 dX0_unbend_5 ?_
  refine lv_astore (lv' := [(5, .ref (a (13 + q_14))), (0, .ref (a 11)), (1, .int p0), (2, .int p1), (3, .int p2), (4, .int p3)]) hx hb dX0_unbend_6 hl (by decide) rfl (fun ls hl => ?_)
  refine lv_aload hx hb dX0_unbend_8 (lv_at hl 0 rfl) ?_
  refine lv_iconst (v := (1 : Int32)) hx hb dX0_unbend_10 (by decide) ?_
  obtain ⟨g15, h⟩ := gd_s h
  refine va_iald hx hb hK hP (2 + q_14) (1 + q_14) (rowat_U a k U0 q_14 hq_14) (rowty_U k q_14 hq_14) (inb_in g15) dX0_unbend_11 ?_
  refine lv_topi (fun v16 ev16 => ?_)
  have h := ltt_s ev16 h
  refine lv_istore (lv' := [(6, .int v16), (5, .ref (a (13 + q_14))), (0, .ref (a 11)), (1, .int p0), (2, .int p1), (3, .int p2), (4, .int p3)]) hx hb dX0_unbend_12 hl (by decide) rfl (fun ls hl => ?_)
  refine lv_aload hx hb dX0_unbend_14 (lv_at hl 1 rfl) ?_
  refine lv_iconst (v := (0 : Int32)) hx hb dX0_unbend_16 (by decide) ?_
  refine lv_iload_n hx hb dX0_unbend_17 rfl (lv_at hl 4 rfl) ?_
  obtain ⟨g17, h⟩ := gd_s h
  refine va_iast hx hb hK hP hD hS (2 + q_14) (1 + q_14) (rowat_U a k U0 q_14 hq_14) (rowty_U k q_14 hq_14) (inb_in g17) dX0_unbend_18 (fun H locs hP hD hS => ?_)
  rw [rowset_U a k U0 q_14 hq_14] at hP hD
  obtain ⟨U_18, eU_18⟩ : ∃ y : Nat → Nat → Int32, y = st U0 q_14 (Int32.toNatClampNeg (0 : Int32)) p1 := ⟨_, rfl⟩
  have h := ltt_s eU_18 h
  have hP : va_P D vwCl (xU a k U_18) H := by rw [eU_18]; exact hP
  have hD : va_D A (xU a k U_18) := by rw [eU_18]; exact hD
  refine lv_aload hx hb dX0_unbend_19 (lv_at hl 1 rfl) ?_
  refine lv_iconst (v := (1 : Int32)) hx hb dX0_unbend_21 (by decide) ?_
  refine lv_iload_n hx hb dX0_unbend_22 rfl (lv_at hl 5 rfl) ?_
  obtain ⟨g19, h⟩ := gd_s h
  refine va_iast hx hb hK hP hD hS (2 + q_14) (1 + q_14) (rowat_U a k U_18 q_14 hq_14) (rowty_U k q_14 hq_14) (inb_in g19) dX0_unbend_23 (fun H locs hP hD hS => ?_)
  rw [rowset_U a k U_18 q_14 hq_14] at hP hD
  obtain ⟨U_20, eU_20⟩ : ∃ y : Nat → Nat → Int32, y = st U_18 q_14 (Int32.toNatClampNeg (1 : Int32)) p2 := ⟨_, rfl⟩
  have h := ltt_s eU_20 h
  have hP : va_P D vwCl (xU a k U_20) H := by rw [eU_20]; exact hP
  have hD : va_D A (xU a k U_20) := by rw [eU_20]; exact hD
  refine lv_iconst (v := (1 : Int32)) hx hb dX0_unbend_24 (by decide) ?_
  refine lv_istore (lv' := [(7, .int (1 : Int32)), (6, .int v16), (5, .ref (a (13 + q_14))), (0, .ref (a 11)), (1, .int p0), (2, .int p1), (3, .int p2), (4, .int p3)]) hx hb dX0_unbend_25 hl (by decide) rfl (fun ls hl => ?_)
  exact lb27 64 q_14 v16 (1 : Int32) U_20 hq_14 H locs hP hD hS ls (lv_sub hl [7, 2, 1, 0] rfl) h
def f_X0_squaresApart_L6 (U0 : Nat → Nat → Int32) (p0 : Int32) (p1 : Int32) (p2 : Int32) (p3 : Int32)  : Nat → Int64 → Int32 → Option (Int64)
  | 0, _, _ => none
  | n + 1, x5, x7 => if (p3 - (5 : Int32)) ≤ x7 then (some x5) else (gd (inb p0 6) (ltt (Int32.toNatClampNeg p0) (fun q_3 => gd (inb x7 40) (gd (inb p1 6) (ltt (Int32.toNatClampNeg p1) (fun q_6 => gd (inb (x7 + p2) 40) (ltt (((Int32.toInt64 (U0 q_3 (Int32.toNatClampNeg x7))) - (Int32.toInt64 (U0 q_6 (Int32.toNatClampNeg (x7 + p2)))))) (fun v8 => ltt ((x5 + (v8 * v8))) (fun v9 => ltt (x7 + (1 : Int32)) (fun v10 => f_X0_squaresApart_L6 U0 p0 p1 p2 p3 n v9 v10))))))))))
def f_X0_squaresApart (U0 : Nat → Nat → Int32) (p0 : Int32) (p1 : Int32) (p2 : Int32) (p3 : Int32) : Option (Int64) := f_X0_squaresApart_L6 U0 p0 p1 p2 p3 64 (0 : Int64) (5 : Int32)
abbrev rm_X0_squaresApart : Room := { frames := 0, cells := 0, slots := 0, locals := 0 }
set_option maxHeartbeats 4000000 in
set_option maxRecDepth 100000 in
theorem c_X0_squaresApart (l : Launch) (D : va_G) (a : Nat → Nat) (k : Nat → ClassId) (sz : Nat) (U0 : Nat → Nat → Int32) (p0 : Int32) (p1 : Int32) (p2 : Int32) (p3 : Int32) (r : Int64) (h : f_X0_squaresApart U0 p0 p1 p2 p3 = some r) : Met l yX0_squaresApart wsX0_squaresApart rm_X0_squaresApart (mPc D [.ref (a 11), .int p0, .int p1, .int p2, .int p3] (xU a k U0) (tU k) sz) (mQl D (xU a k U0) (xU a k U0) sz r) 0 0 (va_A (xU a k U0) sz) := by
  refine mk_met (cc := cX0_squaresApart) (maxL := 10) (ret := (some .long)) (by decide) rfl (Nat.le_of_ble_eq_true rfl) ?_
  intro p e s m below meth c hx hb hr hml hts hown hmn hlocks hnw hsz hK hP hD hS hA ls hl
  obtain ⟨A, hAe⟩ : ∃ A, A = va_A (xU a k U0) sz := ⟨_, rfl⟩
  rw [← hAe] at hD hS hA
  generalize hargs : List.toArray ([.ref (a 11), .int p0, .int p1, .int p2, .int p3] : List Value) = args at hts ⊢
  generalize hQ : MQ below (mQl D (xU a k U0) (xU a k U0) sz r) args s 0 0 (va_A (xU a k U0) sz) = Q
  have hl : lv_has ls 10 [(0, .ref (a 11)), (1, .int p0), (2, .int p1), (3, .int p2), (4, .int p3)] := hl
  have hin0 : ∀ w ∈ wsX00, w ∈ wsX0_squaresApart := fun w h => List.mem_cons_of_mem _ (List.mem_append_right _ h)
  have lb6 : ∀ (n : Nat), ∀ (x5 : Int64) (x7 : Int32), ∀ (H : Heap) (locs : List Loc), va_P D vwCl (xU a k U0) H → va_D A (xU a k U0) → va_S A s.heap H locs → ∀ ls : Array Slot, lv_has ls 10 [(0, .ref (a 11)), (1, .int p0), (2, .int p1), (3, .int p2), (4, .int p3), (5, .long x5), (7, .int x7)] → f_X0_squaresApart_L6 U0 p0 p1 p2 p3 n x5 x7 = some r → W p l e rm_X0_squaresApart s m args below meth c H locs 0 0 Q (F0 m 6 ls []) := by
    intro n
    induction n with
    | zero =>
      intro x5 x7 H locs hP hD hS ls hl h
      rw [f_X0_squaresApart_L6] at h
      cases h
    | succ n ih =>
      intro x5 x7 H locs hP hD hS ls hl h
      rw [f_X0_squaresApart_L6] at h
      refine lv_iload hx hb dX0_squaresApart_6 (lv_at hl 6 rfl) ?_
      refine lv_iload hx hb dX0_squaresApart_8 (lv_at hl 4 rfl) ?_
      refine lv_iconst (v := (5 : Int32)) hx hb dX0_squaresApart_10 (by decide) ?_
      refine lv_isub hx hb dX0_squaresApart_11 ?_
      refine lv_icmp_ge (tgt := 56) hx hb dX0_squaresApart_12 (by decide) (fun c1 => ?_) (fun c1 => ?_)
      · have h := it_t c1 h
        refine lv_lload hx hb dX0_squaresApart_56 (lv_at hl 5 rfl) ?_
        have h := Option.some.inj h
        subst hQ
        subst hAe
        exact r_l hx hb hr hlocks h hP hD hS dX0_squaresApart_58
      · have h := it_f c1 h
        refine lv_aload_n hx hb dX0_squaresApart_15 rfl (lv_at hl 0 rfl) ?_
        refine va_get (D := D) (ci := 0) (v := .ref (a 12)) (C := RX0) (T := TX0) (N := 2) hx hb hts hin0 hown hK hP 0 rfl rfl 0 (by decide) (hts (.fieldLink RX0 11 "BallastLine$Runs" "rows" "[[I") (List.mem_of_getElem? (i := 1) rfl)) (fun _ h9 => h9) rfl dX0_squaresApart_16 ?_
        refine lv_iload_n hx hb dX0_squaresApart_19 rfl (lv_at hl 1 rfl) ?_
        obtain ⟨g2, h⟩ := gd_s h
        obtain ⟨q_3, eq_3⟩ : ∃ y : Nat, y = Int32.toNatClampNeg p0 := ⟨_, rfl⟩
        have h := ltt_s eq_3 h
        have hq_3 : q_3 < 6 := by rw [eq_3]; exact clt_of g2
        refine va_ldrow hx hb hK hP 1 0 rfl rfl (inb_in g2) eq_3 dX0_squaresApart_20 ?_
        refine lv_iload hx hb dX0_squaresApart_21 (lv_at hl 6 rfl) ?_
        obtain ⟨g4, h⟩ := gd_s h
        refine va_iald hx hb hK hP (2 + q_3) (1 + q_3) (rowat_U a k U0 q_3 hq_3) (rowty_U k q_3 hq_3) (inb_in g4) dX0_squaresApart_23 ?_
        refine lv_i2l (v := (Int32.toInt64 (U0 q_3 (Int32.toNatClampNeg x7)))) hx hb dX0_squaresApart_24 rfl ?_
        refine lv_aload_n hx hb dX0_squaresApart_25 rfl (lv_at hl 0 rfl) ?_
        refine va_get (D := D) (ci := 0) (v := .ref (a 12)) (C := RX0) (T := TX0) (N := 2) hx hb hts hin0 hown hK hP 0 rfl rfl 0 (by decide) (hts (.fieldLink RX0 11 "BallastLine$Runs" "rows" "[[I") (List.mem_of_getElem? (i := 1) rfl)) (fun _ h9 => h9) rfl dX0_squaresApart_26 ?_
        refine lv_iload_n hx hb dX0_squaresApart_29 rfl (lv_at hl 2 rfl) ?_
        obtain ⟨g5, h⟩ := gd_s h
        obtain ⟨q_6, eq_6⟩ : ∃ y : Nat, y = Int32.toNatClampNeg p1 := ⟨_, rfl⟩
        have h := ltt_s eq_6 h
        have hq_6 : q_6 < 6 := by rw [eq_6]; exact clt_of g5
        refine va_ldrow hx hb hK hP 1 0 rfl rfl (inb_in g5) eq_6 dX0_squaresApart_30 ?_
        refine lv_iload hx hb dX0_squaresApart_31 (lv_at hl 6 rfl) ?_
        refine lv_iload_n hx hb dX0_squaresApart_33 rfl (lv_at hl 3 rfl) ?_
        refine lv_iadd hx hb dX0_squaresApart_34 ?_
        obtain ⟨g7, h⟩ := gd_s h
        refine va_iald hx hb hK hP (2 + q_6) (1 + q_6) (rowat_U a k U0 q_6 hq_6) (rowty_U k q_6 hq_6) (inb_in g7) dX0_squaresApart_35 ?_
        refine lv_i2l (v := (Int32.toInt64 (U0 q_6 (Int32.toNatClampNeg (x7 + p2))))) hx hb dX0_squaresApart_36 rfl ?_
        refine lv_lsub hx hb dX0_squaresApart_37 ?_
        refine lv_topl (fun v8 ev8 => ?_)
        have h := ltt_s ev8 h
        refine lv_lstore (lv' := [(8, .long v8), (0, .ref (a 11)), (1, .int p0), (2, .int p1), (3, .int p2), (4, .int p3), (5, .long x5), (7, .int x7)]) hx hb dX0_squaresApart_38 hl (by decide) rfl (fun ls hl => ?_)
        refine lv_lload hx hb dX0_squaresApart_40 (lv_at hl 6 rfl) ?_
        refine lv_lload hx hb dX0_squaresApart_42 (lv_at hl 0 rfl) ?_
        refine lv_lload hx hb dX0_squaresApart_44 (lv_at hl 0 rfl) ?_
        refine lv_lmul hx hb dX0_squaresApart_46 ?_
        refine lv_ladd hx hb dX0_squaresApart_47 ?_
        refine lv_topl (fun v9 ev9 => ?_)
        have h := ltt_s ev9 h
        refine lv_lstore (lv' := [(5, .long v9), (8, .long v8), (0, .ref (a 11)), (1, .int p0), (2, .int p1), (3, .int p2), (4, .int p3), (7, .int x7)]) hx hb dX0_squaresApart_48 hl (by decide) rfl (fun ls hl => ?_)
        obtain ⟨v10, ev10⟩ : ∃ y : Int32, y = x7 + (1 : Int32) := ⟨_, rfl⟩
        have h := ltt_s ev10 h
        refine lv_iinc (v := v10) (lv' := [(7, .int v10), (5, .long v9), (8, .long v8), (0, .ref (a 11)), (1, .int p0), (2, .int p1), (3, .int p2), (4, .int p3)]) hx hb dX0_squaresApart_50 hl (k := 7) rfl (by rw [ev10]; rfl) (by decide) rfl (fun ls hl => ?_)
        refine lv_goto (tgt := 6) hx hb dX0_squaresApart_53 (by decide) ?_
        exact ih v9 v10 H locs hP hD hS ls (lv_sub hl [3, 4, 5, 6, 7, 1, 0] rfl) h
  rw [f_X0_squaresApart] at h
  obtain ⟨H, hH⟩ : ∃ H, H = s.heap := ⟨_, rfl⟩
  obtain ⟨locs, hlc⟩ : ∃ L : List Loc, L = [] := ⟨_, rfl⟩
  rw [← hH] at hP
  have hS : va_S A s.heap H locs := by rw [hH, hlc]; exact hS
  suffices hW9 : W p l e rm_X0_squaresApart s m args below meth c H locs 0 0 Q (F0 m 0 ls []) by rw [hH, hlc] at hW9; exact hW9
  refine lv_lconst (v := (0 : Int64)) hx hb dX0_squaresApart_0 (by decide) ?_
  refine lv_lstore (lv' := [(5, .long (0 : Int64)), (0, .ref (a 11)), (1, .int p0), (2, .int p1), (3, .int p2), (4, .int p3)]) hx hb dX0_squaresApart_1 hl (by decide) rfl (fun ls hl => ?_)
  refine lv_iconst (v := (5 : Int32)) hx hb dX0_squaresApart_3 (by decide) ?_
  refine lv_istore (lv' := [(7, .int (5 : Int32)), (5, .long (0 : Int64)), (0, .ref (a 11)), (1, .int p0), (2, .int p1), (3, .int p2), (4, .int p3)]) hx hb dX0_squaresApart_4 hl (by decide) rfl (fun ls hl => ?_)
  exact lb6 64 (0 : Int64) (5 : Int32) H locs hP hD hS ls (lv_sub hl [2, 3, 4, 5, 6, 1, 0] rfl) h
def f_X0_bestShift_J61 (U0 : Nat → Nat → Int32) (p0 : Int32) (p1 : Int32) (p2 : Int32) (ko16 : Int32 → Int64 → Int32 → Option (Int32)) (ko27 : Int32 → Int64 → Int32 → Int32 → Option (Int32)) (x4 : Int32) (x5 : Int64) (x7 : Int32) (x8 : Int32) : Option (Int32) := ltt ((x8 + ((2 : Int32) * x7))) (fun v1 => ko27 x4 x5 x7 v1)
def f_X0_bestShift_L27 (U0 : Nat → Nat → Int32) (p0 : Int32) (p1 : Int32) (p2 : Int32) (ko16 : Int32 → Int64 → Int32 → Option (Int32)) : Nat → Int32 → Int64 → Int32 → Int32 → Option (Int32)
  | 0, _, _, _, _ => none
  | n + 1, x4, x5, x7, x8 => if x7 < x8 then (ltt (x7 + (1 : Int32)) (fun v3 => ko16 x4 x5 v3)) else (b1 (f_X0_squaresApart U0 p0 p1 x8 p2) (fun r4 => if (0 : Int32) ≤ (lg_cmp r4 x5) then (f_X0_bestShift_J61 U0 p0 p1 p2 ko16 (f_X0_bestShift_L27 U0 p0 p1 p2 ko16 n) x4 x5 x7 x8) else (f_X0_bestShift_J61 U0 p0 p1 p2 ko16 (f_X0_bestShift_L27 U0 p0 p1 p2 ko16 n) x8 r4 x7 x8)))
def f_X0_bestShift_L16 (U0 : Nat → Nat → Int32) (p0 : Int32) (p1 : Int32) (p2 : Int32)  : Nat → Int32 → Int64 → Int32 → Option (Int32)
  | 0, _, _, _ => none
  | n + 1, x4, x5, x7 => if (5 : Int32) < x7 then (some x4) else (ltt ((-x7)) (fun v7 => f_X0_bestShift_L27 U0 p0 p1 p2 (f_X0_bestShift_L16 U0 p0 p1 p2 n) 64 x4 x5 x7 v7))
def f_X0_bestShift (U0 : Nat → Nat → Int32) (p0 : Int32) (p1 : Int32) (p2 : Int32) : Option (Int32) := b1 (f_X0_squaresApart U0 p0 p1 (0 : Int32) p2) (fun r8 => f_X0_bestShift_L16 U0 p0 p1 p2 64 (0 : Int32) r8 (1 : Int32))
abbrev rm_X0_bestShift : Room := { frames := 1, cells := 0, slots := 0, locals := 29 }
set_option maxHeartbeats 4000000 in
set_option maxRecDepth 100000 in
theorem c_X0_bestShift (l : Launch) (D : va_G) (a : Nat → Nat) (k : Nat → ClassId) (sz : Nat) (U0 : Nat → Nat → Int32) (p0 : Int32) (p1 : Int32) (p2 : Int32) (r : Int32) (h : f_X0_bestShift U0 p0 p1 p2 = some r) : Met l yX0_bestShift wsX0_bestShift rm_X0_bestShift (mPc D [.ref (a 11), .int p0, .int p1, .int p2] (xU a k U0) (tU k) sz) (mQi D (xU a k U0) (xU a k U0) sz r) 0 0 (va_A (xU a k U0) sz) := by
  refine mk_met (cc := cX0_bestShift) (maxL := 11) (ret := (some .int)) (by decide) rfl (Nat.le_of_ble_eq_true rfl) ?_
  intro p e s m below meth c hx hb hr hml hts hown hmn hlocks hnw hsz hK hP hD hS hA ls hl
  obtain ⟨A, hAe⟩ : ∃ A, A = va_A (xU a k U0) sz := ⟨_, rfl⟩
  rw [← hAe] at hD hS hA
  generalize hargs : List.toArray ([.ref (a 11), .int p0, .int p1, .int p2] : List Value) = args at hts ⊢
  generalize hQ : MQ below (mQi D (xU a k U0) (xU a k U0) sz r) args s 0 0 (va_A (xU a k U0) sz) = Q
  have hl : lv_has ls 11 [(0, .ref (a 11)), (1, .int p0), (2, .int p1), (3, .int p2)] := hl
  have lb61 : ∀ (ko16 : Int32 → Int64 → Int32 → Option (Int32)), (∀ (x4 : Int32) (x5 : Int64) (x7 : Int32), ∀ (H : Heap) (locs : List Loc), va_P D vwCl (xU a k U0) H → va_D A (xU a k U0) → va_S A s.heap H locs → ∀ ls : Array Slot, lv_has ls 11 [(0, .ref (a 11)), (1, .int p0), (2, .int p1), (3, .int p2), (4, .int x4), (5, .long x5), (7, .int x7)] → ko16 x4 x5 x7 = some r → W p l e rm_X0_bestShift s m args below meth c H locs 0 0 Q (F0 m 16 ls [])) → ∀ (ko27 : Int32 → Int64 → Int32 → Int32 → Option (Int32)), (∀ (x4 : Int32) (x5 : Int64) (x7 : Int32) (x8 : Int32), ∀ (H : Heap) (locs : List Loc), va_P D vwCl (xU a k U0) H → va_D A (xU a k U0) → va_S A s.heap H locs → ∀ ls : Array Slot, lv_has ls 11 [(0, .ref (a 11)), (1, .int p0), (2, .int p1), (3, .int p2), (4, .int x4), (5, .long x5), (7, .int x7), (8, .int x8)] → ko27 x4 x5 x7 x8 = some r → W p l e rm_X0_bestShift s m args below meth c H locs 0 0 Q (F0 m 27 ls [])) → ∀ (x4 : Int32) (x5 : Int64) (x7 : Int32) (x8 : Int32), ∀ (H : Heap) (locs : List Loc), va_P D vwCl (xU a k U0) H → va_D A (xU a k U0) → va_S A s.heap H locs → ∀ ls : Array Slot, lv_has ls 11 [(0, .ref (a 11)), (1, .int p0), (2, .int p1), (3, .int p2), (4, .int x4), (5, .long x5), (7, .int x7), (8, .int x8)] → f_X0_bestShift_J61 U0 p0 p1 p2 ko16 ko27 x4 x5 x7 x8 = some r → W p l e rm_X0_bestShift s m args below meth c H locs 0 0 Q (F0 m 61 ls []) := by
    intro ko16 hko16 ko27 hko27 x4 x5 x7 x8 H locs hP hD hS ls hl h
    rw [f_X0_bestShift_J61] at h
    refine lv_iload hx hb dX0_bestShift_61 (lv_at hl 7 rfl) ?_
    refine lv_iconst (v := (2 : Int32)) hx hb dX0_bestShift_63 (by decide) ?_
    refine lv_iload hx hb dX0_bestShift_64 (lv_at hl 6 rfl) ?_
    refine lv_imul hx hb dX0_bestShift_66 ?_
    refine lv_iadd hx hb dX0_bestShift_67 ?_
    refine lv_topi (fun v1 ev1 => ?_)
    have h := ltt_s ev1 h
    refine lv_istore (lv' := [(8, .int v1), (0, .ref (a 11)), (1, .int p0), (2, .int p1), (3, .int p2), (4, .int x4), (5, .long x5), (7, .int x7)]) hx hb dX0_bestShift_68 hl (by decide) rfl (fun ls hl => ?_)
    refine lv_goto (tgt := 27) hx hb dX0_bestShift_70 (by decide) ?_
    exact hko27 x4 x5 x7 v1 H locs hP hD hS ls (lv_sub hl [1, 2, 3, 4, 5, 6, 7, 0] rfl) h
  have lb27 : ∀ (ko16 : Int32 → Int64 → Int32 → Option (Int32)), (∀ (x4 : Int32) (x5 : Int64) (x7 : Int32), ∀ (H : Heap) (locs : List Loc), va_P D vwCl (xU a k U0) H → va_D A (xU a k U0) → va_S A s.heap H locs → ∀ ls : Array Slot, lv_has ls 11 [(0, .ref (a 11)), (1, .int p0), (2, .int p1), (3, .int p2), (4, .int x4), (5, .long x5), (7, .int x7)] → ko16 x4 x5 x7 = some r → W p l e rm_X0_bestShift s m args below meth c H locs 0 0 Q (F0 m 16 ls [])) → ∀ (n : Nat), ∀ (x4 : Int32) (x5 : Int64) (x7 : Int32) (x8 : Int32), ∀ (H : Heap) (locs : List Loc), va_P D vwCl (xU a k U0) H → va_D A (xU a k U0) → va_S A s.heap H locs → ∀ ls : Array Slot, lv_has ls 11 [(0, .ref (a 11)), (1, .int p0), (2, .int p1), (3, .int p2), (4, .int x4), (5, .long x5), (7, .int x7), (8, .int x8)] → f_X0_bestShift_L27 U0 p0 p1 p2 ko16 n x4 x5 x7 x8 = some r → W p l e rm_X0_bestShift s m args below meth c H locs 0 0 Q (F0 m 27 ls []) := by
    intro ko16 hko16
    intro n
    induction n with
    | zero =>
      intro x4 x5 x7 x8 H locs hP hD hS ls hl h
      rw [f_X0_bestShift_L27] at h
      cases h
    | succ n ih =>
      intro x4 x5 x7 x8 H locs hP hD hS ls hl h
      rw [f_X0_bestShift_L27] at h
      refine lv_iload hx hb dX0_bestShift_27 (lv_at hl 7 rfl) ?_
      refine lv_iload hx hb dX0_bestShift_29 (lv_at hl 6 rfl) ?_
      refine lv_icmp_gt (tgt := 73) hx hb dX0_bestShift_31 (by decide) (fun c2 => ?_) (fun c2 => ?_)
      · have h := it_t c2 h
        obtain ⟨v3, ev3⟩ : ∃ y : Int32, y = x7 + (1 : Int32) := ⟨_, rfl⟩
        have h := ltt_s ev3 h
        refine lv_iinc (v := v3) (lv' := [(7, .int v3), (0, .ref (a 11)), (1, .int p0), (2, .int p1), (3, .int p2), (4, .int x4), (5, .long x5), (8, .int x8)]) hx hb dX0_bestShift_73 hl (k := 6) rfl (by rw [ev3]; rfl) (by decide) rfl (fun ls hl => ?_)
        refine lv_goto (tgt := 16) hx hb dX0_bestShift_76 (by decide) ?_
        exact hko16 x4 x5 v3 H locs hP hD hS ls (lv_sub hl [1, 2, 3, 4, 5, 6, 0] rfl) h
      · have h := it_f c2 h
        refine lv_aload_n hx hb dX0_bestShift_34 rfl (lv_at hl 0 rfl) ?_
        refine lv_iload_n hx hb dX0_bestShift_35 rfl (lv_at hl 1 rfl) ?_
        refine lv_iload_n hx hb dX0_bestShift_36 rfl (lv_at hl 2 rfl) ?_
        refine lv_iload hx hb dX0_bestShift_37 (lv_at hl 7 rfl) ?_
        refine lv_iload_n hx hb dX0_bestShift_39 rfl (lv_at hl 3 rfl) ?_
        obtain ⟨r4, q4, h⟩ := b1_s h
        refine go_l (run_V (As := [.int p0, .int p1, .int x8, .int p2]) (rest := []) ⟨hx, hb, hml, hown, hts⟩ hnw hK hP hD (fr_U_U a k U0 U0) (ks_U_U k) (c_X0_squaresApart l D a k H.size U0 p0 p1 x8 p2 r4 q4) (cwV 4 hts gX0_bestShift_X0_squaresApart rfl rfl rfl (by decide +kernel) ⟨Nat.le_of_ble_eq_true rfl, Nat.le_of_ble_eq_true rfl⟩) (rcv_U a k U0) rfl hl.1 rfl (Nat.le_of_ble_eq_true rfl) dX0_bestShift_40 ⟨Nat.zero_le _, Nat.zero_le _⟩) hP hD hS hA (fr_U_U a k U0 U0) (fun H locs hP hD hS => ?_)
        refine lv_lstore (lv' := [(9, .long r4), (0, .ref (a 11)), (1, .int p0), (2, .int p1), (3, .int p2), (4, .int x4), (5, .long x5), (7, .int x7), (8, .int x8)]) hx hb dX0_bestShift_43 hl (by decide) rfl (fun ls hl => ?_)
        refine lv_lload hx hb dX0_bestShift_45 (lv_at hl 0 rfl) ?_
        refine lv_lload hx hb dX0_bestShift_47 (lv_at hl 6 rfl) ?_
        refine W.lcmp hx hb dX0_bestShift_49 ?_
        refine lv_if_ge (tgt := 61) hx hb dX0_bestShift_50 (by decide) (fun c5 => ?_) (fun c5 => ?_)
        · have h := it_t c5 h
          exact lb61 ko16 hko16 (f_X0_bestShift_L27 U0 p0 p1 p2 ko16 n) ih x4 x5 x7 x8 H locs hP hD hS ls (lv_sub hl [1, 2, 3, 4, 5, 6, 7, 8] rfl) h
        · have h := it_f c5 h
          refine lv_iload hx hb dX0_bestShift_53 (lv_at hl 8 rfl) ?_
          refine lv_istore (lv' := [(4, .int x8), (9, .long r4), (0, .ref (a 11)), (1, .int p0), (2, .int p1), (3, .int p2), (5, .long x5), (7, .int x7), (8, .int x8)]) hx hb dX0_bestShift_55 hl (by decide) rfl (fun ls hl => ?_)
          refine lv_lload hx hb dX0_bestShift_57 (lv_at hl 1 rfl) ?_
          refine lv_lstore (lv' := [(5, .long r4), (4, .int x8), (9, .long r4), (0, .ref (a 11)), (1, .int p0), (2, .int p1), (3, .int p2), (7, .int x7), (8, .int x8)]) hx hb dX0_bestShift_59 hl (by decide) rfl (fun ls hl => ?_)
          exact lb61 ko16 hko16 (f_X0_bestShift_L27 U0 p0 p1 p2 ko16 n) ih x8 r4 x7 x8 H locs hP hD hS ls (lv_sub hl [3, 4, 5, 6, 1, 0, 7, 8] rfl) h
  have lb16 : ∀ (n : Nat), ∀ (x4 : Int32) (x5 : Int64) (x7 : Int32), ∀ (H : Heap) (locs : List Loc), va_P D vwCl (xU a k U0) H → va_D A (xU a k U0) → va_S A s.heap H locs → ∀ ls : Array Slot, lv_has ls 11 [(0, .ref (a 11)), (1, .int p0), (2, .int p1), (3, .int p2), (4, .int x4), (5, .long x5), (7, .int x7)] → f_X0_bestShift_L16 U0 p0 p1 p2 n x4 x5 x7 = some r → W p l e rm_X0_bestShift s m args below meth c H locs 0 0 Q (F0 m 16 ls []) := by
    intro n
    induction n with
    | zero =>
      intro x4 x5 x7 H locs hP hD hS ls hl h
      rw [f_X0_bestShift_L16] at h
      cases h
    | succ n ih =>
      intro x4 x5 x7 H locs hP hD hS ls hl h
      rw [f_X0_bestShift_L16] at h
      refine lv_iload hx hb dX0_bestShift_16 (lv_at hl 6 rfl) ?_
      refine lv_iconst (v := (5 : Int32)) hx hb dX0_bestShift_18 (by decide) ?_
      refine lv_icmp_gt (tgt := 79) hx hb dX0_bestShift_19 (by decide) (fun c6 => ?_) (fun c6 => ?_)
      · have h := it_t c6 h
        refine lv_iload hx hb dX0_bestShift_79 (lv_at hl 4 rfl) ?_
        have h := Option.some.inj h
        subst hQ
        subst hAe
        exact r_i hx hb hr hlocks h hP hD hS dX0_bestShift_81
      · have h := it_f c6 h
        refine lv_iload hx hb dX0_bestShift_22 (lv_at hl 6 rfl) ?_
        refine lv_ineg hx hb dX0_bestShift_24 ?_
        refine lv_topi (fun v7 ev7 => ?_)
        have h := ltt_s ev7 h
        refine lv_istore (lv' := [(8, .int v7), (0, .ref (a 11)), (1, .int p0), (2, .int p1), (3, .int p2), (4, .int x4), (5, .long x5), (7, .int x7)]) hx hb dX0_bestShift_25 hl (by decide) rfl (fun ls hl => ?_)
        exact lb27 (f_X0_bestShift_L16 U0 p0 p1 p2 n) ih 64 x4 x5 x7 v7 H locs hP hD hS ls (lv_sub hl [1, 2, 3, 4, 5, 6, 7, 0] rfl) h
  rw [f_X0_bestShift] at h
  obtain ⟨H, hH⟩ : ∃ H, H = s.heap := ⟨_, rfl⟩
  obtain ⟨locs, hlc⟩ : ∃ L : List Loc, L = [] := ⟨_, rfl⟩
  rw [← hH] at hP
  have hS : va_S A s.heap H locs := by rw [hH, hlc]; exact hS
  suffices hW9 : W p l e rm_X0_bestShift s m args below meth c H locs 0 0 Q (F0 m 0 ls []) by rw [hH, hlc] at hW9; exact hW9
  refine lv_iconst (v := (0 : Int32)) hx hb dX0_bestShift_0 (by decide) ?_
  refine lv_istore (lv' := [(4, .int (0 : Int32)), (0, .ref (a 11)), (1, .int p0), (2, .int p1), (3, .int p2)]) hx hb dX0_bestShift_1 hl (by decide) rfl (fun ls hl => ?_)
  refine lv_aload_n hx hb dX0_bestShift_3 rfl (lv_at hl 1 rfl) ?_
  refine lv_iload_n hx hb dX0_bestShift_4 rfl (lv_at hl 2 rfl) ?_
  refine lv_iload_n hx hb dX0_bestShift_5 rfl (lv_at hl 3 rfl) ?_
  refine lv_iconst (v := (0 : Int32)) hx hb dX0_bestShift_6 (by decide) ?_
  refine lv_iload_n hx hb dX0_bestShift_7 rfl (lv_at hl 4 rfl) ?_
  obtain ⟨r8, q8, h⟩ := b1_s h
  refine go_l (run_V (As := [.int p0, .int p1, .int (0 : Int32), .int p2]) (rest := []) ⟨hx, hb, hml, hown, hts⟩ hnw hK hP hD (fr_U_U a k U0 U0) (ks_U_U k) (c_X0_squaresApart l D a k H.size U0 p0 p1 (0 : Int32) p2 r8 q8) (cwV 4 hts gX0_bestShift_X0_squaresApart rfl rfl rfl (by decide +kernel) ⟨Nat.le_of_ble_eq_true rfl, Nat.le_of_ble_eq_true rfl⟩) (rcv_U a k U0) rfl hl.1 rfl (Nat.le_of_ble_eq_true rfl) dX0_bestShift_8 ⟨Nat.zero_le _, Nat.zero_le _⟩) hP hD hS hA (fr_U_U a k U0 U0) (fun H locs hP hD hS => ?_)
  refine lv_lstore (lv' := [(5, .long r8), (4, .int (0 : Int32)), (0, .ref (a 11)), (1, .int p0), (2, .int p1), (3, .int p2)]) hx hb dX0_bestShift_11 hl (by decide) rfl (fun ls hl => ?_)
  refine lv_iconst (v := (1 : Int32)) hx hb dX0_bestShift_13 (by decide) ?_
  refine lv_istore (lv' := [(7, .int (1 : Int32)), (5, .long r8), (4, .int (0 : Int32)), (0, .ref (a 11)), (1, .int p0), (2, .int p1), (3, .int p2)]) hx hb dX0_bestShift_14 hl (by decide) rfl (fun ls hl => ?_)
  exact lb16 64 (0 : Int32) r8 (1 : Int32) H locs hP hD hS ls (lv_sub hl [3, 4, 5, 6, 2, 1, 0] rfl) h
def f_X0_stepAfter (U0 : Nat → Nat → Int32) (p0 : Int32) (p1 : Int32) : Option (Int64) := gd (inb p0 6) (ltt (Int32.toNatClampNeg p0) (fun q_2 => gd (inb p1 40) (gd (inb p0 6) (ltt (Int32.toNatClampNeg p0) (fun q_5 => gd (inb (p1 + (1 : Int32)) 40) (some (if 0 < ((Int32.toInt64 (U0 q_2 (Int32.toNatClampNeg p1))) - (Int32.toInt64 (U0 q_5 (Int32.toNatClampNeg (p1 + (1 : Int32)))))) then ((Int32.toInt64 (U0 q_2 (Int32.toNatClampNeg p1))) - (Int32.toInt64 (U0 q_5 (Int32.toNatClampNeg (p1 + (1 : Int32)))))) else -((Int32.toInt64 (U0 q_2 (Int32.toNatClampNeg p1))) - (Int32.toInt64 (U0 q_5 (Int32.toNatClampNeg (p1 + (1 : Int32)))))))))))))
abbrev rm_X0_stepAfter : Room := { frames := 1, cells := 0, slots := 0, locals := 22 }
set_option maxHeartbeats 4000000 in
set_option maxRecDepth 100000 in
theorem c_X0_stepAfter (l : Launch) (D : va_G) (a : Nat → Nat) (k : Nat → ClassId) (sz : Nat) (U0 : Nat → Nat → Int32) (p0 : Int32) (p1 : Int32) (r : Int64) (h : f_X0_stepAfter U0 p0 p1 = some r) : Met l yX0_stepAfter wsX0_stepAfter rm_X0_stepAfter (mPc D [.ref (a 11), .int p0, .int p1] (xU a k U0) (tU k) sz) (mQl D (xU a k U0) (xU a k U0) sz r) 0 0 (va_A (xU a k U0) sz) := by
  refine mk_met (cc := cX0_stepAfter) (maxL := 3) (ret := (some .long)) (by decide) rfl (Nat.le_of_ble_eq_true rfl) ?_
  intro p e s m below meth c hx hb hr hml hts hown hmn hlocks hnw hsz hK hP hD hS hA ls hl
  obtain ⟨A, hAe⟩ : ∃ A, A = va_A (xU a k U0) sz := ⟨_, rfl⟩
  rw [← hAe] at hD hS hA
  generalize hargs : List.toArray ([.ref (a 11), .int p0, .int p1] : List Value) = args at hts ⊢
  generalize hQ : MQ below (mQl D (xU a k U0) (xU a k U0) sz r) args s 0 0 (va_A (xU a k U0) sz) = Q
  have hl : lv_has ls 3 [(0, .ref (a 11)), (1, .int p0), (2, .int p1)] := hl
  have hin0 : ∀ w ∈ wsX00, w ∈ wsX0_stepAfter := fun w h => List.mem_cons_of_mem _ (List.mem_append_right _ h)
  rw [f_X0_stepAfter] at h
  obtain ⟨H, hH⟩ : ∃ H, H = s.heap := ⟨_, rfl⟩
  obtain ⟨locs, hlc⟩ : ∃ L : List Loc, L = [] := ⟨_, rfl⟩
  rw [← hH] at hP
  have hS : va_S A s.heap H locs := by rw [hH, hlc]; exact hS
  suffices hW9 : W p l e rm_X0_stepAfter s m args below meth c H locs 0 0 Q (F0 m 0 ls []) by rw [hH, hlc] at hW9; exact hW9
  refine lv_aload_n hx hb dX0_stepAfter_0 rfl (lv_at hl 0 rfl) ?_
  refine va_get (D := D) (ci := 0) (v := .ref (a 12)) (C := RX0) (T := TX0) (N := 2) hx hb hts hin0 hown hK hP 0 rfl rfl 0 (by decide) (hts (.fieldLink RX0 11 "BallastLine$Runs" "rows" "[[I") (List.mem_of_getElem? (i := 1) rfl)) (fun _ h9 => h9) rfl dX0_stepAfter_1 ?_
  refine lv_iload_n hx hb dX0_stepAfter_4 rfl (lv_at hl 1 rfl) ?_
  obtain ⟨g1, h⟩ := gd_s h
  obtain ⟨q_2, eq_2⟩ : ∃ y : Nat, y = Int32.toNatClampNeg p0 := ⟨_, rfl⟩
  have h := ltt_s eq_2 h
  have hq_2 : q_2 < 6 := by rw [eq_2]; exact clt_of g1
  refine va_ldrow hx hb hK hP 1 0 rfl rfl (inb_in g1) eq_2 dX0_stepAfter_5 ?_
  refine lv_iload_n hx hb dX0_stepAfter_6 rfl (lv_at hl 2 rfl) ?_
  obtain ⟨g3, h⟩ := gd_s h
  refine va_iald hx hb hK hP (2 + q_2) (1 + q_2) (rowat_U a k U0 q_2 hq_2) (rowty_U k q_2 hq_2) (inb_in g3) dX0_stepAfter_7 ?_
  refine lv_i2l (v := (Int32.toInt64 (U0 q_2 (Int32.toNatClampNeg p1)))) hx hb dX0_stepAfter_8 rfl ?_
  refine lv_aload_n hx hb dX0_stepAfter_9 rfl (lv_at hl 0 rfl) ?_
  refine va_get (D := D) (ci := 0) (v := .ref (a 12)) (C := RX0) (T := TX0) (N := 2) hx hb hts hin0 hown hK hP 0 rfl rfl 0 (by decide) (hts (.fieldLink RX0 11 "BallastLine$Runs" "rows" "[[I") (List.mem_of_getElem? (i := 1) rfl)) (fun _ h9 => h9) rfl dX0_stepAfter_10 ?_
  refine lv_iload_n hx hb dX0_stepAfter_13 rfl (lv_at hl 1 rfl) ?_
  obtain ⟨g4, h⟩ := gd_s h
  obtain ⟨q_5, eq_5⟩ : ∃ y : Nat, y = Int32.toNatClampNeg p0 := ⟨_, rfl⟩
  have h := ltt_s eq_5 h
  have hq_5 : q_5 < 6 := by rw [eq_5]; exact clt_of g4
  refine va_ldrow hx hb hK hP 1 0 rfl rfl (inb_in g4) eq_5 dX0_stepAfter_14 ?_
  refine lv_iload_n hx hb dX0_stepAfter_15 rfl (lv_at hl 2 rfl) ?_
  refine lv_iconst (v := (1 : Int32)) hx hb dX0_stepAfter_16 (by decide) ?_
  refine lv_iadd hx hb dX0_stepAfter_17 ?_
  obtain ⟨g6, h⟩ := gd_s h
  refine va_iald hx hb hK hP (2 + q_5) (1 + q_5) (rowat_U a k U0 q_5 hq_5) (rowty_U k q_5 hq_5) (inb_in g6) dX0_stepAfter_18 ?_
  refine lv_i2l (v := (Int32.toInt64 (U0 q_5 (Int32.toNatClampNeg (p1 + (1 : Int32)))))) hx hb dX0_stepAfter_19 rfl ?_
  refine lv_lsub hx hb dX0_stepAfter_20 ?_
  refine va_mabs_long hx hb (hml.trans hl.1.symm) hown (hts (.methodLink RX0 28 Lib.MathLoose.abs_long.x) (List.mem_of_getElem? (i := 2) rfl)) (hts (.static Lib.MathLoose.abs_long.x) (List.mem_of_getElem? (i := 3) rfl)) (hts (.initialized "java/lang/Math") (List.mem_of_getElem? (i := 4) rfl)) (hts (.code Lib.MathLoose.abs_long.x Lib.MathLoose.abs_long.code 2 (some .long)) (List.mem_of_getElem? (i := 5) rfl)) (Nat.le_of_ble_eq_true rfl) (Nat.le_of_ble_eq_true rfl) (Nat.zero_le _) (Nat.zero_le _) dX0_stepAfter_21 ?_
  have h := Option.some.inj h
  subst hQ
  subst hAe
  exact r_l hx hb hr hlocks h hP hD hS dX0_stepAfter_24
def f_X0_steepest_J33 (U0 : Nat → Nat → Int32) (p0 : Int32) (p1 : Int32) (ko5 : Int32 → Int32 → Option (Int32)) (x3 : Int32) (x4 : Int32) : Option (Int32) := ltt (x4 + (1 : Int32)) (fun v1 => ko5 x3 v1)
def f_X0_steepest_L5 (U0 : Nat → Nat → Int32) (p0 : Int32) (p1 : Int32)  : Nat → Int32 → Int32 → Option (Int32)
  | 0, _, _ => none
  | n + 1, x3, x4 => if (p1 - (1 : Int32)) ≤ x4 then (some x3) else (b1 (f_X0_stepAfter U0 p0 x4) (fun r3 => b1 (f_X0_stepAfter U0 p0 x3) (fun r4 => if (lg_cmp r3 r4) ≤ (0 : Int32) then (f_X0_steepest_J33 U0 p0 p1 (f_X0_steepest_L5 U0 p0 p1 n) x3 x4) else (f_X0_steepest_J33 U0 p0 p1 (f_X0_steepest_L5 U0 p0 p1 n) x4 x4))))
def f_X0_steepest (U0 : Nat → Nat → Int32) (p0 : Int32) (p1 : Int32) : Option (Int32) := f_X0_steepest_L5 U0 p0 p1 64 (0 : Int32) (1 : Int32)
abbrev rm_X0_steepest : Room := { frames := 2, cells := 0, slots := 0, locals := 44 }
set_option maxHeartbeats 4000000 in
set_option maxRecDepth 100000 in
theorem c_X0_steepest (l : Launch) (D : va_G) (a : Nat → Nat) (k : Nat → ClassId) (sz : Nat) (U0 : Nat → Nat → Int32) (p0 : Int32) (p1 : Int32) (r : Int32) (h : f_X0_steepest U0 p0 p1 = some r) : Met l yX0_steepest wsX0_steepest rm_X0_steepest (mPc D [.ref (a 11), .int p0, .int p1] (xU a k U0) (tU k) sz) (mQi D (xU a k U0) (xU a k U0) sz r) 0 0 (va_A (xU a k U0) sz) := by
  refine mk_met (cc := cX0_steepest) (maxL := 5) (ret := (some .int)) (by decide) rfl (Nat.le_of_ble_eq_true rfl) ?_
  intro p e s m below meth c hx hb hr hml hts hown hmn hlocks hnw hsz hK hP hD hS hA ls hl
  obtain ⟨A, hAe⟩ : ∃ A, A = va_A (xU a k U0) sz := ⟨_, rfl⟩
  rw [← hAe] at hD hS hA
  generalize hargs : List.toArray ([.ref (a 11), .int p0, .int p1] : List Value) = args at hts ⊢
  generalize hQ : MQ below (mQi D (xU a k U0) (xU a k U0) sz r) args s 0 0 (va_A (xU a k U0) sz) = Q
  have hl : lv_has ls 5 [(0, .ref (a 11)), (1, .int p0), (2, .int p1)] := hl
  have lb33 : ∀ (ko5 : Int32 → Int32 → Option (Int32)), (∀ (x3 : Int32) (x4 : Int32), ∀ (H : Heap) (locs : List Loc), va_P D vwCl (xU a k U0) H → va_D A (xU a k U0) → va_S A s.heap H locs → ∀ ls : Array Slot, lv_has ls 5 [(0, .ref (a 11)), (1, .int p0), (2, .int p1), (3, .int x3), (4, .int x4)] → ko5 x3 x4 = some r → W p l e rm_X0_steepest s m args below meth c H locs 0 0 Q (F0 m 5 ls [])) → ∀ (x3 : Int32) (x4 : Int32), ∀ (H : Heap) (locs : List Loc), va_P D vwCl (xU a k U0) H → va_D A (xU a k U0) → va_S A s.heap H locs → ∀ ls : Array Slot, lv_has ls 5 [(0, .ref (a 11)), (1, .int p0), (2, .int p1), (3, .int x3), (4, .int x4)] → f_X0_steepest_J33 U0 p0 p1 ko5 x3 x4 = some r → W p l e rm_X0_steepest s m args below meth c H locs 0 0 Q (F0 m 33 ls []) := by
    intro ko5 hko5 x3 x4 H locs hP hD hS ls hl h
    rw [f_X0_steepest_J33] at h
    obtain ⟨v1, ev1⟩ : ∃ y : Int32, y = x4 + (1 : Int32) := ⟨_, rfl⟩
    have h := ltt_s ev1 h
    refine lv_iinc (v := v1) (lv' := [(4, .int v1), (0, .ref (a 11)), (1, .int p0), (2, .int p1), (3, .int x3)]) hx hb dX0_steepest_33 hl (k := 4) rfl (by rw [ev1]; rfl) (by decide) rfl (fun ls hl => ?_)
    refine lv_goto (tgt := 5) hx hb dX0_steepest_36 (by decide) ?_
    exact hko5 x3 v1 H locs hP hD hS ls (lv_sub hl [1, 2, 3, 4, 0] rfl) h
  have lb5 : ∀ (n : Nat), ∀ (x3 : Int32) (x4 : Int32), ∀ (H : Heap) (locs : List Loc), va_P D vwCl (xU a k U0) H → va_D A (xU a k U0) → va_S A s.heap H locs → ∀ ls : Array Slot, lv_has ls 5 [(0, .ref (a 11)), (1, .int p0), (2, .int p1), (3, .int x3), (4, .int x4)] → f_X0_steepest_L5 U0 p0 p1 n x3 x4 = some r → W p l e rm_X0_steepest s m args below meth c H locs 0 0 Q (F0 m 5 ls []) := by
    intro n
    induction n with
    | zero =>
      intro x3 x4 H locs hP hD hS ls hl h
      rw [f_X0_steepest_L5] at h
      cases h
    | succ n ih =>
      intro x3 x4 H locs hP hD hS ls hl h
      rw [f_X0_steepest_L5] at h
      refine lv_iload hx hb dX0_steepest_5 (lv_at hl 4 rfl) ?_
      refine lv_iload_n hx hb dX0_steepest_7 rfl (lv_at hl 2 rfl) ?_
      refine lv_iconst (v := (1 : Int32)) hx hb dX0_steepest_8 (by decide) ?_
      refine lv_isub hx hb dX0_steepest_9 ?_
      refine lv_icmp_ge (tgt := 39) hx hb dX0_steepest_10 (by decide) (fun c2 => ?_) (fun c2 => ?_)
      · have h := it_t c2 h
        refine lv_iload_n hx hb dX0_steepest_39 rfl (lv_at hl 3 rfl) ?_
        have h := Option.some.inj h
        subst hQ
        subst hAe
        exact r_i hx hb hr hlocks h hP hD hS dX0_steepest_40
      · have h := it_f c2 h
        refine lv_aload_n hx hb dX0_steepest_13 rfl (lv_at hl 0 rfl) ?_
        refine lv_iload_n hx hb dX0_steepest_14 rfl (lv_at hl 1 rfl) ?_
        refine lv_iload hx hb dX0_steepest_15 (lv_at hl 4 rfl) ?_
        obtain ⟨r3, q3, h⟩ := b1_s h
        refine go_l (run_V (As := [.int p0, .int x4]) (rest := []) ⟨hx, hb, hml, hown, hts⟩ hnw hK hP hD (fr_U_U a k U0 U0) (ks_U_U k) (c_X0_stepAfter l D a k H.size U0 p0 x4 r3 q3) (cwV 2 hts gX0_steepest_X0_stepAfter rfl rfl rfl (by decide +kernel) ⟨Nat.le_of_ble_eq_true rfl, Nat.le_of_ble_eq_true rfl⟩) (rcv_U a k U0) rfl hl.1 rfl (Nat.le_of_ble_eq_true rfl) dX0_steepest_17 ⟨Nat.zero_le _, Nat.zero_le _⟩) hP hD hS hA (fr_U_U a k U0 U0) (fun H locs hP hD hS => ?_)
        refine lv_aload_n hx hb dX0_steepest_20 rfl (lv_at hl 0 rfl) ?_
        refine lv_iload_n hx hb dX0_steepest_21 rfl (lv_at hl 1 rfl) ?_
        refine lv_iload_n hx hb dX0_steepest_22 rfl (lv_at hl 3 rfl) ?_
        obtain ⟨r4, q4, h⟩ := b1_s h
        refine go_l (run_V (As := [.int p0, .int x3]) (rest := [.long r3]) ⟨hx, hb, hml, hown, hts⟩ hnw hK hP hD (fr_U_U a k U0 U0) (ks_U_U k) (c_X0_stepAfter l D a k H.size U0 p0 x3 r4 q4) (cwV 2 hts gX0_steepest_X0_stepAfter rfl rfl rfl (by decide +kernel) ⟨Nat.le_of_ble_eq_true rfl, Nat.le_of_ble_eq_true rfl⟩) (rcv_U a k U0) rfl hl.1 rfl (Nat.le_of_ble_eq_true rfl) dX0_steepest_23 ⟨Nat.zero_le _, Nat.zero_le _⟩) hP hD hS hA (fr_U_U a k U0 U0) (fun H locs hP hD hS => ?_)
        refine W.lcmp hx hb dX0_steepest_26 ?_
        refine lv_if_le (tgt := 33) hx hb dX0_steepest_27 (by decide) (fun c5 => ?_) (fun c5 => ?_)
        · have h := it_t c5 h
          exact lb33 (f_X0_steepest_L5 U0 p0 p1 n) ih x3 x4 H locs hP hD hS ls (lv_sub hl [0, 1, 2, 3, 4] rfl) h
        · have h := it_f c5 h
          refine lv_iload hx hb dX0_steepest_30 (lv_at hl 4 rfl) ?_
          refine lv_istore_n (lv' := [(3, .int x4), (0, .ref (a 11)), (1, .int p0), (2, .int p1), (4, .int x4)]) hx hb dX0_steepest_32 rfl hl (by decide) rfl (fun ls hl => ?_)
          exact lb33 (f_X0_steepest_L5 U0 p0 p1 n) ih x4 x4 H locs hP hD hS ls (lv_sub hl [1, 2, 3, 0, 4] rfl) h
  rw [f_X0_steepest] at h
  obtain ⟨H, hH⟩ : ∃ H, H = s.heap := ⟨_, rfl⟩
  obtain ⟨locs, hlc⟩ : ∃ L : List Loc, L = [] := ⟨_, rfl⟩
  rw [← hH] at hP
  have hS : va_S A s.heap H locs := by rw [hH, hlc]; exact hS
  suffices hW9 : W p l e rm_X0_steepest s m args below meth c H locs 0 0 Q (F0 m 0 ls []) by rw [hH, hlc] at hW9; exact hW9
  refine lv_iconst (v := (0 : Int32)) hx hb dX0_steepest_0 (by decide) ?_
  refine lv_istore_n (lv' := [(3, .int (0 : Int32)), (0, .ref (a 11)), (1, .int p0), (2, .int p1)]) hx hb dX0_steepest_1 rfl hl (by decide) rfl (fun ls hl => ?_)
  refine lv_iconst (v := (1 : Int32)) hx hb dX0_steepest_2 (by decide) ?_
  refine lv_istore (lv' := [(4, .int (1 : Int32)), (3, .int (0 : Int32)), (0, .ref (a 11)), (1, .int p0), (2, .int p1)]) hx hb dX0_steepest_3 hl (by decide) rfl (fun ls hl => ?_)
  exact lb5 64 (0 : Int32) (1 : Int32) H locs hP hD hS ls (lv_sub hl [2, 3, 4, 1, 0] rfl) h
def f_X0_digestOn_L23 (U0 : Nat → Nat → Int32) (p0 : Int64) (p1 : Int32)  : Nat → Int64 → Int32 → Option (Int64)
  | 0, _, _ => none
  | n + 1, x4, x6 => if (40 : Int32) ≤ x6 then (some x4) else (gd (inb p1 6) (ltt (Int32.toNatClampNeg p1) (fun q_3 => gd (inb x6 40) (ltt ((((31 : Int64) * x4) + (Int32.toInt64 (U0 q_3 (Int32.toNatClampNeg x6))))) (fun v5 => ltt (x6 + (1 : Int32)) (fun v6 => f_X0_digestOn_L23 U0 p0 p1 n v5 v6))))))
def f_X0_digestOn (U0 : Nat → Nat → Int32) (p0 : Int64) (p1 : Int32) : Option (Int64) := gd (inb p1 6) (if (U0 6 (Int32.toNatClampNeg p1)) = (0 : Int32) then (some (((31 : Int64) * p0) - (1 : Int64))) else (f_X0_digestOn_L23 U0 p0 p1 64 p0 (0 : Int32)))
abbrev rm_X0_digestOn : Room := { frames := 0, cells := 0, slots := 0, locals := 0 }
set_option maxHeartbeats 4000000 in
set_option maxRecDepth 100000 in
theorem c_X0_digestOn (l : Launch) (D : va_G) (a : Nat → Nat) (k : Nat → ClassId) (sz : Nat) (U0 : Nat → Nat → Int32) (p0 : Int64) (p1 : Int32) (r : Int64) (h : f_X0_digestOn U0 p0 p1 = some r) : Met l yX0_digestOn wsX0_digestOn rm_X0_digestOn (mPc D [.ref (a 11), .long p0, .int p1] (xU a k U0) (tU k) sz) (mQl D (xU a k U0) (xU a k U0) sz r) 0 0 (va_A (xU a k U0) sz) := by
  refine mk_met (cc := cX0_digestOn) (maxL := 7) (ret := (some .long)) (by decide) rfl (Nat.le_of_ble_eq_true rfl) ?_
  intro p e s m below meth c hx hb hr hml hts hown hmn hlocks hnw hsz hK hP hD hS hA ls hl
  obtain ⟨A, hAe⟩ : ∃ A, A = va_A (xU a k U0) sz := ⟨_, rfl⟩
  rw [← hAe] at hD hS hA
  generalize hargs : List.toArray ([.ref (a 11), .long p0, .int p1] : List Value) = args at hts ⊢
  generalize hQ : MQ below (mQl D (xU a k U0) (xU a k U0) sz r) args s 0 0 (va_A (xU a k U0) sz) = Q
  have hl : lv_has ls 7 [(0, .ref (a 11)), (1, .long p0), (3, .int p1)] := hl
  have hin0 : ∀ w ∈ wsX00, w ∈ wsX0_digestOn := fun w h => List.mem_cons_of_mem _ (List.mem_append_right _ h)
  have lb23 : ∀ (n : Nat), ∀ (x4 : Int64) (x6 : Int32), ∀ (H : Heap) (locs : List Loc), va_P D vwCl (xU a k U0) H → va_D A (xU a k U0) → va_S A s.heap H locs → ∀ ls : Array Slot, lv_has ls 7 [(0, .ref (a 11)), (3, .int p1), (4, .long x4), (6, .int x6)] → f_X0_digestOn_L23 U0 p0 p1 n x4 x6 = some r → W p l e rm_X0_digestOn s m args below meth c H locs 0 0 Q (F0 m 23 ls []) := by
    intro n
    induction n with
    | zero =>
      intro x4 x6 H locs hP hD hS ls hl h
      rw [f_X0_digestOn_L23] at h
      cases h
    | succ n ih =>
      intro x4 x6 H locs hP hD hS ls hl h
      rw [f_X0_digestOn_L23] at h
      refine lv_iload hx hb dX0_digestOn_23 (lv_at hl 3 rfl) ?_
      refine lv_bipush (v := (40 : Int32)) hx hb dX0_digestOn_25 (by decide) ?_
      refine lv_icmp_ge (tgt := 55) hx hb dX0_digestOn_27 (by decide) (fun c1 => ?_) (fun c1 => ?_)
      · have h := it_t c1 h
        refine lv_lload hx hb dX0_digestOn_55 (lv_at hl 2 rfl) ?_
        have h := Option.some.inj h
        subst hQ
        subst hAe
        exact r_l hx hb hr hlocks h hP hD hS dX0_digestOn_57
      · have h := it_f c1 h
        refine lv_ldc2 (v := (31 : Int64)) hx hb hown (hts (.constantLong RX0 34 (31)) (List.mem_of_getElem? (i := 2) rfl)) dX0_digestOn_30 ?_
        refine lv_lload hx hb dX0_digestOn_33 (lv_at hl 2 rfl) ?_
        refine lv_lmul hx hb dX0_digestOn_35 ?_
        refine lv_aload_n hx hb dX0_digestOn_36 rfl (lv_at hl 0 rfl) ?_
        refine va_get (D := D) (ci := 0) (v := .ref (a 12)) (C := RX0) (T := TX0) (N := 2) hx hb hts hin0 hown hK hP 0 rfl rfl 0 (by decide) (hts (.fieldLink RX0 11 "BallastLine$Runs" "rows" "[[I") (List.mem_of_getElem? (i := 3) rfl)) (fun _ h9 => h9) rfl dX0_digestOn_37 ?_
        refine lv_iload_n hx hb dX0_digestOn_40 rfl (lv_at hl 1 rfl) ?_
        obtain ⟨g2, h⟩ := gd_s h
        obtain ⟨q_3, eq_3⟩ : ∃ y : Nat, y = Int32.toNatClampNeg p1 := ⟨_, rfl⟩
        have h := ltt_s eq_3 h
        have hq_3 : q_3 < 6 := by rw [eq_3]; exact clt_of g2
        refine va_ldrow hx hb hK hP 1 0 rfl rfl (inb_in g2) eq_3 dX0_digestOn_41 ?_
        refine lv_iload hx hb dX0_digestOn_42 (lv_at hl 3 rfl) ?_
        obtain ⟨g4, h⟩ := gd_s h
        refine va_iald hx hb hK hP (2 + q_3) (1 + q_3) (rowat_U a k U0 q_3 hq_3) (rowty_U k q_3 hq_3) (inb_in g4) dX0_digestOn_44 ?_
        refine lv_i2l (v := (Int32.toInt64 (U0 q_3 (Int32.toNatClampNeg x6)))) hx hb dX0_digestOn_45 rfl ?_
        refine lv_ladd hx hb dX0_digestOn_46 ?_
        refine lv_topl (fun v5 ev5 => ?_)
        have h := ltt_s ev5 h
        refine lv_lstore (lv' := [(4, .long v5), (0, .ref (a 11)), (3, .int p1), (6, .int x6)]) hx hb dX0_digestOn_47 hl (by decide) rfl (fun ls hl => ?_)
        obtain ⟨v6, ev6⟩ : ∃ y : Int32, y = x6 + (1 : Int32) := ⟨_, rfl⟩
        have h := ltt_s ev6 h
        refine lv_iinc (v := v6) (lv' := [(6, .int v6), (4, .long v5), (0, .ref (a 11)), (3, .int p1)]) hx hb dX0_digestOn_49 hl (k := 3) rfl (by rw [ev6]; rfl) (by decide) rfl (fun ls hl => ?_)
        refine lv_goto (tgt := 23) hx hb dX0_digestOn_52 (by decide) ?_
        exact ih v5 v6 H locs hP hD hS ls (lv_sub hl [2, 3, 1, 0] rfl) h
  rw [f_X0_digestOn] at h
  obtain ⟨H, hH⟩ : ∃ H, H = s.heap := ⟨_, rfl⟩
  obtain ⟨locs, hlc⟩ : ∃ L : List Loc, L = [] := ⟨_, rfl⟩
  rw [← hH] at hP
  have hS : va_S A s.heap H locs := by rw [hH, hlc]; exact hS
  suffices hW9 : W p l e rm_X0_digestOn s m args below meth c H locs 0 0 Q (F0 m 0 ls []) by rw [hH, hlc] at hW9; exact hW9
  refine lv_aload_n hx hb dX0_digestOn_0 rfl (lv_at hl 0 rfl) ?_
  refine va_get (D := D) (ci := 0) (v := .ref (a 19)) (C := RX0) (T := TX0) (N := 2) hx hb hts hin0 hown hK hP 0 rfl rfl 1 (by decide) (hts (.fieldLink RX0 16 "BallastLine$Runs" "there" "[Z") (List.mem_of_getElem? (i := 1) rfl)) (fun _ h9 => h9) rfl dX0_digestOn_1 ?_
  refine lv_iload_n hx hb dX0_digestOn_4 rfl (lv_at hl 2 rfl) ?_
  obtain ⟨g7, h⟩ := gd_s h
  refine va_zald hx hb hK hP 8 7 rfl rfl (inb_in g7) dX0_digestOn_5 ?_
  refine lv_if_ne (tgt := 17) hx hb dX0_digestOn_6 (by decide) (fun c8 => ?_) (fun c8 => ?_)
  · have h := it_f c8 h
    refine lv_lload_n hx hb dX0_digestOn_17 rfl (lv_at hl 1 rfl) ?_
    refine lv_lstore (lv' := [(4, .long p0), (0, .ref (a 11)), (1, .long p0), (3, .int p1)]) hx hb dX0_digestOn_18 hl (by decide) rfl (fun ls hl => ?_)
    refine lv_iconst (v := (0 : Int32)) hx hb dX0_digestOn_20 (by decide) ?_
    refine lv_istore (lv' := [(6, .int (0 : Int32)), (4, .long p0), (0, .ref (a 11)), (1, .long p0), (3, .int p1)]) hx hb dX0_digestOn_21 hl (by decide) rfl (fun ls hl => ?_)
    exact lb23 64 p0 (0 : Int32) H locs hP hD hS ls (lv_sub hl [2, 4, 1, 0] rfl) h
  · have h := it_t c8 h
    refine lv_ldc2 (v := (31 : Int64)) hx hb hown (hts (.constantLong RX0 34 (31)) (List.mem_of_getElem? (i := 2) rfl)) dX0_digestOn_9 ?_
    refine lv_lload_n hx hb dX0_digestOn_12 rfl (lv_at hl 1 rfl) ?_
    refine lv_lmul hx hb dX0_digestOn_13 ?_
    refine lv_lconst (v := (1 : Int64)) hx hb dX0_digestOn_14 (by decide) ?_
    refine lv_lsub hx hb dX0_digestOn_15 ?_
    have h := Option.some.inj h
    subst hQ
    subst hAe
    exact r_l hx hb hr hlocks h hP hD hS dX0_digestOn_16
