def f_X4_within  (p0 : Int32) (p1 : Int32) (p2 : Int32) : Option (Int32) := if p0 < p1 then (some (0 : Int32)) else (if p2 < p0 then (some (0 : Int32)) else (some (1 : Int32)))
abbrev rm_X4_within : Room := { frames := 0, cells := 0, slots := 0, locals := 0 }
set_option maxHeartbeats 4000000 in
set_option maxRecDepth 100000 in
theorem c_X4_within (l : Launch) (D : va_G) (sz : Nat)  (p0 : Int32) (p1 : Int32) (p2 : Int32) (r : Int32) (h : f_X4_within p0 p1 p2 = some r) : Met l yX4_within wsX4_within rm_X4_within (mPc D [.int p0, .int p1, .int p2] ([] : va_W) ([] : List (ClassId × FieldType)) sz) (mQi D ([] : va_W) ([] : va_W) sz r) 0 0 (va_A ([] : va_W) sz) := by
  refine mk_met (cc := cX4_within) (maxL := 3) (ret := (some .boolean)) (by decide) rfl (Nat.le_of_ble_eq_true rfl) ?_
  intro p e s m below meth c hx hb hr hml hts hown hmn hlocks hnw hsz hK hP hD hS hA ls hl
  obtain ⟨A, hAe⟩ : ∃ A, A = va_A ([] : va_W) sz := ⟨_, rfl⟩
  rw [← hAe] at hD hS hA
  generalize hargs : List.toArray ([.int p0, .int p1, .int p2] : List Value) = args at hts ⊢
  generalize hQ : MQ below (mQi D ([] : va_W) ([] : va_W) sz r) args s 0 0 (va_A ([] : va_W) sz) = Q
  have hl : lv_has ls 3 [(0, .int p0), (1, .int p1), (2, .int p2)] := hl
  rw [f_X4_within] at h
  obtain ⟨H, hH⟩ : ∃ H, H = s.heap := ⟨_, rfl⟩
  obtain ⟨locs, hlc⟩ : ∃ L : List Loc, L = [] := ⟨_, rfl⟩
  rw [← hH] at hP
  have hS : va_S A s.heap H locs := by rw [hH, hlc]; exact hS
  suffices hW9 : W p l e rm_X4_within s m args below meth c H locs 0 0 Q (F0 m 0 ls []) by rw [hH, hlc] at hW9; exact hW9
  refine lv_iload_n hx hb dX4_within_0 rfl (lv_at hl 0 rfl) ?_
  refine lv_iload_n hx hb dX4_within_1 rfl (lv_at hl 1 rfl) ?_
  refine lv_icmp_lt (tgt := 14) hx hb dX4_within_2 (by decide) (fun c1 => ?_) (fun c1 => ?_)
  · have h := it_t c1 h
    refine lv_iconst (v := (0 : Int32)) hx hb dX4_within_14 (by decide) ?_
    have h := Option.some.inj h
    subst hQ
    subst hAe
    exact r_z hx hb hr rfl hlocks h hP hD hS dX4_within_15
  · have h := it_f c1 h
    refine lv_iload_n hx hb dX4_within_5 rfl (lv_at hl 0 rfl) ?_
    refine lv_iload_n hx hb dX4_within_6 rfl (lv_at hl 2 rfl) ?_
    refine lv_icmp_gt (tgt := 14) hx hb dX4_within_7 (by decide) (fun c2 => ?_) (fun c2 => ?_)
    · have h := it_t c2 h
      refine lv_iconst (v := (0 : Int32)) hx hb dX4_within_14 (by decide) ?_
      have h := Option.some.inj h
      subst hQ
      subst hAe
      exact r_z hx hb hr rfl hlocks h hP hD hS dX4_within_15
    · have h := it_f c2 h
      refine lv_iconst (v := (1 : Int32)) hx hb dX4_within_10 (by decide) ?_
      refine lv_goto (tgt := 15) hx hb dX4_within_11 (by decide) ?_
      have h := Option.some.inj h
      subst hQ
      subst hAe
      exact r_z hx hb hr rfl hlocks h hP hD hS dX4_within_15
def f_X1_has (T0 : Nat → Nat → Int32) (p0 : Int32) : Option (Int32) := if p0 < (0 : Int32) then (some (0 : Int32)) else (if (T0 7 0) ≤ p0 then (some (0 : Int32)) else (some (1 : Int32)))
abbrev rm_X1_has : Room := { frames := 0, cells := 0, slots := 0, locals := 0 }
set_option maxHeartbeats 4000000 in
set_option maxRecDepth 100000 in
theorem c_X1_has (l : Launch) (D : va_G) (a : Nat → Nat) (k : Nat → ClassId) (sz : Nat) (T0 : Nat → Nat → Int32) (p0 : Int32) (r : Int32) (h : f_X1_has T0 p0 = some r) : Met l yX1_has wsX1_has rm_X1_has (mPc D [.ref (a 0), .int p0] (xT a k T0) (tT k) sz) (mQi D (xT a k T0) (xT a k T0) sz r) 0 0 (va_A (xT a k T0) sz) := by
  refine mk_met (cc := cX1_has) (maxL := 2) (ret := (some .boolean)) (by decide) rfl (Nat.le_of_ble_eq_true rfl) ?_
  intro p e s m below meth c hx hb hr hml hts hown hmn hlocks hnw hsz hK hP hD hS hA ls hl
  obtain ⟨A, hAe⟩ : ∃ A, A = va_A (xT a k T0) sz := ⟨_, rfl⟩
  rw [← hAe] at hD hS hA
  generalize hargs : List.toArray ([.ref (a 0), .int p0] : List Value) = args at hts ⊢
  generalize hQ : MQ below (mQi D (xT a k T0) (xT a k T0) sz r) args s 0 0 (va_A (xT a k T0) sz) = Q
  have hl : lv_has ls 2 [(0, .ref (a 0)), (1, .int p0)] := hl
  have hin1 : ∀ w ∈ wsX10, w ∈ wsX1_has := fun w h => List.mem_cons_of_mem _ (List.mem_append_right _ h)
  rw [f_X1_has] at h
  obtain ⟨H, hH⟩ : ∃ H, H = s.heap := ⟨_, rfl⟩
  obtain ⟨locs, hlc⟩ : ∃ L : List Loc, L = [] := ⟨_, rfl⟩
  rw [← hH] at hP
  have hS : va_S A s.heap H locs := by rw [hH, hlc]; exact hS
  suffices hW9 : W p l e rm_X1_has s m args below meth c H locs 0 0 Q (F0 m 0 ls []) by rw [hH, hlc] at hW9; exact hW9
  refine lv_iload_n hx hb dX1_has_0 rfl (lv_at hl 1 rfl) ?_
  refine lv_if_lt (tgt := 16) hx hb dX1_has_1 (by decide) (fun c1 => ?_) (fun c1 => ?_)
  · have h := it_t c1 h
    refine lv_iconst (v := (0 : Int32)) hx hb dX1_has_16 (by decide) ?_
    have h := Option.some.inj h
    subst hQ
    subst hAe
    exact r_z hx hb hr rfl hlocks h hP hD hS dX1_has_17
  · have h := it_f c1 h
    refine lv_iload_n hx hb dX1_has_4 rfl (lv_at hl 1 rfl) ?_
    refine lv_aload_n hx hb dX1_has_5 rfl (lv_at hl 0 rfl) ?_
    refine va_get (D := D) (ci := 1) (v := .int (T0 7 0)) (C := RX1) (T := TX1) (N := 8) hx hb hts hin1 hown hK hP 0 rfl rfl 7 (by decide) (hts (.fieldLink RX1 38 "BallastLine$Track" "size" "I") (List.mem_of_getElem? (i := 1) rfl)) (fun _ h9 => h9) rfl dX1_has_6 ?_
    refine lv_icmp_ge (tgt := 16) hx hb dX1_has_9 (by decide) (fun c2 => ?_) (fun c2 => ?_)
    · have h := it_t c2 h
      refine lv_iconst (v := (0 : Int32)) hx hb dX1_has_16 (by decide) ?_
      have h := Option.some.inj h
      subst hQ
      subst hAe
      exact r_z hx hb hr rfl hlocks h hP hD hS dX1_has_17
    · have h := it_f c2 h
      refine lv_iconst (v := (1 : Int32)) hx hb dX1_has_12 (by decide) ?_
      refine lv_goto (tgt := 17) hx hb dX1_has_13 (by decide) ?_
      have h := Option.some.inj h
      subst hQ
      subst hAe
      exact r_z hx hb hr rfl hlocks h hP hD hS dX1_has_17
def f_X1_stands (T0 : Nat → Nat → Int32) (p0 : Int32) : Option (Int32) := b1 (f_X1_has T0 p0) (fun r1 => if r1 = (0 : Int32) then (some (0 : Int32)) else (gd (inb p0 40) (if (T0 5 (Int32.toNatClampNeg p0)) = (0 : Int32) then (some (1 : Int32)) else (some (0 : Int32)))))
abbrev rm_X1_stands : Room := { frames := 1, cells := 0, slots := 0, locals := 21 }
set_option maxHeartbeats 4000000 in
set_option maxRecDepth 100000 in
theorem c_X1_stands (l : Launch) (D : va_G) (a : Nat → Nat) (k : Nat → ClassId) (sz : Nat) (T0 : Nat → Nat → Int32) (p0 : Int32) (r : Int32) (h : f_X1_stands T0 p0 = some r) : Met l yX1_stands wsX1_stands rm_X1_stands (mPc D [.ref (a 0), .int p0] (xT a k T0) (tT k) sz) (mQi D (xT a k T0) (xT a k T0) sz r) 0 0 (va_A (xT a k T0) sz) := by
  refine mk_met (cc := cX1_stands) (maxL := 2) (ret := (some .boolean)) (by decide) rfl (Nat.le_of_ble_eq_true rfl) ?_
  intro p e s m below meth c hx hb hr hml hts hown hmn hlocks hnw hsz hK hP hD hS hA ls hl
  obtain ⟨A, hAe⟩ : ∃ A, A = va_A (xT a k T0) sz := ⟨_, rfl⟩
  rw [← hAe] at hD hS hA
  generalize hargs : List.toArray ([.ref (a 0), .int p0] : List Value) = args at hts ⊢
  generalize hQ : MQ below (mQi D (xT a k T0) (xT a k T0) sz r) args s 0 0 (va_A (xT a k T0) sz) = Q
  have hl : lv_has ls 2 [(0, .ref (a 0)), (1, .int p0)] := hl
  have hin1 : ∀ w ∈ wsX10, w ∈ wsX1_stands := fun w h => List.mem_cons_of_mem _ (List.mem_append_right _ h)
  rw [f_X1_stands] at h
  obtain ⟨H, hH⟩ : ∃ H, H = s.heap := ⟨_, rfl⟩
  obtain ⟨locs, hlc⟩ : ∃ L : List Loc, L = [] := ⟨_, rfl⟩
  rw [← hH] at hP
  have hS : va_S A s.heap H locs := by rw [hH, hlc]; exact hS
  suffices hW9 : W p l e rm_X1_stands s m args below meth c H locs 0 0 Q (F0 m 0 ls []) by rw [hH, hlc] at hW9; exact hW9
  refine lv_aload_n hx hb dX1_stands_0 rfl (lv_at hl 0 rfl) ?_
  refine lv_iload_n hx hb dX1_stands_1 rfl (lv_at hl 1 rfl) ?_
  obtain ⟨r1, q1, h⟩ := b1_s h
  refine go_i (run_V (As := [.int p0]) (rest := []) ⟨hx, hb, hml, hown, hts⟩ hnw hK hP hD (fr_T_T a k T0 T0) (ks_T_T k) (c_X1_has l D a k H.size T0 p0 r1 q1) (cwV 1 hts gX1_stands_X1_has rfl rfl rfl (by decide +kernel) ⟨Nat.le_of_ble_eq_true rfl, Nat.le_of_ble_eq_true rfl⟩) (rcv_T a k T0) rfl hl.1 rfl (Nat.le_of_ble_eq_true rfl) dX1_stands_2 ⟨Nat.zero_le _, Nat.zero_le _⟩) hP hD hS hA (fr_T_T a k T0 T0) (fun H locs hP hD hS => ?_)
  refine lv_if_eq (tgt := 21) hx hb dX1_stands_5 (by decide) (fun c2 => ?_) (fun c2 => ?_)
  · have h := it_t c2 h
    refine lv_iconst (v := (0 : Int32)) hx hb dX1_stands_21 (by decide) ?_
    have h := Option.some.inj h
    subst hQ
    subst hAe
    exact r_z hx hb hr rfl hlocks h hP hD hS dX1_stands_22
  · have h := it_f c2 h
    refine lv_aload_n hx hb dX1_stands_8 rfl (lv_at hl 0 rfl) ?_
    refine va_get (D := D) (ci := 1) (v := .ref (a 6)) (C := RX1) (T := TX1) (N := 8) hx hb hts hin1 hown hK hP 0 rfl rfl 5 (by decide) (hts (.fieldLink RX1 27 "BallastLine$Track" "lost" "[Z") (List.mem_of_getElem? (i := 1) rfl)) (fun _ h9 => h9) rfl dX1_stands_9 ?_
    refine lv_iload_n hx hb dX1_stands_12 rfl (lv_at hl 1 rfl) ?_
    obtain ⟨g3, h⟩ := gd_s h
    refine va_zald hx hb hK hP 6 5 rfl rfl (inb_in g3) dX1_stands_13 ?_
    refine lv_if_ne (tgt := 21) hx hb dX1_stands_14 (by decide) (fun c4 => ?_) (fun c4 => ?_)
    · have h := it_f c4 h
      refine lv_iconst (v := (0 : Int32)) hx hb dX1_stands_21 (by decide) ?_
      have h := Option.some.inj h
      subst hQ
      subst hAe
      exact r_z hx hb hr rfl hlocks h hP hD hS dX1_stands_22
    · have h := it_t c4 h
      refine lv_iconst (v := (1 : Int32)) hx hb dX1_stands_17 (by decide) ?_
      refine lv_goto (tgt := 22) hx hb dX1_stands_18 (by decide) ?_
      have h := Option.some.inj h
      subst hQ
      subst hAe
      exact r_z hx hb hr rfl hlocks h hP hD hS dX1_stands_22
def f_X1_isOf_J25 (T0 : Nat → Nat → Int32) (p0 : Int32) (p1 : Int32)   : Option (Int32) := some (1 : Int32)
def f_X1_isOf (T0 : Nat → Nat → Int32) (p0 : Int32) (p1 : Int32) : Option (Int32) := gd (inb p0 40) (if (T0 0 (Int32.toNatClampNeg p0)) = p1 then (f_X1_isOf_J25 T0 p0 p1) else (if p1 = (1 : Int32) then (gd (inb p0 40) (if (T0 0 (Int32.toNatClampNeg p0)) = (3 : Int32) then (f_X1_isOf_J25 T0 p0 p1) else (some (0 : Int32)))) else (some (0 : Int32))))
abbrev rm_X1_isOf : Room := { frames := 0, cells := 0, slots := 0, locals := 0 }
set_option maxHeartbeats 4000000 in
set_option maxRecDepth 100000 in
theorem c_X1_isOf (l : Launch) (D : va_G) (a : Nat → Nat) (k : Nat → ClassId) (sz : Nat) (T0 : Nat → Nat → Int32) (p0 : Int32) (p1 : Int32) (r : Int32) (h : f_X1_isOf T0 p0 p1 = some r) : Met l yX1_isOf wsX1_isOf rm_X1_isOf (mPc D [.ref (a 0), .int p0, .int p1] (xT a k T0) (tT k) sz) (mQi D (xT a k T0) (xT a k T0) sz r) 0 0 (va_A (xT a k T0) sz) := by
  refine mk_met (cc := cX1_isOf) (maxL := 3) (ret := (some .boolean)) (by decide) rfl (Nat.le_of_ble_eq_true rfl) ?_
  intro p e s m below meth c hx hb hr hml hts hown hmn hlocks hnw hsz hK hP hD hS hA ls hl
  obtain ⟨A, hAe⟩ : ∃ A, A = va_A (xT a k T0) sz := ⟨_, rfl⟩
  rw [← hAe] at hD hS hA
  generalize hargs : List.toArray ([.ref (a 0), .int p0, .int p1] : List Value) = args at hts ⊢
  generalize hQ : MQ below (mQi D (xT a k T0) (xT a k T0) sz r) args s 0 0 (va_A (xT a k T0) sz) = Q
  have hl : lv_has ls 3 [(0, .ref (a 0)), (1, .int p0), (2, .int p1)] := hl
  have hin1 : ∀ w ∈ wsX10, w ∈ wsX1_isOf := fun w h => List.mem_cons_of_mem _ (List.mem_append_right _ h)
  have lb25 : ∀ (H : Heap) (locs : List Loc), va_P D vwCl (xT a k T0) H → va_D A (xT a k T0) → va_S A s.heap H locs → ∀ ls : Array Slot, lv_has ls 3 [] → f_X1_isOf_J25 T0 p0 p1 = some r → W p l e rm_X1_isOf s m args below meth c H locs 0 0 Q (F0 m 25 ls []) := by
    intro  H locs hP hD hS ls hl h
    rw [f_X1_isOf_J25] at h
    refine lv_iconst (v := (1 : Int32)) hx hb dX1_isOf_25 (by decide) ?_
    refine lv_goto (tgt := 30) hx hb dX1_isOf_26 (by decide) ?_
    have h := Option.some.inj h
    subst hQ
    subst hAe
    exact r_z hx hb hr rfl hlocks h hP hD hS dX1_isOf_30
  rw [f_X1_isOf] at h
  obtain ⟨H, hH⟩ : ∃ H, H = s.heap := ⟨_, rfl⟩
  obtain ⟨locs, hlc⟩ : ∃ L : List Loc, L = [] := ⟨_, rfl⟩
  rw [← hH] at hP
  have hS : va_S A s.heap H locs := by rw [hH, hlc]; exact hS
  suffices hW9 : W p l e rm_X1_isOf s m args below meth c H locs 0 0 Q (F0 m 0 ls []) by rw [hH, hlc] at hW9; exact hW9
  refine lv_aload_n hx hb dX1_isOf_0 rfl (lv_at hl 0 rfl) ?_
  refine va_get (D := D) (ci := 1) (v := .ref (a 1)) (C := RX1) (T := TX1) (N := 8) hx hb hts hin1 hown hK hP 0 rfl rfl 0 (by decide) (hts (.fieldLink RX1 9 "BallastLine$Track" "kinds" "[I") (List.mem_of_getElem? (i := 1) rfl)) (fun _ h9 => h9) rfl dX1_isOf_1 ?_
  refine lv_iload_n hx hb dX1_isOf_4 rfl (lv_at hl 1 rfl) ?_
  obtain ⟨g1, h⟩ := gd_s h
  refine va_iald hx hb hK hP 1 0 rfl rfl (inb_in g1) dX1_isOf_5 ?_
  refine lv_iload_n hx hb dX1_isOf_6 rfl (lv_at hl 2 rfl) ?_
  refine lv_icmp_eq (tgt := 25) hx hb dX1_isOf_7 (by decide) (fun c2 => ?_) (fun c2 => ?_)
  · have h := it_t c2 h
    exact lb25   H locs hP hD hS ls (lv_sub hl [] rfl) h
  · have h := it_f c2 h
    refine lv_iload_n hx hb dX1_isOf_10 rfl (lv_at hl 2 rfl) ?_
    refine lv_iconst (v := (1 : Int32)) hx hb dX1_isOf_11 (by decide) ?_
    refine lv_icmp_ne (tgt := 29) hx hb dX1_isOf_12 (by decide) (fun c3 => ?_) (fun c3 => ?_)
    · have h := it_f c3 h
      refine lv_iconst (v := (0 : Int32)) hx hb dX1_isOf_29 (by decide) ?_
      have h := Option.some.inj h
      subst hQ
      subst hAe
      exact r_z hx hb hr rfl hlocks h hP hD hS dX1_isOf_30
    · have h := it_t c3 h
      refine lv_aload_n hx hb dX1_isOf_15 rfl (lv_at hl 0 rfl) ?_
      refine va_get (D := D) (ci := 1) (v := .ref (a 1)) (C := RX1) (T := TX1) (N := 8) hx hb hts hin1 hown hK hP 0 rfl rfl 0 (by decide) (hts (.fieldLink RX1 9 "BallastLine$Track" "kinds" "[I") (List.mem_of_getElem? (i := 1) rfl)) (fun _ h9 => h9) rfl dX1_isOf_16 ?_
      refine lv_iload_n hx hb dX1_isOf_19 rfl (lv_at hl 1 rfl) ?_
      obtain ⟨g4, h⟩ := gd_s h
      refine va_iald hx hb hK hP 1 0 rfl rfl (inb_in g4) dX1_isOf_20 ?_
      refine lv_iconst (v := (3 : Int32)) hx hb dX1_isOf_21 (by decide) ?_
      refine lv_icmp_ne (tgt := 29) hx hb dX1_isOf_22 (by decide) (fun c5 => ?_) (fun c5 => ?_)
      · have h := it_f c5 h
        refine lv_iconst (v := (0 : Int32)) hx hb dX1_isOf_29 (by decide) ?_
        have h := Option.some.inj h
        subst hQ
        subst hAe
        exact r_z hx hb hr rfl hlocks h hP hD hS dX1_isOf_30
      · have h := it_t c5 h
        exact lb25   H locs hP hD hS ls (lv_sub hl [] rfl) h
def f_X1_forgetHanging_L25  (p0 : Int32)  : Nat → Int32 → Int32 → (Nat → Nat → Int32) → Option ((Nat → Nat → Int32))
  | 0, _, _, _ => none
  | n + 1, x2, x3, T => if x2 < x3 then (some T) else (gd (inb x3 40) (ltt (st T 6 (Int32.toNatClampNeg x3) (0 : Int32)) (fun (T_3 : Nat → Nat → Int32) => ltt (x3 + (1 : Int32)) (fun v4 => f_X1_forgetHanging_L25 p0 n x2 v4 T_3))))
def f_X1_forgetHanging (T0 : Nat → Nat → Int32) (p0 : Int32) : Option ((Nat → Nat → Int32)) := ltt ((if ((p0 + (4 : Int32)) - (1 : Int32)) < ((T0 7 0) - (1 : Int32)) then ((p0 + (4 : Int32)) - (1 : Int32)) else ((T0 7 0) - (1 : Int32)))) (fun v5 => ltt ((if (0 : Int32) < ((p0 - (4 : Int32)) + (1 : Int32)) then ((p0 - (4 : Int32)) + (1 : Int32)) else (0 : Int32))) (fun v6 => f_X1_forgetHanging_L25 p0 64 v5 v6 T0))
abbrev rm_X1_forgetHanging : Room := { frames := 1, cells := 0, slots := 0, locals := 22 }
set_option maxHeartbeats 4000000 in
set_option maxRecDepth 100000 in
theorem c_X1_forgetHanging (l : Launch) (D : va_G) (a : Nat → Nat) (k : Nat → ClassId) (sz : Nat) (T0 : Nat → Nat → Int32) (p0 : Int32) (Tz : (Nat → Nat → Int32)) (h : f_X1_forgetHanging T0 p0 = some Tz) : Met l yX1_forgetHanging wsX1_forgetHanging rm_X1_forgetHanging (mPc D [.ref (a 0), .int p0] (xT a k T0) (tT k) sz) (mQv D (xT a k T0) (xT a k Tz) sz) 0 0 (va_A (xT a k T0) sz) := by
  refine mk_met (cc := cX1_forgetHanging) (maxL := 4) (ret := none) (by decide) rfl (Nat.le_of_ble_eq_true rfl) ?_
  intro p e s m below meth c hx hb hr hml hts hown hmn hlocks hnw hsz hK hP hD hS hA ls hl
  obtain ⟨A, hAe⟩ : ∃ A, A = va_A (xT a k T0) sz := ⟨_, rfl⟩
  rw [← hAe] at hD hS hA
  generalize hargs : List.toArray ([.ref (a 0), .int p0] : List Value) = args at hts ⊢
  generalize hQ : MQ below (mQv D (xT a k T0) (xT a k Tz) sz) args s 0 0 (va_A (xT a k T0) sz) = Q
  have hl : lv_has ls 4 [(0, .ref (a 0)), (1, .int p0)] := hl
  have hin1 : ∀ w ∈ wsX10, w ∈ wsX1_forgetHanging := fun w h => List.mem_cons_of_mem _ (List.mem_append_right _ h)
  have lb25 : ∀ (n : Nat), ∀ (x2 : Int32) (x3 : Int32) (T : Nat → Nat → Int32), ∀ (H : Heap) (locs : List Loc), va_P D vwCl (xT a k T) H → va_D A (xT a k T) → va_S A s.heap H locs → ∀ ls : Array Slot, lv_has ls 4 [(0, .ref (a 0)), (2, .int x2), (3, .int x3)] → f_X1_forgetHanging_L25 p0 n x2 x3 T = some Tz → W p l e rm_X1_forgetHanging s m args below meth c H locs 0 0 Q (F0 m 25 ls []) := by
    intro n
    induction n with
    | zero =>
      intro x2 x3 T H locs hP hD hS ls hl h
      rw [f_X1_forgetHanging_L25] at h
      cases h
    | succ n ih =>
      intro x2 x3 T H locs hP hD hS ls hl h
      rw [f_X1_forgetHanging_L25] at h
      refine lv_iload_n hx hb dX1_forgetHanging_25 rfl (lv_at hl 2 rfl) ?_
      refine lv_iload_n hx hb dX1_forgetHanging_26 rfl (lv_at hl 1 rfl) ?_
      refine lv_icmp_gt (tgt := 43) hx hb dX1_forgetHanging_27 (by decide) (fun c1 => ?_) (fun c1 => ?_)
      · have h := it_t c1 h
        have h := Option.some.inj h
        have hP : va_P D vwCl (xT a k Tz) H := by rw [← h]; exact hP
        have hD : va_D A (xT a k Tz) := by rw [← h]; exact hD
        subst hQ
        subst hAe
        exact r_v hx hb hr hlocks hP hD hS dX1_forgetHanging_43
      · have h := it_f c1 h
        refine lv_aload_n hx hb dX1_forgetHanging_30 rfl (lv_at hl 0 rfl) ?_
        refine va_get (D := D) (ci := 1) (v := .ref (a 7)) (C := RX1) (T := TX1) (N := 8) hx hb hts hin1 hown hK hP 0 rfl rfl 6 (by decide) (hts (.fieldLink RX1 31 "BallastLine$Track" "hanging" "[I") (List.mem_of_getElem? (i := 9) rfl)) (fun _ h9 => h9) rfl dX1_forgetHanging_31 ?_
        refine lv_iload_n hx hb dX1_forgetHanging_34 rfl (lv_at hl 2 rfl) ?_
        refine lv_iconst (v := (0 : Int32)) hx hb dX1_forgetHanging_35 (by decide) ?_
        obtain ⟨g2, h⟩ := gd_s h
        refine va_iast hx hb hK hP hD hS 7 6 rfl rfl (inb_in g2) dX1_forgetHanging_36 (fun H locs hP hD hS => ?_)
        obtain ⟨T_3, eT_3⟩ : ∃ y : Nat → Nat → Int32, y = st T 6 (Int32.toNatClampNeg x3) (0 : Int32) := ⟨_, rfl⟩
        have h := ltt_s eT_3 h
        have hP : va_P D vwCl (xT a k T_3) H := by rw [eT_3]; exact hP
        have hD : va_D A (xT a k T_3) := by rw [eT_3]; exact hD
        obtain ⟨v4, ev4⟩ : ∃ y : Int32, y = x3 + (1 : Int32) := ⟨_, rfl⟩
        have h := ltt_s ev4 h
        refine lv_iinc (v := v4) (lv' := [(3, .int v4), (0, .ref (a 0)), (2, .int x2)]) hx hb dX1_forgetHanging_37 hl (k := 2) rfl (by rw [ev4]; rfl) (by decide) rfl (fun ls hl => ?_)
        refine lv_goto (tgt := 25) hx hb dX1_forgetHanging_40 (by decide) ?_
        exact ih x2 v4 T_3 H locs hP hD hS ls (lv_sub hl [1, 2, 0] rfl) h
  rw [f_X1_forgetHanging] at h
  obtain ⟨H, hH⟩ : ∃ H, H = s.heap := ⟨_, rfl⟩
  obtain ⟨locs, hlc⟩ : ∃ L : List Loc, L = [] := ⟨_, rfl⟩
  rw [← hH] at hP
  have hS : va_S A s.heap H locs := by rw [hH, hlc]; exact hS
  suffices hW9 : W p l e rm_X1_forgetHanging s m args below meth c H locs 0 0 Q (F0 m 0 ls []) by rw [hH, hlc] at hW9; exact hW9
  refine lv_aload_n hx hb dX1_forgetHanging_0 rfl (lv_at hl 0 rfl) ?_
  refine va_get (D := D) (ci := 1) (v := .int (T0 7 0)) (C := RX1) (T := TX1) (N := 8) hx hb hts hin1 hown hK hP 0 rfl rfl 7 (by decide) (hts (.fieldLink RX1 38 "BallastLine$Track" "size" "I") (List.mem_of_getElem? (i := 1) rfl)) (fun _ h9 => h9) rfl dX1_forgetHanging_1 ?_
  refine lv_iconst (v := (1 : Int32)) hx hb dX1_forgetHanging_4 (by decide) ?_
  refine lv_isub hx hb dX1_forgetHanging_5 ?_
  refine lv_iload_n hx hb dX1_forgetHanging_6 rfl (lv_at hl 1 rfl) ?_
  refine lv_iconst (v := (4 : Int32)) hx hb dX1_forgetHanging_7 (by decide) ?_
  refine lv_iadd hx hb dX1_forgetHanging_8 ?_
  refine lv_iconst (v := (1 : Int32)) hx hb dX1_forgetHanging_9 (by decide) ?_
  refine lv_isub hx hb dX1_forgetHanging_10 ?_
  refine va_mmin hx hb (hml.trans hl.1.symm) hown (hts (.methodLink RX1 49 Lib.Math.min.name) (List.mem_of_getElem? (i := 2) rfl)) (hts (.static Lib.Math.min.name) (List.mem_of_getElem? (i := 3) rfl)) (hts (.initialized "java/lang/Math") (List.mem_of_getElem? (i := 4) rfl)) (hts (.code Lib.Math.min.name Lib.Math.min.code 2 (some .int)) (List.mem_of_getElem? (i := 5) rfl)) (Nat.le_of_ble_eq_true rfl) (Nat.le_of_ble_eq_true rfl) (Nat.zero_le _) (Nat.zero_le _) dX1_forgetHanging_11 ?_
  refine lv_topi (fun v5 ev5 => ?_)
  have h := ltt_s ev5 h
  refine lv_istore_n (lv' := [(2, .int v5), (0, .ref (a 0)), (1, .int p0)]) hx hb dX1_forgetHanging_14 rfl hl (by decide) rfl (fun ls hl => ?_)
  refine lv_iconst (v := (0 : Int32)) hx hb dX1_forgetHanging_15 (by decide) ?_
  refine lv_iload_n hx hb dX1_forgetHanging_16 rfl (lv_at hl 2 rfl) ?_
  refine lv_iconst (v := (4 : Int32)) hx hb dX1_forgetHanging_17 (by decide) ?_
  refine lv_isub hx hb dX1_forgetHanging_18 ?_
  refine lv_iconst (v := (1 : Int32)) hx hb dX1_forgetHanging_19 (by decide) ?_
  refine lv_iadd hx hb dX1_forgetHanging_20 ?_
  refine va_mmax hx hb (hml.trans hl.1.symm) hown (hts (.methodLink RX1 55 Lib.Math.max.name) (List.mem_of_getElem? (i := 6) rfl)) (hts (.static Lib.Math.max.name) (List.mem_of_getElem? (i := 7) rfl)) (hts (.initialized "java/lang/Math") (List.mem_of_getElem? (i := 4) rfl)) (hts (.code Lib.Math.max.name Lib.Math.max.code 2 (some .int)) (List.mem_of_getElem? (i := 8) rfl)) (Nat.le_of_ble_eq_true rfl) (Nat.le_of_ble_eq_true rfl) (Nat.zero_le _) (Nat.zero_le _) dX1_forgetHanging_21 ?_
  refine lv_topi (fun v6 ev6 => ?_)
  have h := ltt_s ev6 h
  refine lv_istore_n (lv' := [(3, .int v6), (2, .int v5), (0, .ref (a 0)), (1, .int p0)]) hx hb dX1_forgetHanging_24 rfl hl (by decide) rfl (fun ls hl => ?_)
  exact lb25 64 v5 v6 T0 H locs hP hD hS ls (lv_sub hl [2, 1, 0] rfl) h
def f_X1_setLost (T0 : Nat → Nat → Int32) (p0 : Int32) (p1 : Int32) : Option ((Nat → Nat → Int32)) := gd (inb p0 40) (ltt (st T0 5 (Int32.toNatClampNeg p0) (vp_nar .boolean p1)) (fun (T_2 : Nat → Nat → Int32) => b1 (f_X1_forgetHanging T_2 p0) (fun (T_3 : Nat → Nat → Int32) => some T_3)))
abbrev rm_X1_setLost : Room := { frames := 2, cells := 0, slots := 0, locals := 45 }
set_option maxHeartbeats 4000000 in
set_option maxRecDepth 100000 in
theorem c_X1_setLost (l : Launch) (D : va_G) (a : Nat → Nat) (k : Nat → ClassId) (sz : Nat) (T0 : Nat → Nat → Int32) (p0 : Int32) (p1 : Int32) (Tz : (Nat → Nat → Int32)) (h : f_X1_setLost T0 p0 p1 = some Tz) : Met l yX1_setLost wsX1_setLost rm_X1_setLost (mPc D [.ref (a 0), .int p0, .int p1] (xT a k T0) (tT k) sz) (mQv D (xT a k T0) (xT a k Tz) sz) 0 0 (va_A (xT a k T0) sz) := by
  refine mk_met (cc := cX1_setLost) (maxL := 3) (ret := none) (by decide) rfl (Nat.le_of_ble_eq_true rfl) ?_
  intro p e s m below meth c hx hb hr hml hts hown hmn hlocks hnw hsz hK hP hD hS hA ls hl
  obtain ⟨A, hAe⟩ : ∃ A, A = va_A (xT a k T0) sz := ⟨_, rfl⟩
  rw [← hAe] at hD hS hA
  generalize hargs : List.toArray ([.ref (a 0), .int p0, .int p1] : List Value) = args at hts ⊢
  generalize hQ : MQ below (mQv D (xT a k T0) (xT a k Tz) sz) args s 0 0 (va_A (xT a k T0) sz) = Q
  have hl : lv_has ls 3 [(0, .ref (a 0)), (1, .int p0), (2, .int p1)] := hl
  have hin1 : ∀ w ∈ wsX10, w ∈ wsX1_setLost := fun w h => List.mem_cons_of_mem _ (List.mem_append_right _ h)
  rw [f_X1_setLost] at h
  obtain ⟨H, hH⟩ : ∃ H, H = s.heap := ⟨_, rfl⟩
  obtain ⟨locs, hlc⟩ : ∃ L : List Loc, L = [] := ⟨_, rfl⟩
  rw [← hH] at hP
  have hS : va_S A s.heap H locs := by rw [hH, hlc]; exact hS
  suffices hW9 : W p l e rm_X1_setLost s m args below meth c H locs 0 0 Q (F0 m 0 ls []) by rw [hH, hlc] at hW9; exact hW9
  refine lv_aload_n hx hb dX1_setLost_0 rfl (lv_at hl 0 rfl) ?_
  refine va_get (D := D) (ci := 1) (v := .ref (a 6)) (C := RX1) (T := TX1) (N := 8) hx hb hts hin1 hown hK hP 0 rfl rfl 5 (by decide) (hts (.fieldLink RX1 27 "BallastLine$Track" "lost" "[Z") (List.mem_of_getElem? (i := 1) rfl)) (fun _ h9 => h9) rfl dX1_setLost_1 ?_
  refine lv_iload_n hx hb dX1_setLost_4 rfl (lv_at hl 1 rfl) ?_
  refine lv_iload_n hx hb dX1_setLost_5 rfl (lv_at hl 2 rfl) ?_
  obtain ⟨g1, h⟩ := gd_s h
  refine va_zast hx hb hK hP hD hS 6 5 rfl rfl (inb_in g1) dX1_setLost_6 (fun H locs hP hD hS => ?_)
  obtain ⟨T_2, eT_2⟩ : ∃ y : Nat → Nat → Int32, y = st T0 5 (Int32.toNatClampNeg p0) (vp_nar .boolean p1) := ⟨_, rfl⟩
  have h := ltt_s eT_2 h
  have hP : va_P D vwCl (xT a k T_2) H := by rw [eT_2]; exact hP
  have hD : va_D A (xT a k T_2) := by rw [eT_2]; exact hD
  refine lv_aload_n hx hb dX1_setLost_7 rfl (lv_at hl 0 rfl) ?_
  refine lv_iload_n hx hb dX1_setLost_8 rfl (lv_at hl 1 rfl) ?_
  obtain ⟨T_3, q3, h⟩ := b1_s h
  refine go_v (run_V (As := [.int p0]) (rest := []) ⟨hx, hb, hml, hown, hts⟩ hnw hK hP hD (fr_T_T a k T_2 T_3) (ks_T_T k) (c_X1_forgetHanging l D a k H.size T_2 p0 T_3 q3) (cwV 1 hts gX1_setLost_X1_forgetHanging rfl rfl rfl (by decide +kernel) ⟨Nat.le_of_ble_eq_true rfl, Nat.le_of_ble_eq_true rfl⟩) (rcv_T a k T_2) rfl hl.1 rfl (Nat.le_of_ble_eq_true rfl) dX1_setLost_9 ⟨Nat.zero_le _, Nat.zero_le _⟩) hP hD hS hA (fr_T_T a k T_2 T_3) (fun H locs hP hD hS => ?_)
  have h := Option.some.inj h
  have hP : va_P D vwCl (xT a k Tz) H := by rw [← h]; exact hP
  have hD : va_D A (xT a k Tz) := by rw [← h]; exact hD
  subst hQ
  subst hAe
  exact r_v hx hb hr hlocks hP hD hS dX1_setLost_12
def f_X1_standing_J23 (T0 : Nat → Nat → Int32) (p0 : Int32) (p1 : Int32) (ko5 : Int32 → Int32 → Option (Int32)) (x3 : Int32) (x4 : Int32) : Option (Int32) := ltt (x4 + (1 : Int32)) (fun v1 => ko5 x3 v1)
def f_X1_standing_L5 (T0 : Nat → Nat → Int32) (p0 : Int32) (p1 : Int32)  : Nat → Int32 → Int32 → Option (Int32)
  | 0, _, _ => none
  | n + 1, x3, x4 => if p1 < x4 then (some x3) else (b1 (f_X1_stands T0 x4) (fun r3 => if r3 = (0 : Int32) then (f_X1_standing_J23 T0 p0 p1 (f_X1_standing_L5 T0 p0 p1 n) x3 x4) else (ltt (x3 + (1 : Int32)) (fun v5 => f_X1_standing_J23 T0 p0 p1 (f_X1_standing_L5 T0 p0 p1 n) v5 x4))))
def f_X1_standing (T0 : Nat → Nat → Int32) (p0 : Int32) (p1 : Int32) : Option (Int32) := f_X1_standing_L5 T0 p0 p1 64 (0 : Int32) p0
abbrev rm_X1_standing : Room := { frames := 2, cells := 0, slots := 0, locals := 42 }
set_option maxHeartbeats 4000000 in
set_option maxRecDepth 100000 in
theorem c_X1_standing (l : Launch) (D : va_G) (a : Nat → Nat) (k : Nat → ClassId) (sz : Nat) (T0 : Nat → Nat → Int32) (p0 : Int32) (p1 : Int32) (r : Int32) (h : f_X1_standing T0 p0 p1 = some r) : Met l yX1_standing wsX1_standing rm_X1_standing (mPc D [.ref (a 0), .int p0, .int p1] (xT a k T0) (tT k) sz) (mQi D (xT a k T0) (xT a k T0) sz r) 0 0 (va_A (xT a k T0) sz) := by
  refine mk_met (cc := cX1_standing) (maxL := 5) (ret := (some .int)) (by decide) rfl (Nat.le_of_ble_eq_true rfl) ?_
  intro p e s m below meth c hx hb hr hml hts hown hmn hlocks hnw hsz hK hP hD hS hA ls hl
  obtain ⟨A, hAe⟩ : ∃ A, A = va_A (xT a k T0) sz := ⟨_, rfl⟩
  rw [← hAe] at hD hS hA
  generalize hargs : List.toArray ([.ref (a 0), .int p0, .int p1] : List Value) = args at hts ⊢
  generalize hQ : MQ below (mQi D (xT a k T0) (xT a k T0) sz r) args s 0 0 (va_A (xT a k T0) sz) = Q
  have hl : lv_has ls 5 [(0, .ref (a 0)), (1, .int p0), (2, .int p1)] := hl
  have lb23 : ∀ (ko5 : Int32 → Int32 → Option (Int32)), (∀ (x3 : Int32) (x4 : Int32), ∀ (H : Heap) (locs : List Loc), va_P D vwCl (xT a k T0) H → va_D A (xT a k T0) → va_S A s.heap H locs → ∀ ls : Array Slot, lv_has ls 5 [(0, .ref (a 0)), (2, .int p1), (3, .int x3), (4, .int x4)] → ko5 x3 x4 = some r → W p l e rm_X1_standing s m args below meth c H locs 0 0 Q (F0 m 5 ls [])) → ∀ (x3 : Int32) (x4 : Int32), ∀ (H : Heap) (locs : List Loc), va_P D vwCl (xT a k T0) H → va_D A (xT a k T0) → va_S A s.heap H locs → ∀ ls : Array Slot, lv_has ls 5 [(0, .ref (a 0)), (2, .int p1), (3, .int x3), (4, .int x4)] → f_X1_standing_J23 T0 p0 p1 ko5 x3 x4 = some r → W p l e rm_X1_standing s m args below meth c H locs 0 0 Q (F0 m 23 ls []) := by
    intro ko5 hko5 x3 x4 H locs hP hD hS ls hl h
    rw [f_X1_standing_J23] at h
    obtain ⟨v1, ev1⟩ : ∃ y : Int32, y = x4 + (1 : Int32) := ⟨_, rfl⟩
    have h := ltt_s ev1 h
    refine lv_iinc (v := v1) (lv' := [(4, .int v1), (0, .ref (a 0)), (2, .int p1), (3, .int x3)]) hx hb dX1_standing_23 hl (k := 3) rfl (by rw [ev1]; rfl) (by decide) rfl (fun ls hl => ?_)
    refine lv_goto (tgt := 5) hx hb dX1_standing_26 (by decide) ?_
    exact hko5 x3 v1 H locs hP hD hS ls (lv_sub hl [1, 2, 3, 0] rfl) h
  have lb5 : ∀ (n : Nat), ∀ (x3 : Int32) (x4 : Int32), ∀ (H : Heap) (locs : List Loc), va_P D vwCl (xT a k T0) H → va_D A (xT a k T0) → va_S A s.heap H locs → ∀ ls : Array Slot, lv_has ls 5 [(0, .ref (a 0)), (2, .int p1), (3, .int x3), (4, .int x4)] → f_X1_standing_L5 T0 p0 p1 n x3 x4 = some r → W p l e rm_X1_standing s m args below meth c H locs 0 0 Q (F0 m 5 ls []) := by
    intro n
    induction n with
    | zero =>
      intro x3 x4 H locs hP hD hS ls hl h
      rw [f_X1_standing_L5] at h
      cases h
    | succ n ih =>
      intro x3 x4 H locs hP hD hS ls hl h
      rw [f_X1_standing_L5] at h
      refine lv_iload hx hb dX1_standing_5 (lv_at hl 3 rfl) ?_
      refine lv_iload_n hx hb dX1_standing_7 rfl (lv_at hl 1 rfl) ?_
      refine lv_icmp_gt (tgt := 29) hx hb dX1_standing_8 (by decide) (fun c2 => ?_) (fun c2 => ?_)
      · have h := it_t c2 h
        refine lv_iload_n hx hb dX1_standing_29 rfl (lv_at hl 2 rfl) ?_
        have h := Option.some.inj h
        subst hQ
        subst hAe
        exact r_i hx hb hr hlocks h hP hD hS dX1_standing_30
      · have h := it_f c2 h
        refine lv_aload_n hx hb dX1_standing_11 rfl (lv_at hl 0 rfl) ?_
        refine lv_iload hx hb dX1_standing_12 (lv_at hl 3 rfl) ?_
        obtain ⟨r3, q3, h⟩ := b1_s h
        refine go_i (run_V (As := [.int x4]) (rest := []) ⟨hx, hb, hml, hown, hts⟩ hnw hK hP hD (fr_T_T a k T0 T0) (ks_T_T k) (c_X1_stands l D a k H.size T0 x4 r3 q3) (cwV 1 hts gX1_standing_X1_stands rfl rfl rfl (by decide +kernel) ⟨Nat.le_of_ble_eq_true rfl, Nat.le_of_ble_eq_true rfl⟩) (rcv_T a k T0) rfl hl.1 rfl (Nat.le_of_ble_eq_true rfl) dX1_standing_14 ⟨Nat.zero_le _, Nat.zero_le _⟩) hP hD hS hA (fr_T_T a k T0 T0) (fun H locs hP hD hS => ?_)
        refine lv_if_eq (tgt := 23) hx hb dX1_standing_17 (by decide) (fun c4 => ?_) (fun c4 => ?_)
        · have h := it_t c4 h
          exact lb23 (f_X1_standing_L5 T0 p0 p1 n) ih x3 x4 H locs hP hD hS ls (lv_sub hl [0, 1, 2, 3] rfl) h
        · have h := it_f c4 h
          obtain ⟨v5, ev5⟩ : ∃ y : Int32, y = x3 + (1 : Int32) := ⟨_, rfl⟩
          have h := ltt_s ev5 h
          refine lv_iinc (v := v5) (lv' := [(3, .int v5), (0, .ref (a 0)), (2, .int p1), (4, .int x4)]) hx hb dX1_standing_20 hl (k := 2) rfl (by rw [ev5]; rfl) (by decide) rfl (fun ls hl => ?_)
          exact lb23 (f_X1_standing_L5 T0 p0 p1 n) ih v5 x4 H locs hP hD hS ls (lv_sub hl [1, 2, 0, 3] rfl) h
  rw [f_X1_standing] at h
  obtain ⟨H, hH⟩ : ∃ H, H = s.heap := ⟨_, rfl⟩
  obtain ⟨locs, hlc⟩ : ∃ L : List Loc, L = [] := ⟨_, rfl⟩
  rw [← hH] at hP
  have hS : va_S A s.heap H locs := by rw [hH, hlc]; exact hS
  suffices hW9 : W p l e rm_X1_standing s m args below meth c H locs 0 0 Q (F0 m 0 ls []) by rw [hH, hlc] at hW9; exact hW9
  refine lv_iconst (v := (0 : Int32)) hx hb dX1_standing_0 (by decide) ?_
  refine lv_istore_n (lv' := [(3, .int (0 : Int32)), (0, .ref (a 0)), (1, .int p0), (2, .int p1)]) hx hb dX1_standing_1 rfl hl (by decide) rfl (fun ls hl => ?_)
  refine lv_iload_n hx hb dX1_standing_2 rfl (lv_at hl 2 rfl) ?_
  refine lv_istore (lv' := [(4, .int p0), (3, .int (0 : Int32)), (0, .ref (a 0)), (1, .int p0), (2, .int p1)]) hx hb dX1_standing_3 hl (by decide) rfl (fun ls hl => ?_)
  exact lb5 64 (0 : Int32) p0 H locs hP hD hS ls (lv_sub hl [2, 4, 1, 0] rfl) h
