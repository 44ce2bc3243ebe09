def f_X1_jointAt (T0 : Nat → Nat → Int32) (p0 : Int32) : Option (Int32) := b1 (f_X1_stands T0 p0) (fun r1 => if r1 = (0 : Int32) then (some (0 : Int32)) else (gd (inb p0 40) (if (T0 0 (Int32.toNatClampNeg p0)) = (3 : Int32) then (some (1 : Int32)) else (some (0 : Int32)))))
abbrev rm_X1_jointAt : Room := { frames := 2, cells := 0, slots := 0, locals := 42 }
set_option maxHeartbeats 4000000 in
set_option maxRecDepth 100000 in
theorem c_X1_jointAt (l : Launch) (D : va_G) (a : Nat → Nat) (k : Nat → ClassId) (sz : Nat) (T0 : Nat → Nat → Int32) (p0 : Int32) (r : Int32) (h : f_X1_jointAt T0 p0 = some r) : Met l yX1_jointAt wsX1_jointAt rm_X1_jointAt (mPc D [.ref (a 0), .int p0] (xT a k T0) (tT k) sz) (mQi D (xT a k T0) (xT a k T0) sz r) 0 0 (va_A (xT a k T0) sz) := by
  refine mk_met (cc := cX1_jointAt) (maxL := 2) (ret := (some .boolean)) (by decide) rfl (Nat.le_of_ble_eq_true rfl) ?_
  intro p e s m below meth c hx hb hr hml hts hown hmn hlocks hnw hsz hK hP hD hS hA ls hl
  obtain ⟨A, hAe⟩ : ∃ A, A = va_A (xT a k T0) sz := ⟨_, rfl⟩
  rw [← hAe] at hD hS hA
  generalize hargs : List.toArray ([.ref (a 0), .int p0] : List Value) = args at hts ⊢
  generalize hQ : MQ below (mQi D (xT a k T0) (xT a k T0) sz r) args s 0 0 (va_A (xT a k T0) sz) = Q
  have hl : lv_has ls 2 [(0, .ref (a 0)), (1, .int p0)] := hl
  have hin1 : ∀ w ∈ wsX10, w ∈ wsX1_jointAt := fun w h => List.mem_cons_of_mem _ (List.mem_append_right _ h)
  rw [f_X1_jointAt] at h
  obtain ⟨H, hH⟩ : ∃ H, H = s.heap := ⟨_, rfl⟩
  obtain ⟨locs, hlc⟩ : ∃ L : List Loc, L = [] := ⟨_, rfl⟩
  rw [← hH] at hP
  have hS : va_S A s.heap H locs := by rw [hH, hlc]; exact hS
  suffices hW9 : W p l e rm_X1_jointAt s m args below meth c H locs 0 0 Q (F0 m 0 ls []) by rw [hH, hlc] at hW9; exact hW9
  refine lv_aload_n hx hb dX1_jointAt_0 rfl (lv_at hl 0 rfl) ?_
  refine lv_iload_n hx hb dX1_jointAt_1 rfl (lv_at hl 1 rfl) ?_
  obtain ⟨r1, q1, h⟩ := b1_s h
  refine go_i (run_V (As := [.int p0]) (rest := []) ⟨hx, hb, hml, hown, hts⟩ hnw hK hP hD (fr_T_T a k T0 T0) (ks_T_T k) (c_X1_stands l D a k H.size T0 p0 r1 q1) (cwV 1 hts gX1_jointAt_X1_stands rfl rfl rfl (by decide +kernel) ⟨Nat.le_of_ble_eq_true rfl, Nat.le_of_ble_eq_true rfl⟩) (rcv_T a k T0) rfl hl.1 rfl (Nat.le_of_ble_eq_true rfl) dX1_jointAt_2 ⟨Nat.zero_le _, Nat.zero_le _⟩) hP hD hS hA (fr_T_T a k T0 T0) (fun H locs hP hD hS => ?_)
  refine lv_if_eq (tgt := 22) hx hb dX1_jointAt_5 (by decide) (fun c2 => ?_) (fun c2 => ?_)
  · have h := it_t c2 h
    refine lv_iconst (v := (0 : Int32)) hx hb dX1_jointAt_22 (by decide) ?_
    have h := Option.some.inj h
    subst hQ
    subst hAe
    exact r_z hx hb hr rfl hlocks h hP hD hS dX1_jointAt_23
  · have h := it_f c2 h
    refine lv_aload_n hx hb dX1_jointAt_8 rfl (lv_at hl 0 rfl) ?_
    refine va_get (D := D) (ci := 1) (v := .ref (a 1)) (C := RX1) (T := TX1) (N := 8) hx hb hts hin1 hown hK hP 0 rfl rfl 0 (by decide) (hts (.fieldLink RX1 9 "BallastLine$Track" "kinds" "[I") (List.mem_of_getElem? (i := 1) rfl)) (fun _ h9 => h9) rfl dX1_jointAt_9 ?_
    refine lv_iload_n hx hb dX1_jointAt_12 rfl (lv_at hl 1 rfl) ?_
    obtain ⟨g3, h⟩ := gd_s h
    refine va_iald hx hb hK hP 1 0 rfl rfl (inb_in g3) dX1_jointAt_13 ?_
    refine lv_iconst (v := (3 : Int32)) hx hb dX1_jointAt_14 (by decide) ?_
    refine lv_icmp_ne (tgt := 22) hx hb dX1_jointAt_15 (by decide) (fun c4 => ?_) (fun c4 => ?_)
    · have h := it_f c4 h
      refine lv_iconst (v := (0 : Int32)) hx hb dX1_jointAt_22 (by decide) ?_
      have h := Option.some.inj h
      subst hQ
      subst hAe
      exact r_z hx hb hr rfl hlocks h hP hD hS dX1_jointAt_23
    · have h := it_t c4 h
      refine lv_iconst (v := (1 : Int32)) hx hb dX1_jointAt_18 (by decide) ?_
      refine lv_goto (tgt := 23) hx hb dX1_jointAt_19 (by decide) ?_
      have h := Option.some.inj h
      subst hQ
      subst hAe
      exact r_z hx hb hr rfl hlocks h hP hD hS dX1_jointAt_23
def f_X1_sink (T0 : Nat → Nat → Int32) (p0 : Int32) (p1 : Int32) : Option (Int32 × (Nat → Nat → Int32)) := gd (inb p0 40) (ltt (((T0 3 (Int32.toNatClampNeg p0)) + p1)) (fun v2 => gd (nz32 (100 : Int32)) (ltt ((v2 / (100 : Int32))) (fun v4 => gd (nz32 (100 : Int32)) (gd (inb p0 40) (ltt (st T0 3 (Int32.toNatClampNeg p0) (v2 - v2 / (100 : Int32) * (100 : Int32))) (fun (T_7 : Nat → Nat → Int32) => if v4 ≤ (0 : Int32) then (some (v4, T_7)) else (gd (inb p0 40) (b1 (f_X1_setBed T_7 p0 ((T_7 1 (Int32.toNatClampNeg p0)) - v4)) (fun (T_10 : Nat → Nat → Int32) => some (v4, T_10)))))))))))
abbrev rm_X1_sink : Room := { frames := 3, cells := 0, slots := 0, locals := 67 }
set_option maxHeartbeats 4000000 in
set_option maxRecDepth 100000 in
theorem c_X1_sink (l : Launch) (D : va_G) (a : Nat → Nat) (k : Nat → ClassId) (sz : Nat) (T0 : Nat → Nat → Int32) (p0 : Int32) (p1 : Int32) (r : Int32) (Tz : (Nat → Nat → Int32)) (h : f_X1_sink T0 p0 p1 = some (r, Tz)) : Met l yX1_sink wsX1_sink rm_X1_sink (mPc D [.ref (a 0), .int p0, .int p1] (xT a k T0) (tT k) sz) (mQi D (xT a k T0) (xT a k Tz) sz r) 0 0 (va_A (xT a k T0) sz) := by
  refine mk_met (cc := cX1_sink) (maxL := 5) (ret := (some .int)) (by decide) rfl (Nat.le_of_ble_eq_true rfl) ?_
  intro p e s m below meth c hx hb hr hml hts hown hmn hlocks hnw hsz hK hP hD hS hA ls hl
  obtain ⟨A, hAe⟩ : ∃ A, A = va_A (xT a k T0) sz := ⟨_, rfl⟩
  rw [← hAe] at hD hS hA
  generalize hargs : List.toArray ([.ref (a 0), .int p0, .int p1] : List Value) = args at hts ⊢
  generalize hQ : MQ below (mQi D (xT a k T0) (xT a k Tz) sz r) args s 0 0 (va_A (xT a k T0) sz) = Q
  have hl : lv_has ls 5 [(0, .ref (a 0)), (1, .int p0), (2, .int p1)] := hl
  have hin1 : ∀ w ∈ wsX10, w ∈ wsX1_sink := fun w h => List.mem_cons_of_mem _ (List.mem_append_right _ h)
  rw [f_X1_sink] at h
  obtain ⟨H, hH⟩ : ∃ H, H = s.heap := ⟨_, rfl⟩
  obtain ⟨locs, hlc⟩ : ∃ L : List Loc, L = [] := ⟨_, rfl⟩
  rw [← hH] at hP
  have hS : va_S A s.heap H locs := by rw [hH, hlc]; exact hS
  suffices hW9 : W p l e rm_X1_sink s m args below meth c H locs 0 0 Q (F0 m 0 ls []) by rw [hH, hlc] at hW9; exact hW9
  refine lv_aload_n hx hb dX1_sink_0 rfl (lv_at hl 0 rfl) ?_
  refine va_get (D := D) (ci := 1) (v := .ref (a 4)) (C := RX1) (T := TX1) (N := 8) hx hb hts hin1 hown hK hP 0 rfl rfl 3 (by decide) (hts (.fieldLink RX1 21 "BallastLine$Track" "hundredths" "[I") (List.mem_of_getElem? (i := 1) rfl)) (fun _ h9 => h9) rfl dX1_sink_1 ?_
  refine lv_iload_n hx hb dX1_sink_4 rfl (lv_at hl 1 rfl) ?_
  obtain ⟨g1, h⟩ := gd_s h
  refine va_iald hx hb hK hP 4 3 rfl rfl (inb_in g1) dX1_sink_5 ?_
  refine lv_iload_n hx hb dX1_sink_6 rfl (lv_at hl 2 rfl) ?_
  refine lv_iadd hx hb dX1_sink_7 ?_
  refine lv_topi (fun v2 ev2 => ?_)
  have h := ltt_s ev2 h
  refine lv_istore_n (lv' := [(3, .int v2), (0, .ref (a 0)), (1, .int p0), (2, .int p1)]) hx hb dX1_sink_8 rfl hl (by decide) rfl (fun ls hl => ?_)
  refine lv_iload_n hx hb dX1_sink_9 rfl (lv_at hl 0 rfl) ?_
  refine lv_bipush (v := (100 : Int32)) hx hb dX1_sink_10 (by decide) ?_
  obtain ⟨g3, h⟩ := gd_s h
  refine lv_idiv hx hb dX1_sink_12 (nz32_s g3) ?_
  refine lv_topi (fun v4 ev4 => ?_)
  have h := ltt_s ev4 h
  refine lv_istore (lv' := [(4, .int v4), (3, .int v2), (0, .ref (a 0)), (1, .int p0), (2, .int p1)]) hx hb dX1_sink_13 hl (by decide) rfl (fun ls hl => ?_)
  refine lv_aload_n hx hb dX1_sink_15 rfl (lv_at hl 2 rfl) ?_
  refine va_get (D := D) (ci := 1) (v := .ref (a 4)) (C := RX1) (T := TX1) (N := 8) hx hb hts hin1 hown hK hP 0 rfl rfl 3 (by decide) (hts (.fieldLink RX1 21 "BallastLine$Track" "hundredths" "[I") (List.mem_of_getElem? (i := 1) rfl)) (fun _ h9 => h9) rfl dX1_sink_16 ?_
  refine lv_iload_n hx hb dX1_sink_19 rfl (lv_at hl 3 rfl) ?_
  refine lv_iload_n hx hb dX1_sink_20 rfl (lv_at hl 1 rfl) ?_
  refine lv_bipush (v := (100 : Int32)) hx hb dX1_sink_21 (by decide) ?_
  obtain ⟨g5, h⟩ := gd_s h
  refine lv_irem hx hb dX1_sink_23 (nz32_s g5) ?_
  obtain ⟨g6, h⟩ := gd_s h
  refine va_iast hx hb hK hP hD hS 4 3 rfl rfl (inb_in g6) dX1_sink_24 (fun H locs hP hD hS => ?_)
  obtain ⟨T_7, eT_7⟩ : ∃ y : Nat → Nat → Int32, y = st T0 3 (Int32.toNatClampNeg p0) (v2 - v2 / (100 : Int32) * (100 : Int32)) := ⟨_, rfl⟩
  have h := ltt_s eT_7 h
  have hP : va_P D vwCl (xT a k T_7) H := by rw [eT_7]; exact hP
  have hD : va_D A (xT a k T_7) := by rw [eT_7]; exact hD
  refine lv_iload hx hb dX1_sink_25 (lv_at hl 0 rfl) ?_
  refine lv_if_le (tgt := 44) hx hb dX1_sink_27 (by decide) (fun c8 => ?_) (fun c8 => ?_)
  · have h := it_t c8 h
    refine lv_iload hx hb dX1_sink_44 (lv_at hl 0 rfl) ?_
    have h := Option.some.inj h
    obtain ⟨hz0, h⟩ := Prod.mk.inj h
    have hP : va_P D vwCl (xT a k Tz) H := by rw [← h]; exact hP
    have hD : va_D A (xT a k Tz) := by rw [← h]; exact hD
    subst hQ
    subst hAe
    exact r_i hx hb hr hlocks hz0 hP hD hS dX1_sink_46
  · have h := it_f c8 h
    refine lv_aload_n hx hb dX1_sink_30 rfl (lv_at hl 2 rfl) ?_
    refine lv_iload_n hx hb dX1_sink_31 rfl (lv_at hl 3 rfl) ?_
    refine lv_aload_n hx hb dX1_sink_32 rfl (lv_at hl 2 rfl) ?_
    refine va_get (D := D) (ci := 1) (v := .ref (a 2)) (C := RX1) (T := TX1) (N := 8) hx hb hts hin1 hown hK hP 0 rfl rfl 1 (by decide) (hts (.fieldLink RX1 15 "BallastLine$Track" "beds" "[I") (List.mem_of_getElem? (i := 2) rfl)) (fun _ h9 => h9) rfl dX1_sink_33 ?_
    refine lv_iload_n hx hb dX1_sink_36 rfl (lv_at hl 3 rfl) ?_
    obtain ⟨g9, h⟩ := gd_s h
    refine va_iald hx hb hK hP 2 1 rfl rfl (inb_in g9) dX1_sink_37 ?_
    refine lv_iload hx hb dX1_sink_38 (lv_at hl 0 rfl) ?_
    refine lv_isub hx hb dX1_sink_40 ?_
    obtain ⟨T_10, q10, h⟩ := b1_s h
    refine go_v (run_V (As := [.int p0, .int ((T_7 1 (Int32.toNatClampNeg p0)) - v4)]) (rest := []) ⟨hx, hb, hml, hown, hts⟩ hnw hK hP hD (fr_T_T a k T_7 T_10) (ks_T_T k) (c_X1_setBed l D a k H.size T_7 p0 ((T_7 1 (Int32.toNatClampNeg p0)) - v4) T_10 q10) (cwV 2 hts gX1_sink_X1_setBed rfl rfl rfl (by decide +kernel) ⟨Nat.le_of_ble_eq_true rfl, Nat.le_of_ble_eq_true rfl⟩) (rcv_T a k T_7) rfl hl.1 rfl (Nat.le_of_ble_eq_true rfl) dX1_sink_41 ⟨Nat.zero_le _, Nat.zero_le _⟩) hP hD hS hA (fr_T_T a k T_7 T_10) (fun H locs hP hD hS => ?_)
    refine lv_iload hx hb dX1_sink_44 (lv_at hl 0 rfl) ?_
    have h := Option.some.inj h
    obtain ⟨hz0, h⟩ := Prod.mk.inj h
    have hP : va_P D vwCl (xT a k Tz) H := by rw [← h]; exact hP
    have hD : va_D A (xT a k Tz) := by rw [← h]; exact hD
    subst hQ
    subst hAe
    exact r_i hx hb hr hlocks hz0 hP hD hS dX1_sink_46
def f_X1_raise (T0 : Nat → Nat → Int32) (p0 : Int32) (p1 : Int32) : Option (Int32 × (Nat → Nat → Int32)) := b1 (f_X1_stands T0 p0) (fun r1 => if r1 = (0 : Int32) then (some ((0 : Int32), T0)) else (gd (inb p0 40) (if (T0 1 (Int32.toNatClampNeg p0)) < p1 then (b1 (f_X1_setBed T0 p0 p1) (fun (T_5 : Nat → Nat → Int32) => gd (inb p0 40) (ltt (st T_5 3 (Int32.toNatClampNeg p0) (0 : Int32)) (fun (T_7 : Nat → Nat → Int32) => gd (inb p0 40) (gd (inb p0 40) (ltt (st T_7 2 (Int32.toNatClampNeg p0) (if (1 : Int32) < ((T_7 2 (Int32.toNatClampNeg p0)) - (1 : Int32)) then ((T_7 2 (Int32.toNatClampNeg p0)) - (1 : Int32)) else (1 : Int32))) (fun (T_10 : Nat → Nat → Int32) => some ((1 : Int32), T_10)))))))) else (some ((0 : Int32), T0)))))
abbrev rm_X1_raise : Room := { frames := 3, cells := 0, slots := 0, locals := 67 }
set_option maxHeartbeats 4000000 in
set_option maxRecDepth 100000 in
theorem c_X1_raise (l : Launch) (D : va_G) (a : Nat → Nat) (k : Nat → ClassId) (sz : Nat) (T0 : Nat → Nat → Int32) (p0 : Int32) (p1 : Int32) (r : Int32) (Tz : (Nat → Nat → Int32)) (h : f_X1_raise T0 p0 p1 = some (r, Tz)) : Met l yX1_raise wsX1_raise rm_X1_raise (mPc D [.ref (a 0), .int p0, .int p1] (xT a k T0) (tT k) sz) (mQi D (xT a k T0) (xT a k Tz) sz r) 0 0 (va_A (xT a k T0) sz) := by
  refine mk_met (cc := cX1_raise) (maxL := 3) (ret := (some .boolean)) (by decide) rfl (Nat.le_of_ble_eq_true rfl) ?_
  intro p e s m below meth c hx hb hr hml hts hown hmn hlocks hnw hsz hK hP hD hS hA ls hl
  obtain ⟨A, hAe⟩ : ∃ A, A = va_A (xT a k T0) sz := ⟨_, rfl⟩
  rw [← hAe] at hD hS hA
  generalize hargs : List.toArray ([.ref (a 0), .int p0, .int p1] : List Value) = args at hts ⊢
  generalize hQ : MQ below (mQi D (xT a k T0) (xT a k Tz) sz r) args s 0 0 (va_A (xT a k T0) sz) = Q
  have hl : lv_has ls 3 [(0, .ref (a 0)), (1, .int p0), (2, .int p1)] := hl
  have hin1 : ∀ w ∈ wsX10, w ∈ wsX1_raise := fun w h => List.mem_cons_of_mem _ (List.mem_append_right _ h)
  rw [f_X1_raise] at h
  obtain ⟨H, hH⟩ : ∃ H, H = s.heap := ⟨_, rfl⟩
  obtain ⟨locs, hlc⟩ : ∃ L : List Loc, L = [] := ⟨_, rfl⟩
  rw [← hH] at hP
  have hS : va_S A s.heap H locs := by rw [hH, hlc]; exact hS
  suffices hW9 : W p l e rm_X1_raise s m args below meth c H locs 0 0 Q (F0 m 0 ls []) by rw [hH, hlc] at hW9; exact hW9
  refine lv_aload_n hx hb dX1_raise_0 rfl (lv_at hl 0 rfl) ?_
  refine lv_iload_n hx hb dX1_raise_1 rfl (lv_at hl 1 rfl) ?_
  obtain ⟨r1, q1, h⟩ := b1_s h
  refine go_i (run_V (As := [.int p0]) (rest := []) ⟨hx, hb, hml, hown, hts⟩ hnw hK hP hD (fr_T_T a k T0 T0) (ks_T_T k) (c_X1_stands l D a k H.size T0 p0 r1 q1) (cwV 1 hts gX1_raise_X1_stands rfl rfl rfl (by decide +kernel) ⟨Nat.le_of_ble_eq_true rfl, Nat.le_of_ble_eq_true rfl⟩) (rcv_T a k T0) rfl hl.1 rfl (Nat.le_of_ble_eq_true rfl) dX1_raise_2 ⟨Nat.zero_le _, Nat.zero_le _⟩) hP hD hS hA (fr_T_T a k T0 T0) (fun H locs hP hD hS => ?_)
  refine lv_if_eq (tgt := 18) hx hb dX1_raise_5 (by decide) (fun c2 => ?_) (fun c2 => ?_)
  · have h := it_t c2 h
    refine lv_iconst (v := (0 : Int32)) hx hb dX1_raise_18 (by decide) ?_
    have h := Option.some.inj h
    obtain ⟨hz0, h⟩ := Prod.mk.inj h
    have hP : va_P D vwCl (xT a k Tz) H := by rw [← h]; exact hP
    have hD : va_D A (xT a k Tz) := by rw [← h]; exact hD
    subst hQ
    subst hAe
    exact r_z hx hb hr rfl hlocks hz0 hP hD hS dX1_raise_19
  · have h := it_f c2 h
    refine lv_aload_n hx hb dX1_raise_8 rfl (lv_at hl 0 rfl) ?_
    refine va_get (D := D) (ci := 1) (v := .ref (a 2)) (C := RX1) (T := TX1) (N := 8) hx hb hts hin1 hown hK hP 0 rfl rfl 1 (by decide) (hts (.fieldLink RX1 15 "BallastLine$Track" "beds" "[I") (List.mem_of_getElem? (i := 1) rfl)) (fun _ h9 => h9) rfl dX1_raise_9 ?_
    refine lv_iload_n hx hb dX1_raise_12 rfl (lv_at hl 1 rfl) ?_
    obtain ⟨g3, h⟩ := gd_s h
    refine va_iald hx hb hK hP 2 1 rfl rfl (inb_in g3) dX1_raise_13 ?_
    refine lv_iload_n hx hb dX1_raise_14 rfl (lv_at hl 2 rfl) ?_
    refine lv_icmp_lt (tgt := 20) hx hb dX1_raise_15 (by decide) (fun c4 => ?_) (fun c4 => ?_)
    · have h := it_t c4 h
      refine lv_aload_n hx hb dX1_raise_20 rfl (lv_at hl 0 rfl) ?_
      refine lv_iload_n hx hb dX1_raise_21 rfl (lv_at hl 1 rfl) ?_
      refine lv_iload_n hx hb dX1_raise_22 rfl (lv_at hl 2 rfl) ?_
      obtain ⟨T_5, q5, h⟩ := b1_s h
      refine go_v (run_V (As := [.int p0, .int p1]) (rest := []) ⟨hx, hb, hml, hown, hts⟩ hnw hK hP hD (fr_T_T a k T0 T_5) (ks_T_T k) (c_X1_setBed l D a k H.size T0 p0 p1 T_5 q5) (cwV 2 hts gX1_raise_X1_setBed rfl rfl rfl (by decide +kernel) ⟨Nat.le_of_ble_eq_true rfl, Nat.le_of_ble_eq_true rfl⟩) (rcv_T a k T0) rfl hl.1 rfl (Nat.le_of_ble_eq_true rfl) dX1_raise_23 ⟨Nat.zero_le _, Nat.zero_le _⟩) hP hD hS hA (fr_T_T a k T0 T_5) (fun H locs hP hD hS => ?_)
      refine lv_aload_n hx hb dX1_raise_26 rfl (lv_at hl 0 rfl) ?_
      refine va_get (D := D) (ci := 1) (v := .ref (a 4)) (C := RX1) (T := TX1) (N := 8) hx hb hts hin1 hown hK hP 0 rfl rfl 3 (by decide) (hts (.fieldLink RX1 21 "BallastLine$Track" "hundredths" "[I") (List.mem_of_getElem? (i := 2) rfl)) (fun _ h9 => h9) rfl dX1_raise_27 ?_
      refine lv_iload_n hx hb dX1_raise_30 rfl (lv_at hl 1 rfl) ?_
      refine lv_iconst (v := (0 : Int32)) hx hb dX1_raise_31 (by decide) ?_
      obtain ⟨g6, h⟩ := gd_s h
      refine va_iast hx hb hK hP hD hS 4 3 rfl rfl (inb_in g6) dX1_raise_32 (fun H locs hP hD hS => ?_)
      obtain ⟨T_7, eT_7⟩ : ∃ y : Nat → Nat → Int32, y = st T_5 3 (Int32.toNatClampNeg p0) (0 : Int32) := ⟨_, rfl⟩
      have h := ltt_s eT_7 h
      have hP : va_P D vwCl (xT a k T_7) H := by rw [eT_7]; exact hP
      have hD : va_D A (xT a k T_7) := by rw [eT_7]; exact hD
      refine lv_aload_n hx hb dX1_raise_33 rfl (lv_at hl 0 rfl) ?_
      refine va_get (D := D) (ci := 1) (v := .ref (a 3)) (C := RX1) (T := TX1) (N := 8) hx hb hts hin1 hown hK hP 0 rfl rfl 2 (by decide) (hts (.fieldLink RX1 18 "BallastLine$Track" "firmness" "[I") (List.mem_of_getElem? (i := 3) rfl)) (fun _ h9 => h9) rfl dX1_raise_34 ?_
      refine lv_iload_n hx hb dX1_raise_37 rfl (lv_at hl 1 rfl) ?_
      refine lv_iconst (v := (1 : Int32)) hx hb dX1_raise_38 (by decide) ?_
      refine lv_aload_n hx hb dX1_raise_39 rfl (lv_at hl 0 rfl) ?_
      refine va_get (D := D) (ci := 1) (v := .ref (a 3)) (C := RX1) (T := TX1) (N := 8) hx hb hts hin1 hown hK hP 0 rfl rfl 2 (by decide) (hts (.fieldLink RX1 18 "BallastLine$Track" "firmness" "[I") (List.mem_of_getElem? (i := 3) rfl)) (fun _ h9 => h9) rfl dX1_raise_40 ?_
      refine lv_iload_n hx hb dX1_raise_43 rfl (lv_at hl 1 rfl) ?_
      obtain ⟨g8, h⟩ := gd_s h
      refine va_iald hx hb hK hP 3 2 rfl rfl (inb_in g8) dX1_raise_44 ?_
      refine lv_iconst (v := (1 : Int32)) hx hb dX1_raise_45 (by decide) ?_
      refine lv_isub hx hb dX1_raise_46 ?_
      refine va_mmax hx hb (hml.trans hl.1.symm) hown (hts (.methodLink RX1 55 Lib.Math.max.name) (List.mem_of_getElem? (i := 4) rfl)) (hts (.static Lib.Math.max.name) (List.mem_of_getElem? (i := 5) rfl)) (hts (.initialized "java/lang/Math") (List.mem_of_getElem? (i := 6) rfl)) (hts (.code Lib.Math.max.name Lib.Math.max.code 2 (some .int)) (List.mem_of_getElem? (i := 7) rfl)) (Nat.le_of_ble_eq_true rfl) (Nat.le_of_ble_eq_true rfl) (Nat.zero_le _) (Nat.zero_le _) dX1_raise_47 ?_
      obtain ⟨g9, h⟩ := gd_s h
      refine va_iast hx hb hK hP hD hS 3 2 rfl rfl (inb_in g9) dX1_raise_50 (fun H locs hP hD hS => ?_)
      obtain ⟨T_10, eT_10⟩ : ∃ y : Nat → Nat → Int32, y = st T_7 2 (Int32.toNatClampNeg p0) (if (1 : Int32) < ((T_7 2 (Int32.toNatClampNeg p0)) - (1 : Int32)) then ((T_7 2 (Int32.toNatClampNeg p0)) - (1 : Int32)) else (1 : Int32)) := ⟨_, rfl⟩
      have h := ltt_s eT_10 h
      have hP : va_P D vwCl (xT a k T_10) H := by rw [eT_10]; exact hP
      have hD : va_D A (xT a k T_10) := by rw [eT_10]; exact hD
      refine lv_iconst (v := (1 : Int32)) hx hb dX1_raise_51 (by decide) ?_
      have h := Option.some.inj h
      obtain ⟨hz0, h⟩ := Prod.mk.inj h
      have hP : va_P D vwCl (xT a k Tz) H := by rw [← h]; exact hP
      have hD : va_D A (xT a k Tz) := by rw [← h]; exact hD
      subst hQ
      subst hAe
      exact r_z hx hb hr rfl hlocks hz0 hP hD hS dX1_raise_52
    · have h := it_f c4 h
      refine lv_iconst (v := (0 : Int32)) hx hb dX1_raise_18 (by decide) ?_
      have h := Option.some.inj h
      obtain ⟨hz0, h⟩ := Prod.mk.inj h
      have hP : va_P D vwCl (xT a k Tz) H := by rw [← h]; exact hP
      have hD : va_D A (xT a k Tz) := by rw [← h]; exact hD
      subst hQ
      subst hAe
      exact r_z hx hb hr rfl hlocks hz0 hP hD hS dX1_raise_19
def f_X1_chord (T0 : Nat → Nat → Int32) (p0 : Int32) (p1 : Int32) : Option (Int32) := b1 (f_X1_has T0 (p0 - p1)) (fun r1 => if r1 = (0 : Int32) then (some (0 : Int32)) else (b1 (f_X1_has T0 (p0 + p1)) (fun r3 => if r3 = (0 : Int32) then (some (0 : Int32)) else (b1 (f_X1_height T0 p0) (fun r5 => b1 (f_X1_height T0 (p0 - p1)) (fun r6 => b1 (f_X1_height T0 (p0 + p1)) (fun r7 => some ((((2 : Int32) * r5) - r6) - r7))))))))
abbrev rm_X1_chord : Room := { frames := 4, cells := 0, slots := 0, locals := 91 }
set_option maxHeartbeats 4000000 in
set_option maxRecDepth 100000 in
theorem c_X1_chord (l : Launch) (D : va_G) (a : Nat → Nat) (k : Nat → ClassId) (sz : Nat) (T0 : Nat → Nat → Int32) (p0 : Int32) (p1 : Int32) (r : Int32) (h : f_X1_chord T0 p0 p1 = some r) : Met l yX1_chord wsX1_chord rm_X1_chord (mPc D [.ref (a 0), .int p0, .int p1] (xT a k T0) (tT k) sz) (mQi D (xT a k T0) (xT a k T0) sz r) 0 0 (va_A (xT a k T0) sz) := by
  refine mk_met (cc := cX1_chord) (maxL := 3) (ret := (some .int)) (by decide) rfl (Nat.le_of_ble_eq_true rfl) ?_
  intro p e s m below meth c hx hb hr hml hts hown hmn hlocks hnw hsz hK hP hD hS hA ls hl
  obtain ⟨A, hAe⟩ : ∃ A, A = va_A (xT a k T0) sz := ⟨_, rfl⟩
  rw [← hAe] at hD hS hA
  generalize hargs : List.toArray ([.ref (a 0), .int p0, .int p1] : List Value) = args at hts ⊢
  generalize hQ : MQ below (mQi D (xT a k T0) (xT a k T0) sz r) args s 0 0 (va_A (xT a k T0) sz) = Q
  have hl : lv_has ls 3 [(0, .ref (a 0)), (1, .int p0), (2, .int p1)] := hl
  rw [f_X1_chord] at h
  obtain ⟨H, hH⟩ : ∃ H, H = s.heap := ⟨_, rfl⟩
  obtain ⟨locs, hlc⟩ : ∃ L : List Loc, L = [] := ⟨_, rfl⟩
  rw [← hH] at hP
  have hS : va_S A s.heap H locs := by rw [hH, hlc]; exact hS
  suffices hW9 : W p l e rm_X1_chord s m args below meth c H locs 0 0 Q (F0 m 0 ls []) by rw [hH, hlc] at hW9; exact hW9
  refine lv_aload_n hx hb dX1_chord_0 rfl (lv_at hl 0 rfl) ?_
  refine lv_iload_n hx hb dX1_chord_1 rfl (lv_at hl 1 rfl) ?_
  refine lv_iload_n hx hb dX1_chord_2 rfl (lv_at hl 2 rfl) ?_
  refine lv_isub hx hb dX1_chord_3 ?_
  obtain ⟨r1, q1, h⟩ := b1_s h
  refine go_i (run_V (As := [.int (p0 - p1)]) (rest := []) ⟨hx, hb, hml, hown, hts⟩ hnw hK hP hD (fr_T_T a k T0 T0) (ks_T_T k) (c_X1_has l D a k H.size T0 (p0 - p1) r1 q1) (cwV 1 hts gX1_chord_X1_has rfl rfl rfl (by decide +kernel) ⟨Nat.le_of_ble_eq_true rfl, Nat.le_of_ble_eq_true rfl⟩) (rcv_T a k T0) rfl hl.1 rfl (Nat.le_of_ble_eq_true rfl) dX1_chord_4 ⟨Nat.zero_le _, Nat.zero_le _⟩) hP hD hS hA (fr_T_T a k T0 T0) (fun H locs hP hD hS => ?_)
  refine lv_if_eq (tgt := 20) hx hb dX1_chord_7 (by decide) (fun c2 => ?_) (fun c2 => ?_)
  · have h := it_t c2 h
    refine lv_iconst (v := (0 : Int32)) hx hb dX1_chord_20 (by decide) ?_
    have h := Option.some.inj h
    subst hQ
    subst hAe
    exact r_i hx hb hr hlocks h hP hD hS dX1_chord_21
  · have h := it_f c2 h
    refine lv_aload_n hx hb dX1_chord_10 rfl (lv_at hl 0 rfl) ?_
    refine lv_iload_n hx hb dX1_chord_11 rfl (lv_at hl 1 rfl) ?_
    refine lv_iload_n hx hb dX1_chord_12 rfl (lv_at hl 2 rfl) ?_
    refine lv_iadd hx hb dX1_chord_13 ?_
    obtain ⟨r3, q3, h⟩ := b1_s h
    refine go_i (run_V (As := [.int (p0 + p1)]) (rest := []) ⟨hx, hb, hml, hown, hts⟩ hnw hK hP hD (fr_T_T a k T0 T0) (ks_T_T k) (c_X1_has l D a k H.size T0 (p0 + p1) r3 q3) (cwV 1 hts gX1_chord_X1_has rfl rfl rfl (by decide +kernel) ⟨Nat.le_of_ble_eq_true rfl, Nat.le_of_ble_eq_true rfl⟩) (rcv_T a k T0) rfl hl.1 rfl (Nat.le_of_ble_eq_true rfl) dX1_chord_14 ⟨Nat.zero_le _, Nat.zero_le _⟩) hP hD hS hA (fr_T_T a k T0 T0) (fun H locs hP hD hS => ?_)
    refine lv_if_ne (tgt := 22) hx hb dX1_chord_17 (by decide) (fun c4 => ?_) (fun c4 => ?_)
    · have h := it_f c4 h
      refine lv_iconst (v := (2 : Int32)) hx hb dX1_chord_22 (by decide) ?_
      refine lv_aload_n hx hb dX1_chord_23 rfl (lv_at hl 0 rfl) ?_
      refine lv_iload_n hx hb dX1_chord_24 rfl (lv_at hl 1 rfl) ?_
      obtain ⟨r5, q5, h⟩ := b1_s h
      refine go_i (run_V (As := [.int p0]) (rest := [.int (2 : Int32)]) ⟨hx, hb, hml, hown, hts⟩ hnw hK hP hD (fr_T_T a k T0 T0) (ks_T_T k) (c_X1_height l D a k H.size T0 p0 r5 q5) (cwV 1 hts gX1_chord_X1_height rfl rfl rfl (by decide +kernel) ⟨Nat.le_of_ble_eq_true rfl, Nat.le_of_ble_eq_true rfl⟩) (rcv_T a k T0) rfl hl.1 rfl (Nat.le_of_ble_eq_true rfl) dX1_chord_25 ⟨Nat.zero_le _, Nat.zero_le _⟩) hP hD hS hA (fr_T_T a k T0 T0) (fun H locs hP hD hS => ?_)
      refine lv_imul hx hb dX1_chord_28 ?_
      refine lv_aload_n hx hb dX1_chord_29 rfl (lv_at hl 0 rfl) ?_
      refine lv_iload_n hx hb dX1_chord_30 rfl (lv_at hl 1 rfl) ?_
      refine lv_iload_n hx hb dX1_chord_31 rfl (lv_at hl 2 rfl) ?_
      refine lv_isub hx hb dX1_chord_32 ?_
      obtain ⟨r6, q6, h⟩ := b1_s h
      refine go_i (run_V (As := [.int (p0 - p1)]) (rest := [.int ((2 : Int32) * r5)]) ⟨hx, hb, hml, hown, hts⟩ hnw hK hP hD (fr_T_T a k T0 T0) (ks_T_T k) (c_X1_height l D a k H.size T0 (p0 - p1) r6 q6) (cwV 1 hts gX1_chord_X1_height rfl rfl rfl (by decide +kernel) ⟨Nat.le_of_ble_eq_true rfl, Nat.le_of_ble_eq_true rfl⟩) (rcv_T a k T0) rfl hl.1 rfl (Nat.le_of_ble_eq_true rfl) dX1_chord_33 ⟨Nat.zero_le _, Nat.zero_le _⟩) hP hD hS hA (fr_T_T a k T0 T0) (fun H locs hP hD hS => ?_)
      refine lv_isub hx hb dX1_chord_36 ?_
      refine lv_aload_n hx hb dX1_chord_37 rfl (lv_at hl 0 rfl) ?_
      refine lv_iload_n hx hb dX1_chord_38 rfl (lv_at hl 1 rfl) ?_
      refine lv_iload_n hx hb dX1_chord_39 rfl (lv_at hl 2 rfl) ?_
      refine lv_iadd hx hb dX1_chord_40 ?_
      obtain ⟨r7, q7, h⟩ := b1_s h
      refine go_i (run_V (As := [.int (p0 + p1)]) (rest := [.int (((2 : Int32) * r5) - r6)]) ⟨hx, hb, hml, hown, hts⟩ hnw hK hP hD (fr_T_T a k T0 T0) (ks_T_T k) (c_X1_height l D a k H.size T0 (p0 + p1) r7 q7) (cwV 1 hts gX1_chord_X1_height rfl rfl rfl (by decide +kernel) ⟨Nat.le_of_ble_eq_true rfl, Nat.le_of_ble_eq_true rfl⟩) (rcv_T a k T0) rfl hl.1 rfl (Nat.le_of_ble_eq_true rfl) dX1_chord_41 ⟨Nat.zero_le _, Nat.zero_le _⟩) hP hD hS hA (fr_T_T a k T0 T0) (fun H locs hP hD hS => ?_)
      refine lv_isub hx hb dX1_chord_44 ?_
      have h := Option.some.inj h
      subst hQ
      subst hAe
      exact r_i hx hb hr hlocks h hP hD hS dX1_chord_45
    · have h := it_t c4 h
      refine lv_iconst (v := (0 : Int32)) hx hb dX1_chord_20 (by decide) ?_
      have h := Option.some.inj h
      subst hQ
      subst hAe
      exact r_i hx hb hr hlocks h hP hD hS dX1_chord_21
def f_X1_greatestChord_L5 (T0 : Nat → Nat → Int32) (p0 : Int32) (p1 : Int32)  : Nat → Int32 → Int32 → Option (Int32)
  | 0, _, _ => none
  | n + 1, x3, x4 => if p1 < x4 then (some x3) else (b1 (f_X1_chord T0 x4 (1 : Int32)) (fun r2 => ltt ((if x3 < (if 0 ≤ r2 then r2 else 0 - r2) then (if 0 ≤ r2 then r2 else 0 - r2) else x3)) (fun v3 => ltt (x4 + (1 : Int32)) (fun v4 => f_X1_greatestChord_L5 T0 p0 p1 n v3 v4))))
def f_X1_greatestChord (T0 : Nat → Nat → Int32) (p0 : Int32) (p1 : Int32) : Option (Int32) := f_X1_greatestChord_L5 T0 p0 p1 64 (0 : Int32) p0
abbrev rm_X1_greatestChord : Room := { frames := 5, cells := 0, slots := 0, locals := 113 }
set_option maxHeartbeats 4000000 in
set_option maxRecDepth 100000 in
theorem c_X1_greatestChord (l : Launch) (D : va_G) (a : Nat → Nat) (k : Nat → ClassId) (sz : Nat) (T0 : Nat → Nat → Int32) (p0 : Int32) (p1 : Int32) (r : Int32) (h : f_X1_greatestChord T0 p0 p1 = some r) : Met l yX1_greatestChord wsX1_greatestChord rm_X1_greatestChord (mPc D [.ref (a 0), .int p0, .int p1] (xT a k T0) (tT k) sz) (mQi D (xT a k T0) (xT a k T0) sz r) 0 0 (va_A (xT a k T0) sz) := by
  refine mk_met (cc := cX1_greatestChord) (maxL := 5) (ret := (some .int)) (by decide) rfl (Nat.le_of_ble_eq_true rfl) ?_
  intro p e s m below meth c hx hb hr hml hts hown hmn hlocks hnw hsz hK hP hD hS hA ls hl
  obtain ⟨A, hAe⟩ : ∃ A, A = va_A (xT a k T0) sz := ⟨_, rfl⟩
  rw [← hAe] at hD hS hA
  generalize hargs : List.toArray ([.ref (a 0), .int p0, .int p1] : List Value) = args at hts ⊢
  generalize hQ : MQ below (mQi D (xT a k T0) (xT a k T0) sz r) args s 0 0 (va_A (xT a k T0) sz) = Q
  have hl : lv_has ls 5 [(0, .ref (a 0)), (1, .int p0), (2, .int p1)] := hl
  have lb5 : ∀ (n : Nat), ∀ (x3 : Int32) (x4 : Int32), ∀ (H : Heap) (locs : List Loc), va_P D vwCl (xT a k T0) H → va_D A (xT a k T0) → va_S A s.heap H locs → ∀ ls : Array Slot, lv_has ls 5 [(0, .ref (a 0)), (2, .int p1), (3, .int x3), (4, .int x4)] → f_X1_greatestChord_L5 T0 p0 p1 n x3 x4 = some r → W p l e rm_X1_greatestChord s m args below meth c H locs 0 0 Q (F0 m 5 ls []) := by
    intro n
    induction n with
    | zero =>
      intro x3 x4 H locs hP hD hS ls hl h
      rw [f_X1_greatestChord_L5] at h
      cases h
    | succ n ih =>
      intro x3 x4 H locs hP hD hS ls hl h
      rw [f_X1_greatestChord_L5] at h
      refine lv_iload hx hb dX1_greatestChord_5 (lv_at hl 3 rfl) ?_
      refine lv_iload_n hx hb dX1_greatestChord_7 rfl (lv_at hl 1 rfl) ?_
      refine lv_icmp_gt (tgt := 32) hx hb dX1_greatestChord_8 (by decide) (fun c1 => ?_) (fun c1 => ?_)
      · have h := it_t c1 h
        refine lv_iload_n hx hb dX1_greatestChord_32 rfl (lv_at hl 2 rfl) ?_
        have h := Option.some.inj h
        subst hQ
        subst hAe
        exact r_i hx hb hr hlocks h hP hD hS dX1_greatestChord_33
      · have h := it_f c1 h
        refine lv_iload_n hx hb dX1_greatestChord_11 rfl (lv_at hl 2 rfl) ?_
        refine lv_aload_n hx hb dX1_greatestChord_12 rfl (lv_at hl 0 rfl) ?_
        refine lv_iload hx hb dX1_greatestChord_13 (lv_at hl 3 rfl) ?_
        refine lv_iconst (v := (1 : Int32)) hx hb dX1_greatestChord_15 (by decide) ?_
        obtain ⟨r2, q2, h⟩ := b1_s h
        refine go_i (run_V (As := [.int x4, .int (1 : Int32)]) (rest := [.int x3]) ⟨hx, hb, hml, hown, hts⟩ hnw hK hP hD (fr_T_T a k T0 T0) (ks_T_T k) (c_X1_chord l D a k H.size T0 x4 (1 : Int32) r2 q2) (cwV 2 hts gX1_greatestChord_X1_chord rfl rfl rfl (by decide +kernel) ⟨Nat.le_of_ble_eq_true rfl, Nat.le_of_ble_eq_true rfl⟩) (rcv_T a k T0) rfl hl.1 rfl (Nat.le_of_ble_eq_true rfl) dX1_greatestChord_16 ⟨Nat.zero_le _, Nat.zero_le _⟩) hP hD hS hA (fr_T_T a k T0 T0) (fun H locs hP hD hS => ?_)
        refine va_mabs hx hb (hml.trans hl.1.symm) hown (hts (.methodLink RX1 83 Lib.Math.abs.name) (List.mem_of_getElem? (i := 1) rfl)) (hts (.static Lib.Math.abs.name) (List.mem_of_getElem? (i := 2) rfl)) (hts (.initialized "java/lang/Math") (List.mem_of_getElem? (i := 3) rfl)) (hts (.code Lib.Math.abs.name Lib.Math.abs.code 1 (some .int)) (List.mem_of_getElem? (i := 4) rfl)) (Nat.le_of_ble_eq_true rfl) (Nat.le_of_ble_eq_true rfl) (Nat.zero_le _) (Nat.zero_le _) dX1_greatestChord_19 ?_
        refine va_mmax hx hb (hml.trans hl.1.symm) hown (hts (.methodLink RX1 55 Lib.Math.max.name) (List.mem_of_getElem? (i := 5) rfl)) (hts (.static Lib.Math.max.name) (List.mem_of_getElem? (i := 6) rfl)) (hts (.initialized "java/lang/Math") (List.mem_of_getElem? (i := 3) rfl)) (hts (.code Lib.Math.max.name Lib.Math.max.code 2 (some .int)) (List.mem_of_getElem? (i := 7) rfl)) (Nat.le_of_ble_eq_true rfl) (Nat.le_of_ble_eq_true rfl) (Nat.zero_le _) (Nat.zero_le _) dX1_greatestChord_22 ?_
        refine lv_topi (fun v3 ev3 => ?_)
        have h := ltt_s ev3 h
        refine lv_istore_n (lv' := [(3, .int v3), (0, .ref (a 0)), (2, .int p1), (4, .int x4)]) hx hb dX1_greatestChord_25 rfl hl (by decide) rfl (fun ls hl => ?_)
        obtain ⟨v4, ev4⟩ : ∃ y : Int32, y = x4 + (1 : Int32) := ⟨_, rfl⟩
        have h := ltt_s ev4 h
        refine lv_iinc (v := v4) (lv' := [(4, .int v4), (3, .int v3), (0, .ref (a 0)), (2, .int p1)]) hx hb dX1_greatestChord_26 hl (k := 3) rfl (by rw [ev4]; rfl) (by decide) rfl (fun ls hl => ?_)
        refine lv_goto (tgt := 5) hx hb dX1_greatestChord_29 (by decide) ?_
        exact ih v3 v4 H locs hP hD hS ls (lv_sub hl [2, 3, 1, 0] rfl) h
  rw [f_X1_greatestChord] at h
  obtain ⟨H, hH⟩ : ∃ H, H = s.heap := ⟨_, rfl⟩
  obtain ⟨locs, hlc⟩ : ∃ L : List Loc, L = [] := ⟨_, rfl⟩
  rw [← hH] at hP
  have hS : va_S A s.heap H locs := by rw [hH, hlc]; exact hS
  suffices hW9 : W p l e rm_X1_greatestChord s m args below meth c H locs 0 0 Q (F0 m 0 ls []) by rw [hH, hlc] at hW9; exact hW9
  refine lv_iconst (v := (0 : Int32)) hx hb dX1_greatestChord_0 (by decide) ?_
  refine lv_istore_n (lv' := [(3, .int (0 : Int32)), (0, .ref (a 0)), (1, .int p0), (2, .int p1)]) hx hb dX1_greatestChord_1 rfl hl (by decide) rfl (fun ls hl => ?_)
  refine lv_iload_n hx hb dX1_greatestChord_2 rfl (lv_at hl 2 rfl) ?_
  refine lv_istore (lv' := [(4, .int p0), (3, .int (0 : Int32)), (0, .ref (a 0)), (1, .int p0), (2, .int p1)]) hx hb dX1_greatestChord_3 hl (by decide) rfl (fun ls hl => ?_)
  exact lb5 64 (0 : Int32) p0 H locs hP hD hS ls (lv_sub hl [2, 4, 1, 0] rfl) h
def f_X1_sumOfStones_J30 (T0 : Nat → Nat → Int32) (p0 : Int32) (p1 : Int32) (ko5 : Int32 → Int32 → Option (Int32)) (x3 : Int32) (x4 : Int32) : Option (Int32) := ltt (x4 + (1 : Int32)) (fun v1 => ko5 x3 v1)
def f_X1_sumOfStones_L5 (T0 : Nat → Nat → Int32) (p0 : Int32) (p1 : Int32)  : Nat → Int32 → Int32 → Option (Int32)
  | 0, _, _ => none
  | n + 1, x3, x4 => if p1 < x4 then (some x3) else (b1 (f_X1_stands T0 x4) (fun r3 => if r3 = (0 : Int32) then (f_X1_sumOfStones_J30 T0 p0 p1 (f_X1_sumOfStones_L5 T0 p0 p1 n) x3 x4) else (gd (inb x4 40) (ltt ((x3 + (T0 2 (Int32.toNatClampNeg x4)))) (fun v6 => f_X1_sumOfStones_J30 T0 p0 p1 (f_X1_sumOfStones_L5 T0 p0 p1 n) v6 x4)))))
def f_X1_sumOfStones (T0 : Nat → Nat → Int32) (p0 : Int32) (p1 : Int32) : Option (Int32) := f_X1_sumOfStones_L5 T0 p0 p1 64 (0 : Int32) p0
abbrev rm_X1_sumOfStones : Room := { frames := 2, cells := 0, slots := 0, locals := 42 }
set_option maxHeartbeats 4000000 in
set_option maxRecDepth 100000 in
theorem c_X1_sumOfStones (l : Launch) (D : va_G) (a : Nat → Nat) (k : Nat → ClassId) (sz : Nat) (T0 : Nat → Nat → Int32) (p0 : Int32) (p1 : Int32) (r : Int32) (h : f_X1_sumOfStones T0 p0 p1 = some r) : Met l yX1_sumOfStones wsX1_sumOfStones rm_X1_sumOfStones (mPc D [.ref (a 0), .int p0, .int p1] (xT a k T0) (tT k) sz) (mQi D (xT a k T0) (xT a k T0) sz r) 0 0 (va_A (xT a k T0) sz) := by
  refine mk_met (cc := cX1_sumOfStones) (maxL := 5) (ret := (some .int)) (by decide) rfl (Nat.le_of_ble_eq_true rfl) ?_
  intro p e s m below meth c hx hb hr hml hts hown hmn hlocks hnw hsz hK hP hD hS hA ls hl
  obtain ⟨A, hAe⟩ : ∃ A, A = va_A (xT a k T0) sz := ⟨_, rfl⟩
  rw [← hAe] at hD hS hA
  generalize hargs : List.toArray ([.ref (a 0), .int p0, .int p1] : List Value) = args at hts ⊢
  generalize hQ : MQ below (mQi D (xT a k T0) (xT a k T0) sz r) args s 0 0 (va_A (xT a k T0) sz) = Q
  have hl : lv_has ls 5 [(0, .ref (a 0)), (1, .int p0), (2, .int p1)] := hl
  have hin1 : ∀ w ∈ wsX10, w ∈ wsX1_sumOfStones := fun w h => List.mem_cons_of_mem _ (List.mem_append_right _ h)
  have lb30 : ∀ (ko5 : Int32 → Int32 → Option (Int32)), (∀ (x3 : Int32) (x4 : Int32), ∀ (H : Heap) (locs : List Loc), va_P D vwCl (xT a k T0) H → va_D A (xT a k T0) → va_S A s.heap H locs → ∀ ls : Array Slot, lv_has ls 5 [(0, .ref (a 0)), (2, .int p1), (3, .int x3), (4, .int x4)] → ko5 x3 x4 = some r → W p l e rm_X1_sumOfStones s m args below meth c H locs 0 0 Q (F0 m 5 ls [])) → ∀ (x3 : Int32) (x4 : Int32), ∀ (H : Heap) (locs : List Loc), va_P D vwCl (xT a k T0) H → va_D A (xT a k T0) → va_S A s.heap H locs → ∀ ls : Array Slot, lv_has ls 5 [(0, .ref (a 0)), (2, .int p1), (3, .int x3), (4, .int x4)] → f_X1_sumOfStones_J30 T0 p0 p1 ko5 x3 x4 = some r → W p l e rm_X1_sumOfStones s m args below meth c H locs 0 0 Q (F0 m 30 ls []) := by
    intro ko5 hko5 x3 x4 H locs hP hD hS ls hl h
    rw [f_X1_sumOfStones_J30] at h
    obtain ⟨v1, ev1⟩ : ∃ y : Int32, y = x4 + (1 : Int32) := ⟨_, rfl⟩
    have h := ltt_s ev1 h
    refine lv_iinc (v := v1) (lv' := [(4, .int v1), (0, .ref (a 0)), (2, .int p1), (3, .int x3)]) hx hb dX1_sumOfStones_30 hl (k := 3) rfl (by rw [ev1]; rfl) (by decide) rfl (fun ls hl => ?_)
    refine lv_goto (tgt := 5) hx hb dX1_sumOfStones_33 (by decide) ?_
    exact hko5 x3 v1 H locs hP hD hS ls (lv_sub hl [1, 2, 3, 0] rfl) h
  have lb5 : ∀ (n : Nat), ∀ (x3 : Int32) (x4 : Int32), ∀ (H : Heap) (locs : List Loc), va_P D vwCl (xT a k T0) H → va_D A (xT a k T0) → va_S A s.heap H locs → ∀ ls : Array Slot, lv_has ls 5 [(0, .ref (a 0)), (2, .int p1), (3, .int x3), (4, .int x4)] → f_X1_sumOfStones_L5 T0 p0 p1 n x3 x4 = some r → W p l e rm_X1_sumOfStones s m args below meth c H locs 0 0 Q (F0 m 5 ls []) := by
    intro n
    induction n with
    | zero =>
      intro x3 x4 H locs hP hD hS ls hl h
      rw [f_X1_sumOfStones_L5] at h
      cases h
    | succ n ih =>
      intro x3 x4 H locs hP hD hS ls hl h
      rw [f_X1_sumOfStones_L5] at h
      refine lv_iload hx hb dX1_sumOfStones_5 (lv_at hl 3 rfl) ?_
      refine lv_iload_n hx hb dX1_sumOfStones_7 rfl (lv_at hl 1 rfl) ?_
      refine lv_icmp_gt (tgt := 36) hx hb dX1_sumOfStones_8 (by decide) (fun c2 => ?_) (fun c2 => ?_)
      · have h := it_t c2 h
        refine lv_iload_n hx hb dX1_sumOfStones_36 rfl (lv_at hl 2 rfl) ?_
        have h := Option.some.inj h
        subst hQ
        subst hAe
        exact r_i hx hb hr hlocks h hP hD hS dX1_sumOfStones_37
      · have h := it_f c2 h
        refine lv_aload_n hx hb dX1_sumOfStones_11 rfl (lv_at hl 0 rfl) ?_
        refine lv_iload hx hb dX1_sumOfStones_12 (lv_at hl 3 rfl) ?_
        obtain ⟨r3, q3, h⟩ := b1_s h
        refine go_i (run_V (As := [.int x4]) (rest := []) ⟨hx, hb, hml, hown, hts⟩ hnw hK hP hD (fr_T_T a k T0 T0) (ks_T_T k) (c_X1_stands l D a k H.size T0 x4 r3 q3) (cwV 1 hts gX1_sumOfStones_X1_stands rfl rfl rfl (by decide +kernel) ⟨Nat.le_of_ble_eq_true rfl, Nat.le_of_ble_eq_true rfl⟩) (rcv_T a k T0) rfl hl.1 rfl (Nat.le_of_ble_eq_true rfl) dX1_sumOfStones_14 ⟨Nat.zero_le _, Nat.zero_le _⟩) hP hD hS hA (fr_T_T a k T0 T0) (fun H locs hP hD hS => ?_)
        refine lv_if_eq (tgt := 30) hx hb dX1_sumOfStones_17 (by decide) (fun c4 => ?_) (fun c4 => ?_)
        · have h := it_t c4 h
          exact lb30 (f_X1_sumOfStones_L5 T0 p0 p1 n) ih x3 x4 H locs hP hD hS ls (lv_sub hl [0, 1, 2, 3] rfl) h
        · have h := it_f c4 h
          refine lv_iload_n hx hb dX1_sumOfStones_20 rfl (lv_at hl 2 rfl) ?_
          refine lv_aload_n hx hb dX1_sumOfStones_21 rfl (lv_at hl 0 rfl) ?_
          refine va_get (D := D) (ci := 1) (v := .ref (a 3)) (C := RX1) (T := TX1) (N := 8) hx hb hts hin1 hown hK hP 0 rfl rfl 2 (by decide) (hts (.fieldLink RX1 18 "BallastLine$Track" "firmness" "[I") (List.mem_of_getElem? (i := 1) rfl)) (fun _ h9 => h9) rfl dX1_sumOfStones_22 ?_
          refine lv_iload hx hb dX1_sumOfStones_25 (lv_at hl 3 rfl) ?_
          obtain ⟨g5, h⟩ := gd_s h
          refine va_iald hx hb hK hP 3 2 rfl rfl (inb_in g5) dX1_sumOfStones_27 ?_
          refine lv_iadd hx hb dX1_sumOfStones_28 ?_
          refine lv_topi (fun v6 ev6 => ?_)
          have h := ltt_s ev6 h
          refine lv_istore_n (lv' := [(3, .int v6), (0, .ref (a 0)), (2, .int p1), (4, .int x4)]) hx hb dX1_sumOfStones_29 rfl hl (by decide) rfl (fun ls hl => ?_)
          exact lb30 (f_X1_sumOfStones_L5 T0 p0 p1 n) ih v6 x4 H locs hP hD hS ls (lv_sub hl [1, 2, 0, 3] rfl) h
  rw [f_X1_sumOfStones] at h
  obtain ⟨H, hH⟩ : ∃ H, H = s.heap := ⟨_, rfl⟩
  obtain ⟨locs, hlc⟩ : ∃ L : List Loc, L = [] := ⟨_, rfl⟩
  rw [← hH] at hP
  have hS : va_S A s.heap H locs := by rw [hH, hlc]; exact hS
  suffices hW9 : W p l e rm_X1_sumOfStones s m args below meth c H locs 0 0 Q (F0 m 0 ls []) by rw [hH, hlc] at hW9; exact hW9
  refine lv_iconst (v := (0 : Int32)) hx hb dX1_sumOfStones_0 (by decide) ?_
  refine lv_istore_n (lv' := [(3, .int (0 : Int32)), (0, .ref (a 0)), (1, .int p0), (2, .int p1)]) hx hb dX1_sumOfStones_1 rfl hl (by decide) rfl (fun ls hl => ?_)
  refine lv_iload_n hx hb dX1_sumOfStones_2 rfl (lv_at hl 2 rfl) ?_
  refine lv_istore (lv' := [(4, .int p0), (3, .int (0 : Int32)), (0, .ref (a 0)), (1, .int p0), (2, .int p1)]) hx hb dX1_sumOfStones_3 hl (by decide) rfl (fun ls hl => ?_)
  exact lb5 64 (0 : Int32) p0 H locs hP hD hS ls (lv_sub hl [2, 4, 1, 0] rfl) h
def f_X1_sumOfBeds_J30 (T0 : Nat → Nat → Int32)  (ko4 : Int32 → Int32 → Option (Int32)) (x1 : Int32) (x2 : Int32) : Option (Int32) := ltt (x2 + (1 : Int32)) (fun v1 => ko4 x1 v1)
def f_X1_sumOfBeds_L4 (T0 : Nat → Nat → Int32)   : Nat → Int32 → Int32 → Option (Int32)
  | 0, _, _ => none
  | n + 1, x1, x2 => if (T0 7 0) ≤ x2 then (some x1) else (gd (inb x2 40) (if (T0 5 (Int32.toNatClampNeg x2)) = (0 : Int32) then (gd (inb x2 40) (ltt ((x1 + (T0 1 (Int32.toNatClampNeg x2)))) (fun v6 => f_X1_sumOfBeds_J30 T0 (f_X1_sumOfBeds_L4 T0 n) v6 x2))) else (f_X1_sumOfBeds_J30 T0 (f_X1_sumOfBeds_L4 T0 n) x1 x2)))
def f_X1_sumOfBeds (T0 : Nat → Nat → Int32)  : Option (Int32) := f_X1_sumOfBeds_L4 T0 64 (0 : Int32) (0 : Int32)
abbrev rm_X1_sumOfBeds : Room := { frames := 0, cells := 0, slots := 0, locals := 0 }
set_option maxHeartbeats 4000000 in
set_option maxRecDepth 100000 in
theorem c_X1_sumOfBeds (l : Launch) (D : va_G) (a : Nat → Nat) (k : Nat → ClassId) (sz : Nat) (T0 : Nat → Nat → Int32)  (r : Int32) (h : f_X1_sumOfBeds T0 = some r) : Met l yX1_sumOfBeds wsX1_sumOfBeds rm_X1_sumOfBeds (mPc D [.ref (a 0)] (xT a k T0) (tT k) sz) (mQi D (xT a k T0) (xT a k T0) sz r) 0 0 (va_A (xT a k T0) sz) := by
  refine mk_met (cc := cX1_sumOfBeds) (maxL := 3) (ret := (some .int)) (by decide) rfl (Nat.le_of_ble_eq_true rfl) ?_
  intro p e s m below meth c hx hb hr hml hts hown hmn hlocks hnw hsz hK hP hD hS hA ls hl
  obtain ⟨A, hAe⟩ : ∃ A, A = va_A (xT a k T0) sz := ⟨_, rfl⟩
  rw [← hAe] at hD hS hA
  generalize hargs : List.toArray ([.ref (a 0)] : List Value) = args at hts ⊢
  generalize hQ : MQ below (mQi D (xT a k T0) (xT a k T0) sz r) args s 0 0 (va_A (xT a k T0) sz) = Q
  have hl : lv_has ls 3 [(0, .ref (a 0))] := hl
  have hin1 : ∀ w ∈ wsX10, w ∈ wsX1_sumOfBeds := fun w h => List.mem_cons_of_mem _ (List.mem_append_right _ h)
  have lb30 : ∀ (ko4 : Int32 → Int32 → Option (Int32)), (∀ (x1 : Int32) (x2 : Int32), ∀ (H : Heap) (locs : List Loc), va_P D vwCl (xT a k T0) H → va_D A (xT a k T0) → va_S A s.heap H locs → ∀ ls : Array Slot, lv_has ls 3 [(0, .ref (a 0)), (1, .int x1), (2, .int x2)] → ko4 x1 x2 = some r → W p l e rm_X1_sumOfBeds s m args below meth c H locs 0 0 Q (F0 m 4 ls [])) → ∀ (x1 : Int32) (x2 : Int32), ∀ (H : Heap) (locs : List Loc), va_P D vwCl (xT a k T0) H → va_D A (xT a k T0) → va_S A s.heap H locs → ∀ ls : Array Slot, lv_has ls 3 [(0, .ref (a 0)), (1, .int x1), (2, .int x2)] → f_X1_sumOfBeds_J30 T0 ko4 x1 x2 = some r → W p l e rm_X1_sumOfBeds s m args below meth c H locs 0 0 Q (F0 m 30 ls []) := by
    intro ko4 hko4 x1 x2 H locs hP hD hS ls hl h
    rw [f_X1_sumOfBeds_J30] at h
    obtain ⟨v1, ev1⟩ : ∃ y : Int32, y = x2 + (1 : Int32) := ⟨_, rfl⟩
    have h := ltt_s ev1 h
    refine lv_iinc (v := v1) (lv' := [(2, .int v1), (0, .ref (a 0)), (1, .int x1)]) hx hb dX1_sumOfBeds_30 hl (k := 2) rfl (by rw [ev1]; rfl) (by decide) rfl (fun ls hl => ?_)
    refine lv_goto (tgt := 4) hx hb dX1_sumOfBeds_33 (by decide) ?_
    exact hko4 x1 v1 H locs hP hD hS ls (lv_sub hl [1, 2, 0] rfl) h
  have lb4 : ∀ (n : Nat), ∀ (x1 : Int32) (x2 : Int32), ∀ (H : Heap) (locs : List Loc), va_P D vwCl (xT a k T0) H → va_D A (xT a k T0) → va_S A s.heap H locs → ∀ ls : Array Slot, lv_has ls 3 [(0, .ref (a 0)), (1, .int x1), (2, .int x2)] → f_X1_sumOfBeds_L4 T0 n x1 x2 = some r → W p l e rm_X1_sumOfBeds s m args below meth c H locs 0 0 Q (F0 m 4 ls []) := by
    intro n
    induction n with
    | zero =>
      intro x1 x2 H locs hP hD hS ls hl h
      rw [f_X1_sumOfBeds_L4] at h
      cases h
    | succ n ih =>
      intro x1 x2 H locs hP hD hS ls hl h
      rw [f_X1_sumOfBeds_L4] at h
      refine lv_iload_n hx hb dX1_sumOfBeds_4 rfl (lv_at hl 2 rfl) ?_
      refine lv_aload_n hx hb dX1_sumOfBeds_5 rfl (lv_at hl 0 rfl) ?_
      refine va_get (D := D) (ci := 1) (v := .int (T0 7 0)) (C := RX1) (T := TX1) (N := 8) hx hb hts hin1 hown hK hP 0 rfl rfl 7 (by decide) (hts (.fieldLink RX1 38 "BallastLine$Track" "size" "I") (List.mem_of_getElem? (i := 1) rfl)) (fun _ h9 => h9) rfl dX1_sumOfBeds_6 ?_
      refine lv_icmp_ge (tgt := 36) hx hb dX1_sumOfBeds_9 (by decide) (fun c2 => ?_) (fun c2 => ?_)
      · have h := it_t c2 h
        refine lv_iload_n hx hb dX1_sumOfBeds_36 rfl (lv_at hl 1 rfl) ?_
        have h := Option.some.inj h
        subst hQ
        subst hAe
        exact r_i hx hb hr hlocks h hP hD hS dX1_sumOfBeds_37
      · have h := it_f c2 h
        refine lv_aload_n hx hb dX1_sumOfBeds_12 rfl (lv_at hl 0 rfl) ?_
        refine va_get (D := D) (ci := 1) (v := .ref (a 6)) (C := RX1) (T := TX1) (N := 8) hx hb hts hin1 hown hK hP 0 rfl rfl 5 (by decide) (hts (.fieldLink RX1 27 "BallastLine$Track" "lost" "[Z") (List.mem_of_getElem? (i := 2) rfl)) (fun _ h9 => h9) rfl dX1_sumOfBeds_13 ?_
        refine lv_iload_n hx hb dX1_sumOfBeds_16 rfl (lv_at hl 2 rfl) ?_
        obtain ⟨g3, h⟩ := gd_s h
        refine va_zald hx hb hK hP 6 5 rfl rfl (inb_in g3) dX1_sumOfBeds_17 ?_
        refine lv_if_ne (tgt := 30) hx hb dX1_sumOfBeds_18 (by decide) (fun c4 => ?_) (fun c4 => ?_)
        · have h := it_f c4 h
          exact lb30 (f_X1_sumOfBeds_L4 T0 n) ih x1 x2 H locs hP hD hS ls (lv_sub hl [0, 1, 2] rfl) h
        · have h := it_t c4 h
          refine lv_iload_n hx hb dX1_sumOfBeds_21 rfl (lv_at hl 1 rfl) ?_
          refine lv_aload_n hx hb dX1_sumOfBeds_22 rfl (lv_at hl 0 rfl) ?_
          refine va_get (D := D) (ci := 1) (v := .ref (a 2)) (C := RX1) (T := TX1) (N := 8) hx hb hts hin1 hown hK hP 0 rfl rfl 1 (by decide) (hts (.fieldLink RX1 15 "BallastLine$Track" "beds" "[I") (List.mem_of_getElem? (i := 3) rfl)) (fun _ h9 => h9) rfl dX1_sumOfBeds_23 ?_
          refine lv_iload_n hx hb dX1_sumOfBeds_26 rfl (lv_at hl 2 rfl) ?_
          obtain ⟨g5, h⟩ := gd_s h
          refine va_iald hx hb hK hP 2 1 rfl rfl (inb_in g5) dX1_sumOfBeds_27 ?_
          refine lv_iadd hx hb dX1_sumOfBeds_28 ?_
          refine lv_topi (fun v6 ev6 => ?_)
          have h := ltt_s ev6 h
          refine lv_istore_n (lv' := [(1, .int v6), (0, .ref (a 0)), (2, .int x2)]) hx hb dX1_sumOfBeds_29 rfl hl (by decide) rfl (fun ls hl => ?_)
          exact lb30 (f_X1_sumOfBeds_L4 T0 n) ih v6 x2 H locs hP hD hS ls (lv_sub hl [1, 0, 2] rfl) h
  rw [f_X1_sumOfBeds] at h
  obtain ⟨H, hH⟩ : ∃ H, H = s.heap := ⟨_, rfl⟩
  obtain ⟨locs, hlc⟩ : ∃ L : List Loc, L = [] := ⟨_, rfl⟩
  rw [← hH] at hP
  have hS : va_S A s.heap H locs := by rw [hH, hlc]; exact hS
  suffices hW9 : W p l e rm_X1_sumOfBeds s m args below meth c H locs 0 0 Q (F0 m 0 ls []) by rw [hH, hlc] at hW9; exact hW9
  refine lv_iconst (v := (0 : Int32)) hx hb dX1_sumOfBeds_0 (by decide) ?_
  refine lv_istore_n (lv' := [(1, .int (0 : Int32)), (0, .ref (a 0))]) hx hb dX1_sumOfBeds_1 rfl hl (by decide) rfl (fun ls hl => ?_)
  refine lv_iconst (v := (0 : Int32)) hx hb dX1_sumOfBeds_2 (by decide) ?_
  refine lv_istore_n (lv' := [(2, .int (0 : Int32)), (1, .int (0 : Int32)), (0, .ref (a 0))]) hx hb dX1_sumOfBeds_3 rfl hl (by decide) rfl (fun ls hl => ?_)
  exact lb4 64 (0 : Int32) (0 : Int32) H locs hP hD hS ls (lv_sub hl [2, 1, 0] rfl) h
def f_X4_cutShare  (p0 : Int32) (p1 : Int32) : Option (Int32) := if (1 : Int32) ≤ p1 then (gd (nz32 p1) (some (p0 / p1))) else (some (0 : Int32))
abbrev rm_X4_cutShare : Room := { frames := 0, cells := 0, slots := 0, locals := 0 }
set_option maxHeartbeats 4000000 in
set_option maxRecDepth 100000 in
theorem c_X4_cutShare (l : Launch) (D : va_G) (sz : Nat)  (p0 : Int32) (p1 : Int32) (r : Int32) (h : f_X4_cutShare p0 p1 = some r) : Met l yX4_cutShare wsX4_cutShare rm_X4_cutShare (mPc D [.int p0, .int p1] ([] : va_W) ([] : List (ClassId × FieldType)) sz) (mQi D ([] : va_W) ([] : va_W) sz r) 0 0 (va_A ([] : va_W) sz) := by
  refine mk_met (cc := cX4_cutShare) (maxL := 2) (ret := (some .int)) (by decide) rfl (Nat.le_of_ble_eq_true rfl) ?_
  intro p e s m below meth c hx hb hr hml hts hown hmn hlocks hnw hsz hK hP hD hS hA ls hl
  obtain ⟨A, hAe⟩ : ∃ A, A = va_A ([] : va_W) sz := ⟨_, rfl⟩
  rw [← hAe] at hD hS hA
  generalize hargs : List.toArray ([.int p0, .int p1] : List Value) = args at hts ⊢
  generalize hQ : MQ below (mQi D ([] : va_W) ([] : va_W) sz r) args s 0 0 (va_A ([] : va_W) sz) = Q
  have hl : lv_has ls 2 [(0, .int p0), (1, .int p1)] := hl
  rw [f_X4_cutShare] at h
  obtain ⟨H, hH⟩ : ∃ H, H = s.heap := ⟨_, rfl⟩
  obtain ⟨locs, hlc⟩ : ∃ L : List Loc, L = [] := ⟨_, rfl⟩
  rw [← hH] at hP
  have hS : va_S A s.heap H locs := by rw [hH, hlc]; exact hS
  suffices hW9 : W p l e rm_X4_cutShare s m args below meth c H locs 0 0 Q (F0 m 0 ls []) by rw [hH, hlc] at hW9; exact hW9
  refine lv_iload_n hx hb dX4_cutShare_0 rfl (lv_at hl 1 rfl) ?_
  refine lv_iconst (v := (1 : Int32)) hx hb dX4_cutShare_1 (by decide) ?_
  refine lv_icmp_ge (tgt := 9) hx hb dX4_cutShare_2 (by decide) (fun c1 => ?_) (fun c1 => ?_)
  · have h := it_t c1 h
    refine lv_iload_n hx hb dX4_cutShare_9 rfl (lv_at hl 0 rfl) ?_
    refine lv_iload_n hx hb dX4_cutShare_10 rfl (lv_at hl 1 rfl) ?_
    obtain ⟨g2, h⟩ := gd_s h
    refine lv_idiv hx hb dX4_cutShare_11 (nz32_s g2) ?_
    have h := Option.some.inj h
    subst hQ
    subst hAe
    exact r_i hx hb hr hlocks h hP hD hS dX4_cutShare_12
  · have h := it_f c1 h
    refine lv_iconst (v := (0 : Int32)) hx hb dX4_cutShare_5 (by decide) ?_
    refine lv_goto (tgt := 12) hx hb dX4_cutShare_6 (by decide) ?_
    have h := Option.some.inj h
    subst hQ
    subst hAe
    exact r_i hx hb hr hlocks h hP hD hS dX4_cutShare_12
