def f_X4_line (T0 : Nat → Nat → Int32) (p0 : Int32) : Option (Int32 × (Nat → Nat → Int32)) := b1 (f_X4_within p0 (3 : Int32) (40 : Int32)) (fun r1 => if r1 = (0 : Int32) then (some ((-1 : Int32), T0)) else (b1 (f_X1_renew T0 p0) (fun (T_3 : Nat → Nat → Int32) => some (p0, T_3))))
abbrev rm_X4_line : Room := { frames := 1, cells := 0, slots := 0, locals := 22 }
set_option maxHeartbeats 4000000 in
set_option maxRecDepth 100000 in
theorem c_X4_line (l : Launch) (D : va_G) (a : Nat → Nat) (k : Nat → ClassId) (sz : Nat) (B0 : Nat → Nat → Int32) (L0 : Int64) (R0 : Nat → Nat → Int32) (T0 : Nat → Nat → Int32) (U0 : Nat → Nat → Int32) (V0 : Nat → Nat → Int32) (p0 : Int32) (r : Int32) (Tz : (Nat → Nat → Int32)) (h : f_X4_line T0 p0 = some (r, Tz)) : Met l yX4_line wsX4_line rm_X4_line (mPc D [.ref (a 26), .int p0] (xX a k B0 L0 R0 T0 U0 V0) (tX k) sz) (mQi D (xX a k B0 L0 R0 T0 U0 V0) (xX a k B0 L0 R0 Tz U0 V0) sz r) 0 0 (va_A (xX a k B0 L0 R0 T0 U0 V0) sz) := by
  refine mk_met (cc := cX4_line) (maxL := 2) (ret := (some .int)) (by decide) rfl (Nat.le_of_ble_eq_true rfl) ?_
  intro p e s m below meth c hx hb hr hml hts hown hmn hlocks hnw hsz hK hP hD hS hA ls hl
  obtain ⟨A, hAe⟩ : ∃ A, A = va_A (xX a k B0 L0 R0 T0 U0 V0) sz := ⟨_, rfl⟩
  rw [← hAe] at hD hS hA
  generalize hargs : List.toArray ([.ref (a 26), .int p0] : List Value) = args at hts ⊢
  generalize hQ : MQ below (mQi D (xX a k B0 L0 R0 T0 U0 V0) (xX a k B0 L0 R0 Tz U0 V0) sz r) args s 0 0 (va_A (xX a k B0 L0 R0 T0 U0 V0) sz) = Q
  have hl : lv_has ls 2 [(0, .ref (a 26)), (1, .int p0)] := hl
  have hin4 : ∀ w ∈ wsX40, w ∈ wsX4_line := fun w h => List.mem_cons_of_mem _ (List.mem_append_left _ (List.mem_append_right _ h))
  rw [f_X4_line] at h
  obtain ⟨H, hH⟩ : ∃ H, H = s.heap := ⟨_, rfl⟩
  obtain ⟨locs, hlc⟩ : ∃ L : List Loc, L = [] := ⟨_, rfl⟩
  rw [← hH] at hP
  have hS : va_S A s.heap H locs := by rw [hH, hlc]; exact hS
  suffices hW9 : W p l e rm_X4_line s m args below meth c H locs 0 0 Q (F0 m 0 ls []) by rw [hH, hlc] at hW9; exact hW9
  refine lv_iload_n hx hb dX4_line_0 rfl (lv_at hl 1 rfl) ?_
  refine lv_iconst (v := (3 : Int32)) hx hb dX4_line_1 (by decide) ?_
  refine lv_bipush (v := (40 : Int32)) hx hb dX4_line_2 (by decide) ?_
  obtain ⟨r1, q1, h⟩ := b1_s h
  refine go_i (run_S (As := [.int p0, .int (3 : Int32), .int (40 : Int32)]) (rest := []) ⟨hx, hb, hml, hown, hts⟩ hnw hK hP hD (fr_X_E a k B0 L0 R0 T0 U0 V0) (ks_X_E k) (c_X4_within l D H.size p0 (3 : Int32) (40 : Int32) r1 q1) (cwS 3 hts gX4_line_X4_within rfl rfl rfl (by decide +kernel) ⟨Nat.le_of_ble_eq_true rfl, Nat.le_of_ble_eq_true rfl⟩) rfl hl.1 rfl (Nat.le_of_ble_eq_true rfl) dX4_line_4 ⟨Nat.zero_le _, Nat.zero_le _⟩) hP hD hS hA (fr_X_E a k B0 L0 R0 T0 U0 V0) (fun H locs hP hD hS => ?_)
  refine lv_if_ne (tgt := 12) hx hb dX4_line_7 (by decide) (fun c2 => ?_) (fun c2 => ?_)
  · have h := it_f c2 h
    refine lv_aload_n hx hb dX4_line_12 rfl (lv_at hl 0 rfl) ?_
    refine va_get (D := D) (ci := 4) (v := .ref (a 0)) (C := RX4) (T := TX4) (N := 8) hx hb hts hin4 hown hK hP 0 rfl rfl 0 (by decide) (hts (.fieldLink RX4 10 "BallastLine" "track" "LBallastLine$Track;") (List.mem_of_getElem? (i := 1) rfl)) (fun _ h9 => h9) rfl dX4_line_13 ?_
    refine lv_iload_n hx hb dX4_line_16 rfl (lv_at hl 1 rfl) ?_
    obtain ⟨T_3, q3, h⟩ := b1_s h
    refine go_v (run_VN (As := [.int p0]) (rest := []) ⟨hx, hb, hml, hown, hts⟩ hnw hK hP hD (fr_X_T a k B0 L0 R0 T0 U0 V0 T_3) (ks_X_T k) (c_X1_renew l D a k H.size T0 p0 T_3 q3) ⟨va_cnB 1 hts ggX4_line_X1_renew rfl rfl rfl (hnw.2 (RX4, 56, yX1_renew, RX4) (List.mem_of_getElem? (i := 4) rfl)) (hts (.initialized RX1) (List.mem_of_getElem? (i := 7) rfl)) (by decide +kernel) ⟨Nat.le_of_ble_eq_true rfl, Nat.le_of_ble_eq_true rfl⟩, (hts (.instanceMethod yX1_renew) (List.mem_of_getElem? (i := 6) rfl)), (hts (.selects RX1 yX1_renew yX1_renew) (List.mem_of_getElem? (i := 8) rfl))⟩ (rcv_T a k T0) rfl hl.1 rfl (Nat.le_of_ble_eq_true rfl) dX4_line_17 ⟨Nat.zero_le _, Nat.zero_le _⟩) hP hD hS hA (fr_X_T a k B0 L0 R0 T0 U0 V0 T_3) (fun H locs hP hD hS => ?_)
    refine lv_iload_n hx hb dX4_line_20 rfl (lv_at hl 1 rfl) ?_
    have h := Option.some.inj h
    obtain ⟨hz0, h⟩ := Prod.mk.inj h
    have hP : va_P D vwCl (xX a k B0 L0 R0 Tz U0 V0) H := by rw [← h]; exact hP
    have hD : va_D A (xX a k B0 L0 R0 Tz U0 V0) := by rw [← h]; exact hD
    subst hQ
    subst hAe
    exact r_i hx hb hr hlocks hz0 hP hD hS dX4_line_21
  · have h := it_t c2 h
    refine lv_iconst (v := (-1 : Int32)) hx hb dX4_line_10 (by decide) ?_
    have h := Option.some.inj h
    obtain ⟨hz0, h⟩ := Prod.mk.inj h
    have hP : va_P D vwCl (xX a k B0 L0 R0 Tz U0 V0) H := by rw [← h]; exact hP
    have hD : va_D A (xX a k B0 L0 R0 Tz U0 V0) := by rw [← h]; exact hD
    subst hQ
    subst hAe
    exact r_i hx hb hr hlocks hz0 hP hD hS dX4_line_11
def f_X4_sleeper (T0 : Nat → Nat → Int32) (p0 : Int32) (p1 : Int32) : Option (Int32 × (Nat → Nat → Int32)) := b1 (f_X1_has T0 p0) (fun r1 => if r1 = (0 : Int32) then (some ((-1 : Int32), T0)) else (b1 (f_X4_within p1 (0 : Int32) (3 : Int32)) (fun r3 => if r3 = (0 : Int32) then (some ((-1 : Int32), T0)) else (gd (inb p0 40) (ltt ((T0 0 (Int32.toNatClampNeg p0))) (fun v6 => gd (inb p0 40) (ltt (st T0 0 (Int32.toNatClampNeg p0) p1) (fun (T_8 : Nat → Nat → Int32) => b1 (f_X1_setLost T_8 p0 (0 : Int32)) (fun (T_9 : Nat → Nat → Int32) => some (v6, T_9))))))))))
abbrev rm_X4_sleeper : Room := { frames := 3, cells := 0, slots := 0, locals := 67 }
set_option maxHeartbeats 4000000 in
set_option maxRecDepth 100000 in
theorem c_X4_sleeper (l : Launch) (D : va_G) (a : Nat → Nat) (k : Nat → ClassId) (sz : Nat) (B0 : Nat → Nat → Int32) (L0 : Int64) (R0 : Nat → Nat → Int32) (T0 : Nat → Nat → Int32) (U0 : Nat → Nat → Int32) (V0 : Nat → Nat → Int32) (p0 : Int32) (p1 : Int32) (r : Int32) (Tz : (Nat → Nat → Int32)) (h : f_X4_sleeper T0 p0 p1 = some (r, Tz)) : Met l yX4_sleeper wsX4_sleeper rm_X4_sleeper (mPc D [.ref (a 26), .int p0, .int p1] (xX a k B0 L0 R0 T0 U0 V0) (tX k) sz) (mQi D (xX a k B0 L0 R0 T0 U0 V0) (xX a k B0 L0 R0 Tz U0 V0) sz r) 0 0 (va_A (xX a k B0 L0 R0 T0 U0 V0) sz) := by
  refine mk_met (cc := cX4_sleeper) (maxL := 4) (ret := (some .int)) (by decide) rfl (Nat.le_of_ble_eq_true rfl) ?_
  intro p e s m below meth c hx hb hr hml hts hown hmn hlocks hnw hsz hK hP hD hS hA ls hl
  obtain ⟨A, hAe⟩ : ∃ A, A = va_A (xX a k B0 L0 R0 T0 U0 V0) sz := ⟨_, rfl⟩
  rw [← hAe] at hD hS hA
  generalize hargs : List.toArray ([.ref (a 26), .int p0, .int p1] : List Value) = args at hts ⊢
  generalize hQ : MQ below (mQi D (xX a k B0 L0 R0 T0 U0 V0) (xX a k B0 L0 R0 Tz U0 V0) sz r) args s 0 0 (va_A (xX a k B0 L0 R0 T0 U0 V0) sz) = Q
  have hl : lv_has ls 4 [(0, .ref (a 26)), (1, .int p0), (2, .int p1)] := hl
  have hin1 : ∀ w ∈ wsX10, w ∈ wsX4_sleeper := fun w h => List.mem_cons_of_mem _ (List.mem_append_right _ h)
  have hin4 : ∀ w ∈ wsX40, w ∈ wsX4_sleeper := fun w h => List.mem_cons_of_mem _ (List.mem_append_left _ (List.mem_append_right _ h))
  rw [f_X4_sleeper] at h
  obtain ⟨H, hH⟩ : ∃ H, H = s.heap := ⟨_, rfl⟩
  obtain ⟨locs, hlc⟩ : ∃ L : List Loc, L = [] := ⟨_, rfl⟩
  rw [← hH] at hP
  have hS : va_S A s.heap H locs := by rw [hH, hlc]; exact hS
  suffices hW9 : W p l e rm_X4_sleeper s m args below meth c H locs 0 0 Q (F0 m 0 ls []) by rw [hH, hlc] at hW9; exact hW9
  refine lv_aload_n hx hb dX4_sleeper_0 rfl (lv_at hl 0 rfl) ?_
  refine va_get (D := D) (ci := 4) (v := .ref (a 0)) (C := RX4) (T := TX4) (N := 8) hx hb hts hin4 hown hK hP 0 rfl rfl 0 (by decide) (hts (.fieldLink RX4 10 "BallastLine" "track" "LBallastLine$Track;") (List.mem_of_getElem? (i := 1) rfl)) (fun _ h9 => h9) rfl dX4_sleeper_1 ?_
  refine lv_iload_n hx hb dX4_sleeper_4 rfl (lv_at hl 1 rfl) ?_
  obtain ⟨r1, q1, h⟩ := b1_s h
  refine go_i (run_VN (As := [.int p0]) (rest := []) ⟨hx, hb, hml, hown, hts⟩ hnw hK hP hD (fr_X_T a k B0 L0 R0 T0 U0 V0 T0) (ks_X_T k) (c_X1_has l D a k H.size T0 p0 r1 q1) ⟨va_cnB 1 hts ggX4_sleeper_X1_has rfl rfl rfl (hnw.2 (RX4, 60, yX1_has, RX4) (List.mem_of_getElem? (i := 5) rfl)) (hts (.initialized RX1) (List.mem_of_getElem? (i := 3) rfl)) (by decide +kernel) ⟨Nat.le_of_ble_eq_true rfl, Nat.le_of_ble_eq_true rfl⟩, (hts (.instanceMethod yX1_has) (List.mem_of_getElem? (i := 2) rfl)), (hts (.selects RX1 yX1_has yX1_has) (List.mem_of_getElem? (i := 4) rfl))⟩ (rcv_T a k T0) rfl hl.1 rfl (Nat.le_of_ble_eq_true rfl) dX4_sleeper_5 ⟨Nat.zero_le _, Nat.zero_le _⟩) hP hD hS hA (fr_X_T a k B0 L0 R0 T0 U0 V0 T0) (fun H locs hP hD hS => ?_)
  refine lv_if_eq (tgt := 20) hx hb dX4_sleeper_8 (by decide) (fun c2 => ?_) (fun c2 => ?_)
  · have h := it_t c2 h
    refine lv_iconst (v := (-1 : Int32)) hx hb dX4_sleeper_20 (by decide) ?_
    have h := Option.some.inj h
    obtain ⟨hz0, h⟩ := Prod.mk.inj h
    have hP : va_P D vwCl (xX a k B0 L0 R0 Tz U0 V0) H := by rw [← h]; exact hP
    have hD : va_D A (xX a k B0 L0 R0 Tz U0 V0) := by rw [← h]; exact hD
    subst hQ
    subst hAe
    exact r_i hx hb hr hlocks hz0 hP hD hS dX4_sleeper_21
  · have h := it_f c2 h
    refine lv_iload_n hx hb dX4_sleeper_11 rfl (lv_at hl 2 rfl) ?_
    refine lv_iconst (v := (0 : Int32)) hx hb dX4_sleeper_12 (by decide) ?_
    refine lv_iconst (v := (3 : Int32)) hx hb dX4_sleeper_13 (by decide) ?_
    obtain ⟨r3, q3, h⟩ := b1_s h
    refine go_i (run_S (As := [.int p1, .int (0 : Int32), .int (3 : Int32)]) (rest := []) ⟨hx, hb, hml, hown, hts⟩ hnw hK hP hD (fr_X_E a k B0 L0 R0 T0 U0 V0) (ks_X_E k) (c_X4_within l D H.size p1 (0 : Int32) (3 : Int32) r3 q3) (cwS 3 hts gX4_sleeper_X4_within rfl rfl rfl (by decide +kernel) ⟨Nat.le_of_ble_eq_true rfl, Nat.le_of_ble_eq_true rfl⟩) rfl hl.1 rfl (Nat.le_of_ble_eq_true rfl) dX4_sleeper_14 ⟨Nat.zero_le _, Nat.zero_le _⟩) hP hD hS hA (fr_X_E a k B0 L0 R0 T0 U0 V0) (fun H locs hP hD hS => ?_)
    refine lv_if_ne (tgt := 22) hx hb dX4_sleeper_17 (by decide) (fun c4 => ?_) (fun c4 => ?_)
    · have h := it_f c4 h
      refine lv_aload_n hx hb dX4_sleeper_22 rfl (lv_at hl 0 rfl) ?_
      refine va_get (D := D) (ci := 4) (v := .ref (a 0)) (C := RX4) (T := TX4) (N := 8) hx hb hts hin4 hown hK hP 0 rfl rfl 0 (by decide) (hts (.fieldLink RX4 10 "BallastLine" "track" "LBallastLine$Track;") (List.mem_of_getElem? (i := 1) rfl)) (fun _ h9 => h9) rfl dX4_sleeper_23 ?_
      refine va_getN (host := RX4) (D := D) (ci := 1) (v := .ref (a 1)) (C := RX1) (T := TX1) (N := 8) hx hb hts hin1 hown hK hP 6 rfl rfl 0 (by decide) (va_Nw.use rfl (hnw.1 (RX4, 64, "BallastLine$Track", "kinds", "[I", RX4) (List.mem_of_getElem? (i := 0) rfl))) (fun _ h9 => h9) rfl dX4_sleeper_26 ?_
      refine lv_iload_n hx hb dX4_sleeper_29 rfl (lv_at hl 1 rfl) ?_
      obtain ⟨g5, h⟩ := gd_s h
      refine va_iald hx hb hK hP 7 4 rfl rfl (inb_in g5) dX4_sleeper_30 ?_
      refine lv_topi (fun v6 ev6 => ?_)
      have h := ltt_s ev6 h
      refine lv_istore_n (lv' := [(3, .int v6), (0, .ref (a 26)), (1, .int p0), (2, .int p1)]) hx hb dX4_sleeper_31 rfl hl (by decide) rfl (fun ls hl => ?_)
      refine lv_aload_n hx hb dX4_sleeper_32 rfl (lv_at hl 1 rfl) ?_
      refine va_get (D := D) (ci := 4) (v := .ref (a 0)) (C := RX4) (T := TX4) (N := 8) hx hb hts hin4 hown hK hP 0 rfl rfl 0 (by decide) (hts (.fieldLink RX4 10 "BallastLine" "track" "LBallastLine$Track;") (List.mem_of_getElem? (i := 1) rfl)) (fun _ h9 => h9) rfl dX4_sleeper_33 ?_
      refine va_getN (host := RX4) (D := D) (ci := 1) (v := .ref (a 1)) (C := RX1) (T := TX1) (N := 8) hx hb hts hin1 hown hK hP 6 rfl rfl 0 (by decide) (va_Nw.use rfl (hnw.1 (RX4, 64, "BallastLine$Track", "kinds", "[I", RX4) (List.mem_of_getElem? (i := 0) rfl))) (fun _ h9 => h9) rfl dX4_sleeper_36 ?_
      refine lv_iload_n hx hb dX4_sleeper_39 rfl (lv_at hl 2 rfl) ?_
      refine lv_iload_n hx hb dX4_sleeper_40 rfl (lv_at hl 3 rfl) ?_
      obtain ⟨g7, h⟩ := gd_s h
      refine va_iast hx hb hK hP hD hS 7 4 rfl rfl (inb_in g7) dX4_sleeper_41 (fun H locs hP hD hS => ?_)
      obtain ⟨T_8, eT_8⟩ : ∃ y : Nat → Nat → Int32, y = st T0 0 (Int32.toNatClampNeg p0) p1 := ⟨_, rfl⟩
      have h := ltt_s eT_8 h
      have hP : va_P D vwCl (xX a k B0 L0 R0 T_8 U0 V0) H := by rw [eT_8]; exact hP
      have hD : va_D A (xX a k B0 L0 R0 T_8 U0 V0) := by rw [eT_8]; exact hD
      refine lv_aload_n hx hb dX4_sleeper_42 rfl (lv_at hl 1 rfl) ?_
      refine va_get (D := D) (ci := 4) (v := .ref (a 0)) (C := RX4) (T := TX4) (N := 8) hx hb hts hin4 hown hK hP 0 rfl rfl 0 (by decide) (hts (.fieldLink RX4 10 "BallastLine" "track" "LBallastLine$Track;") (List.mem_of_getElem? (i := 1) rfl)) (fun _ h9 => h9) rfl dX4_sleeper_43 ?_
      refine lv_iload_n hx hb dX4_sleeper_46 rfl (lv_at hl 2 rfl) ?_
      refine lv_iconst (v := (0 : Int32)) hx hb dX4_sleeper_47 (by decide) ?_
      obtain ⟨T_9, q9, h⟩ := b1_s h
      refine go_v (run_VN (As := [.int p0, .int (0 : Int32)]) (rest := []) ⟨hx, hb, hml, hown, hts⟩ hnw hK hP hD (fr_X_T a k B0 L0 R0 T_8 U0 V0 T_9) (ks_X_T k) (c_X1_setLost l D a k H.size T_8 p0 (0 : Int32) T_9 q9) ⟨va_cnB 2 hts ggX4_sleeper_X1_setLost rfl rfl rfl (hnw.2 (RX4, 67, yX1_setLost, RX4) (List.mem_of_getElem? (i := 6) rfl)) (hts (.initialized RX1) (List.mem_of_getElem? (i := 3) rfl)) (by decide +kernel) ⟨Nat.le_of_ble_eq_true rfl, Nat.le_of_ble_eq_true rfl⟩, (hts (.instanceMethod yX1_setLost) (List.mem_of_getElem? (i := 11) rfl)), (hts (.selects RX1 yX1_setLost yX1_setLost) (List.mem_of_getElem? (i := 12) rfl))⟩ (rcv_T a k T_8) rfl hl.1 rfl (Nat.le_of_ble_eq_true rfl) dX4_sleeper_48 ⟨Nat.zero_le _, Nat.zero_le _⟩) hP hD hS hA (fr_X_T a k B0 L0 R0 T_8 U0 V0 T_9) (fun H locs hP hD hS => ?_)
      refine lv_iload_n hx hb dX4_sleeper_51 rfl (lv_at hl 0 rfl) ?_
      have h := Option.some.inj h
      obtain ⟨hz0, h⟩ := Prod.mk.inj h
      have hP : va_P D vwCl (xX a k B0 L0 R0 Tz U0 V0) H := by rw [← h]; exact hP
      have hD : va_D A (xX a k B0 L0 R0 Tz U0 V0) := by rw [← h]; exact hD
      subst hQ
      subst hAe
      exact r_i hx hb hr hlocks hz0 hP hD hS dX4_sleeper_52
    · have h := it_t c4 h
      refine lv_iconst (v := (-1 : Int32)) hx hb dX4_sleeper_20 (by decide) ?_
      have h := Option.some.inj h
      obtain ⟨hz0, h⟩ := Prod.mk.inj h
      have hP : va_P D vwCl (xX a k B0 L0 R0 Tz U0 V0) H := by rw [← h]; exact hP
      have hD : va_D A (xX a k B0 L0 R0 Tz U0 V0) := by rw [← h]; exact hD
      subst hQ
      subst hAe
      exact r_i hx hb hr hlocks hz0 hP hD hS dX4_sleeper_21
def f_X4_lose_J30  (p0 : Int32) (p1 : Int32)  (s0 : Int32) (T : Nat → Nat → Int32) : Option (Int32 × (Nat → Nat → Int32)) := b1 (f_X1_setLost T p0 p1) (fun (T_1 : Nat → Nat → Int32) => some (s0, T_1))
def f_X4_lose (T0 : Nat → Nat → Int32) (p0 : Int32) (p1 : Int32) : Option (Int32 × (Nat → Nat → Int32)) := b1 (f_X1_has T0 p0) (fun r2 => if r2 = (0 : Int32) then (some ((-1 : Int32), T0)) else (gd (inb p0 40) (if (T0 5 (Int32.toNatClampNeg p0)) = (0 : Int32) then (f_X4_lose_J30 p0 p1 (0 : Int32) T0) else (f_X4_lose_J30 p0 p1 (1 : Int32) T0))))
abbrev rm_X4_lose : Room := { frames := 3, cells := 0, slots := 0, locals := 67 }
set_option maxHeartbeats 4000000 in
set_option maxRecDepth 100000 in
theorem c_X4_lose (l : Launch) (D : va_G) (a : Nat → Nat) (k : Nat → ClassId) (sz : Nat) (B0 : Nat → Nat → Int32) (L0 : Int64) (R0 : Nat → Nat → Int32) (T0 : Nat → Nat → Int32) (U0 : Nat → Nat → Int32) (V0 : Nat → Nat → Int32) (p0 : Int32) (p1 : Int32) (r : Int32) (Tz : (Nat → Nat → Int32)) (h : f_X4_lose T0 p0 p1 = some (r, Tz)) : Met l yX4_lose wsX4_lose rm_X4_lose (mPc D [.ref (a 26), .int p0, .int p1] (xX a k B0 L0 R0 T0 U0 V0) (tX k) sz) (mQi D (xX a k B0 L0 R0 T0 U0 V0) (xX a k B0 L0 R0 Tz U0 V0) sz r) 0 0 (va_A (xX a k B0 L0 R0 T0 U0 V0) sz) := by
  refine mk_met (cc := cX4_lose) (maxL := 4) (ret := (some .int)) (by decide) rfl (Nat.le_of_ble_eq_true rfl) ?_
  intro p e s m below meth c hx hb hr hml hts hown hmn hlocks hnw hsz hK hP hD hS hA ls hl
  obtain ⟨A, hAe⟩ : ∃ A, A = va_A (xX a k B0 L0 R0 T0 U0 V0) sz := ⟨_, rfl⟩
  rw [← hAe] at hD hS hA
  generalize hargs : List.toArray ([.ref (a 26), .int p0, .int p1] : List Value) = args at hts ⊢
  generalize hQ : MQ below (mQi D (xX a k B0 L0 R0 T0 U0 V0) (xX a k B0 L0 R0 Tz U0 V0) sz r) args s 0 0 (va_A (xX a k B0 L0 R0 T0 U0 V0) sz) = Q
  have hl : lv_has ls 4 [(0, .ref (a 26)), (1, .int p0), (2, .int p1)] := hl
  have hin1 : ∀ w ∈ wsX10, w ∈ wsX4_lose := fun w h => List.mem_cons_of_mem _ (List.mem_append_right _ h)
  have hin4 : ∀ w ∈ wsX40, w ∈ wsX4_lose := fun w h => List.mem_cons_of_mem _ (List.mem_append_left _ (List.mem_append_right _ h))
  have lb30 : ∀ (s0 : Int32) (T : Nat → Nat → Int32), ∀ (H : Heap) (locs : List Loc), va_P D vwCl (xX a k B0 L0 R0 T U0 V0) H → va_D A (xX a k B0 L0 R0 T U0 V0) → va_S A s.heap H locs → ∀ ls : Array Slot, lv_has ls 4 [(0, .ref (a 26)), (1, .int p0), (2, .int p1)] → f_X4_lose_J30 p0 p1 s0 T = some (r, Tz) → W p l e rm_X4_lose s m args below meth c H locs 0 0 Q (F0 m 30 ls [.int s0]) := by
    intro  s0 T H locs hP hD hS ls hl h
    rw [f_X4_lose_J30] at h
    refine lv_istore_n (lv' := [(3, .int s0), (0, .ref (a 26)), (1, .int p0), (2, .int p1)]) hx hb dX4_lose_30 rfl hl (by decide) rfl (fun ls hl => ?_)
    refine lv_aload_n hx hb dX4_lose_31 rfl (lv_at hl 1 rfl) ?_
    refine va_get (D := D) (ci := 4) (v := .ref (a 0)) (C := RX4) (T := TX4) (N := 8) hx hb hts hin4 hown hK hP 0 rfl rfl 0 (by decide) (hts (.fieldLink RX4 10 "BallastLine" "track" "LBallastLine$Track;") (List.mem_of_getElem? (i := 1) rfl)) (fun _ h9 => h9) rfl dX4_lose_32 ?_
    refine lv_iload_n hx hb dX4_lose_35 rfl (lv_at hl 2 rfl) ?_
    refine lv_iload_n hx hb dX4_lose_36 rfl (lv_at hl 3 rfl) ?_
    obtain ⟨T_1, q1, h⟩ := b1_s h
    refine go_v (run_VN (As := [.int p0, .int p1]) (rest := []) ⟨hx, hb, hml, hown, hts⟩ hnw hK hP hD (fr_X_T a k B0 L0 R0 T U0 V0 T_1) (ks_X_T k) (c_X1_setLost l D a k H.size T p0 p1 T_1 q1) ⟨va_cnB 2 hts ggX4_lose_X1_setLost rfl rfl rfl (hnw.2 (RX4, 67, yX1_setLost, RX4) (List.mem_of_getElem? (i := 6) rfl)) (hts (.initialized RX1) (List.mem_of_getElem? (i := 3) rfl)) (by decide +kernel) ⟨Nat.le_of_ble_eq_true rfl, Nat.le_of_ble_eq_true rfl⟩, (hts (.instanceMethod yX1_setLost) (List.mem_of_getElem? (i := 7) rfl)), (hts (.selects RX1 yX1_setLost yX1_setLost) (List.mem_of_getElem? (i := 8) rfl))⟩ (rcv_T a k T) rfl hl.1 rfl (Nat.le_of_ble_eq_true rfl) dX4_lose_37 ⟨Nat.zero_le _, Nat.zero_le _⟩) hP hD hS hA (fr_X_T a k B0 L0 R0 T U0 V0 T_1) (fun H locs hP hD hS => ?_)
    refine lv_iload_n hx hb dX4_lose_40 rfl (lv_at hl 0 rfl) ?_
    have h := Option.some.inj h
    obtain ⟨hz0, h⟩ := Prod.mk.inj h
    have hP : va_P D vwCl (xX a k B0 L0 R0 Tz U0 V0) H := by rw [← h]; exact hP
    have hD : va_D A (xX a k B0 L0 R0 Tz U0 V0) := by rw [← h]; exact hD
    subst hQ
    subst hAe
    exact r_i hx hb hr hlocks hz0 hP hD hS dX4_lose_41
  rw [f_X4_lose] at h
  obtain ⟨H, hH⟩ : ∃ H, H = s.heap := ⟨_, rfl⟩
  obtain ⟨locs, hlc⟩ : ∃ L : List Loc, L = [] := ⟨_, rfl⟩
  rw [← hH] at hP
  have hS : va_S A s.heap H locs := by rw [hH, hlc]; exact hS
  suffices hW9 : W p l e rm_X4_lose s m args below meth c H locs 0 0 Q (F0 m 0 ls []) by rw [hH, hlc] at hW9; exact hW9
  refine lv_aload_n hx hb dX4_lose_0 rfl (lv_at hl 0 rfl) ?_
  refine va_get (D := D) (ci := 4) (v := .ref (a 0)) (C := RX4) (T := TX4) (N := 8) hx hb hts hin4 hown hK hP 0 rfl rfl 0 (by decide) (hts (.fieldLink RX4 10 "BallastLine" "track" "LBallastLine$Track;") (List.mem_of_getElem? (i := 1) rfl)) (fun _ h9 => h9) rfl dX4_lose_1 ?_
  refine lv_iload_n hx hb dX4_lose_4 rfl (lv_at hl 1 rfl) ?_
  obtain ⟨r2, q2, h⟩ := b1_s h
  refine go_i (run_VN (As := [.int p0]) (rest := []) ⟨hx, hb, hml, hown, hts⟩ hnw hK hP hD (fr_X_T a k B0 L0 R0 T0 U0 V0 T0) (ks_X_T k) (c_X1_has l D a k H.size T0 p0 r2 q2) ⟨va_cnB 1 hts ggX4_lose_X1_has rfl rfl rfl (hnw.2 (RX4, 60, yX1_has, RX4) (List.mem_of_getElem? (i := 5) rfl)) (hts (.initialized RX1) (List.mem_of_getElem? (i := 3) rfl)) (by decide +kernel) ⟨Nat.le_of_ble_eq_true rfl, Nat.le_of_ble_eq_true rfl⟩, (hts (.instanceMethod yX1_has) (List.mem_of_getElem? (i := 2) rfl)), (hts (.selects RX1 yX1_has yX1_has) (List.mem_of_getElem? (i := 4) rfl))⟩ (rcv_T a k T0) rfl hl.1 rfl (Nat.le_of_ble_eq_true rfl) dX4_lose_5 ⟨Nat.zero_le _, Nat.zero_le _⟩) hP hD hS hA (fr_X_T a k B0 L0 R0 T0 U0 V0 T0) (fun H locs hP hD hS => ?_)
  refine lv_if_ne (tgt := 13) hx hb dX4_lose_8 (by decide) (fun c3 => ?_) (fun c3 => ?_)
  · have h := it_f c3 h
    refine lv_aload_n hx hb dX4_lose_13 rfl (lv_at hl 0 rfl) ?_
    refine va_get (D := D) (ci := 4) (v := .ref (a 0)) (C := RX4) (T := TX4) (N := 8) hx hb hts hin4 hown hK hP 0 rfl rfl 0 (by decide) (hts (.fieldLink RX4 10 "BallastLine" "track" "LBallastLine$Track;") (List.mem_of_getElem? (i := 1) rfl)) (fun _ h9 => h9) rfl dX4_lose_14 ?_
    refine va_getN (host := RX4) (D := D) (ci := 1) (v := .ref (a 6)) (C := RX1) (T := TX1) (N := 8) hx hb hts hin1 hown hK hP 6 rfl rfl 5 (by decide) (va_Nw.use rfl (hnw.1 (RX4, 71, "BallastLine$Track", "lost", "[Z", RX4) (List.mem_of_getElem? (i := 7) rfl))) (fun _ h9 => h9) rfl dX4_lose_17 ?_
    refine lv_iload_n hx hb dX4_lose_20 rfl (lv_at hl 1 rfl) ?_
    obtain ⟨g4, h⟩ := gd_s h
    refine va_zald hx hb hK hP 12 9 rfl rfl (inb_in g4) dX4_lose_21 ?_
    refine lv_if_eq (tgt := 29) hx hb dX4_lose_22 (by decide) (fun c5 => ?_) (fun c5 => ?_)
    · have h := it_t c5 h
      refine lv_iconst (v := (0 : Int32)) hx hb dX4_lose_29 (by decide) ?_
      exact lb30  (0 : Int32) T0 H locs hP hD hS ls (lv_sub hl [0, 1, 2] rfl) h
    · have h := it_f c5 h
      refine lv_iconst (v := (1 : Int32)) hx hb dX4_lose_25 (by decide) ?_
      refine lv_goto (tgt := 30) hx hb dX4_lose_26 (by decide) ?_
      exact lb30  (1 : Int32) T0 H locs hP hD hS ls (lv_sub hl [0, 1, 2] rfl) h
  · have h := it_t c3 h
    refine lv_iconst (v := (-1 : Int32)) hx hb dX4_lose_11 (by decide) ?_
    have h := Option.some.inj h
    obtain ⟨hz0, h⟩ := Prod.mk.inj h
    have hP : va_P D vwCl (xX a k B0 L0 R0 Tz U0 V0) H := by rw [← h]; exact hP
    have hD : va_D A (xX a k B0 L0 R0 Tz U0 V0) := by rw [← h]; exact hD
    subst hQ
    subst hAe
    exact r_i hx hb hr hlocks hz0 hP hD hS dX4_lose_12
def f_X4_found (B0 : Nat → Nat → Int32) (p0 : Int32) : Option (Int32 × (Nat → Nat → Int32)) := ltt (st B0 6 0 p0) (fun (B_1 : Nat → Nat → Int32) => gd (inb p0 6) (gd (inb p0 6) (ltt (st B_1 5 (Int32.toNatClampNeg p0) ((B_1 5 (Int32.toNatClampNeg p0)) + (1 : Int32))) (fun (B_4 : Nat → Nat → Int32) => some ((-3 : Int32), B_4)))))
abbrev rm_X4_found : Room := { frames := 0, cells := 0, slots := 0, locals := 0 }
set_option maxHeartbeats 4000000 in
set_option maxRecDepth 100000 in
theorem c_X4_found (l : Launch) (D : va_G) (a : Nat → Nat) (k : Nat → ClassId) (sz : Nat) (B0 : Nat → Nat → Int32) (L0 : Int64) (R0 : Nat → Nat → Int32) (T0 : Nat → Nat → Int32) (U0 : Nat → Nat → Int32) (V0 : Nat → Nat → Int32) (p0 : Int32) (r : Int32) (Bz : (Nat → Nat → Int32)) (h : f_X4_found B0 p0 = some (r, Bz)) : Met l yX4_found wsX4_found rm_X4_found (mPc D [.ref (a 26), .int p0] (xX a k B0 L0 R0 T0 U0 V0) (tX k) sz) (mQi D (xX a k B0 L0 R0 T0 U0 V0) (xX a k Bz L0 R0 T0 U0 V0) sz r) 0 0 (va_A (xX a k B0 L0 R0 T0 U0 V0) sz) := by
  refine mk_met (cc := cX4_found) (maxL := 2) (ret := (some .int)) (by decide) rfl (Nat.le_of_ble_eq_true rfl) ?_
  intro p e s m below meth c hx hb hr hml hts hown hmn hlocks hnw hsz hK hP hD hS hA ls hl
  obtain ⟨A, hAe⟩ : ∃ A, A = va_A (xX a k B0 L0 R0 T0 U0 V0) sz := ⟨_, rfl⟩
  rw [← hAe] at hD hS hA
  generalize hargs : List.toArray ([.ref (a 26), .int p0] : List Value) = args at hts ⊢
  generalize hQ : MQ below (mQi D (xX a k B0 L0 R0 T0 U0 V0) (xX a k Bz L0 R0 T0 U0 V0) sz r) args s 0 0 (va_A (xX a k B0 L0 R0 T0 U0 V0) sz) = Q
  have hl : lv_has ls 2 [(0, .ref (a 26)), (1, .int p0)] := hl
  have hin4 : ∀ w ∈ wsX40, w ∈ wsX4_found := fun w h => List.mem_cons_of_mem _ (List.mem_append_right _ h)
  rw [f_X4_found] at h
  obtain ⟨H, hH⟩ : ∃ H, H = s.heap := ⟨_, rfl⟩
  obtain ⟨locs, hlc⟩ : ∃ L : List Loc, L = [] := ⟨_, rfl⟩
  rw [← hH] at hP
  have hS : va_S A s.heap H locs := by rw [hH, hlc]; exact hS
  suffices hW9 : W p l e rm_X4_found s m args below meth c H locs 0 0 Q (F0 m 0 ls []) by rw [hH, hlc] at hW9; exact hW9
  refine lv_aload_n hx hb dX4_found_0 rfl (lv_at hl 0 rfl) ?_
  refine lv_iload_n hx hb dX4_found_1 rfl (lv_at hl 1 rfl) ?_
  refine va_put (D := D) (ci := 4) (v := .int p0) (ty := .int) (C := RX4) (T := TX4) (N := 8) hx hb hts hin4 tyX4 tyX4_ok nmX4 hown hK hP hD hS 0 rfl rfl 6 (by decide) (hts (.fieldLink RX4 44 "BallastLine" "latestFinding" "I") (List.mem_of_getElem? (i := 1) rfl)) (fun _ h9 => h9) rfl (by decide +kernel) rfl rfl (Nat.le_of_ble_eq_true rfl) dX4_found_2 (fun H locs hP hD hS => ?_)
  obtain ⟨B_1, eB_1⟩ : ∃ y : Nat → Nat → Int32, y = st B0 6 0 p0 := ⟨_, rfl⟩
  have h := ltt_s eB_1 h
  have hP : va_P D vwCl (xX a k B_1 L0 R0 T0 U0 V0) H := by rw [eB_1]; exact hP
  have hD : va_D A (xX a k B_1 L0 R0 T0 U0 V0) := by rw [eB_1]; exact hD
  refine lv_aload_n hx hb dX4_found_5 rfl (lv_at hl 0 rfl) ?_
  refine va_get (D := D) (ci := 4) (v := .ref (a 28)) (C := RX4) (T := TX4) (N := 8) hx hb hts hin4 hown hK hP 0 rfl rfl 5 (by decide) (hts (.fieldLink RX4 41 "BallastLine" "findingCounts" "[I") (List.mem_of_getElem? (i := 2) rfl)) (fun _ h9 => h9) rfl dX4_found_6 ?_
  refine lv_iload_n hx hb dX4_found_9 rfl (lv_at hl 1 rfl) ?_
  refine lv_dup2_11 hx hb dX4_found_10 rfl rfl ?_
  obtain ⟨g2, h⟩ := gd_s h
  refine va_iald hx hb hK hP 2 1 rfl rfl (inb_in g2) dX4_found_11 ?_
  refine lv_iconst (v := (1 : Int32)) hx hb dX4_found_12 (by decide) ?_
  refine lv_iadd hx hb dX4_found_13 ?_
  obtain ⟨g3, h⟩ := gd_s h
  refine va_iast hx hb hK hP hD hS 2 1 rfl rfl (inb_in g3) dX4_found_14 (fun H locs hP hD hS => ?_)
  obtain ⟨B_4, eB_4⟩ : ∃ y : Nat → Nat → Int32, y = st B_1 5 (Int32.toNatClampNeg p0) ((B_1 5 (Int32.toNatClampNeg p0)) + (1 : Int32)) := ⟨_, rfl⟩
  have h := ltt_s eB_4 h
  have hP : va_P D vwCl (xX a k B_4 L0 R0 T0 U0 V0) H := by rw [eB_4]; exact hP
  have hD : va_D A (xX a k B_4 L0 R0 T0 U0 V0) := by rw [eB_4]; exact hD
  refine lv_bipush (v := (-3 : Int32)) hx hb dX4_found_15 (by decide) ?_
  have h := Option.some.inj h
  obtain ⟨hz0, h⟩ := Prod.mk.inj h
  have hP : va_P D vwCl (xX a k Bz L0 R0 T0 U0 V0) H := by rw [← h]; exact hP
  have hD : va_D A (xX a k Bz L0 R0 T0 U0 V0) := by rw [← h]; exact hD
  subst hQ
  subst hAe
  exact r_i hx hb hr hlocks hz0 hP hD hS dX4_found_17
def f_X4_tell (L0 : Int64) (p0 : Int64) : Option (Int32 × Int64) := some ((1 : Int32), p0)
abbrev rm_X4_tell : Room := { frames := 0, cells := 0, slots := 0, locals := 0 }
set_option maxHeartbeats 4000000 in
set_option maxRecDepth 100000 in
theorem c_X4_tell (l : Launch) (D : va_G) (a : Nat → Nat) (k : Nat → ClassId) (sz : Nat) (B0 : Nat → Nat → Int32) (L0 : Int64) (R0 : Nat → Nat → Int32) (T0 : Nat → Nat → Int32) (U0 : Nat → Nat → Int32) (V0 : Nat → Nat → Int32) (p0 : Int64) (r : Int32) (Lz : Int64) (h : f_X4_tell L0 p0 = some (r, Lz)) : Met l yX4_tell wsX4_tell rm_X4_tell (mPc D [.ref (a 26), .long p0] (xX a k B0 L0 R0 T0 U0 V0) (tX k) sz) (mQi D (xX a k B0 L0 R0 T0 U0 V0) (xX a k B0 Lz R0 T0 U0 V0) sz r) 0 0 (va_A (xX a k B0 L0 R0 T0 U0 V0) sz) := by
  refine mk_met (cc := cX4_tell) (maxL := 3) (ret := (some .int)) (by decide) rfl (Nat.le_of_ble_eq_true rfl) ?_
  intro p e s m below meth c hx hb hr hml hts hown hmn hlocks hnw hsz hK hP hD hS hA ls hl
  obtain ⟨A, hAe⟩ : ∃ A, A = va_A (xX a k B0 L0 R0 T0 U0 V0) sz := ⟨_, rfl⟩
  rw [← hAe] at hD hS hA
  generalize hargs : List.toArray ([.ref (a 26), .long p0] : List Value) = args at hts ⊢
  generalize hQ : MQ below (mQi D (xX a k B0 L0 R0 T0 U0 V0) (xX a k B0 Lz R0 T0 U0 V0) sz r) args s 0 0 (va_A (xX a k B0 L0 R0 T0 U0 V0) sz) = Q
  have hl : lv_has ls 3 [(0, .ref (a 26)), (1, .long p0)] := hl
  have hin4 : ∀ w ∈ wsX40, w ∈ wsX4_tell := fun w h => List.mem_cons_of_mem _ (List.mem_append_right _ h)
  rw [f_X4_tell] at h
  obtain ⟨H, hH⟩ : ∃ H, H = s.heap := ⟨_, rfl⟩
  obtain ⟨locs, hlc⟩ : ∃ L : List Loc, L = [] := ⟨_, rfl⟩
  rw [← hH] at hP
  have hS : va_S A s.heap H locs := by rw [hH, hlc]; exact hS
  suffices hW9 : W p l e rm_X4_tell s m args below meth c H locs 0 0 Q (F0 m 0 ls []) by rw [hH, hlc] at hW9; exact hW9
  refine lv_aload_n hx hb dX4_tell_0 rfl (lv_at hl 0 rfl) ?_
  refine lv_lload_n hx hb dX4_tell_1 rfl (lv_at hl 1 rfl) ?_
  refine va_put (D := D) (ci := 4) (v := .long p0) (ty := .long) (C := RX4) (T := TX4) (N := 8) hx hb hts hin4 tyX4 tyX4_ok nmX4 hown hK hP hD hS 0 rfl rfl 7 (by decide) (hts (.fieldLink RX4 48 "BallastLine" "latestTold" "J") (List.mem_of_getElem? (i := 1) rfl)) (fun _ h9 => h9) rfl (by decide +kernel) rfl rfl (Nat.le_of_ble_eq_true rfl) dX4_tell_2 (fun H locs hP hD hS => ?_)
  have hP : va_P D vwCl (xX a k B0 p0 R0 T0 U0 V0) H := hP
  have hD : va_D A (xX a k B0 p0 R0 T0 U0 V0) := hD
  refine lv_iconst (v := (1 : Int32)) hx hb dX4_tell_5 (by decide) ?_
  have h := Option.some.inj h
  obtain ⟨hz0, h⟩ := Prod.mk.inj h
  have hP : va_P D vwCl (xX a k B0 Lz R0 T0 U0 V0) H := by rw [← h]; exact hP
  have hD : va_D A (xX a k B0 Lz R0 T0 U0 V0) := by rw [← h]; exact hD
  subst hQ
  subst hAe
  exact r_i hx hb hr hlocks hz0 hP hD hS dX4_tell_6
def f_X4_bed (B0 : Nat → Nat → Int32) (L0 : Int64) (T0 : Nat → Nat → Int32) (p0 : Int32) (p1 : Int32) : Option (Int32 × (Nat → Nat → Int32) × Int64 × (Nat → Nat → Int32)) := b1 (f_X1_has T0 p0) (fun r1 => if r1 = (0 : Int32) then (some ((-1 : Int32), B0, L0, T0)) else (b1 (f_X4_within p1 (-10000 : Int32) (10000 : Int32)) (fun r3 => if r3 = (0 : Int32) then (some ((-1 : Int32), B0, L0, T0)) else (gd (inb p0 40) (if (T0 5 (Int32.toNatClampNeg p0)) = (0 : Int32) then (gd (inb p0 40) (ltt ((T0 1 (Int32.toNatClampNeg p0))) (fun v8 => b1 (f_X1_setBed T0 p0 p1) (fun (T_9 : Nat → Nat → Int32) => b2 (f_X4_tell L0 (Int32.toInt64 v8)) (fun r10 (L_10 : Int64) => some (r10, B0, L_10, T_9)))))) else (b2 (f_X4_found B0 (1 : Int32)) (fun r11 (B_11 : Nat → Nat → Int32) => some (r11, B_11, L0, T0))))))))
abbrev rm_X4_bed : Room := { frames := 3, cells := 0, slots := 0, locals := 67 }
set_option maxHeartbeats 4000000 in
set_option maxRecDepth 100000 in
theorem c_X4_bed (l : Launch) (D : va_G) (a : Nat → Nat) (k : Nat → ClassId) (sz : Nat) (B0 : Nat → Nat → Int32) (L0 : Int64) (R0 : Nat → Nat → Int32) (T0 : Nat → Nat → Int32) (U0 : Nat → Nat → Int32) (V0 : Nat → Nat → Int32) (p0 : Int32) (p1 : Int32) (r : Int32) (Bz : (Nat → Nat → Int32)) (Lz : Int64) (Tz : (Nat → Nat → Int32)) (h : f_X4_bed B0 L0 T0 p0 p1 = some (r, Bz, Lz, Tz)) : Met l yX4_bed wsX4_bed rm_X4_bed (mPc D [.ref (a 26), .int p0, .int p1] (xX a k B0 L0 R0 T0 U0 V0) (tX k) sz) (mQi D (xX a k B0 L0 R0 T0 U0 V0) (xX a k Bz Lz R0 Tz U0 V0) sz r) 0 0 (va_A (xX a k B0 L0 R0 T0 U0 V0) sz) := by
  refine mk_met (cc := cX4_bed) (maxL := 4) (ret := (some .int)) (by decide) rfl (Nat.le_of_ble_eq_true rfl) ?_
  intro p e s m below meth c hx hb hr hml hts hown hmn hlocks hnw hsz hK hP hD hS hA ls hl
  obtain ⟨A, hAe⟩ : ∃ A, A = va_A (xX a k B0 L0 R0 T0 U0 V0) sz := ⟨_, rfl⟩
  rw [← hAe] at hD hS hA
  generalize hargs : List.toArray ([.ref (a 26), .int p0, .int p1] : List Value) = args at hts ⊢
  generalize hQ : MQ below (mQi D (xX a k B0 L0 R0 T0 U0 V0) (xX a k Bz Lz R0 Tz U0 V0) sz r) args s 0 0 (va_A (xX a k B0 L0 R0 T0 U0 V0) sz) = Q
  have hl : lv_has ls 4 [(0, .ref (a 26)), (1, .int p0), (2, .int p1)] := hl
  have hin1 : ∀ w ∈ wsX10, w ∈ wsX4_bed := fun w h => List.mem_cons_of_mem _ (List.mem_append_right _ h)
  have hin4 : ∀ w ∈ wsX40, w ∈ wsX4_bed := fun w h => List.mem_cons_of_mem _ (List.mem_append_left _ (List.mem_append_right _ h))
  rw [f_X4_bed] at h
  obtain ⟨H, hH⟩ : ∃ H, H = s.heap := ⟨_, rfl⟩
  obtain ⟨locs, hlc⟩ : ∃ L : List Loc, L = [] := ⟨_, rfl⟩
  rw [← hH] at hP
  have hS : va_S A s.heap H locs := by rw [hH, hlc]; exact hS
  suffices hW9 : W p l e rm_X4_bed s m args below meth c H locs 0 0 Q (F0 m 0 ls []) by rw [hH, hlc] at hW9; exact hW9
  refine lv_aload_n hx hb dX4_bed_0 rfl (lv_at hl 0 rfl) ?_
  refine va_get (D := D) (ci := 4) (v := .ref (a 0)) (C := RX4) (T := TX4) (N := 8) hx hb hts hin4 hown hK hP 0 rfl rfl 0 (by decide) (hts (.fieldLink RX4 10 "BallastLine" "track" "LBallastLine$Track;") (List.mem_of_getElem? (i := 1) rfl)) (fun _ h9 => h9) rfl dX4_bed_1 ?_
  refine lv_iload_n hx hb dX4_bed_4 rfl (lv_at hl 1 rfl) ?_
  obtain ⟨r1, q1, h⟩ := b1_s h
  refine go_i (run_VN (As := [.int p0]) (rest := []) ⟨hx, hb, hml, hown, hts⟩ hnw hK hP hD (fr_X_T a k B0 L0 R0 T0 U0 V0 T0) (ks_X_T k) (c_X1_has l D a k H.size T0 p0 r1 q1) ⟨va_cnB 1 hts ggX4_bed_X1_has rfl rfl rfl (hnw.2 (RX4, 60, yX1_has, RX4) (List.mem_of_getElem? (i := 5) rfl)) (hts (.initialized RX1) (List.mem_of_getElem? (i := 3) rfl)) (by decide +kernel) ⟨Nat.le_of_ble_eq_true rfl, Nat.le_of_ble_eq_true rfl⟩, (hts (.instanceMethod yX1_has) (List.mem_of_getElem? (i := 2) rfl)), (hts (.selects RX1 yX1_has yX1_has) (List.mem_of_getElem? (i := 4) rfl))⟩ (rcv_T a k T0) rfl hl.1 rfl (Nat.le_of_ble_eq_true rfl) dX4_bed_5 ⟨Nat.zero_le _, Nat.zero_le _⟩) hP hD hS hA (fr_X_T a k B0 L0 R0 T0 U0 V0 T0) (fun H locs hP hD hS => ?_)
  refine lv_if_eq (tgt := 24) hx hb dX4_bed_8 (by decide) (fun c2 => ?_) (fun c2 => ?_)
  · have h := it_t c2 h
    refine lv_iconst (v := (-1 : Int32)) hx hb dX4_bed_24 (by decide) ?_
    have h := Option.some.inj h
    obtain ⟨hz0, h⟩ := Prod.mk.inj h
    obtain ⟨hz1, h⟩ := Prod.mk.inj h
    obtain ⟨hz2, h⟩ := Prod.mk.inj h
    have hP : va_P D vwCl (xX a k Bz Lz R0 Tz U0 V0) H := by rw [← hz1, ← hz2, ← h]; exact hP
    have hD : va_D A (xX a k Bz Lz R0 Tz U0 V0) := by rw [← hz1, ← hz2, ← h]; exact hD
    subst hQ
    subst hAe
    exact r_i hx hb hr hlocks hz0 hP hD hS dX4_bed_25
  · have h := it_f c2 h
    refine lv_iload_n hx hb dX4_bed_11 rfl (lv_at hl 2 rfl) ?_
    refine lv_sipush (v := (-10000 : Int32)) hx hb dX4_bed_12 (by decide) ?_
    refine lv_sipush (v := (10000 : Int32)) hx hb dX4_bed_15 (by decide) ?_
    obtain ⟨r3, q3, h⟩ := b1_s h
    refine go_i (run_S (As := [.int p1, .int (-10000 : Int32), .int (10000 : Int32)]) (rest := []) ⟨hx, hb, hml, hown, hts⟩ hnw hK hP hD (fr_X_E a k B0 L0 R0 T0 U0 V0) (ks_X_E k) (c_X4_within l D H.size p1 (-10000 : Int32) (10000 : Int32) r3 q3) (cwS 3 hts gX4_bed_X4_within rfl rfl rfl (by decide +kernel) ⟨Nat.le_of_ble_eq_true rfl, Nat.le_of_ble_eq_true rfl⟩) rfl hl.1 rfl (Nat.le_of_ble_eq_true rfl) dX4_bed_18 ⟨Nat.zero_le _, Nat.zero_le _⟩) hP hD hS hA (fr_X_E a k B0 L0 R0 T0 U0 V0) (fun H locs hP hD hS => ?_)
    refine lv_if_ne (tgt := 26) hx hb dX4_bed_21 (by decide) (fun c4 => ?_) (fun c4 => ?_)
    · have h := it_f c4 h
      refine lv_aload_n hx hb dX4_bed_26 rfl (lv_at hl 0 rfl) ?_
      refine va_get (D := D) (ci := 4) (v := .ref (a 0)) (C := RX4) (T := TX4) (N := 8) hx hb hts hin4 hown hK hP 0 rfl rfl 0 (by decide) (hts (.fieldLink RX4 10 "BallastLine" "track" "LBallastLine$Track;") (List.mem_of_getElem? (i := 1) rfl)) (fun _ h9 => h9) rfl dX4_bed_27 ?_
      refine va_getN (host := RX4) (D := D) (ci := 1) (v := .ref (a 6)) (C := RX1) (T := TX1) (N := 8) hx hb hts hin1 hown hK hP 6 rfl rfl 5 (by decide) (va_Nw.use rfl (hnw.1 (RX4, 71, "BallastLine$Track", "lost", "[Z", RX4) (List.mem_of_getElem? (i := 7) rfl))) (fun _ h9 => h9) rfl dX4_bed_30 ?_
      refine lv_iload_n hx hb dX4_bed_33 rfl (lv_at hl 1 rfl) ?_
      obtain ⟨g5, h⟩ := gd_s h
      refine va_zald hx hb hK hP 12 9 rfl rfl (inb_in g5) dX4_bed_34 ?_
      refine lv_if_eq (tgt := 44) hx hb dX4_bed_35 (by decide) (fun c6 => ?_) (fun c6 => ?_)
      · have h := it_t c6 h
        refine lv_aload_n hx hb dX4_bed_44 rfl (lv_at hl 0 rfl) ?_
        refine va_get (D := D) (ci := 4) (v := .ref (a 0)) (C := RX4) (T := TX4) (N := 8) hx hb hts hin4 hown hK hP 0 rfl rfl 0 (by decide) (hts (.fieldLink RX4 10 "BallastLine" "track" "LBallastLine$Track;") (List.mem_of_getElem? (i := 1) rfl)) (fun _ h9 => h9) rfl dX4_bed_45 ?_
        refine va_getN (host := RX4) (D := D) (ci := 1) (v := .ref (a 2)) (C := RX1) (T := TX1) (N := 8) hx hb hts hin1 hown hK hP 6 rfl rfl 1 (by decide) (va_Nw.use rfl (hnw.1 (RX4, 79, "BallastLine$Track", "beds", "[I", RX4) (List.mem_of_getElem? (i := 1) rfl))) (fun _ h9 => h9) rfl dX4_bed_48 ?_
        refine lv_iload_n hx hb dX4_bed_51 rfl (lv_at hl 1 rfl) ?_
        obtain ⟨g7, h⟩ := gd_s h
        refine va_iald hx hb hK hP 8 5 rfl rfl (inb_in g7) dX4_bed_52 ?_
        refine lv_topi (fun v8 ev8 => ?_)
        have h := ltt_s ev8 h
        refine lv_istore_n (lv' := [(3, .int v8), (0, .ref (a 26)), (1, .int p0), (2, .int p1)]) hx hb dX4_bed_53 rfl hl (by decide) rfl (fun ls hl => ?_)
        refine lv_aload_n hx hb dX4_bed_54 rfl (lv_at hl 1 rfl) ?_
        refine va_get (D := D) (ci := 4) (v := .ref (a 0)) (C := RX4) (T := TX4) (N := 8) hx hb hts hin4 hown hK hP 0 rfl rfl 0 (by decide) (hts (.fieldLink RX4 10 "BallastLine" "track" "LBallastLine$Track;") (List.mem_of_getElem? (i := 1) rfl)) (fun _ h9 => h9) rfl dX4_bed_55 ?_
        refine lv_iload_n hx hb dX4_bed_58 rfl (lv_at hl 2 rfl) ?_
        refine lv_iload_n hx hb dX4_bed_59 rfl (lv_at hl 3 rfl) ?_
        obtain ⟨T_9, q9, h⟩ := b1_s h
        refine go_v (run_VN (As := [.int p0, .int p1]) (rest := []) ⟨hx, hb, hml, hown, hts⟩ hnw hK hP hD (fr_X_T a k B0 L0 R0 T0 U0 V0 T_9) (ks_X_T k) (c_X1_setBed l D a k H.size T0 p0 p1 T_9 q9) ⟨va_cnB 2 hts ggX4_bed_X1_setBed rfl rfl rfl (hnw.2 (RX4, 82, yX1_setBed, RX4) (List.mem_of_getElem? (i := 7) rfl)) (hts (.initialized RX1) (List.mem_of_getElem? (i := 3) rfl)) (by decide +kernel) ⟨Nat.le_of_ble_eq_true rfl, Nat.le_of_ble_eq_true rfl⟩, (hts (.instanceMethod yX1_setBed) (List.mem_of_getElem? (i := 17) rfl)), (hts (.selects RX1 yX1_setBed yX1_setBed) (List.mem_of_getElem? (i := 18) rfl))⟩ (rcv_T a k T0) rfl hl.1 rfl (Nat.le_of_ble_eq_true rfl) dX4_bed_60 ⟨Nat.zero_le _, Nat.zero_le _⟩) hP hD hS hA (fr_X_T a k B0 L0 R0 T0 U0 V0 T_9) (fun H locs hP hD hS => ?_)
        refine lv_aload_n hx hb dX4_bed_63 rfl (lv_at hl 1 rfl) ?_
        refine lv_iload_n hx hb dX4_bed_64 rfl (lv_at hl 0 rfl) ?_
        refine lv_i2l (v := (Int32.toInt64 v8)) hx hb dX4_bed_65 rfl ?_
        obtain ⟨r10, L_10, q10, h⟩ := b2_s h
        refine go_i (run_V (As := [.long (Int32.toInt64 v8)]) (rest := []) ⟨hx, hb, hml, hown, hts⟩ hnw hK hP hD (fr_X_X a k B0 L0 R0 T_9 U0 V0 B0 L_10 R0 T_9 U0 V0) (ks_X_X k) (c_X4_tell l D a k H.size B0 L0 R0 T_9 U0 V0 (Int32.toInt64 v8) r10 L_10 q10) (cwV 1 hts gX4_bed_X4_tell rfl rfl rfl (by decide +kernel) ⟨Nat.le_of_ble_eq_true rfl, Nat.le_of_ble_eq_true rfl⟩) (rcv_X a k B0 L0 R0 T_9 U0 V0) rfl hl.1 rfl (Nat.le_of_ble_eq_true rfl) dX4_bed_66 ⟨Nat.zero_le _, Nat.zero_le _⟩) hP hD hS hA (fr_X_X a k B0 L0 R0 T_9 U0 V0 B0 L_10 R0 T_9 U0 V0) (fun H locs hP hD hS => ?_)
        have h := Option.some.inj h
        obtain ⟨hz0, h⟩ := Prod.mk.inj h
        obtain ⟨hz1, h⟩ := Prod.mk.inj h
        obtain ⟨hz2, h⟩ := Prod.mk.inj h
        have hP : va_P D vwCl (xX a k Bz Lz R0 Tz U0 V0) H := by rw [← hz1, ← hz2, ← h]; exact hP
        have hD : va_D A (xX a k Bz Lz R0 Tz U0 V0) := by rw [← hz1, ← hz2, ← h]; exact hD
        subst hQ
        subst hAe
        exact r_i hx hb hr hlocks hz0 hP hD hS dX4_bed_69
      · have h := it_f c6 h
        refine lv_aload_n hx hb dX4_bed_38 rfl (lv_at hl 0 rfl) ?_
        refine lv_iconst (v := (1 : Int32)) hx hb dX4_bed_39 (by decide) ?_
        obtain ⟨r11, B_11, q11, h⟩ := b2_s h
        refine go_i (run_V (As := [.int (1 : Int32)]) (rest := []) ⟨hx, hb, hml, hown, hts⟩ hnw hK hP hD (fr_X_X a k B0 L0 R0 T0 U0 V0 B_11 L0 R0 T0 U0 V0) (ks_X_X k) (c_X4_found l D a k H.size B0 L0 R0 T0 U0 V0 (1 : Int32) r11 B_11 q11) (cwV 1 hts gX4_bed_X4_found rfl rfl rfl (by decide +kernel) ⟨Nat.le_of_ble_eq_true rfl, Nat.le_of_ble_eq_true rfl⟩) (rcv_X a k B0 L0 R0 T0 U0 V0) rfl hl.1 rfl (Nat.le_of_ble_eq_true rfl) dX4_bed_40 ⟨Nat.zero_le _, Nat.zero_le _⟩) hP hD hS hA (fr_X_X a k B0 L0 R0 T0 U0 V0 B_11 L0 R0 T0 U0 V0) (fun H locs hP hD hS => ?_)
        have h := Option.some.inj h
        obtain ⟨hz0, h⟩ := Prod.mk.inj h
        obtain ⟨hz1, h⟩ := Prod.mk.inj h
        obtain ⟨hz2, h⟩ := Prod.mk.inj h
        have hP : va_P D vwCl (xX a k Bz Lz R0 Tz U0 V0) H := by rw [← hz1, ← hz2, ← h]; exact hP
        have hD : va_D A (xX a k Bz Lz R0 Tz U0 V0) := by rw [← hz1, ← hz2, ← h]; exact hD
        subst hQ
        subst hAe
        exact r_i hx hb hr hlocks hz0 hP hD hS dX4_bed_43
    · have h := it_t c4 h
      refine lv_iconst (v := (-1 : Int32)) hx hb dX4_bed_24 (by decide) ?_
      have h := Option.some.inj h
      obtain ⟨hz0, h⟩ := Prod.mk.inj h
      obtain ⟨hz1, h⟩ := Prod.mk.inj h
      obtain ⟨hz2, h⟩ := Prod.mk.inj h
      have hP : va_P D vwCl (xX a k Bz Lz R0 Tz U0 V0) H := by rw [← hz1, ← hz2, ← h]; exact hP
      have hD : va_D A (xX a k Bz Lz R0 Tz U0 V0) := by rw [← hz1, ← hz2, ← h]; exact hD
      subst hQ
      subst hAe
      exact r_i hx hb hr hlocks hz0 hP hD hS dX4_bed_25
def f_X4_stones (B0 : Nat → Nat → Int32) (T0 : Nat → Nat → Int32) (p0 : Int32) (p1 : Int32) : Option (Int32 × (Nat → Nat → Int32) × (Nat → Nat → Int32)) := b1 (f_X1_has T0 p0) (fun r1 => if r1 = (0 : Int32) then (some ((-1 : Int32), B0, T0)) else (b1 (f_X4_within p1 (1 : Int32) (9 : Int32)) (fun r3 => if r3 = (0 : Int32) then (some ((-1 : Int32), B0, T0)) else (gd (inb p0 40) (if (T0 5 (Int32.toNatClampNeg p0)) = (0 : Int32) then (gd (inb p0 40) (ltt ((T0 2 (Int32.toNatClampNeg p0))) (fun v8 => gd (inb p0 40) (ltt (st T0 2 (Int32.toNatClampNeg p0) p1) (fun (T_10 : Nat → Nat → Int32) => some (v8, B0, T_10)))))) else (b2 (f_X4_found B0 (1 : Int32)) (fun r11 (B_11 : Nat → Nat → Int32) => some (r11, B_11, T0))))))))
abbrev rm_X4_stones : Room := { frames := 1, cells := 0, slots := 0, locals := 22 }
set_option maxHeartbeats 4000000 in
set_option maxRecDepth 100000 in
theorem c_X4_stones (l : Launch) (D : va_G) (a : Nat → Nat) (k : Nat → ClassId) (sz : Nat) (B0 : Nat → Nat → Int32) (L0 : Int64) (R0 : Nat → Nat → Int32) (T0 : Nat → Nat → Int32) (U0 : Nat → Nat → Int32) (V0 : Nat → Nat → Int32) (p0 : Int32) (p1 : Int32) (r : Int32) (Bz : (Nat → Nat → Int32)) (Tz : (Nat → Nat → Int32)) (h : f_X4_stones B0 T0 p0 p1 = some (r, Bz, Tz)) : Met l yX4_stones wsX4_stones rm_X4_stones (mPc D [.ref (a 26), .int p0, .int p1] (xX a k B0 L0 R0 T0 U0 V0) (tX k) sz) (mQi D (xX a k B0 L0 R0 T0 U0 V0) (xX a k Bz L0 R0 Tz U0 V0) sz r) 0 0 (va_A (xX a k B0 L0 R0 T0 U0 V0) sz) := by
  refine mk_met (cc := cX4_stones) (maxL := 4) (ret := (some .int)) (by decide) rfl (Nat.le_of_ble_eq_true rfl) ?_
  intro p e s m below meth c hx hb hr hml hts hown hmn hlocks hnw hsz hK hP hD hS hA ls hl
  obtain ⟨A, hAe⟩ : ∃ A, A = va_A (xX a k B0 L0 R0 T0 U0 V0) sz := ⟨_, rfl⟩
  rw [← hAe] at hD hS hA
  generalize hargs : List.toArray ([.ref (a 26), .int p0, .int p1] : List Value) = args at hts ⊢
  generalize hQ : MQ below (mQi D (xX a k B0 L0 R0 T0 U0 V0) (xX a k Bz L0 R0 Tz U0 V0) sz r) args s 0 0 (va_A (xX a k B0 L0 R0 T0 U0 V0) sz) = Q
  have hl : lv_has ls 4 [(0, .ref (a 26)), (1, .int p0), (2, .int p1)] := hl
  have hin1 : ∀ w ∈ wsX10, w ∈ wsX4_stones := fun w h => List.mem_cons_of_mem _ (List.mem_append_right _ h)
  have hin4 : ∀ w ∈ wsX40, w ∈ wsX4_stones := fun w h => List.mem_cons_of_mem _ (List.mem_append_left _ (List.mem_append_right _ h))
  rw [f_X4_stones] at h
  obtain ⟨H, hH⟩ : ∃ H, H = s.heap := ⟨_, rfl⟩
  obtain ⟨locs, hlc⟩ : ∃ L : List Loc, L = [] := ⟨_, rfl⟩
  rw [← hH] at hP
  have hS : va_S A s.heap H locs := by rw [hH, hlc]; exact hS
  suffices hW9 : W p l e rm_X4_stones s m args below meth c H locs 0 0 Q (F0 m 0 ls []) by rw [hH, hlc] at hW9; exact hW9
  refine lv_aload_n hx hb dX4_stones_0 rfl (lv_at hl 0 rfl) ?_
  refine va_get (D := D) (ci := 4) (v := .ref (a 0)) (C := RX4) (T := TX4) (N := 8) hx hb hts hin4 hown hK hP 0 rfl rfl 0 (by decide) (hts (.fieldLink RX4 10 "BallastLine" "track" "LBallastLine$Track;") (List.mem_of_getElem? (i := 1) rfl)) (fun _ h9 => h9) rfl dX4_stones_1 ?_
  refine lv_iload_n hx hb dX4_stones_4 rfl (lv_at hl 1 rfl) ?_
  obtain ⟨r1, q1, h⟩ := b1_s h
  refine go_i (run_VN (As := [.int p0]) (rest := []) ⟨hx, hb, hml, hown, hts⟩ hnw hK hP hD (fr_X_T a k B0 L0 R0 T0 U0 V0 T0) (ks_X_T k) (c_X1_has l D a k H.size T0 p0 r1 q1) ⟨va_cnB 1 hts ggX4_stones_X1_has rfl rfl rfl (hnw.2 (RX4, 60, yX1_has, RX4) (List.mem_of_getElem? (i := 5) rfl)) (hts (.initialized RX1) (List.mem_of_getElem? (i := 3) rfl)) (by decide +kernel) ⟨Nat.le_of_ble_eq_true rfl, Nat.le_of_ble_eq_true rfl⟩, (hts (.instanceMethod yX1_has) (List.mem_of_getElem? (i := 2) rfl)), (hts (.selects RX1 yX1_has yX1_has) (List.mem_of_getElem? (i := 4) rfl))⟩ (rcv_T a k T0) rfl hl.1 rfl (Nat.le_of_ble_eq_true rfl) dX4_stones_5 ⟨Nat.zero_le _, Nat.zero_le _⟩) hP hD hS hA (fr_X_T a k B0 L0 R0 T0 U0 V0 T0) (fun H locs hP hD hS => ?_)
  refine lv_if_eq (tgt := 21) hx hb dX4_stones_8 (by decide) (fun c2 => ?_) (fun c2 => ?_)
  · have h := it_t c2 h
    refine lv_iconst (v := (-1 : Int32)) hx hb dX4_stones_21 (by decide) ?_
    have h := Option.some.inj h
    obtain ⟨hz0, h⟩ := Prod.mk.inj h
    obtain ⟨hz1, h⟩ := Prod.mk.inj h
    have hP : va_P D vwCl (xX a k Bz L0 R0 Tz U0 V0) H := by rw [← hz1, ← h]; exact hP
    have hD : va_D A (xX a k Bz L0 R0 Tz U0 V0) := by rw [← hz1, ← h]; exact hD
    subst hQ
    subst hAe
    exact r_i hx hb hr hlocks hz0 hP hD hS dX4_stones_22
  · have h := it_f c2 h
    refine lv_iload_n hx hb dX4_stones_11 rfl (lv_at hl 2 rfl) ?_
    refine lv_iconst (v := (1 : Int32)) hx hb dX4_stones_12 (by decide) ?_
    refine lv_bipush (v := (9 : Int32)) hx hb dX4_stones_13 (by decide) ?_
    obtain ⟨r3, q3, h⟩ := b1_s h
    refine go_i (run_S (As := [.int p1, .int (1 : Int32), .int (9 : Int32)]) (rest := []) ⟨hx, hb, hml, hown, hts⟩ hnw hK hP hD (fr_X_E a k B0 L0 R0 T0 U0 V0) (ks_X_E k) (c_X4_within l D H.size p1 (1 : Int32) (9 : Int32) r3 q3) (cwS 3 hts gX4_stones_X4_within rfl rfl rfl (by decide +kernel) ⟨Nat.le_of_ble_eq_true rfl, Nat.le_of_ble_eq_true rfl⟩) rfl hl.1 rfl (Nat.le_of_ble_eq_true rfl) dX4_stones_15 ⟨Nat.zero_le _, Nat.zero_le _⟩) hP hD hS hA (fr_X_E a k B0 L0 R0 T0 U0 V0) (fun H locs hP hD hS => ?_)
    refine lv_if_ne (tgt := 23) hx hb dX4_stones_18 (by decide) (fun c4 => ?_) (fun c4 => ?_)
    · have h := it_f c4 h
      refine lv_aload_n hx hb dX4_stones_23 rfl (lv_at hl 0 rfl) ?_
      refine va_get (D := D) (ci := 4) (v := .ref (a 0)) (C := RX4) (T := TX4) (N := 8) hx hb hts hin4 hown hK hP 0 rfl rfl 0 (by decide) (hts (.fieldLink RX4 10 "BallastLine" "track" "LBallastLine$Track;") (List.mem_of_getElem? (i := 1) rfl)) (fun _ h9 => h9) rfl dX4_stones_24 ?_
      refine va_getN (host := RX4) (D := D) (ci := 1) (v := .ref (a 6)) (C := RX1) (T := TX1) (N := 8) hx hb hts hin1 hown hK hP 6 rfl rfl 5 (by decide) (va_Nw.use rfl (hnw.1 (RX4, 71, "BallastLine$Track", "lost", "[Z", RX4) (List.mem_of_getElem? (i := 7) rfl))) (fun _ h9 => h9) rfl dX4_stones_27 ?_
      refine lv_iload_n hx hb dX4_stones_30 rfl (lv_at hl 1 rfl) ?_
      obtain ⟨g5, h⟩ := gd_s h
      refine va_zald hx hb hK hP 12 9 rfl rfl (inb_in g5) dX4_stones_31 ?_
      refine lv_if_eq (tgt := 41) hx hb dX4_stones_32 (by decide) (fun c6 => ?_) (fun c6 => ?_)
      · have h := it_t c6 h
        refine lv_aload_n hx hb dX4_stones_41 rfl (lv_at hl 0 rfl) ?_
        refine va_get (D := D) (ci := 4) (v := .ref (a 0)) (C := RX4) (T := TX4) (N := 8) hx hb hts hin4 hown hK hP 0 rfl rfl 0 (by decide) (hts (.fieldLink RX4 10 "BallastLine" "track" "LBallastLine$Track;") (List.mem_of_getElem? (i := 1) rfl)) (fun _ h9 => h9) rfl dX4_stones_42 ?_
        refine va_getN (host := RX4) (D := D) (ci := 1) (v := .ref (a 3)) (C := RX1) (T := TX1) (N := 8) hx hb hts hin1 hown hK hP 6 rfl rfl 2 (by decide) (va_Nw.use rfl (hnw.1 (RX4, 90, "BallastLine$Track", "firmness", "[I", RX4) (List.mem_of_getElem? (i := 3) rfl))) (fun _ h9 => h9) rfl dX4_stones_45 ?_
        refine lv_iload_n hx hb dX4_stones_48 rfl (lv_at hl 1 rfl) ?_
        obtain ⟨g7, h⟩ := gd_s h
        refine va_iald hx hb hK hP 9 6 rfl rfl (inb_in g7) dX4_stones_49 ?_
        refine lv_topi (fun v8 ev8 => ?_)
        have h := ltt_s ev8 h
        refine lv_istore_n (lv' := [(3, .int v8), (0, .ref (a 26)), (1, .int p0), (2, .int p1)]) hx hb dX4_stones_50 rfl hl (by decide) rfl (fun ls hl => ?_)
        refine lv_aload_n hx hb dX4_stones_51 rfl (lv_at hl 1 rfl) ?_
        refine va_get (D := D) (ci := 4) (v := .ref (a 0)) (C := RX4) (T := TX4) (N := 8) hx hb hts hin4 hown hK hP 0 rfl rfl 0 (by decide) (hts (.fieldLink RX4 10 "BallastLine" "track" "LBallastLine$Track;") (List.mem_of_getElem? (i := 1) rfl)) (fun _ h9 => h9) rfl dX4_stones_52 ?_
        refine va_getN (host := RX4) (D := D) (ci := 1) (v := .ref (a 3)) (C := RX1) (T := TX1) (N := 8) hx hb hts hin1 hown hK hP 6 rfl rfl 2 (by decide) (va_Nw.use rfl (hnw.1 (RX4, 90, "BallastLine$Track", "firmness", "[I", RX4) (List.mem_of_getElem? (i := 3) rfl))) (fun _ h9 => h9) rfl dX4_stones_55 ?_
        refine lv_iload_n hx hb dX4_stones_58 rfl (lv_at hl 2 rfl) ?_
        refine lv_iload_n hx hb dX4_stones_59 rfl (lv_at hl 3 rfl) ?_
        obtain ⟨g9, h⟩ := gd_s h
        refine va_iast hx hb hK hP hD hS 9 6 rfl rfl (inb_in g9) dX4_stones_60 (fun H locs hP hD hS => ?_)
        obtain ⟨T_10, eT_10⟩ : ∃ y : Nat → Nat → Int32, y = st T0 2 (Int32.toNatClampNeg p0) p1 := ⟨_, rfl⟩
        have h := ltt_s eT_10 h
        have hP : va_P D vwCl (xX a k B0 L0 R0 T_10 U0 V0) H := by rw [eT_10]; exact hP
        have hD : va_D A (xX a k B0 L0 R0 T_10 U0 V0) := by rw [eT_10]; exact hD
        refine lv_iload_n hx hb dX4_stones_61 rfl (lv_at hl 0 rfl) ?_
        have h := Option.some.inj h
        obtain ⟨hz0, h⟩ := Prod.mk.inj h
        obtain ⟨hz1, h⟩ := Prod.mk.inj h
        have hP : va_P D vwCl (xX a k Bz L0 R0 Tz U0 V0) H := by rw [← hz1, ← h]; exact hP
        have hD : va_D A (xX a k Bz L0 R0 Tz U0 V0) := by rw [← hz1, ← h]; exact hD
        subst hQ
        subst hAe
        exact r_i hx hb hr hlocks hz0 hP hD hS dX4_stones_62
      · have h := it_f c6 h
        refine lv_aload_n hx hb dX4_stones_35 rfl (lv_at hl 0 rfl) ?_
        refine lv_iconst (v := (1 : Int32)) hx hb dX4_stones_36 (by decide) ?_
        obtain ⟨r11, B_11, q11, h⟩ := b2_s h
        refine go_i (run_V (As := [.int (1 : Int32)]) (rest := []) ⟨hx, hb, hml, hown, hts⟩ hnw hK hP hD (fr_X_X a k B0 L0 R0 T0 U0 V0 B_11 L0 R0 T0 U0 V0) (ks_X_X k) (c_X4_found l D a k H.size B0 L0 R0 T0 U0 V0 (1 : Int32) r11 B_11 q11) (cwV 1 hts gX4_stones_X4_found rfl rfl rfl (by decide +kernel) ⟨Nat.le_of_ble_eq_true rfl, Nat.le_of_ble_eq_true rfl⟩) (rcv_X a k B0 L0 R0 T0 U0 V0) rfl hl.1 rfl (Nat.le_of_ble_eq_true rfl) dX4_stones_37 ⟨Nat.zero_le _, Nat.zero_le _⟩) hP hD hS hA (fr_X_X a k B0 L0 R0 T0 U0 V0 B_11 L0 R0 T0 U0 V0) (fun H locs hP hD hS => ?_)
        have h := Option.some.inj h
        obtain ⟨hz0, h⟩ := Prod.mk.inj h
        obtain ⟨hz1, h⟩ := Prod.mk.inj h
        have hP : va_P D vwCl (xX a k Bz L0 R0 Tz U0 V0) H := by rw [← hz1, ← h]; exact hP
        have hD : va_D A (xX a k Bz L0 R0 Tz U0 V0) := by rw [← hz1, ← h]; exact hD
        subst hQ
        subst hAe
        exact r_i hx hb hr hlocks hz0 hP hD hS dX4_stones_40
    · have h := it_t c4 h
      refine lv_iconst (v := (-1 : Int32)) hx hb dX4_stones_21 (by decide) ?_
      have h := Option.some.inj h
      obtain ⟨hz0, h⟩ := Prod.mk.inj h
      obtain ⟨hz1, h⟩ := Prod.mk.inj h
      have hP : va_P D vwCl (xX a k Bz L0 R0 Tz U0 V0) H := by rw [← hz1, ← h]; exact hP
      have hD : va_D A (xX a k Bz L0 R0 Tz U0 V0) := by rw [← hz1, ← h]; exact hD
      subst hQ
      subst hAe
      exact r_i hx hb hr hlocks hz0 hP hD hS dX4_stones_22
def f_X4_told (T0 : Nat → Nat → Int32) (p0 : Int32) (p1 : Int32) : Option (Int32) := b1 (f_X1_has T0 p0) (fun r1 => if r1 = (0 : Int32) then (some (-1 : Int32)) else (if p1 = (0 : Int32) then (gd (inb p0 40) (some (T0 0 (Int32.toNatClampNeg p0)))) else (if p1 = (1 : Int32) then (gd (inb p0 40) (some (T0 2 (Int32.toNatClampNeg p0)))) else (if p1 = (2 : Int32) then (gd (inb p0 40) (some (T0 3 (Int32.toNatClampNeg p0)))) else (if p1 = (3 : Int32) then (gd (inb p0 40) (if (T0 5 (Int32.toNatClampNeg p0)) = (0 : Int32) then (some (0 : Int32)) else (some (1 : Int32)))) else (some (-1 : Int32)))))))
abbrev rm_X4_told : Room := { frames := 1, cells := 0, slots := 0, locals := 21 }
set_option maxHeartbeats 4000000 in
set_option maxRecDepth 100000 in
theorem c_X4_told (l : Launch) (D : va_G) (a : Nat → Nat) (k : Nat → ClassId) (sz : Nat) (B0 : Nat → Nat → Int32) (L0 : Int64) (R0 : Nat → Nat → Int32) (T0 : Nat → Nat → Int32) (U0 : Nat → Nat → Int32) (V0 : Nat → Nat → Int32) (p0 : Int32) (p1 : Int32) (r : Int32) (h : f_X4_told T0 p0 p1 = some r) : Met l yX4_told wsX4_told rm_X4_told (mPc D [.ref (a 26), .int p0, .int p1] (xX a k B0 L0 R0 T0 U0 V0) (tX k) sz) (mQi D (xX a k B0 L0 R0 T0 U0 V0) (xX a k B0 L0 R0 T0 U0 V0) sz r) 0 0 (va_A (xX a k B0 L0 R0 T0 U0 V0) sz) := by
  refine mk_met (cc := cX4_told) (maxL := 3) (ret := (some .int)) (by decide) rfl (Nat.le_of_ble_eq_true rfl) ?_
  intro p e s m below meth c hx hb hr hml hts hown hmn hlocks hnw hsz hK hP hD hS hA ls hl
  obtain ⟨A, hAe⟩ : ∃ A, A = va_A (xX a k B0 L0 R0 T0 U0 V0) sz := ⟨_, rfl⟩
  rw [← hAe] at hD hS hA
  generalize hargs : List.toArray ([.ref (a 26), .int p0, .int p1] : List Value) = args at hts ⊢
  generalize hQ : MQ below (mQi D (xX a k B0 L0 R0 T0 U0 V0) (xX a k B0 L0 R0 T0 U0 V0) sz r) args s 0 0 (va_A (xX a k B0 L0 R0 T0 U0 V0) sz) = Q
  have hl : lv_has ls 3 [(0, .ref (a 26)), (1, .int p0), (2, .int p1)] := hl
  have hin1 : ∀ w ∈ wsX10, w ∈ wsX4_told := fun w h => List.mem_cons_of_mem _ (List.mem_append_right _ h)
  have hin4 : ∀ w ∈ wsX40, w ∈ wsX4_told := fun w h => List.mem_cons_of_mem _ (List.mem_append_left _ (List.mem_append_right _ h))
  rw [f_X4_told] at h
  obtain ⟨H, hH⟩ : ∃ H, H = s.heap := ⟨_, rfl⟩
  obtain ⟨locs, hlc⟩ : ∃ L : List Loc, L = [] := ⟨_, rfl⟩
  rw [← hH] at hP
  have hS : va_S A s.heap H locs := by rw [hH, hlc]; exact hS
  suffices hW9 : W p l e rm_X4_told s m args below meth c H locs 0 0 Q (F0 m 0 ls []) by rw [hH, hlc] at hW9; exact hW9
  refine lv_aload_n hx hb dX4_told_0 rfl (lv_at hl 0 rfl) ?_
  refine va_get (D := D) (ci := 4) (v := .ref (a 0)) (C := RX4) (T := TX4) (N := 8) hx hb hts hin4 hown hK hP 0 rfl rfl 0 (by decide) (hts (.fieldLink RX4 10 "BallastLine" "track" "LBallastLine$Track;") (List.mem_of_getElem? (i := 1) rfl)) (fun _ h9 => h9) rfl dX4_told_1 ?_
  refine lv_iload_n hx hb dX4_told_4 rfl (lv_at hl 1 rfl) ?_
  obtain ⟨r1, q1, h⟩ := b1_s h
  refine go_i (run_VN (As := [.int p0]) (rest := []) ⟨hx, hb, hml, hown, hts⟩ hnw hK hP hD (fr_X_T a k B0 L0 R0 T0 U0 V0 T0) (ks_X_T k) (c_X1_has l D a k H.size T0 p0 r1 q1) ⟨va_cnB 1 hts ggX4_told_X1_has rfl rfl rfl (hnw.2 (RX4, 60, yX1_has, RX4) (List.mem_of_getElem? (i := 5) rfl)) (hts (.initialized RX1) (List.mem_of_getElem? (i := 3) rfl)) (by decide +kernel) ⟨Nat.le_of_ble_eq_true rfl, Nat.le_of_ble_eq_true rfl⟩, (hts (.instanceMethod yX1_has) (List.mem_of_getElem? (i := 2) rfl)), (hts (.selects RX1 yX1_has yX1_has) (List.mem_of_getElem? (i := 4) rfl))⟩ (rcv_T a k T0) rfl hl.1 rfl (Nat.le_of_ble_eq_true rfl) dX4_told_5 ⟨Nat.zero_le _, Nat.zero_le _⟩) hP hD hS hA (fr_X_T a k B0 L0 R0 T0 U0 V0 T0) (fun H locs hP hD hS => ?_)
  refine lv_if_ne (tgt := 13) hx hb dX4_told_8 (by decide) (fun c2 => ?_) (fun c2 => ?_)
  · have h := it_f c2 h
    refine lv_iload_n hx hb dX4_told_13 rfl (lv_at hl 2 rfl) ?_
    by_cases c3 : p1 = (0 : Int32)
    · have h := it_t c3 h
      refine lv_tableIn (off := 30) (tgt := 44) hx hb dX4_told_14 (by rw [c3]; decide) (by rw [c3]; decide) (by rw [c3]; rfl) (by decide) ?_
      refine lv_aload_n hx hb dX4_told_44 rfl (lv_at hl 0 rfl) ?_
      refine va_get (D := D) (ci := 4) (v := .ref (a 0)) (C := RX4) (T := TX4) (N := 8) hx hb hts hin4 hown hK hP 0 rfl rfl 0 (by decide) (hts (.fieldLink RX4 10 "BallastLine" "track" "LBallastLine$Track;") (List.mem_of_getElem? (i := 1) rfl)) (fun _ h9 => h9) rfl dX4_told_45 ?_
      refine va_getN (host := RX4) (D := D) (ci := 1) (v := .ref (a 1)) (C := RX1) (T := TX1) (N := 8) hx hb hts hin1 hown hK hP 6 rfl rfl 0 (by decide) (va_Nw.use rfl (hnw.1 (RX4, 64, "BallastLine$Track", "kinds", "[I", RX4) (List.mem_of_getElem? (i := 0) rfl))) (fun _ h9 => h9) rfl dX4_told_48 ?_
      refine lv_iload_n hx hb dX4_told_51 rfl (lv_at hl 1 rfl) ?_
      obtain ⟨g4, h⟩ := gd_s h
      refine va_iald hx hb hK hP 7 4 rfl rfl (inb_in g4) dX4_told_52 ?_
      have h := Option.some.inj h
      subst hQ
      subst hAe
      exact r_i hx hb hr hlocks h hP hD hS dX4_told_53
    · have h := it_f c3 h
      by_cases c5 : p1 = (1 : Int32)
      · have h := it_t c5 h
        refine lv_tableIn (off := 40) (tgt := 54) hx hb dX4_told_14 (by rw [c5]; decide) (by rw [c5]; decide) (by rw [c5]; rfl) (by decide) ?_
        refine lv_aload_n hx hb dX4_told_54 rfl (lv_at hl 0 rfl) ?_
        refine va_get (D := D) (ci := 4) (v := .ref (a 0)) (C := RX4) (T := TX4) (N := 8) hx hb hts hin4 hown hK hP 0 rfl rfl 0 (by decide) (hts (.fieldLink RX4 10 "BallastLine" "track" "LBallastLine$Track;") (List.mem_of_getElem? (i := 1) rfl)) (fun _ h9 => h9) rfl dX4_told_55 ?_
        refine va_getN (host := RX4) (D := D) (ci := 1) (v := .ref (a 3)) (C := RX1) (T := TX1) (N := 8) hx hb hts hin1 hown hK hP 6 rfl rfl 2 (by decide) (va_Nw.use rfl (hnw.1 (RX4, 90, "BallastLine$Track", "firmness", "[I", RX4) (List.mem_of_getElem? (i := 3) rfl))) (fun _ h9 => h9) rfl dX4_told_58 ?_
        refine lv_iload_n hx hb dX4_told_61 rfl (lv_at hl 1 rfl) ?_
        obtain ⟨g6, h⟩ := gd_s h
        refine va_iald hx hb hK hP 9 6 rfl rfl (inb_in g6) dX4_told_62 ?_
        have h := Option.some.inj h
        subst hQ
        subst hAe
        exact r_i hx hb hr hlocks h hP hD hS dX4_told_63
      · have h := it_f c5 h
        by_cases c7 : p1 = (2 : Int32)
        · have h := it_t c7 h
          refine lv_tableIn (off := 50) (tgt := 64) hx hb dX4_told_14 (by rw [c7]; decide) (by rw [c7]; decide) (by rw [c7]; rfl) (by decide) ?_
          refine lv_aload_n hx hb dX4_told_64 rfl (lv_at hl 0 rfl) ?_
          refine va_get (D := D) (ci := 4) (v := .ref (a 0)) (C := RX4) (T := TX4) (N := 8) hx hb hts hin4 hown hK hP 0 rfl rfl 0 (by decide) (hts (.fieldLink RX4 10 "BallastLine" "track" "LBallastLine$Track;") (List.mem_of_getElem? (i := 1) rfl)) (fun _ h9 => h9) rfl dX4_told_65 ?_
          refine va_getN (host := RX4) (D := D) (ci := 1) (v := .ref (a 4)) (C := RX1) (T := TX1) (N := 8) hx hb hts hin1 hown hK hP 6 rfl rfl 3 (by decide) (va_Nw.use rfl (hnw.1 (RX4, 93, "BallastLine$Track", "hundredths", "[I", RX4) (List.mem_of_getElem? (i := 4) rfl))) (fun _ h9 => h9) rfl dX4_told_68 ?_
          refine lv_iload_n hx hb dX4_told_71 rfl (lv_at hl 1 rfl) ?_
          obtain ⟨g8, h⟩ := gd_s h
          refine va_iald hx hb hK hP 10 7 rfl rfl (inb_in g8) dX4_told_72 ?_
          have h := Option.some.inj h
          subst hQ
          subst hAe
          exact r_i hx hb hr hlocks h hP hD hS dX4_told_73
        · have h := it_f c7 h
          by_cases c9 : p1 = (3 : Int32)
          · have h := it_t c9 h
            refine lv_tableIn (off := 60) (tgt := 74) hx hb dX4_told_14 (by rw [c9]; decide) (by rw [c9]; decide) (by rw [c9]; rfl) (by decide) ?_
            refine lv_aload_n hx hb dX4_told_74 rfl (lv_at hl 0 rfl) ?_
            refine va_get (D := D) (ci := 4) (v := .ref (a 0)) (C := RX4) (T := TX4) (N := 8) hx hb hts hin4 hown hK hP 0 rfl rfl 0 (by decide) (hts (.fieldLink RX4 10 "BallastLine" "track" "LBallastLine$Track;") (List.mem_of_getElem? (i := 1) rfl)) (fun _ h9 => h9) rfl dX4_told_75 ?_
            refine va_getN (host := RX4) (D := D) (ci := 1) (v := .ref (a 6)) (C := RX1) (T := TX1) (N := 8) hx hb hts hin1 hown hK hP 6 rfl rfl 5 (by decide) (va_Nw.use rfl (hnw.1 (RX4, 71, "BallastLine$Track", "lost", "[Z", RX4) (List.mem_of_getElem? (i := 7) rfl))) (fun _ h9 => h9) rfl dX4_told_78 ?_
            refine lv_iload_n hx hb dX4_told_81 rfl (lv_at hl 1 rfl) ?_
            obtain ⟨g10, h⟩ := gd_s h
            refine va_zald hx hb hK hP 12 9 rfl rfl (inb_in g10) dX4_told_82 ?_
            refine lv_if_eq (tgt := 90) hx hb dX4_told_83 (by decide) (fun c11 => ?_) (fun c11 => ?_)
            · have h := it_t c11 h
              refine lv_iconst (v := (0 : Int32)) hx hb dX4_told_90 (by decide) ?_
              have h := Option.some.inj h
              subst hQ
              subst hAe
              exact r_i hx hb hr hlocks h hP hD hS dX4_told_91
            · have h := it_f c11 h
              refine lv_iconst (v := (1 : Int32)) hx hb dX4_told_86 (by decide) ?_
              refine lv_goto (tgt := 91) hx hb dX4_told_87 (by decide) ?_
              have h := Option.some.inj h
              subst hQ
              subst hAe
              exact r_i hx hb hr hlocks h hP hD hS dX4_told_91
          · have h := it_f c9 h
            have ec3 : ¬ (p1).toInt = 0 := fun e => c3 (Int32.toInt_inj.mp (show (p1).toInt = ((0 : Int32)).toInt from e))
            have ec5 : ¬ (p1).toInt = 1 := fun e => c5 (Int32.toInt_inj.mp (show (p1).toInt = ((1 : Int32)).toInt from e))
            have ec7 : ¬ (p1).toInt = 2 := fun e => c7 (Int32.toInt_inj.mp (show (p1).toInt = ((2 : Int32)).toInt from e))
            have ec9 : ¬ (p1).toInt = 3 := fun e => c9 (Int32.toInt_inj.mp (show (p1).toInt = ((3 : Int32)).toInt from e))
            refine lv_tableOut (tgt := 92) hx hb dX4_told_14 (by omega) (by decide) ?_
            refine lv_iconst (v := (-1 : Int32)) hx hb dX4_told_92 (by decide) ?_
            have h := Option.some.inj h
            subst hQ
            subst hAe
            exact r_i hx hb hr hlocks h hP hD hS dX4_told_93
  · have h := it_t c2 h
    refine lv_iconst (v := (-1 : Int32)) hx hb dX4_told_11 (by decide) ?_
    have h := Option.some.inj h
    subst hQ
    subst hAe
    exact r_i hx hb hr hlocks h hP hD hS dX4_told_12
def f_X4_mark (B0 : Nat → Nat → Int32) (T0 : Nat → Nat → Int32) (p0 : Int32) (p1 : Int32) : Option (Int32 × (Nat → Nat → Int32)) := b1 (f_X1_has T0 p0) (fun r1 => if r1 = (0 : Int32) then (some ((-1 : Int32), B0)) else (b1 (f_X4_within p1 (1 : Int32) (3 : Int32)) (fun r3 => if r3 = (0 : Int32) then (some ((-1 : Int32), B0)) else (gd (inb p0 40) (if (T0 5 (Int32.toNatClampNeg p0)) = (0 : Int32) then (b1 (f_X1_isOf T0 p0 p1) (fun r7 => if r7 = (0 : Int32) then (b2 (f_X4_found B0 (3 : Int32)) (fun r14 (B_14 : Nat → Nat → Int32) => some (r14, B_14))) else (if p1 = (1 : Int32) then (gd (inb p0 40) (some ((T0 3 (Int32.toNatClampNeg p0)), B0))) else (if p1 = (2 : Int32) then (gd (inb p0 40) (some ((T0 2 (Int32.toNatClampNeg p0)), B0))) else (gd (inb p0 40) (some ((T0 4 (Int32.toNatClampNeg p0)), B0))))))) else (b2 (f_X4_found B0 (1 : Int32)) (fun r15 (B_15 : Nat → Nat → Int32) => some (r15, B_15))))))))
abbrev rm_X4_mark : Room := { frames := 1, cells := 0, slots := 0, locals := 22 }
set_option maxHeartbeats 4000000 in
set_option maxRecDepth 100000 in
theorem c_X4_mark (l : Launch) (D : va_G) (a : Nat → Nat) (k : Nat → ClassId) (sz : Nat) (B0 : Nat → Nat → Int32) (L0 : Int64) (R0 : Nat → Nat → Int32) (T0 : Nat → Nat → Int32) (U0 : Nat → Nat → Int32) (V0 : Nat → Nat → Int32) (p0 : Int32) (p1 : Int32) (r : Int32) (Bz : (Nat → Nat → Int32)) (h : f_X4_mark B0 T0 p0 p1 = some (r, Bz)) : Met l yX4_mark wsX4_mark rm_X4_mark (mPc D [.ref (a 26), .int p0, .int p1] (xX a k B0 L0 R0 T0 U0 V0) (tX k) sz) (mQi D (xX a k B0 L0 R0 T0 U0 V0) (xX a k Bz L0 R0 T0 U0 V0) sz r) 0 0 (va_A (xX a k B0 L0 R0 T0 U0 V0) sz) := by
  refine mk_met (cc := cX4_mark) (maxL := 3) (ret := (some .int)) (by decide) rfl (Nat.le_of_ble_eq_true rfl) ?_
  intro p e s m below meth c hx hb hr hml hts hown hmn hlocks hnw hsz hK hP hD hS hA ls hl
  obtain ⟨A, hAe⟩ : ∃ A, A = va_A (xX a k B0 L0 R0 T0 U0 V0) sz := ⟨_, rfl⟩
  rw [← hAe] at hD hS hA
  generalize hargs : List.toArray ([.ref (a 26), .int p0, .int p1] : List Value) = args at hts ⊢
  generalize hQ : MQ below (mQi D (xX a k B0 L0 R0 T0 U0 V0) (xX a k Bz L0 R0 T0 U0 V0) sz r) args s 0 0 (va_A (xX a k B0 L0 R0 T0 U0 V0) sz) = Q
  have hl : lv_has ls 3 [(0, .ref (a 26)), (1, .int p0), (2, .int p1)] := hl
  have hin1 : ∀ w ∈ wsX10, w ∈ wsX4_mark := fun w h => List.mem_cons_of_mem _ (List.mem_append_right _ h)
  have hin4 : ∀ w ∈ wsX40, w ∈ wsX4_mark := fun w h => List.mem_cons_of_mem _ (List.mem_append_left _ (List.mem_append_right _ h))
  rw [f_X4_mark] at h
  obtain ⟨H, hH⟩ : ∃ H, H = s.heap := ⟨_, rfl⟩
  obtain ⟨locs, hlc⟩ : ∃ L : List Loc, L = [] := ⟨_, rfl⟩
  rw [← hH] at hP
  have hS : va_S A s.heap H locs := by rw [hH, hlc]; exact hS
  suffices hW9 : W p l e rm_X4_mark s m args below meth c H locs 0 0 Q (F0 m 0 ls []) by rw [hH, hlc] at hW9; exact hW9
  refine lv_aload_n hx hb dX4_mark_0 rfl (lv_at hl 0 rfl) ?_
  refine va_get (D := D) (ci := 4) (v := .ref (a 0)) (C := RX4) (T := TX4) (N := 8) hx hb hts hin4 hown hK hP 0 rfl rfl 0 (by decide) (hts (.fieldLink RX4 10 "BallastLine" "track" "LBallastLine$Track;") (List.mem_of_getElem? (i := 1) rfl)) (fun _ h9 => h9) rfl dX4_mark_1 ?_
  refine lv_iload_n hx hb dX4_mark_4 rfl (lv_at hl 1 rfl) ?_
  obtain ⟨r1, q1, h⟩ := b1_s h
  refine go_i (run_VN (As := [.int p0]) (rest := []) ⟨hx, hb, hml, hown, hts⟩ hnw hK hP hD (fr_X_T a k B0 L0 R0 T0 U0 V0 T0) (ks_X_T k) (c_X1_has l D a k H.size T0 p0 r1 q1) ⟨va_cnB 1 hts ggX4_mark_X1_has rfl rfl rfl (hnw.2 (RX4, 60, yX1_has, RX4) (List.mem_of_getElem? (i := 5) rfl)) (hts (.initialized RX1) (List.mem_of_getElem? (i := 3) rfl)) (by decide +kernel) ⟨Nat.le_of_ble_eq_true rfl, Nat.le_of_ble_eq_true rfl⟩, (hts (.instanceMethod yX1_has) (List.mem_of_getElem? (i := 2) rfl)), (hts (.selects RX1 yX1_has yX1_has) (List.mem_of_getElem? (i := 4) rfl))⟩ (rcv_T a k T0) rfl hl.1 rfl (Nat.le_of_ble_eq_true rfl) dX4_mark_5 ⟨Nat.zero_le _, Nat.zero_le _⟩) hP hD hS hA (fr_X_T a k B0 L0 R0 T0 U0 V0 T0) (fun H locs hP hD hS => ?_)
  refine lv_if_eq (tgt := 20) hx hb dX4_mark_8 (by decide) (fun c2 => ?_) (fun c2 => ?_)
  · have h := it_t c2 h
    refine lv_iconst (v := (-1 : Int32)) hx hb dX4_mark_20 (by decide) ?_
    have h := Option.some.inj h
    obtain ⟨hz0, h⟩ := Prod.mk.inj h
    have hP : va_P D vwCl (xX a k Bz L0 R0 T0 U0 V0) H := by rw [← h]; exact hP
    have hD : va_D A (xX a k Bz L0 R0 T0 U0 V0) := by rw [← h]; exact hD
    subst hQ
    subst hAe
    exact r_i hx hb hr hlocks hz0 hP hD hS dX4_mark_21
  · have h := it_f c2 h
    refine lv_iload_n hx hb dX4_mark_11 rfl (lv_at hl 2 rfl) ?_
    refine lv_iconst (v := (1 : Int32)) hx hb dX4_mark_12 (by decide) ?_
    refine lv_iconst (v := (3 : Int32)) hx hb dX4_mark_13 (by decide) ?_
    obtain ⟨r3, q3, h⟩ := b1_s h
    refine go_i (run_S (As := [.int p1, .int (1 : Int32), .int (3 : Int32)]) (rest := []) ⟨hx, hb, hml, hown, hts⟩ hnw hK hP hD (fr_X_E a k B0 L0 R0 T0 U0 V0) (ks_X_E k) (c_X4_within l D H.size p1 (1 : Int32) (3 : Int32) r3 q3) (cwS 3 hts gX4_mark_X4_within rfl rfl rfl (by decide +kernel) ⟨Nat.le_of_ble_eq_true rfl, Nat.le_of_ble_eq_true rfl⟩) rfl hl.1 rfl (Nat.le_of_ble_eq_true rfl) dX4_mark_14 ⟨Nat.zero_le _, Nat.zero_le _⟩) hP hD hS hA (fr_X_E a k B0 L0 R0 T0 U0 V0) (fun H locs hP hD hS => ?_)
    refine lv_if_ne (tgt := 22) hx hb dX4_mark_17 (by decide) (fun c4 => ?_) (fun c4 => ?_)
    · have h := it_f c4 h
      refine lv_aload_n hx hb dX4_mark_22 rfl (lv_at hl 0 rfl) ?_
      refine va_get (D := D) (ci := 4) (v := .ref (a 0)) (C := RX4) (T := TX4) (N := 8) hx hb hts hin4 hown hK hP 0 rfl rfl 0 (by decide) (hts (.fieldLink RX4 10 "BallastLine" "track" "LBallastLine$Track;") (List.mem_of_getElem? (i := 1) rfl)) (fun _ h9 => h9) rfl dX4_mark_23 ?_
      refine va_getN (host := RX4) (D := D) (ci := 1) (v := .ref (a 6)) (C := RX1) (T := TX1) (N := 8) hx hb hts hin1 hown hK hP 6 rfl rfl 5 (by decide) (va_Nw.use rfl (hnw.1 (RX4, 71, "BallastLine$Track", "lost", "[Z", RX4) (List.mem_of_getElem? (i := 7) rfl))) (fun _ h9 => h9) rfl dX4_mark_26 ?_
      refine lv_iload_n hx hb dX4_mark_29 rfl (lv_at hl 1 rfl) ?_
      obtain ⟨g5, h⟩ := gd_s h
      refine va_zald hx hb hK hP 12 9 rfl rfl (inb_in g5) dX4_mark_30 ?_
      refine lv_if_eq (tgt := 40) hx hb dX4_mark_31 (by decide) (fun c6 => ?_) (fun c6 => ?_)
      · have h := it_t c6 h
        refine lv_aload_n hx hb dX4_mark_40 rfl (lv_at hl 0 rfl) ?_
        refine va_get (D := D) (ci := 4) (v := .ref (a 0)) (C := RX4) (T := TX4) (N := 8) hx hb hts hin4 hown hK hP 0 rfl rfl 0 (by decide) (hts (.fieldLink RX4 10 "BallastLine" "track" "LBallastLine$Track;") (List.mem_of_getElem? (i := 1) rfl)) (fun _ h9 => h9) rfl dX4_mark_41 ?_
        refine lv_iload_n hx hb dX4_mark_44 rfl (lv_at hl 1 rfl) ?_
        refine lv_iload_n hx hb dX4_mark_45 rfl (lv_at hl 2 rfl) ?_
        obtain ⟨r7, q7, h⟩ := b1_s h
        refine go_i (run_VN (As := [.int p0, .int p1]) (rest := []) ⟨hx, hb, hml, hown, hts⟩ hnw hK hP hD (fr_X_T a k B0 L0 R0 T0 U0 V0 T0) (ks_X_T k) (c_X1_isOf l D a k H.size T0 p0 p1 r7 q7) ⟨va_cnB 2 hts ggX4_mark_X1_isOf rfl rfl rfl (hnw.2 (RX4, 96, yX1_isOf, RX4) (List.mem_of_getElem? (i := 8) rfl)) (hts (.initialized RX1) (List.mem_of_getElem? (i := 3) rfl)) (by decide +kernel) ⟨Nat.le_of_ble_eq_true rfl, Nat.le_of_ble_eq_true rfl⟩, (hts (.instanceMethod yX1_isOf) (List.mem_of_getElem? (i := 17) rfl)), (hts (.selects RX1 yX1_isOf yX1_isOf) (List.mem_of_getElem? (i := 18) rfl))⟩ (rcv_T a k T0) rfl hl.1 rfl (Nat.le_of_ble_eq_true rfl) dX4_mark_46 ⟨Nat.zero_le _, Nat.zero_le _⟩) hP hD hS hA (fr_X_T a k B0 L0 R0 T0 U0 V0 T0) (fun H locs hP hD hS => ?_)
        refine lv_if_ne (tgt := 58) hx hb dX4_mark_49 (by decide) (fun c8 => ?_) (fun c8 => ?_)
        · have h := it_f c8 h
          refine lv_iload_n hx hb dX4_mark_58 rfl (lv_at hl 2 rfl) ?_
          by_cases c9 : p1 = (1 : Int32)
          · have h := it_t c9 h
            refine lv_lookup (off := 25) (tgt := 84) hx hb dX4_mark_59 (by decide) (by rw [c9]; rfl) (by decide) ?_
            refine lv_aload_n hx hb dX4_mark_84 rfl (lv_at hl 0 rfl) ?_
            refine va_get (D := D) (ci := 4) (v := .ref (a 0)) (C := RX4) (T := TX4) (N := 8) hx hb hts hin4 hown hK hP 0 rfl rfl 0 (by decide) (hts (.fieldLink RX4 10 "BallastLine" "track" "LBallastLine$Track;") (List.mem_of_getElem? (i := 1) rfl)) (fun _ h9 => h9) rfl dX4_mark_85 ?_
            refine va_getN (host := RX4) (D := D) (ci := 1) (v := .ref (a 4)) (C := RX1) (T := TX1) (N := 8) hx hb hts hin1 hown hK hP 6 rfl rfl 3 (by decide) (va_Nw.use rfl (hnw.1 (RX4, 93, "BallastLine$Track", "hundredths", "[I", RX4) (List.mem_of_getElem? (i := 4) rfl))) (fun _ h9 => h9) rfl dX4_mark_88 ?_
            refine lv_iload_n hx hb dX4_mark_91 rfl (lv_at hl 1 rfl) ?_
            obtain ⟨g10, h⟩ := gd_s h
            refine va_iald hx hb hK hP 10 7 rfl rfl (inb_in g10) dX4_mark_92 ?_
            have h := Option.some.inj h
            obtain ⟨hz0, h⟩ := Prod.mk.inj h
            have hP : va_P D vwCl (xX a k Bz L0 R0 T0 U0 V0) H := by rw [← h]; exact hP
            have hD : va_D A (xX a k Bz L0 R0 T0 U0 V0) := by rw [← h]; exact hD
            subst hQ
            subst hAe
            exact r_i hx hb hr hlocks hz0 hP hD hS dX4_mark_93
          · have h := it_f c9 h
            by_cases c11 : p1 = (2 : Int32)
            · have h := it_t c11 h
              refine lv_lookup (off := 35) (tgt := 94) hx hb dX4_mark_59 (by decide) (by rw [c11]; rfl) (by decide) ?_
              refine lv_aload_n hx hb dX4_mark_94 rfl (lv_at hl 0 rfl) ?_
              refine va_get (D := D) (ci := 4) (v := .ref (a 0)) (C := RX4) (T := TX4) (N := 8) hx hb hts hin4 hown hK hP 0 rfl rfl 0 (by decide) (hts (.fieldLink RX4 10 "BallastLine" "track" "LBallastLine$Track;") (List.mem_of_getElem? (i := 1) rfl)) (fun _ h9 => h9) rfl dX4_mark_95 ?_
              refine va_getN (host := RX4) (D := D) (ci := 1) (v := .ref (a 3)) (C := RX1) (T := TX1) (N := 8) hx hb hts hin1 hown hK hP 6 rfl rfl 2 (by decide) (va_Nw.use rfl (hnw.1 (RX4, 90, "BallastLine$Track", "firmness", "[I", RX4) (List.mem_of_getElem? (i := 3) rfl))) (fun _ h9 => h9) rfl dX4_mark_98 ?_
              refine lv_iload_n hx hb dX4_mark_101 rfl (lv_at hl 1 rfl) ?_
              obtain ⟨g12, h⟩ := gd_s h
              refine va_iald hx hb hK hP 9 6 rfl rfl (inb_in g12) dX4_mark_102 ?_
              have h := Option.some.inj h
              obtain ⟨hz0, h⟩ := Prod.mk.inj h
              have hP : va_P D vwCl (xX a k Bz L0 R0 T0 U0 V0) H := by rw [← h]; exact hP
              have hD : va_D A (xX a k Bz L0 R0 T0 U0 V0) := by rw [← h]; exact hD
              subst hQ
              subst hAe
              exact r_i hx hb hr hlocks hz0 hP hD hS dX4_mark_103
            · have h := it_f c11 h
              have ec9 : ¬ (p1).toInt = 1 := fun e => c9 (Int32.toInt_inj.mp (show (p1).toInt = ((1 : Int32)).toInt from e))
              have ec11 : ¬ (p1).toInt = 2 := fun e => c11 (Int32.toInt_inj.mp (show (p1).toInt = ((2 : Int32)).toInt from e))
              refine lv_lookup (off := 45) (tgt := 104) hx hb dX4_mark_59 (by decide) (by simp [Op.lookupswitch.offset, Ne.symm ec9, ec9, Ne.symm ec11, ec11]) (by decide) ?_
              refine lv_aload_n hx hb dX4_mark_104 rfl (lv_at hl 0 rfl) ?_
              refine va_get (D := D) (ci := 4) (v := .ref (a 0)) (C := RX4) (T := TX4) (N := 8) hx hb hts hin4 hown hK hP 0 rfl rfl 0 (by decide) (hts (.fieldLink RX4 10 "BallastLine" "track" "LBallastLine$Track;") (List.mem_of_getElem? (i := 1) rfl)) (fun _ h9 => h9) rfl dX4_mark_105 ?_
              refine va_getN (host := RX4) (D := D) (ci := 1) (v := .ref (a 5)) (C := RX1) (T := TX1) (N := 8) hx hb hts hin1 hown hK hP 6 rfl rfl 4 (by decide) (va_Nw.use rfl (hnw.1 (RX4, 100, "BallastLine$Track", "axlesOver", "[I", RX4) (List.mem_of_getElem? (i := 6) rfl))) (fun _ h9 => h9) rfl dX4_mark_108 ?_
              refine lv_iload_n hx hb dX4_mark_111 rfl (lv_at hl 1 rfl) ?_
              obtain ⟨g13, h⟩ := gd_s h
              refine va_iald hx hb hK hP 11 8 rfl rfl (inb_in g13) dX4_mark_112 ?_
              have h := Option.some.inj h
              obtain ⟨hz0, h⟩ := Prod.mk.inj h
              have hP : va_P D vwCl (xX a k Bz L0 R0 T0 U0 V0) H := by rw [← h]; exact hP
              have hD : va_D A (xX a k Bz L0 R0 T0 U0 V0) := by rw [← h]; exact hD
              subst hQ
              subst hAe
              exact r_i hx hb hr hlocks hz0 hP hD hS dX4_mark_113
        · have h := it_t c8 h
          refine lv_aload_n hx hb dX4_mark_52 rfl (lv_at hl 0 rfl) ?_
          refine lv_iconst (v := (3 : Int32)) hx hb dX4_mark_53 (by decide) ?_
          obtain ⟨r14, B_14, q14, h⟩ := b2_s h
          refine go_i (run_V (As := [.int (3 : Int32)]) (rest := []) ⟨hx, hb, hml, hown, hts⟩ hnw hK hP hD (fr_X_X a k B0 L0 R0 T0 U0 V0 B_14 L0 R0 T0 U0 V0) (ks_X_X k) (c_X4_found l D a k H.size B0 L0 R0 T0 U0 V0 (3 : Int32) r14 B_14 q14) (cwV 1 hts gX4_mark_X4_found rfl rfl rfl (by decide +kernel) ⟨Nat.le_of_ble_eq_true rfl, Nat.le_of_ble_eq_true rfl⟩) (rcv_X a k B0 L0 R0 T0 U0 V0) rfl hl.1 rfl (Nat.le_of_ble_eq_true rfl) dX4_mark_54 ⟨Nat.zero_le _, Nat.zero_le _⟩) hP hD hS hA (fr_X_X a k B0 L0 R0 T0 U0 V0 B_14 L0 R0 T0 U0 V0) (fun H locs hP hD hS => ?_)
          have h := Option.some.inj h
          obtain ⟨hz0, h⟩ := Prod.mk.inj h
          have hP : va_P D vwCl (xX a k Bz L0 R0 T0 U0 V0) H := by rw [← h]; exact hP
          have hD : va_D A (xX a k Bz L0 R0 T0 U0 V0) := by rw [← h]; exact hD
          subst hQ
          subst hAe
          exact r_i hx hb hr hlocks hz0 hP hD hS dX4_mark_57
      · have h := it_f c6 h
        refine lv_aload_n hx hb dX4_mark_34 rfl (lv_at hl 0 rfl) ?_
        refine lv_iconst (v := (1 : Int32)) hx hb dX4_mark_35 (by decide) ?_
        obtain ⟨r15, B_15, q15, h⟩ := b2_s h
        refine go_i (run_V (As := [.int (1 : Int32)]) (rest := []) ⟨hx, hb, hml, hown, hts⟩ hnw hK hP hD (fr_X_X a k B0 L0 R0 T0 U0 V0 B_15 L0 R0 T0 U0 V0) (ks_X_X k) (c_X4_found l D a k H.size B0 L0 R0 T0 U0 V0 (1 : Int32) r15 B_15 q15) (cwV 1 hts gX4_mark_X4_found rfl rfl rfl (by decide +kernel) ⟨Nat.le_of_ble_eq_true rfl, Nat.le_of_ble_eq_true rfl⟩) (rcv_X a k B0 L0 R0 T0 U0 V0) rfl hl.1 rfl (Nat.le_of_ble_eq_true rfl) dX4_mark_36 ⟨Nat.zero_le _, Nat.zero_le _⟩) hP hD hS hA (fr_X_X a k B0 L0 R0 T0 U0 V0 B_15 L0 R0 T0 U0 V0) (fun H locs hP hD hS => ?_)
        have h := Option.some.inj h
        obtain ⟨hz0, h⟩ := Prod.mk.inj h
        have hP : va_P D vwCl (xX a k Bz L0 R0 T0 U0 V0) H := by rw [← h]; exact hP
        have hD : va_D A (xX a k Bz L0 R0 T0 U0 V0) := by rw [← h]; exact hD
        subst hQ
        subst hAe
        exact r_i hx hb hr hlocks hz0 hP hD hS dX4_mark_39
    · have h := it_t c4 h
      refine lv_iconst (v := (-1 : Int32)) hx hb dX4_mark_20 (by decide) ?_
      have h := Option.some.inj h
      obtain ⟨hz0, h⟩ := Prod.mk.inj h
      have hP : va_P D vwCl (xX a k Bz L0 R0 T0 U0 V0) H := by rw [← h]; exact hP
      have hD : va_D A (xX a k Bz L0 R0 T0 U0 V0) := by rw [← h]; exact hD
      subst hQ
      subst hAe
      exact r_i hx hb hr hlocks hz0 hP hD hS dX4_mark_21
def f_X4_rail (L0 : Int64) (T0 : Nat → Nat → Int32) (p0 : Int32) : Option (Int32 × Int64) := b1 (f_X1_has T0 p0) (fun r1 => if r1 = (0 : Int32) then (some ((-1 : Int32), L0)) else (b1 (f_X1_height T0 p0) (fun r3 => b2 (f_X4_tell L0 (Int32.toInt64 r3)) (fun r4 (L_4 : Int64) => some (r4, L_4)))))
abbrev rm_X4_rail : Room := { frames := 4, cells := 0, slots := 0, locals := 91 }
set_option maxHeartbeats 4000000 in
set_option maxRecDepth 100000 in
theorem c_X4_rail (l : Launch) (D : va_G) (a : Nat → Nat) (k : Nat → ClassId) (sz : Nat) (B0 : Nat → Nat → Int32) (L0 : Int64) (R0 : Nat → Nat → Int32) (T0 : Nat → Nat → Int32) (U0 : Nat → Nat → Int32) (V0 : Nat → Nat → Int32) (p0 : Int32) (r : Int32) (Lz : Int64) (h : f_X4_rail L0 T0 p0 = some (r, Lz)) : Met l yX4_rail wsX4_rail rm_X4_rail (mPc D [.ref (a 26), .int p0] (xX a k B0 L0 R0 T0 U0 V0) (tX k) sz) (mQi D (xX a k B0 L0 R0 T0 U0 V0) (xX a k B0 Lz R0 T0 U0 V0) sz r) 0 0 (va_A (xX a k B0 L0 R0 T0 U0 V0) sz) := by
  refine mk_met (cc := cX4_rail) (maxL := 2) (ret := (some .int)) (by decide) rfl (Nat.le_of_ble_eq_true rfl) ?_
  intro p e s m below meth c hx hb hr hml hts hown hmn hlocks hnw hsz hK hP hD hS hA ls hl
  obtain ⟨A, hAe⟩ : ∃ A, A = va_A (xX a k B0 L0 R0 T0 U0 V0) sz := ⟨_, rfl⟩
  rw [← hAe] at hD hS hA
  generalize hargs : List.toArray ([.ref (a 26), .int p0] : List Value) = args at hts ⊢
  generalize hQ : MQ below (mQi D (xX a k B0 L0 R0 T0 U0 V0) (xX a k B0 Lz R0 T0 U0 V0) sz r) args s 0 0 (va_A (xX a k B0 L0 R0 T0 U0 V0) sz) = Q
  have hl : lv_has ls 2 [(0, .ref (a 26)), (1, .int p0)] := hl
  have hin4 : ∀ w ∈ wsX40, w ∈ wsX4_rail := fun w h => List.mem_cons_of_mem _ (List.mem_append_left _ (List.mem_append_right _ h))
  rw [f_X4_rail] at h
  obtain ⟨H, hH⟩ : ∃ H, H = s.heap := ⟨_, rfl⟩
  obtain ⟨locs, hlc⟩ : ∃ L : List Loc, L = [] := ⟨_, rfl⟩
  rw [← hH] at hP
  have hS : va_S A s.heap H locs := by rw [hH, hlc]; exact hS
  suffices hW9 : W p l e rm_X4_rail s m args below meth c H locs 0 0 Q (F0 m 0 ls []) by rw [hH, hlc] at hW9; exact hW9
  refine lv_aload_n hx hb dX4_rail_0 rfl (lv_at hl 0 rfl) ?_
  refine va_get (D := D) (ci := 4) (v := .ref (a 0)) (C := RX4) (T := TX4) (N := 8) hx hb hts hin4 hown hK hP 0 rfl rfl 0 (by decide) (hts (.fieldLink RX4 10 "BallastLine" "track" "LBallastLine$Track;") (List.mem_of_getElem? (i := 1) rfl)) (fun _ h9 => h9) rfl dX4_rail_1 ?_
  refine lv_iload_n hx hb dX4_rail_4 rfl (lv_at hl 1 rfl) ?_
  obtain ⟨r1, q1, h⟩ := b1_s h
  refine go_i (run_VN (As := [.int p0]) (rest := []) ⟨hx, hb, hml, hown, hts⟩ hnw hK hP hD (fr_X_T a k B0 L0 R0 T0 U0 V0 T0) (ks_X_T k) (c_X1_has l D a k H.size T0 p0 r1 q1) ⟨va_cnB 1 hts ggX4_rail_X1_has rfl rfl rfl (hnw.2 (RX4, 60, yX1_has, RX4) (List.mem_of_getElem? (i := 5) rfl)) (hts (.initialized RX1) (List.mem_of_getElem? (i := 3) rfl)) (by decide +kernel) ⟨Nat.le_of_ble_eq_true rfl, Nat.le_of_ble_eq_true rfl⟩, (hts (.instanceMethod yX1_has) (List.mem_of_getElem? (i := 2) rfl)), (hts (.selects RX1 yX1_has yX1_has) (List.mem_of_getElem? (i := 4) rfl))⟩ (rcv_T a k T0) rfl hl.1 rfl (Nat.le_of_ble_eq_true rfl) dX4_rail_5 ⟨Nat.zero_le _, Nat.zero_le _⟩) hP hD hS hA (fr_X_T a k B0 L0 R0 T0 U0 V0 T0) (fun H locs hP hD hS => ?_)
  refine lv_if_ne (tgt := 13) hx hb dX4_rail_8 (by decide) (fun c2 => ?_) (fun c2 => ?_)
  · have h := it_f c2 h
    refine lv_aload_n hx hb dX4_rail_13 rfl (lv_at hl 0 rfl) ?_
    refine lv_aload_n hx hb dX4_rail_14 rfl (lv_at hl 0 rfl) ?_
    refine va_get (D := D) (ci := 4) (v := .ref (a 0)) (C := RX4) (T := TX4) (N := 8) hx hb hts hin4 hown hK hP 0 rfl rfl 0 (by decide) (hts (.fieldLink RX4 10 "BallastLine" "track" "LBallastLine$Track;") (List.mem_of_getElem? (i := 1) rfl)) (fun _ h9 => h9) rfl dX4_rail_15 ?_
    refine lv_iload_n hx hb dX4_rail_18 rfl (lv_at hl 1 rfl) ?_
    obtain ⟨r3, q3, h⟩ := b1_s h
    refine go_i (run_VN (As := [.int p0]) (rest := [.ref (a 26)]) ⟨hx, hb, hml, hown, hts⟩ hnw hK hP hD (fr_X_T a k B0 L0 R0 T0 U0 V0 T0) (ks_X_T k) (c_X1_height l D a k H.size T0 p0 r3 q3) ⟨va_cnB 1 hts ggX4_rail_X1_height rfl rfl rfl (hnw.2 (RX4, 103, yX1_height, RX4) (List.mem_of_getElem? (i := 9) rfl)) (hts (.initialized RX1) (List.mem_of_getElem? (i := 3) rfl)) (by decide +kernel) ⟨Nat.le_of_ble_eq_true rfl, Nat.le_of_ble_eq_true rfl⟩, (hts (.instanceMethod yX1_height) (List.mem_of_getElem? (i := 7) rfl)), (hts (.selects RX1 yX1_height yX1_height) (List.mem_of_getElem? (i := 8) rfl))⟩ (rcv_T a k T0) rfl hl.1 rfl (Nat.le_of_ble_eq_true rfl) dX4_rail_19 ⟨Nat.zero_le _, Nat.zero_le _⟩) hP hD hS hA (fr_X_T a k B0 L0 R0 T0 U0 V0 T0) (fun H locs hP hD hS => ?_)
    refine lv_i2l (v := (Int32.toInt64 r3)) hx hb dX4_rail_22 rfl ?_
    obtain ⟨r4, L_4, q4, h⟩ := b2_s h
    refine go_i (run_V (As := [.long (Int32.toInt64 r3)]) (rest := []) ⟨hx, hb, hml, hown, hts⟩ hnw hK hP hD (fr_X_X a k B0 L0 R0 T0 U0 V0 B0 L_4 R0 T0 U0 V0) (ks_X_X k) (c_X4_tell l D a k H.size B0 L0 R0 T0 U0 V0 (Int32.toInt64 r3) r4 L_4 q4) (cwV 1 hts gX4_rail_X4_tell rfl rfl rfl (by decide +kernel) ⟨Nat.le_of_ble_eq_true rfl, Nat.le_of_ble_eq_true rfl⟩) (rcv_X a k B0 L0 R0 T0 U0 V0) rfl hl.1 rfl (Nat.le_of_ble_eq_true rfl) dX4_rail_23 ⟨Nat.zero_le _, Nat.zero_le _⟩) hP hD hS hA (fr_X_X a k B0 L0 R0 T0 U0 V0 B0 L_4 R0 T0 U0 V0) (fun H locs hP hD hS => ?_)
    have h := Option.some.inj h
    obtain ⟨hz0, h⟩ := Prod.mk.inj h
    have hP : va_P D vwCl (xX a k B0 Lz R0 T0 U0 V0) H := by rw [← h]; exact hP
    have hD : va_D A (xX a k B0 Lz R0 T0 U0 V0) := by rw [← h]; exact hD
    subst hQ
    subst hAe
    exact r_i hx hb hr hlocks hz0 hP hD hS dX4_rail_26
  · have h := it_t c2 h
    refine lv_iconst (v := (-1 : Int32)) hx hb dX4_rail_11 (by decide) ?_
    have h := Option.some.inj h
    obtain ⟨hz0, h⟩ := Prod.mk.inj h
    have hP : va_P D vwCl (xX a k B0 Lz R0 T0 U0 V0) H := by rw [← h]; exact hP
    have hD : va_D A (xX a k B0 Lz R0 T0 U0 V0) := by rw [← h]; exact hD
    subst hQ
    subst hAe
    exact r_i hx hb hr hlocks hz0 hP hD hS dX4_rail_12
def f_X4_gap (B0 : Nat → Nat → Int32) (T0 : Nat → Nat → Int32) (p0 : Int32) : Option (Int32 × (Nat → Nat → Int32)) := b1 (f_X1_has T0 p0) (fun r1 => if r1 = (0 : Int32) then (some ((-1 : Int32), B0)) else (gd (inb p0 40) (if (T0 5 (Int32.toNatClampNeg p0)) = (0 : Int32) then (b1 (f_X1_height T0 p0) (fun r5 => gd (inb p0 40) (some ((r5 - (T0 1 (Int32.toNatClampNeg p0))), B0)))) else (b2 (f_X4_found B0 (1 : Int32)) (fun r7 (B_7 : Nat → Nat → Int32) => some (r7, B_7))))))
abbrev rm_X4_gap : Room := { frames := 4, cells := 0, slots := 0, locals := 91 }
set_option maxHeartbeats 4000000 in
set_option maxRecDepth 100000 in
theorem c_X4_gap (l : Launch) (D : va_G) (a : Nat → Nat) (k : Nat → ClassId) (sz : Nat) (B0 : Nat → Nat → Int32) (L0 : Int64) (R0 : Nat → Nat → Int32) (T0 : Nat → Nat → Int32) (U0 : Nat → Nat → Int32) (V0 : Nat → Nat → Int32) (p0 : Int32) (r : Int32) (Bz : (Nat → Nat → Int32)) (h : f_X4_gap B0 T0 p0 = some (r, Bz)) : Met l yX4_gap wsX4_gap rm_X4_gap (mPc D [.ref (a 26), .int p0] (xX a k B0 L0 R0 T0 U0 V0) (tX k) sz) (mQi D (xX a k B0 L0 R0 T0 U0 V0) (xX a k Bz L0 R0 T0 U0 V0) sz r) 0 0 (va_A (xX a k B0 L0 R0 T0 U0 V0) sz) := by
  refine mk_met (cc := cX4_gap) (maxL := 2) (ret := (some .int)) (by decide) rfl (Nat.le_of_ble_eq_true rfl) ?_
  intro p e s m below meth c hx hb hr hml hts hown hmn hlocks hnw hsz hK hP hD hS hA ls hl
  obtain ⟨A, hAe⟩ : ∃ A, A = va_A (xX a k B0 L0 R0 T0 U0 V0) sz := ⟨_, rfl⟩
  rw [← hAe] at hD hS hA
  generalize hargs : List.toArray ([.ref (a 26), .int p0] : List Value) = args at hts ⊢
  generalize hQ : MQ below (mQi D (xX a k B0 L0 R0 T0 U0 V0) (xX a k Bz L0 R0 T0 U0 V0) sz r) args s 0 0 (va_A (xX a k B0 L0 R0 T0 U0 V0) sz) = Q
  have hl : lv_has ls 2 [(0, .ref (a 26)), (1, .int p0)] := hl
  have hin1 : ∀ w ∈ wsX10, w ∈ wsX4_gap := fun w h => List.mem_cons_of_mem _ (List.mem_append_right _ h)
  have hin4 : ∀ w ∈ wsX40, w ∈ wsX4_gap := fun w h => List.mem_cons_of_mem _ (List.mem_append_left _ (List.mem_append_right _ h))
  rw [f_X4_gap] at h
  obtain ⟨H, hH⟩ : ∃ H, H = s.heap := ⟨_, rfl⟩
  obtain ⟨locs, hlc⟩ : ∃ L : List Loc, L = [] := ⟨_, rfl⟩
  rw [← hH] at hP
  have hS : va_S A s.heap H locs := by rw [hH, hlc]; exact hS
  suffices hW9 : W p l e rm_X4_gap s m args below meth c H locs 0 0 Q (F0 m 0 ls []) by rw [hH, hlc] at hW9; exact hW9
  refine lv_aload_n hx hb dX4_gap_0 rfl (lv_at hl 0 rfl) ?_
  refine va_get (D := D) (ci := 4) (v := .ref (a 0)) (C := RX4) (T := TX4) (N := 8) hx hb hts hin4 hown hK hP 0 rfl rfl 0 (by decide) (hts (.fieldLink RX4 10 "BallastLine" "track" "LBallastLine$Track;") (List.mem_of_getElem? (i := 1) rfl)) (fun _ h9 => h9) rfl dX4_gap_1 ?_
  refine lv_iload_n hx hb dX4_gap_4 rfl (lv_at hl 1 rfl) ?_
  obtain ⟨r1, q1, h⟩ := b1_s h
  refine go_i (run_VN (As := [.int p0]) (rest := []) ⟨hx, hb, hml, hown, hts⟩ hnw hK hP hD (fr_X_T a k B0 L0 R0 T0 U0 V0 T0) (ks_X_T k) (c_X1_has l D a k H.size T0 p0 r1 q1) ⟨va_cnB 1 hts ggX4_gap_X1_has rfl rfl rfl (hnw.2 (RX4, 60, yX1_has, RX4) (List.mem_of_getElem? (i := 5) rfl)) (hts (.initialized RX1) (List.mem_of_getElem? (i := 3) rfl)) (by decide +kernel) ⟨Nat.le_of_ble_eq_true rfl, Nat.le_of_ble_eq_true rfl⟩, (hts (.instanceMethod yX1_has) (List.mem_of_getElem? (i := 2) rfl)), (hts (.selects RX1 yX1_has yX1_has) (List.mem_of_getElem? (i := 4) rfl))⟩ (rcv_T a k T0) rfl hl.1 rfl (Nat.le_of_ble_eq_true rfl) dX4_gap_5 ⟨Nat.zero_le _, Nat.zero_le _⟩) hP hD hS hA (fr_X_T a k B0 L0 R0 T0 U0 V0 T0) (fun H locs hP hD hS => ?_)
  refine lv_if_ne (tgt := 13) hx hb dX4_gap_8 (by decide) (fun c2 => ?_) (fun c2 => ?_)
  · have h := it_f c2 h
    refine lv_aload_n hx hb dX4_gap_13 rfl (lv_at hl 0 rfl) ?_
    refine va_get (D := D) (ci := 4) (v := .ref (a 0)) (C := RX4) (T := TX4) (N := 8) hx hb hts hin4 hown hK hP 0 rfl rfl 0 (by decide) (hts (.fieldLink RX4 10 "BallastLine" "track" "LBallastLine$Track;") (List.mem_of_getElem? (i := 1) rfl)) (fun _ h9 => h9) rfl dX4_gap_14 ?_
    refine va_getN (host := RX4) (D := D) (ci := 1) (v := .ref (a 6)) (C := RX1) (T := TX1) (N := 8) hx hb hts hin1 hown hK hP 6 rfl rfl 5 (by decide) (va_Nw.use rfl (hnw.1 (RX4, 71, "BallastLine$Track", "lost", "[Z", RX4) (List.mem_of_getElem? (i := 7) rfl))) (fun _ h9 => h9) rfl dX4_gap_17 ?_
    refine lv_iload_n hx hb dX4_gap_20 rfl (lv_at hl 1 rfl) ?_
    obtain ⟨g3, h⟩ := gd_s h
    refine va_zald hx hb hK hP 12 9 rfl rfl (inb_in g3) dX4_gap_21 ?_
    refine lv_if_eq (tgt := 31) hx hb dX4_gap_22 (by decide) (fun c4 => ?_) (fun c4 => ?_)
    · have h := it_t c4 h
      refine lv_aload_n hx hb dX4_gap_31 rfl (lv_at hl 0 rfl) ?_
      refine va_get (D := D) (ci := 4) (v := .ref (a 0)) (C := RX4) (T := TX4) (N := 8) hx hb hts hin4 hown hK hP 0 rfl rfl 0 (by decide) (hts (.fieldLink RX4 10 "BallastLine" "track" "LBallastLine$Track;") (List.mem_of_getElem? (i := 1) rfl)) (fun _ h9 => h9) rfl dX4_gap_32 ?_
      refine lv_iload_n hx hb dX4_gap_35 rfl (lv_at hl 1 rfl) ?_
      obtain ⟨r5, q5, h⟩ := b1_s h
      refine go_i (run_VN (As := [.int p0]) (rest := []) ⟨hx, hb, hml, hown, hts⟩ hnw hK hP hD (fr_X_T a k B0 L0 R0 T0 U0 V0 T0) (ks_X_T k) (c_X1_height l D a k H.size T0 p0 r5 q5) ⟨va_cnB 1 hts ggX4_gap_X1_height rfl rfl rfl (hnw.2 (RX4, 103, yX1_height, RX4) (List.mem_of_getElem? (i := 9) rfl)) (hts (.initialized RX1) (List.mem_of_getElem? (i := 3) rfl)) (by decide +kernel) ⟨Nat.le_of_ble_eq_true rfl, Nat.le_of_ble_eq_true rfl⟩, (hts (.instanceMethod yX1_height) (List.mem_of_getElem? (i := 14) rfl)), (hts (.selects RX1 yX1_height yX1_height) (List.mem_of_getElem? (i := 15) rfl))⟩ (rcv_T a k T0) rfl hl.1 rfl (Nat.le_of_ble_eq_true rfl) dX4_gap_36 ⟨Nat.zero_le _, Nat.zero_le _⟩) hP hD hS hA (fr_X_T a k B0 L0 R0 T0 U0 V0 T0) (fun H locs hP hD hS => ?_)
      refine lv_aload_n hx hb dX4_gap_39 rfl (lv_at hl 0 rfl) ?_
      refine va_get (D := D) (ci := 4) (v := .ref (a 0)) (C := RX4) (T := TX4) (N := 8) hx hb hts hin4 hown hK hP 0 rfl rfl 0 (by decide) (hts (.fieldLink RX4 10 "BallastLine" "track" "LBallastLine$Track;") (List.mem_of_getElem? (i := 1) rfl)) (fun _ h9 => h9) rfl dX4_gap_40 ?_
      refine va_getN (host := RX4) (D := D) (ci := 1) (v := .ref (a 2)) (C := RX1) (T := TX1) (N := 8) hx hb hts hin1 hown hK hP 6 rfl rfl 1 (by decide) (va_Nw.use rfl (hnw.1 (RX4, 79, "BallastLine$Track", "beds", "[I", RX4) (List.mem_of_getElem? (i := 1) rfl))) (fun _ h9 => h9) rfl dX4_gap_43 ?_
      refine lv_iload_n hx hb dX4_gap_46 rfl (lv_at hl 1 rfl) ?_
      obtain ⟨g6, h⟩ := gd_s h
      refine va_iald hx hb hK hP 8 5 rfl rfl (inb_in g6) dX4_gap_47 ?_
      refine lv_isub hx hb dX4_gap_48 ?_
      have h := Option.some.inj h
      obtain ⟨hz0, h⟩ := Prod.mk.inj h
      have hP : va_P D vwCl (xX a k Bz L0 R0 T0 U0 V0) H := by rw [← h]; exact hP
      have hD : va_D A (xX a k Bz L0 R0 T0 U0 V0) := by rw [← h]; exact hD
      subst hQ
      subst hAe
      exact r_i hx hb hr hlocks hz0 hP hD hS dX4_gap_49
    · have h := it_f c4 h
      refine lv_aload_n hx hb dX4_gap_25 rfl (lv_at hl 0 rfl) ?_
      refine lv_iconst (v := (1 : Int32)) hx hb dX4_gap_26 (by decide) ?_
      obtain ⟨r7, B_7, q7, h⟩ := b2_s h
      refine go_i (run_V (As := [.int (1 : Int32)]) (rest := []) ⟨hx, hb, hml, hown, hts⟩ hnw hK hP hD (fr_X_X a k B0 L0 R0 T0 U0 V0 B_7 L0 R0 T0 U0 V0) (ks_X_X k) (c_X4_found l D a k H.size B0 L0 R0 T0 U0 V0 (1 : Int32) r7 B_7 q7) (cwV 1 hts gX4_gap_X4_found rfl rfl rfl (by decide +kernel) ⟨Nat.le_of_ble_eq_true rfl, Nat.le_of_ble_eq_true rfl⟩) (rcv_X a k B0 L0 R0 T0 U0 V0) rfl hl.1 rfl (Nat.le_of_ble_eq_true rfl) dX4_gap_27 ⟨Nat.zero_le _, Nat.zero_le _⟩) hP hD hS hA (fr_X_X a k B0 L0 R0 T0 U0 V0 B_7 L0 R0 T0 U0 V0) (fun H locs hP hD hS => ?_)
      have h := Option.some.inj h
      obtain ⟨hz0, h⟩ := Prod.mk.inj h
      have hP : va_P D vwCl (xX a k Bz L0 R0 T0 U0 V0) H := by rw [← h]; exact hP
      have hD : va_D A (xX a k Bz L0 R0 T0 U0 V0) := by rw [← h]; exact hD
      subst hQ
      subst hAe
      exact r_i hx hb hr hlocks hz0 hP hD hS dX4_gap_30
  · have h := it_t c2 h
    refine lv_iconst (v := (-1 : Int32)) hx hb dX4_gap_11 (by decide) ?_
    have h := Option.some.inj h
    obtain ⟨hz0, h⟩ := Prod.mk.inj h
    have hP : va_P D vwCl (xX a k Bz L0 R0 T0 U0 V0) H := by rw [← h]; exact hP
    have hD : va_D A (xX a k Bz L0 R0 T0 U0 V0) := by rw [← h]; exact hD
    subst hQ
    subst hAe
    exact r_i hx hb hr hlocks hz0 hP hD hS dX4_gap_12
def f_X4_axle (R0 : Nat → Nat → Int32) (p0 : Int32) : Option (Int32 × (Nat → Nat → Int32)) := b1 (f_X4_within p0 (1 : Int32) (250 : Int32)) (fun r1 => if r1 = (0 : Int32) then (some ((-1 : Int32), R0)) else (if (R0 2 0) < (20 : Int32) then (gd (inb (R0 2 0) 20) (ltt (st R0 0 (Int32.toNatClampNeg (R0 2 0)) p0) (fun (R_5 : Nat → Nat → Int32) => ltt (st R_5 2 0 ((R_5 2 0) + (1 : Int32))) (fun (R_6 : Nat → Nat → Int32) => some ((R_6 2 0), R_6))))) else (some ((-2 : Int32), R0))))
abbrev rm_X4_axle : Room := { frames := 1, cells := 0, slots := 0, locals := 22 }
set_option maxHeartbeats 4000000 in
set_option maxRecDepth 100000 in
theorem c_X4_axle (l : Launch) (D : va_G) (a : Nat → Nat) (k : Nat → ClassId) (sz : Nat) (B0 : Nat → Nat → Int32) (L0 : Int64) (R0 : Nat → Nat → Int32) (T0 : Nat → Nat → Int32) (U0 : Nat → Nat → Int32) (V0 : Nat → Nat → Int32) (p0 : Int32) (r : Int32) (Rz : (Nat → Nat → Int32)) (h : f_X4_axle R0 p0 = some (r, Rz)) : Met l yX4_axle wsX4_axle rm_X4_axle (mPc D [.ref (a 26), .int p0] (xX a k B0 L0 R0 T0 U0 V0) (tX k) sz) (mQi D (xX a k B0 L0 R0 T0 U0 V0) (xX a k B0 L0 Rz T0 U0 V0) sz r) 0 0 (va_A (xX a k B0 L0 R0 T0 U0 V0) sz) := by
  refine mk_met (cc := cX4_axle) (maxL := 2) (ret := (some .int)) (by decide) rfl (Nat.le_of_ble_eq_true rfl) ?_
  intro p e s m below meth c hx hb hr hml hts hown hmn hlocks hnw hsz hK hP hD hS hA ls hl
  obtain ⟨A, hAe⟩ : ∃ A, A = va_A (xX a k B0 L0 R0 T0 U0 V0) sz := ⟨_, rfl⟩
  rw [← hAe] at hD hS hA
  generalize hargs : List.toArray ([.ref (a 26), .int p0] : List Value) = args at hts ⊢
  generalize hQ : MQ below (mQi D (xX a k B0 L0 R0 T0 U0 V0) (xX a k B0 L0 Rz T0 U0 V0) sz r) args s 0 0 (va_A (xX a k B0 L0 R0 T0 U0 V0) sz) = Q
  have hl : lv_has ls 2 [(0, .ref (a 26)), (1, .int p0)] := hl
  have hin2 : ∀ w ∈ wsX20, w ∈ wsX4_axle := fun w h => List.mem_cons_of_mem _ (List.mem_append_right _ h)
  have hin4 : ∀ w ∈ wsX40, w ∈ wsX4_axle := fun w h => List.mem_cons_of_mem _ (List.mem_append_left _ (List.mem_append_right _ h))
  rw [f_X4_axle] at h
  obtain ⟨H, hH⟩ : ∃ H, H = s.heap := ⟨_, rfl⟩
  obtain ⟨locs, hlc⟩ : ∃ L : List Loc, L = [] := ⟨_, rfl⟩
  rw [← hH] at hP
  have hS : va_S A s.heap H locs := by rw [hH, hlc]; exact hS
  suffices hW9 : W p l e rm_X4_axle s m args below meth c H locs 0 0 Q (F0 m 0 ls []) by rw [hH, hlc] at hW9; exact hW9
  refine lv_iload_n hx hb dX4_axle_0 rfl (lv_at hl 1 rfl) ?_
  refine lv_iconst (v := (1 : Int32)) hx hb dX4_axle_1 (by decide) ?_
  refine lv_sipush (v := (250 : Int32)) hx hb dX4_axle_2 (by decide) ?_
  obtain ⟨r1, q1, h⟩ := b1_s h
  refine go_i (run_S (As := [.int p0, .int (1 : Int32), .int (250 : Int32)]) (rest := []) ⟨hx, hb, hml, hown, hts⟩ hnw hK hP hD (fr_X_E a k B0 L0 R0 T0 U0 V0) (ks_X_E k) (c_X4_within l D H.size p0 (1 : Int32) (250 : Int32) r1 q1) (cwS 3 hts gX4_axle_X4_within rfl rfl rfl (by decide +kernel) ⟨Nat.le_of_ble_eq_true rfl, Nat.le_of_ble_eq_true rfl⟩) rfl hl.1 rfl (Nat.le_of_ble_eq_true rfl) dX4_axle_5 ⟨Nat.zero_le _, Nat.zero_le _⟩) hP hD hS hA (fr_X_E a k B0 L0 R0 T0 U0 V0) (fun H locs hP hD hS => ?_)
  refine lv_if_ne (tgt := 13) hx hb dX4_axle_8 (by decide) (fun c2 => ?_) (fun c2 => ?_)
  · have h := it_f c2 h
    refine lv_aload_n hx hb dX4_axle_13 rfl (lv_at hl 0 rfl) ?_
    refine va_get (D := D) (ci := 4) (v := .ref (a 8)) (C := RX4) (T := TX4) (N := 8) hx hb hts hin4 hown hK hP 0 rfl rfl 1 (by decide) (hts (.fieldLink RX4 19 "BallastLine" "train" "LBallastLine$Train;") (List.mem_of_getElem? (i := 1) rfl)) (fun _ h9 => h9) rfl dX4_axle_14 ?_
    refine va_getN (host := RX4) (D := D) (ci := 2) (v := .int (R0 2 0)) (C := RX2) (T := TX2) (N := 3) hx hb hts hin2 hown hK hP 3 rfl rfl 2 (by decide) (va_Nw.use rfl (hnw.1 (RX4, 106, "BallastLine$Train", "axles", "I", RX4) (List.mem_of_getElem? (i := 12) rfl))) (fun _ h9 => h9) rfl dX4_axle_17 ?_
    refine lv_bipush (v := (20 : Int32)) hx hb dX4_axle_20 (by decide) ?_
    refine lv_icmp_lt (tgt := 28) hx hb dX4_axle_22 (by decide) (fun c3 => ?_) (fun c3 => ?_)
    · have h := it_t c3 h
      refine lv_aload_n hx hb dX4_axle_28 rfl (lv_at hl 0 rfl) ?_
      refine va_get (D := D) (ci := 4) (v := .ref (a 8)) (C := RX4) (T := TX4) (N := 8) hx hb hts hin4 hown hK hP 0 rfl rfl 1 (by decide) (hts (.fieldLink RX4 19 "BallastLine" "train" "LBallastLine$Train;") (List.mem_of_getElem? (i := 1) rfl)) (fun _ h9 => h9) rfl dX4_axle_29 ?_
      refine va_getN (host := RX4) (D := D) (ci := 2) (v := .ref (a 9)) (C := RX2) (T := TX2) (N := 3) hx hb hts hin2 hown hK hP 3 rfl rfl 0 (by decide) (va_Nw.use rfl (hnw.1 (RX4, 109, "BallastLine$Train", "weights", "[I", RX4) (List.mem_of_getElem? (i := 10) rfl))) (fun _ h9 => h9) rfl dX4_axle_32 ?_
      refine lv_aload_n hx hb dX4_axle_35 rfl (lv_at hl 0 rfl) ?_
      refine va_get (D := D) (ci := 4) (v := .ref (a 8)) (C := RX4) (T := TX4) (N := 8) hx hb hts hin4 hown hK hP 0 rfl rfl 1 (by decide) (hts (.fieldLink RX4 19 "BallastLine" "train" "LBallastLine$Train;") (List.mem_of_getElem? (i := 1) rfl)) (fun _ h9 => h9) rfl dX4_axle_36 ?_
      refine va_getN (host := RX4) (D := D) (ci := 2) (v := .int (R0 2 0)) (C := RX2) (T := TX2) (N := 3) hx hb hts hin2 hown hK hP 3 rfl rfl 2 (by decide) (va_Nw.use rfl (hnw.1 (RX4, 106, "BallastLine$Train", "axles", "I", RX4) (List.mem_of_getElem? (i := 12) rfl))) (fun _ h9 => h9) rfl dX4_axle_39 ?_
      refine lv_iload_n hx hb dX4_axle_42 rfl (lv_at hl 1 rfl) ?_
      obtain ⟨g4, h⟩ := gd_s h
      refine va_iast hx hb hK hP hD hS 4 2 rfl rfl (inb_in g4) dX4_axle_43 (fun H locs hP hD hS => ?_)
      obtain ⟨R_5, eR_5⟩ : ∃ y : Nat → Nat → Int32, y = st R0 0 (Int32.toNatClampNeg (R0 2 0)) p0 := ⟨_, rfl⟩
      have h := ltt_s eR_5 h
      have hP : va_P D vwCl (xX a k B0 L0 R_5 T0 U0 V0) H := by rw [eR_5]; exact hP
      have hD : va_D A (xX a k B0 L0 R_5 T0 U0 V0) := by rw [eR_5]; exact hD
      refine lv_aload_n hx hb dX4_axle_44 rfl (lv_at hl 0 rfl) ?_
      refine va_get (D := D) (ci := 4) (v := .ref (a 8)) (C := RX4) (T := TX4) (N := 8) hx hb hts hin4 hown hK hP 0 rfl rfl 1 (by decide) (hts (.fieldLink RX4 19 "BallastLine" "train" "LBallastLine$Train;") (List.mem_of_getElem? (i := 1) rfl)) (fun _ h9 => h9) rfl dX4_axle_45 ?_
      refine lv_dup hx hb dX4_axle_48 rfl ?_
      refine va_getN (host := RX4) (D := D) (ci := 2) (v := .int (R_5 2 0)) (C := RX2) (T := TX2) (N := 3) hx hb hts hin2 hown hK hP 3 rfl rfl 2 (by decide) (va_Nw.use rfl (hnw.1 (RX4, 106, "BallastLine$Train", "axles", "I", RX4) (List.mem_of_getElem? (i := 12) rfl))) (fun _ h9 => h9) rfl dX4_axle_49 ?_
      refine lv_iconst (v := (1 : Int32)) hx hb dX4_axle_52 (by decide) ?_
      refine lv_iadd hx hb dX4_axle_53 ?_
      refine va_putN (host := RX4) (D := D) (ci := 2) (v := .int ((R_5 2 0) + (1 : Int32))) (ty := .int) (C := RX2) (T := TX2) (N := 3) hx hb hts hin2 tyX2 tyX2_ok nmX2 hown hK hP hD hS 3 rfl rfl 2 (by decide) (va_Nw.use rfl (hnw.1 (RX4, 106, "BallastLine$Train", "axles", "I", RX4) (List.mem_of_getElem? (i := 12) rfl))) (fun _ h9 => h9) rfl (by decide +kernel) rfl rfl (Nat.le_of_ble_eq_true rfl) dX4_axle_54 (fun H locs hP hD hS => ?_)
      obtain ⟨R_6, eR_6⟩ : ∃ y : Nat → Nat → Int32, y = st R_5 2 0 ((R_5 2 0) + (1 : Int32)) := ⟨_, rfl⟩
      have h := ltt_s eR_6 h
      have hP : va_P D vwCl (xX a k B0 L0 R_6 T0 U0 V0) H := by rw [eR_6]; exact hP
      have hD : va_D A (xX a k B0 L0 R_6 T0 U0 V0) := by rw [eR_6]; exact hD
      refine lv_aload_n hx hb dX4_axle_57 rfl (lv_at hl 0 rfl) ?_
      refine va_get (D := D) (ci := 4) (v := .ref (a 8)) (C := RX4) (T := TX4) (N := 8) hx hb hts hin4 hown hK hP 0 rfl rfl 1 (by decide) (hts (.fieldLink RX4 19 "BallastLine" "train" "LBallastLine$Train;") (List.mem_of_getElem? (i := 1) rfl)) (fun _ h9 => h9) rfl dX4_axle_58 ?_
      refine va_getN (host := RX4) (D := D) (ci := 2) (v := .int (R_6 2 0)) (C := RX2) (T := TX2) (N := 3) hx hb hts hin2 hown hK hP 3 rfl rfl 2 (by decide) (va_Nw.use rfl (hnw.1 (RX4, 106, "BallastLine$Train", "axles", "I", RX4) (List.mem_of_getElem? (i := 12) rfl))) (fun _ h9 => h9) rfl dX4_axle_61 ?_
      have h := Option.some.inj h
      obtain ⟨hz0, h⟩ := Prod.mk.inj h
      have hP : va_P D vwCl (xX a k B0 L0 Rz T0 U0 V0) H := by rw [← h]; exact hP
      have hD : va_D A (xX a k B0 L0 Rz T0 U0 V0) := by rw [← h]; exact hD
      subst hQ
      subst hAe
      exact r_i hx hb hr hlocks hz0 hP hD hS dX4_axle_64
    · have h := it_f c3 h
      refine lv_bipush (v := (-2 : Int32)) hx hb dX4_axle_25 (by decide) ?_
      have h := Option.some.inj h
      obtain ⟨hz0, h⟩ := Prod.mk.inj h
      have hP : va_P D vwCl (xX a k B0 L0 Rz T0 U0 V0) H := by rw [← h]; exact hP
      have hD : va_D A (xX a k B0 L0 Rz T0 U0 V0) := by rw [← h]; exact hD
      subst hQ
      subst hAe
      exact r_i hx hb hr hlocks hz0 hP hD hS dX4_axle_27
  · have h := it_t c2 h
    refine lv_iconst (v := (-1 : Int32)) hx hb dX4_axle_11 (by decide) ?_
    have h := Option.some.inj h
    obtain ⟨hz0, h⟩ := Prod.mk.inj h
    have hP : va_P D vwCl (xX a k B0 L0 Rz T0 U0 V0) H := by rw [← h]; exact hP
    have hD : va_D A (xX a k B0 L0 Rz T0 U0 V0) := by rw [← h]; exact hD
    subst hQ
    subst hAe
    exact r_i hx hb hr hlocks hz0 hP hD hS dX4_axle_12
def f_X4_uncouple (R0 : Nat → Nat → Int32)  : Option (Int32 × (Nat → Nat → Int32)) := ltt ((R0 2 0)) (fun v1 => ltt (st R0 2 0 (0 : Int32)) (fun (R_2 : Nat → Nat → Int32) => some (v1, R_2)))
abbrev rm_X4_uncouple : Room := { frames := 0, cells := 0, slots := 0, locals := 0 }
set_option maxHeartbeats 4000000 in
set_option maxRecDepth 100000 in
theorem c_X4_uncouple (l : Launch) (D : va_G) (a : Nat → Nat) (k : Nat → ClassId) (sz : Nat) (B0 : Nat → Nat → Int32) (L0 : Int64) (R0 : Nat → Nat → Int32) (T0 : Nat → Nat → Int32) (U0 : Nat → Nat → Int32) (V0 : Nat → Nat → Int32)  (r : Int32) (Rz : (Nat → Nat → Int32)) (h : f_X4_uncouple R0 = some (r, Rz)) : Met l yX4_uncouple wsX4_uncouple rm_X4_uncouple (mPc D [.ref (a 26)] (xX a k B0 L0 R0 T0 U0 V0) (tX k) sz) (mQi D (xX a k B0 L0 R0 T0 U0 V0) (xX a k B0 L0 Rz T0 U0 V0) sz r) 0 0 (va_A (xX a k B0 L0 R0 T0 U0 V0) sz) := by
  refine mk_met (cc := cX4_uncouple) (maxL := 2) (ret := (some .int)) (by decide) rfl (Nat.le_of_ble_eq_true rfl) ?_
  intro p e s m below meth c hx hb hr hml hts hown hmn hlocks hnw hsz hK hP hD hS hA ls hl
  obtain ⟨A, hAe⟩ : ∃ A, A = va_A (xX a k B0 L0 R0 T0 U0 V0) sz := ⟨_, rfl⟩
  rw [← hAe] at hD hS hA
  generalize hargs : List.toArray ([.ref (a 26)] : List Value) = args at hts ⊢
  generalize hQ : MQ below (mQi D (xX a k B0 L0 R0 T0 U0 V0) (xX a k B0 L0 Rz T0 U0 V0) sz r) args s 0 0 (va_A (xX a k B0 L0 R0 T0 U0 V0) sz) = Q
  have hl : lv_has ls 2 [(0, .ref (a 26))] := hl
  have hin2 : ∀ w ∈ wsX20, w ∈ wsX4_uncouple := fun w h => List.mem_cons_of_mem _ (List.mem_append_right _ h)
  have hin4 : ∀ w ∈ wsX40, w ∈ wsX4_uncouple := fun w h => List.mem_cons_of_mem _ (List.mem_append_left _ (List.mem_append_right _ h))
  rw [f_X4_uncouple] at h
  obtain ⟨H, hH⟩ : ∃ H, H = s.heap := ⟨_, rfl⟩
  obtain ⟨locs, hlc⟩ : ∃ L : List Loc, L = [] := ⟨_, rfl⟩
  rw [← hH] at hP
  have hS : va_S A s.heap H locs := by rw [hH, hlc]; exact hS
  suffices hW9 : W p l e rm_X4_uncouple s m args below meth c H locs 0 0 Q (F0 m 0 ls []) by rw [hH, hlc] at hW9; exact hW9
  refine lv_aload_n hx hb dX4_uncouple_0 rfl (lv_at hl 0 rfl) ?_
  refine va_get (D := D) (ci := 4) (v := .ref (a 8)) (C := RX4) (T := TX4) (N := 8) hx hb hts hin4 hown hK hP 0 rfl rfl 1 (by decide) (hts (.fieldLink RX4 19 "BallastLine" "train" "LBallastLine$Train;") (List.mem_of_getElem? (i := 1) rfl)) (fun _ h9 => h9) rfl dX4_uncouple_1 ?_
  refine va_getN (host := RX4) (D := D) (ci := 2) (v := .int (R0 2 0)) (C := RX2) (T := TX2) (N := 3) hx hb hts hin2 hown hK hP 3 rfl rfl 2 (by decide) (va_Nw.use rfl (hnw.1 (RX4, 106, "BallastLine$Train", "axles", "I", RX4) (List.mem_of_getElem? (i := 12) rfl))) (fun _ h9 => h9) rfl dX4_uncouple_4 ?_
  refine lv_topi (fun v1 ev1 => ?_)
  have h := ltt_s ev1 h
  refine lv_istore_n (lv' := [(1, .int v1), (0, .ref (a 26))]) hx hb dX4_uncouple_7 rfl hl (by decide) rfl (fun ls hl => ?_)
  refine lv_aload_n hx hb dX4_uncouple_8 rfl (lv_at hl 1 rfl) ?_
  refine va_get (D := D) (ci := 4) (v := .ref (a 8)) (C := RX4) (T := TX4) (N := 8) hx hb hts hin4 hown hK hP 0 rfl rfl 1 (by decide) (hts (.fieldLink RX4 19 "BallastLine" "train" "LBallastLine$Train;") (List.mem_of_getElem? (i := 1) rfl)) (fun _ h9 => h9) rfl dX4_uncouple_9 ?_
  refine lv_iconst (v := (0 : Int32)) hx hb dX4_uncouple_12 (by decide) ?_
  refine va_putN (host := RX4) (D := D) (ci := 2) (v := .int (0 : Int32)) (ty := .int) (C := RX2) (T := TX2) (N := 3) hx hb hts hin2 tyX2 tyX2_ok nmX2 hown hK hP hD hS 3 rfl rfl 2 (by decide) (va_Nw.use rfl (hnw.1 (RX4, 106, "BallastLine$Train", "axles", "I", RX4) (List.mem_of_getElem? (i := 12) rfl))) (fun _ h9 => h9) rfl (by decide +kernel) rfl rfl (Nat.le_of_ble_eq_true rfl) dX4_uncouple_13 (fun H locs hP hD hS => ?_)
  obtain ⟨R_2, eR_2⟩ : ∃ y : Nat → Nat → Int32, y = st R0 2 0 (0 : Int32) := ⟨_, rfl⟩
  have h := ltt_s eR_2 h
  have hP : va_P D vwCl (xX a k B0 L0 R_2 T0 U0 V0) H := by rw [eR_2]; exact hP
  have hD : va_D A (xX a k B0 L0 R_2 T0 U0 V0) := by rw [eR_2]; exact hD
  refine lv_iload_n hx hb dX4_uncouple_16 rfl (lv_at hl 0 rfl) ?_
  have h := Option.some.inj h
  obtain ⟨hz0, h⟩ := Prod.mk.inj h
  have hP : va_P D vwCl (xX a k B0 L0 Rz T0 U0 V0) H := by rw [← h]; exact hP
  have hD : va_D A (xX a k B0 L0 Rz T0 U0 V0) := by rw [← h]; exact hD
  subst hQ
  subst hAe
  exact r_i hx hb hr hlocks hz0 hP hD hS dX4_uncouple_17
def f_X4_table (R0 : Nat → Nat → Int32) (p0 : Int32) (p1 : Int32) : Option (Int32 × (Nat → Nat → Int32)) := b1 (f_X4_within p0 (0 : Int32) (15 : Int32)) (fun r1 => if r1 = (0 : Int32) then (some ((-1 : Int32), R0)) else (gd (inb p0 16) (ltt ((R0 1 (Int32.toNatClampNeg p0))) (fun v4 => gd (inb p0 16) (ltt (st R0 1 (Int32.toNatClampNeg p0) (vp_nar .byte (Int8.toInt32 (Int32.toInt8 p1)))) (fun (R_6 : Nat → Nat → Int32) => some ((v4 + (1000 : Int32)), R_6)))))))
abbrev rm_X4_table : Room := { frames := 1, cells := 0, slots := 0, locals := 22 }
set_option maxHeartbeats 4000000 in
set_option maxRecDepth 100000 in
theorem c_X4_table (l : Launch) (D : va_G) (a : Nat → Nat) (k : Nat → ClassId) (sz : Nat) (B0 : Nat → Nat → Int32) (L0 : Int64) (R0 : Nat → Nat → Int32) (T0 : Nat → Nat → Int32) (U0 : Nat → Nat → Int32) (V0 : Nat → Nat → Int32) (p0 : Int32) (p1 : Int32) (r : Int32) (Rz : (Nat → Nat → Int32)) (h : f_X4_table R0 p0 p1 = some (r, Rz)) : Met l yX4_table wsX4_table rm_X4_table (mPc D [.ref (a 26), .int p0, .int p1] (xX a k B0 L0 R0 T0 U0 V0) (tX k) sz) (mQi D (xX a k B0 L0 R0 T0 U0 V0) (xX a k B0 L0 Rz T0 U0 V0) sz r) 0 0 (va_A (xX a k B0 L0 R0 T0 U0 V0) sz) := by
  refine mk_met (cc := cX4_table) (maxL := 4) (ret := (some .int)) (by decide) rfl (Nat.le_of_ble_eq_true rfl) ?_
  intro p e s m below meth c hx hb hr hml hts hown hmn hlocks hnw hsz hK hP hD hS hA ls hl
  obtain ⟨A, hAe⟩ : ∃ A, A = va_A (xX a k B0 L0 R0 T0 U0 V0) sz := ⟨_, rfl⟩
  rw [← hAe] at hD hS hA
  generalize hargs : List.toArray ([.ref (a 26), .int p0, .int p1] : List Value) = args at hts ⊢
  generalize hQ : MQ below (mQi D (xX a k B0 L0 R0 T0 U0 V0) (xX a k B0 L0 Rz T0 U0 V0) sz r) args s 0 0 (va_A (xX a k B0 L0 R0 T0 U0 V0) sz) = Q
  have hl : lv_has ls 4 [(0, .ref (a 26)), (1, .int p0), (2, .int p1)] := hl
  have hin2 : ∀ w ∈ wsX20, w ∈ wsX4_table := fun w h => List.mem_cons_of_mem _ (List.mem_append_right _ h)
  have hin4 : ∀ w ∈ wsX40, w ∈ wsX4_table := fun w h => List.mem_cons_of_mem _ (List.mem_append_left _ (List.mem_append_right _ h))
  rw [f_X4_table] at h
  obtain ⟨H, hH⟩ : ∃ H, H = s.heap := ⟨_, rfl⟩
  obtain ⟨locs, hlc⟩ : ∃ L : List Loc, L = [] := ⟨_, rfl⟩
  rw [← hH] at hP
  have hS : va_S A s.heap H locs := by rw [hH, hlc]; exact hS
  suffices hW9 : W p l e rm_X4_table s m args below meth c H locs 0 0 Q (F0 m 0 ls []) by rw [hH, hlc] at hW9; exact hW9
  refine lv_iload_n hx hb dX4_table_0 rfl (lv_at hl 1 rfl) ?_
  refine lv_iconst (v := (0 : Int32)) hx hb dX4_table_1 (by decide) ?_
  refine lv_bipush (v := (15 : Int32)) hx hb dX4_table_2 (by decide) ?_
  obtain ⟨r1, q1, h⟩ := b1_s h
  refine go_i (run_S (As := [.int p0, .int (0 : Int32), .int (15 : Int32)]) (rest := []) ⟨hx, hb, hml, hown, hts⟩ hnw hK hP hD (fr_X_E a k B0 L0 R0 T0 U0 V0) (ks_X_E k) (c_X4_within l D H.size p0 (0 : Int32) (15 : Int32) r1 q1) (cwS 3 hts gX4_table_X4_within rfl rfl rfl (by decide +kernel) ⟨Nat.le_of_ble_eq_true rfl, Nat.le_of_ble_eq_true rfl⟩) rfl hl.1 rfl (Nat.le_of_ble_eq_true rfl) dX4_table_4 ⟨Nat.zero_le _, Nat.zero_le _⟩) hP hD hS hA (fr_X_E a k B0 L0 R0 T0 U0 V0) (fun H locs hP hD hS => ?_)
  refine lv_if_ne (tgt := 12) hx hb dX4_table_7 (by decide) (fun c2 => ?_) (fun c2 => ?_)
  · have h := it_f c2 h
    refine lv_aload_n hx hb dX4_table_12 rfl (lv_at hl 0 rfl) ?_
    refine va_get (D := D) (ci := 4) (v := .ref (a 8)) (C := RX4) (T := TX4) (N := 8) hx hb hts hin4 hown hK hP 0 rfl rfl 1 (by decide) (hts (.fieldLink RX4 19 "BallastLine" "train" "LBallastLine$Train;") (List.mem_of_getElem? (i := 1) rfl)) (fun _ h9 => h9) rfl dX4_table_13 ?_
    refine va_getN (host := RX4) (D := D) (ci := 2) (v := .ref (a 10)) (C := RX2) (T := TX2) (N := 3) hx hb hts hin2 hown hK hP 3 rfl rfl 1 (by decide) (va_Nw.use rfl (hnw.1 (RX4, 112, "BallastLine$Train", "sinkings", "[B", RX4) (List.mem_of_getElem? (i := 11) rfl))) (fun _ h9 => h9) rfl dX4_table_16 ?_
    refine lv_iload_n hx hb dX4_table_19 rfl (lv_at hl 1 rfl) ?_
    obtain ⟨g3, h⟩ := gd_s h
    refine va_bald hx hb hK hP 5 3 rfl rfl (inb_in g3) dX4_table_20 ?_
    refine lv_topi (fun v4 ev4 => ?_)
    have h := ltt_s ev4 h
    refine lv_istore_n (lv' := [(3, .int v4), (0, .ref (a 26)), (1, .int p0), (2, .int p1)]) hx hb dX4_table_21 rfl hl (by decide) rfl (fun ls hl => ?_)
    refine lv_aload_n hx hb dX4_table_22 rfl (lv_at hl 1 rfl) ?_
    refine va_get (D := D) (ci := 4) (v := .ref (a 8)) (C := RX4) (T := TX4) (N := 8) hx hb hts hin4 hown hK hP 0 rfl rfl 1 (by decide) (hts (.fieldLink RX4 19 "BallastLine" "train" "LBallastLine$Train;") (List.mem_of_getElem? (i := 1) rfl)) (fun _ h9 => h9) rfl dX4_table_23 ?_
    refine va_getN (host := RX4) (D := D) (ci := 2) (v := .ref (a 10)) (C := RX2) (T := TX2) (N := 3) hx hb hts hin2 hown hK hP 3 rfl rfl 1 (by decide) (va_Nw.use rfl (hnw.1 (RX4, 112, "BallastLine$Train", "sinkings", "[B", RX4) (List.mem_of_getElem? (i := 11) rfl))) (fun _ h9 => h9) rfl dX4_table_26 ?_
    refine lv_iload_n hx hb dX4_table_29 rfl (lv_at hl 2 rfl) ?_
    refine lv_iload_n hx hb dX4_table_30 rfl (lv_at hl 3 rfl) ?_
    refine lv_i2b (v := (Int8.toInt32 (Int32.toInt8 p1))) hx hb dX4_table_31 rfl ?_
    obtain ⟨g5, h⟩ := gd_s h
    refine va_bast hx hb hK hP hD hS 5 3 rfl rfl (inb_in g5) dX4_table_32 (fun H locs hP hD hS => ?_)
    obtain ⟨R_6, eR_6⟩ : ∃ y : Nat → Nat → Int32, y = st R0 1 (Int32.toNatClampNeg p0) (vp_nar .byte (Int8.toInt32 (Int32.toInt8 p1))) := ⟨_, rfl⟩
    have h := ltt_s eR_6 h
    have hP : va_P D vwCl (xX a k B0 L0 R_6 T0 U0 V0) H := by rw [eR_6]; exact hP
    have hD : va_D A (xX a k B0 L0 R_6 T0 U0 V0) := by rw [eR_6]; exact hD
    refine lv_iload_n hx hb dX4_table_33 rfl (lv_at hl 0 rfl) ?_
    refine lv_sipush (v := (1000 : Int32)) hx hb dX4_table_34 (by decide) ?_
    refine lv_iadd hx hb dX4_table_37 ?_
    have h := Option.some.inj h
    obtain ⟨hz0, h⟩ := Prod.mk.inj h
    have hP : va_P D vwCl (xX a k B0 L0 Rz T0 U0 V0) H := by rw [← h]; exact hP
    have hD : va_D A (xX a k B0 L0 Rz T0 U0 V0) := by rw [← h]; exact hD
    subst hQ
    subst hAe
    exact r_i hx hb hr hlocks hz0 hP hD hS dX4_table_38
  · have h := it_t c2 h
    refine lv_iconst (v := (-1 : Int32)) hx hb dX4_table_10 (by decide) ?_
    have h := Option.some.inj h
    obtain ⟨hz0, h⟩ := Prod.mk.inj h
    have hP : va_P D vwCl (xX a k B0 L0 Rz T0 U0 V0) H := by rw [← h]; exact hP
    have hD : va_D A (xX a k B0 L0 Rz T0 U0 V0) := by rw [← h]; exact hD
    subst hQ
    subst hAe
    exact r_i hx hb hr hlocks hz0 hP hD hS dX4_table_11
def f_X4_pass (R0 : Nat → Nat → Int32) (T0 : Nat → Nat → Int32) (p0 : Int32) : Option (Int32 × (Nat → Nat → Int32)) := b1 (f_X4_within p0 (0 : Int32) (50 : Int32)) (fun r1 => if r1 = (0 : Int32) then (some ((-1 : Int32), T0)) else (if (R0 2 0) = (0 : Int32) then (some ((-4 : Int32), T0)) else (b2 (f_X2_roll R0 T0 p0) (fun r4 (T_4 : Nat → Nat → Int32) => some (r4, T_4)))))
abbrev rm_X4_pass : Room := { frames := 7, cells := 0, slots := 0, locals := 173 }
set_option maxHeartbeats 4000000 in
set_option maxRecDepth 100000 in
theorem c_X4_pass (l : Launch) (D : va_G) (a : Nat → Nat) (k : Nat → ClassId) (sz : Nat) (B0 : Nat → Nat → Int32) (L0 : Int64) (R0 : Nat → Nat → Int32) (T0 : Nat → Nat → Int32) (U0 : Nat → Nat → Int32) (V0 : Nat → Nat → Int32) (p0 : Int32) (r : Int32) (Tz : (Nat → Nat → Int32)) (h : f_X4_pass R0 T0 p0 = some (r, Tz)) : Met l yX4_pass wsX4_pass rm_X4_pass (mPc D [.ref (a 26), .int p0] (xX a k B0 L0 R0 T0 U0 V0) (tX k) sz) (mQi D (xX a k B0 L0 R0 T0 U0 V0) (xX a k B0 L0 R0 Tz U0 V0) sz r) 0 0 (va_A (xX a k B0 L0 R0 T0 U0 V0) sz) := by
  refine mk_met (cc := cX4_pass) (maxL := 2) (ret := (some .int)) (by decide) rfl (Nat.le_of_ble_eq_true rfl) ?_
  intro p e s m below meth c hx hb hr hml hts hown hmn hlocks hnw hsz hK hP hD hS hA ls hl
  obtain ⟨A, hAe⟩ : ∃ A, A = va_A (xX a k B0 L0 R0 T0 U0 V0) sz := ⟨_, rfl⟩
  rw [← hAe] at hD hS hA
  generalize hargs : List.toArray ([.ref (a 26), .int p0] : List Value) = args at hts ⊢
  generalize hQ : MQ below (mQi D (xX a k B0 L0 R0 T0 U0 V0) (xX a k B0 L0 R0 Tz U0 V0) sz r) args s 0 0 (va_A (xX a k B0 L0 R0 T0 U0 V0) sz) = Q
  have hl : lv_has ls 2 [(0, .ref (a 26)), (1, .int p0)] := hl
  have hin2 : ∀ w ∈ wsX20, w ∈ wsX4_pass := fun w h => List.mem_cons_of_mem _ (List.mem_append_left _ (List.mem_append_right _ h))
  have hin4 : ∀ w ∈ wsX40, w ∈ wsX4_pass := fun w h => List.mem_cons_of_mem _ (List.mem_append_left _ (List.mem_append_left _ (List.mem_append_right _ h)))
  rw [f_X4_pass] at h
  obtain ⟨H, hH⟩ : ∃ H, H = s.heap := ⟨_, rfl⟩
  obtain ⟨locs, hlc⟩ : ∃ L : List Loc, L = [] := ⟨_, rfl⟩
  rw [← hH] at hP
  have hS : va_S A s.heap H locs := by rw [hH, hlc]; exact hS
  suffices hW9 : W p l e rm_X4_pass s m args below meth c H locs 0 0 Q (F0 m 0 ls []) by rw [hH, hlc] at hW9; exact hW9
  refine lv_iload_n hx hb dX4_pass_0 rfl (lv_at hl 1 rfl) ?_
  refine lv_iconst (v := (0 : Int32)) hx hb dX4_pass_1 (by decide) ?_
  refine lv_bipush (v := (50 : Int32)) hx hb dX4_pass_2 (by decide) ?_
  obtain ⟨r1, q1, h⟩ := b1_s h
  refine go_i (run_S (As := [.int p0, .int (0 : Int32), .int (50 : Int32)]) (rest := []) ⟨hx, hb, hml, hown, hts⟩ hnw hK hP hD (fr_X_E a k B0 L0 R0 T0 U0 V0) (ks_X_E k) (c_X4_within l D H.size p0 (0 : Int32) (50 : Int32) r1 q1) (cwS 3 hts gX4_pass_X4_within rfl rfl rfl (by decide +kernel) ⟨Nat.le_of_ble_eq_true rfl, Nat.le_of_ble_eq_true rfl⟩) rfl hl.1 rfl (Nat.le_of_ble_eq_true rfl) dX4_pass_4 ⟨Nat.zero_le _, Nat.zero_le _⟩) hP hD hS hA (fr_X_E a k B0 L0 R0 T0 U0 V0) (fun H locs hP hD hS => ?_)
  refine lv_if_ne (tgt := 12) hx hb dX4_pass_7 (by decide) (fun c2 => ?_) (fun c2 => ?_)
  · have h := it_f c2 h
    refine lv_aload_n hx hb dX4_pass_12 rfl (lv_at hl 0 rfl) ?_
    refine va_get (D := D) (ci := 4) (v := .ref (a 8)) (C := RX4) (T := TX4) (N := 8) hx hb hts hin4 hown hK hP 0 rfl rfl 1 (by decide) (hts (.fieldLink RX4 19 "BallastLine" "train" "LBallastLine$Train;") (List.mem_of_getElem? (i := 1) rfl)) (fun _ h9 => h9) rfl dX4_pass_13 ?_
    refine va_getN (host := RX4) (D := D) (ci := 2) (v := .int (R0 2 0)) (C := RX2) (T := TX2) (N := 3) hx hb hts hin2 hown hK hP 3 rfl rfl 2 (by decide) (va_Nw.use rfl (hnw.1 (RX4, 106, "BallastLine$Train", "axles", "I", RX4) (List.mem_of_getElem? (i := 12) rfl))) (fun _ h9 => h9) rfl dX4_pass_16 ?_
    refine lv_if_ne (tgt := 25) hx hb dX4_pass_19 (by decide) (fun c3 => ?_) (fun c3 => ?_)
    · have h := it_f c3 h
      refine lv_aload_n hx hb dX4_pass_25 rfl (lv_at hl 0 rfl) ?_
      refine va_get (D := D) (ci := 4) (v := .ref (a 8)) (C := RX4) (T := TX4) (N := 8) hx hb hts hin4 hown hK hP 0 rfl rfl 1 (by decide) (hts (.fieldLink RX4 19 "BallastLine" "train" "LBallastLine$Train;") (List.mem_of_getElem? (i := 1) rfl)) (fun _ h9 => h9) rfl dX4_pass_26 ?_
      refine lv_aload_n hx hb dX4_pass_29 rfl (lv_at hl 0 rfl) ?_
      refine va_get (D := D) (ci := 4) (v := .ref (a 0)) (C := RX4) (T := TX4) (N := 8) hx hb hts hin4 hown hK hP 0 rfl rfl 0 (by decide) (hts (.fieldLink RX4 10 "BallastLine" "track" "LBallastLine$Track;") (List.mem_of_getElem? (i := 2) rfl)) (fun _ h9 => h9) rfl dX4_pass_30 ?_
      refine lv_iload_n hx hb dX4_pass_33 rfl (lv_at hl 1 rfl) ?_
      obtain ⟨r4, T_4, q4, h⟩ := b2_s h
      refine go_i (run_VN (As := [.ref (a 0), .int p0]) (rest := []) ⟨hx, hb, hml, hown, hts⟩ hnw hK hP hD (fr_X_R a k B0 L0 R0 T0 U0 V0 R0 T_4) (ks_X_R k) (c_X2_roll l D a k H.size R0 T0 p0 r4 T_4 q4) ⟨va_cnB 2 hts ggX4_pass_X2_roll rfl rfl rfl (hnw.2 (RX4, 116, yX2_roll, RX4) (List.mem_of_getElem? (i := 11) rfl)) (hts (.initialized RX2) (List.mem_of_getElem? (i := 8) rfl)) (by decide +kernel) ⟨Nat.le_of_ble_eq_true rfl, Nat.le_of_ble_eq_true rfl⟩, (hts (.instanceMethod yX2_roll) (List.mem_of_getElem? (i := 7) rfl)), (hts (.selects RX2 yX2_roll yX2_roll) (List.mem_of_getElem? (i := 9) rfl))⟩ (rcv_R a k R0 T0) rfl hl.1 rfl (Nat.le_of_ble_eq_true rfl) dX4_pass_34 ⟨Nat.zero_le _, Nat.zero_le _⟩) hP hD hS hA (fr_X_R a k B0 L0 R0 T0 U0 V0 R0 T_4) (fun H locs hP hD hS => ?_)
      have h := Option.some.inj h
      obtain ⟨hz0, h⟩ := Prod.mk.inj h
      have hP : va_P D vwCl (xX a k B0 L0 R0 Tz U0 V0) H := by rw [← h]; exact hP
      have hD : va_D A (xX a k B0 L0 R0 Tz U0 V0) := by rw [← h]; exact hD
      subst hQ
      subst hAe
      exact r_i hx hb hr hlocks hz0 hP hD hS dX4_pass_37
    · have h := it_t c3 h
      refine lv_bipush (v := (-4 : Int32)) hx hb dX4_pass_22 (by decide) ?_
      have h := Option.some.inj h
      obtain ⟨hz0, h⟩ := Prod.mk.inj h
      have hP : va_P D vwCl (xX a k B0 L0 R0 Tz U0 V0) H := by rw [← h]; exact hP
      have hD : va_D A (xX a k B0 L0 R0 Tz U0 V0) := by rw [← h]; exact hD
      subst hQ
      subst hAe
      exact r_i hx hb hr hlocks hz0 hP hD hS dX4_pass_24
  · have h := it_t c2 h
    refine lv_iconst (v := (-1 : Int32)) hx hb dX4_pass_10 (by decide) ?_
    have h := Option.some.inj h
    obtain ⟨hz0, h⟩ := Prod.mk.inj h
    have hP : va_P D vwCl (xX a k B0 L0 R0 Tz U0 V0) H := by rw [← h]; exact hP
    have hD : va_D A (xX a k B0 L0 R0 Tz U0 V0) := by rw [← h]; exact hD
    subst hQ
    subst hAe
    exact r_i hx hb hr hlocks hz0 hP hD hS dX4_pass_11
