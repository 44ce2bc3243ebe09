def f_X5_rail (M0 : Nat → Nat → Int32) (L0 : Int64) (p0 : Int32) : Option (Int32 × Int64) := b1 (f_X5_isSleeper M0 p0) (fun r1 => if r1 = (0 : Int32) then (some ((-1 : Int32), L0)) else (b1 (f_X5_railAt M0 p0) (fun r3 => b2 (f_X5_tell L0 (Int32.toInt64 r3) (1 : Int32)) (fun r4 (L_4 : Int64) => some (r4, L_4)))))
abbrev rm_X5_rail : Room := { frames := 3, cells := 0, slots := 0, locals := 69 }
set_option maxHeartbeats 4000000 in
set_option maxRecDepth 100000 in
theorem c_X5_rail (l : Launch) (D : va_G) (a : Nat → Nat) (k : Nat → ClassId) (sz : Nat) (M0 : Nat → Nat → Int32) (L0 : Int64) (p0 : Int32) (r : Int32) (Lz : Int64) (h : f_X5_rail M0 L0 p0 = some (r, Lz)) : Met l yX5_rail wsX5_rail rm_X5_rail (mPc D [.ref (a 0), .int p0] (xM a k M0 L0) (tM k) sz) (mQi D (xM a k M0 L0) (xM a k M0 Lz) sz r) 0 0 (va_A (xM a k M0 L0) sz) := by
  refine mk_met (cc := cX5_rail) (maxL := 2) (ret := (some .int)) (by decide) rfl (Nat.le_of_ble_eq_true rfl) ?_
  intro p e s m below meth c hx hb hr hml hts hown hmn hlocks hnw hsz hK hP hD hS hA ls hl
  obtain ⟨A, hAe⟩ : ∃ A, A = va_A (xM a k M0 L0) sz := ⟨_, rfl⟩
  rw [← hAe] at hD hS hA
  generalize hargs : List.toArray ([.ref (a 0), .int p0] : List Value) = args at hts ⊢
  generalize hQ : MQ below (mQi D (xM a k M0 L0) (xM a k M0 Lz) sz r) args s 0 0 (va_A (xM a k M0 L0) sz) = Q
  have hl : lv_has ls 2 [(0, .ref (a 0)), (1, .int p0)] := hl
  rw [f_X5_rail] at h
  obtain ⟨H, hH⟩ : ∃ H, H = s.heap := ⟨_, rfl⟩
  obtain ⟨locs, hlc⟩ : ∃ L : List Loc, L = [] := ⟨_, rfl⟩
  rw [← hH] at hP
  have hS : va_S A s.heap H locs := by rw [hH, hlc]; exact hS
  suffices hW9 : W p l e rm_X5_rail s m args below meth c H locs 0 0 Q (F0 m 0 ls []) by rw [hH, hlc] at hW9; exact hW9
  refine lv_aload_n hx hb dX5_rail_0 rfl (lv_at hl 0 rfl) ?_
  refine lv_iload_n hx hb dX5_rail_1 rfl (lv_at hl 1 rfl) ?_
  obtain ⟨r1, q1, h⟩ := b1_s h
  refine go_i (run_V (As := [.int p0]) (rest := []) ⟨hx, hb, hml, hown, hts⟩ hnw hK hP hD (fr_M_M a k M0 L0 M0 L0) (ks_M_M k) (c_X5_isSleeper l D a k H.size M0 L0 p0 r1 q1) (cwV 1 hts gX5_rail_X5_isSleeper rfl rfl rfl (by decide +kernel) ⟨Nat.le_of_ble_eq_true rfl, Nat.le_of_ble_eq_true rfl⟩) (rcv_M a k M0 L0) rfl hl.1 rfl (Nat.le_of_ble_eq_true rfl) dX5_rail_2 ⟨Nat.zero_le _, Nat.zero_le _⟩) hP hD hS hA (fr_M_M a k M0 L0 M0 L0) (fun H locs hP hD hS => ?_)
  refine lv_if_eq (tgt := 22) hx hb dX5_rail_5 (by decide) (fun c2 => ?_) (fun c2 => ?_)
  · have h := it_t c2 h
    refine lv_iconst (v := (-1 : Int32)) hx hb dX5_rail_22 (by decide) ?_
    have h := Option.some.inj h
    obtain ⟨hz0, h⟩ := Prod.mk.inj h
    have hP : va_P D vwCl (xM a k M0 Lz) H := by rw [← h]; exact hP
    have hD : va_D A (xM a k M0 Lz) := by rw [← h]; exact hD
    subst hQ
    subst hAe
    exact r_i hx hb hr hlocks hz0 hP hD hS dX5_rail_23
  · have h := it_f c2 h
    refine lv_aload_n hx hb dX5_rail_8 rfl (lv_at hl 0 rfl) ?_
    refine lv_aload_n hx hb dX5_rail_9 rfl (lv_at hl 0 rfl) ?_
    refine lv_iload_n hx hb dX5_rail_10 rfl (lv_at hl 1 rfl) ?_
    obtain ⟨r3, q3, h⟩ := b1_s h
    refine go_i (run_V (As := [.int p0]) (rest := [.ref (a 0)]) ⟨hx, hb, hml, hown, hts⟩ hnw hK hP hD (fr_M_M a k M0 L0 M0 L0) (ks_M_M k) (c_X5_railAt l D a k H.size M0 L0 p0 r3 q3) (cwV 1 hts gX5_rail_X5_railAt rfl rfl rfl (by decide +kernel) ⟨Nat.le_of_ble_eq_true rfl, Nat.le_of_ble_eq_true rfl⟩) (rcv_M a k M0 L0) rfl hl.1 rfl (Nat.le_of_ble_eq_true rfl) dX5_rail_11 ⟨Nat.zero_le _, Nat.zero_le _⟩) hP hD hS hA (fr_M_M a k M0 L0 M0 L0) (fun H locs hP hD hS => ?_)
    refine lv_i2l (v := (Int32.toInt64 r3)) hx hb dX5_rail_14 rfl ?_
    refine lv_iconst (v := (1 : Int32)) hx hb dX5_rail_15 (by decide) ?_
    obtain ⟨r4, L_4, q4, h⟩ := b2_s h
    refine go_i (run_V (As := [.long (Int32.toInt64 r3), .int (1 : Int32)]) (rest := []) ⟨hx, hb, hml, hown, hts⟩ hnw hK hP hD (fr_M_M a k M0 L0 M0 L_4) (ks_M_M k) (c_X5_tell l D a k H.size M0 L0 (Int32.toInt64 r3) (1 : Int32) r4 L_4 q4) (cwV 2 hts gX5_rail_X5_tell rfl rfl rfl (by decide +kernel) ⟨Nat.le_of_ble_eq_true rfl, Nat.le_of_ble_eq_true rfl⟩) (rcv_M a k M0 L0) rfl hl.1 rfl (Nat.le_of_ble_eq_true rfl) dX5_rail_16 ⟨Nat.zero_le _, Nat.zero_le _⟩) hP hD hS hA (fr_M_M a k M0 L0 M0 L_4) (fun H locs hP hD hS => ?_)
    refine lv_goto (tgt := 23) hx hb dX5_rail_19 (by decide) ?_
    have h := Option.some.inj h
    obtain ⟨hz0, h⟩ := Prod.mk.inj h
    have hP : va_P D vwCl (xM a k M0 Lz) H := by rw [← h]; exact hP
    have hD : va_D A (xM a k M0 Lz) := by rw [← h]; exact hD
    subst hQ
    subst hAe
    exact r_i hx hb hr hlocks hz0 hP hD hS dX5_rail_23
def f_X5_gap (M0 : Nat → Nat → Int32) (p0 : Int32) : Option (Int32 × (Nat → Nat → Int32)) := b2 (f_X5_looked M0 p0) (fun r1 (M_1 : Nat → Nat → Int32) => if (0 : Int32) ≤ r1 then (b1 (f_X5_railAt M_1 p0) (fun r3 => gd (inb p0 40) (some ((r3 - (M_1 5 (Int32.toNatClampNeg p0))), M_1)))) else (some (r1, M_1)))
abbrev rm_X5_gap : Room := { frames := 3, cells := 0, slots := 0, locals := 69 }
set_option maxHeartbeats 4000000 in
set_option maxRecDepth 100000 in
theorem c_X5_gap (l : Launch) (D : va_G) (a : Nat → Nat) (k : Nat → ClassId) (sz : Nat) (M0 : Nat → Nat → Int32) (L0 : Int64) (p0 : Int32) (r : Int32) (Mz : (Nat → Nat → Int32)) (h : f_X5_gap M0 p0 = some (r, Mz)) : Met l yX5_gap wsX5_gap rm_X5_gap (mPc D [.ref (a 0), .int p0] (xM a k M0 L0) (tM k) sz) (mQi D (xM a k M0 L0) (xM a k Mz L0) sz r) 0 0 (va_A (xM a k M0 L0) sz) := by
  refine mk_met (cc := cX5_gap) (maxL := 3) (ret := (some .int)) (by decide) rfl (Nat.le_of_ble_eq_true rfl) ?_
  intro p e s m below meth c hx hb hr hml hts hown hmn hlocks hnw hsz hK hP hD hS hA ls hl
  obtain ⟨A, hAe⟩ : ∃ A, A = va_A (xM a k M0 L0) sz := ⟨_, rfl⟩
  rw [← hAe] at hD hS hA
  generalize hargs : List.toArray ([.ref (a 0), .int p0] : List Value) = args at hts ⊢
  generalize hQ : MQ below (mQi D (xM a k M0 L0) (xM a k Mz L0) sz r) args s 0 0 (va_A (xM a k M0 L0) sz) = Q
  have hl : lv_has ls 3 [(0, .ref (a 0)), (1, .int p0)] := hl
  have hin5 : ∀ w ∈ wsX50, w ∈ wsX5_gap := fun w h => List.mem_cons_of_mem _ (List.mem_append_right _ h)
  rw [f_X5_gap] at h
  obtain ⟨H, hH⟩ : ∃ H, H = s.heap := ⟨_, rfl⟩
  obtain ⟨locs, hlc⟩ : ∃ L : List Loc, L = [] := ⟨_, rfl⟩
  rw [← hH] at hP
  have hS : va_S A s.heap H locs := by rw [hH, hlc]; exact hS
  suffices hW9 : W p l e rm_X5_gap s m args below meth c H locs 0 0 Q (F0 m 0 ls []) by rw [hH, hlc] at hW9; exact hW9
  refine lv_aload_n hx hb dX5_gap_0 rfl (lv_at hl 0 rfl) ?_
  refine lv_iload_n hx hb dX5_gap_1 rfl (lv_at hl 1 rfl) ?_
  obtain ⟨r1, M_1, q1, h⟩ := b2_s h
  refine go_i (run_V (As := [.int p0]) (rest := []) ⟨hx, hb, hml, hown, hts⟩ hnw hK hP hD (fr_M_M a k M0 L0 M_1 L0) (ks_M_M k) (c_X5_looked l D a k H.size M0 L0 p0 r1 M_1 q1) (cwV 1 hts gX5_gap_X5_looked rfl rfl rfl (by decide +kernel) ⟨Nat.le_of_ble_eq_true rfl, Nat.le_of_ble_eq_true rfl⟩) (rcv_M a k M0 L0) rfl hl.1 rfl (Nat.le_of_ble_eq_true rfl) dX5_gap_2 ⟨Nat.zero_le _, Nat.zero_le _⟩) hP hD hS hA (fr_M_M a k M0 L0 M_1 L0) (fun H locs hP hD hS => ?_)
  refine lv_istore_n (lv' := [(2, .int r1), (0, .ref (a 0)), (1, .int p0)]) hx hb dX5_gap_5 rfl hl (by decide) rfl (fun ls hl => ?_)
  refine lv_iload_n hx hb dX5_gap_6 rfl (lv_at hl 0 rfl) ?_
  refine lv_if_ge (tgt := 14) hx hb dX5_gap_7 (by decide) (fun c2 => ?_) (fun c2 => ?_)
  · have h := it_t c2 h
    refine lv_aload_n hx hb dX5_gap_14 rfl (lv_at hl 1 rfl) ?_
    refine lv_iload_n hx hb dX5_gap_15 rfl (lv_at hl 2 rfl) ?_
    obtain ⟨r3, q3, h⟩ := b1_s h
    refine go_i (run_V (As := [.int p0]) (rest := []) ⟨hx, hb, hml, hown, hts⟩ hnw hK hP hD (fr_M_M a k M_1 L0 M_1 L0) (ks_M_M k) (c_X5_railAt l D a k H.size M_1 L0 p0 r3 q3) (cwV 1 hts gX5_gap_X5_railAt rfl rfl rfl (by decide +kernel) ⟨Nat.le_of_ble_eq_true rfl, Nat.le_of_ble_eq_true rfl⟩) (rcv_M a k M_1 L0) rfl hl.1 rfl (Nat.le_of_ble_eq_true rfl) dX5_gap_16 ⟨Nat.zero_le _, Nat.zero_le _⟩) hP hD hS hA (fr_M_M a k M_1 L0 M_1 L0) (fun H locs hP hD hS => ?_)
    refine lv_aload_n hx hb dX5_gap_19 rfl (lv_at hl 1 rfl) ?_
    refine va_get (D := D) (ci := 5) (v := .ref (a 3)) (C := RX5) (T := TX5) (N := 20) hx hb hts hin5 hown hK hP 0 rfl rfl 5 (by decide) (hts (.fieldLink RX5 16 "BallastLineModel" "beds" "[I") (List.mem_of_getElem? (i := 1) rfl)) (fun _ h9 => h9) rfl dX5_gap_20 ?_
    refine lv_iload_n hx hb dX5_gap_23 rfl (lv_at hl 2 rfl) ?_
    obtain ⟨g4, h⟩ := gd_s h
    refine va_iald hx hb hK hP 3 2 rfl rfl (inb_in g4) dX5_gap_24 ?_
    refine lv_isub hx hb dX5_gap_25 ?_
    have h := Option.some.inj h
    obtain ⟨hz0, h⟩ := Prod.mk.inj h
    have hP : va_P D vwCl (xM a k Mz L0) H := by rw [← h]; exact hP
    have hD : va_D A (xM a k Mz L0) := by rw [← h]; exact hD
    subst hQ
    subst hAe
    exact r_i hx hb hr hlocks hz0 hP hD hS dX5_gap_26
  · have h := it_f c2 h
    refine lv_iload_n hx hb dX5_gap_10 rfl (lv_at hl 0 rfl) ?_
    refine lv_goto (tgt := 26) hx hb dX5_gap_11 (by decide) ?_
    have h := Option.some.inj h
    obtain ⟨hz0, h⟩ := Prod.mk.inj h
    have hP : va_P D vwCl (xM a k Mz L0) H := by rw [← h]; exact hP
    have hD : va_D A (xM a k Mz L0) := by rw [← h]; exact hD
    subst hQ
    subst hAe
    exact r_i hx hb hr hlocks hz0 hP hD hS dX5_gap_26
def f_X5_axle (M0 : Nat → Nat → Int32) (p0 : Int32) : Option (Int32 × (Nat → Nat → Int32)) := b1 (f_X5_in p0 (1 : Int32) (250 : Int32)) (fun r1 => if r1 = (0 : Int32) then (some ((-1 : Int32), M0)) else (if (M0 11 0) = (20 : Int32) then (some ((-2 : Int32), M0)) else (gd (inb (M0 11 0) 20) (ltt (st M0 12 (Int32.toNatClampNeg (M0 11 0)) p0) (fun (M_5 : Nat → Nat → Int32) => ltt (st M_5 11 0 ((M_5 11 0) + (1 : Int32))) (fun (M_6 : Nat → Nat → Int32) => some ((M_6 11 0), M_6)))))))
abbrev rm_X5_axle : Room := { frames := 1, cells := 0, slots := 0, locals := 22 }
set_option maxHeartbeats 4000000 in
set_option maxRecDepth 100000 in
theorem c_X5_axle (l : Launch) (D : va_G) (a : Nat → Nat) (k : Nat → ClassId) (sz : Nat) (M0 : Nat → Nat → Int32) (L0 : Int64) (p0 : Int32) (r : Int32) (Mz : (Nat → Nat → Int32)) (h : f_X5_axle M0 p0 = some (r, Mz)) : Met l yX5_axle wsX5_axle rm_X5_axle (mPc D [.ref (a 0), .int p0] (xM a k M0 L0) (tM k) sz) (mQi D (xM a k M0 L0) (xM a k Mz L0) sz r) 0 0 (va_A (xM a k M0 L0) sz) := by
  refine mk_met (cc := cX5_axle) (maxL := 2) (ret := (some .int)) (by decide) rfl (Nat.le_of_ble_eq_true rfl) ?_
  intro p e s m below meth c hx hb hr hml hts hown hmn hlocks hnw hsz hK hP hD hS hA ls hl
  obtain ⟨A, hAe⟩ : ∃ A, A = va_A (xM a k M0 L0) sz := ⟨_, rfl⟩
  rw [← hAe] at hD hS hA
  generalize hargs : List.toArray ([.ref (a 0), .int p0] : List Value) = args at hts ⊢
  generalize hQ : MQ below (mQi D (xM a k M0 L0) (xM a k Mz L0) sz r) args s 0 0 (va_A (xM a k M0 L0) sz) = Q
  have hl : lv_has ls 2 [(0, .ref (a 0)), (1, .int p0)] := hl
  have hin5 : ∀ w ∈ wsX50, w ∈ wsX5_axle := fun w h => List.mem_cons_of_mem _ (List.mem_append_right _ h)
  rw [f_X5_axle] at h
  obtain ⟨H, hH⟩ : ∃ H, H = s.heap := ⟨_, rfl⟩
  obtain ⟨locs, hlc⟩ : ∃ L : List Loc, L = [] := ⟨_, rfl⟩
  rw [← hH] at hP
  have hS : va_S A s.heap H locs := by rw [hH, hlc]; exact hS
  suffices hW9 : W p l e rm_X5_axle s m args below meth c H locs 0 0 Q (F0 m 0 ls []) by rw [hH, hlc] at hW9; exact hW9
  refine lv_iload_n hx hb dX5_axle_0 rfl (lv_at hl 1 rfl) ?_
  refine lv_iconst (v := (1 : Int32)) hx hb dX5_axle_1 (by decide) ?_
  refine lv_sipush (v := (250 : Int32)) hx hb dX5_axle_2 (by decide) ?_
  obtain ⟨r1, q1, h⟩ := b1_s h
  refine go_i (run_S (As := [.int p0, .int (1 : Int32), .int (250 : Int32)]) (rest := []) ⟨hx, hb, hml, hown, hts⟩ hnw hK hP hD (fr_M_E a k M0 L0) (ks_M_E k) (c_X5_in l D H.size p0 (1 : Int32) (250 : Int32) r1 q1) (cwS 3 hts gX5_axle_X5_in rfl rfl rfl (by decide +kernel) ⟨Nat.le_of_ble_eq_true rfl, Nat.le_of_ble_eq_true rfl⟩) rfl hl.1 rfl (Nat.le_of_ble_eq_true rfl) dX5_axle_5 ⟨Nat.zero_le _, Nat.zero_le _⟩) hP hD hS hA (fr_M_E a k M0 L0) (fun H locs hP hD hS => ?_)
  refine lv_if_ne (tgt := 13) hx hb dX5_axle_8 (by decide) (fun c2 => ?_) (fun c2 => ?_)
  · have h := it_f c2 h
    refine lv_aload_n hx hb dX5_axle_13 rfl (lv_at hl 0 rfl) ?_
    refine va_get (D := D) (ci := 5) (v := .int (M0 11 0)) (C := RX5) (T := TX5) (N := 20) hx hb hts hin5 hown hK hP 0 rfl rfl 11 (by decide) (hts (.fieldLink RX5 99 "BallastLineModel" "axles" "I") (List.mem_of_getElem? (i := 1) rfl)) (fun _ h9 => h9) rfl dX5_axle_14 ?_
    refine lv_bipush (v := (20 : Int32)) hx hb dX5_axle_17 (by decide) ?_
    refine lv_icmp_ne (tgt := 25) hx hb dX5_axle_19 (by decide) (fun c3 => ?_) (fun c3 => ?_)
    · have h := it_f c3 h
      refine lv_aload_n hx hb dX5_axle_25 rfl (lv_at hl 0 rfl) ?_
      refine va_get (D := D) (ci := 5) (v := .ref (a 9)) (C := RX5) (T := TX5) (N := 20) hx hb hts hin5 hown hK hP 0 rfl rfl 12 (by decide) (hts (.fieldLink RX5 35 "BallastLineModel" "weights" "[I") (List.mem_of_getElem? (i := 2) rfl)) (fun _ h9 => h9) rfl dX5_axle_26 ?_
      refine lv_aload_n hx hb dX5_axle_29 rfl (lv_at hl 0 rfl) ?_
      refine va_get (D := D) (ci := 5) (v := .int (M0 11 0)) (C := RX5) (T := TX5) (N := 20) hx hb hts hin5 hown hK hP 0 rfl rfl 11 (by decide) (hts (.fieldLink RX5 99 "BallastLineModel" "axles" "I") (List.mem_of_getElem? (i := 1) rfl)) (fun _ h9 => h9) rfl dX5_axle_30 ?_
      refine lv_iload_n hx hb dX5_axle_33 rfl (lv_at hl 1 rfl) ?_
      obtain ⟨g4, h⟩ := gd_s h
      refine va_iast hx hb hK hP hD hS 9 8 rfl rfl (inb_in g4) dX5_axle_34 (fun H locs hP hD hS => ?_)
      obtain ⟨M_5, eM_5⟩ : ∃ y : Nat → Nat → Int32, y = st M0 12 (Int32.toNatClampNeg (M0 11 0)) p0 := ⟨_, rfl⟩
      have h := ltt_s eM_5 h
      have hP : va_P D vwCl (xM a k M_5 L0) H := by rw [eM_5]; exact hP
      have hD : va_D A (xM a k M_5 L0) := by rw [eM_5]; exact hD
      refine lv_aload_n hx hb dX5_axle_35 rfl (lv_at hl 0 rfl) ?_
      refine lv_dup hx hb dX5_axle_36 rfl ?_
      refine va_get (D := D) (ci := 5) (v := .int (M_5 11 0)) (C := RX5) (T := TX5) (N := 20) hx hb hts hin5 hown hK hP 0 rfl rfl 11 (by decide) (hts (.fieldLink RX5 99 "BallastLineModel" "axles" "I") (List.mem_of_getElem? (i := 1) rfl)) (fun _ h9 => h9) rfl dX5_axle_37 ?_
      refine lv_iconst (v := (1 : Int32)) hx hb dX5_axle_40 (by decide) ?_
      refine lv_iadd hx hb dX5_axle_41 ?_
      refine va_put (D := D) (ci := 5) (v := .int ((M_5 11 0) + (1 : Int32))) (ty := .int) (C := RX5) (T := TX5) (N := 20) hx hb hts hin5 tyX5 tyX5_ok nmX5 hown hK hP hD hS 0 rfl rfl 11 (by decide) (hts (.fieldLink RX5 99 "BallastLineModel" "axles" "I") (List.mem_of_getElem? (i := 1) rfl)) (fun _ h9 => h9) rfl (by decide +kernel) rfl rfl (Nat.le_of_ble_eq_true rfl) dX5_axle_42 (fun H locs hP hD hS => ?_)
      obtain ⟨M_6, eM_6⟩ : ∃ y : Nat → Nat → Int32, y = st M_5 11 0 ((M_5 11 0) + (1 : Int32)) := ⟨_, rfl⟩
      have h := ltt_s eM_6 h
      have hP : va_P D vwCl (xM a k M_6 L0) H := by rw [eM_6]; exact hP
      have hD : va_D A (xM a k M_6 L0) := by rw [eM_6]; exact hD
      refine lv_aload_n hx hb dX5_axle_45 rfl (lv_at hl 0 rfl) ?_
      refine va_get (D := D) (ci := 5) (v := .int (M_6 11 0)) (C := RX5) (T := TX5) (N := 20) hx hb hts hin5 hown hK hP 0 rfl rfl 11 (by decide) (hts (.fieldLink RX5 99 "BallastLineModel" "axles" "I") (List.mem_of_getElem? (i := 1) rfl)) (fun _ h9 => h9) rfl dX5_axle_46 ?_
      have h := Option.some.inj h
      obtain ⟨hz0, h⟩ := Prod.mk.inj h
      have hP : va_P D vwCl (xM a k Mz L0) H := by rw [← h]; exact hP
      have hD : va_D A (xM a k Mz L0) := by rw [← h]; exact hD
      subst hQ
      subst hAe
      exact r_i hx hb hr hlocks hz0 hP hD hS dX5_axle_49
    · have h := it_t c3 h
      refine lv_bipush (v := (-2 : Int32)) hx hb dX5_axle_22 (by decide) ?_
      have h := Option.some.inj h
      obtain ⟨hz0, h⟩ := Prod.mk.inj h
      have hP : va_P D vwCl (xM a k Mz L0) H := by rw [← h]; exact hP
      have hD : va_D A (xM a k Mz L0) := by rw [← h]; exact hD
      subst hQ
      subst hAe
      exact r_i hx hb hr hlocks hz0 hP hD hS dX5_axle_24
  · have h := it_t c2 h
    refine lv_iconst (v := (-1 : Int32)) hx hb dX5_axle_11 (by decide) ?_
    have h := Option.some.inj h
    obtain ⟨hz0, h⟩ := Prod.mk.inj h
    have hP : va_P D vwCl (xM a k Mz L0) H := by rw [← h]; exact hP
    have hD : va_D A (xM a k Mz L0) := by rw [← h]; exact hD
    subst hQ
    subst hAe
    exact r_i hx hb hr hlocks hz0 hP hD hS dX5_axle_12
def f_X5_uncouple (M0 : Nat → Nat → Int32)  : Option (Int32 × (Nat → Nat → Int32)) := ltt ((M0 11 0)) (fun v1 => ltt (st M0 11 0 (0 : Int32)) (fun (M_2 : Nat → Nat → Int32) => some (v1, M_2)))
abbrev rm_X5_uncouple : Room := { frames := 0, cells := 0, slots := 0, locals := 0 }
set_option maxHeartbeats 4000000 in
set_option maxRecDepth 100000 in
theorem c_X5_uncouple (l : Launch) (D : va_G) (a : Nat → Nat) (k : Nat → ClassId) (sz : Nat) (M0 : Nat → Nat → Int32) (L0 : Int64)  (r : Int32) (Mz : (Nat → Nat → Int32)) (h : f_X5_uncouple M0 = some (r, Mz)) : Met l yX5_uncouple wsX5_uncouple rm_X5_uncouple (mPc D [.ref (a 0)] (xM a k M0 L0) (tM k) sz) (mQi D (xM a k M0 L0) (xM a k Mz L0) sz r) 0 0 (va_A (xM a k M0 L0) sz) := by
  refine mk_met (cc := cX5_uncouple) (maxL := 2) (ret := (some .int)) (by decide) rfl (Nat.le_of_ble_eq_true rfl) ?_
  intro p e s m below meth c hx hb hr hml hts hown hmn hlocks hnw hsz hK hP hD hS hA ls hl
  obtain ⟨A, hAe⟩ : ∃ A, A = va_A (xM a k M0 L0) sz := ⟨_, rfl⟩
  rw [← hAe] at hD hS hA
  generalize hargs : List.toArray ([.ref (a 0)] : List Value) = args at hts ⊢
  generalize hQ : MQ below (mQi D (xM a k M0 L0) (xM a k Mz L0) sz r) args s 0 0 (va_A (xM a k M0 L0) sz) = Q
  have hl : lv_has ls 2 [(0, .ref (a 0))] := hl
  have hin5 : ∀ w ∈ wsX50, w ∈ wsX5_uncouple := fun w h => List.mem_cons_of_mem _ (List.mem_append_right _ h)
  rw [f_X5_uncouple] at h
  obtain ⟨H, hH⟩ : ∃ H, H = s.heap := ⟨_, rfl⟩
  obtain ⟨locs, hlc⟩ : ∃ L : List Loc, L = [] := ⟨_, rfl⟩
  rw [← hH] at hP
  have hS : va_S A s.heap H locs := by rw [hH, hlc]; exact hS
  suffices hW9 : W p l e rm_X5_uncouple s m args below meth c H locs 0 0 Q (F0 m 0 ls []) by rw [hH, hlc] at hW9; exact hW9
  refine lv_aload_n hx hb dX5_uncouple_0 rfl (lv_at hl 0 rfl) ?_
  refine va_get (D := D) (ci := 5) (v := .int (M0 11 0)) (C := RX5) (T := TX5) (N := 20) hx hb hts hin5 hown hK hP 0 rfl rfl 11 (by decide) (hts (.fieldLink RX5 99 "BallastLineModel" "axles" "I") (List.mem_of_getElem? (i := 1) rfl)) (fun _ h9 => h9) rfl dX5_uncouple_1 ?_
  refine lv_topi (fun v1 ev1 => ?_)
  have h := ltt_s ev1 h
  refine lv_istore_n (lv' := [(1, .int v1), (0, .ref (a 0))]) hx hb dX5_uncouple_4 rfl hl (by decide) rfl (fun ls hl => ?_)
  refine lv_aload_n hx hb dX5_uncouple_5 rfl (lv_at hl 1 rfl) ?_
  refine lv_iconst (v := (0 : Int32)) hx hb dX5_uncouple_6 (by decide) ?_
  refine va_put (D := D) (ci := 5) (v := .int (0 : Int32)) (ty := .int) (C := RX5) (T := TX5) (N := 20) hx hb hts hin5 tyX5 tyX5_ok nmX5 hown hK hP hD hS 0 rfl rfl 11 (by decide) (hts (.fieldLink RX5 99 "BallastLineModel" "axles" "I") (List.mem_of_getElem? (i := 1) rfl)) (fun _ h9 => h9) rfl (by decide +kernel) rfl rfl (Nat.le_of_ble_eq_true rfl) dX5_uncouple_7 (fun H locs hP hD hS => ?_)
  obtain ⟨M_2, eM_2⟩ : ∃ y : Nat → Nat → Int32, y = st M0 11 0 (0 : Int32) := ⟨_, rfl⟩
  have h := ltt_s eM_2 h
  have hP : va_P D vwCl (xM a k M_2 L0) H := by rw [eM_2]; exact hP
  have hD : va_D A (xM a k M_2 L0) := by rw [eM_2]; exact hD
  refine lv_iload_n hx hb dX5_uncouple_10 rfl (lv_at hl 0 rfl) ?_
  have h := Option.some.inj h
  obtain ⟨hz0, h⟩ := Prod.mk.inj h
  have hP : va_P D vwCl (xM a k Mz L0) H := by rw [← h]; exact hP
  have hD : va_D A (xM a k Mz L0) := by rw [← h]; exact hD
  subst hQ
  subst hAe
  exact r_i hx hb hr hlocks hz0 hP hD hS dX5_uncouple_11
def f_X5_table (M0 : Nat → Nat → Int32) (p0 : Int32) (p1 : Int32) : Option (Int32 × (Nat → Nat → Int32)) := b1 (f_X5_in p0 (0 : Int32) (15 : Int32)) (fun r1 => if r1 = (0 : Int32) then (some ((-1 : Int32), M0)) else (gd (inb p0 16) (ltt ((M0 13 (Int32.toNatClampNeg p0))) (fun v4 => gd (inb p0 16) (ltt (st M0 13 (Int32.toNatClampNeg p0) (Int8.toInt32 (Int32.toInt8 p1))) (fun (M_6 : Nat → Nat → Int32) => some ((v4 + (1000 : Int32)), M_6)))))))
abbrev rm_X5_table : Room := { frames := 1, cells := 0, slots := 0, locals := 22 }
set_option maxHeartbeats 4000000 in
set_option maxRecDepth 100000 in
theorem c_X5_table (l : Launch) (D : va_G) (a : Nat → Nat) (k : Nat → ClassId) (sz : Nat) (M0 : Nat → Nat → Int32) (L0 : Int64) (p0 : Int32) (p1 : Int32) (r : Int32) (Mz : (Nat → Nat → Int32)) (h : f_X5_table M0 p0 p1 = some (r, Mz)) : Met l yX5_table wsX5_table rm_X5_table (mPc D [.ref (a 0), .int p0, .int p1] (xM a k M0 L0) (tM k) sz) (mQi D (xM a k M0 L0) (xM a k Mz L0) sz r) 0 0 (va_A (xM a k M0 L0) sz) := by
  refine mk_met (cc := cX5_table) (maxL := 4) (ret := (some .int)) (by decide) rfl (Nat.le_of_ble_eq_true rfl) ?_
  intro p e s m below meth c hx hb hr hml hts hown hmn hlocks hnw hsz hK hP hD hS hA ls hl
  obtain ⟨A, hAe⟩ : ∃ A, A = va_A (xM a k M0 L0) sz := ⟨_, rfl⟩
  rw [← hAe] at hD hS hA
  generalize hargs : List.toArray ([.ref (a 0), .int p0, .int p1] : List Value) = args at hts ⊢
  generalize hQ : MQ below (mQi D (xM a k M0 L0) (xM a k Mz L0) sz r) args s 0 0 (va_A (xM a k M0 L0) sz) = Q
  have hl : lv_has ls 4 [(0, .ref (a 0)), (1, .int p0), (2, .int p1)] := hl
  have hin5 : ∀ w ∈ wsX50, w ∈ wsX5_table := fun w h => List.mem_cons_of_mem _ (List.mem_append_right _ h)
  rw [f_X5_table] at h
  obtain ⟨H, hH⟩ : ∃ H, H = s.heap := ⟨_, rfl⟩
  obtain ⟨locs, hlc⟩ : ∃ L : List Loc, L = [] := ⟨_, rfl⟩
  rw [← hH] at hP
  have hS : va_S A s.heap H locs := by rw [hH, hlc]; exact hS
  suffices hW9 : W p l e rm_X5_table s m args below meth c H locs 0 0 Q (F0 m 0 ls []) by rw [hH, hlc] at hW9; exact hW9
  refine lv_iload_n hx hb dX5_table_0 rfl (lv_at hl 1 rfl) ?_
  refine lv_iconst (v := (0 : Int32)) hx hb dX5_table_1 (by decide) ?_
  refine lv_bipush (v := (15 : Int32)) hx hb dX5_table_2 (by decide) ?_
  obtain ⟨r1, q1, h⟩ := b1_s h
  refine go_i (run_S (As := [.int p0, .int (0 : Int32), .int (15 : Int32)]) (rest := []) ⟨hx, hb, hml, hown, hts⟩ hnw hK hP hD (fr_M_E a k M0 L0) (ks_M_E k) (c_X5_in l D H.size p0 (0 : Int32) (15 : Int32) r1 q1) (cwS 3 hts gX5_table_X5_in rfl rfl rfl (by decide +kernel) ⟨Nat.le_of_ble_eq_true rfl, Nat.le_of_ble_eq_true rfl⟩) rfl hl.1 rfl (Nat.le_of_ble_eq_true rfl) dX5_table_4 ⟨Nat.zero_le _, Nat.zero_le _⟩) hP hD hS hA (fr_M_E a k M0 L0) (fun H locs hP hD hS => ?_)
  refine lv_if_ne (tgt := 12) hx hb dX5_table_7 (by decide) (fun c2 => ?_) (fun c2 => ?_)
  · have h := it_f c2 h
    refine lv_aload_n hx hb dX5_table_12 rfl (lv_at hl 0 rfl) ?_
    refine va_get (D := D) (ci := 5) (v := .ref (a 10)) (C := RX5) (T := TX5) (N := 20) hx hb hts hin5 hown hK hP 0 rfl rfl 13 (by decide) (hts (.fieldLink RX5 38 "BallastLineModel" "table" "[I") (List.mem_of_getElem? (i := 1) rfl)) (fun _ h9 => h9) rfl dX5_table_13 ?_
    refine lv_iload_n hx hb dX5_table_16 rfl (lv_at hl 1 rfl) ?_
    obtain ⟨g3, h⟩ := gd_s h
    refine va_iald hx hb hK hP 10 9 rfl rfl (inb_in g3) dX5_table_17 ?_
    refine lv_topi (fun v4 ev4 => ?_)
    have h := ltt_s ev4 h
    refine lv_istore_n (lv' := [(3, .int v4), (0, .ref (a 0)), (1, .int p0), (2, .int p1)]) hx hb dX5_table_18 rfl hl (by decide) rfl (fun ls hl => ?_)
    refine lv_aload_n hx hb dX5_table_19 rfl (lv_at hl 1 rfl) ?_
    refine va_get (D := D) (ci := 5) (v := .ref (a 10)) (C := RX5) (T := TX5) (N := 20) hx hb hts hin5 hown hK hP 0 rfl rfl 13 (by decide) (hts (.fieldLink RX5 38 "BallastLineModel" "table" "[I") (List.mem_of_getElem? (i := 1) rfl)) (fun _ h9 => h9) rfl dX5_table_20 ?_
    refine lv_iload_n hx hb dX5_table_23 rfl (lv_at hl 2 rfl) ?_
    refine lv_iload_n hx hb dX5_table_24 rfl (lv_at hl 3 rfl) ?_
    refine lv_i2b (v := (Int8.toInt32 (Int32.toInt8 p1))) hx hb dX5_table_25 rfl ?_
    obtain ⟨g5, h⟩ := gd_s h
    refine va_iast hx hb hK hP hD hS 10 9 rfl rfl (inb_in g5) dX5_table_26 (fun H locs hP hD hS => ?_)
    obtain ⟨M_6, eM_6⟩ : ∃ y : Nat → Nat → Int32, y = st M0 13 (Int32.toNatClampNeg p0) (Int8.toInt32 (Int32.toInt8 p1)) := ⟨_, rfl⟩
    have h := ltt_s eM_6 h
    have hP : va_P D vwCl (xM a k M_6 L0) H := by rw [eM_6]; exact hP
    have hD : va_D A (xM a k M_6 L0) := by rw [eM_6]; exact hD
    refine lv_iload_n hx hb dX5_table_27 rfl (lv_at hl 0 rfl) ?_
    refine lv_sipush (v := (1000 : Int32)) hx hb dX5_table_28 (by decide) ?_
    refine lv_iadd hx hb dX5_table_31 ?_
    have h := Option.some.inj h
    obtain ⟨hz0, h⟩ := Prod.mk.inj h
    have hP : va_P D vwCl (xM a k Mz L0) H := by rw [← h]; exact hP
    have hD : va_D A (xM a k Mz L0) := by rw [← h]; exact hD
    subst hQ
    subst hAe
    exact r_i hx hb hr hlocks hz0 hP hD hS dX5_table_32
  · have h := it_t c2 h
    refine lv_iconst (v := (-1 : Int32)) hx hb dX5_table_10 (by decide) ?_
    have h := Option.some.inj h
    obtain ⟨hz0, h⟩ := Prod.mk.inj h
    have hP : va_P D vwCl (xM a k Mz L0) H := by rw [← h]; exact hP
    have hD : va_D A (xM a k Mz L0) := by rw [← h]; exact hD
    subst hQ
    subst hAe
    exact r_i hx hb hr hlocks hz0 hP hD hS dX5_table_11
def f_X5_bears (M0 : Nat → Nat → Int32) (p0 : Int32) : Option (Int32) := b1 (f_X5_isSleeper M0 p0) (fun r1 => if r1 = (0 : Int32) then (some (0 : Int32)) else (gd (inb p0 40) (if (M0 9 (Int32.toNatClampNeg p0)) = (0 : Int32) then (b1 (f_X5_railAt M0 p0) (fun r5 => gd (inb p0 40) (if r5 = (M0 5 (Int32.toNatClampNeg p0)) then (some (1 : Int32)) else (some (0 : Int32))))) else (some (0 : Int32)))))
abbrev rm_X5_bears : Room := { frames := 3, cells := 0, slots := 0, locals := 69 }
set_option maxHeartbeats 4000000 in
set_option maxRecDepth 100000 in
theorem c_X5_bears (l : Launch) (D : va_G) (a : Nat → Nat) (k : Nat → ClassId) (sz : Nat) (M0 : Nat → Nat → Int32) (L0 : Int64) (p0 : Int32) (r : Int32) (h : f_X5_bears M0 p0 = some r) : Met l yX5_bears wsX5_bears rm_X5_bears (mPc D [.ref (a 0), .int p0] (xM a k M0 L0) (tM k) sz) (mQi D (xM a k M0 L0) (xM a k M0 L0) sz r) 0 0 (va_A (xM a k M0 L0) sz) := by
  refine mk_met (cc := cX5_bears) (maxL := 2) (ret := (some .boolean)) (by decide) rfl (Nat.le_of_ble_eq_true rfl) ?_
  intro p e s m below meth c hx hb hr hml hts hown hmn hlocks hnw hsz hK hP hD hS hA ls hl
  obtain ⟨A, hAe⟩ : ∃ A, A = va_A (xM a k M0 L0) sz := ⟨_, rfl⟩
  rw [← hAe] at hD hS hA
  generalize hargs : List.toArray ([.ref (a 0), .int p0] : List Value) = args at hts ⊢
  generalize hQ : MQ below (mQi D (xM a k M0 L0) (xM a k M0 L0) sz r) args s 0 0 (va_A (xM a k M0 L0) sz) = Q
  have hl : lv_has ls 2 [(0, .ref (a 0)), (1, .int p0)] := hl
  have hin5 : ∀ w ∈ wsX50, w ∈ wsX5_bears := fun w h => List.mem_cons_of_mem _ (List.mem_append_right _ h)
  rw [f_X5_bears] at h
  obtain ⟨H, hH⟩ : ∃ H, H = s.heap := ⟨_, rfl⟩
  obtain ⟨locs, hlc⟩ : ∃ L : List Loc, L = [] := ⟨_, rfl⟩
  rw [← hH] at hP
  have hS : va_S A s.heap H locs := by rw [hH, hlc]; exact hS
  suffices hW9 : W p l e rm_X5_bears s m args below meth c H locs 0 0 Q (F0 m 0 ls []) by rw [hH, hlc] at hW9; exact hW9
  refine lv_aload_n hx hb dX5_bears_0 rfl (lv_at hl 0 rfl) ?_
  refine lv_iload_n hx hb dX5_bears_1 rfl (lv_at hl 1 rfl) ?_
  obtain ⟨r1, q1, h⟩ := b1_s h
  refine go_i (run_V (As := [.int p0]) (rest := []) ⟨hx, hb, hml, hown, hts⟩ hnw hK hP hD (fr_M_M a k M0 L0 M0 L0) (ks_M_M k) (c_X5_isSleeper l D a k H.size M0 L0 p0 r1 q1) (cwV 1 hts gX5_bears_X5_isSleeper rfl rfl rfl (by decide +kernel) ⟨Nat.le_of_ble_eq_true rfl, Nat.le_of_ble_eq_true rfl⟩) (rcv_M a k M0 L0) rfl hl.1 rfl (Nat.le_of_ble_eq_true rfl) dX5_bears_2 ⟨Nat.zero_le _, Nat.zero_le _⟩) hP hD hS hA (fr_M_M a k M0 L0 M0 L0) (fun H locs hP hD hS => ?_)
  refine lv_if_eq (tgt := 35) hx hb dX5_bears_5 (by decide) (fun c2 => ?_) (fun c2 => ?_)
  · have h := it_t c2 h
    refine lv_iconst (v := (0 : Int32)) hx hb dX5_bears_35 (by decide) ?_
    have h := Option.some.inj h
    subst hQ
    subst hAe
    exact r_z hx hb hr rfl hlocks h hP hD hS dX5_bears_36
  · have h := it_f c2 h
    refine lv_aload_n hx hb dX5_bears_8 rfl (lv_at hl 0 rfl) ?_
    refine va_get (D := D) (ci := 5) (v := .ref (a 7)) (C := RX5) (T := TX5) (N := 20) hx hb hts hin5 hown hK hP 0 rfl rfl 9 (by decide) (hts (.fieldLink RX5 28 "BallastLineModel" "isLost" "[Z") (List.mem_of_getElem? (i := 1) rfl)) (fun _ h9 => h9) rfl dX5_bears_9 ?_
    refine lv_iload_n hx hb dX5_bears_12 rfl (lv_at hl 1 rfl) ?_
    obtain ⟨g3, h⟩ := gd_s h
    refine va_zald hx hb hK hP 7 6 rfl rfl (inb_in g3) dX5_bears_13 ?_
    refine lv_if_ne (tgt := 35) hx hb dX5_bears_14 (by decide) (fun c4 => ?_) (fun c4 => ?_)
    · have h := it_f c4 h
      refine lv_iconst (v := (0 : Int32)) hx hb dX5_bears_35 (by decide) ?_
      have h := Option.some.inj h
      subst hQ
      subst hAe
      exact r_z hx hb hr rfl hlocks h hP hD hS dX5_bears_36
    · have h := it_t c4 h
      refine lv_aload_n hx hb dX5_bears_17 rfl (lv_at hl 0 rfl) ?_
      refine lv_iload_n hx hb dX5_bears_18 rfl (lv_at hl 1 rfl) ?_
      obtain ⟨r5, q5, h⟩ := b1_s h
      refine go_i (run_V (As := [.int p0]) (rest := []) ⟨hx, hb, hml, hown, hts⟩ hnw hK hP hD (fr_M_M a k M0 L0 M0 L0) (ks_M_M k) (c_X5_railAt l D a k H.size M0 L0 p0 r5 q5) (cwV 1 hts gX5_bears_X5_railAt rfl rfl rfl (by decide +kernel) ⟨Nat.le_of_ble_eq_true rfl, Nat.le_of_ble_eq_true rfl⟩) (rcv_M a k M0 L0) rfl hl.1 rfl (Nat.le_of_ble_eq_true rfl) dX5_bears_19 ⟨Nat.zero_le _, Nat.zero_le _⟩) hP hD hS hA (fr_M_M a k M0 L0 M0 L0) (fun H locs hP hD hS => ?_)
      refine lv_aload_n hx hb dX5_bears_22 rfl (lv_at hl 0 rfl) ?_
      refine va_get (D := D) (ci := 5) (v := .ref (a 3)) (C := RX5) (T := TX5) (N := 20) hx hb hts hin5 hown hK hP 0 rfl rfl 5 (by decide) (hts (.fieldLink RX5 16 "BallastLineModel" "beds" "[I") (List.mem_of_getElem? (i := 2) rfl)) (fun _ h9 => h9) rfl dX5_bears_23 ?_
      refine lv_iload_n hx hb dX5_bears_26 rfl (lv_at hl 1 rfl) ?_
      obtain ⟨g6, h⟩ := gd_s h
      refine va_iald hx hb hK hP 3 2 rfl rfl (inb_in g6) dX5_bears_27 ?_
      refine lv_icmp_ne (tgt := 35) hx hb dX5_bears_28 (by decide) (fun c7 => ?_) (fun c7 => ?_)
      · have h := it_f c7 h
        refine lv_iconst (v := (0 : Int32)) hx hb dX5_bears_35 (by decide) ?_
        have h := Option.some.inj h
        subst hQ
        subst hAe
        exact r_z hx hb hr rfl hlocks h hP hD hS dX5_bears_36
      · have h := it_t c7 h
        refine lv_iconst (v := (1 : Int32)) hx hb dX5_bears_31 (by decide) ?_
        refine lv_goto (tgt := 36) hx hb dX5_bears_32 (by decide) ?_
        have h := Option.some.inj h
        subst hQ
        subst hAe
        exact r_z hx hb hr rfl hlocks h hP hD hS dX5_bears_36
def f_X5_sink_J85  (p0 : Int32) (p1 : Int32)  (s0 : Int32) (s1 : Int32) (M : Nat → Nat → Int32) : Option (Int32 × (Nat → Nat → Int32)) := ltt ((s1 + s0)) (fun v1 => gd (inb p0 40) (gd (inb p0 40) (ltt (st M 7 (Int32.toNatClampNeg p0) ((M 7 (Int32.toNatClampNeg p0)) + v1)) (fun (M_4 : Nat → Nat → Int32) => gd (inb p0 40) (gd (nz32 (100 : Int32)) (ltt (((M_4 7 (Int32.toNatClampNeg p0)) / (100 : Int32))) (fun v7 => gd (inb p0 40) (gd (inb p0 40) (ltt (st M_4 7 (Int32.toNatClampNeg p0) ((M_4 7 (Int32.toNatClampNeg p0)) - ((100 : Int32) * v7))) (fun (M_10 : Nat → Nat → Int32) => gd (inb p0 40) (gd (inb p0 40) (ltt (st M_10 5 (Int32.toNatClampNeg p0) ((M_10 5 (Int32.toNatClampNeg p0)) - v7)) (fun (M_13 : Nat → Nat → Int32) => some (v7, M_13))))))))))))))
def f_X5_sink_J46  (p0 : Int32) (p1 : Int32)  (s0 : Int32) (M : Nat → Nat → Int32) : Option (Int32 × (Nat → Nat → Int32)) := gd (inb p0 40) (if (M 4 (Int32.toNatClampNeg p0)) = (2 : Int32) then (gd (nz32 (4 : Int32)) (f_X5_sink_J85 p0 p1 (s0 / (4 : Int32)) s0 M)) else (gd (inb p0 40) (if (M 4 (Int32.toNatClampNeg p0)) = (0 : Int32) then (f_X5_sink_J85 p0 p1 (0 : Int32) s0 M) else (gd (nz32 (4 : Int32)) (f_X5_sink_J85 p0 p1 (-(s0 / (4 : Int32))) s0 M)))))
def f_X5_sink_J26  (p0 : Int32) (p1 : Int32)  (s0 : Int32) (M : Nat → Nat → Int32) : Option (Int32 × (Nat → Nat → Int32)) := gd (inb s0 16) (if (0 : Int32) ≤ (M 13 (Int32.toNatClampNeg s0)) then (gd (inb s0 16) (f_X5_sink_J46 p0 p1 (M 13 (Int32.toNatClampNeg s0)) M)) else (f_X5_sink_J46 p0 p1 (0 : Int32) M))
def f_X5_sink (M0 : Nat → Nat → Int32) (p0 : Int32) (p1 : Int32) : Option (Int32 × (Nat → Nat → Int32)) := gd (inb p0 40) (gd (nz32 (M0 6 (Int32.toNatClampNeg p0))) (if (p1 / (M0 6 (Int32.toNatClampNeg p0))) ≤ (15 : Int32) then (gd (inb p0 40) (gd (nz32 (M0 6 (Int32.toNatClampNeg p0))) (f_X5_sink_J26 p0 p1 (p1 / (M0 6 (Int32.toNatClampNeg p0))) M0))) else (f_X5_sink_J26 p0 p1 (15 : Int32) M0)))
abbrev rm_X5_sink : Room := { frames := 0, cells := 0, slots := 0, locals := 0 }
set_option maxHeartbeats 4000000 in
set_option maxRecDepth 100000 in
theorem c_X5_sink (l : Launch) (D : va_G) (a : Nat → Nat) (k : Nat → ClassId) (sz : Nat) (M0 : Nat → Nat → Int32) (L0 : Int64) (p0 : Int32) (p1 : Int32) (r : Int32) (Mz : (Nat → Nat → Int32)) (h : f_X5_sink M0 p0 p1 = some (r, Mz)) : Met l yX5_sink wsX5_sink rm_X5_sink (mPc D [.ref (a 0), .int p0, .int p1] (xM a k M0 L0) (tM k) sz) (mQi D (xM a k M0 L0) (xM a k Mz L0) sz r) 0 0 (va_A (xM a k M0 L0) sz) := by
  refine mk_met (cc := cX5_sink) (maxL := 6) (ret := (some .int)) (by decide) rfl (Nat.le_of_ble_eq_true rfl) ?_
  intro p e s m below meth c hx hb hr hml hts hown hmn hlocks hnw hsz hK hP hD hS hA ls hl
  obtain ⟨A, hAe⟩ : ∃ A, A = va_A (xM a k M0 L0) sz := ⟨_, rfl⟩
  rw [← hAe] at hD hS hA
  generalize hargs : List.toArray ([.ref (a 0), .int p0, .int p1] : List Value) = args at hts ⊢
  generalize hQ : MQ below (mQi D (xM a k M0 L0) (xM a k Mz L0) sz r) args s 0 0 (va_A (xM a k M0 L0) sz) = Q
  have hl : lv_has ls 6 [(0, .ref (a 0)), (1, .int p0), (2, .int p1)] := hl
  have hin5 : ∀ w ∈ wsX50, w ∈ wsX5_sink := fun w h => List.mem_cons_of_mem _ (List.mem_append_right _ h)
  have lb85 : ∀ (s0 : Int32) (s1 : Int32) (M : Nat → Nat → Int32), ∀ (H : Heap) (locs : List Loc), va_P D vwCl (xM a k M L0) H → va_D A (xM a k M L0) → va_S A s.heap H locs → ∀ ls : Array Slot, lv_has ls 6 [(0, .ref (a 0)), (1, .int p0)] → f_X5_sink_J85 p0 p1 s0 s1 M = some (r, Mz) → W p l e rm_X5_sink s m args below meth c H locs 0 0 Q (F0 m 85 ls [.int s0, .int s1]) := by
    intro  s0 s1 M H locs hP hD hS ls hl h
    rw [f_X5_sink_J85] at h
    refine lv_iadd hx hb dX5_sink_85 ?_
    refine lv_topi (fun v1 ev1 => ?_)
    have h := ltt_s ev1 h
    refine lv_istore (lv' := [(4, .int v1), (0, .ref (a 0)), (1, .int p0)]) hx hb dX5_sink_86 hl (by decide) rfl (fun ls hl => ?_)
    refine lv_aload_n hx hb dX5_sink_88 rfl (lv_at hl 1 rfl) ?_
    refine va_get (D := D) (ci := 5) (v := .ref (a 5)) (C := RX5) (T := TX5) (N := 20) hx hb hts hin5 hown hK hP 0 rfl rfl 7 (by decide) (hts (.fieldLink RX5 22 "BallastLineModel" "hundredths" "[I") (List.mem_of_getElem? (i := 4) rfl)) (fun _ h9 => h9) rfl dX5_sink_89 ?_
    refine lv_iload_n hx hb dX5_sink_92 rfl (lv_at hl 2 rfl) ?_
    refine lv_dup2_11 hx hb dX5_sink_93 rfl rfl ?_
    obtain ⟨g2, h⟩ := gd_s h
    refine va_iald hx hb hK hP 5 4 rfl rfl (inb_in g2) dX5_sink_94 ?_
    refine lv_iload hx hb dX5_sink_95 (lv_at hl 0 rfl) ?_
    refine lv_iadd hx hb dX5_sink_97 ?_
    obtain ⟨g3, h⟩ := gd_s h
    refine va_iast hx hb hK hP hD hS 5 4 rfl rfl (inb_in g3) dX5_sink_98 (fun H locs hP hD hS => ?_)
    obtain ⟨M_4, eM_4⟩ : ∃ y : Nat → Nat → Int32, y = st M 7 (Int32.toNatClampNeg p0) ((M 7 (Int32.toNatClampNeg p0)) + v1) := ⟨_, rfl⟩
    have h := ltt_s eM_4 h
    have hP : va_P D vwCl (xM a k M_4 L0) H := by rw [eM_4]; exact hP
    have hD : va_D A (xM a k M_4 L0) := by rw [eM_4]; exact hD
    refine lv_aload_n hx hb dX5_sink_99 rfl (lv_at hl 1 rfl) ?_
    refine va_get (D := D) (ci := 5) (v := .ref (a 5)) (C := RX5) (T := TX5) (N := 20) hx hb hts hin5 hown hK hP 0 rfl rfl 7 (by decide) (hts (.fieldLink RX5 22 "BallastLineModel" "hundredths" "[I") (List.mem_of_getElem? (i := 4) rfl)) (fun _ h9 => h9) rfl dX5_sink_100 ?_
    refine lv_iload_n hx hb dX5_sink_103 rfl (lv_at hl 2 rfl) ?_
    obtain ⟨g5, h⟩ := gd_s h
    refine va_iald hx hb hK hP 5 4 rfl rfl (inb_in g5) dX5_sink_104 ?_
    refine lv_bipush (v := (100 : Int32)) hx hb dX5_sink_105 (by decide) ?_
    obtain ⟨g6, h⟩ := gd_s h
    refine lv_idiv hx hb dX5_sink_107 (nz32_s g6) ?_
    refine lv_topi (fun v7 ev7 => ?_)
    have h := ltt_s ev7 h
    refine lv_istore (lv' := [(5, .int v7), (4, .int v1), (0, .ref (a 0)), (1, .int p0)]) hx hb dX5_sink_108 hl (by decide) rfl (fun ls hl => ?_)
    refine lv_aload_n hx hb dX5_sink_110 rfl (lv_at hl 2 rfl) ?_
    refine va_get (D := D) (ci := 5) (v := .ref (a 5)) (C := RX5) (T := TX5) (N := 20) hx hb hts hin5 hown hK hP 0 rfl rfl 7 (by decide) (hts (.fieldLink RX5 22 "BallastLineModel" "hundredths" "[I") (List.mem_of_getElem? (i := 4) rfl)) (fun _ h9 => h9) rfl dX5_sink_111 ?_
    refine lv_iload_n hx hb dX5_sink_114 rfl (lv_at hl 3 rfl) ?_
    refine lv_dup2_11 hx hb dX5_sink_115 rfl rfl ?_
    obtain ⟨g8, h⟩ := gd_s h
    refine va_iald hx hb hK hP 5 4 rfl rfl (inb_in g8) dX5_sink_116 ?_
    refine lv_bipush (v := (100 : Int32)) hx hb dX5_sink_117 (by decide) ?_
    refine lv_iload hx hb dX5_sink_119 (lv_at hl 0 rfl) ?_
    refine lv_imul hx hb dX5_sink_121 ?_
    refine lv_isub hx hb dX5_sink_122 ?_
    obtain ⟨g9, h⟩ := gd_s h
    refine va_iast hx hb hK hP hD hS 5 4 rfl rfl (inb_in g9) dX5_sink_123 (fun H locs hP hD hS => ?_)
    obtain ⟨M_10, eM_10⟩ : ∃ y : Nat → Nat → Int32, y = st M_4 7 (Int32.toNatClampNeg p0) ((M_4 7 (Int32.toNatClampNeg p0)) - ((100 : Int32) * v7)) := ⟨_, rfl⟩
    have h := ltt_s eM_10 h
    have hP : va_P D vwCl (xM a k M_10 L0) H := by rw [eM_10]; exact hP
    have hD : va_D A (xM a k M_10 L0) := by rw [eM_10]; exact hD
    refine lv_aload_n hx hb dX5_sink_124 rfl (lv_at hl 2 rfl) ?_
    refine va_get (D := D) (ci := 5) (v := .ref (a 3)) (C := RX5) (T := TX5) (N := 20) hx hb hts hin5 hown hK hP 0 rfl rfl 5 (by decide) (hts (.fieldLink RX5 16 "BallastLineModel" "beds" "[I") (List.mem_of_getElem? (i := 5) rfl)) (fun _ h9 => h9) rfl dX5_sink_125 ?_
    refine lv_iload_n hx hb dX5_sink_128 rfl (lv_at hl 3 rfl) ?_
    refine lv_dup2_11 hx hb dX5_sink_129 rfl rfl ?_
    obtain ⟨g11, h⟩ := gd_s h
    refine va_iald hx hb hK hP 3 2 rfl rfl (inb_in g11) dX5_sink_130 ?_
    refine lv_iload hx hb dX5_sink_131 (lv_at hl 0 rfl) ?_
    refine lv_isub hx hb dX5_sink_133 ?_
    obtain ⟨g12, h⟩ := gd_s h
    refine va_iast hx hb hK hP hD hS 3 2 rfl rfl (inb_in g12) dX5_sink_134 (fun H locs hP hD hS => ?_)
    obtain ⟨M_13, eM_13⟩ : ∃ y : Nat → Nat → Int32, y = st M_10 5 (Int32.toNatClampNeg p0) ((M_10 5 (Int32.toNatClampNeg p0)) - v7) := ⟨_, rfl⟩
    have h := ltt_s eM_13 h
    have hP : va_P D vwCl (xM a k M_13 L0) H := by rw [eM_13]; exact hP
    have hD : va_D A (xM a k M_13 L0) := by rw [eM_13]; exact hD
    refine lv_iload hx hb dX5_sink_135 (lv_at hl 0 rfl) ?_
    have h := Option.some.inj h
    obtain ⟨hz0, h⟩ := Prod.mk.inj h
    have hP : va_P D vwCl (xM a k Mz L0) H := by rw [← h]; exact hP
    have hD : va_D A (xM a k Mz L0) := by rw [← h]; exact hD
    subst hQ
    subst hAe
    exact r_i hx hb hr hlocks hz0 hP hD hS dX5_sink_137
  have lb46 : ∀ (s0 : Int32) (M : Nat → Nat → Int32), ∀ (H : Heap) (locs : List Loc), va_P D vwCl (xM a k M L0) H → va_D A (xM a k M L0) → va_S A s.heap H locs → ∀ ls : Array Slot, lv_has ls 6 [(0, .ref (a 0)), (1, .int p0)] → f_X5_sink_J46 p0 p1 s0 M = some (r, Mz) → W p l e rm_X5_sink s m args below meth c H locs 0 0 Q (F0 m 46 ls [.int s0]) := by
    intro  s0 M H locs hP hD hS ls hl h
    rw [f_X5_sink_J46] at h
    refine lv_istore (lv' := [(4, .int s0), (0, .ref (a 0)), (1, .int p0)]) hx hb dX5_sink_46 hl (by decide) rfl (fun ls hl => ?_)
    refine lv_iload hx hb dX5_sink_48 (lv_at hl 0 rfl) ?_
    refine lv_aload_n hx hb dX5_sink_50 rfl (lv_at hl 1 rfl) ?_
    refine va_get (D := D) (ci := 5) (v := .ref (a 2)) (C := RX5) (T := TX5) (N := 20) hx hb hts hin5 hown hK hP 0 rfl rfl 4 (by decide) (hts (.fieldLink RX5 13 "BallastLineModel" "kinds" "[I") (List.mem_of_getElem? (i := 3) rfl)) (fun _ h9 => h9) rfl dX5_sink_51 ?_
    refine lv_iload_n hx hb dX5_sink_54 rfl (lv_at hl 2 rfl) ?_
    obtain ⟨g14, h⟩ := gd_s h
    refine va_iald hx hb hK hP 2 1 rfl rfl (inb_in g14) dX5_sink_55 ?_
    refine lv_iconst (v := (2 : Int32)) hx hb dX5_sink_56 (by decide) ?_
    refine lv_icmp_ne (tgt := 67) hx hb dX5_sink_57 (by decide) (fun c15 => ?_) (fun c15 => ?_)
    · have h := it_f c15 h
      refine lv_aload_n hx hb dX5_sink_67 rfl (lv_at hl 1 rfl) ?_
      refine va_get (D := D) (ci := 5) (v := .ref (a 2)) (C := RX5) (T := TX5) (N := 20) hx hb hts hin5 hown hK hP 0 rfl rfl 4 (by decide) (hts (.fieldLink RX5 13 "BallastLineModel" "kinds" "[I") (List.mem_of_getElem? (i := 3) rfl)) (fun _ h9 => h9) rfl dX5_sink_68 ?_
      refine lv_iload_n hx hb dX5_sink_71 rfl (lv_at hl 2 rfl) ?_
      obtain ⟨g16, h⟩ := gd_s h
      refine va_iald hx hb hK hP 2 1 rfl rfl (inb_in g16) dX5_sink_72 ?_
      refine lv_if_ne (tgt := 80) hx hb dX5_sink_73 (by decide) (fun c17 => ?_) (fun c17 => ?_)
      · have h := it_f c17 h
        refine lv_iload hx hb dX5_sink_80 (lv_at hl 0 rfl) ?_
        refine lv_iconst (v := (4 : Int32)) hx hb dX5_sink_82 (by decide) ?_
        obtain ⟨g18, h⟩ := gd_s h
        refine lv_idiv hx hb dX5_sink_83 (nz32_s g18) ?_
        refine lv_ineg hx hb dX5_sink_84 ?_
        exact lb85  (-(s0 / (4 : Int32))) s0 M H locs hP hD hS ls (lv_sub hl [1, 2] rfl) h
      · have h := it_t c17 h
        refine lv_iconst (v := (0 : Int32)) hx hb dX5_sink_76 (by decide) ?_
        refine lv_goto (tgt := 85) hx hb dX5_sink_77 (by decide) ?_
        exact lb85  (0 : Int32) s0 M H locs hP hD hS ls (lv_sub hl [1, 2] rfl) h
    · have h := it_t c15 h
      refine lv_iload hx hb dX5_sink_60 (lv_at hl 0 rfl) ?_
      refine lv_iconst (v := (4 : Int32)) hx hb dX5_sink_62 (by decide) ?_
      obtain ⟨g19, h⟩ := gd_s h
      refine lv_idiv hx hb dX5_sink_63 (nz32_s g19) ?_
      refine lv_goto (tgt := 85) hx hb dX5_sink_64 (by decide) ?_
      exact lb85  (s0 / (4 : Int32)) s0 M H locs hP hD hS ls (lv_sub hl [1, 2] rfl) h
  have lb26 : ∀ (s0 : Int32) (M : Nat → Nat → Int32), ∀ (H : Heap) (locs : List Loc), va_P D vwCl (xM a k M L0) H → va_D A (xM a k M L0) → va_S A s.heap H locs → ∀ ls : Array Slot, lv_has ls 6 [(0, .ref (a 0)), (1, .int p0)] → f_X5_sink_J26 p0 p1 s0 M = some (r, Mz) → W p l e rm_X5_sink s m args below meth c H locs 0 0 Q (F0 m 26 ls [.int s0]) := by
    intro  s0 M H locs hP hD hS ls hl h
    rw [f_X5_sink_J26] at h
    refine lv_istore_n (lv' := [(3, .int s0), (0, .ref (a 0)), (1, .int p0)]) hx hb dX5_sink_26 rfl hl (by decide) rfl (fun ls hl => ?_)
    refine lv_aload_n hx hb dX5_sink_27 rfl (lv_at hl 1 rfl) ?_
    refine va_get (D := D) (ci := 5) (v := .ref (a 10)) (C := RX5) (T := TX5) (N := 20) hx hb hts hin5 hown hK hP 0 rfl rfl 13 (by decide) (hts (.fieldLink RX5 38 "BallastLineModel" "table" "[I") (List.mem_of_getElem? (i := 2) rfl)) (fun _ h9 => h9) rfl dX5_sink_28 ?_
    refine lv_iload_n hx hb dX5_sink_31 rfl (lv_at hl 0 rfl) ?_
    obtain ⟨g20, h⟩ := gd_s h
    refine va_iald hx hb hK hP 10 9 rfl rfl (inb_in g20) dX5_sink_32 ?_
    refine lv_if_ge (tgt := 40) hx hb dX5_sink_33 (by decide) (fun c21 => ?_) (fun c21 => ?_)
    · have h := it_t c21 h
      refine lv_aload_n hx hb dX5_sink_40 rfl (lv_at hl 1 rfl) ?_
      refine va_get (D := D) (ci := 5) (v := .ref (a 10)) (C := RX5) (T := TX5) (N := 20) hx hb hts hin5 hown hK hP 0 rfl rfl 13 (by decide) (hts (.fieldLink RX5 38 "BallastLineModel" "table" "[I") (List.mem_of_getElem? (i := 2) rfl)) (fun _ h9 => h9) rfl dX5_sink_41 ?_
      refine lv_iload_n hx hb dX5_sink_44 rfl (lv_at hl 0 rfl) ?_
      obtain ⟨g22, h⟩ := gd_s h
      refine va_iald hx hb hK hP 10 9 rfl rfl (inb_in g22) dX5_sink_45 ?_
      exact lb46  (M 13 (Int32.toNatClampNeg s0)) M H locs hP hD hS ls (lv_sub hl [1, 2] rfl) h
    · have h := it_f c21 h
      refine lv_iconst (v := (0 : Int32)) hx hb dX5_sink_36 (by decide) ?_
      refine lv_goto (tgt := 46) hx hb dX5_sink_37 (by decide) ?_
      exact lb46  (0 : Int32) M H locs hP hD hS ls (lv_sub hl [1, 2] rfl) h
  rw [f_X5_sink] at h
  obtain ⟨H, hH⟩ : ∃ H, H = s.heap := ⟨_, rfl⟩
  obtain ⟨locs, hlc⟩ : ∃ L : List Loc, L = [] := ⟨_, rfl⟩
  rw [← hH] at hP
  have hS : va_S A s.heap H locs := by rw [hH, hlc]; exact hS
  suffices hW9 : W p l e rm_X5_sink s m args below meth c H locs 0 0 Q (F0 m 0 ls []) by rw [hH, hlc] at hW9; exact hW9
  refine lv_iload_n hx hb dX5_sink_0 rfl (lv_at hl 2 rfl) ?_
  refine lv_aload_n hx hb dX5_sink_1 rfl (lv_at hl 0 rfl) ?_
  refine va_get (D := D) (ci := 5) (v := .ref (a 4)) (C := RX5) (T := TX5) (N := 20) hx hb hts hin5 hown hK hP 0 rfl rfl 6 (by decide) (hts (.fieldLink RX5 19 "BallastLineModel" "stones" "[I") (List.mem_of_getElem? (i := 1) rfl)) (fun _ h9 => h9) rfl dX5_sink_2 ?_
  refine lv_iload_n hx hb dX5_sink_5 rfl (lv_at hl 1 rfl) ?_
  obtain ⟨g23, h⟩ := gd_s h
  refine va_iald hx hb hK hP 4 3 rfl rfl (inb_in g23) dX5_sink_6 ?_
  obtain ⟨g24, h⟩ := gd_s h
  refine lv_idiv hx hb dX5_sink_7 (nz32_s g24) ?_
  refine lv_bipush (v := (15 : Int32)) hx hb dX5_sink_8 (by decide) ?_
  refine lv_icmp_le (tgt := 18) hx hb dX5_sink_10 (by decide) (fun c25 => ?_) (fun c25 => ?_)
  · have h := it_t c25 h
    refine lv_iload_n hx hb dX5_sink_18 rfl (lv_at hl 2 rfl) ?_
    refine lv_aload_n hx hb dX5_sink_19 rfl (lv_at hl 0 rfl) ?_
    refine va_get (D := D) (ci := 5) (v := .ref (a 4)) (C := RX5) (T := TX5) (N := 20) hx hb hts hin5 hown hK hP 0 rfl rfl 6 (by decide) (hts (.fieldLink RX5 19 "BallastLineModel" "stones" "[I") (List.mem_of_getElem? (i := 1) rfl)) (fun _ h9 => h9) rfl dX5_sink_20 ?_
    refine lv_iload_n hx hb dX5_sink_23 rfl (lv_at hl 1 rfl) ?_
    obtain ⟨g26, h⟩ := gd_s h
    refine va_iald hx hb hK hP 4 3 rfl rfl (inb_in g26) dX5_sink_24 ?_
    obtain ⟨g27, h⟩ := gd_s h
    refine lv_idiv hx hb dX5_sink_25 (nz32_s g27) ?_
    exact lb26  (p1 / (M0 6 (Int32.toNatClampNeg p0))) M0 H locs hP hD hS ls (lv_sub hl [0, 1] rfl) h
  · have h := it_f c25 h
    refine lv_bipush (v := (15 : Int32)) hx hb dX5_sink_13 (by decide) ?_
    refine lv_goto (tgt := 26) hx hb dX5_sink_15 (by decide) ?_
    exact lb26  (15 : Int32) M0 H locs hP hD hS ls (lv_sub hl [0, 1] rfl) h
def f_X5_rolls_J164  (p0 : Int32) (p1 : Int32)  (x4 : Int32) (x7 : Int32) (x8 : Int32) (x9 : Int32) (M : Nat → Nat → Int32) : Option (Int32 × (Nat → Nat → Int32)) := if x7 = (0 : Int32) then (some (x9, M)) else (gd (nz32 x8) (b2 (f_X5_sink M (p0 + (1 : Int32)) (x4 / x8)) (fun r3 (M_3 : Nat → Nat → Int32) => ltt ((x9 + r3)) (fun v4 => some (v4, M_3)))))
def f_X5_rolls_J142  (p0 : Int32) (p1 : Int32)  (x4 : Int32) (x6 : Int32) (x7 : Int32) (x8 : Int32) (x9 : Int32) (M : Nat → Nat → Int32) : Option (Int32 × (Nat → Nat → Int32)) := if x6 = (0 : Int32) then (f_X5_rolls_J164 p0 p1 x4 x7 x8 x9 M) else (gd (nz32 x8) (b2 (f_X5_sink M p0 (((2 : Int32) * x4) / x8)) (fun r7 (M_7 : Nat → Nat → Int32) => ltt ((x9 + r7)) (fun v8 => f_X5_rolls_J164 p0 p1 x4 x7 x8 v8 M_7))))
def f_X5_rolls_J114  (p0 : Int32) (p1 : Int32)  (x4 : Int32) (x5 : Int32) (x6 : Int32) (x7 : Int32) (s0 : Int32) (s1 : Int32) (M : Nat → Nat → Int32) : Option (Int32 × (Nat → Nat → Int32)) := ltt ((s1 + s0)) (fun v9 => if x5 = (0 : Int32) then (f_X5_rolls_J142 p0 p1 x4 x6 x7 v9 (0 : Int32) M) else (gd (nz32 v9) (b2 (f_X5_sink M (p0 - (1 : Int32)) (x4 / v9)) (fun r12 (M_12 : Nat → Nat → Int32) => ltt (((0 : Int32) + r12)) (fun v13 => f_X5_rolls_J142 p0 p1 x4 x6 x7 v9 v13 M_12)))))
def f_X5_rolls_J103  (p0 : Int32) (p1 : Int32)  (x4 : Int32) (x5 : Int32) (x6 : Int32) (x7 : Int32) (s0 : Int32) (s1 : Int32) (M : Nat → Nat → Int32) : Option (Int32 × (Nat → Nat → Int32)) := if x7 = (0 : Int32) then (f_X5_rolls_J114 p0 p1 x4 x5 x6 x7 (0 : Int32) (s1 + s0) M) else (f_X5_rolls_J114 p0 p1 x4 x5 x6 x7 (1 : Int32) (s1 + s0) M)
def f_X5_rolls_J93  (p0 : Int32) (p1 : Int32)  (x4 : Int32) (x5 : Int32) (x6 : Int32) (x7 : Int32) (s0 : Int32) (M : Nat → Nat → Int32) : Option (Int32 × (Nat → Nat → Int32)) := if x6 = (0 : Int32) then (f_X5_rolls_J103 p0 p1 x4 x5 x6 x7 (0 : Int32) s0 M) else (f_X5_rolls_J103 p0 p1 x4 x5 x6 x7 (2 : Int32) s0 M)
def f_X5_rolls_J56  (p0 : Int32) (p1 : Int32)  (x4 : Int32) (s0 : Int32) (s1 : Int32) (s2 : Int32) (M : Nat → Nat → Int32) : Option (Int32 × (Nat → Nat → Int32)) := gd (inb s2 40) (ltt (st M 8 (Int32.toNatClampNeg s2) (s1 + s0)) (fun (M_17 : Nat → Nat → Int32) => b1 (f_X5_bears M_17 (p0 - (1 : Int32))) (fun r18 => b1 (f_X5_bears M_17 p0) (fun r19 => b1 (f_X5_bears M_17 (p0 + (1 : Int32))) (fun r20 => if r18 = (0 : Int32) then (f_X5_rolls_J93 p0 p1 x4 r18 r19 r20 (0 : Int32) M_17) else (f_X5_rolls_J93 p0 p1 x4 r18 r19 r20 (1 : Int32) M_17))))))
def f_X5_rolls_J37  (p0 : Int32) (p1 : Int32)  (x3 : Int32) (s0 : Int32) (s1 : Int32) (M : Nat → Nat → Int32) : Option (Int32 × (Nat → Nat → Int32)) := ltt ((s1 + s0)) (fun v22 => gd (inb p0 40) (if x3 = (0 : Int32) then (f_X5_rolls_J56 p0 p1 v22 (0 : Int32) (M 8 (Int32.toNatClampNeg p0)) p0 M) else (f_X5_rolls_J56 p0 p1 v22 (1 : Int32) (M 8 (Int32.toNatClampNeg p0)) p0 M)))
def f_X5_rolls_J24  (p0 : Int32) (p1 : Int32)  (s0 : Int32) (M : Nat → Nat → Int32) : Option (Int32 × (Nat → Nat → Int32)) := if s0 = (0 : Int32) then (f_X5_rolls_J37 p0 p1 s0 (0 : Int32) p1 M) else (gd (nz32 (2 : Int32)) (f_X5_rolls_J37 p0 p1 s0 (p1 / (2 : Int32)) p1 M))
def f_X5_rolls_J23  (p0 : Int32) (p1 : Int32)  (M : Nat → Nat → Int32) : Option (Int32 × (Nat → Nat → Int32)) := f_X5_rolls_J24 p0 p1 (0 : Int32) M
def f_X5_rolls (M0 : Nat → Nat → Int32) (p0 : Int32) (p1 : Int32) : Option (Int32 × (Nat → Nat → Int32)) := gd (inb p0 40) (if (M0 4 (Int32.toNatClampNeg p0)) = (3 : Int32) then (gd (inb p0 40) (if (M0 9 (Int32.toNatClampNeg p0)) = (0 : Int32) then (f_X5_rolls_J24 p0 p1 (1 : Int32) M0) else (f_X5_rolls_J23 p0 p1 M0))) else (f_X5_rolls_J23 p0 p1 M0))
abbrev rm_X5_rolls : Room := { frames := 4, cells := 0, slots := 0, locals := 90 }
set_option maxHeartbeats 4000000 in
set_option maxRecDepth 100000 in
theorem c_X5_rolls (l : Launch) (D : va_G) (a : Nat → Nat) (k : Nat → ClassId) (sz : Nat) (M0 : Nat → Nat → Int32) (L0 : Int64) (p0 : Int32) (p1 : Int32) (r : Int32) (Mz : (Nat → Nat → Int32)) (h : f_X5_rolls M0 p0 p1 = some (r, Mz)) : Met l yX5_rolls wsX5_rolls rm_X5_rolls (mPc D [.ref (a 0), .int p0, .int p1] (xM a k M0 L0) (tM k) sz) (mQi D (xM a k M0 L0) (xM a k Mz L0) sz r) 0 0 (va_A (xM a k M0 L0) sz) := by
  refine mk_met (cc := cX5_rolls) (maxL := 10) (ret := (some .int)) (by decide) rfl (Nat.le_of_ble_eq_true rfl) ?_
  intro p e s m below meth c hx hb hr hml hts hown hmn hlocks hnw hsz hK hP hD hS hA ls hl
  obtain ⟨A, hAe⟩ : ∃ A, A = va_A (xM a k M0 L0) sz := ⟨_, rfl⟩
  rw [← hAe] at hD hS hA
  generalize hargs : List.toArray ([.ref (a 0), .int p0, .int p1] : List Value) = args at hts ⊢
  generalize hQ : MQ below (mQi D (xM a k M0 L0) (xM a k Mz L0) sz r) args s 0 0 (va_A (xM a k M0 L0) sz) = Q
  have hl : lv_has ls 10 [(0, .ref (a 0)), (1, .int p0), (2, .int p1)] := hl
  have hin5 : ∀ w ∈ wsX50, w ∈ wsX5_rolls := fun w h => List.mem_cons_of_mem _ (List.mem_append_right _ h)
  have lb164 : ∀ (x4 : Int32) (x7 : Int32) (x8 : Int32) (x9 : Int32) (M : Nat → Nat → Int32), ∀ (H : Heap) (locs : List Loc), va_P D vwCl (xM a k M L0) H → va_D A (xM a k M L0) → va_S A s.heap H locs → ∀ ls : Array Slot, lv_has ls 10 [(0, .ref (a 0)), (1, .int p0), (4, .int x4), (7, .int x7), (8, .int x8), (9, .int x9)] → f_X5_rolls_J164 p0 p1 x4 x7 x8 x9 M = some (r, Mz) → W p l e rm_X5_rolls s m args below meth c H locs 0 0 Q (F0 m 164 ls []) := by
    intro  x4 x7 x8 x9 M H locs hP hD hS ls hl h
    rw [f_X5_rolls_J164] at h
    refine lv_iload hx hb dX5_rolls_164 (lv_at hl 3 rfl) ?_
    refine lv_if_eq (tgt := 186) hx hb dX5_rolls_166 (by decide) (fun c1 => ?_) (fun c1 => ?_)
    · have h := it_t c1 h
      refine lv_iload hx hb dX5_rolls_186 (lv_at hl 5 rfl) ?_
      have h := Option.some.inj h
      obtain ⟨hz0, h⟩ := Prod.mk.inj h
      have hP : va_P D vwCl (xM a k Mz L0) H := by rw [← h]; exact hP
      have hD : va_D A (xM a k Mz L0) := by rw [← h]; exact hD
      subst hQ
      subst hAe
      exact r_i hx hb hr hlocks hz0 hP hD hS dX5_rolls_188
    · have h := it_f c1 h
      refine lv_iload hx hb dX5_rolls_169 (lv_at hl 5 rfl) ?_
      refine lv_aload_n hx hb dX5_rolls_171 rfl (lv_at hl 0 rfl) ?_
      refine lv_iload_n hx hb dX5_rolls_172 rfl (lv_at hl 1 rfl) ?_
      refine lv_iconst (v := (1 : Int32)) hx hb dX5_rolls_173 (by decide) ?_
      refine lv_iadd hx hb dX5_rolls_174 ?_
      refine lv_iload hx hb dX5_rolls_175 (lv_at hl 2 rfl) ?_
      refine lv_iload hx hb dX5_rolls_177 (lv_at hl 4 rfl) ?_
      obtain ⟨g2, h⟩ := gd_s h
      refine lv_idiv hx hb dX5_rolls_179 (nz32_s g2) ?_
      obtain ⟨r3, M_3, q3, h⟩ := b2_s h
      refine go_i (run_V (As := [.int (p0 + (1 : Int32)), .int (x4 / x8)]) (rest := [.int x9]) ⟨hx, hb, hml, hown, hts⟩ hnw hK hP hD (fr_M_M a k M L0 M_3 L0) (ks_M_M k) (c_X5_sink l D a k H.size M L0 (p0 + (1 : Int32)) (x4 / x8) r3 M_3 q3) (cwV 2 hts gX5_rolls_X5_sink rfl rfl rfl (by decide +kernel) ⟨Nat.le_of_ble_eq_true rfl, Nat.le_of_ble_eq_true rfl⟩) (rcv_M a k M L0) rfl hl.1 rfl (Nat.le_of_ble_eq_true rfl) dX5_rolls_180 ⟨Nat.zero_le _, Nat.zero_le _⟩) hP hD hS hA (fr_M_M a k M L0 M_3 L0) (fun H locs hP hD hS => ?_)
      refine lv_iadd hx hb dX5_rolls_183 ?_
      refine lv_topi (fun v4 ev4 => ?_)
      have h := ltt_s ev4 h
      refine lv_istore (lv' := [(9, .int v4), (0, .ref (a 0)), (1, .int p0), (4, .int x4), (7, .int x7), (8, .int x8)]) hx hb dX5_rolls_184 hl (by decide) rfl (fun ls hl => ?_)
      refine lv_iload hx hb dX5_rolls_186 (lv_at hl 0 rfl) ?_
      have h := Option.some.inj h
      obtain ⟨hz0, h⟩ := Prod.mk.inj h
      have hP : va_P D vwCl (xM a k Mz L0) H := by rw [← h]; exact hP
      have hD : va_D A (xM a k Mz L0) := by rw [← h]; exact hD
      subst hQ
      subst hAe
      exact r_i hx hb hr hlocks hz0 hP hD hS dX5_rolls_188
  have lb142 : ∀ (x4 : Int32) (x6 : Int32) (x7 : Int32) (x8 : Int32) (x9 : Int32) (M : Nat → Nat → Int32), ∀ (H : Heap) (locs : List Loc), va_P D vwCl (xM a k M L0) H → va_D A (xM a k M L0) → va_S A s.heap H locs → ∀ ls : Array Slot, lv_has ls 10 [(0, .ref (a 0)), (1, .int p0), (4, .int x4), (6, .int x6), (7, .int x7), (8, .int x8), (9, .int x9)] → f_X5_rolls_J142 p0 p1 x4 x6 x7 x8 x9 M = some (r, Mz) → W p l e rm_X5_rolls s m args below meth c H locs 0 0 Q (F0 m 142 ls []) := by
    intro  x4 x6 x7 x8 x9 M H locs hP hD hS ls hl h
    rw [f_X5_rolls_J142] at h
    refine lv_iload hx hb dX5_rolls_142 (lv_at hl 3 rfl) ?_
    refine lv_if_eq (tgt := 164) hx hb dX5_rolls_144 (by decide) (fun c5 => ?_) (fun c5 => ?_)
    · have h := it_t c5 h
      exact lb164  x4 x7 x8 x9 M H locs hP hD hS ls (lv_sub hl [0, 1, 2, 4, 5, 6] rfl) h
    · have h := it_f c5 h
      refine lv_iload hx hb dX5_rolls_147 (lv_at hl 6 rfl) ?_
      refine lv_aload_n hx hb dX5_rolls_149 rfl (lv_at hl 0 rfl) ?_
      refine lv_iload_n hx hb dX5_rolls_150 rfl (lv_at hl 1 rfl) ?_
      refine lv_iconst (v := (2 : Int32)) hx hb dX5_rolls_151 (by decide) ?_
      refine lv_iload hx hb dX5_rolls_152 (lv_at hl 2 rfl) ?_
      refine lv_imul hx hb dX5_rolls_154 ?_
      refine lv_iload hx hb dX5_rolls_155 (lv_at hl 5 rfl) ?_
      obtain ⟨g6, h⟩ := gd_s h
      refine lv_idiv hx hb dX5_rolls_157 (nz32_s g6) ?_
      obtain ⟨r7, M_7, q7, h⟩ := b2_s h
      refine go_i (run_V (As := [.int p0, .int (((2 : Int32) * x4) / x8)]) (rest := [.int x9]) ⟨hx, hb, hml, hown, hts⟩ hnw hK hP hD (fr_M_M a k M L0 M_7 L0) (ks_M_M k) (c_X5_sink l D a k H.size M L0 p0 (((2 : Int32) * x4) / x8) r7 M_7 q7) (cwV 2 hts gX5_rolls_X5_sink rfl rfl rfl (by decide +kernel) ⟨Nat.le_of_ble_eq_true rfl, Nat.le_of_ble_eq_true rfl⟩) (rcv_M a k M L0) rfl hl.1 rfl (Nat.le_of_ble_eq_true rfl) dX5_rolls_158 ⟨Nat.zero_le _, Nat.zero_le _⟩) hP hD hS hA (fr_M_M a k M L0 M_7 L0) (fun H locs hP hD hS => ?_)
      refine lv_iadd hx hb dX5_rolls_161 ?_
      refine lv_topi (fun v8 ev8 => ?_)
      have h := ltt_s ev8 h
      refine lv_istore (lv' := [(9, .int v8), (0, .ref (a 0)), (1, .int p0), (4, .int x4), (6, .int x6), (7, .int x7), (8, .int x8)]) hx hb dX5_rolls_162 hl (by decide) rfl (fun ls hl => ?_)
      exact lb164  x4 x7 x8 v8 M_7 H locs hP hD hS ls (lv_sub hl [1, 2, 3, 5, 6, 0] rfl) h
  have lb114 : ∀ (x4 : Int32) (x5 : Int32) (x6 : Int32) (x7 : Int32) (s0 : Int32) (s1 : Int32) (M : Nat → Nat → Int32), ∀ (H : Heap) (locs : List Loc), va_P D vwCl (xM a k M L0) H → va_D A (xM a k M L0) → va_S A s.heap H locs → ∀ ls : Array Slot, lv_has ls 10 [(0, .ref (a 0)), (1, .int p0), (4, .int x4), (5, .int x5), (6, .int x6), (7, .int x7)] → f_X5_rolls_J114 p0 p1 x4 x5 x6 x7 s0 s1 M = some (r, Mz) → W p l e rm_X5_rolls s m args below meth c H locs 0 0 Q (F0 m 114 ls [.int s0, .int s1]) := by
    intro  x4 x5 x6 x7 s0 s1 M H locs hP hD hS ls hl h
    rw [f_X5_rolls_J114] at h
    refine lv_iadd hx hb dX5_rolls_114 ?_
    refine lv_topi (fun v9 ev9 => ?_)
    have h := ltt_s ev9 h
    refine lv_istore (lv' := [(8, .int v9), (0, .ref (a 0)), (1, .int p0), (4, .int x4), (5, .int x5), (6, .int x6), (7, .int x7)]) hx hb dX5_rolls_115 hl (by decide) rfl (fun ls hl => ?_)
    refine lv_iconst (v := (0 : Int32)) hx hb dX5_rolls_117 (by decide) ?_
    refine lv_istore (lv' := [(9, .int (0 : Int32)), (8, .int v9), (0, .ref (a 0)), (1, .int p0), (4, .int x4), (5, .int x5), (6, .int x6), (7, .int x7)]) hx hb dX5_rolls_118 hl (by decide) rfl (fun ls hl => ?_)
    refine lv_iload hx hb dX5_rolls_120 (lv_at hl 5 rfl) ?_
    refine lv_if_eq (tgt := 142) hx hb dX5_rolls_122 (by decide) (fun c10 => ?_) (fun c10 => ?_)
    · have h := it_t c10 h
      exact lb142  x4 x6 x7 v9 (0 : Int32) M H locs hP hD hS ls (lv_sub hl [2, 3, 4, 6, 7, 1, 0] rfl) h
    · have h := it_f c10 h
      refine lv_iload hx hb dX5_rolls_125 (lv_at hl 0 rfl) ?_
      refine lv_aload_n hx hb dX5_rolls_127 rfl (lv_at hl 2 rfl) ?_
      refine lv_iload_n hx hb dX5_rolls_128 rfl (lv_at hl 3 rfl) ?_
      refine lv_iconst (v := (1 : Int32)) hx hb dX5_rolls_129 (by decide) ?_
      refine lv_isub hx hb dX5_rolls_130 ?_
      refine lv_iload hx hb dX5_rolls_131 (lv_at hl 4 rfl) ?_
      refine lv_iload hx hb dX5_rolls_133 (lv_at hl 1 rfl) ?_
      obtain ⟨g11, h⟩ := gd_s h
      refine lv_idiv hx hb dX5_rolls_135 (nz32_s g11) ?_
      obtain ⟨r12, M_12, q12, h⟩ := b2_s h
      refine go_i (run_V (As := [.int (p0 - (1 : Int32)), .int (x4 / v9)]) (rest := [.int (0 : Int32)]) ⟨hx, hb, hml, hown, hts⟩ hnw hK hP hD (fr_M_M a k M L0 M_12 L0) (ks_M_M k) (c_X5_sink l D a k H.size M L0 (p0 - (1 : Int32)) (x4 / v9) r12 M_12 q12) (cwV 2 hts gX5_rolls_X5_sink rfl rfl rfl (by decide +kernel) ⟨Nat.le_of_ble_eq_true rfl, Nat.le_of_ble_eq_true rfl⟩) (rcv_M a k M L0) rfl hl.1 rfl (Nat.le_of_ble_eq_true rfl) dX5_rolls_136 ⟨Nat.zero_le _, Nat.zero_le _⟩) hP hD hS hA (fr_M_M a k M L0 M_12 L0) (fun H locs hP hD hS => ?_)
      refine lv_iadd hx hb dX5_rolls_139 ?_
      refine lv_topi (fun v13 ev13 => ?_)
      have h := ltt_s ev13 h
      refine lv_istore (lv' := [(9, .int v13), (8, .int v9), (0, .ref (a 0)), (1, .int p0), (4, .int x4), (5, .int x5), (6, .int x6), (7, .int x7)]) hx hb dX5_rolls_140 hl (by decide) rfl (fun ls hl => ?_)
      exact lb142  x4 x6 x7 v9 v13 M_12 H locs hP hD hS ls (lv_sub hl [2, 3, 4, 6, 7, 1, 0] rfl) h
  have lb103 : ∀ (x4 : Int32) (x5 : Int32) (x6 : Int32) (x7 : Int32) (s0 : Int32) (s1 : Int32) (M : Nat → Nat → Int32), ∀ (H : Heap) (locs : List Loc), va_P D vwCl (xM a k M L0) H → va_D A (xM a k M L0) → va_S A s.heap H locs → ∀ ls : Array Slot, lv_has ls 10 [(0, .ref (a 0)), (1, .int p0), (4, .int x4), (5, .int x5), (6, .int x6), (7, .int x7)] → f_X5_rolls_J103 p0 p1 x4 x5 x6 x7 s0 s1 M = some (r, Mz) → W p l e rm_X5_rolls s m args below meth c H locs 0 0 Q (F0 m 103 ls [.int s0, .int s1]) := by
    intro  x4 x5 x6 x7 s0 s1 M H locs hP hD hS ls hl h
    rw [f_X5_rolls_J103] at h
    refine lv_iadd hx hb dX5_rolls_103 ?_
    refine lv_iload hx hb dX5_rolls_104 (lv_at hl 5 rfl) ?_
    refine lv_if_eq (tgt := 113) hx hb dX5_rolls_106 (by decide) (fun c14 => ?_) (fun c14 => ?_)
    · have h := it_t c14 h
      refine lv_iconst (v := (0 : Int32)) hx hb dX5_rolls_113 (by decide) ?_
      exact lb114  x4 x5 x6 x7 (0 : Int32) (s1 + s0) M H locs hP hD hS ls (lv_sub hl [0, 1, 2, 3, 4, 5] rfl) h
    · have h := it_f c14 h
      refine lv_iconst (v := (1 : Int32)) hx hb dX5_rolls_109 (by decide) ?_
      refine lv_goto (tgt := 114) hx hb dX5_rolls_110 (by decide) ?_
      exact lb114  x4 x5 x6 x7 (1 : Int32) (s1 + s0) M H locs hP hD hS ls (lv_sub hl [0, 1, 2, 3, 4, 5] rfl) h
  have lb93 : ∀ (x4 : Int32) (x5 : Int32) (x6 : Int32) (x7 : Int32) (s0 : Int32) (M : Nat → Nat → Int32), ∀ (H : Heap) (locs : List Loc), va_P D vwCl (xM a k M L0) H → va_D A (xM a k M L0) → va_S A s.heap H locs → ∀ ls : Array Slot, lv_has ls 10 [(0, .ref (a 0)), (1, .int p0), (4, .int x4), (5, .int x5), (6, .int x6), (7, .int x7)] → f_X5_rolls_J93 p0 p1 x4 x5 x6 x7 s0 M = some (r, Mz) → W p l e rm_X5_rolls s m args below meth c H locs 0 0 Q (F0 m 93 ls [.int s0]) := by
    intro  x4 x5 x6 x7 s0 M H locs hP hD hS ls hl h
    rw [f_X5_rolls_J93] at h
    refine lv_iload hx hb dX5_rolls_93 (lv_at hl 4 rfl) ?_
    refine lv_if_eq (tgt := 102) hx hb dX5_rolls_95 (by decide) (fun c15 => ?_) (fun c15 => ?_)
    · have h := it_t c15 h
      refine lv_iconst (v := (0 : Int32)) hx hb dX5_rolls_102 (by decide) ?_
      exact lb103  x4 x5 x6 x7 (0 : Int32) s0 M H locs hP hD hS ls (lv_sub hl [0, 1, 2, 3, 4, 5] rfl) h
    · have h := it_f c15 h
      refine lv_iconst (v := (2 : Int32)) hx hb dX5_rolls_98 (by decide) ?_
      refine lv_goto (tgt := 103) hx hb dX5_rolls_99 (by decide) ?_
      exact lb103  x4 x5 x6 x7 (2 : Int32) s0 M H locs hP hD hS ls (lv_sub hl [0, 1, 2, 3, 4, 5] rfl) h
  have lb56 : ∀ (x4 : Int32) (s0 : Int32) (s1 : Int32) (s2 : Int32) (M : Nat → Nat → Int32), ∀ (H : Heap) (locs : List Loc), va_P D vwCl (xM a k M L0) H → va_D A (xM a k M L0) → va_S A s.heap H locs → ∀ ls : Array Slot, lv_has ls 10 [(0, .ref (a 0)), (1, .int p0), (4, .int x4)] → f_X5_rolls_J56 p0 p1 x4 s0 s1 s2 M = some (r, Mz) → W p l e rm_X5_rolls s m args below meth c H locs 0 0 Q (F0 m 56 ls [.int s0, .int s1, .int s2, .ref (a 6)]) := by
    intro  x4 s0 s1 s2 M H locs hP hD hS ls hl h
    rw [f_X5_rolls_J56] at h
    refine lv_iadd hx hb dX5_rolls_56 ?_
    obtain ⟨g16, h⟩ := gd_s h
    refine va_iast hx hb hK hP hD hS 6 5 rfl rfl (inb_in g16) dX5_rolls_57 (fun H locs hP hD hS => ?_)
    obtain ⟨M_17, eM_17⟩ : ∃ y : Nat → Nat → Int32, y = st M 8 (Int32.toNatClampNeg s2) (s1 + s0) := ⟨_, rfl⟩
    have h := ltt_s eM_17 h
    have hP : va_P D vwCl (xM a k M_17 L0) H := by rw [eM_17]; exact hP
    have hD : va_D A (xM a k M_17 L0) := by rw [eM_17]; exact hD
    refine lv_aload_n hx hb dX5_rolls_58 rfl (lv_at hl 0 rfl) ?_
    refine lv_iload_n hx hb dX5_rolls_59 rfl (lv_at hl 1 rfl) ?_
    refine lv_iconst (v := (1 : Int32)) hx hb dX5_rolls_60 (by decide) ?_
    refine lv_isub hx hb dX5_rolls_61 ?_
    obtain ⟨r18, q18, h⟩ := b1_s h
    refine go_i (run_V (As := [.int (p0 - (1 : Int32))]) (rest := []) ⟨hx, hb, hml, hown, hts⟩ hnw hK hP hD (fr_M_M a k M_17 L0 M_17 L0) (ks_M_M k) (c_X5_bears l D a k H.size M_17 L0 (p0 - (1 : Int32)) r18 q18) (cwV 1 hts gX5_rolls_X5_bears rfl rfl rfl (by decide +kernel) ⟨Nat.le_of_ble_eq_true rfl, Nat.le_of_ble_eq_true rfl⟩) (rcv_M a k M_17 L0) rfl hl.1 rfl (Nat.le_of_ble_eq_true rfl) dX5_rolls_62 ⟨Nat.zero_le _, Nat.zero_le _⟩) hP hD hS hA (fr_M_M a k M_17 L0 M_17 L0) (fun H locs hP hD hS => ?_)
    refine lv_istore (lv' := [(5, .int r18), (0, .ref (a 0)), (1, .int p0), (4, .int x4)]) hx hb dX5_rolls_65 hl (by decide) rfl (fun ls hl => ?_)
    refine lv_aload_n hx hb dX5_rolls_67 rfl (lv_at hl 1 rfl) ?_
    refine lv_iload_n hx hb dX5_rolls_68 rfl (lv_at hl 2 rfl) ?_
    obtain ⟨r19, q19, h⟩ := b1_s h
    refine go_i (run_V (As := [.int p0]) (rest := []) ⟨hx, hb, hml, hown, hts⟩ hnw hK hP hD (fr_M_M a k M_17 L0 M_17 L0) (ks_M_M k) (c_X5_bears l D a k H.size M_17 L0 p0 r19 q19) (cwV 1 hts gX5_rolls_X5_bears rfl rfl rfl (by decide +kernel) ⟨Nat.le_of_ble_eq_true rfl, Nat.le_of_ble_eq_true rfl⟩) (rcv_M a k M_17 L0) rfl hl.1 rfl (Nat.le_of_ble_eq_true rfl) dX5_rolls_69 ⟨Nat.zero_le _, Nat.zero_le _⟩) hP hD hS hA (fr_M_M a k M_17 L0 M_17 L0) (fun H locs hP hD hS => ?_)
    refine lv_istore (lv' := [(6, .int r19), (5, .int r18), (0, .ref (a 0)), (1, .int p0), (4, .int x4)]) hx hb dX5_rolls_72 hl (by decide) rfl (fun ls hl => ?_)
    refine lv_aload_n hx hb dX5_rolls_74 rfl (lv_at hl 2 rfl) ?_
    refine lv_iload_n hx hb dX5_rolls_75 rfl (lv_at hl 3 rfl) ?_
    refine lv_iconst (v := (1 : Int32)) hx hb dX5_rolls_76 (by decide) ?_
    refine lv_iadd hx hb dX5_rolls_77 ?_
    obtain ⟨r20, q20, h⟩ := b1_s h
    refine go_i (run_V (As := [.int (p0 + (1 : Int32))]) (rest := []) ⟨hx, hb, hml, hown, hts⟩ hnw hK hP hD (fr_M_M a k M_17 L0 M_17 L0) (ks_M_M k) (c_X5_bears l D a k H.size M_17 L0 (p0 + (1 : Int32)) r20 q20) (cwV 1 hts gX5_rolls_X5_bears rfl rfl rfl (by decide +kernel) ⟨Nat.le_of_ble_eq_true rfl, Nat.le_of_ble_eq_true rfl⟩) (rcv_M a k M_17 L0) rfl hl.1 rfl (Nat.le_of_ble_eq_true rfl) dX5_rolls_78 ⟨Nat.zero_le _, Nat.zero_le _⟩) hP hD hS hA (fr_M_M a k M_17 L0 M_17 L0) (fun H locs hP hD hS => ?_)
    refine lv_istore (lv' := [(7, .int r20), (6, .int r19), (5, .int r18), (0, .ref (a 0)), (1, .int p0), (4, .int x4)]) hx hb dX5_rolls_81 hl (by decide) rfl (fun ls hl => ?_)
    refine lv_iload hx hb dX5_rolls_83 (lv_at hl 2 rfl) ?_
    refine lv_if_eq (tgt := 92) hx hb dX5_rolls_85 (by decide) (fun c21 => ?_) (fun c21 => ?_)
    · have h := it_t c21 h
      refine lv_iconst (v := (0 : Int32)) hx hb dX5_rolls_92 (by decide) ?_
      exact lb93  x4 r18 r19 r20 (0 : Int32) M_17 H locs hP hD hS ls (lv_sub hl [3, 4, 5, 2, 1, 0] rfl) h
    · have h := it_f c21 h
      refine lv_iconst (v := (1 : Int32)) hx hb dX5_rolls_88 (by decide) ?_
      refine lv_goto (tgt := 93) hx hb dX5_rolls_89 (by decide) ?_
      exact lb93  x4 r18 r19 r20 (1 : Int32) M_17 H locs hP hD hS ls (lv_sub hl [3, 4, 5, 2, 1, 0] rfl) h
  have lb37 : ∀ (x3 : Int32) (s0 : Int32) (s1 : Int32) (M : Nat → Nat → Int32), ∀ (H : Heap) (locs : List Loc), va_P D vwCl (xM a k M L0) H → va_D A (xM a k M L0) → va_S A s.heap H locs → ∀ ls : Array Slot, lv_has ls 10 [(0, .ref (a 0)), (1, .int p0), (3, .int x3)] → f_X5_rolls_J37 p0 p1 x3 s0 s1 M = some (r, Mz) → W p l e rm_X5_rolls s m args below meth c H locs 0 0 Q (F0 m 37 ls [.int s0, .int s1]) := by
    intro  x3 s0 s1 M H locs hP hD hS ls hl h
    rw [f_X5_rolls_J37] at h
    refine lv_iadd hx hb dX5_rolls_37 ?_
    refine lv_topi (fun v22 ev22 => ?_)
    have h := ltt_s ev22 h
    refine lv_istore (lv' := [(4, .int v22), (0, .ref (a 0)), (1, .int p0), (3, .int x3)]) hx hb dX5_rolls_38 hl (by decide) rfl (fun ls hl => ?_)
    refine lv_aload_n hx hb dX5_rolls_40 rfl (lv_at hl 1 rfl) ?_
    refine va_get (D := D) (ci := 5) (v := .ref (a 6)) (C := RX5) (T := TX5) (N := 20) hx hb hts hin5 hown hK hP 0 rfl rfl 8 (by decide) (hts (.fieldLink RX5 25 "BallastLineModel" "jolts" "[I") (List.mem_of_getElem? (i := 3) rfl)) (fun _ h9 => h9) rfl dX5_rolls_41 ?_
    refine lv_iload_n hx hb dX5_rolls_44 rfl (lv_at hl 2 rfl) ?_
    refine lv_dup2_11 hx hb dX5_rolls_45 rfl rfl ?_
    obtain ⟨g23, h⟩ := gd_s h
    refine va_iald hx hb hK hP 6 5 rfl rfl (inb_in g23) dX5_rolls_46 ?_
    refine lv_iload_n hx hb dX5_rolls_47 rfl (lv_at hl 3 rfl) ?_
    refine lv_if_eq (tgt := 55) hx hb dX5_rolls_48 (by decide) (fun c24 => ?_) (fun c24 => ?_)
    · have h := it_t c24 h
      refine lv_iconst (v := (0 : Int32)) hx hb dX5_rolls_55 (by decide) ?_
      exact lb56  v22 (0 : Int32) (M 8 (Int32.toNatClampNeg p0)) p0 M H locs hP hD hS ls (lv_sub hl [1, 2, 0] rfl) h
    · have h := it_f c24 h
      refine lv_iconst (v := (1 : Int32)) hx hb dX5_rolls_51 (by decide) ?_
      refine lv_goto (tgt := 56) hx hb dX5_rolls_52 (by decide) ?_
      exact lb56  v22 (1 : Int32) (M 8 (Int32.toNatClampNeg p0)) p0 M H locs hP hD hS ls (lv_sub hl [1, 2, 0] rfl) h
  have lb24 : ∀ (s0 : Int32) (M : Nat → Nat → Int32), ∀ (H : Heap) (locs : List Loc), va_P D vwCl (xM a k M L0) H → va_D A (xM a k M L0) → va_S A s.heap H locs → ∀ ls : Array Slot, lv_has ls 10 [(0, .ref (a 0)), (1, .int p0), (2, .int p1)] → f_X5_rolls_J24 p0 p1 s0 M = some (r, Mz) → W p l e rm_X5_rolls s m args below meth c H locs 0 0 Q (F0 m 24 ls [.int s0]) := by
    intro  s0 M H locs hP hD hS ls hl h
    rw [f_X5_rolls_J24] at h
    refine lv_istore_n (lv' := [(3, .int s0), (0, .ref (a 0)), (1, .int p0), (2, .int p1)]) hx hb dX5_rolls_24 rfl hl (by decide) rfl (fun ls hl => ?_)
    refine lv_iload_n hx hb dX5_rolls_25 rfl (lv_at hl 3 rfl) ?_
    refine lv_iload_n hx hb dX5_rolls_26 rfl (lv_at hl 0 rfl) ?_
    refine lv_if_eq (tgt := 36) hx hb dX5_rolls_27 (by decide) (fun c25 => ?_) (fun c25 => ?_)
    · have h := it_t c25 h
      refine lv_iconst (v := (0 : Int32)) hx hb dX5_rolls_36 (by decide) ?_
      exact lb37  s0 (0 : Int32) p1 M H locs hP hD hS ls (lv_sub hl [1, 2, 0] rfl) h
    · have h := it_f c25 h
      refine lv_iload_n hx hb dX5_rolls_30 rfl (lv_at hl 3 rfl) ?_
      refine lv_iconst (v := (2 : Int32)) hx hb dX5_rolls_31 (by decide) ?_
      obtain ⟨g26, h⟩ := gd_s h
      refine lv_idiv hx hb dX5_rolls_32 (nz32_s g26) ?_
      refine lv_goto (tgt := 37) hx hb dX5_rolls_33 (by decide) ?_
      exact lb37  s0 (p1 / (2 : Int32)) p1 M H locs hP hD hS ls (lv_sub hl [1, 2, 0] rfl) h
  have lb23 : ∀ (M : Nat → Nat → Int32), ∀ (H : Heap) (locs : List Loc), va_P D vwCl (xM a k M L0) H → va_D A (xM a k M L0) → va_S A s.heap H locs → ∀ ls : Array Slot, lv_has ls 10 [(0, .ref (a 0)), (1, .int p0), (2, .int p1)] → f_X5_rolls_J23 p0 p1 M = some (r, Mz) → W p l e rm_X5_rolls s m args below meth c H locs 0 0 Q (F0 m 23 ls []) := by
    intro  M H locs hP hD hS ls hl h
    rw [f_X5_rolls_J23] at h
    refine lv_iconst (v := (0 : Int32)) hx hb dX5_rolls_23 (by decide) ?_
    exact lb24  (0 : Int32) M H locs hP hD hS ls (lv_sub hl [0, 1, 2] rfl) h
  rw [f_X5_rolls] at h
  obtain ⟨H, hH⟩ : ∃ H, H = s.heap := ⟨_, rfl⟩
  obtain ⟨locs, hlc⟩ : ∃ L : List Loc, L = [] := ⟨_, rfl⟩
  rw [← hH] at hP
  have hS : va_S A s.heap H locs := by rw [hH, hlc]; exact hS
  suffices hW9 : W p l e rm_X5_rolls s m args below meth c H locs 0 0 Q (F0 m 0 ls []) by rw [hH, hlc] at hW9; exact hW9
  refine lv_aload_n hx hb dX5_rolls_0 rfl (lv_at hl 0 rfl) ?_
  refine va_get (D := D) (ci := 5) (v := .ref (a 2)) (C := RX5) (T := TX5) (N := 20) hx hb hts hin5 hown hK hP 0 rfl rfl 4 (by decide) (hts (.fieldLink RX5 13 "BallastLineModel" "kinds" "[I") (List.mem_of_getElem? (i := 1) rfl)) (fun _ h9 => h9) rfl dX5_rolls_1 ?_
  refine lv_iload_n hx hb dX5_rolls_4 rfl (lv_at hl 1 rfl) ?_
  obtain ⟨g27, h⟩ := gd_s h
  refine va_iald hx hb hK hP 2 1 rfl rfl (inb_in g27) dX5_rolls_5 ?_
  refine lv_iconst (v := (3 : Int32)) hx hb dX5_rolls_6 (by decide) ?_
  refine lv_icmp_ne (tgt := 23) hx hb dX5_rolls_7 (by decide) (fun c28 => ?_) (fun c28 => ?_)
  · have h := it_f c28 h
    exact lb23  M0 H locs hP hD hS ls (lv_sub hl [0, 1, 2] rfl) h
  · have h := it_t c28 h
    refine lv_aload_n hx hb dX5_rolls_10 rfl (lv_at hl 0 rfl) ?_
    refine va_get (D := D) (ci := 5) (v := .ref (a 7)) (C := RX5) (T := TX5) (N := 20) hx hb hts hin5 hown hK hP 0 rfl rfl 9 (by decide) (hts (.fieldLink RX5 28 "BallastLineModel" "isLost" "[Z") (List.mem_of_getElem? (i := 2) rfl)) (fun _ h9 => h9) rfl dX5_rolls_11 ?_
    refine lv_iload_n hx hb dX5_rolls_14 rfl (lv_at hl 1 rfl) ?_
    obtain ⟨g29, h⟩ := gd_s h
    refine va_zald hx hb hK hP 7 6 rfl rfl (inb_in g29) dX5_rolls_15 ?_
    refine lv_if_ne (tgt := 23) hx hb dX5_rolls_16 (by decide) (fun c30 => ?_) (fun c30 => ?_)
    · have h := it_f c30 h
      exact lb23  M0 H locs hP hD hS ls (lv_sub hl [0, 1, 2] rfl) h
    · have h := it_t c30 h
      refine lv_iconst (v := (1 : Int32)) hx hb dX5_rolls_19 (by decide) ?_
      refine lv_goto (tgt := 24) hx hb dX5_rolls_20 (by decide) ?_
      exact lb24  (1 : Int32) M0 H locs hP hD hS ls (lv_sub hl [0, 1, 2] rfl) h
def f_X5_pass_L46  (p0 : Int32) (ko26 : Int32 → Int32 → (Nat → Nat → Int32) → Option (Int32 × (Nat → Nat → Int32))) (ko34 : Int32 → Int32 → Int32 → (Nat → Nat → Int32) → Option (Int32 × (Nat → Nat → Int32))) : Nat → Int32 → Int32 → Int32 → Int32 → (Nat → Nat → Int32) → Option (Int32 × (Nat → Nat → Int32))
  | 0, _, _, _, _, _ => none
  | n + 1, x2, x3, x4, x5, M => if (M 11 0) ≤ x5 then (ltt (x4 + (1 : Int32)) (fun v2 => ko34 x2 x3 v2 M)) else (gd (inb x5 20) (b2 (f_X5_rolls M x4 (M 12 (Int32.toNatClampNeg x5))) (fun r4 (M_4 : Nat → Nat → Int32) => ltt ((x2 + r4)) (fun v5 => ltt (x5 + (1 : Int32)) (fun v6 => f_X5_pass_L46 p0 ko26 ko34 n v5 x3 x4 v6 M_4)))))
def f_X5_pass_L34  (p0 : Int32) (ko26 : Int32 → Int32 → (Nat → Nat → Int32) → Option (Int32 × (Nat → Nat → Int32))) : Nat → Int32 → Int32 → Int32 → (Nat → Nat → Int32) → Option (Int32 × (Nat → Nat → Int32))
  | 0, _, _, _, _ => none
  | n + 1, x2, x3, x4, M => if (M 3 0) ≤ x4 then (ltt (x3 + (1 : Int32)) (fun v8 => ko26 x2 v8 M)) else (f_X5_pass_L46 p0 ko26 (f_X5_pass_L34 p0 ko26 n) 64 x2 x3 x4 (0 : Int32) M)
def f_X5_pass_L26  (p0 : Int32)  : Nat → Int32 → Int32 → (Nat → Nat → Int32) → Option (Int32 × (Nat → Nat → Int32))
  | 0, _, _, _ => none
  | n + 1, x2, x3, M => if p0 ≤ x3 then (some (x2, M)) else (f_X5_pass_L34 p0 (f_X5_pass_L26 p0 n) 64 x2 x3 (0 : Int32) M)
def f_X5_pass (M0 : Nat → Nat → Int32) (p0 : Int32) : Option (Int32 × (Nat → Nat → Int32)) := b1 (f_X5_in p0 (0 : Int32) (50 : Int32)) (fun r10 => if r10 = (0 : Int32) then (some ((-1 : Int32), M0)) else (if (M0 11 0) = (0 : Int32) then (some ((-4 : Int32), M0)) else (f_X5_pass_L26 p0 64 (0 : Int32) (0 : Int32) M0)))
abbrev rm_X5_pass : Room := { frames := 5, cells := 0, slots := 0, locals := 119 }
set_option maxHeartbeats 4000000 in
set_option maxRecDepth 100000 in
theorem c_X5_pass (l : Launch) (D : va_G) (a : Nat → Nat) (k : Nat → ClassId) (sz : Nat) (M0 : Nat → Nat → Int32) (L0 : Int64) (p0 : Int32) (r : Int32) (Mz : (Nat → Nat → Int32)) (h : f_X5_pass M0 p0 = some (r, Mz)) : Met l yX5_pass wsX5_pass rm_X5_pass (mPc D [.ref (a 0), .int p0] (xM a k M0 L0) (tM k) sz) (mQi D (xM a k M0 L0) (xM a k Mz L0) sz r) 0 0 (va_A (xM a k M0 L0) sz) := by
  refine mk_met (cc := cX5_pass) (maxL := 6) (ret := (some .int)) (by decide) rfl (Nat.le_of_ble_eq_true rfl) ?_
  intro p e s m below meth c hx hb hr hml hts hown hmn hlocks hnw hsz hK hP hD hS hA ls hl
  obtain ⟨A, hAe⟩ : ∃ A, A = va_A (xM a k M0 L0) sz := ⟨_, rfl⟩
  rw [← hAe] at hD hS hA
  generalize hargs : List.toArray ([.ref (a 0), .int p0] : List Value) = args at hts ⊢
  generalize hQ : MQ below (mQi D (xM a k M0 L0) (xM a k Mz L0) sz r) args s 0 0 (va_A (xM a k M0 L0) sz) = Q
  have hl : lv_has ls 6 [(0, .ref (a 0)), (1, .int p0)] := hl
  have hin5 : ∀ w ∈ wsX50, w ∈ wsX5_pass := fun w h => List.mem_cons_of_mem _ (List.mem_append_right _ h)
  have lb46 : ∀ (ko26 : Int32 → Int32 → (Nat → Nat → Int32) → Option (Int32 × (Nat → Nat → Int32))), (∀ (x2 : Int32) (x3 : Int32) (M : Nat → Nat → Int32), ∀ (H : Heap) (locs : List Loc), va_P D vwCl (xM a k M L0) H → va_D A (xM a k M L0) → va_S A s.heap H locs → ∀ ls : Array Slot, lv_has ls 6 [(0, .ref (a 0)), (1, .int p0), (2, .int x2), (3, .int x3)] → ko26 x2 x3 M = some (r, Mz) → W p l e rm_X5_pass s m args below meth c H locs 0 0 Q (F0 m 26 ls [])) → ∀ (ko34 : Int32 → Int32 → Int32 → (Nat → Nat → Int32) → Option (Int32 × (Nat → Nat → Int32))), (∀ (x2 : Int32) (x3 : Int32) (x4 : Int32) (M : Nat → Nat → Int32), ∀ (H : Heap) (locs : List Loc), va_P D vwCl (xM a k M L0) H → va_D A (xM a k M L0) → va_S A s.heap H locs → ∀ ls : Array Slot, lv_has ls 6 [(0, .ref (a 0)), (1, .int p0), (2, .int x2), (3, .int x3), (4, .int x4)] → ko34 x2 x3 x4 M = some (r, Mz) → W p l e rm_X5_pass s m args below meth c H locs 0 0 Q (F0 m 34 ls [])) → ∀ (n : Nat), ∀ (x2 : Int32) (x3 : Int32) (x4 : Int32) (x5 : Int32) (M : Nat → Nat → Int32), ∀ (H : Heap) (locs : List Loc), va_P D vwCl (xM a k M L0) H → va_D A (xM a k M L0) → va_S A s.heap H locs → ∀ ls : Array Slot, lv_has ls 6 [(0, .ref (a 0)), (1, .int p0), (2, .int x2), (3, .int x3), (4, .int x4), (5, .int x5)] → f_X5_pass_L46 p0 ko26 ko34 n x2 x3 x4 x5 M = some (r, Mz) → W p l e rm_X5_pass s m args below meth c H locs 0 0 Q (F0 m 46 ls []) := by
    intro ko26 hko26 ko34 hko34
    intro n
    induction n with
    | zero =>
      intro x2 x3 x4 x5 M H locs hP hD hS ls hl h
      rw [f_X5_pass_L46] at h
      cases h
    | succ n ih =>
      intro x2 x3 x4 x5 M H locs hP hD hS ls hl h
      rw [f_X5_pass_L46] at h
      refine lv_iload hx hb dX5_pass_46 (lv_at hl 5 rfl) ?_
      refine lv_aload_n hx hb dX5_pass_48 rfl (lv_at hl 0 rfl) ?_
      refine va_get (D := D) (ci := 5) (v := .int (M 11 0)) (C := RX5) (T := TX5) (N := 20) hx hb hts hin5 hown hK hP 0 rfl rfl 11 (by decide) (hts (.fieldLink RX5 99 "BallastLineModel" "axles" "I") (List.mem_of_getElem? (i := 1) rfl)) (fun _ h9 => h9) rfl dX5_pass_49 ?_
      refine lv_icmp_ge (tgt := 77) hx hb dX5_pass_52 (by decide) (fun c1 => ?_) (fun c1 => ?_)
      · have h := it_t c1 h
        obtain ⟨v2, ev2⟩ : ∃ y : Int32, y = x4 + (1 : Int32) := ⟨_, rfl⟩
        have h := ltt_s ev2 h
        refine lv_iinc (v := v2) (lv' := [(4, .int v2), (0, .ref (a 0)), (1, .int p0), (2, .int x2), (3, .int x3), (5, .int x5)]) hx hb dX5_pass_77 hl (k := 4) rfl (by rw [ev2]; rfl) (by decide) rfl (fun ls hl => ?_)
        refine lv_goto (tgt := 34) hx hb dX5_pass_80 (by decide) ?_
        exact hko34 x2 x3 v2 M H locs hP hD hS ls (lv_sub hl [1, 2, 3, 4, 0] rfl) h
      · have h := it_f c1 h
        refine lv_iload_n hx hb dX5_pass_55 rfl (lv_at hl 2 rfl) ?_
        refine lv_aload_n hx hb dX5_pass_56 rfl (lv_at hl 0 rfl) ?_
        refine lv_iload hx hb dX5_pass_57 (lv_at hl 4 rfl) ?_
        refine lv_aload_n hx hb dX5_pass_59 rfl (lv_at hl 0 rfl) ?_
        refine va_get (D := D) (ci := 5) (v := .ref (a 9)) (C := RX5) (T := TX5) (N := 20) hx hb hts hin5 hown hK hP 0 rfl rfl 12 (by decide) (hts (.fieldLink RX5 35 "BallastLineModel" "weights" "[I") (List.mem_of_getElem? (i := 3) rfl)) (fun _ h9 => h9) rfl dX5_pass_60 ?_
        refine lv_iload hx hb dX5_pass_63 (lv_at hl 5 rfl) ?_
        obtain ⟨g3, h⟩ := gd_s h
        refine va_iald hx hb hK hP 9 8 rfl rfl (inb_in g3) dX5_pass_65 ?_
        obtain ⟨r4, M_4, q4, h⟩ := b2_s h
        refine go_i (run_V (As := [.int x4, .int (M 12 (Int32.toNatClampNeg x5))]) (rest := [.int x2]) ⟨hx, hb, hml, hown, hts⟩ hnw hK hP hD (fr_M_M a k M L0 M_4 L0) (ks_M_M k) (c_X5_rolls l D a k H.size M L0 x4 (M 12 (Int32.toNatClampNeg x5)) r4 M_4 q4) (cwV 2 hts gX5_pass_X5_rolls rfl rfl rfl (by decide +kernel) ⟨Nat.le_of_ble_eq_true rfl, Nat.le_of_ble_eq_true rfl⟩) (rcv_M a k M L0) rfl hl.1 rfl (Nat.le_of_ble_eq_true rfl) dX5_pass_66 ⟨Nat.zero_le _, Nat.zero_le _⟩) hP hD hS hA (fr_M_M a k M L0 M_4 L0) (fun H locs hP hD hS => ?_)
        refine lv_iadd hx hb dX5_pass_69 ?_
        refine lv_topi (fun v5 ev5 => ?_)
        have h := ltt_s ev5 h
        refine lv_istore_n (lv' := [(2, .int v5), (0, .ref (a 0)), (1, .int p0), (3, .int x3), (4, .int x4), (5, .int x5)]) hx hb dX5_pass_70 rfl hl (by decide) rfl (fun ls hl => ?_)
        obtain ⟨v6, ev6⟩ : ∃ y : Int32, y = x5 + (1 : Int32) := ⟨_, rfl⟩
        have h := ltt_s ev6 h
        refine lv_iinc (v := v6) (lv' := [(5, .int v6), (2, .int v5), (0, .ref (a 0)), (1, .int p0), (3, .int x3), (4, .int x4)]) hx hb dX5_pass_71 hl (k := 5) rfl (by rw [ev6]; rfl) (by decide) rfl (fun ls hl => ?_)
        refine lv_goto (tgt := 46) hx hb dX5_pass_74 (by decide) ?_
        exact ih v5 x3 x4 v6 M_4 H locs hP hD hS ls (lv_sub hl [2, 3, 1, 4, 5, 0] rfl) h
  have lb34 : ∀ (ko26 : Int32 → Int32 → (Nat → Nat → Int32) → Option (Int32 × (Nat → Nat → Int32))), (∀ (x2 : Int32) (x3 : Int32) (M : Nat → Nat → Int32), ∀ (H : Heap) (locs : List Loc), va_P D vwCl (xM a k M L0) H → va_D A (xM a k M L0) → va_S A s.heap H locs → ∀ ls : Array Slot, lv_has ls 6 [(0, .ref (a 0)), (1, .int p0), (2, .int x2), (3, .int x3)] → ko26 x2 x3 M = some (r, Mz) → W p l e rm_X5_pass s m args below meth c H locs 0 0 Q (F0 m 26 ls [])) → ∀ (n : Nat), ∀ (x2 : Int32) (x3 : Int32) (x4 : Int32) (M : Nat → Nat → Int32), ∀ (H : Heap) (locs : List Loc), va_P D vwCl (xM a k M L0) H → va_D A (xM a k M L0) → va_S A s.heap H locs → ∀ ls : Array Slot, lv_has ls 6 [(0, .ref (a 0)), (1, .int p0), (2, .int x2), (3, .int x3), (4, .int x4)] → f_X5_pass_L34 p0 ko26 n x2 x3 x4 M = some (r, Mz) → W p l e rm_X5_pass s m args below meth c H locs 0 0 Q (F0 m 34 ls []) := by
    intro ko26 hko26
    intro n
    induction n with
    | zero =>
      intro x2 x3 x4 M H locs hP hD hS ls hl h
      rw [f_X5_pass_L34] at h
      cases h
    | succ n ih =>
      intro x2 x3 x4 M H locs hP hD hS ls hl h
      rw [f_X5_pass_L34] at h
      refine lv_iload hx hb dX5_pass_34 (lv_at hl 4 rfl) ?_
      refine lv_aload_n hx hb dX5_pass_36 rfl (lv_at hl 0 rfl) ?_
      refine va_get (D := D) (ci := 5) (v := .int (M 3 0)) (C := RX5) (T := TX5) (N := 20) hx hb hts hin5 hown hK hP 0 rfl rfl 3 (by decide) (hts (.fieldLink RX5 72 "BallastLineModel" "many" "I") (List.mem_of_getElem? (i := 2) rfl)) (fun _ h9 => h9) rfl dX5_pass_37 ?_
      refine lv_icmp_ge (tgt := 83) hx hb dX5_pass_40 (by decide) (fun c7 => ?_) (fun c7 => ?_)
      · have h := it_t c7 h
        obtain ⟨v8, ev8⟩ : ∃ y : Int32, y = x3 + (1 : Int32) := ⟨_, rfl⟩
        have h := ltt_s ev8 h
        refine lv_iinc (v := v8) (lv' := [(3, .int v8), (0, .ref (a 0)), (1, .int p0), (2, .int x2), (4, .int x4)]) hx hb dX5_pass_83 hl (k := 3) rfl (by rw [ev8]; rfl) (by decide) rfl (fun ls hl => ?_)
        refine lv_goto (tgt := 26) hx hb dX5_pass_86 (by decide) ?_
        exact hko26 x2 v8 M H locs hP hD hS ls (lv_sub hl [1, 2, 3, 0] rfl) h
      · have h := it_f c7 h
        refine lv_iconst (v := (0 : Int32)) hx hb dX5_pass_43 (by decide) ?_
        refine lv_istore (lv' := [(5, .int (0 : Int32)), (0, .ref (a 0)), (1, .int p0), (2, .int x2), (3, .int x3), (4, .int x4)]) hx hb dX5_pass_44 hl (by decide) rfl (fun ls hl => ?_)
        exact lb46 ko26 hko26 (f_X5_pass_L34 p0 ko26 n) ih 64 x2 x3 x4 (0 : Int32) M H locs hP hD hS ls (lv_sub hl [1, 2, 3, 4, 5, 0] rfl) h
  have lb26 : ∀ (n : Nat), ∀ (x2 : Int32) (x3 : Int32) (M : Nat → Nat → Int32), ∀ (H : Heap) (locs : List Loc), va_P D vwCl (xM a k M L0) H → va_D A (xM a k M L0) → va_S A s.heap H locs → ∀ ls : Array Slot, lv_has ls 6 [(0, .ref (a 0)), (1, .int p0), (2, .int x2), (3, .int x3)] → f_X5_pass_L26 p0 n x2 x3 M = some (r, Mz) → W p l e rm_X5_pass s m args below meth c H locs 0 0 Q (F0 m 26 ls []) := by
    intro n
    induction n with
    | zero =>
      intro x2 x3 M H locs hP hD hS ls hl h
      rw [f_X5_pass_L26] at h
      cases h
    | succ n ih =>
      intro x2 x3 M H locs hP hD hS ls hl h
      rw [f_X5_pass_L26] at h
      refine lv_iload_n hx hb dX5_pass_26 rfl (lv_at hl 3 rfl) ?_
      refine lv_iload_n hx hb dX5_pass_27 rfl (lv_at hl 1 rfl) ?_
      refine lv_icmp_ge (tgt := 89) hx hb dX5_pass_28 (by decide) (fun c9 => ?_) (fun c9 => ?_)
      · have h := it_t c9 h
        refine lv_iload_n hx hb dX5_pass_89 rfl (lv_at hl 2 rfl) ?_
        have h := Option.some.inj h
        obtain ⟨hz0, h⟩ := Prod.mk.inj h
        have hP : va_P D vwCl (xM a k Mz L0) H := by rw [← h]; exact hP
        have hD : va_D A (xM a k Mz L0) := by rw [← h]; exact hD
        subst hQ
        subst hAe
        exact r_i hx hb hr hlocks hz0 hP hD hS dX5_pass_90
      · have h := it_f c9 h
        refine lv_iconst (v := (0 : Int32)) hx hb dX5_pass_31 (by decide) ?_
        refine lv_istore (lv' := [(4, .int (0 : Int32)), (0, .ref (a 0)), (1, .int p0), (2, .int x2), (3, .int x3)]) hx hb dX5_pass_32 hl (by decide) rfl (fun ls hl => ?_)
        exact lb34 (f_X5_pass_L26 p0 n) ih 64 x2 x3 (0 : Int32) M H locs hP hD hS ls (lv_sub hl [1, 2, 3, 4, 0] rfl) h
  rw [f_X5_pass] at h
  obtain ⟨H, hH⟩ : ∃ H, H = s.heap := ⟨_, rfl⟩
  obtain ⟨locs, hlc⟩ : ∃ L : List Loc, L = [] := ⟨_, rfl⟩
  rw [← hH] at hP
  have hS : va_S A s.heap H locs := by rw [hH, hlc]; exact hS
  suffices hW9 : W p l e rm_X5_pass s m args below meth c H locs 0 0 Q (F0 m 0 ls []) by rw [hH, hlc] at hW9; exact hW9
  refine lv_iload_n hx hb dX5_pass_0 rfl (lv_at hl 1 rfl) ?_
  refine lv_iconst (v := (0 : Int32)) hx hb dX5_pass_1 (by decide) ?_
  refine lv_bipush (v := (50 : Int32)) hx hb dX5_pass_2 (by decide) ?_
  obtain ⟨r10, q10, h⟩ := b1_s h
  refine go_i (run_S (As := [.int p0, .int (0 : Int32), .int (50 : Int32)]) (rest := []) ⟨hx, hb, hml, hown, hts⟩ hnw hK hP hD (fr_M_E a k M0 L0) (ks_M_E k) (c_X5_in l D H.size p0 (0 : Int32) (50 : Int32) r10 q10) (cwS 3 hts gX5_pass_X5_in rfl rfl rfl (by decide +kernel) ⟨Nat.le_of_ble_eq_true rfl, Nat.le_of_ble_eq_true rfl⟩) rfl hl.1 rfl (Nat.le_of_ble_eq_true rfl) dX5_pass_4 ⟨Nat.zero_le _, Nat.zero_le _⟩) hP hD hS hA (fr_M_E a k M0 L0) (fun H locs hP hD hS => ?_)
  refine lv_if_ne (tgt := 12) hx hb dX5_pass_7 (by decide) (fun c11 => ?_) (fun c11 => ?_)
  · have h := it_f c11 h
    refine lv_aload_n hx hb dX5_pass_12 rfl (lv_at hl 0 rfl) ?_
    refine va_get (D := D) (ci := 5) (v := .int (M0 11 0)) (C := RX5) (T := TX5) (N := 20) hx hb hts hin5 hown hK hP 0 rfl rfl 11 (by decide) (hts (.fieldLink RX5 99 "BallastLineModel" "axles" "I") (List.mem_of_getElem? (i := 1) rfl)) (fun _ h9 => h9) rfl dX5_pass_13 ?_
    refine lv_if_ne (tgt := 22) hx hb dX5_pass_16 (by decide) (fun c12 => ?_) (fun c12 => ?_)
    · have h := it_f c12 h
      refine lv_iconst (v := (0 : Int32)) hx hb dX5_pass_22 (by decide) ?_
      refine lv_istore_n (lv' := [(2, .int (0 : Int32)), (0, .ref (a 0)), (1, .int p0)]) hx hb dX5_pass_23 rfl hl (by decide) rfl (fun ls hl => ?_)
      refine lv_iconst (v := (0 : Int32)) hx hb dX5_pass_24 (by decide) ?_
      refine lv_istore_n (lv' := [(3, .int (0 : Int32)), (2, .int (0 : Int32)), (0, .ref (a 0)), (1, .int p0)]) hx hb dX5_pass_25 rfl hl (by decide) rfl (fun ls hl => ?_)
      exact lb26 64 (0 : Int32) (0 : Int32) M0 H locs hP hD hS ls (lv_sub hl [2, 3, 1, 0] rfl) h
    · have h := it_t c12 h
      refine lv_bipush (v := (-4 : Int32)) hx hb dX5_pass_19 (by decide) ?_
      have h := Option.some.inj h
      obtain ⟨hz0, h⟩ := Prod.mk.inj h
      have hP : va_P D vwCl (xM a k Mz L0) H := by rw [← h]; exact hP
      have hD : va_D A (xM a k Mz L0) := by rw [← h]; exact hD
      subst hQ
      subst hAe
      exact r_i hx hb hr hlocks hz0 hP hD hS dX5_pass_21
  · have h := it_t c11 h
    refine lv_iconst (v := (-1 : Int32)) hx hb dX5_pass_10 (by decide) ?_
    have h := Option.some.inj h
    obtain ⟨hz0, h⟩ := Prod.mk.inj h
    have hP : va_P D vwCl (xM a k Mz L0) H := by rw [← h]; exact hP
    have hD : va_D A (xM a k Mz L0) := by rw [← h]; exact hD
    subst hQ
    subst hAe
    exact r_i hx hb hr hlocks hz0 hP hD hS dX5_pass_11
def f_X5_mean_J57   (ko7 : Int64 → Int32 → Int32 → (Nat → Nat → Int32) → Int64 → Option (Int32 × (Nat → Nat → Int32) × Int64)) (x1 : Int64) (x4 : Int32) (s0 : Int32) (s1 : Int32) (M : Nat → Nat → Int32) (L : Int64) : Option (Int32 × (Nat → Nat → Int32) × Int64) := ltt ((s1 + s0)) (fun v1 => ltt (x4 + (1 : Int32)) (fun v2 => ko7 x1 v1 v2 M L))
def f_X5_mean_J39   (ko7 : Int64 → Int32 → Int32 → (Nat → Nat → Int32) → Int64 → Option (Int32 × (Nat → Nat → Int32) × Int64)) (x3 : Int32) (x4 : Int32) (s0 : Int64) (s1 : Int64) (M : Nat → Nat → Int32) (L : Int64) : Option (Int32 × (Nat → Nat → Int32) × Int64) := ltt ((s1 + s0)) (fun v3 => gd (inb x4 40) (if (M 9 (Int32.toNatClampNeg x4)) = (0 : Int32) then (f_X5_mean_J57  ko7 v3 x4 (1 : Int32) x3 M L) else (f_X5_mean_J57  ko7 v3 x4 (0 : Int32) x3 M L)))
def f_X5_mean_L7    : Nat → Int64 → Int32 → Int32 → (Nat → Nat → Int32) → Int64 → Option (Int32 × (Nat → Nat → Int32) × Int64)
  | 0, _, _, _, _, _ => none
  | n + 1, x1, x3, x4, M, L => if (M 3 0) ≤ x4 then (if x3 = (0 : Int32) then (b2 (f_X5_meets M (4 : Int32)) (fun r10 (M_10 : Nat → Nat → Int32) => some (r10, M_10, L))) else (b1 (f_X5_floor x1 x3) (fun r8 => b2 (f_X5_tell L (Int32.toInt64 r8) (1 : Int32)) (fun r9 (L_9 : Int64) => some (r9, M, L_9))))) else (gd (inb x4 40) (if (M 9 (Int32.toNatClampNeg x4)) = (0 : Int32) then (gd (inb x4 40) (f_X5_mean_J39  (f_X5_mean_L7  n) x3 x4 (Int32.toInt64 (M 5 (Int32.toNatClampNeg x4))) x1 M L)) else (f_X5_mean_J39  (f_X5_mean_L7  n) x3 x4 (0 : Int64) x1 M L)))
def f_X5_mean (M0 : Nat → Nat → Int32) (L0 : Int64)  : Option (Int32 × (Nat → Nat → Int32) × Int64) := f_X5_mean_L7  64 (0 : Int64) (0 : Int32) (0 : Int32) M0 L0
abbrev rm_X5_mean : Room := { frames := 1, cells := 0, slots := 0, locals := 24 }
set_option maxHeartbeats 4000000 in
set_option maxRecDepth 100000 in
theorem c_X5_mean (l : Launch) (D : va_G) (a : Nat → Nat) (k : Nat → ClassId) (sz : Nat) (M0 : Nat → Nat → Int32) (L0 : Int64)  (r : Int32) (Mz : (Nat → Nat → Int32)) (Lz : Int64) (h : f_X5_mean M0 L0 = some (r, Mz, Lz)) : Met l yX5_mean wsX5_mean rm_X5_mean (mPc D [.ref (a 0)] (xM a k M0 L0) (tM k) sz) (mQi D (xM a k M0 L0) (xM a k Mz Lz) sz r) 0 0 (va_A (xM a k M0 L0) sz) := by
  refine mk_met (cc := cX5_mean) (maxL := 5) (ret := (some .int)) (by decide) rfl (Nat.le_of_ble_eq_true rfl) ?_
  intro p e s m below meth c hx hb hr hml hts hown hmn hlocks hnw hsz hK hP hD hS hA ls hl
  obtain ⟨A, hAe⟩ : ∃ A, A = va_A (xM a k M0 L0) sz := ⟨_, rfl⟩
  rw [← hAe] at hD hS hA
  generalize hargs : List.toArray ([.ref (a 0)] : List Value) = args at hts ⊢
  generalize hQ : MQ below (mQi D (xM a k M0 L0) (xM a k Mz Lz) sz r) args s 0 0 (va_A (xM a k M0 L0) sz) = Q
  have hl : lv_has ls 5 [(0, .ref (a 0))] := hl
  have hin5 : ∀ w ∈ wsX50, w ∈ wsX5_mean := fun w h => List.mem_cons_of_mem _ (List.mem_append_right _ h)
  have lb57 : ∀ (ko7 : Int64 → Int32 → Int32 → (Nat → Nat → Int32) → Int64 → Option (Int32 × (Nat → Nat → Int32) × Int64)), (∀ (x1 : Int64) (x3 : Int32) (x4 : Int32) (M : Nat → Nat → Int32) (L : Int64), ∀ (H : Heap) (locs : List Loc), va_P D vwCl (xM a k M L) H → va_D A (xM a k M L) → va_S A s.heap H locs → ∀ ls : Array Slot, lv_has ls 5 [(0, .ref (a 0)), (1, .long x1), (3, .int x3), (4, .int x4)] → ko7 x1 x3 x4 M L = some (r, Mz, Lz) → W p l e rm_X5_mean s m args below meth c H locs 0 0 Q (F0 m 7 ls [])) → ∀ (x1 : Int64) (x4 : Int32) (s0 : Int32) (s1 : Int32) (M : Nat → Nat → Int32) (L : Int64), ∀ (H : Heap) (locs : List Loc), va_P D vwCl (xM a k M L) H → va_D A (xM a k M L) → va_S A s.heap H locs → ∀ ls : Array Slot, lv_has ls 5 [(0, .ref (a 0)), (1, .long x1), (4, .int x4)] → f_X5_mean_J57  ko7 x1 x4 s0 s1 M L = some (r, Mz, Lz) → W p l e rm_X5_mean s m args below meth c H locs 0 0 Q (F0 m 57 ls [.int s0, .int s1]) := by
    intro ko7 hko7 x1 x4 s0 s1 M L H locs hP hD hS ls hl h
    rw [f_X5_mean_J57] at h
    refine lv_iadd hx hb dX5_mean_57 ?_
    refine lv_topi (fun v1 ev1 => ?_)
    have h := ltt_s ev1 h
    refine lv_istore_n (lv' := [(3, .int v1), (0, .ref (a 0)), (1, .long x1), (4, .int x4)]) hx hb dX5_mean_58 rfl hl (by decide) rfl (fun ls hl => ?_)
    obtain ⟨v2, ev2⟩ : ∃ y : Int32, y = x4 + (1 : Int32) := ⟨_, rfl⟩
    have h := ltt_s ev2 h
    refine lv_iinc (v := v2) (lv' := [(4, .int v2), (3, .int v1), (0, .ref (a 0)), (1, .long x1)]) hx hb dX5_mean_59 hl (k := 3) rfl (by rw [ev2]; rfl) (by decide) rfl (fun ls hl => ?_)
    refine lv_goto (tgt := 7) hx hb dX5_mean_62 (by decide) ?_
    exact hko7 x1 v1 v2 M L H locs hP hD hS ls (lv_sub hl [2, 3, 1, 0] rfl) h
  have lb39 : ∀ (ko7 : Int64 → Int32 → Int32 → (Nat → Nat → Int32) → Int64 → Option (Int32 × (Nat → Nat → Int32) × Int64)), (∀ (x1 : Int64) (x3 : Int32) (x4 : Int32) (M : Nat → Nat → Int32) (L : Int64), ∀ (H : Heap) (locs : List Loc), va_P D vwCl (xM a k M L) H → va_D A (xM a k M L) → va_S A s.heap H locs → ∀ ls : Array Slot, lv_has ls 5 [(0, .ref (a 0)), (1, .long x1), (3, .int x3), (4, .int x4)] → ko7 x1 x3 x4 M L = some (r, Mz, Lz) → W p l e rm_X5_mean s m args below meth c H locs 0 0 Q (F0 m 7 ls [])) → ∀ (x3 : Int32) (x4 : Int32) (s0 : Int64) (s1 : Int64) (M : Nat → Nat → Int32) (L : Int64), ∀ (H : Heap) (locs : List Loc), va_P D vwCl (xM a k M L) H → va_D A (xM a k M L) → va_S A s.heap H locs → ∀ ls : Array Slot, lv_has ls 5 [(0, .ref (a 0)), (3, .int x3), (4, .int x4)] → f_X5_mean_J39  ko7 x3 x4 s0 s1 M L = some (r, Mz, Lz) → W p l e rm_X5_mean s m args below meth c H locs 0 0 Q (F0 m 39 ls [.long s0, .long s1]) := by
    intro ko7 hko7 x3 x4 s0 s1 M L H locs hP hD hS ls hl h
    rw [f_X5_mean_J39] at h
    refine lv_ladd hx hb dX5_mean_39 ?_
    refine lv_topl (fun v3 ev3 => ?_)
    have h := ltt_s ev3 h
    refine lv_lstore_n (lv' := [(1, .long v3), (0, .ref (a 0)), (3, .int x3), (4, .int x4)]) hx hb dX5_mean_40 rfl hl (by decide) rfl (fun ls hl => ?_)
    refine lv_iload_n hx hb dX5_mean_41 rfl (lv_at hl 2 rfl) ?_
    refine lv_aload_n hx hb dX5_mean_42 rfl (lv_at hl 1 rfl) ?_
    refine va_get (D := D) (ci := 5) (v := .ref (a 7)) (C := RX5) (T := TX5) (N := 20) hx hb hts hin5 hown hK hP 0 rfl rfl 9 (by decide) (hts (.fieldLink RX5 28 "BallastLineModel" "isLost" "[Z") (List.mem_of_getElem? (i := 2) rfl)) (fun _ h9 => h9) rfl dX5_mean_43 ?_
    refine lv_iload hx hb dX5_mean_46 (lv_at hl 3 rfl) ?_
    obtain ⟨g4, h⟩ := gd_s h
    refine va_zald hx hb hK hP 7 6 rfl rfl (inb_in g4) dX5_mean_48 ?_
    refine lv_if_eq (tgt := 56) hx hb dX5_mean_49 (by decide) (fun c5 => ?_) (fun c5 => ?_)
    · have h := it_t c5 h
      refine lv_iconst (v := (1 : Int32)) hx hb dX5_mean_56 (by decide) ?_
      exact lb57 ko7 hko7 v3 x4 (1 : Int32) x3 M L H locs hP hD hS ls (lv_sub hl [1, 0, 3] rfl) h
    · have h := it_f c5 h
      refine lv_iconst (v := (0 : Int32)) hx hb dX5_mean_52 (by decide) ?_
      refine lv_goto (tgt := 57) hx hb dX5_mean_53 (by decide) ?_
      exact lb57 ko7 hko7 v3 x4 (0 : Int32) x3 M L H locs hP hD hS ls (lv_sub hl [1, 0, 3] rfl) h
  have lb7 : ∀ (n : Nat), ∀ (x1 : Int64) (x3 : Int32) (x4 : Int32) (M : Nat → Nat → Int32) (L : Int64), ∀ (H : Heap) (locs : List Loc), va_P D vwCl (xM a k M L) H → va_D A (xM a k M L) → va_S A s.heap H locs → ∀ ls : Array Slot, lv_has ls 5 [(0, .ref (a 0)), (1, .long x1), (3, .int x3), (4, .int x4)] → f_X5_mean_L7  n x1 x3 x4 M L = some (r, Mz, Lz) → W p l e rm_X5_mean s m args below meth c H locs 0 0 Q (F0 m 7 ls []) := by
    intro n
    induction n with
    | zero =>
      intro x1 x3 x4 M L H locs hP hD hS ls hl h
      rw [f_X5_mean_L7] at h
      cases h
    | succ n ih =>
      intro x1 x3 x4 M L H locs hP hD hS ls hl h
      rw [f_X5_mean_L7] at h
      refine lv_iload hx hb dX5_mean_7 (lv_at hl 3 rfl) ?_
      refine lv_aload_n hx hb dX5_mean_9 rfl (lv_at hl 0 rfl) ?_
      refine va_get (D := D) (ci := 5) (v := .int (M 3 0)) (C := RX5) (T := TX5) (N := 20) hx hb hts hin5 hown hK hP 0 rfl rfl 3 (by decide) (hts (.fieldLink RX5 72 "BallastLineModel" "many" "I") (List.mem_of_getElem? (i := 1) rfl)) (fun _ h9 => h9) rfl dX5_mean_10 ?_
      refine lv_icmp_ge (tgt := 65) hx hb dX5_mean_13 (by decide) (fun c6 => ?_) (fun c6 => ?_)
      · have h := it_t c6 h
        refine lv_iload_n hx hb dX5_mean_65 rfl (lv_at hl 2 rfl) ?_
        refine lv_if_ne (tgt := 77) hx hb dX5_mean_66 (by decide) (fun c7 => ?_) (fun c7 => ?_)
        · have h := it_f c7 h
          refine lv_aload_n hx hb dX5_mean_77 rfl (lv_at hl 0 rfl) ?_
          refine lv_lload_n hx hb dX5_mean_78 rfl (lv_at hl 1 rfl) ?_
          refine lv_iload_n hx hb dX5_mean_79 rfl (lv_at hl 2 rfl) ?_
          obtain ⟨r8, q8, h⟩ := b1_s h
          refine go_i (run_S (As := [.long x1, .int x3]) (rest := [.ref (a 0)]) ⟨hx, hb, hml, hown, hts⟩ hnw hK hP hD (fr_M_E a k M L) (ks_M_E k) (c_X5_floor l D H.size x1 x3 r8 q8) (cwS 2 hts gX5_mean_X5_floor rfl rfl rfl (by decide +kernel) ⟨Nat.le_of_ble_eq_true rfl, Nat.le_of_ble_eq_true rfl⟩) rfl hl.1 rfl (Nat.le_of_ble_eq_true rfl) dX5_mean_80 ⟨Nat.zero_le _, Nat.zero_le _⟩) hP hD hS hA (fr_M_E a k M L) (fun H locs hP hD hS => ?_)
          refine lv_i2l (v := (Int32.toInt64 r8)) hx hb dX5_mean_83 rfl ?_
          refine lv_iconst (v := (1 : Int32)) hx hb dX5_mean_84 (by decide) ?_
          obtain ⟨r9, L_9, q9, h⟩ := b2_s h
          refine go_i (run_V (As := [.long (Int32.toInt64 r8), .int (1 : Int32)]) (rest := []) ⟨hx, hb, hml, hown, hts⟩ hnw hK hP hD (fr_M_M a k M L M L_9) (ks_M_M k) (c_X5_tell l D a k H.size M L (Int32.toInt64 r8) (1 : Int32) r9 L_9 q9) (cwV 2 hts gX5_mean_X5_tell rfl rfl rfl (by decide +kernel) ⟨Nat.le_of_ble_eq_true rfl, Nat.le_of_ble_eq_true rfl⟩) (rcv_M a k M L) rfl hl.1 rfl (Nat.le_of_ble_eq_true rfl) dX5_mean_85 ⟨Nat.zero_le _, Nat.zero_le _⟩) hP hD hS hA (fr_M_M a k M L M L_9) (fun H locs hP hD hS => ?_)
          have h := Option.some.inj h
          obtain ⟨hz0, h⟩ := Prod.mk.inj h
          obtain ⟨hz1, h⟩ := Prod.mk.inj h
          have hP : va_P D vwCl (xM a k Mz Lz) H := by rw [← hz1, ← h]; exact hP
          have hD : va_D A (xM a k Mz Lz) := by rw [← hz1, ← h]; exact hD
          subst hQ
          subst hAe
          exact r_i hx hb hr hlocks hz0 hP hD hS dX5_mean_88
        · have h := it_t c7 h
          refine lv_aload_n hx hb dX5_mean_69 rfl (lv_at hl 0 rfl) ?_
          refine lv_iconst (v := (4 : Int32)) hx hb dX5_mean_70 (by decide) ?_
          obtain ⟨r10, M_10, q10, h⟩ := b2_s h
          refine go_i (run_V (As := [.int (4 : Int32)]) (rest := []) ⟨hx, hb, hml, hown, hts⟩ hnw hK hP hD (fr_M_M a k M L M_10 L) (ks_M_M k) (c_X5_meets l D a k H.size M L (4 : Int32) r10 M_10 q10) (cwV 1 hts gX5_mean_X5_meets rfl rfl rfl (by decide +kernel) ⟨Nat.le_of_ble_eq_true rfl, Nat.le_of_ble_eq_true rfl⟩) (rcv_M a k M L) rfl hl.1 rfl (Nat.le_of_ble_eq_true rfl) dX5_mean_71 ⟨Nat.zero_le _, Nat.zero_le _⟩) hP hD hS hA (fr_M_M a k M L M_10 L) (fun H locs hP hD hS => ?_)
          refine lv_goto (tgt := 88) hx hb dX5_mean_74 (by decide) ?_
          have h := Option.some.inj h
          obtain ⟨hz0, h⟩ := Prod.mk.inj h
          obtain ⟨hz1, h⟩ := Prod.mk.inj h
          have hP : va_P D vwCl (xM a k Mz Lz) H := by rw [← hz1, ← h]; exact hP
          have hD : va_D A (xM a k Mz Lz) := by rw [← hz1, ← h]; exact hD
          subst hQ
          subst hAe
          exact r_i hx hb hr hlocks hz0 hP hD hS dX5_mean_88
      · have h := it_f c6 h
        refine lv_lload_n hx hb dX5_mean_16 rfl (lv_at hl 1 rfl) ?_
        refine lv_aload_n hx hb dX5_mean_17 rfl (lv_at hl 0 rfl) ?_
        refine va_get (D := D) (ci := 5) (v := .ref (a 7)) (C := RX5) (T := TX5) (N := 20) hx hb hts hin5 hown hK hP 0 rfl rfl 9 (by decide) (hts (.fieldLink RX5 28 "BallastLineModel" "isLost" "[Z") (List.mem_of_getElem? (i := 2) rfl)) (fun _ h9 => h9) rfl dX5_mean_18 ?_
        refine lv_iload hx hb dX5_mean_21 (lv_at hl 3 rfl) ?_
        obtain ⟨g11, h⟩ := gd_s h
        refine va_zald hx hb hK hP 7 6 rfl rfl (inb_in g11) dX5_mean_23 ?_
        refine lv_if_eq (tgt := 31) hx hb dX5_mean_24 (by decide) (fun c12 => ?_) (fun c12 => ?_)
        · have h := it_t c12 h
          refine lv_aload_n hx hb dX5_mean_31 rfl (lv_at hl 0 rfl) ?_
          refine va_get (D := D) (ci := 5) (v := .ref (a 3)) (C := RX5) (T := TX5) (N := 20) hx hb hts hin5 hown hK hP 0 rfl rfl 5 (by decide) (hts (.fieldLink RX5 16 "BallastLineModel" "beds" "[I") (List.mem_of_getElem? (i := 3) rfl)) (fun _ h9 => h9) rfl dX5_mean_32 ?_
          refine lv_iload hx hb dX5_mean_35 (lv_at hl 3 rfl) ?_
          obtain ⟨g13, h⟩ := gd_s h
          refine va_iald hx hb hK hP 3 2 rfl rfl (inb_in g13) dX5_mean_37 ?_
          refine lv_i2l (v := (Int32.toInt64 (M 5 (Int32.toNatClampNeg x4)))) hx hb dX5_mean_38 rfl ?_
          exact lb39 (f_X5_mean_L7  n) ih x3 x4 (Int32.toInt64 (M 5 (Int32.toNatClampNeg x4))) x1 M L H locs hP hD hS ls (lv_sub hl [0, 2, 3] rfl) h
        · have h := it_f c12 h
          refine lv_lconst (v := (0 : Int64)) hx hb dX5_mean_27 (by decide) ?_
          refine lv_goto (tgt := 39) hx hb dX5_mean_28 (by decide) ?_
          exact lb39 (f_X5_mean_L7  n) ih x3 x4 (0 : Int64) x1 M L H locs hP hD hS ls (lv_sub hl [0, 2, 3] rfl) h
  rw [f_X5_mean] at h
  obtain ⟨H, hH⟩ : ∃ H, H = s.heap := ⟨_, rfl⟩
  obtain ⟨locs, hlc⟩ : ∃ L : List Loc, L = [] := ⟨_, rfl⟩
  rw [← hH] at hP
  have hS : va_S A s.heap H locs := by rw [hH, hlc]; exact hS
  suffices hW9 : W p l e rm_X5_mean s m args below meth c H locs 0 0 Q (F0 m 0 ls []) by rw [hH, hlc] at hW9; exact hW9
  refine lv_lconst (v := (0 : Int64)) hx hb dX5_mean_0 (by decide) ?_
  refine lv_lstore_n (lv' := [(1, .long (0 : Int64)), (0, .ref (a 0))]) hx hb dX5_mean_1 rfl hl (by decide) rfl (fun ls hl => ?_)
  refine lv_iconst (v := (0 : Int32)) hx hb dX5_mean_2 (by decide) ?_
  refine lv_istore_n (lv' := [(3, .int (0 : Int32)), (1, .long (0 : Int64)), (0, .ref (a 0))]) hx hb dX5_mean_3 rfl hl (by decide) rfl (fun ls hl => ?_)
  refine lv_iconst (v := (0 : Int32)) hx hb dX5_mean_4 (by decide) ?_
  refine lv_istore (lv' := [(4, .int (0 : Int32)), (3, .int (0 : Int32)), (1, .long (0 : Int64)), (0, .ref (a 0))]) hx hb dX5_mean_5 hl (by decide) rfl (fun ls hl => ?_)
  exact lb7 64 (0 : Int64) (0 : Int32) (0 : Int32) M0 L0 H locs hP hD hS ls (lv_sub hl [3, 2, 1, 0] rfl) h
def f_X5_lift_J119  (p0 : Int32) (p1 : Int32) (p2 : Int32) (ko42 : Int32 → Int32 → (Nat → Nat → Int32) → Option (Int32 × (Nat → Nat → Int32))) (x4 : Int32) (x5 : Int32) (M : Nat → Nat → Int32) : Option (Int32 × (Nat → Nat → Int32)) := ltt (x5 + (1 : Int32)) (fun v1 => ko42 x4 v1 M)
def f_X5_lift_J115  (p0 : Int32) (p1 : Int32) (p2 : Int32) (ko42 : Int32 → Int32 → (Nat → Nat → Int32) → Option (Int32 × (Nat → Nat → Int32))) (x4 : Int32) (x5 : Int32) (s0 : Int32) (s1 : Int32) (M : Nat → Nat → Int32) : Option (Int32 × (Nat → Nat → Int32)) := gd (inb s1 40) (ltt (st M 6 (Int32.toNatClampNeg s1) s0) (fun (M_3 : Nat → Nat → Int32) => ltt (x4 + (1 : Int32)) (fun v4 => f_X5_lift_J119 p0 p1 p2 ko42 v4 x5 M_3)))
def f_X5_lift_L42  (p0 : Int32) (p1 : Int32) (p2 : Int32)  : Nat → Int32 → Int32 → (Nat → Nat → Int32) → Option (Int32 × (Nat → Nat → Int32))
  | 0, _, _, _ => none
  | n + 1, x4, x5, M => if p1 < x5 then (some (x4, M)) else (gd (inb x5 40) (if (M 9 (Int32.toNatClampNeg x5)) = (0 : Int32) then (gd (inb x5 40) (if p2 ≤ (M 5 (Int32.toNatClampNeg x5)) then (f_X5_lift_J119 p0 p1 p2 (f_X5_lift_L42 p0 p1 p2 n) x4 x5 M) else (gd (inb x5 40) (ltt (st M 5 (Int32.toNatClampNeg x5) p2) (fun (M_11 : Nat → Nat → Int32) => gd (inb x5 40) (ltt (st M_11 7 (Int32.toNatClampNeg x5) (0 : Int32)) (fun (M_13 : Nat → Nat → Int32) => gd (inb x5 40) (if (M_13 6 (Int32.toNatClampNeg x5)) ≤ (1 : Int32) then (f_X5_lift_J115 p0 p1 p2 (f_X5_lift_L42 p0 p1 p2 n) x4 x5 (1 : Int32) x5 M_13) else (gd (inb x5 40) (f_X5_lift_J115 p0 p1 p2 (f_X5_lift_L42 p0 p1 p2 n) x4 x5 ((M_13 6 (Int32.toNatClampNeg x5)) - (1 : Int32)) x5 M_13)))))))))) else (f_X5_lift_J119 p0 p1 p2 (f_X5_lift_L42 p0 p1 p2 n) x4 x5 M)))
def f_X5_lift (M0 : Nat → Nat → Int32) (p0 : Int32) (p1 : Int32) (p2 : Int32) : Option (Int32 × (Nat → Nat → Int32)) := b1 (f_X5_isSleeper M0 p0) (fun r17 => if r17 = (0 : Int32) then (some ((-1 : Int32), M0)) else (b1 (f_X5_isSleeper M0 p1) (fun r19 => if r19 = (0 : Int32) then (some ((-1 : Int32), M0)) else (if p1 < p0 then (some ((-1 : Int32), M0)) else (b1 (f_X5_in p2 (-10000 : Int32) (10000 : Int32)) (fun r22 => if r22 = (0 : Int32) then (some ((-1 : Int32), M0)) else (f_X5_lift_L42 p0 p1 p2 64 (0 : Int32) p0 M0)))))))
abbrev rm_X5_lift : Room := { frames := 2, cells := 0, slots := 0, locals := 43 }
set_option maxHeartbeats 4000000 in
set_option maxRecDepth 100000 in
theorem c_X5_lift (l : Launch) (D : va_G) (a : Nat → Nat) (k : Nat → ClassId) (sz : Nat) (M0 : Nat → Nat → Int32) (L0 : Int64) (p0 : Int32) (p1 : Int32) (p2 : Int32) (r : Int32) (Mz : (Nat → Nat → Int32)) (h : f_X5_lift M0 p0 p1 p2 = some (r, Mz)) : Met l yX5_lift wsX5_lift rm_X5_lift (mPc D [.ref (a 0), .int p0, .int p1, .int p2] (xM a k M0 L0) (tM k) sz) (mQi D (xM a k M0 L0) (xM a k Mz L0) sz r) 0 0 (va_A (xM a k M0 L0) sz) := by
  refine mk_met (cc := cX5_lift) (maxL := 6) (ret := (some .int)) (by decide) rfl (Nat.le_of_ble_eq_true rfl) ?_
  intro p e s m below meth c hx hb hr hml hts hown hmn hlocks hnw hsz hK hP hD hS hA ls hl
  obtain ⟨A, hAe⟩ : ∃ A, A = va_A (xM a k M0 L0) sz := ⟨_, rfl⟩
  rw [← hAe] at hD hS hA
  generalize hargs : List.toArray ([.ref (a 0), .int p0, .int p1, .int p2] : List Value) = args at hts ⊢
  generalize hQ : MQ below (mQi D (xM a k M0 L0) (xM a k Mz L0) sz r) args s 0 0 (va_A (xM a k M0 L0) sz) = Q
  have hl : lv_has ls 6 [(0, .ref (a 0)), (1, .int p0), (2, .int p1), (3, .int p2)] := hl
  have hin5 : ∀ w ∈ wsX50, w ∈ wsX5_lift := fun w h => List.mem_cons_of_mem _ (List.mem_append_right _ h)
  have lb119 : ∀ (ko42 : Int32 → Int32 → (Nat → Nat → Int32) → Option (Int32 × (Nat → Nat → Int32))), (∀ (x4 : Int32) (x5 : Int32) (M : Nat → Nat → Int32), ∀ (H : Heap) (locs : List Loc), va_P D vwCl (xM a k M L0) H → va_D A (xM a k M L0) → va_S A s.heap H locs → ∀ ls : Array Slot, lv_has ls 6 [(0, .ref (a 0)), (2, .int p1), (3, .int p2), (4, .int x4), (5, .int x5)] → ko42 x4 x5 M = some (r, Mz) → W p l e rm_X5_lift s m args below meth c H locs 0 0 Q (F0 m 42 ls [])) → ∀ (x4 : Int32) (x5 : Int32) (M : Nat → Nat → Int32), ∀ (H : Heap) (locs : List Loc), va_P D vwCl (xM a k M L0) H → va_D A (xM a k M L0) → va_S A s.heap H locs → ∀ ls : Array Slot, lv_has ls 6 [(0, .ref (a 0)), (2, .int p1), (3, .int p2), (4, .int x4), (5, .int x5)] → f_X5_lift_J119 p0 p1 p2 ko42 x4 x5 M = some (r, Mz) → W p l e rm_X5_lift s m args below meth c H locs 0 0 Q (F0 m 119 ls []) := by
    intro ko42 hko42 x4 x5 M H locs hP hD hS ls hl h
    rw [f_X5_lift_J119] at h
    obtain ⟨v1, ev1⟩ : ∃ y : Int32, y = x5 + (1 : Int32) := ⟨_, rfl⟩
    have h := ltt_s ev1 h
    refine lv_iinc (v := v1) (lv' := [(5, .int v1), (0, .ref (a 0)), (2, .int p1), (3, .int p2), (4, .int x4)]) hx hb dX5_lift_119 hl (k := 4) rfl (by rw [ev1]; rfl) (by decide) rfl (fun ls hl => ?_)
    refine lv_goto (tgt := 42) hx hb dX5_lift_122 (by decide) ?_
    exact hko42 x4 v1 M H locs hP hD hS ls (lv_sub hl [1, 2, 3, 4, 0] rfl) h
  have lb115 : ∀ (ko42 : Int32 → Int32 → (Nat → Nat → Int32) → Option (Int32 × (Nat → Nat → Int32))), (∀ (x4 : Int32) (x5 : Int32) (M : Nat → Nat → Int32), ∀ (H : Heap) (locs : List Loc), va_P D vwCl (xM a k M L0) H → va_D A (xM a k M L0) → va_S A s.heap H locs → ∀ ls : Array Slot, lv_has ls 6 [(0, .ref (a 0)), (2, .int p1), (3, .int p2), (4, .int x4), (5, .int x5)] → ko42 x4 x5 M = some (r, Mz) → W p l e rm_X5_lift s m args below meth c H locs 0 0 Q (F0 m 42 ls [])) → ∀ (x4 : Int32) (x5 : Int32) (s0 : Int32) (s1 : Int32) (M : Nat → Nat → Int32), ∀ (H : Heap) (locs : List Loc), va_P D vwCl (xM a k M L0) H → va_D A (xM a k M L0) → va_S A s.heap H locs → ∀ ls : Array Slot, lv_has ls 6 [(0, .ref (a 0)), (2, .int p1), (3, .int p2), (4, .int x4), (5, .int x5)] → f_X5_lift_J115 p0 p1 p2 ko42 x4 x5 s0 s1 M = some (r, Mz) → W p l e rm_X5_lift s m args below meth c H locs 0 0 Q (F0 m 115 ls [.int s0, .int s1, .ref (a 4)]) := by
    intro ko42 hko42 x4 x5 s0 s1 M H locs hP hD hS ls hl h
    rw [f_X5_lift_J115] at h
    obtain ⟨g2, h⟩ := gd_s h
    refine va_iast hx hb hK hP hD hS 4 3 rfl rfl (inb_in g2) dX5_lift_115 (fun H locs hP hD hS => ?_)
    obtain ⟨M_3, eM_3⟩ : ∃ y : Nat → Nat → Int32, y = st M 6 (Int32.toNatClampNeg s1) s0 := ⟨_, rfl⟩
    have h := ltt_s eM_3 h
    have hP : va_P D vwCl (xM a k M_3 L0) H := by rw [eM_3]; exact hP
    have hD : va_D A (xM a k M_3 L0) := by rw [eM_3]; exact hD
    obtain ⟨v4, ev4⟩ : ∃ y : Int32, y = x4 + (1 : Int32) := ⟨_, rfl⟩
    have h := ltt_s ev4 h
    refine lv_iinc (v := v4) (lv' := [(4, .int v4), (0, .ref (a 0)), (2, .int p1), (3, .int p2), (5, .int x5)]) hx hb dX5_lift_116 hl (k := 3) rfl (by rw [ev4]; rfl) (by decide) rfl (fun ls hl => ?_)
    exact lb119 ko42 hko42 v4 x5 M_3 H locs hP hD hS ls (lv_sub hl [1, 2, 3, 0, 4] rfl) h
  have lb42 : ∀ (n : Nat), ∀ (x4 : Int32) (x5 : Int32) (M : Nat → Nat → Int32), ∀ (H : Heap) (locs : List Loc), va_P D vwCl (xM a k M L0) H → va_D A (xM a k M L0) → va_S A s.heap H locs → ∀ ls : Array Slot, lv_has ls 6 [(0, .ref (a 0)), (2, .int p1), (3, .int p2), (4, .int x4), (5, .int x5)] → f_X5_lift_L42 p0 p1 p2 n x4 x5 M = some (r, Mz) → W p l e rm_X5_lift s m args below meth c H locs 0 0 Q (F0 m 42 ls []) := by
    intro n
    induction n with
    | zero =>
      intro x4 x5 M H locs hP hD hS ls hl h
      rw [f_X5_lift_L42] at h
      cases h
    | succ n ih =>
      intro x4 x5 M H locs hP hD hS ls hl h
      rw [f_X5_lift_L42] at h
      refine lv_iload hx hb dX5_lift_42 (lv_at hl 4 rfl) ?_
      refine lv_iload_n hx hb dX5_lift_44 rfl (lv_at hl 1 rfl) ?_
      refine lv_icmp_gt (tgt := 125) hx hb dX5_lift_45 (by decide) (fun c5 => ?_) (fun c5 => ?_)
      · have h := it_t c5 h
        refine lv_iload hx hb dX5_lift_125 (lv_at hl 3 rfl) ?_
        have h := Option.some.inj h
        obtain ⟨hz0, h⟩ := Prod.mk.inj h
        have hP : va_P D vwCl (xM a k Mz L0) H := by rw [← h]; exact hP
        have hD : va_D A (xM a k Mz L0) := by rw [← h]; exact hD
        subst hQ
        subst hAe
        exact r_i hx hb hr hlocks hz0 hP hD hS dX5_lift_127
      · have h := it_f c5 h
        refine lv_aload_n hx hb dX5_lift_48 rfl (lv_at hl 0 rfl) ?_
        refine va_get (D := D) (ci := 5) (v := .ref (a 7)) (C := RX5) (T := TX5) (N := 20) hx hb hts hin5 hown hK hP 0 rfl rfl 9 (by decide) (hts (.fieldLink RX5 28 "BallastLineModel" "isLost" "[Z") (List.mem_of_getElem? (i := 1) rfl)) (fun _ h9 => h9) rfl dX5_lift_49 ?_
        refine lv_iload hx hb dX5_lift_52 (lv_at hl 4 rfl) ?_
        obtain ⟨g6, h⟩ := gd_s h
        refine va_zald hx hb hK hP 7 6 rfl rfl (inb_in g6) dX5_lift_54 ?_
        refine lv_if_ne (tgt := 119) hx hb dX5_lift_55 (by decide) (fun c7 => ?_) (fun c7 => ?_)
        · have h := it_f c7 h
          exact lb119 (f_X5_lift_L42 p0 p1 p2 n) ih x4 x5 M H locs hP hD hS ls (lv_sub hl [0, 1, 2, 3, 4] rfl) h
        · have h := it_t c7 h
          refine lv_aload_n hx hb dX5_lift_58 rfl (lv_at hl 0 rfl) ?_
          refine va_get (D := D) (ci := 5) (v := .ref (a 3)) (C := RX5) (T := TX5) (N := 20) hx hb hts hin5 hown hK hP 0 rfl rfl 5 (by decide) (hts (.fieldLink RX5 16 "BallastLineModel" "beds" "[I") (List.mem_of_getElem? (i := 2) rfl)) (fun _ h9 => h9) rfl dX5_lift_59 ?_
          refine lv_iload hx hb dX5_lift_62 (lv_at hl 4 rfl) ?_
          obtain ⟨g8, h⟩ := gd_s h
          refine va_iald hx hb hK hP 3 2 rfl rfl (inb_in g8) dX5_lift_64 ?_
          refine lv_iload_n hx hb dX5_lift_65 rfl (lv_at hl 2 rfl) ?_
          refine lv_icmp_ge (tgt := 119) hx hb dX5_lift_66 (by decide) (fun c9 => ?_) (fun c9 => ?_)
          · have h := it_t c9 h
            exact lb119 (f_X5_lift_L42 p0 p1 p2 n) ih x4 x5 M H locs hP hD hS ls (lv_sub hl [0, 1, 2, 3, 4] rfl) h
          · have h := it_f c9 h
            refine lv_aload_n hx hb dX5_lift_69 rfl (lv_at hl 0 rfl) ?_
            refine va_get (D := D) (ci := 5) (v := .ref (a 3)) (C := RX5) (T := TX5) (N := 20) hx hb hts hin5 hown hK hP 0 rfl rfl 5 (by decide) (hts (.fieldLink RX5 16 "BallastLineModel" "beds" "[I") (List.mem_of_getElem? (i := 2) rfl)) (fun _ h9 => h9) rfl dX5_lift_70 ?_
            refine lv_iload hx hb dX5_lift_73 (lv_at hl 4 rfl) ?_
            refine lv_iload_n hx hb dX5_lift_75 rfl (lv_at hl 2 rfl) ?_
            obtain ⟨g10, h⟩ := gd_s h
            refine va_iast hx hb hK hP hD hS 3 2 rfl rfl (inb_in g10) dX5_lift_76 (fun H locs hP hD hS => ?_)
            obtain ⟨M_11, eM_11⟩ : ∃ y : Nat → Nat → Int32, y = st M 5 (Int32.toNatClampNeg x5) p2 := ⟨_, rfl⟩
            have h := ltt_s eM_11 h
            have hP : va_P D vwCl (xM a k M_11 L0) H := by rw [eM_11]; exact hP
            have hD : va_D A (xM a k M_11 L0) := by rw [eM_11]; exact hD
            refine lv_aload_n hx hb dX5_lift_77 rfl (lv_at hl 0 rfl) ?_
            refine va_get (D := D) (ci := 5) (v := .ref (a 5)) (C := RX5) (T := TX5) (N := 20) hx hb hts hin5 hown hK hP 0 rfl rfl 7 (by decide) (hts (.fieldLink RX5 22 "BallastLineModel" "hundredths" "[I") (List.mem_of_getElem? (i := 3) rfl)) (fun _ h9 => h9) rfl dX5_lift_78 ?_
            refine lv_iload hx hb dX5_lift_81 (lv_at hl 4 rfl) ?_
            refine lv_iconst (v := (0 : Int32)) hx hb dX5_lift_83 (by decide) ?_
            obtain ⟨g12, h⟩ := gd_s h
            refine va_iast hx hb hK hP hD hS 5 4 rfl rfl (inb_in g12) dX5_lift_84 (fun H locs hP hD hS => ?_)
            obtain ⟨M_13, eM_13⟩ : ∃ y : Nat → Nat → Int32, y = st M_11 7 (Int32.toNatClampNeg x5) (0 : Int32) := ⟨_, rfl⟩
            have h := ltt_s eM_13 h
            have hP : va_P D vwCl (xM a k M_13 L0) H := by rw [eM_13]; exact hP
            have hD : va_D A (xM a k M_13 L0) := by rw [eM_13]; exact hD
            refine lv_aload_n hx hb dX5_lift_85 rfl (lv_at hl 0 rfl) ?_
            refine va_get (D := D) (ci := 5) (v := .ref (a 4)) (C := RX5) (T := TX5) (N := 20) hx hb hts hin5 hown hK hP 0 rfl rfl 6 (by decide) (hts (.fieldLink RX5 19 "BallastLineModel" "stones" "[I") (List.mem_of_getElem? (i := 4) rfl)) (fun _ h9 => h9) rfl dX5_lift_86 ?_
            refine lv_iload hx hb dX5_lift_89 (lv_at hl 4 rfl) ?_
            refine lv_aload_n hx hb dX5_lift_91 rfl (lv_at hl 0 rfl) ?_
            refine va_get (D := D) (ci := 5) (v := .ref (a 4)) (C := RX5) (T := TX5) (N := 20) hx hb hts hin5 hown hK hP 0 rfl rfl 6 (by decide) (hts (.fieldLink RX5 19 "BallastLineModel" "stones" "[I") (List.mem_of_getElem? (i := 4) rfl)) (fun _ h9 => h9) rfl dX5_lift_92 ?_
            refine lv_iload hx hb dX5_lift_95 (lv_at hl 4 rfl) ?_
            obtain ⟨g14, h⟩ := gd_s h
            refine va_iald hx hb hK hP 4 3 rfl rfl (inb_in g14) dX5_lift_97 ?_
            refine lv_iconst (v := (1 : Int32)) hx hb dX5_lift_98 (by decide) ?_
            refine lv_icmp_le (tgt := 114) hx hb dX5_lift_99 (by decide) (fun c15 => ?_) (fun c15 => ?_)
            · have h := it_t c15 h
              refine lv_iconst (v := (1 : Int32)) hx hb dX5_lift_114 (by decide) ?_
              exact lb115 (f_X5_lift_L42 p0 p1 p2 n) ih x4 x5 (1 : Int32) x5 M_13 H locs hP hD hS ls (lv_sub hl [0, 1, 2, 3, 4] rfl) h
            · have h := it_f c15 h
              refine lv_aload_n hx hb dX5_lift_102 rfl (lv_at hl 0 rfl) ?_
              refine va_get (D := D) (ci := 5) (v := .ref (a 4)) (C := RX5) (T := TX5) (N := 20) hx hb hts hin5 hown hK hP 0 rfl rfl 6 (by decide) (hts (.fieldLink RX5 19 "BallastLineModel" "stones" "[I") (List.mem_of_getElem? (i := 4) rfl)) (fun _ h9 => h9) rfl dX5_lift_103 ?_
              refine lv_iload hx hb dX5_lift_106 (lv_at hl 4 rfl) ?_
              obtain ⟨g16, h⟩ := gd_s h
              refine va_iald hx hb hK hP 4 3 rfl rfl (inb_in g16) dX5_lift_108 ?_
              refine lv_iconst (v := (1 : Int32)) hx hb dX5_lift_109 (by decide) ?_
              refine lv_isub hx hb dX5_lift_110 ?_
              refine lv_goto (tgt := 115) hx hb dX5_lift_111 (by decide) ?_
              exact lb115 (f_X5_lift_L42 p0 p1 p2 n) ih x4 x5 ((M_13 6 (Int32.toNatClampNeg x5)) - (1 : Int32)) x5 M_13 H locs hP hD hS ls (lv_sub hl [0, 1, 2, 3, 4] rfl) h
  rw [f_X5_lift] at h
  obtain ⟨H, hH⟩ : ∃ H, H = s.heap := ⟨_, rfl⟩
  obtain ⟨locs, hlc⟩ : ∃ L : List Loc, L = [] := ⟨_, rfl⟩
  rw [← hH] at hP
  have hS : va_S A s.heap H locs := by rw [hH, hlc]; exact hS
  suffices hW9 : W p l e rm_X5_lift s m args below meth c H locs 0 0 Q (F0 m 0 ls []) by rw [hH, hlc] at hW9; exact hW9
  refine lv_aload_n hx hb dX5_lift_0 rfl (lv_at hl 0 rfl) ?_
  refine lv_iload_n hx hb dX5_lift_1 rfl (lv_at hl 1 rfl) ?_
  obtain ⟨r17, q17, h⟩ := b1_s h
  refine go_i (run_V (As := [.int p0]) (rest := []) ⟨hx, hb, hml, hown, hts⟩ hnw hK hP hD (fr_M_M a k M0 L0 M0 L0) (ks_M_M k) (c_X5_isSleeper l D a k H.size M0 L0 p0 r17 q17) (cwV 1 hts gX5_lift_X5_isSleeper rfl rfl rfl (by decide +kernel) ⟨Nat.le_of_ble_eq_true rfl, Nat.le_of_ble_eq_true rfl⟩) (rcv_M a k M0 L0) rfl hl.1 rfl (Nat.le_of_ble_eq_true rfl) dX5_lift_2 ⟨Nat.zero_le _, Nat.zero_le _⟩) hP hD hS hA (fr_M_M a k M0 L0 M0 L0) (fun H locs hP hD hS => ?_)
  refine lv_if_eq (tgt := 34) hx hb dX5_lift_5 (by decide) (fun c18 => ?_) (fun c18 => ?_)
  · have h := it_t c18 h
    refine lv_iconst (v := (-1 : Int32)) hx hb dX5_lift_34 (by decide) ?_
    have h := Option.some.inj h
    obtain ⟨hz0, h⟩ := Prod.mk.inj h
    have hP : va_P D vwCl (xM a k Mz L0) H := by rw [← h]; exact hP
    have hD : va_D A (xM a k Mz L0) := by rw [← h]; exact hD
    subst hQ
    subst hAe
    exact r_i hx hb hr hlocks hz0 hP hD hS dX5_lift_35
  · have h := it_f c18 h
    refine lv_aload_n hx hb dX5_lift_8 rfl (lv_at hl 0 rfl) ?_
    refine lv_iload_n hx hb dX5_lift_9 rfl (lv_at hl 2 rfl) ?_
    obtain ⟨r19, q19, h⟩ := b1_s h
    refine go_i (run_V (As := [.int p1]) (rest := []) ⟨hx, hb, hml, hown, hts⟩ hnw hK hP hD (fr_M_M a k M0 L0 M0 L0) (ks_M_M k) (c_X5_isSleeper l D a k H.size M0 L0 p1 r19 q19) (cwV 1 hts gX5_lift_X5_isSleeper rfl rfl rfl (by decide +kernel) ⟨Nat.le_of_ble_eq_true rfl, Nat.le_of_ble_eq_true rfl⟩) (rcv_M a k M0 L0) rfl hl.1 rfl (Nat.le_of_ble_eq_true rfl) dX5_lift_10 ⟨Nat.zero_le _, Nat.zero_le _⟩) hP hD hS hA (fr_M_M a k M0 L0 M0 L0) (fun H locs hP hD hS => ?_)
    refine lv_if_eq (tgt := 34) hx hb dX5_lift_13 (by decide) (fun c20 => ?_) (fun c20 => ?_)
    · have h := it_t c20 h
      refine lv_iconst (v := (-1 : Int32)) hx hb dX5_lift_34 (by decide) ?_
      have h := Option.some.inj h
      obtain ⟨hz0, h⟩ := Prod.mk.inj h
      have hP : va_P D vwCl (xM a k Mz L0) H := by rw [← h]; exact hP
      have hD : va_D A (xM a k Mz L0) := by rw [← h]; exact hD
      subst hQ
      subst hAe
      exact r_i hx hb hr hlocks hz0 hP hD hS dX5_lift_35
    · have h := it_f c20 h
      refine lv_iload_n hx hb dX5_lift_16 rfl (lv_at hl 1 rfl) ?_
      refine lv_iload_n hx hb dX5_lift_17 rfl (lv_at hl 2 rfl) ?_
      refine lv_icmp_gt (tgt := 34) hx hb dX5_lift_18 (by decide) (fun c21 => ?_) (fun c21 => ?_)
      · have h := it_t c21 h
        refine lv_iconst (v := (-1 : Int32)) hx hb dX5_lift_34 (by decide) ?_
        have h := Option.some.inj h
        obtain ⟨hz0, h⟩ := Prod.mk.inj h
        have hP : va_P D vwCl (xM a k Mz L0) H := by rw [← h]; exact hP
        have hD : va_D A (xM a k Mz L0) := by rw [← h]; exact hD
        subst hQ
        subst hAe
        exact r_i hx hb hr hlocks hz0 hP hD hS dX5_lift_35
      · have h := it_f c21 h
        refine lv_iload_n hx hb dX5_lift_21 rfl (lv_at hl 3 rfl) ?_
        refine lv_sipush (v := (-10000 : Int32)) hx hb dX5_lift_22 (by decide) ?_
        refine lv_sipush (v := (10000 : Int32)) hx hb dX5_lift_25 (by decide) ?_
        obtain ⟨r22, q22, h⟩ := b1_s h
        refine go_i (run_S (As := [.int p2, .int (-10000 : Int32), .int (10000 : Int32)]) (rest := []) ⟨hx, hb, hml, hown, hts⟩ hnw hK hP hD (fr_M_E a k M0 L0) (ks_M_E k) (c_X5_in l D H.size p2 (-10000 : Int32) (10000 : Int32) r22 q22) (cwS 3 hts gX5_lift_X5_in rfl rfl rfl (by decide +kernel) ⟨Nat.le_of_ble_eq_true rfl, Nat.le_of_ble_eq_true rfl⟩) rfl hl.1 rfl (Nat.le_of_ble_eq_true rfl) dX5_lift_28 ⟨Nat.zero_le _, Nat.zero_le _⟩) hP hD hS hA (fr_M_E a k M0 L0) (fun H locs hP hD hS => ?_)
        refine lv_if_ne (tgt := 36) hx hb dX5_lift_31 (by decide) (fun c23 => ?_) (fun c23 => ?_)
        · have h := it_f c23 h
          refine lv_iconst (v := (0 : Int32)) hx hb dX5_lift_36 (by decide) ?_
          refine lv_istore (lv' := [(4, .int (0 : Int32)), (0, .ref (a 0)), (1, .int p0), (2, .int p1), (3, .int p2)]) hx hb dX5_lift_37 hl (by decide) rfl (fun ls hl => ?_)
          refine lv_iload_n hx hb dX5_lift_39 rfl (lv_at hl 2 rfl) ?_
          refine lv_istore (lv' := [(5, .int p0), (4, .int (0 : Int32)), (0, .ref (a 0)), (1, .int p0), (2, .int p1), (3, .int p2)]) hx hb dX5_lift_40 hl (by decide) rfl (fun ls hl => ?_)
          exact lb42 64 (0 : Int32) p0 M0 H locs hP hD hS ls (lv_sub hl [2, 4, 5, 1, 0] rfl) h
        · have h := it_t c23 h
          refine lv_iconst (v := (-1 : Int32)) hx hb dX5_lift_34 (by decide) ?_
          have h := Option.some.inj h
          obtain ⟨hz0, h⟩ := Prod.mk.inj h
          have hP : va_P D vwCl (xM a k Mz L0) H := by rw [← h]; exact hP
          have hD : va_D A (xM a k Mz L0) := by rw [← h]; exact hD
          subst hQ
          subst hAe
          exact r_i hx hb hr hlocks hz0 hP hD hS dX5_lift_35
def f_X5_isNumber  (p0 : Int32) : Option (Int32) := b1 (f_X5_in p0 (0 : Int32) (5 : Int32)) (fun r1 => gd (isb r1) (some r1))
abbrev rm_X5_isNumber : Room := { frames := 1, cells := 0, slots := 0, locals := 22 }
set_option maxHeartbeats 4000000 in
set_option maxRecDepth 100000 in
theorem c_X5_isNumber (l : Launch) (D : va_G) (sz : Nat)  (p0 : Int32) (r : Int32) (h : f_X5_isNumber p0 = some r) : Met l yX5_isNumber wsX5_isNumber rm_X5_isNumber (mPc D [.int p0] ([] : va_W) ([] : List (ClassId × FieldType)) sz) (mQi D ([] : va_W) ([] : va_W) sz r) 0 0 (va_A ([] : va_W) sz) := by
  refine mk_met (cc := cX5_isNumber) (maxL := 1) (ret := (some .boolean)) (by decide) rfl (Nat.le_of_ble_eq_true rfl) ?_
  intro p e s m below meth c hx hb hr hml hts hown hmn hlocks hnw hsz hK hP hD hS hA ls hl
  obtain ⟨A, hAe⟩ : ∃ A, A = va_A ([] : va_W) sz := ⟨_, rfl⟩
  rw [← hAe] at hD hS hA
  generalize hargs : List.toArray ([.int p0] : List Value) = args at hts ⊢
  generalize hQ : MQ below (mQi D ([] : va_W) ([] : va_W) sz r) args s 0 0 (va_A ([] : va_W) sz) = Q
  have hl : lv_has ls 1 [(0, .int p0)] := hl
  rw [f_X5_isNumber] at h
  obtain ⟨H, hH⟩ : ∃ H, H = s.heap := ⟨_, rfl⟩
  obtain ⟨locs, hlc⟩ : ∃ L : List Loc, L = [] := ⟨_, rfl⟩
  rw [← hH] at hP
  have hS : va_S A s.heap H locs := by rw [hH, hlc]; exact hS
  suffices hW9 : W p l e rm_X5_isNumber s m args below meth c H locs 0 0 Q (F0 m 0 ls []) by rw [hH, hlc] at hW9; exact hW9
  refine lv_iload_n hx hb dX5_isNumber_0 rfl (lv_at hl 0 rfl) ?_
  refine lv_iconst (v := (0 : Int32)) hx hb dX5_isNumber_1 (by decide) ?_
  refine lv_iconst (v := (5 : Int32)) hx hb dX5_isNumber_2 (by decide) ?_
  obtain ⟨r1, q1, h⟩ := b1_s h
  refine go_i (run_S (As := [.int p0, .int (0 : Int32), .int (5 : Int32)]) (rest := []) ⟨hx, hb, hml, hown, hts⟩ hnw hK hP hD (fr_E_E ) (ks_E_E) (c_X5_in l D H.size p0 (0 : Int32) (5 : Int32) r1 q1) (cwS 3 hts gX5_isNumber_X5_in rfl rfl rfl (by decide +kernel) ⟨Nat.le_of_ble_eq_true rfl, Nat.le_of_ble_eq_true rfl⟩) rfl hl.1 rfl (Nat.le_of_ble_eq_true rfl) dX5_isNumber_3 ⟨Nat.zero_le _, Nat.zero_le _⟩) hP hD hS hA (fr_E_E ) (fun H locs hP hD hS => ?_)
  obtain ⟨g2, h⟩ := gd_s h
  have h := Option.some.inj h
  subst hQ
  subst hAe
  exact r_z hx hb hr (isb_s g2) hlocks h hP hD hS dX5_isNumber_6
