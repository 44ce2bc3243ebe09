def f_X4_mean (B0 : Nat → Nat → Int32) (L0 : Int64) (T0 : Nat → Nat → Int32)  : Option (Int32 × (Nat → Nat → Int32) × Int64) := b1 (f_X1_standing T0 (0 : Int32) ((T0 7 0) - (1 : Int32))) (fun r1 => if r1 = (0 : Int32) then (b2 (f_X4_found B0 (4 : Int32)) (fun r6 (B_6 : Nat → Nat → Int32) => some (r6, B_6, L0))) else (b1 (f_X1_sumOfBeds T0) (fun r3 => b1 (f_X4_floorShare r3 r1) (fun r4 => b2 (f_X4_tell L0 (Int32.toInt64 r4)) (fun r5 (L_5 : Int64) => some (r5, B0, L_5))))))
abbrev rm_X4_mean : Room := { frames := 3, cells := 0, slots := 0, locals := 66 }
set_option maxHeartbeats 4000000 in
set_option maxRecDepth 100000 in
theorem c_X4_mean (l : Launch) (D : va_G) (a : Nat → Nat) (k : Nat → ClassId) (sz : Nat) (B0 : Nat → Nat → Int32) (L0 : Int64) (R0 : Nat → Nat → Int32) (T0 : Nat → Nat → Int32) (U0 : Nat → Nat → Int32) (V0 : Nat → Nat → Int32)  (r : Int32) (Bz : (Nat → Nat → Int32)) (Lz : Int64) (h : f_X4_mean B0 L0 T0 = some (r, Bz, Lz)) : Met l yX4_mean wsX4_mean rm_X4_mean (mPc D [.ref (a 26)] (xX a k B0 L0 R0 T0 U0 V0) (tX k) sz) (mQi D (xX a k B0 L0 R0 T0 U0 V0) (xX a k Bz Lz R0 T0 U0 V0) sz r) 0 0 (va_A (xX a k B0 L0 R0 T0 U0 V0) sz) := by
  refine mk_met (cc := cX4_mean) (maxL := 2) (ret := (some .int)) (by decide) rfl (Nat.le_of_ble_eq_true rfl) ?_
  intro p e s m below meth c hx hb hr hml hts hown hmn hlocks hnw hsz hK hP hD hS hA ls hl
  obtain ⟨A, hAe⟩ : ∃ A, A = va_A (xX a k B0 L0 R0 T0 U0 V0) sz := ⟨_, rfl⟩
  rw [← hAe] at hD hS hA
  generalize hargs : List.toArray ([.ref (a 26)] : List Value) = args at hts ⊢
  generalize hQ : MQ below (mQi D (xX a k B0 L0 R0 T0 U0 V0) (xX a k Bz Lz R0 T0 U0 V0) sz r) args s 0 0 (va_A (xX a k B0 L0 R0 T0 U0 V0) sz) = Q
  have hl : lv_has ls 2 [(0, .ref (a 26))] := hl
  have hin1 : ∀ w ∈ wsX10, w ∈ wsX4_mean := fun w h => List.mem_cons_of_mem _ (List.mem_append_right _ h)
  have hin4 : ∀ w ∈ wsX40, w ∈ wsX4_mean := fun w h => List.mem_cons_of_mem _ (List.mem_append_left _ (List.mem_append_right _ h))
  rw [f_X4_mean] at h
  obtain ⟨H, hH⟩ : ∃ H, H = s.heap := ⟨_, rfl⟩
  obtain ⟨locs, hlc⟩ : ∃ L : List Loc, L = [] := ⟨_, rfl⟩
  rw [← hH] at hP
  have hS : va_S A s.heap H locs := by rw [hH, hlc]; exact hS
  suffices hW9 : W p l e rm_X4_mean s m args below meth c H locs 0 0 Q (F0 m 0 ls []) by rw [hH, hlc] at hW9; exact hW9
  refine lv_aload_n hx hb dX4_mean_0 rfl (lv_at hl 0 rfl) ?_
  refine va_get (D := D) (ci := 4) (v := .ref (a 0)) (C := RX4) (T := TX4) (N := 8) hx hb hts hin4 hown hK hP 0 rfl rfl 0 (by decide) (hts (.fieldLink RX4 10 "BallastLine" "track" "LBallastLine$Track;") (List.mem_of_getElem? (i := 1) rfl)) (fun _ h9 => h9) rfl dX4_mean_1 ?_
  refine lv_iconst (v := (0 : Int32)) hx hb dX4_mean_4 (by decide) ?_
  refine lv_aload_n hx hb dX4_mean_5 rfl (lv_at hl 0 rfl) ?_
  refine va_get (D := D) (ci := 4) (v := .ref (a 0)) (C := RX4) (T := TX4) (N := 8) hx hb hts hin4 hown hK hP 0 rfl rfl 0 (by decide) (hts (.fieldLink RX4 10 "BallastLine" "track" "LBallastLine$Track;") (List.mem_of_getElem? (i := 1) rfl)) (fun _ h9 => h9) rfl dX4_mean_6 ?_
  refine va_getN (host := RX4) (D := D) (ci := 1) (v := .int (T0 7 0)) (C := RX1) (T := TX1) (N := 8) hx hb hts hin1 hown hK hP 6 rfl rfl 7 (by decide) (va_Nw.use rfl (hnw.1 (RX4, 120, "BallastLine$Track", "size", "I", RX4) (List.mem_of_getElem? (i := 9) rfl))) (fun _ h9 => h9) rfl dX4_mean_9 ?_
  refine lv_iconst (v := (1 : Int32)) hx hb dX4_mean_12 (by decide) ?_
  refine lv_isub hx hb dX4_mean_13 ?_
  obtain ⟨r1, q1, h⟩ := b1_s h
  refine go_i (run_VN (As := [.int (0 : Int32), .int ((T0 7 0) - (1 : Int32))]) (rest := []) ⟨hx, hb, hml, hown, hts⟩ hnw hK hP hD (fr_X_T a k B0 L0 R0 T0 U0 V0 T0) (ks_X_T k) (c_X1_standing l D a k H.size T0 (0 : Int32) ((T0 7 0) - (1 : Int32)) r1 q1) ⟨va_cnB 2 hts ggX4_mean_X1_standing rfl rfl rfl (hnw.2 (RX4, 123, yX1_standing, RX4) (List.mem_of_getElem? (i := 18) rfl)) (hts (.initialized RX1) (List.mem_of_getElem? (i := 3) rfl)) (by decide +kernel) ⟨Nat.le_of_ble_eq_true rfl, Nat.le_of_ble_eq_true rfl⟩, (hts (.instanceMethod yX1_standing) (List.mem_of_getElem? (i := 2) rfl)), (hts (.selects RX1 yX1_standing yX1_standing) (List.mem_of_getElem? (i := 4) rfl))⟩ (rcv_T a k T0) rfl hl.1 rfl (Nat.le_of_ble_eq_true rfl) dX4_mean_14 ⟨Nat.zero_le _, Nat.zero_le _⟩) hP hD hS hA (fr_X_T a k B0 L0 R0 T0 U0 V0 T0) (fun H locs hP hD hS => ?_)
  refine lv_istore_n (lv' := [(1, .int r1), (0, .ref (a 26))]) hx hb dX4_mean_17 rfl hl (by decide) rfl (fun ls hl => ?_)
  refine lv_iload_n hx hb dX4_mean_18 rfl (lv_at hl 0 rfl) ?_
  refine lv_if_ne (tgt := 28) hx hb dX4_mean_19 (by decide) (fun c2 => ?_) (fun c2 => ?_)
  · have h := it_f c2 h
    refine lv_aload_n hx hb dX4_mean_28 rfl (lv_at hl 1 rfl) ?_
    refine lv_aload_n hx hb dX4_mean_29 rfl (lv_at hl 1 rfl) ?_
    refine va_get (D := D) (ci := 4) (v := .ref (a 0)) (C := RX4) (T := TX4) (N := 8) hx hb hts hin4 hown hK hP 0 rfl rfl 0 (by decide) (hts (.fieldLink RX4 10 "BallastLine" "track" "LBallastLine$Track;") (List.mem_of_getElem? (i := 1) rfl)) (fun _ h9 => h9) rfl dX4_mean_30 ?_
    obtain ⟨r3, q3, h⟩ := b1_s h
    refine go_i (run_VN (As := []) (rest := [.ref (a 26)]) ⟨hx, hb, hml, hown, hts⟩ hnw hK hP hD (fr_X_T a k B0 L0 R0 T0 U0 V0 T0) (ks_X_T k) (c_X1_sumOfBeds l D a k H.size T0 r3 q3) ⟨va_cnB 0 hts ggX4_mean_X1_sumOfBeds rfl rfl rfl (hnw.2 (RX4, 127, yX1_sumOfBeds, RX4) (List.mem_of_getElem? (i := 19) rfl)) (hts (.initialized RX1) (List.mem_of_getElem? (i := 3) rfl)) (by decide +kernel) ⟨Nat.le_of_ble_eq_true rfl, Nat.le_of_ble_eq_true rfl⟩, (hts (.instanceMethod yX1_sumOfBeds) (List.mem_of_getElem? (i := 23) rfl)), (hts (.selects RX1 yX1_sumOfBeds yX1_sumOfBeds) (List.mem_of_getElem? (i := 24) rfl))⟩ (rcv_T a k T0) rfl hl.1 rfl (Nat.le_of_ble_eq_true rfl) dX4_mean_33 ⟨Nat.zero_le _, Nat.zero_le _⟩) hP hD hS hA (fr_X_T a k B0 L0 R0 T0 U0 V0 T0) (fun H locs hP hD hS => ?_)
    refine lv_iload_n hx hb dX4_mean_36 rfl (lv_at hl 0 rfl) ?_
    obtain ⟨r4, q4, h⟩ := b1_s h
    refine go_i (run_S (As := [.int r3, .int r1]) (rest := [.ref (a 26)]) ⟨hx, hb, hml, hown, hts⟩ hnw hK hP hD (fr_X_E a k B0 L0 R0 T0 U0 V0) (ks_X_E k) (c_X4_floorShare l D H.size r3 r1 r4 q4) (cwS 2 hts gX4_mean_X4_floorShare rfl rfl rfl (by decide +kernel) ⟨Nat.le_of_ble_eq_true rfl, Nat.le_of_ble_eq_true rfl⟩) rfl hl.1 rfl (Nat.le_of_ble_eq_true rfl) dX4_mean_37 ⟨Nat.zero_le _, Nat.zero_le _⟩) hP hD hS hA (fr_X_E a k B0 L0 R0 T0 U0 V0) (fun H locs hP hD hS => ?_)
    refine lv_i2l (v := (Int32.toInt64 r4)) hx hb dX4_mean_40 rfl ?_
    obtain ⟨r5, L_5, q5, h⟩ := b2_s h
    refine go_i (run_V (As := [.long (Int32.toInt64 r4)]) (rest := []) ⟨hx, hb, hml, hown, hts⟩ hnw hK hP hD (fr_X_X a k B0 L0 R0 T0 U0 V0 B0 L_5 R0 T0 U0 V0) (ks_X_X k) (c_X4_tell l D a k H.size B0 L0 R0 T0 U0 V0 (Int32.toInt64 r4) r5 L_5 q5) (cwV 1 hts gX4_mean_X4_tell rfl rfl rfl (by decide +kernel) ⟨Nat.le_of_ble_eq_true rfl, Nat.le_of_ble_eq_true rfl⟩) (rcv_X a k B0 L0 R0 T0 U0 V0) rfl hl.1 rfl (Nat.le_of_ble_eq_true rfl) dX4_mean_41 ⟨Nat.zero_le _, Nat.zero_le _⟩) hP hD hS hA (fr_X_X a k B0 L0 R0 T0 U0 V0 B0 L_5 R0 T0 U0 V0) (fun H locs hP hD hS => ?_)
    have h := Option.some.inj h
    obtain ⟨hz0, h⟩ := Prod.mk.inj h
    obtain ⟨hz1, h⟩ := Prod.mk.inj h
    have hP : va_P D vwCl (xX a k Bz Lz R0 T0 U0 V0) H := by rw [← hz1, ← h]; exact hP
    have hD : va_D A (xX a k Bz Lz R0 T0 U0 V0) := by rw [← hz1, ← h]; exact hD
    subst hQ
    subst hAe
    exact r_i hx hb hr hlocks hz0 hP hD hS dX4_mean_44
  · have h := it_t c2 h
    refine lv_aload_n hx hb dX4_mean_22 rfl (lv_at hl 1 rfl) ?_
    refine lv_iconst (v := (4 : Int32)) hx hb dX4_mean_23 (by decide) ?_
    obtain ⟨r6, B_6, q6, h⟩ := b2_s h
    refine go_i (run_V (As := [.int (4 : Int32)]) (rest := []) ⟨hx, hb, hml, hown, hts⟩ hnw hK hP hD (fr_X_X a k B0 L0 R0 T0 U0 V0 B_6 L0 R0 T0 U0 V0) (ks_X_X k) (c_X4_found l D a k H.size B0 L0 R0 T0 U0 V0 (4 : Int32) r6 B_6 q6) (cwV 1 hts gX4_mean_X4_found rfl rfl rfl (by decide +kernel) ⟨Nat.le_of_ble_eq_true rfl, Nat.le_of_ble_eq_true rfl⟩) (rcv_X a k B0 L0 R0 T0 U0 V0) rfl hl.1 rfl (Nat.le_of_ble_eq_true rfl) dX4_mean_24 ⟨Nat.zero_le _, Nat.zero_le _⟩) hP hD hS hA (fr_X_X a k B0 L0 R0 T0 U0 V0 B_6 L0 R0 T0 U0 V0) (fun H locs hP hD hS => ?_)
    have h := Option.some.inj h
    obtain ⟨hz0, h⟩ := Prod.mk.inj h
    obtain ⟨hz1, h⟩ := Prod.mk.inj h
    have hP : va_P D vwCl (xX a k Bz Lz R0 T0 U0 V0) H := by rw [← hz1, ← h]; exact hP
    have hD : va_D A (xX a k Bz Lz R0 T0 U0 V0) := by rw [← hz1, ← h]; exact hD
    subst hQ
    subst hAe
    exact r_i hx hb hr hlocks hz0 hP hD hS dX4_mean_27
def f_X4_lift_J70  (p0 : Int32) (p1 : Int32) (p2 : Int32) (ko48 : Int32 → Int32 → (Nat → Nat → Int32) → Option (Int32 × (Nat → Nat → Int32))) (x4 : Int32) (x5 : Int32) (T : Nat → Nat → Int32) : Option (Int32 × (Nat → Nat → Int32)) := ltt (x5 + (1 : Int32)) (fun v1 => ko48 x4 v1 T)
def f_X4_lift_L48  (p0 : Int32) (p1 : Int32) (p2 : Int32)  : Nat → Int32 → Int32 → (Nat → Nat → Int32) → Option (Int32 × (Nat → Nat → Int32))
  | 0, _, _, _ => none
  | n + 1, x4, x5, T => if p1 < x5 then (some (x4, T)) else (b2 (f_X1_raise T x5 p2) (fun r3 (T_3 : Nat → Nat → Int32) => if r3 = (0 : Int32) then (f_X4_lift_J70 p0 p1 p2 (f_X4_lift_L48 p0 p1 p2 n) x4 x5 T_3) else (ltt (x4 + (1 : Int32)) (fun v5 => f_X4_lift_J70 p0 p1 p2 (f_X4_lift_L48 p0 p1 p2 n) v5 x5 T_3))))
def f_X4_lift (T0 : Nat → Nat → Int32) (p0 : Int32) (p1 : Int32) (p2 : Int32) : Option (Int32 × (Nat → Nat → Int32)) := b1 (f_X1_has T0 p0) (fun r6 => if r6 = (0 : Int32) then (some ((-1 : Int32), T0)) else (b1 (f_X1_has T0 p1) (fun r8 => if r8 = (0 : Int32) then (some ((-1 : Int32), T0)) else (if p1 < p0 then (some ((-1 : Int32), T0)) else (b1 (f_X4_within p2 (-10000 : Int32) (10000 : Int32)) (fun r11 => if r11 = (0 : Int32) then (some ((-1 : Int32), T0)) else (f_X4_lift_L48 p0 p1 p2 64 (0 : Int32) p0 T0)))))))
abbrev rm_X4_lift : Room := { frames := 4, cells := 0, slots := 0, locals := 89 }
set_option maxHeartbeats 4000000 in
set_option maxRecDepth 100000 in
theorem c_X4_lift (l : Launch) (D : va_G) (a : Nat → Nat) (k : Nat → ClassId) (sz : Nat) (B0 : Nat → Nat → Int32) (L0 : Int64) (R0 : Nat → Nat → Int32) (T0 : Nat → Nat → Int32) (U0 : Nat → Nat → Int32) (V0 : Nat → Nat → Int32) (p0 : Int32) (p1 : Int32) (p2 : Int32) (r : Int32) (Tz : (Nat → Nat → Int32)) (h : f_X4_lift T0 p0 p1 p2 = some (r, Tz)) : Met l yX4_lift wsX4_lift rm_X4_lift (mPc D [.ref (a 26), .int p0, .int p1, .int p2] (xX a k B0 L0 R0 T0 U0 V0) (tX k) sz) (mQi D (xX a k B0 L0 R0 T0 U0 V0) (xX a k B0 L0 R0 Tz U0 V0) sz r) 0 0 (va_A (xX a k B0 L0 R0 T0 U0 V0) sz) := by
  refine mk_met (cc := cX4_lift) (maxL := 6) (ret := (some .int)) (by decide) rfl (Nat.le_of_ble_eq_true rfl) ?_
  intro p e s m below meth c hx hb hr hml hts hown hmn hlocks hnw hsz hK hP hD hS hA ls hl
  obtain ⟨A, hAe⟩ : ∃ A, A = va_A (xX a k B0 L0 R0 T0 U0 V0) sz := ⟨_, rfl⟩
  rw [← hAe] at hD hS hA
  generalize hargs : List.toArray ([.ref (a 26), .int p0, .int p1, .int p2] : List Value) = args at hts ⊢
  generalize hQ : MQ below (mQi D (xX a k B0 L0 R0 T0 U0 V0) (xX a k B0 L0 R0 Tz U0 V0) sz r) args s 0 0 (va_A (xX a k B0 L0 R0 T0 U0 V0) sz) = Q
  have hl : lv_has ls 6 [(0, .ref (a 26)), (1, .int p0), (2, .int p1), (3, .int p2)] := hl
  have hin4 : ∀ w ∈ wsX40, w ∈ wsX4_lift := fun w h => List.mem_cons_of_mem _ (List.mem_append_left _ (List.mem_append_right _ h))
  have lb70 : ∀ (ko48 : Int32 → Int32 → (Nat → Nat → Int32) → Option (Int32 × (Nat → Nat → Int32))), (∀ (x4 : Int32) (x5 : Int32) (T : Nat → Nat → Int32), ∀ (H : Heap) (locs : List Loc), va_P D vwCl (xX a k B0 L0 R0 T U0 V0) H → va_D A (xX a k B0 L0 R0 T U0 V0) → va_S A s.heap H locs → ∀ ls : Array Slot, lv_has ls 6 [(0, .ref (a 26)), (2, .int p1), (3, .int p2), (4, .int x4), (5, .int x5)] → ko48 x4 x5 T = some (r, Tz) → W p l e rm_X4_lift s m args below meth c H locs 0 0 Q (F0 m 48 ls [])) → ∀ (x4 : Int32) (x5 : Int32) (T : Nat → Nat → Int32), ∀ (H : Heap) (locs : List Loc), va_P D vwCl (xX a k B0 L0 R0 T U0 V0) H → va_D A (xX a k B0 L0 R0 T U0 V0) → va_S A s.heap H locs → ∀ ls : Array Slot, lv_has ls 6 [(0, .ref (a 26)), (2, .int p1), (3, .int p2), (4, .int x4), (5, .int x5)] → f_X4_lift_J70 p0 p1 p2 ko48 x4 x5 T = some (r, Tz) → W p l e rm_X4_lift s m args below meth c H locs 0 0 Q (F0 m 70 ls []) := by
    intro ko48 hko48 x4 x5 T H locs hP hD hS ls hl h
    rw [f_X4_lift_J70] at h
    obtain ⟨v1, ev1⟩ : ∃ y : Int32, y = x5 + (1 : Int32) := ⟨_, rfl⟩
    have h := ltt_s ev1 h
    refine lv_iinc (v := v1) (lv' := [(5, .int v1), (0, .ref (a 26)), (2, .int p1), (3, .int p2), (4, .int x4)]) hx hb dX4_lift_70 hl (k := 4) rfl (by rw [ev1]; rfl) (by decide) rfl (fun ls hl => ?_)
    refine lv_goto (tgt := 48) hx hb dX4_lift_73 (by decide) ?_
    exact hko48 x4 v1 T H locs hP hD hS ls (lv_sub hl [1, 2, 3, 4, 0] rfl) h
  have lb48 : ∀ (n : Nat), ∀ (x4 : Int32) (x5 : Int32) (T : Nat → Nat → Int32), ∀ (H : Heap) (locs : List Loc), va_P D vwCl (xX a k B0 L0 R0 T U0 V0) H → va_D A (xX a k B0 L0 R0 T U0 V0) → va_S A s.heap H locs → ∀ ls : Array Slot, lv_has ls 6 [(0, .ref (a 26)), (2, .int p1), (3, .int p2), (4, .int x4), (5, .int x5)] → f_X4_lift_L48 p0 p1 p2 n x4 x5 T = some (r, Tz) → W p l e rm_X4_lift s m args below meth c H locs 0 0 Q (F0 m 48 ls []) := by
    intro n
    induction n with
    | zero =>
      intro x4 x5 T H locs hP hD hS ls hl h
      rw [f_X4_lift_L48] at h
      cases h
    | succ n ih =>
      intro x4 x5 T H locs hP hD hS ls hl h
      rw [f_X4_lift_L48] at h
      refine lv_iload hx hb dX4_lift_48 (lv_at hl 4 rfl) ?_
      refine lv_iload_n hx hb dX4_lift_50 rfl (lv_at hl 1 rfl) ?_
      refine lv_icmp_gt (tgt := 76) hx hb dX4_lift_51 (by decide) (fun c2 => ?_) (fun c2 => ?_)
      · have h := it_t c2 h
        refine lv_iload hx hb dX4_lift_76 (lv_at hl 3 rfl) ?_
        have h := Option.some.inj h
        obtain ⟨hz0, h⟩ := Prod.mk.inj h
        have hP : va_P D vwCl (xX a k B0 L0 R0 Tz U0 V0) H := by rw [← h]; exact hP
        have hD : va_D A (xX a k B0 L0 R0 Tz U0 V0) := by rw [← h]; exact hD
        subst hQ
        subst hAe
        exact r_i hx hb hr hlocks hz0 hP hD hS dX4_lift_78
      · have h := it_f c2 h
        refine lv_aload_n hx hb dX4_lift_54 rfl (lv_at hl 0 rfl) ?_
        refine va_get (D := D) (ci := 4) (v := .ref (a 0)) (C := RX4) (T := TX4) (N := 8) hx hb hts hin4 hown hK hP 0 rfl rfl 0 (by decide) (hts (.fieldLink RX4 10 "BallastLine" "track" "LBallastLine$Track;") (List.mem_of_getElem? (i := 1) rfl)) (fun _ h9 => h9) rfl dX4_lift_55 ?_
        refine lv_iload hx hb dX4_lift_58 (lv_at hl 4 rfl) ?_
        refine lv_iload_n hx hb dX4_lift_60 rfl (lv_at hl 2 rfl) ?_
        obtain ⟨r3, T_3, q3, h⟩ := b2_s h
        refine go_i (run_VN (As := [.int x5, .int p2]) (rest := []) ⟨hx, hb, hml, hown, hts⟩ hnw hK hP hD (fr_X_T a k B0 L0 R0 T U0 V0 T_3) (ks_X_T k) (c_X1_raise l D a k H.size T x5 p2 r3 T_3 q3) ⟨va_cnB 2 hts ggX4_lift_X1_raise rfl rfl rfl (hnw.2 (RX4, 134, yX1_raise, RX4) (List.mem_of_getElem? (i := 20) rfl)) (hts (.initialized RX1) (List.mem_of_getElem? (i := 3) rfl)) (by decide +kernel) ⟨Nat.le_of_ble_eq_true rfl, Nat.le_of_ble_eq_true rfl⟩, (hts (.instanceMethod yX1_raise) (List.mem_of_getElem? (i := 11) rfl)), (hts (.selects RX1 yX1_raise yX1_raise) (List.mem_of_getElem? (i := 12) rfl))⟩ (rcv_T a k T) rfl hl.1 rfl (Nat.le_of_ble_eq_true rfl) dX4_lift_61 ⟨Nat.zero_le _, Nat.zero_le _⟩) hP hD hS hA (fr_X_T a k B0 L0 R0 T U0 V0 T_3) (fun H locs hP hD hS => ?_)
        refine lv_if_eq (tgt := 70) hx hb dX4_lift_64 (by decide) (fun c4 => ?_) (fun c4 => ?_)
        · have h := it_t c4 h
          exact lb70 (f_X4_lift_L48 p0 p1 p2 n) ih x4 x5 T_3 H locs hP hD hS ls (lv_sub hl [0, 1, 2, 3, 4] rfl) h
        · have h := it_f c4 h
          obtain ⟨v5, ev5⟩ : ∃ y : Int32, y = x4 + (1 : Int32) := ⟨_, rfl⟩
          have h := ltt_s ev5 h
          refine lv_iinc (v := v5) (lv' := [(4, .int v5), (0, .ref (a 26)), (2, .int p1), (3, .int p2), (5, .int x5)]) hx hb dX4_lift_67 hl (k := 3) rfl (by rw [ev5]; rfl) (by decide) rfl (fun ls hl => ?_)
          exact lb70 (f_X4_lift_L48 p0 p1 p2 n) ih v5 x5 T_3 H locs hP hD hS ls (lv_sub hl [1, 2, 3, 0, 4] rfl) h
  rw [f_X4_lift] at h
  obtain ⟨H, hH⟩ : ∃ H, H = s.heap := ⟨_, rfl⟩
  obtain ⟨locs, hlc⟩ : ∃ L : List Loc, L = [] := ⟨_, rfl⟩
  rw [← hH] at hP
  have hS : va_S A s.heap H locs := by rw [hH, hlc]; exact hS
  suffices hW9 : W p l e rm_X4_lift s m args below meth c H locs 0 0 Q (F0 m 0 ls []) by rw [hH, hlc] at hW9; exact hW9
  refine lv_aload_n hx hb dX4_lift_0 rfl (lv_at hl 0 rfl) ?_
  refine va_get (D := D) (ci := 4) (v := .ref (a 0)) (C := RX4) (T := TX4) (N := 8) hx hb hts hin4 hown hK hP 0 rfl rfl 0 (by decide) (hts (.fieldLink RX4 10 "BallastLine" "track" "LBallastLine$Track;") (List.mem_of_getElem? (i := 1) rfl)) (fun _ h9 => h9) rfl dX4_lift_1 ?_
  refine lv_iload_n hx hb dX4_lift_4 rfl (lv_at hl 1 rfl) ?_
  obtain ⟨r6, q6, h⟩ := b1_s h
  refine go_i (run_VN (As := [.int p0]) (rest := []) ⟨hx, hb, hml, hown, hts⟩ hnw hK hP hD (fr_X_T a k B0 L0 R0 T0 U0 V0 T0) (ks_X_T k) (c_X1_has l D a k H.size T0 p0 r6 q6) ⟨va_cnB 1 hts ggX4_lift_X1_has rfl rfl rfl (hnw.2 (RX4, 60, yX1_has, RX4) (List.mem_of_getElem? (i := 5) rfl)) (hts (.initialized RX1) (List.mem_of_getElem? (i := 3) rfl)) (by decide +kernel) ⟨Nat.le_of_ble_eq_true rfl, Nat.le_of_ble_eq_true rfl⟩, (hts (.instanceMethod yX1_has) (List.mem_of_getElem? (i := 2) rfl)), (hts (.selects RX1 yX1_has yX1_has) (List.mem_of_getElem? (i := 4) rfl))⟩ (rcv_T a k T0) rfl hl.1 rfl (Nat.le_of_ble_eq_true rfl) dX4_lift_5 ⟨Nat.zero_le _, Nat.zero_le _⟩) hP hD hS hA (fr_X_T a k B0 L0 R0 T0 U0 V0 T0) (fun H locs hP hD hS => ?_)
  refine lv_if_eq (tgt := 40) hx hb dX4_lift_8 (by decide) (fun c7 => ?_) (fun c7 => ?_)
  · have h := it_t c7 h
    refine lv_iconst (v := (-1 : Int32)) hx hb dX4_lift_40 (by decide) ?_
    have h := Option.some.inj h
    obtain ⟨hz0, h⟩ := Prod.mk.inj h
    have hP : va_P D vwCl (xX a k B0 L0 R0 Tz U0 V0) H := by rw [← h]; exact hP
    have hD : va_D A (xX a k B0 L0 R0 Tz U0 V0) := by rw [← h]; exact hD
    subst hQ
    subst hAe
    exact r_i hx hb hr hlocks hz0 hP hD hS dX4_lift_41
  · have h := it_f c7 h
    refine lv_aload_n hx hb dX4_lift_11 rfl (lv_at hl 0 rfl) ?_
    refine va_get (D := D) (ci := 4) (v := .ref (a 0)) (C := RX4) (T := TX4) (N := 8) hx hb hts hin4 hown hK hP 0 rfl rfl 0 (by decide) (hts (.fieldLink RX4 10 "BallastLine" "track" "LBallastLine$Track;") (List.mem_of_getElem? (i := 1) rfl)) (fun _ h9 => h9) rfl dX4_lift_12 ?_
    refine lv_iload_n hx hb dX4_lift_15 rfl (lv_at hl 2 rfl) ?_
    obtain ⟨r8, q8, h⟩ := b1_s h
    refine go_i (run_VN (As := [.int p1]) (rest := []) ⟨hx, hb, hml, hown, hts⟩ hnw hK hP hD (fr_X_T a k B0 L0 R0 T0 U0 V0 T0) (ks_X_T k) (c_X1_has l D a k H.size T0 p1 r8 q8) ⟨va_cnB 1 hts ggX4_lift_X1_has rfl rfl rfl (hnw.2 (RX4, 60, yX1_has, RX4) (List.mem_of_getElem? (i := 5) rfl)) (hts (.initialized RX1) (List.mem_of_getElem? (i := 3) rfl)) (by decide +kernel) ⟨Nat.le_of_ble_eq_true rfl, Nat.le_of_ble_eq_true rfl⟩, (hts (.instanceMethod yX1_has) (List.mem_of_getElem? (i := 2) rfl)), (hts (.selects RX1 yX1_has yX1_has) (List.mem_of_getElem? (i := 4) rfl))⟩ (rcv_T a k T0) rfl hl.1 rfl (Nat.le_of_ble_eq_true rfl) dX4_lift_16 ⟨Nat.zero_le _, Nat.zero_le _⟩) hP hD hS hA (fr_X_T a k B0 L0 R0 T0 U0 V0 T0) (fun H locs hP hD hS => ?_)
    refine lv_if_eq (tgt := 40) hx hb dX4_lift_19 (by decide) (fun c9 => ?_) (fun c9 => ?_)
    · have h := it_t c9 h
      refine lv_iconst (v := (-1 : Int32)) hx hb dX4_lift_40 (by decide) ?_
      have h := Option.some.inj h
      obtain ⟨hz0, h⟩ := Prod.mk.inj h
      have hP : va_P D vwCl (xX a k B0 L0 R0 Tz U0 V0) H := by rw [← h]; exact hP
      have hD : va_D A (xX a k B0 L0 R0 Tz U0 V0) := by rw [← h]; exact hD
      subst hQ
      subst hAe
      exact r_i hx hb hr hlocks hz0 hP hD hS dX4_lift_41
    · have h := it_f c9 h
      refine lv_iload_n hx hb dX4_lift_22 rfl (lv_at hl 1 rfl) ?_
      refine lv_iload_n hx hb dX4_lift_23 rfl (lv_at hl 2 rfl) ?_
      refine lv_icmp_gt (tgt := 40) hx hb dX4_lift_24 (by decide) (fun c10 => ?_) (fun c10 => ?_)
      · have h := it_t c10 h
        refine lv_iconst (v := (-1 : Int32)) hx hb dX4_lift_40 (by decide) ?_
        have h := Option.some.inj h
        obtain ⟨hz0, h⟩ := Prod.mk.inj h
        have hP : va_P D vwCl (xX a k B0 L0 R0 Tz U0 V0) H := by rw [← h]; exact hP
        have hD : va_D A (xX a k B0 L0 R0 Tz U0 V0) := by rw [← h]; exact hD
        subst hQ
        subst hAe
        exact r_i hx hb hr hlocks hz0 hP hD hS dX4_lift_41
      · have h := it_f c10 h
        refine lv_iload_n hx hb dX4_lift_27 rfl (lv_at hl 3 rfl) ?_
        refine lv_sipush (v := (-10000 : Int32)) hx hb dX4_lift_28 (by decide) ?_
        refine lv_sipush (v := (10000 : Int32)) hx hb dX4_lift_31 (by decide) ?_
        obtain ⟨r11, q11, h⟩ := b1_s h
        refine go_i (run_S (As := [.int p2, .int (-10000 : Int32), .int (10000 : Int32)]) (rest := []) ⟨hx, hb, hml, hown, hts⟩ hnw hK hP hD (fr_X_E a k B0 L0 R0 T0 U0 V0) (ks_X_E k) (c_X4_within l D H.size p2 (-10000 : Int32) (10000 : Int32) r11 q11) (cwS 3 hts gX4_lift_X4_within rfl rfl rfl (by decide +kernel) ⟨Nat.le_of_ble_eq_true rfl, Nat.le_of_ble_eq_true rfl⟩) rfl hl.1 rfl (Nat.le_of_ble_eq_true rfl) dX4_lift_34 ⟨Nat.zero_le _, Nat.zero_le _⟩) hP hD hS hA (fr_X_E a k B0 L0 R0 T0 U0 V0) (fun H locs hP hD hS => ?_)
        refine lv_if_ne (tgt := 42) hx hb dX4_lift_37 (by decide) (fun c12 => ?_) (fun c12 => ?_)
        · have h := it_f c12 h
          refine lv_iconst (v := (0 : Int32)) hx hb dX4_lift_42 (by decide) ?_
          refine lv_istore (lv' := [(4, .int (0 : Int32)), (0, .ref (a 26)), (1, .int p0), (2, .int p1), (3, .int p2)]) hx hb dX4_lift_43 hl (by decide) rfl (fun ls hl => ?_)
          refine lv_iload_n hx hb dX4_lift_45 rfl (lv_at hl 2 rfl) ?_
          refine lv_istore (lv' := [(5, .int p0), (4, .int (0 : Int32)), (0, .ref (a 26)), (1, .int p0), (2, .int p1), (3, .int p2)]) hx hb dX4_lift_46 hl (by decide) rfl (fun ls hl => ?_)
          exact lb48 64 (0 : Int32) p0 T0 H locs hP hD hS ls (lv_sub hl [2, 4, 5, 1, 0] rfl) h
        · have h := it_t c12 h
          refine lv_iconst (v := (-1 : Int32)) hx hb dX4_lift_40 (by decide) ?_
          have h := Option.some.inj h
          obtain ⟨hz0, h⟩ := Prod.mk.inj h
          have hP : va_P D vwCl (xX a k B0 L0 R0 Tz U0 V0) H := by rw [← h]; exact hP
          have hD : va_D A (xX a k B0 L0 R0 Tz U0 V0) := by rw [← h]; exact hD
          subst hQ
          subst hAe
          exact r_i hx hb hr hlocks hz0 hP hD hS dX4_lift_41
def f_X4_isRun  (p0 : Int32) : Option (Int32) := b1 (f_X4_within p0 (0 : Int32) (5 : Int32)) (fun r1 => gd (isb r1) (some r1))
abbrev rm_X4_isRun : Room := { frames := 1, cells := 0, slots := 0, locals := 22 }
set_option maxHeartbeats 4000000 in
set_option maxRecDepth 100000 in
theorem c_X4_isRun (l : Launch) (D : va_G) (sz : Nat)  (p0 : Int32) (r : Int32) (h : f_X4_isRun p0 = some r) : Met l yX4_isRun wsX4_isRun rm_X4_isRun (mPc D [.int p0] ([] : va_W) ([] : List (ClassId × FieldType)) sz) (mQi D ([] : va_W) ([] : va_W) sz r) 0 0 (va_A ([] : va_W) sz) := by
  refine mk_met (cc := cX4_isRun) (maxL := 1) (ret := (some .boolean)) (by decide) rfl (Nat.le_of_ble_eq_true rfl) ?_
  intro p e s m below meth c hx hb hr hml hts hown hmn hlocks hnw hsz hK hP hD hS hA ls hl
  obtain ⟨A, hAe⟩ : ∃ A, A = va_A ([] : va_W) sz := ⟨_, rfl⟩
  rw [← hAe] at hD hS hA
  generalize hargs : List.toArray ([.int p0] : List Value) = args at hts ⊢
  generalize hQ : MQ below (mQi D ([] : va_W) ([] : va_W) sz r) args s 0 0 (va_A ([] : va_W) sz) = Q
  have hl : lv_has ls 1 [(0, .int p0)] := hl
  rw [f_X4_isRun] at h
  obtain ⟨H, hH⟩ : ∃ H, H = s.heap := ⟨_, rfl⟩
  obtain ⟨locs, hlc⟩ : ∃ L : List Loc, L = [] := ⟨_, rfl⟩
  rw [← hH] at hP
  have hS : va_S A s.heap H locs := by rw [hH, hlc]; exact hS
  suffices hW9 : W p l e rm_X4_isRun s m args below meth c H locs 0 0 Q (F0 m 0 ls []) by rw [hH, hlc] at hW9; exact hW9
  refine lv_iload_n hx hb dX4_isRun_0 rfl (lv_at hl 0 rfl) ?_
  refine lv_iconst (v := (0 : Int32)) hx hb dX4_isRun_1 (by decide) ?_
  refine lv_iconst (v := (5 : Int32)) hx hb dX4_isRun_2 (by decide) ?_
  obtain ⟨r1, q1, h⟩ := b1_s h
  refine go_i (run_S (As := [.int p0, .int (0 : Int32), .int (5 : Int32)]) (rest := []) ⟨hx, hb, hml, hown, hts⟩ hnw hK hP hD (fr_E_E ) (ks_E_E) (c_X4_within l D H.size p0 (0 : Int32) (5 : Int32) r1 q1) (cwS 3 hts gX4_isRun_X4_within rfl rfl rfl (by decide +kernel) ⟨Nat.le_of_ble_eq_true rfl, Nat.le_of_ble_eq_true rfl⟩) rfl hl.1 rfl (Nat.le_of_ble_eq_true rfl) dX4_isRun_3 ⟨Nat.zero_le _, Nat.zero_le _⟩) hP hD hS hA (fr_E_E ) (fun H locs hP hD hS => ?_)
  obtain ⟨g2, h⟩ := gd_s h
  have h := Option.some.inj h
  subst hQ
  subst hAe
  exact r_z hx hb hr (isb_s g2) hlocks h hP hD hS dX4_isRun_6
def f_X4_measure_L30 (T0 : Nat → Nat → Int32) (p0 : Int32) (p1 : Int32)  : Nat → Int32 → Int32 → (Nat → Nat → Int32) → Option (Int32 × (Nat → Nat → Int32))
  | 0, _, _, _ => none
  | n + 1, x3, x4, U => if (40 : Int32) ≤ x4 then (some (x3, U)) else (gd (inb p0 6) (ltt (Int32.toNatClampNeg p0) (fun q_3 => b1 (f_X1_chord T0 x4 p1) (fun r4 => gd (inb x4 40) (ltt (st U q_3 (Int32.toNatClampNeg x4) r4) (fun (U_6 : Nat → Nat → Int32) => ltt (x4 + (1 : Int32)) (fun v7 => f_X4_measure_L30 T0 p0 p1 n x3 v7 U_6)))))))
def f_X4_measure (T0 : Nat → Nat → Int32) (U0 : Nat → Nat → Int32) (p0 : Int32) (p1 : Int32) : Option (Int32 × (Nat → Nat → Int32)) := b1 (f_X4_isRun p0) (fun r8 => if r8 = (0 : Int32) then (some ((-1 : Int32), U0)) else (b1 (f_X4_within p1 (1 : Int32) (4 : Int32)) (fun r10 => if r10 = (0 : Int32) then (some ((-1 : Int32), U0)) else (b2 (f_X0_open U0 p0) (fun r12 (U_12 : Nat → Nat → Int32) => f_X4_measure_L30 T0 p0 p1 64 r12 (0 : Int32) U_12)))))
abbrev rm_X4_measure : Room := { frames := 5, cells := 0, slots := 0, locals := 113 }
set_option maxHeartbeats 4000000 in
set_option maxRecDepth 100000 in
theorem c_X4_measure (l : Launch) (D : va_G) (a : Nat → Nat) (k : Nat → ClassId) (sz : Nat) (B0 : Nat → Nat → Int32) (L0 : Int64) (R0 : Nat → Nat → Int32) (T0 : Nat → Nat → Int32) (U0 : Nat → Nat → Int32) (V0 : Nat → Nat → Int32) (p0 : Int32) (p1 : Int32) (r : Int32) (Uz : (Nat → Nat → Int32)) (h : f_X4_measure T0 U0 p0 p1 = some (r, Uz)) : Met l yX4_measure wsX4_measure rm_X4_measure (mPc D [.ref (a 26), .int p0, .int p1] (xX a k B0 L0 R0 T0 U0 V0) (tX k) sz) (mQi D (xX a k B0 L0 R0 T0 U0 V0) (xX a k B0 L0 R0 T0 Uz V0) sz r) 0 0 (va_A (xX a k B0 L0 R0 T0 U0 V0) sz) := by
  refine mk_met (cc := cX4_measure) (maxL := 5) (ret := (some .int)) (by decide) rfl (Nat.le_of_ble_eq_true rfl) ?_
  intro p e s m below meth c hx hb hr hml hts hown hmn hlocks hnw hsz hK hP hD hS hA ls hl
  obtain ⟨A, hAe⟩ : ∃ A, A = va_A (xX a k B0 L0 R0 T0 U0 V0) sz := ⟨_, rfl⟩
  rw [← hAe] at hD hS hA
  generalize hargs : List.toArray ([.ref (a 26), .int p0, .int p1] : List Value) = args at hts ⊢
  generalize hQ : MQ below (mQi D (xX a k B0 L0 R0 T0 U0 V0) (xX a k B0 L0 R0 T0 Uz V0) sz r) args s 0 0 (va_A (xX a k B0 L0 R0 T0 U0 V0) sz) = Q
  have hl : lv_has ls 5 [(0, .ref (a 26)), (1, .int p0), (2, .int p1)] := hl
  have hin0 : ∀ w ∈ wsX00, w ∈ wsX4_measure := fun w h => List.mem_cons_of_mem _ (List.mem_append_left _ (List.mem_append_right _ h))
  have hin4 : ∀ w ∈ wsX40, w ∈ wsX4_measure := fun w h => List.mem_cons_of_mem _ (List.mem_append_left _ (List.mem_append_left _ (List.mem_append_right _ h)))
  have lb30 : ∀ (n : Nat), ∀ (x3 : Int32) (x4 : Int32) (U : Nat → Nat → Int32), ∀ (H : Heap) (locs : List Loc), va_P D vwCl (xX a k B0 L0 R0 T0 U V0) H → va_D A (xX a k B0 L0 R0 T0 U V0) → va_S A s.heap H locs → ∀ ls : Array Slot, lv_has ls 5 [(0, .ref (a 26)), (1, .int p0), (2, .int p1), (3, .int x3), (4, .int x4)] → f_X4_measure_L30 T0 p0 p1 n x3 x4 U = some (r, Uz) → W p l e rm_X4_measure s m args below meth c H locs 0 0 Q (F0 m 30 ls []) := by
    intro n
    induction n with
    | zero =>
      intro x3 x4 U H locs hP hD hS ls hl h
      rw [f_X4_measure_L30] at h
      cases h
    | succ n ih =>
      intro x3 x4 U H locs hP hD hS ls hl h
      rw [f_X4_measure_L30] at h
      refine lv_iload hx hb dX4_measure_30 (lv_at hl 4 rfl) ?_
      refine lv_bipush (v := (40 : Int32)) hx hb dX4_measure_32 (by decide) ?_
      refine lv_icmp_ge (tgt := 65) hx hb dX4_measure_34 (by decide) (fun c1 => ?_) (fun c1 => ?_)
      · have h := it_t c1 h
        refine lv_iload_n hx hb dX4_measure_65 rfl (lv_at hl 3 rfl) ?_
        have h := Option.some.inj h
        obtain ⟨hz0, h⟩ := Prod.mk.inj h
        have hP : va_P D vwCl (xX a k B0 L0 R0 T0 Uz V0) H := by rw [← h]; exact hP
        have hD : va_D A (xX a k B0 L0 R0 T0 Uz V0) := by rw [← h]; exact hD
        subst hQ
        subst hAe
        exact r_i hx hb hr hlocks hz0 hP hD hS dX4_measure_66
      · have h := it_f c1 h
        refine lv_aload_n hx hb dX4_measure_37 rfl (lv_at hl 0 rfl) ?_
        refine va_get (D := D) (ci := 4) (v := .ref (a 11)) (C := RX4) (T := TX4) (N := 8) hx hb hts hin4 hown hK hP 0 rfl rfl 2 (by decide) (hts (.fieldLink RX4 26 "BallastLine" "runs" "LBallastLine$Runs;") (List.mem_of_getElem? (i := 1) rfl)) (fun _ h9 => h9) rfl dX4_measure_38 ?_
        refine va_getN (host := RX4) (D := D) (ci := 0) (v := .ref (a 12)) (C := RX0) (T := TX0) (N := 2) hx hb hts hin0 hown hK hP 14 rfl rfl 0 (by decide) (va_Nw.use rfl (hnw.1 (RX4, 143, "BallastLine$Runs", "rows", "[[I", RX4) (List.mem_of_getElem? (i := 13) rfl))) (fun _ h9 => h9) rfl dX4_measure_41 ?_
        refine lv_iload_n hx hb dX4_measure_44 rfl (lv_at hl 1 rfl) ?_
        obtain ⟨g2, h⟩ := gd_s h
        obtain ⟨q_3, eq_3⟩ : ∃ y : Nat, y = Int32.toNatClampNeg p0 := ⟨_, rfl⟩
        have h := ltt_s eq_3 h
        have hq_3 : q_3 < 6 := by rw [eq_3]; exact clt_of g2
        refine va_ldrow hx hb hK hP 15 11 rfl rfl (inb_in g2) eq_3 dX4_measure_45 ?_
        refine lv_iload hx hb dX4_measure_46 (lv_at hl 4 rfl) ?_
        refine lv_aload_n hx hb dX4_measure_48 rfl (lv_at hl 0 rfl) ?_
        refine va_get (D := D) (ci := 4) (v := .ref (a 0)) (C := RX4) (T := TX4) (N := 8) hx hb hts hin4 hown hK hP 0 rfl rfl 0 (by decide) (hts (.fieldLink RX4 10 "BallastLine" "track" "LBallastLine$Track;") (List.mem_of_getElem? (i := 2) rfl)) (fun _ h9 => h9) rfl dX4_measure_49 ?_
        refine lv_iload hx hb dX4_measure_52 (lv_at hl 4 rfl) ?_
        refine lv_iload_n hx hb dX4_measure_54 rfl (lv_at hl 2 rfl) ?_
        obtain ⟨r4, q4, h⟩ := b1_s h
        refine go_i (run_VN (As := [.int x4, .int p1]) (rest := [.int x4, .ref (a (13 + q_3))]) ⟨hx, hb, hml, hown, hts⟩ hnw hK hP hD (fr_X_T a k B0 L0 R0 T0 U V0 T0) (ks_X_T k) (c_X1_chord l D a k H.size T0 x4 p1 r4 q4) ⟨va_cnB 2 hts ggX4_measure_X1_chord rfl rfl rfl (hnw.2 (RX4, 147, yX1_chord, RX4) (List.mem_of_getElem? (i := 22) rfl)) (hts (.initialized RX1) (List.mem_of_getElem? (i := 16) rfl)) (by decide +kernel) ⟨Nat.le_of_ble_eq_true rfl, Nat.le_of_ble_eq_true rfl⟩, (hts (.instanceMethod yX1_chord) (List.mem_of_getElem? (i := 15) rfl)), (hts (.selects RX1 yX1_chord yX1_chord) (List.mem_of_getElem? (i := 17) rfl))⟩ (rcv_T a k T0) rfl hl.1 rfl (Nat.le_of_ble_eq_true rfl) dX4_measure_55 ⟨Nat.zero_le _, Nat.zero_le _⟩) hP hD hS hA (fr_X_T a k B0 L0 R0 T0 U V0 T0) (fun H locs hP hD hS => ?_)
        obtain ⟨g5, h⟩ := gd_s h
        refine va_iast hx hb hK hP hD hS (16 + q_3) (12 + q_3) (rowat_X a k B0 L0 R0 T0 U V0 q_3 hq_3) (rowty_X k q_3 hq_3) (inb_in g5) dX4_measure_58 (fun H locs hP hD hS => ?_)
        rw [rowset_X a k B0 L0 R0 T0 U V0 q_3 hq_3] at hP hD
        obtain ⟨U_6, eU_6⟩ : ∃ y : Nat → Nat → Int32, y = st U q_3 (Int32.toNatClampNeg x4) r4 := ⟨_, rfl⟩
        have h := ltt_s eU_6 h
        have hP : va_P D vwCl (xX a k B0 L0 R0 T0 U_6 V0) H := by rw [eU_6]; exact hP
        have hD : va_D A (xX a k B0 L0 R0 T0 U_6 V0) := by rw [eU_6]; exact hD
        obtain ⟨v7, ev7⟩ : ∃ y : Int32, y = x4 + (1 : Int32) := ⟨_, rfl⟩
        have h := ltt_s ev7 h
        refine lv_iinc (v := v7) (lv' := [(4, .int v7), (0, .ref (a 26)), (1, .int p0), (2, .int p1), (3, .int x3)]) hx hb dX4_measure_59 hl (k := 4) rfl (by rw [ev7]; rfl) (by decide) rfl (fun ls hl => ?_)
        refine lv_goto (tgt := 30) hx hb dX4_measure_62 (by decide) ?_
        exact ih x3 v7 U_6 H locs hP hD hS ls (lv_sub hl [1, 2, 3, 4, 0] rfl) h
  rw [f_X4_measure] at h
  obtain ⟨H, hH⟩ : ∃ H, H = s.heap := ⟨_, rfl⟩
  obtain ⟨locs, hlc⟩ : ∃ L : List Loc, L = [] := ⟨_, rfl⟩
  rw [← hH] at hP
  have hS : va_S A s.heap H locs := by rw [hH, hlc]; exact hS
  suffices hW9 : W p l e rm_X4_measure s m args below meth c H locs 0 0 Q (F0 m 0 ls []) by rw [hH, hlc] at hW9; exact hW9
  refine lv_iload_n hx hb dX4_measure_0 rfl (lv_at hl 1 rfl) ?_
  obtain ⟨r8, q8, h⟩ := b1_s h
  refine go_i (run_S (As := [.int p0]) (rest := []) ⟨hx, hb, hml, hown, hts⟩ hnw hK hP hD (fr_X_E a k B0 L0 R0 T0 U0 V0) (ks_X_E k) (c_X4_isRun l D H.size p0 r8 q8) (cwS 1 hts gX4_measure_X4_isRun rfl rfl rfl (by decide +kernel) ⟨Nat.le_of_ble_eq_true rfl, Nat.le_of_ble_eq_true rfl⟩) rfl hl.1 rfl (Nat.le_of_ble_eq_true rfl) dX4_measure_1 ⟨Nat.zero_le _, Nat.zero_le _⟩) hP hD hS hA (fr_X_E a k B0 L0 R0 T0 U0 V0) (fun H locs hP hD hS => ?_)
  refine lv_if_eq (tgt := 16) hx hb dX4_measure_4 (by decide) (fun c9 => ?_) (fun c9 => ?_)
  · have h := it_t c9 h
    refine lv_iconst (v := (-1 : Int32)) hx hb dX4_measure_16 (by decide) ?_
    have h := Option.some.inj h
    obtain ⟨hz0, h⟩ := Prod.mk.inj h
    have hP : va_P D vwCl (xX a k B0 L0 R0 T0 Uz V0) H := by rw [← h]; exact hP
    have hD : va_D A (xX a k B0 L0 R0 T0 Uz V0) := by rw [← h]; exact hD
    subst hQ
    subst hAe
    exact r_i hx hb hr hlocks hz0 hP hD hS dX4_measure_17
  · have h := it_f c9 h
    refine lv_iload_n hx hb dX4_measure_7 rfl (lv_at hl 2 rfl) ?_
    refine lv_iconst (v := (1 : Int32)) hx hb dX4_measure_8 (by decide) ?_
    refine lv_iconst (v := (4 : Int32)) hx hb dX4_measure_9 (by decide) ?_
    obtain ⟨r10, q10, h⟩ := b1_s h
    refine go_i (run_S (As := [.int p1, .int (1 : Int32), .int (4 : Int32)]) (rest := []) ⟨hx, hb, hml, hown, hts⟩ hnw hK hP hD (fr_X_E a k B0 L0 R0 T0 U0 V0) (ks_X_E k) (c_X4_within l D H.size p1 (1 : Int32) (4 : Int32) r10 q10) (cwS 3 hts gX4_measure_X4_within rfl rfl rfl (by decide +kernel) ⟨Nat.le_of_ble_eq_true rfl, Nat.le_of_ble_eq_true rfl⟩) rfl hl.1 rfl (Nat.le_of_ble_eq_true rfl) dX4_measure_10 ⟨Nat.zero_le _, Nat.zero_le _⟩) hP hD hS hA (fr_X_E a k B0 L0 R0 T0 U0 V0) (fun H locs hP hD hS => ?_)
    refine lv_if_ne (tgt := 18) hx hb dX4_measure_13 (by decide) (fun c11 => ?_) (fun c11 => ?_)
    · have h := it_f c11 h
      refine lv_aload_n hx hb dX4_measure_18 rfl (lv_at hl 0 rfl) ?_
      refine va_get (D := D) (ci := 4) (v := .ref (a 11)) (C := RX4) (T := TX4) (N := 8) hx hb hts hin4 hown hK hP 0 rfl rfl 2 (by decide) (hts (.fieldLink RX4 26 "BallastLine" "runs" "LBallastLine$Runs;") (List.mem_of_getElem? (i := 1) rfl)) (fun _ h9 => h9) rfl dX4_measure_19 ?_
      refine lv_iload_n hx hb dX4_measure_22 rfl (lv_at hl 1 rfl) ?_
      obtain ⟨r12, U_12, q12, h⟩ := b2_s h
      refine go_i (run_VN (As := [.int p0]) (rest := []) ⟨hx, hb, hml, hown, hts⟩ hnw hK hP hD (fr_X_U a k B0 L0 R0 T0 U0 V0 U_12) (ks_X_U k) (c_X0_open l D a k H.size U0 p0 r12 U_12 q12) ⟨va_cnB 1 hts ggX4_measure_X0_open rfl rfl rfl (hnw.2 (RX4, 140, yX0_open, RX4) (List.mem_of_getElem? (i := 21) rfl)) (hts (.initialized RX0) (List.mem_of_getElem? (i := 11) rfl)) (by decide +kernel) ⟨Nat.le_of_ble_eq_true rfl, Nat.le_of_ble_eq_true rfl⟩, (hts (.instanceMethod yX0_open) (List.mem_of_getElem? (i := 10) rfl)), (hts (.selects RX0 yX0_open yX0_open) (List.mem_of_getElem? (i := 12) rfl))⟩ (rcv_U a k U0) rfl hl.1 rfl (Nat.le_of_ble_eq_true rfl) dX4_measure_23 ⟨Nat.zero_le _, Nat.zero_le _⟩) hP hD hS hA (fr_X_U a k B0 L0 R0 T0 U0 V0 U_12) (fun H locs hP hD hS => ?_)
      refine lv_istore_n (lv' := [(3, .int r12), (0, .ref (a 26)), (1, .int p0), (2, .int p1)]) hx hb dX4_measure_26 rfl hl (by decide) rfl (fun ls hl => ?_)
      refine lv_iconst (v := (0 : Int32)) hx hb dX4_measure_27 (by decide) ?_
      refine lv_istore (lv' := [(4, .int (0 : Int32)), (3, .int r12), (0, .ref (a 26)), (1, .int p0), (2, .int p1)]) hx hb dX4_measure_28 hl (by decide) rfl (fun ls hl => ?_)
      exact lb30 64 r12 (0 : Int32) U_12 H locs hP hD hS ls (lv_sub hl [2, 3, 4, 1, 0] rfl) h
    · have h := it_t c11 h
      refine lv_iconst (v := (-1 : Int32)) hx hb dX4_measure_16 (by decide) ?_
      have h := Option.some.inj h
      obtain ⟨hz0, h⟩ := Prod.mk.inj h
      have hP : va_P D vwCl (xX a k B0 L0 R0 T0 Uz V0) H := by rw [← h]; exact hP
      have hD : va_D A (xX a k B0 L0 R0 T0 Uz V0) := by rw [← h]; exact hD
      subst hQ
      subst hAe
      exact r_i hx hb hr hlocks hz0 hP hD hS dX4_measure_17
def f_X4_level_J59 (T0 : Nat → Nat → Int32) (p0 : Int32) (ko20 : Int32 → Int32 → (Nat → Nat → Int32) → Option (Int32 × (Nat → Nat → Int32))) (x2 : Int32) (x3 : Int32) (s0 : Int32) (s1 : Int32) (y2 : Nat) (U : Nat → Nat → Int32) : Option (Int32 × (Nat → Nat → Int32)) := gd (inb s1 40) (ltt (st U y2 (Int32.toNatClampNeg s1) s0) (fun (U_2 : Nat → Nat → Int32) => ltt (x3 + (1 : Int32)) (fun v3 => ko20 x2 v3 U_2)))
def f_X4_level_L20 (T0 : Nat → Nat → Int32) (p0 : Int32)  : Nat → Int32 → Int32 → (Nat → Nat → Int32) → Option (Int32 × (Nat → Nat → Int32))
  | 0, _, _, _ => none
  | n + 1, x2, x3, U => if (40 : Int32) ≤ x3 then (some (x2, U)) else (gd (inb p0 6) (ltt (Int32.toNatClampNeg p0) (fun q_6 => b1 (f_X1_has T0 x3) (fun r7 => if r7 = (0 : Int32) then (f_X4_level_J59 T0 p0 (f_X4_level_L20 T0 p0 n) x2 x3 (0 : Int32) x3 q_6 U) else (b1 (f_X1_height T0 x3) (fun r9 => f_X4_level_J59 T0 p0 (f_X4_level_L20 T0 p0 n) x2 x3 r9 x3 q_6 U))))))
def f_X4_level (T0 : Nat → Nat → Int32) (U0 : Nat → Nat → Int32) (p0 : Int32) : Option (Int32 × (Nat → Nat → Int32)) := b1 (f_X4_isRun p0) (fun r10 => if r10 = (0 : Int32) then (some ((-1 : Int32), U0)) else (b2 (f_X0_open U0 p0) (fun r12 (U_12 : Nat → Nat → Int32) => f_X4_level_L20 T0 p0 64 r12 (0 : Int32) U_12)))
abbrev rm_X4_level : Room := { frames := 4, cells := 0, slots := 0, locals := 91 }
set_option maxHeartbeats 4000000 in
set_option maxRecDepth 100000 in
theorem c_X4_level (l : Launch) (D : va_G) (a : Nat → Nat) (k : Nat → ClassId) (sz : Nat) (B0 : Nat → Nat → Int32) (L0 : Int64) (R0 : Nat → Nat → Int32) (T0 : Nat → Nat → Int32) (U0 : Nat → Nat → Int32) (V0 : Nat → Nat → Int32) (p0 : Int32) (r : Int32) (Uz : (Nat → Nat → Int32)) (h : f_X4_level T0 U0 p0 = some (r, Uz)) : Met l yX4_level wsX4_level rm_X4_level (mPc D [.ref (a 26), .int p0] (xX a k B0 L0 R0 T0 U0 V0) (tX k) sz) (mQi D (xX a k B0 L0 R0 T0 U0 V0) (xX a k B0 L0 R0 T0 Uz V0) sz r) 0 0 (va_A (xX a k B0 L0 R0 T0 U0 V0) sz) := by
  refine mk_met (cc := cX4_level) (maxL := 4) (ret := (some .int)) (by decide) rfl (Nat.le_of_ble_eq_true rfl) ?_
  intro p e s m below meth c hx hb hr hml hts hown hmn hlocks hnw hsz hK hP hD hS hA ls hl
  obtain ⟨A, hAe⟩ : ∃ A, A = va_A (xX a k B0 L0 R0 T0 U0 V0) sz := ⟨_, rfl⟩
  rw [← hAe] at hD hS hA
  generalize hargs : List.toArray ([.ref (a 26), .int p0] : List Value) = args at hts ⊢
  generalize hQ : MQ below (mQi D (xX a k B0 L0 R0 T0 U0 V0) (xX a k B0 L0 R0 T0 Uz V0) sz r) args s 0 0 (va_A (xX a k B0 L0 R0 T0 U0 V0) sz) = Q
  have hl : lv_has ls 4 [(0, .ref (a 26)), (1, .int p0)] := hl
  have hin0 : ∀ w ∈ wsX00, w ∈ wsX4_level := fun w h => List.mem_cons_of_mem _ (List.mem_append_left _ (List.mem_append_right _ h))
  have hin4 : ∀ w ∈ wsX40, w ∈ wsX4_level := fun w h => List.mem_cons_of_mem _ (List.mem_append_left _ (List.mem_append_left _ (List.mem_append_right _ h)))
  have lb59 : ∀ (ko20 : Int32 → Int32 → (Nat → Nat → Int32) → Option (Int32 × (Nat → Nat → Int32))), (∀ (x2 : Int32) (x3 : Int32) (U : Nat → Nat → Int32), ∀ (H : Heap) (locs : List Loc), va_P D vwCl (xX a k B0 L0 R0 T0 U V0) H → va_D A (xX a k B0 L0 R0 T0 U V0) → va_S A s.heap H locs → ∀ ls : Array Slot, lv_has ls 4 [(0, .ref (a 26)), (1, .int p0), (2, .int x2), (3, .int x3)] → ko20 x2 x3 U = some (r, Uz) → W p l e rm_X4_level s m args below meth c H locs 0 0 Q (F0 m 20 ls [])) → ∀ (x2 : Int32) (x3 : Int32) (s0 : Int32) (s1 : Int32) (y2 : Nat) (U : Nat → Nat → Int32), (y2 < 6) → ∀ (H : Heap) (locs : List Loc), va_P D vwCl (xX a k B0 L0 R0 T0 U V0) H → va_D A (xX a k B0 L0 R0 T0 U V0) → va_S A s.heap H locs → ∀ ls : Array Slot, lv_has ls 4 [(0, .ref (a 26)), (1, .int p0), (2, .int x2), (3, .int x3)] → f_X4_level_J59 T0 p0 ko20 x2 x3 s0 s1 y2 U = some (r, Uz) → W p l e rm_X4_level s m args below meth c H locs 0 0 Q (F0 m 59 ls [.int s0, .int s1, .ref (a (13 + y2))]) := by
    intro ko20 hko20 x2 x3 s0 s1 y2 U hy2 H locs hP hD hS ls hl h
    rw [f_X4_level_J59] at h
    obtain ⟨g1, h⟩ := gd_s h
    refine va_iast hx hb hK hP hD hS (16 + y2) (12 + y2) (rowat_X a k B0 L0 R0 T0 U V0 y2 hy2) (rowty_X k y2 hy2) (inb_in g1) dX4_level_59 (fun H locs hP hD hS => ?_)
    rw [rowset_X a k B0 L0 R0 T0 U V0 y2 hy2] at hP hD
    obtain ⟨U_2, eU_2⟩ : ∃ y : Nat → Nat → Int32, y = st U y2 (Int32.toNatClampNeg s1) s0 := ⟨_, rfl⟩
    have h := ltt_s eU_2 h
    have hP : va_P D vwCl (xX a k B0 L0 R0 T0 U_2 V0) H := by rw [eU_2]; exact hP
    have hD : va_D A (xX a k B0 L0 R0 T0 U_2 V0) := by rw [eU_2]; exact hD
    obtain ⟨v3, ev3⟩ : ∃ y : Int32, y = x3 + (1 : Int32) := ⟨_, rfl⟩
    have h := ltt_s ev3 h
    refine lv_iinc (v := v3) (lv' := [(3, .int v3), (0, .ref (a 26)), (1, .int p0), (2, .int x2)]) hx hb dX4_level_60 hl (k := 3) rfl (by rw [ev3]; rfl) (by decide) rfl (fun ls hl => ?_)
    refine lv_goto (tgt := 20) hx hb dX4_level_63 (by decide) ?_
    exact hko20 x2 v3 U_2 H locs hP hD hS ls (lv_sub hl [1, 2, 3, 0] rfl) h
  have lb20 : ∀ (n : Nat), ∀ (x2 : Int32) (x3 : Int32) (U : Nat → Nat → Int32), ∀ (H : Heap) (locs : List Loc), va_P D vwCl (xX a k B0 L0 R0 T0 U V0) H → va_D A (xX a k B0 L0 R0 T0 U V0) → va_S A s.heap H locs → ∀ ls : Array Slot, lv_has ls 4 [(0, .ref (a 26)), (1, .int p0), (2, .int x2), (3, .int x3)] → f_X4_level_L20 T0 p0 n x2 x3 U = some (r, Uz) → W p l e rm_X4_level s m args below meth c H locs 0 0 Q (F0 m 20 ls []) := by
    intro n
    induction n with
    | zero =>
      intro x2 x3 U H locs hP hD hS ls hl h
      rw [f_X4_level_L20] at h
      cases h
    | succ n ih =>
      intro x2 x3 U H locs hP hD hS ls hl h
      rw [f_X4_level_L20] at h
      refine lv_iload_n hx hb dX4_level_20 rfl (lv_at hl 3 rfl) ?_
      refine lv_bipush (v := (40 : Int32)) hx hb dX4_level_21 (by decide) ?_
      refine lv_icmp_ge (tgt := 66) hx hb dX4_level_23 (by decide) (fun c4 => ?_) (fun c4 => ?_)
      · have h := it_t c4 h
        refine lv_iload_n hx hb dX4_level_66 rfl (lv_at hl 2 rfl) ?_
        have h := Option.some.inj h
        obtain ⟨hz0, h⟩ := Prod.mk.inj h
        have hP : va_P D vwCl (xX a k B0 L0 R0 T0 Uz V0) H := by rw [← h]; exact hP
        have hD : va_D A (xX a k B0 L0 R0 T0 Uz V0) := by rw [← h]; exact hD
        subst hQ
        subst hAe
        exact r_i hx hb hr hlocks hz0 hP hD hS dX4_level_67
      · have h := it_f c4 h
        refine lv_aload_n hx hb dX4_level_26 rfl (lv_at hl 0 rfl) ?_
        refine va_get (D := D) (ci := 4) (v := .ref (a 11)) (C := RX4) (T := TX4) (N := 8) hx hb hts hin4 hown hK hP 0 rfl rfl 2 (by decide) (hts (.fieldLink RX4 26 "BallastLine" "runs" "LBallastLine$Runs;") (List.mem_of_getElem? (i := 1) rfl)) (fun _ h9 => h9) rfl dX4_level_27 ?_
        refine va_getN (host := RX4) (D := D) (ci := 0) (v := .ref (a 12)) (C := RX0) (T := TX0) (N := 2) hx hb hts hin0 hown hK hP 14 rfl rfl 0 (by decide) (va_Nw.use rfl (hnw.1 (RX4, 143, "BallastLine$Runs", "rows", "[[I", RX4) (List.mem_of_getElem? (i := 13) rfl))) (fun _ h9 => h9) rfl dX4_level_30 ?_
        refine lv_iload_n hx hb dX4_level_33 rfl (lv_at hl 1 rfl) ?_
        obtain ⟨g5, h⟩ := gd_s h
        obtain ⟨q_6, eq_6⟩ : ∃ y : Nat, y = Int32.toNatClampNeg p0 := ⟨_, rfl⟩
        have h := ltt_s eq_6 h
        have hq_6 : q_6 < 6 := by rw [eq_6]; exact clt_of g5
        refine va_ldrow hx hb hK hP 15 11 rfl rfl (inb_in g5) eq_6 dX4_level_34 ?_
        refine lv_iload_n hx hb dX4_level_35 rfl (lv_at hl 3 rfl) ?_
        refine lv_aload_n hx hb dX4_level_36 rfl (lv_at hl 0 rfl) ?_
        refine va_get (D := D) (ci := 4) (v := .ref (a 0)) (C := RX4) (T := TX4) (N := 8) hx hb hts hin4 hown hK hP 0 rfl rfl 0 (by decide) (hts (.fieldLink RX4 10 "BallastLine" "track" "LBallastLine$Track;") (List.mem_of_getElem? (i := 2) rfl)) (fun _ h9 => h9) rfl dX4_level_37 ?_
        refine lv_iload_n hx hb dX4_level_40 rfl (lv_at hl 3 rfl) ?_
        obtain ⟨r7, q7, h⟩ := b1_s h
        refine go_i (run_VN (As := [.int x3]) (rest := [.int x3, .ref (a (13 + q_6))]) ⟨hx, hb, hml, hown, hts⟩ hnw hK hP hD (fr_X_T a k B0 L0 R0 T0 U V0 T0) (ks_X_T k) (c_X1_has l D a k H.size T0 x3 r7 q7) ⟨va_cnB 1 hts ggX4_level_X1_has rfl rfl rfl (hnw.2 (RX4, 60, yX1_has, RX4) (List.mem_of_getElem? (i := 5) rfl)) (hts (.initialized RX1) (List.mem_of_getElem? (i := 16) rfl)) (by decide +kernel) ⟨Nat.le_of_ble_eq_true rfl, Nat.le_of_ble_eq_true rfl⟩, (hts (.instanceMethod yX1_has) (List.mem_of_getElem? (i := 15) rfl)), (hts (.selects RX1 yX1_has yX1_has) (List.mem_of_getElem? (i := 17) rfl))⟩ (rcv_T a k T0) rfl hl.1 rfl (Nat.le_of_ble_eq_true rfl) dX4_level_41 ⟨Nat.zero_le _, Nat.zero_le _⟩) hP hD hS hA (fr_X_T a k B0 L0 R0 T0 U V0 T0) (fun H locs hP hD hS => ?_)
        refine lv_if_eq (tgt := 58) hx hb dX4_level_44 (by decide) (fun c8 => ?_) (fun c8 => ?_)
        · have h := it_t c8 h
          refine lv_iconst (v := (0 : Int32)) hx hb dX4_level_58 (by decide) ?_
          exact lb59 (f_X4_level_L20 T0 p0 n) ih x2 x3 (0 : Int32) x3 q_6 U hq_6 H locs hP hD hS ls (lv_sub hl [0, 1, 2, 3] rfl) h
        · have h := it_f c8 h
          refine lv_aload_n hx hb dX4_level_47 rfl (lv_at hl 0 rfl) ?_
          refine va_get (D := D) (ci := 4) (v := .ref (a 0)) (C := RX4) (T := TX4) (N := 8) hx hb hts hin4 hown hK hP 0 rfl rfl 0 (by decide) (hts (.fieldLink RX4 10 "BallastLine" "track" "LBallastLine$Track;") (List.mem_of_getElem? (i := 2) rfl)) (fun _ h9 => h9) rfl dX4_level_48 ?_
          refine lv_iload_n hx hb dX4_level_51 rfl (lv_at hl 3 rfl) ?_
          obtain ⟨r9, q9, h⟩ := b1_s h
          refine go_i (run_VN (As := [.int x3]) (rest := [.int x3, .ref (a (13 + q_6))]) ⟨hx, hb, hml, hown, hts⟩ hnw hK hP hD (fr_X_T a k B0 L0 R0 T0 U V0 T0) (ks_X_T k) (c_X1_height l D a k H.size T0 x3 r9 q9) ⟨va_cnB 1 hts ggX4_level_X1_height rfl rfl rfl (hnw.2 (RX4, 103, yX1_height, RX4) (List.mem_of_getElem? (i := 9) rfl)) (hts (.initialized RX1) (List.mem_of_getElem? (i := 16) rfl)) (by decide +kernel) ⟨Nat.le_of_ble_eq_true rfl, Nat.le_of_ble_eq_true rfl⟩, (hts (.instanceMethod yX1_height) (List.mem_of_getElem? (i := 20) rfl)), (hts (.selects RX1 yX1_height yX1_height) (List.mem_of_getElem? (i := 21) rfl))⟩ (rcv_T a k T0) rfl hl.1 rfl (Nat.le_of_ble_eq_true rfl) dX4_level_52 ⟨Nat.zero_le _, Nat.zero_le _⟩) hP hD hS hA (fr_X_T a k B0 L0 R0 T0 U V0 T0) (fun H locs hP hD hS => ?_)
          refine lv_goto (tgt := 59) hx hb dX4_level_55 (by decide) ?_
          exact lb59 (f_X4_level_L20 T0 p0 n) ih x2 x3 r9 x3 q_6 U hq_6 H locs hP hD hS ls (lv_sub hl [0, 1, 2, 3] rfl) h
  rw [f_X4_level] at h
  obtain ⟨H, hH⟩ : ∃ H, H = s.heap := ⟨_, rfl⟩
  obtain ⟨locs, hlc⟩ : ∃ L : List Loc, L = [] := ⟨_, rfl⟩
  rw [← hH] at hP
  have hS : va_S A s.heap H locs := by rw [hH, hlc]; exact hS
  suffices hW9 : W p l e rm_X4_level s m args below meth c H locs 0 0 Q (F0 m 0 ls []) by rw [hH, hlc] at hW9; exact hW9
  refine lv_iload_n hx hb dX4_level_0 rfl (lv_at hl 1 rfl) ?_
  obtain ⟨r10, q10, h⟩ := b1_s h
  refine go_i (run_S (As := [.int p0]) (rest := []) ⟨hx, hb, hml, hown, hts⟩ hnw hK hP hD (fr_X_E a k B0 L0 R0 T0 U0 V0) (ks_X_E k) (c_X4_isRun l D H.size p0 r10 q10) (cwS 1 hts gX4_level_X4_isRun rfl rfl rfl (by decide +kernel) ⟨Nat.le_of_ble_eq_true rfl, Nat.le_of_ble_eq_true rfl⟩) rfl hl.1 rfl (Nat.le_of_ble_eq_true rfl) dX4_level_1 ⟨Nat.zero_le _, Nat.zero_le _⟩) hP hD hS hA (fr_X_E a k B0 L0 R0 T0 U0 V0) (fun H locs hP hD hS => ?_)
  refine lv_if_ne (tgt := 9) hx hb dX4_level_4 (by decide) (fun c11 => ?_) (fun c11 => ?_)
  · have h := it_f c11 h
    refine lv_aload_n hx hb dX4_level_9 rfl (lv_at hl 0 rfl) ?_
    refine va_get (D := D) (ci := 4) (v := .ref (a 11)) (C := RX4) (T := TX4) (N := 8) hx hb hts hin4 hown hK hP 0 rfl rfl 2 (by decide) (hts (.fieldLink RX4 26 "BallastLine" "runs" "LBallastLine$Runs;") (List.mem_of_getElem? (i := 1) rfl)) (fun _ h9 => h9) rfl dX4_level_10 ?_
    refine lv_iload_n hx hb dX4_level_13 rfl (lv_at hl 1 rfl) ?_
    obtain ⟨r12, U_12, q12, h⟩ := b2_s h
    refine go_i (run_VN (As := [.int p0]) (rest := []) ⟨hx, hb, hml, hown, hts⟩ hnw hK hP hD (fr_X_U a k B0 L0 R0 T0 U0 V0 U_12) (ks_X_U k) (c_X0_open l D a k H.size U0 p0 r12 U_12 q12) ⟨va_cnB 1 hts ggX4_level_X0_open rfl rfl rfl (hnw.2 (RX4, 140, yX0_open, RX4) (List.mem_of_getElem? (i := 21) rfl)) (hts (.initialized RX0) (List.mem_of_getElem? (i := 11) rfl)) (by decide +kernel) ⟨Nat.le_of_ble_eq_true rfl, Nat.le_of_ble_eq_true rfl⟩, (hts (.instanceMethod yX0_open) (List.mem_of_getElem? (i := 10) rfl)), (hts (.selects RX0 yX0_open yX0_open) (List.mem_of_getElem? (i := 12) rfl))⟩ (rcv_U a k U0) rfl hl.1 rfl (Nat.le_of_ble_eq_true rfl) dX4_level_14 ⟨Nat.zero_le _, Nat.zero_le _⟩) hP hD hS hA (fr_X_U a k B0 L0 R0 T0 U0 V0 U_12) (fun H locs hP hD hS => ?_)
    refine lv_istore_n (lv' := [(2, .int r12), (0, .ref (a 26)), (1, .int p0)]) hx hb dX4_level_17 rfl hl (by decide) rfl (fun ls hl => ?_)
    refine lv_iconst (v := (0 : Int32)) hx hb dX4_level_18 (by decide) ?_
    refine lv_istore_n (lv' := [(3, .int (0 : Int32)), (2, .int r12), (0, .ref (a 26)), (1, .int p0)]) hx hb dX4_level_19 rfl hl (by decide) rfl (fun ls hl => ?_)
    exact lb20 64 r12 (0 : Int32) U_12 H locs hP hD hS ls (lv_sub hl [2, 3, 1, 0] rfl) h
  · have h := it_t c11 h
    refine lv_iconst (v := (-1 : Int32)) hx hb dX4_level_7 (by decide) ?_
    have h := Option.some.inj h
    obtain ⟨hz0, h⟩ := Prod.mk.inj h
    have hP : va_P D vwCl (xX a k B0 L0 R0 T0 Uz V0) H := by rw [← h]; exact hP
    have hD : va_D A (xX a k B0 L0 R0 T0 Uz V0) := by rw [← h]; exact hD
    subst hQ
    subst hAe
    exact r_i hx hb hr hlocks hz0 hP hD hS dX4_level_8
def f_X4_lay (B0 : Nat → Nat → Int32) (L0 : Int64) (U0 : Nat → Nat → Int32) (p0 : Int32) (p1 : Int32) (p2 : Int32) : Option (Int32 × (Nat → Nat → Int32) × Int64 × (Nat → Nat → Int32)) := b1 (f_X4_isRun p0) (fun r1 => if r1 = (0 : Int32) then (some ((-1 : Int32), B0, L0, U0)) else (b1 (f_X4_within p2 (-100000 : Int32) (100000 : Int32)) (fun r3 => if r3 = (0 : Int32) then (some ((-1 : Int32), B0, L0, U0)) else (gd (inb p0 6) (if (U0 6 (Int32.toNatClampNeg p0)) = (0 : Int32) then (b2 (f_X4_found B0 (1 : Int32)) (fun r19 (B_19 : Nat → Nat → Int32) => some (r19, B_19, L0, U0))) else (b1 (f_X4_within p1 (0 : Int32) (39 : Int32)) (fun r7 => if r7 = (0 : Int32) then (b2 (f_X4_found B0 (2 : Int32)) (fun r18 (B_18 : Nat → Nat → Int32) => some (r18, B_18, L0, U0))) else (gd (inb p0 6) (ltt (Int32.toNatClampNeg p0) (fun q_10 => gd (inb p1 40) (ltt ((U0 q_10 (Int32.toNatClampNeg p1))) (fun v12 => gd (inb p0 6) (ltt (Int32.toNatClampNeg p0) (fun q_14 => gd (inb p1 40) (ltt (st U0 q_14 (Int32.toNatClampNeg p1) p2) (fun (U_16 : Nat → Nat → Int32) => b2 (f_X4_tell L0 (Int32.toInt64 v12)) (fun r17 (L_17 : Int64) => some (r17, B0, L_17, U_16))))))))))))))))))
abbrev rm_X4_lay : Room := { frames := 2, cells := 0, slots := 0, locals := 42 }
set_option maxHeartbeats 4000000 in
set_option maxRecDepth 100000 in
theorem c_X4_lay (l : Launch) (D : va_G) (a : Nat → Nat) (k : Nat → ClassId) (sz : Nat) (B0 : Nat → Nat → Int32) (L0 : Int64) (R0 : Nat → Nat → Int32) (T0 : Nat → Nat → Int32) (U0 : Nat → Nat → Int32) (V0 : Nat → Nat → Int32) (p0 : Int32) (p1 : Int32) (p2 : Int32) (r : Int32) (Bz : (Nat → Nat → Int32)) (Lz : Int64) (Uz : (Nat → Nat → Int32)) (h : f_X4_lay B0 L0 U0 p0 p1 p2 = some (r, Bz, Lz, Uz)) : Met l yX4_lay wsX4_lay rm_X4_lay (mPc D [.ref (a 26), .int p0, .int p1, .int p2] (xX a k B0 L0 R0 T0 U0 V0) (tX k) sz) (mQi D (xX a k B0 L0 R0 T0 U0 V0) (xX a k Bz Lz R0 T0 Uz V0) sz r) 0 0 (va_A (xX a k B0 L0 R0 T0 U0 V0) sz) := by
  refine mk_met (cc := cX4_lay) (maxL := 5) (ret := (some .int)) (by decide) rfl (Nat.le_of_ble_eq_true rfl) ?_
  intro p e s m below meth c hx hb hr hml hts hown hmn hlocks hnw hsz hK hP hD hS hA ls hl
  obtain ⟨A, hAe⟩ : ∃ A, A = va_A (xX a k B0 L0 R0 T0 U0 V0) sz := ⟨_, rfl⟩
  rw [← hAe] at hD hS hA
  generalize hargs : List.toArray ([.ref (a 26), .int p0, .int p1, .int p2] : List Value) = args at hts ⊢
  generalize hQ : MQ below (mQi D (xX a k B0 L0 R0 T0 U0 V0) (xX a k Bz Lz R0 T0 Uz V0) sz r) args s 0 0 (va_A (xX a k B0 L0 R0 T0 U0 V0) sz) = Q
  have hl : lv_has ls 5 [(0, .ref (a 26)), (1, .int p0), (2, .int p1), (3, .int p2)] := hl
  have hin0 : ∀ w ∈ wsX00, w ∈ wsX4_lay := fun w h => List.mem_cons_of_mem _ (List.mem_append_right _ h)
  have hin4 : ∀ w ∈ wsX40, w ∈ wsX4_lay := fun w h => List.mem_cons_of_mem _ (List.mem_append_left _ (List.mem_append_right _ h))
  rw [f_X4_lay] at h
  obtain ⟨H, hH⟩ : ∃ H, H = s.heap := ⟨_, rfl⟩
  obtain ⟨locs, hlc⟩ : ∃ L : List Loc, L = [] := ⟨_, rfl⟩
  rw [← hH] at hP
  have hS : va_S A s.heap H locs := by rw [hH, hlc]; exact hS
  suffices hW9 : W p l e rm_X4_lay s m args below meth c H locs 0 0 Q (F0 m 0 ls []) by rw [hH, hlc] at hW9; exact hW9
  refine lv_iload_n hx hb dX4_lay_0 rfl (lv_at hl 1 rfl) ?_
  obtain ⟨r1, q1, h⟩ := b1_s h
  refine go_i (run_S (As := [.int p0]) (rest := []) ⟨hx, hb, hml, hown, hts⟩ hnw hK hP hD (fr_X_E a k B0 L0 R0 T0 U0 V0) (ks_X_E k) (c_X4_isRun l D H.size p0 r1 q1) (cwS 1 hts gX4_lay_X4_isRun rfl rfl rfl (by decide +kernel) ⟨Nat.le_of_ble_eq_true rfl, Nat.le_of_ble_eq_true rfl⟩) rfl hl.1 rfl (Nat.le_of_ble_eq_true rfl) dX4_lay_1 ⟨Nat.zero_le _, Nat.zero_le _⟩) hP hD hS hA (fr_X_E a k B0 L0 R0 T0 U0 V0) (fun H locs hP hD hS => ?_)
  refine lv_if_eq (tgt := 18) hx hb dX4_lay_4 (by decide) (fun c2 => ?_) (fun c2 => ?_)
  · have h := it_t c2 h
    refine lv_iconst (v := (-1 : Int32)) hx hb dX4_lay_18 (by decide) ?_
    have h := Option.some.inj h
    obtain ⟨hz0, h⟩ := Prod.mk.inj h
    obtain ⟨hz1, h⟩ := Prod.mk.inj h
    obtain ⟨hz2, h⟩ := Prod.mk.inj h
    have hP : va_P D vwCl (xX a k Bz Lz R0 T0 Uz V0) H := by rw [← hz1, ← hz2, ← h]; exact hP
    have hD : va_D A (xX a k Bz Lz R0 T0 Uz V0) := by rw [← hz1, ← hz2, ← h]; exact hD
    subst hQ
    subst hAe
    exact r_i hx hb hr hlocks hz0 hP hD hS dX4_lay_19
  · have h := it_f c2 h
    refine lv_iload_n hx hb dX4_lay_7 rfl (lv_at hl 3 rfl) ?_
    refine lv_ldc (v := (-100000 : Int32)) hx hb hown (hts (.constant RX4 150 (-100000)) (List.mem_of_getElem? (i := 1) rfl)) dX4_lay_8 ?_
    refine lv_ldc (v := (100000 : Int32)) hx hb hown (hts (.constant RX4 151 (100000)) (List.mem_of_getElem? (i := 2) rfl)) dX4_lay_10 ?_
    obtain ⟨r3, q3, h⟩ := b1_s h
    refine go_i (run_S (As := [.int p2, .int (-100000 : Int32), .int (100000 : Int32)]) (rest := []) ⟨hx, hb, hml, hown, hts⟩ hnw hK hP hD (fr_X_E a k B0 L0 R0 T0 U0 V0) (ks_X_E k) (c_X4_within l D H.size p2 (-100000 : Int32) (100000 : Int32) r3 q3) (cwS 3 hts gX4_lay_X4_within rfl rfl rfl (by decide +kernel) ⟨Nat.le_of_ble_eq_true rfl, Nat.le_of_ble_eq_true rfl⟩) rfl hl.1 rfl (Nat.le_of_ble_eq_true rfl) dX4_lay_12 ⟨Nat.zero_le _, Nat.zero_le _⟩) hP hD hS hA (fr_X_E a k B0 L0 R0 T0 U0 V0) (fun H locs hP hD hS => ?_)
    refine lv_if_ne (tgt := 20) hx hb dX4_lay_15 (by decide) (fun c4 => ?_) (fun c4 => ?_)
    · have h := it_f c4 h
      refine lv_aload_n hx hb dX4_lay_20 rfl (lv_at hl 0 rfl) ?_
      refine va_get (D := D) (ci := 4) (v := .ref (a 11)) (C := RX4) (T := TX4) (N := 8) hx hb hts hin4 hown hK hP 0 rfl rfl 2 (by decide) (hts (.fieldLink RX4 26 "BallastLine" "runs" "LBallastLine$Runs;") (List.mem_of_getElem? (i := 3) rfl)) (fun _ h9 => h9) rfl dX4_lay_21 ?_
      refine va_getN (host := RX4) (D := D) (ci := 0) (v := .ref (a 19)) (C := RX0) (T := TX0) (N := 2) hx hb hts hin0 hown hK hP 14 rfl rfl 1 (by decide) (va_Nw.use rfl (hnw.1 (RX4, 152, "BallastLine$Runs", "there", "[Z", RX4) (List.mem_of_getElem? (i := 14) rfl))) (fun _ h9 => h9) rfl dX4_lay_24 ?_
      refine lv_iload_n hx hb dX4_lay_27 rfl (lv_at hl 1 rfl) ?_
      obtain ⟨g5, h⟩ := gd_s h
      refine va_zald hx hb hK hP 22 18 rfl rfl (inb_in g5) dX4_lay_28 ?_
      refine lv_if_ne (tgt := 38) hx hb dX4_lay_29 (by decide) (fun c6 => ?_) (fun c6 => ?_)
      · have h := it_f c6 h
        refine lv_iload_n hx hb dX4_lay_38 rfl (lv_at hl 2 rfl) ?_
        refine lv_iconst (v := (0 : Int32)) hx hb dX4_lay_39 (by decide) ?_
        refine lv_bipush (v := (39 : Int32)) hx hb dX4_lay_40 (by decide) ?_
        obtain ⟨r7, q7, h⟩ := b1_s h
        refine go_i (run_S (As := [.int p1, .int (0 : Int32), .int (39 : Int32)]) (rest := []) ⟨hx, hb, hml, hown, hts⟩ hnw hK hP hD (fr_X_E a k B0 L0 R0 T0 U0 V0) (ks_X_E k) (c_X4_within l D H.size p1 (0 : Int32) (39 : Int32) r7 q7) (cwS 3 hts gX4_lay_X4_within rfl rfl rfl (by decide +kernel) ⟨Nat.le_of_ble_eq_true rfl, Nat.le_of_ble_eq_true rfl⟩) rfl hl.1 rfl (Nat.le_of_ble_eq_true rfl) dX4_lay_42 ⟨Nat.zero_le _, Nat.zero_le _⟩) hP hD hS hA (fr_X_E a k B0 L0 R0 T0 U0 V0) (fun H locs hP hD hS => ?_)
        refine lv_if_ne (tgt := 54) hx hb dX4_lay_45 (by decide) (fun c8 => ?_) (fun c8 => ?_)
        · have h := it_f c8 h
          refine lv_aload_n hx hb dX4_lay_54 rfl (lv_at hl 0 rfl) ?_
          refine va_get (D := D) (ci := 4) (v := .ref (a 11)) (C := RX4) (T := TX4) (N := 8) hx hb hts hin4 hown hK hP 0 rfl rfl 2 (by decide) (hts (.fieldLink RX4 26 "BallastLine" "runs" "LBallastLine$Runs;") (List.mem_of_getElem? (i := 3) rfl)) (fun _ h9 => h9) rfl dX4_lay_55 ?_
          refine va_getN (host := RX4) (D := D) (ci := 0) (v := .ref (a 12)) (C := RX0) (T := TX0) (N := 2) hx hb hts hin0 hown hK hP 14 rfl rfl 0 (by decide) (va_Nw.use rfl (hnw.1 (RX4, 143, "BallastLine$Runs", "rows", "[[I", RX4) (List.mem_of_getElem? (i := 13) rfl))) (fun _ h9 => h9) rfl dX4_lay_58 ?_
          refine lv_iload_n hx hb dX4_lay_61 rfl (lv_at hl 1 rfl) ?_
          obtain ⟨g9, h⟩ := gd_s h
          obtain ⟨q_10, eq_10⟩ : ∃ y : Nat, y = Int32.toNatClampNeg p0 := ⟨_, rfl⟩
          have h := ltt_s eq_10 h
          have hq_10 : q_10 < 6 := by rw [eq_10]; exact clt_of g9
          refine va_ldrow hx hb hK hP 15 11 rfl rfl (inb_in g9) eq_10 dX4_lay_62 ?_
          refine lv_iload_n hx hb dX4_lay_63 rfl (lv_at hl 2 rfl) ?_
          obtain ⟨g11, h⟩ := gd_s h
          refine va_iald hx hb hK hP (16 + q_10) (12 + q_10) (rowat_X a k B0 L0 R0 T0 U0 V0 q_10 hq_10) (rowty_X k q_10 hq_10) (inb_in g11) dX4_lay_64 ?_
          refine lv_topi (fun v12 ev12 => ?_)
          have h := ltt_s ev12 h
          refine lv_istore (lv' := [(4, .int v12), (0, .ref (a 26)), (1, .int p0), (2, .int p1), (3, .int p2)]) hx hb dX4_lay_65 hl (by decide) rfl (fun ls hl => ?_)
          refine lv_aload_n hx hb dX4_lay_67 rfl (lv_at hl 1 rfl) ?_
          refine va_get (D := D) (ci := 4) (v := .ref (a 11)) (C := RX4) (T := TX4) (N := 8) hx hb hts hin4 hown hK hP 0 rfl rfl 2 (by decide) (hts (.fieldLink RX4 26 "BallastLine" "runs" "LBallastLine$Runs;") (List.mem_of_getElem? (i := 3) rfl)) (fun _ h9 => h9) rfl dX4_lay_68 ?_
          refine va_getN (host := RX4) (D := D) (ci := 0) (v := .ref (a 12)) (C := RX0) (T := TX0) (N := 2) hx hb hts hin0 hown hK hP 14 rfl rfl 0 (by decide) (va_Nw.use rfl (hnw.1 (RX4, 143, "BallastLine$Runs", "rows", "[[I", RX4) (List.mem_of_getElem? (i := 13) rfl))) (fun _ h9 => h9) rfl dX4_lay_71 ?_
          refine lv_iload_n hx hb dX4_lay_74 rfl (lv_at hl 2 rfl) ?_
          obtain ⟨g13, h⟩ := gd_s h
          obtain ⟨q_14, eq_14⟩ : ∃ y : Nat, y = Int32.toNatClampNeg p0 := ⟨_, rfl⟩
          have h := ltt_s eq_14 h
          have hq_14 : q_14 < 6 := by rw [eq_14]; exact clt_of g13
          refine va_ldrow hx hb hK hP 15 11 rfl rfl (inb_in g13) eq_14 dX4_lay_75 ?_
          refine lv_iload_n hx hb dX4_lay_76 rfl (lv_at hl 3 rfl) ?_
          refine lv_iload_n hx hb dX4_lay_77 rfl (lv_at hl 4 rfl) ?_
          obtain ⟨g15, h⟩ := gd_s h
          refine va_iast hx hb hK hP hD hS (16 + q_14) (12 + q_14) (rowat_X a k B0 L0 R0 T0 U0 V0 q_14 hq_14) (rowty_X k q_14 hq_14) (inb_in g15) dX4_lay_78 (fun H locs hP hD hS => ?_)
          rw [rowset_X a k B0 L0 R0 T0 U0 V0 q_14 hq_14] at hP hD
          obtain ⟨U_16, eU_16⟩ : ∃ y : Nat → Nat → Int32, y = st U0 q_14 (Int32.toNatClampNeg p1) p2 := ⟨_, rfl⟩
          have h := ltt_s eU_16 h
          have hP : va_P D vwCl (xX a k B0 L0 R0 T0 U_16 V0) H := by rw [eU_16]; exact hP
          have hD : va_D A (xX a k B0 L0 R0 T0 U_16 V0) := by rw [eU_16]; exact hD
          refine lv_aload_n hx hb dX4_lay_79 rfl (lv_at hl 1 rfl) ?_
          refine lv_iload hx hb dX4_lay_80 (lv_at hl 0 rfl) ?_
          refine lv_i2l (v := (Int32.toInt64 v12)) hx hb dX4_lay_82 rfl ?_
          obtain ⟨r17, L_17, q17, h⟩ := b2_s h
          refine go_i (run_V (As := [.long (Int32.toInt64 v12)]) (rest := []) ⟨hx, hb, hml, hown, hts⟩ hnw hK hP hD (fr_X_X a k B0 L0 R0 T0 U_16 V0 B0 L_17 R0 T0 U_16 V0) (ks_X_X k) (c_X4_tell l D a k H.size B0 L0 R0 T0 U_16 V0 (Int32.toInt64 v12) r17 L_17 q17) (cwV 1 hts gX4_lay_X4_tell rfl rfl rfl (by decide +kernel) ⟨Nat.le_of_ble_eq_true rfl, Nat.le_of_ble_eq_true rfl⟩) (rcv_X a k B0 L0 R0 T0 U_16 V0) rfl hl.1 rfl (Nat.le_of_ble_eq_true rfl) dX4_lay_83 ⟨Nat.zero_le _, Nat.zero_le _⟩) hP hD hS hA (fr_X_X a k B0 L0 R0 T0 U_16 V0 B0 L_17 R0 T0 U_16 V0) (fun H locs hP hD hS => ?_)
          have h := Option.some.inj h
          obtain ⟨hz0, h⟩ := Prod.mk.inj h
          obtain ⟨hz1, h⟩ := Prod.mk.inj h
          obtain ⟨hz2, h⟩ := Prod.mk.inj h
          have hP : va_P D vwCl (xX a k Bz Lz R0 T0 Uz V0) H := by rw [← hz1, ← hz2, ← h]; exact hP
          have hD : va_D A (xX a k Bz Lz R0 T0 Uz V0) := by rw [← hz1, ← hz2, ← h]; exact hD
          subst hQ
          subst hAe
          exact r_i hx hb hr hlocks hz0 hP hD hS dX4_lay_86
        · have h := it_t c8 h
          refine lv_aload_n hx hb dX4_lay_48 rfl (lv_at hl 0 rfl) ?_
          refine lv_iconst (v := (2 : Int32)) hx hb dX4_lay_49 (by decide) ?_
          obtain ⟨r18, B_18, q18, h⟩ := b2_s h
          refine go_i (run_V (As := [.int (2 : Int32)]) (rest := []) ⟨hx, hb, hml, hown, hts⟩ hnw hK hP hD (fr_X_X a k B0 L0 R0 T0 U0 V0 B_18 L0 R0 T0 U0 V0) (ks_X_X k) (c_X4_found l D a k H.size B0 L0 R0 T0 U0 V0 (2 : Int32) r18 B_18 q18) (cwV 1 hts gX4_lay_X4_found rfl rfl rfl (by decide +kernel) ⟨Nat.le_of_ble_eq_true rfl, Nat.le_of_ble_eq_true rfl⟩) (rcv_X a k B0 L0 R0 T0 U0 V0) rfl hl.1 rfl (Nat.le_of_ble_eq_true rfl) dX4_lay_50 ⟨Nat.zero_le _, Nat.zero_le _⟩) hP hD hS hA (fr_X_X a k B0 L0 R0 T0 U0 V0 B_18 L0 R0 T0 U0 V0) (fun H locs hP hD hS => ?_)
          have h := Option.some.inj h
          obtain ⟨hz0, h⟩ := Prod.mk.inj h
          obtain ⟨hz1, h⟩ := Prod.mk.inj h
          obtain ⟨hz2, h⟩ := Prod.mk.inj h
          have hP : va_P D vwCl (xX a k Bz Lz R0 T0 Uz V0) H := by rw [← hz1, ← hz2, ← h]; exact hP
          have hD : va_D A (xX a k Bz Lz R0 T0 Uz V0) := by rw [← hz1, ← hz2, ← h]; exact hD
          subst hQ
          subst hAe
          exact r_i hx hb hr hlocks hz0 hP hD hS dX4_lay_53
      · have h := it_t c6 h
        refine lv_aload_n hx hb dX4_lay_32 rfl (lv_at hl 0 rfl) ?_
        refine lv_iconst (v := (1 : Int32)) hx hb dX4_lay_33 (by decide) ?_
        obtain ⟨r19, B_19, q19, h⟩ := b2_s h
        refine go_i (run_V (As := [.int (1 : Int32)]) (rest := []) ⟨hx, hb, hml, hown, hts⟩ hnw hK hP hD (fr_X_X a k B0 L0 R0 T0 U0 V0 B_19 L0 R0 T0 U0 V0) (ks_X_X k) (c_X4_found l D a k H.size B0 L0 R0 T0 U0 V0 (1 : Int32) r19 B_19 q19) (cwV 1 hts gX4_lay_X4_found rfl rfl rfl (by decide +kernel) ⟨Nat.le_of_ble_eq_true rfl, Nat.le_of_ble_eq_true rfl⟩) (rcv_X a k B0 L0 R0 T0 U0 V0) rfl hl.1 rfl (Nat.le_of_ble_eq_true rfl) dX4_lay_34 ⟨Nat.zero_le _, Nat.zero_le _⟩) hP hD hS hA (fr_X_X a k B0 L0 R0 T0 U0 V0 B_19 L0 R0 T0 U0 V0) (fun H locs hP hD hS => ?_)
        have h := Option.some.inj h
        obtain ⟨hz0, h⟩ := Prod.mk.inj h
        obtain ⟨hz1, h⟩ := Prod.mk.inj h
        obtain ⟨hz2, h⟩ := Prod.mk.inj h
        have hP : va_P D vwCl (xX a k Bz Lz R0 T0 Uz V0) H := by rw [← hz1, ← hz2, ← h]; exact hP
        have hD : va_D A (xX a k Bz Lz R0 T0 Uz V0) := by rw [← hz1, ← hz2, ← h]; exact hD
        subst hQ
        subst hAe
        exact r_i hx hb hr hlocks hz0 hP hD hS dX4_lay_37
    · have h := it_t c4 h
      refine lv_iconst (v := (-1 : Int32)) hx hb dX4_lay_18 (by decide) ?_
      have h := Option.some.inj h
      obtain ⟨hz0, h⟩ := Prod.mk.inj h
      obtain ⟨hz1, h⟩ := Prod.mk.inj h
      obtain ⟨hz2, h⟩ := Prod.mk.inj h
      have hP : va_P D vwCl (xX a k Bz Lz R0 T0 Uz V0) H := by rw [← hz1, ← hz2, ← h]; exact hP
      have hD : va_D A (xX a k Bz Lz R0 T0 Uz V0) := by rw [← hz1, ← hz2, ← h]; exact hD
      subst hQ
      subst hAe
      exact r_i hx hb hr hlocks hz0 hP hD hS dX4_lay_19
def f_X4_at (B0 : Nat → Nat → Int32) (L0 : Int64) (U0 : Nat → Nat → Int32) (p0 : Int32) (p1 : Int32) : Option (Int32 × (Nat → Nat → Int32) × Int64) := b1 (f_X4_isRun p0) (fun r1 => if r1 = (0 : Int32) then (some ((-1 : Int32), B0, L0)) else (gd (inb p0 6) (if (U0 6 (Int32.toNatClampNeg p0)) = (0 : Int32) then (b2 (f_X4_found B0 (1 : Int32)) (fun r12 (B_12 : Nat → Nat → Int32) => some (r12, B_12, L0))) else (b1 (f_X4_within p1 (0 : Int32) (39 : Int32)) (fun r5 => if r5 = (0 : Int32) then (b2 (f_X4_found B0 (2 : Int32)) (fun r11 (B_11 : Nat → Nat → Int32) => some (r11, B_11, L0))) else (gd (inb p0 6) (ltt (Int32.toNatClampNeg p0) (fun q_8 => gd (inb p1 40) (b2 (f_X4_tell L0 (Int32.toInt64 (U0 q_8 (Int32.toNatClampNeg p1)))) (fun r10 (L_10 : Int64) => some (r10, B0, L_10)))))))))))
abbrev rm_X4_at : Room := { frames := 2, cells := 0, slots := 0, locals := 42 }
set_option maxHeartbeats 4000000 in
set_option maxRecDepth 100000 in
theorem c_X4_at (l : Launch) (D : va_G) (a : Nat → Nat) (k : Nat → ClassId) (sz : Nat) (B0 : Nat → Nat → Int32) (L0 : Int64) (R0 : Nat → Nat → Int32) (T0 : Nat → Nat → Int32) (U0 : Nat → Nat → Int32) (V0 : Nat → Nat → Int32) (p0 : Int32) (p1 : Int32) (r : Int32) (Bz : (Nat → Nat → Int32)) (Lz : Int64) (h : f_X4_at B0 L0 U0 p0 p1 = some (r, Bz, Lz)) : Met l yX4_at wsX4_at rm_X4_at (mPc D [.ref (a 26), .int p0, .int p1] (xX a k B0 L0 R0 T0 U0 V0) (tX k) sz) (mQi D (xX a k B0 L0 R0 T0 U0 V0) (xX a k Bz Lz R0 T0 U0 V0) sz r) 0 0 (va_A (xX a k B0 L0 R0 T0 U0 V0) sz) := by
  refine mk_met (cc := cX4_at) (maxL := 3) (ret := (some .int)) (by decide) rfl (Nat.le_of_ble_eq_true rfl) ?_
  intro p e s m below meth c hx hb hr hml hts hown hmn hlocks hnw hsz hK hP hD hS hA ls hl
  obtain ⟨A, hAe⟩ : ∃ A, A = va_A (xX a k B0 L0 R0 T0 U0 V0) sz := ⟨_, rfl⟩
  rw [← hAe] at hD hS hA
  generalize hargs : List.toArray ([.ref (a 26), .int p0, .int p1] : List Value) = args at hts ⊢
  generalize hQ : MQ below (mQi D (xX a k B0 L0 R0 T0 U0 V0) (xX a k Bz Lz R0 T0 U0 V0) sz r) args s 0 0 (va_A (xX a k B0 L0 R0 T0 U0 V0) sz) = Q
  have hl : lv_has ls 3 [(0, .ref (a 26)), (1, .int p0), (2, .int p1)] := hl
  have hin0 : ∀ w ∈ wsX00, w ∈ wsX4_at := fun w h => List.mem_cons_of_mem _ (List.mem_append_right _ h)
  have hin4 : ∀ w ∈ wsX40, w ∈ wsX4_at := fun w h => List.mem_cons_of_mem _ (List.mem_append_left _ (List.mem_append_right _ h))
  rw [f_X4_at] at h
  obtain ⟨H, hH⟩ : ∃ H, H = s.heap := ⟨_, rfl⟩
  obtain ⟨locs, hlc⟩ : ∃ L : List Loc, L = [] := ⟨_, rfl⟩
  rw [← hH] at hP
  have hS : va_S A s.heap H locs := by rw [hH, hlc]; exact hS
  suffices hW9 : W p l e rm_X4_at s m args below meth c H locs 0 0 Q (F0 m 0 ls []) by rw [hH, hlc] at hW9; exact hW9
  refine lv_iload_n hx hb dX4_at_0 rfl (lv_at hl 1 rfl) ?_
  obtain ⟨r1, q1, h⟩ := b1_s h
  refine go_i (run_S (As := [.int p0]) (rest := []) ⟨hx, hb, hml, hown, hts⟩ hnw hK hP hD (fr_X_E a k B0 L0 R0 T0 U0 V0) (ks_X_E k) (c_X4_isRun l D H.size p0 r1 q1) (cwS 1 hts gX4_at_X4_isRun rfl rfl rfl (by decide +kernel) ⟨Nat.le_of_ble_eq_true rfl, Nat.le_of_ble_eq_true rfl⟩) rfl hl.1 rfl (Nat.le_of_ble_eq_true rfl) dX4_at_1 ⟨Nat.zero_le _, Nat.zero_le _⟩) hP hD hS hA (fr_X_E a k B0 L0 R0 T0 U0 V0) (fun H locs hP hD hS => ?_)
  refine lv_if_ne (tgt := 9) hx hb dX4_at_4 (by decide) (fun c2 => ?_) (fun c2 => ?_)
  · have h := it_f c2 h
    refine lv_aload_n hx hb dX4_at_9 rfl (lv_at hl 0 rfl) ?_
    refine va_get (D := D) (ci := 4) (v := .ref (a 11)) (C := RX4) (T := TX4) (N := 8) hx hb hts hin4 hown hK hP 0 rfl rfl 2 (by decide) (hts (.fieldLink RX4 26 "BallastLine" "runs" "LBallastLine$Runs;") (List.mem_of_getElem? (i := 1) rfl)) (fun _ h9 => h9) rfl dX4_at_10 ?_
    refine va_getN (host := RX4) (D := D) (ci := 0) (v := .ref (a 19)) (C := RX0) (T := TX0) (N := 2) hx hb hts hin0 hown hK hP 14 rfl rfl 1 (by decide) (va_Nw.use rfl (hnw.1 (RX4, 152, "BallastLine$Runs", "there", "[Z", RX4) (List.mem_of_getElem? (i := 14) rfl))) (fun _ h9 => h9) rfl dX4_at_13 ?_
    refine lv_iload_n hx hb dX4_at_16 rfl (lv_at hl 1 rfl) ?_
    obtain ⟨g3, h⟩ := gd_s h
    refine va_zald hx hb hK hP 22 18 rfl rfl (inb_in g3) dX4_at_17 ?_
    refine lv_if_ne (tgt := 27) hx hb dX4_at_18 (by decide) (fun c4 => ?_) (fun c4 => ?_)
    · have h := it_f c4 h
      refine lv_iload_n hx hb dX4_at_27 rfl (lv_at hl 2 rfl) ?_
      refine lv_iconst (v := (0 : Int32)) hx hb dX4_at_28 (by decide) ?_
      refine lv_bipush (v := (39 : Int32)) hx hb dX4_at_29 (by decide) ?_
      obtain ⟨r5, q5, h⟩ := b1_s h
      refine go_i (run_S (As := [.int p1, .int (0 : Int32), .int (39 : Int32)]) (rest := []) ⟨hx, hb, hml, hown, hts⟩ hnw hK hP hD (fr_X_E a k B0 L0 R0 T0 U0 V0) (ks_X_E k) (c_X4_within l D H.size p1 (0 : Int32) (39 : Int32) r5 q5) (cwS 3 hts gX4_at_X4_within rfl rfl rfl (by decide +kernel) ⟨Nat.le_of_ble_eq_true rfl, Nat.le_of_ble_eq_true rfl⟩) rfl hl.1 rfl (Nat.le_of_ble_eq_true rfl) dX4_at_31 ⟨Nat.zero_le _, Nat.zero_le _⟩) hP hD hS hA (fr_X_E a k B0 L0 R0 T0 U0 V0) (fun H locs hP hD hS => ?_)
      refine lv_if_ne (tgt := 43) hx hb dX4_at_34 (by decide) (fun c6 => ?_) (fun c6 => ?_)
      · have h := it_f c6 h
        refine lv_aload_n hx hb dX4_at_43 rfl (lv_at hl 0 rfl) ?_
        refine lv_aload_n hx hb dX4_at_44 rfl (lv_at hl 0 rfl) ?_
        refine va_get (D := D) (ci := 4) (v := .ref (a 11)) (C := RX4) (T := TX4) (N := 8) hx hb hts hin4 hown hK hP 0 rfl rfl 2 (by decide) (hts (.fieldLink RX4 26 "BallastLine" "runs" "LBallastLine$Runs;") (List.mem_of_getElem? (i := 1) rfl)) (fun _ h9 => h9) rfl dX4_at_45 ?_
        refine va_getN (host := RX4) (D := D) (ci := 0) (v := .ref (a 12)) (C := RX0) (T := TX0) (N := 2) hx hb hts hin0 hown hK hP 14 rfl rfl 0 (by decide) (va_Nw.use rfl (hnw.1 (RX4, 143, "BallastLine$Runs", "rows", "[[I", RX4) (List.mem_of_getElem? (i := 13) rfl))) (fun _ h9 => h9) rfl dX4_at_48 ?_
        refine lv_iload_n hx hb dX4_at_51 rfl (lv_at hl 1 rfl) ?_
        obtain ⟨g7, h⟩ := gd_s h
        obtain ⟨q_8, eq_8⟩ : ∃ y : Nat, y = Int32.toNatClampNeg p0 := ⟨_, rfl⟩
        have h := ltt_s eq_8 h
        have hq_8 : q_8 < 6 := by rw [eq_8]; exact clt_of g7
        refine va_ldrow hx hb hK hP 15 11 rfl rfl (inb_in g7) eq_8 dX4_at_52 ?_
        refine lv_iload_n hx hb dX4_at_53 rfl (lv_at hl 2 rfl) ?_
        obtain ⟨g9, h⟩ := gd_s h
        refine va_iald hx hb hK hP (16 + q_8) (12 + q_8) (rowat_X a k B0 L0 R0 T0 U0 V0 q_8 hq_8) (rowty_X k q_8 hq_8) (inb_in g9) dX4_at_54 ?_
        refine lv_i2l (v := (Int32.toInt64 (U0 q_8 (Int32.toNatClampNeg p1)))) hx hb dX4_at_55 rfl ?_
        obtain ⟨r10, L_10, q10, h⟩ := b2_s h
        refine go_i (run_V (As := [.long (Int32.toInt64 (U0 q_8 (Int32.toNatClampNeg p1)))]) (rest := []) ⟨hx, hb, hml, hown, hts⟩ hnw hK hP hD (fr_X_X a k B0 L0 R0 T0 U0 V0 B0 L_10 R0 T0 U0 V0) (ks_X_X k) (c_X4_tell l D a k H.size B0 L0 R0 T0 U0 V0 (Int32.toInt64 (U0 q_8 (Int32.toNatClampNeg p1))) r10 L_10 q10) (cwV 1 hts gX4_at_X4_tell rfl rfl rfl (by decide +kernel) ⟨Nat.le_of_ble_eq_true rfl, Nat.le_of_ble_eq_true rfl⟩) (rcv_X a k B0 L0 R0 T0 U0 V0) rfl hl.1 rfl (Nat.le_of_ble_eq_true rfl) dX4_at_56 ⟨Nat.zero_le _, Nat.zero_le _⟩) hP hD hS hA (fr_X_X a k B0 L0 R0 T0 U0 V0 B0 L_10 R0 T0 U0 V0) (fun H locs hP hD hS => ?_)
        have h := Option.some.inj h
        obtain ⟨hz0, h⟩ := Prod.mk.inj h
        obtain ⟨hz1, h⟩ := Prod.mk.inj h
        have hP : va_P D vwCl (xX a k Bz Lz R0 T0 U0 V0) H := by rw [← hz1, ← h]; exact hP
        have hD : va_D A (xX a k Bz Lz R0 T0 U0 V0) := by rw [← hz1, ← h]; exact hD
        subst hQ
        subst hAe
        exact r_i hx hb hr hlocks hz0 hP hD hS dX4_at_59
      · have h := it_t c6 h
        refine lv_aload_n hx hb dX4_at_37 rfl (lv_at hl 0 rfl) ?_
        refine lv_iconst (v := (2 : Int32)) hx hb dX4_at_38 (by decide) ?_
        obtain ⟨r11, B_11, q11, h⟩ := b2_s h
        refine go_i (run_V (As := [.int (2 : Int32)]) (rest := []) ⟨hx, hb, hml, hown, hts⟩ hnw hK hP hD (fr_X_X a k B0 L0 R0 T0 U0 V0 B_11 L0 R0 T0 U0 V0) (ks_X_X k) (c_X4_found l D a k H.size B0 L0 R0 T0 U0 V0 (2 : Int32) r11 B_11 q11) (cwV 1 hts gX4_at_X4_found rfl rfl rfl (by decide +kernel) ⟨Nat.le_of_ble_eq_true rfl, Nat.le_of_ble_eq_true rfl⟩) (rcv_X a k B0 L0 R0 T0 U0 V0) rfl hl.1 rfl (Nat.le_of_ble_eq_true rfl) dX4_at_39 ⟨Nat.zero_le _, Nat.zero_le _⟩) hP hD hS hA (fr_X_X a k B0 L0 R0 T0 U0 V0 B_11 L0 R0 T0 U0 V0) (fun H locs hP hD hS => ?_)
        have h := Option.some.inj h
        obtain ⟨hz0, h⟩ := Prod.mk.inj h
        obtain ⟨hz1, h⟩ := Prod.mk.inj h
        have hP : va_P D vwCl (xX a k Bz Lz R0 T0 U0 V0) H := by rw [← hz1, ← h]; exact hP
        have hD : va_D A (xX a k Bz Lz R0 T0 U0 V0) := by rw [← hz1, ← h]; exact hD
        subst hQ
        subst hAe
        exact r_i hx hb hr hlocks hz0 hP hD hS dX4_at_42
    · have h := it_t c4 h
      refine lv_aload_n hx hb dX4_at_21 rfl (lv_at hl 0 rfl) ?_
      refine lv_iconst (v := (1 : Int32)) hx hb dX4_at_22 (by decide) ?_
      obtain ⟨r12, B_12, q12, h⟩ := b2_s h
      refine go_i (run_V (As := [.int (1 : Int32)]) (rest := []) ⟨hx, hb, hml, hown, hts⟩ hnw hK hP hD (fr_X_X a k B0 L0 R0 T0 U0 V0 B_12 L0 R0 T0 U0 V0) (ks_X_X k) (c_X4_found l D a k H.size B0 L0 R0 T0 U0 V0 (1 : Int32) r12 B_12 q12) (cwV 1 hts gX4_at_X4_found rfl rfl rfl (by decide +kernel) ⟨Nat.le_of_ble_eq_true rfl, Nat.le_of_ble_eq_true rfl⟩) (rcv_X a k B0 L0 R0 T0 U0 V0) rfl hl.1 rfl (Nat.le_of_ble_eq_true rfl) dX4_at_23 ⟨Nat.zero_le _, Nat.zero_le _⟩) hP hD hS hA (fr_X_X a k B0 L0 R0 T0 U0 V0 B_12 L0 R0 T0 U0 V0) (fun H locs hP hD hS => ?_)
      have h := Option.some.inj h
      obtain ⟨hz0, h⟩ := Prod.mk.inj h
      obtain ⟨hz1, h⟩ := Prod.mk.inj h
      have hP : va_P D vwCl (xX a k Bz Lz R0 T0 U0 V0) H := by rw [← hz1, ← h]; exact hP
      have hD : va_D A (xX a k Bz Lz R0 T0 U0 V0) := by rw [← hz1, ← h]; exact hD
      subst hQ
      subst hAe
      exact r_i hx hb hr hlocks hz0 hP hD hS dX4_at_26
  · have h := it_t c2 h
    refine lv_iconst (v := (-1 : Int32)) hx hb dX4_at_7 (by decide) ?_
    have h := Option.some.inj h
    obtain ⟨hz0, h⟩ := Prod.mk.inj h
    obtain ⟨hz1, h⟩ := Prod.mk.inj h
    have hP : va_P D vwCl (xX a k Bz Lz R0 T0 U0 V0) H := by rw [← hz1, ← h]; exact hP
    have hD : va_D A (xX a k Bz Lz R0 T0 U0 V0) := by rw [← hz1, ← h]; exact hD
    subst hQ
    subst hAe
    exact r_i hx hb hr hlocks hz0 hP hD hS dX4_at_8
def f_X4_shape (B0 : Nat → Nat → Int32) (T0 : Nat → Nat → Int32) (U0 : Nat → Nat → Int32) (p0 : Int32) (p1 : Int32) (p2 : Int32) : Option (Int32 × (Nat → Nat → Int32) × (Nat → Nat → Int32)) := b1 (f_X4_isRun p0) (fun r1 => if r1 = (0 : Int32) then (some ((-1 : Int32), B0, U0)) else (b1 (f_X4_within p1 (-10000 : Int32) (10000 : Int32)) (fun r3 => if r3 = (0 : Int32) then (some ((-1 : Int32), B0, U0)) else (b1 (f_X4_within p2 (-10000 : Int32) (10000 : Int32)) (fun r5 => if r5 = (0 : Int32) then (some ((-1 : Int32), B0, U0)) else (gd (inb p0 6) (if (U0 6 (Int32.toNatClampNeg p0)) = (0 : Int32) then (b2 (f_X4_found B0 (1 : Int32)) (fun r10 (B_10 : Nat → Nat → Int32) => some (r10, B_10, U0))) else (b1 (f_X0_unbend U0 p0 p1 p2 (T0 7 0)) (fun (U_9 : Nat → Nat → Int32) => some ((1 : Int32), B0, U_9))))))))))
abbrev rm_X4_shape : Room := { frames := 2, cells := 0, slots := 0, locals := 42 }
set_option maxHeartbeats 4000000 in
set_option maxRecDepth 100000 in
theorem c_X4_shape (l : Launch) (D : va_G) (a : Nat → Nat) (k : Nat → ClassId) (sz : Nat) (B0 : Nat → Nat → Int32) (L0 : Int64) (R0 : Nat → Nat → Int32) (T0 : Nat → Nat → Int32) (U0 : Nat → Nat → Int32) (V0 : Nat → Nat → Int32) (p0 : Int32) (p1 : Int32) (p2 : Int32) (r : Int32) (Bz : (Nat → Nat → Int32)) (Uz : (Nat → Nat → Int32)) (h : f_X4_shape B0 T0 U0 p0 p1 p2 = some (r, Bz, Uz)) : Met l yX4_shape wsX4_shape rm_X4_shape (mPc D [.ref (a 26), .int p0, .int p1, .int p2] (xX a k B0 L0 R0 T0 U0 V0) (tX k) sz) (mQi D (xX a k B0 L0 R0 T0 U0 V0) (xX a k Bz L0 R0 T0 Uz V0) sz r) 0 0 (va_A (xX a k B0 L0 R0 T0 U0 V0) sz) := by
  refine mk_met (cc := cX4_shape) (maxL := 4) (ret := (some .int)) (by decide) rfl (Nat.le_of_ble_eq_true rfl) ?_
  intro p e s m below meth c hx hb hr hml hts hown hmn hlocks hnw hsz hK hP hD hS hA ls hl
  obtain ⟨A, hAe⟩ : ∃ A, A = va_A (xX a k B0 L0 R0 T0 U0 V0) sz := ⟨_, rfl⟩
  rw [← hAe] at hD hS hA
  generalize hargs : List.toArray ([.ref (a 26), .int p0, .int p1, .int p2] : List Value) = args at hts ⊢
  generalize hQ : MQ below (mQi D (xX a k B0 L0 R0 T0 U0 V0) (xX a k Bz L0 R0 T0 Uz V0) sz r) args s 0 0 (va_A (xX a k B0 L0 R0 T0 U0 V0) sz) = Q
  have hl : lv_has ls 4 [(0, .ref (a 26)), (1, .int p0), (2, .int p1), (3, .int p2)] := hl
  have hin0 : ∀ w ∈ wsX00, w ∈ wsX4_shape := fun w h => List.mem_cons_of_mem _ (List.mem_append_left _ (List.mem_append_right _ h))
  have hin1 : ∀ w ∈ wsX10, w ∈ wsX4_shape := fun w h => List.mem_cons_of_mem _ (List.mem_append_right _ h)
  have hin4 : ∀ w ∈ wsX40, w ∈ wsX4_shape := fun w h => List.mem_cons_of_mem _ (List.mem_append_left _ (List.mem_append_left _ (List.mem_append_right _ h)))
  rw [f_X4_shape] at h
  obtain ⟨H, hH⟩ : ∃ H, H = s.heap := ⟨_, rfl⟩
  obtain ⟨locs, hlc⟩ : ∃ L : List Loc, L = [] := ⟨_, rfl⟩
  rw [← hH] at hP
  have hS : va_S A s.heap H locs := by rw [hH, hlc]; exact hS
  suffices hW9 : W p l e rm_X4_shape s m args below meth c H locs 0 0 Q (F0 m 0 ls []) by rw [hH, hlc] at hW9; exact hW9
  refine lv_iload_n hx hb dX4_shape_0 rfl (lv_at hl 1 rfl) ?_
  obtain ⟨r1, q1, h⟩ := b1_s h
  refine go_i (run_S (As := [.int p0]) (rest := []) ⟨hx, hb, hml, hown, hts⟩ hnw hK hP hD (fr_X_E a k B0 L0 R0 T0 U0 V0) (ks_X_E k) (c_X4_isRun l D H.size p0 r1 q1) (cwS 1 hts gX4_shape_X4_isRun rfl rfl rfl (by decide +kernel) ⟨Nat.le_of_ble_eq_true rfl, Nat.le_of_ble_eq_true rfl⟩) rfl hl.1 rfl (Nat.le_of_ble_eq_true rfl) dX4_shape_1 ⟨Nat.zero_le _, Nat.zero_le _⟩) hP hD hS hA (fr_X_E a k B0 L0 R0 T0 U0 V0) (fun H locs hP hD hS => ?_)
  refine lv_if_eq (tgt := 33) hx hb dX4_shape_4 (by decide) (fun c2 => ?_) (fun c2 => ?_)
  · have h := it_t c2 h
    refine lv_iconst (v := (-1 : Int32)) hx hb dX4_shape_33 (by decide) ?_
    have h := Option.some.inj h
    obtain ⟨hz0, h⟩ := Prod.mk.inj h
    obtain ⟨hz1, h⟩ := Prod.mk.inj h
    have hP : va_P D vwCl (xX a k Bz L0 R0 T0 Uz V0) H := by rw [← hz1, ← h]; exact hP
    have hD : va_D A (xX a k Bz L0 R0 T0 Uz V0) := by rw [← hz1, ← h]; exact hD
    subst hQ
    subst hAe
    exact r_i hx hb hr hlocks hz0 hP hD hS dX4_shape_34
  · have h := it_f c2 h
    refine lv_iload_n hx hb dX4_shape_7 rfl (lv_at hl 2 rfl) ?_
    refine lv_sipush (v := (-10000 : Int32)) hx hb dX4_shape_8 (by decide) ?_
    refine lv_sipush (v := (10000 : Int32)) hx hb dX4_shape_11 (by decide) ?_
    obtain ⟨r3, q3, h⟩ := b1_s h
    refine go_i (run_S (As := [.int p1, .int (-10000 : Int32), .int (10000 : Int32)]) (rest := []) ⟨hx, hb, hml, hown, hts⟩ hnw hK hP hD (fr_X_E a k B0 L0 R0 T0 U0 V0) (ks_X_E k) (c_X4_within l D H.size p1 (-10000 : Int32) (10000 : Int32) r3 q3) (cwS 3 hts gX4_shape_X4_within rfl rfl rfl (by decide +kernel) ⟨Nat.le_of_ble_eq_true rfl, Nat.le_of_ble_eq_true rfl⟩) rfl hl.1 rfl (Nat.le_of_ble_eq_true rfl) dX4_shape_14 ⟨Nat.zero_le _, Nat.zero_le _⟩) hP hD hS hA (fr_X_E a k B0 L0 R0 T0 U0 V0) (fun H locs hP hD hS => ?_)
    refine lv_if_eq (tgt := 33) hx hb dX4_shape_17 (by decide) (fun c4 => ?_) (fun c4 => ?_)
    · have h := it_t c4 h
      refine lv_iconst (v := (-1 : Int32)) hx hb dX4_shape_33 (by decide) ?_
      have h := Option.some.inj h
      obtain ⟨hz0, h⟩ := Prod.mk.inj h
      obtain ⟨hz1, h⟩ := Prod.mk.inj h
      have hP : va_P D vwCl (xX a k Bz L0 R0 T0 Uz V0) H := by rw [← hz1, ← h]; exact hP
      have hD : va_D A (xX a k Bz L0 R0 T0 Uz V0) := by rw [← hz1, ← h]; exact hD
      subst hQ
      subst hAe
      exact r_i hx hb hr hlocks hz0 hP hD hS dX4_shape_34
    · have h := it_f c4 h
      refine lv_iload_n hx hb dX4_shape_20 rfl (lv_at hl 3 rfl) ?_
      refine lv_sipush (v := (-10000 : Int32)) hx hb dX4_shape_21 (by decide) ?_
      refine lv_sipush (v := (10000 : Int32)) hx hb dX4_shape_24 (by decide) ?_
      obtain ⟨r5, q5, h⟩ := b1_s h
      refine go_i (run_S (As := [.int p2, .int (-10000 : Int32), .int (10000 : Int32)]) (rest := []) ⟨hx, hb, hml, hown, hts⟩ hnw hK hP hD (fr_X_E a k B0 L0 R0 T0 U0 V0) (ks_X_E k) (c_X4_within l D H.size p2 (-10000 : Int32) (10000 : Int32) r5 q5) (cwS 3 hts gX4_shape_X4_within rfl rfl rfl (by decide +kernel) ⟨Nat.le_of_ble_eq_true rfl, Nat.le_of_ble_eq_true rfl⟩) rfl hl.1 rfl (Nat.le_of_ble_eq_true rfl) dX4_shape_27 ⟨Nat.zero_le _, Nat.zero_le _⟩) hP hD hS hA (fr_X_E a k B0 L0 R0 T0 U0 V0) (fun H locs hP hD hS => ?_)
      refine lv_if_ne (tgt := 35) hx hb dX4_shape_30 (by decide) (fun c6 => ?_) (fun c6 => ?_)
      · have h := it_f c6 h
        refine lv_aload_n hx hb dX4_shape_35 rfl (lv_at hl 0 rfl) ?_
        refine va_get (D := D) (ci := 4) (v := .ref (a 11)) (C := RX4) (T := TX4) (N := 8) hx hb hts hin4 hown hK hP 0 rfl rfl 2 (by decide) (hts (.fieldLink RX4 26 "BallastLine" "runs" "LBallastLine$Runs;") (List.mem_of_getElem? (i := 1) rfl)) (fun _ h9 => h9) rfl dX4_shape_36 ?_
        refine va_getN (host := RX4) (D := D) (ci := 0) (v := .ref (a 19)) (C := RX0) (T := TX0) (N := 2) hx hb hts hin0 hown hK hP 14 rfl rfl 1 (by decide) (va_Nw.use rfl (hnw.1 (RX4, 152, "BallastLine$Runs", "there", "[Z", RX4) (List.mem_of_getElem? (i := 14) rfl))) (fun _ h9 => h9) rfl dX4_shape_39 ?_
        refine lv_iload_n hx hb dX4_shape_42 rfl (lv_at hl 1 rfl) ?_
        obtain ⟨g7, h⟩ := gd_s h
        refine va_zald hx hb hK hP 22 18 rfl rfl (inb_in g7) dX4_shape_43 ?_
        refine lv_if_ne (tgt := 53) hx hb dX4_shape_44 (by decide) (fun c8 => ?_) (fun c8 => ?_)
        · have h := it_f c8 h
          refine lv_aload_n hx hb dX4_shape_53 rfl (lv_at hl 0 rfl) ?_
          refine va_get (D := D) (ci := 4) (v := .ref (a 11)) (C := RX4) (T := TX4) (N := 8) hx hb hts hin4 hown hK hP 0 rfl rfl 2 (by decide) (hts (.fieldLink RX4 26 "BallastLine" "runs" "LBallastLine$Runs;") (List.mem_of_getElem? (i := 1) rfl)) (fun _ h9 => h9) rfl dX4_shape_54 ?_
          refine lv_iload_n hx hb dX4_shape_57 rfl (lv_at hl 1 rfl) ?_
          refine lv_iload_n hx hb dX4_shape_58 rfl (lv_at hl 2 rfl) ?_
          refine lv_iload_n hx hb dX4_shape_59 rfl (lv_at hl 3 rfl) ?_
          refine lv_aload_n hx hb dX4_shape_60 rfl (lv_at hl 0 rfl) ?_
          refine va_get (D := D) (ci := 4) (v := .ref (a 0)) (C := RX4) (T := TX4) (N := 8) hx hb hts hin4 hown hK hP 0 rfl rfl 0 (by decide) (hts (.fieldLink RX4 10 "BallastLine" "track" "LBallastLine$Track;") (List.mem_of_getElem? (i := 2) rfl)) (fun _ h9 => h9) rfl dX4_shape_61 ?_
          refine va_getN (host := RX4) (D := D) (ci := 1) (v := .int (T0 7 0)) (C := RX1) (T := TX1) (N := 8) hx hb hts hin1 hown hK hP 6 rfl rfl 7 (by decide) (va_Nw.use rfl (hnw.1 (RX4, 120, "BallastLine$Track", "size", "I", RX4) (List.mem_of_getElem? (i := 9) rfl))) (fun _ h9 => h9) rfl dX4_shape_64 ?_
          obtain ⟨U_9, q9, h⟩ := b1_s h
          refine go_v (run_VN (As := [.int p0, .int p1, .int p2, .int (T0 7 0)]) (rest := []) ⟨hx, hb, hml, hown, hts⟩ hnw hK hP hD (fr_X_U a k B0 L0 R0 T0 U0 V0 U_9) (ks_X_U k) (c_X0_unbend l D a k H.size U0 p0 p1 p2 (T0 7 0) U_9 q9) ⟨va_cnB 4 hts ggX4_shape_X0_unbend rfl rfl rfl (hnw.2 (RX4, 155, yX0_unbend, RX4) (List.mem_of_getElem? (i := 23) rfl)) (hts (.initialized RX0) (List.mem_of_getElem? (i := 17) rfl)) (by decide +kernel) ⟨Nat.le_of_ble_eq_true rfl, Nat.le_of_ble_eq_true rfl⟩, (hts (.instanceMethod yX0_unbend) (List.mem_of_getElem? (i := 16) rfl)), (hts (.selects RX0 yX0_unbend yX0_unbend) (List.mem_of_getElem? (i := 18) rfl))⟩ (rcv_U a k U0) rfl hl.1 rfl (Nat.le_of_ble_eq_true rfl) dX4_shape_67 ⟨Nat.zero_le _, Nat.zero_le _⟩) hP hD hS hA (fr_X_U a k B0 L0 R0 T0 U0 V0 U_9) (fun H locs hP hD hS => ?_)
          refine lv_iconst (v := (1 : Int32)) hx hb dX4_shape_70 (by decide) ?_
          have h := Option.some.inj h
          obtain ⟨hz0, h⟩ := Prod.mk.inj h
          obtain ⟨hz1, h⟩ := Prod.mk.inj h
          have hP : va_P D vwCl (xX a k Bz L0 R0 T0 Uz V0) H := by rw [← hz1, ← h]; exact hP
          have hD : va_D A (xX a k Bz L0 R0 T0 Uz V0) := by rw [← hz1, ← h]; exact hD
          subst hQ
          subst hAe
          exact r_i hx hb hr hlocks hz0 hP hD hS dX4_shape_71
        · have h := it_t c8 h
          refine lv_aload_n hx hb dX4_shape_47 rfl (lv_at hl 0 rfl) ?_
          refine lv_iconst (v := (1 : Int32)) hx hb dX4_shape_48 (by decide) ?_
          obtain ⟨r10, B_10, q10, h⟩ := b2_s h
          refine go_i (run_V (As := [.int (1 : Int32)]) (rest := []) ⟨hx, hb, hml, hown, hts⟩ hnw hK hP hD (fr_X_X a k B0 L0 R0 T0 U0 V0 B_10 L0 R0 T0 U0 V0) (ks_X_X k) (c_X4_found l D a k H.size B0 L0 R0 T0 U0 V0 (1 : Int32) r10 B_10 q10) (cwV 1 hts gX4_shape_X4_found rfl rfl rfl (by decide +kernel) ⟨Nat.le_of_ble_eq_true rfl, Nat.le_of_ble_eq_true rfl⟩) (rcv_X a k B0 L0 R0 T0 U0 V0) rfl hl.1 rfl (Nat.le_of_ble_eq_true rfl) dX4_shape_49 ⟨Nat.zero_le _, Nat.zero_le _⟩) hP hD hS hA (fr_X_X a k B0 L0 R0 T0 U0 V0 B_10 L0 R0 T0 U0 V0) (fun H locs hP hD hS => ?_)
          have h := Option.some.inj h
          obtain ⟨hz0, h⟩ := Prod.mk.inj h
          obtain ⟨hz1, h⟩ := Prod.mk.inj h
          have hP : va_P D vwCl (xX a k Bz L0 R0 T0 Uz V0) H := by rw [← hz1, ← h]; exact hP
          have hD : va_D A (xX a k Bz L0 R0 T0 Uz V0) := by rw [← hz1, ← h]; exact hD
          subst hQ
          subst hAe
          exact r_i hx hb hr hlocks hz0 hP hD hS dX4_shape_52
      · have h := it_t c6 h
        refine lv_iconst (v := (-1 : Int32)) hx hb dX4_shape_33 (by decide) ?_
        have h := Option.some.inj h
        obtain ⟨hz0, h⟩ := Prod.mk.inj h
        obtain ⟨hz1, h⟩ := Prod.mk.inj h
        have hP : va_P D vwCl (xX a k Bz L0 R0 T0 Uz V0) H := by rw [← hz1, ← h]; exact hP
        have hD : va_D A (xX a k Bz L0 R0 T0 Uz V0) := by rw [← hz1, ← h]; exact hD
        subst hQ
        subst hAe
        exact r_i hx hb hr hlocks hz0 hP hD hS dX4_shape_34
def f_X4_tear (B0 : Nat → Nat → Int32) (U0 : Nat → Nat → Int32) (p0 : Int32) : Option (Int32 × (Nat → Nat → Int32) × (Nat → Nat → Int32)) := b1 (f_X4_isRun p0) (fun r1 => if r1 = (0 : Int32) then (some ((-1 : Int32), B0, U0)) else (gd (inb p0 6) (if (U0 6 (Int32.toNatClampNeg p0)) = (0 : Int32) then (b2 (f_X4_found B0 (1 : Int32)) (fun r7 (B_7 : Nat → Nat → Int32) => some (r7, B_7, U0))) else (gd (inb p0 6) (ltt (st U0 6 (Int32.toNatClampNeg p0) (vp_nar .boolean (0 : Int32))) (fun (U_6 : Nat → Nat → Int32) => some ((1 : Int32), B0, U_6)))))))
abbrev rm_X4_tear : Room := { frames := 2, cells := 0, slots := 0, locals := 42 }
set_option maxHeartbeats 4000000 in
set_option maxRecDepth 100000 in
theorem c_X4_tear (l : Launch) (D : va_G) (a : Nat → Nat) (k : Nat → ClassId) (sz : Nat) (B0 : Nat → Nat → Int32) (L0 : Int64) (R0 : Nat → Nat → Int32) (T0 : Nat → Nat → Int32) (U0 : Nat → Nat → Int32) (V0 : Nat → Nat → Int32) (p0 : Int32) (r : Int32) (Bz : (Nat → Nat → Int32)) (Uz : (Nat → Nat → Int32)) (h : f_X4_tear B0 U0 p0 = some (r, Bz, Uz)) : Met l yX4_tear wsX4_tear rm_X4_tear (mPc D [.ref (a 26), .int p0] (xX a k B0 L0 R0 T0 U0 V0) (tX k) sz) (mQi D (xX a k B0 L0 R0 T0 U0 V0) (xX a k Bz L0 R0 T0 Uz V0) sz r) 0 0 (va_A (xX a k B0 L0 R0 T0 U0 V0) sz) := by
  refine mk_met (cc := cX4_tear) (maxL := 2) (ret := (some .int)) (by decide) rfl (Nat.le_of_ble_eq_true rfl) ?_
  intro p e s m below meth c hx hb hr hml hts hown hmn hlocks hnw hsz hK hP hD hS hA ls hl
  obtain ⟨A, hAe⟩ : ∃ A, A = va_A (xX a k B0 L0 R0 T0 U0 V0) sz := ⟨_, rfl⟩
  rw [← hAe] at hD hS hA
  generalize hargs : List.toArray ([.ref (a 26), .int p0] : List Value) = args at hts ⊢
  generalize hQ : MQ below (mQi D (xX a k B0 L0 R0 T0 U0 V0) (xX a k Bz L0 R0 T0 Uz V0) sz r) args s 0 0 (va_A (xX a k B0 L0 R0 T0 U0 V0) sz) = Q
  have hl : lv_has ls 2 [(0, .ref (a 26)), (1, .int p0)] := hl
  have hin0 : ∀ w ∈ wsX00, w ∈ wsX4_tear := fun w h => List.mem_cons_of_mem _ (List.mem_append_right _ h)
  have hin4 : ∀ w ∈ wsX40, w ∈ wsX4_tear := fun w h => List.mem_cons_of_mem _ (List.mem_append_left _ (List.mem_append_right _ h))
  rw [f_X4_tear] at h
  obtain ⟨H, hH⟩ : ∃ H, H = s.heap := ⟨_, rfl⟩
  obtain ⟨locs, hlc⟩ : ∃ L : List Loc, L = [] := ⟨_, rfl⟩
  rw [← hH] at hP
  have hS : va_S A s.heap H locs := by rw [hH, hlc]; exact hS
  suffices hW9 : W p l e rm_X4_tear s m args below meth c H locs 0 0 Q (F0 m 0 ls []) by rw [hH, hlc] at hW9; exact hW9
  refine lv_iload_n hx hb dX4_tear_0 rfl (lv_at hl 1 rfl) ?_
  obtain ⟨r1, q1, h⟩ := b1_s h
  refine go_i (run_S (As := [.int p0]) (rest := []) ⟨hx, hb, hml, hown, hts⟩ hnw hK hP hD (fr_X_E a k B0 L0 R0 T0 U0 V0) (ks_X_E k) (c_X4_isRun l D H.size p0 r1 q1) (cwS 1 hts gX4_tear_X4_isRun rfl rfl rfl (by decide +kernel) ⟨Nat.le_of_ble_eq_true rfl, Nat.le_of_ble_eq_true rfl⟩) rfl hl.1 rfl (Nat.le_of_ble_eq_true rfl) dX4_tear_1 ⟨Nat.zero_le _, Nat.zero_le _⟩) hP hD hS hA (fr_X_E a k B0 L0 R0 T0 U0 V0) (fun H locs hP hD hS => ?_)
  refine lv_if_ne (tgt := 9) hx hb dX4_tear_4 (by decide) (fun c2 => ?_) (fun c2 => ?_)
  · have h := it_f c2 h
    refine lv_aload_n hx hb dX4_tear_9 rfl (lv_at hl 0 rfl) ?_
    refine va_get (D := D) (ci := 4) (v := .ref (a 11)) (C := RX4) (T := TX4) (N := 8) hx hb hts hin4 hown hK hP 0 rfl rfl 2 (by decide) (hts (.fieldLink RX4 26 "BallastLine" "runs" "LBallastLine$Runs;") (List.mem_of_getElem? (i := 1) rfl)) (fun _ h9 => h9) rfl dX4_tear_10 ?_
    refine va_getN (host := RX4) (D := D) (ci := 0) (v := .ref (a 19)) (C := RX0) (T := TX0) (N := 2) hx hb hts hin0 hown hK hP 14 rfl rfl 1 (by decide) (va_Nw.use rfl (hnw.1 (RX4, 152, "BallastLine$Runs", "there", "[Z", RX4) (List.mem_of_getElem? (i := 14) rfl))) (fun _ h9 => h9) rfl dX4_tear_13 ?_
    refine lv_iload_n hx hb dX4_tear_16 rfl (lv_at hl 1 rfl) ?_
    obtain ⟨g3, h⟩ := gd_s h
    refine va_zald hx hb hK hP 22 18 rfl rfl (inb_in g3) dX4_tear_17 ?_
    refine lv_if_ne (tgt := 27) hx hb dX4_tear_18 (by decide) (fun c4 => ?_) (fun c4 => ?_)
    · have h := it_f c4 h
      refine lv_aload_n hx hb dX4_tear_27 rfl (lv_at hl 0 rfl) ?_
      refine va_get (D := D) (ci := 4) (v := .ref (a 11)) (C := RX4) (T := TX4) (N := 8) hx hb hts hin4 hown hK hP 0 rfl rfl 2 (by decide) (hts (.fieldLink RX4 26 "BallastLine" "runs" "LBallastLine$Runs;") (List.mem_of_getElem? (i := 1) rfl)) (fun _ h9 => h9) rfl dX4_tear_28 ?_
      refine va_getN (host := RX4) (D := D) (ci := 0) (v := .ref (a 19)) (C := RX0) (T := TX0) (N := 2) hx hb hts hin0 hown hK hP 14 rfl rfl 1 (by decide) (va_Nw.use rfl (hnw.1 (RX4, 152, "BallastLine$Runs", "there", "[Z", RX4) (List.mem_of_getElem? (i := 14) rfl))) (fun _ h9 => h9) rfl dX4_tear_31 ?_
      refine lv_iload_n hx hb dX4_tear_34 rfl (lv_at hl 1 rfl) ?_
      refine lv_iconst (v := (0 : Int32)) hx hb dX4_tear_35 (by decide) ?_
      obtain ⟨g5, h⟩ := gd_s h
      refine va_zast hx hb hK hP hD hS 22 18 rfl rfl (inb_in g5) dX4_tear_36 (fun H locs hP hD hS => ?_)
      obtain ⟨U_6, eU_6⟩ : ∃ y : Nat → Nat → Int32, y = st U0 6 (Int32.toNatClampNeg p0) (vp_nar .boolean (0 : Int32)) := ⟨_, rfl⟩
      have h := ltt_s eU_6 h
      have hP : va_P D vwCl (xX a k B0 L0 R0 T0 U_6 V0) H := by rw [eU_6]; exact hP
      have hD : va_D A (xX a k B0 L0 R0 T0 U_6 V0) := by rw [eU_6]; exact hD
      refine lv_iconst (v := (1 : Int32)) hx hb dX4_tear_37 (by decide) ?_
      have h := Option.some.inj h
      obtain ⟨hz0, h⟩ := Prod.mk.inj h
      obtain ⟨hz1, h⟩ := Prod.mk.inj h
      have hP : va_P D vwCl (xX a k Bz L0 R0 T0 Uz V0) H := by rw [← hz1, ← h]; exact hP
      have hD : va_D A (xX a k Bz L0 R0 T0 Uz V0) := by rw [← hz1, ← h]; exact hD
      subst hQ
      subst hAe
      exact r_i hx hb hr hlocks hz0 hP hD hS dX4_tear_38
    · have h := it_t c4 h
      refine lv_aload_n hx hb dX4_tear_21 rfl (lv_at hl 0 rfl) ?_
      refine lv_iconst (v := (1 : Int32)) hx hb dX4_tear_22 (by decide) ?_
      obtain ⟨r7, B_7, q7, h⟩ := b2_s h
      refine go_i (run_V (As := [.int (1 : Int32)]) (rest := []) ⟨hx, hb, hml, hown, hts⟩ hnw hK hP hD (fr_X_X a k B0 L0 R0 T0 U0 V0 B_7 L0 R0 T0 U0 V0) (ks_X_X k) (c_X4_found l D a k H.size B0 L0 R0 T0 U0 V0 (1 : Int32) r7 B_7 q7) (cwV 1 hts gX4_tear_X4_found rfl rfl rfl (by decide +kernel) ⟨Nat.le_of_ble_eq_true rfl, Nat.le_of_ble_eq_true rfl⟩) (rcv_X a k B0 L0 R0 T0 U0 V0) rfl hl.1 rfl (Nat.le_of_ble_eq_true rfl) dX4_tear_23 ⟨Nat.zero_le _, Nat.zero_le _⟩) hP hD hS hA (fr_X_X a k B0 L0 R0 T0 U0 V0 B_7 L0 R0 T0 U0 V0) (fun H locs hP hD hS => ?_)
      have h := Option.some.inj h
      obtain ⟨hz0, h⟩ := Prod.mk.inj h
      obtain ⟨hz1, h⟩ := Prod.mk.inj h
      have hP : va_P D vwCl (xX a k Bz L0 R0 T0 Uz V0) H := by rw [← hz1, ← h]; exact hP
      have hD : va_D A (xX a k Bz L0 R0 T0 Uz V0) := by rw [← hz1, ← h]; exact hD
      subst hQ
      subst hAe
      exact r_i hx hb hr hlocks hz0 hP hD hS dX4_tear_26
  · have h := it_t c2 h
    refine lv_iconst (v := (-1 : Int32)) hx hb dX4_tear_7 (by decide) ?_
    have h := Option.some.inj h
    obtain ⟨hz0, h⟩ := Prod.mk.inj h
    obtain ⟨hz1, h⟩ := Prod.mk.inj h
    have hP : va_P D vwCl (xX a k Bz L0 R0 T0 Uz V0) H := by rw [← hz1, ← h]; exact hP
    have hD : va_D A (xX a k Bz L0 R0 T0 Uz V0) := by rw [← hz1, ← h]; exact hD
    subst hQ
    subst hAe
    exact r_i hx hb hr hlocks hz0 hP hD hS dX4_tear_8
def f_X4_holdsPlaces  (p0 : Int32) (p1 : Int32) : Option (Int32) := if (40 : Int32) < p1 then (some (0 : Int32)) else (b1 (f_X4_within p0 (0 : Int32) ((40 : Int32) - p1)) (fun r2 => if r2 = (0 : Int32) then (some (0 : Int32)) else (some (1 : Int32))))
abbrev rm_X4_holdsPlaces : Room := { frames := 1, cells := 0, slots := 0, locals := 22 }
set_option maxHeartbeats 4000000 in
set_option maxRecDepth 100000 in
theorem c_X4_holdsPlaces (l : Launch) (D : va_G) (sz : Nat)  (p0 : Int32) (p1 : Int32) (r : Int32) (h : f_X4_holdsPlaces p0 p1 = some r) : Met l yX4_holdsPlaces wsX4_holdsPlaces rm_X4_holdsPlaces (mPc D [.int p0, .int p1] ([] : va_W) ([] : List (ClassId × FieldType)) sz) (mQi D ([] : va_W) ([] : va_W) sz r) 0 0 (va_A ([] : va_W) sz) := by
  refine mk_met (cc := cX4_holdsPlaces) (maxL := 2) (ret := (some .boolean)) (by decide) rfl (Nat.le_of_ble_eq_true rfl) ?_
  intro p e s m below meth c hx hb hr hml hts hown hmn hlocks hnw hsz hK hP hD hS hA ls hl
  obtain ⟨A, hAe⟩ : ∃ A, A = va_A ([] : va_W) sz := ⟨_, rfl⟩
  rw [← hAe] at hD hS hA
  generalize hargs : List.toArray ([.int p0, .int p1] : List Value) = args at hts ⊢
  generalize hQ : MQ below (mQi D ([] : va_W) ([] : va_W) sz r) args s 0 0 (va_A ([] : va_W) sz) = Q
  have hl : lv_has ls 2 [(0, .int p0), (1, .int p1)] := hl
  rw [f_X4_holdsPlaces] at h
  obtain ⟨H, hH⟩ : ∃ H, H = s.heap := ⟨_, rfl⟩
  obtain ⟨locs, hlc⟩ : ∃ L : List Loc, L = [] := ⟨_, rfl⟩
  rw [← hH] at hP
  have hS : va_S A s.heap H locs := by rw [hH, hlc]; exact hS
  suffices hW9 : W p l e rm_X4_holdsPlaces s m args below meth c H locs 0 0 Q (F0 m 0 ls []) by rw [hH, hlc] at hW9; exact hW9
  refine lv_iload_n hx hb dX4_holdsPlaces_0 rfl (lv_at hl 1 rfl) ?_
  refine lv_bipush (v := (40 : Int32)) hx hb dX4_holdsPlaces_1 (by decide) ?_
  refine lv_icmp_gt (tgt := 22) hx hb dX4_holdsPlaces_3 (by decide) (fun c1 => ?_) (fun c1 => ?_)
  · have h := it_t c1 h
    refine lv_iconst (v := (0 : Int32)) hx hb dX4_holdsPlaces_22 (by decide) ?_
    have h := Option.some.inj h
    subst hQ
    subst hAe
    exact r_z hx hb hr rfl hlocks h hP hD hS dX4_holdsPlaces_23
  · have h := it_f c1 h
    refine lv_iload_n hx hb dX4_holdsPlaces_6 rfl (lv_at hl 0 rfl) ?_
    refine lv_iconst (v := (0 : Int32)) hx hb dX4_holdsPlaces_7 (by decide) ?_
    refine lv_bipush (v := (40 : Int32)) hx hb dX4_holdsPlaces_8 (by decide) ?_
    refine lv_iload_n hx hb dX4_holdsPlaces_10 rfl (lv_at hl 1 rfl) ?_
    refine lv_isub hx hb dX4_holdsPlaces_11 ?_
    obtain ⟨r2, q2, h⟩ := b1_s h
    refine go_i (run_S (As := [.int p0, .int (0 : Int32), .int ((40 : Int32) - p1)]) (rest := []) ⟨hx, hb, hml, hown, hts⟩ hnw hK hP hD (fr_E_E ) (ks_E_E) (c_X4_within l D H.size p0 (0 : Int32) ((40 : Int32) - p1) r2 q2) (cwS 3 hts gX4_holdsPlaces_X4_within rfl rfl rfl (by decide +kernel) ⟨Nat.le_of_ble_eq_true rfl, Nat.le_of_ble_eq_true rfl⟩) rfl hl.1 rfl (Nat.le_of_ble_eq_true rfl) dX4_holdsPlaces_12 ⟨Nat.zero_le _, Nat.zero_le _⟩) hP hD hS hA (fr_E_E ) (fun H locs hP hD hS => ?_)
    refine lv_if_eq (tgt := 22) hx hb dX4_holdsPlaces_15 (by decide) (fun c3 => ?_) (fun c3 => ?_)
    · have h := it_t c3 h
      refine lv_iconst (v := (0 : Int32)) hx hb dX4_holdsPlaces_22 (by decide) ?_
      have h := Option.some.inj h
      subst hQ
      subst hAe
      exact r_z hx hb hr rfl hlocks h hP hD hS dX4_holdsPlaces_23
    · have h := it_f c3 h
      refine lv_iconst (v := (1 : Int32)) hx hb dX4_holdsPlaces_18 (by decide) ?_
      refine lv_goto (tgt := 23) hx hb dX4_holdsPlaces_19 (by decide) ?_
      have h := Option.some.inj h
      subst hQ
      subst hAe
      exact r_z hx hb hr rfl hlocks h hP hD hS dX4_holdsPlaces_23
def f_X4_copy_J51  (p0 : Int32) (p1 : Int32) (p2 : Int32) (p3 : Int32) (p4 : Int32)  (B : Nat → Nat → Int32) (U : Nat → Nat → Int32) : Option (Int32 × (Nat → Nat → Int32) × (Nat → Nat → Int32)) := b2 (f_X4_found B (1 : Int32)) (fun r1 (B_1 : Nat → Nat → Int32) => some (r1, B_1, U))
def f_X4_copy_J76  (p0 : Int32) (p1 : Int32) (p2 : Int32) (p3 : Int32) (p4 : Int32)  (B : Nat → Nat → Int32) (U : Nat → Nat → Int32) : Option (Int32 × (Nat → Nat → Int32) × (Nat → Nat → Int32)) := b2 (f_X4_found B (2 : Int32)) (fun r2 (B_2 : Nat → Nat → Int32) => some (r2, B_2, U))
def f_X4_copy (B0 : Nat → Nat → Int32) (U0 : Nat → Nat → Int32) (p0 : Int32) (p1 : Int32) (p2 : Int32) (p3 : Int32) (p4 : Int32) : Option (Int32 × (Nat → Nat → Int32) × (Nat → Nat → Int32)) := b1 (f_X4_isRun p0) (fun r3 => if r3 = (0 : Int32) then (some ((-1 : Int32), B0, U0)) else (b1 (f_X4_isRun p2) (fun r5 => if r5 = (0 : Int32) then (some ((-1 : Int32), B0, U0)) else (if (0 : Int32) ≤ p4 then (gd (inb p0 6) (if (U0 6 (Int32.toNatClampNeg p0)) = (0 : Int32) then (f_X4_copy_J51 p0 p1 p2 p3 p4 B0 U0) else (gd (inb p2 6) (if (U0 6 (Int32.toNatClampNeg p2)) = (0 : Int32) then (f_X4_copy_J51 p0 p1 p2 p3 p4 B0 U0) else (b1 (f_X4_holdsPlaces p1 p4) (fun r12 => if r12 = (0 : Int32) then (f_X4_copy_J76 p0 p1 p2 p3 p4 B0 U0) else (b1 (f_X4_holdsPlaces p3 p4) (fun r14 => if r14 = (0 : Int32) then (f_X4_copy_J76 p0 p1 p2 p3 p4 B0 U0) else (gd (inb p0 6) (ltt (Int32.toNatClampNeg p0) (fun q_17 => gd (inb p2 6) (ltt (Int32.toNatClampNeg p2) (fun q_19 => gd (cpok p1 p3 p4) (ltt (sw U0 q_19 (va_cpy (U0 q_17) (U0 q_19) (Int32.toNatClampNeg p1) (Int32.toNatClampNeg p3) (Int32.toNatClampNeg p4))) (fun (U_21 : Nat → Nat → Int32) => some ((1 : Int32), B0, U_21)))))))))))))))) else (b2 (f_X4_found B0 (5 : Int32)) (fun r22 (B_22 : Nat → Nat → Int32) => some (r22, B_22, U0)))))))
abbrev rm_X4_copy : Room := { frames := 2, cells := 0, slots := 0, locals := 43 }
set_option maxHeartbeats 4000000 in
set_option maxRecDepth 100000 in
theorem c_X4_copy (l : Launch) (D : va_G) (a : Nat → Nat) (k : Nat → ClassId) (sz : Nat) (B0 : Nat → Nat → Int32) (L0 : Int64) (R0 : Nat → Nat → Int32) (T0 : Nat → Nat → Int32) (U0 : Nat → Nat → Int32) (V0 : Nat → Nat → Int32) (p0 : Int32) (p1 : Int32) (p2 : Int32) (p3 : Int32) (p4 : Int32) (r : Int32) (Bz : (Nat → Nat → Int32)) (Uz : (Nat → Nat → Int32)) (h : f_X4_copy B0 U0 p0 p1 p2 p3 p4 = some (r, Bz, Uz)) : Met l yX4_copy wsX4_copy rm_X4_copy (mPc D [.ref (a 26), .int p0, .int p1, .int p2, .int p3, .int p4] (xX a k B0 L0 R0 T0 U0 V0) (tX k) sz) (mQi D (xX a k B0 L0 R0 T0 U0 V0) (xX a k Bz L0 R0 T0 Uz V0) sz r) 0 0 (va_A (xX a k B0 L0 R0 T0 U0 V0) sz) := by
  refine mk_met (cc := cX4_copy) (maxL := 6) (ret := (some .int)) (by decide) rfl (Nat.le_of_ble_eq_true rfl) ?_
  intro p e s m below meth c hx hb hr hml hts hown hmn hlocks hnw hsz hK hP hD hS hA ls hl
  obtain ⟨A, hAe⟩ : ∃ A, A = va_A (xX a k B0 L0 R0 T0 U0 V0) sz := ⟨_, rfl⟩
  rw [← hAe] at hD hS hA
  generalize hargs : List.toArray ([.ref (a 26), .int p0, .int p1, .int p2, .int p3, .int p4] : List Value) = args at hts ⊢
  generalize hQ : MQ below (mQi D (xX a k B0 L0 R0 T0 U0 V0) (xX a k Bz L0 R0 T0 Uz V0) sz r) args s 0 0 (va_A (xX a k B0 L0 R0 T0 U0 V0) sz) = Q
  have hl : lv_has ls 6 [(0, .ref (a 26)), (1, .int p0), (2, .int p1), (3, .int p2), (4, .int p3), (5, .int p4)] := hl
  have hin0 : ∀ w ∈ wsX00, w ∈ wsX4_copy := fun w h => List.mem_cons_of_mem _ (List.mem_append_right _ h)
  have hin4 : ∀ w ∈ wsX40, w ∈ wsX4_copy := fun w h => List.mem_cons_of_mem _ (List.mem_append_left _ (List.mem_append_right _ h))
  have lb51 : ∀ (B : Nat → Nat → Int32) (U : Nat → Nat → Int32), ∀ (H : Heap) (locs : List Loc), va_P D vwCl (xX a k B L0 R0 T0 U V0) H → va_D A (xX a k B L0 R0 T0 U V0) → va_S A s.heap H locs → ∀ ls : Array Slot, lv_has ls 6 [(0, .ref (a 26))] → f_X4_copy_J51 p0 p1 p2 p3 p4 B U = some (r, Bz, Uz) → W p l e rm_X4_copy s m args below meth c H locs 0 0 Q (F0 m 51 ls []) := by
    intro  B U H locs hP hD hS ls hl h
    rw [f_X4_copy_J51] at h
    refine lv_aload_n hx hb dX4_copy_51 rfl (lv_at hl 0 rfl) ?_
    refine lv_iconst (v := (1 : Int32)) hx hb dX4_copy_52 (by decide) ?_
    obtain ⟨r1, B_1, q1, h⟩ := b2_s h
    refine go_i (run_V (As := [.int (1 : Int32)]) (rest := []) ⟨hx, hb, hml, hown, hts⟩ hnw hK hP hD (fr_X_X a k B L0 R0 T0 U V0 B_1 L0 R0 T0 U V0) (ks_X_X k) (c_X4_found l D a k H.size B L0 R0 T0 U V0 (1 : Int32) r1 B_1 q1) (cwV 1 hts gX4_copy_X4_found rfl rfl rfl (by decide +kernel) ⟨Nat.le_of_ble_eq_true rfl, Nat.le_of_ble_eq_true rfl⟩) (rcv_X a k B L0 R0 T0 U V0) rfl hl.1 rfl (Nat.le_of_ble_eq_true rfl) dX4_copy_53 ⟨Nat.zero_le _, Nat.zero_le _⟩) hP hD hS hA (fr_X_X a k B L0 R0 T0 U V0 B_1 L0 R0 T0 U V0) (fun H locs hP hD hS => ?_)
    have h := Option.some.inj h
    obtain ⟨hz0, h⟩ := Prod.mk.inj h
    obtain ⟨hz1, h⟩ := Prod.mk.inj h
    have hP : va_P D vwCl (xX a k Bz L0 R0 T0 Uz V0) H := by rw [← hz1, ← h]; exact hP
    have hD : va_D A (xX a k Bz L0 R0 T0 Uz V0) := by rw [← hz1, ← h]; exact hD
    subst hQ
    subst hAe
    exact r_i hx hb hr hlocks hz0 hP hD hS dX4_copy_56
  have lb76 : ∀ (B : Nat → Nat → Int32) (U : Nat → Nat → Int32), ∀ (H : Heap) (locs : List Loc), va_P D vwCl (xX a k B L0 R0 T0 U V0) H → va_D A (xX a k B L0 R0 T0 U V0) → va_S A s.heap H locs → ∀ ls : Array Slot, lv_has ls 6 [(0, .ref (a 26))] → f_X4_copy_J76 p0 p1 p2 p3 p4 B U = some (r, Bz, Uz) → W p l e rm_X4_copy s m args below meth c H locs 0 0 Q (F0 m 76 ls []) := by
    intro  B U H locs hP hD hS ls hl h
    rw [f_X4_copy_J76] at h
    refine lv_aload_n hx hb dX4_copy_76 rfl (lv_at hl 0 rfl) ?_
    refine lv_iconst (v := (2 : Int32)) hx hb dX4_copy_77 (by decide) ?_
    obtain ⟨r2, B_2, q2, h⟩ := b2_s h
    refine go_i (run_V (As := [.int (2 : Int32)]) (rest := []) ⟨hx, hb, hml, hown, hts⟩ hnw hK hP hD (fr_X_X a k B L0 R0 T0 U V0 B_2 L0 R0 T0 U V0) (ks_X_X k) (c_X4_found l D a k H.size B L0 R0 T0 U V0 (2 : Int32) r2 B_2 q2) (cwV 1 hts gX4_copy_X4_found rfl rfl rfl (by decide +kernel) ⟨Nat.le_of_ble_eq_true rfl, Nat.le_of_ble_eq_true rfl⟩) (rcv_X a k B L0 R0 T0 U V0) rfl hl.1 rfl (Nat.le_of_ble_eq_true rfl) dX4_copy_78 ⟨Nat.zero_le _, Nat.zero_le _⟩) hP hD hS hA (fr_X_X a k B L0 R0 T0 U V0 B_2 L0 R0 T0 U V0) (fun H locs hP hD hS => ?_)
    have h := Option.some.inj h
    obtain ⟨hz0, h⟩ := Prod.mk.inj h
    obtain ⟨hz1, h⟩ := Prod.mk.inj h
    have hP : va_P D vwCl (xX a k Bz L0 R0 T0 Uz V0) H := by rw [← hz1, ← h]; exact hP
    have hD : va_D A (xX a k Bz L0 R0 T0 Uz V0) := by rw [← hz1, ← h]; exact hD
    subst hQ
    subst hAe
    exact r_i hx hb hr hlocks hz0 hP hD hS dX4_copy_81
  rw [f_X4_copy] at h
  obtain ⟨H, hH⟩ : ∃ H, H = s.heap := ⟨_, rfl⟩
  obtain ⟨locs, hlc⟩ : ∃ L : List Loc, L = [] := ⟨_, rfl⟩
  rw [← hH] at hP
  have hS : va_S A s.heap H locs := by rw [hH, hlc]; exact hS
  suffices hW9 : W p l e rm_X4_copy s m args below meth c H locs 0 0 Q (F0 m 0 ls []) by rw [hH, hlc] at hW9; exact hW9
  refine lv_iload_n hx hb dX4_copy_0 rfl (lv_at hl 1 rfl) ?_
  obtain ⟨r3, q3, h⟩ := b1_s h
  refine go_i (run_S (As := [.int p0]) (rest := []) ⟨hx, hb, hml, hown, hts⟩ hnw hK hP hD (fr_X_E a k B0 L0 R0 T0 U0 V0) (ks_X_E k) (c_X4_isRun l D H.size p0 r3 q3) (cwS 1 hts gX4_copy_X4_isRun rfl rfl rfl (by decide +kernel) ⟨Nat.le_of_ble_eq_true rfl, Nat.le_of_ble_eq_true rfl⟩) rfl hl.1 rfl (Nat.le_of_ble_eq_true rfl) dX4_copy_1 ⟨Nat.zero_le _, Nat.zero_le _⟩) hP hD hS hA (fr_X_E a k B0 L0 R0 T0 U0 V0) (fun H locs hP hD hS => ?_)
  refine lv_if_eq (tgt := 14) hx hb dX4_copy_4 (by decide) (fun c4 => ?_) (fun c4 => ?_)
  · have h := it_t c4 h
    refine lv_iconst (v := (-1 : Int32)) hx hb dX4_copy_14 (by decide) ?_
    have h := Option.some.inj h
    obtain ⟨hz0, h⟩ := Prod.mk.inj h
    obtain ⟨hz1, h⟩ := Prod.mk.inj h
    have hP : va_P D vwCl (xX a k Bz L0 R0 T0 Uz V0) H := by rw [← hz1, ← h]; exact hP
    have hD : va_D A (xX a k Bz L0 R0 T0 Uz V0) := by rw [← hz1, ← h]; exact hD
    subst hQ
    subst hAe
    exact r_i hx hb hr hlocks hz0 hP hD hS dX4_copy_15
  · have h := it_f c4 h
    refine lv_iload_n hx hb dX4_copy_7 rfl (lv_at hl 3 rfl) ?_
    obtain ⟨r5, q5, h⟩ := b1_s h
    refine go_i (run_S (As := [.int p2]) (rest := []) ⟨hx, hb, hml, hown, hts⟩ hnw hK hP hD (fr_X_E a k B0 L0 R0 T0 U0 V0) (ks_X_E k) (c_X4_isRun l D H.size p2 r5 q5) (cwS 1 hts gX4_copy_X4_isRun rfl rfl rfl (by decide +kernel) ⟨Nat.le_of_ble_eq_true rfl, Nat.le_of_ble_eq_true rfl⟩) rfl hl.1 rfl (Nat.le_of_ble_eq_true rfl) dX4_copy_8 ⟨Nat.zero_le _, Nat.zero_le _⟩) hP hD hS hA (fr_X_E a k B0 L0 R0 T0 U0 V0) (fun H locs hP hD hS => ?_)
    refine lv_if_ne (tgt := 16) hx hb dX4_copy_11 (by decide) (fun c6 => ?_) (fun c6 => ?_)
    · have h := it_f c6 h
      refine lv_iload hx hb dX4_copy_16 (lv_at hl 5 rfl) ?_
      refine lv_if_ge (tgt := 27) hx hb dX4_copy_18 (by decide) (fun c7 => ?_) (fun c7 => ?_)
      · have h := it_t c7 h
        refine lv_aload_n hx hb dX4_copy_27 rfl (lv_at hl 0 rfl) ?_
        refine va_get (D := D) (ci := 4) (v := .ref (a 11)) (C := RX4) (T := TX4) (N := 8) hx hb hts hin4 hown hK hP 0 rfl rfl 2 (by decide) (hts (.fieldLink RX4 26 "BallastLine" "runs" "LBallastLine$Runs;") (List.mem_of_getElem? (i := 1) rfl)) (fun _ h9 => h9) rfl dX4_copy_28 ?_
        refine va_getN (host := RX4) (D := D) (ci := 0) (v := .ref (a 19)) (C := RX0) (T := TX0) (N := 2) hx hb hts hin0 hown hK hP 14 rfl rfl 1 (by decide) (va_Nw.use rfl (hnw.1 (RX4, 152, "BallastLine$Runs", "there", "[Z", RX4) (List.mem_of_getElem? (i := 14) rfl))) (fun _ h9 => h9) rfl dX4_copy_31 ?_
        refine lv_iload_n hx hb dX4_copy_34 rfl (lv_at hl 1 rfl) ?_
        obtain ⟨g8, h⟩ := gd_s h
        refine va_zald hx hb hK hP 22 18 rfl rfl (inb_in g8) dX4_copy_35 ?_
        refine lv_if_eq (tgt := 51) hx hb dX4_copy_36 (by decide) (fun c9 => ?_) (fun c9 => ?_)
        · have h := it_t c9 h
          exact lb51  B0 U0 H locs hP hD hS ls (lv_sub hl [0] rfl) h
        · have h := it_f c9 h
          refine lv_aload_n hx hb dX4_copy_39 rfl (lv_at hl 0 rfl) ?_
          refine va_get (D := D) (ci := 4) (v := .ref (a 11)) (C := RX4) (T := TX4) (N := 8) hx hb hts hin4 hown hK hP 0 rfl rfl 2 (by decide) (hts (.fieldLink RX4 26 "BallastLine" "runs" "LBallastLine$Runs;") (List.mem_of_getElem? (i := 1) rfl)) (fun _ h9 => h9) rfl dX4_copy_40 ?_
          refine va_getN (host := RX4) (D := D) (ci := 0) (v := .ref (a 19)) (C := RX0) (T := TX0) (N := 2) hx hb hts hin0 hown hK hP 14 rfl rfl 1 (by decide) (va_Nw.use rfl (hnw.1 (RX4, 152, "BallastLine$Runs", "there", "[Z", RX4) (List.mem_of_getElem? (i := 14) rfl))) (fun _ h9 => h9) rfl dX4_copy_43 ?_
          refine lv_iload_n hx hb dX4_copy_46 rfl (lv_at hl 3 rfl) ?_
          obtain ⟨g10, h⟩ := gd_s h
          refine va_zald hx hb hK hP 22 18 rfl rfl (inb_in g10) dX4_copy_47 ?_
          refine lv_if_ne (tgt := 57) hx hb dX4_copy_48 (by decide) (fun c11 => ?_) (fun c11 => ?_)
          · have h := it_f c11 h
            refine lv_iload_n hx hb dX4_copy_57 rfl (lv_at hl 2 rfl) ?_
            refine lv_iload hx hb dX4_copy_58 (lv_at hl 5 rfl) ?_
            obtain ⟨r12, q12, h⟩ := b1_s h
            refine go_i (run_S (As := [.int p1, .int p4]) (rest := []) ⟨hx, hb, hml, hown, hts⟩ hnw hK hP hD (fr_X_E a k B0 L0 R0 T0 U0 V0) (ks_X_E k) (c_X4_holdsPlaces l D H.size p1 p4 r12 q12) (cwS 2 hts gX4_copy_X4_holdsPlaces rfl rfl rfl (by decide +kernel) ⟨Nat.le_of_ble_eq_true rfl, Nat.le_of_ble_eq_true rfl⟩) rfl hl.1 rfl (Nat.le_of_ble_eq_true rfl) dX4_copy_60 ⟨Nat.zero_le _, Nat.zero_le _⟩) hP hD hS hA (fr_X_E a k B0 L0 R0 T0 U0 V0) (fun H locs hP hD hS => ?_)
            refine lv_if_eq (tgt := 76) hx hb dX4_copy_63 (by decide) (fun c13 => ?_) (fun c13 => ?_)
            · have h := it_t c13 h
              exact lb76  B0 U0 H locs hP hD hS ls (lv_sub hl [0] rfl) h
            · have h := it_f c13 h
              refine lv_iload hx hb dX4_copy_66 (lv_at hl 4 rfl) ?_
              refine lv_iload hx hb dX4_copy_68 (lv_at hl 5 rfl) ?_
              obtain ⟨r14, q14, h⟩ := b1_s h
              refine go_i (run_S (As := [.int p3, .int p4]) (rest := []) ⟨hx, hb, hml, hown, hts⟩ hnw hK hP hD (fr_X_E a k B0 L0 R0 T0 U0 V0) (ks_X_E k) (c_X4_holdsPlaces l D H.size p3 p4 r14 q14) (cwS 2 hts gX4_copy_X4_holdsPlaces rfl rfl rfl (by decide +kernel) ⟨Nat.le_of_ble_eq_true rfl, Nat.le_of_ble_eq_true rfl⟩) rfl hl.1 rfl (Nat.le_of_ble_eq_true rfl) dX4_copy_70 ⟨Nat.zero_le _, Nat.zero_le _⟩) hP hD hS hA (fr_X_E a k B0 L0 R0 T0 U0 V0) (fun H locs hP hD hS => ?_)
              refine lv_if_ne (tgt := 82) hx hb dX4_copy_73 (by decide) (fun c15 => ?_) (fun c15 => ?_)
              · have h := it_f c15 h
                refine lv_aload_n hx hb dX4_copy_82 rfl (lv_at hl 0 rfl) ?_
                refine va_get (D := D) (ci := 4) (v := .ref (a 11)) (C := RX4) (T := TX4) (N := 8) hx hb hts hin4 hown hK hP 0 rfl rfl 2 (by decide) (hts (.fieldLink RX4 26 "BallastLine" "runs" "LBallastLine$Runs;") (List.mem_of_getElem? (i := 1) rfl)) (fun _ h9 => h9) rfl dX4_copy_83 ?_
                refine va_getN (host := RX4) (D := D) (ci := 0) (v := .ref (a 12)) (C := RX0) (T := TX0) (N := 2) hx hb hts hin0 hown hK hP 14 rfl rfl 0 (by decide) (va_Nw.use rfl (hnw.1 (RX4, 143, "BallastLine$Runs", "rows", "[[I", RX4) (List.mem_of_getElem? (i := 13) rfl))) (fun _ h9 => h9) rfl dX4_copy_86 ?_
                refine lv_iload_n hx hb dX4_copy_89 rfl (lv_at hl 1 rfl) ?_
                obtain ⟨g16, h⟩ := gd_s h
                obtain ⟨q_17, eq_17⟩ : ∃ y : Nat, y = Int32.toNatClampNeg p0 := ⟨_, rfl⟩
                have h := ltt_s eq_17 h
                have hq_17 : q_17 < 6 := by rw [eq_17]; exact clt_of g16
                refine va_ldrow hx hb hK hP 15 11 rfl rfl (inb_in g16) eq_17 dX4_copy_90 ?_
                refine lv_iload_n hx hb dX4_copy_91 rfl (lv_at hl 2 rfl) ?_
                refine lv_aload_n hx hb dX4_copy_92 rfl (lv_at hl 0 rfl) ?_
                refine va_get (D := D) (ci := 4) (v := .ref (a 11)) (C := RX4) (T := TX4) (N := 8) hx hb hts hin4 hown hK hP 0 rfl rfl 2 (by decide) (hts (.fieldLink RX4 26 "BallastLine" "runs" "LBallastLine$Runs;") (List.mem_of_getElem? (i := 1) rfl)) (fun _ h9 => h9) rfl dX4_copy_93 ?_
                refine va_getN (host := RX4) (D := D) (ci := 0) (v := .ref (a 12)) (C := RX0) (T := TX0) (N := 2) hx hb hts hin0 hown hK hP 14 rfl rfl 0 (by decide) (va_Nw.use rfl (hnw.1 (RX4, 143, "BallastLine$Runs", "rows", "[[I", RX4) (List.mem_of_getElem? (i := 13) rfl))) (fun _ h9 => h9) rfl dX4_copy_96 ?_
                refine lv_iload_n hx hb dX4_copy_99 rfl (lv_at hl 3 rfl) ?_
                obtain ⟨g18, h⟩ := gd_s h
                obtain ⟨q_19, eq_19⟩ : ∃ y : Nat, y = Int32.toNatClampNeg p2 := ⟨_, rfl⟩
                have h := ltt_s eq_19 h
                have hq_19 : q_19 < 6 := by rw [eq_19]; exact clt_of g18
                refine va_ldrow hx hb hK hP 15 11 rfl rfl (inb_in g18) eq_19 dX4_copy_100 ?_
                refine lv_iload hx hb dX4_copy_101 (lv_at hl 4 rfl) ?_
                refine lv_iload hx hb dX4_copy_103 (lv_at hl 5 rfl) ?_
                obtain ⟨g20, h⟩ := gd_s h
                obtain ⟨z1, z2, z3, z4, z5⟩ := cpok_s g20
                refine va_copyi hx hb (hml.trans hl.1.symm) hown (hts (.methodLink RX4 162 arraycopyName) (List.mem_of_getElem? (i := 2) rfl)) (hts (.native arraycopyName) (List.mem_of_getElem? (i := 3) rfl)) (hts (.static arraycopyName) (List.mem_of_getElem? (i := 4) rfl)) (hts (.initialized "java/lang/System") (List.mem_of_getElem? (i := 5) rfl)) hK hP hD hS (16 + q_17) (16 + q_19) (12 + q_17) (12 + q_19) (rowat_X a k B0 L0 R0 T0 U0 V0 q_17 hq_17) (rowat_X a k B0 L0 R0 T0 U0 V0 q_19 hq_19) (rowty_X k q_17 hq_17) (rowty_X k q_19 hq_19) rfl z1 z2 z3 z4 z5 (fun _ _ => rfl) (Nat.le_of_ble_eq_true rfl) (Nat.le_of_ble_eq_true rfl) dX4_copy_105 (fun H locs hP hD hS => ?_)
                rw [rowsw_X a k B0 L0 R0 T0 U0 V0 q_19 hq_19] at hP hD
                obtain ⟨U_21, eU_21⟩ : ∃ y : Nat → Nat → Int32, y = sw U0 q_19 (va_cpy (U0 q_17) (U0 q_19) (Int32.toNatClampNeg p1) (Int32.toNatClampNeg p3) (Int32.toNatClampNeg p4)) := ⟨_, rfl⟩
                have h := ltt_s eU_21 h
                have hP : va_P D vwCl (xX a k B0 L0 R0 T0 U_21 V0) H := by rw [eU_21]; exact hP
                have hD : va_D A (xX a k B0 L0 R0 T0 U_21 V0) := by rw [eU_21]; exact hD
                refine lv_iconst (v := (1 : Int32)) hx hb dX4_copy_108 (by decide) ?_
                have h := Option.some.inj h
                obtain ⟨hz0, h⟩ := Prod.mk.inj h
                obtain ⟨hz1, h⟩ := Prod.mk.inj h
                have hP : va_P D vwCl (xX a k Bz L0 R0 T0 Uz V0) H := by rw [← hz1, ← h]; exact hP
                have hD : va_D A (xX a k Bz L0 R0 T0 Uz V0) := by rw [← hz1, ← h]; exact hD
                subst hQ
                subst hAe
                exact r_i hx hb hr hlocks hz0 hP hD hS dX4_copy_109
              · have h := it_t c15 h
                exact lb76  B0 U0 H locs hP hD hS ls (lv_sub hl [0] rfl) h
          · have h := it_t c11 h
            exact lb51  B0 U0 H locs hP hD hS ls (lv_sub hl [0] rfl) h
      · have h := it_f c7 h
        refine lv_aload_n hx hb dX4_copy_21 rfl (lv_at hl 0 rfl) ?_
        refine lv_iconst (v := (5 : Int32)) hx hb dX4_copy_22 (by decide) ?_
        obtain ⟨r22, B_22, q22, h⟩ := b2_s h
        refine go_i (run_V (As := [.int (5 : Int32)]) (rest := []) ⟨hx, hb, hml, hown, hts⟩ hnw hK hP hD (fr_X_X a k B0 L0 R0 T0 U0 V0 B_22 L0 R0 T0 U0 V0) (ks_X_X k) (c_X4_found l D a k H.size B0 L0 R0 T0 U0 V0 (5 : Int32) r22 B_22 q22) (cwV 1 hts gX4_copy_X4_found rfl rfl rfl (by decide +kernel) ⟨Nat.le_of_ble_eq_true rfl, Nat.le_of_ble_eq_true rfl⟩) (rcv_X a k B0 L0 R0 T0 U0 V0) rfl hl.1 rfl (Nat.le_of_ble_eq_true rfl) dX4_copy_23 ⟨Nat.zero_le _, Nat.zero_le _⟩) hP hD hS hA (fr_X_X a k B0 L0 R0 T0 U0 V0 B_22 L0 R0 T0 U0 V0) (fun H locs hP hD hS => ?_)
        have h := Option.some.inj h
        obtain ⟨hz0, h⟩ := Prod.mk.inj h
        obtain ⟨hz1, h⟩ := Prod.mk.inj h
        have hP : va_P D vwCl (xX a k Bz L0 R0 T0 Uz V0) H := by rw [← hz1, ← h]; exact hP
        have hD : va_D A (xX a k Bz L0 R0 T0 Uz V0) := by rw [← hz1, ← h]; exact hD
        subst hQ
        subst hAe
        exact r_i hx hb hr hlocks hz0 hP hD hS dX4_copy_26
    · have h := it_t c6 h
      refine lv_iconst (v := (-1 : Int32)) hx hb dX4_copy_14 (by decide) ?_
      have h := Option.some.inj h
      obtain ⟨hz0, h⟩ := Prod.mk.inj h
      obtain ⟨hz1, h⟩ := Prod.mk.inj h
      have hP : va_P D vwCl (xX a k Bz L0 R0 T0 Uz V0) H := by rw [← hz1, ← h]; exact hP
      have hD : va_D A (xX a k Bz L0 R0 T0 Uz V0) := by rw [← hz1, ← h]; exact hD
      subst hQ
      subst hAe
      exact r_i hx hb hr hlocks hz0 hP hD hS dX4_copy_15
