def f_X4_fit_J55 (T0 : Nat → Nat → Int32) (U0 : Nat → Nat → Int32) (p0 : Int32) (p1 : Int32)  (B : Nat → Nat → Int32) (L : Int64) : Option (Int32 × (Nat → Nat → Int32) × Int64) := b2 (f_X4_found B (1 : Int32)) (fun r1 (B_1 : Nat → Nat → Int32) => some (r1, B_1, L))
def f_X4_fit (B0 : Nat → Nat → Int32) (L0 : Int64) (T0 : Nat → Nat → Int32) (U0 : Nat → Nat → Int32) (p0 : Int32) (p1 : Int32) : Option (Int32 × (Nat → Nat → Int32) × Int64) := b1 (f_X4_isRun p0) (fun r2 => if r2 = (0 : Int32) then (some ((-1 : Int32), B0, L0)) else (b1 (f_X4_isRun p1) (fun r4 => if r4 = (0 : Int32) then (some ((-1 : Int32), B0, L0)) else (if (11 : Int32) ≤ (T0 7 0) then (gd (inb p0 6) (if (U0 6 (Int32.toNatClampNeg p0)) = (0 : Int32) then (f_X4_fit_J55 T0 U0 p0 p1 B0 L0) else (gd (inb p1 6) (if (U0 6 (Int32.toNatClampNeg p1)) = (0 : Int32) then (f_X4_fit_J55 T0 U0 p0 p1 B0 L0) else (b1 (f_X0_bestShift U0 p0 p1 (T0 7 0)) (fun r11 => b1 (f_X0_squaresApart U0 p0 p1 r11 (T0 7 0)) (fun r12 => b2 (f_X4_tell L0 r12) (fun r13 (L_13 : Int64) => some (((100 : Int32) + r11), B0, L_13))))))))) else (some ((-4 : Int32), B0, L0))))))
abbrev rm_X4_fit : Room := { frames := 2, cells := 0, slots := 0, locals := 59 }
set_option maxHeartbeats 4000000 in
set_option maxRecDepth 100000 in
theorem c_X4_fit (l : Launch) (D : va_G) (a : Nat → Nat) (k : Nat → ClassId) (sz : Nat) (B0 : Nat → Nat → Int32) (L0 : Int64) (R0 : Nat → Nat → Int32) (T0 : Nat → Nat → Int32) (U0 : Nat → Nat → Int32) (V0 : Nat → Nat → Int32) (p0 : Int32) (p1 : Int32) (r : Int32) (Bz : (Nat → Nat → Int32)) (Lz : Int64) (h : f_X4_fit B0 L0 T0 U0 p0 p1 = some (r, Bz, Lz)) : Met l yX4_fit wsX4_fit rm_X4_fit (mPc D [.ref (a 26), .int p0, .int p1] (xX a k B0 L0 R0 T0 U0 V0) (tX k) sz) (mQi D (xX a k B0 L0 R0 T0 U0 V0) (xX a k Bz Lz R0 T0 U0 V0) sz r) 0 0 (va_A (xX a k B0 L0 R0 T0 U0 V0) sz) := by
  refine mk_met (cc := cX4_fit) (maxL := 4) (ret := (some .int)) (by decide) rfl (Nat.le_of_ble_eq_true rfl) ?_
  intro p e s m below meth c hx hb hr hml hts hown hmn hlocks hnw hsz hK hP hD hS hA ls hl
  obtain ⟨A, hAe⟩ : ∃ A, A = va_A (xX a k B0 L0 R0 T0 U0 V0) sz := ⟨_, rfl⟩
  rw [← hAe] at hD hS hA
  generalize hargs : List.toArray ([.ref (a 26), .int p0, .int p1] : List Value) = args at hts ⊢
  generalize hQ : MQ below (mQi D (xX a k B0 L0 R0 T0 U0 V0) (xX a k Bz Lz R0 T0 U0 V0) sz r) args s 0 0 (va_A (xX a k B0 L0 R0 T0 U0 V0) sz) = Q
  have hl : lv_has ls 4 [(0, .ref (a 26)), (1, .int p0), (2, .int p1)] := hl
  have hin0 : ∀ w ∈ wsX00, w ∈ wsX4_fit := fun w h => List.mem_cons_of_mem _ (List.mem_append_right _ h)
  have hin1 : ∀ w ∈ wsX10, w ∈ wsX4_fit := fun w h => List.mem_cons_of_mem _ (List.mem_append_left _ (List.mem_append_right _ h))
  have hin4 : ∀ w ∈ wsX40, w ∈ wsX4_fit := fun w h => List.mem_cons_of_mem _ (List.mem_append_left _ (List.mem_append_left _ (List.mem_append_right _ h)))
  have lb55 : ∀ (B : Nat → Nat → Int32) (L : Int64), ∀ (H : Heap) (locs : List Loc), va_P D vwCl (xX a k B L R0 T0 U0 V0) H → va_D A (xX a k B L R0 T0 U0 V0) → va_S A s.heap H locs → ∀ ls : Array Slot, lv_has ls 4 [(0, .ref (a 26))] → f_X4_fit_J55 T0 U0 p0 p1 B L = some (r, Bz, Lz) → W p l e rm_X4_fit s m args below meth c H locs 0 0 Q (F0 m 55 ls []) := by
    intro  B L H locs hP hD hS ls hl h
    rw [f_X4_fit_J55] at h
    refine lv_aload_n hx hb dX4_fit_55 rfl (lv_at hl 0 rfl) ?_
    refine lv_iconst (v := (1 : Int32)) hx hb dX4_fit_56 (by decide) ?_
    obtain ⟨r1, B_1, q1, h⟩ := b2_s h
    refine go_i (run_V (As := [.int (1 : Int32)]) (rest := []) ⟨hx, hb, hml, hown, hts⟩ hnw hK hP hD (fr_X_X a k B L R0 T0 U0 V0 B_1 L R0 T0 U0 V0) (ks_X_X k) (c_X4_found l D a k H.size B L R0 T0 U0 V0 (1 : Int32) r1 B_1 q1) (cwV 1 hts gX4_fit_X4_found rfl rfl rfl (by decide +kernel) ⟨Nat.le_of_ble_eq_true rfl, Nat.le_of_ble_eq_true rfl⟩) (rcv_X a k B L R0 T0 U0 V0) rfl hl.1 rfl (Nat.le_of_ble_eq_true rfl) dX4_fit_57 ⟨Nat.zero_le _, Nat.zero_le _⟩) hP hD hS hA (fr_X_X a k B L R0 T0 U0 V0 B_1 L R0 T0 U0 V0) (fun H locs hP hD hS => ?_)
    have h := Option.some.inj h
    obtain ⟨hz0, h⟩ := Prod.mk.inj h
    obtain ⟨hz1, h⟩ := Prod.mk.inj h
    have hP : va_P D vwCl (xX a k Bz Lz R0 T0 U0 V0) H := by rw [← hz1, ← h]; exact hP
    have hD : va_D A (xX a k Bz Lz R0 T0 U0 V0) := by rw [← hz1, ← h]; exact hD
    subst hQ
    subst hAe
    exact r_i hx hb hr hlocks hz0 hP hD hS dX4_fit_60
  rw [f_X4_fit] at h
  obtain ⟨H, hH⟩ : ∃ H, H = s.heap := ⟨_, rfl⟩
  obtain ⟨locs, hlc⟩ : ∃ L : List Loc, L = [] := ⟨_, rfl⟩
  rw [← hH] at hP
  have hS : va_S A s.heap H locs := by rw [hH, hlc]; exact hS
  suffices hW9 : W p l e rm_X4_fit s m args below meth c H locs 0 0 Q (F0 m 0 ls []) by rw [hH, hlc] at hW9; exact hW9
  refine lv_iload_n hx hb dX4_fit_0 rfl (lv_at hl 1 rfl) ?_
  obtain ⟨r2, q2, h⟩ := b1_s h
  refine go_i (run_S (As := [.int p0]) (rest := []) ⟨hx, hb, hml, hown, hts⟩ hnw hK hP hD (fr_X_E a k B0 L0 R0 T0 U0 V0) (ks_X_E k) (c_X4_isRun l D H.size p0 r2 q2) (cwS 1 hts gX4_fit_X4_isRun rfl rfl rfl (by decide +kernel) ⟨Nat.le_of_ble_eq_true rfl, Nat.le_of_ble_eq_true rfl⟩) rfl hl.1 rfl (Nat.le_of_ble_eq_true rfl) dX4_fit_1 ⟨Nat.zero_le _, Nat.zero_le _⟩) hP hD hS hA (fr_X_E a k B0 L0 R0 T0 U0 V0) (fun H locs hP hD hS => ?_)
  refine lv_if_eq (tgt := 14) hx hb dX4_fit_4 (by decide) (fun c3 => ?_) (fun c3 => ?_)
  · have h := it_t c3 h
    refine lv_iconst (v := (-1 : Int32)) hx hb dX4_fit_14 (by decide) ?_
    have h := Option.some.inj h
    obtain ⟨hz0, h⟩ := Prod.mk.inj h
    obtain ⟨hz1, h⟩ := Prod.mk.inj h
    have hP : va_P D vwCl (xX a k Bz Lz R0 T0 U0 V0) H := by rw [← hz1, ← h]; exact hP
    have hD : va_D A (xX a k Bz Lz R0 T0 U0 V0) := by rw [← hz1, ← h]; exact hD
    subst hQ
    subst hAe
    exact r_i hx hb hr hlocks hz0 hP hD hS dX4_fit_15
  · have h := it_f c3 h
    refine lv_iload_n hx hb dX4_fit_7 rfl (lv_at hl 2 rfl) ?_
    obtain ⟨r4, q4, h⟩ := b1_s h
    refine go_i (run_S (As := [.int p1]) (rest := []) ⟨hx, hb, hml, hown, hts⟩ hnw hK hP hD (fr_X_E a k B0 L0 R0 T0 U0 V0) (ks_X_E k) (c_X4_isRun l D H.size p1 r4 q4) (cwS 1 hts gX4_fit_X4_isRun rfl rfl rfl (by decide +kernel) ⟨Nat.le_of_ble_eq_true rfl, Nat.le_of_ble_eq_true rfl⟩) rfl hl.1 rfl (Nat.le_of_ble_eq_true rfl) dX4_fit_8 ⟨Nat.zero_le _, Nat.zero_le _⟩) hP hD hS hA (fr_X_E a k B0 L0 R0 T0 U0 V0) (fun H locs hP hD hS => ?_)
    refine lv_if_ne (tgt := 16) hx hb dX4_fit_11 (by decide) (fun c5 => ?_) (fun c5 => ?_)
    · have h := it_f c5 h
      refine lv_aload_n hx hb dX4_fit_16 rfl (lv_at hl 0 rfl) ?_
      refine va_get (D := D) (ci := 4) (v := .ref (a 0)) (C := RX4) (T := TX4) (N := 8) hx hb hts hin4 hown hK hP 0 rfl rfl 0 (by decide) (hts (.fieldLink RX4 10 "BallastLine" "track" "LBallastLine$Track;") (List.mem_of_getElem? (i := 1) rfl)) (fun _ h9 => h9) rfl dX4_fit_17 ?_
      refine va_getN (host := RX4) (D := D) (ci := 1) (v := .int (T0 7 0)) (C := RX1) (T := TX1) (N := 8) hx hb hts hin1 hown hK hP 6 rfl rfl 7 (by decide) (va_Nw.use rfl (hnw.1 (RX4, 120, "BallastLine$Track", "size", "I", RX4) (List.mem_of_getElem? (i := 9) rfl))) (fun _ h9 => h9) rfl dX4_fit_20 ?_
      refine lv_bipush (v := (11 : Int32)) hx hb dX4_fit_23 (by decide) ?_
      refine lv_icmp_ge (tgt := 31) hx hb dX4_fit_25 (by decide) (fun c6 => ?_) (fun c6 => ?_)
      · have h := it_t c6 h
        refine lv_aload_n hx hb dX4_fit_31 rfl (lv_at hl 0 rfl) ?_
        refine va_get (D := D) (ci := 4) (v := .ref (a 11)) (C := RX4) (T := TX4) (N := 8) hx hb hts hin4 hown hK hP 0 rfl rfl 2 (by decide) (hts (.fieldLink RX4 26 "BallastLine" "runs" "LBallastLine$Runs;") (List.mem_of_getElem? (i := 2) rfl)) (fun _ h9 => h9) rfl dX4_fit_32 ?_
        refine va_getN (host := RX4) (D := D) (ci := 0) (v := .ref (a 19)) (C := RX0) (T := TX0) (N := 2) hx hb hts hin0 hown hK hP 14 rfl rfl 1 (by decide) (va_Nw.use rfl (hnw.1 (RX4, 152, "BallastLine$Runs", "there", "[Z", RX4) (List.mem_of_getElem? (i := 14) rfl))) (fun _ h9 => h9) rfl dX4_fit_35 ?_
        refine lv_iload_n hx hb dX4_fit_38 rfl (lv_at hl 1 rfl) ?_
        obtain ⟨g7, h⟩ := gd_s h
        refine va_zald hx hb hK hP 22 18 rfl rfl (inb_in g7) dX4_fit_39 ?_
        refine lv_if_eq (tgt := 55) hx hb dX4_fit_40 (by decide) (fun c8 => ?_) (fun c8 => ?_)
        · have h := it_t c8 h
          exact lb55  B0 L0 H locs hP hD hS ls (lv_sub hl [0] rfl) h
        · have h := it_f c8 h
          refine lv_aload_n hx hb dX4_fit_43 rfl (lv_at hl 0 rfl) ?_
          refine va_get (D := D) (ci := 4) (v := .ref (a 11)) (C := RX4) (T := TX4) (N := 8) hx hb hts hin4 hown hK hP 0 rfl rfl 2 (by decide) (hts (.fieldLink RX4 26 "BallastLine" "runs" "LBallastLine$Runs;") (List.mem_of_getElem? (i := 2) rfl)) (fun _ h9 => h9) rfl dX4_fit_44 ?_
          refine va_getN (host := RX4) (D := D) (ci := 0) (v := .ref (a 19)) (C := RX0) (T := TX0) (N := 2) hx hb hts hin0 hown hK hP 14 rfl rfl 1 (by decide) (va_Nw.use rfl (hnw.1 (RX4, 152, "BallastLine$Runs", "there", "[Z", RX4) (List.mem_of_getElem? (i := 14) rfl))) (fun _ h9 => h9) rfl dX4_fit_47 ?_
          refine lv_iload_n hx hb dX4_fit_50 rfl (lv_at hl 2 rfl) ?_
          obtain ⟨g9, h⟩ := gd_s h
          refine va_zald hx hb hK hP 22 18 rfl rfl (inb_in g9) dX4_fit_51 ?_
          refine lv_if_ne (tgt := 61) hx hb dX4_fit_52 (by decide) (fun c10 => ?_) (fun c10 => ?_)
          · have h := it_f c10 h
            refine lv_aload_n hx hb dX4_fit_61 rfl (lv_at hl 0 rfl) ?_
            refine va_get (D := D) (ci := 4) (v := .ref (a 11)) (C := RX4) (T := TX4) (N := 8) hx hb hts hin4 hown hK hP 0 rfl rfl 2 (by decide) (hts (.fieldLink RX4 26 "BallastLine" "runs" "LBallastLine$Runs;") (List.mem_of_getElem? (i := 2) rfl)) (fun _ h9 => h9) rfl dX4_fit_62 ?_
            refine lv_iload_n hx hb dX4_fit_65 rfl (lv_at hl 1 rfl) ?_
            refine lv_iload_n hx hb dX4_fit_66 rfl (lv_at hl 2 rfl) ?_
            refine lv_aload_n hx hb dX4_fit_67 rfl (lv_at hl 0 rfl) ?_
            refine va_get (D := D) (ci := 4) (v := .ref (a 0)) (C := RX4) (T := TX4) (N := 8) hx hb hts hin4 hown hK hP 0 rfl rfl 0 (by decide) (hts (.fieldLink RX4 10 "BallastLine" "track" "LBallastLine$Track;") (List.mem_of_getElem? (i := 1) rfl)) (fun _ h9 => h9) rfl dX4_fit_68 ?_
            refine va_getN (host := RX4) (D := D) (ci := 1) (v := .int (T0 7 0)) (C := RX1) (T := TX1) (N := 8) hx hb hts hin1 hown hK hP 6 rfl rfl 7 (by decide) (va_Nw.use rfl (hnw.1 (RX4, 120, "BallastLine$Track", "size", "I", RX4) (List.mem_of_getElem? (i := 9) rfl))) (fun _ h9 => h9) rfl dX4_fit_71 ?_
            obtain ⟨r11, q11, h⟩ := b1_s h
            refine go_i (run_VN (As := [.int p0, .int p1, .int (T0 7 0)]) (rest := []) ⟨hx, hb, hml, hown, hts⟩ hnw hK hP hD (fr_X_U a k B0 L0 R0 T0 U0 V0 U0) (ks_X_U k) (c_X0_bestShift l D a k H.size U0 p0 p1 (T0 7 0) r11 q11) ⟨va_cnB 3 hts ggX4_fit_X0_bestShift rfl rfl rfl (hnw.2 (RX4, 168, yX0_bestShift, RX4) (List.mem_of_getElem? (i := 24) rfl)) (hts (.initialized RX0) (List.mem_of_getElem? (i := 17) rfl)) (by decide +kernel) ⟨Nat.le_of_ble_eq_true rfl, Nat.le_of_ble_eq_true rfl⟩, (hts (.instanceMethod yX0_bestShift) (List.mem_of_getElem? (i := 16) rfl)), (hts (.selects RX0 yX0_bestShift yX0_bestShift) (List.mem_of_getElem? (i := 18) rfl))⟩ (rcv_U a k U0) rfl hl.1 rfl (Nat.le_of_ble_eq_true rfl) dX4_fit_74 ⟨Nat.zero_le _, Nat.zero_le _⟩) hP hD hS hA (fr_X_U a k B0 L0 R0 T0 U0 V0 U0) (fun H locs hP hD hS => ?_)
            refine lv_istore_n (lv' := [(3, .int r11), (0, .ref (a 26)), (1, .int p0), (2, .int p1)]) hx hb dX4_fit_77 rfl hl (by decide) rfl (fun ls hl => ?_)
            refine lv_aload_n hx hb dX4_fit_78 rfl (lv_at hl 1 rfl) ?_
            refine lv_aload_n hx hb dX4_fit_79 rfl (lv_at hl 1 rfl) ?_
            refine va_get (D := D) (ci := 4) (v := .ref (a 11)) (C := RX4) (T := TX4) (N := 8) hx hb hts hin4 hown hK hP 0 rfl rfl 2 (by decide) (hts (.fieldLink RX4 26 "BallastLine" "runs" "LBallastLine$Runs;") (List.mem_of_getElem? (i := 2) rfl)) (fun _ h9 => h9) rfl dX4_fit_80 ?_
            refine lv_iload_n hx hb dX4_fit_83 rfl (lv_at hl 2 rfl) ?_
            refine lv_iload_n hx hb dX4_fit_84 rfl (lv_at hl 3 rfl) ?_
            refine lv_iload_n hx hb dX4_fit_85 rfl (lv_at hl 0 rfl) ?_
            refine lv_aload_n hx hb dX4_fit_86 rfl (lv_at hl 1 rfl) ?_
            refine va_get (D := D) (ci := 4) (v := .ref (a 0)) (C := RX4) (T := TX4) (N := 8) hx hb hts hin4 hown hK hP 0 rfl rfl 0 (by decide) (hts (.fieldLink RX4 10 "BallastLine" "track" "LBallastLine$Track;") (List.mem_of_getElem? (i := 1) rfl)) (fun _ h9 => h9) rfl dX4_fit_87 ?_
            refine va_getN (host := RX4) (D := D) (ci := 1) (v := .int (T0 7 0)) (C := RX1) (T := TX1) (N := 8) hx hb hts hin1 hown hK hP 6 rfl rfl 7 (by decide) (va_Nw.use rfl (hnw.1 (RX4, 120, "BallastLine$Track", "size", "I", RX4) (List.mem_of_getElem? (i := 9) rfl))) (fun _ h9 => h9) rfl dX4_fit_90 ?_
            obtain ⟨r12, q12, h⟩ := b1_s h
            refine go_l (run_VN (As := [.int p0, .int p1, .int r11, .int (T0 7 0)]) (rest := [.ref (a 26)]) ⟨hx, hb, hml, hown, hts⟩ hnw hK hP hD (fr_X_U a k B0 L0 R0 T0 U0 V0 U0) (ks_X_U k) (c_X0_squaresApart l D a k H.size U0 p0 p1 r11 (T0 7 0) r12 q12) ⟨va_cnB 4 hts ggX4_fit_X0_squaresApart rfl rfl rfl (hnw.2 (RX4, 172, yX0_squaresApart, RX4) (List.mem_of_getElem? (i := 25) rfl)) (hts (.initialized RX0) (List.mem_of_getElem? (i := 17) rfl)) (by decide +kernel) ⟨Nat.le_of_ble_eq_true rfl, Nat.le_of_ble_eq_true rfl⟩, (hts (.instanceMethod yX0_squaresApart) (List.mem_of_getElem? (i := 21) rfl)), (hts (.selects RX0 yX0_squaresApart yX0_squaresApart) (List.mem_of_getElem? (i := 22) rfl))⟩ (rcv_U a k U0) rfl hl.1 rfl (Nat.le_of_ble_eq_true rfl) dX4_fit_93 ⟨Nat.zero_le _, Nat.zero_le _⟩) hP hD hS hA (fr_X_U a k B0 L0 R0 T0 U0 V0 U0) (fun H locs hP hD hS => ?_)
            obtain ⟨r13, L_13, q13, h⟩ := b2_s h
            refine go_i (run_V (As := [.long r12]) (rest := []) ⟨hx, hb, hml, hown, hts⟩ hnw hK hP hD (fr_X_X a k B0 L0 R0 T0 U0 V0 B0 L_13 R0 T0 U0 V0) (ks_X_X k) (c_X4_tell l D a k H.size B0 L0 R0 T0 U0 V0 r12 r13 L_13 q13) (cwV 1 hts gX4_fit_X4_tell rfl rfl rfl (by decide +kernel) ⟨Nat.le_of_ble_eq_true rfl, Nat.le_of_ble_eq_true rfl⟩) (rcv_X a k B0 L0 R0 T0 U0 V0) rfl hl.1 rfl (Nat.le_of_ble_eq_true rfl) dX4_fit_96 ⟨Nat.zero_le _, Nat.zero_le _⟩) hP hD hS hA (fr_X_X a k B0 L0 R0 T0 U0 V0 B0 L_13 R0 T0 U0 V0) (fun H locs hP hD hS => ?_)
            refine lv_pop hx hb dX4_fit_99 rfl ?_
            refine lv_bipush (v := (100 : Int32)) hx hb dX4_fit_100 (by decide) ?_
            refine lv_iload_n hx hb dX4_fit_102 rfl (lv_at hl 0 rfl) ?_
            refine lv_iadd hx hb dX4_fit_103 ?_
            have h := Option.some.inj h
            obtain ⟨hz0, h⟩ := Prod.mk.inj h
            obtain ⟨hz1, h⟩ := Prod.mk.inj h
            have hP : va_P D vwCl (xX a k Bz Lz R0 T0 U0 V0) H := by rw [← hz1, ← h]; exact hP
            have hD : va_D A (xX a k Bz Lz R0 T0 U0 V0) := by rw [← hz1, ← h]; exact hD
            subst hQ
            subst hAe
            exact r_i hx hb hr hlocks hz0 hP hD hS dX4_fit_104
          · have h := it_t c10 h
            exact lb55  B0 L0 H locs hP hD hS ls (lv_sub hl [0] rfl) h
      · have h := it_f c6 h
        refine lv_bipush (v := (-4 : Int32)) hx hb dX4_fit_28 (by decide) ?_
        have h := Option.some.inj h
        obtain ⟨hz0, h⟩ := Prod.mk.inj h
        obtain ⟨hz1, h⟩ := Prod.mk.inj h
        have hP : va_P D vwCl (xX a k Bz Lz R0 T0 U0 V0) H := by rw [← hz1, ← h]; exact hP
        have hD : va_D A (xX a k Bz Lz R0 T0 U0 V0) := by rw [← hz1, ← h]; exact hD
        subst hQ
        subst hAe
        exact r_i hx hb hr hlocks hz0 hP hD hS dX4_fit_30
    · have h := it_t c5 h
      refine lv_iconst (v := (-1 : Int32)) hx hb dX4_fit_14 (by decide) ?_
      have h := Option.some.inj h
      obtain ⟨hz0, h⟩ := Prod.mk.inj h
      obtain ⟨hz1, h⟩ := Prod.mk.inj h
      have hP : va_P D vwCl (xX a k Bz Lz R0 T0 U0 V0) H := by rw [← hz1, ← h]; exact hP
      have hD : va_D A (xX a k Bz Lz R0 T0 U0 V0) := by rw [← hz1, ← h]; exact hD
      subst hQ
      subst hAe
      exact r_i hx hb hr hlocks hz0 hP hD hS dX4_fit_15
def f_X4_worst (B0 : Nat → Nat → Int32) (L0 : Int64) (T0 : Nat → Nat → Int32) (U0 : Nat → Nat → Int32) (p0 : Int32) : Option (Int32 × (Nat → Nat → Int32) × Int64) := b1 (f_X4_isRun p0) (fun r1 => if r1 = (0 : Int32) then (some ((-1 : Int32), B0, L0)) else (gd (inb p0 6) (if (U0 6 (Int32.toNatClampNeg p0)) = (0 : Int32) then (b2 (f_X4_found B0 (1 : Int32)) (fun r8 (B_8 : Nat → Nat → Int32) => some (r8, B_8, L0))) else (b1 (f_X0_steepest U0 p0 (T0 7 0)) (fun r5 => b1 (f_X0_stepAfter U0 p0 r5) (fun r6 => b2 (f_X4_tell L0 r6) (fun r7 (L_7 : Int64) => some (r5, B0, L_7))))))))
abbrev rm_X4_worst : Room := { frames := 3, cells := 0, slots := 0, locals := 68 }
set_option maxHeartbeats 4000000 in
set_option maxRecDepth 100000 in
theorem c_X4_worst (l : Launch) (D : va_G) (a : Nat → Nat) (k : Nat → ClassId) (sz : Nat) (B0 : Nat → Nat → Int32) (L0 : Int64) (R0 : Nat → Nat → Int32) (T0 : Nat → Nat → Int32) (U0 : Nat → Nat → Int32) (V0 : Nat → Nat → Int32) (p0 : Int32) (r : Int32) (Bz : (Nat → Nat → Int32)) (Lz : Int64) (h : f_X4_worst B0 L0 T0 U0 p0 = some (r, Bz, Lz)) : Met l yX4_worst wsX4_worst rm_X4_worst (mPc D [.ref (a 26), .int p0] (xX a k B0 L0 R0 T0 U0 V0) (tX k) sz) (mQi D (xX a k B0 L0 R0 T0 U0 V0) (xX a k Bz Lz R0 T0 U0 V0) sz r) 0 0 (va_A (xX a k B0 L0 R0 T0 U0 V0) sz) := by
  refine mk_met (cc := cX4_worst) (maxL := 3) (ret := (some .int)) (by decide) rfl (Nat.le_of_ble_eq_true rfl) ?_
  intro p e s m below meth c hx hb hr hml hts hown hmn hlocks hnw hsz hK hP hD hS hA ls hl
  obtain ⟨A, hAe⟩ : ∃ A, A = va_A (xX a k B0 L0 R0 T0 U0 V0) sz := ⟨_, rfl⟩
  rw [← hAe] at hD hS hA
  generalize hargs : List.toArray ([.ref (a 26), .int p0] : List Value) = args at hts ⊢
  generalize hQ : MQ below (mQi D (xX a k B0 L0 R0 T0 U0 V0) (xX a k Bz Lz R0 T0 U0 V0) sz r) args s 0 0 (va_A (xX a k B0 L0 R0 T0 U0 V0) sz) = Q
  have hl : lv_has ls 3 [(0, .ref (a 26)), (1, .int p0)] := hl
  have hin0 : ∀ w ∈ wsX00, w ∈ wsX4_worst := fun w h => List.mem_cons_of_mem _ (List.mem_append_left _ (List.mem_append_right _ h))
  have hin1 : ∀ w ∈ wsX10, w ∈ wsX4_worst := fun w h => List.mem_cons_of_mem _ (List.mem_append_right _ h)
  have hin4 : ∀ w ∈ wsX40, w ∈ wsX4_worst := fun w h => List.mem_cons_of_mem _ (List.mem_append_left _ (List.mem_append_left _ (List.mem_append_right _ h)))
  rw [f_X4_worst] at h
  obtain ⟨H, hH⟩ : ∃ H, H = s.heap := ⟨_, rfl⟩
  obtain ⟨locs, hlc⟩ : ∃ L : List Loc, L = [] := ⟨_, rfl⟩
  rw [← hH] at hP
  have hS : va_S A s.heap H locs := by rw [hH, hlc]; exact hS
  suffices hW9 : W p l e rm_X4_worst s m args below meth c H locs 0 0 Q (F0 m 0 ls []) by rw [hH, hlc] at hW9; exact hW9
  refine lv_iload_n hx hb dX4_worst_0 rfl (lv_at hl 1 rfl) ?_
  obtain ⟨r1, q1, h⟩ := b1_s h
  refine go_i (run_S (As := [.int p0]) (rest := []) ⟨hx, hb, hml, hown, hts⟩ hnw hK hP hD (fr_X_E a k B0 L0 R0 T0 U0 V0) (ks_X_E k) (c_X4_isRun l D H.size p0 r1 q1) (cwS 1 hts gX4_worst_X4_isRun rfl rfl rfl (by decide +kernel) ⟨Nat.le_of_ble_eq_true rfl, Nat.le_of_ble_eq_true rfl⟩) rfl hl.1 rfl (Nat.le_of_ble_eq_true rfl) dX4_worst_1 ⟨Nat.zero_le _, Nat.zero_le _⟩) hP hD hS hA (fr_X_E a k B0 L0 R0 T0 U0 V0) (fun H locs hP hD hS => ?_)
  refine lv_if_ne (tgt := 9) hx hb dX4_worst_4 (by decide) (fun c2 => ?_) (fun c2 => ?_)
  · have h := it_f c2 h
    refine lv_aload_n hx hb dX4_worst_9 rfl (lv_at hl 0 rfl) ?_
    refine va_get (D := D) (ci := 4) (v := .ref (a 11)) (C := RX4) (T := TX4) (N := 8) hx hb hts hin4 hown hK hP 0 rfl rfl 2 (by decide) (hts (.fieldLink RX4 26 "BallastLine" "runs" "LBallastLine$Runs;") (List.mem_of_getElem? (i := 1) rfl)) (fun _ h9 => h9) rfl dX4_worst_10 ?_
    refine va_getN (host := RX4) (D := D) (ci := 0) (v := .ref (a 19)) (C := RX0) (T := TX0) (N := 2) hx hb hts hin0 hown hK hP 14 rfl rfl 1 (by decide) (va_Nw.use rfl (hnw.1 (RX4, 152, "BallastLine$Runs", "there", "[Z", RX4) (List.mem_of_getElem? (i := 14) rfl))) (fun _ h9 => h9) rfl dX4_worst_13 ?_
    refine lv_iload_n hx hb dX4_worst_16 rfl (lv_at hl 1 rfl) ?_
    obtain ⟨g3, h⟩ := gd_s h
    refine va_zald hx hb hK hP 22 18 rfl rfl (inb_in g3) dX4_worst_17 ?_
    refine lv_if_ne (tgt := 27) hx hb dX4_worst_18 (by decide) (fun c4 => ?_) (fun c4 => ?_)
    · have h := it_f c4 h
      refine lv_aload_n hx hb dX4_worst_27 rfl (lv_at hl 0 rfl) ?_
      refine va_get (D := D) (ci := 4) (v := .ref (a 11)) (C := RX4) (T := TX4) (N := 8) hx hb hts hin4 hown hK hP 0 rfl rfl 2 (by decide) (hts (.fieldLink RX4 26 "BallastLine" "runs" "LBallastLine$Runs;") (List.mem_of_getElem? (i := 1) rfl)) (fun _ h9 => h9) rfl dX4_worst_28 ?_
      refine lv_iload_n hx hb dX4_worst_31 rfl (lv_at hl 1 rfl) ?_
      refine lv_aload_n hx hb dX4_worst_32 rfl (lv_at hl 0 rfl) ?_
      refine va_get (D := D) (ci := 4) (v := .ref (a 0)) (C := RX4) (T := TX4) (N := 8) hx hb hts hin4 hown hK hP 0 rfl rfl 0 (by decide) (hts (.fieldLink RX4 10 "BallastLine" "track" "LBallastLine$Track;") (List.mem_of_getElem? (i := 2) rfl)) (fun _ h9 => h9) rfl dX4_worst_33 ?_
      refine va_getN (host := RX4) (D := D) (ci := 1) (v := .int (T0 7 0)) (C := RX1) (T := TX1) (N := 8) hx hb hts hin1 hown hK hP 6 rfl rfl 7 (by decide) (va_Nw.use rfl (hnw.1 (RX4, 120, "BallastLine$Track", "size", "I", RX4) (List.mem_of_getElem? (i := 9) rfl))) (fun _ h9 => h9) rfl dX4_worst_36 ?_
      obtain ⟨r5, q5, h⟩ := b1_s h
      refine go_i (run_VN (As := [.int p0, .int (T0 7 0)]) (rest := []) ⟨hx, hb, hml, hown, hts⟩ hnw hK hP hD (fr_X_U a k B0 L0 R0 T0 U0 V0 U0) (ks_X_U k) (c_X0_steepest l D a k H.size U0 p0 (T0 7 0) r5 q5) ⟨va_cnB 2 hts ggX4_worst_X0_steepest rfl rfl rfl (hnw.2 (RX4, 176, yX0_steepest, RX4) (List.mem_of_getElem? (i := 26) rfl)) (hts (.initialized RX0) (List.mem_of_getElem? (i := 17) rfl)) (by decide +kernel) ⟨Nat.le_of_ble_eq_true rfl, Nat.le_of_ble_eq_true rfl⟩, (hts (.instanceMethod yX0_steepest) (List.mem_of_getElem? (i := 16) rfl)), (hts (.selects RX0 yX0_steepest yX0_steepest) (List.mem_of_getElem? (i := 18) rfl))⟩ (rcv_U a k U0) rfl hl.1 rfl (Nat.le_of_ble_eq_true rfl) dX4_worst_39 ⟨Nat.zero_le _, Nat.zero_le _⟩) hP hD hS hA (fr_X_U a k B0 L0 R0 T0 U0 V0 U0) (fun H locs hP hD hS => ?_)
      refine lv_istore_n (lv' := [(2, .int r5), (0, .ref (a 26)), (1, .int p0)]) hx hb dX4_worst_42 rfl hl (by decide) rfl (fun ls hl => ?_)
      refine lv_aload_n hx hb dX4_worst_43 rfl (lv_at hl 1 rfl) ?_
      refine lv_aload_n hx hb dX4_worst_44 rfl (lv_at hl 1 rfl) ?_
      refine va_get (D := D) (ci := 4) (v := .ref (a 11)) (C := RX4) (T := TX4) (N := 8) hx hb hts hin4 hown hK hP 0 rfl rfl 2 (by decide) (hts (.fieldLink RX4 26 "BallastLine" "runs" "LBallastLine$Runs;") (List.mem_of_getElem? (i := 1) rfl)) (fun _ h9 => h9) rfl dX4_worst_45 ?_
      refine lv_iload_n hx hb dX4_worst_48 rfl (lv_at hl 2 rfl) ?_
      refine lv_iload_n hx hb dX4_worst_49 rfl (lv_at hl 0 rfl) ?_
      obtain ⟨r6, q6, h⟩ := b1_s h
      refine go_l (run_VN (As := [.int p0, .int r5]) (rest := [.ref (a 26)]) ⟨hx, hb, hml, hown, hts⟩ hnw hK hP hD (fr_X_U a k B0 L0 R0 T0 U0 V0 U0) (ks_X_U k) (c_X0_stepAfter l D a k H.size U0 p0 r5 r6 q6) ⟨va_cnB 2 hts ggX4_worst_X0_stepAfter rfl rfl rfl (hnw.2 (RX4, 179, yX0_stepAfter, RX4) (List.mem_of_getElem? (i := 27) rfl)) (hts (.initialized RX0) (List.mem_of_getElem? (i := 17) rfl)) (by decide +kernel) ⟨Nat.le_of_ble_eq_true rfl, Nat.le_of_ble_eq_true rfl⟩, (hts (.instanceMethod yX0_stepAfter) (List.mem_of_getElem? (i := 21) rfl)), (hts (.selects RX0 yX0_stepAfter yX0_stepAfter) (List.mem_of_getElem? (i := 22) rfl))⟩ (rcv_U a k U0) rfl hl.1 rfl (Nat.le_of_ble_eq_true rfl) dX4_worst_50 ⟨Nat.zero_le _, Nat.zero_le _⟩) hP hD hS hA (fr_X_U a k B0 L0 R0 T0 U0 V0 U0) (fun H locs hP hD hS => ?_)
      obtain ⟨r7, L_7, q7, h⟩ := b2_s h
      refine go_i (run_V (As := [.long r6]) (rest := []) ⟨hx, hb, hml, hown, hts⟩ hnw hK hP hD (fr_X_X a k B0 L0 R0 T0 U0 V0 B0 L_7 R0 T0 U0 V0) (ks_X_X k) (c_X4_tell l D a k H.size B0 L0 R0 T0 U0 V0 r6 r7 L_7 q7) (cwV 1 hts gX4_worst_X4_tell rfl rfl rfl (by decide +kernel) ⟨Nat.le_of_ble_eq_true rfl, Nat.le_of_ble_eq_true rfl⟩) (rcv_X a k B0 L0 R0 T0 U0 V0) rfl hl.1 rfl (Nat.le_of_ble_eq_true rfl) dX4_worst_53 ⟨Nat.zero_le _, Nat.zero_le _⟩) hP hD hS hA (fr_X_X a k B0 L0 R0 T0 U0 V0 B0 L_7 R0 T0 U0 V0) (fun H locs hP hD hS => ?_)
      refine lv_pop hx hb dX4_worst_56 rfl ?_
      refine lv_iload_n hx hb dX4_worst_57 rfl (lv_at hl 0 rfl) ?_
      have h := Option.some.inj h
      obtain ⟨hz0, h⟩ := Prod.mk.inj h
      obtain ⟨hz1, h⟩ := Prod.mk.inj h
      have hP : va_P D vwCl (xX a k Bz Lz R0 T0 U0 V0) H := by rw [← hz1, ← h]; exact hP
      have hD : va_D A (xX a k Bz Lz R0 T0 U0 V0) := by rw [← hz1, ← h]; exact hD
      subst hQ
      subst hAe
      exact r_i hx hb hr hlocks hz0 hP hD hS dX4_worst_58
    · have h := it_t c4 h
      refine lv_aload_n hx hb dX4_worst_21 rfl (lv_at hl 0 rfl) ?_
      refine lv_iconst (v := (1 : Int32)) hx hb dX4_worst_22 (by decide) ?_
      obtain ⟨r8, B_8, q8, h⟩ := b2_s h
      refine go_i (run_V (As := [.int (1 : Int32)]) (rest := []) ⟨hx, hb, hml, hown, hts⟩ hnw hK hP hD (fr_X_X a k B0 L0 R0 T0 U0 V0 B_8 L0 R0 T0 U0 V0) (ks_X_X k) (c_X4_found l D a k H.size B0 L0 R0 T0 U0 V0 (1 : Int32) r8 B_8 q8) (cwV 1 hts gX4_worst_X4_found rfl rfl rfl (by decide +kernel) ⟨Nat.le_of_ble_eq_true rfl, Nat.le_of_ble_eq_true rfl⟩) (rcv_X a k B0 L0 R0 T0 U0 V0) rfl hl.1 rfl (Nat.le_of_ble_eq_true rfl) dX4_worst_23 ⟨Nat.zero_le _, Nat.zero_le _⟩) hP hD hS hA (fr_X_X a k B0 L0 R0 T0 U0 V0 B_8 L0 R0 T0 U0 V0) (fun H locs hP hD hS => ?_)
      have h := Option.some.inj h
      obtain ⟨hz0, h⟩ := Prod.mk.inj h
      obtain ⟨hz1, h⟩ := Prod.mk.inj h
      have hP : va_P D vwCl (xX a k Bz Lz R0 T0 U0 V0) H := by rw [← hz1, ← h]; exact hP
      have hD : va_D A (xX a k Bz Lz R0 T0 U0 V0) := by rw [← hz1, ← h]; exact hD
      subst hQ
      subst hAe
      exact r_i hx hb hr hlocks hz0 hP hD hS dX4_worst_26
  · have h := it_t c2 h
    refine lv_iconst (v := (-1 : Int32)) hx hb dX4_worst_7 (by decide) ?_
    have h := Option.some.inj h
    obtain ⟨hz0, h⟩ := Prod.mk.inj h
    obtain ⟨hz1, h⟩ := Prod.mk.inj h
    have hP : va_P D vwCl (xX a k Bz Lz R0 T0 U0 V0) H := by rw [← hz1, ← h]; exact hP
    have hD : va_D A (xX a k Bz Lz R0 T0 U0 V0) := by rw [← hz1, ← h]; exact hD
    subst hQ
    subst hAe
    exact r_i hx hb hr hlocks hz0 hP hD hS dX4_worst_8
def f_X4_isStretch  (p0 : Int32) : Option (Int32) := b1 (f_X4_within p0 (0 : Int32) (3 : Int32)) (fun r1 => gd (isb r1) (some r1))
abbrev rm_X4_isStretch : Room := { frames := 1, cells := 0, slots := 0, locals := 22 }
set_option maxHeartbeats 4000000 in
set_option maxRecDepth 100000 in
theorem c_X4_isStretch (l : Launch) (D : va_G) (sz : Nat)  (p0 : Int32) (r : Int32) (h : f_X4_isStretch p0 = some r) : Met l yX4_isStretch wsX4_isStretch rm_X4_isStretch (mPc D [.int p0] ([] : va_W) ([] : List (ClassId × FieldType)) sz) (mQi D ([] : va_W) ([] : va_W) sz r) 0 0 (va_A ([] : va_W) sz) := by
  refine mk_met (cc := cX4_isStretch) (maxL := 1) (ret := (some .boolean)) (by decide) rfl (Nat.le_of_ble_eq_true rfl) ?_
  intro p e s m below meth c hx hb hr hml hts hown hmn hlocks hnw hsz hK hP hD hS hA ls hl
  obtain ⟨A, hAe⟩ : ∃ A, A = va_A ([] : va_W) sz := ⟨_, rfl⟩
  rw [← hAe] at hD hS hA
  generalize hargs : List.toArray ([.int p0] : List Value) = args at hts ⊢
  generalize hQ : MQ below (mQi D ([] : va_W) ([] : va_W) sz r) args s 0 0 (va_A ([] : va_W) sz) = Q
  have hl : lv_has ls 1 [(0, .int p0)] := hl
  rw [f_X4_isStretch] at h
  obtain ⟨H, hH⟩ : ∃ H, H = s.heap := ⟨_, rfl⟩
  obtain ⟨locs, hlc⟩ : ∃ L : List Loc, L = [] := ⟨_, rfl⟩
  rw [← hH] at hP
  have hS : va_S A s.heap H locs := by rw [hH, hlc]; exact hS
  suffices hW9 : W p l e rm_X4_isStretch s m args below meth c H locs 0 0 Q (F0 m 0 ls []) by rw [hH, hlc] at hW9; exact hW9
  refine lv_iload_n hx hb dX4_isStretch_0 rfl (lv_at hl 0 rfl) ?_
  refine lv_iconst (v := (0 : Int32)) hx hb dX4_isStretch_1 (by decide) ?_
  refine lv_iconst (v := (3 : Int32)) hx hb dX4_isStretch_2 (by decide) ?_
  obtain ⟨r1, q1, h⟩ := b1_s h
  refine go_i (run_S (As := [.int p0, .int (0 : Int32), .int (3 : Int32)]) (rest := []) ⟨hx, hb, hml, hown, hts⟩ hnw hK hP hD (fr_E_E ) (ks_E_E) (c_X4_within l D H.size p0 (0 : Int32) (3 : Int32) r1 q1) (cwS 3 hts gX4_isStretch_X4_within rfl rfl rfl (by decide +kernel) ⟨Nat.le_of_ble_eq_true rfl, Nat.le_of_ble_eq_true rfl⟩) rfl hl.1 rfl (Nat.le_of_ble_eq_true rfl) dX4_isStretch_3 ⟨Nat.zero_le _, Nat.zero_le _⟩) hP hD hS hA (fr_E_E ) (fun H locs hP hD hS => ?_)
  obtain ⟨g2, h⟩ := gd_s h
  have h := Option.some.inj h
  subst hQ
  subst hAe
  exact r_z hx hb hr (isb_s g2) hlocks h hP hD hS dX4_isStretch_6
def f_X4_pull (B0 : Nat → Nat → Int32) (p0 : Int32) (p1 : Int32) : Option (Int32 × (Nat → Nat → Int32)) := b1 (f_X4_isStretch p0) (fun r1 => if r1 = (0 : Int32) then (some ((-1 : Int32), B0)) else (b1 (f_X4_within p1 (-500 : Int32) (500 : Int32)) (fun r3 => if r3 = (0 : Int32) then (some ((-1 : Int32), B0)) else (gd (inb p0 4) (gd (inb p0 4) (ltt (st B0 4 (Int32.toNatClampNeg p0) ((B0 4 (Int32.toNatClampNeg p0)) + p1)) (fun (B_7 : Nat → Nat → Int32) => some ((1 : Int32), B_7))))))))
abbrev rm_X4_pull : Room := { frames := 2, cells := 0, slots := 0, locals := 42 }
set_option maxHeartbeats 4000000 in
set_option maxRecDepth 100000 in
theorem c_X4_pull (l : Launch) (D : va_G) (a : Nat → Nat) (k : Nat → ClassId) (sz : Nat) (B0 : Nat → Nat → Int32) (L0 : Int64) (R0 : Nat → Nat → Int32) (T0 : Nat → Nat → Int32) (U0 : Nat → Nat → Int32) (V0 : Nat → Nat → Int32) (p0 : Int32) (p1 : Int32) (r : Int32) (Bz : (Nat → Nat → Int32)) (h : f_X4_pull B0 p0 p1 = some (r, Bz)) : Met l yX4_pull wsX4_pull rm_X4_pull (mPc D [.ref (a 26), .int p0, .int p1] (xX a k B0 L0 R0 T0 U0 V0) (tX k) sz) (mQi D (xX a k B0 L0 R0 T0 U0 V0) (xX a k Bz L0 R0 T0 U0 V0) sz r) 0 0 (va_A (xX a k B0 L0 R0 T0 U0 V0) sz) := by
  refine mk_met (cc := cX4_pull) (maxL := 3) (ret := (some .int)) (by decide) rfl (Nat.le_of_ble_eq_true rfl) ?_
  intro p e s m below meth c hx hb hr hml hts hown hmn hlocks hnw hsz hK hP hD hS hA ls hl
  obtain ⟨A, hAe⟩ : ∃ A, A = va_A (xX a k B0 L0 R0 T0 U0 V0) sz := ⟨_, rfl⟩
  rw [← hAe] at hD hS hA
  generalize hargs : List.toArray ([.ref (a 26), .int p0, .int p1] : List Value) = args at hts ⊢
  generalize hQ : MQ below (mQi D (xX a k B0 L0 R0 T0 U0 V0) (xX a k Bz L0 R0 T0 U0 V0) sz r) args s 0 0 (va_A (xX a k B0 L0 R0 T0 U0 V0) sz) = Q
  have hl : lv_has ls 3 [(0, .ref (a 26)), (1, .int p0), (2, .int p1)] := hl
  have hin4 : ∀ w ∈ wsX40, w ∈ wsX4_pull := fun w h => List.mem_cons_of_mem _ (List.mem_append_right _ h)
  rw [f_X4_pull] at h
  obtain ⟨H, hH⟩ : ∃ H, H = s.heap := ⟨_, rfl⟩
  obtain ⟨locs, hlc⟩ : ∃ L : List Loc, L = [] := ⟨_, rfl⟩
  rw [← hH] at hP
  have hS : va_S A s.heap H locs := by rw [hH, hlc]; exact hS
  suffices hW9 : W p l e rm_X4_pull s m args below meth c H locs 0 0 Q (F0 m 0 ls []) by rw [hH, hlc] at hW9; exact hW9
  refine lv_iload_n hx hb dX4_pull_0 rfl (lv_at hl 1 rfl) ?_
  obtain ⟨r1, q1, h⟩ := b1_s h
  refine go_i (run_S (As := [.int p0]) (rest := []) ⟨hx, hb, hml, hown, hts⟩ hnw hK hP hD (fr_X_E a k B0 L0 R0 T0 U0 V0) (ks_X_E k) (c_X4_isStretch l D H.size p0 r1 q1) (cwS 1 hts gX4_pull_X4_isStretch rfl rfl rfl (by decide +kernel) ⟨Nat.le_of_ble_eq_true rfl, Nat.le_of_ble_eq_true rfl⟩) rfl hl.1 rfl (Nat.le_of_ble_eq_true rfl) dX4_pull_1 ⟨Nat.zero_le _, Nat.zero_le _⟩) hP hD hS hA (fr_X_E a k B0 L0 R0 T0 U0 V0) (fun H locs hP hD hS => ?_)
  refine lv_if_eq (tgt := 20) hx hb dX4_pull_4 (by decide) (fun c2 => ?_) (fun c2 => ?_)
  · have h := it_t c2 h
    refine lv_iconst (v := (-1 : Int32)) hx hb dX4_pull_20 (by decide) ?_
    have h := Option.some.inj h
    obtain ⟨hz0, h⟩ := Prod.mk.inj h
    have hP : va_P D vwCl (xX a k Bz L0 R0 T0 U0 V0) H := by rw [← h]; exact hP
    have hD : va_D A (xX a k Bz L0 R0 T0 U0 V0) := by rw [← h]; exact hD
    subst hQ
    subst hAe
    exact r_i hx hb hr hlocks hz0 hP hD hS dX4_pull_21
  · have h := it_f c2 h
    refine lv_iload_n hx hb dX4_pull_7 rfl (lv_at hl 2 rfl) ?_
    refine lv_sipush (v := (-500 : Int32)) hx hb dX4_pull_8 (by decide) ?_
    refine lv_sipush (v := (500 : Int32)) hx hb dX4_pull_11 (by decide) ?_
    obtain ⟨r3, q3, h⟩ := b1_s h
    refine go_i (run_S (As := [.int p1, .int (-500 : Int32), .int (500 : Int32)]) (rest := []) ⟨hx, hb, hml, hown, hts⟩ hnw hK hP hD (fr_X_E a k B0 L0 R0 T0 U0 V0) (ks_X_E k) (c_X4_within l D H.size p1 (-500 : Int32) (500 : Int32) r3 q3) (cwS 3 hts gX4_pull_X4_within rfl rfl rfl (by decide +kernel) ⟨Nat.le_of_ble_eq_true rfl, Nat.le_of_ble_eq_true rfl⟩) rfl hl.1 rfl (Nat.le_of_ble_eq_true rfl) dX4_pull_14 ⟨Nat.zero_le _, Nat.zero_le _⟩) hP hD hS hA (fr_X_E a k B0 L0 R0 T0 U0 V0) (fun H locs hP hD hS => ?_)
    refine lv_if_ne (tgt := 22) hx hb dX4_pull_17 (by decide) (fun c4 => ?_) (fun c4 => ?_)
    · have h := it_f c4 h
      refine lv_aload_n hx hb dX4_pull_22 rfl (lv_at hl 0 rfl) ?_
      refine va_get (D := D) (ci := 4) (v := .ref (a 27)) (C := RX4) (T := TX4) (N := 8) hx hb hts hin4 hown hK hP 0 rfl rfl 4 (by decide) (hts (.fieldLink RX4 37 "BallastLine" "freeAt" "[I") (List.mem_of_getElem? (i := 1) rfl)) (fun _ h9 => h9) rfl dX4_pull_23 ?_
      refine lv_iload_n hx hb dX4_pull_26 rfl (lv_at hl 1 rfl) ?_
      refine lv_dup2_11 hx hb dX4_pull_27 rfl rfl ?_
      obtain ⟨g5, h⟩ := gd_s h
      refine va_iald hx hb hK hP 1 0 rfl rfl (inb_in g5) dX4_pull_28 ?_
      refine lv_iload_n hx hb dX4_pull_29 rfl (lv_at hl 2 rfl) ?_
      refine lv_iadd hx hb dX4_pull_30 ?_
      obtain ⟨g6, h⟩ := gd_s h
      refine va_iast hx hb hK hP hD hS 1 0 rfl rfl (inb_in g6) dX4_pull_31 (fun H locs hP hD hS => ?_)
      obtain ⟨B_7, eB_7⟩ : ∃ y : Nat → Nat → Int32, y = st B0 4 (Int32.toNatClampNeg p0) ((B0 4 (Int32.toNatClampNeg p0)) + p1) := ⟨_, rfl⟩
      have h := ltt_s eB_7 h
      have hP : va_P D vwCl (xX a k B_7 L0 R0 T0 U0 V0) H := by rw [eB_7]; exact hP
      have hD : va_D A (xX a k B_7 L0 R0 T0 U0 V0) := by rw [eB_7]; exact hD
      refine lv_iconst (v := (1 : Int32)) hx hb dX4_pull_32 (by decide) ?_
      have h := Option.some.inj h
      obtain ⟨hz0, h⟩ := Prod.mk.inj h
      have hP : va_P D vwCl (xX a k Bz L0 R0 T0 U0 V0) H := by rw [← h]; exact hP
      have hD : va_D A (xX a k Bz L0 R0 T0 U0 V0) := by rw [← h]; exact hD
      subst hQ
      subst hAe
      exact r_i hx hb hr hlocks hz0 hP hD hS dX4_pull_33
    · have h := it_t c4 h
      refine lv_iconst (v := (-1 : Int32)) hx hb dX4_pull_20 (by decide) ?_
      have h := Option.some.inj h
      obtain ⟨hz0, h⟩ := Prod.mk.inj h
      have hP : va_P D vwCl (xX a k Bz L0 R0 T0 U0 V0) H := by rw [← h]; exact hP
      have hD : va_D A (xX a k Bz L0 R0 T0 U0 V0) := by rw [← h]; exact hD
      subst hQ
      subst hAe
      exact r_i hx hb hr hlocks hz0 hP hD hS dX4_pull_21
def f_X4_isTemperature  (p0 : Int32) : Option (Int32) := b1 (f_X4_within p0 (-400 : Int32) (600 : Int32)) (fun r1 => gd (isb r1) (some r1))
abbrev rm_X4_isTemperature : Room := { frames := 1, cells := 0, slots := 0, locals := 22 }
set_option maxHeartbeats 4000000 in
set_option maxRecDepth 100000 in
theorem c_X4_isTemperature (l : Launch) (D : va_G) (sz : Nat)  (p0 : Int32) (r : Int32) (h : f_X4_isTemperature p0 = some r) : Met l yX4_isTemperature wsX4_isTemperature rm_X4_isTemperature (mPc D [.int p0] ([] : va_W) ([] : List (ClassId × FieldType)) sz) (mQi D ([] : va_W) ([] : va_W) sz r) 0 0 (va_A ([] : va_W) sz) := by
  refine mk_met (cc := cX4_isTemperature) (maxL := 1) (ret := (some .boolean)) (by decide) rfl (Nat.le_of_ble_eq_true rfl) ?_
  intro p e s m below meth c hx hb hr hml hts hown hmn hlocks hnw hsz hK hP hD hS hA ls hl
  obtain ⟨A, hAe⟩ : ∃ A, A = va_A ([] : va_W) sz := ⟨_, rfl⟩
  rw [← hAe] at hD hS hA
  generalize hargs : List.toArray ([.int p0] : List Value) = args at hts ⊢
  generalize hQ : MQ below (mQi D ([] : va_W) ([] : va_W) sz r) args s 0 0 (va_A ([] : va_W) sz) = Q
  have hl : lv_has ls 1 [(0, .int p0)] := hl
  rw [f_X4_isTemperature] at h
  obtain ⟨H, hH⟩ : ∃ H, H = s.heap := ⟨_, rfl⟩
  obtain ⟨locs, hlc⟩ : ∃ L : List Loc, L = [] := ⟨_, rfl⟩
  rw [← hH] at hP
  have hS : va_S A s.heap H locs := by rw [hH, hlc]; exact hS
  suffices hW9 : W p l e rm_X4_isTemperature s m args below meth c H locs 0 0 Q (F0 m 0 ls []) by rw [hH, hlc] at hW9; exact hW9
  refine lv_iload_n hx hb dX4_isTemperature_0 rfl (lv_at hl 0 rfl) ?_
  refine lv_sipush (v := (-400 : Int32)) hx hb dX4_isTemperature_1 (by decide) ?_
  refine lv_sipush (v := (600 : Int32)) hx hb dX4_isTemperature_4 (by decide) ?_
  obtain ⟨r1, q1, h⟩ := b1_s h
  refine go_i (run_S (As := [.int p0, .int (-400 : Int32), .int (600 : Int32)]) (rest := []) ⟨hx, hb, hml, hown, hts⟩ hnw hK hP hD (fr_E_E ) (ks_E_E) (c_X4_within l D H.size p0 (-400 : Int32) (600 : Int32) r1 q1) (cwS 3 hts gX4_isTemperature_X4_within rfl rfl rfl (by decide +kernel) ⟨Nat.le_of_ble_eq_true rfl, Nat.le_of_ble_eq_true rfl⟩) rfl hl.1 rfl (Nat.le_of_ble_eq_true rfl) dX4_isTemperature_7 ⟨Nat.zero_le _, Nat.zero_le _⟩) hP hD hS hA (fr_E_E ) (fun H locs hP hD hS => ?_)
  obtain ⟨g2, h⟩ := gd_s h
  have h := Option.some.inj h
  subst hQ
  subst hAe
  exact r_z hx hb hr (isb_s g2) hlocks h hP hD hS dX4_isTemperature_10
def f_X4_cut (B0 : Nat → Nat → Int32) (L0 : Int64) (p0 : Int32) (p1 : Int32) : Option (Int32 × (Nat → Nat → Int32) × Int64) := b1 (f_X4_isStretch p0) (fun r1 => if r1 = (0 : Int32) then (some ((-1 : Int32), B0, L0)) else (b1 (f_X4_isTemperature p1) (fun r3 => if r3 = (0 : Int32) then (some ((-1 : Int32), B0, L0)) else (gd (inb p0 4) (ltt ((B0 4 (Int32.toNatClampNeg p0))) (fun v6 => gd (inb p0 4) (ltt (st B0 4 (Int32.toNatClampNeg p0) p1) (fun (B_8 : Nat → Nat → Int32) => b2 (f_X4_tell L0 (Int32.toInt64 v6)) (fun r9 (L_9 : Int64) => some (r9, B_8, L_9))))))))))
abbrev rm_X4_cut : Room := { frames := 2, cells := 0, slots := 0, locals := 42 }
set_option maxHeartbeats 4000000 in
set_option maxRecDepth 100000 in
theorem c_X4_cut (l : Launch) (D : va_G) (a : Nat → Nat) (k : Nat → ClassId) (sz : Nat) (B0 : Nat → Nat → Int32) (L0 : Int64) (R0 : Nat → Nat → Int32) (T0 : Nat → Nat → Int32) (U0 : Nat → Nat → Int32) (V0 : Nat → Nat → Int32) (p0 : Int32) (p1 : Int32) (r : Int32) (Bz : (Nat → Nat → Int32)) (Lz : Int64) (h : f_X4_cut B0 L0 p0 p1 = some (r, Bz, Lz)) : Met l yX4_cut wsX4_cut rm_X4_cut (mPc D [.ref (a 26), .int p0, .int p1] (xX a k B0 L0 R0 T0 U0 V0) (tX k) sz) (mQi D (xX a k B0 L0 R0 T0 U0 V0) (xX a k Bz Lz R0 T0 U0 V0) sz r) 0 0 (va_A (xX a k B0 L0 R0 T0 U0 V0) sz) := by
  refine mk_met (cc := cX4_cut) (maxL := 4) (ret := (some .int)) (by decide) rfl (Nat.le_of_ble_eq_true rfl) ?_
  intro p e s m below meth c hx hb hr hml hts hown hmn hlocks hnw hsz hK hP hD hS hA ls hl
  obtain ⟨A, hAe⟩ : ∃ A, A = va_A (xX a k B0 L0 R0 T0 U0 V0) sz := ⟨_, rfl⟩
  rw [← hAe] at hD hS hA
  generalize hargs : List.toArray ([.ref (a 26), .int p0, .int p1] : List Value) = args at hts ⊢
  generalize hQ : MQ below (mQi D (xX a k B0 L0 R0 T0 U0 V0) (xX a k Bz Lz R0 T0 U0 V0) sz r) args s 0 0 (va_A (xX a k B0 L0 R0 T0 U0 V0) sz) = Q
  have hl : lv_has ls 4 [(0, .ref (a 26)), (1, .int p0), (2, .int p1)] := hl
  have hin4 : ∀ w ∈ wsX40, w ∈ wsX4_cut := fun w h => List.mem_cons_of_mem _ (List.mem_append_right _ h)
  rw [f_X4_cut] at h
  obtain ⟨H, hH⟩ : ∃ H, H = s.heap := ⟨_, rfl⟩
  obtain ⟨locs, hlc⟩ : ∃ L : List Loc, L = [] := ⟨_, rfl⟩
  rw [← hH] at hP
  have hS : va_S A s.heap H locs := by rw [hH, hlc]; exact hS
  suffices hW9 : W p l e rm_X4_cut s m args below meth c H locs 0 0 Q (F0 m 0 ls []) by rw [hH, hlc] at hW9; exact hW9
  refine lv_iload_n hx hb dX4_cut_0 rfl (lv_at hl 1 rfl) ?_
  obtain ⟨r1, q1, h⟩ := b1_s h
  refine go_i (run_S (As := [.int p0]) (rest := []) ⟨hx, hb, hml, hown, hts⟩ hnw hK hP hD (fr_X_E a k B0 L0 R0 T0 U0 V0) (ks_X_E k) (c_X4_isStretch l D H.size p0 r1 q1) (cwS 1 hts gX4_cut_X4_isStretch rfl rfl rfl (by decide +kernel) ⟨Nat.le_of_ble_eq_true rfl, Nat.le_of_ble_eq_true rfl⟩) rfl hl.1 rfl (Nat.le_of_ble_eq_true rfl) dX4_cut_1 ⟨Nat.zero_le _, Nat.zero_le _⟩) hP hD hS hA (fr_X_E a k B0 L0 R0 T0 U0 V0) (fun H locs hP hD hS => ?_)
  refine lv_if_eq (tgt := 14) hx hb dX4_cut_4 (by decide) (fun c2 => ?_) (fun c2 => ?_)
  · have h := it_t c2 h
    refine lv_iconst (v := (-1 : Int32)) hx hb dX4_cut_14 (by decide) ?_
    have h := Option.some.inj h
    obtain ⟨hz0, h⟩ := Prod.mk.inj h
    obtain ⟨hz1, h⟩ := Prod.mk.inj h
    have hP : va_P D vwCl (xX a k Bz Lz R0 T0 U0 V0) H := by rw [← hz1, ← h]; exact hP
    have hD : va_D A (xX a k Bz Lz R0 T0 U0 V0) := by rw [← hz1, ← h]; exact hD
    subst hQ
    subst hAe
    exact r_i hx hb hr hlocks hz0 hP hD hS dX4_cut_15
  · have h := it_f c2 h
    refine lv_iload_n hx hb dX4_cut_7 rfl (lv_at hl 2 rfl) ?_
    obtain ⟨r3, q3, h⟩ := b1_s h
    refine go_i (run_S (As := [.int p1]) (rest := []) ⟨hx, hb, hml, hown, hts⟩ hnw hK hP hD (fr_X_E a k B0 L0 R0 T0 U0 V0) (ks_X_E k) (c_X4_isTemperature l D H.size p1 r3 q3) (cwS 1 hts gX4_cut_X4_isTemperature rfl rfl rfl (by decide +kernel) ⟨Nat.le_of_ble_eq_true rfl, Nat.le_of_ble_eq_true rfl⟩) rfl hl.1 rfl (Nat.le_of_ble_eq_true rfl) dX4_cut_8 ⟨Nat.zero_le _, Nat.zero_le _⟩) hP hD hS hA (fr_X_E a k B0 L0 R0 T0 U0 V0) (fun H locs hP hD hS => ?_)
    refine lv_if_ne (tgt := 16) hx hb dX4_cut_11 (by decide) (fun c4 => ?_) (fun c4 => ?_)
    · have h := it_f c4 h
      refine lv_aload_n hx hb dX4_cut_16 rfl (lv_at hl 0 rfl) ?_
      refine va_get (D := D) (ci := 4) (v := .ref (a 27)) (C := RX4) (T := TX4) (N := 8) hx hb hts hin4 hown hK hP 0 rfl rfl 4 (by decide) (hts (.fieldLink RX4 37 "BallastLine" "freeAt" "[I") (List.mem_of_getElem? (i := 1) rfl)) (fun _ h9 => h9) rfl dX4_cut_17 ?_
      refine lv_iload_n hx hb dX4_cut_20 rfl (lv_at hl 1 rfl) ?_
      obtain ⟨g5, h⟩ := gd_s h
      refine va_iald hx hb hK hP 1 0 rfl rfl (inb_in g5) dX4_cut_21 ?_
      refine lv_topi (fun v6 ev6 => ?_)
      have h := ltt_s ev6 h
      refine lv_istore_n (lv' := [(3, .int v6), (0, .ref (a 26)), (1, .int p0), (2, .int p1)]) hx hb dX4_cut_22 rfl hl (by decide) rfl (fun ls hl => ?_)
      refine lv_aload_n hx hb dX4_cut_23 rfl (lv_at hl 1 rfl) ?_
      refine va_get (D := D) (ci := 4) (v := .ref (a 27)) (C := RX4) (T := TX4) (N := 8) hx hb hts hin4 hown hK hP 0 rfl rfl 4 (by decide) (hts (.fieldLink RX4 37 "BallastLine" "freeAt" "[I") (List.mem_of_getElem? (i := 1) rfl)) (fun _ h9 => h9) rfl dX4_cut_24 ?_
      refine lv_iload_n hx hb dX4_cut_27 rfl (lv_at hl 2 rfl) ?_
      refine lv_iload_n hx hb dX4_cut_28 rfl (lv_at hl 3 rfl) ?_
      obtain ⟨g7, h⟩ := gd_s h
      refine va_iast hx hb hK hP hD hS 1 0 rfl rfl (inb_in g7) dX4_cut_29 (fun H locs hP hD hS => ?_)
      obtain ⟨B_8, eB_8⟩ : ∃ y : Nat → Nat → Int32, y = st B0 4 (Int32.toNatClampNeg p0) p1 := ⟨_, rfl⟩
      have h := ltt_s eB_8 h
      have hP : va_P D vwCl (xX a k B_8 L0 R0 T0 U0 V0) H := by rw [eB_8]; exact hP
      have hD : va_D A (xX a k B_8 L0 R0 T0 U0 V0) := by rw [eB_8]; exact hD
      refine lv_aload_n hx hb dX4_cut_30 rfl (lv_at hl 1 rfl) ?_
      refine lv_iload_n hx hb dX4_cut_31 rfl (lv_at hl 0 rfl) ?_
      refine lv_i2l (v := (Int32.toInt64 v6)) hx hb dX4_cut_32 rfl ?_
      obtain ⟨r9, L_9, q9, h⟩ := b2_s h
      refine go_i (run_V (As := [.long (Int32.toInt64 v6)]) (rest := []) ⟨hx, hb, hml, hown, hts⟩ hnw hK hP hD (fr_X_X a k B_8 L0 R0 T0 U0 V0 B_8 L_9 R0 T0 U0 V0) (ks_X_X k) (c_X4_tell l D a k H.size B_8 L0 R0 T0 U0 V0 (Int32.toInt64 v6) r9 L_9 q9) (cwV 1 hts gX4_cut_X4_tell rfl rfl rfl (by decide +kernel) ⟨Nat.le_of_ble_eq_true rfl, Nat.le_of_ble_eq_true rfl⟩) (rcv_X a k B_8 L0 R0 T0 U0 V0) rfl hl.1 rfl (Nat.le_of_ble_eq_true rfl) dX4_cut_33 ⟨Nat.zero_le _, Nat.zero_le _⟩) hP hD hS hA (fr_X_X a k B_8 L0 R0 T0 U0 V0 B_8 L_9 R0 T0 U0 V0) (fun H locs hP hD hS => ?_)
      have h := Option.some.inj h
      obtain ⟨hz0, h⟩ := Prod.mk.inj h
      obtain ⟨hz1, h⟩ := Prod.mk.inj h
      have hP : va_P D vwCl (xX a k Bz Lz R0 T0 U0 V0) H := by rw [← hz1, ← h]; exact hP
      have hD : va_D A (xX a k Bz Lz R0 T0 U0 V0) := by rw [← hz1, ← h]; exact hD
      subst hQ
      subst hAe
      exact r_i hx hb hr hlocks hz0 hP hD hS dX4_cut_36
    · have h := it_t c4 h
      refine lv_iconst (v := (-1 : Int32)) hx hb dX4_cut_14 (by decide) ?_
      have h := Option.some.inj h
      obtain ⟨hz0, h⟩ := Prod.mk.inj h
      obtain ⟨hz1, h⟩ := Prod.mk.inj h
      have hP : va_P D vwCl (xX a k Bz Lz R0 T0 U0 V0) H := by rw [← hz1, ← h]; exact hP
      have hD : va_D A (xX a k Bz Lz R0 T0 U0 V0) := by rw [← hz1, ← h]; exact hD
      subst hQ
      subst hAe
      exact r_i hx hb hr hlocks hz0 hP hD hS dX4_cut_15
def f_X4_pressOf (B0 : Nat → Nat → Int32) (p0 : Int32) (p1 : Int32) : Option (Int32) := gd (inb p0 4) (some ((p1 - (B0 4 (Int32.toNatClampNeg p0))) * (24 : Int32)))
abbrev rm_X4_pressOf : Room := { frames := 0, cells := 0, slots := 0, locals := 0 }
set_option maxHeartbeats 4000000 in
set_option maxRecDepth 100000 in
theorem c_X4_pressOf (l : Launch) (D : va_G) (a : Nat → Nat) (k : Nat → ClassId) (sz : Nat) (B0 : Nat → Nat → Int32) (L0 : Int64) (R0 : Nat → Nat → Int32) (T0 : Nat → Nat → Int32) (U0 : Nat → Nat → Int32) (V0 : Nat → Nat → Int32) (p0 : Int32) (p1 : Int32) (r : Int32) (h : f_X4_pressOf B0 p0 p1 = some r) : Met l yX4_pressOf wsX4_pressOf rm_X4_pressOf (mPc D [.ref (a 26), .int p0, .int p1] (xX a k B0 L0 R0 T0 U0 V0) (tX k) sz) (mQi D (xX a k B0 L0 R0 T0 U0 V0) (xX a k B0 L0 R0 T0 U0 V0) sz r) 0 0 (va_A (xX a k B0 L0 R0 T0 U0 V0) sz) := by
  refine mk_met (cc := cX4_pressOf) (maxL := 3) (ret := (some .int)) (by decide) rfl (Nat.le_of_ble_eq_true rfl) ?_
  intro p e s m below meth c hx hb hr hml hts hown hmn hlocks hnw hsz hK hP hD hS hA ls hl
  obtain ⟨A, hAe⟩ : ∃ A, A = va_A (xX a k B0 L0 R0 T0 U0 V0) sz := ⟨_, rfl⟩
  rw [← hAe] at hD hS hA
  generalize hargs : List.toArray ([.ref (a 26), .int p0, .int p1] : List Value) = args at hts ⊢
  generalize hQ : MQ below (mQi D (xX a k B0 L0 R0 T0 U0 V0) (xX a k B0 L0 R0 T0 U0 V0) sz r) args s 0 0 (va_A (xX a k B0 L0 R0 T0 U0 V0) sz) = Q
  have hl : lv_has ls 3 [(0, .ref (a 26)), (1, .int p0), (2, .int p1)] := hl
  have hin4 : ∀ w ∈ wsX40, w ∈ wsX4_pressOf := fun w h => List.mem_cons_of_mem _ (List.mem_append_right _ h)
  rw [f_X4_pressOf] at h
  obtain ⟨H, hH⟩ : ∃ H, H = s.heap := ⟨_, rfl⟩
  obtain ⟨locs, hlc⟩ : ∃ L : List Loc, L = [] := ⟨_, rfl⟩
  rw [← hH] at hP
  have hS : va_S A s.heap H locs := by rw [hH, hlc]; exact hS
  suffices hW9 : W p l e rm_X4_pressOf s m args below meth c H locs 0 0 Q (F0 m 0 ls []) by rw [hH, hlc] at hW9; exact hW9
  refine lv_iload_n hx hb dX4_pressOf_0 rfl (lv_at hl 2 rfl) ?_
  refine lv_aload_n hx hb dX4_pressOf_1 rfl (lv_at hl 0 rfl) ?_
  refine va_get (D := D) (ci := 4) (v := .ref (a 27)) (C := RX4) (T := TX4) (N := 8) hx hb hts hin4 hown hK hP 0 rfl rfl 4 (by decide) (hts (.fieldLink RX4 37 "BallastLine" "freeAt" "[I") (List.mem_of_getElem? (i := 1) rfl)) (fun _ h9 => h9) rfl dX4_pressOf_2 ?_
  refine lv_iload_n hx hb dX4_pressOf_5 rfl (lv_at hl 1 rfl) ?_
  obtain ⟨g1, h⟩ := gd_s h
  refine va_iald hx hb hK hP 1 0 rfl rfl (inb_in g1) dX4_pressOf_6 ?_
  refine lv_isub hx hb dX4_pressOf_7 ?_
  refine lv_bipush (v := (24 : Int32)) hx hb dX4_pressOf_8 (by decide) ?_
  refine lv_imul hx hb dX4_pressOf_10 ?_
  have h := Option.some.inj h
  subst hQ
  subst hAe
  exact r_i hx hb hr hlocks h hP hD hS dX4_pressOf_11
def f_X4_press (B0 : Nat → Nat → Int32) (L0 : Int64) (p0 : Int32) (p1 : Int32) : Option (Int32 × Int64) := b1 (f_X4_isStretch p0) (fun r1 => if r1 = (0 : Int32) then (some ((-1 : Int32), L0)) else (b1 (f_X4_isTemperature p1) (fun r3 => if r3 = (0 : Int32) then (some ((-1 : Int32), L0)) else (b1 (f_X4_pressOf B0 p0 p1) (fun r5 => b2 (f_X4_tell L0 (Int32.toInt64 r5)) (fun r6 (L_6 : Int64) => some (r6, L_6)))))))
abbrev rm_X4_press : Room := { frames := 2, cells := 0, slots := 0, locals := 42 }
set_option maxHeartbeats 4000000 in
set_option maxRecDepth 100000 in
theorem c_X4_press (l : Launch) (D : va_G) (a : Nat → Nat) (k : Nat → ClassId) (sz : Nat) (B0 : Nat → Nat → Int32) (L0 : Int64) (R0 : Nat → Nat → Int32) (T0 : Nat → Nat → Int32) (U0 : Nat → Nat → Int32) (V0 : Nat → Nat → Int32) (p0 : Int32) (p1 : Int32) (r : Int32) (Lz : Int64) (h : f_X4_press B0 L0 p0 p1 = some (r, Lz)) : Met l yX4_press wsX4_press rm_X4_press (mPc D [.ref (a 26), .int p0, .int p1] (xX a k B0 L0 R0 T0 U0 V0) (tX k) sz) (mQi D (xX a k B0 L0 R0 T0 U0 V0) (xX a k B0 Lz R0 T0 U0 V0) sz r) 0 0 (va_A (xX a k B0 L0 R0 T0 U0 V0) sz) := by
  refine mk_met (cc := cX4_press) (maxL := 3) (ret := (some .int)) (by decide) rfl (Nat.le_of_ble_eq_true rfl) ?_
  intro p e s m below meth c hx hb hr hml hts hown hmn hlocks hnw hsz hK hP hD hS hA ls hl
  obtain ⟨A, hAe⟩ : ∃ A, A = va_A (xX a k B0 L0 R0 T0 U0 V0) sz := ⟨_, rfl⟩
  rw [← hAe] at hD hS hA
  generalize hargs : List.toArray ([.ref (a 26), .int p0, .int p1] : List Value) = args at hts ⊢
  generalize hQ : MQ below (mQi D (xX a k B0 L0 R0 T0 U0 V0) (xX a k B0 Lz R0 T0 U0 V0) sz r) args s 0 0 (va_A (xX a k B0 L0 R0 T0 U0 V0) sz) = Q
  have hl : lv_has ls 3 [(0, .ref (a 26)), (1, .int p0), (2, .int p1)] := hl
  rw [f_X4_press] at h
  obtain ⟨H, hH⟩ : ∃ H, H = s.heap := ⟨_, rfl⟩
  obtain ⟨locs, hlc⟩ : ∃ L : List Loc, L = [] := ⟨_, rfl⟩
  rw [← hH] at hP
  have hS : va_S A s.heap H locs := by rw [hH, hlc]; exact hS
  suffices hW9 : W p l e rm_X4_press s m args below meth c H locs 0 0 Q (F0 m 0 ls []) by rw [hH, hlc] at hW9; exact hW9
  refine lv_iload_n hx hb dX4_press_0 rfl (lv_at hl 1 rfl) ?_
  obtain ⟨r1, q1, h⟩ := b1_s h
  refine go_i (run_S (As := [.int p0]) (rest := []) ⟨hx, hb, hml, hown, hts⟩ hnw hK hP hD (fr_X_E a k B0 L0 R0 T0 U0 V0) (ks_X_E k) (c_X4_isStretch l D H.size p0 r1 q1) (cwS 1 hts gX4_press_X4_isStretch rfl rfl rfl (by decide +kernel) ⟨Nat.le_of_ble_eq_true rfl, Nat.le_of_ble_eq_true rfl⟩) rfl hl.1 rfl (Nat.le_of_ble_eq_true rfl) dX4_press_1 ⟨Nat.zero_le _, Nat.zero_le _⟩) hP hD hS hA (fr_X_E a k B0 L0 R0 T0 U0 V0) (fun H locs hP hD hS => ?_)
  refine lv_if_eq (tgt := 14) hx hb dX4_press_4 (by decide) (fun c2 => ?_) (fun c2 => ?_)
  · have h := it_t c2 h
    refine lv_iconst (v := (-1 : Int32)) hx hb dX4_press_14 (by decide) ?_
    have h := Option.some.inj h
    obtain ⟨hz0, h⟩ := Prod.mk.inj h
    have hP : va_P D vwCl (xX a k B0 Lz R0 T0 U0 V0) H := by rw [← h]; exact hP
    have hD : va_D A (xX a k B0 Lz R0 T0 U0 V0) := by rw [← h]; exact hD
    subst hQ
    subst hAe
    exact r_i hx hb hr hlocks hz0 hP hD hS dX4_press_15
  · have h := it_f c2 h
    refine lv_iload_n hx hb dX4_press_7 rfl (lv_at hl 2 rfl) ?_
    obtain ⟨r3, q3, h⟩ := b1_s h
    refine go_i (run_S (As := [.int p1]) (rest := []) ⟨hx, hb, hml, hown, hts⟩ hnw hK hP hD (fr_X_E a k B0 L0 R0 T0 U0 V0) (ks_X_E k) (c_X4_isTemperature l D H.size p1 r3 q3) (cwS 1 hts gX4_press_X4_isTemperature rfl rfl rfl (by decide +kernel) ⟨Nat.le_of_ble_eq_true rfl, Nat.le_of_ble_eq_true rfl⟩) rfl hl.1 rfl (Nat.le_of_ble_eq_true rfl) dX4_press_8 ⟨Nat.zero_le _, Nat.zero_le _⟩) hP hD hS hA (fr_X_E a k B0 L0 R0 T0 U0 V0) (fun H locs hP hD hS => ?_)
    refine lv_if_ne (tgt := 16) hx hb dX4_press_11 (by decide) (fun c4 => ?_) (fun c4 => ?_)
    · have h := it_f c4 h
      refine lv_aload_n hx hb dX4_press_16 rfl (lv_at hl 0 rfl) ?_
      refine lv_aload_n hx hb dX4_press_17 rfl (lv_at hl 0 rfl) ?_
      refine lv_iload_n hx hb dX4_press_18 rfl (lv_at hl 1 rfl) ?_
      refine lv_iload_n hx hb dX4_press_19 rfl (lv_at hl 2 rfl) ?_
      obtain ⟨r5, q5, h⟩ := b1_s h
      refine go_i (run_V (As := [.int p0, .int p1]) (rest := [.ref (a 26)]) ⟨hx, hb, hml, hown, hts⟩ hnw hK hP hD (fr_X_X a k B0 L0 R0 T0 U0 V0 B0 L0 R0 T0 U0 V0) (ks_X_X k) (c_X4_pressOf l D a k H.size B0 L0 R0 T0 U0 V0 p0 p1 r5 q5) (cwV 2 hts gX4_press_X4_pressOf rfl rfl rfl (by decide +kernel) ⟨Nat.le_of_ble_eq_true rfl, Nat.le_of_ble_eq_true rfl⟩) (rcv_X a k B0 L0 R0 T0 U0 V0) rfl hl.1 rfl (Nat.le_of_ble_eq_true rfl) dX4_press_20 ⟨Nat.zero_le _, Nat.zero_le _⟩) hP hD hS hA (fr_X_X a k B0 L0 R0 T0 U0 V0 B0 L0 R0 T0 U0 V0) (fun H locs hP hD hS => ?_)
      refine lv_i2l (v := (Int32.toInt64 r5)) hx hb dX4_press_23 rfl ?_
      obtain ⟨r6, L_6, q6, h⟩ := b2_s h
      refine go_i (run_V (As := [.long (Int32.toInt64 r5)]) (rest := []) ⟨hx, hb, hml, hown, hts⟩ hnw hK hP hD (fr_X_X a k B0 L0 R0 T0 U0 V0 B0 L_6 R0 T0 U0 V0) (ks_X_X k) (c_X4_tell l D a k H.size B0 L0 R0 T0 U0 V0 (Int32.toInt64 r5) r6 L_6 q6) (cwV 1 hts gX4_press_X4_tell rfl rfl rfl (by decide +kernel) ⟨Nat.le_of_ble_eq_true rfl, Nat.le_of_ble_eq_true rfl⟩) (rcv_X a k B0 L0 R0 T0 U0 V0) rfl hl.1 rfl (Nat.le_of_ble_eq_true rfl) dX4_press_24 ⟨Nat.zero_le _, Nat.zero_le _⟩) hP hD hS hA (fr_X_X a k B0 L0 R0 T0 U0 V0 B0 L_6 R0 T0 U0 V0) (fun H locs hP hD hS => ?_)
      have h := Option.some.inj h
      obtain ⟨hz0, h⟩ := Prod.mk.inj h
      have hP : va_P D vwCl (xX a k B0 Lz R0 T0 U0 V0) H := by rw [← h]; exact hP
      have hD : va_D A (xX a k B0 Lz R0 T0 U0 V0) := by rw [← h]; exact hD
      subst hQ
      subst hAe
      exact r_i hx hb hr hlocks hz0 hP hD hS dX4_press_27
    · have h := it_t c4 h
      refine lv_iconst (v := (-1 : Int32)) hx hb dX4_press_14 (by decide) ?_
      have h := Option.some.inj h
      obtain ⟨hz0, h⟩ := Prod.mk.inj h
      have hP : va_P D vwCl (xX a k B0 Lz R0 T0 U0 V0) H := by rw [← h]; exact hP
      have hD : va_D A (xX a k B0 Lz R0 T0 U0 V0) := by rw [← h]; exact hD
      subst hQ
      subst hAe
      exact r_i hx hb hr hlocks hz0 hP hD hS dX4_press_15
def f_X4_margin_J54 (T0 : Nat → Nat → Int32) (p0 : Int32) (p1 : Int32)  (x4 : Int32) (s0 : Int32) (B : Nat → Nat → Int32) (L : Int64) : Option (Int32 × (Nat → Nat → Int32) × Int64) := b1 (f_X1_standing T0 x4 s0) (fun r1 => if r1 = (0 : Int32) then (b2 (f_X4_found B (4 : Int32)) (fun r10 (B_10 : Nat → Nat → Int32) => some (r10, B_10, L))) else (b1 (f_X1_sumOfStones T0 x4 s0) (fun r3 => b1 (f_X4_cutShare r3 r1) (fun r4 => b1 (f_X1_greatestChord T0 x4 s0) (fun r5 => b1 (f_X4_pressOf B p0 p1) (fun r6 => ltt (((((9000 : Int64) + ((300 : Int64) * (Int32.toInt64 r4))) - ((60 : Int64) * (Int32.toInt64 r5))) - (Int32.toInt64 r6))) (fun v7 => b2 (f_X4_tell L v7) (fun r8 (L_8 : Int64) => if (0 : Int32) < (lg_cmp v7 (0 : Int64)) then (some ((0 : Int32), B, L_8)) else (some ((1 : Int32), B, L_8))))))))))
def f_X4_margin (B0 : Nat → Nat → Int32) (L0 : Int64) (T0 : Nat → Nat → Int32) (p0 : Int32) (p1 : Int32) : Option (Int32 × (Nat → Nat → Int32) × Int64) := b1 (f_X4_isStretch p0) (fun r11 => if r11 = (0 : Int32) then (some ((-1 : Int32), B0, L0)) else (b1 (f_X4_isTemperature p1) (fun r13 => if r13 = (0 : Int32) then (some ((-1 : Int32), B0, L0)) else (gd (nz32 (4 : Int32)) (ltt (((T0 7 0) / (4 : Int32))) (fun v16 => ltt ((p0 * v16)) (fun v17 => if p0 = (3 : Int32) then (f_X4_margin_J54 T0 p0 p1 v17 ((T0 7 0) - (1 : Int32)) B0 L0) else (f_X4_margin_J54 T0 p0 p1 v17 ((v17 + v16) - (1 : Int32)) B0 L0))))))))
abbrev rm_X4_margin : Room := { frames := 6, cells := 0, slots := 0, locals := 137 }
set_option maxHeartbeats 4000000 in
set_option maxRecDepth 100000 in
theorem c_X4_margin (l : Launch) (D : va_G) (a : Nat → Nat) (k : Nat → ClassId) (sz : Nat) (B0 : Nat → Nat → Int32) (L0 : Int64) (R0 : Nat → Nat → Int32) (T0 : Nat → Nat → Int32) (U0 : Nat → Nat → Int32) (V0 : Nat → Nat → Int32) (p0 : Int32) (p1 : Int32) (r : Int32) (Bz : (Nat → Nat → Int32)) (Lz : Int64) (h : f_X4_margin B0 L0 T0 p0 p1 = some (r, Bz, Lz)) : Met l yX4_margin wsX4_margin rm_X4_margin (mPc D [.ref (a 26), .int p0, .int p1] (xX a k B0 L0 R0 T0 U0 V0) (tX k) sz) (mQi D (xX a k B0 L0 R0 T0 U0 V0) (xX a k Bz Lz R0 T0 U0 V0) sz r) 0 0 (va_A (xX a k B0 L0 R0 T0 U0 V0) sz) := by
  refine mk_met (cc := cX4_margin) (maxL := 10) (ret := (some .int)) (by decide) rfl (Nat.le_of_ble_eq_true rfl) ?_
  intro p e s m below meth c hx hb hr hml hts hown hmn hlocks hnw hsz hK hP hD hS hA ls hl
  obtain ⟨A, hAe⟩ : ∃ A, A = va_A (xX a k B0 L0 R0 T0 U0 V0) sz := ⟨_, rfl⟩
  rw [← hAe] at hD hS hA
  generalize hargs : List.toArray ([.ref (a 26), .int p0, .int p1] : List Value) = args at hts ⊢
  generalize hQ : MQ below (mQi D (xX a k B0 L0 R0 T0 U0 V0) (xX a k Bz Lz R0 T0 U0 V0) sz r) args s 0 0 (va_A (xX a k B0 L0 R0 T0 U0 V0) sz) = Q
  have hl : lv_has ls 10 [(0, .ref (a 26)), (1, .int p0), (2, .int p1)] := hl
  have hin1 : ∀ w ∈ wsX10, w ∈ wsX4_margin := fun w h => List.mem_cons_of_mem _ (List.mem_append_right _ h)
  have hin4 : ∀ w ∈ wsX40, w ∈ wsX4_margin := fun w h => List.mem_cons_of_mem _ (List.mem_append_left _ (List.mem_append_right _ h))
  have lb54 : ∀ (x4 : Int32) (s0 : Int32) (B : Nat → Nat → Int32) (L : Int64), ∀ (H : Heap) (locs : List Loc), va_P D vwCl (xX a k B L R0 T0 U0 V0) H → va_D A (xX a k B L R0 T0 U0 V0) → va_S A s.heap H locs → ∀ ls : Array Slot, lv_has ls 10 [(0, .ref (a 26)), (1, .int p0), (2, .int p1), (4, .int x4)] → f_X4_margin_J54 T0 p0 p1 x4 s0 B L = some (r, Bz, Lz) → W p l e rm_X4_margin s m args below meth c H locs 0 0 Q (F0 m 54 ls [.int s0]) := by
    intro  x4 s0 B L H locs hP hD hS ls hl h
    rw [f_X4_margin_J54] at h
    refine lv_istore (lv' := [(5, .int s0), (0, .ref (a 26)), (1, .int p0), (2, .int p1), (4, .int x4)]) hx hb dX4_margin_54 hl (by decide) rfl (fun ls hl => ?_)
    refine lv_aload_n hx hb dX4_margin_56 rfl (lv_at hl 1 rfl) ?_
    refine va_get (D := D) (ci := 4) (v := .ref (a 0)) (C := RX4) (T := TX4) (N := 8) hx hb hts hin4 hown hK hP 0 rfl rfl 0 (by decide) (hts (.fieldLink RX4 10 "BallastLine" "track" "LBallastLine$Track;") (List.mem_of_getElem? (i := 1) rfl)) (fun _ h9 => h9) rfl dX4_margin_57 ?_
    refine lv_iload hx hb dX4_margin_60 (lv_at hl 4 rfl) ?_
    refine lv_iload hx hb dX4_margin_62 (lv_at hl 0 rfl) ?_
    obtain ⟨r1, q1, h⟩ := b1_s h
    refine go_i (run_VN (As := [.int x4, .int s0]) (rest := []) ⟨hx, hb, hml, hown, hts⟩ hnw hK hP hD (fr_X_T a k B L R0 T0 U0 V0 T0) (ks_X_T k) (c_X1_standing l D a k H.size T0 x4 s0 r1 q1) ⟨va_cnB 2 hts ggX4_margin_X1_standing rfl rfl rfl (hnw.2 (RX4, 123, yX1_standing, RX4) (List.mem_of_getElem? (i := 18) rfl)) (hts (.initialized RX1) (List.mem_of_getElem? (i := 16) rfl)) (by decide +kernel) ⟨Nat.le_of_ble_eq_true rfl, Nat.le_of_ble_eq_true rfl⟩, (hts (.instanceMethod yX1_standing) (List.mem_of_getElem? (i := 15) rfl)), (hts (.selects RX1 yX1_standing yX1_standing) (List.mem_of_getElem? (i := 17) rfl))⟩ (rcv_T a k T0) rfl hl.1 rfl (Nat.le_of_ble_eq_true rfl) dX4_margin_64 ⟨Nat.zero_le _, Nat.zero_le _⟩) hP hD hS hA (fr_X_T a k B L R0 T0 U0 V0 T0) (fun H locs hP hD hS => ?_)
    refine lv_istore (lv' := [(6, .int r1), (5, .int s0), (0, .ref (a 26)), (1, .int p0), (2, .int p1), (4, .int x4)]) hx hb dX4_margin_67 hl (by decide) rfl (fun ls hl => ?_)
    refine lv_iload hx hb dX4_margin_69 (lv_at hl 0 rfl) ?_
    refine lv_if_ne (tgt := 80) hx hb dX4_margin_71 (by decide) (fun c2 => ?_) (fun c2 => ?_)
    · have h := it_f c2 h
      refine lv_aload_n hx hb dX4_margin_80 rfl (lv_at hl 2 rfl) ?_
      refine va_get (D := D) (ci := 4) (v := .ref (a 0)) (C := RX4) (T := TX4) (N := 8) hx hb hts hin4 hown hK hP 0 rfl rfl 0 (by decide) (hts (.fieldLink RX4 10 "BallastLine" "track" "LBallastLine$Track;") (List.mem_of_getElem? (i := 1) rfl)) (fun _ h9 => h9) rfl dX4_margin_81 ?_
      refine lv_iload hx hb dX4_margin_84 (lv_at hl 5 rfl) ?_
      refine lv_iload hx hb dX4_margin_86 (lv_at hl 1 rfl) ?_
      obtain ⟨r3, q3, h⟩ := b1_s h
      refine go_i (run_VN (As := [.int x4, .int s0]) (rest := []) ⟨hx, hb, hml, hown, hts⟩ hnw hK hP hD (fr_X_T a k B L R0 T0 U0 V0 T0) (ks_X_T k) (c_X1_sumOfStones l D a k H.size T0 x4 s0 r3 q3) ⟨va_cnB 2 hts ggX4_margin_X1_sumOfStones rfl rfl rfl (hnw.2 (RX4, 192, yX1_sumOfStones, RX4) (List.mem_of_getElem? (i := 28) rfl)) (hts (.initialized RX1) (List.mem_of_getElem? (i := 16) rfl)) (by decide +kernel) ⟨Nat.le_of_ble_eq_true rfl, Nat.le_of_ble_eq_true rfl⟩, (hts (.instanceMethod yX1_sumOfStones) (List.mem_of_getElem? (i := 35) rfl)), (hts (.selects RX1 yX1_sumOfStones yX1_sumOfStones) (List.mem_of_getElem? (i := 36) rfl))⟩ (rcv_T a k T0) rfl hl.1 rfl (Nat.le_of_ble_eq_true rfl) dX4_margin_88 ⟨Nat.zero_le _, Nat.zero_le _⟩) hP hD hS hA (fr_X_T a k B L R0 T0 U0 V0 T0) (fun H locs hP hD hS => ?_)
      refine lv_iload hx hb dX4_margin_91 (lv_at hl 0 rfl) ?_
      obtain ⟨r4, q4, h⟩ := b1_s h
      refine go_i (run_S (As := [.int r3, .int r1]) (rest := []) ⟨hx, hb, hml, hown, hts⟩ hnw hK hP hD (fr_X_E a k B L R0 T0 U0 V0) (ks_X_E k) (c_X4_cutShare l D H.size r3 r1 r4 q4) (cwS 2 hts gX4_margin_X4_cutShare rfl rfl rfl (by decide +kernel) ⟨Nat.le_of_ble_eq_true rfl, Nat.le_of_ble_eq_true rfl⟩) rfl hl.1 rfl (Nat.le_of_ble_eq_true rfl) dX4_margin_93 ⟨Nat.zero_le _, Nat.zero_le _⟩) hP hD hS hA (fr_X_E a k B L R0 T0 U0 V0) (fun H locs hP hD hS => ?_)
      refine lv_istore (lv' := [(7, .int r4), (6, .int r1), (5, .int s0), (0, .ref (a 26)), (1, .int p0), (2, .int p1), (4, .int x4)]) hx hb dX4_margin_96 hl (by decide) rfl (fun ls hl => ?_)
      refine lv_ldc2 (v := (9000 : Int64)) hx hb hown (hts (.constantLong RX4 198 (9000)) (List.mem_of_getElem? (i := 2) rfl)) dX4_margin_98 ?_
      refine lv_ldc2 (v := (300 : Int64)) hx hb hown (hts (.constantLong RX4 200 (300)) (List.mem_of_getElem? (i := 3) rfl)) dX4_margin_101 ?_
      refine lv_iload hx hb dX4_margin_104 (lv_at hl 0 rfl) ?_
      refine lv_i2l (v := (Int32.toInt64 r4)) hx hb dX4_margin_106 rfl ?_
      refine lv_lmul hx hb dX4_margin_107 ?_
      refine lv_ladd hx hb dX4_margin_108 ?_
      refine lv_ldc2 (v := (60 : Int64)) hx hb hown (hts (.constantLong RX4 202 (60)) (List.mem_of_getElem? (i := 4) rfl)) dX4_margin_109 ?_
      refine lv_aload_n hx hb dX4_margin_112 rfl (lv_at hl 3 rfl) ?_
      refine va_get (D := D) (ci := 4) (v := .ref (a 0)) (C := RX4) (T := TX4) (N := 8) hx hb hts hin4 hown hK hP 0 rfl rfl 0 (by decide) (hts (.fieldLink RX4 10 "BallastLine" "track" "LBallastLine$Track;") (List.mem_of_getElem? (i := 1) rfl)) (fun _ h9 => h9) rfl dX4_margin_113 ?_
      refine lv_iload hx hb dX4_margin_116 (lv_at hl 6 rfl) ?_
      refine lv_iload hx hb dX4_margin_118 (lv_at hl 2 rfl) ?_
      obtain ⟨r5, q5, h⟩ := b1_s h
      refine go_i (run_VN (As := [.int x4, .int s0]) (rest := [.long (60 : Int64), .long ((9000 : Int64) + ((300 : Int64) * (Int32.toInt64 r4)))]) ⟨hx, hb, hml, hown, hts⟩ hnw hK hP hD (fr_X_T a k B L R0 T0 U0 V0 T0) (ks_X_T k) (c_X1_greatestChord l D a k H.size T0 x4 s0 r5 q5) ⟨va_cnB 2 hts ggX4_margin_X1_greatestChord rfl rfl rfl (hnw.2 (RX4, 204, yX1_greatestChord, RX4) (List.mem_of_getElem? (i := 29) rfl)) (hts (.initialized RX1) (List.mem_of_getElem? (i := 16) rfl)) (by decide +kernel) ⟨Nat.le_of_ble_eq_true rfl, Nat.le_of_ble_eq_true rfl⟩, (hts (.instanceMethod yX1_greatestChord) (List.mem_of_getElem? (i := 42) rfl)), (hts (.selects RX1 yX1_greatestChord yX1_greatestChord) (List.mem_of_getElem? (i := 43) rfl))⟩ (rcv_T a k T0) rfl hl.1 rfl (Nat.le_of_ble_eq_true rfl) dX4_margin_120 ⟨Nat.zero_le _, Nat.zero_le _⟩) hP hD hS hA (fr_X_T a k B L R0 T0 U0 V0 T0) (fun H locs hP hD hS => ?_)
      refine lv_i2l (v := (Int32.toInt64 r5)) hx hb dX4_margin_123 rfl ?_
      refine lv_lmul hx hb dX4_margin_124 ?_
      refine lv_lsub hx hb dX4_margin_125 ?_
      refine lv_aload_n hx hb dX4_margin_126 rfl (lv_at hl 3 rfl) ?_
      refine lv_iload_n hx hb dX4_margin_127 rfl (lv_at hl 4 rfl) ?_
      refine lv_iload_n hx hb dX4_margin_128 rfl (lv_at hl 5 rfl) ?_
      obtain ⟨r6, q6, h⟩ := b1_s h
      refine go_i (run_V (As := [.int p0, .int p1]) (rest := [.long (((9000 : Int64) + ((300 : Int64) * (Int32.toInt64 r4))) - ((60 : Int64) * (Int32.toInt64 r5)))]) ⟨hx, hb, hml, hown, hts⟩ hnw hK hP hD (fr_X_X a k B L R0 T0 U0 V0 B L R0 T0 U0 V0) (ks_X_X k) (c_X4_pressOf l D a k H.size B L R0 T0 U0 V0 p0 p1 r6 q6) (cwV 2 hts gX4_margin_X4_pressOf rfl rfl rfl (by decide +kernel) ⟨Nat.le_of_ble_eq_true rfl, Nat.le_of_ble_eq_true rfl⟩) (rcv_X a k B L R0 T0 U0 V0) rfl hl.1 rfl (Nat.le_of_ble_eq_true rfl) dX4_margin_129 ⟨Nat.zero_le _, Nat.zero_le _⟩) hP hD hS hA (fr_X_X a k B L R0 T0 U0 V0 B L R0 T0 U0 V0) (fun H locs hP hD hS => ?_)
      refine lv_i2l (v := (Int32.toInt64 r6)) hx hb dX4_margin_132 rfl ?_
      refine lv_lsub hx hb dX4_margin_133 ?_
      refine lv_topl (fun v7 ev7 => ?_)
      have h := ltt_s ev7 h
      refine lv_lstore (lv' := [(8, .long v7), (7, .int r4), (6, .int r1), (5, .int s0), (0, .ref (a 26)), (1, .int p0), (2, .int p1), (4, .int x4)]) hx hb dX4_margin_134 hl (by decide) rfl (fun ls hl => ?_)
      refine lv_aload_n hx hb dX4_margin_136 rfl (lv_at hl 4 rfl) ?_
      refine lv_lload hx hb dX4_margin_137 (lv_at hl 0 rfl) ?_
      obtain ⟨r8, L_8, q8, h⟩ := b2_s h
      refine go_i (run_V (As := [.long v7]) (rest := []) ⟨hx, hb, hml, hown, hts⟩ hnw hK hP hD (fr_X_X a k B L R0 T0 U0 V0 B L_8 R0 T0 U0 V0) (ks_X_X k) (c_X4_tell l D a k H.size B L R0 T0 U0 V0 v7 r8 L_8 q8) (cwV 1 hts gX4_margin_X4_tell rfl rfl rfl (by decide +kernel) ⟨Nat.le_of_ble_eq_true rfl, Nat.le_of_ble_eq_true rfl⟩) (rcv_X a k B L R0 T0 U0 V0) rfl hl.1 rfl (Nat.le_of_ble_eq_true rfl) dX4_margin_139 ⟨Nat.zero_le _, Nat.zero_le _⟩) hP hD hS hA (fr_X_X a k B L R0 T0 U0 V0 B L_8 R0 T0 U0 V0) (fun H locs hP hD hS => ?_)
      refine lv_pop hx hb dX4_margin_142 rfl ?_
      refine lv_lload hx hb dX4_margin_143 (lv_at hl 0 rfl) ?_
      refine lv_lconst (v := (0 : Int64)) hx hb dX4_margin_145 (by decide) ?_
      refine W.lcmp hx hb dX4_margin_146 ?_
      refine lv_if_gt (tgt := 154) hx hb dX4_margin_147 (by decide) (fun c9 => ?_) (fun c9 => ?_)
      · have h := it_t c9 h
        refine lv_iconst (v := (0 : Int32)) hx hb dX4_margin_154 (by decide) ?_
        have h := Option.some.inj h
        obtain ⟨hz0, h⟩ := Prod.mk.inj h
        obtain ⟨hz1, h⟩ := Prod.mk.inj h
        have hP : va_P D vwCl (xX a k Bz Lz R0 T0 U0 V0) H := by rw [← hz1, ← h]; exact hP
        have hD : va_D A (xX a k Bz Lz R0 T0 U0 V0) := by rw [← hz1, ← h]; exact hD
        subst hQ
        subst hAe
        exact r_i hx hb hr hlocks hz0 hP hD hS dX4_margin_155
      · have h := it_f c9 h
        refine lv_iconst (v := (1 : Int32)) hx hb dX4_margin_150 (by decide) ?_
        refine lv_goto (tgt := 155) hx hb dX4_margin_151 (by decide) ?_
        have h := Option.some.inj h
        obtain ⟨hz0, h⟩ := Prod.mk.inj h
        obtain ⟨hz1, h⟩ := Prod.mk.inj h
        have hP : va_P D vwCl (xX a k Bz Lz R0 T0 U0 V0) H := by rw [← hz1, ← h]; exact hP
        have hD : va_D A (xX a k Bz Lz R0 T0 U0 V0) := by rw [← hz1, ← h]; exact hD
        subst hQ
        subst hAe
        exact r_i hx hb hr hlocks hz0 hP hD hS dX4_margin_155
    · have h := it_t c2 h
      refine lv_aload_n hx hb dX4_margin_74 rfl (lv_at hl 2 rfl) ?_
      refine lv_iconst (v := (4 : Int32)) hx hb dX4_margin_75 (by decide) ?_
      obtain ⟨r10, B_10, q10, h⟩ := b2_s h
      refine go_i (run_V (As := [.int (4 : Int32)]) (rest := []) ⟨hx, hb, hml, hown, hts⟩ hnw hK hP hD (fr_X_X a k B L R0 T0 U0 V0 B_10 L R0 T0 U0 V0) (ks_X_X k) (c_X4_found l D a k H.size B L R0 T0 U0 V0 (4 : Int32) r10 B_10 q10) (cwV 1 hts gX4_margin_X4_found rfl rfl rfl (by decide +kernel) ⟨Nat.le_of_ble_eq_true rfl, Nat.le_of_ble_eq_true rfl⟩) (rcv_X a k B L R0 T0 U0 V0) rfl hl.1 rfl (Nat.le_of_ble_eq_true rfl) dX4_margin_76 ⟨Nat.zero_le _, Nat.zero_le _⟩) hP hD hS hA (fr_X_X a k B L R0 T0 U0 V0 B_10 L R0 T0 U0 V0) (fun H locs hP hD hS => ?_)
      have h := Option.some.inj h
      obtain ⟨hz0, h⟩ := Prod.mk.inj h
      obtain ⟨hz1, h⟩ := Prod.mk.inj h
      have hP : va_P D vwCl (xX a k Bz Lz R0 T0 U0 V0) H := by rw [← hz1, ← h]; exact hP
      have hD : va_D A (xX a k Bz Lz R0 T0 U0 V0) := by rw [← hz1, ← h]; exact hD
      subst hQ
      subst hAe
      exact r_i hx hb hr hlocks hz0 hP hD hS dX4_margin_79
  rw [f_X4_margin] at h
  obtain ⟨H, hH⟩ : ∃ H, H = s.heap := ⟨_, rfl⟩
  obtain ⟨locs, hlc⟩ : ∃ L : List Loc, L = [] := ⟨_, rfl⟩
  rw [← hH] at hP
  have hS : va_S A s.heap H locs := by rw [hH, hlc]; exact hS
  suffices hW9 : W p l e rm_X4_margin s m args below meth c H locs 0 0 Q (F0 m 0 ls []) by rw [hH, hlc] at hW9; exact hW9
  refine lv_iload_n hx hb dX4_margin_0 rfl (lv_at hl 1 rfl) ?_
  obtain ⟨r11, q11, h⟩ := b1_s h
  refine go_i (run_S (As := [.int p0]) (rest := []) ⟨hx, hb, hml, hown, hts⟩ hnw hK hP hD (fr_X_E a k B0 L0 R0 T0 U0 V0) (ks_X_E k) (c_X4_isStretch l D H.size p0 r11 q11) (cwS 1 hts gX4_margin_X4_isStretch rfl rfl rfl (by decide +kernel) ⟨Nat.le_of_ble_eq_true rfl, Nat.le_of_ble_eq_true rfl⟩) rfl hl.1 rfl (Nat.le_of_ble_eq_true rfl) dX4_margin_1 ⟨Nat.zero_le _, Nat.zero_le _⟩) hP hD hS hA (fr_X_E a k B0 L0 R0 T0 U0 V0) (fun H locs hP hD hS => ?_)
  refine lv_if_eq (tgt := 14) hx hb dX4_margin_4 (by decide) (fun c12 => ?_) (fun c12 => ?_)
  · have h := it_t c12 h
    refine lv_iconst (v := (-1 : Int32)) hx hb dX4_margin_14 (by decide) ?_
    have h := Option.some.inj h
    obtain ⟨hz0, h⟩ := Prod.mk.inj h
    obtain ⟨hz1, h⟩ := Prod.mk.inj h
    have hP : va_P D vwCl (xX a k Bz Lz R0 T0 U0 V0) H := by rw [← hz1, ← h]; exact hP
    have hD : va_D A (xX a k Bz Lz R0 T0 U0 V0) := by rw [← hz1, ← h]; exact hD
    subst hQ
    subst hAe
    exact r_i hx hb hr hlocks hz0 hP hD hS dX4_margin_15
  · have h := it_f c12 h
    refine lv_iload_n hx hb dX4_margin_7 rfl (lv_at hl 2 rfl) ?_
    obtain ⟨r13, q13, h⟩ := b1_s h
    refine go_i (run_S (As := [.int p1]) (rest := []) ⟨hx, hb, hml, hown, hts⟩ hnw hK hP hD (fr_X_E a k B0 L0 R0 T0 U0 V0) (ks_X_E k) (c_X4_isTemperature l D H.size p1 r13 q13) (cwS 1 hts gX4_margin_X4_isTemperature rfl rfl rfl (by decide +kernel) ⟨Nat.le_of_ble_eq_true rfl, Nat.le_of_ble_eq_true rfl⟩) rfl hl.1 rfl (Nat.le_of_ble_eq_true rfl) dX4_margin_8 ⟨Nat.zero_le _, Nat.zero_le _⟩) hP hD hS hA (fr_X_E a k B0 L0 R0 T0 U0 V0) (fun H locs hP hD hS => ?_)
    refine lv_if_ne (tgt := 16) hx hb dX4_margin_11 (by decide) (fun c14 => ?_) (fun c14 => ?_)
    · have h := it_f c14 h
      refine lv_aload_n hx hb dX4_margin_16 rfl (lv_at hl 0 rfl) ?_
      refine va_get (D := D) (ci := 4) (v := .ref (a 0)) (C := RX4) (T := TX4) (N := 8) hx hb hts hin4 hown hK hP 0 rfl rfl 0 (by decide) (hts (.fieldLink RX4 10 "BallastLine" "track" "LBallastLine$Track;") (List.mem_of_getElem? (i := 1) rfl)) (fun _ h9 => h9) rfl dX4_margin_17 ?_
      refine va_getN (host := RX4) (D := D) (ci := 1) (v := .int (T0 7 0)) (C := RX1) (T := TX1) (N := 8) hx hb hts hin1 hown hK hP 6 rfl rfl 7 (by decide) (va_Nw.use rfl (hnw.1 (RX4, 120, "BallastLine$Track", "size", "I", RX4) (List.mem_of_getElem? (i := 9) rfl))) (fun _ h9 => h9) rfl dX4_margin_20 ?_
      refine lv_iconst (v := (4 : Int32)) hx hb dX4_margin_23 (by decide) ?_
      obtain ⟨g15, h⟩ := gd_s h
      refine lv_idiv hx hb dX4_margin_24 (nz32_s g15) ?_
      refine lv_topi (fun v16 ev16 => ?_)
      have h := ltt_s ev16 h
      refine lv_istore_n (lv' := [(3, .int v16), (0, .ref (a 26)), (1, .int p0), (2, .int p1)]) hx hb dX4_margin_25 rfl hl (by decide) rfl (fun ls hl => ?_)
      refine lv_iload_n hx hb dX4_margin_26 rfl (lv_at hl 2 rfl) ?_
      refine lv_iload_n hx hb dX4_margin_27 rfl (lv_at hl 0 rfl) ?_
      refine lv_imul hx hb dX4_margin_28 ?_
      refine lv_topi (fun v17 ev17 => ?_)
      have h := ltt_s ev17 h
      refine lv_istore (lv' := [(4, .int v17), (3, .int v16), (0, .ref (a 26)), (1, .int p0), (2, .int p1)]) hx hb dX4_margin_29 hl (by decide) rfl (fun ls hl => ?_)
      refine lv_iload_n hx hb dX4_margin_31 rfl (lv_at hl 3 rfl) ?_
      refine lv_iconst (v := (3 : Int32)) hx hb dX4_margin_32 (by decide) ?_
      refine lv_icmp_ne (tgt := 48) hx hb dX4_margin_33 (by decide) (fun c18 => ?_) (fun c18 => ?_)
      · have h := it_f c18 h
        refine lv_iload hx hb dX4_margin_48 (lv_at hl 0 rfl) ?_
        refine lv_iload_n hx hb dX4_margin_50 rfl (lv_at hl 1 rfl) ?_
        refine lv_iadd hx hb dX4_margin_51 ?_
        refine lv_iconst (v := (1 : Int32)) hx hb dX4_margin_52 (by decide) ?_
        refine lv_isub hx hb dX4_margin_53 ?_
        exact lb54  v17 ((v17 + v16) - (1 : Int32)) B0 L0 H locs hP hD hS ls (lv_sub hl [2, 3, 4, 0] rfl) h
      · have h := it_t c18 h
        refine lv_aload_n hx hb dX4_margin_36 rfl (lv_at hl 2 rfl) ?_
        refine va_get (D := D) (ci := 4) (v := .ref (a 0)) (C := RX4) (T := TX4) (N := 8) hx hb hts hin4 hown hK hP 0 rfl rfl 0 (by decide) (hts (.fieldLink RX4 10 "BallastLine" "track" "LBallastLine$Track;") (List.mem_of_getElem? (i := 1) rfl)) (fun _ h9 => h9) rfl dX4_margin_37 ?_
        refine va_getN (host := RX4) (D := D) (ci := 1) (v := .int (T0 7 0)) (C := RX1) (T := TX1) (N := 8) hx hb hts hin1 hown hK hP 6 rfl rfl 7 (by decide) (va_Nw.use rfl (hnw.1 (RX4, 120, "BallastLine$Track", "size", "I", RX4) (List.mem_of_getElem? (i := 9) rfl))) (fun _ h9 => h9) rfl dX4_margin_40 ?_
        refine lv_iconst (v := (1 : Int32)) hx hb dX4_margin_43 (by decide) ?_
        refine lv_isub hx hb dX4_margin_44 ?_
        refine lv_goto (tgt := 54) hx hb dX4_margin_45 (by decide) ?_
        exact lb54  v17 ((T0 7 0) - (1 : Int32)) B0 L0 H locs hP hD hS ls (lv_sub hl [2, 3, 4, 0] rfl) h
    · have h := it_t c14 h
      refine lv_iconst (v := (-1 : Int32)) hx hb dX4_margin_14 (by decide) ?_
      have h := Option.some.inj h
      obtain ⟨hz0, h⟩ := Prod.mk.inj h
      obtain ⟨hz1, h⟩ := Prod.mk.inj h
      have hP : va_P D vwCl (xX a k Bz Lz R0 T0 U0 V0) H := by rw [← hz1, ← h]; exact hP
      have hD : va_D A (xX a k Bz Lz R0 T0 U0 V0) := by rw [← hz1, ← h]; exact hD
      subst hQ
      subst hAe
      exact r_i hx hb hr hlocks hz0 hP hD hS dX4_margin_15
def f_X4_work (V0 : Nat → Nat → Int32) (p0 : Int32) (p1 : Int32) : Option (Int32 × (Nat → Nat → Int32)) := b1 (f_X4_within p0 (1 : Int32) (1000 : Int32)) (fun r1 => if r1 = (0 : Int32) then (some ((-1 : Int32), V0)) else (b1 (f_X4_within p1 (0 : Int32) (1000 : Int32)) (fun r3 => if r3 = (0 : Int32) then (some ((-1 : Int32), V0)) else (if (V0 5 0) < (14 : Int32) then (b2 (f_X3_add V0 p0 p1) (fun r6 (V_6 : Nat → Nat → Int32) => some (r6, V_6))) else (some ((-2 : Int32), V0))))))
abbrev rm_X4_work : Room := { frames := 2, cells := 0, slots := 0, locals := 46 }
set_option maxHeartbeats 4000000 in
set_option maxRecDepth 100000 in
theorem c_X4_work (l : Launch) (D : va_G) (a : Nat → Nat) (k : Nat → ClassId) (sz : Nat) (B0 : Nat → Nat → Int32) (L0 : Int64) (R0 : Nat → Nat → Int32) (T0 : Nat → Nat → Int32) (U0 : Nat → Nat → Int32) (V0 : Nat → Nat → Int32) (p0 : Int32) (p1 : Int32) (r : Int32) (Vz : (Nat → Nat → Int32)) (h : f_X4_work V0 p0 p1 = some (r, Vz)) : Met l yX4_work wsX4_work rm_X4_work (mPc D [.ref (a 26), .int p0, .int p1] (xX a k B0 L0 R0 T0 U0 V0) (tX k) sz) (mQi D (xX a k B0 L0 R0 T0 U0 V0) (xX a k B0 L0 R0 T0 U0 Vz) sz r) 0 0 (va_A (xX a k B0 L0 R0 T0 U0 V0) sz) := by
  refine mk_met (cc := cX4_work) (maxL := 3) (ret := (some .int)) (by decide) rfl (Nat.le_of_ble_eq_true rfl) ?_
  intro p e s m below meth c hx hb hr hml hts hown hmn hlocks hnw hsz hK hP hD hS hA ls hl
  obtain ⟨A, hAe⟩ : ∃ A, A = va_A (xX a k B0 L0 R0 T0 U0 V0) sz := ⟨_, rfl⟩
  rw [← hAe] at hD hS hA
  generalize hargs : List.toArray ([.ref (a 26), .int p0, .int p1] : List Value) = args at hts ⊢
  generalize hQ : MQ below (mQi D (xX a k B0 L0 R0 T0 U0 V0) (xX a k B0 L0 R0 T0 U0 Vz) sz r) args s 0 0 (va_A (xX a k B0 L0 R0 T0 U0 V0) sz) = Q
  have hl : lv_has ls 3 [(0, .ref (a 26)), (1, .int p0), (2, .int p1)] := hl
  have hin3 : ∀ w ∈ wsX30, w ∈ wsX4_work := fun w h => List.mem_cons_of_mem _ (List.mem_append_right _ h)
  have hin4 : ∀ w ∈ wsX40, w ∈ wsX4_work := fun w h => List.mem_cons_of_mem _ (List.mem_append_left _ (List.mem_append_right _ h))
  rw [f_X4_work] at h
  obtain ⟨H, hH⟩ : ∃ H, H = s.heap := ⟨_, rfl⟩
  obtain ⟨locs, hlc⟩ : ∃ L : List Loc, L = [] := ⟨_, rfl⟩
  rw [← hH] at hP
  have hS : va_S A s.heap H locs := by rw [hH, hlc]; exact hS
  suffices hW9 : W p l e rm_X4_work s m args below meth c H locs 0 0 Q (F0 m 0 ls []) by rw [hH, hlc] at hW9; exact hW9
  refine lv_iload_n hx hb dX4_work_0 rfl (lv_at hl 1 rfl) ?_
  refine lv_iconst (v := (1 : Int32)) hx hb dX4_work_1 (by decide) ?_
  refine lv_sipush (v := (1000 : Int32)) hx hb dX4_work_2 (by decide) ?_
  obtain ⟨r1, q1, h⟩ := b1_s h
  refine go_i (run_S (As := [.int p0, .int (1 : Int32), .int (1000 : Int32)]) (rest := []) ⟨hx, hb, hml, hown, hts⟩ hnw hK hP hD (fr_X_E a k B0 L0 R0 T0 U0 V0) (ks_X_E k) (c_X4_within l D H.size p0 (1 : Int32) (1000 : Int32) r1 q1) (cwS 3 hts gX4_work_X4_within rfl rfl rfl (by decide +kernel) ⟨Nat.le_of_ble_eq_true rfl, Nat.le_of_ble_eq_true rfl⟩) rfl hl.1 rfl (Nat.le_of_ble_eq_true rfl) dX4_work_5 ⟨Nat.zero_le _, Nat.zero_le _⟩) hP hD hS hA (fr_X_E a k B0 L0 R0 T0 U0 V0) (fun H locs hP hD hS => ?_)
  refine lv_if_eq (tgt := 22) hx hb dX4_work_8 (by decide) (fun c2 => ?_) (fun c2 => ?_)
  · have h := it_t c2 h
    refine lv_iconst (v := (-1 : Int32)) hx hb dX4_work_22 (by decide) ?_
    have h := Option.some.inj h
    obtain ⟨hz0, h⟩ := Prod.mk.inj h
    have hP : va_P D vwCl (xX a k B0 L0 R0 T0 U0 Vz) H := by rw [← h]; exact hP
    have hD : va_D A (xX a k B0 L0 R0 T0 U0 Vz) := by rw [← h]; exact hD
    subst hQ
    subst hAe
    exact r_i hx hb hr hlocks hz0 hP hD hS dX4_work_23
  · have h := it_f c2 h
    refine lv_iload_n hx hb dX4_work_11 rfl (lv_at hl 2 rfl) ?_
    refine lv_iconst (v := (0 : Int32)) hx hb dX4_work_12 (by decide) ?_
    refine lv_sipush (v := (1000 : Int32)) hx hb dX4_work_13 (by decide) ?_
    obtain ⟨r3, q3, h⟩ := b1_s h
    refine go_i (run_S (As := [.int p1, .int (0 : Int32), .int (1000 : Int32)]) (rest := []) ⟨hx, hb, hml, hown, hts⟩ hnw hK hP hD (fr_X_E a k B0 L0 R0 T0 U0 V0) (ks_X_E k) (c_X4_within l D H.size p1 (0 : Int32) (1000 : Int32) r3 q3) (cwS 3 hts gX4_work_X4_within rfl rfl rfl (by decide +kernel) ⟨Nat.le_of_ble_eq_true rfl, Nat.le_of_ble_eq_true rfl⟩) rfl hl.1 rfl (Nat.le_of_ble_eq_true rfl) dX4_work_16 ⟨Nat.zero_le _, Nat.zero_le _⟩) hP hD hS hA (fr_X_E a k B0 L0 R0 T0 U0 V0) (fun H locs hP hD hS => ?_)
    refine lv_if_ne (tgt := 24) hx hb dX4_work_19 (by decide) (fun c4 => ?_) (fun c4 => ?_)
    · have h := it_f c4 h
      refine lv_aload_n hx hb dX4_work_24 rfl (lv_at hl 0 rfl) ?_
      refine va_get (D := D) (ci := 4) (v := .ref (a 20)) (C := RX4) (T := TX4) (N := 8) hx hb hts hin4 hown hK hP 0 rfl rfl 3 (by decide) (hts (.fieldLink RX4 33 "BallastLine" "works" "LBallastLine$Works;") (List.mem_of_getElem? (i := 1) rfl)) (fun _ h9 => h9) rfl dX4_work_25 ?_
      refine va_getN (host := RX4) (D := D) (ci := 3) (v := .int (V0 5 0)) (C := RX3) (T := TX3) (N := 6) hx hb hts hin3 hown hK hP 23 rfl rfl 5 (by decide) (va_Nw.use rfl (hnw.1 (RX4, 207, "BallastLine$Works", "size", "I", RX4) (List.mem_of_getElem? (i := 15) rfl))) (fun _ h9 => h9) rfl dX4_work_28 ?_
      refine lv_bipush (v := (14 : Int32)) hx hb dX4_work_31 (by decide) ?_
      refine lv_icmp_lt (tgt := 39) hx hb dX4_work_33 (by decide) (fun c5 => ?_) (fun c5 => ?_)
      · have h := it_t c5 h
        refine lv_aload_n hx hb dX4_work_39 rfl (lv_at hl 0 rfl) ?_
        refine va_get (D := D) (ci := 4) (v := .ref (a 20)) (C := RX4) (T := TX4) (N := 8) hx hb hts hin4 hown hK hP 0 rfl rfl 3 (by decide) (hts (.fieldLink RX4 33 "BallastLine" "works" "LBallastLine$Works;") (List.mem_of_getElem? (i := 1) rfl)) (fun _ h9 => h9) rfl dX4_work_40 ?_
        refine lv_iload_n hx hb dX4_work_43 rfl (lv_at hl 1 rfl) ?_
        refine lv_iload_n hx hb dX4_work_44 rfl (lv_at hl 2 rfl) ?_
        obtain ⟨r6, V_6, q6, h⟩ := b2_s h
        refine go_i (run_VN (As := [.int p0, .int p1]) (rest := []) ⟨hx, hb, hml, hown, hts⟩ hnw hK hP hD (fr_X_V a k B0 L0 R0 T0 U0 V0 V_6) (ks_X_V k) (c_X3_add l D a k H.size V0 p0 p1 r6 V_6 q6) ⟨va_cnB 2 hts ggX4_work_X3_add rfl rfl rfl (hnw.2 (RX4, 208, yX3_add, RX4) (List.mem_of_getElem? (i := 30) rfl)) (hts (.initialized RX3) (List.mem_of_getElem? (i := 7) rfl)) (by decide +kernel) ⟨Nat.le_of_ble_eq_true rfl, Nat.le_of_ble_eq_true rfl⟩, (hts (.instanceMethod yX3_add) (List.mem_of_getElem? (i := 6) rfl)), (hts (.selects RX3 yX3_add yX3_add) (List.mem_of_getElem? (i := 8) rfl))⟩ (rcv_V a k V0) rfl hl.1 rfl (Nat.le_of_ble_eq_true rfl) dX4_work_45 ⟨Nat.zero_le _, Nat.zero_le _⟩) hP hD hS hA (fr_X_V a k B0 L0 R0 T0 U0 V0 V_6) (fun H locs hP hD hS => ?_)
        have h := Option.some.inj h
        obtain ⟨hz0, h⟩ := Prod.mk.inj h
        have hP : va_P D vwCl (xX a k B0 L0 R0 T0 U0 Vz) H := by rw [← h]; exact hP
        have hD : va_D A (xX a k B0 L0 R0 T0 U0 Vz) := by rw [← h]; exact hD
        subst hQ
        subst hAe
        exact r_i hx hb hr hlocks hz0 hP hD hS dX4_work_48
      · have h := it_f c5 h
        refine lv_bipush (v := (-2 : Int32)) hx hb dX4_work_36 (by decide) ?_
        have h := Option.some.inj h
        obtain ⟨hz0, h⟩ := Prod.mk.inj h
        have hP : va_P D vwCl (xX a k B0 L0 R0 T0 U0 Vz) H := by rw [← h]; exact hP
        have hD : va_D A (xX a k B0 L0 R0 T0 U0 Vz) := by rw [← h]; exact hD
        subst hQ
        subst hAe
        exact r_i hx hb hr hlocks hz0 hP hD hS dX4_work_38
    · have h := it_t c4 h
      refine lv_iconst (v := (-1 : Int32)) hx hb dX4_work_22 (by decide) ?_
      have h := Option.some.inj h
      obtain ⟨hz0, h⟩ := Prod.mk.inj h
      have hP : va_P D vwCl (xX a k B0 L0 R0 T0 U0 Vz) H := by rw [← h]; exact hP
      have hD : va_D A (xX a k B0 L0 R0 T0 U0 Vz) := by rw [← h]; exact hD
      subst hQ
      subst hAe
      exact r_i hx hb hr hlocks hz0 hP hD hS dX4_work_23
def f_X4_best (L0 : Int64) (V0 : Nat → Nat → Int32) (p0 : Int32) : Option (Int32 × Int64) := b1 (f_X4_within p0 (0 : Int32) (14000 : Int32)) (fun r1 => if r1 = (0 : Int32) then (some ((-1 : Int32), L0)) else (b1 (f_X3_bestSet V0 p0) (fun r3 => b2 (f_X4_tell L0 (Int32.toInt64 r3)) (fun r4 (L_4 : Int64) => b1 (f_X3_gainOf V0 r3) (fun r5 => some (r5, L_4))))))
abbrev rm_X4_best : Room := { frames := 2, cells := 0, slots := 0, locals := 48 }
set_option maxHeartbeats 4000000 in
set_option maxRecDepth 100000 in
theorem c_X4_best (l : Launch) (D : va_G) (a : Nat → Nat) (k : Nat → ClassId) (sz : Nat) (B0 : Nat → Nat → Int32) (L0 : Int64) (R0 : Nat → Nat → Int32) (T0 : Nat → Nat → Int32) (U0 : Nat → Nat → Int32) (V0 : Nat → Nat → Int32) (p0 : Int32) (r : Int32) (Lz : Int64) (h : f_X4_best L0 V0 p0 = some (r, Lz)) : Met l yX4_best wsX4_best rm_X4_best (mPc D [.ref (a 26), .int p0] (xX a k B0 L0 R0 T0 U0 V0) (tX k) sz) (mQi D (xX a k B0 L0 R0 T0 U0 V0) (xX a k B0 Lz R0 T0 U0 V0) sz r) 0 0 (va_A (xX a k B0 L0 R0 T0 U0 V0) sz) := by
  refine mk_met (cc := cX4_best) (maxL := 3) (ret := (some .int)) (by decide) rfl (Nat.le_of_ble_eq_true rfl) ?_
  intro p e s m below meth c hx hb hr hml hts hown hmn hlocks hnw hsz hK hP hD hS hA ls hl
  obtain ⟨A, hAe⟩ : ∃ A, A = va_A (xX a k B0 L0 R0 T0 U0 V0) sz := ⟨_, rfl⟩
  rw [← hAe] at hD hS hA
  generalize hargs : List.toArray ([.ref (a 26), .int p0] : List Value) = args at hts ⊢
  generalize hQ : MQ below (mQi D (xX a k B0 L0 R0 T0 U0 V0) (xX a k B0 Lz R0 T0 U0 V0) sz r) args s 0 0 (va_A (xX a k B0 L0 R0 T0 U0 V0) sz) = Q
  have hl : lv_has ls 3 [(0, .ref (a 26)), (1, .int p0)] := hl
  have hin4 : ∀ w ∈ wsX40, w ∈ wsX4_best := fun w h => List.mem_cons_of_mem _ (List.mem_append_left _ (List.mem_append_right _ h))
  rw [f_X4_best] at h
  obtain ⟨H, hH⟩ : ∃ H, H = s.heap := ⟨_, rfl⟩
  obtain ⟨locs, hlc⟩ : ∃ L : List Loc, L = [] := ⟨_, rfl⟩
  rw [← hH] at hP
  have hS : va_S A s.heap H locs := by rw [hH, hlc]; exact hS
  suffices hW9 : W p l e rm_X4_best s m args below meth c H locs 0 0 Q (F0 m 0 ls []) by rw [hH, hlc] at hW9; exact hW9
  refine lv_iload_n hx hb dX4_best_0 rfl (lv_at hl 1 rfl) ?_
  refine lv_iconst (v := (0 : Int32)) hx hb dX4_best_1 (by decide) ?_
  refine lv_sipush (v := (14000 : Int32)) hx hb dX4_best_2 (by decide) ?_
  obtain ⟨r1, q1, h⟩ := b1_s h
  refine go_i (run_S (As := [.int p0, .int (0 : Int32), .int (14000 : Int32)]) (rest := []) ⟨hx, hb, hml, hown, hts⟩ hnw hK hP hD (fr_X_E a k B0 L0 R0 T0 U0 V0) (ks_X_E k) (c_X4_within l D H.size p0 (0 : Int32) (14000 : Int32) r1 q1) (cwS 3 hts gX4_best_X4_within rfl rfl rfl (by decide +kernel) ⟨Nat.le_of_ble_eq_true rfl, Nat.le_of_ble_eq_true rfl⟩) rfl hl.1 rfl (Nat.le_of_ble_eq_true rfl) dX4_best_5 ⟨Nat.zero_le _, Nat.zero_le _⟩) hP hD hS hA (fr_X_E a k B0 L0 R0 T0 U0 V0) (fun H locs hP hD hS => ?_)
  refine lv_if_ne (tgt := 13) hx hb dX4_best_8 (by decide) (fun c2 => ?_) (fun c2 => ?_)
  · have h := it_f c2 h
    refine lv_aload_n hx hb dX4_best_13 rfl (lv_at hl 0 rfl) ?_
    refine va_get (D := D) (ci := 4) (v := .ref (a 20)) (C := RX4) (T := TX4) (N := 8) hx hb hts hin4 hown hK hP 0 rfl rfl 3 (by decide) (hts (.fieldLink RX4 33 "BallastLine" "works" "LBallastLine$Works;") (List.mem_of_getElem? (i := 1) rfl)) (fun _ h9 => h9) rfl dX4_best_14 ?_
    refine lv_iload_n hx hb dX4_best_17 rfl (lv_at hl 1 rfl) ?_
    obtain ⟨r3, q3, h⟩ := b1_s h
    refine go_i (run_VN (As := [.int p0]) (rest := []) ⟨hx, hb, hml, hown, hts⟩ hnw hK hP hD (fr_X_V a k B0 L0 R0 T0 U0 V0 V0) (ks_X_V k) (c_X3_bestSet l D a k H.size V0 p0 r3 q3) ⟨va_cnB 1 hts ggX4_best_X3_bestSet rfl rfl rfl (hnw.2 (RX4, 211, yX3_bestSet, RX4) (List.mem_of_getElem? (i := 31) rfl)) (hts (.initialized RX3) (List.mem_of_getElem? (i := 7) rfl)) (by decide +kernel) ⟨Nat.le_of_ble_eq_true rfl, Nat.le_of_ble_eq_true rfl⟩, (hts (.instanceMethod yX3_bestSet) (List.mem_of_getElem? (i := 6) rfl)), (hts (.selects RX3 yX3_bestSet yX3_bestSet) (List.mem_of_getElem? (i := 8) rfl))⟩ (rcv_V a k V0) rfl hl.1 rfl (Nat.le_of_ble_eq_true rfl) dX4_best_18 ⟨Nat.zero_le _, Nat.zero_le _⟩) hP hD hS hA (fr_X_V a k B0 L0 R0 T0 U0 V0 V0) (fun H locs hP hD hS => ?_)
    refine lv_istore_n (lv' := [(2, .int r3), (0, .ref (a 26)), (1, .int p0)]) hx hb dX4_best_21 rfl hl (by decide) rfl (fun ls hl => ?_)
    refine lv_aload_n hx hb dX4_best_22 rfl (lv_at hl 1 rfl) ?_
    refine lv_iload_n hx hb dX4_best_23 rfl (lv_at hl 0 rfl) ?_
    refine lv_i2l (v := (Int32.toInt64 r3)) hx hb dX4_best_24 rfl ?_
    obtain ⟨r4, L_4, q4, h⟩ := b2_s h
    refine go_i (run_V (As := [.long (Int32.toInt64 r3)]) (rest := []) ⟨hx, hb, hml, hown, hts⟩ hnw hK hP hD (fr_X_X a k B0 L0 R0 T0 U0 V0 B0 L_4 R0 T0 U0 V0) (ks_X_X k) (c_X4_tell l D a k H.size B0 L0 R0 T0 U0 V0 (Int32.toInt64 r3) r4 L_4 q4) (cwV 1 hts gX4_best_X4_tell rfl rfl rfl (by decide +kernel) ⟨Nat.le_of_ble_eq_true rfl, Nat.le_of_ble_eq_true rfl⟩) (rcv_X a k B0 L0 R0 T0 U0 V0) rfl hl.1 rfl (Nat.le_of_ble_eq_true rfl) dX4_best_25 ⟨Nat.zero_le _, Nat.zero_le _⟩) hP hD hS hA (fr_X_X a k B0 L0 R0 T0 U0 V0 B0 L_4 R0 T0 U0 V0) (fun H locs hP hD hS => ?_)
    refine lv_pop hx hb dX4_best_28 rfl ?_
    refine lv_aload_n hx hb dX4_best_29 rfl (lv_at hl 1 rfl) ?_
    refine va_get (D := D) (ci := 4) (v := .ref (a 20)) (C := RX4) (T := TX4) (N := 8) hx hb hts hin4 hown hK hP 0 rfl rfl 3 (by decide) (hts (.fieldLink RX4 33 "BallastLine" "works" "LBallastLine$Works;") (List.mem_of_getElem? (i := 1) rfl)) (fun _ h9 => h9) rfl dX4_best_30 ?_
    refine lv_iload_n hx hb dX4_best_33 rfl (lv_at hl 0 rfl) ?_
    obtain ⟨r5, q5, h⟩ := b1_s h
    refine go_i (run_VN (As := [.int r3]) (rest := []) ⟨hx, hb, hml, hown, hts⟩ hnw hK hP hD (fr_X_V a k B0 L_4 R0 T0 U0 V0 V0) (ks_X_V k) (c_X3_gainOf l D a k H.size V0 r3 r5 q5) ⟨va_cnB 1 hts ggX4_best_X3_gainOf rfl rfl rfl (hnw.2 (RX4, 214, yX3_gainOf, RX4) (List.mem_of_getElem? (i := 32) rfl)) (hts (.initialized RX3) (List.mem_of_getElem? (i := 7) rfl)) (by decide +kernel) ⟨Nat.le_of_ble_eq_true rfl, Nat.le_of_ble_eq_true rfl⟩, (hts (.instanceMethod yX3_gainOf) (List.mem_of_getElem? (i := 27) rfl)), (hts (.selects RX3 yX3_gainOf yX3_gainOf) (List.mem_of_getElem? (i := 28) rfl))⟩ (rcv_V a k V0) rfl hl.1 rfl (Nat.le_of_ble_eq_true rfl) dX4_best_34 ⟨Nat.zero_le _, Nat.zero_le _⟩) hP hD hS hA (fr_X_V a k B0 L_4 R0 T0 U0 V0 V0) (fun H locs hP hD hS => ?_)
    have h := Option.some.inj h
    obtain ⟨hz0, h⟩ := Prod.mk.inj h
    have hP : va_P D vwCl (xX a k B0 Lz R0 T0 U0 V0) H := by rw [← h]; exact hP
    have hD : va_D A (xX a k B0 Lz R0 T0 U0 V0) := by rw [← h]; exact hD
    subst hQ
    subst hAe
    exact r_i hx hb hr hlocks hz0 hP hD hS dX4_best_37
  · have h := it_t c2 h
    refine lv_iconst (v := (-1 : Int32)) hx hb dX4_best_11 (by decide) ?_
    have h := Option.some.inj h
    obtain ⟨hz0, h⟩ := Prod.mk.inj h
    have hP : va_P D vwCl (xX a k B0 Lz R0 T0 U0 V0) H := by rw [← h]; exact hP
    have hD : va_D A (xX a k B0 Lz R0 T0 U0 V0) := by rw [← h]; exact hD
    subst hQ
    subst hAe
    exact r_i hx hb hr hlocks hz0 hP hD hS dX4_best_12
def f_X4_first (L0 : Int64) (V0 : Nat → Nat → Int32) (p0 : Int32) : Option (Int32 × Int64) := b1 (f_X4_within p0 (0 : Int32) (14000 : Int32)) (fun r1 => if r1 = (0 : Int32) then (some ((-1 : Int32), L0)) else (b1 (f_X3_worstFirst V0 p0) (fun r3 => b2 (f_X4_tell L0 (Int32.toInt64 r3)) (fun r4 (L_4 : Int64) => b1 (f_X3_gainOf V0 r3) (fun r5 => some (r5, L_4))))))
abbrev rm_X4_first : Room := { frames := 1, cells := 0, slots := 0, locals := 25 }
set_option maxHeartbeats 4000000 in
set_option maxRecDepth 100000 in
theorem c_X4_first (l : Launch) (D : va_G) (a : Nat → Nat) (k : Nat → ClassId) (sz : Nat) (B0 : Nat → Nat → Int32) (L0 : Int64) (R0 : Nat → Nat → Int32) (T0 : Nat → Nat → Int32) (U0 : Nat → Nat → Int32) (V0 : Nat → Nat → Int32) (p0 : Int32) (r : Int32) (Lz : Int64) (h : f_X4_first L0 V0 p0 = some (r, Lz)) : Met l yX4_first wsX4_first rm_X4_first (mPc D [.ref (a 26), .int p0] (xX a k B0 L0 R0 T0 U0 V0) (tX k) sz) (mQi D (xX a k B0 L0 R0 T0 U0 V0) (xX a k B0 Lz R0 T0 U0 V0) sz r) 0 0 (va_A (xX a k B0 L0 R0 T0 U0 V0) sz) := by
  refine mk_met (cc := cX4_first) (maxL := 3) (ret := (some .int)) (by decide) rfl (Nat.le_of_ble_eq_true rfl) ?_
  intro p e s m below meth c hx hb hr hml hts hown hmn hlocks hnw hsz hK hP hD hS hA ls hl
  obtain ⟨A, hAe⟩ : ∃ A, A = va_A (xX a k B0 L0 R0 T0 U0 V0) sz := ⟨_, rfl⟩
  rw [← hAe] at hD hS hA
  generalize hargs : List.toArray ([.ref (a 26), .int p0] : List Value) = args at hts ⊢
  generalize hQ : MQ below (mQi D (xX a k B0 L0 R0 T0 U0 V0) (xX a k B0 Lz R0 T0 U0 V0) sz r) args s 0 0 (va_A (xX a k B0 L0 R0 T0 U0 V0) sz) = Q
  have hl : lv_has ls 3 [(0, .ref (a 26)), (1, .int p0)] := hl
  have hin4 : ∀ w ∈ wsX40, w ∈ wsX4_first := fun w h => List.mem_cons_of_mem _ (List.mem_append_left _ (List.mem_append_right _ h))
  rw [f_X4_first] at h
  obtain ⟨H, hH⟩ : ∃ H, H = s.heap := ⟨_, rfl⟩
  obtain ⟨locs, hlc⟩ : ∃ L : List Loc, L = [] := ⟨_, rfl⟩
  rw [← hH] at hP
  have hS : va_S A s.heap H locs := by rw [hH, hlc]; exact hS
  suffices hW9 : W p l e rm_X4_first s m args below meth c H locs 0 0 Q (F0 m 0 ls []) by rw [hH, hlc] at hW9; exact hW9
  refine lv_iload_n hx hb dX4_first_0 rfl (lv_at hl 1 rfl) ?_
  refine lv_iconst (v := (0 : Int32)) hx hb dX4_first_1 (by decide) ?_
  refine lv_sipush (v := (14000 : Int32)) hx hb dX4_first_2 (by decide) ?_
  obtain ⟨r1, q1, h⟩ := b1_s h
  refine go_i (run_S (As := [.int p0, .int (0 : Int32), .int (14000 : Int32)]) (rest := []) ⟨hx, hb, hml, hown, hts⟩ hnw hK hP hD (fr_X_E a k B0 L0 R0 T0 U0 V0) (ks_X_E k) (c_X4_within l D H.size p0 (0 : Int32) (14000 : Int32) r1 q1) (cwS 3 hts gX4_first_X4_within rfl rfl rfl (by decide +kernel) ⟨Nat.le_of_ble_eq_true rfl, Nat.le_of_ble_eq_true rfl⟩) rfl hl.1 rfl (Nat.le_of_ble_eq_true rfl) dX4_first_5 ⟨Nat.zero_le _, Nat.zero_le _⟩) hP hD hS hA (fr_X_E a k B0 L0 R0 T0 U0 V0) (fun H locs hP hD hS => ?_)
  refine lv_if_ne (tgt := 13) hx hb dX4_first_8 (by decide) (fun c2 => ?_) (fun c2 => ?_)
  · have h := it_f c2 h
    refine lv_aload_n hx hb dX4_first_13 rfl (lv_at hl 0 rfl) ?_
    refine va_get (D := D) (ci := 4) (v := .ref (a 20)) (C := RX4) (T := TX4) (N := 8) hx hb hts hin4 hown hK hP 0 rfl rfl 3 (by decide) (hts (.fieldLink RX4 33 "BallastLine" "works" "LBallastLine$Works;") (List.mem_of_getElem? (i := 1) rfl)) (fun _ h9 => h9) rfl dX4_first_14 ?_
    refine lv_iload_n hx hb dX4_first_17 rfl (lv_at hl 1 rfl) ?_
    obtain ⟨r3, q3, h⟩ := b1_s h
    refine go_i (run_VN (As := [.int p0]) (rest := []) ⟨hx, hb, hml, hown, hts⟩ hnw hK hP hD (fr_X_V a k B0 L0 R0 T0 U0 V0 V0) (ks_X_V k) (c_X3_worstFirst l D a k H.size V0 p0 r3 q3) ⟨va_cnB 1 hts ggX4_first_X3_worstFirst rfl rfl rfl (hnw.2 (RX4, 217, yX3_worstFirst, RX4) (List.mem_of_getElem? (i := 33) rfl)) (hts (.initialized RX3) (List.mem_of_getElem? (i := 7) rfl)) (by decide +kernel) ⟨Nat.le_of_ble_eq_true rfl, Nat.le_of_ble_eq_true rfl⟩, (hts (.instanceMethod yX3_worstFirst) (List.mem_of_getElem? (i := 6) rfl)), (hts (.selects RX3 yX3_worstFirst yX3_worstFirst) (List.mem_of_getElem? (i := 8) rfl))⟩ (rcv_V a k V0) rfl hl.1 rfl (Nat.le_of_ble_eq_true rfl) dX4_first_18 ⟨Nat.zero_le _, Nat.zero_le _⟩) hP hD hS hA (fr_X_V a k B0 L0 R0 T0 U0 V0 V0) (fun H locs hP hD hS => ?_)
    refine lv_istore_n (lv' := [(2, .int r3), (0, .ref (a 26)), (1, .int p0)]) hx hb dX4_first_21 rfl hl (by decide) rfl (fun ls hl => ?_)
    refine lv_aload_n hx hb dX4_first_22 rfl (lv_at hl 1 rfl) ?_
    refine lv_iload_n hx hb dX4_first_23 rfl (lv_at hl 0 rfl) ?_
    refine lv_i2l (v := (Int32.toInt64 r3)) hx hb dX4_first_24 rfl ?_
    obtain ⟨r4, L_4, q4, h⟩ := b2_s h
    refine go_i (run_V (As := [.long (Int32.toInt64 r3)]) (rest := []) ⟨hx, hb, hml, hown, hts⟩ hnw hK hP hD (fr_X_X a k B0 L0 R0 T0 U0 V0 B0 L_4 R0 T0 U0 V0) (ks_X_X k) (c_X4_tell l D a k H.size B0 L0 R0 T0 U0 V0 (Int32.toInt64 r3) r4 L_4 q4) (cwV 1 hts gX4_first_X4_tell rfl rfl rfl (by decide +kernel) ⟨Nat.le_of_ble_eq_true rfl, Nat.le_of_ble_eq_true rfl⟩) (rcv_X a k B0 L0 R0 T0 U0 V0) rfl hl.1 rfl (Nat.le_of_ble_eq_true rfl) dX4_first_25 ⟨Nat.zero_le _, Nat.zero_le _⟩) hP hD hS hA (fr_X_X a k B0 L0 R0 T0 U0 V0 B0 L_4 R0 T0 U0 V0) (fun H locs hP hD hS => ?_)
    refine lv_pop hx hb dX4_first_28 rfl ?_
    refine lv_aload_n hx hb dX4_first_29 rfl (lv_at hl 1 rfl) ?_
    refine va_get (D := D) (ci := 4) (v := .ref (a 20)) (C := RX4) (T := TX4) (N := 8) hx hb hts hin4 hown hK hP 0 rfl rfl 3 (by decide) (hts (.fieldLink RX4 33 "BallastLine" "works" "LBallastLine$Works;") (List.mem_of_getElem? (i := 1) rfl)) (fun _ h9 => h9) rfl dX4_first_30 ?_
    refine lv_iload_n hx hb dX4_first_33 rfl (lv_at hl 0 rfl) ?_
    obtain ⟨r5, q5, h⟩ := b1_s h
    refine go_i (run_VN (As := [.int r3]) (rest := []) ⟨hx, hb, hml, hown, hts⟩ hnw hK hP hD (fr_X_V a k B0 L_4 R0 T0 U0 V0 V0) (ks_X_V k) (c_X3_gainOf l D a k H.size V0 r3 r5 q5) ⟨va_cnB 1 hts ggX4_first_X3_gainOf rfl rfl rfl (hnw.2 (RX4, 214, yX3_gainOf, RX4) (List.mem_of_getElem? (i := 32) rfl)) (hts (.initialized RX3) (List.mem_of_getElem? (i := 7) rfl)) (by decide +kernel) ⟨Nat.le_of_ble_eq_true rfl, Nat.le_of_ble_eq_true rfl⟩, (hts (.instanceMethod yX3_gainOf) (List.mem_of_getElem? (i := 18) rfl)), (hts (.selects RX3 yX3_gainOf yX3_gainOf) (List.mem_of_getElem? (i := 19) rfl))⟩ (rcv_V a k V0) rfl hl.1 rfl (Nat.le_of_ble_eq_true rfl) dX4_first_34 ⟨Nat.zero_le _, Nat.zero_le _⟩) hP hD hS hA (fr_X_V a k B0 L_4 R0 T0 U0 V0 V0) (fun H locs hP hD hS => ?_)
    have h := Option.some.inj h
    obtain ⟨hz0, h⟩ := Prod.mk.inj h
    have hP : va_P D vwCl (xX a k B0 Lz R0 T0 U0 V0) H := by rw [← h]; exact hP
    have hD : va_D A (xX a k B0 Lz R0 T0 U0 V0) := by rw [← h]; exact hD
    subst hQ
    subst hAe
    exact r_i hx hb hr hlocks hz0 hP hD hS dX4_first_37
  · have h := it_t c2 h
    refine lv_iconst (v := (-1 : Int32)) hx hb dX4_first_11 (by decide) ?_
    have h := Option.some.inj h
    obtain ⟨hz0, h⟩ := Prod.mk.inj h
    have hP : va_P D vwCl (xX a k B0 Lz R0 T0 U0 V0) H := by rw [← h]; exact hP
    have hD : va_D A (xX a k B0 Lz R0 T0 U0 V0) := by rw [← h]; exact hD
    subst hQ
    subst hAe
    exact r_i hx hb hr hlocks hz0 hP hD hS dX4_first_12
def f_X4_asked (L0 : Int64)  : Option (Int64) := some L0
abbrev rm_X4_asked : Room := { frames := 0, cells := 0, slots := 0, locals := 0 }
set_option maxHeartbeats 4000000 in
set_option maxRecDepth 100000 in
theorem c_X4_asked (l : Launch) (D : va_G) (a : Nat → Nat) (k : Nat → ClassId) (sz : Nat) (B0 : Nat → Nat → Int32) (L0 : Int64) (R0 : Nat → Nat → Int32) (T0 : Nat → Nat → Int32) (U0 : Nat → Nat → Int32) (V0 : Nat → Nat → Int32)  (r : Int64) (h : f_X4_asked L0 = some r) : Met l yX4_asked wsX4_asked rm_X4_asked (mPc D [.ref (a 26)] (xX a k B0 L0 R0 T0 U0 V0) (tX k) sz) (mQl D (xX a k B0 L0 R0 T0 U0 V0) (xX a k B0 L0 R0 T0 U0 V0) sz r) 0 0 (va_A (xX a k B0 L0 R0 T0 U0 V0) sz) := by
  refine mk_met (cc := cX4_asked) (maxL := 1) (ret := (some .long)) (by decide) rfl (Nat.le_of_ble_eq_true rfl) ?_
  intro p e s m below meth c hx hb hr hml hts hown hmn hlocks hnw hsz hK hP hD hS hA ls hl
  obtain ⟨A, hAe⟩ : ∃ A, A = va_A (xX a k B0 L0 R0 T0 U0 V0) sz := ⟨_, rfl⟩
  rw [← hAe] at hD hS hA
  generalize hargs : List.toArray ([.ref (a 26)] : List Value) = args at hts ⊢
  generalize hQ : MQ below (mQl D (xX a k B0 L0 R0 T0 U0 V0) (xX a k B0 L0 R0 T0 U0 V0) sz r) args s 0 0 (va_A (xX a k B0 L0 R0 T0 U0 V0) sz) = Q
  have hl : lv_has ls 1 [(0, .ref (a 26))] := hl
  have hin4 : ∀ w ∈ wsX40, w ∈ wsX4_asked := fun w h => List.mem_cons_of_mem _ (List.mem_append_right _ h)
  rw [f_X4_asked] at h
  obtain ⟨H, hH⟩ : ∃ H, H = s.heap := ⟨_, rfl⟩
  obtain ⟨locs, hlc⟩ : ∃ L : List Loc, L = [] := ⟨_, rfl⟩
  rw [← hH] at hP
  have hS : va_S A s.heap H locs := by rw [hH, hlc]; exact hS
  suffices hW9 : W p l e rm_X4_asked s m args below meth c H locs 0 0 Q (F0 m 0 ls []) by rw [hH, hlc] at hW9; exact hW9
  refine lv_aload_n hx hb dX4_asked_0 rfl (lv_at hl 0 rfl) ?_
  refine va_get (D := D) (ci := 4) (v := .long L0) (C := RX4) (T := TX4) (N := 8) hx hb hts hin4 hown hK hP 0 rfl rfl 7 (by decide) (hts (.fieldLink RX4 48 "BallastLine" "latestTold" "J") (List.mem_of_getElem? (i := 1) rfl)) (fun _ h9 => h9) rfl dX4_asked_1 ?_
  have h := Option.some.inj h
  subst hQ
  subst hAe
  exact r_l hx hb hr hlocks h hP hD hS dX4_asked_4
def f_X4_count (R0 : Nat → Nat → Int32) (T0 : Nat → Nat → Int32) (U0 : Nat → Nat → Int32) (V0 : Nat → Nat → Int32) (p0 : Int32) : Option (Int32) := if p0 = (0 : Int32) then (some (T0 7 0)) else (if p0 = (1 : Int32) then (b1 (f_X1_standing T0 (0 : Int32) ((T0 7 0) - (1 : Int32))) (fun r3 => some ((T0 7 0) - r3))) else (if p0 = (2 : Int32) then (some (R0 2 0)) else (if p0 = (3 : Int32) then (b1 (f_X0_howMany U0) (fun r6 => some r6)) else (if p0 = (4 : Int32) then (some (V0 5 0)) else (some (-1 : Int32))))))
abbrev rm_X4_count : Room := { frames := 3, cells := 0, slots := 0, locals := 66 }
set_option maxHeartbeats 4000000 in
set_option maxRecDepth 100000 in
theorem c_X4_count (l : Launch) (D : va_G) (a : Nat → Nat) (k : Nat → ClassId) (sz : Nat) (B0 : Nat → Nat → Int32) (L0 : Int64) (R0 : Nat → Nat → Int32) (T0 : Nat → Nat → Int32) (U0 : Nat → Nat → Int32) (V0 : Nat → Nat → Int32) (p0 : Int32) (r : Int32) (h : f_X4_count R0 T0 U0 V0 p0 = some r) : Met l yX4_count wsX4_count rm_X4_count (mPc D [.ref (a 26), .int p0] (xX a k B0 L0 R0 T0 U0 V0) (tX k) sz) (mQi D (xX a k B0 L0 R0 T0 U0 V0) (xX a k B0 L0 R0 T0 U0 V0) sz r) 0 0 (va_A (xX a k B0 L0 R0 T0 U0 V0) sz) := by
  refine mk_met (cc := cX4_count) (maxL := 2) (ret := (some .int)) (by decide) rfl (Nat.le_of_ble_eq_true rfl) ?_
  intro p e s m below meth c hx hb hr hml hts hown hmn hlocks hnw hsz hK hP hD hS hA ls hl
  obtain ⟨A, hAe⟩ : ∃ A, A = va_A (xX a k B0 L0 R0 T0 U0 V0) sz := ⟨_, rfl⟩
  rw [← hAe] at hD hS hA
  generalize hargs : List.toArray ([.ref (a 26), .int p0] : List Value) = args at hts ⊢
  generalize hQ : MQ below (mQi D (xX a k B0 L0 R0 T0 U0 V0) (xX a k B0 L0 R0 T0 U0 V0) sz r) args s 0 0 (va_A (xX a k B0 L0 R0 T0 U0 V0) sz) = Q
  have hl : lv_has ls 2 [(0, .ref (a 26)), (1, .int p0)] := hl
  have hin1 : ∀ w ∈ wsX10, w ∈ wsX4_count := fun w h => List.mem_cons_of_mem _ (List.mem_append_left _ (List.mem_append_left _ (List.mem_append_left _ (List.mem_append_right _ h))))
  have hin2 : ∀ w ∈ wsX20, w ∈ wsX4_count := fun w h => List.mem_cons_of_mem _ (List.mem_append_left _ (List.mem_append_left _ (List.mem_append_right _ h)))
  have hin3 : ∀ w ∈ wsX30, w ∈ wsX4_count := fun w h => List.mem_cons_of_mem _ (List.mem_append_left _ (List.mem_append_right _ h))
  have hin4 : ∀ w ∈ wsX40, w ∈ wsX4_count := fun w h => List.mem_cons_of_mem _ (List.mem_append_left _ (List.mem_append_left _ (List.mem_append_left _ (List.mem_append_left _ (List.mem_append_right _ h)))))
  rw [f_X4_count] at h
  obtain ⟨H, hH⟩ : ∃ H, H = s.heap := ⟨_, rfl⟩
  obtain ⟨locs, hlc⟩ : ∃ L : List Loc, L = [] := ⟨_, rfl⟩
  rw [← hH] at hP
  have hS : va_S A s.heap H locs := by rw [hH, hlc]; exact hS
  suffices hW9 : W p l e rm_X4_count s m args below meth c H locs 0 0 Q (F0 m 0 ls []) by rw [hH, hlc] at hW9; exact hW9
  refine lv_iload_n hx hb dX4_count_0 rfl (lv_at hl 1 rfl) ?_
  by_cases c1 : p0 = (0 : Int32)
  · have h := it_t c1 h
    refine lv_tableIn (off := 35) (tgt := 36) hx hb dX4_count_1 (by rw [c1]; decide) (by rw [c1]; decide) (by rw [c1]; rfl) (by decide) ?_
    refine lv_aload_n hx hb dX4_count_36 rfl (lv_at hl 0 rfl) ?_
    refine va_get (D := D) (ci := 4) (v := .ref (a 0)) (C := RX4) (T := TX4) (N := 8) hx hb hts hin4 hown hK hP 0 rfl rfl 0 (by decide) (hts (.fieldLink RX4 10 "BallastLine" "track" "LBallastLine$Track;") (List.mem_of_getElem? (i := 1) rfl)) (fun _ h9 => h9) rfl dX4_count_37 ?_
    refine va_getN (host := RX4) (D := D) (ci := 1) (v := .int (T0 7 0)) (C := RX1) (T := TX1) (N := 8) hx hb hts hin1 hown hK hP 6 rfl rfl 7 (by decide) (va_Nw.use rfl (hnw.1 (RX4, 120, "BallastLine$Track", "size", "I", RX4) (List.mem_of_getElem? (i := 9) rfl))) (fun _ h9 => h9) rfl dX4_count_40 ?_
    have h := Option.some.inj h
    subst hQ
    subst hAe
    exact r_i hx hb hr hlocks h hP hD hS dX4_count_43
  · have h := it_f c1 h
    by_cases c2 : p0 = (1 : Int32)
    · have h := it_t c2 h
      refine lv_tableIn (off := 43) (tgt := 44) hx hb dX4_count_1 (by rw [c2]; decide) (by rw [c2]; decide) (by rw [c2]; rfl) (by decide) ?_
      refine lv_aload_n hx hb dX4_count_44 rfl (lv_at hl 0 rfl) ?_
      refine va_get (D := D) (ci := 4) (v := .ref (a 0)) (C := RX4) (T := TX4) (N := 8) hx hb hts hin4 hown hK hP 0 rfl rfl 0 (by decide) (hts (.fieldLink RX4 10 "BallastLine" "track" "LBallastLine$Track;") (List.mem_of_getElem? (i := 1) rfl)) (fun _ h9 => h9) rfl dX4_count_45 ?_
      refine va_getN (host := RX4) (D := D) (ci := 1) (v := .int (T0 7 0)) (C := RX1) (T := TX1) (N := 8) hx hb hts hin1 hown hK hP 6 rfl rfl 7 (by decide) (va_Nw.use rfl (hnw.1 (RX4, 120, "BallastLine$Track", "size", "I", RX4) (List.mem_of_getElem? (i := 9) rfl))) (fun _ h9 => h9) rfl dX4_count_48 ?_
      refine lv_aload_n hx hb dX4_count_51 rfl (lv_at hl 0 rfl) ?_
      refine va_get (D := D) (ci := 4) (v := .ref (a 0)) (C := RX4) (T := TX4) (N := 8) hx hb hts hin4 hown hK hP 0 rfl rfl 0 (by decide) (hts (.fieldLink RX4 10 "BallastLine" "track" "LBallastLine$Track;") (List.mem_of_getElem? (i := 1) rfl)) (fun _ h9 => h9) rfl dX4_count_52 ?_
      refine lv_iconst (v := (0 : Int32)) hx hb dX4_count_55 (by decide) ?_
      refine lv_aload_n hx hb dX4_count_56 rfl (lv_at hl 0 rfl) ?_
      refine va_get (D := D) (ci := 4) (v := .ref (a 0)) (C := RX4) (T := TX4) (N := 8) hx hb hts hin4 hown hK hP 0 rfl rfl 0 (by decide) (hts (.fieldLink RX4 10 "BallastLine" "track" "LBallastLine$Track;") (List.mem_of_getElem? (i := 1) rfl)) (fun _ h9 => h9) rfl dX4_count_57 ?_
      refine va_getN (host := RX4) (D := D) (ci := 1) (v := .int (T0 7 0)) (C := RX1) (T := TX1) (N := 8) hx hb hts hin1 hown hK hP 6 rfl rfl 7 (by decide) (va_Nw.use rfl (hnw.1 (RX4, 120, "BallastLine$Track", "size", "I", RX4) (List.mem_of_getElem? (i := 9) rfl))) (fun _ h9 => h9) rfl dX4_count_60 ?_
      refine lv_iconst (v := (1 : Int32)) hx hb dX4_count_63 (by decide) ?_
      refine lv_isub hx hb dX4_count_64 ?_
      obtain ⟨r3, q3, h⟩ := b1_s h
      refine go_i (run_VN (As := [.int (0 : Int32), .int ((T0 7 0) - (1 : Int32))]) (rest := [.int (T0 7 0)]) ⟨hx, hb, hml, hown, hts⟩ hnw hK hP hD (fr_X_T a k B0 L0 R0 T0 U0 V0 T0) (ks_X_T k) (c_X1_standing l D a k H.size T0 (0 : Int32) ((T0 7 0) - (1 : Int32)) r3 q3) ⟨va_cnB 2 hts ggX4_count_X1_standing rfl rfl rfl (hnw.2 (RX4, 123, yX1_standing, RX4) (List.mem_of_getElem? (i := 18) rfl)) (hts (.initialized RX1) (List.mem_of_getElem? (i := 6) rfl)) (by decide +kernel) ⟨Nat.le_of_ble_eq_true rfl, Nat.le_of_ble_eq_true rfl⟩, (hts (.instanceMethod yX1_standing) (List.mem_of_getElem? (i := 5) rfl)), (hts (.selects RX1 yX1_standing yX1_standing) (List.mem_of_getElem? (i := 7) rfl))⟩ (rcv_T a k T0) rfl hl.1 rfl (Nat.le_of_ble_eq_true rfl) dX4_count_65 ⟨Nat.zero_le _, Nat.zero_le _⟩) hP hD hS hA (fr_X_T a k B0 L0 R0 T0 U0 V0 T0) (fun H locs hP hD hS => ?_)
      refine lv_isub hx hb dX4_count_68 ?_
      have h := Option.some.inj h
      subst hQ
      subst hAe
      exact r_i hx hb hr hlocks h hP hD hS dX4_count_69
    · have h := it_f c2 h
      by_cases c4 : p0 = (2 : Int32)
      · have h := it_t c4 h
        refine lv_tableIn (off := 69) (tgt := 70) hx hb dX4_count_1 (by rw [c4]; decide) (by rw [c4]; decide) (by rw [c4]; rfl) (by decide) ?_
        refine lv_aload_n hx hb dX4_count_70 rfl (lv_at hl 0 rfl) ?_
        refine va_get (D := D) (ci := 4) (v := .ref (a 8)) (C := RX4) (T := TX4) (N := 8) hx hb hts hin4 hown hK hP 0 rfl rfl 1 (by decide) (hts (.fieldLink RX4 19 "BallastLine" "train" "LBallastLine$Train;") (List.mem_of_getElem? (i := 2) rfl)) (fun _ h9 => h9) rfl dX4_count_71 ?_
        refine va_getN (host := RX4) (D := D) (ci := 2) (v := .int (R0 2 0)) (C := RX2) (T := TX2) (N := 3) hx hb hts hin2 hown hK hP 3 rfl rfl 2 (by decide) (va_Nw.use rfl (hnw.1 (RX4, 106, "BallastLine$Train", "axles", "I", RX4) (List.mem_of_getElem? (i := 12) rfl))) (fun _ h9 => h9) rfl dX4_count_74 ?_
        have h := Option.some.inj h
        subst hQ
        subst hAe
        exact r_i hx hb hr hlocks h hP hD hS dX4_count_77
      · have h := it_f c4 h
        by_cases c5 : p0 = (3 : Int32)
        · have h := it_t c5 h
          refine lv_tableIn (off := 77) (tgt := 78) hx hb dX4_count_1 (by rw [c5]; decide) (by rw [c5]; decide) (by rw [c5]; rfl) (by decide) ?_
          refine lv_aload_n hx hb dX4_count_78 rfl (lv_at hl 0 rfl) ?_
          refine va_get (D := D) (ci := 4) (v := .ref (a 11)) (C := RX4) (T := TX4) (N := 8) hx hb hts hin4 hown hK hP 0 rfl rfl 2 (by decide) (hts (.fieldLink RX4 26 "BallastLine" "runs" "LBallastLine$Runs;") (List.mem_of_getElem? (i := 3) rfl)) (fun _ h9 => h9) rfl dX4_count_79 ?_
          obtain ⟨r6, q6, h⟩ := b1_s h
          refine go_i (run_VN (As := []) (rest := []) ⟨hx, hb, hml, hown, hts⟩ hnw hK hP hD (fr_X_U a k B0 L0 R0 T0 U0 V0 U0) (ks_X_U k) (c_X0_howMany l D a k H.size U0 r6 q6) ⟨va_cnB 0 hts ggX4_count_X0_howMany rfl rfl rfl (hnw.2 (RX4, 220, yX0_howMany, RX4) (List.mem_of_getElem? (i := 34) rfl)) (hts (.initialized RX0) (List.mem_of_getElem? (i := 20) rfl)) (by decide +kernel) ⟨Nat.le_of_ble_eq_true rfl, Nat.le_of_ble_eq_true rfl⟩, (hts (.instanceMethod yX0_howMany) (List.mem_of_getElem? (i := 19) rfl)), (hts (.selects RX0 yX0_howMany yX0_howMany) (List.mem_of_getElem? (i := 21) rfl))⟩ (rcv_U a k U0) rfl hl.1 rfl (Nat.le_of_ble_eq_true rfl) dX4_count_82 ⟨Nat.zero_le _, Nat.zero_le _⟩) hP hD hS hA (fr_X_U a k B0 L0 R0 T0 U0 V0 U0) (fun H locs hP hD hS => ?_)
          have h := Option.some.inj h
          subst hQ
          subst hAe
          exact r_i hx hb hr hlocks h hP hD hS dX4_count_85
        · have h := it_f c5 h
          by_cases c7 : p0 = (4 : Int32)
          · have h := it_t c7 h
            refine lv_tableIn (off := 85) (tgt := 86) hx hb dX4_count_1 (by rw [c7]; decide) (by rw [c7]; decide) (by rw [c7]; rfl) (by decide) ?_
            refine lv_aload_n hx hb dX4_count_86 rfl (lv_at hl 0 rfl) ?_
            refine va_get (D := D) (ci := 4) (v := .ref (a 20)) (C := RX4) (T := TX4) (N := 8) hx hb hts hin4 hown hK hP 0 rfl rfl 3 (by decide) (hts (.fieldLink RX4 33 "BallastLine" "works" "LBallastLine$Works;") (List.mem_of_getElem? (i := 4) rfl)) (fun _ h9 => h9) rfl dX4_count_87 ?_
            refine va_getN (host := RX4) (D := D) (ci := 3) (v := .int (V0 5 0)) (C := RX3) (T := TX3) (N := 6) hx hb hts hin3 hown hK hP 23 rfl rfl 5 (by decide) (va_Nw.use rfl (hnw.1 (RX4, 207, "BallastLine$Works", "size", "I", RX4) (List.mem_of_getElem? (i := 15) rfl))) (fun _ h9 => h9) rfl dX4_count_90 ?_
            have h := Option.some.inj h
            subst hQ
            subst hAe
            exact r_i hx hb hr hlocks h hP hD hS dX4_count_93
          · have h := it_f c7 h
            have ec1 : ¬ (p0).toInt = 0 := fun e => c1 (Int32.toInt_inj.mp (show (p0).toInt = ((0 : Int32)).toInt from e))
            have ec2 : ¬ (p0).toInt = 1 := fun e => c2 (Int32.toInt_inj.mp (show (p0).toInt = ((1 : Int32)).toInt from e))
            have ec4 : ¬ (p0).toInt = 2 := fun e => c4 (Int32.toInt_inj.mp (show (p0).toInt = ((2 : Int32)).toInt from e))
            have ec5 : ¬ (p0).toInt = 3 := fun e => c5 (Int32.toInt_inj.mp (show (p0).toInt = ((3 : Int32)).toInt from e))
            have ec7 : ¬ (p0).toInt = 4 := fun e => c7 (Int32.toInt_inj.mp (show (p0).toInt = ((4 : Int32)).toInt from e))
            refine lv_tableOut (tgt := 94) hx hb dX4_count_1 (by omega) (by decide) ?_
            refine lv_iconst (v := (-1 : Int32)) hx hb dX4_count_94 (by decide) ?_
            have h := Option.some.inj h
            subst hQ
            subst hAe
            exact r_i hx hb hr hlocks h hP hD hS dX4_count_95
def f_X4_finding (B0 : Nat → Nat → Int32)  : Option (Int32) := some (B0 6 0)
abbrev rm_X4_finding : Room := { frames := 0, cells := 0, slots := 0, locals := 0 }
set_option maxHeartbeats 4000000 in
set_option maxRecDepth 100000 in
theorem c_X4_finding (l : Launch) (D : va_G) (a : Nat → Nat) (k : Nat → ClassId) (sz : Nat) (B0 : Nat → Nat → Int32) (L0 : Int64) (R0 : Nat → Nat → Int32) (T0 : Nat → Nat → Int32) (U0 : Nat → Nat → Int32) (V0 : Nat → Nat → Int32)  (r : Int32) (h : f_X4_finding B0 = some r) : Met l yX4_finding wsX4_finding rm_X4_finding (mPc D [.ref (a 26)] (xX a k B0 L0 R0 T0 U0 V0) (tX k) sz) (mQi D (xX a k B0 L0 R0 T0 U0 V0) (xX a k B0 L0 R0 T0 U0 V0) sz r) 0 0 (va_A (xX a k B0 L0 R0 T0 U0 V0) sz) := by
  refine mk_met (cc := cX4_finding) (maxL := 1) (ret := (some .int)) (by decide) rfl (Nat.le_of_ble_eq_true rfl) ?_
  intro p e s m below meth c hx hb hr hml hts hown hmn hlocks hnw hsz hK hP hD hS hA ls hl
  obtain ⟨A, hAe⟩ : ∃ A, A = va_A (xX a k B0 L0 R0 T0 U0 V0) sz := ⟨_, rfl⟩
  rw [← hAe] at hD hS hA
  generalize hargs : List.toArray ([.ref (a 26)] : List Value) = args at hts ⊢
  generalize hQ : MQ below (mQi D (xX a k B0 L0 R0 T0 U0 V0) (xX a k B0 L0 R0 T0 U0 V0) sz r) args s 0 0 (va_A (xX a k B0 L0 R0 T0 U0 V0) sz) = Q
  have hl : lv_has ls 1 [(0, .ref (a 26))] := hl
  have hin4 : ∀ w ∈ wsX40, w ∈ wsX4_finding := fun w h => List.mem_cons_of_mem _ (List.mem_append_right _ h)
  rw [f_X4_finding] at h
  obtain ⟨H, hH⟩ : ∃ H, H = s.heap := ⟨_, rfl⟩
  obtain ⟨locs, hlc⟩ : ∃ L : List Loc, L = [] := ⟨_, rfl⟩
  rw [← hH] at hP
  have hS : va_S A s.heap H locs := by rw [hH, hlc]; exact hS
  suffices hW9 : W p l e rm_X4_finding s m args below meth c H locs 0 0 Q (F0 m 0 ls []) by rw [hH, hlc] at hW9; exact hW9
  refine lv_aload_n hx hb dX4_finding_0 rfl (lv_at hl 0 rfl) ?_
  refine va_get (D := D) (ci := 4) (v := .int (B0 6 0)) (C := RX4) (T := TX4) (N := 8) hx hb hts hin4 hown hK hP 0 rfl rfl 6 (by decide) (hts (.fieldLink RX4 44 "BallastLine" "latestFinding" "I") (List.mem_of_getElem? (i := 1) rfl)) (fun _ h9 => h9) rfl dX4_finding_1 ?_
  have h := Option.some.inj h
  subst hQ
  subst hAe
  exact r_i hx hb hr hlocks h hP hD hS dX4_finding_4
def f_X4_findings (B0 : Nat → Nat → Int32) (p0 : Int32) : Option (Int32) := b1 (f_X4_within p0 (1 : Int32) (5 : Int32)) (fun r1 => if r1 = (0 : Int32) then (some (-1 : Int32)) else (gd (inb p0 6) (some (B0 5 (Int32.toNatClampNeg p0)))))
abbrev rm_X4_findings : Room := { frames := 1, cells := 0, slots := 0, locals := 22 }
set_option maxHeartbeats 4000000 in
set_option maxRecDepth 100000 in
theorem c_X4_findings (l : Launch) (D : va_G) (a : Nat → Nat) (k : Nat → ClassId) (sz : Nat) (B0 : Nat → Nat → Int32) (L0 : Int64) (R0 : Nat → Nat → Int32) (T0 : Nat → Nat → Int32) (U0 : Nat → Nat → Int32) (V0 : Nat → Nat → Int32) (p0 : Int32) (r : Int32) (h : f_X4_findings B0 p0 = some r) : Met l yX4_findings wsX4_findings rm_X4_findings (mPc D [.ref (a 26), .int p0] (xX a k B0 L0 R0 T0 U0 V0) (tX k) sz) (mQi D (xX a k B0 L0 R0 T0 U0 V0) (xX a k B0 L0 R0 T0 U0 V0) sz r) 0 0 (va_A (xX a k B0 L0 R0 T0 U0 V0) sz) := by
  refine mk_met (cc := cX4_findings) (maxL := 2) (ret := (some .int)) (by decide) rfl (Nat.le_of_ble_eq_true rfl) ?_
  intro p e s m below meth c hx hb hr hml hts hown hmn hlocks hnw hsz hK hP hD hS hA ls hl
  obtain ⟨A, hAe⟩ : ∃ A, A = va_A (xX a k B0 L0 R0 T0 U0 V0) sz := ⟨_, rfl⟩
  rw [← hAe] at hD hS hA
  generalize hargs : List.toArray ([.ref (a 26), .int p0] : List Value) = args at hts ⊢
  generalize hQ : MQ below (mQi D (xX a k B0 L0 R0 T0 U0 V0) (xX a k B0 L0 R0 T0 U0 V0) sz r) args s 0 0 (va_A (xX a k B0 L0 R0 T0 U0 V0) sz) = Q
  have hl : lv_has ls 2 [(0, .ref (a 26)), (1, .int p0)] := hl
  have hin4 : ∀ w ∈ wsX40, w ∈ wsX4_findings := fun w h => List.mem_cons_of_mem _ (List.mem_append_right _ h)
  rw [f_X4_findings] at h
  obtain ⟨H, hH⟩ : ∃ H, H = s.heap := ⟨_, rfl⟩
  obtain ⟨locs, hlc⟩ : ∃ L : List Loc, L = [] := ⟨_, rfl⟩
  rw [← hH] at hP
  have hS : va_S A s.heap H locs := by rw [hH, hlc]; exact hS
  suffices hW9 : W p l e rm_X4_findings s m args below meth c H locs 0 0 Q (F0 m 0 ls []) by rw [hH, hlc] at hW9; exact hW9
  refine lv_iload_n hx hb dX4_findings_0 rfl (lv_at hl 1 rfl) ?_
  refine lv_iconst (v := (1 : Int32)) hx hb dX4_findings_1 (by decide) ?_
  refine lv_iconst (v := (5 : Int32)) hx hb dX4_findings_2 (by decide) ?_
  obtain ⟨r1, q1, h⟩ := b1_s h
  refine go_i (run_S (As := [.int p0, .int (1 : Int32), .int (5 : Int32)]) (rest := []) ⟨hx, hb, hml, hown, hts⟩ hnw hK hP hD (fr_X_E a k B0 L0 R0 T0 U0 V0) (ks_X_E k) (c_X4_within l D H.size p0 (1 : Int32) (5 : Int32) r1 q1) (cwS 3 hts gX4_findings_X4_within rfl rfl rfl (by decide +kernel) ⟨Nat.le_of_ble_eq_true rfl, Nat.le_of_ble_eq_true rfl⟩) rfl hl.1 rfl (Nat.le_of_ble_eq_true rfl) dX4_findings_3 ⟨Nat.zero_le _, Nat.zero_le _⟩) hP hD hS hA (fr_X_E a k B0 L0 R0 T0 U0 V0) (fun H locs hP hD hS => ?_)
  refine lv_if_ne (tgt := 11) hx hb dX4_findings_6 (by decide) (fun c2 => ?_) (fun c2 => ?_)
  · have h := it_f c2 h
    refine lv_aload_n hx hb dX4_findings_11 rfl (lv_at hl 0 rfl) ?_
    refine va_get (D := D) (ci := 4) (v := .ref (a 28)) (C := RX4) (T := TX4) (N := 8) hx hb hts hin4 hown hK hP 0 rfl rfl 5 (by decide) (hts (.fieldLink RX4 41 "BallastLine" "findingCounts" "[I") (List.mem_of_getElem? (i := 1) rfl)) (fun _ h9 => h9) rfl dX4_findings_12 ?_
    refine lv_iload_n hx hb dX4_findings_15 rfl (lv_at hl 1 rfl) ?_
    obtain ⟨g3, h⟩ := gd_s h
    refine va_iald hx hb hK hP 2 1 rfl rfl (inb_in g3) dX4_findings_16 ?_
    have h := Option.some.inj h
    subst hQ
    subst hAe
    exact r_i hx hb hr hlocks h hP hD hS dX4_findings_17
  · have h := it_t c2 h
    refine lv_iconst (v := (-1 : Int32)) hx hb dX4_findings_9 (by decide) ?_
    have h := Option.some.inj h
    subst hQ
    subst hAe
    exact r_i hx hb hr hlocks h hP hD hS dX4_findings_10
def f_X4_digest_L46 (B0 : Nat → Nat → Int32) (R0 : Nat → Nat → Int32) (T0 : Nat → Nat → Int32) (U0 : Nat → Nat → Int32) (V0 : Nat → Nat → Int32)  (ko32 : Int64 → Int32 → Option (Int64)) : Nat → Int64 → Int32 → Int32 → Option (Int64)
  | 0, _, _, _ => none
  | n + 1, x1, x3, x4 => if (4 : Int32) ≤ x4 then (gd (inb x3 40) (ltt ((((31 : Int64) * x1) + (Int32.toInt64 (T0 1 (Int32.toNatClampNeg x3))))) (fun v3 => ltt (x3 + (1 : Int32)) (fun v4 => ko32 v3 v4)))) else (b1 (f_X4_told T0 x3 x4) (fun r5 => ltt ((((31 : Int64) * x1) + (Int32.toInt64 r5))) (fun v6 => ltt (x4 + (1 : Int32)) (fun v7 => f_X4_digest_L46 B0 R0 T0 U0 V0 ko32 n v6 x3 v7))))
def f_X4_digest_L125 (B0 : Nat → Nat → Int32) (R0 : Nat → Nat → Int32) (T0 : Nat → Nat → Int32) (U0 : Nat → Nat → Int32) (V0 : Nat → Nat → Int32)   : Nat → Int64 → Int32 → Option (Int64)
  | 0, _, _ => none
  | n + 1, x1, x3 => if (6 : Int32) ≤ x3 then (some x1) else (b1 (f_X0_digestOn U0 x1 x3) (fun r9 => ltt (x3 + (1 : Int32)) (fun v10 => f_X4_digest_L125 B0 R0 T0 U0 V0 n r9 v10)))
def f_X4_digest_L98 (B0 : Nat → Nat → Int32) (R0 : Nat → Nat → Int32) (T0 : Nat → Nat → Int32) (U0 : Nat → Nat → Int32) (V0 : Nat → Nat → Int32)   : Nat → Int64 → Int32 → Option (Int64)
  | 0, _, _ => none
  | n + 1, x1, x3 => if (4 : Int32) ≤ x3 then (f_X4_digest_L125 B0 R0 T0 U0 V0 64 x1 (0 : Int32)) else (gd (inb x3 4) (ltt ((((31 : Int64) * x1) + (Int32.toInt64 (B0 4 (Int32.toNatClampNeg x3))))) (fun v13 => ltt (x3 + (1 : Int32)) (fun v14 => f_X4_digest_L98 B0 R0 T0 U0 V0 n v13 v14))))
def f_X4_digest_L32 (B0 : Nat → Nat → Int32) (R0 : Nat → Nat → Int32) (T0 : Nat → Nat → Int32) (U0 : Nat → Nat → Int32) (V0 : Nat → Nat → Int32)   : Nat → Int64 → Int32 → Option (Int64)
  | 0, _, _ => none
  | n + 1, x1, x3 => if (T0 7 0) ≤ x3 then (f_X4_digest_L98 B0 R0 T0 U0 V0 64 x1 (0 : Int32)) else (f_X4_digest_L46 B0 R0 T0 U0 V0 (f_X4_digest_L32 B0 R0 T0 U0 V0 n) 64 x1 x3 (0 : Int32))
def f_X4_digest_L6 (B0 : Nat → Nat → Int32) (R0 : Nat → Nat → Int32) (T0 : Nat → Nat → Int32) (U0 : Nat → Nat → Int32) (V0 : Nat → Nat → Int32)   : Nat → Int64 → Int32 → Option (Int64)
  | 0, _, _ => none
  | n + 1, x1, x3 => if (5 : Int32) ≤ x3 then (f_X4_digest_L32 B0 R0 T0 U0 V0 64 x1 (0 : Int32)) else (b1 (f_X4_count R0 T0 U0 V0 x3) (fun r17 => ltt ((((31 : Int64) * x1) + (Int32.toInt64 r17))) (fun v18 => ltt (x3 + (1 : Int32)) (fun v19 => f_X4_digest_L6 B0 R0 T0 U0 V0 n v18 v19))))
def f_X4_digest (B0 : Nat → Nat → Int32) (R0 : Nat → Nat → Int32) (T0 : Nat → Nat → Int32) (U0 : Nat → Nat → Int32) (V0 : Nat → Nat → Int32)  : Option (Int64) := f_X4_digest_L6 B0 R0 T0 U0 V0 64 (17 : Int64) (0 : Int32)
abbrev rm_X4_digest : Room := { frames := 4, cells := 0, slots := 0, locals := 87 }
set_option maxHeartbeats 4000000 in
set_option maxRecDepth 100000 in
theorem c_X4_digest (l : Launch) (D : va_G) (a : Nat → Nat) (k : Nat → ClassId) (sz : Nat) (B0 : Nat → Nat → Int32) (L0 : Int64) (R0 : Nat → Nat → Int32) (T0 : Nat → Nat → Int32) (U0 : Nat → Nat → Int32) (V0 : Nat → Nat → Int32)  (r : Int64) (h : f_X4_digest B0 R0 T0 U0 V0 = some r) : Met l yX4_digest wsX4_digest rm_X4_digest (mPc D [.ref (a 26)] (xX a k B0 L0 R0 T0 U0 V0) (tX k) sz) (mQl D (xX a k B0 L0 R0 T0 U0 V0) (xX a k B0 L0 R0 T0 U0 V0) sz r) 0 0 (va_A (xX a k B0 L0 R0 T0 U0 V0) sz) := by
  refine mk_met (cc := cX4_digest) (maxL := 5) (ret := (some .long)) (by decide) rfl (Nat.le_of_ble_eq_true rfl) ?_
  intro p e s m below meth c hx hb hr hml hts hown hmn hlocks hnw hsz hK hP hD hS hA ls hl
  obtain ⟨A, hAe⟩ : ∃ A, A = va_A (xX a k B0 L0 R0 T0 U0 V0) sz := ⟨_, rfl⟩
  rw [← hAe] at hD hS hA
  generalize hargs : List.toArray ([.ref (a 26)] : List Value) = args at hts ⊢
  generalize hQ : MQ below (mQl D (xX a k B0 L0 R0 T0 U0 V0) (xX a k B0 L0 R0 T0 U0 V0) sz r) args s 0 0 (va_A (xX a k B0 L0 R0 T0 U0 V0) sz) = Q
  have hl : lv_has ls 5 [(0, .ref (a 26))] := hl
  have hin1 : ∀ w ∈ wsX10, w ∈ wsX4_digest := fun w h => List.mem_cons_of_mem _ (List.mem_append_left _ (List.mem_append_left _ (List.mem_append_left _ (List.mem_append_right _ h))))
  have hin4 : ∀ w ∈ wsX40, w ∈ wsX4_digest := fun w h => List.mem_cons_of_mem _ (List.mem_append_left _ (List.mem_append_left _ (List.mem_append_left _ (List.mem_append_left _ (List.mem_append_right _ h)))))
  have lb46 : ∀ (ko32 : Int64 → Int32 → Option (Int64)), (∀ (x1 : Int64) (x3 : Int32), ∀ (H : Heap) (locs : List Loc), va_P D vwCl (xX a k B0 L0 R0 T0 U0 V0) H → va_D A (xX a k B0 L0 R0 T0 U0 V0) → va_S A s.heap H locs → ∀ ls : Array Slot, lv_has ls 5 [(0, .ref (a 26)), (1, .long x1), (3, .int x3)] → ko32 x1 x3 = some r → W p l e rm_X4_digest s m args below meth c H locs 0 0 Q (F0 m 32 ls [])) → ∀ (n : Nat), ∀ (x1 : Int64) (x3 : Int32) (x4 : Int32), ∀ (H : Heap) (locs : List Loc), va_P D vwCl (xX a k B0 L0 R0 T0 U0 V0) H → va_D A (xX a k B0 L0 R0 T0 U0 V0) → va_S A s.heap H locs → ∀ ls : Array Slot, lv_has ls 5 [(0, .ref (a 26)), (1, .long x1), (3, .int x3), (4, .int x4)] → f_X4_digest_L46 B0 R0 T0 U0 V0 ko32 n x1 x3 x4 = some r → W p l e rm_X4_digest s m args below meth c H locs 0 0 Q (F0 m 46 ls []) := by
    intro ko32 hko32
    intro n
    induction n with
    | zero =>
      intro x1 x3 x4 H locs hP hD hS ls hl h
      rw [f_X4_digest_L46] at h
      cases h
    | succ n ih =>
      intro x1 x3 x4 H locs hP hD hS ls hl h
      rw [f_X4_digest_L46] at h
      refine lv_iload hx hb dX4_digest_46 (lv_at hl 3 rfl) ?_
      refine lv_iconst (v := (4 : Int32)) hx hb dX4_digest_48 (by decide) ?_
      refine lv_icmp_ge (tgt := 73) hx hb dX4_digest_49 (by decide) (fun c1 => ?_) (fun c1 => ?_)
      · have h := it_t c1 h
        refine lv_ldc2 (v := (31 : Int64)) hx hb hown (hts (.constantLong RX4 225 (31)) (List.mem_of_getElem? (i := 2) rfl)) dX4_digest_73 ?_
        refine lv_lload_n hx hb dX4_digest_76 rfl (lv_at hl 1 rfl) ?_
        refine lv_lmul hx hb dX4_digest_77 ?_
        refine lv_aload_n hx hb dX4_digest_78 rfl (lv_at hl 0 rfl) ?_
        refine va_get (D := D) (ci := 4) (v := .ref (a 0)) (C := RX4) (T := TX4) (N := 8) hx hb hts hin4 hown hK hP 0 rfl rfl 0 (by decide) (hts (.fieldLink RX4 10 "BallastLine" "track" "LBallastLine$Track;") (List.mem_of_getElem? (i := 3) rfl)) (fun _ h9 => h9) rfl dX4_digest_79 ?_
        refine va_getN (host := RX4) (D := D) (ci := 1) (v := .ref (a 2)) (C := RX1) (T := TX1) (N := 8) hx hb hts hin1 hown hK hP 6 rfl rfl 1 (by decide) (va_Nw.use rfl (hnw.1 (RX4, 79, "BallastLine$Track", "beds", "[I", RX4) (List.mem_of_getElem? (i := 1) rfl))) (fun _ h9 => h9) rfl dX4_digest_82 ?_
        refine lv_iload_n hx hb dX4_digest_85 rfl (lv_at hl 2 rfl) ?_
        obtain ⟨g2, h⟩ := gd_s h
        refine va_iald hx hb hK hP 8 5 rfl rfl (inb_in g2) dX4_digest_86 ?_
        refine lv_i2l (v := (Int32.toInt64 (T0 1 (Int32.toNatClampNeg x3)))) hx hb dX4_digest_87 rfl ?_
        refine lv_ladd hx hb dX4_digest_88 ?_
        refine lv_topl (fun v3 ev3 => ?_)
        have h := ltt_s ev3 h
        refine lv_lstore_n (lv' := [(1, .long v3), (0, .ref (a 26)), (3, .int x3), (4, .int x4)]) hx hb dX4_digest_89 rfl hl (by decide) rfl (fun ls hl => ?_)
        obtain ⟨v4, ev4⟩ : ∃ y : Int32, y = x3 + (1 : Int32) := ⟨_, rfl⟩
        have h := ltt_s ev4 h
        refine lv_iinc (v := v4) (lv' := [(3, .int v4), (1, .long v3), (0, .ref (a 26)), (4, .int x4)]) hx hb dX4_digest_90 hl (k := 2) rfl (by rw [ev4]; rfl) (by decide) rfl (fun ls hl => ?_)
        refine lv_goto (tgt := 32) hx hb dX4_digest_93 (by decide) ?_
        exact hko32 v3 v4 H locs hP hD hS ls (lv_sub hl [2, 1, 0] rfl) h
      · have h := it_f c1 h
        refine lv_ldc2 (v := (31 : Int64)) hx hb hown (hts (.constantLong RX4 225 (31)) (List.mem_of_getElem? (i := 2) rfl)) dX4_digest_52 ?_
        refine lv_lload_n hx hb dX4_digest_55 rfl (lv_at hl 1 rfl) ?_
        refine lv_lmul hx hb dX4_digest_56 ?_
        refine lv_aload_n hx hb dX4_digest_57 rfl (lv_at hl 0 rfl) ?_
        refine lv_iload_n hx hb dX4_digest_58 rfl (lv_at hl 2 rfl) ?_
        refine lv_iload hx hb dX4_digest_59 (lv_at hl 3 rfl) ?_
        obtain ⟨r5, q5, h⟩ := b1_s h
        refine go_i (run_V (As := [.int x3, .int x4]) (rest := [.long ((31 : Int64) * x1)]) ⟨hx, hb, hml, hown, hts⟩ hnw hK hP hD (fr_X_X a k B0 L0 R0 T0 U0 V0 B0 L0 R0 T0 U0 V0) (ks_X_X k) (c_X4_told l D a k H.size B0 L0 R0 T0 U0 V0 x3 x4 r5 q5) (cwV 2 hts gX4_digest_X4_told rfl rfl rfl (by decide +kernel) ⟨Nat.le_of_ble_eq_true rfl, Nat.le_of_ble_eq_true rfl⟩) (rcv_X a k B0 L0 R0 T0 U0 V0) rfl hl.1 rfl (Nat.le_of_ble_eq_true rfl) dX4_digest_61 ⟨Nat.zero_le _, Nat.zero_le _⟩) hP hD hS hA (fr_X_X a k B0 L0 R0 T0 U0 V0 B0 L0 R0 T0 U0 V0) (fun H locs hP hD hS => ?_)
        refine lv_i2l (v := (Int32.toInt64 r5)) hx hb dX4_digest_64 rfl ?_
        refine lv_ladd hx hb dX4_digest_65 ?_
        refine lv_topl (fun v6 ev6 => ?_)
        have h := ltt_s ev6 h
        refine lv_lstore_n (lv' := [(1, .long v6), (0, .ref (a 26)), (3, .int x3), (4, .int x4)]) hx hb dX4_digest_66 rfl hl (by decide) rfl (fun ls hl => ?_)
        obtain ⟨v7, ev7⟩ : ∃ y : Int32, y = x4 + (1 : Int32) := ⟨_, rfl⟩
        have h := ltt_s ev7 h
        refine lv_iinc (v := v7) (lv' := [(4, .int v7), (1, .long v6), (0, .ref (a 26)), (3, .int x3)]) hx hb dX4_digest_67 hl (k := 3) rfl (by rw [ev7]; rfl) (by decide) rfl (fun ls hl => ?_)
        refine lv_goto (tgt := 46) hx hb dX4_digest_70 (by decide) ?_
        exact ih v6 x3 v7 H locs hP hD hS ls (lv_sub hl [2, 1, 3, 0] rfl) h
  have lb125 : ∀ (n : Nat), ∀ (x1 : Int64) (x3 : Int32), ∀ (H : Heap) (locs : List Loc), va_P D vwCl (xX a k B0 L0 R0 T0 U0 V0) H → va_D A (xX a k B0 L0 R0 T0 U0 V0) → va_S A s.heap H locs → ∀ ls : Array Slot, lv_has ls 5 [(0, .ref (a 26)), (1, .long x1), (3, .int x3)] → f_X4_digest_L125 B0 R0 T0 U0 V0 n x1 x3 = some r → W p l e rm_X4_digest s m args below meth c H locs 0 0 Q (F0 m 125 ls []) := by
    intro n
    induction n with
    | zero =>
      intro x1 x3 H locs hP hD hS ls hl h
      rw [f_X4_digest_L125] at h
      cases h
    | succ n ih =>
      intro x1 x3 H locs hP hD hS ls hl h
      rw [f_X4_digest_L125] at h
      refine lv_iload_n hx hb dX4_digest_125 rfl (lv_at hl 2 rfl) ?_
      refine lv_bipush (v := (6 : Int32)) hx hb dX4_digest_126 (by decide) ?_
      refine lv_icmp_ge (tgt := 147) hx hb dX4_digest_128 (by decide) (fun c8 => ?_) (fun c8 => ?_)
      · have h := it_t c8 h
        refine lv_lload_n hx hb dX4_digest_147 rfl (lv_at hl 1 rfl) ?_
        have h := Option.some.inj h
        subst hQ
        subst hAe
        exact r_l hx hb hr hlocks h hP hD hS dX4_digest_148
      · have h := it_f c8 h
        refine lv_aload_n hx hb dX4_digest_131 rfl (lv_at hl 0 rfl) ?_
        refine va_get (D := D) (ci := 4) (v := .ref (a 11)) (C := RX4) (T := TX4) (N := 8) hx hb hts hin4 hown hK hP 0 rfl rfl 2 (by decide) (hts (.fieldLink RX4 26 "BallastLine" "runs" "LBallastLine$Runs;") (List.mem_of_getElem? (i := 5) rfl)) (fun _ h9 => h9) rfl dX4_digest_132 ?_
        refine lv_lload_n hx hb dX4_digest_135 rfl (lv_at hl 1 rfl) ?_
        refine lv_iload_n hx hb dX4_digest_136 rfl (lv_at hl 2 rfl) ?_
        obtain ⟨r9, q9, h⟩ := b1_s h
        refine go_l (run_VN (As := [.long x1, .int x3]) (rest := []) ⟨hx, hb, hml, hown, hts⟩ hnw hK hP hD (fr_X_U a k B0 L0 R0 T0 U0 V0 U0) (ks_X_U k) (c_X0_digestOn l D a k H.size U0 x1 x3 r9 q9) ⟨va_cnB 2 hts ggX4_digest_X0_digestOn rfl rfl rfl (hnw.2 (RX4, 233, yX0_digestOn, RX4) (List.mem_of_getElem? (i := 35) rfl)) (hts (.initialized RX0) (List.mem_of_getElem? (i := 28) rfl)) (by decide +kernel) ⟨Nat.le_of_ble_eq_true rfl, Nat.le_of_ble_eq_true rfl⟩, (hts (.instanceMethod yX0_digestOn) (List.mem_of_getElem? (i := 36) rfl)), (hts (.selects RX0 yX0_digestOn yX0_digestOn) (List.mem_of_getElem? (i := 37) rfl))⟩ (rcv_U a k U0) rfl hl.1 rfl (Nat.le_of_ble_eq_true rfl) dX4_digest_137 ⟨Nat.zero_le _, Nat.zero_le _⟩) hP hD hS hA (fr_X_U a k B0 L0 R0 T0 U0 V0 U0) (fun H locs hP hD hS => ?_)
        refine lv_lstore_n (lv' := [(1, .long r9), (0, .ref (a 26)), (3, .int x3)]) hx hb dX4_digest_140 rfl hl (by decide) rfl (fun ls hl => ?_)
        obtain ⟨v10, ev10⟩ : ∃ y : Int32, y = x3 + (1 : Int32) := ⟨_, rfl⟩
        have h := ltt_s ev10 h
        refine lv_iinc (v := v10) (lv' := [(3, .int v10), (1, .long r9), (0, .ref (a 26))]) hx hb dX4_digest_141 hl (k := 2) rfl (by rw [ev10]; rfl) (by decide) rfl (fun ls hl => ?_)
        refine lv_goto (tgt := 125) hx hb dX4_digest_144 (by decide) ?_
        exact ih r9 v10 H locs hP hD hS ls (lv_sub hl [2, 1, 0] rfl) h
  have lb98 : ∀ (n : Nat), ∀ (x1 : Int64) (x3 : Int32), ∀ (H : Heap) (locs : List Loc), va_P D vwCl (xX a k B0 L0 R0 T0 U0 V0) H → va_D A (xX a k B0 L0 R0 T0 U0 V0) → va_S A s.heap H locs → ∀ ls : Array Slot, lv_has ls 5 [(0, .ref (a 26)), (1, .long x1), (3, .int x3)] → f_X4_digest_L98 B0 R0 T0 U0 V0 n x1 x3 = some r → W p l e rm_X4_digest s m args below meth c H locs 0 0 Q (F0 m 98 ls []) := by
    intro n
    induction n with
    | zero =>
      intro x1 x3 H locs hP hD hS ls hl h
      rw [f_X4_digest_L98] at h
      cases h
    | succ n ih =>
      intro x1 x3 H locs hP hD hS ls hl h
      rw [f_X4_digest_L98] at h
      refine lv_iload_n hx hb dX4_digest_98 rfl (lv_at hl 2 rfl) ?_
      refine lv_iconst (v := (4 : Int32)) hx hb dX4_digest_99 (by decide) ?_
      refine lv_icmp_ge (tgt := 123) hx hb dX4_digest_100 (by decide) (fun c11 => ?_) (fun c11 => ?_)
      · have h := it_t c11 h
        refine lv_iconst (v := (0 : Int32)) hx hb dX4_digest_123 (by decide) ?_
        refine lv_istore_n (lv' := [(3, .int (0 : Int32)), (0, .ref (a 26)), (1, .long x1)]) hx hb dX4_digest_124 rfl hl (by decide) rfl (fun ls hl => ?_)
        exact lb125 64 x1 (0 : Int32) H locs hP hD hS ls (lv_sub hl [1, 2, 0] rfl) h
      · have h := it_f c11 h
        refine lv_ldc2 (v := (31 : Int64)) hx hb hown (hts (.constantLong RX4 225 (31)) (List.mem_of_getElem? (i := 2) rfl)) dX4_digest_103 ?_
        refine lv_lload_n hx hb dX4_digest_106 rfl (lv_at hl 1 rfl) ?_
        refine lv_lmul hx hb dX4_digest_107 ?_
        refine lv_aload_n hx hb dX4_digest_108 rfl (lv_at hl 0 rfl) ?_
        refine va_get (D := D) (ci := 4) (v := .ref (a 27)) (C := RX4) (T := TX4) (N := 8) hx hb hts hin4 hown hK hP 0 rfl rfl 4 (by decide) (hts (.fieldLink RX4 37 "BallastLine" "freeAt" "[I") (List.mem_of_getElem? (i := 4) rfl)) (fun _ h9 => h9) rfl dX4_digest_109 ?_
        refine lv_iload_n hx hb dX4_digest_112 rfl (lv_at hl 2 rfl) ?_
        obtain ⟨g12, h⟩ := gd_s h
        refine va_iald hx hb hK hP 1 0 rfl rfl (inb_in g12) dX4_digest_113 ?_
        refine lv_i2l (v := (Int32.toInt64 (B0 4 (Int32.toNatClampNeg x3)))) hx hb dX4_digest_114 rfl ?_
        refine lv_ladd hx hb dX4_digest_115 ?_
        refine lv_topl (fun v13 ev13 => ?_)
        have h := ltt_s ev13 h
        refine lv_lstore_n (lv' := [(1, .long v13), (0, .ref (a 26)), (3, .int x3)]) hx hb dX4_digest_116 rfl hl (by decide) rfl (fun ls hl => ?_)
        obtain ⟨v14, ev14⟩ : ∃ y : Int32, y = x3 + (1 : Int32) := ⟨_, rfl⟩
        have h := ltt_s ev14 h
        refine lv_iinc (v := v14) (lv' := [(3, .int v14), (1, .long v13), (0, .ref (a 26))]) hx hb dX4_digest_117 hl (k := 2) rfl (by rw [ev14]; rfl) (by decide) rfl (fun ls hl => ?_)
        refine lv_goto (tgt := 98) hx hb dX4_digest_120 (by decide) ?_
        exact ih v13 v14 H locs hP hD hS ls (lv_sub hl [2, 1, 0] rfl) h
  have lb32 : ∀ (n : Nat), ∀ (x1 : Int64) (x3 : Int32), ∀ (H : Heap) (locs : List Loc), va_P D vwCl (xX a k B0 L0 R0 T0 U0 V0) H → va_D A (xX a k B0 L0 R0 T0 U0 V0) → va_S A s.heap H locs → ∀ ls : Array Slot, lv_has ls 5 [(0, .ref (a 26)), (1, .long x1), (3, .int x3)] → f_X4_digest_L32 B0 R0 T0 U0 V0 n x1 x3 = some r → W p l e rm_X4_digest s m args below meth c H locs 0 0 Q (F0 m 32 ls []) := by
    intro n
    induction n with
    | zero =>
      intro x1 x3 H locs hP hD hS ls hl h
      rw [f_X4_digest_L32] at h
      cases h
    | succ n ih =>
      intro x1 x3 H locs hP hD hS ls hl h
      rw [f_X4_digest_L32] at h
      refine lv_iload_n hx hb dX4_digest_32 rfl (lv_at hl 2 rfl) ?_
      refine lv_aload_n hx hb dX4_digest_33 rfl (lv_at hl 0 rfl) ?_
      refine va_get (D := D) (ci := 4) (v := .ref (a 0)) (C := RX4) (T := TX4) (N := 8) hx hb hts hin4 hown hK hP 0 rfl rfl 0 (by decide) (hts (.fieldLink RX4 10 "BallastLine" "track" "LBallastLine$Track;") (List.mem_of_getElem? (i := 3) rfl)) (fun _ h9 => h9) rfl dX4_digest_34 ?_
      refine va_getN (host := RX4) (D := D) (ci := 1) (v := .int (T0 7 0)) (C := RX1) (T := TX1) (N := 8) hx hb hts hin1 hown hK hP 6 rfl rfl 7 (by decide) (va_Nw.use rfl (hnw.1 (RX4, 120, "BallastLine$Track", "size", "I", RX4) (List.mem_of_getElem? (i := 9) rfl))) (fun _ h9 => h9) rfl dX4_digest_37 ?_
      refine lv_icmp_ge (tgt := 96) hx hb dX4_digest_40 (by decide) (fun c15 => ?_) (fun c15 => ?_)
      · have h := it_t c15 h
        refine lv_iconst (v := (0 : Int32)) hx hb dX4_digest_96 (by decide) ?_
        refine lv_istore_n (lv' := [(3, .int (0 : Int32)), (0, .ref (a 26)), (1, .long x1)]) hx hb dX4_digest_97 rfl hl (by decide) rfl (fun ls hl => ?_)
        exact lb98 64 x1 (0 : Int32) H locs hP hD hS ls (lv_sub hl [1, 2, 0] rfl) h
      · have h := it_f c15 h
        refine lv_iconst (v := (0 : Int32)) hx hb dX4_digest_43 (by decide) ?_
        refine lv_istore (lv' := [(4, .int (0 : Int32)), (0, .ref (a 26)), (1, .long x1), (3, .int x3)]) hx hb dX4_digest_44 hl (by decide) rfl (fun ls hl => ?_)
        exact lb46 (f_X4_digest_L32 B0 R0 T0 U0 V0 n) ih 64 x1 x3 (0 : Int32) H locs hP hD hS ls (lv_sub hl [1, 2, 3, 0] rfl) h
  have lb6 : ∀ (n : Nat), ∀ (x1 : Int64) (x3 : Int32), ∀ (H : Heap) (locs : List Loc), va_P D vwCl (xX a k B0 L0 R0 T0 U0 V0) H → va_D A (xX a k B0 L0 R0 T0 U0 V0) → va_S A s.heap H locs → ∀ ls : Array Slot, lv_has ls 5 [(0, .ref (a 26)), (1, .long x1), (3, .int x3)] → f_X4_digest_L6 B0 R0 T0 U0 V0 n x1 x3 = some r → W p l e rm_X4_digest s m args below meth c H locs 0 0 Q (F0 m 6 ls []) := by
    intro n
    induction n with
    | zero =>
      intro x1 x3 H locs hP hD hS ls hl h
      rw [f_X4_digest_L6] at h
      cases h
    | succ n ih =>
      intro x1 x3 H locs hP hD hS ls hl h
      rw [f_X4_digest_L6] at h
      refine lv_iload_n hx hb dX4_digest_6 rfl (lv_at hl 2 rfl) ?_
      refine lv_iconst (v := (5 : Int32)) hx hb dX4_digest_7 (by decide) ?_
      refine lv_icmp_ge (tgt := 30) hx hb dX4_digest_8 (by decide) (fun c16 => ?_) (fun c16 => ?_)
      · have h := it_t c16 h
        refine lv_iconst (v := (0 : Int32)) hx hb dX4_digest_30 (by decide) ?_
        refine lv_istore_n (lv' := [(3, .int (0 : Int32)), (0, .ref (a 26)), (1, .long x1)]) hx hb dX4_digest_31 rfl hl (by decide) rfl (fun ls hl => ?_)
        exact lb32 64 x1 (0 : Int32) H locs hP hD hS ls (lv_sub hl [1, 2, 0] rfl) h
      · have h := it_f c16 h
        refine lv_ldc2 (v := (31 : Int64)) hx hb hown (hts (.constantLong RX4 225 (31)) (List.mem_of_getElem? (i := 2) rfl)) dX4_digest_11 ?_
        refine lv_lload_n hx hb dX4_digest_14 rfl (lv_at hl 1 rfl) ?_
        refine lv_lmul hx hb dX4_digest_15 ?_
        refine lv_aload_n hx hb dX4_digest_16 rfl (lv_at hl 0 rfl) ?_
        refine lv_iload_n hx hb dX4_digest_17 rfl (lv_at hl 2 rfl) ?_
        obtain ⟨r17, q17, h⟩ := b1_s h
        refine go_i (run_V (As := [.int x3]) (rest := [.long ((31 : Int64) * x1)]) ⟨hx, hb, hml, hown, hts⟩ hnw hK hP hD (fr_X_X a k B0 L0 R0 T0 U0 V0 B0 L0 R0 T0 U0 V0) (ks_X_X k) (c_X4_count l D a k H.size B0 L0 R0 T0 U0 V0 x3 r17 q17) (cwV 1 hts gX4_digest_X4_count rfl rfl rfl (by decide +kernel) ⟨Nat.le_of_ble_eq_true rfl, Nat.le_of_ble_eq_true rfl⟩) (rcv_X a k B0 L0 R0 T0 U0 V0) rfl hl.1 rfl (Nat.le_of_ble_eq_true rfl) dX4_digest_18 ⟨Nat.zero_le _, Nat.zero_le _⟩) hP hD hS hA (fr_X_X a k B0 L0 R0 T0 U0 V0 B0 L0 R0 T0 U0 V0) (fun H locs hP hD hS => ?_)
        refine lv_i2l (v := (Int32.toInt64 r17)) hx hb dX4_digest_21 rfl ?_
        refine lv_ladd hx hb dX4_digest_22 ?_
        refine lv_topl (fun v18 ev18 => ?_)
        have h := ltt_s ev18 h
        refine lv_lstore_n (lv' := [(1, .long v18), (0, .ref (a 26)), (3, .int x3)]) hx hb dX4_digest_23 rfl hl (by decide) rfl (fun ls hl => ?_)
        obtain ⟨v19, ev19⟩ : ∃ y : Int32, y = x3 + (1 : Int32) := ⟨_, rfl⟩
        have h := ltt_s ev19 h
        refine lv_iinc (v := v19) (lv' := [(3, .int v19), (1, .long v18), (0, .ref (a 26))]) hx hb dX4_digest_24 hl (k := 2) rfl (by rw [ev19]; rfl) (by decide) rfl (fun ls hl => ?_)
        refine lv_goto (tgt := 6) hx hb dX4_digest_27 (by decide) ?_
        exact ih v18 v19 H locs hP hD hS ls (lv_sub hl [2, 1, 0] rfl) h
  rw [f_X4_digest] at h
  obtain ⟨H, hH⟩ : ∃ H, H = s.heap := ⟨_, rfl⟩
  obtain ⟨locs, hlc⟩ : ∃ L : List Loc, L = [] := ⟨_, rfl⟩
  rw [← hH] at hP
  have hS : va_S A s.heap H locs := by rw [hH, hlc]; exact hS
  suffices hW9 : W p l e rm_X4_digest s m args below meth c H locs 0 0 Q (F0 m 0 ls []) by rw [hH, hlc] at hW9; exact hW9
  refine lv_ldc2 (v := (17 : Int64)) hx hb hown (hts (.constantLong RX4 223 (17)) (List.mem_of_getElem? (i := 1) rfl)) dX4_digest_0 ?_
  refine lv_lstore_n (lv' := [(1, .long (17 : Int64)), (0, .ref (a 26))]) hx hb dX4_digest_3 rfl hl (by decide) rfl (fun ls hl => ?_)
  refine lv_iconst (v := (0 : Int32)) hx hb dX4_digest_4 (by decide) ?_
  refine lv_istore_n (lv' := [(3, .int (0 : Int32)), (1, .long (17 : Int64)), (0, .ref (a 26))]) hx hb dX4_digest_5 rfl hl (by decide) rfl (fun ls hl => ?_)
  exact lb6 64 (17 : Int64) (0 : Int32) H locs hP hD hS ls (lv_sub hl [2, 1, 0] rfl) h
