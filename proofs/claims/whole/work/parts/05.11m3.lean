def f_X5_chordAt (M0 : Nat → Nat → Int32) (p0 : Int32) (p1 : Int32) : Option (Int32) := b1 (f_X5_isSleeper M0 (p0 - p1)) (fun r1 => if r1 = (0 : Int32) then (some (0 : Int32)) else (b1 (f_X5_isSleeper M0 (p0 + p1)) (fun r3 => if r3 = (0 : Int32) then (some (0 : Int32)) else (b1 (f_X5_railAt M0 p0) (fun r5 => b1 (f_X5_railAt M0 (p0 - p1)) (fun r6 => b1 (f_X5_railAt M0 (p0 + p1)) (fun r7 => some ((((2 : Int32) * r5) - r6) - r7))))))))
abbrev rm_X5_chordAt : Room := { frames := 3, cells := 0, slots := 0, locals := 69 }
set_option maxHeartbeats 4000000 in
set_option maxRecDepth 100000 in
theorem c_X5_chordAt (l : Launch) (D : va_G) (a : Nat → Nat) (k : Nat → ClassId) (sz : Nat) (M0 : Nat → Nat → Int32) (L0 : Int64) (p0 : Int32) (p1 : Int32) (r : Int32) (h : f_X5_chordAt M0 p0 p1 = some r) : Met l yX5_chordAt wsX5_chordAt rm_X5_chordAt (mPc D [.ref (a 0), .int p0, .int p1] (xM a k M0 L0) (tM k) sz) (mQi D (xM a k M0 L0) (xM a k M0 L0) sz r) 0 0 (va_A (xM a k M0 L0) sz) := by
  refine mk_met (cc := cX5_chordAt) (maxL := 3) (ret := (some .int)) (by decide) rfl (Nat.le_of_ble_eq_true rfl) ?_
  intro p e s m below meth c hx hb hr hml hts hown hmn hlocks hnw hsz hK hP hD hS hA ls hl
  obtain ⟨A, hAe⟩ : ∃ A, A = va_A (xM a k M0 L0) sz := ⟨_, rfl⟩
  rw [← hAe] at hD hS hA
  generalize hargs : List.toArray ([.ref (a 0), .int p0, .int p1] : List Value) = args at hts ⊢
  generalize hQ : MQ below (mQi D (xM a k M0 L0) (xM a k M0 L0) sz r) args s 0 0 (va_A (xM a k M0 L0) sz) = Q
  have hl : lv_has ls 3 [(0, .ref (a 0)), (1, .int p0), (2, .int p1)] := hl
  rw [f_X5_chordAt] at h
  obtain ⟨H, hH⟩ : ∃ H, H = s.heap := ⟨_, rfl⟩
  obtain ⟨locs, hlc⟩ : ∃ L : List Loc, L = [] := ⟨_, rfl⟩
  rw [← hH] at hP
  have hS : va_S A s.heap H locs := by rw [hH, hlc]; exact hS
  suffices hW9 : W p l e rm_X5_chordAt s m args below meth c H locs 0 0 Q (F0 m 0 ls []) by rw [hH, hlc] at hW9; exact hW9
  refine lv_aload_n hx hb dX5_chordAt_0 rfl (lv_at hl 0 rfl) ?_
  refine lv_iload_n hx hb dX5_chordAt_1 rfl (lv_at hl 1 rfl) ?_
  refine lv_iload_n hx hb dX5_chordAt_2 rfl (lv_at hl 2 rfl) ?_
  refine lv_isub hx hb dX5_chordAt_3 ?_
  obtain ⟨r1, q1, h⟩ := b1_s h
  refine go_i (run_V (As := [.int (p0 - p1)]) (rest := []) ⟨hx, hb, hml, hown, hts⟩ hnw hK hP hD (fr_M_M a k M0 L0 M0 L0) (ks_M_M k) (c_X5_isSleeper l D a k H.size M0 L0 (p0 - p1) r1 q1) (cwV 1 hts gX5_chordAt_X5_isSleeper rfl rfl rfl (by decide +kernel) ⟨Nat.le_of_ble_eq_true rfl, Nat.le_of_ble_eq_true rfl⟩) (rcv_M a k M0 L0) rfl hl.1 rfl (Nat.le_of_ble_eq_true rfl) dX5_chordAt_4 ⟨Nat.zero_le _, Nat.zero_le _⟩) hP hD hS hA (fr_M_M a k M0 L0 M0 L0) (fun H locs hP hD hS => ?_)
  refine lv_if_eq (tgt := 46) hx hb dX5_chordAt_7 (by decide) (fun c2 => ?_) (fun c2 => ?_)
  · have h := it_t c2 h
    refine lv_iconst (v := (0 : Int32)) hx hb dX5_chordAt_46 (by decide) ?_
    have h := Option.some.inj h
    subst hQ
    subst hAe
    exact r_i hx hb hr hlocks h hP hD hS dX5_chordAt_47
  · have h := it_f c2 h
    refine lv_aload_n hx hb dX5_chordAt_10 rfl (lv_at hl 0 rfl) ?_
    refine lv_iload_n hx hb dX5_chordAt_11 rfl (lv_at hl 1 rfl) ?_
    refine lv_iload_n hx hb dX5_chordAt_12 rfl (lv_at hl 2 rfl) ?_
    refine lv_iadd hx hb dX5_chordAt_13 ?_
    obtain ⟨r3, q3, h⟩ := b1_s h
    refine go_i (run_V (As := [.int (p0 + p1)]) (rest := []) ⟨hx, hb, hml, hown, hts⟩ hnw hK hP hD (fr_M_M a k M0 L0 M0 L0) (ks_M_M k) (c_X5_isSleeper l D a k H.size M0 L0 (p0 + p1) r3 q3) (cwV 1 hts gX5_chordAt_X5_isSleeper rfl rfl rfl (by decide +kernel) ⟨Nat.le_of_ble_eq_true rfl, Nat.le_of_ble_eq_true rfl⟩) (rcv_M a k M0 L0) rfl hl.1 rfl (Nat.le_of_ble_eq_true rfl) dX5_chordAt_14 ⟨Nat.zero_le _, Nat.zero_le _⟩) hP hD hS hA (fr_M_M a k M0 L0 M0 L0) (fun H locs hP hD hS => ?_)
    refine lv_if_eq (tgt := 46) hx hb dX5_chordAt_17 (by decide) (fun c4 => ?_) (fun c4 => ?_)
    · have h := it_t c4 h
      refine lv_iconst (v := (0 : Int32)) hx hb dX5_chordAt_46 (by decide) ?_
      have h := Option.some.inj h
      subst hQ
      subst hAe
      exact r_i hx hb hr hlocks h hP hD hS dX5_chordAt_47
    · have h := it_f c4 h
      refine lv_iconst (v := (2 : Int32)) hx hb dX5_chordAt_20 (by decide) ?_
      refine lv_aload_n hx hb dX5_chordAt_21 rfl (lv_at hl 0 rfl) ?_
      refine lv_iload_n hx hb dX5_chordAt_22 rfl (lv_at hl 1 rfl) ?_
      obtain ⟨r5, q5, h⟩ := b1_s h
      refine go_i (run_V (As := [.int p0]) (rest := [.int (2 : Int32)]) ⟨hx, hb, hml, hown, hts⟩ hnw hK hP hD (fr_M_M a k M0 L0 M0 L0) (ks_M_M k) (c_X5_railAt l D a k H.size M0 L0 p0 r5 q5) (cwV 1 hts gX5_chordAt_X5_railAt rfl rfl rfl (by decide +kernel) ⟨Nat.le_of_ble_eq_true rfl, Nat.le_of_ble_eq_true rfl⟩) (rcv_M a k M0 L0) rfl hl.1 rfl (Nat.le_of_ble_eq_true rfl) dX5_chordAt_23 ⟨Nat.zero_le _, Nat.zero_le _⟩) hP hD hS hA (fr_M_M a k M0 L0 M0 L0) (fun H locs hP hD hS => ?_)
      refine lv_imul hx hb dX5_chordAt_26 ?_
      refine lv_aload_n hx hb dX5_chordAt_27 rfl (lv_at hl 0 rfl) ?_
      refine lv_iload_n hx hb dX5_chordAt_28 rfl (lv_at hl 1 rfl) ?_
      refine lv_iload_n hx hb dX5_chordAt_29 rfl (lv_at hl 2 rfl) ?_
      refine lv_isub hx hb dX5_chordAt_30 ?_
      obtain ⟨r6, q6, h⟩ := b1_s h
      refine go_i (run_V (As := [.int (p0 - p1)]) (rest := [.int ((2 : Int32) * r5)]) ⟨hx, hb, hml, hown, hts⟩ hnw hK hP hD (fr_M_M a k M0 L0 M0 L0) (ks_M_M k) (c_X5_railAt l D a k H.size M0 L0 (p0 - p1) r6 q6) (cwV 1 hts gX5_chordAt_X5_railAt rfl rfl rfl (by decide +kernel) ⟨Nat.le_of_ble_eq_true rfl, Nat.le_of_ble_eq_true rfl⟩) (rcv_M a k M0 L0) rfl hl.1 rfl (Nat.le_of_ble_eq_true rfl) dX5_chordAt_31 ⟨Nat.zero_le _, Nat.zero_le _⟩) hP hD hS hA (fr_M_M a k M0 L0 M0 L0) (fun H locs hP hD hS => ?_)
      refine lv_isub hx hb dX5_chordAt_34 ?_
      refine lv_aload_n hx hb dX5_chordAt_35 rfl (lv_at hl 0 rfl) ?_
      refine lv_iload_n hx hb dX5_chordAt_36 rfl (lv_at hl 1 rfl) ?_
      refine lv_iload_n hx hb dX5_chordAt_37 rfl (lv_at hl 2 rfl) ?_
      refine lv_iadd hx hb dX5_chordAt_38 ?_
      obtain ⟨r7, q7, h⟩ := b1_s h
      refine go_i (run_V (As := [.int (p0 + p1)]) (rest := [.int (((2 : Int32) * r5) - r6)]) ⟨hx, hb, hml, hown, hts⟩ hnw hK hP hD (fr_M_M a k M0 L0 M0 L0) (ks_M_M k) (c_X5_railAt l D a k H.size M0 L0 (p0 + p1) r7 q7) (cwV 1 hts gX5_chordAt_X5_railAt rfl rfl rfl (by decide +kernel) ⟨Nat.le_of_ble_eq_true rfl, Nat.le_of_ble_eq_true rfl⟩) (rcv_M a k M0 L0) rfl hl.1 rfl (Nat.le_of_ble_eq_true rfl) dX5_chordAt_39 ⟨Nat.zero_le _, Nat.zero_le _⟩) hP hD hS hA (fr_M_M a k M0 L0 M0 L0) (fun H locs hP hD hS => ?_)
      refine lv_isub hx hb dX5_chordAt_42 ?_
      refine lv_goto (tgt := 47) hx hb dX5_chordAt_43 (by decide) ?_
      have h := Option.some.inj h
      subst hQ
      subst hAe
      exact r_i hx hb hr hlocks h hP hD hS dX5_chordAt_47
def f_X5_measure_J81  (p0 : Int32) (p1 : Int32) (ko43 : Int32 → Int32 → (Nat → Nat → Int32) → Option (Int32 × (Nat → Nat → Int32))) (x3 : Int32) (x4 : Int32) (s0 : Int32) (s1 : Int32) (M : Nat → Nat → Int32) : Option (Int32 × (Nat → Nat → Int32)) := gd (inb s1 240) (ltt (st M 15 (Int32.toNatClampNeg s1) s0) (fun (M_2 : Nat → Nat → Int32) => ltt (x4 + (1 : Int32)) (fun v3 => ko43 x3 v3 M_2)))
def f_X5_measure_L43  (p0 : Int32) (p1 : Int32)  : Nat → Int32 → Int32 → (Nat → Nat → Int32) → Option (Int32 × (Nat → Nat → Int32))
  | 0, _, _, _ => none
  | n + 1, x3, x4, M => if (40 : Int32) ≤ x4 then (some (x3, M)) else (if (M 3 0) ≤ x4 then (f_X5_measure_J81 p0 p1 (f_X5_measure_L43 p0 p1 n) x3 x4 (0 : Int32) (((40 : Int32) * p0) + x4) M) else (b1 (f_X5_chordAt M x4 p1) (fun r6 => f_X5_measure_J81 p0 p1 (f_X5_measure_L43 p0 p1 n) x3 x4 r6 (((40 : Int32) * p0) + x4) M)))
def f_X5_measure_J32  (p0 : Int32) (p1 : Int32)  (s0 : Int32) (M : Nat → Nat → Int32) : Option (Int32 × (Nat → Nat → Int32)) := gd (inb p0 6) (ltt (st M 14 (Int32.toNatClampNeg p0) (vp_nar .boolean (1 : Int32))) (fun (M_8 : Nat → Nat → Int32) => f_X5_measure_L43 p0 p1 64 s0 (0 : Int32) M_8))
def f_X5_measure (M0 : Nat → Nat → Int32) (p0 : Int32) (p1 : Int32) : Option (Int32 × (Nat → Nat → Int32)) := b1 (f_X5_isNumber p0) (fun r9 => if r9 = (0 : Int32) then (some ((-1 : Int32), M0)) else (b1 (f_X5_in p1 (1 : Int32) (4 : Int32)) (fun r11 => if r11 = (0 : Int32) then (some ((-1 : Int32), M0)) else (gd (inb p0 6) (if (M0 14 (Int32.toNatClampNeg p0)) = (0 : Int32) then (f_X5_measure_J32 p0 p1 (0 : Int32) M0) else (f_X5_measure_J32 p0 p1 (1 : Int32) M0))))))
abbrev rm_X5_measure : Room := { frames := 4, cells := 0, slots := 0, locals := 91 }
set_option maxHeartbeats 4000000 in
set_option maxRecDepth 100000 in
theorem c_X5_measure (l : Launch) (D : va_G) (a : Nat → Nat) (k : Nat → ClassId) (sz : Nat) (M0 : Nat → Nat → Int32) (L0 : Int64) (p0 : Int32) (p1 : Int32) (r : Int32) (Mz : (Nat → Nat → Int32)) (h : f_X5_measure M0 p0 p1 = some (r, Mz)) : Met l yX5_measure wsX5_measure rm_X5_measure (mPc D [.ref (a 0), .int p0, .int p1] (xM a k M0 L0) (tM k) sz) (mQi D (xM a k M0 L0) (xM a k Mz L0) sz r) 0 0 (va_A (xM a k M0 L0) sz) := by
  refine mk_met (cc := cX5_measure) (maxL := 5) (ret := (some .int)) (by decide) rfl (Nat.le_of_ble_eq_true rfl) ?_
  intro p e s m below meth c hx hb hr hml hts hown hmn hlocks hnw hsz hK hP hD hS hA ls hl
  obtain ⟨A, hAe⟩ : ∃ A, A = va_A (xM a k M0 L0) sz := ⟨_, rfl⟩
  rw [← hAe] at hD hS hA
  generalize hargs : List.toArray ([.ref (a 0), .int p0, .int p1] : List Value) = args at hts ⊢
  generalize hQ : MQ below (mQi D (xM a k M0 L0) (xM a k Mz L0) sz r) args s 0 0 (va_A (xM a k M0 L0) sz) = Q
  have hl : lv_has ls 5 [(0, .ref (a 0)), (1, .int p0), (2, .int p1)] := hl
  have hin5 : ∀ w ∈ wsX50, w ∈ wsX5_measure := fun w h => List.mem_cons_of_mem _ (List.mem_append_right _ h)
  have lb81 : ∀ (ko43 : Int32 → Int32 → (Nat → Nat → Int32) → Option (Int32 × (Nat → Nat → Int32))), (∀ (x3 : Int32) (x4 : Int32) (M : Nat → Nat → Int32), ∀ (H : Heap) (locs : List Loc), va_P D vwCl (xM a k M L0) H → va_D A (xM a k M L0) → va_S A s.heap H locs → ∀ ls : Array Slot, lv_has ls 5 [(0, .ref (a 0)), (1, .int p0), (2, .int p1), (3, .int x3), (4, .int x4)] → ko43 x3 x4 M = some (r, Mz) → W p l e rm_X5_measure s m args below meth c H locs 0 0 Q (F0 m 43 ls [])) → ∀ (x3 : Int32) (x4 : Int32) (s0 : Int32) (s1 : Int32) (M : Nat → Nat → Int32), ∀ (H : Heap) (locs : List Loc), va_P D vwCl (xM a k M L0) H → va_D A (xM a k M L0) → va_S A s.heap H locs → ∀ ls : Array Slot, lv_has ls 5 [(0, .ref (a 0)), (1, .int p0), (2, .int p1), (3, .int x3), (4, .int x4)] → f_X5_measure_J81 p0 p1 ko43 x3 x4 s0 s1 M = some (r, Mz) → W p l e rm_X5_measure s m args below meth c H locs 0 0 Q (F0 m 81 ls [.int s0, .int s1, .ref (a 12)]) := by
    intro ko43 hko43 x3 x4 s0 s1 M H locs hP hD hS ls hl h
    rw [f_X5_measure_J81] at h
    obtain ⟨g1, h⟩ := gd_s h
    refine va_iast hx hb hK hP hD hS 12 11 rfl rfl (inb_in g1) dX5_measure_81 (fun H locs hP hD hS => ?_)
    obtain ⟨M_2, eM_2⟩ : ∃ y : Nat → Nat → Int32, y = st M 15 (Int32.toNatClampNeg s1) s0 := ⟨_, rfl⟩
    have h := ltt_s eM_2 h
    have hP : va_P D vwCl (xM a k M_2 L0) H := by rw [eM_2]; exact hP
    have hD : va_D A (xM a k M_2 L0) := by rw [eM_2]; exact hD
    obtain ⟨v3, ev3⟩ : ∃ y : Int32, y = x4 + (1 : Int32) := ⟨_, rfl⟩
    have h := ltt_s ev3 h
    refine lv_iinc (v := v3) (lv' := [(4, .int v3), (0, .ref (a 0)), (1, .int p0), (2, .int p1), (3, .int x3)]) hx hb dX5_measure_82 hl (k := 4) rfl (by rw [ev3]; rfl) (by decide) rfl (fun ls hl => ?_)
    refine lv_goto (tgt := 43) hx hb dX5_measure_85 (by decide) ?_
    exact hko43 x3 v3 M_2 H locs hP hD hS ls (lv_sub hl [1, 2, 3, 4, 0] rfl) h
  have lb43 : ∀ (n : Nat), ∀ (x3 : Int32) (x4 : Int32) (M : Nat → Nat → Int32), ∀ (H : Heap) (locs : List Loc), va_P D vwCl (xM a k M L0) H → va_D A (xM a k M L0) → va_S A s.heap H locs → ∀ ls : Array Slot, lv_has ls 5 [(0, .ref (a 0)), (1, .int p0), (2, .int p1), (3, .int x3), (4, .int x4)] → f_X5_measure_L43 p0 p1 n x3 x4 M = some (r, Mz) → W p l e rm_X5_measure s m args below meth c H locs 0 0 Q (F0 m 43 ls []) := by
    intro n
    induction n with
    | zero =>
      intro x3 x4 M H locs hP hD hS ls hl h
      rw [f_X5_measure_L43] at h
      cases h
    | succ n ih =>
      intro x3 x4 M H locs hP hD hS ls hl h
      rw [f_X5_measure_L43] at h
      refine lv_iload hx hb dX5_measure_43 (lv_at hl 4 rfl) ?_
      refine lv_bipush (v := (40 : Int32)) hx hb dX5_measure_45 (by decide) ?_
      refine lv_icmp_ge (tgt := 88) hx hb dX5_measure_47 (by decide) (fun c4 => ?_) (fun c4 => ?_)
      · have h := it_t c4 h
        refine lv_iload_n hx hb dX5_measure_88 rfl (lv_at hl 3 rfl) ?_
        have h := Option.some.inj h
        obtain ⟨hz0, h⟩ := Prod.mk.inj h
        have hP : va_P D vwCl (xM a k Mz L0) H := by rw [← h]; exact hP
        have hD : va_D A (xM a k Mz L0) := by rw [← h]; exact hD
        subst hQ
        subst hAe
        exact r_i hx hb hr hlocks hz0 hP hD hS dX5_measure_89
      · have h := it_f c4 h
        refine lv_aload_n hx hb dX5_measure_50 rfl (lv_at hl 0 rfl) ?_
        refine va_get (D := D) (ci := 5) (v := .ref (a 12)) (C := RX5) (T := TX5) (N := 20) hx hb hts hin5 hown hK hP 0 rfl rfl 15 (by decide) (hts (.fieldLink RX5 44 "BallastLineModel" "runs" "[I") (List.mem_of_getElem? (i := 2) rfl)) (fun _ h9 => h9) rfl dX5_measure_51 ?_
        refine lv_bipush (v := (40 : Int32)) hx hb dX5_measure_54 (by decide) ?_
        refine lv_iload_n hx hb dX5_measure_56 rfl (lv_at hl 1 rfl) ?_
        refine lv_imul hx hb dX5_measure_57 ?_
        refine lv_iload hx hb dX5_measure_58 (lv_at hl 4 rfl) ?_
        refine lv_iadd hx hb dX5_measure_60 ?_
        refine lv_iload hx hb dX5_measure_61 (lv_at hl 4 rfl) ?_
        refine lv_aload_n hx hb dX5_measure_63 rfl (lv_at hl 0 rfl) ?_
        refine va_get (D := D) (ci := 5) (v := .int (M 3 0)) (C := RX5) (T := TX5) (N := 20) hx hb hts hin5 hown hK hP 0 rfl rfl 3 (by decide) (hts (.fieldLink RX5 72 "BallastLineModel" "many" "I") (List.mem_of_getElem? (i := 3) rfl)) (fun _ h9 => h9) rfl dX5_measure_64 ?_
        refine lv_icmp_ge (tgt := 80) hx hb dX5_measure_67 (by decide) (fun c5 => ?_) (fun c5 => ?_)
        · have h := it_t c5 h
          refine lv_iconst (v := (0 : Int32)) hx hb dX5_measure_80 (by decide) ?_
          exact lb81 (f_X5_measure_L43 p0 p1 n) ih x3 x4 (0 : Int32) (((40 : Int32) * p0) + x4) M H locs hP hD hS ls (lv_sub hl [0, 1, 2, 3, 4] rfl) h
        · have h := it_f c5 h
          refine lv_aload_n hx hb dX5_measure_70 rfl (lv_at hl 0 rfl) ?_
          refine lv_iload hx hb dX5_measure_71 (lv_at hl 4 rfl) ?_
          refine lv_iload_n hx hb dX5_measure_73 rfl (lv_at hl 2 rfl) ?_
          obtain ⟨r6, q6, h⟩ := b1_s h
          refine go_i (run_V (As := [.int x4, .int p1]) (rest := [.int (((40 : Int32) * p0) + x4), .ref (a 12)]) ⟨hx, hb, hml, hown, hts⟩ hnw hK hP hD (fr_M_M a k M L0 M L0) (ks_M_M k) (c_X5_chordAt l D a k H.size M L0 x4 p1 r6 q6) (cwV 2 hts gX5_measure_X5_chordAt rfl rfl rfl (by decide +kernel) ⟨Nat.le_of_ble_eq_true rfl, Nat.le_of_ble_eq_true rfl⟩) (rcv_M a k M L0) rfl hl.1 rfl (Nat.le_of_ble_eq_true rfl) dX5_measure_74 ⟨Nat.zero_le _, Nat.zero_le _⟩) hP hD hS hA (fr_M_M a k M L0 M L0) (fun H locs hP hD hS => ?_)
          refine lv_goto (tgt := 81) hx hb dX5_measure_77 (by decide) ?_
          exact lb81 (f_X5_measure_L43 p0 p1 n) ih x3 x4 r6 (((40 : Int32) * p0) + x4) M H locs hP hD hS ls (lv_sub hl [0, 1, 2, 3, 4] rfl) h
  have lb32 : ∀ (s0 : Int32) (M : Nat → Nat → Int32), ∀ (H : Heap) (locs : List Loc), va_P D vwCl (xM a k M L0) H → va_D A (xM a k M L0) → va_S A s.heap H locs → ∀ ls : Array Slot, lv_has ls 5 [(0, .ref (a 0)), (1, .int p0), (2, .int p1)] → f_X5_measure_J32 p0 p1 s0 M = some (r, Mz) → W p l e rm_X5_measure s m args below meth c H locs 0 0 Q (F0 m 32 ls [.int s0]) := by
    intro  s0 M H locs hP hD hS ls hl h
    rw [f_X5_measure_J32] at h
    refine lv_istore_n (lv' := [(3, .int s0), (0, .ref (a 0)), (1, .int p0), (2, .int p1)]) hx hb dX5_measure_32 rfl hl (by decide) rfl (fun ls hl => ?_)
    refine lv_aload_n hx hb dX5_measure_33 rfl (lv_at hl 1 rfl) ?_
    refine va_get (D := D) (ci := 5) (v := .ref (a 11)) (C := RX5) (T := TX5) (N := 20) hx hb hts hin5 hown hK hP 0 rfl rfl 14 (by decide) (hts (.fieldLink RX5 41 "BallastLineModel" "isRun" "[Z") (List.mem_of_getElem? (i := 1) rfl)) (fun _ h9 => h9) rfl dX5_measure_34 ?_
    refine lv_iload_n hx hb dX5_measure_37 rfl (lv_at hl 2 rfl) ?_
    refine lv_iconst (v := (1 : Int32)) hx hb dX5_measure_38 (by decide) ?_
    obtain ⟨g7, h⟩ := gd_s h
    refine va_zast hx hb hK hP hD hS 11 10 rfl rfl (inb_in g7) dX5_measure_39 (fun H locs hP hD hS => ?_)
    obtain ⟨M_8, eM_8⟩ : ∃ y : Nat → Nat → Int32, y = st M 14 (Int32.toNatClampNeg p0) (vp_nar .boolean (1 : Int32)) := ⟨_, rfl⟩
    have h := ltt_s eM_8 h
    have hP : va_P D vwCl (xM a k M_8 L0) H := by rw [eM_8]; exact hP
    have hD : va_D A (xM a k M_8 L0) := by rw [eM_8]; exact hD
    refine lv_iconst (v := (0 : Int32)) hx hb dX5_measure_40 (by decide) ?_
    refine lv_istore (lv' := [(4, .int (0 : Int32)), (3, .int s0), (0, .ref (a 0)), (1, .int p0), (2, .int p1)]) hx hb dX5_measure_41 hl (by decide) rfl (fun ls hl => ?_)
    exact lb43 64 s0 (0 : Int32) M_8 H locs hP hD hS ls (lv_sub hl [2, 3, 4, 1, 0] rfl) h
  rw [f_X5_measure] at h
  obtain ⟨H, hH⟩ : ∃ H, H = s.heap := ⟨_, rfl⟩
  obtain ⟨locs, hlc⟩ : ∃ L : List Loc, L = [] := ⟨_, rfl⟩
  rw [← hH] at hP
  have hS : va_S A s.heap H locs := by rw [hH, hlc]; exact hS
  suffices hW9 : W p l e rm_X5_measure s m args below meth c H locs 0 0 Q (F0 m 0 ls []) by rw [hH, hlc] at hW9; exact hW9
  refine lv_iload_n hx hb dX5_measure_0 rfl (lv_at hl 1 rfl) ?_
  obtain ⟨r9, q9, h⟩ := b1_s h
  refine go_i (run_S (As := [.int p0]) (rest := []) ⟨hx, hb, hml, hown, hts⟩ hnw hK hP hD (fr_M_E a k M0 L0) (ks_M_E k) (c_X5_isNumber l D H.size p0 r9 q9) (cwS 1 hts gX5_measure_X5_isNumber rfl rfl rfl (by decide +kernel) ⟨Nat.le_of_ble_eq_true rfl, Nat.le_of_ble_eq_true rfl⟩) rfl hl.1 rfl (Nat.le_of_ble_eq_true rfl) dX5_measure_1 ⟨Nat.zero_le _, Nat.zero_le _⟩) hP hD hS hA (fr_M_E a k M0 L0) (fun H locs hP hD hS => ?_)
  refine lv_if_eq (tgt := 16) hx hb dX5_measure_4 (by decide) (fun c10 => ?_) (fun c10 => ?_)
  · have h := it_t c10 h
    refine lv_iconst (v := (-1 : Int32)) hx hb dX5_measure_16 (by decide) ?_
    have h := Option.some.inj h
    obtain ⟨hz0, h⟩ := Prod.mk.inj h
    have hP : va_P D vwCl (xM a k Mz L0) H := by rw [← h]; exact hP
    have hD : va_D A (xM a k Mz L0) := by rw [← h]; exact hD
    subst hQ
    subst hAe
    exact r_i hx hb hr hlocks hz0 hP hD hS dX5_measure_17
  · have h := it_f c10 h
    refine lv_iload_n hx hb dX5_measure_7 rfl (lv_at hl 2 rfl) ?_
    refine lv_iconst (v := (1 : Int32)) hx hb dX5_measure_8 (by decide) ?_
    refine lv_iconst (v := (4 : Int32)) hx hb dX5_measure_9 (by decide) ?_
    obtain ⟨r11, q11, h⟩ := b1_s h
    refine go_i (run_S (As := [.int p1, .int (1 : Int32), .int (4 : Int32)]) (rest := []) ⟨hx, hb, hml, hown, hts⟩ hnw hK hP hD (fr_M_E a k M0 L0) (ks_M_E k) (c_X5_in l D H.size p1 (1 : Int32) (4 : Int32) r11 q11) (cwS 3 hts gX5_measure_X5_in rfl rfl rfl (by decide +kernel) ⟨Nat.le_of_ble_eq_true rfl, Nat.le_of_ble_eq_true rfl⟩) rfl hl.1 rfl (Nat.le_of_ble_eq_true rfl) dX5_measure_10 ⟨Nat.zero_le _, Nat.zero_le _⟩) hP hD hS hA (fr_M_E a k M0 L0) (fun H locs hP hD hS => ?_)
    refine lv_if_ne (tgt := 18) hx hb dX5_measure_13 (by decide) (fun c12 => ?_) (fun c12 => ?_)
    · have h := it_f c12 h
      refine lv_aload_n hx hb dX5_measure_18 rfl (lv_at hl 0 rfl) ?_
      refine va_get (D := D) (ci := 5) (v := .ref (a 11)) (C := RX5) (T := TX5) (N := 20) hx hb hts hin5 hown hK hP 0 rfl rfl 14 (by decide) (hts (.fieldLink RX5 41 "BallastLineModel" "isRun" "[Z") (List.mem_of_getElem? (i := 1) rfl)) (fun _ h9 => h9) rfl dX5_measure_19 ?_
      refine lv_iload_n hx hb dX5_measure_22 rfl (lv_at hl 1 rfl) ?_
      obtain ⟨g13, h⟩ := gd_s h
      refine va_zald hx hb hK hP 11 10 rfl rfl (inb_in g13) dX5_measure_23 ?_
      refine lv_if_eq (tgt := 31) hx hb dX5_measure_24 (by decide) (fun c14 => ?_) (fun c14 => ?_)
      · have h := it_t c14 h
        refine lv_iconst (v := (0 : Int32)) hx hb dX5_measure_31 (by decide) ?_
        exact lb32  (0 : Int32) M0 H locs hP hD hS ls (lv_sub hl [0, 1, 2] rfl) h
      · have h := it_f c14 h
        refine lv_iconst (v := (1 : Int32)) hx hb dX5_measure_27 (by decide) ?_
        refine lv_goto (tgt := 32) hx hb dX5_measure_28 (by decide) ?_
        exact lb32  (1 : Int32) M0 H locs hP hD hS ls (lv_sub hl [0, 1, 2] rfl) h
    · have h := it_t c12 h
      refine lv_iconst (v := (-1 : Int32)) hx hb dX5_measure_16 (by decide) ?_
      have h := Option.some.inj h
      obtain ⟨hz0, h⟩ := Prod.mk.inj h
      have hP : va_P D vwCl (xM a k Mz L0) H := by rw [← h]; exact hP
      have hD : va_D A (xM a k Mz L0) := by rw [← h]; exact hD
      subst hQ
      subst hAe
      exact r_i hx hb hr hlocks hz0 hP hD hS dX5_measure_17
def f_X5_level_J66  (p0 : Int32) (ko33 : Int32 → Int32 → (Nat → Nat → Int32) → Option (Int32 × (Nat → Nat → Int32))) (x2 : Int32) (x3 : Int32) (s0 : Int32) (s1 : Int32) (M : Nat → Nat → Int32) : Option (Int32 × (Nat → Nat → Int32)) := gd (inb s1 240) (ltt (st M 15 (Int32.toNatClampNeg s1) s0) (fun (M_2 : Nat → Nat → Int32) => ltt (x3 + (1 : Int32)) (fun v3 => ko33 x2 v3 M_2)))
def f_X5_level_L33  (p0 : Int32)  : Nat → Int32 → Int32 → (Nat → Nat → Int32) → Option (Int32 × (Nat → Nat → Int32))
  | 0, _, _, _ => none
  | n + 1, x2, x3, M => if (40 : Int32) ≤ x3 then (some (x2, M)) else (if (M 3 0) ≤ x3 then (f_X5_level_J66 p0 (f_X5_level_L33 p0 n) x2 x3 (0 : Int32) (((40 : Int32) * p0) + x3) M) else (b1 (f_X5_railAt M x3) (fun r6 => f_X5_level_J66 p0 (f_X5_level_L33 p0 n) x2 x3 r6 (((40 : Int32) * p0) + x3) M)))
def f_X5_level_J23  (p0 : Int32)  (s0 : Int32) (M : Nat → Nat → Int32) : Option (Int32 × (Nat → Nat → Int32)) := gd (inb p0 6) (ltt (st M 14 (Int32.toNatClampNeg p0) (vp_nar .boolean (1 : Int32))) (fun (M_8 : Nat → Nat → Int32) => f_X5_level_L33 p0 64 s0 (0 : Int32) M_8))
def f_X5_level (M0 : Nat → Nat → Int32) (p0 : Int32) : Option (Int32 × (Nat → Nat → Int32)) := b1 (f_X5_isNumber p0) (fun r9 => if r9 = (0 : Int32) then (some ((-1 : Int32), M0)) else (gd (inb p0 6) (if (M0 14 (Int32.toNatClampNeg p0)) = (0 : Int32) then (f_X5_level_J23 p0 (0 : Int32) M0) else (f_X5_level_J23 p0 (1 : Int32) M0))))
abbrev rm_X5_level : Room := { frames := 3, cells := 0, slots := 0, locals := 69 }
set_option maxHeartbeats 4000000 in
set_option maxRecDepth 100000 in
theorem c_X5_level (l : Launch) (D : va_G) (a : Nat → Nat) (k : Nat → ClassId) (sz : Nat) (M0 : Nat → Nat → Int32) (L0 : Int64) (p0 : Int32) (r : Int32) (Mz : (Nat → Nat → Int32)) (h : f_X5_level M0 p0 = some (r, Mz)) : Met l yX5_level wsX5_level rm_X5_level (mPc D [.ref (a 0), .int p0] (xM a k M0 L0) (tM k) sz) (mQi D (xM a k M0 L0) (xM a k Mz L0) sz r) 0 0 (va_A (xM a k M0 L0) sz) := by
  refine mk_met (cc := cX5_level) (maxL := 4) (ret := (some .int)) (by decide) rfl (Nat.le_of_ble_eq_true rfl) ?_
  intro p e s m below meth c hx hb hr hml hts hown hmn hlocks hnw hsz hK hP hD hS hA ls hl
  obtain ⟨A, hAe⟩ : ∃ A, A = va_A (xM a k M0 L0) sz := ⟨_, rfl⟩
  rw [← hAe] at hD hS hA
  generalize hargs : List.toArray ([.ref (a 0), .int p0] : List Value) = args at hts ⊢
  generalize hQ : MQ below (mQi D (xM a k M0 L0) (xM a k Mz L0) sz r) args s 0 0 (va_A (xM a k M0 L0) sz) = Q
  have hl : lv_has ls 4 [(0, .ref (a 0)), (1, .int p0)] := hl
  have hin5 : ∀ w ∈ wsX50, w ∈ wsX5_level := fun w h => List.mem_cons_of_mem _ (List.mem_append_right _ h)
  have lb66 : ∀ (ko33 : Int32 → Int32 → (Nat → Nat → Int32) → Option (Int32 × (Nat → Nat → Int32))), (∀ (x2 : Int32) (x3 : Int32) (M : Nat → Nat → Int32), ∀ (H : Heap) (locs : List Loc), va_P D vwCl (xM a k M L0) H → va_D A (xM a k M L0) → va_S A s.heap H locs → ∀ ls : Array Slot, lv_has ls 4 [(0, .ref (a 0)), (1, .int p0), (2, .int x2), (3, .int x3)] → ko33 x2 x3 M = some (r, Mz) → W p l e rm_X5_level s m args below meth c H locs 0 0 Q (F0 m 33 ls [])) → ∀ (x2 : Int32) (x3 : Int32) (s0 : Int32) (s1 : Int32) (M : Nat → Nat → Int32), ∀ (H : Heap) (locs : List Loc), va_P D vwCl (xM a k M L0) H → va_D A (xM a k M L0) → va_S A s.heap H locs → ∀ ls : Array Slot, lv_has ls 4 [(0, .ref (a 0)), (1, .int p0), (2, .int x2), (3, .int x3)] → f_X5_level_J66 p0 ko33 x2 x3 s0 s1 M = some (r, Mz) → W p l e rm_X5_level s m args below meth c H locs 0 0 Q (F0 m 66 ls [.int s0, .int s1, .ref (a 12)]) := by
    intro ko33 hko33 x2 x3 s0 s1 M H locs hP hD hS ls hl h
    rw [f_X5_level_J66] at h
    obtain ⟨g1, h⟩ := gd_s h
    refine va_iast hx hb hK hP hD hS 12 11 rfl rfl (inb_in g1) dX5_level_66 (fun H locs hP hD hS => ?_)
    obtain ⟨M_2, eM_2⟩ : ∃ y : Nat → Nat → Int32, y = st M 15 (Int32.toNatClampNeg s1) s0 := ⟨_, rfl⟩
    have h := ltt_s eM_2 h
    have hP : va_P D vwCl (xM a k M_2 L0) H := by rw [eM_2]; exact hP
    have hD : va_D A (xM a k M_2 L0) := by rw [eM_2]; exact hD
    obtain ⟨v3, ev3⟩ : ∃ y : Int32, y = x3 + (1 : Int32) := ⟨_, rfl⟩
    have h := ltt_s ev3 h
    refine lv_iinc (v := v3) (lv' := [(3, .int v3), (0, .ref (a 0)), (1, .int p0), (2, .int x2)]) hx hb dX5_level_67 hl (k := 3) rfl (by rw [ev3]; rfl) (by decide) rfl (fun ls hl => ?_)
    refine lv_goto (tgt := 33) hx hb dX5_level_70 (by decide) ?_
    exact hko33 x2 v3 M_2 H locs hP hD hS ls (lv_sub hl [1, 2, 3, 0] rfl) h
  have lb33 : ∀ (n : Nat), ∀ (x2 : Int32) (x3 : Int32) (M : Nat → Nat → Int32), ∀ (H : Heap) (locs : List Loc), va_P D vwCl (xM a k M L0) H → va_D A (xM a k M L0) → va_S A s.heap H locs → ∀ ls : Array Slot, lv_has ls 4 [(0, .ref (a 0)), (1, .int p0), (2, .int x2), (3, .int x3)] → f_X5_level_L33 p0 n x2 x3 M = some (r, Mz) → W p l e rm_X5_level s m args below meth c H locs 0 0 Q (F0 m 33 ls []) := by
    intro n
    induction n with
    | zero =>
      intro x2 x3 M H locs hP hD hS ls hl h
      rw [f_X5_level_L33] at h
      cases h
    | succ n ih =>
      intro x2 x3 M H locs hP hD hS ls hl h
      rw [f_X5_level_L33] at h
      refine lv_iload_n hx hb dX5_level_33 rfl (lv_at hl 3 rfl) ?_
      refine lv_bipush (v := (40 : Int32)) hx hb dX5_level_34 (by decide) ?_
      refine lv_icmp_ge (tgt := 73) hx hb dX5_level_36 (by decide) (fun c4 => ?_) (fun c4 => ?_)
      · have h := it_t c4 h
        refine lv_iload_n hx hb dX5_level_73 rfl (lv_at hl 2 rfl) ?_
        have h := Option.some.inj h
        obtain ⟨hz0, h⟩ := Prod.mk.inj h
        have hP : va_P D vwCl (xM a k Mz L0) H := by rw [← h]; exact hP
        have hD : va_D A (xM a k Mz L0) := by rw [← h]; exact hD
        subst hQ
        subst hAe
        exact r_i hx hb hr hlocks hz0 hP hD hS dX5_level_74
      · have h := it_f c4 h
        refine lv_aload_n hx hb dX5_level_39 rfl (lv_at hl 0 rfl) ?_
        refine va_get (D := D) (ci := 5) (v := .ref (a 12)) (C := RX5) (T := TX5) (N := 20) hx hb hts hin5 hown hK hP 0 rfl rfl 15 (by decide) (hts (.fieldLink RX5 44 "BallastLineModel" "runs" "[I") (List.mem_of_getElem? (i := 2) rfl)) (fun _ h9 => h9) rfl dX5_level_40 ?_
        refine lv_bipush (v := (40 : Int32)) hx hb dX5_level_43 (by decide) ?_
        refine lv_iload_n hx hb dX5_level_45 rfl (lv_at hl 1 rfl) ?_
        refine lv_imul hx hb dX5_level_46 ?_
        refine lv_iload_n hx hb dX5_level_47 rfl (lv_at hl 3 rfl) ?_
        refine lv_iadd hx hb dX5_level_48 ?_
        refine lv_iload_n hx hb dX5_level_49 rfl (lv_at hl 3 rfl) ?_
        refine lv_aload_n hx hb dX5_level_50 rfl (lv_at hl 0 rfl) ?_
        refine va_get (D := D) (ci := 5) (v := .int (M 3 0)) (C := RX5) (T := TX5) (N := 20) hx hb hts hin5 hown hK hP 0 rfl rfl 3 (by decide) (hts (.fieldLink RX5 72 "BallastLineModel" "many" "I") (List.mem_of_getElem? (i := 3) rfl)) (fun _ h9 => h9) rfl dX5_level_51 ?_
        refine lv_icmp_ge (tgt := 65) hx hb dX5_level_54 (by decide) (fun c5 => ?_) (fun c5 => ?_)
        · have h := it_t c5 h
          refine lv_iconst (v := (0 : Int32)) hx hb dX5_level_65 (by decide) ?_
          exact lb66 (f_X5_level_L33 p0 n) ih x2 x3 (0 : Int32) (((40 : Int32) * p0) + x3) M H locs hP hD hS ls (lv_sub hl [0, 1, 2, 3] rfl) h
        · have h := it_f c5 h
          refine lv_aload_n hx hb dX5_level_57 rfl (lv_at hl 0 rfl) ?_
          refine lv_iload_n hx hb dX5_level_58 rfl (lv_at hl 3 rfl) ?_
          obtain ⟨r6, q6, h⟩ := b1_s h
          refine go_i (run_V (As := [.int x3]) (rest := [.int (((40 : Int32) * p0) + x3), .ref (a 12)]) ⟨hx, hb, hml, hown, hts⟩ hnw hK hP hD (fr_M_M a k M L0 M L0) (ks_M_M k) (c_X5_railAt l D a k H.size M L0 x3 r6 q6) (cwV 1 hts gX5_level_X5_railAt rfl rfl rfl (by decide +kernel) ⟨Nat.le_of_ble_eq_true rfl, Nat.le_of_ble_eq_true rfl⟩) (rcv_M a k M L0) rfl hl.1 rfl (Nat.le_of_ble_eq_true rfl) dX5_level_59 ⟨Nat.zero_le _, Nat.zero_le _⟩) hP hD hS hA (fr_M_M a k M L0 M L0) (fun H locs hP hD hS => ?_)
          refine lv_goto (tgt := 66) hx hb dX5_level_62 (by decide) ?_
          exact lb66 (f_X5_level_L33 p0 n) ih x2 x3 r6 (((40 : Int32) * p0) + x3) M H locs hP hD hS ls (lv_sub hl [0, 1, 2, 3] rfl) h
  have lb23 : ∀ (s0 : Int32) (M : Nat → Nat → Int32), ∀ (H : Heap) (locs : List Loc), va_P D vwCl (xM a k M L0) H → va_D A (xM a k M L0) → va_S A s.heap H locs → ∀ ls : Array Slot, lv_has ls 4 [(0, .ref (a 0)), (1, .int p0)] → f_X5_level_J23 p0 s0 M = some (r, Mz) → W p l e rm_X5_level s m args below meth c H locs 0 0 Q (F0 m 23 ls [.int s0]) := by
    intro  s0 M H locs hP hD hS ls hl h
    rw [f_X5_level_J23] at h
    refine lv_istore_n (lv' := [(2, .int s0), (0, .ref (a 0)), (1, .int p0)]) hx hb dX5_level_23 rfl hl (by decide) rfl (fun ls hl => ?_)
    refine lv_aload_n hx hb dX5_level_24 rfl (lv_at hl 1 rfl) ?_
    refine va_get (D := D) (ci := 5) (v := .ref (a 11)) (C := RX5) (T := TX5) (N := 20) hx hb hts hin5 hown hK hP 0 rfl rfl 14 (by decide) (hts (.fieldLink RX5 41 "BallastLineModel" "isRun" "[Z") (List.mem_of_getElem? (i := 1) rfl)) (fun _ h9 => h9) rfl dX5_level_25 ?_
    refine lv_iload_n hx hb dX5_level_28 rfl (lv_at hl 2 rfl) ?_
    refine lv_iconst (v := (1 : Int32)) hx hb dX5_level_29 (by decide) ?_
    obtain ⟨g7, h⟩ := gd_s h
    refine va_zast hx hb hK hP hD hS 11 10 rfl rfl (inb_in g7) dX5_level_30 (fun H locs hP hD hS => ?_)
    obtain ⟨M_8, eM_8⟩ : ∃ y : Nat → Nat → Int32, y = st M 14 (Int32.toNatClampNeg p0) (vp_nar .boolean (1 : Int32)) := ⟨_, rfl⟩
    have h := ltt_s eM_8 h
    have hP : va_P D vwCl (xM a k M_8 L0) H := by rw [eM_8]; exact hP
    have hD : va_D A (xM a k M_8 L0) := by rw [eM_8]; exact hD
    refine lv_iconst (v := (0 : Int32)) hx hb dX5_level_31 (by decide) ?_
    refine lv_istore_n (lv' := [(3, .int (0 : Int32)), (2, .int s0), (0, .ref (a 0)), (1, .int p0)]) hx hb dX5_level_32 rfl hl (by decide) rfl (fun ls hl => ?_)
    exact lb33 64 s0 (0 : Int32) M_8 H locs hP hD hS ls (lv_sub hl [2, 3, 1, 0] rfl) h
  rw [f_X5_level] at h
  obtain ⟨H, hH⟩ : ∃ H, H = s.heap := ⟨_, rfl⟩
  obtain ⟨locs, hlc⟩ : ∃ L : List Loc, L = [] := ⟨_, rfl⟩
  rw [← hH] at hP
  have hS : va_S A s.heap H locs := by rw [hH, hlc]; exact hS
  suffices hW9 : W p l e rm_X5_level s m args below meth c H locs 0 0 Q (F0 m 0 ls []) by rw [hH, hlc] at hW9; exact hW9
  refine lv_iload_n hx hb dX5_level_0 rfl (lv_at hl 1 rfl) ?_
  obtain ⟨r9, q9, h⟩ := b1_s h
  refine go_i (run_S (As := [.int p0]) (rest := []) ⟨hx, hb, hml, hown, hts⟩ hnw hK hP hD (fr_M_E a k M0 L0) (ks_M_E k) (c_X5_isNumber l D H.size p0 r9 q9) (cwS 1 hts gX5_level_X5_isNumber rfl rfl rfl (by decide +kernel) ⟨Nat.le_of_ble_eq_true rfl, Nat.le_of_ble_eq_true rfl⟩) rfl hl.1 rfl (Nat.le_of_ble_eq_true rfl) dX5_level_1 ⟨Nat.zero_le _, Nat.zero_le _⟩) hP hD hS hA (fr_M_E a k M0 L0) (fun H locs hP hD hS => ?_)
  refine lv_if_ne (tgt := 9) hx hb dX5_level_4 (by decide) (fun c10 => ?_) (fun c10 => ?_)
  · have h := it_f c10 h
    refine lv_aload_n hx hb dX5_level_9 rfl (lv_at hl 0 rfl) ?_
    refine va_get (D := D) (ci := 5) (v := .ref (a 11)) (C := RX5) (T := TX5) (N := 20) hx hb hts hin5 hown hK hP 0 rfl rfl 14 (by decide) (hts (.fieldLink RX5 41 "BallastLineModel" "isRun" "[Z") (List.mem_of_getElem? (i := 1) rfl)) (fun _ h9 => h9) rfl dX5_level_10 ?_
    refine lv_iload_n hx hb dX5_level_13 rfl (lv_at hl 1 rfl) ?_
    obtain ⟨g11, h⟩ := gd_s h
    refine va_zald hx hb hK hP 11 10 rfl rfl (inb_in g11) dX5_level_14 ?_
    refine lv_if_eq (tgt := 22) hx hb dX5_level_15 (by decide) (fun c12 => ?_) (fun c12 => ?_)
    · have h := it_t c12 h
      refine lv_iconst (v := (0 : Int32)) hx hb dX5_level_22 (by decide) ?_
      exact lb23  (0 : Int32) M0 H locs hP hD hS ls (lv_sub hl [0, 1] rfl) h
    · have h := it_f c12 h
      refine lv_iconst (v := (1 : Int32)) hx hb dX5_level_18 (by decide) ?_
      refine lv_goto (tgt := 23) hx hb dX5_level_19 (by decide) ?_
      exact lb23  (1 : Int32) M0 H locs hP hD hS ls (lv_sub hl [0, 1] rfl) h
  · have h := it_t c10 h
    refine lv_iconst (v := (-1 : Int32)) hx hb dX5_level_7 (by decide) ?_
    have h := Option.some.inj h
    obtain ⟨hz0, h⟩ := Prod.mk.inj h
    have hP : va_P D vwCl (xM a k Mz L0) H := by rw [← h]; exact hP
    have hD : va_D A (xM a k Mz L0) := by rw [← h]; exact hD
    subst hQ
    subst hAe
    exact r_i hx hb hr hlocks hz0 hP hD hS dX5_level_8
def f_X5_askedFor (M0 : Nat → Nat → Int32) (p0 : Int32) : Option (Int32 × (Nat → Nat → Int32)) := b1 (f_X5_isNumber p0) (fun r1 => if r1 = (0 : Int32) then (some ((-1 : Int32), M0)) else (gd (inb p0 6) (if (M0 14 (Int32.toNatClampNeg p0)) = (0 : Int32) then (b2 (f_X5_meets M0 (1 : Int32)) (fun r5 (M_5 : Nat → Nat → Int32) => some (r5, M_5))) else (some ((0 : Int32), M0)))))
abbrev rm_X5_askedFor : Room := { frames := 2, cells := 0, slots := 0, locals := 42 }
set_option maxHeartbeats 4000000 in
set_option maxRecDepth 100000 in
theorem c_X5_askedFor (l : Launch) (D : va_G) (a : Nat → Nat) (k : Nat → ClassId) (sz : Nat) (M0 : Nat → Nat → Int32) (L0 : Int64) (p0 : Int32) (r : Int32) (Mz : (Nat → Nat → Int32)) (h : f_X5_askedFor M0 p0 = some (r, Mz)) : Met l yX5_askedFor wsX5_askedFor rm_X5_askedFor (mPc D [.ref (a 0), .int p0] (xM a k M0 L0) (tM k) sz) (mQi D (xM a k M0 L0) (xM a k Mz L0) sz r) 0 0 (va_A (xM a k M0 L0) sz) := by
  refine mk_met (cc := cX5_askedFor) (maxL := 2) (ret := (some .int)) (by decide) rfl (Nat.le_of_ble_eq_true rfl) ?_
  intro p e s m below meth c hx hb hr hml hts hown hmn hlocks hnw hsz hK hP hD hS hA ls hl
  obtain ⟨A, hAe⟩ : ∃ A, A = va_A (xM a k M0 L0) sz := ⟨_, rfl⟩
  rw [← hAe] at hD hS hA
  generalize hargs : List.toArray ([.ref (a 0), .int p0] : List Value) = args at hts ⊢
  generalize hQ : MQ below (mQi D (xM a k M0 L0) (xM a k Mz L0) sz r) args s 0 0 (va_A (xM a k M0 L0) sz) = Q
  have hl : lv_has ls 2 [(0, .ref (a 0)), (1, .int p0)] := hl
  have hin5 : ∀ w ∈ wsX50, w ∈ wsX5_askedFor := fun w h => List.mem_cons_of_mem _ (List.mem_append_right _ h)
  rw [f_X5_askedFor] at h
  obtain ⟨H, hH⟩ : ∃ H, H = s.heap := ⟨_, rfl⟩
  obtain ⟨locs, hlc⟩ : ∃ L : List Loc, L = [] := ⟨_, rfl⟩
  rw [← hH] at hP
  have hS : va_S A s.heap H locs := by rw [hH, hlc]; exact hS
  suffices hW9 : W p l e rm_X5_askedFor s m args below meth c H locs 0 0 Q (F0 m 0 ls []) by rw [hH, hlc] at hW9; exact hW9
  refine lv_iload_n hx hb dX5_askedFor_0 rfl (lv_at hl 1 rfl) ?_
  obtain ⟨r1, q1, h⟩ := b1_s h
  refine go_i (run_S (As := [.int p0]) (rest := []) ⟨hx, hb, hml, hown, hts⟩ hnw hK hP hD (fr_M_E a k M0 L0) (ks_M_E k) (c_X5_isNumber l D H.size p0 r1 q1) (cwS 1 hts gX5_askedFor_X5_isNumber rfl rfl rfl (by decide +kernel) ⟨Nat.le_of_ble_eq_true rfl, Nat.le_of_ble_eq_true rfl⟩) rfl hl.1 rfl (Nat.le_of_ble_eq_true rfl) dX5_askedFor_1 ⟨Nat.zero_le _, Nat.zero_le _⟩) hP hD hS hA (fr_M_E a k M0 L0) (fun H locs hP hD hS => ?_)
  refine lv_if_ne (tgt := 11) hx hb dX5_askedFor_4 (by decide) (fun c2 => ?_) (fun c2 => ?_)
  · have h := it_f c2 h
    refine lv_aload_n hx hb dX5_askedFor_11 rfl (lv_at hl 0 rfl) ?_
    refine va_get (D := D) (ci := 5) (v := .ref (a 11)) (C := RX5) (T := TX5) (N := 20) hx hb hts hin5 hown hK hP 0 rfl rfl 14 (by decide) (hts (.fieldLink RX5 41 "BallastLineModel" "isRun" "[Z") (List.mem_of_getElem? (i := 1) rfl)) (fun _ h9 => h9) rfl dX5_askedFor_12 ?_
    refine lv_iload_n hx hb dX5_askedFor_15 rfl (lv_at hl 1 rfl) ?_
    obtain ⟨g3, h⟩ := gd_s h
    refine va_zald hx hb hK hP 11 10 rfl rfl (inb_in g3) dX5_askedFor_16 ?_
    refine lv_if_eq (tgt := 24) hx hb dX5_askedFor_17 (by decide) (fun c4 => ?_) (fun c4 => ?_)
    · have h := it_t c4 h
      refine lv_aload_n hx hb dX5_askedFor_24 rfl (lv_at hl 0 rfl) ?_
      refine lv_iconst (v := (1 : Int32)) hx hb dX5_askedFor_25 (by decide) ?_
      obtain ⟨r5, M_5, q5, h⟩ := b2_s h
      refine go_i (run_V (As := [.int (1 : Int32)]) (rest := []) ⟨hx, hb, hml, hown, hts⟩ hnw hK hP hD (fr_M_M a k M0 L0 M_5 L0) (ks_M_M k) (c_X5_meets l D a k H.size M0 L0 (1 : Int32) r5 M_5 q5) (cwV 1 hts gX5_askedFor_X5_meets rfl rfl rfl (by decide +kernel) ⟨Nat.le_of_ble_eq_true rfl, Nat.le_of_ble_eq_true rfl⟩) (rcv_M a k M0 L0) rfl hl.1 rfl (Nat.le_of_ble_eq_true rfl) dX5_askedFor_26 ⟨Nat.zero_le _, Nat.zero_le _⟩) hP hD hS hA (fr_M_M a k M0 L0 M_5 L0) (fun H locs hP hD hS => ?_)
      have h := Option.some.inj h
      obtain ⟨hz0, h⟩ := Prod.mk.inj h
      have hP : va_P D vwCl (xM a k Mz L0) H := by rw [← h]; exact hP
      have hD : va_D A (xM a k Mz L0) := by rw [← h]; exact hD
      subst hQ
      subst hAe
      exact r_i hx hb hr hlocks hz0 hP hD hS dX5_askedFor_29
    · have h := it_f c4 h
      refine lv_iconst (v := (0 : Int32)) hx hb dX5_askedFor_20 (by decide) ?_
      refine lv_goto (tgt := 29) hx hb dX5_askedFor_21 (by decide) ?_
      have h := Option.some.inj h
      obtain ⟨hz0, h⟩ := Prod.mk.inj h
      have hP : va_P D vwCl (xM a k Mz L0) H := by rw [← h]; exact hP
      have hD : va_D A (xM a k Mz L0) := by rw [← h]; exact hD
      subst hQ
      subst hAe
      exact r_i hx hb hr hlocks hz0 hP hD hS dX5_askedFor_29
  · have h := it_t c2 h
    refine lv_iconst (v := (-1 : Int32)) hx hb dX5_askedFor_7 (by decide) ?_
    refine lv_goto (tgt := 29) hx hb dX5_askedFor_8 (by decide) ?_
    have h := Option.some.inj h
    obtain ⟨hz0, h⟩ := Prod.mk.inj h
    have hP : va_P D vwCl (xM a k Mz L0) H := by rw [← h]; exact hP
    have hD : va_D A (xM a k Mz L0) := by rw [← h]; exact hD
    subst hQ
    subst hAe
    exact r_i hx hb hr hlocks hz0 hP hD hS dX5_askedFor_29
def f_X5_lay (M0 : Nat → Nat → Int32) (L0 : Int64) (p0 : Int32) (p1 : Int32) (p2 : Int32) : Option (Int32 × (Nat → Nat → Int32) × Int64) := b1 (f_X5_in p2 (-100000 : Int32) (100000 : Int32)) (fun r1 => if r1 = (0 : Int32) then (some ((-1 : Int32), M0, L0)) else (b2 (f_X5_askedFor M0 p0) (fun r3 (M_3 : Nat → Nat → Int32) => if (0 : Int32) ≤ r3 then (b1 (f_X5_in p1 (0 : Int32) (39 : Int32)) (fun r5 => if r5 = (0 : Int32) then (b2 (f_X5_meets M_3 (2 : Int32)) (fun r11 (M_11 : Nat → Nat → Int32) => some (r11, M_11, L0))) else (gd (inb (((40 : Int32) * p0) + p1) 240) (ltt ((Int32.toInt64 (M_3 15 (Int32.toNatClampNeg (((40 : Int32) * p0) + p1))))) (fun (L_8 : Int64) => gd (inb (((40 : Int32) * p0) + p1) 240) (ltt (st M_3 15 (Int32.toNatClampNeg (((40 : Int32) * p0) + p1)) p2) (fun (M_10 : Nat → Nat → Int32) => some ((1 : Int32), M_10, L_8)))))))) else (some (r3, M_3, L0)))))
abbrev rm_X5_lay : Room := { frames := 3, cells := 0, slots := 0, locals := 63 }
set_option maxHeartbeats 4000000 in
set_option maxRecDepth 100000 in
theorem c_X5_lay (l : Launch) (D : va_G) (a : Nat → Nat) (k : Nat → ClassId) (sz : Nat) (M0 : Nat → Nat → Int32) (L0 : Int64) (p0 : Int32) (p1 : Int32) (p2 : Int32) (r : Int32) (Mz : (Nat → Nat → Int32)) (Lz : Int64) (h : f_X5_lay M0 L0 p0 p1 p2 = some (r, Mz, Lz)) : Met l yX5_lay wsX5_lay rm_X5_lay (mPc D [.ref (a 0), .int p0, .int p1, .int p2] (xM a k M0 L0) (tM k) sz) (mQi D (xM a k M0 L0) (xM a k Mz Lz) sz r) 0 0 (va_A (xM a k M0 L0) sz) := by
  refine mk_met (cc := cX5_lay) (maxL := 5) (ret := (some .int)) (by decide) rfl (Nat.le_of_ble_eq_true rfl) ?_
  intro p e s m below meth c hx hb hr hml hts hown hmn hlocks hnw hsz hK hP hD hS hA ls hl
  obtain ⟨A, hAe⟩ : ∃ A, A = va_A (xM a k M0 L0) sz := ⟨_, rfl⟩
  rw [← hAe] at hD hS hA
  generalize hargs : List.toArray ([.ref (a 0), .int p0, .int p1, .int p2] : List Value) = args at hts ⊢
  generalize hQ : MQ below (mQi D (xM a k M0 L0) (xM a k Mz Lz) sz r) args s 0 0 (va_A (xM a k M0 L0) sz) = Q
  have hl : lv_has ls 5 [(0, .ref (a 0)), (1, .int p0), (2, .int p1), (3, .int p2)] := hl
  have hin5 : ∀ w ∈ wsX50, w ∈ wsX5_lay := fun w h => List.mem_cons_of_mem _ (List.mem_append_right _ h)
  rw [f_X5_lay] at h
  obtain ⟨H, hH⟩ : ∃ H, H = s.heap := ⟨_, rfl⟩
  obtain ⟨locs, hlc⟩ : ∃ L : List Loc, L = [] := ⟨_, rfl⟩
  rw [← hH] at hP
  have hS : va_S A s.heap H locs := by rw [hH, hlc]; exact hS
  suffices hW9 : W p l e rm_X5_lay s m args below meth c H locs 0 0 Q (F0 m 0 ls []) by rw [hH, hlc] at hW9; exact hW9
  refine lv_iload_n hx hb dX5_lay_0 rfl (lv_at hl 3 rfl) ?_
  refine lv_ldc (v := (-100000 : Int32)) hx hb hown (hts (.constant RX5 117 (-100000)) (List.mem_of_getElem? (i := 1) rfl)) dX5_lay_1 ?_
  refine lv_ldc (v := (100000 : Int32)) hx hb hown (hts (.constant RX5 118 (100000)) (List.mem_of_getElem? (i := 2) rfl)) dX5_lay_3 ?_
  obtain ⟨r1, q1, h⟩ := b1_s h
  refine go_i (run_S (As := [.int p2, .int (-100000 : Int32), .int (100000 : Int32)]) (rest := []) ⟨hx, hb, hml, hown, hts⟩ hnw hK hP hD (fr_M_E a k M0 L0) (ks_M_E k) (c_X5_in l D H.size p2 (-100000 : Int32) (100000 : Int32) r1 q1) (cwS 3 hts gX5_lay_X5_in rfl rfl rfl (by decide +kernel) ⟨Nat.le_of_ble_eq_true rfl, Nat.le_of_ble_eq_true rfl⟩) rfl hl.1 rfl (Nat.le_of_ble_eq_true rfl) dX5_lay_5 ⟨Nat.zero_le _, Nat.zero_le _⟩) hP hD hS hA (fr_M_E a k M0 L0) (fun H locs hP hD hS => ?_)
  refine lv_if_ne (tgt := 13) hx hb dX5_lay_8 (by decide) (fun c2 => ?_) (fun c2 => ?_)
  · have h := it_f c2 h
    refine lv_aload_n hx hb dX5_lay_13 rfl (lv_at hl 0 rfl) ?_
    refine lv_iload_n hx hb dX5_lay_14 rfl (lv_at hl 1 rfl) ?_
    obtain ⟨r3, M_3, q3, h⟩ := b2_s h
    refine go_i (run_V (As := [.int p0]) (rest := []) ⟨hx, hb, hml, hown, hts⟩ hnw hK hP hD (fr_M_M a k M0 L0 M_3 L0) (ks_M_M k) (c_X5_askedFor l D a k H.size M0 L0 p0 r3 M_3 q3) (cwV 1 hts gX5_lay_X5_askedFor rfl rfl rfl (by decide +kernel) ⟨Nat.le_of_ble_eq_true rfl, Nat.le_of_ble_eq_true rfl⟩) (rcv_M a k M0 L0) rfl hl.1 rfl (Nat.le_of_ble_eq_true rfl) dX5_lay_15 ⟨Nat.zero_le _, Nat.zero_le _⟩) hP hD hS hA (fr_M_M a k M0 L0 M_3 L0) (fun H locs hP hD hS => ?_)
    refine lv_istore (lv' := [(4, .int r3), (0, .ref (a 0)), (1, .int p0), (2, .int p1), (3, .int p2)]) hx hb dX5_lay_18 hl (by decide) rfl (fun ls hl => ?_)
    refine lv_iload hx hb dX5_lay_20 (lv_at hl 0 rfl) ?_
    refine lv_if_ge (tgt := 28) hx hb dX5_lay_22 (by decide) (fun c4 => ?_) (fun c4 => ?_)
    · have h := it_t c4 h
      refine lv_iload_n hx hb dX5_lay_28 rfl (lv_at hl 3 rfl) ?_
      refine lv_iconst (v := (0 : Int32)) hx hb dX5_lay_29 (by decide) ?_
      refine lv_bipush (v := (39 : Int32)) hx hb dX5_lay_30 (by decide) ?_
      obtain ⟨r5, q5, h⟩ := b1_s h
      refine go_i (run_S (As := [.int p1, .int (0 : Int32), .int (39 : Int32)]) (rest := []) ⟨hx, hb, hml, hown, hts⟩ hnw hK hP hD (fr_M_E a k M_3 L0) (ks_M_E k) (c_X5_in l D H.size p1 (0 : Int32) (39 : Int32) r5 q5) (cwS 3 hts gX5_lay_X5_in rfl rfl rfl (by decide +kernel) ⟨Nat.le_of_ble_eq_true rfl, Nat.le_of_ble_eq_true rfl⟩) rfl hl.1 rfl (Nat.le_of_ble_eq_true rfl) dX5_lay_32 ⟨Nat.zero_le _, Nat.zero_le _⟩) hP hD hS hA (fr_M_E a k M_3 L0) (fun H locs hP hD hS => ?_)
      refine lv_if_ne (tgt := 44) hx hb dX5_lay_35 (by decide) (fun c6 => ?_) (fun c6 => ?_)
      · have h := it_f c6 h
        refine lv_aload_n hx hb dX5_lay_44 rfl (lv_at hl 1 rfl) ?_
        refine lv_aload_n hx hb dX5_lay_45 rfl (lv_at hl 1 rfl) ?_
        refine va_get (D := D) (ci := 5) (v := .ref (a 12)) (C := RX5) (T := TX5) (N := 20) hx hb hts hin5 hown hK hP 0 rfl rfl 15 (by decide) (hts (.fieldLink RX5 44 "BallastLineModel" "runs" "[I") (List.mem_of_getElem? (i := 3) rfl)) (fun _ h9 => h9) rfl dX5_lay_46 ?_
        refine lv_bipush (v := (40 : Int32)) hx hb dX5_lay_49 (by decide) ?_
        refine lv_iload_n hx hb dX5_lay_51 rfl (lv_at hl 2 rfl) ?_
        refine lv_imul hx hb dX5_lay_52 ?_
        refine lv_iload_n hx hb dX5_lay_53 rfl (lv_at hl 3 rfl) ?_
        refine lv_iadd hx hb dX5_lay_54 ?_
        obtain ⟨g7, h⟩ := gd_s h
        refine va_iald hx hb hK hP 12 11 rfl rfl (inb_in g7) dX5_lay_55 ?_
        refine lv_i2l (v := (Int32.toInt64 (M_3 15 (Int32.toNatClampNeg (((40 : Int32) * p0) + p1))))) hx hb dX5_lay_56 rfl ?_
        refine va_put (D := D) (ci := 5) (v := .long (Int32.toInt64 (M_3 15 (Int32.toNatClampNeg (((40 : Int32) * p0) + p1))))) (ty := .long) (C := RX5) (T := TX5) (N := 20) hx hb hts hin5 tyX5 tyX5_ok nmX5 hown hK hP hD hS 0 rfl rfl 2 (by decide) (hts (.fieldLink RX5 64 "BallastLineModel" "asked" "J") (List.mem_of_getElem? (i := 4) rfl)) (fun _ h9 => h9) rfl (by decide +kernel) rfl rfl (Nat.le_of_ble_eq_true rfl) dX5_lay_57 (fun H locs hP hD hS => ?_)
        obtain ⟨L_8, eL_8⟩ : ∃ y : Int64, y = (Int32.toInt64 (M_3 15 (Int32.toNatClampNeg (((40 : Int32) * p0) + p1)))) := ⟨_, rfl⟩
        have h := ltt_s eL_8 h
        have hP : va_P D vwCl (xM a k M_3 L_8) H := by rw [eL_8]; exact hP
        have hD : va_D A (xM a k M_3 L_8) := by rw [eL_8]; exact hD
        refine lv_aload_n hx hb dX5_lay_60 rfl (lv_at hl 1 rfl) ?_
        refine va_get (D := D) (ci := 5) (v := .ref (a 12)) (C := RX5) (T := TX5) (N := 20) hx hb hts hin5 hown hK hP 0 rfl rfl 15 (by decide) (hts (.fieldLink RX5 44 "BallastLineModel" "runs" "[I") (List.mem_of_getElem? (i := 3) rfl)) (fun _ h9 => h9) rfl dX5_lay_61 ?_
        refine lv_bipush (v := (40 : Int32)) hx hb dX5_lay_64 (by decide) ?_
        refine lv_iload_n hx hb dX5_lay_66 rfl (lv_at hl 2 rfl) ?_
        refine lv_imul hx hb dX5_lay_67 ?_
        refine lv_iload_n hx hb dX5_lay_68 rfl (lv_at hl 3 rfl) ?_
        refine lv_iadd hx hb dX5_lay_69 ?_
        refine lv_iload_n hx hb dX5_lay_70 rfl (lv_at hl 4 rfl) ?_
        obtain ⟨g9, h⟩ := gd_s h
        refine va_iast hx hb hK hP hD hS 12 11 rfl rfl (inb_in g9) dX5_lay_71 (fun H locs hP hD hS => ?_)
        obtain ⟨M_10, eM_10⟩ : ∃ y : Nat → Nat → Int32, y = st M_3 15 (Int32.toNatClampNeg (((40 : Int32) * p0) + p1)) p2 := ⟨_, rfl⟩
        have h := ltt_s eM_10 h
        have hP : va_P D vwCl (xM a k M_10 L_8) H := by rw [eM_10]; exact hP
        have hD : va_D A (xM a k M_10 L_8) := by rw [eM_10]; exact hD
        refine lv_iconst (v := (1 : Int32)) hx hb dX5_lay_72 (by decide) ?_
        have h := Option.some.inj h
        obtain ⟨hz0, h⟩ := Prod.mk.inj h
        obtain ⟨hz1, h⟩ := Prod.mk.inj h
        have hP : va_P D vwCl (xM a k Mz Lz) H := by rw [← hz1, ← h]; exact hP
        have hD : va_D A (xM a k Mz Lz) := by rw [← hz1, ← h]; exact hD
        subst hQ
        subst hAe
        exact r_i hx hb hr hlocks hz0 hP hD hS dX5_lay_73
      · have h := it_t c6 h
        refine lv_aload_n hx hb dX5_lay_38 rfl (lv_at hl 1 rfl) ?_
        refine lv_iconst (v := (2 : Int32)) hx hb dX5_lay_39 (by decide) ?_
        obtain ⟨r11, M_11, q11, h⟩ := b2_s h
        refine go_i (run_V (As := [.int (2 : Int32)]) (rest := []) ⟨hx, hb, hml, hown, hts⟩ hnw hK hP hD (fr_M_M a k M_3 L0 M_11 L0) (ks_M_M k) (c_X5_meets l D a k H.size M_3 L0 (2 : Int32) r11 M_11 q11) (cwV 1 hts gX5_lay_X5_meets rfl rfl rfl (by decide +kernel) ⟨Nat.le_of_ble_eq_true rfl, Nat.le_of_ble_eq_true rfl⟩) (rcv_M a k M_3 L0) rfl hl.1 rfl (Nat.le_of_ble_eq_true rfl) dX5_lay_40 ⟨Nat.zero_le _, Nat.zero_le _⟩) hP hD hS hA (fr_M_M a k M_3 L0 M_11 L0) (fun H locs hP hD hS => ?_)
        have h := Option.some.inj h
        obtain ⟨hz0, h⟩ := Prod.mk.inj h
        obtain ⟨hz1, h⟩ := Prod.mk.inj h
        have hP : va_P D vwCl (xM a k Mz Lz) H := by rw [← hz1, ← h]; exact hP
        have hD : va_D A (xM a k Mz Lz) := by rw [← hz1, ← h]; exact hD
        subst hQ
        subst hAe
        exact r_i hx hb hr hlocks hz0 hP hD hS dX5_lay_43
    · have h := it_f c4 h
      refine lv_iload hx hb dX5_lay_25 (lv_at hl 0 rfl) ?_
      have h := Option.some.inj h
      obtain ⟨hz0, h⟩ := Prod.mk.inj h
      obtain ⟨hz1, h⟩ := Prod.mk.inj h
      have hP : va_P D vwCl (xM a k Mz Lz) H := by rw [← hz1, ← h]; exact hP
      have hD : va_D A (xM a k Mz Lz) := by rw [← hz1, ← h]; exact hD
      subst hQ
      subst hAe
      exact r_i hx hb hr hlocks hz0 hP hD hS dX5_lay_27
  · have h := it_t c2 h
    refine lv_iconst (v := (-1 : Int32)) hx hb dX5_lay_11 (by decide) ?_
    have h := Option.some.inj h
    obtain ⟨hz0, h⟩ := Prod.mk.inj h
    obtain ⟨hz1, h⟩ := Prod.mk.inj h
    have hP : va_P D vwCl (xM a k Mz Lz) H := by rw [← hz1, ← h]; exact hP
    have hD : va_D A (xM a k Mz Lz) := by rw [← hz1, ← h]; exact hD
    subst hQ
    subst hAe
    exact r_i hx hb hr hlocks hz0 hP hD hS dX5_lay_12
def f_X5_at (M0 : Nat → Nat → Int32) (L0 : Int64) (p0 : Int32) (p1 : Int32) : Option (Int32 × (Nat → Nat → Int32) × Int64) := b2 (f_X5_askedFor M0 p0) (fun r1 (M_1 : Nat → Nat → Int32) => if (0 : Int32) ≤ r1 then (b1 (f_X5_in p1 (0 : Int32) (39 : Int32)) (fun r3 => if r3 = (0 : Int32) then (b2 (f_X5_meets M_1 (2 : Int32)) (fun r5 (M_5 : Nat → Nat → Int32) => some (r5, M_5, L0))) else (gd (inb (((40 : Int32) * p0) + p1) 240) (b2 (f_X5_tell L0 (Int32.toInt64 (M_1 15 (Int32.toNatClampNeg (((40 : Int32) * p0) + p1)))) (1 : Int32)) (fun r7 (L_7 : Int64) => some (r7, M_1, L_7)))))) else (some (r1, M_1, L0)))
abbrev rm_X5_at : Room := { frames := 3, cells := 0, slots := 0, locals := 63 }
set_option maxHeartbeats 4000000 in
set_option maxRecDepth 100000 in
theorem c_X5_at (l : Launch) (D : va_G) (a : Nat → Nat) (k : Nat → ClassId) (sz : Nat) (M0 : Nat → Nat → Int32) (L0 : Int64) (p0 : Int32) (p1 : Int32) (r : Int32) (Mz : (Nat → Nat → Int32)) (Lz : Int64) (h : f_X5_at M0 L0 p0 p1 = some (r, Mz, Lz)) : Met l yX5_at wsX5_at rm_X5_at (mPc D [.ref (a 0), .int p0, .int p1] (xM a k M0 L0) (tM k) sz) (mQi D (xM a k M0 L0) (xM a k Mz Lz) sz r) 0 0 (va_A (xM a k M0 L0) sz) := by
  refine mk_met (cc := cX5_at) (maxL := 4) (ret := (some .int)) (by decide) rfl (Nat.le_of_ble_eq_true rfl) ?_
  intro p e s m below meth c hx hb hr hml hts hown hmn hlocks hnw hsz hK hP hD hS hA ls hl
  obtain ⟨A, hAe⟩ : ∃ A, A = va_A (xM a k M0 L0) sz := ⟨_, rfl⟩
  rw [← hAe] at hD hS hA
  generalize hargs : List.toArray ([.ref (a 0), .int p0, .int p1] : List Value) = args at hts ⊢
  generalize hQ : MQ below (mQi D (xM a k M0 L0) (xM a k Mz Lz) sz r) args s 0 0 (va_A (xM a k M0 L0) sz) = Q
  have hl : lv_has ls 4 [(0, .ref (a 0)), (1, .int p0), (2, .int p1)] := hl
  have hin5 : ∀ w ∈ wsX50, w ∈ wsX5_at := fun w h => List.mem_cons_of_mem _ (List.mem_append_right _ h)
  rw [f_X5_at] at h
  obtain ⟨H, hH⟩ : ∃ H, H = s.heap := ⟨_, rfl⟩
  obtain ⟨locs, hlc⟩ : ∃ L : List Loc, L = [] := ⟨_, rfl⟩
  rw [← hH] at hP
  have hS : va_S A s.heap H locs := by rw [hH, hlc]; exact hS
  suffices hW9 : W p l e rm_X5_at s m args below meth c H locs 0 0 Q (F0 m 0 ls []) by rw [hH, hlc] at hW9; exact hW9
  refine lv_aload_n hx hb dX5_at_0 rfl (lv_at hl 0 rfl) ?_
  refine lv_iload_n hx hb dX5_at_1 rfl (lv_at hl 1 rfl) ?_
  obtain ⟨r1, M_1, q1, h⟩ := b2_s h
  refine go_i (run_V (As := [.int p0]) (rest := []) ⟨hx, hb, hml, hown, hts⟩ hnw hK hP hD (fr_M_M a k M0 L0 M_1 L0) (ks_M_M k) (c_X5_askedFor l D a k H.size M0 L0 p0 r1 M_1 q1) (cwV 1 hts gX5_at_X5_askedFor rfl rfl rfl (by decide +kernel) ⟨Nat.le_of_ble_eq_true rfl, Nat.le_of_ble_eq_true rfl⟩) (rcv_M a k M0 L0) rfl hl.1 rfl (Nat.le_of_ble_eq_true rfl) dX5_at_2 ⟨Nat.zero_le _, Nat.zero_le _⟩) hP hD hS hA (fr_M_M a k M0 L0 M_1 L0) (fun H locs hP hD hS => ?_)
  refine lv_istore_n (lv' := [(3, .int r1), (0, .ref (a 0)), (1, .int p0), (2, .int p1)]) hx hb dX5_at_5 rfl hl (by decide) rfl (fun ls hl => ?_)
  refine lv_iload_n hx hb dX5_at_6 rfl (lv_at hl 0 rfl) ?_
  refine lv_if_ge (tgt := 14) hx hb dX5_at_7 (by decide) (fun c2 => ?_) (fun c2 => ?_)
  · have h := it_t c2 h
    refine lv_iload_n hx hb dX5_at_14 rfl (lv_at hl 3 rfl) ?_
    refine lv_iconst (v := (0 : Int32)) hx hb dX5_at_15 (by decide) ?_
    refine lv_bipush (v := (39 : Int32)) hx hb dX5_at_16 (by decide) ?_
    obtain ⟨r3, q3, h⟩ := b1_s h
    refine go_i (run_S (As := [.int p1, .int (0 : Int32), .int (39 : Int32)]) (rest := []) ⟨hx, hb, hml, hown, hts⟩ hnw hK hP hD (fr_M_E a k M_1 L0) (ks_M_E k) (c_X5_in l D H.size p1 (0 : Int32) (39 : Int32) r3 q3) (cwS 3 hts gX5_at_X5_in rfl rfl rfl (by decide +kernel) ⟨Nat.le_of_ble_eq_true rfl, Nat.le_of_ble_eq_true rfl⟩) rfl hl.1 rfl (Nat.le_of_ble_eq_true rfl) dX5_at_18 ⟨Nat.zero_le _, Nat.zero_le _⟩) hP hD hS hA (fr_M_E a k M_1 L0) (fun H locs hP hD hS => ?_)
    refine lv_if_eq (tgt := 44) hx hb dX5_at_21 (by decide) (fun c4 => ?_) (fun c4 => ?_)
    · have h := it_t c4 h
      refine lv_aload_n hx hb dX5_at_44 rfl (lv_at hl 1 rfl) ?_
      refine lv_iconst (v := (2 : Int32)) hx hb dX5_at_45 (by decide) ?_
      obtain ⟨r5, M_5, q5, h⟩ := b2_s h
      refine go_i (run_V (As := [.int (2 : Int32)]) (rest := []) ⟨hx, hb, hml, hown, hts⟩ hnw hK hP hD (fr_M_M a k M_1 L0 M_5 L0) (ks_M_M k) (c_X5_meets l D a k H.size M_1 L0 (2 : Int32) r5 M_5 q5) (cwV 1 hts gX5_at_X5_meets rfl rfl rfl (by decide +kernel) ⟨Nat.le_of_ble_eq_true rfl, Nat.le_of_ble_eq_true rfl⟩) (rcv_M a k M_1 L0) rfl hl.1 rfl (Nat.le_of_ble_eq_true rfl) dX5_at_46 ⟨Nat.zero_le _, Nat.zero_le _⟩) hP hD hS hA (fr_M_M a k M_1 L0 M_5 L0) (fun H locs hP hD hS => ?_)
      have h := Option.some.inj h
      obtain ⟨hz0, h⟩ := Prod.mk.inj h
      obtain ⟨hz1, h⟩ := Prod.mk.inj h
      have hP : va_P D vwCl (xM a k Mz Lz) H := by rw [← hz1, ← h]; exact hP
      have hD : va_D A (xM a k Mz Lz) := by rw [← hz1, ← h]; exact hD
      subst hQ
      subst hAe
      exact r_i hx hb hr hlocks hz0 hP hD hS dX5_at_49
    · have h := it_f c4 h
      refine lv_aload_n hx hb dX5_at_24 rfl (lv_at hl 1 rfl) ?_
      refine lv_aload_n hx hb dX5_at_25 rfl (lv_at hl 1 rfl) ?_
      refine va_get (D := D) (ci := 5) (v := .ref (a 12)) (C := RX5) (T := TX5) (N := 20) hx hb hts hin5 hown hK hP 0 rfl rfl 15 (by decide) (hts (.fieldLink RX5 44 "BallastLineModel" "runs" "[I") (List.mem_of_getElem? (i := 1) rfl)) (fun _ h9 => h9) rfl dX5_at_26 ?_
      refine lv_bipush (v := (40 : Int32)) hx hb dX5_at_29 (by decide) ?_
      refine lv_iload_n hx hb dX5_at_31 rfl (lv_at hl 2 rfl) ?_
      refine lv_imul hx hb dX5_at_32 ?_
      refine lv_iload_n hx hb dX5_at_33 rfl (lv_at hl 3 rfl) ?_
      refine lv_iadd hx hb dX5_at_34 ?_
      obtain ⟨g6, h⟩ := gd_s h
      refine va_iald hx hb hK hP 12 11 rfl rfl (inb_in g6) dX5_at_35 ?_
      refine lv_i2l (v := (Int32.toInt64 (M_1 15 (Int32.toNatClampNeg (((40 : Int32) * p0) + p1))))) hx hb dX5_at_36 rfl ?_
      refine lv_iconst (v := (1 : Int32)) hx hb dX5_at_37 (by decide) ?_
      obtain ⟨r7, L_7, q7, h⟩ := b2_s h
      refine go_i (run_V (As := [.long (Int32.toInt64 (M_1 15 (Int32.toNatClampNeg (((40 : Int32) * p0) + p1)))), .int (1 : Int32)]) (rest := []) ⟨hx, hb, hml, hown, hts⟩ hnw hK hP hD (fr_M_M a k M_1 L0 M_1 L_7) (ks_M_M k) (c_X5_tell l D a k H.size M_1 L0 (Int32.toInt64 (M_1 15 (Int32.toNatClampNeg (((40 : Int32) * p0) + p1)))) (1 : Int32) r7 L_7 q7) (cwV 2 hts gX5_at_X5_tell rfl rfl rfl (by decide +kernel) ⟨Nat.le_of_ble_eq_true rfl, Nat.le_of_ble_eq_true rfl⟩) (rcv_M a k M_1 L0) rfl hl.1 rfl (Nat.le_of_ble_eq_true rfl) dX5_at_38 ⟨Nat.zero_le _, Nat.zero_le _⟩) hP hD hS hA (fr_M_M a k M_1 L0 M_1 L_7) (fun H locs hP hD hS => ?_)
      refine lv_goto (tgt := 49) hx hb dX5_at_41 (by decide) ?_
      have h := Option.some.inj h
      obtain ⟨hz0, h⟩ := Prod.mk.inj h
      obtain ⟨hz1, h⟩ := Prod.mk.inj h
      have hP : va_P D vwCl (xM a k Mz Lz) H := by rw [← hz1, ← h]; exact hP
      have hD : va_D A (xM a k Mz Lz) := by rw [← hz1, ← h]; exact hD
      subst hQ
      subst hAe
      exact r_i hx hb hr hlocks hz0 hP hD hS dX5_at_49
  · have h := it_f c2 h
    refine lv_iload_n hx hb dX5_at_10 rfl (lv_at hl 0 rfl) ?_
    refine lv_goto (tgt := 49) hx hb dX5_at_11 (by decide) ?_
    have h := Option.some.inj h
    obtain ⟨hz0, h⟩ := Prod.mk.inj h
    obtain ⟨hz1, h⟩ := Prod.mk.inj h
    have hP : va_P D vwCl (xM a k Mz Lz) H := by rw [← hz1, ← h]; exact hP
    have hD : va_D A (xM a k Mz Lz) := by rw [← hz1, ← h]; exact hD
    subst hQ
    subst hAe
    exact r_i hx hb hr hlocks hz0 hP hD hS dX5_at_49
def f_X5_shape_J159  (p0 : Int32) (p1 : Int32) (p2 : Int32) (ko121 : Int32 → (Nat → Nat → Int32) → Option (Int32 × (Nat → Nat → Int32))) (x5 : Int32) (s0 : Int32) (s1 : Int32) (M : Nat → Nat → Int32) : Option (Int32 × (Nat → Nat → Int32)) := gd (inb s1 240) (ltt (st M 15 (Int32.toNatClampNeg s1) s0) (fun (M_2 : Nat → Nat → Int32) => ltt (x5 + (1 : Int32)) (fun v3 => ko121 v3 M_2)))
def f_X5_shape_L121  (p0 : Int32) (p1 : Int32) (p2 : Int32)  : Nat → Int32 → (Nat → Nat → Int32) → Option (Int32 × (Nat → Nat → Int32))
  | 0, _, _ => none
  | n + 1, x5, M => if (40 : Int32) ≤ x5 then (some ((1 : Int32), M)) else (if (M 3 0) ≤ x5 then (f_X5_shape_J159 p0 p1 p2 (f_X5_shape_L121 p0 p1 p2 n) x5 (0 : Int32) (((40 : Int32) * p0) + x5) M) else (gd (inb x5 40) (f_X5_shape_J159 p0 p1 p2 (f_X5_shape_L121 p0 p1 p2 n) x5 (M 16 (Int32.toNatClampNeg x5)) (((40 : Int32) * p0) + x5) M)))
def f_X5_shape_L60  (p0 : Int32) (p1 : Int32) (p2 : Int32)  : Nat → Int32 → (Nat → Nat → Int32) → Option (Int32 × (Nat → Nat → Int32))
  | 0, _, _ => none
  | n + 1, x5, M => if (M 3 0) ≤ (x5 + (1 : Int32)) then (f_X5_shape_L121 p0 p1 p2 64 (0 : Int32) M) else (gd (inb x5 40) (gd (inb (x5 - (1 : Int32)) 40) (gd (inb (((40 : Int32) * p0) + x5) 240) (gd (inb (x5 + (1 : Int32)) 40) (ltt (st M 16 (Int32.toNatClampNeg (x5 + (1 : Int32))) ((((2 : Int32) * (M 16 (Int32.toNatClampNeg x5))) - (M 16 (Int32.toNatClampNeg (x5 - (1 : Int32))))) - (M 15 (Int32.toNatClampNeg (((40 : Int32) * p0) + x5))))) (fun (M_12 : Nat → Nat → Int32) => ltt (x5 + (1 : Int32)) (fun v13 => f_X5_shape_L60 p0 p1 p2 n v13 M_12)))))))
def f_X5_shape (M0 : Nat → Nat → Int32) (p0 : Int32) (p1 : Int32) (p2 : Int32) : Option (Int32 × (Nat → Nat → Int32)) := b1 (f_X5_in p1 (-10000 : Int32) (10000 : Int32)) (fun r14 => if r14 = (0 : Int32) then (some ((-1 : Int32), M0)) else (b1 (f_X5_in p2 (-10000 : Int32) (10000 : Int32)) (fun r16 => if r16 = (0 : Int32) then (some ((-1 : Int32), M0)) else (b2 (f_X5_askedFor M0 p0) (fun r18 (M_18 : Nat → Nat → Int32) => if (0 : Int32) ≤ r18 then (gd (inb (0 : Int32) 40) (ltt (st M_18 16 (Int32.toNatClampNeg (0 : Int32)) p1) (fun (M_21 : Nat → Nat → Int32) => gd (inb (1 : Int32) 40) (ltt (st M_21 16 (Int32.toNatClampNeg (1 : Int32)) p2) (fun (M_23 : Nat → Nat → Int32) => f_X5_shape_L60 p0 p1 p2 64 (1 : Int32) M_23))))) else (some (r18, M_18)))))))
abbrev rm_X5_shape : Room := { frames := 3, cells := 0, slots := 0, locals := 63 }
set_option maxHeartbeats 4000000 in
set_option maxRecDepth 100000 in
theorem c_X5_shape (l : Launch) (D : va_G) (a : Nat → Nat) (k : Nat → ClassId) (sz : Nat) (M0 : Nat → Nat → Int32) (L0 : Int64) (p0 : Int32) (p1 : Int32) (p2 : Int32) (r : Int32) (Mz : (Nat → Nat → Int32)) (h : f_X5_shape M0 p0 p1 p2 = some (r, Mz)) : Met l yX5_shape wsX5_shape rm_X5_shape (mPc D [.ref (a 0), .int p0, .int p1, .int p2] (xM a k M0 L0) (tM k) sz) (mQi D (xM a k M0 L0) (xM a k Mz L0) sz r) 0 0 (va_A (xM a k M0 L0) sz) := by
  refine mk_met (cc := cX5_shape) (maxL := 6) (ret := (some .int)) (by decide) rfl (Nat.le_of_ble_eq_true rfl) ?_
  intro p e s m below meth c hx hb hr hml hts hown hmn hlocks hnw hsz hK hP hD hS hA ls hl
  obtain ⟨A, hAe⟩ : ∃ A, A = va_A (xM a k M0 L0) sz := ⟨_, rfl⟩
  rw [← hAe] at hD hS hA
  generalize hargs : List.toArray ([.ref (a 0), .int p0, .int p1, .int p2] : List Value) = args at hts ⊢
  generalize hQ : MQ below (mQi D (xM a k M0 L0) (xM a k Mz L0) sz r) args s 0 0 (va_A (xM a k M0 L0) sz) = Q
  have hl : lv_has ls 6 [(0, .ref (a 0)), (1, .int p0), (2, .int p1), (3, .int p2)] := hl
  have hin5 : ∀ w ∈ wsX50, w ∈ wsX5_shape := fun w h => List.mem_cons_of_mem _ (List.mem_append_right _ h)
  have lb159 : ∀ (ko121 : Int32 → (Nat → Nat → Int32) → Option (Int32 × (Nat → Nat → Int32))), (∀ (x5 : Int32) (M : Nat → Nat → Int32), ∀ (H : Heap) (locs : List Loc), va_P D vwCl (xM a k M L0) H → va_D A (xM a k M L0) → va_S A s.heap H locs → ∀ ls : Array Slot, lv_has ls 6 [(0, .ref (a 0)), (1, .int p0), (5, .int x5)] → ko121 x5 M = some (r, Mz) → W p l e rm_X5_shape s m args below meth c H locs 0 0 Q (F0 m 121 ls [])) → ∀ (x5 : Int32) (s0 : Int32) (s1 : Int32) (M : Nat → Nat → Int32), ∀ (H : Heap) (locs : List Loc), va_P D vwCl (xM a k M L0) H → va_D A (xM a k M L0) → va_S A s.heap H locs → ∀ ls : Array Slot, lv_has ls 6 [(0, .ref (a 0)), (1, .int p0), (5, .int x5)] → f_X5_shape_J159 p0 p1 p2 ko121 x5 s0 s1 M = some (r, Mz) → W p l e rm_X5_shape s m args below meth c H locs 0 0 Q (F0 m 159 ls [.int s0, .int s1, .ref (a 12)]) := by
    intro ko121 hko121 x5 s0 s1 M H locs hP hD hS ls hl h
    rw [f_X5_shape_J159] at h
    obtain ⟨g1, h⟩ := gd_s h
    refine va_iast hx hb hK hP hD hS 12 11 rfl rfl (inb_in g1) dX5_shape_159 (fun H locs hP hD hS => ?_)
    obtain ⟨M_2, eM_2⟩ : ∃ y : Nat → Nat → Int32, y = st M 15 (Int32.toNatClampNeg s1) s0 := ⟨_, rfl⟩
    have h := ltt_s eM_2 h
    have hP : va_P D vwCl (xM a k M_2 L0) H := by rw [eM_2]; exact hP
    have hD : va_D A (xM a k M_2 L0) := by rw [eM_2]; exact hD
    obtain ⟨v3, ev3⟩ : ∃ y : Int32, y = x5 + (1 : Int32) := ⟨_, rfl⟩
    have h := ltt_s ev3 h
    refine lv_iinc (v := v3) (lv' := [(5, .int v3), (0, .ref (a 0)), (1, .int p0)]) hx hb dX5_shape_160 hl (k := 2) rfl (by rw [ev3]; rfl) (by decide) rfl (fun ls hl => ?_)
    refine lv_goto (tgt := 121) hx hb dX5_shape_163 (by decide) ?_
    exact hko121 v3 M_2 H locs hP hD hS ls (lv_sub hl [1, 2, 0] rfl) h
  have lb121 : ∀ (n : Nat), ∀ (x5 : Int32) (M : Nat → Nat → Int32), ∀ (H : Heap) (locs : List Loc), va_P D vwCl (xM a k M L0) H → va_D A (xM a k M L0) → va_S A s.heap H locs → ∀ ls : Array Slot, lv_has ls 6 [(0, .ref (a 0)), (1, .int p0), (5, .int x5)] → f_X5_shape_L121 p0 p1 p2 n x5 M = some (r, Mz) → W p l e rm_X5_shape s m args below meth c H locs 0 0 Q (F0 m 121 ls []) := by
    intro n
    induction n with
    | zero =>
      intro x5 M H locs hP hD hS ls hl h
      rw [f_X5_shape_L121] at h
      cases h
    | succ n ih =>
      intro x5 M H locs hP hD hS ls hl h
      rw [f_X5_shape_L121] at h
      refine lv_iload hx hb dX5_shape_121 (lv_at hl 2 rfl) ?_
      refine lv_bipush (v := (40 : Int32)) hx hb dX5_shape_123 (by decide) ?_
      refine lv_icmp_ge (tgt := 166) hx hb dX5_shape_125 (by decide) (fun c4 => ?_) (fun c4 => ?_)
      · have h := it_t c4 h
        refine lv_iconst (v := (1 : Int32)) hx hb dX5_shape_166 (by decide) ?_
        have h := Option.some.inj h
        obtain ⟨hz0, h⟩ := Prod.mk.inj h
        have hP : va_P D vwCl (xM a k Mz L0) H := by rw [← h]; exact hP
        have hD : va_D A (xM a k Mz L0) := by rw [← h]; exact hD
        subst hQ
        subst hAe
        exact r_i hx hb hr hlocks hz0 hP hD hS dX5_shape_167
      · have h := it_f c4 h
        refine lv_aload_n hx hb dX5_shape_128 rfl (lv_at hl 0 rfl) ?_
        refine va_get (D := D) (ci := 5) (v := .ref (a 12)) (C := RX5) (T := TX5) (N := 20) hx hb hts hin5 hown hK hP 0 rfl rfl 15 (by decide) (hts (.fieldLink RX5 44 "BallastLineModel" "runs" "[I") (List.mem_of_getElem? (i := 3) rfl)) (fun _ h9 => h9) rfl dX5_shape_129 ?_
        refine lv_bipush (v := (40 : Int32)) hx hb dX5_shape_132 (by decide) ?_
        refine lv_iload_n hx hb dX5_shape_134 rfl (lv_at hl 1 rfl) ?_
        refine lv_imul hx hb dX5_shape_135 ?_
        refine lv_iload hx hb dX5_shape_136 (lv_at hl 2 rfl) ?_
        refine lv_iadd hx hb dX5_shape_138 ?_
        refine lv_iload hx hb dX5_shape_139 (lv_at hl 2 rfl) ?_
        refine lv_aload_n hx hb dX5_shape_141 rfl (lv_at hl 0 rfl) ?_
        refine va_get (D := D) (ci := 5) (v := .int (M 3 0)) (C := RX5) (T := TX5) (N := 20) hx hb hts hin5 hown hK hP 0 rfl rfl 3 (by decide) (hts (.fieldLink RX5 72 "BallastLineModel" "many" "I") (List.mem_of_getElem? (i := 2) rfl)) (fun _ h9 => h9) rfl dX5_shape_142 ?_
        refine lv_icmp_ge (tgt := 158) hx hb dX5_shape_145 (by decide) (fun c5 => ?_) (fun c5 => ?_)
        · have h := it_t c5 h
          refine lv_iconst (v := (0 : Int32)) hx hb dX5_shape_158 (by decide) ?_
          exact lb159 (f_X5_shape_L121 p0 p1 p2 n) ih x5 (0 : Int32) (((40 : Int32) * p0) + x5) M H locs hP hD hS ls (lv_sub hl [0, 1, 2] rfl) h
        · have h := it_f c5 h
          refine lv_aload_n hx hb dX5_shape_148 rfl (lv_at hl 0 rfl) ?_
          refine va_get (D := D) (ci := 5) (v := .ref (a 13)) (C := RX5) (T := TX5) (N := 20) hx hb hts hin5 hown hK hP 0 rfl rfl 16 (by decide) (hts (.fieldLink RX5 47 "BallastLineModel" "moving" "[I") (List.mem_of_getElem? (i := 1) rfl)) (fun _ h9 => h9) rfl dX5_shape_149 ?_
          refine lv_iload hx hb dX5_shape_152 (lv_at hl 2 rfl) ?_
          obtain ⟨g6, h⟩ := gd_s h
          refine va_iald hx hb hK hP 13 12 rfl rfl (inb_in g6) dX5_shape_154 ?_
          refine lv_goto (tgt := 159) hx hb dX5_shape_155 (by decide) ?_
          exact lb159 (f_X5_shape_L121 p0 p1 p2 n) ih x5 (M 16 (Int32.toNatClampNeg x5)) (((40 : Int32) * p0) + x5) M H locs hP hD hS ls (lv_sub hl [0, 1, 2] rfl) h
  have lb60 : ∀ (n : Nat), ∀ (x5 : Int32) (M : Nat → Nat → Int32), ∀ (H : Heap) (locs : List Loc), va_P D vwCl (xM a k M L0) H → va_D A (xM a k M L0) → va_S A s.heap H locs → ∀ ls : Array Slot, lv_has ls 6 [(0, .ref (a 0)), (1, .int p0), (5, .int x5)] → f_X5_shape_L60 p0 p1 p2 n x5 M = some (r, Mz) → W p l e rm_X5_shape s m args below meth c H locs 0 0 Q (F0 m 60 ls []) := by
    intro n
    induction n with
    | zero =>
      intro x5 M H locs hP hD hS ls hl h
      rw [f_X5_shape_L60] at h
      cases h
    | succ n ih =>
      intro x5 M H locs hP hD hS ls hl h
      rw [f_X5_shape_L60] at h
      refine lv_iload hx hb dX5_shape_60 (lv_at hl 2 rfl) ?_
      refine lv_iconst (v := (1 : Int32)) hx hb dX5_shape_62 (by decide) ?_
      refine lv_iadd hx hb dX5_shape_63 ?_
      refine lv_aload_n hx hb dX5_shape_64 rfl (lv_at hl 0 rfl) ?_
      refine va_get (D := D) (ci := 5) (v := .int (M 3 0)) (C := RX5) (T := TX5) (N := 20) hx hb hts hin5 hown hK hP 0 rfl rfl 3 (by decide) (hts (.fieldLink RX5 72 "BallastLineModel" "many" "I") (List.mem_of_getElem? (i := 2) rfl)) (fun _ h9 => h9) rfl dX5_shape_65 ?_
      refine lv_icmp_ge (tgt := 118) hx hb dX5_shape_68 (by decide) (fun c7 => ?_) (fun c7 => ?_)
      · have h := it_t c7 h
        refine lv_iconst (v := (0 : Int32)) hx hb dX5_shape_118 (by decide) ?_
        refine lv_istore (lv' := [(5, .int (0 : Int32)), (0, .ref (a 0)), (1, .int p0)]) hx hb dX5_shape_119 hl (by decide) rfl (fun ls hl => ?_)
        exact lb121 64 (0 : Int32) M H locs hP hD hS ls (lv_sub hl [1, 2, 0] rfl) h
      · have h := it_f c7 h
        refine lv_aload_n hx hb dX5_shape_71 rfl (lv_at hl 0 rfl) ?_
        refine va_get (D := D) (ci := 5) (v := .ref (a 13)) (C := RX5) (T := TX5) (N := 20) hx hb hts hin5 hown hK hP 0 rfl rfl 16 (by decide) (hts (.fieldLink RX5 47 "BallastLineModel" "moving" "[I") (List.mem_of_getElem? (i := 1) rfl)) (fun _ h9 => h9) rfl dX5_shape_72 ?_
        refine lv_iload hx hb dX5_shape_75 (lv_at hl 2 rfl) ?_
        refine lv_iconst (v := (1 : Int32)) hx hb dX5_shape_77 (by decide) ?_
        refine lv_iadd hx hb dX5_shape_78 ?_
        refine lv_iconst (v := (2 : Int32)) hx hb dX5_shape_79 (by decide) ?_
        refine lv_aload_n hx hb dX5_shape_80 rfl (lv_at hl 0 rfl) ?_
        refine va_get (D := D) (ci := 5) (v := .ref (a 13)) (C := RX5) (T := TX5) (N := 20) hx hb hts hin5 hown hK hP 0 rfl rfl 16 (by decide) (hts (.fieldLink RX5 47 "BallastLineModel" "moving" "[I") (List.mem_of_getElem? (i := 1) rfl)) (fun _ h9 => h9) rfl dX5_shape_81 ?_
        refine lv_iload hx hb dX5_shape_84 (lv_at hl 2 rfl) ?_
        obtain ⟨g8, h⟩ := gd_s h
        refine va_iald hx hb hK hP 13 12 rfl rfl (inb_in g8) dX5_shape_86 ?_
        refine lv_imul hx hb dX5_shape_87 ?_
        refine lv_aload_n hx hb dX5_shape_88 rfl (lv_at hl 0 rfl) ?_
        refine va_get (D := D) (ci := 5) (v := .ref (a 13)) (C := RX5) (T := TX5) (N := 20) hx hb hts hin5 hown hK hP 0 rfl rfl 16 (by decide) (hts (.fieldLink RX5 47 "BallastLineModel" "moving" "[I") (List.mem_of_getElem? (i := 1) rfl)) (fun _ h9 => h9) rfl dX5_shape_89 ?_
        refine lv_iload hx hb dX5_shape_92 (lv_at hl 2 rfl) ?_
        refine lv_iconst (v := (1 : Int32)) hx hb dX5_shape_94 (by decide) ?_
        refine lv_isub hx hb dX5_shape_95 ?_
        obtain ⟨g9, h⟩ := gd_s h
        refine va_iald hx hb hK hP 13 12 rfl rfl (inb_in g9) dX5_shape_96 ?_
        refine lv_isub hx hb dX5_shape_97 ?_
        refine lv_aload_n hx hb dX5_shape_98 rfl (lv_at hl 0 rfl) ?_
        refine va_get (D := D) (ci := 5) (v := .ref (a 12)) (C := RX5) (T := TX5) (N := 20) hx hb hts hin5 hown hK hP 0 rfl rfl 15 (by decide) (hts (.fieldLink RX5 44 "BallastLineModel" "runs" "[I") (List.mem_of_getElem? (i := 3) rfl)) (fun _ h9 => h9) rfl dX5_shape_99 ?_
        refine lv_bipush (v := (40 : Int32)) hx hb dX5_shape_102 (by decide) ?_
        refine lv_iload_n hx hb dX5_shape_104 rfl (lv_at hl 1 rfl) ?_
        refine lv_imul hx hb dX5_shape_105 ?_
        refine lv_iload hx hb dX5_shape_106 (lv_at hl 2 rfl) ?_
        refine lv_iadd hx hb dX5_shape_108 ?_
        obtain ⟨g10, h⟩ := gd_s h
        refine va_iald hx hb hK hP 12 11 rfl rfl (inb_in g10) dX5_shape_109 ?_
        refine lv_isub hx hb dX5_shape_110 ?_
        obtain ⟨g11, h⟩ := gd_s h
        refine va_iast hx hb hK hP hD hS 13 12 rfl rfl (inb_in g11) dX5_shape_111 (fun H locs hP hD hS => ?_)
        obtain ⟨M_12, eM_12⟩ : ∃ y : Nat → Nat → Int32, y = st M 16 (Int32.toNatClampNeg (x5 + (1 : Int32))) ((((2 : Int32) * (M 16 (Int32.toNatClampNeg x5))) - (M 16 (Int32.toNatClampNeg (x5 - (1 : Int32))))) - (M 15 (Int32.toNatClampNeg (((40 : Int32) * p0) + x5)))) := ⟨_, rfl⟩
        have h := ltt_s eM_12 h
        have hP : va_P D vwCl (xM a k M_12 L0) H := by rw [eM_12]; exact hP
        have hD : va_D A (xM a k M_12 L0) := by rw [eM_12]; exact hD
        obtain ⟨v13, ev13⟩ : ∃ y : Int32, y = x5 + (1 : Int32) := ⟨_, rfl⟩
        have h := ltt_s ev13 h
        refine lv_iinc (v := v13) (lv' := [(5, .int v13), (0, .ref (a 0)), (1, .int p0)]) hx hb dX5_shape_112 hl (k := 2) rfl (by rw [ev13]; rfl) (by decide) rfl (fun ls hl => ?_)
        refine lv_goto (tgt := 60) hx hb dX5_shape_115 (by decide) ?_
        exact ih v13 M_12 H locs hP hD hS ls (lv_sub hl [1, 2, 0] rfl) h
  rw [f_X5_shape] at h
  obtain ⟨H, hH⟩ : ∃ H, H = s.heap := ⟨_, rfl⟩
  obtain ⟨locs, hlc⟩ : ∃ L : List Loc, L = [] := ⟨_, rfl⟩
  rw [← hH] at hP
  have hS : va_S A s.heap H locs := by rw [hH, hlc]; exact hS
  suffices hW9 : W p l e rm_X5_shape s m args below meth c H locs 0 0 Q (F0 m 0 ls []) by rw [hH, hlc] at hW9; exact hW9
  refine lv_iload_n hx hb dX5_shape_0 rfl (lv_at hl 2 rfl) ?_
  refine lv_sipush (v := (-10000 : Int32)) hx hb dX5_shape_1 (by decide) ?_
  refine lv_sipush (v := (10000 : Int32)) hx hb dX5_shape_4 (by decide) ?_
  obtain ⟨r14, q14, h⟩ := b1_s h
  refine go_i (run_S (As := [.int p1, .int (-10000 : Int32), .int (10000 : Int32)]) (rest := []) ⟨hx, hb, hml, hown, hts⟩ hnw hK hP hD (fr_M_E a k M0 L0) (ks_M_E k) (c_X5_in l D H.size p1 (-10000 : Int32) (10000 : Int32) r14 q14) (cwS 3 hts gX5_shape_X5_in rfl rfl rfl (by decide +kernel) ⟨Nat.le_of_ble_eq_true rfl, Nat.le_of_ble_eq_true rfl⟩) rfl hl.1 rfl (Nat.le_of_ble_eq_true rfl) dX5_shape_7 ⟨Nat.zero_le _, Nat.zero_le _⟩) hP hD hS hA (fr_M_E a k M0 L0) (fun H locs hP hD hS => ?_)
  refine lv_if_eq (tgt := 26) hx hb dX5_shape_10 (by decide) (fun c15 => ?_) (fun c15 => ?_)
  · have h := it_t c15 h
    refine lv_iconst (v := (-1 : Int32)) hx hb dX5_shape_26 (by decide) ?_
    have h := Option.some.inj h
    obtain ⟨hz0, h⟩ := Prod.mk.inj h
    have hP : va_P D vwCl (xM a k Mz L0) H := by rw [← h]; exact hP
    have hD : va_D A (xM a k Mz L0) := by rw [← h]; exact hD
    subst hQ
    subst hAe
    exact r_i hx hb hr hlocks hz0 hP hD hS dX5_shape_27
  · have h := it_f c15 h
    refine lv_iload_n hx hb dX5_shape_13 rfl (lv_at hl 3 rfl) ?_
    refine lv_sipush (v := (-10000 : Int32)) hx hb dX5_shape_14 (by decide) ?_
    refine lv_sipush (v := (10000 : Int32)) hx hb dX5_shape_17 (by decide) ?_
    obtain ⟨r16, q16, h⟩ := b1_s h
    refine go_i (run_S (As := [.int p2, .int (-10000 : Int32), .int (10000 : Int32)]) (rest := []) ⟨hx, hb, hml, hown, hts⟩ hnw hK hP hD (fr_M_E a k M0 L0) (ks_M_E k) (c_X5_in l D H.size p2 (-10000 : Int32) (10000 : Int32) r16 q16) (cwS 3 hts gX5_shape_X5_in rfl rfl rfl (by decide +kernel) ⟨Nat.le_of_ble_eq_true rfl, Nat.le_of_ble_eq_true rfl⟩) rfl hl.1 rfl (Nat.le_of_ble_eq_true rfl) dX5_shape_20 ⟨Nat.zero_le _, Nat.zero_le _⟩) hP hD hS hA (fr_M_E a k M0 L0) (fun H locs hP hD hS => ?_)
    refine lv_if_ne (tgt := 28) hx hb dX5_shape_23 (by decide) (fun c17 => ?_) (fun c17 => ?_)
    · have h := it_f c17 h
      refine lv_aload_n hx hb dX5_shape_28 rfl (lv_at hl 0 rfl) ?_
      refine lv_iload_n hx hb dX5_shape_29 rfl (lv_at hl 1 rfl) ?_
      obtain ⟨r18, M_18, q18, h⟩ := b2_s h
      refine go_i (run_V (As := [.int p0]) (rest := []) ⟨hx, hb, hml, hown, hts⟩ hnw hK hP hD (fr_M_M a k M0 L0 M_18 L0) (ks_M_M k) (c_X5_askedFor l D a k H.size M0 L0 p0 r18 M_18 q18) (cwV 1 hts gX5_shape_X5_askedFor rfl rfl rfl (by decide +kernel) ⟨Nat.le_of_ble_eq_true rfl, Nat.le_of_ble_eq_true rfl⟩) (rcv_M a k M0 L0) rfl hl.1 rfl (Nat.le_of_ble_eq_true rfl) dX5_shape_30 ⟨Nat.zero_le _, Nat.zero_le _⟩) hP hD hS hA (fr_M_M a k M0 L0 M_18 L0) (fun H locs hP hD hS => ?_)
      refine lv_istore (lv' := [(4, .int r18), (0, .ref (a 0)), (1, .int p0), (2, .int p1), (3, .int p2)]) hx hb dX5_shape_33 hl (by decide) rfl (fun ls hl => ?_)
      refine lv_iload hx hb dX5_shape_35 (lv_at hl 0 rfl) ?_
      refine lv_if_ge (tgt := 43) hx hb dX5_shape_37 (by decide) (fun c19 => ?_) (fun c19 => ?_)
      · have h := it_t c19 h
        refine lv_aload_n hx hb dX5_shape_43 rfl (lv_at hl 1 rfl) ?_
        refine va_get (D := D) (ci := 5) (v := .ref (a 13)) (C := RX5) (T := TX5) (N := 20) hx hb hts hin5 hown hK hP 0 rfl rfl 16 (by decide) (hts (.fieldLink RX5 47 "BallastLineModel" "moving" "[I") (List.mem_of_getElem? (i := 1) rfl)) (fun _ h9 => h9) rfl dX5_shape_44 ?_
        refine lv_iconst (v := (0 : Int32)) hx hb dX5_shape_47 (by decide) ?_
        refine lv_iload_n hx hb dX5_shape_48 rfl (lv_at hl 3 rfl) ?_
        obtain ⟨g20, h⟩ := gd_s h
        refine va_iast hx hb hK hP hD hS 13 12 rfl rfl (inb_in g20) dX5_shape_49 (fun H locs hP hD hS => ?_)
        obtain ⟨M_21, eM_21⟩ : ∃ y : Nat → Nat → Int32, y = st M_18 16 (Int32.toNatClampNeg (0 : Int32)) p1 := ⟨_, rfl⟩
        have h := ltt_s eM_21 h
        have hP : va_P D vwCl (xM a k M_21 L0) H := by rw [eM_21]; exact hP
        have hD : va_D A (xM a k M_21 L0) := by rw [eM_21]; exact hD
        refine lv_aload_n hx hb dX5_shape_50 rfl (lv_at hl 1 rfl) ?_
        refine va_get (D := D) (ci := 5) (v := .ref (a 13)) (C := RX5) (T := TX5) (N := 20) hx hb hts hin5 hown hK hP 0 rfl rfl 16 (by decide) (hts (.fieldLink RX5 47 "BallastLineModel" "moving" "[I") (List.mem_of_getElem? (i := 1) rfl)) (fun _ h9 => h9) rfl dX5_shape_51 ?_
        refine lv_iconst (v := (1 : Int32)) hx hb dX5_shape_54 (by decide) ?_
        refine lv_iload_n hx hb dX5_shape_55 rfl (lv_at hl 4 rfl) ?_
        obtain ⟨g22, h⟩ := gd_s h
        refine va_iast hx hb hK hP hD hS 13 12 rfl rfl (inb_in g22) dX5_shape_56 (fun H locs hP hD hS => ?_)
        obtain ⟨M_23, eM_23⟩ : ∃ y : Nat → Nat → Int32, y = st M_21 16 (Int32.toNatClampNeg (1 : Int32)) p2 := ⟨_, rfl⟩
        have h := ltt_s eM_23 h
        have hP : va_P D vwCl (xM a k M_23 L0) H := by rw [eM_23]; exact hP
        have hD : va_D A (xM a k M_23 L0) := by rw [eM_23]; exact hD
        refine lv_iconst (v := (1 : Int32)) hx hb dX5_shape_57 (by decide) ?_
        refine lv_istore (lv' := [(5, .int (1 : Int32)), (4, .int r18), (0, .ref (a 0)), (1, .int p0), (2, .int p1), (3, .int p2)]) hx hb dX5_shape_58 hl (by decide) rfl (fun ls hl => ?_)
        exact lb60 64 (1 : Int32) M_23 H locs hP hD hS ls (lv_sub hl [2, 3, 0] rfl) h
      · have h := it_f c19 h
        refine lv_iload hx hb dX5_shape_40 (lv_at hl 0 rfl) ?_
        have h := Option.some.inj h
        obtain ⟨hz0, h⟩ := Prod.mk.inj h
        have hP : va_P D vwCl (xM a k Mz L0) H := by rw [← h]; exact hP
        have hD : va_D A (xM a k Mz L0) := by rw [← h]; exact hD
        subst hQ
        subst hAe
        exact r_i hx hb hr hlocks hz0 hP hD hS dX5_shape_42
    · have h := it_t c17 h
      refine lv_iconst (v := (-1 : Int32)) hx hb dX5_shape_26 (by decide) ?_
      have h := Option.some.inj h
      obtain ⟨hz0, h⟩ := Prod.mk.inj h
      have hP : va_P D vwCl (xM a k Mz L0) H := by rw [← h]; exact hP
      have hD : va_D A (xM a k Mz L0) := by rw [← h]; exact hD
      subst hQ
      subst hAe
      exact r_i hx hb hr hlocks hz0 hP hD hS dX5_shape_27
def f_X5_tear (M0 : Nat → Nat → Int32) (p0 : Int32) : Option (Int32 × (Nat → Nat → Int32)) := b2 (f_X5_askedFor M0 p0) (fun r1 (M_1 : Nat → Nat → Int32) => if (0 : Int32) ≤ r1 then (gd (inb p0 6) (ltt (st M_1 14 (Int32.toNatClampNeg p0) (vp_nar .boolean (0 : Int32))) (fun (M_4 : Nat → Nat → Int32) => some ((1 : Int32), M_4)))) else (some (r1, M_1)))
abbrev rm_X5_tear : Room := { frames := 3, cells := 0, slots := 0, locals := 63 }
set_option maxHeartbeats 4000000 in
set_option maxRecDepth 100000 in
theorem c_X5_tear (l : Launch) (D : va_G) (a : Nat → Nat) (k : Nat → ClassId) (sz : Nat) (M0 : Nat → Nat → Int32) (L0 : Int64) (p0 : Int32) (r : Int32) (Mz : (Nat → Nat → Int32)) (h : f_X5_tear M0 p0 = some (r, Mz)) : Met l yX5_tear wsX5_tear rm_X5_tear (mPc D [.ref (a 0), .int p0] (xM a k M0 L0) (tM k) sz) (mQi D (xM a k M0 L0) (xM a k Mz L0) sz r) 0 0 (va_A (xM a k M0 L0) sz) := by
  refine mk_met (cc := cX5_tear) (maxL := 3) (ret := (some .int)) (by decide) rfl (Nat.le_of_ble_eq_true rfl) ?_
  intro p e s m below meth c hx hb hr hml hts hown hmn hlocks hnw hsz hK hP hD hS hA ls hl
  obtain ⟨A, hAe⟩ : ∃ A, A = va_A (xM a k M0 L0) sz := ⟨_, rfl⟩
  rw [← hAe] at hD hS hA
  generalize hargs : List.toArray ([.ref (a 0), .int p0] : List Value) = args at hts ⊢
  generalize hQ : MQ below (mQi D (xM a k M0 L0) (xM a k Mz L0) sz r) args s 0 0 (va_A (xM a k M0 L0) sz) = Q
  have hl : lv_has ls 3 [(0, .ref (a 0)), (1, .int p0)] := hl
  have hin5 : ∀ w ∈ wsX50, w ∈ wsX5_tear := fun w h => List.mem_cons_of_mem _ (List.mem_append_right _ h)
  rw [f_X5_tear] at h
  obtain ⟨H, hH⟩ : ∃ H, H = s.heap := ⟨_, rfl⟩
  obtain ⟨locs, hlc⟩ : ∃ L : List Loc, L = [] := ⟨_, rfl⟩
  rw [← hH] at hP
  have hS : va_S A s.heap H locs := by rw [hH, hlc]; exact hS
  suffices hW9 : W p l e rm_X5_tear s m args below meth c H locs 0 0 Q (F0 m 0 ls []) by rw [hH, hlc] at hW9; exact hW9
  refine lv_aload_n hx hb dX5_tear_0 rfl (lv_at hl 0 rfl) ?_
  refine lv_iload_n hx hb dX5_tear_1 rfl (lv_at hl 1 rfl) ?_
  obtain ⟨r1, M_1, q1, h⟩ := b2_s h
  refine go_i (run_V (As := [.int p0]) (rest := []) ⟨hx, hb, hml, hown, hts⟩ hnw hK hP hD (fr_M_M a k M0 L0 M_1 L0) (ks_M_M k) (c_X5_askedFor l D a k H.size M0 L0 p0 r1 M_1 q1) (cwV 1 hts gX5_tear_X5_askedFor rfl rfl rfl (by decide +kernel) ⟨Nat.le_of_ble_eq_true rfl, Nat.le_of_ble_eq_true rfl⟩) (rcv_M a k M0 L0) rfl hl.1 rfl (Nat.le_of_ble_eq_true rfl) dX5_tear_2 ⟨Nat.zero_le _, Nat.zero_le _⟩) hP hD hS hA (fr_M_M a k M0 L0 M_1 L0) (fun H locs hP hD hS => ?_)
  refine lv_istore_n (lv' := [(2, .int r1), (0, .ref (a 0)), (1, .int p0)]) hx hb dX5_tear_5 rfl hl (by decide) rfl (fun ls hl => ?_)
  refine lv_iload_n hx hb dX5_tear_6 rfl (lv_at hl 0 rfl) ?_
  refine lv_if_ge (tgt := 12) hx hb dX5_tear_7 (by decide) (fun c2 => ?_) (fun c2 => ?_)
  · have h := it_t c2 h
    refine lv_aload_n hx hb dX5_tear_12 rfl (lv_at hl 1 rfl) ?_
    refine va_get (D := D) (ci := 5) (v := .ref (a 11)) (C := RX5) (T := TX5) (N := 20) hx hb hts hin5 hown hK hP 0 rfl rfl 14 (by decide) (hts (.fieldLink RX5 41 "BallastLineModel" "isRun" "[Z") (List.mem_of_getElem? (i := 1) rfl)) (fun _ h9 => h9) rfl dX5_tear_13 ?_
    refine lv_iload_n hx hb dX5_tear_16 rfl (lv_at hl 2 rfl) ?_
    refine lv_iconst (v := (0 : Int32)) hx hb dX5_tear_17 (by decide) ?_
    obtain ⟨g3, h⟩ := gd_s h
    refine va_zast hx hb hK hP hD hS 11 10 rfl rfl (inb_in g3) dX5_tear_18 (fun H locs hP hD hS => ?_)
    obtain ⟨M_4, eM_4⟩ : ∃ y : Nat → Nat → Int32, y = st M_1 14 (Int32.toNatClampNeg p0) (vp_nar .boolean (0 : Int32)) := ⟨_, rfl⟩
    have h := ltt_s eM_4 h
    have hP : va_P D vwCl (xM a k M_4 L0) H := by rw [eM_4]; exact hP
    have hD : va_D A (xM a k M_4 L0) := by rw [eM_4]; exact hD
    refine lv_iconst (v := (1 : Int32)) hx hb dX5_tear_19 (by decide) ?_
    have h := Option.some.inj h
    obtain ⟨hz0, h⟩ := Prod.mk.inj h
    have hP : va_P D vwCl (xM a k Mz L0) H := by rw [← h]; exact hP
    have hD : va_D A (xM a k Mz L0) := by rw [← h]; exact hD
    subst hQ
    subst hAe
    exact r_i hx hb hr hlocks hz0 hP hD hS dX5_tear_20
  · have h := it_f c2 h
    refine lv_iload_n hx hb dX5_tear_10 rfl (lv_at hl 0 rfl) ?_
    have h := Option.some.inj h
    obtain ⟨hz0, h⟩ := Prod.mk.inj h
    have hP : va_P D vwCl (xM a k Mz L0) H := by rw [← h]; exact hP
    have hD : va_D A (xM a k Mz L0) := by rw [← h]; exact hD
    subst hQ
    subst hAe
    exact r_i hx hb hr hlocks hz0 hP hD hS dX5_tear_11
def f_X5_copy_J45  (p0 : Int32) (p1 : Int32) (p2 : Int32) (p3 : Int32) (p4 : Int32)  (M : Nat → Nat → Int32) : Option (Int32 × (Nat → Nat → Int32)) := b2 (f_X5_meets M (1 : Int32)) (fun r1 (M_1 : Nat → Nat → Int32) => some (r1, M_1))
def f_X5_copy_J87  (p0 : Int32) (p1 : Int32) (p2 : Int32) (p3 : Int32) (p4 : Int32)  (M : Nat → Nat → Int32) : Option (Int32 × (Nat → Nat → Int32)) := b2 (f_X5_meets M (2 : Int32)) (fun r2 (M_2 : Nat → Nat → Int32) => some (r2, M_2))
def f_X5_copy_L133  (p0 : Int32) (p1 : Int32) (p2 : Int32) (p3 : Int32) (p4 : Int32)  : Nat → Int32 → (Nat → Nat → Int32) → Option (Int32 × (Nat → Nat → Int32))
  | 0, _, _ => none
  | n + 1, x6, M => if p4 ≤ x6 then (some ((1 : Int32), M)) else (gd (inb x6 40) (gd (inb ((((40 : Int32) * p2) + p3) + x6) 240) (ltt (st M 15 (Int32.toNatClampNeg ((((40 : Int32) * p2) + p3) + x6)) (M 16 (Int32.toNatClampNeg x6))) (fun (M_6 : Nat → Nat → Int32) => ltt (x6 + (1 : Int32)) (fun v7 => f_X5_copy_L133 p0 p1 p2 p3 p4 n v7 M_6)))))
def f_X5_copy_L96  (p0 : Int32) (p1 : Int32) (p2 : Int32) (p3 : Int32) (p4 : Int32)  : Nat → Int32 → (Nat → Nat → Int32) → Option (Int32 × (Nat → Nat → Int32))
  | 0, _, _ => none
  | n + 1, x6, M => if p4 ≤ x6 then (f_X5_copy_L133 p0 p1 p2 p3 p4 64 (0 : Int32) M) else (gd (inb ((((40 : Int32) * p0) + p1) + x6) 240) (gd (inb x6 40) (ltt (st M 16 (Int32.toNatClampNeg x6) (M 15 (Int32.toNatClampNeg ((((40 : Int32) * p0) + p1) + x6)))) (fun (M_11 : Nat → Nat → Int32) => ltt (x6 + (1 : Int32)) (fun v12 => f_X5_copy_L96 p0 p1 p2 p3 p4 n v12 M_11)))))
def f_X5_copy (M0 : Nat → Nat → Int32) (p0 : Int32) (p1 : Int32) (p2 : Int32) (p3 : Int32) (p4 : Int32) : Option (Int32 × (Nat → Nat → Int32)) := b1 (f_X5_isNumber p0) (fun r13 => if r13 = (0 : Int32) then (some ((-1 : Int32), M0)) else (b1 (f_X5_isNumber p2) (fun r15 => if r15 = (0 : Int32) then (some ((-1 : Int32), M0)) else (if (0 : Int32) ≤ p4 then (gd (inb p0 6) (if (M0 14 (Int32.toNatClampNeg p0)) = (0 : Int32) then (f_X5_copy_J45 p0 p1 p2 p3 p4 M0) else (gd (inb p2 6) (if (M0 14 (Int32.toNatClampNeg p2)) = (0 : Int32) then (f_X5_copy_J45 p0 p1 p2 p3 p4 M0) else (if p1 < (0 : Int32) then (f_X5_copy_J87 p0 p1 p2 p3 p4 M0) else (if p3 < (0 : Int32) then (f_X5_copy_J87 p0 p1 p2 p3 p4 M0) else (if (0 : Int32) < (lg_cmp ((Int32.toInt64 p1) + (Int32.toInt64 p4)) (40 : Int64)) then (f_X5_copy_J87 p0 p1 p2 p3 p4 M0) else (if (lg_cmp ((Int32.toInt64 p3) + (Int32.toInt64 p4)) (40 : Int64)) ≤ (0 : Int32) then (f_X5_copy_L96 p0 p1 p2 p3 p4 64 (0 : Int32) M0) else (f_X5_copy_J87 p0 p1 p2 p3 p4 M0))))))))) else (b2 (f_X5_meets M0 (5 : Int32)) (fun r26 (M_26 : Nat → Nat → Int32) => some (r26, M_26)))))))
abbrev rm_X5_copy : Room := { frames := 2, cells := 0, slots := 0, locals := 42 }
set_option maxHeartbeats 4000000 in
set_option maxRecDepth 100000 in
theorem c_X5_copy (l : Launch) (D : va_G) (a : Nat → Nat) (k : Nat → ClassId) (sz : Nat) (M0 : Nat → Nat → Int32) (L0 : Int64) (p0 : Int32) (p1 : Int32) (p2 : Int32) (p3 : Int32) (p4 : Int32) (r : Int32) (Mz : (Nat → Nat → Int32)) (h : f_X5_copy M0 p0 p1 p2 p3 p4 = some (r, Mz)) : Met l yX5_copy wsX5_copy rm_X5_copy (mPc D [.ref (a 0), .int p0, .int p1, .int p2, .int p3, .int p4] (xM a k M0 L0) (tM k) sz) (mQi D (xM a k M0 L0) (xM a k Mz L0) sz r) 0 0 (va_A (xM a k M0 L0) sz) := by
  refine mk_met (cc := cX5_copy) (maxL := 7) (ret := (some .int)) (by decide) rfl (Nat.le_of_ble_eq_true rfl) ?_
  intro p e s m below meth c hx hb hr hml hts hown hmn hlocks hnw hsz hK hP hD hS hA ls hl
  obtain ⟨A, hAe⟩ : ∃ A, A = va_A (xM a k M0 L0) sz := ⟨_, rfl⟩
  rw [← hAe] at hD hS hA
  generalize hargs : List.toArray ([.ref (a 0), .int p0, .int p1, .int p2, .int p3, .int p4] : List Value) = args at hts ⊢
  generalize hQ : MQ below (mQi D (xM a k M0 L0) (xM a k Mz L0) sz r) args s 0 0 (va_A (xM a k M0 L0) sz) = Q
  have hl : lv_has ls 7 [(0, .ref (a 0)), (1, .int p0), (2, .int p1), (3, .int p2), (4, .int p3), (5, .int p4)] := hl
  have hin5 : ∀ w ∈ wsX50, w ∈ wsX5_copy := fun w h => List.mem_cons_of_mem _ (List.mem_append_right _ h)
  have lb45 : ∀ (M : Nat → Nat → Int32), ∀ (H : Heap) (locs : List Loc), va_P D vwCl (xM a k M L0) H → va_D A (xM a k M L0) → va_S A s.heap H locs → ∀ ls : Array Slot, lv_has ls 7 [(0, .ref (a 0))] → f_X5_copy_J45 p0 p1 p2 p3 p4 M = some (r, Mz) → W p l e rm_X5_copy s m args below meth c H locs 0 0 Q (F0 m 45 ls []) := by
    intro  M H locs hP hD hS ls hl h
    rw [f_X5_copy_J45] at h
    refine lv_aload_n hx hb dX5_copy_45 rfl (lv_at hl 0 rfl) ?_
    refine lv_iconst (v := (1 : Int32)) hx hb dX5_copy_46 (by decide) ?_
    obtain ⟨r1, M_1, q1, h⟩ := b2_s h
    refine go_i (run_V (As := [.int (1 : Int32)]) (rest := []) ⟨hx, hb, hml, hown, hts⟩ hnw hK hP hD (fr_M_M a k M L0 M_1 L0) (ks_M_M k) (c_X5_meets l D a k H.size M L0 (1 : Int32) r1 M_1 q1) (cwV 1 hts gX5_copy_X5_meets rfl rfl rfl (by decide +kernel) ⟨Nat.le_of_ble_eq_true rfl, Nat.le_of_ble_eq_true rfl⟩) (rcv_M a k M L0) rfl hl.1 rfl (Nat.le_of_ble_eq_true rfl) dX5_copy_47 ⟨Nat.zero_le _, Nat.zero_le _⟩) hP hD hS hA (fr_M_M a k M L0 M_1 L0) (fun H locs hP hD hS => ?_)
    have h := Option.some.inj h
    obtain ⟨hz0, h⟩ := Prod.mk.inj h
    have hP : va_P D vwCl (xM a k Mz L0) H := by rw [← h]; exact hP
    have hD : va_D A (xM a k Mz L0) := by rw [← h]; exact hD
    subst hQ
    subst hAe
    exact r_i hx hb hr hlocks hz0 hP hD hS dX5_copy_50
  have lb87 : ∀ (M : Nat → Nat → Int32), ∀ (H : Heap) (locs : List Loc), va_P D vwCl (xM a k M L0) H → va_D A (xM a k M L0) → va_S A s.heap H locs → ∀ ls : Array Slot, lv_has ls 7 [(0, .ref (a 0))] → f_X5_copy_J87 p0 p1 p2 p3 p4 M = some (r, Mz) → W p l e rm_X5_copy s m args below meth c H locs 0 0 Q (F0 m 87 ls []) := by
    intro  M H locs hP hD hS ls hl h
    rw [f_X5_copy_J87] at h
    refine lv_aload_n hx hb dX5_copy_87 rfl (lv_at hl 0 rfl) ?_
    refine lv_iconst (v := (2 : Int32)) hx hb dX5_copy_88 (by decide) ?_
    obtain ⟨r2, M_2, q2, h⟩ := b2_s h
    refine go_i (run_V (As := [.int (2 : Int32)]) (rest := []) ⟨hx, hb, hml, hown, hts⟩ hnw hK hP hD (fr_M_M a k M L0 M_2 L0) (ks_M_M k) (c_X5_meets l D a k H.size M L0 (2 : Int32) r2 M_2 q2) (cwV 1 hts gX5_copy_X5_meets rfl rfl rfl (by decide +kernel) ⟨Nat.le_of_ble_eq_true rfl, Nat.le_of_ble_eq_true rfl⟩) (rcv_M a k M L0) rfl hl.1 rfl (Nat.le_of_ble_eq_true rfl) dX5_copy_89 ⟨Nat.zero_le _, Nat.zero_le _⟩) hP hD hS hA (fr_M_M a k M L0 M_2 L0) (fun H locs hP hD hS => ?_)
    have h := Option.some.inj h
    obtain ⟨hz0, h⟩ := Prod.mk.inj h
    have hP : va_P D vwCl (xM a k Mz L0) H := by rw [← h]; exact hP
    have hD : va_D A (xM a k Mz L0) := by rw [← h]; exact hD
    subst hQ
    subst hAe
    exact r_i hx hb hr hlocks hz0 hP hD hS dX5_copy_92
  have lb133 : ∀ (n : Nat), ∀ (x6 : Int32) (M : Nat → Nat → Int32), ∀ (H : Heap) (locs : List Loc), va_P D vwCl (xM a k M L0) H → va_D A (xM a k M L0) → va_S A s.heap H locs → ∀ ls : Array Slot, lv_has ls 7 [(0, .ref (a 0)), (3, .int p2), (4, .int p3), (5, .int p4), (6, .int x6)] → f_X5_copy_L133 p0 p1 p2 p3 p4 n x6 M = some (r, Mz) → W p l e rm_X5_copy s m args below meth c H locs 0 0 Q (F0 m 133 ls []) := by
    intro n
    induction n with
    | zero =>
      intro x6 M H locs hP hD hS ls hl h
      rw [f_X5_copy_L133] at h
      cases h
    | succ n ih =>
      intro x6 M H locs hP hD hS ls hl h
      rw [f_X5_copy_L133] at h
      refine lv_iload hx hb dX5_copy_133 (lv_at hl 4 rfl) ?_
      refine lv_iload hx hb dX5_copy_135 (lv_at hl 3 rfl) ?_
      refine lv_icmp_ge (tgt := 168) hx hb dX5_copy_137 (by decide) (fun c3 => ?_) (fun c3 => ?_)
      · have h := it_t c3 h
        refine lv_iconst (v := (1 : Int32)) hx hb dX5_copy_168 (by decide) ?_
        have h := Option.some.inj h
        obtain ⟨hz0, h⟩ := Prod.mk.inj h
        have hP : va_P D vwCl (xM a k Mz L0) H := by rw [← h]; exact hP
        have hD : va_D A (xM a k Mz L0) := by rw [← h]; exact hD
        subst hQ
        subst hAe
        exact r_i hx hb hr hlocks hz0 hP hD hS dX5_copy_169
      · have h := it_f c3 h
        refine lv_aload_n hx hb dX5_copy_140 rfl (lv_at hl 0 rfl) ?_
        refine va_get (D := D) (ci := 5) (v := .ref (a 12)) (C := RX5) (T := TX5) (N := 20) hx hb hts hin5 hown hK hP 0 rfl rfl 15 (by decide) (hts (.fieldLink RX5 44 "BallastLineModel" "runs" "[I") (List.mem_of_getElem? (i := 4) rfl)) (fun _ h9 => h9) rfl dX5_copy_141 ?_
        refine lv_bipush (v := (40 : Int32)) hx hb dX5_copy_144 (by decide) ?_
        refine lv_iload_n hx hb dX5_copy_146 rfl (lv_at hl 1 rfl) ?_
        refine lv_imul hx hb dX5_copy_147 ?_
        refine lv_iload hx hb dX5_copy_148 (lv_at hl 2 rfl) ?_
        refine lv_iadd hx hb dX5_copy_150 ?_
        refine lv_iload hx hb dX5_copy_151 (lv_at hl 4 rfl) ?_
        refine lv_iadd hx hb dX5_copy_153 ?_
        refine lv_aload_n hx hb dX5_copy_154 rfl (lv_at hl 0 rfl) ?_
        refine va_get (D := D) (ci := 5) (v := .ref (a 13)) (C := RX5) (T := TX5) (N := 20) hx hb hts hin5 hown hK hP 0 rfl rfl 16 (by decide) (hts (.fieldLink RX5 47 "BallastLineModel" "moving" "[I") (List.mem_of_getElem? (i := 3) rfl)) (fun _ h9 => h9) rfl dX5_copy_155 ?_
        refine lv_iload hx hb dX5_copy_158 (lv_at hl 4 rfl) ?_
        obtain ⟨g4, h⟩ := gd_s h
        refine va_iald hx hb hK hP 13 12 rfl rfl (inb_in g4) dX5_copy_160 ?_
        obtain ⟨g5, h⟩ := gd_s h
        refine va_iast hx hb hK hP hD hS 12 11 rfl rfl (inb_in g5) dX5_copy_161 (fun H locs hP hD hS => ?_)
        obtain ⟨M_6, eM_6⟩ : ∃ y : Nat → Nat → Int32, y = st M 15 (Int32.toNatClampNeg ((((40 : Int32) * p2) + p3) + x6)) (M 16 (Int32.toNatClampNeg x6)) := ⟨_, rfl⟩
        have h := ltt_s eM_6 h
        have hP : va_P D vwCl (xM a k M_6 L0) H := by rw [eM_6]; exact hP
        have hD : va_D A (xM a k M_6 L0) := by rw [eM_6]; exact hD
        obtain ⟨v7, ev7⟩ : ∃ y : Int32, y = x6 + (1 : Int32) := ⟨_, rfl⟩
        have h := ltt_s ev7 h
        refine lv_iinc (v := v7) (lv' := [(6, .int v7), (0, .ref (a 0)), (3, .int p2), (4, .int p3), (5, .int p4)]) hx hb dX5_copy_162 hl (k := 4) rfl (by rw [ev7]; rfl) (by decide) rfl (fun ls hl => ?_)
        refine lv_goto (tgt := 133) hx hb dX5_copy_165 (by decide) ?_
        exact ih v7 M_6 H locs hP hD hS ls (lv_sub hl [1, 2, 3, 4, 0] rfl) h
  have lb96 : ∀ (n : Nat), ∀ (x6 : Int32) (M : Nat → Nat → Int32), ∀ (H : Heap) (locs : List Loc), va_P D vwCl (xM a k M L0) H → va_D A (xM a k M L0) → va_S A s.heap H locs → ∀ ls : Array Slot, lv_has ls 7 [(0, .ref (a 0)), (1, .int p0), (2, .int p1), (3, .int p2), (4, .int p3), (5, .int p4), (6, .int x6)] → f_X5_copy_L96 p0 p1 p2 p3 p4 n x6 M = some (r, Mz) → W p l e rm_X5_copy s m args below meth c H locs 0 0 Q (F0 m 96 ls []) := by
    intro n
    induction n with
    | zero =>
      intro x6 M H locs hP hD hS ls hl h
      rw [f_X5_copy_L96] at h
      cases h
    | succ n ih =>
      intro x6 M H locs hP hD hS ls hl h
      rw [f_X5_copy_L96] at h
      refine lv_iload hx hb dX5_copy_96 (lv_at hl 6 rfl) ?_
      refine lv_iload hx hb dX5_copy_98 (lv_at hl 5 rfl) ?_
      refine lv_icmp_ge (tgt := 130) hx hb dX5_copy_100 (by decide) (fun c8 => ?_) (fun c8 => ?_)
      · have h := it_t c8 h
        refine lv_iconst (v := (0 : Int32)) hx hb dX5_copy_130 (by decide) ?_
        refine lv_istore (lv' := [(6, .int (0 : Int32)), (0, .ref (a 0)), (1, .int p0), (2, .int p1), (3, .int p2), (4, .int p3), (5, .int p4)]) hx hb dX5_copy_131 hl (by decide) rfl (fun ls hl => ?_)
        exact lb133 64 (0 : Int32) M H locs hP hD hS ls (lv_sub hl [1, 4, 5, 6, 0] rfl) h
      · have h := it_f c8 h
        refine lv_aload_n hx hb dX5_copy_103 rfl (lv_at hl 0 rfl) ?_
        refine va_get (D := D) (ci := 5) (v := .ref (a 13)) (C := RX5) (T := TX5) (N := 20) hx hb hts hin5 hown hK hP 0 rfl rfl 16 (by decide) (hts (.fieldLink RX5 47 "BallastLineModel" "moving" "[I") (List.mem_of_getElem? (i := 3) rfl)) (fun _ h9 => h9) rfl dX5_copy_104 ?_
        refine lv_iload hx hb dX5_copy_107 (lv_at hl 6 rfl) ?_
        refine lv_aload_n hx hb dX5_copy_109 rfl (lv_at hl 0 rfl) ?_
        refine va_get (D := D) (ci := 5) (v := .ref (a 12)) (C := RX5) (T := TX5) (N := 20) hx hb hts hin5 hown hK hP 0 rfl rfl 15 (by decide) (hts (.fieldLink RX5 44 "BallastLineModel" "runs" "[I") (List.mem_of_getElem? (i := 4) rfl)) (fun _ h9 => h9) rfl dX5_copy_110 ?_
        refine lv_bipush (v := (40 : Int32)) hx hb dX5_copy_113 (by decide) ?_
        refine lv_iload_n hx hb dX5_copy_115 rfl (lv_at hl 1 rfl) ?_
        refine lv_imul hx hb dX5_copy_116 ?_
        refine lv_iload_n hx hb dX5_copy_117 rfl (lv_at hl 2 rfl) ?_
        refine lv_iadd hx hb dX5_copy_118 ?_
        refine lv_iload hx hb dX5_copy_119 (lv_at hl 6 rfl) ?_
        refine lv_iadd hx hb dX5_copy_121 ?_
        obtain ⟨g9, h⟩ := gd_s h
        refine va_iald hx hb hK hP 12 11 rfl rfl (inb_in g9) dX5_copy_122 ?_
        obtain ⟨g10, h⟩ := gd_s h
        refine va_iast hx hb hK hP hD hS 13 12 rfl rfl (inb_in g10) dX5_copy_123 (fun H locs hP hD hS => ?_)
        obtain ⟨M_11, eM_11⟩ : ∃ y : Nat → Nat → Int32, y = st M 16 (Int32.toNatClampNeg x6) (M 15 (Int32.toNatClampNeg ((((40 : Int32) * p0) + p1) + x6))) := ⟨_, rfl⟩
        have h := ltt_s eM_11 h
        have hP : va_P D vwCl (xM a k M_11 L0) H := by rw [eM_11]; exact hP
        have hD : va_D A (xM a k M_11 L0) := by rw [eM_11]; exact hD
        obtain ⟨v12, ev12⟩ : ∃ y : Int32, y = x6 + (1 : Int32) := ⟨_, rfl⟩
        have h := ltt_s ev12 h
        refine lv_iinc (v := v12) (lv' := [(6, .int v12), (0, .ref (a 0)), (1, .int p0), (2, .int p1), (3, .int p2), (4, .int p3), (5, .int p4)]) hx hb dX5_copy_124 hl (k := 6) rfl (by rw [ev12]; rfl) (by decide) rfl (fun ls hl => ?_)
        refine lv_goto (tgt := 96) hx hb dX5_copy_127 (by decide) ?_
        exact ih v12 M_11 H locs hP hD hS ls (lv_sub hl [1, 2, 3, 4, 5, 6, 0] rfl) h
  rw [f_X5_copy] at h
  obtain ⟨H, hH⟩ : ∃ H, H = s.heap := ⟨_, rfl⟩
  obtain ⟨locs, hlc⟩ : ∃ L : List Loc, L = [] := ⟨_, rfl⟩
  rw [← hH] at hP
  have hS : va_S A s.heap H locs := by rw [hH, hlc]; exact hS
  suffices hW9 : W p l e rm_X5_copy s m args below meth c H locs 0 0 Q (F0 m 0 ls []) by rw [hH, hlc] at hW9; exact hW9
  refine lv_iload_n hx hb dX5_copy_0 rfl (lv_at hl 1 rfl) ?_
  obtain ⟨r13, q13, h⟩ := b1_s h
  refine go_i (run_S (As := [.int p0]) (rest := []) ⟨hx, hb, hml, hown, hts⟩ hnw hK hP hD (fr_M_E a k M0 L0) (ks_M_E k) (c_X5_isNumber l D H.size p0 r13 q13) (cwS 1 hts gX5_copy_X5_isNumber rfl rfl rfl (by decide +kernel) ⟨Nat.le_of_ble_eq_true rfl, Nat.le_of_ble_eq_true rfl⟩) rfl hl.1 rfl (Nat.le_of_ble_eq_true rfl) dX5_copy_1 ⟨Nat.zero_le _, Nat.zero_le _⟩) hP hD hS hA (fr_M_E a k M0 L0) (fun H locs hP hD hS => ?_)
  refine lv_if_eq (tgt := 14) hx hb dX5_copy_4 (by decide) (fun c14 => ?_) (fun c14 => ?_)
  · have h := it_t c14 h
    refine lv_iconst (v := (-1 : Int32)) hx hb dX5_copy_14 (by decide) ?_
    have h := Option.some.inj h
    obtain ⟨hz0, h⟩ := Prod.mk.inj h
    have hP : va_P D vwCl (xM a k Mz L0) H := by rw [← h]; exact hP
    have hD : va_D A (xM a k Mz L0) := by rw [← h]; exact hD
    subst hQ
    subst hAe
    exact r_i hx hb hr hlocks hz0 hP hD hS dX5_copy_15
  · have h := it_f c14 h
    refine lv_iload_n hx hb dX5_copy_7 rfl (lv_at hl 3 rfl) ?_
    obtain ⟨r15, q15, h⟩ := b1_s h
    refine go_i (run_S (As := [.int p2]) (rest := []) ⟨hx, hb, hml, hown, hts⟩ hnw hK hP hD (fr_M_E a k M0 L0) (ks_M_E k) (c_X5_isNumber l D H.size p2 r15 q15) (cwS 1 hts gX5_copy_X5_isNumber rfl rfl rfl (by decide +kernel) ⟨Nat.le_of_ble_eq_true rfl, Nat.le_of_ble_eq_true rfl⟩) rfl hl.1 rfl (Nat.le_of_ble_eq_true rfl) dX5_copy_8 ⟨Nat.zero_le _, Nat.zero_le _⟩) hP hD hS hA (fr_M_E a k M0 L0) (fun H locs hP hD hS => ?_)
    refine lv_if_ne (tgt := 16) hx hb dX5_copy_11 (by decide) (fun c16 => ?_) (fun c16 => ?_)
    · have h := it_f c16 h
      refine lv_iload hx hb dX5_copy_16 (lv_at hl 5 rfl) ?_
      refine lv_if_ge (tgt := 27) hx hb dX5_copy_18 (by decide) (fun c17 => ?_) (fun c17 => ?_)
      · have h := it_t c17 h
        refine lv_aload_n hx hb dX5_copy_27 rfl (lv_at hl 0 rfl) ?_
        refine va_get (D := D) (ci := 5) (v := .ref (a 11)) (C := RX5) (T := TX5) (N := 20) hx hb hts hin5 hown hK hP 0 rfl rfl 14 (by decide) (hts (.fieldLink RX5 41 "BallastLineModel" "isRun" "[Z") (List.mem_of_getElem? (i := 1) rfl)) (fun _ h9 => h9) rfl dX5_copy_28 ?_
        refine lv_iload_n hx hb dX5_copy_31 rfl (lv_at hl 1 rfl) ?_
        obtain ⟨g18, h⟩ := gd_s h
        refine va_zald hx hb hK hP 11 10 rfl rfl (inb_in g18) dX5_copy_32 ?_
        refine lv_if_eq (tgt := 45) hx hb dX5_copy_33 (by decide) (fun c19 => ?_) (fun c19 => ?_)
        · have h := it_t c19 h
          exact lb45  M0 H locs hP hD hS ls (lv_sub hl [0] rfl) h
        · have h := it_f c19 h
          refine lv_aload_n hx hb dX5_copy_36 rfl (lv_at hl 0 rfl) ?_
          refine va_get (D := D) (ci := 5) (v := .ref (a 11)) (C := RX5) (T := TX5) (N := 20) hx hb hts hin5 hown hK hP 0 rfl rfl 14 (by decide) (hts (.fieldLink RX5 41 "BallastLineModel" "isRun" "[Z") (List.mem_of_getElem? (i := 1) rfl)) (fun _ h9 => h9) rfl dX5_copy_37 ?_
          refine lv_iload_n hx hb dX5_copy_40 rfl (lv_at hl 3 rfl) ?_
          obtain ⟨g20, h⟩ := gd_s h
          refine va_zald hx hb hK hP 11 10 rfl rfl (inb_in g20) dX5_copy_41 ?_
          refine lv_if_ne (tgt := 51) hx hb dX5_copy_42 (by decide) (fun c21 => ?_) (fun c21 => ?_)
          · have h := it_f c21 h
            refine lv_iload_n hx hb dX5_copy_51 rfl (lv_at hl 2 rfl) ?_
            refine lv_if_lt (tgt := 87) hx hb dX5_copy_52 (by decide) (fun c22 => ?_) (fun c22 => ?_)
            · have h := it_t c22 h
              exact lb87  M0 H locs hP hD hS ls (lv_sub hl [0] rfl) h
            · have h := it_f c22 h
              refine lv_iload hx hb dX5_copy_55 (lv_at hl 4 rfl) ?_
              refine lv_if_lt (tgt := 87) hx hb dX5_copy_57 (by decide) (fun c23 => ?_) (fun c23 => ?_)
              · have h := it_t c23 h
                exact lb87  M0 H locs hP hD hS ls (lv_sub hl [0] rfl) h
              · have h := it_f c23 h
                refine lv_iload_n hx hb dX5_copy_60 rfl (lv_at hl 2 rfl) ?_
                refine lv_i2l (v := (Int32.toInt64 p1)) hx hb dX5_copy_61 rfl ?_
                refine lv_iload hx hb dX5_copy_62 (lv_at hl 5 rfl) ?_
                refine lv_i2l (v := (Int32.toInt64 p4)) hx hb dX5_copy_64 rfl ?_
                refine lv_ladd hx hb dX5_copy_65 ?_
                refine lv_ldc2 (v := (40 : Int64)) hx hb hown (hts (.constantLong RX5 122 (40)) (List.mem_of_getElem? (i := 2) rfl)) dX5_copy_66 ?_
                refine W.lcmp hx hb dX5_copy_69 ?_
                refine lv_if_gt (tgt := 87) hx hb dX5_copy_70 (by decide) (fun c24 => ?_) (fun c24 => ?_)
                · have h := it_t c24 h
                  exact lb87  M0 H locs hP hD hS ls (lv_sub hl [0] rfl) h
                · have h := it_f c24 h
                  refine lv_iload hx hb dX5_copy_73 (lv_at hl 4 rfl) ?_
                  refine lv_i2l (v := (Int32.toInt64 p3)) hx hb dX5_copy_75 rfl ?_
                  refine lv_iload hx hb dX5_copy_76 (lv_at hl 5 rfl) ?_
                  refine lv_i2l (v := (Int32.toInt64 p4)) hx hb dX5_copy_78 rfl ?_
                  refine lv_ladd hx hb dX5_copy_79 ?_
                  refine lv_ldc2 (v := (40 : Int64)) hx hb hown (hts (.constantLong RX5 122 (40)) (List.mem_of_getElem? (i := 2) rfl)) dX5_copy_80 ?_
                  refine W.lcmp hx hb dX5_copy_83 ?_
                  refine lv_if_le (tgt := 93) hx hb dX5_copy_84 (by decide) (fun c25 => ?_) (fun c25 => ?_)
                  · have h := it_t c25 h
                    refine lv_iconst (v := (0 : Int32)) hx hb dX5_copy_93 (by decide) ?_
                    refine lv_istore (lv' := [(6, .int (0 : Int32)), (0, .ref (a 0)), (1, .int p0), (2, .int p1), (3, .int p2), (4, .int p3), (5, .int p4)]) hx hb dX5_copy_94 hl (by decide) rfl (fun ls hl => ?_)
                    exact lb96 64 (0 : Int32) M0 H locs hP hD hS ls (lv_sub hl [1, 2, 3, 4, 5, 6, 0] rfl) h
                  · have h := it_f c25 h
                    exact lb87  M0 H locs hP hD hS ls (lv_sub hl [0] rfl) h
          · have h := it_t c21 h
            exact lb45  M0 H locs hP hD hS ls (lv_sub hl [0] rfl) h
      · have h := it_f c17 h
        refine lv_aload_n hx hb dX5_copy_21 rfl (lv_at hl 0 rfl) ?_
        refine lv_iconst (v := (5 : Int32)) hx hb dX5_copy_22 (by decide) ?_
        obtain ⟨r26, M_26, q26, h⟩ := b2_s h
        refine go_i (run_V (As := [.int (5 : Int32)]) (rest := []) ⟨hx, hb, hml, hown, hts⟩ hnw hK hP hD (fr_M_M a k M0 L0 M_26 L0) (ks_M_M k) (c_X5_meets l D a k H.size M0 L0 (5 : Int32) r26 M_26 q26) (cwV 1 hts gX5_copy_X5_meets rfl rfl rfl (by decide +kernel) ⟨Nat.le_of_ble_eq_true rfl, Nat.le_of_ble_eq_true rfl⟩) (rcv_M a k M0 L0) rfl hl.1 rfl (Nat.le_of_ble_eq_true rfl) dX5_copy_23 ⟨Nat.zero_le _, Nat.zero_le _⟩) hP hD hS hA (fr_M_M a k M0 L0 M_26 L0) (fun H locs hP hD hS => ?_)
        have h := Option.some.inj h
        obtain ⟨hz0, h⟩ := Prod.mk.inj h
        have hP : va_P D vwCl (xM a k Mz L0) H := by rw [← h]; exact hP
        have hD : va_D A (xM a k Mz L0) := by rw [← h]; exact hD
        subst hQ
        subst hAe
        exact r_i hx hb hr hlocks hz0 hP hD hS dX5_copy_26
    · have h := it_t c16 h
      refine lv_iconst (v := (-1 : Int32)) hx hb dX5_copy_14 (by decide) ?_
      have h := Option.some.inj h
      obtain ⟨hz0, h⟩ := Prod.mk.inj h
      have hP : va_P D vwCl (xM a k Mz L0) H := by rw [← h]; exact hP
      have hD : va_D A (xM a k Mz L0) := by rw [← h]; exact hD
      subst hQ
      subst hAe
      exact r_i hx hb hr hlocks hz0 hP hD hS dX5_copy_15
def f_X5_apart_L6 (M0 : Nat → Nat → Int32) (p0 : Int32) (p1 : Int32) (p2 : Int32)  : Nat → Int64 → Int32 → Option (Int64)
  | 0, _, _ => none
  | n + 1, x4, x6 => if ((M0 3 0) - (6 : Int32)) < x6 then (some x4) else (gd (inb (((40 : Int32) * p0) + x6) 240) (gd (inb ((((40 : Int32) * p1) + x6) + p2) 240) (ltt (((Int32.toInt64 (M0 15 (Int32.toNatClampNeg (((40 : Int32) * p0) + x6)))) - (Int32.toInt64 (M0 15 (Int32.toNatClampNeg ((((40 : Int32) * p1) + x6) + p2)))))) (fun v4 => ltt ((x4 + (v4 * v4))) (fun v5 => ltt (x6 + (1 : Int32)) (fun v6 => f_X5_apart_L6 M0 p0 p1 p2 n v5 v6))))))
def f_X5_apart (M0 : Nat → Nat → Int32) (p0 : Int32) (p1 : Int32) (p2 : Int32) : Option (Int64) := f_X5_apart_L6 M0 p0 p1 p2 64 (0 : Int64) (5 : Int32)
abbrev rm_X5_apart : Room := { frames := 0, cells := 0, slots := 0, locals := 0 }
set_option maxHeartbeats 4000000 in
set_option maxRecDepth 100000 in
theorem c_X5_apart (l : Launch) (D : va_G) (a : Nat → Nat) (k : Nat → ClassId) (sz : Nat) (M0 : Nat → Nat → Int32) (L0 : Int64) (p0 : Int32) (p1 : Int32) (p2 : Int32) (r : Int64) (h : f_X5_apart M0 p0 p1 p2 = some r) : Met l yX5_apart wsX5_apart rm_X5_apart (mPc D [.ref (a 0), .int p0, .int p1, .int p2] (xM a k M0 L0) (tM k) sz) (mQl D (xM a k M0 L0) (xM a k M0 L0) sz r) 0 0 (va_A (xM a k M0 L0) sz) := by
  refine mk_met (cc := cX5_apart) (maxL := 9) (ret := (some .long)) (by decide) rfl (Nat.le_of_ble_eq_true rfl) ?_
  intro p e s m below meth c hx hb hr hml hts hown hmn hlocks hnw hsz hK hP hD hS hA ls hl
  obtain ⟨A, hAe⟩ : ∃ A, A = va_A (xM a k M0 L0) sz := ⟨_, rfl⟩
  rw [← hAe] at hD hS hA
  generalize hargs : List.toArray ([.ref (a 0), .int p0, .int p1, .int p2] : List Value) = args at hts ⊢
  generalize hQ : MQ below (mQl D (xM a k M0 L0) (xM a k M0 L0) sz r) args s 0 0 (va_A (xM a k M0 L0) sz) = Q
  have hl : lv_has ls 9 [(0, .ref (a 0)), (1, .int p0), (2, .int p1), (3, .int p2)] := hl
  have hin5 : ∀ w ∈ wsX50, w ∈ wsX5_apart := fun w h => List.mem_cons_of_mem _ (List.mem_append_right _ h)
  have lb6 : ∀ (n : Nat), ∀ (x4 : Int64) (x6 : Int32), ∀ (H : Heap) (locs : List Loc), va_P D vwCl (xM a k M0 L0) H → va_D A (xM a k M0 L0) → va_S A s.heap H locs → ∀ ls : Array Slot, lv_has ls 9 [(0, .ref (a 0)), (1, .int p0), (2, .int p1), (3, .int p2), (4, .long x4), (6, .int x6)] → f_X5_apart_L6 M0 p0 p1 p2 n x4 x6 = some r → W p l e rm_X5_apart s m args below meth c H locs 0 0 Q (F0 m 6 ls []) := by
    intro n
    induction n with
    | zero =>
      intro x4 x6 H locs hP hD hS ls hl h
      rw [f_X5_apart_L6] at h
      cases h
    | succ n ih =>
      intro x4 x6 H locs hP hD hS ls hl h
      rw [f_X5_apart_L6] at h
      refine lv_iload hx hb dX5_apart_6 (lv_at hl 5 rfl) ?_
      refine lv_aload_n hx hb dX5_apart_8 rfl (lv_at hl 0 rfl) ?_
      refine va_get (D := D) (ci := 5) (v := .int (M0 3 0)) (C := RX5) (T := TX5) (N := 20) hx hb hts hin5 hown hK hP 0 rfl rfl 3 (by decide) (hts (.fieldLink RX5 72 "BallastLineModel" "many" "I") (List.mem_of_getElem? (i := 1) rfl)) (fun _ h9 => h9) rfl dX5_apart_9 ?_
      refine lv_bipush (v := (6 : Int32)) hx hb dX5_apart_12 (by decide) ?_
      refine lv_isub hx hb dX5_apart_14 ?_
      refine lv_icmp_gt (tgt := 65) hx hb dX5_apart_15 (by decide) (fun c1 => ?_) (fun c1 => ?_)
      · have h := it_t c1 h
        refine lv_lload hx hb dX5_apart_65 (lv_at hl 4 rfl) ?_
        have h := Option.some.inj h
        subst hQ
        subst hAe
        exact r_l hx hb hr hlocks h hP hD hS dX5_apart_67
      · have h := it_f c1 h
        refine lv_aload_n hx hb dX5_apart_18 rfl (lv_at hl 0 rfl) ?_
        refine va_get (D := D) (ci := 5) (v := .ref (a 12)) (C := RX5) (T := TX5) (N := 20) hx hb hts hin5 hown hK hP 0 rfl rfl 15 (by decide) (hts (.fieldLink RX5 44 "BallastLineModel" "runs" "[I") (List.mem_of_getElem? (i := 2) rfl)) (fun _ h9 => h9) rfl dX5_apart_19 ?_
        refine lv_bipush (v := (40 : Int32)) hx hb dX5_apart_22 (by decide) ?_
        refine lv_iload_n hx hb dX5_apart_24 rfl (lv_at hl 1 rfl) ?_
        refine lv_imul hx hb dX5_apart_25 ?_
        refine lv_iload hx hb dX5_apart_26 (lv_at hl 5 rfl) ?_
        refine lv_iadd hx hb dX5_apart_28 ?_
        obtain ⟨g2, h⟩ := gd_s h
        refine va_iald hx hb hK hP 12 11 rfl rfl (inb_in g2) dX5_apart_29 ?_
        refine lv_i2l (v := (Int32.toInt64 (M0 15 (Int32.toNatClampNeg (((40 : Int32) * p0) + x6))))) hx hb dX5_apart_30 rfl ?_
        refine lv_aload_n hx hb dX5_apart_31 rfl (lv_at hl 0 rfl) ?_
        refine va_get (D := D) (ci := 5) (v := .ref (a 12)) (C := RX5) (T := TX5) (N := 20) hx hb hts hin5 hown hK hP 0 rfl rfl 15 (by decide) (hts (.fieldLink RX5 44 "BallastLineModel" "runs" "[I") (List.mem_of_getElem? (i := 2) rfl)) (fun _ h9 => h9) rfl dX5_apart_32 ?_
        refine lv_bipush (v := (40 : Int32)) hx hb dX5_apart_35 (by decide) ?_
        refine lv_iload_n hx hb dX5_apart_37 rfl (lv_at hl 2 rfl) ?_
        refine lv_imul hx hb dX5_apart_38 ?_
        refine lv_iload hx hb dX5_apart_39 (lv_at hl 5 rfl) ?_
        refine lv_iadd hx hb dX5_apart_41 ?_
        refine lv_iload_n hx hb dX5_apart_42 rfl (lv_at hl 3 rfl) ?_
        refine lv_iadd hx hb dX5_apart_43 ?_
        obtain ⟨g3, h⟩ := gd_s h
        refine va_iald hx hb hK hP 12 11 rfl rfl (inb_in g3) dX5_apart_44 ?_
        refine lv_i2l (v := (Int32.toInt64 (M0 15 (Int32.toNatClampNeg ((((40 : Int32) * p1) + x6) + p2))))) hx hb dX5_apart_45 rfl ?_
        refine lv_lsub hx hb dX5_apart_46 ?_
        refine lv_topl (fun v4 ev4 => ?_)
        have h := ltt_s ev4 h
        refine lv_lstore (lv' := [(7, .long v4), (0, .ref (a 0)), (1, .int p0), (2, .int p1), (3, .int p2), (4, .long x4), (6, .int x6)]) hx hb dX5_apart_47 hl (by decide) rfl (fun ls hl => ?_)
        refine lv_lload hx hb dX5_apart_49 (lv_at hl 5 rfl) ?_
        refine lv_lload hx hb dX5_apart_51 (lv_at hl 0 rfl) ?_
        refine lv_lload hx hb dX5_apart_53 (lv_at hl 0 rfl) ?_
        refine lv_lmul hx hb dX5_apart_55 ?_
        refine lv_ladd hx hb dX5_apart_56 ?_
        refine lv_topl (fun v5 ev5 => ?_)
        have h := ltt_s ev5 h
        refine lv_lstore (lv' := [(4, .long v5), (7, .long v4), (0, .ref (a 0)), (1, .int p0), (2, .int p1), (3, .int p2), (6, .int x6)]) hx hb dX5_apart_57 hl (by decide) rfl (fun ls hl => ?_)
        obtain ⟨v6, ev6⟩ : ∃ y : Int32, y = x6 + (1 : Int32) := ⟨_, rfl⟩
        have h := ltt_s ev6 h
        refine lv_iinc (v := v6) (lv' := [(6, .int v6), (4, .long v5), (7, .long v4), (0, .ref (a 0)), (1, .int p0), (2, .int p1), (3, .int p2)]) hx hb dX5_apart_59 hl (k := 6) rfl (by rw [ev6]; rfl) (by decide) rfl (fun ls hl => ?_)
        refine lv_goto (tgt := 6) hx hb dX5_apart_62 (by decide) ?_
        exact ih v5 v6 H locs hP hD hS ls (lv_sub hl [3, 4, 5, 6, 1, 0] rfl) h
  rw [f_X5_apart] at h
  obtain ⟨H, hH⟩ : ∃ H, H = s.heap := ⟨_, rfl⟩
  obtain ⟨locs, hlc⟩ : ∃ L : List Loc, L = [] := ⟨_, rfl⟩
  rw [← hH] at hP
  have hS : va_S A s.heap H locs := by rw [hH, hlc]; exact hS
  suffices hW9 : W p l e rm_X5_apart s m args below meth c H locs 0 0 Q (F0 m 0 ls []) by rw [hH, hlc] at hW9; exact hW9
  refine lv_lconst (v := (0 : Int64)) hx hb dX5_apart_0 (by decide) ?_
  refine lv_lstore (lv' := [(4, .long (0 : Int64)), (0, .ref (a 0)), (1, .int p0), (2, .int p1), (3, .int p2)]) hx hb dX5_apart_1 hl (by decide) rfl (fun ls hl => ?_)
  refine lv_iconst (v := (5 : Int32)) hx hb dX5_apart_3 (by decide) ?_
  refine lv_istore (lv' := [(6, .int (5 : Int32)), (4, .long (0 : Int64)), (0, .ref (a 0)), (1, .int p0), (2, .int p1), (3, .int p2)]) hx hb dX5_apart_4 hl (by decide) rfl (fun ls hl => ?_)
  exact lb6 64 (0 : Int64) (5 : Int32) H locs hP hD hS ls (lv_sub hl [2, 3, 4, 5, 1, 0] rfl) h
def f_X5_fit_J46  (p0 : Int32) (p1 : Int32)  (M : Nat → Nat → Int32) (L : Int64) : Option (Int32 × (Nat → Nat → Int32) × Int64) := b2 (f_X5_meets M (1 : Int32)) (fun r1 (M_1 : Nat → Nat → Int32) => some (r1, M_1, L))
def f_X5_fit_J116  (p0 : Int32) (p1 : Int32) (ko57 : Int32 → Int32 → (Nat → Nat → Int32) → Int64 → Option (Int32 × (Nat → Nat → Int32) × Int64)) (x4 : Int32) (s0 : Int32) (M : Nat → Nat → Int32) (L : Int64) : Option (Int32 × (Nat → Nat → Int32) × Int64) := ltt (x4 + (1 : Int32)) (fun v2 => ko57 s0 v2 M L)
def f_X5_fit_J90  (p0 : Int32) (p1 : Int32) (ko57 : Int32 → Int32 → (Nat → Nat → Int32) → Int64 → Option (Int32 × (Nat → Nat → Int32) × Int64)) (x4 : Int32) (s0 : Int32) (M : Nat → Nat → Int32) (L : Int64) : Option (Int32 × (Nat → Nat → Int32) × Int64) := b1 (f_X5_apart M p0 p1 x4) (fun r3 => b1 (f_X5_apart M p0 p1 s0) (fun r4 => if (0 : Int32) ≤ (lg_cmp r3 r4) then (f_X5_fit_J116 p0 p1 ko57 x4 s0 M L) else (f_X5_fit_J116 p0 p1 ko57 x4 x4 M L)))
def f_X5_fit_L57  (p0 : Int32) (p1 : Int32)  : Nat → Int32 → Int32 → (Nat → Nat → Int32) → Int64 → Option (Int32 × (Nat → Nat → Int32) × Int64)
  | 0, _, _, _, _ => none
  | n + 1, x3, x4, M, L => if (5 : Int32) < x4 then (b1 (f_X5_apart M p0 p1 x3) (fun r7 => b2 (f_X5_tell L r7 ((100 : Int32) + x3)) (fun r8 (L_8 : Int64) => some (r8, M, L_8)))) else (b1 (f_X5_apart M p0 p1 (-x4)) (fun r9 => b1 (f_X5_apart M p0 p1 x3) (fun r10 => if (0 : Int32) ≤ (lg_cmp r9 r10) then (f_X5_fit_J90 p0 p1 (f_X5_fit_L57 p0 p1 n) x4 x3 M L) else (f_X5_fit_J90 p0 p1 (f_X5_fit_L57 p0 p1 n) x4 (-x4) M L))))
def f_X5_fit (M0 : Nat → Nat → Int32) (L0 : Int64) (p0 : Int32) (p1 : Int32) : Option (Int32 × (Nat → Nat → Int32) × Int64) := b1 (f_X5_isNumber p0) (fun r12 => if r12 = (0 : Int32) then (some ((-1 : Int32), M0, L0)) else (b1 (f_X5_isNumber p1) (fun r14 => if r14 = (0 : Int32) then (some ((-1 : Int32), M0, L0)) else (if (11 : Int32) ≤ (M0 3 0) then (gd (inb p0 6) (if (M0 14 (Int32.toNatClampNeg p0)) = (0 : Int32) then (f_X5_fit_J46 p0 p1 M0 L0) else (gd (inb p1 6) (if (M0 14 (Int32.toNatClampNeg p1)) = (0 : Int32) then (f_X5_fit_J46 p0 p1 M0 L0) else (f_X5_fit_L57 p0 p1 64 (0 : Int32) (1 : Int32) M0 L0))))) else (some ((-4 : Int32), M0, L0))))))
abbrev rm_X5_fit : Room := { frames := 2, cells := 0, slots := 0, locals := 42 }
set_option maxHeartbeats 4000000 in
set_option maxRecDepth 100000 in
theorem c_X5_fit (l : Launch) (D : va_G) (a : Nat → Nat) (k : Nat → ClassId) (sz : Nat) (M0 : Nat → Nat → Int32) (L0 : Int64) (p0 : Int32) (p1 : Int32) (r : Int32) (Mz : (Nat → Nat → Int32)) (Lz : Int64) (h : f_X5_fit M0 L0 p0 p1 = some (r, Mz, Lz)) : Met l yX5_fit wsX5_fit rm_X5_fit (mPc D [.ref (a 0), .int p0, .int p1] (xM a k M0 L0) (tM k) sz) (mQi D (xM a k M0 L0) (xM a k Mz Lz) sz r) 0 0 (va_A (xM a k M0 L0) sz) := by
  refine mk_met (cc := cX5_fit) (maxL := 5) (ret := (some .int)) (by decide) rfl (Nat.le_of_ble_eq_true rfl) ?_
  intro p e s m below meth c hx hb hr hml hts hown hmn hlocks hnw hsz hK hP hD hS hA ls hl
  obtain ⟨A, hAe⟩ : ∃ A, A = va_A (xM a k M0 L0) sz := ⟨_, rfl⟩
  rw [← hAe] at hD hS hA
  generalize hargs : List.toArray ([.ref (a 0), .int p0, .int p1] : List Value) = args at hts ⊢
  generalize hQ : MQ below (mQi D (xM a k M0 L0) (xM a k Mz Lz) sz r) args s 0 0 (va_A (xM a k M0 L0) sz) = Q
  have hl : lv_has ls 5 [(0, .ref (a 0)), (1, .int p0), (2, .int p1)] := hl
  have hin5 : ∀ w ∈ wsX50, w ∈ wsX5_fit := fun w h => List.mem_cons_of_mem _ (List.mem_append_right _ h)
  have lb46 : ∀ (M : Nat → Nat → Int32) (L : Int64), ∀ (H : Heap) (locs : List Loc), va_P D vwCl (xM a k M L) H → va_D A (xM a k M L) → va_S A s.heap H locs → ∀ ls : Array Slot, lv_has ls 5 [(0, .ref (a 0))] → f_X5_fit_J46 p0 p1 M L = some (r, Mz, Lz) → W p l e rm_X5_fit s m args below meth c H locs 0 0 Q (F0 m 46 ls []) := by
    intro  M L H locs hP hD hS ls hl h
    rw [f_X5_fit_J46] at h
    refine lv_aload_n hx hb dX5_fit_46 rfl (lv_at hl 0 rfl) ?_
    refine lv_iconst (v := (1 : Int32)) hx hb dX5_fit_47 (by decide) ?_
    obtain ⟨r1, M_1, q1, h⟩ := b2_s h
    refine go_i (run_V (As := [.int (1 : Int32)]) (rest := []) ⟨hx, hb, hml, hown, hts⟩ hnw hK hP hD (fr_M_M a k M L M_1 L) (ks_M_M k) (c_X5_meets l D a k H.size M L (1 : Int32) r1 M_1 q1) (cwV 1 hts gX5_fit_X5_meets rfl rfl rfl (by decide +kernel) ⟨Nat.le_of_ble_eq_true rfl, Nat.le_of_ble_eq_true rfl⟩) (rcv_M a k M L) rfl hl.1 rfl (Nat.le_of_ble_eq_true rfl) dX5_fit_48 ⟨Nat.zero_le _, Nat.zero_le _⟩) hP hD hS hA (fr_M_M a k M L M_1 L) (fun H locs hP hD hS => ?_)
    have h := Option.some.inj h
    obtain ⟨hz0, h⟩ := Prod.mk.inj h
    obtain ⟨hz1, h⟩ := Prod.mk.inj h
    have hP : va_P D vwCl (xM a k Mz Lz) H := by rw [← hz1, ← h]; exact hP
    have hD : va_D A (xM a k Mz Lz) := by rw [← hz1, ← h]; exact hD
    subst hQ
    subst hAe
    exact r_i hx hb hr hlocks hz0 hP hD hS dX5_fit_51
  have lb116 : ∀ (ko57 : Int32 → Int32 → (Nat → Nat → Int32) → Int64 → Option (Int32 × (Nat → Nat → Int32) × Int64)), (∀ (x3 : Int32) (x4 : Int32) (M : Nat → Nat → Int32) (L : Int64), ∀ (H : Heap) (locs : List Loc), va_P D vwCl (xM a k M L) H → va_D A (xM a k M L) → va_S A s.heap H locs → ∀ ls : Array Slot, lv_has ls 5 [(0, .ref (a 0)), (1, .int p0), (2, .int p1), (3, .int x3), (4, .int x4)] → ko57 x3 x4 M L = some (r, Mz, Lz) → W p l e rm_X5_fit s m args below meth c H locs 0 0 Q (F0 m 57 ls [])) → ∀ (x4 : Int32) (s0 : Int32) (M : Nat → Nat → Int32) (L : Int64), ∀ (H : Heap) (locs : List Loc), va_P D vwCl (xM a k M L) H → va_D A (xM a k M L) → va_S A s.heap H locs → ∀ ls : Array Slot, lv_has ls 5 [(0, .ref (a 0)), (1, .int p0), (2, .int p1), (4, .int x4)] → f_X5_fit_J116 p0 p1 ko57 x4 s0 M L = some (r, Mz, Lz) → W p l e rm_X5_fit s m args below meth c H locs 0 0 Q (F0 m 116 ls [.int s0]) := by
    intro ko57 hko57 x4 s0 M L H locs hP hD hS ls hl h
    rw [f_X5_fit_J116] at h
    refine lv_istore_n (lv' := [(3, .int s0), (0, .ref (a 0)), (1, .int p0), (2, .int p1), (4, .int x4)]) hx hb dX5_fit_116 rfl hl (by decide) rfl (fun ls hl => ?_)
    obtain ⟨v2, ev2⟩ : ∃ y : Int32, y = x4 + (1 : Int32) := ⟨_, rfl⟩
    have h := ltt_s ev2 h
    refine lv_iinc (v := v2) (lv' := [(4, .int v2), (3, .int s0), (0, .ref (a 0)), (1, .int p0), (2, .int p1)]) hx hb dX5_fit_117 hl (k := 4) rfl (by rw [ev2]; rfl) (by decide) rfl (fun ls hl => ?_)
    refine lv_goto (tgt := 57) hx hb dX5_fit_120 (by decide) ?_
    exact hko57 s0 v2 M L H locs hP hD hS ls (lv_sub hl [2, 3, 4, 1, 0] rfl) h
  have lb90 : ∀ (ko57 : Int32 → Int32 → (Nat → Nat → Int32) → Int64 → Option (Int32 × (Nat → Nat → Int32) × Int64)), (∀ (x3 : Int32) (x4 : Int32) (M : Nat → Nat → Int32) (L : Int64), ∀ (H : Heap) (locs : List Loc), va_P D vwCl (xM a k M L) H → va_D A (xM a k M L) → va_S A s.heap H locs → ∀ ls : Array Slot, lv_has ls 5 [(0, .ref (a 0)), (1, .int p0), (2, .int p1), (3, .int x3), (4, .int x4)] → ko57 x3 x4 M L = some (r, Mz, Lz) → W p l e rm_X5_fit s m args below meth c H locs 0 0 Q (F0 m 57 ls [])) → ∀ (x4 : Int32) (s0 : Int32) (M : Nat → Nat → Int32) (L : Int64), ∀ (H : Heap) (locs : List Loc), va_P D vwCl (xM a k M L) H → va_D A (xM a k M L) → va_S A s.heap H locs → ∀ ls : Array Slot, lv_has ls 5 [(0, .ref (a 0)), (1, .int p0), (2, .int p1), (4, .int x4)] → f_X5_fit_J90 p0 p1 ko57 x4 s0 M L = some (r, Mz, Lz) → W p l e rm_X5_fit s m args below meth c H locs 0 0 Q (F0 m 90 ls [.int s0]) := by
    intro ko57 hko57 x4 s0 M L H locs hP hD hS ls hl h
    rw [f_X5_fit_J90] at h
    refine lv_istore_n (lv' := [(3, .int s0), (0, .ref (a 0)), (1, .int p0), (2, .int p1), (4, .int x4)]) hx hb dX5_fit_90 rfl hl (by decide) rfl (fun ls hl => ?_)
    refine lv_aload_n hx hb dX5_fit_91 rfl (lv_at hl 1 rfl) ?_
    refine lv_iload_n hx hb dX5_fit_92 rfl (lv_at hl 2 rfl) ?_
    refine lv_iload_n hx hb dX5_fit_93 rfl (lv_at hl 3 rfl) ?_
    refine lv_iload hx hb dX5_fit_94 (lv_at hl 4 rfl) ?_
    obtain ⟨r3, q3, h⟩ := b1_s h
    refine go_l (run_V (As := [.int p0, .int p1, .int x4]) (rest := []) ⟨hx, hb, hml, hown, hts⟩ hnw hK hP hD (fr_M_M a k M L M L) (ks_M_M k) (c_X5_apart l D a k H.size M L p0 p1 x4 r3 q3) (cwV 3 hts gX5_fit_X5_apart rfl rfl rfl (by decide +kernel) ⟨Nat.le_of_ble_eq_true rfl, Nat.le_of_ble_eq_true rfl⟩) (rcv_M a k M L) rfl hl.1 rfl (Nat.le_of_ble_eq_true rfl) dX5_fit_96 ⟨Nat.zero_le _, Nat.zero_le _⟩) hP hD hS hA (fr_M_M a k M L M L) (fun H locs hP hD hS => ?_)
    refine lv_aload_n hx hb dX5_fit_99 rfl (lv_at hl 1 rfl) ?_
    refine lv_iload_n hx hb dX5_fit_100 rfl (lv_at hl 2 rfl) ?_
    refine lv_iload_n hx hb dX5_fit_101 rfl (lv_at hl 3 rfl) ?_
    refine lv_iload_n hx hb dX5_fit_102 rfl (lv_at hl 0 rfl) ?_
    obtain ⟨r4, q4, h⟩ := b1_s h
    refine go_l (run_V (As := [.int p0, .int p1, .int s0]) (rest := [.long r3]) ⟨hx, hb, hml, hown, hts⟩ hnw hK hP hD (fr_M_M a k M L M L) (ks_M_M k) (c_X5_apart l D a k H.size M L p0 p1 s0 r4 q4) (cwV 3 hts gX5_fit_X5_apart rfl rfl rfl (by decide +kernel) ⟨Nat.le_of_ble_eq_true rfl, Nat.le_of_ble_eq_true rfl⟩) (rcv_M a k M L) rfl hl.1 rfl (Nat.le_of_ble_eq_true rfl) dX5_fit_103 ⟨Nat.zero_le _, Nat.zero_le _⟩) hP hD hS hA (fr_M_M a k M L M L) (fun H locs hP hD hS => ?_)
    refine W.lcmp hx hb dX5_fit_106 ?_
    refine lv_if_ge (tgt := 115) hx hb dX5_fit_107 (by decide) (fun c5 => ?_) (fun c5 => ?_)
    · have h := it_t c5 h
      refine lv_iload_n hx hb dX5_fit_115 rfl (lv_at hl 0 rfl) ?_
      exact lb116 ko57 hko57 x4 s0 M L H locs hP hD hS ls (lv_sub hl [1, 2, 3, 4] rfl) h
    · have h := it_f c5 h
      refine lv_iload hx hb dX5_fit_110 (lv_at hl 4 rfl) ?_
      refine lv_goto (tgt := 116) hx hb dX5_fit_112 (by decide) ?_
      exact lb116 ko57 hko57 x4 x4 M L H locs hP hD hS ls (lv_sub hl [1, 2, 3, 4] rfl) h
  have lb57 : ∀ (n : Nat), ∀ (x3 : Int32) (x4 : Int32) (M : Nat → Nat → Int32) (L : Int64), ∀ (H : Heap) (locs : List Loc), va_P D vwCl (xM a k M L) H → va_D A (xM a k M L) → va_S A s.heap H locs → ∀ ls : Array Slot, lv_has ls 5 [(0, .ref (a 0)), (1, .int p0), (2, .int p1), (3, .int x3), (4, .int x4)] → f_X5_fit_L57 p0 p1 n x3 x4 M L = some (r, Mz, Lz) → W p l e rm_X5_fit s m args below meth c H locs 0 0 Q (F0 m 57 ls []) := by
    intro n
    induction n with
    | zero =>
      intro x3 x4 M L H locs hP hD hS ls hl h
      rw [f_X5_fit_L57] at h
      cases h
    | succ n ih =>
      intro x3 x4 M L H locs hP hD hS ls hl h
      rw [f_X5_fit_L57] at h
      refine lv_iload hx hb dX5_fit_57 (lv_at hl 4 rfl) ?_
      refine lv_iconst (v := (5 : Int32)) hx hb dX5_fit_59 (by decide) ?_
      refine lv_icmp_gt (tgt := 123) hx hb dX5_fit_60 (by decide) (fun c6 => ?_) (fun c6 => ?_)
      · have h := it_t c6 h
        refine lv_aload_n hx hb dX5_fit_123 rfl (lv_at hl 0 rfl) ?_
        refine lv_aload_n hx hb dX5_fit_124 rfl (lv_at hl 0 rfl) ?_
        refine lv_iload_n hx hb dX5_fit_125 rfl (lv_at hl 1 rfl) ?_
        refine lv_iload_n hx hb dX5_fit_126 rfl (lv_at hl 2 rfl) ?_
        refine lv_iload_n hx hb dX5_fit_127 rfl (lv_at hl 3 rfl) ?_
        obtain ⟨r7, q7, h⟩ := b1_s h
        refine go_l (run_V (As := [.int p0, .int p1, .int x3]) (rest := [.ref (a 0)]) ⟨hx, hb, hml, hown, hts⟩ hnw hK hP hD (fr_M_M a k M L M L) (ks_M_M k) (c_X5_apart l D a k H.size M L p0 p1 x3 r7 q7) (cwV 3 hts gX5_fit_X5_apart rfl rfl rfl (by decide +kernel) ⟨Nat.le_of_ble_eq_true rfl, Nat.le_of_ble_eq_true rfl⟩) (rcv_M a k M L) rfl hl.1 rfl (Nat.le_of_ble_eq_true rfl) dX5_fit_128 ⟨Nat.zero_le _, Nat.zero_le _⟩) hP hD hS hA (fr_M_M a k M L M L) (fun H locs hP hD hS => ?_)
        refine lv_bipush (v := (100 : Int32)) hx hb dX5_fit_131 (by decide) ?_
        refine lv_iload_n hx hb dX5_fit_133 rfl (lv_at hl 3 rfl) ?_
        refine lv_iadd hx hb dX5_fit_134 ?_
        obtain ⟨r8, L_8, q8, h⟩ := b2_s h
        refine go_i (run_V (As := [.long r7, .int ((100 : Int32) + x3)]) (rest := []) ⟨hx, hb, hml, hown, hts⟩ hnw hK hP hD (fr_M_M a k M L M L_8) (ks_M_M k) (c_X5_tell l D a k H.size M L r7 ((100 : Int32) + x3) r8 L_8 q8) (cwV 2 hts gX5_fit_X5_tell rfl rfl rfl (by decide +kernel) ⟨Nat.le_of_ble_eq_true rfl, Nat.le_of_ble_eq_true rfl⟩) (rcv_M a k M L) rfl hl.1 rfl (Nat.le_of_ble_eq_true rfl) dX5_fit_135 ⟨Nat.zero_le _, Nat.zero_le _⟩) hP hD hS hA (fr_M_M a k M L M L_8) (fun H locs hP hD hS => ?_)
        have h := Option.some.inj h
        obtain ⟨hz0, h⟩ := Prod.mk.inj h
        obtain ⟨hz1, h⟩ := Prod.mk.inj h
        have hP : va_P D vwCl (xM a k Mz Lz) H := by rw [← hz1, ← h]; exact hP
        have hD : va_D A (xM a k Mz Lz) := by rw [← hz1, ← h]; exact hD
        subst hQ
        subst hAe
        exact r_i hx hb hr hlocks hz0 hP hD hS dX5_fit_138
      · have h := it_f c6 h
        refine lv_aload_n hx hb dX5_fit_63 rfl (lv_at hl 0 rfl) ?_
        refine lv_iload_n hx hb dX5_fit_64 rfl (lv_at hl 1 rfl) ?_
        refine lv_iload_n hx hb dX5_fit_65 rfl (lv_at hl 2 rfl) ?_
        refine lv_iload hx hb dX5_fit_66 (lv_at hl 4 rfl) ?_
        refine lv_ineg hx hb dX5_fit_68 ?_
        obtain ⟨r9, q9, h⟩ := b1_s h
        refine go_l (run_V (As := [.int p0, .int p1, .int (-x4)]) (rest := []) ⟨hx, hb, hml, hown, hts⟩ hnw hK hP hD (fr_M_M a k M L M L) (ks_M_M k) (c_X5_apart l D a k H.size M L p0 p1 (-x4) r9 q9) (cwV 3 hts gX5_fit_X5_apart rfl rfl rfl (by decide +kernel) ⟨Nat.le_of_ble_eq_true rfl, Nat.le_of_ble_eq_true rfl⟩) (rcv_M a k M L) rfl hl.1 rfl (Nat.le_of_ble_eq_true rfl) dX5_fit_69 ⟨Nat.zero_le _, Nat.zero_le _⟩) hP hD hS hA (fr_M_M a k M L M L) (fun H locs hP hD hS => ?_)
        refine lv_aload_n hx hb dX5_fit_72 rfl (lv_at hl 0 rfl) ?_
        refine lv_iload_n hx hb dX5_fit_73 rfl (lv_at hl 1 rfl) ?_
        refine lv_iload_n hx hb dX5_fit_74 rfl (lv_at hl 2 rfl) ?_
        refine lv_iload_n hx hb dX5_fit_75 rfl (lv_at hl 3 rfl) ?_
        obtain ⟨r10, q10, h⟩ := b1_s h
        refine go_l (run_V (As := [.int p0, .int p1, .int x3]) (rest := [.long r9]) ⟨hx, hb, hml, hown, hts⟩ hnw hK hP hD (fr_M_M a k M L M L) (ks_M_M k) (c_X5_apart l D a k H.size M L p0 p1 x3 r10 q10) (cwV 3 hts gX5_fit_X5_apart rfl rfl rfl (by decide +kernel) ⟨Nat.le_of_ble_eq_true rfl, Nat.le_of_ble_eq_true rfl⟩) (rcv_M a k M L) rfl hl.1 rfl (Nat.le_of_ble_eq_true rfl) dX5_fit_76 ⟨Nat.zero_le _, Nat.zero_le _⟩) hP hD hS hA (fr_M_M a k M L M L) (fun H locs hP hD hS => ?_)
        refine W.lcmp hx hb dX5_fit_79 ?_
        refine lv_if_ge (tgt := 89) hx hb dX5_fit_80 (by decide) (fun c11 => ?_) (fun c11 => ?_)
        · have h := it_t c11 h
          refine lv_iload_n hx hb dX5_fit_89 rfl (lv_at hl 3 rfl) ?_
          exact lb90 (f_X5_fit_L57 p0 p1 n) ih x4 x3 M L H locs hP hD hS ls (lv_sub hl [0, 1, 2, 4] rfl) h
        · have h := it_f c11 h
          refine lv_iload hx hb dX5_fit_83 (lv_at hl 4 rfl) ?_
          refine lv_ineg hx hb dX5_fit_85 ?_
          refine lv_goto (tgt := 90) hx hb dX5_fit_86 (by decide) ?_
          exact lb90 (f_X5_fit_L57 p0 p1 n) ih x4 (-x4) M L H locs hP hD hS ls (lv_sub hl [0, 1, 2, 4] rfl) h
  rw [f_X5_fit] at h
  obtain ⟨H, hH⟩ : ∃ H, H = s.heap := ⟨_, rfl⟩
  obtain ⟨locs, hlc⟩ : ∃ L : List Loc, L = [] := ⟨_, rfl⟩
  rw [← hH] at hP
  have hS : va_S A s.heap H locs := by rw [hH, hlc]; exact hS
  suffices hW9 : W p l e rm_X5_fit s m args below meth c H locs 0 0 Q (F0 m 0 ls []) by rw [hH, hlc] at hW9; exact hW9
  refine lv_iload_n hx hb dX5_fit_0 rfl (lv_at hl 1 rfl) ?_
  obtain ⟨r12, q12, h⟩ := b1_s h
  refine go_i (run_S (As := [.int p0]) (rest := []) ⟨hx, hb, hml, hown, hts⟩ hnw hK hP hD (fr_M_E a k M0 L0) (ks_M_E k) (c_X5_isNumber l D H.size p0 r12 q12) (cwS 1 hts gX5_fit_X5_isNumber rfl rfl rfl (by decide +kernel) ⟨Nat.le_of_ble_eq_true rfl, Nat.le_of_ble_eq_true rfl⟩) rfl hl.1 rfl (Nat.le_of_ble_eq_true rfl) dX5_fit_1 ⟨Nat.zero_le _, Nat.zero_le _⟩) hP hD hS hA (fr_M_E a k M0 L0) (fun H locs hP hD hS => ?_)
  refine lv_if_eq (tgt := 14) hx hb dX5_fit_4 (by decide) (fun c13 => ?_) (fun c13 => ?_)
  · have h := it_t c13 h
    refine lv_iconst (v := (-1 : Int32)) hx hb dX5_fit_14 (by decide) ?_
    have h := Option.some.inj h
    obtain ⟨hz0, h⟩ := Prod.mk.inj h
    obtain ⟨hz1, h⟩ := Prod.mk.inj h
    have hP : va_P D vwCl (xM a k Mz Lz) H := by rw [← hz1, ← h]; exact hP
    have hD : va_D A (xM a k Mz Lz) := by rw [← hz1, ← h]; exact hD
    subst hQ
    subst hAe
    exact r_i hx hb hr hlocks hz0 hP hD hS dX5_fit_15
  · have h := it_f c13 h
    refine lv_iload_n hx hb dX5_fit_7 rfl (lv_at hl 2 rfl) ?_
    obtain ⟨r14, q14, h⟩ := b1_s h
    refine go_i (run_S (As := [.int p1]) (rest := []) ⟨hx, hb, hml, hown, hts⟩ hnw hK hP hD (fr_M_E a k M0 L0) (ks_M_E k) (c_X5_isNumber l D H.size p1 r14 q14) (cwS 1 hts gX5_fit_X5_isNumber rfl rfl rfl (by decide +kernel) ⟨Nat.le_of_ble_eq_true rfl, Nat.le_of_ble_eq_true rfl⟩) rfl hl.1 rfl (Nat.le_of_ble_eq_true rfl) dX5_fit_8 ⟨Nat.zero_le _, Nat.zero_le _⟩) hP hD hS hA (fr_M_E a k M0 L0) (fun H locs hP hD hS => ?_)
    refine lv_if_ne (tgt := 16) hx hb dX5_fit_11 (by decide) (fun c15 => ?_) (fun c15 => ?_)
    · have h := it_f c15 h
      refine lv_aload_n hx hb dX5_fit_16 rfl (lv_at hl 0 rfl) ?_
      refine va_get (D := D) (ci := 5) (v := .int (M0 3 0)) (C := RX5) (T := TX5) (N := 20) hx hb hts hin5 hown hK hP 0 rfl rfl 3 (by decide) (hts (.fieldLink RX5 72 "BallastLineModel" "many" "I") (List.mem_of_getElem? (i := 1) rfl)) (fun _ h9 => h9) rfl dX5_fit_17 ?_
      refine lv_bipush (v := (11 : Int32)) hx hb dX5_fit_20 (by decide) ?_
      refine lv_icmp_ge (tgt := 28) hx hb dX5_fit_22 (by decide) (fun c16 => ?_) (fun c16 => ?_)
      · have h := it_t c16 h
        refine lv_aload_n hx hb dX5_fit_28 rfl (lv_at hl 0 rfl) ?_
        refine va_get (D := D) (ci := 5) (v := .ref (a 11)) (C := RX5) (T := TX5) (N := 20) hx hb hts hin5 hown hK hP 0 rfl rfl 14 (by decide) (hts (.fieldLink RX5 41 "BallastLineModel" "isRun" "[Z") (List.mem_of_getElem? (i := 2) rfl)) (fun _ h9 => h9) rfl dX5_fit_29 ?_
        refine lv_iload_n hx hb dX5_fit_32 rfl (lv_at hl 1 rfl) ?_
        obtain ⟨g17, h⟩ := gd_s h
        refine va_zald hx hb hK hP 11 10 rfl rfl (inb_in g17) dX5_fit_33 ?_
        refine lv_if_eq (tgt := 46) hx hb dX5_fit_34 (by decide) (fun c18 => ?_) (fun c18 => ?_)
        · have h := it_t c18 h
          exact lb46  M0 L0 H locs hP hD hS ls (lv_sub hl [0] rfl) h
        · have h := it_f c18 h
          refine lv_aload_n hx hb dX5_fit_37 rfl (lv_at hl 0 rfl) ?_
          refine va_get (D := D) (ci := 5) (v := .ref (a 11)) (C := RX5) (T := TX5) (N := 20) hx hb hts hin5 hown hK hP 0 rfl rfl 14 (by decide) (hts (.fieldLink RX5 41 "BallastLineModel" "isRun" "[Z") (List.mem_of_getElem? (i := 2) rfl)) (fun _ h9 => h9) rfl dX5_fit_38 ?_
          refine lv_iload_n hx hb dX5_fit_41 rfl (lv_at hl 2 rfl) ?_
          obtain ⟨g19, h⟩ := gd_s h
          refine va_zald hx hb hK hP 11 10 rfl rfl (inb_in g19) dX5_fit_42 ?_
          refine lv_if_ne (tgt := 52) hx hb dX5_fit_43 (by decide) (fun c20 => ?_) (fun c20 => ?_)
          · have h := it_f c20 h
            refine lv_iconst (v := (0 : Int32)) hx hb dX5_fit_52 (by decide) ?_
            refine lv_istore_n (lv' := [(3, .int (0 : Int32)), (0, .ref (a 0)), (1, .int p0), (2, .int p1)]) hx hb dX5_fit_53 rfl hl (by decide) rfl (fun ls hl => ?_)
            refine lv_iconst (v := (1 : Int32)) hx hb dX5_fit_54 (by decide) ?_
            refine lv_istore (lv' := [(4, .int (1 : Int32)), (3, .int (0 : Int32)), (0, .ref (a 0)), (1, .int p0), (2, .int p1)]) hx hb dX5_fit_55 hl (by decide) rfl (fun ls hl => ?_)
            exact lb57 64 (0 : Int32) (1 : Int32) M0 L0 H locs hP hD hS ls (lv_sub hl [2, 3, 4, 1, 0] rfl) h
          · have h := it_t c20 h
            exact lb46  M0 L0 H locs hP hD hS ls (lv_sub hl [0] rfl) h
      · have h := it_f c16 h
        refine lv_bipush (v := (-4 : Int32)) hx hb dX5_fit_25 (by decide) ?_
        have h := Option.some.inj h
        obtain ⟨hz0, h⟩ := Prod.mk.inj h
        obtain ⟨hz1, h⟩ := Prod.mk.inj h
        have hP : va_P D vwCl (xM a k Mz Lz) H := by rw [← hz1, ← h]; exact hP
        have hD : va_D A (xM a k Mz Lz) := by rw [← hz1, ← h]; exact hD
        subst hQ
        subst hAe
        exact r_i hx hb hr hlocks hz0 hP hD hS dX5_fit_27
    · have h := it_t c15 h
      refine lv_iconst (v := (-1 : Int32)) hx hb dX5_fit_14 (by decide) ?_
      have h := Option.some.inj h
      obtain ⟨hz0, h⟩ := Prod.mk.inj h
      obtain ⟨hz1, h⟩ := Prod.mk.inj h
      have hP : va_P D vwCl (xM a k Mz Lz) H := by rw [← hz1, ← h]; exact hP
      have hD : va_D A (xM a k Mz Lz) := by rw [← hz1, ← h]; exact hD
      subst hQ
      subst hAe
      exact r_i hx hb hr hlocks hz0 hP hD hS dX5_fit_15
def f_X5_worst_J111  (p0 : Int32) (ko22 : Int32 → Int64 → Int32 → (Nat → Nat → Int32) → Int64 → Option (Int32 × (Nat → Nat → Int32) × Int64)) (x3 : Int32) (x6 : Int32) (s0 : Int64) (M : Nat → Nat → Int32) (L : Int64) : Option (Int32 × (Nat → Nat → Int32) × Int64) := ltt (x6 + (1 : Int32)) (fun v1 => ko22 x3 s0 v1 M L)
def f_X5_worst_J95  (p0 : Int32) (ko22 : Int32 → Int64 → Int32 → (Nat → Nat → Int32) → Int64 → Option (Int32 × (Nat → Nat → Int32) × Int64)) (x4 : Int64) (x6 : Int32) (x7 : Int64) (s0 : Int32) (M : Nat → Nat → Int32) (L : Int64) : Option (Int32 × (Nat → Nat → Int32) × Int64) := if (lg_cmp x7 x4) ≤ (0 : Int32) then (f_X5_worst_J111 p0 ko22 s0 x6 x4 M L) else (f_X5_worst_J111 p0 ko22 s0 x6 x7 M L)
def f_X5_worst_J79  (p0 : Int32) (ko22 : Int32 → Int64 → Int32 → (Nat → Nat → Int32) → Int64 → Option (Int32 × (Nat → Nat → Int32) × Int64)) (x3 : Int32) (x4 : Int64) (x6 : Int32) (s0 : Int64) (M : Nat → Nat → Int32) (L : Int64) : Option (Int32 × (Nat → Nat → Int32) × Int64) := if (lg_cmp s0 x4) ≤ (0 : Int32) then (f_X5_worst_J95 p0 ko22 x4 x6 s0 x3 M L) else (f_X5_worst_J95 p0 ko22 x4 x6 s0 x6 M L)
def f_X5_worst_L22  (p0 : Int32)  : Nat → Int32 → Int64 → Int32 → (Nat → Nat → Int32) → Int64 → Option (Int32 × (Nat → Nat → Int32) × Int64)
  | 0, _, _, _, _, _ => none
  | n + 1, x3, x4, x6, M, L => if (M 3 0) ≤ (x6 + (1 : Int32)) then (b2 (f_X5_tell L x4 x3) (fun r5 (L_5 : Int64) => some (r5, M, L_5))) else (gd (inb (((40 : Int32) * p0) + x6) 240) (gd (inb ((((40 : Int32) * p0) + x6) + (1 : Int32)) 240) (ltt (((Int32.toInt64 (M 15 (Int32.toNatClampNeg (((40 : Int32) * p0) + x6)))) - (Int32.toInt64 (M 15 (Int32.toNatClampNeg ((((40 : Int32) * p0) + x6) + (1 : Int32))))))) (fun v8 => if (0 : Int32) ≤ (lg_cmp v8 (0 : Int64)) then (f_X5_worst_J79 p0 (f_X5_worst_L22 p0 n) x3 x4 x6 v8 M L) else (f_X5_worst_J79 p0 (f_X5_worst_L22 p0 n) x3 x4 x6 (-v8) M L)))))
def f_X5_worst (M0 : Nat → Nat → Int32) (L0 : Int64) (p0 : Int32) : Option (Int32 × (Nat → Nat → Int32) × Int64) := b2 (f_X5_askedFor M0 p0) (fun r10 (M_10 : Nat → Nat → Int32) => if (0 : Int32) ≤ r10 then (f_X5_worst_L22 p0 64 (0 : Int32) (-1 : Int64) (0 : Int32) M_10 L0) else (some (r10, M_10, L0)))
abbrev rm_X5_worst : Room := { frames := 3, cells := 0, slots := 0, locals := 63 }
set_option maxHeartbeats 4000000 in
set_option maxRecDepth 100000 in
theorem c_X5_worst (l : Launch) (D : va_G) (a : Nat → Nat) (k : Nat → ClassId) (sz : Nat) (M0 : Nat → Nat → Int32) (L0 : Int64) (p0 : Int32) (r : Int32) (Mz : (Nat → Nat → Int32)) (Lz : Int64) (h : f_X5_worst M0 L0 p0 = some (r, Mz, Lz)) : Met l yX5_worst wsX5_worst rm_X5_worst (mPc D [.ref (a 0), .int p0] (xM a k M0 L0) (tM k) sz) (mQi D (xM a k M0 L0) (xM a k Mz Lz) sz r) 0 0 (va_A (xM a k M0 L0) sz) := by
  refine mk_met (cc := cX5_worst) (maxL := 9) (ret := (some .int)) (by decide) rfl (Nat.le_of_ble_eq_true rfl) ?_
  intro p e s m below meth c hx hb hr hml hts hown hmn hlocks hnw hsz hK hP hD hS hA ls hl
  obtain ⟨A, hAe⟩ : ∃ A, A = va_A (xM a k M0 L0) sz := ⟨_, rfl⟩
  rw [← hAe] at hD hS hA
  generalize hargs : List.toArray ([.ref (a 0), .int p0] : List Value) = args at hts ⊢
  generalize hQ : MQ below (mQi D (xM a k M0 L0) (xM a k Mz Lz) sz r) args s 0 0 (va_A (xM a k M0 L0) sz) = Q
  have hl : lv_has ls 9 [(0, .ref (a 0)), (1, .int p0)] := hl
  have hin5 : ∀ w ∈ wsX50, w ∈ wsX5_worst := fun w h => List.mem_cons_of_mem _ (List.mem_append_right _ h)
  have lb111 : ∀ (ko22 : Int32 → Int64 → Int32 → (Nat → Nat → Int32) → Int64 → Option (Int32 × (Nat → Nat → Int32) × Int64)), (∀ (x3 : Int32) (x4 : Int64) (x6 : Int32) (M : Nat → Nat → Int32) (L : Int64), ∀ (H : Heap) (locs : List Loc), va_P D vwCl (xM a k M L) H → va_D A (xM a k M L) → va_S A s.heap H locs → ∀ ls : Array Slot, lv_has ls 9 [(0, .ref (a 0)), (1, .int p0), (3, .int x3), (4, .long x4), (6, .int x6)] → ko22 x3 x4 x6 M L = some (r, Mz, Lz) → W p l e rm_X5_worst s m args below meth c H locs 0 0 Q (F0 m 22 ls [])) → ∀ (x3 : Int32) (x6 : Int32) (s0 : Int64) (M : Nat → Nat → Int32) (L : Int64), ∀ (H : Heap) (locs : List Loc), va_P D vwCl (xM a k M L) H → va_D A (xM a k M L) → va_S A s.heap H locs → ∀ ls : Array Slot, lv_has ls 9 [(0, .ref (a 0)), (1, .int p0), (3, .int x3), (6, .int x6)] → f_X5_worst_J111 p0 ko22 x3 x6 s0 M L = some (r, Mz, Lz) → W p l e rm_X5_worst s m args below meth c H locs 0 0 Q (F0 m 111 ls [.long s0]) := by
    intro ko22 hko22 x3 x6 s0 M L H locs hP hD hS ls hl h
    rw [f_X5_worst_J111] at h
    refine lv_lstore (lv' := [(4, .long s0), (0, .ref (a 0)), (1, .int p0), (3, .int x3), (6, .int x6)]) hx hb dX5_worst_111 hl (by decide) rfl (fun ls hl => ?_)
    obtain ⟨v1, ev1⟩ : ∃ y : Int32, y = x6 + (1 : Int32) := ⟨_, rfl⟩
    have h := ltt_s ev1 h
    refine lv_iinc (v := v1) (lv' := [(6, .int v1), (4, .long s0), (0, .ref (a 0)), (1, .int p0), (3, .int x3)]) hx hb dX5_worst_113 hl (k := 4) rfl (by rw [ev1]; rfl) (by decide) rfl (fun ls hl => ?_)
    refine lv_goto (tgt := 22) hx hb dX5_worst_116 (by decide) ?_
    exact hko22 x3 s0 v1 M L H locs hP hD hS ls (lv_sub hl [2, 3, 4, 1, 0] rfl) h
  have lb95 : ∀ (ko22 : Int32 → Int64 → Int32 → (Nat → Nat → Int32) → Int64 → Option (Int32 × (Nat → Nat → Int32) × Int64)), (∀ (x3 : Int32) (x4 : Int64) (x6 : Int32) (M : Nat → Nat → Int32) (L : Int64), ∀ (H : Heap) (locs : List Loc), va_P D vwCl (xM a k M L) H → va_D A (xM a k M L) → va_S A s.heap H locs → ∀ ls : Array Slot, lv_has ls 9 [(0, .ref (a 0)), (1, .int p0), (3, .int x3), (4, .long x4), (6, .int x6)] → ko22 x3 x4 x6 M L = some (r, Mz, Lz) → W p l e rm_X5_worst s m args below meth c H locs 0 0 Q (F0 m 22 ls [])) → ∀ (x4 : Int64) (x6 : Int32) (x7 : Int64) (s0 : Int32) (M : Nat → Nat → Int32) (L : Int64), ∀ (H : Heap) (locs : List Loc), va_P D vwCl (xM a k M L) H → va_D A (xM a k M L) → va_S A s.heap H locs → ∀ ls : Array Slot, lv_has ls 9 [(0, .ref (a 0)), (1, .int p0), (4, .long x4), (6, .int x6), (7, .long x7)] → f_X5_worst_J95 p0 ko22 x4 x6 x7 s0 M L = some (r, Mz, Lz) → W p l e rm_X5_worst s m args below meth c H locs 0 0 Q (F0 m 95 ls [.int s0]) := by
    intro ko22 hko22 x4 x6 x7 s0 M L H locs hP hD hS ls hl h
    rw [f_X5_worst_J95] at h
    refine lv_istore_n (lv' := [(3, .int s0), (0, .ref (a 0)), (1, .int p0), (4, .long x4), (6, .int x6), (7, .long x7)]) hx hb dX5_worst_95 rfl hl (by decide) rfl (fun ls hl => ?_)
    refine lv_lload hx hb dX5_worst_96 (lv_at hl 5 rfl) ?_
    refine lv_lload hx hb dX5_worst_98 (lv_at hl 3 rfl) ?_
    refine W.lcmp hx hb dX5_worst_100 ?_
    refine lv_if_le (tgt := 109) hx hb dX5_worst_101 (by decide) (fun c2 => ?_) (fun c2 => ?_)
    · have h := it_t c2 h
      refine lv_lload hx hb dX5_worst_109 (lv_at hl 3 rfl) ?_
      exact lb111 ko22 hko22 s0 x6 x4 M L H locs hP hD hS ls (lv_sub hl [1, 2, 0, 4] rfl) h
    · have h := it_f c2 h
      refine lv_lload hx hb dX5_worst_104 (lv_at hl 5 rfl) ?_
      refine lv_goto (tgt := 111) hx hb dX5_worst_106 (by decide) ?_
      exact lb111 ko22 hko22 s0 x6 x7 M L H locs hP hD hS ls (lv_sub hl [1, 2, 0, 4] rfl) h
  have lb79 : ∀ (ko22 : Int32 → Int64 → Int32 → (Nat → Nat → Int32) → Int64 → Option (Int32 × (Nat → Nat → Int32) × Int64)), (∀ (x3 : Int32) (x4 : Int64) (x6 : Int32) (M : Nat → Nat → Int32) (L : Int64), ∀ (H : Heap) (locs : List Loc), va_P D vwCl (xM a k M L) H → va_D A (xM a k M L) → va_S A s.heap H locs → ∀ ls : Array Slot, lv_has ls 9 [(0, .ref (a 0)), (1, .int p0), (3, .int x3), (4, .long x4), (6, .int x6)] → ko22 x3 x4 x6 M L = some (r, Mz, Lz) → W p l e rm_X5_worst s m args below meth c H locs 0 0 Q (F0 m 22 ls [])) → ∀ (x3 : Int32) (x4 : Int64) (x6 : Int32) (s0 : Int64) (M : Nat → Nat → Int32) (L : Int64), ∀ (H : Heap) (locs : List Loc), va_P D vwCl (xM a k M L) H → va_D A (xM a k M L) → va_S A s.heap H locs → ∀ ls : Array Slot, lv_has ls 9 [(0, .ref (a 0)), (1, .int p0), (3, .int x3), (4, .long x4), (6, .int x6)] → f_X5_worst_J79 p0 ko22 x3 x4 x6 s0 M L = some (r, Mz, Lz) → W p l e rm_X5_worst s m args below meth c H locs 0 0 Q (F0 m 79 ls [.long s0]) := by
    intro ko22 hko22 x3 x4 x6 s0 M L H locs hP hD hS ls hl h
    rw [f_X5_worst_J79] at h
    refine lv_lstore (lv' := [(7, .long s0), (0, .ref (a 0)), (1, .int p0), (3, .int x3), (4, .long x4), (6, .int x6)]) hx hb dX5_worst_79 hl (by decide) rfl (fun ls hl => ?_)
    refine lv_lload hx hb dX5_worst_81 (lv_at hl 0 rfl) ?_
    refine lv_lload hx hb dX5_worst_83 (lv_at hl 4 rfl) ?_
    refine W.lcmp hx hb dX5_worst_85 ?_
    refine lv_if_le (tgt := 94) hx hb dX5_worst_86 (by decide) (fun c3 => ?_) (fun c3 => ?_)
    · have h := it_t c3 h
      refine lv_iload_n hx hb dX5_worst_94 rfl (lv_at hl 3 rfl) ?_
      exact lb95 ko22 hko22 x4 x6 s0 x3 M L H locs hP hD hS ls (lv_sub hl [1, 2, 4, 5, 0] rfl) h
    · have h := it_f c3 h
      refine lv_iload hx hb dX5_worst_89 (lv_at hl 5 rfl) ?_
      refine lv_goto (tgt := 95) hx hb dX5_worst_91 (by decide) ?_
      exact lb95 ko22 hko22 x4 x6 s0 x6 M L H locs hP hD hS ls (lv_sub hl [1, 2, 4, 5, 0] rfl) h
  have lb22 : ∀ (n : Nat), ∀ (x3 : Int32) (x4 : Int64) (x6 : Int32) (M : Nat → Nat → Int32) (L : Int64), ∀ (H : Heap) (locs : List Loc), va_P D vwCl (xM a k M L) H → va_D A (xM a k M L) → va_S A s.heap H locs → ∀ ls : Array Slot, lv_has ls 9 [(0, .ref (a 0)), (1, .int p0), (3, .int x3), (4, .long x4), (6, .int x6)] → f_X5_worst_L22 p0 n x3 x4 x6 M L = some (r, Mz, Lz) → W p l e rm_X5_worst s m args below meth c H locs 0 0 Q (F0 m 22 ls []) := by
    intro n
    induction n with
    | zero =>
      intro x3 x4 x6 M L H locs hP hD hS ls hl h
      rw [f_X5_worst_L22] at h
      cases h
    | succ n ih =>
      intro x3 x4 x6 M L H locs hP hD hS ls hl h
      rw [f_X5_worst_L22] at h
      refine lv_iload hx hb dX5_worst_22 (lv_at hl 4 rfl) ?_
      refine lv_iconst (v := (1 : Int32)) hx hb dX5_worst_24 (by decide) ?_
      refine lv_iadd hx hb dX5_worst_25 ?_
      refine lv_aload_n hx hb dX5_worst_26 rfl (lv_at hl 0 rfl) ?_
      refine va_get (D := D) (ci := 5) (v := .int (M 3 0)) (C := RX5) (T := TX5) (N := 20) hx hb hts hin5 hown hK hP 0 rfl rfl 3 (by decide) (hts (.fieldLink RX5 72 "BallastLineModel" "many" "I") (List.mem_of_getElem? (i := 2) rfl)) (fun _ h9 => h9) rfl dX5_worst_27 ?_
      refine lv_icmp_ge (tgt := 119) hx hb dX5_worst_30 (by decide) (fun c4 => ?_) (fun c4 => ?_)
      · have h := it_t c4 h
        refine lv_aload_n hx hb dX5_worst_119 rfl (lv_at hl 0 rfl) ?_
        refine lv_lload hx hb dX5_worst_120 (lv_at hl 3 rfl) ?_
        refine lv_iload_n hx hb dX5_worst_122 rfl (lv_at hl 2 rfl) ?_
        obtain ⟨r5, L_5, q5, h⟩ := b2_s h
        refine go_i (run_V (As := [.long x4, .int x3]) (rest := []) ⟨hx, hb, hml, hown, hts⟩ hnw hK hP hD (fr_M_M a k M L M L_5) (ks_M_M k) (c_X5_tell l D a k H.size M L x4 x3 r5 L_5 q5) (cwV 2 hts gX5_worst_X5_tell rfl rfl rfl (by decide +kernel) ⟨Nat.le_of_ble_eq_true rfl, Nat.le_of_ble_eq_true rfl⟩) (rcv_M a k M L) rfl hl.1 rfl (Nat.le_of_ble_eq_true rfl) dX5_worst_123 ⟨Nat.zero_le _, Nat.zero_le _⟩) hP hD hS hA (fr_M_M a k M L M L_5) (fun H locs hP hD hS => ?_)
        have h := Option.some.inj h
        obtain ⟨hz0, h⟩ := Prod.mk.inj h
        obtain ⟨hz1, h⟩ := Prod.mk.inj h
        have hP : va_P D vwCl (xM a k Mz Lz) H := by rw [← hz1, ← h]; exact hP
        have hD : va_D A (xM a k Mz Lz) := by rw [← hz1, ← h]; exact hD
        subst hQ
        subst hAe
        exact r_i hx hb hr hlocks hz0 hP hD hS dX5_worst_126
      · have h := it_f c4 h
        refine lv_aload_n hx hb dX5_worst_33 rfl (lv_at hl 0 rfl) ?_
        refine va_get (D := D) (ci := 5) (v := .ref (a 12)) (C := RX5) (T := TX5) (N := 20) hx hb hts hin5 hown hK hP 0 rfl rfl 15 (by decide) (hts (.fieldLink RX5 44 "BallastLineModel" "runs" "[I") (List.mem_of_getElem? (i := 3) rfl)) (fun _ h9 => h9) rfl dX5_worst_34 ?_
        refine lv_bipush (v := (40 : Int32)) hx hb dX5_worst_37 (by decide) ?_
        refine lv_iload_n hx hb dX5_worst_39 rfl (lv_at hl 1 rfl) ?_
        refine lv_imul hx hb dX5_worst_40 ?_
        refine lv_iload hx hb dX5_worst_41 (lv_at hl 4 rfl) ?_
        refine lv_iadd hx hb dX5_worst_43 ?_
        obtain ⟨g6, h⟩ := gd_s h
        refine va_iald hx hb hK hP 12 11 rfl rfl (inb_in g6) dX5_worst_44 ?_
        refine lv_i2l (v := (Int32.toInt64 (M 15 (Int32.toNatClampNeg (((40 : Int32) * p0) + x6))))) hx hb dX5_worst_45 rfl ?_
        refine lv_aload_n hx hb dX5_worst_46 rfl (lv_at hl 0 rfl) ?_
        refine va_get (D := D) (ci := 5) (v := .ref (a 12)) (C := RX5) (T := TX5) (N := 20) hx hb hts hin5 hown hK hP 0 rfl rfl 15 (by decide) (hts (.fieldLink RX5 44 "BallastLineModel" "runs" "[I") (List.mem_of_getElem? (i := 3) rfl)) (fun _ h9 => h9) rfl dX5_worst_47 ?_
        refine lv_bipush (v := (40 : Int32)) hx hb dX5_worst_50 (by decide) ?_
        refine lv_iload_n hx hb dX5_worst_52 rfl (lv_at hl 1 rfl) ?_
        refine lv_imul hx hb dX5_worst_53 ?_
        refine lv_iload hx hb dX5_worst_54 (lv_at hl 4 rfl) ?_
        refine lv_iadd hx hb dX5_worst_56 ?_
        refine lv_iconst (v := (1 : Int32)) hx hb dX5_worst_57 (by decide) ?_
        refine lv_iadd hx hb dX5_worst_58 ?_
        obtain ⟨g7, h⟩ := gd_s h
        refine va_iald hx hb hK hP 12 11 rfl rfl (inb_in g7) dX5_worst_59 ?_
        refine lv_i2l (v := (Int32.toInt64 (M 15 (Int32.toNatClampNeg ((((40 : Int32) * p0) + x6) + (1 : Int32)))))) hx hb dX5_worst_60 rfl ?_
        refine lv_lsub hx hb dX5_worst_61 ?_
        refine lv_topl (fun v8 ev8 => ?_)
        have h := ltt_s ev8 h
        refine lv_lstore (lv' := [(7, .long v8), (0, .ref (a 0)), (1, .int p0), (3, .int x3), (4, .long x4), (6, .int x6)]) hx hb dX5_worst_62 hl (by decide) rfl (fun ls hl => ?_)
        refine lv_lload hx hb dX5_worst_64 (lv_at hl 0 rfl) ?_
        refine lv_lconst (v := (0 : Int64)) hx hb dX5_worst_66 (by decide) ?_
        refine W.lcmp hx hb dX5_worst_67 ?_
        refine lv_if_ge (tgt := 77) hx hb dX5_worst_68 (by decide) (fun c9 => ?_) (fun c9 => ?_)
        · have h := it_t c9 h
          refine lv_lload hx hb dX5_worst_77 (lv_at hl 0 rfl) ?_
          exact lb79 (f_X5_worst_L22 p0 n) ih x3 x4 x6 v8 M L H locs hP hD hS ls (lv_sub hl [1, 2, 3, 4, 5] rfl) h
        · have h := it_f c9 h
          refine lv_lload hx hb dX5_worst_71 (lv_at hl 0 rfl) ?_
          refine lv_lneg hx hb dX5_worst_73 ?_
          refine lv_goto (tgt := 79) hx hb dX5_worst_74 (by decide) ?_
          exact lb79 (f_X5_worst_L22 p0 n) ih x3 x4 x6 (-v8) M L H locs hP hD hS ls (lv_sub hl [1, 2, 3, 4, 5] rfl) h
  rw [f_X5_worst] at h
  obtain ⟨H, hH⟩ : ∃ H, H = s.heap := ⟨_, rfl⟩
  obtain ⟨locs, hlc⟩ : ∃ L : List Loc, L = [] := ⟨_, rfl⟩
  rw [← hH] at hP
  have hS : va_S A s.heap H locs := by rw [hH, hlc]; exact hS
  suffices hW9 : W p l e rm_X5_worst s m args below meth c H locs 0 0 Q (F0 m 0 ls []) by rw [hH, hlc] at hW9; exact hW9
  refine lv_aload_n hx hb dX5_worst_0 rfl (lv_at hl 0 rfl) ?_
  refine lv_iload_n hx hb dX5_worst_1 rfl (lv_at hl 1 rfl) ?_
  obtain ⟨r10, M_10, q10, h⟩ := b2_s h
  refine go_i (run_V (As := [.int p0]) (rest := []) ⟨hx, hb, hml, hown, hts⟩ hnw hK hP hD (fr_M_M a k M0 L0 M_10 L0) (ks_M_M k) (c_X5_askedFor l D a k H.size M0 L0 p0 r10 M_10 q10) (cwV 1 hts gX5_worst_X5_askedFor rfl rfl rfl (by decide +kernel) ⟨Nat.le_of_ble_eq_true rfl, Nat.le_of_ble_eq_true rfl⟩) (rcv_M a k M0 L0) rfl hl.1 rfl (Nat.le_of_ble_eq_true rfl) dX5_worst_2 ⟨Nat.zero_le _, Nat.zero_le _⟩) hP hD hS hA (fr_M_M a k M0 L0 M_10 L0) (fun H locs hP hD hS => ?_)
  refine lv_istore_n (lv' := [(2, .int r10), (0, .ref (a 0)), (1, .int p0)]) hx hb dX5_worst_5 rfl hl (by decide) rfl (fun ls hl => ?_)
  refine lv_iload_n hx hb dX5_worst_6 rfl (lv_at hl 0 rfl) ?_
  refine lv_if_ge (tgt := 12) hx hb dX5_worst_7 (by decide) (fun c11 => ?_) (fun c11 => ?_)
  · have h := it_t c11 h
    refine lv_iconst (v := (0 : Int32)) hx hb dX5_worst_12 (by decide) ?_
    refine lv_istore_n (lv' := [(3, .int (0 : Int32)), (2, .int r10), (0, .ref (a 0)), (1, .int p0)]) hx hb dX5_worst_13 rfl hl (by decide) rfl (fun ls hl => ?_)
    refine lv_ldc2 (v := (-1 : Int64)) hx hb hown (hts (.constantLong RX5 128 (-1)) (List.mem_of_getElem? (i := 1) rfl)) dX5_worst_14 ?_
    refine lv_lstore (lv' := [(4, .long (-1 : Int64)), (3, .int (0 : Int32)), (2, .int r10), (0, .ref (a 0)), (1, .int p0)]) hx hb dX5_worst_17 hl (by decide) rfl (fun ls hl => ?_)
    refine lv_iconst (v := (0 : Int32)) hx hb dX5_worst_19 (by decide) ?_
    refine lv_istore (lv' := [(6, .int (0 : Int32)), (4, .long (-1 : Int64)), (3, .int (0 : Int32)), (2, .int r10), (0, .ref (a 0)), (1, .int p0)]) hx hb dX5_worst_20 hl (by decide) rfl (fun ls hl => ?_)
    exact lb22 64 (0 : Int32) (-1 : Int64) (0 : Int32) M_10 L0 H locs hP hD hS ls (lv_sub hl [4, 5, 2, 1, 0] rfl) h
  · have h := it_f c11 h
    refine lv_iload_n hx hb dX5_worst_10 rfl (lv_at hl 0 rfl) ?_
    have h := Option.some.inj h
    obtain ⟨hz0, h⟩ := Prod.mk.inj h
    obtain ⟨hz1, h⟩ := Prod.mk.inj h
    have hP : va_P D vwCl (xM a k Mz Lz) H := by rw [← hz1, ← h]; exact hP
    have hD : va_D A (xM a k Mz Lz) := by rw [← hz1, ← h]; exact hD
    subst hQ
    subst hAe
    exact r_i hx hb hr hlocks hz0 hP hD hS dX5_worst_11
