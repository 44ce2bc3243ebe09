def f_X2_settle_J96 (R0 : Nat → Nat → Int32) (p1 : Int32) (p2 : Int32) (p3 : Int32) (p4 : Int32)  (x8 : Int32) (T : Nat → Nat → Int32) : Option (Int32 × (Nat → Nat → Int32)) := b2 (f_X1_sink T p1 x8) (fun r1 (T_1 : Nat → Nat → Int32) => some (r1, T_1))
def f_X2_settle (R0 : Nat → Nat → Int32) (T0 : Nat → Nat → Int32) (p1 : Int32) (p2 : Int32) (p3 : Int32) (p4 : Int32) : Option (Int32 × (Nat → Nat → Int32)) := if p3 = (0 : Int32) then (some ((0 : Int32), T0)) else (b1 (f_X1_has T0 p1) (fun r3 => if r3 = (0 : Int32) then (some ((0 : Int32), T0)) else (b1 (f_X4_cutShare (p2 * p3) p4) (fun r5 => gd (inb p1 40) (b1 (f_X4_cutShare r5 (T0 2 (Int32.toNatClampNeg p1))) (fun r7 => ltt ((if (15 : Int32) < r7 then (15 : Int32) else r7)) (fun v8 => gd (inb v8 16) (ltt ((if (0 : Int32) < (R0 1 (Int32.toNatClampNeg v8)) then (R0 1 (Int32.toNatClampNeg v8)) else (0 : Int32))) (fun v10 => b1 (f_X1_isOf T0 p1 (1 : Int32)) (fun r11 => if r11 = (0 : Int32) then (b1 (f_X1_isOf T0 p1 (2 : Int32)) (fun r13 => if r13 = (0 : Int32) then (f_X2_settle_J96 R0 p1 p2 p3 p4 v10 T0) else (gd (nz32 (4 : Int32)) (ltt ((v10 + (v10 / (4 : Int32)))) (fun v16 => f_X2_settle_J96 R0 p1 p2 p3 p4 v16 T0))))) else (gd (nz32 (4 : Int32)) (ltt ((v10 - (v10 / (4 : Int32)))) (fun v18 => f_X2_settle_J96 R0 p1 p2 p3 p4 v18 T0)))))))))))))
abbrev rm_X2_settle : Room := { frames := 4, cells := 0, slots := 0, locals := 91 }
set_option maxHeartbeats 4000000 in
set_option maxRecDepth 100000 in
theorem c_X2_settle (l : Launch) (D : va_G) (a : Nat → Nat) (k : Nat → ClassId) (sz : Nat) (R0 : Nat → Nat → Int32) (T0 : Nat → Nat → Int32) (p1 : Int32) (p2 : Int32) (p3 : Int32) (p4 : Int32) (r : Int32) (Tz : (Nat → Nat → Int32)) (h : f_X2_settle R0 T0 p1 p2 p3 p4 = some (r, Tz)) : Met l yX2_settle wsX2_settle rm_X2_settle (mPc D [.ref (a 8), .ref (a 0), .int p1, .int p2, .int p3, .int p4] (xR a k R0 T0) (tR k) sz) (mQi D (xR a k R0 T0) (xR a k R0 Tz) sz r) 0 0 (va_A (xR a k R0 T0) sz) := by
  refine mk_met (cc := cX2_settle) (maxL := 9) (ret := (some .int)) (by decide) rfl (Nat.le_of_ble_eq_true rfl) ?_
  intro p e s m below meth c hx hb hr hml hts hown hmn hlocks hnw hsz hK hP hD hS hA ls hl
  obtain ⟨A, hAe⟩ : ∃ A, A = va_A (xR a k R0 T0) sz := ⟨_, rfl⟩
  rw [← hAe] at hD hS hA
  generalize hargs : List.toArray ([.ref (a 8), .ref (a 0), .int p1, .int p2, .int p3, .int p4] : List Value) = args at hts ⊢
  generalize hQ : MQ below (mQi D (xR a k R0 T0) (xR a k R0 Tz) sz r) args s 0 0 (va_A (xR a k R0 T0) sz) = Q
  have hl : lv_has ls 9 [(0, .ref (a 8)), (1, .ref (a 0)), (2, .int p1), (3, .int p2), (4, .int p3), (5, .int p4)] := hl
  have hin1 : ∀ w ∈ wsX10, w ∈ wsX2_settle := fun w h => List.mem_cons_of_mem _ (List.mem_append_left _ (List.mem_append_right _ h))
  have hin2 : ∀ w ∈ wsX20, w ∈ wsX2_settle := fun w h => List.mem_cons_of_mem _ (List.mem_append_right _ h)
  have lb96 : ∀ (x8 : Int32) (T : Nat → Nat → Int32), ∀ (H : Heap) (locs : List Loc), va_P D vwCl (xR a k R0 T) H → va_D A (xR a k R0 T) → va_S A s.heap H locs → ∀ ls : Array Slot, lv_has ls 9 [(1, .ref (a 0)), (2, .int p1), (8, .int x8)] → f_X2_settle_J96 R0 p1 p2 p3 p4 x8 T = some (r, Tz) → W p l e rm_X2_settle s m args below meth c H locs 0 0 Q (F0 m 96 ls []) := by
    intro  x8 T H locs hP hD hS ls hl h
    rw [f_X2_settle_J96] at h
    refine lv_aload_n hx hb dX2_settle_96 rfl (lv_at hl 0 rfl) ?_
    refine lv_iload_n hx hb dX2_settle_97 rfl (lv_at hl 1 rfl) ?_
    refine lv_iload hx hb dX2_settle_98 (lv_at hl 2 rfl) ?_
    obtain ⟨r1, T_1, q1, h⟩ := b2_s h
    refine go_i (run_VN (As := [.int p1, .int x8]) (rest := []) ⟨hx, hb, hml, hown, hts⟩ hnw hK hP hD (fr_R_T a k R0 T T_1) (ks_R_T k) (c_X1_sink l D a k H.size T p1 x8 r1 T_1 q1) ⟨va_cnB 2 hts ggX2_settle_X1_sink rfl rfl rfl (hnw.2 (RX2, 68, yX1_sink, RX4) (List.mem_of_getElem? (i := 17) rfl)) (hts (.initialized RX1) (List.mem_of_getElem? (i := 10) rfl)) (by decide +kernel) ⟨Nat.le_of_ble_eq_true rfl, Nat.le_of_ble_eq_true rfl⟩, (hts (.instanceMethod yX1_sink) (List.mem_of_getElem? (i := 21) rfl)), (hts (.selects RX1 yX1_sink yX1_sink) (List.mem_of_getElem? (i := 22) rfl))⟩ (rcv_T a k T) rfl hl.1 rfl (Nat.le_of_ble_eq_true rfl) dX2_settle_100 ⟨Nat.zero_le _, Nat.zero_le _⟩) hP hD hS hA (fr_R_T a k R0 T T_1) (fun H locs hP hD hS => ?_)
    have h := Option.some.inj h
    obtain ⟨hz0, h⟩ := Prod.mk.inj h
    have hP : va_P D vwCl (xR a k R0 Tz) H := by rw [← h]; exact hP
    have hD : va_D A (xR a k R0 Tz) := by rw [← h]; exact hD
    subst hQ
    subst hAe
    exact r_i hx hb hr hlocks hz0 hP hD hS dX2_settle_103
  rw [f_X2_settle] at h
  obtain ⟨H, hH⟩ : ∃ H, H = s.heap := ⟨_, rfl⟩
  obtain ⟨locs, hlc⟩ : ∃ L : List Loc, L = [] := ⟨_, rfl⟩
  rw [← hH] at hP
  have hS : va_S A s.heap H locs := by rw [hH, hlc]; exact hS
  suffices hW9 : W p l e rm_X2_settle s m args below meth c H locs 0 0 Q (F0 m 0 ls []) by rw [hH, hlc] at hW9; exact hW9
  refine lv_iload hx hb dX2_settle_0 (lv_at hl 4 rfl) ?_
  refine lv_if_eq (tgt := 13) hx hb dX2_settle_2 (by decide) (fun c2 => ?_) (fun c2 => ?_)
  · have h := it_t c2 h
    refine lv_iconst (v := (0 : Int32)) hx hb dX2_settle_13 (by decide) ?_
    have h := Option.some.inj h
    obtain ⟨hz0, h⟩ := Prod.mk.inj h
    have hP : va_P D vwCl (xR a k R0 Tz) H := by rw [← h]; exact hP
    have hD : va_D A (xR a k R0 Tz) := by rw [← h]; exact hD
    subst hQ
    subst hAe
    exact r_i hx hb hr hlocks hz0 hP hD hS dX2_settle_14
  · have h := it_f c2 h
    refine lv_aload_n hx hb dX2_settle_5 rfl (lv_at hl 1 rfl) ?_
    refine lv_iload_n hx hb dX2_settle_6 rfl (lv_at hl 2 rfl) ?_
    obtain ⟨r3, q3, h⟩ := b1_s h
    refine go_i (run_VN (As := [.int p1]) (rest := []) ⟨hx, hb, hml, hown, hts⟩ hnw hK hP hD (fr_R_T a k R0 T0 T0) (ks_R_T k) (c_X1_has l D a k H.size T0 p1 r3 q3) ⟨va_cnB 1 hts ggX2_settle_X1_has rfl rfl rfl (hnw.2 (RX2, 46, yX1_has, RX4) (List.mem_of_getElem? (i := 14) rfl)) (hts (.initialized RX1) (List.mem_of_getElem? (i := 10) rfl)) (by decide +kernel) ⟨Nat.le_of_ble_eq_true rfl, Nat.le_of_ble_eq_true rfl⟩, (hts (.instanceMethod yX1_has) (List.mem_of_getElem? (i := 9) rfl)), (hts (.selects RX1 yX1_has yX1_has) (List.mem_of_getElem? (i := 11) rfl))⟩ (rcv_T a k T0) rfl hl.1 rfl (Nat.le_of_ble_eq_true rfl) dX2_settle_7 ⟨Nat.zero_le _, Nat.zero_le _⟩) hP hD hS hA (fr_R_T a k R0 T0 T0) (fun H locs hP hD hS => ?_)
    refine lv_if_ne (tgt := 15) hx hb dX2_settle_10 (by decide) (fun c4 => ?_) (fun c4 => ?_)
    · have h := it_f c4 h
      refine lv_iload_n hx hb dX2_settle_15 rfl (lv_at hl 3 rfl) ?_
      refine lv_iload hx hb dX2_settle_16 (lv_at hl 4 rfl) ?_
      refine lv_imul hx hb dX2_settle_18 ?_
      refine lv_iload hx hb dX2_settle_19 (lv_at hl 5 rfl) ?_
      obtain ⟨r5, q5, h⟩ := b1_s h
      refine go_i (run_SN (As := [.int (p2 * p3), .int p4]) (rest := []) ⟨hx, hb, hml, hown, hts⟩ hnw hK hP hD (fr_R_E a k R0 T0) (ks_R_E k) (c_X4_cutShare l D H.size (p2 * p3) p4 r5 q5) ⟨va_cnB 2 hts ggX2_settle_X4_cutShare rfl rfl rfl (hnw.2 (RX2, 49, yX4_cutShare, RX4) (List.mem_of_getElem? (i := 15) rfl)) (hts (.initialized RX4) (List.mem_of_getElem? (i := 15) rfl)) (by decide +kernel) ⟨Nat.le_of_ble_eq_true rfl, Nat.le_of_ble_eq_true rfl⟩, (hts (.static yX4_cutShare) (List.mem_of_getElem? (i := 14) rfl)), trivial⟩ rfl hl.1 rfl (Nat.le_of_ble_eq_true rfl) dX2_settle_21 ⟨Nat.zero_le _, Nat.zero_le _⟩) hP hD hS hA (fr_R_E a k R0 T0) (fun H locs hP hD hS => ?_)
      refine lv_istore (lv' := [(6, .int r5), (0, .ref (a 8)), (1, .ref (a 0)), (2, .int p1), (3, .int p2), (4, .int p3), (5, .int p4)]) hx hb dX2_settle_24 hl (by decide) rfl (fun ls hl => ?_)
      refine lv_iload hx hb dX2_settle_26 (lv_at hl 0 rfl) ?_
      refine lv_aload_n hx hb dX2_settle_28 rfl (lv_at hl 2 rfl) ?_
      refine va_getN (host := RX4) (D := D) (ci := 1) (v := .ref (a 3)) (C := RX1) (T := TX1) (N := 8) hx hb hts hin1 hown hK hP 3 rfl rfl 2 (by decide) (va_Nw.use rfl (hnw.1 (RX2, 53, "BallastLine$Track", "firmness", "[I", RX4) (List.mem_of_getElem? (i := 2) rfl))) (fun _ h9 => h9) rfl dX2_settle_29 ?_
      refine lv_iload_n hx hb dX2_settle_32 rfl (lv_at hl 3 rfl) ?_
      obtain ⟨g6, h⟩ := gd_s h
      refine va_iald hx hb hK hP 6 4 rfl rfl (inb_in g6) dX2_settle_33 ?_
      obtain ⟨r7, q7, h⟩ := b1_s h
      refine go_i (run_SN (As := [.int r5, .int (T0 2 (Int32.toNatClampNeg p1))]) (rest := []) ⟨hx, hb, hml, hown, hts⟩ hnw hK hP hD (fr_R_E a k R0 T0) (ks_R_E k) (c_X4_cutShare l D H.size r5 (T0 2 (Int32.toNatClampNeg p1)) r7 q7) ⟨va_cnB 2 hts ggX2_settle_X4_cutShare rfl rfl rfl (hnw.2 (RX2, 49, yX4_cutShare, RX4) (List.mem_of_getElem? (i := 15) rfl)) (hts (.initialized RX4) (List.mem_of_getElem? (i := 15) rfl)) (by decide +kernel) ⟨Nat.le_of_ble_eq_true rfl, Nat.le_of_ble_eq_true rfl⟩, (hts (.static yX4_cutShare) (List.mem_of_getElem? (i := 14) rfl)), trivial⟩ rfl hl.1 rfl (Nat.le_of_ble_eq_true rfl) dX2_settle_34 ⟨Nat.zero_le _, Nat.zero_le _⟩) hP hD hS hA (fr_R_E a k R0 T0) (fun H locs hP hD hS => ?_)
      refine lv_bipush (v := (15 : Int32)) hx hb dX2_settle_37 (by decide) ?_
      refine va_mmin hx hb (hml.trans hl.1.symm) hown (hts (.methodLink RX2 56 Lib.Math.min.name) (List.mem_of_getElem? (i := 1) rfl)) (hts (.static Lib.Math.min.name) (List.mem_of_getElem? (i := 2) rfl)) (hts (.initialized "java/lang/Math") (List.mem_of_getElem? (i := 3) rfl)) (hts (.code Lib.Math.min.name Lib.Math.min.code 2 (some .int)) (List.mem_of_getElem? (i := 4) rfl)) (Nat.le_of_ble_eq_true rfl) (Nat.le_of_ble_eq_true rfl) (Nat.zero_le _) (Nat.zero_le _) dX2_settle_39 ?_
      refine lv_topi (fun v8 ev8 => ?_)
      have h := ltt_s ev8 h
      refine lv_istore (lv' := [(7, .int v8), (6, .int r5), (0, .ref (a 8)), (1, .ref (a 0)), (2, .int p1), (3, .int p2), (4, .int p3), (5, .int p4)]) hx hb dX2_settle_42 hl (by decide) rfl (fun ls hl => ?_)
      refine lv_iconst (v := (0 : Int32)) hx hb dX2_settle_44 (by decide) ?_
      refine lv_aload_n hx hb dX2_settle_45 rfl (lv_at hl 2 rfl) ?_
      refine va_get (D := D) (ci := 2) (v := .ref (a 10)) (C := RX2) (T := TX2) (N := 3) hx hb hts hin2 hown hK hP 0 rfl rfl 1 (by decide) (hts (.fieldLink RX2 15 "BallastLine$Train" "sinkings" "[B") (List.mem_of_getElem? (i := 5) rfl)) (fun _ h9 => h9) rfl dX2_settle_46 ?_
      refine lv_iload hx hb dX2_settle_49 (lv_at hl 0 rfl) ?_
      obtain ⟨g9, h⟩ := gd_s h
      refine va_bald hx hb hK hP 2 1 rfl rfl (inb_in g9) dX2_settle_51 ?_
      refine va_mmax hx hb (hml.trans hl.1.symm) hown (hts (.methodLink RX2 61 Lib.Math.max.name) (List.mem_of_getElem? (i := 6) rfl)) (hts (.static Lib.Math.max.name) (List.mem_of_getElem? (i := 7) rfl)) (hts (.initialized "java/lang/Math") (List.mem_of_getElem? (i := 3) rfl)) (hts (.code Lib.Math.max.name Lib.Math.max.code 2 (some .int)) (List.mem_of_getElem? (i := 8) rfl)) (Nat.le_of_ble_eq_true rfl) (Nat.le_of_ble_eq_true rfl) (Nat.zero_le _) (Nat.zero_le _) dX2_settle_52 ?_
      refine lv_topi (fun v10 ev10 => ?_)
      have h := ltt_s ev10 h
      refine lv_istore (lv' := [(8, .int v10), (7, .int v8), (6, .int r5), (0, .ref (a 8)), (1, .ref (a 0)), (2, .int p1), (3, .int p2), (4, .int p3), (5, .int p4)]) hx hb dX2_settle_55 hl (by decide) rfl (fun ls hl => ?_)
      refine lv_aload_n hx hb dX2_settle_57 rfl (lv_at hl 4 rfl) ?_
      refine lv_iload_n hx hb dX2_settle_58 rfl (lv_at hl 5 rfl) ?_
      refine lv_iconst (v := (1 : Int32)) hx hb dX2_settle_59 (by decide) ?_
      obtain ⟨r11, q11, h⟩ := b1_s h
      refine go_i (run_VN (As := [.int p1, .int (1 : Int32)]) (rest := []) ⟨hx, hb, hml, hown, hts⟩ hnw hK hP hD (fr_R_T a k R0 T0 T0) (ks_R_T k) (c_X1_isOf l D a k H.size T0 p1 (1 : Int32) r11 q11) ⟨va_cnB 2 hts ggX2_settle_X1_isOf rfl rfl rfl (hnw.2 (RX2, 64, yX1_isOf, RX4) (List.mem_of_getElem? (i := 16) rfl)) (hts (.initialized RX1) (List.mem_of_getElem? (i := 10) rfl)) (by decide +kernel) ⟨Nat.le_of_ble_eq_true rfl, Nat.le_of_ble_eq_true rfl⟩, (hts (.instanceMethod yX1_isOf) (List.mem_of_getElem? (i := 17) rfl)), (hts (.selects RX1 yX1_isOf yX1_isOf) (List.mem_of_getElem? (i := 18) rfl))⟩ (rcv_T a k T0) rfl hl.1 rfl (Nat.le_of_ble_eq_true rfl) dX2_settle_60 ⟨Nat.zero_le _, Nat.zero_le _⟩) hP hD hS hA (fr_R_T a k R0 T0 T0) (fun H locs hP hD hS => ?_)
      refine lv_if_eq (tgt := 78) hx hb dX2_settle_63 (by decide) (fun c12 => ?_) (fun c12 => ?_)
      · have h := it_t c12 h
        refine lv_aload_n hx hb dX2_settle_78 rfl (lv_at hl 4 rfl) ?_
        refine lv_iload_n hx hb dX2_settle_79 rfl (lv_at hl 5 rfl) ?_
        refine lv_iconst (v := (2 : Int32)) hx hb dX2_settle_80 (by decide) ?_
        obtain ⟨r13, q13, h⟩ := b1_s h
        refine go_i (run_VN (As := [.int p1, .int (2 : Int32)]) (rest := []) ⟨hx, hb, hml, hown, hts⟩ hnw hK hP hD (fr_R_T a k R0 T0 T0) (ks_R_T k) (c_X1_isOf l D a k H.size T0 p1 (2 : Int32) r13 q13) ⟨va_cnB 2 hts ggX2_settle_X1_isOf rfl rfl rfl (hnw.2 (RX2, 64, yX1_isOf, RX4) (List.mem_of_getElem? (i := 16) rfl)) (hts (.initialized RX1) (List.mem_of_getElem? (i := 10) rfl)) (by decide +kernel) ⟨Nat.le_of_ble_eq_true rfl, Nat.le_of_ble_eq_true rfl⟩, (hts (.instanceMethod yX1_isOf) (List.mem_of_getElem? (i := 17) rfl)), (hts (.selects RX1 yX1_isOf yX1_isOf) (List.mem_of_getElem? (i := 18) rfl))⟩ (rcv_T a k T0) rfl hl.1 rfl (Nat.le_of_ble_eq_true rfl) dX2_settle_81 ⟨Nat.zero_le _, Nat.zero_le _⟩) hP hD hS hA (fr_R_T a k R0 T0 T0) (fun H locs hP hD hS => ?_)
        refine lv_if_eq (tgt := 96) hx hb dX2_settle_84 (by decide) (fun c14 => ?_) (fun c14 => ?_)
        · have h := it_t c14 h
          exact lb96  v10 T0 H locs hP hD hS ls (lv_sub hl [4, 5, 0] rfl) h
        · have h := it_f c14 h
          refine lv_iload hx hb dX2_settle_87 (lv_at hl 0 rfl) ?_
          refine lv_iload hx hb dX2_settle_89 (lv_at hl 0 rfl) ?_
          refine lv_iconst (v := (4 : Int32)) hx hb dX2_settle_91 (by decide) ?_
          obtain ⟨g15, h⟩ := gd_s h
          refine lv_idiv hx hb dX2_settle_92 (nz32_s g15) ?_
          refine lv_iadd hx hb dX2_settle_93 ?_
          refine lv_topi (fun v16 ev16 => ?_)
          have h := ltt_s ev16 h
          refine lv_istore (lv' := [(8, .int v16), (7, .int v8), (6, .int r5), (0, .ref (a 8)), (1, .ref (a 0)), (2, .int p1), (3, .int p2), (4, .int p3), (5, .int p4)]) hx hb dX2_settle_94 hl (by decide) rfl (fun ls hl => ?_)
          exact lb96  v16 T0 H locs hP hD hS ls (lv_sub hl [4, 5, 0] rfl) h
      · have h := it_f c12 h
        refine lv_iload hx hb dX2_settle_66 (lv_at hl 0 rfl) ?_
        refine lv_iload hx hb dX2_settle_68 (lv_at hl 0 rfl) ?_
        refine lv_iconst (v := (4 : Int32)) hx hb dX2_settle_70 (by decide) ?_
        obtain ⟨g17, h⟩ := gd_s h
        refine lv_idiv hx hb dX2_settle_71 (nz32_s g17) ?_
        refine lv_isub hx hb dX2_settle_72 ?_
        refine lv_topi (fun v18 ev18 => ?_)
        have h := ltt_s ev18 h
        refine lv_istore (lv' := [(8, .int v18), (7, .int v8), (6, .int r5), (0, .ref (a 8)), (1, .ref (a 0)), (2, .int p1), (3, .int p2), (4, .int p3), (5, .int p4)]) hx hb dX2_settle_73 hl (by decide) rfl (fun ls hl => ?_)
        refine lv_goto (tgt := 96) hx hb dX2_settle_75 (by decide) ?_
        exact lb96  v18 T0 H locs hP hD hS ls (lv_sub hl [4, 5, 0] rfl) h
    · have h := it_t c4 h
      refine lv_iconst (v := (0 : Int32)) hx hb dX2_settle_13 (by decide) ?_
      have h := Option.some.inj h
      obtain ⟨hz0, h⟩ := Prod.mk.inj h
      have hP : va_P D vwCl (xR a k R0 Tz) H := by rw [← h]; exact hP
      have hD : va_D A (xR a k R0 Tz) := by rw [← h]; exact hD
      subst hQ
      subst hAe
      exact r_i hx hb hr hlocks hz0 hP hD hS dX2_settle_14
def f_X2_pressAt_J75 (R0 : Nat → Nat → Int32) (p1 : Int32) (p2 : Int32)  (x4 : Int32) (x5 : Int32) (x6 : Int32) (s0 : Int32) (T : Nat → Nat → Int32) : Option (Int32 × (Nat → Nat → Int32)) := ltt (((x5 + x6) + s0)) (fun v1 => b2 (f_X2_settle R0 T (p1 - (1 : Int32)) x4 x5 v1) (fun r2 (T_2 : Nat → Nat → Int32) => b2 (f_X2_settle R0 T_2 p1 x4 x6 v1) (fun r3 (T_3 : Nat → Nat → Int32) => b2 (f_X2_settle R0 T_3 (p1 + (1 : Int32)) x4 s0 v1) (fun r4 (T_4 : Nat → Nat → Int32) => some (((r2 + r3) + r4), T_4)))))
def f_X2_pressAt_J58 (R0 : Nat → Nat → Int32) (p1 : Int32) (p2 : Int32)  (x4 : Int32) (x5 : Int32) (s0 : Int32) (T : Nat → Nat → Int32) : Option (Int32 × (Nat → Nat → Int32)) := b2 (f_X1_bears T (p1 + (1 : Int32))) (fun r5 (T_5 : Nat → Nat → Int32) => if r5 = (0 : Int32) then (f_X2_pressAt_J75 R0 p1 p2 x4 x5 s0 (0 : Int32) T_5) else (f_X2_pressAt_J75 R0 p1 p2 x4 x5 s0 (1 : Int32) T_5))
def f_X2_pressAt_J43 (R0 : Nat → Nat → Int32) (p1 : Int32) (p2 : Int32)  (x4 : Int32) (s0 : Int32) (T : Nat → Nat → Int32) : Option (Int32 × (Nat → Nat → Int32)) := b2 (f_X1_bears T p1) (fun r7 (T_7 : Nat → Nat → Int32) => if r7 = (0 : Int32) then (f_X2_pressAt_J58 R0 p1 p2 x4 s0 (0 : Int32) T_7) else (f_X2_pressAt_J58 R0 p1 p2 x4 s0 (2 : Int32) T_7))
def f_X2_pressAt_J28 (R0 : Nat → Nat → Int32) (p1 : Int32) (p2 : Int32)  (x4 : Int32) (T : Nat → Nat → Int32) : Option (Int32 × (Nat → Nat → Int32)) := b2 (f_X1_bears T (p1 - (1 : Int32))) (fun r9 (T_9 : Nat → Nat → Int32) => if r9 = (0 : Int32) then (f_X2_pressAt_J43 R0 p1 p2 x4 (0 : Int32) T_9) else (f_X2_pressAt_J43 R0 p1 p2 x4 (1 : Int32) T_9))
def f_X2_pressAt (R0 : Nat → Nat → Int32) (T0 : Nat → Nat → Int32) (p1 : Int32) (p2 : Int32) : Option (Int32 × (Nat → Nat → Int32)) := b1 (f_X1_jointAt T0 p1) (fun r11 => if r11 = (0 : Int32) then (f_X2_pressAt_J28 R0 p1 p2 p2 T0) else (gd (inb p1 40) (gd (inb p1 40) (ltt (st T0 4 (Int32.toNatClampNeg p1) ((T0 4 (Int32.toNatClampNeg p1)) + (1 : Int32))) (fun (T_15 : Nat → Nat → Int32) => gd (nz32 (2 : Int32)) (ltt ((p2 + (p2 / (2 : Int32)))) (fun v17 => f_X2_pressAt_J28 R0 p1 p2 v17 T_15)))))))
abbrev rm_X2_pressAt : Room := { frames := 5, cells := 0, slots := 0, locals := 119 }
set_option maxHeartbeats 4000000 in
set_option maxRecDepth 100000 in
theorem c_X2_pressAt (l : Launch) (D : va_G) (a : Nat → Nat) (k : Nat → ClassId) (sz : Nat) (R0 : Nat → Nat → Int32) (T0 : Nat → Nat → Int32) (p1 : Int32) (p2 : Int32) (r : Int32) (Tz : (Nat → Nat → Int32)) (h : f_X2_pressAt R0 T0 p1 p2 = some (r, Tz)) : Met l yX2_pressAt wsX2_pressAt rm_X2_pressAt (mPc D [.ref (a 8), .ref (a 0), .int p1, .int p2] (xR a k R0 T0) (tR k) sz) (mQi D (xR a k R0 T0) (xR a k R0 Tz) sz r) 0 0 (va_A (xR a k R0 T0) sz) := by
  refine mk_met (cc := cX2_pressAt) (maxL := 9) (ret := (some .int)) (by decide) rfl (Nat.le_of_ble_eq_true rfl) ?_
  intro p e s m below meth c hx hb hr hml hts hown hmn hlocks hnw hsz hK hP hD hS hA ls hl
  obtain ⟨A, hAe⟩ : ∃ A, A = va_A (xR a k R0 T0) sz := ⟨_, rfl⟩
  rw [← hAe] at hD hS hA
  generalize hargs : List.toArray ([.ref (a 8), .ref (a 0), .int p1, .int p2] : List Value) = args at hts ⊢
  generalize hQ : MQ below (mQi D (xR a k R0 T0) (xR a k R0 Tz) sz r) args s 0 0 (va_A (xR a k R0 T0) sz) = Q
  have hl : lv_has ls 9 [(0, .ref (a 8)), (1, .ref (a 0)), (2, .int p1), (3, .int p2)] := hl
  have hin1 : ∀ w ∈ wsX10, w ∈ wsX2_pressAt := fun w h => List.mem_cons_of_mem _ (List.mem_append_left _ (List.mem_append_right _ h))
  have lb75 : ∀ (x4 : Int32) (x5 : Int32) (x6 : Int32) (s0 : Int32) (T : Nat → Nat → Int32), ∀ (H : Heap) (locs : List Loc), va_P D vwCl (xR a k R0 T) H → va_D A (xR a k R0 T) → va_S A s.heap H locs → ∀ ls : Array Slot, lv_has ls 9 [(0, .ref (a 8)), (1, .ref (a 0)), (2, .int p1), (4, .int x4), (5, .int x5), (6, .int x6)] → f_X2_pressAt_J75 R0 p1 p2 x4 x5 x6 s0 T = some (r, Tz) → W p l e rm_X2_pressAt s m args below meth c H locs 0 0 Q (F0 m 75 ls [.int s0]) := by
    intro  x4 x5 x6 s0 T H locs hP hD hS ls hl h
    rw [f_X2_pressAt_J75] at h
    refine lv_istore (lv' := [(7, .int s0), (0, .ref (a 8)), (1, .ref (a 0)), (2, .int p1), (4, .int x4), (5, .int x5), (6, .int x6)]) hx hb dX2_pressAt_75 hl (by decide) rfl (fun ls hl => ?_)
    refine lv_iload hx hb dX2_pressAt_77 (lv_at hl 5 rfl) ?_
    refine lv_iload hx hb dX2_pressAt_79 (lv_at hl 6 rfl) ?_
    refine lv_iadd hx hb dX2_pressAt_81 ?_
    refine lv_iload hx hb dX2_pressAt_82 (lv_at hl 0 rfl) ?_
    refine lv_iadd hx hb dX2_pressAt_84 ?_
    refine lv_topi (fun v1 ev1 => ?_)
    have h := ltt_s ev1 h
    refine lv_istore (lv' := [(8, .int v1), (7, .int s0), (0, .ref (a 8)), (1, .ref (a 0)), (2, .int p1), (4, .int x4), (5, .int x5), (6, .int x6)]) hx hb dX2_pressAt_85 hl (by decide) rfl (fun ls hl => ?_)
    refine lv_aload_n hx hb dX2_pressAt_87 rfl (lv_at hl 2 rfl) ?_
    refine lv_aload_n hx hb dX2_pressAt_88 rfl (lv_at hl 3 rfl) ?_
    refine lv_iload_n hx hb dX2_pressAt_89 rfl (lv_at hl 4 rfl) ?_
    refine lv_iconst (v := (1 : Int32)) hx hb dX2_pressAt_90 (by decide) ?_
    refine lv_isub hx hb dX2_pressAt_91 ?_
    refine lv_iload hx hb dX2_pressAt_92 (lv_at hl 5 rfl) ?_
    refine lv_iload hx hb dX2_pressAt_94 (lv_at hl 6 rfl) ?_
    refine lv_iload hx hb dX2_pressAt_96 (lv_at hl 0 rfl) ?_
    obtain ⟨r2, T_2, q2, h⟩ := b2_s h
    refine go_i (run_V (As := [.ref (a 0), .int (p1 - (1 : Int32)), .int x4, .int x5, .int v1]) (rest := []) ⟨hx, hb, hml, hown, hts⟩ hnw hK hP hD (fr_R_R a k R0 T R0 T_2) (ks_R_R k) (c_X2_settle l D a k H.size R0 T (p1 - (1 : Int32)) x4 x5 v1 r2 T_2 q2) (cwV 5 hts gX2_pressAt_X2_settle rfl rfl rfl (by decide +kernel) ⟨Nat.le_of_ble_eq_true rfl, Nat.le_of_ble_eq_true rfl⟩) (rcv_R a k R0 T) rfl hl.1 rfl (Nat.le_of_ble_eq_true rfl) dX2_pressAt_98 ⟨Nat.zero_le _, Nat.zero_le _⟩) hP hD hS hA (fr_R_R a k R0 T R0 T_2) (fun H locs hP hD hS => ?_)
    refine lv_aload_n hx hb dX2_pressAt_101 rfl (lv_at hl 2 rfl) ?_
    refine lv_aload_n hx hb dX2_pressAt_102 rfl (lv_at hl 3 rfl) ?_
    refine lv_iload_n hx hb dX2_pressAt_103 rfl (lv_at hl 4 rfl) ?_
    refine lv_iload hx hb dX2_pressAt_104 (lv_at hl 5 rfl) ?_
    refine lv_iload hx hb dX2_pressAt_106 (lv_at hl 7 rfl) ?_
    refine lv_iload hx hb dX2_pressAt_108 (lv_at hl 0 rfl) ?_
    obtain ⟨r3, T_3, q3, h⟩ := b2_s h
    refine go_i (run_V (As := [.ref (a 0), .int p1, .int x4, .int x6, .int v1]) (rest := [.int r2]) ⟨hx, hb, hml, hown, hts⟩ hnw hK hP hD (fr_R_R a k R0 T_2 R0 T_3) (ks_R_R k) (c_X2_settle l D a k H.size R0 T_2 p1 x4 x6 v1 r3 T_3 q3) (cwV 5 hts gX2_pressAt_X2_settle rfl rfl rfl (by decide +kernel) ⟨Nat.le_of_ble_eq_true rfl, Nat.le_of_ble_eq_true rfl⟩) (rcv_R a k R0 T_2) rfl hl.1 rfl (Nat.le_of_ble_eq_true rfl) dX2_pressAt_110 ⟨Nat.zero_le _, Nat.zero_le _⟩) hP hD hS hA (fr_R_R a k R0 T_2 R0 T_3) (fun H locs hP hD hS => ?_)
    refine lv_iadd hx hb dX2_pressAt_113 ?_
    refine lv_aload_n hx hb dX2_pressAt_114 rfl (lv_at hl 2 rfl) ?_
    refine lv_aload_n hx hb dX2_pressAt_115 rfl (lv_at hl 3 rfl) ?_
    refine lv_iload_n hx hb dX2_pressAt_116 rfl (lv_at hl 4 rfl) ?_
    refine lv_iconst (v := (1 : Int32)) hx hb dX2_pressAt_117 (by decide) ?_
    refine lv_iadd hx hb dX2_pressAt_118 ?_
    refine lv_iload hx hb dX2_pressAt_119 (lv_at hl 5 rfl) ?_
    refine lv_iload hx hb dX2_pressAt_121 (lv_at hl 1 rfl) ?_
    refine lv_iload hx hb dX2_pressAt_123 (lv_at hl 0 rfl) ?_
    obtain ⟨r4, T_4, q4, h⟩ := b2_s h
    refine go_i (run_V (As := [.ref (a 0), .int (p1 + (1 : Int32)), .int x4, .int s0, .int v1]) (rest := [.int (r2 + r3)]) ⟨hx, hb, hml, hown, hts⟩ hnw hK hP hD (fr_R_R a k R0 T_3 R0 T_4) (ks_R_R k) (c_X2_settle l D a k H.size R0 T_3 (p1 + (1 : Int32)) x4 s0 v1 r4 T_4 q4) (cwV 5 hts gX2_pressAt_X2_settle rfl rfl rfl (by decide +kernel) ⟨Nat.le_of_ble_eq_true rfl, Nat.le_of_ble_eq_true rfl⟩) (rcv_R a k R0 T_3) rfl hl.1 rfl (Nat.le_of_ble_eq_true rfl) dX2_pressAt_125 ⟨Nat.zero_le _, Nat.zero_le _⟩) hP hD hS hA (fr_R_R a k R0 T_3 R0 T_4) (fun H locs hP hD hS => ?_)
    refine lv_iadd hx hb dX2_pressAt_128 ?_
    have h := Option.some.inj h
    obtain ⟨hz0, h⟩ := Prod.mk.inj h
    have hP : va_P D vwCl (xR a k R0 Tz) H := by rw [← h]; exact hP
    have hD : va_D A (xR a k R0 Tz) := by rw [← h]; exact hD
    subst hQ
    subst hAe
    exact r_i hx hb hr hlocks hz0 hP hD hS dX2_pressAt_129
  have lb58 : ∀ (x4 : Int32) (x5 : Int32) (s0 : Int32) (T : Nat → Nat → Int32), ∀ (H : Heap) (locs : List Loc), va_P D vwCl (xR a k R0 T) H → va_D A (xR a k R0 T) → va_S A s.heap H locs → ∀ ls : Array Slot, lv_has ls 9 [(0, .ref (a 8)), (1, .ref (a 0)), (2, .int p1), (4, .int x4), (5, .int x5)] → f_X2_pressAt_J58 R0 p1 p2 x4 x5 s0 T = some (r, Tz) → W p l e rm_X2_pressAt s m args below meth c H locs 0 0 Q (F0 m 58 ls [.int s0]) := by
    intro  x4 x5 s0 T H locs hP hD hS ls hl h
    rw [f_X2_pressAt_J58] at h
    refine lv_istore (lv' := [(6, .int s0), (0, .ref (a 8)), (1, .ref (a 0)), (2, .int p1), (4, .int x4), (5, .int x5)]) hx hb dX2_pressAt_58 hl (by decide) rfl (fun ls hl => ?_)
    refine lv_aload_n hx hb dX2_pressAt_60 rfl (lv_at hl 2 rfl) ?_
    refine lv_iload_n hx hb dX2_pressAt_61 rfl (lv_at hl 3 rfl) ?_
    refine lv_iconst (v := (1 : Int32)) hx hb dX2_pressAt_62 (by decide) ?_
    refine lv_iadd hx hb dX2_pressAt_63 ?_
    obtain ⟨r5, T_5, q5, h⟩ := b2_s h
    refine go_i (run_VN (As := [.int (p1 + (1 : Int32))]) (rest := []) ⟨hx, hb, hml, hown, hts⟩ hnw hK hP hD (fr_R_T a k R0 T T_5) (ks_R_T k) (c_X1_bears l D a k H.size T (p1 + (1 : Int32)) r5 T_5 q5) ⟨va_cnB 1 hts ggX2_pressAt_X1_bears rfl rfl rfl (hnw.2 (RX2, 39, yX1_bears, RX4) (List.mem_of_getElem? (i := 13) rfl)) (hts (.initialized RX1) (List.mem_of_getElem? (i := 2) rfl)) (by decide +kernel) ⟨Nat.le_of_ble_eq_true rfl, Nat.le_of_ble_eq_true rfl⟩, (hts (.instanceMethod yX1_bears) (List.mem_of_getElem? (i := 16) rfl)), (hts (.selects RX1 yX1_bears yX1_bears) (List.mem_of_getElem? (i := 17) rfl))⟩ (rcv_T a k T) rfl hl.1 rfl (Nat.le_of_ble_eq_true rfl) dX2_pressAt_64 ⟨Nat.zero_le _, Nat.zero_le _⟩) hP hD hS hA (fr_R_T a k R0 T T_5) (fun H locs hP hD hS => ?_)
    refine lv_if_eq (tgt := 74) hx hb dX2_pressAt_67 (by decide) (fun c6 => ?_) (fun c6 => ?_)
    · have h := it_t c6 h
      refine lv_iconst (v := (0 : Int32)) hx hb dX2_pressAt_74 (by decide) ?_
      exact lb75  x4 x5 s0 (0 : Int32) T_5 H locs hP hD hS ls (lv_sub hl [1, 2, 3, 4, 5, 0] rfl) h
    · have h := it_f c6 h
      refine lv_iconst (v := (1 : Int32)) hx hb dX2_pressAt_70 (by decide) ?_
      refine lv_goto (tgt := 75) hx hb dX2_pressAt_71 (by decide) ?_
      exact lb75  x4 x5 s0 (1 : Int32) T_5 H locs hP hD hS ls (lv_sub hl [1, 2, 3, 4, 5, 0] rfl) h
  have lb43 : ∀ (x4 : Int32) (s0 : Int32) (T : Nat → Nat → Int32), ∀ (H : Heap) (locs : List Loc), va_P D vwCl (xR a k R0 T) H → va_D A (xR a k R0 T) → va_S A s.heap H locs → ∀ ls : Array Slot, lv_has ls 9 [(0, .ref (a 8)), (1, .ref (a 0)), (2, .int p1), (4, .int x4)] → f_X2_pressAt_J43 R0 p1 p2 x4 s0 T = some (r, Tz) → W p l e rm_X2_pressAt s m args below meth c H locs 0 0 Q (F0 m 43 ls [.int s0]) := by
    intro  x4 s0 T H locs hP hD hS ls hl h
    rw [f_X2_pressAt_J43] at h
    refine lv_istore (lv' := [(5, .int s0), (0, .ref (a 8)), (1, .ref (a 0)), (2, .int p1), (4, .int x4)]) hx hb dX2_pressAt_43 hl (by decide) rfl (fun ls hl => ?_)
    refine lv_aload_n hx hb dX2_pressAt_45 rfl (lv_at hl 2 rfl) ?_
    refine lv_iload_n hx hb dX2_pressAt_46 rfl (lv_at hl 3 rfl) ?_
    obtain ⟨r7, T_7, q7, h⟩ := b2_s h
    refine go_i (run_VN (As := [.int p1]) (rest := []) ⟨hx, hb, hml, hown, hts⟩ hnw hK hP hD (fr_R_T a k R0 T T_7) (ks_R_T k) (c_X1_bears l D a k H.size T p1 r7 T_7 q7) ⟨va_cnB 1 hts ggX2_pressAt_X1_bears rfl rfl rfl (hnw.2 (RX2, 39, yX1_bears, RX4) (List.mem_of_getElem? (i := 13) rfl)) (hts (.initialized RX1) (List.mem_of_getElem? (i := 2) rfl)) (by decide +kernel) ⟨Nat.le_of_ble_eq_true rfl, Nat.le_of_ble_eq_true rfl⟩, (hts (.instanceMethod yX1_bears) (List.mem_of_getElem? (i := 16) rfl)), (hts (.selects RX1 yX1_bears yX1_bears) (List.mem_of_getElem? (i := 17) rfl))⟩ (rcv_T a k T) rfl hl.1 rfl (Nat.le_of_ble_eq_true rfl) dX2_pressAt_47 ⟨Nat.zero_le _, Nat.zero_le _⟩) hP hD hS hA (fr_R_T a k R0 T T_7) (fun H locs hP hD hS => ?_)
    refine lv_if_eq (tgt := 57) hx hb dX2_pressAt_50 (by decide) (fun c8 => ?_) (fun c8 => ?_)
    · have h := it_t c8 h
      refine lv_iconst (v := (0 : Int32)) hx hb dX2_pressAt_57 (by decide) ?_
      exact lb58  x4 s0 (0 : Int32) T_7 H locs hP hD hS ls (lv_sub hl [1, 2, 3, 4, 0] rfl) h
    · have h := it_f c8 h
      refine lv_iconst (v := (2 : Int32)) hx hb dX2_pressAt_53 (by decide) ?_
      refine lv_goto (tgt := 58) hx hb dX2_pressAt_54 (by decide) ?_
      exact lb58  x4 s0 (2 : Int32) T_7 H locs hP hD hS ls (lv_sub hl [1, 2, 3, 4, 0] rfl) h
  have lb28 : ∀ (x4 : Int32) (T : Nat → Nat → Int32), ∀ (H : Heap) (locs : List Loc), va_P D vwCl (xR a k R0 T) H → va_D A (xR a k R0 T) → va_S A s.heap H locs → ∀ ls : Array Slot, lv_has ls 9 [(0, .ref (a 8)), (1, .ref (a 0)), (2, .int p1), (4, .int x4)] → f_X2_pressAt_J28 R0 p1 p2 x4 T = some (r, Tz) → W p l e rm_X2_pressAt s m args below meth c H locs 0 0 Q (F0 m 28 ls []) := by
    intro  x4 T H locs hP hD hS ls hl h
    rw [f_X2_pressAt_J28] at h
    refine lv_aload_n hx hb dX2_pressAt_28 rfl (lv_at hl 1 rfl) ?_
    refine lv_iload_n hx hb dX2_pressAt_29 rfl (lv_at hl 2 rfl) ?_
    refine lv_iconst (v := (1 : Int32)) hx hb dX2_pressAt_30 (by decide) ?_
    refine lv_isub hx hb dX2_pressAt_31 ?_
    obtain ⟨r9, T_9, q9, h⟩ := b2_s h
    refine go_i (run_VN (As := [.int (p1 - (1 : Int32))]) (rest := []) ⟨hx, hb, hml, hown, hts⟩ hnw hK hP hD (fr_R_T a k R0 T T_9) (ks_R_T k) (c_X1_bears l D a k H.size T (p1 - (1 : Int32)) r9 T_9 q9) ⟨va_cnB 1 hts ggX2_pressAt_X1_bears rfl rfl rfl (hnw.2 (RX2, 39, yX1_bears, RX4) (List.mem_of_getElem? (i := 13) rfl)) (hts (.initialized RX1) (List.mem_of_getElem? (i := 2) rfl)) (by decide +kernel) ⟨Nat.le_of_ble_eq_true rfl, Nat.le_of_ble_eq_true rfl⟩, (hts (.instanceMethod yX1_bears) (List.mem_of_getElem? (i := 16) rfl)), (hts (.selects RX1 yX1_bears yX1_bears) (List.mem_of_getElem? (i := 17) rfl))⟩ (rcv_T a k T) rfl hl.1 rfl (Nat.le_of_ble_eq_true rfl) dX2_pressAt_32 ⟨Nat.zero_le _, Nat.zero_le _⟩) hP hD hS hA (fr_R_T a k R0 T T_9) (fun H locs hP hD hS => ?_)
    refine lv_if_eq (tgt := 42) hx hb dX2_pressAt_35 (by decide) (fun c10 => ?_) (fun c10 => ?_)
    · have h := it_t c10 h
      refine lv_iconst (v := (0 : Int32)) hx hb dX2_pressAt_42 (by decide) ?_
      exact lb43  x4 (0 : Int32) T_9 H locs hP hD hS ls (lv_sub hl [0, 1, 2, 3] rfl) h
    · have h := it_f c10 h
      refine lv_iconst (v := (1 : Int32)) hx hb dX2_pressAt_38 (by decide) ?_
      refine lv_goto (tgt := 43) hx hb dX2_pressAt_39 (by decide) ?_
      exact lb43  x4 (1 : Int32) T_9 H locs hP hD hS ls (lv_sub hl [0, 1, 2, 3] rfl) h
  rw [f_X2_pressAt] at h
  obtain ⟨H, hH⟩ : ∃ H, H = s.heap := ⟨_, rfl⟩
  obtain ⟨locs, hlc⟩ : ∃ L : List Loc, L = [] := ⟨_, rfl⟩
  rw [← hH] at hP
  have hS : va_S A s.heap H locs := by rw [hH, hlc]; exact hS
  suffices hW9 : W p l e rm_X2_pressAt s m args below meth c H locs 0 0 Q (F0 m 0 ls []) by rw [hH, hlc] at hW9; exact hW9
  refine lv_iload_n hx hb dX2_pressAt_0 rfl (lv_at hl 3 rfl) ?_
  refine lv_istore (lv' := [(4, .int p2), (0, .ref (a 8)), (1, .ref (a 0)), (2, .int p1), (3, .int p2)]) hx hb dX2_pressAt_1 hl (by decide) rfl (fun ls hl => ?_)
  refine lv_aload_n hx hb dX2_pressAt_3 rfl (lv_at hl 2 rfl) ?_
  refine lv_iload_n hx hb dX2_pressAt_4 rfl (lv_at hl 3 rfl) ?_
  obtain ⟨r11, q11, h⟩ := b1_s h
  refine go_i (run_VN (As := [.int p1]) (rest := []) ⟨hx, hb, hml, hown, hts⟩ hnw hK hP hD (fr_R_T a k R0 T0 T0) (ks_R_T k) (c_X1_jointAt l D a k H.size T0 p1 r11 q11) ⟨va_cnB 1 hts ggX2_pressAt_X1_jointAt rfl rfl rfl (hnw.2 (RX2, 32, yX1_jointAt, RX4) (List.mem_of_getElem? (i := 12) rfl)) (hts (.initialized RX1) (List.mem_of_getElem? (i := 2) rfl)) (by decide +kernel) ⟨Nat.le_of_ble_eq_true rfl, Nat.le_of_ble_eq_true rfl⟩, (hts (.instanceMethod yX1_jointAt) (List.mem_of_getElem? (i := 1) rfl)), (hts (.selects RX1 yX1_jointAt yX1_jointAt) (List.mem_of_getElem? (i := 3) rfl))⟩ (rcv_T a k T0) rfl hl.1 rfl (Nat.le_of_ble_eq_true rfl) dX2_pressAt_5 ⟨Nat.zero_le _, Nat.zero_le _⟩) hP hD hS hA (fr_R_T a k R0 T0 T0) (fun H locs hP hD hS => ?_)
  refine lv_if_eq (tgt := 28) hx hb dX2_pressAt_8 (by decide) (fun c12 => ?_) (fun c12 => ?_)
  · have h := it_t c12 h
    exact lb28  p2 T0 H locs hP hD hS ls (lv_sub hl [1, 2, 3, 0] rfl) h
  · have h := it_f c12 h
    refine lv_aload_n hx hb dX2_pressAt_11 rfl (lv_at hl 2 rfl) ?_
    refine va_getN (host := RX4) (D := D) (ci := 1) (v := .ref (a 5)) (C := RX1) (T := TX1) (N := 8) hx hb hts hin1 hown hK hP 3 rfl rfl 4 (by decide) (va_Nw.use rfl (hnw.1 (RX2, 36, "BallastLine$Track", "axlesOver", "[I", RX4) (List.mem_of_getElem? (i := 5) rfl))) (fun _ h9 => h9) rfl dX2_pressAt_12 ?_
    refine lv_iload_n hx hb dX2_pressAt_15 rfl (lv_at hl 3 rfl) ?_
    refine lv_dup2_11 hx hb dX2_pressAt_16 rfl rfl ?_
    obtain ⟨g13, h⟩ := gd_s h
    refine va_iald hx hb hK hP 8 6 rfl rfl (inb_in g13) dX2_pressAt_17 ?_
    refine lv_iconst (v := (1 : Int32)) hx hb dX2_pressAt_18 (by decide) ?_
    refine lv_iadd hx hb dX2_pressAt_19 ?_
    obtain ⟨g14, h⟩ := gd_s h
    refine va_iast hx hb hK hP hD hS 8 6 rfl rfl (inb_in g14) dX2_pressAt_20 (fun H locs hP hD hS => ?_)
    obtain ⟨T_15, eT_15⟩ : ∃ y : Nat → Nat → Int32, y = st T0 4 (Int32.toNatClampNeg p1) ((T0 4 (Int32.toNatClampNeg p1)) + (1 : Int32)) := ⟨_, rfl⟩
    have h := ltt_s eT_15 h
    have hP : va_P D vwCl (xR a k R0 T_15) H := by rw [eT_15]; exact hP
    have hD : va_D A (xR a k R0 T_15) := by rw [eT_15]; exact hD
    refine lv_iload_n hx hb dX2_pressAt_21 rfl (lv_at hl 4 rfl) ?_
    refine lv_iload_n hx hb dX2_pressAt_22 rfl (lv_at hl 4 rfl) ?_
    refine lv_iconst (v := (2 : Int32)) hx hb dX2_pressAt_23 (by decide) ?_
    obtain ⟨g16, h⟩ := gd_s h
    refine lv_idiv hx hb dX2_pressAt_24 (nz32_s g16) ?_
    refine lv_iadd hx hb dX2_pressAt_25 ?_
    refine lv_topi (fun v17 ev17 => ?_)
    have h := ltt_s ev17 h
    refine lv_istore (lv' := [(4, .int v17), (0, .ref (a 8)), (1, .ref (a 0)), (2, .int p1), (3, .int p2)]) hx hb dX2_pressAt_26 hl (by decide) rfl (fun ls hl => ?_)
    exact lb28  v17 T_15 H locs hP hD hS ls (lv_sub hl [1, 2, 3, 0] rfl) h
def f_X2_roll_L26 (R0 : Nat → Nat → Int32) (p1 : Int32) (ko5 : Int32 → Int32 → (Nat → Nat → Int32) → Option (Int32 × (Nat → Nat → Int32))) (ko14 : Int32 → Int32 → Int32 → (Nat → Nat → Int32) → Option (Int32 × (Nat → Nat → Int32))) : Nat → Int32 → Int32 → Int32 → Int32 → (Nat → Nat → Int32) → Option (Int32 × (Nat → Nat → Int32))
  | 0, _, _, _, _, _ => none
  | n + 1, x3, x4, x5, x6, T => if (R0 2 0) ≤ x6 then (ltt (x5 + (1 : Int32)) (fun v2 => ko14 x3 x4 v2 T)) else (gd (inb x6 20) (b2 (f_X2_pressAt R0 T x5 (R0 0 (Int32.toNatClampNeg x6))) (fun r4 (T_4 : Nat → Nat → Int32) => ltt ((x3 + r4)) (fun v5 => ltt (x6 + (1 : Int32)) (fun v6 => f_X2_roll_L26 R0 p1 ko5 ko14 n v5 x4 x5 v6 T_4)))))
def f_X2_roll_L14 (R0 : Nat → Nat → Int32) (p1 : Int32) (ko5 : Int32 → Int32 → (Nat → Nat → Int32) → Option (Int32 × (Nat → Nat → Int32))) : Nat → Int32 → Int32 → Int32 → (Nat → Nat → Int32) → Option (Int32 × (Nat → Nat → Int32))
  | 0, _, _, _, _ => none
  | n + 1, x3, x4, x5, T => if (T 7 0) ≤ x5 then (ltt (x4 + (1 : Int32)) (fun v8 => ko5 x3 v8 T)) else (f_X2_roll_L26 R0 p1 ko5 (f_X2_roll_L14 R0 p1 ko5 n) 64 x3 x4 x5 (0 : Int32) T)
def f_X2_roll_L5 (R0 : Nat → Nat → Int32) (p1 : Int32)  : Nat → Int32 → Int32 → (Nat → Nat → Int32) → Option (Int32 × (Nat → Nat → Int32))
  | 0, _, _, _ => none
  | n + 1, x3, x4, T => if p1 ≤ x4 then (some (x3, T)) else (f_X2_roll_L14 R0 p1 (f_X2_roll_L5 R0 p1 n) 64 x3 x4 (0 : Int32) T)
def f_X2_roll (R0 : Nat → Nat → Int32) (T0 : Nat → Nat → Int32) (p1 : Int32) : Option (Int32 × (Nat → Nat → Int32)) := f_X2_roll_L5 R0 p1 64 (0 : Int32) (0 : Int32) T0
abbrev rm_X2_roll : Room := { frames := 6, cells := 0, slots := 0, locals := 147 }
set_option maxHeartbeats 4000000 in
set_option maxRecDepth 100000 in
theorem c_X2_roll (l : Launch) (D : va_G) (a : Nat → Nat) (k : Nat → ClassId) (sz : Nat) (R0 : Nat → Nat → Int32) (T0 : Nat → Nat → Int32) (p1 : Int32) (r : Int32) (Tz : (Nat → Nat → Int32)) (h : f_X2_roll R0 T0 p1 = some (r, Tz)) : Met l yX2_roll wsX2_roll rm_X2_roll (mPc D [.ref (a 8), .ref (a 0), .int p1] (xR a k R0 T0) (tR k) sz) (mQi D (xR a k R0 T0) (xR a k R0 Tz) sz r) 0 0 (va_A (xR a k R0 T0) sz) := by
  refine mk_met (cc := cX2_roll) (maxL := 7) (ret := (some .int)) (by decide) rfl (Nat.le_of_ble_eq_true rfl) ?_
  intro p e s m below meth c hx hb hr hml hts hown hmn hlocks hnw hsz hK hP hD hS hA ls hl
  obtain ⟨A, hAe⟩ : ∃ A, A = va_A (xR a k R0 T0) sz := ⟨_, rfl⟩
  rw [← hAe] at hD hS hA
  generalize hargs : List.toArray ([.ref (a 8), .ref (a 0), .int p1] : List Value) = args at hts ⊢
  generalize hQ : MQ below (mQi D (xR a k R0 T0) (xR a k R0 Tz) sz r) args s 0 0 (va_A (xR a k R0 T0) sz) = Q
  have hl : lv_has ls 7 [(0, .ref (a 8)), (1, .ref (a 0)), (2, .int p1)] := hl
  have hin1 : ∀ w ∈ wsX10, w ∈ wsX2_roll := fun w h => List.mem_cons_of_mem _ (List.mem_append_left _ (List.mem_append_right _ h))
  have hin2 : ∀ w ∈ wsX20, w ∈ wsX2_roll := fun w h => List.mem_cons_of_mem _ (List.mem_append_right _ h)
  have lb26 : ∀ (ko5 : Int32 → Int32 → (Nat → Nat → Int32) → Option (Int32 × (Nat → Nat → Int32))), (∀ (x3 : Int32) (x4 : Int32) (T : Nat → Nat → Int32), ∀ (H : Heap) (locs : List Loc), va_P D vwCl (xR a k R0 T) H → va_D A (xR a k R0 T) → va_S A s.heap H locs → ∀ ls : Array Slot, lv_has ls 7 [(0, .ref (a 8)), (1, .ref (a 0)), (2, .int p1), (3, .int x3), (4, .int x4)] → ko5 x3 x4 T = some (r, Tz) → W p l e rm_X2_roll s m args below meth c H locs 0 0 Q (F0 m 5 ls [])) → ∀ (ko14 : Int32 → Int32 → Int32 → (Nat → Nat → Int32) → Option (Int32 × (Nat → Nat → Int32))), (∀ (x3 : Int32) (x4 : Int32) (x5 : Int32) (T : Nat → Nat → Int32), ∀ (H : Heap) (locs : List Loc), va_P D vwCl (xR a k R0 T) H → va_D A (xR a k R0 T) → va_S A s.heap H locs → ∀ ls : Array Slot, lv_has ls 7 [(0, .ref (a 8)), (1, .ref (a 0)), (2, .int p1), (3, .int x3), (4, .int x4), (5, .int x5)] → ko14 x3 x4 x5 T = some (r, Tz) → W p l e rm_X2_roll s m args below meth c H locs 0 0 Q (F0 m 14 ls [])) → ∀ (n : Nat), ∀ (x3 : Int32) (x4 : Int32) (x5 : Int32) (x6 : Int32) (T : Nat → Nat → Int32), ∀ (H : Heap) (locs : List Loc), va_P D vwCl (xR a k R0 T) H → va_D A (xR a k R0 T) → va_S A s.heap H locs → ∀ ls : Array Slot, lv_has ls 7 [(0, .ref (a 8)), (1, .ref (a 0)), (2, .int p1), (3, .int x3), (4, .int x4), (5, .int x5), (6, .int x6)] → f_X2_roll_L26 R0 p1 ko5 ko14 n x3 x4 x5 x6 T = some (r, Tz) → W p l e rm_X2_roll s m args below meth c H locs 0 0 Q (F0 m 26 ls []) := by
    intro ko5 hko5 ko14 hko14
    intro n
    induction n with
    | zero =>
      intro x3 x4 x5 x6 T H locs hP hD hS ls hl h
      rw [f_X2_roll_L26] at h
      cases h
    | succ n ih =>
      intro x3 x4 x5 x6 T H locs hP hD hS ls hl h
      rw [f_X2_roll_L26] at h
      refine lv_iload hx hb dX2_roll_26 (lv_at hl 6 rfl) ?_
      refine lv_aload_n hx hb dX2_roll_28 rfl (lv_at hl 0 rfl) ?_
      refine va_get (D := D) (ci := 2) (v := .int (R0 2 0)) (C := RX2) (T := TX2) (N := 3) hx hb hts hin2 hown hK hP 0 rfl rfl 2 (by decide) (hts (.fieldLink RX2 19 "BallastLine$Train" "axles" "I") (List.mem_of_getElem? (i := 1) rfl)) (fun _ h9 => h9) rfl dX2_roll_29 ?_
      refine lv_icmp_ge (tgt := 58) hx hb dX2_roll_32 (by decide) (fun c1 => ?_) (fun c1 => ?_)
      · have h := it_t c1 h
        obtain ⟨v2, ev2⟩ : ∃ y : Int32, y = x5 + (1 : Int32) := ⟨_, rfl⟩
        have h := ltt_s ev2 h
        refine lv_iinc (v := v2) (lv' := [(5, .int v2), (0, .ref (a 8)), (1, .ref (a 0)), (2, .int p1), (3, .int x3), (4, .int x4), (6, .int x6)]) hx hb dX2_roll_58 hl (k := 5) rfl (by rw [ev2]; rfl) (by decide) rfl (fun ls hl => ?_)
        refine lv_goto (tgt := 14) hx hb dX2_roll_61 (by decide) ?_
        exact hko14 x3 x4 v2 T H locs hP hD hS ls (lv_sub hl [1, 2, 3, 4, 5, 0] rfl) h
      · have h := it_f c1 h
        refine lv_iload_n hx hb dX2_roll_35 rfl (lv_at hl 3 rfl) ?_
        refine lv_aload_n hx hb dX2_roll_36 rfl (lv_at hl 0 rfl) ?_
        refine lv_aload_n hx hb dX2_roll_37 rfl (lv_at hl 1 rfl) ?_
        refine lv_iload hx hb dX2_roll_38 (lv_at hl 5 rfl) ?_
        refine lv_aload_n hx hb dX2_roll_40 rfl (lv_at hl 0 rfl) ?_
        refine va_get (D := D) (ci := 2) (v := .ref (a 9)) (C := RX2) (T := TX2) (N := 3) hx hb hts hin2 hown hK hP 0 rfl rfl 0 (by decide) (hts (.fieldLink RX2 9 "BallastLine$Train" "weights" "[I") (List.mem_of_getElem? (i := 2) rfl)) (fun _ h9 => h9) rfl dX2_roll_41 ?_
        refine lv_iload hx hb dX2_roll_44 (lv_at hl 6 rfl) ?_
        obtain ⟨g3, h⟩ := gd_s h
        refine va_iald hx hb hK hP 1 0 rfl rfl (inb_in g3) dX2_roll_46 ?_
        obtain ⟨r4, T_4, q4, h⟩ := b2_s h
        refine go_i (run_V (As := [.ref (a 0), .int x5, .int (R0 0 (Int32.toNatClampNeg x6))]) (rest := [.int x3]) ⟨hx, hb, hml, hown, hts⟩ hnw hK hP hD (fr_R_R a k R0 T R0 T_4) (ks_R_R k) (c_X2_pressAt l D a k H.size R0 T x5 (R0 0 (Int32.toNatClampNeg x6)) r4 T_4 q4) (cwV 3 hts gX2_roll_X2_pressAt rfl rfl rfl (by decide +kernel) ⟨Nat.le_of_ble_eq_true rfl, Nat.le_of_ble_eq_true rfl⟩) (rcv_R a k R0 T) rfl hl.1 rfl (Nat.le_of_ble_eq_true rfl) dX2_roll_47 ⟨Nat.zero_le _, Nat.zero_le _⟩) hP hD hS hA (fr_R_R a k R0 T R0 T_4) (fun H locs hP hD hS => ?_)
        refine lv_iadd hx hb dX2_roll_50 ?_
        refine lv_topi (fun v5 ev5 => ?_)
        have h := ltt_s ev5 h
        refine lv_istore_n (lv' := [(3, .int v5), (0, .ref (a 8)), (1, .ref (a 0)), (2, .int p1), (4, .int x4), (5, .int x5), (6, .int x6)]) hx hb dX2_roll_51 rfl hl (by decide) rfl (fun ls hl => ?_)
        obtain ⟨v6, ev6⟩ : ∃ y : Int32, y = x6 + (1 : Int32) := ⟨_, rfl⟩
        have h := ltt_s ev6 h
        refine lv_iinc (v := v6) (lv' := [(6, .int v6), (3, .int v5), (0, .ref (a 8)), (1, .ref (a 0)), (2, .int p1), (4, .int x4), (5, .int x5)]) hx hb dX2_roll_52 hl (k := 6) rfl (by rw [ev6]; rfl) (by decide) rfl (fun ls hl => ?_)
        refine lv_goto (tgt := 26) hx hb dX2_roll_55 (by decide) ?_
        exact ih v5 x4 x5 v6 T_4 H locs hP hD hS ls (lv_sub hl [2, 3, 4, 1, 5, 6, 0] rfl) h
  have lb14 : ∀ (ko5 : Int32 → Int32 → (Nat → Nat → Int32) → Option (Int32 × (Nat → Nat → Int32))), (∀ (x3 : Int32) (x4 : Int32) (T : Nat → Nat → Int32), ∀ (H : Heap) (locs : List Loc), va_P D vwCl (xR a k R0 T) H → va_D A (xR a k R0 T) → va_S A s.heap H locs → ∀ ls : Array Slot, lv_has ls 7 [(0, .ref (a 8)), (1, .ref (a 0)), (2, .int p1), (3, .int x3), (4, .int x4)] → ko5 x3 x4 T = some (r, Tz) → W p l e rm_X2_roll s m args below meth c H locs 0 0 Q (F0 m 5 ls [])) → ∀ (n : Nat), ∀ (x3 : Int32) (x4 : Int32) (x5 : Int32) (T : Nat → Nat → Int32), ∀ (H : Heap) (locs : List Loc), va_P D vwCl (xR a k R0 T) H → va_D A (xR a k R0 T) → va_S A s.heap H locs → ∀ ls : Array Slot, lv_has ls 7 [(0, .ref (a 8)), (1, .ref (a 0)), (2, .int p1), (3, .int x3), (4, .int x4), (5, .int x5)] → f_X2_roll_L14 R0 p1 ko5 n x3 x4 x5 T = some (r, Tz) → W p l e rm_X2_roll s m args below meth c H locs 0 0 Q (F0 m 14 ls []) := by
    intro ko5 hko5
    intro n
    induction n with
    | zero =>
      intro x3 x4 x5 T H locs hP hD hS ls hl h
      rw [f_X2_roll_L14] at h
      cases h
    | succ n ih =>
      intro x3 x4 x5 T H locs hP hD hS ls hl h
      rw [f_X2_roll_L14] at h
      refine lv_iload hx hb dX2_roll_14 (lv_at hl 5 rfl) ?_
      refine lv_aload_n hx hb dX2_roll_16 rfl (lv_at hl 1 rfl) ?_
      refine va_getN (host := RX4) (D := D) (ci := 1) (v := .int (T 7 0)) (C := RX1) (T := TX1) (N := 8) hx hb hts hin1 hown hK hP 3 rfl rfl 7 (by decide) (va_Nw.use rfl (hnw.1 (RX2, 23, "BallastLine$Track", "size", "I", RX4) (List.mem_of_getElem? (i := 8) rfl))) (fun _ h9 => h9) rfl dX2_roll_17 ?_
      refine lv_icmp_ge (tgt := 64) hx hb dX2_roll_20 (by decide) (fun c7 => ?_) (fun c7 => ?_)
      · have h := it_t c7 h
        obtain ⟨v8, ev8⟩ : ∃ y : Int32, y = x4 + (1 : Int32) := ⟨_, rfl⟩
        have h := ltt_s ev8 h
        refine lv_iinc (v := v8) (lv' := [(4, .int v8), (0, .ref (a 8)), (1, .ref (a 0)), (2, .int p1), (3, .int x3), (5, .int x5)]) hx hb dX2_roll_64 hl (k := 4) rfl (by rw [ev8]; rfl) (by decide) rfl (fun ls hl => ?_)
        refine lv_goto (tgt := 5) hx hb dX2_roll_67 (by decide) ?_
        exact hko5 x3 v8 T H locs hP hD hS ls (lv_sub hl [1, 2, 3, 4, 0] rfl) h
      · have h := it_f c7 h
        refine lv_iconst (v := (0 : Int32)) hx hb dX2_roll_23 (by decide) ?_
        refine lv_istore (lv' := [(6, .int (0 : Int32)), (0, .ref (a 8)), (1, .ref (a 0)), (2, .int p1), (3, .int x3), (4, .int x4), (5, .int x5)]) hx hb dX2_roll_24 hl (by decide) rfl (fun ls hl => ?_)
        exact lb26 ko5 hko5 (f_X2_roll_L14 R0 p1 ko5 n) ih 64 x3 x4 x5 (0 : Int32) T H locs hP hD hS ls (lv_sub hl [1, 2, 3, 4, 5, 6, 0] rfl) h
  have lb5 : ∀ (n : Nat), ∀ (x3 : Int32) (x4 : Int32) (T : Nat → Nat → Int32), ∀ (H : Heap) (locs : List Loc), va_P D vwCl (xR a k R0 T) H → va_D A (xR a k R0 T) → va_S A s.heap H locs → ∀ ls : Array Slot, lv_has ls 7 [(0, .ref (a 8)), (1, .ref (a 0)), (2, .int p1), (3, .int x3), (4, .int x4)] → f_X2_roll_L5 R0 p1 n x3 x4 T = some (r, Tz) → W p l e rm_X2_roll s m args below meth c H locs 0 0 Q (F0 m 5 ls []) := by
    intro n
    induction n with
    | zero =>
      intro x3 x4 T H locs hP hD hS ls hl h
      rw [f_X2_roll_L5] at h
      cases h
    | succ n ih =>
      intro x3 x4 T H locs hP hD hS ls hl h
      rw [f_X2_roll_L5] at h
      refine lv_iload hx hb dX2_roll_5 (lv_at hl 4 rfl) ?_
      refine lv_iload_n hx hb dX2_roll_7 rfl (lv_at hl 2 rfl) ?_
      refine lv_icmp_ge (tgt := 70) hx hb dX2_roll_8 (by decide) (fun c9 => ?_) (fun c9 => ?_)
      · have h := it_t c9 h
        refine lv_iload_n hx hb dX2_roll_70 rfl (lv_at hl 3 rfl) ?_
        have h := Option.some.inj h
        obtain ⟨hz0, h⟩ := Prod.mk.inj h
        have hP : va_P D vwCl (xR a k R0 Tz) H := by rw [← h]; exact hP
        have hD : va_D A (xR a k R0 Tz) := by rw [← h]; exact hD
        subst hQ
        subst hAe
        exact r_i hx hb hr hlocks hz0 hP hD hS dX2_roll_71
      · have h := it_f c9 h
        refine lv_iconst (v := (0 : Int32)) hx hb dX2_roll_11 (by decide) ?_
        refine lv_istore (lv' := [(5, .int (0 : Int32)), (0, .ref (a 8)), (1, .ref (a 0)), (2, .int p1), (3, .int x3), (4, .int x4)]) hx hb dX2_roll_12 hl (by decide) rfl (fun ls hl => ?_)
        exact lb14 (f_X2_roll_L5 R0 p1 n) ih 64 x3 x4 (0 : Int32) T H locs hP hD hS ls (lv_sub hl [1, 2, 3, 4, 5, 0] rfl) h
  rw [f_X2_roll] at h
  obtain ⟨H, hH⟩ : ∃ H, H = s.heap := ⟨_, rfl⟩
  obtain ⟨locs, hlc⟩ : ∃ L : List Loc, L = [] := ⟨_, rfl⟩
  rw [← hH] at hP
  have hS : va_S A s.heap H locs := by rw [hH, hlc]; exact hS
  suffices hW9 : W p l e rm_X2_roll s m args below meth c H locs 0 0 Q (F0 m 0 ls []) by rw [hH, hlc] at hW9; exact hW9
  refine lv_iconst (v := (0 : Int32)) hx hb dX2_roll_0 (by decide) ?_
  refine lv_istore_n (lv' := [(3, .int (0 : Int32)), (0, .ref (a 8)), (1, .ref (a 0)), (2, .int p1)]) hx hb dX2_roll_1 rfl hl (by decide) rfl (fun ls hl => ?_)
  refine lv_iconst (v := (0 : Int32)) hx hb dX2_roll_2 (by decide) ?_
  refine lv_istore (lv' := [(4, .int (0 : Int32)), (3, .int (0 : Int32)), (0, .ref (a 8)), (1, .ref (a 0)), (2, .int p1)]) hx hb dX2_roll_3 hl (by decide) rfl (fun ls hl => ?_)
  exact lb5 64 (0 : Int32) (0 : Int32) T0 H locs hP hD hS ls (lv_sub hl [2, 3, 4, 1, 0] rfl) h
