def f_X1_renew_L7  (p0 : Int32)  : Nat → Int32 → (Nat → Nat → Int32) → Option ((Nat → Nat → Int32))
  | 0, _, _ => none
  | n + 1, x2, T => if (40 : Int32) ≤ x2 then (some T) else (gd (inb x2 40) (ltt (st T 0 (Int32.toNatClampNeg x2) (0 : Int32)) (fun (T_3 : Nat → Nat → Int32) => gd (inb x2 40) (ltt (st T_3 1 (Int32.toNatClampNeg x2) (0 : Int32)) (fun (T_5 : Nat → Nat → Int32) => gd (inb x2 40) (ltt (st T_5 2 (Int32.toNatClampNeg x2) (5 : Int32)) (fun (T_7 : Nat → Nat → Int32) => gd (inb x2 40) (ltt (st T_7 3 (Int32.toNatClampNeg x2) (0 : Int32)) (fun (T_9 : Nat → Nat → Int32) => gd (inb x2 40) (ltt (st T_9 4 (Int32.toNatClampNeg x2) (0 : Int32)) (fun (T_11 : Nat → Nat → Int32) => gd (inb x2 40) (ltt (st T_11 5 (Int32.toNatClampNeg x2) (vp_nar .boolean (0 : Int32))) (fun (T_13 : Nat → Nat → Int32) => gd (inb x2 40) (ltt (st T_13 6 (Int32.toNatClampNeg x2) (0 : Int32)) (fun (T_15 : Nat → Nat → Int32) => ltt (x2 + (1 : Int32)) (fun v16 => f_X1_renew_L7 p0 n v16 T_15))))))))))))))))
def f_X1_renew (T0 : Nat → Nat → Int32) (p0 : Int32) : Option ((Nat → Nat → Int32)) := ltt (st T0 7 0 p0) (fun (T_17 : Nat → Nat → Int32) => f_X1_renew_L7 p0 64 (0 : Int32) T_17)
abbrev rm_X1_renew : Room := { frames := 0, cells := 0, slots := 0, locals := 0 }
set_option maxHeartbeats 4000000 in
set_option maxRecDepth 100000 in
theorem c_X1_renew (l : Launch) (D : va_G) (a : Nat → Nat) (k : Nat → ClassId) (sz : Nat) (T0 : Nat → Nat → Int32) (p0 : Int32) (Tz : (Nat → Nat → Int32)) (h : f_X1_renew T0 p0 = some Tz) : Met l yX1_renew wsX1_renew rm_X1_renew (mPc D [.ref (a 0), .int p0] (xT a k T0) (tT k) sz) (mQv D (xT a k T0) (xT a k Tz) sz) 0 0 (va_A (xT a k T0) sz) := by
  refine mk_met (cc := cX1_renew) (maxL := 3) (ret := none) (by decide) rfl (Nat.le_of_ble_eq_true rfl) ?_
  intro p e s m below meth c hx hb hr hml hts hown hmn hlocks hnw hsz hK hP hD hS hA ls hl
  obtain ⟨A, hAe⟩ : ∃ A, A = va_A (xT a k T0) sz := ⟨_, rfl⟩
  rw [← hAe] at hD hS hA
  generalize hargs : List.toArray ([.ref (a 0), .int p0] : List Value) = args at hts ⊢
  generalize hQ : MQ below (mQv D (xT a k T0) (xT a k Tz) sz) args s 0 0 (va_A (xT a k T0) sz) = Q
  have hl : lv_has ls 3 [(0, .ref (a 0)), (1, .int p0)] := hl
  have hin1 : ∀ w ∈ wsX10, w ∈ wsX1_renew := fun w h => List.mem_cons_of_mem _ (List.mem_append_right _ h)
  have lb7 : ∀ (n : Nat), ∀ (x2 : Int32) (T : Nat → Nat → Int32), ∀ (H : Heap) (locs : List Loc), va_P D vwCl (xT a k T) H → va_D A (xT a k T) → va_S A s.heap H locs → ∀ ls : Array Slot, lv_has ls 3 [(0, .ref (a 0)), (2, .int x2)] → f_X1_renew_L7 p0 n x2 T = some Tz → W p l e rm_X1_renew s m args below meth c H locs 0 0 Q (F0 m 7 ls []) := by
    intro n
    induction n with
    | zero =>
      intro x2 T H locs hP hD hS ls hl h
      rw [f_X1_renew_L7] at h
      cases h
    | succ n ih =>
      intro x2 T H locs hP hD hS ls hl h
      rw [f_X1_renew_L7] at h
      refine lv_iload_n hx hb dX1_renew_7 rfl (lv_at hl 1 rfl) ?_
      refine lv_bipush (v := (40 : Int32)) hx hb dX1_renew_8 (by decide) ?_
      refine lv_icmp_ge (tgt := 68) hx hb dX1_renew_10 (by decide) (fun c1 => ?_) (fun c1 => ?_)
      · have h := it_t c1 h
        have h := Option.some.inj h
        have hP : va_P D vwCl (xT a k Tz) H := by rw [← h]; exact hP
        have hD : va_D A (xT a k Tz) := by rw [← h]; exact hD
        subst hQ
        subst hAe
        exact r_v hx hb hr hlocks hP hD hS dX1_renew_68
      · have h := it_f c1 h
        refine lv_aload_n hx hb dX1_renew_13 rfl (lv_at hl 0 rfl) ?_
        refine va_get (D := D) (ci := 1) (v := .ref (a 1)) (C := RX1) (T := TX1) (N := 8) hx hb hts hin1 hown hK hP 0 rfl rfl 0 (by decide) (hts (.fieldLink RX1 9 "BallastLine$Track" "kinds" "[I") (List.mem_of_getElem? (i := 2) rfl)) (fun _ h9 => h9) rfl dX1_renew_14 ?_
        refine lv_iload_n hx hb dX1_renew_17 rfl (lv_at hl 1 rfl) ?_
        refine lv_iconst (v := (0 : Int32)) hx hb dX1_renew_18 (by decide) ?_
        obtain ⟨g2, h⟩ := gd_s h
        refine va_iast hx hb hK hP hD hS 1 0 rfl rfl (inb_in g2) dX1_renew_19 (fun H locs hP hD hS => ?_)
        obtain ⟨T_3, eT_3⟩ : ∃ y : Nat → Nat → Int32, y = st T 0 (Int32.toNatClampNeg x2) (0 : Int32) := ⟨_, rfl⟩
        have h := ltt_s eT_3 h
        have hP : va_P D vwCl (xT a k T_3) H := by rw [eT_3]; exact hP
        have hD : va_D A (xT a k T_3) := by rw [eT_3]; exact hD
        refine lv_aload_n hx hb dX1_renew_20 rfl (lv_at hl 0 rfl) ?_
        refine va_get (D := D) (ci := 1) (v := .ref (a 2)) (C := RX1) (T := TX1) (N := 8) hx hb hts hin1 hown hK hP 0 rfl rfl 1 (by decide) (hts (.fieldLink RX1 15 "BallastLine$Track" "beds" "[I") (List.mem_of_getElem? (i := 3) rfl)) (fun _ h9 => h9) rfl dX1_renew_21 ?_
        refine lv_iload_n hx hb dX1_renew_24 rfl (lv_at hl 1 rfl) ?_
        refine lv_iconst (v := (0 : Int32)) hx hb dX1_renew_25 (by decide) ?_
        obtain ⟨g4, h⟩ := gd_s h
        refine va_iast hx hb hK hP hD hS 2 1 rfl rfl (inb_in g4) dX1_renew_26 (fun H locs hP hD hS => ?_)
        obtain ⟨T_5, eT_5⟩ : ∃ y : Nat → Nat → Int32, y = st T_3 1 (Int32.toNatClampNeg x2) (0 : Int32) := ⟨_, rfl⟩
        have h := ltt_s eT_5 h
        have hP : va_P D vwCl (xT a k T_5) H := by rw [eT_5]; exact hP
        have hD : va_D A (xT a k T_5) := by rw [eT_5]; exact hD
        refine lv_aload_n hx hb dX1_renew_27 rfl (lv_at hl 0 rfl) ?_
        refine va_get (D := D) (ci := 1) (v := .ref (a 3)) (C := RX1) (T := TX1) (N := 8) hx hb hts hin1 hown hK hP 0 rfl rfl 2 (by decide) (hts (.fieldLink RX1 18 "BallastLine$Track" "firmness" "[I") (List.mem_of_getElem? (i := 4) rfl)) (fun _ h9 => h9) rfl dX1_renew_28 ?_
        refine lv_iload_n hx hb dX1_renew_31 rfl (lv_at hl 1 rfl) ?_
        refine lv_iconst (v := (5 : Int32)) hx hb dX1_renew_32 (by decide) ?_
        obtain ⟨g6, h⟩ := gd_s h
        refine va_iast hx hb hK hP hD hS 3 2 rfl rfl (inb_in g6) dX1_renew_33 (fun H locs hP hD hS => ?_)
        obtain ⟨T_7, eT_7⟩ : ∃ y : Nat → Nat → Int32, y = st T_5 2 (Int32.toNatClampNeg x2) (5 : Int32) := ⟨_, rfl⟩
        have h := ltt_s eT_7 h
        have hP : va_P D vwCl (xT a k T_7) H := by rw [eT_7]; exact hP
        have hD : va_D A (xT a k T_7) := by rw [eT_7]; exact hD
        refine lv_aload_n hx hb dX1_renew_34 rfl (lv_at hl 0 rfl) ?_
        refine va_get (D := D) (ci := 1) (v := .ref (a 4)) (C := RX1) (T := TX1) (N := 8) hx hb hts hin1 hown hK hP 0 rfl rfl 3 (by decide) (hts (.fieldLink RX1 21 "BallastLine$Track" "hundredths" "[I") (List.mem_of_getElem? (i := 5) rfl)) (fun _ h9 => h9) rfl dX1_renew_35 ?_
        refine lv_iload_n hx hb dX1_renew_38 rfl (lv_at hl 1 rfl) ?_
        refine lv_iconst (v := (0 : Int32)) hx hb dX1_renew_39 (by decide) ?_
        obtain ⟨g8, h⟩ := gd_s h
        refine va_iast hx hb hK hP hD hS 4 3 rfl rfl (inb_in g8) dX1_renew_40 (fun H locs hP hD hS => ?_)
        obtain ⟨T_9, eT_9⟩ : ∃ y : Nat → Nat → Int32, y = st T_7 3 (Int32.toNatClampNeg x2) (0 : Int32) := ⟨_, rfl⟩
        have h := ltt_s eT_9 h
        have hP : va_P D vwCl (xT a k T_9) H := by rw [eT_9]; exact hP
        have hD : va_D A (xT a k T_9) := by rw [eT_9]; exact hD
        refine lv_aload_n hx hb dX1_renew_41 rfl (lv_at hl 0 rfl) ?_
        refine va_get (D := D) (ci := 1) (v := .ref (a 5)) (C := RX1) (T := TX1) (N := 8) hx hb hts hin1 hown hK hP 0 rfl rfl 4 (by decide) (hts (.fieldLink RX1 24 "BallastLine$Track" "axlesOver" "[I") (List.mem_of_getElem? (i := 6) rfl)) (fun _ h9 => h9) rfl dX1_renew_42 ?_
        refine lv_iload_n hx hb dX1_renew_45 rfl (lv_at hl 1 rfl) ?_
        refine lv_iconst (v := (0 : Int32)) hx hb dX1_renew_46 (by decide) ?_
        obtain ⟨g10, h⟩ := gd_s h
        refine va_iast hx hb hK hP hD hS 5 4 rfl rfl (inb_in g10) dX1_renew_47 (fun H locs hP hD hS => ?_)
        obtain ⟨T_11, eT_11⟩ : ∃ y : Nat → Nat → Int32, y = st T_9 4 (Int32.toNatClampNeg x2) (0 : Int32) := ⟨_, rfl⟩
        have h := ltt_s eT_11 h
        have hP : va_P D vwCl (xT a k T_11) H := by rw [eT_11]; exact hP
        have hD : va_D A (xT a k T_11) := by rw [eT_11]; exact hD
        refine lv_aload_n hx hb dX1_renew_48 rfl (lv_at hl 0 rfl) ?_
        refine va_get (D := D) (ci := 1) (v := .ref (a 6)) (C := RX1) (T := TX1) (N := 8) hx hb hts hin1 hown hK hP 0 rfl rfl 5 (by decide) (hts (.fieldLink RX1 27 "BallastLine$Track" "lost" "[Z") (List.mem_of_getElem? (i := 7) rfl)) (fun _ h9 => h9) rfl dX1_renew_49 ?_
        refine lv_iload_n hx hb dX1_renew_52 rfl (lv_at hl 1 rfl) ?_
        refine lv_iconst (v := (0 : Int32)) hx hb dX1_renew_53 (by decide) ?_
        obtain ⟨g12, h⟩ := gd_s h
        refine va_zast hx hb hK hP hD hS 6 5 rfl rfl (inb_in g12) dX1_renew_54 (fun H locs hP hD hS => ?_)
        obtain ⟨T_13, eT_13⟩ : ∃ y : Nat → Nat → Int32, y = st T_11 5 (Int32.toNatClampNeg x2) (vp_nar .boolean (0 : Int32)) := ⟨_, rfl⟩
        have h := ltt_s eT_13 h
        have hP : va_P D vwCl (xT a k T_13) H := by rw [eT_13]; exact hP
        have hD : va_D A (xT a k T_13) := by rw [eT_13]; exact hD
        refine lv_aload_n hx hb dX1_renew_55 rfl (lv_at hl 0 rfl) ?_
        refine va_get (D := D) (ci := 1) (v := .ref (a 7)) (C := RX1) (T := TX1) (N := 8) hx hb hts hin1 hown hK hP 0 rfl rfl 6 (by decide) (hts (.fieldLink RX1 31 "BallastLine$Track" "hanging" "[I") (List.mem_of_getElem? (i := 8) rfl)) (fun _ h9 => h9) rfl dX1_renew_56 ?_
        refine lv_iload_n hx hb dX1_renew_59 rfl (lv_at hl 1 rfl) ?_
        refine lv_iconst (v := (0 : Int32)) hx hb dX1_renew_60 (by decide) ?_
        obtain ⟨g14, h⟩ := gd_s h
        refine va_iast hx hb hK hP hD hS 7 6 rfl rfl (inb_in g14) dX1_renew_61 (fun H locs hP hD hS => ?_)
        obtain ⟨T_15, eT_15⟩ : ∃ y : Nat → Nat → Int32, y = st T_13 6 (Int32.toNatClampNeg x2) (0 : Int32) := ⟨_, rfl⟩
        have h := ltt_s eT_15 h
        have hP : va_P D vwCl (xT a k T_15) H := by rw [eT_15]; exact hP
        have hD : va_D A (xT a k T_15) := by rw [eT_15]; exact hD
        obtain ⟨v16, ev16⟩ : ∃ y : Int32, y = x2 + (1 : Int32) := ⟨_, rfl⟩
        have h := ltt_s ev16 h
        refine lv_iinc (v := v16) (lv' := [(2, .int v16), (0, .ref (a 0))]) hx hb dX1_renew_62 hl (k := 1) rfl (by rw [ev16]; rfl) (by decide) rfl (fun ls hl => ?_)
        refine lv_goto (tgt := 7) hx hb dX1_renew_65 (by decide) ?_
        exact ih v16 T_15 H locs hP hD hS ls (lv_sub hl [1, 0] rfl) h
  rw [f_X1_renew] at h
  obtain ⟨H, hH⟩ : ∃ H, H = s.heap := ⟨_, rfl⟩
  obtain ⟨locs, hlc⟩ : ∃ L : List Loc, L = [] := ⟨_, rfl⟩
  rw [← hH] at hP
  have hS : va_S A s.heap H locs := by rw [hH, hlc]; exact hS
  suffices hW9 : W p l e rm_X1_renew s m args below meth c H locs 0 0 Q (F0 m 0 ls []) by rw [hH, hlc] at hW9; exact hW9
  refine lv_aload_n hx hb dX1_renew_0 rfl (lv_at hl 0 rfl) ?_
  refine lv_iload_n hx hb dX1_renew_1 rfl (lv_at hl 1 rfl) ?_
  refine va_put (D := D) (ci := 1) (v := .int p0) (ty := .int) (C := RX1) (T := TX1) (N := 8) hx hb hts hin1 tyX1 tyX1_ok nmX1 hown hK hP hD hS 0 rfl rfl 7 (by decide) (hts (.fieldLink RX1 38 "BallastLine$Track" "size" "I") (List.mem_of_getElem? (i := 1) rfl)) (fun _ h9 => h9) rfl (by decide +kernel) rfl rfl (Nat.le_of_ble_eq_true rfl) dX1_renew_2 (fun H locs hP hD hS => ?_)
  obtain ⟨T_17, eT_17⟩ : ∃ y : Nat → Nat → Int32, y = st T0 7 0 p0 := ⟨_, rfl⟩
  have h := ltt_s eT_17 h
  have hP : va_P D vwCl (xT a k T_17) H := by rw [eT_17]; exact hP
  have hD : va_D A (xT a k T_17) := by rw [eT_17]; exact hD
  refine lv_iconst (v := (0 : Int32)) hx hb dX1_renew_5 (by decide) ?_
  refine lv_istore_n (lv' := [(2, .int (0 : Int32)), (0, .ref (a 0)), (1, .int p0)]) hx hb dX1_renew_6 rfl hl (by decide) rfl (fun ls hl => ?_)
  exact lb7 64 (0 : Int32) T_17 H locs hP hD hS ls (lv_sub hl [1, 0] rfl) h
def f_X1_setBed (T0 : Nat → Nat → Int32) (p0 : Int32) (p1 : Int32) : Option ((Nat → Nat → Int32)) := gd (inb p0 40) (ltt (st T0 1 (Int32.toNatClampNeg p0) p1) (fun (T_2 : Nat → Nat → Int32) => b1 (f_X1_forgetHanging T_2 p0) (fun (T_3 : Nat → Nat → Int32) => some T_3)))
abbrev rm_X1_setBed : Room := { frames := 2, cells := 0, slots := 0, locals := 45 }
set_option maxHeartbeats 4000000 in
set_option maxRecDepth 100000 in
theorem c_X1_setBed (l : Launch) (D : va_G) (a : Nat → Nat) (k : Nat → ClassId) (sz : Nat) (T0 : Nat → Nat → Int32) (p0 : Int32) (p1 : Int32) (Tz : (Nat → Nat → Int32)) (h : f_X1_setBed T0 p0 p1 = some Tz) : Met l yX1_setBed wsX1_setBed rm_X1_setBed (mPc D [.ref (a 0), .int p0, .int p1] (xT a k T0) (tT k) sz) (mQv D (xT a k T0) (xT a k Tz) sz) 0 0 (va_A (xT a k T0) sz) := by
  refine mk_met (cc := cX1_setBed) (maxL := 3) (ret := none) (by decide) rfl (Nat.le_of_ble_eq_true rfl) ?_
  intro p e s m below meth c hx hb hr hml hts hown hmn hlocks hnw hsz hK hP hD hS hA ls hl
  obtain ⟨A, hAe⟩ : ∃ A, A = va_A (xT a k T0) sz := ⟨_, rfl⟩
  rw [← hAe] at hD hS hA
  generalize hargs : List.toArray ([.ref (a 0), .int p0, .int p1] : List Value) = args at hts ⊢
  generalize hQ : MQ below (mQv D (xT a k T0) (xT a k Tz) sz) args s 0 0 (va_A (xT a k T0) sz) = Q
  have hl : lv_has ls 3 [(0, .ref (a 0)), (1, .int p0), (2, .int p1)] := hl
  have hin1 : ∀ w ∈ wsX10, w ∈ wsX1_setBed := fun w h => List.mem_cons_of_mem _ (List.mem_append_right _ h)
  rw [f_X1_setBed] at h
  obtain ⟨H, hH⟩ : ∃ H, H = s.heap := ⟨_, rfl⟩
  obtain ⟨locs, hlc⟩ : ∃ L : List Loc, L = [] := ⟨_, rfl⟩
  rw [← hH] at hP
  have hS : va_S A s.heap H locs := by rw [hH, hlc]; exact hS
  suffices hW9 : W p l e rm_X1_setBed s m args below meth c H locs 0 0 Q (F0 m 0 ls []) by rw [hH, hlc] at hW9; exact hW9
  refine lv_aload_n hx hb dX1_setBed_0 rfl (lv_at hl 0 rfl) ?_
  refine va_get (D := D) (ci := 1) (v := .ref (a 2)) (C := RX1) (T := TX1) (N := 8) hx hb hts hin1 hown hK hP 0 rfl rfl 1 (by decide) (hts (.fieldLink RX1 15 "BallastLine$Track" "beds" "[I") (List.mem_of_getElem? (i := 1) rfl)) (fun _ h9 => h9) rfl dX1_setBed_1 ?_
  refine lv_iload_n hx hb dX1_setBed_4 rfl (lv_at hl 1 rfl) ?_
  refine lv_iload_n hx hb dX1_setBed_5 rfl (lv_at hl 2 rfl) ?_
  obtain ⟨g1, h⟩ := gd_s h
  refine va_iast hx hb hK hP hD hS 2 1 rfl rfl (inb_in g1) dX1_setBed_6 (fun H locs hP hD hS => ?_)
  obtain ⟨T_2, eT_2⟩ : ∃ y : Nat → Nat → Int32, y = st T0 1 (Int32.toNatClampNeg p0) p1 := ⟨_, rfl⟩
  have h := ltt_s eT_2 h
  have hP : va_P D vwCl (xT a k T_2) H := by rw [eT_2]; exact hP
  have hD : va_D A (xT a k T_2) := by rw [eT_2]; exact hD
  refine lv_aload_n hx hb dX1_setBed_7 rfl (lv_at hl 0 rfl) ?_
  refine lv_iload_n hx hb dX1_setBed_8 rfl (lv_at hl 1 rfl) ?_
  obtain ⟨T_3, q3, h⟩ := b1_s h
  refine go_v (run_V (As := [.int p0]) (rest := []) ⟨hx, hb, hml, hown, hts⟩ hnw hK hP hD (fr_T_T a k T_2 T_3) (ks_T_T k) (c_X1_forgetHanging l D a k H.size T_2 p0 T_3 q3) (cwV 1 hts gX1_setBed_X1_forgetHanging rfl rfl rfl (by decide +kernel) ⟨Nat.le_of_ble_eq_true rfl, Nat.le_of_ble_eq_true rfl⟩) (rcv_T a k T_2) rfl hl.1 rfl (Nat.le_of_ble_eq_true rfl) dX1_setBed_9 ⟨Nat.zero_le _, Nat.zero_le _⟩) hP hD hS hA (fr_T_T a k T_2 T_3) (fun H locs hP hD hS => ?_)
  have h := Option.some.inj h
  have hP : va_P D vwCl (xT a k Tz) H := by rw [← h]; exact hP
  have hD : va_D A (xT a k Tz) := by rw [← h]; exact hD
  subst hQ
  subst hAe
  exact r_v hx hb hr hlocks hP hD hS dX1_setBed_12
def f_X4_floorShare  (p0 : Int32) (p1 : Int32) : Option (Int32) := if (1 : Int32) ≤ p1 then (gd (nz32 p1) (some (fd_val p0 p1))) else (some (0 : Int32))
abbrev rm_X4_floorShare : Room := { frames := 1, cells := 0, slots := 0, locals := 22 }
set_option maxHeartbeats 4000000 in
set_option maxRecDepth 100000 in
theorem c_X4_floorShare (l : Launch) (D : va_G) (sz : Nat)  (p0 : Int32) (p1 : Int32) (r : Int32) (h : f_X4_floorShare p0 p1 = some r) : Met l yX4_floorShare wsX4_floorShare rm_X4_floorShare (mPc D [.int p0, .int p1] ([] : va_W) ([] : List (ClassId × FieldType)) sz) (mQi D ([] : va_W) ([] : va_W) sz r) 0 0 (va_A ([] : va_W) sz) := by
  refine mk_met (cc := cX4_floorShare) (maxL := 2) (ret := (some .int)) (by decide) rfl (Nat.le_of_ble_eq_true rfl) ?_
  intro p e s m below meth c hx hb hr hml hts hown hmn hlocks hnw hsz hK hP hD hS hA ls hl
  obtain ⟨A, hAe⟩ : ∃ A, A = va_A ([] : va_W) sz := ⟨_, rfl⟩
  rw [← hAe] at hD hS hA
  generalize hargs : List.toArray ([.int p0, .int p1] : List Value) = args at hts ⊢
  generalize hQ : MQ below (mQi D ([] : va_W) ([] : va_W) sz r) args s 0 0 (va_A ([] : va_W) sz) = Q
  have hl : lv_has ls 2 [(0, .int p0), (1, .int p1)] := hl
  rw [f_X4_floorShare] at h
  obtain ⟨H, hH⟩ : ∃ H, H = s.heap := ⟨_, rfl⟩
  obtain ⟨locs, hlc⟩ : ∃ L : List Loc, L = [] := ⟨_, rfl⟩
  rw [← hH] at hP
  have hS : va_S A s.heap H locs := by rw [hH, hlc]; exact hS
  suffices hW9 : W p l e rm_X4_floorShare s m args below meth c H locs 0 0 Q (F0 m 0 ls []) by rw [hH, hlc] at hW9; exact hW9
  refine lv_iload_n hx hb dX4_floorShare_0 rfl (lv_at hl 1 rfl) ?_
  refine lv_iconst (v := (1 : Int32)) hx hb dX4_floorShare_1 (by decide) ?_
  refine lv_icmp_ge (tgt := 9) hx hb dX4_floorShare_2 (by decide) (fun c1 => ?_) (fun c1 => ?_)
  · have h := it_t c1 h
    refine lv_iload_n hx hb dX4_floorShare_9 rfl (lv_at hl 0 rfl) ?_
    refine lv_iload_n hx hb dX4_floorShare_10 rfl (lv_at hl 1 rfl) ?_
    obtain ⟨g2, h⟩ := gd_s h
    refine va_mfd hx hb (hml.trans hl.1.symm) hown (hts (.methodLink RX4 237 yJ9_floorDiv_7cf53) (List.mem_of_getElem? (i := 1) rfl)) (hts (.static yJ9_floorDiv_7cf53) (List.mem_of_getElem? (i := 2) rfl)) (hts (.initialized RJ9) (List.mem_of_getElem? (i := 3) rfl)) (hts (.code yJ9_floorDiv_7cf53 cJ9_floorDiv_7cf53 3 (some .int)) (List.mem_of_getElem? (i := 4) rfl)) (Nat.le_of_ble_eq_true rfl) (Nat.le_of_ble_eq_true rfl) (Nat.zero_le _) (Nat.zero_le _) (nz32_s g2) dX4_floorShare_11 ?_
    have h := Option.some.inj h
    subst hQ
    subst hAe
    exact r_i hx hb hr hlocks h hP hD hS dX4_floorShare_14
  · have h := it_f c1 h
    refine lv_iconst (v := (0 : Int32)) hx hb dX4_floorShare_5 (by decide) ?_
    refine lv_goto (tgt := 14) hx hb dX4_floorShare_6 (by decide) ?_
    have h := Option.some.inj h
    subst hQ
    subst hAe
    exact r_i hx hb hr hlocks h hP hD hS dX4_floorShare_14
def f_X1_lineAt (T0 : Nat → Nat → Int32) (p0 : Int32) (p1 : Int32) (p2 : Int32) : Option (Int32) := gd (inb p0 40) (gd (inb p1 40) (b1 (f_X4_floorShare (((T0 1 (Int32.toNatClampNeg p0)) * (p1 - p2)) + ((T0 1 (Int32.toNatClampNeg p1)) * (p2 - p0))) (p1 - p0)) (fun r3 => some r3)))
abbrev rm_X1_lineAt : Room := { frames := 2, cells := 0, slots := 0, locals := 43 }
set_option maxHeartbeats 4000000 in
set_option maxRecDepth 100000 in
theorem c_X1_lineAt (l : Launch) (D : va_G) (a : Nat → Nat) (k : Nat → ClassId) (sz : Nat) (T0 : Nat → Nat → Int32) (p0 : Int32) (p1 : Int32) (p2 : Int32) (r : Int32) (h : f_X1_lineAt T0 p0 p1 p2 = some r) : Met l yX1_lineAt wsX1_lineAt rm_X1_lineAt (mPc D [.ref (a 0), .int p0, .int p1, .int p2] (xT a k T0) (tT k) sz) (mQi D (xT a k T0) (xT a k T0) sz r) 0 0 (va_A (xT a k T0) sz) := by
  refine mk_met (cc := cX1_lineAt) (maxL := 4) (ret := (some .int)) (by decide) rfl (Nat.le_of_ble_eq_true rfl) ?_
  intro p e s m below meth c hx hb hr hml hts hown hmn hlocks hnw hsz hK hP hD hS hA ls hl
  obtain ⟨A, hAe⟩ : ∃ A, A = va_A (xT a k T0) sz := ⟨_, rfl⟩
  rw [← hAe] at hD hS hA
  generalize hargs : List.toArray ([.ref (a 0), .int p0, .int p1, .int p2] : List Value) = args at hts ⊢
  generalize hQ : MQ below (mQi D (xT a k T0) (xT a k T0) sz r) args s 0 0 (va_A (xT a k T0) sz) = Q
  have hl : lv_has ls 4 [(0, .ref (a 0)), (1, .int p0), (2, .int p1), (3, .int p2)] := hl
  have hin1 : ∀ w ∈ wsX10, w ∈ wsX1_lineAt := fun w h => List.mem_cons_of_mem _ (List.mem_append_right _ h)
  rw [f_X1_lineAt] at h
  obtain ⟨H, hH⟩ : ∃ H, H = s.heap := ⟨_, rfl⟩
  obtain ⟨locs, hlc⟩ : ∃ L : List Loc, L = [] := ⟨_, rfl⟩
  rw [← hH] at hP
  have hS : va_S A s.heap H locs := by rw [hH, hlc]; exact hS
  suffices hW9 : W p l e rm_X1_lineAt s m args below meth c H locs 0 0 Q (F0 m 0 ls []) by rw [hH, hlc] at hW9; exact hW9
  refine lv_aload_n hx hb dX1_lineAt_0 rfl (lv_at hl 0 rfl) ?_
  refine va_get (D := D) (ci := 1) (v := .ref (a 2)) (C := RX1) (T := TX1) (N := 8) hx hb hts hin1 hown hK hP 0 rfl rfl 1 (by decide) (hts (.fieldLink RX1 15 "BallastLine$Track" "beds" "[I") (List.mem_of_getElem? (i := 1) rfl)) (fun _ h9 => h9) rfl dX1_lineAt_1 ?_
  refine lv_iload_n hx hb dX1_lineAt_4 rfl (lv_at hl 1 rfl) ?_
  obtain ⟨g1, h⟩ := gd_s h
  refine va_iald hx hb hK hP 2 1 rfl rfl (inb_in g1) dX1_lineAt_5 ?_
  refine lv_iload_n hx hb dX1_lineAt_6 rfl (lv_at hl 2 rfl) ?_
  refine lv_iload_n hx hb dX1_lineAt_7 rfl (lv_at hl 3 rfl) ?_
  refine lv_isub hx hb dX1_lineAt_8 ?_
  refine lv_imul hx hb dX1_lineAt_9 ?_
  refine lv_aload_n hx hb dX1_lineAt_10 rfl (lv_at hl 0 rfl) ?_
  refine va_get (D := D) (ci := 1) (v := .ref (a 2)) (C := RX1) (T := TX1) (N := 8) hx hb hts hin1 hown hK hP 0 rfl rfl 1 (by decide) (hts (.fieldLink RX1 15 "BallastLine$Track" "beds" "[I") (List.mem_of_getElem? (i := 1) rfl)) (fun _ h9 => h9) rfl dX1_lineAt_11 ?_
  refine lv_iload_n hx hb dX1_lineAt_14 rfl (lv_at hl 2 rfl) ?_
  obtain ⟨g2, h⟩ := gd_s h
  refine va_iald hx hb hK hP 2 1 rfl rfl (inb_in g2) dX1_lineAt_15 ?_
  refine lv_iload_n hx hb dX1_lineAt_16 rfl (lv_at hl 3 rfl) ?_
  refine lv_iload_n hx hb dX1_lineAt_17 rfl (lv_at hl 1 rfl) ?_
  refine lv_isub hx hb dX1_lineAt_18 ?_
  refine lv_imul hx hb dX1_lineAt_19 ?_
  refine lv_iadd hx hb dX1_lineAt_20 ?_
  refine lv_iload_n hx hb dX1_lineAt_21 rfl (lv_at hl 2 rfl) ?_
  refine lv_iload_n hx hb dX1_lineAt_22 rfl (lv_at hl 1 rfl) ?_
  refine lv_isub hx hb dX1_lineAt_23 ?_
  obtain ⟨r3, q3, h⟩ := b1_s h
  refine go_i (run_SN (As := [.int (((T0 1 (Int32.toNatClampNeg p0)) * (p1 - p2)) + ((T0 1 (Int32.toNatClampNeg p1)) * (p2 - p0))), .int (p1 - p0)]) (rest := []) ⟨hx, hb, hml, hown, hts⟩ hnw hK hP hD (fr_T_E a k T0) (ks_T_E k) (c_X4_floorShare l D H.size (((T0 1 (Int32.toNatClampNeg p0)) * (p1 - p2)) + ((T0 1 (Int32.toNatClampNeg p1)) * (p2 - p0))) (p1 - p0) r3 q3) ⟨va_cnB 2 hts ggX1_lineAt_X4_floorShare rfl rfl rfl (hnw.2 (RX1, 70, yX4_floorShare, RX4) (List.mem_of_getElem? (i := 10) rfl)) (hts (.initialized RX4) (List.mem_of_getElem? (i := 3) rfl)) (by decide +kernel) ⟨Nat.le_of_ble_eq_true rfl, Nat.le_of_ble_eq_true rfl⟩, (hts (.static yX4_floorShare) (List.mem_of_getElem? (i := 2) rfl)), trivial⟩ rfl hl.1 rfl (Nat.le_of_ble_eq_true rfl) dX1_lineAt_24 ⟨Nat.zero_le _, Nat.zero_le _⟩) hP hD hS hA (fr_T_E a k T0) (fun H locs hP hD hS => ?_)
  have h := Option.some.inj h
  subst hQ
  subst hAe
  exact r_i hx hb hr hlocks h hP hD hS dX1_lineAt_27
def f_X1_nearestBed_L2 (T0 : Nat → Nat → Int32) (p0 : Int32)  : Nat → Int32 → Option (Int32)
  | 0, _ => none
  | n + 1, x2 => if (T0 7 0) ≤ x2 then (some (0 : Int32)) else (b1 (f_X1_stands T0 (p0 - x2)) (fun r2 => if r2 = (0 : Int32) then (b1 (f_X1_stands T0 (p0 + x2)) (fun r4 => if r4 = (0 : Int32) then (ltt (x2 + (1 : Int32)) (fun v6 => f_X1_nearestBed_L2 T0 p0 n v6)) else (gd (inb (p0 + x2) 40) (some (T0 1 (Int32.toNatClampNeg (p0 + x2))))))) else (gd (inb (p0 - x2) 40) (some (T0 1 (Int32.toNatClampNeg (p0 - x2)))))))
def f_X1_nearestBed (T0 : Nat → Nat → Int32) (p0 : Int32) : Option (Int32) := f_X1_nearestBed_L2 T0 p0 64 (0 : Int32)
abbrev rm_X1_nearestBed : Room := { frames := 2, cells := 0, slots := 0, locals := 42 }
set_option maxHeartbeats 4000000 in
set_option maxRecDepth 100000 in
theorem c_X1_nearestBed (l : Launch) (D : va_G) (a : Nat → Nat) (k : Nat → ClassId) (sz : Nat) (T0 : Nat → Nat → Int32) (p0 : Int32) (r : Int32) (h : f_X1_nearestBed T0 p0 = some r) : Met l yX1_nearestBed wsX1_nearestBed rm_X1_nearestBed (mPc D [.ref (a 0), .int p0] (xT a k T0) (tT k) sz) (mQi D (xT a k T0) (xT a k T0) sz r) 0 0 (va_A (xT a k T0) sz) := by
  refine mk_met (cc := cX1_nearestBed) (maxL := 3) (ret := (some .int)) (by decide) rfl (Nat.le_of_ble_eq_true rfl) ?_
  intro p e s m below meth c hx hb hr hml hts hown hmn hlocks hnw hsz hK hP hD hS hA ls hl
  obtain ⟨A, hAe⟩ : ∃ A, A = va_A (xT a k T0) sz := ⟨_, rfl⟩
  rw [← hAe] at hD hS hA
  generalize hargs : List.toArray ([.ref (a 0), .int p0] : List Value) = args at hts ⊢
  generalize hQ : MQ below (mQi D (xT a k T0) (xT a k T0) sz r) args s 0 0 (va_A (xT a k T0) sz) = Q
  have hl : lv_has ls 3 [(0, .ref (a 0)), (1, .int p0)] := hl
  have hin1 : ∀ w ∈ wsX10, w ∈ wsX1_nearestBed := fun w h => List.mem_cons_of_mem _ (List.mem_append_right _ h)
  have lb2 : ∀ (n : Nat), ∀ (x2 : Int32), ∀ (H : Heap) (locs : List Loc), va_P D vwCl (xT a k T0) H → va_D A (xT a k T0) → va_S A s.heap H locs → ∀ ls : Array Slot, lv_has ls 3 [(0, .ref (a 0)), (1, .int p0), (2, .int x2)] → f_X1_nearestBed_L2 T0 p0 n x2 = some r → W p l e rm_X1_nearestBed s m args below meth c H locs 0 0 Q (F0 m 2 ls []) := by
    intro n
    induction n with
    | zero =>
      intro x2 H locs hP hD hS ls hl h
      rw [f_X1_nearestBed_L2] at h
      cases h
    | succ n ih =>
      intro x2 H locs hP hD hS ls hl h
      rw [f_X1_nearestBed_L2] at h
      refine lv_iload_n hx hb dX1_nearestBed_2 rfl (lv_at hl 2 rfl) ?_
      refine lv_aload_n hx hb dX1_nearestBed_3 rfl (lv_at hl 0 rfl) ?_
      refine va_get (D := D) (ci := 1) (v := .int (T0 7 0)) (C := RX1) (T := TX1) (N := 8) hx hb hts hin1 hown hK hP 0 rfl rfl 7 (by decide) (hts (.fieldLink RX1 38 "BallastLine$Track" "size" "I") (List.mem_of_getElem? (i := 1) rfl)) (fun _ h9 => h9) rfl dX1_nearestBed_4 ?_
      refine lv_icmp_ge (tgt := 54) hx hb dX1_nearestBed_7 (by decide) (fun c1 => ?_) (fun c1 => ?_)
      · have h := it_t c1 h
        refine lv_iconst (v := (0 : Int32)) hx hb dX1_nearestBed_54 (by decide) ?_
        have h := Option.some.inj h
        subst hQ
        subst hAe
        exact r_i hx hb hr hlocks h hP hD hS dX1_nearestBed_55
      · have h := it_f c1 h
        refine lv_aload_n hx hb dX1_nearestBed_10 rfl (lv_at hl 0 rfl) ?_
        refine lv_iload_n hx hb dX1_nearestBed_11 rfl (lv_at hl 1 rfl) ?_
        refine lv_iload_n hx hb dX1_nearestBed_12 rfl (lv_at hl 2 rfl) ?_
        refine lv_isub hx hb dX1_nearestBed_13 ?_
        obtain ⟨r2, q2, h⟩ := b1_s h
        refine go_i (run_V (As := [.int (p0 - x2)]) (rest := []) ⟨hx, hb, hml, hown, hts⟩ hnw hK hP hD (fr_T_T a k T0 T0) (ks_T_T k) (c_X1_stands l D a k H.size T0 (p0 - x2) r2 q2) (cwV 1 hts gX1_nearestBed_X1_stands rfl rfl rfl (by decide +kernel) ⟨Nat.le_of_ble_eq_true rfl, Nat.le_of_ble_eq_true rfl⟩) (rcv_T a k T0) rfl hl.1 rfl (Nat.le_of_ble_eq_true rfl) dX1_nearestBed_14 ⟨Nat.zero_le _, Nat.zero_le _⟩) hP hD hS hA (fr_T_T a k T0 T0) (fun H locs hP hD hS => ?_)
        refine lv_if_eq (tgt := 29) hx hb dX1_nearestBed_17 (by decide) (fun c3 => ?_) (fun c3 => ?_)
        · have h := it_t c3 h
          refine lv_aload_n hx hb dX1_nearestBed_29 rfl (lv_at hl 0 rfl) ?_
          refine lv_iload_n hx hb dX1_nearestBed_30 rfl (lv_at hl 1 rfl) ?_
          refine lv_iload_n hx hb dX1_nearestBed_31 rfl (lv_at hl 2 rfl) ?_
          refine lv_iadd hx hb dX1_nearestBed_32 ?_
          obtain ⟨r4, q4, h⟩ := b1_s h
          refine go_i (run_V (As := [.int (p0 + x2)]) (rest := []) ⟨hx, hb, hml, hown, hts⟩ hnw hK hP hD (fr_T_T a k T0 T0) (ks_T_T k) (c_X1_stands l D a k H.size T0 (p0 + x2) r4 q4) (cwV 1 hts gX1_nearestBed_X1_stands rfl rfl rfl (by decide +kernel) ⟨Nat.le_of_ble_eq_true rfl, Nat.le_of_ble_eq_true rfl⟩) (rcv_T a k T0) rfl hl.1 rfl (Nat.le_of_ble_eq_true rfl) dX1_nearestBed_33 ⟨Nat.zero_le _, Nat.zero_le _⟩) hP hD hS hA (fr_T_T a k T0 T0) (fun H locs hP hD hS => ?_)
          refine lv_if_eq (tgt := 48) hx hb dX1_nearestBed_36 (by decide) (fun c5 => ?_) (fun c5 => ?_)
          · have h := it_t c5 h
            obtain ⟨v6, ev6⟩ : ∃ y : Int32, y = x2 + (1 : Int32) := ⟨_, rfl⟩
            have h := ltt_s ev6 h
            refine lv_iinc (v := v6) (lv' := [(2, .int v6), (0, .ref (a 0)), (1, .int p0)]) hx hb dX1_nearestBed_48 hl (k := 2) rfl (by rw [ev6]; rfl) (by decide) rfl (fun ls hl => ?_)
            refine lv_goto (tgt := 2) hx hb dX1_nearestBed_51 (by decide) ?_
            exact ih v6 H locs hP hD hS ls (lv_sub hl [1, 2, 0] rfl) h
          · have h := it_f c5 h
            refine lv_aload_n hx hb dX1_nearestBed_39 rfl (lv_at hl 0 rfl) ?_
            refine va_get (D := D) (ci := 1) (v := .ref (a 2)) (C := RX1) (T := TX1) (N := 8) hx hb hts hin1 hown hK hP 0 rfl rfl 1 (by decide) (hts (.fieldLink RX1 15 "BallastLine$Track" "beds" "[I") (List.mem_of_getElem? (i := 2) rfl)) (fun _ h9 => h9) rfl dX1_nearestBed_40 ?_
            refine lv_iload_n hx hb dX1_nearestBed_43 rfl (lv_at hl 1 rfl) ?_
            refine lv_iload_n hx hb dX1_nearestBed_44 rfl (lv_at hl 2 rfl) ?_
            refine lv_iadd hx hb dX1_nearestBed_45 ?_
            obtain ⟨g7, h⟩ := gd_s h
            refine va_iald hx hb hK hP 2 1 rfl rfl (inb_in g7) dX1_nearestBed_46 ?_
            have h := Option.some.inj h
            subst hQ
            subst hAe
            exact r_i hx hb hr hlocks h hP hD hS dX1_nearestBed_47
        · have h := it_f c3 h
          refine lv_aload_n hx hb dX1_nearestBed_20 rfl (lv_at hl 0 rfl) ?_
          refine va_get (D := D) (ci := 1) (v := .ref (a 2)) (C := RX1) (T := TX1) (N := 8) hx hb hts hin1 hown hK hP 0 rfl rfl 1 (by decide) (hts (.fieldLink RX1 15 "BallastLine$Track" "beds" "[I") (List.mem_of_getElem? (i := 2) rfl)) (fun _ h9 => h9) rfl dX1_nearestBed_21 ?_
          refine lv_iload_n hx hb dX1_nearestBed_24 rfl (lv_at hl 1 rfl) ?_
          refine lv_iload_n hx hb dX1_nearestBed_25 rfl (lv_at hl 2 rfl) ?_
          refine lv_isub hx hb dX1_nearestBed_26 ?_
          obtain ⟨g8, h⟩ := gd_s h
          refine va_iald hx hb hK hP 2 1 rfl rfl (inb_in g8) dX1_nearestBed_27 ?_
          have h := Option.some.inj h
          subst hQ
          subst hAe
          exact r_i hx hb hr hlocks h hP hD hS dX1_nearestBed_28
  rw [f_X1_nearestBed] at h
  obtain ⟨H, hH⟩ : ∃ H, H = s.heap := ⟨_, rfl⟩
  obtain ⟨locs, hlc⟩ : ∃ L : List Loc, L = [] := ⟨_, rfl⟩
  rw [← hH] at hP
  have hS : va_S A s.heap H locs := by rw [hH, hlc]; exact hS
  suffices hW9 : W p l e rm_X1_nearestBed s m args below meth c H locs 0 0 Q (F0 m 0 ls []) by rw [hH, hlc] at hW9; exact hW9
  refine lv_iconst (v := (0 : Int32)) hx hb dX1_nearestBed_0 (by decide) ?_
  refine lv_istore_n (lv' := [(2, .int (0 : Int32)), (0, .ref (a 0)), (1, .int p0)]) hx hb dX1_nearestBed_1 rfl hl (by decide) rfl (fun ls hl => ?_)
  exact lb2 64 (0 : Int32) H locs hP hD hS ls (lv_sub hl [1, 2, 0] rfl) h
def f_X1_height_J93 (T0 : Nat → Nat → Int32) (p0 : Int32) (ko30 : Int32 → Int32 → Option (Int32)) (ko54 : Int32 → Int32 → Int32 → Int32 → Option (Int32)) (x2 : Int32) (x3 : Int32) (x4 : Int32) (x5 : Int32) : Option (Int32) := ltt (x5 + (1 : Int32)) (fun v1 => ko54 x2 x3 x4 v1)
def f_X1_height_J99 (T0 : Nat → Nat → Int32) (p0 : Int32) (ko30 : Int32 → Int32 → Option (Int32)) (x2 : Int32) (x3 : Int32) : Option (Int32) := ltt (x3 + (1 : Int32)) (fun v2 => ko30 x2 v2)
def f_X1_height_L54 (T0 : Nat → Nat → Int32) (p0 : Int32) (ko30 : Int32 → Int32 → Option (Int32)) : Nat → Int32 → Int32 → Int32 → Int32 → Option (Int32)
  | 0, _, _, _, _ => none
  | n + 1, x2, x3, x4, x5 => if x4 < x5 then (f_X1_height_J99 T0 p0 ko30 x2 x3) else (gd (inb x3 40) (if (T0 5 (Int32.toNatClampNeg x3)) = (0 : Int32) then (gd (inb x5 40) (if (T0 5 (Int32.toNatClampNeg x5)) = (0 : Int32) then (b1 (f_X1_lineAt T0 x3 x5 p0) (fun r8 => ltt ((if x2 < r8 then r8 else x2)) (fun v9 => f_X1_height_J93 T0 p0 ko30 (f_X1_height_L54 T0 p0 ko30 n) v9 x3 x4 x5))) else (f_X1_height_J93 T0 p0 ko30 (f_X1_height_L54 T0 p0 ko30 n) x2 x3 x4 x5))) else (f_X1_height_J99 T0 p0 ko30 x2 x3)))
def f_X1_height_L30 (T0 : Nat → Nat → Int32) (p0 : Int32)  : Nat → Int32 → Int32 → Option (Int32)
  | 0, _, _ => none
  | n + 1, x2, x3 => if p0 ≤ x3 then (if x2 = (-1000000000 : Int32) then (b1 (f_X1_nearestBed T0 p0) (fun r12 => some r12)) else (some x2)) else (ltt ((if (x3 + (4 : Int32)) < ((T0 7 0) - (1 : Int32)) then (x3 + (4 : Int32)) else ((T0 7 0) - (1 : Int32)))) (fun v13 => ltt ((p0 + (1 : Int32))) (fun v14 => f_X1_height_L54 T0 p0 (f_X1_height_L30 T0 p0 n) 64 x2 x3 v13 v14)))
def f_X1_height_J19 (T0 : Nat → Nat → Int32) (p0 : Int32)  (s0 : Int32) : Option (Int32) := ltt ((if (0 : Int32) < ((p0 - (4 : Int32)) + (1 : Int32)) then ((p0 - (4 : Int32)) + (1 : Int32)) else (0 : Int32))) (fun v15 => f_X1_height_L30 T0 p0 64 s0 v15)
def f_X1_height (T0 : Nat → Nat → Int32) (p0 : Int32) : Option (Int32) := b1 (f_X1_stands T0 p0) (fun r16 => if r16 = (0 : Int32) then (f_X1_height_J19 T0 p0 (-1000000000 : Int32)) else (gd (inb p0 40) (f_X1_height_J19 T0 p0 (T0 1 (Int32.toNatClampNeg p0)))))
abbrev rm_X1_height : Room := { frames := 3, cells := 0, slots := 0, locals := 66 }
set_option maxHeartbeats 4000000 in
set_option maxRecDepth 100000 in
theorem c_X1_height (l : Launch) (D : va_G) (a : Nat → Nat) (k : Nat → ClassId) (sz : Nat) (T0 : Nat → Nat → Int32) (p0 : Int32) (r : Int32) (h : f_X1_height T0 p0 = some r) : Met l yX1_height wsX1_height rm_X1_height (mPc D [.ref (a 0), .int p0] (xT a k T0) (tT k) sz) (mQi D (xT a k T0) (xT a k T0) sz r) 0 0 (va_A (xT a k T0) sz) := by
  refine mk_met (cc := cX1_height) (maxL := 6) (ret := (some .int)) (by decide) rfl (Nat.le_of_ble_eq_true rfl) ?_
  intro p e s m below meth c hx hb hr hml hts hown hmn hlocks hnw hsz hK hP hD hS hA ls hl
  obtain ⟨A, hAe⟩ : ∃ A, A = va_A (xT a k T0) sz := ⟨_, rfl⟩
  rw [← hAe] at hD hS hA
  generalize hargs : List.toArray ([.ref (a 0), .int p0] : List Value) = args at hts ⊢
  generalize hQ : MQ below (mQi D (xT a k T0) (xT a k T0) sz r) args s 0 0 (va_A (xT a k T0) sz) = Q
  have hl : lv_has ls 6 [(0, .ref (a 0)), (1, .int p0)] := hl
  have hin1 : ∀ w ∈ wsX10, w ∈ wsX1_height := fun w h => List.mem_cons_of_mem _ (List.mem_append_right _ h)
  have lb93 : ∀ (ko30 : Int32 → Int32 → Option (Int32)), (∀ (x2 : Int32) (x3 : Int32), ∀ (H : Heap) (locs : List Loc), va_P D vwCl (xT a k T0) H → va_D A (xT a k T0) → va_S A s.heap H locs → ∀ ls : Array Slot, lv_has ls 6 [(0, .ref (a 0)), (1, .int p0), (2, .int x2), (3, .int x3)] → ko30 x2 x3 = some r → W p l e rm_X1_height s m args below meth c H locs 0 0 Q (F0 m 30 ls [])) → ∀ (ko54 : Int32 → Int32 → Int32 → Int32 → Option (Int32)), (∀ (x2 : Int32) (x3 : Int32) (x4 : Int32) (x5 : Int32), ∀ (H : Heap) (locs : List Loc), va_P D vwCl (xT a k T0) H → va_D A (xT a k T0) → va_S A s.heap H locs → ∀ ls : Array Slot, lv_has ls 6 [(0, .ref (a 0)), (1, .int p0), (2, .int x2), (3, .int x3), (4, .int x4), (5, .int x5)] → ko54 x2 x3 x4 x5 = some r → W p l e rm_X1_height s m args below meth c H locs 0 0 Q (F0 m 54 ls [])) → ∀ (x2 : Int32) (x3 : Int32) (x4 : Int32) (x5 : Int32), ∀ (H : Heap) (locs : List Loc), va_P D vwCl (xT a k T0) H → va_D A (xT a k T0) → va_S A s.heap H locs → ∀ ls : Array Slot, lv_has ls 6 [(0, .ref (a 0)), (1, .int p0), (2, .int x2), (3, .int x3), (4, .int x4), (5, .int x5)] → f_X1_height_J93 T0 p0 ko30 ko54 x2 x3 x4 x5 = some r → W p l e rm_X1_height s m args below meth c H locs 0 0 Q (F0 m 93 ls []) := by
    intro ko30 hko30 ko54 hko54 x2 x3 x4 x5 H locs hP hD hS ls hl h
    rw [f_X1_height_J93] at h
    obtain ⟨v1, ev1⟩ : ∃ y : Int32, y = x5 + (1 : Int32) := ⟨_, rfl⟩
    have h := ltt_s ev1 h
    refine lv_iinc (v := v1) (lv' := [(5, .int v1), (0, .ref (a 0)), (1, .int p0), (2, .int x2), (3, .int x3), (4, .int x4)]) hx hb dX1_height_93 hl (k := 5) rfl (by rw [ev1]; rfl) (by decide) rfl (fun ls hl => ?_)
    refine lv_goto (tgt := 54) hx hb dX1_height_96 (by decide) ?_
    exact hko54 x2 x3 x4 v1 H locs hP hD hS ls (lv_sub hl [1, 2, 3, 4, 5, 0] rfl) h
  have lb99 : ∀ (ko30 : Int32 → Int32 → Option (Int32)), (∀ (x2 : Int32) (x3 : Int32), ∀ (H : Heap) (locs : List Loc), va_P D vwCl (xT a k T0) H → va_D A (xT a k T0) → va_S A s.heap H locs → ∀ ls : Array Slot, lv_has ls 6 [(0, .ref (a 0)), (1, .int p0), (2, .int x2), (3, .int x3)] → ko30 x2 x3 = some r → W p l e rm_X1_height s m args below meth c H locs 0 0 Q (F0 m 30 ls [])) → ∀ (x2 : Int32) (x3 : Int32), ∀ (H : Heap) (locs : List Loc), va_P D vwCl (xT a k T0) H → va_D A (xT a k T0) → va_S A s.heap H locs → ∀ ls : Array Slot, lv_has ls 6 [(0, .ref (a 0)), (1, .int p0), (2, .int x2), (3, .int x3)] → f_X1_height_J99 T0 p0 ko30 x2 x3 = some r → W p l e rm_X1_height s m args below meth c H locs 0 0 Q (F0 m 99 ls []) := by
    intro ko30 hko30 x2 x3 H locs hP hD hS ls hl h
    rw [f_X1_height_J99] at h
    obtain ⟨v2, ev2⟩ : ∃ y : Int32, y = x3 + (1 : Int32) := ⟨_, rfl⟩
    have h := ltt_s ev2 h
    refine lv_iinc (v := v2) (lv' := [(3, .int v2), (0, .ref (a 0)), (1, .int p0), (2, .int x2)]) hx hb dX1_height_99 hl (k := 3) rfl (by rw [ev2]; rfl) (by decide) rfl (fun ls hl => ?_)
    refine lv_goto (tgt := 30) hx hb dX1_height_102 (by decide) ?_
    exact hko30 x2 v2 H locs hP hD hS ls (lv_sub hl [1, 2, 3, 0] rfl) h
  have lb54 : ∀ (ko30 : Int32 → Int32 → Option (Int32)), (∀ (x2 : Int32) (x3 : Int32), ∀ (H : Heap) (locs : List Loc), va_P D vwCl (xT a k T0) H → va_D A (xT a k T0) → va_S A s.heap H locs → ∀ ls : Array Slot, lv_has ls 6 [(0, .ref (a 0)), (1, .int p0), (2, .int x2), (3, .int x3)] → ko30 x2 x3 = some r → W p l e rm_X1_height s m args below meth c H locs 0 0 Q (F0 m 30 ls [])) → ∀ (n : Nat), ∀ (x2 : Int32) (x3 : Int32) (x4 : Int32) (x5 : Int32), ∀ (H : Heap) (locs : List Loc), va_P D vwCl (xT a k T0) H → va_D A (xT a k T0) → va_S A s.heap H locs → ∀ ls : Array Slot, lv_has ls 6 [(0, .ref (a 0)), (1, .int p0), (2, .int x2), (3, .int x3), (4, .int x4), (5, .int x5)] → f_X1_height_L54 T0 p0 ko30 n x2 x3 x4 x5 = some r → W p l e rm_X1_height s m args below meth c H locs 0 0 Q (F0 m 54 ls []) := by
    intro ko30 hko30
    intro n
    induction n with
    | zero =>
      intro x2 x3 x4 x5 H locs hP hD hS ls hl h
      rw [f_X1_height_L54] at h
      cases h
    | succ n ih =>
      intro x2 x3 x4 x5 H locs hP hD hS ls hl h
      rw [f_X1_height_L54] at h
      refine lv_iload hx hb dX1_height_54 (lv_at hl 5 rfl) ?_
      refine lv_iload hx hb dX1_height_56 (lv_at hl 4 rfl) ?_
      refine lv_icmp_gt (tgt := 99) hx hb dX1_height_58 (by decide) (fun c3 => ?_) (fun c3 => ?_)
      · have h := it_t c3 h
        exact lb99 ko30 hko30 x2 x3 H locs hP hD hS ls (lv_sub hl [0, 1, 2, 3] rfl) h
      · have h := it_f c3 h
        refine lv_aload_n hx hb dX1_height_61 rfl (lv_at hl 0 rfl) ?_
        refine va_get (D := D) (ci := 1) (v := .ref (a 6)) (C := RX1) (T := TX1) (N := 8) hx hb hts hin1 hown hK hP 0 rfl rfl 5 (by decide) (hts (.fieldLink RX1 27 "BallastLine$Track" "lost" "[Z") (List.mem_of_getElem? (i := 11) rfl)) (fun _ h9 => h9) rfl dX1_height_62 ?_
        refine lv_iload_n hx hb dX1_height_65 rfl (lv_at hl 3 rfl) ?_
        obtain ⟨g4, h⟩ := gd_s h
        refine va_zald hx hb hK hP 6 5 rfl rfl (inb_in g4) dX1_height_66 ?_
        refine lv_if_ne (tgt := 99) hx hb dX1_height_67 (by decide) (fun c5 => ?_) (fun c5 => ?_)
        · have h := it_f c5 h
          exact lb99 ko30 hko30 x2 x3 H locs hP hD hS ls (lv_sub hl [0, 1, 2, 3] rfl) h
        · have h := it_t c5 h
          refine lv_aload_n hx hb dX1_height_70 rfl (lv_at hl 0 rfl) ?_
          refine va_get (D := D) (ci := 1) (v := .ref (a 6)) (C := RX1) (T := TX1) (N := 8) hx hb hts hin1 hown hK hP 0 rfl rfl 5 (by decide) (hts (.fieldLink RX1 27 "BallastLine$Track" "lost" "[Z") (List.mem_of_getElem? (i := 11) rfl)) (fun _ h9 => h9) rfl dX1_height_71 ?_
          refine lv_iload hx hb dX1_height_74 (lv_at hl 5 rfl) ?_
          obtain ⟨g6, h⟩ := gd_s h
          refine va_zald hx hb hK hP 6 5 rfl rfl (inb_in g6) dX1_height_76 ?_
          refine lv_if_ne (tgt := 93) hx hb dX1_height_77 (by decide) (fun c7 => ?_) (fun c7 => ?_)
          · have h := it_f c7 h
            exact lb93 ko30 hko30 (f_X1_height_L54 T0 p0 ko30 n) ih x2 x3 x4 x5 H locs hP hD hS ls (lv_sub hl [0, 1, 2, 3, 4, 5] rfl) h
          · have h := it_t c7 h
            refine lv_iload_n hx hb dX1_height_80 rfl (lv_at hl 2 rfl) ?_
            refine lv_aload_n hx hb dX1_height_81 rfl (lv_at hl 0 rfl) ?_
            refine lv_iload_n hx hb dX1_height_82 rfl (lv_at hl 3 rfl) ?_
            refine lv_iload hx hb dX1_height_83 (lv_at hl 5 rfl) ?_
            refine lv_iload_n hx hb dX1_height_85 rfl (lv_at hl 1 rfl) ?_
            obtain ⟨r8, q8, h⟩ := b1_s h
            refine go_i (run_V (As := [.int x3, .int x5, .int p0]) (rest := [.int x2]) ⟨hx, hb, hml, hown, hts⟩ hnw hK hP hD (fr_T_T a k T0 T0) (ks_T_T k) (c_X1_lineAt l D a k H.size T0 x3 x5 p0 r8 q8) (cwV 3 hts gX1_height_X1_lineAt rfl rfl rfl (by decide +kernel) ⟨Nat.le_of_ble_eq_true rfl, Nat.le_of_ble_eq_true rfl⟩) (rcv_T a k T0) rfl hl.1 rfl (Nat.le_of_ble_eq_true rfl) dX1_height_86 ⟨Nat.zero_le _, Nat.zero_le _⟩) hP hD hS hA (fr_T_T a k T0 T0) (fun H locs hP hD hS => ?_)
            refine va_mmax hx hb (hml.trans hl.1.symm) hown (hts (.methodLink RX1 55 Lib.Math.max.name) (List.mem_of_getElem? (i := 3) rfl)) (hts (.static Lib.Math.max.name) (List.mem_of_getElem? (i := 4) rfl)) (hts (.initialized "java/lang/Math") (List.mem_of_getElem? (i := 5) rfl)) (hts (.code Lib.Math.max.name Lib.Math.max.code 2 (some .int)) (List.mem_of_getElem? (i := 6) rfl)) (Nat.le_of_ble_eq_true rfl) (Nat.le_of_ble_eq_true rfl) (Nat.zero_le _) (Nat.zero_le _) dX1_height_89 ?_
            refine lv_topi (fun v9 ev9 => ?_)
            have h := ltt_s ev9 h
            refine lv_istore_n (lv' := [(2, .int v9), (0, .ref (a 0)), (1, .int p0), (3, .int x3), (4, .int x4), (5, .int x5)]) hx hb dX1_height_92 rfl hl (by decide) rfl (fun ls hl => ?_)
            exact lb93 ko30 hko30 (f_X1_height_L54 T0 p0 ko30 n) ih v9 x3 x4 x5 H locs hP hD hS ls (lv_sub hl [1, 2, 0, 3, 4, 5] rfl) h
  have lb30 : ∀ (n : Nat), ∀ (x2 : Int32) (x3 : Int32), ∀ (H : Heap) (locs : List Loc), va_P D vwCl (xT a k T0) H → va_D A (xT a k T0) → va_S A s.heap H locs → ∀ ls : Array Slot, lv_has ls 6 [(0, .ref (a 0)), (1, .int p0), (2, .int x2), (3, .int x3)] → f_X1_height_L30 T0 p0 n x2 x3 = some r → W p l e rm_X1_height s m args below meth c H locs 0 0 Q (F0 m 30 ls []) := by
    intro n
    induction n with
    | zero =>
      intro x2 x3 H locs hP hD hS ls hl h
      rw [f_X1_height_L30] at h
      cases h
    | succ n ih =>
      intro x2 x3 H locs hP hD hS ls hl h
      rw [f_X1_height_L30] at h
      refine lv_iload_n hx hb dX1_height_30 rfl (lv_at hl 3 rfl) ?_
      refine lv_iload_n hx hb dX1_height_31 rfl (lv_at hl 1 rfl) ?_
      refine lv_icmp_ge (tgt := 105) hx hb dX1_height_32 (by decide) (fun c10 => ?_) (fun c10 => ?_)
      · have h := it_t c10 h
        refine lv_iload_n hx hb dX1_height_105 rfl (lv_at hl 2 rfl) ?_
        refine lv_ldc (v := (-1000000000 : Int32)) hx hb hown (hts (.constant RX1 61 (-1000000000)) (List.mem_of_getElem? (i := 2) rfl)) dX1_height_106 ?_
        refine lv_icmp_ne (tgt := 119) hx hb dX1_height_108 (by decide) (fun c11 => ?_) (fun c11 => ?_)
        · have h := it_f c11 h
          refine lv_iload_n hx hb dX1_height_119 rfl (lv_at hl 2 rfl) ?_
          have h := Option.some.inj h
          subst hQ
          subst hAe
          exact r_i hx hb hr hlocks h hP hD hS dX1_height_120
        · have h := it_t c11 h
          refine lv_aload_n hx hb dX1_height_111 rfl (lv_at hl 0 rfl) ?_
          refine lv_iload_n hx hb dX1_height_112 rfl (lv_at hl 1 rfl) ?_
          obtain ⟨r12, q12, h⟩ := b1_s h
          refine go_i (run_V (As := [.int p0]) (rest := []) ⟨hx, hb, hml, hown, hts⟩ hnw hK hP hD (fr_T_T a k T0 T0) (ks_T_T k) (c_X1_nearestBed l D a k H.size T0 p0 r12 q12) (cwV 1 hts gX1_height_X1_nearestBed rfl rfl rfl (by decide +kernel) ⟨Nat.le_of_ble_eq_true rfl, Nat.le_of_ble_eq_true rfl⟩) (rcv_T a k T0) rfl hl.1 rfl (Nat.le_of_ble_eq_true rfl) dX1_height_113 ⟨Nat.zero_le _, Nat.zero_le _⟩) hP hD hS hA (fr_T_T a k T0 T0) (fun H locs hP hD hS => ?_)
          refine lv_goto (tgt := 120) hx hb dX1_height_116 (by decide) ?_
          have h := Option.some.inj h
          subst hQ
          subst hAe
          exact r_i hx hb hr hlocks h hP hD hS dX1_height_120
      · have h := it_f c10 h
        refine lv_aload_n hx hb dX1_height_35 rfl (lv_at hl 0 rfl) ?_
        refine va_get (D := D) (ci := 1) (v := .int (T0 7 0)) (C := RX1) (T := TX1) (N := 8) hx hb hts hin1 hown hK hP 0 rfl rfl 7 (by decide) (hts (.fieldLink RX1 38 "BallastLine$Track" "size" "I") (List.mem_of_getElem? (i := 7) rfl)) (fun _ h9 => h9) rfl dX1_height_36 ?_
        refine lv_iconst (v := (1 : Int32)) hx hb dX1_height_39 (by decide) ?_
        refine lv_isub hx hb dX1_height_40 ?_
        refine lv_iload_n hx hb dX1_height_41 rfl (lv_at hl 3 rfl) ?_
        refine lv_iconst (v := (4 : Int32)) hx hb dX1_height_42 (by decide) ?_
        refine lv_iadd hx hb dX1_height_43 ?_
        refine va_mmin hx hb (hml.trans hl.1.symm) hown (hts (.methodLink RX1 49 Lib.Math.min.name) (List.mem_of_getElem? (i := 8) rfl)) (hts (.static Lib.Math.min.name) (List.mem_of_getElem? (i := 9) rfl)) (hts (.initialized "java/lang/Math") (List.mem_of_getElem? (i := 5) rfl)) (hts (.code Lib.Math.min.name Lib.Math.min.code 2 (some .int)) (List.mem_of_getElem? (i := 10) rfl)) (Nat.le_of_ble_eq_true rfl) (Nat.le_of_ble_eq_true rfl) (Nat.zero_le _) (Nat.zero_le _) dX1_height_44 ?_
        refine lv_topi (fun v13 ev13 => ?_)
        have h := ltt_s ev13 h
        refine lv_istore (lv' := [(4, .int v13), (0, .ref (a 0)), (1, .int p0), (2, .int x2), (3, .int x3)]) hx hb dX1_height_47 hl (by decide) rfl (fun ls hl => ?_)
        refine lv_iload_n hx hb dX1_height_49 rfl (lv_at hl 2 rfl) ?_
        refine lv_iconst (v := (1 : Int32)) hx hb dX1_height_50 (by decide) ?_
        refine lv_iadd hx hb dX1_height_51 ?_
        refine lv_topi (fun v14 ev14 => ?_)
        have h := ltt_s ev14 h
        refine lv_istore (lv' := [(5, .int v14), (4, .int v13), (0, .ref (a 0)), (1, .int p0), (2, .int x2), (3, .int x3)]) hx hb dX1_height_52 hl (by decide) rfl (fun ls hl => ?_)
        exact lb54 (f_X1_height_L30 T0 p0 n) ih 64 x2 x3 v13 v14 H locs hP hD hS ls (lv_sub hl [2, 3, 4, 5, 1, 0] rfl) h
  have lb19 : ∀ (s0 : Int32), ∀ (H : Heap) (locs : List Loc), va_P D vwCl (xT a k T0) H → va_D A (xT a k T0) → va_S A s.heap H locs → ∀ ls : Array Slot, lv_has ls 6 [(0, .ref (a 0)), (1, .int p0)] → f_X1_height_J19 T0 p0 s0 = some r → W p l e rm_X1_height s m args below meth c H locs 0 0 Q (F0 m 19 ls [.int s0]) := by
    intro  s0 H locs hP hD hS ls hl h
    rw [f_X1_height_J19] at h
    refine lv_istore_n (lv' := [(2, .int s0), (0, .ref (a 0)), (1, .int p0)]) hx hb dX1_height_19 rfl hl (by decide) rfl (fun ls hl => ?_)
    refine lv_iconst (v := (0 : Int32)) hx hb dX1_height_20 (by decide) ?_
    refine lv_iload_n hx hb dX1_height_21 rfl (lv_at hl 2 rfl) ?_
    refine lv_iconst (v := (4 : Int32)) hx hb dX1_height_22 (by decide) ?_
    refine lv_isub hx hb dX1_height_23 ?_
    refine lv_iconst (v := (1 : Int32)) hx hb dX1_height_24 (by decide) ?_
    refine lv_iadd hx hb dX1_height_25 ?_
    refine va_mmax hx hb (hml.trans hl.1.symm) hown (hts (.methodLink RX1 55 Lib.Math.max.name) (List.mem_of_getElem? (i := 3) rfl)) (hts (.static Lib.Math.max.name) (List.mem_of_getElem? (i := 4) rfl)) (hts (.initialized "java/lang/Math") (List.mem_of_getElem? (i := 5) rfl)) (hts (.code Lib.Math.max.name Lib.Math.max.code 2 (some .int)) (List.mem_of_getElem? (i := 6) rfl)) (Nat.le_of_ble_eq_true rfl) (Nat.le_of_ble_eq_true rfl) (Nat.zero_le _) (Nat.zero_le _) dX1_height_26 ?_
    refine lv_topi (fun v15 ev15 => ?_)
    have h := ltt_s ev15 h
    refine lv_istore_n (lv' := [(3, .int v15), (2, .int s0), (0, .ref (a 0)), (1, .int p0)]) hx hb dX1_height_29 rfl hl (by decide) rfl (fun ls hl => ?_)
    exact lb30 64 s0 v15 H locs hP hD hS ls (lv_sub hl [2, 3, 1, 0] rfl) h
  rw [f_X1_height] at h
  obtain ⟨H, hH⟩ : ∃ H, H = s.heap := ⟨_, rfl⟩
  obtain ⟨locs, hlc⟩ : ∃ L : List Loc, L = [] := ⟨_, rfl⟩
  rw [← hH] at hP
  have hS : va_S A s.heap H locs := by rw [hH, hlc]; exact hS
  suffices hW9 : W p l e rm_X1_height s m args below meth c H locs 0 0 Q (F0 m 0 ls []) by rw [hH, hlc] at hW9; exact hW9
  refine lv_aload_n hx hb dX1_height_0 rfl (lv_at hl 0 rfl) ?_
  refine lv_iload_n hx hb dX1_height_1 rfl (lv_at hl 1 rfl) ?_
  obtain ⟨r16, q16, h⟩ := b1_s h
  refine go_i (run_V (As := [.int p0]) (rest := []) ⟨hx, hb, hml, hown, hts⟩ hnw hK hP hD (fr_T_T a k T0 T0) (ks_T_T k) (c_X1_stands l D a k H.size T0 p0 r16 q16) (cwV 1 hts gX1_height_X1_stands rfl rfl rfl (by decide +kernel) ⟨Nat.le_of_ble_eq_true rfl, Nat.le_of_ble_eq_true rfl⟩) (rcv_T a k T0) rfl hl.1 rfl (Nat.le_of_ble_eq_true rfl) dX1_height_2 ⟨Nat.zero_le _, Nat.zero_le _⟩) hP hD hS hA (fr_T_T a k T0 T0) (fun H locs hP hD hS => ?_)
  refine lv_if_eq (tgt := 17) hx hb dX1_height_5 (by decide) (fun c17 => ?_) (fun c17 => ?_)
  · have h := it_t c17 h
    refine lv_ldc (v := (-1000000000 : Int32)) hx hb hown (hts (.constant RX1 61 (-1000000000)) (List.mem_of_getElem? (i := 2) rfl)) dX1_height_17 ?_
    exact lb19  (-1000000000 : Int32) H locs hP hD hS ls (lv_sub hl [0, 1] rfl) h
  · have h := it_f c17 h
    refine lv_aload_n hx hb dX1_height_8 rfl (lv_at hl 0 rfl) ?_
    refine va_get (D := D) (ci := 1) (v := .ref (a 2)) (C := RX1) (T := TX1) (N := 8) hx hb hts hin1 hown hK hP 0 rfl rfl 1 (by decide) (hts (.fieldLink RX1 15 "BallastLine$Track" "beds" "[I") (List.mem_of_getElem? (i := 1) rfl)) (fun _ h9 => h9) rfl dX1_height_9 ?_
    refine lv_iload_n hx hb dX1_height_12 rfl (lv_at hl 1 rfl) ?_
    obtain ⟨g18, h⟩ := gd_s h
    refine va_iald hx hb hK hP 2 1 rfl rfl (inb_in g18) dX1_height_13 ?_
    refine lv_goto (tgt := 19) hx hb dX1_height_14 (by decide) ?_
    exact lb19  (T0 1 (Int32.toNatClampNeg p0)) H locs hP hD hS ls (lv_sub hl [0, 1] rfl) h
def f_X1_bears_J44  (p0 : Int32)  (T : Nat → Nat → Int32) : Option (Int32 × (Nat → Nat → Int32)) := gd (inb p0 40) (if (T 6 (Int32.toNatClampNeg p0)) = (1 : Int32) then (some ((1 : Int32), T)) else (some ((0 : Int32), T)))
def f_X1_bears_J43  (p0 : Int32)  (s0 : Int32) (s1 : Int32) (T : Nat → Nat → Int32) : Option (Int32 × (Nat → Nat → Int32)) := gd (inb s1 40) (ltt (st T 6 (Int32.toNatClampNeg s1) s0) (fun (T_4 : Nat → Nat → Int32) => f_X1_bears_J44 p0 T_4))
def f_X1_bears (T0 : Nat → Nat → Int32) (p0 : Int32) : Option (Int32 × (Nat → Nat → Int32)) := b1 (f_X1_stands T0 p0) (fun r5 => if r5 = (0 : Int32) then (some ((0 : Int32), T0)) else (gd (inb p0 40) (if (T0 6 (Int32.toNatClampNeg p0)) = (0 : Int32) then (b1 (f_X1_height T0 p0) (fun r9 => gd (inb p0 40) (if r9 ≤ (T0 1 (Int32.toNatClampNeg p0)) then (f_X1_bears_J43 p0 (1 : Int32) p0 T0) else (f_X1_bears_J43 p0 (2 : Int32) p0 T0)))) else (f_X1_bears_J44 p0 T0))))
abbrev rm_X1_bears : Room := { frames := 4, cells := 0, slots := 0, locals := 91 }
set_option maxHeartbeats 4000000 in
set_option maxRecDepth 100000 in
theorem c_X1_bears (l : Launch) (D : va_G) (a : Nat → Nat) (k : Nat → ClassId) (sz : Nat) (T0 : Nat → Nat → Int32) (p0 : Int32) (r : Int32) (Tz : (Nat → Nat → Int32)) (h : f_X1_bears T0 p0 = some (r, Tz)) : Met l yX1_bears wsX1_bears rm_X1_bears (mPc D [.ref (a 0), .int p0] (xT a k T0) (tT k) sz) (mQi D (xT a k T0) (xT a k Tz) sz r) 0 0 (va_A (xT a k T0) sz) := by
  refine mk_met (cc := cX1_bears) (maxL := 2) (ret := (some .boolean)) (by decide) rfl (Nat.le_of_ble_eq_true rfl) ?_
  intro p e s m below meth c hx hb hr hml hts hown hmn hlocks hnw hsz hK hP hD hS hA ls hl
  obtain ⟨A, hAe⟩ : ∃ A, A = va_A (xT a k T0) sz := ⟨_, rfl⟩
  rw [← hAe] at hD hS hA
  generalize hargs : List.toArray ([.ref (a 0), .int p0] : List Value) = args at hts ⊢
  generalize hQ : MQ below (mQi D (xT a k T0) (xT a k Tz) sz r) args s 0 0 (va_A (xT a k T0) sz) = Q
  have hl : lv_has ls 2 [(0, .ref (a 0)), (1, .int p0)] := hl
  have hin1 : ∀ w ∈ wsX10, w ∈ wsX1_bears := fun w h => List.mem_cons_of_mem _ (List.mem_append_right _ h)
  have lb44 : ∀ (T : Nat → Nat → Int32), ∀ (H : Heap) (locs : List Loc), va_P D vwCl (xT a k T) H → va_D A (xT a k T) → va_S A s.heap H locs → ∀ ls : Array Slot, lv_has ls 2 [(0, .ref (a 0)), (1, .int p0)] → f_X1_bears_J44 p0 T = some (r, Tz) → W p l e rm_X1_bears s m args below meth c H locs 0 0 Q (F0 m 44 ls []) := by
    intro  T H locs hP hD hS ls hl h
    rw [f_X1_bears_J44] at h
    refine lv_aload_n hx hb dX1_bears_44 rfl (lv_at hl 0 rfl) ?_
    refine va_get (D := D) (ci := 1) (v := .ref (a 7)) (C := RX1) (T := TX1) (N := 8) hx hb hts hin1 hown hK hP 0 rfl rfl 6 (by decide) (hts (.fieldLink RX1 31 "BallastLine$Track" "hanging" "[I") (List.mem_of_getElem? (i := 1) rfl)) (fun _ h9 => h9) rfl dX1_bears_45 ?_
    refine lv_iload_n hx hb dX1_bears_48 rfl (lv_at hl 1 rfl) ?_
    obtain ⟨g1, h⟩ := gd_s h
    refine va_iald hx hb hK hP 7 6 rfl rfl (inb_in g1) dX1_bears_49 ?_
    refine lv_iconst (v := (1 : Int32)) hx hb dX1_bears_50 (by decide) ?_
    refine lv_icmp_ne (tgt := 58) hx hb dX1_bears_51 (by decide) (fun c2 => ?_) (fun c2 => ?_)
    · have h := it_f c2 h
      refine lv_iconst (v := (0 : Int32)) hx hb dX1_bears_58 (by decide) ?_
      have h := Option.some.inj h
      obtain ⟨hz0, h⟩ := Prod.mk.inj h
      have hP : va_P D vwCl (xT a k Tz) H := by rw [← h]; exact hP
      have hD : va_D A (xT a k Tz) := by rw [← h]; exact hD
      subst hQ
      subst hAe
      exact r_z hx hb hr rfl hlocks hz0 hP hD hS dX1_bears_59
    · have h := it_t c2 h
      refine lv_iconst (v := (1 : Int32)) hx hb dX1_bears_54 (by decide) ?_
      refine lv_goto (tgt := 59) hx hb dX1_bears_55 (by decide) ?_
      have h := Option.some.inj h
      obtain ⟨hz0, h⟩ := Prod.mk.inj h
      have hP : va_P D vwCl (xT a k Tz) H := by rw [← h]; exact hP
      have hD : va_D A (xT a k Tz) := by rw [← h]; exact hD
      subst hQ
      subst hAe
      exact r_z hx hb hr rfl hlocks hz0 hP hD hS dX1_bears_59
  have lb43 : ∀ (s0 : Int32) (s1 : Int32) (T : Nat → Nat → Int32), ∀ (H : Heap) (locs : List Loc), va_P D vwCl (xT a k T) H → va_D A (xT a k T) → va_S A s.heap H locs → ∀ ls : Array Slot, lv_has ls 2 [(0, .ref (a 0)), (1, .int p0)] → f_X1_bears_J43 p0 s0 s1 T = some (r, Tz) → W p l e rm_X1_bears s m args below meth c H locs 0 0 Q (F0 m 43 ls [.int s0, .int s1, .ref (a 7)]) := by
    intro  s0 s1 T H locs hP hD hS ls hl h
    rw [f_X1_bears_J43] at h
    obtain ⟨g3, h⟩ := gd_s h
    refine va_iast hx hb hK hP hD hS 7 6 rfl rfl (inb_in g3) dX1_bears_43 (fun H locs hP hD hS => ?_)
    obtain ⟨T_4, eT_4⟩ : ∃ y : Nat → Nat → Int32, y = st T 6 (Int32.toNatClampNeg s1) s0 := ⟨_, rfl⟩
    have h := ltt_s eT_4 h
    have hP : va_P D vwCl (xT a k T_4) H := by rw [eT_4]; exact hP
    have hD : va_D A (xT a k T_4) := by rw [eT_4]; exact hD
    exact lb44  T_4 H locs hP hD hS ls (lv_sub hl [0, 1] rfl) h
  rw [f_X1_bears] at h
  obtain ⟨H, hH⟩ : ∃ H, H = s.heap := ⟨_, rfl⟩
  obtain ⟨locs, hlc⟩ : ∃ L : List Loc, L = [] := ⟨_, rfl⟩
  rw [← hH] at hP
  have hS : va_S A s.heap H locs := by rw [hH, hlc]; exact hS
  suffices hW9 : W p l e rm_X1_bears s m args below meth c H locs 0 0 Q (F0 m 0 ls []) by rw [hH, hlc] at hW9; exact hW9
  refine lv_aload_n hx hb dX1_bears_0 rfl (lv_at hl 0 rfl) ?_
  refine lv_iload_n hx hb dX1_bears_1 rfl (lv_at hl 1 rfl) ?_
  obtain ⟨r5, q5, h⟩ := b1_s h
  refine go_i (run_V (As := [.int p0]) (rest := []) ⟨hx, hb, hml, hown, hts⟩ hnw hK hP hD (fr_T_T a k T0 T0) (ks_T_T k) (c_X1_stands l D a k H.size T0 p0 r5 q5) (cwV 1 hts gX1_bears_X1_stands rfl rfl rfl (by decide +kernel) ⟨Nat.le_of_ble_eq_true rfl, Nat.le_of_ble_eq_true rfl⟩) (rcv_T a k T0) rfl hl.1 rfl (Nat.le_of_ble_eq_true rfl) dX1_bears_2 ⟨Nat.zero_le _, Nat.zero_le _⟩) hP hD hS hA (fr_T_T a k T0 T0) (fun H locs hP hD hS => ?_)
  refine lv_if_ne (tgt := 10) hx hb dX1_bears_5 (by decide) (fun c6 => ?_) (fun c6 => ?_)
  · have h := it_f c6 h
    refine lv_aload_n hx hb dX1_bears_10 rfl (lv_at hl 0 rfl) ?_
    refine va_get (D := D) (ci := 1) (v := .ref (a 7)) (C := RX1) (T := TX1) (N := 8) hx hb hts hin1 hown hK hP 0 rfl rfl 6 (by decide) (hts (.fieldLink RX1 31 "BallastLine$Track" "hanging" "[I") (List.mem_of_getElem? (i := 1) rfl)) (fun _ h9 => h9) rfl dX1_bears_11 ?_
    refine lv_iload_n hx hb dX1_bears_14 rfl (lv_at hl 1 rfl) ?_
    obtain ⟨g7, h⟩ := gd_s h
    refine va_iald hx hb hK hP 7 6 rfl rfl (inb_in g7) dX1_bears_15 ?_
    refine lv_if_ne (tgt := 44) hx hb dX1_bears_16 (by decide) (fun c8 => ?_) (fun c8 => ?_)
    · have h := it_f c8 h
      exact lb44  T0 H locs hP hD hS ls (lv_sub hl [0, 1] rfl) h
    · have h := it_t c8 h
      refine lv_aload_n hx hb dX1_bears_19 rfl (lv_at hl 0 rfl) ?_
      refine va_get (D := D) (ci := 1) (v := .ref (a 7)) (C := RX1) (T := TX1) (N := 8) hx hb hts hin1 hown hK hP 0 rfl rfl 6 (by decide) (hts (.fieldLink RX1 31 "BallastLine$Track" "hanging" "[I") (List.mem_of_getElem? (i := 1) rfl)) (fun _ h9 => h9) rfl dX1_bears_20 ?_
      refine lv_iload_n hx hb dX1_bears_23 rfl (lv_at hl 1 rfl) ?_
      refine lv_aload_n hx hb dX1_bears_24 rfl (lv_at hl 0 rfl) ?_
      refine lv_iload_n hx hb dX1_bears_25 rfl (lv_at hl 1 rfl) ?_
      obtain ⟨r9, q9, h⟩ := b1_s h
      refine go_i (run_V (As := [.int p0]) (rest := [.int p0, .ref (a 7)]) ⟨hx, hb, hml, hown, hts⟩ hnw hK hP hD (fr_T_T a k T0 T0) (ks_T_T k) (c_X1_height l D a k H.size T0 p0 r9 q9) (cwV 1 hts gX1_bears_X1_height rfl rfl rfl (by decide +kernel) ⟨Nat.le_of_ble_eq_true rfl, Nat.le_of_ble_eq_true rfl⟩) (rcv_T a k T0) rfl hl.1 rfl (Nat.le_of_ble_eq_true rfl) dX1_bears_26 ⟨Nat.zero_le _, Nat.zero_le _⟩) hP hD hS hA (fr_T_T a k T0 T0) (fun H locs hP hD hS => ?_)
      refine lv_aload_n hx hb dX1_bears_29 rfl (lv_at hl 0 rfl) ?_
      refine va_get (D := D) (ci := 1) (v := .ref (a 2)) (C := RX1) (T := TX1) (N := 8) hx hb hts hin1 hown hK hP 0 rfl rfl 1 (by decide) (hts (.fieldLink RX1 15 "BallastLine$Track" "beds" "[I") (List.mem_of_getElem? (i := 2) rfl)) (fun _ h9 => h9) rfl dX1_bears_30 ?_
      refine lv_iload_n hx hb dX1_bears_33 rfl (lv_at hl 1 rfl) ?_
      obtain ⟨g10, h⟩ := gd_s h
      refine va_iald hx hb hK hP 2 1 rfl rfl (inb_in g10) dX1_bears_34 ?_
      refine lv_icmp_le (tgt := 42) hx hb dX1_bears_35 (by decide) (fun c11 => ?_) (fun c11 => ?_)
      · have h := it_t c11 h
        refine lv_iconst (v := (1 : Int32)) hx hb dX1_bears_42 (by decide) ?_
        exact lb43  (1 : Int32) p0 T0 H locs hP hD hS ls (lv_sub hl [0, 1] rfl) h
      · have h := it_f c11 h
        refine lv_iconst (v := (2 : Int32)) hx hb dX1_bears_38 (by decide) ?_
        refine lv_goto (tgt := 43) hx hb dX1_bears_39 (by decide) ?_
        exact lb43  (2 : Int32) p0 T0 H locs hP hD hS ls (lv_sub hl [0, 1] rfl) h
  · have h := it_t c6 h
    refine lv_iconst (v := (0 : Int32)) hx hb dX1_bears_8 (by decide) ?_
    have h := Option.some.inj h
    obtain ⟨hz0, h⟩ := Prod.mk.inj h
    have hP : va_P D vwCl (xT a k Tz) H := by rw [← h]; exact hP
    have hD : va_D A (xT a k Tz) := by rw [← h]; exact hD
    subst hQ
    subst hAe
    exact r_z hx hb hr rfl hlocks hz0 hP hD hS dX1_bears_9
