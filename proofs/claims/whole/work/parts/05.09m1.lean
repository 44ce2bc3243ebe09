def f_X5_in  (p0 : Int32) (p1 : Int32) (p2 : Int32) : Option (Int32) := if p0 < p1 then (some (0 : Int32)) else (if p2 < p0 then (some (0 : Int32)) else (some (1 : Int32)))
abbrev rm_X5_in : Room := { frames := 0, cells := 0, slots := 0, locals := 0 }
set_option maxHeartbeats 4000000 in
set_option maxRecDepth 100000 in
theorem c_X5_in (l : Launch) (D : va_G) (sz : Nat)  (p0 : Int32) (p1 : Int32) (p2 : Int32) (r : Int32) (h : f_X5_in p0 p1 p2 = some r) : Met l yX5_in wsX5_in rm_X5_in (mPc D [.int p0, .int p1, .int p2] ([] : va_W) ([] : List (ClassId × FieldType)) sz) (mQi D ([] : va_W) ([] : va_W) sz r) 0 0 (va_A ([] : va_W) sz) := by
  refine mk_met (cc := cX5_in) (maxL := 3) (ret := (some .boolean)) (by decide) rfl (Nat.le_of_ble_eq_true rfl) ?_
  intro p e s m below meth c hx hb hr hml hts hown hmn hlocks hnw hsz hK hP hD hS hA ls hl
  obtain ⟨A, hAe⟩ : ∃ A, A = va_A ([] : va_W) sz := ⟨_, rfl⟩
  rw [← hAe] at hD hS hA
  generalize hargs : List.toArray ([.int p0, .int p1, .int p2] : List Value) = args at hts ⊢
  generalize hQ : MQ below (mQi D ([] : va_W) ([] : va_W) sz r) args s 0 0 (va_A ([] : va_W) sz) = Q
  have hl : lv_has ls 3 [(0, .int p0), (1, .int p1), (2, .int p2)] := hl
  rw [f_X5_in] at h
  obtain ⟨H, hH⟩ : ∃ H, H = s.heap := ⟨_, rfl⟩
  obtain ⟨locs, hlc⟩ : ∃ L : List Loc, L = [] := ⟨_, rfl⟩
  rw [← hH] at hP
  have hS : va_S A s.heap H locs := by rw [hH, hlc]; exact hS
  suffices hW9 : W p l e rm_X5_in s m args below meth c H locs 0 0 Q (F0 m 0 ls []) by rw [hH, hlc] at hW9; exact hW9
  refine lv_iload_n hx hb dX5_in_0 rfl (lv_at hl 0 rfl) ?_
  refine lv_iload_n hx hb dX5_in_1 rfl (lv_at hl 1 rfl) ?_
  refine lv_icmp_lt (tgt := 14) hx hb dX5_in_2 (by decide) (fun c1 => ?_) (fun c1 => ?_)
  · have h := it_t c1 h
    refine lv_iconst (v := (0 : Int32)) hx hb dX5_in_14 (by decide) ?_
    have h := Option.some.inj h
    subst hQ
    subst hAe
    exact r_z hx hb hr rfl hlocks h hP hD hS dX5_in_15
  · have h := it_f c1 h
    refine lv_iload_n hx hb dX5_in_5 rfl (lv_at hl 0 rfl) ?_
    refine lv_iload_n hx hb dX5_in_6 rfl (lv_at hl 2 rfl) ?_
    refine lv_icmp_gt (tgt := 14) hx hb dX5_in_7 (by decide) (fun c2 => ?_) (fun c2 => ?_)
    · have h := it_t c2 h
      refine lv_iconst (v := (0 : Int32)) hx hb dX5_in_14 (by decide) ?_
      have h := Option.some.inj h
      subst hQ
      subst hAe
      exact r_z hx hb hr rfl hlocks h hP hD hS dX5_in_15
    · have h := it_f c2 h
      refine lv_iconst (v := (1 : Int32)) hx hb dX5_in_10 (by decide) ?_
      refine lv_goto (tgt := 15) hx hb dX5_in_11 (by decide) ?_
      have h := Option.some.inj h
      subst hQ
      subst hAe
      exact r_z hx hb hr rfl hlocks h hP hD hS dX5_in_15
def f_X5_line_L19  (p0 : Int32)  : Nat → Int32 → (Nat → Nat → Int32) → Option (Int32 × (Nat → Nat → Int32))
  | 0, _, _ => none
  | n + 1, x2, M => if (40 : Int32) ≤ x2 then (some (p0, M)) else (gd (inb x2 40) (ltt (st M 4 (Int32.toNatClampNeg x2) (0 : Int32)) (fun (M_3 : Nat → Nat → Int32) => gd (inb x2 40) (ltt (st M_3 5 (Int32.toNatClampNeg x2) (0 : Int32)) (fun (M_5 : Nat → Nat → Int32) => gd (inb x2 40) (ltt (st M_5 6 (Int32.toNatClampNeg x2) (5 : Int32)) (fun (M_7 : Nat → Nat → Int32) => gd (inb x2 40) (ltt (st M_7 7 (Int32.toNatClampNeg x2) (0 : Int32)) (fun (M_9 : Nat → Nat → Int32) => gd (inb x2 40) (ltt (st M_9 8 (Int32.toNatClampNeg x2) (0 : Int32)) (fun (M_11 : Nat → Nat → Int32) => gd (inb x2 40) (ltt (st M_11 9 (Int32.toNatClampNeg x2) (vp_nar .boolean (0 : Int32))) (fun (M_13 : Nat → Nat → Int32) => ltt (x2 + (1 : Int32)) (fun v14 => f_X5_line_L19 p0 n v14 M_13))))))))))))))
def f_X5_line (M0 : Nat → Nat → Int32) (p0 : Int32) : Option (Int32 × (Nat → Nat → Int32)) := b1 (f_X5_in p0 (3 : Int32) (40 : Int32)) (fun r15 => if r15 = (0 : Int32) then (some ((-1 : Int32), M0)) else (ltt (st M0 3 0 p0) (fun (M_17 : Nat → Nat → Int32) => f_X5_line_L19 p0 64 (0 : Int32) M_17)))
abbrev rm_X5_line : Room := { frames := 1, cells := 0, slots := 0, locals := 22 }
set_option maxHeartbeats 4000000 in
set_option maxRecDepth 100000 in
theorem c_X5_line (l : Launch) (D : va_G) (a : Nat → Nat) (k : Nat → ClassId) (sz : Nat) (M0 : Nat → Nat → Int32) (L0 : Int64) (p0 : Int32) (r : Int32) (Mz : (Nat → Nat → Int32)) (h : f_X5_line M0 p0 = some (r, Mz)) : Met l yX5_line wsX5_line rm_X5_line (mPc D [.ref (a 0), .int p0] (xM a k M0 L0) (tM k) sz) (mQi D (xM a k M0 L0) (xM a k Mz L0) sz r) 0 0 (va_A (xM a k M0 L0) sz) := by
  refine mk_met (cc := cX5_line) (maxL := 3) (ret := (some .int)) (by decide) rfl (Nat.le_of_ble_eq_true rfl) ?_
  intro p e s m below meth c hx hb hr hml hts hown hmn hlocks hnw hsz hK hP hD hS hA ls hl
  obtain ⟨A, hAe⟩ : ∃ A, A = va_A (xM a k M0 L0) sz := ⟨_, rfl⟩
  rw [← hAe] at hD hS hA
  generalize hargs : List.toArray ([.ref (a 0), .int p0] : List Value) = args at hts ⊢
  generalize hQ : MQ below (mQi D (xM a k M0 L0) (xM a k Mz L0) sz r) args s 0 0 (va_A (xM a k M0 L0) sz) = Q
  have hl : lv_has ls 3 [(0, .ref (a 0)), (1, .int p0)] := hl
  have hin5 : ∀ w ∈ wsX50, w ∈ wsX5_line := fun w h => List.mem_cons_of_mem _ (List.mem_append_right _ h)
  have lb19 : ∀ (n : Nat), ∀ (x2 : Int32) (M : Nat → Nat → Int32), ∀ (H : Heap) (locs : List Loc), va_P D vwCl (xM a k M L0) H → va_D A (xM a k M L0) → va_S A s.heap H locs → ∀ ls : Array Slot, lv_has ls 3 [(0, .ref (a 0)), (1, .int p0), (2, .int x2)] → f_X5_line_L19 p0 n x2 M = some (r, Mz) → W p l e rm_X5_line s m args below meth c H locs 0 0 Q (F0 m 19 ls []) := by
    intro n
    induction n with
    | zero =>
      intro x2 M H locs hP hD hS ls hl h
      rw [f_X5_line_L19] at h
      cases h
    | succ n ih =>
      intro x2 M H locs hP hD hS ls hl h
      rw [f_X5_line_L19] at h
      refine lv_iload_n hx hb dX5_line_19 rfl (lv_at hl 2 rfl) ?_
      refine lv_bipush (v := (40 : Int32)) hx hb dX5_line_20 (by decide) ?_
      refine lv_icmp_ge (tgt := 73) hx hb dX5_line_22 (by decide) (fun c1 => ?_) (fun c1 => ?_)
      · have h := it_t c1 h
        refine lv_iload_n hx hb dX5_line_73 rfl (lv_at hl 1 rfl) ?_
        have h := Option.some.inj h
        obtain ⟨hz0, h⟩ := Prod.mk.inj h
        have hP : va_P D vwCl (xM a k Mz L0) H := by rw [← h]; exact hP
        have hD : va_D A (xM a k Mz L0) := by rw [← h]; exact hD
        subst hQ
        subst hAe
        exact r_i hx hb hr hlocks hz0 hP hD hS dX5_line_74
      · have h := it_f c1 h
        refine lv_aload_n hx hb dX5_line_25 rfl (lv_at hl 0 rfl) ?_
        refine va_get (D := D) (ci := 5) (v := .ref (a 2)) (C := RX5) (T := TX5) (N := 20) hx hb hts hin5 hown hK hP 0 rfl rfl 4 (by decide) (hts (.fieldLink RX5 13 "BallastLineModel" "kinds" "[I") (List.mem_of_getElem? (i := 2) rfl)) (fun _ h9 => h9) rfl dX5_line_26 ?_
        refine lv_iload_n hx hb dX5_line_29 rfl (lv_at hl 2 rfl) ?_
        refine lv_iconst (v := (0 : Int32)) hx hb dX5_line_30 (by decide) ?_
        obtain ⟨g2, h⟩ := gd_s h
        refine va_iast hx hb hK hP hD hS 2 1 rfl rfl (inb_in g2) dX5_line_31 (fun H locs hP hD hS => ?_)
        obtain ⟨M_3, eM_3⟩ : ∃ y : Nat → Nat → Int32, y = st M 4 (Int32.toNatClampNeg x2) (0 : Int32) := ⟨_, rfl⟩
        have h := ltt_s eM_3 h
        have hP : va_P D vwCl (xM a k M_3 L0) H := by rw [eM_3]; exact hP
        have hD : va_D A (xM a k M_3 L0) := by rw [eM_3]; exact hD
        refine lv_aload_n hx hb dX5_line_32 rfl (lv_at hl 0 rfl) ?_
        refine va_get (D := D) (ci := 5) (v := .ref (a 3)) (C := RX5) (T := TX5) (N := 20) hx hb hts hin5 hown hK hP 0 rfl rfl 5 (by decide) (hts (.fieldLink RX5 16 "BallastLineModel" "beds" "[I") (List.mem_of_getElem? (i := 3) rfl)) (fun _ h9 => h9) rfl dX5_line_33 ?_
        refine lv_iload_n hx hb dX5_line_36 rfl (lv_at hl 2 rfl) ?_
        refine lv_iconst (v := (0 : Int32)) hx hb dX5_line_37 (by decide) ?_
        obtain ⟨g4, h⟩ := gd_s h
        refine va_iast hx hb hK hP hD hS 3 2 rfl rfl (inb_in g4) dX5_line_38 (fun H locs hP hD hS => ?_)
        obtain ⟨M_5, eM_5⟩ : ∃ y : Nat → Nat → Int32, y = st M_3 5 (Int32.toNatClampNeg x2) (0 : Int32) := ⟨_, rfl⟩
        have h := ltt_s eM_5 h
        have hP : va_P D vwCl (xM a k M_5 L0) H := by rw [eM_5]; exact hP
        have hD : va_D A (xM a k M_5 L0) := by rw [eM_5]; exact hD
        refine lv_aload_n hx hb dX5_line_39 rfl (lv_at hl 0 rfl) ?_
        refine va_get (D := D) (ci := 5) (v := .ref (a 4)) (C := RX5) (T := TX5) (N := 20) hx hb hts hin5 hown hK hP 0 rfl rfl 6 (by decide) (hts (.fieldLink RX5 19 "BallastLineModel" "stones" "[I") (List.mem_of_getElem? (i := 4) rfl)) (fun _ h9 => h9) rfl dX5_line_40 ?_
        refine lv_iload_n hx hb dX5_line_43 rfl (lv_at hl 2 rfl) ?_
        refine lv_iconst (v := (5 : Int32)) hx hb dX5_line_44 (by decide) ?_
        obtain ⟨g6, h⟩ := gd_s h
        refine va_iast hx hb hK hP hD hS 4 3 rfl rfl (inb_in g6) dX5_line_45 (fun H locs hP hD hS => ?_)
        obtain ⟨M_7, eM_7⟩ : ∃ y : Nat → Nat → Int32, y = st M_5 6 (Int32.toNatClampNeg x2) (5 : Int32) := ⟨_, rfl⟩
        have h := ltt_s eM_7 h
        have hP : va_P D vwCl (xM a k M_7 L0) H := by rw [eM_7]; exact hP
        have hD : va_D A (xM a k M_7 L0) := by rw [eM_7]; exact hD
        refine lv_aload_n hx hb dX5_line_46 rfl (lv_at hl 0 rfl) ?_
        refine va_get (D := D) (ci := 5) (v := .ref (a 5)) (C := RX5) (T := TX5) (N := 20) hx hb hts hin5 hown hK hP 0 rfl rfl 7 (by decide) (hts (.fieldLink RX5 22 "BallastLineModel" "hundredths" "[I") (List.mem_of_getElem? (i := 5) rfl)) (fun _ h9 => h9) rfl dX5_line_47 ?_
        refine lv_iload_n hx hb dX5_line_50 rfl (lv_at hl 2 rfl) ?_
        refine lv_iconst (v := (0 : Int32)) hx hb dX5_line_51 (by decide) ?_
        obtain ⟨g8, h⟩ := gd_s h
        refine va_iast hx hb hK hP hD hS 5 4 rfl rfl (inb_in g8) dX5_line_52 (fun H locs hP hD hS => ?_)
        obtain ⟨M_9, eM_9⟩ : ∃ y : Nat → Nat → Int32, y = st M_7 7 (Int32.toNatClampNeg x2) (0 : Int32) := ⟨_, rfl⟩
        have h := ltt_s eM_9 h
        have hP : va_P D vwCl (xM a k M_9 L0) H := by rw [eM_9]; exact hP
        have hD : va_D A (xM a k M_9 L0) := by rw [eM_9]; exact hD
        refine lv_aload_n hx hb dX5_line_53 rfl (lv_at hl 0 rfl) ?_
        refine va_get (D := D) (ci := 5) (v := .ref (a 6)) (C := RX5) (T := TX5) (N := 20) hx hb hts hin5 hown hK hP 0 rfl rfl 8 (by decide) (hts (.fieldLink RX5 25 "BallastLineModel" "jolts" "[I") (List.mem_of_getElem? (i := 6) rfl)) (fun _ h9 => h9) rfl dX5_line_54 ?_
        refine lv_iload_n hx hb dX5_line_57 rfl (lv_at hl 2 rfl) ?_
        refine lv_iconst (v := (0 : Int32)) hx hb dX5_line_58 (by decide) ?_
        obtain ⟨g10, h⟩ := gd_s h
        refine va_iast hx hb hK hP hD hS 6 5 rfl rfl (inb_in g10) dX5_line_59 (fun H locs hP hD hS => ?_)
        obtain ⟨M_11, eM_11⟩ : ∃ y : Nat → Nat → Int32, y = st M_9 8 (Int32.toNatClampNeg x2) (0 : Int32) := ⟨_, rfl⟩
        have h := ltt_s eM_11 h
        have hP : va_P D vwCl (xM a k M_11 L0) H := by rw [eM_11]; exact hP
        have hD : va_D A (xM a k M_11 L0) := by rw [eM_11]; exact hD
        refine lv_aload_n hx hb dX5_line_60 rfl (lv_at hl 0 rfl) ?_
        refine va_get (D := D) (ci := 5) (v := .ref (a 7)) (C := RX5) (T := TX5) (N := 20) hx hb hts hin5 hown hK hP 0 rfl rfl 9 (by decide) (hts (.fieldLink RX5 28 "BallastLineModel" "isLost" "[Z") (List.mem_of_getElem? (i := 7) rfl)) (fun _ h9 => h9) rfl dX5_line_61 ?_
        refine lv_iload_n hx hb dX5_line_64 rfl (lv_at hl 2 rfl) ?_
        refine lv_iconst (v := (0 : Int32)) hx hb dX5_line_65 (by decide) ?_
        obtain ⟨g12, h⟩ := gd_s h
        refine va_zast hx hb hK hP hD hS 7 6 rfl rfl (inb_in g12) dX5_line_66 (fun H locs hP hD hS => ?_)
        obtain ⟨M_13, eM_13⟩ : ∃ y : Nat → Nat → Int32, y = st M_11 9 (Int32.toNatClampNeg x2) (vp_nar .boolean (0 : Int32)) := ⟨_, rfl⟩
        have h := ltt_s eM_13 h
        have hP : va_P D vwCl (xM a k M_13 L0) H := by rw [eM_13]; exact hP
        have hD : va_D A (xM a k M_13 L0) := by rw [eM_13]; exact hD
        obtain ⟨v14, ev14⟩ : ∃ y : Int32, y = x2 + (1 : Int32) := ⟨_, rfl⟩
        have h := ltt_s ev14 h
        refine lv_iinc (v := v14) (lv' := [(2, .int v14), (0, .ref (a 0)), (1, .int p0)]) hx hb dX5_line_67 hl (k := 2) rfl (by rw [ev14]; rfl) (by decide) rfl (fun ls hl => ?_)
        refine lv_goto (tgt := 19) hx hb dX5_line_70 (by decide) ?_
        exact ih v14 M_13 H locs hP hD hS ls (lv_sub hl [1, 2, 0] rfl) h
  rw [f_X5_line] at h
  obtain ⟨H, hH⟩ : ∃ H, H = s.heap := ⟨_, rfl⟩
  obtain ⟨locs, hlc⟩ : ∃ L : List Loc, L = [] := ⟨_, rfl⟩
  rw [← hH] at hP
  have hS : va_S A s.heap H locs := by rw [hH, hlc]; exact hS
  suffices hW9 : W p l e rm_X5_line s m args below meth c H locs 0 0 Q (F0 m 0 ls []) by rw [hH, hlc] at hW9; exact hW9
  refine lv_iload_n hx hb dX5_line_0 rfl (lv_at hl 1 rfl) ?_
  refine lv_iconst (v := (3 : Int32)) hx hb dX5_line_1 (by decide) ?_
  refine lv_bipush (v := (40 : Int32)) hx hb dX5_line_2 (by decide) ?_
  obtain ⟨r15, q15, h⟩ := b1_s h
  refine go_i (run_S (As := [.int p0, .int (3 : Int32), .int (40 : Int32)]) (rest := []) ⟨hx, hb, hml, hown, hts⟩ hnw hK hP hD (fr_M_E a k M0 L0) (ks_M_E k) (c_X5_in l D H.size p0 (3 : Int32) (40 : Int32) r15 q15) (cwS 3 hts gX5_line_X5_in rfl rfl rfl (by decide +kernel) ⟨Nat.le_of_ble_eq_true rfl, Nat.le_of_ble_eq_true rfl⟩) rfl hl.1 rfl (Nat.le_of_ble_eq_true rfl) dX5_line_4 ⟨Nat.zero_le _, Nat.zero_le _⟩) hP hD hS hA (fr_M_E a k M0 L0) (fun H locs hP hD hS => ?_)
  refine lv_if_ne (tgt := 12) hx hb dX5_line_7 (by decide) (fun c16 => ?_) (fun c16 => ?_)
  · have h := it_f c16 h
    refine lv_aload_n hx hb dX5_line_12 rfl (lv_at hl 0 rfl) ?_
    refine lv_iload_n hx hb dX5_line_13 rfl (lv_at hl 1 rfl) ?_
    refine va_put (D := D) (ci := 5) (v := .int p0) (ty := .int) (C := RX5) (T := TX5) (N := 20) hx hb hts hin5 tyX5 tyX5_ok nmX5 hown hK hP hD hS 0 rfl rfl 3 (by decide) (hts (.fieldLink RX5 72 "BallastLineModel" "many" "I") (List.mem_of_getElem? (i := 1) rfl)) (fun _ h9 => h9) rfl (by decide +kernel) rfl rfl (Nat.le_of_ble_eq_true rfl) dX5_line_14 (fun H locs hP hD hS => ?_)
    obtain ⟨M_17, eM_17⟩ : ∃ y : Nat → Nat → Int32, y = st M0 3 0 p0 := ⟨_, rfl⟩
    have h := ltt_s eM_17 h
    have hP : va_P D vwCl (xM a k M_17 L0) H := by rw [eM_17]; exact hP
    have hD : va_D A (xM a k M_17 L0) := by rw [eM_17]; exact hD
    refine lv_iconst (v := (0 : Int32)) hx hb dX5_line_17 (by decide) ?_
    refine lv_istore_n (lv' := [(2, .int (0 : Int32)), (0, .ref (a 0)), (1, .int p0)]) hx hb dX5_line_18 rfl hl (by decide) rfl (fun ls hl => ?_)
    exact lb19 64 (0 : Int32) M_17 H locs hP hD hS ls (lv_sub hl [1, 2, 0] rfl) h
  · have h := it_t c16 h
    refine lv_iconst (v := (-1 : Int32)) hx hb dX5_line_10 (by decide) ?_
    have h := Option.some.inj h
    obtain ⟨hz0, h⟩ := Prod.mk.inj h
    have hP : va_P D vwCl (xM a k Mz L0) H := by rw [← h]; exact hP
    have hD : va_D A (xM a k Mz L0) := by rw [← h]; exact hD
    subst hQ
    subst hAe
    exact r_i hx hb hr hlocks hz0 hP hD hS dX5_line_11
def f_X5_meets (M0 : Nat → Nat → Int32) (p0 : Int32) : Option (Int32 × (Nat → Nat → Int32)) := ltt (st M0 0 0 p0) (fun (M_1 : Nat → Nat → Int32) => gd (inb p0 6) (gd (inb p0 6) (ltt (st M_1 1 (Int32.toNatClampNeg p0) ((M_1 1 (Int32.toNatClampNeg p0)) + (1 : Int32))) (fun (M_4 : Nat → Nat → Int32) => some ((-3 : Int32), M_4)))))
abbrev rm_X5_meets : Room := { frames := 0, cells := 0, slots := 0, locals := 0 }
set_option maxHeartbeats 4000000 in
set_option maxRecDepth 100000 in
theorem c_X5_meets (l : Launch) (D : va_G) (a : Nat → Nat) (k : Nat → ClassId) (sz : Nat) (M0 : Nat → Nat → Int32) (L0 : Int64) (p0 : Int32) (r : Int32) (Mz : (Nat → Nat → Int32)) (h : f_X5_meets M0 p0 = some (r, Mz)) : Met l yX5_meets wsX5_meets rm_X5_meets (mPc D [.ref (a 0), .int p0] (xM a k M0 L0) (tM k) sz) (mQi D (xM a k M0 L0) (xM a k Mz L0) sz r) 0 0 (va_A (xM a k M0 L0) sz) := by
  refine mk_met (cc := cX5_meets) (maxL := 2) (ret := (some .int)) (by decide) rfl (Nat.le_of_ble_eq_true rfl) ?_
  intro p e s m below meth c hx hb hr hml hts hown hmn hlocks hnw hsz hK hP hD hS hA ls hl
  obtain ⟨A, hAe⟩ : ∃ A, A = va_A (xM a k M0 L0) sz := ⟨_, rfl⟩
  rw [← hAe] at hD hS hA
  generalize hargs : List.toArray ([.ref (a 0), .int p0] : List Value) = args at hts ⊢
  generalize hQ : MQ below (mQi D (xM a k M0 L0) (xM a k Mz L0) sz r) args s 0 0 (va_A (xM a k M0 L0) sz) = Q
  have hl : lv_has ls 2 [(0, .ref (a 0)), (1, .int p0)] := hl
  have hin5 : ∀ w ∈ wsX50, w ∈ wsX5_meets := fun w h => List.mem_cons_of_mem _ (List.mem_append_right _ h)
  rw [f_X5_meets] at h
  obtain ⟨H, hH⟩ : ∃ H, H = s.heap := ⟨_, rfl⟩
  obtain ⟨locs, hlc⟩ : ∃ L : List Loc, L = [] := ⟨_, rfl⟩
  rw [← hH] at hP
  have hS : va_S A s.heap H locs := by rw [hH, hlc]; exact hS
  suffices hW9 : W p l e rm_X5_meets s m args below meth c H locs 0 0 Q (F0 m 0 ls []) by rw [hH, hlc] at hW9; exact hW9
  refine lv_aload_n hx hb dX5_meets_0 rfl (lv_at hl 0 rfl) ?_
  refine lv_iload_n hx hb dX5_meets_1 rfl (lv_at hl 1 rfl) ?_
  refine va_put (D := D) (ci := 5) (v := .int p0) (ty := .int) (C := RX5) (T := TX5) (N := 20) hx hb hts hin5 tyX5 tyX5_ok nmX5 hown hK hP hD hS 0 rfl rfl 0 (by decide) (hts (.fieldLink RX5 60 "BallastLineModel" "finding" "I") (List.mem_of_getElem? (i := 1) rfl)) (fun _ h9 => h9) rfl (by decide +kernel) rfl rfl (Nat.le_of_ble_eq_true rfl) dX5_meets_2 (fun H locs hP hD hS => ?_)
  obtain ⟨M_1, eM_1⟩ : ∃ y : Nat → Nat → Int32, y = st M0 0 0 p0 := ⟨_, rfl⟩
  have h := ltt_s eM_1 h
  have hP : va_P D vwCl (xM a k M_1 L0) H := by rw [eM_1]; exact hP
  have hD : va_D A (xM a k M_1 L0) := by rw [eM_1]; exact hD
  refine lv_aload_n hx hb dX5_meets_5 rfl (lv_at hl 0 rfl) ?_
  refine va_get (D := D) (ci := 5) (v := .ref (a 1)) (C := RX5) (T := TX5) (N := 20) hx hb hts hin5 hown hK hP 0 rfl rfl 1 (by decide) (hts (.fieldLink RX5 7 "BallastLineModel" "findings" "[I") (List.mem_of_getElem? (i := 2) rfl)) (fun _ h9 => h9) rfl dX5_meets_6 ?_
  refine lv_iload_n hx hb dX5_meets_9 rfl (lv_at hl 1 rfl) ?_
  refine lv_dup2_11 hx hb dX5_meets_10 rfl rfl ?_
  obtain ⟨g2, h⟩ := gd_s h
  refine va_iald hx hb hK hP 1 0 rfl rfl (inb_in g2) dX5_meets_11 ?_
  refine lv_iconst (v := (1 : Int32)) hx hb dX5_meets_12 (by decide) ?_
  refine lv_iadd hx hb dX5_meets_13 ?_
  obtain ⟨g3, h⟩ := gd_s h
  refine va_iast hx hb hK hP hD hS 1 0 rfl rfl (inb_in g3) dX5_meets_14 (fun H locs hP hD hS => ?_)
  obtain ⟨M_4, eM_4⟩ : ∃ y : Nat → Nat → Int32, y = st M_1 1 (Int32.toNatClampNeg p0) ((M_1 1 (Int32.toNatClampNeg p0)) + (1 : Int32)) := ⟨_, rfl⟩
  have h := ltt_s eM_4 h
  have hP : va_P D vwCl (xM a k M_4 L0) H := by rw [eM_4]; exact hP
  have hD : va_D A (xM a k M_4 L0) := by rw [eM_4]; exact hD
  refine lv_bipush (v := (-3 : Int32)) hx hb dX5_meets_15 (by decide) ?_
  have h := Option.some.inj h
  obtain ⟨hz0, h⟩ := Prod.mk.inj h
  have hP : va_P D vwCl (xM a k Mz L0) H := by rw [← h]; exact hP
  have hD : va_D A (xM a k Mz L0) := by rw [← h]; exact hD
  subst hQ
  subst hAe
  exact r_i hx hb hr hlocks hz0 hP hD hS dX5_meets_17
def f_X5_tell (L0 : Int64) (p0 : Int64) (p1 : Int32) : Option (Int32 × Int64) := some (p1, p0)
abbrev rm_X5_tell : Room := { frames := 0, cells := 0, slots := 0, locals := 0 }
set_option maxHeartbeats 4000000 in
set_option maxRecDepth 100000 in
theorem c_X5_tell (l : Launch) (D : va_G) (a : Nat → Nat) (k : Nat → ClassId) (sz : Nat) (M0 : Nat → Nat → Int32) (L0 : Int64) (p0 : Int64) (p1 : Int32) (r : Int32) (Lz : Int64) (h : f_X5_tell L0 p0 p1 = some (r, Lz)) : Met l yX5_tell wsX5_tell rm_X5_tell (mPc D [.ref (a 0), .long p0, .int p1] (xM a k M0 L0) (tM k) sz) (mQi D (xM a k M0 L0) (xM a k M0 Lz) sz r) 0 0 (va_A (xM a k M0 L0) sz) := by
  refine mk_met (cc := cX5_tell) (maxL := 4) (ret := (some .int)) (by decide) rfl (Nat.le_of_ble_eq_true rfl) ?_
  intro p e s m below meth c hx hb hr hml hts hown hmn hlocks hnw hsz hK hP hD hS hA ls hl
  obtain ⟨A, hAe⟩ : ∃ A, A = va_A (xM a k M0 L0) sz := ⟨_, rfl⟩
  rw [← hAe] at hD hS hA
  generalize hargs : List.toArray ([.ref (a 0), .long p0, .int p1] : List Value) = args at hts ⊢
  generalize hQ : MQ below (mQi D (xM a k M0 L0) (xM a k M0 Lz) sz r) args s 0 0 (va_A (xM a k M0 L0) sz) = Q
  have hl : lv_has ls 4 [(0, .ref (a 0)), (1, .long p0), (3, .int p1)] := hl
  have hin5 : ∀ w ∈ wsX50, w ∈ wsX5_tell := fun w h => List.mem_cons_of_mem _ (List.mem_append_right _ h)
  rw [f_X5_tell] at h
  obtain ⟨H, hH⟩ : ∃ H, H = s.heap := ⟨_, rfl⟩
  obtain ⟨locs, hlc⟩ : ∃ L : List Loc, L = [] := ⟨_, rfl⟩
  rw [← hH] at hP
  have hS : va_S A s.heap H locs := by rw [hH, hlc]; exact hS
  suffices hW9 : W p l e rm_X5_tell s m args below meth c H locs 0 0 Q (F0 m 0 ls []) by rw [hH, hlc] at hW9; exact hW9
  refine lv_aload_n hx hb dX5_tell_0 rfl (lv_at hl 0 rfl) ?_
  refine lv_lload_n hx hb dX5_tell_1 rfl (lv_at hl 1 rfl) ?_
  refine va_put (D := D) (ci := 5) (v := .long p0) (ty := .long) (C := RX5) (T := TX5) (N := 20) hx hb hts hin5 tyX5 tyX5_ok nmX5 hown hK hP hD hS 0 rfl rfl 2 (by decide) (hts (.fieldLink RX5 64 "BallastLineModel" "asked" "J") (List.mem_of_getElem? (i := 1) rfl)) (fun _ h9 => h9) rfl (by decide +kernel) rfl rfl (Nat.le_of_ble_eq_true rfl) dX5_tell_2 (fun H locs hP hD hS => ?_)
  have hP : va_P D vwCl (xM a k M0 p0) H := hP
  have hD : va_D A (xM a k M0 p0) := hD
  refine lv_iload_n hx hb dX5_tell_5 rfl (lv_at hl 2 rfl) ?_
  have h := Option.some.inj h
  obtain ⟨hz0, h⟩ := Prod.mk.inj h
  have hP : va_P D vwCl (xM a k M0 Lz) H := by rw [← h]; exact hP
  have hD : va_D A (xM a k M0 Lz) := by rw [← h]; exact hD
  subst hQ
  subst hAe
  exact r_i hx hb hr hlocks hz0 hP hD hS dX5_tell_6
def f_X5_isSleeper (M0 : Nat → Nat → Int32) (p0 : Int32) : Option (Int32) := b1 (f_X5_in p0 (0 : Int32) ((M0 3 0) - (1 : Int32))) (fun r1 => gd (isb r1) (some r1))
abbrev rm_X5_isSleeper : Room := { frames := 1, cells := 0, slots := 0, locals := 22 }
set_option maxHeartbeats 4000000 in
set_option maxRecDepth 100000 in
theorem c_X5_isSleeper (l : Launch) (D : va_G) (a : Nat → Nat) (k : Nat → ClassId) (sz : Nat) (M0 : Nat → Nat → Int32) (L0 : Int64) (p0 : Int32) (r : Int32) (h : f_X5_isSleeper M0 p0 = some r) : Met l yX5_isSleeper wsX5_isSleeper rm_X5_isSleeper (mPc D [.ref (a 0), .int p0] (xM a k M0 L0) (tM k) sz) (mQi D (xM a k M0 L0) (xM a k M0 L0) sz r) 0 0 (va_A (xM a k M0 L0) sz) := by
  refine mk_met (cc := cX5_isSleeper) (maxL := 2) (ret := (some .boolean)) (by decide) rfl (Nat.le_of_ble_eq_true rfl) ?_
  intro p e s m below meth c hx hb hr hml hts hown hmn hlocks hnw hsz hK hP hD hS hA ls hl
  obtain ⟨A, hAe⟩ : ∃ A, A = va_A (xM a k M0 L0) sz := ⟨_, rfl⟩
  rw [← hAe] at hD hS hA
  generalize hargs : List.toArray ([.ref (a 0), .int p0] : List Value) = args at hts ⊢
  generalize hQ : MQ below (mQi D (xM a k M0 L0) (xM a k M0 L0) sz r) args s 0 0 (va_A (xM a k M0 L0) sz) = Q
  have hl : lv_has ls 2 [(0, .ref (a 0)), (1, .int p0)] := hl
  have hin5 : ∀ w ∈ wsX50, w ∈ wsX5_isSleeper := fun w h => List.mem_cons_of_mem _ (List.mem_append_right _ h)
  rw [f_X5_isSleeper] at h
  obtain ⟨H, hH⟩ : ∃ H, H = s.heap := ⟨_, rfl⟩
  obtain ⟨locs, hlc⟩ : ∃ L : List Loc, L = [] := ⟨_, rfl⟩
  rw [← hH] at hP
  have hS : va_S A s.heap H locs := by rw [hH, hlc]; exact hS
  suffices hW9 : W p l e rm_X5_isSleeper s m args below meth c H locs 0 0 Q (F0 m 0 ls []) by rw [hH, hlc] at hW9; exact hW9
  refine lv_iload_n hx hb dX5_isSleeper_0 rfl (lv_at hl 1 rfl) ?_
  refine lv_iconst (v := (0 : Int32)) hx hb dX5_isSleeper_1 (by decide) ?_
  refine lv_aload_n hx hb dX5_isSleeper_2 rfl (lv_at hl 0 rfl) ?_
  refine va_get (D := D) (ci := 5) (v := .int (M0 3 0)) (C := RX5) (T := TX5) (N := 20) hx hb hts hin5 hown hK hP 0 rfl rfl 3 (by decide) (hts (.fieldLink RX5 72 "BallastLineModel" "many" "I") (List.mem_of_getElem? (i := 1) rfl)) (fun _ h9 => h9) rfl dX5_isSleeper_3 ?_
  refine lv_iconst (v := (1 : Int32)) hx hb dX5_isSleeper_6 (by decide) ?_
  refine lv_isub hx hb dX5_isSleeper_7 ?_
  obtain ⟨r1, q1, h⟩ := b1_s h
  refine go_i (run_S (As := [.int p0, .int (0 : Int32), .int ((M0 3 0) - (1 : Int32))]) (rest := []) ⟨hx, hb, hml, hown, hts⟩ hnw hK hP hD (fr_M_E a k M0 L0) (ks_M_E k) (c_X5_in l D H.size p0 (0 : Int32) ((M0 3 0) - (1 : Int32)) r1 q1) (cwS 3 hts gX5_isSleeper_X5_in rfl rfl rfl (by decide +kernel) ⟨Nat.le_of_ble_eq_true rfl, Nat.le_of_ble_eq_true rfl⟩) rfl hl.1 rfl (Nat.le_of_ble_eq_true rfl) dX5_isSleeper_8 ⟨Nat.zero_le _, Nat.zero_le _⟩) hP hD hS hA (fr_M_E a k M0 L0) (fun H locs hP hD hS => ?_)
  obtain ⟨g2, h⟩ := gd_s h
  have h := Option.some.inj h
  subst hQ
  subst hAe
  exact r_z hx hb hr (isb_s g2) hlocks h hP hD hS dX5_isSleeper_11
def f_X5_looked (M0 : Nat → Nat → Int32) (p0 : Int32) : Option (Int32 × (Nat → Nat → Int32)) := b1 (f_X5_isSleeper M0 p0) (fun r1 => if r1 = (0 : Int32) then (some ((-1 : Int32), M0)) else (gd (inb p0 40) (if (M0 9 (Int32.toNatClampNeg p0)) = (0 : Int32) then (some ((0 : Int32), M0)) else (b2 (f_X5_meets M0 (1 : Int32)) (fun r5 (M_5 : Nat → Nat → Int32) => some (r5, M_5))))))
abbrev rm_X5_looked : Room := { frames := 2, cells := 0, slots := 0, locals := 43 }
set_option maxHeartbeats 4000000 in
set_option maxRecDepth 100000 in
theorem c_X5_looked (l : Launch) (D : va_G) (a : Nat → Nat) (k : Nat → ClassId) (sz : Nat) (M0 : Nat → Nat → Int32) (L0 : Int64) (p0 : Int32) (r : Int32) (Mz : (Nat → Nat → Int32)) (h : f_X5_looked M0 p0 = some (r, Mz)) : Met l yX5_looked wsX5_looked rm_X5_looked (mPc D [.ref (a 0), .int p0] (xM a k M0 L0) (tM k) sz) (mQi D (xM a k M0 L0) (xM a k Mz L0) sz r) 0 0 (va_A (xM a k M0 L0) sz) := by
  refine mk_met (cc := cX5_looked) (maxL := 2) (ret := (some .int)) (by decide) rfl (Nat.le_of_ble_eq_true rfl) ?_
  intro p e s m below meth c hx hb hr hml hts hown hmn hlocks hnw hsz hK hP hD hS hA ls hl
  obtain ⟨A, hAe⟩ : ∃ A, A = va_A (xM a k M0 L0) sz := ⟨_, rfl⟩
  rw [← hAe] at hD hS hA
  generalize hargs : List.toArray ([.ref (a 0), .int p0] : List Value) = args at hts ⊢
  generalize hQ : MQ below (mQi D (xM a k M0 L0) (xM a k Mz L0) sz r) args s 0 0 (va_A (xM a k M0 L0) sz) = Q
  have hl : lv_has ls 2 [(0, .ref (a 0)), (1, .int p0)] := hl
  have hin5 : ∀ w ∈ wsX50, w ∈ wsX5_looked := fun w h => List.mem_cons_of_mem _ (List.mem_append_right _ h)
  rw [f_X5_looked] at h
  obtain ⟨H, hH⟩ : ∃ H, H = s.heap := ⟨_, rfl⟩
  obtain ⟨locs, hlc⟩ : ∃ L : List Loc, L = [] := ⟨_, rfl⟩
  rw [← hH] at hP
  have hS : va_S A s.heap H locs := by rw [hH, hlc]; exact hS
  suffices hW9 : W p l e rm_X5_looked s m args below meth c H locs 0 0 Q (F0 m 0 ls []) by rw [hH, hlc] at hW9; exact hW9
  refine lv_aload_n hx hb dX5_looked_0 rfl (lv_at hl 0 rfl) ?_
  refine lv_iload_n hx hb dX5_looked_1 rfl (lv_at hl 1 rfl) ?_
  obtain ⟨r1, q1, h⟩ := b1_s h
  refine go_i (run_V (As := [.int p0]) (rest := []) ⟨hx, hb, hml, hown, hts⟩ hnw hK hP hD (fr_M_M a k M0 L0 M0 L0) (ks_M_M k) (c_X5_isSleeper l D a k H.size M0 L0 p0 r1 q1) (cwV 1 hts gX5_looked_X5_isSleeper rfl rfl rfl (by decide +kernel) ⟨Nat.le_of_ble_eq_true rfl, Nat.le_of_ble_eq_true rfl⟩) (rcv_M a k M0 L0) rfl hl.1 rfl (Nat.le_of_ble_eq_true rfl) dX5_looked_2 ⟨Nat.zero_le _, Nat.zero_le _⟩) hP hD hS hA (fr_M_M a k M0 L0 M0 L0) (fun H locs hP hD hS => ?_)
  refine lv_if_ne (tgt := 12) hx hb dX5_looked_5 (by decide) (fun c2 => ?_) (fun c2 => ?_)
  · have h := it_f c2 h
    refine lv_aload_n hx hb dX5_looked_12 rfl (lv_at hl 0 rfl) ?_
    refine va_get (D := D) (ci := 5) (v := .ref (a 7)) (C := RX5) (T := TX5) (N := 20) hx hb hts hin5 hown hK hP 0 rfl rfl 9 (by decide) (hts (.fieldLink RX5 28 "BallastLineModel" "isLost" "[Z") (List.mem_of_getElem? (i := 1) rfl)) (fun _ h9 => h9) rfl dX5_looked_13 ?_
    refine lv_iload_n hx hb dX5_looked_16 rfl (lv_at hl 1 rfl) ?_
    obtain ⟨g3, h⟩ := gd_s h
    refine va_zald hx hb hK hP 7 6 rfl rfl (inb_in g3) dX5_looked_17 ?_
    refine lv_if_eq (tgt := 29) hx hb dX5_looked_18 (by decide) (fun c4 => ?_) (fun c4 => ?_)
    · have h := it_t c4 h
      refine lv_iconst (v := (0 : Int32)) hx hb dX5_looked_29 (by decide) ?_
      have h := Option.some.inj h
      obtain ⟨hz0, h⟩ := Prod.mk.inj h
      have hP : va_P D vwCl (xM a k Mz L0) H := by rw [← h]; exact hP
      have hD : va_D A (xM a k Mz L0) := by rw [← h]; exact hD
      subst hQ
      subst hAe
      exact r_i hx hb hr hlocks hz0 hP hD hS dX5_looked_30
    · have h := it_f c4 h
      refine lv_aload_n hx hb dX5_looked_21 rfl (lv_at hl 0 rfl) ?_
      refine lv_iconst (v := (1 : Int32)) hx hb dX5_looked_22 (by decide) ?_
      obtain ⟨r5, M_5, q5, h⟩ := b2_s h
      refine go_i (run_V (As := [.int (1 : Int32)]) (rest := []) ⟨hx, hb, hml, hown, hts⟩ hnw hK hP hD (fr_M_M a k M0 L0 M_5 L0) (ks_M_M k) (c_X5_meets l D a k H.size M0 L0 (1 : Int32) r5 M_5 q5) (cwV 1 hts gX5_looked_X5_meets rfl rfl rfl (by decide +kernel) ⟨Nat.le_of_ble_eq_true rfl, Nat.le_of_ble_eq_true rfl⟩) (rcv_M a k M0 L0) rfl hl.1 rfl (Nat.le_of_ble_eq_true rfl) dX5_looked_23 ⟨Nat.zero_le _, Nat.zero_le _⟩) hP hD hS hA (fr_M_M a k M0 L0 M_5 L0) (fun H locs hP hD hS => ?_)
      refine lv_goto (tgt := 30) hx hb dX5_looked_26 (by decide) ?_
      have h := Option.some.inj h
      obtain ⟨hz0, h⟩ := Prod.mk.inj h
      have hP : va_P D vwCl (xM a k Mz L0) H := by rw [← h]; exact hP
      have hD : va_D A (xM a k Mz L0) := by rw [← h]; exact hD
      subst hQ
      subst hAe
      exact r_i hx hb hr hlocks hz0 hP hD hS dX5_looked_30
  · have h := it_t c2 h
    refine lv_iconst (v := (-1 : Int32)) hx hb dX5_looked_8 (by decide) ?_
    refine lv_goto (tgt := 30) hx hb dX5_looked_9 (by decide) ?_
    have h := Option.some.inj h
    obtain ⟨hz0, h⟩ := Prod.mk.inj h
    have hP : va_P D vwCl (xM a k Mz L0) H := by rw [← h]; exact hP
    have hD : va_D A (xM a k Mz L0) := by rw [← h]; exact hD
    subst hQ
    subst hAe
    exact r_i hx hb hr hlocks hz0 hP hD hS dX5_looked_30
def f_X5_sleeper (M0 : Nat → Nat → Int32) (p0 : Int32) (p1 : Int32) : Option (Int32 × (Nat → Nat → Int32)) := b1 (f_X5_isSleeper M0 p0) (fun r1 => if r1 = (0 : Int32) then (some ((-1 : Int32), M0)) else (b1 (f_X5_in p1 (0 : Int32) (3 : Int32)) (fun r3 => if r3 = (0 : Int32) then (some ((-1 : Int32), M0)) else (gd (inb p0 40) (ltt ((M0 4 (Int32.toNatClampNeg p0))) (fun v6 => gd (inb p0 40) (ltt (st M0 4 (Int32.toNatClampNeg p0) p1) (fun (M_8 : Nat → Nat → Int32) => gd (inb p0 40) (ltt (st M_8 9 (Int32.toNatClampNeg p0) (vp_nar .boolean (0 : Int32))) (fun (M_10 : Nat → Nat → Int32) => some (v6, M_10)))))))))))
abbrev rm_X5_sleeper : Room := { frames := 2, cells := 0, slots := 0, locals := 43 }
set_option maxHeartbeats 4000000 in
set_option maxRecDepth 100000 in
theorem c_X5_sleeper (l : Launch) (D : va_G) (a : Nat → Nat) (k : Nat → ClassId) (sz : Nat) (M0 : Nat → Nat → Int32) (L0 : Int64) (p0 : Int32) (p1 : Int32) (r : Int32) (Mz : (Nat → Nat → Int32)) (h : f_X5_sleeper M0 p0 p1 = some (r, Mz)) : Met l yX5_sleeper wsX5_sleeper rm_X5_sleeper (mPc D [.ref (a 0), .int p0, .int p1] (xM a k M0 L0) (tM k) sz) (mQi D (xM a k M0 L0) (xM a k Mz L0) sz r) 0 0 (va_A (xM a k M0 L0) sz) := by
  refine mk_met (cc := cX5_sleeper) (maxL := 4) (ret := (some .int)) (by decide) rfl (Nat.le_of_ble_eq_true rfl) ?_
  intro p e s m below meth c hx hb hr hml hts hown hmn hlocks hnw hsz hK hP hD hS hA ls hl
  obtain ⟨A, hAe⟩ : ∃ A, A = va_A (xM a k M0 L0) sz := ⟨_, rfl⟩
  rw [← hAe] at hD hS hA
  generalize hargs : List.toArray ([.ref (a 0), .int p0, .int p1] : List Value) = args at hts ⊢
  generalize hQ : MQ below (mQi D (xM a k M0 L0) (xM a k Mz L0) sz r) args s 0 0 (va_A (xM a k M0 L0) sz) = Q
  have hl : lv_has ls 4 [(0, .ref (a 0)), (1, .int p0), (2, .int p1)] := hl
  have hin5 : ∀ w ∈ wsX50, w ∈ wsX5_sleeper := fun w h => List.mem_cons_of_mem _ (List.mem_append_right _ h)
  rw [f_X5_sleeper] at h
  obtain ⟨H, hH⟩ : ∃ H, H = s.heap := ⟨_, rfl⟩
  obtain ⟨locs, hlc⟩ : ∃ L : List Loc, L = [] := ⟨_, rfl⟩
  rw [← hH] at hP
  have hS : va_S A s.heap H locs := by rw [hH, hlc]; exact hS
  suffices hW9 : W p l e rm_X5_sleeper s m args below meth c H locs 0 0 Q (F0 m 0 ls []) by rw [hH, hlc] at hW9; exact hW9
  refine lv_aload_n hx hb dX5_sleeper_0 rfl (lv_at hl 0 rfl) ?_
  refine lv_iload_n hx hb dX5_sleeper_1 rfl (lv_at hl 1 rfl) ?_
  obtain ⟨r1, q1, h⟩ := b1_s h
  refine go_i (run_V (As := [.int p0]) (rest := []) ⟨hx, hb, hml, hown, hts⟩ hnw hK hP hD (fr_M_M a k M0 L0 M0 L0) (ks_M_M k) (c_X5_isSleeper l D a k H.size M0 L0 p0 r1 q1) (cwV 1 hts gX5_sleeper_X5_isSleeper rfl rfl rfl (by decide +kernel) ⟨Nat.le_of_ble_eq_true rfl, Nat.le_of_ble_eq_true rfl⟩) (rcv_M a k M0 L0) rfl hl.1 rfl (Nat.le_of_ble_eq_true rfl) dX5_sleeper_2 ⟨Nat.zero_le _, Nat.zero_le _⟩) hP hD hS hA (fr_M_M a k M0 L0 M0 L0) (fun H locs hP hD hS => ?_)
  refine lv_if_eq (tgt := 17) hx hb dX5_sleeper_5 (by decide) (fun c2 => ?_) (fun c2 => ?_)
  · have h := it_t c2 h
    refine lv_iconst (v := (-1 : Int32)) hx hb dX5_sleeper_17 (by decide) ?_
    have h := Option.some.inj h
    obtain ⟨hz0, h⟩ := Prod.mk.inj h
    have hP : va_P D vwCl (xM a k Mz L0) H := by rw [← h]; exact hP
    have hD : va_D A (xM a k Mz L0) := by rw [← h]; exact hD
    subst hQ
    subst hAe
    exact r_i hx hb hr hlocks hz0 hP hD hS dX5_sleeper_18
  · have h := it_f c2 h
    refine lv_iload_n hx hb dX5_sleeper_8 rfl (lv_at hl 2 rfl) ?_
    refine lv_iconst (v := (0 : Int32)) hx hb dX5_sleeper_9 (by decide) ?_
    refine lv_iconst (v := (3 : Int32)) hx hb dX5_sleeper_10 (by decide) ?_
    obtain ⟨r3, q3, h⟩ := b1_s h
    refine go_i (run_S (As := [.int p1, .int (0 : Int32), .int (3 : Int32)]) (rest := []) ⟨hx, hb, hml, hown, hts⟩ hnw hK hP hD (fr_M_E a k M0 L0) (ks_M_E k) (c_X5_in l D H.size p1 (0 : Int32) (3 : Int32) r3 q3) (cwS 3 hts gX5_sleeper_X5_in rfl rfl rfl (by decide +kernel) ⟨Nat.le_of_ble_eq_true rfl, Nat.le_of_ble_eq_true rfl⟩) rfl hl.1 rfl (Nat.le_of_ble_eq_true rfl) dX5_sleeper_11 ⟨Nat.zero_le _, Nat.zero_le _⟩) hP hD hS hA (fr_M_E a k M0 L0) (fun H locs hP hD hS => ?_)
    refine lv_if_ne (tgt := 19) hx hb dX5_sleeper_14 (by decide) (fun c4 => ?_) (fun c4 => ?_)
    · have h := it_f c4 h
      refine lv_aload_n hx hb dX5_sleeper_19 rfl (lv_at hl 0 rfl) ?_
      refine va_get (D := D) (ci := 5) (v := .ref (a 2)) (C := RX5) (T := TX5) (N := 20) hx hb hts hin5 hown hK hP 0 rfl rfl 4 (by decide) (hts (.fieldLink RX5 13 "BallastLineModel" "kinds" "[I") (List.mem_of_getElem? (i := 1) rfl)) (fun _ h9 => h9) rfl dX5_sleeper_20 ?_
      refine lv_iload_n hx hb dX5_sleeper_23 rfl (lv_at hl 1 rfl) ?_
      obtain ⟨g5, h⟩ := gd_s h
      refine va_iald hx hb hK hP 2 1 rfl rfl (inb_in g5) dX5_sleeper_24 ?_
      refine lv_topi (fun v6 ev6 => ?_)
      have h := ltt_s ev6 h
      refine lv_istore_n (lv' := [(3, .int v6), (0, .ref (a 0)), (1, .int p0), (2, .int p1)]) hx hb dX5_sleeper_25 rfl hl (by decide) rfl (fun ls hl => ?_)
      refine lv_aload_n hx hb dX5_sleeper_26 rfl (lv_at hl 1 rfl) ?_
      refine va_get (D := D) (ci := 5) (v := .ref (a 2)) (C := RX5) (T := TX5) (N := 20) hx hb hts hin5 hown hK hP 0 rfl rfl 4 (by decide) (hts (.fieldLink RX5 13 "BallastLineModel" "kinds" "[I") (List.mem_of_getElem? (i := 1) rfl)) (fun _ h9 => h9) rfl dX5_sleeper_27 ?_
      refine lv_iload_n hx hb dX5_sleeper_30 rfl (lv_at hl 2 rfl) ?_
      refine lv_iload_n hx hb dX5_sleeper_31 rfl (lv_at hl 3 rfl) ?_
      obtain ⟨g7, h⟩ := gd_s h
      refine va_iast hx hb hK hP hD hS 2 1 rfl rfl (inb_in g7) dX5_sleeper_32 (fun H locs hP hD hS => ?_)
      obtain ⟨M_8, eM_8⟩ : ∃ y : Nat → Nat → Int32, y = st M0 4 (Int32.toNatClampNeg p0) p1 := ⟨_, rfl⟩
      have h := ltt_s eM_8 h
      have hP : va_P D vwCl (xM a k M_8 L0) H := by rw [eM_8]; exact hP
      have hD : va_D A (xM a k M_8 L0) := by rw [eM_8]; exact hD
      refine lv_aload_n hx hb dX5_sleeper_33 rfl (lv_at hl 1 rfl) ?_
      refine va_get (D := D) (ci := 5) (v := .ref (a 7)) (C := RX5) (T := TX5) (N := 20) hx hb hts hin5 hown hK hP 0 rfl rfl 9 (by decide) (hts (.fieldLink RX5 28 "BallastLineModel" "isLost" "[Z") (List.mem_of_getElem? (i := 2) rfl)) (fun _ h9 => h9) rfl dX5_sleeper_34 ?_
      refine lv_iload_n hx hb dX5_sleeper_37 rfl (lv_at hl 2 rfl) ?_
      refine lv_iconst (v := (0 : Int32)) hx hb dX5_sleeper_38 (by decide) ?_
      obtain ⟨g9, h⟩ := gd_s h
      refine va_zast hx hb hK hP hD hS 7 6 rfl rfl (inb_in g9) dX5_sleeper_39 (fun H locs hP hD hS => ?_)
      obtain ⟨M_10, eM_10⟩ : ∃ y : Nat → Nat → Int32, y = st M_8 9 (Int32.toNatClampNeg p0) (vp_nar .boolean (0 : Int32)) := ⟨_, rfl⟩
      have h := ltt_s eM_10 h
      have hP : va_P D vwCl (xM a k M_10 L0) H := by rw [eM_10]; exact hP
      have hD : va_D A (xM a k M_10 L0) := by rw [eM_10]; exact hD
      refine lv_iload_n hx hb dX5_sleeper_40 rfl (lv_at hl 0 rfl) ?_
      have h := Option.some.inj h
      obtain ⟨hz0, h⟩ := Prod.mk.inj h
      have hP : va_P D vwCl (xM a k Mz L0) H := by rw [← h]; exact hP
      have hD : va_D A (xM a k Mz L0) := by rw [← h]; exact hD
      subst hQ
      subst hAe
      exact r_i hx hb hr hlocks hz0 hP hD hS dX5_sleeper_41
    · have h := it_t c4 h
      refine lv_iconst (v := (-1 : Int32)) hx hb dX5_sleeper_17 (by decide) ?_
      have h := Option.some.inj h
      obtain ⟨hz0, h⟩ := Prod.mk.inj h
      have hP : va_P D vwCl (xM a k Mz L0) H := by rw [← h]; exact hP
      have hD : va_D A (xM a k Mz L0) := by rw [← h]; exact hD
      subst hQ
      subst hAe
      exact r_i hx hb hr hlocks hz0 hP hD hS dX5_sleeper_18
def f_X5_lose_J24  (p0 : Int32) (p1 : Int32)  (s0 : Int32) (M : Nat → Nat → Int32) : Option (Int32 × (Nat → Nat → Int32)) := gd (inb p0 40) (ltt (st M 9 (Int32.toNatClampNeg p0) (vp_nar .boolean p1)) (fun (M_2 : Nat → Nat → Int32) => some (s0, M_2)))
def f_X5_lose (M0 : Nat → Nat → Int32) (p0 : Int32) (p1 : Int32) : Option (Int32 × (Nat → Nat → Int32)) := b1 (f_X5_isSleeper M0 p0) (fun r3 => if r3 = (0 : Int32) then (some ((-1 : Int32), M0)) else (gd (inb p0 40) (if (M0 9 (Int32.toNatClampNeg p0)) = (0 : Int32) then (f_X5_lose_J24 p0 p1 (0 : Int32) M0) else (f_X5_lose_J24 p0 p1 (1 : Int32) M0))))
abbrev rm_X5_lose : Room := { frames := 2, cells := 0, slots := 0, locals := 43 }
set_option maxHeartbeats 4000000 in
set_option maxRecDepth 100000 in
theorem c_X5_lose (l : Launch) (D : va_G) (a : Nat → Nat) (k : Nat → ClassId) (sz : Nat) (M0 : Nat → Nat → Int32) (L0 : Int64) (p0 : Int32) (p1 : Int32) (r : Int32) (Mz : (Nat → Nat → Int32)) (h : f_X5_lose M0 p0 p1 = some (r, Mz)) : Met l yX5_lose wsX5_lose rm_X5_lose (mPc D [.ref (a 0), .int p0, .int p1] (xM a k M0 L0) (tM k) sz) (mQi D (xM a k M0 L0) (xM a k Mz L0) sz r) 0 0 (va_A (xM a k M0 L0) sz) := by
  refine mk_met (cc := cX5_lose) (maxL := 4) (ret := (some .int)) (by decide) rfl (Nat.le_of_ble_eq_true rfl) ?_
  intro p e s m below meth c hx hb hr hml hts hown hmn hlocks hnw hsz hK hP hD hS hA ls hl
  obtain ⟨A, hAe⟩ : ∃ A, A = va_A (xM a k M0 L0) sz := ⟨_, rfl⟩
  rw [← hAe] at hD hS hA
  generalize hargs : List.toArray ([.ref (a 0), .int p0, .int p1] : List Value) = args at hts ⊢
  generalize hQ : MQ below (mQi D (xM a k M0 L0) (xM a k Mz L0) sz r) args s 0 0 (va_A (xM a k M0 L0) sz) = Q
  have hl : lv_has ls 4 [(0, .ref (a 0)), (1, .int p0), (2, .int p1)] := hl
  have hin5 : ∀ w ∈ wsX50, w ∈ wsX5_lose := fun w h => List.mem_cons_of_mem _ (List.mem_append_right _ h)
  have lb24 : ∀ (s0 : Int32) (M : Nat → Nat → Int32), ∀ (H : Heap) (locs : List Loc), va_P D vwCl (xM a k M L0) H → va_D A (xM a k M L0) → va_S A s.heap H locs → ∀ ls : Array Slot, lv_has ls 4 [(0, .ref (a 0)), (1, .int p0), (2, .int p1)] → f_X5_lose_J24 p0 p1 s0 M = some (r, Mz) → W p l e rm_X5_lose s m args below meth c H locs 0 0 Q (F0 m 24 ls [.int s0]) := by
    intro  s0 M H locs hP hD hS ls hl h
    rw [f_X5_lose_J24] at h
    refine lv_istore_n (lv' := [(3, .int s0), (0, .ref (a 0)), (1, .int p0), (2, .int p1)]) hx hb dX5_lose_24 rfl hl (by decide) rfl (fun ls hl => ?_)
    refine lv_aload_n hx hb dX5_lose_25 rfl (lv_at hl 1 rfl) ?_
    refine va_get (D := D) (ci := 5) (v := .ref (a 7)) (C := RX5) (T := TX5) (N := 20) hx hb hts hin5 hown hK hP 0 rfl rfl 9 (by decide) (hts (.fieldLink RX5 28 "BallastLineModel" "isLost" "[Z") (List.mem_of_getElem? (i := 1) rfl)) (fun _ h9 => h9) rfl dX5_lose_26 ?_
    refine lv_iload_n hx hb dX5_lose_29 rfl (lv_at hl 2 rfl) ?_
    refine lv_iload_n hx hb dX5_lose_30 rfl (lv_at hl 3 rfl) ?_
    obtain ⟨g1, h⟩ := gd_s h
    refine va_zast hx hb hK hP hD hS 7 6 rfl rfl (inb_in g1) dX5_lose_31 (fun H locs hP hD hS => ?_)
    obtain ⟨M_2, eM_2⟩ : ∃ y : Nat → Nat → Int32, y = st M 9 (Int32.toNatClampNeg p0) (vp_nar .boolean p1) := ⟨_, rfl⟩
    have h := ltt_s eM_2 h
    have hP : va_P D vwCl (xM a k M_2 L0) H := by rw [eM_2]; exact hP
    have hD : va_D A (xM a k M_2 L0) := by rw [eM_2]; exact hD
    refine lv_iload_n hx hb dX5_lose_32 rfl (lv_at hl 0 rfl) ?_
    have h := Option.some.inj h
    obtain ⟨hz0, h⟩ := Prod.mk.inj h
    have hP : va_P D vwCl (xM a k Mz L0) H := by rw [← h]; exact hP
    have hD : va_D A (xM a k Mz L0) := by rw [← h]; exact hD
    subst hQ
    subst hAe
    exact r_i hx hb hr hlocks hz0 hP hD hS dX5_lose_33
  rw [f_X5_lose] at h
  obtain ⟨H, hH⟩ : ∃ H, H = s.heap := ⟨_, rfl⟩
  obtain ⟨locs, hlc⟩ : ∃ L : List Loc, L = [] := ⟨_, rfl⟩
  rw [← hH] at hP
  have hS : va_S A s.heap H locs := by rw [hH, hlc]; exact hS
  suffices hW9 : W p l e rm_X5_lose s m args below meth c H locs 0 0 Q (F0 m 0 ls []) by rw [hH, hlc] at hW9; exact hW9
  refine lv_aload_n hx hb dX5_lose_0 rfl (lv_at hl 0 rfl) ?_
  refine lv_iload_n hx hb dX5_lose_1 rfl (lv_at hl 1 rfl) ?_
  obtain ⟨r3, q3, h⟩ := b1_s h
  refine go_i (run_V (As := [.int p0]) (rest := []) ⟨hx, hb, hml, hown, hts⟩ hnw hK hP hD (fr_M_M a k M0 L0 M0 L0) (ks_M_M k) (c_X5_isSleeper l D a k H.size M0 L0 p0 r3 q3) (cwV 1 hts gX5_lose_X5_isSleeper rfl rfl rfl (by decide +kernel) ⟨Nat.le_of_ble_eq_true rfl, Nat.le_of_ble_eq_true rfl⟩) (rcv_M a k M0 L0) rfl hl.1 rfl (Nat.le_of_ble_eq_true rfl) dX5_lose_2 ⟨Nat.zero_le _, Nat.zero_le _⟩) hP hD hS hA (fr_M_M a k M0 L0 M0 L0) (fun H locs hP hD hS => ?_)
  refine lv_if_ne (tgt := 10) hx hb dX5_lose_5 (by decide) (fun c4 => ?_) (fun c4 => ?_)
  · have h := it_f c4 h
    refine lv_aload_n hx hb dX5_lose_10 rfl (lv_at hl 0 rfl) ?_
    refine va_get (D := D) (ci := 5) (v := .ref (a 7)) (C := RX5) (T := TX5) (N := 20) hx hb hts hin5 hown hK hP 0 rfl rfl 9 (by decide) (hts (.fieldLink RX5 28 "BallastLineModel" "isLost" "[Z") (List.mem_of_getElem? (i := 1) rfl)) (fun _ h9 => h9) rfl dX5_lose_11 ?_
    refine lv_iload_n hx hb dX5_lose_14 rfl (lv_at hl 1 rfl) ?_
    obtain ⟨g5, h⟩ := gd_s h
    refine va_zald hx hb hK hP 7 6 rfl rfl (inb_in g5) dX5_lose_15 ?_
    refine lv_if_eq (tgt := 23) hx hb dX5_lose_16 (by decide) (fun c6 => ?_) (fun c6 => ?_)
    · have h := it_t c6 h
      refine lv_iconst (v := (0 : Int32)) hx hb dX5_lose_23 (by decide) ?_
      exact lb24  (0 : Int32) M0 H locs hP hD hS ls (lv_sub hl [0, 1, 2] rfl) h
    · have h := it_f c6 h
      refine lv_iconst (v := (1 : Int32)) hx hb dX5_lose_19 (by decide) ?_
      refine lv_goto (tgt := 24) hx hb dX5_lose_20 (by decide) ?_
      exact lb24  (1 : Int32) M0 H locs hP hD hS ls (lv_sub hl [0, 1, 2] rfl) h
  · have h := it_t c4 h
    refine lv_iconst (v := (-1 : Int32)) hx hb dX5_lose_8 (by decide) ?_
    have h := Option.some.inj h
    obtain ⟨hz0, h⟩ := Prod.mk.inj h
    have hP : va_P D vwCl (xM a k Mz L0) H := by rw [← h]; exact hP
    have hD : va_D A (xM a k Mz L0) := by rw [← h]; exact hD
    subst hQ
    subst hAe
    exact r_i hx hb hr hlocks hz0 hP hD hS dX5_lose_9
def f_X5_bed (M0 : Nat → Nat → Int32) (L0 : Int64) (p0 : Int32) (p1 : Int32) : Option (Int32 × (Nat → Nat → Int32) × Int64) := b1 (f_X5_in p1 (-10000 : Int32) (10000 : Int32)) (fun r1 => if r1 = (0 : Int32) then (some ((-1 : Int32), M0, L0)) else (b2 (f_X5_looked M0 p0) (fun r3 (M_3 : Nat → Nat → Int32) => if (0 : Int32) ≤ r3 then (gd (inb p0 40) (ltt ((Int32.toInt64 (M_3 5 (Int32.toNatClampNeg p0)))) (fun (L_6 : Int64) => gd (inb p0 40) (ltt (st M_3 5 (Int32.toNatClampNeg p0) p1) (fun (M_8 : Nat → Nat → Int32) => some ((1 : Int32), M_8, L_6)))))) else (some (r3, M_3, L0)))))
abbrev rm_X5_bed : Room := { frames := 3, cells := 0, slots := 0, locals := 64 }
set_option maxHeartbeats 4000000 in
set_option maxRecDepth 100000 in
theorem c_X5_bed (l : Launch) (D : va_G) (a : Nat → Nat) (k : Nat → ClassId) (sz : Nat) (M0 : Nat → Nat → Int32) (L0 : Int64) (p0 : Int32) (p1 : Int32) (r : Int32) (Mz : (Nat → Nat → Int32)) (Lz : Int64) (h : f_X5_bed M0 L0 p0 p1 = some (r, Mz, Lz)) : Met l yX5_bed wsX5_bed rm_X5_bed (mPc D [.ref (a 0), .int p0, .int p1] (xM a k M0 L0) (tM k) sz) (mQi D (xM a k M0 L0) (xM a k Mz Lz) sz r) 0 0 (va_A (xM a k M0 L0) sz) := by
  refine mk_met (cc := cX5_bed) (maxL := 4) (ret := (some .int)) (by decide) rfl (Nat.le_of_ble_eq_true rfl) ?_
  intro p e s m below meth c hx hb hr hml hts hown hmn hlocks hnw hsz hK hP hD hS hA ls hl
  obtain ⟨A, hAe⟩ : ∃ A, A = va_A (xM a k M0 L0) sz := ⟨_, rfl⟩
  rw [← hAe] at hD hS hA
  generalize hargs : List.toArray ([.ref (a 0), .int p0, .int p1] : List Value) = args at hts ⊢
  generalize hQ : MQ below (mQi D (xM a k M0 L0) (xM a k Mz Lz) sz r) args s 0 0 (va_A (xM a k M0 L0) sz) = Q
  have hl : lv_has ls 4 [(0, .ref (a 0)), (1, .int p0), (2, .int p1)] := hl
  have hin5 : ∀ w ∈ wsX50, w ∈ wsX5_bed := fun w h => List.mem_cons_of_mem _ (List.mem_append_right _ h)
  rw [f_X5_bed] at h
  obtain ⟨H, hH⟩ : ∃ H, H = s.heap := ⟨_, rfl⟩
  obtain ⟨locs, hlc⟩ : ∃ L : List Loc, L = [] := ⟨_, rfl⟩
  rw [← hH] at hP
  have hS : va_S A s.heap H locs := by rw [hH, hlc]; exact hS
  suffices hW9 : W p l e rm_X5_bed s m args below meth c H locs 0 0 Q (F0 m 0 ls []) by rw [hH, hlc] at hW9; exact hW9
  refine lv_iload_n hx hb dX5_bed_0 rfl (lv_at hl 2 rfl) ?_
  refine lv_sipush (v := (-10000 : Int32)) hx hb dX5_bed_1 (by decide) ?_
  refine lv_sipush (v := (10000 : Int32)) hx hb dX5_bed_4 (by decide) ?_
  obtain ⟨r1, q1, h⟩ := b1_s h
  refine go_i (run_S (As := [.int p1, .int (-10000 : Int32), .int (10000 : Int32)]) (rest := []) ⟨hx, hb, hml, hown, hts⟩ hnw hK hP hD (fr_M_E a k M0 L0) (ks_M_E k) (c_X5_in l D H.size p1 (-10000 : Int32) (10000 : Int32) r1 q1) (cwS 3 hts gX5_bed_X5_in rfl rfl rfl (by decide +kernel) ⟨Nat.le_of_ble_eq_true rfl, Nat.le_of_ble_eq_true rfl⟩) rfl hl.1 rfl (Nat.le_of_ble_eq_true rfl) dX5_bed_7 ⟨Nat.zero_le _, Nat.zero_le _⟩) hP hD hS hA (fr_M_E a k M0 L0) (fun H locs hP hD hS => ?_)
  refine lv_if_ne (tgt := 15) hx hb dX5_bed_10 (by decide) (fun c2 => ?_) (fun c2 => ?_)
  · have h := it_f c2 h
    refine lv_aload_n hx hb dX5_bed_15 rfl (lv_at hl 0 rfl) ?_
    refine lv_iload_n hx hb dX5_bed_16 rfl (lv_at hl 1 rfl) ?_
    obtain ⟨r3, M_3, q3, h⟩ := b2_s h
    refine go_i (run_V (As := [.int p0]) (rest := []) ⟨hx, hb, hml, hown, hts⟩ hnw hK hP hD (fr_M_M a k M0 L0 M_3 L0) (ks_M_M k) (c_X5_looked l D a k H.size M0 L0 p0 r3 M_3 q3) (cwV 1 hts gX5_bed_X5_looked rfl rfl rfl (by decide +kernel) ⟨Nat.le_of_ble_eq_true rfl, Nat.le_of_ble_eq_true rfl⟩) (rcv_M a k M0 L0) rfl hl.1 rfl (Nat.le_of_ble_eq_true rfl) dX5_bed_17 ⟨Nat.zero_le _, Nat.zero_le _⟩) hP hD hS hA (fr_M_M a k M0 L0 M_3 L0) (fun H locs hP hD hS => ?_)
    refine lv_istore_n (lv' := [(3, .int r3), (0, .ref (a 0)), (1, .int p0), (2, .int p1)]) hx hb dX5_bed_20 rfl hl (by decide) rfl (fun ls hl => ?_)
    refine lv_iload_n hx hb dX5_bed_21 rfl (lv_at hl 0 rfl) ?_
    refine lv_if_ge (tgt := 27) hx hb dX5_bed_22 (by decide) (fun c4 => ?_) (fun c4 => ?_)
    · have h := it_t c4 h
      refine lv_aload_n hx hb dX5_bed_27 rfl (lv_at hl 1 rfl) ?_
      refine lv_aload_n hx hb dX5_bed_28 rfl (lv_at hl 1 rfl) ?_
      refine va_get (D := D) (ci := 5) (v := .ref (a 3)) (C := RX5) (T := TX5) (N := 20) hx hb hts hin5 hown hK hP 0 rfl rfl 5 (by decide) (hts (.fieldLink RX5 16 "BallastLineModel" "beds" "[I") (List.mem_of_getElem? (i := 1) rfl)) (fun _ h9 => h9) rfl dX5_bed_29 ?_
      refine lv_iload_n hx hb dX5_bed_32 rfl (lv_at hl 2 rfl) ?_
      obtain ⟨g5, h⟩ := gd_s h
      refine va_iald hx hb hK hP 3 2 rfl rfl (inb_in g5) dX5_bed_33 ?_
      refine lv_i2l (v := (Int32.toInt64 (M_3 5 (Int32.toNatClampNeg p0)))) hx hb dX5_bed_34 rfl ?_
      refine va_put (D := D) (ci := 5) (v := .long (Int32.toInt64 (M_3 5 (Int32.toNatClampNeg p0)))) (ty := .long) (C := RX5) (T := TX5) (N := 20) hx hb hts hin5 tyX5 tyX5_ok nmX5 hown hK hP hD hS 0 rfl rfl 2 (by decide) (hts (.fieldLink RX5 64 "BallastLineModel" "asked" "J") (List.mem_of_getElem? (i := 2) rfl)) (fun _ h9 => h9) rfl (by decide +kernel) rfl rfl (Nat.le_of_ble_eq_true rfl) dX5_bed_35 (fun H locs hP hD hS => ?_)
      obtain ⟨L_6, eL_6⟩ : ∃ y : Int64, y = (Int32.toInt64 (M_3 5 (Int32.toNatClampNeg p0))) := ⟨_, rfl⟩
      have h := ltt_s eL_6 h
      have hP : va_P D vwCl (xM a k M_3 L_6) H := by rw [eL_6]; exact hP
      have hD : va_D A (xM a k M_3 L_6) := by rw [eL_6]; exact hD
      refine lv_aload_n hx hb dX5_bed_38 rfl (lv_at hl 1 rfl) ?_
      refine va_get (D := D) (ci := 5) (v := .ref (a 3)) (C := RX5) (T := TX5) (N := 20) hx hb hts hin5 hown hK hP 0 rfl rfl 5 (by decide) (hts (.fieldLink RX5 16 "BallastLineModel" "beds" "[I") (List.mem_of_getElem? (i := 1) rfl)) (fun _ h9 => h9) rfl dX5_bed_39 ?_
      refine lv_iload_n hx hb dX5_bed_42 rfl (lv_at hl 2 rfl) ?_
      refine lv_iload_n hx hb dX5_bed_43 rfl (lv_at hl 3 rfl) ?_
      obtain ⟨g7, h⟩ := gd_s h
      refine va_iast hx hb hK hP hD hS 3 2 rfl rfl (inb_in g7) dX5_bed_44 (fun H locs hP hD hS => ?_)
      obtain ⟨M_8, eM_8⟩ : ∃ y : Nat → Nat → Int32, y = st M_3 5 (Int32.toNatClampNeg p0) p1 := ⟨_, rfl⟩
      have h := ltt_s eM_8 h
      have hP : va_P D vwCl (xM a k M_8 L_6) H := by rw [eM_8]; exact hP
      have hD : va_D A (xM a k M_8 L_6) := by rw [eM_8]; exact hD
      refine lv_iconst (v := (1 : Int32)) hx hb dX5_bed_45 (by decide) ?_
      have h := Option.some.inj h
      obtain ⟨hz0, h⟩ := Prod.mk.inj h
      obtain ⟨hz1, h⟩ := Prod.mk.inj h
      have hP : va_P D vwCl (xM a k Mz Lz) H := by rw [← hz1, ← h]; exact hP
      have hD : va_D A (xM a k Mz Lz) := by rw [← hz1, ← h]; exact hD
      subst hQ
      subst hAe
      exact r_i hx hb hr hlocks hz0 hP hD hS dX5_bed_46
    · have h := it_f c4 h
      refine lv_iload_n hx hb dX5_bed_25 rfl (lv_at hl 0 rfl) ?_
      have h := Option.some.inj h
      obtain ⟨hz0, h⟩ := Prod.mk.inj h
      obtain ⟨hz1, h⟩ := Prod.mk.inj h
      have hP : va_P D vwCl (xM a k Mz Lz) H := by rw [← hz1, ← h]; exact hP
      have hD : va_D A (xM a k Mz Lz) := by rw [← hz1, ← h]; exact hD
      subst hQ
      subst hAe
      exact r_i hx hb hr hlocks hz0 hP hD hS dX5_bed_26
  · have h := it_t c2 h
    refine lv_iconst (v := (-1 : Int32)) hx hb dX5_bed_13 (by decide) ?_
    have h := Option.some.inj h
    obtain ⟨hz0, h⟩ := Prod.mk.inj h
    obtain ⟨hz1, h⟩ := Prod.mk.inj h
    have hP : va_P D vwCl (xM a k Mz Lz) H := by rw [← hz1, ← h]; exact hP
    have hD : va_D A (xM a k Mz Lz) := by rw [← hz1, ← h]; exact hD
    subst hQ
    subst hAe
    exact r_i hx hb hr hlocks hz0 hP hD hS dX5_bed_14
def f_X5_stones (M0 : Nat → Nat → Int32) (p0 : Int32) (p1 : Int32) : Option (Int32 × (Nat → Nat → Int32)) := b1 (f_X5_in p1 (1 : Int32) (9 : Int32)) (fun r1 => if r1 = (0 : Int32) then (some ((-1 : Int32), M0)) else (b2 (f_X5_looked M0 p0) (fun r3 (M_3 : Nat → Nat → Int32) => if (0 : Int32) ≤ r3 then (gd (inb p0 40) (ltt ((M_3 6 (Int32.toNatClampNeg p0))) (fun v6 => gd (inb p0 40) (ltt (st M_3 6 (Int32.toNatClampNeg p0) p1) (fun (M_8 : Nat → Nat → Int32) => some (v6, M_8)))))) else (some (r3, M_3)))))
abbrev rm_X5_stones : Room := { frames := 3, cells := 0, slots := 0, locals := 64 }
set_option maxHeartbeats 4000000 in
set_option maxRecDepth 100000 in
theorem c_X5_stones (l : Launch) (D : va_G) (a : Nat → Nat) (k : Nat → ClassId) (sz : Nat) (M0 : Nat → Nat → Int32) (L0 : Int64) (p0 : Int32) (p1 : Int32) (r : Int32) (Mz : (Nat → Nat → Int32)) (h : f_X5_stones M0 p0 p1 = some (r, Mz)) : Met l yX5_stones wsX5_stones rm_X5_stones (mPc D [.ref (a 0), .int p0, .int p1] (xM a k M0 L0) (tM k) sz) (mQi D (xM a k M0 L0) (xM a k Mz L0) sz r) 0 0 (va_A (xM a k M0 L0) sz) := by
  refine mk_met (cc := cX5_stones) (maxL := 5) (ret := (some .int)) (by decide) rfl (Nat.le_of_ble_eq_true rfl) ?_
  intro p e s m below meth c hx hb hr hml hts hown hmn hlocks hnw hsz hK hP hD hS hA ls hl
  obtain ⟨A, hAe⟩ : ∃ A, A = va_A (xM a k M0 L0) sz := ⟨_, rfl⟩
  rw [← hAe] at hD hS hA
  generalize hargs : List.toArray ([.ref (a 0), .int p0, .int p1] : List Value) = args at hts ⊢
  generalize hQ : MQ below (mQi D (xM a k M0 L0) (xM a k Mz L0) sz r) args s 0 0 (va_A (xM a k M0 L0) sz) = Q
  have hl : lv_has ls 5 [(0, .ref (a 0)), (1, .int p0), (2, .int p1)] := hl
  have hin5 : ∀ w ∈ wsX50, w ∈ wsX5_stones := fun w h => List.mem_cons_of_mem _ (List.mem_append_right _ h)
  rw [f_X5_stones] at h
  obtain ⟨H, hH⟩ : ∃ H, H = s.heap := ⟨_, rfl⟩
  obtain ⟨locs, hlc⟩ : ∃ L : List Loc, L = [] := ⟨_, rfl⟩
  rw [← hH] at hP
  have hS : va_S A s.heap H locs := by rw [hH, hlc]; exact hS
  suffices hW9 : W p l e rm_X5_stones s m args below meth c H locs 0 0 Q (F0 m 0 ls []) by rw [hH, hlc] at hW9; exact hW9
  refine lv_iload_n hx hb dX5_stones_0 rfl (lv_at hl 2 rfl) ?_
  refine lv_iconst (v := (1 : Int32)) hx hb dX5_stones_1 (by decide) ?_
  refine lv_bipush (v := (9 : Int32)) hx hb dX5_stones_2 (by decide) ?_
  obtain ⟨r1, q1, h⟩ := b1_s h
  refine go_i (run_S (As := [.int p1, .int (1 : Int32), .int (9 : Int32)]) (rest := []) ⟨hx, hb, hml, hown, hts⟩ hnw hK hP hD (fr_M_E a k M0 L0) (ks_M_E k) (c_X5_in l D H.size p1 (1 : Int32) (9 : Int32) r1 q1) (cwS 3 hts gX5_stones_X5_in rfl rfl rfl (by decide +kernel) ⟨Nat.le_of_ble_eq_true rfl, Nat.le_of_ble_eq_true rfl⟩) rfl hl.1 rfl (Nat.le_of_ble_eq_true rfl) dX5_stones_4 ⟨Nat.zero_le _, Nat.zero_le _⟩) hP hD hS hA (fr_M_E a k M0 L0) (fun H locs hP hD hS => ?_)
  refine lv_if_ne (tgt := 12) hx hb dX5_stones_7 (by decide) (fun c2 => ?_) (fun c2 => ?_)
  · have h := it_f c2 h
    refine lv_aload_n hx hb dX5_stones_12 rfl (lv_at hl 0 rfl) ?_
    refine lv_iload_n hx hb dX5_stones_13 rfl (lv_at hl 1 rfl) ?_
    obtain ⟨r3, M_3, q3, h⟩ := b2_s h
    refine go_i (run_V (As := [.int p0]) (rest := []) ⟨hx, hb, hml, hown, hts⟩ hnw hK hP hD (fr_M_M a k M0 L0 M_3 L0) (ks_M_M k) (c_X5_looked l D a k H.size M0 L0 p0 r3 M_3 q3) (cwV 1 hts gX5_stones_X5_looked rfl rfl rfl (by decide +kernel) ⟨Nat.le_of_ble_eq_true rfl, Nat.le_of_ble_eq_true rfl⟩) (rcv_M a k M0 L0) rfl hl.1 rfl (Nat.le_of_ble_eq_true rfl) dX5_stones_14 ⟨Nat.zero_le _, Nat.zero_le _⟩) hP hD hS hA (fr_M_M a k M0 L0 M_3 L0) (fun H locs hP hD hS => ?_)
    refine lv_istore_n (lv' := [(3, .int r3), (0, .ref (a 0)), (1, .int p0), (2, .int p1)]) hx hb dX5_stones_17 rfl hl (by decide) rfl (fun ls hl => ?_)
    refine lv_iload_n hx hb dX5_stones_18 rfl (lv_at hl 0 rfl) ?_
    refine lv_if_ge (tgt := 24) hx hb dX5_stones_19 (by decide) (fun c4 => ?_) (fun c4 => ?_)
    · have h := it_t c4 h
      refine lv_aload_n hx hb dX5_stones_24 rfl (lv_at hl 1 rfl) ?_
      refine va_get (D := D) (ci := 5) (v := .ref (a 4)) (C := RX5) (T := TX5) (N := 20) hx hb hts hin5 hown hK hP 0 rfl rfl 6 (by decide) (hts (.fieldLink RX5 19 "BallastLineModel" "stones" "[I") (List.mem_of_getElem? (i := 1) rfl)) (fun _ h9 => h9) rfl dX5_stones_25 ?_
      refine lv_iload_n hx hb dX5_stones_28 rfl (lv_at hl 2 rfl) ?_
      obtain ⟨g5, h⟩ := gd_s h
      refine va_iald hx hb hK hP 4 3 rfl rfl (inb_in g5) dX5_stones_29 ?_
      refine lv_topi (fun v6 ev6 => ?_)
      have h := ltt_s ev6 h
      refine lv_istore (lv' := [(4, .int v6), (3, .int r3), (0, .ref (a 0)), (1, .int p0), (2, .int p1)]) hx hb dX5_stones_30 hl (by decide) rfl (fun ls hl => ?_)
      refine lv_aload_n hx hb dX5_stones_32 rfl (lv_at hl 2 rfl) ?_
      refine va_get (D := D) (ci := 5) (v := .ref (a 4)) (C := RX5) (T := TX5) (N := 20) hx hb hts hin5 hown hK hP 0 rfl rfl 6 (by decide) (hts (.fieldLink RX5 19 "BallastLineModel" "stones" "[I") (List.mem_of_getElem? (i := 1) rfl)) (fun _ h9 => h9) rfl dX5_stones_33 ?_
      refine lv_iload_n hx hb dX5_stones_36 rfl (lv_at hl 3 rfl) ?_
      refine lv_iload_n hx hb dX5_stones_37 rfl (lv_at hl 4 rfl) ?_
      obtain ⟨g7, h⟩ := gd_s h
      refine va_iast hx hb hK hP hD hS 4 3 rfl rfl (inb_in g7) dX5_stones_38 (fun H locs hP hD hS => ?_)
      obtain ⟨M_8, eM_8⟩ : ∃ y : Nat → Nat → Int32, y = st M_3 6 (Int32.toNatClampNeg p0) p1 := ⟨_, rfl⟩
      have h := ltt_s eM_8 h
      have hP : va_P D vwCl (xM a k M_8 L0) H := by rw [eM_8]; exact hP
      have hD : va_D A (xM a k M_8 L0) := by rw [eM_8]; exact hD
      refine lv_iload hx hb dX5_stones_39 (lv_at hl 0 rfl) ?_
      have h := Option.some.inj h
      obtain ⟨hz0, h⟩ := Prod.mk.inj h
      have hP : va_P D vwCl (xM a k Mz L0) H := by rw [← h]; exact hP
      have hD : va_D A (xM a k Mz L0) := by rw [← h]; exact hD
      subst hQ
      subst hAe
      exact r_i hx hb hr hlocks hz0 hP hD hS dX5_stones_41
    · have h := it_f c4 h
      refine lv_iload_n hx hb dX5_stones_22 rfl (lv_at hl 0 rfl) ?_
      have h := Option.some.inj h
      obtain ⟨hz0, h⟩ := Prod.mk.inj h
      have hP : va_P D vwCl (xM a k Mz L0) H := by rw [← h]; exact hP
      have hD : va_D A (xM a k Mz L0) := by rw [← h]; exact hD
      subst hQ
      subst hAe
      exact r_i hx hb hr hlocks hz0 hP hD hS dX5_stones_23
  · have h := it_t c2 h
    refine lv_iconst (v := (-1 : Int32)) hx hb dX5_stones_10 (by decide) ?_
    have h := Option.some.inj h
    obtain ⟨hz0, h⟩ := Prod.mk.inj h
    have hP : va_P D vwCl (xM a k Mz L0) H := by rw [← h]; exact hP
    have hD : va_D A (xM a k Mz L0) := by rw [← h]; exact hD
    subst hQ
    subst hAe
    exact r_i hx hb hr hlocks hz0 hP hD hS dX5_stones_11
def f_X5_tells (M0 : Nat → Nat → Int32) (p0 : Int32) (p1 : Int32) : Option (Int32) := if p1 = (0 : Int32) then (gd (inb p0 40) (some (M0 4 (Int32.toNatClampNeg p0)))) else (if p1 = (1 : Int32) then (gd (inb p0 40) (some (M0 6 (Int32.toNatClampNeg p0)))) else (if p1 = (2 : Int32) then (gd (inb p0 40) (some (M0 7 (Int32.toNatClampNeg p0)))) else (gd (inb p0 40) (if (M0 9 (Int32.toNatClampNeg p0)) = (0 : Int32) then (some (0 : Int32)) else (some (1 : Int32))))))
abbrev rm_X5_tells : Room := { frames := 0, cells := 0, slots := 0, locals := 0 }
set_option maxHeartbeats 4000000 in
set_option maxRecDepth 100000 in
theorem c_X5_tells (l : Launch) (D : va_G) (a : Nat → Nat) (k : Nat → ClassId) (sz : Nat) (M0 : Nat → Nat → Int32) (L0 : Int64) (p0 : Int32) (p1 : Int32) (r : Int32) (h : f_X5_tells M0 p0 p1 = some r) : Met l yX5_tells wsX5_tells rm_X5_tells (mPc D [.ref (a 0), .int p0, .int p1] (xM a k M0 L0) (tM k) sz) (mQi D (xM a k M0 L0) (xM a k M0 L0) sz r) 0 0 (va_A (xM a k M0 L0) sz) := by
  refine mk_met (cc := cX5_tells) (maxL := 3) (ret := (some .int)) (by decide) rfl (Nat.le_of_ble_eq_true rfl) ?_
  intro p e s m below meth c hx hb hr hml hts hown hmn hlocks hnw hsz hK hP hD hS hA ls hl
  obtain ⟨A, hAe⟩ : ∃ A, A = va_A (xM a k M0 L0) sz := ⟨_, rfl⟩
  rw [← hAe] at hD hS hA
  generalize hargs : List.toArray ([.ref (a 0), .int p0, .int p1] : List Value) = args at hts ⊢
  generalize hQ : MQ below (mQi D (xM a k M0 L0) (xM a k M0 L0) sz r) args s 0 0 (va_A (xM a k M0 L0) sz) = Q
  have hl : lv_has ls 3 [(0, .ref (a 0)), (1, .int p0), (2, .int p1)] := hl
  have hin5 : ∀ w ∈ wsX50, w ∈ wsX5_tells := fun w h => List.mem_cons_of_mem _ (List.mem_append_right _ h)
  rw [f_X5_tells] at h
  obtain ⟨H, hH⟩ : ∃ H, H = s.heap := ⟨_, rfl⟩
  obtain ⟨locs, hlc⟩ : ∃ L : List Loc, L = [] := ⟨_, rfl⟩
  rw [← hH] at hP
  have hS : va_S A s.heap H locs := by rw [hH, hlc]; exact hS
  suffices hW9 : W p l e rm_X5_tells s m args below meth c H locs 0 0 Q (F0 m 0 ls []) by rw [hH, hlc] at hW9; exact hW9
  refine lv_iload_n hx hb dX5_tells_0 rfl (lv_at hl 2 rfl) ?_
  refine lv_if_ne (tgt := 13) hx hb dX5_tells_1 (by decide) (fun c1 => ?_) (fun c1 => ?_)
  · have h := it_f c1 h
    refine lv_iload_n hx hb dX5_tells_13 rfl (lv_at hl 2 rfl) ?_
    refine lv_iconst (v := (1 : Int32)) hx hb dX5_tells_14 (by decide) ?_
    refine lv_icmp_ne (tgt := 27) hx hb dX5_tells_15 (by decide) (fun c2 => ?_) (fun c2 => ?_)
    · have h := it_f c2 h
      refine lv_iload_n hx hb dX5_tells_27 rfl (lv_at hl 2 rfl) ?_
      refine lv_iconst (v := (2 : Int32)) hx hb dX5_tells_28 (by decide) ?_
      refine lv_icmp_ne (tgt := 41) hx hb dX5_tells_29 (by decide) (fun c3 => ?_) (fun c3 => ?_)
      · have h := it_f c3 h
        refine lv_aload_n hx hb dX5_tells_41 rfl (lv_at hl 0 rfl) ?_
        refine va_get (D := D) (ci := 5) (v := .ref (a 7)) (C := RX5) (T := TX5) (N := 20) hx hb hts hin5 hown hK hP 0 rfl rfl 9 (by decide) (hts (.fieldLink RX5 28 "BallastLineModel" "isLost" "[Z") (List.mem_of_getElem? (i := 4) rfl)) (fun _ h9 => h9) rfl dX5_tells_42 ?_
        refine lv_iload_n hx hb dX5_tells_45 rfl (lv_at hl 1 rfl) ?_
        obtain ⟨g4, h⟩ := gd_s h
        refine va_zald hx hb hK hP 7 6 rfl rfl (inb_in g4) dX5_tells_46 ?_
        refine lv_if_eq (tgt := 54) hx hb dX5_tells_47 (by decide) (fun c5 => ?_) (fun c5 => ?_)
        · have h := it_t c5 h
          refine lv_iconst (v := (0 : Int32)) hx hb dX5_tells_54 (by decide) ?_
          have h := Option.some.inj h
          subst hQ
          subst hAe
          exact r_i hx hb hr hlocks h hP hD hS dX5_tells_55
        · have h := it_f c5 h
          refine lv_iconst (v := (1 : Int32)) hx hb dX5_tells_50 (by decide) ?_
          refine lv_goto (tgt := 55) hx hb dX5_tells_51 (by decide) ?_
          have h := Option.some.inj h
          subst hQ
          subst hAe
          exact r_i hx hb hr hlocks h hP hD hS dX5_tells_55
      · have h := it_t c3 h
        refine lv_aload_n hx hb dX5_tells_32 rfl (lv_at hl 0 rfl) ?_
        refine va_get (D := D) (ci := 5) (v := .ref (a 5)) (C := RX5) (T := TX5) (N := 20) hx hb hts hin5 hown hK hP 0 rfl rfl 7 (by decide) (hts (.fieldLink RX5 22 "BallastLineModel" "hundredths" "[I") (List.mem_of_getElem? (i := 3) rfl)) (fun _ h9 => h9) rfl dX5_tells_33 ?_
        refine lv_iload_n hx hb dX5_tells_36 rfl (lv_at hl 1 rfl) ?_
        obtain ⟨g6, h⟩ := gd_s h
        refine va_iald hx hb hK hP 5 4 rfl rfl (inb_in g6) dX5_tells_37 ?_
        refine lv_goto (tgt := 55) hx hb dX5_tells_38 (by decide) ?_
        have h := Option.some.inj h
        subst hQ
        subst hAe
        exact r_i hx hb hr hlocks h hP hD hS dX5_tells_55
    · have h := it_t c2 h
      refine lv_aload_n hx hb dX5_tells_18 rfl (lv_at hl 0 rfl) ?_
      refine va_get (D := D) (ci := 5) (v := .ref (a 4)) (C := RX5) (T := TX5) (N := 20) hx hb hts hin5 hown hK hP 0 rfl rfl 6 (by decide) (hts (.fieldLink RX5 19 "BallastLineModel" "stones" "[I") (List.mem_of_getElem? (i := 2) rfl)) (fun _ h9 => h9) rfl dX5_tells_19 ?_
      refine lv_iload_n hx hb dX5_tells_22 rfl (lv_at hl 1 rfl) ?_
      obtain ⟨g7, h⟩ := gd_s h
      refine va_iald hx hb hK hP 4 3 rfl rfl (inb_in g7) dX5_tells_23 ?_
      refine lv_goto (tgt := 55) hx hb dX5_tells_24 (by decide) ?_
      have h := Option.some.inj h
      subst hQ
      subst hAe
      exact r_i hx hb hr hlocks h hP hD hS dX5_tells_55
  · have h := it_t c1 h
    refine lv_aload_n hx hb dX5_tells_4 rfl (lv_at hl 0 rfl) ?_
    refine va_get (D := D) (ci := 5) (v := .ref (a 2)) (C := RX5) (T := TX5) (N := 20) hx hb hts hin5 hown hK hP 0 rfl rfl 4 (by decide) (hts (.fieldLink RX5 13 "BallastLineModel" "kinds" "[I") (List.mem_of_getElem? (i := 1) rfl)) (fun _ h9 => h9) rfl dX5_tells_5 ?_
    refine lv_iload_n hx hb dX5_tells_8 rfl (lv_at hl 1 rfl) ?_
    obtain ⟨g8, h⟩ := gd_s h
    refine va_iald hx hb hK hP 2 1 rfl rfl (inb_in g8) dX5_tells_9 ?_
    refine lv_goto (tgt := 55) hx hb dX5_tells_10 (by decide) ?_
    have h := Option.some.inj h
    subst hQ
    subst hAe
    exact r_i hx hb hr hlocks h hP hD hS dX5_tells_55
def f_X5_told (M0 : Nat → Nat → Int32) (p0 : Int32) (p1 : Int32) : Option (Int32) := b1 (f_X5_isSleeper M0 p0) (fun r1 => if r1 = (0 : Int32) then (some (-1 : Int32)) else (b1 (f_X5_in p1 (0 : Int32) (3 : Int32)) (fun r3 => if r3 = (0 : Int32) then (some (-1 : Int32)) else (b1 (f_X5_tells M0 p0 p1) (fun r5 => some r5)))))
abbrev rm_X5_told : Room := { frames := 2, cells := 0, slots := 0, locals := 43 }
set_option maxHeartbeats 4000000 in
set_option maxRecDepth 100000 in
theorem c_X5_told (l : Launch) (D : va_G) (a : Nat → Nat) (k : Nat → ClassId) (sz : Nat) (M0 : Nat → Nat → Int32) (L0 : Int64) (p0 : Int32) (p1 : Int32) (r : Int32) (h : f_X5_told M0 p0 p1 = some r) : Met l yX5_told wsX5_told rm_X5_told (mPc D [.ref (a 0), .int p0, .int p1] (xM a k M0 L0) (tM k) sz) (mQi D (xM a k M0 L0) (xM a k M0 L0) sz r) 0 0 (va_A (xM a k M0 L0) sz) := by
  refine mk_met (cc := cX5_told) (maxL := 3) (ret := (some .int)) (by decide) rfl (Nat.le_of_ble_eq_true rfl) ?_
  intro p e s m below meth c hx hb hr hml hts hown hmn hlocks hnw hsz hK hP hD hS hA ls hl
  obtain ⟨A, hAe⟩ : ∃ A, A = va_A (xM a k M0 L0) sz := ⟨_, rfl⟩
  rw [← hAe] at hD hS hA
  generalize hargs : List.toArray ([.ref (a 0), .int p0, .int p1] : List Value) = args at hts ⊢
  generalize hQ : MQ below (mQi D (xM a k M0 L0) (xM a k M0 L0) sz r) args s 0 0 (va_A (xM a k M0 L0) sz) = Q
  have hl : lv_has ls 3 [(0, .ref (a 0)), (1, .int p0), (2, .int p1)] := hl
  rw [f_X5_told] at h
  obtain ⟨H, hH⟩ : ∃ H, H = s.heap := ⟨_, rfl⟩
  obtain ⟨locs, hlc⟩ : ∃ L : List Loc, L = [] := ⟨_, rfl⟩
  rw [← hH] at hP
  have hS : va_S A s.heap H locs := by rw [hH, hlc]; exact hS
  suffices hW9 : W p l e rm_X5_told s m args below meth c H locs 0 0 Q (F0 m 0 ls []) by rw [hH, hlc] at hW9; exact hW9
  refine lv_aload_n hx hb dX5_told_0 rfl (lv_at hl 0 rfl) ?_
  refine lv_iload_n hx hb dX5_told_1 rfl (lv_at hl 1 rfl) ?_
  obtain ⟨r1, q1, h⟩ := b1_s h
  refine go_i (run_V (As := [.int p0]) (rest := []) ⟨hx, hb, hml, hown, hts⟩ hnw hK hP hD (fr_M_M a k M0 L0 M0 L0) (ks_M_M k) (c_X5_isSleeper l D a k H.size M0 L0 p0 r1 q1) (cwV 1 hts gX5_told_X5_isSleeper rfl rfl rfl (by decide +kernel) ⟨Nat.le_of_ble_eq_true rfl, Nat.le_of_ble_eq_true rfl⟩) (rcv_M a k M0 L0) rfl hl.1 rfl (Nat.le_of_ble_eq_true rfl) dX5_told_2 ⟨Nat.zero_le _, Nat.zero_le _⟩) hP hD hS hA (fr_M_M a k M0 L0 M0 L0) (fun H locs hP hD hS => ?_)
  refine lv_if_eq (tgt := 26) hx hb dX5_told_5 (by decide) (fun c2 => ?_) (fun c2 => ?_)
  · have h := it_t c2 h
    refine lv_iconst (v := (-1 : Int32)) hx hb dX5_told_26 (by decide) ?_
    have h := Option.some.inj h
    subst hQ
    subst hAe
    exact r_i hx hb hr hlocks h hP hD hS dX5_told_27
  · have h := it_f c2 h
    refine lv_iload_n hx hb dX5_told_8 rfl (lv_at hl 2 rfl) ?_
    refine lv_iconst (v := (0 : Int32)) hx hb dX5_told_9 (by decide) ?_
    refine lv_iconst (v := (3 : Int32)) hx hb dX5_told_10 (by decide) ?_
    obtain ⟨r3, q3, h⟩ := b1_s h
    refine go_i (run_S (As := [.int p1, .int (0 : Int32), .int (3 : Int32)]) (rest := []) ⟨hx, hb, hml, hown, hts⟩ hnw hK hP hD (fr_M_E a k M0 L0) (ks_M_E k) (c_X5_in l D H.size p1 (0 : Int32) (3 : Int32) r3 q3) (cwS 3 hts gX5_told_X5_in rfl rfl rfl (by decide +kernel) ⟨Nat.le_of_ble_eq_true rfl, Nat.le_of_ble_eq_true rfl⟩) rfl hl.1 rfl (Nat.le_of_ble_eq_true rfl) dX5_told_11 ⟨Nat.zero_le _, Nat.zero_le _⟩) hP hD hS hA (fr_M_E a k M0 L0) (fun H locs hP hD hS => ?_)
    refine lv_if_eq (tgt := 26) hx hb dX5_told_14 (by decide) (fun c4 => ?_) (fun c4 => ?_)
    · have h := it_t c4 h
      refine lv_iconst (v := (-1 : Int32)) hx hb dX5_told_26 (by decide) ?_
      have h := Option.some.inj h
      subst hQ
      subst hAe
      exact r_i hx hb hr hlocks h hP hD hS dX5_told_27
    · have h := it_f c4 h
      refine lv_aload_n hx hb dX5_told_17 rfl (lv_at hl 0 rfl) ?_
      refine lv_iload_n hx hb dX5_told_18 rfl (lv_at hl 1 rfl) ?_
      refine lv_iload_n hx hb dX5_told_19 rfl (lv_at hl 2 rfl) ?_
      obtain ⟨r5, q5, h⟩ := b1_s h
      refine go_i (run_V (As := [.int p0, .int p1]) (rest := []) ⟨hx, hb, hml, hown, hts⟩ hnw hK hP hD (fr_M_M a k M0 L0 M0 L0) (ks_M_M k) (c_X5_tells l D a k H.size M0 L0 p0 p1 r5 q5) (cwV 2 hts gX5_told_X5_tells rfl rfl rfl (by decide +kernel) ⟨Nat.le_of_ble_eq_true rfl, Nat.le_of_ble_eq_true rfl⟩) (rcv_M a k M0 L0) rfl hl.1 rfl (Nat.le_of_ble_eq_true rfl) dX5_told_20 ⟨Nat.zero_le _, Nat.zero_le _⟩) hP hD hS hA (fr_M_M a k M0 L0 M0 L0) (fun H locs hP hD hS => ?_)
      refine lv_goto (tgt := 27) hx hb dX5_told_23 (by decide) ?_
      have h := Option.some.inj h
      subst hQ
      subst hAe
      exact r_i hx hb hr hlocks h hP hD hS dX5_told_27
def f_X5_mark_J48  (p0 : Int32) (p1 : Int32)  (M : Nat → Nat → Int32) : Option (Int32 × (Nat → Nat → Int32)) := b2 (f_X5_meets M (3 : Int32)) (fun r1 (M_1 : Nat → Nat → Int32) => some (r1, M_1))
def f_X5_mark_J54  (p0 : Int32) (p1 : Int32)  (M : Nat → Nat → Int32) : Option (Int32 × (Nat → Nat → Int32)) := if p1 = (1 : Int32) then (gd (inb p0 40) (some ((M 7 (Int32.toNatClampNeg p0)), M))) else (if p1 = (2 : Int32) then (gd (inb p0 40) (some ((M 6 (Int32.toNatClampNeg p0)), M))) else (gd (inb p0 40) (some ((M 8 (Int32.toNatClampNeg p0)), M))))
def f_X5_mark (M0 : Nat → Nat → Int32) (p0 : Int32) (p1 : Int32) : Option (Int32 × (Nat → Nat → Int32)) := b1 (f_X5_in p1 (1 : Int32) (3 : Int32)) (fun r7 => if r7 = (0 : Int32) then (some ((-1 : Int32), M0)) else (b2 (f_X5_looked M0 p0) (fun r9 (M_9 : Nat → Nat → Int32) => if (0 : Int32) ≤ r9 then (gd (inb p0 40) (if p1 = (M_9 4 (Int32.toNatClampNeg p0)) then (f_X5_mark_J54 p0 p1 M_9) else (if p1 = (1 : Int32) then (gd (inb p0 40) (if (M_9 4 (Int32.toNatClampNeg p0)) = (3 : Int32) then (f_X5_mark_J54 p0 p1 M_9) else (f_X5_mark_J48 p0 p1 M_9))) else (f_X5_mark_J48 p0 p1 M_9)))) else (some (r9, M_9)))))
abbrev rm_X5_mark : Room := { frames := 3, cells := 0, slots := 0, locals := 64 }
set_option maxHeartbeats 4000000 in
set_option maxRecDepth 100000 in
theorem c_X5_mark (l : Launch) (D : va_G) (a : Nat → Nat) (k : Nat → ClassId) (sz : Nat) (M0 : Nat → Nat → Int32) (L0 : Int64) (p0 : Int32) (p1 : Int32) (r : Int32) (Mz : (Nat → Nat → Int32)) (h : f_X5_mark M0 p0 p1 = some (r, Mz)) : Met l yX5_mark wsX5_mark rm_X5_mark (mPc D [.ref (a 0), .int p0, .int p1] (xM a k M0 L0) (tM k) sz) (mQi D (xM a k M0 L0) (xM a k Mz L0) sz r) 0 0 (va_A (xM a k M0 L0) sz) := by
  refine mk_met (cc := cX5_mark) (maxL := 4) (ret := (some .int)) (by decide) rfl (Nat.le_of_ble_eq_true rfl) ?_
  intro p e s m below meth c hx hb hr hml hts hown hmn hlocks hnw hsz hK hP hD hS hA ls hl
  obtain ⟨A, hAe⟩ : ∃ A, A = va_A (xM a k M0 L0) sz := ⟨_, rfl⟩
  rw [← hAe] at hD hS hA
  generalize hargs : List.toArray ([.ref (a 0), .int p0, .int p1] : List Value) = args at hts ⊢
  generalize hQ : MQ below (mQi D (xM a k M0 L0) (xM a k Mz L0) sz r) args s 0 0 (va_A (xM a k M0 L0) sz) = Q
  have hl : lv_has ls 4 [(0, .ref (a 0)), (1, .int p0), (2, .int p1)] := hl
  have hin5 : ∀ w ∈ wsX50, w ∈ wsX5_mark := fun w h => List.mem_cons_of_mem _ (List.mem_append_right _ h)
  have lb48 : ∀ (M : Nat → Nat → Int32), ∀ (H : Heap) (locs : List Loc), va_P D vwCl (xM a k M L0) H → va_D A (xM a k M L0) → va_S A s.heap H locs → ∀ ls : Array Slot, lv_has ls 4 [(0, .ref (a 0))] → f_X5_mark_J48 p0 p1 M = some (r, Mz) → W p l e rm_X5_mark s m args below meth c H locs 0 0 Q (F0 m 48 ls []) := by
    intro  M H locs hP hD hS ls hl h
    rw [f_X5_mark_J48] at h
    refine lv_aload_n hx hb dX5_mark_48 rfl (lv_at hl 0 rfl) ?_
    refine lv_iconst (v := (3 : Int32)) hx hb dX5_mark_49 (by decide) ?_
    obtain ⟨r1, M_1, q1, h⟩ := b2_s h
    refine go_i (run_V (As := [.int (3 : Int32)]) (rest := []) ⟨hx, hb, hml, hown, hts⟩ hnw hK hP hD (fr_M_M a k M L0 M_1 L0) (ks_M_M k) (c_X5_meets l D a k H.size M L0 (3 : Int32) r1 M_1 q1) (cwV 1 hts gX5_mark_X5_meets rfl rfl rfl (by decide +kernel) ⟨Nat.le_of_ble_eq_true rfl, Nat.le_of_ble_eq_true rfl⟩) (rcv_M a k M L0) rfl hl.1 rfl (Nat.le_of_ble_eq_true rfl) dX5_mark_50 ⟨Nat.zero_le _, Nat.zero_le _⟩) hP hD hS hA (fr_M_M a k M L0 M_1 L0) (fun H locs hP hD hS => ?_)
    have h := Option.some.inj h
    obtain ⟨hz0, h⟩ := Prod.mk.inj h
    have hP : va_P D vwCl (xM a k Mz L0) H := by rw [← h]; exact hP
    have hD : va_D A (xM a k Mz L0) := by rw [← h]; exact hD
    subst hQ
    subst hAe
    exact r_i hx hb hr hlocks hz0 hP hD hS dX5_mark_53
  have lb54 : ∀ (M : Nat → Nat → Int32), ∀ (H : Heap) (locs : List Loc), va_P D vwCl (xM a k M L0) H → va_D A (xM a k M L0) → va_S A s.heap H locs → ∀ ls : Array Slot, lv_has ls 4 [(0, .ref (a 0)), (1, .int p0), (2, .int p1)] → f_X5_mark_J54 p0 p1 M = some (r, Mz) → W p l e rm_X5_mark s m args below meth c H locs 0 0 Q (F0 m 54 ls []) := by
    intro  M H locs hP hD hS ls hl h
    rw [f_X5_mark_J54] at h
    refine lv_iload_n hx hb dX5_mark_54 rfl (lv_at hl 2 rfl) ?_
    refine lv_iconst (v := (1 : Int32)) hx hb dX5_mark_55 (by decide) ?_
    refine lv_icmp_ne (tgt := 68) hx hb dX5_mark_56 (by decide) (fun c2 => ?_) (fun c2 => ?_)
    · have h := it_f c2 h
      refine lv_iload_n hx hb dX5_mark_68 rfl (lv_at hl 2 rfl) ?_
      refine lv_iconst (v := (2 : Int32)) hx hb dX5_mark_69 (by decide) ?_
      refine lv_icmp_ne (tgt := 82) hx hb dX5_mark_70 (by decide) (fun c3 => ?_) (fun c3 => ?_)
      · have h := it_f c3 h
        refine lv_aload_n hx hb dX5_mark_82 rfl (lv_at hl 0 rfl) ?_
        refine va_get (D := D) (ci := 5) (v := .ref (a 6)) (C := RX5) (T := TX5) (N := 20) hx hb hts hin5 hown hK hP 0 rfl rfl 8 (by decide) (hts (.fieldLink RX5 25 "BallastLineModel" "jolts" "[I") (List.mem_of_getElem? (i := 4) rfl)) (fun _ h9 => h9) rfl dX5_mark_83 ?_
        refine lv_iload_n hx hb dX5_mark_86 rfl (lv_at hl 1 rfl) ?_
        obtain ⟨g4, h⟩ := gd_s h
        refine va_iald hx hb hK hP 6 5 rfl rfl (inb_in g4) dX5_mark_87 ?_
        have h := Option.some.inj h
        obtain ⟨hz0, h⟩ := Prod.mk.inj h
        have hP : va_P D vwCl (xM a k Mz L0) H := by rw [← h]; exact hP
        have hD : va_D A (xM a k Mz L0) := by rw [← h]; exact hD
        subst hQ
        subst hAe
        exact r_i hx hb hr hlocks hz0 hP hD hS dX5_mark_88
      · have h := it_t c3 h
        refine lv_aload_n hx hb dX5_mark_73 rfl (lv_at hl 0 rfl) ?_
        refine va_get (D := D) (ci := 5) (v := .ref (a 4)) (C := RX5) (T := TX5) (N := 20) hx hb hts hin5 hown hK hP 0 rfl rfl 6 (by decide) (hts (.fieldLink RX5 19 "BallastLineModel" "stones" "[I") (List.mem_of_getElem? (i := 3) rfl)) (fun _ h9 => h9) rfl dX5_mark_74 ?_
        refine lv_iload_n hx hb dX5_mark_77 rfl (lv_at hl 1 rfl) ?_
        obtain ⟨g5, h⟩ := gd_s h
        refine va_iald hx hb hK hP 4 3 rfl rfl (inb_in g5) dX5_mark_78 ?_
        refine lv_goto (tgt := 88) hx hb dX5_mark_79 (by decide) ?_
        have h := Option.some.inj h
        obtain ⟨hz0, h⟩ := Prod.mk.inj h
        have hP : va_P D vwCl (xM a k Mz L0) H := by rw [← h]; exact hP
        have hD : va_D A (xM a k Mz L0) := by rw [← h]; exact hD
        subst hQ
        subst hAe
        exact r_i hx hb hr hlocks hz0 hP hD hS dX5_mark_88
    · have h := it_t c2 h
      refine lv_aload_n hx hb dX5_mark_59 rfl (lv_at hl 0 rfl) ?_
      refine va_get (D := D) (ci := 5) (v := .ref (a 5)) (C := RX5) (T := TX5) (N := 20) hx hb hts hin5 hown hK hP 0 rfl rfl 7 (by decide) (hts (.fieldLink RX5 22 "BallastLineModel" "hundredths" "[I") (List.mem_of_getElem? (i := 2) rfl)) (fun _ h9 => h9) rfl dX5_mark_60 ?_
      refine lv_iload_n hx hb dX5_mark_63 rfl (lv_at hl 1 rfl) ?_
      obtain ⟨g6, h⟩ := gd_s h
      refine va_iald hx hb hK hP 5 4 rfl rfl (inb_in g6) dX5_mark_64 ?_
      refine lv_goto (tgt := 88) hx hb dX5_mark_65 (by decide) ?_
      have h := Option.some.inj h
      obtain ⟨hz0, h⟩ := Prod.mk.inj h
      have hP : va_P D vwCl (xM a k Mz L0) H := by rw [← h]; exact hP
      have hD : va_D A (xM a k Mz L0) := by rw [← h]; exact hD
      subst hQ
      subst hAe
      exact r_i hx hb hr hlocks hz0 hP hD hS dX5_mark_88
  rw [f_X5_mark] at h
  obtain ⟨H, hH⟩ : ∃ H, H = s.heap := ⟨_, rfl⟩
  obtain ⟨locs, hlc⟩ : ∃ L : List Loc, L = [] := ⟨_, rfl⟩
  rw [← hH] at hP
  have hS : va_S A s.heap H locs := by rw [hH, hlc]; exact hS
  suffices hW9 : W p l e rm_X5_mark s m args below meth c H locs 0 0 Q (F0 m 0 ls []) by rw [hH, hlc] at hW9; exact hW9
  refine lv_iload_n hx hb dX5_mark_0 rfl (lv_at hl 2 rfl) ?_
  refine lv_iconst (v := (1 : Int32)) hx hb dX5_mark_1 (by decide) ?_
  refine lv_iconst (v := (3 : Int32)) hx hb dX5_mark_2 (by decide) ?_
  obtain ⟨r7, q7, h⟩ := b1_s h
  refine go_i (run_S (As := [.int p1, .int (1 : Int32), .int (3 : Int32)]) (rest := []) ⟨hx, hb, hml, hown, hts⟩ hnw hK hP hD (fr_M_E a k M0 L0) (ks_M_E k) (c_X5_in l D H.size p1 (1 : Int32) (3 : Int32) r7 q7) (cwS 3 hts gX5_mark_X5_in rfl rfl rfl (by decide +kernel) ⟨Nat.le_of_ble_eq_true rfl, Nat.le_of_ble_eq_true rfl⟩) rfl hl.1 rfl (Nat.le_of_ble_eq_true rfl) dX5_mark_3 ⟨Nat.zero_le _, Nat.zero_le _⟩) hP hD hS hA (fr_M_E a k M0 L0) (fun H locs hP hD hS => ?_)
  refine lv_if_ne (tgt := 11) hx hb dX5_mark_6 (by decide) (fun c8 => ?_) (fun c8 => ?_)
  · have h := it_f c8 h
    refine lv_aload_n hx hb dX5_mark_11 rfl (lv_at hl 0 rfl) ?_
    refine lv_iload_n hx hb dX5_mark_12 rfl (lv_at hl 1 rfl) ?_
    obtain ⟨r9, M_9, q9, h⟩ := b2_s h
    refine go_i (run_V (As := [.int p0]) (rest := []) ⟨hx, hb, hml, hown, hts⟩ hnw hK hP hD (fr_M_M a k M0 L0 M_9 L0) (ks_M_M k) (c_X5_looked l D a k H.size M0 L0 p0 r9 M_9 q9) (cwV 1 hts gX5_mark_X5_looked rfl rfl rfl (by decide +kernel) ⟨Nat.le_of_ble_eq_true rfl, Nat.le_of_ble_eq_true rfl⟩) (rcv_M a k M0 L0) rfl hl.1 rfl (Nat.le_of_ble_eq_true rfl) dX5_mark_13 ⟨Nat.zero_le _, Nat.zero_le _⟩) hP hD hS hA (fr_M_M a k M0 L0 M_9 L0) (fun H locs hP hD hS => ?_)
    refine lv_istore_n (lv' := [(3, .int r9), (0, .ref (a 0)), (1, .int p0), (2, .int p1)]) hx hb dX5_mark_16 rfl hl (by decide) rfl (fun ls hl => ?_)
    refine lv_iload_n hx hb dX5_mark_17 rfl (lv_at hl 0 rfl) ?_
    refine lv_if_ge (tgt := 23) hx hb dX5_mark_18 (by decide) (fun c10 => ?_) (fun c10 => ?_)
    · have h := it_t c10 h
      refine lv_iload_n hx hb dX5_mark_23 rfl (lv_at hl 3 rfl) ?_
      refine lv_aload_n hx hb dX5_mark_24 rfl (lv_at hl 1 rfl) ?_
      refine va_get (D := D) (ci := 5) (v := .ref (a 2)) (C := RX5) (T := TX5) (N := 20) hx hb hts hin5 hown hK hP 0 rfl rfl 4 (by decide) (hts (.fieldLink RX5 13 "BallastLineModel" "kinds" "[I") (List.mem_of_getElem? (i := 1) rfl)) (fun _ h9 => h9) rfl dX5_mark_25 ?_
      refine lv_iload_n hx hb dX5_mark_28 rfl (lv_at hl 2 rfl) ?_
      obtain ⟨g11, h⟩ := gd_s h
      refine va_iald hx hb hK hP 2 1 rfl rfl (inb_in g11) dX5_mark_29 ?_
      refine lv_icmp_eq (tgt := 54) hx hb dX5_mark_30 (by decide) (fun c12 => ?_) (fun c12 => ?_)
      · have h := it_t c12 h
        exact lb54  M_9 H locs hP hD hS ls (lv_sub hl [1, 2, 3] rfl) h
      · have h := it_f c12 h
        refine lv_iload_n hx hb dX5_mark_33 rfl (lv_at hl 3 rfl) ?_
        refine lv_iconst (v := (1 : Int32)) hx hb dX5_mark_34 (by decide) ?_
        refine lv_icmp_ne (tgt := 48) hx hb dX5_mark_35 (by decide) (fun c13 => ?_) (fun c13 => ?_)
        · have h := it_f c13 h
          exact lb48  M_9 H locs hP hD hS ls (lv_sub hl [1] rfl) h
        · have h := it_t c13 h
          refine lv_aload_n hx hb dX5_mark_38 rfl (lv_at hl 1 rfl) ?_
          refine va_get (D := D) (ci := 5) (v := .ref (a 2)) (C := RX5) (T := TX5) (N := 20) hx hb hts hin5 hown hK hP 0 rfl rfl 4 (by decide) (hts (.fieldLink RX5 13 "BallastLineModel" "kinds" "[I") (List.mem_of_getElem? (i := 1) rfl)) (fun _ h9 => h9) rfl dX5_mark_39 ?_
          refine lv_iload_n hx hb dX5_mark_42 rfl (lv_at hl 2 rfl) ?_
          obtain ⟨g14, h⟩ := gd_s h
          refine va_iald hx hb hK hP 2 1 rfl rfl (inb_in g14) dX5_mark_43 ?_
          refine lv_iconst (v := (3 : Int32)) hx hb dX5_mark_44 (by decide) ?_
          refine lv_icmp_eq (tgt := 54) hx hb dX5_mark_45 (by decide) (fun c15 => ?_) (fun c15 => ?_)
          · have h := it_t c15 h
            exact lb54  M_9 H locs hP hD hS ls (lv_sub hl [1, 2, 3] rfl) h
          · have h := it_f c15 h
            exact lb48  M_9 H locs hP hD hS ls (lv_sub hl [1] rfl) h
    · have h := it_f c10 h
      refine lv_iload_n hx hb dX5_mark_21 rfl (lv_at hl 0 rfl) ?_
      have h := Option.some.inj h
      obtain ⟨hz0, h⟩ := Prod.mk.inj h
      have hP : va_P D vwCl (xM a k Mz L0) H := by rw [← h]; exact hP
      have hD : va_D A (xM a k Mz L0) := by rw [← h]; exact hD
      subst hQ
      subst hAe
      exact r_i hx hb hr hlocks hz0 hP hD hS dX5_mark_22
  · have h := it_t c8 h
    refine lv_iconst (v := (-1 : Int32)) hx hb dX5_mark_9 (by decide) ?_
    have h := Option.some.inj h
    obtain ⟨hz0, h⟩ := Prod.mk.inj h
    have hP : va_P D vwCl (xM a k Mz L0) H := by rw [← h]; exact hP
    have hD : va_D A (xM a k Mz L0) := by rw [← h]; exact hD
    subst hQ
    subst hAe
    exact r_i hx hb hr hlocks hz0 hP hD hS dX5_mark_10
def f_X5_floor  (p0 : Int64) (p1 : Int32) : Option (Int32) := gd (nz64 (Int32.toInt64 p1)) (ltt ((p0 / (Int32.toInt64 p1))) (fun v2 => gd (nz64 (Int32.toInt64 p1)) (if (0 : Int32) ≤ (lg_cmp (p0 - p0 / (Int32.toInt64 p1) * (Int32.toInt64 p1)) (0 : Int64)) then (some (Int64.toInt32 v2)) else (some (Int64.toInt32 (v2 - (1 : Int64)))))))
abbrev rm_X5_floor : Room := { frames := 0, cells := 0, slots := 0, locals := 0 }
set_option maxHeartbeats 4000000 in
set_option maxRecDepth 100000 in
theorem c_X5_floor (l : Launch) (D : va_G) (sz : Nat)  (p0 : Int64) (p1 : Int32) (r : Int32) (h : f_X5_floor p0 p1 = some r) : Met l yX5_floor wsX5_floor rm_X5_floor (mPc D [.long p0, .int p1] ([] : va_W) ([] : List (ClassId × FieldType)) sz) (mQi D ([] : va_W) ([] : va_W) sz r) 0 0 (va_A ([] : va_W) sz) := by
  refine mk_met (cc := cX5_floor) (maxL := 5) (ret := (some .int)) (by decide) rfl (Nat.le_of_ble_eq_true rfl) ?_
  intro p e s m below meth c hx hb hr hml hts hown hmn hlocks hnw hsz hK hP hD hS hA ls hl
  obtain ⟨A, hAe⟩ : ∃ A, A = va_A ([] : va_W) sz := ⟨_, rfl⟩
  rw [← hAe] at hD hS hA
  generalize hargs : List.toArray ([.long p0, .int p1] : List Value) = args at hts ⊢
  generalize hQ : MQ below (mQi D ([] : va_W) ([] : va_W) sz r) args s 0 0 (va_A ([] : va_W) sz) = Q
  have hl : lv_has ls 5 [(0, .long p0), (2, .int p1)] := hl
  rw [f_X5_floor] at h
  obtain ⟨H, hH⟩ : ∃ H, H = s.heap := ⟨_, rfl⟩
  obtain ⟨locs, hlc⟩ : ∃ L : List Loc, L = [] := ⟨_, rfl⟩
  rw [← hH] at hP
  have hS : va_S A s.heap H locs := by rw [hH, hlc]; exact hS
  suffices hW9 : W p l e rm_X5_floor s m args below meth c H locs 0 0 Q (F0 m 0 ls []) by rw [hH, hlc] at hW9; exact hW9
  refine lv_lload_n hx hb dX5_floor_0 rfl (lv_at hl 0 rfl) ?_
  refine lv_iload_n hx hb dX5_floor_1 rfl (lv_at hl 1 rfl) ?_
  refine lv_i2l (v := (Int32.toInt64 p1)) hx hb dX5_floor_2 rfl ?_
  obtain ⟨g1, h⟩ := gd_s h
  refine lv_ldiv hx hb dX5_floor_3 (nz64_s g1) ?_
  refine lv_topl (fun v2 ev2 => ?_)
  have h := ltt_s ev2 h
  refine lv_lstore_n (lv' := [(3, .long v2), (0, .long p0), (2, .int p1)]) hx hb dX5_floor_4 rfl hl (by decide) rfl (fun ls hl => ?_)
  refine lv_lload_n hx hb dX5_floor_5 rfl (lv_at hl 1 rfl) ?_
  refine lv_iload_n hx hb dX5_floor_6 rfl (lv_at hl 2 rfl) ?_
  refine lv_i2l (v := (Int32.toInt64 p1)) hx hb dX5_floor_7 rfl ?_
  obtain ⟨g3, h⟩ := gd_s h
  refine lv_lrem hx hb dX5_floor_8 (nz64_s g3) ?_
  refine lv_lconst (v := (0 : Int64)) hx hb dX5_floor_9 (by decide) ?_
  refine W.lcmp hx hb dX5_floor_10 ?_
  refine lv_if_ge (tgt := 20) hx hb dX5_floor_11 (by decide) (fun c4 => ?_) (fun c4 => ?_)
  · have h := it_t c4 h
    refine lv_lload_n hx hb dX5_floor_20 rfl (lv_at hl 0 rfl) ?_
    refine lv_l2i (v := (Int64.toInt32 v2)) hx hb dX5_floor_21 rfl ?_
    have h := Option.some.inj h
    subst hQ
    subst hAe
    exact r_i hx hb hr hlocks h hP hD hS dX5_floor_22
  · have h := it_f c4 h
    refine lv_lload_n hx hb dX5_floor_14 rfl (lv_at hl 0 rfl) ?_
    refine lv_lconst (v := (1 : Int64)) hx hb dX5_floor_15 (by decide) ?_
    refine lv_lsub hx hb dX5_floor_16 ?_
    refine lv_goto (tgt := 21) hx hb dX5_floor_17 (by decide) ?_
    refine lv_l2i (v := (Int64.toInt32 (v2 - (1 : Int64)))) hx hb dX5_floor_21 rfl ?_
    have h := Option.some.inj h
    subst hQ
    subst hAe
    exact r_i hx hb hr hlocks h hP hD hS dX5_floor_22
def f_X5_railAt_J136 (M0 : Nat → Nat → Int32) (p0 : Int32) (ko7 : Int32 → Int32 → Int32 → Option (Int32)) (ko23 : Int32 → Int32 → Int32 → Int32 → Option (Int32)) (x2 : Int32) (x3 : Int32) (x4 : Int32) (x5 : Int32) : Option (Int32) := ltt (x5 + (1 : Int32)) (fun v1 => ko23 x2 x3 x4 v1)
def f_X5_railAt_J133 (M0 : Nat → Nat → Int32) (p0 : Int32) (ko7 : Int32 → Int32 → Int32 → Option (Int32)) (ko23 : Int32 → Int32 → Int32 → Int32 → Option (Int32)) (x4 : Int32) (x5 : Int32) (s0 : Int32) : Option (Int32) := f_X5_railAt_J136 M0 p0 ko7 ko23 (1 : Int32) s0 x4 x5
def f_X5_railAt_J127 (M0 : Nat → Nat → Int32) (p0 : Int32) (ko7 : Int32 → Int32 → Int32 → Option (Int32)) (ko23 : Int32 → Int32 → Int32 → Int32 → Option (Int32)) (x4 : Int32) (x5 : Int32) (x6 : Int32) : Option (Int32) := f_X5_railAt_J133 M0 p0 ko7 ko23 x4 x5 x6
def f_X5_railAt_J115 (M0 : Nat → Nat → Int32) (p0 : Int32) (ko7 : Int32 → Int32 → Int32 → Option (Int32)) (ko23 : Int32 → Int32 → Int32 → Int32 → Option (Int32)) (x2 : Int32) (x3 : Int32) (x4 : Int32) (x5 : Int32) (s0 : Int32) : Option (Int32) := if x2 = (0 : Int32) then (f_X5_railAt_J127 M0 p0 ko7 ko23 x4 x5 s0) else (if s0 ≤ x3 then (f_X5_railAt_J133 M0 p0 ko7 ko23 x4 x5 x3) else (f_X5_railAt_J127 M0 p0 ko7 ko23 x4 x5 s0))
def f_X5_railAt_J142 (M0 : Nat → Nat → Int32) (p0 : Int32) (ko7 : Int32 → Int32 → Int32 → Option (Int32)) (x2 : Int32) (x3 : Int32) (x4 : Int32) : Option (Int32) := ltt (x4 + (-1 : Int32)) (fun v4 => ko7 x2 x3 v4)
def f_X5_railAt_L23 (M0 : Nat → Nat → Int32) (p0 : Int32) (ko7 : Int32 → Int32 → Int32 → Option (Int32)) : Nat → Int32 → Int32 → Int32 → Int32 → Option (Int32)
  | 0, _, _, _, _ => none
  | n + 1, x2, x3, x4, x5 => if (M0 3 0) ≤ x5 then (f_X5_railAt_J142 M0 p0 ko7 x2 x3 x4) else (if (x4 + (4 : Int32)) < x5 then (f_X5_railAt_J142 M0 p0 ko7 x2 x3 x4) else (gd (inb x4 40) (if (M0 9 (Int32.toNatClampNeg x4)) = (0 : Int32) then (gd (inb x5 40) (if (M0 9 (Int32.toNatClampNeg x5)) = (0 : Int32) then (if x4 = x5 then (gd (inb x4 40) (f_X5_railAt_J115 M0 p0 ko7 (f_X5_railAt_L23 M0 p0 ko7 n) x2 x3 x4 x5 (M0 5 (Int32.toNatClampNeg x4)))) else (gd (inb x4 40) (gd (inb x5 40) (b1 (f_X5_floor (((Int32.toInt64 (M0 5 (Int32.toNatClampNeg x4))) * (Int32.toInt64 (x5 - p0))) + ((Int32.toInt64 (M0 5 (Int32.toNatClampNeg x5))) * (Int32.toInt64 (p0 - x4)))) (x5 - x4)) (fun r14 => f_X5_railAt_J115 M0 p0 ko7 (f_X5_railAt_L23 M0 p0 ko7 n) x2 x3 x4 x5 r14))))) else (f_X5_railAt_J136 M0 p0 ko7 (f_X5_railAt_L23 M0 p0 ko7 n) x2 x3 x4 x5))) else (f_X5_railAt_J136 M0 p0 ko7 (f_X5_railAt_L23 M0 p0 ko7 n) x2 x3 x4 x5))))
def f_X5_railAt_J215 (M0 : Nat → Nat → Int32) (p0 : Int32) (ko151 : Int32 → Int32 → Int32 → Option (Int32)) (ko167 : Int32 → Int32 → Int32 → Int32 → Option (Int32)) (x2 : Int32) (x3 : Int32) (x4 : Int32) (x5 : Int32) : Option (Int32) := ltt (x5 + (2 : Int32)) (fun v16 => ko167 x2 x3 x4 v16)
def f_X5_railAt_J221 (M0 : Nat → Nat → Int32) (p0 : Int32) (ko151 : Int32 → Int32 → Int32 → Option (Int32)) (x2 : Int32) (x3 : Int32) (x4 : Int32) : Option (Int32) := ltt (x4 + (1 : Int32)) (fun v17 => ko151 x2 x3 v17)
def f_X5_railAt_L167 (M0 : Nat → Nat → Int32) (p0 : Int32) (ko151 : Int32 → Int32 → Int32 → Option (Int32)) : Nat → Int32 → Int32 → Int32 → Int32 → Option (Int32)
  | 0, _, _, _, _ => none
  | n + 1, x2, x3, x4, x5 => if (2 : Int32) ≤ x5 then (f_X5_railAt_J221 M0 p0 ko151 x2 x3 x4) else (if x2 = (0 : Int32) then (ltt ((p0 + (x5 * x4))) (fun v20 => b1 (f_X5_isSleeper M0 v20) (fun r21 => if r21 = (0 : Int32) then (f_X5_railAt_J215 M0 p0 ko151 (f_X5_railAt_L167 M0 p0 ko151 n) x2 x3 x4 x5) else (gd (inb v20 40) (if (M0 9 (Int32.toNatClampNeg v20)) = (0 : Int32) then (gd (inb v20 40) (ltt ((M0 5 (Int32.toNatClampNeg v20))) (fun v26 => f_X5_railAt_J215 M0 p0 ko151 (f_X5_railAt_L167 M0 p0 ko151 n) (1 : Int32) v26 x4 x5))) else (f_X5_railAt_J215 M0 p0 ko151 (f_X5_railAt_L167 M0 p0 ko151 n) x2 x3 x4 x5)))))) else (f_X5_railAt_J221 M0 p0 ko151 x2 x3 x4))
def f_X5_railAt_L151 (M0 : Nat → Nat → Int32) (p0 : Int32)  : Nat → Int32 → Int32 → Int32 → Option (Int32)
  | 0, _, _, _ => none
  | n + 1, x2, x3, x4 => if (M0 3 0) ≤ x4 then (some x3) else (if x2 = (0 : Int32) then (f_X5_railAt_L167 M0 p0 (f_X5_railAt_L151 M0 p0 n) 64 x2 x3 x4 (-1 : Int32)) else (some x3))
def f_X5_railAt_J148 (M0 : Nat → Nat → Int32) (p0 : Int32)  (x2 : Int32) (x3 : Int32) : Option (Int32) := f_X5_railAt_L151 M0 p0 64 x2 x3 (1 : Int32)
def f_X5_railAt_L7 (M0 : Nat → Nat → Int32) (p0 : Int32)  : Nat → Int32 → Int32 → Int32 → Option (Int32)
  | 0, _, _, _ => none
  | n + 1, x2, x3, x4 => if x4 < (0 : Int32) then (f_X5_railAt_J148 M0 p0 x2 x3) else (if x4 < (p0 - (4 : Int32)) then (f_X5_railAt_J148 M0 p0 x2 x3) else (f_X5_railAt_L23 M0 p0 (f_X5_railAt_L7 M0 p0 n) 64 x2 x3 x4 p0))
def f_X5_railAt (M0 : Nat → Nat → Int32) (p0 : Int32) : Option (Int32) := f_X5_railAt_L7 M0 p0 64 (0 : Int32) (0 : Int32) p0
abbrev rm_X5_railAt : Room := { frames := 2, cells := 0, slots := 0, locals := 43 }
set_option maxHeartbeats 4000000 in
set_option maxRecDepth 100000 in
theorem c_X5_railAt (l : Launch) (D : va_G) (a : Nat → Nat) (k : Nat → ClassId) (sz : Nat) (M0 : Nat → Nat → Int32) (L0 : Int64) (p0 : Int32) (r : Int32) (h : f_X5_railAt M0 p0 = some r) : Met l yX5_railAt wsX5_railAt rm_X5_railAt (mPc D [.ref (a 0), .int p0] (xM a k M0 L0) (tM k) sz) (mQi D (xM a k M0 L0) (xM a k M0 L0) sz r) 0 0 (va_A (xM a k M0 L0) sz) := by
  refine mk_met (cc := cX5_railAt) (maxL := 7) (ret := (some .int)) (by decide) rfl (Nat.le_of_ble_eq_true rfl) ?_
  intro p e s m below meth c hx hb hr hml hts hown hmn hlocks hnw hsz hK hP hD hS hA ls hl
  obtain ⟨A, hAe⟩ : ∃ A, A = va_A (xM a k M0 L0) sz := ⟨_, rfl⟩
  rw [← hAe] at hD hS hA
  generalize hargs : List.toArray ([.ref (a 0), .int p0] : List Value) = args at hts ⊢
  generalize hQ : MQ below (mQi D (xM a k M0 L0) (xM a k M0 L0) sz r) args s 0 0 (va_A (xM a k M0 L0) sz) = Q
  have hl : lv_has ls 7 [(0, .ref (a 0)), (1, .int p0)] := hl
  have hin5 : ∀ w ∈ wsX50, w ∈ wsX5_railAt := fun w h => List.mem_cons_of_mem _ (List.mem_append_right _ h)
  have lb136 : ∀ (ko7 : Int32 → Int32 → Int32 → Option (Int32)), (∀ (x2 : Int32) (x3 : Int32) (x4 : Int32), ∀ (H : Heap) (locs : List Loc), va_P D vwCl (xM a k M0 L0) H → va_D A (xM a k M0 L0) → va_S A s.heap H locs → ∀ ls : Array Slot, lv_has ls 7 [(0, .ref (a 0)), (1, .int p0), (2, .int x2), (3, .int x3), (4, .int x4)] → ko7 x2 x3 x4 = some r → W p l e rm_X5_railAt s m args below meth c H locs 0 0 Q (F0 m 7 ls [])) → ∀ (ko23 : Int32 → Int32 → Int32 → Int32 → Option (Int32)), (∀ (x2 : Int32) (x3 : Int32) (x4 : Int32) (x5 : Int32), ∀ (H : Heap) (locs : List Loc), va_P D vwCl (xM a k M0 L0) H → va_D A (xM a k M0 L0) → va_S A s.heap H locs → ∀ ls : Array Slot, lv_has ls 7 [(0, .ref (a 0)), (1, .int p0), (2, .int x2), (3, .int x3), (4, .int x4), (5, .int x5)] → ko23 x2 x3 x4 x5 = some r → W p l e rm_X5_railAt s m args below meth c H locs 0 0 Q (F0 m 23 ls [])) → ∀ (x2 : Int32) (x3 : Int32) (x4 : Int32) (x5 : Int32), ∀ (H : Heap) (locs : List Loc), va_P D vwCl (xM a k M0 L0) H → va_D A (xM a k M0 L0) → va_S A s.heap H locs → ∀ ls : Array Slot, lv_has ls 7 [(0, .ref (a 0)), (1, .int p0), (2, .int x2), (3, .int x3), (4, .int x4), (5, .int x5)] → f_X5_railAt_J136 M0 p0 ko7 ko23 x2 x3 x4 x5 = some r → W p l e rm_X5_railAt s m args below meth c H locs 0 0 Q (F0 m 136 ls []) := by
    intro ko7 hko7 ko23 hko23 x2 x3 x4 x5 H locs hP hD hS ls hl h
    rw [f_X5_railAt_J136] at h
    obtain ⟨v1, ev1⟩ : ∃ y : Int32, y = x5 + (1 : Int32) := ⟨_, rfl⟩
    have h := ltt_s ev1 h
    refine lv_iinc (v := v1) (lv' := [(5, .int v1), (0, .ref (a 0)), (1, .int p0), (2, .int x2), (3, .int x3), (4, .int x4)]) hx hb dX5_railAt_136 hl (k := 5) rfl (by rw [ev1]; rfl) (by decide) rfl (fun ls hl => ?_)
    refine lv_goto (tgt := 23) hx hb dX5_railAt_139 (by decide) ?_
    exact hko23 x2 x3 x4 v1 H locs hP hD hS ls (lv_sub hl [1, 2, 3, 4, 5, 0] rfl) h
  have lb133 : ∀ (ko7 : Int32 → Int32 → Int32 → Option (Int32)), (∀ (x2 : Int32) (x3 : Int32) (x4 : Int32), ∀ (H : Heap) (locs : List Loc), va_P D vwCl (xM a k M0 L0) H → va_D A (xM a k M0 L0) → va_S A s.heap H locs → ∀ ls : Array Slot, lv_has ls 7 [(0, .ref (a 0)), (1, .int p0), (2, .int x2), (3, .int x3), (4, .int x4)] → ko7 x2 x3 x4 = some r → W p l e rm_X5_railAt s m args below meth c H locs 0 0 Q (F0 m 7 ls [])) → ∀ (ko23 : Int32 → Int32 → Int32 → Int32 → Option (Int32)), (∀ (x2 : Int32) (x3 : Int32) (x4 : Int32) (x5 : Int32), ∀ (H : Heap) (locs : List Loc), va_P D vwCl (xM a k M0 L0) H → va_D A (xM a k M0 L0) → va_S A s.heap H locs → ∀ ls : Array Slot, lv_has ls 7 [(0, .ref (a 0)), (1, .int p0), (2, .int x2), (3, .int x3), (4, .int x4), (5, .int x5)] → ko23 x2 x3 x4 x5 = some r → W p l e rm_X5_railAt s m args below meth c H locs 0 0 Q (F0 m 23 ls [])) → ∀ (x4 : Int32) (x5 : Int32) (s0 : Int32), ∀ (H : Heap) (locs : List Loc), va_P D vwCl (xM a k M0 L0) H → va_D A (xM a k M0 L0) → va_S A s.heap H locs → ∀ ls : Array Slot, lv_has ls 7 [(0, .ref (a 0)), (1, .int p0), (4, .int x4), (5, .int x5)] → f_X5_railAt_J133 M0 p0 ko7 ko23 x4 x5 s0 = some r → W p l e rm_X5_railAt s m args below meth c H locs 0 0 Q (F0 m 133 ls [.int s0]) := by
    intro ko7 hko7 ko23 hko23 x4 x5 s0 H locs hP hD hS ls hl h
    rw [f_X5_railAt_J133] at h
    refine lv_istore_n (lv' := [(3, .int s0), (0, .ref (a 0)), (1, .int p0), (4, .int x4), (5, .int x5)]) hx hb dX5_railAt_133 rfl hl (by decide) rfl (fun ls hl => ?_)
    refine lv_iconst (v := (1 : Int32)) hx hb dX5_railAt_134 (by decide) ?_
    refine lv_istore_n (lv' := [(2, .int (1 : Int32)), (3, .int s0), (0, .ref (a 0)), (1, .int p0), (4, .int x4), (5, .int x5)]) hx hb dX5_railAt_135 rfl hl (by decide) rfl (fun ls hl => ?_)
    exact lb136 ko7 hko7 ko23 hko23 (1 : Int32) s0 x4 x5 H locs hP hD hS ls (lv_sub hl [2, 3, 0, 1, 4, 5] rfl) h
  have lb127 : ∀ (ko7 : Int32 → Int32 → Int32 → Option (Int32)), (∀ (x2 : Int32) (x3 : Int32) (x4 : Int32), ∀ (H : Heap) (locs : List Loc), va_P D vwCl (xM a k M0 L0) H → va_D A (xM a k M0 L0) → va_S A s.heap H locs → ∀ ls : Array Slot, lv_has ls 7 [(0, .ref (a 0)), (1, .int p0), (2, .int x2), (3, .int x3), (4, .int x4)] → ko7 x2 x3 x4 = some r → W p l e rm_X5_railAt s m args below meth c H locs 0 0 Q (F0 m 7 ls [])) → ∀ (ko23 : Int32 → Int32 → Int32 → Int32 → Option (Int32)), (∀ (x2 : Int32) (x3 : Int32) (x4 : Int32) (x5 : Int32), ∀ (H : Heap) (locs : List Loc), va_P D vwCl (xM a k M0 L0) H → va_D A (xM a k M0 L0) → va_S A s.heap H locs → ∀ ls : Array Slot, lv_has ls 7 [(0, .ref (a 0)), (1, .int p0), (2, .int x2), (3, .int x3), (4, .int x4), (5, .int x5)] → ko23 x2 x3 x4 x5 = some r → W p l e rm_X5_railAt s m args below meth c H locs 0 0 Q (F0 m 23 ls [])) → ∀ (x4 : Int32) (x5 : Int32) (x6 : Int32), ∀ (H : Heap) (locs : List Loc), va_P D vwCl (xM a k M0 L0) H → va_D A (xM a k M0 L0) → va_S A s.heap H locs → ∀ ls : Array Slot, lv_has ls 7 [(0, .ref (a 0)), (1, .int p0), (4, .int x4), (5, .int x5), (6, .int x6)] → f_X5_railAt_J127 M0 p0 ko7 ko23 x4 x5 x6 = some r → W p l e rm_X5_railAt s m args below meth c H locs 0 0 Q (F0 m 127 ls []) := by
    intro ko7 hko7 ko23 hko23 x4 x5 x6 H locs hP hD hS ls hl h
    rw [f_X5_railAt_J127] at h
    refine lv_iload hx hb dX5_railAt_127 (lv_at hl 4 rfl) ?_
    refine lv_goto (tgt := 133) hx hb dX5_railAt_129 (by decide) ?_
    exact lb133 ko7 hko7 ko23 hko23 x4 x5 x6 H locs hP hD hS ls (lv_sub hl [0, 1, 2, 3] rfl) h
  have lb115 : ∀ (ko7 : Int32 → Int32 → Int32 → Option (Int32)), (∀ (x2 : Int32) (x3 : Int32) (x4 : Int32), ∀ (H : Heap) (locs : List Loc), va_P D vwCl (xM a k M0 L0) H → va_D A (xM a k M0 L0) → va_S A s.heap H locs → ∀ ls : Array Slot, lv_has ls 7 [(0, .ref (a 0)), (1, .int p0), (2, .int x2), (3, .int x3), (4, .int x4)] → ko7 x2 x3 x4 = some r → W p l e rm_X5_railAt s m args below meth c H locs 0 0 Q (F0 m 7 ls [])) → ∀ (ko23 : Int32 → Int32 → Int32 → Int32 → Option (Int32)), (∀ (x2 : Int32) (x3 : Int32) (x4 : Int32) (x5 : Int32), ∀ (H : Heap) (locs : List Loc), va_P D vwCl (xM a k M0 L0) H → va_D A (xM a k M0 L0) → va_S A s.heap H locs → ∀ ls : Array Slot, lv_has ls 7 [(0, .ref (a 0)), (1, .int p0), (2, .int x2), (3, .int x3), (4, .int x4), (5, .int x5)] → ko23 x2 x3 x4 x5 = some r → W p l e rm_X5_railAt s m args below meth c H locs 0 0 Q (F0 m 23 ls [])) → ∀ (x2 : Int32) (x3 : Int32) (x4 : Int32) (x5 : Int32) (s0 : Int32), ∀ (H : Heap) (locs : List Loc), va_P D vwCl (xM a k M0 L0) H → va_D A (xM a k M0 L0) → va_S A s.heap H locs → ∀ ls : Array Slot, lv_has ls 7 [(0, .ref (a 0)), (1, .int p0), (2, .int x2), (3, .int x3), (4, .int x4), (5, .int x5)] → f_X5_railAt_J115 M0 p0 ko7 ko23 x2 x3 x4 x5 s0 = some r → W p l e rm_X5_railAt s m args below meth c H locs 0 0 Q (F0 m 115 ls [.int s0]) := by
    intro ko7 hko7 ko23 hko23 x2 x3 x4 x5 s0 H locs hP hD hS ls hl h
    rw [f_X5_railAt_J115] at h
    refine lv_istore (lv' := [(6, .int s0), (0, .ref (a 0)), (1, .int p0), (2, .int x2), (3, .int x3), (4, .int x4), (5, .int x5)]) hx hb dX5_railAt_115 hl (by decide) rfl (fun ls hl => ?_)
    refine lv_iload_n hx hb dX5_railAt_117 rfl (lv_at hl 3 rfl) ?_
    refine lv_if_eq (tgt := 127) hx hb dX5_railAt_118 (by decide) (fun c2 => ?_) (fun c2 => ?_)
    · have h := it_t c2 h
      exact lb127 ko7 hko7 ko23 hko23 x4 x5 s0 H locs hP hD hS ls (lv_sub hl [1, 2, 5, 6, 0] rfl) h
    · have h := it_f c2 h
      refine lv_iload hx hb dX5_railAt_121 (lv_at hl 0 rfl) ?_
      refine lv_iload_n hx hb dX5_railAt_123 rfl (lv_at hl 4 rfl) ?_
      refine lv_icmp_le (tgt := 132) hx hb dX5_railAt_124 (by decide) (fun c3 => ?_) (fun c3 => ?_)
      · have h := it_t c3 h
        refine lv_iload_n hx hb dX5_railAt_132 rfl (lv_at hl 4 rfl) ?_
        exact lb133 ko7 hko7 ko23 hko23 x4 x5 x3 H locs hP hD hS ls (lv_sub hl [1, 2, 5, 6] rfl) h
      · have h := it_f c3 h
        exact lb127 ko7 hko7 ko23 hko23 x4 x5 s0 H locs hP hD hS ls (lv_sub hl [1, 2, 5, 6, 0] rfl) h
  have lb142 : ∀ (ko7 : Int32 → Int32 → Int32 → Option (Int32)), (∀ (x2 : Int32) (x3 : Int32) (x4 : Int32), ∀ (H : Heap) (locs : List Loc), va_P D vwCl (xM a k M0 L0) H → va_D A (xM a k M0 L0) → va_S A s.heap H locs → ∀ ls : Array Slot, lv_has ls 7 [(0, .ref (a 0)), (1, .int p0), (2, .int x2), (3, .int x3), (4, .int x4)] → ko7 x2 x3 x4 = some r → W p l e rm_X5_railAt s m args below meth c H locs 0 0 Q (F0 m 7 ls [])) → ∀ (x2 : Int32) (x3 : Int32) (x4 : Int32), ∀ (H : Heap) (locs : List Loc), va_P D vwCl (xM a k M0 L0) H → va_D A (xM a k M0 L0) → va_S A s.heap H locs → ∀ ls : Array Slot, lv_has ls 7 [(0, .ref (a 0)), (1, .int p0), (2, .int x2), (3, .int x3), (4, .int x4)] → f_X5_railAt_J142 M0 p0 ko7 x2 x3 x4 = some r → W p l e rm_X5_railAt s m args below meth c H locs 0 0 Q (F0 m 142 ls []) := by
    intro ko7 hko7 x2 x3 x4 H locs hP hD hS ls hl h
    rw [f_X5_railAt_J142] at h
    obtain ⟨v4, ev4⟩ : ∃ y : Int32, y = x4 + (-1 : Int32) := ⟨_, rfl⟩
    have h := ltt_s ev4 h
    refine lv_iinc (v := v4) (lv' := [(4, .int v4), (0, .ref (a 0)), (1, .int p0), (2, .int x2), (3, .int x3)]) hx hb dX5_railAt_142 hl (k := 4) rfl (by rw [ev4]; rfl) (by decide) rfl (fun ls hl => ?_)
    refine lv_goto (tgt := 7) hx hb dX5_railAt_145 (by decide) ?_
    exact hko7 x2 x3 v4 H locs hP hD hS ls (lv_sub hl [1, 2, 3, 4, 0] rfl) h
  have lb23 : ∀ (ko7 : Int32 → Int32 → Int32 → Option (Int32)), (∀ (x2 : Int32) (x3 : Int32) (x4 : Int32), ∀ (H : Heap) (locs : List Loc), va_P D vwCl (xM a k M0 L0) H → va_D A (xM a k M0 L0) → va_S A s.heap H locs → ∀ ls : Array Slot, lv_has ls 7 [(0, .ref (a 0)), (1, .int p0), (2, .int x2), (3, .int x3), (4, .int x4)] → ko7 x2 x3 x4 = some r → W p l e rm_X5_railAt s m args below meth c H locs 0 0 Q (F0 m 7 ls [])) → ∀ (n : Nat), ∀ (x2 : Int32) (x3 : Int32) (x4 : Int32) (x5 : Int32), ∀ (H : Heap) (locs : List Loc), va_P D vwCl (xM a k M0 L0) H → va_D A (xM a k M0 L0) → va_S A s.heap H locs → ∀ ls : Array Slot, lv_has ls 7 [(0, .ref (a 0)), (1, .int p0), (2, .int x2), (3, .int x3), (4, .int x4), (5, .int x5)] → f_X5_railAt_L23 M0 p0 ko7 n x2 x3 x4 x5 = some r → W p l e rm_X5_railAt s m args below meth c H locs 0 0 Q (F0 m 23 ls []) := by
    intro ko7 hko7
    intro n
    induction n with
    | zero =>
      intro x2 x3 x4 x5 H locs hP hD hS ls hl h
      rw [f_X5_railAt_L23] at h
      cases h
    | succ n ih =>
      intro x2 x3 x4 x5 H locs hP hD hS ls hl h
      rw [f_X5_railAt_L23] at h
      refine lv_iload hx hb dX5_railAt_23 (lv_at hl 5 rfl) ?_
      refine lv_aload_n hx hb dX5_railAt_25 rfl (lv_at hl 0 rfl) ?_
      refine va_get (D := D) (ci := 5) (v := .int (M0 3 0)) (C := RX5) (T := TX5) (N := 20) hx hb hts hin5 hown hK hP 0 rfl rfl 3 (by decide) (hts (.fieldLink RX5 72 "BallastLineModel" "many" "I") (List.mem_of_getElem? (i := 1) rfl)) (fun _ h9 => h9) rfl dX5_railAt_26 ?_
      refine lv_icmp_ge (tgt := 142) hx hb dX5_railAt_29 (by decide) (fun c5 => ?_) (fun c5 => ?_)
      · have h := it_t c5 h
        exact lb142 ko7 hko7 x2 x3 x4 H locs hP hD hS ls (lv_sub hl [0, 1, 2, 3, 4] rfl) h
      · have h := it_f c5 h
        refine lv_iload hx hb dX5_railAt_32 (lv_at hl 5 rfl) ?_
        refine lv_iload hx hb dX5_railAt_34 (lv_at hl 4 rfl) ?_
        refine lv_iconst (v := (4 : Int32)) hx hb dX5_railAt_36 (by decide) ?_
        refine lv_iadd hx hb dX5_railAt_37 ?_
        refine lv_icmp_gt (tgt := 142) hx hb dX5_railAt_38 (by decide) (fun c6 => ?_) (fun c6 => ?_)
        · have h := it_t c6 h
          exact lb142 ko7 hko7 x2 x3 x4 H locs hP hD hS ls (lv_sub hl [0, 1, 2, 3, 4] rfl) h
        · have h := it_f c6 h
          refine lv_aload_n hx hb dX5_railAt_41 rfl (lv_at hl 0 rfl) ?_
          refine va_get (D := D) (ci := 5) (v := .ref (a 7)) (C := RX5) (T := TX5) (N := 20) hx hb hts hin5 hown hK hP 0 rfl rfl 9 (by decide) (hts (.fieldLink RX5 28 "BallastLineModel" "isLost" "[Z") (List.mem_of_getElem? (i := 2) rfl)) (fun _ h9 => h9) rfl dX5_railAt_42 ?_
          refine lv_iload hx hb dX5_railAt_45 (lv_at hl 4 rfl) ?_
          obtain ⟨g7, h⟩ := gd_s h
          refine va_zald hx hb hK hP 7 6 rfl rfl (inb_in g7) dX5_railAt_47 ?_
          refine lv_if_ne (tgt := 136) hx hb dX5_railAt_48 (by decide) (fun c8 => ?_) (fun c8 => ?_)
          · have h := it_f c8 h
            exact lb136 ko7 hko7 (f_X5_railAt_L23 M0 p0 ko7 n) ih x2 x3 x4 x5 H locs hP hD hS ls (lv_sub hl [0, 1, 2, 3, 4, 5] rfl) h
          · have h := it_t c8 h
            refine lv_aload_n hx hb dX5_railAt_51 rfl (lv_at hl 0 rfl) ?_
            refine va_get (D := D) (ci := 5) (v := .ref (a 7)) (C := RX5) (T := TX5) (N := 20) hx hb hts hin5 hown hK hP 0 rfl rfl 9 (by decide) (hts (.fieldLink RX5 28 "BallastLineModel" "isLost" "[Z") (List.mem_of_getElem? (i := 2) rfl)) (fun _ h9 => h9) rfl dX5_railAt_52 ?_
            refine lv_iload hx hb dX5_railAt_55 (lv_at hl 5 rfl) ?_
            obtain ⟨g9, h⟩ := gd_s h
            refine va_zald hx hb hK hP 7 6 rfl rfl (inb_in g9) dX5_railAt_57 ?_
            refine lv_if_ne (tgt := 136) hx hb dX5_railAt_58 (by decide) (fun c10 => ?_) (fun c10 => ?_)
            · have h := it_f c10 h
              exact lb136 ko7 hko7 (f_X5_railAt_L23 M0 p0 ko7 n) ih x2 x3 x4 x5 H locs hP hD hS ls (lv_sub hl [0, 1, 2, 3, 4, 5] rfl) h
            · have h := it_t c10 h
              refine lv_iload hx hb dX5_railAt_61 (lv_at hl 4 rfl) ?_
              refine lv_iload hx hb dX5_railAt_63 (lv_at hl 5 rfl) ?_
              refine lv_icmp_ne (tgt := 78) hx hb dX5_railAt_65 (by decide) (fun c11 => ?_) (fun c11 => ?_)
              · have h := it_f c11 h
                refine lv_aload_n hx hb dX5_railAt_78 rfl (lv_at hl 0 rfl) ?_
                refine va_get (D := D) (ci := 5) (v := .ref (a 3)) (C := RX5) (T := TX5) (N := 20) hx hb hts hin5 hown hK hP 0 rfl rfl 5 (by decide) (hts (.fieldLink RX5 16 "BallastLineModel" "beds" "[I") (List.mem_of_getElem? (i := 3) rfl)) (fun _ h9 => h9) rfl dX5_railAt_79 ?_
                refine lv_iload hx hb dX5_railAt_82 (lv_at hl 4 rfl) ?_
                obtain ⟨g12, h⟩ := gd_s h
                refine va_iald hx hb hK hP 3 2 rfl rfl (inb_in g12) dX5_railAt_84 ?_
                refine lv_i2l (v := (Int32.toInt64 (M0 5 (Int32.toNatClampNeg x4)))) hx hb dX5_railAt_85 rfl ?_
                refine lv_iload hx hb dX5_railAt_86 (lv_at hl 5 rfl) ?_
                refine lv_iload_n hx hb dX5_railAt_88 rfl (lv_at hl 1 rfl) ?_
                refine lv_isub hx hb dX5_railAt_89 ?_
                refine lv_i2l (v := (Int32.toInt64 (x5 - p0))) hx hb dX5_railAt_90 rfl ?_
                refine lv_lmul hx hb dX5_railAt_91 ?_
                refine lv_aload_n hx hb dX5_railAt_92 rfl (lv_at hl 0 rfl) ?_
                refine va_get (D := D) (ci := 5) (v := .ref (a 3)) (C := RX5) (T := TX5) (N := 20) hx hb hts hin5 hown hK hP 0 rfl rfl 5 (by decide) (hts (.fieldLink RX5 16 "BallastLineModel" "beds" "[I") (List.mem_of_getElem? (i := 3) rfl)) (fun _ h9 => h9) rfl dX5_railAt_93 ?_
                refine lv_iload hx hb dX5_railAt_96 (lv_at hl 5 rfl) ?_
                obtain ⟨g13, h⟩ := gd_s h
                refine va_iald hx hb hK hP 3 2 rfl rfl (inb_in g13) dX5_railAt_98 ?_
                refine lv_i2l (v := (Int32.toInt64 (M0 5 (Int32.toNatClampNeg x5)))) hx hb dX5_railAt_99 rfl ?_
                refine lv_iload_n hx hb dX5_railAt_100 rfl (lv_at hl 1 rfl) ?_
                refine lv_iload hx hb dX5_railAt_101 (lv_at hl 4 rfl) ?_
                refine lv_isub hx hb dX5_railAt_103 ?_
                refine lv_i2l (v := (Int32.toInt64 (p0 - x4))) hx hb dX5_railAt_104 rfl ?_
                refine lv_lmul hx hb dX5_railAt_105 ?_
                refine lv_ladd hx hb dX5_railAt_106 ?_
                refine lv_iload hx hb dX5_railAt_107 (lv_at hl 5 rfl) ?_
                refine lv_iload hx hb dX5_railAt_109 (lv_at hl 4 rfl) ?_
                refine lv_isub hx hb dX5_railAt_111 ?_
                obtain ⟨r14, q14, h⟩ := b1_s h
                refine go_i (run_S (As := [.long (((Int32.toInt64 (M0 5 (Int32.toNatClampNeg x4))) * (Int32.toInt64 (x5 - p0))) + ((Int32.toInt64 (M0 5 (Int32.toNatClampNeg x5))) * (Int32.toInt64 (p0 - x4)))), .int (x5 - x4)]) (rest := []) ⟨hx, hb, hml, hown, hts⟩ hnw hK hP hD (fr_M_E a k M0 L0) (ks_M_E k) (c_X5_floor l D H.size (((Int32.toInt64 (M0 5 (Int32.toNatClampNeg x4))) * (Int32.toInt64 (x5 - p0))) + ((Int32.toInt64 (M0 5 (Int32.toNatClampNeg x5))) * (Int32.toInt64 (p0 - x4)))) (x5 - x4) r14 q14) (cwS 2 hts gX5_railAt_X5_floor rfl rfl rfl (by decide +kernel) ⟨Nat.le_of_ble_eq_true rfl, Nat.le_of_ble_eq_true rfl⟩) rfl hl.1 rfl (Nat.le_of_ble_eq_true rfl) dX5_railAt_112 ⟨Nat.zero_le _, Nat.zero_le _⟩) hP hD hS hA (fr_M_E a k M0 L0) (fun H locs hP hD hS => ?_)
                exact lb115 ko7 hko7 (f_X5_railAt_L23 M0 p0 ko7 n) ih x2 x3 x4 x5 r14 H locs hP hD hS ls (lv_sub hl [0, 1, 2, 3, 4, 5] rfl) h
              · have h := it_t c11 h
                refine lv_aload_n hx hb dX5_railAt_68 rfl (lv_at hl 0 rfl) ?_
                refine va_get (D := D) (ci := 5) (v := .ref (a 3)) (C := RX5) (T := TX5) (N := 20) hx hb hts hin5 hown hK hP 0 rfl rfl 5 (by decide) (hts (.fieldLink RX5 16 "BallastLineModel" "beds" "[I") (List.mem_of_getElem? (i := 3) rfl)) (fun _ h9 => h9) rfl dX5_railAt_69 ?_
                refine lv_iload hx hb dX5_railAt_72 (lv_at hl 4 rfl) ?_
                obtain ⟨g15, h⟩ := gd_s h
                refine va_iald hx hb hK hP 3 2 rfl rfl (inb_in g15) dX5_railAt_74 ?_
                refine lv_goto (tgt := 115) hx hb dX5_railAt_75 (by decide) ?_
                exact lb115 ko7 hko7 (f_X5_railAt_L23 M0 p0 ko7 n) ih x2 x3 x4 x5 (M0 5 (Int32.toNatClampNeg x4)) H locs hP hD hS ls (lv_sub hl [0, 1, 2, 3, 4, 5] rfl) h
  have lb215 : ∀ (ko151 : Int32 → Int32 → Int32 → Option (Int32)), (∀ (x2 : Int32) (x3 : Int32) (x4 : Int32), ∀ (H : Heap) (locs : List Loc), va_P D vwCl (xM a k M0 L0) H → va_D A (xM a k M0 L0) → va_S A s.heap H locs → ∀ ls : Array Slot, lv_has ls 7 [(0, .ref (a 0)), (1, .int p0), (2, .int x2), (3, .int x3), (4, .int x4)] → ko151 x2 x3 x4 = some r → W p l e rm_X5_railAt s m args below meth c H locs 0 0 Q (F0 m 151 ls [])) → ∀ (ko167 : Int32 → Int32 → Int32 → Int32 → Option (Int32)), (∀ (x2 : Int32) (x3 : Int32) (x4 : Int32) (x5 : Int32), ∀ (H : Heap) (locs : List Loc), va_P D vwCl (xM a k M0 L0) H → va_D A (xM a k M0 L0) → va_S A s.heap H locs → ∀ ls : Array Slot, lv_has ls 7 [(0, .ref (a 0)), (1, .int p0), (2, .int x2), (3, .int x3), (4, .int x4), (5, .int x5)] → ko167 x2 x3 x4 x5 = some r → W p l e rm_X5_railAt s m args below meth c H locs 0 0 Q (F0 m 167 ls [])) → ∀ (x2 : Int32) (x3 : Int32) (x4 : Int32) (x5 : Int32), ∀ (H : Heap) (locs : List Loc), va_P D vwCl (xM a k M0 L0) H → va_D A (xM a k M0 L0) → va_S A s.heap H locs → ∀ ls : Array Slot, lv_has ls 7 [(0, .ref (a 0)), (1, .int p0), (2, .int x2), (3, .int x3), (4, .int x4), (5, .int x5)] → f_X5_railAt_J215 M0 p0 ko151 ko167 x2 x3 x4 x5 = some r → W p l e rm_X5_railAt s m args below meth c H locs 0 0 Q (F0 m 215 ls []) := by
    intro ko151 hko151 ko167 hko167 x2 x3 x4 x5 H locs hP hD hS ls hl h
    rw [f_X5_railAt_J215] at h
    obtain ⟨v16, ev16⟩ : ∃ y : Int32, y = x5 + (2 : Int32) := ⟨_, rfl⟩
    have h := ltt_s ev16 h
    refine lv_iinc (v := v16) (lv' := [(5, .int v16), (0, .ref (a 0)), (1, .int p0), (2, .int x2), (3, .int x3), (4, .int x4)]) hx hb dX5_railAt_215 hl (k := 5) rfl (by rw [ev16]; rfl) (by decide) rfl (fun ls hl => ?_)
    refine lv_goto (tgt := 167) hx hb dX5_railAt_218 (by decide) ?_
    exact hko167 x2 x3 x4 v16 H locs hP hD hS ls (lv_sub hl [1, 2, 3, 4, 5, 0] rfl) h
  have lb221 : ∀ (ko151 : Int32 → Int32 → Int32 → Option (Int32)), (∀ (x2 : Int32) (x3 : Int32) (x4 : Int32), ∀ (H : Heap) (locs : List Loc), va_P D vwCl (xM a k M0 L0) H → va_D A (xM a k M0 L0) → va_S A s.heap H locs → ∀ ls : Array Slot, lv_has ls 7 [(0, .ref (a 0)), (1, .int p0), (2, .int x2), (3, .int x3), (4, .int x4)] → ko151 x2 x3 x4 = some r → W p l e rm_X5_railAt s m args below meth c H locs 0 0 Q (F0 m 151 ls [])) → ∀ (x2 : Int32) (x3 : Int32) (x4 : Int32), ∀ (H : Heap) (locs : List Loc), va_P D vwCl (xM a k M0 L0) H → va_D A (xM a k M0 L0) → va_S A s.heap H locs → ∀ ls : Array Slot, lv_has ls 7 [(0, .ref (a 0)), (1, .int p0), (2, .int x2), (3, .int x3), (4, .int x4)] → f_X5_railAt_J221 M0 p0 ko151 x2 x3 x4 = some r → W p l e rm_X5_railAt s m args below meth c H locs 0 0 Q (F0 m 221 ls []) := by
    intro ko151 hko151 x2 x3 x4 H locs hP hD hS ls hl h
    rw [f_X5_railAt_J221] at h
    obtain ⟨v17, ev17⟩ : ∃ y : Int32, y = x4 + (1 : Int32) := ⟨_, rfl⟩
    have h := ltt_s ev17 h
    refine lv_iinc (v := v17) (lv' := [(4, .int v17), (0, .ref (a 0)), (1, .int p0), (2, .int x2), (3, .int x3)]) hx hb dX5_railAt_221 hl (k := 4) rfl (by rw [ev17]; rfl) (by decide) rfl (fun ls hl => ?_)
    refine lv_goto (tgt := 151) hx hb dX5_railAt_224 (by decide) ?_
    exact hko151 x2 x3 v17 H locs hP hD hS ls (lv_sub hl [1, 2, 3, 4, 0] rfl) h
  have lb167 : ∀ (ko151 : Int32 → Int32 → Int32 → Option (Int32)), (∀ (x2 : Int32) (x3 : Int32) (x4 : Int32), ∀ (H : Heap) (locs : List Loc), va_P D vwCl (xM a k M0 L0) H → va_D A (xM a k M0 L0) → va_S A s.heap H locs → ∀ ls : Array Slot, lv_has ls 7 [(0, .ref (a 0)), (1, .int p0), (2, .int x2), (3, .int x3), (4, .int x4)] → ko151 x2 x3 x4 = some r → W p l e rm_X5_railAt s m args below meth c H locs 0 0 Q (F0 m 151 ls [])) → ∀ (n : Nat), ∀ (x2 : Int32) (x3 : Int32) (x4 : Int32) (x5 : Int32), ∀ (H : Heap) (locs : List Loc), va_P D vwCl (xM a k M0 L0) H → va_D A (xM a k M0 L0) → va_S A s.heap H locs → ∀ ls : Array Slot, lv_has ls 7 [(0, .ref (a 0)), (1, .int p0), (2, .int x2), (3, .int x3), (4, .int x4), (5, .int x5)] → f_X5_railAt_L167 M0 p0 ko151 n x2 x3 x4 x5 = some r → W p l e rm_X5_railAt s m args below meth c H locs 0 0 Q (F0 m 167 ls []) := by
    intro ko151 hko151
    intro n
    induction n with
    | zero =>
      intro x2 x3 x4 x5 H locs hP hD hS ls hl h
      rw [f_X5_railAt_L167] at h
      cases h
    | succ n ih =>
      intro x2 x3 x4 x5 H locs hP hD hS ls hl h
      rw [f_X5_railAt_L167] at h
      refine lv_iload hx hb dX5_railAt_167 (lv_at hl 5 rfl) ?_
      refine lv_iconst (v := (2 : Int32)) hx hb dX5_railAt_169 (by decide) ?_
      refine lv_icmp_ge (tgt := 221) hx hb dX5_railAt_170 (by decide) (fun c18 => ?_) (fun c18 => ?_)
      · have h := it_t c18 h
        exact lb221 ko151 hko151 x2 x3 x4 H locs hP hD hS ls (lv_sub hl [0, 1, 2, 3, 4] rfl) h
      · have h := it_f c18 h
        refine lv_iload_n hx hb dX5_railAt_173 rfl (lv_at hl 2 rfl) ?_
        refine lv_if_ne (tgt := 221) hx hb dX5_railAt_174 (by decide) (fun c19 => ?_) (fun c19 => ?_)
        · have h := it_f c19 h
          exact lb221 ko151 hko151 x2 x3 x4 H locs hP hD hS ls (lv_sub hl [0, 1, 2, 3, 4] rfl) h
        · have h := it_t c19 h
          refine lv_iload_n hx hb dX5_railAt_177 rfl (lv_at hl 1 rfl) ?_
          refine lv_iload hx hb dX5_railAt_178 (lv_at hl 5 rfl) ?_
          refine lv_iload hx hb dX5_railAt_180 (lv_at hl 4 rfl) ?_
          refine lv_imul hx hb dX5_railAt_182 ?_
          refine lv_iadd hx hb dX5_railAt_183 ?_
          refine lv_topi (fun v20 ev20 => ?_)
          have h := ltt_s ev20 h
          refine lv_istore (lv' := [(6, .int v20), (0, .ref (a 0)), (1, .int p0), (2, .int x2), (3, .int x3), (4, .int x4), (5, .int x5)]) hx hb dX5_railAt_184 hl (by decide) rfl (fun ls hl => ?_)
          refine lv_aload_n hx hb dX5_railAt_186 rfl (lv_at hl 1 rfl) ?_
          refine lv_iload hx hb dX5_railAt_187 (lv_at hl 0 rfl) ?_
          obtain ⟨r21, q21, h⟩ := b1_s h
          refine go_i (run_V (As := [.int v20]) (rest := []) ⟨hx, hb, hml, hown, hts⟩ hnw hK hP hD (fr_M_M a k M0 L0 M0 L0) (ks_M_M k) (c_X5_isSleeper l D a k H.size M0 L0 v20 r21 q21) (cwV 1 hts gX5_railAt_X5_isSleeper rfl rfl rfl (by decide +kernel) ⟨Nat.le_of_ble_eq_true rfl, Nat.le_of_ble_eq_true rfl⟩) (rcv_M a k M0 L0) rfl hl.1 rfl (Nat.le_of_ble_eq_true rfl) dX5_railAt_189 ⟨Nat.zero_le _, Nat.zero_le _⟩) hP hD hS hA (fr_M_M a k M0 L0 M0 L0) (fun H locs hP hD hS => ?_)
          refine lv_if_eq (tgt := 215) hx hb dX5_railAt_192 (by decide) (fun c22 => ?_) (fun c22 => ?_)
          · have h := it_t c22 h
            exact lb215 ko151 hko151 (f_X5_railAt_L167 M0 p0 ko151 n) ih x2 x3 x4 x5 H locs hP hD hS ls (lv_sub hl [1, 2, 3, 4, 5, 6] rfl) h
          · have h := it_f c22 h
            refine lv_aload_n hx hb dX5_railAt_195 rfl (lv_at hl 1 rfl) ?_
            refine va_get (D := D) (ci := 5) (v := .ref (a 7)) (C := RX5) (T := TX5) (N := 20) hx hb hts hin5 hown hK hP 0 rfl rfl 9 (by decide) (hts (.fieldLink RX5 28 "BallastLineModel" "isLost" "[Z") (List.mem_of_getElem? (i := 2) rfl)) (fun _ h9 => h9) rfl dX5_railAt_196 ?_
            refine lv_iload hx hb dX5_railAt_199 (lv_at hl 0 rfl) ?_
            obtain ⟨g23, h⟩ := gd_s h
            refine va_zald hx hb hK hP 7 6 rfl rfl (inb_in g23) dX5_railAt_201 ?_
            refine lv_if_ne (tgt := 215) hx hb dX5_railAt_202 (by decide) (fun c24 => ?_) (fun c24 => ?_)
            · have h := it_f c24 h
              exact lb215 ko151 hko151 (f_X5_railAt_L167 M0 p0 ko151 n) ih x2 x3 x4 x5 H locs hP hD hS ls (lv_sub hl [1, 2, 3, 4, 5, 6] rfl) h
            · have h := it_t c24 h
              refine lv_aload_n hx hb dX5_railAt_205 rfl (lv_at hl 1 rfl) ?_
              refine va_get (D := D) (ci := 5) (v := .ref (a 3)) (C := RX5) (T := TX5) (N := 20) hx hb hts hin5 hown hK hP 0 rfl rfl 5 (by decide) (hts (.fieldLink RX5 16 "BallastLineModel" "beds" "[I") (List.mem_of_getElem? (i := 3) rfl)) (fun _ h9 => h9) rfl dX5_railAt_206 ?_
              refine lv_iload hx hb dX5_railAt_209 (lv_at hl 0 rfl) ?_
              obtain ⟨g25, h⟩ := gd_s h
              refine va_iald hx hb hK hP 3 2 rfl rfl (inb_in g25) dX5_railAt_211 ?_
              refine lv_topi (fun v26 ev26 => ?_)
              have h := ltt_s ev26 h
              refine lv_istore_n (lv' := [(3, .int v26), (6, .int v20), (0, .ref (a 0)), (1, .int p0), (2, .int x2), (4, .int x4), (5, .int x5)]) hx hb dX5_railAt_212 rfl hl (by decide) rfl (fun ls hl => ?_)
              refine lv_iconst (v := (1 : Int32)) hx hb dX5_railAt_213 (by decide) ?_
              refine lv_istore_n (lv' := [(2, .int (1 : Int32)), (3, .int v26), (6, .int v20), (0, .ref (a 0)), (1, .int p0), (4, .int x4), (5, .int x5)]) hx hb dX5_railAt_214 rfl hl (by decide) rfl (fun ls hl => ?_)
              exact lb215 ko151 hko151 (f_X5_railAt_L167 M0 p0 ko151 n) ih (1 : Int32) v26 x4 x5 H locs hP hD hS ls (lv_sub hl [3, 4, 0, 1, 5, 6] rfl) h
  have lb151 : ∀ (n : Nat), ∀ (x2 : Int32) (x3 : Int32) (x4 : Int32), ∀ (H : Heap) (locs : List Loc), va_P D vwCl (xM a k M0 L0) H → va_D A (xM a k M0 L0) → va_S A s.heap H locs → ∀ ls : Array Slot, lv_has ls 7 [(0, .ref (a 0)), (1, .int p0), (2, .int x2), (3, .int x3), (4, .int x4)] → f_X5_railAt_L151 M0 p0 n x2 x3 x4 = some r → W p l e rm_X5_railAt s m args below meth c H locs 0 0 Q (F0 m 151 ls []) := by
    intro n
    induction n with
    | zero =>
      intro x2 x3 x4 H locs hP hD hS ls hl h
      rw [f_X5_railAt_L151] at h
      cases h
    | succ n ih =>
      intro x2 x3 x4 H locs hP hD hS ls hl h
      rw [f_X5_railAt_L151] at h
      refine lv_iload hx hb dX5_railAt_151 (lv_at hl 4 rfl) ?_
      refine lv_aload_n hx hb dX5_railAt_153 rfl (lv_at hl 0 rfl) ?_
      refine va_get (D := D) (ci := 5) (v := .int (M0 3 0)) (C := RX5) (T := TX5) (N := 20) hx hb hts hin5 hown hK hP 0 rfl rfl 3 (by decide) (hts (.fieldLink RX5 72 "BallastLineModel" "many" "I") (List.mem_of_getElem? (i := 1) rfl)) (fun _ h9 => h9) rfl dX5_railAt_154 ?_
      refine lv_icmp_ge (tgt := 227) hx hb dX5_railAt_157 (by decide) (fun c27 => ?_) (fun c27 => ?_)
      · have h := it_t c27 h
        refine lv_iload_n hx hb dX5_railAt_227 rfl (lv_at hl 3 rfl) ?_
        have h := Option.some.inj h
        subst hQ
        subst hAe
        exact r_i hx hb hr hlocks h hP hD hS dX5_railAt_228
      · have h := it_f c27 h
        refine lv_iload_n hx hb dX5_railAt_160 rfl (lv_at hl 2 rfl) ?_
        refine lv_if_ne (tgt := 227) hx hb dX5_railAt_161 (by decide) (fun c28 => ?_) (fun c28 => ?_)
        · have h := it_f c28 h
          refine lv_iload_n hx hb dX5_railAt_227 rfl (lv_at hl 3 rfl) ?_
          have h := Option.some.inj h
          subst hQ
          subst hAe
          exact r_i hx hb hr hlocks h hP hD hS dX5_railAt_228
        · have h := it_t c28 h
          refine lv_iconst (v := (-1 : Int32)) hx hb dX5_railAt_164 (by decide) ?_
          refine lv_istore (lv' := [(5, .int (-1 : Int32)), (0, .ref (a 0)), (1, .int p0), (2, .int x2), (3, .int x3), (4, .int x4)]) hx hb dX5_railAt_165 hl (by decide) rfl (fun ls hl => ?_)
          exact lb167 (f_X5_railAt_L151 M0 p0 n) ih 64 x2 x3 x4 (-1 : Int32) H locs hP hD hS ls (lv_sub hl [1, 2, 3, 4, 5, 0] rfl) h
  have lb148 : ∀ (x2 : Int32) (x3 : Int32), ∀ (H : Heap) (locs : List Loc), va_P D vwCl (xM a k M0 L0) H → va_D A (xM a k M0 L0) → va_S A s.heap H locs → ∀ ls : Array Slot, lv_has ls 7 [(0, .ref (a 0)), (1, .int p0), (2, .int x2), (3, .int x3)] → f_X5_railAt_J148 M0 p0 x2 x3 = some r → W p l e rm_X5_railAt s m args below meth c H locs 0 0 Q (F0 m 148 ls []) := by
    intro  x2 x3 H locs hP hD hS ls hl h
    rw [f_X5_railAt_J148] at h
    refine lv_iconst (v := (1 : Int32)) hx hb dX5_railAt_148 (by decide) ?_
    refine lv_istore (lv' := [(4, .int (1 : Int32)), (0, .ref (a 0)), (1, .int p0), (2, .int x2), (3, .int x3)]) hx hb dX5_railAt_149 hl (by decide) rfl (fun ls hl => ?_)
    exact lb151 64 x2 x3 (1 : Int32) H locs hP hD hS ls (lv_sub hl [1, 2, 3, 4, 0] rfl) h
  have lb7 : ∀ (n : Nat), ∀ (x2 : Int32) (x3 : Int32) (x4 : Int32), ∀ (H : Heap) (locs : List Loc), va_P D vwCl (xM a k M0 L0) H → va_D A (xM a k M0 L0) → va_S A s.heap H locs → ∀ ls : Array Slot, lv_has ls 7 [(0, .ref (a 0)), (1, .int p0), (2, .int x2), (3, .int x3), (4, .int x4)] → f_X5_railAt_L7 M0 p0 n x2 x3 x4 = some r → W p l e rm_X5_railAt s m args below meth c H locs 0 0 Q (F0 m 7 ls []) := by
    intro n
    induction n with
    | zero =>
      intro x2 x3 x4 H locs hP hD hS ls hl h
      rw [f_X5_railAt_L7] at h
      cases h
    | succ n ih =>
      intro x2 x3 x4 H locs hP hD hS ls hl h
      rw [f_X5_railAt_L7] at h
      refine lv_iload hx hb dX5_railAt_7 (lv_at hl 4 rfl) ?_
      refine lv_if_lt (tgt := 148) hx hb dX5_railAt_9 (by decide) (fun c29 => ?_) (fun c29 => ?_)
      · have h := it_t c29 h
        exact lb148  x2 x3 H locs hP hD hS ls (lv_sub hl [0, 1, 2, 3] rfl) h
      · have h := it_f c29 h
        refine lv_iload hx hb dX5_railAt_12 (lv_at hl 4 rfl) ?_
        refine lv_iload_n hx hb dX5_railAt_14 rfl (lv_at hl 1 rfl) ?_
        refine lv_iconst (v := (4 : Int32)) hx hb dX5_railAt_15 (by decide) ?_
        refine lv_isub hx hb dX5_railAt_16 ?_
        refine lv_icmp_lt (tgt := 148) hx hb dX5_railAt_17 (by decide) (fun c30 => ?_) (fun c30 => ?_)
        · have h := it_t c30 h
          exact lb148  x2 x3 H locs hP hD hS ls (lv_sub hl [0, 1, 2, 3] rfl) h
        · have h := it_f c30 h
          refine lv_iload_n hx hb dX5_railAt_20 rfl (lv_at hl 1 rfl) ?_
          refine lv_istore (lv' := [(5, .int p0), (0, .ref (a 0)), (1, .int p0), (2, .int x2), (3, .int x3), (4, .int x4)]) hx hb dX5_railAt_21 hl (by decide) rfl (fun ls hl => ?_)
          exact lb23 (f_X5_railAt_L7 M0 p0 n) ih 64 x2 x3 x4 p0 H locs hP hD hS ls (lv_sub hl [1, 2, 3, 4, 5, 0] rfl) h
  rw [f_X5_railAt] at h
  obtain ⟨H, hH⟩ : ∃ H, H = s.heap := ⟨_, rfl⟩
  obtain ⟨locs, hlc⟩ : ∃ L : List Loc, L = [] := ⟨_, rfl⟩
  rw [← hH] at hP
  have hS : va_S A s.heap H locs := by rw [hH, hlc]; exact hS
  suffices hW9 : W p l e rm_X5_railAt s m args below meth c H locs 0 0 Q (F0 m 0 ls []) by rw [hH, hlc] at hW9; exact hW9
  refine lv_iconst (v := (0 : Int32)) hx hb dX5_railAt_0 (by decide) ?_
  refine lv_istore_n (lv' := [(2, .int (0 : Int32)), (0, .ref (a 0)), (1, .int p0)]) hx hb dX5_railAt_1 rfl hl (by decide) rfl (fun ls hl => ?_)
  refine lv_iconst (v := (0 : Int32)) hx hb dX5_railAt_2 (by decide) ?_
  refine lv_istore_n (lv' := [(3, .int (0 : Int32)), (2, .int (0 : Int32)), (0, .ref (a 0)), (1, .int p0)]) hx hb dX5_railAt_3 rfl hl (by decide) rfl (fun ls hl => ?_)
  refine lv_iload_n hx hb dX5_railAt_4 rfl (lv_at hl 3 rfl) ?_
  refine lv_istore (lv' := [(4, .int p0), (3, .int (0 : Int32)), (2, .int (0 : Int32)), (0, .ref (a 0)), (1, .int p0)]) hx hb dX5_railAt_5 hl (by decide) rfl (fun ls hl => ?_)
  exact lb7 64 (0 : Int32) (0 : Int32) p0 H locs hP hD hS ls (lv_sub hl [3, 4, 2, 1, 0] rfl) h
