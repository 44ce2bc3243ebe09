def f_X3_isWorse (V0 : Nat → Nat → Int32) (p0 : Int32) (p1 : Int32) : Option (Int32) := gd (inb p0 14) (gd (inb p1 14) (gd (inb p1 14) (gd (inb p0 14) (if ((V0 1 (Int32.toNatClampNeg p0)) * (V0 0 (Int32.toNatClampNeg p1))) ≤ ((V0 1 (Int32.toNatClampNeg p1)) * (V0 0 (Int32.toNatClampNeg p0))) then (some (0 : Int32)) else (some (1 : Int32))))))
abbrev rm_X3_isWorse : Room := { frames := 0, cells := 0, slots := 0, locals := 0 }
set_option maxHeartbeats 4000000 in
set_option maxRecDepth 100000 in
theorem c_X3_isWorse (l : Launch) (D : va_G) (a : Nat → Nat) (k : Nat → ClassId) (sz : Nat) (V0 : Nat → Nat → Int32) (p0 : Int32) (p1 : Int32) (r : Int32) (h : f_X3_isWorse V0 p0 p1 = some r) : Met l yX3_isWorse wsX3_isWorse rm_X3_isWorse (mPc D [.ref (a 20), .int p0, .int p1] (xV a k V0) (tV k) sz) (mQi D (xV a k V0) (xV a k V0) sz r) 0 0 (va_A (xV a k V0) sz) := by
  refine mk_met (cc := cX3_isWorse) (maxL := 3) (ret := (some .boolean)) (by decide) rfl (Nat.le_of_ble_eq_true rfl) ?_
  intro p e s m below meth c hx hb hr hml hts hown hmn hlocks hnw hsz hK hP hD hS hA ls hl
  obtain ⟨A, hAe⟩ : ∃ A, A = va_A (xV a k V0) sz := ⟨_, rfl⟩
  rw [← hAe] at hD hS hA
  generalize hargs : List.toArray ([.ref (a 20), .int p0, .int p1] : List Value) = args at hts ⊢
  generalize hQ : MQ below (mQi D (xV a k V0) (xV a k V0) sz r) args s 0 0 (va_A (xV a k V0) sz) = Q
  have hl : lv_has ls 3 [(0, .ref (a 20)), (1, .int p0), (2, .int p1)] := hl
  have hin3 : ∀ w ∈ wsX30, w ∈ wsX3_isWorse := fun w h => List.mem_cons_of_mem _ (List.mem_append_right _ h)
  rw [f_X3_isWorse] at h
  obtain ⟨H, hH⟩ : ∃ H, H = s.heap := ⟨_, rfl⟩
  obtain ⟨locs, hlc⟩ : ∃ L : List Loc, L = [] := ⟨_, rfl⟩
  rw [← hH] at hP
  have hS : va_S A s.heap H locs := by rw [hH, hlc]; exact hS
  suffices hW9 : W p l e rm_X3_isWorse s m args below meth c H locs 0 0 Q (F0 m 0 ls []) by rw [hH, hlc] at hW9; exact hW9
  refine lv_aload_n hx hb dX3_isWorse_0 rfl (lv_at hl 0 rfl) ?_
  refine va_get (D := D) (ci := 3) (v := .ref (a 22)) (C := RX3) (T := TX3) (N := 6) hx hb hts hin3 hown hK hP 0 rfl rfl 1 (by decide) (hts (.fieldLink RX3 15 "BallastLine$Works" "gains" "[I") (List.mem_of_getElem? (i := 1) rfl)) (fun _ h9 => h9) rfl dX3_isWorse_1 ?_
  refine lv_iload_n hx hb dX3_isWorse_4 rfl (lv_at hl 1 rfl) ?_
  obtain ⟨g1, h⟩ := gd_s h
  refine va_iald hx hb hK hP 2 1 rfl rfl (inb_in g1) dX3_isWorse_5 ?_
  refine lv_aload_n hx hb dX3_isWorse_6 rfl (lv_at hl 0 rfl) ?_
  refine va_get (D := D) (ci := 3) (v := .ref (a 21)) (C := RX3) (T := TX3) (N := 6) hx hb hts hin3 hown hK hP 0 rfl rfl 0 (by decide) (hts (.fieldLink RX3 9 "BallastLine$Works" "costs" "[I") (List.mem_of_getElem? (i := 2) rfl)) (fun _ h9 => h9) rfl dX3_isWorse_7 ?_
  refine lv_iload_n hx hb dX3_isWorse_10 rfl (lv_at hl 2 rfl) ?_
  obtain ⟨g2, h⟩ := gd_s h
  refine va_iald hx hb hK hP 1 0 rfl rfl (inb_in g2) dX3_isWorse_11 ?_
  refine lv_imul hx hb dX3_isWorse_12 ?_
  refine lv_aload_n hx hb dX3_isWorse_13 rfl (lv_at hl 0 rfl) ?_
  refine va_get (D := D) (ci := 3) (v := .ref (a 22)) (C := RX3) (T := TX3) (N := 6) hx hb hts hin3 hown hK hP 0 rfl rfl 1 (by decide) (hts (.fieldLink RX3 15 "BallastLine$Works" "gains" "[I") (List.mem_of_getElem? (i := 1) rfl)) (fun _ h9 => h9) rfl dX3_isWorse_14 ?_
  refine lv_iload_n hx hb dX3_isWorse_17 rfl (lv_at hl 2 rfl) ?_
  obtain ⟨g3, h⟩ := gd_s h
  refine va_iald hx hb hK hP 2 1 rfl rfl (inb_in g3) dX3_isWorse_18 ?_
  refine lv_aload_n hx hb dX3_isWorse_19 rfl (lv_at hl 0 rfl) ?_
  refine va_get (D := D) (ci := 3) (v := .ref (a 21)) (C := RX3) (T := TX3) (N := 6) hx hb hts hin3 hown hK hP 0 rfl rfl 0 (by decide) (hts (.fieldLink RX3 9 "BallastLine$Works" "costs" "[I") (List.mem_of_getElem? (i := 2) rfl)) (fun _ h9 => h9) rfl dX3_isWorse_20 ?_
  refine lv_iload_n hx hb dX3_isWorse_23 rfl (lv_at hl 1 rfl) ?_
  obtain ⟨g4, h⟩ := gd_s h
  refine va_iald hx hb hK hP 1 0 rfl rfl (inb_in g4) dX3_isWorse_24 ?_
  refine lv_imul hx hb dX3_isWorse_25 ?_
  refine lv_icmp_le (tgt := 33) hx hb dX3_isWorse_26 (by decide) (fun c5 => ?_) (fun c5 => ?_)
  · have h := it_t c5 h
    refine lv_iconst (v := (0 : Int32)) hx hb dX3_isWorse_33 (by decide) ?_
    have h := Option.some.inj h
    subst hQ
    subst hAe
    exact r_z hx hb hr rfl hlocks h hP hD hS dX3_isWorse_34
  · have h := it_f c5 h
    refine lv_iconst (v := (1 : Int32)) hx hb dX3_isWorse_29 (by decide) ?_
    refine lv_goto (tgt := 34) hx hb dX3_isWorse_30 (by decide) ?_
    have h := Option.some.inj h
    subst hQ
    subst hAe
    exact r_z hx hb hr rfl hlocks h hP hD hS dX3_isWorse_34
def f_X3_add_J116  (p0 : Int32) (p1 : Int32)  (x3 : Int32) (x4 : Int32) (V : Nat → Nat → Int32) : Option (Int32 × (Nat → Nat → Int32)) := gd (inb x4 14) (ltt (st V 4 (Int32.toNatClampNeg x4) x3) (fun (V_2 : Nat → Nat → Int32) => ltt (st V_2 5 0 ((V_2 5 0) + (1 : Int32))) (fun (V_3 : Nat → Nat → Int32) => some (x3, V_3))))
def f_X3_add_L72  (p0 : Int32) (p1 : Int32)  : Nat → Int32 → Int32 → (Nat → Nat → Int32) → Option (Int32 × (Nat → Nat → Int32))
  | 0, _, _, _ => none
  | n + 1, x3, x4, V => if x4 ≤ (0 : Int32) then (f_X3_add_J116 p0 p1 x3 x4 V) else (gd (inb (x4 - (1 : Int32)) 14) (b1 (f_X3_isWorse V x3 (V 4 (Int32.toNatClampNeg (x4 - (1 : Int32))))) (fun r6 => if r6 = (0 : Int32) then (f_X3_add_J116 p0 p1 x3 x4 V) else (gd (inb (x4 - (1 : Int32)) 14) (gd (inb x4 14) (ltt (st V 4 (Int32.toNatClampNeg x4) (V 4 (Int32.toNatClampNeg (x4 - (1 : Int32))))) (fun (V_10 : Nat → Nat → Int32) => ltt (x4 + (-1 : Int32)) (fun v11 => f_X3_add_L72 p0 p1 n x3 v11 V_10))))))))
def f_X3_add_J69  (p0 : Int32) (p1 : Int32)  (x3 : Int32) (V : Nat → Nat → Int32) : Option (Int32 × (Nat → Nat → Int32)) := f_X3_add_L72 p0 p1 64 x3 x3 V
def f_X3_add (V0 : Nat → Nat → Int32) (p0 : Int32) (p1 : Int32) : Option (Int32 × (Nat → Nat → Int32)) := ltt ((V0 5 0)) (fun v12 => gd (inb v12 14) (ltt (st V0 0 (Int32.toNatClampNeg v12) p0) (fun (V_14 : Nat → Nat → Int32) => gd (inb v12 14) (ltt (st V_14 1 (Int32.toNatClampNeg v12) p1) (fun (V_16 : Nat → Nat → Int32) => if v12 ≤ (0 : Int32) then (f_X3_add_J69 p0 p1 v12 V_16) else (gd (inb (v12 - (1 : Int32)) 14) (gd (inb (v12 - (1 : Int32)) 14) (gd (inb v12 14) (ltt (st V_16 2 (Int32.toNatClampNeg v12) ((V_16 2 (Int32.toNatClampNeg (v12 - (1 : Int32)))) + (V_16 0 (Int32.toNatClampNeg (v12 - (1 : Int32)))))) (fun (V_21 : Nat → Nat → Int32) => gd (inb (v12 - (1 : Int32)) 14) (gd (inb (v12 - (1 : Int32)) 14) (gd (inb v12 14) (ltt (st V_21 3 (Int32.toNatClampNeg v12) ((V_21 3 (Int32.toNatClampNeg (v12 - (1 : Int32)))) + (V_21 1 (Int32.toNatClampNeg (v12 - (1 : Int32)))))) (fun (V_25 : Nat → Nat → Int32) => f_X3_add_J69 p0 p1 v12 V_25))))))))))))))
abbrev rm_X3_add : Room := { frames := 1, cells := 0, slots := 0, locals := 22 }
set_option maxHeartbeats 4000000 in
set_option maxRecDepth 100000 in
theorem c_X3_add (l : Launch) (D : va_G) (a : Nat → Nat) (k : Nat → ClassId) (sz : Nat) (V0 : Nat → Nat → Int32) (p0 : Int32) (p1 : Int32) (r : Int32) (Vz : (Nat → Nat → Int32)) (h : f_X3_add V0 p0 p1 = some (r, Vz)) : Met l yX3_add wsX3_add rm_X3_add (mPc D [.ref (a 20), .int p0, .int p1] (xV a k V0) (tV k) sz) (mQi D (xV a k V0) (xV a k Vz) sz r) 0 0 (va_A (xV a k V0) sz) := by
  refine mk_met (cc := cX3_add) (maxL := 5) (ret := (some .int)) (by decide) rfl (Nat.le_of_ble_eq_true rfl) ?_
  intro p e s m below meth c hx hb hr hml hts hown hmn hlocks hnw hsz hK hP hD hS hA ls hl
  obtain ⟨A, hAe⟩ : ∃ A, A = va_A (xV a k V0) sz := ⟨_, rfl⟩
  rw [← hAe] at hD hS hA
  generalize hargs : List.toArray ([.ref (a 20), .int p0, .int p1] : List Value) = args at hts ⊢
  generalize hQ : MQ below (mQi D (xV a k V0) (xV a k Vz) sz r) args s 0 0 (va_A (xV a k V0) sz) = Q
  have hl : lv_has ls 5 [(0, .ref (a 20)), (1, .int p0), (2, .int p1)] := hl
  have hin3 : ∀ w ∈ wsX30, w ∈ wsX3_add := fun w h => List.mem_cons_of_mem _ (List.mem_append_right _ h)
  have lb116 : ∀ (x3 : Int32) (x4 : Int32) (V : Nat → Nat → Int32), ∀ (H : Heap) (locs : List Loc), va_P D vwCl (xV a k V) H → va_D A (xV a k V) → va_S A s.heap H locs → ∀ ls : Array Slot, lv_has ls 5 [(0, .ref (a 20)), (3, .int x3), (4, .int x4)] → f_X3_add_J116 p0 p1 x3 x4 V = some (r, Vz) → W p l e rm_X3_add s m args below meth c H locs 0 0 Q (F0 m 116 ls []) := by
    intro  x3 x4 V H locs hP hD hS ls hl h
    rw [f_X3_add_J116] at h
    refine lv_aload_n hx hb dX3_add_116 rfl (lv_at hl 0 rfl) ?_
    refine va_get (D := D) (ci := 3) (v := .ref (a 25)) (C := RX3) (T := TX3) (N := 6) hx hb hts hin3 hown hK hP 0 rfl rfl 4 (by decide) (hts (.fieldLink RX3 24 "BallastLine$Works" "order" "[I") (List.mem_of_getElem? (i := 6) rfl)) (fun _ h9 => h9) rfl dX3_add_117 ?_
    refine lv_iload hx hb dX3_add_120 (lv_at hl 2 rfl) ?_
    refine lv_iload_n hx hb dX3_add_122 rfl (lv_at hl 1 rfl) ?_
    obtain ⟨g1, h⟩ := gd_s h
    refine va_iast hx hb hK hP hD hS 5 4 rfl rfl (inb_in g1) dX3_add_123 (fun H locs hP hD hS => ?_)
    obtain ⟨V_2, eV_2⟩ : ∃ y : Nat → Nat → Int32, y = st V 4 (Int32.toNatClampNeg x4) x3 := ⟨_, rfl⟩
    have h := ltt_s eV_2 h
    have hP : va_P D vwCl (xV a k V_2) H := by rw [eV_2]; exact hP
    have hD : va_D A (xV a k V_2) := by rw [eV_2]; exact hD
    refine lv_aload_n hx hb dX3_add_124 rfl (lv_at hl 0 rfl) ?_
    refine lv_dup hx hb dX3_add_125 rfl ?_
    refine va_get (D := D) (ci := 3) (v := .int (V_2 5 0)) (C := RX3) (T := TX3) (N := 6) hx hb hts hin3 hown hK hP 0 rfl rfl 5 (by decide) (hts (.fieldLink RX3 27 "BallastLine$Works" "size" "I") (List.mem_of_getElem? (i := 1) rfl)) (fun _ h9 => h9) rfl dX3_add_126 ?_
    refine lv_iconst (v := (1 : Int32)) hx hb dX3_add_129 (by decide) ?_
    refine lv_iadd hx hb dX3_add_130 ?_
    refine va_put (D := D) (ci := 3) (v := .int ((V_2 5 0) + (1 : Int32))) (ty := .int) (C := RX3) (T := TX3) (N := 6) hx hb hts hin3 tyX3 tyX3_ok nmX3 hown hK hP hD hS 0 rfl rfl 5 (by decide) (hts (.fieldLink RX3 27 "BallastLine$Works" "size" "I") (List.mem_of_getElem? (i := 1) rfl)) (fun _ h9 => h9) rfl (by decide +kernel) rfl rfl (Nat.le_of_ble_eq_true rfl) dX3_add_131 (fun H locs hP hD hS => ?_)
    obtain ⟨V_3, eV_3⟩ : ∃ y : Nat → Nat → Int32, y = st V_2 5 0 ((V_2 5 0) + (1 : Int32)) := ⟨_, rfl⟩
    have h := ltt_s eV_3 h
    have hP : va_P D vwCl (xV a k V_3) H := by rw [eV_3]; exact hP
    have hD : va_D A (xV a k V_3) := by rw [eV_3]; exact hD
    refine lv_iload_n hx hb dX3_add_134 rfl (lv_at hl 1 rfl) ?_
    have h := Option.some.inj h
    obtain ⟨hz0, h⟩ := Prod.mk.inj h
    have hP : va_P D vwCl (xV a k Vz) H := by rw [← h]; exact hP
    have hD : va_D A (xV a k Vz) := by rw [← h]; exact hD
    subst hQ
    subst hAe
    exact r_i hx hb hr hlocks hz0 hP hD hS dX3_add_135
  have lb72 : ∀ (n : Nat), ∀ (x3 : Int32) (x4 : Int32) (V : Nat → Nat → Int32), ∀ (H : Heap) (locs : List Loc), va_P D vwCl (xV a k V) H → va_D A (xV a k V) → va_S A s.heap H locs → ∀ ls : Array Slot, lv_has ls 5 [(0, .ref (a 20)), (3, .int x3), (4, .int x4)] → f_X3_add_L72 p0 p1 n x3 x4 V = some (r, Vz) → W p l e rm_X3_add s m args below meth c H locs 0 0 Q (F0 m 72 ls []) := by
    intro n
    induction n with
    | zero =>
      intro x3 x4 V H locs hP hD hS ls hl h
      rw [f_X3_add_L72] at h
      cases h
    | succ n ih =>
      intro x3 x4 V H locs hP hD hS ls hl h
      rw [f_X3_add_L72] at h
      refine lv_iload hx hb dX3_add_72 (lv_at hl 2 rfl) ?_
      refine lv_if_le (tgt := 116) hx hb dX3_add_74 (by decide) (fun c4 => ?_) (fun c4 => ?_)
      · have h := it_t c4 h
        exact lb116  x3 x4 V H locs hP hD hS ls (lv_sub hl [0, 1, 2] rfl) h
      · have h := it_f c4 h
        refine lv_aload_n hx hb dX3_add_77 rfl (lv_at hl 0 rfl) ?_
        refine lv_iload_n hx hb dX3_add_78 rfl (lv_at hl 1 rfl) ?_
        refine lv_aload_n hx hb dX3_add_79 rfl (lv_at hl 0 rfl) ?_
        refine va_get (D := D) (ci := 3) (v := .ref (a 25)) (C := RX3) (T := TX3) (N := 6) hx hb hts hin3 hown hK hP 0 rfl rfl 4 (by decide) (hts (.fieldLink RX3 24 "BallastLine$Works" "order" "[I") (List.mem_of_getElem? (i := 6) rfl)) (fun _ h9 => h9) rfl dX3_add_80 ?_
        refine lv_iload hx hb dX3_add_83 (lv_at hl 2 rfl) ?_
        refine lv_iconst (v := (1 : Int32)) hx hb dX3_add_85 (by decide) ?_
        refine lv_isub hx hb dX3_add_86 ?_
        obtain ⟨g5, h⟩ := gd_s h
        refine va_iald hx hb hK hP 5 4 rfl rfl (inb_in g5) dX3_add_87 ?_
        obtain ⟨r6, q6, h⟩ := b1_s h
        refine go_i (run_V (As := [.int x3, .int (V 4 (Int32.toNatClampNeg (x4 - (1 : Int32))))]) (rest := []) ⟨hx, hb, hml, hown, hts⟩ hnw hK hP hD (fr_V_V a k V V) (ks_V_V k) (c_X3_isWorse l D a k H.size V x3 (V 4 (Int32.toNatClampNeg (x4 - (1 : Int32)))) r6 q6) (cwV 2 hts gX3_add_X3_isWorse rfl rfl rfl (by decide +kernel) ⟨Nat.le_of_ble_eq_true rfl, Nat.le_of_ble_eq_true rfl⟩) (rcv_V a k V) rfl hl.1 rfl (Nat.le_of_ble_eq_true rfl) dX3_add_88 ⟨Nat.zero_le _, Nat.zero_le _⟩) hP hD hS hA (fr_V_V a k V V) (fun H locs hP hD hS => ?_)
        refine lv_if_eq (tgt := 116) hx hb dX3_add_91 (by decide) (fun c7 => ?_) (fun c7 => ?_)
        · have h := it_t c7 h
          exact lb116  x3 x4 V H locs hP hD hS ls (lv_sub hl [0, 1, 2] rfl) h
        · have h := it_f c7 h
          refine lv_aload_n hx hb dX3_add_94 rfl (lv_at hl 0 rfl) ?_
          refine va_get (D := D) (ci := 3) (v := .ref (a 25)) (C := RX3) (T := TX3) (N := 6) hx hb hts hin3 hown hK hP 0 rfl rfl 4 (by decide) (hts (.fieldLink RX3 24 "BallastLine$Works" "order" "[I") (List.mem_of_getElem? (i := 6) rfl)) (fun _ h9 => h9) rfl dX3_add_95 ?_
          refine lv_iload hx hb dX3_add_98 (lv_at hl 2 rfl) ?_
          refine lv_aload_n hx hb dX3_add_100 rfl (lv_at hl 0 rfl) ?_
          refine va_get (D := D) (ci := 3) (v := .ref (a 25)) (C := RX3) (T := TX3) (N := 6) hx hb hts hin3 hown hK hP 0 rfl rfl 4 (by decide) (hts (.fieldLink RX3 24 "BallastLine$Works" "order" "[I") (List.mem_of_getElem? (i := 6) rfl)) (fun _ h9 => h9) rfl dX3_add_101 ?_
          refine lv_iload hx hb dX3_add_104 (lv_at hl 2 rfl) ?_
          refine lv_iconst (v := (1 : Int32)) hx hb dX3_add_106 (by decide) ?_
          refine lv_isub hx hb dX3_add_107 ?_
          obtain ⟨g8, h⟩ := gd_s h
          refine va_iald hx hb hK hP 5 4 rfl rfl (inb_in g8) dX3_add_108 ?_
          obtain ⟨g9, h⟩ := gd_s h
          refine va_iast hx hb hK hP hD hS 5 4 rfl rfl (inb_in g9) dX3_add_109 (fun H locs hP hD hS => ?_)
          obtain ⟨V_10, eV_10⟩ : ∃ y : Nat → Nat → Int32, y = st V 4 (Int32.toNatClampNeg x4) (V 4 (Int32.toNatClampNeg (x4 - (1 : Int32)))) := ⟨_, rfl⟩
          have h := ltt_s eV_10 h
          have hP : va_P D vwCl (xV a k V_10) H := by rw [eV_10]; exact hP
          have hD : va_D A (xV a k V_10) := by rw [eV_10]; exact hD
          obtain ⟨v11, ev11⟩ : ∃ y : Int32, y = x4 + (-1 : Int32) := ⟨_, rfl⟩
          have h := ltt_s ev11 h
          refine lv_iinc (v := v11) (lv' := [(4, .int v11), (0, .ref (a 20)), (3, .int x3)]) hx hb dX3_add_110 hl (k := 2) rfl (by rw [ev11]; rfl) (by decide) rfl (fun ls hl => ?_)
          refine lv_goto (tgt := 72) hx hb dX3_add_113 (by decide) ?_
          exact ih x3 v11 V_10 H locs hP hD hS ls (lv_sub hl [1, 2, 0] rfl) h
  have lb69 : ∀ (x3 : Int32) (V : Nat → Nat → Int32), ∀ (H : Heap) (locs : List Loc), va_P D vwCl (xV a k V) H → va_D A (xV a k V) → va_S A s.heap H locs → ∀ ls : Array Slot, lv_has ls 5 [(0, .ref (a 20)), (3, .int x3)] → f_X3_add_J69 p0 p1 x3 V = some (r, Vz) → W p l e rm_X3_add s m args below meth c H locs 0 0 Q (F0 m 69 ls []) := by
    intro  x3 V H locs hP hD hS ls hl h
    rw [f_X3_add_J69] at h
    refine lv_iload_n hx hb dX3_add_69 rfl (lv_at hl 1 rfl) ?_
    refine lv_istore (lv' := [(4, .int x3), (0, .ref (a 20)), (3, .int x3)]) hx hb dX3_add_70 hl (by decide) rfl (fun ls hl => ?_)
    exact lb72 64 x3 x3 V H locs hP hD hS ls (lv_sub hl [1, 2, 0] rfl) h
  rw [f_X3_add] at h
  obtain ⟨H, hH⟩ : ∃ H, H = s.heap := ⟨_, rfl⟩
  obtain ⟨locs, hlc⟩ : ∃ L : List Loc, L = [] := ⟨_, rfl⟩
  rw [← hH] at hP
  have hS : va_S A s.heap H locs := by rw [hH, hlc]; exact hS
  suffices hW9 : W p l e rm_X3_add s m args below meth c H locs 0 0 Q (F0 m 0 ls []) by rw [hH, hlc] at hW9; exact hW9
  refine lv_aload_n hx hb dX3_add_0 rfl (lv_at hl 0 rfl) ?_
  refine va_get (D := D) (ci := 3) (v := .int (V0 5 0)) (C := RX3) (T := TX3) (N := 6) hx hb hts hin3 hown hK hP 0 rfl rfl 5 (by decide) (hts (.fieldLink RX3 27 "BallastLine$Works" "size" "I") (List.mem_of_getElem? (i := 1) rfl)) (fun _ h9 => h9) rfl dX3_add_1 ?_
  refine lv_topi (fun v12 ev12 => ?_)
  have h := ltt_s ev12 h
  refine lv_istore_n (lv' := [(3, .int v12), (0, .ref (a 20)), (1, .int p0), (2, .int p1)]) hx hb dX3_add_4 rfl hl (by decide) rfl (fun ls hl => ?_)
  refine lv_aload_n hx hb dX3_add_5 rfl (lv_at hl 1 rfl) ?_
  refine va_get (D := D) (ci := 3) (v := .ref (a 21)) (C := RX3) (T := TX3) (N := 6) hx hb hts hin3 hown hK hP 0 rfl rfl 0 (by decide) (hts (.fieldLink RX3 9 "BallastLine$Works" "costs" "[I") (List.mem_of_getElem? (i := 2) rfl)) (fun _ h9 => h9) rfl dX3_add_6 ?_
  refine lv_iload_n hx hb dX3_add_9 rfl (lv_at hl 0 rfl) ?_
  refine lv_iload_n hx hb dX3_add_10 rfl (lv_at hl 2 rfl) ?_
  obtain ⟨g13, h⟩ := gd_s h
  refine va_iast hx hb hK hP hD hS 1 0 rfl rfl (inb_in g13) dX3_add_11 (fun H locs hP hD hS => ?_)
  obtain ⟨V_14, eV_14⟩ : ∃ y : Nat → Nat → Int32, y = st V0 0 (Int32.toNatClampNeg v12) p0 := ⟨_, rfl⟩
  have h := ltt_s eV_14 h
  have hP : va_P D vwCl (xV a k V_14) H := by rw [eV_14]; exact hP
  have hD : va_D A (xV a k V_14) := by rw [eV_14]; exact hD
  refine lv_aload_n hx hb dX3_add_12 rfl (lv_at hl 1 rfl) ?_
  refine va_get (D := D) (ci := 3) (v := .ref (a 22)) (C := RX3) (T := TX3) (N := 6) hx hb hts hin3 hown hK hP 0 rfl rfl 1 (by decide) (hts (.fieldLink RX3 15 "BallastLine$Works" "gains" "[I") (List.mem_of_getElem? (i := 3) rfl)) (fun _ h9 => h9) rfl dX3_add_13 ?_
  refine lv_iload_n hx hb dX3_add_16 rfl (lv_at hl 0 rfl) ?_
  refine lv_iload_n hx hb dX3_add_17 rfl (lv_at hl 3 rfl) ?_
  obtain ⟨g15, h⟩ := gd_s h
  refine va_iast hx hb hK hP hD hS 2 1 rfl rfl (inb_in g15) dX3_add_18 (fun H locs hP hD hS => ?_)
  obtain ⟨V_16, eV_16⟩ : ∃ y : Nat → Nat → Int32, y = st V_14 1 (Int32.toNatClampNeg v12) p1 := ⟨_, rfl⟩
  have h := ltt_s eV_16 h
  have hP : va_P D vwCl (xV a k V_16) H := by rw [eV_16]; exact hP
  have hD : va_D A (xV a k V_16) := by rw [eV_16]; exact hD
  refine lv_iload_n hx hb dX3_add_19 rfl (lv_at hl 0 rfl) ?_
  refine lv_if_le (tgt := 69) hx hb dX3_add_20 (by decide) (fun c17 => ?_) (fun c17 => ?_)
  · have h := it_t c17 h
    exact lb69  v12 V_16 H locs hP hD hS ls (lv_sub hl [1, 0] rfl) h
  · have h := it_f c17 h
    refine lv_aload_n hx hb dX3_add_23 rfl (lv_at hl 1 rfl) ?_
    refine va_get (D := D) (ci := 3) (v := .ref (a 23)) (C := RX3) (T := TX3) (N := 6) hx hb hts hin3 hown hK hP 0 rfl rfl 2 (by decide) (hts (.fieldLink RX3 18 "BallastLine$Works" "costsBelow" "[I") (List.mem_of_getElem? (i := 4) rfl)) (fun _ h9 => h9) rfl dX3_add_24 ?_
    refine lv_iload_n hx hb dX3_add_27 rfl (lv_at hl 0 rfl) ?_
    refine lv_aload_n hx hb dX3_add_28 rfl (lv_at hl 1 rfl) ?_
    refine va_get (D := D) (ci := 3) (v := .ref (a 23)) (C := RX3) (T := TX3) (N := 6) hx hb hts hin3 hown hK hP 0 rfl rfl 2 (by decide) (hts (.fieldLink RX3 18 "BallastLine$Works" "costsBelow" "[I") (List.mem_of_getElem? (i := 4) rfl)) (fun _ h9 => h9) rfl dX3_add_29 ?_
    refine lv_iload_n hx hb dX3_add_32 rfl (lv_at hl 0 rfl) ?_
    refine lv_iconst (v := (1 : Int32)) hx hb dX3_add_33 (by decide) ?_
    refine lv_isub hx hb dX3_add_34 ?_
    obtain ⟨g18, h⟩ := gd_s h
    refine va_iald hx hb hK hP 3 2 rfl rfl (inb_in g18) dX3_add_35 ?_
    refine lv_aload_n hx hb dX3_add_36 rfl (lv_at hl 1 rfl) ?_
    refine va_get (D := D) (ci := 3) (v := .ref (a 21)) (C := RX3) (T := TX3) (N := 6) hx hb hts hin3 hown hK hP 0 rfl rfl 0 (by decide) (hts (.fieldLink RX3 9 "BallastLine$Works" "costs" "[I") (List.mem_of_getElem? (i := 2) rfl)) (fun _ h9 => h9) rfl dX3_add_37 ?_
    refine lv_iload_n hx hb dX3_add_40 rfl (lv_at hl 0 rfl) ?_
    refine lv_iconst (v := (1 : Int32)) hx hb dX3_add_41 (by decide) ?_
    refine lv_isub hx hb dX3_add_42 ?_
    obtain ⟨g19, h⟩ := gd_s h
    refine va_iald hx hb hK hP 1 0 rfl rfl (inb_in g19) dX3_add_43 ?_
    refine lv_iadd hx hb dX3_add_44 ?_
    obtain ⟨g20, h⟩ := gd_s h
    refine va_iast hx hb hK hP hD hS 3 2 rfl rfl (inb_in g20) dX3_add_45 (fun H locs hP hD hS => ?_)
    obtain ⟨V_21, eV_21⟩ : ∃ y : Nat → Nat → Int32, y = st V_16 2 (Int32.toNatClampNeg v12) ((V_16 2 (Int32.toNatClampNeg (v12 - (1 : Int32)))) + (V_16 0 (Int32.toNatClampNeg (v12 - (1 : Int32))))) := ⟨_, rfl⟩
    have h := ltt_s eV_21 h
    have hP : va_P D vwCl (xV a k V_21) H := by rw [eV_21]; exact hP
    have hD : va_D A (xV a k V_21) := by rw [eV_21]; exact hD
    refine lv_aload_n hx hb dX3_add_46 rfl (lv_at hl 1 rfl) ?_
    refine va_get (D := D) (ci := 3) (v := .ref (a 24)) (C := RX3) (T := TX3) (N := 6) hx hb hts hin3 hown hK hP 0 rfl rfl 3 (by decide) (hts (.fieldLink RX3 21 "BallastLine$Works" "gainsBelow" "[I") (List.mem_of_getElem? (i := 5) rfl)) (fun _ h9 => h9) rfl dX3_add_47 ?_
    refine lv_iload_n hx hb dX3_add_50 rfl (lv_at hl 0 rfl) ?_
    refine lv_aload_n hx hb dX3_add_51 rfl (lv_at hl 1 rfl) ?_
    refine va_get (D := D) (ci := 3) (v := .ref (a 24)) (C := RX3) (T := TX3) (N := 6) hx hb hts hin3 hown hK hP 0 rfl rfl 3 (by decide) (hts (.fieldLink RX3 21 "BallastLine$Works" "gainsBelow" "[I") (List.mem_of_getElem? (i := 5) rfl)) (fun _ h9 => h9) rfl dX3_add_52 ?_
    refine lv_iload_n hx hb dX3_add_55 rfl (lv_at hl 0 rfl) ?_
    refine lv_iconst (v := (1 : Int32)) hx hb dX3_add_56 (by decide) ?_
    refine lv_isub hx hb dX3_add_57 ?_
    obtain ⟨g22, h⟩ := gd_s h
    refine va_iald hx hb hK hP 4 3 rfl rfl (inb_in g22) dX3_add_58 ?_
    refine lv_aload_n hx hb dX3_add_59 rfl (lv_at hl 1 rfl) ?_
    refine va_get (D := D) (ci := 3) (v := .ref (a 22)) (C := RX3) (T := TX3) (N := 6) hx hb hts hin3 hown hK hP 0 rfl rfl 1 (by decide) (hts (.fieldLink RX3 15 "BallastLine$Works" "gains" "[I") (List.mem_of_getElem? (i := 3) rfl)) (fun _ h9 => h9) rfl dX3_add_60 ?_
    refine lv_iload_n hx hb dX3_add_63 rfl (lv_at hl 0 rfl) ?_
    refine lv_iconst (v := (1 : Int32)) hx hb dX3_add_64 (by decide) ?_
    refine lv_isub hx hb dX3_add_65 ?_
    obtain ⟨g23, h⟩ := gd_s h
    refine va_iald hx hb hK hP 2 1 rfl rfl (inb_in g23) dX3_add_66 ?_
    refine lv_iadd hx hb dX3_add_67 ?_
    obtain ⟨g24, h⟩ := gd_s h
    refine va_iast hx hb hK hP hD hS 4 3 rfl rfl (inb_in g24) dX3_add_68 (fun H locs hP hD hS => ?_)
    obtain ⟨V_25, eV_25⟩ : ∃ y : Nat → Nat → Int32, y = st V_21 3 (Int32.toNatClampNeg v12) ((V_21 3 (Int32.toNatClampNeg (v12 - (1 : Int32)))) + (V_21 1 (Int32.toNatClampNeg (v12 - (1 : Int32))))) := ⟨_, rfl⟩
    have h := ltt_s eV_25 h
    have hP : va_P D vwCl (xV a k V_25) H := by rw [eV_25]; exact hP
    have hD : va_D A (xV a k V_25) := by rw [eV_25]; exact hD
    exact lb69  v12 V_25 H locs hP hD hS ls (lv_sub hl [1, 0] rfl) h
def f_J6_bitCount_0f7a4  (p0 : Int32) : Option (Int32) := ltt ((p0 - (((p0.toUInt32 >>> ((1 : Int32).toUInt32 &&& Int32.toUInt32 31)).toInt32) &&& (1431655765 : Int32)))) (fun v1 => ltt (((v1 &&& (858993459 : Int32)) + (((v1.toUInt32 >>> ((2 : Int32).toUInt32 &&& Int32.toUInt32 31)).toInt32) &&& (858993459 : Int32)))) (fun v2 => ltt (((v2 + ((v2.toUInt32 >>> ((4 : Int32).toUInt32 &&& Int32.toUInt32 31)).toInt32)) &&& (252645135 : Int32))) (fun v3 => ltt ((v3 + ((v3.toUInt32 >>> ((8 : Int32).toUInt32 &&& Int32.toUInt32 31)).toInt32))) (fun v4 => ltt ((v4 + ((v4.toUInt32 >>> ((16 : Int32).toUInt32 &&& Int32.toUInt32 31)).toInt32))) (fun v5 => some (v5 &&& (63 : Int32)))))))
abbrev rm_J6_bitCount_0f7a4 : Room := { frames := 0, cells := 0, slots := 0, locals := 0 }
set_option maxHeartbeats 4000000 in
set_option maxRecDepth 100000 in
theorem c_J6_bitCount_0f7a4 (l : Launch) (D : va_G) (sz : Nat)  (p0 : Int32) (r : Int32) (h : f_J6_bitCount_0f7a4 p0 = some r) : Met l yJ6_bitCount_0f7a4 wsJ6_bitCount_0f7a4 rm_J6_bitCount_0f7a4 (mPc D [.int p0] ([] : va_W) ([] : List (ClassId × FieldType)) sz) (mQi D ([] : va_W) ([] : va_W) sz r) 0 0 (va_A ([] : va_W) sz) := by
  refine mk_met (cc := cJ6_bitCount_0f7a4) (maxL := 1) (ret := (some .int)) (by decide) rfl (Nat.le_of_ble_eq_true rfl) ?_
  intro p e s m below meth c hx hb hr hml hts hown hmn hlocks hnw hsz hK hP hD hS hA ls hl
  obtain ⟨A, hAe⟩ : ∃ A, A = va_A ([] : va_W) sz := ⟨_, rfl⟩
  rw [← hAe] at hD hS hA
  generalize hargs : List.toArray ([.int p0] : List Value) = args at hts ⊢
  generalize hQ : MQ below (mQi D ([] : va_W) ([] : va_W) sz r) args s 0 0 (va_A ([] : va_W) sz) = Q
  have hl : lv_has ls 1 [(0, .int p0)] := hl
  rw [f_J6_bitCount_0f7a4] at h
  obtain ⟨H, hH⟩ : ∃ H, H = s.heap := ⟨_, rfl⟩
  obtain ⟨locs, hlc⟩ : ∃ L : List Loc, L = [] := ⟨_, rfl⟩
  rw [← hH] at hP
  have hS : va_S A s.heap H locs := by rw [hH, hlc]; exact hS
  suffices hW9 : W p l e rm_J6_bitCount_0f7a4 s m args below meth c H locs 0 0 Q (F0 m 0 ls []) by rw [hH, hlc] at hW9; exact hW9
  refine lv_iload_n hx hb dJ6_bitCount_0f7a4_0 rfl (lv_at hl 0 rfl) ?_
  refine lv_iload_n hx hb dJ6_bitCount_0f7a4_1 rfl (lv_at hl 0 rfl) ?_
  refine lv_iconst (v := (1 : Int32)) hx hb dJ6_bitCount_0f7a4_2 (by decide) ?_
  refine lv_iushr hx hb dJ6_bitCount_0f7a4_3 rfl ?_
  refine lv_ldcw (v := (1431655765 : Int32)) hx hb hown (hts (.constant RJ6 265 (1431655765)) (List.mem_of_getElem? (i := 1) rfl)) dJ6_bitCount_0f7a4_4 ?_
  refine lv_iand hx hb dJ6_bitCount_0f7a4_7 ?_
  refine lv_isub hx hb dJ6_bitCount_0f7a4_8 ?_
  refine lv_topi (fun v1 ev1 => ?_)
  have h := ltt_s ev1 h
  refine lv_istore_n (lv' := [(0, .int v1)]) hx hb dJ6_bitCount_0f7a4_9 rfl hl (by decide) rfl (fun ls hl => ?_)
  refine lv_iload_n hx hb dJ6_bitCount_0f7a4_10 rfl (lv_at hl 0 rfl) ?_
  refine lv_ldcw (v := (858993459 : Int32)) hx hb hown (hts (.constant RJ6 266 (858993459)) (List.mem_of_getElem? (i := 2) rfl)) dJ6_bitCount_0f7a4_11 ?_
  refine lv_iand hx hb dJ6_bitCount_0f7a4_14 ?_
  refine lv_iload_n hx hb dJ6_bitCount_0f7a4_15 rfl (lv_at hl 0 rfl) ?_
  refine lv_iconst (v := (2 : Int32)) hx hb dJ6_bitCount_0f7a4_16 (by decide) ?_
  refine lv_iushr hx hb dJ6_bitCount_0f7a4_17 rfl ?_
  refine lv_ldcw (v := (858993459 : Int32)) hx hb hown (hts (.constant RJ6 266 (858993459)) (List.mem_of_getElem? (i := 2) rfl)) dJ6_bitCount_0f7a4_18 ?_
  refine lv_iand hx hb dJ6_bitCount_0f7a4_21 ?_
  refine lv_iadd hx hb dJ6_bitCount_0f7a4_22 ?_
  refine lv_topi (fun v2 ev2 => ?_)
  have h := ltt_s ev2 h
  refine lv_istore_n (lv' := [(0, .int v2)]) hx hb dJ6_bitCount_0f7a4_23 rfl hl (by decide) rfl (fun ls hl => ?_)
  refine lv_iload_n hx hb dJ6_bitCount_0f7a4_24 rfl (lv_at hl 0 rfl) ?_
  refine lv_iload_n hx hb dJ6_bitCount_0f7a4_25 rfl (lv_at hl 0 rfl) ?_
  refine lv_iconst (v := (4 : Int32)) hx hb dJ6_bitCount_0f7a4_26 (by decide) ?_
  refine lv_iushr hx hb dJ6_bitCount_0f7a4_27 rfl ?_
  refine lv_iadd hx hb dJ6_bitCount_0f7a4_28 ?_
  refine lv_ldcw (v := (252645135 : Int32)) hx hb hown (hts (.constant RJ6 267 (252645135)) (List.mem_of_getElem? (i := 3) rfl)) dJ6_bitCount_0f7a4_29 ?_
  refine lv_iand hx hb dJ6_bitCount_0f7a4_32 ?_
  refine lv_topi (fun v3 ev3 => ?_)
  have h := ltt_s ev3 h
  refine lv_istore_n (lv' := [(0, .int v3)]) hx hb dJ6_bitCount_0f7a4_33 rfl hl (by decide) rfl (fun ls hl => ?_)
  refine lv_iload_n hx hb dJ6_bitCount_0f7a4_34 rfl (lv_at hl 0 rfl) ?_
  refine lv_iload_n hx hb dJ6_bitCount_0f7a4_35 rfl (lv_at hl 0 rfl) ?_
  refine lv_bipush (v := (8 : Int32)) hx hb dJ6_bitCount_0f7a4_36 (by decide) ?_
  refine lv_iushr hx hb dJ6_bitCount_0f7a4_38 rfl ?_
  refine lv_iadd hx hb dJ6_bitCount_0f7a4_39 ?_
  refine lv_topi (fun v4 ev4 => ?_)
  have h := ltt_s ev4 h
  refine lv_istore_n (lv' := [(0, .int v4)]) hx hb dJ6_bitCount_0f7a4_40 rfl hl (by decide) rfl (fun ls hl => ?_)
  refine lv_iload_n hx hb dJ6_bitCount_0f7a4_41 rfl (lv_at hl 0 rfl) ?_
  refine lv_iload_n hx hb dJ6_bitCount_0f7a4_42 rfl (lv_at hl 0 rfl) ?_
  refine lv_bipush (v := (16 : Int32)) hx hb dJ6_bitCount_0f7a4_43 (by decide) ?_
  refine lv_iushr hx hb dJ6_bitCount_0f7a4_45 rfl ?_
  refine lv_iadd hx hb dJ6_bitCount_0f7a4_46 ?_
  refine lv_topi (fun v5 ev5 => ?_)
  have h := ltt_s ev5 h
  refine lv_istore_n (lv' := [(0, .int v5)]) hx hb dJ6_bitCount_0f7a4_47 rfl hl (by decide) rfl (fun ls hl => ?_)
  refine lv_iload_n hx hb dJ6_bitCount_0f7a4_48 rfl (lv_at hl 0 rfl) ?_
  refine lv_bipush (v := (63 : Int32)) hx hb dJ6_bitCount_0f7a4_49 (by decide) ?_
  refine lv_iand hx hb dJ6_bitCount_0f7a4_51 ?_
  have h := Option.some.inj h
  subst hQ
  subst hAe
  exact r_i hx hb hr hlocks h hP hD hS dJ6_bitCount_0f7a4_52
def f_X3_bestSet_J116 (V0 : Nat → Nat → Int32) (p0 : Int32) (ko16 : Int32 → Int32 → Int32 → Int32 → Int32 → Int32 → Option (Int32)) (x2 : Int32) (x3 : Int32) (x4 : Int32) (x5 : Int32) (x6 : Int32) (x7 : Int32) : Option (Int32) := ltt (x7 + (1 : Int32)) (fun v1 => ko16 x2 x3 x4 x5 x6 v1)
def f_X3_bestSet_J106 (V0 : Nat → Nat → Int32) (p0 : Int32) (ko16 : Int32 → Int32 → Int32 → Int32 → Int32 → Int32 → Option (Int32)) (x5 : Int32) (x6 : Int32) (x7 : Int32) : Option (Int32) := f_X3_bestSet_J116 V0 p0 ko16 x7 x5 x6 x5 x6 x7
def f_X3_bestSet_L16 (V0 : Nat → Nat → Int32) (p0 : Int32)  : Nat → Int32 → Int32 → Int32 → Int32 → Int32 → Int32 → Option (Int32)
  | 0, _, _, _, _, _, _ => none
  | n + 1, x2, x3, x4, x5, x6, x7 => if ((1 : Int32) <<< ((V0 5 0) &&& 31)) ≤ x7 then (some x2) else (b1 (f_J6_bitCount_0f7a4 ((x7 &&& (-x7)) - (1 : Int32))) (fun r3 => gd (inb r3 14) (gd (inb r3 14) (ltt ((x5 + ((V0 0 (Int32.toNatClampNeg r3)) - (V0 2 (Int32.toNatClampNeg r3))))) (fun v6 => gd (inb r3 14) (gd (inb r3 14) (ltt ((x6 + ((V0 1 (Int32.toNatClampNeg r3)) - (V0 3 (Int32.toNatClampNeg r3))))) (fun v9 => if p0 < v6 then (f_X3_bestSet_J116 V0 p0 (f_X3_bestSet_L16 V0 p0 n) x2 x3 x4 v6 v9 x7) else (if x4 < v9 then (f_X3_bestSet_J106 V0 p0 (f_X3_bestSet_L16 V0 p0 n) v6 v9 x7) else (if v9 = x4 then (if x3 ≤ v6 then (f_X3_bestSet_J116 V0 p0 (f_X3_bestSet_L16 V0 p0 n) x2 x3 x4 v6 v9 x7) else (f_X3_bestSet_J106 V0 p0 (f_X3_bestSet_L16 V0 p0 n) v6 v9 x7)) else (f_X3_bestSet_J116 V0 p0 (f_X3_bestSet_L16 V0 p0 n) x2 x3 x4 v6 v9 x7)))))))))))
def f_X3_bestSet (V0 : Nat → Nat → Int32) (p0 : Int32) : Option (Int32) := f_X3_bestSet_L16 V0 p0 16400 (0 : Int32) (0 : Int32) (0 : Int32) (0 : Int32) (0 : Int32) (1 : Int32)
abbrev rm_X3_bestSet : Room := { frames := 1, cells := 0, slots := 0, locals := 20 }
set_option maxHeartbeats 4000000 in
set_option maxRecDepth 100000 in
theorem c_X3_bestSet (l : Launch) (D : va_G) (a : Nat → Nat) (k : Nat → ClassId) (sz : Nat) (V0 : Nat → Nat → Int32) (p0 : Int32) (r : Int32) (h : f_X3_bestSet V0 p0 = some r) : Met l yX3_bestSet wsX3_bestSet rm_X3_bestSet (mPc D [.ref (a 20), .int p0] (xV a k V0) (tV k) sz) (mQi D (xV a k V0) (xV a k V0) sz r) 0 0 (va_A (xV a k V0) sz) := by
  refine mk_met (cc := cX3_bestSet) (maxL := 9) (ret := (some .int)) (by decide) rfl (Nat.le_of_ble_eq_true rfl) ?_
  intro p e s m below meth c hx hb hr hml hts hown hmn hlocks hnw hsz hK hP hD hS hA ls hl
  obtain ⟨A, hAe⟩ : ∃ A, A = va_A (xV a k V0) sz := ⟨_, rfl⟩
  rw [← hAe] at hD hS hA
  generalize hargs : List.toArray ([.ref (a 20), .int p0] : List Value) = args at hts ⊢
  generalize hQ : MQ below (mQi D (xV a k V0) (xV a k V0) sz r) args s 0 0 (va_A (xV a k V0) sz) = Q
  have hl : lv_has ls 9 [(0, .ref (a 20)), (1, .int p0)] := hl
  have hin3 : ∀ w ∈ wsX30, w ∈ wsX3_bestSet := fun w h => List.mem_cons_of_mem _ (List.mem_append_right _ h)
  have lb116 : ∀ (ko16 : Int32 → Int32 → Int32 → Int32 → Int32 → Int32 → Option (Int32)), (∀ (x2 : Int32) (x3 : Int32) (x4 : Int32) (x5 : Int32) (x6 : Int32) (x7 : Int32), ∀ (H : Heap) (locs : List Loc), va_P D vwCl (xV a k V0) H → va_D A (xV a k V0) → va_S A s.heap H locs → ∀ ls : Array Slot, lv_has ls 9 [(0, .ref (a 20)), (1, .int p0), (2, .int x2), (3, .int x3), (4, .int x4), (5, .int x5), (6, .int x6), (7, .int x7)] → ko16 x2 x3 x4 x5 x6 x7 = some r → W p l e rm_X3_bestSet s m args below meth c H locs 0 0 Q (F0 m 16 ls [])) → ∀ (x2 : Int32) (x3 : Int32) (x4 : Int32) (x5 : Int32) (x6 : Int32) (x7 : Int32), ∀ (H : Heap) (locs : List Loc), va_P D vwCl (xV a k V0) H → va_D A (xV a k V0) → va_S A s.heap H locs → ∀ ls : Array Slot, lv_has ls 9 [(0, .ref (a 20)), (1, .int p0), (2, .int x2), (3, .int x3), (4, .int x4), (5, .int x5), (6, .int x6), (7, .int x7)] → f_X3_bestSet_J116 V0 p0 ko16 x2 x3 x4 x5 x6 x7 = some r → W p l e rm_X3_bestSet s m args below meth c H locs 0 0 Q (F0 m 116 ls []) := by
    intro ko16 hko16 x2 x3 x4 x5 x6 x7 H locs hP hD hS ls hl h
    rw [f_X3_bestSet_J116] at h
    obtain ⟨v1, ev1⟩ : ∃ y : Int32, y = x7 + (1 : Int32) := ⟨_, rfl⟩
    have h := ltt_s ev1 h
    refine lv_iinc (v := v1) (lv' := [(7, .int v1), (0, .ref (a 20)), (1, .int p0), (2, .int x2), (3, .int x3), (4, .int x4), (5, .int x5), (6, .int x6)]) hx hb dX3_bestSet_116 hl (k := 7) rfl (by rw [ev1]; rfl) (by decide) rfl (fun ls hl => ?_)
    refine lv_goto (tgt := 16) hx hb dX3_bestSet_119 (by decide) ?_
    exact hko16 x2 x3 x4 x5 x6 v1 H locs hP hD hS ls (lv_sub hl [1, 2, 3, 4, 5, 6, 7, 0] rfl) h
  have lb106 : ∀ (ko16 : Int32 → Int32 → Int32 → Int32 → Int32 → Int32 → Option (Int32)), (∀ (x2 : Int32) (x3 : Int32) (x4 : Int32) (x5 : Int32) (x6 : Int32) (x7 : Int32), ∀ (H : Heap) (locs : List Loc), va_P D vwCl (xV a k V0) H → va_D A (xV a k V0) → va_S A s.heap H locs → ∀ ls : Array Slot, lv_has ls 9 [(0, .ref (a 20)), (1, .int p0), (2, .int x2), (3, .int x3), (4, .int x4), (5, .int x5), (6, .int x6), (7, .int x7)] → ko16 x2 x3 x4 x5 x6 x7 = some r → W p l e rm_X3_bestSet s m args below meth c H locs 0 0 Q (F0 m 16 ls [])) → ∀ (x5 : Int32) (x6 : Int32) (x7 : Int32), ∀ (H : Heap) (locs : List Loc), va_P D vwCl (xV a k V0) H → va_D A (xV a k V0) → va_S A s.heap H locs → ∀ ls : Array Slot, lv_has ls 9 [(0, .ref (a 20)), (1, .int p0), (5, .int x5), (6, .int x6), (7, .int x7)] → f_X3_bestSet_J106 V0 p0 ko16 x5 x6 x7 = some r → W p l e rm_X3_bestSet s m args below meth c H locs 0 0 Q (F0 m 106 ls []) := by
    intro ko16 hko16 x5 x6 x7 H locs hP hD hS ls hl h
    rw [f_X3_bestSet_J106] at h
    refine lv_iload hx hb dX3_bestSet_106 (lv_at hl 4 rfl) ?_
    refine lv_istore_n (lv' := [(2, .int x7), (0, .ref (a 20)), (1, .int p0), (5, .int x5), (6, .int x6), (7, .int x7)]) hx hb dX3_bestSet_108 rfl hl (by decide) rfl (fun ls hl => ?_)
    refine lv_iload hx hb dX3_bestSet_109 (lv_at hl 3 rfl) ?_
    refine lv_istore_n (lv' := [(3, .int x5), (2, .int x7), (0, .ref (a 20)), (1, .int p0), (5, .int x5), (6, .int x6), (7, .int x7)]) hx hb dX3_bestSet_111 rfl hl (by decide) rfl (fun ls hl => ?_)
    refine lv_iload hx hb dX3_bestSet_112 (lv_at hl 5 rfl) ?_
    refine lv_istore (lv' := [(4, .int x6), (3, .int x5), (2, .int x7), (0, .ref (a 20)), (1, .int p0), (5, .int x5), (6, .int x6), (7, .int x7)]) hx hb dX3_bestSet_114 hl (by decide) rfl (fun ls hl => ?_)
    exact lb116 ko16 hko16 x7 x5 x6 x5 x6 x7 H locs hP hD hS ls (lv_sub hl [3, 4, 2, 1, 0, 5, 6, 7] rfl) h
  have lb16 : ∀ (n : Nat), ∀ (x2 : Int32) (x3 : Int32) (x4 : Int32) (x5 : Int32) (x6 : Int32) (x7 : Int32), ∀ (H : Heap) (locs : List Loc), va_P D vwCl (xV a k V0) H → va_D A (xV a k V0) → va_S A s.heap H locs → ∀ ls : Array Slot, lv_has ls 9 [(0, .ref (a 20)), (1, .int p0), (2, .int x2), (3, .int x3), (4, .int x4), (5, .int x5), (6, .int x6), (7, .int x7)] → f_X3_bestSet_L16 V0 p0 n x2 x3 x4 x5 x6 x7 = some r → W p l e rm_X3_bestSet s m args below meth c H locs 0 0 Q (F0 m 16 ls []) := by
    intro n
    induction n with
    | zero =>
      intro x2 x3 x4 x5 x6 x7 H locs hP hD hS ls hl h
      rw [f_X3_bestSet_L16] at h
      cases h
    | succ n ih =>
      intro x2 x3 x4 x5 x6 x7 H locs hP hD hS ls hl h
      rw [f_X3_bestSet_L16] at h
      refine lv_iload hx hb dX3_bestSet_16 (lv_at hl 7 rfl) ?_
      refine lv_iconst (v := (1 : Int32)) hx hb dX3_bestSet_18 (by decide) ?_
      refine lv_aload_n hx hb dX3_bestSet_19 rfl (lv_at hl 0 rfl) ?_
      refine va_get (D := D) (ci := 3) (v := .int (V0 5 0)) (C := RX3) (T := TX3) (N := 6) hx hb hts hin3 hown hK hP 0 rfl rfl 5 (by decide) (hts (.fieldLink RX3 27 "BallastLine$Works" "size" "I") (List.mem_of_getElem? (i := 1) rfl)) (fun _ h9 => h9) rfl dX3_bestSet_20 ?_
      refine lv_ishl hx hb dX3_bestSet_23 ?_
      refine lv_icmp_ge (tgt := 122) hx hb dX3_bestSet_24 (by decide) (fun c2 => ?_) (fun c2 => ?_)
      · have h := it_t c2 h
        refine lv_iload_n hx hb dX3_bestSet_122 rfl (lv_at hl 2 rfl) ?_
        have h := Option.some.inj h
        subst hQ
        subst hAe
        exact r_i hx hb hr hlocks h hP hD hS dX3_bestSet_123
      · have h := it_f c2 h
        refine lv_iload hx hb dX3_bestSet_27 (lv_at hl 7 rfl) ?_
        refine lv_iload hx hb dX3_bestSet_29 (lv_at hl 7 rfl) ?_
        refine lv_ineg hx hb dX3_bestSet_31 ?_
        refine lv_iand hx hb dX3_bestSet_32 ?_
        refine lv_iconst (v := (1 : Int32)) hx hb dX3_bestSet_33 (by decide) ?_
        refine lv_isub hx hb dX3_bestSet_34 ?_
        obtain ⟨r3, q3, h⟩ := b1_s h
        refine go_i (run_S (As := [.int ((x7 &&& (-x7)) - (1 : Int32))]) (rest := []) ⟨hx, hb, hml, hown, hts⟩ hnw hK hP hD (fr_V_E a k V0) (ks_V_E k) (c_J6_bitCount_0f7a4 l D H.size ((x7 &&& (-x7)) - (1 : Int32)) r3 q3) (va_cwS 1 hts gX3_bestSet_J6_bitCount_0f7a4 rfl rfl rfl (by decide +kernel) ⟨Nat.le_of_ble_eq_true rfl, Nat.le_of_ble_eq_true rfl⟩) rfl hl.1 rfl (Nat.le_of_ble_eq_true rfl) dX3_bestSet_35 ⟨Nat.zero_le _, Nat.zero_le _⟩) hP hD hS hA (fr_V_E a k V0) (fun H locs hP hD hS => ?_)
        refine lv_istore (lv' := [(8, .int r3), (0, .ref (a 20)), (1, .int p0), (2, .int x2), (3, .int x3), (4, .int x4), (5, .int x5), (6, .int x6), (7, .int x7)]) hx hb dX3_bestSet_38 hl (by decide) rfl (fun ls hl => ?_)
        refine lv_iload hx hb dX3_bestSet_40 (lv_at hl 6 rfl) ?_
        refine lv_aload_n hx hb dX3_bestSet_42 rfl (lv_at hl 1 rfl) ?_
        refine va_get (D := D) (ci := 3) (v := .ref (a 21)) (C := RX3) (T := TX3) (N := 6) hx hb hts hin3 hown hK hP 0 rfl rfl 0 (by decide) (hts (.fieldLink RX3 9 "BallastLine$Works" "costs" "[I") (List.mem_of_getElem? (i := 2) rfl)) (fun _ h9 => h9) rfl dX3_bestSet_43 ?_
        refine lv_iload hx hb dX3_bestSet_46 (lv_at hl 0 rfl) ?_
        obtain ⟨g4, h⟩ := gd_s h
        refine va_iald hx hb hK hP 1 0 rfl rfl (inb_in g4) dX3_bestSet_48 ?_
        refine lv_aload_n hx hb dX3_bestSet_49 rfl (lv_at hl 1 rfl) ?_
        refine va_get (D := D) (ci := 3) (v := .ref (a 23)) (C := RX3) (T := TX3) (N := 6) hx hb hts hin3 hown hK hP 0 rfl rfl 2 (by decide) (hts (.fieldLink RX3 18 "BallastLine$Works" "costsBelow" "[I") (List.mem_of_getElem? (i := 3) rfl)) (fun _ h9 => h9) rfl dX3_bestSet_50 ?_
        refine lv_iload hx hb dX3_bestSet_53 (lv_at hl 0 rfl) ?_
        obtain ⟨g5, h⟩ := gd_s h
        refine va_iald hx hb hK hP 3 2 rfl rfl (inb_in g5) dX3_bestSet_55 ?_
        refine lv_isub hx hb dX3_bestSet_56 ?_
        refine lv_iadd hx hb dX3_bestSet_57 ?_
        refine lv_topi (fun v6 ev6 => ?_)
        have h := ltt_s ev6 h
        refine lv_istore (lv' := [(5, .int v6), (8, .int r3), (0, .ref (a 20)), (1, .int p0), (2, .int x2), (3, .int x3), (4, .int x4), (6, .int x6), (7, .int x7)]) hx hb dX3_bestSet_58 hl (by decide) rfl (fun ls hl => ?_)
        refine lv_iload hx hb dX3_bestSet_60 (lv_at hl 7 rfl) ?_
        refine lv_aload_n hx hb dX3_bestSet_62 rfl (lv_at hl 2 rfl) ?_
        refine va_get (D := D) (ci := 3) (v := .ref (a 22)) (C := RX3) (T := TX3) (N := 6) hx hb hts hin3 hown hK hP 0 rfl rfl 1 (by decide) (hts (.fieldLink RX3 15 "BallastLine$Works" "gains" "[I") (List.mem_of_getElem? (i := 4) rfl)) (fun _ h9 => h9) rfl dX3_bestSet_63 ?_
        refine lv_iload hx hb dX3_bestSet_66 (lv_at hl 1 rfl) ?_
        obtain ⟨g7, h⟩ := gd_s h
        refine va_iald hx hb hK hP 2 1 rfl rfl (inb_in g7) dX3_bestSet_68 ?_
        refine lv_aload_n hx hb dX3_bestSet_69 rfl (lv_at hl 2 rfl) ?_
        refine va_get (D := D) (ci := 3) (v := .ref (a 24)) (C := RX3) (T := TX3) (N := 6) hx hb hts hin3 hown hK hP 0 rfl rfl 3 (by decide) (hts (.fieldLink RX3 21 "BallastLine$Works" "gainsBelow" "[I") (List.mem_of_getElem? (i := 5) rfl)) (fun _ h9 => h9) rfl dX3_bestSet_70 ?_
        refine lv_iload hx hb dX3_bestSet_73 (lv_at hl 1 rfl) ?_
        obtain ⟨g8, h⟩ := gd_s h
        refine va_iald hx hb hK hP 4 3 rfl rfl (inb_in g8) dX3_bestSet_75 ?_
        refine lv_isub hx hb dX3_bestSet_76 ?_
        refine lv_iadd hx hb dX3_bestSet_77 ?_
        refine lv_topi (fun v9 ev9 => ?_)
        have h := ltt_s ev9 h
        refine lv_istore (lv' := [(6, .int v9), (5, .int v6), (8, .int r3), (0, .ref (a 20)), (1, .int p0), (2, .int x2), (3, .int x3), (4, .int x4), (7, .int x7)]) hx hb dX3_bestSet_78 hl (by decide) rfl (fun ls hl => ?_)
        refine lv_iload hx hb dX3_bestSet_80 (lv_at hl 1 rfl) ?_
        refine lv_iload_n hx hb dX3_bestSet_82 rfl (lv_at hl 4 rfl) ?_
        refine lv_icmp_gt (tgt := 116) hx hb dX3_bestSet_83 (by decide) (fun c10 => ?_) (fun c10 => ?_)
        · have h := it_t c10 h
          exact lb116 (f_X3_bestSet_L16 V0 p0 n) ih x2 x3 x4 v6 v9 x7 H locs hP hD hS ls (lv_sub hl [3, 4, 5, 6, 7, 1, 0, 8] rfl) h
        · have h := it_f c10 h
          refine lv_iload hx hb dX3_bestSet_86 (lv_at hl 0 rfl) ?_
          refine lv_iload hx hb dX3_bestSet_88 (lv_at hl 7 rfl) ?_
          refine lv_icmp_gt (tgt := 106) hx hb dX3_bestSet_90 (by decide) (fun c11 => ?_) (fun c11 => ?_)
          · have h := it_t c11 h
            exact lb106 (f_X3_bestSet_L16 V0 p0 n) ih v6 v9 x7 H locs hP hD hS ls (lv_sub hl [3, 4, 1, 0, 8] rfl) h
          · have h := it_f c11 h
            refine lv_iload hx hb dX3_bestSet_93 (lv_at hl 0 rfl) ?_
            refine lv_iload hx hb dX3_bestSet_95 (lv_at hl 7 rfl) ?_
            refine lv_icmp_ne (tgt := 116) hx hb dX3_bestSet_97 (by decide) (fun c12 => ?_) (fun c12 => ?_)
            · have h := it_f c12 h
              exact lb116 (f_X3_bestSet_L16 V0 p0 n) ih x2 x3 x4 v6 v9 x7 H locs hP hD hS ls (lv_sub hl [3, 4, 5, 6, 7, 1, 0, 8] rfl) h
            · have h := it_t c12 h
              refine lv_iload hx hb dX3_bestSet_100 (lv_at hl 1 rfl) ?_
              refine lv_iload_n hx hb dX3_bestSet_102 rfl (lv_at hl 6 rfl) ?_
              refine lv_icmp_ge (tgt := 116) hx hb dX3_bestSet_103 (by decide) (fun c13 => ?_) (fun c13 => ?_)
              · have h := it_t c13 h
                exact lb116 (f_X3_bestSet_L16 V0 p0 n) ih x2 x3 x4 v6 v9 x7 H locs hP hD hS ls (lv_sub hl [3, 4, 5, 6, 7, 1, 0, 8] rfl) h
              · have h := it_f c13 h
                exact lb106 (f_X3_bestSet_L16 V0 p0 n) ih v6 v9 x7 H locs hP hD hS ls (lv_sub hl [3, 4, 1, 0, 8] rfl) h
  rw [f_X3_bestSet] at h
  obtain ⟨H, hH⟩ : ∃ H, H = s.heap := ⟨_, rfl⟩
  obtain ⟨locs, hlc⟩ : ∃ L : List Loc, L = [] := ⟨_, rfl⟩
  rw [← hH] at hP
  have hS : va_S A s.heap H locs := by rw [hH, hlc]; exact hS
  suffices hW9 : W p l e rm_X3_bestSet s m args below meth c H locs 0 0 Q (F0 m 0 ls []) by rw [hH, hlc] at hW9; exact hW9
  refine lv_iconst (v := (0 : Int32)) hx hb dX3_bestSet_0 (by decide) ?_
  refine lv_istore_n (lv' := [(2, .int (0 : Int32)), (0, .ref (a 20)), (1, .int p0)]) hx hb dX3_bestSet_1 rfl hl (by decide) rfl (fun ls hl => ?_)
  refine lv_iconst (v := (0 : Int32)) hx hb dX3_bestSet_2 (by decide) ?_
  refine lv_istore_n (lv' := [(3, .int (0 : Int32)), (2, .int (0 : Int32)), (0, .ref (a 20)), (1, .int p0)]) hx hb dX3_bestSet_3 rfl hl (by decide) rfl (fun ls hl => ?_)
  refine lv_iconst (v := (0 : Int32)) hx hb dX3_bestSet_4 (by decide) ?_
  refine lv_istore (lv' := [(4, .int (0 : Int32)), (3, .int (0 : Int32)), (2, .int (0 : Int32)), (0, .ref (a 20)), (1, .int p0)]) hx hb dX3_bestSet_5 hl (by decide) rfl (fun ls hl => ?_)
  refine lv_iconst (v := (0 : Int32)) hx hb dX3_bestSet_7 (by decide) ?_
  refine lv_istore (lv' := [(5, .int (0 : Int32)), (4, .int (0 : Int32)), (3, .int (0 : Int32)), (2, .int (0 : Int32)), (0, .ref (a 20)), (1, .int p0)]) hx hb dX3_bestSet_8 hl (by decide) rfl (fun ls hl => ?_)
  refine lv_iconst (v := (0 : Int32)) hx hb dX3_bestSet_10 (by decide) ?_
  refine lv_istore (lv' := [(6, .int (0 : Int32)), (5, .int (0 : Int32)), (4, .int (0 : Int32)), (3, .int (0 : Int32)), (2, .int (0 : Int32)), (0, .ref (a 20)), (1, .int p0)]) hx hb dX3_bestSet_11 hl (by decide) rfl (fun ls hl => ?_)
  refine lv_iconst (v := (1 : Int32)) hx hb dX3_bestSet_13 (by decide) ?_
  refine lv_istore (lv' := [(7, .int (1 : Int32)), (6, .int (0 : Int32)), (5, .int (0 : Int32)), (4, .int (0 : Int32)), (3, .int (0 : Int32)), (2, .int (0 : Int32)), (0, .ref (a 20)), (1, .int p0)]) hx hb dX3_bestSet_14 hl (by decide) rfl (fun ls hl => ?_)
  exact lb16 16400 (0 : Int32) (0 : Int32) (0 : Int32) (0 : Int32) (0 : Int32) (1 : Int32) H locs hP hD hS ls (lv_sub hl [6, 7, 5, 4, 3, 2, 1, 0] rfl) h
def f_X3_worstFirst_J53 (V0 : Nat → Nat → Int32) (p0 : Int32) (ko7 : Int32 → Int32 → Int32 → Option (Int32)) (x2 : Int32) (x3 : Int32) (x4 : Int32) : Option (Int32) := ltt (x4 + (1 : Int32)) (fun v1 => ko7 x2 x3 v1)
def f_X3_worstFirst_L7 (V0 : Nat → Nat → Int32) (p0 : Int32)  : Nat → Int32 → Int32 → Int32 → Option (Int32)
  | 0, _, _, _ => none
  | n + 1, x2, x3, x4 => if (V0 5 0) ≤ x4 then (some x2) else (gd (inb x4 14) (ltt ((V0 4 (Int32.toNatClampNeg x4))) (fun v4 => gd (inb v4 14) (if x3 < (V0 0 (Int32.toNatClampNeg v4)) then (f_X3_worstFirst_J53 V0 p0 (f_X3_worstFirst_L7 V0 p0 n) x2 x3 x4) else (gd (inb v4 14) (ltt ((x3 - (V0 0 (Int32.toNatClampNeg v4)))) (fun v8 => ltt ((x2 ||| ((1 : Int32) <<< (v4 &&& 31)))) (fun v9 => f_X3_worstFirst_J53 V0 p0 (f_X3_worstFirst_L7 V0 p0 n) v9 v8 x4))))))))
def f_X3_worstFirst (V0 : Nat → Nat → Int32) (p0 : Int32) : Option (Int32) := f_X3_worstFirst_L7 V0 p0 64 (0 : Int32) p0 (0 : Int32)
abbrev rm_X3_worstFirst : Room := { frames := 0, cells := 0, slots := 0, locals := 0 }
set_option maxHeartbeats 4000000 in
set_option maxRecDepth 100000 in
theorem c_X3_worstFirst (l : Launch) (D : va_G) (a : Nat → Nat) (k : Nat → ClassId) (sz : Nat) (V0 : Nat → Nat → Int32) (p0 : Int32) (r : Int32) (h : f_X3_worstFirst V0 p0 = some r) : Met l yX3_worstFirst wsX3_worstFirst rm_X3_worstFirst (mPc D [.ref (a 20), .int p0] (xV a k V0) (tV k) sz) (mQi D (xV a k V0) (xV a k V0) sz r) 0 0 (va_A (xV a k V0) sz) := by
  refine mk_met (cc := cX3_worstFirst) (maxL := 6) (ret := (some .int)) (by decide) rfl (Nat.le_of_ble_eq_true rfl) ?_
  intro p e s m below meth c hx hb hr hml hts hown hmn hlocks hnw hsz hK hP hD hS hA ls hl
  obtain ⟨A, hAe⟩ : ∃ A, A = va_A (xV a k V0) sz := ⟨_, rfl⟩
  rw [← hAe] at hD hS hA
  generalize hargs : List.toArray ([.ref (a 20), .int p0] : List Value) = args at hts ⊢
  generalize hQ : MQ below (mQi D (xV a k V0) (xV a k V0) sz r) args s 0 0 (va_A (xV a k V0) sz) = Q
  have hl : lv_has ls 6 [(0, .ref (a 20)), (1, .int p0)] := hl
  have hin3 : ∀ w ∈ wsX30, w ∈ wsX3_worstFirst := fun w h => List.mem_cons_of_mem _ (List.mem_append_right _ h)
  have lb53 : ∀ (ko7 : Int32 → Int32 → Int32 → Option (Int32)), (∀ (x2 : Int32) (x3 : Int32) (x4 : Int32), ∀ (H : Heap) (locs : List Loc), va_P D vwCl (xV a k V0) H → va_D A (xV a k V0) → va_S A s.heap H locs → ∀ ls : Array Slot, lv_has ls 6 [(0, .ref (a 20)), (2, .int x2), (3, .int x3), (4, .int x4)] → ko7 x2 x3 x4 = some r → W p l e rm_X3_worstFirst s m args below meth c H locs 0 0 Q (F0 m 7 ls [])) → ∀ (x2 : Int32) (x3 : Int32) (x4 : Int32), ∀ (H : Heap) (locs : List Loc), va_P D vwCl (xV a k V0) H → va_D A (xV a k V0) → va_S A s.heap H locs → ∀ ls : Array Slot, lv_has ls 6 [(0, .ref (a 20)), (2, .int x2), (3, .int x3), (4, .int x4)] → f_X3_worstFirst_J53 V0 p0 ko7 x2 x3 x4 = some r → W p l e rm_X3_worstFirst s m args below meth c H locs 0 0 Q (F0 m 53 ls []) := by
    intro ko7 hko7 x2 x3 x4 H locs hP hD hS ls hl h
    rw [f_X3_worstFirst_J53] at h
    obtain ⟨v1, ev1⟩ : ∃ y : Int32, y = x4 + (1 : Int32) := ⟨_, rfl⟩
    have h := ltt_s ev1 h
    refine lv_iinc (v := v1) (lv' := [(4, .int v1), (0, .ref (a 20)), (2, .int x2), (3, .int x3)]) hx hb dX3_worstFirst_53 hl (k := 3) rfl (by rw [ev1]; rfl) (by decide) rfl (fun ls hl => ?_)
    refine lv_goto (tgt := 7) hx hb dX3_worstFirst_56 (by decide) ?_
    exact hko7 x2 x3 v1 H locs hP hD hS ls (lv_sub hl [1, 2, 3, 0] rfl) h
  have lb7 : ∀ (n : Nat), ∀ (x2 : Int32) (x3 : Int32) (x4 : Int32), ∀ (H : Heap) (locs : List Loc), va_P D vwCl (xV a k V0) H → va_D A (xV a k V0) → va_S A s.heap H locs → ∀ ls : Array Slot, lv_has ls 6 [(0, .ref (a 20)), (2, .int x2), (3, .int x3), (4, .int x4)] → f_X3_worstFirst_L7 V0 p0 n x2 x3 x4 = some r → W p l e rm_X3_worstFirst s m args below meth c H locs 0 0 Q (F0 m 7 ls []) := by
    intro n
    induction n with
    | zero =>
      intro x2 x3 x4 H locs hP hD hS ls hl h
      rw [f_X3_worstFirst_L7] at h
      cases h
    | succ n ih =>
      intro x2 x3 x4 H locs hP hD hS ls hl h
      rw [f_X3_worstFirst_L7] at h
      refine lv_iload hx hb dX3_worstFirst_7 (lv_at hl 3 rfl) ?_
      refine lv_aload_n hx hb dX3_worstFirst_9 rfl (lv_at hl 0 rfl) ?_
      refine va_get (D := D) (ci := 3) (v := .int (V0 5 0)) (C := RX3) (T := TX3) (N := 6) hx hb hts hin3 hown hK hP 0 rfl rfl 5 (by decide) (hts (.fieldLink RX3 27 "BallastLine$Works" "size" "I") (List.mem_of_getElem? (i := 1) rfl)) (fun _ h9 => h9) rfl dX3_worstFirst_10 ?_
      refine lv_icmp_ge (tgt := 59) hx hb dX3_worstFirst_13 (by decide) (fun c2 => ?_) (fun c2 => ?_)
      · have h := it_t c2 h
        refine lv_iload_n hx hb dX3_worstFirst_59 rfl (lv_at hl 1 rfl) ?_
        have h := Option.some.inj h
        subst hQ
        subst hAe
        exact r_i hx hb hr hlocks h hP hD hS dX3_worstFirst_60
      · have h := it_f c2 h
        refine lv_aload_n hx hb dX3_worstFirst_16 rfl (lv_at hl 0 rfl) ?_
        refine va_get (D := D) (ci := 3) (v := .ref (a 25)) (C := RX3) (T := TX3) (N := 6) hx hb hts hin3 hown hK hP 0 rfl rfl 4 (by decide) (hts (.fieldLink RX3 24 "BallastLine$Works" "order" "[I") (List.mem_of_getElem? (i := 2) rfl)) (fun _ h9 => h9) rfl dX3_worstFirst_17 ?_
        refine lv_iload hx hb dX3_worstFirst_20 (lv_at hl 3 rfl) ?_
        obtain ⟨g3, h⟩ := gd_s h
        refine va_iald hx hb hK hP 5 4 rfl rfl (inb_in g3) dX3_worstFirst_22 ?_
        refine lv_topi (fun v4 ev4 => ?_)
        have h := ltt_s ev4 h
        refine lv_istore (lv' := [(5, .int v4), (0, .ref (a 20)), (2, .int x2), (3, .int x3), (4, .int x4)]) hx hb dX3_worstFirst_23 hl (by decide) rfl (fun ls hl => ?_)
        refine lv_aload_n hx hb dX3_worstFirst_25 rfl (lv_at hl 1 rfl) ?_
        refine va_get (D := D) (ci := 3) (v := .ref (a 21)) (C := RX3) (T := TX3) (N := 6) hx hb hts hin3 hown hK hP 0 rfl rfl 0 (by decide) (hts (.fieldLink RX3 9 "BallastLine$Works" "costs" "[I") (List.mem_of_getElem? (i := 3) rfl)) (fun _ h9 => h9) rfl dX3_worstFirst_26 ?_
        refine lv_iload hx hb dX3_worstFirst_29 (lv_at hl 0 rfl) ?_
        obtain ⟨g5, h⟩ := gd_s h
        refine va_iald hx hb hK hP 1 0 rfl rfl (inb_in g5) dX3_worstFirst_31 ?_
        refine lv_iload_n hx hb dX3_worstFirst_32 rfl (lv_at hl 3 rfl) ?_
        refine lv_icmp_gt (tgt := 53) hx hb dX3_worstFirst_33 (by decide) (fun c6 => ?_) (fun c6 => ?_)
        · have h := it_t c6 h
          exact lb53 (f_X3_worstFirst_L7 V0 p0 n) ih x2 x3 x4 H locs hP hD hS ls (lv_sub hl [1, 2, 3, 4] rfl) h
        · have h := it_f c6 h
          refine lv_iload_n hx hb dX3_worstFirst_36 rfl (lv_at hl 3 rfl) ?_
          refine lv_aload_n hx hb dX3_worstFirst_37 rfl (lv_at hl 1 rfl) ?_
          refine va_get (D := D) (ci := 3) (v := .ref (a 21)) (C := RX3) (T := TX3) (N := 6) hx hb hts hin3 hown hK hP 0 rfl rfl 0 (by decide) (hts (.fieldLink RX3 9 "BallastLine$Works" "costs" "[I") (List.mem_of_getElem? (i := 3) rfl)) (fun _ h9 => h9) rfl dX3_worstFirst_38 ?_
          refine lv_iload hx hb dX3_worstFirst_41 (lv_at hl 0 rfl) ?_
          obtain ⟨g7, h⟩ := gd_s h
          refine va_iald hx hb hK hP 1 0 rfl rfl (inb_in g7) dX3_worstFirst_43 ?_
          refine lv_isub hx hb dX3_worstFirst_44 ?_
          refine lv_topi (fun v8 ev8 => ?_)
          have h := ltt_s ev8 h
          refine lv_istore_n (lv' := [(3, .int v8), (5, .int v4), (0, .ref (a 20)), (2, .int x2), (4, .int x4)]) hx hb dX3_worstFirst_45 rfl hl (by decide) rfl (fun ls hl => ?_)
          refine lv_iload_n hx hb dX3_worstFirst_46 rfl (lv_at hl 3 rfl) ?_
          refine lv_iconst (v := (1 : Int32)) hx hb dX3_worstFirst_47 (by decide) ?_
          refine lv_iload hx hb dX3_worstFirst_48 (lv_at hl 1 rfl) ?_
          refine lv_ishl hx hb dX3_worstFirst_50 ?_
          refine lv_ior hx hb dX3_worstFirst_51 ?_
          refine lv_topi (fun v9 ev9 => ?_)
          have h := ltt_s ev9 h
          refine lv_istore_n (lv' := [(2, .int v9), (3, .int v8), (5, .int v4), (0, .ref (a 20)), (4, .int x4)]) hx hb dX3_worstFirst_52 rfl hl (by decide) rfl (fun ls hl => ?_)
          exact lb53 (f_X3_worstFirst_L7 V0 p0 n) ih v9 v8 x4 H locs hP hD hS ls (lv_sub hl [3, 0, 1, 4] rfl) h
  rw [f_X3_worstFirst] at h
  obtain ⟨H, hH⟩ : ∃ H, H = s.heap := ⟨_, rfl⟩
  obtain ⟨locs, hlc⟩ : ∃ L : List Loc, L = [] := ⟨_, rfl⟩
  rw [← hH] at hP
  have hS : va_S A s.heap H locs := by rw [hH, hlc]; exact hS
  suffices hW9 : W p l e rm_X3_worstFirst s m args below meth c H locs 0 0 Q (F0 m 0 ls []) by rw [hH, hlc] at hW9; exact hW9
  refine lv_iconst (v := (0 : Int32)) hx hb dX3_worstFirst_0 (by decide) ?_
  refine lv_istore_n (lv' := [(2, .int (0 : Int32)), (0, .ref (a 20)), (1, .int p0)]) hx hb dX3_worstFirst_1 rfl hl (by decide) rfl (fun ls hl => ?_)
  refine lv_iload_n hx hb dX3_worstFirst_2 rfl (lv_at hl 2 rfl) ?_
  refine lv_istore_n (lv' := [(3, .int p0), (2, .int (0 : Int32)), (0, .ref (a 20)), (1, .int p0)]) hx hb dX3_worstFirst_3 rfl hl (by decide) rfl (fun ls hl => ?_)
  refine lv_iconst (v := (0 : Int32)) hx hb dX3_worstFirst_4 (by decide) ?_
  refine lv_istore (lv' := [(4, .int (0 : Int32)), (3, .int p0), (2, .int (0 : Int32)), (0, .ref (a 20)), (1, .int p0)]) hx hb dX3_worstFirst_5 hl (by decide) rfl (fun ls hl => ?_)
  exact lb7 64 (0 : Int32) p0 (0 : Int32) H locs hP hD hS ls (lv_sub hl [3, 2, 1, 0] rfl) h
def f_X3_gainOf_J30 (V0 : Nat → Nat → Int32) (p0 : Int32) (ko4 : Int32 → Int32 → Option (Int32)) (x2 : Int32) (x3 : Int32) : Option (Int32) := ltt (x3 + (1 : Int32)) (fun v1 => ko4 x2 v1)
def f_X3_gainOf_L4 (V0 : Nat → Nat → Int32) (p0 : Int32)  : Nat → Int32 → Int32 → Option (Int32)
  | 0, _, _ => none
  | n + 1, x2, x3 => if (V0 5 0) ≤ x3 then (some x2) else (if ((p0 >>> (x3 &&& 31)) &&& (1 : Int32)) = (1 : Int32) then (gd (inb x3 14) (ltt ((x2 + (V0 1 (Int32.toNatClampNeg x3)))) (fun v5 => f_X3_gainOf_J30 V0 p0 (f_X3_gainOf_L4 V0 p0 n) v5 x3))) else (f_X3_gainOf_J30 V0 p0 (f_X3_gainOf_L4 V0 p0 n) x2 x3))
def f_X3_gainOf (V0 : Nat → Nat → Int32) (p0 : Int32) : Option (Int32) := f_X3_gainOf_L4 V0 p0 64 (0 : Int32) (0 : Int32)
abbrev rm_X3_gainOf : Room := { frames := 0, cells := 0, slots := 0, locals := 0 }
set_option maxHeartbeats 4000000 in
set_option maxRecDepth 100000 in
theorem c_X3_gainOf (l : Launch) (D : va_G) (a : Nat → Nat) (k : Nat → ClassId) (sz : Nat) (V0 : Nat → Nat → Int32) (p0 : Int32) (r : Int32) (h : f_X3_gainOf V0 p0 = some r) : Met l yX3_gainOf wsX3_gainOf rm_X3_gainOf (mPc D [.ref (a 20), .int p0] (xV a k V0) (tV k) sz) (mQi D (xV a k V0) (xV a k V0) sz r) 0 0 (va_A (xV a k V0) sz) := by
  refine mk_met (cc := cX3_gainOf) (maxL := 4) (ret := (some .int)) (by decide) rfl (Nat.le_of_ble_eq_true rfl) ?_
  intro p e s m below meth c hx hb hr hml hts hown hmn hlocks hnw hsz hK hP hD hS hA ls hl
  obtain ⟨A, hAe⟩ : ∃ A, A = va_A (xV a k V0) sz := ⟨_, rfl⟩
  rw [← hAe] at hD hS hA
  generalize hargs : List.toArray ([.ref (a 20), .int p0] : List Value) = args at hts ⊢
  generalize hQ : MQ below (mQi D (xV a k V0) (xV a k V0) sz r) args s 0 0 (va_A (xV a k V0) sz) = Q
  have hl : lv_has ls 4 [(0, .ref (a 20)), (1, .int p0)] := hl
  have hin3 : ∀ w ∈ wsX30, w ∈ wsX3_gainOf := fun w h => List.mem_cons_of_mem _ (List.mem_append_right _ h)
  have lb30 : ∀ (ko4 : Int32 → Int32 → Option (Int32)), (∀ (x2 : Int32) (x3 : Int32), ∀ (H : Heap) (locs : List Loc), va_P D vwCl (xV a k V0) H → va_D A (xV a k V0) → va_S A s.heap H locs → ∀ ls : Array Slot, lv_has ls 4 [(0, .ref (a 20)), (1, .int p0), (2, .int x2), (3, .int x3)] → ko4 x2 x3 = some r → W p l e rm_X3_gainOf s m args below meth c H locs 0 0 Q (F0 m 4 ls [])) → ∀ (x2 : Int32) (x3 : Int32), ∀ (H : Heap) (locs : List Loc), va_P D vwCl (xV a k V0) H → va_D A (xV a k V0) → va_S A s.heap H locs → ∀ ls : Array Slot, lv_has ls 4 [(0, .ref (a 20)), (1, .int p0), (2, .int x2), (3, .int x3)] → f_X3_gainOf_J30 V0 p0 ko4 x2 x3 = some r → W p l e rm_X3_gainOf s m args below meth c H locs 0 0 Q (F0 m 30 ls []) := by
    intro ko4 hko4 x2 x3 H locs hP hD hS ls hl h
    rw [f_X3_gainOf_J30] at h
    obtain ⟨v1, ev1⟩ : ∃ y : Int32, y = x3 + (1 : Int32) := ⟨_, rfl⟩
    have h := ltt_s ev1 h
    refine lv_iinc (v := v1) (lv' := [(3, .int v1), (0, .ref (a 20)), (1, .int p0), (2, .int x2)]) hx hb dX3_gainOf_30 hl (k := 3) rfl (by rw [ev1]; rfl) (by decide) rfl (fun ls hl => ?_)
    refine lv_goto (tgt := 4) hx hb dX3_gainOf_33 (by decide) ?_
    exact hko4 x2 v1 H locs hP hD hS ls (lv_sub hl [1, 2, 3, 0] rfl) h
  have lb4 : ∀ (n : Nat), ∀ (x2 : Int32) (x3 : Int32), ∀ (H : Heap) (locs : List Loc), va_P D vwCl (xV a k V0) H → va_D A (xV a k V0) → va_S A s.heap H locs → ∀ ls : Array Slot, lv_has ls 4 [(0, .ref (a 20)), (1, .int p0), (2, .int x2), (3, .int x3)] → f_X3_gainOf_L4 V0 p0 n x2 x3 = some r → W p l e rm_X3_gainOf s m args below meth c H locs 0 0 Q (F0 m 4 ls []) := by
    intro n
    induction n with
    | zero =>
      intro x2 x3 H locs hP hD hS ls hl h
      rw [f_X3_gainOf_L4] at h
      cases h
    | succ n ih =>
      intro x2 x3 H locs hP hD hS ls hl h
      rw [f_X3_gainOf_L4] at h
      refine lv_iload_n hx hb dX3_gainOf_4 rfl (lv_at hl 3 rfl) ?_
      refine lv_aload_n hx hb dX3_gainOf_5 rfl (lv_at hl 0 rfl) ?_
      refine va_get (D := D) (ci := 3) (v := .int (V0 5 0)) (C := RX3) (T := TX3) (N := 6) hx hb hts hin3 hown hK hP 0 rfl rfl 5 (by decide) (hts (.fieldLink RX3 27 "BallastLine$Works" "size" "I") (List.mem_of_getElem? (i := 1) rfl)) (fun _ h9 => h9) rfl dX3_gainOf_6 ?_
      refine lv_icmp_ge (tgt := 36) hx hb dX3_gainOf_9 (by decide) (fun c2 => ?_) (fun c2 => ?_)
      · have h := it_t c2 h
        refine lv_iload_n hx hb dX3_gainOf_36 rfl (lv_at hl 2 rfl) ?_
        have h := Option.some.inj h
        subst hQ
        subst hAe
        exact r_i hx hb hr hlocks h hP hD hS dX3_gainOf_37
      · have h := it_f c2 h
        refine lv_iload_n hx hb dX3_gainOf_12 rfl (lv_at hl 1 rfl) ?_
        refine lv_iload_n hx hb dX3_gainOf_13 rfl (lv_at hl 3 rfl) ?_
        refine lv_ishr hx hb dX3_gainOf_14 ?_
        refine lv_iconst (v := (1 : Int32)) hx hb dX3_gainOf_15 (by decide) ?_
        refine lv_iand hx hb dX3_gainOf_16 ?_
        refine lv_iconst (v := (1 : Int32)) hx hb dX3_gainOf_17 (by decide) ?_
        refine lv_icmp_ne (tgt := 30) hx hb dX3_gainOf_18 (by decide) (fun c3 => ?_) (fun c3 => ?_)
        · have h := it_f c3 h
          exact lb30 (f_X3_gainOf_L4 V0 p0 n) ih x2 x3 H locs hP hD hS ls (lv_sub hl [0, 1, 2, 3] rfl) h
        · have h := it_t c3 h
          refine lv_iload_n hx hb dX3_gainOf_21 rfl (lv_at hl 2 rfl) ?_
          refine lv_aload_n hx hb dX3_gainOf_22 rfl (lv_at hl 0 rfl) ?_
          refine va_get (D := D) (ci := 3) (v := .ref (a 22)) (C := RX3) (T := TX3) (N := 6) hx hb hts hin3 hown hK hP 0 rfl rfl 1 (by decide) (hts (.fieldLink RX3 15 "BallastLine$Works" "gains" "[I") (List.mem_of_getElem? (i := 2) rfl)) (fun _ h9 => h9) rfl dX3_gainOf_23 ?_
          refine lv_iload_n hx hb dX3_gainOf_26 rfl (lv_at hl 3 rfl) ?_
          obtain ⟨g4, h⟩ := gd_s h
          refine va_iald hx hb hK hP 2 1 rfl rfl (inb_in g4) dX3_gainOf_27 ?_
          refine lv_iadd hx hb dX3_gainOf_28 ?_
          refine lv_topi (fun v5 ev5 => ?_)
          have h := ltt_s ev5 h
          refine lv_istore_n (lv' := [(2, .int v5), (0, .ref (a 20)), (1, .int p0), (3, .int x3)]) hx hb dX3_gainOf_29 rfl hl (by decide) rfl (fun ls hl => ?_)
          exact lb30 (f_X3_gainOf_L4 V0 p0 n) ih v5 x3 H locs hP hD hS ls (lv_sub hl [1, 2, 0, 3] rfl) h
  rw [f_X3_gainOf] at h
  obtain ⟨H, hH⟩ : ∃ H, H = s.heap := ⟨_, rfl⟩
  obtain ⟨locs, hlc⟩ : ∃ L : List Loc, L = [] := ⟨_, rfl⟩
  rw [← hH] at hP
  have hS : va_S A s.heap H locs := by rw [hH, hlc]; exact hS
  suffices hW9 : W p l e rm_X3_gainOf s m args below meth c H locs 0 0 Q (F0 m 0 ls []) by rw [hH, hlc] at hW9; exact hW9
  refine lv_iconst (v := (0 : Int32)) hx hb dX3_gainOf_0 (by decide) ?_
  refine lv_istore_n (lv' := [(2, .int (0 : Int32)), (0, .ref (a 20)), (1, .int p0)]) hx hb dX3_gainOf_1 rfl hl (by decide) rfl (fun ls hl => ?_)
  refine lv_iconst (v := (0 : Int32)) hx hb dX3_gainOf_2 (by decide) ?_
  refine lv_istore_n (lv' := [(3, .int (0 : Int32)), (2, .int (0 : Int32)), (0, .ref (a 20)), (1, .int p0)]) hx hb dX3_gainOf_3 rfl hl (by decide) rfl (fun ls hl => ?_)
  exact lb4 64 (0 : Int32) (0 : Int32) H locs hP hD hS ls (lv_sub hl [2, 3, 1, 0] rfl) h
