def f_X5_isStretch  (p0 : Int32) : Option (Int32) := b1 (f_X5_in p0 (0 : Int32) (3 : Int32)) (fun r1 => gd (isb r1) (some r1))
abbrev rm_X5_isStretch : Room := { frames := 1, cells := 0, slots := 0, locals := 22 }
set_option maxHeartbeats 4000000 in
set_option maxRecDepth 100000 in
theorem c_X5_isStretch (l : Launch) (D : va_G) (sz : Nat)  (p0 : Int32) (r : Int32) (h : f_X5_isStretch p0 = some r) : Met l yX5_isStretch wsX5_isStretch rm_X5_isStretch (mPc D [.int p0] ([] : va_W) ([] : List (ClassId × FieldType)) sz) (mQi D ([] : va_W) ([] : va_W) sz r) 0 0 (va_A ([] : va_W) sz) := by
  refine mk_met (cc := cX5_isStretch) (maxL := 1) (ret := (some .boolean)) (by decide) rfl (Nat.le_of_ble_eq_true rfl) ?_
  intro p e s m below meth c hx hb hr hml hts hown hmn hlocks hnw hsz hK hP hD hS hA ls hl
  obtain ⟨A, hAe⟩ : ∃ A, A = va_A ([] : va_W) sz := ⟨_, rfl⟩
  rw [← hAe] at hD hS hA
  generalize hargs : List.toArray ([.int p0] : List Value) = args at hts ⊢
  generalize hQ : MQ below (mQi D ([] : va_W) ([] : va_W) sz r) args s 0 0 (va_A ([] : va_W) sz) = Q
  have hl : lv_has ls 1 [(0, .int p0)] := hl
  rw [f_X5_isStretch] at h
  obtain ⟨H, hH⟩ : ∃ H, H = s.heap := ⟨_, rfl⟩
  obtain ⟨locs, hlc⟩ : ∃ L : List Loc, L = [] := ⟨_, rfl⟩
  rw [← hH] at hP
  have hS : va_S A s.heap H locs := by rw [hH, hlc]; exact hS
  suffices hW9 : W p l e rm_X5_isStretch s m args below meth c H locs 0 0 Q (F0 m 0 ls []) by rw [hH, hlc] at hW9; exact hW9
  refine lv_iload_n hx hb dX5_isStretch_0 rfl (lv_at hl 0 rfl) ?_
  refine lv_iconst (v := (0 : Int32)) hx hb dX5_isStretch_1 (by decide) ?_
  refine lv_iconst (v := (3 : Int32)) hx hb dX5_isStretch_2 (by decide) ?_
  obtain ⟨r1, q1, h⟩ := b1_s h
  refine go_i (run_S (As := [.int p0, .int (0 : Int32), .int (3 : Int32)]) (rest := []) ⟨hx, hb, hml, hown, hts⟩ hnw hK hP hD (fr_E_E ) (ks_E_E) (c_X5_in l D H.size p0 (0 : Int32) (3 : Int32) r1 q1) (cwS 3 hts gX5_isStretch_X5_in rfl rfl rfl (by decide +kernel) ⟨Nat.le_of_ble_eq_true rfl, Nat.le_of_ble_eq_true rfl⟩) rfl hl.1 rfl (Nat.le_of_ble_eq_true rfl) dX5_isStretch_3 ⟨Nat.zero_le _, Nat.zero_le _⟩) hP hD hS hA (fr_E_E ) (fun H locs hP hD hS => ?_)
  obtain ⟨g2, h⟩ := gd_s h
  have h := Option.some.inj h
  subst hQ
  subst hAe
  exact r_z hx hb hr (isb_s g2) hlocks h hP hD hS dX5_isStretch_6
def f_X5_isWarmth  (p0 : Int32) : Option (Int32) := b1 (f_X5_in p0 (-400 : Int32) (600 : Int32)) (fun r1 => gd (isb r1) (some r1))
abbrev rm_X5_isWarmth : Room := { frames := 1, cells := 0, slots := 0, locals := 22 }
set_option maxHeartbeats 4000000 in
set_option maxRecDepth 100000 in
theorem c_X5_isWarmth (l : Launch) (D : va_G) (sz : Nat)  (p0 : Int32) (r : Int32) (h : f_X5_isWarmth p0 = some r) : Met l yX5_isWarmth wsX5_isWarmth rm_X5_isWarmth (mPc D [.int p0] ([] : va_W) ([] : List (ClassId × FieldType)) sz) (mQi D ([] : va_W) ([] : va_W) sz r) 0 0 (va_A ([] : va_W) sz) := by
  refine mk_met (cc := cX5_isWarmth) (maxL := 1) (ret := (some .boolean)) (by decide) rfl (Nat.le_of_ble_eq_true rfl) ?_
  intro p e s m below meth c hx hb hr hml hts hown hmn hlocks hnw hsz hK hP hD hS hA ls hl
  obtain ⟨A, hAe⟩ : ∃ A, A = va_A ([] : va_W) sz := ⟨_, rfl⟩
  rw [← hAe] at hD hS hA
  generalize hargs : List.toArray ([.int p0] : List Value) = args at hts ⊢
  generalize hQ : MQ below (mQi D ([] : va_W) ([] : va_W) sz r) args s 0 0 (va_A ([] : va_W) sz) = Q
  have hl : lv_has ls 1 [(0, .int p0)] := hl
  rw [f_X5_isWarmth] at h
  obtain ⟨H, hH⟩ : ∃ H, H = s.heap := ⟨_, rfl⟩
  obtain ⟨locs, hlc⟩ : ∃ L : List Loc, L = [] := ⟨_, rfl⟩
  rw [← hH] at hP
  have hS : va_S A s.heap H locs := by rw [hH, hlc]; exact hS
  suffices hW9 : W p l e rm_X5_isWarmth s m args below meth c H locs 0 0 Q (F0 m 0 ls []) by rw [hH, hlc] at hW9; exact hW9
  refine lv_iload_n hx hb dX5_isWarmth_0 rfl (lv_at hl 0 rfl) ?_
  refine lv_sipush (v := (-400 : Int32)) hx hb dX5_isWarmth_1 (by decide) ?_
  refine lv_sipush (v := (600 : Int32)) hx hb dX5_isWarmth_4 (by decide) ?_
  obtain ⟨r1, q1, h⟩ := b1_s h
  refine go_i (run_S (As := [.int p0, .int (-400 : Int32), .int (600 : Int32)]) (rest := []) ⟨hx, hb, hml, hown, hts⟩ hnw hK hP hD (fr_E_E ) (ks_E_E) (c_X5_in l D H.size p0 (-400 : Int32) (600 : Int32) r1 q1) (cwS 3 hts gX5_isWarmth_X5_in rfl rfl rfl (by decide +kernel) ⟨Nat.le_of_ble_eq_true rfl, Nat.le_of_ble_eq_true rfl⟩) rfl hl.1 rfl (Nat.le_of_ble_eq_true rfl) dX5_isWarmth_7 ⟨Nat.zero_le _, Nat.zero_le _⟩) hP hD hS hA (fr_E_E ) (fun H locs hP hD hS => ?_)
  obtain ⟨g2, h⟩ := gd_s h
  have h := Option.some.inj h
  subst hQ
  subst hAe
  exact r_z hx hb hr (isb_s g2) hlocks h hP hD hS dX5_isWarmth_10
def f_X5_pull (M0 : Nat → Nat → Int32) (p0 : Int32) (p1 : Int32) : Option (Int32 × (Nat → Nat → Int32)) := b1 (f_X5_isStretch p0) (fun r1 => if r1 = (0 : Int32) then (some ((-1 : Int32), M0)) else (b1 (f_X5_in p1 (-500 : Int32) (500 : Int32)) (fun r3 => if r3 = (0 : Int32) then (some ((-1 : Int32), M0)) else (gd (inb p0 4) (gd (inb p0 4) (ltt (st M0 10 (Int32.toNatClampNeg p0) ((M0 10 (Int32.toNatClampNeg p0)) + p1)) (fun (M_7 : Nat → Nat → Int32) => some ((1 : Int32), M_7))))))))
abbrev rm_X5_pull : Room := { frames := 2, cells := 0, slots := 0, locals := 42 }
set_option maxHeartbeats 4000000 in
set_option maxRecDepth 100000 in
theorem c_X5_pull (l : Launch) (D : va_G) (a : Nat → Nat) (k : Nat → ClassId) (sz : Nat) (M0 : Nat → Nat → Int32) (L0 : Int64) (p0 : Int32) (p1 : Int32) (r : Int32) (Mz : (Nat → Nat → Int32)) (h : f_X5_pull M0 p0 p1 = some (r, Mz)) : Met l yX5_pull wsX5_pull rm_X5_pull (mPc D [.ref (a 0), .int p0, .int p1] (xM a k M0 L0) (tM k) sz) (mQi D (xM a k M0 L0) (xM a k Mz L0) sz r) 0 0 (va_A (xM a k M0 L0) sz) := by
  refine mk_met (cc := cX5_pull) (maxL := 3) (ret := (some .int)) (by decide) rfl (Nat.le_of_ble_eq_true rfl) ?_
  intro p e s m below meth c hx hb hr hml hts hown hmn hlocks hnw hsz hK hP hD hS hA ls hl
  obtain ⟨A, hAe⟩ : ∃ A, A = va_A (xM a k M0 L0) sz := ⟨_, rfl⟩
  rw [← hAe] at hD hS hA
  generalize hargs : List.toArray ([.ref (a 0), .int p0, .int p1] : List Value) = args at hts ⊢
  generalize hQ : MQ below (mQi D (xM a k M0 L0) (xM a k Mz L0) sz r) args s 0 0 (va_A (xM a k M0 L0) sz) = Q
  have hl : lv_has ls 3 [(0, .ref (a 0)), (1, .int p0), (2, .int p1)] := hl
  have hin5 : ∀ w ∈ wsX50, w ∈ wsX5_pull := fun w h => List.mem_cons_of_mem _ (List.mem_append_right _ h)
  rw [f_X5_pull] at h
  obtain ⟨H, hH⟩ : ∃ H, H = s.heap := ⟨_, rfl⟩
  obtain ⟨locs, hlc⟩ : ∃ L : List Loc, L = [] := ⟨_, rfl⟩
  rw [← hH] at hP
  have hS : va_S A s.heap H locs := by rw [hH, hlc]; exact hS
  suffices hW9 : W p l e rm_X5_pull s m args below meth c H locs 0 0 Q (F0 m 0 ls []) by rw [hH, hlc] at hW9; exact hW9
  refine lv_iload_n hx hb dX5_pull_0 rfl (lv_at hl 1 rfl) ?_
  obtain ⟨r1, q1, h⟩ := b1_s h
  refine go_i (run_S (As := [.int p0]) (rest := []) ⟨hx, hb, hml, hown, hts⟩ hnw hK hP hD (fr_M_E a k M0 L0) (ks_M_E k) (c_X5_isStretch l D H.size p0 r1 q1) (cwS 1 hts gX5_pull_X5_isStretch rfl rfl rfl (by decide +kernel) ⟨Nat.le_of_ble_eq_true rfl, Nat.le_of_ble_eq_true rfl⟩) rfl hl.1 rfl (Nat.le_of_ble_eq_true rfl) dX5_pull_1 ⟨Nat.zero_le _, Nat.zero_le _⟩) hP hD hS hA (fr_M_E a k M0 L0) (fun H locs hP hD hS => ?_)
  refine lv_if_eq (tgt := 20) hx hb dX5_pull_4 (by decide) (fun c2 => ?_) (fun c2 => ?_)
  · have h := it_t c2 h
    refine lv_iconst (v := (-1 : Int32)) hx hb dX5_pull_20 (by decide) ?_
    have h := Option.some.inj h
    obtain ⟨hz0, h⟩ := Prod.mk.inj h
    have hP : va_P D vwCl (xM a k Mz L0) H := by rw [← h]; exact hP
    have hD : va_D A (xM a k Mz L0) := by rw [← h]; exact hD
    subst hQ
    subst hAe
    exact r_i hx hb hr hlocks hz0 hP hD hS dX5_pull_21
  · have h := it_f c2 h
    refine lv_iload_n hx hb dX5_pull_7 rfl (lv_at hl 2 rfl) ?_
    refine lv_sipush (v := (-500 : Int32)) hx hb dX5_pull_8 (by decide) ?_
    refine lv_sipush (v := (500 : Int32)) hx hb dX5_pull_11 (by decide) ?_
    obtain ⟨r3, q3, h⟩ := b1_s h
    refine go_i (run_S (As := [.int p1, .int (-500 : Int32), .int (500 : Int32)]) (rest := []) ⟨hx, hb, hml, hown, hts⟩ hnw hK hP hD (fr_M_E a k M0 L0) (ks_M_E k) (c_X5_in l D H.size p1 (-500 : Int32) (500 : Int32) r3 q3) (cwS 3 hts gX5_pull_X5_in rfl rfl rfl (by decide +kernel) ⟨Nat.le_of_ble_eq_true rfl, Nat.le_of_ble_eq_true rfl⟩) rfl hl.1 rfl (Nat.le_of_ble_eq_true rfl) dX5_pull_14 ⟨Nat.zero_le _, Nat.zero_le _⟩) hP hD hS hA (fr_M_E a k M0 L0) (fun H locs hP hD hS => ?_)
    refine lv_if_ne (tgt := 22) hx hb dX5_pull_17 (by decide) (fun c4 => ?_) (fun c4 => ?_)
    · have h := it_f c4 h
      refine lv_aload_n hx hb dX5_pull_22 rfl (lv_at hl 0 rfl) ?_
      refine va_get (D := D) (ci := 5) (v := .ref (a 8)) (C := RX5) (T := TX5) (N := 20) hx hb hts hin5 hown hK hP 0 rfl rfl 10 (by decide) (hts (.fieldLink RX5 32 "BallastLineModel" "free" "[I") (List.mem_of_getElem? (i := 1) rfl)) (fun _ h9 => h9) rfl dX5_pull_23 ?_
      refine lv_iload_n hx hb dX5_pull_26 rfl (lv_at hl 1 rfl) ?_
      refine lv_dup2_11 hx hb dX5_pull_27 rfl rfl ?_
      obtain ⟨g5, h⟩ := gd_s h
      refine va_iald hx hb hK hP 8 7 rfl rfl (inb_in g5) dX5_pull_28 ?_
      refine lv_iload_n hx hb dX5_pull_29 rfl (lv_at hl 2 rfl) ?_
      refine lv_iadd hx hb dX5_pull_30 ?_
      obtain ⟨g6, h⟩ := gd_s h
      refine va_iast hx hb hK hP hD hS 8 7 rfl rfl (inb_in g6) dX5_pull_31 (fun H locs hP hD hS => ?_)
      obtain ⟨M_7, eM_7⟩ : ∃ y : Nat → Nat → Int32, y = st M0 10 (Int32.toNatClampNeg p0) ((M0 10 (Int32.toNatClampNeg p0)) + p1) := ⟨_, rfl⟩
      have h := ltt_s eM_7 h
      have hP : va_P D vwCl (xM a k M_7 L0) H := by rw [eM_7]; exact hP
      have hD : va_D A (xM a k M_7 L0) := by rw [eM_7]; exact hD
      refine lv_iconst (v := (1 : Int32)) hx hb dX5_pull_32 (by decide) ?_
      have h := Option.some.inj h
      obtain ⟨hz0, h⟩ := Prod.mk.inj h
      have hP : va_P D vwCl (xM a k Mz L0) H := by rw [← h]; exact hP
      have hD : va_D A (xM a k Mz L0) := by rw [← h]; exact hD
      subst hQ
      subst hAe
      exact r_i hx hb hr hlocks hz0 hP hD hS dX5_pull_33
    · have h := it_t c4 h
      refine lv_iconst (v := (-1 : Int32)) hx hb dX5_pull_20 (by decide) ?_
      have h := Option.some.inj h
      obtain ⟨hz0, h⟩ := Prod.mk.inj h
      have hP : va_P D vwCl (xM a k Mz L0) H := by rw [← h]; exact hP
      have hD : va_D A (xM a k Mz L0) := by rw [← h]; exact hD
      subst hQ
      subst hAe
      exact r_i hx hb hr hlocks hz0 hP hD hS dX5_pull_21
def f_X5_cut (M0 : Nat → Nat → Int32) (L0 : Int64) (p0 : Int32) (p1 : Int32) : Option (Int32 × (Nat → Nat → Int32) × Int64) := b1 (f_X5_isStretch p0) (fun r1 => if r1 = (0 : Int32) then (some ((-1 : Int32), M0, L0)) else (b1 (f_X5_isWarmth p1) (fun r3 => if r3 = (0 : Int32) then (some ((-1 : Int32), M0, L0)) else (gd (inb p0 4) (ltt ((Int32.toInt64 (M0 10 (Int32.toNatClampNeg p0)))) (fun (L_6 : Int64) => gd (inb p0 4) (ltt (st M0 10 (Int32.toNatClampNeg p0) p1) (fun (M_8 : Nat → Nat → Int32) => some ((1 : Int32), M_8, L_6)))))))))
abbrev rm_X5_cut : Room := { frames := 2, cells := 0, slots := 0, locals := 42 }
set_option maxHeartbeats 4000000 in
set_option maxRecDepth 100000 in
theorem c_X5_cut (l : Launch) (D : va_G) (a : Nat → Nat) (k : Nat → ClassId) (sz : Nat) (M0 : Nat → Nat → Int32) (L0 : Int64) (p0 : Int32) (p1 : Int32) (r : Int32) (Mz : (Nat → Nat → Int32)) (Lz : Int64) (h : f_X5_cut M0 L0 p0 p1 = some (r, Mz, Lz)) : Met l yX5_cut wsX5_cut rm_X5_cut (mPc D [.ref (a 0), .int p0, .int p1] (xM a k M0 L0) (tM k) sz) (mQi D (xM a k M0 L0) (xM a k Mz Lz) sz r) 0 0 (va_A (xM a k M0 L0) sz) := by
  refine mk_met (cc := cX5_cut) (maxL := 3) (ret := (some .int)) (by decide) rfl (Nat.le_of_ble_eq_true rfl) ?_
  intro p e s m below meth c hx hb hr hml hts hown hmn hlocks hnw hsz hK hP hD hS hA ls hl
  obtain ⟨A, hAe⟩ : ∃ A, A = va_A (xM a k M0 L0) sz := ⟨_, rfl⟩
  rw [← hAe] at hD hS hA
  generalize hargs : List.toArray ([.ref (a 0), .int p0, .int p1] : List Value) = args at hts ⊢
  generalize hQ : MQ below (mQi D (xM a k M0 L0) (xM a k Mz Lz) sz r) args s 0 0 (va_A (xM a k M0 L0) sz) = Q
  have hl : lv_has ls 3 [(0, .ref (a 0)), (1, .int p0), (2, .int p1)] := hl
  have hin5 : ∀ w ∈ wsX50, w ∈ wsX5_cut := fun w h => List.mem_cons_of_mem _ (List.mem_append_right _ h)
  rw [f_X5_cut] at h
  obtain ⟨H, hH⟩ : ∃ H, H = s.heap := ⟨_, rfl⟩
  obtain ⟨locs, hlc⟩ : ∃ L : List Loc, L = [] := ⟨_, rfl⟩
  rw [← hH] at hP
  have hS : va_S A s.heap H locs := by rw [hH, hlc]; exact hS
  suffices hW9 : W p l e rm_X5_cut s m args below meth c H locs 0 0 Q (F0 m 0 ls []) by rw [hH, hlc] at hW9; exact hW9
  refine lv_iload_n hx hb dX5_cut_0 rfl (lv_at hl 1 rfl) ?_
  obtain ⟨r1, q1, h⟩ := b1_s h
  refine go_i (run_S (As := [.int p0]) (rest := []) ⟨hx, hb, hml, hown, hts⟩ hnw hK hP hD (fr_M_E a k M0 L0) (ks_M_E k) (c_X5_isStretch l D H.size p0 r1 q1) (cwS 1 hts gX5_cut_X5_isStretch rfl rfl rfl (by decide +kernel) ⟨Nat.le_of_ble_eq_true rfl, Nat.le_of_ble_eq_true rfl⟩) rfl hl.1 rfl (Nat.le_of_ble_eq_true rfl) dX5_cut_1 ⟨Nat.zero_le _, Nat.zero_le _⟩) hP hD hS hA (fr_M_E a k M0 L0) (fun H locs hP hD hS => ?_)
  refine lv_if_eq (tgt := 14) hx hb dX5_cut_4 (by decide) (fun c2 => ?_) (fun c2 => ?_)
  · have h := it_t c2 h
    refine lv_iconst (v := (-1 : Int32)) hx hb dX5_cut_14 (by decide) ?_
    have h := Option.some.inj h
    obtain ⟨hz0, h⟩ := Prod.mk.inj h
    obtain ⟨hz1, h⟩ := Prod.mk.inj h
    have hP : va_P D vwCl (xM a k Mz Lz) H := by rw [← hz1, ← h]; exact hP
    have hD : va_D A (xM a k Mz Lz) := by rw [← hz1, ← h]; exact hD
    subst hQ
    subst hAe
    exact r_i hx hb hr hlocks hz0 hP hD hS dX5_cut_15
  · have h := it_f c2 h
    refine lv_iload_n hx hb dX5_cut_7 rfl (lv_at hl 2 rfl) ?_
    obtain ⟨r3, q3, h⟩ := b1_s h
    refine go_i (run_S (As := [.int p1]) (rest := []) ⟨hx, hb, hml, hown, hts⟩ hnw hK hP hD (fr_M_E a k M0 L0) (ks_M_E k) (c_X5_isWarmth l D H.size p1 r3 q3) (cwS 1 hts gX5_cut_X5_isWarmth rfl rfl rfl (by decide +kernel) ⟨Nat.le_of_ble_eq_true rfl, Nat.le_of_ble_eq_true rfl⟩) rfl hl.1 rfl (Nat.le_of_ble_eq_true rfl) dX5_cut_8 ⟨Nat.zero_le _, Nat.zero_le _⟩) hP hD hS hA (fr_M_E a k M0 L0) (fun H locs hP hD hS => ?_)
    refine lv_if_ne (tgt := 16) hx hb dX5_cut_11 (by decide) (fun c4 => ?_) (fun c4 => ?_)
    · have h := it_f c4 h
      refine lv_aload_n hx hb dX5_cut_16 rfl (lv_at hl 0 rfl) ?_
      refine lv_aload_n hx hb dX5_cut_17 rfl (lv_at hl 0 rfl) ?_
      refine va_get (D := D) (ci := 5) (v := .ref (a 8)) (C := RX5) (T := TX5) (N := 20) hx hb hts hin5 hown hK hP 0 rfl rfl 10 (by decide) (hts (.fieldLink RX5 32 "BallastLineModel" "free" "[I") (List.mem_of_getElem? (i := 1) rfl)) (fun _ h9 => h9) rfl dX5_cut_18 ?_
      refine lv_iload_n hx hb dX5_cut_21 rfl (lv_at hl 1 rfl) ?_
      obtain ⟨g5, h⟩ := gd_s h
      refine va_iald hx hb hK hP 8 7 rfl rfl (inb_in g5) dX5_cut_22 ?_
      refine lv_i2l (v := (Int32.toInt64 (M0 10 (Int32.toNatClampNeg p0)))) hx hb dX5_cut_23 rfl ?_
      refine va_put (D := D) (ci := 5) (v := .long (Int32.toInt64 (M0 10 (Int32.toNatClampNeg p0)))) (ty := .long) (C := RX5) (T := TX5) (N := 20) hx hb hts hin5 tyX5 tyX5_ok nmX5 hown hK hP hD hS 0 rfl rfl 2 (by decide) (hts (.fieldLink RX5 64 "BallastLineModel" "asked" "J") (List.mem_of_getElem? (i := 2) rfl)) (fun _ h9 => h9) rfl (by decide +kernel) rfl rfl (Nat.le_of_ble_eq_true rfl) dX5_cut_24 (fun H locs hP hD hS => ?_)
      obtain ⟨L_6, eL_6⟩ : ∃ y : Int64, y = (Int32.toInt64 (M0 10 (Int32.toNatClampNeg p0))) := ⟨_, rfl⟩
      have h := ltt_s eL_6 h
      have hP : va_P D vwCl (xM a k M0 L_6) H := by rw [eL_6]; exact hP
      have hD : va_D A (xM a k M0 L_6) := by rw [eL_6]; exact hD
      refine lv_aload_n hx hb dX5_cut_27 rfl (lv_at hl 0 rfl) ?_
      refine va_get (D := D) (ci := 5) (v := .ref (a 8)) (C := RX5) (T := TX5) (N := 20) hx hb hts hin5 hown hK hP 0 rfl rfl 10 (by decide) (hts (.fieldLink RX5 32 "BallastLineModel" "free" "[I") (List.mem_of_getElem? (i := 1) rfl)) (fun _ h9 => h9) rfl dX5_cut_28 ?_
      refine lv_iload_n hx hb dX5_cut_31 rfl (lv_at hl 1 rfl) ?_
      refine lv_iload_n hx hb dX5_cut_32 rfl (lv_at hl 2 rfl) ?_
      obtain ⟨g7, h⟩ := gd_s h
      refine va_iast hx hb hK hP hD hS 8 7 rfl rfl (inb_in g7) dX5_cut_33 (fun H locs hP hD hS => ?_)
      obtain ⟨M_8, eM_8⟩ : ∃ y : Nat → Nat → Int32, y = st M0 10 (Int32.toNatClampNeg p0) p1 := ⟨_, rfl⟩
      have h := ltt_s eM_8 h
      have hP : va_P D vwCl (xM a k M_8 L_6) H := by rw [eM_8]; exact hP
      have hD : va_D A (xM a k M_8 L_6) := by rw [eM_8]; exact hD
      refine lv_iconst (v := (1 : Int32)) hx hb dX5_cut_34 (by decide) ?_
      have h := Option.some.inj h
      obtain ⟨hz0, h⟩ := Prod.mk.inj h
      obtain ⟨hz1, h⟩ := Prod.mk.inj h
      have hP : va_P D vwCl (xM a k Mz Lz) H := by rw [← hz1, ← h]; exact hP
      have hD : va_D A (xM a k Mz Lz) := by rw [← hz1, ← h]; exact hD
      subst hQ
      subst hAe
      exact r_i hx hb hr hlocks hz0 hP hD hS dX5_cut_35
    · have h := it_t c4 h
      refine lv_iconst (v := (-1 : Int32)) hx hb dX5_cut_14 (by decide) ?_
      have h := Option.some.inj h
      obtain ⟨hz0, h⟩ := Prod.mk.inj h
      obtain ⟨hz1, h⟩ := Prod.mk.inj h
      have hP : va_P D vwCl (xM a k Mz Lz) H := by rw [← hz1, ← h]; exact hP
      have hD : va_D A (xM a k Mz Lz) := by rw [← hz1, ← h]; exact hD
      subst hQ
      subst hAe
      exact r_i hx hb hr hlocks hz0 hP hD hS dX5_cut_15
def f_X5_pressOf (M0 : Nat → Nat → Int32) (p0 : Int32) (p1 : Int32) : Option (Int64) := gd (inb p0 4) (some ((24 : Int64) * (Int32.toInt64 (p1 - (M0 10 (Int32.toNatClampNeg p0))))))
abbrev rm_X5_pressOf : Room := { frames := 0, cells := 0, slots := 0, locals := 0 }
set_option maxHeartbeats 4000000 in
set_option maxRecDepth 100000 in
theorem c_X5_pressOf (l : Launch) (D : va_G) (a : Nat → Nat) (k : Nat → ClassId) (sz : Nat) (M0 : Nat → Nat → Int32) (L0 : Int64) (p0 : Int32) (p1 : Int32) (r : Int64) (h : f_X5_pressOf M0 p0 p1 = some r) : Met l yX5_pressOf wsX5_pressOf rm_X5_pressOf (mPc D [.ref (a 0), .int p0, .int p1] (xM a k M0 L0) (tM k) sz) (mQl D (xM a k M0 L0) (xM a k M0 L0) sz r) 0 0 (va_A (xM a k M0 L0) sz) := by
  refine mk_met (cc := cX5_pressOf) (maxL := 3) (ret := (some .long)) (by decide) rfl (Nat.le_of_ble_eq_true rfl) ?_
  intro p e s m below meth c hx hb hr hml hts hown hmn hlocks hnw hsz hK hP hD hS hA ls hl
  obtain ⟨A, hAe⟩ : ∃ A, A = va_A (xM a k M0 L0) sz := ⟨_, rfl⟩
  rw [← hAe] at hD hS hA
  generalize hargs : List.toArray ([.ref (a 0), .int p0, .int p1] : List Value) = args at hts ⊢
  generalize hQ : MQ below (mQl D (xM a k M0 L0) (xM a k M0 L0) sz r) args s 0 0 (va_A (xM a k M0 L0) sz) = Q
  have hl : lv_has ls 3 [(0, .ref (a 0)), (1, .int p0), (2, .int p1)] := hl
  have hin5 : ∀ w ∈ wsX50, w ∈ wsX5_pressOf := fun w h => List.mem_cons_of_mem _ (List.mem_append_right _ h)
  rw [f_X5_pressOf] at h
  obtain ⟨H, hH⟩ : ∃ H, H = s.heap := ⟨_, rfl⟩
  obtain ⟨locs, hlc⟩ : ∃ L : List Loc, L = [] := ⟨_, rfl⟩
  rw [← hH] at hP
  have hS : va_S A s.heap H locs := by rw [hH, hlc]; exact hS
  suffices hW9 : W p l e rm_X5_pressOf s m args below meth c H locs 0 0 Q (F0 m 0 ls []) by rw [hH, hlc] at hW9; exact hW9
  refine lv_ldc2 (v := (24 : Int64)) hx hb hown (hts (.constantLong RX5 136 (24)) (List.mem_of_getElem? (i := 1) rfl)) dX5_pressOf_0 ?_
  refine lv_iload_n hx hb dX5_pressOf_3 rfl (lv_at hl 2 rfl) ?_
  refine lv_aload_n hx hb dX5_pressOf_4 rfl (lv_at hl 0 rfl) ?_
  refine va_get (D := D) (ci := 5) (v := .ref (a 8)) (C := RX5) (T := TX5) (N := 20) hx hb hts hin5 hown hK hP 0 rfl rfl 10 (by decide) (hts (.fieldLink RX5 32 "BallastLineModel" "free" "[I") (List.mem_of_getElem? (i := 2) rfl)) (fun _ h9 => h9) rfl dX5_pressOf_5 ?_
  refine lv_iload_n hx hb dX5_pressOf_8 rfl (lv_at hl 1 rfl) ?_
  obtain ⟨g1, h⟩ := gd_s h
  refine va_iald hx hb hK hP 8 7 rfl rfl (inb_in g1) dX5_pressOf_9 ?_
  refine lv_isub hx hb dX5_pressOf_10 ?_
  refine lv_i2l (v := (Int32.toInt64 (p1 - (M0 10 (Int32.toNatClampNeg p0))))) hx hb dX5_pressOf_11 rfl ?_
  refine lv_lmul hx hb dX5_pressOf_12 ?_
  have h := Option.some.inj h
  subst hQ
  subst hAe
  exact r_l hx hb hr hlocks h hP hD hS dX5_pressOf_13
def f_X5_press (M0 : Nat → Nat → Int32) (L0 : Int64) (p0 : Int32) (p1 : Int32) : Option (Int32 × Int64) := b1 (f_X5_isStretch p0) (fun r1 => if r1 = (0 : Int32) then (some ((-1 : Int32), L0)) else (b1 (f_X5_isWarmth p1) (fun r3 => if r3 = (0 : Int32) then (some ((-1 : Int32), L0)) else (b1 (f_X5_pressOf M0 p0 p1) (fun r5 => b2 (f_X5_tell L0 r5 (1 : Int32)) (fun r6 (L_6 : Int64) => some (r6, L_6)))))))
abbrev rm_X5_press : Room := { frames := 2, cells := 0, slots := 0, locals := 42 }
set_option maxHeartbeats 4000000 in
set_option maxRecDepth 100000 in
theorem c_X5_press (l : Launch) (D : va_G) (a : Nat → Nat) (k : Nat → ClassId) (sz : Nat) (M0 : Nat → Nat → Int32) (L0 : Int64) (p0 : Int32) (p1 : Int32) (r : Int32) (Lz : Int64) (h : f_X5_press M0 L0 p0 p1 = some (r, Lz)) : Met l yX5_press wsX5_press rm_X5_press (mPc D [.ref (a 0), .int p0, .int p1] (xM a k M0 L0) (tM k) sz) (mQi D (xM a k M0 L0) (xM a k M0 Lz) sz r) 0 0 (va_A (xM a k M0 L0) sz) := by
  refine mk_met (cc := cX5_press) (maxL := 3) (ret := (some .int)) (by decide) rfl (Nat.le_of_ble_eq_true rfl) ?_
  intro p e s m below meth c hx hb hr hml hts hown hmn hlocks hnw hsz hK hP hD hS hA ls hl
  obtain ⟨A, hAe⟩ : ∃ A, A = va_A (xM a k M0 L0) sz := ⟨_, rfl⟩
  rw [← hAe] at hD hS hA
  generalize hargs : List.toArray ([.ref (a 0), .int p0, .int p1] : List Value) = args at hts ⊢
  generalize hQ : MQ below (mQi D (xM a k M0 L0) (xM a k M0 Lz) sz r) args s 0 0 (va_A (xM a k M0 L0) sz) = Q
  have hl : lv_has ls 3 [(0, .ref (a 0)), (1, .int p0), (2, .int p1)] := hl
  rw [f_X5_press] at h
  obtain ⟨H, hH⟩ : ∃ H, H = s.heap := ⟨_, rfl⟩
  obtain ⟨locs, hlc⟩ : ∃ L : List Loc, L = [] := ⟨_, rfl⟩
  rw [← hH] at hP
  have hS : va_S A s.heap H locs := by rw [hH, hlc]; exact hS
  suffices hW9 : W p l e rm_X5_press s m args below meth c H locs 0 0 Q (F0 m 0 ls []) by rw [hH, hlc] at hW9; exact hW9
  refine lv_iload_n hx hb dX5_press_0 rfl (lv_at hl 1 rfl) ?_
  obtain ⟨r1, q1, h⟩ := b1_s h
  refine go_i (run_S (As := [.int p0]) (rest := []) ⟨hx, hb, hml, hown, hts⟩ hnw hK hP hD (fr_M_E a k M0 L0) (ks_M_E k) (c_X5_isStretch l D H.size p0 r1 q1) (cwS 1 hts gX5_press_X5_isStretch rfl rfl rfl (by decide +kernel) ⟨Nat.le_of_ble_eq_true rfl, Nat.le_of_ble_eq_true rfl⟩) rfl hl.1 rfl (Nat.le_of_ble_eq_true rfl) dX5_press_1 ⟨Nat.zero_le _, Nat.zero_le _⟩) hP hD hS hA (fr_M_E a k M0 L0) (fun H locs hP hD hS => ?_)
  refine lv_if_eq (tgt := 28) hx hb dX5_press_4 (by decide) (fun c2 => ?_) (fun c2 => ?_)
  · have h := it_t c2 h
    refine lv_iconst (v := (-1 : Int32)) hx hb dX5_press_28 (by decide) ?_
    have h := Option.some.inj h
    obtain ⟨hz0, h⟩ := Prod.mk.inj h
    have hP : va_P D vwCl (xM a k M0 Lz) H := by rw [← h]; exact hP
    have hD : va_D A (xM a k M0 Lz) := by rw [← h]; exact hD
    subst hQ
    subst hAe
    exact r_i hx hb hr hlocks hz0 hP hD hS dX5_press_29
  · have h := it_f c2 h
    refine lv_iload_n hx hb dX5_press_7 rfl (lv_at hl 2 rfl) ?_
    obtain ⟨r3, q3, h⟩ := b1_s h
    refine go_i (run_S (As := [.int p1]) (rest := []) ⟨hx, hb, hml, hown, hts⟩ hnw hK hP hD (fr_M_E a k M0 L0) (ks_M_E k) (c_X5_isWarmth l D H.size p1 r3 q3) (cwS 1 hts gX5_press_X5_isWarmth rfl rfl rfl (by decide +kernel) ⟨Nat.le_of_ble_eq_true rfl, Nat.le_of_ble_eq_true rfl⟩) rfl hl.1 rfl (Nat.le_of_ble_eq_true rfl) dX5_press_8 ⟨Nat.zero_le _, Nat.zero_le _⟩) hP hD hS hA (fr_M_E a k M0 L0) (fun H locs hP hD hS => ?_)
    refine lv_if_eq (tgt := 28) hx hb dX5_press_11 (by decide) (fun c4 => ?_) (fun c4 => ?_)
    · have h := it_t c4 h
      refine lv_iconst (v := (-1 : Int32)) hx hb dX5_press_28 (by decide) ?_
      have h := Option.some.inj h
      obtain ⟨hz0, h⟩ := Prod.mk.inj h
      have hP : va_P D vwCl (xM a k M0 Lz) H := by rw [← h]; exact hP
      have hD : va_D A (xM a k M0 Lz) := by rw [← h]; exact hD
      subst hQ
      subst hAe
      exact r_i hx hb hr hlocks hz0 hP hD hS dX5_press_29
    · have h := it_f c4 h
      refine lv_aload_n hx hb dX5_press_14 rfl (lv_at hl 0 rfl) ?_
      refine lv_aload_n hx hb dX5_press_15 rfl (lv_at hl 0 rfl) ?_
      refine lv_iload_n hx hb dX5_press_16 rfl (lv_at hl 1 rfl) ?_
      refine lv_iload_n hx hb dX5_press_17 rfl (lv_at hl 2 rfl) ?_
      obtain ⟨r5, q5, h⟩ := b1_s h
      refine go_l (run_V (As := [.int p0, .int p1]) (rest := [.ref (a 0)]) ⟨hx, hb, hml, hown, hts⟩ hnw hK hP hD (fr_M_M a k M0 L0 M0 L0) (ks_M_M k) (c_X5_pressOf l D a k H.size M0 L0 p0 p1 r5 q5) (cwV 2 hts gX5_press_X5_pressOf rfl rfl rfl (by decide +kernel) ⟨Nat.le_of_ble_eq_true rfl, Nat.le_of_ble_eq_true rfl⟩) (rcv_M a k M0 L0) rfl hl.1 rfl (Nat.le_of_ble_eq_true rfl) dX5_press_18 ⟨Nat.zero_le _, Nat.zero_le _⟩) hP hD hS hA (fr_M_M a k M0 L0 M0 L0) (fun H locs hP hD hS => ?_)
      refine lv_iconst (v := (1 : Int32)) hx hb dX5_press_21 (by decide) ?_
      obtain ⟨r6, L_6, q6, h⟩ := b2_s h
      refine go_i (run_V (As := [.long r5, .int (1 : Int32)]) (rest := []) ⟨hx, hb, hml, hown, hts⟩ hnw hK hP hD (fr_M_M a k M0 L0 M0 L_6) (ks_M_M k) (c_X5_tell l D a k H.size M0 L0 r5 (1 : Int32) r6 L_6 q6) (cwV 2 hts gX5_press_X5_tell rfl rfl rfl (by decide +kernel) ⟨Nat.le_of_ble_eq_true rfl, Nat.le_of_ble_eq_true rfl⟩) (rcv_M a k M0 L0) rfl hl.1 rfl (Nat.le_of_ble_eq_true rfl) dX5_press_22 ⟨Nat.zero_le _, Nat.zero_le _⟩) hP hD hS hA (fr_M_M a k M0 L0 M0 L_6) (fun H locs hP hD hS => ?_)
      refine lv_goto (tgt := 29) hx hb dX5_press_25 (by decide) ?_
      have h := Option.some.inj h
      obtain ⟨hz0, h⟩ := Prod.mk.inj h
      have hP : va_P D vwCl (xM a k M0 Lz) H := by rw [← h]; exact hP
      have hD : va_D A (xM a k M0 Lz) := by rw [← h]; exact hD
      subst hQ
      subst hAe
      exact r_i hx hb hr hlocks hz0 hP hD hS dX5_press_29
def f_X5_margin_J151  (p0 : Int32) (p1 : Int32) (ko56 : Int32 → Int32 → Int32 → Int64 → Int32 → (Nat → Nat → Int32) → Int64 → Option (Int32 × (Nat → Nat → Int32) × Int64)) (x4 : Int32) (x5 : Int32) (x6 : Int32) (x9 : Int32) (s0 : Int64) (M : Nat → Nat → Int32) (L : Int64) : Option (Int32 × (Nat → Nat → Int32) × Int64) := ltt (x9 + (1 : Int32)) (fun v1 => ko56 x4 x5 x6 s0 v1 M L)
def f_X5_margin_J134  (p0 : Int32) (p1 : Int32) (ko56 : Int32 → Int32 → Int32 → Int64 → Int32 → (Nat → Nat → Int32) → Int64 → Option (Int32 × (Nat → Nat → Int32) × Int64)) (x4 : Int32) (x5 : Int32) (x6 : Int32) (x7 : Int64) (x9 : Int32) (s0 : Int64) (M : Nat → Nat → Int32) (L : Int64) : Option (Int32 × (Nat → Nat → Int32) × Int64) := if (lg_cmp s0 x7) ≤ (0 : Int32) then (f_X5_margin_J151 p0 p1 ko56 x4 x5 x6 x9 x7 M L) else (f_X5_margin_J151 p0 p1 ko56 x4 x5 x6 x9 s0 M L)
def f_X5_margin_J106  (p0 : Int32) (p1 : Int32) (ko56 : Int32 → Int32 → Int32 → Int64 → Int32 → (Nat → Nat → Int32) → Int64 → Option (Int32 × (Nat → Nat → Int32) × Int64)) (x4 : Int32) (x5 : Int32) (x7 : Int64) (x9 : Int32) (s0 : Int32) (s1 : Int32) (M : Nat → Nat → Int32) (L : Int64) : Option (Int32 × (Nat → Nat → Int32) × Int64) := ltt ((s1 + s0)) (fun v3 => b1 (f_X5_chordAt M x9 (1 : Int32)) (fun r4 => ltt ((Int32.toInt64 r4)) (fun v5 => if (0 : Int32) ≤ (lg_cmp v5 (0 : Int64)) then (f_X5_margin_J134 p0 p1 ko56 x4 x5 v3 x7 x9 v5 M L) else (f_X5_margin_J134 p0 p1 ko56 x4 x5 v3 x7 x9 (-v5) M L))))
def f_X5_margin_J80  (p0 : Int32) (p1 : Int32) (ko56 : Int32 → Int32 → Int32 → Int64 → Int32 → (Nat → Nat → Int32) → Int64 → Option (Int32 × (Nat → Nat → Int32) × Int64)) (x4 : Int32) (x6 : Int32) (x7 : Int64) (x9 : Int32) (s0 : Int32) (s1 : Int32) (M : Nat → Nat → Int32) (L : Int64) : Option (Int32 × (Nat → Nat → Int32) × Int64) := ltt ((s1 + s0)) (fun v7 => gd (inb x9 40) (if (M 9 (Int32.toNatClampNeg x9)) = (0 : Int32) then (gd (inb x9 40) (f_X5_margin_J106 p0 p1 ko56 x4 v7 x7 x9 (M 6 (Int32.toNatClampNeg x9)) x6 M L)) else (f_X5_margin_J106 p0 p1 ko56 x4 v7 x7 x9 (0 : Int32) x6 M L)))
def f_X5_margin_J215  (p0 : Int32) (p1 : Int32)  (s0 : Int32) (s1 : Int64) (M : Nat → Nat → Int32) (L : Int64) : Option (Int32 × (Nat → Nat → Int32) × Int64) := b2 (f_X5_tell L s1 s0) (fun r11 (L_11 : Int64) => some (r11, M, L_11))
def f_X5_margin_L56  (p0 : Int32) (p1 : Int32)  : Nat → Int32 → Int32 → Int32 → Int64 → Int32 → (Nat → Nat → Int32) → Int64 → Option (Int32 × (Nat → Nat → Int32) × Int64)
  | 0, _, _, _, _, _, _, _ => none
  | n + 1, x4, x5, x6, x7, x9, M, L => if x4 ≤ x9 then (if x5 = (0 : Int32) then (b2 (f_X5_meets M (4 : Int32)) (fun r18 (M_18 : Nat → Nat → Int32) => some (r18, M_18, L))) else (gd (nz32 x5) (b1 (f_X5_pressOf M p0 p1) (fun r15 => ltt (((((9000 : Int64) + ((300 : Int64) * (Int32.toInt64 (x6 / x5)))) - ((60 : Int64) * x7)) - r15)) (fun v16 => if (0 : Int32) < (lg_cmp v16 (0 : Int64)) then (f_X5_margin_J215 p0 p1 (0 : Int32) v16 M L) else (f_X5_margin_J215 p0 p1 (1 : Int32) v16 M L)))))) else (gd (inb x9 40) (if (M 9 (Int32.toNatClampNeg x9)) = (0 : Int32) then (f_X5_margin_J80 p0 p1 (f_X5_margin_L56 p0 p1 n) x4 x6 x7 x9 (1 : Int32) x5 M L) else (f_X5_margin_J80 p0 p1 (f_X5_margin_L56 p0 p1 n) x4 x6 x7 x9 (0 : Int32) x5 M L)))
def f_X5_margin_J40  (p0 : Int32) (p1 : Int32)  (x3 : Int32) (s0 : Int32) (M : Nat → Nat → Int32) (L : Int64) : Option (Int32 × (Nat → Nat → Int32) × Int64) := ltt ((x3 * p0)) (fun v21 => f_X5_margin_L56 p0 p1 64 s0 (0 : Int32) (0 : Int32) (0 : Int64) v21 M L)
def f_X5_margin (M0 : Nat → Nat → Int32) (L0 : Int64) (p0 : Int32) (p1 : Int32) : Option (Int32 × (Nat → Nat → Int32) × Int64) := b1 (f_X5_isStretch p0) (fun r22 => if r22 = (0 : Int32) then (some ((-1 : Int32), M0, L0)) else (b1 (f_X5_isWarmth p1) (fun r24 => if r24 = (0 : Int32) then (some ((-1 : Int32), M0, L0)) else (gd (nz32 (4 : Int32)) (ltt (((M0 3 0) / (4 : Int32))) (fun v27 => if p0 = (3 : Int32) then (f_X5_margin_J40 p0 p1 v27 (M0 3 0) M0 L0) else (f_X5_margin_J40 p0 p1 v27 (v27 * (p0 + (1 : Int32))) M0 L0)))))))
abbrev rm_X5_margin : Room := { frames := 4, cells := 0, slots := 0, locals := 91 }
set_option maxHeartbeats 4000000 in
set_option maxRecDepth 100000 in
theorem c_X5_margin (l : Launch) (D : va_G) (a : Nat → Nat) (k : Nat → ClassId) (sz : Nat) (M0 : Nat → Nat → Int32) (L0 : Int64) (p0 : Int32) (p1 : Int32) (r : Int32) (Mz : (Nat → Nat → Int32)) (Lz : Int64) (h : f_X5_margin M0 L0 p0 p1 = some (r, Mz, Lz)) : Met l yX5_margin wsX5_margin rm_X5_margin (mPc D [.ref (a 0), .int p0, .int p1] (xM a k M0 L0) (tM k) sz) (mQi D (xM a k M0 L0) (xM a k Mz Lz) sz r) 0 0 (va_A (xM a k M0 L0) sz) := by
  refine mk_met (cc := cX5_margin) (maxL := 12) (ret := (some .int)) (by decide) rfl (Nat.le_of_ble_eq_true rfl) ?_
  intro p e s m below meth c hx hb hr hml hts hown hmn hlocks hnw hsz hK hP hD hS hA ls hl
  obtain ⟨A, hAe⟩ : ∃ A, A = va_A (xM a k M0 L0) sz := ⟨_, rfl⟩
  rw [← hAe] at hD hS hA
  generalize hargs : List.toArray ([.ref (a 0), .int p0, .int p1] : List Value) = args at hts ⊢
  generalize hQ : MQ below (mQi D (xM a k M0 L0) (xM a k Mz Lz) sz r) args s 0 0 (va_A (xM a k M0 L0) sz) = Q
  have hl : lv_has ls 12 [(0, .ref (a 0)), (1, .int p0), (2, .int p1)] := hl
  have hin5 : ∀ w ∈ wsX50, w ∈ wsX5_margin := fun w h => List.mem_cons_of_mem _ (List.mem_append_right _ h)
  have lb151 : ∀ (ko56 : Int32 → Int32 → Int32 → Int64 → Int32 → (Nat → Nat → Int32) → Int64 → Option (Int32 × (Nat → Nat → Int32) × Int64)), (∀ (x4 : Int32) (x5 : Int32) (x6 : Int32) (x7 : Int64) (x9 : Int32) (M : Nat → Nat → Int32) (L : Int64), ∀ (H : Heap) (locs : List Loc), va_P D vwCl (xM a k M L) H → va_D A (xM a k M L) → va_S A s.heap H locs → ∀ ls : Array Slot, lv_has ls 12 [(0, .ref (a 0)), (1, .int p0), (2, .int p1), (4, .int x4), (5, .int x5), (6, .int x6), (7, .long x7), (9, .int x9)] → ko56 x4 x5 x6 x7 x9 M L = some (r, Mz, Lz) → W p l e rm_X5_margin s m args below meth c H locs 0 0 Q (F0 m 56 ls [])) → ∀ (x4 : Int32) (x5 : Int32) (x6 : Int32) (x9 : Int32) (s0 : Int64) (M : Nat → Nat → Int32) (L : Int64), ∀ (H : Heap) (locs : List Loc), va_P D vwCl (xM a k M L) H → va_D A (xM a k M L) → va_S A s.heap H locs → ∀ ls : Array Slot, lv_has ls 12 [(0, .ref (a 0)), (1, .int p0), (2, .int p1), (4, .int x4), (5, .int x5), (6, .int x6), (9, .int x9)] → f_X5_margin_J151 p0 p1 ko56 x4 x5 x6 x9 s0 M L = some (r, Mz, Lz) → W p l e rm_X5_margin s m args below meth c H locs 0 0 Q (F0 m 151 ls [.long s0]) := by
    intro ko56 hko56 x4 x5 x6 x9 s0 M L H locs hP hD hS ls hl h
    rw [f_X5_margin_J151] at h
    refine lv_lstore (lv' := [(7, .long s0), (0, .ref (a 0)), (1, .int p0), (2, .int p1), (4, .int x4), (5, .int x5), (6, .int x6), (9, .int x9)]) hx hb dX5_margin_151 hl (by decide) rfl (fun ls hl => ?_)
    obtain ⟨v1, ev1⟩ : ∃ y : Int32, y = x9 + (1 : Int32) := ⟨_, rfl⟩
    have h := ltt_s ev1 h
    refine lv_iinc (v := v1) (lv' := [(9, .int v1), (7, .long s0), (0, .ref (a 0)), (1, .int p0), (2, .int p1), (4, .int x4), (5, .int x5), (6, .int x6)]) hx hb dX5_margin_153 hl (k := 7) rfl (by rw [ev1]; rfl) (by decide) rfl (fun ls hl => ?_)
    refine lv_goto (tgt := 56) hx hb dX5_margin_156 (by decide) ?_
    exact hko56 x4 x5 x6 s0 v1 M L H locs hP hD hS ls (lv_sub hl [2, 3, 4, 5, 6, 7, 1, 0] rfl) h
  have lb134 : ∀ (ko56 : Int32 → Int32 → Int32 → Int64 → Int32 → (Nat → Nat → Int32) → Int64 → Option (Int32 × (Nat → Nat → Int32) × Int64)), (∀ (x4 : Int32) (x5 : Int32) (x6 : Int32) (x7 : Int64) (x9 : Int32) (M : Nat → Nat → Int32) (L : Int64), ∀ (H : Heap) (locs : List Loc), va_P D vwCl (xM a k M L) H → va_D A (xM a k M L) → va_S A s.heap H locs → ∀ ls : Array Slot, lv_has ls 12 [(0, .ref (a 0)), (1, .int p0), (2, .int p1), (4, .int x4), (5, .int x5), (6, .int x6), (7, .long x7), (9, .int x9)] → ko56 x4 x5 x6 x7 x9 M L = some (r, Mz, Lz) → W p l e rm_X5_margin s m args below meth c H locs 0 0 Q (F0 m 56 ls [])) → ∀ (x4 : Int32) (x5 : Int32) (x6 : Int32) (x7 : Int64) (x9 : Int32) (s0 : Int64) (M : Nat → Nat → Int32) (L : Int64), ∀ (H : Heap) (locs : List Loc), va_P D vwCl (xM a k M L) H → va_D A (xM a k M L) → va_S A s.heap H locs → ∀ ls : Array Slot, lv_has ls 12 [(0, .ref (a 0)), (1, .int p0), (2, .int p1), (4, .int x4), (5, .int x5), (6, .int x6), (7, .long x7), (9, .int x9)] → f_X5_margin_J134 p0 p1 ko56 x4 x5 x6 x7 x9 s0 M L = some (r, Mz, Lz) → W p l e rm_X5_margin s m args below meth c H locs 0 0 Q (F0 m 134 ls [.long s0]) := by
    intro ko56 hko56 x4 x5 x6 x7 x9 s0 M L H locs hP hD hS ls hl h
    rw [f_X5_margin_J134] at h
    refine lv_lstore (lv' := [(10, .long s0), (0, .ref (a 0)), (1, .int p0), (2, .int p1), (4, .int x4), (5, .int x5), (6, .int x6), (7, .long x7), (9, .int x9)]) hx hb dX5_margin_134 hl (by decide) rfl (fun ls hl => ?_)
    refine lv_lload hx hb dX5_margin_136 (lv_at hl 0 rfl) ?_
    refine lv_lload hx hb dX5_margin_138 (lv_at hl 7 rfl) ?_
    refine W.lcmp hx hb dX5_margin_140 ?_
    refine lv_if_le (tgt := 149) hx hb dX5_margin_141 (by decide) (fun c2 => ?_) (fun c2 => ?_)
    · have h := it_t c2 h
      refine lv_lload hx hb dX5_margin_149 (lv_at hl 7 rfl) ?_
      exact lb151 ko56 hko56 x4 x5 x6 x9 x7 M L H locs hP hD hS ls (lv_sub hl [1, 2, 3, 4, 5, 6, 8] rfl) h
    · have h := it_f c2 h
      refine lv_lload hx hb dX5_margin_144 (lv_at hl 0 rfl) ?_
      refine lv_goto (tgt := 151) hx hb dX5_margin_146 (by decide) ?_
      exact lb151 ko56 hko56 x4 x5 x6 x9 s0 M L H locs hP hD hS ls (lv_sub hl [1, 2, 3, 4, 5, 6, 8] rfl) h
  have lb106 : ∀ (ko56 : Int32 → Int32 → Int32 → Int64 → Int32 → (Nat → Nat → Int32) → Int64 → Option (Int32 × (Nat → Nat → Int32) × Int64)), (∀ (x4 : Int32) (x5 : Int32) (x6 : Int32) (x7 : Int64) (x9 : Int32) (M : Nat → Nat → Int32) (L : Int64), ∀ (H : Heap) (locs : List Loc), va_P D vwCl (xM a k M L) H → va_D A (xM a k M L) → va_S A s.heap H locs → ∀ ls : Array Slot, lv_has ls 12 [(0, .ref (a 0)), (1, .int p0), (2, .int p1), (4, .int x4), (5, .int x5), (6, .int x6), (7, .long x7), (9, .int x9)] → ko56 x4 x5 x6 x7 x9 M L = some (r, Mz, Lz) → W p l e rm_X5_margin s m args below meth c H locs 0 0 Q (F0 m 56 ls [])) → ∀ (x4 : Int32) (x5 : Int32) (x7 : Int64) (x9 : Int32) (s0 : Int32) (s1 : Int32) (M : Nat → Nat → Int32) (L : Int64), ∀ (H : Heap) (locs : List Loc), va_P D vwCl (xM a k M L) H → va_D A (xM a k M L) → va_S A s.heap H locs → ∀ ls : Array Slot, lv_has ls 12 [(0, .ref (a 0)), (1, .int p0), (2, .int p1), (4, .int x4), (5, .int x5), (7, .long x7), (9, .int x9)] → f_X5_margin_J106 p0 p1 ko56 x4 x5 x7 x9 s0 s1 M L = some (r, Mz, Lz) → W p l e rm_X5_margin s m args below meth c H locs 0 0 Q (F0 m 106 ls [.int s0, .int s1]) := by
    intro ko56 hko56 x4 x5 x7 x9 s0 s1 M L H locs hP hD hS ls hl h
    rw [f_X5_margin_J106] at h
    refine lv_iadd hx hb dX5_margin_106 ?_
    refine lv_topi (fun v3 ev3 => ?_)
    have h := ltt_s ev3 h
    refine lv_istore (lv' := [(6, .int v3), (0, .ref (a 0)), (1, .int p0), (2, .int p1), (4, .int x4), (5, .int x5), (7, .long x7), (9, .int x9)]) hx hb dX5_margin_107 hl (by decide) rfl (fun ls hl => ?_)
    refine lv_aload_n hx hb dX5_margin_109 rfl (lv_at hl 1 rfl) ?_
    refine lv_iload hx hb dX5_margin_110 (lv_at hl 7 rfl) ?_
    refine lv_iconst (v := (1 : Int32)) hx hb dX5_margin_112 (by decide) ?_
    obtain ⟨r4, q4, h⟩ := b1_s h
    refine go_i (run_V (As := [.int x9, .int (1 : Int32)]) (rest := []) ⟨hx, hb, hml, hown, hts⟩ hnw hK hP hD (fr_M_M a k M L M L) (ks_M_M k) (c_X5_chordAt l D a k H.size M L x9 (1 : Int32) r4 q4) (cwV 2 hts gX5_margin_X5_chordAt rfl rfl rfl (by decide +kernel) ⟨Nat.le_of_ble_eq_true rfl, Nat.le_of_ble_eq_true rfl⟩) (rcv_M a k M L) rfl hl.1 rfl (Nat.le_of_ble_eq_true rfl) dX5_margin_113 ⟨Nat.zero_le _, Nat.zero_le _⟩) hP hD hS hA (fr_M_M a k M L M L) (fun H locs hP hD hS => ?_)
    refine lv_i2l (v := (Int32.toInt64 r4)) hx hb dX5_margin_116 rfl ?_
    refine lv_topl (fun v5 ev5 => ?_)
    have h := ltt_s ev5 h
    refine lv_lstore (lv' := [(10, .long v5), (6, .int v3), (0, .ref (a 0)), (1, .int p0), (2, .int p1), (4, .int x4), (5, .int x5), (7, .long x7), (9, .int x9)]) hx hb dX5_margin_117 hl (by decide) rfl (fun ls hl => ?_)
    refine lv_lload hx hb dX5_margin_119 (lv_at hl 0 rfl) ?_
    refine lv_lconst (v := (0 : Int64)) hx hb dX5_margin_121 (by decide) ?_
    refine W.lcmp hx hb dX5_margin_122 ?_
    refine lv_if_ge (tgt := 132) hx hb dX5_margin_123 (by decide) (fun c6 => ?_) (fun c6 => ?_)
    · have h := it_t c6 h
      refine lv_lload hx hb dX5_margin_132 (lv_at hl 0 rfl) ?_
      exact lb134 ko56 hko56 x4 x5 v3 x7 x9 v5 M L H locs hP hD hS ls (lv_sub hl [2, 3, 4, 5, 6, 1, 7, 8] rfl) h
    · have h := it_f c6 h
      refine lv_lload hx hb dX5_margin_126 (lv_at hl 0 rfl) ?_
      refine lv_lneg hx hb dX5_margin_128 ?_
      refine lv_goto (tgt := 134) hx hb dX5_margin_129 (by decide) ?_
      exact lb134 ko56 hko56 x4 x5 v3 x7 x9 (-v5) M L H locs hP hD hS ls (lv_sub hl [2, 3, 4, 5, 6, 1, 7, 8] rfl) h
  have lb80 : ∀ (ko56 : Int32 → Int32 → Int32 → Int64 → Int32 → (Nat → Nat → Int32) → Int64 → Option (Int32 × (Nat → Nat → Int32) × Int64)), (∀ (x4 : Int32) (x5 : Int32) (x6 : Int32) (x7 : Int64) (x9 : Int32) (M : Nat → Nat → Int32) (L : Int64), ∀ (H : Heap) (locs : List Loc), va_P D vwCl (xM a k M L) H → va_D A (xM a k M L) → va_S A s.heap H locs → ∀ ls : Array Slot, lv_has ls 12 [(0, .ref (a 0)), (1, .int p0), (2, .int p1), (4, .int x4), (5, .int x5), (6, .int x6), (7, .long x7), (9, .int x9)] → ko56 x4 x5 x6 x7 x9 M L = some (r, Mz, Lz) → W p l e rm_X5_margin s m args below meth c H locs 0 0 Q (F0 m 56 ls [])) → ∀ (x4 : Int32) (x6 : Int32) (x7 : Int64) (x9 : Int32) (s0 : Int32) (s1 : Int32) (M : Nat → Nat → Int32) (L : Int64), ∀ (H : Heap) (locs : List Loc), va_P D vwCl (xM a k M L) H → va_D A (xM a k M L) → va_S A s.heap H locs → ∀ ls : Array Slot, lv_has ls 12 [(0, .ref (a 0)), (1, .int p0), (2, .int p1), (4, .int x4), (6, .int x6), (7, .long x7), (9, .int x9)] → f_X5_margin_J80 p0 p1 ko56 x4 x6 x7 x9 s0 s1 M L = some (r, Mz, Lz) → W p l e rm_X5_margin s m args below meth c H locs 0 0 Q (F0 m 80 ls [.int s0, .int s1]) := by
    intro ko56 hko56 x4 x6 x7 x9 s0 s1 M L H locs hP hD hS ls hl h
    rw [f_X5_margin_J80] at h
    refine lv_iadd hx hb dX5_margin_80 ?_
    refine lv_topi (fun v7 ev7 => ?_)
    have h := ltt_s ev7 h
    refine lv_istore (lv' := [(5, .int v7), (0, .ref (a 0)), (1, .int p0), (2, .int p1), (4, .int x4), (6, .int x6), (7, .long x7), (9, .int x9)]) hx hb dX5_margin_81 hl (by decide) rfl (fun ls hl => ?_)
    refine lv_iload hx hb dX5_margin_83 (lv_at hl 5 rfl) ?_
    refine lv_aload_n hx hb dX5_margin_85 rfl (lv_at hl 1 rfl) ?_
    refine va_get (D := D) (ci := 5) (v := .ref (a 7)) (C := RX5) (T := TX5) (N := 20) hx hb hts hin5 hown hK hP 0 rfl rfl 9 (by decide) (hts (.fieldLink RX5 28 "BallastLineModel" "isLost" "[Z") (List.mem_of_getElem? (i := 2) rfl)) (fun _ h9 => h9) rfl dX5_margin_86 ?_
    refine lv_iload hx hb dX5_margin_89 (lv_at hl 7 rfl) ?_
    obtain ⟨g8, h⟩ := gd_s h
    refine va_zald hx hb hK hP 7 6 rfl rfl (inb_in g8) dX5_margin_91 ?_
    refine lv_if_eq (tgt := 99) hx hb dX5_margin_92 (by decide) (fun c9 => ?_) (fun c9 => ?_)
    · have h := it_t c9 h
      refine lv_aload_n hx hb dX5_margin_99 rfl (lv_at hl 1 rfl) ?_
      refine va_get (D := D) (ci := 5) (v := .ref (a 4)) (C := RX5) (T := TX5) (N := 20) hx hb hts hin5 hown hK hP 0 rfl rfl 6 (by decide) (hts (.fieldLink RX5 19 "BallastLineModel" "stones" "[I") (List.mem_of_getElem? (i := 3) rfl)) (fun _ h9 => h9) rfl dX5_margin_100 ?_
      refine lv_iload hx hb dX5_margin_103 (lv_at hl 7 rfl) ?_
      obtain ⟨g10, h⟩ := gd_s h
      refine va_iald hx hb hK hP 4 3 rfl rfl (inb_in g10) dX5_margin_105 ?_
      exact lb106 ko56 hko56 x4 v7 x7 x9 (M 6 (Int32.toNatClampNeg x9)) x6 M L H locs hP hD hS ls (lv_sub hl [1, 2, 3, 4, 0, 6, 7] rfl) h
    · have h := it_f c9 h
      refine lv_iconst (v := (0 : Int32)) hx hb dX5_margin_95 (by decide) ?_
      refine lv_goto (tgt := 106) hx hb dX5_margin_96 (by decide) ?_
      exact lb106 ko56 hko56 x4 v7 x7 x9 (0 : Int32) x6 M L H locs hP hD hS ls (lv_sub hl [1, 2, 3, 4, 0, 6, 7] rfl) h
  have lb215 : ∀ (s0 : Int32) (s1 : Int64) (M : Nat → Nat → Int32) (L : Int64), ∀ (H : Heap) (locs : List Loc), va_P D vwCl (xM a k M L) H → va_D A (xM a k M L) → va_S A s.heap H locs → ∀ ls : Array Slot, lv_has ls 12 [] → f_X5_margin_J215 p0 p1 s0 s1 M L = some (r, Mz, Lz) → W p l e rm_X5_margin s m args below meth c H locs 0 0 Q (F0 m 215 ls [.int s0, .long s1, .ref (a 0)]) := by
    intro  s0 s1 M L H locs hP hD hS ls hl h
    rw [f_X5_margin_J215] at h
    obtain ⟨r11, L_11, q11, h⟩ := b2_s h
    refine go_i (run_V (As := [.long s1, .int s0]) (rest := []) ⟨hx, hb, hml, hown, hts⟩ hnw hK hP hD (fr_M_M a k M L M L_11) (ks_M_M k) (c_X5_tell l D a k H.size M L s1 s0 r11 L_11 q11) (cwV 2 hts gX5_margin_X5_tell rfl rfl rfl (by decide +kernel) ⟨Nat.le_of_ble_eq_true rfl, Nat.le_of_ble_eq_true rfl⟩) (rcv_M a k M L) rfl hl.1 rfl (Nat.le_of_ble_eq_true rfl) dX5_margin_215 ⟨Nat.zero_le _, Nat.zero_le _⟩) hP hD hS hA (fr_M_M a k M L M L_11) (fun H locs hP hD hS => ?_)
    have h := Option.some.inj h
    obtain ⟨hz0, h⟩ := Prod.mk.inj h
    obtain ⟨hz1, h⟩ := Prod.mk.inj h
    have hP : va_P D vwCl (xM a k Mz Lz) H := by rw [← hz1, ← h]; exact hP
    have hD : va_D A (xM a k Mz Lz) := by rw [← hz1, ← h]; exact hD
    subst hQ
    subst hAe
    exact r_i hx hb hr hlocks hz0 hP hD hS dX5_margin_218
  have lb56 : ∀ (n : Nat), ∀ (x4 : Int32) (x5 : Int32) (x6 : Int32) (x7 : Int64) (x9 : Int32) (M : Nat → Nat → Int32) (L : Int64), ∀ (H : Heap) (locs : List Loc), va_P D vwCl (xM a k M L) H → va_D A (xM a k M L) → va_S A s.heap H locs → ∀ ls : Array Slot, lv_has ls 12 [(0, .ref (a 0)), (1, .int p0), (2, .int p1), (4, .int x4), (5, .int x5), (6, .int x6), (7, .long x7), (9, .int x9)] → f_X5_margin_L56 p0 p1 n x4 x5 x6 x7 x9 M L = some (r, Mz, Lz) → W p l e rm_X5_margin s m args below meth c H locs 0 0 Q (F0 m 56 ls []) := by
    intro n
    induction n with
    | zero =>
      intro x4 x5 x6 x7 x9 M L H locs hP hD hS ls hl h
      rw [f_X5_margin_L56] at h
      cases h
    | succ n ih =>
      intro x4 x5 x6 x7 x9 M L H locs hP hD hS ls hl h
      rw [f_X5_margin_L56] at h
      refine lv_iload hx hb dX5_margin_56 (lv_at hl 7 rfl) ?_
      refine lv_iload hx hb dX5_margin_58 (lv_at hl 3 rfl) ?_
      refine lv_icmp_ge (tgt := 159) hx hb dX5_margin_60 (by decide) (fun c12 => ?_) (fun c12 => ?_)
      · have h := it_t c12 h
        refine lv_iload hx hb dX5_margin_159 (lv_at hl 4 rfl) ?_
        refine lv_if_ne (tgt := 170) hx hb dX5_margin_161 (by decide) (fun c13 => ?_) (fun c13 => ?_)
        · have h := it_f c13 h
          refine lv_ldc2 (v := (9000 : Int64)) hx hb hown (hts (.constantLong RX5 142 (9000)) (List.mem_of_getElem? (i := 4) rfl)) dX5_margin_170 ?_
          refine lv_ldc2 (v := (300 : Int64)) hx hb hown (hts (.constantLong RX5 144 (300)) (List.mem_of_getElem? (i := 5) rfl)) dX5_margin_173 ?_
          refine lv_iload hx hb dX5_margin_176 (lv_at hl 5 rfl) ?_
          refine lv_iload hx hb dX5_margin_178 (lv_at hl 4 rfl) ?_
          obtain ⟨g14, h⟩ := gd_s h
          refine lv_idiv hx hb dX5_margin_180 (nz32_s g14) ?_
          refine lv_i2l (v := (Int32.toInt64 (x6 / x5))) hx hb dX5_margin_181 rfl ?_
          refine lv_lmul hx hb dX5_margin_182 ?_
          refine lv_ladd hx hb dX5_margin_183 ?_
          refine lv_ldc2 (v := (60 : Int64)) hx hb hown (hts (.constantLong RX5 146 (60)) (List.mem_of_getElem? (i := 6) rfl)) dX5_margin_184 ?_
          refine lv_lload hx hb dX5_margin_187 (lv_at hl 6 rfl) ?_
          refine lv_lmul hx hb dX5_margin_189 ?_
          refine lv_lsub hx hb dX5_margin_190 ?_
          refine lv_aload_n hx hb dX5_margin_191 rfl (lv_at hl 0 rfl) ?_
          refine lv_iload_n hx hb dX5_margin_192 rfl (lv_at hl 1 rfl) ?_
          refine lv_iload_n hx hb dX5_margin_193 rfl (lv_at hl 2 rfl) ?_
          obtain ⟨r15, q15, h⟩ := b1_s h
          refine go_l (run_V (As := [.int p0, .int p1]) (rest := [.long (((9000 : Int64) + ((300 : Int64) * (Int32.toInt64 (x6 / x5)))) - ((60 : Int64) * x7))]) ⟨hx, hb, hml, hown, hts⟩ hnw hK hP hD (fr_M_M a k M L M L) (ks_M_M k) (c_X5_pressOf l D a k H.size M L p0 p1 r15 q15) (cwV 2 hts gX5_margin_X5_pressOf rfl rfl rfl (by decide +kernel) ⟨Nat.le_of_ble_eq_true rfl, Nat.le_of_ble_eq_true rfl⟩) (rcv_M a k M L) rfl hl.1 rfl (Nat.le_of_ble_eq_true rfl) dX5_margin_194 ⟨Nat.zero_le _, Nat.zero_le _⟩) hP hD hS hA (fr_M_M a k M L M L) (fun H locs hP hD hS => ?_)
          refine lv_lsub hx hb dX5_margin_197 ?_
          refine lv_topl (fun v16 ev16 => ?_)
          have h := ltt_s ev16 h
          refine lv_lstore (lv' := [(9, .long v16), (0, .ref (a 0)), (1, .int p0), (2, .int p1), (4, .int x4), (5, .int x5), (6, .int x6), (7, .long x7)]) hx hb dX5_margin_198 hl (by decide) rfl (fun ls hl => ?_)
          refine lv_aload_n hx hb dX5_margin_200 rfl (lv_at hl 1 rfl) ?_
          refine lv_lload hx hb dX5_margin_201 (lv_at hl 0 rfl) ?_
          refine lv_lload hx hb dX5_margin_203 (lv_at hl 0 rfl) ?_
          refine lv_lconst (v := (0 : Int64)) hx hb dX5_margin_205 (by decide) ?_
          refine W.lcmp hx hb dX5_margin_206 ?_
          refine lv_if_gt (tgt := 214) hx hb dX5_margin_207 (by decide) (fun c17 => ?_) (fun c17 => ?_)
          · have h := it_t c17 h
            refine lv_iconst (v := (0 : Int32)) hx hb dX5_margin_214 (by decide) ?_
            exact lb215  (0 : Int32) v16 M L H locs hP hD hS ls (lv_sub hl [] rfl) h
          · have h := it_f c17 h
            refine lv_iconst (v := (1 : Int32)) hx hb dX5_margin_210 (by decide) ?_
            refine lv_goto (tgt := 215) hx hb dX5_margin_211 (by decide) ?_
            exact lb215  (1 : Int32) v16 M L H locs hP hD hS ls (lv_sub hl [] rfl) h
        · have h := it_t c13 h
          refine lv_aload_n hx hb dX5_margin_164 rfl (lv_at hl 0 rfl) ?_
          refine lv_iconst (v := (4 : Int32)) hx hb dX5_margin_165 (by decide) ?_
          obtain ⟨r18, M_18, q18, h⟩ := b2_s h
          refine go_i (run_V (As := [.int (4 : Int32)]) (rest := []) ⟨hx, hb, hml, hown, hts⟩ hnw hK hP hD (fr_M_M a k M L M_18 L) (ks_M_M k) (c_X5_meets l D a k H.size M L (4 : Int32) r18 M_18 q18) (cwV 1 hts gX5_margin_X5_meets rfl rfl rfl (by decide +kernel) ⟨Nat.le_of_ble_eq_true rfl, Nat.le_of_ble_eq_true rfl⟩) (rcv_M a k M L) rfl hl.1 rfl (Nat.le_of_ble_eq_true rfl) dX5_margin_166 ⟨Nat.zero_le _, Nat.zero_le _⟩) hP hD hS hA (fr_M_M a k M L M_18 L) (fun H locs hP hD hS => ?_)
          have h := Option.some.inj h
          obtain ⟨hz0, h⟩ := Prod.mk.inj h
          obtain ⟨hz1, h⟩ := Prod.mk.inj h
          have hP : va_P D vwCl (xM a k Mz Lz) H := by rw [← hz1, ← h]; exact hP
          have hD : va_D A (xM a k Mz Lz) := by rw [← hz1, ← h]; exact hD
          subst hQ
          subst hAe
          exact r_i hx hb hr hlocks hz0 hP hD hS dX5_margin_169
      · have h := it_f c12 h
        refine lv_iload hx hb dX5_margin_63 (lv_at hl 4 rfl) ?_
        refine lv_aload_n hx hb dX5_margin_65 rfl (lv_at hl 0 rfl) ?_
        refine va_get (D := D) (ci := 5) (v := .ref (a 7)) (C := RX5) (T := TX5) (N := 20) hx hb hts hin5 hown hK hP 0 rfl rfl 9 (by decide) (hts (.fieldLink RX5 28 "BallastLineModel" "isLost" "[Z") (List.mem_of_getElem? (i := 2) rfl)) (fun _ h9 => h9) rfl dX5_margin_66 ?_
        refine lv_iload hx hb dX5_margin_69 (lv_at hl 7 rfl) ?_
        obtain ⟨g19, h⟩ := gd_s h
        refine va_zald hx hb hK hP 7 6 rfl rfl (inb_in g19) dX5_margin_71 ?_
        refine lv_if_eq (tgt := 79) hx hb dX5_margin_72 (by decide) (fun c20 => ?_) (fun c20 => ?_)
        · have h := it_t c20 h
          refine lv_iconst (v := (1 : Int32)) hx hb dX5_margin_79 (by decide) ?_
          exact lb80 (f_X5_margin_L56 p0 p1 n) ih x4 x6 x7 x9 (1 : Int32) x5 M L H locs hP hD hS ls (lv_sub hl [0, 1, 2, 3, 5, 6, 7] rfl) h
        · have h := it_f c20 h
          refine lv_iconst (v := (0 : Int32)) hx hb dX5_margin_75 (by decide) ?_
          refine lv_goto (tgt := 80) hx hb dX5_margin_76 (by decide) ?_
          exact lb80 (f_X5_margin_L56 p0 p1 n) ih x4 x6 x7 x9 (0 : Int32) x5 M L H locs hP hD hS ls (lv_sub hl [0, 1, 2, 3, 5, 6, 7] rfl) h
  have lb40 : ∀ (x3 : Int32) (s0 : Int32) (M : Nat → Nat → Int32) (L : Int64), ∀ (H : Heap) (locs : List Loc), va_P D vwCl (xM a k M L) H → va_D A (xM a k M L) → va_S A s.heap H locs → ∀ ls : Array Slot, lv_has ls 12 [(0, .ref (a 0)), (1, .int p0), (2, .int p1), (3, .int x3)] → f_X5_margin_J40 p0 p1 x3 s0 M L = some (r, Mz, Lz) → W p l e rm_X5_margin s m args below meth c H locs 0 0 Q (F0 m 40 ls [.int s0]) := by
    intro  x3 s0 M L H locs hP hD hS ls hl h
    rw [f_X5_margin_J40] at h
    refine lv_istore (lv' := [(4, .int s0), (0, .ref (a 0)), (1, .int p0), (2, .int p1), (3, .int x3)]) hx hb dX5_margin_40 hl (by decide) rfl (fun ls hl => ?_)
    refine lv_iconst (v := (0 : Int32)) hx hb dX5_margin_42 (by decide) ?_
    refine lv_istore (lv' := [(5, .int (0 : Int32)), (4, .int s0), (0, .ref (a 0)), (1, .int p0), (2, .int p1), (3, .int x3)]) hx hb dX5_margin_43 hl (by decide) rfl (fun ls hl => ?_)
    refine lv_iconst (v := (0 : Int32)) hx hb dX5_margin_45 (by decide) ?_
    refine lv_istore (lv' := [(6, .int (0 : Int32)), (5, .int (0 : Int32)), (4, .int s0), (0, .ref (a 0)), (1, .int p0), (2, .int p1), (3, .int x3)]) hx hb dX5_margin_46 hl (by decide) rfl (fun ls hl => ?_)
    refine lv_lconst (v := (0 : Int64)) hx hb dX5_margin_48 (by decide) ?_
    refine lv_lstore (lv' := [(7, .long (0 : Int64)), (6, .int (0 : Int32)), (5, .int (0 : Int32)), (4, .int s0), (0, .ref (a 0)), (1, .int p0), (2, .int p1), (3, .int x3)]) hx hb dX5_margin_49 hl (by decide) rfl (fun ls hl => ?_)
    refine lv_iload_n hx hb dX5_margin_51 rfl (lv_at hl 7 rfl) ?_
    refine lv_iload_n hx hb dX5_margin_52 rfl (lv_at hl 5 rfl) ?_
    refine lv_imul hx hb dX5_margin_53 ?_
    refine lv_topi (fun v21 ev21 => ?_)
    have h := ltt_s ev21 h
    refine lv_istore (lv' := [(9, .int v21), (7, .long (0 : Int64)), (6, .int (0 : Int32)), (5, .int (0 : Int32)), (4, .int s0), (0, .ref (a 0)), (1, .int p0), (2, .int p1), (3, .int x3)]) hx hb dX5_margin_54 hl (by decide) rfl (fun ls hl => ?_)
    exact lb56 64 s0 (0 : Int32) (0 : Int32) (0 : Int64) v21 M L H locs hP hD hS ls (lv_sub hl [5, 6, 7, 4, 3, 2, 1, 0] rfl) h
  rw [f_X5_margin] at h
  obtain ⟨H, hH⟩ : ∃ H, H = s.heap := ⟨_, rfl⟩
  obtain ⟨locs, hlc⟩ : ∃ L : List Loc, L = [] := ⟨_, rfl⟩
  rw [← hH] at hP
  have hS : va_S A s.heap H locs := by rw [hH, hlc]; exact hS
  suffices hW9 : W p l e rm_X5_margin s m args below meth c H locs 0 0 Q (F0 m 0 ls []) by rw [hH, hlc] at hW9; exact hW9
  refine lv_iload_n hx hb dX5_margin_0 rfl (lv_at hl 1 rfl) ?_
  obtain ⟨r22, q22, h⟩ := b1_s h
  refine go_i (run_S (As := [.int p0]) (rest := []) ⟨hx, hb, hml, hown, hts⟩ hnw hK hP hD (fr_M_E a k M0 L0) (ks_M_E k) (c_X5_isStretch l D H.size p0 r22 q22) (cwS 1 hts gX5_margin_X5_isStretch rfl rfl rfl (by decide +kernel) ⟨Nat.le_of_ble_eq_true rfl, Nat.le_of_ble_eq_true rfl⟩) rfl hl.1 rfl (Nat.le_of_ble_eq_true rfl) dX5_margin_1 ⟨Nat.zero_le _, Nat.zero_le _⟩) hP hD hS hA (fr_M_E a k M0 L0) (fun H locs hP hD hS => ?_)
  refine lv_if_eq (tgt := 14) hx hb dX5_margin_4 (by decide) (fun c23 => ?_) (fun c23 => ?_)
  · have h := it_t c23 h
    refine lv_iconst (v := (-1 : Int32)) hx hb dX5_margin_14 (by decide) ?_
    have h := Option.some.inj h
    obtain ⟨hz0, h⟩ := Prod.mk.inj h
    obtain ⟨hz1, h⟩ := Prod.mk.inj h
    have hP : va_P D vwCl (xM a k Mz Lz) H := by rw [← hz1, ← h]; exact hP
    have hD : va_D A (xM a k Mz Lz) := by rw [← hz1, ← h]; exact hD
    subst hQ
    subst hAe
    exact r_i hx hb hr hlocks hz0 hP hD hS dX5_margin_15
  · have h := it_f c23 h
    refine lv_iload_n hx hb dX5_margin_7 rfl (lv_at hl 2 rfl) ?_
    obtain ⟨r24, q24, h⟩ := b1_s h
    refine go_i (run_S (As := [.int p1]) (rest := []) ⟨hx, hb, hml, hown, hts⟩ hnw hK hP hD (fr_M_E a k M0 L0) (ks_M_E k) (c_X5_isWarmth l D H.size p1 r24 q24) (cwS 1 hts gX5_margin_X5_isWarmth rfl rfl rfl (by decide +kernel) ⟨Nat.le_of_ble_eq_true rfl, Nat.le_of_ble_eq_true rfl⟩) rfl hl.1 rfl (Nat.le_of_ble_eq_true rfl) dX5_margin_8 ⟨Nat.zero_le _, Nat.zero_le _⟩) hP hD hS hA (fr_M_E a k M0 L0) (fun H locs hP hD hS => ?_)
    refine lv_if_ne (tgt := 16) hx hb dX5_margin_11 (by decide) (fun c25 => ?_) (fun c25 => ?_)
    · have h := it_f c25 h
      refine lv_aload_n hx hb dX5_margin_16 rfl (lv_at hl 0 rfl) ?_
      refine va_get (D := D) (ci := 5) (v := .int (M0 3 0)) (C := RX5) (T := TX5) (N := 20) hx hb hts hin5 hown hK hP 0 rfl rfl 3 (by decide) (hts (.fieldLink RX5 72 "BallastLineModel" "many" "I") (List.mem_of_getElem? (i := 1) rfl)) (fun _ h9 => h9) rfl dX5_margin_17 ?_
      refine lv_iconst (v := (4 : Int32)) hx hb dX5_margin_20 (by decide) ?_
      obtain ⟨g26, h⟩ := gd_s h
      refine lv_idiv hx hb dX5_margin_21 (nz32_s g26) ?_
      refine lv_topi (fun v27 ev27 => ?_)
      have h := ltt_s ev27 h
      refine lv_istore_n (lv' := [(3, .int v27), (0, .ref (a 0)), (1, .int p0), (2, .int p1)]) hx hb dX5_margin_22 rfl hl (by decide) rfl (fun ls hl => ?_)
      refine lv_iload_n hx hb dX5_margin_23 rfl (lv_at hl 2 rfl) ?_
      refine lv_iconst (v := (3 : Int32)) hx hb dX5_margin_24 (by decide) ?_
      refine lv_icmp_ne (tgt := 35) hx hb dX5_margin_25 (by decide) (fun c28 => ?_) (fun c28 => ?_)
      · have h := it_f c28 h
        refine lv_iload_n hx hb dX5_margin_35 rfl (lv_at hl 0 rfl) ?_
        refine lv_iload_n hx hb dX5_margin_36 rfl (lv_at hl 2 rfl) ?_
        refine lv_iconst (v := (1 : Int32)) hx hb dX5_margin_37 (by decide) ?_
        refine lv_iadd hx hb dX5_margin_38 ?_
        refine lv_imul hx hb dX5_margin_39 ?_
        exact lb40  v27 (v27 * (p0 + (1 : Int32))) M0 L0 H locs hP hD hS ls (lv_sub hl [1, 2, 3, 0] rfl) h
      · have h := it_t c28 h
        refine lv_aload_n hx hb dX5_margin_28 rfl (lv_at hl 1 rfl) ?_
        refine va_get (D := D) (ci := 5) (v := .int (M0 3 0)) (C := RX5) (T := TX5) (N := 20) hx hb hts hin5 hown hK hP 0 rfl rfl 3 (by decide) (hts (.fieldLink RX5 72 "BallastLineModel" "many" "I") (List.mem_of_getElem? (i := 1) rfl)) (fun _ h9 => h9) rfl dX5_margin_29 ?_
        refine lv_goto (tgt := 40) hx hb dX5_margin_32 (by decide) ?_
        exact lb40  v27 (M0 3 0) M0 L0 H locs hP hD hS ls (lv_sub hl [1, 2, 3, 0] rfl) h
    · have h := it_t c25 h
      refine lv_iconst (v := (-1 : Int32)) hx hb dX5_margin_14 (by decide) ?_
      have h := Option.some.inj h
      obtain ⟨hz0, h⟩ := Prod.mk.inj h
      obtain ⟨hz1, h⟩ := Prod.mk.inj h
      have hP : va_P D vwCl (xM a k Mz Lz) H := by rw [← hz1, ← h]; exact hP
      have hD : va_D A (xM a k Mz Lz) := by rw [← hz1, ← h]; exact hD
      subst hQ
      subst hAe
      exact r_i hx hb hr hlocks hz0 hP hD hS dX5_margin_15
def f_X5_work (M0 : Nat → Nat → Int32) (p0 : Int32) (p1 : Int32) : Option (Int32 × (Nat → Nat → Int32)) := b1 (f_X5_in p0 (1 : Int32) (1000 : Int32)) (fun r1 => if r1 = (0 : Int32) then (some ((-1 : Int32), M0)) else (b1 (f_X5_in p1 (0 : Int32) (1000 : Int32)) (fun r3 => if r3 = (0 : Int32) then (some ((-1 : Int32), M0)) else (if (M0 17 0) = (14 : Int32) then (some ((-2 : Int32), M0)) else (gd (inb (M0 17 0) 14) (ltt (st M0 18 (Int32.toNatClampNeg (M0 17 0)) p0) (fun (M_7 : Nat → Nat → Int32) => gd (inb (M_7 17 0) 14) (ltt (st M_7 19 (Int32.toNatClampNeg (M_7 17 0)) p1) (fun (M_9 : Nat → Nat → Int32) => ltt (st M_9 17 0 ((M_9 17 0) + (1 : Int32))) (fun (M_10 : Nat → Nat → Int32) => some (((M_10 17 0) - (1 : Int32)), M_10)))))))))))
abbrev rm_X5_work : Room := { frames := 1, cells := 0, slots := 0, locals := 22 }
set_option maxHeartbeats 4000000 in
set_option maxRecDepth 100000 in
theorem c_X5_work (l : Launch) (D : va_G) (a : Nat → Nat) (k : Nat → ClassId) (sz : Nat) (M0 : Nat → Nat → Int32) (L0 : Int64) (p0 : Int32) (p1 : Int32) (r : Int32) (Mz : (Nat → Nat → Int32)) (h : f_X5_work M0 p0 p1 = some (r, Mz)) : Met l yX5_work wsX5_work rm_X5_work (mPc D [.ref (a 0), .int p0, .int p1] (xM a k M0 L0) (tM k) sz) (mQi D (xM a k M0 L0) (xM a k Mz L0) sz r) 0 0 (va_A (xM a k M0 L0) sz) := by
  refine mk_met (cc := cX5_work) (maxL := 3) (ret := (some .int)) (by decide) rfl (Nat.le_of_ble_eq_true rfl) ?_
  intro p e s m below meth c hx hb hr hml hts hown hmn hlocks hnw hsz hK hP hD hS hA ls hl
  obtain ⟨A, hAe⟩ : ∃ A, A = va_A (xM a k M0 L0) sz := ⟨_, rfl⟩
  rw [← hAe] at hD hS hA
  generalize hargs : List.toArray ([.ref (a 0), .int p0, .int p1] : List Value) = args at hts ⊢
  generalize hQ : MQ below (mQi D (xM a k M0 L0) (xM a k Mz L0) sz r) args s 0 0 (va_A (xM a k M0 L0) sz) = Q
  have hl : lv_has ls 3 [(0, .ref (a 0)), (1, .int p0), (2, .int p1)] := hl
  have hin5 : ∀ w ∈ wsX50, w ∈ wsX5_work := fun w h => List.mem_cons_of_mem _ (List.mem_append_right _ h)
  rw [f_X5_work] at h
  obtain ⟨H, hH⟩ : ∃ H, H = s.heap := ⟨_, rfl⟩
  obtain ⟨locs, hlc⟩ : ∃ L : List Loc, L = [] := ⟨_, rfl⟩
  rw [← hH] at hP
  have hS : va_S A s.heap H locs := by rw [hH, hlc]; exact hS
  suffices hW9 : W p l e rm_X5_work s m args below meth c H locs 0 0 Q (F0 m 0 ls []) by rw [hH, hlc] at hW9; exact hW9
  refine lv_iload_n hx hb dX5_work_0 rfl (lv_at hl 1 rfl) ?_
  refine lv_iconst (v := (1 : Int32)) hx hb dX5_work_1 (by decide) ?_
  refine lv_sipush (v := (1000 : Int32)) hx hb dX5_work_2 (by decide) ?_
  obtain ⟨r1, q1, h⟩ := b1_s h
  refine go_i (run_S (As := [.int p0, .int (1 : Int32), .int (1000 : Int32)]) (rest := []) ⟨hx, hb, hml, hown, hts⟩ hnw hK hP hD (fr_M_E a k M0 L0) (ks_M_E k) (c_X5_in l D H.size p0 (1 : Int32) (1000 : Int32) r1 q1) (cwS 3 hts gX5_work_X5_in rfl rfl rfl (by decide +kernel) ⟨Nat.le_of_ble_eq_true rfl, Nat.le_of_ble_eq_true rfl⟩) rfl hl.1 rfl (Nat.le_of_ble_eq_true rfl) dX5_work_5 ⟨Nat.zero_le _, Nat.zero_le _⟩) hP hD hS hA (fr_M_E a k M0 L0) (fun H locs hP hD hS => ?_)
  refine lv_if_eq (tgt := 22) hx hb dX5_work_8 (by decide) (fun c2 => ?_) (fun c2 => ?_)
  · have h := it_t c2 h
    refine lv_iconst (v := (-1 : Int32)) hx hb dX5_work_22 (by decide) ?_
    have h := Option.some.inj h
    obtain ⟨hz0, h⟩ := Prod.mk.inj h
    have hP : va_P D vwCl (xM a k Mz L0) H := by rw [← h]; exact hP
    have hD : va_D A (xM a k Mz L0) := by rw [← h]; exact hD
    subst hQ
    subst hAe
    exact r_i hx hb hr hlocks hz0 hP hD hS dX5_work_23
  · have h := it_f c2 h
    refine lv_iload_n hx hb dX5_work_11 rfl (lv_at hl 2 rfl) ?_
    refine lv_iconst (v := (0 : Int32)) hx hb dX5_work_12 (by decide) ?_
    refine lv_sipush (v := (1000 : Int32)) hx hb dX5_work_13 (by decide) ?_
    obtain ⟨r3, q3, h⟩ := b1_s h
    refine go_i (run_S (As := [.int p1, .int (0 : Int32), .int (1000 : Int32)]) (rest := []) ⟨hx, hb, hml, hown, hts⟩ hnw hK hP hD (fr_M_E a k M0 L0) (ks_M_E k) (c_X5_in l D H.size p1 (0 : Int32) (1000 : Int32) r3 q3) (cwS 3 hts gX5_work_X5_in rfl rfl rfl (by decide +kernel) ⟨Nat.le_of_ble_eq_true rfl, Nat.le_of_ble_eq_true rfl⟩) rfl hl.1 rfl (Nat.le_of_ble_eq_true rfl) dX5_work_16 ⟨Nat.zero_le _, Nat.zero_le _⟩) hP hD hS hA (fr_M_E a k M0 L0) (fun H locs hP hD hS => ?_)
    refine lv_if_ne (tgt := 24) hx hb dX5_work_19 (by decide) (fun c4 => ?_) (fun c4 => ?_)
    · have h := it_f c4 h
      refine lv_aload_n hx hb dX5_work_24 rfl (lv_at hl 0 rfl) ?_
      refine va_get (D := D) (ci := 5) (v := .int (M0 17 0)) (C := RX5) (T := TX5) (N := 20) hx hb hts hin5 hown hK hP 0 rfl rfl 17 (by decide) (hts (.fieldLink RX5 148 "BallastLineModel" "works" "I") (List.mem_of_getElem? (i := 1) rfl)) (fun _ h9 => h9) rfl dX5_work_25 ?_
      refine lv_bipush (v := (14 : Int32)) hx hb dX5_work_28 (by decide) ?_
      refine lv_icmp_ne (tgt := 36) hx hb dX5_work_30 (by decide) (fun c5 => ?_) (fun c5 => ?_)
      · have h := it_f c5 h
        refine lv_aload_n hx hb dX5_work_36 rfl (lv_at hl 0 rfl) ?_
        refine va_get (D := D) (ci := 5) (v := .ref (a 14)) (C := RX5) (T := TX5) (N := 20) hx hb hts hin5 hown hK hP 0 rfl rfl 18 (by decide) (hts (.fieldLink RX5 50 "BallastLineModel" "costs" "[I") (List.mem_of_getElem? (i := 2) rfl)) (fun _ h9 => h9) rfl dX5_work_37 ?_
        refine lv_aload_n hx hb dX5_work_40 rfl (lv_at hl 0 rfl) ?_
        refine va_get (D := D) (ci := 5) (v := .int (M0 17 0)) (C := RX5) (T := TX5) (N := 20) hx hb hts hin5 hown hK hP 0 rfl rfl 17 (by decide) (hts (.fieldLink RX5 148 "BallastLineModel" "works" "I") (List.mem_of_getElem? (i := 1) rfl)) (fun _ h9 => h9) rfl dX5_work_41 ?_
        refine lv_iload_n hx hb dX5_work_44 rfl (lv_at hl 1 rfl) ?_
        obtain ⟨g6, h⟩ := gd_s h
        refine va_iast hx hb hK hP hD hS 14 13 rfl rfl (inb_in g6) dX5_work_45 (fun H locs hP hD hS => ?_)
        obtain ⟨M_7, eM_7⟩ : ∃ y : Nat → Nat → Int32, y = st M0 18 (Int32.toNatClampNeg (M0 17 0)) p0 := ⟨_, rfl⟩
        have h := ltt_s eM_7 h
        have hP : va_P D vwCl (xM a k M_7 L0) H := by rw [eM_7]; exact hP
        have hD : va_D A (xM a k M_7 L0) := by rw [eM_7]; exact hD
        refine lv_aload_n hx hb dX5_work_46 rfl (lv_at hl 0 rfl) ?_
        refine va_get (D := D) (ci := 5) (v := .ref (a 15)) (C := RX5) (T := TX5) (N := 20) hx hb hts hin5 hown hK hP 0 rfl rfl 19 (by decide) (hts (.fieldLink RX5 53 "BallastLineModel" "gains" "[I") (List.mem_of_getElem? (i := 3) rfl)) (fun _ h9 => h9) rfl dX5_work_47 ?_
        refine lv_aload_n hx hb dX5_work_50 rfl (lv_at hl 0 rfl) ?_
        refine va_get (D := D) (ci := 5) (v := .int (M_7 17 0)) (C := RX5) (T := TX5) (N := 20) hx hb hts hin5 hown hK hP 0 rfl rfl 17 (by decide) (hts (.fieldLink RX5 148 "BallastLineModel" "works" "I") (List.mem_of_getElem? (i := 1) rfl)) (fun _ h9 => h9) rfl dX5_work_51 ?_
        refine lv_iload_n hx hb dX5_work_54 rfl (lv_at hl 2 rfl) ?_
        obtain ⟨g8, h⟩ := gd_s h
        refine va_iast hx hb hK hP hD hS 15 14 rfl rfl (inb_in g8) dX5_work_55 (fun H locs hP hD hS => ?_)
        obtain ⟨M_9, eM_9⟩ : ∃ y : Nat → Nat → Int32, y = st M_7 19 (Int32.toNatClampNeg (M_7 17 0)) p1 := ⟨_, rfl⟩
        have h := ltt_s eM_9 h
        have hP : va_P D vwCl (xM a k M_9 L0) H := by rw [eM_9]; exact hP
        have hD : va_D A (xM a k M_9 L0) := by rw [eM_9]; exact hD
        refine lv_aload_n hx hb dX5_work_56 rfl (lv_at hl 0 rfl) ?_
        refine lv_dup hx hb dX5_work_57 rfl ?_
        refine va_get (D := D) (ci := 5) (v := .int (M_9 17 0)) (C := RX5) (T := TX5) (N := 20) hx hb hts hin5 hown hK hP 0 rfl rfl 17 (by decide) (hts (.fieldLink RX5 148 "BallastLineModel" "works" "I") (List.mem_of_getElem? (i := 1) rfl)) (fun _ h9 => h9) rfl dX5_work_58 ?_
        refine lv_iconst (v := (1 : Int32)) hx hb dX5_work_61 (by decide) ?_
        refine lv_iadd hx hb dX5_work_62 ?_
        refine va_put (D := D) (ci := 5) (v := .int ((M_9 17 0) + (1 : Int32))) (ty := .int) (C := RX5) (T := TX5) (N := 20) hx hb hts hin5 tyX5 tyX5_ok nmX5 hown hK hP hD hS 0 rfl rfl 17 (by decide) (hts (.fieldLink RX5 148 "BallastLineModel" "works" "I") (List.mem_of_getElem? (i := 1) rfl)) (fun _ h9 => h9) rfl (by decide +kernel) rfl rfl (Nat.le_of_ble_eq_true rfl) dX5_work_63 (fun H locs hP hD hS => ?_)
        obtain ⟨M_10, eM_10⟩ : ∃ y : Nat → Nat → Int32, y = st M_9 17 0 ((M_9 17 0) + (1 : Int32)) := ⟨_, rfl⟩
        have h := ltt_s eM_10 h
        have hP : va_P D vwCl (xM a k M_10 L0) H := by rw [eM_10]; exact hP
        have hD : va_D A (xM a k M_10 L0) := by rw [eM_10]; exact hD
        refine lv_aload_n hx hb dX5_work_66 rfl (lv_at hl 0 rfl) ?_
        refine va_get (D := D) (ci := 5) (v := .int (M_10 17 0)) (C := RX5) (T := TX5) (N := 20) hx hb hts hin5 hown hK hP 0 rfl rfl 17 (by decide) (hts (.fieldLink RX5 148 "BallastLineModel" "works" "I") (List.mem_of_getElem? (i := 1) rfl)) (fun _ h9 => h9) rfl dX5_work_67 ?_
        refine lv_iconst (v := (1 : Int32)) hx hb dX5_work_70 (by decide) ?_
        refine lv_isub hx hb dX5_work_71 ?_
        have h := Option.some.inj h
        obtain ⟨hz0, h⟩ := Prod.mk.inj h
        have hP : va_P D vwCl (xM a k Mz L0) H := by rw [← h]; exact hP
        have hD : va_D A (xM a k Mz L0) := by rw [← h]; exact hD
        subst hQ
        subst hAe
        exact r_i hx hb hr hlocks hz0 hP hD hS dX5_work_72
      · have h := it_t c5 h
        refine lv_bipush (v := (-2 : Int32)) hx hb dX5_work_33 (by decide) ?_
        have h := Option.some.inj h
        obtain ⟨hz0, h⟩ := Prod.mk.inj h
        have hP : va_P D vwCl (xM a k Mz L0) H := by rw [← h]; exact hP
        have hD : va_D A (xM a k Mz L0) := by rw [← h]; exact hD
        subst hQ
        subst hAe
        exact r_i hx hb hr hlocks hz0 hP hD hS dX5_work_35
    · have h := it_t c4 h
      refine lv_iconst (v := (-1 : Int32)) hx hb dX5_work_22 (by decide) ?_
      have h := Option.some.inj h
      obtain ⟨hz0, h⟩ := Prod.mk.inj h
      have hP : va_P D vwCl (xM a k Mz L0) H := by rw [← h]; exact hP
      have hD : va_D A (xM a k Mz L0) := by rw [← h]; exact hD
      subst hQ
      subst hAe
      exact r_i hx hb hr hlocks hz0 hP hD hS dX5_work_23
def f_X5_sumOf_J49 (M0 : Nat → Nat → Int32) (p0 : Int32) (p1 : Int32) (ko5 : Int32 → Int32 → Option (Int32)) (x4 : Int32) (s0 : Int32) (s1 : Int32) : Option (Int32) := ltt ((s1 + s0)) (fun v1 => ltt (x4 + (1 : Int32)) (fun v2 => ko5 v1 v2))
def f_X5_sumOf_L5 (M0 : Nat → Nat → Int32) (p0 : Int32) (p1 : Int32)  : Nat → Int32 → Int32 → Option (Int32)
  | 0, _, _ => none
  | n + 1, x3, x4 => if (M0 17 0) ≤ x4 then (some x3) else (if ((p0 >>> (x4 &&& 31)) &&& (1 : Int32)) = (0 : Int32) then (f_X5_sumOf_J49 M0 p0 p1 (f_X5_sumOf_L5 M0 p0 p1 n) x4 (0 : Int32) x3) else (if p1 = (0 : Int32) then (gd (inb x4 14) (f_X5_sumOf_J49 M0 p0 p1 (f_X5_sumOf_L5 M0 p0 p1 n) x4 (M0 19 (Int32.toNatClampNeg x4)) x3)) else (gd (inb x4 14) (f_X5_sumOf_J49 M0 p0 p1 (f_X5_sumOf_L5 M0 p0 p1 n) x4 (M0 18 (Int32.toNatClampNeg x4)) x3))))
def f_X5_sumOf (M0 : Nat → Nat → Int32) (p0 : Int32) (p1 : Int32) : Option (Int32) := f_X5_sumOf_L5 M0 p0 p1 64 (0 : Int32) (0 : Int32)
abbrev rm_X5_sumOf : Room := { frames := 0, cells := 0, slots := 0, locals := 0 }
set_option maxHeartbeats 4000000 in
set_option maxRecDepth 100000 in
theorem c_X5_sumOf (l : Launch) (D : va_G) (a : Nat → Nat) (k : Nat → ClassId) (sz : Nat) (M0 : Nat → Nat → Int32) (L0 : Int64) (p0 : Int32) (p1 : Int32) (r : Int32) (h : f_X5_sumOf M0 p0 p1 = some r) : Met l yX5_sumOf wsX5_sumOf rm_X5_sumOf (mPc D [.ref (a 0), .int p0, .int p1] (xM a k M0 L0) (tM k) sz) (mQi D (xM a k M0 L0) (xM a k M0 L0) sz r) 0 0 (va_A (xM a k M0 L0) sz) := by
  refine mk_met (cc := cX5_sumOf) (maxL := 5) (ret := (some .int)) (by decide) rfl (Nat.le_of_ble_eq_true rfl) ?_
  intro p e s m below meth c hx hb hr hml hts hown hmn hlocks hnw hsz hK hP hD hS hA ls hl
  obtain ⟨A, hAe⟩ : ∃ A, A = va_A (xM a k M0 L0) sz := ⟨_, rfl⟩
  rw [← hAe] at hD hS hA
  generalize hargs : List.toArray ([.ref (a 0), .int p0, .int p1] : List Value) = args at hts ⊢
  generalize hQ : MQ below (mQi D (xM a k M0 L0) (xM a k M0 L0) sz r) args s 0 0 (va_A (xM a k M0 L0) sz) = Q
  have hl : lv_has ls 5 [(0, .ref (a 0)), (1, .int p0), (2, .int p1)] := hl
  have hin5 : ∀ w ∈ wsX50, w ∈ wsX5_sumOf := fun w h => List.mem_cons_of_mem _ (List.mem_append_right _ h)
  have lb49 : ∀ (ko5 : Int32 → Int32 → Option (Int32)), (∀ (x3 : Int32) (x4 : Int32), ∀ (H : Heap) (locs : List Loc), va_P D vwCl (xM a k M0 L0) H → va_D A (xM a k M0 L0) → va_S A s.heap H locs → ∀ ls : Array Slot, lv_has ls 5 [(0, .ref (a 0)), (1, .int p0), (2, .int p1), (3, .int x3), (4, .int x4)] → ko5 x3 x4 = some r → W p l e rm_X5_sumOf s m args below meth c H locs 0 0 Q (F0 m 5 ls [])) → ∀ (x4 : Int32) (s0 : Int32) (s1 : Int32), ∀ (H : Heap) (locs : List Loc), va_P D vwCl (xM a k M0 L0) H → va_D A (xM a k M0 L0) → va_S A s.heap H locs → ∀ ls : Array Slot, lv_has ls 5 [(0, .ref (a 0)), (1, .int p0), (2, .int p1), (4, .int x4)] → f_X5_sumOf_J49 M0 p0 p1 ko5 x4 s0 s1 = some r → W p l e rm_X5_sumOf s m args below meth c H locs 0 0 Q (F0 m 49 ls [.int s0, .int s1]) := by
    intro ko5 hko5 x4 s0 s1 H locs hP hD hS ls hl h
    rw [f_X5_sumOf_J49] at h
    refine lv_iadd hx hb dX5_sumOf_49 ?_
    refine lv_topi (fun v1 ev1 => ?_)
    have h := ltt_s ev1 h
    refine lv_istore_n (lv' := [(3, .int v1), (0, .ref (a 0)), (1, .int p0), (2, .int p1), (4, .int x4)]) hx hb dX5_sumOf_50 rfl hl (by decide) rfl (fun ls hl => ?_)
    obtain ⟨v2, ev2⟩ : ∃ y : Int32, y = x4 + (1 : Int32) := ⟨_, rfl⟩
    have h := ltt_s ev2 h
    refine lv_iinc (v := v2) (lv' := [(4, .int v2), (3, .int v1), (0, .ref (a 0)), (1, .int p0), (2, .int p1)]) hx hb dX5_sumOf_51 hl (k := 4) rfl (by rw [ev2]; rfl) (by decide) rfl (fun ls hl => ?_)
    refine lv_goto (tgt := 5) hx hb dX5_sumOf_54 (by decide) ?_
    exact hko5 v1 v2 H locs hP hD hS ls (lv_sub hl [2, 3, 4, 1, 0] rfl) h
  have lb5 : ∀ (n : Nat), ∀ (x3 : Int32) (x4 : Int32), ∀ (H : Heap) (locs : List Loc), va_P D vwCl (xM a k M0 L0) H → va_D A (xM a k M0 L0) → va_S A s.heap H locs → ∀ ls : Array Slot, lv_has ls 5 [(0, .ref (a 0)), (1, .int p0), (2, .int p1), (3, .int x3), (4, .int x4)] → f_X5_sumOf_L5 M0 p0 p1 n x3 x4 = some r → W p l e rm_X5_sumOf s m args below meth c H locs 0 0 Q (F0 m 5 ls []) := by
    intro n
    induction n with
    | zero =>
      intro x3 x4 H locs hP hD hS ls hl h
      rw [f_X5_sumOf_L5] at h
      cases h
    | succ n ih =>
      intro x3 x4 H locs hP hD hS ls hl h
      rw [f_X5_sumOf_L5] at h
      refine lv_iload hx hb dX5_sumOf_5 (lv_at hl 4 rfl) ?_
      refine lv_aload_n hx hb dX5_sumOf_7 rfl (lv_at hl 0 rfl) ?_
      refine va_get (D := D) (ci := 5) (v := .int (M0 17 0)) (C := RX5) (T := TX5) (N := 20) hx hb hts hin5 hown hK hP 0 rfl rfl 17 (by decide) (hts (.fieldLink RX5 148 "BallastLineModel" "works" "I") (List.mem_of_getElem? (i := 1) rfl)) (fun _ h9 => h9) rfl dX5_sumOf_8 ?_
      refine lv_icmp_ge (tgt := 57) hx hb dX5_sumOf_11 (by decide) (fun c3 => ?_) (fun c3 => ?_)
      · have h := it_t c3 h
        refine lv_iload_n hx hb dX5_sumOf_57 rfl (lv_at hl 3 rfl) ?_
        have h := Option.some.inj h
        subst hQ
        subst hAe
        exact r_i hx hb hr hlocks h hP hD hS dX5_sumOf_58
      · have h := it_f c3 h
        refine lv_iload_n hx hb dX5_sumOf_14 rfl (lv_at hl 3 rfl) ?_
        refine lv_iload_n hx hb dX5_sumOf_15 rfl (lv_at hl 1 rfl) ?_
        refine lv_iload hx hb dX5_sumOf_16 (lv_at hl 4 rfl) ?_
        refine lv_ishr hx hb dX5_sumOf_18 ?_
        refine lv_iconst (v := (1 : Int32)) hx hb dX5_sumOf_19 (by decide) ?_
        refine lv_iand hx hb dX5_sumOf_20 ?_
        refine lv_if_ne (tgt := 28) hx hb dX5_sumOf_21 (by decide) (fun c4 => ?_) (fun c4 => ?_)
        · have h := it_f c4 h
          refine lv_iload_n hx hb dX5_sumOf_28 rfl (lv_at hl 2 rfl) ?_
          refine lv_if_eq (tgt := 42) hx hb dX5_sumOf_29 (by decide) (fun c5 => ?_) (fun c5 => ?_)
          · have h := it_t c5 h
            refine lv_aload_n hx hb dX5_sumOf_42 rfl (lv_at hl 0 rfl) ?_
            refine va_get (D := D) (ci := 5) (v := .ref (a 15)) (C := RX5) (T := TX5) (N := 20) hx hb hts hin5 hown hK hP 0 rfl rfl 19 (by decide) (hts (.fieldLink RX5 53 "BallastLineModel" "gains" "[I") (List.mem_of_getElem? (i := 3) rfl)) (fun _ h9 => h9) rfl dX5_sumOf_43 ?_
            refine lv_iload hx hb dX5_sumOf_46 (lv_at hl 4 rfl) ?_
            obtain ⟨g6, h⟩ := gd_s h
            refine va_iald hx hb hK hP 15 14 rfl rfl (inb_in g6) dX5_sumOf_48 ?_
            exact lb49 (f_X5_sumOf_L5 M0 p0 p1 n) ih x4 (M0 19 (Int32.toNatClampNeg x4)) x3 H locs hP hD hS ls (lv_sub hl [0, 1, 2, 4] rfl) h
          · have h := it_f c5 h
            refine lv_aload_n hx hb dX5_sumOf_32 rfl (lv_at hl 0 rfl) ?_
            refine va_get (D := D) (ci := 5) (v := .ref (a 14)) (C := RX5) (T := TX5) (N := 20) hx hb hts hin5 hown hK hP 0 rfl rfl 18 (by decide) (hts (.fieldLink RX5 50 "BallastLineModel" "costs" "[I") (List.mem_of_getElem? (i := 2) rfl)) (fun _ h9 => h9) rfl dX5_sumOf_33 ?_
            refine lv_iload hx hb dX5_sumOf_36 (lv_at hl 4 rfl) ?_
            obtain ⟨g7, h⟩ := gd_s h
            refine va_iald hx hb hK hP 14 13 rfl rfl (inb_in g7) dX5_sumOf_38 ?_
            refine lv_goto (tgt := 49) hx hb dX5_sumOf_39 (by decide) ?_
            exact lb49 (f_X5_sumOf_L5 M0 p0 p1 n) ih x4 (M0 18 (Int32.toNatClampNeg x4)) x3 H locs hP hD hS ls (lv_sub hl [0, 1, 2, 4] rfl) h
        · have h := it_t c4 h
          refine lv_iconst (v := (0 : Int32)) hx hb dX5_sumOf_24 (by decide) ?_
          refine lv_goto (tgt := 49) hx hb dX5_sumOf_25 (by decide) ?_
          exact lb49 (f_X5_sumOf_L5 M0 p0 p1 n) ih x4 (0 : Int32) x3 H locs hP hD hS ls (lv_sub hl [0, 1, 2, 4] rfl) h
  rw [f_X5_sumOf] at h
  obtain ⟨H, hH⟩ : ∃ H, H = s.heap := ⟨_, rfl⟩
  obtain ⟨locs, hlc⟩ : ∃ L : List Loc, L = [] := ⟨_, rfl⟩
  rw [← hH] at hP
  have hS : va_S A s.heap H locs := by rw [hH, hlc]; exact hS
  suffices hW9 : W p l e rm_X5_sumOf s m args below meth c H locs 0 0 Q (F0 m 0 ls []) by rw [hH, hlc] at hW9; exact hW9
  refine lv_iconst (v := (0 : Int32)) hx hb dX5_sumOf_0 (by decide) ?_
  refine lv_istore_n (lv' := [(3, .int (0 : Int32)), (0, .ref (a 0)), (1, .int p0), (2, .int p1)]) hx hb dX5_sumOf_1 rfl hl (by decide) rfl (fun ls hl => ?_)
  refine lv_iconst (v := (0 : Int32)) hx hb dX5_sumOf_2 (by decide) ?_
  refine lv_istore (lv' := [(4, .int (0 : Int32)), (3, .int (0 : Int32)), (0, .ref (a 0)), (1, .int p0), (2, .int p1)]) hx hb dX5_sumOf_3 hl (by decide) rfl (fun ls hl => ?_)
  exact lb5 64 (0 : Int32) (0 : Int32) H locs hP hD hS ls (lv_sub hl [2, 3, 4, 1, 0] rfl) h
def f_X5_best_J87 (M0 : Nat → Nat → Int32) (p0 : Int32) (ko17 : Int32 → Int32 → Int64 → Option (Int32 × Int64)) (x3 : Int32) (s0 : Int32) (L : Int64) : Option (Int32 × Int64) := ltt (x3 + (1 : Int32)) (fun v1 => ko17 s0 v1 L)
def f_X5_best_J82 (M0 : Nat → Nat → Int32) (p0 : Int32) (ko17 : Int32 → Int32 → Int64 → Option (Int32 × Int64)) (x3 : Int32) (L : Int64) : Option (Int32 × Int64) := f_X5_best_J87 M0 p0 ko17 x3 x3 L
def f_X5_best_J86 (M0 : Nat → Nat → Int32) (p0 : Int32) (ko17 : Int32 → Int32 → Int64 → Option (Int32 × Int64)) (x2 : Int32) (x3 : Int32) (L : Int64) : Option (Int32 × Int64) := f_X5_best_J87 M0 p0 ko17 x3 x2 L
def f_X5_best_L17 (M0 : Nat → Nat → Int32) (p0 : Int32)  : Nat → Int32 → Int32 → Int64 → Option (Int32 × Int64)
  | 0, _, _, _ => none
  | n + 1, x2, x3, L => if ((1 : Int32) <<< ((M0 17 0) &&& 31)) ≤ x3 then (b1 (f_X5_sumOf M0 x2 (0 : Int32)) (fun r3 => b2 (f_X5_tell L (Int32.toInt64 x2) r3) (fun r4 (L_4 : Int64) => some (r4, L_4)))) else (b1 (f_X5_sumOf M0 x3 (0 : Int32)) (fun r5 => b1 (f_X5_sumOf M0 x2 (0 : Int32)) (fun r6 => ltt ((r5 - r6)) (fun v7 => b1 (f_X5_sumOf M0 x3 (1 : Int32)) (fun r8 => b1 (f_X5_sumOf M0 x2 (1 : Int32)) (fun r9 => ltt ((r8 - r9)) (fun v10 => b1 (f_X5_sumOf M0 x3 (1 : Int32)) (fun r11 => if p0 < r11 then (f_X5_best_J86 M0 p0 (f_X5_best_L17 M0 p0 n) x2 x3 L) else (if (0 : Int32) < v7 then (f_X5_best_J82 M0 p0 (f_X5_best_L17 M0 p0 n) x3 L) else (if v7 = (0 : Int32) then (if (0 : Int32) ≤ v10 then (f_X5_best_J86 M0 p0 (f_X5_best_L17 M0 p0 n) x2 x3 L) else (f_X5_best_J82 M0 p0 (f_X5_best_L17 M0 p0 n) x3 L)) else (f_X5_best_J86 M0 p0 (f_X5_best_L17 M0 p0 n) x2 x3 L)))))))))))
def f_X5_best (M0 : Nat → Nat → Int32) (L0 : Int64) (p0 : Int32) : Option (Int32 × Int64) := b1 (f_X5_in p0 (0 : Int32) (14000 : Int32)) (fun r16 => if r16 = (0 : Int32) then (some ((-1 : Int32), L0)) else (f_X5_best_L17 M0 p0 16400 (0 : Int32) (1 : Int32) L0))
abbrev rm_X5_best : Room := { frames := 1, cells := 0, slots := 0, locals := 24 }
set_option maxHeartbeats 4000000 in
set_option maxRecDepth 100000 in
theorem c_X5_best (l : Launch) (D : va_G) (a : Nat → Nat) (k : Nat → ClassId) (sz : Nat) (M0 : Nat → Nat → Int32) (L0 : Int64) (p0 : Int32) (r : Int32) (Lz : Int64) (h : f_X5_best M0 L0 p0 = some (r, Lz)) : Met l yX5_best wsX5_best rm_X5_best (mPc D [.ref (a 0), .int p0] (xM a k M0 L0) (tM k) sz) (mQi D (xM a k M0 L0) (xM a k M0 Lz) sz r) 0 0 (va_A (xM a k M0 L0) sz) := by
  refine mk_met (cc := cX5_best) (maxL := 6) (ret := (some .int)) (by decide) rfl (Nat.le_of_ble_eq_true rfl) ?_
  intro p e s m below meth c hx hb hr hml hts hown hmn hlocks hnw hsz hK hP hD hS hA ls hl
  obtain ⟨A, hAe⟩ : ∃ A, A = va_A (xM a k M0 L0) sz := ⟨_, rfl⟩
  rw [← hAe] at hD hS hA
  generalize hargs : List.toArray ([.ref (a 0), .int p0] : List Value) = args at hts ⊢
  generalize hQ : MQ below (mQi D (xM a k M0 L0) (xM a k M0 Lz) sz r) args s 0 0 (va_A (xM a k M0 L0) sz) = Q
  have hl : lv_has ls 6 [(0, .ref (a 0)), (1, .int p0)] := hl
  have hin5 : ∀ w ∈ wsX50, w ∈ wsX5_best := fun w h => List.mem_cons_of_mem _ (List.mem_append_right _ h)
  have lb87 : ∀ (ko17 : Int32 → Int32 → Int64 → Option (Int32 × Int64)), (∀ (x2 : Int32) (x3 : Int32) (L : Int64), ∀ (H : Heap) (locs : List Loc), va_P D vwCl (xM a k M0 L) H → va_D A (xM a k M0 L) → va_S A s.heap H locs → ∀ ls : Array Slot, lv_has ls 6 [(0, .ref (a 0)), (1, .int p0), (2, .int x2), (3, .int x3)] → ko17 x2 x3 L = some (r, Lz) → W p l e rm_X5_best s m args below meth c H locs 0 0 Q (F0 m 17 ls [])) → ∀ (x3 : Int32) (s0 : Int32) (L : Int64), ∀ (H : Heap) (locs : List Loc), va_P D vwCl (xM a k M0 L) H → va_D A (xM a k M0 L) → va_S A s.heap H locs → ∀ ls : Array Slot, lv_has ls 6 [(0, .ref (a 0)), (1, .int p0), (3, .int x3)] → f_X5_best_J87 M0 p0 ko17 x3 s0 L = some (r, Lz) → W p l e rm_X5_best s m args below meth c H locs 0 0 Q (F0 m 87 ls [.int s0]) := by
    intro ko17 hko17 x3 s0 L H locs hP hD hS ls hl h
    rw [f_X5_best_J87] at h
    refine lv_istore_n (lv' := [(2, .int s0), (0, .ref (a 0)), (1, .int p0), (3, .int x3)]) hx hb dX5_best_87 rfl hl (by decide) rfl (fun ls hl => ?_)
    obtain ⟨v1, ev1⟩ : ∃ y : Int32, y = x3 + (1 : Int32) := ⟨_, rfl⟩
    have h := ltt_s ev1 h
    refine lv_iinc (v := v1) (lv' := [(3, .int v1), (2, .int s0), (0, .ref (a 0)), (1, .int p0)]) hx hb dX5_best_88 hl (k := 3) rfl (by rw [ev1]; rfl) (by decide) rfl (fun ls hl => ?_)
    refine lv_goto (tgt := 17) hx hb dX5_best_91 (by decide) ?_
    exact hko17 s0 v1 L H locs hP hD hS ls (lv_sub hl [2, 3, 1, 0] rfl) h
  have lb82 : ∀ (ko17 : Int32 → Int32 → Int64 → Option (Int32 × Int64)), (∀ (x2 : Int32) (x3 : Int32) (L : Int64), ∀ (H : Heap) (locs : List Loc), va_P D vwCl (xM a k M0 L) H → va_D A (xM a k M0 L) → va_S A s.heap H locs → ∀ ls : Array Slot, lv_has ls 6 [(0, .ref (a 0)), (1, .int p0), (2, .int x2), (3, .int x3)] → ko17 x2 x3 L = some (r, Lz) → W p l e rm_X5_best s m args below meth c H locs 0 0 Q (F0 m 17 ls [])) → ∀ (x3 : Int32) (L : Int64), ∀ (H : Heap) (locs : List Loc), va_P D vwCl (xM a k M0 L) H → va_D A (xM a k M0 L) → va_S A s.heap H locs → ∀ ls : Array Slot, lv_has ls 6 [(0, .ref (a 0)), (1, .int p0), (3, .int x3)] → f_X5_best_J82 M0 p0 ko17 x3 L = some (r, Lz) → W p l e rm_X5_best s m args below meth c H locs 0 0 Q (F0 m 82 ls []) := by
    intro ko17 hko17 x3 L H locs hP hD hS ls hl h
    rw [f_X5_best_J82] at h
    refine lv_iload_n hx hb dX5_best_82 rfl (lv_at hl 2 rfl) ?_
    refine lv_goto (tgt := 87) hx hb dX5_best_83 (by decide) ?_
    exact lb87 ko17 hko17 x3 x3 L H locs hP hD hS ls (lv_sub hl [0, 1, 2] rfl) h
  have lb86 : ∀ (ko17 : Int32 → Int32 → Int64 → Option (Int32 × Int64)), (∀ (x2 : Int32) (x3 : Int32) (L : Int64), ∀ (H : Heap) (locs : List Loc), va_P D vwCl (xM a k M0 L) H → va_D A (xM a k M0 L) → va_S A s.heap H locs → ∀ ls : Array Slot, lv_has ls 6 [(0, .ref (a 0)), (1, .int p0), (2, .int x2), (3, .int x3)] → ko17 x2 x3 L = some (r, Lz) → W p l e rm_X5_best s m args below meth c H locs 0 0 Q (F0 m 17 ls [])) → ∀ (x2 : Int32) (x3 : Int32) (L : Int64), ∀ (H : Heap) (locs : List Loc), va_P D vwCl (xM a k M0 L) H → va_D A (xM a k M0 L) → va_S A s.heap H locs → ∀ ls : Array Slot, lv_has ls 6 [(0, .ref (a 0)), (1, .int p0), (2, .int x2), (3, .int x3)] → f_X5_best_J86 M0 p0 ko17 x2 x3 L = some (r, Lz) → W p l e rm_X5_best s m args below meth c H locs 0 0 Q (F0 m 86 ls []) := by
    intro ko17 hko17 x2 x3 L H locs hP hD hS ls hl h
    rw [f_X5_best_J86] at h
    refine lv_iload_n hx hb dX5_best_86 rfl (lv_at hl 2 rfl) ?_
    exact lb87 ko17 hko17 x3 x2 L H locs hP hD hS ls (lv_sub hl [0, 1, 3] rfl) h
  have lb17 : ∀ (n : Nat), ∀ (x2 : Int32) (x3 : Int32) (L : Int64), ∀ (H : Heap) (locs : List Loc), va_P D vwCl (xM a k M0 L) H → va_D A (xM a k M0 L) → va_S A s.heap H locs → ∀ ls : Array Slot, lv_has ls 6 [(0, .ref (a 0)), (1, .int p0), (2, .int x2), (3, .int x3)] → f_X5_best_L17 M0 p0 n x2 x3 L = some (r, Lz) → W p l e rm_X5_best s m args below meth c H locs 0 0 Q (F0 m 17 ls []) := by
    intro n
    induction n with
    | zero =>
      intro x2 x3 L H locs hP hD hS ls hl h
      rw [f_X5_best_L17] at h
      cases h
    | succ n ih =>
      intro x2 x3 L H locs hP hD hS ls hl h
      rw [f_X5_best_L17] at h
      refine lv_iload_n hx hb dX5_best_17 rfl (lv_at hl 3 rfl) ?_
      refine lv_iconst (v := (1 : Int32)) hx hb dX5_best_18 (by decide) ?_
      refine lv_aload_n hx hb dX5_best_19 rfl (lv_at hl 0 rfl) ?_
      refine va_get (D := D) (ci := 5) (v := .int (M0 17 0)) (C := RX5) (T := TX5) (N := 20) hx hb hts hin5 hown hK hP 0 rfl rfl 17 (by decide) (hts (.fieldLink RX5 148 "BallastLineModel" "works" "I") (List.mem_of_getElem? (i := 1) rfl)) (fun _ h9 => h9) rfl dX5_best_20 ?_
      refine lv_ishl hx hb dX5_best_23 ?_
      refine lv_icmp_ge (tgt := 94) hx hb dX5_best_24 (by decide) (fun c2 => ?_) (fun c2 => ?_)
      · have h := it_t c2 h
        refine lv_aload_n hx hb dX5_best_94 rfl (lv_at hl 0 rfl) ?_
        refine lv_iload_n hx hb dX5_best_95 rfl (lv_at hl 2 rfl) ?_
        refine lv_i2l (v := (Int32.toInt64 x2)) hx hb dX5_best_96 rfl ?_
        refine lv_aload_n hx hb dX5_best_97 rfl (lv_at hl 0 rfl) ?_
        refine lv_iload_n hx hb dX5_best_98 rfl (lv_at hl 2 rfl) ?_
        refine lv_iconst (v := (0 : Int32)) hx hb dX5_best_99 (by decide) ?_
        obtain ⟨r3, q3, h⟩ := b1_s h
        refine go_i (run_V (As := [.int x2, .int (0 : Int32)]) (rest := [.long (Int32.toInt64 x2), .ref (a 0)]) ⟨hx, hb, hml, hown, hts⟩ hnw hK hP hD (fr_M_M a k M0 L M0 L) (ks_M_M k) (c_X5_sumOf l D a k H.size M0 L x2 (0 : Int32) r3 q3) (cwV 2 hts gX5_best_X5_sumOf rfl rfl rfl (by decide +kernel) ⟨Nat.le_of_ble_eq_true rfl, Nat.le_of_ble_eq_true rfl⟩) (rcv_M a k M0 L) rfl hl.1 rfl (Nat.le_of_ble_eq_true rfl) dX5_best_100 ⟨Nat.zero_le _, Nat.zero_le _⟩) hP hD hS hA (fr_M_M a k M0 L M0 L) (fun H locs hP hD hS => ?_)
        obtain ⟨r4, L_4, q4, h⟩ := b2_s h
        refine go_i (run_V (As := [.long (Int32.toInt64 x2), .int r3]) (rest := []) ⟨hx, hb, hml, hown, hts⟩ hnw hK hP hD (fr_M_M a k M0 L M0 L_4) (ks_M_M k) (c_X5_tell l D a k H.size M0 L (Int32.toInt64 x2) r3 r4 L_4 q4) (cwV 2 hts gX5_best_X5_tell rfl rfl rfl (by decide +kernel) ⟨Nat.le_of_ble_eq_true rfl, Nat.le_of_ble_eq_true rfl⟩) (rcv_M a k M0 L) rfl hl.1 rfl (Nat.le_of_ble_eq_true rfl) dX5_best_103 ⟨Nat.zero_le _, Nat.zero_le _⟩) hP hD hS hA (fr_M_M a k M0 L M0 L_4) (fun H locs hP hD hS => ?_)
        have h := Option.some.inj h
        obtain ⟨hz0, h⟩ := Prod.mk.inj h
        have hP : va_P D vwCl (xM a k M0 Lz) H := by rw [← h]; exact hP
        have hD : va_D A (xM a k M0 Lz) := by rw [← h]; exact hD
        subst hQ
        subst hAe
        exact r_i hx hb hr hlocks hz0 hP hD hS dX5_best_106
      · have h := it_f c2 h
        refine lv_aload_n hx hb dX5_best_27 rfl (lv_at hl 0 rfl) ?_
        refine lv_iload_n hx hb dX5_best_28 rfl (lv_at hl 3 rfl) ?_
        refine lv_iconst (v := (0 : Int32)) hx hb dX5_best_29 (by decide) ?_
        obtain ⟨r5, q5, h⟩ := b1_s h
        refine go_i (run_V (As := [.int x3, .int (0 : Int32)]) (rest := []) ⟨hx, hb, hml, hown, hts⟩ hnw hK hP hD (fr_M_M a k M0 L M0 L) (ks_M_M k) (c_X5_sumOf l D a k H.size M0 L x3 (0 : Int32) r5 q5) (cwV 2 hts gX5_best_X5_sumOf rfl rfl rfl (by decide +kernel) ⟨Nat.le_of_ble_eq_true rfl, Nat.le_of_ble_eq_true rfl⟩) (rcv_M a k M0 L) rfl hl.1 rfl (Nat.le_of_ble_eq_true rfl) dX5_best_30 ⟨Nat.zero_le _, Nat.zero_le _⟩) hP hD hS hA (fr_M_M a k M0 L M0 L) (fun H locs hP hD hS => ?_)
        refine lv_aload_n hx hb dX5_best_33 rfl (lv_at hl 0 rfl) ?_
        refine lv_iload_n hx hb dX5_best_34 rfl (lv_at hl 2 rfl) ?_
        refine lv_iconst (v := (0 : Int32)) hx hb dX5_best_35 (by decide) ?_
        obtain ⟨r6, q6, h⟩ := b1_s h
        refine go_i (run_V (As := [.int x2, .int (0 : Int32)]) (rest := [.int r5]) ⟨hx, hb, hml, hown, hts⟩ hnw hK hP hD (fr_M_M a k M0 L M0 L) (ks_M_M k) (c_X5_sumOf l D a k H.size M0 L x2 (0 : Int32) r6 q6) (cwV 2 hts gX5_best_X5_sumOf rfl rfl rfl (by decide +kernel) ⟨Nat.le_of_ble_eq_true rfl, Nat.le_of_ble_eq_true rfl⟩) (rcv_M a k M0 L) rfl hl.1 rfl (Nat.le_of_ble_eq_true rfl) dX5_best_36 ⟨Nat.zero_le _, Nat.zero_le _⟩) hP hD hS hA (fr_M_M a k M0 L M0 L) (fun H locs hP hD hS => ?_)
        refine lv_isub hx hb dX5_best_39 ?_
        refine lv_topi (fun v7 ev7 => ?_)
        have h := ltt_s ev7 h
        refine lv_istore (lv' := [(4, .int v7), (0, .ref (a 0)), (1, .int p0), (2, .int x2), (3, .int x3)]) hx hb dX5_best_40 hl (by decide) rfl (fun ls hl => ?_)
        refine lv_aload_n hx hb dX5_best_42 rfl (lv_at hl 1 rfl) ?_
        refine lv_iload_n hx hb dX5_best_43 rfl (lv_at hl 4 rfl) ?_
        refine lv_iconst (v := (1 : Int32)) hx hb dX5_best_44 (by decide) ?_
        obtain ⟨r8, q8, h⟩ := b1_s h
        refine go_i (run_V (As := [.int x3, .int (1 : Int32)]) (rest := []) ⟨hx, hb, hml, hown, hts⟩ hnw hK hP hD (fr_M_M a k M0 L M0 L) (ks_M_M k) (c_X5_sumOf l D a k H.size M0 L x3 (1 : Int32) r8 q8) (cwV 2 hts gX5_best_X5_sumOf rfl rfl rfl (by decide +kernel) ⟨Nat.le_of_ble_eq_true rfl, Nat.le_of_ble_eq_true rfl⟩) (rcv_M a k M0 L) rfl hl.1 rfl (Nat.le_of_ble_eq_true rfl) dX5_best_45 ⟨Nat.zero_le _, Nat.zero_le _⟩) hP hD hS hA (fr_M_M a k M0 L M0 L) (fun H locs hP hD hS => ?_)
        refine lv_aload_n hx hb dX5_best_48 rfl (lv_at hl 1 rfl) ?_
        refine lv_iload_n hx hb dX5_best_49 rfl (lv_at hl 3 rfl) ?_
        refine lv_iconst (v := (1 : Int32)) hx hb dX5_best_50 (by decide) ?_
        obtain ⟨r9, q9, h⟩ := b1_s h
        refine go_i (run_V (As := [.int x2, .int (1 : Int32)]) (rest := [.int r8]) ⟨hx, hb, hml, hown, hts⟩ hnw hK hP hD (fr_M_M a k M0 L M0 L) (ks_M_M k) (c_X5_sumOf l D a k H.size M0 L x2 (1 : Int32) r9 q9) (cwV 2 hts gX5_best_X5_sumOf rfl rfl rfl (by decide +kernel) ⟨Nat.le_of_ble_eq_true rfl, Nat.le_of_ble_eq_true rfl⟩) (rcv_M a k M0 L) rfl hl.1 rfl (Nat.le_of_ble_eq_true rfl) dX5_best_51 ⟨Nat.zero_le _, Nat.zero_le _⟩) hP hD hS hA (fr_M_M a k M0 L M0 L) (fun H locs hP hD hS => ?_)
        refine lv_isub hx hb dX5_best_54 ?_
        refine lv_topi (fun v10 ev10 => ?_)
        have h := ltt_s ev10 h
        refine lv_istore (lv' := [(5, .int v10), (4, .int v7), (0, .ref (a 0)), (1, .int p0), (2, .int x2), (3, .int x3)]) hx hb dX5_best_55 hl (by decide) rfl (fun ls hl => ?_)
        refine lv_aload_n hx hb dX5_best_57 rfl (lv_at hl 2 rfl) ?_
        refine lv_iload_n hx hb dX5_best_58 rfl (lv_at hl 5 rfl) ?_
        refine lv_iconst (v := (1 : Int32)) hx hb dX5_best_59 (by decide) ?_
        obtain ⟨r11, q11, h⟩ := b1_s h
        refine go_i (run_V (As := [.int x3, .int (1 : Int32)]) (rest := []) ⟨hx, hb, hml, hown, hts⟩ hnw hK hP hD (fr_M_M a k M0 L M0 L) (ks_M_M k) (c_X5_sumOf l D a k H.size M0 L x3 (1 : Int32) r11 q11) (cwV 2 hts gX5_best_X5_sumOf rfl rfl rfl (by decide +kernel) ⟨Nat.le_of_ble_eq_true rfl, Nat.le_of_ble_eq_true rfl⟩) (rcv_M a k M0 L) rfl hl.1 rfl (Nat.le_of_ble_eq_true rfl) dX5_best_60 ⟨Nat.zero_le _, Nat.zero_le _⟩) hP hD hS hA (fr_M_M a k M0 L M0 L) (fun H locs hP hD hS => ?_)
        refine lv_iload_n hx hb dX5_best_63 rfl (lv_at hl 3 rfl) ?_
        refine lv_icmp_gt (tgt := 86) hx hb dX5_best_64 (by decide) (fun c12 => ?_) (fun c12 => ?_)
        · have h := it_t c12 h
          exact lb86 (f_X5_best_L17 M0 p0 n) ih x2 x3 L H locs hP hD hS ls (lv_sub hl [2, 3, 4, 5] rfl) h
        · have h := it_f c12 h
          refine lv_iload hx hb dX5_best_67 (lv_at hl 1 rfl) ?_
          refine lv_if_gt (tgt := 82) hx hb dX5_best_69 (by decide) (fun c13 => ?_) (fun c13 => ?_)
          · have h := it_t c13 h
            exact lb82 (f_X5_best_L17 M0 p0 n) ih x3 L H locs hP hD hS ls (lv_sub hl [2, 3, 5] rfl) h
          · have h := it_f c13 h
            refine lv_iload hx hb dX5_best_72 (lv_at hl 1 rfl) ?_
            refine lv_if_ne (tgt := 86) hx hb dX5_best_74 (by decide) (fun c14 => ?_) (fun c14 => ?_)
            · have h := it_f c14 h
              exact lb86 (f_X5_best_L17 M0 p0 n) ih x2 x3 L H locs hP hD hS ls (lv_sub hl [2, 3, 4, 5] rfl) h
            · have h := it_t c14 h
              refine lv_iload hx hb dX5_best_77 (lv_at hl 0 rfl) ?_
              refine lv_if_ge (tgt := 86) hx hb dX5_best_79 (by decide) (fun c15 => ?_) (fun c15 => ?_)
              · have h := it_t c15 h
                exact lb86 (f_X5_best_L17 M0 p0 n) ih x2 x3 L H locs hP hD hS ls (lv_sub hl [2, 3, 4, 5] rfl) h
              · have h := it_f c15 h
                exact lb82 (f_X5_best_L17 M0 p0 n) ih x3 L H locs hP hD hS ls (lv_sub hl [2, 3, 5] rfl) h
  rw [f_X5_best] at h
  obtain ⟨H, hH⟩ : ∃ H, H = s.heap := ⟨_, rfl⟩
  obtain ⟨locs, hlc⟩ : ∃ L : List Loc, L = [] := ⟨_, rfl⟩
  rw [← hH] at hP
  have hS : va_S A s.heap H locs := by rw [hH, hlc]; exact hS
  suffices hW9 : W p l e rm_X5_best s m args below meth c H locs 0 0 Q (F0 m 0 ls []) by rw [hH, hlc] at hW9; exact hW9
  refine lv_iload_n hx hb dX5_best_0 rfl (lv_at hl 1 rfl) ?_
  refine lv_iconst (v := (0 : Int32)) hx hb dX5_best_1 (by decide) ?_
  refine lv_sipush (v := (14000 : Int32)) hx hb dX5_best_2 (by decide) ?_
  obtain ⟨r16, q16, h⟩ := b1_s h
  refine go_i (run_S (As := [.int p0, .int (0 : Int32), .int (14000 : Int32)]) (rest := []) ⟨hx, hb, hml, hown, hts⟩ hnw hK hP hD (fr_M_E a k M0 L0) (ks_M_E k) (c_X5_in l D H.size p0 (0 : Int32) (14000 : Int32) r16 q16) (cwS 3 hts gX5_best_X5_in rfl rfl rfl (by decide +kernel) ⟨Nat.le_of_ble_eq_true rfl, Nat.le_of_ble_eq_true rfl⟩) rfl hl.1 rfl (Nat.le_of_ble_eq_true rfl) dX5_best_5 ⟨Nat.zero_le _, Nat.zero_le _⟩) hP hD hS hA (fr_M_E a k M0 L0) (fun H locs hP hD hS => ?_)
  refine lv_if_ne (tgt := 13) hx hb dX5_best_8 (by decide) (fun c17 => ?_) (fun c17 => ?_)
  · have h := it_f c17 h
    refine lv_iconst (v := (0 : Int32)) hx hb dX5_best_13 (by decide) ?_
    refine lv_istore_n (lv' := [(2, .int (0 : Int32)), (0, .ref (a 0)), (1, .int p0)]) hx hb dX5_best_14 rfl hl (by decide) rfl (fun ls hl => ?_)
    refine lv_iconst (v := (1 : Int32)) hx hb dX5_best_15 (by decide) ?_
    refine lv_istore_n (lv' := [(3, .int (1 : Int32)), (2, .int (0 : Int32)), (0, .ref (a 0)), (1, .int p0)]) hx hb dX5_best_16 rfl hl (by decide) rfl (fun ls hl => ?_)
    exact lb17 16400 (0 : Int32) (1 : Int32) L0 H locs hP hD hS ls (lv_sub hl [2, 3, 1, 0] rfl) h
  · have h := it_t c17 h
    refine lv_iconst (v := (-1 : Int32)) hx hb dX5_best_11 (by decide) ?_
    have h := Option.some.inj h
    obtain ⟨hz0, h⟩ := Prod.mk.inj h
    have hP : va_P D vwCl (xM a k M0 Lz) H := by rw [← h]; exact hP
    have hD : va_D A (xM a k M0 Lz) := by rw [← h]; exact hD
    subst hQ
    subst hAe
    exact r_i hx hb hr hlocks hz0 hP hD hS dX5_best_12
def f_X5_first_J102 (M0 : Nat → Nat → Int32) (p0 : Int32) (ko23 : Int32 → Int32 → Int32 → Int32 → Int64 → Option (Int32 × Int64)) (ko39 : Int32 → Int32 → Int32 → Int32 → Int32 → Int32 → Int64 → Option (Int32 × Int64)) (x2 : Int32) (x3 : Int32) (x4 : Int32) (x5 : Int32) (x7 : Int32) (s0 : Int32) (L : Int64) : Option (Int32 × Int64) := ltt (x7 + (1 : Int32)) (fun v1 => ko39 x2 x3 x4 x5 s0 v1 L)
def f_X5_first_J95 (M0 : Nat → Nat → Int32) (p0 : Int32) (ko23 : Int32 → Int32 → Int32 → Int32 → Int64 → Option (Int32 × Int64)) (ko39 : Int32 → Int32 → Int32 → Int32 → Int32 → Int32 → Int64 → Option (Int32 × Int64)) (x2 : Int32) (x3 : Int32) (x4 : Int32) (x5 : Int32) (x7 : Int32) (L : Int64) : Option (Int32 × Int64) := f_X5_first_J102 M0 p0 ko23 ko39 x2 x3 x4 x5 x7 x7 L
def f_X5_first_J100 (M0 : Nat → Nat → Int32) (p0 : Int32) (ko23 : Int32 → Int32 → Int32 → Int32 → Int64 → Option (Int32 × Int64)) (ko39 : Int32 → Int32 → Int32 → Int32 → Int32 → Int32 → Int64 → Option (Int32 × Int64)) (x2 : Int32) (x3 : Int32) (x4 : Int32) (x5 : Int32) (x6 : Int32) (x7 : Int32) (L : Int64) : Option (Int32 × Int64) := f_X5_first_J102 M0 p0 ko23 ko39 x2 x3 x4 x5 x7 x6 L
def f_X5_first_J148 (M0 : Nat → Nat → Int32) (p0 : Int32) (ko23 : Int32 → Int32 → Int32 → Int32 → Int64 → Option (Int32 × Int64)) (x2 : Int32) (x3 : Int32) (x4 : Int32) (x5 : Int32) (L : Int64) : Option (Int32 × Int64) := ltt (x5 + (1 : Int32)) (fun v2 => ko23 x2 x3 x4 v2 L)
def f_X5_first_L39 (M0 : Nat → Nat → Int32) (p0 : Int32) (ko23 : Int32 → Int32 → Int32 → Int32 → Int64 → Option (Int32 × Int64)) : Nat → Int32 → Int32 → Int32 → Int32 → Int32 → Int32 → Int64 → Option (Int32 × Int64)
  | 0, _, _, _, _, _, _, _ => none
  | n + 1, x2, x3, x4, x5, x6, x7, L => if (M0 17 0) ≤ x7 then (ltt ((x2 ||| ((1 : Int32) <<< (x6 &&& 31)))) (fun v4 => gd (inb x6 14) (if x4 < (M0 18 (Int32.toNatClampNeg x6)) then (f_X5_first_J148 M0 p0 ko23 v4 x3 x4 x5 L) else (gd (inb x6 14) (ltt ((x4 - (M0 18 (Int32.toNatClampNeg x6)))) (fun v8 => ltt ((x3 ||| ((1 : Int32) <<< (x6 &&& 31)))) (fun v9 => f_X5_first_J148 M0 p0 ko23 v4 v9 v8 x5 L))))))) else (if ((x2 >>> (x7 &&& 31)) &&& (1 : Int32)) = (0 : Int32) then (if x6 < (0 : Int32) then (f_X5_first_J95 M0 p0 ko23 (f_X5_first_L39 M0 p0 ko23 n) x2 x3 x4 x5 x7 L) else (gd (inb x7 14) (gd (inb x6 14) (gd (inb x6 14) (gd (inb x7 14) (if ((M0 19 (Int32.toNatClampNeg x7)) * (M0 18 (Int32.toNatClampNeg x6))) ≤ ((M0 19 (Int32.toNatClampNeg x6)) * (M0 18 (Int32.toNatClampNeg x7))) then (f_X5_first_J100 M0 p0 ko23 (f_X5_first_L39 M0 p0 ko23 n) x2 x3 x4 x5 x6 x7 L) else (f_X5_first_J95 M0 p0 ko23 (f_X5_first_L39 M0 p0 ko23 n) x2 x3 x4 x5 x7 L))))))) else (f_X5_first_J100 M0 p0 ko23 (f_X5_first_L39 M0 p0 ko23 n) x2 x3 x4 x5 x6 x7 L))
def f_X5_first_L23 (M0 : Nat → Nat → Int32) (p0 : Int32)  : Nat → Int32 → Int32 → Int32 → Int32 → Int64 → Option (Int32 × Int64)
  | 0, _, _, _, _, _ => none
  | n + 1, x2, x3, x4, x5, L => if (M0 17 0) ≤ x5 then (b1 (f_X5_sumOf M0 x3 (0 : Int32)) (fun r18 => b2 (f_X5_tell L (Int32.toInt64 x3) r18) (fun r19 (L_19 : Int64) => some (r19, L_19)))) else (f_X5_first_L39 M0 p0 (f_X5_first_L23 M0 p0 n) 64 x2 x3 x4 x5 (-9 : Int32) (0 : Int32) L)
def f_X5_first (M0 : Nat → Nat → Int32) (L0 : Int64) (p0 : Int32) : Option (Int32 × Int64) := b1 (f_X5_in p0 (0 : Int32) (14000 : Int32)) (fun r20 => if r20 = (0 : Int32) then (some ((-1 : Int32), L0)) else (f_X5_first_L23 M0 p0 64 (0 : Int32) (0 : Int32) p0 (0 : Int32) L0))
abbrev rm_X5_first : Room := { frames := 1, cells := 0, slots := 0, locals := 24 }
set_option maxHeartbeats 4000000 in
set_option maxRecDepth 100000 in
theorem c_X5_first (l : Launch) (D : va_G) (a : Nat → Nat) (k : Nat → ClassId) (sz : Nat) (M0 : Nat → Nat → Int32) (L0 : Int64) (p0 : Int32) (r : Int32) (Lz : Int64) (h : f_X5_first M0 L0 p0 = some (r, Lz)) : Met l yX5_first wsX5_first rm_X5_first (mPc D [.ref (a 0), .int p0] (xM a k M0 L0) (tM k) sz) (mQi D (xM a k M0 L0) (xM a k M0 Lz) sz r) 0 0 (va_A (xM a k M0 L0) sz) := by
  refine mk_met (cc := cX5_first) (maxL := 8) (ret := (some .int)) (by decide) rfl (Nat.le_of_ble_eq_true rfl) ?_
  intro p e s m below meth c hx hb hr hml hts hown hmn hlocks hnw hsz hK hP hD hS hA ls hl
  obtain ⟨A, hAe⟩ : ∃ A, A = va_A (xM a k M0 L0) sz := ⟨_, rfl⟩
  rw [← hAe] at hD hS hA
  generalize hargs : List.toArray ([.ref (a 0), .int p0] : List Value) = args at hts ⊢
  generalize hQ : MQ below (mQi D (xM a k M0 L0) (xM a k M0 Lz) sz r) args s 0 0 (va_A (xM a k M0 L0) sz) = Q
  have hl : lv_has ls 8 [(0, .ref (a 0)), (1, .int p0)] := hl
  have hin5 : ∀ w ∈ wsX50, w ∈ wsX5_first := fun w h => List.mem_cons_of_mem _ (List.mem_append_right _ h)
  have lb102 : ∀ (ko23 : Int32 → Int32 → Int32 → Int32 → Int64 → Option (Int32 × Int64)), (∀ (x2 : Int32) (x3 : Int32) (x4 : Int32) (x5 : Int32) (L : Int64), ∀ (H : Heap) (locs : List Loc), va_P D vwCl (xM a k M0 L) H → va_D A (xM a k M0 L) → va_S A s.heap H locs → ∀ ls : Array Slot, lv_has ls 8 [(0, .ref (a 0)), (2, .int x2), (3, .int x3), (4, .int x4), (5, .int x5)] → ko23 x2 x3 x4 x5 L = some (r, Lz) → W p l e rm_X5_first s m args below meth c H locs 0 0 Q (F0 m 23 ls [])) → ∀ (ko39 : Int32 → Int32 → Int32 → Int32 → Int32 → Int32 → Int64 → Option (Int32 × Int64)), (∀ (x2 : Int32) (x3 : Int32) (x4 : Int32) (x5 : Int32) (x6 : Int32) (x7 : Int32) (L : Int64), ∀ (H : Heap) (locs : List Loc), va_P D vwCl (xM a k M0 L) H → va_D A (xM a k M0 L) → va_S A s.heap H locs → ∀ ls : Array Slot, lv_has ls 8 [(0, .ref (a 0)), (2, .int x2), (3, .int x3), (4, .int x4), (5, .int x5), (6, .int x6), (7, .int x7)] → ko39 x2 x3 x4 x5 x6 x7 L = some (r, Lz) → W p l e rm_X5_first s m args below meth c H locs 0 0 Q (F0 m 39 ls [])) → ∀ (x2 : Int32) (x3 : Int32) (x4 : Int32) (x5 : Int32) (x7 : Int32) (s0 : Int32) (L : Int64), ∀ (H : Heap) (locs : List Loc), va_P D vwCl (xM a k M0 L) H → va_D A (xM a k M0 L) → va_S A s.heap H locs → ∀ ls : Array Slot, lv_has ls 8 [(0, .ref (a 0)), (2, .int x2), (3, .int x3), (4, .int x4), (5, .int x5), (7, .int x7)] → f_X5_first_J102 M0 p0 ko23 ko39 x2 x3 x4 x5 x7 s0 L = some (r, Lz) → W p l e rm_X5_first s m args below meth c H locs 0 0 Q (F0 m 102 ls [.int s0]) := by
    intro ko23 hko23 ko39 hko39 x2 x3 x4 x5 x7 s0 L H locs hP hD hS ls hl h
    rw [f_X5_first_J102] at h
    refine lv_istore (lv' := [(6, .int s0), (0, .ref (a 0)), (2, .int x2), (3, .int x3), (4, .int x4), (5, .int x5), (7, .int x7)]) hx hb dX5_first_102 hl (by decide) rfl (fun ls hl => ?_)
    obtain ⟨v1, ev1⟩ : ∃ y : Int32, y = x7 + (1 : Int32) := ⟨_, rfl⟩
    have h := ltt_s ev1 h
    refine lv_iinc (v := v1) (lv' := [(7, .int v1), (6, .int s0), (0, .ref (a 0)), (2, .int x2), (3, .int x3), (4, .int x4), (5, .int x5)]) hx hb dX5_first_104 hl (k := 6) rfl (by rw [ev1]; rfl) (by decide) rfl (fun ls hl => ?_)
    refine lv_goto (tgt := 39) hx hb dX5_first_107 (by decide) ?_
    exact hko39 x2 x3 x4 x5 s0 v1 L H locs hP hD hS ls (lv_sub hl [2, 3, 4, 5, 6, 1, 0] rfl) h
  have lb95 : ∀ (ko23 : Int32 → Int32 → Int32 → Int32 → Int64 → Option (Int32 × Int64)), (∀ (x2 : Int32) (x3 : Int32) (x4 : Int32) (x5 : Int32) (L : Int64), ∀ (H : Heap) (locs : List Loc), va_P D vwCl (xM a k M0 L) H → va_D A (xM a k M0 L) → va_S A s.heap H locs → ∀ ls : Array Slot, lv_has ls 8 [(0, .ref (a 0)), (2, .int x2), (3, .int x3), (4, .int x4), (5, .int x5)] → ko23 x2 x3 x4 x5 L = some (r, Lz) → W p l e rm_X5_first s m args below meth c H locs 0 0 Q (F0 m 23 ls [])) → ∀ (ko39 : Int32 → Int32 → Int32 → Int32 → Int32 → Int32 → Int64 → Option (Int32 × Int64)), (∀ (x2 : Int32) (x3 : Int32) (x4 : Int32) (x5 : Int32) (x6 : Int32) (x7 : Int32) (L : Int64), ∀ (H : Heap) (locs : List Loc), va_P D vwCl (xM a k M0 L) H → va_D A (xM a k M0 L) → va_S A s.heap H locs → ∀ ls : Array Slot, lv_has ls 8 [(0, .ref (a 0)), (2, .int x2), (3, .int x3), (4, .int x4), (5, .int x5), (6, .int x6), (7, .int x7)] → ko39 x2 x3 x4 x5 x6 x7 L = some (r, Lz) → W p l e rm_X5_first s m args below meth c H locs 0 0 Q (F0 m 39 ls [])) → ∀ (x2 : Int32) (x3 : Int32) (x4 : Int32) (x5 : Int32) (x7 : Int32) (L : Int64), ∀ (H : Heap) (locs : List Loc), va_P D vwCl (xM a k M0 L) H → va_D A (xM a k M0 L) → va_S A s.heap H locs → ∀ ls : Array Slot, lv_has ls 8 [(0, .ref (a 0)), (2, .int x2), (3, .int x3), (4, .int x4), (5, .int x5), (7, .int x7)] → f_X5_first_J95 M0 p0 ko23 ko39 x2 x3 x4 x5 x7 L = some (r, Lz) → W p l e rm_X5_first s m args below meth c H locs 0 0 Q (F0 m 95 ls []) := by
    intro ko23 hko23 ko39 hko39 x2 x3 x4 x5 x7 L H locs hP hD hS ls hl h
    rw [f_X5_first_J95] at h
    refine lv_iload hx hb dX5_first_95 (lv_at hl 5 rfl) ?_
    refine lv_goto (tgt := 102) hx hb dX5_first_97 (by decide) ?_
    exact lb102 ko23 hko23 ko39 hko39 x2 x3 x4 x5 x7 x7 L H locs hP hD hS ls (lv_sub hl [0, 1, 2, 3, 4, 5] rfl) h
  have lb100 : ∀ (ko23 : Int32 → Int32 → Int32 → Int32 → Int64 → Option (Int32 × Int64)), (∀ (x2 : Int32) (x3 : Int32) (x4 : Int32) (x5 : Int32) (L : Int64), ∀ (H : Heap) (locs : List Loc), va_P D vwCl (xM a k M0 L) H → va_D A (xM a k M0 L) → va_S A s.heap H locs → ∀ ls : Array Slot, lv_has ls 8 [(0, .ref (a 0)), (2, .int x2), (3, .int x3), (4, .int x4), (5, .int x5)] → ko23 x2 x3 x4 x5 L = some (r, Lz) → W p l e rm_X5_first s m args below meth c H locs 0 0 Q (F0 m 23 ls [])) → ∀ (ko39 : Int32 → Int32 → Int32 → Int32 → Int32 → Int32 → Int64 → Option (Int32 × Int64)), (∀ (x2 : Int32) (x3 : Int32) (x4 : Int32) (x5 : Int32) (x6 : Int32) (x7 : Int32) (L : Int64), ∀ (H : Heap) (locs : List Loc), va_P D vwCl (xM a k M0 L) H → va_D A (xM a k M0 L) → va_S A s.heap H locs → ∀ ls : Array Slot, lv_has ls 8 [(0, .ref (a 0)), (2, .int x2), (3, .int x3), (4, .int x4), (5, .int x5), (6, .int x6), (7, .int x7)] → ko39 x2 x3 x4 x5 x6 x7 L = some (r, Lz) → W p l e rm_X5_first s m args below meth c H locs 0 0 Q (F0 m 39 ls [])) → ∀ (x2 : Int32) (x3 : Int32) (x4 : Int32) (x5 : Int32) (x6 : Int32) (x7 : Int32) (L : Int64), ∀ (H : Heap) (locs : List Loc), va_P D vwCl (xM a k M0 L) H → va_D A (xM a k M0 L) → va_S A s.heap H locs → ∀ ls : Array Slot, lv_has ls 8 [(0, .ref (a 0)), (2, .int x2), (3, .int x3), (4, .int x4), (5, .int x5), (6, .int x6), (7, .int x7)] → f_X5_first_J100 M0 p0 ko23 ko39 x2 x3 x4 x5 x6 x7 L = some (r, Lz) → W p l e rm_X5_first s m args below meth c H locs 0 0 Q (F0 m 100 ls []) := by
    intro ko23 hko23 ko39 hko39 x2 x3 x4 x5 x6 x7 L H locs hP hD hS ls hl h
    rw [f_X5_first_J100] at h
    refine lv_iload hx hb dX5_first_100 (lv_at hl 5 rfl) ?_
    exact lb102 ko23 hko23 ko39 hko39 x2 x3 x4 x5 x7 x6 L H locs hP hD hS ls (lv_sub hl [0, 1, 2, 3, 4, 6] rfl) h
  have lb148 : ∀ (ko23 : Int32 → Int32 → Int32 → Int32 → Int64 → Option (Int32 × Int64)), (∀ (x2 : Int32) (x3 : Int32) (x4 : Int32) (x5 : Int32) (L : Int64), ∀ (H : Heap) (locs : List Loc), va_P D vwCl (xM a k M0 L) H → va_D A (xM a k M0 L) → va_S A s.heap H locs → ∀ ls : Array Slot, lv_has ls 8 [(0, .ref (a 0)), (2, .int x2), (3, .int x3), (4, .int x4), (5, .int x5)] → ko23 x2 x3 x4 x5 L = some (r, Lz) → W p l e rm_X5_first s m args below meth c H locs 0 0 Q (F0 m 23 ls [])) → ∀ (x2 : Int32) (x3 : Int32) (x4 : Int32) (x5 : Int32) (L : Int64), ∀ (H : Heap) (locs : List Loc), va_P D vwCl (xM a k M0 L) H → va_D A (xM a k M0 L) → va_S A s.heap H locs → ∀ ls : Array Slot, lv_has ls 8 [(0, .ref (a 0)), (2, .int x2), (3, .int x3), (4, .int x4), (5, .int x5)] → f_X5_first_J148 M0 p0 ko23 x2 x3 x4 x5 L = some (r, Lz) → W p l e rm_X5_first s m args below meth c H locs 0 0 Q (F0 m 148 ls []) := by
    intro ko23 hko23 x2 x3 x4 x5 L H locs hP hD hS ls hl h
    rw [f_X5_first_J148] at h
    obtain ⟨v2, ev2⟩ : ∃ y : Int32, y = x5 + (1 : Int32) := ⟨_, rfl⟩
    have h := ltt_s ev2 h
    refine lv_iinc (v := v2) (lv' := [(5, .int v2), (0, .ref (a 0)), (2, .int x2), (3, .int x3), (4, .int x4)]) hx hb dX5_first_148 hl (k := 4) rfl (by rw [ev2]; rfl) (by decide) rfl (fun ls hl => ?_)
    refine lv_goto (tgt := 23) hx hb dX5_first_151 (by decide) ?_
    exact hko23 x2 x3 x4 v2 L H locs hP hD hS ls (lv_sub hl [1, 2, 3, 4, 0] rfl) h
  have lb39 : ∀ (ko23 : Int32 → Int32 → Int32 → Int32 → Int64 → Option (Int32 × Int64)), (∀ (x2 : Int32) (x3 : Int32) (x4 : Int32) (x5 : Int32) (L : Int64), ∀ (H : Heap) (locs : List Loc), va_P D vwCl (xM a k M0 L) H → va_D A (xM a k M0 L) → va_S A s.heap H locs → ∀ ls : Array Slot, lv_has ls 8 [(0, .ref (a 0)), (2, .int x2), (3, .int x3), (4, .int x4), (5, .int x5)] → ko23 x2 x3 x4 x5 L = some (r, Lz) → W p l e rm_X5_first s m args below meth c H locs 0 0 Q (F0 m 23 ls [])) → ∀ (n : Nat), ∀ (x2 : Int32) (x3 : Int32) (x4 : Int32) (x5 : Int32) (x6 : Int32) (x7 : Int32) (L : Int64), ∀ (H : Heap) (locs : List Loc), va_P D vwCl (xM a k M0 L) H → va_D A (xM a k M0 L) → va_S A s.heap H locs → ∀ ls : Array Slot, lv_has ls 8 [(0, .ref (a 0)), (2, .int x2), (3, .int x3), (4, .int x4), (5, .int x5), (6, .int x6), (7, .int x7)] → f_X5_first_L39 M0 p0 ko23 n x2 x3 x4 x5 x6 x7 L = some (r, Lz) → W p l e rm_X5_first s m args below meth c H locs 0 0 Q (F0 m 39 ls []) := by
    intro ko23 hko23
    intro n
    induction n with
    | zero =>
      intro x2 x3 x4 x5 x6 x7 L H locs hP hD hS ls hl h
      rw [f_X5_first_L39] at h
      cases h
    | succ n ih =>
      intro x2 x3 x4 x5 x6 x7 L H locs hP hD hS ls hl h
      rw [f_X5_first_L39] at h
      refine lv_iload hx hb dX5_first_39 (lv_at hl 6 rfl) ?_
      refine lv_aload_n hx hb dX5_first_41 rfl (lv_at hl 0 rfl) ?_
      refine va_get (D := D) (ci := 5) (v := .int (M0 17 0)) (C := RX5) (T := TX5) (N := 20) hx hb hts hin5 hown hK hP 0 rfl rfl 17 (by decide) (hts (.fieldLink RX5 148 "BallastLineModel" "works" "I") (List.mem_of_getElem? (i := 1) rfl)) (fun _ h9 => h9) rfl dX5_first_42 ?_
      refine lv_icmp_ge (tgt := 110) hx hb dX5_first_45 (by decide) (fun c3 => ?_) (fun c3 => ?_)
      · have h := it_t c3 h
        refine lv_iload_n hx hb dX5_first_110 rfl (lv_at hl 1 rfl) ?_
        refine lv_iconst (v := (1 : Int32)) hx hb dX5_first_111 (by decide) ?_
        refine lv_iload hx hb dX5_first_112 (lv_at hl 5 rfl) ?_
        refine lv_ishl hx hb dX5_first_114 ?_
        refine lv_ior hx hb dX5_first_115 ?_
        refine lv_topi (fun v4 ev4 => ?_)
        have h := ltt_s ev4 h
        refine lv_istore_n (lv' := [(2, .int v4), (0, .ref (a 0)), (3, .int x3), (4, .int x4), (5, .int x5), (6, .int x6), (7, .int x7)]) hx hb dX5_first_116 rfl hl (by decide) rfl (fun ls hl => ?_)
        refine lv_aload_n hx hb dX5_first_117 rfl (lv_at hl 1 rfl) ?_
        refine va_get (D := D) (ci := 5) (v := .ref (a 14)) (C := RX5) (T := TX5) (N := 20) hx hb hts hin5 hown hK hP 0 rfl rfl 18 (by decide) (hts (.fieldLink RX5 50 "BallastLineModel" "costs" "[I") (List.mem_of_getElem? (i := 3) rfl)) (fun _ h9 => h9) rfl dX5_first_118 ?_
        refine lv_iload hx hb dX5_first_121 (lv_at hl 5 rfl) ?_
        obtain ⟨g5, h⟩ := gd_s h
        refine va_iald hx hb hK hP 14 13 rfl rfl (inb_in g5) dX5_first_123 ?_
        refine lv_iload hx hb dX5_first_124 (lv_at hl 3 rfl) ?_
        refine lv_icmp_gt (tgt := 148) hx hb dX5_first_126 (by decide) (fun c6 => ?_) (fun c6 => ?_)
        · have h := it_t c6 h
          exact lb148 ko23 hko23 v4 x3 x4 x5 L H locs hP hD hS ls (lv_sub hl [1, 0, 2, 3, 4] rfl) h
        · have h := it_f c6 h
          refine lv_iload hx hb dX5_first_129 (lv_at hl 3 rfl) ?_
          refine lv_aload_n hx hb dX5_first_131 rfl (lv_at hl 1 rfl) ?_
          refine va_get (D := D) (ci := 5) (v := .ref (a 14)) (C := RX5) (T := TX5) (N := 20) hx hb hts hin5 hown hK hP 0 rfl rfl 18 (by decide) (hts (.fieldLink RX5 50 "BallastLineModel" "costs" "[I") (List.mem_of_getElem? (i := 3) rfl)) (fun _ h9 => h9) rfl dX5_first_132 ?_
          refine lv_iload hx hb dX5_first_135 (lv_at hl 5 rfl) ?_
          obtain ⟨g7, h⟩ := gd_s h
          refine va_iald hx hb hK hP 14 13 rfl rfl (inb_in g7) dX5_first_137 ?_
          refine lv_isub hx hb dX5_first_138 ?_
          refine lv_topi (fun v8 ev8 => ?_)
          have h := ltt_s ev8 h
          refine lv_istore (lv' := [(4, .int v8), (2, .int v4), (0, .ref (a 0)), (3, .int x3), (5, .int x5), (6, .int x6), (7, .int x7)]) hx hb dX5_first_139 hl (by decide) rfl (fun ls hl => ?_)
          refine lv_iload_n hx hb dX5_first_141 rfl (lv_at hl 3 rfl) ?_
          refine lv_iconst (v := (1 : Int32)) hx hb dX5_first_142 (by decide) ?_
          refine lv_iload hx hb dX5_first_143 (lv_at hl 5 rfl) ?_
          refine lv_ishl hx hb dX5_first_145 ?_
          refine lv_ior hx hb dX5_first_146 ?_
          refine lv_topi (fun v9 ev9 => ?_)
          have h := ltt_s ev9 h
          refine lv_istore_n (lv' := [(3, .int v9), (4, .int v8), (2, .int v4), (0, .ref (a 0)), (5, .int x5), (6, .int x6), (7, .int x7)]) hx hb dX5_first_147 rfl hl (by decide) rfl (fun ls hl => ?_)
          exact lb148 ko23 hko23 v4 v9 v8 x5 L H locs hP hD hS ls (lv_sub hl [3, 2, 0, 1, 4] rfl) h
      · have h := it_f c3 h
        refine lv_iload_n hx hb dX5_first_48 rfl (lv_at hl 1 rfl) ?_
        refine lv_iload hx hb dX5_first_49 (lv_at hl 6 rfl) ?_
        refine lv_ishr hx hb dX5_first_51 ?_
        refine lv_iconst (v := (1 : Int32)) hx hb dX5_first_52 (by decide) ?_
        refine lv_iand hx hb dX5_first_53 ?_
        refine lv_if_ne (tgt := 100) hx hb dX5_first_54 (by decide) (fun c10 => ?_) (fun c10 => ?_)
        · have h := it_f c10 h
          exact lb100 ko23 hko23 (f_X5_first_L39 M0 p0 ko23 n) ih x2 x3 x4 x5 x6 x7 L H locs hP hD hS ls (lv_sub hl [0, 1, 2, 3, 4, 5, 6] rfl) h
        · have h := it_t c10 h
          refine lv_iload hx hb dX5_first_57 (lv_at hl 5 rfl) ?_
          refine lv_if_lt (tgt := 95) hx hb dX5_first_59 (by decide) (fun c11 => ?_) (fun c11 => ?_)
          · have h := it_t c11 h
            exact lb95 ko23 hko23 (f_X5_first_L39 M0 p0 ko23 n) ih x2 x3 x4 x5 x7 L H locs hP hD hS ls (lv_sub hl [0, 1, 2, 3, 4, 6] rfl) h
          · have h := it_f c11 h
            refine lv_aload_n hx hb dX5_first_62 rfl (lv_at hl 0 rfl) ?_
            refine va_get (D := D) (ci := 5) (v := .ref (a 15)) (C := RX5) (T := TX5) (N := 20) hx hb hts hin5 hown hK hP 0 rfl rfl 19 (by decide) (hts (.fieldLink RX5 53 "BallastLineModel" "gains" "[I") (List.mem_of_getElem? (i := 2) rfl)) (fun _ h9 => h9) rfl dX5_first_63 ?_
            refine lv_iload hx hb dX5_first_66 (lv_at hl 6 rfl) ?_
            obtain ⟨g12, h⟩ := gd_s h
            refine va_iald hx hb hK hP 15 14 rfl rfl (inb_in g12) dX5_first_68 ?_
            refine lv_aload_n hx hb dX5_first_69 rfl (lv_at hl 0 rfl) ?_
            refine va_get (D := D) (ci := 5) (v := .ref (a 14)) (C := RX5) (T := TX5) (N := 20) hx hb hts hin5 hown hK hP 0 rfl rfl 18 (by decide) (hts (.fieldLink RX5 50 "BallastLineModel" "costs" "[I") (List.mem_of_getElem? (i := 3) rfl)) (fun _ h9 => h9) rfl dX5_first_70 ?_
            refine lv_iload hx hb dX5_first_73 (lv_at hl 5 rfl) ?_
            obtain ⟨g13, h⟩ := gd_s h
            refine va_iald hx hb hK hP 14 13 rfl rfl (inb_in g13) dX5_first_75 ?_
            refine lv_imul hx hb dX5_first_76 ?_
            refine lv_aload_n hx hb dX5_first_77 rfl (lv_at hl 0 rfl) ?_
            refine va_get (D := D) (ci := 5) (v := .ref (a 15)) (C := RX5) (T := TX5) (N := 20) hx hb hts hin5 hown hK hP 0 rfl rfl 19 (by decide) (hts (.fieldLink RX5 53 "BallastLineModel" "gains" "[I") (List.mem_of_getElem? (i := 2) rfl)) (fun _ h9 => h9) rfl dX5_first_78 ?_
            refine lv_iload hx hb dX5_first_81 (lv_at hl 5 rfl) ?_
            obtain ⟨g14, h⟩ := gd_s h
            refine va_iald hx hb hK hP 15 14 rfl rfl (inb_in g14) dX5_first_83 ?_
            refine lv_aload_n hx hb dX5_first_84 rfl (lv_at hl 0 rfl) ?_
            refine va_get (D := D) (ci := 5) (v := .ref (a 14)) (C := RX5) (T := TX5) (N := 20) hx hb hts hin5 hown hK hP 0 rfl rfl 18 (by decide) (hts (.fieldLink RX5 50 "BallastLineModel" "costs" "[I") (List.mem_of_getElem? (i := 3) rfl)) (fun _ h9 => h9) rfl dX5_first_85 ?_
            refine lv_iload hx hb dX5_first_88 (lv_at hl 6 rfl) ?_
            obtain ⟨g15, h⟩ := gd_s h
            refine va_iald hx hb hK hP 14 13 rfl rfl (inb_in g15) dX5_first_90 ?_
            refine lv_imul hx hb dX5_first_91 ?_
            refine lv_icmp_le (tgt := 100) hx hb dX5_first_92 (by decide) (fun c16 => ?_) (fun c16 => ?_)
            · have h := it_t c16 h
              exact lb100 ko23 hko23 (f_X5_first_L39 M0 p0 ko23 n) ih x2 x3 x4 x5 x6 x7 L H locs hP hD hS ls (lv_sub hl [0, 1, 2, 3, 4, 5, 6] rfl) h
            · have h := it_f c16 h
              exact lb95 ko23 hko23 (f_X5_first_L39 M0 p0 ko23 n) ih x2 x3 x4 x5 x7 L H locs hP hD hS ls (lv_sub hl [0, 1, 2, 3, 4, 6] rfl) h
  have lb23 : ∀ (n : Nat), ∀ (x2 : Int32) (x3 : Int32) (x4 : Int32) (x5 : Int32) (L : Int64), ∀ (H : Heap) (locs : List Loc), va_P D vwCl (xM a k M0 L) H → va_D A (xM a k M0 L) → va_S A s.heap H locs → ∀ ls : Array Slot, lv_has ls 8 [(0, .ref (a 0)), (2, .int x2), (3, .int x3), (4, .int x4), (5, .int x5)] → f_X5_first_L23 M0 p0 n x2 x3 x4 x5 L = some (r, Lz) → W p l e rm_X5_first s m args below meth c H locs 0 0 Q (F0 m 23 ls []) := by
    intro n
    induction n with
    | zero =>
      intro x2 x3 x4 x5 L H locs hP hD hS ls hl h
      rw [f_X5_first_L23] at h
      cases h
    | succ n ih =>
      intro x2 x3 x4 x5 L H locs hP hD hS ls hl h
      rw [f_X5_first_L23] at h
      refine lv_iload hx hb dX5_first_23 (lv_at hl 4 rfl) ?_
      refine lv_aload_n hx hb dX5_first_25 rfl (lv_at hl 0 rfl) ?_
      refine va_get (D := D) (ci := 5) (v := .int (M0 17 0)) (C := RX5) (T := TX5) (N := 20) hx hb hts hin5 hown hK hP 0 rfl rfl 17 (by decide) (hts (.fieldLink RX5 148 "BallastLineModel" "works" "I") (List.mem_of_getElem? (i := 1) rfl)) (fun _ h9 => h9) rfl dX5_first_26 ?_
      refine lv_icmp_ge (tgt := 154) hx hb dX5_first_29 (by decide) (fun c17 => ?_) (fun c17 => ?_)
      · have h := it_t c17 h
        refine lv_aload_n hx hb dX5_first_154 rfl (lv_at hl 0 rfl) ?_
        refine lv_iload_n hx hb dX5_first_155 rfl (lv_at hl 2 rfl) ?_
        refine lv_i2l (v := (Int32.toInt64 x3)) hx hb dX5_first_156 rfl ?_
        refine lv_aload_n hx hb dX5_first_157 rfl (lv_at hl 0 rfl) ?_
        refine lv_iload_n hx hb dX5_first_158 rfl (lv_at hl 2 rfl) ?_
        refine lv_iconst (v := (0 : Int32)) hx hb dX5_first_159 (by decide) ?_
        obtain ⟨r18, q18, h⟩ := b1_s h
        refine go_i (run_V (As := [.int x3, .int (0 : Int32)]) (rest := [.long (Int32.toInt64 x3), .ref (a 0)]) ⟨hx, hb, hml, hown, hts⟩ hnw hK hP hD (fr_M_M a k M0 L M0 L) (ks_M_M k) (c_X5_sumOf l D a k H.size M0 L x3 (0 : Int32) r18 q18) (cwV 2 hts gX5_first_X5_sumOf rfl rfl rfl (by decide +kernel) ⟨Nat.le_of_ble_eq_true rfl, Nat.le_of_ble_eq_true rfl⟩) (rcv_M a k M0 L) rfl hl.1 rfl (Nat.le_of_ble_eq_true rfl) dX5_first_160 ⟨Nat.zero_le _, Nat.zero_le _⟩) hP hD hS hA (fr_M_M a k M0 L M0 L) (fun H locs hP hD hS => ?_)
        obtain ⟨r19, L_19, q19, h⟩ := b2_s h
        refine go_i (run_V (As := [.long (Int32.toInt64 x3), .int r18]) (rest := []) ⟨hx, hb, hml, hown, hts⟩ hnw hK hP hD (fr_M_M a k M0 L M0 L_19) (ks_M_M k) (c_X5_tell l D a k H.size M0 L (Int32.toInt64 x3) r18 r19 L_19 q19) (cwV 2 hts gX5_first_X5_tell rfl rfl rfl (by decide +kernel) ⟨Nat.le_of_ble_eq_true rfl, Nat.le_of_ble_eq_true rfl⟩) (rcv_M a k M0 L) rfl hl.1 rfl (Nat.le_of_ble_eq_true rfl) dX5_first_163 ⟨Nat.zero_le _, Nat.zero_le _⟩) hP hD hS hA (fr_M_M a k M0 L M0 L_19) (fun H locs hP hD hS => ?_)
        have h := Option.some.inj h
        obtain ⟨hz0, h⟩ := Prod.mk.inj h
        have hP : va_P D vwCl (xM a k M0 Lz) H := by rw [← h]; exact hP
        have hD : va_D A (xM a k M0 Lz) := by rw [← h]; exact hD
        subst hQ
        subst hAe
        exact r_i hx hb hr hlocks hz0 hP hD hS dX5_first_166
      · have h := it_f c17 h
        refine lv_bipush (v := (-9 : Int32)) hx hb dX5_first_32 (by decide) ?_
        refine lv_istore (lv' := [(6, .int (-9 : Int32)), (0, .ref (a 0)), (2, .int x2), (3, .int x3), (4, .int x4), (5, .int x5)]) hx hb dX5_first_34 hl (by decide) rfl (fun ls hl => ?_)
        refine lv_iconst (v := (0 : Int32)) hx hb dX5_first_36 (by decide) ?_
        refine lv_istore (lv' := [(7, .int (0 : Int32)), (6, .int (-9 : Int32)), (0, .ref (a 0)), (2, .int x2), (3, .int x3), (4, .int x4), (5, .int x5)]) hx hb dX5_first_37 hl (by decide) rfl (fun ls hl => ?_)
        exact lb39 (f_X5_first_L23 M0 p0 n) ih 64 x2 x3 x4 x5 (-9 : Int32) (0 : Int32) L H locs hP hD hS ls (lv_sub hl [2, 3, 4, 5, 6, 1, 0] rfl) h
  rw [f_X5_first] at h
  obtain ⟨H, hH⟩ : ∃ H, H = s.heap := ⟨_, rfl⟩
  obtain ⟨locs, hlc⟩ : ∃ L : List Loc, L = [] := ⟨_, rfl⟩
  rw [← hH] at hP
  have hS : va_S A s.heap H locs := by rw [hH, hlc]; exact hS
  suffices hW9 : W p l e rm_X5_first s m args below meth c H locs 0 0 Q (F0 m 0 ls []) by rw [hH, hlc] at hW9; exact hW9
  refine lv_iload_n hx hb dX5_first_0 rfl (lv_at hl 1 rfl) ?_
  refine lv_iconst (v := (0 : Int32)) hx hb dX5_first_1 (by decide) ?_
  refine lv_sipush (v := (14000 : Int32)) hx hb dX5_first_2 (by decide) ?_
  obtain ⟨r20, q20, h⟩ := b1_s h
  refine go_i (run_S (As := [.int p0, .int (0 : Int32), .int (14000 : Int32)]) (rest := []) ⟨hx, hb, hml, hown, hts⟩ hnw hK hP hD (fr_M_E a k M0 L0) (ks_M_E k) (c_X5_in l D H.size p0 (0 : Int32) (14000 : Int32) r20 q20) (cwS 3 hts gX5_first_X5_in rfl rfl rfl (by decide +kernel) ⟨Nat.le_of_ble_eq_true rfl, Nat.le_of_ble_eq_true rfl⟩) rfl hl.1 rfl (Nat.le_of_ble_eq_true rfl) dX5_first_5 ⟨Nat.zero_le _, Nat.zero_le _⟩) hP hD hS hA (fr_M_E a k M0 L0) (fun H locs hP hD hS => ?_)
  refine lv_if_ne (tgt := 13) hx hb dX5_first_8 (by decide) (fun c21 => ?_) (fun c21 => ?_)
  · have h := it_f c21 h
    refine lv_iconst (v := (0 : Int32)) hx hb dX5_first_13 (by decide) ?_
    refine lv_istore_n (lv' := [(2, .int (0 : Int32)), (0, .ref (a 0)), (1, .int p0)]) hx hb dX5_first_14 rfl hl (by decide) rfl (fun ls hl => ?_)
    refine lv_iconst (v := (0 : Int32)) hx hb dX5_first_15 (by decide) ?_
    refine lv_istore_n (lv' := [(3, .int (0 : Int32)), (2, .int (0 : Int32)), (0, .ref (a 0)), (1, .int p0)]) hx hb dX5_first_16 rfl hl (by decide) rfl (fun ls hl => ?_)
    refine lv_iload_n hx hb dX5_first_17 rfl (lv_at hl 3 rfl) ?_
    refine lv_istore (lv' := [(4, .int p0), (3, .int (0 : Int32)), (2, .int (0 : Int32)), (0, .ref (a 0)), (1, .int p0)]) hx hb dX5_first_18 hl (by decide) rfl (fun ls hl => ?_)
    refine lv_iconst (v := (0 : Int32)) hx hb dX5_first_20 (by decide) ?_
    refine lv_istore (lv' := [(5, .int (0 : Int32)), (4, .int p0), (3, .int (0 : Int32)), (2, .int (0 : Int32)), (0, .ref (a 0)), (1, .int p0)]) hx hb dX5_first_21 hl (by decide) rfl (fun ls hl => ?_)
    exact lb23 64 (0 : Int32) (0 : Int32) p0 (0 : Int32) L0 H locs hP hD hS ls (lv_sub hl [4, 3, 2, 1, 0] rfl) h
  · have h := it_t c21 h
    refine lv_iconst (v := (-1 : Int32)) hx hb dX5_first_11 (by decide) ?_
    have h := Option.some.inj h
    obtain ⟨hz0, h⟩ := Prod.mk.inj h
    have hP : va_P D vwCl (xM a k M0 Lz) H := by rw [← h]; exact hP
    have hD : va_D A (xM a k M0 Lz) := by rw [← h]; exact hD
    subst hQ
    subst hAe
    exact r_i hx hb hr hlocks hz0 hP hD hS dX5_first_12
def f_X5_asked (L0 : Int64)  : Option (Int64) := some L0
abbrev rm_X5_asked : Room := { frames := 0, cells := 0, slots := 0, locals := 0 }
set_option maxHeartbeats 4000000 in
set_option maxRecDepth 100000 in
theorem c_X5_asked (l : Launch) (D : va_G) (a : Nat → Nat) (k : Nat → ClassId) (sz : Nat) (M0 : Nat → Nat → Int32) (L0 : Int64)  (r : Int64) (h : f_X5_asked L0 = some r) : Met l yX5_asked wsX5_asked rm_X5_asked (mPc D [.ref (a 0)] (xM a k M0 L0) (tM k) sz) (mQl D (xM a k M0 L0) (xM a k M0 L0) sz r) 0 0 (va_A (xM a k M0 L0) sz) := by
  refine mk_met (cc := cX5_asked) (maxL := 1) (ret := (some .long)) (by decide) rfl (Nat.le_of_ble_eq_true rfl) ?_
  intro p e s m below meth c hx hb hr hml hts hown hmn hlocks hnw hsz hK hP hD hS hA ls hl
  obtain ⟨A, hAe⟩ : ∃ A, A = va_A (xM a k M0 L0) sz := ⟨_, rfl⟩
  rw [← hAe] at hD hS hA
  generalize hargs : List.toArray ([.ref (a 0)] : List Value) = args at hts ⊢
  generalize hQ : MQ below (mQl D (xM a k M0 L0) (xM a k M0 L0) sz r) args s 0 0 (va_A (xM a k M0 L0) sz) = Q
  have hl : lv_has ls 1 [(0, .ref (a 0))] := hl
  have hin5 : ∀ w ∈ wsX50, w ∈ wsX5_asked := fun w h => List.mem_cons_of_mem _ (List.mem_append_right _ h)
  rw [f_X5_asked] at h
  obtain ⟨H, hH⟩ : ∃ H, H = s.heap := ⟨_, rfl⟩
  obtain ⟨locs, hlc⟩ : ∃ L : List Loc, L = [] := ⟨_, rfl⟩
  rw [← hH] at hP
  have hS : va_S A s.heap H locs := by rw [hH, hlc]; exact hS
  suffices hW9 : W p l e rm_X5_asked s m args below meth c H locs 0 0 Q (F0 m 0 ls []) by rw [hH, hlc] at hW9; exact hW9
  refine lv_aload_n hx hb dX5_asked_0 rfl (lv_at hl 0 rfl) ?_
  refine va_get (D := D) (ci := 5) (v := .long L0) (C := RX5) (T := TX5) (N := 20) hx hb hts hin5 hown hK hP 0 rfl rfl 2 (by decide) (hts (.fieldLink RX5 64 "BallastLineModel" "asked" "J") (List.mem_of_getElem? (i := 1) rfl)) (fun _ h9 => h9) rfl dX5_asked_1 ?_
  have h := Option.some.inj h
  subst hQ
  subst hAe
  exact r_l hx hb hr hlocks h hP hD hS dX5_asked_4
def f_X5_tellsCount_J32 (M0 : Nat → Nat → Int32) (p0 : Int32) (ko4 : Int32 → Int32 → Option (Int32)) (x3 : Int32) (s0 : Int32) (s1 : Int32) : Option (Int32) := ltt ((s1 + s0)) (fun v1 => ltt (x3 + (1 : Int32)) (fun v2 => ko4 v1 v2))
def f_X5_tellsCount_J68 (M0 : Nat → Nat → Int32) (p0 : Int32) (ko42 : Int32 → Int32 → Option (Int32)) (x3 : Int32) (s0 : Int32) (s1 : Int32) : Option (Int32) := ltt ((s1 + s0)) (fun v3 => ltt (x3 + (1 : Int32)) (fun v4 => ko42 v3 v4))
def f_X5_tellsCount_J76 (M0 : Nat → Nat → Int32) (p0 : Int32)  (x2 : Int32) : Option (Int32) := if p0 = (0 : Int32) then (some (M0 3 0)) else (if p0 = (2 : Int32) then (some (M0 11 0)) else (if p0 = (4 : Int32) then (some (M0 17 0)) else (some x2)))
def f_X5_tellsCount_L42 (M0 : Nat → Nat → Int32) (p0 : Int32)  : Nat → Int32 → Int32 → Option (Int32)
  | 0, _, _ => none
  | n + 1, x2, x3 => if (6 : Int32) ≤ x3 then (f_X5_tellsCount_J76 M0 p0 x2) else (if p0 = (3 : Int32) then (gd (inb x3 6) (if (M0 14 (Int32.toNatClampNeg x3)) = (0 : Int32) then (f_X5_tellsCount_J68 M0 p0 (f_X5_tellsCount_L42 M0 p0 n) x3 (0 : Int32) x2) else (f_X5_tellsCount_J68 M0 p0 (f_X5_tellsCount_L42 M0 p0 n) x3 (1 : Int32) x2))) else (f_X5_tellsCount_J76 M0 p0 x2))
def f_X5_tellsCount_J40 (M0 : Nat → Nat → Int32) (p0 : Int32)  (x2 : Int32) : Option (Int32) := f_X5_tellsCount_L42 M0 p0 64 x2 (0 : Int32)
def f_X5_tellsCount_L4 (M0 : Nat → Nat → Int32) (p0 : Int32)  : Nat → Int32 → Int32 → Option (Int32)
  | 0, _, _ => none
  | n + 1, x2, x3 => if (M0 3 0) ≤ x3 then (f_X5_tellsCount_J40 M0 p0 x2) else (if p0 = (1 : Int32) then (gd (inb x3 40) (if (M0 9 (Int32.toNatClampNeg x3)) = (0 : Int32) then (f_X5_tellsCount_J32 M0 p0 (f_X5_tellsCount_L4 M0 p0 n) x3 (0 : Int32) x2) else (f_X5_tellsCount_J32 M0 p0 (f_X5_tellsCount_L4 M0 p0 n) x3 (1 : Int32) x2))) else (f_X5_tellsCount_J40 M0 p0 x2))
def f_X5_tellsCount (M0 : Nat → Nat → Int32) (p0 : Int32) : Option (Int32) := f_X5_tellsCount_L4 M0 p0 64 (0 : Int32) (0 : Int32)
abbrev rm_X5_tellsCount : Room := { frames := 0, cells := 0, slots := 0, locals := 0 }
set_option maxHeartbeats 4000000 in
set_option maxRecDepth 100000 in
theorem c_X5_tellsCount (l : Launch) (D : va_G) (a : Nat → Nat) (k : Nat → ClassId) (sz : Nat) (M0 : Nat → Nat → Int32) (L0 : Int64) (p0 : Int32) (r : Int32) (h : f_X5_tellsCount M0 p0 = some r) : Met l yX5_tellsCount wsX5_tellsCount rm_X5_tellsCount (mPc D [.ref (a 0), .int p0] (xM a k M0 L0) (tM k) sz) (mQi D (xM a k M0 L0) (xM a k M0 L0) sz r) 0 0 (va_A (xM a k M0 L0) sz) := by
  refine mk_met (cc := cX5_tellsCount) (maxL := 4) (ret := (some .int)) (by decide) rfl (Nat.le_of_ble_eq_true rfl) ?_
  intro p e s m below meth c hx hb hr hml hts hown hmn hlocks hnw hsz hK hP hD hS hA ls hl
  obtain ⟨A, hAe⟩ : ∃ A, A = va_A (xM a k M0 L0) sz := ⟨_, rfl⟩
  rw [← hAe] at hD hS hA
  generalize hargs : List.toArray ([.ref (a 0), .int p0] : List Value) = args at hts ⊢
  generalize hQ : MQ below (mQi D (xM a k M0 L0) (xM a k M0 L0) sz r) args s 0 0 (va_A (xM a k M0 L0) sz) = Q
  have hl : lv_has ls 4 [(0, .ref (a 0)), (1, .int p0)] := hl
  have hin5 : ∀ w ∈ wsX50, w ∈ wsX5_tellsCount := fun w h => List.mem_cons_of_mem _ (List.mem_append_right _ h)
  have lb32 : ∀ (ko4 : Int32 → Int32 → Option (Int32)), (∀ (x2 : Int32) (x3 : Int32), ∀ (H : Heap) (locs : List Loc), va_P D vwCl (xM a k M0 L0) H → va_D A (xM a k M0 L0) → va_S A s.heap H locs → ∀ ls : Array Slot, lv_has ls 4 [(0, .ref (a 0)), (1, .int p0), (2, .int x2), (3, .int x3)] → ko4 x2 x3 = some r → W p l e rm_X5_tellsCount s m args below meth c H locs 0 0 Q (F0 m 4 ls [])) → ∀ (x3 : Int32) (s0 : Int32) (s1 : Int32), ∀ (H : Heap) (locs : List Loc), va_P D vwCl (xM a k M0 L0) H → va_D A (xM a k M0 L0) → va_S A s.heap H locs → ∀ ls : Array Slot, lv_has ls 4 [(0, .ref (a 0)), (1, .int p0), (3, .int x3)] → f_X5_tellsCount_J32 M0 p0 ko4 x3 s0 s1 = some r → W p l e rm_X5_tellsCount s m args below meth c H locs 0 0 Q (F0 m 32 ls [.int s0, .int s1]) := by
    intro ko4 hko4 x3 s0 s1 H locs hP hD hS ls hl h
    rw [f_X5_tellsCount_J32] at h
    refine lv_iadd hx hb dX5_tellsCount_32 ?_
    refine lv_topi (fun v1 ev1 => ?_)
    have h := ltt_s ev1 h
    refine lv_istore_n (lv' := [(2, .int v1), (0, .ref (a 0)), (1, .int p0), (3, .int x3)]) hx hb dX5_tellsCount_33 rfl hl (by decide) rfl (fun ls hl => ?_)
    obtain ⟨v2, ev2⟩ : ∃ y : Int32, y = x3 + (1 : Int32) := ⟨_, rfl⟩
    have h := ltt_s ev2 h
    refine lv_iinc (v := v2) (lv' := [(3, .int v2), (2, .int v1), (0, .ref (a 0)), (1, .int p0)]) hx hb dX5_tellsCount_34 hl (k := 3) rfl (by rw [ev2]; rfl) (by decide) rfl (fun ls hl => ?_)
    refine lv_goto (tgt := 4) hx hb dX5_tellsCount_37 (by decide) ?_
    exact hko4 v1 v2 H locs hP hD hS ls (lv_sub hl [2, 3, 1, 0] rfl) h
  have lb68 : ∀ (ko42 : Int32 → Int32 → Option (Int32)), (∀ (x2 : Int32) (x3 : Int32), ∀ (H : Heap) (locs : List Loc), va_P D vwCl (xM a k M0 L0) H → va_D A (xM a k M0 L0) → va_S A s.heap H locs → ∀ ls : Array Slot, lv_has ls 4 [(0, .ref (a 0)), (1, .int p0), (2, .int x2), (3, .int x3)] → ko42 x2 x3 = some r → W p l e rm_X5_tellsCount s m args below meth c H locs 0 0 Q (F0 m 42 ls [])) → ∀ (x3 : Int32) (s0 : Int32) (s1 : Int32), ∀ (H : Heap) (locs : List Loc), va_P D vwCl (xM a k M0 L0) H → va_D A (xM a k M0 L0) → va_S A s.heap H locs → ∀ ls : Array Slot, lv_has ls 4 [(0, .ref (a 0)), (1, .int p0), (3, .int x3)] → f_X5_tellsCount_J68 M0 p0 ko42 x3 s0 s1 = some r → W p l e rm_X5_tellsCount s m args below meth c H locs 0 0 Q (F0 m 68 ls [.int s0, .int s1]) := by
    intro ko42 hko42 x3 s0 s1 H locs hP hD hS ls hl h
    rw [f_X5_tellsCount_J68] at h
    refine lv_iadd hx hb dX5_tellsCount_68 ?_
    refine lv_topi (fun v3 ev3 => ?_)
    have h := ltt_s ev3 h
    refine lv_istore_n (lv' := [(2, .int v3), (0, .ref (a 0)), (1, .int p0), (3, .int x3)]) hx hb dX5_tellsCount_69 rfl hl (by decide) rfl (fun ls hl => ?_)
    obtain ⟨v4, ev4⟩ : ∃ y : Int32, y = x3 + (1 : Int32) := ⟨_, rfl⟩
    have h := ltt_s ev4 h
    refine lv_iinc (v := v4) (lv' := [(3, .int v4), (2, .int v3), (0, .ref (a 0)), (1, .int p0)]) hx hb dX5_tellsCount_70 hl (k := 3) rfl (by rw [ev4]; rfl) (by decide) rfl (fun ls hl => ?_)
    refine lv_goto (tgt := 42) hx hb dX5_tellsCount_73 (by decide) ?_
    exact hko42 v3 v4 H locs hP hD hS ls (lv_sub hl [2, 3, 1, 0] rfl) h
  have lb76 : ∀ (x2 : Int32), ∀ (H : Heap) (locs : List Loc), va_P D vwCl (xM a k M0 L0) H → va_D A (xM a k M0 L0) → va_S A s.heap H locs → ∀ ls : Array Slot, lv_has ls 4 [(0, .ref (a 0)), (1, .int p0), (2, .int x2)] → f_X5_tellsCount_J76 M0 p0 x2 = some r → W p l e rm_X5_tellsCount s m args below meth c H locs 0 0 Q (F0 m 76 ls []) := by
    intro  x2 H locs hP hD hS ls hl h
    rw [f_X5_tellsCount_J76] at h
    refine lv_iload_n hx hb dX5_tellsCount_76 rfl (lv_at hl 1 rfl) ?_
    refine lv_if_ne (tgt := 87) hx hb dX5_tellsCount_77 (by decide) (fun c5 => ?_) (fun c5 => ?_)
    · have h := it_f c5 h
      refine lv_iload_n hx hb dX5_tellsCount_87 rfl (lv_at hl 1 rfl) ?_
      refine lv_iconst (v := (2 : Int32)) hx hb dX5_tellsCount_88 (by decide) ?_
      refine lv_icmp_ne (tgt := 99) hx hb dX5_tellsCount_89 (by decide) (fun c6 => ?_) (fun c6 => ?_)
      · have h := it_f c6 h
        refine lv_iload_n hx hb dX5_tellsCount_99 rfl (lv_at hl 1 rfl) ?_
        refine lv_iconst (v := (4 : Int32)) hx hb dX5_tellsCount_100 (by decide) ?_
        refine lv_icmp_ne (tgt := 111) hx hb dX5_tellsCount_101 (by decide) (fun c7 => ?_) (fun c7 => ?_)
        · have h := it_f c7 h
          refine lv_iload_n hx hb dX5_tellsCount_111 rfl (lv_at hl 2 rfl) ?_
          have h := Option.some.inj h
          subst hQ
          subst hAe
          exact r_i hx hb hr hlocks h hP hD hS dX5_tellsCount_112
        · have h := it_t c7 h
          refine lv_aload_n hx hb dX5_tellsCount_104 rfl (lv_at hl 0 rfl) ?_
          refine va_get (D := D) (ci := 5) (v := .int (M0 17 0)) (C := RX5) (T := TX5) (N := 20) hx hb hts hin5 hown hK hP 0 rfl rfl 17 (by decide) (hts (.fieldLink RX5 148 "BallastLineModel" "works" "I") (List.mem_of_getElem? (i := 5) rfl)) (fun _ h9 => h9) rfl dX5_tellsCount_105 ?_
          refine lv_goto (tgt := 112) hx hb dX5_tellsCount_108 (by decide) ?_
          have h := Option.some.inj h
          subst hQ
          subst hAe
          exact r_i hx hb hr hlocks h hP hD hS dX5_tellsCount_112
      · have h := it_t c6 h
        refine lv_aload_n hx hb dX5_tellsCount_92 rfl (lv_at hl 0 rfl) ?_
        refine va_get (D := D) (ci := 5) (v := .int (M0 11 0)) (C := RX5) (T := TX5) (N := 20) hx hb hts hin5 hown hK hP 0 rfl rfl 11 (by decide) (hts (.fieldLink RX5 99 "BallastLineModel" "axles" "I") (List.mem_of_getElem? (i := 4) rfl)) (fun _ h9 => h9) rfl dX5_tellsCount_93 ?_
        refine lv_goto (tgt := 112) hx hb dX5_tellsCount_96 (by decide) ?_
        have h := Option.some.inj h
        subst hQ
        subst hAe
        exact r_i hx hb hr hlocks h hP hD hS dX5_tellsCount_112
    · have h := it_t c5 h
      refine lv_aload_n hx hb dX5_tellsCount_80 rfl (lv_at hl 0 rfl) ?_
      refine va_get (D := D) (ci := 5) (v := .int (M0 3 0)) (C := RX5) (T := TX5) (N := 20) hx hb hts hin5 hown hK hP 0 rfl rfl 3 (by decide) (hts (.fieldLink RX5 72 "BallastLineModel" "many" "I") (List.mem_of_getElem? (i := 1) rfl)) (fun _ h9 => h9) rfl dX5_tellsCount_81 ?_
      refine lv_goto (tgt := 112) hx hb dX5_tellsCount_84 (by decide) ?_
      have h := Option.some.inj h
      subst hQ
      subst hAe
      exact r_i hx hb hr hlocks h hP hD hS dX5_tellsCount_112
  have lb42 : ∀ (n : Nat), ∀ (x2 : Int32) (x3 : Int32), ∀ (H : Heap) (locs : List Loc), va_P D vwCl (xM a k M0 L0) H → va_D A (xM a k M0 L0) → va_S A s.heap H locs → ∀ ls : Array Slot, lv_has ls 4 [(0, .ref (a 0)), (1, .int p0), (2, .int x2), (3, .int x3)] → f_X5_tellsCount_L42 M0 p0 n x2 x3 = some r → W p l e rm_X5_tellsCount s m args below meth c H locs 0 0 Q (F0 m 42 ls []) := by
    intro n
    induction n with
    | zero =>
      intro x2 x3 H locs hP hD hS ls hl h
      rw [f_X5_tellsCount_L42] at h
      cases h
    | succ n ih =>
      intro x2 x3 H locs hP hD hS ls hl h
      rw [f_X5_tellsCount_L42] at h
      refine lv_iload_n hx hb dX5_tellsCount_42 rfl (lv_at hl 3 rfl) ?_
      refine lv_bipush (v := (6 : Int32)) hx hb dX5_tellsCount_43 (by decide) ?_
      refine lv_icmp_ge (tgt := 76) hx hb dX5_tellsCount_45 (by decide) (fun c8 => ?_) (fun c8 => ?_)
      · have h := it_t c8 h
        exact lb76  x2 H locs hP hD hS ls (lv_sub hl [0, 1, 2] rfl) h
      · have h := it_f c8 h
        refine lv_iload_n hx hb dX5_tellsCount_48 rfl (lv_at hl 1 rfl) ?_
        refine lv_iconst (v := (3 : Int32)) hx hb dX5_tellsCount_49 (by decide) ?_
        refine lv_icmp_ne (tgt := 76) hx hb dX5_tellsCount_50 (by decide) (fun c9 => ?_) (fun c9 => ?_)
        · have h := it_f c9 h
          exact lb76  x2 H locs hP hD hS ls (lv_sub hl [0, 1, 2] rfl) h
        · have h := it_t c9 h
          refine lv_iload_n hx hb dX5_tellsCount_53 rfl (lv_at hl 2 rfl) ?_
          refine lv_aload_n hx hb dX5_tellsCount_54 rfl (lv_at hl 0 rfl) ?_
          refine va_get (D := D) (ci := 5) (v := .ref (a 11)) (C := RX5) (T := TX5) (N := 20) hx hb hts hin5 hown hK hP 0 rfl rfl 14 (by decide) (hts (.fieldLink RX5 41 "BallastLineModel" "isRun" "[Z") (List.mem_of_getElem? (i := 3) rfl)) (fun _ h9 => h9) rfl dX5_tellsCount_55 ?_
          refine lv_iload_n hx hb dX5_tellsCount_58 rfl (lv_at hl 3 rfl) ?_
          obtain ⟨g10, h⟩ := gd_s h
          refine va_zald hx hb hK hP 11 10 rfl rfl (inb_in g10) dX5_tellsCount_59 ?_
          refine lv_if_eq (tgt := 67) hx hb dX5_tellsCount_60 (by decide) (fun c11 => ?_) (fun c11 => ?_)
          · have h := it_t c11 h
            refine lv_iconst (v := (0 : Int32)) hx hb dX5_tellsCount_67 (by decide) ?_
            exact lb68 (f_X5_tellsCount_L42 M0 p0 n) ih x3 (0 : Int32) x2 H locs hP hD hS ls (lv_sub hl [0, 1, 3] rfl) h
          · have h := it_f c11 h
            refine lv_iconst (v := (1 : Int32)) hx hb dX5_tellsCount_63 (by decide) ?_
            refine lv_goto (tgt := 68) hx hb dX5_tellsCount_64 (by decide) ?_
            exact lb68 (f_X5_tellsCount_L42 M0 p0 n) ih x3 (1 : Int32) x2 H locs hP hD hS ls (lv_sub hl [0, 1, 3] rfl) h
  have lb40 : ∀ (x2 : Int32), ∀ (H : Heap) (locs : List Loc), va_P D vwCl (xM a k M0 L0) H → va_D A (xM a k M0 L0) → va_S A s.heap H locs → ∀ ls : Array Slot, lv_has ls 4 [(0, .ref (a 0)), (1, .int p0), (2, .int x2)] → f_X5_tellsCount_J40 M0 p0 x2 = some r → W p l e rm_X5_tellsCount s m args below meth c H locs 0 0 Q (F0 m 40 ls []) := by
    intro  x2 H locs hP hD hS ls hl h
    rw [f_X5_tellsCount_J40] at h
    refine lv_iconst (v := (0 : Int32)) hx hb dX5_tellsCount_40 (by decide) ?_
    refine lv_istore_n (lv' := [(3, .int (0 : Int32)), (0, .ref (a 0)), (1, .int p0), (2, .int x2)]) hx hb dX5_tellsCount_41 rfl hl (by decide) rfl (fun ls hl => ?_)
    exact lb42 64 x2 (0 : Int32) H locs hP hD hS ls (lv_sub hl [1, 2, 3, 0] rfl) h
  have lb4 : ∀ (n : Nat), ∀ (x2 : Int32) (x3 : Int32), ∀ (H : Heap) (locs : List Loc), va_P D vwCl (xM a k M0 L0) H → va_D A (xM a k M0 L0) → va_S A s.heap H locs → ∀ ls : Array Slot, lv_has ls 4 [(0, .ref (a 0)), (1, .int p0), (2, .int x2), (3, .int x3)] → f_X5_tellsCount_L4 M0 p0 n x2 x3 = some r → W p l e rm_X5_tellsCount s m args below meth c H locs 0 0 Q (F0 m 4 ls []) := by
    intro n
    induction n with
    | zero =>
      intro x2 x3 H locs hP hD hS ls hl h
      rw [f_X5_tellsCount_L4] at h
      cases h
    | succ n ih =>
      intro x2 x3 H locs hP hD hS ls hl h
      rw [f_X5_tellsCount_L4] at h
      refine lv_iload_n hx hb dX5_tellsCount_4 rfl (lv_at hl 3 rfl) ?_
      refine lv_aload_n hx hb dX5_tellsCount_5 rfl (lv_at hl 0 rfl) ?_
      refine va_get (D := D) (ci := 5) (v := .int (M0 3 0)) (C := RX5) (T := TX5) (N := 20) hx hb hts hin5 hown hK hP 0 rfl rfl 3 (by decide) (hts (.fieldLink RX5 72 "BallastLineModel" "many" "I") (List.mem_of_getElem? (i := 1) rfl)) (fun _ h9 => h9) rfl dX5_tellsCount_6 ?_
      refine lv_icmp_ge (tgt := 40) hx hb dX5_tellsCount_9 (by decide) (fun c12 => ?_) (fun c12 => ?_)
      · have h := it_t c12 h
        exact lb40  x2 H locs hP hD hS ls (lv_sub hl [0, 1, 2] rfl) h
      · have h := it_f c12 h
        refine lv_iload_n hx hb dX5_tellsCount_12 rfl (lv_at hl 1 rfl) ?_
        refine lv_iconst (v := (1 : Int32)) hx hb dX5_tellsCount_13 (by decide) ?_
        refine lv_icmp_ne (tgt := 40) hx hb dX5_tellsCount_14 (by decide) (fun c13 => ?_) (fun c13 => ?_)
        · have h := it_f c13 h
          exact lb40  x2 H locs hP hD hS ls (lv_sub hl [0, 1, 2] rfl) h
        · have h := it_t c13 h
          refine lv_iload_n hx hb dX5_tellsCount_17 rfl (lv_at hl 2 rfl) ?_
          refine lv_aload_n hx hb dX5_tellsCount_18 rfl (lv_at hl 0 rfl) ?_
          refine va_get (D := D) (ci := 5) (v := .ref (a 7)) (C := RX5) (T := TX5) (N := 20) hx hb hts hin5 hown hK hP 0 rfl rfl 9 (by decide) (hts (.fieldLink RX5 28 "BallastLineModel" "isLost" "[Z") (List.mem_of_getElem? (i := 2) rfl)) (fun _ h9 => h9) rfl dX5_tellsCount_19 ?_
          refine lv_iload_n hx hb dX5_tellsCount_22 rfl (lv_at hl 3 rfl) ?_
          obtain ⟨g14, h⟩ := gd_s h
          refine va_zald hx hb hK hP 7 6 rfl rfl (inb_in g14) dX5_tellsCount_23 ?_
          refine lv_if_eq (tgt := 31) hx hb dX5_tellsCount_24 (by decide) (fun c15 => ?_) (fun c15 => ?_)
          · have h := it_t c15 h
            refine lv_iconst (v := (0 : Int32)) hx hb dX5_tellsCount_31 (by decide) ?_
            exact lb32 (f_X5_tellsCount_L4 M0 p0 n) ih x3 (0 : Int32) x2 H locs hP hD hS ls (lv_sub hl [0, 1, 3] rfl) h
          · have h := it_f c15 h
            refine lv_iconst (v := (1 : Int32)) hx hb dX5_tellsCount_27 (by decide) ?_
            refine lv_goto (tgt := 32) hx hb dX5_tellsCount_28 (by decide) ?_
            exact lb32 (f_X5_tellsCount_L4 M0 p0 n) ih x3 (1 : Int32) x2 H locs hP hD hS ls (lv_sub hl [0, 1, 3] rfl) h
  rw [f_X5_tellsCount] at h
  obtain ⟨H, hH⟩ : ∃ H, H = s.heap := ⟨_, rfl⟩
  obtain ⟨locs, hlc⟩ : ∃ L : List Loc, L = [] := ⟨_, rfl⟩
  rw [← hH] at hP
  have hS : va_S A s.heap H locs := by rw [hH, hlc]; exact hS
  suffices hW9 : W p l e rm_X5_tellsCount s m args below meth c H locs 0 0 Q (F0 m 0 ls []) by rw [hH, hlc] at hW9; exact hW9
  refine lv_iconst (v := (0 : Int32)) hx hb dX5_tellsCount_0 (by decide) ?_
  refine lv_istore_n (lv' := [(2, .int (0 : Int32)), (0, .ref (a 0)), (1, .int p0)]) hx hb dX5_tellsCount_1 rfl hl (by decide) rfl (fun ls hl => ?_)
  refine lv_iconst (v := (0 : Int32)) hx hb dX5_tellsCount_2 (by decide) ?_
  refine lv_istore_n (lv' := [(3, .int (0 : Int32)), (2, .int (0 : Int32)), (0, .ref (a 0)), (1, .int p0)]) hx hb dX5_tellsCount_3 rfl hl (by decide) rfl (fun ls hl => ?_)
  exact lb4 64 (0 : Int32) (0 : Int32) H locs hP hD hS ls (lv_sub hl [2, 3, 1, 0] rfl) h
def f_X5_count (M0 : Nat → Nat → Int32) (p0 : Int32) : Option (Int32) := b1 (f_X5_in p0 (0 : Int32) (4 : Int32)) (fun r1 => if r1 = (0 : Int32) then (some (-1 : Int32)) else (b1 (f_X5_tellsCount M0 p0) (fun r3 => some r3)))
abbrev rm_X5_count : Room := { frames := 1, cells := 0, slots := 0, locals := 23 }
set_option maxHeartbeats 4000000 in
set_option maxRecDepth 100000 in
theorem c_X5_count (l : Launch) (D : va_G) (a : Nat → Nat) (k : Nat → ClassId) (sz : Nat) (M0 : Nat → Nat → Int32) (L0 : Int64) (p0 : Int32) (r : Int32) (h : f_X5_count M0 p0 = some r) : Met l yX5_count wsX5_count rm_X5_count (mPc D [.ref (a 0), .int p0] (xM a k M0 L0) (tM k) sz) (mQi D (xM a k M0 L0) (xM a k M0 L0) sz r) 0 0 (va_A (xM a k M0 L0) sz) := by
  refine mk_met (cc := cX5_count) (maxL := 2) (ret := (some .int)) (by decide) rfl (Nat.le_of_ble_eq_true rfl) ?_
  intro p e s m below meth c hx hb hr hml hts hown hmn hlocks hnw hsz hK hP hD hS hA ls hl
  obtain ⟨A, hAe⟩ : ∃ A, A = va_A (xM a k M0 L0) sz := ⟨_, rfl⟩
  rw [← hAe] at hD hS hA
  generalize hargs : List.toArray ([.ref (a 0), .int p0] : List Value) = args at hts ⊢
  generalize hQ : MQ below (mQi D (xM a k M0 L0) (xM a k M0 L0) sz r) args s 0 0 (va_A (xM a k M0 L0) sz) = Q
  have hl : lv_has ls 2 [(0, .ref (a 0)), (1, .int p0)] := hl
  rw [f_X5_count] at h
  obtain ⟨H, hH⟩ : ∃ H, H = s.heap := ⟨_, rfl⟩
  obtain ⟨locs, hlc⟩ : ∃ L : List Loc, L = [] := ⟨_, rfl⟩
  rw [← hH] at hP
  have hS : va_S A s.heap H locs := by rw [hH, hlc]; exact hS
  suffices hW9 : W p l e rm_X5_count s m args below meth c H locs 0 0 Q (F0 m 0 ls []) by rw [hH, hlc] at hW9; exact hW9
  refine lv_iload_n hx hb dX5_count_0 rfl (lv_at hl 1 rfl) ?_
  refine lv_iconst (v := (0 : Int32)) hx hb dX5_count_1 (by decide) ?_
  refine lv_iconst (v := (4 : Int32)) hx hb dX5_count_2 (by decide) ?_
  obtain ⟨r1, q1, h⟩ := b1_s h
  refine go_i (run_S (As := [.int p0, .int (0 : Int32), .int (4 : Int32)]) (rest := []) ⟨hx, hb, hml, hown, hts⟩ hnw hK hP hD (fr_M_E a k M0 L0) (ks_M_E k) (c_X5_in l D H.size p0 (0 : Int32) (4 : Int32) r1 q1) (cwS 3 hts gX5_count_X5_in rfl rfl rfl (by decide +kernel) ⟨Nat.le_of_ble_eq_true rfl, Nat.le_of_ble_eq_true rfl⟩) rfl hl.1 rfl (Nat.le_of_ble_eq_true rfl) dX5_count_3 ⟨Nat.zero_le _, Nat.zero_le _⟩) hP hD hS hA (fr_M_E a k M0 L0) (fun H locs hP hD hS => ?_)
  refine lv_if_eq (tgt := 17) hx hb dX5_count_6 (by decide) (fun c2 => ?_) (fun c2 => ?_)
  · have h := it_t c2 h
    refine lv_iconst (v := (-1 : Int32)) hx hb dX5_count_17 (by decide) ?_
    have h := Option.some.inj h
    subst hQ
    subst hAe
    exact r_i hx hb hr hlocks h hP hD hS dX5_count_18
  · have h := it_f c2 h
    refine lv_aload_n hx hb dX5_count_9 rfl (lv_at hl 0 rfl) ?_
    refine lv_iload_n hx hb dX5_count_10 rfl (lv_at hl 1 rfl) ?_
    obtain ⟨r3, q3, h⟩ := b1_s h
    refine go_i (run_V (As := [.int p0]) (rest := []) ⟨hx, hb, hml, hown, hts⟩ hnw hK hP hD (fr_M_M a k M0 L0 M0 L0) (ks_M_M k) (c_X5_tellsCount l D a k H.size M0 L0 p0 r3 q3) (cwV 1 hts gX5_count_X5_tellsCount rfl rfl rfl (by decide +kernel) ⟨Nat.le_of_ble_eq_true rfl, Nat.le_of_ble_eq_true rfl⟩) (rcv_M a k M0 L0) rfl hl.1 rfl (Nat.le_of_ble_eq_true rfl) dX5_count_11 ⟨Nat.zero_le _, Nat.zero_le _⟩) hP hD hS hA (fr_M_M a k M0 L0 M0 L0) (fun H locs hP hD hS => ?_)
    refine lv_goto (tgt := 18) hx hb dX5_count_14 (by decide) ?_
    have h := Option.some.inj h
    subst hQ
    subst hAe
    exact r_i hx hb hr hlocks h hP hD hS dX5_count_18
def f_X5_finding (M0 : Nat → Nat → Int32)  : Option (Int32) := some (M0 0 0)
abbrev rm_X5_finding : Room := { frames := 0, cells := 0, slots := 0, locals := 0 }
set_option maxHeartbeats 4000000 in
set_option maxRecDepth 100000 in
theorem c_X5_finding (l : Launch) (D : va_G) (a : Nat → Nat) (k : Nat → ClassId) (sz : Nat) (M0 : Nat → Nat → Int32) (L0 : Int64)  (r : Int32) (h : f_X5_finding M0 = some r) : Met l yX5_finding wsX5_finding rm_X5_finding (mPc D [.ref (a 0)] (xM a k M0 L0) (tM k) sz) (mQi D (xM a k M0 L0) (xM a k M0 L0) sz r) 0 0 (va_A (xM a k M0 L0) sz) := by
  refine mk_met (cc := cX5_finding) (maxL := 1) (ret := (some .int)) (by decide) rfl (Nat.le_of_ble_eq_true rfl) ?_
  intro p e s m below meth c hx hb hr hml hts hown hmn hlocks hnw hsz hK hP hD hS hA ls hl
  obtain ⟨A, hAe⟩ : ∃ A, A = va_A (xM a k M0 L0) sz := ⟨_, rfl⟩
  rw [← hAe] at hD hS hA
  generalize hargs : List.toArray ([.ref (a 0)] : List Value) = args at hts ⊢
  generalize hQ : MQ below (mQi D (xM a k M0 L0) (xM a k M0 L0) sz r) args s 0 0 (va_A (xM a k M0 L0) sz) = Q
  have hl : lv_has ls 1 [(0, .ref (a 0))] := hl
  have hin5 : ∀ w ∈ wsX50, w ∈ wsX5_finding := fun w h => List.mem_cons_of_mem _ (List.mem_append_right _ h)
  rw [f_X5_finding] at h
  obtain ⟨H, hH⟩ : ∃ H, H = s.heap := ⟨_, rfl⟩
  obtain ⟨locs, hlc⟩ : ∃ L : List Loc, L = [] := ⟨_, rfl⟩
  rw [← hH] at hP
  have hS : va_S A s.heap H locs := by rw [hH, hlc]; exact hS
  suffices hW9 : W p l e rm_X5_finding s m args below meth c H locs 0 0 Q (F0 m 0 ls []) by rw [hH, hlc] at hW9; exact hW9
  refine lv_aload_n hx hb dX5_finding_0 rfl (lv_at hl 0 rfl) ?_
  refine va_get (D := D) (ci := 5) (v := .int (M0 0 0)) (C := RX5) (T := TX5) (N := 20) hx hb hts hin5 hown hK hP 0 rfl rfl 0 (by decide) (hts (.fieldLink RX5 60 "BallastLineModel" "finding" "I") (List.mem_of_getElem? (i := 1) rfl)) (fun _ h9 => h9) rfl dX5_finding_1 ?_
  have h := Option.some.inj h
  subst hQ
  subst hAe
  exact r_i hx hb hr hlocks h hP hD hS dX5_finding_4
def f_X5_findings (M0 : Nat → Nat → Int32) (p0 : Int32) : Option (Int32) := b1 (f_X5_in p0 (1 : Int32) (5 : Int32)) (fun r1 => if r1 = (0 : Int32) then (some (-1 : Int32)) else (gd (inb p0 6) (some (M0 1 (Int32.toNatClampNeg p0)))))
abbrev rm_X5_findings : Room := { frames := 1, cells := 0, slots := 0, locals := 22 }
set_option maxHeartbeats 4000000 in
set_option maxRecDepth 100000 in
theorem c_X5_findings (l : Launch) (D : va_G) (a : Nat → Nat) (k : Nat → ClassId) (sz : Nat) (M0 : Nat → Nat → Int32) (L0 : Int64) (p0 : Int32) (r : Int32) (h : f_X5_findings M0 p0 = some r) : Met l yX5_findings wsX5_findings rm_X5_findings (mPc D [.ref (a 0), .int p0] (xM a k M0 L0) (tM k) sz) (mQi D (xM a k M0 L0) (xM a k M0 L0) sz r) 0 0 (va_A (xM a k M0 L0) sz) := by
  refine mk_met (cc := cX5_findings) (maxL := 2) (ret := (some .int)) (by decide) rfl (Nat.le_of_ble_eq_true rfl) ?_
  intro p e s m below meth c hx hb hr hml hts hown hmn hlocks hnw hsz hK hP hD hS hA ls hl
  obtain ⟨A, hAe⟩ : ∃ A, A = va_A (xM a k M0 L0) sz := ⟨_, rfl⟩
  rw [← hAe] at hD hS hA
  generalize hargs : List.toArray ([.ref (a 0), .int p0] : List Value) = args at hts ⊢
  generalize hQ : MQ below (mQi D (xM a k M0 L0) (xM a k M0 L0) sz r) args s 0 0 (va_A (xM a k M0 L0) sz) = Q
  have hl : lv_has ls 2 [(0, .ref (a 0)), (1, .int p0)] := hl
  have hin5 : ∀ w ∈ wsX50, w ∈ wsX5_findings := fun w h => List.mem_cons_of_mem _ (List.mem_append_right _ h)
  rw [f_X5_findings] at h
  obtain ⟨H, hH⟩ : ∃ H, H = s.heap := ⟨_, rfl⟩
  obtain ⟨locs, hlc⟩ : ∃ L : List Loc, L = [] := ⟨_, rfl⟩
  rw [← hH] at hP
  have hS : va_S A s.heap H locs := by rw [hH, hlc]; exact hS
  suffices hW9 : W p l e rm_X5_findings s m args below meth c H locs 0 0 Q (F0 m 0 ls []) by rw [hH, hlc] at hW9; exact hW9
  refine lv_iload_n hx hb dX5_findings_0 rfl (lv_at hl 1 rfl) ?_
  refine lv_iconst (v := (1 : Int32)) hx hb dX5_findings_1 (by decide) ?_
  refine lv_iconst (v := (5 : Int32)) hx hb dX5_findings_2 (by decide) ?_
  obtain ⟨r1, q1, h⟩ := b1_s h
  refine go_i (run_S (As := [.int p0, .int (1 : Int32), .int (5 : Int32)]) (rest := []) ⟨hx, hb, hml, hown, hts⟩ hnw hK hP hD (fr_M_E a k M0 L0) (ks_M_E k) (c_X5_in l D H.size p0 (1 : Int32) (5 : Int32) r1 q1) (cwS 3 hts gX5_findings_X5_in rfl rfl rfl (by decide +kernel) ⟨Nat.le_of_ble_eq_true rfl, Nat.le_of_ble_eq_true rfl⟩) rfl hl.1 rfl (Nat.le_of_ble_eq_true rfl) dX5_findings_3 ⟨Nat.zero_le _, Nat.zero_le _⟩) hP hD hS hA (fr_M_E a k M0 L0) (fun H locs hP hD hS => ?_)
  refine lv_if_eq (tgt := 18) hx hb dX5_findings_6 (by decide) (fun c2 => ?_) (fun c2 => ?_)
  · have h := it_t c2 h
    refine lv_iconst (v := (-1 : Int32)) hx hb dX5_findings_18 (by decide) ?_
    have h := Option.some.inj h
    subst hQ
    subst hAe
    exact r_i hx hb hr hlocks h hP hD hS dX5_findings_19
  · have h := it_f c2 h
    refine lv_aload_n hx hb dX5_findings_9 rfl (lv_at hl 0 rfl) ?_
    refine va_get (D := D) (ci := 5) (v := .ref (a 1)) (C := RX5) (T := TX5) (N := 20) hx hb hts hin5 hown hK hP 0 rfl rfl 1 (by decide) (hts (.fieldLink RX5 7 "BallastLineModel" "findings" "[I") (List.mem_of_getElem? (i := 1) rfl)) (fun _ h9 => h9) rfl dX5_findings_10 ?_
    refine lv_iload_n hx hb dX5_findings_13 rfl (lv_at hl 1 rfl) ?_
    obtain ⟨g3, h⟩ := gd_s h
    refine va_iald hx hb hK hP 1 0 rfl rfl (inb_in g3) dX5_findings_14 ?_
    refine lv_goto (tgt := 19) hx hb dX5_findings_15 (by decide) ?_
    have h := Option.some.inj h
    subst hQ
    subst hAe
    exact r_i hx hb hr hlocks h hP hD hS dX5_findings_19
def f_X5_digest_L43 (M0 : Nat → Nat → Int32)  (ko32 : Int64 → Int32 → Option (Int64)) : Nat → Int64 → Int32 → Int32 → Option (Int64)
  | 0, _, _, _ => none
  | n + 1, x1, x3, x4 => if (3 : Int32) < x4 then (gd (inb x3 40) (ltt ((((31 : Int64) * x1) + (Int32.toInt64 (M0 5 (Int32.toNatClampNeg x3))))) (fun v3 => ltt (x3 + (1 : Int32)) (fun v4 => ko32 v3 v4)))) else (b1 (f_X5_tells M0 x3 x4) (fun r5 => ltt ((((31 : Int64) * x1) + (Int32.toInt64 r5))) (fun v6 => ltt (x4 + (1 : Int32)) (fun v7 => f_X5_digest_L43 M0 ko32 n v6 x3 v7))))
def f_X5_digest_J187 (M0 : Nat → Nat → Int32)  (ko119 : Int64 → Int32 → Option (Int64)) (x1 : Int64) (x3 : Int32) : Option (Int64) := ltt (x3 + (1 : Int32)) (fun v8 => ko119 x1 v8)
def f_X5_digest_L145 (M0 : Nat → Nat → Int32)  (ko119 : Int64 → Int32 → Option (Int64)) : Nat → Int64 → Int32 → Int32 → Option (Int64)
  | 0, _, _, _ => none
  | n + 1, x1, x3, x4 => if (40 : Int32) ≤ x4 then (f_X5_digest_J187 M0 ko119 x1 x3) else (gd (inb x3 6) (if (M0 14 (Int32.toNatClampNeg x3)) = (0 : Int32) then (f_X5_digest_J187 M0 ko119 x1 x3) else (gd (inb (((40 : Int32) * x3) + x4) 240) (ltt ((((31 : Int64) * x1) + (Int32.toInt64 (M0 15 (Int32.toNatClampNeg (((40 : Int32) * x3) + x4)))))) (fun v13 => ltt (x4 + (1 : Int32)) (fun v14 => f_X5_digest_L145 M0 ko119 n v13 x3 v14))))))
def f_X5_digest_J142 (M0 : Nat → Nat → Int32)  (ko119 : Int64 → Int32 → Option (Int64)) (x1 : Int64) (x3 : Int32) : Option (Int64) := f_X5_digest_L145 M0 ko119 64 x1 x3 (0 : Int32)
def f_X5_digest_L119 (M0 : Nat → Nat → Int32)   : Nat → Int64 → Int32 → Option (Int64)
  | 0, _, _ => none
  | n + 1, x1, x3 => if (6 : Int32) ≤ x3 then (some x1) else (gd (inb x3 6) (if (M0 14 (Int32.toNatClampNeg x3)) = (0 : Int32) then (ltt ((((31 : Int64) * x1) - (1 : Int64))) (fun v18 => f_X5_digest_J142 M0 (f_X5_digest_L119 M0 n) v18 x3)) else (f_X5_digest_J142 M0 (f_X5_digest_L119 M0 n) x1 x3)))
def f_X5_digest_L92 (M0 : Nat → Nat → Int32)   : Nat → Int64 → Int32 → Option (Int64)
  | 0, _, _ => none
  | n + 1, x1, x3 => if (4 : Int32) ≤ x3 then (f_X5_digest_L119 M0 64 x1 (0 : Int32)) else (gd (inb x3 4) (ltt ((((31 : Int64) * x1) + (Int32.toInt64 (M0 10 (Int32.toNatClampNeg x3))))) (fun v21 => ltt (x3 + (1 : Int32)) (fun v22 => f_X5_digest_L92 M0 n v21 v22))))
def f_X5_digest_L32 (M0 : Nat → Nat → Int32)   : Nat → Int64 → Int32 → Option (Int64)
  | 0, _, _ => none
  | n + 1, x1, x3 => if (M0 3 0) ≤ x3 then (f_X5_digest_L92 M0 64 x1 (0 : Int32)) else (f_X5_digest_L43 M0 (f_X5_digest_L32 M0 n) 64 x1 x3 (0 : Int32))
def f_X5_digest_L6 (M0 : Nat → Nat → Int32)   : Nat → Int64 → Int32 → Option (Int64)
  | 0, _, _ => none
  | n + 1, x1, x3 => if (4 : Int32) < x3 then (f_X5_digest_L32 M0 64 x1 (0 : Int32)) else (b1 (f_X5_tellsCount M0 x3) (fun r25 => ltt ((((31 : Int64) * x1) + (Int32.toInt64 r25))) (fun v26 => ltt (x3 + (1 : Int32)) (fun v27 => f_X5_digest_L6 M0 n v26 v27))))
def f_X5_digest (M0 : Nat → Nat → Int32)  : Option (Int64) := f_X5_digest_L6 M0 64 (17 : Int64) (0 : Int32)
abbrev rm_X5_digest : Room := { frames := 1, cells := 0, slots := 0, locals := 23 }
set_option maxHeartbeats 4000000 in
set_option maxRecDepth 100000 in
theorem c_X5_digest (l : Launch) (D : va_G) (a : Nat → Nat) (k : Nat → ClassId) (sz : Nat) (M0 : Nat → Nat → Int32) (L0 : Int64)  (r : Int64) (h : f_X5_digest M0 = some r) : Met l yX5_digest wsX5_digest rm_X5_digest (mPc D [.ref (a 0)] (xM a k M0 L0) (tM k) sz) (mQl D (xM a k M0 L0) (xM a k M0 L0) sz r) 0 0 (va_A (xM a k M0 L0) sz) := by
  refine mk_met (cc := cX5_digest) (maxL := 5) (ret := (some .long)) (by decide) rfl (Nat.le_of_ble_eq_true rfl) ?_
  intro p e s m below meth c hx hb hr hml hts hown hmn hlocks hnw hsz hK hP hD hS hA ls hl
  obtain ⟨A, hAe⟩ : ∃ A, A = va_A (xM a k M0 L0) sz := ⟨_, rfl⟩
  rw [← hAe] at hD hS hA
  generalize hargs : List.toArray ([.ref (a 0)] : List Value) = args at hts ⊢
  generalize hQ : MQ below (mQl D (xM a k M0 L0) (xM a k M0 L0) sz r) args s 0 0 (va_A (xM a k M0 L0) sz) = Q
  have hl : lv_has ls 5 [(0, .ref (a 0))] := hl
  have hin5 : ∀ w ∈ wsX50, w ∈ wsX5_digest := fun w h => List.mem_cons_of_mem _ (List.mem_append_right _ h)
  have lb43 : ∀ (ko32 : Int64 → Int32 → Option (Int64)), (∀ (x1 : Int64) (x3 : Int32), ∀ (H : Heap) (locs : List Loc), va_P D vwCl (xM a k M0 L0) H → va_D A (xM a k M0 L0) → va_S A s.heap H locs → ∀ ls : Array Slot, lv_has ls 5 [(0, .ref (a 0)), (1, .long x1), (3, .int x3)] → ko32 x1 x3 = some r → W p l e rm_X5_digest s m args below meth c H locs 0 0 Q (F0 m 32 ls [])) → ∀ (n : Nat), ∀ (x1 : Int64) (x3 : Int32) (x4 : Int32), ∀ (H : Heap) (locs : List Loc), va_P D vwCl (xM a k M0 L0) H → va_D A (xM a k M0 L0) → va_S A s.heap H locs → ∀ ls : Array Slot, lv_has ls 5 [(0, .ref (a 0)), (1, .long x1), (3, .int x3), (4, .int x4)] → f_X5_digest_L43 M0 ko32 n x1 x3 x4 = some r → W p l e rm_X5_digest s m args below meth c H locs 0 0 Q (F0 m 43 ls []) := by
    intro ko32 hko32
    intro n
    induction n with
    | zero =>
      intro x1 x3 x4 H locs hP hD hS ls hl h
      rw [f_X5_digest_L43] at h
      cases h
    | succ n ih =>
      intro x1 x3 x4 H locs hP hD hS ls hl h
      rw [f_X5_digest_L43] at h
      refine lv_iload hx hb dX5_digest_43 (lv_at hl 3 rfl) ?_
      refine lv_iconst (v := (3 : Int32)) hx hb dX5_digest_45 (by decide) ?_
      refine lv_icmp_gt (tgt := 70) hx hb dX5_digest_46 (by decide) (fun c1 => ?_) (fun c1 => ?_)
      · have h := it_t c1 h
        refine lv_ldc2 (v := (31 : Int64)) hx hb hown (hts (.constantLong RX5 160 (31)) (List.mem_of_getElem? (i := 2) rfl)) dX5_digest_70 ?_
        refine lv_lload_n hx hb dX5_digest_73 rfl (lv_at hl 1 rfl) ?_
        refine lv_lmul hx hb dX5_digest_74 ?_
        refine lv_aload_n hx hb dX5_digest_75 rfl (lv_at hl 0 rfl) ?_
        refine va_get (D := D) (ci := 5) (v := .ref (a 3)) (C := RX5) (T := TX5) (N := 20) hx hb hts hin5 hown hK hP 0 rfl rfl 5 (by decide) (hts (.fieldLink RX5 16 "BallastLineModel" "beds" "[I") (List.mem_of_getElem? (i := 4) rfl)) (fun _ h9 => h9) rfl dX5_digest_76 ?_
        refine lv_iload_n hx hb dX5_digest_79 rfl (lv_at hl 2 rfl) ?_
        obtain ⟨g2, h⟩ := gd_s h
        refine va_iald hx hb hK hP 3 2 rfl rfl (inb_in g2) dX5_digest_80 ?_
        refine lv_i2l (v := (Int32.toInt64 (M0 5 (Int32.toNatClampNeg x3)))) hx hb dX5_digest_81 rfl ?_
        refine lv_ladd hx hb dX5_digest_82 ?_
        refine lv_topl (fun v3 ev3 => ?_)
        have h := ltt_s ev3 h
        refine lv_lstore_n (lv' := [(1, .long v3), (0, .ref (a 0)), (3, .int x3), (4, .int x4)]) hx hb dX5_digest_83 rfl hl (by decide) rfl (fun ls hl => ?_)
        obtain ⟨v4, ev4⟩ : ∃ y : Int32, y = x3 + (1 : Int32) := ⟨_, rfl⟩
        have h := ltt_s ev4 h
        refine lv_iinc (v := v4) (lv' := [(3, .int v4), (1, .long v3), (0, .ref (a 0)), (4, .int x4)]) hx hb dX5_digest_84 hl (k := 2) rfl (by rw [ev4]; rfl) (by decide) rfl (fun ls hl => ?_)
        refine lv_goto (tgt := 32) hx hb dX5_digest_87 (by decide) ?_
        exact hko32 v3 v4 H locs hP hD hS ls (lv_sub hl [2, 1, 0] rfl) h
      · have h := it_f c1 h
        refine lv_ldc2 (v := (31 : Int64)) hx hb hown (hts (.constantLong RX5 160 (31)) (List.mem_of_getElem? (i := 2) rfl)) dX5_digest_49 ?_
        refine lv_lload_n hx hb dX5_digest_52 rfl (lv_at hl 1 rfl) ?_
        refine lv_lmul hx hb dX5_digest_53 ?_
        refine lv_aload_n hx hb dX5_digest_54 rfl (lv_at hl 0 rfl) ?_
        refine lv_iload_n hx hb dX5_digest_55 rfl (lv_at hl 2 rfl) ?_
        refine lv_iload hx hb dX5_digest_56 (lv_at hl 3 rfl) ?_
        obtain ⟨r5, q5, h⟩ := b1_s h
        refine go_i (run_V (As := [.int x3, .int x4]) (rest := [.long ((31 : Int64) * x1)]) ⟨hx, hb, hml, hown, hts⟩ hnw hK hP hD (fr_M_M a k M0 L0 M0 L0) (ks_M_M k) (c_X5_tells l D a k H.size M0 L0 x3 x4 r5 q5) (cwV 2 hts gX5_digest_X5_tells rfl rfl rfl (by decide +kernel) ⟨Nat.le_of_ble_eq_true rfl, Nat.le_of_ble_eq_true rfl⟩) (rcv_M a k M0 L0) rfl hl.1 rfl (Nat.le_of_ble_eq_true rfl) dX5_digest_58 ⟨Nat.zero_le _, Nat.zero_le _⟩) hP hD hS hA (fr_M_M a k M0 L0 M0 L0) (fun H locs hP hD hS => ?_)
        refine lv_i2l (v := (Int32.toInt64 r5)) hx hb dX5_digest_61 rfl ?_
        refine lv_ladd hx hb dX5_digest_62 ?_
        refine lv_topl (fun v6 ev6 => ?_)
        have h := ltt_s ev6 h
        refine lv_lstore_n (lv' := [(1, .long v6), (0, .ref (a 0)), (3, .int x3), (4, .int x4)]) hx hb dX5_digest_63 rfl hl (by decide) rfl (fun ls hl => ?_)
        obtain ⟨v7, ev7⟩ : ∃ y : Int32, y = x4 + (1 : Int32) := ⟨_, rfl⟩
        have h := ltt_s ev7 h
        refine lv_iinc (v := v7) (lv' := [(4, .int v7), (1, .long v6), (0, .ref (a 0)), (3, .int x3)]) hx hb dX5_digest_64 hl (k := 3) rfl (by rw [ev7]; rfl) (by decide) rfl (fun ls hl => ?_)
        refine lv_goto (tgt := 43) hx hb dX5_digest_67 (by decide) ?_
        exact ih v6 x3 v7 H locs hP hD hS ls (lv_sub hl [2, 1, 3, 0] rfl) h
  have lb187 : ∀ (ko119 : Int64 → Int32 → Option (Int64)), (∀ (x1 : Int64) (x3 : Int32), ∀ (H : Heap) (locs : List Loc), va_P D vwCl (xM a k M0 L0) H → va_D A (xM a k M0 L0) → va_S A s.heap H locs → ∀ ls : Array Slot, lv_has ls 5 [(0, .ref (a 0)), (1, .long x1), (3, .int x3)] → ko119 x1 x3 = some r → W p l e rm_X5_digest s m args below meth c H locs 0 0 Q (F0 m 119 ls [])) → ∀ (x1 : Int64) (x3 : Int32), ∀ (H : Heap) (locs : List Loc), va_P D vwCl (xM a k M0 L0) H → va_D A (xM a k M0 L0) → va_S A s.heap H locs → ∀ ls : Array Slot, lv_has ls 5 [(0, .ref (a 0)), (1, .long x1), (3, .int x3)] → f_X5_digest_J187 M0 ko119 x1 x3 = some r → W p l e rm_X5_digest s m args below meth c H locs 0 0 Q (F0 m 187 ls []) := by
    intro ko119 hko119 x1 x3 H locs hP hD hS ls hl h
    rw [f_X5_digest_J187] at h
    obtain ⟨v8, ev8⟩ : ∃ y : Int32, y = x3 + (1 : Int32) := ⟨_, rfl⟩
    have h := ltt_s ev8 h
    refine lv_iinc (v := v8) (lv' := [(3, .int v8), (0, .ref (a 0)), (1, .long x1)]) hx hb dX5_digest_187 hl (k := 2) rfl (by rw [ev8]; rfl) (by decide) rfl (fun ls hl => ?_)
    refine lv_goto (tgt := 119) hx hb dX5_digest_190 (by decide) ?_
    exact hko119 x1 v8 H locs hP hD hS ls (lv_sub hl [1, 2, 0] rfl) h
  have lb145 : ∀ (ko119 : Int64 → Int32 → Option (Int64)), (∀ (x1 : Int64) (x3 : Int32), ∀ (H : Heap) (locs : List Loc), va_P D vwCl (xM a k M0 L0) H → va_D A (xM a k M0 L0) → va_S A s.heap H locs → ∀ ls : Array Slot, lv_has ls 5 [(0, .ref (a 0)), (1, .long x1), (3, .int x3)] → ko119 x1 x3 = some r → W p l e rm_X5_digest s m args below meth c H locs 0 0 Q (F0 m 119 ls [])) → ∀ (n : Nat), ∀ (x1 : Int64) (x3 : Int32) (x4 : Int32), ∀ (H : Heap) (locs : List Loc), va_P D vwCl (xM a k M0 L0) H → va_D A (xM a k M0 L0) → va_S A s.heap H locs → ∀ ls : Array Slot, lv_has ls 5 [(0, .ref (a 0)), (1, .long x1), (3, .int x3), (4, .int x4)] → f_X5_digest_L145 M0 ko119 n x1 x3 x4 = some r → W p l e rm_X5_digest s m args below meth c H locs 0 0 Q (F0 m 145 ls []) := by
    intro ko119 hko119
    intro n
    induction n with
    | zero =>
      intro x1 x3 x4 H locs hP hD hS ls hl h
      rw [f_X5_digest_L145] at h
      cases h
    | succ n ih =>
      intro x1 x3 x4 H locs hP hD hS ls hl h
      rw [f_X5_digest_L145] at h
      refine lv_iload hx hb dX5_digest_145 (lv_at hl 3 rfl) ?_
      refine lv_bipush (v := (40 : Int32)) hx hb dX5_digest_147 (by decide) ?_
      refine lv_icmp_ge (tgt := 187) hx hb dX5_digest_149 (by decide) (fun c9 => ?_) (fun c9 => ?_)
      · have h := it_t c9 h
        exact lb187 ko119 hko119 x1 x3 H locs hP hD hS ls (lv_sub hl [0, 1, 2] rfl) h
      · have h := it_f c9 h
        refine lv_aload_n hx hb dX5_digest_152 rfl (lv_at hl 0 rfl) ?_
        refine va_get (D := D) (ci := 5) (v := .ref (a 11)) (C := RX5) (T := TX5) (N := 20) hx hb hts hin5 hown hK hP 0 rfl rfl 14 (by decide) (hts (.fieldLink RX5 41 "BallastLineModel" "isRun" "[Z") (List.mem_of_getElem? (i := 6) rfl)) (fun _ h9 => h9) rfl dX5_digest_153 ?_
        refine lv_iload_n hx hb dX5_digest_156 rfl (lv_at hl 2 rfl) ?_
        obtain ⟨g10, h⟩ := gd_s h
        refine va_zald hx hb hK hP 11 10 rfl rfl (inb_in g10) dX5_digest_157 ?_
        refine lv_if_eq (tgt := 187) hx hb dX5_digest_158 (by decide) (fun c11 => ?_) (fun c11 => ?_)
        · have h := it_t c11 h
          exact lb187 ko119 hko119 x1 x3 H locs hP hD hS ls (lv_sub hl [0, 1, 2] rfl) h
        · have h := it_f c11 h
          refine lv_ldc2 (v := (31 : Int64)) hx hb hown (hts (.constantLong RX5 160 (31)) (List.mem_of_getElem? (i := 2) rfl)) dX5_digest_161 ?_
          refine lv_lload_n hx hb dX5_digest_164 rfl (lv_at hl 1 rfl) ?_
          refine lv_lmul hx hb dX5_digest_165 ?_
          refine lv_aload_n hx hb dX5_digest_166 rfl (lv_at hl 0 rfl) ?_
          refine va_get (D := D) (ci := 5) (v := .ref (a 12)) (C := RX5) (T := TX5) (N := 20) hx hb hts hin5 hown hK hP 0 rfl rfl 15 (by decide) (hts (.fieldLink RX5 44 "BallastLineModel" "runs" "[I") (List.mem_of_getElem? (i := 7) rfl)) (fun _ h9 => h9) rfl dX5_digest_167 ?_
          refine lv_bipush (v := (40 : Int32)) hx hb dX5_digest_170 (by decide) ?_
          refine lv_iload_n hx hb dX5_digest_172 rfl (lv_at hl 2 rfl) ?_
          refine lv_imul hx hb dX5_digest_173 ?_
          refine lv_iload hx hb dX5_digest_174 (lv_at hl 3 rfl) ?_
          refine lv_iadd hx hb dX5_digest_176 ?_
          obtain ⟨g12, h⟩ := gd_s h
          refine va_iald hx hb hK hP 12 11 rfl rfl (inb_in g12) dX5_digest_177 ?_
          refine lv_i2l (v := (Int32.toInt64 (M0 15 (Int32.toNatClampNeg (((40 : Int32) * x3) + x4))))) hx hb dX5_digest_178 rfl ?_
          refine lv_ladd hx hb dX5_digest_179 ?_
          refine lv_topl (fun v13 ev13 => ?_)
          have h := ltt_s ev13 h
          refine lv_lstore_n (lv' := [(1, .long v13), (0, .ref (a 0)), (3, .int x3), (4, .int x4)]) hx hb dX5_digest_180 rfl hl (by decide) rfl (fun ls hl => ?_)
          obtain ⟨v14, ev14⟩ : ∃ y : Int32, y = x4 + (1 : Int32) := ⟨_, rfl⟩
          have h := ltt_s ev14 h
          refine lv_iinc (v := v14) (lv' := [(4, .int v14), (1, .long v13), (0, .ref (a 0)), (3, .int x3)]) hx hb dX5_digest_181 hl (k := 3) rfl (by rw [ev14]; rfl) (by decide) rfl (fun ls hl => ?_)
          refine lv_goto (tgt := 145) hx hb dX5_digest_184 (by decide) ?_
          exact ih v13 x3 v14 H locs hP hD hS ls (lv_sub hl [2, 1, 3, 0] rfl) h
  have lb142 : ∀ (ko119 : Int64 → Int32 → Option (Int64)), (∀ (x1 : Int64) (x3 : Int32), ∀ (H : Heap) (locs : List Loc), va_P D vwCl (xM a k M0 L0) H → va_D A (xM a k M0 L0) → va_S A s.heap H locs → ∀ ls : Array Slot, lv_has ls 5 [(0, .ref (a 0)), (1, .long x1), (3, .int x3)] → ko119 x1 x3 = some r → W p l e rm_X5_digest s m args below meth c H locs 0 0 Q (F0 m 119 ls [])) → ∀ (x1 : Int64) (x3 : Int32), ∀ (H : Heap) (locs : List Loc), va_P D vwCl (xM a k M0 L0) H → va_D A (xM a k M0 L0) → va_S A s.heap H locs → ∀ ls : Array Slot, lv_has ls 5 [(0, .ref (a 0)), (1, .long x1), (3, .int x3)] → f_X5_digest_J142 M0 ko119 x1 x3 = some r → W p l e rm_X5_digest s m args below meth c H locs 0 0 Q (F0 m 142 ls []) := by
    intro ko119 hko119 x1 x3 H locs hP hD hS ls hl h
    rw [f_X5_digest_J142] at h
    refine lv_iconst (v := (0 : Int32)) hx hb dX5_digest_142 (by decide) ?_
    refine lv_istore (lv' := [(4, .int (0 : Int32)), (0, .ref (a 0)), (1, .long x1), (3, .int x3)]) hx hb dX5_digest_143 hl (by decide) rfl (fun ls hl => ?_)
    exact lb145 ko119 hko119 64 x1 x3 (0 : Int32) H locs hP hD hS ls (lv_sub hl [1, 2, 3, 0] rfl) h
  have lb119 : ∀ (n : Nat), ∀ (x1 : Int64) (x3 : Int32), ∀ (H : Heap) (locs : List Loc), va_P D vwCl (xM a k M0 L0) H → va_D A (xM a k M0 L0) → va_S A s.heap H locs → ∀ ls : Array Slot, lv_has ls 5 [(0, .ref (a 0)), (1, .long x1), (3, .int x3)] → f_X5_digest_L119 M0 n x1 x3 = some r → W p l e rm_X5_digest s m args below meth c H locs 0 0 Q (F0 m 119 ls []) := by
    intro n
    induction n with
    | zero =>
      intro x1 x3 H locs hP hD hS ls hl h
      rw [f_X5_digest_L119] at h
      cases h
    | succ n ih =>
      intro x1 x3 H locs hP hD hS ls hl h
      rw [f_X5_digest_L119] at h
      refine lv_iload_n hx hb dX5_digest_119 rfl (lv_at hl 2 rfl) ?_
      refine lv_bipush (v := (6 : Int32)) hx hb dX5_digest_120 (by decide) ?_
      refine lv_icmp_ge (tgt := 193) hx hb dX5_digest_122 (by decide) (fun c15 => ?_) (fun c15 => ?_)
      · have h := it_t c15 h
        refine lv_lload_n hx hb dX5_digest_193 rfl (lv_at hl 1 rfl) ?_
        have h := Option.some.inj h
        subst hQ
        subst hAe
        exact r_l hx hb hr hlocks h hP hD hS dX5_digest_194
      · have h := it_f c15 h
        refine lv_aload_n hx hb dX5_digest_125 rfl (lv_at hl 0 rfl) ?_
        refine va_get (D := D) (ci := 5) (v := .ref (a 11)) (C := RX5) (T := TX5) (N := 20) hx hb hts hin5 hown hK hP 0 rfl rfl 14 (by decide) (hts (.fieldLink RX5 41 "BallastLineModel" "isRun" "[Z") (List.mem_of_getElem? (i := 6) rfl)) (fun _ h9 => h9) rfl dX5_digest_126 ?_
        refine lv_iload_n hx hb dX5_digest_129 rfl (lv_at hl 2 rfl) ?_
        obtain ⟨g16, h⟩ := gd_s h
        refine va_zald hx hb hK hP 11 10 rfl rfl (inb_in g16) dX5_digest_130 ?_
        refine lv_if_ne (tgt := 142) hx hb dX5_digest_131 (by decide) (fun c17 => ?_) (fun c17 => ?_)
        · have h := it_f c17 h
          exact lb142 (f_X5_digest_L119 M0 n) ih x1 x3 H locs hP hD hS ls (lv_sub hl [0, 1, 2] rfl) h
        · have h := it_t c17 h
          refine lv_ldc2 (v := (31 : Int64)) hx hb hown (hts (.constantLong RX5 160 (31)) (List.mem_of_getElem? (i := 2) rfl)) dX5_digest_134 ?_
          refine lv_lload_n hx hb dX5_digest_137 rfl (lv_at hl 1 rfl) ?_
          refine lv_lmul hx hb dX5_digest_138 ?_
          refine lv_lconst (v := (1 : Int64)) hx hb dX5_digest_139 (by decide) ?_
          refine lv_lsub hx hb dX5_digest_140 ?_
          refine lv_topl (fun v18 ev18 => ?_)
          have h := ltt_s ev18 h
          refine lv_lstore_n (lv' := [(1, .long v18), (0, .ref (a 0)), (3, .int x3)]) hx hb dX5_digest_141 rfl hl (by decide) rfl (fun ls hl => ?_)
          exact lb142 (f_X5_digest_L119 M0 n) ih v18 x3 H locs hP hD hS ls (lv_sub hl [1, 0, 2] rfl) h
  have lb92 : ∀ (n : Nat), ∀ (x1 : Int64) (x3 : Int32), ∀ (H : Heap) (locs : List Loc), va_P D vwCl (xM a k M0 L0) H → va_D A (xM a k M0 L0) → va_S A s.heap H locs → ∀ ls : Array Slot, lv_has ls 5 [(0, .ref (a 0)), (1, .long x1), (3, .int x3)] → f_X5_digest_L92 M0 n x1 x3 = some r → W p l e rm_X5_digest s m args below meth c H locs 0 0 Q (F0 m 92 ls []) := by
    intro n
    induction n with
    | zero =>
      intro x1 x3 H locs hP hD hS ls hl h
      rw [f_X5_digest_L92] at h
      cases h
    | succ n ih =>
      intro x1 x3 H locs hP hD hS ls hl h
      rw [f_X5_digest_L92] at h
      refine lv_iload_n hx hb dX5_digest_92 rfl (lv_at hl 2 rfl) ?_
      refine lv_iconst (v := (4 : Int32)) hx hb dX5_digest_93 (by decide) ?_
      refine lv_icmp_ge (tgt := 117) hx hb dX5_digest_94 (by decide) (fun c19 => ?_) (fun c19 => ?_)
      · have h := it_t c19 h
        refine lv_iconst (v := (0 : Int32)) hx hb dX5_digest_117 (by decide) ?_
        refine lv_istore_n (lv' := [(3, .int (0 : Int32)), (0, .ref (a 0)), (1, .long x1)]) hx hb dX5_digest_118 rfl hl (by decide) rfl (fun ls hl => ?_)
        exact lb119 64 x1 (0 : Int32) H locs hP hD hS ls (lv_sub hl [1, 2, 0] rfl) h
      · have h := it_f c19 h
        refine lv_ldc2 (v := (31 : Int64)) hx hb hown (hts (.constantLong RX5 160 (31)) (List.mem_of_getElem? (i := 2) rfl)) dX5_digest_97 ?_
        refine lv_lload_n hx hb dX5_digest_100 rfl (lv_at hl 1 rfl) ?_
        refine lv_lmul hx hb dX5_digest_101 ?_
        refine lv_aload_n hx hb dX5_digest_102 rfl (lv_at hl 0 rfl) ?_
        refine va_get (D := D) (ci := 5) (v := .ref (a 8)) (C := RX5) (T := TX5) (N := 20) hx hb hts hin5 hown hK hP 0 rfl rfl 10 (by decide) (hts (.fieldLink RX5 32 "BallastLineModel" "free" "[I") (List.mem_of_getElem? (i := 5) rfl)) (fun _ h9 => h9) rfl dX5_digest_103 ?_
        refine lv_iload_n hx hb dX5_digest_106 rfl (lv_at hl 2 rfl) ?_
        obtain ⟨g20, h⟩ := gd_s h
        refine va_iald hx hb hK hP 8 7 rfl rfl (inb_in g20) dX5_digest_107 ?_
        refine lv_i2l (v := (Int32.toInt64 (M0 10 (Int32.toNatClampNeg x3)))) hx hb dX5_digest_108 rfl ?_
        refine lv_ladd hx hb dX5_digest_109 ?_
        refine lv_topl (fun v21 ev21 => ?_)
        have h := ltt_s ev21 h
        refine lv_lstore_n (lv' := [(1, .long v21), (0, .ref (a 0)), (3, .int x3)]) hx hb dX5_digest_110 rfl hl (by decide) rfl (fun ls hl => ?_)
        obtain ⟨v22, ev22⟩ : ∃ y : Int32, y = x3 + (1 : Int32) := ⟨_, rfl⟩
        have h := ltt_s ev22 h
        refine lv_iinc (v := v22) (lv' := [(3, .int v22), (1, .long v21), (0, .ref (a 0))]) hx hb dX5_digest_111 hl (k := 2) rfl (by rw [ev22]; rfl) (by decide) rfl (fun ls hl => ?_)
        refine lv_goto (tgt := 92) hx hb dX5_digest_114 (by decide) ?_
        exact ih v21 v22 H locs hP hD hS ls (lv_sub hl [2, 1, 0] rfl) h
  have lb32 : ∀ (n : Nat), ∀ (x1 : Int64) (x3 : Int32), ∀ (H : Heap) (locs : List Loc), va_P D vwCl (xM a k M0 L0) H → va_D A (xM a k M0 L0) → va_S A s.heap H locs → ∀ ls : Array Slot, lv_has ls 5 [(0, .ref (a 0)), (1, .long x1), (3, .int x3)] → f_X5_digest_L32 M0 n x1 x3 = some r → W p l e rm_X5_digest s m args below meth c H locs 0 0 Q (F0 m 32 ls []) := by
    intro n
    induction n with
    | zero =>
      intro x1 x3 H locs hP hD hS ls hl h
      rw [f_X5_digest_L32] at h
      cases h
    | succ n ih =>
      intro x1 x3 H locs hP hD hS ls hl h
      rw [f_X5_digest_L32] at h
      refine lv_iload_n hx hb dX5_digest_32 rfl (lv_at hl 2 rfl) ?_
      refine lv_aload_n hx hb dX5_digest_33 rfl (lv_at hl 0 rfl) ?_
      refine va_get (D := D) (ci := 5) (v := .int (M0 3 0)) (C := RX5) (T := TX5) (N := 20) hx hb hts hin5 hown hK hP 0 rfl rfl 3 (by decide) (hts (.fieldLink RX5 72 "BallastLineModel" "many" "I") (List.mem_of_getElem? (i := 3) rfl)) (fun _ h9 => h9) rfl dX5_digest_34 ?_
      refine lv_icmp_ge (tgt := 90) hx hb dX5_digest_37 (by decide) (fun c23 => ?_) (fun c23 => ?_)
      · have h := it_t c23 h
        refine lv_iconst (v := (0 : Int32)) hx hb dX5_digest_90 (by decide) ?_
        refine lv_istore_n (lv' := [(3, .int (0 : Int32)), (0, .ref (a 0)), (1, .long x1)]) hx hb dX5_digest_91 rfl hl (by decide) rfl (fun ls hl => ?_)
        exact lb92 64 x1 (0 : Int32) H locs hP hD hS ls (lv_sub hl [1, 2, 0] rfl) h
      · have h := it_f c23 h
        refine lv_iconst (v := (0 : Int32)) hx hb dX5_digest_40 (by decide) ?_
        refine lv_istore (lv' := [(4, .int (0 : Int32)), (0, .ref (a 0)), (1, .long x1), (3, .int x3)]) hx hb dX5_digest_41 hl (by decide) rfl (fun ls hl => ?_)
        exact lb43 (f_X5_digest_L32 M0 n) ih 64 x1 x3 (0 : Int32) H locs hP hD hS ls (lv_sub hl [1, 2, 3, 0] rfl) h
  have lb6 : ∀ (n : Nat), ∀ (x1 : Int64) (x3 : Int32), ∀ (H : Heap) (locs : List Loc), va_P D vwCl (xM a k M0 L0) H → va_D A (xM a k M0 L0) → va_S A s.heap H locs → ∀ ls : Array Slot, lv_has ls 5 [(0, .ref (a 0)), (1, .long x1), (3, .int x3)] → f_X5_digest_L6 M0 n x1 x3 = some r → W p l e rm_X5_digest s m args below meth c H locs 0 0 Q (F0 m 6 ls []) := by
    intro n
    induction n with
    | zero =>
      intro x1 x3 H locs hP hD hS ls hl h
      rw [f_X5_digest_L6] at h
      cases h
    | succ n ih =>
      intro x1 x3 H locs hP hD hS ls hl h
      rw [f_X5_digest_L6] at h
      refine lv_iload_n hx hb dX5_digest_6 rfl (lv_at hl 2 rfl) ?_
      refine lv_iconst (v := (4 : Int32)) hx hb dX5_digest_7 (by decide) ?_
      refine lv_icmp_gt (tgt := 30) hx hb dX5_digest_8 (by decide) (fun c24 => ?_) (fun c24 => ?_)
      · have h := it_t c24 h
        refine lv_iconst (v := (0 : Int32)) hx hb dX5_digest_30 (by decide) ?_
        refine lv_istore_n (lv' := [(3, .int (0 : Int32)), (0, .ref (a 0)), (1, .long x1)]) hx hb dX5_digest_31 rfl hl (by decide) rfl (fun ls hl => ?_)
        exact lb32 64 x1 (0 : Int32) H locs hP hD hS ls (lv_sub hl [1, 2, 0] rfl) h
      · have h := it_f c24 h
        refine lv_ldc2 (v := (31 : Int64)) hx hb hown (hts (.constantLong RX5 160 (31)) (List.mem_of_getElem? (i := 2) rfl)) dX5_digest_11 ?_
        refine lv_lload_n hx hb dX5_digest_14 rfl (lv_at hl 1 rfl) ?_
        refine lv_lmul hx hb dX5_digest_15 ?_
        refine lv_aload_n hx hb dX5_digest_16 rfl (lv_at hl 0 rfl) ?_
        refine lv_iload_n hx hb dX5_digest_17 rfl (lv_at hl 2 rfl) ?_
        obtain ⟨r25, q25, h⟩ := b1_s h
        refine go_i (run_V (As := [.int x3]) (rest := [.long ((31 : Int64) * x1)]) ⟨hx, hb, hml, hown, hts⟩ hnw hK hP hD (fr_M_M a k M0 L0 M0 L0) (ks_M_M k) (c_X5_tellsCount l D a k H.size M0 L0 x3 r25 q25) (cwV 1 hts gX5_digest_X5_tellsCount rfl rfl rfl (by decide +kernel) ⟨Nat.le_of_ble_eq_true rfl, Nat.le_of_ble_eq_true rfl⟩) (rcv_M a k M0 L0) rfl hl.1 rfl (Nat.le_of_ble_eq_true rfl) dX5_digest_18 ⟨Nat.zero_le _, Nat.zero_le _⟩) hP hD hS hA (fr_M_M a k M0 L0 M0 L0) (fun H locs hP hD hS => ?_)
        refine lv_i2l (v := (Int32.toInt64 r25)) hx hb dX5_digest_21 rfl ?_
        refine lv_ladd hx hb dX5_digest_22 ?_
        refine lv_topl (fun v26 ev26 => ?_)
        have h := ltt_s ev26 h
        refine lv_lstore_n (lv' := [(1, .long v26), (0, .ref (a 0)), (3, .int x3)]) hx hb dX5_digest_23 rfl hl (by decide) rfl (fun ls hl => ?_)
        obtain ⟨v27, ev27⟩ : ∃ y : Int32, y = x3 + (1 : Int32) := ⟨_, rfl⟩
        have h := ltt_s ev27 h
        refine lv_iinc (v := v27) (lv' := [(3, .int v27), (1, .long v26), (0, .ref (a 0))]) hx hb dX5_digest_24 hl (k := 2) rfl (by rw [ev27]; rfl) (by decide) rfl (fun ls hl => ?_)
        refine lv_goto (tgt := 6) hx hb dX5_digest_27 (by decide) ?_
        exact ih v26 v27 H locs hP hD hS ls (lv_sub hl [2, 1, 0] rfl) h
  rw [f_X5_digest] at h
  obtain ⟨H, hH⟩ : ∃ H, H = s.heap := ⟨_, rfl⟩
  obtain ⟨locs, hlc⟩ : ∃ L : List Loc, L = [] := ⟨_, rfl⟩
  rw [← hH] at hP
  have hS : va_S A s.heap H locs := by rw [hH, hlc]; exact hS
  suffices hW9 : W p l e rm_X5_digest s m args below meth c H locs 0 0 Q (F0 m 0 ls []) by rw [hH, hlc] at hW9; exact hW9
  refine lv_ldc2 (v := (17 : Int64)) hx hb hown (hts (.constantLong RX5 158 (17)) (List.mem_of_getElem? (i := 1) rfl)) dX5_digest_0 ?_
  refine lv_lstore_n (lv' := [(1, .long (17 : Int64)), (0, .ref (a 0))]) hx hb dX5_digest_3 rfl hl (by decide) rfl (fun ls hl => ?_)
  refine lv_iconst (v := (0 : Int32)) hx hb dX5_digest_4 (by decide) ?_
  refine lv_istore_n (lv' := [(3, .int (0 : Int32)), (1, .long (17 : Int64)), (0, .ref (a 0))]) hx hb dX5_digest_5 rfl hl (by decide) rfl (fun ls hl => ?_)
  exact lb6 64 (17 : Int64) (0 : Int32) H locs hP hD hS ls (lv_sub hl [2, 1, 0] rfl) h
