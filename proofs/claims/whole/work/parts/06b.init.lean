abbrev rm_X0_init : Room := { frames := 1, cells := 8, slots := 252, locals := 12 }
set_option maxHeartbeats 4000000 in
set_option maxRecDepth 100000 in
theorem c_X0_init (l : Launch) (D : va_G) (cy : ClassId) (h0 : Nat) (sz : Nat)  : Met l yX0_init wsX0_init rm_X0_init (mPcA D [.ref h0] ([(h0, .inr (0, [.null, .null]))] : va_W) ([(cy, .int)] : List (ClassId × FieldType)) sz) (va_Qv (S := Unit) (fun _ => True) (fun _ t => ∃ (a : Nat → Nat) (k : Nat → ClassId), a 11 = h0 ∧ va_P D vwCl (xU a k (fun _ _ => 0)) t.heap ∧ va_K D vwCl (tU k) t ∧ va_D (va_A ([(h0, .inr (0, [.null, .null]))] : va_W) sz) (xU a k (fun _ _ => 0))) (va_A ([(h0, .inr (0, [.null, .null]))] : va_W) sz)) 8 252 (va_A ([(h0, .inr (0, [.null, .null]))] : va_W) sz) := by
  refine mk_metA (cc := cX0_init) (maxL := 1) (ret := none) (by decide) rfl (Nat.le_of_ble_eq_true rfl) ?_
  intro p e s m below meth c hx hb hr hml hts hown hmn hlocks hnw hao hsz hK hP hD hS hA ls hl
  obtain ⟨A, hAe⟩ : ∃ A, A = va_A ([(h0, .inr (0, [.null, .null]))] : va_W) sz := ⟨_, rfl⟩
  rw [← hAe] at hD hS hA
  generalize hargs : List.toArray ([.ref h0] : List Value) = args at hts ⊢
  generalize hQ : MQ below (va_Qv (S := Unit) (fun _ => True) (fun _ t => ∃ (a : Nat → Nat) (k : Nat → ClassId), a 11 = h0 ∧ va_P D vwCl (xU a k (fun _ _ => 0)) t.heap ∧ va_K D vwCl (tU k) t ∧ va_D (va_A ([(h0, .inr (0, [.null, .null]))] : va_W) sz) (xU a k (fun _ _ => 0))) (va_A ([(h0, .inr (0, [.null, .null]))] : va_W) sz)) args s 8 252 (va_A ([(h0, .inr (0, [.null, .null]))] : va_W) sz) = Q
  have hl : lv_has ls 1 [(0, .ref h0)] := hl
  have hin : meth.name = "<init>" := hmn
  have hin0 : ∀ w ∈ wsX00, w ∈ wsX0_init := fun w h => List.mem_cons_of_mem _ (List.mem_append_right _ h)
  refine lv_aload_n hx hb dX0_init_0 rfl (lv_at hl 0 rfl) ?_
  refine W.objInit hx hb hown (hts (.methodLink RX0 3 objectInit) (List.mem_of_getElem? (i := 1) rfl)) (hts (.instanceMethod objectInit) (List.mem_of_getElem? (i := 2) rfl)) (hts (.code objectInit ⟨#[0xb1]⟩ 1 none) (List.mem_of_getElem? (i := 3) rfl)) rfl (by rw [hml]; exact hl.1) rfl dX0_init_1 (Nat.le_of_ble_eq_true rfl) (Nat.le_of_ble_eq_true rfl) ?_
  refine W.eq (g2 := F0 m 4 ls []) rfl ?_
  have e1 : "[" ++ (FieldType.array .int).toString = "[[I" := by decide +kernel
  have e2 : (FieldType.array .int).toString = "[I" := by decide +kernel
  refine lv_aload_n hx hb dX0_init_4 rfl (lv_at hl 0 rfl) ?_
  refine lv_bipush (v := (6 : Int32)) hx hb dX0_init_5 (by decide) ?_
  refine lv_bipush (v := (40 : Int32)) hx hb dX0_init_7 (by decide) ?_
  have hP : va_P D vwCl (([(h0, .inr (0, [.null, .null]))] : va_W) ++ va_pl [] (fun _ => .inl (cy, (40, .inl (fun _ => 0))))) s.heap := hP
  have hD : va_D A (([(h0, .inr (0, [.null, .null]))] : va_W) ++ va_pl [] (fun _ => .inl (cy, (40, .inl (fun _ => 0))))) := hD
  refine va_mna (X := ([(h0, .inr (0, [.null, .null]))] : va_W)) (L := []) (f := fun _ => .inl (cy, (40, .inl (fun _ => 0)))) (N' := 6) (K' := 40) (z := (40, .inl (fun _ => 0))) (ty := .int) (cy := cy) hx hb hown (by rw [e1]; exact (hts (.classLink RX0 9 "[[I") (List.mem_of_getElem? (i := 4) rfl))) hao (hts (.arrayClass .int) (List.mem_of_getElem? (i := 5) rfl)) (by rw [e2]; exact va_nm_int (hK.2 0 _ rfl).2) hK hP hD hS hA (by decide) (by decide) (by decide) (by decide) (Nat.le_of_ble_eq_true rfl) (Nat.le_of_ble_eq_true rfl) (Nat.le_of_ble_eq_true rfl) rfl rfl (Nat.le_of_ble_eq_true rfl) (Nat.le_of_ble_eq_true rfl) (fun c9 => (arrV_new c9 40 (.int 0)).trans rfl) dX0_init_9 (fun q1 r k1 H hinj hnl hK hP hD hS => ?_)
  rw [rows6] at hP hD
  obtain ⟨ro, hro⟩ : ∃ f : Nat → Option Nat, f = fun i => if i < 6 then some (r i) else none := ⟨_, rfl⟩
  rw [← hro] at hP hD
  have hP : va_P D vwCl [(h0, .inr (0, [.null, .null])), (q1, .inl (k1, 6, .inr (.inr (.inr (.inr ro))))), (r 0, .inl (cy, 40, .inl (fun _ => 0))), (r 1, .inl (cy, 40, .inl (fun _ => 0))), (r 2, .inl (cy, 40, .inl (fun _ => 0))), (r 3, .inl (cy, 40, .inl (fun _ => 0))), (r 4, .inl (cy, 40, .inl (fun _ => 0))), (r 5, .inl (cy, 40, .inl (fun _ => 0)))] H := hP
  have hD : va_D A [(h0, .inr (0, [.null, .null])), (q1, .inl (k1, 6, .inr (.inr (.inr (.inr ro))))), (r 0, .inl (cy, 40, .inl (fun _ => 0))), (r 1, .inl (cy, 40, .inl (fun _ => 0))), (r 2, .inl (cy, 40, .inl (fun _ => 0))), (r 3, .inl (cy, 40, .inl (fun _ => 0))), (r 4, .inl (cy, 40, .inl (fun _ => 0))), (r 5, .inl (cy, 40, .inl (fun _ => 0)))] := hD
  have hK : va_K D vwCl [(cy, .int), (k1, (.array .int))] s := hK
  refine va_putF (D := D) (ci := 0) (v := .ref q1) (ty := (.array (.array .int))) (C := RX0) (T := TX0) (N := 2) hx hb hts hin0 tyX0 tyX0_ok nmX0 hown hK hP hD hS 0 rfl rfl 0 (by decide) (hts (.fieldLink RX0 11 "BallastLine$Runs" "rows" "[[I") (List.mem_of_getElem? (i := 6) rfl)) (fun _ h9 => h9) rfl hin rfl (by decide +kernel) rfl rfl (Nat.le_of_ble_eq_true rfl) dX0_init_13 (fun H locs hP hD hS => ?_)
  have hP : va_P D vwCl [(h0, .inr (0, [.ref q1, .null])), (q1, .inl (k1, 6, .inr (.inr (.inr (.inr ro))))), (r 0, .inl (cy, 40, .inl (fun _ => 0))), (r 1, .inl (cy, 40, .inl (fun _ => 0))), (r 2, .inl (cy, 40, .inl (fun _ => 0))), (r 3, .inl (cy, 40, .inl (fun _ => 0))), (r 4, .inl (cy, 40, .inl (fun _ => 0))), (r 5, .inl (cy, 40, .inl (fun _ => 0)))] H := hP
  have hD : va_D A [(h0, .inr (0, [.ref q1, .null])), (q1, .inl (k1, 6, .inr (.inr (.inr (.inr ro))))), (r 0, .inl (cy, 40, .inl (fun _ => 0))), (r 1, .inl (cy, 40, .inl (fun _ => 0))), (r 2, .inl (cy, 40, .inl (fun _ => 0))), (r 3, .inl (cy, 40, .inl (fun _ => 0))), (r 4, .inl (cy, 40, .inl (fun _ => 0))), (r 5, .inl (cy, 40, .inl (fun _ => 0)))] := hD
  refine lv_aload_n hx hb dX0_init_16 rfl (lv_at hl 0 rfl) ?_
  refine lv_bipush (v := (6 : Int32)) hx hb dX0_init_17 (by decide) ?_
  refine va_newa (atype := .boolean) (ty := .boolean) (N' := 6) (a0 := (6, .inl (fun _ => 0))) hx hb (hts (.arrayClass .boolean) (List.mem_of_getElem? (i := 7) rfl)) rfl hK hP hD hS hA (fun _ => rfl) (by decide) (by decide) (Nat.le_of_ble_eq_true rfl) (Nat.le_of_ble_eq_true rfl) (Nat.le_of_ble_eq_true rfl) dX0_init_19 (fun q2 k2 H hK hP hD hS => ?_)
  have hP : va_P D vwCl [(h0, .inr (0, [.ref q1, .null])), (q1, .inl (k1, 6, .inr (.inr (.inr (.inr ro))))), (r 0, .inl (cy, 40, .inl (fun _ => 0))), (r 1, .inl (cy, 40, .inl (fun _ => 0))), (r 2, .inl (cy, 40, .inl (fun _ => 0))), (r 3, .inl (cy, 40, .inl (fun _ => 0))), (r 4, .inl (cy, 40, .inl (fun _ => 0))), (r 5, .inl (cy, 40, .inl (fun _ => 0))), (q2, .inl (k2, 6, .inl (fun _ => 0)))] H := hP
  have hD : va_D A [(h0, .inr (0, [.ref q1, .null])), (q1, .inl (k1, 6, .inr (.inr (.inr (.inr ro))))), (r 0, .inl (cy, 40, .inl (fun _ => 0))), (r 1, .inl (cy, 40, .inl (fun _ => 0))), (r 2, .inl (cy, 40, .inl (fun _ => 0))), (r 3, .inl (cy, 40, .inl (fun _ => 0))), (r 4, .inl (cy, 40, .inl (fun _ => 0))), (r 5, .inl (cy, 40, .inl (fun _ => 0))), (q2, .inl (k2, 6, .inl (fun _ => 0)))] := hD
  have hK : va_K D vwCl [(cy, .int), (k1, (.array .int)), (k2, .boolean)] s := hK
  refine va_putF (D := D) (ci := 0) (v := .ref q2) (ty := (.array .boolean)) (C := RX0) (T := TX0) (N := 2) hx hb hts hin0 tyX0 tyX0_ok nmX0 hown hK hP hD hS 0 rfl rfl 1 (by decide) (hts (.fieldLink RX0 16 "BallastLine$Runs" "there" "[Z") (List.mem_of_getElem? (i := 8) rfl)) (fun _ h9 => h9) rfl hin rfl (by decide +kernel) rfl rfl (Nat.le_of_ble_eq_true rfl) dX0_init_21 (fun H locs hP hD hS => ?_)
  have hP : va_P D vwCl [(h0, .inr (0, [.ref q1, .ref q2])), (q1, .inl (k1, 6, .inr (.inr (.inr (.inr ro))))), (r 0, .inl (cy, 40, .inl (fun _ => 0))), (r 1, .inl (cy, 40, .inl (fun _ => 0))), (r 2, .inl (cy, 40, .inl (fun _ => 0))), (r 3, .inl (cy, 40, .inl (fun _ => 0))), (r 4, .inl (cy, 40, .inl (fun _ => 0))), (r 5, .inl (cy, 40, .inl (fun _ => 0))), (q2, .inl (k2, 6, .inl (fun _ => 0)))] H := hP
  have hD : va_D A [(h0, .inr (0, [.ref q1, .ref q2])), (q1, .inl (k1, 6, .inr (.inr (.inr (.inr ro))))), (r 0, .inl (cy, 40, .inl (fun _ => 0))), (r 1, .inl (cy, 40, .inl (fun _ => 0))), (r 2, .inl (cy, 40, .inl (fun _ => 0))), (r 3, .inl (cy, 40, .inl (fun _ => 0))), (r 4, .inl (cy, 40, .inl (fun _ => 0))), (r 5, .inl (cy, 40, .inl (fun _ => 0))), (q2, .inl (k2, 6, .inl (fun _ => 0)))] := hD
  obtain ⟨a, ha⟩ : ∃ a : Nat → Nat, a = gx [0, 0, 0, 0, 0, 0, 0, 0, 0, 0, 0, h0, q1, r 0, r 1, r 2, r 3, r 4, r 5, q2] := ⟨_, rfl⟩
  obtain ⟨k, hk⟩ : ∃ k : Nat → ClassId, k = gx [0, 0, 0, 0, 0, 0, 0, 0, 0, 0, 0, 0, k1, cy, cy, cy, cy, cy, cy, k2] := ⟨_, rfl⟩
  have e0 : a 11 = h0 := by rw [ha]; rfl
  have er : ro = rowsf a := by
    rw [hro]
    funext j
    unfold rowsf
    by_cases hj : j < 6
    · rw [if_pos hj, if_pos hj, ha]
      revert j
      exact lt6 (P := fun j => some (r j) = some (gx [0, 0, 0, 0, 0, 0, 0, 0, 0, 0, 0, h0, q1, r 0, r 1, r 2, r 3, r 4, r 5, q2] (13 + j))) rfl rfl rfl rfl rfl rfl
    · rw [if_neg hj, if_neg hj]
  rw [er] at hP hD
  have hP : va_P D vwCl (xU a k (fun _ _ => 0)) H := by rw [hk]; rw [ha] at hP ⊢; exact hP
  have hD : va_D A (xU a k (fun _ _ => 0)) := by rw [hk]; rw [ha] at hD ⊢; exact hD
  have hK : va_K D vwCl (tU k) s := by rw [hk]; exact hK.sub [1, 0, 0, 0, 0, 0, 0, 2] rfl
  subst hQ
  subst hAe
  refine W.widen (k := 8) (n := 252) (Nat.le_of_ble_eq_true rfl) (Nat.le_of_ble_eq_true rfl) ?_
  exact W.vret hx hb hr (fun t ht hW => ⟨⟨(), rfl, trivial, a, k, e0, by rw [ht]; exact hP, va_K.moved hW.alike hK, hD⟩, hS.F ht⟩) hS.2.2 dX0_init_24 hlocks
