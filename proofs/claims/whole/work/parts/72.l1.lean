set_option maxHeartbeats 4000000 in
set_option maxRecDepth 100000 in
theorem law_axle (E_m : EQ_axle) {p : Program} {l : Launch} {e : Env} {s : State} {m : MethodId} {below : List Frame} {meth : Method} {c : Code} {D : va_G} {b N cells slots : Nat} {xs : Nat → Int32} {a a2 : Nat → Nat} {k k2 : Nat → ClassId} {Q : State → Prop} (C0 : lw_At p s m meth c b N xs) (hnw : nw s) (hK : va_K D vwCl (tL k k2) s) (hf : cells ≤ room_1.cells ∧ slots ≤ room_1.slots) {cn : Nat} {B : RG} {L : Int64} {R T U V M : RG} {Lm : Int64} (hc : cn < 512) (hR : Rel cn B L R T U V M Lm) (i : Nat) (hi : i + 6 ≤ N) (hN : N ≤ 3072)
    (KK : ∀ (B : RG) (L : Int64) (R T U V M : RG) (Lm : Int64), Rel (cn + 1) B L R T U V M Lm → ∀ (H : Heap) (locs : List Loc), va_P D vwCl (xL a a2 k k2 B L R T U V M Lm) H → va_D (fun q : Nat => s.heap.size ≤ q) (xL a a2 k k2 B L R T U V M Lm) → va_S (fun q : Nat => s.heap.size ≤ q) s.heap H locs → ∀ ls : Array Slot, lv_has ls 4 [(0, .ref b), (1, .ref (a 26)), (2, .ref (a2 0)), (3, .int (nI i))] → W p l e room_1 s m #[Value.ref b] below meth c H locs cells slots Q (F0 m 1238 ls []))
    (H : Heap) (locs : List Loc) (hP : va_P D vwCl (xL a a2 k k2 B L R T U V M Lm) H) (hD : va_D (fun q : Nat => s.heap.size ≤ q) (xL a a2 k k2 B L R T U V M Lm)) (hS : va_S (fun q : Nat => s.heap.size ≤ q) s.heap H locs) (ls : Array Slot) (hl : lv_has ls 4 [(0, .ref b), (1, .ref (a 26)), (2, .ref (a2 0)), (3, .int (nI i))]) : W p l e room_1 s m #[Value.ref b] below meth c H locs cells slots Q (F0 m 475 ls []) := by
  obtain ⟨hx, hb, hr, hml, hown, hts, hX, hbl, hlocks, hgv⟩ := C0
  have hA : ∀ q : Nat, s.heap.size ≤ q → (fun q : Nat => s.heap.size ≤ q) q := fun _ h => h
  have hbA : ¬ (fun q : Nat => s.heap.size ≤ q) b := Nat.not_le.mpr hbl
  refine lv_aload_n hx hb dL_law_475 rfl (lv_at hl 1 rfl) ?_
  refine lv_aload_n hx hb dL_law_476 rfl (lv_at hl 0 rfl) ?_
  refine lv_iload_n hx hb dL_law_477 rfl (lv_at hl 3 rfl) ?_
  refine lv_iconst (v := (1 : Int32)) hx hb dL_law_478 (by decide) ?_
  refine lv_iadd hx hb dL_law_479 ?_
  refine va_sld hx hb hX hbl hbA hS (ixk i 1 (by omega) hN) dL_law_480 ?_
  obtain ⟨r, R1, M1, q1, q2, hR1⟩   := E_m hc hR (xs (Int32.toNatClampNeg (nI i + (1 : Int32))))
  refine go_i (run_V (b := (a 26)) (As := [.int (xs (Int32.toNatClampNeg (nI i + (1 : Int32))))]) (rest := []) ⟨hx, hb, hml, hown, hts⟩ hnw hK hP hD (fr_L_X a a2 k k2 B L R T U V M Lm B L R1 T U V) (ks_L_X k k2) (c_X4_axle l D a k H.size B L R T U V (xs (Int32.toNatClampNeg (nI i + (1 : Int32)))) r R1 q1) (cwV 1 hts (gl_in gL_law_X4_axle) rfl rfl rfl (by decide +kernel) ⟨Nat.le_of_ble_eq_true rfl, Nat.le_of_ble_eq_true rfl⟩) (rcv_X a k B L R T U V) rfl hl.1 rfl (Nat.le_of_ble_eq_true rfl) dL_law_481 hf) hP hD hS hA (fr_L_X a a2 k k2 B L R T U V M Lm B L R1 T U V) (fun H locs hP hD hS => ?_)
  refine lv_aload_n hx hb dL_law_484 rfl (lv_at hl 2 rfl) ?_
  refine lv_aload_n hx hb dL_law_485 rfl (lv_at hl 0 rfl) ?_
  refine lv_iload_n hx hb dL_law_486 rfl (lv_at hl 3 rfl) ?_
  refine lv_iconst (v := (1 : Int32)) hx hb dL_law_487 (by decide) ?_
  refine lv_iadd hx hb dL_law_488 ?_
  refine va_sld hx hb hX hbl hbA hS (ixk i 1 (by omega) hN) dL_law_489 ?_
  refine go_i (run_V (b := (a2 0)) (As := [.int (xs (Int32.toNatClampNeg (nI i + (1 : Int32))))]) (rest := [.int r]) ⟨hx, hb, hml, hown, hts⟩ hnw hK hP hD (fr_L_M a a2 k k2 B L R1 T U V M Lm M1 Lm) (ks_L_M k k2) (c_X5_axle l D a2 k2 H.size M Lm (xs (Int32.toNatClampNeg (nI i + (1 : Int32)))) r M1 q2) (cwV 1 hts (gl_in gL_law_X5_axle) rfl rfl rfl (by decide +kernel) ⟨Nat.le_of_ble_eq_true rfl, Nat.le_of_ble_eq_true rfl⟩) (rcv_M a2 k2 M Lm) rfl hl.1 rfl (Nat.le_of_ble_eq_true rfl) dL_law_490 hf) hP hD hS hA (fr_L_M a a2 k k2 B L R1 T U V M Lm M1 Lm) (fun H locs hP hD hS => ?_)
  refine lv_icmp_eq (tgt := 1238) hx hb dL_law_493 (by decide) (fun _ => ?_) (fun c9 => absurd rfl c9)
  exact KK B L R1 T U V M1 Lm hR1 H locs hP hD hS ls hl
set_option maxHeartbeats 4000000 in
set_option maxRecDepth 100000 in
theorem law_uncouple (E_m : EQ_uncouple) {p : Program} {l : Launch} {e : Env} {s : State} {m : MethodId} {below : List Frame} {meth : Method} {c : Code} {D : va_G} {b N cells slots : Nat} {xs : Nat → Int32} {a a2 : Nat → Nat} {k k2 : Nat → ClassId} {Q : State → Prop} (C0 : lw_At p s m meth c b N xs) (hnw : nw s) (hK : va_K D vwCl (tL k k2) s) (hf : cells ≤ room_1.cells ∧ slots ≤ room_1.slots) {cn : Nat} {B : RG} {L : Int64} {R T U V M : RG} {Lm : Int64} (hc : cn < 512) (hR : Rel cn B L R T U V M Lm) (i : Nat) (hi : i + 6 ≤ N) (hN : N ≤ 3072)
    (KK : ∀ (B : RG) (L : Int64) (R T U V M : RG) (Lm : Int64), Rel (cn + 1) B L R T U V M Lm → ∀ (H : Heap) (locs : List Loc), va_P D vwCl (xL a a2 k k2 B L R T U V M Lm) H → va_D (fun q : Nat => s.heap.size ≤ q) (xL a a2 k k2 B L R T U V M Lm) → va_S (fun q : Nat => s.heap.size ≤ q) s.heap H locs → ∀ ls : Array Slot, lv_has ls 4 [(0, .ref b), (1, .ref (a 26)), (2, .ref (a2 0)), (3, .int (nI i))] → W p l e room_1 s m #[Value.ref b] below meth c H locs cells slots Q (F0 m 1238 ls []))
    (H : Heap) (locs : List Loc) (hP : va_P D vwCl (xL a a2 k k2 B L R T U V M Lm) H) (hD : va_D (fun q : Nat => s.heap.size ≤ q) (xL a a2 k k2 B L R T U V M Lm)) (hS : va_S (fun q : Nat => s.heap.size ≤ q) s.heap H locs) (ls : Array Slot) (hl : lv_has ls 4 [(0, .ref b), (1, .ref (a 26)), (2, .ref (a2 0)), (3, .int (nI i))]) : W p l e room_1 s m #[Value.ref b] below meth c H locs cells slots Q (F0 m 498 ls []) := by
  obtain ⟨hx, hb, hr, hml, hown, hts, hX, hbl, hlocks, hgv⟩ := C0
  have hA : ∀ q : Nat, s.heap.size ≤ q → (fun q : Nat => s.heap.size ≤ q) q := fun _ h => h
  have hbA : ¬ (fun q : Nat => s.heap.size ≤ q) b := Nat.not_le.mpr hbl
  refine lv_aload_n hx hb dL_law_498 rfl (lv_at hl 1 rfl) ?_
  obtain ⟨r, R1, M1, q1, q2, hR1⟩   := E_m hc hR
  refine go_i (run_V (b := (a 26)) (As := []) (rest := []) ⟨hx, hb, hml, hown, hts⟩ hnw hK hP hD (fr_L_X a a2 k k2 B L R T U V M Lm B L R1 T U V) (ks_L_X k k2) (c_X4_uncouple l D a k H.size B L R T U V  r R1 q1) (cwV 0 hts (gl_in gL_law_X4_uncouple) rfl rfl rfl (by decide +kernel) ⟨Nat.le_of_ble_eq_true rfl, Nat.le_of_ble_eq_true rfl⟩) (rcv_X a k B L R T U V) rfl hl.1 rfl (Nat.le_of_ble_eq_true rfl) dL_law_499 hf) hP hD hS hA (fr_L_X a a2 k k2 B L R T U V M Lm B L R1 T U V) (fun H locs hP hD hS => ?_)
  refine lv_aload_n hx hb dL_law_502 rfl (lv_at hl 2 rfl) ?_
  refine go_i (run_V (b := (a2 0)) (As := []) (rest := [.int r]) ⟨hx, hb, hml, hown, hts⟩ hnw hK hP hD (fr_L_M a a2 k k2 B L R1 T U V M Lm M1 Lm) (ks_L_M k k2) (c_X5_uncouple l D a2 k2 H.size M Lm  r M1 q2) (cwV 0 hts (gl_in gL_law_X5_uncouple) rfl rfl rfl (by decide +kernel) ⟨Nat.le_of_ble_eq_true rfl, Nat.le_of_ble_eq_true rfl⟩) (rcv_M a2 k2 M Lm) rfl hl.1 rfl (Nat.le_of_ble_eq_true rfl) dL_law_503 hf) hP hD hS hA (fr_L_M a a2 k k2 B L R1 T U V M Lm M1 Lm) (fun H locs hP hD hS => ?_)
  refine lv_icmp_eq (tgt := 1238) hx hb dL_law_506 (by decide) (fun _ => ?_) (fun c9 => absurd rfl c9)
  exact KK B L R1 T U V M1 Lm hR1 H locs hP hD hS ls hl
set_option maxHeartbeats 4000000 in
set_option maxRecDepth 100000 in
theorem law_table (E_m : EQ_table) {p : Program} {l : Launch} {e : Env} {s : State} {m : MethodId} {below : List Frame} {meth : Method} {c : Code} {D : va_G} {b N cells slots : Nat} {xs : Nat → Int32} {a a2 : Nat → Nat} {k k2 : Nat → ClassId} {Q : State → Prop} (C0 : lw_At p s m meth c b N xs) (hnw : nw s) (hK : va_K D vwCl (tL k k2) s) (hf : cells ≤ room_1.cells ∧ slots ≤ room_1.slots) {cn : Nat} {B : RG} {L : Int64} {R T U V M : RG} {Lm : Int64} (hc : cn < 512) (hR : Rel cn B L R T U V M Lm) (i : Nat) (hi : i + 6 ≤ N) (hN : N ≤ 3072)
    (KK : ∀ (B : RG) (L : Int64) (R T U V M : RG) (Lm : Int64), Rel (cn + 1) B L R T U V M Lm → ∀ (H : Heap) (locs : List Loc), va_P D vwCl (xL a a2 k k2 B L R T U V M Lm) H → va_D (fun q : Nat => s.heap.size ≤ q) (xL a a2 k k2 B L R T U V M Lm) → va_S (fun q : Nat => s.heap.size ≤ q) s.heap H locs → ∀ ls : Array Slot, lv_has ls 4 [(0, .ref b), (1, .ref (a 26)), (2, .ref (a2 0)), (3, .int (nI i))] → W p l e room_1 s m #[Value.ref b] below meth c H locs cells slots Q (F0 m 1238 ls []))
    (H : Heap) (locs : List Loc) (hP : va_P D vwCl (xL a a2 k k2 B L R T U V M Lm) H) (hD : va_D (fun q : Nat => s.heap.size ≤ q) (xL a a2 k k2 B L R T U V M Lm)) (hS : va_S (fun q : Nat => s.heap.size ≤ q) s.heap H locs) (ls : Array Slot) (hl : lv_has ls 4 [(0, .ref b), (1, .ref (a 26)), (2, .ref (a2 0)), (3, .int (nI i))]) : W p l e room_1 s m #[Value.ref b] below meth c H locs cells slots Q (F0 m 511 ls []) := by
  obtain ⟨hx, hb, hr, hml, hown, hts, hX, hbl, hlocks, hgv⟩ := C0
  have hA : ∀ q : Nat, s.heap.size ≤ q → (fun q : Nat => s.heap.size ≤ q) q := fun _ h => h
  have hbA : ¬ (fun q : Nat => s.heap.size ≤ q) b := Nat.not_le.mpr hbl
  refine lv_aload_n hx hb dL_law_511 rfl (lv_at hl 1 rfl) ?_
  refine lv_aload_n hx hb dL_law_512 rfl (lv_at hl 0 rfl) ?_
  refine lv_iload_n hx hb dL_law_513 rfl (lv_at hl 3 rfl) ?_
  refine lv_iconst (v := (1 : Int32)) hx hb dL_law_514 (by decide) ?_
  refine lv_iadd hx hb dL_law_515 ?_
  refine va_sld hx hb hX hbl hbA hS (ixk i 1 (by omega) hN) dL_law_516 ?_
  refine lv_aload_n hx hb dL_law_517 rfl (lv_at hl 0 rfl) ?_
  refine lv_iload_n hx hb dL_law_518 rfl (lv_at hl 3 rfl) ?_
  refine lv_iconst (v := (2 : Int32)) hx hb dL_law_519 (by decide) ?_
  refine lv_iadd hx hb dL_law_520 ?_
  refine va_sld hx hb hX hbl hbA hS (ixk i 2 (by omega) hN) dL_law_521 ?_
  obtain ⟨r, R1, M1, q1, q2, hR1⟩   := E_m hc hR (xs (Int32.toNatClampNeg (nI i + (1 : Int32)))) (xs (Int32.toNatClampNeg (nI i + (2 : Int32))))
  refine go_i (run_V (b := (a 26)) (As := [.int (xs (Int32.toNatClampNeg (nI i + (1 : Int32)))), .int (xs (Int32.toNatClampNeg (nI i + (2 : Int32))))]) (rest := []) ⟨hx, hb, hml, hown, hts⟩ hnw hK hP hD (fr_L_X a a2 k k2 B L R T U V M Lm B L R1 T U V) (ks_L_X k k2) (c_X4_table l D a k H.size B L R T U V (xs (Int32.toNatClampNeg (nI i + (1 : Int32)))) (xs (Int32.toNatClampNeg (nI i + (2 : Int32)))) r R1 q1) (cwV 2 hts (gl_in gL_law_X4_table) rfl rfl rfl (by decide +kernel) ⟨Nat.le_of_ble_eq_true rfl, Nat.le_of_ble_eq_true rfl⟩) (rcv_X a k B L R T U V) rfl hl.1 rfl (Nat.le_of_ble_eq_true rfl) dL_law_522 hf) hP hD hS hA (fr_L_X a a2 k k2 B L R T U V M Lm B L R1 T U V) (fun H locs hP hD hS => ?_)
  refine lv_aload_n hx hb dL_law_525 rfl (lv_at hl 2 rfl) ?_
  refine lv_aload_n hx hb dL_law_526 rfl (lv_at hl 0 rfl) ?_
  refine lv_iload_n hx hb dL_law_527 rfl (lv_at hl 3 rfl) ?_
  refine lv_iconst (v := (1 : Int32)) hx hb dL_law_528 (by decide) ?_
  refine lv_iadd hx hb dL_law_529 ?_
  refine va_sld hx hb hX hbl hbA hS (ixk i 1 (by omega) hN) dL_law_530 ?_
  refine lv_aload_n hx hb dL_law_531 rfl (lv_at hl 0 rfl) ?_
  refine lv_iload_n hx hb dL_law_532 rfl (lv_at hl 3 rfl) ?_
  refine lv_iconst (v := (2 : Int32)) hx hb dL_law_533 (by decide) ?_
  refine lv_iadd hx hb dL_law_534 ?_
  refine va_sld hx hb hX hbl hbA hS (ixk i 2 (by omega) hN) dL_law_535 ?_
  refine go_i (run_V (b := (a2 0)) (As := [.int (xs (Int32.toNatClampNeg (nI i + (1 : Int32)))), .int (xs (Int32.toNatClampNeg (nI i + (2 : Int32))))]) (rest := [.int r]) ⟨hx, hb, hml, hown, hts⟩ hnw hK hP hD (fr_L_M a a2 k k2 B L R1 T U V M Lm M1 Lm) (ks_L_M k k2) (c_X5_table l D a2 k2 H.size M Lm (xs (Int32.toNatClampNeg (nI i + (1 : Int32)))) (xs (Int32.toNatClampNeg (nI i + (2 : Int32)))) r M1 q2) (cwV 2 hts (gl_in gL_law_X5_table) rfl rfl rfl (by decide +kernel) ⟨Nat.le_of_ble_eq_true rfl, Nat.le_of_ble_eq_true rfl⟩) (rcv_M a2 k2 M Lm) rfl hl.1 rfl (Nat.le_of_ble_eq_true rfl) dL_law_536 hf) hP hD hS hA (fr_L_M a a2 k k2 B L R1 T U V M Lm M1 Lm) (fun H locs hP hD hS => ?_)
  refine lv_icmp_eq (tgt := 1238) hx hb dL_law_539 (by decide) (fun _ => ?_) (fun c9 => absurd rfl c9)
  exact KK B L R1 T U V M1 Lm hR1 H locs hP hD hS ls hl
set_option maxHeartbeats 4000000 in
set_option maxRecDepth 100000 in
theorem law_pass (E_m : EQ_pass) {p : Program} {l : Launch} {e : Env} {s : State} {m : MethodId} {below : List Frame} {meth : Method} {c : Code} {D : va_G} {b N cells slots : Nat} {xs : Nat → Int32} {a a2 : Nat → Nat} {k k2 : Nat → ClassId} {Q : State → Prop} (C0 : lw_At p s m meth c b N xs) (hnw : nw s) (hK : va_K D vwCl (tL k k2) s) (hf : cells ≤ room_1.cells ∧ slots ≤ room_1.slots) {cn : Nat} {B : RG} {L : Int64} {R T U V M : RG} {Lm : Int64} (hc : cn < 512) (hR : Rel cn B L R T U V M Lm) (i : Nat) (hi : i + 6 ≤ N) (hN : N ≤ 3072)
    (KK : ∀ (B : RG) (L : Int64) (R T U V M : RG) (Lm : Int64), Rel (cn + 1) B L R T U V M Lm → ∀ (H : Heap) (locs : List Loc), va_P D vwCl (xL a a2 k k2 B L R T U V M Lm) H → va_D (fun q : Nat => s.heap.size ≤ q) (xL a a2 k k2 B L R T U V M Lm) → va_S (fun q : Nat => s.heap.size ≤ q) s.heap H locs → ∀ ls : Array Slot, lv_has ls 4 [(0, .ref b), (1, .ref (a 26)), (2, .ref (a2 0)), (3, .int (nI i))] → W p l e room_1 s m #[Value.ref b] below meth c H locs cells slots Q (F0 m 1238 ls []))
    (H : Heap) (locs : List Loc) (hP : va_P D vwCl (xL a a2 k k2 B L R T U V M Lm) H) (hD : va_D (fun q : Nat => s.heap.size ≤ q) (xL a a2 k k2 B L R T U V M Lm)) (hS : va_S (fun q : Nat => s.heap.size ≤ q) s.heap H locs) (ls : Array Slot) (hl : lv_has ls 4 [(0, .ref b), (1, .ref (a 26)), (2, .ref (a2 0)), (3, .int (nI i))]) : W p l e room_1 s m #[Value.ref b] below meth c H locs cells slots Q (F0 m 544 ls []) := by
  obtain ⟨hx, hb, hr, hml, hown, hts, hX, hbl, hlocks, hgv⟩ := C0
  have hA : ∀ q : Nat, s.heap.size ≤ q → (fun q : Nat => s.heap.size ≤ q) q := fun _ h => h
  have hbA : ¬ (fun q : Nat => s.heap.size ≤ q) b := Nat.not_le.mpr hbl
  refine lv_aload_n hx hb dL_law_544 rfl (lv_at hl 1 rfl) ?_
  refine lv_aload_n hx hb dL_law_545 rfl (lv_at hl 0 rfl) ?_
  refine lv_iload_n hx hb dL_law_546 rfl (lv_at hl 3 rfl) ?_
  refine lv_iconst (v := (1 : Int32)) hx hb dL_law_547 (by decide) ?_
  refine lv_iadd hx hb dL_law_548 ?_
  refine va_sld hx hb hX hbl hbA hS (ixk i 1 (by omega) hN) dL_law_549 ?_
  obtain ⟨r, T1, M1, q1, q2, hR1⟩   := E_m hc hR (xs (Int32.toNatClampNeg (nI i + (1 : Int32))))
  refine go_i (run_V (b := (a 26)) (As := [.int (xs (Int32.toNatClampNeg (nI i + (1 : Int32))))]) (rest := []) ⟨hx, hb, hml, hown, hts⟩ hnw hK hP hD (fr_L_X a a2 k k2 B L R T U V M Lm B L R T1 U V) (ks_L_X k k2) (c_X4_pass l D a k H.size B L R T U V (xs (Int32.toNatClampNeg (nI i + (1 : Int32)))) r T1 q1) (cwV 1 hts (gl_in gL_law_X4_pass) rfl rfl rfl (by decide +kernel) ⟨Nat.le_of_ble_eq_true rfl, Nat.le_of_ble_eq_true rfl⟩) (rcv_X a k B L R T U V) rfl hl.1 rfl (Nat.le_of_ble_eq_true rfl) dL_law_550 hf) hP hD hS hA (fr_L_X a a2 k k2 B L R T U V M Lm B L R T1 U V) (fun H locs hP hD hS => ?_)
  refine lv_aload_n hx hb dL_law_553 rfl (lv_at hl 2 rfl) ?_
  refine lv_aload_n hx hb dL_law_554 rfl (lv_at hl 0 rfl) ?_
  refine lv_iload_n hx hb dL_law_555 rfl (lv_at hl 3 rfl) ?_
  refine lv_iconst (v := (1 : Int32)) hx hb dL_law_556 (by decide) ?_
  refine lv_iadd hx hb dL_law_557 ?_
  refine va_sld hx hb hX hbl hbA hS (ixk i 1 (by omega) hN) dL_law_558 ?_
  refine go_i (run_V (b := (a2 0)) (As := [.int (xs (Int32.toNatClampNeg (nI i + (1 : Int32))))]) (rest := [.int r]) ⟨hx, hb, hml, hown, hts⟩ hnw hK hP hD (fr_L_M a a2 k k2 B L R T1 U V M Lm M1 Lm) (ks_L_M k k2) (c_X5_pass l D a2 k2 H.size M Lm (xs (Int32.toNatClampNeg (nI i + (1 : Int32)))) r M1 q2) (cwV 1 hts (gl_in gL_law_X5_pass) rfl rfl rfl (by decide +kernel) ⟨Nat.le_of_ble_eq_true rfl, Nat.le_of_ble_eq_true rfl⟩) (rcv_M a2 k2 M Lm) rfl hl.1 rfl (Nat.le_of_ble_eq_true rfl) dL_law_559 hf) hP hD hS hA (fr_L_M a a2 k k2 B L R T1 U V M Lm M1 Lm) (fun H locs hP hD hS => ?_)
  refine lv_icmp_eq (tgt := 1238) hx hb dL_law_562 (by decide) (fun _ => ?_) (fun c9 => absurd rfl c9)
  exact KK B L R T1 U V M1 Lm hR1 H locs hP hD hS ls hl
set_option maxHeartbeats 4000000 in
set_option maxRecDepth 100000 in
theorem law_mean (E_m : EQ_mean) {p : Program} {l : Launch} {e : Env} {s : State} {m : MethodId} {below : List Frame} {meth : Method} {c : Code} {D : va_G} {b N cells slots : Nat} {xs : Nat → Int32} {a a2 : Nat → Nat} {k k2 : Nat → ClassId} {Q : State → Prop} (C0 : lw_At p s m meth c b N xs) (hnw : nw s) (hK : va_K D vwCl (tL k k2) s) (hf : cells ≤ room_1.cells ∧ slots ≤ room_1.slots) {cn : Nat} {B : RG} {L : Int64} {R T U V M : RG} {Lm : Int64} (hc : cn < 512) (hR : Rel cn B L R T U V M Lm) (i : Nat) (hi : i + 6 ≤ N) (hN : N ≤ 3072)
    (KK : ∀ (B : RG) (L : Int64) (R T U V M : RG) (Lm : Int64), Rel (cn + 1) B L R T U V M Lm → ∀ (H : Heap) (locs : List Loc), va_P D vwCl (xL a a2 k k2 B L R T U V M Lm) H → va_D (fun q : Nat => s.heap.size ≤ q) (xL a a2 k k2 B L R T U V M Lm) → va_S (fun q : Nat => s.heap.size ≤ q) s.heap H locs → ∀ ls : Array Slot, lv_has ls 4 [(0, .ref b), (1, .ref (a 26)), (2, .ref (a2 0)), (3, .int (nI i))] → W p l e room_1 s m #[Value.ref b] below meth c H locs cells slots Q (F0 m 1238 ls []))
    (H : Heap) (locs : List Loc) (hP : va_P D vwCl (xL a a2 k k2 B L R T U V M Lm) H) (hD : va_D (fun q : Nat => s.heap.size ≤ q) (xL a a2 k k2 B L R T U V M Lm)) (hS : va_S (fun q : Nat => s.heap.size ≤ q) s.heap H locs) (ls : Array Slot) (hl : lv_has ls 4 [(0, .ref b), (1, .ref (a 26)), (2, .ref (a2 0)), (3, .int (nI i))]) : W p l e room_1 s m #[Value.ref b] below meth c H locs cells slots Q (F0 m 567 ls []) := by
  obtain ⟨hx, hb, hr, hml, hown, hts, hX, hbl, hlocks, hgv⟩ := C0
  have hA : ∀ q : Nat, s.heap.size ≤ q → (fun q : Nat => s.heap.size ≤ q) q := fun _ h => h
  have hbA : ¬ (fun q : Nat => s.heap.size ≤ q) b := Nat.not_le.mpr hbl
  refine lv_aload_n hx hb dL_law_567 rfl (lv_at hl 1 rfl) ?_
  obtain ⟨r, B1, L1, M1, Lm1, q1, q2, hR1⟩   := E_m hc hR
  refine go_i (run_V (b := (a 26)) (As := []) (rest := []) ⟨hx, hb, hml, hown, hts⟩ hnw hK hP hD (fr_L_X a a2 k k2 B L R T U V M Lm B1 L1 R T U V) (ks_L_X k k2) (c_X4_mean l D a k H.size B L R T U V  r B1 L1 q1) (cwV 0 hts (gl_in gL_law_X4_mean) rfl rfl rfl (by decide +kernel) ⟨Nat.le_of_ble_eq_true rfl, Nat.le_of_ble_eq_true rfl⟩) (rcv_X a k B L R T U V) rfl hl.1 rfl (Nat.le_of_ble_eq_true rfl) dL_law_568 hf) hP hD hS hA (fr_L_X a a2 k k2 B L R T U V M Lm B1 L1 R T U V) (fun H locs hP hD hS => ?_)
  refine lv_aload_n hx hb dL_law_571 rfl (lv_at hl 2 rfl) ?_
  refine go_i (run_V (b := (a2 0)) (As := []) (rest := [.int r]) ⟨hx, hb, hml, hown, hts⟩ hnw hK hP hD (fr_L_M a a2 k k2 B1 L1 R T U V M Lm M1 Lm1) (ks_L_M k k2) (c_X5_mean l D a2 k2 H.size M Lm  r M1 Lm1 q2) (cwV 0 hts (gl_in gL_law_X5_mean) rfl rfl rfl (by decide +kernel) ⟨Nat.le_of_ble_eq_true rfl, Nat.le_of_ble_eq_true rfl⟩) (rcv_M a2 k2 M Lm) rfl hl.1 rfl (Nat.le_of_ble_eq_true rfl) dL_law_572 hf) hP hD hS hA (fr_L_M a a2 k k2 B1 L1 R T U V M Lm M1 Lm1) (fun H locs hP hD hS => ?_)
  refine lv_icmp_eq (tgt := 1238) hx hb dL_law_575 (by decide) (fun _ => ?_) (fun c9 => absurd rfl c9)
  exact KK B1 L1 R T U V M1 Lm1 hR1 H locs hP hD hS ls hl
set_option maxHeartbeats 4000000 in
set_option maxRecDepth 100000 in
theorem law_lift (E_m : EQ_lift) {p : Program} {l : Launch} {e : Env} {s : State} {m : MethodId} {below : List Frame} {meth : Method} {c : Code} {D : va_G} {b N cells slots : Nat} {xs : Nat → Int32} {a a2 : Nat → Nat} {k k2 : Nat → ClassId} {Q : State → Prop} (C0 : lw_At p s m meth c b N xs) (hnw : nw s) (hK : va_K D vwCl (tL k k2) s) (hf : cells ≤ room_1.cells ∧ slots ≤ room_1.slots) {cn : Nat} {B : RG} {L : Int64} {R T U V M : RG} {Lm : Int64} (hc : cn < 512) (hR : Rel cn B L R T U V M Lm) (i : Nat) (hi : i + 6 ≤ N) (hN : N ≤ 3072)
    (KK : ∀ (B : RG) (L : Int64) (R T U V M : RG) (Lm : Int64), Rel (cn + 1) B L R T U V M Lm → ∀ (H : Heap) (locs : List Loc), va_P D vwCl (xL a a2 k k2 B L R T U V M Lm) H → va_D (fun q : Nat => s.heap.size ≤ q) (xL a a2 k k2 B L R T U V M Lm) → va_S (fun q : Nat => s.heap.size ≤ q) s.heap H locs → ∀ ls : Array Slot, lv_has ls 4 [(0, .ref b), (1, .ref (a 26)), (2, .ref (a2 0)), (3, .int (nI i))] → W p l e room_1 s m #[Value.ref b] below meth c H locs cells slots Q (F0 m 1238 ls []))
    (H : Heap) (locs : List Loc) (hP : va_P D vwCl (xL a a2 k k2 B L R T U V M Lm) H) (hD : va_D (fun q : Nat => s.heap.size ≤ q) (xL a a2 k k2 B L R T U V M Lm)) (hS : va_S (fun q : Nat => s.heap.size ≤ q) s.heap H locs) (ls : Array Slot) (hl : lv_has ls 4 [(0, .ref b), (1, .ref (a 26)), (2, .ref (a2 0)), (3, .int (nI i))]) : W p l e room_1 s m #[Value.ref b] below meth c H locs cells slots Q (F0 m 580 ls []) := by
  obtain ⟨hx, hb, hr, hml, hown, hts, hX, hbl, hlocks, hgv⟩ := C0
  have hA : ∀ q : Nat, s.heap.size ≤ q → (fun q : Nat => s.heap.size ≤ q) q := fun _ h => h
  have hbA : ¬ (fun q : Nat => s.heap.size ≤ q) b := Nat.not_le.mpr hbl
  refine lv_aload_n hx hb dL_law_580 rfl (lv_at hl 1 rfl) ?_
  refine lv_aload_n hx hb dL_law_581 rfl (lv_at hl 0 rfl) ?_
  refine lv_iload_n hx hb dL_law_582 rfl (lv_at hl 3 rfl) ?_
  refine lv_iconst (v := (1 : Int32)) hx hb dL_law_583 (by decide) ?_
  refine lv_iadd hx hb dL_law_584 ?_
  refine va_sld hx hb hX hbl hbA hS (ixk i 1 (by omega) hN) dL_law_585 ?_
  refine lv_aload_n hx hb dL_law_586 rfl (lv_at hl 0 rfl) ?_
  refine lv_iload_n hx hb dL_law_587 rfl (lv_at hl 3 rfl) ?_
  refine lv_iconst (v := (2 : Int32)) hx hb dL_law_588 (by decide) ?_
  refine lv_iadd hx hb dL_law_589 ?_
  refine va_sld hx hb hX hbl hbA hS (ixk i 2 (by omega) hN) dL_law_590 ?_
  refine lv_aload_n hx hb dL_law_591 rfl (lv_at hl 0 rfl) ?_
  refine lv_iload_n hx hb dL_law_592 rfl (lv_at hl 3 rfl) ?_
  refine lv_iconst (v := (3 : Int32)) hx hb dL_law_593 (by decide) ?_
  refine lv_iadd hx hb dL_law_594 ?_
  refine va_sld hx hb hX hbl hbA hS (ixk i 3 (by omega) hN) dL_law_595 ?_
  obtain ⟨r, T1, M1, q1, q2, hR1⟩   := E_m hc hR (xs (Int32.toNatClampNeg (nI i + (1 : Int32)))) (xs (Int32.toNatClampNeg (nI i + (2 : Int32)))) (xs (Int32.toNatClampNeg (nI i + (3 : Int32))))
  refine go_i (run_V (b := (a 26)) (As := [.int (xs (Int32.toNatClampNeg (nI i + (1 : Int32)))), .int (xs (Int32.toNatClampNeg (nI i + (2 : Int32)))), .int (xs (Int32.toNatClampNeg (nI i + (3 : Int32))))]) (rest := []) ⟨hx, hb, hml, hown, hts⟩ hnw hK hP hD (fr_L_X a a2 k k2 B L R T U V M Lm B L R T1 U V) (ks_L_X k k2) (c_X4_lift l D a k H.size B L R T U V (xs (Int32.toNatClampNeg (nI i + (1 : Int32)))) (xs (Int32.toNatClampNeg (nI i + (2 : Int32)))) (xs (Int32.toNatClampNeg (nI i + (3 : Int32)))) r T1 q1) (cwV 3 hts (gl_in gL_law_X4_lift) rfl rfl rfl (by decide +kernel) ⟨Nat.le_of_ble_eq_true rfl, Nat.le_of_ble_eq_true rfl⟩) (rcv_X a k B L R T U V) rfl hl.1 rfl (Nat.le_of_ble_eq_true rfl) dL_law_596 hf) hP hD hS hA (fr_L_X a a2 k k2 B L R T U V M Lm B L R T1 U V) (fun H locs hP hD hS => ?_)
  refine lv_aload_n hx hb dL_law_599 rfl (lv_at hl 2 rfl) ?_
  refine lv_aload_n hx hb dL_law_600 rfl (lv_at hl 0 rfl) ?_
  refine lv_iload_n hx hb dL_law_601 rfl (lv_at hl 3 rfl) ?_
  refine lv_iconst (v := (1 : Int32)) hx hb dL_law_602 (by decide) ?_
  refine lv_iadd hx hb dL_law_603 ?_
  refine va_sld hx hb hX hbl hbA hS (ixk i 1 (by omega) hN) dL_law_604 ?_
  refine lv_aload_n hx hb dL_law_605 rfl (lv_at hl 0 rfl) ?_
  refine lv_iload_n hx hb dL_law_606 rfl (lv_at hl 3 rfl) ?_
  refine lv_iconst (v := (2 : Int32)) hx hb dL_law_607 (by decide) ?_
  refine lv_iadd hx hb dL_law_608 ?_
  refine va_sld hx hb hX hbl hbA hS (ixk i 2 (by omega) hN) dL_law_609 ?_
  refine lv_aload_n hx hb dL_law_610 rfl (lv_at hl 0 rfl) ?_
  refine lv_iload_n hx hb dL_law_611 rfl (lv_at hl 3 rfl) ?_
  refine lv_iconst (v := (3 : Int32)) hx hb dL_law_612 (by decide) ?_
  refine lv_iadd hx hb dL_law_613 ?_
  refine va_sld hx hb hX hbl hbA hS (ixk i 3 (by omega) hN) dL_law_614 ?_
  refine go_i (run_V (b := (a2 0)) (As := [.int (xs (Int32.toNatClampNeg (nI i + (1 : Int32)))), .int (xs (Int32.toNatClampNeg (nI i + (2 : Int32)))), .int (xs (Int32.toNatClampNeg (nI i + (3 : Int32))))]) (rest := [.int r]) ⟨hx, hb, hml, hown, hts⟩ hnw hK hP hD (fr_L_M a a2 k k2 B L R T1 U V M Lm M1 Lm) (ks_L_M k k2) (c_X5_lift l D a2 k2 H.size M Lm (xs (Int32.toNatClampNeg (nI i + (1 : Int32)))) (xs (Int32.toNatClampNeg (nI i + (2 : Int32)))) (xs (Int32.toNatClampNeg (nI i + (3 : Int32)))) r M1 q2) (cwV 3 hts (gl_in gL_law_X5_lift) rfl rfl rfl (by decide +kernel) ⟨Nat.le_of_ble_eq_true rfl, Nat.le_of_ble_eq_true rfl⟩) (rcv_M a2 k2 M Lm) rfl hl.1 rfl (Nat.le_of_ble_eq_true rfl) dL_law_615 hf) hP hD hS hA (fr_L_M a a2 k k2 B L R T1 U V M Lm M1 Lm) (fun H locs hP hD hS => ?_)
  refine lv_icmp_eq (tgt := 1238) hx hb dL_law_618 (by decide) (fun _ => ?_) (fun c9 => absurd rfl c9)
  exact KK B L R T1 U V M1 Lm hR1 H locs hP hD hS ls hl
set_option maxHeartbeats 4000000 in
set_option maxRecDepth 100000 in
theorem law_measure (E_m : EQ_measure) {p : Program} {l : Launch} {e : Env} {s : State} {m : MethodId} {below : List Frame} {meth : Method} {c : Code} {D : va_G} {b N cells slots : Nat} {xs : Nat → Int32} {a a2 : Nat → Nat} {k k2 : Nat → ClassId} {Q : State → Prop} (C0 : lw_At p s m meth c b N xs) (hnw : nw s) (hK : va_K D vwCl (tL k k2) s) (hf : cells ≤ room_1.cells ∧ slots ≤ room_1.slots) {cn : Nat} {B : RG} {L : Int64} {R T U V M : RG} {Lm : Int64} (hc : cn < 512) (hR : Rel cn B L R T U V M Lm) (i : Nat) (hi : i + 6 ≤ N) (hN : N ≤ 3072)
    (KK : ∀ (B : RG) (L : Int64) (R T U V M : RG) (Lm : Int64), Rel (cn + 1) B L R T U V M Lm → ∀ (H : Heap) (locs : List Loc), va_P D vwCl (xL a a2 k k2 B L R T U V M Lm) H → va_D (fun q : Nat => s.heap.size ≤ q) (xL a a2 k k2 B L R T U V M Lm) → va_S (fun q : Nat => s.heap.size ≤ q) s.heap H locs → ∀ ls : Array Slot, lv_has ls 4 [(0, .ref b), (1, .ref (a 26)), (2, .ref (a2 0)), (3, .int (nI i))] → W p l e room_1 s m #[Value.ref b] below meth c H locs cells slots Q (F0 m 1238 ls []))
    (H : Heap) (locs : List Loc) (hP : va_P D vwCl (xL a a2 k k2 B L R T U V M Lm) H) (hD : va_D (fun q : Nat => s.heap.size ≤ q) (xL a a2 k k2 B L R T U V M Lm)) (hS : va_S (fun q : Nat => s.heap.size ≤ q) s.heap H locs) (ls : Array Slot) (hl : lv_has ls 4 [(0, .ref b), (1, .ref (a 26)), (2, .ref (a2 0)), (3, .int (nI i))]) : W p l e room_1 s m #[Value.ref b] below meth c H locs cells slots Q (F0 m 623 ls []) := by
  obtain ⟨hx, hb, hr, hml, hown, hts, hX, hbl, hlocks, hgv⟩ := C0
  have hA : ∀ q : Nat, s.heap.size ≤ q → (fun q : Nat => s.heap.size ≤ q) q := fun _ h => h
  have hbA : ¬ (fun q : Nat => s.heap.size ≤ q) b := Nat.not_le.mpr hbl
  refine lv_aload_n hx hb dL_law_623 rfl (lv_at hl 1 rfl) ?_
  refine lv_aload_n hx hb dL_law_624 rfl (lv_at hl 0 rfl) ?_
  refine lv_iload_n hx hb dL_law_625 rfl (lv_at hl 3 rfl) ?_
  refine lv_iconst (v := (1 : Int32)) hx hb dL_law_626 (by decide) ?_
  refine lv_iadd hx hb dL_law_627 ?_
  refine va_sld hx hb hX hbl hbA hS (ixk i 1 (by omega) hN) dL_law_628 ?_
  refine lv_aload_n hx hb dL_law_629 rfl (lv_at hl 0 rfl) ?_
  refine lv_iload_n hx hb dL_law_630 rfl (lv_at hl 3 rfl) ?_
  refine lv_iconst (v := (2 : Int32)) hx hb dL_law_631 (by decide) ?_
  refine lv_iadd hx hb dL_law_632 ?_
  refine va_sld hx hb hX hbl hbA hS (ixk i 2 (by omega) hN) dL_law_633 ?_
  obtain ⟨r, U1, M1, q1, q2, hR1⟩   := E_m hc hR (xs (Int32.toNatClampNeg (nI i + (1 : Int32)))) (xs (Int32.toNatClampNeg (nI i + (2 : Int32))))
  refine go_i (run_V (b := (a 26)) (As := [.int (xs (Int32.toNatClampNeg (nI i + (1 : Int32)))), .int (xs (Int32.toNatClampNeg (nI i + (2 : Int32))))]) (rest := []) ⟨hx, hb, hml, hown, hts⟩ hnw hK hP hD (fr_L_X a a2 k k2 B L R T U V M Lm B L R T U1 V) (ks_L_X k k2) (c_X4_measure l D a k H.size B L R T U V (xs (Int32.toNatClampNeg (nI i + (1 : Int32)))) (xs (Int32.toNatClampNeg (nI i + (2 : Int32)))) r U1 q1) (cwV 2 hts (gl_in gL_law_X4_measure) rfl rfl rfl (by decide +kernel) ⟨Nat.le_of_ble_eq_true rfl, Nat.le_of_ble_eq_true rfl⟩) (rcv_X a k B L R T U V) rfl hl.1 rfl (Nat.le_of_ble_eq_true rfl) dL_law_634 hf) hP hD hS hA (fr_L_X a a2 k k2 B L R T U V M Lm B L R T U1 V) (fun H locs hP hD hS => ?_)
  refine lv_aload_n hx hb dL_law_637 rfl (lv_at hl 2 rfl) ?_
  refine lv_aload_n hx hb dL_law_638 rfl (lv_at hl 0 rfl) ?_
  refine lv_iload_n hx hb dL_law_639 rfl (lv_at hl 3 rfl) ?_
  refine lv_iconst (v := (1 : Int32)) hx hb dL_law_640 (by decide) ?_
  refine lv_iadd hx hb dL_law_641 ?_
  refine va_sld hx hb hX hbl hbA hS (ixk i 1 (by omega) hN) dL_law_642 ?_
  refine lv_aload_n hx hb dL_law_643 rfl (lv_at hl 0 rfl) ?_
  refine lv_iload_n hx hb dL_law_644 rfl (lv_at hl 3 rfl) ?_
  refine lv_iconst (v := (2 : Int32)) hx hb dL_law_645 (by decide) ?_
  refine lv_iadd hx hb dL_law_646 ?_
  refine va_sld hx hb hX hbl hbA hS (ixk i 2 (by omega) hN) dL_law_647 ?_
  refine go_i (run_V (b := (a2 0)) (As := [.int (xs (Int32.toNatClampNeg (nI i + (1 : Int32)))), .int (xs (Int32.toNatClampNeg (nI i + (2 : Int32))))]) (rest := [.int r]) ⟨hx, hb, hml, hown, hts⟩ hnw hK hP hD (fr_L_M a a2 k k2 B L R T U1 V M Lm M1 Lm) (ks_L_M k k2) (c_X5_measure l D a2 k2 H.size M Lm (xs (Int32.toNatClampNeg (nI i + (1 : Int32)))) (xs (Int32.toNatClampNeg (nI i + (2 : Int32)))) r M1 q2) (cwV 2 hts (gl_in gL_law_X5_measure) rfl rfl rfl (by decide +kernel) ⟨Nat.le_of_ble_eq_true rfl, Nat.le_of_ble_eq_true rfl⟩) (rcv_M a2 k2 M Lm) rfl hl.1 rfl (Nat.le_of_ble_eq_true rfl) dL_law_648 hf) hP hD hS hA (fr_L_M a a2 k k2 B L R T U1 V M Lm M1 Lm) (fun H locs hP hD hS => ?_)
  refine lv_icmp_eq (tgt := 1238) hx hb dL_law_651 (by decide) (fun _ => ?_) (fun c9 => absurd rfl c9)
  exact KK B L R T U1 V M1 Lm hR1 H locs hP hD hS ls hl
set_option maxHeartbeats 4000000 in
set_option maxRecDepth 100000 in
theorem law_level (E_m : EQ_level) {p : Program} {l : Launch} {e : Env} {s : State} {m : MethodId} {below : List Frame} {meth : Method} {c : Code} {D : va_G} {b N cells slots : Nat} {xs : Nat → Int32} {a a2 : Nat → Nat} {k k2 : Nat → ClassId} {Q : State → Prop} (C0 : lw_At p s m meth c b N xs) (hnw : nw s) (hK : va_K D vwCl (tL k k2) s) (hf : cells ≤ room_1.cells ∧ slots ≤ room_1.slots) {cn : Nat} {B : RG} {L : Int64} {R T U V M : RG} {Lm : Int64} (hc : cn < 512) (hR : Rel cn B L R T U V M Lm) (i : Nat) (hi : i + 6 ≤ N) (hN : N ≤ 3072)
    (KK : ∀ (B : RG) (L : Int64) (R T U V M : RG) (Lm : Int64), Rel (cn + 1) B L R T U V M Lm → ∀ (H : Heap) (locs : List Loc), va_P D vwCl (xL a a2 k k2 B L R T U V M Lm) H → va_D (fun q : Nat => s.heap.size ≤ q) (xL a a2 k k2 B L R T U V M Lm) → va_S (fun q : Nat => s.heap.size ≤ q) s.heap H locs → ∀ ls : Array Slot, lv_has ls 4 [(0, .ref b), (1, .ref (a 26)), (2, .ref (a2 0)), (3, .int (nI i))] → W p l e room_1 s m #[Value.ref b] below meth c H locs cells slots Q (F0 m 1238 ls []))
    (H : Heap) (locs : List Loc) (hP : va_P D vwCl (xL a a2 k k2 B L R T U V M Lm) H) (hD : va_D (fun q : Nat => s.heap.size ≤ q) (xL a a2 k k2 B L R T U V M Lm)) (hS : va_S (fun q : Nat => s.heap.size ≤ q) s.heap H locs) (ls : Array Slot) (hl : lv_has ls 4 [(0, .ref b), (1, .ref (a 26)), (2, .ref (a2 0)), (3, .int (nI i))]) : W p l e room_1 s m #[Value.ref b] below meth c H locs cells slots Q (F0 m 656 ls []) := by
  obtain ⟨hx, hb, hr, hml, hown, hts, hX, hbl, hlocks, hgv⟩ := C0
  have hA : ∀ q : Nat, s.heap.size ≤ q → (fun q : Nat => s.heap.size ≤ q) q := fun _ h => h
  have hbA : ¬ (fun q : Nat => s.heap.size ≤ q) b := Nat.not_le.mpr hbl
  refine lv_aload_n hx hb dL_law_656 rfl (lv_at hl 1 rfl) ?_
  refine lv_aload_n hx hb dL_law_657 rfl (lv_at hl 0 rfl) ?_
  refine lv_iload_n hx hb dL_law_658 rfl (lv_at hl 3 rfl) ?_
  refine lv_iconst (v := (1 : Int32)) hx hb dL_law_659 (by decide) ?_
  refine lv_iadd hx hb dL_law_660 ?_
  refine va_sld hx hb hX hbl hbA hS (ixk i 1 (by omega) hN) dL_law_661 ?_
  obtain ⟨r, U1, M1, q1, q2, hR1⟩   := E_m hc hR (xs (Int32.toNatClampNeg (nI i + (1 : Int32))))
  refine go_i (run_V (b := (a 26)) (As := [.int (xs (Int32.toNatClampNeg (nI i + (1 : Int32))))]) (rest := []) ⟨hx, hb, hml, hown, hts⟩ hnw hK hP hD (fr_L_X a a2 k k2 B L R T U V M Lm B L R T U1 V) (ks_L_X k k2) (c_X4_level l D a k H.size B L R T U V (xs (Int32.toNatClampNeg (nI i + (1 : Int32)))) r U1 q1) (cwV 1 hts (gl_in gL_law_X4_level) rfl rfl rfl (by decide +kernel) ⟨Nat.le_of_ble_eq_true rfl, Nat.le_of_ble_eq_true rfl⟩) (rcv_X a k B L R T U V) rfl hl.1 rfl (Nat.le_of_ble_eq_true rfl) dL_law_662 hf) hP hD hS hA (fr_L_X a a2 k k2 B L R T U V M Lm B L R T U1 V) (fun H locs hP hD hS => ?_)
  refine lv_aload_n hx hb dL_law_665 rfl (lv_at hl 2 rfl) ?_
  refine lv_aload_n hx hb dL_law_666 rfl (lv_at hl 0 rfl) ?_
  refine lv_iload_n hx hb dL_law_667 rfl (lv_at hl 3 rfl) ?_
  refine lv_iconst (v := (1 : Int32)) hx hb dL_law_668 (by decide) ?_
  refine lv_iadd hx hb dL_law_669 ?_
  refine va_sld hx hb hX hbl hbA hS (ixk i 1 (by omega) hN) dL_law_670 ?_
  refine go_i (run_V (b := (a2 0)) (As := [.int (xs (Int32.toNatClampNeg (nI i + (1 : Int32))))]) (rest := [.int r]) ⟨hx, hb, hml, hown, hts⟩ hnw hK hP hD (fr_L_M a a2 k k2 B L R T U1 V M Lm M1 Lm) (ks_L_M k k2) (c_X5_level l D a2 k2 H.size M Lm (xs (Int32.toNatClampNeg (nI i + (1 : Int32)))) r M1 q2) (cwV 1 hts (gl_in gL_law_X5_level) rfl rfl rfl (by decide +kernel) ⟨Nat.le_of_ble_eq_true rfl, Nat.le_of_ble_eq_true rfl⟩) (rcv_M a2 k2 M Lm) rfl hl.1 rfl (Nat.le_of_ble_eq_true rfl) dL_law_671 hf) hP hD hS hA (fr_L_M a a2 k k2 B L R T U1 V M Lm M1 Lm) (fun H locs hP hD hS => ?_)
  refine lv_icmp_eq (tgt := 1238) hx hb dL_law_674 (by decide) (fun _ => ?_) (fun c9 => absurd rfl c9)
  exact KK B L R T U1 V M1 Lm hR1 H locs hP hD hS ls hl
set_option maxHeartbeats 4000000 in
set_option maxRecDepth 100000 in
theorem law_lay (E_m : EQ_lay) {p : Program} {l : Launch} {e : Env} {s : State} {m : MethodId} {below : List Frame} {meth : Method} {c : Code} {D : va_G} {b N cells slots : Nat} {xs : Nat → Int32} {a a2 : Nat → Nat} {k k2 : Nat → ClassId} {Q : State → Prop} (C0 : lw_At p s m meth c b N xs) (hnw : nw s) (hK : va_K D vwCl (tL k k2) s) (hf : cells ≤ room_1.cells ∧ slots ≤ room_1.slots) {cn : Nat} {B : RG} {L : Int64} {R T U V M : RG} {Lm : Int64} (hc : cn < 512) (hR : Rel cn B L R T U V M Lm) (i : Nat) (hi : i + 6 ≤ N) (hN : N ≤ 3072)
    (KK : ∀ (B : RG) (L : Int64) (R T U V M : RG) (Lm : Int64), Rel (cn + 1) B L R T U V M Lm → ∀ (H : Heap) (locs : List Loc), va_P D vwCl (xL a a2 k k2 B L R T U V M Lm) H → va_D (fun q : Nat => s.heap.size ≤ q) (xL a a2 k k2 B L R T U V M Lm) → va_S (fun q : Nat => s.heap.size ≤ q) s.heap H locs → ∀ ls : Array Slot, lv_has ls 4 [(0, .ref b), (1, .ref (a 26)), (2, .ref (a2 0)), (3, .int (nI i))] → W p l e room_1 s m #[Value.ref b] below meth c H locs cells slots Q (F0 m 1238 ls []))
    (H : Heap) (locs : List Loc) (hP : va_P D vwCl (xL a a2 k k2 B L R T U V M Lm) H) (hD : va_D (fun q : Nat => s.heap.size ≤ q) (xL a a2 k k2 B L R T U V M Lm)) (hS : va_S (fun q : Nat => s.heap.size ≤ q) s.heap H locs) (ls : Array Slot) (hl : lv_has ls 4 [(0, .ref b), (1, .ref (a 26)), (2, .ref (a2 0)), (3, .int (nI i))]) : W p l e room_1 s m #[Value.ref b] below meth c H locs cells slots Q (F0 m 679 ls []) := by
  obtain ⟨hx, hb, hr, hml, hown, hts, hX, hbl, hlocks, hgv⟩ := C0
  have hA : ∀ q : Nat, s.heap.size ≤ q → (fun q : Nat => s.heap.size ≤ q) q := fun _ h => h
  have hbA : ¬ (fun q : Nat => s.heap.size ≤ q) b := Nat.not_le.mpr hbl
  refine lv_aload_n hx hb dL_law_679 rfl (lv_at hl 1 rfl) ?_
  refine lv_aload_n hx hb dL_law_680 rfl (lv_at hl 0 rfl) ?_
  refine lv_iload_n hx hb dL_law_681 rfl (lv_at hl 3 rfl) ?_
  refine lv_iconst (v := (1 : Int32)) hx hb dL_law_682 (by decide) ?_
  refine lv_iadd hx hb dL_law_683 ?_
  refine va_sld hx hb hX hbl hbA hS (ixk i 1 (by omega) hN) dL_law_684 ?_
  refine lv_aload_n hx hb dL_law_685 rfl (lv_at hl 0 rfl) ?_
  refine lv_iload_n hx hb dL_law_686 rfl (lv_at hl 3 rfl) ?_
  refine lv_iconst (v := (2 : Int32)) hx hb dL_law_687 (by decide) ?_
  refine lv_iadd hx hb dL_law_688 ?_
  refine va_sld hx hb hX hbl hbA hS (ixk i 2 (by omega) hN) dL_law_689 ?_
  refine lv_aload_n hx hb dL_law_690 rfl (lv_at hl 0 rfl) ?_
  refine lv_iload_n hx hb dL_law_691 rfl (lv_at hl 3 rfl) ?_
  refine lv_iconst (v := (3 : Int32)) hx hb dL_law_692 (by decide) ?_
  refine lv_iadd hx hb dL_law_693 ?_
  refine va_sld hx hb hX hbl hbA hS (ixk i 3 (by omega) hN) dL_law_694 ?_
  obtain ⟨r, B1, L1, U1, M1, Lm1, q1, q2, hR1⟩   := E_m hc hR (xs (Int32.toNatClampNeg (nI i + (1 : Int32)))) (xs (Int32.toNatClampNeg (nI i + (2 : Int32)))) (xs (Int32.toNatClampNeg (nI i + (3 : Int32))))
  refine go_i (run_V (b := (a 26)) (As := [.int (xs (Int32.toNatClampNeg (nI i + (1 : Int32)))), .int (xs (Int32.toNatClampNeg (nI i + (2 : Int32)))), .int (xs (Int32.toNatClampNeg (nI i + (3 : Int32))))]) (rest := []) ⟨hx, hb, hml, hown, hts⟩ hnw hK hP hD (fr_L_X a a2 k k2 B L R T U V M Lm B1 L1 R T U1 V) (ks_L_X k k2) (c_X4_lay l D a k H.size B L R T U V (xs (Int32.toNatClampNeg (nI i + (1 : Int32)))) (xs (Int32.toNatClampNeg (nI i + (2 : Int32)))) (xs (Int32.toNatClampNeg (nI i + (3 : Int32)))) r B1 L1 U1 q1) (cwV 3 hts (gl_in gL_law_X4_lay) rfl rfl rfl (by decide +kernel) ⟨Nat.le_of_ble_eq_true rfl, Nat.le_of_ble_eq_true rfl⟩) (rcv_X a k B L R T U V) rfl hl.1 rfl (Nat.le_of_ble_eq_true rfl) dL_law_695 hf) hP hD hS hA (fr_L_X a a2 k k2 B L R T U V M Lm B1 L1 R T U1 V) (fun H locs hP hD hS => ?_)
  refine lv_aload_n hx hb dL_law_698 rfl (lv_at hl 2 rfl) ?_
  refine lv_aload_n hx hb dL_law_699 rfl (lv_at hl 0 rfl) ?_
  refine lv_iload_n hx hb dL_law_700 rfl (lv_at hl 3 rfl) ?_
  refine lv_iconst (v := (1 : Int32)) hx hb dL_law_701 (by decide) ?_
  refine lv_iadd hx hb dL_law_702 ?_
  refine va_sld hx hb hX hbl hbA hS (ixk i 1 (by omega) hN) dL_law_703 ?_
  refine lv_aload_n hx hb dL_law_704 rfl (lv_at hl 0 rfl) ?_
  refine lv_iload_n hx hb dL_law_705 rfl (lv_at hl 3 rfl) ?_
  refine lv_iconst (v := (2 : Int32)) hx hb dL_law_706 (by decide) ?_
  refine lv_iadd hx hb dL_law_707 ?_
  refine va_sld hx hb hX hbl hbA hS (ixk i 2 (by omega) hN) dL_law_708 ?_
  refine lv_aload_n hx hb dL_law_709 rfl (lv_at hl 0 rfl) ?_
  refine lv_iload_n hx hb dL_law_710 rfl (lv_at hl 3 rfl) ?_
  refine lv_iconst (v := (3 : Int32)) hx hb dL_law_711 (by decide) ?_
  refine lv_iadd hx hb dL_law_712 ?_
  refine va_sld hx hb hX hbl hbA hS (ixk i 3 (by omega) hN) dL_law_713 ?_
  refine go_i (run_V (b := (a2 0)) (As := [.int (xs (Int32.toNatClampNeg (nI i + (1 : Int32)))), .int (xs (Int32.toNatClampNeg (nI i + (2 : Int32)))), .int (xs (Int32.toNatClampNeg (nI i + (3 : Int32))))]) (rest := [.int r]) ⟨hx, hb, hml, hown, hts⟩ hnw hK hP hD (fr_L_M a a2 k k2 B1 L1 R T U1 V M Lm M1 Lm1) (ks_L_M k k2) (c_X5_lay l D a2 k2 H.size M Lm (xs (Int32.toNatClampNeg (nI i + (1 : Int32)))) (xs (Int32.toNatClampNeg (nI i + (2 : Int32)))) (xs (Int32.toNatClampNeg (nI i + (3 : Int32)))) r M1 Lm1 q2) (cwV 3 hts (gl_in gL_law_X5_lay) rfl rfl rfl (by decide +kernel) ⟨Nat.le_of_ble_eq_true rfl, Nat.le_of_ble_eq_true rfl⟩) (rcv_M a2 k2 M Lm) rfl hl.1 rfl (Nat.le_of_ble_eq_true rfl) dL_law_714 hf) hP hD hS hA (fr_L_M a a2 k k2 B1 L1 R T U1 V M Lm M1 Lm1) (fun H locs hP hD hS => ?_)
  refine lv_icmp_eq (tgt := 1238) hx hb dL_law_717 (by decide) (fun _ => ?_) (fun c9 => absurd rfl c9)
  exact KK B1 L1 R T U1 V M1 Lm1 hR1 H locs hP hD hS ls hl
