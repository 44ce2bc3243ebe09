set_option maxHeartbeats 4000000 in
set_option maxRecDepth 100000 in
theorem law_at (E_m : EQ_at) {p : Program} {l : Launch} {e : Env} {s : State} {m : MethodId} {below : List Frame} {meth : Method} {c : Code} {D : va_G} {b N cells slots : Nat} {xs : Nat → Int32} {a a2 : Nat → Nat} {k k2 : Nat → ClassId} {Q : State → Prop} (C0 : lw_At p s m meth c b N xs) (hnw : nw s) (hK : va_K D vwCl (tL k k2) s) (hf : cells ≤ room_1.cells ∧ slots ≤ room_1.slots) {cn : Nat} {B : RG} {L : Int64} {R T U V M : RG} {Lm : Int64} (hc : cn < 512) (hR : Rel cn B L R T U V M Lm) (i : Nat) (hi : i + 6 ≤ N) (hN : N ≤ 3072)
    (KK : ∀ (B : RG) (L : Int64) (R T U V M : RG) (Lm : Int64), Rel (cn + 1) B L R T U V M Lm → ∀ (H : Heap) (locs : List Loc), va_P D vwCl (xL a a2 k k2 B L R T U V M Lm) H → va_D (fun q : Nat => s.heap.size ≤ q) (xL a a2 k k2 B L R T U V M Lm) → va_S (fun q : Nat => s.heap.size ≤ q) s.heap H locs → ∀ ls : Array Slot, lv_has ls 4 [(0, .ref b), (1, .ref (a 26)), (2, .ref (a2 0)), (3, .int (nI i))] → W p l e room_1 s m #[Value.ref b] below meth c H locs cells slots Q (F0 m 1238 ls []))
    (H : Heap) (locs : List Loc) (hP : va_P D vwCl (xL a a2 k k2 B L R T U V M Lm) H) (hD : va_D (fun q : Nat => s.heap.size ≤ q) (xL a a2 k k2 B L R T U V M Lm)) (hS : va_S (fun q : Nat => s.heap.size ≤ q) s.heap H locs) (ls : Array Slot) (hl : lv_has ls 4 [(0, .ref b), (1, .ref (a 26)), (2, .ref (a2 0)), (3, .int (nI i))]) : W p l e room_1 s m #[Value.ref b] below meth c H locs cells slots Q (F0 m 722 ls []) := by
  obtain ⟨hx, hb, hr, hml, hown, hts, hX, hbl, hlocks, hgv⟩ := C0
  have hA : ∀ q : Nat, s.heap.size ≤ q → (fun q : Nat => s.heap.size ≤ q) q := fun _ h => h
  have hbA : ¬ (fun q : Nat => s.heap.size ≤ q) b := Nat.not_le.mpr hbl
  refine lv_aload_n hx hb dL_law_722 rfl (lv_at hl 1 rfl) ?_
  refine lv_aload_n hx hb dL_law_723 rfl (lv_at hl 0 rfl) ?_
  refine lv_iload_n hx hb dL_law_724 rfl (lv_at hl 3 rfl) ?_
  refine lv_iconst (v := (1 : Int32)) hx hb dL_law_725 (by decide) ?_
  refine lv_iadd hx hb dL_law_726 ?_
  refine va_sld hx hb hX hbl hbA hS (ixk i 1 (by omega) hN) dL_law_727 ?_
  refine lv_aload_n hx hb dL_law_728 rfl (lv_at hl 0 rfl) ?_
  refine lv_iload_n hx hb dL_law_729 rfl (lv_at hl 3 rfl) ?_
  refine lv_iconst (v := (2 : Int32)) hx hb dL_law_730 (by decide) ?_
  refine lv_iadd hx hb dL_law_731 ?_
  refine va_sld hx hb hX hbl hbA hS (ixk i 2 (by omega) hN) dL_law_732 ?_
  obtain ⟨r, B1, L1, M1, Lm1, q1, q2, hR1⟩   := E_m hc hR (xs (Int32.toNatClampNeg (nI i + (1 : Int32)))) (xs (Int32.toNatClampNeg (nI i + (2 : Int32))))
  refine go_i (run_V (b := (a 26)) (As := [.int (xs (Int32.toNatClampNeg (nI i + (1 : Int32)))), .int (xs (Int32.toNatClampNeg (nI i + (2 : Int32))))]) (rest := []) ⟨hx, hb, hml, hown, hts⟩ hnw hK hP hD (fr_L_X a a2 k k2 B L R T U V M Lm B1 L1 R T U V) (ks_L_X k k2) (c_X4_at l D a k H.size B L R T U V (xs (Int32.toNatClampNeg (nI i + (1 : Int32)))) (xs (Int32.toNatClampNeg (nI i + (2 : Int32)))) r B1 L1 q1) (cwV 2 hts (gl_in gL_law_X4_at) rfl rfl rfl (by decide +kernel) ⟨Nat.le_of_ble_eq_true rfl, Nat.le_of_ble_eq_true rfl⟩) (rcv_X a k B L R T U V) rfl hl.1 rfl (Nat.le_of_ble_eq_true rfl) dL_law_733 hf) hP hD hS hA (fr_L_X a a2 k k2 B L R T U V M Lm B1 L1 R T U V) (fun H locs hP hD hS => ?_)
  refine lv_aload_n hx hb dL_law_736 rfl (lv_at hl 2 rfl) ?_
  refine lv_aload_n hx hb dL_law_737 rfl (lv_at hl 0 rfl) ?_
  refine lv_iload_n hx hb dL_law_738 rfl (lv_at hl 3 rfl) ?_
  refine lv_iconst (v := (1 : Int32)) hx hb dL_law_739 (by decide) ?_
  refine lv_iadd hx hb dL_law_740 ?_
  refine va_sld hx hb hX hbl hbA hS (ixk i 1 (by omega) hN) dL_law_741 ?_
  refine lv_aload_n hx hb dL_law_742 rfl (lv_at hl 0 rfl) ?_
  refine lv_iload_n hx hb dL_law_743 rfl (lv_at hl 3 rfl) ?_
  refine lv_iconst (v := (2 : Int32)) hx hb dL_law_744 (by decide) ?_
  refine lv_iadd hx hb dL_law_745 ?_
  refine va_sld hx hb hX hbl hbA hS (ixk i 2 (by omega) hN) dL_law_746 ?_
  refine go_i (run_V (b := (a2 0)) (As := [.int (xs (Int32.toNatClampNeg (nI i + (1 : Int32)))), .int (xs (Int32.toNatClampNeg (nI i + (2 : Int32))))]) (rest := [.int r]) ⟨hx, hb, hml, hown, hts⟩ hnw hK hP hD (fr_L_M a a2 k k2 B1 L1 R T U V M Lm M1 Lm1) (ks_L_M k k2) (c_X5_at l D a2 k2 H.size M Lm (xs (Int32.toNatClampNeg (nI i + (1 : Int32)))) (xs (Int32.toNatClampNeg (nI i + (2 : Int32)))) r M1 Lm1 q2) (cwV 2 hts (gl_in gL_law_X5_at) rfl rfl rfl (by decide +kernel) ⟨Nat.le_of_ble_eq_true rfl, Nat.le_of_ble_eq_true rfl⟩) (rcv_M a2 k2 M Lm) rfl hl.1 rfl (Nat.le_of_ble_eq_true rfl) dL_law_747 hf) hP hD hS hA (fr_L_M a a2 k k2 B1 L1 R T U V M Lm M1 Lm1) (fun H locs hP hD hS => ?_)
  refine lv_icmp_eq (tgt := 1238) hx hb dL_law_750 (by decide) (fun _ => ?_) (fun c9 => absurd rfl c9)
  exact KK B1 L1 R T U V M1 Lm1 hR1 H locs hP hD hS ls hl
set_option maxHeartbeats 4000000 in
set_option maxRecDepth 100000 in
theorem law_shape (E_m : EQ_shape) {p : Program} {l : Launch} {e : Env} {s : State} {m : MethodId} {below : List Frame} {meth : Method} {c : Code} {D : va_G} {b N cells slots : Nat} {xs : Nat → Int32} {a a2 : Nat → Nat} {k k2 : Nat → ClassId} {Q : State → Prop} (C0 : lw_At p s m meth c b N xs) (hnw : nw s) (hK : va_K D vwCl (tL k k2) s) (hf : cells ≤ room_1.cells ∧ slots ≤ room_1.slots) {cn : Nat} {B : RG} {L : Int64} {R T U V M : RG} {Lm : Int64} (hc : cn < 512) (hR : Rel cn B L R T U V M Lm) (i : Nat) (hi : i + 6 ≤ N) (hN : N ≤ 3072)
    (KK : ∀ (B : RG) (L : Int64) (R T U V M : RG) (Lm : Int64), Rel (cn + 1) B L R T U V M Lm → ∀ (H : Heap) (locs : List Loc), va_P D vwCl (xL a a2 k k2 B L R T U V M Lm) H → va_D (fun q : Nat => s.heap.size ≤ q) (xL a a2 k k2 B L R T U V M Lm) → va_S (fun q : Nat => s.heap.size ≤ q) s.heap H locs → ∀ ls : Array Slot, lv_has ls 4 [(0, .ref b), (1, .ref (a 26)), (2, .ref (a2 0)), (3, .int (nI i))] → W p l e room_1 s m #[Value.ref b] below meth c H locs cells slots Q (F0 m 1238 ls []))
    (H : Heap) (locs : List Loc) (hP : va_P D vwCl (xL a a2 k k2 B L R T U V M Lm) H) (hD : va_D (fun q : Nat => s.heap.size ≤ q) (xL a a2 k k2 B L R T U V M Lm)) (hS : va_S (fun q : Nat => s.heap.size ≤ q) s.heap H locs) (ls : Array Slot) (hl : lv_has ls 4 [(0, .ref b), (1, .ref (a 26)), (2, .ref (a2 0)), (3, .int (nI i))]) : W p l e room_1 s m #[Value.ref b] below meth c H locs cells slots Q (F0 m 755 ls []) := by
  obtain ⟨hx, hb, hr, hml, hown, hts, hX, hbl, hlocks, hgv⟩ := C0
  have hA : ∀ q : Nat, s.heap.size ≤ q → (fun q : Nat => s.heap.size ≤ q) q := fun _ h => h
  have hbA : ¬ (fun q : Nat => s.heap.size ≤ q) b := Nat.not_le.mpr hbl
  refine lv_aload_n hx hb dL_law_755 rfl (lv_at hl 1 rfl) ?_
  refine lv_aload_n hx hb dL_law_756 rfl (lv_at hl 0 rfl) ?_
  refine lv_iload_n hx hb dL_law_757 rfl (lv_at hl 3 rfl) ?_
  refine lv_iconst (v := (1 : Int32)) hx hb dL_law_758 (by decide) ?_
  refine lv_iadd hx hb dL_law_759 ?_
  refine va_sld hx hb hX hbl hbA hS (ixk i 1 (by omega) hN) dL_law_760 ?_
  refine lv_aload_n hx hb dL_law_761 rfl (lv_at hl 0 rfl) ?_
  refine lv_iload_n hx hb dL_law_762 rfl (lv_at hl 3 rfl) ?_
  refine lv_iconst (v := (2 : Int32)) hx hb dL_law_763 (by decide) ?_
  refine lv_iadd hx hb dL_law_764 ?_
  refine va_sld hx hb hX hbl hbA hS (ixk i 2 (by omega) hN) dL_law_765 ?_
  refine lv_aload_n hx hb dL_law_766 rfl (lv_at hl 0 rfl) ?_
  refine lv_iload_n hx hb dL_law_767 rfl (lv_at hl 3 rfl) ?_
  refine lv_iconst (v := (3 : Int32)) hx hb dL_law_768 (by decide) ?_
  refine lv_iadd hx hb dL_law_769 ?_
  refine va_sld hx hb hX hbl hbA hS (ixk i 3 (by omega) hN) dL_law_770 ?_
  obtain ⟨r, B1, U1, M1, q1, q2, hR1⟩   := E_m hc hR (xs (Int32.toNatClampNeg (nI i + (1 : Int32)))) (xs (Int32.toNatClampNeg (nI i + (2 : Int32)))) (xs (Int32.toNatClampNeg (nI i + (3 : Int32))))
  refine go_i (run_V (b := (a 26)) (As := [.int (xs (Int32.toNatClampNeg (nI i + (1 : Int32)))), .int (xs (Int32.toNatClampNeg (nI i + (2 : Int32)))), .int (xs (Int32.toNatClampNeg (nI i + (3 : Int32))))]) (rest := []) ⟨hx, hb, hml, hown, hts⟩ hnw hK hP hD (fr_L_X a a2 k k2 B L R T U V M Lm B1 L R T U1 V) (ks_L_X k k2) (c_X4_shape l D a k H.size B L R T U V (xs (Int32.toNatClampNeg (nI i + (1 : Int32)))) (xs (Int32.toNatClampNeg (nI i + (2 : Int32)))) (xs (Int32.toNatClampNeg (nI i + (3 : Int32)))) r B1 U1 q1) (cwV 3 hts (gl_in gL_law_X4_shape) rfl rfl rfl (by decide +kernel) ⟨Nat.le_of_ble_eq_true rfl, Nat.le_of_ble_eq_true rfl⟩) (rcv_X a k B L R T U V) rfl hl.1 rfl (Nat.le_of_ble_eq_true rfl) dL_law_771 hf) hP hD hS hA (fr_L_X a a2 k k2 B L R T U V M Lm B1 L R T U1 V) (fun H locs hP hD hS => ?_)
  refine lv_aload_n hx hb dL_law_774 rfl (lv_at hl 2 rfl) ?_
  refine lv_aload_n hx hb dL_law_775 rfl (lv_at hl 0 rfl) ?_
  refine lv_iload_n hx hb dL_law_776 rfl (lv_at hl 3 rfl) ?_
  refine lv_iconst (v := (1 : Int32)) hx hb dL_law_777 (by decide) ?_
  refine lv_iadd hx hb dL_law_778 ?_
  refine va_sld hx hb hX hbl hbA hS (ixk i 1 (by omega) hN) dL_law_779 ?_
  refine lv_aload_n hx hb dL_law_780 rfl (lv_at hl 0 rfl) ?_
  refine lv_iload_n hx hb dL_law_781 rfl (lv_at hl 3 rfl) ?_
  refine lv_iconst (v := (2 : Int32)) hx hb dL_law_782 (by decide) ?_
  refine lv_iadd hx hb dL_law_783 ?_
  refine va_sld hx hb hX hbl hbA hS (ixk i 2 (by omega) hN) dL_law_784 ?_
  refine lv_aload_n hx hb dL_law_785 rfl (lv_at hl 0 rfl) ?_
  refine lv_iload_n hx hb dL_law_786 rfl (lv_at hl 3 rfl) ?_
  refine lv_iconst (v := (3 : Int32)) hx hb dL_law_787 (by decide) ?_
  refine lv_iadd hx hb dL_law_788 ?_
  refine va_sld hx hb hX hbl hbA hS (ixk i 3 (by omega) hN) dL_law_789 ?_
  refine go_i (run_V (b := (a2 0)) (As := [.int (xs (Int32.toNatClampNeg (nI i + (1 : Int32)))), .int (xs (Int32.toNatClampNeg (nI i + (2 : Int32)))), .int (xs (Int32.toNatClampNeg (nI i + (3 : Int32))))]) (rest := [.int r]) ⟨hx, hb, hml, hown, hts⟩ hnw hK hP hD (fr_L_M a a2 k k2 B1 L R T U1 V M Lm M1 Lm) (ks_L_M k k2) (c_X5_shape l D a2 k2 H.size M Lm (xs (Int32.toNatClampNeg (nI i + (1 : Int32)))) (xs (Int32.toNatClampNeg (nI i + (2 : Int32)))) (xs (Int32.toNatClampNeg (nI i + (3 : Int32)))) r M1 q2) (cwV 3 hts (gl_in gL_law_X5_shape) rfl rfl rfl (by decide +kernel) ⟨Nat.le_of_ble_eq_true rfl, Nat.le_of_ble_eq_true rfl⟩) (rcv_M a2 k2 M Lm) rfl hl.1 rfl (Nat.le_of_ble_eq_true rfl) dL_law_790 hf) hP hD hS hA (fr_L_M a a2 k k2 B1 L R T U1 V M Lm M1 Lm) (fun H locs hP hD hS => ?_)
  refine lv_icmp_eq (tgt := 1238) hx hb dL_law_793 (by decide) (fun _ => ?_) (fun c9 => absurd rfl c9)
  exact KK B1 L R T U1 V M1 Lm hR1 H locs hP hD hS ls hl
set_option maxHeartbeats 4000000 in
set_option maxRecDepth 100000 in
theorem law_tear (E_m : EQ_tear) {p : Program} {l : Launch} {e : Env} {s : State} {m : MethodId} {below : List Frame} {meth : Method} {c : Code} {D : va_G} {b N cells slots : Nat} {xs : Nat → Int32} {a a2 : Nat → Nat} {k k2 : Nat → ClassId} {Q : State → Prop} (C0 : lw_At p s m meth c b N xs) (hnw : nw s) (hK : va_K D vwCl (tL k k2) s) (hf : cells ≤ room_1.cells ∧ slots ≤ room_1.slots) {cn : Nat} {B : RG} {L : Int64} {R T U V M : RG} {Lm : Int64} (hc : cn < 512) (hR : Rel cn B L R T U V M Lm) (i : Nat) (hi : i + 6 ≤ N) (hN : N ≤ 3072)
    (KK : ∀ (B : RG) (L : Int64) (R T U V M : RG) (Lm : Int64), Rel (cn + 1) B L R T U V M Lm → ∀ (H : Heap) (locs : List Loc), va_P D vwCl (xL a a2 k k2 B L R T U V M Lm) H → va_D (fun q : Nat => s.heap.size ≤ q) (xL a a2 k k2 B L R T U V M Lm) → va_S (fun q : Nat => s.heap.size ≤ q) s.heap H locs → ∀ ls : Array Slot, lv_has ls 4 [(0, .ref b), (1, .ref (a 26)), (2, .ref (a2 0)), (3, .int (nI i))] → W p l e room_1 s m #[Value.ref b] below meth c H locs cells slots Q (F0 m 1238 ls []))
    (H : Heap) (locs : List Loc) (hP : va_P D vwCl (xL a a2 k k2 B L R T U V M Lm) H) (hD : va_D (fun q : Nat => s.heap.size ≤ q) (xL a a2 k k2 B L R T U V M Lm)) (hS : va_S (fun q : Nat => s.heap.size ≤ q) s.heap H locs) (ls : Array Slot) (hl : lv_has ls 4 [(0, .ref b), (1, .ref (a 26)), (2, .ref (a2 0)), (3, .int (nI i))]) : W p l e room_1 s m #[Value.ref b] below meth c H locs cells slots Q (F0 m 798 ls []) := by
  obtain ⟨hx, hb, hr, hml, hown, hts, hX, hbl, hlocks, hgv⟩ := C0
  have hA : ∀ q : Nat, s.heap.size ≤ q → (fun q : Nat => s.heap.size ≤ q) q := fun _ h => h
  have hbA : ¬ (fun q : Nat => s.heap.size ≤ q) b := Nat.not_le.mpr hbl
  refine lv_aload_n hx hb dL_law_798 rfl (lv_at hl 1 rfl) ?_
  refine lv_aload_n hx hb dL_law_799 rfl (lv_at hl 0 rfl) ?_
  refine lv_iload_n hx hb dL_law_800 rfl (lv_at hl 3 rfl) ?_
  refine lv_iconst (v := (1 : Int32)) hx hb dL_law_801 (by decide) ?_
  refine lv_iadd hx hb dL_law_802 ?_
  refine va_sld hx hb hX hbl hbA hS (ixk i 1 (by omega) hN) dL_law_803 ?_
  obtain ⟨r, B1, U1, M1, q1, q2, hR1⟩   := E_m hc hR (xs (Int32.toNatClampNeg (nI i + (1 : Int32))))
  refine go_i (run_V (b := (a 26)) (As := [.int (xs (Int32.toNatClampNeg (nI i + (1 : Int32))))]) (rest := []) ⟨hx, hb, hml, hown, hts⟩ hnw hK hP hD (fr_L_X a a2 k k2 B L R T U V M Lm B1 L R T U1 V) (ks_L_X k k2) (c_X4_tear l D a k H.size B L R T U V (xs (Int32.toNatClampNeg (nI i + (1 : Int32)))) r B1 U1 q1) (cwV 1 hts (gl_in gL_law_X4_tear) rfl rfl rfl (by decide +kernel) ⟨Nat.le_of_ble_eq_true rfl, Nat.le_of_ble_eq_true rfl⟩) (rcv_X a k B L R T U V) rfl hl.1 rfl (Nat.le_of_ble_eq_true rfl) dL_law_804 hf) hP hD hS hA (fr_L_X a a2 k k2 B L R T U V M Lm B1 L R T U1 V) (fun H locs hP hD hS => ?_)
  refine lv_aload_n hx hb dL_law_807 rfl (lv_at hl 2 rfl) ?_
  refine lv_aload_n hx hb dL_law_808 rfl (lv_at hl 0 rfl) ?_
  refine lv_iload_n hx hb dL_law_809 rfl (lv_at hl 3 rfl) ?_
  refine lv_iconst (v := (1 : Int32)) hx hb dL_law_810 (by decide) ?_
  refine lv_iadd hx hb dL_law_811 ?_
  refine va_sld hx hb hX hbl hbA hS (ixk i 1 (by omega) hN) dL_law_812 ?_
  refine go_i (run_V (b := (a2 0)) (As := [.int (xs (Int32.toNatClampNeg (nI i + (1 : Int32))))]) (rest := [.int r]) ⟨hx, hb, hml, hown, hts⟩ hnw hK hP hD (fr_L_M a a2 k k2 B1 L R T U1 V M Lm M1 Lm) (ks_L_M k k2) (c_X5_tear l D a2 k2 H.size M Lm (xs (Int32.toNatClampNeg (nI i + (1 : Int32)))) r M1 q2) (cwV 1 hts (gl_in gL_law_X5_tear) rfl rfl rfl (by decide +kernel) ⟨Nat.le_of_ble_eq_true rfl, Nat.le_of_ble_eq_true rfl⟩) (rcv_M a2 k2 M Lm) rfl hl.1 rfl (Nat.le_of_ble_eq_true rfl) dL_law_813 hf) hP hD hS hA (fr_L_M a a2 k k2 B1 L R T U1 V M Lm M1 Lm) (fun H locs hP hD hS => ?_)
  refine lv_icmp_eq (tgt := 1238) hx hb dL_law_816 (by decide) (fun _ => ?_) (fun c9 => absurd rfl c9)
  exact KK B1 L R T U1 V M1 Lm hR1 H locs hP hD hS ls hl
set_option maxHeartbeats 4000000 in
set_option maxRecDepth 100000 in
theorem law_copy (E_m : EQ_copy) {p : Program} {l : Launch} {e : Env} {s : State} {m : MethodId} {below : List Frame} {meth : Method} {c : Code} {D : va_G} {b N cells slots : Nat} {xs : Nat → Int32} {a a2 : Nat → Nat} {k k2 : Nat → ClassId} {Q : State → Prop} (C0 : lw_At p s m meth c b N xs) (hnw : nw s) (hK : va_K D vwCl (tL k k2) s) (hf : cells ≤ room_1.cells ∧ slots ≤ room_1.slots) {cn : Nat} {B : RG} {L : Int64} {R T U V M : RG} {Lm : Int64} (hc : cn < 512) (hR : Rel cn B L R T U V M Lm) (i : Nat) (hi : i + 6 ≤ N) (hN : N ≤ 3072)
    (KK : ∀ (B : RG) (L : Int64) (R T U V M : RG) (Lm : Int64), Rel (cn + 1) B L R T U V M Lm → ∀ (H : Heap) (locs : List Loc), va_P D vwCl (xL a a2 k k2 B L R T U V M Lm) H → va_D (fun q : Nat => s.heap.size ≤ q) (xL a a2 k k2 B L R T U V M Lm) → va_S (fun q : Nat => s.heap.size ≤ q) s.heap H locs → ∀ ls : Array Slot, lv_has ls 4 [(0, .ref b), (1, .ref (a 26)), (2, .ref (a2 0)), (3, .int (nI i))] → W p l e room_1 s m #[Value.ref b] below meth c H locs cells slots Q (F0 m 1238 ls []))
    (H : Heap) (locs : List Loc) (hP : va_P D vwCl (xL a a2 k k2 B L R T U V M Lm) H) (hD : va_D (fun q : Nat => s.heap.size ≤ q) (xL a a2 k k2 B L R T U V M Lm)) (hS : va_S (fun q : Nat => s.heap.size ≤ q) s.heap H locs) (ls : Array Slot) (hl : lv_has ls 4 [(0, .ref b), (1, .ref (a 26)), (2, .ref (a2 0)), (3, .int (nI i))]) : W p l e room_1 s m #[Value.ref b] below meth c H locs cells slots Q (F0 m 821 ls []) := by
  obtain ⟨hx, hb, hr, hml, hown, hts, hX, hbl, hlocks, hgv⟩ := C0
  have hA : ∀ q : Nat, s.heap.size ≤ q → (fun q : Nat => s.heap.size ≤ q) q := fun _ h => h
  have hbA : ¬ (fun q : Nat => s.heap.size ≤ q) b := Nat.not_le.mpr hbl
  refine lv_aload_n hx hb dL_law_821 rfl (lv_at hl 1 rfl) ?_
  refine lv_aload_n hx hb dL_law_822 rfl (lv_at hl 0 rfl) ?_
  refine lv_iload_n hx hb dL_law_823 rfl (lv_at hl 3 rfl) ?_
  refine lv_iconst (v := (1 : Int32)) hx hb dL_law_824 (by decide) ?_
  refine lv_iadd hx hb dL_law_825 ?_
  refine va_sld hx hb hX hbl hbA hS (ixk i 1 (by omega) hN) dL_law_826 ?_
  refine lv_aload_n hx hb dL_law_827 rfl (lv_at hl 0 rfl) ?_
  refine lv_iload_n hx hb dL_law_828 rfl (lv_at hl 3 rfl) ?_
  refine lv_iconst (v := (2 : Int32)) hx hb dL_law_829 (by decide) ?_
  refine lv_iadd hx hb dL_law_830 ?_
  refine va_sld hx hb hX hbl hbA hS (ixk i 2 (by omega) hN) dL_law_831 ?_
  refine lv_aload_n hx hb dL_law_832 rfl (lv_at hl 0 rfl) ?_
  refine lv_iload_n hx hb dL_law_833 rfl (lv_at hl 3 rfl) ?_
  refine lv_iconst (v := (3 : Int32)) hx hb dL_law_834 (by decide) ?_
  refine lv_iadd hx hb dL_law_835 ?_
  refine va_sld hx hb hX hbl hbA hS (ixk i 3 (by omega) hN) dL_law_836 ?_
  refine lv_aload_n hx hb dL_law_837 rfl (lv_at hl 0 rfl) ?_
  refine lv_iload_n hx hb dL_law_838 rfl (lv_at hl 3 rfl) ?_
  refine lv_iconst (v := (4 : Int32)) hx hb dL_law_839 (by decide) ?_
  refine lv_iadd hx hb dL_law_840 ?_
  refine va_sld hx hb hX hbl hbA hS (ixk i 4 (by omega) hN) dL_law_841 ?_
  refine lv_aload_n hx hb dL_law_842 rfl (lv_at hl 0 rfl) ?_
  refine lv_iload_n hx hb dL_law_843 rfl (lv_at hl 3 rfl) ?_
  refine lv_iconst (v := (5 : Int32)) hx hb dL_law_844 (by decide) ?_
  refine lv_iadd hx hb dL_law_845 ?_
  refine va_sld hx hb hX hbl hbA hS (ixk i 5 (by omega) hN) dL_law_846 ?_
  obtain ⟨r, B1, U1, M1, q1, q2, hR1⟩   := E_m hc hR (xs (Int32.toNatClampNeg (nI i + (1 : Int32)))) (xs (Int32.toNatClampNeg (nI i + (2 : Int32)))) (xs (Int32.toNatClampNeg (nI i + (3 : Int32)))) (xs (Int32.toNatClampNeg (nI i + (4 : Int32)))) (xs (Int32.toNatClampNeg (nI i + (5 : Int32))))
  refine go_i (run_V (b := (a 26)) (As := [.int (xs (Int32.toNatClampNeg (nI i + (1 : Int32)))), .int (xs (Int32.toNatClampNeg (nI i + (2 : Int32)))), .int (xs (Int32.toNatClampNeg (nI i + (3 : Int32)))), .int (xs (Int32.toNatClampNeg (nI i + (4 : Int32)))), .int (xs (Int32.toNatClampNeg (nI i + (5 : Int32))))]) (rest := []) ⟨hx, hb, hml, hown, hts⟩ hnw hK hP hD (fr_L_X a a2 k k2 B L R T U V M Lm B1 L R T U1 V) (ks_L_X k k2) (c_X4_copy l D a k H.size B L R T U V (xs (Int32.toNatClampNeg (nI i + (1 : Int32)))) (xs (Int32.toNatClampNeg (nI i + (2 : Int32)))) (xs (Int32.toNatClampNeg (nI i + (3 : Int32)))) (xs (Int32.toNatClampNeg (nI i + (4 : Int32)))) (xs (Int32.toNatClampNeg (nI i + (5 : Int32)))) r B1 U1 q1) (cwV 5 hts (gl_in gL_law_X4_copy) rfl rfl rfl (by decide +kernel) ⟨Nat.le_of_ble_eq_true rfl, Nat.le_of_ble_eq_true rfl⟩) (rcv_X a k B L R T U V) rfl hl.1 rfl (Nat.le_of_ble_eq_true rfl) dL_law_847 hf) hP hD hS hA (fr_L_X a a2 k k2 B L R T U V M Lm B1 L R T U1 V) (fun H locs hP hD hS => ?_)
  refine lv_aload_n hx hb dL_law_850 rfl (lv_at hl 2 rfl) ?_
  refine lv_aload_n hx hb dL_law_851 rfl (lv_at hl 0 rfl) ?_
  refine lv_iload_n hx hb dL_law_852 rfl (lv_at hl 3 rfl) ?_
  refine lv_iconst (v := (1 : Int32)) hx hb dL_law_853 (by decide) ?_
  refine lv_iadd hx hb dL_law_854 ?_
  refine va_sld hx hb hX hbl hbA hS (ixk i 1 (by omega) hN) dL_law_855 ?_
  refine lv_aload_n hx hb dL_law_856 rfl (lv_at hl 0 rfl) ?_
  refine lv_iload_n hx hb dL_law_857 rfl (lv_at hl 3 rfl) ?_
  refine lv_iconst (v := (2 : Int32)) hx hb dL_law_858 (by decide) ?_
  refine lv_iadd hx hb dL_law_859 ?_
  refine va_sld hx hb hX hbl hbA hS (ixk i 2 (by omega) hN) dL_law_860 ?_
  refine lv_aload_n hx hb dL_law_861 rfl (lv_at hl 0 rfl) ?_
  refine lv_iload_n hx hb dL_law_862 rfl (lv_at hl 3 rfl) ?_
  refine lv_iconst (v := (3 : Int32)) hx hb dL_law_863 (by decide) ?_
  refine lv_iadd hx hb dL_law_864 ?_
  refine va_sld hx hb hX hbl hbA hS (ixk i 3 (by omega) hN) dL_law_865 ?_
  refine lv_aload_n hx hb dL_law_866 rfl (lv_at hl 0 rfl) ?_
  refine lv_iload_n hx hb dL_law_867 rfl (lv_at hl 3 rfl) ?_
  refine lv_iconst (v := (4 : Int32)) hx hb dL_law_868 (by decide) ?_
  refine lv_iadd hx hb dL_law_869 ?_
  refine va_sld hx hb hX hbl hbA hS (ixk i 4 (by omega) hN) dL_law_870 ?_
  refine lv_aload_n hx hb dL_law_871 rfl (lv_at hl 0 rfl) ?_
  refine lv_iload_n hx hb dL_law_872 rfl (lv_at hl 3 rfl) ?_
  refine lv_iconst (v := (5 : Int32)) hx hb dL_law_873 (by decide) ?_
  refine lv_iadd hx hb dL_law_874 ?_
  refine va_sld hx hb hX hbl hbA hS (ixk i 5 (by omega) hN) dL_law_875 ?_
  refine go_i (run_V (b := (a2 0)) (As := [.int (xs (Int32.toNatClampNeg (nI i + (1 : Int32)))), .int (xs (Int32.toNatClampNeg (nI i + (2 : Int32)))), .int (xs (Int32.toNatClampNeg (nI i + (3 : Int32)))), .int (xs (Int32.toNatClampNeg (nI i + (4 : Int32)))), .int (xs (Int32.toNatClampNeg (nI i + (5 : Int32))))]) (rest := [.int r]) ⟨hx, hb, hml, hown, hts⟩ hnw hK hP hD (fr_L_M a a2 k k2 B1 L R T U1 V M Lm M1 Lm) (ks_L_M k k2) (c_X5_copy l D a2 k2 H.size M Lm (xs (Int32.toNatClampNeg (nI i + (1 : Int32)))) (xs (Int32.toNatClampNeg (nI i + (2 : Int32)))) (xs (Int32.toNatClampNeg (nI i + (3 : Int32)))) (xs (Int32.toNatClampNeg (nI i + (4 : Int32)))) (xs (Int32.toNatClampNeg (nI i + (5 : Int32)))) r M1 q2) (cwV 5 hts (gl_in gL_law_X5_copy) rfl rfl rfl (by decide +kernel) ⟨Nat.le_of_ble_eq_true rfl, Nat.le_of_ble_eq_true rfl⟩) (rcv_M a2 k2 M Lm) rfl hl.1 rfl (Nat.le_of_ble_eq_true rfl) dL_law_876 hf) hP hD hS hA (fr_L_M a a2 k k2 B1 L R T U1 V M Lm M1 Lm) (fun H locs hP hD hS => ?_)
  refine lv_icmp_eq (tgt := 1238) hx hb dL_law_879 (by decide) (fun _ => ?_) (fun c9 => absurd rfl c9)
  exact KK B1 L R T U1 V M1 Lm hR1 H locs hP hD hS ls hl
set_option maxHeartbeats 4000000 in
set_option maxRecDepth 100000 in
theorem law_fit (E_m : EQ_fit) {p : Program} {l : Launch} {e : Env} {s : State} {m : MethodId} {below : List Frame} {meth : Method} {c : Code} {D : va_G} {b N cells slots : Nat} {xs : Nat → Int32} {a a2 : Nat → Nat} {k k2 : Nat → ClassId} {Q : State → Prop} (C0 : lw_At p s m meth c b N xs) (hnw : nw s) (hK : va_K D vwCl (tL k k2) s) (hf : cells ≤ room_1.cells ∧ slots ≤ room_1.slots) {cn : Nat} {B : RG} {L : Int64} {R T U V M : RG} {Lm : Int64} (hc : cn < 512) (hR : Rel cn B L R T U V M Lm) (i : Nat) (hi : i + 6 ≤ N) (hN : N ≤ 3072)
    (KK : ∀ (B : RG) (L : Int64) (R T U V M : RG) (Lm : Int64), Rel (cn + 1) B L R T U V M Lm → ∀ (H : Heap) (locs : List Loc), va_P D vwCl (xL a a2 k k2 B L R T U V M Lm) H → va_D (fun q : Nat => s.heap.size ≤ q) (xL a a2 k k2 B L R T U V M Lm) → va_S (fun q : Nat => s.heap.size ≤ q) s.heap H locs → ∀ ls : Array Slot, lv_has ls 4 [(0, .ref b), (1, .ref (a 26)), (2, .ref (a2 0)), (3, .int (nI i))] → W p l e room_1 s m #[Value.ref b] below meth c H locs cells slots Q (F0 m 1238 ls []))
    (H : Heap) (locs : List Loc) (hP : va_P D vwCl (xL a a2 k k2 B L R T U V M Lm) H) (hD : va_D (fun q : Nat => s.heap.size ≤ q) (xL a a2 k k2 B L R T U V M Lm)) (hS : va_S (fun q : Nat => s.heap.size ≤ q) s.heap H locs) (ls : Array Slot) (hl : lv_has ls 4 [(0, .ref b), (1, .ref (a 26)), (2, .ref (a2 0)), (3, .int (nI i))]) : W p l e room_1 s m #[Value.ref b] below meth c H locs cells slots Q (F0 m 884 ls []) := by
  obtain ⟨hx, hb, hr, hml, hown, hts, hX, hbl, hlocks, hgv⟩ := C0
  have hA : ∀ q : Nat, s.heap.size ≤ q → (fun q : Nat => s.heap.size ≤ q) q := fun _ h => h
  have hbA : ¬ (fun q : Nat => s.heap.size ≤ q) b := Nat.not_le.mpr hbl
  refine lv_aload_n hx hb dL_law_884 rfl (lv_at hl 1 rfl) ?_
  refine lv_aload_n hx hb dL_law_885 rfl (lv_at hl 0 rfl) ?_
  refine lv_iload_n hx hb dL_law_886 rfl (lv_at hl 3 rfl) ?_
  refine lv_iconst (v := (1 : Int32)) hx hb dL_law_887 (by decide) ?_
  refine lv_iadd hx hb dL_law_888 ?_
  refine va_sld hx hb hX hbl hbA hS (ixk i 1 (by omega) hN) dL_law_889 ?_
  refine lv_aload_n hx hb dL_law_890 rfl (lv_at hl 0 rfl) ?_
  refine lv_iload_n hx hb dL_law_891 rfl (lv_at hl 3 rfl) ?_
  refine lv_iconst (v := (2 : Int32)) hx hb dL_law_892 (by decide) ?_
  refine lv_iadd hx hb dL_law_893 ?_
  refine va_sld hx hb hX hbl hbA hS (ixk i 2 (by omega) hN) dL_law_894 ?_
  obtain ⟨r, B1, L1, M1, Lm1, q1, q2, hR1⟩   := E_m hc hR (xs (Int32.toNatClampNeg (nI i + (1 : Int32)))) (xs (Int32.toNatClampNeg (nI i + (2 : Int32))))
  refine go_i (run_V (b := (a 26)) (As := [.int (xs (Int32.toNatClampNeg (nI i + (1 : Int32)))), .int (xs (Int32.toNatClampNeg (nI i + (2 : Int32))))]) (rest := []) ⟨hx, hb, hml, hown, hts⟩ hnw hK hP hD (fr_L_X a a2 k k2 B L R T U V M Lm B1 L1 R T U V) (ks_L_X k k2) (c_X4_fit l D a k H.size B L R T U V (xs (Int32.toNatClampNeg (nI i + (1 : Int32)))) (xs (Int32.toNatClampNeg (nI i + (2 : Int32)))) r B1 L1 q1) (cwV 2 hts (gl_in gL_law_X4_fit) rfl rfl rfl (by decide +kernel) ⟨Nat.le_of_ble_eq_true rfl, Nat.le_of_ble_eq_true rfl⟩) (rcv_X a k B L R T U V) rfl hl.1 rfl (Nat.le_of_ble_eq_true rfl) dL_law_895 hf) hP hD hS hA (fr_L_X a a2 k k2 B L R T U V M Lm B1 L1 R T U V) (fun H locs hP hD hS => ?_)
  refine lv_aload_n hx hb dL_law_898 rfl (lv_at hl 2 rfl) ?_
  refine lv_aload_n hx hb dL_law_899 rfl (lv_at hl 0 rfl) ?_
  refine lv_iload_n hx hb dL_law_900 rfl (lv_at hl 3 rfl) ?_
  refine lv_iconst (v := (1 : Int32)) hx hb dL_law_901 (by decide) ?_
  refine lv_iadd hx hb dL_law_902 ?_
  refine va_sld hx hb hX hbl hbA hS (ixk i 1 (by omega) hN) dL_law_903 ?_
  refine lv_aload_n hx hb dL_law_904 rfl (lv_at hl 0 rfl) ?_
  refine lv_iload_n hx hb dL_law_905 rfl (lv_at hl 3 rfl) ?_
  refine lv_iconst (v := (2 : Int32)) hx hb dL_law_906 (by decide) ?_
  refine lv_iadd hx hb dL_law_907 ?_
  refine va_sld hx hb hX hbl hbA hS (ixk i 2 (by omega) hN) dL_law_908 ?_
  refine go_i (run_V (b := (a2 0)) (As := [.int (xs (Int32.toNatClampNeg (nI i + (1 : Int32)))), .int (xs (Int32.toNatClampNeg (nI i + (2 : Int32))))]) (rest := [.int r]) ⟨hx, hb, hml, hown, hts⟩ hnw hK hP hD (fr_L_M a a2 k k2 B1 L1 R T U V M Lm M1 Lm1) (ks_L_M k k2) (c_X5_fit l D a2 k2 H.size M Lm (xs (Int32.toNatClampNeg (nI i + (1 : Int32)))) (xs (Int32.toNatClampNeg (nI i + (2 : Int32)))) r M1 Lm1 q2) (cwV 2 hts (gl_in gL_law_X5_fit) rfl rfl rfl (by decide +kernel) ⟨Nat.le_of_ble_eq_true rfl, Nat.le_of_ble_eq_true rfl⟩) (rcv_M a2 k2 M Lm) rfl hl.1 rfl (Nat.le_of_ble_eq_true rfl) dL_law_909 hf) hP hD hS hA (fr_L_M a a2 k k2 B1 L1 R T U V M Lm M1 Lm1) (fun H locs hP hD hS => ?_)
  refine lv_icmp_eq (tgt := 1238) hx hb dL_law_912 (by decide) (fun _ => ?_) (fun c9 => absurd rfl c9)
  exact KK B1 L1 R T U V M1 Lm1 hR1 H locs hP hD hS ls hl
set_option maxHeartbeats 4000000 in
set_option maxRecDepth 100000 in
theorem law_worst (E_m : EQ_worst) {p : Program} {l : Launch} {e : Env} {s : State} {m : MethodId} {below : List Frame} {meth : Method} {c : Code} {D : va_G} {b N cells slots : Nat} {xs : Nat → Int32} {a a2 : Nat → Nat} {k k2 : Nat → ClassId} {Q : State → Prop} (C0 : lw_At p s m meth c b N xs) (hnw : nw s) (hK : va_K D vwCl (tL k k2) s) (hf : cells ≤ room_1.cells ∧ slots ≤ room_1.slots) {cn : Nat} {B : RG} {L : Int64} {R T U V M : RG} {Lm : Int64} (hc : cn < 512) (hR : Rel cn B L R T U V M Lm) (i : Nat) (hi : i + 6 ≤ N) (hN : N ≤ 3072)
    (KK : ∀ (B : RG) (L : Int64) (R T U V M : RG) (Lm : Int64), Rel (cn + 1) B L R T U V M Lm → ∀ (H : Heap) (locs : List Loc), va_P D vwCl (xL a a2 k k2 B L R T U V M Lm) H → va_D (fun q : Nat => s.heap.size ≤ q) (xL a a2 k k2 B L R T U V M Lm) → va_S (fun q : Nat => s.heap.size ≤ q) s.heap H locs → ∀ ls : Array Slot, lv_has ls 4 [(0, .ref b), (1, .ref (a 26)), (2, .ref (a2 0)), (3, .int (nI i))] → W p l e room_1 s m #[Value.ref b] below meth c H locs cells slots Q (F0 m 1238 ls []))
    (H : Heap) (locs : List Loc) (hP : va_P D vwCl (xL a a2 k k2 B L R T U V M Lm) H) (hD : va_D (fun q : Nat => s.heap.size ≤ q) (xL a a2 k k2 B L R T U V M Lm)) (hS : va_S (fun q : Nat => s.heap.size ≤ q) s.heap H locs) (ls : Array Slot) (hl : lv_has ls 4 [(0, .ref b), (1, .ref (a 26)), (2, .ref (a2 0)), (3, .int (nI i))]) : W p l e room_1 s m #[Value.ref b] below meth c H locs cells slots Q (F0 m 917 ls []) := by
  obtain ⟨hx, hb, hr, hml, hown, hts, hX, hbl, hlocks, hgv⟩ := C0
  have hA : ∀ q : Nat, s.heap.size ≤ q → (fun q : Nat => s.heap.size ≤ q) q := fun _ h => h
  have hbA : ¬ (fun q : Nat => s.heap.size ≤ q) b := Nat.not_le.mpr hbl
  refine lv_aload_n hx hb dL_law_917 rfl (lv_at hl 1 rfl) ?_
  refine lv_aload_n hx hb dL_law_918 rfl (lv_at hl 0 rfl) ?_
  refine lv_iload_n hx hb dL_law_919 rfl (lv_at hl 3 rfl) ?_
  refine lv_iconst (v := (1 : Int32)) hx hb dL_law_920 (by decide) ?_
  refine lv_iadd hx hb dL_law_921 ?_
  refine va_sld hx hb hX hbl hbA hS (ixk i 1 (by omega) hN) dL_law_922 ?_
  obtain ⟨r, B1, L1, M1, Lm1, q1, q2, hR1⟩   := E_m hc hR (xs (Int32.toNatClampNeg (nI i + (1 : Int32))))
  refine go_i (run_V (b := (a 26)) (As := [.int (xs (Int32.toNatClampNeg (nI i + (1 : Int32))))]) (rest := []) ⟨hx, hb, hml, hown, hts⟩ hnw hK hP hD (fr_L_X a a2 k k2 B L R T U V M Lm B1 L1 R T U V) (ks_L_X k k2) (c_X4_worst l D a k H.size B L R T U V (xs (Int32.toNatClampNeg (nI i + (1 : Int32)))) r B1 L1 q1) (cwV 1 hts (gl_in gL_law_X4_worst) rfl rfl rfl (by decide +kernel) ⟨Nat.le_of_ble_eq_true rfl, Nat.le_of_ble_eq_true rfl⟩) (rcv_X a k B L R T U V) rfl hl.1 rfl (Nat.le_of_ble_eq_true rfl) dL_law_923 hf) hP hD hS hA (fr_L_X a a2 k k2 B L R T U V M Lm B1 L1 R T U V) (fun H locs hP hD hS => ?_)
  refine lv_aload_n hx hb dL_law_926 rfl (lv_at hl 2 rfl) ?_
  refine lv_aload_n hx hb dL_law_927 rfl (lv_at hl 0 rfl) ?_
  refine lv_iload_n hx hb dL_law_928 rfl (lv_at hl 3 rfl) ?_
  refine lv_iconst (v := (1 : Int32)) hx hb dL_law_929 (by decide) ?_
  refine lv_iadd hx hb dL_law_930 ?_
  refine va_sld hx hb hX hbl hbA hS (ixk i 1 (by omega) hN) dL_law_931 ?_
  refine go_i (run_V (b := (a2 0)) (As := [.int (xs (Int32.toNatClampNeg (nI i + (1 : Int32))))]) (rest := [.int r]) ⟨hx, hb, hml, hown, hts⟩ hnw hK hP hD (fr_L_M a a2 k k2 B1 L1 R T U V M Lm M1 Lm1) (ks_L_M k k2) (c_X5_worst l D a2 k2 H.size M Lm (xs (Int32.toNatClampNeg (nI i + (1 : Int32)))) r M1 Lm1 q2) (cwV 1 hts (gl_in gL_law_X5_worst) rfl rfl rfl (by decide +kernel) ⟨Nat.le_of_ble_eq_true rfl, Nat.le_of_ble_eq_true rfl⟩) (rcv_M a2 k2 M Lm) rfl hl.1 rfl (Nat.le_of_ble_eq_true rfl) dL_law_932 hf) hP hD hS hA (fr_L_M a a2 k k2 B1 L1 R T U V M Lm M1 Lm1) (fun H locs hP hD hS => ?_)
  refine lv_icmp_eq (tgt := 1238) hx hb dL_law_935 (by decide) (fun _ => ?_) (fun c9 => absurd rfl c9)
  exact KK B1 L1 R T U V M1 Lm1 hR1 H locs hP hD hS ls hl
set_option maxHeartbeats 4000000 in
set_option maxRecDepth 100000 in
theorem law_pull (E_m : EQ_pull) {p : Program} {l : Launch} {e : Env} {s : State} {m : MethodId} {below : List Frame} {meth : Method} {c : Code} {D : va_G} {b N cells slots : Nat} {xs : Nat → Int32} {a a2 : Nat → Nat} {k k2 : Nat → ClassId} {Q : State → Prop} (C0 : lw_At p s m meth c b N xs) (hnw : nw s) (hK : va_K D vwCl (tL k k2) s) (hf : cells ≤ room_1.cells ∧ slots ≤ room_1.slots) {cn : Nat} {B : RG} {L : Int64} {R T U V M : RG} {Lm : Int64} (hc : cn < 512) (hR : Rel cn B L R T U V M Lm) (i : Nat) (hi : i + 6 ≤ N) (hN : N ≤ 3072)
    (KK : ∀ (B : RG) (L : Int64) (R T U V M : RG) (Lm : Int64), Rel (cn + 1) B L R T U V M Lm → ∀ (H : Heap) (locs : List Loc), va_P D vwCl (xL a a2 k k2 B L R T U V M Lm) H → va_D (fun q : Nat => s.heap.size ≤ q) (xL a a2 k k2 B L R T U V M Lm) → va_S (fun q : Nat => s.heap.size ≤ q) s.heap H locs → ∀ ls : Array Slot, lv_has ls 4 [(0, .ref b), (1, .ref (a 26)), (2, .ref (a2 0)), (3, .int (nI i))] → W p l e room_1 s m #[Value.ref b] below meth c H locs cells slots Q (F0 m 1238 ls []))
    (H : Heap) (locs : List Loc) (hP : va_P D vwCl (xL a a2 k k2 B L R T U V M Lm) H) (hD : va_D (fun q : Nat => s.heap.size ≤ q) (xL a a2 k k2 B L R T U V M Lm)) (hS : va_S (fun q : Nat => s.heap.size ≤ q) s.heap H locs) (ls : Array Slot) (hl : lv_has ls 4 [(0, .ref b), (1, .ref (a 26)), (2, .ref (a2 0)), (3, .int (nI i))]) : W p l e room_1 s m #[Value.ref b] below meth c H locs cells slots Q (F0 m 940 ls []) := by
  obtain ⟨hx, hb, hr, hml, hown, hts, hX, hbl, hlocks, hgv⟩ := C0
  have hA : ∀ q : Nat, s.heap.size ≤ q → (fun q : Nat => s.heap.size ≤ q) q := fun _ h => h
  have hbA : ¬ (fun q : Nat => s.heap.size ≤ q) b := Nat.not_le.mpr hbl
  refine lv_aload_n hx hb dL_law_940 rfl (lv_at hl 1 rfl) ?_
  refine lv_aload_n hx hb dL_law_941 rfl (lv_at hl 0 rfl) ?_
  refine lv_iload_n hx hb dL_law_942 rfl (lv_at hl 3 rfl) ?_
  refine lv_iconst (v := (1 : Int32)) hx hb dL_law_943 (by decide) ?_
  refine lv_iadd hx hb dL_law_944 ?_
  refine va_sld hx hb hX hbl hbA hS (ixk i 1 (by omega) hN) dL_law_945 ?_
  refine lv_aload_n hx hb dL_law_946 rfl (lv_at hl 0 rfl) ?_
  refine lv_iload_n hx hb dL_law_947 rfl (lv_at hl 3 rfl) ?_
  refine lv_iconst (v := (2 : Int32)) hx hb dL_law_948 (by decide) ?_
  refine lv_iadd hx hb dL_law_949 ?_
  refine va_sld hx hb hX hbl hbA hS (ixk i 2 (by omega) hN) dL_law_950 ?_
  obtain ⟨r, B1, M1, q1, q2, hR1⟩   := E_m hc hR (xs (Int32.toNatClampNeg (nI i + (1 : Int32)))) (xs (Int32.toNatClampNeg (nI i + (2 : Int32))))
  refine go_i (run_V (b := (a 26)) (As := [.int (xs (Int32.toNatClampNeg (nI i + (1 : Int32)))), .int (xs (Int32.toNatClampNeg (nI i + (2 : Int32))))]) (rest := []) ⟨hx, hb, hml, hown, hts⟩ hnw hK hP hD (fr_L_X a a2 k k2 B L R T U V M Lm B1 L R T U V) (ks_L_X k k2) (c_X4_pull l D a k H.size B L R T U V (xs (Int32.toNatClampNeg (nI i + (1 : Int32)))) (xs (Int32.toNatClampNeg (nI i + (2 : Int32)))) r B1 q1) (cwV 2 hts (gl_in gL_law_X4_pull) rfl rfl rfl (by decide +kernel) ⟨Nat.le_of_ble_eq_true rfl, Nat.le_of_ble_eq_true rfl⟩) (rcv_X a k B L R T U V) rfl hl.1 rfl (Nat.le_of_ble_eq_true rfl) dL_law_951 hf) hP hD hS hA (fr_L_X a a2 k k2 B L R T U V M Lm B1 L R T U V) (fun H locs hP hD hS => ?_)
  refine lv_aload_n hx hb dL_law_954 rfl (lv_at hl 2 rfl) ?_
  refine lv_aload_n hx hb dL_law_955 rfl (lv_at hl 0 rfl) ?_
  refine lv_iload_n hx hb dL_law_956 rfl (lv_at hl 3 rfl) ?_
  refine lv_iconst (v := (1 : Int32)) hx hb dL_law_957 (by decide) ?_
  refine lv_iadd hx hb dL_law_958 ?_
  refine va_sld hx hb hX hbl hbA hS (ixk i 1 (by omega) hN) dL_law_959 ?_
  refine lv_aload_n hx hb dL_law_960 rfl (lv_at hl 0 rfl) ?_
  refine lv_iload_n hx hb dL_law_961 rfl (lv_at hl 3 rfl) ?_
  refine lv_iconst (v := (2 : Int32)) hx hb dL_law_962 (by decide) ?_
  refine lv_iadd hx hb dL_law_963 ?_
  refine va_sld hx hb hX hbl hbA hS (ixk i 2 (by omega) hN) dL_law_964 ?_
  refine go_i (run_V (b := (a2 0)) (As := [.int (xs (Int32.toNatClampNeg (nI i + (1 : Int32)))), .int (xs (Int32.toNatClampNeg (nI i + (2 : Int32))))]) (rest := [.int r]) ⟨hx, hb, hml, hown, hts⟩ hnw hK hP hD (fr_L_M a a2 k k2 B1 L R T U V M Lm M1 Lm) (ks_L_M k k2) (c_X5_pull l D a2 k2 H.size M Lm (xs (Int32.toNatClampNeg (nI i + (1 : Int32)))) (xs (Int32.toNatClampNeg (nI i + (2 : Int32)))) r M1 q2) (cwV 2 hts (gl_in gL_law_X5_pull) rfl rfl rfl (by decide +kernel) ⟨Nat.le_of_ble_eq_true rfl, Nat.le_of_ble_eq_true rfl⟩) (rcv_M a2 k2 M Lm) rfl hl.1 rfl (Nat.le_of_ble_eq_true rfl) dL_law_965 hf) hP hD hS hA (fr_L_M a a2 k k2 B1 L R T U V M Lm M1 Lm) (fun H locs hP hD hS => ?_)
  refine lv_icmp_eq (tgt := 1238) hx hb dL_law_968 (by decide) (fun _ => ?_) (fun c9 => absurd rfl c9)
  exact KK B1 L R T U V M1 Lm hR1 H locs hP hD hS ls hl
set_option maxHeartbeats 4000000 in
set_option maxRecDepth 100000 in
theorem law_cut (E_m : EQ_cut) {p : Program} {l : Launch} {e : Env} {s : State} {m : MethodId} {below : List Frame} {meth : Method} {c : Code} {D : va_G} {b N cells slots : Nat} {xs : Nat → Int32} {a a2 : Nat → Nat} {k k2 : Nat → ClassId} {Q : State → Prop} (C0 : lw_At p s m meth c b N xs) (hnw : nw s) (hK : va_K D vwCl (tL k k2) s) (hf : cells ≤ room_1.cells ∧ slots ≤ room_1.slots) {cn : Nat} {B : RG} {L : Int64} {R T U V M : RG} {Lm : Int64} (hc : cn < 512) (hR : Rel cn B L R T U V M Lm) (i : Nat) (hi : i + 6 ≤ N) (hN : N ≤ 3072)
    (KK : ∀ (B : RG) (L : Int64) (R T U V M : RG) (Lm : Int64), Rel (cn + 1) B L R T U V M Lm → ∀ (H : Heap) (locs : List Loc), va_P D vwCl (xL a a2 k k2 B L R T U V M Lm) H → va_D (fun q : Nat => s.heap.size ≤ q) (xL a a2 k k2 B L R T U V M Lm) → va_S (fun q : Nat => s.heap.size ≤ q) s.heap H locs → ∀ ls : Array Slot, lv_has ls 4 [(0, .ref b), (1, .ref (a 26)), (2, .ref (a2 0)), (3, .int (nI i))] → W p l e room_1 s m #[Value.ref b] below meth c H locs cells slots Q (F0 m 1238 ls []))
    (H : Heap) (locs : List Loc) (hP : va_P D vwCl (xL a a2 k k2 B L R T U V M Lm) H) (hD : va_D (fun q : Nat => s.heap.size ≤ q) (xL a a2 k k2 B L R T U V M Lm)) (hS : va_S (fun q : Nat => s.heap.size ≤ q) s.heap H locs) (ls : Array Slot) (hl : lv_has ls 4 [(0, .ref b), (1, .ref (a 26)), (2, .ref (a2 0)), (3, .int (nI i))]) : W p l e room_1 s m #[Value.ref b] below meth c H locs cells slots Q (F0 m 973 ls []) := by
  obtain ⟨hx, hb, hr, hml, hown, hts, hX, hbl, hlocks, hgv⟩ := C0
  have hA : ∀ q : Nat, s.heap.size ≤ q → (fun q : Nat => s.heap.size ≤ q) q := fun _ h => h
  have hbA : ¬ (fun q : Nat => s.heap.size ≤ q) b := Nat.not_le.mpr hbl
  refine lv_aload_n hx hb dL_law_973 rfl (lv_at hl 1 rfl) ?_
  refine lv_aload_n hx hb dL_law_974 rfl (lv_at hl 0 rfl) ?_
  refine lv_iload_n hx hb dL_law_975 rfl (lv_at hl 3 rfl) ?_
  refine lv_iconst (v := (1 : Int32)) hx hb dL_law_976 (by decide) ?_
  refine lv_iadd hx hb dL_law_977 ?_
  refine va_sld hx hb hX hbl hbA hS (ixk i 1 (by omega) hN) dL_law_978 ?_
  refine lv_aload_n hx hb dL_law_979 rfl (lv_at hl 0 rfl) ?_
  refine lv_iload_n hx hb dL_law_980 rfl (lv_at hl 3 rfl) ?_
  refine lv_iconst (v := (2 : Int32)) hx hb dL_law_981 (by decide) ?_
  refine lv_iadd hx hb dL_law_982 ?_
  refine va_sld hx hb hX hbl hbA hS (ixk i 2 (by omega) hN) dL_law_983 ?_
  obtain ⟨r, B1, L1, M1, Lm1, q1, q2, hR1⟩   := E_m hc hR (xs (Int32.toNatClampNeg (nI i + (1 : Int32)))) (xs (Int32.toNatClampNeg (nI i + (2 : Int32))))
  refine go_i (run_V (b := (a 26)) (As := [.int (xs (Int32.toNatClampNeg (nI i + (1 : Int32)))), .int (xs (Int32.toNatClampNeg (nI i + (2 : Int32))))]) (rest := []) ⟨hx, hb, hml, hown, hts⟩ hnw hK hP hD (fr_L_X a a2 k k2 B L R T U V M Lm B1 L1 R T U V) (ks_L_X k k2) (c_X4_cut l D a k H.size B L R T U V (xs (Int32.toNatClampNeg (nI i + (1 : Int32)))) (xs (Int32.toNatClampNeg (nI i + (2 : Int32)))) r B1 L1 q1) (cwV 2 hts (gl_in gL_law_X4_cut) rfl rfl rfl (by decide +kernel) ⟨Nat.le_of_ble_eq_true rfl, Nat.le_of_ble_eq_true rfl⟩) (rcv_X a k B L R T U V) rfl hl.1 rfl (Nat.le_of_ble_eq_true rfl) dL_law_984 hf) hP hD hS hA (fr_L_X a a2 k k2 B L R T U V M Lm B1 L1 R T U V) (fun H locs hP hD hS => ?_)
  refine lv_aload_n hx hb dL_law_987 rfl (lv_at hl 2 rfl) ?_
  refine lv_aload_n hx hb dL_law_988 rfl (lv_at hl 0 rfl) ?_
  refine lv_iload_n hx hb dL_law_989 rfl (lv_at hl 3 rfl) ?_
  refine lv_iconst (v := (1 : Int32)) hx hb dL_law_990 (by decide) ?_
  refine lv_iadd hx hb dL_law_991 ?_
  refine va_sld hx hb hX hbl hbA hS (ixk i 1 (by omega) hN) dL_law_992 ?_
  refine lv_aload_n hx hb dL_law_993 rfl (lv_at hl 0 rfl) ?_
  refine lv_iload_n hx hb dL_law_994 rfl (lv_at hl 3 rfl) ?_
  refine lv_iconst (v := (2 : Int32)) hx hb dL_law_995 (by decide) ?_
  refine lv_iadd hx hb dL_law_996 ?_
  refine va_sld hx hb hX hbl hbA hS (ixk i 2 (by omega) hN) dL_law_997 ?_
  refine go_i (run_V (b := (a2 0)) (As := [.int (xs (Int32.toNatClampNeg (nI i + (1 : Int32)))), .int (xs (Int32.toNatClampNeg (nI i + (2 : Int32))))]) (rest := [.int r]) ⟨hx, hb, hml, hown, hts⟩ hnw hK hP hD (fr_L_M a a2 k k2 B1 L1 R T U V M Lm M1 Lm1) (ks_L_M k k2) (c_X5_cut l D a2 k2 H.size M Lm (xs (Int32.toNatClampNeg (nI i + (1 : Int32)))) (xs (Int32.toNatClampNeg (nI i + (2 : Int32)))) r M1 Lm1 q2) (cwV 2 hts (gl_in gL_law_X5_cut) rfl rfl rfl (by decide +kernel) ⟨Nat.le_of_ble_eq_true rfl, Nat.le_of_ble_eq_true rfl⟩) (rcv_M a2 k2 M Lm) rfl hl.1 rfl (Nat.le_of_ble_eq_true rfl) dL_law_998 hf) hP hD hS hA (fr_L_M a a2 k k2 B1 L1 R T U V M Lm M1 Lm1) (fun H locs hP hD hS => ?_)
  refine lv_icmp_eq (tgt := 1238) hx hb dL_law_1001 (by decide) (fun _ => ?_) (fun c9 => absurd rfl c9)
  exact KK B1 L1 R T U V M1 Lm1 hR1 H locs hP hD hS ls hl
set_option maxHeartbeats 4000000 in
set_option maxRecDepth 100000 in
theorem law_press (E_m : EQ_press) {p : Program} {l : Launch} {e : Env} {s : State} {m : MethodId} {below : List Frame} {meth : Method} {c : Code} {D : va_G} {b N cells slots : Nat} {xs : Nat → Int32} {a a2 : Nat → Nat} {k k2 : Nat → ClassId} {Q : State → Prop} (C0 : lw_At p s m meth c b N xs) (hnw : nw s) (hK : va_K D vwCl (tL k k2) s) (hf : cells ≤ room_1.cells ∧ slots ≤ room_1.slots) {cn : Nat} {B : RG} {L : Int64} {R T U V M : RG} {Lm : Int64} (hc : cn < 512) (hR : Rel cn B L R T U V M Lm) (i : Nat) (hi : i + 6 ≤ N) (hN : N ≤ 3072)
    (KK : ∀ (B : RG) (L : Int64) (R T U V M : RG) (Lm : Int64), Rel (cn + 1) B L R T U V M Lm → ∀ (H : Heap) (locs : List Loc), va_P D vwCl (xL a a2 k k2 B L R T U V M Lm) H → va_D (fun q : Nat => s.heap.size ≤ q) (xL a a2 k k2 B L R T U V M Lm) → va_S (fun q : Nat => s.heap.size ≤ q) s.heap H locs → ∀ ls : Array Slot, lv_has ls 4 [(0, .ref b), (1, .ref (a 26)), (2, .ref (a2 0)), (3, .int (nI i))] → W p l e room_1 s m #[Value.ref b] below meth c H locs cells slots Q (F0 m 1238 ls []))
    (H : Heap) (locs : List Loc) (hP : va_P D vwCl (xL a a2 k k2 B L R T U V M Lm) H) (hD : va_D (fun q : Nat => s.heap.size ≤ q) (xL a a2 k k2 B L R T U V M Lm)) (hS : va_S (fun q : Nat => s.heap.size ≤ q) s.heap H locs) (ls : Array Slot) (hl : lv_has ls 4 [(0, .ref b), (1, .ref (a 26)), (2, .ref (a2 0)), (3, .int (nI i))]) : W p l e room_1 s m #[Value.ref b] below meth c H locs cells slots Q (F0 m 1006 ls []) := by
  obtain ⟨hx, hb, hr, hml, hown, hts, hX, hbl, hlocks, hgv⟩ := C0
  have hA : ∀ q : Nat, s.heap.size ≤ q → (fun q : Nat => s.heap.size ≤ q) q := fun _ h => h
  have hbA : ¬ (fun q : Nat => s.heap.size ≤ q) b := Nat.not_le.mpr hbl
  refine lv_aload_n hx hb dL_law_1006 rfl (lv_at hl 1 rfl) ?_
  refine lv_aload_n hx hb dL_law_1007 rfl (lv_at hl 0 rfl) ?_
  refine lv_iload_n hx hb dL_law_1008 rfl (lv_at hl 3 rfl) ?_
  refine lv_iconst (v := (1 : Int32)) hx hb dL_law_1009 (by decide) ?_
  refine lv_iadd hx hb dL_law_1010 ?_
  refine va_sld hx hb hX hbl hbA hS (ixk i 1 (by omega) hN) dL_law_1011 ?_
  refine lv_aload_n hx hb dL_law_1012 rfl (lv_at hl 0 rfl) ?_
  refine lv_iload_n hx hb dL_law_1013 rfl (lv_at hl 3 rfl) ?_
  refine lv_iconst (v := (2 : Int32)) hx hb dL_law_1014 (by decide) ?_
  refine lv_iadd hx hb dL_law_1015 ?_
  refine va_sld hx hb hX hbl hbA hS (ixk i 2 (by omega) hN) dL_law_1016 ?_
  obtain ⟨r, L1, Lm1, q1, q2, hR1⟩   := E_m hc hR (xs (Int32.toNatClampNeg (nI i + (1 : Int32)))) (xs (Int32.toNatClampNeg (nI i + (2 : Int32))))
  refine go_i (run_V (b := (a 26)) (As := [.int (xs (Int32.toNatClampNeg (nI i + (1 : Int32)))), .int (xs (Int32.toNatClampNeg (nI i + (2 : Int32))))]) (rest := []) ⟨hx, hb, hml, hown, hts⟩ hnw hK hP hD (fr_L_X a a2 k k2 B L R T U V M Lm B L1 R T U V) (ks_L_X k k2) (c_X4_press l D a k H.size B L R T U V (xs (Int32.toNatClampNeg (nI i + (1 : Int32)))) (xs (Int32.toNatClampNeg (nI i + (2 : Int32)))) r L1 q1) (cwV 2 hts (gl_in gL_law_X4_press) rfl rfl rfl (by decide +kernel) ⟨Nat.le_of_ble_eq_true rfl, Nat.le_of_ble_eq_true rfl⟩) (rcv_X a k B L R T U V) rfl hl.1 rfl (Nat.le_of_ble_eq_true rfl) dL_law_1017 hf) hP hD hS hA (fr_L_X a a2 k k2 B L R T U V M Lm B L1 R T U V) (fun H locs hP hD hS => ?_)
  refine lv_aload_n hx hb dL_law_1020 rfl (lv_at hl 2 rfl) ?_
  refine lv_aload_n hx hb dL_law_1021 rfl (lv_at hl 0 rfl) ?_
  refine lv_iload_n hx hb dL_law_1022 rfl (lv_at hl 3 rfl) ?_
  refine lv_iconst (v := (1 : Int32)) hx hb dL_law_1023 (by decide) ?_
  refine lv_iadd hx hb dL_law_1024 ?_
  refine va_sld hx hb hX hbl hbA hS (ixk i 1 (by omega) hN) dL_law_1025 ?_
  refine lv_aload_n hx hb dL_law_1026 rfl (lv_at hl 0 rfl) ?_
  refine lv_iload_n hx hb dL_law_1027 rfl (lv_at hl 3 rfl) ?_
  refine lv_iconst (v := (2 : Int32)) hx hb dL_law_1028 (by decide) ?_
  refine lv_iadd hx hb dL_law_1029 ?_
  refine va_sld hx hb hX hbl hbA hS (ixk i 2 (by omega) hN) dL_law_1030 ?_
  refine go_i (run_V (b := (a2 0)) (As := [.int (xs (Int32.toNatClampNeg (nI i + (1 : Int32)))), .int (xs (Int32.toNatClampNeg (nI i + (2 : Int32))))]) (rest := [.int r]) ⟨hx, hb, hml, hown, hts⟩ hnw hK hP hD (fr_L_M a a2 k k2 B L1 R T U V M Lm M Lm1) (ks_L_M k k2) (c_X5_press l D a2 k2 H.size M Lm (xs (Int32.toNatClampNeg (nI i + (1 : Int32)))) (xs (Int32.toNatClampNeg (nI i + (2 : Int32)))) r Lm1 q2) (cwV 2 hts (gl_in gL_law_X5_press) rfl rfl rfl (by decide +kernel) ⟨Nat.le_of_ble_eq_true rfl, Nat.le_of_ble_eq_true rfl⟩) (rcv_M a2 k2 M Lm) rfl hl.1 rfl (Nat.le_of_ble_eq_true rfl) dL_law_1031 hf) hP hD hS hA (fr_L_M a a2 k k2 B L1 R T U V M Lm M Lm1) (fun H locs hP hD hS => ?_)
  refine lv_icmp_eq (tgt := 1238) hx hb dL_law_1034 (by decide) (fun _ => ?_) (fun c9 => absurd rfl c9)
  exact KK B L1 R T U V M Lm1 hR1 H locs hP hD hS ls hl
