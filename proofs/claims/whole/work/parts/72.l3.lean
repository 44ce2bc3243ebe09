set_option maxHeartbeats 4000000 in
set_option maxRecDepth 100000 in
theorem law_margin (E_m : EQ_margin) {p : Program} {l : Launch} {e : Env} {s : State} {m : MethodId} {below : List Frame} {meth : Method} {c : Code} {D : va_G} {b N cells slots : Nat} {xs : Nat → Int32} {a a2 : Nat → Nat} {k k2 : Nat → ClassId} {Q : State → Prop} (C0 : lw_At p s m meth c b N xs) (hnw : nw s) (hK : va_K D vwCl (tL k k2) s) (hf : cells ≤ room_1.cells ∧ slots ≤ room_1.slots) {cn : Nat} {B : RG} {L : Int64} {R T U V M : RG} {Lm : Int64} (hc : cn < 512) (hR : Rel cn B L R T U V M Lm) (i : Nat) (hi : i + 6 ≤ N) (hN : N ≤ 3072)
    (KK : ∀ (B : RG) (L : Int64) (R T U V M : RG) (Lm : Int64), Rel (cn + 1) B L R T U V M Lm → ∀ (H : Heap) (locs : List Loc), va_P D vwCl (xL a a2 k k2 B L R T U V M Lm) H → va_D (fun q : Nat => s.heap.size ≤ q) (xL a a2 k k2 B L R T U V M Lm) → va_S (fun q : Nat => s.heap.size ≤ q) s.heap H locs → ∀ ls : Array Slot, lv_has ls 4 [(0, .ref b), (1, .ref (a 26)), (2, .ref (a2 0)), (3, .int (nI i))] → W p l e room_1 s m #[Value.ref b] below meth c H locs cells slots Q (F0 m 1238 ls []))
    (H : Heap) (locs : List Loc) (hP : va_P D vwCl (xL a a2 k k2 B L R T U V M Lm) H) (hD : va_D (fun q : Nat => s.heap.size ≤ q) (xL a a2 k k2 B L R T U V M Lm)) (hS : va_S (fun q : Nat => s.heap.size ≤ q) s.heap H locs) (ls : Array Slot) (hl : lv_has ls 4 [(0, .ref b), (1, .ref (a 26)), (2, .ref (a2 0)), (3, .int (nI i))]) : W p l e room_1 s m #[Value.ref b] below meth c H locs cells slots Q (F0 m 1039 ls []) := by
  obtain ⟨hx, hb, hr, hml, hown, hts, hX, hbl, hlocks, hgv⟩ := C0
  have hA : ∀ q : Nat, s.heap.size ≤ q → (fun q : Nat => s.heap.size ≤ q) q := fun _ h => h
  have hbA : ¬ (fun q : Nat => s.heap.size ≤ q) b := Nat.not_le.mpr hbl
  refine lv_aload_n hx hb dL_law_1039 rfl (lv_at hl 1 rfl) ?_
  refine lv_aload_n hx hb dL_law_1040 rfl (lv_at hl 0 rfl) ?_
  refine lv_iload_n hx hb dL_law_1041 rfl (lv_at hl 3 rfl) ?_
  refine lv_iconst (v := (1 : Int32)) hx hb dL_law_1042 (by decide) ?_
  refine lv_iadd hx hb dL_law_1043 ?_
  refine va_sld hx hb hX hbl hbA hS (ixk i 1 (by omega) hN) dL_law_1044 ?_
  refine lv_aload_n hx hb dL_law_1045 rfl (lv_at hl 0 rfl) ?_
  refine lv_iload_n hx hb dL_law_1046 rfl (lv_at hl 3 rfl) ?_
  refine lv_iconst (v := (2 : Int32)) hx hb dL_law_1047 (by decide) ?_
  refine lv_iadd hx hb dL_law_1048 ?_
  refine va_sld hx hb hX hbl hbA hS (ixk i 2 (by omega) hN) dL_law_1049 ?_
  obtain ⟨r, B1, L1, M1, Lm1, q1, q2, hR1⟩   := E_m hc hR (xs (Int32.toNatClampNeg (nI i + (1 : Int32)))) (xs (Int32.toNatClampNeg (nI i + (2 : Int32))))
  refine go_i (run_V (b := (a 26)) (As := [.int (xs (Int32.toNatClampNeg (nI i + (1 : Int32)))), .int (xs (Int32.toNatClampNeg (nI i + (2 : Int32))))]) (rest := []) ⟨hx, hb, hml, hown, hts⟩ hnw hK hP hD (fr_L_X a a2 k k2 B L R T U V M Lm B1 L1 R T U V) (ks_L_X k k2) (c_X4_margin l D a k H.size B L R T U V (xs (Int32.toNatClampNeg (nI i + (1 : Int32)))) (xs (Int32.toNatClampNeg (nI i + (2 : Int32)))) r B1 L1 q1) (cwV 2 hts (gl_in gL_law_X4_margin) rfl rfl rfl (by decide +kernel) ⟨Nat.le_of_ble_eq_true rfl, Nat.le_of_ble_eq_true rfl⟩) (rcv_X a k B L R T U V) rfl hl.1 rfl (Nat.le_of_ble_eq_true rfl) dL_law_1050 hf) hP hD hS hA (fr_L_X a a2 k k2 B L R T U V M Lm B1 L1 R T U V) (fun H locs hP hD hS => ?_)
  refine lv_aload_n hx hb dL_law_1053 rfl (lv_at hl 2 rfl) ?_
  refine lv_aload_n hx hb dL_law_1054 rfl (lv_at hl 0 rfl) ?_
  refine lv_iload_n hx hb dL_law_1055 rfl (lv_at hl 3 rfl) ?_
  refine lv_iconst (v := (1 : Int32)) hx hb dL_law_1056 (by decide) ?_
  refine lv_iadd hx hb dL_law_1057 ?_
  refine va_sld hx hb hX hbl hbA hS (ixk i 1 (by omega) hN) dL_law_1058 ?_
  refine lv_aload_n hx hb dL_law_1059 rfl (lv_at hl 0 rfl) ?_
  refine lv_iload_n hx hb dL_law_1060 rfl (lv_at hl 3 rfl) ?_
  refine lv_iconst (v := (2 : Int32)) hx hb dL_law_1061 (by decide) ?_
  refine lv_iadd hx hb dL_law_1062 ?_
  refine va_sld hx hb hX hbl hbA hS (ixk i 2 (by omega) hN) dL_law_1063 ?_
  refine go_i (run_V (b := (a2 0)) (As := [.int (xs (Int32.toNatClampNeg (nI i + (1 : Int32)))), .int (xs (Int32.toNatClampNeg (nI i + (2 : Int32))))]) (rest := [.int r]) ⟨hx, hb, hml, hown, hts⟩ hnw hK hP hD (fr_L_M a a2 k k2 B1 L1 R T U V M Lm M1 Lm1) (ks_L_M k k2) (c_X5_margin l D a2 k2 H.size M Lm (xs (Int32.toNatClampNeg (nI i + (1 : Int32)))) (xs (Int32.toNatClampNeg (nI i + (2 : Int32)))) r M1 Lm1 q2) (cwV 2 hts (gl_in gL_law_X5_margin) rfl rfl rfl (by decide +kernel) ⟨Nat.le_of_ble_eq_true rfl, Nat.le_of_ble_eq_true rfl⟩) (rcv_M a2 k2 M Lm) rfl hl.1 rfl (Nat.le_of_ble_eq_true rfl) dL_law_1064 hf) hP hD hS hA (fr_L_M a a2 k k2 B1 L1 R T U V M Lm M1 Lm1) (fun H locs hP hD hS => ?_)
  refine lv_icmp_eq (tgt := 1238) hx hb dL_law_1067 (by decide) (fun _ => ?_) (fun c9 => absurd rfl c9)
  exact KK B1 L1 R T U V M1 Lm1 hR1 H locs hP hD hS ls hl
set_option maxHeartbeats 4000000 in
set_option maxRecDepth 100000 in
theorem law_work (E_m : EQ_work) {p : Program} {l : Launch} {e : Env} {s : State} {m : MethodId} {below : List Frame} {meth : Method} {c : Code} {D : va_G} {b N cells slots : Nat} {xs : Nat → Int32} {a a2 : Nat → Nat} {k k2 : Nat → ClassId} {Q : State → Prop} (C0 : lw_At p s m meth c b N xs) (hnw : nw s) (hK : va_K D vwCl (tL k k2) s) (hf : cells ≤ room_1.cells ∧ slots ≤ room_1.slots) {cn : Nat} {B : RG} {L : Int64} {R T U V M : RG} {Lm : Int64} (hc : cn < 512) (hR : Rel cn B L R T U V M Lm) (i : Nat) (hi : i + 6 ≤ N) (hN : N ≤ 3072)
    (KK : ∀ (B : RG) (L : Int64) (R T U V M : RG) (Lm : Int64), Rel (cn + 1) B L R T U V M Lm → ∀ (H : Heap) (locs : List Loc), va_P D vwCl (xL a a2 k k2 B L R T U V M Lm) H → va_D (fun q : Nat => s.heap.size ≤ q) (xL a a2 k k2 B L R T U V M Lm) → va_S (fun q : Nat => s.heap.size ≤ q) s.heap H locs → ∀ ls : Array Slot, lv_has ls 4 [(0, .ref b), (1, .ref (a 26)), (2, .ref (a2 0)), (3, .int (nI i))] → W p l e room_1 s m #[Value.ref b] below meth c H locs cells slots Q (F0 m 1238 ls []))
    (H : Heap) (locs : List Loc) (hP : va_P D vwCl (xL a a2 k k2 B L R T U V M Lm) H) (hD : va_D (fun q : Nat => s.heap.size ≤ q) (xL a a2 k k2 B L R T U V M Lm)) (hS : va_S (fun q : Nat => s.heap.size ≤ q) s.heap H locs) (ls : Array Slot) (hl : lv_has ls 4 [(0, .ref b), (1, .ref (a 26)), (2, .ref (a2 0)), (3, .int (nI i))]) : W p l e room_1 s m #[Value.ref b] below meth c H locs cells slots Q (F0 m 1072 ls []) := by
  obtain ⟨hx, hb, hr, hml, hown, hts, hX, hbl, hlocks, hgv⟩ := C0
  have hA : ∀ q : Nat, s.heap.size ≤ q → (fun q : Nat => s.heap.size ≤ q) q := fun _ h => h
  have hbA : ¬ (fun q : Nat => s.heap.size ≤ q) b := Nat.not_le.mpr hbl
  refine lv_aload_n hx hb dL_law_1072 rfl (lv_at hl 1 rfl) ?_
  refine lv_aload_n hx hb dL_law_1073 rfl (lv_at hl 0 rfl) ?_
  refine lv_iload_n hx hb dL_law_1074 rfl (lv_at hl 3 rfl) ?_
  refine lv_iconst (v := (1 : Int32)) hx hb dL_law_1075 (by decide) ?_
  refine lv_iadd hx hb dL_law_1076 ?_
  refine va_sld hx hb hX hbl hbA hS (ixk i 1 (by omega) hN) dL_law_1077 ?_
  refine lv_aload_n hx hb dL_law_1078 rfl (lv_at hl 0 rfl) ?_
  refine lv_iload_n hx hb dL_law_1079 rfl (lv_at hl 3 rfl) ?_
  refine lv_iconst (v := (2 : Int32)) hx hb dL_law_1080 (by decide) ?_
  refine lv_iadd hx hb dL_law_1081 ?_
  refine va_sld hx hb hX hbl hbA hS (ixk i 2 (by omega) hN) dL_law_1082 ?_
  obtain ⟨r, V1, M1, q1, q2, hR1⟩   := E_m hc hR (xs (Int32.toNatClampNeg (nI i + (1 : Int32)))) (xs (Int32.toNatClampNeg (nI i + (2 : Int32))))
  refine go_i (run_V (b := (a 26)) (As := [.int (xs (Int32.toNatClampNeg (nI i + (1 : Int32)))), .int (xs (Int32.toNatClampNeg (nI i + (2 : Int32))))]) (rest := []) ⟨hx, hb, hml, hown, hts⟩ hnw hK hP hD (fr_L_X a a2 k k2 B L R T U V M Lm B L R T U V1) (ks_L_X k k2) (c_X4_work l D a k H.size B L R T U V (xs (Int32.toNatClampNeg (nI i + (1 : Int32)))) (xs (Int32.toNatClampNeg (nI i + (2 : Int32)))) r V1 q1) (cwV 2 hts (gl_in gL_law_X4_work) rfl rfl rfl (by decide +kernel) ⟨Nat.le_of_ble_eq_true rfl, Nat.le_of_ble_eq_true rfl⟩) (rcv_X a k B L R T U V) rfl hl.1 rfl (Nat.le_of_ble_eq_true rfl) dL_law_1083 hf) hP hD hS hA (fr_L_X a a2 k k2 B L R T U V M Lm B L R T U V1) (fun H locs hP hD hS => ?_)
  refine lv_aload_n hx hb dL_law_1086 rfl (lv_at hl 2 rfl) ?_
  refine lv_aload_n hx hb dL_law_1087 rfl (lv_at hl 0 rfl) ?_
  refine lv_iload_n hx hb dL_law_1088 rfl (lv_at hl 3 rfl) ?_
  refine lv_iconst (v := (1 : Int32)) hx hb dL_law_1089 (by decide) ?_
  refine lv_iadd hx hb dL_law_1090 ?_
  refine va_sld hx hb hX hbl hbA hS (ixk i 1 (by omega) hN) dL_law_1091 ?_
  refine lv_aload_n hx hb dL_law_1092 rfl (lv_at hl 0 rfl) ?_
  refine lv_iload_n hx hb dL_law_1093 rfl (lv_at hl 3 rfl) ?_
  refine lv_iconst (v := (2 : Int32)) hx hb dL_law_1094 (by decide) ?_
  refine lv_iadd hx hb dL_law_1095 ?_
  refine va_sld hx hb hX hbl hbA hS (ixk i 2 (by omega) hN) dL_law_1096 ?_
  refine go_i (run_V (b := (a2 0)) (As := [.int (xs (Int32.toNatClampNeg (nI i + (1 : Int32)))), .int (xs (Int32.toNatClampNeg (nI i + (2 : Int32))))]) (rest := [.int r]) ⟨hx, hb, hml, hown, hts⟩ hnw hK hP hD (fr_L_M a a2 k k2 B L R T U V1 M Lm M1 Lm) (ks_L_M k k2) (c_X5_work l D a2 k2 H.size M Lm (xs (Int32.toNatClampNeg (nI i + (1 : Int32)))) (xs (Int32.toNatClampNeg (nI i + (2 : Int32)))) r M1 q2) (cwV 2 hts (gl_in gL_law_X5_work) rfl rfl rfl (by decide +kernel) ⟨Nat.le_of_ble_eq_true rfl, Nat.le_of_ble_eq_true rfl⟩) (rcv_M a2 k2 M Lm) rfl hl.1 rfl (Nat.le_of_ble_eq_true rfl) dL_law_1097 hf) hP hD hS hA (fr_L_M a a2 k k2 B L R T U V1 M Lm M1 Lm) (fun H locs hP hD hS => ?_)
  refine lv_icmp_eq (tgt := 1238) hx hb dL_law_1100 (by decide) (fun _ => ?_) (fun c9 => absurd rfl c9)
  exact KK B L R T U V1 M1 Lm hR1 H locs hP hD hS ls hl
set_option maxHeartbeats 4000000 in
set_option maxRecDepth 100000 in
theorem law_best (E_m : EQ_best) {p : Program} {l : Launch} {e : Env} {s : State} {m : MethodId} {below : List Frame} {meth : Method} {c : Code} {D : va_G} {b N cells slots : Nat} {xs : Nat → Int32} {a a2 : Nat → Nat} {k k2 : Nat → ClassId} {Q : State → Prop} (C0 : lw_At p s m meth c b N xs) (hnw : nw s) (hK : va_K D vwCl (tL k k2) s) (hf : cells ≤ room_1.cells ∧ slots ≤ room_1.slots) {cn : Nat} {B : RG} {L : Int64} {R T U V M : RG} {Lm : Int64} (hc : cn < 512) (hR : Rel cn B L R T U V M Lm) (i : Nat) (hi : i + 6 ≤ N) (hN : N ≤ 3072)
    (KK : ∀ (B : RG) (L : Int64) (R T U V M : RG) (Lm : Int64), Rel (cn + 1) B L R T U V M Lm → ∀ (H : Heap) (locs : List Loc), va_P D vwCl (xL a a2 k k2 B L R T U V M Lm) H → va_D (fun q : Nat => s.heap.size ≤ q) (xL a a2 k k2 B L R T U V M Lm) → va_S (fun q : Nat => s.heap.size ≤ q) s.heap H locs → ∀ ls : Array Slot, lv_has ls 4 [(0, .ref b), (1, .ref (a 26)), (2, .ref (a2 0)), (3, .int (nI i))] → W p l e room_1 s m #[Value.ref b] below meth c H locs cells slots Q (F0 m 1238 ls []))
    (H : Heap) (locs : List Loc) (hP : va_P D vwCl (xL a a2 k k2 B L R T U V M Lm) H) (hD : va_D (fun q : Nat => s.heap.size ≤ q) (xL a a2 k k2 B L R T U V M Lm)) (hS : va_S (fun q : Nat => s.heap.size ≤ q) s.heap H locs) (ls : Array Slot) (hl : lv_has ls 4 [(0, .ref b), (1, .ref (a 26)), (2, .ref (a2 0)), (3, .int (nI i))]) : W p l e room_1 s m #[Value.ref b] below meth c H locs cells slots Q (F0 m 1105 ls []) := by
  obtain ⟨hx, hb, hr, hml, hown, hts, hX, hbl, hlocks, hgv⟩ := C0
  have hA : ∀ q : Nat, s.heap.size ≤ q → (fun q : Nat => s.heap.size ≤ q) q := fun _ h => h
  have hbA : ¬ (fun q : Nat => s.heap.size ≤ q) b := Nat.not_le.mpr hbl
  refine lv_aload_n hx hb dL_law_1105 rfl (lv_at hl 1 rfl) ?_
  refine lv_aload_n hx hb dL_law_1106 rfl (lv_at hl 0 rfl) ?_
  refine lv_iload_n hx hb dL_law_1107 rfl (lv_at hl 3 rfl) ?_
  refine lv_iconst (v := (1 : Int32)) hx hb dL_law_1108 (by decide) ?_
  refine lv_iadd hx hb dL_law_1109 ?_
  refine va_sld hx hb hX hbl hbA hS (ixk i 1 (by omega) hN) dL_law_1110 ?_
  obtain ⟨r, L1, Lm1, q1, q2, hR1⟩   := E_m hc hR (xs (Int32.toNatClampNeg (nI i + (1 : Int32))))
  refine go_i (run_V (b := (a 26)) (As := [.int (xs (Int32.toNatClampNeg (nI i + (1 : Int32))))]) (rest := []) ⟨hx, hb, hml, hown, hts⟩ hnw hK hP hD (fr_L_X a a2 k k2 B L R T U V M Lm B L1 R T U V) (ks_L_X k k2) (c_X4_best l D a k H.size B L R T U V (xs (Int32.toNatClampNeg (nI i + (1 : Int32)))) r L1 q1) (cwV 1 hts (gl_in gL_law_X4_best) rfl rfl rfl (by decide +kernel) ⟨Nat.le_of_ble_eq_true rfl, Nat.le_of_ble_eq_true rfl⟩) (rcv_X a k B L R T U V) rfl hl.1 rfl (Nat.le_of_ble_eq_true rfl) dL_law_1111 hf) hP hD hS hA (fr_L_X a a2 k k2 B L R T U V M Lm B L1 R T U V) (fun H locs hP hD hS => ?_)
  refine lv_aload_n hx hb dL_law_1114 rfl (lv_at hl 2 rfl) ?_
  refine lv_aload_n hx hb dL_law_1115 rfl (lv_at hl 0 rfl) ?_
  refine lv_iload_n hx hb dL_law_1116 rfl (lv_at hl 3 rfl) ?_
  refine lv_iconst (v := (1 : Int32)) hx hb dL_law_1117 (by decide) ?_
  refine lv_iadd hx hb dL_law_1118 ?_
  refine va_sld hx hb hX hbl hbA hS (ixk i 1 (by omega) hN) dL_law_1119 ?_
  refine go_i (run_V (b := (a2 0)) (As := [.int (xs (Int32.toNatClampNeg (nI i + (1 : Int32))))]) (rest := [.int r]) ⟨hx, hb, hml, hown, hts⟩ hnw hK hP hD (fr_L_M a a2 k k2 B L1 R T U V M Lm M Lm1) (ks_L_M k k2) (c_X5_best l D a2 k2 H.size M Lm (xs (Int32.toNatClampNeg (nI i + (1 : Int32)))) r Lm1 q2) (cwV 1 hts (gl_in gL_law_X5_best) rfl rfl rfl (by decide +kernel) ⟨Nat.le_of_ble_eq_true rfl, Nat.le_of_ble_eq_true rfl⟩) (rcv_M a2 k2 M Lm) rfl hl.1 rfl (Nat.le_of_ble_eq_true rfl) dL_law_1120 hf) hP hD hS hA (fr_L_M a a2 k k2 B L1 R T U V M Lm M Lm1) (fun H locs hP hD hS => ?_)
  refine lv_icmp_eq (tgt := 1238) hx hb dL_law_1123 (by decide) (fun _ => ?_) (fun c9 => absurd rfl c9)
  exact KK B L1 R T U V M Lm1 hR1 H locs hP hD hS ls hl
set_option maxHeartbeats 4000000 in
set_option maxRecDepth 100000 in
theorem law_first (E_m : EQ_first) {p : Program} {l : Launch} {e : Env} {s : State} {m : MethodId} {below : List Frame} {meth : Method} {c : Code} {D : va_G} {b N cells slots : Nat} {xs : Nat → Int32} {a a2 : Nat → Nat} {k k2 : Nat → ClassId} {Q : State → Prop} (C0 : lw_At p s m meth c b N xs) (hnw : nw s) (hK : va_K D vwCl (tL k k2) s) (hf : cells ≤ room_1.cells ∧ slots ≤ room_1.slots) {cn : Nat} {B : RG} {L : Int64} {R T U V M : RG} {Lm : Int64} (hc : cn < 512) (hR : Rel cn B L R T U V M Lm) (i : Nat) (hi : i + 6 ≤ N) (hN : N ≤ 3072)
    (KK : ∀ (B : RG) (L : Int64) (R T U V M : RG) (Lm : Int64), Rel (cn + 1) B L R T U V M Lm → ∀ (H : Heap) (locs : List Loc), va_P D vwCl (xL a a2 k k2 B L R T U V M Lm) H → va_D (fun q : Nat => s.heap.size ≤ q) (xL a a2 k k2 B L R T U V M Lm) → va_S (fun q : Nat => s.heap.size ≤ q) s.heap H locs → ∀ ls : Array Slot, lv_has ls 4 [(0, .ref b), (1, .ref (a 26)), (2, .ref (a2 0)), (3, .int (nI i))] → W p l e room_1 s m #[Value.ref b] below meth c H locs cells slots Q (F0 m 1238 ls []))
    (H : Heap) (locs : List Loc) (hP : va_P D vwCl (xL a a2 k k2 B L R T U V M Lm) H) (hD : va_D (fun q : Nat => s.heap.size ≤ q) (xL a a2 k k2 B L R T U V M Lm)) (hS : va_S (fun q : Nat => s.heap.size ≤ q) s.heap H locs) (ls : Array Slot) (hl : lv_has ls 4 [(0, .ref b), (1, .ref (a 26)), (2, .ref (a2 0)), (3, .int (nI i))]) : W p l e room_1 s m #[Value.ref b] below meth c H locs cells slots Q (F0 m 1128 ls []) := by
  obtain ⟨hx, hb, hr, hml, hown, hts, hX, hbl, hlocks, hgv⟩ := C0
  have hA : ∀ q : Nat, s.heap.size ≤ q → (fun q : Nat => s.heap.size ≤ q) q := fun _ h => h
  have hbA : ¬ (fun q : Nat => s.heap.size ≤ q) b := Nat.not_le.mpr hbl
  refine lv_aload_n hx hb dL_law_1128 rfl (lv_at hl 1 rfl) ?_
  refine lv_aload_n hx hb dL_law_1129 rfl (lv_at hl 0 rfl) ?_
  refine lv_iload_n hx hb dL_law_1130 rfl (lv_at hl 3 rfl) ?_
  refine lv_iconst (v := (1 : Int32)) hx hb dL_law_1131 (by decide) ?_
  refine lv_iadd hx hb dL_law_1132 ?_
  refine va_sld hx hb hX hbl hbA hS (ixk i 1 (by omega) hN) dL_law_1133 ?_
  obtain ⟨r, L1, Lm1, q1, q2, hR1⟩   := E_m hc hR (xs (Int32.toNatClampNeg (nI i + (1 : Int32))))
  refine go_i (run_V (b := (a 26)) (As := [.int (xs (Int32.toNatClampNeg (nI i + (1 : Int32))))]) (rest := []) ⟨hx, hb, hml, hown, hts⟩ hnw hK hP hD (fr_L_X a a2 k k2 B L R T U V M Lm B L1 R T U V) (ks_L_X k k2) (c_X4_first l D a k H.size B L R T U V (xs (Int32.toNatClampNeg (nI i + (1 : Int32)))) r L1 q1) (cwV 1 hts (gl_in gL_law_X4_first) rfl rfl rfl (by decide +kernel) ⟨Nat.le_of_ble_eq_true rfl, Nat.le_of_ble_eq_true rfl⟩) (rcv_X a k B L R T U V) rfl hl.1 rfl (Nat.le_of_ble_eq_true rfl) dL_law_1134 hf) hP hD hS hA (fr_L_X a a2 k k2 B L R T U V M Lm B L1 R T U V) (fun H locs hP hD hS => ?_)
  refine lv_aload_n hx hb dL_law_1137 rfl (lv_at hl 2 rfl) ?_
  refine lv_aload_n hx hb dL_law_1138 rfl (lv_at hl 0 rfl) ?_
  refine lv_iload_n hx hb dL_law_1139 rfl (lv_at hl 3 rfl) ?_
  refine lv_iconst (v := (1 : Int32)) hx hb dL_law_1140 (by decide) ?_
  refine lv_iadd hx hb dL_law_1141 ?_
  refine va_sld hx hb hX hbl hbA hS (ixk i 1 (by omega) hN) dL_law_1142 ?_
  refine go_i (run_V (b := (a2 0)) (As := [.int (xs (Int32.toNatClampNeg (nI i + (1 : Int32))))]) (rest := [.int r]) ⟨hx, hb, hml, hown, hts⟩ hnw hK hP hD (fr_L_M a a2 k k2 B L1 R T U V M Lm M Lm1) (ks_L_M k k2) (c_X5_first l D a2 k2 H.size M Lm (xs (Int32.toNatClampNeg (nI i + (1 : Int32)))) r Lm1 q2) (cwV 1 hts (gl_in gL_law_X5_first) rfl rfl rfl (by decide +kernel) ⟨Nat.le_of_ble_eq_true rfl, Nat.le_of_ble_eq_true rfl⟩) (rcv_M a2 k2 M Lm) rfl hl.1 rfl (Nat.le_of_ble_eq_true rfl) dL_law_1143 hf) hP hD hS hA (fr_L_M a a2 k k2 B L1 R T U V M Lm M Lm1) (fun H locs hP hD hS => ?_)
  refine lv_icmp_eq (tgt := 1238) hx hb dL_law_1146 (by decide) (fun _ => ?_) (fun c9 => absurd rfl c9)
  exact KK B L1 R T U V M Lm1 hR1 H locs hP hD hS ls hl
set_option maxHeartbeats 4000000 in
set_option maxRecDepth 100000 in
theorem law_asked (E_m : EQ_asked) {p : Program} {l : Launch} {e : Env} {s : State} {m : MethodId} {below : List Frame} {meth : Method} {c : Code} {D : va_G} {b N cells slots : Nat} {xs : Nat → Int32} {a a2 : Nat → Nat} {k k2 : Nat → ClassId} {Q : State → Prop} (C0 : lw_At p s m meth c b N xs) (hnw : nw s) (hK : va_K D vwCl (tL k k2) s) (hf : cells ≤ room_1.cells ∧ slots ≤ room_1.slots) {cn : Nat} {B : RG} {L : Int64} {R T U V M : RG} {Lm : Int64} (hc : cn < 512) (hR : Rel cn B L R T U V M Lm) (i : Nat) (hi : i + 6 ≤ N) (hN : N ≤ 3072)
    (KK : ∀ (B : RG) (L : Int64) (R T U V M : RG) (Lm : Int64), Rel (cn + 1) B L R T U V M Lm → ∀ (H : Heap) (locs : List Loc), va_P D vwCl (xL a a2 k k2 B L R T U V M Lm) H → va_D (fun q : Nat => s.heap.size ≤ q) (xL a a2 k k2 B L R T U V M Lm) → va_S (fun q : Nat => s.heap.size ≤ q) s.heap H locs → ∀ ls : Array Slot, lv_has ls 4 [(0, .ref b), (1, .ref (a 26)), (2, .ref (a2 0)), (3, .int (nI i))] → W p l e room_1 s m #[Value.ref b] below meth c H locs cells slots Q (F0 m 1238 ls []))
    (H : Heap) (locs : List Loc) (hP : va_P D vwCl (xL a a2 k k2 B L R T U V M Lm) H) (hD : va_D (fun q : Nat => s.heap.size ≤ q) (xL a a2 k k2 B L R T U V M Lm)) (hS : va_S (fun q : Nat => s.heap.size ≤ q) s.heap H locs) (ls : Array Slot) (hl : lv_has ls 4 [(0, .ref b), (1, .ref (a 26)), (2, .ref (a2 0)), (3, .int (nI i))]) : W p l e room_1 s m #[Value.ref b] below meth c H locs cells slots Q (F0 m 1151 ls []) := by
  obtain ⟨hx, hb, hr, hml, hown, hts, hX, hbl, hlocks, hgv⟩ := C0
  have hA : ∀ q : Nat, s.heap.size ≤ q → (fun q : Nat => s.heap.size ≤ q) q := fun _ h => h
  have hbA : ¬ (fun q : Nat => s.heap.size ≤ q) b := Nat.not_le.mpr hbl
  refine lv_aload_n hx hb dL_law_1151 rfl (lv_at hl 1 rfl) ?_
  obtain ⟨r, q1, q2, hR1⟩   := E_m hc hR
  refine go_l (run_V (b := (a 26)) (As := []) (rest := []) ⟨hx, hb, hml, hown, hts⟩ hnw hK hP hD (fr_L_X a a2 k k2 B L R T U V M Lm B L R T U V) (ks_L_X k k2) (c_X4_asked l D a k H.size B L R T U V  r  q1) (cwV 0 hts (gl_in gL_law_X4_asked) rfl rfl rfl (by decide +kernel) ⟨Nat.le_of_ble_eq_true rfl, Nat.le_of_ble_eq_true rfl⟩) (rcv_X a k B L R T U V) rfl hl.1 rfl (Nat.le_of_ble_eq_true rfl) dL_law_1152 hf) hP hD hS hA (fr_L_X a a2 k k2 B L R T U V M Lm B L R T U V) (fun H locs hP hD hS => ?_)
  refine lv_aload_n hx hb dL_law_1155 rfl (lv_at hl 2 rfl) ?_
  refine go_l (run_V (b := (a2 0)) (As := []) (rest := [.long r]) ⟨hx, hb, hml, hown, hts⟩ hnw hK hP hD (fr_L_M a a2 k k2 B L R T U V M Lm M Lm) (ks_L_M k k2) (c_X5_asked l D a2 k2 H.size M Lm  r  q2) (cwV 0 hts (gl_in gL_law_X5_asked) rfl rfl rfl (by decide +kernel) ⟨Nat.le_of_ble_eq_true rfl, Nat.le_of_ble_eq_true rfl⟩) (rcv_M a2 k2 M Lm) rfl hl.1 rfl (Nat.le_of_ble_eq_true rfl) dL_law_1156 hf) hP hD hS hA (fr_L_M a a2 k k2 B L R T U V M Lm M Lm) (fun H locs hP hD hS => ?_)
  refine W.lcmp hx hb dL_law_1159 ?_
  refine lv_if_eq (tgt := 1238) hx hb dL_law_1160 (by decide) (fun _ => ?_) (fun c9 => absurd (lgc_self r) c9)
  exact KK B L R T U V M Lm hR1 H locs hP hD hS ls hl
set_option maxHeartbeats 4000000 in
set_option maxRecDepth 100000 in
theorem law_count (E_m : EQ_count) {p : Program} {l : Launch} {e : Env} {s : State} {m : MethodId} {below : List Frame} {meth : Method} {c : Code} {D : va_G} {b N cells slots : Nat} {xs : Nat → Int32} {a a2 : Nat → Nat} {k k2 : Nat → ClassId} {Q : State → Prop} (C0 : lw_At p s m meth c b N xs) (hnw : nw s) (hK : va_K D vwCl (tL k k2) s) (hf : cells ≤ room_1.cells ∧ slots ≤ room_1.slots) {cn : Nat} {B : RG} {L : Int64} {R T U V M : RG} {Lm : Int64} (hc : cn < 512) (hR : Rel cn B L R T U V M Lm) (i : Nat) (hi : i + 6 ≤ N) (hN : N ≤ 3072)
    (KK : ∀ (B : RG) (L : Int64) (R T U V M : RG) (Lm : Int64), Rel (cn + 1) B L R T U V M Lm → ∀ (H : Heap) (locs : List Loc), va_P D vwCl (xL a a2 k k2 B L R T U V M Lm) H → va_D (fun q : Nat => s.heap.size ≤ q) (xL a a2 k k2 B L R T U V M Lm) → va_S (fun q : Nat => s.heap.size ≤ q) s.heap H locs → ∀ ls : Array Slot, lv_has ls 4 [(0, .ref b), (1, .ref (a 26)), (2, .ref (a2 0)), (3, .int (nI i))] → W p l e room_1 s m #[Value.ref b] below meth c H locs cells slots Q (F0 m 1238 ls []))
    (H : Heap) (locs : List Loc) (hP : va_P D vwCl (xL a a2 k k2 B L R T U V M Lm) H) (hD : va_D (fun q : Nat => s.heap.size ≤ q) (xL a a2 k k2 B L R T U V M Lm)) (hS : va_S (fun q : Nat => s.heap.size ≤ q) s.heap H locs) (ls : Array Slot) (hl : lv_has ls 4 [(0, .ref b), (1, .ref (a 26)), (2, .ref (a2 0)), (3, .int (nI i))]) : W p l e room_1 s m #[Value.ref b] below meth c H locs cells slots Q (F0 m 1165 ls []) := by
  obtain ⟨hx, hb, hr, hml, hown, hts, hX, hbl, hlocks, hgv⟩ := C0
  have hA : ∀ q : Nat, s.heap.size ≤ q → (fun q : Nat => s.heap.size ≤ q) q := fun _ h => h
  have hbA : ¬ (fun q : Nat => s.heap.size ≤ q) b := Nat.not_le.mpr hbl
  refine lv_aload_n hx hb dL_law_1165 rfl (lv_at hl 1 rfl) ?_
  refine lv_aload_n hx hb dL_law_1166 rfl (lv_at hl 0 rfl) ?_
  refine lv_iload_n hx hb dL_law_1167 rfl (lv_at hl 3 rfl) ?_
  refine lv_iconst (v := (1 : Int32)) hx hb dL_law_1168 (by decide) ?_
  refine lv_iadd hx hb dL_law_1169 ?_
  refine va_sld hx hb hX hbl hbA hS (ixk i 1 (by omega) hN) dL_law_1170 ?_
  obtain ⟨r, q1, q2, hR1⟩   := E_m hc hR (xs (Int32.toNatClampNeg (nI i + (1 : Int32))))
  refine go_i (run_V (b := (a 26)) (As := [.int (xs (Int32.toNatClampNeg (nI i + (1 : Int32))))]) (rest := []) ⟨hx, hb, hml, hown, hts⟩ hnw hK hP hD (fr_L_X a a2 k k2 B L R T U V M Lm B L R T U V) (ks_L_X k k2) (c_X4_count l D a k H.size B L R T U V (xs (Int32.toNatClampNeg (nI i + (1 : Int32)))) r  q1) (cwV 1 hts (gl_in gL_law_X4_count) rfl rfl rfl (by decide +kernel) ⟨Nat.le_of_ble_eq_true rfl, Nat.le_of_ble_eq_true rfl⟩) (rcv_X a k B L R T U V) rfl hl.1 rfl (Nat.le_of_ble_eq_true rfl) dL_law_1171 hf) hP hD hS hA (fr_L_X a a2 k k2 B L R T U V M Lm B L R T U V) (fun H locs hP hD hS => ?_)
  refine lv_aload_n hx hb dL_law_1174 rfl (lv_at hl 2 rfl) ?_
  refine lv_aload_n hx hb dL_law_1175 rfl (lv_at hl 0 rfl) ?_
  refine lv_iload_n hx hb dL_law_1176 rfl (lv_at hl 3 rfl) ?_
  refine lv_iconst (v := (1 : Int32)) hx hb dL_law_1177 (by decide) ?_
  refine lv_iadd hx hb dL_law_1178 ?_
  refine va_sld hx hb hX hbl hbA hS (ixk i 1 (by omega) hN) dL_law_1179 ?_
  refine go_i (run_V (b := (a2 0)) (As := [.int (xs (Int32.toNatClampNeg (nI i + (1 : Int32))))]) (rest := [.int r]) ⟨hx, hb, hml, hown, hts⟩ hnw hK hP hD (fr_L_M a a2 k k2 B L R T U V M Lm M Lm) (ks_L_M k k2) (c_X5_count l D a2 k2 H.size M Lm (xs (Int32.toNatClampNeg (nI i + (1 : Int32)))) r  q2) (cwV 1 hts (gl_in gL_law_X5_count) rfl rfl rfl (by decide +kernel) ⟨Nat.le_of_ble_eq_true rfl, Nat.le_of_ble_eq_true rfl⟩) (rcv_M a2 k2 M Lm) rfl hl.1 rfl (Nat.le_of_ble_eq_true rfl) dL_law_1180 hf) hP hD hS hA (fr_L_M a a2 k k2 B L R T U V M Lm M Lm) (fun H locs hP hD hS => ?_)
  refine lv_icmp_eq (tgt := 1238) hx hb dL_law_1183 (by decide) (fun _ => ?_) (fun c9 => absurd rfl c9)
  exact KK B L R T U V M Lm hR1 H locs hP hD hS ls hl
set_option maxHeartbeats 4000000 in
set_option maxRecDepth 100000 in
theorem law_finding (E_m : EQ_finding) {p : Program} {l : Launch} {e : Env} {s : State} {m : MethodId} {below : List Frame} {meth : Method} {c : Code} {D : va_G} {b N cells slots : Nat} {xs : Nat → Int32} {a a2 : Nat → Nat} {k k2 : Nat → ClassId} {Q : State → Prop} (C0 : lw_At p s m meth c b N xs) (hnw : nw s) (hK : va_K D vwCl (tL k k2) s) (hf : cells ≤ room_1.cells ∧ slots ≤ room_1.slots) {cn : Nat} {B : RG} {L : Int64} {R T U V M : RG} {Lm : Int64} (hc : cn < 512) (hR : Rel cn B L R T U V M Lm) (i : Nat) (hi : i + 6 ≤ N) (hN : N ≤ 3072)
    (KK : ∀ (B : RG) (L : Int64) (R T U V M : RG) (Lm : Int64), Rel (cn + 1) B L R T U V M Lm → ∀ (H : Heap) (locs : List Loc), va_P D vwCl (xL a a2 k k2 B L R T U V M Lm) H → va_D (fun q : Nat => s.heap.size ≤ q) (xL a a2 k k2 B L R T U V M Lm) → va_S (fun q : Nat => s.heap.size ≤ q) s.heap H locs → ∀ ls : Array Slot, lv_has ls 4 [(0, .ref b), (1, .ref (a 26)), (2, .ref (a2 0)), (3, .int (nI i))] → W p l e room_1 s m #[Value.ref b] below meth c H locs cells slots Q (F0 m 1238 ls []))
    (H : Heap) (locs : List Loc) (hP : va_P D vwCl (xL a a2 k k2 B L R T U V M Lm) H) (hD : va_D (fun q : Nat => s.heap.size ≤ q) (xL a a2 k k2 B L R T U V M Lm)) (hS : va_S (fun q : Nat => s.heap.size ≤ q) s.heap H locs) (ls : Array Slot) (hl : lv_has ls 4 [(0, .ref b), (1, .ref (a 26)), (2, .ref (a2 0)), (3, .int (nI i))]) : W p l e room_1 s m #[Value.ref b] below meth c H locs cells slots Q (F0 m 1188 ls []) := by
  obtain ⟨hx, hb, hr, hml, hown, hts, hX, hbl, hlocks, hgv⟩ := C0
  have hA : ∀ q : Nat, s.heap.size ≤ q → (fun q : Nat => s.heap.size ≤ q) q := fun _ h => h
  have hbA : ¬ (fun q : Nat => s.heap.size ≤ q) b := Nat.not_le.mpr hbl
  refine lv_aload_n hx hb dL_law_1188 rfl (lv_at hl 1 rfl) ?_
  obtain ⟨r, q1, q2, hR1⟩   := E_m hc hR
  refine go_i (run_V (b := (a 26)) (As := []) (rest := []) ⟨hx, hb, hml, hown, hts⟩ hnw hK hP hD (fr_L_X a a2 k k2 B L R T U V M Lm B L R T U V) (ks_L_X k k2) (c_X4_finding l D a k H.size B L R T U V  r  q1) (cwV 0 hts (gl_in gL_law_X4_finding) rfl rfl rfl (by decide +kernel) ⟨Nat.le_of_ble_eq_true rfl, Nat.le_of_ble_eq_true rfl⟩) (rcv_X a k B L R T U V) rfl hl.1 rfl (Nat.le_of_ble_eq_true rfl) dL_law_1189 hf) hP hD hS hA (fr_L_X a a2 k k2 B L R T U V M Lm B L R T U V) (fun H locs hP hD hS => ?_)
  refine lv_aload_n hx hb dL_law_1192 rfl (lv_at hl 2 rfl) ?_
  refine go_i (run_V (b := (a2 0)) (As := []) (rest := [.int r]) ⟨hx, hb, hml, hown, hts⟩ hnw hK hP hD (fr_L_M a a2 k k2 B L R T U V M Lm M Lm) (ks_L_M k k2) (c_X5_finding l D a2 k2 H.size M Lm  r  q2) (cwV 0 hts (gl_in gL_law_X5_finding) rfl rfl rfl (by decide +kernel) ⟨Nat.le_of_ble_eq_true rfl, Nat.le_of_ble_eq_true rfl⟩) (rcv_M a2 k2 M Lm) rfl hl.1 rfl (Nat.le_of_ble_eq_true rfl) dL_law_1193 hf) hP hD hS hA (fr_L_M a a2 k k2 B L R T U V M Lm M Lm) (fun H locs hP hD hS => ?_)
  refine lv_icmp_eq (tgt := 1238) hx hb dL_law_1196 (by decide) (fun _ => ?_) (fun c9 => absurd rfl c9)
  exact KK B L R T U V M Lm hR1 H locs hP hD hS ls hl
set_option maxHeartbeats 4000000 in
set_option maxRecDepth 100000 in
theorem law_findings (E_m : EQ_findings) {p : Program} {l : Launch} {e : Env} {s : State} {m : MethodId} {below : List Frame} {meth : Method} {c : Code} {D : va_G} {b N cells slots : Nat} {xs : Nat → Int32} {a a2 : Nat → Nat} {k k2 : Nat → ClassId} {Q : State → Prop} (C0 : lw_At p s m meth c b N xs) (hnw : nw s) (hK : va_K D vwCl (tL k k2) s) (hf : cells ≤ room_1.cells ∧ slots ≤ room_1.slots) {cn : Nat} {B : RG} {L : Int64} {R T U V M : RG} {Lm : Int64} (hc : cn < 512) (hR : Rel cn B L R T U V M Lm) (i : Nat) (hi : i + 6 ≤ N) (hN : N ≤ 3072)
    (KK : ∀ (B : RG) (L : Int64) (R T U V M : RG) (Lm : Int64), Rel (cn + 1) B L R T U V M Lm → ∀ (H : Heap) (locs : List Loc), va_P D vwCl (xL a a2 k k2 B L R T U V M Lm) H → va_D (fun q : Nat => s.heap.size ≤ q) (xL a a2 k k2 B L R T U V M Lm) → va_S (fun q : Nat => s.heap.size ≤ q) s.heap H locs → ∀ ls : Array Slot, lv_has ls 4 [(0, .ref b), (1, .ref (a 26)), (2, .ref (a2 0)), (3, .int (nI i))] → W p l e room_1 s m #[Value.ref b] below meth c H locs cells slots Q (F0 m 1238 ls []))
    (H : Heap) (locs : List Loc) (hP : va_P D vwCl (xL a a2 k k2 B L R T U V M Lm) H) (hD : va_D (fun q : Nat => s.heap.size ≤ q) (xL a a2 k k2 B L R T U V M Lm)) (hS : va_S (fun q : Nat => s.heap.size ≤ q) s.heap H locs) (ls : Array Slot) (hl : lv_has ls 4 [(0, .ref b), (1, .ref (a 26)), (2, .ref (a2 0)), (3, .int (nI i))]) : W p l e room_1 s m #[Value.ref b] below meth c H locs cells slots Q (F0 m 1201 ls []) := by
  obtain ⟨hx, hb, hr, hml, hown, hts, hX, hbl, hlocks, hgv⟩ := C0
  have hA : ∀ q : Nat, s.heap.size ≤ q → (fun q : Nat => s.heap.size ≤ q) q := fun _ h => h
  have hbA : ¬ (fun q : Nat => s.heap.size ≤ q) b := Nat.not_le.mpr hbl
  refine lv_aload_n hx hb dL_law_1201 rfl (lv_at hl 1 rfl) ?_
  refine lv_aload_n hx hb dL_law_1202 rfl (lv_at hl 0 rfl) ?_
  refine lv_iload_n hx hb dL_law_1203 rfl (lv_at hl 3 rfl) ?_
  refine lv_iconst (v := (1 : Int32)) hx hb dL_law_1204 (by decide) ?_
  refine lv_iadd hx hb dL_law_1205 ?_
  refine va_sld hx hb hX hbl hbA hS (ixk i 1 (by omega) hN) dL_law_1206 ?_
  obtain ⟨r, q1, q2, hR1⟩   := E_m hc hR (xs (Int32.toNatClampNeg (nI i + (1 : Int32))))
  refine go_i (run_V (b := (a 26)) (As := [.int (xs (Int32.toNatClampNeg (nI i + (1 : Int32))))]) (rest := []) ⟨hx, hb, hml, hown, hts⟩ hnw hK hP hD (fr_L_X a a2 k k2 B L R T U V M Lm B L R T U V) (ks_L_X k k2) (c_X4_findings l D a k H.size B L R T U V (xs (Int32.toNatClampNeg (nI i + (1 : Int32)))) r  q1) (cwV 1 hts (gl_in gL_law_X4_findings) rfl rfl rfl (by decide +kernel) ⟨Nat.le_of_ble_eq_true rfl, Nat.le_of_ble_eq_true rfl⟩) (rcv_X a k B L R T U V) rfl hl.1 rfl (Nat.le_of_ble_eq_true rfl) dL_law_1207 hf) hP hD hS hA (fr_L_X a a2 k k2 B L R T U V M Lm B L R T U V) (fun H locs hP hD hS => ?_)
  refine lv_aload_n hx hb dL_law_1210 rfl (lv_at hl 2 rfl) ?_
  refine lv_aload_n hx hb dL_law_1211 rfl (lv_at hl 0 rfl) ?_
  refine lv_iload_n hx hb dL_law_1212 rfl (lv_at hl 3 rfl) ?_
  refine lv_iconst (v := (1 : Int32)) hx hb dL_law_1213 (by decide) ?_
  refine lv_iadd hx hb dL_law_1214 ?_
  refine va_sld hx hb hX hbl hbA hS (ixk i 1 (by omega) hN) dL_law_1215 ?_
  refine go_i (run_V (b := (a2 0)) (As := [.int (xs (Int32.toNatClampNeg (nI i + (1 : Int32))))]) (rest := [.int r]) ⟨hx, hb, hml, hown, hts⟩ hnw hK hP hD (fr_L_M a a2 k k2 B L R T U V M Lm M Lm) (ks_L_M k k2) (c_X5_findings l D a2 k2 H.size M Lm (xs (Int32.toNatClampNeg (nI i + (1 : Int32)))) r  q2) (cwV 1 hts (gl_in gL_law_X5_findings) rfl rfl rfl (by decide +kernel) ⟨Nat.le_of_ble_eq_true rfl, Nat.le_of_ble_eq_true rfl⟩) (rcv_M a2 k2 M Lm) rfl hl.1 rfl (Nat.le_of_ble_eq_true rfl) dL_law_1216 hf) hP hD hS hA (fr_L_M a a2 k k2 B L R T U V M Lm M Lm) (fun H locs hP hD hS => ?_)
  refine lv_icmp_eq (tgt := 1238) hx hb dL_law_1219 (by decide) (fun _ => ?_) (fun c9 => absurd rfl c9)
  exact KK B L R T U V M Lm hR1 H locs hP hD hS ls hl
set_option maxHeartbeats 4000000 in
set_option maxRecDepth 100000 in
theorem law_digest (E_m : EQ_digest) {p : Program} {l : Launch} {e : Env} {s : State} {m : MethodId} {below : List Frame} {meth : Method} {c : Code} {D : va_G} {b N cells slots : Nat} {xs : Nat → Int32} {a a2 : Nat → Nat} {k k2 : Nat → ClassId} {Q : State → Prop} (C0 : lw_At p s m meth c b N xs) (hnw : nw s) (hK : va_K D vwCl (tL k k2) s) (hf : cells ≤ room_1.cells ∧ slots ≤ room_1.slots) {cn : Nat} {B : RG} {L : Int64} {R T U V M : RG} {Lm : Int64} (hc : cn < 512) (hR : Rel cn B L R T U V M Lm) (i : Nat) (hi : i + 6 ≤ N) (hN : N ≤ 3072)
    (KK : ∀ (B : RG) (L : Int64) (R T U V M : RG) (Lm : Int64), Rel (cn + 1) B L R T U V M Lm → ∀ (H : Heap) (locs : List Loc), va_P D vwCl (xL a a2 k k2 B L R T U V M Lm) H → va_D (fun q : Nat => s.heap.size ≤ q) (xL a a2 k k2 B L R T U V M Lm) → va_S (fun q : Nat => s.heap.size ≤ q) s.heap H locs → ∀ ls : Array Slot, lv_has ls 4 [(0, .ref b), (1, .ref (a 26)), (2, .ref (a2 0)), (3, .int (nI i))] → W p l e room_1 s m #[Value.ref b] below meth c H locs cells slots Q (F0 m 1238 ls []))
    (H : Heap) (locs : List Loc) (hP : va_P D vwCl (xL a a2 k k2 B L R T U V M Lm) H) (hD : va_D (fun q : Nat => s.heap.size ≤ q) (xL a a2 k k2 B L R T U V M Lm)) (hS : va_S (fun q : Nat => s.heap.size ≤ q) s.heap H locs) (ls : Array Slot) (hl : lv_has ls 4 [(0, .ref b), (1, .ref (a 26)), (2, .ref (a2 0)), (3, .int (nI i))]) : W p l e room_1 s m #[Value.ref b] below meth c H locs cells slots Q (F0 m 1224 ls []) := by
  obtain ⟨hx, hb, hr, hml, hown, hts, hX, hbl, hlocks, hgv⟩ := C0
  have hA : ∀ q : Nat, s.heap.size ≤ q → (fun q : Nat => s.heap.size ≤ q) q := fun _ h => h
  have hbA : ¬ (fun q : Nat => s.heap.size ≤ q) b := Nat.not_le.mpr hbl
  refine lv_aload_n hx hb dL_law_1224 rfl (lv_at hl 1 rfl) ?_
  obtain ⟨r, q1, q2, hR1⟩   := E_m hc hR
  refine go_l (run_V (b := (a 26)) (As := []) (rest := []) ⟨hx, hb, hml, hown, hts⟩ hnw hK hP hD (fr_L_X a a2 k k2 B L R T U V M Lm B L R T U V) (ks_L_X k k2) (c_X4_digest l D a k H.size B L R T U V  r  q1) (cwV 0 hts (gl_in gL_law_X4_digest) rfl rfl rfl (by decide +kernel) ⟨Nat.le_of_ble_eq_true rfl, Nat.le_of_ble_eq_true rfl⟩) (rcv_X a k B L R T U V) rfl hl.1 rfl (Nat.le_of_ble_eq_true rfl) dL_law_1225 hf) hP hD hS hA (fr_L_X a a2 k k2 B L R T U V M Lm B L R T U V) (fun H locs hP hD hS => ?_)
  refine lv_aload_n hx hb dL_law_1228 rfl (lv_at hl 2 rfl) ?_
  refine go_l (run_V (b := (a2 0)) (As := []) (rest := [.long r]) ⟨hx, hb, hml, hown, hts⟩ hnw hK hP hD (fr_L_M a a2 k k2 B L R T U V M Lm M Lm) (ks_L_M k k2) (c_X5_digest l D a2 k2 H.size M Lm  r  q2) (cwV 0 hts (gl_in gL_law_X5_digest) rfl rfl rfl (by decide +kernel) ⟨Nat.le_of_ble_eq_true rfl, Nat.le_of_ble_eq_true rfl⟩) (rcv_M a2 k2 M Lm) rfl hl.1 rfl (Nat.le_of_ble_eq_true rfl) dL_law_1229 hf) hP hD hS hA (fr_L_M a a2 k k2 B L R T U V M Lm M Lm) (fun H locs hP hD hS => ?_)
  refine W.lcmp hx hb dL_law_1232 ?_
  refine lv_if_eq (tgt := 1238) hx hb dL_law_1233 (by decide) (fun _ => ?_) (fun c9 => absurd (lgc_self r) c9)
  exact KK B L R T U V M Lm hR1 H locs hP hD hS ls hl
