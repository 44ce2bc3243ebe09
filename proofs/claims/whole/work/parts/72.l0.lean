set_option maxHeartbeats 4000000 in
set_option maxRecDepth 100000 in
theorem law_line (E_m : EQ_line) {p : Program} {l : Launch} {e : Env} {s : State} {m : MethodId} {below : List Frame} {meth : Method} {c : Code} {D : va_G} {b N cells slots : Nat} {xs : Nat → Int32} {a a2 : Nat → Nat} {k k2 : Nat → ClassId} {Q : State → Prop} (C0 : lw_At p s m meth c b N xs) (hnw : nw s) (hK : va_K D vwCl (tL k k2) s) (hf : cells ≤ room_1.cells ∧ slots ≤ room_1.slots) {cn : Nat} {B : RG} {L : Int64} {R T U V M : RG} {Lm : Int64} (hc : cn < 512) (hR : Rel cn B L R T U V M Lm) (i : Nat) (hi : i + 6 ≤ N) (hN : N ≤ 3072)
    (KK : ∀ (B : RG) (L : Int64) (R T U V M : RG) (Lm : Int64), Rel (cn + 1) B L R T U V M Lm → ∀ (H : Heap) (locs : List Loc), va_P D vwCl (xL a a2 k k2 B L R T U V M Lm) H → va_D (fun q : Nat => s.heap.size ≤ q) (xL a a2 k k2 B L R T U V M Lm) → va_S (fun q : Nat => s.heap.size ≤ q) s.heap H locs → ∀ ls : Array Slot, lv_has ls 4 [(0, .ref b), (1, .ref (a 26)), (2, .ref (a2 0)), (3, .int (nI i))] → W p l e room_1 s m #[Value.ref b] below meth c H locs cells slots Q (F0 m 1238 ls []))
    (H : Heap) (locs : List Loc) (hP : va_P D vwCl (xL a a2 k k2 B L R T U V M Lm) H) (hD : va_D (fun q : Nat => s.heap.size ≤ q) (xL a a2 k k2 B L R T U V M Lm)) (hS : va_S (fun q : Nat => s.heap.size ≤ q) s.heap H locs) (ls : Array Slot) (hl : lv_has ls 4 [(0, .ref b), (1, .ref (a 26)), (2, .ref (a2 0)), (3, .int (nI i))]) : W p l e room_1 s m #[Value.ref b] below meth c H locs cells slots Q (F0 m 192 ls []) := by
  obtain ⟨hx, hb, hr, hml, hown, hts, hX, hbl, hlocks, hgv⟩ := C0
  have hA : ∀ q : Nat, s.heap.size ≤ q → (fun q : Nat => s.heap.size ≤ q) q := fun _ h => h
  have hbA : ¬ (fun q : Nat => s.heap.size ≤ q) b := Nat.not_le.mpr hbl
  refine lv_aload_n hx hb dL_law_192 rfl (lv_at hl 1 rfl) ?_
  refine lv_aload_n hx hb dL_law_193 rfl (lv_at hl 0 rfl) ?_
  refine lv_iload_n hx hb dL_law_194 rfl (lv_at hl 3 rfl) ?_
  refine lv_iconst (v := (1 : Int32)) hx hb dL_law_195 (by decide) ?_
  refine lv_iadd hx hb dL_law_196 ?_
  refine va_sld hx hb hX hbl hbA hS (ixk i 1 (by omega) hN) dL_law_197 ?_
  obtain ⟨r, T1, M1, q1, q2, hR1⟩   := E_m hc hR (xs (Int32.toNatClampNeg (nI i + (1 : Int32))))
  refine go_i (run_V (b := (a 26)) (As := [.int (xs (Int32.toNatClampNeg (nI i + (1 : Int32))))]) (rest := []) ⟨hx, hb, hml, hown, hts⟩ hnw hK hP hD (fr_L_X a a2 k k2 B L R T U V M Lm B L R T1 U V) (ks_L_X k k2) (c_X4_line l D a k H.size B L R T U V (xs (Int32.toNatClampNeg (nI i + (1 : Int32)))) r T1 q1) (cwV 1 hts (gl_in gL_law_X4_line) rfl rfl rfl (by decide +kernel) ⟨Nat.le_of_ble_eq_true rfl, Nat.le_of_ble_eq_true rfl⟩) (rcv_X a k B L R T U V) rfl hl.1 rfl (Nat.le_of_ble_eq_true rfl) dL_law_198 hf) hP hD hS hA (fr_L_X a a2 k k2 B L R T U V M Lm B L R T1 U V) (fun H locs hP hD hS => ?_)
  refine lv_aload_n hx hb dL_law_201 rfl (lv_at hl 2 rfl) ?_
  refine lv_aload_n hx hb dL_law_202 rfl (lv_at hl 0 rfl) ?_
  refine lv_iload_n hx hb dL_law_203 rfl (lv_at hl 3 rfl) ?_
  refine lv_iconst (v := (1 : Int32)) hx hb dL_law_204 (by decide) ?_
  refine lv_iadd hx hb dL_law_205 ?_
  refine va_sld hx hb hX hbl hbA hS (ixk i 1 (by omega) hN) dL_law_206 ?_
  refine go_i (run_V (b := (a2 0)) (As := [.int (xs (Int32.toNatClampNeg (nI i + (1 : Int32))))]) (rest := [.int r]) ⟨hx, hb, hml, hown, hts⟩ hnw hK hP hD (fr_L_M a a2 k k2 B L R T1 U V M Lm M1 Lm) (ks_L_M k k2) (c_X5_line l D a2 k2 H.size M Lm (xs (Int32.toNatClampNeg (nI i + (1 : Int32)))) r M1 q2) (cwV 1 hts (gl_in gL_law_X5_line) rfl rfl rfl (by decide +kernel) ⟨Nat.le_of_ble_eq_true rfl, Nat.le_of_ble_eq_true rfl⟩) (rcv_M a2 k2 M Lm) rfl hl.1 rfl (Nat.le_of_ble_eq_true rfl) dL_law_207 hf) hP hD hS hA (fr_L_M a a2 k k2 B L R T1 U V M Lm M1 Lm) (fun H locs hP hD hS => ?_)
  refine lv_icmp_eq (tgt := 1238) hx hb dL_law_210 (by decide) (fun _ => ?_) (fun c9 => absurd rfl c9)
  exact KK B L R T1 U V M1 Lm hR1 H locs hP hD hS ls hl
set_option maxHeartbeats 4000000 in
set_option maxRecDepth 100000 in
theorem law_sleeper (E_m : EQ_sleeper) {p : Program} {l : Launch} {e : Env} {s : State} {m : MethodId} {below : List Frame} {meth : Method} {c : Code} {D : va_G} {b N cells slots : Nat} {xs : Nat → Int32} {a a2 : Nat → Nat} {k k2 : Nat → ClassId} {Q : State → Prop} (C0 : lw_At p s m meth c b N xs) (hnw : nw s) (hK : va_K D vwCl (tL k k2) s) (hf : cells ≤ room_1.cells ∧ slots ≤ room_1.slots) {cn : Nat} {B : RG} {L : Int64} {R T U V M : RG} {Lm : Int64} (hc : cn < 512) (hR : Rel cn B L R T U V M Lm) (i : Nat) (hi : i + 6 ≤ N) (hN : N ≤ 3072)
    (KK : ∀ (B : RG) (L : Int64) (R T U V M : RG) (Lm : Int64), Rel (cn + 1) B L R T U V M Lm → ∀ (H : Heap) (locs : List Loc), va_P D vwCl (xL a a2 k k2 B L R T U V M Lm) H → va_D (fun q : Nat => s.heap.size ≤ q) (xL a a2 k k2 B L R T U V M Lm) → va_S (fun q : Nat => s.heap.size ≤ q) s.heap H locs → ∀ ls : Array Slot, lv_has ls 4 [(0, .ref b), (1, .ref (a 26)), (2, .ref (a2 0)), (3, .int (nI i))] → W p l e room_1 s m #[Value.ref b] below meth c H locs cells slots Q (F0 m 1238 ls []))
    (H : Heap) (locs : List Loc) (hP : va_P D vwCl (xL a a2 k k2 B L R T U V M Lm) H) (hD : va_D (fun q : Nat => s.heap.size ≤ q) (xL a a2 k k2 B L R T U V M Lm)) (hS : va_S (fun q : Nat => s.heap.size ≤ q) s.heap H locs) (ls : Array Slot) (hl : lv_has ls 4 [(0, .ref b), (1, .ref (a 26)), (2, .ref (a2 0)), (3, .int (nI i))]) : W p l e room_1 s m #[Value.ref b] below meth c H locs cells slots Q (F0 m 215 ls []) := by
  obtain ⟨hx, hb, hr, hml, hown, hts, hX, hbl, hlocks, hgv⟩ := C0
  have hA : ∀ q : Nat, s.heap.size ≤ q → (fun q : Nat => s.heap.size ≤ q) q := fun _ h => h
  have hbA : ¬ (fun q : Nat => s.heap.size ≤ q) b := Nat.not_le.mpr hbl
  refine lv_aload_n hx hb dL_law_215 rfl (lv_at hl 1 rfl) ?_
  refine lv_aload_n hx hb dL_law_216 rfl (lv_at hl 0 rfl) ?_
  refine lv_iload_n hx hb dL_law_217 rfl (lv_at hl 3 rfl) ?_
  refine lv_iconst (v := (1 : Int32)) hx hb dL_law_218 (by decide) ?_
  refine lv_iadd hx hb dL_law_219 ?_
  refine va_sld hx hb hX hbl hbA hS (ixk i 1 (by omega) hN) dL_law_220 ?_
  refine lv_aload_n hx hb dL_law_221 rfl (lv_at hl 0 rfl) ?_
  refine lv_iload_n hx hb dL_law_222 rfl (lv_at hl 3 rfl) ?_
  refine lv_iconst (v := (2 : Int32)) hx hb dL_law_223 (by decide) ?_
  refine lv_iadd hx hb dL_law_224 ?_
  refine va_sld hx hb hX hbl hbA hS (ixk i 2 (by omega) hN) dL_law_225 ?_
  obtain ⟨r, T1, M1, q1, q2, hR1⟩   := E_m hc hR (xs (Int32.toNatClampNeg (nI i + (1 : Int32)))) (xs (Int32.toNatClampNeg (nI i + (2 : Int32))))
  refine go_i (run_V (b := (a 26)) (As := [.int (xs (Int32.toNatClampNeg (nI i + (1 : Int32)))), .int (xs (Int32.toNatClampNeg (nI i + (2 : Int32))))]) (rest := []) ⟨hx, hb, hml, hown, hts⟩ hnw hK hP hD (fr_L_X a a2 k k2 B L R T U V M Lm B L R T1 U V) (ks_L_X k k2) (c_X4_sleeper l D a k H.size B L R T U V (xs (Int32.toNatClampNeg (nI i + (1 : Int32)))) (xs (Int32.toNatClampNeg (nI i + (2 : Int32)))) r T1 q1) (cwV 2 hts (gl_in gL_law_X4_sleeper) rfl rfl rfl (by decide +kernel) ⟨Nat.le_of_ble_eq_true rfl, Nat.le_of_ble_eq_true rfl⟩) (rcv_X a k B L R T U V) rfl hl.1 rfl (Nat.le_of_ble_eq_true rfl) dL_law_226 hf) hP hD hS hA (fr_L_X a a2 k k2 B L R T U V M Lm B L R T1 U V) (fun H locs hP hD hS => ?_)
  refine lv_aload_n hx hb dL_law_229 rfl (lv_at hl 2 rfl) ?_
  refine lv_aload_n hx hb dL_law_230 rfl (lv_at hl 0 rfl) ?_
  refine lv_iload_n hx hb dL_law_231 rfl (lv_at hl 3 rfl) ?_
  refine lv_iconst (v := (1 : Int32)) hx hb dL_law_232 (by decide) ?_
  refine lv_iadd hx hb dL_law_233 ?_
  refine va_sld hx hb hX hbl hbA hS (ixk i 1 (by omega) hN) dL_law_234 ?_
  refine lv_aload_n hx hb dL_law_235 rfl (lv_at hl 0 rfl) ?_
  refine lv_iload_n hx hb dL_law_236 rfl (lv_at hl 3 rfl) ?_
  refine lv_iconst (v := (2 : Int32)) hx hb dL_law_237 (by decide) ?_
  refine lv_iadd hx hb dL_law_238 ?_
  refine va_sld hx hb hX hbl hbA hS (ixk i 2 (by omega) hN) dL_law_239 ?_
  refine go_i (run_V (b := (a2 0)) (As := [.int (xs (Int32.toNatClampNeg (nI i + (1 : Int32)))), .int (xs (Int32.toNatClampNeg (nI i + (2 : Int32))))]) (rest := [.int r]) ⟨hx, hb, hml, hown, hts⟩ hnw hK hP hD (fr_L_M a a2 k k2 B L R T1 U V M Lm M1 Lm) (ks_L_M k k2) (c_X5_sleeper l D a2 k2 H.size M Lm (xs (Int32.toNatClampNeg (nI i + (1 : Int32)))) (xs (Int32.toNatClampNeg (nI i + (2 : Int32)))) r M1 q2) (cwV 2 hts (gl_in gL_law_X5_sleeper) rfl rfl rfl (by decide +kernel) ⟨Nat.le_of_ble_eq_true rfl, Nat.le_of_ble_eq_true rfl⟩) (rcv_M a2 k2 M Lm) rfl hl.1 rfl (Nat.le_of_ble_eq_true rfl) dL_law_240 hf) hP hD hS hA (fr_L_M a a2 k k2 B L R T1 U V M Lm M1 Lm) (fun H locs hP hD hS => ?_)
  refine lv_icmp_eq (tgt := 1238) hx hb dL_law_243 (by decide) (fun _ => ?_) (fun c9 => absurd rfl c9)
  exact KK B L R T1 U V M1 Lm hR1 H locs hP hD hS ls hl
set_option maxHeartbeats 4000000 in
set_option maxRecDepth 100000 in
theorem law_lose (E_m : EQ_lose) {p : Program} {l : Launch} {e : Env} {s : State} {m : MethodId} {below : List Frame} {meth : Method} {c : Code} {D : va_G} {b N cells slots : Nat} {xs : Nat → Int32} {a a2 : Nat → Nat} {k k2 : Nat → ClassId} {Q : State → Prop} (C0 : lw_At p s m meth c b N xs) (hnw : nw s) (hK : va_K D vwCl (tL k k2) s) (hf : cells ≤ room_1.cells ∧ slots ≤ room_1.slots) {cn : Nat} {B : RG} {L : Int64} {R T U V M : RG} {Lm : Int64} (hc : cn < 512) (hR : Rel cn B L R T U V M Lm) (i : Nat) (hi : i + 6 ≤ N) (hN : N ≤ 3072)
    (KK : ∀ (B : RG) (L : Int64) (R T U V M : RG) (Lm : Int64), Rel (cn + 1) B L R T U V M Lm → ∀ (H : Heap) (locs : List Loc), va_P D vwCl (xL a a2 k k2 B L R T U V M Lm) H → va_D (fun q : Nat => s.heap.size ≤ q) (xL a a2 k k2 B L R T U V M Lm) → va_S (fun q : Nat => s.heap.size ≤ q) s.heap H locs → ∀ ls : Array Slot, lv_has ls 4 [(0, .ref b), (1, .ref (a 26)), (2, .ref (a2 0)), (3, .int (nI i))] → W p l e room_1 s m #[Value.ref b] below meth c H locs cells slots Q (F0 m 1238 ls []))
    (H : Heap) (locs : List Loc) (hP : va_P D vwCl (xL a a2 k k2 B L R T U V M Lm) H) (hD : va_D (fun q : Nat => s.heap.size ≤ q) (xL a a2 k k2 B L R T U V M Lm)) (hS : va_S (fun q : Nat => s.heap.size ≤ q) s.heap H locs) (ls : Array Slot) (hl : lv_has ls 4 [(0, .ref b), (1, .ref (a 26)), (2, .ref (a2 0)), (3, .int (nI i))]) : W p l e room_1 s m #[Value.ref b] below meth c H locs cells slots Q (F0 m 248 ls []) := by
  obtain ⟨hx, hb, hr, hml, hown, hts, hX, hbl, hlocks, hgv⟩ := C0
  have hA : ∀ q : Nat, s.heap.size ≤ q → (fun q : Nat => s.heap.size ≤ q) q := fun _ h => h
  have hbA : ¬ (fun q : Nat => s.heap.size ≤ q) b := Nat.not_le.mpr hbl
  refine lv_aload_n hx hb dL_law_248 rfl (lv_at hl 1 rfl) ?_
  refine lv_aload_n hx hb dL_law_249 rfl (lv_at hl 0 rfl) ?_
  refine lv_iload_n hx hb dL_law_250 rfl (lv_at hl 3 rfl) ?_
  refine lv_iconst (v := (1 : Int32)) hx hb dL_law_251 (by decide) ?_
  refine lv_iadd hx hb dL_law_252 ?_
  refine va_sld hx hb hX hbl hbA hS (ixk i 1 (by omega) hN) dL_law_253 ?_
  refine lv_aload_n hx hb dL_law_254 rfl (lv_at hl 0 rfl) ?_
  refine lv_iload_n hx hb dL_law_255 rfl (lv_at hl 3 rfl) ?_
  refine lv_iconst (v := (2 : Int32)) hx hb dL_law_256 (by decide) ?_
  refine lv_iadd hx hb dL_law_257 ?_
  refine va_sld hx hb hX hbl hbA hS (ixk i 2 (by omega) hN) dL_law_258 ?_
  refine lv_if_eq (tgt := 266) hx hb dL_law_259 (by decide) (fun c1 => ?_) (fun c1 => ?_)
  · skip
    refine lv_iconst (v := (0 : Int32)) hx hb dL_law_266 (by decide) ?_
    obtain ⟨r, T1, M1, q1, q2, hR1⟩   := E_m hc hR (xs (Int32.toNatClampNeg (nI i + (1 : Int32)))) (0 : Int32) (by decide)
    refine go_i (run_V (b := (a 26)) (As := [.int (xs (Int32.toNatClampNeg (nI i + (1 : Int32)))), .int (0 : Int32)]) (rest := []) ⟨hx, hb, hml, hown, hts⟩ hnw hK hP hD (fr_L_X a a2 k k2 B L R T U V M Lm B L R T1 U V) (ks_L_X k k2) (c_X4_lose l D a k H.size B L R T U V (xs (Int32.toNatClampNeg (nI i + (1 : Int32)))) (0 : Int32) r T1 q1) (cwV 2 hts (gl_in gL_law_X4_lose) rfl rfl rfl (by decide +kernel) ⟨Nat.le_of_ble_eq_true rfl, Nat.le_of_ble_eq_true rfl⟩) (rcv_X a k B L R T U V) rfl hl.1 rfl (Nat.le_of_ble_eq_true rfl) dL_law_267 hf) hP hD hS hA (fr_L_X a a2 k k2 B L R T U V M Lm B L R T1 U V) (fun H locs hP hD hS => ?_)
    refine lv_aload_n hx hb dL_law_270 rfl (lv_at hl 2 rfl) ?_
    refine lv_aload_n hx hb dL_law_271 rfl (lv_at hl 0 rfl) ?_
    refine lv_iload_n hx hb dL_law_272 rfl (lv_at hl 3 rfl) ?_
    refine lv_iconst (v := (1 : Int32)) hx hb dL_law_273 (by decide) ?_
    refine lv_iadd hx hb dL_law_274 ?_
    refine va_sld hx hb hX hbl hbA hS (ixk i 1 (by omega) hN) dL_law_275 ?_
    refine lv_aload_n hx hb dL_law_276 rfl (lv_at hl 0 rfl) ?_
    refine lv_iload_n hx hb dL_law_277 rfl (lv_at hl 3 rfl) ?_
    refine lv_iconst (v := (2 : Int32)) hx hb dL_law_278 (by decide) ?_
    refine lv_iadd hx hb dL_law_279 ?_
    refine va_sld hx hb hX hbl hbA hS (ixk i 2 (by omega) hN) dL_law_280 ?_
    refine lv_if_eq (tgt := 288) hx hb dL_law_281 (by decide) (fun _ => ?_) (fun c2 => absurd c1 c2)
    refine lv_iconst (v := (0 : Int32)) hx hb dL_law_288 (by decide) ?_
    refine go_i (run_V (b := (a2 0)) (As := [.int (xs (Int32.toNatClampNeg (nI i + (1 : Int32)))), .int (0 : Int32)]) (rest := [.int r]) ⟨hx, hb, hml, hown, hts⟩ hnw hK hP hD (fr_L_M a a2 k k2 B L R T1 U V M Lm M1 Lm) (ks_L_M k k2) (c_X5_lose l D a2 k2 H.size M Lm (xs (Int32.toNatClampNeg (nI i + (1 : Int32)))) (0 : Int32) r M1 q2) (cwV 2 hts (gl_in gL_law_X5_lose) rfl rfl rfl (by decide +kernel) ⟨Nat.le_of_ble_eq_true rfl, Nat.le_of_ble_eq_true rfl⟩) (rcv_M a2 k2 M Lm) rfl hl.1 rfl (Nat.le_of_ble_eq_true rfl) dL_law_289 hf) hP hD hS hA (fr_L_M a a2 k k2 B L R T1 U V M Lm M1 Lm) (fun H locs hP hD hS => ?_)
    refine lv_icmp_eq (tgt := 1238) hx hb dL_law_292 (by decide) (fun _ => ?_) (fun c9 => absurd rfl c9)
    exact KK B L R T1 U V M1 Lm hR1 H locs hP hD hS ls hl
  · skip
    refine lv_iconst (v := (1 : Int32)) hx hb dL_law_262 (by decide) ?_
    refine lv_goto (tgt := 267) hx hb dL_law_263 (by decide) ?_
    obtain ⟨r, T1, M1, q1, q2, hR1⟩   := E_m hc hR (xs (Int32.toNatClampNeg (nI i + (1 : Int32)))) (1 : Int32) (by decide)
    refine go_i (run_V (b := (a 26)) (As := [.int (xs (Int32.toNatClampNeg (nI i + (1 : Int32)))), .int (1 : Int32)]) (rest := []) ⟨hx, hb, hml, hown, hts⟩ hnw hK hP hD (fr_L_X a a2 k k2 B L R T U V M Lm B L R T1 U V) (ks_L_X k k2) (c_X4_lose l D a k H.size B L R T U V (xs (Int32.toNatClampNeg (nI i + (1 : Int32)))) (1 : Int32) r T1 q1) (cwV 2 hts (gl_in gL_law_X4_lose) rfl rfl rfl (by decide +kernel) ⟨Nat.le_of_ble_eq_true rfl, Nat.le_of_ble_eq_true rfl⟩) (rcv_X a k B L R T U V) rfl hl.1 rfl (Nat.le_of_ble_eq_true rfl) dL_law_267 hf) hP hD hS hA (fr_L_X a a2 k k2 B L R T U V M Lm B L R T1 U V) (fun H locs hP hD hS => ?_)
    refine lv_aload_n hx hb dL_law_270 rfl (lv_at hl 2 rfl) ?_
    refine lv_aload_n hx hb dL_law_271 rfl (lv_at hl 0 rfl) ?_
    refine lv_iload_n hx hb dL_law_272 rfl (lv_at hl 3 rfl) ?_
    refine lv_iconst (v := (1 : Int32)) hx hb dL_law_273 (by decide) ?_
    refine lv_iadd hx hb dL_law_274 ?_
    refine va_sld hx hb hX hbl hbA hS (ixk i 1 (by omega) hN) dL_law_275 ?_
    refine lv_aload_n hx hb dL_law_276 rfl (lv_at hl 0 rfl) ?_
    refine lv_iload_n hx hb dL_law_277 rfl (lv_at hl 3 rfl) ?_
    refine lv_iconst (v := (2 : Int32)) hx hb dL_law_278 (by decide) ?_
    refine lv_iadd hx hb dL_law_279 ?_
    refine va_sld hx hb hX hbl hbA hS (ixk i 2 (by omega) hN) dL_law_280 ?_
    refine lv_if_eq (tgt := 288) hx hb dL_law_281 (by decide) (fun c2 => absurd c2 c1) (fun _ => ?_)
    refine lv_iconst (v := (1 : Int32)) hx hb dL_law_284 (by decide) ?_
    refine lv_goto (tgt := 289) hx hb dL_law_285 (by decide) ?_
    refine go_i (run_V (b := (a2 0)) (As := [.int (xs (Int32.toNatClampNeg (nI i + (1 : Int32)))), .int (1 : Int32)]) (rest := [.int r]) ⟨hx, hb, hml, hown, hts⟩ hnw hK hP hD (fr_L_M a a2 k k2 B L R T1 U V M Lm M1 Lm) (ks_L_M k k2) (c_X5_lose l D a2 k2 H.size M Lm (xs (Int32.toNatClampNeg (nI i + (1 : Int32)))) (1 : Int32) r M1 q2) (cwV 2 hts (gl_in gL_law_X5_lose) rfl rfl rfl (by decide +kernel) ⟨Nat.le_of_ble_eq_true rfl, Nat.le_of_ble_eq_true rfl⟩) (rcv_M a2 k2 M Lm) rfl hl.1 rfl (Nat.le_of_ble_eq_true rfl) dL_law_289 hf) hP hD hS hA (fr_L_M a a2 k k2 B L R T1 U V M Lm M1 Lm) (fun H locs hP hD hS => ?_)
    refine lv_icmp_eq (tgt := 1238) hx hb dL_law_292 (by decide) (fun _ => ?_) (fun c9 => absurd rfl c9)
    exact KK B L R T1 U V M1 Lm hR1 H locs hP hD hS ls hl
set_option maxHeartbeats 4000000 in
set_option maxRecDepth 100000 in
theorem law_bed (E_m : EQ_bed) {p : Program} {l : Launch} {e : Env} {s : State} {m : MethodId} {below : List Frame} {meth : Method} {c : Code} {D : va_G} {b N cells slots : Nat} {xs : Nat → Int32} {a a2 : Nat → Nat} {k k2 : Nat → ClassId} {Q : State → Prop} (C0 : lw_At p s m meth c b N xs) (hnw : nw s) (hK : va_K D vwCl (tL k k2) s) (hf : cells ≤ room_1.cells ∧ slots ≤ room_1.slots) {cn : Nat} {B : RG} {L : Int64} {R T U V M : RG} {Lm : Int64} (hc : cn < 512) (hR : Rel cn B L R T U V M Lm) (i : Nat) (hi : i + 6 ≤ N) (hN : N ≤ 3072)
    (KK : ∀ (B : RG) (L : Int64) (R T U V M : RG) (Lm : Int64), Rel (cn + 1) B L R T U V M Lm → ∀ (H : Heap) (locs : List Loc), va_P D vwCl (xL a a2 k k2 B L R T U V M Lm) H → va_D (fun q : Nat => s.heap.size ≤ q) (xL a a2 k k2 B L R T U V M Lm) → va_S (fun q : Nat => s.heap.size ≤ q) s.heap H locs → ∀ ls : Array Slot, lv_has ls 4 [(0, .ref b), (1, .ref (a 26)), (2, .ref (a2 0)), (3, .int (nI i))] → W p l e room_1 s m #[Value.ref b] below meth c H locs cells slots Q (F0 m 1238 ls []))
    (H : Heap) (locs : List Loc) (hP : va_P D vwCl (xL a a2 k k2 B L R T U V M Lm) H) (hD : va_D (fun q : Nat => s.heap.size ≤ q) (xL a a2 k k2 B L R T U V M Lm)) (hS : va_S (fun q : Nat => s.heap.size ≤ q) s.heap H locs) (ls : Array Slot) (hl : lv_has ls 4 [(0, .ref b), (1, .ref (a 26)), (2, .ref (a2 0)), (3, .int (nI i))]) : W p l e room_1 s m #[Value.ref b] below meth c H locs cells slots Q (F0 m 297 ls []) := by
  obtain ⟨hx, hb, hr, hml, hown, hts, hX, hbl, hlocks, hgv⟩ := C0
  have hA : ∀ q : Nat, s.heap.size ≤ q → (fun q : Nat => s.heap.size ≤ q) q := fun _ h => h
  have hbA : ¬ (fun q : Nat => s.heap.size ≤ q) b := Nat.not_le.mpr hbl
  refine lv_aload_n hx hb dL_law_297 rfl (lv_at hl 1 rfl) ?_
  refine lv_aload_n hx hb dL_law_298 rfl (lv_at hl 0 rfl) ?_
  refine lv_iload_n hx hb dL_law_299 rfl (lv_at hl 3 rfl) ?_
  refine lv_iconst (v := (1 : Int32)) hx hb dL_law_300 (by decide) ?_
  refine lv_iadd hx hb dL_law_301 ?_
  refine va_sld hx hb hX hbl hbA hS (ixk i 1 (by omega) hN) dL_law_302 ?_
  refine lv_aload_n hx hb dL_law_303 rfl (lv_at hl 0 rfl) ?_
  refine lv_iload_n hx hb dL_law_304 rfl (lv_at hl 3 rfl) ?_
  refine lv_iconst (v := (2 : Int32)) hx hb dL_law_305 (by decide) ?_
  refine lv_iadd hx hb dL_law_306 ?_
  refine va_sld hx hb hX hbl hbA hS (ixk i 2 (by omega) hN) dL_law_307 ?_
  obtain ⟨r, B1, L1, T1, M1, Lm1, q1, q2, hR1⟩   := E_m hc hR (xs (Int32.toNatClampNeg (nI i + (1 : Int32)))) (xs (Int32.toNatClampNeg (nI i + (2 : Int32))))
  refine go_i (run_V (b := (a 26)) (As := [.int (xs (Int32.toNatClampNeg (nI i + (1 : Int32)))), .int (xs (Int32.toNatClampNeg (nI i + (2 : Int32))))]) (rest := []) ⟨hx, hb, hml, hown, hts⟩ hnw hK hP hD (fr_L_X a a2 k k2 B L R T U V M Lm B1 L1 R T1 U V) (ks_L_X k k2) (c_X4_bed l D a k H.size B L R T U V (xs (Int32.toNatClampNeg (nI i + (1 : Int32)))) (xs (Int32.toNatClampNeg (nI i + (2 : Int32)))) r B1 L1 T1 q1) (cwV 2 hts (gl_in gL_law_X4_bed) rfl rfl rfl (by decide +kernel) ⟨Nat.le_of_ble_eq_true rfl, Nat.le_of_ble_eq_true rfl⟩) (rcv_X a k B L R T U V) rfl hl.1 rfl (Nat.le_of_ble_eq_true rfl) dL_law_308 hf) hP hD hS hA (fr_L_X a a2 k k2 B L R T U V M Lm B1 L1 R T1 U V) (fun H locs hP hD hS => ?_)
  refine lv_aload_n hx hb dL_law_311 rfl (lv_at hl 2 rfl) ?_
  refine lv_aload_n hx hb dL_law_312 rfl (lv_at hl 0 rfl) ?_
  refine lv_iload_n hx hb dL_law_313 rfl (lv_at hl 3 rfl) ?_
  refine lv_iconst (v := (1 : Int32)) hx hb dL_law_314 (by decide) ?_
  refine lv_iadd hx hb dL_law_315 ?_
  refine va_sld hx hb hX hbl hbA hS (ixk i 1 (by omega) hN) dL_law_316 ?_
  refine lv_aload_n hx hb dL_law_317 rfl (lv_at hl 0 rfl) ?_
  refine lv_iload_n hx hb dL_law_318 rfl (lv_at hl 3 rfl) ?_
  refine lv_iconst (v := (2 : Int32)) hx hb dL_law_319 (by decide) ?_
  refine lv_iadd hx hb dL_law_320 ?_
  refine va_sld hx hb hX hbl hbA hS (ixk i 2 (by omega) hN) dL_law_321 ?_
  refine go_i (run_V (b := (a2 0)) (As := [.int (xs (Int32.toNatClampNeg (nI i + (1 : Int32)))), .int (xs (Int32.toNatClampNeg (nI i + (2 : Int32))))]) (rest := [.int r]) ⟨hx, hb, hml, hown, hts⟩ hnw hK hP hD (fr_L_M a a2 k k2 B1 L1 R T1 U V M Lm M1 Lm1) (ks_L_M k k2) (c_X5_bed l D a2 k2 H.size M Lm (xs (Int32.toNatClampNeg (nI i + (1 : Int32)))) (xs (Int32.toNatClampNeg (nI i + (2 : Int32)))) r M1 Lm1 q2) (cwV 2 hts (gl_in gL_law_X5_bed) rfl rfl rfl (by decide +kernel) ⟨Nat.le_of_ble_eq_true rfl, Nat.le_of_ble_eq_true rfl⟩) (rcv_M a2 k2 M Lm) rfl hl.1 rfl (Nat.le_of_ble_eq_true rfl) dL_law_322 hf) hP hD hS hA (fr_L_M a a2 k k2 B1 L1 R T1 U V M Lm M1 Lm1) (fun H locs hP hD hS => ?_)
  refine lv_icmp_eq (tgt := 1238) hx hb dL_law_325 (by decide) (fun _ => ?_) (fun c9 => absurd rfl c9)
  exact KK B1 L1 R T1 U V M1 Lm1 hR1 H locs hP hD hS ls hl
set_option maxHeartbeats 4000000 in
set_option maxRecDepth 100000 in
theorem law_stones (E_m : EQ_stones) {p : Program} {l : Launch} {e : Env} {s : State} {m : MethodId} {below : List Frame} {meth : Method} {c : Code} {D : va_G} {b N cells slots : Nat} {xs : Nat → Int32} {a a2 : Nat → Nat} {k k2 : Nat → ClassId} {Q : State → Prop} (C0 : lw_At p s m meth c b N xs) (hnw : nw s) (hK : va_K D vwCl (tL k k2) s) (hf : cells ≤ room_1.cells ∧ slots ≤ room_1.slots) {cn : Nat} {B : RG} {L : Int64} {R T U V M : RG} {Lm : Int64} (hc : cn < 512) (hR : Rel cn B L R T U V M Lm) (i : Nat) (hi : i + 6 ≤ N) (hN : N ≤ 3072)
    (KK : ∀ (B : RG) (L : Int64) (R T U V M : RG) (Lm : Int64), Rel (cn + 1) B L R T U V M Lm → ∀ (H : Heap) (locs : List Loc), va_P D vwCl (xL a a2 k k2 B L R T U V M Lm) H → va_D (fun q : Nat => s.heap.size ≤ q) (xL a a2 k k2 B L R T U V M Lm) → va_S (fun q : Nat => s.heap.size ≤ q) s.heap H locs → ∀ ls : Array Slot, lv_has ls 4 [(0, .ref b), (1, .ref (a 26)), (2, .ref (a2 0)), (3, .int (nI i))] → W p l e room_1 s m #[Value.ref b] below meth c H locs cells slots Q (F0 m 1238 ls []))
    (H : Heap) (locs : List Loc) (hP : va_P D vwCl (xL a a2 k k2 B L R T U V M Lm) H) (hD : va_D (fun q : Nat => s.heap.size ≤ q) (xL a a2 k k2 B L R T U V M Lm)) (hS : va_S (fun q : Nat => s.heap.size ≤ q) s.heap H locs) (ls : Array Slot) (hl : lv_has ls 4 [(0, .ref b), (1, .ref (a 26)), (2, .ref (a2 0)), (3, .int (nI i))]) : W p l e room_1 s m #[Value.ref b] below meth c H locs cells slots Q (F0 m 330 ls []) := by
  obtain ⟨hx, hb, hr, hml, hown, hts, hX, hbl, hlocks, hgv⟩ := C0
  have hA : ∀ q : Nat, s.heap.size ≤ q → (fun q : Nat => s.heap.size ≤ q) q := fun _ h => h
  have hbA : ¬ (fun q : Nat => s.heap.size ≤ q) b := Nat.not_le.mpr hbl
  refine lv_aload_n hx hb dL_law_330 rfl (lv_at hl 1 rfl) ?_
  refine lv_aload_n hx hb dL_law_331 rfl (lv_at hl 0 rfl) ?_
  refine lv_iload_n hx hb dL_law_332 rfl (lv_at hl 3 rfl) ?_
  refine lv_iconst (v := (1 : Int32)) hx hb dL_law_333 (by decide) ?_
  refine lv_iadd hx hb dL_law_334 ?_
  refine va_sld hx hb hX hbl hbA hS (ixk i 1 (by omega) hN) dL_law_335 ?_
  refine lv_aload_n hx hb dL_law_336 rfl (lv_at hl 0 rfl) ?_
  refine lv_iload_n hx hb dL_law_337 rfl (lv_at hl 3 rfl) ?_
  refine lv_iconst (v := (2 : Int32)) hx hb dL_law_338 (by decide) ?_
  refine lv_iadd hx hb dL_law_339 ?_
  refine va_sld hx hb hX hbl hbA hS (ixk i 2 (by omega) hN) dL_law_340 ?_
  obtain ⟨r, B1, T1, M1, q1, q2, hR1⟩   := E_m hc hR (xs (Int32.toNatClampNeg (nI i + (1 : Int32)))) (xs (Int32.toNatClampNeg (nI i + (2 : Int32))))
  refine go_i (run_V (b := (a 26)) (As := [.int (xs (Int32.toNatClampNeg (nI i + (1 : Int32)))), .int (xs (Int32.toNatClampNeg (nI i + (2 : Int32))))]) (rest := []) ⟨hx, hb, hml, hown, hts⟩ hnw hK hP hD (fr_L_X a a2 k k2 B L R T U V M Lm B1 L R T1 U V) (ks_L_X k k2) (c_X4_stones l D a k H.size B L R T U V (xs (Int32.toNatClampNeg (nI i + (1 : Int32)))) (xs (Int32.toNatClampNeg (nI i + (2 : Int32)))) r B1 T1 q1) (cwV 2 hts (gl_in gL_law_X4_stones) rfl rfl rfl (by decide +kernel) ⟨Nat.le_of_ble_eq_true rfl, Nat.le_of_ble_eq_true rfl⟩) (rcv_X a k B L R T U V) rfl hl.1 rfl (Nat.le_of_ble_eq_true rfl) dL_law_341 hf) hP hD hS hA (fr_L_X a a2 k k2 B L R T U V M Lm B1 L R T1 U V) (fun H locs hP hD hS => ?_)
  refine lv_aload_n hx hb dL_law_344 rfl (lv_at hl 2 rfl) ?_
  refine lv_aload_n hx hb dL_law_345 rfl (lv_at hl 0 rfl) ?_
  refine lv_iload_n hx hb dL_law_346 rfl (lv_at hl 3 rfl) ?_
  refine lv_iconst (v := (1 : Int32)) hx hb dL_law_347 (by decide) ?_
  refine lv_iadd hx hb dL_law_348 ?_
  refine va_sld hx hb hX hbl hbA hS (ixk i 1 (by omega) hN) dL_law_349 ?_
  refine lv_aload_n hx hb dL_law_350 rfl (lv_at hl 0 rfl) ?_
  refine lv_iload_n hx hb dL_law_351 rfl (lv_at hl 3 rfl) ?_
  refine lv_iconst (v := (2 : Int32)) hx hb dL_law_352 (by decide) ?_
  refine lv_iadd hx hb dL_law_353 ?_
  refine va_sld hx hb hX hbl hbA hS (ixk i 2 (by omega) hN) dL_law_354 ?_
  refine go_i (run_V (b := (a2 0)) (As := [.int (xs (Int32.toNatClampNeg (nI i + (1 : Int32)))), .int (xs (Int32.toNatClampNeg (nI i + (2 : Int32))))]) (rest := [.int r]) ⟨hx, hb, hml, hown, hts⟩ hnw hK hP hD (fr_L_M a a2 k k2 B1 L R T1 U V M Lm M1 Lm) (ks_L_M k k2) (c_X5_stones l D a2 k2 H.size M Lm (xs (Int32.toNatClampNeg (nI i + (1 : Int32)))) (xs (Int32.toNatClampNeg (nI i + (2 : Int32)))) r M1 q2) (cwV 2 hts (gl_in gL_law_X5_stones) rfl rfl rfl (by decide +kernel) ⟨Nat.le_of_ble_eq_true rfl, Nat.le_of_ble_eq_true rfl⟩) (rcv_M a2 k2 M Lm) rfl hl.1 rfl (Nat.le_of_ble_eq_true rfl) dL_law_355 hf) hP hD hS hA (fr_L_M a a2 k k2 B1 L R T1 U V M Lm M1 Lm) (fun H locs hP hD hS => ?_)
  refine lv_icmp_eq (tgt := 1238) hx hb dL_law_358 (by decide) (fun _ => ?_) (fun c9 => absurd rfl c9)
  exact KK B1 L R T1 U V M1 Lm hR1 H locs hP hD hS ls hl
set_option maxHeartbeats 4000000 in
set_option maxRecDepth 100000 in
theorem law_told (E_m : EQ_told) {p : Program} {l : Launch} {e : Env} {s : State} {m : MethodId} {below : List Frame} {meth : Method} {c : Code} {D : va_G} {b N cells slots : Nat} {xs : Nat → Int32} {a a2 : Nat → Nat} {k k2 : Nat → ClassId} {Q : State → Prop} (C0 : lw_At p s m meth c b N xs) (hnw : nw s) (hK : va_K D vwCl (tL k k2) s) (hf : cells ≤ room_1.cells ∧ slots ≤ room_1.slots) {cn : Nat} {B : RG} {L : Int64} {R T U V M : RG} {Lm : Int64} (hc : cn < 512) (hR : Rel cn B L R T U V M Lm) (i : Nat) (hi : i + 6 ≤ N) (hN : N ≤ 3072)
    (KK : ∀ (B : RG) (L : Int64) (R T U V M : RG) (Lm : Int64), Rel (cn + 1) B L R T U V M Lm → ∀ (H : Heap) (locs : List Loc), va_P D vwCl (xL a a2 k k2 B L R T U V M Lm) H → va_D (fun q : Nat => s.heap.size ≤ q) (xL a a2 k k2 B L R T U V M Lm) → va_S (fun q : Nat => s.heap.size ≤ q) s.heap H locs → ∀ ls : Array Slot, lv_has ls 4 [(0, .ref b), (1, .ref (a 26)), (2, .ref (a2 0)), (3, .int (nI i))] → W p l e room_1 s m #[Value.ref b] below meth c H locs cells slots Q (F0 m 1238 ls []))
    (H : Heap) (locs : List Loc) (hP : va_P D vwCl (xL a a2 k k2 B L R T U V M Lm) H) (hD : va_D (fun q : Nat => s.heap.size ≤ q) (xL a a2 k k2 B L R T U V M Lm)) (hS : va_S (fun q : Nat => s.heap.size ≤ q) s.heap H locs) (ls : Array Slot) (hl : lv_has ls 4 [(0, .ref b), (1, .ref (a 26)), (2, .ref (a2 0)), (3, .int (nI i))]) : W p l e room_1 s m #[Value.ref b] below meth c H locs cells slots Q (F0 m 363 ls []) := by
  obtain ⟨hx, hb, hr, hml, hown, hts, hX, hbl, hlocks, hgv⟩ := C0
  have hA : ∀ q : Nat, s.heap.size ≤ q → (fun q : Nat => s.heap.size ≤ q) q := fun _ h => h
  have hbA : ¬ (fun q : Nat => s.heap.size ≤ q) b := Nat.not_le.mpr hbl
  refine lv_aload_n hx hb dL_law_363 rfl (lv_at hl 1 rfl) ?_
  refine lv_aload_n hx hb dL_law_364 rfl (lv_at hl 0 rfl) ?_
  refine lv_iload_n hx hb dL_law_365 rfl (lv_at hl 3 rfl) ?_
  refine lv_iconst (v := (1 : Int32)) hx hb dL_law_366 (by decide) ?_
  refine lv_iadd hx hb dL_law_367 ?_
  refine va_sld hx hb hX hbl hbA hS (ixk i 1 (by omega) hN) dL_law_368 ?_
  refine lv_aload_n hx hb dL_law_369 rfl (lv_at hl 0 rfl) ?_
  refine lv_iload_n hx hb dL_law_370 rfl (lv_at hl 3 rfl) ?_
  refine lv_iconst (v := (2 : Int32)) hx hb dL_law_371 (by decide) ?_
  refine lv_iadd hx hb dL_law_372 ?_
  refine va_sld hx hb hX hbl hbA hS (ixk i 2 (by omega) hN) dL_law_373 ?_
  obtain ⟨r, q1, q2, hR1⟩   := E_m hc hR (xs (Int32.toNatClampNeg (nI i + (1 : Int32)))) (xs (Int32.toNatClampNeg (nI i + (2 : Int32))))
  refine go_i (run_V (b := (a 26)) (As := [.int (xs (Int32.toNatClampNeg (nI i + (1 : Int32)))), .int (xs (Int32.toNatClampNeg (nI i + (2 : Int32))))]) (rest := []) ⟨hx, hb, hml, hown, hts⟩ hnw hK hP hD (fr_L_X a a2 k k2 B L R T U V M Lm B L R T U V) (ks_L_X k k2) (c_X4_told l D a k H.size B L R T U V (xs (Int32.toNatClampNeg (nI i + (1 : Int32)))) (xs (Int32.toNatClampNeg (nI i + (2 : Int32)))) r  q1) (cwV 2 hts (gl_in gL_law_X4_told) rfl rfl rfl (by decide +kernel) ⟨Nat.le_of_ble_eq_true rfl, Nat.le_of_ble_eq_true rfl⟩) (rcv_X a k B L R T U V) rfl hl.1 rfl (Nat.le_of_ble_eq_true rfl) dL_law_374 hf) hP hD hS hA (fr_L_X a a2 k k2 B L R T U V M Lm B L R T U V) (fun H locs hP hD hS => ?_)
  refine lv_aload_n hx hb dL_law_377 rfl (lv_at hl 2 rfl) ?_
  refine lv_aload_n hx hb dL_law_378 rfl (lv_at hl 0 rfl) ?_
  refine lv_iload_n hx hb dL_law_379 rfl (lv_at hl 3 rfl) ?_
  refine lv_iconst (v := (1 : Int32)) hx hb dL_law_380 (by decide) ?_
  refine lv_iadd hx hb dL_law_381 ?_
  refine va_sld hx hb hX hbl hbA hS (ixk i 1 (by omega) hN) dL_law_382 ?_
  refine lv_aload_n hx hb dL_law_383 rfl (lv_at hl 0 rfl) ?_
  refine lv_iload_n hx hb dL_law_384 rfl (lv_at hl 3 rfl) ?_
  refine lv_iconst (v := (2 : Int32)) hx hb dL_law_385 (by decide) ?_
  refine lv_iadd hx hb dL_law_386 ?_
  refine va_sld hx hb hX hbl hbA hS (ixk i 2 (by omega) hN) dL_law_387 ?_
  refine go_i (run_V (b := (a2 0)) (As := [.int (xs (Int32.toNatClampNeg (nI i + (1 : Int32)))), .int (xs (Int32.toNatClampNeg (nI i + (2 : Int32))))]) (rest := [.int r]) ⟨hx, hb, hml, hown, hts⟩ hnw hK hP hD (fr_L_M a a2 k k2 B L R T U V M Lm M Lm) (ks_L_M k k2) (c_X5_told l D a2 k2 H.size M Lm (xs (Int32.toNatClampNeg (nI i + (1 : Int32)))) (xs (Int32.toNatClampNeg (nI i + (2 : Int32)))) r  q2) (cwV 2 hts (gl_in gL_law_X5_told) rfl rfl rfl (by decide +kernel) ⟨Nat.le_of_ble_eq_true rfl, Nat.le_of_ble_eq_true rfl⟩) (rcv_M a2 k2 M Lm) rfl hl.1 rfl (Nat.le_of_ble_eq_true rfl) dL_law_388 hf) hP hD hS hA (fr_L_M a a2 k k2 B L R T U V M Lm M Lm) (fun H locs hP hD hS => ?_)
  refine lv_icmp_eq (tgt := 1238) hx hb dL_law_391 (by decide) (fun _ => ?_) (fun c9 => absurd rfl c9)
  exact KK B L R T U V M Lm hR1 H locs hP hD hS ls hl
set_option maxHeartbeats 4000000 in
set_option maxRecDepth 100000 in
theorem law_mark (E_m : EQ_mark) {p : Program} {l : Launch} {e : Env} {s : State} {m : MethodId} {below : List Frame} {meth : Method} {c : Code} {D : va_G} {b N cells slots : Nat} {xs : Nat → Int32} {a a2 : Nat → Nat} {k k2 : Nat → ClassId} {Q : State → Prop} (C0 : lw_At p s m meth c b N xs) (hnw : nw s) (hK : va_K D vwCl (tL k k2) s) (hf : cells ≤ room_1.cells ∧ slots ≤ room_1.slots) {cn : Nat} {B : RG} {L : Int64} {R T U V M : RG} {Lm : Int64} (hc : cn < 512) (hR : Rel cn B L R T U V M Lm) (i : Nat) (hi : i + 6 ≤ N) (hN : N ≤ 3072)
    (KK : ∀ (B : RG) (L : Int64) (R T U V M : RG) (Lm : Int64), Rel (cn + 1) B L R T U V M Lm → ∀ (H : Heap) (locs : List Loc), va_P D vwCl (xL a a2 k k2 B L R T U V M Lm) H → va_D (fun q : Nat => s.heap.size ≤ q) (xL a a2 k k2 B L R T U V M Lm) → va_S (fun q : Nat => s.heap.size ≤ q) s.heap H locs → ∀ ls : Array Slot, lv_has ls 4 [(0, .ref b), (1, .ref (a 26)), (2, .ref (a2 0)), (3, .int (nI i))] → W p l e room_1 s m #[Value.ref b] below meth c H locs cells slots Q (F0 m 1238 ls []))
    (H : Heap) (locs : List Loc) (hP : va_P D vwCl (xL a a2 k k2 B L R T U V M Lm) H) (hD : va_D (fun q : Nat => s.heap.size ≤ q) (xL a a2 k k2 B L R T U V M Lm)) (hS : va_S (fun q : Nat => s.heap.size ≤ q) s.heap H locs) (ls : Array Slot) (hl : lv_has ls 4 [(0, .ref b), (1, .ref (a 26)), (2, .ref (a2 0)), (3, .int (nI i))]) : W p l e room_1 s m #[Value.ref b] below meth c H locs cells slots Q (F0 m 396 ls []) := by
  obtain ⟨hx, hb, hr, hml, hown, hts, hX, hbl, hlocks, hgv⟩ := C0
  have hA : ∀ q : Nat, s.heap.size ≤ q → (fun q : Nat => s.heap.size ≤ q) q := fun _ h => h
  have hbA : ¬ (fun q : Nat => s.heap.size ≤ q) b := Nat.not_le.mpr hbl
  refine lv_aload_n hx hb dL_law_396 rfl (lv_at hl 1 rfl) ?_
  refine lv_aload_n hx hb dL_law_397 rfl (lv_at hl 0 rfl) ?_
  refine lv_iload_n hx hb dL_law_398 rfl (lv_at hl 3 rfl) ?_
  refine lv_iconst (v := (1 : Int32)) hx hb dL_law_399 (by decide) ?_
  refine lv_iadd hx hb dL_law_400 ?_
  refine va_sld hx hb hX hbl hbA hS (ixk i 1 (by omega) hN) dL_law_401 ?_
  refine lv_aload_n hx hb dL_law_402 rfl (lv_at hl 0 rfl) ?_
  refine lv_iload_n hx hb dL_law_403 rfl (lv_at hl 3 rfl) ?_
  refine lv_iconst (v := (2 : Int32)) hx hb dL_law_404 (by decide) ?_
  refine lv_iadd hx hb dL_law_405 ?_
  refine va_sld hx hb hX hbl hbA hS (ixk i 2 (by omega) hN) dL_law_406 ?_
  obtain ⟨r, B1, M1, q1, q2, hR1⟩   := E_m hc hR (xs (Int32.toNatClampNeg (nI i + (1 : Int32)))) (xs (Int32.toNatClampNeg (nI i + (2 : Int32))))
  refine go_i (run_V (b := (a 26)) (As := [.int (xs (Int32.toNatClampNeg (nI i + (1 : Int32)))), .int (xs (Int32.toNatClampNeg (nI i + (2 : Int32))))]) (rest := []) ⟨hx, hb, hml, hown, hts⟩ hnw hK hP hD (fr_L_X a a2 k k2 B L R T U V M Lm B1 L R T U V) (ks_L_X k k2) (c_X4_mark l D a k H.size B L R T U V (xs (Int32.toNatClampNeg (nI i + (1 : Int32)))) (xs (Int32.toNatClampNeg (nI i + (2 : Int32)))) r B1 q1) (cwV 2 hts (gl_in gL_law_X4_mark) rfl rfl rfl (by decide +kernel) ⟨Nat.le_of_ble_eq_true rfl, Nat.le_of_ble_eq_true rfl⟩) (rcv_X a k B L R T U V) rfl hl.1 rfl (Nat.le_of_ble_eq_true rfl) dL_law_407 hf) hP hD hS hA (fr_L_X a a2 k k2 B L R T U V M Lm B1 L R T U V) (fun H locs hP hD hS => ?_)
  refine lv_aload_n hx hb dL_law_410 rfl (lv_at hl 2 rfl) ?_
  refine lv_aload_n hx hb dL_law_411 rfl (lv_at hl 0 rfl) ?_
  refine lv_iload_n hx hb dL_law_412 rfl (lv_at hl 3 rfl) ?_
  refine lv_iconst (v := (1 : Int32)) hx hb dL_law_413 (by decide) ?_
  refine lv_iadd hx hb dL_law_414 ?_
  refine va_sld hx hb hX hbl hbA hS (ixk i 1 (by omega) hN) dL_law_415 ?_
  refine lv_aload_n hx hb dL_law_416 rfl (lv_at hl 0 rfl) ?_
  refine lv_iload_n hx hb dL_law_417 rfl (lv_at hl 3 rfl) ?_
  refine lv_iconst (v := (2 : Int32)) hx hb dL_law_418 (by decide) ?_
  refine lv_iadd hx hb dL_law_419 ?_
  refine va_sld hx hb hX hbl hbA hS (ixk i 2 (by omega) hN) dL_law_420 ?_
  refine go_i (run_V (b := (a2 0)) (As := [.int (xs (Int32.toNatClampNeg (nI i + (1 : Int32)))), .int (xs (Int32.toNatClampNeg (nI i + (2 : Int32))))]) (rest := [.int r]) ⟨hx, hb, hml, hown, hts⟩ hnw hK hP hD (fr_L_M a a2 k k2 B1 L R T U V M Lm M1 Lm) (ks_L_M k k2) (c_X5_mark l D a2 k2 H.size M Lm (xs (Int32.toNatClampNeg (nI i + (1 : Int32)))) (xs (Int32.toNatClampNeg (nI i + (2 : Int32)))) r M1 q2) (cwV 2 hts (gl_in gL_law_X5_mark) rfl rfl rfl (by decide +kernel) ⟨Nat.le_of_ble_eq_true rfl, Nat.le_of_ble_eq_true rfl⟩) (rcv_M a2 k2 M Lm) rfl hl.1 rfl (Nat.le_of_ble_eq_true rfl) dL_law_421 hf) hP hD hS hA (fr_L_M a a2 k k2 B1 L R T U V M Lm M1 Lm) (fun H locs hP hD hS => ?_)
  refine lv_icmp_eq (tgt := 1238) hx hb dL_law_424 (by decide) (fun _ => ?_) (fun c9 => absurd rfl c9)
  exact KK B1 L R T U V M1 Lm hR1 H locs hP hD hS ls hl
set_option maxHeartbeats 4000000 in
set_option maxRecDepth 100000 in
theorem law_rail (E_m : EQ_rail) {p : Program} {l : Launch} {e : Env} {s : State} {m : MethodId} {below : List Frame} {meth : Method} {c : Code} {D : va_G} {b N cells slots : Nat} {xs : Nat → Int32} {a a2 : Nat → Nat} {k k2 : Nat → ClassId} {Q : State → Prop} (C0 : lw_At p s m meth c b N xs) (hnw : nw s) (hK : va_K D vwCl (tL k k2) s) (hf : cells ≤ room_1.cells ∧ slots ≤ room_1.slots) {cn : Nat} {B : RG} {L : Int64} {R T U V M : RG} {Lm : Int64} (hc : cn < 512) (hR : Rel cn B L R T U V M Lm) (i : Nat) (hi : i + 6 ≤ N) (hN : N ≤ 3072)
    (KK : ∀ (B : RG) (L : Int64) (R T U V M : RG) (Lm : Int64), Rel (cn + 1) B L R T U V M Lm → ∀ (H : Heap) (locs : List Loc), va_P D vwCl (xL a a2 k k2 B L R T U V M Lm) H → va_D (fun q : Nat => s.heap.size ≤ q) (xL a a2 k k2 B L R T U V M Lm) → va_S (fun q : Nat => s.heap.size ≤ q) s.heap H locs → ∀ ls : Array Slot, lv_has ls 4 [(0, .ref b), (1, .ref (a 26)), (2, .ref (a2 0)), (3, .int (nI i))] → W p l e room_1 s m #[Value.ref b] below meth c H locs cells slots Q (F0 m 1238 ls []))
    (H : Heap) (locs : List Loc) (hP : va_P D vwCl (xL a a2 k k2 B L R T U V M Lm) H) (hD : va_D (fun q : Nat => s.heap.size ≤ q) (xL a a2 k k2 B L R T U V M Lm)) (hS : va_S (fun q : Nat => s.heap.size ≤ q) s.heap H locs) (ls : Array Slot) (hl : lv_has ls 4 [(0, .ref b), (1, .ref (a 26)), (2, .ref (a2 0)), (3, .int (nI i))]) : W p l e room_1 s m #[Value.ref b] below meth c H locs cells slots Q (F0 m 429 ls []) := by
  obtain ⟨hx, hb, hr, hml, hown, hts, hX, hbl, hlocks, hgv⟩ := C0
  have hA : ∀ q : Nat, s.heap.size ≤ q → (fun q : Nat => s.heap.size ≤ q) q := fun _ h => h
  have hbA : ¬ (fun q : Nat => s.heap.size ≤ q) b := Nat.not_le.mpr hbl
  refine lv_aload_n hx hb dL_law_429 rfl (lv_at hl 1 rfl) ?_
  refine lv_aload_n hx hb dL_law_430 rfl (lv_at hl 0 rfl) ?_
  refine lv_iload_n hx hb dL_law_431 rfl (lv_at hl 3 rfl) ?_
  refine lv_iconst (v := (1 : Int32)) hx hb dL_law_432 (by decide) ?_
  refine lv_iadd hx hb dL_law_433 ?_
  refine va_sld hx hb hX hbl hbA hS (ixk i 1 (by omega) hN) dL_law_434 ?_
  obtain ⟨r, L1, Lm1, q1, q2, hR1⟩   := E_m hc hR (xs (Int32.toNatClampNeg (nI i + (1 : Int32))))
  refine go_i (run_V (b := (a 26)) (As := [.int (xs (Int32.toNatClampNeg (nI i + (1 : Int32))))]) (rest := []) ⟨hx, hb, hml, hown, hts⟩ hnw hK hP hD (fr_L_X a a2 k k2 B L R T U V M Lm B L1 R T U V) (ks_L_X k k2) (c_X4_rail l D a k H.size B L R T U V (xs (Int32.toNatClampNeg (nI i + (1 : Int32)))) r L1 q1) (cwV 1 hts (gl_in gL_law_X4_rail) rfl rfl rfl (by decide +kernel) ⟨Nat.le_of_ble_eq_true rfl, Nat.le_of_ble_eq_true rfl⟩) (rcv_X a k B L R T U V) rfl hl.1 rfl (Nat.le_of_ble_eq_true rfl) dL_law_435 hf) hP hD hS hA (fr_L_X a a2 k k2 B L R T U V M Lm B L1 R T U V) (fun H locs hP hD hS => ?_)
  refine lv_aload_n hx hb dL_law_438 rfl (lv_at hl 2 rfl) ?_
  refine lv_aload_n hx hb dL_law_439 rfl (lv_at hl 0 rfl) ?_
  refine lv_iload_n hx hb dL_law_440 rfl (lv_at hl 3 rfl) ?_
  refine lv_iconst (v := (1 : Int32)) hx hb dL_law_441 (by decide) ?_
  refine lv_iadd hx hb dL_law_442 ?_
  refine va_sld hx hb hX hbl hbA hS (ixk i 1 (by omega) hN) dL_law_443 ?_
  refine go_i (run_V (b := (a2 0)) (As := [.int (xs (Int32.toNatClampNeg (nI i + (1 : Int32))))]) (rest := [.int r]) ⟨hx, hb, hml, hown, hts⟩ hnw hK hP hD (fr_L_M a a2 k k2 B L1 R T U V M Lm M Lm1) (ks_L_M k k2) (c_X5_rail l D a2 k2 H.size M Lm (xs (Int32.toNatClampNeg (nI i + (1 : Int32)))) r Lm1 q2) (cwV 1 hts (gl_in gL_law_X5_rail) rfl rfl rfl (by decide +kernel) ⟨Nat.le_of_ble_eq_true rfl, Nat.le_of_ble_eq_true rfl⟩) (rcv_M a2 k2 M Lm) rfl hl.1 rfl (Nat.le_of_ble_eq_true rfl) dL_law_444 hf) hP hD hS hA (fr_L_M a a2 k k2 B L1 R T U V M Lm M Lm1) (fun H locs hP hD hS => ?_)
  refine lv_icmp_eq (tgt := 1238) hx hb dL_law_447 (by decide) (fun _ => ?_) (fun c9 => absurd rfl c9)
  exact KK B L1 R T U V M Lm1 hR1 H locs hP hD hS ls hl
set_option maxHeartbeats 4000000 in
set_option maxRecDepth 100000 in
theorem law_gap (E_m : EQ_gap) {p : Program} {l : Launch} {e : Env} {s : State} {m : MethodId} {below : List Frame} {meth : Method} {c : Code} {D : va_G} {b N cells slots : Nat} {xs : Nat → Int32} {a a2 : Nat → Nat} {k k2 : Nat → ClassId} {Q : State → Prop} (C0 : lw_At p s m meth c b N xs) (hnw : nw s) (hK : va_K D vwCl (tL k k2) s) (hf : cells ≤ room_1.cells ∧ slots ≤ room_1.slots) {cn : Nat} {B : RG} {L : Int64} {R T U V M : RG} {Lm : Int64} (hc : cn < 512) (hR : Rel cn B L R T U V M Lm) (i : Nat) (hi : i + 6 ≤ N) (hN : N ≤ 3072)
    (KK : ∀ (B : RG) (L : Int64) (R T U V M : RG) (Lm : Int64), Rel (cn + 1) B L R T U V M Lm → ∀ (H : Heap) (locs : List Loc), va_P D vwCl (xL a a2 k k2 B L R T U V M Lm) H → va_D (fun q : Nat => s.heap.size ≤ q) (xL a a2 k k2 B L R T U V M Lm) → va_S (fun q : Nat => s.heap.size ≤ q) s.heap H locs → ∀ ls : Array Slot, lv_has ls 4 [(0, .ref b), (1, .ref (a 26)), (2, .ref (a2 0)), (3, .int (nI i))] → W p l e room_1 s m #[Value.ref b] below meth c H locs cells slots Q (F0 m 1238 ls []))
    (H : Heap) (locs : List Loc) (hP : va_P D vwCl (xL a a2 k k2 B L R T U V M Lm) H) (hD : va_D (fun q : Nat => s.heap.size ≤ q) (xL a a2 k k2 B L R T U V M Lm)) (hS : va_S (fun q : Nat => s.heap.size ≤ q) s.heap H locs) (ls : Array Slot) (hl : lv_has ls 4 [(0, .ref b), (1, .ref (a 26)), (2, .ref (a2 0)), (3, .int (nI i))]) : W p l e room_1 s m #[Value.ref b] below meth c H locs cells slots Q (F0 m 452 ls []) := by
  obtain ⟨hx, hb, hr, hml, hown, hts, hX, hbl, hlocks, hgv⟩ := C0
  have hA : ∀ q : Nat, s.heap.size ≤ q → (fun q : Nat => s.heap.size ≤ q) q := fun _ h => h
  have hbA : ¬ (fun q : Nat => s.heap.size ≤ q) b := Nat.not_le.mpr hbl
  refine lv_aload_n hx hb dL_law_452 rfl (lv_at hl 1 rfl) ?_
  refine lv_aload_n hx hb dL_law_453 rfl (lv_at hl 0 rfl) ?_
  refine lv_iload_n hx hb dL_law_454 rfl (lv_at hl 3 rfl) ?_
  refine lv_iconst (v := (1 : Int32)) hx hb dL_law_455 (by decide) ?_
  refine lv_iadd hx hb dL_law_456 ?_
  refine va_sld hx hb hX hbl hbA hS (ixk i 1 (by omega) hN) dL_law_457 ?_
  obtain ⟨r, B1, M1, q1, q2, hR1⟩   := E_m hc hR (xs (Int32.toNatClampNeg (nI i + (1 : Int32))))
  refine go_i (run_V (b := (a 26)) (As := [.int (xs (Int32.toNatClampNeg (nI i + (1 : Int32))))]) (rest := []) ⟨hx, hb, hml, hown, hts⟩ hnw hK hP hD (fr_L_X a a2 k k2 B L R T U V M Lm B1 L R T U V) (ks_L_X k k2) (c_X4_gap l D a k H.size B L R T U V (xs (Int32.toNatClampNeg (nI i + (1 : Int32)))) r B1 q1) (cwV 1 hts (gl_in gL_law_X4_gap) rfl rfl rfl (by decide +kernel) ⟨Nat.le_of_ble_eq_true rfl, Nat.le_of_ble_eq_true rfl⟩) (rcv_X a k B L R T U V) rfl hl.1 rfl (Nat.le_of_ble_eq_true rfl) dL_law_458 hf) hP hD hS hA (fr_L_X a a2 k k2 B L R T U V M Lm B1 L R T U V) (fun H locs hP hD hS => ?_)
  refine lv_aload_n hx hb dL_law_461 rfl (lv_at hl 2 rfl) ?_
  refine lv_aload_n hx hb dL_law_462 rfl (lv_at hl 0 rfl) ?_
  refine lv_iload_n hx hb dL_law_463 rfl (lv_at hl 3 rfl) ?_
  refine lv_iconst (v := (1 : Int32)) hx hb dL_law_464 (by decide) ?_
  refine lv_iadd hx hb dL_law_465 ?_
  refine va_sld hx hb hX hbl hbA hS (ixk i 1 (by omega) hN) dL_law_466 ?_
  refine go_i (run_V (b := (a2 0)) (As := [.int (xs (Int32.toNatClampNeg (nI i + (1 : Int32))))]) (rest := [.int r]) ⟨hx, hb, hml, hown, hts⟩ hnw hK hP hD (fr_L_M a a2 k k2 B1 L R T U V M Lm M1 Lm) (ks_L_M k k2) (c_X5_gap l D a2 k2 H.size M Lm (xs (Int32.toNatClampNeg (nI i + (1 : Int32)))) r M1 q2) (cwV 1 hts (gl_in gL_law_X5_gap) rfl rfl rfl (by decide +kernel) ⟨Nat.le_of_ble_eq_true rfl, Nat.le_of_ble_eq_true rfl⟩) (rcv_M a2 k2 M Lm) rfl hl.1 rfl (Nat.le_of_ble_eq_true rfl) dL_law_467 hf) hP hD hS hA (fr_L_M a a2 k k2 B1 L R T U V M Lm M1 Lm) (fun H locs hP hD hS => ?_)
  refine lv_icmp_eq (tgt := 1238) hx hb dL_law_470 (by decide) (fun _ => ?_) (fun c9 => absurd rfl c9)
  exact KK B1 L R T U V M1 Lm hR1 H locs hP hD hS ls hl
