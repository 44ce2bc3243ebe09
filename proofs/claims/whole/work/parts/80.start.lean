set_option maxHeartbeats 4000000 in
set_option maxRecDepth 100000 in
theorem law_loop (EA : EQ_all) {p : Program} {l : Launch} {e : Env} {s : State} {m : MethodId} {below : List Frame} {meth : Method} {c : Code} {D : va_G} {b N : Nat} {xs : Nat → Int32} {a a2 : Nat → Nat} {k k2 : Nat → ClassId} (C0 : lw_At p s m meth c b N xs) (hnw : nw s) (hK : va_K D vwCl (tL k k2) s) (hN : N ≤ 3072) :
    ∀ (nn i cn : Nat), i = 6 * cn → i ≤ N → N + 1 ≤ i + nn → ∀ (B : RG) (L : Int64) (R T U V M : RG) (Lm : Int64), Rel cn B L R T U V M Lm → ∀ (H : Heap) (locs : List Loc), va_P D vwCl (xL a a2 k k2 B L R T U V M Lm) H → va_D (fun q : Nat => s.heap.size ≤ q) (xL a a2 k k2 B L R T U V M Lm) → va_S (fun q : Nat => s.heap.size ≤ q) s.heap H locs → ∀ ls : Array Slot, lv_has ls 4 [(0, .ref b), (1, .ref (a 26)), (2, .ref (a2 0)), (3, .int (nI i))] → W p l e room_1 s m #[Value.ref b] below meth c H locs 45 1295 (lw_Z below #[Value.ref b] s) (F0 m 18 ls []) := by
  obtain ⟨E_line, E_sleeper, E_lose, E_bed, E_stones, E_told, E_mark, E_rail, E_gap, E_axle, E_uncouple, E_table, E_pass, E_mean, E_lift, E_measure, E_level, E_lay, E_at, E_shape, E_tear, E_copy, E_fit, E_worst, E_pull, E_cut, E_press, E_margin, E_work, E_best, E_first, E_asked, E_count, E_finding, E_findings, E_digest⟩ := EA
  intro nn
  induction nn with
  | zero =>
    intro i cn h1 h2 h3
    exact absurd h3 (by omega)
  | succ nn ih =>
    intro i cn hic hiN hin B L R T U V M Lm hR H locs hP hD hS ls hl
    obtain ⟨hx, hb, hr, hml, hown, hts, hX, hbl, hlocks, hgv⟩ := id C0
    have hA : ∀ q : Nat, s.heap.size ≤ q → (fun q : Nat => s.heap.size ≤ q) q := fun _ h => h
    have hbA : ¬ (fun q : Nat => s.heap.size ≤ q) b := Nat.not_le.mpr hbl
    have hf : 45 ≤ room_1.cells ∧ 1295 ≤ room_1.slots := ⟨Nat.le_of_ble_eq_true rfl, Nat.le_of_ble_eq_true rfl⟩
    refine lv_iload_n hx hb dL_law_18 rfl (lv_at hl 3 rfl) ?_
    refine lv_aload_n hx hb dL_law_19 rfl (lv_at hl 0 rfl) ?_
    refine va_slen hx hb hX hbl hbA hS dL_law_20 ?_
    refine lv_bipush (v := (6 : Int32)) hx hb dL_law_21 (by decide) ?_
    refine lv_isub hx hb dL_law_23 ?_
    have e6 : (Int32.ofNat N - (6 : Int32)).toInt = (N : Int) - 6 := by
      have e7 : (Int32.ofNat N).toInt = (N : Int) := nI_ti (j := N) (by omega)
      have e8 : (6 : Int32).toInt = 6 := rfl
      rw [tsub (by rw [e7, e8]; omega) (by rw [e7, e8]; omega), e7, e8]
    refine lv_icmp_gt (tgt := 1244) hx hb dL_law_24 (by decide) (fun c1 => ?_) (fun c1 => ?_)
    · refine lv_iconst (v := 1) hx hb dL_law_1244 (by decide) ?_
      refine va_forget (fun q hq => hS.2.2 q hq) ?_
      refine W.widen (k := 600000) (n := 7302250) (Nat.le_of_ble_eq_true rfl) (Nat.le_of_ble_eq_true rfl) ?_
      exact lw_ret hx hb hr hlocks dL_law_1245
    · have hi : i + 6 ≤ N := by
        rw [ilt, e6, nI_ti (by omega)] at c1
        omega
      have KK : ∀ (B : RG) (L : Int64) (R T U V M : RG) (Lm : Int64), Rel (cn + 1) B L R T U V M Lm → ∀ (H : Heap) (locs : List Loc), va_P D vwCl (xL a a2 k k2 B L R T U V M Lm) H → va_D (fun q : Nat => s.heap.size ≤ q) (xL a a2 k k2 B L R T U V M Lm) → va_S (fun q : Nat => s.heap.size ≤ q) s.heap H locs → ∀ ls : Array Slot, lv_has ls 4 [(0, .ref b), (1, .ref (a 26)), (2, .ref (a2 0)), (3, .int (nI i))] → W p l e room_1 s m #[Value.ref b] below meth c H locs 45 1295 (lw_Z below #[Value.ref b] s) (F0 m 1238 ls []) := by
        intro B L R T U V M Lm hR H locs hP hD hS ls hl
        refine lv_iinc (v := nI (i + 6)) (lv' := [(3, .int (nI (i + 6))), (0, .ref b), (1, .ref (a 26)), (2, .ref (a2 0))]) hx hb dL_law_1238 hl (k := 3) rfl (nI_add i 6) (by decide) rfl (fun ls hl => ?_)
        refine lv_goto (tgt := 18) hx hb dL_law_1241 (by decide) ?_
        exact ih (i + 6) (cn + 1) (by omega) (by omega) (by omega) B L R T U V M Lm hR H locs hP hD hS ls (lv_sub hl [1, 2, 3, 0] rfl)
      refine lv_aload_n hx hb dL_law_27 rfl (lv_at hl 0 rfl) ?_
      refine lv_iload_n hx hb dL_law_28 rfl (lv_at hl 3 rfl) ?_
      refine va_sld hx hb hX hbl hbA hS (vp_in_nI (by omega) (by omega)) dL_law_29 ?_
      refine lv_bipush (v := (63 : Int32)) hx hb dL_law_30 (by decide) ?_
      refine lv_iand hx hb dL_law_32 ?_
      refine lv_topi (fun x ex => ?_)
      by_cases c100 : x = (0 : Int32)
      · refine lv_tableIn (off := 159) (tgt := 192) hx hb dL_law_33 (by rw [c100]; decide) (by rw [c100]; decide) (by rw [c100]; rfl) (by decide) ?_
        exact law_line E_line C0 hnw hK hf (by omega) hR i hi hN KK H locs hP hD hS ls hl
      by_cases c101 : x = (1 : Int32)
      · refine lv_tableIn (off := 182) (tgt := 215) hx hb dL_law_33 (by rw [c101]; decide) (by rw [c101]; decide) (by rw [c101]; rfl) (by decide) ?_
        exact law_sleeper E_sleeper C0 hnw hK hf (by omega) hR i hi hN KK H locs hP hD hS ls hl
      by_cases c102 : x = (2 : Int32)
      · refine lv_tableIn (off := 215) (tgt := 248) hx hb dL_law_33 (by rw [c102]; decide) (by rw [c102]; decide) (by rw [c102]; rfl) (by decide) ?_
        exact law_lose E_lose C0 hnw hK hf (by omega) hR i hi hN KK H locs hP hD hS ls hl
      by_cases c103 : x = (3 : Int32)
      · refine lv_tableIn (off := 264) (tgt := 297) hx hb dL_law_33 (by rw [c103]; decide) (by rw [c103]; decide) (by rw [c103]; rfl) (by decide) ?_
        exact law_bed E_bed C0 hnw hK hf (by omega) hR i hi hN KK H locs hP hD hS ls hl
      by_cases c104 : x = (4 : Int32)
      · refine lv_tableIn (off := 297) (tgt := 330) hx hb dL_law_33 (by rw [c104]; decide) (by rw [c104]; decide) (by rw [c104]; rfl) (by decide) ?_
        exact law_stones E_stones C0 hnw hK hf (by omega) hR i hi hN KK H locs hP hD hS ls hl
      by_cases c105 : x = (5 : Int32)
      · refine lv_tableIn (off := 330) (tgt := 363) hx hb dL_law_33 (by rw [c105]; decide) (by rw [c105]; decide) (by rw [c105]; rfl) (by decide) ?_
        exact law_told E_told C0 hnw hK hf (by omega) hR i hi hN KK H locs hP hD hS ls hl
      by_cases c106 : x = (6 : Int32)
      · refine lv_tableIn (off := 363) (tgt := 396) hx hb dL_law_33 (by rw [c106]; decide) (by rw [c106]; decide) (by rw [c106]; rfl) (by decide) ?_
        exact law_mark E_mark C0 hnw hK hf (by omega) hR i hi hN KK H locs hP hD hS ls hl
      by_cases c107 : x = (7 : Int32)
      · refine lv_tableIn (off := 396) (tgt := 429) hx hb dL_law_33 (by rw [c107]; decide) (by rw [c107]; decide) (by rw [c107]; rfl) (by decide) ?_
        exact law_rail E_rail C0 hnw hK hf (by omega) hR i hi hN KK H locs hP hD hS ls hl
      by_cases c108 : x = (8 : Int32)
      · refine lv_tableIn (off := 419) (tgt := 452) hx hb dL_law_33 (by rw [c108]; decide) (by rw [c108]; decide) (by rw [c108]; rfl) (by decide) ?_
        exact law_gap E_gap C0 hnw hK hf (by omega) hR i hi hN KK H locs hP hD hS ls hl
      by_cases c109 : x = (9 : Int32)
      · refine lv_tableIn (off := 442) (tgt := 475) hx hb dL_law_33 (by rw [c109]; decide) (by rw [c109]; decide) (by rw [c109]; rfl) (by decide) ?_
        exact law_axle E_axle C0 hnw hK hf (by omega) hR i hi hN KK H locs hP hD hS ls hl
      by_cases c110 : x = (10 : Int32)
      · refine lv_tableIn (off := 465) (tgt := 498) hx hb dL_law_33 (by rw [c110]; decide) (by rw [c110]; decide) (by rw [c110]; rfl) (by decide) ?_
        exact law_uncouple E_uncouple C0 hnw hK hf (by omega) hR i hi hN KK H locs hP hD hS ls hl
      by_cases c111 : x = (11 : Int32)
      · refine lv_tableIn (off := 478) (tgt := 511) hx hb dL_law_33 (by rw [c111]; decide) (by rw [c111]; decide) (by rw [c111]; rfl) (by decide) ?_
        exact law_table E_table C0 hnw hK hf (by omega) hR i hi hN KK H locs hP hD hS ls hl
      by_cases c112 : x = (12 : Int32)
      · refine lv_tableIn (off := 511) (tgt := 544) hx hb dL_law_33 (by rw [c112]; decide) (by rw [c112]; decide) (by rw [c112]; rfl) (by decide) ?_
        exact law_pass E_pass C0 hnw hK hf (by omega) hR i hi hN KK H locs hP hD hS ls hl
      by_cases c113 : x = (13 : Int32)
      · refine lv_tableIn (off := 534) (tgt := 567) hx hb dL_law_33 (by rw [c113]; decide) (by rw [c113]; decide) (by rw [c113]; rfl) (by decide) ?_
        exact law_mean E_mean C0 hnw hK hf (by omega) hR i hi hN KK H locs hP hD hS ls hl
      by_cases c114 : x = (14 : Int32)
      · refine lv_tableIn (off := 547) (tgt := 580) hx hb dL_law_33 (by rw [c114]; decide) (by rw [c114]; decide) (by rw [c114]; rfl) (by decide) ?_
        exact law_lift E_lift C0 hnw hK hf (by omega) hR i hi hN KK H locs hP hD hS ls hl
      by_cases c115 : x = (15 : Int32)
      · refine lv_tableIn (off := 590) (tgt := 623) hx hb dL_law_33 (by rw [c115]; decide) (by rw [c115]; decide) (by rw [c115]; rfl) (by decide) ?_
        exact law_measure E_measure C0 hnw hK hf (by omega) hR i hi hN KK H locs hP hD hS ls hl
      by_cases c116 : x = (16 : Int32)
      · refine lv_tableIn (off := 623) (tgt := 656) hx hb dL_law_33 (by rw [c116]; decide) (by rw [c116]; decide) (by rw [c116]; rfl) (by decide) ?_
        exact law_level E_level C0 hnw hK hf (by omega) hR i hi hN KK H locs hP hD hS ls hl
      by_cases c117 : x = (17 : Int32)
      · refine lv_tableIn (off := 646) (tgt := 679) hx hb dL_law_33 (by rw [c117]; decide) (by rw [c117]; decide) (by rw [c117]; rfl) (by decide) ?_
        exact law_lay E_lay C0 hnw hK hf (by omega) hR i hi hN KK H locs hP hD hS ls hl
      by_cases c118 : x = (18 : Int32)
      · refine lv_tableIn (off := 689) (tgt := 722) hx hb dL_law_33 (by rw [c118]; decide) (by rw [c118]; decide) (by rw [c118]; rfl) (by decide) ?_
        exact law_at E_at C0 hnw hK hf (by omega) hR i hi hN KK H locs hP hD hS ls hl
      by_cases c119 : x = (19 : Int32)
      · refine lv_tableIn (off := 722) (tgt := 755) hx hb dL_law_33 (by rw [c119]; decide) (by rw [c119]; decide) (by rw [c119]; rfl) (by decide) ?_
        exact law_shape E_shape C0 hnw hK hf (by omega) hR i hi hN KK H locs hP hD hS ls hl
      by_cases c120 : x = (20 : Int32)
      · refine lv_tableIn (off := 765) (tgt := 798) hx hb dL_law_33 (by rw [c120]; decide) (by rw [c120]; decide) (by rw [c120]; rfl) (by decide) ?_
        exact law_tear E_tear C0 hnw hK hf (by omega) hR i hi hN KK H locs hP hD hS ls hl
      by_cases c121 : x = (21 : Int32)
      · refine lv_tableIn (off := 788) (tgt := 821) hx hb dL_law_33 (by rw [c121]; decide) (by rw [c121]; decide) (by rw [c121]; rfl) (by decide) ?_
        exact law_copy E_copy C0 hnw hK hf (by omega) hR i hi hN KK H locs hP hD hS ls hl
      by_cases c122 : x = (22 : Int32)
      · refine lv_tableIn (off := 851) (tgt := 884) hx hb dL_law_33 (by rw [c122]; decide) (by rw [c122]; decide) (by rw [c122]; rfl) (by decide) ?_
        exact law_fit E_fit C0 hnw hK hf (by omega) hR i hi hN KK H locs hP hD hS ls hl
      by_cases c123 : x = (23 : Int32)
      · refine lv_tableIn (off := 884) (tgt := 917) hx hb dL_law_33 (by rw [c123]; decide) (by rw [c123]; decide) (by rw [c123]; rfl) (by decide) ?_
        exact law_worst E_worst C0 hnw hK hf (by omega) hR i hi hN KK H locs hP hD hS ls hl
      by_cases c124 : x = (24 : Int32)
      · refine lv_tableIn (off := 907) (tgt := 940) hx hb dL_law_33 (by rw [c124]; decide) (by rw [c124]; decide) (by rw [c124]; rfl) (by decide) ?_
        exact law_pull E_pull C0 hnw hK hf (by omega) hR i hi hN KK H locs hP hD hS ls hl
      by_cases c125 : x = (25 : Int32)
      · refine lv_tableIn (off := 940) (tgt := 973) hx hb dL_law_33 (by rw [c125]; decide) (by rw [c125]; decide) (by rw [c125]; rfl) (by decide) ?_
        exact law_cut E_cut C0 hnw hK hf (by omega) hR i hi hN KK H locs hP hD hS ls hl
      by_cases c126 : x = (26 : Int32)
      · refine lv_tableIn (off := 973) (tgt := 1006) hx hb dL_law_33 (by rw [c126]; decide) (by rw [c126]; decide) (by rw [c126]; rfl) (by decide) ?_
        exact law_press E_press C0 hnw hK hf (by omega) hR i hi hN KK H locs hP hD hS ls hl
      by_cases c127 : x = (27 : Int32)
      · refine lv_tableIn (off := 1006) (tgt := 1039) hx hb dL_law_33 (by rw [c127]; decide) (by rw [c127]; decide) (by rw [c127]; rfl) (by decide) ?_
        exact law_margin E_margin C0 hnw hK hf (by omega) hR i hi hN KK H locs hP hD hS ls hl
      by_cases c128 : x = (28 : Int32)
      · refine lv_tableIn (off := 1039) (tgt := 1072) hx hb dL_law_33 (by rw [c128]; decide) (by rw [c128]; decide) (by rw [c128]; rfl) (by decide) ?_
        exact law_work E_work C0 hnw hK hf (by omega) hR i hi hN KK H locs hP hD hS ls hl
      by_cases c129 : x = (29 : Int32)
      · refine lv_tableIn (off := 1072) (tgt := 1105) hx hb dL_law_33 (by rw [c129]; decide) (by rw [c129]; decide) (by rw [c129]; rfl) (by decide) ?_
        exact law_best E_best C0 hnw hK hf (by omega) hR i hi hN KK H locs hP hD hS ls hl
      by_cases c130 : x = (30 : Int32)
      · refine lv_tableIn (off := 1095) (tgt := 1128) hx hb dL_law_33 (by rw [c130]; decide) (by rw [c130]; decide) (by rw [c130]; rfl) (by decide) ?_
        exact law_first E_first C0 hnw hK hf (by omega) hR i hi hN KK H locs hP hD hS ls hl
      by_cases c131 : x = (31 : Int32)
      · refine lv_tableIn (off := 1118) (tgt := 1151) hx hb dL_law_33 (by rw [c131]; decide) (by rw [c131]; decide) (by rw [c131]; rfl) (by decide) ?_
        exact law_asked E_asked C0 hnw hK hf (by omega) hR i hi hN KK H locs hP hD hS ls hl
      by_cases c132 : x = (32 : Int32)
      · refine lv_tableIn (off := 1132) (tgt := 1165) hx hb dL_law_33 (by rw [c132]; decide) (by rw [c132]; decide) (by rw [c132]; rfl) (by decide) ?_
        exact law_count E_count C0 hnw hK hf (by omega) hR i hi hN KK H locs hP hD hS ls hl
      by_cases c133 : x = (33 : Int32)
      · refine lv_tableIn (off := 1155) (tgt := 1188) hx hb dL_law_33 (by rw [c133]; decide) (by rw [c133]; decide) (by rw [c133]; rfl) (by decide) ?_
        exact law_finding E_finding C0 hnw hK hf (by omega) hR i hi hN KK H locs hP hD hS ls hl
      by_cases c134 : x = (34 : Int32)
      · refine lv_tableIn (off := 1168) (tgt := 1201) hx hb dL_law_33 (by rw [c134]; decide) (by rw [c134]; decide) (by rw [c134]; rfl) (by decide) ?_
        exact law_findings E_findings C0 hnw hK hf (by omega) hR i hi hN KK H locs hP hD hS ls hl
      by_cases c135 : x = (35 : Int32)
      · refine lv_tableIn (off := 1191) (tgt := 1224) hx hb dL_law_33 (by rw [c135]; decide) (by rw [c135]; decide) (by rw [c135]; rfl) (by decide) ?_
        exact law_digest E_digest C0 hnw hK hf (by omega) hR i hi hN KK H locs hP hD hS ls hl
      have e100 : ¬ x.toInt = 0 := fun e => c100 (Int32.toInt_inj.mp (show x.toInt = (0 : Int32).toInt from e))
      have e101 : ¬ x.toInt = 1 := fun e => c101 (Int32.toInt_inj.mp (show x.toInt = (1 : Int32).toInt from e))
      have e102 : ¬ x.toInt = 2 := fun e => c102 (Int32.toInt_inj.mp (show x.toInt = (2 : Int32).toInt from e))
      have e103 : ¬ x.toInt = 3 := fun e => c103 (Int32.toInt_inj.mp (show x.toInt = (3 : Int32).toInt from e))
      have e104 : ¬ x.toInt = 4 := fun e => c104 (Int32.toInt_inj.mp (show x.toInt = (4 : Int32).toInt from e))
      have e105 : ¬ x.toInt = 5 := fun e => c105 (Int32.toInt_inj.mp (show x.toInt = (5 : Int32).toInt from e))
      have e106 : ¬ x.toInt = 6 := fun e => c106 (Int32.toInt_inj.mp (show x.toInt = (6 : Int32).toInt from e))
      have e107 : ¬ x.toInt = 7 := fun e => c107 (Int32.toInt_inj.mp (show x.toInt = (7 : Int32).toInt from e))
      have e108 : ¬ x.toInt = 8 := fun e => c108 (Int32.toInt_inj.mp (show x.toInt = (8 : Int32).toInt from e))
      have e109 : ¬ x.toInt = 9 := fun e => c109 (Int32.toInt_inj.mp (show x.toInt = (9 : Int32).toInt from e))
      have e110 : ¬ x.toInt = 10 := fun e => c110 (Int32.toInt_inj.mp (show x.toInt = (10 : Int32).toInt from e))
      have e111 : ¬ x.toInt = 11 := fun e => c111 (Int32.toInt_inj.mp (show x.toInt = (11 : Int32).toInt from e))
      have e112 : ¬ x.toInt = 12 := fun e => c112 (Int32.toInt_inj.mp (show x.toInt = (12 : Int32).toInt from e))
      have e113 : ¬ x.toInt = 13 := fun e => c113 (Int32.toInt_inj.mp (show x.toInt = (13 : Int32).toInt from e))
      have e114 : ¬ x.toInt = 14 := fun e => c114 (Int32.toInt_inj.mp (show x.toInt = (14 : Int32).toInt from e))
      have e115 : ¬ x.toInt = 15 := fun e => c115 (Int32.toInt_inj.mp (show x.toInt = (15 : Int32).toInt from e))
      have e116 : ¬ x.toInt = 16 := fun e => c116 (Int32.toInt_inj.mp (show x.toInt = (16 : Int32).toInt from e))
      have e117 : ¬ x.toInt = 17 := fun e => c117 (Int32.toInt_inj.mp (show x.toInt = (17 : Int32).toInt from e))
      have e118 : ¬ x.toInt = 18 := fun e => c118 (Int32.toInt_inj.mp (show x.toInt = (18 : Int32).toInt from e))
      have e119 : ¬ x.toInt = 19 := fun e => c119 (Int32.toInt_inj.mp (show x.toInt = (19 : Int32).toInt from e))
      have e120 : ¬ x.toInt = 20 := fun e => c120 (Int32.toInt_inj.mp (show x.toInt = (20 : Int32).toInt from e))
      have e121 : ¬ x.toInt = 21 := fun e => c121 (Int32.toInt_inj.mp (show x.toInt = (21 : Int32).toInt from e))
      have e122 : ¬ x.toInt = 22 := fun e => c122 (Int32.toInt_inj.mp (show x.toInt = (22 : Int32).toInt from e))
      have e123 : ¬ x.toInt = 23 := fun e => c123 (Int32.toInt_inj.mp (show x.toInt = (23 : Int32).toInt from e))
      have e124 : ¬ x.toInt = 24 := fun e => c124 (Int32.toInt_inj.mp (show x.toInt = (24 : Int32).toInt from e))
      have e125 : ¬ x.toInt = 25 := fun e => c125 (Int32.toInt_inj.mp (show x.toInt = (25 : Int32).toInt from e))
      have e126 : ¬ x.toInt = 26 := fun e => c126 (Int32.toInt_inj.mp (show x.toInt = (26 : Int32).toInt from e))
      have e127 : ¬ x.toInt = 27 := fun e => c127 (Int32.toInt_inj.mp (show x.toInt = (27 : Int32).toInt from e))
      have e128 : ¬ x.toInt = 28 := fun e => c128 (Int32.toInt_inj.mp (show x.toInt = (28 : Int32).toInt from e))
      have e129 : ¬ x.toInt = 29 := fun e => c129 (Int32.toInt_inj.mp (show x.toInt = (29 : Int32).toInt from e))
      have e130 : ¬ x.toInt = 30 := fun e => c130 (Int32.toInt_inj.mp (show x.toInt = (30 : Int32).toInt from e))
      have e131 : ¬ x.toInt = 31 := fun e => c131 (Int32.toInt_inj.mp (show x.toInt = (31 : Int32).toInt from e))
      have e132 : ¬ x.toInt = 32 := fun e => c132 (Int32.toInt_inj.mp (show x.toInt = (32 : Int32).toInt from e))
      have e133 : ¬ x.toInt = 33 := fun e => c133 (Int32.toInt_inj.mp (show x.toInt = (33 : Int32).toInt from e))
      have e134 : ¬ x.toInt = 34 := fun e => c134 (Int32.toInt_inj.mp (show x.toInt = (34 : Int32).toInt from e))
      have e135 : ¬ x.toInt = 35 := fun e => c135 (Int32.toInt_inj.mp (show x.toInt = (35 : Int32).toInt from e))
      refine lv_tableOut (tgt := 1238) hx hb dL_law_33 (by omega) (by decide) ?_
      exact KK B L R T U V M Lm hR.up H locs hP hD hS ls hl
theorem nwF_in : ∀ q ∈ nwF, Cond.fieldLinkNest q.1 q.2.1 q.2.2.1 q.2.2.2.1 q.2.2.2.2.1 q.2.2.2.2.2 ∈ lw_tbl := by decide +kernel
theorem nwM_in : ∀ q ∈ nwM, Cond.methodLinkNest q.1 q.2.1 q.2.2.1 q.2.2.2 ∈ lw_tbl := by decide +kernel
set_option maxHeartbeats 4000000 in
set_option maxRecDepth 100000 in
theorem whole_start_open (EA : EQ_all) (EI : EQ_init) {p : Program} {e : Env} {s : State} {m : MethodId} {below : List Frame} {meth : Method} {c : Code} (l : Launch) (hflags : l.flags = flags0) {b L : Nat} {xs : Nat → Int32} (hL : L ≤ 3072) (C0 : lw_At p s m meth c b L xs) : W p l e room_1 s m #[Value.ref b] below meth c s.heap [] 0 0 (lw_Z below #[Value.ref b] s) (entryFrame m ([Value.ref b] : List Value).toArray 4) := by
  obtain ⟨hx, hb, hr, hml, hown, hts, hX, hbl, hlocks, hgv⟩ := id C0
  have hA : ∀ q : Nat, s.heap.size ≤ q → (fun q : Nat => s.heap.size ≤ q) q := fun _ h => h
  have hbA : ¬ (fun q : Nat => s.heap.size ≤ q) b := Nat.not_le.mpr hbl
  obtain ⟨cc0, ii0, hKn0⟩ := u_known (C := RX0) (T := TX0) (N := 2) (n := 2) hts in_wsX00 (hts (.instantiable RX0 2) (by decide +kernel))
  obtain ⟨cc1, ii1, hKn1⟩ := u_known (C := RX1) (T := TX1) (N := 8) (n := 8) hts in_wsX10 (hts (.instantiable RX1 8) (by decide +kernel))
  obtain ⟨cc2, ii2, hKn2⟩ := u_known (C := RX2) (T := TX2) (N := 3) (n := 3) hts in_wsX20 (hts (.instantiable RX2 3) (by decide +kernel))
  obtain ⟨cc3, ii3, hKn3⟩ := u_known (C := RX3) (T := TX3) (N := 6) (n := 6) hts in_wsX30 (hts (.instantiable RX3 6) (by decide +kernel))
  obtain ⟨cc4, ii4, hKn4⟩ := u_known (C := RX4) (T := TX4) (N := 8) (n := 8) hts in_wsX40 (hts (.instantiable RX4 8) (by decide +kernel))
  obtain ⟨cc5, ii5, hKn5⟩ := u_known (C := RX5) (T := TX5) (N := 20) (n := 20) hts in_wsX50 (hts (.instantiable RX5 20) (by decide +kernel))
  obtain ⟨dC, dI, hKc⟩ : ∃ (dC : Nat → ClassId) (dI : Nat → Nat → Nat), ∀ (k : Nat) (q : vw_C), vwCl[k]? = some q → u_Kn s q.1 q.2.1 q.2.2 (dC k) (dI k) := by
    refine ⟨fun k => if k = 0 then cc0 else if k = 1 then cc1 else if k = 2 then cc2 else if k = 3 then cc3 else if k = 4 then cc4 else cc5, fun k => if k = 0 then ii0 else if k = 1 then ii1 else if k = 2 then ii2 else if k = 3 then ii3 else if k = 4 then ii4 else ii5, ?_⟩
    intro k q hq
    match k, hq with
    | 0, hq => cases hq; exact hKn0
    | 1, hq => cases hq; exact hKn1
    | 2, hq => cases hq; exact hKn2
    | 3, hq => cases hq; exact hKn3
    | 4, hq => cases hq; exact hKn4
    | 5, hq => cases hq; exact hKn5
    | k + 6, hq => simp [vwCl] at hq
  obtain ⟨D, hDe⟩ : ∃ D : va_G, D = (dC, dI) := ⟨_, rfl⟩
  have hnw : nw s := ⟨fun q hq => va_Nw.of rfl (hts _ (nwF_in q hq)), fun q hq => va_Nw.of rfl (hts _ (nwM_in q hq))⟩
  have hao : va_AOA .int s := hts (.arrayOver (.array .int)) (by decide +kernel)
  have hS : va_S (fun q : Nat => s.heap.size ≤ q) s.heap s.heap [] := va_S.rf
  have hK : va_K D vwCl [] s := by rw [hDe]; exact ⟨hKc, fun k q h => by simp at h⟩
  have hP : va_P D vwCl [] s.heap := fun k q h => by simp at h
  have hD : va_D (fun q : Nat => s.heap.size ≤ q) [] := ⟨fun i j p q h => by simp at h, fun k q h => by simp at h⟩
  have hl := lv_entry ([.ref b]) (n := 4) (Nat.le_of_ble_eq_true rfl)
  rw [lg_entry_eq]
  generalize (lg_sl ([.ref b]) ++ List.replicate (4 - (lg_sl ([.ref b])).length) Slot.unset).toArray = ls at hl ⊢
  have hl : lv_has ls 4 [(0, .ref b)] := hl
  obtain ⟨T1, r1, M1, hT1, hM1, hR0⟩ := EI
  refine va_new (ci := 4) (fs := [.null, .null, .null, .null, .null, .null, .int 0, .long 0]) (C := RX4) (T := TX4) (N := 8) hx hb hts in_wsX40 tyX4 tyX4_ok hown (hts (.classLink RL 7 RX4) (by decide +kernel)) (hts (.instantiable RX4 8) (by decide +kernel)) (hts (.initialized RX4) (by decide +kernel)) hK hP hD hS hA rfl (fun j hj => by rcases (show j = 0 ∨ j = 1 ∨ j = 2 ∨ j = 3 ∨ j = 4 ∨ j = 5 ∨ j = 6 ∨ j = 7 by omega) with rfl | rfl | rfl | rfl | rfl | rfl | rfl | rfl <;> rfl) (Nat.le_of_ble_eq_true rfl) (Nat.le_of_ble_eq_true rfl) dL_law_0 (fun t4 H hP hD hS => ?_)
  have hP : va_P D vwCl ([(t4, .inr (4, [.null, .null, .null, .null, .null, .null, .int 0, .long 0]))] : va_W) H := hP
  have hD : va_D (fun q : Nat => s.heap.size ≤ q) ([(t4, .inr (4, [.null, .null, .null, .null, .null, .null, .int 0, .long 0]))] : va_W) := hD
  refine W.widen (k := 1) (n := 8) (Nat.le_of_ble_eq_true rfl) (Nat.le_of_ble_eq_true rfl) ?_
  refine lv_dup hx hb dL_law_3 rfl ?_
  have hPc := hP.sub (ws' := ([(t4, .inr (4, [.null, .null, .null, .null, .null, .null, .int 0, .long 0]))] : va_W)) [0] rfl
  have hDc := hD.sub (ws' := ([(t4, .inr (4, [.null, .null, .null, .null, .null, .null, .int 0, .long 0]))] : va_W)) [0] (by decide) rfl
  have hKc := hK.sub (tys' := []) [] rfl
  have hFc := va_free (wc := ([(t4, .inr (4, [.null, .null, .null, .null, .null, .null, .int 0, .long 0]))] : va_W)) hD hS hA [0] rfl
  refine va_callv (va_runI (As := []) (rest := [.ref t4]) ⟨hx, hb, hml, hown, hts⟩ (c_X4_init l D t4 H.size T1 hT1) (cwI 0 hts (gl_in gL_law_X4_init) rfl rfl rfl (hts (.initialized RX4) (by decide +kernel)) (hts (.methodLink RL 9 yX4_init) (by decide +kernel)) (hts (.instanceMethod yX4_init) (by decide +kernel)) rfl (by decide +kernel) ⟨Nat.le_of_ble_eq_true rfl, Nat.le_of_ble_eq_true rfl⟩) ⟨mPcA_blind, fun U hU hW => ⟨rfl, by rw [hU], ⟨nw.warm hW hnw, va_AOA.moved hW.alike hao⟩, by rw [hU]; exact hPc, va_K.moved hW.alike hKc, hDc.weaken (fun _ _ _ _ => trivial)⟩⟩ rfl rfl hl.1 rfl (lv_room (Nat.le_of_ble_eq_true rfl)) dL_law_4 ⟨Nat.le_of_ble_eq_true rfl, Nat.le_of_ble_eq_true rfl⟩) hS (fun q _ h => hFc q h) hFc (fun u t H1 locs ht hvm hw hB hz1 hk1 hS => ?_)
  obtain ⟨a, k, e4, hP1, hK1, hD1⟩ := hB
  rw [ht] at hP1
  have hK1 := va_K.moved hvm.symm hK1
  subst e4
  obtain ⟨hP, hD⟩ := va_join (wr := []) (w1 := xX a k (st (st (st (st (fun _ _ => 0) 4 0 250) 4 1 250) 4 2 250) 4 3 250) 0 (fun _ _ => 0) T1 (fun _ _ => 0) (fun _ _ => 0)) hP hD [0] [] rfl rfl (by decide) (by decide) hk1 hFc hP1 hD1
  have hK := (hK.sub (tys' := []) [] rfl).app hK1
  generalize H1 = H at hP hS ⊢
  have hP : va_P D vwCl (xX a k (st (st (st (st (fun _ _ => 0) 4 0 250) 4 1 250) 4 2 250) 4 3 250) 0 (fun _ _ => 0) T1 (fun _ _ => 0) (fun _ _ => 0)) H := hP
  have hD : va_D (fun q : Nat => s.heap.size ≤ q) (xX a k (st (st (st (st (fun _ _ => 0) 4 0 250) 4 1 250) 4 2 250) 4 3 250) 0 (fun _ _ => 0) T1 (fun _ _ => 0) (fun _ _ => 0)) := hD
  have hK : va_K D vwCl (tX k) s := hK
  refine W.widen (k := 29) (n := 675) (Nat.le_of_ble_eq_true rfl) (Nat.le_of_ble_eq_true rfl) ?_
  refine lv_astore_n (lv' := [(1, .ref (a 26)), (0, .ref b)]) hx hb dL_law_7 rfl hl (by decide) rfl (fun ls hl => ?_)
  refine va_new (ci := 5) (fs := [.int 0, .null, .long 0, .int 0, .null, .null, .null, .null, .null, .null, .null, .int 0, .null, .null, .null, .null, .null, .int 0, .null, .null]) (C := RX5) (T := TX5) (N := 20) hx hb hts in_wsX50 tyX5 tyX5_ok hown (hts (.classLink RL 10 RX5) (by decide +kernel)) (hts (.instantiable RX5 20) (by decide +kernel)) (hts (.initialized RX5) (by decide +kernel)) hK hP hD hS hA rfl (fun j hj => by rcases (show j = 0 ∨ j = 1 ∨ j = 2 ∨ j = 3 ∨ j = 4 ∨ j = 5 ∨ j = 6 ∨ j = 7 ∨ j = 8 ∨ j = 9 ∨ j = 10 ∨ j = 11 ∨ j = 12 ∨ j = 13 ∨ j = 14 ∨ j = 15 ∨ j = 16 ∨ j = 17 ∨ j = 18 ∨ j = 19 by omega) with rfl | rfl | rfl | rfl | rfl | rfl | rfl | rfl | rfl | rfl | rfl | rfl | rfl | rfl | rfl | rfl | rfl | rfl | rfl | rfl <;> rfl) (Nat.le_of_ble_eq_true rfl) (Nat.le_of_ble_eq_true rfl) dL_law_8 (fun t5 H hP hD hS => ?_)
  have hP : va_P D vwCl (xX a k (st (st (st (st (fun _ _ => 0) 4 0 250) 4 1 250) 4 2 250) 4 3 250) 0 (fun _ _ => 0) T1 (fun _ _ => 0) (fun _ _ => 0) ++ ([(t5, .inr (5, [.int 0, .null, .long 0, .int 0, .null, .null, .null, .null, .null, .null, .null, .int 0, .null, .null, .null, .null, .null, .int 0, .null, .null]))] : va_W)) H := hP
  have hD : va_D (fun q : Nat => s.heap.size ≤ q) (xX a k (st (st (st (st (fun _ _ => 0) 4 0 250) 4 1 250) 4 2 250) 4 3 250) 0 (fun _ _ => 0) T1 (fun _ _ => 0) (fun _ _ => 0) ++ ([(t5, .inr (5, [.int 0, .null, .long 0, .int 0, .null, .null, .null, .null, .null, .null, .null, .int 0, .null, .null, .null, .null, .null, .int 0, .null, .null]))] : va_W)) := hD
  refine W.widen (k := 30) (n := 695) (Nat.le_of_ble_eq_true rfl) (Nat.le_of_ble_eq_true rfl) ?_
  refine lv_dup hx hb dL_law_11 rfl ?_
  have hPc := hP.sub (ws' := ([(t5, .inr (5, [.int 0, .null, .long 0, .int 0, .null, .null, .null, .null, .null, .null, .null, .int 0, .null, .null, .null, .null, .null, .int 0, .null, .null]))] : va_W)) [29] rfl
  have hDc := hD.sub (ws' := ([(t5, .inr (5, [.int 0, .null, .long 0, .int 0, .null, .null, .null, .null, .null, .null, .null, .int 0, .null, .null, .null, .null, .null, .int 0, .null, .null]))] : va_W)) [29] (by decide) rfl
  have hKc := hK.sub (tys' := []) [] rfl
  have hFc := va_free (wc := ([(t5, .inr (5, [.int 0, .null, .long 0, .int 0, .null, .null, .null, .null, .null, .null, .null, .int 0, .null, .null, .null, .null, .null, .int 0, .null, .null]))] : va_W)) hD hS hA [29] rfl
  refine va_callv (va_runI (As := []) (rest := [.ref t5]) ⟨hx, hb, hml, hown, hts⟩ (c_X5_init l D t5 H.size r1 M1 hM1) (cwI 0 hts (gl_in gL_law_X5_init) rfl rfl rfl (hts (.initialized RX5) (by decide +kernel)) (hts (.methodLink RL 12 yX5_init) (by decide +kernel)) (hts (.instanceMethod yX5_init) (by decide +kernel)) rfl (by decide +kernel) ⟨Nat.le_of_ble_eq_true rfl, Nat.le_of_ble_eq_true rfl⟩) ⟨mPc_blind, fun U hU hW => ⟨rfl, by rw [hU], nw.warm hW hnw, by rw [hU]; exact hPc, va_K.moved hW.alike hKc, hDc.weaken (fun _ _ _ _ => trivial)⟩⟩ rfl rfl hl.1 rfl (lv_room (Nat.le_of_ble_eq_true rfl)) dL_law_12 ⟨Nat.le_of_ble_eq_true rfl, Nat.le_of_ble_eq_true rfl⟩) hS (fun q _ h => hFc q h) hFc (fun u t H1 locs ht hvm hw hB hz1 hk1 hS => ?_)
  obtain ⟨a2, k2, e5, hP1, hK1, hD1⟩ := hB
  rw [ht] at hP1
  have hK1 := va_K.moved hvm.symm hK1
  subst e5
  obtain ⟨hP, hD⟩ := va_join (wr := xX a k (st (st (st (st (fun _ _ => 0) 4 0 250) 4 1 250) 4 2 250) 4 3 250) 0 (fun _ _ => 0) T1 (fun _ _ => 0) (fun _ _ => 0)) (w1 := xM a2 k2 M1 0) hP hD [29] [0, 1, 2, 3, 4, 5, 6, 7, 8, 9, 10, 11, 12, 13, 14, 15, 16, 17, 18, 19, 20, 21, 22, 23, 24, 25, 26, 27, 28] rfl rfl (by decide) (by decide) hk1 hFc hP1 hD1
  have hK := (hK.sub (tys' := tX k) [0, 1, 2, 3, 4, 5, 6, 7, 8, 9, 10, 11, 12, 13, 14, 15, 16, 17, 18, 19, 20, 21, 22, 23] rfl).app hK1
  generalize H1 = H at hP hS ⊢
  have hP : va_P D vwCl (xL a a2 k k2 (st (st (st (st (fun _ _ => 0) 4 0 250) 4 1 250) 4 2 250) 4 3 250) 0 (fun _ _ => 0) T1 (fun _ _ => 0) (fun _ _ => 0) M1 0) H := hP
  have hD : va_D (fun q : Nat => s.heap.size ≤ q) (xL a a2 k k2 (st (st (st (st (fun _ _ => 0) 4 0 250) 4 1 250) 4 2 250) 4 3 250) 0 (fun _ _ => 0) T1 (fun _ _ => 0) (fun _ _ => 0) M1 0) := hD
  have hK : va_K D vwCl (tL k k2) s := hK
  refine W.widen (k := 45) (n := 1295) (Nat.le_of_ble_eq_true rfl) (Nat.le_of_ble_eq_true rfl) ?_
  refine lv_astore_n (lv' := [(2, .ref (a2 0)), (1, .ref (a 26)), (0, .ref b)]) hx hb dL_law_15 rfl hl (by decide) rfl (fun ls hl => ?_)
  refine lv_iconst (v := 0) hx hb dL_law_16 (by decide) ?_
  refine lv_istore_n (lv' := [(3, .int 0), (2, .ref (a2 0)), (1, .ref (a 26)), (0, .ref b)]) hx hb dL_law_17 rfl hl (by decide) rfl (fun ls hl => ?_)
  exact law_loop EA C0 hnw hK hL (L + 1) 0 0 rfl (Nat.zero_le _) (by omega) _ _ _ _ _ _ _ _ hR0 H locs hP hD hS ls (lv_sub hl [3, 2, 1, 0] rfl)
