theorem eq_line {c : Nat} {B : RG} {L : Int64} {R T U V M : RG} {Lm : Int64} (hc : c < 512) (h : Rel c B L R T U V M Lm) (p0 : Int32) : ∃ (r : Int32) (T1 : RG) (M1 : RG), f_X4_line T p0 = some (r, T1) ∧ f_X5_line M p0 = some (r, M1) ∧ Rel (c + 1) B L R T1 U V M1 Lm := by
  sorry
theorem eq_sleeper {c : Nat} {B : RG} {L : Int64} {R T U V M : RG} {Lm : Int64} (hc : c < 512) (h : Rel c B L R T U V M Lm) (p0 p1 : Int32) : ∃ (r : Int32) (T1 : RG) (M1 : RG), f_X4_sleeper T p0 p1 = some (r, T1) ∧ f_X5_sleeper M p0 p1 = some (r, M1) ∧ Rel (c + 1) B L R T1 U V M1 Lm := by
  sorry
theorem eq_lose {c : Nat} {B : RG} {L : Int64} {R T U V M : RG} {Lm : Int64} (hc : c < 512) (h : Rel c B L R T U V M Lm) (p0 p1 : Int32) (hz : p1 = 0 ∨ p1 = 1) : ∃ (r : Int32) (T1 : RG) (M1 : RG), f_X4_lose T p0 p1 = some (r, T1) ∧ f_X5_lose M p0 p1 = some (r, M1) ∧ Rel (c + 1) B L R T1 U V M1 Lm := by
  sorry
theorem eq_bed {c : Nat} {B : RG} {L : Int64} {R T U V M : RG} {Lm : Int64} (hc : c < 512) (h : Rel c B L R T U V M Lm) (p0 p1 : Int32) : ∃ (r : Int32) (B1 : RG) (L1 : Int64) (T1 : RG) (M1 : RG) (Lm1 : Int64), f_X4_bed B L T p0 p1 = some (r, B1, L1, T1) ∧ f_X5_bed M Lm p0 p1 = some (r, M1, Lm1) ∧ Rel (c + 1) B1 L1 R T1 U V M1 Lm1 := by
  sorry
theorem eq_stones {c : Nat} {B : RG} {L : Int64} {R T U V M : RG} {Lm : Int64} (hc : c < 512) (h : Rel c B L R T U V M Lm) (p0 p1 : Int32) : ∃ (r : Int32) (B1 : RG) (T1 : RG) (M1 : RG), f_X4_stones B T p0 p1 = some (r, B1, T1) ∧ f_X5_stones M p0 p1 = some (r, M1) ∧ Rel (c + 1) B1 L R T1 U V M1 Lm := by
  sorry
theorem eq_told {c : Nat} {B : RG} {L : Int64} {R T U V M : RG} {Lm : Int64} (hc : c < 512) (h : Rel c B L R T U V M Lm) (p0 p1 : Int32) : ∃ (r : Int32), f_X4_told T p0 p1 = some r ∧ f_X5_told M p0 p1 = some r ∧ Rel (c + 1) B L R T U V M Lm := by
  sorry
theorem eq_mark {c : Nat} {B : RG} {L : Int64} {R T U V M : RG} {Lm : Int64} (hc : c < 512) (h : Rel c B L R T U V M Lm) (p0 p1 : Int32) : ∃ (r : Int32) (B1 : RG) (M1 : RG), f_X4_mark B T p0 p1 = some (r, B1) ∧ f_X5_mark M p0 p1 = some (r, M1) ∧ Rel (c + 1) B1 L R T U V M1 Lm := by
  sorry
theorem eq_rail {c : Nat} {B : RG} {L : Int64} {R T U V M : RG} {Lm : Int64} (hc : c < 512) (h : Rel c B L R T U V M Lm) (p0 : Int32) : ∃ (r : Int32) (L1 : Int64) (Lm1 : Int64), f_X4_rail L T p0 = some (r, L1) ∧ f_X5_rail M Lm p0 = some (r, Lm1) ∧ Rel (c + 1) B L1 R T U V M Lm1 := by
  sorry
theorem eq_gap {c : Nat} {B : RG} {L : Int64} {R T U V M : RG} {Lm : Int64} (hc : c < 512) (h : Rel c B L R T U V M Lm) (p0 : Int32) : ∃ (r : Int32) (B1 : RG) (M1 : RG), f_X4_gap B T p0 = some (r, B1) ∧ f_X5_gap M p0 = some (r, M1) ∧ Rel (c + 1) B1 L R T U V M1 Lm := by
  sorry
theorem eq_axle {c : Nat} {B : RG} {L : Int64} {R T U V M : RG} {Lm : Int64} (hc : c < 512) (h : Rel c B L R T U V M Lm) (p0 : Int32) : ∃ (r : Int32) (R1 : RG) (M1 : RG), f_X4_axle R p0 = some (r, R1) ∧ f_X5_axle M p0 = some (r, M1) ∧ Rel (c + 1) B L R1 T U V M1 Lm := by
  sorry
theorem eq_uncouple {c : Nat} {B : RG} {L : Int64} {R T U V M : RG} {Lm : Int64} (hc : c < 512) (h : Rel c B L R T U V M Lm) : ∃ (r : Int32) (R1 : RG) (M1 : RG), f_X4_uncouple R = some (r, R1) ∧ f_X5_uncouple M = some (r, M1) ∧ Rel (c + 1) B L R1 T U V M1 Lm := by
  sorry
theorem eq_table {c : Nat} {B : RG} {L : Int64} {R T U V M : RG} {Lm : Int64} (hc : c < 512) (h : Rel c B L R T U V M Lm) (p0 p1 : Int32) : ∃ (r : Int32) (R1 : RG) (M1 : RG), f_X4_table R p0 p1 = some (r, R1) ∧ f_X5_table M p0 p1 = some (r, M1) ∧ Rel (c + 1) B L R1 T U V M1 Lm := by
  sorry
theorem eq_pass {c : Nat} {B : RG} {L : Int64} {R T U V M : RG} {Lm : Int64} (hc : c < 512) (h : Rel c B L R T U V M Lm) (p0 : Int32) : ∃ (r : Int32) (T1 : RG) (M1 : RG), f_X4_pass R T p0 = some (r, T1) ∧ f_X5_pass M p0 = some (r, M1) ∧ Rel (c + 1) B L R T1 U V M1 Lm := by
  sorry
theorem eq_mean {c : Nat} {B : RG} {L : Int64} {R T U V M : RG} {Lm : Int64} (hc : c < 512) (h : Rel c B L R T U V M Lm) : ∃ (r : Int32) (B1 : RG) (L1 : Int64) (M1 : RG) (Lm1 : Int64), f_X4_mean B L T = some (r, B1, L1) ∧ f_X5_mean M Lm = some (r, M1, Lm1) ∧ Rel (c + 1) B1 L1 R T U V M1 Lm1 := by
  sorry
theorem eq_lift {c : Nat} {B : RG} {L : Int64} {R T U V M : RG} {Lm : Int64} (hc : c < 512) (h : Rel c B L R T U V M Lm) (p0 p1 p2 : Int32) : ∃ (r : Int32) (T1 : RG) (M1 : RG), f_X4_lift T p0 p1 p2 = some (r, T1) ∧ f_X5_lift M p0 p1 p2 = some (r, M1) ∧ Rel (c + 1) B L R T1 U V M1 Lm := by
  sorry
theorem eq_measure {c : Nat} {B : RG} {L : Int64} {R T U V M : RG} {Lm : Int64} (hc : c < 512) (h : Rel c B L R T U V M Lm) (p0 p1 : Int32) : ∃ (r : Int32) (U1 : RG) (M1 : RG), f_X4_measure T U p0 p1 = some (r, U1) ∧ f_X5_measure M p0 p1 = some (r, M1) ∧ Rel (c + 1) B L R T U1 V M1 Lm := by
  sorry
theorem eq_level {c : Nat} {B : RG} {L : Int64} {R T U V M : RG} {Lm : Int64} (hc : c < 512) (h : Rel c B L R T U V M Lm) (p0 : Int32) : ∃ (r : Int32) (U1 : RG) (M1 : RG), f_X4_level T U p0 = some (r, U1) ∧ f_X5_level M p0 = some (r, M1) ∧ Rel (c + 1) B L R T U1 V M1 Lm := by
  sorry
theorem eq_lay {c : Nat} {B : RG} {L : Int64} {R T U V M : RG} {Lm : Int64} (hc : c < 512) (h : Rel c B L R T U V M Lm) (p0 p1 p2 : Int32) : ∃ (r : Int32) (B1 : RG) (L1 : Int64) (U1 : RG) (M1 : RG) (Lm1 : Int64), f_X4_lay B L U p0 p1 p2 = some (r, B1, L1, U1) ∧ f_X5_lay M Lm p0 p1 p2 = some (r, M1, Lm1) ∧ Rel (c + 1) B1 L1 R T U1 V M1 Lm1 := by
  sorry
theorem eq_at {c : Nat} {B : RG} {L : Int64} {R T U V M : RG} {Lm : Int64} (hc : c < 512) (h : Rel c B L R T U V M Lm) (p0 p1 : Int32) : ∃ (r : Int32) (B1 : RG) (L1 : Int64) (M1 : RG) (Lm1 : Int64), f_X4_at B L U p0 p1 = some (r, B1, L1) ∧ f_X5_at M Lm p0 p1 = some (r, M1, Lm1) ∧ Rel (c + 1) B1 L1 R T U V M1 Lm1 := by
  sorry
theorem eq_shape {c : Nat} {B : RG} {L : Int64} {R T U V M : RG} {Lm : Int64} (hc : c < 512) (h : Rel c B L R T U V M Lm) (p0 p1 p2 : Int32) : ∃ (r : Int32) (B1 : RG) (U1 : RG) (M1 : RG), f_X4_shape B T U p0 p1 p2 = some (r, B1, U1) ∧ f_X5_shape M p0 p1 p2 = some (r, M1) ∧ Rel (c + 1) B1 L R T U1 V M1 Lm := by
  sorry
theorem eq_tear {c : Nat} {B : RG} {L : Int64} {R T U V M : RG} {Lm : Int64} (hc : c < 512) (h : Rel c B L R T U V M Lm) (p0 : Int32) : ∃ (r : Int32) (B1 : RG) (U1 : RG) (M1 : RG), f_X4_tear B U p0 = some (r, B1, U1) ∧ f_X5_tear M p0 = some (r, M1) ∧ Rel (c + 1) B1 L R T U1 V M1 Lm := by
  sorry
theorem eq_copy {c : Nat} {B : RG} {L : Int64} {R T U V M : RG} {Lm : Int64} (hc : c < 512) (h : Rel c B L R T U V M Lm) (p0 p1 p2 p3 p4 : Int32) : ∃ (r : Int32) (B1 : RG) (U1 : RG) (M1 : RG), f_X4_copy B U p0 p1 p2 p3 p4 = some (r, B1, U1) ∧ f_X5_copy M p0 p1 p2 p3 p4 = some (r, M1) ∧ Rel (c + 1) B1 L R T U1 V M1 Lm := by
  sorry
theorem eq_fit {c : Nat} {B : RG} {L : Int64} {R T U V M : RG} {Lm : Int64} (hc : c < 512) (h : Rel c B L R T U V M Lm) (p0 p1 : Int32) : ∃ (r : Int32) (B1 : RG) (L1 : Int64) (M1 : RG) (Lm1 : Int64), f_X4_fit B L T U p0 p1 = some (r, B1, L1) ∧ f_X5_fit M Lm p0 p1 = some (r, M1, Lm1) ∧ Rel (c + 1) B1 L1 R T U V M1 Lm1 := by
  sorry
theorem eq_worst {c : Nat} {B : RG} {L : Int64} {R T U V M : RG} {Lm : Int64} (hc : c < 512) (h : Rel c B L R T U V M Lm) (p0 : Int32) : ∃ (r : Int32) (B1 : RG) (L1 : Int64) (M1 : RG) (Lm1 : Int64), f_X4_worst B L T U p0 = some (r, B1, L1) ∧ f_X5_worst M Lm p0 = some (r, M1, Lm1) ∧ Rel (c + 1) B1 L1 R T U V M1 Lm1 := by
  sorry
theorem eq_pull {c : Nat} {B : RG} {L : Int64} {R T U V M : RG} {Lm : Int64} (hc : c < 512) (h : Rel c B L R T U V M Lm) (p0 p1 : Int32) : ∃ (r : Int32) (B1 : RG) (M1 : RG), f_X4_pull B p0 p1 = some (r, B1) ∧ f_X5_pull M p0 p1 = some (r, M1) ∧ Rel (c + 1) B1 L R T U V M1 Lm := by
  sorry
theorem eq_cut {c : Nat} {B : RG} {L : Int64} {R T U V M : RG} {Lm : Int64} (hc : c < 512) (h : Rel c B L R T U V M Lm) (p0 p1 : Int32) : ∃ (r : Int32) (B1 : RG) (L1 : Int64) (M1 : RG) (Lm1 : Int64), f_X4_cut B L p0 p1 = some (r, B1, L1) ∧ f_X5_cut M Lm p0 p1 = some (r, M1, Lm1) ∧ Rel (c + 1) B1 L1 R T U V M1 Lm1 := by
  sorry
theorem eq_press {c : Nat} {B : RG} {L : Int64} {R T U V M : RG} {Lm : Int64} (hc : c < 512) (h : Rel c B L R T U V M Lm) (p0 p1 : Int32) : ∃ (r : Int32) (L1 : Int64) (Lm1 : Int64), f_X4_press B L p0 p1 = some (r, L1) ∧ f_X5_press M Lm p0 p1 = some (r, Lm1) ∧ Rel (c + 1) B L1 R T U V M Lm1 := by
  sorry
theorem eq_margin {c : Nat} {B : RG} {L : Int64} {R T U V M : RG} {Lm : Int64} (hc : c < 512) (h : Rel c B L R T U V M Lm) (p0 p1 : Int32) : ∃ (r : Int32) (B1 : RG) (L1 : Int64) (M1 : RG) (Lm1 : Int64), f_X4_margin B L T p0 p1 = some (r, B1, L1) ∧ f_X5_margin M Lm p0 p1 = some (r, M1, Lm1) ∧ Rel (c + 1) B1 L1 R T U V M1 Lm1 := by
  sorry
theorem eq_work {c : Nat} {B : RG} {L : Int64} {R T U V M : RG} {Lm : Int64} (hc : c < 512) (h : Rel c B L R T U V M Lm) (p0 p1 : Int32) : ∃ (r : Int32) (V1 : RG) (M1 : RG), f_X4_work V p0 p1 = some (r, V1) ∧ f_X5_work M p0 p1 = some (r, M1) ∧ Rel (c + 1) B L R T U V1 M1 Lm := by
  sorry
theorem eq_best {c : Nat} {B : RG} {L : Int64} {R T U V M : RG} {Lm : Int64} (hc : c < 512) (h : Rel c B L R T U V M Lm) (p0 : Int32) : ∃ (r : Int32) (L1 : Int64) (Lm1 : Int64), f_X4_best L V p0 = some (r, L1) ∧ f_X5_best M Lm p0 = some (r, Lm1) ∧ Rel (c + 1) B L1 R T U V M Lm1 := by
  sorry
theorem eq_first {c : Nat} {B : RG} {L : Int64} {R T U V M : RG} {Lm : Int64} (hc : c < 512) (h : Rel c B L R T U V M Lm) (p0 : Int32) : ∃ (r : Int32) (L1 : Int64) (Lm1 : Int64), f_X4_first L V p0 = some (r, L1) ∧ f_X5_first M Lm p0 = some (r, Lm1) ∧ Rel (c + 1) B L1 R T U V M Lm1 := by
  sorry
theorem eq_asked {c : Nat} {B : RG} {L : Int64} {R T U V M : RG} {Lm : Int64} (hc : c < 512) (h : Rel c B L R T U V M Lm) : ∃ (r : Int64), f_X4_asked L = some r ∧ f_X5_asked Lm = some r ∧ Rel (c + 1) B L R T U V M Lm := by
  sorry
theorem eq_count {c : Nat} {B : RG} {L : Int64} {R T U V M : RG} {Lm : Int64} (hc : c < 512) (h : Rel c B L R T U V M Lm) (p0 : Int32) : ∃ (r : Int32), f_X4_count R T U V p0 = some r ∧ f_X5_count M p0 = some r ∧ Rel (c + 1) B L R T U V M Lm := by
  sorry
theorem eq_finding {c : Nat} {B : RG} {L : Int64} {R T U V M : RG} {Lm : Int64} (hc : c < 512) (h : Rel c B L R T U V M Lm) : ∃ (r : Int32), f_X4_finding B = some r ∧ f_X5_finding M = some r ∧ Rel (c + 1) B L R T U V M Lm := by
  sorry
theorem eq_findings {c : Nat} {B : RG} {L : Int64} {R T U V M : RG} {Lm : Int64} (hc : c < 512) (h : Rel c B L R T U V M Lm) (p0 : Int32) : ∃ (r : Int32), f_X4_findings B p0 = some r ∧ f_X5_findings M p0 = some r ∧ Rel (c + 1) B L R T U V M Lm := by
  sorry
theorem eq_digest {c : Nat} {B : RG} {L : Int64} {R T U V M : RG} {Lm : Int64} (hc : c < 512) (h : Rel c B L R T U V M Lm) : ∃ (r : Int64), f_X4_digest B R T U V = some r ∧ f_X5_digest M = some r ∧ Rel (c + 1) B L R T U V M Lm := by
  sorry
theorem eq_init : ∃ (T1 : RG) (r1 : Int32) (M1 : RG), f_X1_renew (fun _ _ => 0) (10 : Int32) = some T1 ∧ f_X5_line (st (st (st (st (fun _ _ => 0) 10 0 250) 10 1 250) 10 2 250) 10 3 250) (10 : Int32) = some (r1, M1) ∧ Rel 0 (st (st (st (st (fun _ _ => 0) 4 0 250) 4 1 250) 4 2 250) 4 3 250) 0 (fun _ _ => 0) T1 (fun _ _ => 0) (fun _ _ => 0) M1 0 := by
  sorry
