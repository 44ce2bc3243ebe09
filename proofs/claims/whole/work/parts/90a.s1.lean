theorem lq10 : ((1 : Int32) = 0) = False := by decide
theorem lq00 : ((0 : Int32) = 0) = True := by decide
/-- findings: both sides alike -/
theorem found_v {B : RG} {f : Nat} (hf : f < 6) : f_X4_found B (nI f) = some (-3, st (st B 6 0 (nI f)) 5 f (B 5 f + 1)) := by
  unfold f_X4_found
  simp only [ltt_v, gd_i hf (by omega : 6 < 1000), nI_cl (by omega : f < 1000)]
  rfl
theorem meets_v {M : RG} {f : Nat} (hf : f < 6) : f_X5_meets M (nI f) = some (-3, st (st M 0 0 (nI f)) 1 f (M 1 f + 1)) := by
  unfold f_X5_meets
  simp only [ltt_v, gd_i hf (by omega : 6 < 1000), nI_cl (by omega : f < 1000)]
  rfl
theorem Rel.found {c : Nat} {B : RG} {L : Int64} {R T U V M : RG} {Lm : Int64} (h : Rel c B L R T U V M Lm) (f : Nat) : Rel (c + 1) (st (st B 6 0 (nI f)) 5 f (B 5 f + 1)) L R T U V (st (st M 0 0 (nI f)) 1 f (M 1 f + 1)) Lm := by
  obtain ⟨⟨n, h1, h2⟩, h6, h7, h8, ⟨h9, h10, h11, h12⟩, h13⟩ := h.up
  refine ⟨⟨n, h1, h2⟩, h6, h7, h8, ⟨h9, ?_, rfl, h12⟩, h13⟩
  show upd (B 5) f (B 5 f + 1) = upd (M 1) f (M 1 f + 1)
  rw [h10]
theorem eq_asked : EQ_asked := by
  intro c B L R T U V M Lm hc h
  have hL : L = Lm := h.2.2.2.2.2
  exact ⟨L, rfl, by rw [hL]; rfl, h.up⟩
theorem eq_finding : EQ_finding := by
  intro c B L R T U V M Lm hc h
  have hB := h.2.2.2.2.1
  exact ⟨B 6 0, rfl, by rw [hB.2.2.1]; rfl, h.up⟩
theorem eq_findings : EQ_findings := by
  intro c B L R T U V M Lm hc h p0
  have hB := h.2.2.2.2.1
  unfold f_X4_findings f_X5_findings
  by_cases hi : 1 ≤ p0.toInt ∧ p0.toInt ≤ 5
  · rw [within_t (by exact hi.1) (by exact hi.2), in_t (by exact hi.1) (by exact hi.2)]
    obtain ⟨j, hj, rfl⟩ := okN_nI (n := 6) (i := p0) ⟨by omega, by omega⟩ (by omega)
    simp only [b1_v, lq10, if_false, gd_i hj (by omega : 6 < 1000), nI_cl (by omega : j < 1000)]
    exact ⟨_, rfl, by rw [hB.2.1], h.up⟩
  · have e1 : (1 : Int32).toInt = 1 := rfl
    have e5 : (5 : Int32).toInt = 5 := rfl
    rw [within_f (by rw [e1, e5]; omega), in_f (by rw [e1, e5]; omega)]
    exact ⟨_, rfl, rfl, h.up⟩
theorem eq_told : EQ_told := by
  intro c B L R T U V M Lm hc h p0 p1
  have hu := h.up
  obtain ⟨⟨n, ⟨hT7, hM3, e0, e1, e2, e3, e4, e5⟩, ⟨h3, h4⟩, hk, hbd, hst, hhu, hlo, hcc⟩, hR, hU, hV, hB, hL⟩ := h
  unfold f_X4_told f_X5_told
  by_cases hi : okN n p0
  · rw [has_t h3 h4 hT7 hi, isS_t h3 h4 hM3 hi]
    obtain ⟨j, hj, rfl⟩ := okN_nI hi (by omega)
    have g : ∀ x : Option Int32, gd (inb (nI j) 40) x = x := fun x => gd_i (by omega) (by omega)
    have cl := nI_cl (j := j) (by omega)
    simp only [b1_v, lq10, if_false, g, cl]
    by_cases c0 : p1 = 0
    · subst c0
      rw [in_t (by decide) (by decide)]
      simp only [b1_v, lq10, if_false, if_true, f_X5_tells, g, cl, lq00]
      exact ⟨_, rfl, by rw [e0], hu⟩
    · by_cases c1 : p1 = 1
      · subst c1
        rw [in_t (by decide) (by decide)]
        simp only [b1_v, lq10, if_false, if_true, f_X5_tells, g, cl]
        exact ⟨_, rfl, by rw [e2], hu⟩
      · by_cases c2 : p1 = 2
        · subst c2
          rw [in_t (by decide) (by decide)]
          simp only [b1_v, lq10, if_false, if_true, f_X5_tells, g, cl, c0, c1]
          exact ⟨_, rfl, by rw [e3], hu⟩
        · by_cases c3 : p1 = 3
          · subst c3
            rw [in_t (by decide) (by decide)]
            simp only [b1_v, lq10, if_false, if_true, f_X5_tells, g, cl, c0, c1, c2, e5]
            by_cases hz : M 9 j = 0
            · simp only [hz, if_true]
              exact ⟨_, rfl, rfl, hu⟩
            · simp only [hz, if_false]
              exact ⟨_, rfl, rfl, hu⟩
          · have k3 : (3 : Int32).toInt = 3 := rfl
            have k0 : (0 : Int32).toInt = 0 := rfl
            have k1 : (1 : Int32).toInt = 1 := rfl
            have k2 : (2 : Int32).toInt = 2 := rfl
            rw [in_f (by rw [ieq] at c0 c1 c2 c3; omega)]
            simp only [b1_v, if_true, if_false, c0, c1, c2, c3]
            exact ⟨_, rfl, rfl, hu⟩
  · rw [has_f h3 h4 hT7 hi, isS_f h3 h4 hM3 hi]
    exact ⟨_, rfl, rfl, hu⟩
theorem eq_uncouple : EQ_uncouple := by
  intro c B L R T U V M Lm hc h
  obtain ⟨⟨n, h1, h2⟩, ⟨r1, r2, r3, ⟨ax, r4, r5⟩, r6, r7⟩, h7, h8, h9, h13⟩ := h.up
  refine ⟨R 2 0, st R 2 0 0, st M 11 0 0, rfl, by rw [r3]; rfl, ⟨n, h1, h2⟩, ⟨r1, r2, rfl, ⟨0, by omega, rfl⟩, r6, r7⟩, h7, h8, h9, h13⟩
theorem eq_axle : EQ_axle := by
  intro c B L R T U V M Lm hc h p0
  have hu := h.up
  obtain ⟨⟨n, h1, h2⟩, ⟨r1, r2, r3, ⟨ax, r4, r5⟩, r6, r7⟩, h7, h8, h9, h13⟩ := h.up
  unfold f_X4_axle f_X5_axle
  have k1 : (1 : Int32).toInt = 1 := rfl
  have k2 : (250 : Int32).toInt = 250 := by decide
  by_cases hi : 1 ≤ p0.toInt ∧ p0.toInt ≤ 250
  · rw [within_t (by rw [k1]; exact hi.1) (by rw [k2]; exact hi.2), in_t (by rw [k1]; exact hi.1) (by rw [k2]; exact hi.2)]
    have e20 : (20 : Int32) = nI 20 := rfl
    rw [← r3, r5]
    simp only [b1_v, lq10, if_false]
    by_cases hf : ax = 20
    · rw [hf, if_neg (by decide), if_pos (by decide)]
      exact ⟨_, _, _, rfl, rfl, hu⟩
    · rw [e20, if_pos (by rw [nI_ltI (by omega) (by omega)]; omega), if_neg (by rw [nI_eq (by omega) (by omega)]; exact hf), gd_i (by omega) (by omega), gd_i (by omega) (by omega), nI_cl (by omega)]
      simp only [ltt_v]
      refine ⟨nI (ax + 1), st (st R 0 ax p0) 2 0 (nI (ax + 1)), st (st M 12 ax p0) 11 0 (nI (ax + 1)), ?_, ?_, ⟨n, h1, h2⟩, ⟨?_, r2, rfl, ⟨ax + 1, by omega, rfl⟩, ?_, r7⟩, h7, h8, h9, h13⟩
      · have q1 : st R 0 ax p0 2 0 = nI ax := r5
        rw [q1, nI_s1]
        rfl
      · have q1 : st M 12 ax p0 11 0 = nI ax := by show M 11 0 = nI ax; rw [← r3, r5]
        rw [q1, nI_s1]
        rfl
      · show upd (R 0) ax p0 = upd (M 12) ax p0
        rw [r1]
      · intro i
        show 0 ≤ (upd (R 0) ax p0 i).toInt ∧ (upd (R 0) ax p0 i).toInt ≤ 250
        by_cases hia : i = ax
        · rw [hia, pk_us]; omega
        · rw [pk_un hia]; exact r6 i
  · rw [within_f (by rw [k1, k2]; omega), in_f (by rw [k1, k2]; omega)]
    exact ⟨_, _, _, rfl, rfl, hu⟩
