theorem win (p a b : Int32) : ((a.toInt ≤ p.toInt ∧ p.toInt ≤ b.toInt) ∧ f_X4_within p a b = some 1 ∧ f_X5_in p a b = some 1) ∨ (¬ (a.toInt ≤ p.toInt ∧ p.toInt ≤ b.toInt) ∧ f_X4_within p a b = some 0 ∧ f_X5_in p a b = some 0) := by
  by_cases h : a.toInt ≤ p.toInt ∧ p.toInt ≤ b.toInt
  · exact Or.inl ⟨h, within_t h.1 h.2, in_t h.1 h.2⟩
  · exact Or.inr ⟨h, within_f (by omega), in_f (by omega)⟩
theorem run_ok (p : Int32) : (okN 6 p ∧ f_X4_isRun p = some 1 ∧ f_X5_isNumber p = some 1) ∨ (¬ okN 6 p ∧ f_X4_isRun p = some 0 ∧ f_X5_isNumber p = some 0) := by
  have e0 : (0 : Int32).toInt = 0 := rfl
  have e5 : (5 : Int32).toInt = 5 := rfl
  unfold f_X4_isRun f_X5_isNumber
  rcases win p 0 5 with ⟨h, h1, h2⟩ | ⟨h, h1, h2⟩
  · rw [h1, h2]
    exact Or.inl ⟨⟨by omega, by omega⟩, rfl, rfl⟩
  · rw [h1, h2]
    exact Or.inr ⟨fun k => h ⟨by have := k.1; omega, by have := k.2; omega⟩, rfl, rfl⟩
theorem str_ok (p : Int32) : (okN 4 p ∧ f_X4_isStretch p = some 1 ∧ f_X5_isStretch p = some 1) ∨ (¬ okN 4 p ∧ f_X4_isStretch p = some 0 ∧ f_X5_isStretch p = some 0) := by
  have e0 : (0 : Int32).toInt = 0 := rfl
  have e3 : (3 : Int32).toInt = 3 := rfl
  unfold f_X4_isStretch f_X5_isStretch
  rcases win p 0 3 with ⟨h, h1, h2⟩ | ⟨h, h1, h2⟩
  · rw [h1, h2]
    exact Or.inl ⟨⟨by omega, by omega⟩, rfl, rfl⟩
  · rw [h1, h2]
    exact Or.inr ⟨fun k => h ⟨by have := k.1; omega, by have := k.2; omega⟩, rfl, rfl⟩
theorem tmp_ok (p : Int32) : ((-400 ≤ p.toInt ∧ p.toInt ≤ 600) ∧ f_X4_isTemperature p = some 1 ∧ f_X5_isWarmth p = some 1) ∨ (f_X4_isTemperature p = some 0 ∧ f_X5_isWarmth p = some 0) := by
  have e0 : (-400 : Int32).toInt = -400 := by decide
  have e3 : (600 : Int32).toInt = 600 := by decide
  unfold f_X4_isTemperature f_X5_isWarmth
  rcases win p (-400) 600 with ⟨h, h1, h2⟩ | ⟨h, h1, h2⟩
  · rw [h1, h2]
    exact Or.inl ⟨⟨by omega, by omega⟩, rfl, rfl⟩
  · rw [h1, h2]
    exact Or.inr ⟨rfl, rfl⟩
theorem fl1 : (1 : Int32) = nI 1 := rfl
theorem fl2 : (2 : Int32) = nI 2 := rfl
theorem fl3 : (3 : Int32) = nI 3 := rfl
theorem fl4 : (4 : Int32) = nI 4 := rfl
theorem fl5 : (5 : Int32) = nI 5 := rfl
theorem m3neg : ¬ (0 : Int32) ≤ (-3 : Int32) := by decide
theorem m1neg : ¬ (0 : Int32) ≤ (-1 : Int32) := by decide
theorem z0 : (0 : Int32) ≤ (0 : Int32) := by decide
theorem eq_pull : EQ_pull := by
  intro c B L R T U V M Lm hc h p0 p1
  have hu := h.up
  obtain ⟨h1, h6, h7, h8, ⟨h9, h10, h11, h12⟩, h13⟩ := h
  unfold f_X4_pull f_X5_pull
  rcases str_ok p0 with ⟨hs, s1, s2⟩ | ⟨hs, s1, s2⟩
  · rw [s1, s2]
    rcases win p1 (-500) 500 with ⟨hw, w1, w2⟩ | ⟨hw, w1, w2⟩
    · rw [w1, w2]
      obtain ⟨j, hj, rfl⟩ := okN_nI hs (by omega)
      have em : (-500 : Int32).toInt = -500 := by decide
      have ep : (500 : Int32).toInt = 500 := by decide
      rw [em, ep] at hw
      simp only [b1_v, lq10, if_false, gd_i hj (by omega : 4 < 1000), nI_cl (by omega : j < 1000), ltt_v]
      refine ⟨1, st B 4 j (B 4 j + p1), st M 10 j (M 10 j + p1), rfl, rfl, hu.1, h6, h7, h8, ⟨?_, h10, h11, ?_⟩, h13⟩
      · show upd (B 4) j (B 4 j + p1) = upd (M 10) j (M 10 j + p1)
        rw [h9]
      · intro i
        show _ ≤ (upd (B 4) j (B 4 j + p1) i).toInt ∧ (upd (B 4) j (B 4 j + p1) i).toInt ≤ _
        by_cases hij : i = j
        · rw [hij, pk_us]
          have := h12 j
          rw [tadd (by omega) (by omega)]
          omega
        · rw [pk_un hij]
          have := h12 i
          omega
    · rw [w1, w2]
      exact ⟨_, _, _, rfl, rfl, hu⟩
  · rw [s1, s2]
    exact ⟨_, _, _, rfl, rfl, hu⟩
theorem eq_cut : EQ_cut := by
  intro c B L R T U V M Lm hc h p0 p1
  have hu := h.up
  obtain ⟨h1, h6, h7, h8, ⟨h9, h10, h11, h12⟩, h13⟩ := h
  unfold f_X4_cut f_X5_cut
  rcases str_ok p0 with ⟨hs, s1, s2⟩ | ⟨hs, s1, s2⟩
  · rw [s1, s2]
    rcases tmp_ok p1 with ⟨hw, w1, w2⟩ | ⟨w1, w2⟩
    · rw [w1, w2]
      obtain ⟨j, hj, rfl⟩ := okN_nI hs (by omega)
      simp only [b1_v, b2_v, lq10, if_false, gd_i hj (by omega : 4 < 1000), nI_cl (by omega : j < 1000), ltt_v, f_X4_tell]
      refine ⟨1, st B 4 j p1, Int32.toInt64 (B 4 j), st M 10 j p1, Int32.toInt64 (M 10 j), rfl, rfl, hu.1, h6, h7, h8, ⟨?_, h10, h11, ?_⟩, by rw [h9]⟩
      · show upd (B 4) j p1 = upd (M 10) j p1
        rw [h9]
      · intro i
        show _ ≤ (upd (B 4) j p1 i).toInt ∧ (upd (B 4) j p1 i).toInt ≤ _
        by_cases hij : i = j
        · rw [hij, pk_us]; omega
        · rw [pk_un hij]
          have := h12 i
          omega
    · rw [w1, w2]
      exact ⟨_, _, _, _, _, rfl, rfl, hu⟩
  · rw [s1, s2]
    exact ⟨_, _, _, _, _, rfl, rfl, hu⟩
theorem press_num {x : Int32} {p : Int32} (hp : -400 ≤ p.toInt ∧ p.toInt ≤ 600) (hx : -300000 ≤ x.toInt ∧ x.toInt ≤ 300000) : Int32.toInt64 ((p - x) * (24 : Int32)) = (24 : Int64) * Int32.toInt64 (p - x) := by
  have e24 : (24 : Int32).toInt = 24 := rfl
  have f24 : (24 : Int64).toInt = 24 := rfl
  have e1 : (p - x).toInt = p.toInt - x.toInt := tsub (by omega) (by omega)
  rw [eqL, wide, tmul (by rw [e1, e24]; omega) (by rw [e1, e24]; omega), lmulT (by rw [wide, e1, f24]; omega) (by rw [wide, e1, f24]; omega), wide, e1, e24, f24]
  omega
theorem eq_press : EQ_press := by
  intro c B L R T U V M Lm hc h p0 p1
  have hu := h.up
  obtain ⟨h1, h6, h7, h8, ⟨h9, h10, h11, h12⟩, h13⟩ := h
  unfold f_X4_press f_X5_press
  rcases str_ok p0 with ⟨hs, s1, s2⟩ | ⟨hs, s1, s2⟩
  · rw [s1, s2]
    rcases tmp_ok p1 with ⟨hw, w1, w2⟩ | ⟨w1, w2⟩
    · rw [w1, w2]
      obtain ⟨j, hj, rfl⟩ := okN_nI hs (by omega)
      simp only [b1_v, b2_v, lq10, if_false, gd_i hj (by omega : 4 < 1000), nI_cl (by omega : j < 1000), ltt_v, f_X4_tell, f_X4_pressOf, f_X5_pressOf, f_X5_tell]
      have := h12 j
      exact ⟨1, _, _, rfl, rfl, hu.1, h6, h7, h8, hu.2.2.2.2.1, by rw [← h9]; exact press_num hw ⟨by omega, by omega⟩⟩
    · rw [w1, w2]
      exact ⟨_, _, _, rfl, rfl, hu⟩
  · rw [s1, s2]
    exact ⟨_, _, _, rfl, rfl, hu⟩
theorem eq_table : EQ_table := by
  intro c B L R T U V M Lm hc h p0 p1
  have hu := h.up
  obtain ⟨h1, ⟨r1, r2, r3, r4, r6, r7⟩, h7, h8, h9, h13⟩ := h
  unfold f_X4_table f_X5_table
  have e15 : (15 : Int32).toInt = 15 := rfl
  have e0 : (0 : Int32).toInt = 0 := rfl
  rcases win p0 0 15 with ⟨hw, w1, w2⟩ | ⟨hw, w1, w2⟩
  · rw [w1, w2]
    obtain ⟨j, hj, rfl⟩ := okN_nI (n := 16) (i := p0) ⟨by omega, by omega⟩ (by omega)
    simp only [b1_v, lq10, if_false, gd_i hj (by omega : 16 < 1000), nI_cl (by omega : j < 1000), ltt_v]
    have hn : vp_nar .byte (Int8.toInt32 (Int32.toInt8 p1)) = Int8.toInt32 (Int32.toInt8 p1) := pk_vb p1
    rw [hn]
    refine ⟨R 1 j + 1000, st R 1 j (Int8.toInt32 (Int32.toInt8 p1)), st M 13 j (Int8.toInt32 (Int32.toInt8 p1)), rfl, by rw [r2], hu.1, ⟨r1, ?_, r3, r4, r6, ?_⟩, h7, h8, hu.2.2.2.2⟩
    · show upd (R 1) j _ = upd (M 13) j _
      rw [r2]
    · intro i
      show -128 ≤ (upd (R 1) j (Int8.toInt32 (Int32.toInt8 p1)) i).toInt ∧ (upd (R 1) j (Int8.toInt32 (Int32.toInt8 p1)) i).toInt ≤ 127
      by_cases hij : i = j
      · rw [hij, pk_us, Int8.toInt_toInt32]
        have a1 := Int8.le_toInt (Int32.toInt8 p1)
        have a2 := Int8.toInt_lt (Int32.toInt8 p1)
        omega
      · rw [pk_un hij]; exact r7 i
  · rw [w1, w2]
    exact ⟨_, _, _, rfl, rfl, hu⟩
