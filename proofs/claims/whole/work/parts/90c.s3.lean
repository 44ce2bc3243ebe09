theorem idx40 (r i : Nat) : (40 : Int32) * nI r + nI i = nI (40 * r + i) := by
  have e : (40 : Int32) = nI 40 := rfl
  rw [e, pk_mul, nI_add]
theorem gdr {α : Type} {x : Option α} {r i : Nat} (hr : r < 6) (hi : i < 40) : gd (inb ((40 : Int32) * nI r + nI i) 240) x = x := by
  rw [idx40]
  exact gd_i (by omega) (by omega)
theorem clr {r i : Nat} (hr : r < 6) (hi : i < 40) : Int32.toNatClampNeg ((40 : Int32) * nI r + nI i) = 40 * r + i := by
  rw [idx40]
  exact nI_cl (by omega)
theorem UMr.put {U M : RG} (h : UMr U M) {r i : Nat} (hr : r < 6) (hi : i < 40) (v : Int32) : UMr (st U r i v) (st M 15 (40 * r + i) v) := by
  obtain ⟨h1, h2, h3⟩ := h
  have e6 : st U r i v 6 = U 6 := st_ne U i v (by omega)
  refine ⟨fun r' i' hr' hi' => ?_, by rw [e6]; exact h2, by rw [e6]; exact h3⟩
  show st U r i v r' i' = upd (M 15) (40 * r + i) v (40 * r' + i')
  by_cases hrr : r' = r
  · subst hrr
    rw [st_same]
    by_cases hii : i' = i
    · rw [hii, pk_us, pk_us]
    · rw [pk_un hii, pk_un (by omega)]
      exact h1 r' i' hr' hi'
  · rw [st_ne U i v hrr, pk_un (by omega)]
    exact h1 r' i' hr' hi'
theorem UMr.found {U M : RG} (h : UMr U M) (f : Nat) : UMr U (st (st M 0 0 (nI f)) 1 f (M 1 f + 1)) := h
/-- a run is asked for: both sides -/
theorem ask_v {U M : RG} (h : UMr U M) {r : Nat} (hr : r < 6) : f_X5_askedFor M (nI r) = if U 6 r = 0 then some (-3, st (st M 0 0 (nI 1)) 1 1 (M 1 1 + 1)) else some (0, M) := by
  unfold f_X5_askedFor
  rcases run_ok (nI r) with ⟨h0, h1, h2⟩ | ⟨h0, h1, h2⟩
  · rw [h2, b1_v, if_neg (by decide), gd_i hr (by omega), nI_cl (by omega), h.2.1]
    by_cases hz : M 14 r = 0
    · rw [if_pos hz, if_pos hz, fl1, meets_v (by omega)]
      rfl
    · rw [if_neg hz, if_neg hz]
  · exact absurd (okN_of hr (by omega)) h0
theorem ask_f {M : RG} {p : Int32} (h : f_X5_isNumber p = some 0) : f_X5_askedFor M p = some (-1, M) := by
  unfold f_X5_askedFor
  rw [h]
  rfl
theorem eq_tear : EQ_tear := by
  intro c B L R T U V M Lm hc h p0
  have hu := h.up
  have hU := h.2.2.1
  unfold f_X4_tear f_X5_tear
  rcases run_ok p0 with ⟨h0, h1, h2⟩ | ⟨h0, h1, h2⟩
  · rw [h1]
    obtain ⟨r, hr, rfl⟩ := okN_nI h0 (by omega)
    rw [ask_v hU hr]
    simp only [b1_v, lq10, if_false, gd_i hr (by omega : 6 < 1000), nI_cl (by omega : r < 1000)]
    by_cases hz : U 6 r = 0
    · rw [if_pos hz, if_pos hz, fl1, found_v (by omega)]
      simp only [b2_v, m3neg, if_false]
      exact ⟨_, _, _, _, rfl, rfl, h.found 1⟩
    · rw [if_neg hz, if_neg hz]
      simp only [b2_v, z0, if_true, ltt_v]
      obtain ⟨k1, k6, ⟨u1, u2, u3⟩, k8, k9, k13⟩ := hu
      have hn : vp_nar .boolean (0 : Int32) = 0 := rfl
      rw [hn]
      refine ⟨1, B, st U 6 r 0, st M 14 r 0, rfl, rfl, k1, k6, ⟨fun r' i' hr' hi' => ?_, ?_, ?_⟩, k8, k9, k13⟩
      · rw [st_ne U r 0 (by omega : r' ≠ 6)]
        exact u1 r' i' hr' hi'
      · show upd (U 6) r 0 = upd (M 14) r 0
        rw [u2]
      · intro i
        show upd (U 6) r 0 i = 0 ∨ upd (U 6) r 0 i = 1
        by_cases hi : i = r
        · rw [hi, pk_us]; exact Or.inl rfl
        · rw [pk_un hi]; exact u3 i
  · rw [h1, ask_f h2]
    exact ⟨_, _, _, _, rfl, rfl, hu⟩
theorem eq_at : EQ_at := by
  intro c B L R T U V M Lm hc h p0 p1
  have hu := h.up
  have hU := h.2.2.1
  unfold f_X4_at f_X5_at
  rcases run_ok p0 with ⟨h0, h1, h2⟩ | ⟨h0, h1, h2⟩
  · rw [h1]
    obtain ⟨r, hr, rfl⟩ := okN_nI h0 (by omega)
    rw [ask_v hU hr]
    simp only [b1_v, lq10, if_false, gd_i hr (by omega : 6 < 1000), nI_cl (by omega : r < 1000)]
    by_cases hz : U 6 r = 0
    · rw [if_pos hz, if_pos hz, fl1, found_v (by omega)]
      simp only [b2_v, m3neg, if_false]
      exact ⟨_, _, _, _, _, rfl, rfl, h.found 1⟩
    · rw [if_neg hz, if_neg hz]
      simp only [b2_v, z0, if_true]
      rcases win p1 0 39 with ⟨hw, w1, w2⟩ | ⟨hw, w1, w2⟩
      · have e0 : (0 : Int32).toInt = 0 := rfl
        have e39 : (39 : Int32).toInt = 39 := rfl
        obtain ⟨i, hi, rfl⟩ := okN_nI (n := 40) (i := p1) ⟨by omega, by omega⟩ (by omega)
        rw [w1, w2]
        simp only [b1_v, b2_v, lq10, if_false, ltt_v, gd_i hi (by omega : 40 < 1000), nI_cl (by omega : i < 1000), f_X4_tell, f_X5_tell, gdr hr hi, clr hr hi]
        refine ⟨1, B, _, M, _, rfl, rfl, hu.1, hu.2.1, hu.2.2.1, hu.2.2.2.1, hu.2.2.2.2.1, by rw [hU.1 r i hr hi]⟩
      · rw [w1, w2]
        simp only [b1_v, if_true, fl2]
        rw [found_v (by omega), meets_v (by omega)]
        simp only [b2_v]
        exact ⟨_, _, _, _, _, rfl, rfl, h.found 2⟩
  · rw [h1, ask_f h2]
    exact ⟨_, _, _, _, _, rfl, rfl, hu⟩
theorem eq_lay : EQ_lay := by
  intro c B L R T U V M Lm hc h p0 p1 p2
  have hu := h.up
  have hU := h.2.2.1
  unfold f_X4_lay f_X5_lay
  rcases win p2 (-100000) (100000) with ⟨hw2, v1, v2⟩ | ⟨hw2, v1, v2⟩
  · rw [v1, v2]
    rcases run_ok p0 with ⟨h0, h1, h2⟩ | ⟨h0, h1, h2⟩
    · rw [h1]
      obtain ⟨r, hr, rfl⟩ := okN_nI h0 (by omega)
      rw [ask_v hU hr]
      simp only [b1_v, lq10, if_false, gd_i hr (by omega : 6 < 1000), nI_cl (by omega : r < 1000)]
      by_cases hz : U 6 r = 0
      · rw [if_pos hz, if_pos hz, fl1, found_v (by omega)]
        simp only [b2_v, m3neg, if_false]
        exact ⟨_, _, _, _, _, _, rfl, rfl, h.found 1⟩
      · rw [if_neg hz, if_neg hz]
        simp only [b2_v, z0, if_true]
        rcases win p1 0 39 with ⟨hw, w1, w2⟩ | ⟨hw, w1, w2⟩
        · have e0 : (0 : Int32).toInt = 0 := rfl
          have e39 : (39 : Int32).toInt = 39 := rfl
          obtain ⟨i, hi, rfl⟩ := okN_nI (n := 40) (i := p1) ⟨by omega, by omega⟩ (by omega)
          rw [w1, w2]
          simp only [b1_v, b2_v, lq10, if_false, ltt_v, gd_i hi (by omega : 40 < 1000), nI_cl (by omega : i < 1000), f_X4_tell, gdr hr hi, clr hr hi]
          exact ⟨1, B, _, st U r i p2, st M 15 (40 * r + i) p2, _, rfl, rfl, hu.1, hu.2.1, hU.put hr hi p2, hu.2.2.2.1, hu.2.2.2.2.1, by rw [hU.1 r i hr hi]⟩
        · rw [w1, w2]
          simp only [b1_v, if_true, fl2]
          rw [found_v (by omega), meets_v (by omega)]
          simp only [b2_v]
          exact ⟨_, _, _, _, _, _, rfl, rfl, h.found 2⟩
    · rw [h1, ask_f h2]
      exact ⟨_, _, _, _, _, _, rfl, rfl, hu⟩
  · rw [v1, v2]
    rcases run_ok p0 with ⟨h0, h1, h2⟩ | ⟨h0, h1, h2⟩
    · rw [h1]
      exact ⟨_, _, _, _, _, _, rfl, rfl, hu⟩
    · rw [h1]
      exact ⟨_, _, _, _, _, _, rfl, rfl, hu⟩
