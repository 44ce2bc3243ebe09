theorem p2_lt {m w : Nat} (hw : w ≤ 14) (h : m < 2 ^ w) : m < 16384 := by
  have := Nat.pow_le_pow_right (by decide : 0 < 2) hw
  omega
/-- the model's sum over a set -/
theorem sumOfL_v {w m : Nat} {M : RG} (hw : w ≤ 14) (hm : m < 2 ^ 31) (hM : M 17 0 = nI w) (p1 : Int32) {f : Nat → Int32} (hf : ∀ k, k < w → 0 ≤ (f k).toInt ∧ (f k).toInt ≤ 1000) (hp : (p1 = 0 ∧ f = M 19) ∨ (¬ p1 = 0 ∧ f = M 18)) : ∀ (q i fuel : Nat) (x : Int32), i + q = w → q < fuel → x.toInt = zsm f m i → f_X5_sumOf_L5 M (nI m) p1 fuel x (nI i) = some (zI f m w) := by
  intro q
  induction q with
  | zero =>
    intro i fuel x h1 h2 h3
    obtain ⟨g, rfl⟩ : ∃ f, fuel = f + 1 := ⟨fuel - 1, by omega⟩
    have hiw : i = w := by omega
    rw [f_X5_sumOf_L5, hM, if_pos ((nI_leI (by omega) (by omega)).mpr (by omega)), zI_of hw hf m (y := x) (by rw [h3, hiw])]
  | succ q ih =>
    intro i fuel x h1 h2 h3
    obtain ⟨g, rfl⟩ : ∃ f, fuel = f + 1 := ⟨fuel - 1, by omega⟩
    have hb := zsm_bd hf m i (by omega)
    have hfi := hf i (by omega)
    rw [f_X5_sumOf_L5, hM, if_neg (by rw [nI_leI (by omega) (by omega)]; omega), bit_v hm (by omega)]
    unfold f_X5_sumOf_J49
    simp only [ltt_v, nI_s1]
    rw [gd_i (by omega) (by omega), gd_i (by omega) (by omega), nI_cl (by omega)]
    by_cases hbit : m.testBit i
    · rw [if_pos hbit, if_neg (by decide)]
      have hz : (x + f i).toInt = zsm f m (i + 1) := by
        rw [zsm, if_pos hbit, tadd (by omega) (by omega), h3]
      rcases hp with ⟨hp, hfe⟩ | ⟨hp, hfe⟩
      · rw [if_pos hp, ← hfe]
        exact ih (i + 1) g _ (by omega) (by omega) hz
      · rw [if_neg hp, ← hfe]
        exact ih (i + 1) g _ (by omega) (by omega) hz
    · rw [if_neg hbit, if_pos rfl, a0]
      exact ih (i + 1) g _ (by omega) (by omega) (by rw [zsm, if_neg hbit, h3, Int.add_zero])
theorem sumOf_v {w m : Nat} {M : RG} (hw : w ≤ 14) (hm : m < 2 ^ 31) (hM : M 17 0 = nI w) (p1 : Int32) {f : Nat → Int32} (hf : ∀ k, k < w → 0 ≤ (f k).toInt ∧ (f k).toInt ≤ 1000) (hp : (p1 = 0 ∧ f = M 19) ∨ (¬ p1 = 0 ∧ f = M 18)) : f_X5_sumOf M (nI m) p1 = some (zI f m w) :=
  sumOfL_v hw hm hM p1 hf hp w 0 64 0 (by omega) (by omega) rfl
/-- the class's -/
theorem gainL_v {w m : Nat} {V : RG} (hw : w ≤ 14) (hm : m < 2 ^ 31) (hV : V 5 0 = nI w) (hf : ∀ k, k < w → 0 ≤ (V 1 k).toInt ∧ (V 1 k).toInt ≤ 1000) : ∀ (q i fuel : Nat) (x : Int32), i + q = w → q < fuel → x.toInt = zsm (V 1) m i → f_X3_gainOf_L4 V (nI m) fuel x (nI i) = some (zI (V 1) m w) := by
  intro q
  induction q with
  | zero =>
    intro i fuel x h1 h2 h3
    obtain ⟨g, rfl⟩ : ∃ f, fuel = f + 1 := ⟨fuel - 1, by omega⟩
    have hiw : i = w := by omega
    rw [f_X3_gainOf_L4, hV, if_pos ((nI_leI (by omega) (by omega)).mpr (by omega)), zI_of hw hf m (y := x) (by rw [h3, hiw])]
  | succ q ih =>
    intro i fuel x h1 h2 h3
    obtain ⟨g, rfl⟩ : ∃ f, fuel = f + 1 := ⟨fuel - 1, by omega⟩
    have hb := zsm_bd hf m i (by omega)
    have hfi := hf i (by omega)
    rw [f_X3_gainOf_L4, hV, if_neg (by rw [nI_leI (by omega) (by omega)]; omega), bit_v hm (by omega)]
    unfold f_X3_gainOf_J30
    simp only [ltt_v, nI_s1]
    rw [gd_i (by omega) (by omega), nI_cl (by omega)]
    by_cases hbit : m.testBit i
    · rw [if_pos hbit, if_pos rfl]
      have hz : (x + V 1 i).toInt = zsm (V 1) m (i + 1) := by
        rw [zsm, if_pos hbit, tadd (by omega) (by omega), h3]
      exact ih (i + 1) g _ (by omega) (by omega) hz
    · rw [if_neg hbit, if_neg (by decide)]
      exact ih (i + 1) g _ (by omega) (by omega) (by rw [zsm, if_neg hbit, h3, Int.add_zero])
theorem gainOf_v {w m : Nat} {V : RG} (hw : w ≤ 14) (hm : m < 2 ^ 31) (hV : V 5 0 = nI w) (hf : ∀ k, k < w → 0 ≤ (V 1 k).toInt ∧ (V 1 k).toInt ≤ 1000) : f_X3_gainOf V (nI m) = some (zI (V 1) m w) :=
  gainL_v hw hm hV hf w 0 64 0 (by omega) (by omega) rfl
theorem best_v {w : Nat} {V M : RG} (hVI : VIr w V) (hVM : VMr V M) (p0 : Int32) (L : Int64) : ∀ (q m fuel fuel' b : Nat), m + q = 2 ^ w → 1 ≤ m → q < fuel → q < fuel' → b < 2 ^ w → ∃ z, z < 2 ^ w ∧ f_X3_bestSet_L16 V p0 fuel (nI b) (zI (V 0) b w) (zI (V 1) b w) (zI (V 0) (m - 1) w) (zI (V 1) (m - 1) w) (nI m) = some (nI z) ∧ f_X5_best_L17 M p0 fuel' (nI b) (nI m) L = some (zI (V 1) z w, Int32.toInt64 (nI z)) := by
  obtain ⟨v5, w14, vc, vg, vs, -⟩ := id hVI
  obtain ⟨m0, m1, m5⟩ := id hVM
  have hM17 : M 17 0 = nI w := by rw [← m5, v5]
  have vc' : ∀ k, k < w → 0 ≤ (V 0 k).toInt ∧ (V 0 k).toInt ≤ 1000 := fun k hk => by have := vc k hk; omega
  have z0i : (0 : Int32).toInt = 0 := rfl
  have hG : ∀ b, b < 2 ^ w → f_X5_sumOf M (nI b) (0 : Int32) = some (zI (V 1) b w) := fun b hb => sumOf_v w14 (by have := p2_lt w14 hb; omega) hM17 0 vg (Or.inl ⟨rfl, m1⟩)
  have hC : ∀ b, b < 2 ^ w → f_X5_sumOf M (nI b) (1 : Int32) = some (zI (V 0) b w) := fun b hb => sumOf_v w14 (by have := p2_lt w14 hb; omega) hM17 1 vc' (Or.inr ⟨by decide, m0⟩)
  intro q
  induction q with
  | zero =>
    intro m fuel fuel' b h1 h2 h3 h4 hb
    obtain ⟨f, rfl⟩ : ∃ f, fuel = f + 1 := ⟨fuel - 1, by omega⟩
    obtain ⟨f', rfl⟩ : ∃ f, fuel' = f + 1 := ⟨fuel' - 1, by omega⟩
    have hmm : m = 2 ^ w := by omega
    rw [f_X3_bestSet_L16, f_X5_best_L17, v5, hM17, pow_v w (by omega), hmm, if_pos (by rw [ile]; omega), if_pos (by rw [ile]; omega), hG b hb, b1_v]
    exact ⟨b, hb, rfl, rfl⟩
  | succ q ih =>
    intro m fuel fuel' b h1 h2 h3 h4 hb
    obtain ⟨f, rfl⟩ : ∃ f, fuel = f + 1 := ⟨fuel - 1, by omega⟩
    obtain ⟨f', rfl⟩ : ∃ f, fuel' = f + 1 := ⟨fuel' - 1, by omega⟩
    have hmw : m < 2 ^ w := by omega
    have hm14 := p2_lt w14 hmw
    have hpw : 2 ^ w ≤ 16384 := Nat.pow_le_pow_right (by decide : 0 < 2) w14
    have hnle : ¬ nI (2 ^ w) ≤ nI m := by
      rw [ile, nI_ti (by omega), nI_ti (by omega)]
      omega
    obtain ⟨t, u, htu⟩ := tz_ex m h2
    have htw := tz_lt htu hmw
    obtain ⟨d, hd⟩ : ∃ d, w = t + 1 + d := ⟨w - (t + 1), by omega⟩
    have incC := zsm_inc (f := V 0) htu d
    have incG := zsm_inc (f := V 1) htu d
    rw [← hd] at incC incG
    have hm1 := zsm_bd vc' (m - 1) w (Nat.le_refl w)
    have hm2 := zsm_bd vg (m - 1) w (Nat.le_refl w)
    have hm3 := zsm_bd vc' m w (Nat.le_refl w)
    have hm4 := zsm_bd vg m w (Nat.le_refl w)
    have hb1 := zsm_bd vc' b w (Nat.le_refl w)
    have hb2 := zsm_bd vg b w (Nat.le_refl w)
    have sC := sumN_bd vc' t (by omega)
    have sG := sumN_bd vg t (by omega)
    have tC := vc' t htw
    have tG := vg t htw
    obtain ⟨k2, k3⟩ := vs t (Or.inl htw)
    have cm1 := zI_ti w14 vc' (m - 1)
    have gm1 := zI_ti w14 vg (m - 1)
    have cm := zI_ti w14 vc' m
    have gm := zI_ti w14 vg m
    have cb := zI_ti w14 vc' b
    have gb := zI_ti w14 vg b
    have d2 : (V 0 t - V 2 t).toInt = (V 0 t).toInt - sumN (V 0) t := by rw [tsub (by omega) (by omega), k2]
    have d3 : (V 1 t - V 3 t).toInt = (V 1 t).toInt - sumN (V 1) t := by rw [tsub (by omega) (by omega), k3]
    have nc : zI (V 0) (m - 1) w + (V 0 t - V 2 t) = zI (V 0) m w := zI_of w14 vc' m (by rw [tadd (by rw [d2]; omega) (by rw [d2]; omega), d2]; omega)
    have ng : zI (V 1) (m - 1) w + (V 1 t - V 3 t) = zI (V 1) m w := zI_of w14 vg m (by rw [tadd (by rw [d3]; omega) (by rw [d3]; omega), d3]; omega)
    have dG : (zI (V 1) m w - zI (V 1) b w).toInt = zsm (V 1) m w - zsm (V 1) b w := by rw [tsub (by omega) (by omega), gm, gb]
    have dC : (zI (V 0) m w - zI (V 0) b w).toInt = zsm (V 0) m w - zsm (V 0) b w := by rw [tsub (by omega) (by omega), cm, cb]
    obtain ⟨zk, zk1, zk2, zk3⟩ := ih (m + 1) f f' b (by omega) (by omega) (by omega) (by omega) hb
    obtain ⟨zt, zt1, zt2, zt3⟩ := ih (m + 1) f f' m (by omega) (by omega) (by omega) (by omega) hmw
    rw [Nat.add_sub_cancel] at zk2 zt2
    rw [f_X3_bestSet_L16, f_X5_best_L17, v5, hM17, pow_v w (by omega), if_neg hnle, if_neg hnle, low_v (by omega) htu, bc_v t (by omega), hG m hmw, hG b hb, hC m hmw, hC b hb]
    simp only [b1_v, ltt_v]
    rw [gd_i (by omega) (by omega), gd_i (by omega) (by omega), gd_i (by omega) (by omega), gd_i (by omega) (by omega), nI_cl (by omega), nc, ng]
    unfold f_X3_bestSet_J106 f_X3_bestSet_J116 f_X5_best_J82 f_X5_best_J86 f_X5_best_J87
    simp only [ltt_v, nI_s1]
    by_cases c1 : p0 < zI (V 0) m w
    · rw [if_pos c1, if_pos c1]
      exact ⟨zk, zk1, zk2, zk3⟩
    · rw [if_neg c1, if_neg c1]
      have q2 : (0 : Int32) < zI (V 1) m w - zI (V 1) b w ↔ zI (V 1) b w < zI (V 1) m w := by
        rw [ilt, ilt, dG, gm, gb, z0i]; omega
      have q3 : zI (V 1) m w - zI (V 1) b w = 0 ↔ zI (V 1) m w = zI (V 1) b w := by
        rw [ieq, ieq, dG, gm, gb, z0i]; omega
      have q4 : (0 : Int32) ≤ zI (V 0) m w - zI (V 0) b w ↔ zI (V 0) b w ≤ zI (V 0) m w := by
        rw [ile, ile, dC, cm, cb, z0i]; omega
      by_cases c2 : zI (V 1) b w < zI (V 1) m w
      · rw [if_pos c2, if_pos (q2.mpr c2)]
        exact ⟨zt, zt1, zt2, zt3⟩
      · rw [if_neg c2, if_neg (fun k => c2 (q2.mp k))]
        by_cases c3 : zI (V 1) m w = zI (V 1) b w
        · rw [if_pos c3, if_pos (q3.mpr c3)]
          by_cases c4 : zI (V 0) b w ≤ zI (V 0) m w
          · rw [if_pos c4, if_pos (q4.mpr c4)]
            exact ⟨zk, zk1, zk2, zk3⟩
          · rw [if_neg c4, if_neg (fun k => c4 (q4.mp k))]
            exact ⟨zt, zt1, zt2, zt3⟩
        · rw [if_neg c3, if_neg (fun k => c3 (q3.mp k))]
          exact ⟨zk, zk1, zk2, zk3⟩
theorem eq_best : EQ_best := by
  intro c B L R T U V M Lm hc h p0
  have hu := h.up
  obtain ⟨⟨w, hV⟩, hVM⟩ := h.2.2.2.1
  have hL : L = Lm := h.2.2.2.2.2
  subst hL
  have w14 := hV.2.1
  have vc' : ∀ k, k < w → 0 ≤ (V 0 k).toInt ∧ (V 0 k).toInt ≤ 1000 := fun k hk => by have := hV.2.2.1 k hk; omega
  unfold f_X4_best f_X5_best
  rcases win p0 0 14000 with ⟨hw0, a1, a2⟩ | ⟨hw0, a1, a2⟩
  · rw [a1, a2]
    simp only [b1_v, lq10, if_false]
    have hpw : 2 ^ w ≤ 16384 := Nat.pow_le_pow_right (by decide : 0 < 2) w14
    have hpp := Nat.pow_pos (n := w) (by decide : 0 < 2)
    obtain ⟨z, hz, k1, k2⟩ := best_v hV hVM p0 L (2 ^ w - 1) 1 16400 16400 0 (by omega) (by omega) (by omega) (by omega) (by omega)
    have zs : ∀ (f : Nat → Int32) v, zsm f 0 v = 0 := by
      intro f v
      induction v with
      | zero => rfl
      | succ v ih => rw [zsm, ih, Nat.zero_testBit]; rfl
    have zz : ∀ f, zI f 0 w = 0 := by
      intro f
      unfold zI
      rw [zs]
      rfl
    rw [Nat.sub_self, zz, zz] at k1
    have bs : f_X3_bestSet V p0 = some (nI z) := k1
    rw [bs, b1_v]
    unfold f_X4_tell
    rw [b2_v, gainOf_v w14 (by have := p2_lt w14 hz; omega) hV.1 hV.2.2.2.1, b1_v]
    have k2' : f_X5_best_L17 M p0 16400 (0 : Int32) (1 : Int32) L = some (zI (V 1) z w, Int32.toInt64 (nI z)) := k2
    refine ⟨_, _, _, rfl, k2', hu.lng _⟩
  · rw [a1, a2]
    exact ⟨_, _, _, rfl, rfl, hu⟩
