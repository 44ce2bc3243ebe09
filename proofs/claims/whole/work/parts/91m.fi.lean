/-- the places taken so far -/
def seenB (o : Nat → Nat) (k s : Nat) : Prop := ∀ j, s.testBit j = true ↔ ∃ k', k' < k ∧ o k' = j
theorem fst39_v {w : Nat} {V M : RG} {o : Nat → Nat} (w14 : w ≤ 14) (vc : ∀ k, k < w → 1 ≤ (V 0 k).toInt ∧ (V 0 k).toInt ≤ 1000) (vg : ∀ k, k < w → 0 ≤ (V 1 k).toInt ∧ (V 1 k).toInt ≤ 1000) (m0 : V 0 = M 18) (m1 : V 1 = M 19) (hM17 : M 17 0 = nI w) (p0 : Int32) (L : Int64) (ko23 : Int32 → Int32 → Int32 → Int32 → Int64 → Option (Int32 × Int64)) {s : Nat} (hs : s < 2 ^ 31) (x3 x4 x5 : Int32) {a : Nat} (ha : a < w) (has : s.testBit a = false) (hal : ∀ j, j < w → s.testBit j = false → j ≠ a → ahd V a j) :
    ∀ (q i fuel : Nat) (x6 : Int32), i + q = w → q < fuel → ((x6 = (-9 : Int32) ∧ ∀ j, j < i → s.testBit j = true) ∨ ∃ b, x6 = nI b ∧ b < i ∧ s.testBit b = false ∧ ∀ j, j < i → s.testBit j = false → j ≠ b → ahd V b j) → ∃ f, f_X5_first_L39 M p0 ko23 fuel (nI s) x3 x4 x5 x6 (nI i) L = f_X5_first_L39 M p0 ko23 (f + 1) (nI s) x3 x4 x5 (nI a) (nI w) L := by
  intro q
  induction q with
  | zero =>
    intro i fuel x6 h1 h2 h3
    obtain ⟨f, rfl⟩ : ∃ f, fuel = f + 1 := ⟨fuel - 1, by omega⟩
    have hiw : i = w := by omega
    subst hiw
    rcases h3 with ⟨-, h3⟩ | ⟨b, hb, hbi, hbs, hb2⟩
    · rw [h3 a ha] at has
      exact absurd has (by decide)
    · by_cases hab : a = b
      · rw [hb, ← hab]
        exact ⟨f, rfl⟩
      · exact ((hal b hbi hbs (fun q => hab q.symm)).asym (hb2 a ha has hab)).elim
  | succ q ih =>
    intro i fuel x6 h1 h2 h3
    obtain ⟨f, rfl⟩ : ∃ f, fuel = f + 1 := ⟨fuel - 1, by omega⟩
    have z0i : (0 : Int32).toInt = 0 := rfl
    rw [f_X5_first_L39, hM17, if_neg (by rw [nI_leI (by omega) (by omega)]; omega), bit_v hs (by omega)]
    unfold f_X5_first_J95 f_X5_first_J100 f_X5_first_J102
    simp only [ltt_v, nI_s1]
    by_cases hbit : s.testBit i = true
    · rw [if_pos hbit, if_neg (by decide)]
      refine ih (i + 1) f x6 (by omega) (by omega) ?_
      rcases h3 with ⟨h3, h3'⟩ | ⟨b, hb, hbi, hbs, hb2⟩
      · refine Or.inl ⟨h3, fun j hj => ?_⟩
        by_cases hji : j = i
        · rw [hji]; exact hbit
        · exact h3' j (by omega)
      · refine Or.inr ⟨b, hb, by omega, hbs, fun j hj hjs hjb => ?_⟩
        by_cases hji : j = i
        · rw [hji, hbit] at hjs
          exact absurd hjs (by decide)
        · exact hb2 j (by omega) hjs hjb
    · rw [if_neg hbit, if_pos rfl]
      have hbit' : s.testBit i = false := by
        cases h : s.testBit i
        · rfl
        · exact absurd h hbit
      rcases h3 with ⟨h3, h3'⟩ | ⟨b, hb, hbi, hbs, hb2⟩
      · rw [h3, if_pos (by decide)]
        refine ih (i + 1) f (nI i) (by omega) (by omega) (Or.inr ⟨i, rfl, by omega, hbit', fun j hj hjs hjb => ?_⟩)
        rw [h3' j (by omega)] at hjs
        exact absurd hjs (by decide)
      · have ci := vc i (by omega)
        have cb := vc b (by omega)
        have gi := vg i (by omega)
        have gb := vg b (by omega)
        rw [hb, if_neg (by rw [ilt, nI_ti (by omega), z0i]; omega), gd_i (by omega) (by omega), gd_i (by omega) (by omega), gd_i (by omega) (by omega), gd_i (by omega) (by omega), nI_cl (by omega), nI_cl (by omega), ← m0, ← m1]
        have e1 := (prodb (x := V 1 i) (y := V 0 b) (by omega) (by omega)).1
        have e2 := (prodb (x := V 1 b) (y := V 0 i) (by omega) (by omega)).1
        by_cases c : V 1 i * V 0 b ≤ V 1 b * V 0 i
        · rw [if_pos c]
          rw [ile, e1, e2] at c
          refine ih (i + 1) f (nI b) (by omega) (by omega) (Or.inr ⟨b, rfl, by omega, hbs, fun j hj hjs hjb => ?_⟩)
          by_cases hji : j = i
          · rw [hji]
            unfold ahd
            omega
          · exact hb2 j (by omega) hjs hjb
        · rw [if_neg c]
          rw [ile, e1, e2] at c
          have hib : ahd V i b := by
            unfold ahd
            omega
          refine ih (i + 1) f (nI i) (by omega) (by omega) (Or.inr ⟨i, rfl, by omega, hbit', fun j hj hjs hji => ?_⟩)
          by_cases hjb : j = b
          · rw [hjb]; exact hib
          · have cj := vc j (by omega)
            exact hib.trans (by omega) (by omega) (by omega) (hb2 j (by omega) hjs hjb)
theorem or_lt {a j w : Nat} (ha : a < 2 ^ w) (hj : j < w) : a ||| 2 ^ j < 2 ^ w := Nat.or_lt_two_pow ha ((Nat.pow_lt_pow_iff_right (by decide : 1 < 2)).mpr hj)
theorem first_v {w : Nat} {V M : RG} {o : Nat → Nat} (v5 : V 5 0 = nI w) (w14 : w ≤ 14) (vc : ∀ k, k < w → 1 ≤ (V 0 k).toInt ∧ (V 0 k).toInt ≤ 1000) (vg : ∀ k, k < w → 0 ≤ (V 1 k).toInt ∧ (V 1 k).toInt ≤ 1000) (hVM : VMr V M) (o1 : ∀ k, k < w → o k < w ∧ V 4 k = nI (o k)) (o2 : ∀ j, j < w → ∃ k, k < w ∧ o k = j) (o3 : ∀ k k', k < k' → k' < w → ahd V (o k) (o k')) (p0 : Int32) (L : Int64) : ∀ (q k fuel fuel' s t : Nat) (x : Int32), k + q = w → q < fuel → q < fuel' → s < 2 ^ 14 → t < 2 ^ 14 → seenB o k s → ∃ z, z < 2 ^ 14 ∧ f_X3_worstFirst_L7 V p0 fuel (nI t) x (nI k) = some (nI z) ∧ f_X5_first_L23 M p0 fuel' (nI s) (nI t) x (nI k) L = some (zI (V 1) z w, Int32.toInt64 (nI z)) := by
  obtain ⟨m0, m1, m5⟩ := id hVM
  have hM17 : M 17 0 = nI w := by rw [← m5, v5]
  have oinj : ∀ k k', k < w → k' < w → o k = o k' → k = k' := by
    intro k k' h1 h2 h3
    rcases Nat.lt_trichotomy k k' with h | h | h
    · have := o3 k k' h h2
      rw [h3] at this
      exact (this.asym this).elim
    · exact h
    · have := o3 k' k h h1
      rw [h3] at this
      exact (this.asym this).elim
  intro q
  induction q with
  | zero =>
    intro k fuel fuel' s t x h1 h2 h3 hs ht hse
    obtain ⟨f, rfl⟩ : ∃ f, fuel = f + 1 := ⟨fuel - 1, by omega⟩
    obtain ⟨f', rfl⟩ : ∃ f, fuel' = f + 1 := ⟨fuel' - 1, by omega⟩
    rw [f_X3_worstFirst_L7, f_X5_first_L23, v5, hM17, if_pos ((nI_leI (by omega) (by omega)).mpr (by omega)), if_pos ((nI_leI (by omega) (by omega)).mpr (by omega)), sumOf_v w14 (by omega) hM17 0 vg (Or.inl ⟨rfl, m1⟩), b1_v]
    exact ⟨t, ht, rfl, rfl⟩
  | succ q ih =>
    intro k fuel fuel' s t x h1 h2 h3 hs ht hse
    obtain ⟨f, rfl⟩ : ∃ f, fuel = f + 1 := ⟨fuel - 1, by omega⟩
    obtain ⟨f', rfl⟩ : ∃ f, fuel' = f + 1 := ⟨fuel' - 1, by omega⟩
    have hk : k < w := by omega
    obtain ⟨ok, ok4⟩ := o1 k hk
    have hu1 : s.testBit (o k) = false := by
      cases h : s.testBit (o k)
      · rfl
      · obtain ⟨k', hk', hk2⟩ := (hse (o k)).mp h
        have := oinj k' k (by omega) hk hk2
        omega
    have hu2 : ∀ j, j < w → s.testBit j = false → j ≠ o k → ahd V (o k) j := by
      intro j hj hjs hjk
      obtain ⟨k', hk', hk2⟩ := o2 j hj
      rw [← hk2] at hjk ⊢
      apply o3 k k' _ hk'
      rcases Nat.lt_trichotomy k k' with h | h | h
      · exact h
      · exact absurd (by rw [h]) hjk
      · have := (hse j).mpr ⟨k', h, hk2⟩
        rw [this] at hjs
        exact absurd hjs (by decide)
    have hs2 : s ||| 2 ^ o k < 2 ^ 14 := or_lt hs (by omega)
    have ht2 : t ||| 2 ^ o k < 2 ^ 14 := or_lt ht (by omega)
    have hpo : 2 ^ o k < 2 ^ 14 := (Nat.pow_lt_pow_iff_right (by decide : 1 < 2)).mpr (by omega)
    have hse2 : seenB o (k + 1) (s ||| 2 ^ o k) := by
      intro j
      rw [Nat.testBit_or, Nat.testBit_two_pow, Bool.or_eq_true, decide_eq_true_eq, hse j]
      constructor
      · rintro (⟨k', h1, h2⟩ | h)
        · exact ⟨k', by omega, h2⟩
        · exact ⟨k, by omega, h⟩
      · rintro ⟨k', h1, h2⟩
        by_cases hkk : k' = k
        · rw [hkk] at h2
          exact Or.inr h2
        · exact Or.inl ⟨k', by omega, h2⟩
    obtain ⟨f3, hin⟩ := fst39_v (o := o) w14 vc vg m0 m1 hM17 p0 L (f_X5_first_L23 M p0 f') (s := s) (by omega) (nI t) x (nI k) ok hu1 hu2 w 0 64 (-9 : Int32) (by omega) (by omega) (Or.inl ⟨rfl, fun j hj => absurd hj (by omega)⟩)
    have hor : ∀ y, y < 2 ^ 14 → nI y ||| ((1 : Int32) <<< (nI (o k) &&& 31)) = nI (y ||| 2 ^ o k) := by
      intro y hy
      rw [pow_v (o k) (by omega), or_nI (by omega) (by omega)]
    have hn0 : (0 : Int32) = nI 0 := rfl
    rw [f_X3_worstFirst_L7, f_X5_first_L23, v5, hM17, if_neg (by rw [nI_leI (by omega) (by omega)]; omega), if_neg (by rw [nI_leI (by omega) (by omega)]; omega), hn0, hin, gd_i (by omega) (by omega), nI_cl (by omega), ok4, ltt_v, gd_i (by omega) (by omega), nI_cl (by omega), f_X5_first_L39, hM17, if_pos ((nI_leI (by omega) (by omega)).mpr (by omega)), hor s hs, ltt_v, gd_i (by omega) (by omega), nI_cl (by omega), ← m0]
    unfold f_X3_worstFirst_J53 f_X5_first_J148
    simp only [ltt_v, nI_s1, hor t ht]
    by_cases c : x < V 0 (o k)
    · rw [if_pos c, if_pos c, gd_i (by omega) (by omega)]
      exact ih (k + 1) f f' _ t x (by omega) (by omega) (by omega) hs2 ht hse2
    · rw [if_neg c, if_neg c, gd_i (by omega) (by omega), gd_i (by omega) (by omega)]
      exact ih (k + 1) f f' _ _ _ (by omega) (by omega) (by omega) hs2 ht2 hse2
theorem eq_first : EQ_first := by
  intro c B L R T U V M Lm hc h p0
  have hu := h.up
  obtain ⟨⟨w, hV⟩, hVM⟩ := h.2.2.2.1
  have hL : L = Lm := h.2.2.2.2.2
  subst hL
  obtain ⟨v5, w14, vc, vg, vs, o, o1, o2, o3⟩ := id hV
  unfold f_X4_first f_X5_first
  rcases win p0 0 14000 with ⟨hw0, a1, a2⟩ | ⟨hw0, a1, a2⟩
  · rw [a1, a2]
    simp only [b1_v, lq10, if_false]
    obtain ⟨z, hz, k1, k2⟩ := first_v v5 w14 vc vg hVM o1 o2 o3 p0 L w 0 64 64 0 0 p0 (by omega) (by omega) (by omega) (by decide) (by decide) (by
      intro j
      rw [Nat.zero_testBit]
      constructor
      · intro h; exact absurd h (by decide)
      · rintro ⟨k', h, -⟩; exact absurd h (by omega))
    have bs : f_X3_worstFirst V p0 = some (nI z) := k1
    rw [bs, b1_v]
    unfold f_X4_tell
    rw [b2_v, gainOf_v w14 (by omega) v5 vg, b1_v]
    have k2' : f_X5_first_L23 M p0 64 (0 : Int32) (0 : Int32) p0 (0 : Int32) L = some (zI (V 1) z w, Int32.toInt64 (nI z)) := k2
    refine ⟨_, _, _, rfl, k2', hu.lng _⟩
  · rw [a1, a2]
    exact ⟨_, _, _, rfl, rfl, hu⟩
