theorem Rel.lng {c : Nat} {B : RG} {L : Int64} {R T U V M : RG} {Lm : Int64} (h : Rel c B L R T U V M Lm) (x : Int64) : Rel c B x R T U V M x := by
  obtain ⟨h1, h2, h3, h4, h5, h6⟩ := h
  exact ⟨h1, h2, h3, h4, h5, rfl⟩
theorem apL_v {n r t : Nat} {U M : RG} (h11 : 11 ≤ n) (h4 : n ≤ 40) (hr : r < 6) (ht : t < 6) (hM : M 3 0 = nI n) (hU : ∀ r i, r < 6 → i < 40 → U r i = M 15 (40 * r + i)) {sh : Int32} (hs : -5 ≤ sh.toInt ∧ sh.toInt ≤ 5) : ∀ (q i fuel fuel' : Nat) (x : Int64), i + q + 5 = n → 5 ≤ i → q < fuel → q < fuel' → ∃ y, f_X0_squaresApart_L6 U (nI r) (nI t) sh (nI n) fuel x (nI i) = some y ∧ f_X5_apart_L6 M (nI r) (nI t) sh fuel' x (nI i) = some y := by
  have e5 : (5 : Int32) = nI 5 := rfl
  have e6 : (6 : Int32) = nI 6 := rfl
  intro q
  induction q with
  | zero =>
    intro i fuel fuel' x h1 hi h2 h3
    obtain ⟨f, rfl⟩ : ∃ f, fuel = f + 1 := ⟨fuel - 1, by omega⟩
    obtain ⟨f', rfl⟩ : ∃ f, fuel' = f + 1 := ⟨fuel' - 1, by omega⟩
    rw [f_X0_squaresApart_L6, f_X5_apart_L6, hM, e5, e6, pk_sub (by omega), pk_sub (by omega), if_pos ((nI_leI (by omega) (by omega)).mpr (by omega)), if_pos ((nI_ltI (by omega) (by omega)).mpr (by omega))]
    exact ⟨x, rfl, rfl⟩
  | succ q ih =>
    intro i fuel fuel' x h1 hi h2 h3
    obtain ⟨f, rfl⟩ : ∃ f, fuel = f + 1 := ⟨fuel - 1, by omega⟩
    obtain ⟨f', rfl⟩ : ∃ f, fuel' = f + 1 := ⟨fuel' - 1, by omega⟩
    obtain ⟨j, hj, hj2⟩ : ∃ j : Nat, (j : Int) = i + sh.toInt ∧ j < 40 := ⟨((i : Int) + sh.toInt).toNat, by omega, by omega⟩
    have s1 : nI i + sh = nI j := by
      rw [ieq, tadd (by rw [nI_ti (by omega)]; omega) (by rw [nI_ti (by omega)]; omega), nI_ti (by omega), nI_ti (by omega)]
      omega
    have s2 : (40 : Int32) * nI t + nI i + sh = nI (40 * t + j) := by
      rw [idx40, ieq, tadd (by rw [nI_ti (by omega)]; omega) (by rw [nI_ti (by omega)]; omega), nI_ti (by omega), nI_ti (by omega)]
      omega
    rw [f_X0_squaresApart_L6, f_X5_apart_L6, hM, if_neg (by rw [e5, pk_sub (by omega), nI_leI (by omega) (by omega)]; omega), if_neg (by rw [e6, pk_sub (by omega), nI_ltI (by omega) (by omega)]; omega), s1, s2, gd_i hr (by omega), ltt_v, gd_i (by omega) (by omega), gd_i ht (by omega), ltt_v, gd_i hj2 (by omega), gdr hr (by omega), gd_i (by omega) (by omega), clr hr (by omega), nI_cl (by omega), nI_cl (by omega), nI_cl (by omega), nI_cl (by omega), nI_cl (by omega), hU r i hr (by omega), hU t j ht hj2]
    simp only [ltt_v, nI_s1]
    exact ih (i + 1) f f' _ (by omega) (by omega) (by omega) (by omega)
/-- the squares apart -/
def apz (U : RG) (r t n : Nat) (sh : Int32) : Int64 := (f_X0_squaresApart U (nI r) (nI t) sh (nI n)).getD 0
theorem ap_v {n r t : Nat} {U M : RG} (h11 : 11 ≤ n) (h4 : n ≤ 40) (hr : r < 6) (ht : t < 6) (hM : M 3 0 = nI n) (hU : ∀ r i, r < 6 → i < 40 → U r i = M 15 (40 * r + i)) {sh : Int32} (hs : -5 ≤ sh.toInt ∧ sh.toInt ≤ 5) : f_X0_squaresApart U (nI r) (nI t) sh (nI n) = some (apz U r t n sh) ∧ f_X5_apart M (nI r) (nI t) sh = some (apz U r t n sh) := by
  obtain ⟨y, k1, k2⟩ := apL_v h11 h4 hr ht hM hU hs (n - 10) 5 64 64 0 (by omega) (by omega) (by omega) (by omega)
  have e5 : nI 5 = (5 : Int32) := rfl
  rw [e5] at k1 k2
  have h : f_X0_squaresApart U (nI r) (nI t) sh (nI n) = some y := k1
  have hz : apz U r t n sh = y := by unfold apz; rw [h]; rfl
  rw [hz]
  exact ⟨h, k2⟩
theorem fitL_v {n r t : Nat} {U M : RG} (h11 : 11 ≤ n) (h4 : n ≤ 40) (hr : r < 6) (ht : t < 6) (hM : M 3 0 = nI n) (hU : ∀ r i, r < 6 → i < 40 → U r i = M 15 (40 * r + i)) (L : Int64) : ∀ (q k fuel fuel' : Nat) (b : Int32), k + q = 6 → 1 ≤ k → q < fuel → q < fuel' → (-5 ≤ b.toInt ∧ b.toInt ≤ 5) → ∃ z, (-5 ≤ z.toInt ∧ z.toInt ≤ 5) ∧ f_X0_bestShift_L16 U (nI r) (nI t) (nI n) fuel b (apz U r t n b) (nI k) = some z ∧ f_X5_fit_L57 (nI r) (nI t) fuel' b (nI k) M L = some ((100 : Int32) + z, M, apz U r t n z) := by
  have e5 : (5 : Int32) = nI 5 := rfl
  intro q
  induction q with
  | zero =>
    intro k fuel fuel' b h1 hk h2 h3 hb
    obtain ⟨f, rfl⟩ : ∃ f, fuel = f + 1 := ⟨fuel - 1, by omega⟩
    obtain ⟨f', rfl⟩ : ∃ f, fuel' = f + 1 := ⟨fuel' - 1, by omega⟩
    have c1 : (5 : Int32) < nI k := by rw [e5]; exact (nI_ltI (by omega) (by omega)).mpr (by omega)
    rw [f_X0_bestShift_L16, f_X5_fit_L57, if_pos c1, if_pos c1, (ap_v h11 h4 hr ht hM hU hb).2, b1_v]
    exact ⟨b, hb, rfl, rfl⟩
  | succ q ih =>
    intro k fuel fuel' b h1 hk h2 h3 hb
    obtain ⟨f, rfl⟩ : ∃ f, fuel = f + 1 := ⟨fuel - 1, by omega⟩
    obtain ⟨f', rfl⟩ : ∃ f, fuel' = f + 1 := ⟨fuel' - 1, by omega⟩
    have c1 : ¬ (5 : Int32) < nI k := by rw [e5, nI_ltI (by omega) (by omega)]; omega
    have fk : (-nI k + (2 : Int32) * nI k = nI k) ∧ ¬ (nI k < -nI k) ∧ ¬ (nI k < nI k) ∧ nI k < nI k + (2 : Int32) * nI k ∧ (-5 ≤ (-nI k).toInt ∧ (-nI k).toInt ≤ 5) ∧ (-5 ≤ (nI k).toInt ∧ (nI k).toInt ≤ 5) := by
      have : k = 1 ∨ k = 2 ∨ k = 3 ∨ k = 4 ∨ k = 5 := by omega
      rcases this with rfl | rfl | rfl | rfl | rfl <;> decide
    obtain ⟨f1, f2, f3, f4, f5, f6⟩ := fk
    obtain ⟨a1, a2⟩ := ap_v h11 h4 hr ht hM hU hb
    obtain ⟨b1, b2⟩ := ap_v h11 h4 hr ht hM hU f5
    obtain ⟨c3, c4⟩ := ap_v h11 h4 hr ht hM hU f6
    -- after the first of the two
    obtain ⟨b', hb', hb''⟩ : ∃ b', b' = (if (0 : Int32) ≤ lg_cmp (apz U r t n (-nI k)) (apz U r t n b) then b else -nI k) ∧ (-5 ≤ b'.toInt ∧ b'.toInt ≤ 5) := by
      refine ⟨_, rfl, ?_⟩
      split
      · exact hb
      · exact f5
    obtain ⟨a3, a4⟩ := ap_v h11 h4 hr ht hM hU hb''
    obtain ⟨b3, hb3, hb3'⟩ : ∃ b3, b3 = (if (0 : Int32) ≤ lg_cmp (apz U r t n (nI k)) (apz U r t n b') then b' else nI k) ∧ (-5 ≤ b3.toInt ∧ b3.toInt ≤ 5) := by
      refine ⟨_, rfl, ?_⟩
      split
      · exact hb''
      · exact f6
    obtain ⟨z, hz, k1, k2⟩ := ih (k + 1) f f' b3 (by omega) (by omega) (by omega) (by omega) hb3'
    refine ⟨z, hz, ?_, ?_⟩
    · rw [f_X0_bestShift_L16, if_neg c1, ltt_v, f_X0_bestShift_L27, if_neg f2, b1, b1_v]
      have g1 : ∀ (ko : Int32 → Int64 → Int32 → Int32 → Option Int32), (if (0 : Int32) ≤ lg_cmp (apz U r t n (-nI k)) (apz U r t n b) then f_X0_bestShift_J61 U (nI r) (nI t) (nI n) (f_X0_bestShift_L16 U (nI r) (nI t) (nI n) f) ko b (apz U r t n b) (nI k) (-nI k) else f_X0_bestShift_J61 U (nI r) (nI t) (nI n) (f_X0_bestShift_L16 U (nI r) (nI t) (nI n) f) ko (-nI k) (apz U r t n (-nI k)) (nI k) (-nI k)) = ko b' (apz U r t n b') (nI k) (nI k) := by
        intro ko
        rw [hb']
        unfold f_X0_bestShift_J61
        rw [f1]
        split <;> rfl
      rw [g1, f_X0_bestShift_L27, if_neg f3, c3, b1_v]
      have g2 : ∀ (ko : Int32 → Int64 → Int32 → Int32 → Option Int32), (if (0 : Int32) ≤ lg_cmp (apz U r t n (nI k)) (apz U r t n b') then f_X0_bestShift_J61 U (nI r) (nI t) (nI n) (f_X0_bestShift_L16 U (nI r) (nI t) (nI n) f) ko b' (apz U r t n b') (nI k) (nI k) else f_X0_bestShift_J61 U (nI r) (nI t) (nI n) (f_X0_bestShift_L16 U (nI r) (nI t) (nI n) f) ko (nI k) (apz U r t n (nI k)) (nI k) (nI k)) = ko b3 (apz U r t n b3) (nI k) (nI k + (2 : Int32) * nI k) := by
        intro ko
        rw [hb3]
        unfold f_X0_bestShift_J61
        split <;> rfl
      rw [g2, f_X0_bestShift_L27, if_pos f4, ltt_v, nI_s1]
      exact k1
    · rw [f_X5_fit_L57, if_neg c1, b2, a2]
      simp only [b1_v]
      have g1 : (if (0 : Int32) ≤ lg_cmp (apz U r t n (-nI k)) (apz U r t n b) then f_X5_fit_J90 (nI r) (nI t) (f_X5_fit_L57 (nI r) (nI t) f') (nI k) b M L else f_X5_fit_J90 (nI r) (nI t) (f_X5_fit_L57 (nI r) (nI t) f') (nI k) (-nI k) M L) = f_X5_fit_J90 (nI r) (nI t) (f_X5_fit_L57 (nI r) (nI t) f') (nI k) b' M L := by
        rw [hb']
        split <;> rfl
      rw [g1]
      unfold f_X5_fit_J90 f_X5_fit_J116
      rw [c4, a4]
      simp only [b1_v, ltt_v, nI_s1]
      have g2 : (if (0 : Int32) ≤ lg_cmp (apz U r t n (nI k)) (apz U r t n b') then f_X5_fit_L57 (nI r) (nI t) f' b' (nI (k + 1)) M L else f_X5_fit_L57 (nI r) (nI t) f' (nI k) (nI (k + 1)) M L) = f_X5_fit_L57 (nI r) (nI t) f' b3 (nI (k + 1)) M L := by
        rw [hb3]
        split <;> rfl
      rw [g2]
      exact k2
theorem eq_fit : EQ_fit := by
  intro c B L R T U V M Lm hc h p0 p1
  have hu := h.up
  have hU := h.2.2.1
  obtain ⟨u1, u2, u3⟩ := id hU
  obtain ⟨⟨n, hTM, hTI⟩, -⟩ := id h
  obtain ⟨⟨h3, h4⟩, -⟩ := id hTI
  have hL : L = Lm := h.2.2.2.2.2
  subst hL
  unfold f_X4_fit f_X5_fit
  rcases run_ok p0 with ⟨h0, q1, q2⟩ | ⟨h0, q1, q2⟩
  · rcases run_ok p1 with ⟨g0, y1, y2⟩ | ⟨g0, y1, y2⟩
    · rw [q1, q2, y1, y2]
      simp only [b1_v, lq10, if_false]
      obtain ⟨r, hr, rfl⟩ := okN_nI h0 (by omega)
      obtain ⟨t, ht, rfl⟩ := okN_nI g0 (by omega)
      rw [hTM.1, hTM.2.1]
      have e11 : (11 : Int32) = nI 11 := rfl
      by_cases h11 : (11 : Int32) ≤ nI n
      · rw [if_pos h11, if_pos h11]
        rw [e11, nI_leI (by omega) (by omega)] at h11
        simp only [gd_i hr (by omega : 6 < 1000), gd_i ht (by omega : 6 < 1000), nI_cl (by omega : r < 1000), nI_cl (by omega : t < 1000), ltt_v, ← u2]
        have j1 : f_X4_fit_J55 T U (nI r) (nI t) B L = some (-3, st (st B 6 0 (nI 1)) 5 1 (B 5 1 + 1), L) := by
          unfold f_X4_fit_J55
          rw [fl1, found_v (by omega), b2_v]
          rfl
        have m1 : f_X5_fit_J46 (nI r) (nI t) M L = some (-3, st (st M 0 0 (nI 1)) 1 1 (M 1 1 + 1), L) := by
          unfold f_X5_fit_J46
          rw [fl1, meets_v (by omega), b2_v]
          rfl
        rw [j1, m1]
        by_cases z1 : U 6 r = 0
        · rw [if_pos z1, if_pos z1]
          exact ⟨_, _, _, _, _, rfl, rfl, h.found 1⟩
        · rw [if_neg z1, if_neg z1]
          by_cases z2 : U 6 t = 0
          · rw [if_pos z2, if_pos z2]
            exact ⟨_, _, _, _, _, rfl, rfl, h.found 1⟩
          · rw [if_neg z2, if_neg z2]
            have hz0 : -5 ≤ (0 : Int32).toInt ∧ (0 : Int32).toInt ≤ 5 := by decide
            obtain ⟨z, hz, k1, k2⟩ := fitL_v h11 h4 hr ht hTM.2.1 u1 L 5 1 64 64 0 (by omega) (by omega) (by omega) (by omega) hz0
            have bs : f_X0_bestShift U (nI r) (nI t) (nI n) = some z := by
              unfold f_X0_bestShift
              rw [(ap_v h11 h4 hr ht hTM.2.1 u1 hz0).1, b1_v]
              exact k1
            rw [bs, b1_v, (ap_v h11 h4 hr ht hTM.2.1 u1 hz).1, b1_v]
            exact ⟨_, B, apz U r t n z, M, apz U r t n z, rfl, k2, hu.lng _⟩
      · rw [if_neg h11, if_neg h11]
        exact ⟨_, _, _, _, _, rfl, rfl, hu⟩
    · rw [q1, q2, y1, y2]
      exact ⟨_, _, _, _, _, rfl, rfl, hu⟩
  · rw [q1, q2]
    exact ⟨_, _, _, _, _, rfl, rfl, hu⟩
/-- the step behind i -/
def stz (U : RG) (r i : Nat) : Int64 := if 0 < Int32.toInt64 (U r i) - Int32.toInt64 (U r (i + 1)) then Int32.toInt64 (U r i) - Int32.toInt64 (U r (i + 1)) else -(Int32.toInt64 (U r i) - Int32.toInt64 (U r (i + 1)))
theorem step_v {U : RG} {r i : Nat} (hr : r < 6) (hi : i + 1 < 40) : f_X0_stepAfter U (nI r) (nI i) = some (stz U r i) := by
  unfold f_X0_stepAfter
  rw [gd_i hr (by omega), ltt_v, gd_i (by omega) (by omega), gd_i hr (by omega), ltt_v, nI_s1, gd_i hi (by omega), nI_cl (by omega), nI_cl (by omega), nI_cl (by omega)]
  rfl
theorem stz_nn (U : RG) (r i : Nat) : 0 ≤ (stz U r i).toInt := by
  have a := tlt (U r i)
  have b := tlt (U r (i + 1))
  have hs : (Int32.toInt64 (U r i) - Int32.toInt64 (U r (i + 1))).toInt = (U r i).toInt - (U r (i + 1)).toInt := by rw [lsubT (by rw [wide, wide]; omega) (by rw [wide, wide]; omega), wide, wide]
  have e0 : (0 : Int64).toInt = 0 := rfl
  unfold stz
  split
  · rename_i h
    rw [ltL, e0] at h
    omega
  · rename_i h
    rw [ltL, e0] at h
    have : (-(Int32.toInt64 (U r i) - Int32.toInt64 (U r (i + 1)))).toInt = -((U r i).toInt - (U r (i + 1)).toInt) := by
      rw [Int64.toInt_neg, hs]
      exact Int.bmod_eq_of_le (by omega) (by omega)
    omega
theorem wstep_v {r : Nat} (ko22 : Int32 → Int64 → Int32 → RG → Int64 → Option (Int32 × RG × Int64)) {U M : RG} {L : Int64} (x3 : Int32) (x4 : Int64) {i : Nat} : (if (0 : Int32) ≤ (lg_cmp (Int32.toInt64 (U r i) - Int32.toInt64 (U r (i + 1))) (0 : Int64)) then (f_X5_worst_J79 (nI r) ko22 x3 x4 (nI i) (Int32.toInt64 (U r i) - Int32.toInt64 (U r (i + 1))) M L) else (f_X5_worst_J79 (nI r) ko22 x3 x4 (nI i) (-(Int32.toInt64 (U r i) - Int32.toInt64 (U r (i + 1)))) M L)) = if lg_cmp (stz U r i) x4 ≤ 0 then ko22 x3 x4 (nI (i + 1)) M L else ko22 (nI i) (stz U r i) (nI (i + 1)) M L := by
  have hs : (if (0 : Int32) ≤ (lg_cmp (Int32.toInt64 (U r i) - Int32.toInt64 (U r (i + 1))) (0 : Int64)) then (f_X5_worst_J79 (nI r) ko22 x3 x4 (nI i) (Int32.toInt64 (U r i) - Int32.toInt64 (U r (i + 1))) M L) else (f_X5_worst_J79 (nI r) ko22 x3 x4 (nI i) (-(Int32.toInt64 (U r i) - Int32.toInt64 (U r (i + 1)))) M L)) = f_X5_worst_J79 (nI r) ko22 x3 x4 (nI i) (stz U r i) M L := by
    unfold stz
    obtain ⟨d, hd⟩ : ∃ d, d = Int32.toInt64 (U r i) - Int32.toInt64 (U r (i + 1)) := ⟨_, rfl⟩
    rw [← hd]
    have e0 : (0 : Int64).toInt = 0 := rfl
    by_cases c1 : (0 : Int32) ≤ lg_cmp d 0
    · rw [if_pos c1]
      by_cases c2 : 0 < d
      · rw [if_pos c2]
      · rw [if_neg c2]
        have : d = 0 := by
          rw [cmp_ge, e0] at c1
          rw [ltL, e0] at c2
          rw [eqL, e0]
          omega
        rw [this]
        rfl
    · rw [if_neg c1, if_neg]
      rw [cmp_ge, e0] at c1
      rw [ltL, e0]
      omega
  rw [hs]
  unfold f_X5_worst_J79 f_X5_worst_J95 f_X5_worst_J111
  simp only [ltt_v, nI_s1]
  by_cases c : lg_cmp (stz U r i) x4 ≤ 0
  · rw [if_pos c, if_pos c, if_pos c]
  · rw [if_neg c, if_neg c, if_neg c]
theorem wstM_v {n r : Nat} {U M : RG} (h4 : n ≤ 40) (hr : r < 6) (hM : M 3 0 = nI n) (hU : ∀ r i, r < 6 → i < 40 → U r i = M 15 (40 * r + i)) (L : Int64) {i : Nat} (hi : i + 1 < n) (f' : Nat) (x3 : Int32) (x4 : Int64) : f_X5_worst_L22 (nI r) (f' + 1) x3 x4 (nI i) M L = if lg_cmp (stz U r i) x4 ≤ 0 then f_X5_worst_L22 (nI r) f' x3 x4 (nI (i + 1)) M L else f_X5_worst_L22 (nI r) f' (nI i) (stz U r i) (nI (i + 1)) M L := by
  have ei : (40 : Int32) * nI r + nI i + (1 : Int32) = nI (40 * r + (i + 1)) := by
    rw [idx40, nI_s1]
    rfl
  rw [f_X5_worst_L22, nI_s1, hM, if_neg (by rw [nI_leI (by omega) (by omega)]; omega), ei, gdr hr (by omega), gd_i (by omega) (by omega), ltt_v, clr hr (by omega), nI_cl (by omega), ← hU r i hr (by omega), ← hU r (i + 1) hr (by omega)]
  exact wstep_v _ _ _
theorem wst_v {n r : Nat} {U M : RG} (h4 : n ≤ 40) (hr : r < 6) (hM : M 3 0 = nI n) (hU : ∀ r i, r < 6 → i < 40 → U r i = M 15 (40 * r + i)) (L : Int64) : ∀ (q i fuel fuel' b : Nat), i + q + 1 = n → 1 ≤ i → q < fuel → q < fuel' → b + 1 < n → ∃ z, z + 1 < n ∧ f_X0_steepest_L5 U (nI r) (nI n) fuel (nI b) (nI i) = some (nI z) ∧ f_X5_worst_L22 (nI r) fuel' (nI b) (stz U r b) (nI i) M L = some (nI z, M, stz U r z) := by
  have e1 : (1 : Int32) = nI 1 := rfl
  intro q
  induction q with
  | zero =>
    intro i fuel fuel' b h1 hi h2 h3 hb
    obtain ⟨f, rfl⟩ : ∃ f, fuel = f + 1 := ⟨fuel - 1, by omega⟩
    obtain ⟨f', rfl⟩ : ∃ f, fuel' = f + 1 := ⟨fuel' - 1, by omega⟩
    rw [f_X0_steepest_L5, f_X5_worst_L22, hM, nI_s1, nI_p1 (by omega), if_pos ((nI_leI (by omega) (by omega)).mpr (by omega)), if_pos ((nI_leI (by omega) (by omega)).mpr (by omega))]
    exact ⟨b, hb, rfl, rfl⟩
  | succ q ih =>
    intro i fuel fuel' b h1 hi h2 h3 hb
    obtain ⟨f, rfl⟩ : ∃ f, fuel = f + 1 := ⟨fuel - 1, by omega⟩
    obtain ⟨f', rfl⟩ : ∃ f, fuel' = f + 1 := ⟨fuel' - 1, by omega⟩
    rw [wstM_v h4 hr hM hU L (by omega), f_X0_steepest_L5, nI_p1 (by omega), if_neg (by rw [nI_leI (by omega) (by omega)]; omega), step_v hr (by omega), step_v hr (by omega)]
    simp only [b1_v]
    unfold f_X0_steepest_J33
    simp only [ltt_v, nI_s1]
    by_cases c : lg_cmp (stz U r i) (stz U r b) ≤ 0
    · rw [if_pos c, if_pos c]
      exact ih (i + 1) f f' b (by omega) (by omega) (by omega) (by omega) hb
    · rw [if_neg c, if_neg c]
      exact ih (i + 1) f f' i (by omega) (by omega) (by omega) (by omega) (by omega)
theorem eq_worst : EQ_worst := by
  intro c B L R T U V M Lm hc h p0
  have hu := h.up
  have hU := h.2.2.1
  obtain ⟨u1, u2, u3⟩ := id hU
  obtain ⟨⟨n, hTM, hTI⟩, -⟩ := id h
  obtain ⟨⟨h3, h4⟩, -⟩ := id hTI
  have hL : L = Lm := h.2.2.2.2.2
  subst hL
  unfold f_X4_worst f_X5_worst
  rcases run_ok p0 with ⟨h0, q1, q2⟩ | ⟨h0, q1, q2⟩
  · rw [q1]
    obtain ⟨r, hr, rfl⟩ := okN_nI h0 (by omega)
    rw [ask_v hU hr]
    simp only [b1_v, lq10, if_false, gd_i hr (by omega : 6 < 1000), nI_cl (by omega : r < 1000)]
    by_cases hz : U 6 r = 0
    · rw [if_pos hz, if_pos hz, fl1, found_v (by omega)]
      simp only [b2_v]
      rw [if_neg (by decide)]
      exact ⟨_, _, _, _, _, rfl, rfl, h.found 1⟩
    · rw [if_neg hz, if_neg hz]
      simp only [b2_v]
      rw [if_pos (by decide), hTM.1]
      obtain ⟨z, z1, k1, k2⟩ := wst_v h4 hr hTM.2.1 u1 L (n - 2) 1 64 63 0 (by omega) (by omega) (by omega) (by omega) (by omega)
      have y0 : (0 : Int32) = nI 0 := rfl
      have st0 : f_X5_worst_L22 (nI r) 64 (0 : Int32) (-1 : Int64) (0 : Int32) M L = f_X5_worst_L22 (nI r) 63 (nI 0) (stz U r 0) (nI 1) M L := by
        have := wstM_v h4 hr hTM.2.1 u1 L (i := 0) (by omega) 63 0 (-1)
        rw [y0, ← y0] at this ⊢
        rw [this, if_neg]
        rw [cmp_le]
        have := stz_nn U r 0
        have em : (-1 : Int64).toInt = -1 := by decide
        omega
      have sp : f_X0_steepest U (nI r) (nI n) = some (nI z) := k1
      rw [st0, k2, sp, b1_v, step_v hr (by omega), b1_v]
      exact ⟨_, B, stz U r z, M, stz U r z, rfl, rfl, hu.lng _⟩
  · rw [q1, ask_f q2]
    exact ⟨_, _, _, _, _, rfl, rfl, hu⟩
