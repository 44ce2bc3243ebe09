theorem roA_v {n ax : Nat} {R : RG} (hax : ax ≤ 20) (hR2 : R 2 0 = nI ax) (hRw : ∀ i, 0 ≤ (R 0 i).toInt ∧ (R 0 i).toInt ≤ 250) (hRb : ∀ i, -128 ≤ (R 1 i).toInt ∧ (R 1 i).toInt ≤ 127) {p : Int32} (k5 : Int32 → Int32 → RG → Option (Int32 × RG)) (k14 : Int32 → Int32 → Int32 → RG → Option (Int32 × RG)) (m26 : Int32 → Int32 → RG → Option (Int32 × RG)) (m34 : Int32 → Int32 → Int32 → RG → Option (Int32 × RG)) {j : Nat} (hj : j < n) (tr : Int32) :
    ∀ (q i fuel fuel' : Nat) (bd : Int) (acc : Int32) (T M : RG), i + q = ax → q < fuel → q < fuel' → 10000 ≤ bd → bd + 2 * q + 6 ≤ 41000000 → TMr n T M → TIr n bd T → R 0 = M 12 → R 1 = M 13 → R 2 0 = M 11 0 → ∃ r T' M', f_X2_roll_L26 R p k5 k14 fuel acc tr (nI j) (nI i) T = k14 r tr (nI (j + 1)) T' ∧ f_X5_pass_L46 p m26 m34 fuel' acc tr (nI j) (nI i) M = m34 r tr (nI (j + 1)) M' ∧ TMr n T' M' ∧ TIr n (bd + 2 * q) T' ∧ MO M M' := by
  intro q
  induction q with
  | zero =>
    intro i fuel fuel' bd acc T M h1 h2 h3 hb0 hb hM hI r0 r1 r2
    obtain ⟨f, rfl⟩ : ∃ f, fuel = f + 1 := ⟨fuel - 1, by omega⟩
    obtain ⟨f', rfl⟩ : ∃ f, fuel' = f + 1 := ⟨fuel' - 1, by omega⟩
    have hge : nI ax ≤ nI i := (nI_leI (by omega) (by omega)).mpr (by omega)
    rw [f_X2_roll_L26, f_X5_pass_L46, ← r2, hR2, if_pos hge, if_pos hge, ltt_v, ltt_v, nI_s1]
    exact ⟨acc, T, M, rfl, rfl, hM, hI.mono (by omega), MO.refl _⟩
  | succ q ih =>
    intro i fuel fuel' bd acc T M h1 h2 h3 hb0 hb hM hI r0 r1 r2
    obtain ⟨f, rfl⟩ : ∃ f, fuel = f + 1 := ⟨fuel - 1, by omega⟩
    obtain ⟨f', rfl⟩ : ∃ f, fuel' = f + 1 := ⟨fuel' - 1, by omega⟩
    have hlt : ¬ nI ax ≤ nI i := by rw [nI_leI (by omega) (by omega)]; omega
    obtain ⟨r, T', M', p1, p2, p3, p4, p5⟩ := pressAt_v hM hI r1 hRb hb0 (by omega) hj (w := R 0 i) (hRw i)
    rw [f_X2_roll_L26, f_X5_pass_L46, ← r2, hR2, if_neg hlt, if_neg hlt, gd_i (by omega) (by omega), gd_i (by omega) (by omega), nI_cl (by omega), ← r0, p1, p2, b2_v, b2_v]
    simp only [ltt_v, nI_s1]
    obtain ⟨r', T'', M'', s1, s2, s3, s4, s5⟩ := ih (i + 1) f f' (bd + 2) (acc + r) T' M' (by omega) (by omega) (by omega) (by omega) (by omega) p3 p4 (by rw [r0]; exact (p5 12 (by omega) (by omega) (by omega) (by omega)).symm) (by rw [r1]; exact (p5 13 (by omega) (by omega) (by omega) (by omega)).symm) (by rw [r2, p5 11 (by omega) (by omega) (by omega) (by omega)])
    exact ⟨r', T'', M'', s1, s2, s3, s4.mono (by omega), p5.trans s5⟩
theorem roB_v {n ax : Nat} {R : RG} (hn : n ≤ 40) (hax : ax ≤ 20) (hR2 : R 2 0 = nI ax) (hRw : ∀ i, 0 ≤ (R 0 i).toInt ∧ (R 0 i).toInt ≤ 250) (hRb : ∀ i, -128 ≤ (R 1 i).toInt ∧ (R 1 i).toInt ≤ 127) {p : Int32} (k5 : Int32 → Int32 → RG → Option (Int32 × RG)) (m26 : Int32 → Int32 → RG → Option (Int32 × RG)) (tr : Int32) :
    ∀ (q j fuel fuel' : Nat) (bd : Int) (acc : Int32) (T M : RG), j + q = n → q < fuel → q < fuel' → 10000 ≤ bd → bd + 40 * q + 6 ≤ 41000000 → TMr n T M → TIr n bd T → R 0 = M 12 → R 1 = M 13 → R 2 0 = M 11 0 → ∃ r T' M', f_X2_roll_L14 R p k5 fuel acc tr (nI j) T = k5 r (tr + 1) T' ∧ f_X5_pass_L34 p m26 fuel' acc tr (nI j) M = m26 r (tr + 1) M' ∧ TMr n T' M' ∧ TIr n (bd + 40 * q) T' ∧ MO M M' := by
  intro q
  induction q with
  | zero =>
    intro j fuel fuel' bd acc T M h1 h2 h3 hb0 hb hM hI r0 r1 r2
    obtain ⟨f, rfl⟩ : ∃ f, fuel = f + 1 := ⟨fuel - 1, by omega⟩
    obtain ⟨f', rfl⟩ : ∃ f, fuel' = f + 1 := ⟨fuel' - 1, by omega⟩
    have hge : nI n ≤ nI j := (nI_leI (by omega) (by omega)).mpr (by omega)
    rw [f_X2_roll_L14, f_X5_pass_L34, hM.1, hM.2.1, if_pos hge, if_pos hge, ltt_v, ltt_v]
    exact ⟨acc, T, M, rfl, rfl, hM, hI.mono (by omega), MO.refl _⟩
  | succ q ih =>
    intro j fuel fuel' bd acc T M h1 h2 h3 hb0 hb hM hI r0 r1 r2
    obtain ⟨f, rfl⟩ : ∃ f, fuel = f + 1 := ⟨fuel - 1, by omega⟩
    obtain ⟨f', rfl⟩ : ∃ f, fuel' = f + 1 := ⟨fuel' - 1, by omega⟩
    have hlt : ¬ nI n ≤ nI j := by rw [nI_leI (by omega) (by omega)]; omega
    rw [f_X2_roll_L14, f_X5_pass_L34, hM.1, hM.2.1, if_neg hlt, if_neg hlt]
    have z : (0 : Int32) = nI 0 := rfl
    rw [z]
    obtain ⟨r, T', M', p1, p2, p3, p4, p5⟩ := roA_v hax hR2 hRw hRb (p := p) k5 (f_X2_roll_L14 R p k5 f) m26 (f_X5_pass_L34 p m26 f') (by omega : j < n) tr ax 0 64 64 bd acc T M (by omega) (by omega) (by omega) hb0 (by omega) hM hI r0 r1 r2
    rw [p1, p2]
    obtain ⟨r', T'', M'', s1, s2, s3, s4, s5⟩ := ih (j + 1) f f' (bd + 40) r T' M' (by omega) (by omega) (by omega) (by omega) (by omega) p3 (p4.mono (by omega)) (by rw [r0]; exact (p5 12 (by omega) (by omega) (by omega) (by omega)).symm) (by rw [r1]; exact (p5 13 (by omega) (by omega) (by omega) (by omega)).symm) (by rw [r2, p5 11 (by omega) (by omega) (by omega) (by omega)])
    exact ⟨r', T'', M'', s1, s2, s3, s4.mono (by omega), p5.trans s5⟩
theorem roC_v {n ax : Nat} {R : RG} (hn : n ≤ 40) (hax : ax ≤ 20) (hR2 : R 2 0 = nI ax) (hRw : ∀ i, 0 ≤ (R 0 i).toInt ∧ (R 0 i).toInt ≤ 250) (hRb : ∀ i, -128 ≤ (R 1 i).toInt ∧ (R 1 i).toInt ≤ 127) {p : Nat} (hp : p ≤ 50) :
    ∀ (q i fuel fuel' : Nat) (bd : Int) (acc : Int32) (T M : RG), i + q = p → q < fuel → q < fuel' → 10000 ≤ bd → bd + 1600 * q + 6 ≤ 41000000 → TMr n T M → TIr n bd T → R 0 = M 12 → R 1 = M 13 → R 2 0 = M 11 0 → ∃ r T' M', f_X2_roll_L5 R (nI p) fuel acc (nI i) T = some (r, T') ∧ f_X5_pass_L26 (nI p) fuel' acc (nI i) M = some (r, M') ∧ TMr n T' M' ∧ TIr n (bd + 1600 * q) T' ∧ MO M M' := by
  intro q
  induction q with
  | zero =>
    intro j fuel fuel' bd acc T M h1 h2 h3 hb0 hb hM hI r0 r1 r2
    obtain ⟨f, rfl⟩ : ∃ f, fuel = f + 1 := ⟨fuel - 1, by omega⟩
    obtain ⟨f', rfl⟩ : ∃ f, fuel' = f + 1 := ⟨fuel' - 1, by omega⟩
    have hge : nI p ≤ nI j := (nI_leI (by omega) (by omega)).mpr (by omega)
    rw [f_X2_roll_L5, f_X5_pass_L26, if_pos hge, if_pos hge]
    exact ⟨acc, T, M, rfl, rfl, hM, hI.mono (by omega), MO.refl _⟩
  | succ q ih =>
    intro j fuel fuel' bd acc T M h1 h2 h3 hb0 hb hM hI r0 r1 r2
    obtain ⟨f, rfl⟩ : ∃ f, fuel = f + 1 := ⟨fuel - 1, by omega⟩
    obtain ⟨f', rfl⟩ : ∃ f, fuel' = f + 1 := ⟨fuel' - 1, by omega⟩
    have hlt : ¬ nI p ≤ nI j := by rw [nI_leI (by omega) (by omega)]; omega
    rw [f_X2_roll_L5, f_X5_pass_L26, if_neg hlt, if_neg hlt]
    have z : (0 : Int32) = nI 0 := rfl
    rw [z]
    obtain ⟨r, T', M', p1, p2, p3, p4, p5⟩ := roB_v hn hax hR2 hRw hRb (p := nI p) (f_X2_roll_L5 R (nI p) f) (f_X5_pass_L26 (nI p) f') (nI j) n 0 64 64 bd acc T M (by omega) (by omega) (by omega) hb0 (by omega) hM hI r0 r1 r2
    rw [p1, p2, nI_s1]
    obtain ⟨r', T'', M'', s1, s2, s3, s4, s5⟩ := ih (j + 1) f f' (bd + 1600) r T' M' (by omega) (by omega) (by omega) (by omega) (by omega) p3 (p4.mono (by omega)) (by rw [r0]; exact (p5 12 (by omega) (by omega) (by omega) (by omega)).symm) (by rw [r1]; exact (p5 13 (by omega) (by omega) (by omega) (by omega)).symm) (by rw [r2, p5 11 (by omega) (by omega) (by omega) (by omega)])
    exact ⟨r', T'', M'', s1, s2, s3, s4.mono (by omega), p5.trans s5⟩
theorem eq_pass : EQ_pass := by
  intro c B L R T U V M Lm hc h p0
  have hu := h.up
  obtain ⟨⟨n, hTM, hTI⟩, hR, hU, hV, hB, hL⟩ := h
  obtain ⟨⟨h3, h4⟩, -⟩ := id hTI
  obtain ⟨r0, r1, r2, ⟨ax, hax, hax2⟩, r4, r5⟩ := hR
  have em : (0 : Int32).toInt = 0 := rfl
  have ep : (50 : Int32).toInt = 50 := rfl
  unfold f_X4_pass f_X5_pass
  rcases win p0 0 50 with ⟨hw, w1, w2⟩ | ⟨hw, w1, w2⟩
  · rw [em, ep] at hw
    rw [w1, w2]
    simp only [b1_v, lq10, if_false]
    by_cases hz : R 2 0 = 0
    · rw [if_pos hz, if_pos (by rw [← r2]; exact hz)]
      exact ⟨_, _, _, rfl, rfl, hu⟩
    · rw [if_neg hz, if_neg (by rw [← r2]; exact hz)]
      obtain ⟨p, hp, hp2⟩ : ∃ p : Nat, p0 = nI p ∧ p ≤ 50 := ⟨p0.toInt.toNat, nI_eq_of (by omega) (by omega), by omega⟩
      rw [hp]
      unfold f_X2_roll
      have z : (0 : Int32) = nI 0 := rfl
      obtain ⟨r, T', M', s1, s2, s3, s4, s5⟩ := roC_v h4 hax hax2 r4 r5 hp2 p 0 64 64 (10000 + 80000 * (c : Int)) 0 T M (by omega) (by omega) (by omega) (by omega) (by omega) hTM hTI r0 r1 r2
      rw [← z] at s1 s2
      rw [s1, s2, b2_v]
      exact ⟨r, T', M', rfl, rfl, hu.ofMO s5 s3 (s4.mono (by omega))⟩
  · rw [w1, w2]
    exact ⟨_, _, _, rfl, rfl, hu⟩
