theorem sw_same (T : RG) (f : Nat) (v : Nat → Int32) : sw T f v f = v := by simp [sw]
theorem sw_ne (T : RG) {f g : Nat} (v : Nat → Int32) (h : g ≠ f) : sw T f v g = T g := by
  have : Nat.beq g f = false := by rw [← Bool.not_eq_true, Nat.beq_eq]; exact h
  simp [sw, this]
theorem idx40b (r s i : Nat) : (40 : Int32) * nI r + nI s + nI i = nI (40 * r + s + i) := by
  rw [idx40, nI_add]
theorem holds_v {p q : Int32} (hq : 0 ≤ q.toInt) : f_X4_holdsPlaces p q = some (if 0 ≤ p.toInt ∧ p.toInt + q.toInt ≤ 40 then 1 else 0) := by
  have e40 : (40 : Int32).toInt = 40 := rfl
  have e0 : (0 : Int32).toInt = 0 := rfl
  have hp := tlt p
  unfold f_X4_holdsPlaces
  by_cases c : (40 : Int32) < q
  · rw [if_pos c, if_neg (by rw [ilt, e40] at c; omega)]
  · rw [if_neg c]
    rw [ilt, e40] at c
    have hs : ((40 : Int32) - q).toInt = 40 - q.toInt := by rw [tsub (by rw [e40]; omega) (by rw [e40]; omega), e40]
    rcases win p 0 (40 - q) with ⟨hw, w1, w2⟩ | ⟨hw, w1, w2⟩
    · rw [w1, b1_v, if_neg (by decide), if_pos (by omega)]
    · rw [w1, b1_v, if_pos rfl, if_neg (by omega)]
theorem cpA_v {r s cnt : Nat} (hr : r < 6) (hs : s + cnt ≤ 40) (p2 p3 : Int32) : ∀ (q i fuel : Nat) (M : RG), i + q = cnt → q < fuel → ∃ Mz, f_X5_copy_L96 (nI r) (nI s) p2 p3 (nI cnt) fuel (nI i) M = f_X5_copy_L133 (nI r) (nI s) p2 p3 (nI cnt) 64 0 Mz ∧ (∀ k, k < i → Mz 16 k = M 16 k) ∧ (∀ k, i ≤ k → k < cnt → Mz 16 k = M 15 (40 * r + s + k)) ∧ ∀ g, g ≠ 16 → Mz g = M g := by
  intro q
  induction q with
  | zero =>
    intro i fuel M h1 h2
    obtain ⟨f, rfl⟩ : ∃ f, fuel = f + 1 := ⟨fuel - 1, by omega⟩
    rw [f_X5_copy_L96, if_pos ((nI_leI (by omega) (by omega)).mpr (by omega))]
    exact ⟨M, rfl, fun _ _ => rfl, fun k h h' => by omega, fun _ _ => rfl⟩
  | succ q ih =>
    intro i fuel M h1 h2
    obtain ⟨f, rfl⟩ : ∃ f, fuel = f + 1 := ⟨fuel - 1, by omega⟩
    rw [f_X5_copy_L96, if_neg (by rw [nI_leI (by omega) (by omega)]; omega), idx40b, gd_i (by omega) (by omega), gd_i (by omega) (by omega), nI_cl (by omega), nI_cl (by omega), ltt_v, nI_s1, ltt_v]
    obtain ⟨Mz, k1, k2, k3, k4⟩ := ih (i + 1) f (st M 16 i (M 15 (40 * r + s + i))) (by omega) (by omega)
    refine ⟨Mz, k1, ?_, ?_, ?_⟩
    · intro k hk
      rw [k2 k (by omega), st_same, pk_un (by omega)]
    · intro k hk hk'
      by_cases hki : k = i
      · rw [hki, k2 i (by omega), st_same, pk_us]
      · rw [k3 k (by omega) hk', st_ne M _ _ (by omega)]
    · intro g hg
      rw [k4 g hg, st_ne M _ _ hg]
theorem cpB_v {t d cnt : Nat} (ht : t < 6) (hd : d + cnt ≤ 40) (p0 p1 : Int32) : ∀ (q i fuel : Nat) (M : RG), i + q = cnt → q < fuel → ∃ Mz, f_X5_copy_L133 p0 p1 (nI t) (nI d) (nI cnt) fuel (nI i) M = some (1, Mz) ∧ (∀ k, i ≤ k → k < cnt → Mz 15 (40 * t + d + k) = M 16 k) ∧ (∀ x, ¬ (40 * t + d + i ≤ x ∧ x < 40 * t + d + cnt) → Mz 15 x = M 15 x) ∧ ∀ g, g ≠ 15 → Mz g = M g := by
  intro q
  induction q with
  | zero =>
    intro i fuel M h1 h2
    obtain ⟨f, rfl⟩ : ∃ f, fuel = f + 1 := ⟨fuel - 1, by omega⟩
    rw [f_X5_copy_L133, if_pos ((nI_leI (by omega) (by omega)).mpr (by omega))]
    exact ⟨M, rfl, fun k h h' => by omega, fun _ _ => rfl, fun _ _ => rfl⟩
  | succ q ih =>
    intro i fuel M h1 h2
    obtain ⟨f, rfl⟩ : ∃ f, fuel = f + 1 := ⟨fuel - 1, by omega⟩
    rw [f_X5_copy_L133, if_neg (by rw [nI_leI (by omega) (by omega)]; omega), idx40b, gd_i (by omega) (by omega), gd_i (by omega) (by omega), nI_cl (by omega), nI_cl (by omega), ltt_v, nI_s1, ltt_v]
    obtain ⟨Mz, k1, k2, k3, k4⟩ := ih (i + 1) f (st M 15 (40 * t + d + i) (M 16 i)) (by omega) (by omega)
    refine ⟨Mz, k1, ?_, ?_, ?_⟩
    · intro k hk hk'
      by_cases hki : k = i
      · rw [hki, k3 _ (by omega), st_same, pk_us]
      · rw [k2 k (by omega) hk', st_ne M _ _ (by omega)]
    · intro x hx
      rw [k3 x (by omega), st_same, pk_un (by omega)]
    · intro g hg
      rw [k4 g hg, st_ne M _ _ hg]
theorem eq_copy : EQ_copy := by
  intro c B L R T U V M Lm hc h p0 p1 p2 p3 p4
  have hu := h.up
  have hU := h.2.2.1
  obtain ⟨u1, u2, u3⟩ := id hU
  unfold f_X4_copy f_X5_copy
  rcases run_ok p0 with ⟨h0, q1, q2⟩ | ⟨h0, q1, q2⟩
  · rcases run_ok p2 with ⟨g0, y1, y2⟩ | ⟨g0, y1, y2⟩
    · rw [q1, q2, y1, y2]
      simp only [b1_v, lq10, if_false]
      obtain ⟨r, hr, rfl⟩ := okN_nI h0 (by omega)
      obtain ⟨t, ht, rfl⟩ := okN_nI g0 (by omega)
      have e0 : (0 : Int32).toInt = 0 := rfl
      have e40 : (40 : Int64).toInt = 40 := rfl
      by_cases h4 : (0 : Int32) ≤ p4
      · rw [if_pos h4, if_pos h4]
        rw [ile, e0] at h4
        have hp1 := tlt p1
        have hp3 := tlt p3
        have hp4 := tlt p4
        have s1 : ((Int32.toInt64 p1) + (Int32.toInt64 p4)).toInt = p1.toInt + p4.toInt := by rw [laddT (by rw [wide, wide]; omega) (by rw [wide, wide]; omega), wide, wide]
        have s3 : ((Int32.toInt64 p3) + (Int32.toInt64 p4)).toInt = p3.toInt + p4.toInt := by rw [laddT (by rw [wide, wide]; omega) (by rw [wide, wide]; omega), wide, wide]
        simp only [gd_i hr (by omega : 6 < 1000), gd_i ht (by omega : 6 < 1000), nI_cl (by omega : r < 1000), nI_cl (by omega : t < 1000), ltt_v, ← u2]
        have j1 : f_X4_copy_J51 (nI r) p1 (nI t) p3 p4 B U = some (-3, st (st B 6 0 (nI 1)) 5 1 (B 5 1 + 1), U) := by
          unfold f_X4_copy_J51
          rw [fl1, found_v (by omega), b2_v]
          rfl
        have j2 : f_X4_copy_J76 (nI r) p1 (nI t) p3 p4 B U = some (-3, st (st B 6 0 (nI 2)) 5 2 (B 5 2 + 1), U) := by
          unfold f_X4_copy_J76
          rw [fl2, found_v (by omega), b2_v]
        have m1 : f_X5_copy_J45 (nI r) p1 (nI t) p3 p4 M = some (-3, st (st M 0 0 (nI 1)) 1 1 (M 1 1 + 1)) := by
          unfold f_X5_copy_J45
          rw [fl1, meets_v (by omega), b2_v]
          rfl
        have m2 : f_X5_copy_J87 (nI r) p1 (nI t) p3 p4 M = some (-3, st (st M 0 0 (nI 2)) 1 2 (M 1 2 + 1)) := by
          unfold f_X5_copy_J87
          rw [fl2, meets_v (by omega), b2_v]
        rw [j1, j2, m1, m2]
        by_cases z1 : U 6 r = 0
        · rw [if_pos z1, if_pos z1]
          exact ⟨_, _, _, _, rfl, rfl, h.found 1⟩
        · rw [if_neg z1, if_neg z1]
          by_cases z2 : U 6 t = 0
          · rw [if_pos z2, if_pos z2]
            exact ⟨_, _, _, _, rfl, rfl, h.found 1⟩
          · rw [if_neg z2, if_neg z2]
            by_cases c1 : 0 ≤ p1.toInt ∧ p1.toInt + p4.toInt ≤ 40
            · rw [show f_X4_holdsPlaces p1 p4 = some 1 from by rw [holds_v h4, if_pos c1], b1_v, if_neg (show ¬ (1 : Int32) = 0 by decide)]
              rw [if_neg (by rw [ilt, e0]; omega)]
              by_cases c3 : 0 ≤ p3.toInt ∧ p3.toInt + p4.toInt ≤ 40
              · rw [show f_X4_holdsPlaces p3 p4 = some 1 from by rw [holds_v h4, if_pos c3], b1_v, if_neg (show ¬ (1 : Int32) = 0 by decide), if_neg (by rw [ilt, e0]; omega), if_neg (by rw [cmp_gt, s1, e40]; omega), if_pos (by rw [cmp_le, s3, e40]; omega)]
                obtain ⟨s, hs1, hs2⟩ : ∃ s : Nat, p1 = nI s ∧ (s : Int) = p1.toInt := ⟨p1.toInt.toNat, nI_eq_of (by omega) (by omega), by omega⟩
                obtain ⟨d, hd1, hd2⟩ : ∃ s : Nat, p3 = nI s ∧ (s : Int) = p3.toInt := ⟨p3.toInt.toNat, nI_eq_of (by omega) (by omega), by omega⟩
                obtain ⟨m, hm1, hm2⟩ : ∃ s : Nat, p4 = nI s ∧ (s : Int) = p4.toInt := ⟨p4.toInt.toNat, nI_eq_of (by omega) (by omega), by omega⟩
                rw [hs1, hd1, hm1]
                have hck : cpok (nI s) (nI d) (nI m) = true := by
                  simp only [cpok, Bool.and_eq_true, decide_eq_true_eq]
                  rw [nI_cl (by omega), nI_cl (by omega), nI_cl (by omega), ilt, ilt, ilt, nI_ti (by omega), nI_ti (by omega), nI_ti (by omega), e0]
                  omega
                rw [gd_t hck, nI_cl (by omega), nI_cl (by omega), nI_cl (by omega)]
                obtain ⟨Ma, a1, a2, a3, a4⟩ := cpA_v (r := r) (s := s) (cnt := m) hr (by omega) (nI t) (nI d) m 0 64 M (by omega) (by omega)
                obtain ⟨Mb, b1, b2, b3, b4⟩ := cpB_v (t := t) (d := d) (cnt := m) ht (by omega) (nI r) (nI s) m 0 64 Ma (by omega) (by omega)
                have zz : nI 0 = (0 : Int32) := rfl
                rw [zz] at a1 b1
                rw [a1, b1]
                refine ⟨1, B, _, Mb, rfl, rfl, MOu (M := M) (fun g x y z => by rw [b4 g y, a4 g z]) hu ⟨?_, ?_, ?_⟩⟩
                · intro r' i' hr' hi'
                  by_cases hrr : r' = t
                  · subst hrr
                    rw [sw_same]
                    unfold va_cpy
                    by_cases hin : d ≤ i' ∧ i' < d + m
                    · rw [if_pos hin]
                      have e1 : 40 * r' + i' = 40 * r' + d + (i' - d) := by omega
                      rw [e1, b2 (i' - d) (by omega) (by omega), a3 (i' - d) (by omega) (by omega), u1 r (s + (i' - d)) hr (by omega)]
                      congr 1
                      omega
                    · rw [if_neg hin, b3 _ (by omega), a4 15 (by omega)]
                      exact u1 r' i' hr' hi'
                  · rw [sw_ne _ _ hrr, b3 _ (by omega), a4 15 (by omega)]
                    exact u1 r' i' hr' hi'
                · rw [sw_ne _ _ (by omega), b4 14 (by omega), a4 14 (by omega)]
                  exact u2
                · rw [sw_ne _ _ (by omega)]
                  exact u3
              · rw [show f_X4_holdsPlaces p3 p4 = some 0 from by rw [holds_v h4, if_neg c3], b1_v, if_pos (show (0 : Int32) = 0 from rfl)]
                by_cases x3 : p3 < (0 : Int32)
                · rw [if_pos x3]
                  exact ⟨_, _, _, _, rfl, rfl, h.found 2⟩
                · rw [if_neg x3, if_neg (by rw [cmp_gt, s1, e40]; omega), if_neg (by rw [cmp_le, s3, e40]; rw [ilt, e0] at x3; omega)]
                  exact ⟨_, _, _, _, rfl, rfl, h.found 2⟩
            · rw [show f_X4_holdsPlaces p1 p4 = some 0 from by rw [holds_v h4, if_neg c1], b1_v, if_pos (show (0 : Int32) = 0 from rfl)]
              by_cases x1 : p1 < (0 : Int32)
              · rw [if_pos x1]
                exact ⟨_, _, _, _, rfl, rfl, h.found 2⟩
              · rw [if_neg x1]
                by_cases x3 : p3 < (0 : Int32)
                · rw [if_pos x3]
                  exact ⟨_, _, _, _, rfl, rfl, h.found 2⟩
                · rw [if_neg x3, if_pos (by rw [cmp_gt, s1, e40]; rw [ilt, e0] at x1; omega)]
                  exact ⟨_, _, _, _, rfl, rfl, h.found 2⟩
      · rw [if_neg h4, if_neg h4, fl5, found_v (by omega), meets_v (by omega)]
        exact ⟨_, _, _, _, rfl, rfl, h.found 5⟩
    · rw [q1, q2, y1, y2]
      exact ⟨_, _, _, _, rfl, rfl, hu⟩
  · rw [q1, q2]
    exact ⟨_, _, _, _, rfl, rfl, hu⟩
