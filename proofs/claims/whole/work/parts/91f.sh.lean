theorem unb84_v {r n : Nat} (a b : Int32) : ∀ (q i fuel : Nat) (U : RG), i + q = 40 → q < fuel → ∃ Uz, f_X0_unbend_L84 (nI r) a b (nI n) fuel r (nI i) U = some Uz ∧ (∀ k, k < i → Uz r k = U r k) ∧ (∀ k, i ≤ k → k < 40 → Uz r k = 0) ∧ ∀ g, g ≠ r → Uz g = U g := by
  intro q
  have e40 : (40 : Int32) = nI 40 := rfl
  induction q with
  | zero =>
    intro i fuel U h1 h2
    obtain ⟨f, rfl⟩ : ∃ f, fuel = f + 1 := ⟨fuel - 1, by omega⟩
    rw [f_X0_unbend_L84, e40, if_pos ((nI_leI (by omega) (by omega)).mpr (by omega))]
    exact ⟨U, rfl, fun _ _ => rfl, fun k h h' => by omega, fun _ _ => rfl⟩
  | succ q ih =>
    intro i fuel U h1 h2
    obtain ⟨f, rfl⟩ : ∃ f, fuel = f + 1 := ⟨fuel - 1, by omega⟩
    rw [f_X0_unbend_L84, e40, if_neg (by rw [nI_leI (by omega) (by omega)]; omega), gd_i (by omega) (by omega), nI_cl (by omega), ltt_v, nI_s1, ltt_v]
    obtain ⟨Uz, k1, k2, k3, k4⟩ := ih (i + 1) f (st U r i 0) (by omega) (by omega)
    refine ⟨Uz, k1, ?_, ?_, ?_⟩
    · intro k hk
      rw [k2 k (by omega), st_same, pk_un (by omega)]
    · intro k hk hk'
      by_cases hki : k = i
      · rw [hki, k2 i (by omega), st_same, pk_us]
      · exact k3 k (by omega) hk'
    · intro g hg
      rw [k4 g hg, st_ne U i 0 hg]
theorem shp121_v {r n : Nat} (hr : r < 6) (h4 : n ≤ 40) (a b : Int32) : ∀ (q i fuel : Nat) (M : RG), i + q = 40 → q < fuel → M 3 0 = nI n → ∃ Mz, f_X5_shape_L121 (nI r) a b fuel (nI i) M = some (1, Mz) ∧ (∀ k, i ≤ k → k < 40 → Mz 15 (40 * r + k) = if k < n then M 16 k else 0) ∧ (∀ x, ¬ (40 * r + i ≤ x ∧ x < 40 * r + 40) → Mz 15 x = M 15 x) ∧ ∀ g, g ≠ 15 → Mz g = M g := by
  intro q
  have e40 : (40 : Int32) = nI 40 := rfl
  induction q with
  | zero =>
    intro i fuel M h1 h2 h3
    obtain ⟨f, rfl⟩ : ∃ f, fuel = f + 1 := ⟨fuel - 1, by omega⟩
    rw [f_X5_shape_L121, e40, if_pos ((nI_leI (by omega) (by omega)).mpr (by omega))]
    exact ⟨M, rfl, fun k h h' => by omega, fun _ _ => rfl, fun _ _ => rfl⟩
  | succ q ih =>
    intro i fuel M h1 h2 h3
    obtain ⟨f, rfl⟩ : ∃ f, fuel = f + 1 := ⟨fuel - 1, by omega⟩
    have step : f_X5_shape_L121 (nI r) a b (f + 1) (nI i) M = f_X5_shape_L121 (nI r) a b f (nI (i + 1)) (st M 15 (40 * r + i) (if i < n then M 16 i else 0)) := by
      rw [f_X5_shape_L121, if_neg (by rw [e40, nI_leI (by omega) (by omega)]; omega), h3]
      unfold f_X5_shape_J159
      rw [gdr hr (by omega), gdr hr (by omega), clr hr (by omega), gd_i (by omega) (by omega), nI_cl (by omega)]
      simp only [ltt_v, nI_s1]
      by_cases hin : i < n
      · rw [if_neg (by rw [nI_leI (by omega) (by omega)]; omega), if_pos hin]
      · rw [if_pos (by rw [nI_leI (by omega) (by omega)]; omega), if_neg hin]
    rw [step]
    obtain ⟨Mz, k1, k2, k3, k4⟩ := ih (i + 1) f (st M 15 (40 * r + i) (if i < n then M 16 i else 0)) (by omega) (by omega) (by rw [st_ne M _ _ (by omega)]; exact h3)
    refine ⟨Mz, k1, ?_, ?_, ?_⟩
    · intro k hk hk'
      by_cases hki : k = i
      · rw [hki, k3 _ (by omega), st_same, pk_us]
      · rw [k2 k (by omega) hk', st_ne M _ _ (by omega)]
    · intro x hx
      rw [k3 x (by omega), st_same, pk_un (by omega)]
    · intro g hg
      rw [k4 g hg, st_ne M _ _ hg]
theorem shp_v {r n : Nat} {U M : RG} (hr : r < 6) (h3 : 3 ≤ n) (h4 : n ≤ 40) (hU : ∀ i, i < 40 → U r i = M 15 (40 * r + i)) (hM : M 3 0 = nI n) (a b : Int32) : ∀ (q i fuel fuel' : Nat) (Uc Mc : RG), i + 1 + q = n → 1 ≤ i → q < fuel → q < fuel' → (∀ k, k ≤ i → Uc r k = Mc 16 k) → (∀ k, i < k → k < 40 → Uc r k = U r k) → (∀ g, g ≠ r → Uc g = U g) → (∀ g, g ≠ 16 → Mc g = M g) → ∃ Uz Mz, f_X0_unbend_L27 (nI r) a b (nI n) fuel r (U r i) (nI i) Uc = f_X0_unbend_L84 (nI r) a b (nI n) 64 r (nI n) Uz ∧ f_X5_shape_L60 (nI r) a b fuel' (nI i) Mc = f_X5_shape_L121 (nI r) a b 64 0 Mz ∧ (∀ k, k < n → Uz r k = Mz 16 k) ∧ (∀ g, g ≠ r → Uz g = U g) ∧ (∀ g, g ≠ 16 → Mz g = M g) := by
  intro q
  have e2 : (2 : Int32) = nI 2 := rfl
  induction q with
  | zero =>
    intro i fuel fuel' Uc Mc h1 hi h2 h2' g1 g2 g3 g4
    obtain ⟨f, rfl⟩ : ∃ f, fuel = f + 1 := ⟨fuel - 1, by omega⟩
    obtain ⟨f', rfl⟩ : ∃ f, fuel' = f + 1 := ⟨fuel' - 1, by omega⟩
    have c1 : nI n - 2 < nI i := by rw [e2, pk_sub (by omega), nI_ltI (by omega) (by omega)]; omega
    have c2 : Mc 3 0 ≤ nI i + 1 := by rw [g4 3 (by omega), hM, nI_s1, nI_leI (by omega) (by omega)]; omega
    rw [f_X0_unbend_L27, f_X5_shape_L60, if_pos c1, if_pos c2]
    exact ⟨Uc, Mc, rfl, rfl, fun k hk => g1 k (by omega), g3, g4⟩
  | succ q ih =>
    intro i fuel fuel' Uc Mc h1 hi h2 h2' g1 g2 g3 g4
    obtain ⟨f, rfl⟩ : ∃ f, fuel = f + 1 := ⟨fuel - 1, by omega⟩
    obtain ⟨f', rfl⟩ : ∃ f, fuel' = f + 1 := ⟨fuel' - 1, by omega⟩
    have c1 : ¬ nI n - 2 < nI i := by rw [e2, pk_sub (by omega), nI_ltI (by omega) (by omega)]; omega
    have c2 : ¬ Mc 3 0 ≤ nI i + 1 := by rw [g4 3 (by omega), hM, nI_s1, nI_leI (by omega) (by omega)]; omega
    rw [f_X0_unbend_L27, f_X5_shape_L60, if_neg c1, if_neg c2, nI_s1, nI_p1 hi, gd_i (by omega) (by omega), ltt_v, gd_i (by omega) (by omega), gd_i (by omega) (by omega), gd_i (by omega) (by omega), gd_i (by omega) (by omega), gd_i (by omega) (by omega), gdr hr (by omega), gd_i (by omega) (by omega), clr hr (by omega), nI_cl (by omega), nI_cl (by omega), nI_cl (by omega)]
    simp only [ltt_v]
    have hv : (((2 : Int32) * (Uc r i)) - (Uc r (i - 1))) - U r i = (((2 : Int32) * (Mc 16 i)) - (Mc 16 (i - 1))) - (Mc 15 (40 * r + i)) := by
      rw [g1 i (by omega), g1 (i - 1) (by omega), hU i (by omega), g4 15 (by omega)]
    rw [hv, g2 (i + 1) (by omega) (by omega)]
    obtain ⟨v, hv'⟩ : ∃ v, v = (((2 : Int32) * (Mc 16 i)) - (Mc 16 (i - 1))) - (Mc 15 (40 * r + i)) := ⟨_, rfl⟩
    rw [← hv']
    refine ih (i + 1) f f' (st Uc r (i + 1) v) (st Mc 16 (i + 1) v) (by omega) (by omega) (by omega) (by omega) ?_ ?_ ?_ ?_
    · intro k hk
      rw [st_same, st_same]
      by_cases hki : k = i + 1
      · rw [hki, pk_us, pk_us]
      · rw [pk_un hki, pk_un hki]
        exact g1 k (by omega)
    · intro k hk hk'
      rw [st_same, pk_un (by omega)]
      exact g2 k (by omega) hk'
    · intro g hg
      rw [st_ne Uc _ _ hg]
      exact g3 g hg
    · intro g hg
      rw [st_ne Mc _ _ hg]
      exact g4 g hg
theorem eq_shape : EQ_shape := by
  intro c B L R T U V M Lm hc h p0 p1 p2
  have hu := h.up
  have hU := h.2.2.1
  obtain ⟨⟨n, hTM, hTI⟩, -⟩ := id h
  obtain ⟨⟨h3, h4⟩, -⟩ := id hTI
  unfold f_X4_shape f_X5_shape
  rcases win p1 (-10000) 10000 with ⟨hw1, w1, w1'⟩ | ⟨hw1, w1, w1'⟩
  · rcases win p2 (-10000) 10000 with ⟨hw2, w2, w2'⟩ | ⟨hw2, w2, w2'⟩
    · rw [w1, w2, w1', w2']
      simp only [b1_v, lq10, if_false]
      rcases run_ok p0 with ⟨h0, q1, q2⟩ | ⟨h0, q1, q2⟩
      · rw [q1]
        obtain ⟨r, hr, rfl⟩ := okN_nI h0 (by omega)
        rw [ask_v hU hr]
        simp only [b1_v, lq10, if_false, gd_i hr (by omega : 6 < 1000), nI_cl (by omega : r < 1000)]
        by_cases hz : U 6 r = 0
        · rw [if_pos hz, if_pos hz, fl1, found_v (by omega)]
          simp only [b2_v]
          rw [if_neg (by decide)]
          exact ⟨_, _, _, _, rfl, rfl, h.found 1⟩
        · rw [if_neg hz, if_neg hz]
          simp only [b2_v]
          rw [if_pos (by decide)]
          obtain ⟨u1, u2, u3⟩ := id hU
          have z0' : (0 : Int32) = nI 0 := rfl
          have z1' : (1 : Int32) = nI 1 := rfl
          have i0 : ∀ {α : Type} (y : Option α), gd (inb (0 : Int32) 40) y = y := fun y => gd_t (by decide)
          have i1 : ∀ {α : Type} (y : Option α), gd (inb (1 : Int32) 40) y = y := fun y => gd_t (by decide)
          have k0 : Int32.toNatClampNeg (0 : Int32) = 0 := rfl
          have k1 : Int32.toNatClampNeg (1 : Int32) = 1 := rfl
          unfold f_X0_unbend
          rw [gd_i hr (by omega), nI_cl (by omega)]
          simp only [ltt_v, i0, i1, k0, k1, hTM.1]
          obtain ⟨Uz, Mz, s1, s2, s3, s4, s5⟩ := shp_v hr h3 h4 (fun i hi => u1 r i hr hi) hTM.2.1 p1 p2 (n - 2) 1 64 64 (st (st U r 0 p1) r 1 p2) (st (st M 16 0 p1) 16 1 p2) (by omega) (by omega) (by omega) (by omega) (by
              intro k hk
              rw [st_same, st_same, st_same, st_same]
              by_cases hk1 : k = 1
              · rw [hk1, pk_us, pk_us]
              · rw [pk_un hk1, pk_un hk1]
                have : k = 0 := by omega
                rw [this, pk_us, pk_us]) (by
              intro k hk hk'
              rw [st_same, st_same, pk_un (by omega), pk_un (by omega)]) (fun g hg => by rw [st_ne _ _ _ hg, st_ne _ _ _ hg]) (fun g hg => by rw [st_ne _ _ _ hg, st_ne _ _ _ hg])
          rw [← z1'] at s1 s2
          rw [s1, s2]
          obtain ⟨Uy, x1, x2, x3, x4⟩ := unb84_v (r := r) (n := n) p1 p2 (40 - n) n 64 Uz (by omega) (by omega)
          obtain ⟨My, y1, y2, y3, y4⟩ := shp121_v (r := r) hr h4 p1 p2 40 0 64 Mz (by omega) (by omega) (by rw [s5 3 (by omega)]; exact hTM.2.1)
          rw [← z0'] at y1
          rw [x1, y1, b1_v]
          refine ⟨1, B, Uy, My, rfl, rfl, MOu (M := M) (fun g a b d => by rw [y4 g b, s5 g d]) hu ⟨?_, ?_, ?_⟩⟩
          · intro r' i' hr' hi'
            by_cases hrr : r' = r
            · subst hrr
              rw [y2 i' (by omega) hi']
              by_cases hin : i' < n
              · rw [if_pos hin, x2 i' hin, s3 i' hin]
              · rw [if_neg hin, x3 i' (by omega) hi']
            · rw [x4 r' hrr, s4 r' hrr, y3 _ (by omega), s5 15 (by omega)]
              exact u1 r' i' hr' hi'
          · rw [x4 6 (by omega), s4 6 (by omega), y4 14 (by omega), s5 14 (by omega)]
            exact u2
          · rw [x4 6 (by omega), s4 6 (by omega)]
            exact u3
      · rw [q1, ask_f q2]
        exact ⟨_, _, _, _, rfl, rfl, hu⟩
    · rw [w1, w2, w1', w2']
      rcases run_ok p0 with ⟨h0, q1, q2⟩ | ⟨h0, q1, q2⟩
      · rw [q1]
        exact ⟨_, _, _, _, rfl, rfl, hu⟩
      · rw [q1]
        exact ⟨_, _, _, _, rfl, rfl, hu⟩
  · rw [w1, w1']
    rcases run_ok p0 with ⟨h0, q1, q2⟩ | ⟨h0, q1, q2⟩
    · rw [q1]
      exact ⟨_, _, _, _, rfl, rfl, hu⟩
    · rw [q1]
      exact ⟨_, _, _, _, rfl, rfl, hu⟩
