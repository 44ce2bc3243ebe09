theorem eq_mark : EQ_mark := by
  intro c B L R T U V M Lm hc h p0 p1
  have hu := h.up
  have hf := h.found 1
  have hf3 := h.found 3
  obtain ⟨⟨n, hTM, hTI⟩, hR, hU, hV, hB, hL⟩ := h
  obtain ⟨⟨h3, h4⟩, -⟩ := id hTI
  obtain ⟨hT7, hM3, e0, e1, e2, e3, e4, e5⟩ := id hTM
  unfold f_X4_mark f_X5_mark
  have em : (1 : Int32).toInt = 1 := by decide
  have ep : (3 : Int32).toInt = 3 := by decide
  have e2i : (2 : Int32).toInt = 2 := by decide
  rcases win p1 1 3 with ⟨hw, w1, w2⟩ | ⟨hw, w1, w2⟩
  · rw [em, ep] at hw
    rw [w1, w2]
    by_cases hi : okN n p0
    · rw [has_t h3 h4 hT7 hi]
      obtain ⟨j, hj, rfl⟩ := okN_nI hi (by omega)
      rw [b1_v, b1_v, looked_t h3 h4 hM3 hj, ← e5]
      have g : ∀ {α : Type} (x : Option α), gd (inb (nI j) 40) x = x := fun x => gd_i (by omega) (by omega)
      have cl := nI_cl (j := j) (by omega)
      simp only [b1_v, lq10, if_false, g, cl, ltt_v, f_X1_isOf, f_X1_isOf_J25]
      by_cases hz : T 5 j = 0
      · rw [if_pos hz, if_pos hz]
        simp only [b2_v, z0, if_true, f_X5_mark_J54, f_X5_mark_J48, g, cl, ← e0, ← e2, ← e3, ← e4]
        have no : ∀ (X : Prop), f_X4_found B (3 : Int32) = some (-3, st (st B 6 0 (nI 3)) 5 3 (B 5 3 + 1)) ∧ f_X5_meets M (3 : Int32) = some (-3, st (st M 0 0 (nI 3)) 1 3 (M 1 3 + 1)) := fun _ => ⟨by rw [fl3]; exact found_v (by omega), by rw [fl3]; exact meets_v (by omega)⟩
        obtain ⟨n1, n2⟩ := no True
        by_cases k1 : T 0 j = p1
        · have k1' : p1 = T 0 j := k1.symm
          rw [if_pos k1, if_pos k1']
          simp only [b1_v, lq10, if_false]
          by_cases q1 : p1 = 1
          · rw [if_pos q1, if_pos q1]; exact ⟨_, _, _, rfl, rfl, hu⟩
          · rw [if_neg q1, if_neg q1]
            by_cases q2 : p1 = 2
            · rw [if_pos q2, if_pos q2]; exact ⟨_, _, _, rfl, rfl, hu⟩
            · rw [if_neg q2, if_neg q2]; exact ⟨_, _, _, rfl, rfl, hu⟩
        · have k1' : ¬ p1 = T 0 j := fun q => k1 q.symm
          rw [if_neg k1, if_neg k1']
          by_cases q1 : p1 = 1
          · rw [if_pos q1, if_pos q1]
            by_cases q3 : T 0 j = 3
            · rw [if_pos q3, if_pos q3]
              simp only [b1_v, lq10, if_false, q1, if_true]
              exact ⟨_, _, _, rfl, rfl, hu⟩
            · rw [if_neg q3, if_neg q3]
              simp only [b1_v, if_true, n1, n2, b2_v, ite_self]
              exact ⟨_, _, _, rfl, rfl, hf3⟩
          · simp only [if_neg q1, b1_v, if_true, n1, n2, b2_v]
            exact ⟨_, _, _, rfl, rfl, hf3⟩
      · rw [if_neg hz, if_neg hz, fl1, found_v (by omega)]
        simp only [b2_v, m3neg, if_false]
        exact ⟨_, _, _, rfl, rfl, hf⟩
    · rw [has_f h3 h4 hT7 hi, b1_v, b1_v, looked_f h3 h4 hM3 hi]
      exact ⟨_, _, _, rfl, rfl, hu⟩
  · rw [w1, w2]
    by_cases hi : okN n p0
    · rw [has_t h3 h4 hT7 hi]
      exact ⟨_, _, _, rfl, rfl, hu⟩
    · rw [has_f h3 h4 hT7 hi]
      exact ⟨_, _, _, rfl, rfl, hu⟩
def dvT (g : Nat) : Int32 := if g = 2 then 5 else 0
def dvM (g : Nat) : Int32 := if g = 6 then 5 else 0
theorem lt7 {P : Nat → Prop} (h0 : P 0) (h1 : P 1) (h2 : P 2) (h3 : P 3) (h4 : P 4) (h5 : P 5) (h6 : P 6) : ∀ j, j < 7 → P j := fun j hj => match j, hj with
  | 0, _ => h0
  | 1, _ => h1
  | 2, _ => h2
  | 3, _ => h3
  | 4, _ => h4
  | 5, _ => h5
  | 6, _ => h6
  | n + 7, h => absurd h (by omega)
theorem upd_if {f : Nat → Int32} {i k : Nat} {v : Int32} (r : Int32) (h : r = if i + 1 ≤ k ∧ k < 40 then v else upd f i v k) (hi : i < 40) : r = if i ≤ k ∧ k < 40 then v else f k := by
  rw [h]
  by_cases hk : i + 1 ≤ k ∧ k < 40
  · rw [if_pos hk, if_pos (by omega)]
  · rw [if_neg hk]
    by_cases hki : k = i
    · rw [hki, pk_us, if_pos (by omega)]
    · rw [pk_un hki, if_neg (by omega)]
theorem renewL_v (p : Int32) : ∀ (q fuel i : Nat) (T : RG), i + q = 40 → q < fuel → ∃ T', f_X1_renew_L7 p fuel (nI i) T = some T' ∧ T' 7 = T 7 ∧ ∀ g, g < 7 → ∀ k, T' g k = if i ≤ k ∧ k < 40 then dvT g else T g k := by
  intro q
  have e40 : (40 : Int32) = nI 40 := rfl
  induction q with
  | zero =>
    intro fuel i T h1 h2
    obtain ⟨f, rfl⟩ : ∃ f, fuel = f + 1 := ⟨fuel - 1, by omega⟩
    rw [f_X1_renew_L7, e40, if_pos ((nI_leI (by omega) (by omega)).mpr (by omega))]
    exact ⟨T, rfl, rfl, fun g _ k => by rw [if_neg (by omega)]⟩
  | succ q ih =>
    intro fuel i T h1 h2
    obtain ⟨f, rfl⟩ : ∃ f, fuel = f + 1 := ⟨fuel - 1, by omega⟩
    have g40 : ∀ {α : Type} (x : Option α), gd (inb (nI i) 40) x = x := fun x => gd_i (by omega) (by omega)
    rw [f_X1_renew_L7, e40, if_neg (by rw [nI_leI (by omega) (by omega)]; omega)]
    simp only [g40, ltt_v, nI_cl (by omega : i < 1000), nI_s1]
    have hn : vp_nar .boolean (0 : Int32) = 0 := rfl
    rw [hn]
    obtain ⟨T', g1, g2, g3⟩ := ih f (i + 1) (st (st (st (st (st (st (st T 0 i 0) 1 i 0) 2 i 5) 3 i 0) 4 i 0) 5 i 0) 6 i 0) (by omega) (by omega)
    refine ⟨T', g1, g2, fun g hg k => upd_if (T' g k) ((g3 g hg k).trans ?_) (by omega)⟩
    by_cases hk : i + 1 ≤ k ∧ k < 40
    · rw [if_pos hk, if_pos hk]
    · rw [if_neg hk, if_neg hk]
      revert g
      exact lt7 (P := fun g => st (st (st (st (st (st (st T 0 i 0) 1 i 0) 2 i 5) 3 i 0) 4 i 0) 5 i 0) 6 i 0 g k = upd (T g) i (dvT g) k) rfl rfl rfl rfl rfl rfl rfl
theorem lineL_v (p : Int32) : ∀ (q fuel i : Nat) (M : RG), i + q = 40 → q < fuel → ∃ M', f_X5_line_L19 p fuel (nI i) M = some (p, M') ∧ (∀ g, (g < 4 ∨ 9 < g) → M' g = M g) ∧ ∀ g, g < 6 → ∀ k, M' (4 + g) k = if i ≤ k ∧ k < 40 then dvT g else M (4 + g) k := by
  intro q
  have e40 : (40 : Int32) = nI 40 := rfl
  induction q with
  | zero =>
    intro fuel i M h1 h2
    obtain ⟨f, rfl⟩ : ∃ f, fuel = f + 1 := ⟨fuel - 1, by omega⟩
    rw [f_X5_line_L19, e40, if_pos ((nI_leI (by omega) (by omega)).mpr (by omega))]
    exact ⟨M, rfl, fun g _ => rfl, fun g _ k => by rw [if_neg (by omega)]⟩
  | succ q ih =>
    intro fuel i M h1 h2
    obtain ⟨f, rfl⟩ : ∃ f, fuel = f + 1 := ⟨fuel - 1, by omega⟩
    have g40 : ∀ {α : Type} (x : Option α), gd (inb (nI i) 40) x = x := fun x => gd_i (by omega) (by omega)
    rw [f_X5_line_L19, e40, if_neg (by rw [nI_leI (by omega) (by omega)]; omega)]
    simp only [g40, ltt_v, nI_cl (by omega : i < 1000), nI_s1]
    have hn : vp_nar .boolean (0 : Int32) = 0 := rfl
    rw [hn]
    obtain ⟨M', g1, g2, g3⟩ := ih f (i + 1) (st (st (st (st (st (st M 4 i 0) 5 i 0) 6 i 5) 7 i 0) 8 i 0) 9 i 0) (by omega) (by omega)
    refine ⟨M', g1, fun g hg => (g2 g hg).trans ?_, fun g hg k => upd_if (M' (4 + g) k) ((g3 g hg k).trans ?_) (by omega)⟩
    · rw [st_ne _ _ _ (by omega), st_ne _ _ _ (by omega), st_ne _ _ _ (by omega), st_ne _ _ _ (by omega), st_ne _ _ _ (by omega), st_ne _ _ _ (by omega)]
    · by_cases hk : i + 1 ≤ k ∧ k < 40
      · rw [if_pos hk, if_pos hk]
      · rw [if_neg hk, if_neg hk]
        revert g
        exact lt6 (P := fun g => st (st (st (st (st (st M 4 i 0) 5 i 0) 6 i 5) 7 i 0) 8 i 0) 9 i 0 (4 + g) k = upd (M (4 + g)) i (dvT g) k) rfl rfl rfl rfl rfl rfl
/-- a line of n sleepers, on both sides -/
theorem line_v {T M : RG} {n : Nat} (h3 : 3 ≤ n) (h4 : n ≤ 40) {bd : Int} (hbd : 0 ≤ bd) (e0 : T 0 = M 4) (e1 : T 1 = M 5) (e2 : T 2 = M 6) (e3 : T 3 = M 7) (e4 : T 4 = M 8) (e5 : T 5 = M 9) (hk : ∀ i, 0 ≤ (T 0 i).toInt ∧ (T 0 i).toInt ≤ 3) (hb : ∀ i, -bd ≤ (T 1 i).toInt ∧ (T 1 i).toInt ≤ 10000) (hh : ∀ i, 0 ≤ (T 3 i).toInt ∧ (T 3 i).toInt ≤ 99) (hl : ∀ i, T 5 i = 0 ∨ T 5 i = 1) :
    ∃ T' M', f_X1_renew T (nI n) = some T' ∧ f_X5_line M (nI n) = some (nI n, M') ∧ TMr n T' M' ∧ TIr n bd T' ∧ (∀ g, g ≠ 3 → (g < 4 ∨ 9 < g) → M' g = M g) := by
  obtain ⟨T', g1, g2, g3⟩ := renewL_v (nI n) 40 64 0 (st T 7 0 (nI n)) (by omega) (by omega)
  obtain ⟨M', k1, k2, k3⟩ := lineL_v (nI n) 40 64 0 (st M 3 0 (nI n)) (by omega) (by omega)
  have en := nI_ti (j := n) (by omega)
  have z : nI 0 = (0 : Int32) := rfl
  rw [z] at g1 k1
  have q0 : ∀ g, g < 7 → ∀ k, T' g k = if k < 40 then dvT g else T g k := by
    intro g hg k
    rw [g3 g hg k, st_ne _ _ _ (by omega)]
    by_cases hk : k < 40
    · rw [if_pos (by omega), if_pos hk]
    · rw [if_neg (by omega), if_neg hk]
  have m0 : ∀ g, g < 6 → ∀ k, M' (4 + g) k = if k < 40 then dvT g else M (4 + g) k := by
    intro g hg k
    rw [k3 g hg k, st_ne _ _ _ (by omega)]
    by_cases hk : k < 40
    · rw [if_pos (by omega), if_pos hk]
    · rw [if_neg (by omega), if_neg hk]
  have fe : ∀ g, g < 6 → T g = M (4 + g) → T' g = M' (4 + g) := by
    intro g hg he
    funext k
    rw [q0 g (by omega) k, m0 g hg k, he]
  refine ⟨T', M', ?_, ?_, ⟨?_, ?_, fe 0 (by omega) e0, fe 1 (by omega) e1, fe 2 (by omega) e2, fe 3 (by omega) e3, fe 4 (by omega) e4, fe 5 (by omega) e5⟩, ⟨⟨h3, h4⟩, ?_, ?_, ?_, ?_, ?_, ?_⟩, ?_⟩
  · unfold f_X1_renew
    rw [ltt_v]
    exact g1
  · unfold f_X5_line
    have e3 : (3 : Int32).toInt = 3 := rfl
    have e40 : (40 : Int32).toInt = 40 := rfl
    rw [in_t (by rw [e3, en]; omega) (by rw [e40, en]; omega), b1_v, if_neg (by decide), ltt_v]
    exact k1
  · rw [g2]; rfl
  · rw [k2 3 (by omega)]; rfl
  · intro i
    rw [q0 0 (by omega) i]
    by_cases hi : i < 40
    · rw [if_pos hi]; decide
    · rw [if_neg hi]; exact hk i
  · intro i
    rw [q0 1 (by omega) i]
    by_cases hi : i < 40
    · rw [if_pos hi]
      have : (dvT 1).toInt = 0 := by decide
      omega
    · rw [if_neg hi]; exact hb i
  · intro i hi
    rw [q0 2 (by omega) i, if_pos hi]
    decide
  · intro i
    rw [q0 3 (by omega) i]
    by_cases hi : i < 40
    · rw [if_pos hi]; decide
    · rw [if_neg hi]; exact hh i
  · intro i
    rw [q0 5 (by omega) i]
    by_cases hi : i < 40
    · rw [if_pos hi]; exact Or.inl rfl
    · rw [if_neg hi]; exact hl i
  · intro i hi _
    left
    rw [q0 6 (by omega) i, if_pos (by omega)]
    rfl
  · intro g hg1 hg2
    rw [k2 g hg2, st_ne _ _ _ hg1]
theorem eq_line : EQ_line := by
  intro c B L R T U V M Lm hc h p0
  have hu := h.up
  obtain ⟨⟨n, hTM, hTI⟩, hR, hU, hV, hB, hL⟩ := h
  obtain ⟨hT7, hM3, e0, e1, e2, e3, e4, e5⟩ := hTM
  obtain ⟨⟨h3, h4⟩, hk, hbb, hst, hhu, hlo, hcc⟩ := hTI
  unfold f_X4_line
  have em : (3 : Int32).toInt = 3 := rfl
  have ep : (40 : Int32).toInt = 40 := rfl
  rcases win p0 3 40 with ⟨hw, w1, w2⟩ | ⟨hw, w1, w2⟩
  · obtain ⟨n', hn', rfl⟩ := okN_nI (n := 41) (i := p0) ⟨by omega, by omega⟩ (by omega)
    have en := nI_ti (j := n') (by omega)
    rw [em, ep, en] at hw
    obtain ⟨T', M', g1, g2, g3, g4, g5⟩ := line_v (T := T) (M := M) (n := n') (by omega) (by omega) (bd := 10000 + 80000 * (c : Int)) (by omega) e0 e1 e2 e3 e4 e5 hk hbb hhu hlo
    rw [w1, b1_v, if_neg (by decide), g1, b1_v]
    refine ⟨nI n', T', M', rfl, g2, ⟨n', g3, g4.mono (bdu c)⟩, ?_, ?_, ?_, ?_, hL⟩
    · obtain ⟨r1, r2, r3, r4⟩ := hR
      exact ⟨by rw [g5 12 (by omega) (by omega)]; exact r1, by rw [g5 13 (by omega) (by omega)]; exact r2, by rw [g5 11 (by omega) (by omega)]; exact r3, r4⟩
    · obtain ⟨u1, u2, u3⟩ := hU
      exact ⟨by rw [g5 15 (by omega) (by omega)]; exact u1, by rw [g5 14 (by omega) (by omega)]; exact u2, u3⟩
    · obtain ⟨v0, v1, v2, v3⟩ := hV
      exact ⟨v0, by rw [g5 18 (by omega) (by omega)]; exact v1, by rw [g5 19 (by omega) (by omega)]; exact v2, by rw [g5 17 (by omega) (by omega)]; exact v3⟩
    · obtain ⟨b1, b2, b3, b4⟩ := hu.2.2.2.2.1
      exact ⟨by rw [g5 10 (by omega) (by omega)]; exact b1, by rw [g5 1 (by omega) (by omega)]; exact b2, by rw [g5 0 (by omega) (by omega)]; exact b3, b4⟩
  · rw [w1]
    unfold f_X5_line
    rw [w2]
    exact ⟨_, _, _, rfl, rfl, hu⟩
theorem eq_init : EQ_init := by
  have z0i : (0 : Int32).toInt = 0 := rfl
  obtain ⟨T', M', g1, g2, g3, g4, g5⟩ := line_v (T := fun _ _ => 0) (M := st (st (st (st (fun _ _ => 0) 10 0 250) 10 1 250) 10 2 250) 10 3 250) (n := 10) (by omega) (by omega) (bd := 10000) (by omega) rfl rfl rfl rfl rfl rfl (fun i => by decide) (fun i => by rw [z0i]; omega) (fun i => by decide) (fun i => Or.inl rfl)
  refine ⟨T', nI 10, M', g1, g2, ⟨10, g3, g4⟩, ?_, ?_, ⟨⟨0, ?_⟩, ?_⟩, ?_, rfl⟩
  · exact ⟨by rw [g5 12 (by omega) (by omega)]; rfl, by rw [g5 13 (by omega) (by omega)]; rfl, by rw [g5 11 (by omega) (by omega)]; rfl, ⟨0, by omega, rfl⟩, fun i => (by decide : 0 ≤ (0 : Int32).toInt ∧ (0 : Int32).toInt ≤ 250), fun i => (by decide : -128 ≤ (0 : Int32).toInt ∧ (0 : Int32).toInt ≤ 127)⟩
  · exact ⟨fun r i _ _ => by rw [g5 15 (by omega) (by omega)]; rfl, by rw [g5 14 (by omega) (by omega)]; rfl, fun i => Or.inl rfl⟩
  · exact ⟨rfl, by omega, fun k hk => absurd hk (by omega), fun k hk => absurd hk (by omega), fun k hk => by
      have hk0 : k = 0 := by omega
      rw [hk0]
      exact ⟨rfl, rfl⟩, fun k => k, fun k hk => absurd hk (by omega), fun k hk => absurd hk (by omega), fun k k' h1 h2 => absurd h2 (by omega)⟩
  · exact ⟨by rw [g5 18 (by omega) (by omega)]; rfl, by rw [g5 19 (by omega) (by omega)]; rfl, by rw [g5 17 (by omega) (by omega)]; rfl⟩
  · refine ⟨by rw [g5 10 (by omega) (by omega)]; rfl, by rw [g5 1 (by omega) (by omega)]; rfl, by rw [g5 0 (by omega) (by omega)]; rfl, fun i => ?_⟩
    show _ ≤ (upd (upd (upd (upd (fun _ => 0) 0 250) 1 250) 2 250) 3 250 i).toInt ∧ (upd (upd (upd (upd (fun _ => 0) 0 250) 1 250) 2 250) 3 250 i).toInt ≤ _
    have p : ∀ (f : Nat → Int32) (a : Nat), (∀ k, -1000 ≤ (f k).toInt ∧ (f k).toInt ≤ 1000) → ∀ k, -1000 ≤ (upd f a 250 k).toInt ∧ (upd f a 250 k).toInt ≤ 1000 := by
      intro f a hf k
      by_cases hka : k = a
      · rw [hka, pk_us]; decide
      · rw [pk_un hka]; exact hf k
    have := p _ 3 (p _ 2 (p _ 1 (p (fun _ => 0) 0 (fun _ => (by decide : -1000 ≤ (0 : Int32).toInt ∧ (0 : Int32).toInt ≤ 1000))))) i
    omega
