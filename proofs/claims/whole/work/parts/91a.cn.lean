/-- how many of q places from a on hold 0 -/
def czr (lo : Nat → Int32) : Nat → Nat → Nat
  | _, 0 => 0
  | a, q + 1 => (if lo a = 0 then 1 else 0) + czr lo (a + 1) q
theorem czr_le (lo : Nat → Int32) : ∀ q a, czr lo a q ≤ q := by
  intro q
  induction q with
  | zero => intro a; exact Nat.le_refl _
  | succ q ih =>
    intro a
    have := ih (a + 1)
    rw [czr]
    by_cases h : lo a = 0
    · rw [if_pos h]; omega
    · rw [if_neg h]; omega
theorem a0 (x : Int32) : x + 0 = x := by
  rw [ieq]
  have e0 : (0 : Int32).toInt = 0 := rfl
  have := tlt x
  rw [tadd (by omega) (by omega)]
  omega
theorem a0L (x : Int64) : x + 0 = x := by
  rw [eqL]
  have e0 : (0 : Int64).toInt = 0 := rfl
  have h1 := Int64.le_toInt x
  have h2 := Int64.toInt_lt x
  rw [laddT (by omega) (by omega)]
  omega
theorem standL_v {n : Nat} {T : RG} (h3 : 3 ≤ n) (h4 : n ≤ 40) (hT : T 7 0 = nI n) (p0 p1 : Int32) : ∀ (q fuel a c : Nat), p1.toInt = (a : Int) + q - 1 → a + q ≤ n → q < fuel → f_X1_standing_L5 T p0 p1 fuel (nI c) (nI a) = some (nI (c + czr (T 5) a q)) := by
  intro q
  induction q with
  | zero =>
    intro fuel a c h1 h2 h5
    obtain ⟨f, rfl⟩ : ∃ f, fuel = f + 1 := ⟨fuel - 1, by omega⟩
    rw [f_X1_standing_L5, if_pos (by rw [ilt, h1, nI_ti (by omega)]; omega), czr]
    rfl
  | succ q ih =>
    intro fuel a c h1 h2 h5
    obtain ⟨f, rfl⟩ : ∃ f, fuel = f + 1 := ⟨fuel - 1, by omega⟩
    have step : ∀ c', f_X1_standing_J23 T p0 p1 (f_X1_standing_L5 T p0 p1 f) c' (nI a) = f_X1_standing_L5 T p0 p1 f c' (nI (a + 1)) := by
      intro c'
      rw [f_X1_standing_J23, ltt_v, nI_s1]
    rw [f_X1_standing_L5, if_neg (by rw [ilt, h1, nI_ti (by omega)]; omega), stands_n h3 h4 hT (by omega), b1_v, czr]
    by_cases hl : T 5 a = 0
    · rw [if_pos hl, if_pos hl, if_neg (by decide), ltt_v, nI_s1, step, ih f (a + 1) (c + 1) (by rw [h1]; omega) (by omega) (by omega), show c + 1 + czr (T 5) (a + 1) q = c + (1 + czr (T 5) (a + 1) q) by omega]
    · rw [if_neg hl, if_neg hl, if_pos rfl, step, ih f (a + 1) c (by rw [h1]; omega) (by omega) (by omega), Nat.zero_add]
theorem stand_all {n : Nat} {T : RG} (h3 : 3 ≤ n) (h4 : n ≤ 40) (hT : T 7 0 = nI n) : f_X1_standing T (0 : Int32) (T 7 0 - (1 : Int32)) = some (nI (czr (T 5) 0 n)) := by
  unfold f_X1_standing
  have h := standL_v h3 h4 hT (0 : Int32) (T 7 0 - (1 : Int32)) n 64 0 0 (by rw [hT, nm1 h3 h4]; omega) (by omega) (by omega)
  rw [Nat.zero_add] at h
  exact h
/-- the sum over the places that hold 0 -/
def ssr (f lo : Nat → Int32) : Nat → Nat → Int
  | _, 0 => 0
  | a, q + 1 => (if lo a = 0 then (f a).toInt else 0) + ssr f lo (a + 1) q
theorem ssr_bd {f lo : Nat → Int32} (hb : bnd f) : ∀ (q a : Nat), -41000000 * (q : Int) ≤ ssr f lo a q ∧ ssr f lo a q ≤ 41000000 * (q : Int) := by
  intro q
  induction q with
  | zero => intro a; rw [ssr]; omega
  | succ q ih =>
    intro a
    have := ih (a + 1)
    have := hb a
    rw [ssr]
    by_cases h : lo a = 0
    · rw [if_pos h]; omega
    · rw [if_neg h]; omega
theorem sumBeds_v {n : Nat} {T : RG} (h4 : n ≤ 40) (hT : T 7 0 = nI n) (hb : bnd (T 1)) : ∀ (q fuel a : Nat) (x : Int32), a + q = n → q < fuel → -41000000 * (a : Int) ≤ x.toInt → x.toInt ≤ 41000000 * (a : Int) → ∃ y, f_X1_sumOfBeds_L4 T fuel x (nI a) = some y ∧ y.toInt = x.toInt + ssr (T 1) (T 5) a q := by
  intro q
  induction q with
  | zero =>
    intro fuel a x h1 h2 h5 h6
    obtain ⟨f, rfl⟩ : ∃ f, fuel = f + 1 := ⟨fuel - 1, by omega⟩
    rw [f_X1_sumOfBeds_L4, hT, if_pos ((nI_leI (by omega) (by omega)).mpr (by omega)), ssr]
    exact ⟨x, rfl, by omega⟩
  | succ q ih =>
    intro fuel a x h1 h2 h5 h6
    obtain ⟨f, rfl⟩ : ∃ f, fuel = f + 1 := ⟨fuel - 1, by omega⟩
    have step : ∀ c', f_X1_sumOfBeds_J30 T (f_X1_sumOfBeds_L4 T f) c' (nI a) = f_X1_sumOfBeds_L4 T f c' (nI (a + 1)) := by
      intro c'
      rw [f_X1_sumOfBeds_J30, ltt_v, nI_s1]
    have hba := hb a
    rw [f_X1_sumOfBeds_L4, hT, if_neg (by rw [nI_leI (by omega) (by omega)]; omega), gd_i (by omega) (by omega), nI_cl (by omega), ssr]
    by_cases hl : T 5 a = 0
    · have e : (x + T 1 a).toInt = x.toInt + (T 1 a).toInt := tadd (by omega) (by omega)
      rw [if_pos hl, if_pos hl, gd_i (by omega) (by omega), ltt_v, step]
      obtain ⟨y, g1, g2⟩ := ih f (a + 1) (x + T 1 a) (by omega) (by omega) (by rw [e]; omega) (by rw [e]; omega)
      exact ⟨y, g1, by rw [g2, e]; omega⟩
    · rw [if_neg hl, if_neg hl, step]
      obtain ⟨y, g1, g2⟩ := ih f (a + 1) x (by omega) (by omega) (by omega) (by omega)
      exact ⟨y, g1, by rw [g2]; omega⟩
theorem meanL_v {n : Nat} {M : RG} (h4 : n ≤ 40) (hM : M 3 0 = nI n) (hb : bnd (M 5)) (L : Int64) : ∀ (q fuel a c : Nat) (x : Int64), a + q = n → q < fuel → c ≤ a → -41000000 * (a : Int) ≤ x.toInt → x.toInt ≤ 41000000 * (a : Int) → ∃ y : Int64, f_X5_mean_L7 fuel x (nI c) (nI a) M L = (if nI (c + czr (M 9) a q) = (0 : Int32) then (b2 (f_X5_meets M (4 : Int32)) (fun r10 (M_10 : RG) => some (r10, M_10, L))) else (b1 (f_X5_floor y (nI (c + czr (M 9) a q))) (fun r8 => b2 (f_X5_tell L (Int32.toInt64 r8) (1 : Int32)) (fun r9 (L_9 : Int64) => some (r9, M, L_9))))) ∧ y.toInt = x.toInt + ssr (M 5) (M 9) a q := by
  intro q
  induction q with
  | zero =>
    intro fuel a c x h1 h2 h3 h5 h6
    obtain ⟨f, rfl⟩ : ∃ f, fuel = f + 1 := ⟨fuel - 1, by omega⟩
    rw [f_X5_mean_L7, hM, if_pos ((nI_leI (by omega) (by omega)).mpr (by omega)), ssr, czr]
    exact ⟨x, rfl, by omega⟩
  | succ q ih =>
    intro fuel a c x h1 h2 h3 h5 h6
    obtain ⟨f, rfl⟩ : ∃ f, fuel = f + 1 := ⟨fuel - 1, by omega⟩
    have hba := hb a
    have step : ∀ (s0 : Int64), f_X5_mean_J39 (f_X5_mean_L7 f) (nI c) (nI a) s0 x M L = f_X5_mean_L7 f (x + s0) (nI (c + (if M 9 a = 0 then 1 else 0))) (nI (a + 1)) M L := by
      intro s0
      rw [f_X5_mean_J39, ltt_v, gd_i (by omega) (by omega), nI_cl (by omega)]
      by_cases hl : M 9 a = 0
      · rw [if_pos hl, if_pos hl, f_X5_mean_J57, ltt_v, ltt_v, nI_s1, nI_s1]
      · rw [if_neg hl, if_neg hl, f_X5_mean_J57, ltt_v, ltt_v, a0, nI_s1]
        rfl
    rw [f_X5_mean_L7, hM, if_neg (by rw [nI_leI (by omega) (by omega)]; omega), gd_i (by omega) (by omega), nI_cl (by omega), ssr, czr]
    by_cases hl : M 9 a = 0
    · have ew := wide (M 5 a)
      have e : (x + Int32.toInt64 (M 5 a)).toInt = x.toInt + (M 5 a).toInt := by rw [laddT (by rw [ew]; omega) (by rw [ew]; omega), ew]
      rw [if_pos hl, gd_i (by omega) (by omega), step, if_pos hl, if_pos hl]
      obtain ⟨y, g1, g2⟩ := ih f (a + 1) (c + 1) (x + Int32.toInt64 (M 5 a)) (by omega) (by omega) (by omega) (by rw [e]; omega) (by rw [e]; omega)
      rw [show c + (1 + czr (M 9) (a + 1) q) = c + 1 + czr (M 9) (a + 1) q by omega]
      exact ⟨y, g1, by rw [g2, e]; omega⟩
    · rw [if_neg hl, step, if_neg hl, if_neg hl, a0L]
      obtain ⟨y, g1, g2⟩ := ih f (a + 1) c x (by omega) (by omega) (by omega) (by omega) (by omega)
      rw [show c + (0 + czr (M 9) (a + 1) q) = c + czr (M 9) (a + 1) q by omega]
      exact ⟨y, g1, by rw [g2]; omega⟩
theorem eq_mean : EQ_mean := by
  intro c B L R T U V M Lm hc h
  have hu := h.up
  have hf := h.found 4
  obtain ⟨⟨n, hTM, hTI⟩, hR, hU, hV, hB, hL⟩ := h
  have hbd := hTI.bnd (bdc hc)
  obtain ⟨hT7, hM3, e0, e1, e2, e3, e4, e5⟩ := hTM
  obtain ⟨⟨h3, h4⟩, -⟩ := hTI
  unfold f_X4_mean f_X5_mean
  rw [stand_all h3 h4 hT7, b1_v]
  obtain ⟨y, g1, g2⟩ := meanL_v h4 hM3 (by rw [← e1]; exact hbd) Lm n 64 0 0 0 (by omega) (by omega) (by omega) (by decide) (by decide)
  have z : nI 0 = (0 : Int32) := rfl
  rw [z, Nat.zero_add] at g1
  rw [g1, ← e5]
  have hz := czr_le (T 5) n 0
  by_cases hc0 : czr (T 5) 0 n = 0
  · rw [hc0, z, if_pos rfl, if_pos rfl, fl4, found_v (by omega), meets_v (by omega)]
    exact ⟨_, _, _, _, _, rfl, rfl, hf⟩
  · have hne : ¬ nI (czr (T 5) 0 n) = (0 : Int32) := by
      rw [← z, nI_eq (by omega) (by omega)]
      exact hc0
    rw [if_neg hne, if_neg hne]
    have ez := nI_ti (j := czr (T 5) 0 n) (by omega)
    obtain ⟨x, k1, k2⟩ := sumBeds_v h4 hT7 hbd n 64 0 0 (by omega) (by omega) (by decide) (by decide)
    rw [z] at k1
    unfold f_X1_sumOfBeds
    rw [k1, b1_v]
    have sb := ssr_bd (lo := T 5) hbd n 0
    have hx0 : (0 : Int32).toInt = 0 := rfl
    have hy0 : (0 : Int64).toInt = 0 := rfl
    rw [hx0] at k2
    rw [hy0, ← e1, ← e5] at g2
    obtain ⟨v, v1, v2⟩ := floorShare_v (x := x) (y := nI (czr (T 5) 0 n)) (by rw [ez]; omega)
    have db := ediv_bd (x := ssr (T 1) (T 5) 0 n) (y := (czr (T 5) 0 n : Int)) (by omega) 1640000000 (by omega) (by omega) (by omega)
    rw [k2, ez, Int.zero_add] at v2
    obtain ⟨w, w1, w2⟩ := floor_v (x := y) (y := nI (czr (T 5) 0 n)) (by rw [ez]; omega) (by rw [g2]; omega) (by rw [g2, ez]; omega) (by rw [g2]; omega) (by rw [g2, ez, Int.zero_add]; omega) (by rw [g2, ez, Int.zero_add]; omega)
    rw [g2, ez, Int.zero_add] at w2
    have hvw : v = w := by rw [ieq, v2, w2]
    rw [v1, w1]
    exact ⟨1, B, _, M, _, rfl, rfl, hu.1, hR, hU, hV, hu.2.2.2.2.1, by rw [hvw]⟩
