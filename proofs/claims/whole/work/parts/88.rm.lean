theorem ltL (x y : Int64) : x < y ↔ x.toInt < y.toInt := Int64.lt_iff_toInt_lt
theorem leL (x y : Int64) : x ≤ y ↔ x.toInt ≤ y.toInt := Int64.le_iff_toInt_le
theorem eqL (x y : Int64) : x = y ↔ x.toInt = y.toInt := Int64.toInt_inj.symm
theorem laddT {a b : Int64} (h1 : -9223372036854775808 ≤ a.toInt + b.toInt) (h2 : a.toInt + b.toInt < 9223372036854775808) : (a + b).toInt = a.toInt + b.toInt := by
  rw [Int64.toInt_add]
  exact Int.bmod_eq_of_le (by omega) (by omega)
theorem lsubT {a b : Int64} (h1 : -9223372036854775808 ≤ a.toInt - b.toInt) (h2 : a.toInt - b.toInt < 9223372036854775808) : (a - b).toInt = a.toInt - b.toInt := by
  rw [Int64.toInt_sub]
  exact Int.bmod_eq_of_le (by omega) (by omega)
theorem lmulT {a b : Int64} (h1 : -9223372036854775808 ≤ a.toInt * b.toInt) (h2 : a.toInt * b.toInt < 9223372036854775808) : (a * b).toInt = a.toInt * b.toInt := by
  rw [Int64.toInt_mul]
  exact Int.bmod_eq_of_le (by omega) (by omega)
theorem wide (x : Int32) : (Int32.toInt64 x).toInt = x.toInt := Int32.toInt_toInt64 x
theorem narL {x : Int64} (h1 : -2147483648 ≤ x.toInt) (h2 : x.toInt < 2147483648) : (Int64.toInt32 x).toInt = x.toInt := by
  rw [Int64.toInt_toInt32]
  exact Int.bmod_eq_of_le (by omega) (by omega)
theorem cmp_ge (x y : Int64) : (0 : Int32) ≤ lg_cmp x y ↔ y.toInt ≤ x.toInt := by
  unfold lg_cmp
  by_cases h1 : x > y
  · rw [if_pos h1]
    rw [gt_iff_lt, ltL] at h1
    exact ⟨fun _ => by omega, fun _ => by decide⟩
  · rw [if_neg h1]
    rw [gt_iff_lt, ltL] at h1
    by_cases h2 : x = y
    · rw [if_pos h2, h2]
      exact ⟨fun _ => Int.le_refl _, fun _ => by decide⟩
    · rw [if_neg h2]
      rw [eqL] at h2
      exact ⟨fun h => absurd h (by decide), fun h => absurd h (by omega)⟩
theorem cmp_le (x y : Int64) : lg_cmp x y ≤ (0 : Int32) ↔ x.toInt ≤ y.toInt := by
  unfold lg_cmp
  by_cases h1 : x > y
  · rw [if_pos h1]
    rw [gt_iff_lt, ltL] at h1
    exact ⟨fun h => absurd h (by decide), fun h => absurd h (by omega)⟩
  · rw [if_neg h1]
    rw [gt_iff_lt, ltL] at h1
    by_cases h2 : x = y
    · rw [if_pos h2, h2]
      exact ⟨fun _ => Int.le_refl _, fun _ => by decide⟩
    · rw [if_neg h2]
      exact ⟨fun _ => by omega, fun _ => by decide⟩
theorem cmp_gt (x y : Int64) : (0 : Int32) < lg_cmp x y ↔ y.toInt < x.toInt := by
  have h := cmp_le x y
  rw [ilt]
  rw [ile] at h
  have e0 : (0 : Int32).toInt = 0 := rfl
  rw [e0] at h ⊢
  omega
theorem div64 {x y : Int64} (hy : 0 < y.toInt) : (x / y).toInt = x.toInt.tdiv y.toInt := by
  rw [Int64.toInt_div]
  have h1 := Int64.le_toInt x
  have h2 := Int64.toInt_lt x
  have hb : -9223372036854775808 ≤ x.toInt.tdiv y.toInt ∧ x.toInt.tdiv y.toInt < 9223372036854775808 := by
    by_cases h0 : 0 ≤ x.toInt
    · rw [Int.tdiv_eq_ediv_of_nonneg h0]
      have := Int.ediv_nonneg h0 (by omega : 0 ≤ y.toInt)
      have := Int.ediv_le_self y.toInt h0
      omega
    · have h1 : x.toInt.tdiv y.toInt = -((-x.toInt).tdiv y.toInt) := by rw [Int.neg_tdiv, Int.neg_neg]
      rw [h1, Int.tdiv_eq_ediv_of_nonneg (by omega)]
      have := Int.ediv_nonneg (by omega : 0 ≤ -x.toInt) (by omega : 0 ≤ y.toInt)
      have := Int.ediv_le_self y.toInt (by omega : 0 ≤ -x.toInt)
      omega
  exact Int.bmod_eq_of_le (by omega) (by omega)
theorem floor_v {x : Int64} {y : Int32} (hy : 0 < y.toInt) (h1 : -2147483648 ≤ x.toInt) (h2 : x.toInt < 2147483648 * y.toInt) (h3 : x.toInt < 9000000000000) (h4 : -2147483648 ≤ x.toInt / y.toInt) (h5 : x.toInt / y.toInt < 2147483648) : ∃ v, f_X5_floor x y = some v ∧ v.toInt = x.toInt / y.toInt := by
  unfold f_X5_floor
  have ey := wide y
  have hnz : nz64 (Int32.toInt64 y) = true := by
    unfold nz64
    rw [Bool.not_eq_true', beq_eq_false_iff_ne]
    intro h
    rw [h] at ey
    have e0 : (0 : Int64).toInt = 0 := rfl
    omega
  rw [gd_t hnz, ltt_v, gd_t hnz]
  have hd := div64 (x := x) (y := Int32.toInt64 y) (by rw [ey]; exact hy)
  rw [ey, tdivP hy] at hd
  have hq := Int.mul_ediv_add_emod x.toInt y.toInt
  have hr0 := Int.emod_nonneg x.toInt (by omega : y.toInt ≠ 0)
  have hr1 := Int.emod_lt_of_pos x.toInt hy
  have ty := tlt y
  have e0 : (0 : Int64).toInt = 0 := rfl
  have e1 : (1 : Int64).toInt = 1 := rfl
  by_cases hc : 0 ≤ x.toInt ∨ y.toInt ∣ x.toInt
  · rw [if_pos hc] at hd
    have hmul : (x / Int32.toInt64 y * Int32.toInt64 y).toInt = x.toInt / y.toInt * y.toInt := by
      rw [lmulT (by rw [hd, ey, Int.mul_comm]; omega) (by rw [hd, ey, Int.mul_comm]; omega), hd, ey]
    have hsub : (x - x / Int32.toInt64 y * Int32.toInt64 y).toInt = x.toInt % y.toInt := by
      rw [lsubT (by rw [hmul, Int.mul_comm]; omega) (by rw [hmul, Int.mul_comm]; omega), hmul, Int.mul_comm]
      omega
    rw [if_pos ((cmp_ge _ _).mpr (by rw [hsub, e0]; exact hr0))]
    exact ⟨_, rfl, by rw [narL (by rw [hd]; exact h4) (by rw [hd]; exact h5), hd]⟩
  · rw [if_neg hc] at hd
    have hx : x.toInt < 0 := by
      by_cases h0 : 0 ≤ x.toInt
      · exact absurd (Or.inl h0) hc
      · omega
    have hqn : x.toInt / y.toInt < 0 := Int.ediv_neg_of_neg_of_pos hx hy
    have hne : x.toInt % y.toInt ≠ 0 := fun h => hc (Or.inr (Int.dvd_of_emod_eq_zero h))
    have hexp : (x.toInt / y.toInt + 1) * y.toInt = y.toInt * (x.toInt / y.toInt) + y.toInt := by rw [Int.add_mul, Int.one_mul, Int.mul_comm]
    have hmul : (x / Int32.toInt64 y * Int32.toInt64 y).toInt = y.toInt * (x.toInt / y.toInt) + y.toInt := by
      rw [lmulT (by rw [hd, ey, hexp]; omega) (by rw [hd, ey, hexp]; omega), hd, ey, hexp]
    have hsub : (x - x / Int32.toInt64 y * Int32.toInt64 y).toInt = x.toInt % y.toInt - y.toInt := by
      rw [lsubT (by rw [hmul]; omega) (by rw [hmul]; omega), hmul]
      omega
    rw [if_neg (by rw [cmp_ge, hsub, e0]; omega)]
    have hq1 : (x / Int32.toInt64 y - (1 : Int64)).toInt = x.toInt / y.toInt := by
      rw [lsubT (by rw [hd, e1]; omega) (by rw [hd, e1]; omega), hd, e1]
      omega
    exact ⟨_, rfl, by rw [narL (by rw [hq1]; exact h4) (by rw [hq1]; exact h5), hq1]⟩
/-- the model's line -/
theorem lineM_v {f : Nat → Int32} (hb : bnd f) {a b j : Nat} (h1 : a ≤ j) (h2 : j ≤ b) (h3 : b ≤ a + 4) (h4 : b < 40) (h5 : a < b) : ∃ v, f_X5_floor ((Int32.toInt64 (f a) * Int32.toInt64 (nI b - nI j)) + (Int32.toInt64 (f b) * Int32.toInt64 (nI j - nI a))) (nI b - nI a) = some v ∧ v.toInt = lineZ f a b j := by
  have e1 := nsub h2 (by omega)
  have e2 := nsub h1 (by omega)
  have e3 := nsub (a := b) (b := a) (by omega) (by omega)
  have m1 := mulb (x := (f a).toInt) (k := (b : Int) - j) (A := 41000000) (hb a).1 (hb a).2 (by omega) (by omega) (by omega)
  have m2 := mulb (x := (f b).toInt) (k := (j : Int) - a) (A := 41000000) (hb b).1 (hb b).2 (by omega) (by omega) (by omega)
  have t1 : (Int32.toInt64 (f a) * Int32.toInt64 (nI b - nI j)).toInt = (f a).toInt * ((b : Int) - j) := by rw [lmulT (by rw [wide, wide, e1]; omega) (by rw [wide, wide, e1]; omega), wide, wide, e1]
  have t2 : (Int32.toInt64 (f b) * Int32.toInt64 (nI j - nI a)).toInt = (f b).toInt * ((j : Int) - a) := by rw [lmulT (by rw [wide, wide, e2]; omega) (by rw [wide, wide, e2]; omega), wide, wide, e2]
  have t3 : (Int32.toInt64 (f a) * Int32.toInt64 (nI b - nI j) + Int32.toInt64 (f b) * Int32.toInt64 (nI j - nI a)).toInt = (f a).toInt * ((b : Int) - j) + (f b).toInt * ((j : Int) - a) := by
    rw [laddT (by rw [t1, t2]; omega) (by rw [t1, t2]; omega), t1, t2]
  have lb := lineZ_bd hb h1 h2 h3 h5
  unfold lineZ at lb ⊢
  obtain ⟨v, hv, hv2⟩ := floor_v (x := Int32.toInt64 (f a) * Int32.toInt64 (nI b - nI j) + Int32.toInt64 (f b) * Int32.toInt64 (nI j - nI a)) (y := nI b - nI a) (by rw [e3]; omega) (by rw [t3]; omega) (by rw [t3, e3]; omega) (by rw [t3]; omega) (by rw [t3, e3]; omega) (by rw [t3, e3]; omega)
  exact ⟨v, hv, by rw [hv2, t3, e3]⟩
/-- pairs of the model, those that come before (t, b) in its order -/
def PP (n j : Nat) (t : Int) (b : Nat) (a' b' : Nat) : Prop := a' ≤ j ∧ j ≤ b' ∧ b' ≤ a' + 4 ∧ b' < n ∧ (t < (a' : Int) ∨ (t = (a' : Int) ∧ b' < b))
def lnV (f : Nat → Int32) (a b j : Nat) : Int := if a = b then (f a).toInt else lineZ f a b j
def SB (f lo : Nat → Int32) (j : Nat) (P : Nat → Nat → Prop) (x2 x3 : Int32) : Prop := (x2 = 0 ∧ x3 = 0 ∧ ∀ a b, P a b → ¬ (lo a = 0 ∧ lo b = 0)) ∨ (x2 = 1 ∧ (∃ a b, P a b ∧ lo a = 0 ∧ lo b = 0 ∧ x3.toInt = lnV f a b j) ∧ ∀ a b, P a b → lo a = 0 → lo b = 0 → lnV f a b j ≤ x3.toInt)
theorem SB.congr {f lo : Nat → Int32} {j : Nat} {P P' : Nat → Nat → Prop} {x2 x3 : Int32} (h : SB f lo j P x2 x3) (e : ∀ a b, lo a = 0 → lo b = 0 → (P a b ↔ P' a b)) : SB f lo j P' x2 x3 := by
  rcases h with ⟨h1, h2, h3⟩ | ⟨h1, ⟨a, b, k1, k2, k3, k4⟩, h3⟩
  · exact Or.inl ⟨h1, h2, fun a b k q => h3 a b ((e a b q.1 q.2).mpr k) q⟩
  · exact Or.inr ⟨h1, ⟨a, b, (e a b k2 k3).mp k1, k2, k3, k4⟩, fun a b q q1 q2 => h3 a b ((e a b q1 q2).mpr q) q1 q2⟩
theorem SB.add {f lo : Nat → Int32} {j : Nat} {P P' : Nat → Nat → Prop} {x2 x3 s : Int32} {a0 b0 : Nat} (h : SB f lo j P x2 x3) (ha : lo a0 = 0) (hb : lo b0 = 0) (hs : s.toInt = lnV f a0 b0 j) (hP : P' a0 b0) (e : ∀ a b, lo a = 0 → lo b = 0 → (P' a b ↔ (P a b ∨ (a = a0 ∧ b = b0)))) : SB f lo j P' 1 (if x2 = 0 then s else if s ≤ x3 then x3 else s) := by
  rcases h with ⟨h1, h2, h3⟩ | ⟨h1, ⟨a, b, k1, k2, k3, k4⟩, h3⟩
  · rw [if_pos h1]
    refine Or.inr ⟨rfl, ⟨a0, b0, hP, ha, hb, hs⟩, fun a b q q1 q2 => ?_⟩
    rcases (e a b q1 q2).mp q with q | ⟨rfl, rfl⟩
    · exact absurd ⟨q1, q2⟩ (h3 a b q)
    · omega
  · rw [if_neg (by rw [h1]; decide)]
    by_cases hc : s ≤ x3
    · rw [if_pos hc]
      rw [ile] at hc
      refine Or.inr ⟨rfl, ⟨a, b, (e a b k2 k3).mpr (Or.inl k1), k2, k3, k4⟩, fun a b q q1 q2 => ?_⟩
      rcases (e a b q1 q2).mp q with q | ⟨rfl, rfl⟩
      · exact h3 a b q q1 q2
      · omega
    · rw [if_neg hc]
      rw [ile] at hc
      refine Or.inr ⟨rfl, ⟨a0, b0, hP, ha, hb, hs⟩, fun a b q q1 q2 => ?_⟩
      rcases (e a b q1 q2).mp q with q | ⟨rfl, rfl⟩
      · have := h3 a b q q1 q2; omega
      · omega
theorem J115_v (M : RG) (p : Int32) (ko7 : Int32 → Int32 → Int32 → Option Int32) (ko : Int32 → Int32 → Int32 → Int32 → Option Int32) (x2 x3 x4 x5 s : Int32) : f_X5_railAt_J115 M p ko7 ko x2 x3 x4 x5 s = ko 1 (if x2 = 0 then s else if s ≤ x3 then x3 else s) x4 (x5 + 1) := by
  unfold f_X5_railAt_J115 f_X5_railAt_J127 f_X5_railAt_J133 f_X5_railAt_J136 ltt
  by_cases h : x2 = 0
  · rw [if_pos h, if_pos h]
  · rw [if_neg h, if_neg h]
    by_cases h2 : s ≤ x3
    · rw [if_pos h2, if_pos h2]
    · rw [if_neg h2, if_neg h2]
