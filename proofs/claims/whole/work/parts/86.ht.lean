theorem mulb {x k A : Int} (h1 : -A ≤ x) (h2 : x ≤ A) (hk : 0 ≤ k) (hk4 : k ≤ 4) (hA : 0 ≤ A) : -(4 * A) ≤ x * k ∧ x * k ≤ 4 * A := by
  have a1 : x * k ≤ A * k := Int.mul_le_mul_of_nonneg_right h2 hk
  have a2 : A * k ≤ A * 4 := Int.mul_le_mul_of_nonneg_left hk4 hA
  have a3 : (-A) * k ≤ x * k := Int.mul_le_mul_of_nonneg_right h1 hk
  have a4 : (-A) * k = -(A * k) := Int.neg_mul A k
  omega
def lineZ (f : Nat → Int32) (a b j : Nat) : Int := ((f a).toInt * ((b : Int) - j) + (f b).toInt * ((j : Int) - a)) / ((b : Int) - a)
def bnd (f : Nat → Int32) : Prop := ∀ i, -41000000 ≤ (f i).toInt ∧ (f i).toInt ≤ 41000000
theorem floorShare_v {x y : Int32} (hy : 0 < y.toInt) : ∃ v, f_X4_floorShare x y = some v ∧ v.toInt = x.toInt / y.toInt := by
  unfold f_X4_floorShare
  have e1 : (1 : Int32).toInt = 1 := rfl
  rw [if_pos (by rw [ile, e1]; omega), gd_t (by unfold nz32; rw [Bool.not_eq_true', beq_eq_false_iff_ne]; intro h; rw [h] at hy; exact absurd hy (by decide))]
  exact ⟨_, rfl, fd_pos hy⟩
theorem nsub {a b : Nat} (h : b ≤ a) (ha : a < 1000) : (nI a - nI b).toInt = (a : Int) - b := by
  rw [pk_sub h, nI_ti (by omega)]
  omega
theorem line_num {f : Nat → Int32} (hb : bnd f) {a b j : Nat} (h1 : a ≤ j) (h2 : j ≤ b) (h3 : b ≤ a + 4) (h4 : b < 100) : (f a * (nI b - nI j) + f b * (nI j - nI a)).toInt = (f a).toInt * ((b : Int) - j) + (f b).toInt * ((j : Int) - a) := by
  have e1 := nsub h2 (by omega)
  have e2 := nsub h1 (by omega)
  have m1 := mulb (x := (f a).toInt) (k := (b : Int) - j) (A := 41000000) (hb a).1 (hb a).2 (by omega) (by omega) (by omega)
  have m2 := mulb (x := (f b).toInt) (k := (j : Int) - a) (A := 41000000) (hb b).1 (hb b).2 (by omega) (by omega) (by omega)
  have t1 : (f a * (nI b - nI j)).toInt = (f a).toInt * ((b : Int) - j) := by rw [tmul (by rw [e1]; omega) (by rw [e1]; omega), e1]
  have t2 : (f b * (nI j - nI a)).toInt = (f b).toInt * ((j : Int) - a) := by rw [tmul (by rw [e2]; omega) (by rw [e2]; omega), e2]
  rw [tadd (by rw [t1, t2]; omega) (by rw [t1, t2]; omega), t1, t2]
theorem lineAt_v {T : RG} (hb : bnd (T 1)) {a b j : Nat} (h1 : a < j) (h2 : j < b) (h3 : b ≤ a + 4) (h4 : b < 40) : ∃ v, f_X1_lineAt T (nI a) (nI b) (nI j) = some v ∧ v.toInt = lineZ (T 1) a b j := by
  unfold f_X1_lineAt
  rw [gd_i (by omega) (by omega), gd_i (by omega) (by omega), nI_cl (by omega), nI_cl (by omega)]
  have e3 := nsub (a := b) (b := a) (by omega) (by omega)
  obtain ⟨v, hv, hv2⟩ := floorShare_v (x := T 1 a * (nI b - nI j) + T 1 b * (nI j - nI a)) (y := nI b - nI a) (by rw [e3]; omega)
  rw [hv]
  refine ⟨v, rfl, ?_⟩
  rw [hv2, line_num hb (by omega) (by omega) h3 (by omega), e3]
  rfl
/-- a line over j -/
def pr (n : Nat) (lo : Nat → Int32) (a b j : Nat) : Prop := a < j ∧ j < b ∧ b ≤ a + 4 ∧ b < n ∧ lo a = 0 ∧ lo b = 0
theorem L54_v {T : RG} (hb : bnd (T 1)) {a j last : Nat} (haj : a < j) (hl4 : last ≤ a + 4) (hl : last < 40) (ko : Int32 → Int32 → Option Int32) :
    ∀ (q fuel b : Nat) (x : Int32), b + q = last + 1 → q < fuel → j < b → ∃ y, f_X1_height_L54 T (nI j) ko fuel x (nI a) (nI last) (nI b) = ko y (nI (a + 1)) ∧ x.toInt ≤ y.toInt ∧ (y = x ∨ ∃ b', b ≤ b' ∧ b' ≤ last ∧ T 5 a = 0 ∧ T 5 b' = 0 ∧ y.toInt = lineZ (T 1) a b' j) ∧ (∀ b', b ≤ b' → b' ≤ last → T 5 a = 0 → T 5 b' = 0 → lineZ (T 1) a b' j ≤ y.toInt) := by
  intro q
  induction q with
  | zero =>
    intro fuel b x h1 h2 h3
    obtain ⟨f, rfl⟩ : ∃ f, fuel = f + 1 := ⟨fuel - 1, by omega⟩
    rw [f_X1_height_L54, if_pos ((nI_ltI (by omega) (by omega)).mpr (by omega)), f_X1_height_J99, ltt_v, nI_s1]
    exact ⟨x, rfl, Int.le_refl _, Or.inl rfl, fun b' g1 g2 => absurd g2 (by omega)⟩
  | succ q ih =>
    intro fuel b x h1 h2 h3
    obtain ⟨f, rfl⟩ : ∃ f, fuel = f + 1 := ⟨fuel - 1, by omega⟩
    rw [f_X1_height_L54, if_neg (by rw [nI_ltI (by omega) (by omega)]; omega), gd_i (by omega) (by omega), nI_cl (by omega)]
    by_cases ha : T 5 a = 0
    · rw [if_pos ha, gd_i (by omega) (by omega), nI_cl (by omega)]
      by_cases hbb : T 5 b = 0
      · rw [if_pos hbb]
        obtain ⟨v, hv, hv2⟩ := lineAt_v hb haj h3 (by omega) (by omega : b < 40)
        rw [hv, b1_v, ltt_v, f_X1_height_J93, ltt_v, nI_s1]
        obtain ⟨y, g1, g2, g3, g4⟩ := ih f (b + 1) (if x < v then v else x) (by omega) (by omega) (by omega)
        refine ⟨y, g1, ?_, ?_, ?_⟩
        · by_cases hxv : x < v
          · rw [if_pos hxv] at g2; rw [ilt] at hxv; omega
          · rw [if_neg hxv] at g2; exact g2
        · rcases g3 with g3 | ⟨b', k1, k2, k3, k4, k5⟩
          · by_cases hxv : x < v
            · rw [if_pos hxv] at g3
              exact Or.inr ⟨b, Nat.le_refl _, by omega, ha, hbb, by rw [g3, hv2]⟩
            · rw [if_neg hxv] at g3
              exact Or.inl g3
          · exact Or.inr ⟨b', by omega, k2, k3, k4, k5⟩
        · intro b' k1 k2 k3 k4
          by_cases hbe : b' = b
          · subst hbe
            by_cases hxv : x < v
            · rw [if_pos hxv] at g2; omega
            · rw [if_neg hxv] at g2; rw [ilt] at hxv; omega
          · exact g4 b' (by omega) k2 k3 k4
      · rw [if_neg hbb, f_X1_height_J93, ltt_v, nI_s1]
        obtain ⟨y, g1, g2, g3, g4⟩ := ih f (b + 1) x (by omega) (by omega) (by omega)
        refine ⟨y, g1, g2, ?_, ?_⟩
        · rcases g3 with g3 | ⟨b', k1, k2, k3, k4, k5⟩
          · exact Or.inl g3
          · exact Or.inr ⟨b', by omega, k2, k3, k4, k5⟩
        · intro b' k1 k2 k3 k4
          by_cases hbe : b' = b
          · subst hbe; exact absurd k4 hbb
          · exact g4 b' (by omega) k2 k3 k4
    · rw [if_neg ha, f_X1_height_J99, ltt_v, nI_s1]
      exact ⟨x, rfl, Int.le_refl _, Or.inl rfl, fun b' g1 g2 g3 => absurd g3 ha⟩
theorem L30_v {n : Nat} {T : RG} (h3 : 3 ≤ n) (h4 : n ≤ 40) (hT : T 7 0 = nI n) (hb : bnd (T 1)) {j : Nat} (hj : j < n) :
    ∀ (q fuel a : Nat) (x : Int32), a + q = j → q < fuel → j ≤ a + 3 → ∃ y, f_X1_height_L30 T (nI j) fuel x (nI a) = (if y = (-1000000000 : Int32) then b1 (f_X1_nearestBed T (nI j)) (fun r12 => some r12) else some y) ∧ x.toInt ≤ y.toInt ∧ (y = x ∨ ∃ a' b', a ≤ a' ∧ pr n (T 5) a' b' j ∧ y.toInt = lineZ (T 1) a' b' j) ∧ (∀ a' b', a ≤ a' → pr n (T 5) a' b' j → lineZ (T 1) a' b' j ≤ y.toInt) := by
  intro q
  induction q with
  | zero =>
    intro fuel a x h1 h2 h5
    obtain ⟨f, rfl⟩ : ∃ f, fuel = f + 1 := ⟨fuel - 1, by omega⟩
    rw [f_X1_height_L30, if_pos ((nI_leI (by omega) (by omega)).mpr (by omega))]
    exact ⟨x, rfl, Int.le_refl _, Or.inl rfl, fun a' b' g1 g2 => absurd g2.1 (by omega)⟩
  | succ q ih =>
    intro fuel a x h1 h2 h5
    obtain ⟨f, rfl⟩ : ∃ f, fuel = f + 1 := ⟨fuel - 1, by omega⟩
    rw [f_X1_height_L30, if_neg (by rw [nI_leI (by omega) (by omega)]; omega), ltt_v, ltt_v]
    obtain ⟨last, hl1, hl2, hl3, hl4⟩ : ∃ last : Nat, (if nI a + (4 : Int32) < T 7 0 - (1 : Int32) then nI a + (4 : Int32) else T 7 0 - (1 : Int32)) = nI last ∧ last ≤ a + 4 ∧ last < n ∧ ∀ b', b' ≤ a + 4 → b' < n → b' ≤ last := by
      have e4 : nI a + (4 : Int32) = nI (a + 4) := nI_add a 4
      rw [hT, nI_p1 (by omega), e4]
      by_cases hc : nI (a + 4) < nI (n - 1)
      · rw [if_pos hc]
        rw [nI_ltI (by omega) (by omega)] at hc
        exact ⟨a + 4, rfl, by omega, by omega, fun b' _ _ => by omega⟩
      · rw [if_neg hc]
        rw [nI_ltI (by omega) (by omega)] at hc
        exact ⟨n - 1, rfl, by omega, by omega, fun b' _ _ => by omega⟩
    rw [hl1, nI_s1]
    obtain ⟨y, g1, g2, g3, g4⟩ := L54_v (T := T) hb (a := a) (j := j) (last := last) (by omega) hl2 (by omega) (f_X1_height_L30 T (nI j) f) (last + 1 - (j + 1)) 64 (j + 1) x (by have := hl4 (j) (by omega) hj; omega) (by omega) (by omega)
    rw [g1]
    obtain ⟨z, k1, k2, k3, k4⟩ := ih f (a + 1) y (by omega) (by omega) (by omega)
    refine ⟨z, k1, by omega, ?_, ?_⟩
    · rcases k3 with k3 | ⟨a', b', m1, m2, m3⟩
      · rcases g3 with g3 | ⟨b', m1, m2, m3, m4, m5⟩
        · exact Or.inl (k3.trans g3)
        · exact Or.inr ⟨a, b', Nat.le_refl _, ⟨by omega, by omega, by omega, by omega, m3, m4⟩, by rw [k3, m5]⟩
      · exact Or.inr ⟨a', b', by omega, m2, m3⟩
    · intro a' b' m1 m2
      by_cases hae : a' = a
      · subst hae
        have := g4 b' (by have := m2.2.1; omega) (hl4 b' m2.2.2.1 m2.2.2.2.1) m2.2.2.2.2.1 m2.2.2.2.2.2
        omega
      · exact k4 a' b' (by omega) m2
