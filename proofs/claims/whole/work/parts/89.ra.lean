theorem L23_v {n : Nat} {M : RG} (h3 : 3 ≤ n) (h4 : n ≤ 40) (hM : M 3 0 = nI n) (hb : bnd (M 5)) {j a : Nat} (hj : j < n) (haj : a ≤ j) (ha4 : j ≤ a + 4) (ko : Int32 → Int32 → Int32 → Option Int32) :
    ∀ (q fuel b : Nat) (x2 x3 : Int32), b + q = a + 6 → q < fuel → j ≤ b → b ≤ n → SB (M 5) (M 9) j (PP n j a b) x2 x3 → ∃ y2 y3, f_X5_railAt_L23 M (nI j) ko fuel x2 x3 (nI a) (nI b) = ko y2 y3 (nI a + (-1 : Int32)) ∧ SB (M 5) (M 9) j (PP n j ((a : Int) - 1) j) y2 y3 := by
  intro q
  have stop : ∀ (b : Nat) (x2 x3 : Int32), (n ≤ b ∨ a + 4 < b) → SB (M 5) (M 9) j (PP n j a b) x2 x3 → SB (M 5) (M 9) j (PP n j ((a : Int) - 1) j) x2 x3 := by
    intro b x2 x3 hs h
    refine h.congr (fun a' b' _ _ => ?_)
    unfold PP
    omega
  induction q with
  | zero =>
    intro fuel b x2 x3 h1 h2 h5 h6 hS
    obtain ⟨f, rfl⟩ : ∃ f, fuel = f + 1 := ⟨fuel - 1, by omega⟩
    rw [f_X5_railAt_L23, hM]
    have e4 : nI a + (4 : Int32) = nI (a + 4) := nI_add a 4
    by_cases hn : n ≤ b
    · rw [if_pos ((nI_leI (by omega) (by omega)).mpr hn), f_X5_railAt_J142, ltt_v]
      exact ⟨x2, x3, rfl, stop b x2 x3 (Or.inl hn) hS⟩
    · rw [if_neg (by rw [nI_leI (by omega) (by omega)]; exact hn), e4, if_pos ((nI_ltI (by omega) (by omega)).mpr (by omega)), f_X5_railAt_J142, ltt_v]
      exact ⟨x2, x3, rfl, stop b x2 x3 (Or.inr (by omega)) hS⟩
  | succ q ih =>
    intro fuel b x2 x3 h1 h2 h5 h6 hS
    obtain ⟨f, rfl⟩ : ∃ f, fuel = f + 1 := ⟨fuel - 1, by omega⟩
    rw [f_X5_railAt_L23, hM]
    have e4 : nI a + (4 : Int32) = nI (a + 4) := nI_add a 4
    by_cases hn : n ≤ b
    · rw [if_pos ((nI_leI (by omega) (by omega)).mpr hn), f_X5_railAt_J142, ltt_v]
      exact ⟨x2, x3, rfl, stop b x2 x3 (Or.inl hn) hS⟩
    · rw [if_neg (by rw [nI_leI (by omega) (by omega)]; exact hn), e4]
      by_cases hc : a + 4 < b
      · rw [if_pos ((nI_ltI (by omega) (by omega)).mpr hc), f_X5_railAt_J142, ltt_v]
        exact ⟨x2, x3, rfl, stop b x2 x3 (Or.inr hc) hS⟩
      · rw [if_neg (by rw [nI_ltI (by omega) (by omega)]; exact hc), gd_i (by omega) (by omega), nI_cl (by omega)]
        have skip : ¬ (M 9 a = 0 ∧ M 9 b = 0) → SB (M 5) (M 9) j (PP n j a (b + 1)) x2 x3 := by
          intro hne
          refine hS.congr (fun a' b' q1 q2 => ?_)
          unfold PP
          constructor
          · intro k; exact ⟨k.1, k.2.1, k.2.2.1, k.2.2.2.1, by have := k.2.2.2.2; omega⟩
          · intro k
            refine ⟨k.1, k.2.1, k.2.2.1, k.2.2.2.1, ?_⟩
            rcases k.2.2.2.2 with k5 | ⟨k5, k6⟩
            · exact Or.inl k5
            · by_cases hbe : b' = b
              · have hae : a' = a := by omega
                rw [hae] at q1
                rw [hbe] at q2
                exact absurd ⟨q1, q2⟩ hne
              · exact Or.inr ⟨k5, by omega⟩
        have add : ∀ s : Int32, M 9 a = 0 → M 9 b = 0 → s.toInt = lnV (M 5) a b j → SB (M 5) (M 9) j (PP n j a (b + 1)) 1 (if x2 = 0 then s else if s ≤ x3 then x3 else s) := by
          intro s k1 k2 k3
          refine hS.add k1 k2 k3 ⟨haj, h5, by omega, by omega, Or.inr ⟨rfl, by omega⟩⟩ (fun a' b' _ _ => ?_)
          unfold PP
          omega
        by_cases hla : M 9 a = 0
        · rw [if_pos hla, gd_i (by omega) (by omega), nI_cl (by omega)]
          by_cases hlb : M 9 b = 0
          · rw [if_pos hlb]
            by_cases hab : a = b
            · rw [if_pos (by rw [hab]), gd_i (by omega) (by omega), J115_v, nI_s1]
              exact ih f (b + 1) 1 _ (by omega) (by omega) (by omega) (by omega) (add _ hla hlb (by unfold lnV; rw [if_pos hab]))
            · rw [if_neg (by rw [nI_eq (by omega) (by omega)]; exact hab), gd_i (by omega) (by omega), gd_i (by omega) (by omega)]
              obtain ⟨v, hv, hv2⟩ := lineM_v hb haj h5 (by omega) (by omega : b < 40) (by omega)
              rw [hv, b1_v, J115_v, nI_s1]
              exact ih f (b + 1) 1 _ (by omega) (by omega) (by omega) (by omega) (add _ hla hlb (by unfold lnV; rw [if_neg hab]; exact hv2))
          · rw [if_neg hlb, f_X5_railAt_J136, ltt_v, nI_s1]
            exact ih f (b + 1) x2 x3 (by omega) (by omega) (by omega) (by omega) (skip (fun k => hlb k.2))
        · rw [if_neg hla, f_X5_railAt_J136, ltt_v, nI_s1]
          exact ih f (b + 1) x2 x3 (by omega) (by omega) (by omega) (by omega) (skip (fun k => hla k.1))
theorem L7_v {n : Nat} {M : RG} (h3 : 3 ≤ n) (h4 : n ≤ 40) (hM : M 3 0 = nI n) (hb : bnd (M 5)) {j : Nat} (hj : j < n) :
    ∀ (q fuel : Nat) (t : Int) (x2 x3 x4 : Int32), t + 1 = q → q < fuel → t ≤ j → -1 ≤ t → (j : Int) - 5 ≤ t → x4.toInt = t → SB (M 5) (M 9) j (PP n j t j) x2 x3 → ∃ y2 y3, f_X5_railAt_L7 M (nI j) fuel x2 x3 x4 = f_X5_railAt_J148 M (nI j) y2 y3 ∧ SB (M 5) (M 9) j (PP n j (-1) j) y2 y3 := by
  intro q
  have e0 : (0 : Int32).toInt = 0 := rfl
  have e4 : (4 : Int32).toInt = 4 := rfl
  have ej := nI_ti (j := j) (by omega)
  have s4 : (nI j - (4 : Int32)).toInt = (j : Int) - 4 := by rw [tsub (by rw [ej, e4]; omega) (by rw [ej, e4]; omega), ej, e4]
  induction q with
  | zero =>
    intro fuel t x2 x3 x4 h1 h2 h5 h6 h7 hx hS
    obtain ⟨f, rfl⟩ : ∃ f, fuel = f + 1 := ⟨fuel - 1, by omega⟩
    rw [f_X5_railAt_L7, if_pos (by rw [ilt, hx, e0]; omega)]
    exact ⟨x2, x3, rfl, by rw [show (-1 : Int) = t by omega]; exact hS⟩
  | succ q ih =>
    intro fuel t x2 x3 x4 h1 h2 h5 h6 h7 hx hS
    obtain ⟨f, rfl⟩ : ∃ f, fuel = f + 1 := ⟨fuel - 1, by omega⟩
    rw [f_X5_railAt_L7, if_neg (by rw [ilt, hx, e0]; omega)]
    by_cases hc : t < (j : Int) - 4
    · rw [if_pos (by rw [ilt, hx, s4]; exact hc)]
      refine ⟨x2, x3, rfl, hS.congr (fun a' b' _ _ => ?_)⟩
      unfold PP
      omega
    · rw [if_neg (by rw [ilt, hx, s4]; exact hc)]
      obtain ⟨a, rfl⟩ : ∃ a : Nat, t = a := ⟨t.toNat, by omega⟩
      have hx4 : x4 = nI a := nI_eq_of hx (by omega)
      rw [hx4]
      obtain ⟨y2, y3, g1, g2⟩ := L23_v h3 h4 hM hb hj (a := a) (by omega) (by omega) (f_X5_railAt_L7 M (nI j) f) (a + 6 - j) 64 j x2 x3 (by omega) (by omega) (Nat.le_refl _) (by omega) hS
      rw [g1]
      have em : (-1 : Int32).toInt = -1 := by decide
      have ea := nI_ti (j := a) (by omega)
      exact ih f ((a : Int) - 1) y2 y3 _ (by omega) (by omega) (by omega) (by omega) (by omega) (by rw [tadd (by rw [ea, em]; omega) (by rw [ea, em]; omega), ea, em]; omega) g2
theorem near2_v {n : Nat} {M : RG} (h3 : 3 ≤ n) (h4 : n ≤ 40) (hM : M 3 0 = nI n) {j : Nat} (hj : j < n) (hl : ¬ M 9 j = 0) : ∀ (fuel w : Nat), n < w + fuel → 1 ≤ w → w ≤ n → f_X5_railAt_L151 M (nI j) fuel 0 0 (nI w) = some (nbF n (M 5) (M 9) j fuel w) := by
  intro fuel
  induction fuel with
  | zero => intro w h1 h2 h5; exact absurd h1 (by omega)
  | succ q ih =>
    intro w h1 h2 h5
    rw [f_X5_railAt_L151, nbF, hM]
    have em : (-1 : Int32).toInt = -1 := by decide
    have ej := nI_ti (j := j) (by omega)
    have ew := nI_ti (j := w) (by omega)
    by_cases hw : n ≤ w
    · rw [if_pos ((nI_leI (by omega) (by omega)).mpr hw), if_pos hw]
    · rw [if_neg (by rw [nI_leI (by omega) (by omega)]; exact hw), if_neg hw, if_pos rfl]
      have k1 : nI j + (-1 : Int32) * nI w = if w ≤ j then nI (j - w) else nI j + (-1 : Int32) * nI w := by
        by_cases hwj : w ≤ j
        · rw [if_pos hwj]
          have e1 : ((-1 : Int32) * nI w).toInt = -(w : Int) := by rw [tmul (by rw [em, ew]; omega) (by rw [em, ew]; omega), em, ew]; omega
          exact nI_eq_of (by rw [tadd (by rw [ej, e1]; omega) (by rw [ej, e1]; omega), ej, e1]; omega) (by omega)
        · rw [if_neg hwj]
      have k1n : ¬ w ≤ j → ¬ okN n (nI j + (-1 : Int32) * nI w) := by
        intro hwj hk
        have e1 : ((-1 : Int32) * nI w).toInt = -(w : Int) := by rw [tmul (by rw [em, ew]; omega) (by rw [em, ew]; omega), em, ew]; omega
        have := hk.1
        rw [tadd (by rw [ej, e1]; omega) (by rw [ej, e1]; omega), ej, e1] at this
        omega
      have k2 : nI j + (1 : Int32) * nI w = nI (j + w) := by
        have e1 : (1 : Int32) * nI w = nI w := by
          show nI 1 * nI w = nI w
          rw [pk_mul, Nat.one_mul]
        rw [e1, nI_add]
      -- side 1, then the end of the sides
      have side1 : ∀ f, 3 ≤ f → f_X5_railAt_L167 M (nI j) (f_X5_railAt_L151 M (nI j) q) f 0 0 (nI w) (1 : Int32) = if j + w < n ∧ M 9 (j + w) = 0 then f_X5_railAt_L151 M (nI j) q 1 (M 5 (j + w)) (nI (w + 1)) else f_X5_railAt_L151 M (nI j) q 0 0 (nI (w + 1)) := by
        intro f hf
        obtain ⟨g, rfl⟩ : ∃ g, f = g + 1 + 1 := ⟨f - 2, by omega⟩
        rw [f_X5_railAt_L167, if_neg (by decide), if_pos rfl, k2, ltt_v]
        have e3 : (1 : Int32) + (2 : Int32) = (3 : Int32) := by decide
        have fin : ∀ u v : Int32, f_X5_railAt_L167 M (nI j) (f_X5_railAt_L151 M (nI j) q) (g + 1) u v (nI w) (3 : Int32) = f_X5_railAt_L151 M (nI j) q u v (nI (w + 1)) := by
          intro u v
          rw [f_X5_railAt_L167, if_pos (by decide), f_X5_railAt_J221, ltt_v, nI_s1]
        by_cases c : j + w < n
        · rw [isS_t h3 h4 hM (okN_of c (by omega)), b1_v, if_neg (by decide), gd_i (by omega) (by omega), nI_cl (by omega)]
          by_cases c2 : M 9 (j + w) = 0
          · rw [if_pos c2, gd_i (by omega) (by omega), ltt_v, f_X5_railAt_J215, ltt_v, e3, fin, if_pos ⟨c, c2⟩]
          · rw [if_neg c2, f_X5_railAt_J215, ltt_v, e3, fin, if_neg (fun k => c2 k.2)]
        · rw [isS_f h3 h4 hM (by intro hk; have := hk.2; rw [nI_ti (by omega)] at this; omega), b1_v, if_pos rfl, f_X5_railAt_J215, ltt_v, e3, fin, if_neg (fun k => c k.1)]
      have side1a : ∀ f (v : Int32), 3 ≤ f → f_X5_railAt_L167 M (nI j) (f_X5_railAt_L151 M (nI j) q) f 1 v (nI w) (1 : Int32) = f_X5_railAt_L151 M (nI j) q 1 v (nI (w + 1)) := by
        intro f v hf
        obtain ⟨g, rfl⟩ : ∃ g, f = g + 1 := ⟨f - 1, by omega⟩
        rw [f_X5_railAt_L167, if_neg (by decide), if_neg (by decide), f_X5_railAt_J221, ltt_v, nI_s1]
      have fin1 : ∀ v : Int32, f_X5_railAt_L151 M (nI j) q 1 v (nI (w + 1)) = some v := by
        intro v
        obtain ⟨g, rfl⟩ : ∃ g, q = g + 1 := ⟨q - 1, by omega⟩
        rw [f_X5_railAt_L151, hM]
        by_cases c : n ≤ w + 1
        · rw [if_pos ((nI_leI (by omega) (by omega)).mpr c)]
        · rw [if_neg (by rw [nI_leI (by omega) (by omega)]; exact c), if_neg (by decide)]
      have em2 : (-1 : Int32) + (2 : Int32) = (1 : Int32) := by decide
      rw [f_X5_railAt_L167, if_neg (by decide), if_pos rfl, k1, ltt_v]
      by_cases hwj : w ≤ j
      · rw [if_pos hwj, isS_t h3 h4 hM (okN_of (by omega) (by omega)), b1_v, if_neg (by decide), gd_i (by omega) (by omega), nI_cl (by omega)]
        by_cases c1 : M 9 (j - w) = 0
        · rw [if_pos c1, gd_i (by omega) (by omega), ltt_v, f_X5_railAt_J215, ltt_v, em2, side1a _ _ (by omega), fin1, if_pos ⟨hwj, c1⟩]
        · rw [if_neg c1, f_X5_railAt_J215, ltt_v, em2, side1 _ (by omega), if_neg (c := w ≤ j ∧ M 9 (j - w) = 0) (fun k => c1 k.2)]
          by_cases c2 : j + w < n ∧ M 9 (j + w) = 0
          · rw [if_pos c2, if_pos c2, fin1]
          · rw [if_neg c2, if_neg c2]
            exact ih (w + 1) (by omega) (by omega) (by omega)
      · rw [if_neg hwj, isS_f h3 h4 hM (k1n hwj), b1_v, if_pos rfl, f_X5_railAt_J215, ltt_v, em2, side1 _ (by omega), if_neg (c := w ≤ j ∧ M 9 (j - w) = 0) (fun k => hwj k.1)]
        by_cases c2 : j + w < n ∧ M 9 (j + w) = 0
        · rw [if_pos c2, if_pos c2, fin1]
        · rw [if_neg c2, if_neg c2]
          exact ih (w + 1) (by omega) (by omega) (by omega)
theorem railAt_G {n : Nat} {M : RG} (h3 : 3 ≤ n) (h4 : n ≤ 40) (hM : M 3 0 = nI n) (hb : bnd (M 5)) {j : Nat} (hj : j < n) : ∃ v, f_X5_railAt M (nI j) = some v ∧ HG n (M 5) (M 9) j v := by
  unfold f_X5_railAt
  have hS0 : SB (M 5) (M 9) j (PP n j j j) 0 0 := Or.inl ⟨rfl, rfl, fun a b k => by unfold PP at k; omega⟩
  obtain ⟨y2, y3, g1, g2⟩ := L7_v h3 h4 hM hb hj (j + 1) 64 j 0 0 (nI j) (by omega) (by omega) (by omega) (by omega) (by omega) (nI_ti (by omega)) hS0
  rw [g1, f_X5_railAt_J148]
  have sub : ∀ a b, pr n (M 9) a b j → PP n j (-1) j a b := fun a b k => ⟨by have := k.1; omega, by have := k.2.1; omega, k.2.2.1, k.2.2.2.1, Or.inl (by omega)⟩
  have done : ∀ v : Int32, f_X5_railAt_L151 M (nI j) 64 1 v (1 : Int32) = some v := by
    intro v
    rw [f_X5_railAt_L151, hM, if_neg (by rw [show (1 : Int32) = nI 1 from rfl, nI_leI (by omega) (by omega)]; omega), if_neg (by decide)]
  rcases g2 with ⟨k1, k2, k3⟩ | ⟨k1, ⟨a, b, m1, m2, m3, m4⟩, k3⟩
  · have hlj : ¬ M 9 j = 0 := fun q => k3 j j ⟨Nat.le_refl _, Nat.le_refl _, by omega, hj, Or.inl (by omega)⟩ ⟨q, q⟩
    have hne : ¬ ∃ a b, pr n (M 9) a b j := by
      rintro ⟨a, b, k⟩
      exact k3 a b (sub a b k) ⟨k.2.2.2.2.1, k.2.2.2.2.2⟩
    rw [k1, k2]
    have hn := near2_v h3 h4 hM hj hlj 64 1 (by omega) (by omega) (by omega)
    have e1 : nI 1 = (1 : Int32) := rfl
    rw [e1] at hn
    refine ⟨_, hn, Or.inr (Or.inr ⟨hlj, hne, ?_⟩)⟩
    rw [show nbF n (M 5) (M 9) j 64 0 = (if n ≤ 0 then 0 else if 0 ≤ j ∧ M 9 (j - 0) = 0 then M 5 (j - 0) else if j + 0 < n ∧ M 9 (j + 0) = 0 then M 5 (j + 0) else nbF n (M 5) (M 9) j 63 (0 + 1)) from rfl]
    rw [if_neg (by omega), if_neg (fun q => hlj q.2), if_neg (fun q => hlj q.2)]
    -- fuel 64 and 63 tell alike
    have fu : ∀ (f w : Nat), n < w + f → nbF n (M 5) (M 9) j (f + 1) w = nbF n (M 5) (M 9) j f w := by
      intro f
      induction f with
      | zero => intro w h; rw [nbF, nbF, if_pos (by omega)]
      | succ f ih =>
        intro w h
        have u : ∀ g, nbF n (M 5) (M 9) j (g + 1) w = (if n ≤ w then 0 else if w ≤ j ∧ M 9 (j - w) = 0 then M 5 (j - w) else if j + w < n ∧ M 9 (j + w) = 0 then M 5 (j + w) else nbF n (M 5) (M 9) j g (w + 1)) := fun g => rfl
        rw [u (f + 1), u f]
        by_cases c : n ≤ w
        · rw [if_pos c, if_pos c]
        · rw [if_neg c, if_neg c]
          rw [ih (w + 1) (by omega)]
    exact fu 63 1 (by omega)
  · rw [k1, done]
    refine ⟨y3, rfl, ?_⟩
    have low : ∀ a b, pr n (M 9) a b j → lineZ (M 5) a b j ≤ y3.toInt := by
      intro a b k
      have := k3 a b (sub a b k) k.2.2.2.2.1 k.2.2.2.2.2
      unfold lnV at this
      rw [if_neg (by have := k.1; have := k.2.1; omega)] at this
      exact this
    by_cases hlj : M 9 j = 0
    · have hself := k3 j j ⟨Nat.le_refl _, Nat.le_refl _, by omega, hj, Or.inl (by omega)⟩ hlj hlj
      unfold lnV at hself
      rw [if_pos rfl] at hself
      refine Or.inl ⟨hlj, hself, ?_, low⟩
      unfold lnV at m4
      by_cases hab : a = b
      · rw [if_pos hab] at m4
        have : a = j := by have := m1.1; have := m1.2.1; omega
        rw [this] at m4
        exact Or.inl m4
      · rw [if_neg hab] at m4
        by_cases haj : a = j
        · left
          rw [m4, haj]
          unfold lineZ
          rw [Int.sub_self, Int.mul_zero, Int.add_zero]
          exact Int.mul_ediv_cancel _ (by have := m1.1; have := m1.2.1; omega)
        · by_cases hbj : b = j
          · left
            rw [m4, hbj]
            unfold lineZ
            rw [Int.sub_self, Int.mul_zero, Int.zero_add]
            exact Int.mul_ediv_cancel _ (by have := m1.1; have := m1.2.1; omega)
          · exact Or.inr ⟨a, b, ⟨by have := m1.1; omega, by have := m1.2.1; omega, m1.2.2.1, m1.2.2.2.1, m2, m3⟩, m4⟩
    · refine Or.inr (Or.inl ⟨hlj, ⟨a, b, ⟨?_, ?_, m1.2.2.1, m1.2.2.2.1, m2, m3⟩, ?_⟩, low⟩)
      · have : a ≠ j := fun q => hlj (by rw [← q]; exact m2)
        have := m1.1; omega
      · have : b ≠ j := fun q => hlj (by rw [← q]; exact m3)
        have := m1.2.1; omega
      · unfold lnV at m4
        have h1 : a ≠ j := fun q => hlj (by rw [← q]; exact m2)
        have h2 : b ≠ j := fun q => hlj (by rw [← q]; exact m3)
        rw [if_neg (by have := m1.1; have := m1.2.1; omega)] at m4
        exact m4
theorem railAt_v {n : Nat} {T M : RG} (h3 : 3 ≤ n) (h4 : n ≤ 40) (hT : T 7 0 = nI n) (hM : M 3 0 = nI n) (hb : bnd (T 1)) (e1 : T 1 = M 5) (e5 : T 5 = M 9) {j : Nat} (hj : j < n) : f_X5_railAt M (nI j) = some (htv T j) := by
  obtain ⟨v, g1, g2⟩ := railAt_G h3 h4 hM (by rw [← e1]; exact hb) hj
  obtain ⟨-, k⟩ := htv_G h3 h4 hT hb hj
  rw [e1, e5] at k
  rw [g1, k.uniq g2]
