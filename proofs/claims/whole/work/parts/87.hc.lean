def HS (n : Nat) (f lo : Nat → Int32) (j : Nat) (v : Int32) : Prop := (f j).toInt ≤ v.toInt ∧ (v.toInt = (f j).toInt ∨ ∃ a b, pr n lo a b j ∧ v.toInt = lineZ f a b j) ∧ ∀ a b, pr n lo a b j → lineZ f a b j ≤ v.toInt
theorem HS.uniq {n : Nat} {f lo : Nat → Int32} {j : Nat} {v w : Int32} (h : HS n f lo j v) (g : HS n f lo j w) : v = w := by
  rw [ieq]
  obtain ⟨h1, h2, h3⟩ := h
  obtain ⟨g1, g2, g3⟩ := g
  have a1 : v.toInt ≤ w.toInt := by
    rcases h2 with h2 | ⟨a, b, k1, k2⟩
    · omega
    · have := g3 a b k1; omega
  have a2 : w.toInt ≤ v.toInt := by
    rcases g2 with g2 | ⟨a, b, k1, k2⟩
    · omega
    · have := h3 a b k1; omega
  omega
/-- what is highest of the lines over a lost one -/
def HL (n : Nat) (f lo : Nat → Int32) (j : Nat) (v : Int32) : Prop := (∃ a b, pr n lo a b j ∧ v.toInt = lineZ f a b j) ∧ ∀ a b, pr n lo a b j → lineZ f a b j ≤ v.toInt
theorem HL.uniq {n : Nat} {f lo : Nat → Int32} {j : Nat} {v w : Int32} (h : HL n f lo j v) (g : HL n f lo j w) : v = w := by
  rw [ieq]
  obtain ⟨⟨a, b, h1, h2⟩, h3⟩ := h
  obtain ⟨⟨a', b', g1, g2⟩, g3⟩ := g
  have := g3 a b h1
  have := h3 a' b' g1
  omega
def nbF (n : Nat) (f lo : Nat → Int32) (j : Nat) : Nat → Nat → Int32
  | 0, _ => 0
  | q + 1, w => if n ≤ w then 0 else if w ≤ j ∧ lo (j - w) = 0 then f (j - w) else if j + w < n ∧ lo (j + w) = 0 then f (j + w) else nbF n f lo j q (w + 1)
/-- the rail's height at j -/
def HG (n : Nat) (f lo : Nat → Int32) (j : Nat) (v : Int32) : Prop := (lo j = 0 ∧ HS n f lo j v) ∨ (¬ lo j = 0 ∧ HL n f lo j v) ∨ (¬ lo j = 0 ∧ (¬ ∃ a b, pr n lo a b j) ∧ v = nbF n f lo j 64 0)
theorem HG.uniq {n : Nat} {f lo : Nat → Int32} {j : Nat} {v w : Int32} (h : HG n f lo j v) (g : HG n f lo j w) : v = w := by
  rcases h with ⟨h0, h⟩ | ⟨h0, h⟩ | ⟨h0, h1, h⟩ <;> rcases g with ⟨g0, g⟩ | ⟨g0, g⟩ | ⟨g0, g1, g⟩
  · exact h.uniq g
  · exact absurd h0 g0
  · exact absurd h0 g0
  · exact absurd g0 h0
  · exact h.uniq g
  · obtain ⟨⟨a, b, k1, -⟩, -⟩ := h
    exact absurd ⟨a, b, k1⟩ g1
  · exact absurd g0 h0
  · obtain ⟨⟨a, b, k1, -⟩, -⟩ := g
    exact absurd ⟨a, b, k1⟩ h1
  · rw [h, g]
theorem lineZ_bd {f : Nat → Int32} (hb : bnd f) {a b j : Nat} (h1 : a ≤ j) (h2 : j ≤ b) (h3 : b ≤ a + 4) (h5 : a < b) : -328000000 ≤ lineZ f a b j ∧ lineZ f a b j ≤ 328000000 := by
  have m1 := mulb (x := (f a).toInt) (k := (b : Int) - j) (A := 41000000) (hb a).1 (hb a).2 (by omega) (by omega) (by omega)
  have m2 := mulb (x := (f b).toInt) (k := (j : Int) - a) (A := 41000000) (hb b).1 (hb b).2 (by omega) (by omega) (by omega)
  unfold lineZ
  exact ediv_bd (by omega) 328000000 (by omega) (by omega) (by omega)
theorem near_v {n : Nat} {T : RG} (h3 : 3 ≤ n) (h4 : n ≤ 40) (hT : T 7 0 = nI n) {j : Nat} (hj : j < n) : ∀ (fuel w : Nat), n < w + fuel → w ≤ n → f_X1_nearestBed_L2 T (nI j) fuel (nI w) = some (nbF n (T 1) (T 5) j fuel w) := by
  intro fuel
  induction fuel with
  | zero => intro w h1 h2; exact absurd h1 (by omega)
  | succ q ih =>
    intro w h1 h2
    rw [f_X1_nearestBed_L2, nbF, hT]
    by_cases hw : n ≤ w
    · rw [if_pos ((nI_leI (by omega) (by omega)).mpr hw), if_pos hw]
    · rw [if_neg (by rw [nI_leI (by omega) (by omega)]; exact hw), if_neg hw]
      have hlow : f_X1_stands T (nI j - nI w) = some (if w ≤ j ∧ T 5 (j - w) = 0 then 1 else 0) := by
        by_cases hwj : w ≤ j
        · rw [pk_sub hwj, stands_n h3 h4 hT (by omega)]
          by_cases hl : T 5 (j - w) = 0
          · rw [if_pos hl, if_pos ⟨hwj, hl⟩]
          · rw [if_neg hl, if_neg (fun q => hl q.2)]
        · rw [if_neg (fun q => hwj q.1)]
          apply stands_f h3 h4 hT
          intro hk
          have e : (nI j - nI w).toInt = (j : Int) - w := by
            rw [tsub (by rw [nI_ti (by omega), nI_ti (by omega)]; omega) (by rw [nI_ti (by omega), nI_ti (by omega)]; omega), nI_ti (by omega), nI_ti (by omega)]
          have := hk.1
          omega
      have hup : f_X1_stands T (nI j + nI w) = some (if j + w < n ∧ T 5 (j + w) = 0 then 1 else 0) := by
        rw [nI_add]
        by_cases hwj : j + w < n
        · rw [stands_n h3 h4 hT hwj]
          by_cases hl : T 5 (j + w) = 0
          · rw [if_pos hl, if_pos ⟨hwj, hl⟩]
          · rw [if_neg hl, if_neg (fun q => hl q.2)]
        · rw [if_neg (fun q => hwj q.1)]
          apply stands_f h3 h4 hT
          intro hk
          have e := nI_ti (j := j + w) (by omega)
          have := hk.2
          omega
      rw [hlow, b1_v]
      by_cases c1 : w ≤ j ∧ T 5 (j - w) = 0
      · rw [if_pos c1, if_neg (by decide), if_pos c1, pk_sub c1.1, gd_i (by omega) (by omega), nI_cl (by omega)]
      · rw [if_neg c1, if_pos rfl, if_neg c1, hup, b1_v]
        by_cases c2 : j + w < n ∧ T 5 (j + w) = 0
        · rw [if_pos c2, if_neg (by decide), if_pos c2, nI_add, gd_i (by omega) (by omega), nI_cl (by omega)]
        · rw [if_neg c2, if_pos rfl, if_neg c2, ltt_v, nI_s1]
          exact ih (w + 1) (by omega) (by omega)
theorem start_a {j : Nat} (hj : j < 1000) : (if (0 : Int32) < nI j - (4 : Int32) + (1 : Int32) then nI j - (4 : Int32) + (1 : Int32) else (0 : Int32)) = nI (j - 3) := by
  have e0 : (0 : Int32).toInt = 0 := rfl
  have e1 : (1 : Int32).toInt = 1 := rfl
  have e4 : (4 : Int32).toInt = 4 := rfl
  have ej := nI_ti (j := j) (by omega)
  have s1 : (nI j - (4 : Int32)).toInt = (j : Int) - 4 := by rw [tsub (by rw [ej, e4]; omega) (by rw [ej, e4]; omega), ej, e4]
  have s2 : (nI j - (4 : Int32) + (1 : Int32)).toInt = (j : Int) - 3 := by rw [tadd (by rw [s1, e1]; omega) (by rw [s1, e1]; omega), s1, e1]; omega
  by_cases hc : (0 : Int32) < nI j - (4 : Int32) + (1 : Int32)
  · rw [if_pos hc]
    rw [ilt, e0, s2] at hc
    exact nI_eq_of (by rw [s2]; omega) (by omega)
  · rw [if_neg hc]
    rw [ilt, e0, s2] at hc
    rw [show j - 3 = 0 by omega]
    rfl
theorem height_v {n : Nat} {T : RG} (h3 : 3 ≤ n) (h4 : n ≤ 40) (hT : T 7 0 = nI n) (hb : bnd (T 1)) {j : Nat} (hj : j < n) : ∃ v, f_X1_height T (nI j) = some v ∧ HG n (T 1) (T 5) j v := by
  unfold f_X1_height
  rw [stands_n h3 h4 hT hj, b1_v]
  have em : (-1000000000 : Int32).toInt = -1000000000 := by decide
  by_cases hl : T 5 j = 0
  · rw [if_pos hl, if_neg (by decide), gd_i (by omega) (by omega), nI_cl (by omega), f_X1_height_J19, start_a (by omega), ltt_v]
    obtain ⟨y, g1, g2, g3, g4⟩ := L30_v h3 h4 hT hb hj (j - (j - 3)) 64 (j - 3) (T 1 j) (by omega) (by omega) (by omega)
    have hby := hb j
    rw [g1, if_neg (by rw [ieq, em]; omega)]
    refine ⟨y, rfl, Or.inl ⟨hl, g2, ?_, fun a b k => g4 a b (by have := k.2.2.1; have := k.2.1; omega) k⟩⟩
    rcases g3 with g3 | ⟨a, b, k1, k2, k3⟩
    · exact Or.inl (by rw [g3])
    · exact Or.inr ⟨a, b, k2, k3⟩
  · rw [if_neg hl, if_pos rfl, f_X1_height_J19, start_a (by omega), ltt_v]
    obtain ⟨y, g1, g2, g3, g4⟩ := L30_v h3 h4 hT hb hj (j - (j - 3)) 64 (j - 3) (-1000000000 : Int32) (by omega) (by omega) (by omega)
    rw [g1]
    by_cases hy : y = (-1000000000 : Int32)
    · rw [if_pos hy, f_X1_nearestBed]
      have hn := near_v h3 h4 hT hj 64 0 (by omega) (by omega)
      have e0 : nI 0 = (0 : Int32) := rfl
      rw [e0] at hn
      rw [hn]
      refine ⟨_, rfl, Or.inr (Or.inr ⟨hl, ?_, rfl⟩)⟩
      rintro ⟨a, b, k⟩
      have k2 := g4 a b (by have := k.2.2.1; have := k.2.1; omega) k
      have k3 := lineZ_bd hb (a := a) (b := b) (j := j) (by have := k.1; omega) (by have := k.2.1; omega) k.2.2.1 (by have := k.1; have := k.2.1; omega)
      rw [hy, em] at k2
      omega
    · rw [if_neg hy]
      refine ⟨y, rfl, Or.inr (Or.inl ⟨hl, ?_, fun a b k => g4 a b (by have := k.2.2.1; have := k.2.1; omega) k⟩)⟩
      rcases g3 with g3 | ⟨a, b, k1, k2, k3⟩
      · exact absurd g3 hy
      · exact ⟨a, b, k2, k3⟩
theorem htv_G {n : Nat} {T : RG} (h3 : 3 ≤ n) (h4 : n ≤ 40) (hT : T 7 0 = nI n) (hb : bnd (T 1)) {j : Nat} (hj : j < n) : f_X1_height T (nI j) = some (htv T j) ∧ HG n (T 1) (T 5) j (htv T j) := by
  obtain ⟨v, g1, g2⟩ := height_v h3 h4 hT hb hj
  have e : htv T j = v := by unfold htv; rw [g1]; rfl
  rw [e]
  exact ⟨g1, g2⟩
/-- what doesn't stand near doesn't matter -/
theorem htv_near {n : Nat} {T T' : RG} (h3 : 3 ≤ n) (h4 : n ≤ 40) (hT : T 7 0 = nI n) (hT' : T' 7 0 = nI n) (hb : bnd (T 1)) (hb' : bnd (T' 1)) {j : Nat} (hj : j < n) (hl : T 5 j = 0)
    (hw : ∀ i, j ≤ i + 3 → i ≤ j + 3 → T' 1 i = T 1 i ∧ T' 5 i = T 5 i) : htv T' j = htv T j := by
  obtain ⟨-, g⟩ := htv_G h3 h4 hT hb hj
  obtain ⟨-, g'⟩ := htv_G h3 h4 hT' hb' hj
  have hl' : T' 5 j = 0 := by rw [(hw j (by omega) (by omega)).2]; exact hl
  have k : HS n (T 1) (T 5) j (htv T j) := by
    rcases g with g | g | g
    · exact g.2
    · exact absurd hl g.1
    · exact absurd hl g.1
  have k' : HS n (T' 1) (T' 5) j (htv T' j) := by
    rcases g' with g | g | g
    · exact g.2
    · exact absurd hl' g.1
    · exact absurd hl' g.1
  refine HS.uniq (n := n) (f := T 1) (lo := T 5) (j := j) ?_ k
  have hp : ∀ a b, pr n (T 5) a b j → pr n (T' 5) a b j ∧ lineZ (T' 1) a b j = lineZ (T 1) a b j := by
    intro a b q
    have wa := hw a (by have := q.2.1; have := q.2.2.1; omega) (by have := q.1; omega)
    have wb := hw b (by have := q.2.1; omega) (by have := q.1; have := q.2.2.1; omega)
    refine ⟨⟨q.1, q.2.1, q.2.2.1, q.2.2.2.1, by rw [wa.2]; exact q.2.2.2.2.1, by rw [wb.2]; exact q.2.2.2.2.2⟩, ?_⟩
    unfold lineZ
    rw [wa.1, wb.1]
  have hp' : ∀ a b, pr n (T' 5) a b j → pr n (T 5) a b j := by
    intro a b q
    have wa := hw a (by have := q.2.1; have := q.2.2.1; omega) (by have := q.1; omega)
    have wb := hw b (by have := q.2.1; omega) (by have := q.1; have := q.2.2.1; omega)
    exact ⟨q.1, q.2.1, q.2.2.1, q.2.2.2.1, by rw [← wa.2]; exact q.2.2.2.2.1, by rw [← wb.2]; exact q.2.2.2.2.2⟩
  have wj := hw j (by omega) (by omega)
  refine ⟨by rw [← wj.1]; exact k'.1, ?_, fun a b q => by rw [← (hp a b q).2]; exact k'.2.2 a b (hp a b q).1⟩
  rcases k'.2.1 with q | ⟨a, b, q1, q2⟩
  · exact Or.inl (by rw [← wj.1]; exact q)
  · exact Or.inr ⟨a, b, hp' a b q1, by rw [← (hp a b (hp' a b q1)).2]; exact q2⟩
