theorem nbF_bd {n : Nat} {f lo : Nat → Int32} (hb : bnd f) (j : Nat) : ∀ (q w : Nat), -41000000 ≤ (nbF n f lo j q w).toInt ∧ (nbF n f lo j q w).toInt ≤ 41000000 := by
  intro q
  induction q with
  | zero => intro w; rw [nbF]; decide
  | succ q ih =>
    intro w
    rw [nbF]
    split
    · decide
    · split
      · exact hb _
      · split
        · exact hb _
        · exact ih _
theorem htv_bd {n : Nat} {T : RG} (h3 : 3 ≤ n) (h4 : n ≤ 40) (hT : T 7 0 = nI n) (hb : bnd (T 1)) {j : Nat} (hj : j < n) : -328000000 ≤ (htv T j).toInt ∧ (htv T j).toInt ≤ 328000000 := by
  obtain ⟨-, g⟩ := htv_G h3 h4 hT hb hj
  have hl : ∀ a b, pr n (T 5) a b j → -328000000 ≤ lineZ (T 1) a b j ∧ lineZ (T 1) a b j ≤ 328000000 := by
    intro a b h
    unfold pr at h
    exact lineZ_bd hb (by omega) (by omega) (by omega) (by omega)
  have hj := hb j
  rcases g with ⟨-, g1, g2, -⟩ | ⟨-, ⟨a, b, g1, g2⟩, -⟩ | ⟨-, -, g⟩
  · rcases g2 with g2 | ⟨a, b, k1, k2⟩
    · omega
    · have := hl a b k1; omega
  · have := hl a b g1; omega
  · have := nbF_bd (n := n) (lo := T 5) hb j 64 0
    rw [g]; omega
theorem chz_bd {n : Nat} {T : RG} (h3 : 3 ≤ n) (h4 : n ≤ 40) (hT : T 7 0 = nI n) (hb : bnd (T 1)) {i : Nat} (hi : i < n) : -1312000000 ≤ (chz n T i 1).toInt ∧ (chz n T i 1).toInt ≤ 1312000000 := by
  unfold chz
  split
  · rename_i h
    have a := htv_bd h3 h4 hT hb hi
    have b := htv_bd h3 h4 hT hb (by omega : i - 1 < n)
    have c := htv_bd h3 h4 hT hb h.2
    have e2 : (2 : Int32).toInt = 2 := rfl
    have m : ((2 : Int32) * htv T i).toInt = 2 * (htv T i).toInt := by rw [tmul (by rw [e2]; omega) (by rw [e2]; omega), e2]
    have m1 : ((2 : Int32) * htv T i - htv T (i - 1)).toInt = 2 * (htv T i).toInt - (htv T (i - 1)).toInt := by rw [tsub (by rw [m]; omega) (by rw [m]; omega), m]
    rw [tsub (by rw [m1]; omega) (by rw [m1]; omega), m1]
    omega
  · decide
/-- the greater one: both sides -/
theorem great_v {x g : Int32} (hx : -1312000000 ≤ x.toInt ∧ x.toInt ≤ 1312000000) (hg : 0 ≤ g.toInt) (ko : Int32 → Int32 → Int32 → Int64 → Int32 → RG → Int64 → Option (Int32 × RG × Int64)) (p0 p1 e cn s i : Int32) (M : RG) (L : Int64) : ∃ g', (if g < (if 0 ≤ x then x else 0 - x) then (if 0 ≤ x then x else 0 - x) else g) = g' ∧ 0 ≤ g'.toInt ∧ (if (0 : Int32) ≤ (lg_cmp (Int32.toInt64 x) (0 : Int64)) then (f_X5_margin_J134 p0 p1 ko e cn s (Int32.toInt64 g) i (Int32.toInt64 x) M L) else (f_X5_margin_J134 p0 p1 ko e cn s (Int32.toInt64 g) i (-(Int32.toInt64 x)) M L)) = ko e cn s (Int32.toInt64 g') (i + 1) M L := by
  have e0 : (0 : Int32).toInt = 0 := rfl
  have l0 : (0 : Int64).toInt = 0 := rfl
  obtain ⟨y, hy, hy0, hyl⟩ : ∃ y : Int32, (if 0 ≤ x then x else 0 - x) = y ∧ 0 ≤ y.toInt ∧ ((0 : Int32) ≤ (lg_cmp (Int32.toInt64 x) (0 : Int64)) ∧ Int32.toInt64 x = Int32.toInt64 y ∨ ¬ (0 : Int32) ≤ (lg_cmp (Int32.toInt64 x) (0 : Int64)) ∧ -(Int32.toInt64 x) = Int32.toInt64 y) := by
    by_cases c : 0 ≤ x
    · rw [if_pos c]
      rw [ile, e0] at c
      exact ⟨x, rfl, c, Or.inl ⟨by rw [cmp_ge, wide, l0]; exact c, rfl⟩⟩
    · rw [if_neg c]
      rw [ile, e0] at c
      have hn : (0 - x).toInt = -x.toInt := by rw [tsub (by rw [e0]; omega) (by rw [e0]; omega), e0]; omega
      refine ⟨0 - x, rfl, by omega, Or.inr ⟨by rw [cmp_ge, wide, l0]; exact c, ?_⟩⟩
      rw [eqL, wide, hn, Int64.toInt_neg, wide]
      exact Int.bmod_eq_of_le (by omega) (by omega)
  rw [hy]
  have hm : (if (0 : Int32) ≤ (lg_cmp (Int32.toInt64 x) (0 : Int64)) then (f_X5_margin_J134 p0 p1 ko e cn s (Int32.toInt64 g) i (Int32.toInt64 x) M L) else (f_X5_margin_J134 p0 p1 ko e cn s (Int32.toInt64 g) i (-(Int32.toInt64 x)) M L)) = f_X5_margin_J134 p0 p1 ko e cn s (Int32.toInt64 g) i (Int32.toInt64 y) M L := by
    rcases hyl with ⟨a, b⟩ | ⟨a, b⟩
    · rw [if_pos a, b]
    · rw [if_neg a, b]
  rw [hm]
  unfold f_X5_margin_J134 f_X5_margin_J151
  simp only [ltt_v]
  by_cases c : g < y
  · rw [if_pos c]
    rw [ilt] at c
    exact ⟨y, rfl, hy0, by rw [if_neg (by rw [cmp_le, wide, wide]; omega)]⟩
  · rw [if_neg c]
    rw [ilt] at c
    exact ⟨g, rfl, hg, by rw [if_pos (by rw [cmp_le, wide, wide]; omega)]⟩
theorem marg_v {n : Nat} {T M : RG} (h3 : 3 ≤ n) (h4 : n ≤ 40) (hTM : TMr n T M) (hb : bnd (T 1)) {e : Nat} (he : e ≤ n) {pa pe : Int32} (hpe : pe.toInt = (e : Int) - 1) (p0 p1 : Int32) (L : Int64) : ∀ (q i f1 f2 f3 : Nat) (cnt s g : Int32), i + q = e → q < f1 → q < f2 → q < f3 → 0 ≤ g.toInt → 0 ≤ cnt.toInt → cnt.toInt + q ≤ 1000 → ∃ cn s' g', f_X1_standing_L5 T pa pe f1 cnt (nI i) = some cn ∧ f_X1_sumOfStones_L5 T pa pe f2 s (nI i) = some s' ∧ f_X1_greatestChord_L5 T pa pe f3 g (nI i) = some g' ∧ 0 ≤ cn.toInt ∧ ∀ f4, f_X5_margin_L56 p0 p1 (f4 + q + 1) (nI e) cnt s (Int32.toInt64 g) (nI i) M L = f_X5_margin_L56 p0 p1 (f4 + 1) (nI e) cn s' (Int32.toInt64 g') (nI e) M L := by
  have i1 : (1 : Int32) = nI 1 := rfl
  have e1 : (1 : Int32).toInt = 1 := rfl
  intro q
  induction q with
  | zero =>
    intro i f1 f2 f3 cnt s g h1 h2 h3' h4' hg hc hc2
    obtain ⟨a, rfl⟩ : ∃ f, f1 = f + 1 := ⟨f1 - 1, by omega⟩
    obtain ⟨b, rfl⟩ : ∃ f, f2 = f + 1 := ⟨f2 - 1, by omega⟩
    obtain ⟨d, rfl⟩ : ∃ f, f3 = f + 1 := ⟨f3 - 1, by omega⟩
    have c1 : pe < nI i := by rw [ilt, hpe, nI_ti (by omega)]; omega
    have hie : i = e := by omega
    rw [f_X1_standing_L5, f_X1_sumOfStones_L5, f_X1_greatestChord_L5, if_pos c1, if_pos c1, if_pos c1]
    exact ⟨cnt, s, g, rfl, rfl, rfl, hc, fun f4 => by rw [hie]⟩
  | succ q ih =>
    intro i f1 f2 f3 cnt s g h1 h2 h3' h4' hg hc hc2
    obtain ⟨a, rfl⟩ : ∃ f, f1 = f + 1 := ⟨f1 - 1, by omega⟩
    obtain ⟨b, rfl⟩ : ∃ f, f2 = f + 1 := ⟨f2 - 1, by omega⟩
    obtain ⟨d, rfl⟩ : ∃ f, f3 = f + 1 := ⟨f3 - 1, by omega⟩
    have hin : i < n := by omega
    have c1 : ¬ pe < nI i := by rw [ilt, hpe, nI_ti (by omega)]; omega
    have hx := chz_bd h3 h4 hTM.1 hb hin
    have ch1 := chord_v h3 h4 hTM.1 hb (i := i) (k := 1) (by omega) (by omega) (by omega)
    have ch2 := chordM_v h3 h4 hTM hb (i := i) (k := 1) hin (by omega) (by omega)
    rw [← i1] at ch1 ch2
    obtain ⟨g2, hg2, hg2', hgm⟩ := great_v hx hg (fun _ _ _ _ _ _ _ => none) p0 p1 0 0 0 0 M L
    have hgm2 : ∀ (ko : Int32 → Int32 → Int32 → Int64 → Int32 → RG → Int64 → Option (Int32 × RG × Int64)) (cn s : Int32), (if (0 : Int32) ≤ (lg_cmp (Int32.toInt64 (chz n T i 1)) (0 : Int64)) then (f_X5_margin_J134 p0 p1 ko (nI e) cn s (Int32.toInt64 g) (nI i) (Int32.toInt64 (chz n T i 1)) M L) else (f_X5_margin_J134 p0 p1 ko (nI e) cn s (Int32.toInt64 g) (nI i) (-(Int32.toInt64 (chz n T i 1))) M L)) = ko (nI e) cn s (Int32.toInt64 g2) (nI (i + 1)) M L := by
      intro ko cn s
      obtain ⟨g3, k1, k2, k3⟩ := great_v hx hg ko p0 p1 (nI e) cn s (nI i) M L
      rw [k3, nI_s1, ← hg2, ← k1]
    obtain ⟨cnt', hcn⟩ : ∃ y, y = if T 5 i = 0 then cnt + 1 else cnt := ⟨_, rfl⟩
    obtain ⟨s2, hs2⟩ : ∃ y, y = if T 5 i = 0 then s + T 2 i else s := ⟨_, rfl⟩
    have hcb : 0 ≤ cnt'.toInt ∧ cnt'.toInt ≤ cnt.toInt + 1 := by
      rw [hcn]
      split
      · rw [tadd (by rw [e1]; omega) (by rw [e1]; omega), e1]; omega
      · omega
    obtain ⟨cn, s', g', k1, k2, k3, k4, k5⟩ := ih (i + 1) a b d cnt' s2 g2 (by omega) (by omega) (by omega) (by omega) hg2' hcb.1 (by omega)
    refine ⟨cn, s', g', ?_, ?_, ?_, k4, ?_⟩
    · rw [f_X1_standing_L5, if_neg c1, stands_n h3 h4 hTM.1 hin, b1_v]
      unfold f_X1_standing_J23
      simp only [ltt_v, nI_s1]
      by_cases c : T 5 i = 0
      · rw [if_pos c] at hcn ⊢
        rw [if_neg (by decide), ← hcn]
        exact k1
      · rw [if_neg c] at hcn ⊢
        rw [if_pos rfl, ← hcn]
        exact k1
    · rw [f_X1_sumOfStones_L5, if_neg c1, stands_n h3 h4 hTM.1 hin, b1_v]
      unfold f_X1_sumOfStones_J30
      simp only [ltt_v, nI_s1]
      rw [gd_i (by omega) (by omega), nI_cl (by omega)]
      by_cases c : T 5 i = 0
      · rw [if_pos c] at hs2 ⊢
        rw [if_neg (by decide), ← hs2]
        exact k2
      · rw [if_neg c] at hs2 ⊢
        rw [if_pos rfl, ← hs2]
        exact k2
    · rw [f_X1_greatestChord_L5, if_neg c1, ch1, b1_v, hg2, ltt_v, nI_s1, ltt_v]
      exact k3
    · intro f4
      rw [← k5 f4]
      have hf : f4 + (q + 1) + 1 = (f4 + q + 1) + 1 := by omega
      rw [hf, f_X5_margin_L56, if_neg (by rw [nI_leI (by omega) (by omega)]; omega), gd_i (by omega) (by omega), nI_cl (by omega), ← hTM.2.2.2.2.2.2.2]
      unfold f_X5_margin_J80 f_X5_margin_J106
      simp only [ltt_v, ch2, b1_v, hgm2]
      rw [gd_i (by omega) (by omega), nI_cl (by omega), gd_i (by omega) (by omega), ← hTM.2.2.2.2.2.2.2, ← hTM.2.2.2.2.1]
      by_cases c : T 5 i = 0
      · rw [if_pos c] at hcn hs2
        rw [if_pos c, if_pos c, hcn, hs2]
      · rw [if_neg c] at hcn hs2
        rw [if_neg c, if_neg c, hcn, hs2, a0, a0]
        exact gd_i (by omega) (by omega)
/-- behind the places -/
theorem mtail_v {c n : Nat} {B : RG} {L : Int64} {R T U V M : RG} (h : Rel c B L R T U V M L) (hc : c < 512) (hTM : TMr n T M) (h3 : 3 ≤ n) (h4 : n ≤ 40) (hb : bnd (T 1)) {j : Nat} (hj : j < 4) {p1 : Int32} (hp1 : -400 ≤ p1.toInt ∧ p1.toInt ≤ 600) {a e : Nat} (hae : a ≤ e) (he : e ≤ n) {pe : Int32} (hpe : pe.toInt = (e : Int) - 1) : ∃ r B1 L1 M1, f_X4_margin_J54 T (nI j) p1 (nI a) pe B L = some (r, B1, L1) ∧ f_X5_margin_L56 (nI j) p1 64 (nI e) 0 0 0 (nI a) M L = some (r, M1, L1) ∧ Rel (c + 1) B1 L1 R T U V M1 L1 := by
  have hu := h.up
  obtain ⟨-, -, -, -, ⟨h9, h10, h11, h12⟩, -⟩ := id h
  have z0i : (0 : Int32).toInt = 0 := rfl
  obtain ⟨cn, s, g, k1, k2, k3, k4, k5⟩ := marg_v h3 h4 hTM hb he (pa := nI a) hpe (nI j) p1 L (e - a) a 64 64 64 0 0 0 (by omega) (by omega) (by omega) (by omega) (by decide) (by decide) (by rw [z0i]; omega)
  have y1 : f_X1_standing T (nI a) pe = some cn := k1
  have y2 : f_X1_sumOfStones T (nI a) pe = some s := k2
  have y3 : f_X1_greatestChord T (nI a) pe = some g := k3
  have y5 := k5 (63 - (e - a))
  have hf : 63 - (e - a) + (e - a) + 1 = 64 := by omega
  have w0 : Int32.toInt64 (0 : Int32) = (0 : Int64) := rfl
  rw [hf, w0] at y5
  rw [y5, f_X5_margin_L56, if_pos ((nI_leI (by omega) (by omega)).mpr (by omega))]
  unfold f_X4_margin_J54
  rw [y1, b1_v]
  by_cases hz : cn = 0
  · rw [if_pos hz, if_pos hz, fl4, found_v (by omega), meets_v (by omega)]
    exact ⟨_, _, _, _, rfl, rfl, h.found 4⟩
  · have hpos : 0 < cn.toInt := by
      rw [ieq, z0i] at hz
      omega
    have hB := h12 j
    rw [if_neg hz, if_neg hz, y2, b1_v, cutShare_v hpos, b1_v, y3, b1_v, gd_t (nzp hpos)]
    simp only [b1_v, b2_v, gd_i hj (by omega : 4 < 1000), nI_cl (by omega : j < 1000), ltt_v, f_X4_tell, f_X4_pressOf, f_X5_pressOf, f_X5_margin_J215, f_X5_tell]
    rw [← h9, press_num hp1 ⟨by omega, by omega⟩]
    obtain ⟨v, hv⟩ : ∃ v, v = (9000 : Int64) + (300 : Int64) * Int32.toInt64 (s / cn) - (60 : Int64) * Int32.toInt64 g - (24 : Int64) * Int32.toInt64 (p1 - B 4 j) := ⟨_, rfl⟩
    rw [← hv]
    by_cases hc2 : (0 : Int32) < lg_cmp v 0
    · rw [if_pos hc2, if_pos hc2]
      exact ⟨_, _, _, _, rfl, rfl, hu.lng v⟩
    · rw [if_neg hc2, if_neg hc2]
      exact ⟨_, _, _, _, rfl, rfl, hu.lng v⟩
theorem eq_margin : EQ_margin := by
  intro c B L R T U V M Lm hc h p0 p1
  have hu := h.up
  obtain ⟨⟨n, hTM, hTI⟩, -⟩ := id h
  obtain ⟨⟨h3, h4⟩, -⟩ := id hTI
  have hL : L = Lm := h.2.2.2.2.2
  subst hL
  have hb := hTI.bnd (bdc hc)
  unfold f_X4_margin f_X5_margin
  rcases str_ok p0 with ⟨hs, s1, s2⟩ | ⟨hs, s1, s2⟩
  · rw [s1, s2]
    rcases tmp_ok p1 with ⟨hw, w1, w2⟩ | ⟨w1, w2⟩
    · rw [w1, w2]
      obtain ⟨j, hj, rfl⟩ := okN_nI hs (by omega)
      have g4 : ∀ {α : Type} (y : Option α), gd (nz32 (4 : Int32)) y = y := fun y => gd_t (by decide)
      have e4 : (4 : Int32).toInt = 4 := rfl
      have e1 : (1 : Int32).toInt = 1 := rfl
      have i3 : (3 : Int32) = nI 3 := rfl
      have hq : nI n / (4 : Int32) = nI (n / 4) := by
        rw [ieq, div32 (by rw [e4]; omega), e4, nI_ti (by omega), nI_ti (by omega), Int.tdiv_eq_ediv_of_nonneg (by omega)]
        omega
      simp only [b1_v, lq10, if_false, ltt_v, g4, hTM.1, hTM.2.1, hq]
      unfold f_X5_margin_J40
      simp only [ltt_v, pk_mul, nI_s1, nI_add]
      obtain ⟨w, hw2⟩ : ∃ w, w = n / 4 := ⟨_, rfl⟩
      rw [← hw2]
      have hj4 : j = 0 ∨ j = 1 ∨ j = 2 ∨ j = 3 := by omega
      by_cases hj3 : j = 3
      · subst hj3
        rw [if_pos (show nI 3 = (3 : Int32) from rfl), if_pos (show nI 3 = (3 : Int32) from rfl), Nat.mul_comm w 3]
        obtain ⟨r, B1, L1, M1, a1, a2, a3⟩ := mtail_v h hc hTM h3 h4 hb (j := 3) (by omega) hw (a := 3 * w) (e := n) (pe := nI n - 1) (by omega) (by omega) (by rw [nm1 h3 h4])
        exact ⟨r, B1, L1, M1, L1, a1, a2, a3⟩
      · have hne : ¬ nI j = (3 : Int32) := by
          rw [ieq, i3, nI_ti (by omega), nI_ti (by omega)]
          omega
        rw [if_neg hne, if_neg hne]
        have hjw : j * w + w ≤ n ∧ w * j = j * w ∧ w * (j + 1) = j * w + w := by
          refine ⟨?_, Nat.mul_comm _ _, by rw [Nat.mul_add, Nat.mul_one, Nat.mul_comm]⟩
          rcases hj4 with rfl | rfl | rfl | rfl <;> omega
        rw [hjw.2.1, hjw.2.2]
        obtain ⟨r, B1, L1, M1, a1, a2, a3⟩ := mtail_v h hc hTM h3 h4 hb hj hw (a := j * w) (e := j * w + w) (pe := nI (j * w + w) - 1) (by omega) (by omega) (by rw [tsub (by rw [nI_ti (by omega), e1]; omega) (by rw [nI_ti (by omega), e1]; omega), nI_ti (by omega), e1])
        exact ⟨r, B1, L1, M1, L1, a1, a2, a3⟩
    · rw [w1, w2]
      exact ⟨_, _, _, _, _, rfl, rfl, hu⟩
  · rw [s1, s2]
    exact ⟨_, _, _, _, _, rfl, rfl, hu⟩
