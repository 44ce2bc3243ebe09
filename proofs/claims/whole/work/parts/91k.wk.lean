theorem prodb {x y : Int32} (hx : 0 ≤ x.toInt ∧ x.toInt ≤ 1000) (hy : 0 ≤ y.toInt ∧ y.toInt ≤ 1000) : (x * y).toInt = x.toInt * y.toInt ∧ 0 ≤ x.toInt * y.toInt ∧ x.toInt * y.toInt ≤ 1000000 := by
  have a : 0 ≤ x.toInt * y.toInt := Int.mul_nonneg hx.1 hy.1
  have b : x.toInt * y.toInt ≤ 1000 * 1000 := Int.mul_le_mul hx.2 hy.2 hy.1 (by omega)
  exact ⟨tmul (by omega) (by omega), a, by omega⟩
/-- the fractions' order: through a third -/
theorem frac3 {ga ca gb cb gc cc : Int} (ha : 0 < ca) (hb : 0 < cb) (hc : 0 < cc) (h1 : gb * ca ≤ ga * cb) (h2 : gc * cb ≤ gb * cc) : gc * ca ≤ ga * cc ∧ (gb * ca < ga * cb ∨ gc * cb < gb * cc → gc * ca < ga * cc) := by
  have k1 : gc * cb * ca ≤ gb * cc * ca := Int.mul_le_mul_of_nonneg_right h2 (by omega)
  have k2 : gb * ca * cc ≤ ga * cb * cc := Int.mul_le_mul_of_nonneg_right h1 (by omega)
  have e1 : gc * cb * ca = cb * (gc * ca) := by rw [Int.mul_comm gc cb, Int.mul_assoc]
  have e2 : gb * cc * ca = gb * ca * cc := by rw [Int.mul_assoc, Int.mul_comm cc ca, ← Int.mul_assoc]
  have e3 : ga * cb * cc = cb * (ga * cc) := by rw [Int.mul_comm ga cb, Int.mul_assoc]
  constructor
  · exact Int.le_of_mul_le_mul_left (by omega) hb
  · intro h
    have : cb * (gc * ca) < cb * (ga * cc) := by
      rcases h with h | h
      · have k3 : gb * ca * cc < ga * cb * cc := Int.mul_lt_mul_of_pos_right h hc
        omega
      · have k3 : gc * cb * ca < gb * cc * ca := Int.mul_lt_mul_of_pos_right h ha
        omega
    exact Int.lt_of_mul_lt_mul_left this (by omega)
theorem ahd.trans {V : RG} {a b c : Nat} (ha : 0 < (V 0 a).toInt) (hb : 0 < (V 0 b).toInt) (hc : 0 < (V 0 c).toInt) (h1 : ahd V a b) (h2 : ahd V b c) : ahd V a c := by
  unfold ahd at *
  rcases h1 with h1 | ⟨h1, h1'⟩ <;> rcases h2 with h2 | ⟨h2, h2'⟩
  · exact Or.inl ((frac3 ha hb hc (by omega) (by omega)).2 (Or.inl h1))
  · exact Or.inl ((frac3 ha hb hc (by omega) (by omega)).2 (Or.inl h1))
  · exact Or.inl ((frac3 ha hb hc (by omega) (by omega)).2 (Or.inr h2))
  · have k := (frac3 (ga := (V 1 a).toInt) (gb := (V 1 b).toInt) (gc := (V 1 c).toInt) ha hb hc (by omega) (by omega)).1
    by_cases hlt : (V 1 c).toInt * (V 0 a).toInt < (V 1 a).toInt * (V 0 c).toInt
    · exact Or.inl hlt
    · exact Or.inr ⟨by omega, by omega⟩
theorem ahd.asym {V : RG} {a b : Nat} (h1 : ahd V a b) (h2 : ahd V b a) : False := by
  unfold ahd at *
  omega
theorem worse_v {V : RG} {a b : Nat} (ha : a < 14) (hb : b < 14) (a0 : 0 ≤ (V 0 a).toInt ∧ (V 0 a).toInt ≤ 1000) (b0 : 0 ≤ (V 0 b).toInt ∧ (V 0 b).toInt ≤ 1000) (a1 : 0 ≤ (V 1 a).toInt ∧ (V 1 a).toInt ≤ 1000) (b1' : 0 ≤ (V 1 b).toInt ∧ (V 1 b).toInt ≤ 1000) : f_X3_isWorse V (nI a) (nI b) = some (if (V 1 a).toInt * (V 0 b).toInt ≤ (V 1 b).toInt * (V 0 a).toInt then 0 else 1) := by
  unfold f_X3_isWorse
  rw [gd_i ha (by omega), gd_i hb (by omega), gd_i hb (by omega), gd_i ha (by omega), nI_cl (by omega), nI_cl (by omega)]
  by_cases c : (V 1 a).toInt * (V 0 b).toInt ≤ (V 1 b).toInt * (V 0 a).toInt
  · rw [if_pos c, if_pos (by rw [ile, (prodb a1 b0).1, (prodb b1' a0).1]; exact c)]
  · rw [if_neg c, if_neg (by rw [ile, (prodb a1 b0).1, (prodb b1' a0).1]; exact c)]
/-- the insertion -/
def insP (w : Nat) (V0 : RG) (o : Nat → Nat) (V' : RG) (p : Nat) : Prop := p ≤ w ∧ (∀ g, g ≠ 4 → g ≠ 5 → V' g = V0 g) ∧ V' 5 0 = nI (w + 1) ∧ (∀ k, k < p → V' 4 k = V0 4 k) ∧ V' 4 p = nI w ∧ (∀ k, p ≤ k → k < w → V' 4 (k + 1) = V0 4 k) ∧ (∀ k, p ≤ k → k < w → ahd V0 w (o k)) ∧ (∀ k, k < p → ahd V0 (o k) w)
theorem insF_v {w : Nat} {V0 : RG} {o : Nat → Nat} (hw : w < 14) (h5 : V0 5 0 = nI w) (p0 p1 : Int32) (i : Nat) (V : RG) (hi : i ≤ w) (r1 : ∀ g, g ≠ 4 → V g = V0 g) (r2 : ∀ k, k < i → V 4 k = V0 4 k) (r3 : ∀ k, i ≤ k → k < w → V 4 (k + 1) = V0 4 k) (r4 : ∀ k, i ≤ k → k < w → ahd V0 w (o k)) (r5 : ∀ k, k < i → ahd V0 (o k) w) : ∃ V' p, f_X3_add_J116 p0 p1 (nI w) (nI i) V = some (nI w, V') ∧ insP w V0 o V' p := by
  unfold f_X3_add_J116
  rw [gd_i (by omega) (by omega), nI_cl (by omega), ltt_v, ltt_v]
  have q4 : st (st V 4 i (nI w)) 5 0 ((st V 4 i (nI w)) 5 0 + 1) 4 = upd (V 4) i (nI w) := by rw [st_ne _ _ _ (by omega), st_same]
  refine ⟨_, i, rfl, hi, ?_, ?_, ?_, ?_, ?_, r4, r5⟩
  · intro g h4 h5
    rw [st_ne _ _ _ h5, st_ne _ _ _ h4, r1 g h4]
  · rw [st_same, pk_us, st_ne _ _ _ (by omega), r1 5 (by omega), h5, nI_s1]
  · intro k hk
    rw [q4, pk_un (by omega), r2 k hk]
  · rw [q4, pk_us]
  · intro k hk hk'
    rw [q4, pk_un (by omega), r3 k hk hk']
theorem ins_v {w : Nat} {V0 : RG} {o : Nat → Nat} (hw : w < 14) (hc : ∀ k, k ≤ w → 1 ≤ (V0 0 k).toInt ∧ (V0 0 k).toInt ≤ 1000) (hg : ∀ k, k ≤ w → 0 ≤ (V0 1 k).toInt ∧ (V0 1 k).toInt ≤ 1000) (h4 : ∀ k, k < w → o k < w ∧ V0 4 k = nI (o k)) (h5 : V0 5 0 = nI w)
    (hs : ∀ k k', k < k' → k' < w → ahd V0 (o k) (o k')) (p0 p1 : Int32) : ∀ (i fuel : Nat) (V : RG), i ≤ w → i < fuel → (∀ g, g ≠ 4 → V g = V0 g) → (∀ k, k < i → V 4 k = V0 4 k) → (∀ k, i ≤ k → k < w → V 4 (k + 1) = V0 4 k) → (∀ k, i ≤ k → k < w → ahd V0 w (o k)) → ∃ V' p, f_X3_add_L72 p0 p1 fuel (nI w) (nI i) V = some (nI w, V') ∧ insP w V0 o V' p := by
  intro i
  induction i with
  | zero =>
    intro fuel V hi hf r1 r2 r3 r4
    obtain ⟨f, rfl⟩ : ∃ f, fuel = f + 1 := ⟨fuel - 1, by omega⟩
    rw [f_X3_add_L72, if_pos (show nI 0 ≤ (0 : Int32) by decide)]
    exact insF_v hw h5 p0 p1 0 V hi r1 r2 r3 r4 (fun k hk => absurd hk (by omega))
  | succ i ih =>
    intro fuel V hi hf r1 r2 r3 r4
    obtain ⟨f, rfl⟩ : ∃ f, fuel = f + 1 := ⟨fuel - 1, by omega⟩
    obtain ⟨hj, hj4⟩ := h4 i (by omega)
    have z0i : (0 : Int32).toInt = 0 := rfl
    have hv4 : V 4 i = nI (o i) := by rw [r2 i (by omega), hj4]
    have e0 : V 0 = V0 0 := r1 0 (by omega)
    have e1 : V 1 = V0 1 := r1 1 (by omega)
    have cw := hc w (by omega)
    have gw := hg w (by omega)
    have cj := hc (o i) (by omega)
    have gj := hg (o i) (by omega)
    rw [f_X3_add_L72, if_neg (by rw [ile, nI_ti (by omega), z0i]; omega), nI_p1 (by omega), Nat.add_sub_cancel, gd_i (by omega) (by omega), nI_cl (by omega), hv4, worse_v (by omega) (by omega) (by rw [e0]; omega) (by rw [e0]; omega) (by rw [e1]; omega) (by rw [e1]; omega), b1_v, e0, e1]
    by_cases c : (V0 1 w).toInt * (V0 0 (o i)).toInt ≤ (V0 1 (o i)).toInt * (V0 0 w).toInt
    · rw [if_pos c, if_pos rfl]
      have hjw : ahd V0 (o i) w := by
        unfold ahd
        omega
      refine insF_v hw h5 p0 p1 (i + 1) V hi r1 r2 r3 r4 ?_
      intro k hk
      by_cases hki : k = i
      · rw [hki]; exact hjw
      · have hkk := hs k i (by omega) (by omega)
        have ck := hc (o k) (by have := (h4 k (by omega)).1; omega)
        exact hkk.trans (by omega) (by omega) (by omega) hjw
    · rw [if_neg c, if_neg (by decide), gd_i (by omega) (by omega), gd_i (by omega) (by omega), nI_cl (by omega), ltt_v, pk_m1, ltt_v]
      refine ih f (st V 4 (i + 1) (nI (o i))) (by omega) (by omega) ?_ ?_ ?_ ?_
      · intro g hg
        rw [st_ne _ _ _ hg, r1 g hg]
      · intro k hk
        rw [st_same, pk_un (by omega), r2 k (by omega)]
      · intro k hk hk'
        rw [st_same]
        by_cases hki : k = i
        · rw [hki, pk_us, hj4]
        · rw [pk_un (by omega), r3 k (by omega) hk']
      · intro k hk hk'
        by_cases hki : k = i
        · rw [hki]
          unfold ahd
          omega
        · exact r4 k (by omega) hk'
theorem sumN_eq {f g : Nat → Int32} : ∀ k, (∀ i, i < k → f i = g i) → sumN f k = sumN g k := by
  intro k
  induction k with
  | zero => intro _; rfl
  | succ k ih =>
    intro h
    rw [sumN, sumN, ih (fun i hi => h i (by omega)), h k (by omega)]
theorem eq_work : EQ_work := by
  intro c B L R T U V M Lm hc h p0 p1
  have hu := h.up
  obtain ⟨⟨w, hV⟩, hVM⟩ := h.2.2.2.1
  obtain ⟨v5, w14, vc, vg, vs, o, o1, o2, o3⟩ := id hV
  obtain ⟨m0, m1, m5⟩ := id hVM
  have z0i : (0 : Int32).toInt = 0 := rfl
  have e1 : (1 : Int32).toInt = 1 := rfl
  have eK : (1000 : Int32).toInt = 1000 := by decide
  unfold f_X4_work f_X5_work
  rcases win p0 1 1000 with ⟨hw0, a1, a2⟩ | ⟨hw0, a1, a2⟩
  · rcases win p1 0 1000 with ⟨hw1, b1, b2⟩ | ⟨hw1, b1, b2⟩
    · rw [a1, a2, b1, b2]
      rw [e1, eK] at hw0
      rw [z0i, eK] at hw1
      simp only [b1_v, lq10, if_false]
      have e14 : (14 : Int32) = nI 14 := rfl
      rw [← m5, v5]
      by_cases hf : w = 14
      · subst hf
        rw [if_neg (by decide), if_pos (by decide)]
        exact ⟨_, _, _, rfl, rfl, hu⟩
      · have hw : w < 14 := by omega
        rw [if_pos (by rw [e14, nI_ltI (by omega) (by omega)]; omega), if_neg (by
          rw [ieq, e14, nI_ti (by omega), nI_ti (by omega)]; omega)]
        -- the model
        have r17 : ∀ x, st M 18 w x 17 0 = nI w := fun x => by rw [st_ne _ _ _ (by omega), ← m5, v5]
        have r17' : ∀ x y, st (st M 18 w x) 19 w y 17 0 = nI w := fun x y => by rw [st_ne _ _ _ (by omega), r17]
        have r17'' : ∀ x y z, st (st (st M 18 w x) 19 w y) 17 0 z 17 0 = z := fun x y z => by rw [st_same, pk_us]
        have hback : nI w + 1 - 1 = nI w := by rw [nI_s1, nI_p1 (by omega), Nat.add_sub_cancel]
        rw [gd_i hw (by omega), nI_cl (by omega), ltt_v, r17, gd_i hw (by omega), nI_cl (by omega), ltt_v, r17', ltt_v, r17'', hback]
        -- the class: the sums
        obtain ⟨V1, g1, g2, g3⟩ : ∃ V1, f_X3_add V p0 p1 = f_X3_add_J69 p0 p1 (nI w) V1 ∧ (V1 0 = upd (V 0) w p0 ∧ V1 1 = upd (V 1) w p1 ∧ V1 4 = V 4 ∧ V1 5 = V 5) ∧ (∀ k, k < w + 1 ∨ k = 0 → (V1 2 k).toInt = sumN (V1 0) k ∧ (V1 3 k).toInt = sumN (V1 1) k) := by
          unfold f_X3_add
          rw [v5, ltt_v, gd_i hw (by omega), nI_cl (by omega), ltt_v, gd_i hw (by omega), ltt_v]
          have s0 : ∀ k, k ≤ w → sumN (upd (V 0) w p0) k = sumN (V 0) k := fun k hk => sumN_eq k (fun i hi => pk_un (by omega))
          have s1 : ∀ k, k ≤ w → sumN (upd (V 1) w p1) k = sumN (V 1) k := fun k hk => sumN_eq k (fun i hi => pk_un (by omega))
          by_cases hw0' : w = 0
          · subst hw0'
            rw [if_pos (by decide)]
            refine ⟨_, rfl, ⟨rfl, rfl, rfl, rfl⟩, ?_⟩
            intro k hk
            have hk0 : k = 0 := by omega
            subst hk0
            have := vs 0 (Or.inr rfl)
            exact this
          · have hpos : 0 < w := by omega
            rw [if_neg (by rw [ile, nI_ti (by omega), z0i]; omega), nI_p1 hpos, gd_i (by omega) (by omega), gd_i (by omega) (by omega), gd_i hw (by omega), ltt_v, gd_i (by omega) (by omega), gd_i (by omega) (by omega), gd_i hw (by omega), ltt_v, nI_cl (by omega)]
            have x0 : st (st V 0 w p0) 1 w p1 0 (w - 1) = V 0 (w - 1) := by rw [st_ne _ _ _ (by omega), st_same, pk_un (by omega)]
            have x1 : ∀ z, st (st (st V 0 w p0) 1 w p1) 2 w z 1 (w - 1) = V 1 (w - 1) := fun z => by rw [st_ne _ _ _ (by omega), st_same, pk_un (by omega), st_ne _ _ _ (by omega)]
            have x2 : st (st V 0 w p0) 1 w p1 2 (w - 1) = V 2 (w - 1) := by rw [st_ne _ _ _ (by omega), st_ne _ _ _ (by omega)]
            have x3 : ∀ z, st (st (st V 0 w p0) 1 w p1) 2 w z 3 (w - 1) = V 3 (w - 1) := fun z => by rw [st_ne _ _ _ (by omega), st_ne _ _ _ (by omega), st_ne _ _ _ (by omega)]
            rw [x0, x1, x2, x3]
            obtain ⟨y2, hy2⟩ : ∃ y, y = V 2 (w - 1) + V 0 (w - 1) := ⟨_, rfl⟩
            obtain ⟨y3, hy3⟩ : ∃ y, y = V 3 (w - 1) + V 1 (w - 1) := ⟨_, rfl⟩
            rw [← hy2, ← hy3]
            have q0 : st (st (st (st V 0 w p0) 1 w p1) 2 w y2) 3 w y3 0 = upd (V 0) w p0 := by rw [st_ne _ _ _ (by omega), st_ne _ _ _ (by omega), st_ne _ _ _ (by omega), st_same]
            have q1 : st (st (st (st V 0 w p0) 1 w p1) 2 w y2) 3 w y3 1 = upd (V 1) w p1 := by rw [st_ne _ _ _ (by omega), st_ne _ _ _ (by omega), st_same, st_ne _ _ _ (by omega)]
            have q2 : st (st (st (st V 0 w p0) 1 w p1) 2 w y2) 3 w y3 2 = upd (V 2) w y2 := by rw [st_ne _ _ _ (by omega), st_same, st_ne _ _ _ (by omega), st_ne _ _ _ (by omega)]
            have q3 : st (st (st (st V 0 w p0) 1 w p1) 2 w y2) 3 w y3 3 = upd (V 3) w y3 := by rw [st_same, st_ne _ _ _ (by omega), st_ne _ _ _ (by omega), st_ne _ _ _ (by omega)]
            refine ⟨_, rfl, ⟨q0, q1, by rw [st_ne _ _ _ (by omega), st_ne _ _ _ (by omega), st_ne _ _ _ (by omega), st_ne _ _ _ (by omega)], by rw [st_ne _ _ _ (by omega), st_ne _ _ _ (by omega), st_ne _ _ _ (by omega), st_ne _ _ _ (by omega)]⟩, ?_⟩
            have vc' : ∀ k, k < w → 0 ≤ (V 0 k).toInt ∧ (V 0 k).toInt ≤ 1000 := fun k hk => by have := vc k hk; omega
            intro k hk
            rw [q0, q1, q2, q3, s0 k (by omega), s1 k (by omega)]
            by_cases hkw : k = w
            · rw [hkw, pk_us, pk_us]
              obtain ⟨k2, k3⟩ := vs (w - 1) (Or.inl (by omega))
              have b2' := sumN_bd vc' (w - 1) (by omega)
              have b3' := sumN_bd vg (w - 1) (by omega)
              have c2 := vc' (w - 1) (by omega)
              have c3 := vg (w - 1) (by omega)
              obtain ⟨w', hw'⟩ : ∃ w', w = w' + 1 := ⟨w - 1, by omega⟩
              subst hw'
              rw [Nat.add_sub_cancel] at *
              rw [sumN, sumN, hy2, hy3, tadd (by omega) (by omega), tadd (by omega) (by omega)]
              omega
            · rw [pk_un hkw, pk_un hkw]
              exact vs k (by omega)
        obtain ⟨g20, g21, g24, g25⟩ := g2
        have hlow0 : ∀ k, k < w → V1 0 k = V 0 k := fun k hk => by rw [g20, pk_un (by omega)]
        have hlow1 : ∀ k, k < w → V1 1 k = V 1 k := fun k hk => by rw [g21, pk_un (by omega)]
        have hc1 : ∀ k, k < w + 1 → 1 ≤ (V1 0 k).toInt ∧ (V1 0 k).toInt ≤ 1000 := by
          intro k hk
          by_cases hkw : k = w
          · rw [hkw, g20, pk_us]; exact hw0
          · rw [hlow0 k (by omega)]; exact vc k (by omega)
        have hg1 : ∀ k, k < w + 1 → 0 ≤ (V1 1 k).toInt ∧ (V1 1 k).toInt ≤ 1000 := by
          intro k hk
          by_cases hkw : k = w
          · rw [hkw, g21, pk_us]; exact hw1
          · rw [hlow1 k (by omega)]; exact vg k (by omega)
        have hs1 : ∀ k k', k < k' → k' < w → ahd V1 (o k) (o k') := by
          intro k k' hk hk'
          have := o3 k k' hk hk'
          unfold ahd at *
          rw [hlow0 _ (o1 k (by omega)).1, hlow0 _ (o1 k' hk').1, hlow1 _ (o1 k (by omega)).1, hlow1 _ (o1 k' hk').1]
          exact this
        obtain ⟨V2, p, n1, n2⟩ := ins_v hw (fun k hk => hc1 k (by omega)) (fun k hk => hg1 k (by omega)) (fun k hk => by rw [g24]; exact o1 k hk) (by rw [g25]; exact v5) hs1 p0 p1 w 64 V1 (by omega) (by omega) (fun _ _ => rfl) (fun _ _ => rfl) (fun k hk hk' => absurd hk' (by omega)) (fun k hk hk' => absurd hk' (by omega))
        obtain ⟨p1', i1, i2, i3, i4, i5, i6, i7⟩ := n2
        rw [g1]
        unfold f_X3_add_J69
        rw [n1, b2_v]
        have rV0 : V2 0 = V1 0 := i1 0 (by omega) (by omega)
        have rV1 : V2 1 = V1 1 := i1 1 (by omega) (by omega)
        have rV2 : V2 2 = V1 2 := i1 2 (by omega) (by omega)
        have rV3 : V2 3 = V1 3 := i1 3 (by omega) (by omega)
        have hah : ∀ a b, ahd V1 a b → ahd V2 a b := by
          intro a b q
          unfold ahd at *
          rw [rV0, rV1]; exact q
        refine ⟨nI w, V2, _, rfl, rfl, ?_⟩
        have hVI : VIr (w + 1) V2 := by
          refine ⟨i2, by omega, by rw [rV0]; exact hc1, by rw [rV1]; exact hg1, by rw [rV0, rV1, rV2, rV3]; exact g3, fun k => if k < p then o k else if k = p then w else o (k - 1), ?_, ?_, ?_⟩
          · intro k hk
            by_cases c1 : k < p
            · have := o1 k (by omega)
              simp only [if_pos c1]
              exact ⟨by omega, by rw [i3 k c1, g24]; exact this.2⟩
            · by_cases c2 : k = p
              · subst c2
                simp only [if_neg c1, if_true]
                exact ⟨by omega, i4⟩
              · have := o1 (k - 1) (by omega)
                simp only [if_neg c1, if_neg c2]
                have hk1 : k = (k - 1) + 1 := by omega
                refine ⟨by omega, ?_⟩
                have i5' := i5 (k - 1) (by omega) (by omega)
                rw [← hk1] at i5'
                rw [i5', g24]; exact this.2
          · intro j hj
            by_cases hjw : j = w
            · exact ⟨p, by omega, by simp only [if_neg (Nat.lt_irrefl p), if_true]; exact hjw.symm⟩
            · obtain ⟨k, hk, hkj⟩ := o2 j (by omega)
              by_cases c1 : k < p
              · exact ⟨k, by omega, by simp only [if_pos c1]; exact hkj⟩
              · exact ⟨k + 1, by omega, by simp only [if_neg (show ¬ k + 1 < p by omega), if_neg (show ¬ k + 1 = p by omega), Nat.add_sub_cancel]; exact hkj⟩
          · intro k k' hk hk'
            apply hah
            by_cases c1 : k' < p
            · simp only [if_pos c1, if_pos (show k < p by omega)]
              exact hs1 k k' hk (by omega)
            · by_cases c2 : k' = p
              · subst c2
                simp only [if_neg c1, if_true, if_pos hk]
                exact i7 k hk
              · simp only [if_neg c1, if_neg c2]
                by_cases c3 : k < p
                · simp only [if_pos c3]
                  exact hs1 k (k' - 1) (by omega) (by omega)
                · by_cases c4 : k = p
                  · subst c4
                    simp only [if_neg c3, if_true]
                    exact i6 (k' - 1) (by omega) (by omega)
                  · simp only [if_neg c3, if_neg c4]
                    exact hs1 (k - 1) (k' - 1) (by omega) (by omega)
        obtain ⟨⟨n, ⟨t1, t2, t3, t4, t5, t6, t7, t8⟩, ti⟩, ⟨r1, r2, r3, r4⟩, ⟨u1, u2, u3⟩, -, ⟨x1, x2, x3, x4⟩, hl⟩ := hu
        have hg : ∀ g, g ≠ 17 → g ≠ 18 → g ≠ 19 → st (st (st M 18 w p0) 19 w p1) 17 0 (nI w + 1) g = M g := fun g a b d => by rw [st_ne _ _ _ a, st_ne _ _ _ d, st_ne _ _ _ b]
        refine ⟨⟨n, ⟨t1, ?_, ?_, ?_, ?_, ?_, ?_, ?_⟩, ti⟩, ⟨?_, ?_, ?_, r4⟩, ⟨?_, ?_, u3⟩, ⟨⟨w + 1, hVI⟩, ?_, ?_, ?_⟩, ⟨?_, ?_, ?_, x4⟩, hl⟩
        · rw [hg 3 (by omega) (by omega) (by omega)]; exact t2
        · rw [hg 4 (by omega) (by omega) (by omega)]; exact t3
        · rw [hg 5 (by omega) (by omega) (by omega)]; exact t4
        · rw [hg 6 (by omega) (by omega) (by omega)]; exact t5
        · rw [hg 7 (by omega) (by omega) (by omega)]; exact t6
        · rw [hg 8 (by omega) (by omega) (by omega)]; exact t7
        · rw [hg 9 (by omega) (by omega) (by omega)]; exact t8
        · rw [hg 12 (by omega) (by omega) (by omega)]; exact r1
        · rw [hg 13 (by omega) (by omega) (by omega)]; exact r2
        · rw [hg 11 (by omega) (by omega) (by omega)]; exact r3
        · intro r' i' hr' hi'
          rw [hg 15 (by omega) (by omega) (by omega)]; exact u1 r' i' hr' hi'
        · rw [hg 14 (by omega) (by omega) (by omega)]; exact u2
        · rw [rV0, g20, st_ne _ _ _ (by omega), st_ne _ _ _ (by omega), st_same, m0]
        · rw [rV1, g21, st_ne _ _ _ (by omega), st_same, st_ne _ _ _ (by omega), m1]
        · rw [i2, r17'', nI_s1]
        · rw [hg 10 (by omega) (by omega) (by omega)]; exact x1
        · rw [hg 1 (by omega) (by omega) (by omega)]; exact x2
        · rw [hg 0 (by omega) (by omega) (by omega)]; exact x3
    · rw [a1, a2, b1, b2]
      exact ⟨_, _, _, rfl, rfl, hu⟩
  · rw [a1, a2]
    exact ⟨_, _, _, rfl, rfl, hu⟩
