/-- what a reference's row that no sleeper's call touches stays -/
def MO (M M' : RG) : Prop := ∀ g, g ≠ 5 → g ≠ 6 → g ≠ 7 → g ≠ 8 → M' g = M g
theorem MO.refl (M : RG) : MO M M := fun _ _ _ _ _ => rfl
theorem MO.trans {M M' M'' : RG} (h : MO M M') (k : MO M' M'') : MO M M'' := fun g a b c d => (k g a b c d).trans (h g a b c d)
theorem Rel.ofMO {c n : Nat} {B : RG} {L : Int64} {R T U V M T' M' : RG} {Lm : Int64} (h : Rel (c + 1) B L R T U V M Lm) (ho : MO M M') (h1 : TMr n T' M') (h2 : TIr n (10000 + 80000 * ((c + 1 : Nat) : Int)) T') : Rel (c + 1) B L R T' U V M' Lm := by
  obtain ⟨-, ⟨r1, r2, r3, r4⟩, ⟨u1, u2, u3⟩, ⟨v0, v1, v2, v3⟩, ⟨b1, b2, b3, b4⟩, hl⟩ := h
  have q : ∀ g, g ≠ 5 → g ≠ 6 → g ≠ 7 → g ≠ 8 → M' g = M g := ho
  refine ⟨⟨n, h1, h2⟩, ⟨?_, ?_, ?_, r4⟩, ⟨?_, ?_, u3⟩, ⟨v0, ?_, ?_, ?_⟩, ⟨?_, ?_, ?_, b4⟩, hl⟩
  · rw [q 12 (by omega) (by omega) (by omega) (by omega)]; exact r1
  · rw [q 13 (by omega) (by omega) (by omega) (by omega)]; exact r2
  · rw [q 11 (by omega) (by omega) (by omega) (by omega)]; exact r3
  · rw [q 15 (by omega) (by omega) (by omega) (by omega)]; exact u1
  · rw [q 14 (by omega) (by omega) (by omega) (by omega)]; exact u2
  · rw [q 18 (by omega) (by omega) (by omega) (by omega)]; exact v1
  · rw [q 19 (by omega) (by omega) (by omega) (by omega)]; exact v2
  · rw [q 17 (by omega) (by omega) (by omega) (by omega)]; exact v3
  · rw [q 10 (by omega) (by omega) (by omega) (by omega)]; exact b1
  · rw [q 1 (by omega) (by omega) (by omega) (by omega)]; exact b2
  · rw [q 0 (by omega) (by omega) (by omega) (by omega)]; exact b3
theorem lift_v {n : Nat} {bd : Int} (hb0 : 10000 ≤ bd) (hb : bd ≤ 41000000) {b : Nat} (hbn : b < n) (p0 : Int32) {p1 h : Int32} (hp1 : p1 = nI b) (hh : -10000 ≤ h.toInt ∧ h.toInt ≤ 10000) : ∀ (q a fuel fuel' : Nat) (x : Int32) (T M : RG), a + q = b + 1 → q < fuel → q < fuel' → TMr n T M → TIr n bd T → ∃ r T' M', f_X4_lift_L48 p0 p1 h fuel x (nI a) T = some (r, T') ∧ f_X5_lift_L42 p0 p1 h fuel' x (nI a) M = some (r, M') ∧ TMr n T' M' ∧ TIr n bd T' ∧ MO M M' := by
  intro q
  induction q with
  | zero =>
    intro a fuel fuel' x T M h1 h2 h3 hTM hTI
    obtain ⟨f, rfl⟩ : ∃ f, fuel = f + 1 := ⟨fuel - 1, by omega⟩
    obtain ⟨f', rfl⟩ : ∃ f, fuel' = f + 1 := ⟨fuel' - 1, by omega⟩
    have h4 := hTI.1.2
    have hlt : p1 < nI a := by rw [hp1, nI_ltI (by omega) (by omega)]; omega
    rw [f_X4_lift_L48, f_X5_lift_L42, if_pos hlt, if_pos hlt]
    exact ⟨x, T, M, rfl, rfl, hTM, hTI, MO.refl M⟩
  | succ q ih =>
    intro a fuel fuel' x T M h1 h2 h3 hTM hTI
    obtain ⟨f, rfl⟩ : ∃ f, fuel = f + 1 := ⟨fuel - 1, by omega⟩
    obtain ⟨f', rfl⟩ : ∃ f, fuel' = f + 1 := ⟨fuel' - 1, by omega⟩
    obtain ⟨⟨k3, k4⟩, kk, kb, ks, kh, kl, kc⟩ := id hTI
    obtain ⟨hT7, hM3, e0, e1, e2, e3, e4, e5⟩ := id hTM
    have ha : a < n := by omega
    have hlt : ¬ p1 < nI a := by rw [hp1, nI_ltI (by omega) (by omega)]; omega
    have g : ∀ {α : Type} (y : Option α), gd (inb (nI a) 40) y = y := fun y => gd_i (by omega) (by omega)
    have cl := nI_cl (j := a) (by omega)
    rw [f_X4_lift_L48, f_X5_lift_L42, if_neg hlt, if_neg hlt]
    unfold f_X1_raise
    rw [stands_n k3 k4 hT7 ha, b1_v]
    simp only [g, cl, ltt_v, f_X4_lift_J70, f_X5_lift_J119, f_X5_lift_J115, nI_s1, ← e5]
    by_cases hl : T 5 a = 0
    · rw [if_pos hl, if_pos hl, if_neg (by decide)]
      by_cases hlo : T 1 a < h
      · have hlo' : ¬ h ≤ M 5 a := by rw [← e1, ile]; rw [ilt] at hlo; omega
        obtain ⟨T1, g1, g2, g3, g4, g5⟩ := put_bed hTM hTI (bd' := bd) (by omega) hb ha (v := h) ⟨by omega, hh.2⟩
        obtain ⟨w1, w2⟩ := put_row g4 g5 hb (j := a) (f := 3) (fm := 7) (v := 0) (Or.inr (Or.inr (Or.inl ⟨rfl, rfl, by decide, by decide⟩)))
        have hst := ks a (by omega)
        have e1i : (1 : Int32).toInt = 1 := rfl
        have es1 : (T 2 a - (1 : Int32)).toInt = (T 2 a).toInt - 1 := by rw [tsub (by rw [e1i]; omega) (by rw [e1i]; omega), e1i]
        obtain ⟨v, hv1, hv2, hv3⟩ : ∃ v : Int32, (if (1 : Int32) < T 2 a - (1 : Int32) then T 2 a - (1 : Int32) else (1 : Int32)) = v ∧ (1 ≤ v.toInt ∧ v.toInt ≤ 9) ∧ v = (if T 2 a ≤ (1 : Int32) then (1 : Int32) else T 2 a - (1 : Int32)) := by
          by_cases c1 : (1 : Int32) < T 2 a - (1 : Int32)
          · refine ⟨_, rfl, ?_, ?_⟩
            · rw [if_pos c1, es1]; rw [ilt, e1i, es1] at c1; omega
            · rw [if_pos c1, if_neg (by rw [ile, e1i]; rw [ilt, e1i, es1] at c1; omega)]
          · refine ⟨_, rfl, ?_, ?_⟩
            · rw [if_neg c1, e1i]; omega
            · rw [if_neg c1]
              by_cases c2 : T 2 a ≤ (1 : Int32)
              · rw [if_pos c2]
              · rw [if_neg c2, ieq, es1, e1i]
                rw [ilt, e1i, es1] at c1
                rw [ile, e1i] at c2
                omega
        obtain ⟨y1, y2⟩ := put_row w1 w2 hb (j := a) (f := 2) (fm := 6) (v := v) (Or.inr (Or.inl ⟨rfl, rfl, hv2.1, hv2.2⟩))
        have r2 : st T1 3 a 0 2 a = T 2 a := by
          show T1 2 a = T 2 a
          rw [g2 2 (by omega) (by omega)]
        have r6 : st (st M 5 a h) 7 a 0 6 a = T 2 a := by
          show M 6 a = T 2 a
          rw [e2]
        rw [if_pos hlo, if_neg hlo', g1]
        simp only [b1_v, b2_v, r2, r6, hv1, lq10, if_false]
        have ho : MO M (st (st (st M 5 a h) 7 a 0) 6 a v) := fun gg a5 a6 a7 _ => by rw [st_ne _ _ _ a6, st_ne _ _ _ a7, st_ne _ _ _ a5]
        obtain ⟨r, T', M', m1, m2, m3, m4, m5⟩ := ih (a + 1) f f' (x + 1) _ _ (by omega) (by omega) (by omega) y1 y2
        refine ⟨r, T', M', m1, ?_, m3, m4, ho.trans m5⟩
        rw [hv3] at m2
        by_cases c2 : T 2 a ≤ (1 : Int32)
        · rw [if_pos c2]; rw [if_pos c2] at m2; exact m2
        · rw [if_neg c2]; rw [if_neg c2] at m2; exact m2
      · have hlo' : h ≤ M 5 a := by rw [← e1, ile]; rw [ilt] at hlo; omega
        rw [if_neg hlo, if_pos hlo', b2_v, if_pos rfl]
        exact ih (a + 1) f f' x T M (by omega) (by omega) (by omega) hTM hTI
    · rw [if_neg hl, if_neg hl, if_pos rfl, b2_v, if_pos rfl]
      exact ih (a + 1) f f' x T M (by omega) (by omega) (by omega) hTM hTI
theorem eq_lift : EQ_lift := by
  intro c B L R T U V M Lm hc h p0 p1 p2
  have hu := h.up
  obtain ⟨⟨n, hTM, hTI⟩, hR, hU, hV, hB, hL⟩ := h
  obtain ⟨⟨h3, h4⟩, -⟩ := id hTI
  unfold f_X4_lift f_X5_lift
  by_cases i0 : okN n p0
  · rw [has_t h3 h4 hTM.1 i0, isS_t h3 h4 hTM.2.1 i0]
    by_cases i1 : okN n p1
    · rw [has_t h3 h4 hTM.1 i1, isS_t h3 h4 hTM.2.1 i1]
      simp only [b1_v, lq10, if_false]
      by_cases hlt : p1 < p0
      · rw [if_pos hlt, if_pos hlt]
        exact ⟨_, _, _, rfl, rfl, hu⟩
      · rw [if_neg hlt, if_neg hlt]
        have em : (-10000 : Int32).toInt = -10000 := by decide
        have ep : (10000 : Int32).toInt = 10000 := by decide
        rcases win p2 (-10000) 10000 with ⟨hw, w1, w2⟩ | ⟨hw, w1, w2⟩
        · rw [em, ep] at hw
          rw [w1, w2]
          simp only [b1_v, lq10, if_false]
          obtain ⟨a, ha, rfl⟩ := okN_nI i0 (by omega)
          obtain ⟨b, hb, rfl⟩ := okN_nI i1 (by omega)
          rw [nI_ltI (by omega) (by omega)] at hlt
          obtain ⟨r, T', M', m1, m2, m3, m4, m5⟩ := lift_v (bd := 10000 + 80000 * (c : Int)) (by omega) (bdc hc) hb (nI a) rfl hw (b + 1 - a) a 64 64 0 T M (by omega) (by omega) (by omega) hTM hTI
          exact ⟨r, T', M', m1, m2, hu.ofMO m5 m3 (m4.mono (bdu c))⟩
        · rw [w1, w2]
          exact ⟨_, _, _, rfl, rfl, hu⟩
    · rw [has_f h3 h4 hTM.1 i1, isS_f h3 h4 hTM.2.1 i1]
      exact ⟨_, _, _, rfl, rfl, hu⟩
  · rw [has_f h3 h4 hTM.1 i0, isS_f h3 h4 hTM.2.1 i0]
    exact ⟨_, _, _, rfl, rfl, hu⟩
/-- a chord -/
def chz (n : Nat) (T : RG) (i k : Nat) : Int32 := if k ≤ i ∧ i + k < n then (2 : Int32) * htv T i - htv T (i - k) - htv T (i + k) else 0
theorem subN {i k : Nat} (hi : i < 1000) (hk : k < 1000) : (nI i - nI k).toInt = (i : Int) - k := by
  rw [tsub (by rw [nI_ti (by omega), nI_ti (by omega)]; omega) (by rw [nI_ti (by omega), nI_ti (by omega)]; omega), nI_ti (by omega), nI_ti (by omega)]
theorem chord_v {n : Nat} {T : RG} (h3 : 3 ≤ n) (h4 : n ≤ 40) (hT : T 7 0 = nI n) (hb : bnd (T 1)) {i k : Nat} (hi : i < 40) (hk : 1 ≤ k) (hk4 : k ≤ 4) : f_X1_chord T (nI i) (nI k) = some (chz n T i k) := by
  unfold f_X1_chord chz
  by_cases c1 : k ≤ i ∧ i - k < n
  · rw [has_t h3 h4 hT (i := nI i - nI k) ⟨by rw [subN (by omega) (by omega)]; omega, by rw [subN (by omega) (by omega)]; omega⟩, b1_v, if_neg (by decide), nI_add]
    by_cases c2 : i + k < n
    · rw [has_t h3 h4 hT (okN_of c2 (by omega)), b1_v, if_neg (by decide), pk_sub c1.1, (htv_G h3 h4 hT hb (by omega : i < n)).1, (htv_G h3 h4 hT hb c1.2).1, (htv_G h3 h4 hT hb c2).1, if_pos ⟨c1.1, c2⟩]
      rfl
    · rw [has_f h3 h4 hT (i := nI (i + k)) (fun q => c2 (by have := q.2; rw [nI_ti (by omega)] at this; omega)), b1_v, if_pos rfl, if_neg (fun q => c2 q.2)]
  · rw [has_f h3 h4 hT (i := nI i - nI k) (fun q => c1 (by have := q.1; have := q.2; rw [subN (by omega) (by omega)] at *; omega)), b1_v, if_pos rfl, if_neg (fun q => c1 ⟨q.1, by omega⟩)]
theorem chordM_v {n : Nat} {T M : RG} (h3 : 3 ≤ n) (h4 : n ≤ 40) (hTM : TMr n T M) (hb : bnd (T 1)) {i k : Nat} (hi : i < n) (hk : 1 ≤ k) (hk4 : k ≤ 4) : f_X5_chordAt M (nI i) (nI k) = some (chz n T i k) := by
  obtain ⟨hT, hM, e0, e1, e2, e3, e4, e5⟩ := hTM
  unfold f_X5_chordAt chz
  by_cases c1 : k ≤ i
  · rw [isS_t h3 h4 hM (i := nI i - nI k) ⟨by rw [subN (by omega) (by omega)]; omega, by rw [subN (by omega) (by omega)]; omega⟩, b1_v, if_neg (by decide), nI_add]
    by_cases c2 : i + k < n
    · rw [isS_t h3 h4 hM (okN_of c2 (by omega)), b1_v, if_neg (by decide), pk_sub c1, railAt_v h3 h4 hT hM hb e1 e5 hi, railAt_v h3 h4 hT hM hb e1 e5 (by omega : i - k < n), railAt_v h3 h4 hT hM hb e1 e5 c2, if_pos ⟨c1, c2⟩]
      rfl
    · rw [isS_f h3 h4 hM (i := nI (i + k)) (fun q => c2 (by have := q.2; rw [nI_ti (by omega)] at this; omega)), b1_v, if_pos rfl, if_neg (fun q => c2 q.2)]
  · rw [isS_f h3 h4 hM (i := nI i - nI k) (fun q => c1 (by have := q.1; rw [subN (by omega) (by omega)] at this; omega)), b1_v, if_pos rfl, if_neg (fun q => c1 q.1)]
/-- behind a change of the runs alone -/
theorem MOu {M M' : RG} (h : ∀ g, g ≠ 14 → g ≠ 15 → g ≠ 16 → M' g = M g) {c : Nat} {B : RG} {L : Int64} {R T U V U' : RG} {Lm : Int64} (hr : Rel (c + 1) B L R T U V M Lm) (hU : UMr U' M') : Rel (c + 1) B L R T U' V M' Lm := by
  obtain ⟨⟨n, ⟨t1, t2, t3, t4, t5, t6, t7, t8⟩, ti⟩, ⟨r1, r2, r3, r4⟩, -, ⟨v0, v1, v2, v3⟩, ⟨b1, b2, b3, b4⟩, hl⟩ := hr
  refine ⟨⟨n, ⟨t1, ?_, ?_, ?_, ?_, ?_, ?_, ?_⟩, ti⟩, ⟨?_, ?_, ?_, r4⟩, hU, ⟨v0, ?_, ?_, ?_⟩, ⟨?_, ?_, ?_, b4⟩, hl⟩
  · rw [h 3 (by omega) (by omega) (by omega)]; exact t2
  · rw [h 4 (by omega) (by omega) (by omega)]; exact t3
  · rw [h 5 (by omega) (by omega) (by omega)]; exact t4
  · rw [h 6 (by omega) (by omega) (by omega)]; exact t5
  · rw [h 7 (by omega) (by omega) (by omega)]; exact t6
  · rw [h 8 (by omega) (by omega) (by omega)]; exact t7
  · rw [h 9 (by omega) (by omega) (by omega)]; exact t8
  · rw [h 12 (by omega) (by omega) (by omega)]; exact r1
  · rw [h 13 (by omega) (by omega) (by omega)]; exact r2
  · rw [h 11 (by omega) (by omega) (by omega)]; exact r3
  · rw [h 18 (by omega) (by omega) (by omega)]; exact v1
  · rw [h 19 (by omega) (by omega) (by omega)]; exact v2
  · rw [h 17 (by omega) (by omega) (by omega)]; exact v3
  · rw [h 10 (by omega) (by omega) (by omega)]; exact b1
  · rw [h 1 (by omega) (by omega) (by omega)]; exact b2
  · rw [h 0 (by omega) (by omega) (by omega)]; exact b3
theorem open_v {U M : RG} (hU : UMr U M) {r : Nat} (hr : r < 6) : ∃ w : Int32, f_X0_open U (nI r) = some (w, st U 6 r 1) ∧ UMr (st U 6 r 1) (st M 14 r 1) ∧ w = (if M 14 r = 0 then 0 else 1) := by
  obtain ⟨u1, u2, u3⟩ := hU
  unfold f_X0_open f_X0_open_J14
  have hn : vp_nar .boolean (1 : Int32) = 1 := rfl
  simp only [gd_i hr (by omega : 6 < 1000), nI_cl (by omega : r < 1000), ltt_v, hn]
  have hum : UMr (st U 6 r 1) (st M 14 r 1) := by
    refine ⟨fun r' i' hr' hi' => ?_, ?_, ?_⟩
    · rw [st_ne U r 1 (by omega : r' ≠ 6)]
      exact u1 r' i' hr' hi'
    · show upd (U 6) r 1 = upd (M 14) r 1
      rw [u2]
    · intro i
      show upd (U 6) r 1 i = 0 ∨ upd (U 6) r 1 i = 1
      by_cases hi : i = r
      · rw [hi, pk_us]; exact Or.inr rfl
      · rw [pk_un hi]; exact u3 i
  rw [← u2]
  by_cases hz : U 6 r = 0
  · rw [if_pos hz, if_pos hz]; exact ⟨0, rfl, hum, rfl⟩
  · rw [if_neg hz, if_neg hz]; exact ⟨1, rfl, hum, rfl⟩
theorem level_v {n : Nat} {T M0 : RG} (h3 : 3 ≤ n) (h4 : n ≤ 40) (hTM : TMr n T M0) (hb : bnd (T 1)) {r : Nat} (hr : r < 6) (w : Int32) : ∀ (q i fuel fuel' : Nat) (U M : RG), i + q = 40 → q < fuel → q < fuel' → UMr U M → (∀ g, g ≠ 14 → g ≠ 15 → g ≠ 16 → M g = M0 g) → ∃ U' M', f_X4_level_L20 T (nI r) fuel w (nI i) U = some (w, U') ∧ f_X5_level_L33 (nI r) fuel' w (nI i) M = some (w, M') ∧ UMr U' M' ∧ (∀ g, g ≠ 14 → g ≠ 15 → g ≠ 16 → M' g = M0 g) := by
  intro q
  have e40 : (40 : Int32) = nI 40 := rfl
  induction q with
  | zero =>
    intro i fuel fuel' U M h1 h2 h5 hU hM
    obtain ⟨f, rfl⟩ : ∃ f, fuel = f + 1 := ⟨fuel - 1, by omega⟩
    obtain ⟨f', rfl⟩ : ∃ f, fuel' = f + 1 := ⟨fuel' - 1, by omega⟩
    have hge : (40 : Int32) ≤ nI i := by rw [e40]; exact (nI_leI (by omega) (by omega)).mpr (by omega)
    rw [f_X4_level_L20, f_X5_level_L33, if_pos hge, if_pos hge]
    exact ⟨U, M, rfl, rfl, hU, hM⟩
  | succ q ih =>
    intro i fuel fuel' U M h1 h2 h5 hU hM
    obtain ⟨f, rfl⟩ : ∃ f, fuel = f + 1 := ⟨fuel - 1, by omega⟩
    obtain ⟨f', rfl⟩ : ∃ f, fuel' = f + 1 := ⟨fuel' - 1, by omega⟩
    have hlt : ¬ (40 : Int32) ≤ nI i := by rw [e40, nI_leI (by omega) (by omega)]; omega
    have hM3 : M 3 0 = nI n := by rw [hM 3 (by omega) (by omega) (by omega)]; exact hTM.2.1
    have e1 : T 1 = M 5 := by rw [hM 5 (by omega) (by omega) (by omega)]; exact hTM.2.2.2.1
    have e5 : T 5 = M 9 := by rw [hM 9 (by omega) (by omega) (by omega)]; exact hTM.2.2.2.2.2.2.2
    have next : ∀ v : Int32, ∃ U' M', f_X4_level_J59 T (nI r) (f_X4_level_L20 T (nI r) f) w (nI i) v (nI i) r U = some (w, U') ∧ f_X5_level_J66 (nI r) (f_X5_level_L33 (nI r) f') w (nI i) v ((40 : Int32) * nI r + nI i) M = some (w, M') ∧ UMr U' M' ∧ (∀ g, g ≠ 14 → g ≠ 15 → g ≠ 16 → M' g = M0 g) := by
      intro v
      rw [f_X4_level_J59, f_X5_level_J66, gd_i (by omega) (by omega), nI_cl (by omega), gdr hr (by omega), clr hr (by omega)]
      simp only [ltt_v, nI_s1]
      exact ih (i + 1) f f' _ _ (by omega) (by omega) (by omega) (hU.put hr (by omega) v) (fun g a b cc => by rw [st_ne _ _ _ b]; exact hM g a b cc)
    rw [f_X4_level_L20, f_X5_level_L33, if_neg hlt, if_neg hlt, gd_i hr (by omega), nI_cl (by omega), ltt_v, hM3]
    by_cases hin : i < n
    · rw [has_t h3 h4 hTM.1 (okN_of hin (by omega)), b1_v, if_neg (by decide), (htv_G h3 h4 hTM.1 hb hin).1, if_neg (by rw [nI_leI (by omega) (by omega)]; omega), railAt_v h3 h4 hTM.1 hM3 hb e1 e5 hin, b1_v, b1_v]
      exact next _
    · rw [has_f h3 h4 hTM.1 (i := nI i) (fun q => hin (by have := q.2; rw [nI_ti (by omega)] at this; omega)), b1_v, if_pos rfl, if_pos ((nI_leI (by omega) (by omega)).mpr (by omega))]
      exact next _
theorem eq_level : EQ_level := by
  intro c B L R T U V M Lm hc h p0
  have hu := h.up
  obtain ⟨⟨n, hTM, hTI⟩, hR, hU, hV, hB, hL⟩ := h
  have hbd := hTI.bnd (bdc hc)
  obtain ⟨⟨h3, h4⟩, -⟩ := id hTI
  unfold f_X4_level f_X5_level
  rcases run_ok p0 with ⟨h0, h1, h2⟩ | ⟨h0, h1, h2⟩
  · rw [h1, h2]
    obtain ⟨r, hr, rfl⟩ := okN_nI h0 (by omega)
    obtain ⟨w, o1, o2, o3⟩ := open_v hU hr
    rw [o1]
    have hn : vp_nar .boolean (1 : Int32) = 1 := rfl
    simp only [b1_v, b2_v, lq10, if_false, gd_i hr (by omega : 6 < 1000), nI_cl (by omega : r < 1000), f_X5_level_J23, ltt_v, hn]
    obtain ⟨U', M', k1, k2, k3, k4⟩ := level_v h3 h4 hTM hbd hr w 40 0 64 64 (st U 6 r 1) (st M 14 r 1) (by omega) (by omega) (by omega) o2 (fun g a b cc => st_ne _ _ _ a)
    have z : nI 0 = (0 : Int32) := rfl
    rw [z] at k1 k2
    refine ⟨w, U', M', k1, ?_, MOu k4 hu k3⟩
    rw [o3] at k2 ⊢
    by_cases hz : M 14 r = 0
    · rw [if_pos hz]; rw [if_pos hz] at k2 ⊢; exact k2
    · rw [if_neg hz]; rw [if_neg hz] at k2 ⊢; exact k2
  · rw [h1, h2]
    exact ⟨_, _, _, rfl, rfl, hu⟩
theorem measure_v {n : Nat} {T M0 : RG} (h3 : 3 ≤ n) (h4 : n ≤ 40) (hTM : TMr n T M0) (hb : bnd (T 1)) {r k : Nat} (hr : r < 6) (hk : 1 ≤ k) (hk4 : k ≤ 4) (w : Int32) : ∀ (q i fuel fuel' : Nat) (U M : RG), i + q = 40 → q < fuel → q < fuel' → UMr U M → (∀ g, g ≠ 14 → g ≠ 15 → g ≠ 16 → M g = M0 g) → ∃ U' M', f_X4_measure_L30 T (nI r) (nI k) fuel w (nI i) U = some (w, U') ∧ f_X5_measure_L43 (nI r) (nI k) fuel' w (nI i) M = some (w, M') ∧ UMr U' M' ∧ (∀ g, g ≠ 14 → g ≠ 15 → g ≠ 16 → M' g = M0 g) := by
  intro q
  have e40 : (40 : Int32) = nI 40 := rfl
  induction q with
  | zero =>
    intro i fuel fuel' U M h1 h2 h5 hU hM
    obtain ⟨f, rfl⟩ : ∃ f, fuel = f + 1 := ⟨fuel - 1, by omega⟩
    obtain ⟨f', rfl⟩ : ∃ f, fuel' = f + 1 := ⟨fuel' - 1, by omega⟩
    have hge : (40 : Int32) ≤ nI i := by rw [e40]; exact (nI_leI (by omega) (by omega)).mpr (by omega)
    rw [f_X4_measure_L30, f_X5_measure_L43, if_pos hge, if_pos hge]
    exact ⟨U, M, rfl, rfl, hU, hM⟩
  | succ q ih =>
    intro i fuel fuel' U M h1 h2 h5 hU hM
    obtain ⟨f, rfl⟩ : ∃ f, fuel = f + 1 := ⟨fuel - 1, by omega⟩
    obtain ⟨f', rfl⟩ : ∃ f, fuel' = f + 1 := ⟨fuel' - 1, by omega⟩
    have hlt : ¬ (40 : Int32) ≤ nI i := by rw [e40, nI_leI (by omega) (by omega)]; omega
    have q' : ∀ g, g ≠ 14 → g ≠ 15 → g ≠ 16 → M g = M0 g := hM
    have hM3 : M 3 0 = nI n := by rw [hM 3 (by omega) (by omega) (by omega)]; exact hTM.2.1
    have hTM' : TMr n T M := by
      obtain ⟨t1, t2, t3, t4, t5, t6, t7, t8⟩ := hTM
      exact ⟨t1, hM3, by rw [q' 4 (by omega) (by omega) (by omega)]; exact t3, by rw [q' 5 (by omega) (by omega) (by omega)]; exact t4, by rw [q' 6 (by omega) (by omega) (by omega)]; exact t5, by rw [q' 7 (by omega) (by omega) (by omega)]; exact t6, by rw [q' 8 (by omega) (by omega) (by omega)]; exact t7, by rw [q' 9 (by omega) (by omega) (by omega)]; exact t8⟩
    rw [f_X4_measure_L30, f_X5_measure_L43, if_neg hlt, if_neg hlt, gd_i hr (by omega), nI_cl (by omega), ltt_v, hM3, chord_v h3 h4 hTM.1 hb (by omega) hk hk4, b1_v, gd_i (by omega) (by omega), nI_cl (by omega)]
    have mod : (if nI n ≤ nI i then f_X5_measure_J81 (nI r) (nI k) (f_X5_measure_L43 (nI r) (nI k) f') w (nI i) (0 : Int32) ((40 : Int32) * nI r + nI i) M else b1 (f_X5_chordAt M (nI i) (nI k)) (fun r6 => f_X5_measure_J81 (nI r) (nI k) (f_X5_measure_L43 (nI r) (nI k) f') w (nI i) r6 ((40 : Int32) * nI r + nI i) M)) = f_X5_measure_J81 (nI r) (nI k) (f_X5_measure_L43 (nI r) (nI k) f') w (nI i) (chz n T i k) ((40 : Int32) * nI r + nI i) M := by
      by_cases hin : i < n
      · rw [if_neg (by rw [nI_leI (by omega) (by omega)]; omega), chordM_v h3 h4 hTM' hb hin hk hk4, b1_v]
      · rw [if_pos ((nI_leI (by omega) (by omega)).mpr (by omega))]
        unfold chz
        rw [if_neg (by omega)]
    rw [mod, f_X5_measure_J81, gdr hr (by omega), clr hr (by omega)]
    simp only [ltt_v, nI_s1]
    exact ih (i + 1) f f' _ _ (by omega) (by omega) (by omega) (hU.put hr (by omega) _) (fun g a b cc => by rw [st_ne _ _ _ b]; exact hM g a b cc)
theorem eq_measure : EQ_measure := by
  intro c B L R T U V M Lm hc h p0 p1
  have hu := h.up
  obtain ⟨⟨n, hTM, hTI⟩, hR, hU, hV, hB, hL⟩ := h
  have hbd := hTI.bnd (bdc hc)
  obtain ⟨⟨h3, h4⟩, -⟩ := id hTI
  unfold f_X4_measure f_X5_measure
  rcases run_ok p0 with ⟨h0, h1, h2⟩ | ⟨h0, h1, h2⟩
  · rw [h1, h2]
    obtain ⟨r, hr, rfl⟩ := okN_nI h0 (by omega)
    have em : (1 : Int32).toInt = 1 := rfl
    have ep : (4 : Int32).toInt = 4 := rfl
    rcases win p1 1 4 with ⟨hw, w1, w2⟩ | ⟨hw, w1, w2⟩
    · rw [em, ep] at hw
      rw [w1, w2]
      obtain ⟨k, hk, rfl⟩ := okN_nI (n := 5) (i := p1) ⟨by omega, by omega⟩ (by omega)
      rw [nI_ti (by omega)] at hw
      obtain ⟨w, o1, o2, o3⟩ := open_v hU hr
      rw [o1]
      have hn : vp_nar .boolean (1 : Int32) = 1 := rfl
      simp only [b1_v, b2_v, lq10, if_false, gd_i hr (by omega : 6 < 1000), nI_cl (by omega : r < 1000), f_X5_measure_J32, ltt_v, hn]
      obtain ⟨U', M', k1, k2, k3, k4⟩ := measure_v h3 h4 hTM hbd hr (k := k) (by omega) (by omega) w 40 0 64 64 (st U 6 r 1) (st M 14 r 1) (by omega) (by omega) (by omega) o2 (fun g a b cc => st_ne _ _ _ a)
      have z : nI 0 = (0 : Int32) := rfl
      rw [z] at k1 k2
      refine ⟨w, U', M', k1, ?_, MOu k4 hu k3⟩
      rw [o3] at k2 ⊢
      by_cases hz : M 14 r = 0
      · rw [if_pos hz]; rw [if_pos hz] at k2 ⊢; exact k2
      · rw [if_neg hz]; rw [if_neg hz] at k2 ⊢; exact k2
    · rw [w1, w2]
      exact ⟨_, _, _, rfl, rfl, hu⟩
  · rw [h1, h2]
    exact ⟨_, _, _, rfl, rfl, hu⟩
