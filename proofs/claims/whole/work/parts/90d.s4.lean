theorem L25_v (p : Int32) {last : Nat} (hl : last < 40) : ∀ (q fuel a : Nat) (T : RG), a + q = last + 1 → q < fuel → ∃ T', f_X1_forgetHanging_L25 p fuel (nI last) (nI a) T = some T' ∧ (∀ g, g ≠ 6 → T' g = T g) ∧ (∀ i, a ≤ i → i ≤ last → T' 6 i = 0) ∧ (∀ i, ¬ (a ≤ i ∧ i ≤ last) → T' 6 i = T 6 i) := by
  intro q
  induction q with
  | zero =>
    intro fuel a T h1 h2
    obtain ⟨f, rfl⟩ : ∃ f, fuel = f + 1 := ⟨fuel - 1, by omega⟩
    rw [f_X1_forgetHanging_L25, if_pos ((nI_ltI (by omega) (by omega)).mpr (by omega))]
    exact ⟨T, rfl, fun g _ => rfl, fun i k1 k2 => absurd k2 (by omega), fun i _ => rfl⟩
  | succ q ih =>
    intro fuel a T h1 h2
    obtain ⟨f, rfl⟩ : ∃ f, fuel = f + 1 := ⟨fuel - 1, by omega⟩
    rw [f_X1_forgetHanging_L25, if_neg (by rw [nI_ltI (by omega) (by omega)]; omega), gd_i (by omega) (by omega), nI_cl (by omega), ltt_v, ltt_v, nI_s1]
    obtain ⟨T', g1, g2, g3, g4⟩ := ih f (a + 1) (st T 6 a 0) (by omega) (by omega)
    refine ⟨T', g1, fun g hg => (g2 g hg).trans (st_ne T a 0 hg), fun i k1 k2 => ?_, fun i k => ?_⟩
    · by_cases hia : i = a
      · rw [g4 i (by omega), st_same, hia, pk_us]
      · exact g3 i (by omega) k2
    · rw [g4 i (by omega), st_same, pk_un (by omega)]
theorem fh_v {n : Nat} {T : RG} (h3 : 3 ≤ n) (h4 : n ≤ 40) (hT : T 7 0 = nI n) {j : Nat} (hj : j < n) : ∃ T', f_X1_forgetHanging T (nI j) = some T' ∧ (∀ g, g ≠ 6 → T' g = T g) ∧ (∀ i, i < n → j ≤ i + 3 → i ≤ j + 3 → T' 6 i = 0) ∧ (∀ i, i < n → ¬ (j ≤ i + 3 ∧ i ≤ j + 3) → T' 6 i = T 6 i) := by
  unfold f_X1_forgetHanging
  have e0 : nI j + (4 : Int32) - (1 : Int32) = nI (j + 3) := by
    have e4 : nI j + (4 : Int32) = nI (j + 4) := nI_add j 4
    rw [e4, nI_p1 (by omega)]
    rfl
  obtain ⟨last, hl1, hl2, hl3, hl4⟩ : ∃ last : Nat, (if nI j + (4 : Int32) - (1 : Int32) < T 7 0 - (1 : Int32) then nI j + (4 : Int32) - (1 : Int32) else T 7 0 - (1 : Int32)) = nI last ∧ last ≤ j + 3 ∧ last < n ∧ ∀ i, i < n → i ≤ j + 3 → i ≤ last := by
    rw [hT, nI_p1 (by omega), e0]
    by_cases hc : nI (j + 3) < nI (n - 1)
    · rw [if_pos hc]
      rw [nI_ltI (by omega) (by omega)] at hc
      exact ⟨j + 3, rfl, by omega, by omega, fun i _ _ => by omega⟩
    · rw [if_neg hc]
      rw [nI_ltI (by omega) (by omega)] at hc
      exact ⟨n - 1, rfl, by omega, by omega, fun i _ _ => by omega⟩
  rw [hl1, start_a (by omega), ltt_v, ltt_v]
  obtain ⟨T', g1, g2, g3, g4⟩ := L25_v (nI j) (last := last) (by omega) (last + 1 - (j - 3)) 64 (j - 3) T (by have := hl4 j hj (by omega); omega) (by omega)
  exact ⟨T', g1, g2, fun i k1 k2 k3 => g3 i (by omega) (hl4 i k1 k3), fun i k1 k => g4 i (by omega)⟩
theorem setBed_v {n : Nat} {T : RG} (h3 : 3 ≤ n) (h4 : n ≤ 40) (hT : T 7 0 = nI n) {j : Nat} (hj : j < n) (v : Int32) : ∃ T', f_X1_setBed T (nI j) v = some T' ∧ (∀ g, g ≠ 1 → g ≠ 6 → T' g = T g) ∧ T' 1 = upd (T 1) j v ∧ (∀ i, i < n → j ≤ i + 3 → i ≤ j + 3 → T' 6 i = 0) ∧ (∀ i, i < n → ¬ (j ≤ i + 3 ∧ i ≤ j + 3) → T' 6 i = T 6 i) := by
  unfold f_X1_setBed
  rw [gd_i (by omega) (by omega), nI_cl (by omega), ltt_v]
  obtain ⟨T', g1, g2, g3, g4⟩ := fh_v (T := st T 1 j v) h3 h4 hT hj
  rw [g1]
  exact ⟨T', rfl, fun g k1 k6 => (g2 g k6).trans (st_ne T j v k1), (g2 1 (by omega)).trans (st_same T 1 j v), g3, g4⟩
theorem setLost_v {n : Nat} {T : RG} (h3 : 3 ≤ n) (h4 : n ≤ 40) (hT : T 7 0 = nI n) {j : Nat} (hj : j < n) {v : Int32} (hv : v = 0 ∨ v = 1) : ∃ T', f_X1_setLost T (nI j) v = some T' ∧ (∀ g, g ≠ 5 → g ≠ 6 → T' g = T g) ∧ T' 5 = upd (T 5) j v ∧ (∀ i, i < n → j ≤ i + 3 → i ≤ j + 3 → T' 6 i = 0) ∧ (∀ i, i < n → ¬ (j ≤ i + 3 ∧ i ≤ j + 3) → T' 6 i = T 6 i) := by
  unfold f_X1_setLost
  rw [gd_i (by omega) (by omega), nI_cl (by omega), ltt_v, vpb v hv]
  obtain ⟨T', g1, g2, g3, g4⟩ := fh_v (T := st T 5 j v) h3 h4 hT hj
  rw [g1]
  exact ⟨T', rfl, fun g k1 k6 => (g2 g k6).trans (st_ne T j v k1), (g2 5 (by omega)).trans (st_same T 5 j v), g3, g4⟩
theorem cch_near {n : Nat} {T T' : RG} (hcc : cch n T) (h3 : 3 ≤ n) (h4 : n ≤ 40) (hT : T 7 0 = nI n) (hT' : T' 7 0 = nI n) (hb : bnd (T 1)) (hb' : bnd (T' 1)) {j : Nat} (h1 : ∀ i, i ≠ j → T' 1 i = T 1 i) (h5 : ∀ i, i ≠ j → T' 5 i = T 5 i) (h6 : ∀ i, i < n → j ≤ i + 3 → i ≤ j + 3 → T' 6 i = 0) (h7 : ∀ i, i < n → ¬ (j ≤ i + 3 ∧ i ≤ j + 3) → T' 6 i = T 6 i) : cch n T' := by
  intro i hi hl
  by_cases hn : j ≤ i + 3 ∧ i ≤ j + 3
  · exact Or.inl (h6 i hi hn.1 hn.2)
  · have hij : i ≠ j := by omega
    rw [h5 i hij] at hl
    rw [h7 i hi hn, h1 i hij, htv_near h3 h4 hT hT' hb hb' hi hl (fun k k1 k2 => ⟨h1 k (by omega), h5 k (by omega)⟩)]
    exact hcc i hi hl
theorem cch_same {n : Nat} {T T' : RG} (hcc : cch n T) (h1 : T' 1 = T 1) (h5 : T' 5 = T 5) (h6 : T' 6 = T 6) (h3 : 3 ≤ n) (h4 : n ≤ 40) (hT : T 7 0 = nI n) (hT' : T' 7 0 = nI n) (hb : bnd (T 1)) : cch n T' := by
  intro i hi hl
  rw [h5] at hl
  rw [h6, h1, htv_near h3 h4 hT hT' hb (by rw [h1]; exact hb) hi hl (fun k _ _ => ⟨by rw [h1], by rw [h5]⟩)]
  exact hcc i hi hl
theorem TIr.bnd {n : Nat} {bd : Int} {T : RG} (h : TIr n bd T) (hb : bd ≤ 41000000) : bnd (T 1) := fun i => ⟨by have := (h.2.2.1 i).1; omega, by have := (h.2.2.1 i).2; omega⟩
/-- a bed is put -/
theorem put_bed {n : Nat} {bd bd' : Int} {T M : RG} (hM : TMr n T M) (hI : TIr n bd T) (hb1 : bd ≤ bd') (hb2 : bd' ≤ 41000000) {j : Nat} (hj : j < n) {v : Int32} (hv : -bd' ≤ v.toInt ∧ v.toInt ≤ 10000) : ∃ T', f_X1_setBed T (nI j) v = some T' ∧ (∀ g, g ≠ 1 → g ≠ 6 → T' g = T g) ∧ T' 1 = upd (T 1) j v ∧ TMr n T' (st M 5 j v) ∧ TIr n bd' T' := by
  have hbd := hI.bnd (by omega)
  obtain ⟨hT7, hM3, e0, e1, e2, e3, e4, e5⟩ := hM
  obtain ⟨⟨h3, h4⟩, hk, hbb, hst, hhu, hlo, hcc⟩ := hI
  obtain ⟨T', g1, g2, g3, g4, g5⟩ := setBed_v h3 h4 hT7 hj v
  have q7 : T' 7 0 = nI n := by rw [g2 7 (by omega) (by omega)]; exact hT7
  have nb : ∀ i, -bd' ≤ (T' 1 i).toInt ∧ (T' 1 i).toInt ≤ 10000 := by
    intro i
    rw [g3]
    by_cases hij : i = j
    · rw [hij, pk_us]; exact hv
    · rw [pk_un hij]; have := hbb i; omega
  refine ⟨T', g1, g2, g3, ⟨q7, hM3, ?_, ?_, ?_, ?_, ?_, ?_⟩, ⟨⟨h3, h4⟩, ?_, nb, ?_, ?_, ?_, ?_⟩⟩
  · rw [g2 0 (by omega) (by omega)]; exact e0
  · rw [g3, e1]; rfl
  · rw [g2 2 (by omega) (by omega)]; exact e2
  · rw [g2 3 (by omega) (by omega)]; exact e3
  · rw [g2 4 (by omega) (by omega)]; exact e4
  · rw [g2 5 (by omega) (by omega)]; exact e5
  · rw [g2 0 (by omega) (by omega)]; exact hk
  · rw [g2 2 (by omega) (by omega)]; exact hst
  · rw [g2 3 (by omega) (by omega)]; exact hhu
  · rw [g2 5 (by omega) (by omega)]; exact hlo
  · refine cch_near hcc h3 h4 hT7 q7 hbd (fun i => ⟨by have := (nb i).1; omega, by have := (nb i).2; omega⟩) (j := j) (fun i hi => by rw [g3, pk_un hi]) (fun i _ => by rw [g2 5 (by omega) (by omega)]) g4 g5
/-- a sleeper is lost or not -/
theorem put_lost {n : Nat} {bd : Int} {T M : RG} (hM : TMr n T M) (hI : TIr n bd T) (hb2 : bd ≤ 41000000) {j : Nat} (hj : j < n) {v : Int32} (hv : v = 0 ∨ v = 1) : ∃ T', f_X1_setLost T (nI j) v = some T' ∧ TMr n T' (st M 9 j v) ∧ TIr n bd T' := by
  have hbd := hI.bnd hb2
  obtain ⟨hT7, hM3, e0, e1, e2, e3, e4, e5⟩ := hM
  obtain ⟨⟨h3, h4⟩, hk, hbb, hst, hhu, hlo, hcc⟩ := hI
  obtain ⟨T', g1, g2, g3, g4, g5⟩ := setLost_v h3 h4 hT7 hj hv
  have q7 : T' 7 0 = nI n := by rw [g2 7 (by omega) (by omega)]; exact hT7
  have q1 : T' 1 = T 1 := g2 1 (by omega) (by omega)
  refine ⟨T', g1, ⟨q7, hM3, ?_, ?_, ?_, ?_, ?_, ?_⟩, ⟨⟨h3, h4⟩, ?_, ?_, ?_, ?_, ?_, ?_⟩⟩
  · rw [g2 0 (by omega) (by omega)]; exact e0
  · rw [q1]; exact e1
  · rw [g2 2 (by omega) (by omega)]; exact e2
  · rw [g2 3 (by omega) (by omega)]; exact e3
  · rw [g2 4 (by omega) (by omega)]; exact e4
  · rw [g3, e5]; rfl
  · rw [g2 0 (by omega) (by omega)]; exact hk
  · rw [q1]; exact hbb
  · rw [g2 2 (by omega) (by omega)]; exact hst
  · rw [g2 3 (by omega) (by omega)]; exact hhu
  · intro i
    rw [g3]
    by_cases hij : i = j
    · rw [hij, pk_us]; exact hv
    · rw [pk_un hij]; exact hlo i
  · exact cch_near hcc h3 h4 hT7 q7 hbd (by rw [q1]; exact hbd) (j := j) (fun i hi => by rw [q1]) (fun i hi => by rw [g3, pk_un hi]) g4 g5
/-- a row that the rail doesn't ask for is put -/
theorem put_row {n : Nat} {bd : Int} {T M : RG} (hM : TMr n T M) (hI : TIr n bd T) (hb2 : bd ≤ 41000000) {j f fm : Nat} {v : Int32} (hf : (f = 0 ∧ fm = 4 ∧ 0 ≤ v.toInt ∧ v.toInt ≤ 3) ∨ (f = 2 ∧ fm = 6 ∧ 1 ≤ v.toInt ∧ v.toInt ≤ 9) ∨ (f = 3 ∧ fm = 7 ∧ 0 ≤ v.toInt ∧ v.toInt ≤ 99) ∨ (f = 4 ∧ fm = 8)) : TMr n (st T f j v) (st M fm j v) ∧ TIr n bd (st T f j v) := by
  have hbd := hI.bnd hb2
  obtain ⟨hT7, hM3, e0, e1, e2, e3, e4, e5⟩ := hM
  obtain ⟨⟨h3, h4⟩, hk, hbb, hst, hhu, hlo, hcc⟩ := hI
  have q : ∀ g, g ≠ f → st T f j v g = T g := fun g hg => st_ne T j v hg
  have cc : cch n (st T f j v) := cch_same hcc (q 1 (by omega)) (q 5 (by omega)) (q 6 (by omega)) h3 h4 hT7 (by rw [q 7 (by omega)]; exact hT7) hbd
  have pu : ∀ (P : Int32 → Prop) (g : Nat → Int32), (∀ i, P (g i)) → P v → ∀ i, P (upd g j v i) := by
    intro P g hg hv i
    by_cases hij : i = j
    · rw [hij, pk_us]; exact hv
    · rw [pk_un hij]; exact hg i
  rcases hf with ⟨rfl, rfl, v1, v2⟩ | ⟨rfl, rfl, v1, v2⟩ | ⟨rfl, rfl, v1, v2⟩ | ⟨rfl, rfl⟩
  · exact ⟨⟨hT7, hM3, by show upd (T 0) j v = upd (M 4) j v; rw [e0], e1, e2, e3, e4, e5⟩, ⟨⟨h3, h4⟩, pu (fun x => 0 ≤ x.toInt ∧ x.toInt ≤ 3) (T 0) hk ⟨v1, v2⟩, hbb, hst, hhu, hlo, cc⟩⟩
  · refine ⟨⟨hT7, hM3, e0, e1, by show upd (T 2) j v = upd (M 6) j v; rw [e2], e3, e4, e5⟩, ⟨⟨h3, h4⟩, hk, hbb, fun i hi => ?_, hhu, hlo, cc⟩⟩
    show 1 ≤ (upd (T 2) j v i).toInt ∧ (upd (T 2) j v i).toInt ≤ 9
    by_cases hij : i = j
    · rw [hij, pk_us]; exact ⟨v1, v2⟩
    · rw [pk_un hij]; exact hst i hi
  · exact ⟨⟨hT7, hM3, e0, e1, e2, by show upd (T 3) j v = upd (M 7) j v; rw [e3], e4, e5⟩, ⟨⟨h3, h4⟩, hk, hbb, hst, pu (fun x => 0 ≤ x.toInt ∧ x.toInt ≤ 99) (T 3) hhu ⟨v1, v2⟩, hlo, cc⟩⟩
  · exact ⟨⟨hT7, hM3, e0, e1, e2, e3, by show upd (T 4) j v = upd (M 8) j v; rw [e4], e5⟩, ⟨⟨h3, h4⟩, hk, hbb, hst, hhu, hlo, cc⟩⟩
theorem looked_t {n : Nat} {M : RG} (h3 : 3 ≤ n) (h4 : n ≤ 40) (hM : M 3 0 = nI n) {j : Nat} (hj : j < n) : f_X5_looked M (nI j) = if M 9 j = 0 then some (0, M) else some (-3, st (st M 0 0 (nI 1)) 1 1 (M 1 1 + 1)) := by
  unfold f_X5_looked
  rw [isS_t h3 h4 hM (okN_of hj (by omega)), b1_v, if_neg (by decide), gd_i (by omega) (by omega), nI_cl (by omega)]
  by_cases hz : M 9 j = 0
  · rw [if_pos hz, if_pos hz]
  · rw [if_neg hz, if_neg hz, fl1, meets_v (by omega)]
    rfl
theorem looked_f {n : Nat} {M : RG} (h3 : 3 ≤ n) (h4 : n ≤ 40) (hM : M 3 0 = nI n) {p : Int32} (hp : ¬ okN n p) : f_X5_looked M p = some (-1, M) := by
  unfold f_X5_looked
  rw [isS_f h3 h4 hM hp]
  rfl
theorem bdc {c : Nat} (hc : c < 512) : (10000 + 80000 * (c : Int)) ≤ 41000000 := by omega
theorem TIr.mono {n : Nat} {bd bd' : Int} {T : RG} (h : TIr n bd T) (hb : bd ≤ bd') : TIr n bd' T := ⟨h.1, h.2.1, fun i => ⟨by have := (h.2.2.1 i).1; omega, (h.2.2.1 i).2⟩, h.2.2.2⟩
theorem bdu (c : Nat) : (10000 + 80000 * (c : Int)) ≤ 10000 + 80000 * ((c + 1 : Nat) : Int) := by omega
theorem eq_rail : EQ_rail := by
  intro c B L R T U V M Lm hc h p0
  have hu := h.up
  obtain ⟨⟨n, hTM, hTI⟩, hR, hU, hV, hB, hL⟩ := h
  have hbd := hTI.bnd (bdc hc)
  obtain ⟨hT7, hM3, e0, e1, e2, e3, e4, e5⟩ := hTM
  obtain ⟨⟨h3, h4⟩, -⟩ := hTI
  unfold f_X4_rail f_X5_rail
  by_cases hi : okN n p0
  · rw [has_t h3 h4 hT7 hi, isS_t h3 h4 hM3 hi]
    obtain ⟨j, hj, rfl⟩ := okN_nI hi (by omega)
    rw [(htv_G h3 h4 hT7 hbd hj).1, railAt_v h3 h4 hT7 hM3 hbd e1 e5 hj]
    exact ⟨_, _, _, rfl, rfl, hu.1, hR, hU, hV, hu.2.2.2.2.1, rfl⟩
  · rw [has_f h3 h4 hT7 hi, isS_f h3 h4 hM3 hi]
    exact ⟨_, _, _, rfl, rfl, hu⟩
theorem eq_gap : EQ_gap := by
  intro c B L R T U V M Lm hc h p0
  have hu := h.up
  have hf := h.found 1
  obtain ⟨⟨n, hTM, hTI⟩, hR, hU, hV, hB, hL⟩ := h
  have hbd := hTI.bnd (bdc hc)
  obtain ⟨hT7, hM3, e0, e1, e2, e3, e4, e5⟩ := hTM
  obtain ⟨⟨h3, h4⟩, -⟩ := hTI
  unfold f_X4_gap f_X5_gap
  by_cases hi : okN n p0
  · rw [has_t h3 h4 hT7 hi]
    obtain ⟨j, hj, rfl⟩ := okN_nI hi (by omega)
    rw [looked_t h3 h4 hM3 hj, ← e5]
    have g : ∀ {α : Type} (x : Option α), gd (inb (nI j) 40) x = x := fun x => gd_i (by omega) (by omega)
    simp only [b1_v, lq10, if_false, g, nI_cl (by omega : j < 1000)]
    by_cases hz : T 5 j = 0
    · rw [if_pos hz, if_pos hz]
      rw [(htv_G h3 h4 hT7 hbd hj).1]
      simp only [b1_v, b2_v, z0, if_true, g]
      rw [railAt_v h3 h4 hT7 hM3 hbd e1 e5 hj]
      exact ⟨_, _, _, rfl, by rw [e1]; rfl, hu⟩
    · rw [if_neg hz, if_neg hz, fl1, found_v (by omega)]
      simp only [b2_v, m3neg, if_false]
      exact ⟨_, _, _, rfl, rfl, hf⟩
  · rw [has_f h3 h4 hT7 hi, looked_f h3 h4 hM3 hi]
    exact ⟨_, _, _, rfl, rfl, hu⟩
theorem eq_bed : EQ_bed := by
  intro c B L R T U V M Lm hc h p0 p1
  have hu := h.up
  have hf := h.found 1
  obtain ⟨⟨n, hTM, hTI⟩, hR, hU, hV, hB, hL⟩ := h
  obtain ⟨⟨h3, h4⟩, -⟩ := id hTI
  obtain ⟨hT7, hM3, e0, e1, e2, e3, e4, e5⟩ := id hTM
  unfold f_X4_bed f_X5_bed
  have em : (-10000 : Int32).toInt = -10000 := by decide
  have ep : (10000 : Int32).toInt = 10000 := by decide
  rcases win p1 (-10000) 10000 with ⟨hw, w1, w2⟩ | ⟨hw, w1, w2⟩
  · rw [em, ep] at hw
    rw [w1, w2]
    by_cases hi : okN n p0
    · rw [has_t h3 h4 hT7 hi]
      obtain ⟨j, hj, rfl⟩ := okN_nI hi (by omega)
      rw [b1_v, b1_v, looked_t h3 h4 hM3 hj, ← e5]
      have g : ∀ {α : Type} (x : Option α), gd (inb (nI j) 40) x = x := fun x => gd_i (by omega) (by omega)
      simp only [b1_v, lq10, if_false, g, nI_cl (by omega : j < 1000), ltt_v]
      by_cases hz : T 5 j = 0
      · rw [if_pos hz, if_pos hz]
        have hbc := bdc hc
        obtain ⟨T', g1, g2, g3, g4, g5⟩ := put_bed hTM (hTI) (bd' := 10000 + 80000 * (c : Int)) (by omega) hbc hj (v := p1) ⟨by omega, hw.2⟩
        rw [g1]
        simp only [b1_v, b2_v, z0, if_true, g, f_X4_tell]
        exact ⟨1, B, _, T', st M 5 j p1, _, rfl, rfl, ⟨n, g4, g5.mono (bdu c)⟩, hR, hU, hV, hu.2.2.2.2.1, by rw [e1]⟩
      · rw [if_neg hz, if_neg hz, fl1, found_v (by omega)]
        simp only [b2_v, m3neg, if_false]
        exact ⟨_, _, _, _, _, _, rfl, rfl, hf⟩
    · rw [has_f h3 h4 hT7 hi, b1_v, b1_v, looked_f h3 h4 hM3 hi]
      exact ⟨_, _, _, _, _, _, rfl, rfl, hu⟩
  · rw [w1, w2]
    by_cases hi : okN n p0
    · rw [has_t h3 h4 hT7 hi]
      exact ⟨_, _, _, _, _, _, rfl, rfl, hu⟩
    · rw [has_f h3 h4 hT7 hi]
      exact ⟨_, _, _, _, _, _, rfl, rfl, hu⟩
theorem eq_stones : EQ_stones := by
  intro c B L R T U V M Lm hc h p0 p1
  have hu := h.up
  have hf := h.found 1
  obtain ⟨⟨n, hTM, hTI⟩, hR, hU, hV, hB, hL⟩ := h
  obtain ⟨⟨h3, h4⟩, -⟩ := id hTI
  obtain ⟨hT7, hM3, e0, e1, e2, e3, e4, e5⟩ := id hTM
  unfold f_X4_stones f_X5_stones
  have em : (1 : Int32).toInt = 1 := by decide
  have ep : (9 : Int32).toInt = 9 := by decide
  rcases win p1 1 9 with ⟨hw, w1, w2⟩ | ⟨hw, w1, w2⟩
  · rw [em, ep] at hw
    rw [w1, w2]
    by_cases hi : okN n p0
    · rw [has_t h3 h4 hT7 hi]
      obtain ⟨j, hj, rfl⟩ := okN_nI hi (by omega)
      rw [b1_v, b1_v, looked_t h3 h4 hM3 hj, ← e5]
      have g : ∀ {α : Type} (x : Option α), gd (inb (nI j) 40) x = x := fun x => gd_i (by omega) (by omega)
      simp only [b1_v, lq10, if_false, g, nI_cl (by omega : j < 1000), ltt_v]
      by_cases hz : T 5 j = 0
      · rw [if_pos hz, if_pos hz]
        obtain ⟨k1, k2⟩ := put_row hTM hTI (bdc hc) (j := j) (f := 2) (fm := 6) (v := p1) (Or.inr (Or.inl ⟨rfl, rfl, hw.1, hw.2⟩))
        simp only [b2_v, z0, if_true]
        exact ⟨T 2 j, B, st T 2 j p1, st M 6 j p1, rfl, by rw [e2], ⟨n, k1, k2.mono (bdu c)⟩, hR, hU, hV, hu.2.2.2.2⟩
      · rw [if_neg hz, if_neg hz, fl1, found_v (by omega)]
        simp only [b2_v, m3neg, if_false]
        exact ⟨_, _, _, _, rfl, rfl, hf⟩
    · rw [has_f h3 h4 hT7 hi, b1_v, b1_v, looked_f h3 h4 hM3 hi]
      exact ⟨_, _, _, _, rfl, rfl, hu⟩
  · rw [w1, w2]
    by_cases hi : okN n p0
    · rw [has_t h3 h4 hT7 hi]
      exact ⟨_, _, _, _, rfl, rfl, hu⟩
    · rw [has_f h3 h4 hT7 hi]
      exact ⟨_, _, _, _, rfl, rfl, hu⟩
theorem eq_sleeper : EQ_sleeper := by
  intro c B L R T U V M Lm hc h p0 p1
  have hu := h.up
  obtain ⟨⟨n, hTM, hTI⟩, hR, hU, hV, hB, hL⟩ := h
  obtain ⟨⟨h3, h4⟩, -⟩ := id hTI
  obtain ⟨hT7, hM3, e0, e1, e2, e3, e4, e5⟩ := id hTM
  unfold f_X4_sleeper f_X5_sleeper
  by_cases hi : okN n p0
  · rw [has_t h3 h4 hT7 hi, isS_t h3 h4 hM3 hi]
    obtain ⟨j, hj, rfl⟩ := okN_nI hi (by omega)
    have em : (0 : Int32).toInt = 0 := by decide
    have ep : (3 : Int32).toInt = 3 := by decide
    rcases win p1 0 3 with ⟨hw, w1, w2⟩ | ⟨hw, w1, w2⟩
    · rw [em, ep] at hw
      rw [w1, w2]
      have g : ∀ {α : Type} (x : Option α), gd (inb (nI j) 40) x = x := fun x => gd_i (by omega) (by omega)
      simp only [b1_v, lq10, if_false, g, nI_cl (by omega : j < 1000), ltt_v]
      obtain ⟨k1, k2⟩ := put_row hTM hTI (bdc hc) (j := j) (f := 0) (fm := 4) (v := p1) (Or.inl ⟨rfl, rfl, hw.1, hw.2⟩)
      obtain ⟨T', g1, g2, g3⟩ := put_lost k1 k2 (bdc hc) hj (v := 0) (Or.inl rfl)
      rw [g1]
      have hn : vp_nar .boolean (0 : Int32) = 0 := rfl
      rw [hn]
      exact ⟨T 0 j, T', st (st M 4 j p1) 9 j 0, rfl, by rw [e0], ⟨n, g2, g3.mono (bdu c)⟩, hR, hU, hV, hu.2.2.2.2⟩
    · rw [w1, w2]
      exact ⟨_, _, _, rfl, rfl, hu⟩
  · rw [has_f h3 h4 hT7 hi, isS_f h3 h4 hM3 hi]
    exact ⟨_, _, _, rfl, rfl, hu⟩
theorem eq_lose : EQ_lose := by
  intro c B L R T U V M Lm hc h p0 p1 hz1
  have hu := h.up
  obtain ⟨⟨n, hTM, hTI⟩, hR, hU, hV, hB, hL⟩ := h
  obtain ⟨⟨h3, h4⟩, -⟩ := id hTI
  obtain ⟨hT7, hM3, e0, e1, e2, e3, e4, e5⟩ := id hTM
  unfold f_X4_lose f_X5_lose
  by_cases hi : okN n p0
  · rw [has_t h3 h4 hT7 hi, isS_t h3 h4 hM3 hi]
    obtain ⟨j, hj, rfl⟩ := okN_nI hi (by omega)
    have g : ∀ {α : Type} (x : Option α), gd (inb (nI j) 40) x = x := fun x => gd_i (by omega) (by omega)
    obtain ⟨T', g1, g2, g3⟩ := put_lost hTM hTI (bdc hc) hj (v := p1) hz1
    simp only [b1_v, lq10, if_false, g, nI_cl (by omega : j < 1000), ltt_v, f_X4_lose_J30, f_X5_lose_J24, g1, vpb p1 hz1, ← e5]
    by_cases hz : T 5 j = 0
    · rw [if_pos hz, if_pos hz]
      exact ⟨0, T', st M 9 j p1, rfl, rfl, ⟨n, g2, g3.mono (bdu c)⟩, hR, hU, hV, hu.2.2.2.2⟩
    · rw [if_neg hz, if_neg hz]
      exact ⟨1, T', st M 9 j p1, rfl, rfl, ⟨n, g2, g3.mono (bdu c)⟩, hR, hU, hV, hu.2.2.2.2⟩
  · rw [has_f h3 h4 hT7 hi, isS_f h3 h4 hM3 hi]
    exact ⟨_, _, _, rfl, rfl, hu⟩
