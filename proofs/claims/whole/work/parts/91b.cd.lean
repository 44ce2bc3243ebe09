theorem howMany_v (U : RG) : ∀ (q fuel a c : Nat), a + q = 6 → q < fuel → f_X0_howMany_L4 U fuel (nI c) (nI a) = some (nI (c + (q - czr (U 6) a q))) := by
  intro q
  have e6 : (6 : Int32) = nI 6 := rfl
  induction q with
  | zero =>
    intro fuel a c h1 h2
    obtain ⟨f, rfl⟩ : ∃ f, fuel = f + 1 := ⟨fuel - 1, by omega⟩
    rw [f_X0_howMany_L4, e6, if_pos ((nI_leI (by omega) (by omega)).mpr (by omega))]
    rfl
  | succ q ih =>
    intro fuel a c h1 h2
    obtain ⟨f, rfl⟩ : ∃ f, fuel = f + 1 := ⟨fuel - 1, by omega⟩
    have hz := czr_le (U 6) q (a + 1)
    rw [f_X0_howMany_L4, e6, if_neg (by rw [nI_leI (by omega) (by omega)]; omega), gd_i (by omega) (by omega), nI_cl (by omega), czr]
    by_cases hl : U 6 a = 0
    · rw [if_pos hl, if_pos hl, f_X0_howMany_J22, ltt_v, nI_s1, ih f (a + 1) c (by omega) (by omega), show c + (q - czr (U 6) (a + 1) q) = c + (q + 1 - (1 + czr (U 6) (a + 1) q)) by omega]
    · rw [if_neg hl, if_neg hl, ltt_v, f_X0_howMany_J22, ltt_v, nI_s1, nI_s1, ih f (a + 1) (c + 1) (by omega) (by omega), show c + 1 + (q - czr (U 6) (a + 1) q) = c + (q + 1 - (0 + czr (U 6) (a + 1) q)) by omega]
theorem tc3_v (M : RG) : ∀ (q fuel a c : Nat), a + q = 6 → q < fuel → f_X5_tellsCount_L42 M (3 : Int32) fuel (nI c) (nI a) = some (nI (c + (q - czr (M 14) a q))) := by
  intro q
  have e6 : (6 : Int32) = nI 6 := rfl
  induction q with
  | zero =>
    intro fuel a c h1 h2
    obtain ⟨f, rfl⟩ : ∃ f, fuel = f + 1 := ⟨fuel - 1, by omega⟩
    rw [f_X5_tellsCount_L42, e6, if_pos ((nI_leI (by omega) (by omega)).mpr (by omega)), f_X5_tellsCount_J76, if_neg (by decide), if_neg (by decide), if_neg (by decide)]
    rfl
  | succ q ih =>
    intro fuel a c h1 h2
    obtain ⟨f, rfl⟩ : ∃ f, fuel = f + 1 := ⟨fuel - 1, by omega⟩
    have hz := czr_le (M 14) q (a + 1)
    rw [f_X5_tellsCount_L42, e6, if_neg (by rw [nI_leI (by omega) (by omega)]; omega), if_pos rfl, gd_i (by omega) (by omega), nI_cl (by omega), czr]
    by_cases hl : M 14 a = 0
    · rw [if_pos hl, if_pos hl, f_X5_tellsCount_J68, ltt_v, ltt_v, a0, nI_s1, ih f (a + 1) c (by omega) (by omega), show c + (q - czr (M 14) (a + 1) q) = c + (q + 1 - (1 + czr (M 14) (a + 1) q)) by omega]
    · rw [if_neg hl, if_neg hl, f_X5_tellsCount_J68, ltt_v, ltt_v, nI_s1, nI_s1, ih f (a + 1) (c + 1) (by omega) (by omega), show c + 1 + (q - czr (M 14) (a + 1) q) = c + (q + 1 - (0 + czr (M 14) (a + 1) q)) by omega]
theorem tcJ40 (M : RG) (p x : Int32) (hp : ¬ p = 3) : f_X5_tellsCount_J40 M p x = f_X5_tellsCount_J76 M p x := by
  rw [f_X5_tellsCount_J40, f_X5_tellsCount_L42, if_neg (by decide), if_neg hp]
theorem tc1_v {n : Nat} {M : RG} (h4 : n ≤ 40) (hM : M 3 0 = nI n) : ∀ (q fuel a c : Nat), a + q = n → q < fuel → f_X5_tellsCount_L4 M (1 : Int32) fuel (nI c) (nI a) = some (nI (c + (q - czr (M 9) a q))) := by
  intro q
  induction q with
  | zero =>
    intro fuel a c h1 h2
    obtain ⟨f, rfl⟩ : ∃ f, fuel = f + 1 := ⟨fuel - 1, by omega⟩
    rw [f_X5_tellsCount_L4, hM, if_pos ((nI_leI (by omega) (by omega)).mpr (by omega)), tcJ40 _ _ _ (by decide), f_X5_tellsCount_J76, if_neg (by decide), if_neg (by decide), if_neg (by decide)]
    rfl
  | succ q ih =>
    intro fuel a c h1 h2
    obtain ⟨f, rfl⟩ : ∃ f, fuel = f + 1 := ⟨fuel - 1, by omega⟩
    have hz := czr_le (M 9) q (a + 1)
    rw [f_X5_tellsCount_L4, hM, if_neg (by rw [nI_leI (by omega) (by omega)]; omega), if_pos rfl, gd_i (by omega) (by omega), nI_cl (by omega), czr]
    by_cases hl : M 9 a = 0
    · rw [if_pos hl, if_pos hl, f_X5_tellsCount_J32, ltt_v, ltt_v, a0, nI_s1, ih f (a + 1) c (by omega) (by omega), show c + (q - czr (M 9) (a + 1) q) = c + (q + 1 - (1 + czr (M 9) (a + 1) q)) by omega]
    · rw [if_neg hl, if_neg hl, f_X5_tellsCount_J32, ltt_v, ltt_v, nI_s1, nI_s1, ih f (a + 1) (c + 1) (by omega) (by omega), show c + 1 + (q - czr (M 9) (a + 1) q) = c + (q + 1 - (0 + czr (M 9) (a + 1) q)) by omega]
theorem tc_other {n : Nat} {M : RG} (h3 : 3 ≤ n) (h4 : n ≤ 40) (hM : M 3 0 = nI n) (p : Int32) (h1 : ¬ p = 1) : f_X5_tellsCount M p = f_X5_tellsCount_J40 M p 0 := by
  rw [f_X5_tellsCount, f_X5_tellsCount_L4, hM, if_neg (by rw [show (0 : Int32) = nI 0 from rfl, nI_leI (by omega) (by omega)]; omega), if_neg h1]
theorem count_v {n : Nat} {R T U V M : RG} (hTM : TMr n T M) (h3 : 3 ≤ n) (h4 : n ≤ 40) (hR : RMr R M) (hU : UMr U M) (hV : VMr V M) {w : Nat} (hw : w < 5) : ∃ r, f_X4_count R T U V (nI w) = some r ∧ f_X5_tellsCount M (nI w) = some r := by
  obtain ⟨hT7, hM3, e0, e1, e2, e3, e4, e5⟩ := hTM
  have k : w = 0 ∨ w = 1 ∨ w = 2 ∨ w = 3 ∨ w = 4 := by omega
  have z : nI 0 = (0 : Int32) := rfl
  rcases k with rfl | rfl | rfl | rfl | rfl
  · refine ⟨T 7 0, rfl, ?_⟩
    rw [tc_other h3 h4 hM3 _ (by decide), tcJ40 _ _ _ (by decide), hT7, ← hM3]
    rfl
  · refine ⟨nI (n - czr (T 5) 0 n), ?_, ?_⟩
    · unfold f_X4_count
      rw [if_neg (by decide), if_pos (by decide), stand_all h3 h4 hT7, b1_v, hT7, pk_sub (czr_le _ _ _)]
    · have h := tc1_v h4 hM3 n 64 0 0 (by omega) (by omega)
      rw [Nat.zero_add, ← e5] at h
      exact h
  · refine ⟨R 2 0, rfl, ?_⟩
    rw [tc_other h3 h4 hM3 _ (by decide), tcJ40 _ _ _ (by decide), hR.2.2.1]
    rfl
  · refine ⟨nI (6 - czr (U 6) 0 6), ?_, ?_⟩
    · unfold f_X4_count
      rw [if_neg (by decide), if_neg (by decide), if_neg (by decide), if_pos (by decide), f_X0_howMany]
      have h := howMany_v U 6 64 0 0 (by omega) (by omega)
      rw [Nat.zero_add] at h
      rw [show (0 : Int32) = nI 0 from rfl, h]
      rfl
    · rw [tc_other h3 h4 hM3 _ (by decide), f_X5_tellsCount_J40]
      have h := tc3_v M 6 64 0 0 (by omega) (by omega)
      rw [Nat.zero_add, ← hU.2.1] at h
      exact h
  · refine ⟨V 5 0, rfl, ?_⟩
    rw [tc_other h3 h4 hM3 _ (by decide), tcJ40 _ _ _ (by decide), hV.2.2]
    rfl
theorem eq_count : EQ_count := by
  intro c B L R T U V M Lm hc h p0
  have hu := h.up
  obtain ⟨⟨n, hTM, hTI⟩, hR, hU, hV, hB, hL⟩ := h
  obtain ⟨⟨h3, h4⟩, -⟩ := hTI
  unfold f_X5_count
  have em : (0 : Int32).toInt = 0 := rfl
  have ep : (4 : Int32).toInt = 4 := rfl
  rcases win p0 0 4 with ⟨hw, w1, w2⟩ | ⟨hw, w1, w2⟩
  · obtain ⟨w, hw', rfl⟩ := okN_nI (n := 5) (i := p0) ⟨by omega, by omega⟩ (by omega)
    obtain ⟨r, k1, k2⟩ := count_v hTM h3 h4 hR hU hV.2 hw'
    rw [w2, b1_v, if_neg (by decide), k2]
    exact ⟨r, k1, rfl, hu⟩
  · rw [w2]
    have n0 : ¬ p0 = 0 := fun q => hw (by rw [q]; decide)
    have n1 : ¬ p0 = 1 := fun q => hw (by rw [q]; decide)
    have n2 : ¬ p0 = 2 := fun q => hw (by rw [q]; decide)
    have n3 : ¬ p0 = 3 := fun q => hw (by rw [q]; decide)
    have n4 : ¬ p0 = 4 := fun q => hw (by rw [q]; decide)
    unfold f_X4_count
    rw [if_neg n0, if_neg n1, if_neg n2, if_neg n3, if_neg n4]
    exact ⟨_, rfl, rfl, hu⟩
theorem told_v {n : Nat} {T M : RG} (hTM : TMr n T M) (h3 : 3 ≤ n) (h4 : n ≤ 40) {i w : Nat} (hi : i < n) (hw : w < 4) : ∃ r, f_X4_told T (nI i) (nI w) = some r ∧ f_X5_tells M (nI i) (nI w) = some r := by
  obtain ⟨hT7, hM3, e0, e1, e2, e3, e4, e5⟩ := hTM
  have g : ∀ x : Option Int32, gd (inb (nI i) 40) x = x := fun x => gd_i (by omega) (by omega)
  have cl := nI_cl (j := i) (by omega)
  have k : w = 0 ∨ w = 1 ∨ w = 2 ∨ w = 3 := by omega
  unfold f_X4_told f_X5_tells
  rw [has_t h3 h4 hT7 (okN_of hi (by omega)), b1_v, if_neg (by decide)]
  simp only [g, cl]
  rcases k with rfl | rfl | rfl | rfl
  · rw [if_pos (by decide), if_pos (by decide), e0]
    exact ⟨_, rfl, rfl⟩
  · rw [if_neg (by decide), if_pos (by decide), if_neg (by decide), if_pos (by decide), e2]
    exact ⟨_, rfl, rfl⟩
  · rw [if_neg (by decide), if_neg (by decide), if_pos (by decide), if_neg (by decide), if_neg (by decide), if_pos (by decide), e3]
    exact ⟨_, rfl, rfl⟩
  · have q0 : ¬ nI 3 = (0 : Int32) := by decide
    have q1 : ¬ nI 3 = (1 : Int32) := by decide
    have q2 : ¬ nI 3 = (2 : Int32) := by decide
    have q3 : nI 3 = (3 : Int32) := rfl
    simp only [if_neg q0, if_neg q1, if_neg q2, if_pos q3, e5]
    by_cases hz : M 9 i = 0
    · rw [if_pos hz]; exact ⟨_, rfl, rfl⟩
    · rw [if_neg hz]; exact ⟨_, rfl, rfl⟩
theorem d46_v {n : Nat} {B R T U V M : RG} (hTM : TMr n T M) (h3 : 3 ≤ n) (h4 : n ≤ 40) {i : Nat} (hi : i < n) (ko ko' : Int64 → Int32 → Option Int64) : ∀ (q w fuel fuel' : Nat) (x : Int64), w + q = 4 → q < fuel → q < fuel' → ∃ y, f_X4_digest_L46 B R T U V ko fuel x (nI i) (nI w) = ko y (nI (i + 1)) ∧ f_X5_digest_L43 M ko' fuel' x (nI i) (nI w) = ko' y (nI (i + 1)) := by
  intro q
  have e4 : (4 : Int32) = nI 4 := rfl
  have e3 : (3 : Int32) = nI 3 := rfl
  induction q with
  | zero =>
    intro w fuel fuel' x h1 h2 h5
    obtain ⟨f, rfl⟩ : ∃ f, fuel = f + 1 := ⟨fuel - 1, by omega⟩
    obtain ⟨f', rfl⟩ : ∃ f, fuel' = f + 1 := ⟨fuel' - 1, by omega⟩
    rw [f_X4_digest_L46, f_X5_digest_L43, e4, e3, if_pos ((nI_leI (by omega) (by omega)).mpr (by omega)), if_pos ((nI_ltI (by omega) (by omega)).mpr (by omega)), gd_i (by omega) (by omega), gd_i (by omega) (by omega), nI_cl (by omega), hTM.2.2.2.1]
    simp only [ltt_v, nI_s1]
    exact ⟨_, rfl, rfl⟩
  | succ q ih =>
    intro w fuel fuel' x h1 h2 h5
    obtain ⟨f, rfl⟩ : ∃ f, fuel = f + 1 := ⟨fuel - 1, by omega⟩
    obtain ⟨f', rfl⟩ : ∃ f, fuel' = f + 1 := ⟨fuel' - 1, by omega⟩
    obtain ⟨r, k1, k2⟩ := told_v hTM h3 h4 hi (by omega : w < 4)
    rw [f_X4_digest_L46, f_X5_digest_L43, e4, e3, if_neg (by rw [nI_leI (by omega) (by omega)]; omega), if_neg (by rw [nI_ltI (by omega) (by omega)]; omega), k1, k2]
    simp only [b1_v, ltt_v, nI_s1]
    exact ih (w + 1) f f' _ (by omega) (by omega) (by omega)
theorem d23_v {U M : RG} (hU : UMr U M) {i : Nat} (hi : i < 6) (hne : ¬ M 14 i = 0) (p0 : Int64) (ko : Int64 → Int32 → Option Int64) : ∀ (q a fuel fuel' : Nat) (x : Int64), a + q = 40 → q < fuel → q < fuel' → ∃ y, f_X0_digestOn_L23 U p0 (nI i) fuel x (nI a) = some y ∧ f_X5_digest_L145 M ko fuel' x (nI i) (nI a) = ko y (nI (i + 1)) := by
  intro q
  have e40 : (40 : Int32) ≤ nI 40 := by decide
  induction q with
  | zero =>
    intro a fuel fuel' x h1 h2 h5
    obtain ⟨f, rfl⟩ : ∃ f, fuel = f + 1 := ⟨fuel - 1, by omega⟩
    obtain ⟨f', rfl⟩ : ∃ f, fuel' = f + 1 := ⟨fuel' - 1, by omega⟩
    have ha : a = 40 := by omega
    subst ha
    rw [f_X0_digestOn_L23, f_X5_digest_L145, if_pos e40, if_pos e40, f_X5_digest_J187, ltt_v, nI_s1]
    exact ⟨x, rfl, rfl⟩
  | succ q ih =>
    intro a fuel fuel' x h1 h2 h5
    obtain ⟨f, rfl⟩ : ∃ f, fuel = f + 1 := ⟨fuel - 1, by omega⟩
    obtain ⟨f', rfl⟩ : ∃ f, fuel' = f + 1 := ⟨fuel' - 1, by omega⟩
    have hlt : ¬ (40 : Int32) ≤ nI a := by rw [show (40 : Int32) = nI 40 from rfl, nI_leI (by omega) (by omega)]; omega
    rw [f_X0_digestOn_L23, f_X5_digest_L145, if_neg hlt, if_neg hlt, gd_i hi (by omega), gd_i hi (by omega), nI_cl (by omega), if_neg hne, gdr hi (by omega), clr hi (by omega)]
    simp only [ltt_v]
    rw [gd_i (by omega) (by omega), nI_cl (by omega), hU.1 i a hi (by omega), nI_s1]
    exact ih (a + 1) f f' _ (by omega) (by omega) (by omega)
theorem d125_v {B R T U V M : RG} (hU : UMr U M) : ∀ (q i fuel fuel' : Nat) (x : Int64), i + q = 6 → q < fuel → q < fuel' → ∃ y, f_X4_digest_L125 B R T U V fuel x (nI i) = some y ∧ f_X5_digest_L119 M fuel' x (nI i) = some y := by
  intro q
  have e6 : (6 : Int32) = nI 6 := rfl
  induction q with
  | zero =>
    intro i fuel fuel' x h1 h2 h5
    obtain ⟨f, rfl⟩ : ∃ f, fuel = f + 1 := ⟨fuel - 1, by omega⟩
    obtain ⟨f', rfl⟩ : ∃ f, fuel' = f + 1 := ⟨fuel' - 1, by omega⟩
    have hge : nI 6 ≤ nI i := (nI_leI (by omega) (by omega)).mpr (by omega)
    rw [f_X4_digest_L125, f_X5_digest_L119, e6, if_pos hge, if_pos hge]
    exact ⟨x, rfl, rfl⟩
  | succ q ih =>
    intro i fuel fuel' x h1 h2 h5
    obtain ⟨f, rfl⟩ : ∃ f, fuel = f + 1 := ⟨fuel - 1, by omega⟩
    obtain ⟨f', rfl⟩ : ∃ f, fuel' = f + 1 := ⟨fuel' - 1, by omega⟩
    have hlt : ¬ nI 6 ≤ nI i := by rw [nI_leI (by omega) (by omega)]; omega
    have hi : i < 6 := by omega
    rw [f_X4_digest_L125, f_X5_digest_L119, e6, if_neg hlt, if_neg hlt, f_X0_digestOn, gd_i hi (by omega), gd_i hi (by omega), nI_cl (by omega), ← hU.2.1]
    by_cases hz : U 6 i = 0
    · rw [if_pos hz, if_pos hz, b1_v, ltt_v, ltt_v, nI_s1, f_X5_digest_J142, f_X5_digest_L145, if_neg (by decide), gd_i hi (by omega), nI_cl (by omega), ← hU.2.1, if_pos hz, f_X5_digest_J187, ltt_v, nI_s1]
      exact ih (i + 1) f f' _ (by omega) (by omega) (by omega)
    · rw [if_neg hz, if_neg hz, f_X5_digest_J142]
      obtain ⟨y, k1, k2⟩ := d23_v hU hi (by rw [← hU.2.1]; exact hz) x (f_X5_digest_L119 M f') 40 0 64 64 x (by omega) (by omega) (by omega)
      have z : nI 0 = (0 : Int32) := rfl
      rw [z] at k1 k2
      rw [k1, k2, b1_v, ltt_v, nI_s1]
      exact ih (i + 1) f f' _ (by omega) (by omega) (by omega)
theorem d98_v {B R T U V M : RG} (hU : UMr U M) (hB : B 4 = M 10) : ∀ (q i fuel fuel' : Nat) (x : Int64), i + q = 4 → q < fuel → q < fuel' → ∃ y, f_X4_digest_L98 B R T U V fuel x (nI i) = some y ∧ f_X5_digest_L92 M fuel' x (nI i) = some y := by
  intro q
  have e6 : (4 : Int32) = nI 4 := rfl
  induction q with
  | zero =>
    intro i fuel fuel' x h1 h2 h5
    obtain ⟨f, rfl⟩ : ∃ f, fuel = f + 1 := ⟨fuel - 1, by omega⟩
    obtain ⟨f', rfl⟩ : ∃ f, fuel' = f + 1 := ⟨fuel' - 1, by omega⟩
    have hge : nI 4 ≤ nI i := (nI_leI (by omega) (by omega)).mpr (by omega)
    rw [f_X4_digest_L98, f_X5_digest_L92, e6, if_pos hge, if_pos hge]
    exact d125_v hU 6 0 64 64 x (by omega) (by omega) (by omega)
  | succ q ih =>
    intro i fuel fuel' x h1 h2 h5
    obtain ⟨f, rfl⟩ : ∃ f, fuel = f + 1 := ⟨fuel - 1, by omega⟩
    obtain ⟨f', rfl⟩ : ∃ f, fuel' = f + 1 := ⟨fuel' - 1, by omega⟩
    have hlt : ¬ nI 4 ≤ nI i := by rw [nI_leI (by omega) (by omega)]; omega
    rw [f_X4_digest_L98, f_X5_digest_L92, e6, if_neg hlt, if_neg hlt, gd_i (by omega) (by omega), gd_i (by omega) (by omega), nI_cl (by omega), hB]
    simp only [ltt_v, nI_s1]
    exact ih (i + 1) f f' _ (by omega) (by omega) (by omega)
theorem d32_v {n : Nat} {B R T U V M : RG} (hTM : TMr n T M) (h3 : 3 ≤ n) (h4 : n ≤ 40) (hU : UMr U M) (hB : B 4 = M 10) : ∀ (q i fuel fuel' : Nat) (x : Int64), i + q = n → q < fuel → q < fuel' → ∃ y, f_X4_digest_L32 B R T U V fuel x (nI i) = some y ∧ f_X5_digest_L32 M fuel' x (nI i) = some y := by
  intro q
  induction q with
  | zero =>
    intro i fuel fuel' x h1 h2 h5
    obtain ⟨f, rfl⟩ : ∃ f, fuel = f + 1 := ⟨fuel - 1, by omega⟩
    obtain ⟨f', rfl⟩ : ∃ f, fuel' = f + 1 := ⟨fuel' - 1, by omega⟩
    have hge : nI n ≤ nI i := (nI_leI (by omega) (by omega)).mpr (by omega)
    rw [f_X4_digest_L32, f_X5_digest_L32, hTM.1, hTM.2.1, if_pos hge, if_pos hge]
    exact d98_v hU hB 4 0 64 64 x (by omega) (by omega) (by omega)
  | succ q ih =>
    intro i fuel fuel' x h1 h2 h5
    obtain ⟨f, rfl⟩ : ∃ f, fuel = f + 1 := ⟨fuel - 1, by omega⟩
    obtain ⟨f', rfl⟩ : ∃ f, fuel' = f + 1 := ⟨fuel' - 1, by omega⟩
    have hlt : ¬ nI n ≤ nI i := by rw [nI_leI (by omega) (by omega)]; omega
    rw [f_X4_digest_L32, f_X5_digest_L32, hTM.1, hTM.2.1, if_neg hlt, if_neg hlt]
    obtain ⟨y, k1, k2⟩ := d46_v (B := B) (R := R) (U := U) (V := V) hTM h3 h4 (by omega : i < n) (f_X4_digest_L32 B R T U V f) (f_X5_digest_L32 M f') 4 0 64 64 x (by omega) (by omega) (by omega)
    have z : nI 0 = (0 : Int32) := rfl
    rw [z] at k1 k2
    rw [k1, k2]
    exact ih (i + 1) f f' _ (by omega) (by omega) (by omega)
theorem d6_v {n : Nat} {B R T U V M : RG} (hTM : TMr n T M) (h3 : 3 ≤ n) (h4 : n ≤ 40) (hR : RMr R M) (hU : UMr U M) (hV : VMr V M) (hB : B 4 = M 10) : ∀ (q i fuel fuel' : Nat) (x : Int64), i + q = 5 → q < fuel → q < fuel' → ∃ y, f_X4_digest_L6 B R T U V fuel x (nI i) = some y ∧ f_X5_digest_L6 M fuel' x (nI i) = some y := by
  intro q
  have e5 : (5 : Int32) = nI 5 := rfl
  have e4 : (4 : Int32) = nI 4 := rfl
  induction q with
  | zero =>
    intro i fuel fuel' x h1 h2 h5
    obtain ⟨f, rfl⟩ : ∃ f, fuel = f + 1 := ⟨fuel - 1, by omega⟩
    obtain ⟨f', rfl⟩ : ∃ f, fuel' = f + 1 := ⟨fuel' - 1, by omega⟩
    rw [f_X4_digest_L6, f_X5_digest_L6, e5, e4, if_pos ((nI_leI (by omega) (by omega)).mpr (by omega)), if_pos ((nI_ltI (by omega) (by omega)).mpr (by omega))]
    exact d32_v hTM h3 h4 hU hB n 0 64 64 x (by omega) (by omega) (by omega)
  | succ q ih =>
    intro i fuel fuel' x h1 h2 h5
    obtain ⟨f, rfl⟩ : ∃ f, fuel = f + 1 := ⟨fuel - 1, by omega⟩
    obtain ⟨f', rfl⟩ : ∃ f, fuel' = f + 1 := ⟨fuel' - 1, by omega⟩
    obtain ⟨r, k1, k2⟩ := count_v hTM h3 h4 hR hU hV (by omega : i < 5)
    rw [f_X4_digest_L6, f_X5_digest_L6, e5, e4, if_neg (by rw [nI_leI (by omega) (by omega)]; omega), if_neg (by rw [nI_ltI (by omega) (by omega)]; omega), k1, k2]
    simp only [b1_v, ltt_v, nI_s1]
    exact ih (i + 1) f f' _ (by omega) (by omega) (by omega)
theorem eq_digest : EQ_digest := by
  intro c B L R T U V M Lm hc h
  have hu := h.up
  obtain ⟨⟨n, hTM, hTI⟩, hR, hU, hV, hB, hL⟩ := h
  obtain ⟨⟨h3, h4⟩, -⟩ := hTI
  obtain ⟨y, k1, k2⟩ := d6_v (B := B) hTM h3 h4 hR hU hV.2 hB.1 5 0 64 64 17 (by omega) (by omega) (by omega)
  exact ⟨y, k1, k2, hu⟩
