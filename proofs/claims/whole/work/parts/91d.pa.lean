theorem za (x : Int32) : (0 : Int32) + x = x := by
  rw [ieq]
  have e0 : (0 : Int32).toInt = 0 := rfl
  have := tlt x
  rw [tadd (by omega) (by omega)]
  omega
theorem TMr.rows {n : Nat} {T M M' : RG} (h : TMr n T M) (h3 : M' 3 = M 3) (h4 : M' 4 = M 4) (h5 : M' 5 = M 5) (h6 : M' 6 = M 6) (h7 : M' 7 = M 7) (h8 : M' 8 = M 8) (h9 : M' 9 = M 9) : TMr n T M' := by
  obtain ⟨t1, t2, t3, t4, t5, t6, t7, t8⟩ := h
  exact ⟨t1, by rw [h3]; exact t2, by rw [h4]; exact t3, by rw [h5]; exact t4, by rw [h6]; exact t5, by rw [h7]; exact t6, by rw [h8]; exact t7, by rw [h9]; exact t8⟩
/-- beds go down by two at most, at p alone -/
def dn2 (p : Int32) (T T' : RG) : Prop := ∀ k : Nat, (¬ p.toInt = (k : Int) → T' 1 k = T 1 k) ∧ (T 1 k).toInt - 2 ≤ (T' 1 k).toInt ∧ (T' 1 k).toInt ≤ (T 1 k).toInt
theorem dn2.refl (p : Int32) (T : RG) : dn2 p T T := fun k => ⟨fun _ => rfl, by omega, by omega⟩
theorem sink_v {n : Nat} {bd : Int} {T M : RG} (hM : TMr n T M) (hI : TIr n bd T) (hb0 : 10000 ≤ bd) (hb : bd + 2 ≤ 41000000) {j : Nat} (hj : j < n) {by_ : Int32} (hby : 0 ≤ by_.toInt ∧ by_.toInt ≤ 158) : ∃ r T', f_X1_sink T (nI j) by_ = some (r, T') ∧ (∀ s0 s1 x : Int32, s1 + s0 = by_ → ∃ M', f_X5_sink_J85 (nI j) x s0 s1 M = some (r, M') ∧ TMr n T' M' ∧ MO M M') ∧ TIr n (bd + 2) T' ∧ dn2 (nI j) T T' := by
  obtain ⟨⟨k3, k4⟩, kk, kb, ks, kh, kl, kc⟩ := id hI
  obtain ⟨hT7, hM3, e0, e1, e2, e3, e4, e5⟩ := id hM
  have g : ∀ {α : Type} (y : Option α), gd (inb (nI j) 40) y = y := fun y => gd_i (by omega) (by omega)
  have g100 : ∀ {α : Type} (y : Option α), gd (nz32 (100 : Int32)) y = y := fun y => gd_t (by decide)
  have cl := nI_cl (j := j) (by omega)
  have e100 : (100 : Int32).toInt = 100 := rfl
  have hh := kh j
  have hkept : (T 3 j + by_).toInt = (T 3 j).toInt + by_.toInt := tadd (by omega) (by omega)
  obtain ⟨kept, hkp⟩ : ∃ y, y = T 3 j + by_ := ⟨_, rfl⟩
  rw [← hkp] at hkept
  have hdiv : (kept / (100 : Int32)).toInt = kept.toInt / 100 := by
    rw [div32 (by rw [e100]; omega), e100, Int.tdiv_eq_ediv_of_nonneg (by omega)]
  obtain ⟨dn, hdn⟩ : ∃ y, y = kept / (100 : Int32) := ⟨_, rfl⟩
  rw [← hdn] at hdiv
  have hdnb : 0 ≤ dn.toInt ∧ dn.toInt ≤ 2 := by omega
  have hmul : (dn * (100 : Int32)).toInt = dn.toInt * 100 := by rw [tmul (by rw [e100]; omega) (by rw [e100]; omega), e100]
  have hrest : (kept - dn * (100 : Int32)).toInt = kept.toInt - dn.toInt * 100 := by rw [tsub (by rw [hmul]; omega) (by rw [hmul]; omega), hmul]
  obtain ⟨rest, hre⟩ : ∃ y, y = kept - dn * (100 : Int32) := ⟨_, rfl⟩
  rw [← hre] at hrest
  have hcomm : (100 : Int32) * dn = dn * (100 : Int32) := by
    rw [ieq, hmul, tmul (by rw [e100]; omega) (by rw [e100]; omega), e100]
    omega
  obtain ⟨w1, w2⟩ := put_row hM hI (by omega) (j := j) (f := 3) (fm := 7) (v := rest) (Or.inr (Or.inr (Or.inl ⟨rfl, rfl, by omega, by omega⟩)))
  have cls : f_X1_sink T (nI j) by_ = (if dn ≤ (0 : Int32) then some (dn, st T 3 j rest) else b1 (f_X1_setBed (st T 3 j rest) (nI j) (T 1 j - dn)) (fun T_10 => some (dn, T_10))) := by
    unfold f_X1_sink
    simp only [g, g100, cl, ltt_v, ← hkp, ← hdn, ← hre]
    rfl
  have mdl : ∀ s0 s1 x : Int32, s1 + s0 = by_ → ∃ M', f_X5_sink_J85 (nI j) x s0 s1 M = some (dn, M') ∧ M' 7 = upd (M 7) j rest ∧ M' 5 = upd (M 5) j (M 5 j - dn) ∧ ∀ gg, gg ≠ 5 → gg ≠ 7 → M' gg = M gg := by
    intro s0 s1 x hs
    refine ⟨st (st (st M 7 j kept) 7 j rest) 5 j (M 5 j - dn), ?_, ?_, rfl, fun gg a b => by rw [st_ne _ _ _ a, st_ne _ _ _ b, st_ne _ _ _ b]⟩
    · unfold f_X5_sink_J85
      have r7 : st M 7 j kept 7 j = kept := by rw [st_same, pk_us]
      have hk7 : M 7 j + by_ = kept := by rw [← e3, hkp]
      simp only [g, g100, cl, ltt_v, hs, hk7, r7, ← hdn, hcomm, ← hre]
      rfl
    · show upd (upd (M 7) j kept) j rest = upd (M 7) j rest
      funext k
      by_cases hk : k = j
      · rw [hk, pk_us, pk_us]
      · rw [pk_un hk, pk_un hk, pk_un hk]
  rw [cls]
  have z0i : (0 : Int32).toInt = 0 := rfl
  have hmo : ∀ M', (∀ gg, gg ≠ 5 → gg ≠ 7 → M' gg = M gg) → MO M M' := fun M' h gg a _ c _ => h gg a c
  by_cases hd : dn ≤ (0 : Int32)
  · rw [if_pos hd]
    rw [ile, z0i] at hd
    refine ⟨dn, st T 3 j rest, rfl, ?_, w2.mono (by omega), dn2.refl _ _⟩
    intro s0 s1 x hs
    obtain ⟨M', m1, m2, m3, m4⟩ := mdl s0 s1 x hs
    have hz : M 5 j - dn = M 5 j := by
      have hdz : dn = 0 := by rw [ieq, z0i]; omega
      have := tlt (M 5 j)
      rw [hdz, ieq, tsub (by rw [z0i]; omega) (by rw [z0i]; omega), z0i]
      omega
    have r5 : M' 5 = M 5 := by
      rw [m3, hz]
      funext k
      by_cases hk : k = j
      · rw [hk, pk_us]
      · rw [pk_un hk]
    refine ⟨M', m1, w1.rows ?_ ?_ ?_ ?_ ?_ ?_ ?_, hmo M' m4⟩
    · exact m4 3 (by omega) (by omega)
    · exact m4 4 (by omega) (by omega)
    · exact r5
    · exact m4 6 (by omega) (by omega)
    · rw [m2]; rfl
    · exact m4 8 (by omega) (by omega)
    · exact m4 9 (by omega) (by omega)
  · rw [if_neg hd]
    have hbj := kb j
    have hsub : (T 1 j - dn).toInt = (T 1 j).toInt - dn.toInt := tsub (by omega) (by omega)
    obtain ⟨T', g1, g2, g3, g4, g5⟩ := put_bed w1 w2 (bd' := bd + 2) (by omega) hb hj (v := T 1 j - dn) ⟨by omega, by omega⟩
    rw [g1, b1_v]
    refine ⟨dn, T', rfl, ?_, g5, ?_⟩
    · intro s0 s1 x hs
      obtain ⟨M', m1, m2, m3, m4⟩ := mdl s0 s1 x hs
      refine ⟨M', m1, g4.rows ?_ ?_ ?_ ?_ ?_ ?_ ?_, hmo M' m4⟩
      · exact m4 3 (by omega) (by omega)
      · exact m4 4 (by omega) (by omega)
      · rw [m3, ← e1]; show upd (T 1) j _ = upd (M 5) j _; rw [e1]
      · exact m4 6 (by omega) (by omega)
      · rw [m2]; rfl
      · exact m4 8 (by omega) (by omega)
      · exact m4 9 (by omega) (by omega)
    · intro k
      have r1 : st T 3 j rest 1 = T 1 := rfl
      rw [g3, r1]
      by_cases hk : k = j
      · rw [hk, pk_us, hsub]
        exact ⟨fun q => absurd (nI_ti (by omega)) q, by omega, by omega⟩
      · rw [pk_un hk]
        exact ⟨fun _ => rfl, by omega, by omega⟩
theorem cutShare_v {x y : Int32} (hy : 0 < y.toInt) : f_X4_cutShare x y = some (x / y) := by
  unfold f_X4_cutShare
  have e1 : (1 : Int32).toInt = 1 := rfl
  rw [if_pos (by rw [ile, e1]; omega), gd_t (by unfold nz32; rw [Bool.not_eq_true', beq_eq_false_iff_ne]; intro h; rw [h] at hy; exact absurd hy (by decide))]
theorem nzp {y : Int32} (hy : 0 < y.toInt) : nz32 y = true := by
  unfold nz32
  rw [Bool.not_eq_true', beq_eq_false_iff_ne]
  intro h
  rw [h] at hy
  exact absurd hy (by decide)
/-- one that bears: both sides -/
theorem bear_v {n : Nat} {bd : Int} {R T M : RG} (hM : TMr n T M) (hI : TIr n bd T) (hR1 : R 1 = M 13) (hRb : ∀ i, -128 ≤ (R 1 i).toInt ∧ (R 1 i).toInt ≤ 127) (hb0 : 10000 ≤ bd) (hb : bd + 2 ≤ 41000000) {j : Nat} (hj : j < n) {load part parts : Int32} (hp : ¬ part = 0) (hps : 0 < parts.toInt) {sh : Int32} (hsh : load * part / parts = sh) (hshb : 0 ≤ sh.toInt ∧ sh.toInt ≤ 1000) : ∃ r T' M', f_X2_settle R T (nI j) load part parts = some (r, T') ∧ f_X5_sink M (nI j) sh = some (r, M') ∧ TMr n T' M' ∧ TIr n (bd + 2) T' ∧ MO M M' ∧ dn2 (nI j) T T' := by
  obtain ⟨⟨k3, k4⟩, kk, kb, ks, kh, kl, kc⟩ := id hI
  obtain ⟨hT7, hM3, e0, e1, e2, e3, e4, e5⟩ := id hM
  have g : ∀ {α : Type} (y : Option α), gd (inb (nI j) 40) y = y := fun y => gd_i (by omega) (by omega)
  have cl := nI_cl (j := j) (by omega)
  have hst := ks j (by omega)
  have g4 : ∀ {α : Type} (y : Option α), gd (nz32 (4 : Int32)) y = y := fun y => gd_t (by decide)
  have e15 : (15 : Int32).toInt = 15 := rfl
  have e4i : (4 : Int32).toInt = 4 := rfl
  have z0i : (0 : Int32).toInt = 0 := rfl
  -- the place in the table
  have hq : (sh / T 2 j).toInt = sh.toInt / (T 2 j).toInt := by rw [div32 (by omega), Int.tdiv_eq_ediv_of_nonneg (by omega)]
  have hq0 : 0 ≤ sh.toInt / (T 2 j).toInt := Int.ediv_nonneg (by omega) (by omega)
  obtain ⟨q, hq1, hq2, hq3⟩ : ∃ q : Nat, (if (15 : Int32) < sh / T 2 j then (15 : Int32) else sh / T 2 j) = nI q ∧ q < 16 ∧ (if sh / T 2 j ≤ (15 : Int32) then sh / T 2 j else (15 : Int32)) = nI q := by
    by_cases c1 : (15 : Int32) < sh / T 2 j
    · rw [if_pos c1, if_neg (by rw [ile]; rw [ilt] at c1; omega)]
      exact ⟨15, rfl, by omega, rfl⟩
    · rw [if_neg c1, if_pos (by rw [ile]; rw [ilt] at c1; omega)]
      rw [ilt, e15, hq] at c1
      have := nI_eq_of (x := sh / T 2 j) (n := (sh.toInt / (T 2 j).toInt).toNat) (by rw [hq]; omega) (by omega)
      exact ⟨_, this, by omega, this⟩
  -- the sinking
  have hrb := hRb q
  obtain ⟨v, hv1, hv2, hv3⟩ : ∃ v : Int32, (if (0 : Int32) < R 1 q then R 1 q else (0 : Int32)) = v ∧ (0 ≤ v.toInt ∧ v.toInt ≤ 127) ∧ (if (0 : Int32) ≤ R 1 q then R 1 q else (0 : Int32)) = v := by
    by_cases c1 : (0 : Int32) < R 1 q
    · rw [if_pos c1, if_pos (by rw [ile]; rw [ilt] at c1; omega)]
      rw [ilt, z0i] at c1
      exact ⟨_, rfl, by omega, rfl⟩
    · rw [if_neg c1]
      by_cases c2 : (0 : Int32) ≤ R 1 q
      · rw [if_pos c2]
        rw [ilt, z0i] at c1
        rw [ile, z0i] at c2
        exact ⟨0, rfl, by decide, by rw [ieq, z0i]; omega⟩
      · rw [if_neg c2]
        exact ⟨0, rfl, by decide, rfl⟩
  have hd4 : (v / (4 : Int32)).toInt = v.toInt / 4 := by rw [div32 (by rw [e4i]; omega), e4i, Int.tdiv_eq_ediv_of_nonneg (by omega)]
  have hadd : (v + v / (4 : Int32)).toInt = v.toInt + v.toInt / 4 := by rw [tadd (by rw [hd4]; omega) (by rw [hd4]; omega), hd4]
  have hsubv : (v - v / (4 : Int32)).toInt = v.toInt - v.toInt / 4 := by rw [tsub (by rw [hd4]; omega) (by rw [hd4]; omega), hd4]
  have hneg : v + -(v / (4 : Int32)) = v - v / (4 : Int32) := by
    have en : (-(v / (4 : Int32))).toInt = -(v.toInt / 4) := by
      rw [Int32.toInt_neg, hd4]
      exact Int.bmod_eq_of_le (by omega) (by omega)
    rw [ieq, hsubv, tadd (by rw [en]; omega) (by rw [en]; omega), en]
    omega
  -- the model down to J85
  have mdl : ∀ X, (if T 0 j = 2 then f_X5_sink_J85 (nI j) X (v / (4 : Int32)) v M else if T 0 j = 0 then f_X5_sink_J85 (nI j) X (0 : Int32) v M else f_X5_sink_J85 (nI j) X (-(v / (4 : Int32))) v M) = f_X5_sink_J46 (nI j) X v M := by
    intro X
    unfold f_X5_sink_J46
    simp only [g, g4, cl, ← e0]
  have mdl2 : f_X5_sink M (nI j) sh = f_X5_sink_J46 (nI j) sh v M := by
    have hnz : ∀ {α : Type} (y : Option α), gd (nz32 (T 2 j)) y = y := fun y => gd_t (nzp (by omega))
    have j26 : f_X5_sink_J26 (nI j) sh (nI q) M = f_X5_sink_J46 (nI j) sh v M := by
      unfold f_X5_sink_J26
      rw [gd_i hq2 (by omega), gd_i hq2 (by omega), nI_cl (by omega), ← hR1]
      by_cases c : (0 : Int32) ≤ R 1 q
      · rw [if_pos c]; rw [if_pos c] at hv3; rw [hv3]
      · rw [if_neg c]; rw [if_neg c] at hv3; rw [hv3]
    unfold f_X5_sink
    simp only [g, cl, ← e2, hnz]
    by_cases c : sh / T 2 j ≤ (15 : Int32)
    · rw [if_pos c]; rw [if_pos c] at hq3; rw [hq3, j26]
    · rw [if_neg c]; rw [if_neg c] at hq3; rw [hq3, j26]
  -- the class
  have iso : ∀ kd : Int32, f_X1_isOf T (nI j) kd = some (if T 0 j = kd then 1 else if kd = 1 then (if T 0 j = 3 then 1 else 0) else 0) := by
    intro kd
    unfold f_X1_isOf f_X1_isOf_J25
    simp only [g, cl]
    by_cases c1 : T 0 j = kd
    · rw [if_pos c1, if_pos c1]
    · rw [if_neg c1, if_neg c1]
      by_cases c2 : kd = 1
      · rw [if_pos c2, if_pos c2]
        by_cases c3 : T 0 j = 3
        · rw [if_pos c3, if_pos c3]
        · rw [if_neg c3, if_neg c3]
      · rw [if_neg c2, if_neg c2]
  have cls : ∀ by_, (by_ = if T 0 j = 2 then v + v / (4 : Int32) else if T 0 j = 0 then v else v - v / (4 : Int32)) → f_X2_settle R T (nI j) load part parts = b2 (f_X1_sink T (nI j) by_) (fun r T1 => some (r, T1)) := by
    intro by_ hby
    have kj := kk j
    unfold f_X2_settle
    rw [if_neg hp, has_t k3 k4 hT7 (okN_of hj (by omega)), b1_v, if_neg (by decide), cutShare_v hps, b1_v, hsh]
    simp only [g, cl]
    rw [cutShare_v (by omega), b1_v, ltt_v, hq1, gd_i hq2 (by omega), nI_cl (by omega), ltt_v, hv1, iso, iso]
    simp only [b1_v, g4, ltt_v, f_X2_settle_J96]
    have hc : T 0 j = 0 ∨ T 0 j = 1 ∨ T 0 j = 2 ∨ T 0 j = 3 := by
      have a1 : (1 : Int32).toInt = 1 := rfl
      have a2 : (2 : Int32).toInt = 2 := rfl
      have a3 : (3 : Int32).toInt = 3 := rfl
      rw [ieq, ieq, ieq, ieq]
      omega
    rcases hc with hc | hc | hc | hc
    · rw [hc] at hby ⊢
      rw [if_neg (by decide), if_pos rfl] at hby
      rw [if_pos (by decide), if_pos (by decide), hby]
    · rw [hc] at hby ⊢
      rw [if_neg (by decide), if_neg (by decide)] at hby
      rw [if_neg (by decide), hby]
    · rw [hc] at hby ⊢
      rw [if_pos rfl] at hby
      rw [if_pos (by decide), if_neg (by decide), hby]
    · rw [hc] at hby ⊢
      rw [if_neg (by decide), if_neg (by decide)] at hby
      rw [if_neg (by decide), hby]
  obtain ⟨by_, hby⟩ : ∃ y, y = if T 0 j = 2 then v + v / (4 : Int32) else if T 0 j = 0 then v else v - v / (4 : Int32) := ⟨_, rfl⟩
  have hbyb : 0 ≤ by_.toInt ∧ by_.toInt ≤ 158 := by
    rw [hby]
    by_cases c1 : T 0 j = 2
    · rw [if_pos c1]; omega
    · rw [if_neg c1]
      by_cases c2 : T 0 j = 0
      · rw [if_pos c2]; omega
      · rw [if_neg c2]; omega
  obtain ⟨r, T', s1, s2, s3, s4⟩ := sink_v hM hI hb0 hb hj hbyb
  rw [cls by_ hby, s1, b2_v, mdl2, ← mdl]
  by_cases c1 : T 0 j = 2
  · rw [if_pos c1] at hby
    obtain ⟨M', m1, m2, m3⟩ := s2 (v / (4 : Int32)) v sh hby.symm
    rw [if_pos c1]
    exact ⟨r, T', M', rfl, m1, m2, s3, m3, s4⟩
  · rw [if_neg c1] at hby
    rw [if_neg c1]
    by_cases c2 : T 0 j = 0
    · rw [if_pos c2] at hby
      obtain ⟨M', m1, m2, m3⟩ := s2 0 v sh (by rw [a0, hby])
      rw [if_pos c2]
      exact ⟨r, T', M', rfl, m1, m2, s3, m3, s4⟩
    · rw [if_neg c2] at hby
      obtain ⟨M', m1, m2, m3⟩ := s2 (-(v / (4 : Int32))) v sh (by rw [hneg, hby])
      rw [if_neg c2]
      exact ⟨r, T', M', rfl, m1, m2, s3, m3, s4⟩
/-- does it bear: both sides -/
theorem bears_v {n : Nat} {bd : Int} {T M : RG} (hM : TMr n T M) (hI : TIr n bd T) (hb : bd ≤ 41000000) (p : Int32) : ∃ r T', f_X1_bears T p = some (r, T') ∧ f_X5_bears M p = some r ∧ (r = 0 ∨ r = 1) ∧ (r = 1 → okN n p) ∧ TMr n T' M ∧ TIr n bd T' ∧ T' 1 = T 1 := by
  obtain ⟨⟨k3, k4⟩, kk, kb, ks, kh, kl, kc⟩ := id hI
  obtain ⟨hT7, hM3, e0, e1, e2, e3, e4, e5⟩ := id hM
  have hbd := hI.bnd hb
  unfold f_X1_bears f_X5_bears
  by_cases hp : okN n p
  · obtain ⟨j, hj, rfl⟩ := okN_nI hp (by omega)
    have g : ∀ {α : Type} (y : Option α), gd (inb (nI j) 40) y = y := fun y => gd_i (by omega) (by omega)
    have cl := nI_cl (j := j) (by omega)
    rw [stands_n k3 k4 hT7 hj, isS_t k3 k4 hM3 hp]
    obtain ⟨hh1, hh2⟩ := htv_G k3 k4 hT7 hbd hj
    simp only [b1_v, lq10, if_false, g, cl, ← e5]
    by_cases hl : T 5 j = 0
    · have hge : (T 1 j).toInt ≤ (htv T j).toInt := by
        rcases hh2 with q | q | q
        · exact q.2.1
        · exact absurd hl q.1
        · exact absurd hl q.1
      rw [if_pos hl, if_pos hl, if_neg (by decide), railAt_v k3 k4 hT7 hM3 hbd e1 e5 hj, b1_v, ← e1]
      -- a remembered row 6
      have mem : ∀ v : Int32, (v = 1 ∧ htv T j = T 1 j ∨ v = 2 ∧ T 1 j < htv T j) → TMr n (st T 6 j v) M ∧ TIr n bd (st T 6 j v) := by
        intro v hv
        refine ⟨⟨hT7, hM3, e0, e1, e2, e3, e4, e5⟩, ⟨⟨k3, k4⟩, kk, kb, ks, kh, kl, ?_⟩⟩
        intro i hi hli
        have hsame : htv (st T 6 j v) i = htv T i := htv_near k3 k4 hT7 (by rw [st_ne T j v (by omega)]; exact hT7) hbd (by rw [st_ne T j v (by omega)]; exact hbd) hi hli (fun k _ _ => ⟨by rw [st_ne T j v (by omega)], by rw [st_ne T j v (by omega)]⟩)
        rw [hsame]
        show upd (T 6) j v i = 0 ∨ (upd (T 6) j v i = 1 ∧ htv T i = T 1 i) ∨ (upd (T 6) j v i = 2 ∧ T 1 i < htv T i)
        by_cases hij : i = j
        · rw [hij, pk_us]
          rcases hv with hv | hv
          · exact Or.inr (Or.inl hv)
          · exact Or.inr (Or.inr hv)
        · rw [pk_un hij]; exact kc i hi hli
      rcases kc j hj hl with h6 | ⟨h6, h7⟩ | ⟨h6, h7⟩
      · rw [if_pos h6, hh1, b1_v]
        simp only [g, cl, f_X1_bears_J43, f_X1_bears_J44, ltt_v]
        have r6 : ∀ v, st T 6 j v 6 j = v := fun v => by rw [st_same, pk_us]
        by_cases hc : htv T j ≤ T 1 j
        · have heq : htv T j = T 1 j := by rw [ieq]; rw [ile] at hc; omega
          obtain ⟨m1, m2⟩ := mem 1 (Or.inl ⟨rfl, heq⟩)
          rw [if_pos hc, r6, if_pos rfl, if_pos heq]
          exact ⟨1, _, rfl, rfl, Or.inr rfl, fun _ => hp, m1, m2, rfl⟩
        · have hlt : T 1 j < htv T j := by rw [ilt]; rw [ile] at hc; omega
          have hne : ¬ htv T j = T 1 j := by rw [ieq]; rw [ile] at hc; omega
          obtain ⟨m1, m2⟩ := mem 2 (Or.inr ⟨rfl, hlt⟩)
          rw [if_neg hc, r6, if_neg (by decide), if_neg hne]
          exact ⟨0, _, rfl, rfl, Or.inl rfl, fun q => absurd q (by decide), m1, m2, rfl⟩
      · rw [if_neg (by rw [h6]; decide), f_X1_bears_J44, g, cl, if_pos h6, if_pos h7]
        exact ⟨1, T, rfl, rfl, Or.inr rfl, fun _ => hp, hM, hI, rfl⟩
      · have hne : ¬ htv T j = T 1 j := by rw [ieq]; rw [ilt] at h7; omega
        rw [if_neg (by rw [h6]; decide), f_X1_bears_J44, g, cl, if_neg (by rw [h6]; decide), if_neg hne]
        exact ⟨0, T, rfl, rfl, Or.inl rfl, fun q => absurd q (by decide), hM, hI, rfl⟩
    · rw [if_neg hl, if_neg hl, if_pos rfl]
      exact ⟨0, T, rfl, rfl, Or.inl rfl, fun q => absurd q (by decide), hM, hI, rfl⟩
  · rw [stands_f k3 k4 hT7 hp, isS_f k3 k4 hM3 hp]
    exact ⟨0, T, rfl, rfl, Or.inl rfl, fun q => absurd q (by decide), hM, hI, rfl⟩

theorem TIr.cut {n : Nat} {bd bd' : Int} {T : RG} (h : TIr n bd T) (k : ∀ i, -bd' ≤ (T 1 i).toInt) : TIr n bd' T := by
  obtain ⟨h1, h2, h3, h4⟩ := h
  exact ⟨h1, h2, fun i => ⟨k i, (h3 i).2⟩, h4⟩
/-- one share: both sides -/
theorem share_v {n : Nat} {bd : Int} {R T M : RG} (hM : TMr n T M) (hI : TIr n bd T) (hR1 : R 1 = M 13) (hRb : ∀ i, -128 ≤ (R 1 i).toInt ∧ (R 1 i).toInt ≤ 127) (hb0 : 10000 ≤ bd) (hb : bd + 2 ≤ 41000000) {p b : Int32} (hbr : b = 0 ∨ b = 1) (hok : b = 1 → okN n p) {load m parts : Int32} (hm : m = 1 ∨ m = 2) (hl : 0 ≤ load.toInt ∧ load.toInt ≤ 375) (hps : b = 1 → 0 < parts.toInt) : ∃ r T' M', f_X2_settle R T p load (if b = 0 then 0 else m) parts = some (r, T') ∧ TMr n T' M' ∧ TIr n (bd + 2) T' ∧ MO M M' ∧ dn2 p T T' ∧ (b = 0 → r = 0 ∧ M' = M) ∧ (b = 1 → f_X5_sink M p (load * m / parts) = some (r, M')) := by
  rcases hbr with rfl | rfl
  · rw [if_pos rfl]
    unfold f_X2_settle
    rw [if_pos rfl]
    exact ⟨0, T, M, rfl, hM, hI.mono (by omega), MO.refl _, dn2.refl _ _, fun _ => ⟨rfl, rfl⟩, fun q => absurd q (by decide)⟩
  · rw [if_neg (by decide)]
    obtain ⟨j, hj, rfl⟩ := okN_nI (hok rfl) (by have := hI.1.2; omega)
    have hp := hps rfl
    have hmb : 1 ≤ m.toInt ∧ m.toInt ≤ 2 ∧ ¬ m = 0 := by
      rcases hm with rfl | rfl
      · decide
      · decide
    have hmul : (load * m).toInt = load.toInt ∨ (load * m).toInt = 2 * load.toInt := by
      have e1 : (1 : Int32).toInt = 1 := rfl
      have e2 : (2 : Int32).toInt = 2 := rfl
      rcases hm with rfl | rfl
      · rw [tmul (by rw [e1]; omega) (by rw [e1]; omega), e1]; omega
      · rw [tmul (by rw [e2]; omega) (by rw [e2]; omega), e2]; omega
    have hs : (load * m / parts).toInt = (load * m).toInt / parts.toInt := by
      rw [div32 (by omega), Int.tdiv_eq_ediv_of_nonneg (by omega)]
    have hs0 : 0 ≤ (load * m).toInt / parts.toInt := Int.ediv_nonneg (by omega) (by omega)
    have hs1 : (load * m).toInt / parts.toInt ≤ (load * m).toInt := Int.ediv_le_self _ (by omega)
    obtain ⟨r, T', M', q1, q2, q3, q4, q5, q6⟩ := bear_v hM hI hR1 hRb hb0 hb hj (load := load) (part := m) (parts := parts) hmb.2.2 hp (sh := load * m / parts) rfl ⟨by omega, by omega⟩
    exact ⟨r, T', M', q1, q3, q4, q5, q6, fun q => absurd q (by decide), fun _ => q2⟩
/-- behind the joint -/
theorem ptail_v {n : Nat} {bd : Int} {R T M : RG} (hM : TMr n T M) (hI : TIr n bd T) (hR1 : R 1 = M 13) (hRb : ∀ i, -128 ≤ (R 1 i).toInt ∧ (R 1 i).toInt ≤ 127) (hb0 : 10000 ≤ bd) (hb : bd + 6 ≤ 41000000) {j : Nat} (hj : j < n) {load : Int32} (hl : 0 ≤ load.toInt ∧ load.toInt ≤ 375) (w : Int32) : ∃ r T' M', f_X2_pressAt_J28 R (nI j) w load T = some (r, T') ∧ b1 (f_X5_bears M (nI j - (1 : Int32))) (fun r18 => b1 (f_X5_bears M (nI j)) (fun r19 => b1 (f_X5_bears M (nI j + (1 : Int32))) (fun r20 => if r18 = (0 : Int32) then (f_X5_rolls_J93 (nI j) w load r18 r19 r20 (0 : Int32) M) else (f_X5_rolls_J93 (nI j) w load r18 r19 r20 (1 : Int32) M)))) = some (r, M') ∧ TMr n T' M' ∧ TIr n (bd + 2) T' ∧ MO M M' := by
  obtain ⟨⟨k3, k4⟩, -⟩ := id hI
  obtain ⟨ra, T1, a1, a2, a3, a4, a5, a6, a7⟩ := bears_v hM hI (by omega) (nI j - 1)
  obtain ⟨rb, T2, b1', b2', b3', b4', b5', b6', b7'⟩ := bears_v a5 a6 (by omega) (nI j)
  obtain ⟨rc, T3, c1, c2, c3, c4, c5, c6, c7⟩ := bears_v b5' b6' (by omega) (nI j + 1)
  have hT31 : T3 1 = T 1 := by rw [c7, b7', a7]
  rw [a2, b2', c2]
  simp only [b1_v]
  obtain ⟨P, hP⟩ : ∃ P : Int32, P = ((if ra = 0 then (0 : Int32) else 1) + (if rb = 0 then (0 : Int32) else 2)) + (if rc = 0 then (0 : Int32) else 1) := ⟨_, rfl⟩
  have hPp : ra = 1 ∨ rb = 1 ∨ rc = 1 → 0 < P.toInt := by
    intro h
    rw [hP]
    rcases a3 with rfl | rfl <;> rcases b3' with rfl | rfl <;> rcases c3 with rfl | rfl
    · rcases h with h | h | h <;> exact absurd h (by decide)
    all_goals decide
  have cls : f_X2_pressAt_J28 R (nI j) w load T = b2 (f_X2_settle R T3 (nI j - (1 : Int32)) load (if ra = 0 then 0 else 1) P) (fun r2 (T_2 : Nat → Nat → Int32) => b2 (f_X2_settle R T_2 (nI j) load (if rb = 0 then 0 else 2) P) (fun r3 (T_3 : Nat → Nat → Int32) => b2 (f_X2_settle R T_3 (nI j + (1 : Int32)) load (if rc = 0 then 0 else 1) P) (fun r4 (T_4 : Nat → Nat → Int32) => some (((r2 + r3) + r4), T_4)))) := by
    have e1 : f_X2_pressAt_J28 R (nI j) w load T = f_X2_pressAt_J43 R (nI j) w load (if ra = 0 then 0 else 1) T1 := by
      unfold f_X2_pressAt_J28
      rw [a1, b2_v]
      by_cases c : ra = 0
      · rw [if_pos c, if_pos c]
      · rw [if_neg c, if_neg c]
    have e2 : ∀ x, f_X2_pressAt_J43 R (nI j) w load x T1 = f_X2_pressAt_J58 R (nI j) w load x (if rb = 0 then 0 else 2) T2 := by
      intro x
      unfold f_X2_pressAt_J43
      rw [b1', b2_v]
      by_cases c : rb = 0
      · rw [if_pos c, if_pos c]
      · rw [if_neg c, if_neg c]
    have e3 : ∀ x y, f_X2_pressAt_J58 R (nI j) w load x y T2 = f_X2_pressAt_J75 R (nI j) w load x y (if rc = 0 then 0 else 1) T3 := by
      intro x y
      unfold f_X2_pressAt_J58
      rw [c1, b2_v]
      by_cases c : rc = 0
      · rw [if_pos c, if_pos c]
      · rw [if_neg c, if_neg c]
    rw [e1, e2, e3]
    unfold f_X2_pressAt_J75
    rw [← hP, ltt_v]
  have mdl : (if ra = (0 : Int32) then (f_X5_rolls_J93 (nI j) w load ra rb rc (0 : Int32) M) else (f_X5_rolls_J93 (nI j) w load ra rb rc (1 : Int32) M)) = (if ra = (0 : Int32) then f_X5_rolls_J142 (nI j) w load rb rc P (0 : Int32) M else (gd (nz32 P) (b2 (f_X5_sink M (nI j - (1 : Int32)) (load / P)) (fun r12 (M_12 : Nat → Nat → Int32) => ltt (((0 : Int32) + r12)) (fun v13 => f_X5_rolls_J142 (nI j) w load rb rc P v13 M_12))))) := by
    have e1 : (if ra = (0 : Int32) then (f_X5_rolls_J93 (nI j) w load ra rb rc (0 : Int32) M) else (f_X5_rolls_J93 (nI j) w load ra rb rc (1 : Int32) M)) = f_X5_rolls_J93 (nI j) w load ra rb rc (if ra = 0 then 0 else 1) M := by
      by_cases c : ra = 0
      · rw [if_pos c, if_pos c]
      · rw [if_neg c, if_neg c]
    have e2 : ∀ x, f_X5_rolls_J93 (nI j) w load ra rb rc x M = f_X5_rolls_J103 (nI j) w load ra rb rc (if rb = 0 then 0 else 2) x M := by
      intro x
      unfold f_X5_rolls_J93
      by_cases c : rb = 0
      · rw [if_pos c, if_pos c]
      · rw [if_neg c, if_neg c]
    have e3 : ∀ x y, f_X5_rolls_J103 (nI j) w load ra rb rc y x M = f_X5_rolls_J114 (nI j) w load ra rb rc (if rc = 0 then 0 else 1) (x + y) M := by
      intro x y
      unfold f_X5_rolls_J103
      by_cases c : rc = 0
      · rw [if_pos c, if_pos c]
      · rw [if_neg c, if_neg c]
    rw [e1, e2, e3]
    unfold f_X5_rolls_J114
    rw [← hP, ltt_v]
  rw [cls, mdl]
  obtain ⟨r1, X1, M1, s1, s2, s3, s4, s5, s6, s7⟩ := share_v c5 c6 hR1 hRb hb0 (by omega) a3 a4 (m := 1) (parts := P) (Or.inl rfl) hl (fun q => hPp (Or.inl q))
  have hR1' : R 1 = M1 13 := by rw [hR1]; exact (s4 13 (by omega) (by omega) (by omega) (by omega)).symm
  obtain ⟨r2, X2, M2, t1, t2, t3, t4, t5, t6, t7⟩ := share_v s2 s3 hR1' hRb (by omega) (by omega) b3' b4' (m := 2) (parts := P) (Or.inr rfl) hl (fun q => hPp (Or.inr (Or.inl q)))
  have hR1'' : R 1 = M2 13 := by rw [hR1']; exact (t4 13 (by omega) (by omega) (by omega) (by omega)).symm
  obtain ⟨r3, X3, M3, u1, u2, u3, u4, u5, u6, u7⟩ := share_v t2 t3 hR1'' hRb (by omega) (by omega) c3 c4 (m := 1) (parts := P) (Or.inl rfl) hl (fun q => hPp (Or.inr (Or.inr q)))
  rw [s1, b2_v, t1, b2_v, u1, b2_v]
  have m1 : load * 1 = load := by
    have e1 : (1 : Int32).toInt = 1 := rfl
    rw [ieq, tmul (by rw [e1]; omega) (by rw [e1]; omega), e1]; omega
  have m2 : load * 2 = 2 * load := Int32.mul_comm _ _
  rw [m1] at s7 u7
  rw [m2] at t7
  refine ⟨_, X3, M3, rfl, ?_, u2, ?_, (s4.trans t4).trans u4⟩
  · have f1 : (if ra = (0 : Int32) then f_X5_rolls_J142 (nI j) w load rb rc P (0 : Int32) M else (gd (nz32 P) (b2 (f_X5_sink M (nI j - (1 : Int32)) (load / P)) (fun r12 (M_12 : Nat → Nat → Int32) => ltt (((0 : Int32) + r12)) (fun v13 => f_X5_rolls_J142 (nI j) w load rb rc P v13 M_12))))) = f_X5_rolls_J142 (nI j) w load rb rc P r1 M1 := by
      rcases a3 with c | c
      · obtain ⟨q1, q2⟩ := s6 c
        rw [if_pos c, q1, q2]
      · rw [if_neg (by rw [c]; decide), gd_t (nzp (hPp (Or.inl c))), s7 c, b2_v, ltt_v, za]
    have f2 : f_X5_rolls_J142 (nI j) w load rb rc P r1 M1 = f_X5_rolls_J164 (nI j) w load rc P (r1 + r2) M2 := by
      unfold f_X5_rolls_J142
      rcases b3' with c | c
      · obtain ⟨q1, q2⟩ := t6 c
        rw [if_pos c, q1, q2, a0]
      · rw [if_neg (by rw [c]; decide), gd_t (nzp (hPp (Or.inr (Or.inl c)))), t7 c, b2_v, ltt_v]
    have f3 : f_X5_rolls_J164 (nI j) w load rc P (r1 + r2) M2 = some (r1 + r2 + r3, M3) := by
      unfold f_X5_rolls_J164
      rcases c3 with c | c
      · obtain ⟨q1, q2⟩ := u6 c
        rw [if_pos c, q1, q2, a0]
      · rw [if_neg (by rw [c]; decide), gd_t (nzp (hPp (Or.inr (Or.inr c)))), u7 c, b2_v, ltt_v]
    rw [f1, f2, f3]
  · refine u3.cut (fun i => ?_)
    obtain ⟨x1, x2, x3⟩ := s5 i
    obtain ⟨y1, y2, y3⟩ := t5 i
    obtain ⟨w1, w2, w3⟩ := u5 i
    have hi := (hI.2.2.1 i).1
    rw [← hT31] at hi
    have e1 : (1 : Int32).toInt = 1 := rfl
    have hjj := nI_ti (j := j) (by omega)
    have hm : (nI j - 1).toInt = (j : Int) - 1 := by rw [tsub (by rw [hjj, e1]; omega) (by rw [hjj, e1]; omega), hjj, e1]
    have hp : (nI j + 1).toInt = (j : Int) + 1 := by rw [tadd (by rw [hjj, e1]; omega) (by rw [hjj, e1]; omega), hjj, e1]
    rw [hm] at x1
    rw [hjj] at y1
    rw [hp] at w1
    by_cases q1 : (j : Int) - 1 = (i : Int)
    · rw [w1 (by omega), y1 (by omega)]; omega
    · rw [x1 q1] at y1 y2 y3
      by_cases q2 : (j : Int) = (i : Int)
      · rw [w1 (by omega)]; omega
      · rw [y1 q2] at w2
        omega
/-- one axle on one sleeper: both sides -/
theorem pressAt_v {n : Nat} {bd : Int} {R T M : RG} (hM : TMr n T M) (hI : TIr n bd T) (hR1 : R 1 = M 13) (hRb : ∀ i, -128 ≤ (R 1 i).toInt ∧ (R 1 i).toInt ≤ 127) (hb0 : 10000 ≤ bd) (hb : bd + 6 ≤ 41000000) {j : Nat} (hj : j < n) {w : Int32} (hw : 0 ≤ w.toInt ∧ w.toInt ≤ 250) : ∃ r T' M', f_X2_pressAt R T (nI j) w = some (r, T') ∧ f_X5_rolls M (nI j) w = some (r, M') ∧ TMr n T' M' ∧ TIr n (bd + 2) T' ∧ MO M M' := by
  obtain ⟨⟨k3, k4⟩, kk, kb, ks, kh, kl, kc⟩ := id hI
  obtain ⟨hT7, hM3, e0, e1, e2, e3, e4, e5⟩ := id hM
  have g : ∀ {α : Type} (y : Option α), gd (inb (nI j) 40) y = y := fun y => gd_i (by omega) (by omega)
  have g2 : ∀ {α : Type} (y : Option α), gd (nz32 (2 : Int32)) y = y := fun y => gd_t (by decide)
  have cl := nI_cl (j := j) (by omega)
  have i2 : (2 : Int32).toInt = 2 := rfl
  have z0i : (0 : Int32).toInt = 0 := rfl
  have hh : (w / (2 : Int32)).toInt = w.toInt / 2 := by rw [div32 (by rw [i2]; omega), i2, Int.tdiv_eq_ediv_of_nonneg (by omega)]
  have hadd : (w + w / (2 : Int32)).toInt = w.toInt + w.toInt / 2 := by rw [tadd (by rw [hh]; omega) (by rw [hh]; omega), hh]
  -- a joint with a counted jolt or without
  have hjo : f_X1_jointAt T (nI j) = some (if T 5 j = 0 ∧ T 0 j = 3 then 1 else 0) := by
    unfold f_X1_jointAt
    rw [stands_n k3 k4 hT7 hj, b1_v]
    by_cases c : T 5 j = 0
    · rw [if_pos c, if_neg (by decide), g, cl]
      by_cases c' : T 0 j = 3
      · rw [if_pos c', if_pos ⟨c, c'⟩]
      · rw [if_neg c', if_neg (fun q => c' q.2)]
    · rw [if_neg c, if_pos rfl, if_neg (fun q => c q.1)]
  have hro : f_X5_rolls M (nI j) w = f_X5_rolls_J24 (nI j) w (if T 5 j = 0 ∧ T 0 j = 3 then 1 else 0) M := by
    unfold f_X5_rolls f_X5_rolls_J23
    rw [g, g, cl, ← e0, ← e5]
    by_cases c' : T 0 j = 3
    · rw [if_pos c']
      by_cases c : T 5 j = 0
      · rw [if_pos c, if_pos ⟨c, c'⟩]
      · rw [if_neg c, if_neg (fun q => c q.1)]
    · rw [if_neg c', if_neg (fun q => c' q.2)]
  unfold f_X2_pressAt
  rw [hjo, b1_v, hro]
  unfold f_X5_rolls_J24 f_X5_rolls_J37 f_X5_rolls_J56
  by_cases c : T 5 j = 0 ∧ T 0 j = 3
  · rw [if_pos c, if_neg (by decide), if_neg (by decide)]
    have hM1 : TMr n (st T 4 j (T 4 j + 1)) (st M 8 j (M 8 j + 1)) := by
      refine ⟨hT7, hM3, e0, e1, e2, e3, ?_, e5⟩
      show upd (T 4) j _ = upd (M 8) j _
      rw [e4]
    have hI1 : TIr n bd (st T 4 j (T 4 j + 1)) := by
      refine ⟨⟨k3, k4⟩, kk, kb, ks, kh, kl, ?_⟩
      intro i hi hli
      have hbd := hI.bnd (by omega : bd ≤ 41000000)
      have hsame : htv (st T 4 j (T 4 j + 1)) i = htv T i := htv_near k3 k4 hT7 (by rw [st_ne T j _ (by omega)]; exact hT7) hbd (by rw [st_ne T j _ (by omega)]; exact hbd) hi hli (fun k _ _ => ⟨by rw [st_ne T j _ (by omega)], by rw [st_ne T j _ (by omega)]⟩)
      rw [hsame]
      exact kc i hi hli
    have hR1' : R 1 = (st M 8 j (M 8 j + 1)) 13 := by rw [st_ne M j _ (by omega)]; exact hR1
    obtain ⟨r, T', M', q1, q2, q3, q4, q5⟩ := ptail_v hM1 hI1 hR1' hRb hb0 hb hj (load := w + w / 2) ⟨by omega, by omega⟩ w
    refine ⟨r, T', M', ?_, ?_, q3, q4, ?_⟩
    · rw [g, g, ltt_v, g2, ltt_v, cl]; exact q1
    · rw [g2, ltt_v, g, if_neg (by decide), g, ltt_v, cl]; exact q2
    · intro gg x1 x2 x3 x4
      rw [q5 gg x1 x2 x3 x4, st_ne M j _ x4]
  · rw [if_neg c, if_pos rfl, if_pos rfl]
    have hw0 : w + 0 = w := a0 w
    have hst : st M 8 j (M 8 j + 0) = M := by
      funext gg k
      by_cases hg : gg = 8
      · rw [hg, st_same]
        by_cases hk : k = j
        · rw [hk, pk_us, a0]
        · rw [pk_un hk]
      · rw [st_ne M j _ hg]
    obtain ⟨r, T', M', q1, q2, q3, q4, q5⟩ := ptail_v hM hI hR1 hRb hb0 hb hj (load := w) ⟨by omega, by omega⟩ w
    refine ⟨r, T', M', q1, ?_, q3, q4, q5⟩
    rw [ltt_v, g, if_pos rfl, g, ltt_v, cl, hst, hw0]; exact q2
