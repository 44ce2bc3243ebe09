theorem nI_ext {x : Int32} {n : Nat} (hn : n < 2 ^ 32) (h : x.toBitVec.toNat = n) : x = nI n := by
  apply Int32.toBitVec_inj.mp
  apply BitVec.eq_of_toNat_eq
  rw [h, pk_tn hn]
theorem or_nI {a b : Nat} (ha : a < 2 ^ 31) (hb : b < 2 ^ 31) : nI a ||| nI b = nI (a ||| b) := by
  have hab : a ||| b < 2 ^ 31 := Nat.or_lt_two_pow ha hb
  apply nI_ext (by omega)
  rw [Int32.toBitVec_or, BitVec.toNat_or, pk_tn (by omega), pk_tn (by omega)]
theorem sm_v : ∀ i, i < 31 → ((nI i).toBitVec.smod 32).toNat = i := by decide +kernel
theorem m31_v : ∀ i, i < 31 → nI i &&& (31 : Int32) = nI i := by decide +kernel
theorem pow_v : ∀ w, w < 15 → (1 : Int32) <<< (nI w &&& 31) = nI (2 ^ w) := by decide +kernel
theorem bc_v : ∀ t, t < 14 → f_J6_bitCount_0f7a4 (nI (2 ^ t) - (1 : Int32)) = some (nI t) := by decide +kernel
/-- one bit -/
theorem bit_v {m i : Nat} (hm : m < 2 ^ 31) (hi : i < 31) : ((nI m >>> (nI i &&& (31 : Int32))) &&& (1 : Int32)) = if m.testBit i then 1 else 0 := by
  rw [m31_v i hi, pk_shrN hm (nI i) i (sm_v i hi), pk_andN (k := 1) (by
    have := Nat.div_le_self m (2 ^ i)
    omega) (by decide), Nat.testBit_eq_decide_div_mod_eq]
  have : m / 2 ^ i % 2 = 0 ∨ m / 2 ^ i % 2 = 1 := by omega
  rcases this with h | h
  · rw [Nat.pow_one, h]; rfl
  · rw [Nat.pow_one, h]; rfl
theorem tz_ex : ∀ m : Nat, 1 ≤ m → ∃ t u, m = 2 ^ (t + 1) * u + 2 ^ t := by
  intro m
  induction m using Nat.strongRecOn with
  | _ m ih =>
    intro h
    by_cases ho : m % 2 = 1
    · exact ⟨0, m / 2, by omega⟩
    · obtain ⟨t, u, k⟩ := ih (m / 2) (by omega) (by omega)
      refine ⟨t + 1, u, ?_⟩
      have e : m = 2 * (m / 2) := by omega
      rw [e, k, Nat.mul_add, ← Nat.mul_assoc, Nat.pow_succ 2 (t + 1), Nat.pow_succ 2 t, Nat.mul_comm 2 (2 ^ t * 2), Nat.mul_comm 2 (2 ^ t)]
theorem tb_m (t u i : Nat) : (2 ^ (t + 1) * u + 2 ^ t).testBit i = if i < t + 1 then decide (t = i) else u.testBit (i - (t + 1)) := by
  rw [Nat.testBit_two_pow_mul_add u (by rw [Nat.pow_succ]; have := Nat.pow_pos (n := t) (by decide : 0 < 2); omega), Nat.testBit_two_pow]
theorem tb_p (t u i : Nat) : (2 ^ (t + 1) * u + (2 ^ t - 1)).testBit i = if i < t + 1 then decide (i < t) else u.testBit (i - (t + 1)) := by
  rw [Nat.testBit_two_pow_mul_add u (by rw [Nat.pow_succ]; have := Nat.pow_pos (n := t) (by decide : 0 < 2); omega), Nat.testBit_two_pow_sub_one]
theorem low_v {m t u : Nat} (hm : m < 2 ^ 31) (h : m = 2 ^ (t + 1) * u + 2 ^ t) : nI m &&& -(nI m) = nI (2 ^ t) := by
  have hp := Nat.pow_pos (n := t) (by decide : 0 < 2)
  have h1 : 2 ^ t ≤ m := by omega
  have hn : (-(nI m)).toBitVec.toNat = 2 ^ 32 - m := by
    rw [Int32.toBitVec_neg, BitVec.toNat_neg, pk_tn (by omega)]
    exact Nat.mod_eq_of_lt (by omega)
  apply nI_ext (by omega)
  rw [Int32.toBitVec_and, BitVec.toNat_and, hn, pk_tn (by omega)]
  apply Nat.eq_of_testBit_eq
  intro i
  have e : 2 ^ 32 - m = 2 ^ 32 - ((m - 1) + 1) := by omega
  have hm1 : m - 1 = 2 ^ (t + 1) * u + (2 ^ t - 1) := by omega
  rw [Nat.testBit_and, e, Nat.testBit_two_pow_sub_succ (by omega), hm1, tb_p, h, tb_m, Nat.testBit_two_pow]
  have ht : t < 31 := by
    apply Nat.lt_of_not_le
    intro hle
    have := Nat.pow_le_pow_right (by decide : 0 < 2) hle
    omega
  by_cases hi : i < t + 1
  · rw [if_pos hi, if_pos hi]
    by_cases hit : t = i
    · subst hit
      simp
      omega
    · simp [hit]
  · rw [if_neg hi, if_neg hi]
    have : ¬ t = i := by omega
    simp [this]
    intro a _
    exact a
/-- the sum over a set -/
def zsm (f : Nat → Int32) (m : Nat) : Nat → Int
  | 0 => 0
  | w + 1 => zsm f m w + (if m.testBit w then (f w).toInt else 0)
theorem zsm_bd {f : Nat → Int32} {w : Nat} (hf : ∀ k, k < w → 0 ≤ (f k).toInt ∧ (f k).toInt ≤ 1000) (m : Nat) : ∀ v, v ≤ w → 0 ≤ zsm f m v ∧ zsm f m v ≤ 1000 * (v : Int) := by
  intro v
  induction v with
  | zero => intro _; rw [zsm]; omega
  | succ v ih =>
    intro hv
    have a := ih (by omega)
    have b := hf v (by omega)
    rw [zsm]
    split
    · omega
    · omega
theorem sumN_bd {f : Nat → Int32} {w : Nat} (hf : ∀ k, k < w → 0 ≤ (f k).toInt ∧ (f k).toInt ≤ 1000) : ∀ v, v ≤ w → 0 ≤ sumN f v ∧ sumN f v ≤ 1000 * (v : Int) := by
  intro v
  induction v with
  | zero => intro _; rw [sumN]; omega
  | succ v ih =>
    intro hv
    have a := ih (by omega)
    have b := hf v (by omega)
    rw [sumN]
    omega
theorem zsm_lo {f : Nat → Int32} {m t u : Nat} (h : m = 2 ^ (t + 1) * u + 2 ^ t) : ∀ w, w ≤ t → zsm f m w = 0 ∧ zsm f (m - 1) w = sumN f w := by
  have hp := Nat.pow_pos (n := t) (by decide : 0 < 2)
  have hm1 : m - 1 = 2 ^ (t + 1) * u + (2 ^ t - 1) := by omega
  intro w
  induction w with
  | zero => intro _; exact ⟨rfl, rfl⟩
  | succ w ih =>
    intro hw
    obtain ⟨a, b⟩ := ih (by omega)
    rw [zsm, zsm, sumN, a, b, hm1, h, tb_m, tb_p, if_pos (by omega : w < t + 1), if_pos (by omega : w < t + 1)]
    have h1 : ¬ t = w := by omega
    have h2 : w < t := by omega
    simp [h1, h2]
theorem zsm_inc {f : Nat → Int32} {m t u : Nat} (h : m = 2 ^ (t + 1) * u + 2 ^ t) : ∀ d, zsm f m (t + 1 + d) = zsm f (m - 1) (t + 1 + d) + (f t).toInt - sumN f t := by
  have hp := Nat.pow_pos (n := t) (by decide : 0 < 2)
  have hm1 : m - 1 = 2 ^ (t + 1) * u + (2 ^ t - 1) := by omega
  intro d
  induction d with
  | zero =>
    obtain ⟨a, b⟩ := zsm_lo (f := f) h t (Nat.le_refl t)
    rw [Nat.add_zero, zsm, zsm, a, b, hm1, h, tb_m, tb_p, if_pos (by omega : t < t + 1), if_pos (by omega : t < t + 1)]
    simp
    omega
  | succ d ih =>
    have e : t + 1 + (d + 1) = (t + 1 + d) + 1 := by omega
    rw [e, zsm, zsm, ih]
    have hb : m.testBit (t + 1 + d) = (m - 1).testBit (t + 1 + d) := by
      rw [hm1, h, tb_m, tb_p, if_neg (by omega), if_neg (by omega)]
    rw [hb]
    omega
theorem tz_lt {m t u w : Nat} (h : m = 2 ^ (t + 1) * u + 2 ^ t) (hm : m < 2 ^ w) : t < w := by
  apply Nat.lt_of_not_le
  intro hle
  have := Nat.pow_le_pow_right (by decide : 0 < 2) hle
  omega
/-- the sum as an int -/
def zI (f : Nat → Int32) (m w : Nat) : Int32 := Int32.ofInt (zsm f m w)
theorem zI_ti {f : Nat → Int32} {w : Nat} (hw : w ≤ 14) (hf : ∀ k, k < w → 0 ≤ (f k).toInt ∧ (f k).toInt ≤ 1000) (m : Nat) : (zI f m w).toInt = zsm f m w := by
  have := zsm_bd hf m w (Nat.le_refl w)
  unfold zI
  have hs : Int32.size = 4294967296 := rfl
  rw [Int32.toInt_ofInt, hs]
  exact Int.bmod_eq_of_le (by omega) (by omega)
theorem zI_of {f : Nat → Int32} {w : Nat} (hw : w ≤ 14) (hf : ∀ k, k < w → 0 ≤ (f k).toInt ∧ (f k).toInt ≤ 1000) (m : Nat) {y : Int32} (h : y.toInt = zsm f m w) : y = zI f m w := by
  rw [ieq, zI_ti hw hf m, h]
