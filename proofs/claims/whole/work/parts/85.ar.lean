theorem xor_neg (x y : Int32) (hy : 0 < y.toInt) : (x ^^^ y < 0) ↔ x.toInt < 0 := by
  rw [ilt]
  have e0 : (0 : Int32).toInt = 0 := rfl
  have h1 : (x ^^^ y).toBitVec.msb = (x.toBitVec.msb ^^ y.toBitVec.msb) := by
    rw [Int32.toBitVec_xor, BitVec.msb_xor]
  have h2 : y.toBitVec.msb = false := by
    rw [BitVec.msb_eq_toInt]
    have : y.toBitVec.toInt = y.toInt := rfl
    rw [this]
    simp
    omega
  rw [h2, Bool.xor_false, BitVec.msb_eq_toInt, BitVec.msb_eq_toInt] at h1
  have h3 : (x ^^^ y).toBitVec.toInt = (x ^^^ y).toInt := rfl
  have h4 : x.toBitVec.toInt = x.toInt := rfl
  rw [h3, h4] at h1
  rw [e0]
  exact decide_eq_decide.mp h1
theorem tlt (x : Int32) : -2147483648 ≤ x.toInt ∧ x.toInt < 2147483648 := ⟨by have := Int32.le_toInt x; omega, by have := Int32.toInt_lt x; omega⟩
theorem tdivP {x y : Int} (hy : 0 < y) : x.tdiv y = if 0 ≤ x ∨ y ∣ x then x / y else x / y + 1 := by
  rw [Int.tdiv_eq_ediv]
  have hs : y.sign = 1 := Int.sign_eq_one_of_pos hy
  rw [hs]
  split
  · omega
  · rfl
theorem ediv_bd {x y : Int} (hy : 0 < y) (a : Int) (ha : 0 < a) (h1 : -a ≤ x) (h2 : x ≤ a) : -a ≤ x / y ∧ x / y ≤ a := by
  constructor
  · have h3 : (-a) / 1 ≤ x / 1 := Int.ediv_le_ediv (by omega) h1
    by_cases hx : 0 ≤ x
    · have := Int.ediv_nonneg hx (by omega : 0 ≤ y); omega
    · have h4 : x ≤ x / y := by
        have h5 := Int.mul_ediv_add_emod x y
        have h6 := Int.emod_nonneg x (by omega : y ≠ 0)
        have h7 := Int.emod_lt_of_pos x hy
        by_cases h8 : x ≤ x / y
        · exact h8
        · exfalso
          have h9 : x / y ≤ x - 1 := by omega
          have h10 : y * (x / y) ≤ y * (x - 1) := Int.mul_le_mul_of_nonneg_left h9 (by omega)
          have h11 : y * x ≤ 1 * x := Int.mul_le_mul_of_nonpos_right (by omega) (by omega)
          have h12 : y * (x - 1) = y * x - y := by rw [Int.mul_sub, Int.mul_one]
          omega
      omega
  · by_cases hx : 0 ≤ x
    · have := Int.ediv_le_self y hx; omega
    · have : x / y < 0 := Int.ediv_neg_of_neg_of_pos (by omega) hy
      omega
theorem div32 {x y : Int32} (hy : 0 < y.toInt) : (x / y).toInt = x.toInt.tdiv y.toInt := by
  rw [Int32.toInt_div]
  have hx := tlt x
  have hb : -2147483648 ≤ x.toInt.tdiv y.toInt ∧ x.toInt.tdiv y.toInt < 2147483648 := by
    by_cases h0 : 0 ≤ x.toInt
    · rw [Int.tdiv_eq_ediv_of_nonneg h0]
      have := Int.ediv_nonneg h0 (by omega : 0 ≤ y.toInt)
      have := Int.ediv_le_self y.toInt h0
      omega
    · have h1 : x.toInt.tdiv y.toInt = -((-x.toInt).tdiv y.toInt) := by rw [Int.neg_tdiv, Int.neg_neg]
      rw [h1, Int.tdiv_eq_ediv_of_nonneg (by omega)]
      have := Int.ediv_nonneg (by omega : 0 ≤ -x.toInt) (by omega : 0 ≤ y.toInt)
      have := Int.ediv_le_self y.toInt (by omega : 0 ≤ -x.toInt)
      omega
  exact Int.bmod_eq_of_le (by omega) (by omega)
theorem fd_pos {x y : Int32} (hy : 0 < y.toInt) : (fd_val x y).toInt = x.toInt / y.toInt := by
  have hd := div32 (x := x) hy
  have hx := tlt x
  have hyy := tlt y
  unfold fd_val
  by_cases hn : x ^^^ y < 0
  · rw [if_pos hn]
    have hneg := (xor_neg x y hy).mp hn
    rw [tdivP hy] at hd
    have hdb := ediv_bd (x := x.toInt) hy 2147483648 (by omega) (by omega) (by omega)
    have hq : x.toInt / y.toInt < 0 := Int.ediv_neg_of_neg_of_pos hneg hy
    have hm : (x / y * y).toInt = (x / y).toInt * y.toInt := by
      apply tmul
      · rw [hd]
        split
        · rename_i h
          have h5 := Int.ediv_mul_cancel (h.resolve_left (by omega))
          omega
        · have h5 := Int.mul_ediv_add_emod x.toInt y.toInt
          have h6 := Int.emod_nonneg x.toInt (by omega : y.toInt ≠ 0)
          have h7 := Int.emod_lt_of_pos x.toInt hy
          rw [Int.add_mul, Int.one_mul, Int.mul_comm]
          omega
      · rw [hd]
        split
        · rename_i h
          have h5 := Int.ediv_mul_cancel (h.resolve_left (by omega))
          omega
        · have h5 := Int.mul_ediv_add_emod x.toInt y.toInt
          have h6 := Int.emod_nonneg x.toInt (by omega : y.toInt ≠ 0)
          have h7 := Int.emod_lt_of_pos x.toInt hy
          rw [Int.add_mul, Int.one_mul, Int.mul_comm]
          omega
    by_cases hdv : y.toInt ∣ x.toInt
    · rw [if_pos (Or.inr hdv)] at hd
      rw [if_pos]
      · exact hd
      · rw [ieq, hm, hd]
        exact Int.ediv_mul_cancel hdv
    · rw [if_neg (by intro h; rcases h with h | h; omega; exact hdv h)] at hd
      rw [if_neg]
      · rw [tsub (by rw [hd]; have : (1 : Int32).toInt = 1 := rfl; omega) (by rw [hd]; have : (1 : Int32).toInt = 1 := rfl; omega), hd]
        have : (1 : Int32).toInt = 1 := rfl
        omega
      · rw [ieq, hm]
        intro h
        exact hdv ⟨(x / y).toInt, by rw [Int.mul_comm]; exact h.symm⟩
  · rw [if_neg hn, hd, tdivP hy, if_pos]
    left
    have := mt (xor_neg x y hy).mpr hn
    omega
