abbrev RG : Type := Nat → Nat → Int32
theorem tadd {a b : Int32} (h1 : -2147483648 ≤ a.toInt + b.toInt) (h2 : a.toInt + b.toInt < 2147483648) : (a + b).toInt = a.toInt + b.toInt := by
  rw [Int32.toInt_add]
  exact Int.bmod_eq_of_le (by omega) (by omega)
theorem tsub {a b : Int32} (h1 : -2147483648 ≤ a.toInt - b.toInt) (h2 : a.toInt - b.toInt < 2147483648) : (a - b).toInt = a.toInt - b.toInt := by
  rw [Int32.toInt_sub]
  exact Int.bmod_eq_of_le (by omega) (by omega)
theorem tmul {a b : Int32} (h1 : -2147483648 ≤ a.toInt * b.toInt) (h2 : a.toInt * b.toInt < 2147483648) : (a * b).toInt = a.toInt * b.toInt := by
  rw [Int32.toInt_mul]
  exact Int.bmod_eq_of_le (by omega) (by omega)
theorem ile (a b : Int32) : a ≤ b ↔ a.toInt ≤ b.toInt := Int32.le_iff_toInt_le
theorem ilt (a b : Int32) : a < b ↔ a.toInt < b.toInt := Int32.lt_iff_toInt_lt
theorem ieq (a b : Int32) : a = b ↔ a.toInt = b.toInt := Int32.toInt_inj.symm
theorem nI_eq_of {x : Int32} {n : Nat} (h : x.toInt = n) (hn : n < 2147483648) : x = nI n := Int32.toInt_inj.mp (h.trans (nI_toInt (by omega)).symm)
theorem nI_cl {j : Nat} (h : j < 1000) : Int32.toNatClampNeg (nI j) = j := nI_clamp (by omega)
theorem nI_ti {j : Nat} (h : j < 100000) : (nI j).toInt = (j : Int) := nI_toInt (by omega)
theorem inb_nI {j N : Nat} (h : j < N) (hN : N < 1000) : inb (nI j) N = true := by
  unfold inb
  rw [nI_ti (by omega), Bool.and_eq_true, decide_eq_true_eq, decide_eq_true_eq]
  omega
theorem gd_t {α : Type} {b : Bool} {x : Option α} (h : b = true) : gd b x = x := by rw [h]; rfl
theorem gd_i {α : Type} {j N : Nat} {x : Option α} (h : j < N) (hN : N < 1000) : gd (inb (nI j) N) x = x := gd_t (inb_nI h hN)
theorem b1_v {α γ : Type} (a : α) (f : α → Option γ) : b1 (some a) f = f a := rfl
theorem b2_v {α β γ : Type} (a : α) (b : β) (f : α → β → Option γ) : b2 (some (a, b)) f = f a b := rfl
theorem b3_v {α β δ γ : Type} (a : α) (b : β) (d : δ) (f : α → β → δ → Option γ) : b3 (some (a, b, d)) f = f a b d := rfl
theorem ltt_v {α γ : Type} (v : α) (f : α → Option γ) : ltt v f = f v := rfl
theorem isb_0 : isb 0 = true := rfl
theorem isb_1 : isb 1 = true := rfl
theorem nI_s1 (j : Nat) : nI j + 1 = nI (j + 1) := nI_1 j
theorem nI_p1 {j : Nat} (h : 0 < j) : nI j - 1 = nI (j - 1) := by
  show nI j - nI 1 = nI (j - 1)
  exact pk_sub (by omega)
theorem vpb (x : Int32) (h : x = 0 ∨ x = 1) : vp_nar .boolean x = x := by rcases h with rfl | rfl <;> rfl
/-- in range or not, and what the number is -/
def okN (n : Nat) (i : Int32) : Prop := 0 ≤ i.toInt ∧ i.toInt < (n : Int)
theorem okN_nI {n : Nat} {i : Int32} (h : okN n i) (hn : n < 1000) : ∃ j, j < n ∧ i = nI j := ⟨i.toInt.toNat, by have := h.1; have := h.2; omega, nI_eq_of (by have := h.1; omega) (by have := h.2; omega)⟩
theorem okN_of {n j : Nat} (h : j < n) (hn : n < 1000) : okN n (nI j) := by
  unfold okN
  rw [nI_ti (by omega)]
  omega
/-- within(p, a, b) -/
theorem within_t {p a b : Int32} (h1 : a.toInt ≤ p.toInt) (h2 : p.toInt ≤ b.toInt) : f_X4_within p a b = some 1 := by
  unfold f_X4_within
  rw [if_neg (by rw [ilt]; omega), if_neg (by rw [ilt]; omega)]
theorem within_f {p a b : Int32} (h : p.toInt < a.toInt ∨ b.toInt < p.toInt) : f_X4_within p a b = some 0 := by
  unfold f_X4_within
  by_cases h1 : p < a
  · rw [if_pos h1]
  · rw [if_neg h1, if_pos (by rw [ilt] at h1 ⊢; omega)]
theorem in_t {p a b : Int32} (h1 : a.toInt ≤ p.toInt) (h2 : p.toInt ≤ b.toInt) : f_X5_in p a b = some 1 := by
  unfold f_X5_in
  rw [if_neg (by rw [ilt]; omega), if_neg (by rw [ilt]; omega)]
theorem in_f {p a b : Int32} (h : p.toInt < a.toInt ∨ b.toInt < p.toInt) : f_X5_in p a b = some 0 := by
  unfold f_X5_in
  by_cases h1 : p < a
  · rw [if_pos h1]
  · rw [if_neg h1, if_pos (by rw [ilt] at h1 ⊢; omega)]
theorem st_at (T : RG) (f i : Nat) (v : Int32) (g : Nat) (h : g ≠ f) : st T f i v g = T g := st_ne T i v h
/-- the sizes -/
def SZ (n : Nat) (T M : RG) : Prop := 3 ≤ n ∧ n ≤ 40 ∧ T 7 0 = nI n ∧ M 3 0 = nI n
theorem nm1 {n : Nat} (h : 3 ≤ n) (h2 : n ≤ 40) : (nI n - 1).toInt = (n : Int) - 1 := by
  rw [nI_p1 (by omega), nI_ti (by omega)]
  omega
theorem has_t {n : Nat} {T : RG} (h3 : 3 ≤ n) (h4 : n ≤ 40) (hT : T 7 0 = nI n) {i : Int32} (h : okN n i) : f_X1_has T i = some 1 := by
  have hz : (0 : Int32).toInt = 0 := rfl
  have hn : (nI n).toInt = (n : Int) := nI_ti (by omega)
  unfold okN at h
  unfold f_X1_has
  rw [hT, if_neg (show ¬ i < (0 : Int32) by rw [ilt, hz]; omega), if_neg (show ¬ nI n ≤ i by rw [Int32.le_iff_toInt_le, hn]; omega)]
theorem has_f {n : Nat} {T : RG} (h3 : 3 ≤ n) (h4 : n ≤ 40) (hT : T 7 0 = nI n) {i : Int32} (h : ¬ okN n i) : f_X1_has T i = some 0 := by
  have hz : (0 : Int32).toInt = 0 := rfl
  have hn : (nI n).toInt = (n : Int) := nI_ti (by omega)
  unfold okN at h
  unfold f_X1_has
  rw [hT]
  by_cases h1 : i < (0 : Int32)
  · rw [if_pos h1]
  · rw [if_neg h1, if_pos (show nI n ≤ i by rw [ilt, hz] at h1; rw [Int32.le_iff_toInt_le, hn]; omega)]
theorem isS_t {n : Nat} {M : RG} (h3 : 3 ≤ n) (h4 : n ≤ 40) (hM : M 3 0 = nI n) {i : Int32} (h : okN n i) : f_X5_isSleeper M i = some 1 := by
  unfold f_X5_isSleeper
  rw [hM, in_t (by exact h.1) (by rw [nm1 h3 h4]; have := h.2; omega)]
  rfl
theorem isS_f {n : Nat} {M : RG} (h3 : 3 ≤ n) (h4 : n ≤ 40) (hM : M 3 0 = nI n) {i : Int32} (h : ¬ okN n i) : f_X5_isSleeper M i = some 0 := by
  unfold f_X5_isSleeper
  rw [hM, in_f (by rw [nm1 h3 h4]; unfold okN at h; have : (0 : Int32).toInt = 0 := rfl; omega)]
  rfl
theorem stands_f {n : Nat} {T : RG} (h3 : 3 ≤ n) (h4 : n ≤ 40) (hT : T 7 0 = nI n) {i : Int32} (h : ¬ okN n i) : f_X1_stands T i = some 0 := by
  unfold f_X1_stands
  rw [has_f h3 h4 hT h]
  rfl
theorem stands_n {n : Nat} {T : RG} (h3 : 3 ≤ n) (h4 : n ≤ 40) (hT : T 7 0 = nI n) {j : Nat} (h : j < n) : f_X1_stands T (nI j) = some (if T 5 j = 0 then 1 else 0) := by
  unfold f_X1_stands
  rw [has_t h3 h4 hT (okN_of h (by omega)), b1_v, if_neg (by decide), gd_i (by omega) (by omega), nI_cl (by omega)]
  by_cases h0 : T 5 j = 0
  · rw [if_pos h0, if_pos h0]
  · rw [if_neg h0, if_neg h0]
