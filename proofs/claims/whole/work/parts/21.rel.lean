/-- the height of the rail at j, by the class's own function -/
def htv (T : RG) (j : Nat) : Int32 := (f_X1_height T (nI j)).getD 0
/-- sleepers of both -/
def TMr (n : Nat) (T M : RG) : Prop := T 7 0 = nI n ∧ M 3 0 = nI n ∧ T 0 = M 4 ∧ T 1 = M 5 ∧ T 2 = M 6 ∧ T 3 = M 7 ∧ T 4 = M 8 ∧ T 5 = M 9
/-- what a sleeper that hangs or not is remembered as -/
def cch (n : Nat) (T : RG) : Prop := ∀ i, i < n → T 5 i = 0 → T 6 i = 0 ∨ (T 6 i = 1 ∧ htv T i = T 1 i) ∨ (T 6 i = 2 ∧ T 1 i < htv T i)
def TIr (n : Nat) (bd : Int) (T : RG) : Prop := (3 ≤ n ∧ n ≤ 40) ∧ (∀ i, 0 ≤ (T 0 i).toInt ∧ (T 0 i).toInt ≤ 3) ∧ (∀ i, -bd ≤ (T 1 i).toInt ∧ (T 1 i).toInt ≤ 10000) ∧ (∀ i, i < 40 → 1 ≤ (T 2 i).toInt ∧ (T 2 i).toInt ≤ 9) ∧ (∀ i, 0 ≤ (T 3 i).toInt ∧ (T 3 i).toInt ≤ 99) ∧ (∀ i, T 5 i = 0 ∨ T 5 i = 1) ∧ cch n T
def RMr (R M : RG) : Prop := R 0 = M 12 ∧ R 1 = M 13 ∧ R 2 0 = M 11 0 ∧ (∃ ax : Nat, ax ≤ 20 ∧ R 2 0 = nI ax) ∧ (∀ i, 0 ≤ (R 0 i).toInt ∧ (R 0 i).toInt ≤ 250) ∧ (∀ i, -128 ≤ (R 1 i).toInt ∧ (R 1 i).toInt ≤ 127)
def UMr (U M : RG) : Prop := (∀ r i, r < 6 → i < 40 → U r i = M 15 (40 * r + i)) ∧ U 6 = M 14 ∧ ∀ i, U 6 i = 0 ∨ U 6 i = 1
/-- the sum of the first k -/
def sumN (f : Nat → Int32) : Nat → Int
  | 0 => 0
  | k + 1 => sumN f k + (f k).toInt
/-- number a is chosen ahead of number b (the fraction, then the number) -/
def ahd (V : RG) (a b : Nat) : Prop := (V 1 b).toInt * (V 0 a).toInt < (V 1 a).toInt * (V 0 b).toInt ∨ ((V 1 b).toInt * (V 0 a).toInt = (V 1 a).toInt * (V 0 b).toInt ∧ a < b)
def VIr (w : Nat) (V : RG) : Prop := V 5 0 = nI w ∧ w ≤ 14 ∧ (∀ k, k < w → 1 ≤ (V 0 k).toInt ∧ (V 0 k).toInt ≤ 1000) ∧ (∀ k, k < w → 0 ≤ (V 1 k).toInt ∧ (V 1 k).toInt ≤ 1000) ∧ (∀ k, k < w ∨ k = 0 → (V 2 k).toInt = sumN (V 0) k ∧ (V 3 k).toInt = sumN (V 1) k) ∧ ∃ o : Nat → Nat, (∀ k, k < w → o k < w ∧ V 4 k = nI (o k)) ∧ (∀ j, j < w → ∃ k, k < w ∧ o k = j) ∧ ∀ k k', k < k' → k' < w → ahd V (o k) (o k')
def VMr (V M : RG) : Prop := V 0 = M 18 ∧ V 1 = M 19 ∧ V 5 0 = M 17 0
def BMr (fb : Int) (B M : RG) : Prop := B 4 = M 10 ∧ B 5 = M 1 ∧ B 6 0 = M 0 0 ∧ ∀ i, -fb ≤ (B 4 i).toInt ∧ (B 4 i).toInt ≤ fb
def Rel (c : Nat) (B : RG) (L : Int64) (R T U V M : RG) (Lm : Int64) : Prop :=
  (∃ n, TMr n T M ∧ TIr n (10000 + 80000 * c) T) ∧ RMr R M ∧ UMr U M ∧ ((∃ w, VIr w V) ∧ VMr V M) ∧ BMr (1000 + 500 * c) B M ∧ L = Lm
theorem Rel.up {c : Nat} {B : RG} {L : Int64} {R T U V M : RG} {Lm : Int64} (h : Rel c B L R T U V M Lm) : Rel (c + 1) B L R T U V M Lm := by
  obtain ⟨⟨n, h1, h2, h3, h4, h5⟩, h6, h7, h8, ⟨h9, h10, h11, h12⟩, h13⟩ := h
  exact ⟨⟨n, h1, h2, h3, fun i => ⟨by have := (h4 i).1; omega, (h4 i).2⟩, h5⟩, h6, h7, h8, ⟨h9, h10, h11, fun i => ⟨by have := (h12 i).1; omega, by have := (h12 i).2; omega⟩⟩, h13⟩
