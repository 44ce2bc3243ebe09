def rowsf (a : Nat → Nat) : Nat → Option Nat := fun j => if j < 6 then some (a (13 + j)) else none
abbrev xT (a : Nat → Nat) (k : Nat → ClassId) (T : Nat → Nat → Int32) : va_W := [(a 0, .inr (1, [.ref (a 1), .ref (a 2), .ref (a 3), .ref (a 4), .ref (a 5), .ref (a 6), .ref (a 7), .int (T 7 0)])), (a 1, .inl ((k 1), 40, .inl (T 0))), (a 2, .inl ((k 2), 40, .inl (T 1))), (a 3, .inl ((k 3), 40, .inl (T 2))), (a 4, .inl ((k 4), 40, .inl (T 3))), (a 5, .inl ((k 5), 40, .inl (T 4))), (a 6, .inl ((k 6), 40, .inl (T 5))), (a 7, .inl ((k 7), 40, .inl (T 6)))]
abbrev tT (k : Nat → ClassId) : List (ClassId × FieldType) := [(k 1, .int), (k 2, .int), (k 3, .int), (k 4, .int), (k 5, .int), (k 6, .boolean), (k 7, .int)]
theorem rcv_T (a : Nat → Nat) (k : Nat → ClassId) (T : Nat → Nat → Int32) : rcv (xT a k T) (a 0) RX1 := ⟨0, 1, _, (RX1, TX1, 8), rfl, rfl, rfl⟩
abbrev xR (a : Nat → Nat) (k : Nat → ClassId) (R : Nat → Nat → Int32) (T : Nat → Nat → Int32) : va_W := [(a 8, .inr (2, [.ref (a 9), .ref (a 10), .int (R 2 0)])), (a 9, .inl ((k 9), 20, .inl (R 0))), (a 10, .inl ((k 10), 16, .inl (R 1)))] ++ xT a k T
abbrev tR (k : Nat → ClassId) : List (ClassId × FieldType) := [(k 9, .int), (k 10, .byte)] ++ tT k
theorem rcv_R (a : Nat → Nat) (k : Nat → ClassId) (R : Nat → Nat → Int32) (T : Nat → Nat → Int32) : rcv (xR a k R T) (a 8) RX2 := ⟨0, 2, _, (RX2, TX2, 3), rfl, rfl, rfl⟩
abbrev xU (a : Nat → Nat) (k : Nat → ClassId) (U : Nat → Nat → Int32) : va_W := [(a 11, .inr (0, [.ref (a 12), .ref (a 19)])), (a 12, .inl ((k 12), 6, .inr (.inr (.inr (.inr (rowsf a)))))), (a 13, .inl ((k 13), 40, .inl (U 0))), (a 14, .inl ((k 14), 40, .inl (U 1))), (a 15, .inl ((k 15), 40, .inl (U 2))), (a 16, .inl ((k 16), 40, .inl (U 3))), (a 17, .inl ((k 17), 40, .inl (U 4))), (a 18, .inl ((k 18), 40, .inl (U 5))), (a 19, .inl ((k 19), 6, .inl (U 6)))]
abbrev tU (k : Nat → ClassId) : List (ClassId × FieldType) := [(k 12, .array .int), (k 13, .int), (k 14, .int), (k 15, .int), (k 16, .int), (k 17, .int), (k 18, .int), (k 19, .boolean)]
theorem rcv_U (a : Nat → Nat) (k : Nat → ClassId) (U : Nat → Nat → Int32) : rcv (xU a k U) (a 11) RX0 := ⟨0, 0, _, (RX0, TX0, 2), rfl, rfl, rfl⟩
abbrev xV (a : Nat → Nat) (k : Nat → ClassId) (V : Nat → Nat → Int32) : va_W := [(a 20, .inr (3, [.ref (a 21), .ref (a 22), .ref (a 23), .ref (a 24), .ref (a 25), .int (V 5 0)])), (a 21, .inl ((k 21), 14, .inl (V 0))), (a 22, .inl ((k 22), 14, .inl (V 1))), (a 23, .inl ((k 23), 14, .inl (V 2))), (a 24, .inl ((k 24), 14, .inl (V 3))), (a 25, .inl ((k 25), 14, .inl (V 4)))]
abbrev tV (k : Nat → ClassId) : List (ClassId × FieldType) := [(k 21, .int), (k 22, .int), (k 23, .int), (k 24, .int), (k 25, .int)]
theorem rcv_V (a : Nat → Nat) (k : Nat → ClassId) (V : Nat → Nat → Int32) : rcv (xV a k V) (a 20) RX3 := ⟨0, 3, _, (RX3, TX3, 6), rfl, rfl, rfl⟩
abbrev xX (a : Nat → Nat) (k : Nat → ClassId) (B : Nat → Nat → Int32) (L : Int64) (R : Nat → Nat → Int32) (T : Nat → Nat → Int32) (U : Nat → Nat → Int32) (V : Nat → Nat → Int32) : va_W := [(a 26, .inr (4, [.ref (a 0), .ref (a 8), .ref (a 11), .ref (a 20), .ref (a 27), .ref (a 28), .int (B 6 0), .long L])), (a 27, .inl ((k 27), 4, .inl (B 4))), (a 28, .inl ((k 28), 6, .inl (B 5)))] ++ (xR a k R T ++ (xU a k U ++ xV a k V))
abbrev tX (k : Nat → ClassId) : List (ClassId × FieldType) := [(k 27, .int), (k 28, .int)] ++ (tR k ++ (tU k ++ tV k))
theorem rcv_X (a : Nat → Nat) (k : Nat → ClassId) (B : Nat → Nat → Int32) (L : Int64) (R : Nat → Nat → Int32) (T : Nat → Nat → Int32) (U : Nat → Nat → Int32) (V : Nat → Nat → Int32) : rcv (xX a k B L R T U V) (a 26) RX4 := ⟨0, 4, _, (RX4, TX4, 8), rfl, rfl, rfl⟩
abbrev xM (a : Nat → Nat) (k : Nat → ClassId) (M : Nat → Nat → Int32) (L : Int64) : va_W := [(a 0, .inr (5, [.int (M 0 0), .ref (a 1), .long L, .int (M 3 0), .ref (a 2), .ref (a 3), .ref (a 4), .ref (a 5), .ref (a 6), .ref (a 7), .ref (a 8), .int (M 11 0), .ref (a 9), .ref (a 10), .ref (a 11), .ref (a 12), .ref (a 13), .int (M 17 0), .ref (a 14), .ref (a 15)])), (a 1, .inl ((k 1), 6, .inl (M 1))), (a 2, .inl ((k 2), 40, .inl (M 4))), (a 3, .inl ((k 3), 40, .inl (M 5))), (a 4, .inl ((k 4), 40, .inl (M 6))), (a 5, .inl ((k 5), 40, .inl (M 7))), (a 6, .inl ((k 6), 40, .inl (M 8))), (a 7, .inl ((k 7), 40, .inl (M 9))), (a 8, .inl ((k 8), 4, .inl (M 10))), (a 9, .inl ((k 9), 20, .inl (M 12))), (a 10, .inl ((k 10), 16, .inl (M 13))), (a 11, .inl ((k 11), 6, .inl (M 14))), (a 12, .inl ((k 12), 240, .inl (M 15))), (a 13, .inl ((k 13), 40, .inl (M 16))), (a 14, .inl ((k 14), 14, .inl (M 18))), (a 15, .inl ((k 15), 14, .inl (M 19)))]
abbrev tM (k : Nat → ClassId) : List (ClassId × FieldType) := [(k 1, .int), (k 2, .int), (k 3, .int), (k 4, .int), (k 5, .int), (k 6, .int), (k 7, .boolean), (k 8, .int), (k 9, .int), (k 10, .int), (k 11, .boolean), (k 12, .int), (k 13, .int), (k 14, .int), (k 15, .int)]
theorem rcv_M (a : Nat → Nat) (k : Nat → ClassId) (M : Nat → Nat → Int32) (L : Int64) : rcv (xM a k M L) (a 0) RX5 := ⟨0, 5, _, (RX5, TX5, 20), rfl, rfl, rfl⟩
set_option maxRecDepth 20000 in
theorem fr_X_T (a : Nat → Nat) (k : Nat → ClassId) (B : Nat → Nat → Int32) (L : Int64) (R : Nat → Nat → Int32) (T : Nat → Nat → Int32) (U : Nat → Nat → Int32) (V : Nat → Nat → Int32) (T1 : Nat → Nat → Int32) : fr (xX a k B L R T U V) (xT a k T) (xT a k T1) (xX a k B L R T1 U V) := ⟨[6, 7, 8, 9, 10, 11, 12, 13], [0, 1, 2, 3, 4, 5, 14, 15, 16, 17, 18, 19, 20, 21, 22, 23, 24, 25, 26, 27, 28], [0, 1, 2, 3, 4, 5, 21, 22, 23, 24, 25, 26, 27, 28, 6, 7, 8, 9, 10, 11, 12, 13, 14, 15, 16, 17, 18, 19, 20], [(a 26, .inr (4, [.ref (a 0), .ref (a 8), .ref (a 11), .ref (a 20), .ref (a 27), .ref (a 28), .int (B 6 0), .long L])), (a 27, .inl ((k 27), 4, .inl (B 4))), (a 28, .inl ((k 28), 6, .inl (B 5))), (a 8, .inr (2, [.ref (a 9), .ref (a 10), .int (R 2 0)])), (a 9, .inl ((k 9), 20, .inl (R 0))), (a 10, .inl ((k 10), 16, .inl (R 1))), (a 11, .inr (0, [.ref (a 12), .ref (a 19)])), (a 12, .inl ((k 12), 6, .inr (.inr (.inr (.inr (rowsf a)))))), (a 13, .inl ((k 13), 40, .inl (U 0))), (a 14, .inl ((k 14), 40, .inl (U 1))), (a 15, .inl ((k 15), 40, .inl (U 2))), (a 16, .inl ((k 16), 40, .inl (U 3))), (a 17, .inl ((k 17), 40, .inl (U 4))), (a 18, .inl ((k 18), 40, .inl (U 5))), (a 19, .inl ((k 19), 6, .inl (U 6))), (a 20, .inr (3, [.ref (a 21), .ref (a 22), .ref (a 23), .ref (a 24), .ref (a 25), .int (V 5 0)])), (a 21, .inl ((k 21), 14, .inl (V 0))), (a 22, .inl ((k 22), 14, .inl (V 1))), (a 23, .inl ((k 23), 14, .inl (V 2))), (a 24, .inl ((k 24), 14, .inl (V 3))), (a 25, .inl ((k 25), 14, .inl (V 4)))], rfl, rfl, by decide, rfl, by decide, by decide, rfl, by decide, rfl⟩
theorem ks_X_T (k : Nat → ClassId) : ks (tX k) (tT k) := ⟨[4, 5, 6, 7, 8, 9, 10], rfl⟩
set_option maxRecDepth 20000 in
theorem fr_X_R (a : Nat → Nat) (k : Nat → ClassId) (B : Nat → Nat → Int32) (L : Int64) (R : Nat → Nat → Int32) (T : Nat → Nat → Int32) (U : Nat → Nat → Int32) (V : Nat → Nat → Int32) (R1 : Nat → Nat → Int32) (T1 : Nat → Nat → Int32) : fr (xX a k B L R T U V) (xR a k R T) (xR a k R1 T1) (xX a k B L R1 T1 U V) := ⟨[3, 4, 5, 6, 7, 8, 9, 10, 11, 12, 13], [0, 1, 2, 14, 15, 16, 17, 18, 19, 20, 21, 22, 23, 24, 25, 26, 27, 28], [0, 1, 2, 18, 19, 20, 21, 22, 23, 24, 25, 26, 27, 28, 3, 4, 5, 6, 7, 8, 9, 10, 11, 12, 13, 14, 15, 16, 17], [(a 26, .inr (4, [.ref (a 0), .ref (a 8), .ref (a 11), .ref (a 20), .ref (a 27), .ref (a 28), .int (B 6 0), .long L])), (a 27, .inl ((k 27), 4, .inl (B 4))), (a 28, .inl ((k 28), 6, .inl (B 5))), (a 11, .inr (0, [.ref (a 12), .ref (a 19)])), (a 12, .inl ((k 12), 6, .inr (.inr (.inr (.inr (rowsf a)))))), (a 13, .inl ((k 13), 40, .inl (U 0))), (a 14, .inl ((k 14), 40, .inl (U 1))), (a 15, .inl ((k 15), 40, .inl (U 2))), (a 16, .inl ((k 16), 40, .inl (U 3))), (a 17, .inl ((k 17), 40, .inl (U 4))), (a 18, .inl ((k 18), 40, .inl (U 5))), (a 19, .inl ((k 19), 6, .inl (U 6))), (a 20, .inr (3, [.ref (a 21), .ref (a 22), .ref (a 23), .ref (a 24), .ref (a 25), .int (V 5 0)])), (a 21, .inl ((k 21), 14, .inl (V 0))), (a 22, .inl ((k 22), 14, .inl (V 1))), (a 23, .inl ((k 23), 14, .inl (V 2))), (a 24, .inl ((k 24), 14, .inl (V 3))), (a 25, .inl ((k 25), 14, .inl (V 4)))], rfl, rfl, by decide, rfl, by decide, by decide, rfl, by decide, rfl⟩
theorem ks_X_R (k : Nat → ClassId) : ks (tX k) (tR k) := ⟨[2, 3, 4, 5, 6, 7, 8, 9, 10], rfl⟩
set_option maxRecDepth 20000 in
theorem fr_X_U (a : Nat → Nat) (k : Nat → ClassId) (B : Nat → Nat → Int32) (L : Int64) (R : Nat → Nat → Int32) (T : Nat → Nat → Int32) (U : Nat → Nat → Int32) (V : Nat → Nat → Int32) (U1 : Nat → Nat → Int32) : fr (xX a k B L R T U V) (xU a k U) (xU a k U1) (xX a k B L R T U1 V) := ⟨[14, 15, 16, 17, 18, 19, 20, 21, 22], [0, 1, 2, 3, 4, 5, 6, 7, 8, 9, 10, 11, 12, 13, 23, 24, 25, 26, 27, 28], [0, 1, 2, 3, 4, 5, 6, 7, 8, 9, 10, 11, 12, 13, 20, 21, 22, 23, 24, 25, 26, 27, 28, 14, 15, 16, 17, 18, 19], [(a 26, .inr (4, [.ref (a 0), .ref (a 8), .ref (a 11), .ref (a 20), .ref (a 27), .ref (a 28), .int (B 6 0), .long L])), (a 27, .inl ((k 27), 4, .inl (B 4))), (a 28, .inl ((k 28), 6, .inl (B 5))), (a 8, .inr (2, [.ref (a 9), .ref (a 10), .int (R 2 0)])), (a 9, .inl ((k 9), 20, .inl (R 0))), (a 10, .inl ((k 10), 16, .inl (R 1))), (a 0, .inr (1, [.ref (a 1), .ref (a 2), .ref (a 3), .ref (a 4), .ref (a 5), .ref (a 6), .ref (a 7), .int (T 7 0)])), (a 1, .inl ((k 1), 40, .inl (T 0))), (a 2, .inl ((k 2), 40, .inl (T 1))), (a 3, .inl ((k 3), 40, .inl (T 2))), (a 4, .inl ((k 4), 40, .inl (T 3))), (a 5, .inl ((k 5), 40, .inl (T 4))), (a 6, .inl ((k 6), 40, .inl (T 5))), (a 7, .inl ((k 7), 40, .inl (T 6))), (a 20, .inr (3, [.ref (a 21), .ref (a 22), .ref (a 23), .ref (a 24), .ref (a 25), .int (V 5 0)])), (a 21, .inl ((k 21), 14, .inl (V 0))), (a 22, .inl ((k 22), 14, .inl (V 1))), (a 23, .inl ((k 23), 14, .inl (V 2))), (a 24, .inl ((k 24), 14, .inl (V 3))), (a 25, .inl ((k 25), 14, .inl (V 4)))], rfl, rfl, by decide, rfl, by decide, by decide, rfl, by decide, rfl⟩
theorem ks_X_U (k : Nat → ClassId) : ks (tX k) (tU k) := ⟨[11, 12, 13, 14, 15, 16, 17, 18], rfl⟩
set_option maxRecDepth 20000 in
theorem fr_X_V (a : Nat → Nat) (k : Nat → ClassId) (B : Nat → Nat → Int32) (L : Int64) (R : Nat → Nat → Int32) (T : Nat → Nat → Int32) (U : Nat → Nat → Int32) (V : Nat → Nat → Int32) (V1 : Nat → Nat → Int32) : fr (xX a k B L R T U V) (xV a k V) (xV a k V1) (xX a k B L R T U V1) := ⟨[23, 24, 25, 26, 27, 28], [0, 1, 2, 3, 4, 5, 6, 7, 8, 9, 10, 11, 12, 13, 14, 15, 16, 17, 18, 19, 20, 21, 22], [0, 1, 2, 3, 4, 5, 6, 7, 8, 9, 10, 11, 12, 13, 14, 15, 16, 17, 18, 19, 20, 21, 22, 23, 24, 25, 26, 27, 28], [(a 26, .inr (4, [.ref (a 0), .ref (a 8), .ref (a 11), .ref (a 20), .ref (a 27), .ref (a 28), .int (B 6 0), .long L])), (a 27, .inl ((k 27), 4, .inl (B 4))), (a 28, .inl ((k 28), 6, .inl (B 5))), (a 8, .inr (2, [.ref (a 9), .ref (a 10), .int (R 2 0)])), (a 9, .inl ((k 9), 20, .inl (R 0))), (a 10, .inl ((k 10), 16, .inl (R 1))), (a 0, .inr (1, [.ref (a 1), .ref (a 2), .ref (a 3), .ref (a 4), .ref (a 5), .ref (a 6), .ref (a 7), .int (T 7 0)])), (a 1, .inl ((k 1), 40, .inl (T 0))), (a 2, .inl ((k 2), 40, .inl (T 1))), (a 3, .inl ((k 3), 40, .inl (T 2))), (a 4, .inl ((k 4), 40, .inl (T 3))), (a 5, .inl ((k 5), 40, .inl (T 4))), (a 6, .inl ((k 6), 40, .inl (T 5))), (a 7, .inl ((k 7), 40, .inl (T 6))), (a 11, .inr (0, [.ref (a 12), .ref (a 19)])), (a 12, .inl ((k 12), 6, .inr (.inr (.inr (.inr (rowsf a)))))), (a 13, .inl ((k 13), 40, .inl (U 0))), (a 14, .inl ((k 14), 40, .inl (U 1))), (a 15, .inl ((k 15), 40, .inl (U 2))), (a 16, .inl ((k 16), 40, .inl (U 3))), (a 17, .inl ((k 17), 40, .inl (U 4))), (a 18, .inl ((k 18), 40, .inl (U 5))), (a 19, .inl ((k 19), 6, .inl (U 6)))], rfl, rfl, by decide, rfl, by decide, by decide, rfl, by decide, rfl⟩
theorem ks_X_V (k : Nat → ClassId) : ks (tX k) (tV k) := ⟨[19, 20, 21, 22, 23], rfl⟩
set_option maxRecDepth 20000 in
theorem fr_X_X (a : Nat → Nat) (k : Nat → ClassId) (B : Nat → Nat → Int32) (L : Int64) (R : Nat → Nat → Int32) (T : Nat → Nat → Int32) (U : Nat → Nat → Int32) (V : Nat → Nat → Int32) (B1 : Nat → Nat → Int32) (L1 : Int64) (R1 : Nat → Nat → Int32) (T1 : Nat → Nat → Int32) (U1 : Nat → Nat → Int32) (V1 : Nat → Nat → Int32) : fr (xX a k B L R T U V) (xX a k B L R T U V) (xX a k B1 L1 R1 T1 U1 V1) (xX a k B1 L1 R1 T1 U1 V1) := ⟨[0, 1, 2, 3, 4, 5, 6, 7, 8, 9, 10, 11, 12, 13, 14, 15, 16, 17, 18, 19, 20, 21, 22, 23, 24, 25, 26, 27, 28], [], [0, 1, 2, 3, 4, 5, 6, 7, 8, 9, 10, 11, 12, 13, 14, 15, 16, 17, 18, 19, 20, 21, 22, 23, 24, 25, 26, 27, 28], [], rfl, rfl, by decide, rfl, by decide, by decide, rfl, by decide, rfl⟩
theorem ks_X_X (k : Nat → ClassId) : ks (tX k) (tX k) := ⟨[0, 1, 2, 3, 4, 5, 6, 7, 8, 9, 10, 11, 12, 13, 14, 15, 16, 17, 18, 19, 20, 21, 22, 23], rfl⟩
set_option maxRecDepth 20000 in
theorem fr_X_E (a : Nat → Nat) (k : Nat → ClassId) (B : Nat → Nat → Int32) (L : Int64) (R : Nat → Nat → Int32) (T : Nat → Nat → Int32) (U : Nat → Nat → Int32) (V : Nat → Nat → Int32)  : fr (xX a k B L R T U V) ([] : va_W) ([] : va_W) (xX a k B L R T U V) := ⟨[], [0, 1, 2, 3, 4, 5, 6, 7, 8, 9, 10, 11, 12, 13, 14, 15, 16, 17, 18, 19, 20, 21, 22, 23, 24, 25, 26, 27, 28], [0, 1, 2, 3, 4, 5, 6, 7, 8, 9, 10, 11, 12, 13, 14, 15, 16, 17, 18, 19, 20, 21, 22, 23, 24, 25, 26, 27, 28], [(a 26, .inr (4, [.ref (a 0), .ref (a 8), .ref (a 11), .ref (a 20), .ref (a 27), .ref (a 28), .int (B 6 0), .long L])), (a 27, .inl ((k 27), 4, .inl (B 4))), (a 28, .inl ((k 28), 6, .inl (B 5))), (a 8, .inr (2, [.ref (a 9), .ref (a 10), .int (R 2 0)])), (a 9, .inl ((k 9), 20, .inl (R 0))), (a 10, .inl ((k 10), 16, .inl (R 1))), (a 0, .inr (1, [.ref (a 1), .ref (a 2), .ref (a 3), .ref (a 4), .ref (a 5), .ref (a 6), .ref (a 7), .int (T 7 0)])), (a 1, .inl ((k 1), 40, .inl (T 0))), (a 2, .inl ((k 2), 40, .inl (T 1))), (a 3, .inl ((k 3), 40, .inl (T 2))), (a 4, .inl ((k 4), 40, .inl (T 3))), (a 5, .inl ((k 5), 40, .inl (T 4))), (a 6, .inl ((k 6), 40, .inl (T 5))), (a 7, .inl ((k 7), 40, .inl (T 6))), (a 11, .inr (0, [.ref (a 12), .ref (a 19)])), (a 12, .inl ((k 12), 6, .inr (.inr (.inr (.inr (rowsf a)))))), (a 13, .inl ((k 13), 40, .inl (U 0))), (a 14, .inl ((k 14), 40, .inl (U 1))), (a 15, .inl ((k 15), 40, .inl (U 2))), (a 16, .inl ((k 16), 40, .inl (U 3))), (a 17, .inl ((k 17), 40, .inl (U 4))), (a 18, .inl ((k 18), 40, .inl (U 5))), (a 19, .inl ((k 19), 6, .inl (U 6))), (a 20, .inr (3, [.ref (a 21), .ref (a 22), .ref (a 23), .ref (a 24), .ref (a 25), .int (V 5 0)])), (a 21, .inl ((k 21), 14, .inl (V 0))), (a 22, .inl ((k 22), 14, .inl (V 1))), (a 23, .inl ((k 23), 14, .inl (V 2))), (a 24, .inl ((k 24), 14, .inl (V 3))), (a 25, .inl ((k 25), 14, .inl (V 4)))], rfl, rfl, by decide, rfl, by decide, by decide, rfl, by decide, rfl⟩
theorem ks_X_E (k : Nat → ClassId) : ks (tX k) ([] : List (ClassId × FieldType)) := ⟨[], rfl⟩
set_option maxRecDepth 20000 in
theorem fr_R_R (a : Nat → Nat) (k : Nat → ClassId) (R : Nat → Nat → Int32) (T : Nat → Nat → Int32) (R1 : Nat → Nat → Int32) (T1 : Nat → Nat → Int32) : fr (xR a k R T) (xR a k R T) (xR a k R1 T1) (xR a k R1 T1) := ⟨[0, 1, 2, 3, 4, 5, 6, 7, 8, 9, 10], [], [0, 1, 2, 3, 4, 5, 6, 7, 8, 9, 10], [], rfl, rfl, by decide, rfl, by decide, by decide, rfl, by decide, rfl⟩
theorem ks_R_R (k : Nat → ClassId) : ks (tR k) (tR k) := ⟨[0, 1, 2, 3, 4, 5, 6, 7, 8], rfl⟩
set_option maxRecDepth 20000 in
theorem fr_R_T (a : Nat → Nat) (k : Nat → ClassId) (R : Nat → Nat → Int32) (T : Nat → Nat → Int32) (T1 : Nat → Nat → Int32) : fr (xR a k R T) (xT a k T) (xT a k T1) (xR a k R T1) := ⟨[3, 4, 5, 6, 7, 8, 9, 10], [0, 1, 2], [0, 1, 2, 3, 4, 5, 6, 7, 8, 9, 10], [(a 8, .inr (2, [.ref (a 9), .ref (a 10), .int (R 2 0)])), (a 9, .inl ((k 9), 20, .inl (R 0))), (a 10, .inl ((k 10), 16, .inl (R 1)))], rfl, rfl, by decide, rfl, by decide, by decide, rfl, by decide, rfl⟩
theorem ks_R_T (k : Nat → ClassId) : ks (tR k) (tT k) := ⟨[2, 3, 4, 5, 6, 7, 8], rfl⟩
set_option maxRecDepth 20000 in
theorem fr_R_E (a : Nat → Nat) (k : Nat → ClassId) (R : Nat → Nat → Int32) (T : Nat → Nat → Int32)  : fr (xR a k R T) ([] : va_W) ([] : va_W) (xR a k R T) := ⟨[], [0, 1, 2, 3, 4, 5, 6, 7, 8, 9, 10], [0, 1, 2, 3, 4, 5, 6, 7, 8, 9, 10], [(a 8, .inr (2, [.ref (a 9), .ref (a 10), .int (R 2 0)])), (a 9, .inl ((k 9), 20, .inl (R 0))), (a 10, .inl ((k 10), 16, .inl (R 1))), (a 0, .inr (1, [.ref (a 1), .ref (a 2), .ref (a 3), .ref (a 4), .ref (a 5), .ref (a 6), .ref (a 7), .int (T 7 0)])), (a 1, .inl ((k 1), 40, .inl (T 0))), (a 2, .inl ((k 2), 40, .inl (T 1))), (a 3, .inl ((k 3), 40, .inl (T 2))), (a 4, .inl ((k 4), 40, .inl (T 3))), (a 5, .inl ((k 5), 40, .inl (T 4))), (a 6, .inl ((k 6), 40, .inl (T 5))), (a 7, .inl ((k 7), 40, .inl (T 6)))], rfl, rfl, by decide, rfl, by decide, by decide, rfl, by decide, rfl⟩
theorem ks_R_E (k : Nat → ClassId) : ks (tR k) ([] : List (ClassId × FieldType)) := ⟨[], rfl⟩
set_option maxRecDepth 20000 in
theorem fr_T_T (a : Nat → Nat) (k : Nat → ClassId) (T : Nat → Nat → Int32) (T1 : Nat → Nat → Int32) : fr (xT a k T) (xT a k T) (xT a k T1) (xT a k T1) := ⟨[0, 1, 2, 3, 4, 5, 6, 7], [], [0, 1, 2, 3, 4, 5, 6, 7], [], rfl, rfl, by decide, rfl, by decide, by decide, rfl, by decide, rfl⟩
theorem ks_T_T (k : Nat → ClassId) : ks (tT k) (tT k) := ⟨[0, 1, 2, 3, 4, 5, 6], rfl⟩
set_option maxRecDepth 20000 in
theorem fr_T_E (a : Nat → Nat) (k : Nat → ClassId) (T : Nat → Nat → Int32)  : fr (xT a k T) ([] : va_W) ([] : va_W) (xT a k T) := ⟨[], [0, 1, 2, 3, 4, 5, 6, 7], [0, 1, 2, 3, 4, 5, 6, 7], [(a 0, .inr (1, [.ref (a 1), .ref (a 2), .ref (a 3), .ref (a 4), .ref (a 5), .ref (a 6), .ref (a 7), .int (T 7 0)])), (a 1, .inl ((k 1), 40, .inl (T 0))), (a 2, .inl ((k 2), 40, .inl (T 1))), (a 3, .inl ((k 3), 40, .inl (T 2))), (a 4, .inl ((k 4), 40, .inl (T 3))), (a 5, .inl ((k 5), 40, .inl (T 4))), (a 6, .inl ((k 6), 40, .inl (T 5))), (a 7, .inl ((k 7), 40, .inl (T 6)))], rfl, rfl, by decide, rfl, by decide, by decide, rfl, by decide, rfl⟩
theorem ks_T_E (k : Nat → ClassId) : ks (tT k) ([] : List (ClassId × FieldType)) := ⟨[], rfl⟩
set_option maxRecDepth 20000 in
theorem fr_U_U (a : Nat → Nat) (k : Nat → ClassId) (U : Nat → Nat → Int32) (U1 : Nat → Nat → Int32) : fr (xU a k U) (xU a k U) (xU a k U1) (xU a k U1) := ⟨[0, 1, 2, 3, 4, 5, 6, 7, 8], [], [0, 1, 2, 3, 4, 5, 6, 7, 8], [], rfl, rfl, by decide, rfl, by decide, by decide, rfl, by decide, rfl⟩
theorem ks_U_U (k : Nat → ClassId) : ks (tU k) (tU k) := ⟨[0, 1, 2, 3, 4, 5, 6, 7], rfl⟩
set_option maxRecDepth 20000 in
theorem fr_U_E (a : Nat → Nat) (k : Nat → ClassId) (U : Nat → Nat → Int32)  : fr (xU a k U) ([] : va_W) ([] : va_W) (xU a k U) := ⟨[], [0, 1, 2, 3, 4, 5, 6, 7, 8], [0, 1, 2, 3, 4, 5, 6, 7, 8], [(a 11, .inr (0, [.ref (a 12), .ref (a 19)])), (a 12, .inl ((k 12), 6, .inr (.inr (.inr (.inr (rowsf a)))))), (a 13, .inl ((k 13), 40, .inl (U 0))), (a 14, .inl ((k 14), 40, .inl (U 1))), (a 15, .inl ((k 15), 40, .inl (U 2))), (a 16, .inl ((k 16), 40, .inl (U 3))), (a 17, .inl ((k 17), 40, .inl (U 4))), (a 18, .inl ((k 18), 40, .inl (U 5))), (a 19, .inl ((k 19), 6, .inl (U 6)))], rfl, rfl, by decide, rfl, by decide, by decide, rfl, by decide, rfl⟩
theorem ks_U_E (k : Nat → ClassId) : ks (tU k) ([] : List (ClassId × FieldType)) := ⟨[], rfl⟩
set_option maxRecDepth 20000 in
theorem fr_V_V (a : Nat → Nat) (k : Nat → ClassId) (V : Nat → Nat → Int32) (V1 : Nat → Nat → Int32) : fr (xV a k V) (xV a k V) (xV a k V1) (xV a k V1) := ⟨[0, 1, 2, 3, 4, 5], [], [0, 1, 2, 3, 4, 5], [], rfl, rfl, by decide, rfl, by decide, by decide, rfl, by decide, rfl⟩
theorem ks_V_V (k : Nat → ClassId) : ks (tV k) (tV k) := ⟨[0, 1, 2, 3, 4], rfl⟩
set_option maxRecDepth 20000 in
theorem fr_V_E (a : Nat → Nat) (k : Nat → ClassId) (V : Nat → Nat → Int32)  : fr (xV a k V) ([] : va_W) ([] : va_W) (xV a k V) := ⟨[], [0, 1, 2, 3, 4, 5], [0, 1, 2, 3, 4, 5], [(a 20, .inr (3, [.ref (a 21), .ref (a 22), .ref (a 23), .ref (a 24), .ref (a 25), .int (V 5 0)])), (a 21, .inl ((k 21), 14, .inl (V 0))), (a 22, .inl ((k 22), 14, .inl (V 1))), (a 23, .inl ((k 23), 14, .inl (V 2))), (a 24, .inl ((k 24), 14, .inl (V 3))), (a 25, .inl ((k 25), 14, .inl (V 4)))], rfl, rfl, by decide, rfl, by decide, by decide, rfl, by decide, rfl⟩
theorem ks_V_E (k : Nat → ClassId) : ks (tV k) ([] : List (ClassId × FieldType)) := ⟨[], rfl⟩
set_option maxRecDepth 20000 in
theorem fr_M_M (a : Nat → Nat) (k : Nat → ClassId) (M : Nat → Nat → Int32) (L : Int64) (M1 : Nat → Nat → Int32) (L1 : Int64) : fr (xM a k M L) (xM a k M L) (xM a k M1 L1) (xM a k M1 L1) := ⟨[0, 1, 2, 3, 4, 5, 6, 7, 8, 9, 10, 11, 12, 13, 14, 15], [], [0, 1, 2, 3, 4, 5, 6, 7, 8, 9, 10, 11, 12, 13, 14, 15], [], rfl, rfl, by decide, rfl, by decide, by decide, rfl, by decide, rfl⟩
theorem ks_M_M (k : Nat → ClassId) : ks (tM k) (tM k) := ⟨[0, 1, 2, 3, 4, 5, 6, 7, 8, 9, 10, 11, 12, 13, 14], rfl⟩
set_option maxRecDepth 20000 in
theorem fr_M_E (a : Nat → Nat) (k : Nat → ClassId) (M : Nat → Nat → Int32) (L : Int64)  : fr (xM a k M L) ([] : va_W) ([] : va_W) (xM a k M L) := ⟨[], [0, 1, 2, 3, 4, 5, 6, 7, 8, 9, 10, 11, 12, 13, 14, 15], [0, 1, 2, 3, 4, 5, 6, 7, 8, 9, 10, 11, 12, 13, 14, 15], [(a 0, .inr (5, [.int (M 0 0), .ref (a 1), .long L, .int (M 3 0), .ref (a 2), .ref (a 3), .ref (a 4), .ref (a 5), .ref (a 6), .ref (a 7), .ref (a 8), .int (M 11 0), .ref (a 9), .ref (a 10), .ref (a 11), .ref (a 12), .ref (a 13), .int (M 17 0), .ref (a 14), .ref (a 15)])), (a 1, .inl ((k 1), 6, .inl (M 1))), (a 2, .inl ((k 2), 40, .inl (M 4))), (a 3, .inl ((k 3), 40, .inl (M 5))), (a 4, .inl ((k 4), 40, .inl (M 6))), (a 5, .inl ((k 5), 40, .inl (M 7))), (a 6, .inl ((k 6), 40, .inl (M 8))), (a 7, .inl ((k 7), 40, .inl (M 9))), (a 8, .inl ((k 8), 4, .inl (M 10))), (a 9, .inl ((k 9), 20, .inl (M 12))), (a 10, .inl ((k 10), 16, .inl (M 13))), (a 11, .inl ((k 11), 6, .inl (M 14))), (a 12, .inl ((k 12), 240, .inl (M 15))), (a 13, .inl ((k 13), 40, .inl (M 16))), (a 14, .inl ((k 14), 14, .inl (M 18))), (a 15, .inl ((k 15), 14, .inl (M 19)))], rfl, rfl, by decide, rfl, by decide, by decide, rfl, by decide, rfl⟩
theorem ks_M_E (k : Nat → ClassId) : ks (tM k) ([] : List (ClassId × FieldType)) := ⟨[], rfl⟩
set_option maxRecDepth 20000 in
theorem fr_E_E   : fr ([] : va_W) ([] : va_W) ([] : va_W) ([] : va_W) := ⟨[], [], [], [], rfl, rfl, by decide, rfl, by decide, by decide, rfl, by decide, rfl⟩
theorem ks_E_E : ks ([] : List (ClassId × FieldType)) ([] : List (ClassId × FieldType)) := ⟨[], rfl⟩
theorem rowat_U (a : Nat → Nat) (k : Nat → ClassId) (U : Nat → Nat → Int32) (q : Nat) (hq : q < 6) : (xU a k U)[2 + q]? = some (a (13 + q), .inl (k (13 + q), 40, .inl (U q))) := match q, hq with
  | 0, _ => rfl
  | 1, _ => rfl
  | 2, _ => rfl
  | 3, _ => rfl
  | 4, _ => rfl
  | 5, _ => rfl
  | n + 6, h => absurd h (by omega)
theorem rowty_U (k : Nat → ClassId) (q : Nat) (hq : q < 6) : (tU k)[1 + q]? = some (k (13 + q), .int) := match q, hq with
  | 0, _ => rfl
  | 1, _ => rfl
  | 2, _ => rfl
  | 3, _ => rfl
  | 4, _ => rfl
  | 5, _ => rfl
  | n + 6, h => absurd h (by omega)
theorem rowset_U (a : Nat → Nat) (k : Nat → ClassId) (U : Nat → Nat → Int32) (q : Nat) (hq : q < 6) (i : Nat) (v : Int32) : (xU a k U).set (2 + q) (a (13 + q), .inl (k (13 + q), 40, .inl (upd (U q) i v))) = (xU a k (st U q i v)) := match q, hq with
  | 0, _ => rfl
  | 1, _ => rfl
  | 2, _ => rfl
  | 3, _ => rfl
  | 4, _ => rfl
  | 5, _ => rfl
  | n + 6, h => absurd h (by omega)
theorem rowsw_U (a : Nat → Nat) (k : Nat → ClassId) (U : Nat → Nat → Int32) (q : Nat) (hq : q < 6) (g : Nat → Int32) : (xU a k U).set (2 + q) (a (13 + q), .inl (k (13 + q), 40, .inl g)) = (xU a k (sw U q g)) := match q, hq with
  | 0, _ => rfl
  | 1, _ => rfl
  | 2, _ => rfl
  | 3, _ => rfl
  | 4, _ => rfl
  | 5, _ => rfl
  | n + 6, h => absurd h (by omega)
theorem rowat_X (a : Nat → Nat) (k : Nat → ClassId) (B : Nat → Nat → Int32) (L : Int64) (R : Nat → Nat → Int32) (T : Nat → Nat → Int32) (U : Nat → Nat → Int32) (V : Nat → Nat → Int32) (q : Nat) (hq : q < 6) : (xX a k B L R T U V)[16 + q]? = some (a (13 + q), .inl (k (13 + q), 40, .inl (U q))) := match q, hq with
  | 0, _ => rfl
  | 1, _ => rfl
  | 2, _ => rfl
  | 3, _ => rfl
  | 4, _ => rfl
  | 5, _ => rfl
  | n + 6, h => absurd h (by omega)
theorem rowty_X (k : Nat → ClassId) (q : Nat) (hq : q < 6) : (tX k)[12 + q]? = some (k (13 + q), .int) := match q, hq with
  | 0, _ => rfl
  | 1, _ => rfl
  | 2, _ => rfl
  | 3, _ => rfl
  | 4, _ => rfl
  | 5, _ => rfl
  | n + 6, h => absurd h (by omega)
theorem rowset_X (a : Nat → Nat) (k : Nat → ClassId) (B : Nat → Nat → Int32) (L : Int64) (R : Nat → Nat → Int32) (T : Nat → Nat → Int32) (U : Nat → Nat → Int32) (V : Nat → Nat → Int32) (q : Nat) (hq : q < 6) (i : Nat) (v : Int32) : (xX a k B L R T U V).set (16 + q) (a (13 + q), .inl (k (13 + q), 40, .inl (upd (U q) i v))) = (xX a k B L R T (st U q i v) V) := match q, hq with
  | 0, _ => rfl
  | 1, _ => rfl
  | 2, _ => rfl
  | 3, _ => rfl
  | 4, _ => rfl
  | 5, _ => rfl
  | n + 6, h => absurd h (by omega)
theorem rowsw_X (a : Nat → Nat) (k : Nat → ClassId) (B : Nat → Nat → Int32) (L : Int64) (R : Nat → Nat → Int32) (T : Nat → Nat → Int32) (U : Nat → Nat → Int32) (V : Nat → Nat → Int32) (q : Nat) (hq : q < 6) (g : Nat → Int32) : (xX a k B L R T U V).set (16 + q) (a (13 + q), .inl (k (13 + q), 40, .inl g)) = (xX a k B L R T (sw U q g) V) := match q, hq with
  | 0, _ => rfl
  | 1, _ => rfl
  | 2, _ => rfl
  | 3, _ => rfl
  | 4, _ => rfl
  | 5, _ => rfl
  | n + 6, h => absurd h (by omega)
section LDROW
variable {p : Program} {l : Launch} {e : Env} {R : Room} {s : State} {m : MethodId} {args : Array Value} {below : List Frame} {meth : Method} {c : Code} {H : Heap} {locs : List Loc} {cells slots : Nat} {D : va_G} {ws : va_W} {cc : ByteArray} {pc : Nat} {ls : Array Slot} {tys : List (ClassId × FieldType)} {rest : List Value} {Q : State → Prop}
theorem va_ldrow (hexec : p.tables.exec = Jvm.exec) (hb : c.code = cc) (hK : va_K D vwCl tys s) (hP : va_P D vwCl ws H) (q0 t0 : Nat) {cA : ClassId} {b : Nat} {a : Nat → Nat} (ha : ws[q0]? = some (b, .inl (cA, 6, .inr (.inr (.inr (.inr (rowsf a))))))) (ht : tys[t0]? = some (cA, .array .int)) {i : Int32} (hin : vp_in i 6) {q : Nat} (hq : q = Int32.toNatClampNeg i) (hdg : decode cc pc = .ok (.aaload, 1))
    (kk : W p l e R s m args below meth c H locs cells slots Q (F0 m (pc + 1) ls (.ref (a (13 + q)) :: rest))) : W p l e R s m args below meth c H locs cells slots Q (F0 m pc ls (.int i :: .ref b :: rest)) := by
  subst hq
  have hlt : i.toNatClampNeg < 6 := Nat.not_le.mp fun q => hin (Or.inr q)
  refine va_aldA hexec hb hK hP q0 t0 ha ht hin hdg ?_
  have e1 : va_rf (rowsf a i.toNatClampNeg) = .ref (a (13 + i.toNatClampNeg)) := by
    unfold rowsf
    rw [if_pos hlt]
    rfl
  rw [e1]
  exact kk
end LDROW
