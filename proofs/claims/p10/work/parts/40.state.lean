/-! ===== what the cells of the class and of the reference hold ===== -/
abbrev nq_I : Type := Nat → Nat → Int32
abbrev nq_J : Type := Nat → Nat → Int64
noncomputable def rc_rows : Nat → Option Nat := va_up (va_up (va_up (va_up (va_up (va_up (fun _ => none) 0 (some 29)) 1 (some 31)) 2 (some 33)) 3 (some 35)) 4 (some 37)) 5 (some 39)
noncomputable def rc_texts : Nat → Option Nat := va_up (va_up (va_up (va_up (fun _ => none) 0 (some 41)) 1 (some 43)) 2 (some 45)) 3 (some 47)
noncomputable def rc_heaps : Nat → Option Nat := va_up (va_up (va_up (va_up (fun _ => none) 0 (some 49)) 1 (some 52)) 2 (some 55)) 3 (some 58)
/-- the class: int arrays by their handles, long arrays, ints (0 latestFinding, 1 askedNumber, 2 stuffs, 3 makings, 4 .. 9 the course's, 10 .. 15 the other's, 16 .. 21 the ROWS' sizes, 22 .. 25 the TEXTS', 26 .. 29 the HEAPS'), longs (0 upper, 1 lower) -/
noncomputable def encC (I : nq_I) (J : nq_J) (F : Nat → Int32) (G : Nat → Int64) : nk_H :=
  [.inr (5, [.ref 1, .ref 2, .ref 3, .ref 6, .ref 8, .ref 9, .ref 18, .ref 27, .ref 28, .int (F 0), .int (F 1), .long (G 0), .long (G 1)]),
   .inl (2, 6, .inr (.inr (.inr (.inr rc_rows)))), .inl (2, 4, .inr (.inr (.inr (.inr rc_texts)))),
   .inr (4, [.ref 4, .ref 5, .int (F 2), .int (F 3)]), .inl (0, 80, .inl (I 4)), .inl (0, 84, .inl (I 5)),
   .inr (2, [.ref 7]), .inl (0, 5, .inl (I 7)), .inl (0, 4, .inl (I 8)),
   .inr (0, [.ref 3, .ref 10, .int (F 4), .ref 11, .ref 12, .ref 13, .ref 14, .ref 15, .ref 16, .ref 17, .int (F 5), .int (F 6), .int (F 7), .int (F 8), .int (F 9)]),
   .inl (0, 5, .inl (I 10)), .inl (0, 16, .inl (I 11)), .inl (0, 16, .inl (I 12)), .inl (0, 16, .inl (I 13)), .inl (0, 16, .inl (I 14)), .inl (0, 16, .inl (I 15)), .inl (0, 96, .inl (I 16)), .inl (1, 6, .inr (.inl (J 17))),
   .inr (0, [.ref 3, .ref 19, .int (F 10), .ref 20, .ref 21, .ref 22, .ref 23, .ref 24, .ref 25, .ref 26, .int (F 11), .int (F 12), .int (F 13), .int (F 14), .int (F 15)]),
   .inl (0, 5, .inl (I 19)), .inl (0, 16, .inl (I 20)), .inl (0, 16, .inl (I 21)), .inl (0, 16, .inl (I 22)), .inl (0, 16, .inl (I 23)), .inl (0, 16, .inl (I 24)), .inl (0, 96, .inl (I 25)), .inl (1, 6, .inr (.inl (J 26))),
   .inl (3, 4, .inr (.inr (.inr (.inr rc_heaps)))), .inl (0, 6, .inl (I 28)),
   .inr (3, [.ref 30, .int (F 16)]), .inl (0, 40, .inl (I 30)), .inr (3, [.ref 32, .int (F 17)]), .inl (0, 40, .inl (I 32)), .inr (3, [.ref 34, .int (F 18)]), .inl (0, 40, .inl (I 34)),
   .inr (3, [.ref 36, .int (F 19)]), .inl (0, 40, .inl (I 36)), .inr (3, [.ref 38, .int (F 20)]), .inl (0, 40, .inl (I 38)), .inr (3, [.ref 40, .int (F 21)]), .inl (0, 40, .inl (I 40)),
   .inr (3, [.ref 42, .int (F 22)]), .inl (0, 40, .inl (I 42)), .inr (3, [.ref 44, .int (F 23)]), .inl (0, 40, .inl (I 44)), .inr (3, [.ref 46, .int (F 24)]), .inl (0, 40, .inl (I 46)), .inr (3, [.ref 48, .int (F 25)]), .inl (0, 40, .inl (I 48)),
   .inr (1, [.ref 50, .ref 51, .int (F 26)]), .inl (0, 20, .inl (I 50)), .inl (0, 20, .inl (I 51)), .inr (1, [.ref 53, .ref 54, .int (F 27)]), .inl (0, 20, .inl (I 53)), .inl (0, 20, .inl (I 54)),
   .inr (1, [.ref 56, .ref 57, .int (F 28)]), .inl (0, 20, .inl (I 56)), .inl (0, 20, .inl (I 57)), .inr (1, [.ref 59, .ref 60, .int (F 29)]), .inl (0, 20, .inl (I 59)), .inl (0, 20, .inl (I 60))]
/-- the reference: ints (0 finding, 1 asked, 2 stuffMany, 3 makingMany, 4 readNumber, 5 isFine, 6 lawNow, 7 answersNow, 8 due), longs (0 upper, 1 lower, 2 h0) -/
noncomputable def encR (I : nq_I) (J : nq_J) (F : Nat → Int32) (G : Nat → Int64) : nk_H :=
  [.inr (6, [.int (F 0), .ref 1, .int (F 1), .long (G 0), .long (G 1), .ref 2, .ref 3, .ref 4, .ref 5, .ref 6, .int (F 2), .ref 7, .int (F 3), .ref 8, .ref 9, .int (F 4), .ref 10, .ref 11, .ref 12, .ref 13, .ref 14, .ref 15, .int (F 5), .int (F 6), .int (F 7), .ref 16, .ref 17, .ref 18, .ref 19, .ref 20, .int (F 8), .long (G 2)]),
   .inl (0, 6, .inl (I 1)), .inl (0, 6, .inl (I 2)), .inl (0, 240, .inl (I 3)), .inl (0, 40, .inl (I 4)), .inl (0, 4, .inl (I 5)), .inl (0, 160, .inl (I 6)), .inl (0, 80, .inl (I 7)), .inl (0, 84, .inl (I 8)), .inl (0, 4, .inl (I 9)),
   .inl (0, 16, .inl (I 10)), .inl (0, 16, .inl (I 11)), .inl (0, 16, .inl (I 12)), .inl (0, 16, .inl (I 13)), .inl (1, 96, .inr (.inl (J 14))), .inl (1, 16, .inr (.inl (J 15))), .inl (1, 6, .inr (.inl (J 16))), .inl (1, 84, .inr (.inl (J 17))),
   .inl (0, 4, .inl (I 18)), .inl (0, 80, .inl (I 19)), .inl (0, 80, .inl (I 20))]
/-- the same behind n other cells -/
noncomputable def encRb (n : Nat) (I : nq_I) (J : nq_J) (F : Nat → Int32) (G : Nat → Int64) : nk_H :=
  [.inr (6, [.int (F 0), .ref (n + 1), .int (F 1), .long (G 0), .long (G 1), .ref (n + 2), .ref (n + 3), .ref (n + 4), .ref (n + 5), .ref (n + 6), .int (F 2), .ref (n + 7), .int (F 3), .ref (n + 8), .ref (n + 9), .int (F 4), .ref (n + 10), .ref (n + 11), .ref (n + 12), .ref (n + 13), .ref (n + 14), .ref (n + 15), .int (F 5), .int (F 6), .int (F 7), .ref (n + 16), .ref (n + 17), .ref (n + 18), .ref (n + 19), .ref (n + 20), .int (F 8), .long (G 2)]),
   .inl (0, 6, .inl (I 1)), .inl (0, 6, .inl (I 2)), .inl (0, 240, .inl (I 3)), .inl (0, 40, .inl (I 4)), .inl (0, 4, .inl (I 5)), .inl (0, 160, .inl (I 6)), .inl (0, 80, .inl (I 7)), .inl (0, 84, .inl (I 8)), .inl (0, 4, .inl (I 9)),
   .inl (0, 16, .inl (I 10)), .inl (0, 16, .inl (I 11)), .inl (0, 16, .inl (I 12)), .inl (0, 16, .inl (I 13)), .inl (1, 96, .inr (.inl (J 14))), .inl (1, 16, .inr (.inl (J 15))), .inl (1, 6, .inr (.inl (J 16))), .inl (1, 84, .inr (.inl (J 17))),
   .inl (0, 4, .inl (I 18)), .inl (0, 80, .inl (I 19)), .inl (0, 80, .inl (I 20))]
/-! at first -/
noncomputable def iC0 : nq_I := fun q => bif Nat.beq q 8 then upd (upd (upd (upd (fun _ => 0) 0 (-1)) 1 (-1)) 2 (-1)) 3 (-1) else fun _ => 0
noncomputable def fC0 : Nat → Int32 := fun k => bif (Nat.ble 16 k && Nat.ble k 25) || (Nat.beq k 7 || Nat.beq k 13) then -1 else 0
noncomputable def gC0 : Nat → Int64 := fun k => bif Nat.beq k 1 then 1 else 0
noncomputable def iR0 : nq_I := fun q => bif Nat.beq q 2 then upd (upd (upd (upd (upd (upd (fun _ => 0) 0 (-9)) 1 (-9)) 2 (-9)) 3 (-9)) 4 (-9)) 5 (-9) else bif Nat.beq q 5 then upd (upd (upd (upd (fun _ => 0) 0 (-9)) 1 (-9)) 2 (-9)) 3 (-9) else fun _ => 0
noncomputable abbrev hC0 : nk_H := encC iC0 (fun _ _ => 0) fC0 gC0
noncomputable abbrev hR0 : nk_H := encR iR0 (fun _ _ => 0) (fun _ => 0) gC0
