/-- the classes of arrays, by number: int, byte, boolean, long, Site, Text -/
abbrev tysK (K : Nat → ClassId) : List (ClassId × FieldType) := [(K 0, .int), (K 1, .byte), (K 2, .boolean), (K 3, .long), (K 4, .object "SunriseRoof$Site"), (K 5, .object "SunriseRoof$Text")]
abbrev mS : Type := (Nat → Int32) × (Nat → Nat → Int32) × (Nat → Int64)
/-- the reference's object: numbers f by slot, rows r by slot -/
def mO (f : Nat → Int32) (r : Nat → Nat) : List Value := [.int (f 0), .ref (r 1), .ref (r 2), .ref (r 3), .ref (r 4), .ref (r 5), .int (f 6), .ref (r 7), .int (f 8), .int (f 9), .int (f 10), .ref (r 11), .ref (r 12), .int (f 13), .int (f 14), .ref (r 15), .ref (r 16), .ref (r 17), .int (f 18), .int (f 19), .int (f 20), .int (f 21), .int (f 22), .int (f 23), .int (f 24), .int (f 25), .ref (r 26), .int (f 27), .int (f 28), .ref (r 29), .ref (r 30), .ref (r 31), .ref (r 32), .int (f 33), .ref (r 34), .ref (r 35), .ref (r 36), .int (f 37), .int (f 38), .int (f 39), .int (f 40), .int (f 41), .int (f 42), .ref (r 43), .ref (r 44), .int (f 45), .int (f 46), .int (f 47)]
/-- the reference's cells -/
def mW (K : Nat → ClassId) (o : Nat) (r : Nat → Nat) (f : Nat → Int32) (a : Nat → Nat → Int32) (g : Nat → Int64) : va_W := [(o, .inr (12, mO f r)), (r 1, .inl (K 0, 7, .inl (a 1))), (r 2, .inl (K 0, 5714, .inl (a 2))), (r 3, .inl (K 0, 11428, .inl (a 3))), (r 4, .inl (K 2, 2, .inl (a 4))), (r 5, .inl (K 0, 46, .inl (a 5))), (r 7, .inl (K 1, 146, .inl (a 7))), (r 11, .inl (K 1, 400, .inl (a 11))), (r 12, .inl (K 0, 5, .inl (a 12))), (r 15, .inl (K 0, 401, .inl (a 15))), (r 16, .inl (K 0, 401, .inl (a 16))), (r 17, .inl (K 0, 401, .inl (a 17))), (r 26, .inl (K 0, 10, .inl (a 26))), (r 29, .inl (K 0, 6, .inl (a 29))), (r 30, .inl (K 0, 6, .inl (a 30))), (r 31, .inl (K 0, 384, .inl (a 31))), (r 32, .inl (K 0, 384, .inl (a 32))), (r 34, .inl (K 0, 10, .inl (a 34))), (r 35, .inl (K 0, 1024, .inl (a 35))), (r 36, .inl (K 0, 451, .inl (a 36))), (r 43, .inl (K 3, 2, .inr (.inl g))), (r 44, .inl (K 0, 23, .inl (a 44)))]
abbrev mIs : List Nat := [0, 1, 2, 3, 4, 5, 6, 7, 8, 9, 10, 11, 12, 13, 14, 15, 16, 17, 18, 19, 20, 21]
def mLies (x lo hi : Int32) : Int32 := if x < lo then 0 else if hi < x then 0 else 1
theorem cl_0 : (0 : Int32).toNatClampNeg = 0 := by decide +kernel
theorem cl_99 : (99 : Int32).toNatClampNeg = 99 := by decide +kernel
theorem cl_100 : (100 : Int32).toNatClampNeg = 100 := by decide +kernel
theorem cl_106 : (106 : Int32).toNatClampNeg = 106 := by decide +kernel
