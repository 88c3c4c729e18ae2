/-! THE MATHEMATICS, 31: the founding -/
def Z0 : Gd := fun _ _ => 0
def g0 : Gd := Grs Z0
def g1_ : Gd := Gsc g0 0 30
def g2_ : Gd := Gsc g1_ 1 20
def g3_ : Gd := Gsc g2_ 2 15
def g4_ : Gd := Gbed g3_ 0 0 2 0 9
def g5_ : Gd := Gbed g4_ 1 1 1 5 9
def g6_ : Gd := Gbed g5_ 2 2 3 0 0
def g7_ : Gd := Gsel g6_ 0 0 1 0 1 0 (Pr g6_ 1 1 0)
def g8_ : Gd := Gsel g7_ 1 1 3 0 6 0 (Pr g7_ 3 6 0)
def g9_ : Gd := Gsel g8_ 2 2 7 1 3 1 (Pr g8_ 7 3 1)
def g10_ : Gd := Gtk g9_ 40
def g11_ : Gd := Gsho g10_ 0 0 0
def g12_ : Gd := Gsho g11_ 1 1 1
def g13_ : Gd := Gplk g12_ 0 0 (Fn g12_ 0 2) 2
def g14_ : Gd := Gtk g13_ 2
def g15_ : Gd := Gsho g14_ 1 0 0
def g16_ : Gd := Gplk g15_ 1 0 (Fn g15_ 0 3) 3
def g17_ : Gd := Glos g16_ 0
def FT : Nat → Int32 := strA 0
def FL : Nat := 189
theorem ft_0 : tE FT FL 0 = 6 ∧ isw FT FL 0 (strB 1) = true ∧ tE FT FL 6 = 9 ∧ tK FT FL 6 = 1 ∧ tV FT FL 6 = 30 ∧ tE FT FL 9 = 12 ∧ tK FT FL 9 = 1 ∧ tV FT FL 9 = 20 ∧ tE FT FL 12 = 15 ∧ tK FT FL 12 = 1 ∧ tV FT FL 12 = 15 ∧ tE FT FL 15 = 16 ∧ tK FT FL 15 = 2 := by decide +kernel
theorem ft_1 : tE FT FL 16 = 20 ∧ isw FT FL 16 (strB 2) = true ∧ tE FT FL 20 = 22 ∧ tK FT FL 20 = 1 ∧ tV FT FL 20 = 0 ∧ tE FT FL 22 = 24 ∧ tK FT FL 22 = 1 ∧ tV FT FL 22 = 2 ∧ tE FT FL 24 = 26 ∧ tK FT FL 24 = 1 ∧ tV FT FL 24 = 0 ∧ tE FT FL 26 = 28 ∧ tK FT FL 26 = 1 ∧ tV FT FL 26 = 9 ∧ tE FT FL 28 = 29 ∧ tK FT FL 28 = 2 := by decide +kernel
theorem ft_2 : tE FT FL 29 = 33 ∧ isw FT FL 29 (strB 2) = true ∧ tE FT FL 33 = 35 ∧ tK FT FL 33 = 1 ∧ tV FT FL 33 = 1 ∧ tE FT FL 35 = 37 ∧ tK FT FL 35 = 1 ∧ tV FT FL 35 = 1 ∧ tE FT FL 37 = 39 ∧ tK FT FL 37 = 1 ∧ tV FT FL 37 = 5 ∧ tE FT FL 39 = 41 ∧ tK FT FL 39 = 1 ∧ tV FT FL 39 = 9 ∧ tE FT FL 41 = 42 ∧ tK FT FL 41 = 2 := by decide +kernel
theorem ft_3 : tE FT FL 42 = 46 ∧ isw FT FL 42 (strB 2) = true ∧ tE FT FL 46 = 48 ∧ tK FT FL 46 = 1 ∧ tV FT FL 46 = 2 ∧ tE FT FL 48 = 50 ∧ tK FT FL 48 = 1 ∧ tV FT FL 48 = 3 ∧ tE FT FL 50 = 52 ∧ tK FT FL 50 = 1 ∧ tV FT FL 50 = 0 ∧ tE FT FL 52 = 54 ∧ tK FT FL 52 = 1 ∧ tV FT FL 52 = 0 ∧ tE FT FL 54 = 55 ∧ tK FT FL 54 = 2 := by decide +kernel
theorem ft_4 : tE FT FL 55 = 60 ∧ isw FT FL 55 (strB 3) = true ∧ tE FT FL 60 = 62 ∧ tK FT FL 60 = 1 ∧ tV FT FL 60 = 1 ∧ tE FT FL 62 = 64 ∧ tK FT FL 62 = 1 ∧ tV FT FL 62 = 0 ∧ tE FT FL 64 = 66 ∧ tK FT FL 64 = 1 ∧ tV FT FL 64 = 1 ∧ tE FT FL 66 = 72 ∧ isw FT FL 66 (strB 4) = true ∧ tE FT FL 72 = 73 ∧ tK FT FL 72 = 2 := by decide +kernel
theorem ft_5 : tE FT FL 73 = 78 ∧ isw FT FL 73 (strB 3) = true ∧ tE FT FL 78 = 80 ∧ tK FT FL 78 = 1 ∧ tV FT FL 78 = 3 ∧ tE FT FL 80 = 82 ∧ tK FT FL 80 = 1 ∧ tV FT FL 80 = 0 ∧ tE FT FL 82 = 84 ∧ tK FT FL 82 = 1 ∧ tV FT FL 82 = 6 ∧ tE FT FL 84 = 90 ∧ isw FT FL 84 (strB 4) = true ∧ tE FT FL 90 = 91 ∧ tK FT FL 90 = 2 := by decide +kernel
theorem ft_6 : tE FT FL 91 = 96 ∧ isw FT FL 91 (strB 3) = true ∧ tE FT FL 96 = 98 ∧ tK FT FL 96 = 1 ∧ tV FT FL 96 = 7 ∧ tE FT FL 98 = 100 ∧ tK FT FL 98 = 1 ∧ tV FT FL 98 = 1 ∧ tE FT FL 100 = 102 ∧ tK FT FL 100 = 1 ∧ tV FT FL 100 = 3 ∧ tE FT FL 102 = 108 ∧ isw FT FL 102 (strB 5) = true ∧ tE FT FL 108 = 109 ∧ tK FT FL 108 = 2 := by decide +kernel
theorem ft_7 : tE FT FL 109 = 114 ∧ isw FT FL 109 (strB 12) = true ∧ tE FT FL 114 = 117 ∧ tK FT FL 114 = 1 ∧ tV FT FL 114 = 40 ∧ tE FT FL 117 = 118 ∧ tK FT FL 117 = 2 := by decide +kernel
theorem ft_8 : tE FT FL 118 = 124 ∧ isw FT FL 118 (strB 6) = true ∧ tE FT FL 124 = 126 ∧ tK FT FL 124 = 1 ∧ tV FT FL 124 = 0 ∧ tE FT FL 126 = 128 ∧ tK FT FL 126 = 1 ∧ tV FT FL 126 = 0 ∧ tE FT FL 128 = 129 ∧ tK FT FL 128 = 2 := by decide +kernel
theorem ft_9 : tE FT FL 129 = 135 ∧ isw FT FL 129 (strB 6) = true ∧ tE FT FL 135 = 137 ∧ tK FT FL 135 = 1 ∧ tV FT FL 135 = 1 ∧ tE FT FL 137 = 139 ∧ tK FT FL 137 = 1 ∧ tV FT FL 137 = 1 ∧ tE FT FL 139 = 140 ∧ tK FT FL 139 = 2 := by decide +kernel
theorem ft_10 : tE FT FL 140 = 146 ∧ isw FT FL 140 (strB 7) = true ∧ tE FT FL 146 = 148 ∧ tK FT FL 146 = 1 ∧ tV FT FL 146 = 0 ∧ tE FT FL 148 = 150 ∧ tK FT FL 148 = 1 ∧ tV FT FL 148 = 2 ∧ tE FT FL 150 = 151 ∧ tK FT FL 150 = 2 := by decide +kernel
theorem ft_11 : tE FT FL 151 = 156 ∧ isw FT FL 151 (strB 12) = true ∧ tE FT FL 156 = 158 ∧ tK FT FL 156 = 1 ∧ tV FT FL 156 = 2 ∧ tE FT FL 158 = 159 ∧ tK FT FL 158 = 2 := by decide +kernel
theorem ft_12 : tE FT FL 159 = 165 ∧ isw FT FL 159 (strB 6) = true ∧ tE FT FL 165 = 167 ∧ tK FT FL 165 = 1 ∧ tV FT FL 165 = 1 ∧ tE FT FL 167 = 169 ∧ tK FT FL 167 = 1 ∧ tV FT FL 167 = 0 ∧ tE FT FL 169 = 170 ∧ tK FT FL 169 = 2 := by decide +kernel
theorem ft_13 : tE FT FL 170 = 176 ∧ isw FT FL 170 (strB 7) = true ∧ tE FT FL 176 = 178 ∧ tK FT FL 176 = 1 ∧ tV FT FL 176 = 1 ∧ tE FT FL 178 = 180 ∧ tK FT FL 178 = 1 ∧ tV FT FL 178 = 3 ∧ tE FT FL 180 = 181 ∧ tK FT FL 180 = 2 := by decide +kernel
theorem ft_14 : tE FT FL 181 = 186 ∧ isw FT FL 181 (strB 9) = true ∧ tE FT FL 186 = 188 ∧ tK FT FL 186 = 1 ∧ tV FT FL 186 = 0 ∧ tE FT FL 188 = 189 ∧ tK FT FL 188 = 2 := by decide +kernel
theorem ft_end : tK FT FL 189 = 3 := by decide +kernel
theorem ft_len : (strB 0).length = FL := by decide +kernel
theorem ft_low : ∀ i, i < FL → 0 ≤ (FT i).toInt ∧ (FT i).toInt ≤ 127 := by decide +kernel
theorem ck11 : Rf g10_ 0 0 = 0 := by decide +kernel
theorem ck12 : Rf g11_ 1 1 = 0 := by decide +kernel
theorem ck13 : CpP g12_ 0 2 := by unfold CpP; decide +kernel
theorem ck15 : Rf g14_ 1 0 = 0 := by decide +kernel
theorem ck16 : CpP g15_ 1 3 := by unfold CpP; decide +kernel
theorem ck13b : (g12_ 27 0).toInt.toNat = 0 ∧ (g12_ 25 0).toInt.toNat = 0 := by decide +kernel
theorem ck16b : (g15_ 27 1).toInt.toNat = 1 ∧ (g15_ 25 1).toInt.toNat = 0 := by decide +kernel
theorem ck17 : g16_ 20 0 = 0 := by decide +kernel
