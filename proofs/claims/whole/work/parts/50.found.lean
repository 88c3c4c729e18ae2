/-! THE MATHEMATICS, 31: the founding -/
def Z0 : Gd := fun _ _ => 0
def g0 : Gd := Grs Z0
def g1_ : Gd := Gsc g0 0 30
def g2_ : Gd := Gsc g1_ 1 20
def g3_ : Gd := Gsc g2_ 2 15
def g4_ : Gd := Gbed g3_ 0 0 2 0 9
def g5_ : Gd := Gbed g4_ 1 1 1 5 9
def g6_ : Gd := Gbed g5_ 2 2 3 0 0
def g7_ : Gd := Gsel g6_ 0 0 1 0 1 0 (Pr g6_ 1 1 0)
def g8_ : Gd := Gsel g7_ 1 1 3 0 6 0 (Pr g7_ 3 6 0)
def g9_ : Gd := Gsel g8_ 2 2 7 1 3 1 (Pr g8_ 7 3 1)
def g10_ : Gd := Gtk g9_ 40
def g11_ : Gd := Gsho g10_ 0 0 0
def g12_ : Gd := Gsho g11_ 1 1 1
def g13_ : Gd := Gplk g12_ 0 0 (Fn g12_ 0 2) 2
def g14_ : Gd := Gtk g13_ 2
def g15_ : Gd := Gsho g14_ 1 0 0
def g16_ : Gd := Gplk g15_ 1 0 (Fn g15_ 0 3) 3
def g17_ : Gd := Glos g16_ 0
theorem tst1 : (g6_ 3 0).toInt = 3 ∧ (g9_ 4 0).toInt = 3 ∧ (g9_ 5 0).toInt = 3 ∧ (g10_ 1 0).toInt = 40 := by decide +kernel
theorem tst2 : Rf g10_ 0 0 = 0 := by decide +kernel
theorem tst3 : Rf g11_ 1 1 = 0 := by decide +kernel
