/-! THE START: the reference's object -/
def R0 (L : Nat) (xs : Nat → Int32) : jH := jnew (A11 L xs) 9 0 57
def R1 (L : Nat) (xs : Nat → Int32) : jH := jsp (jnew (R0 L xs) 22 31 31) 30 0 (some 31)
def R2 (L : Nat) (xs : Nat → Int32) : jH := jsp (jnew (R1 L xs) 20 31 31) 30 1 (some 32)
def R3 (L : Nat) (xs : Nat → Int32) : jH := jsp (jnew (R2 L xs) 22 62 62) 30 2 (some 33)
def R4 (L : Nat) (xs : Nat → Int32) : jH := jsp (jnew (R3 L xs) 22 62 62) 30 3 (some 34)
def R5 (L : Nat) (xs : Nat → Int32) : jH := jsp (jnew (R4 L xs) 20 30752 30752) 30 4 (some 35)
def R6 (L : Nat) (xs : Nat → Int32) : jH := jsp (jnew (R5 L xs) 20 30752 30752) 30 5 (some 36)
def R7 (L : Nat) (xs : Nat → Int32) : jH := jsp (jnew (R6 L xs) 22 1922 1922) 30 6 (some 37)
def R8 (L : Nat) (xs : Nat → Int32) : jH := jsp (jnew (R7 L xs) 20 31 31) 30 7 (some 38)
def R9 (L : Nat) (xs : Nat → Int32) : jH := jsp (jnew (R8 L xs) 20 31 31) 30 8 (some 39)
def R10 (L : Nat) (xs : Nat → Int32) : jH := jsp (jnew (R9 L xs) 20 31 31) 30 9 (some 40)
def R11 (L : Nat) (xs : Nat → Int32) : jH := jsp (jnew (R10 L xs) 20 31 31) 30 10 (some 41)
def R12 (L : Nat) (xs : Nat → Int32) : jH := jsp (jnew (R11 L xs) 20 31 31) 30 11 (some 42)
def R13 (L : Nat) (xs : Nat → Int32) : jH := jsp (jnew (R12 L xs) 22 31 31) 30 12 (some 43)
def R14 (L : Nat) (xs : Nat → Int32) : jH := jsp (jnew (R13 L xs) 22 31 31) 30 13 (some 44)
def R15 (L : Nat) (xs : Nat → Int32) : jH := jsp (jnew (R14 L xs) 22 31 31) 30 14 (some 45)
def R16 (L : Nat) (xs : Nat → Int32) : jH := jsp (jnew (R15 L xs) 20 31 31) 30 15 (some 46)
def R17 (L : Nat) (xs : Nat → Int32) : jH := jsp (jnew (R16 L xs) 20 31 31) 30 16 (some 47)
def R18 (L : Nat) (xs : Nat → Int32) : jH := jsp (jnew (R17 L xs) 20 31 31) 30 17 (some 48)
def R19 (L : Nat) (xs : Nat → Int32) : jH := jsp (jnew (R18 L xs) 20 620 620) 30 18 (some 49)
def R20 (L : Nat) (xs : Nat → Int32) : jH := jsp (jnew (R19 L xs) 20 31 31) 30 19 (some 50)
def R21 (L : Nat) (xs : Nat → Int32) : jH := jsp (jnew (R20 L xs) 20 64 64) 30 23 (some 51)
def R22 (L : Nat) (xs : Nat → Int32) : jH := jsp (jnew (R21 L xs) 20 64 64) 30 24 (some 52)
def R23 (L : Nat) (xs : Nat → Int32) : jH := jsp (jnew (R22 L xs) 20 64 64) 30 25 (some 53)
def R24 (L : Nat) (xs : Nat → Int32) : jH := jsp (jnew (R23 L xs) 20 64 64) 30 26 (some 54)
def R25 (L : Nat) (xs : Nat → Int32) : jH := jsp (jnew (R24 L xs) 20 40 40) 30 27 (some 55)
def R26 (L : Nat) (xs : Nat → Int32) : jH := jsp (jnew (R25 L xs) 21 40 40) 30 28 (some 56)
def R27 (L : Nat) (xs : Nat → Int32) : jH := jsp (jnew (R26 L xs) 20 512 512) 30 30 (some 57)
def R28 (L : Nat) (xs : Nat → Int32) : jH := jsp (jnew (R27 L xs) 20 24 24) 30 31 (some 58)
def R29 (L : Nat) (xs : Nat → Int32) : jH := jsp (jnew (R28 L xs) 20 24 24) 30 32 (some 59)
def R30 (L : Nat) (xs : Nat → Int32) : jH := jsp (jnew (R29 L xs) 20 24 24) 30 33 (some 60)
def R31 (L : Nat) (xs : Nat → Int32) : jH := jsp (jnew (R30 L xs) 20 24 24) 30 34 (some 61)
def R32 (L : Nat) (xs : Nat → Int32) : jH := jsp (jnew (R31 L xs) 20 24 24) 30 35 (some 62)
def R33 (L : Nat) (xs : Nat → Int32) : jH := jsp (jnew (R32 L xs) 20 24 24) 30 36 (some 63)
def R34 (L : Nat) (xs : Nat → Int32) : jH := jsp (jnew (R33 L xs) 20 24 24) 30 37 (some 64)
def R35 (L : Nat) (xs : Nat → Int32) : jH := jsp (jnew (R34 L xs) 20 24 24) 30 38 (some 65)
def R36 (L : Nat) (xs : Nat → Int32) : jH := jsp (jnew (R35 L xs) 20 144 144) 30 39 (some 66)
def R37 (L : Nat) (xs : Nat → Int32) : jH := jsp (jnew (R36 L xs) 20 8 8) 30 41 (some 67)
def R37s (L : Nat) (xs : Nat → Int32) : jH := jsi (jsi (R37 L xs) 30 46 1) 30 47 1000
def R38 (L : Nat) (xs : Nat → Int32) : jH := jsp (jnew (R37s L xs) 20 40 40) 30 48 (some 68)
def R39 (L : Nat) (xs : Nat → Int32) : jH := jsp (jnew (R38 L xs) 20 80 80) 30 50 (some 69)
def R40 (L : Nat) (xs : Nat → Int32) : jH := jsp (jnew (R39 L xs) 20 2 2) 30 51 (some 70)
def R41 (L : Nat) (xs : Nat → Int32) : jH := jsp (jnew (R40 L xs) 22 31 31) 30 53 (some 71)
def R42 (L : Nat) (xs : Nat → Int32) : jH := jsp (jnew (R41 L xs) 22 31 31) 30 54 (some 72)
def R43 (L : Nat) (xs : Nat → Int32) : jH := jsp (jnew (R42 L xs) 20 33 33) 30 55 (some 73)
theorem sl_af (h : jH) (k n z o s : Nat) (v : Option Nat) : (jsp (jnew h k n z) o s v).2.2 = h.2.2 + z := rfl
theorem sl_nw (h : jH) (k n z : Nat) : (jnew h k n z).2.2 = h.2.2 + z := rfl
theorem sl_s2 (h : jH) (a b c d : Nat) (v w : Int32) : (jsi (jsi h a b v) c d w).2.2 = h.2.2 := rfl
theorem R_x (L : Nat) (xs : Nat → Int32) : (R43 L xs).2.1 = 74 := rfl
theorem R_sl (L : Nat) (xs : Nat → Int32) : (R43 L xs).2.2 ≤ 70000 := by
  have ea : (A11 L xs).2.2 = 1298 := congrArg Prod.snd (A_x L xs)
  have e0 : (R0 L xs).2.2 = (A11 L xs).2.2 + 57 := sl_nw (A11 L xs) 9 0 57
  have e1 : (R1 L xs).2.2 = (R0 L xs).2.2 + 31 := sl_af (R0 L xs) 22 31 31 30 0 (some 31)
  have e2 : (R2 L xs).2.2 = (R1 L xs).2.2 + 31 := sl_af (R1 L xs) 20 31 31 30 1 (some 32)
  have e3 : (R3 L xs).2.2 = (R2 L xs).2.2 + 62 := sl_af (R2 L xs) 22 62 62 30 2 (some 33)
  have e4 : (R4 L xs).2.2 = (R3 L xs).2.2 + 62 := sl_af (R3 L xs) 22 62 62 30 3 (some 34)
  have e5 : (R5 L xs).2.2 = (R4 L xs).2.2 + 30752 := sl_af (R4 L xs) 20 30752 30752 30 4 (some 35)
  have e6 : (R6 L xs).2.2 = (R5 L xs).2.2 + 30752 := sl_af (R5 L xs) 20 30752 30752 30 5 (some 36)
  have e7 : (R7 L xs).2.2 = (R6 L xs).2.2 + 1922 := sl_af (R6 L xs) 22 1922 1922 30 6 (some 37)
  have e8 : (R8 L xs).2.2 = (R7 L xs).2.2 + 31 := sl_af (R7 L xs) 20 31 31 30 7 (some 38)
  have e9 : (R9 L xs).2.2 = (R8 L xs).2.2 + 31 := sl_af (R8 L xs) 20 31 31 30 8 (some 39)
  have e10 : (R10 L xs).2.2 = (R9 L xs).2.2 + 31 := sl_af (R9 L xs) 20 31 31 30 9 (some 40)
  have e11 : (R11 L xs).2.2 = (R10 L xs).2.2 + 31 := sl_af (R10 L xs) 20 31 31 30 10 (some 41)
  have e12 : (R12 L xs).2.2 = (R11 L xs).2.2 + 31 := sl_af (R11 L xs) 20 31 31 30 11 (some 42)
  have e13 : (R13 L xs).2.2 = (R12 L xs).2.2 + 31 := sl_af (R12 L xs) 22 31 31 30 12 (some 43)
  have e14 : (R14 L xs).2.2 = (R13 L xs).2.2 + 31 := sl_af (R13 L xs) 22 31 31 30 13 (some 44)
  have e15 : (R15 L xs).2.2 = (R14 L xs).2.2 + 31 := sl_af (R14 L xs) 22 31 31 30 14 (some 45)
  have e16 : (R16 L xs).2.2 = (R15 L xs).2.2 + 31 := sl_af (R15 L xs) 20 31 31 30 15 (some 46)
  have e17 : (R17 L xs).2.2 = (R16 L xs).2.2 + 31 := sl_af (R16 L xs) 20 31 31 30 16 (some 47)
  have e18 : (R18 L xs).2.2 = (R17 L xs).2.2 + 31 := sl_af (R17 L xs) 20 31 31 30 17 (some 48)
  have e19 : (R19 L xs).2.2 = (R18 L xs).2.2 + 620 := sl_af (R18 L xs) 20 620 620 30 18 (some 49)
  have e20 : (R20 L xs).2.2 = (R19 L xs).2.2 + 31 := sl_af (R19 L xs) 20 31 31 30 19 (some 50)
  have e21 : (R21 L xs).2.2 = (R20 L xs).2.2 + 64 := sl_af (R20 L xs) 20 64 64 30 23 (some 51)
  have e22 : (R22 L xs).2.2 = (R21 L xs).2.2 + 64 := sl_af (R21 L xs) 20 64 64 30 24 (some 52)
  have e23 : (R23 L xs).2.2 = (R22 L xs).2.2 + 64 := sl_af (R22 L xs) 20 64 64 30 25 (some 53)
  have e24 : (R24 L xs).2.2 = (R23 L xs).2.2 + 64 := sl_af (R23 L xs) 20 64 64 30 26 (some 54)
  have e25 : (R25 L xs).2.2 = (R24 L xs).2.2 + 40 := sl_af (R24 L xs) 20 40 40 30 27 (some 55)
  have e26 : (R26 L xs).2.2 = (R25 L xs).2.2 + 40 := sl_af (R25 L xs) 21 40 40 30 28 (some 56)
  have e27 : (R27 L xs).2.2 = (R26 L xs).2.2 + 512 := sl_af (R26 L xs) 20 512 512 30 30 (some 57)
  have e28 : (R28 L xs).2.2 = (R27 L xs).2.2 + 24 := sl_af (R27 L xs) 20 24 24 30 31 (some 58)
  have e29 : (R29 L xs).2.2 = (R28 L xs).2.2 + 24 := sl_af (R28 L xs) 20 24 24 30 32 (some 59)
  have e30 : (R30 L xs).2.2 = (R29 L xs).2.2 + 24 := sl_af (R29 L xs) 20 24 24 30 33 (some 60)
  have e31 : (R31 L xs).2.2 = (R30 L xs).2.2 + 24 := sl_af (R30 L xs) 20 24 24 30 34 (some 61)
  have e32 : (R32 L xs).2.2 = (R31 L xs).2.2 + 24 := sl_af (R31 L xs) 20 24 24 30 35 (some 62)
  have e33 : (R33 L xs).2.2 = (R32 L xs).2.2 + 24 := sl_af (R32 L xs) 20 24 24 30 36 (some 63)
  have e34 : (R34 L xs).2.2 = (R33 L xs).2.2 + 24 := sl_af (R33 L xs) 20 24 24 30 37 (some 64)
  have e35 : (R35 L xs).2.2 = (R34 L xs).2.2 + 24 := sl_af (R34 L xs) 20 24 24 30 38 (some 65)
  have e36 : (R36 L xs).2.2 = (R35 L xs).2.2 + 144 := sl_af (R35 L xs) 20 144 144 30 39 (some 66)
  have e37 : (R37 L xs).2.2 = (R36 L xs).2.2 + 8 := sl_af (R36 L xs) 20 8 8 30 41 (some 67)
  have es : (R37s L xs).2.2 = (R37 L xs).2.2 := sl_s2 (R37 L xs) 30 46 30 47 1 1000
  have e38 : (R38 L xs).2.2 = (R37s L xs).2.2 + 40 := sl_af (R37s L xs) 20 40 40 30 48 (some 68)
  have e39 : (R39 L xs).2.2 = (R38 L xs).2.2 + 80 := sl_af (R38 L xs) 20 80 80 30 50 (some 69)
  have e40 : (R40 L xs).2.2 = (R39 L xs).2.2 + 2 := sl_af (R39 L xs) 20 2 2 30 51 (some 70)
  have e41 : (R41 L xs).2.2 = (R40 L xs).2.2 + 31 := sl_af (R40 L xs) 22 31 31 30 53 (some 71)
  have e42 : (R42 L xs).2.2 = (R41 L xs).2.2 + 31 := sl_af (R41 L xs) 22 31 31 30 54 (some 72)
  have e43 : (R43 L xs).2.2 = (R42 L xs).2.2 + 33 := sl_af (R42 L xs) 20 33 33 30 55 (some 73)
  omega
theorem i_M0 (L : Nat) (xs : Nat → Int32) : jV 104 0 [some (.ref 30), none] [] (R0 L xs) = jV 104 367 [some (.ref 30), some (.int (nI 0))] [] (R43 L xs) := by
  have e2 : (2 : Int32).toNatClampNeg = 2 := by decide
  have e8 : (8 : Int32).toNatClampNeg = 8 := by decide
  have e24 : (24 : Int32).toNatClampNeg = 24 := by decide
  have e31 : (31 : Int32).toNatClampNeg = 31 := by decide
  have e33 : (33 : Int32).toNatClampNeg = 33 := by decide
  have e40 : (40 : Int32).toNatClampNeg = 40 := by decide
  have e62 : (62 : Int32).toNatClampNeg = 62 := by decide
  have e64 : (64 : Int32).toNatClampNeg = 64 := by decide
  have e80 : (80 : Int32).toNatClampNeg = 80 := by decide
  have e144 : (144 : Int32).toNatClampNeg = 144 := by decide
  have e512 : (512 : Int32).toNatClampNeg = 512 := by decide
  have e620 : (620 : Int32).toNatClampNeg = 620 := by decide
  have e1922 : (1922 : Int32).toNatClampNeg = 1922 := by decide
  have e30752 : (30752 : Int32).toNatClampNeg = 30752 := by decide
  have x0 : (R0 L xs).2.1 = 31 := rfl
  have k100 : jk (jnew (R0 L xs) 22 31 31) 30 = (9, 0) := rfl
  have d0 : jsp (jnew (R0 L xs) 22 31 31) 30 0 (some 31) = R1 L xs := rfl
  have x1 : (R1 L xs).2.1 = 32 := rfl
  have k101 : jk (jnew (R1 L xs) 20 31 31) 30 = (9, 0) := rfl
  have d1 : jsp (jnew (R1 L xs) 20 31 31) 30 1 (some 32) = R2 L xs := rfl
  have x2 : (R2 L xs).2.1 = 33 := rfl
  have k102 : jk (jnew (R2 L xs) 22 62 62) 30 = (9, 0) := rfl
  have d2 : jsp (jnew (R2 L xs) 22 62 62) 30 2 (some 33) = R3 L xs := rfl
  have x3 : (R3 L xs).2.1 = 34 := rfl
  have k103 : jk (jnew (R3 L xs) 22 62 62) 30 = (9, 0) := rfl
  have d3 : jsp (jnew (R3 L xs) 22 62 62) 30 3 (some 34) = R4 L xs := rfl
  have x4 : (R4 L xs).2.1 = 35 := rfl
  have k104 : jk (jnew (R4 L xs) 20 30752 30752) 30 = (9, 0) := rfl
  have d4 : jsp (jnew (R4 L xs) 20 30752 30752) 30 4 (some 35) = R5 L xs := rfl
  have x5 : (R5 L xs).2.1 = 36 := rfl
  have k105 : jk (jnew (R5 L xs) 20 30752 30752) 30 = (9, 0) := rfl
  have d5 : jsp (jnew (R5 L xs) 20 30752 30752) 30 5 (some 36) = R6 L xs := rfl
  have x6 : (R6 L xs).2.1 = 37 := rfl
  have k106 : jk (jnew (R6 L xs) 22 1922 1922) 30 = (9, 0) := rfl
  have d6 : jsp (jnew (R6 L xs) 22 1922 1922) 30 6 (some 37) = R7 L xs := rfl
  have x7 : (R7 L xs).2.1 = 38 := rfl
  have k107 : jk (jnew (R7 L xs) 20 31 31) 30 = (9, 0) := rfl
  have d7 : jsp (jnew (R7 L xs) 20 31 31) 30 7 (some 38) = R8 L xs := rfl
  have x8 : (R8 L xs).2.1 = 39 := rfl
  have k108 : jk (jnew (R8 L xs) 20 31 31) 30 = (9, 0) := rfl
  have d8 : jsp (jnew (R8 L xs) 20 31 31) 30 8 (some 39) = R9 L xs := rfl
  have x9 : (R9 L xs).2.1 = 40 := rfl
  have k109 : jk (jnew (R9 L xs) 20 31 31) 30 = (9, 0) := rfl
  have d9 : jsp (jnew (R9 L xs) 20 31 31) 30 9 (some 40) = R10 L xs := rfl
  have x10 : (R10 L xs).2.1 = 41 := rfl
  have k110 : jk (jnew (R10 L xs) 20 31 31) 30 = (9, 0) := rfl
  have d10 : jsp (jnew (R10 L xs) 20 31 31) 30 10 (some 41) = R11 L xs := rfl
  have x11 : (R11 L xs).2.1 = 42 := rfl
  have k111 : jk (jnew (R11 L xs) 20 31 31) 30 = (9, 0) := rfl
  have d11 : jsp (jnew (R11 L xs) 20 31 31) 30 11 (some 42) = R12 L xs := rfl
  have x12 : (R12 L xs).2.1 = 43 := rfl
  have k112 : jk (jnew (R12 L xs) 22 31 31) 30 = (9, 0) := rfl
  have d12 : jsp (jnew (R12 L xs) 22 31 31) 30 12 (some 43) = R13 L xs := rfl
  have x13 : (R13 L xs).2.1 = 44 := rfl
  have k113 : jk (jnew (R13 L xs) 22 31 31) 30 = (9, 0) := rfl
  have d13 : jsp (jnew (R13 L xs) 22 31 31) 30 13 (some 44) = R14 L xs := rfl
  have x14 : (R14 L xs).2.1 = 45 := rfl
  have k114 : jk (jnew (R14 L xs) 22 31 31) 30 = (9, 0) := rfl
  have d14 : jsp (jnew (R14 L xs) 22 31 31) 30 14 (some 45) = R15 L xs := rfl
  have x15 : (R15 L xs).2.1 = 46 := rfl
  have k115 : jk (jnew (R15 L xs) 20 31 31) 30 = (9, 0) := rfl
  have d15 : jsp (jnew (R15 L xs) 20 31 31) 30 15 (some 46) = R16 L xs := rfl
  have x16 : (R16 L xs).2.1 = 47 := rfl
  have k116 : jk (jnew (R16 L xs) 20 31 31) 30 = (9, 0) := rfl
  have d16 : jsp (jnew (R16 L xs) 20 31 31) 30 16 (some 47) = R17 L xs := rfl
  have x17 : (R17 L xs).2.1 = 48 := rfl
  have k117 : jk (jnew (R17 L xs) 20 31 31) 30 = (9, 0) := rfl
  have d17 : jsp (jnew (R17 L xs) 20 31 31) 30 17 (some 48) = R18 L xs := rfl
  have x18 : (R18 L xs).2.1 = 49 := rfl
  have k118 : jk (jnew (R18 L xs) 20 620 620) 30 = (9, 0) := rfl
  have d18 : jsp (jnew (R18 L xs) 20 620 620) 30 18 (some 49) = R19 L xs := rfl
  have x19 : (R19 L xs).2.1 = 50 := rfl
  have k119 : jk (jnew (R19 L xs) 20 31 31) 30 = (9, 0) := rfl
  have d19 : jsp (jnew (R19 L xs) 20 31 31) 30 19 (some 50) = R20 L xs := rfl
  have x20 : (R20 L xs).2.1 = 51 := rfl
  have k120 : jk (jnew (R20 L xs) 20 64 64) 30 = (9, 0) := rfl
  have d20 : jsp (jnew (R20 L xs) 20 64 64) 30 23 (some 51) = R21 L xs := rfl
  have x21 : (R21 L xs).2.1 = 52 := rfl
  have k121 : jk (jnew (R21 L xs) 20 64 64) 30 = (9, 0) := rfl
  have d21 : jsp (jnew (R21 L xs) 20 64 64) 30 24 (some 52) = R22 L xs := rfl
  have x22 : (R22 L xs).2.1 = 53 := rfl
  have k122 : jk (jnew (R22 L xs) 20 64 64) 30 = (9, 0) := rfl
  have d22 : jsp (jnew (R22 L xs) 20 64 64) 30 25 (some 53) = R23 L xs := rfl
  have x23 : (R23 L xs).2.1 = 54 := rfl
  have k123 : jk (jnew (R23 L xs) 20 64 64) 30 = (9, 0) := rfl
  have d23 : jsp (jnew (R23 L xs) 20 64 64) 30 26 (some 54) = R24 L xs := rfl
  have x24 : (R24 L xs).2.1 = 55 := rfl
  have k124 : jk (jnew (R24 L xs) 20 40 40) 30 = (9, 0) := rfl
  have d24 : jsp (jnew (R24 L xs) 20 40 40) 30 27 (some 55) = R25 L xs := rfl
  have x25 : (R25 L xs).2.1 = 56 := rfl
  have k125 : jk (jnew (R25 L xs) 21 40 40) 30 = (9, 0) := rfl
  have d25 : jsp (jnew (R25 L xs) 21 40 40) 30 28 (some 56) = R26 L xs := rfl
  have x26 : (R26 L xs).2.1 = 57 := rfl
  have k126 : jk (jnew (R26 L xs) 20 512 512) 30 = (9, 0) := rfl
  have d26 : jsp (jnew (R26 L xs) 20 512 512) 30 30 (some 57) = R27 L xs := rfl
  have x27 : (R27 L xs).2.1 = 58 := rfl
  have k127 : jk (jnew (R27 L xs) 20 24 24) 30 = (9, 0) := rfl
  have d27 : jsp (jnew (R27 L xs) 20 24 24) 30 31 (some 58) = R28 L xs := rfl
  have x28 : (R28 L xs).2.1 = 59 := rfl
  have k128 : jk (jnew (R28 L xs) 20 24 24) 30 = (9, 0) := rfl
  have d28 : jsp (jnew (R28 L xs) 20 24 24) 30 32 (some 59) = R29 L xs := rfl
  have x29 : (R29 L xs).2.1 = 60 := rfl
  have k129 : jk (jnew (R29 L xs) 20 24 24) 30 = (9, 0) := rfl
  have d29 : jsp (jnew (R29 L xs) 20 24 24) 30 33 (some 60) = R30 L xs := rfl
  have x30 : (R30 L xs).2.1 = 61 := rfl
  have k130 : jk (jnew (R30 L xs) 20 24 24) 30 = (9, 0) := rfl
  have d30 : jsp (jnew (R30 L xs) 20 24 24) 30 34 (some 61) = R31 L xs := rfl
  have x31 : (R31 L xs).2.1 = 62 := rfl
  have k131 : jk (jnew (R31 L xs) 20 24 24) 30 = (9, 0) := rfl
  have d31 : jsp (jnew (R31 L xs) 20 24 24) 30 35 (some 62) = R32 L xs := rfl
  have x32 : (R32 L xs).2.1 = 63 := rfl
  have k132 : jk (jnew (R32 L xs) 20 24 24) 30 = (9, 0) := rfl
  have d32 : jsp (jnew (R32 L xs) 20 24 24) 30 36 (some 63) = R33 L xs := rfl
  have x33 : (R33 L xs).2.1 = 64 := rfl
  have k133 : jk (jnew (R33 L xs) 20 24 24) 30 = (9, 0) := rfl
  have d33 : jsp (jnew (R33 L xs) 20 24 24) 30 37 (some 64) = R34 L xs := rfl
  have x34 : (R34 L xs).2.1 = 65 := rfl
  have k134 : jk (jnew (R34 L xs) 20 24 24) 30 = (9, 0) := rfl
  have d34 : jsp (jnew (R34 L xs) 20 24 24) 30 38 (some 65) = R35 L xs := rfl
  have x35 : (R35 L xs).2.1 = 66 := rfl
  have k135 : jk (jnew (R35 L xs) 20 144 144) 30 = (9, 0) := rfl
  have d35 : jsp (jnew (R35 L xs) 20 144 144) 30 39 (some 66) = R36 L xs := rfl
  have x36 : (R36 L xs).2.1 = 67 := rfl
  have k136 : jk (jnew (R36 L xs) 20 8 8) 30 = (9, 0) := rfl
  have d36 : jsp (jnew (R36 L xs) 20 8 8) 30 41 (some 67) = R37 L xs := rfl
  have x37 : (R37s L xs).2.1 = 68 := rfl
  have k137 : jk (jnew (R37s L xs) 20 40 40) 30 = (9, 0) := rfl
  have d37 : jsp (jnew (R37s L xs) 20 40 40) 30 48 (some 68) = R38 L xs := rfl
  have x38 : (R38 L xs).2.1 = 69 := rfl
  have k138 : jk (jnew (R38 L xs) 20 80 80) 30 = (9, 0) := rfl
  have d38 : jsp (jnew (R38 L xs) 20 80 80) 30 50 (some 69) = R39 L xs := rfl
  have x39 : (R39 L xs).2.1 = 70 := rfl
  have k139 : jk (jnew (R39 L xs) 20 2 2) 30 = (9, 0) := rfl
  have d39 : jsp (jnew (R39 L xs) 20 2 2) 30 51 (some 70) = R40 L xs := rfl
  have x40 : (R40 L xs).2.1 = 71 := rfl
  have k140 : jk (jnew (R40 L xs) 22 31 31) 30 = (9, 0) := rfl
  have d40 : jsp (jnew (R40 L xs) 22 31 31) 30 53 (some 71) = R41 L xs := rfl
  have x41 : (R41 L xs).2.1 = 72 := rfl
  have k141 : jk (jnew (R41 L xs) 22 31 31) 30 = (9, 0) := rfl
  have d41 : jsp (jnew (R41 L xs) 22 31 31) 30 54 (some 72) = R42 L xs := rfl
  have x42 : (R42 L xs).2.1 = 73 := rfl
  have k142 : jk (jnew (R42 L xs) 20 33 33) 30 = (9, 0) := rfl
  have d42 : jsp (jnew (R42 L xs) 20 33 33) 30 55 (some 73) = R43 L xs := rfl
  have ks : jk (R37 L xs) 30 = (9, 0) := rfl
  have ds : jsi (jsi (R37 L xs) 30 46 1) 30 47 1000 = R37s L xs := rfl
  simp only [s104_0, s104_1, s104_4, s104_5, s104_7 (x := 31) (hx := by decide), s104_9, s104_12, s104_13, s104_15 (x := 31) (hx := by decide), s104_17, s104_20, s104_21, s104_23 (x := 62) (hx := by decide), s104_25, s104_28, s104_29, s104_31 (x := 62) (hx := by decide), s104_33, s104_36, s104_37, s104_40 (x := 30752) (hx := by decide), s104_42, s104_45, s104_46, s104_49 (x := 30752) (hx := by decide), s104_51, s104_54, s104_55, s104_58 (x := 1922) (hx := by decide), s104_60, s104_63, s104_64, s104_66 (x := 31) (hx := by decide), s104_68, s104_71, s104_72, s104_74 (x := 31) (hx := by decide), s104_76, s104_79, s104_80, s104_82 (x := 31) (hx := by decide), s104_84, s104_87, s104_88, s104_90 (x := 31) (hx := by decide), s104_92, s104_95, s104_96, s104_98 (x := 31) (hx := by decide), s104_100, s104_103, s104_104, s104_106 (x := 31) (hx := by decide), s104_108, s104_111, s104_112, s104_114 (x := 31) (hx := by decide), s104_116, s104_119, s104_120, s104_122 (x := 31) (hx := by decide), s104_124, s104_127, s104_128, s104_130 (x := 31) (hx := by decide), s104_132, s104_135, s104_136, s104_138 (x := 31) (hx := by decide), s104_140, s104_143, s104_144, s104_146 (x := 31) (hx := by decide), s104_148, s104_151, s104_152, s104_155 (x := 620) (hx := by decide), s104_157, s104_160, s104_161, s104_163 (x := 31) (hx := by decide), s104_165, s104_168, s104_169, s104_171 (x := 64) (hx := by decide), s104_173, s104_176, s104_177, s104_179 (x := 64) (hx := by decide), s104_181, s104_184, s104_185, s104_187 (x := 64) (hx := by decide), s104_189, s104_192, s104_193, s104_195 (x := 64) (hx := by decide), s104_197, s104_200, s104_201, s104_203 (x := 40) (hx := by decide), s104_205, s104_208, s104_209, s104_211 (x := 40) (hx := by decide), s104_213, s104_216, s104_217, s104_220 (x := 512) (hx := by decide), s104_222, s104_225, s104_226, s104_228 (x := 24) (hx := by decide), s104_230, s104_233, s104_234, s104_236 (x := 24) (hx := by decide), s104_238, s104_241, s104_242, s104_244 (x := 24) (hx := by decide), s104_246, s104_249, s104_250, s104_252 (x := 24) (hx := by decide), s104_254, s104_257, s104_258, s104_260 (x := 24) (hx := by decide), s104_262, s104_265, s104_266, s104_268 (x := 24) (hx := by decide), s104_270, s104_273, s104_274, s104_276 (x := 24) (hx := by decide), s104_278, s104_281, s104_282, s104_284 (x := 24) (hx := by decide), s104_286, s104_289, s104_290, s104_293 (x := 144) (hx := by decide), s104_295, s104_298, s104_299, s104_301 (x := 8) (hx := by decide), s104_303, s104_306, s104_307, s104_308, s104_311, s104_312, s104_315, s104_318, s104_319, s104_321 (x := 40) (hx := by decide), s104_323, s104_326, s104_327, s104_329 (x := 80) (hx := by decide), s104_331, s104_334, s104_335, s104_336 (x := 2) (hx := by decide), s104_338, s104_341, s104_342, s104_344 (x := 31) (hx := by decide), s104_346, s104_349, s104_350, s104_352 (x := 31) (hx := by decide), s104_354, s104_357, s104_358, s104_360 (x := 33) (hx := by decide), s104_362, s104_365, s104_366, e2, e8, e24, e31, e33, e40, e62, e64, e80, e144, e512, e620, e1922, e30752, x0, k100, d0, x1, k101, d1, x2, k102, d2, x3, k103, d3, x4, k104, d4, x5, k105, d5, x6, k106, d6, x7, k107, d7, x8, k108, d8, x9, k109, d9, x10, k110, d10, x11, k111, d11, x12, k112, d12, x13, k113, d13, x14, k114, d14, x15, k115, d15, x16, k116, d16, x17, k117, d17, x18, k118, d18, x19, k119, d19, x20, k120, d20, x21, k121, d21, x22, k122, d22, x23, k123, d23, x24, k124, d24, x25, k125, d25, x26, k126, d26, x27, k127, d27, x28, k128, d28, x29, k129, d29, x30, k130, d30, x31, k131, d31, x32, k132, d32, x33, k133, d33, x34, k134, d34, x35, k135, d35, x36, k136, d36, x37, k137, d37, x38, k138, d38, x39, k139, d39, x40, k140, d40, x41, k141, d41, x42, k142, d42, ks, ds, jk_si, ↓reduceIte, va_rf_s, va_rf_n, jb_some, jb_none, jtl_s, jtl_n, if_true, if_false, true_and, and_true, false_and, and_false, or_true, true_or, or_false, false_or, not_true_eq_false, not_false_eq_true, jk_si, jp_si, jj_si, jk_sj, jp_sj, ji_sj, jk_ci, jp_ci, jj_ci, jk_cj, jp_cj, ji_cj, jlng_n, jlng_i, jlng_r, jlng_0]
  rfl
theorem R_ms (L : Nat) (xs : Nat → Int32) : MS (R43 L xs) := by
  refine ⟨fun a h1 h2 => ?_, fun e he => ?_⟩
  · rcases (show a = 30 ∨ a = 31 ∨ a = 32 ∨ a = 33 ∨ a = 34 ∨ a = 35 ∨ a = 36 ∨ a = 37 ∨ a = 38 ∨ a = 39 ∨ a = 40 ∨ a = 41 ∨ a = 42 ∨ a = 43 ∨ a = 44 ∨ a = 45 ∨ a = 46 ∨ a = 47 ∨ a = 48 ∨ a = 49 ∨ a = 50 ∨ a = 51 ∨ a = 52 ∨ a = 53 ∨ a = 54 ∨ a = 55 ∨ a = 56 ∨ a = 57 ∨ a = 58 ∨ a = 59 ∨ a = 60 ∨ a = 61 ∨ a = 62 ∨ a = 63 ∨ a = 64 ∨ a = 65 ∨ a = 66 ∨ a = 67 ∨ a = 68 ∨ a = 69 ∨ a = 70 ∨ a = 71 ∨ a = 72 ∨ a = 73 by omega) with rfl | rfl | rfl | rfl | rfl | rfl | rfl | rfl | rfl | rfl | rfl | rfl | rfl | rfl | rfl | rfl | rfl | rfl | rfl | rfl | rfl | rfl | rfl | rfl | rfl | rfl | rfl | rfl | rfl | rfl | rfl | rfl | rfl | rfl | rfl | rfl | rfl | rfl | rfl | rfl | rfl | rfl | rfl | rfl <;> rfl
  · have key : ∀ l : List ((Nat × Nat) × Nat), (∀ e ∈ l, jp (R43 L xs) e.1.1 e.1.2 = some e.2) ↔ l.map (fun e => jp (R43 L xs) e.1.1 e.1.2) = l.map (fun e => some e.2) := fun l => by
      induction l with
      | nil => simp
      | cons x l ih => simp [ih]
    exact (key rMS).mpr rfl e he
theorem R_old (L : Nat) (xs : Nat → Int32) {b : Nat} (hb : b < 30) : (R43 L xs).1 b = (A11 L xs).1 b := by
  show (jsp (jnew (R42 L xs) 20 33 33) 30 55 (some 73)).1 b = _
  rw [cl_sp _ _ _ _ _ (by omega), cl_new _ _ _ _ _ (by show ¬ b = 73; omega)]
  show (jsp (jnew (R41 L xs) 22 31 31) 30 54 (some 72)).1 b = _
  rw [cl_sp _ _ _ _ _ (by omega), cl_new _ _ _ _ _ (by show ¬ b = 72; omega)]
  show (jsp (jnew (R40 L xs) 22 31 31) 30 53 (some 71)).1 b = _
  rw [cl_sp _ _ _ _ _ (by omega), cl_new _ _ _ _ _ (by show ¬ b = 71; omega)]
  show (jsp (jnew (R39 L xs) 20 2 2) 30 51 (some 70)).1 b = _
  rw [cl_sp _ _ _ _ _ (by omega), cl_new _ _ _ _ _ (by show ¬ b = 70; omega)]
  show (jsp (jnew (R38 L xs) 20 80 80) 30 50 (some 69)).1 b = _
  rw [cl_sp _ _ _ _ _ (by omega), cl_new _ _ _ _ _ (by show ¬ b = 69; omega)]
  show (jsp (jnew (R37s L xs) 20 40 40) 30 48 (some 68)).1 b = _
  rw [cl_sp _ _ _ _ _ (by omega), cl_new _ _ _ _ _ (by show ¬ b = 68; omega)]
  show (jsi (jsi (R37 L xs) 30 46 1) 30 47 1000).1 b = _
  rw [cl_si _ _ _ _ _ (by omega), cl_si _ _ _ _ _ (by omega)]
  show (jsp (jnew (R36 L xs) 20 8 8) 30 41 (some 67)).1 b = _
  rw [cl_sp _ _ _ _ _ (by omega), cl_new _ _ _ _ _ (by show ¬ b = 67; omega)]
  show (jsp (jnew (R35 L xs) 20 144 144) 30 39 (some 66)).1 b = _
  rw [cl_sp _ _ _ _ _ (by omega), cl_new _ _ _ _ _ (by show ¬ b = 66; omega)]
  show (jsp (jnew (R34 L xs) 20 24 24) 30 38 (some 65)).1 b = _
  rw [cl_sp _ _ _ _ _ (by omega), cl_new _ _ _ _ _ (by show ¬ b = 65; omega)]
  show (jsp (jnew (R33 L xs) 20 24 24) 30 37 (some 64)).1 b = _
  rw [cl_sp _ _ _ _ _ (by omega), cl_new _ _ _ _ _ (by show ¬ b = 64; omega)]
  show (jsp (jnew (R32 L xs) 20 24 24) 30 36 (some 63)).1 b = _
  rw [cl_sp _ _ _ _ _ (by omega), cl_new _ _ _ _ _ (by show ¬ b = 63; omega)]
  show (jsp (jnew (R31 L xs) 20 24 24) 30 35 (some 62)).1 b = _
  rw [cl_sp _ _ _ _ _ (by omega), cl_new _ _ _ _ _ (by show ¬ b = 62; omega)]
  show (jsp (jnew (R30 L xs) 20 24 24) 30 34 (some 61)).1 b = _
  rw [cl_sp _ _ _ _ _ (by omega), cl_new _ _ _ _ _ (by show ¬ b = 61; omega)]
  show (jsp (jnew (R29 L xs) 20 24 24) 30 33 (some 60)).1 b = _
  rw [cl_sp _ _ _ _ _ (by omega), cl_new _ _ _ _ _ (by show ¬ b = 60; omega)]
  show (jsp (jnew (R28 L xs) 20 24 24) 30 32 (some 59)).1 b = _
  rw [cl_sp _ _ _ _ _ (by omega), cl_new _ _ _ _ _ (by show ¬ b = 59; omega)]
  show (jsp (jnew (R27 L xs) 20 24 24) 30 31 (some 58)).1 b = _
  rw [cl_sp _ _ _ _ _ (by omega), cl_new _ _ _ _ _ (by show ¬ b = 58; omega)]
  show (jsp (jnew (R26 L xs) 20 512 512) 30 30 (some 57)).1 b = _
  rw [cl_sp _ _ _ _ _ (by omega), cl_new _ _ _ _ _ (by show ¬ b = 57; omega)]
  show (jsp (jnew (R25 L xs) 21 40 40) 30 28 (some 56)).1 b = _
  rw [cl_sp _ _ _ _ _ (by omega), cl_new _ _ _ _ _ (by show ¬ b = 56; omega)]
  show (jsp (jnew (R24 L xs) 20 40 40) 30 27 (some 55)).1 b = _
  rw [cl_sp _ _ _ _ _ (by omega), cl_new _ _ _ _ _ (by show ¬ b = 55; omega)]
  show (jsp (jnew (R23 L xs) 20 64 64) 30 26 (some 54)).1 b = _
  rw [cl_sp _ _ _ _ _ (by omega), cl_new _ _ _ _ _ (by show ¬ b = 54; omega)]
  show (jsp (jnew (R22 L xs) 20 64 64) 30 25 (some 53)).1 b = _
  rw [cl_sp _ _ _ _ _ (by omega), cl_new _ _ _ _ _ (by show ¬ b = 53; omega)]
  show (jsp (jnew (R21 L xs) 20 64 64) 30 24 (some 52)).1 b = _
  rw [cl_sp _ _ _ _ _ (by omega), cl_new _ _ _ _ _ (by show ¬ b = 52; omega)]
  show (jsp (jnew (R20 L xs) 20 64 64) 30 23 (some 51)).1 b = _
  rw [cl_sp _ _ _ _ _ (by omega), cl_new _ _ _ _ _ (by show ¬ b = 51; omega)]
  show (jsp (jnew (R19 L xs) 20 31 31) 30 19 (some 50)).1 b = _
  rw [cl_sp _ _ _ _ _ (by omega), cl_new _ _ _ _ _ (by show ¬ b = 50; omega)]
  show (jsp (jnew (R18 L xs) 20 620 620) 30 18 (some 49)).1 b = _
  rw [cl_sp _ _ _ _ _ (by omega), cl_new _ _ _ _ _ (by show ¬ b = 49; omega)]
  show (jsp (jnew (R17 L xs) 20 31 31) 30 17 (some 48)).1 b = _
  rw [cl_sp _ _ _ _ _ (by omega), cl_new _ _ _ _ _ (by show ¬ b = 48; omega)]
  show (jsp (jnew (R16 L xs) 20 31 31) 30 16 (some 47)).1 b = _
  rw [cl_sp _ _ _ _ _ (by omega), cl_new _ _ _ _ _ (by show ¬ b = 47; omega)]
  show (jsp (jnew (R15 L xs) 20 31 31) 30 15 (some 46)).1 b = _
  rw [cl_sp _ _ _ _ _ (by omega), cl_new _ _ _ _ _ (by show ¬ b = 46; omega)]
  show (jsp (jnew (R14 L xs) 22 31 31) 30 14 (some 45)).1 b = _
  rw [cl_sp _ _ _ _ _ (by omega), cl_new _ _ _ _ _ (by show ¬ b = 45; omega)]
  show (jsp (jnew (R13 L xs) 22 31 31) 30 13 (some 44)).1 b = _
  rw [cl_sp _ _ _ _ _ (by omega), cl_new _ _ _ _ _ (by show ¬ b = 44; omega)]
  show (jsp (jnew (R12 L xs) 22 31 31) 30 12 (some 43)).1 b = _
  rw [cl_sp _ _ _ _ _ (by omega), cl_new _ _ _ _ _ (by show ¬ b = 43; omega)]
  show (jsp (jnew (R11 L xs) 20 31 31) 30 11 (some 42)).1 b = _
  rw [cl_sp _ _ _ _ _ (by omega), cl_new _ _ _ _ _ (by show ¬ b = 42; omega)]
  show (jsp (jnew (R10 L xs) 20 31 31) 30 10 (some 41)).1 b = _
  rw [cl_sp _ _ _ _ _ (by omega), cl_new _ _ _ _ _ (by show ¬ b = 41; omega)]
  show (jsp (jnew (R9 L xs) 20 31 31) 30 9 (some 40)).1 b = _
  rw [cl_sp _ _ _ _ _ (by omega), cl_new _ _ _ _ _ (by show ¬ b = 40; omega)]
  show (jsp (jnew (R8 L xs) 20 31 31) 30 8 (some 39)).1 b = _
  rw [cl_sp _ _ _ _ _ (by omega), cl_new _ _ _ _ _ (by show ¬ b = 39; omega)]
  show (jsp (jnew (R7 L xs) 20 31 31) 30 7 (some 38)).1 b = _
  rw [cl_sp _ _ _ _ _ (by omega), cl_new _ _ _ _ _ (by show ¬ b = 38; omega)]
  show (jsp (jnew (R6 L xs) 22 1922 1922) 30 6 (some 37)).1 b = _
  rw [cl_sp _ _ _ _ _ (by omega), cl_new _ _ _ _ _ (by show ¬ b = 37; omega)]
  show (jsp (jnew (R5 L xs) 20 30752 30752) 30 5 (some 36)).1 b = _
  rw [cl_sp _ _ _ _ _ (by omega), cl_new _ _ _ _ _ (by show ¬ b = 36; omega)]
  show (jsp (jnew (R4 L xs) 20 30752 30752) 30 4 (some 35)).1 b = _
  rw [cl_sp _ _ _ _ _ (by omega), cl_new _ _ _ _ _ (by show ¬ b = 35; omega)]
  show (jsp (jnew (R3 L xs) 22 62 62) 30 3 (some 34)).1 b = _
  rw [cl_sp _ _ _ _ _ (by omega), cl_new _ _ _ _ _ (by show ¬ b = 34; omega)]
  show (jsp (jnew (R2 L xs) 22 62 62) 30 2 (some 33)).1 b = _
  rw [cl_sp _ _ _ _ _ (by omega), cl_new _ _ _ _ _ (by show ¬ b = 33; omega)]
  show (jsp (jnew (R1 L xs) 20 31 31) 30 1 (some 32)).1 b = _
  rw [cl_sp _ _ _ _ _ (by omega), cl_new _ _ _ _ _ (by show ¬ b = 32; omega)]
  show (jsp (jnew (R0 L xs) 22 31 31) 30 0 (some 31)).1 b = _
  rw [cl_sp _ _ _ _ _ (by omega), cl_new _ _ _ _ _ (by show ¬ b = 31; omega)]
  show (jnew (A11 L xs) 9 0 57).1 b = _
  exact cl_new _ _ _ _ _ (by show ¬ b = 30; omega)
theorem R_zero (L : Nat) (xs : Nat → Int32) (b k : Nat) (h1 : 31 ≤ b) (h2 : b ≤ 73) : ji (R43 L xs) b k = 0 := by
  rcases (show b = 31 ∨ b = 32 ∨ b = 33 ∨ b = 34 ∨ b = 35 ∨ b = 36 ∨ b = 37 ∨ b = 38 ∨ b = 39 ∨ b = 40 ∨ b = 41 ∨ b = 42 ∨ b = 43 ∨ b = 44 ∨ b = 45 ∨ b = 46 ∨ b = 47 ∨ b = 48 ∨ b = 49 ∨ b = 50 ∨ b = 51 ∨ b = 52 ∨ b = 53 ∨ b = 54 ∨ b = 55 ∨ b = 56 ∨ b = 57 ∨ b = 58 ∨ b = 59 ∨ b = 60 ∨ b = 61 ∨ b = 62 ∨ b = 63 ∨ b = 64 ∨ b = 65 ∨ b = 66 ∨ b = 67 ∨ b = 68 ∨ b = 69 ∨ b = 70 ∨ b = 71 ∨ b = 72 ∨ b = 73 by omega) with rfl | rfl | rfl | rfl | rfl | rfl | rfl | rfl | rfl | rfl | rfl | rfl | rfl | rfl | rfl | rfl | rfl | rfl | rfl | rfl | rfl | rfl | rfl | rfl | rfl | rfl | rfl | rfl | rfl | rfl | rfl | rfl | rfl | rfl | rfl | rfl | rfl | rfl | rfl | rfl | rfl | rfl | rfl <;> rfl
theorem mi_1 : ∀ (n a : Nat) (h : jH), a + n = 31 → MS h → ∃ G, jV 104 367 [some (.ref 30), some (.int (nI a))] [] h = jV 104 388 [some (.ref 30), some (.int (nI 0))] [] G ∧ Fr (fun b k => b = 41 ∧ a ≤ k) h G ∧ ∀ j, a ≤ j → j < 31 → ji G 41 j = -1
  | 0, a, h, e, q => by
    have e1 : a = 31 := by omega
    subst e1
    have lt : ¬ nI 31 < 31 := by decide
    refine ⟨h, ?_, Fr.refl h, fun j h1 h2 => absurd h2 (by omega)⟩
    simp only [s104_367, s104_368, s104_370, s104_386, s104_387, lt, ↓reduceIte, va_rf_s, va_rf_n, jb_some, jb_none, jtl_s, jtl_n, if_true, if_false, true_and, and_true, false_and, and_false, or_true, true_or, or_false, false_or, not_true_eq_false, not_false_eq_true, jk_si, jp_si, jj_si, jk_sj, jp_sj, ji_sj, jk_ci, jp_ci, jj_ci, jk_cj, jp_cj, ji_cj, jlng_n, jlng_i, jlng_r, jlng_0]
    rfl
  | n + 1, a, h, e, q => by
    have lt : nI a < 31 := nI_lt (b := 31) (by omega) (by omega)
    have b4 : jin (nI a) 31 = true := jin_nI (by omega) (by omega)
    have b5 : (nI a).toNatClampNeg = a := nI_clamp (by omega)
    have e1 : nI a + 1 = nI (a + 1) := nI_add a 1
    have f : Fr (fun b k => b = 41 ∧ k = a) h (jsi h 41 a (-1)) := (Fr.refl h).si ⟨rfl, rfl⟩
    obtain ⟨G, r1, r2, r3⟩ := mi_1 n (a + 1) (jsi h 41 a (-1)) (by omega) (f.ms q)
    refine ⟨G, ?_, (f.sub (fun b k z => ⟨z.1, by omega⟩)).trans (r2.sub (fun b k z => ⟨z.1, by omega⟩)), fun j h1 h2 => ?_⟩
    · rw [← r1]
      simp only [s104_367 (x := nI a), s104_368, s104_370, s104_373, s104_374, s104_377, s104_378, s104_379, s104_380, s104_383, k30 q, k41 q, p30_10 q, lt, b4, b5, e1, ↓reduceIte, va_rf_s, va_rf_n, jb_some, jb_none, jtl_s, jtl_n, if_true, if_false, true_and, and_true, false_and, and_false, or_true, true_or, or_false, false_or, not_true_eq_false, not_false_eq_true, jk_si, jp_si, jj_si, jk_sj, jp_sj, ji_sj, jk_ci, jp_ci, jj_ci, jk_cj, jp_cj, ji_cj, jlng_n, jlng_i, jlng_r, jlng_0]
    · by_cases c : j = a
      · subst c
        rw [r2.i (by omega), ji_si, if_pos ⟨rfl, rfl⟩]
      · exact r3 j (by omega) h2
theorem mi_2 : ∀ (n a : Nat) (h : jH), a + n = 24 → MS h → ∃ G, jV 104 388 [some (.ref 30), some (.int (nI a))] [] h = some (none, G) ∧ Fr (fun b k => b = 66 ∧ ∃ j, a ≤ j ∧ j < 24 ∧ k = 6 * j + 4) h G ∧ ∀ j, a ≤ j → j < 24 → ji G 66 (6 * j + 4) = -1
  | 0, a, h, e, q => by
    have e1 : a = 24 := by omega
    subst e1
    have lt : ¬ nI 24 < 24 := by decide
    refine ⟨h, ?_, Fr.refl h, fun j h1 h2 => absurd h2 (by omega)⟩
    simp only [s104_388, s104_389, s104_391, s104_394, s104_395, s104_398, s104_400, s104_401, s104_402, s104_403, s104_404, s104_405, s104_406, s104_409, s104_412, lt, ↓reduceIte, va_rf_s, va_rf_n, jb_some, jb_none, jtl_s, jtl_n, if_true, if_false, true_and, and_true, false_and, and_false, or_true, true_or, or_false, false_or, not_true_eq_false, not_false_eq_true, jk_si, jp_si, jj_si, jk_sj, jp_sj, ji_sj, jk_ci, jp_ci, jj_ci, jk_cj, jp_cj, ji_cj, jlng_n, jlng_i, jlng_r, jlng_0]
  | n + 1, a, h, e, q => by
    have lt : nI a < 24 := nI_lt (b := 24) (by omega) (by omega)
    have b4 : jin (nI (6 * a + 4)) 144 = true := jin_nI (by omega) (by omega)
    have b5 : (nI (6 * a + 4)).toNatClampNeg = 6 * a + 4 := nI_clamp (by omega)
    have e6 : (6 : Int32) * nI a + 4 = nI (6 * a + 4) := by
      show nI 6 * nI a + nI 4 = _
      rw [pk_mul, nI_add]
    have e1 : nI a + 1 = nI (a + 1) := nI_add a 1
    have f : Fr (fun b k => b = 66 ∧ k = 6 * a + 4) h (jsi h 66 (6 * a + 4) (-1)) := (Fr.refl h).si ⟨rfl, rfl⟩
    obtain ⟨G, r1, r2, r3⟩ := mi_2 n (a + 1) (jsi h 66 (6 * a + 4) (-1)) (by omega) (f.ms q)
    refine ⟨G, ?_, (f.sub (fun b k z => ⟨z.1, a, by omega, by omega, z.2⟩)).trans (r2.sub (fun b k z => ⟨z.1, by obtain ⟨j, h1, h2, h3⟩ := z.2; exact ⟨j, by omega, h2, h3⟩⟩)), fun j h1 h2 => ?_⟩
    · rw [← r1]
      simp only [s104_388 (x := nI a), s104_389, s104_391, s104_394, s104_395, s104_398, s104_400, s104_401, s104_402, s104_403, s104_404, s104_405, s104_406, s104_409, k30 q, k66 q, p30_39 q, lt, b4, b5, e6, e1, ↓reduceIte, va_rf_s, va_rf_n, jb_some, jb_none, jtl_s, jtl_n, if_true, if_false, true_and, and_true, false_and, and_false, or_true, true_or, or_false, false_or, not_true_eq_false, not_false_eq_true, jk_si, jp_si, jj_si, jk_sj, jp_sj, ji_sj, jk_ci, jp_ci, jj_ci, jk_cj, jp_cj, ji_cj, jlng_n, jlng_i, jlng_r, jlng_0]
    · by_cases c : j = a
      · subst c
        rw [r2.i (by rintro ⟨_, i, y1, y2, y3⟩; omega), ji_si, if_pos ⟨rfl, rfl⟩]
      · exact r3 j (by omega) h2
