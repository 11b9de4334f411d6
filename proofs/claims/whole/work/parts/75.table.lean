/-! the whole world behind the three constructors, and the table of numbers that tells it -/
def ord (k : Nat) : Nat := if k ≤ 7 then k else if k < 22 then k + 61 else if k < 64 then k - 12 else if k < 66 then k - 56 else if k < 83 then k - 14 else k
def mkG (l : Launch) (a : Nat) (D : va_G) (c0 : Nat → ClassId) (s0 : Nat → Nat) : GT := (l, fun k => a + ord k, a, D, c0, s0)
def v0 : VV := fun k j => if k = 84 then (upN (upN (upN (fun _ => 0) 0 8) 1 6) 2 4) j else if (kd k).1 = 4 then (if j = 1 then 8 else if j = 2 then 6 else if j = 4 then 4 else if j = 6 then 4294967295 else 0) else 0
def L0 : LL := fun _ => 0
def allB (G : GT) (a : Nat) : List va_E := (clB G a ++ mdB G (a + 83)) ++ [.inl (gc G 3, 1, .inr (.inl (fun _ => 0)))]
theorem clB_len (G : GT) (q : Nat) : (clB G q).length = 83 := rfl
theorem cm_len (G : GT) (q r : Nat) : (clB G q ++ mdB G r).length = 91 := rfl
theorem ky_0 {l : Launch} {a : Nat} {D : va_G} {c0 : Nat → ClassId} {s0 : Nat → Nat} : (allB (mkG l a D c0 s0) a)[ord 0]? = some (ce (mkG l a D c0 s0) v0 L0 0) := rfl
theorem ky_1 {l : Launch} {a : Nat} {D : va_G} {c0 : Nat → ClassId} {s0 : Nat → Nat} : (allB (mkG l a D c0 s0) a)[ord 1]? = some (ce (mkG l a D c0 s0) v0 L0 1) := rfl
theorem ky_2 {l : Launch} {a : Nat} {D : va_G} {c0 : Nat → ClassId} {s0 : Nat → Nat} : (allB (mkG l a D c0 s0) a)[ord 2]? = some (ce (mkG l a D c0 s0) v0 L0 2) := rfl
theorem ky_3 {l : Launch} {a : Nat} {D : va_G} {c0 : Nat → ClassId} {s0 : Nat → Nat} : (allB (mkG l a D c0 s0) a)[ord 3]? = some (ce (mkG l a D c0 s0) v0 L0 3) := rfl
theorem ky_4 {l : Launch} {a : Nat} {D : va_G} {c0 : Nat → ClassId} {s0 : Nat → Nat} : (allB (mkG l a D c0 s0) a)[ord 4]? = some (ce (mkG l a D c0 s0) v0 L0 4) := rfl
theorem ky_5 {l : Launch} {a : Nat} {D : va_G} {c0 : Nat → ClassId} {s0 : Nat → Nat} : (allB (mkG l a D c0 s0) a)[ord 5]? = some (ce (mkG l a D c0 s0) v0 L0 5) := rfl
theorem ky_6 {l : Launch} {a : Nat} {D : va_G} {c0 : Nat → ClassId} {s0 : Nat → Nat} : (allB (mkG l a D c0 s0) a)[ord 6]? = some (ce (mkG l a D c0 s0) v0 L0 6) := rfl
theorem ky_7 {l : Launch} {a : Nat} {D : va_G} {c0 : Nat → ClassId} {s0 : Nat → Nat} : (allB (mkG l a D c0 s0) a)[ord 7]? = some (ce (mkG l a D c0 s0) v0 L0 7) := rfl
set_option maxRecDepth 100000 in
theorem ky_8 {l : Launch} {a : Nat} {D : va_G} {c0 : Nat → ClassId} {s0 : Nat → Nat} : (allB (mkG l a D c0 s0) a)[ord 8]? = some (ce (mkG l a D c0 s0) v0 L0 8) := rfl
set_option maxRecDepth 100000 in
theorem ky_9 {l : Launch} {a : Nat} {D : va_G} {c0 : Nat → ClassId} {s0 : Nat → Nat} : (allB (mkG l a D c0 s0) a)[ord 9]? = some (ce (mkG l a D c0 s0) v0 L0 9) := rfl
theorem ky_10 {l : Launch} {a : Nat} {D : va_G} {c0 : Nat → ClassId} {s0 : Nat → Nat} : (allB (mkG l a D c0 s0) a)[ord 10]? = some (ce (mkG l a D c0 s0) v0 L0 10) := rfl
theorem ky_11 {l : Launch} {a : Nat} {D : va_G} {c0 : Nat → ClassId} {s0 : Nat → Nat} : (allB (mkG l a D c0 s0) a)[ord 11]? = some (ce (mkG l a D c0 s0) v0 L0 11) := rfl
theorem ky_12 {l : Launch} {a : Nat} {D : va_G} {c0 : Nat → ClassId} {s0 : Nat → Nat} : (allB (mkG l a D c0 s0) a)[ord 12]? = some (ce (mkG l a D c0 s0) v0 L0 12) := rfl
theorem ky_13 {l : Launch} {a : Nat} {D : va_G} {c0 : Nat → ClassId} {s0 : Nat → Nat} : (allB (mkG l a D c0 s0) a)[ord 13]? = some (ce (mkG l a D c0 s0) v0 L0 13) := rfl
theorem ky_14 {l : Launch} {a : Nat} {D : va_G} {c0 : Nat → ClassId} {s0 : Nat → Nat} : (allB (mkG l a D c0 s0) a)[ord 14]? = some (ce (mkG l a D c0 s0) v0 L0 14) := rfl
set_option maxRecDepth 100000 in
theorem ky_15 {l : Launch} {a : Nat} {D : va_G} {c0 : Nat → ClassId} {s0 : Nat → Nat} : (allB (mkG l a D c0 s0) a)[ord 15]? = some (ce (mkG l a D c0 s0) v0 L0 15) := rfl
set_option maxRecDepth 100000 in
theorem ky_16 {l : Launch} {a : Nat} {D : va_G} {c0 : Nat → ClassId} {s0 : Nat → Nat} : (allB (mkG l a D c0 s0) a)[ord 16]? = some (ce (mkG l a D c0 s0) v0 L0 16) := rfl
theorem ky_17 {l : Launch} {a : Nat} {D : va_G} {c0 : Nat → ClassId} {s0 : Nat → Nat} : (allB (mkG l a D c0 s0) a)[ord 17]? = some (ce (mkG l a D c0 s0) v0 L0 17) := rfl
theorem ky_18 {l : Launch} {a : Nat} {D : va_G} {c0 : Nat → ClassId} {s0 : Nat → Nat} : (allB (mkG l a D c0 s0) a)[ord 18]? = some (ce (mkG l a D c0 s0) v0 L0 18) := rfl
theorem ky_19 {l : Launch} {a : Nat} {D : va_G} {c0 : Nat → ClassId} {s0 : Nat → Nat} : (allB (mkG l a D c0 s0) a)[ord 19]? = some (ce (mkG l a D c0 s0) v0 L0 19) := rfl
theorem ky_20 {l : Launch} {a : Nat} {D : va_G} {c0 : Nat → ClassId} {s0 : Nat → Nat} : (allB (mkG l a D c0 s0) a)[ord 20]? = some (ce (mkG l a D c0 s0) v0 L0 20) := rfl
theorem ky_21 {l : Launch} {a : Nat} {D : va_G} {c0 : Nat → ClassId} {s0 : Nat → Nat} : (allB (mkG l a D c0 s0) a)[ord 21]? = some (ce (mkG l a D c0 s0) v0 L0 21) := rfl
theorem ky_22 {l : Launch} {a : Nat} {D : va_G} {c0 : Nat → ClassId} {s0 : Nat → Nat} : (allB (mkG l a D c0 s0) a)[ord 22]? = some (ce (mkG l a D c0 s0) v0 L0 22) := rfl
theorem ky_23 {l : Launch} {a : Nat} {D : va_G} {c0 : Nat → ClassId} {s0 : Nat → Nat} : (allB (mkG l a D c0 s0) a)[ord 23]? = some (ce (mkG l a D c0 s0) v0 L0 23) := rfl
theorem ky_24 {l : Launch} {a : Nat} {D : va_G} {c0 : Nat → ClassId} {s0 : Nat → Nat} : (allB (mkG l a D c0 s0) a)[ord 24]? = some (ce (mkG l a D c0 s0) v0 L0 24) := rfl
theorem ky_25 {l : Launch} {a : Nat} {D : va_G} {c0 : Nat → ClassId} {s0 : Nat → Nat} : (allB (mkG l a D c0 s0) a)[ord 25]? = some (ce (mkG l a D c0 s0) v0 L0 25) := rfl
theorem ky_26 {l : Launch} {a : Nat} {D : va_G} {c0 : Nat → ClassId} {s0 : Nat → Nat} : (allB (mkG l a D c0 s0) a)[ord 26]? = some (ce (mkG l a D c0 s0) v0 L0 26) := rfl
theorem ky_27 {l : Launch} {a : Nat} {D : va_G} {c0 : Nat → ClassId} {s0 : Nat → Nat} : (allB (mkG l a D c0 s0) a)[ord 27]? = some (ce (mkG l a D c0 s0) v0 L0 27) := rfl
theorem ky_28 {l : Launch} {a : Nat} {D : va_G} {c0 : Nat → ClassId} {s0 : Nat → Nat} : (allB (mkG l a D c0 s0) a)[ord 28]? = some (ce (mkG l a D c0 s0) v0 L0 28) := rfl
theorem ky_29 {l : Launch} {a : Nat} {D : va_G} {c0 : Nat → ClassId} {s0 : Nat → Nat} : (allB (mkG l a D c0 s0) a)[ord 29]? = some (ce (mkG l a D c0 s0) v0 L0 29) := rfl
theorem ky_30 {l : Launch} {a : Nat} {D : va_G} {c0 : Nat → ClassId} {s0 : Nat → Nat} : (allB (mkG l a D c0 s0) a)[ord 30]? = some (ce (mkG l a D c0 s0) v0 L0 30) := rfl
theorem ky_31 {l : Launch} {a : Nat} {D : va_G} {c0 : Nat → ClassId} {s0 : Nat → Nat} : (allB (mkG l a D c0 s0) a)[ord 31]? = some (ce (mkG l a D c0 s0) v0 L0 31) := rfl
theorem ky_32 {l : Launch} {a : Nat} {D : va_G} {c0 : Nat → ClassId} {s0 : Nat → Nat} : (allB (mkG l a D c0 s0) a)[ord 32]? = some (ce (mkG l a D c0 s0) v0 L0 32) := rfl
theorem ky_33 {l : Launch} {a : Nat} {D : va_G} {c0 : Nat → ClassId} {s0 : Nat → Nat} : (allB (mkG l a D c0 s0) a)[ord 33]? = some (ce (mkG l a D c0 s0) v0 L0 33) := rfl
theorem ky_34 {l : Launch} {a : Nat} {D : va_G} {c0 : Nat → ClassId} {s0 : Nat → Nat} : (allB (mkG l a D c0 s0) a)[ord 34]? = some (ce (mkG l a D c0 s0) v0 L0 34) := rfl
theorem ky_35 {l : Launch} {a : Nat} {D : va_G} {c0 : Nat → ClassId} {s0 : Nat → Nat} : (allB (mkG l a D c0 s0) a)[ord 35]? = some (ce (mkG l a D c0 s0) v0 L0 35) := rfl
theorem ky_36 {l : Launch} {a : Nat} {D : va_G} {c0 : Nat → ClassId} {s0 : Nat → Nat} : (allB (mkG l a D c0 s0) a)[ord 36]? = some (ce (mkG l a D c0 s0) v0 L0 36) := rfl
theorem ky_37 {l : Launch} {a : Nat} {D : va_G} {c0 : Nat → ClassId} {s0 : Nat → Nat} : (allB (mkG l a D c0 s0) a)[ord 37]? = some (ce (mkG l a D c0 s0) v0 L0 37) := rfl
theorem ky_38 {l : Launch} {a : Nat} {D : va_G} {c0 : Nat → ClassId} {s0 : Nat → Nat} : (allB (mkG l a D c0 s0) a)[ord 38]? = some (ce (mkG l a D c0 s0) v0 L0 38) := rfl
theorem ky_39 {l : Launch} {a : Nat} {D : va_G} {c0 : Nat → ClassId} {s0 : Nat → Nat} : (allB (mkG l a D c0 s0) a)[ord 39]? = some (ce (mkG l a D c0 s0) v0 L0 39) := rfl
theorem ky_40 {l : Launch} {a : Nat} {D : va_G} {c0 : Nat → ClassId} {s0 : Nat → Nat} : (allB (mkG l a D c0 s0) a)[ord 40]? = some (ce (mkG l a D c0 s0) v0 L0 40) := rfl
theorem ky_41 {l : Launch} {a : Nat} {D : va_G} {c0 : Nat → ClassId} {s0 : Nat → Nat} : (allB (mkG l a D c0 s0) a)[ord 41]? = some (ce (mkG l a D c0 s0) v0 L0 41) := rfl
theorem ky_42 {l : Launch} {a : Nat} {D : va_G} {c0 : Nat → ClassId} {s0 : Nat → Nat} : (allB (mkG l a D c0 s0) a)[ord 42]? = some (ce (mkG l a D c0 s0) v0 L0 42) := rfl
theorem ky_43 {l : Launch} {a : Nat} {D : va_G} {c0 : Nat → ClassId} {s0 : Nat → Nat} : (allB (mkG l a D c0 s0) a)[ord 43]? = some (ce (mkG l a D c0 s0) v0 L0 43) := rfl
theorem ky_44 {l : Launch} {a : Nat} {D : va_G} {c0 : Nat → ClassId} {s0 : Nat → Nat} : (allB (mkG l a D c0 s0) a)[ord 44]? = some (ce (mkG l a D c0 s0) v0 L0 44) := rfl
theorem ky_45 {l : Launch} {a : Nat} {D : va_G} {c0 : Nat → ClassId} {s0 : Nat → Nat} : (allB (mkG l a D c0 s0) a)[ord 45]? = some (ce (mkG l a D c0 s0) v0 L0 45) := rfl
theorem ky_46 {l : Launch} {a : Nat} {D : va_G} {c0 : Nat → ClassId} {s0 : Nat → Nat} : (allB (mkG l a D c0 s0) a)[ord 46]? = some (ce (mkG l a D c0 s0) v0 L0 46) := rfl
theorem ky_47 {l : Launch} {a : Nat} {D : va_G} {c0 : Nat → ClassId} {s0 : Nat → Nat} : (allB (mkG l a D c0 s0) a)[ord 47]? = some (ce (mkG l a D c0 s0) v0 L0 47) := rfl
theorem ky_48 {l : Launch} {a : Nat} {D : va_G} {c0 : Nat → ClassId} {s0 : Nat → Nat} : (allB (mkG l a D c0 s0) a)[ord 48]? = some (ce (mkG l a D c0 s0) v0 L0 48) := rfl
theorem ky_49 {l : Launch} {a : Nat} {D : va_G} {c0 : Nat → ClassId} {s0 : Nat → Nat} : (allB (mkG l a D c0 s0) a)[ord 49]? = some (ce (mkG l a D c0 s0) v0 L0 49) := rfl
theorem ky_50 {l : Launch} {a : Nat} {D : va_G} {c0 : Nat → ClassId} {s0 : Nat → Nat} : (allB (mkG l a D c0 s0) a)[ord 50]? = some (ce (mkG l a D c0 s0) v0 L0 50) := rfl
theorem ky_51 {l : Launch} {a : Nat} {D : va_G} {c0 : Nat → ClassId} {s0 : Nat → Nat} : (allB (mkG l a D c0 s0) a)[ord 51]? = some (ce (mkG l a D c0 s0) v0 L0 51) := rfl
theorem ky_52 {l : Launch} {a : Nat} {D : va_G} {c0 : Nat → ClassId} {s0 : Nat → Nat} : (allB (mkG l a D c0 s0) a)[ord 52]? = some (ce (mkG l a D c0 s0) v0 L0 52) := rfl
theorem ky_53 {l : Launch} {a : Nat} {D : va_G} {c0 : Nat → ClassId} {s0 : Nat → Nat} : (allB (mkG l a D c0 s0) a)[ord 53]? = some (ce (mkG l a D c0 s0) v0 L0 53) := rfl
theorem ky_54 {l : Launch} {a : Nat} {D : va_G} {c0 : Nat → ClassId} {s0 : Nat → Nat} : (allB (mkG l a D c0 s0) a)[ord 54]? = some (ce (mkG l a D c0 s0) v0 L0 54) := rfl
theorem ky_55 {l : Launch} {a : Nat} {D : va_G} {c0 : Nat → ClassId} {s0 : Nat → Nat} : (allB (mkG l a D c0 s0) a)[ord 55]? = some (ce (mkG l a D c0 s0) v0 L0 55) := rfl
theorem ky_56 {l : Launch} {a : Nat} {D : va_G} {c0 : Nat → ClassId} {s0 : Nat → Nat} : (allB (mkG l a D c0 s0) a)[ord 56]? = some (ce (mkG l a D c0 s0) v0 L0 56) := rfl
theorem ky_57 {l : Launch} {a : Nat} {D : va_G} {c0 : Nat → ClassId} {s0 : Nat → Nat} : (allB (mkG l a D c0 s0) a)[ord 57]? = some (ce (mkG l a D c0 s0) v0 L0 57) := rfl
theorem ky_58 {l : Launch} {a : Nat} {D : va_G} {c0 : Nat → ClassId} {s0 : Nat → Nat} : (allB (mkG l a D c0 s0) a)[ord 58]? = some (ce (mkG l a D c0 s0) v0 L0 58) := rfl
theorem ky_59 {l : Launch} {a : Nat} {D : va_G} {c0 : Nat → ClassId} {s0 : Nat → Nat} : (allB (mkG l a D c0 s0) a)[ord 59]? = some (ce (mkG l a D c0 s0) v0 L0 59) := rfl
theorem ky_60 {l : Launch} {a : Nat} {D : va_G} {c0 : Nat → ClassId} {s0 : Nat → Nat} : (allB (mkG l a D c0 s0) a)[ord 60]? = some (ce (mkG l a D c0 s0) v0 L0 60) := rfl
theorem ky_61 {l : Launch} {a : Nat} {D : va_G} {c0 : Nat → ClassId} {s0 : Nat → Nat} : (allB (mkG l a D c0 s0) a)[ord 61]? = some (ce (mkG l a D c0 s0) v0 L0 61) := rfl
theorem ky_62 {l : Launch} {a : Nat} {D : va_G} {c0 : Nat → ClassId} {s0 : Nat → Nat} : (allB (mkG l a D c0 s0) a)[ord 62]? = some (ce (mkG l a D c0 s0) v0 L0 62) := rfl
theorem ky_63 {l : Launch} {a : Nat} {D : va_G} {c0 : Nat → ClassId} {s0 : Nat → Nat} : (allB (mkG l a D c0 s0) a)[ord 63]? = some (ce (mkG l a D c0 s0) v0 L0 63) := rfl
theorem ky_64 {l : Launch} {a : Nat} {D : va_G} {c0 : Nat → ClassId} {s0 : Nat → Nat} : (allB (mkG l a D c0 s0) a)[ord 64]? = some (ce (mkG l a D c0 s0) v0 L0 64) := rfl
theorem ky_67 {l : Launch} {a : Nat} {D : va_G} {c0 : Nat → ClassId} {s0 : Nat → Nat} : (allB (mkG l a D c0 s0) a)[ord 67]? = some (ce (mkG l a D c0 s0) v0 L0 67) := rfl
theorem ky_68 {l : Launch} {a : Nat} {D : va_G} {c0 : Nat → ClassId} {s0 : Nat → Nat} : (allB (mkG l a D c0 s0) a)[ord 68]? = some (ce (mkG l a D c0 s0) v0 L0 68) := rfl
theorem ky_69 {l : Launch} {a : Nat} {D : va_G} {c0 : Nat → ClassId} {s0 : Nat → Nat} : (allB (mkG l a D c0 s0) a)[ord 69]? = some (ce (mkG l a D c0 s0) v0 L0 69) := rfl
theorem ky_70 {l : Launch} {a : Nat} {D : va_G} {c0 : Nat → ClassId} {s0 : Nat → Nat} : (allB (mkG l a D c0 s0) a)[ord 70]? = some (ce (mkG l a D c0 s0) v0 L0 70) := rfl
theorem ky_71 {l : Launch} {a : Nat} {D : va_G} {c0 : Nat → ClassId} {s0 : Nat → Nat} : (allB (mkG l a D c0 s0) a)[ord 71]? = some (ce (mkG l a D c0 s0) v0 L0 71) := rfl
theorem ky_72 {l : Launch} {a : Nat} {D : va_G} {c0 : Nat → ClassId} {s0 : Nat → Nat} : (allB (mkG l a D c0 s0) a)[ord 72]? = some (ce (mkG l a D c0 s0) v0 L0 72) := rfl
theorem ky_73 {l : Launch} {a : Nat} {D : va_G} {c0 : Nat → ClassId} {s0 : Nat → Nat} : (allB (mkG l a D c0 s0) a)[ord 73]? = some (ce (mkG l a D c0 s0) v0 L0 73) := rfl
theorem ky_74 {l : Launch} {a : Nat} {D : va_G} {c0 : Nat → ClassId} {s0 : Nat → Nat} : (allB (mkG l a D c0 s0) a)[ord 74]? = some (ce (mkG l a D c0 s0) v0 L0 74) := rfl
theorem ky_75 {l : Launch} {a : Nat} {D : va_G} {c0 : Nat → ClassId} {s0 : Nat → Nat} : (allB (mkG l a D c0 s0) a)[ord 75]? = some (ce (mkG l a D c0 s0) v0 L0 75) := rfl
theorem ky_76 {l : Launch} {a : Nat} {D : va_G} {c0 : Nat → ClassId} {s0 : Nat → Nat} : (allB (mkG l a D c0 s0) a)[ord 76]? = some (ce (mkG l a D c0 s0) v0 L0 76) := rfl
theorem ky_77 {l : Launch} {a : Nat} {D : va_G} {c0 : Nat → ClassId} {s0 : Nat → Nat} : (allB (mkG l a D c0 s0) a)[ord 77]? = some (ce (mkG l a D c0 s0) v0 L0 77) := rfl
theorem ky_78 {l : Launch} {a : Nat} {D : va_G} {c0 : Nat → ClassId} {s0 : Nat → Nat} : (allB (mkG l a D c0 s0) a)[ord 78]? = some (ce (mkG l a D c0 s0) v0 L0 78) := rfl
theorem ky_79 {l : Launch} {a : Nat} {D : va_G} {c0 : Nat → ClassId} {s0 : Nat → Nat} : (allB (mkG l a D c0 s0) a)[ord 79]? = some (ce (mkG l a D c0 s0) v0 L0 79) := rfl
theorem ky_80 {l : Launch} {a : Nat} {D : va_G} {c0 : Nat → ClassId} {s0 : Nat → Nat} : (allB (mkG l a D c0 s0) a)[ord 80]? = some (ce (mkG l a D c0 s0) v0 L0 80) := rfl
theorem ky_81 {l : Launch} {a : Nat} {D : va_G} {c0 : Nat → ClassId} {s0 : Nat → Nat} : (allB (mkG l a D c0 s0) a)[ord 81]? = some (ce (mkG l a D c0 s0) v0 L0 81) := rfl
theorem ky_82 {l : Launch} {a : Nat} {D : va_G} {c0 : Nat → ClassId} {s0 : Nat → Nat} : (allB (mkG l a D c0 s0) a)[ord 82]? = some (ce (mkG l a D c0 s0) v0 L0 82) := rfl
set_option maxRecDepth 100000 in
theorem ky_83 {l : Launch} {a : Nat} {D : va_G} {c0 : Nat → ClassId} {s0 : Nat → Nat} : (allB (mkG l a D c0 s0) a)[ord 83]? = some (ce (mkG l a D c0 s0) v0 L0 83) := rfl
theorem ky_84 {l : Launch} {a : Nat} {D : va_G} {c0 : Nat → ClassId} {s0 : Nat → Nat} : (allB (mkG l a D c0 s0) a)[ord 84]? = some (ce (mkG l a D c0 s0) v0 L0 84) := rfl
theorem ky_85 {l : Launch} {a : Nat} {D : va_G} {c0 : Nat → ClassId} {s0 : Nat → Nat} : (allB (mkG l a D c0 s0) a)[ord 85]? = some (ce (mkG l a D c0 s0) v0 L0 85) := rfl
theorem ky_86 {l : Launch} {a : Nat} {D : va_G} {c0 : Nat → ClassId} {s0 : Nat → Nat} : (allB (mkG l a D c0 s0) a)[ord 86]? = some (ce (mkG l a D c0 s0) v0 L0 86) := rfl
theorem ky_87 {l : Launch} {a : Nat} {D : va_G} {c0 : Nat → ClassId} {s0 : Nat → Nat} : (allB (mkG l a D c0 s0) a)[ord 87]? = some (ce (mkG l a D c0 s0) v0 L0 87) := rfl
theorem ky_88 {l : Launch} {a : Nat} {D : va_G} {c0 : Nat → ClassId} {s0 : Nat → Nat} : (allB (mkG l a D c0 s0) a)[ord 88]? = some (ce (mkG l a D c0 s0) v0 L0 88) := rfl
theorem ky_89 {l : Launch} {a : Nat} {D : va_G} {c0 : Nat → ClassId} {s0 : Nat → Nat} : (allB (mkG l a D c0 s0) a)[ord 89]? = some (ce (mkG l a D c0 s0) v0 L0 89) := rfl
theorem ky_90 {l : Launch} {a : Nat} {D : va_G} {c0 : Nat → ClassId} {s0 : Nat → Nat} : (allB (mkG l a D c0 s0) a)[ord 90]? = some (ce (mkG l a D c0 s0) v0 L0 90) := rfl
theorem ky_91 {l : Launch} {a : Nat} {D : va_G} {c0 : Nat → ClassId} {s0 : Nat → Nat} : (allB (mkG l a D c0 s0) a)[ord 91]? = some (ce (mkG l a D c0 s0) v0 L0 91) := rfl
theorem kz_65 {l : Launch} {a : Nat} {D : va_G} {c0 : Nat → ClassId} {s0 : Nat → Nat} : (allB (mkG l a D c0 s0) a)[ord 65]? = some (qr (mkG l a D c0 s0) (a + 10) 6 6) := rfl
theorem kz_66 {l : Launch} {a : Nat} {D : va_G} {c0 : Nat → ClassId} {s0 : Nat → Nat} : (allB (mkG l a D c0 s0) a)[ord 66]? = some (qr (mkG l a D c0 s0) (a + 69) 2 2) := rfl
theorem arrq_cong {cA : ClassId} {n : Nat} {f h : Nat → Option Nat} (e : ∀ j, j < n → f j = h j) : vp_cell cA (n, .inr (.inr (.inr (.inr f)))) = vp_cell cA (n, .inr (.inr (.inr (.inr h)))) := by
  rw [vp_cell_q, vp_cell_q]
  unfold arrV
  congr 1
  apply Array.ext
  · simp
  · intro i h1 h2
    have : i < n := by simpa using h1
    simp [e i this]
theorem ord_inj : ∀ i, i < 92 → ∀ j, j < 92 → ord i = ord j → i = j := by decide +kernel
set_option maxRecDepth 4000 in
theorem all_gw {l : Launch} {a : Nat} {D : va_G} {c0 : Nat → ClassId} {s0 : Nat → Nat} {H : Heap} (h : va_P D vwCl (wl a (allB (mkG l a D c0 s0) a)) H) : va_P D vwCl (gw (mkG l a D c0 s0) v0 L0) H := by
  intro k q hk
  obtain ⟨h92, rfl⟩ := gw_lt hk
  have fin : (allB (mkG l a D c0 s0) a)[ord k]? = some (ce (mkG l a D c0 s0) v0 L0 k) → va_at D vwCl (gB (mkG l a D c0 s0) k, ce (mkG l a D c0 s0) v0 L0 k) H := fun z => h (ord k) _ (wl_of z)
  have q65 : k = 65 → va_at D vwCl (gB (mkG l a D c0 s0) k, ce (mkG l a D c0 s0) v0 L0 k) H := fun z => by
    subst z
    have h1 := h (ord 65) _ (wl_of kz_65)
    show H[a + ord 65]? = some (vp_cell (c0 4) (6, _))
    refine h1.trans (congrArg some (arrq_cong fun j hj => ?_))
    unfold fq
    rw [if_pos hj]
    have : j = 0 ∨ j = 1 ∨ j = 2 ∨ j = 3 ∨ j = 4 ∨ j = 5 := by omega
    rcases this with rfl | rfl | rfl | rfl | rfl | rfl <;> rfl
  have q66 : k = 66 → va_at D vwCl (gB (mkG l a D c0 s0) k, ce (mkG l a D c0 s0) v0 L0 k) H := fun z => by
    subst z
    have h1 := h (ord 66) _ (wl_of kz_66)
    show H[a + ord 66]? = some (vp_cell (c0 4) (2, _))
    refine h1.trans (congrArg some (arrq_cong fun j hj => ?_))
    unfold fq
    rw [if_pos hj]
    have : j = 0 ∨ j = 1 := by omega
    rcases this with rfl | rfl <;> rfl
  have b0 : 0 ≤ k → k < 23 → va_at D vwCl (gB (mkG l a D c0 s0) k, ce (mkG l a D c0 s0) v0 L0 k) H := fun z1 z2 => by
    have : k = 0 ∨ k = 1 ∨ k = 2 ∨ k = 3 ∨ k = 4 ∨ k = 5 ∨ k = 6 ∨ k = 7 ∨ k = 8 ∨ k = 9 ∨ k = 10 ∨ k = 11 ∨ k = 12 ∨ k = 13 ∨ k = 14 ∨ k = 15 ∨ k = 16 ∨ k = 17 ∨ k = 18 ∨ k = 19 ∨ k = 20 ∨ k = 21 ∨ k = 22 := by omega
    rcases this with rfl | rfl | rfl | rfl | rfl | rfl | rfl | rfl | rfl | rfl | rfl | rfl | rfl | rfl | rfl | rfl | rfl | rfl | rfl | rfl | rfl | rfl | rfl
    · exact fin ky_0
    · exact fin ky_1
    · exact fin ky_2
    · exact fin ky_3
    · exact fin ky_4
    · exact fin ky_5
    · exact fin ky_6
    · exact fin ky_7
    · exact fin ky_8
    · exact fin ky_9
    · exact fin ky_10
    · exact fin ky_11
    · exact fin ky_12
    · exact fin ky_13
    · exact fin ky_14
    · exact fin ky_15
    · exact fin ky_16
    · exact fin ky_17
    · exact fin ky_18
    · exact fin ky_19
    · exact fin ky_20
    · exact fin ky_21
    · exact fin ky_22
  have b1 : 23 ≤ k → k < 46 → va_at D vwCl (gB (mkG l a D c0 s0) k, ce (mkG l a D c0 s0) v0 L0 k) H := fun z1 z2 => by
    have : k = 23 ∨ k = 24 ∨ k = 25 ∨ k = 26 ∨ k = 27 ∨ k = 28 ∨ k = 29 ∨ k = 30 ∨ k = 31 ∨ k = 32 ∨ k = 33 ∨ k = 34 ∨ k = 35 ∨ k = 36 ∨ k = 37 ∨ k = 38 ∨ k = 39 ∨ k = 40 ∨ k = 41 ∨ k = 42 ∨ k = 43 ∨ k = 44 ∨ k = 45 := by omega
    rcases this with rfl | rfl | rfl | rfl | rfl | rfl | rfl | rfl | rfl | rfl | rfl | rfl | rfl | rfl | rfl | rfl | rfl | rfl | rfl | rfl | rfl | rfl | rfl
    · exact fin ky_23
    · exact fin ky_24
    · exact fin ky_25
    · exact fin ky_26
    · exact fin ky_27
    · exact fin ky_28
    · exact fin ky_29
    · exact fin ky_30
    · exact fin ky_31
    · exact fin ky_32
    · exact fin ky_33
    · exact fin ky_34
    · exact fin ky_35
    · exact fin ky_36
    · exact fin ky_37
    · exact fin ky_38
    · exact fin ky_39
    · exact fin ky_40
    · exact fin ky_41
    · exact fin ky_42
    · exact fin ky_43
    · exact fin ky_44
    · exact fin ky_45
  have b2 : 46 ≤ k → k < 69 → va_at D vwCl (gB (mkG l a D c0 s0) k, ce (mkG l a D c0 s0) v0 L0 k) H := fun z1 z2 => by
    have : k = 46 ∨ k = 47 ∨ k = 48 ∨ k = 49 ∨ k = 50 ∨ k = 51 ∨ k = 52 ∨ k = 53 ∨ k = 54 ∨ k = 55 ∨ k = 56 ∨ k = 57 ∨ k = 58 ∨ k = 59 ∨ k = 60 ∨ k = 61 ∨ k = 62 ∨ k = 63 ∨ k = 64 ∨ k = 65 ∨ k = 66 ∨ k = 67 ∨ k = 68 := by omega
    rcases this with rfl | rfl | rfl | rfl | rfl | rfl | rfl | rfl | rfl | rfl | rfl | rfl | rfl | rfl | rfl | rfl | rfl | rfl | rfl | z | z | rfl | rfl
    · exact fin ky_46
    · exact fin ky_47
    · exact fin ky_48
    · exact fin ky_49
    · exact fin ky_50
    · exact fin ky_51
    · exact fin ky_52
    · exact fin ky_53
    · exact fin ky_54
    · exact fin ky_55
    · exact fin ky_56
    · exact fin ky_57
    · exact fin ky_58
    · exact fin ky_59
    · exact fin ky_60
    · exact fin ky_61
    · exact fin ky_62
    · exact fin ky_63
    · exact fin ky_64
    · exact q65 z
    · exact q66 z
    · exact fin ky_67
    · exact fin ky_68
  have b3 : 69 ≤ k → k < 92 → va_at D vwCl (gB (mkG l a D c0 s0) k, ce (mkG l a D c0 s0) v0 L0 k) H := fun z1 z2 => by
    have : k = 69 ∨ k = 70 ∨ k = 71 ∨ k = 72 ∨ k = 73 ∨ k = 74 ∨ k = 75 ∨ k = 76 ∨ k = 77 ∨ k = 78 ∨ k = 79 ∨ k = 80 ∨ k = 81 ∨ k = 82 ∨ k = 83 ∨ k = 84 ∨ k = 85 ∨ k = 86 ∨ k = 87 ∨ k = 88 ∨ k = 89 ∨ k = 90 ∨ k = 91 := by omega
    rcases this with rfl | rfl | rfl | rfl | rfl | rfl | rfl | rfl | rfl | rfl | rfl | rfl | rfl | rfl | rfl | rfl | rfl | rfl | rfl | rfl | rfl | rfl | rfl
    · exact fin ky_69
    · exact fin ky_70
    · exact fin ky_71
    · exact fin ky_72
    · exact fin ky_73
    · exact fin ky_74
    · exact fin ky_75
    · exact fin ky_76
    · exact fin ky_77
    · exact fin ky_78
    · exact fin ky_79
    · exact fin ky_80
    · exact fin ky_81
    · exact fin ky_82
    · exact fin ky_83
    · exact fin ky_84
    · exact fin ky_85
    · exact fin ky_86
    · exact fin ky_87
    · exact fin ky_88
    · exact fin ky_89
    · exact fin ky_90
    · exact fin ky_91
  rcases Nat.lt_or_ge k 23 with z | z
  · exact b0 (Nat.zero_le k) z
  rcases Nat.lt_or_ge k 46 with y | y
  · exact b1 z y
  rcases Nat.lt_or_ge k 69 with x | x
  · exact b2 y x
  · exact b3 x h92
def S0 : Nat → Nat := fun j => if j = 0 then 8 else if j = 1 then 6 else if j = 2 then 4 else 0
def A0 : AS := (S0, 0, fun _ _ => 0, fun _ _ => 0, fun _ => false, fun _ => 0, 0)
theorem S0_hi {j : Nat} (h : 3 ≤ j) : S0 j = 0 := by unfold S0; rw [if_neg (by omega), if_neg (by omega), if_neg (by omega)]
theorem IC0 : IC v0 A0 := by
  refine ⟨⟨rfl, rfl, rfl, rfl, rfl, rfl, rfl, rfl, rfl, rfl, rfl, rfl, fun p hp => ?_⟩, ⟨⟨0, by decide, by decide, rfl, rfl, fun i hi => absurd hi (Nat.not_lt_zero i)⟩, fun i hi => ⟨rfl, fun z => Bool.noConfusion z⟩, rfl, fun i hi => absurd hi (Nat.not_lt_zero i)⟩, Ch0.ch ⟨rfl, rfl⟩ S0⟩
  show 0 = S0 (12 + 6 * p) ∧ 0 = S0 (13 + 6 * p) ∧ ∀ i, i < S0 (13 + 6 * p) → _
  rw [S0_hi (by omega), S0_hi (j := 13 + 6 * p) (by omega)]
  exact ⟨rfl, rfl, fun i hi => absurd hi (Nat.not_lt_zero i)⟩
theorem IM0 : IM v0 A0 := by
  refine ⟨fun j hj => ?_, rfl, fun i hi => absurd hi (Nat.not_lt_zero i), fun i hi => ⟨rfl, fun z => Bool.noConfusion z⟩, rfl, fun i hi => absurd hi (Nat.not_lt_zero i)⟩
  show upN (upN (upN (fun _ => 0) 0 8) 1 6) 2 4 j = S0 j
  unfold upN S0
  by_cases h0 : j = 0
  · subst h0; rfl
  by_cases h1 : j = 1
  · subst h1; rfl
  by_cases h2 : j = 2
  · subst h2; rfl
  rw [if_neg h2, if_neg h1, if_neg h0, if_neg h0, if_neg h1, if_neg h2]
theorem WA0 : WA A0 := by
  refine ⟨⟨by decide, by decide, by decide, by decide, by decide, by decide, fun p hp => ?_⟩, Nat.zero_le 6, fun i hi => absurd hi (Nat.not_lt_zero i), fun i hi z => Bool.noConfusion z, Nat.zero_le 60, fun i hi => absurd hi (Nat.not_lt_zero i)⟩
  show S0 (12 + 6 * p) ≤ 2 ∧ S0 (13 + 6 * p) ≤ 4 ∧ ∀ i, i < S0 (13 + 6 * p) → _
  rw [S0_hi (by omega), S0_hi (j := 13 + 6 * p) (by omega)]
  exact ⟨Nat.zero_le 2, Nat.zero_le 4, fun i hi => absurd hi (Nat.not_lt_zero i)⟩
