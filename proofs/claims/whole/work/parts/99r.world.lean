/-! the made cells are the small machine's world -/
def wP : List Nat := [0, 1, 2, 3, 4, 6, 7, 8, 9, 10, 11, 12, 13, 15, 16, 17, 18, 19, 20, 21, 22, 5, 14, 23, 25, 26, 27, 28, 29, 30, 24, 31, 32, 33, 34, 35, 36, 37, 38, 39, 40, 41, 42, 43, 44, 45, 46, 47, 48, 49, 50, 51, 52, 53, 54, 55, 56, 58, 59, 60, 61, 62, 63, 57, 64, 65, 66, 67, 68, 69, 70, 71, 72, 73, 74, 75, 76, 77, 78, 79, 80, 81, 82, 83, 84, 85, 86, 87, 88, 89, 90, 91, 92, 93, 94, 95, 96, 97, 98]
def wA (f g : Nat → Nat) (a b : Nat) (k : Nat) : Nat := if k < 77 then f (wP.getD k 0) else if k < 99 then g (k - 77) else if k = 99 then a else b
def wC (cz : Nat → ClassId) (k : Nat) : ClassId := match (am_kd k).1 with
  | 21 => cz 1
  | 22 => cz 2
  | 23 => cz 3
  | 24 => cz 4
  | 25 => cz 5
  | _ => cz 0
def wS : Nat → Int32 := upd (upd (upd (upd (fun _ => 0) 0 2) 1 100) 2 40000) 3 40
def wH : am_H := (fun a => if a = 31 ∨ a = 82 then wS else if a = 92 then upd (upd (fun _ => 0) 0 (-9)) 1 (-9) else if a = 96 then upd (upd (upd (fun _ => 0) 0 (-9)) 1 (-9)) 2 (-9) else if a = 24 ∨ a = 26 ∨ a = 28 then fun b => if b = 2 then 2 else 0 else fun _ => 0, fun _ _ => 0)
def wW (cz : Nat → ClassId) (f g : Nat → Nat) : va_W := ff8 cz f ++ ff9 cz g
theorem wz_0 (cz : Nat → ClassId) (f g : Nat → Nat) (a b : Nat) : (wW cz f g)[0]? = some (wA f g a b 0, am_ce (wA f g a b) (wC cz) wH 0) := rfl
theorem wz_1 (cz : Nat → ClassId) (f g : Nat → Nat) (a b : Nat) : (wW cz f g)[1]? = some (wA f g a b 1, am_ce (wA f g a b) (wC cz) wH 1) := rfl
theorem wz_2 (cz : Nat → ClassId) (f g : Nat → Nat) (a b : Nat) : (wW cz f g)[2]? = some (wA f g a b 2, am_ce (wA f g a b) (wC cz) wH 2) := rfl
theorem wz_3 (cz : Nat → ClassId) (f g : Nat → Nat) (a b : Nat) : (wW cz f g)[3]? = some (wA f g a b 3, am_ce (wA f g a b) (wC cz) wH 3) := rfl
theorem wz_4 (cz : Nat → ClassId) (f g : Nat → Nat) (a b : Nat) : (wW cz f g)[4]? = some (wA f g a b 4, am_ce (wA f g a b) (wC cz) wH 4) := rfl
theorem wz_5 (cz : Nat → ClassId) (f g : Nat → Nat) (a b : Nat) : (wW cz f g)[6]? = some (wA f g a b 5, am_ce (wA f g a b) (wC cz) wH 5) := rfl
theorem wz_6 (cz : Nat → ClassId) (f g : Nat → Nat) (a b : Nat) : (wW cz f g)[7]? = some (wA f g a b 6, am_ce (wA f g a b) (wC cz) wH 6) := rfl
theorem wz_7 (cz : Nat → ClassId) (f g : Nat → Nat) (a b : Nat) : (wW cz f g)[8]? = some (wA f g a b 7, am_ce (wA f g a b) (wC cz) wH 7) := rfl
theorem wz_8 (cz : Nat → ClassId) (f g : Nat → Nat) (a b : Nat) : (wW cz f g)[9]? = some (wA f g a b 8, am_ce (wA f g a b) (wC cz) wH 8) := rfl
theorem wz_9 (cz : Nat → ClassId) (f g : Nat → Nat) (a b : Nat) : (wW cz f g)[10]? = some (wA f g a b 9, am_ce (wA f g a b) (wC cz) wH 9) := rfl
theorem wz_10 (cz : Nat → ClassId) (f g : Nat → Nat) (a b : Nat) : (wW cz f g)[11]? = some (wA f g a b 10, am_ce (wA f g a b) (wC cz) wH 10) := rfl
theorem wz_11 (cz : Nat → ClassId) (f g : Nat → Nat) (a b : Nat) : (wW cz f g)[12]? = some (wA f g a b 11, am_ce (wA f g a b) (wC cz) wH 11) := rfl
theorem wz_12 (cz : Nat → ClassId) (f g : Nat → Nat) (a b : Nat) : (wW cz f g)[13]? = some (wA f g a b 12, am_ce (wA f g a b) (wC cz) wH 12) := rfl
theorem wz_13 (cz : Nat → ClassId) (f g : Nat → Nat) (a b : Nat) : (wW cz f g)[15]? = some (wA f g a b 13, am_ce (wA f g a b) (wC cz) wH 13) := rfl
theorem wz_14 (cz : Nat → ClassId) (f g : Nat → Nat) (a b : Nat) : (wW cz f g)[16]? = some (wA f g a b 14, am_ce (wA f g a b) (wC cz) wH 14) := rfl
theorem wz_15 (cz : Nat → ClassId) (f g : Nat → Nat) (a b : Nat) : (wW cz f g)[17]? = some (wA f g a b 15, am_ce (wA f g a b) (wC cz) wH 15) := rfl
theorem wz_16 (cz : Nat → ClassId) (f g : Nat → Nat) (a b : Nat) : (wW cz f g)[18]? = some (wA f g a b 16, am_ce (wA f g a b) (wC cz) wH 16) := rfl
theorem wz_17 (cz : Nat → ClassId) (f g : Nat → Nat) (a b : Nat) : (wW cz f g)[19]? = some (wA f g a b 17, am_ce (wA f g a b) (wC cz) wH 17) := rfl
theorem wz_18 (cz : Nat → ClassId) (f g : Nat → Nat) (a b : Nat) : (wW cz f g)[20]? = some (wA f g a b 18, am_ce (wA f g a b) (wC cz) wH 18) := rfl
theorem wz_19 (cz : Nat → ClassId) (f g : Nat → Nat) (a b : Nat) : (wW cz f g)[21]? = some (wA f g a b 19, am_ce (wA f g a b) (wC cz) wH 19) := rfl
theorem wz_20 (cz : Nat → ClassId) (f g : Nat → Nat) (a b : Nat) : (wW cz f g)[22]? = some (wA f g a b 20, am_ce (wA f g a b) (wC cz) wH 20) := rfl
theorem wz_23 (cz : Nat → ClassId) (f g : Nat → Nat) (a b : Nat) : (wW cz f g)[23]? = some (wA f g a b 23, am_ce (wA f g a b) (wC cz) wH 23) := rfl
theorem wz_24 (cz : Nat → ClassId) (f g : Nat → Nat) (a b : Nat) : (wW cz f g)[25]? = some (wA f g a b 24, am_ce (wA f g a b) (wC cz) wH 24) := rfl
theorem wz_25 (cz : Nat → ClassId) (f g : Nat → Nat) (a b : Nat) : (wW cz f g)[26]? = some (wA f g a b 25, am_ce (wA f g a b) (wC cz) wH 25) := rfl
theorem wz_26 (cz : Nat → ClassId) (f g : Nat → Nat) (a b : Nat) : (wW cz f g)[27]? = some (wA f g a b 26, am_ce (wA f g a b) (wC cz) wH 26) := rfl
theorem wz_27 (cz : Nat → ClassId) (f g : Nat → Nat) (a b : Nat) : (wW cz f g)[28]? = some (wA f g a b 27, am_ce (wA f g a b) (wC cz) wH 27) := rfl
theorem wz_28 (cz : Nat → ClassId) (f g : Nat → Nat) (a b : Nat) : (wW cz f g)[29]? = some (wA f g a b 28, am_ce (wA f g a b) (wC cz) wH 28) := rfl
theorem wz_29 (cz : Nat → ClassId) (f g : Nat → Nat) (a b : Nat) : (wW cz f g)[30]? = some (wA f g a b 29, am_ce (wA f g a b) (wC cz) wH 29) := rfl
theorem wz_31 (cz : Nat → ClassId) (f g : Nat → Nat) (a b : Nat) : (wW cz f g)[31]? = some (wA f g a b 31, am_ce (wA f g a b) (wC cz) wH 31) := rfl
theorem wz_32 (cz : Nat → ClassId) (f g : Nat → Nat) (a b : Nat) : (wW cz f g)[32]? = some (wA f g a b 32, am_ce (wA f g a b) (wC cz) wH 32) := rfl
theorem wz_33 (cz : Nat → ClassId) (f g : Nat → Nat) (a b : Nat) : (wW cz f g)[33]? = some (wA f g a b 33, am_ce (wA f g a b) (wC cz) wH 33) := rfl
theorem wz_34 (cz : Nat → ClassId) (f g : Nat → Nat) (a b : Nat) : (wW cz f g)[34]? = some (wA f g a b 34, am_ce (wA f g a b) (wC cz) wH 34) := rfl
theorem wz_35 (cz : Nat → ClassId) (f g : Nat → Nat) (a b : Nat) : (wW cz f g)[35]? = some (wA f g a b 35, am_ce (wA f g a b) (wC cz) wH 35) := rfl
theorem wz_36 (cz : Nat → ClassId) (f g : Nat → Nat) (a b : Nat) : (wW cz f g)[36]? = some (wA f g a b 36, am_ce (wA f g a b) (wC cz) wH 36) := rfl
theorem wz_37 (cz : Nat → ClassId) (f g : Nat → Nat) (a b : Nat) : (wW cz f g)[37]? = some (wA f g a b 37, am_ce (wA f g a b) (wC cz) wH 37) := rfl
theorem wz_38 (cz : Nat → ClassId) (f g : Nat → Nat) (a b : Nat) : (wW cz f g)[38]? = some (wA f g a b 38, am_ce (wA f g a b) (wC cz) wH 38) := rfl
theorem wz_39 (cz : Nat → ClassId) (f g : Nat → Nat) (a b : Nat) : (wW cz f g)[39]? = some (wA f g a b 39, am_ce (wA f g a b) (wC cz) wH 39) := rfl
theorem wz_40 (cz : Nat → ClassId) (f g : Nat → Nat) (a b : Nat) : (wW cz f g)[40]? = some (wA f g a b 40, am_ce (wA f g a b) (wC cz) wH 40) := rfl
theorem wz_41 (cz : Nat → ClassId) (f g : Nat → Nat) (a b : Nat) : (wW cz f g)[41]? = some (wA f g a b 41, am_ce (wA f g a b) (wC cz) wH 41) := rfl
theorem wz_42 (cz : Nat → ClassId) (f g : Nat → Nat) (a b : Nat) : (wW cz f g)[42]? = some (wA f g a b 42, am_ce (wA f g a b) (wC cz) wH 42) := rfl
theorem wz_43 (cz : Nat → ClassId) (f g : Nat → Nat) (a b : Nat) : (wW cz f g)[43]? = some (wA f g a b 43, am_ce (wA f g a b) (wC cz) wH 43) := rfl
theorem wz_44 (cz : Nat → ClassId) (f g : Nat → Nat) (a b : Nat) : (wW cz f g)[44]? = some (wA f g a b 44, am_ce (wA f g a b) (wC cz) wH 44) := rfl
theorem wz_45 (cz : Nat → ClassId) (f g : Nat → Nat) (a b : Nat) : (wW cz f g)[45]? = some (wA f g a b 45, am_ce (wA f g a b) (wC cz) wH 45) := rfl
theorem wz_46 (cz : Nat → ClassId) (f g : Nat → Nat) (a b : Nat) : (wW cz f g)[46]? = some (wA f g a b 46, am_ce (wA f g a b) (wC cz) wH 46) := rfl
theorem wz_47 (cz : Nat → ClassId) (f g : Nat → Nat) (a b : Nat) : (wW cz f g)[47]? = some (wA f g a b 47, am_ce (wA f g a b) (wC cz) wH 47) := rfl
theorem wz_48 (cz : Nat → ClassId) (f g : Nat → Nat) (a b : Nat) : (wW cz f g)[48]? = some (wA f g a b 48, am_ce (wA f g a b) (wC cz) wH 48) := rfl
theorem wz_49 (cz : Nat → ClassId) (f g : Nat → Nat) (a b : Nat) : (wW cz f g)[49]? = some (wA f g a b 49, am_ce (wA f g a b) (wC cz) wH 49) := rfl
theorem wz_50 (cz : Nat → ClassId) (f g : Nat → Nat) (a b : Nat) : (wW cz f g)[50]? = some (wA f g a b 50, am_ce (wA f g a b) (wC cz) wH 50) := rfl
theorem wz_51 (cz : Nat → ClassId) (f g : Nat → Nat) (a b : Nat) : (wW cz f g)[51]? = some (wA f g a b 51, am_ce (wA f g a b) (wC cz) wH 51) := rfl
theorem wz_52 (cz : Nat → ClassId) (f g : Nat → Nat) (a b : Nat) : (wW cz f g)[52]? = some (wA f g a b 52, am_ce (wA f g a b) (wC cz) wH 52) := rfl
theorem wz_53 (cz : Nat → ClassId) (f g : Nat → Nat) (a b : Nat) : (wW cz f g)[53]? = some (wA f g a b 53, am_ce (wA f g a b) (wC cz) wH 53) := rfl
theorem wz_54 (cz : Nat → ClassId) (f g : Nat → Nat) (a b : Nat) : (wW cz f g)[54]? = some (wA f g a b 54, am_ce (wA f g a b) (wC cz) wH 54) := rfl
theorem wz_55 (cz : Nat → ClassId) (f g : Nat → Nat) (a b : Nat) : (wW cz f g)[55]? = some (wA f g a b 55, am_ce (wA f g a b) (wC cz) wH 55) := rfl
theorem wz_56 (cz : Nat → ClassId) (f g : Nat → Nat) (a b : Nat) : (wW cz f g)[56]? = some (wA f g a b 56, am_ce (wA f g a b) (wC cz) wH 56) := rfl
theorem wz_57 (cz : Nat → ClassId) (f g : Nat → Nat) (a b : Nat) : (wW cz f g)[58]? = some (wA f g a b 57, am_ce (wA f g a b) (wC cz) wH 57) := rfl
theorem wz_58 (cz : Nat → ClassId) (f g : Nat → Nat) (a b : Nat) : (wW cz f g)[59]? = some (wA f g a b 58, am_ce (wA f g a b) (wC cz) wH 58) := rfl
theorem wz_59 (cz : Nat → ClassId) (f g : Nat → Nat) (a b : Nat) : (wW cz f g)[60]? = some (wA f g a b 59, am_ce (wA f g a b) (wC cz) wH 59) := rfl
theorem wz_60 (cz : Nat → ClassId) (f g : Nat → Nat) (a b : Nat) : (wW cz f g)[61]? = some (wA f g a b 60, am_ce (wA f g a b) (wC cz) wH 60) := rfl
theorem wz_61 (cz : Nat → ClassId) (f g : Nat → Nat) (a b : Nat) : (wW cz f g)[62]? = some (wA f g a b 61, am_ce (wA f g a b) (wC cz) wH 61) := rfl
theorem wz_62 (cz : Nat → ClassId) (f g : Nat → Nat) (a b : Nat) : (wW cz f g)[63]? = some (wA f g a b 62, am_ce (wA f g a b) (wC cz) wH 62) := rfl
theorem wz_64 (cz : Nat → ClassId) (f g : Nat → Nat) (a b : Nat) : (wW cz f g)[64]? = some (wA f g a b 64, am_ce (wA f g a b) (wC cz) wH 64) := rfl
theorem wz_65 (cz : Nat → ClassId) (f g : Nat → Nat) (a b : Nat) : (wW cz f g)[65]? = some (wA f g a b 65, am_ce (wA f g a b) (wC cz) wH 65) := rfl
theorem wz_66 (cz : Nat → ClassId) (f g : Nat → Nat) (a b : Nat) : (wW cz f g)[66]? = some (wA f g a b 66, am_ce (wA f g a b) (wC cz) wH 66) := rfl
theorem wz_67 (cz : Nat → ClassId) (f g : Nat → Nat) (a b : Nat) : (wW cz f g)[67]? = some (wA f g a b 67, am_ce (wA f g a b) (wC cz) wH 67) := rfl
theorem wz_68 (cz : Nat → ClassId) (f g : Nat → Nat) (a b : Nat) : (wW cz f g)[68]? = some (wA f g a b 68, am_ce (wA f g a b) (wC cz) wH 68) := rfl
theorem wz_69 (cz : Nat → ClassId) (f g : Nat → Nat) (a b : Nat) : (wW cz f g)[69]? = some (wA f g a b 69, am_ce (wA f g a b) (wC cz) wH 69) := rfl
theorem wz_70 (cz : Nat → ClassId) (f g : Nat → Nat) (a b : Nat) : (wW cz f g)[70]? = some (wA f g a b 70, am_ce (wA f g a b) (wC cz) wH 70) := rfl
theorem wz_71 (cz : Nat → ClassId) (f g : Nat → Nat) (a b : Nat) : (wW cz f g)[71]? = some (wA f g a b 71, am_ce (wA f g a b) (wC cz) wH 71) := rfl
theorem wz_72 (cz : Nat → ClassId) (f g : Nat → Nat) (a b : Nat) : (wW cz f g)[72]? = some (wA f g a b 72, am_ce (wA f g a b) (wC cz) wH 72) := rfl
theorem wz_73 (cz : Nat → ClassId) (f g : Nat → Nat) (a b : Nat) : (wW cz f g)[73]? = some (wA f g a b 73, am_ce (wA f g a b) (wC cz) wH 73) := rfl
theorem wz_74 (cz : Nat → ClassId) (f g : Nat → Nat) (a b : Nat) : (wW cz f g)[74]? = some (wA f g a b 74, am_ce (wA f g a b) (wC cz) wH 74) := rfl
theorem wz_75 (cz : Nat → ClassId) (f g : Nat → Nat) (a b : Nat) : (wW cz f g)[75]? = some (wA f g a b 75, am_ce (wA f g a b) (wC cz) wH 75) := rfl
theorem wz_76 (cz : Nat → ClassId) (f g : Nat → Nat) (a b : Nat) : (wW cz f g)[76]? = some (wA f g a b 76, am_ce (wA f g a b) (wC cz) wH 76) := rfl
theorem wz_77 (cz : Nat → ClassId) (f g : Nat → Nat) (a b : Nat) : (wW cz f g)[77]? = some (wA f g a b 77, am_ce (wA f g a b) (wC cz) wH 77) := rfl
theorem wz_78 (cz : Nat → ClassId) (f g : Nat → Nat) (a b : Nat) : (wW cz f g)[78]? = some (wA f g a b 78, am_ce (wA f g a b) (wC cz) wH 78) := rfl
theorem wz_79 (cz : Nat → ClassId) (f g : Nat → Nat) (a b : Nat) : (wW cz f g)[79]? = some (wA f g a b 79, am_ce (wA f g a b) (wC cz) wH 79) := rfl
theorem wz_80 (cz : Nat → ClassId) (f g : Nat → Nat) (a b : Nat) : (wW cz f g)[80]? = some (wA f g a b 80, am_ce (wA f g a b) (wC cz) wH 80) := rfl
theorem wz_81 (cz : Nat → ClassId) (f g : Nat → Nat) (a b : Nat) : (wW cz f g)[81]? = some (wA f g a b 81, am_ce (wA f g a b) (wC cz) wH 81) := rfl
theorem wz_82 (cz : Nat → ClassId) (f g : Nat → Nat) (a b : Nat) : (wW cz f g)[82]? = some (wA f g a b 82, am_ce (wA f g a b) (wC cz) wH 82) := rfl
theorem wz_83 (cz : Nat → ClassId) (f g : Nat → Nat) (a b : Nat) : (wW cz f g)[83]? = some (wA f g a b 83, am_ce (wA f g a b) (wC cz) wH 83) := rfl
theorem wz_84 (cz : Nat → ClassId) (f g : Nat → Nat) (a b : Nat) : (wW cz f g)[84]? = some (wA f g a b 84, am_ce (wA f g a b) (wC cz) wH 84) := rfl
theorem wz_85 (cz : Nat → ClassId) (f g : Nat → Nat) (a b : Nat) : (wW cz f g)[85]? = some (wA f g a b 85, am_ce (wA f g a b) (wC cz) wH 85) := rfl
theorem wz_86 (cz : Nat → ClassId) (f g : Nat → Nat) (a b : Nat) : (wW cz f g)[86]? = some (wA f g a b 86, am_ce (wA f g a b) (wC cz) wH 86) := rfl
theorem wz_87 (cz : Nat → ClassId) (f g : Nat → Nat) (a b : Nat) : (wW cz f g)[87]? = some (wA f g a b 87, am_ce (wA f g a b) (wC cz) wH 87) := rfl
theorem wz_88 (cz : Nat → ClassId) (f g : Nat → Nat) (a b : Nat) : (wW cz f g)[88]? = some (wA f g a b 88, am_ce (wA f g a b) (wC cz) wH 88) := rfl
theorem wz_89 (cz : Nat → ClassId) (f g : Nat → Nat) (a b : Nat) : (wW cz f g)[89]? = some (wA f g a b 89, am_ce (wA f g a b) (wC cz) wH 89) := rfl
theorem wz_90 (cz : Nat → ClassId) (f g : Nat → Nat) (a b : Nat) : (wW cz f g)[90]? = some (wA f g a b 90, am_ce (wA f g a b) (wC cz) wH 90) := rfl
theorem wz_91 (cz : Nat → ClassId) (f g : Nat → Nat) (a b : Nat) : (wW cz f g)[91]? = some (wA f g a b 91, am_ce (wA f g a b) (wC cz) wH 91) := rfl
theorem wz_92 (cz : Nat → ClassId) (f g : Nat → Nat) (a b : Nat) : (wW cz f g)[92]? = some (wA f g a b 92, am_ce (wA f g a b) (wC cz) wH 92) := rfl
theorem wz_93 (cz : Nat → ClassId) (f g : Nat → Nat) (a b : Nat) : (wW cz f g)[93]? = some (wA f g a b 93, am_ce (wA f g a b) (wC cz) wH 93) := rfl
theorem wz_94 (cz : Nat → ClassId) (f g : Nat → Nat) (a b : Nat) : (wW cz f g)[94]? = some (wA f g a b 94, am_ce (wA f g a b) (wC cz) wH 94) := rfl
theorem wz_95 (cz : Nat → ClassId) (f g : Nat → Nat) (a b : Nat) : (wW cz f g)[95]? = some (wA f g a b 95, am_ce (wA f g a b) (wC cz) wH 95) := rfl
theorem wz_96 (cz : Nat → ClassId) (f g : Nat → Nat) (a b : Nat) : (wW cz f g)[96]? = some (wA f g a b 96, am_ce (wA f g a b) (wC cz) wH 96) := rfl
theorem wz_97 (cz : Nat → ClassId) (f g : Nat → Nat) (a b : Nat) : (wW cz f g)[97]? = some (wA f g a b 97, am_ce (wA f g a b) (wC cz) wH 97) := rfl
theorem wz_98 (cz : Nat → ClassId) (f g : Nat → Nat) (a b : Nat) : (wW cz f g)[98]? = some (wA f g a b 98, am_ce (wA f g a b) (wC cz) wH 98) := rfl
theorem arrV_cg {c : ClassId} {n : Nat} {u v : Nat → Value} (h : ∀ j, j < n → u j = v j) : arrV c n u = arrV c n v := by
  unfold arrV
  congr 1
  apply Array.ext
  · simp
  · intro i h1 h2
    simp at h1 ⊢
    exact h i h1
theorem at_q {D : va_G} {cl : List vw_C} {a n : Nat} {c : ClassId} {u v : Nat → Option Nat} {H : Heap} (huv : ∀ j, j < n → u j = v j) (h : va_at D cl (a, .inl (c, n, .inr (.inr (.inr (.inr u))))) H) : va_at D cl (a, .inl (c, n, .inr (.inr (.inr (.inr v))))) H := by
  have e : H[a]? = some (vp_cell c (n, .inr (.inr (.inr (.inr u))))) := h
  show H[a]? = some (vp_cell c (n, .inr (.inr (.inr (.inr v)))))
  rw [e, vp_cell_q, vp_cell_q]
  exact congrArg some (arrV_cg (fun j hj => by rw [huv j hj]))
theorem wz_21 (cz : Nat → ClassId) (f g : Nat → Nat) (a b : Nat) : ∃ x : va_E, (wW cz f g)[5]? = some (wA f g a b 21, x) ∧ ∀ (D : va_G) (H : Heap), va_at D vwCl (wA f g a b 21, x) H → va_at D vwCl (wA f g a b 21, am_ce (wA f g a b) (wC cz) wH 21) H := by
  refine ⟨_, rfl, fun D H h => ?_⟩
  have e : am_ce (wA f g a b) (wC cz) wH 21 = .inl (cz 3, 2, .inr (.inr (.inr (.inr fun j => some (wA f g a b (am_gr 21 j)))))) := rfl
  rw [e]
  refine at_q (fun j hj => ?_) h
  rcases (show j = 0 ∨ j = 1 by omega) with rfl | rfl <;> rfl
theorem wz_22 (cz : Nat → ClassId) (f g : Nat → Nat) (a b : Nat) : ∃ x : va_E, (wW cz f g)[14]? = some (wA f g a b 22, x) ∧ ∀ (D : va_G) (H : Heap), va_at D vwCl (wA f g a b 22, x) H → va_at D vwCl (wA f g a b 22, am_ce (wA f g a b) (wC cz) wH 22) H := by
  refine ⟨_, rfl, fun D H h => ?_⟩
  have e : am_ce (wA f g a b) (wC cz) wH 22 = .inl (cz 3, 2, .inr (.inr (.inr (.inr fun j => some (wA f g a b (am_gr 22 j)))))) := rfl
  rw [e]
  refine at_q (fun j hj => ?_) h
  rcases (show j = 0 ∨ j = 1 by omega) with rfl | rfl <;> rfl
theorem wz_30 (cz : Nat → ClassId) (f g : Nat → Nat) (a b : Nat) : ∃ x : va_E, (wW cz f g)[24]? = some (wA f g a b 30, x) ∧ ∀ (D : va_G) (H : Heap), va_at D vwCl (wA f g a b 30, x) H → va_at D vwCl (wA f g a b 30, am_ce (wA f g a b) (wC cz) wH 30) H := by
  refine ⟨_, rfl, fun D H h => ?_⟩
  have e : am_ce (wA f g a b) (wC cz) wH 30 = .inl (cz 4, 3, .inr (.inr (.inr (.inr fun j => some (wA f g a b (am_gr 30 j)))))) := rfl
  rw [e]
  refine at_q (fun j hj => ?_) h
  rcases (show j = 0 ∨ j = 1 ∨ j = 2 by omega) with rfl | rfl | rfl <;> rfl
theorem wz_63 (cz : Nat → ClassId) (f g : Nat → Nat) (a b : Nat) : ∃ x : va_E, (wW cz f g)[57]? = some (wA f g a b 63, x) ∧ ∀ (D : va_G) (H : Heap), va_at D vwCl (wA f g a b 63, x) H → va_at D vwCl (wA f g a b 63, am_ce (wA f g a b) (wC cz) wH 63) H := by
  refine ⟨_, rfl, fun D H h => ?_⟩
  have e : am_ce (wA f g a b) (wC cz) wH 63 = .inl (cz 5, 2, .inr (.inr (.inr (.inr fun j => some (wA f g a b (am_gr 63 j)))))) := rfl
  rw [e]
  refine at_q (fun j hj => ?_) h
  rcases (show j = 0 ∨ j = 1 by omega) with rfl | rfl <;> rfl
theorem wz_all (cz : Nat → ClassId) (f g : Nat → Nat) (a b : Nat) : ∀ k, k < 99 → ∃ x : va_E, (wW cz f g)[wP.getD k 0]? = some (wA f g a b k, x) ∧ ∀ (D : va_G) (H : Heap), va_at D vwCl (wA f g a b k, x) H → va_at D vwCl (wA f g a b k, am_ce (wA f g a b) (wC cz) wH k) H
  | 0, _ => ⟨_, wz_0 cz f g a b, fun _ _ h => h⟩
  | 1, _ => ⟨_, wz_1 cz f g a b, fun _ _ h => h⟩
  | 2, _ => ⟨_, wz_2 cz f g a b, fun _ _ h => h⟩
  | 3, _ => ⟨_, wz_3 cz f g a b, fun _ _ h => h⟩
  | 4, _ => ⟨_, wz_4 cz f g a b, fun _ _ h => h⟩
  | 5, _ => ⟨_, wz_5 cz f g a b, fun _ _ h => h⟩
  | 6, _ => ⟨_, wz_6 cz f g a b, fun _ _ h => h⟩
  | 7, _ => ⟨_, wz_7 cz f g a b, fun _ _ h => h⟩
  | 8, _ => ⟨_, wz_8 cz f g a b, fun _ _ h => h⟩
  | 9, _ => ⟨_, wz_9 cz f g a b, fun _ _ h => h⟩
  | 10, _ => ⟨_, wz_10 cz f g a b, fun _ _ h => h⟩
  | 11, _ => ⟨_, wz_11 cz f g a b, fun _ _ h => h⟩
  | 12, _ => ⟨_, wz_12 cz f g a b, fun _ _ h => h⟩
  | 13, _ => ⟨_, wz_13 cz f g a b, fun _ _ h => h⟩
  | 14, _ => ⟨_, wz_14 cz f g a b, fun _ _ h => h⟩
  | 15, _ => ⟨_, wz_15 cz f g a b, fun _ _ h => h⟩
  | 16, _ => ⟨_, wz_16 cz f g a b, fun _ _ h => h⟩
  | 17, _ => ⟨_, wz_17 cz f g a b, fun _ _ h => h⟩
  | 18, _ => ⟨_, wz_18 cz f g a b, fun _ _ h => h⟩
  | 19, _ => ⟨_, wz_19 cz f g a b, fun _ _ h => h⟩
  | 20, _ => ⟨_, wz_20 cz f g a b, fun _ _ h => h⟩
  | 21, _ => wz_21 cz f g a b
  | 22, _ => wz_22 cz f g a b
  | 23, _ => ⟨_, wz_23 cz f g a b, fun _ _ h => h⟩
  | 24, _ => ⟨_, wz_24 cz f g a b, fun _ _ h => h⟩
  | 25, _ => ⟨_, wz_25 cz f g a b, fun _ _ h => h⟩
  | 26, _ => ⟨_, wz_26 cz f g a b, fun _ _ h => h⟩
  | 27, _ => ⟨_, wz_27 cz f g a b, fun _ _ h => h⟩
  | 28, _ => ⟨_, wz_28 cz f g a b, fun _ _ h => h⟩
  | 29, _ => ⟨_, wz_29 cz f g a b, fun _ _ h => h⟩
  | 30, _ => wz_30 cz f g a b
  | 31, _ => ⟨_, wz_31 cz f g a b, fun _ _ h => h⟩
  | 32, _ => ⟨_, wz_32 cz f g a b, fun _ _ h => h⟩
  | 33, _ => ⟨_, wz_33 cz f g a b, fun _ _ h => h⟩
  | 34, _ => ⟨_, wz_34 cz f g a b, fun _ _ h => h⟩
  | 35, _ => ⟨_, wz_35 cz f g a b, fun _ _ h => h⟩
  | 36, _ => ⟨_, wz_36 cz f g a b, fun _ _ h => h⟩
  | 37, _ => ⟨_, wz_37 cz f g a b, fun _ _ h => h⟩
  | 38, _ => ⟨_, wz_38 cz f g a b, fun _ _ h => h⟩
  | 39, _ => ⟨_, wz_39 cz f g a b, fun _ _ h => h⟩
  | 40, _ => ⟨_, wz_40 cz f g a b, fun _ _ h => h⟩
  | 41, _ => ⟨_, wz_41 cz f g a b, fun _ _ h => h⟩
  | 42, _ => ⟨_, wz_42 cz f g a b, fun _ _ h => h⟩
  | 43, _ => ⟨_, wz_43 cz f g a b, fun _ _ h => h⟩
  | 44, _ => ⟨_, wz_44 cz f g a b, fun _ _ h => h⟩
  | 45, _ => ⟨_, wz_45 cz f g a b, fun _ _ h => h⟩
  | 46, _ => ⟨_, wz_46 cz f g a b, fun _ _ h => h⟩
  | 47, _ => ⟨_, wz_47 cz f g a b, fun _ _ h => h⟩
  | 48, _ => ⟨_, wz_48 cz f g a b, fun _ _ h => h⟩
  | 49, _ => ⟨_, wz_49 cz f g a b, fun _ _ h => h⟩
  | 50, _ => ⟨_, wz_50 cz f g a b, fun _ _ h => h⟩
  | 51, _ => ⟨_, wz_51 cz f g a b, fun _ _ h => h⟩
  | 52, _ => ⟨_, wz_52 cz f g a b, fun _ _ h => h⟩
  | 53, _ => ⟨_, wz_53 cz f g a b, fun _ _ h => h⟩
  | 54, _ => ⟨_, wz_54 cz f g a b, fun _ _ h => h⟩
  | 55, _ => ⟨_, wz_55 cz f g a b, fun _ _ h => h⟩
  | 56, _ => ⟨_, wz_56 cz f g a b, fun _ _ h => h⟩
  | 57, _ => ⟨_, wz_57 cz f g a b, fun _ _ h => h⟩
  | 58, _ => ⟨_, wz_58 cz f g a b, fun _ _ h => h⟩
  | 59, _ => ⟨_, wz_59 cz f g a b, fun _ _ h => h⟩
  | 60, _ => ⟨_, wz_60 cz f g a b, fun _ _ h => h⟩
  | 61, _ => ⟨_, wz_61 cz f g a b, fun _ _ h => h⟩
  | 62, _ => ⟨_, wz_62 cz f g a b, fun _ _ h => h⟩
  | 63, _ => wz_63 cz f g a b
  | 64, _ => ⟨_, wz_64 cz f g a b, fun _ _ h => h⟩
  | 65, _ => ⟨_, wz_65 cz f g a b, fun _ _ h => h⟩
  | 66, _ => ⟨_, wz_66 cz f g a b, fun _ _ h => h⟩
  | 67, _ => ⟨_, wz_67 cz f g a b, fun _ _ h => h⟩
  | 68, _ => ⟨_, wz_68 cz f g a b, fun _ _ h => h⟩
  | 69, _ => ⟨_, wz_69 cz f g a b, fun _ _ h => h⟩
  | 70, _ => ⟨_, wz_70 cz f g a b, fun _ _ h => h⟩
  | 71, _ => ⟨_, wz_71 cz f g a b, fun _ _ h => h⟩
  | 72, _ => ⟨_, wz_72 cz f g a b, fun _ _ h => h⟩
  | 73, _ => ⟨_, wz_73 cz f g a b, fun _ _ h => h⟩
  | 74, _ => ⟨_, wz_74 cz f g a b, fun _ _ h => h⟩
  | 75, _ => ⟨_, wz_75 cz f g a b, fun _ _ h => h⟩
  | 76, _ => ⟨_, wz_76 cz f g a b, fun _ _ h => h⟩
  | 77, _ => ⟨_, wz_77 cz f g a b, fun _ _ h => h⟩
  | 78, _ => ⟨_, wz_78 cz f g a b, fun _ _ h => h⟩
  | 79, _ => ⟨_, wz_79 cz f g a b, fun _ _ h => h⟩
  | 80, _ => ⟨_, wz_80 cz f g a b, fun _ _ h => h⟩
  | 81, _ => ⟨_, wz_81 cz f g a b, fun _ _ h => h⟩
  | 82, _ => ⟨_, wz_82 cz f g a b, fun _ _ h => h⟩
  | 83, _ => ⟨_, wz_83 cz f g a b, fun _ _ h => h⟩
  | 84, _ => ⟨_, wz_84 cz f g a b, fun _ _ h => h⟩
  | 85, _ => ⟨_, wz_85 cz f g a b, fun _ _ h => h⟩
  | 86, _ => ⟨_, wz_86 cz f g a b, fun _ _ h => h⟩
  | 87, _ => ⟨_, wz_87 cz f g a b, fun _ _ h => h⟩
  | 88, _ => ⟨_, wz_88 cz f g a b, fun _ _ h => h⟩
  | 89, _ => ⟨_, wz_89 cz f g a b, fun _ _ h => h⟩
  | 90, _ => ⟨_, wz_90 cz f g a b, fun _ _ h => h⟩
  | 91, _ => ⟨_, wz_91 cz f g a b, fun _ _ h => h⟩
  | 92, _ => ⟨_, wz_92 cz f g a b, fun _ _ h => h⟩
  | 93, _ => ⟨_, wz_93 cz f g a b, fun _ _ h => h⟩
  | 94, _ => ⟨_, wz_94 cz f g a b, fun _ _ h => h⟩
  | 95, _ => ⟨_, wz_95 cz f g a b, fun _ _ h => h⟩
  | 96, _ => ⟨_, wz_96 cz f g a b, fun _ _ h => h⟩
  | 97, _ => ⟨_, wz_97 cz f g a b, fun _ _ h => h⟩
  | 98, _ => ⟨_, wz_98 cz f g a b, fun _ _ h => h⟩
  | n + 99, h => absurd h (by omega)
theorem wP_inj : ∀ i, i < 99 → ∀ j, j < 99 → wP.getD i 0 = wP.getD j 0 → i = j := by decide +kernel
theorem ww_P {D : va_G} {cz : Nat → ClassId} {f g : Nat → Nat} {a b : Nat} {H : Heap} (hP : va_P D vwCl (wW cz f g) H) : va_P D vwCl (am_ws (wA f g a b) (wC cz) wH) H := by
  intro k q hq
  have hk : k < 99 := by
    have := (List.getElem?_eq_some_iff.mp hq).1
    simpa [am_ws] using this
  rw [am_ws_at hk] at hq
  cases hq
  obtain ⟨x, e, t⟩ := wz_all cz f g a b k hk
  exact t D H (hP _ _ e)
theorem ww_D {A : Nat → Prop} {cz : Nat → ClassId} {f g : Nat → Nat} {a b : Nat} (hD : va_D A (wW cz f g)) (h : am_H) : va_D A (am_ws (wA f g a b) (wC cz) h) := by
  have lt : ∀ {k : Nat} {q : Nat × va_E}, (am_ws (wA f g a b) (wC cz) h)[k]? = some q → k < 99 ∧ q.1 = wA f g a b k := by
    intro k q hq
    have hk : k < 99 := by
      have := (List.getElem?_eq_some_iff.mp hq).1
      simpa [am_ws] using this
    rw [am_ws_at hk] at hq
    cases hq
    exact ⟨hk, rfl⟩
  refine ⟨fun i j p q hi hj e => ?_, fun k q hq => ?_⟩
  · obtain ⟨li, ei⟩ := lt hi
    obtain ⟨lj, ej⟩ := lt hj
    obtain ⟨x, e1, -⟩ := wz_all cz f g a b i li
    obtain ⟨y, e2, -⟩ := wz_all cz f g a b j lj
    exact wP_inj i li j lj (hD.1 _ _ _ _ e1 e2 (by show wA f g a b i = wA f g a b j; rw [← ei, ← ej, e]))
  · obtain ⟨lk, ek⟩ := lt hq
    obtain ⟨x, e1, -⟩ := wz_all cz f g a b k lk
    rw [ek]
    exact hD.2 _ _ e1
theorem ww_K {D : va_G} {cz : Nat → ClassId} {s : State} (hK : ct_K D cz s) : va_K D vwCl (am_tys (wC cz)) s := by
  refine ⟨hK.1.1, fun k q hq => ?_⟩
  have hk : k < 99 := by
    have := (List.getElem?_eq_some_iff.mp hq).1
    simpa [am_tys] using this
  rw [am_tys_at hk] at hq
  cases hq
  unfold wC am_ty
  generalize (am_kd k).1 = t
  split
  · exact hK.1.2 1 _ rfl
  · exact hK.1.2 2 _ rfl
  · exact hK.1.2 3 _ rfl
  · exact hK.1.2 4 _ rfl
  · exact hK.1.2 5 _ rfl
  · rename_i n1 n2 n3 n4 n5
    split
    · exact absurd rfl n1
    · exact absurd rfl n2
    · exact absurd rfl n3
    · exact absurd rfl n4
    · exact absurd rfl n5
    · exact hK.1.2 0 _ rfl
theorem wH_0 {a : Nat} (h : a ≠ 31 ∧ a ≠ 82 ∧ a ≠ 92 ∧ a ≠ 96 ∧ a ≠ 24 ∧ a ≠ 26 ∧ a ≠ 28) (b : Nat) : wH.1 a b = 0 := by
  unfold wH
  dsimp only
  rw [if_neg (by omega), if_neg (by omega), if_neg (by omega), if_neg (by omega)]
theorem Rl_start : Rl wH := by
  have z0 : (0 : Int32) = nI 0 := rfl
  refine ⟨fun g hg => ?_, ⟨fun i hi => ?_, ?_, ?_, ?_, ?_⟩, fun c hc => ?_, fun t ht => ?_⟩
  · refine ⟨0, by omega, wH_0 (by omega) _, wH_0 (by omega) _, fun i j _ hj => by omega, fun j hj => ⟨?_, ?_, ?_, ?_⟩⟩
    · rw [wH_0 (by omega), wH_0 (by omega)]
    · rw [wH_0 (by omega), wH_0 (by omega)]
    · rw [wH_0 (by omega), wH_0 (by omega)]
    · rw [wH_0 (by omega), wH_0 (by omega), wH_0 (by omega)]
      unfold rl_rng rl_in
      split <;> decide
  · rfl
  · show rl_in 0 50 2
    unfold rl_in; decide
  · show rl_in 0 1000000 100
    unfold rl_in; decide
  · show rl_in 0 10000000 40000
    unfold rl_in; decide
  · show rl_in 1 255 40
    unfold rl_in; decide
  · refine Or.inl ⟨wH_0 (by omega) _, ?_⟩
    rcases (show c = 0 ∨ c = 1 by omega) with rfl | rfl <;> rfl
  · rcases (show t = 0 ∨ t = 1 ∨ t = 2 by omega) with rfl | rfl | rfl
    · exact Or.inl ⟨rfl, rfl⟩
    · exact Or.inl ⟨rfl, rfl⟩
    · exact Or.inl ⟨rfl, rfl⟩
