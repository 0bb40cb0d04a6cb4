/-! the world at its start, cell by cell -/
def letU : Nat → Int32 := (upd (upd (upd (upd (upd (upd (upd (upd (upd (upd (upd (upd (upd (upd (upd (upd (upd (upd (upd (upd (upd (fun _ => 0) 0 119) 1 111) 2 114) 3 116) 4 104) 5 98) 6 97) 7 107) 8 101) 9 108) 10 111) 11 97) 12 102) 13 108) 14 97) 15 119) 16 115) 17 99) 18 97) 19 108) 20 101)
def srtU : Nat → Int32 := (upd (upd (upd (upd (upd (upd (fun _ => 0) 0 (-1)) 1 (-1)) 2 (-1)) 3 (-1)) 4 (-1)) 5 (-1))
def iI (k i : Nat) : Int32 := match ksh k with
  | 4 => if i = 8 then 20 else if i = 10 then -5 else if i = 12 then -1 else 0
  | 1 => if i = 9 then 8 else if i = 11 then 1 else 0
  | 3 => if i = 12 then -5 else if i = 13 then -1 else if i = 15 then -1 else if i = 16 then -1 else 0
  | 5 => if i = 1 then -1 else 0
  | 7 => if i = 1 then 20 else if i = 3 then -1 else if i = 11 then -1 else if i = 29 then -1 else if i = 33 then -1 else if i = 35 then -1 else if i = 36 then -1 else if i = 42 then -1 else if i = 47 then -1 else if i = 51 then -1 else 0
  | _ => if k = 149 then letU i else if k = 168 then srtU i else 0
def dI0 (k i : Nat) : Nat := if k = 46 then 114 else if i = 8 then 25 else 106
def hI : Hp := (iI, fun _ _ => 0, dI0)
def plT : List Nat := [0, 1, 2, 3, 4, 5, 6, 7, 8, 9, 10, 11, 12, 13, 14, 15, 16, 17, 18, 19, 20, 21, 22, 23, 24, 43, 44, 45, 46, 47, 48, 49, 50, 33, 71, 72, 73, 34, 35, 36, 37, 38, 39, 40, 41, 42, 59, 60, 69, 70, 74, 75, 76, 77, 78, 79, 80, 81, 82, 83, 84, 85, 86, 87, 88, 89, 90, 91, 92, 93, 94, 95, 96, 97, 98, 99, 100, 101, 102, 103, 104, 105, 106, 107, 108, 109, 110, 111, 112, 113, 114, 115, 116, 117, 118, 119, 120, 121, 25, 26, 27, 28, 29, 30, 31, 32, 51, 52, 53, 54, 55, 56, 57, 58, 61, 62, 63, 64, 65, 66, 67, 68, 122, 123, 124, 125, 126, 127, 128, 129, 130, 131, 132, 133]
def posT : List Nat := [38, 164, 171, 170, 169, 168, 167, 166, 165, 156, 163, 162, 161, 160, 159, 158, 157, 148, 155, 154, 153, 152, 151, 150, 149, 124, 131, 130, 129, 128, 127, 126, 125, 40, 39, 102, 101, 115, 139, 138, 137, 136, 135, 134, 133, 132, 105, 114, 103, 104, 93, 100, 99, 98, 97, 96, 95, 94, 85, 92, 91, 90, 89, 88, 87, 86, 77, 84, 83, 82, 81, 80, 79, 78, 69, 76, 75, 74, 73, 72, 71, 70, 61, 68, 67, 66, 65, 64, 63, 62, 53, 60, 59, 58, 57, 56, 55, 54, 140, 147, 146, 145, 144, 143, 142, 141, 116, 123, 122, 121, 120, 119, 118, 117, 106, 113, 112, 111, 110, 109, 108, 107, 51, 52, 49, 50, 47, 48, 45, 46, 43, 44, 41, 42, 0, 37, 36, 35, 34, 33, 32, 31, 30, 29, 28, 27, 26, 25, 24, 23, 22, 21, 20, 19, 18, 17, 16, 15, 14, 13, 12, 11, 10, 9, 8, 7, 6, 5, 4, 3, 2, 1]
def invT : List Nat := [134, 171, 170, 169, 168, 167, 166, 165, 164, 163, 162, 161, 160, 159, 158, 157, 156, 155, 154, 153, 152, 151, 150, 149, 148, 147, 146, 145, 144, 143, 142, 141, 140, 139, 138, 137, 136, 135, 0, 34, 33, 132, 133, 130, 131, 128, 129, 126, 127, 124, 125, 122, 123, 90, 97, 96, 95, 94, 93, 92, 91, 82, 89, 88, 87, 86, 85, 84, 83, 74, 81, 80, 79, 78, 77, 76, 75, 66, 73, 72, 71, 70, 69, 68, 67, 58, 65, 64, 63, 62, 61, 60, 59, 50, 57, 56, 55, 54, 53, 52, 51, 36, 35, 48, 49, 46, 114, 121, 120, 119, 118, 117, 116, 115, 47, 37, 106, 113, 112, 111, 110, 109, 108, 107, 25, 32, 31, 30, 29, 28, 27, 26, 45, 44, 43, 42, 41, 40, 39, 38, 98, 105, 104, 103, 102, 101, 100, 99, 17, 24, 23, 22, 21, 20, 19, 18, 9, 16, 15, 14, 13, 12, 11, 10, 1, 8, 7, 6, 5, 4, 3, 2]
def adr (T6 T7 : Nat → Nat) (k : Nat) : Nat := if k < 134 then T6 (plT.getD k 0) else T7 (k - 134)
abbrev mkG (T6 T7 : Nat → Nat) (D : va_G) (g : Nat → ClassId) (B tA tB : Nat) (K V : Nat → Nat) (b L : Nat) (xs : Nat → Int32) : WT := (adr T6 T7, D, g, B, (tA, tB), (K, V), (b, L, xs))
def wWd (g : Nat → ClassId) (T6 T7 : Nat → Nat) : va_W := shX7 g T7 ++ (shX6 g T6 ++ [])
section WD
variable {T6 T7 : Nat → Nat} {D : va_G} {g : Nat → ClassId} {B tA tB : Nat} {K V : Nat → Nat} {b L : Nat} {xs : Nat → Int32}
theorem wq_0 : (wWd g T6 T7)[38]? = some (adr T6 T7 0, cel (mkG T6 T7 D g B tA tB K V b L xs) hI 0) := rfl
theorem wq_1 : (wWd g T6 T7)[164]? = some (adr T6 T7 1, cel (mkG T6 T7 D g B tA tB K V b L xs) hI 1) := rfl
theorem wq_2 : (wWd g T6 T7)[171]? = some (adr T6 T7 2, cel (mkG T6 T7 D g B tA tB K V b L xs) hI 2) := rfl
theorem wq_3 : (wWd g T6 T7)[170]? = some (adr T6 T7 3, cel (mkG T6 T7 D g B tA tB K V b L xs) hI 3) := rfl
theorem wq_4 : (wWd g T6 T7)[169]? = some (adr T6 T7 4, cel (mkG T6 T7 D g B tA tB K V b L xs) hI 4) := rfl
theorem wq_5 : (wWd g T6 T7)[168]? = some (adr T6 T7 5, cel (mkG T6 T7 D g B tA tB K V b L xs) hI 5) := rfl
theorem wq_6 : (wWd g T6 T7)[167]? = some (adr T6 T7 6, cel (mkG T6 T7 D g B tA tB K V b L xs) hI 6) := rfl
theorem wq_7 : (wWd g T6 T7)[166]? = some (adr T6 T7 7, cel (mkG T6 T7 D g B tA tB K V b L xs) hI 7) := rfl
theorem wq_8 : (wWd g T6 T7)[165]? = some (adr T6 T7 8, cel (mkG T6 T7 D g B tA tB K V b L xs) hI 8) := rfl
theorem wq_9 : (wWd g T6 T7)[156]? = some (adr T6 T7 9, cel (mkG T6 T7 D g B tA tB K V b L xs) hI 9) := rfl
theorem wq_10 : (wWd g T6 T7)[163]? = some (adr T6 T7 10, cel (mkG T6 T7 D g B tA tB K V b L xs) hI 10) := rfl
theorem wq_11 : (wWd g T6 T7)[162]? = some (adr T6 T7 11, cel (mkG T6 T7 D g B tA tB K V b L xs) hI 11) := rfl
theorem wq_12 : (wWd g T6 T7)[161]? = some (adr T6 T7 12, cel (mkG T6 T7 D g B tA tB K V b L xs) hI 12) := rfl
theorem wq_13 : (wWd g T6 T7)[160]? = some (adr T6 T7 13, cel (mkG T6 T7 D g B tA tB K V b L xs) hI 13) := rfl
theorem wq_14 : (wWd g T6 T7)[159]? = some (adr T6 T7 14, cel (mkG T6 T7 D g B tA tB K V b L xs) hI 14) := rfl
theorem wq_15 : (wWd g T6 T7)[158]? = some (adr T6 T7 15, cel (mkG T6 T7 D g B tA tB K V b L xs) hI 15) := rfl
theorem wq_16 : (wWd g T6 T7)[157]? = some (adr T6 T7 16, cel (mkG T6 T7 D g B tA tB K V b L xs) hI 16) := rfl
theorem wq_17 : (wWd g T6 T7)[148]? = some (adr T6 T7 17, cel (mkG T6 T7 D g B tA tB K V b L xs) hI 17) := rfl
theorem wq_18 : (wWd g T6 T7)[155]? = some (adr T6 T7 18, cel (mkG T6 T7 D g B tA tB K V b L xs) hI 18) := rfl
theorem wq_19 : (wWd g T6 T7)[154]? = some (adr T6 T7 19, cel (mkG T6 T7 D g B tA tB K V b L xs) hI 19) := rfl
theorem wq_20 : (wWd g T6 T7)[153]? = some (adr T6 T7 20, cel (mkG T6 T7 D g B tA tB K V b L xs) hI 20) := rfl
theorem wq_21 : (wWd g T6 T7)[152]? = some (adr T6 T7 21, cel (mkG T6 T7 D g B tA tB K V b L xs) hI 21) := rfl
theorem wq_22 : (wWd g T6 T7)[151]? = some (adr T6 T7 22, cel (mkG T6 T7 D g B tA tB K V b L xs) hI 22) := rfl
theorem wq_23 : (wWd g T6 T7)[150]? = some (adr T6 T7 23, cel (mkG T6 T7 D g B tA tB K V b L xs) hI 23) := rfl
theorem wq_24 : (wWd g T6 T7)[149]? = some (adr T6 T7 24, cel (mkG T6 T7 D g B tA tB K V b L xs) hI 24) := rfl
theorem wq_25 : (wWd g T6 T7)[124]? = some (adr T6 T7 25, cel (mkG T6 T7 D g B tA tB K V b L xs) hI 25) := rfl
theorem wq_26 : (wWd g T6 T7)[131]? = some (adr T6 T7 26, cel (mkG T6 T7 D g B tA tB K V b L xs) hI 26) := rfl
theorem wq_27 : (wWd g T6 T7)[130]? = some (adr T6 T7 27, cel (mkG T6 T7 D g B tA tB K V b L xs) hI 27) := rfl
theorem wq_28 : (wWd g T6 T7)[129]? = some (adr T6 T7 28, cel (mkG T6 T7 D g B tA tB K V b L xs) hI 28) := rfl
theorem wq_29 : (wWd g T6 T7)[128]? = some (adr T6 T7 29, cel (mkG T6 T7 D g B tA tB K V b L xs) hI 29) := rfl
theorem wq_30 : (wWd g T6 T7)[127]? = some (adr T6 T7 30, cel (mkG T6 T7 D g B tA tB K V b L xs) hI 30) := rfl
theorem wq_31 : (wWd g T6 T7)[126]? = some (adr T6 T7 31, cel (mkG T6 T7 D g B tA tB K V b L xs) hI 31) := rfl
theorem wq_32 : (wWd g T6 T7)[125]? = some (adr T6 T7 32, cel (mkG T6 T7 D g B tA tB K V b L xs) hI 32) := rfl
theorem wq_35 : (wWd g T6 T7)[102]? = some (adr T6 T7 35, cel (mkG T6 T7 D g B tA tB K V b L xs) hI 35) := rfl
theorem wq_36 : (wWd g T6 T7)[101]? = some (adr T6 T7 36, cel (mkG T6 T7 D g B tA tB K V b L xs) hI 36) := rfl
theorem wq_37 : (wWd g T6 T7)[115]? = some (adr T6 T7 37, cel (mkG T6 T7 D g B tA tB K V b L xs) hI 37) := rfl
theorem wq_38 : (wWd g T6 T7)[139]? = some (adr T6 T7 38, cel (mkG T6 T7 D g B tA tB K V b L xs) hI 38) := rfl
theorem wq_39 : (wWd g T6 T7)[138]? = some (adr T6 T7 39, cel (mkG T6 T7 D g B tA tB K V b L xs) hI 39) := rfl
theorem wq_40 : (wWd g T6 T7)[137]? = some (adr T6 T7 40, cel (mkG T6 T7 D g B tA tB K V b L xs) hI 40) := rfl
theorem wq_41 : (wWd g T6 T7)[136]? = some (adr T6 T7 41, cel (mkG T6 T7 D g B tA tB K V b L xs) hI 41) := rfl
theorem wq_42 : (wWd g T6 T7)[135]? = some (adr T6 T7 42, cel (mkG T6 T7 D g B tA tB K V b L xs) hI 42) := rfl
theorem wq_43 : (wWd g T6 T7)[134]? = some (adr T6 T7 43, cel (mkG T6 T7 D g B tA tB K V b L xs) hI 43) := rfl
theorem wq_44 : (wWd g T6 T7)[133]? = some (adr T6 T7 44, cel (mkG T6 T7 D g B tA tB K V b L xs) hI 44) := rfl
theorem wq_45 : (wWd g T6 T7)[132]? = some (adr T6 T7 45, cel (mkG T6 T7 D g B tA tB K V b L xs) hI 45) := rfl
theorem wq_46 : (wWd g T6 T7)[105]? = some (adr T6 T7 46, cel (mkG T6 T7 D g B tA tB K V b L xs) hI 46) := rfl
theorem wq_47 : (wWd g T6 T7)[114]? = some (adr T6 T7 47, cel (mkG T6 T7 D g B tA tB K V b L xs) hI 47) := rfl
theorem wq_48 : (wWd g T6 T7)[103]? = some (adr T6 T7 48, cel (mkG T6 T7 D g B tA tB K V b L xs) hI 48) := rfl
theorem wq_49 : (wWd g T6 T7)[104]? = some (adr T6 T7 49, cel (mkG T6 T7 D g B tA tB K V b L xs) hI 49) := rfl
theorem wq_50 : (wWd g T6 T7)[93]? = some (adr T6 T7 50, cel (mkG T6 T7 D g B tA tB K V b L xs) hI 50) := rfl
theorem wq_51 : (wWd g T6 T7)[100]? = some (adr T6 T7 51, cel (mkG T6 T7 D g B tA tB K V b L xs) hI 51) := rfl
theorem wq_52 : (wWd g T6 T7)[99]? = some (adr T6 T7 52, cel (mkG T6 T7 D g B tA tB K V b L xs) hI 52) := rfl
theorem wq_53 : (wWd g T6 T7)[98]? = some (adr T6 T7 53, cel (mkG T6 T7 D g B tA tB K V b L xs) hI 53) := rfl
theorem wq_54 : (wWd g T6 T7)[97]? = some (adr T6 T7 54, cel (mkG T6 T7 D g B tA tB K V b L xs) hI 54) := rfl
theorem wq_55 : (wWd g T6 T7)[96]? = some (adr T6 T7 55, cel (mkG T6 T7 D g B tA tB K V b L xs) hI 55) := rfl
theorem wq_56 : (wWd g T6 T7)[95]? = some (adr T6 T7 56, cel (mkG T6 T7 D g B tA tB K V b L xs) hI 56) := rfl
theorem wq_57 : (wWd g T6 T7)[94]? = some (adr T6 T7 57, cel (mkG T6 T7 D g B tA tB K V b L xs) hI 57) := rfl
theorem wq_58 : (wWd g T6 T7)[85]? = some (adr T6 T7 58, cel (mkG T6 T7 D g B tA tB K V b L xs) hI 58) := rfl
theorem wq_59 : (wWd g T6 T7)[92]? = some (adr T6 T7 59, cel (mkG T6 T7 D g B tA tB K V b L xs) hI 59) := rfl
theorem wq_60 : (wWd g T6 T7)[91]? = some (adr T6 T7 60, cel (mkG T6 T7 D g B tA tB K V b L xs) hI 60) := rfl
theorem wq_61 : (wWd g T6 T7)[90]? = some (adr T6 T7 61, cel (mkG T6 T7 D g B tA tB K V b L xs) hI 61) := rfl
theorem wq_62 : (wWd g T6 T7)[89]? = some (adr T6 T7 62, cel (mkG T6 T7 D g B tA tB K V b L xs) hI 62) := rfl
theorem wq_63 : (wWd g T6 T7)[88]? = some (adr T6 T7 63, cel (mkG T6 T7 D g B tA tB K V b L xs) hI 63) := rfl
theorem wq_64 : (wWd g T6 T7)[87]? = some (adr T6 T7 64, cel (mkG T6 T7 D g B tA tB K V b L xs) hI 64) := rfl
theorem wq_65 : (wWd g T6 T7)[86]? = some (adr T6 T7 65, cel (mkG T6 T7 D g B tA tB K V b L xs) hI 65) := rfl
theorem wq_66 : (wWd g T6 T7)[77]? = some (adr T6 T7 66, cel (mkG T6 T7 D g B tA tB K V b L xs) hI 66) := rfl
theorem wq_67 : (wWd g T6 T7)[84]? = some (adr T6 T7 67, cel (mkG T6 T7 D g B tA tB K V b L xs) hI 67) := rfl
theorem wq_68 : (wWd g T6 T7)[83]? = some (adr T6 T7 68, cel (mkG T6 T7 D g B tA tB K V b L xs) hI 68) := rfl
theorem wq_69 : (wWd g T6 T7)[82]? = some (adr T6 T7 69, cel (mkG T6 T7 D g B tA tB K V b L xs) hI 69) := rfl
theorem wq_70 : (wWd g T6 T7)[81]? = some (adr T6 T7 70, cel (mkG T6 T7 D g B tA tB K V b L xs) hI 70) := rfl
theorem wq_71 : (wWd g T6 T7)[80]? = some (adr T6 T7 71, cel (mkG T6 T7 D g B tA tB K V b L xs) hI 71) := rfl
theorem wq_72 : (wWd g T6 T7)[79]? = some (adr T6 T7 72, cel (mkG T6 T7 D g B tA tB K V b L xs) hI 72) := rfl
theorem wq_73 : (wWd g T6 T7)[78]? = some (adr T6 T7 73, cel (mkG T6 T7 D g B tA tB K V b L xs) hI 73) := rfl
theorem wq_74 : (wWd g T6 T7)[69]? = some (adr T6 T7 74, cel (mkG T6 T7 D g B tA tB K V b L xs) hI 74) := rfl
theorem wq_75 : (wWd g T6 T7)[76]? = some (adr T6 T7 75, cel (mkG T6 T7 D g B tA tB K V b L xs) hI 75) := rfl
theorem wq_76 : (wWd g T6 T7)[75]? = some (adr T6 T7 76, cel (mkG T6 T7 D g B tA tB K V b L xs) hI 76) := rfl
theorem wq_77 : (wWd g T6 T7)[74]? = some (adr T6 T7 77, cel (mkG T6 T7 D g B tA tB K V b L xs) hI 77) := rfl
theorem wq_78 : (wWd g T6 T7)[73]? = some (adr T6 T7 78, cel (mkG T6 T7 D g B tA tB K V b L xs) hI 78) := rfl
theorem wq_79 : (wWd g T6 T7)[72]? = some (adr T6 T7 79, cel (mkG T6 T7 D g B tA tB K V b L xs) hI 79) := rfl
theorem wq_80 : (wWd g T6 T7)[71]? = some (adr T6 T7 80, cel (mkG T6 T7 D g B tA tB K V b L xs) hI 80) := rfl
theorem wq_81 : (wWd g T6 T7)[70]? = some (adr T6 T7 81, cel (mkG T6 T7 D g B tA tB K V b L xs) hI 81) := rfl
theorem wq_82 : (wWd g T6 T7)[61]? = some (adr T6 T7 82, cel (mkG T6 T7 D g B tA tB K V b L xs) hI 82) := rfl
theorem wq_83 : (wWd g T6 T7)[68]? = some (adr T6 T7 83, cel (mkG T6 T7 D g B tA tB K V b L xs) hI 83) := rfl
theorem wq_84 : (wWd g T6 T7)[67]? = some (adr T6 T7 84, cel (mkG T6 T7 D g B tA tB K V b L xs) hI 84) := rfl
theorem wq_85 : (wWd g T6 T7)[66]? = some (adr T6 T7 85, cel (mkG T6 T7 D g B tA tB K V b L xs) hI 85) := rfl
theorem wq_86 : (wWd g T6 T7)[65]? = some (adr T6 T7 86, cel (mkG T6 T7 D g B tA tB K V b L xs) hI 86) := rfl
theorem wq_87 : (wWd g T6 T7)[64]? = some (adr T6 T7 87, cel (mkG T6 T7 D g B tA tB K V b L xs) hI 87) := rfl
theorem wq_88 : (wWd g T6 T7)[63]? = some (adr T6 T7 88, cel (mkG T6 T7 D g B tA tB K V b L xs) hI 88) := rfl
theorem wq_89 : (wWd g T6 T7)[62]? = some (adr T6 T7 89, cel (mkG T6 T7 D g B tA tB K V b L xs) hI 89) := rfl
theorem wq_90 : (wWd g T6 T7)[53]? = some (adr T6 T7 90, cel (mkG T6 T7 D g B tA tB K V b L xs) hI 90) := rfl
theorem wq_91 : (wWd g T6 T7)[60]? = some (adr T6 T7 91, cel (mkG T6 T7 D g B tA tB K V b L xs) hI 91) := rfl
theorem wq_92 : (wWd g T6 T7)[59]? = some (adr T6 T7 92, cel (mkG T6 T7 D g B tA tB K V b L xs) hI 92) := rfl
theorem wq_93 : (wWd g T6 T7)[58]? = some (adr T6 T7 93, cel (mkG T6 T7 D g B tA tB K V b L xs) hI 93) := rfl
theorem wq_94 : (wWd g T6 T7)[57]? = some (adr T6 T7 94, cel (mkG T6 T7 D g B tA tB K V b L xs) hI 94) := rfl
theorem wq_95 : (wWd g T6 T7)[56]? = some (adr T6 T7 95, cel (mkG T6 T7 D g B tA tB K V b L xs) hI 95) := rfl
theorem wq_96 : (wWd g T6 T7)[55]? = some (adr T6 T7 96, cel (mkG T6 T7 D g B tA tB K V b L xs) hI 96) := rfl
theorem wq_97 : (wWd g T6 T7)[54]? = some (adr T6 T7 97, cel (mkG T6 T7 D g B tA tB K V b L xs) hI 97) := rfl
theorem wq_98 : (wWd g T6 T7)[140]? = some (adr T6 T7 98, cel (mkG T6 T7 D g B tA tB K V b L xs) hI 98) := rfl
theorem wq_99 : (wWd g T6 T7)[147]? = some (adr T6 T7 99, cel (mkG T6 T7 D g B tA tB K V b L xs) hI 99) := rfl
theorem wq_100 : (wWd g T6 T7)[146]? = some (adr T6 T7 100, cel (mkG T6 T7 D g B tA tB K V b L xs) hI 100) := rfl
theorem wq_101 : (wWd g T6 T7)[145]? = some (adr T6 T7 101, cel (mkG T6 T7 D g B tA tB K V b L xs) hI 101) := rfl
theorem wq_102 : (wWd g T6 T7)[144]? = some (adr T6 T7 102, cel (mkG T6 T7 D g B tA tB K V b L xs) hI 102) := rfl
theorem wq_103 : (wWd g T6 T7)[143]? = some (adr T6 T7 103, cel (mkG T6 T7 D g B tA tB K V b L xs) hI 103) := rfl
theorem wq_104 : (wWd g T6 T7)[142]? = some (adr T6 T7 104, cel (mkG T6 T7 D g B tA tB K V b L xs) hI 104) := rfl
theorem wq_105 : (wWd g T6 T7)[141]? = some (adr T6 T7 105, cel (mkG T6 T7 D g B tA tB K V b L xs) hI 105) := rfl
theorem wq_106 : (wWd g T6 T7)[116]? = some (adr T6 T7 106, cel (mkG T6 T7 D g B tA tB K V b L xs) hI 106) := rfl
theorem wq_107 : (wWd g T6 T7)[123]? = some (adr T6 T7 107, cel (mkG T6 T7 D g B tA tB K V b L xs) hI 107) := rfl
theorem wq_108 : (wWd g T6 T7)[122]? = some (adr T6 T7 108, cel (mkG T6 T7 D g B tA tB K V b L xs) hI 108) := rfl
theorem wq_109 : (wWd g T6 T7)[121]? = some (adr T6 T7 109, cel (mkG T6 T7 D g B tA tB K V b L xs) hI 109) := rfl
theorem wq_110 : (wWd g T6 T7)[120]? = some (adr T6 T7 110, cel (mkG T6 T7 D g B tA tB K V b L xs) hI 110) := rfl
theorem wq_111 : (wWd g T6 T7)[119]? = some (adr T6 T7 111, cel (mkG T6 T7 D g B tA tB K V b L xs) hI 111) := rfl
theorem wq_112 : (wWd g T6 T7)[118]? = some (adr T6 T7 112, cel (mkG T6 T7 D g B tA tB K V b L xs) hI 112) := rfl
theorem wq_113 : (wWd g T6 T7)[117]? = some (adr T6 T7 113, cel (mkG T6 T7 D g B tA tB K V b L xs) hI 113) := rfl
theorem wq_114 : (wWd g T6 T7)[106]? = some (adr T6 T7 114, cel (mkG T6 T7 D g B tA tB K V b L xs) hI 114) := rfl
theorem wq_115 : (wWd g T6 T7)[113]? = some (adr T6 T7 115, cel (mkG T6 T7 D g B tA tB K V b L xs) hI 115) := rfl
theorem wq_116 : (wWd g T6 T7)[112]? = some (adr T6 T7 116, cel (mkG T6 T7 D g B tA tB K V b L xs) hI 116) := rfl
theorem wq_117 : (wWd g T6 T7)[111]? = some (adr T6 T7 117, cel (mkG T6 T7 D g B tA tB K V b L xs) hI 117) := rfl
theorem wq_118 : (wWd g T6 T7)[110]? = some (adr T6 T7 118, cel (mkG T6 T7 D g B tA tB K V b L xs) hI 118) := rfl
theorem wq_119 : (wWd g T6 T7)[109]? = some (adr T6 T7 119, cel (mkG T6 T7 D g B tA tB K V b L xs) hI 119) := rfl
theorem wq_120 : (wWd g T6 T7)[108]? = some (adr T6 T7 120, cel (mkG T6 T7 D g B tA tB K V b L xs) hI 120) := rfl
theorem wq_121 : (wWd g T6 T7)[107]? = some (adr T6 T7 121, cel (mkG T6 T7 D g B tA tB K V b L xs) hI 121) := rfl
theorem wq_122 : (wWd g T6 T7)[51]? = some (adr T6 T7 122, cel (mkG T6 T7 D g B tA tB K V b L xs) hI 122) := rfl
theorem wq_123 : (wWd g T6 T7)[52]? = some (adr T6 T7 123, cel (mkG T6 T7 D g B tA tB K V b L xs) hI 123) := rfl
theorem wq_124 : (wWd g T6 T7)[49]? = some (adr T6 T7 124, cel (mkG T6 T7 D g B tA tB K V b L xs) hI 124) := rfl
theorem wq_125 : (wWd g T6 T7)[50]? = some (adr T6 T7 125, cel (mkG T6 T7 D g B tA tB K V b L xs) hI 125) := rfl
theorem wq_126 : (wWd g T6 T7)[47]? = some (adr T6 T7 126, cel (mkG T6 T7 D g B tA tB K V b L xs) hI 126) := rfl
theorem wq_127 : (wWd g T6 T7)[48]? = some (adr T6 T7 127, cel (mkG T6 T7 D g B tA tB K V b L xs) hI 127) := rfl
theorem wq_128 : (wWd g T6 T7)[45]? = some (adr T6 T7 128, cel (mkG T6 T7 D g B tA tB K V b L xs) hI 128) := rfl
theorem wq_129 : (wWd g T6 T7)[46]? = some (adr T6 T7 129, cel (mkG T6 T7 D g B tA tB K V b L xs) hI 129) := rfl
theorem wq_130 : (wWd g T6 T7)[43]? = some (adr T6 T7 130, cel (mkG T6 T7 D g B tA tB K V b L xs) hI 130) := rfl
theorem wq_131 : (wWd g T6 T7)[44]? = some (adr T6 T7 131, cel (mkG T6 T7 D g B tA tB K V b L xs) hI 131) := rfl
theorem wq_132 : (wWd g T6 T7)[41]? = some (adr T6 T7 132, cel (mkG T6 T7 D g B tA tB K V b L xs) hI 132) := rfl
theorem wq_133 : (wWd g T6 T7)[42]? = some (adr T6 T7 133, cel (mkG T6 T7 D g B tA tB K V b L xs) hI 133) := rfl
theorem wq_134 : (wWd g T6 T7)[0]? = some (adr T6 T7 134, cel (mkG T6 T7 D g B tA tB K V b L xs) hI 134) := rfl
theorem wq_135 : (wWd g T6 T7)[37]? = some (adr T6 T7 135, cel (mkG T6 T7 D g B tA tB K V b L xs) hI 135) := rfl
theorem wq_136 : (wWd g T6 T7)[36]? = some (adr T6 T7 136, cel (mkG T6 T7 D g B tA tB K V b L xs) hI 136) := rfl
theorem wq_137 : (wWd g T6 T7)[35]? = some (adr T6 T7 137, cel (mkG T6 T7 D g B tA tB K V b L xs) hI 137) := rfl
theorem wq_138 : (wWd g T6 T7)[34]? = some (adr T6 T7 138, cel (mkG T6 T7 D g B tA tB K V b L xs) hI 138) := rfl
theorem wq_139 : (wWd g T6 T7)[33]? = some (adr T6 T7 139, cel (mkG T6 T7 D g B tA tB K V b L xs) hI 139) := rfl
theorem wq_140 : (wWd g T6 T7)[32]? = some (adr T6 T7 140, cel (mkG T6 T7 D g B tA tB K V b L xs) hI 140) := rfl
theorem wq_141 : (wWd g T6 T7)[31]? = some (adr T6 T7 141, cel (mkG T6 T7 D g B tA tB K V b L xs) hI 141) := rfl
theorem wq_142 : (wWd g T6 T7)[30]? = some (adr T6 T7 142, cel (mkG T6 T7 D g B tA tB K V b L xs) hI 142) := rfl
theorem wq_143 : (wWd g T6 T7)[29]? = some (adr T6 T7 143, cel (mkG T6 T7 D g B tA tB K V b L xs) hI 143) := rfl
theorem wq_144 : (wWd g T6 T7)[28]? = some (adr T6 T7 144, cel (mkG T6 T7 D g B tA tB K V b L xs) hI 144) := rfl
theorem wq_145 : (wWd g T6 T7)[27]? = some (adr T6 T7 145, cel (mkG T6 T7 D g B tA tB K V b L xs) hI 145) := rfl
theorem wq_146 : (wWd g T6 T7)[26]? = some (adr T6 T7 146, cel (mkG T6 T7 D g B tA tB K V b L xs) hI 146) := rfl
theorem wq_147 : (wWd g T6 T7)[25]? = some (adr T6 T7 147, cel (mkG T6 T7 D g B tA tB K V b L xs) hI 147) := rfl
theorem wq_148 : (wWd g T6 T7)[24]? = some (adr T6 T7 148, cel (mkG T6 T7 D g B tA tB K V b L xs) hI 148) := rfl
theorem wq_149 : (wWd g T6 T7)[23]? = some (adr T6 T7 149, cel (mkG T6 T7 D g B tA tB K V b L xs) hI 149) := rfl
theorem wq_150 : (wWd g T6 T7)[22]? = some (adr T6 T7 150, cel (mkG T6 T7 D g B tA tB K V b L xs) hI 150) := rfl
theorem wq_151 : (wWd g T6 T7)[21]? = some (adr T6 T7 151, cel (mkG T6 T7 D g B tA tB K V b L xs) hI 151) := rfl
theorem wq_152 : (wWd g T6 T7)[20]? = some (adr T6 T7 152, cel (mkG T6 T7 D g B tA tB K V b L xs) hI 152) := rfl
theorem wq_153 : (wWd g T6 T7)[19]? = some (adr T6 T7 153, cel (mkG T6 T7 D g B tA tB K V b L xs) hI 153) := rfl
theorem wq_154 : (wWd g T6 T7)[18]? = some (adr T6 T7 154, cel (mkG T6 T7 D g B tA tB K V b L xs) hI 154) := rfl
theorem wq_155 : (wWd g T6 T7)[17]? = some (adr T6 T7 155, cel (mkG T6 T7 D g B tA tB K V b L xs) hI 155) := rfl
theorem wq_156 : (wWd g T6 T7)[16]? = some (adr T6 T7 156, cel (mkG T6 T7 D g B tA tB K V b L xs) hI 156) := rfl
theorem wq_157 : (wWd g T6 T7)[15]? = some (adr T6 T7 157, cel (mkG T6 T7 D g B tA tB K V b L xs) hI 157) := rfl
theorem wq_158 : (wWd g T6 T7)[14]? = some (adr T6 T7 158, cel (mkG T6 T7 D g B tA tB K V b L xs) hI 158) := rfl
theorem wq_159 : (wWd g T6 T7)[13]? = some (adr T6 T7 159, cel (mkG T6 T7 D g B tA tB K V b L xs) hI 159) := rfl
theorem wq_160 : (wWd g T6 T7)[12]? = some (adr T6 T7 160, cel (mkG T6 T7 D g B tA tB K V b L xs) hI 160) := rfl
theorem wq_161 : (wWd g T6 T7)[11]? = some (adr T6 T7 161, cel (mkG T6 T7 D g B tA tB K V b L xs) hI 161) := rfl
theorem wq_162 : (wWd g T6 T7)[10]? = some (adr T6 T7 162, cel (mkG T6 T7 D g B tA tB K V b L xs) hI 162) := rfl
theorem wq_163 : (wWd g T6 T7)[9]? = some (adr T6 T7 163, cel (mkG T6 T7 D g B tA tB K V b L xs) hI 163) := rfl
theorem wq_164 : (wWd g T6 T7)[8]? = some (adr T6 T7 164, cel (mkG T6 T7 D g B tA tB K V b L xs) hI 164) := rfl
theorem wq_165 : (wWd g T6 T7)[7]? = some (adr T6 T7 165, cel (mkG T6 T7 D g B tA tB K V b L xs) hI 165) := rfl
theorem wq_166 : (wWd g T6 T7)[6]? = some (adr T6 T7 166, cel (mkG T6 T7 D g B tA tB K V b L xs) hI 166) := rfl
theorem wq_167 : (wWd g T6 T7)[5]? = some (adr T6 T7 167, cel (mkG T6 T7 D g B tA tB K V b L xs) hI 167) := rfl
theorem wq_168 : (wWd g T6 T7)[4]? = some (adr T6 T7 168, cel (mkG T6 T7 D g B tA tB K V b L xs) hI 168) := rfl
theorem wq_169 : (wWd g T6 T7)[3]? = some (adr T6 T7 169, cel (mkG T6 T7 D g B tA tB K V b L xs) hI 169) := rfl
theorem wq_170 : (wWd g T6 T7)[2]? = some (adr T6 T7 170, cel (mkG T6 T7 D g B tA tB K V b L xs) hI 170) := rfl
theorem wq_171 : (wWd g T6 T7)[1]? = some (adr T6 T7 171, cel (mkG T6 T7 D g B tA tB K V b L xs) hI 171) := rfl
end WD
