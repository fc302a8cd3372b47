/-! the static state: the cells are fixed, ints and longs are told as integers -/
def iz (z : Int) : Int32 := Int32.ofInt z
def lz (z : Int) : Int64 := Int64.ofInt z
abbrev zi (z : Int) : Value := .int (iz z)
abbrev zl (z : Int) : Value := .long (lz z)
abbrev IM : Type := Nat → Nat → Int
def HD0 : List pHd := [(0, 11, 0), (0, 4, 0), (1, 0, 120), (1, 0, 121), (1, 0, 121), (1, 0, 40), (0, 8, 0), (1, 0, 5), (1, 0, 5), (1, 0, 5), (1, 0, 2), (1, 0, 500), (1, 3, 5), (3, 6, 2), (0, 5, 0), (1, 0, 8), (1, 0, 40), (0, 5, 0), (1, 0, 8), (1, 0, 40), (3, 6, 2), (0, 5, 0), (1, 0, 8), (1, 0, 40), (0, 5, 0), (1, 0, 8), (1, 0, 40), (0, 9, 0), (0, 6, 0), (1, 0, 50), (1, 0, 60), (1, 0, 5), (0, 3, 0), (0, 10, 0), (1, 0, 5), (0, 6, 0), (1, 0, 50), (1, 0, 60), (1, 0, 2), (3, 5, 2), (1, 0, 1500), (1, 0, 1500), (1, 0, 3), (1, 0, 2), (2, 4, 1500), (2, 4, 1500), (1, 0, 50), (0, 2, 0), (3, 7, 2), (0, 6, 0), (1, 0, 50), (1, 0, 60), (0, 6, 0), (1, 0, 50), (1, 0, 60), (3, 5, 2), (1, 0, 5), (1, 0, 5), (0, 1, 0), (1, 0, 40), (1, 0, 40), (1, 0, 40), (1, 0, 40), (0, 0, 0), (1, 0, 24), (1, 0, 50), (3, 8, 6), (0, 7, 0), (2, 4, 60), (0, 7, 0), (2, 4, 60), (0, 7, 0), (2, 4, 60), (0, 7, 0), (2, 4, 60), (0, 7, 0), (2, 4, 60), (0, 7, 0), (2, 4, 60), (1, 0, 5), (1, 0, 5), (0, 12, 0), (1, 0, 5), (1, 0, 5), (1, 0, 5), (1, 0, 2), (1, 0, 2), (1, 0, 16), (1, 1, 80), (1, 0, 40), (1, 0, 40), (1, 0, 40), (1, 0, 40), (1, 0, 5), (1, 1, 120), (1, 1, 260), (1, 0, 260), (1, 0, 2), (1, 2, 122), (1, 2, 122), (1, 0, 5), (1, 0, 130), (1, 1, 500), (1, 0, 5), (1, 1, 10010), (1, 0, 5), (1, 0, 50), (1, 1, 1500), (1, 1, 1500), (1, 1, 5), (1, 0, 300), (1, 0, 60), (1, 1, 310), (1, 0, 2), (1, 0, 16), (1, 1, 80), (1, 0, 50), (1, 0, 24), (1, 0, 6), (1, 0, 6), (2, 4, 360), (2, 4, 60)]
def RUs : List ((Nat → Nat → Option Nat) → Nat → Nat → Option Nat) := [
  (fun R => upA R 1 (up1 (R 1) 1 (some 2))),
  (fun R => upA R 1 (up1 (R 1) 4 (some 3))),
  (fun R => upA R 1 (up1 (R 1) 6 (some 4))),
  (fun R => upA R 1 (up1 (R 1) 8 (some 5))),
  (fun R => upA R 0 (up1 (R 0) 0 (some 1))),
  (fun R => upA R 6 (up1 (R 6) 1 (some 7))),
  (fun R => upA R 6 (up1 (R 6) 2 (some 8))),
  (fun R => upA R 6 (up1 (R 6) 3 (some 9))),
  (fun R => upA R 6 (up1 (R 6) 4 (some 10))),
  (fun R => upA R 6 (up1 (R 6) 5 (some 11))),
  (fun R => upA R 6 (up1 (R 6) 6 (some 12))),
  (fun R => upA R 6 (up1 (R 6) 7 (some 1))),
  (fun R => upA R 0 (up1 (R 0) 1 (some 6))),
  (fun R => upA R 14 (up1 (R 14) 1 (some 15))),
  (fun R => upA R 14 (up1 (R 14) 2 (some 16))),
  (fun R => upA R 13 (up1 (R 13) 0 (some 14))),
  (fun R => upA R 17 (up1 (R 17) 1 (some 18))),
  (fun R => upA R 17 (up1 (R 17) 2 (some 19))),
  (fun R => upA R 13 (up1 (R 13) 1 (some 17))),
  (fun R => upA R 0 (up1 (R 0) 2 (some 13))),
  (fun R => upA R 21 (up1 (R 21) 1 (some 22))),
  (fun R => upA R 21 (up1 (R 21) 2 (some 23))),
  (fun R => upA R 20 (up1 (R 20) 0 (some 21))),
  (fun R => upA R 24 (up1 (R 24) 1 (some 25))),
  (fun R => upA R 24 (up1 (R 24) 2 (some 26))),
  (fun R => upA R 20 (up1 (R 20) 1 (some 24))),
  (fun R => upA R 0 (up1 (R 0) 3 (some 20))),
  (fun R => upA R 27 (up1 (R 27) 0 (some 6))),
  (fun R => upA R 27 (up1 (R 27) 1 (some 13))),
  (fun R => upA R 28 (up1 (R 28) 0 (some 29))),
  (fun R => upA R 28 (up1 (R 28) 1 (some 30))),
  (fun R => upA R 27 (up1 (R 27) 2 (some 28))),
  (fun R => upA R 27 (up1 (R 27) 3 (some 31))),
  (fun R => upA R 0 (up1 (R 0) 5 (some 27))),
  (fun R => upA R 32 (up1 (R 32) 4 (some 6))),
  (fun R => upA R 33 (up1 (R 33) 0 (some 34))),
  (fun R => upA R 32 (up1 (R 32) 5 (some 33))),
  (fun R => upA R 35 (up1 (R 35) 0 (some 36))),
  (fun R => upA R 35 (up1 (R 35) 1 (some 37))),
  (fun R => upA R 32 (up1 (R 32) 6 (some 35))),
  (fun R => upA R 32 (up1 (R 32) 7 (some 38))),
  (fun R => upA R 39 (fun i => if i < 2 then some (39 + 1 + i) else none)),
  (fun R => upA R 32 (up1 (R 32) 8 (some 39))),
  (fun R => upA R 32 (up1 (R 32) 9 (some 42))),
  (fun R => upA R 32 (up1 (R 32) 3 (some 43))),
  (fun R => upA R 32 (up1 (R 32) 10 (some 44))),
  (fun R => upA R 32 (up1 (R 32) 11 (some 45))),
  (fun R => upA R 32 (up1 (R 32) 12 (some 46))),
  (fun R => upA R 0 (up1 (R 0) 6 (some 32))),
  (fun R => upA R 47 (up1 (R 47) 1 (some 6))),
  (fun R => upA R 47 (up1 (R 47) 2 (some 13))),
  (fun R => upA R 49 (up1 (R 49) 0 (some 50))),
  (fun R => upA R 49 (up1 (R 49) 1 (some 51))),
  (fun R => upA R 48 (up1 (R 48) 0 (some 49))),
  (fun R => upA R 52 (up1 (R 52) 0 (some 53))),
  (fun R => upA R 52 (up1 (R 52) 1 (some 54))),
  (fun R => upA R 48 (up1 (R 48) 1 (some 52))),
  (fun R => upA R 47 (up1 (R 47) 3 (some 48))),
  (fun R => upA R 55 (fun i => if i < 2 then some (55 + 1 + i) else none)),
  (fun R => upA R 47 (up1 (R 47) 0 (some 55))),
  (fun R => upA R 0 (up1 (R 0) 7 (some 47))),
  (fun R => upA R 58 (up1 (R 58) 2 (some 59))),
  (fun R => upA R 58 (up1 (R 58) 3 (some 60))),
  (fun R => upA R 58 (up1 (R 58) 4 (some 61))),
  (fun R => upA R 58 (up1 (R 58) 5 (some 62))),
  (fun R => upA R 0 (up1 (R 0) 8 (some 58))),
  (fun R => upA R 63 (up1 (R 63) 2 (some 64))),
  (fun R => upA R 63 (up1 (R 63) 3 (some 65))),
  (fun R => upA R 0 (up1 (R 0) 9 (some 63))),
  (fun R => upA R 0 (up1 (R 0) 10 (some 66))),
  (fun R => upA R 67 (up1 (R 67) 4 (some 68))),
  (fun R => upA R 66 (up1 (R 66) 0 (some 67))),
  (fun R => upA R 69 (up1 (R 69) 4 (some 70))),
  (fun R => upA R 66 (up1 (R 66) 1 (some 69))),
  (fun R => upA R 71 (up1 (R 71) 4 (some 72))),
  (fun R => upA R 66 (up1 (R 66) 2 (some 71))),
  (fun R => upA R 73 (up1 (R 73) 4 (some 74))),
  (fun R => upA R 66 (up1 (R 66) 3 (some 73))),
  (fun R => upA R 75 (up1 (R 75) 4 (some 76))),
  (fun R => upA R 66 (up1 (R 66) 4 (some 75))),
  (fun R => upA R 77 (up1 (R 77) 4 (some 78))),
  (fun R => upA R 66 (up1 (R 66) 5 (some 77))),
  (fun R => upA R 0 (up1 (R 0) 11 (some 79))),
  (fun R => upA R 0 (up1 (R 0) 12 (some 80))),
  (fun R => upA R 81 (up1 (R 81) 2 (some 82))),
  (fun R => upA R 81 (up1 (R 81) 3 (some 83))),
  (fun R => upA R 81 (up1 (R 81) 4 (some 84))),
  (fun R => upA R 81 (up1 (R 81) 5 (some 85))),
  (fun R => upA R 81 (up1 (R 81) 6 (some 86))),
  (fun R => upA R 81 (up1 (R 81) 7 (some 87))),
  (fun R => upA R 81 (up1 (R 81) 8 (some 88))),
  (fun R => upA R 81 (up1 (R 81) 11 (some 89))),
  (fun R => upA R 81 (up1 (R 81) 12 (some 90))),
  (fun R => upA R 81 (up1 (R 81) 13 (some 91))),
  (fun R => upA R 81 (up1 (R 81) 14 (some 92))),
  (fun R => upA R 81 (up1 (R 81) 15 (some 93))),
  (fun R => upA R 81 (up1 (R 81) 16 (some 94))),
  (fun R => upA R 81 (up1 (R 81) 22 (some 95))),
  (fun R => upA R 81 (up1 (R 81) 23 (some 96))),
  (fun R => upA R 81 (up1 (R 81) 24 (some 97))),
  (fun R => upA R 81 (up1 (R 81) 25 (some 98))),
  (fun R => upA R 81 (up1 (R 81) 26 (some 99))),
  (fun R => upA R 81 (up1 (R 81) 27 (some 100))),
  (fun R => upA R 81 (up1 (R 81) 28 (some 101))),
  (fun R => upA R 81 (up1 (R 81) 30 (some 102))),
  (fun R => upA R 81 (up1 (R 81) 31 (some 103))),
  (fun R => upA R 81 (up1 (R 81) 32 (some 104))),
  (fun R => upA R 81 (up1 (R 81) 34 (some 105))),
  (fun R => upA R 81 (up1 (R 81) 35 (some 106))),
  (fun R => upA R 81 (up1 (R 81) 38 (some 107))),
  (fun R => upA R 81 (up1 (R 81) 39 (some 108))),
  (fun R => upA R 81 (up1 (R 81) 42 (some 109))),
  (fun R => upA R 81 (up1 (R 81) 43 (some 110))),
  (fun R => upA R 81 (up1 (R 81) 44 (some 111))),
  (fun R => upA R 81 (up1 (R 81) 46 (some 112))),
  (fun R => upA R 81 (up1 (R 81) 48 (some 113))),
  (fun R => upA R 81 (up1 (R 81) 49 (some 114))),
  (fun R => upA R 81 (up1 (R 81) 50 (some 115))),
  (fun R => upA R 81 (up1 (R 81) 52 (some 116))),
  (fun R => upA R 81 (up1 (R 81) 54 (some 117))),
  (fun R => upA R 81 (up1 (R 81) 55 (some 118))),
  (fun R => upA R 81 (up1 (R 81) 56 (some 119))),
  (fun R => upA R 81 (up1 (R 81) 57 (some 120))),
  (fun R => upA R 81 (up1 (R 81) 58 (some 121)))]
def RU (n : Nat) : Nat → Nat → Option Nat := (RUs.take n).foldl (fun R f => f R) (fun _ _ => none)
def R0 : Nat → Nat → Option Nat := RU 124
theorem hd_0 : HD0[0]? = some (0, 11, 0) := rfl
theorem hd_1 : HD0[1]? = some (0, 4, 0) := rfl
theorem hd_2 : HD0[2]? = some (1, 0, 120) := rfl
theorem hd_3 : HD0[3]? = some (1, 0, 121) := rfl
theorem hd_4 : HD0[4]? = some (1, 0, 121) := rfl
theorem hd_5 : HD0[5]? = some (1, 0, 40) := rfl
theorem hd_6 : HD0[6]? = some (0, 8, 0) := rfl
theorem hd_7 : HD0[7]? = some (1, 0, 5) := rfl
theorem hd_8 : HD0[8]? = some (1, 0, 5) := rfl
theorem hd_9 : HD0[9]? = some (1, 0, 5) := rfl
theorem hd_10 : HD0[10]? = some (1, 0, 2) := rfl
theorem hd_11 : HD0[11]? = some (1, 0, 500) := rfl
theorem hd_12 : HD0[12]? = some (1, 3, 5) := rfl
theorem hd_13 : HD0[13]? = some (3, 6, 2) := rfl
theorem hd_14 : HD0[14]? = some (0, 5, 0) := rfl
theorem hd_15 : HD0[15]? = some (1, 0, 8) := rfl
theorem hd_16 : HD0[16]? = some (1, 0, 40) := rfl
theorem hd_17 : HD0[17]? = some (0, 5, 0) := rfl
theorem hd_18 : HD0[18]? = some (1, 0, 8) := rfl
theorem hd_19 : HD0[19]? = some (1, 0, 40) := rfl
theorem hd_20 : HD0[20]? = some (3, 6, 2) := rfl
theorem hd_21 : HD0[21]? = some (0, 5, 0) := rfl
theorem hd_22 : HD0[22]? = some (1, 0, 8) := rfl
theorem hd_23 : HD0[23]? = some (1, 0, 40) := rfl
theorem hd_24 : HD0[24]? = some (0, 5, 0) := rfl
theorem hd_25 : HD0[25]? = some (1, 0, 8) := rfl
theorem hd_26 : HD0[26]? = some (1, 0, 40) := rfl
theorem hd_27 : HD0[27]? = some (0, 9, 0) := rfl
theorem hd_28 : HD0[28]? = some (0, 6, 0) := rfl
theorem hd_29 : HD0[29]? = some (1, 0, 50) := rfl
theorem hd_30 : HD0[30]? = some (1, 0, 60) := rfl
theorem hd_31 : HD0[31]? = some (1, 0, 5) := rfl
theorem hd_32 : HD0[32]? = some (0, 3, 0) := rfl
theorem hd_33 : HD0[33]? = some (0, 10, 0) := rfl
theorem hd_34 : HD0[34]? = some (1, 0, 5) := rfl
theorem hd_35 : HD0[35]? = some (0, 6, 0) := rfl
theorem hd_36 : HD0[36]? = some (1, 0, 50) := rfl
theorem hd_37 : HD0[37]? = some (1, 0, 60) := rfl
theorem hd_38 : HD0[38]? = some (1, 0, 2) := rfl
theorem hd_39 : HD0[39]? = some (3, 5, 2) := rfl
theorem hd_40 : HD0[40]? = some (1, 0, 1500) := rfl
theorem hd_41 : HD0[41]? = some (1, 0, 1500) := rfl
theorem hd_42 : HD0[42]? = some (1, 0, 3) := rfl
theorem hd_43 : HD0[43]? = some (1, 0, 2) := rfl
theorem hd_44 : HD0[44]? = some (2, 4, 1500) := rfl
theorem hd_45 : HD0[45]? = some (2, 4, 1500) := rfl
theorem hd_46 : HD0[46]? = some (1, 0, 50) := rfl
theorem hd_47 : HD0[47]? = some (0, 2, 0) := rfl
theorem hd_48 : HD0[48]? = some (3, 7, 2) := rfl
theorem hd_49 : HD0[49]? = some (0, 6, 0) := rfl
theorem hd_50 : HD0[50]? = some (1, 0, 50) := rfl
theorem hd_51 : HD0[51]? = some (1, 0, 60) := rfl
theorem hd_52 : HD0[52]? = some (0, 6, 0) := rfl
theorem hd_53 : HD0[53]? = some (1, 0, 50) := rfl
theorem hd_54 : HD0[54]? = some (1, 0, 60) := rfl
theorem hd_55 : HD0[55]? = some (3, 5, 2) := rfl
theorem hd_56 : HD0[56]? = some (1, 0, 5) := rfl
theorem hd_57 : HD0[57]? = some (1, 0, 5) := rfl
theorem hd_58 : HD0[58]? = some (0, 1, 0) := rfl
theorem hd_59 : HD0[59]? = some (1, 0, 40) := rfl
theorem hd_60 : HD0[60]? = some (1, 0, 40) := rfl
theorem hd_61 : HD0[61]? = some (1, 0, 40) := rfl
theorem hd_62 : HD0[62]? = some (1, 0, 40) := rfl
theorem hd_63 : HD0[63]? = some (0, 0, 0) := rfl
theorem hd_64 : HD0[64]? = some (1, 0, 24) := rfl
theorem hd_65 : HD0[65]? = some (1, 0, 50) := rfl
theorem hd_66 : HD0[66]? = some (3, 8, 6) := rfl
theorem hd_67 : HD0[67]? = some (0, 7, 0) := rfl
theorem hd_68 : HD0[68]? = some (2, 4, 60) := rfl
theorem hd_69 : HD0[69]? = some (0, 7, 0) := rfl
theorem hd_70 : HD0[70]? = some (2, 4, 60) := rfl
theorem hd_71 : HD0[71]? = some (0, 7, 0) := rfl
theorem hd_72 : HD0[72]? = some (2, 4, 60) := rfl
theorem hd_73 : HD0[73]? = some (0, 7, 0) := rfl
theorem hd_74 : HD0[74]? = some (2, 4, 60) := rfl
theorem hd_75 : HD0[75]? = some (0, 7, 0) := rfl
theorem hd_76 : HD0[76]? = some (2, 4, 60) := rfl
theorem hd_77 : HD0[77]? = some (0, 7, 0) := rfl
theorem hd_78 : HD0[78]? = some (2, 4, 60) := rfl
theorem hd_79 : HD0[79]? = some (1, 0, 5) := rfl
theorem hd_80 : HD0[80]? = some (1, 0, 5) := rfl
theorem hd_81 : HD0[81]? = some (0, 12, 0) := rfl
theorem hd_82 : HD0[82]? = some (1, 0, 5) := rfl
theorem hd_83 : HD0[83]? = some (1, 0, 5) := rfl
theorem hd_84 : HD0[84]? = some (1, 0, 5) := rfl
theorem hd_85 : HD0[85]? = some (1, 0, 2) := rfl
theorem hd_86 : HD0[86]? = some (1, 0, 2) := rfl
theorem hd_87 : HD0[87]? = some (1, 0, 16) := rfl
theorem hd_88 : HD0[88]? = some (1, 1, 80) := rfl
theorem hd_89 : HD0[89]? = some (1, 0, 40) := rfl
theorem hd_90 : HD0[90]? = some (1, 0, 40) := rfl
theorem hd_91 : HD0[91]? = some (1, 0, 40) := rfl
theorem hd_92 : HD0[92]? = some (1, 0, 40) := rfl
theorem hd_93 : HD0[93]? = some (1, 0, 5) := rfl
theorem hd_94 : HD0[94]? = some (1, 1, 120) := rfl
theorem hd_95 : HD0[95]? = some (1, 1, 260) := rfl
theorem hd_96 : HD0[96]? = some (1, 0, 260) := rfl
theorem hd_97 : HD0[97]? = some (1, 0, 2) := rfl
theorem hd_98 : HD0[98]? = some (1, 2, 122) := rfl
theorem hd_99 : HD0[99]? = some (1, 2, 122) := rfl
theorem hd_100 : HD0[100]? = some (1, 0, 5) := rfl
theorem hd_101 : HD0[101]? = some (1, 0, 130) := rfl
theorem hd_102 : HD0[102]? = some (1, 1, 500) := rfl
theorem hd_103 : HD0[103]? = some (1, 0, 5) := rfl
theorem hd_104 : HD0[104]? = some (1, 1, 10010) := rfl
theorem hd_105 : HD0[105]? = some (1, 0, 5) := rfl
theorem hd_106 : HD0[106]? = some (1, 0, 50) := rfl
theorem hd_107 : HD0[107]? = some (1, 1, 1500) := rfl
theorem hd_108 : HD0[108]? = some (1, 1, 1500) := rfl
theorem hd_109 : HD0[109]? = some (1, 1, 5) := rfl
theorem hd_110 : HD0[110]? = some (1, 0, 300) := rfl
theorem hd_111 : HD0[111]? = some (1, 0, 60) := rfl
theorem hd_112 : HD0[112]? = some (1, 1, 310) := rfl
theorem hd_113 : HD0[113]? = some (1, 0, 2) := rfl
theorem hd_114 : HD0[114]? = some (1, 0, 16) := rfl
theorem hd_115 : HD0[115]? = some (1, 1, 80) := rfl
theorem hd_116 : HD0[116]? = some (1, 0, 50) := rfl
theorem hd_117 : HD0[117]? = some (1, 0, 24) := rfl
theorem hd_118 : HD0[118]? = some (1, 0, 6) := rfl
theorem hd_119 : HD0[119]? = some (1, 0, 6) := rfl
theorem hd_120 : HD0[120]? = some (2, 4, 360) := rfl
theorem hd_121 : HD0[121]? = some (2, 4, 60) := rfl
theorem rr_0_0 : R0 0 0 = some 1 := by decide +kernel
theorem rr_0_1 : R0 0 1 = some 6 := by decide +kernel
theorem rr_0_2 : R0 0 2 = some 13 := by decide +kernel
theorem rr_0_3 : R0 0 3 = some 20 := by decide +kernel
theorem rr_0_5 : R0 0 5 = some 27 := by decide +kernel
theorem rr_0_6 : R0 0 6 = some 32 := by decide +kernel
theorem rr_0_7 : R0 0 7 = some 47 := by decide +kernel
theorem rr_0_8 : R0 0 8 = some 58 := by decide +kernel
theorem rr_0_9 : R0 0 9 = some 63 := by decide +kernel
theorem rr_0_10 : R0 0 10 = some 66 := by decide +kernel
theorem rr_0_11 : R0 0 11 = some 79 := by decide +kernel
theorem rr_0_12 : R0 0 12 = some 80 := by decide +kernel
theorem rr_1_1 : R0 1 1 = some 2 := by decide +kernel
theorem rr_1_4 : R0 1 4 = some 3 := by decide +kernel
theorem rr_1_6 : R0 1 6 = some 4 := by decide +kernel
theorem rr_1_8 : R0 1 8 = some 5 := by decide +kernel
theorem rr_6_1 : R0 6 1 = some 7 := by decide +kernel
theorem rr_6_2 : R0 6 2 = some 8 := by decide +kernel
theorem rr_6_3 : R0 6 3 = some 9 := by decide +kernel
theorem rr_6_4 : R0 6 4 = some 10 := by decide +kernel
theorem rr_6_5 : R0 6 5 = some 11 := by decide +kernel
theorem rr_6_6 : R0 6 6 = some 12 := by decide +kernel
theorem rr_6_7 : R0 6 7 = some 1 := by decide +kernel
theorem rr_13_0 : R0 13 0 = some 14 := by decide +kernel
theorem rr_13_1 : R0 13 1 = some 17 := by decide +kernel
theorem rr_14_1 : R0 14 1 = some 15 := by decide +kernel
theorem rr_14_2 : R0 14 2 = some 16 := by decide +kernel
theorem rr_17_1 : R0 17 1 = some 18 := by decide +kernel
theorem rr_17_2 : R0 17 2 = some 19 := by decide +kernel
theorem rr_20_0 : R0 20 0 = some 21 := by decide +kernel
theorem rr_20_1 : R0 20 1 = some 24 := by decide +kernel
theorem rr_21_1 : R0 21 1 = some 22 := by decide +kernel
theorem rr_21_2 : R0 21 2 = some 23 := by decide +kernel
theorem rr_24_1 : R0 24 1 = some 25 := by decide +kernel
theorem rr_24_2 : R0 24 2 = some 26 := by decide +kernel
theorem rr_27_0 : R0 27 0 = some 6 := by decide +kernel
theorem rr_27_1 : R0 27 1 = some 13 := by decide +kernel
theorem rr_27_2 : R0 27 2 = some 28 := by decide +kernel
theorem rr_27_3 : R0 27 3 = some 31 := by decide +kernel
theorem rr_28_0 : R0 28 0 = some 29 := by decide +kernel
theorem rr_28_1 : R0 28 1 = some 30 := by decide +kernel
theorem rr_32_3 : R0 32 3 = some 43 := by decide +kernel
theorem rr_32_4 : R0 32 4 = some 6 := by decide +kernel
theorem rr_32_5 : R0 32 5 = some 33 := by decide +kernel
theorem rr_32_6 : R0 32 6 = some 35 := by decide +kernel
theorem rr_32_7 : R0 32 7 = some 38 := by decide +kernel
theorem rr_32_8 : R0 32 8 = some 39 := by decide +kernel
theorem rr_32_9 : R0 32 9 = some 42 := by decide +kernel
theorem rr_32_10 : R0 32 10 = some 44 := by decide +kernel
theorem rr_32_11 : R0 32 11 = some 45 := by decide +kernel
theorem rr_32_12 : R0 32 12 = some 46 := by decide +kernel
theorem rr_33_0 : R0 33 0 = some 34 := by decide +kernel
theorem rr_35_0 : R0 35 0 = some 36 := by decide +kernel
theorem rr_35_1 : R0 35 1 = some 37 := by decide +kernel
theorem rr_39_0 : R0 39 0 = some 40 := by decide +kernel
theorem rr_39_1 : R0 39 1 = some 41 := by decide +kernel
theorem rr_47_0 : R0 47 0 = some 55 := by decide +kernel
theorem rr_47_1 : R0 47 1 = some 6 := by decide +kernel
theorem rr_47_2 : R0 47 2 = some 13 := by decide +kernel
theorem rr_47_3 : R0 47 3 = some 48 := by decide +kernel
theorem rr_48_0 : R0 48 0 = some 49 := by decide +kernel
theorem rr_48_1 : R0 48 1 = some 52 := by decide +kernel
theorem rr_49_0 : R0 49 0 = some 50 := by decide +kernel
theorem rr_49_1 : R0 49 1 = some 51 := by decide +kernel
theorem rr_52_0 : R0 52 0 = some 53 := by decide +kernel
theorem rr_52_1 : R0 52 1 = some 54 := by decide +kernel
theorem rr_55_0 : R0 55 0 = some 56 := by decide +kernel
theorem rr_55_1 : R0 55 1 = some 57 := by decide +kernel
theorem rr_58_2 : R0 58 2 = some 59 := by decide +kernel
theorem rr_58_3 : R0 58 3 = some 60 := by decide +kernel
theorem rr_58_4 : R0 58 4 = some 61 := by decide +kernel
theorem rr_58_5 : R0 58 5 = some 62 := by decide +kernel
theorem rr_63_2 : R0 63 2 = some 64 := by decide +kernel
theorem rr_63_3 : R0 63 3 = some 65 := by decide +kernel
theorem rr_66_0 : R0 66 0 = some 67 := by decide +kernel
theorem rr_66_1 : R0 66 1 = some 69 := by decide +kernel
theorem rr_66_2 : R0 66 2 = some 71 := by decide +kernel
theorem rr_66_3 : R0 66 3 = some 73 := by decide +kernel
theorem rr_66_4 : R0 66 4 = some 75 := by decide +kernel
theorem rr_66_5 : R0 66 5 = some 77 := by decide +kernel
theorem rr_67_4 : R0 67 4 = some 68 := by decide +kernel
theorem rr_69_4 : R0 69 4 = some 70 := by decide +kernel
theorem rr_71_4 : R0 71 4 = some 72 := by decide +kernel
theorem rr_73_4 : R0 73 4 = some 74 := by decide +kernel
theorem rr_75_4 : R0 75 4 = some 76 := by decide +kernel
theorem rr_77_4 : R0 77 4 = some 78 := by decide +kernel
theorem rr_81_2 : R0 81 2 = some 82 := by decide +kernel
theorem rr_81_3 : R0 81 3 = some 83 := by decide +kernel
theorem rr_81_4 : R0 81 4 = some 84 := by decide +kernel
theorem rr_81_5 : R0 81 5 = some 85 := by decide +kernel
theorem rr_81_6 : R0 81 6 = some 86 := by decide +kernel
theorem rr_81_7 : R0 81 7 = some 87 := by decide +kernel
theorem rr_81_8 : R0 81 8 = some 88 := by decide +kernel
theorem rr_81_11 : R0 81 11 = some 89 := by decide +kernel
theorem rr_81_12 : R0 81 12 = some 90 := by decide +kernel
theorem rr_81_13 : R0 81 13 = some 91 := by decide +kernel
theorem rr_81_14 : R0 81 14 = some 92 := by decide +kernel
theorem rr_81_15 : R0 81 15 = some 93 := by decide +kernel
theorem rr_81_16 : R0 81 16 = some 94 := by decide +kernel
theorem rr_81_22 : R0 81 22 = some 95 := by decide +kernel
theorem rr_81_23 : R0 81 23 = some 96 := by decide +kernel
theorem rr_81_24 : R0 81 24 = some 97 := by decide +kernel
theorem rr_81_25 : R0 81 25 = some 98 := by decide +kernel
theorem rr_81_26 : R0 81 26 = some 99 := by decide +kernel
theorem rr_81_27 : R0 81 27 = some 100 := by decide +kernel
theorem rr_81_28 : R0 81 28 = some 101 := by decide +kernel
theorem rr_81_30 : R0 81 30 = some 102 := by decide +kernel
theorem rr_81_31 : R0 81 31 = some 103 := by decide +kernel
theorem rr_81_32 : R0 81 32 = some 104 := by decide +kernel
theorem rr_81_34 : R0 81 34 = some 105 := by decide +kernel
theorem rr_81_35 : R0 81 35 = some 106 := by decide +kernel
theorem rr_81_38 : R0 81 38 = some 107 := by decide +kernel
theorem rr_81_39 : R0 81 39 = some 108 := by decide +kernel
theorem rr_81_42 : R0 81 42 = some 109 := by decide +kernel
theorem rr_81_43 : R0 81 43 = some 110 := by decide +kernel
theorem rr_81_44 : R0 81 44 = some 111 := by decide +kernel
theorem rr_81_46 : R0 81 46 = some 112 := by decide +kernel
theorem rr_81_48 : R0 81 48 = some 113 := by decide +kernel
theorem rr_81_49 : R0 81 49 = some 114 := by decide +kernel
theorem rr_81_50 : R0 81 50 = some 115 := by decide +kernel
theorem rr_81_52 : R0 81 52 = some 116 := by decide +kernel
theorem rr_81_54 : R0 81 54 = some 117 := by decide +kernel
theorem rr_81_55 : R0 81 55 = some 118 := by decide +kernel
theorem rr_81_56 : R0 81 56 = some 119 := by decide +kernel
theorem rr_81_57 : R0 81 57 = some 120 := by decide +kernel
theorem rr_81_58 : R0 81 58 = some 121 := by decide +kernel
def St (X : pX) (I J : IM) : pM := (HD0, fun a k => iz (I a k), fun a k => lz (J a k), R0, X)
def Rz (X : pX) (h : Nat) (mi : MI) (pc : Nat) (ls : List (Option Value)) (st : List Value) (I J : IM) (P : Option Value → IM → IM → Prop) : Prop := Rn h mi pc ls st (St X I J) (fun r M' => ∃ A B, M' = St X A B ∧ P r A B)
def Kz (X : pX) (h : Nat) (mi : MI) (vs : List Value) (I J : IM) (P : Option Value → IM → IM → Prop) : Prop := Rz X h mi 0 (entL vs mi.2.2.1) [] I J P
def KIq (X : pX) (h : Nat) (mi : MI) (vs : List Value) (I J : IM) (Q : Int → IM → IM → Prop) : Prop := Kz X h mi vs I J (fun r A B => ∃ z, r = some (zi z) ∧ Q z A B)
def KLq (X : pX) (h : Nat) (mi : MI) (vs : List Value) (I J : IM) (Q : Int → IM → IM → Prop) : Prop := Kz X h mi vs I J (fun r A B => ∃ z, r = some (zl z) ∧ Q z A B)
def KVq (X : pX) (h : Nat) (mi : MI) (vs : List Value) (I J : IM) (Q : IM → IM → Prop) : Prop := Kz X h mi vs I J (fun r A B => r = none ∧ Q A B)
def KI (X : pX) (h : Nat) (mi : MI) (vs : List Value) (I J : IM) (z : Int) (A B : IM) : Prop := KIq X h mi vs I J (fun z' A' B' => z' = z ∧ A' = A ∧ B' = B)
def KL (X : pX) (h : Nat) (mi : MI) (vs : List Value) (I J : IM) (z : Int) (A B : IM) : Prop := KLq X h mi vs I J (fun z' A' B' => z' = z ∧ A' = A ∧ B' = B)
def KV (X : pX) (h : Nat) (mi : MI) (vs : List Value) (I J : IM) (A B : IM) : Prop := KVq X h mi vs I J (fun A' B' => A' = A ∧ B' = B)
theorem Rz.mono {X : pX} {h : Nat} {mi : MI} {pc : Nat} {ls : List (Option Value)} {st : List Value} {I J : IM} {P P' : Option Value → IM → IM → Prop} (k : Rz X h mi pc ls st I J P) (hP : ∀ r A B, P r A B → P' r A B) : Rz X h mi pc ls st I J P' :=
  Rn.mono k (fun r M' ⟨A, B, e, p⟩ => ⟨A, B, e, hP r A B p⟩)
theorem KIq.mono {X : pX} {h : Nat} {mi : MI} {vs : List Value} {I J : IM} {Q Q' : Int → IM → IM → Prop} (k : KIq X h mi vs I J Q) (hQ : ∀ z A B, Q z A B → Q' z A B) : KIq X h mi vs I J Q' :=
  Rz.mono k (fun r A B ⟨z, e, q⟩ => ⟨z, e, hQ z A B q⟩)
theorem KLq.mono {X : pX} {h : Nat} {mi : MI} {vs : List Value} {I J : IM} {Q Q' : Int → IM → IM → Prop} (k : KLq X h mi vs I J Q) (hQ : ∀ z A B, Q z A B → Q' z A B) : KLq X h mi vs I J Q' :=
  Rz.mono k (fun r A B ⟨z, e, q⟩ => ⟨z, e, hQ z A B q⟩)
theorem KVq.mono {X : pX} {h : Nat} {mi : MI} {vs : List Value} {I J : IM} {Q Q' : IM → IM → Prop} (k : KVq X h mi vs I J Q) (hQ : ∀ A B, Q A B → Q' A B) : KVq X h mi vs I J Q' :=
  Rz.mono k (fun r A B ⟨e, q⟩ => ⟨e, hQ A B q⟩)
theorem iz_add (a b : Int) : iz a + iz b = iz (a + b) := (Int32.ofInt_add a b).symm
theorem iz_sub (a b : Int) : iz a - iz b = iz (a - b) := (Int32.ofInt_sub a b).symm
theorem iz_mul (a b : Int) : iz a * iz b = iz (a * b) := (Int32.ofInt_mul a b).symm
theorem iz_neg (a : Int) : -iz a = iz (-a) := (Int32.ofInt_neg a).symm
theorem lz_add (a b : Int) : lz a + lz b = lz (a + b) := (Int64.ofInt_add a b).symm
theorem lz_sub (a b : Int) : lz a - lz b = lz (a - b) := (Int64.ofInt_sub a b).symm
theorem lz_mul (a b : Int) : lz a * lz b = lz (a * b) := (Int64.ofInt_mul a b).symm
theorem lz_neg (a : Int) : -lz a = lz (-a) := (Int64.ofInt_neg a).symm
abbrev rg (z : Int) : Prop := -2147483648 ≤ z ∧ z ≤ 2147483647
abbrev rl (z : Int) : Prop := -9223372036854775808 ≤ z ∧ z ≤ 9223372036854775807
theorem iz_toInt {z : Int} (h : rg z) : (iz z).toInt = z := Int32.toInt_ofInt_of_le (by omega) (by omega)
theorem lz_toInt {z : Int} (h : rl z) : (lz z).toInt = z := Int64.toInt_ofInt_of_le (by omega) (by omega)
theorem iz_of (x : Int32) : iz x.toInt = x := Int32.ofInt_toInt x
theorem lz_of (x : Int64) : lz x.toInt = x := Int64.ofInt_toInt x
theorem iz_inj {a b : Int} (ha : rg a) (hb : rg b) : iz a = iz b ↔ a = b := by
  rw [← Int32.toInt_inj, iz_toInt ha, iz_toInt hb]
theorem lz_inj {a b : Int} (ha : rl a) (hb : rl b) : lz a = lz b ↔ a = b := by
  rw [← Int64.toInt_inj, lz_toInt ha, lz_toInt hb]
theorem iz0 : iz 0 = 0 := rfl
theorem lz0 : lz 0 = 0 := rfl
theorem iz_rg (x : Int32) : rg x.toInt := by
  have h1 := Int32.minValue_le_toInt x
  have h2 := Int32.toInt_le x
  constructor
  · simpa using h1
  · have : (Int32.maxValue).toInt = 2147483647 := by decide
    omega
theorem iz_div {a b : Int} (ha : 0 ≤ a ∧ a ≤ 2147483647) (hb : 0 < b ∧ b ≤ 2147483647) : iz a / iz b = iz (a / b) := by
  have e : a.tdiv b = a / b := Int.tdiv_eq_ediv_of_nonneg ha.1
  have m1 : Int32.minValue.toInt = -2147483648 := by decide
  have m2 : Int32.maxValue.toInt = 2147483647 := by decide
  have h := Int32.ofInt_tdiv (a := a) (b := b) (by omega) (by omega) (by omega) (by omega)
  unfold iz
  rw [← h, e]
theorem lz_div {a b : Int} (ha : rl a) (hb : 0 < b ∧ b ≤ 9223372036854775807) : lz a / lz b = lz (a.tdiv b) := by
  have m1 : Int64.minValue.toInt = -9223372036854775808 := by decide
  have m2 : Int64.maxValue.toInt = 9223372036854775807 := by decide
  have h := Int64.ofInt_tdiv (a := a) (b := b) (by omega) (by omega) (by omega) (by omega)
  unfold lz
  rw [← h]
theorem iz8 (z : Int) : (iz z).toInt8.toInt32 = iz (z.bmod 256) := by
  unfold iz
  rw [Int32.toInt8_ofInt, ← Int32.toInt_inj, Int8.toInt_toInt32, Int8.toInt_ofInt, Int32.toInt_ofInt_of_le]
  · have := Int.le_bmod (x := z) (m := 256) (by omega); omega
  · have := Int.bmod_lt (x := z) (m := 256) (by omega); omega
theorem iz16 (z : Int) : (iz z).toInt16.toInt32 = iz (z.bmod 65536) := by
  unfold iz
  rw [Int32.toInt16_ofInt, ← Int32.toInt_inj, Int16.toInt_toInt32, Int16.toInt_ofInt, Int32.toInt_ofInt_of_le]
  · have := Int.le_bmod (x := z) (m := 65536) (by omega); omega
  · have := Int.bmod_lt (x := z) (m := 65536) (by omega); omega
theorem bm8 {z : Int} (h : -128 ≤ z ∧ z ≤ 127) : z.bmod 256 = z := Int.bmod_eq_of_le (by omega) (by omega)
theorem bm16 {z : Int} (h : -32768 ≤ z ∧ z ≤ 32767) : z.bmod 65536 = z := Int.bmod_eq_of_le (by omega) (by omega)
theorem iz_l {z : Int} (h : rg z) : (iz z).toInt64 = lz z := by
  rw [← Int64.toInt_inj, Int32.toInt_toInt64, iz_toInt h, lz_toInt (by omega)]
theorem lz_i (z : Int) : (lz z).toInt32 = iz z := by
  unfold lz iz; exact Int64.toInt32_ofInt
theorem st_upI {I : IM} {a : Nat} {g : Nat → Int} : upA (fun b j => iz (I b j)) a (fun j => iz (g j)) = fun b j => iz (upA I a g b j) := by
  funext b j
  by_cases h : b = a <;> simp [upA, h]
theorem st_upJ {J : IM} {a : Nat} {g : Nat → Int} : upA (fun b j => lz (J b j)) a (fun j => lz (g j)) = fun b j => lz (upA J a g b j) := by
  funext b j
  by_cases h : b = a <;> simp [upA, h]
theorem st_up1 {f : Nat → Int} {k : Nat} {z : Int} : up1 (fun j => iz (f j)) k (iz z) = fun j => iz (up1 f k z j) := by
  funext j
  by_cases h : j = k <;> simp [up1, h]
theorem st_up1l {f : Nat → Int} {k : Nat} {z : Int} : up1 (fun j => lz (f j)) k (lz z) = fun j => lz (up1 f k z j) := by
  funext j
  by_cases h : j = k <;> simp [up1, h]
theorem st_cpy {f g : Nat → Int} {a b n : Nat} : va_cpy (fun j => iz (f j)) (fun j => iz (g j)) a b n = fun j => iz (va_cpy f g a b n j) := by
  funext j
  unfold va_cpy
  split <;> rfl
theorem st_cpyl {f g : Nat → Int} {a b n : Nat} : va_cpy (fun j => lz (f j)) (fun j => lz (g j)) a b n = fun j => lz (va_cpy f g a b n j) := by
  funext j
  unfold va_cpy
  split <;> rfl
section RZ
variable {X : pX} {h : Nat} {mi : MI} {pc : Nat} {ls ls' : List (Option Value)} {st : List Value} {I J : IM} {P : Option Value → IM → IM → Prop} {a k n zz : Nat} {x y z i : Int}
theorem rz_iconst (hd : decode mi.2.1 pc = .ok (.iconst x, 1)) (k : Rz X h mi (pc + 1) ls (zi x :: st) I J P) : Rz X h mi pc ls st I J P := rn_iconst hd rfl k
theorem rz_bipush (hd : decode mi.2.1 pc = .ok (.bipush x, 2)) (hx : -128 ≤ x ∧ x ≤ 127) (k : Rz X h mi (pc + 2) ls (zi x :: st) I J P) : Rz X h mi pc ls st I J P := rn_bipush (v := iz x) hd (by rw [← Int32.toInt_inj, Int8.toInt_toInt32, Int8.toInt_ofInt, iz_toInt (by omega)]; exact bm8 hx) k
theorem rz_sipush (hd : decode mi.2.1 pc = .ok (.sipush x, 3)) (hx : -32768 ≤ x ∧ x ≤ 32767) (k : Rz X h mi (pc + 3) ls (zi x :: st) I J P) : Rz X h mi pc ls st I J P := rn_sipush (v := iz x) hd (by rw [← Int32.toInt_inj, Int16.toInt_toInt32, Int16.toInt_ofInt, iz_toInt (by omega)]; exact bm16 hx) k
theorem rz_lconst {j : Fin 2} (hd : decode mi.2.1 pc = .ok (.lconst j, 1)) (hx : ((j : Nat) : Int) = x) (k : Rz X h mi (pc + 1) ls (zl x :: st) I J P) : Rz X h mi pc ls st I J P := rn_lconst (v := lz x) hd (by subst hx; exact (Int64.ofInt_eq_ofNat).symm) k
theorem rz_ldc {j : Nat} {v : Int32} (hd : decode mi.2.1 pc = .ok (.ldc j, 2)) (hw : Cond.constant mi.1.cls j v ∈ gT) (hv : v = iz x) (k : Rz X h mi (pc + 2) ls (zi x :: st) I J P) : Rz X h mi pc ls st I J P := rn_ldc (v := iz x) hd (by rw [← hv]; exact hw) k
theorem rz_ldcw {j : Nat} {v : Int32} (hd : decode mi.2.1 pc = .ok (.ldc_w j, 3)) (hw : Cond.constant mi.1.cls j v ∈ gT) (hv : v = iz x) (k : Rz X h mi (pc + 3) ls (zi x :: st) I J P) : Rz X h mi pc ls st I J P := rn_ldcw (v := iz x) hd (by rw [← hv]; exact hw) k
theorem rz_ldc2 {j : Nat} {v : Int64} (hd : decode mi.2.1 pc = .ok (.ldc2_w j, 3)) (hw : Cond.constantLong mi.1.cls j v ∈ gT) (hv : v = lz x) (k : Rz X h mi (pc + 3) ls (zl x :: st) I J P) : Rz X h mi pc ls st I J P := rn_ldc2 (v := lz x) hd (by rw [← hv]; exact hw) k
theorem rz_iload_n {j : Fin 4} (hd : decode mi.2.1 pc = .ok (.iload_n j, 1)) (hl : ls[(j : Nat)]? = some (some (zi x))) (k : Rz X h mi (pc + 1) ls (zi x :: st) I J P) : Rz X h mi pc ls st I J P := rn_iload_n hd hl k
theorem rz_iload {j : Nat} (hd : decode mi.2.1 pc = .ok (.iload j, 2)) (hl : ls[j]? = some (some (zi x))) (k : Rz X h mi (pc + 2) ls (zi x :: st) I J P) : Rz X h mi pc ls st I J P := rn_iload hd hl k
theorem rz_lload_n {j : Fin 4} (hd : decode mi.2.1 pc = .ok (.lload_n j, 1)) (hl : ls[(j : Nat)]? = some (some (zl x))) (k : Rz X h mi (pc + 1) ls (zl x :: st) I J P) : Rz X h mi pc ls st I J P := rn_lload_n hd hl k
theorem rz_lload {j : Nat} (hd : decode mi.2.1 pc = .ok (.lload j, 2)) (hl : ls[j]? = some (some (zl x))) (k : Rz X h mi (pc + 2) ls (zl x :: st) I J P) : Rz X h mi pc ls st I J P := rn_lload hd hl k
theorem rz_aload_n {j : Fin 4} (hd : decode mi.2.1 pc = .ok (.aload_n j, 1)) (hl : ls[(j : Nat)]? = some (some (Value.ref a))) (k : Rz X h mi (pc + 1) ls (.ref a :: st) I J P) : Rz X h mi pc ls st I J P := rn_aload_n hd hl k
theorem rz_aload {j : Nat} (hd : decode mi.2.1 pc = .ok (.aload j, 2)) (hl : ls[j]? = some (some (Value.ref a))) (k : Rz X h mi (pc + 2) ls (.ref a :: st) I J P) : Rz X h mi pc ls st I J P := rn_aload hd hl k
theorem rz_istore_n {j : Fin 4} (hd : decode mi.2.1 pc = .ok (.istore_n j, 1)) (hn : (j : Nat) < mi.2.2.1) (hl : stL ls (j : Nat) (zi x) = ls') (k : Rz X h mi (pc + 1) ls' st I J P) : Rz X h mi pc ls (zi x :: st) I J P := rn_istore_n hd hn hl k
theorem rz_istore {j : Nat} (hd : decode mi.2.1 pc = .ok (.istore j, 2)) (hn : j < mi.2.2.1) (hl : stL ls j (zi x) = ls') (k : Rz X h mi (pc + 2) ls' st I J P) : Rz X h mi pc ls (zi x :: st) I J P := rn_istore hd hn hl k
theorem rz_lstore_n {j : Fin 4} (hd : decode mi.2.1 pc = .ok (.lstore_n j, 1)) (hn : (j : Nat) + 1 < mi.2.2.1) (hl : stL ls (j : Nat) (zl x) = ls') (k : Rz X h mi (pc + 1) ls' st I J P) : Rz X h mi pc ls (zl x :: st) I J P := rn_lstore_n hd hn hl k
theorem rz_lstore {j : Nat} (hd : decode mi.2.1 pc = .ok (.lstore j, 2)) (hn : j + 1 < mi.2.2.1) (hl : stL ls j (zl x) = ls') (k : Rz X h mi (pc + 2) ls' st I J P) : Rz X h mi pc ls (zl x :: st) I J P := rn_lstore hd hn hl k
theorem rz_astore_n {j : Fin 4} (hd : decode mi.2.1 pc = .ok (.astore_n j, 1)) (hn : (j : Nat) < mi.2.2.1) (hl : stL ls (j : Nat) (.ref a) = ls') (k : Rz X h mi (pc + 1) ls' st I J P) : Rz X h mi pc ls (.ref a :: st) I J P := rn_astore_n hd hn hl k
theorem rz_astore {j : Nat} (hd : decode mi.2.1 pc = .ok (.astore j, 2)) (hn : j < mi.2.2.1) (hl : stL ls j (.ref a) = ls') (k : Rz X h mi (pc + 2) ls' st I J P) : Rz X h mi pc ls (.ref a :: st) I J P := rn_astore hd hn hl k
theorem rz_iinc {j : Nat} (hd : decode mi.2.1 pc = .ok (.iinc j y, 3)) (hn : j < mi.2.2.1) (hx : ls[j]? = some (some (zi x))) (hz : x + y = z) (hl : stL ls j (zi z) = ls') (k : Rz X h mi (pc + 3) ls' st I J P) : Rz X h mi pc ls st I J P := rn_iinc hd hn hx (v := iz z) (by rw [← hz]; exact iz_add x y) hl k
theorem rz_iadd (hd : decode mi.2.1 pc = .ok (.iadd, 1)) (k : Rz X h mi (pc + 1) ls (zi (x + y) :: st) I J P) : Rz X h mi pc ls (zi y :: zi x :: st) I J P := rn_iadd hd (by rw [iz_add]; exact k)
theorem rz_ladd (hd : decode mi.2.1 pc = .ok (.ladd, 1)) (k : Rz X h mi (pc + 1) ls (zl (x + y) :: st) I J P) : Rz X h mi pc ls (zl y :: zl x :: st) I J P := rn_ladd hd (by rw [lz_add]; exact k)
theorem rz_isub (hd : decode mi.2.1 pc = .ok (.isub, 1)) (k : Rz X h mi (pc + 1) ls (zi (x - y) :: st) I J P) : Rz X h mi pc ls (zi y :: zi x :: st) I J P := rn_isub hd (by rw [iz_sub]; exact k)
theorem rz_imul (hd : decode mi.2.1 pc = .ok (.imul, 1)) (k : Rz X h mi (pc + 1) ls (zi (x * y) :: st) I J P) : Rz X h mi pc ls (zi y :: zi x :: st) I J P := rn_imul hd (by rw [iz_mul]; exact k)
theorem rz_lmul (hd : decode mi.2.1 pc = .ok (.lmul, 1)) (k : Rz X h mi (pc + 1) ls (zl (x * y) :: st) I J P) : Rz X h mi pc ls (zl y :: zl x :: st) I J P := rn_lmul hd (by rw [lz_mul]; exact k)
theorem rz_ineg (hd : decode mi.2.1 pc = .ok (.ineg, 1)) (k : Rz X h mi (pc + 1) ls (zi (-x) :: st) I J P) : Rz X h mi pc ls (zi x :: st) I J P := rn_ineg hd (by rw [iz_neg]; exact k)
theorem rz_lneg (hd : decode mi.2.1 pc = .ok (.lneg, 1)) (k : Rz X h mi (pc + 1) ls (zl (-x) :: st) I J P) : Rz X h mi pc ls (zl x :: st) I J P := rn_lneg hd (by rw [lz_neg]; exact k)
theorem rz_idiv (hd : decode mi.2.1 pc = .ok (.idiv, 1)) (hx : 0 ≤ x ∧ x ≤ 2147483647) (hy : 0 < y ∧ y ≤ 2147483647) (k : Rz X h mi (pc + 1) ls (zi (x / y) :: st) I J P) : Rz X h mi pc ls (zi y :: zi x :: st) I J P := rn_idiv hd (fun q => by rw [← iz0] at q; have := (iz_inj (by omega) (by omega)).mp q; omega) (by rw [iz_div hx hy]; exact k)
theorem rz_irem (hd : decode mi.2.1 pc = .ok (.irem, 1)) (hx : 0 ≤ x ∧ x ≤ 2147483647) (hy : 0 < y ∧ y ≤ 2147483647) (k : Rz X h mi (pc + 1) ls (zi (x % y) :: st) I J P) : Rz X h mi pc ls (zi y :: zi x :: st) I J P := rn_irem hd (fun q => by rw [← iz0] at q; have := (iz_inj (by omega) (by omega)).mp q; omega) (by rw [iz_div hx hy, iz_mul, iz_sub, show x - x / y * y = x % y from by rw [Int.emod_def, Int.mul_comm]]; exact k)
theorem rz_idivw (hd : decode mi.2.1 pc = .ok (.idiv, 1)) (hy : iz y ≠ 0) (k : Rz X h mi (pc + 1) ls (zi (iz x / iz y).toInt :: st) I J P) : Rz X h mi pc ls (zi y :: zi x :: st) I J P := rn_idiv hd hy (by rw [← iz_of (iz x / iz y)]; exact k)
theorem rz_iremw (hd : decode mi.2.1 pc = .ok (.irem, 1)) (hy : iz y ≠ 0) (k : Rz X h mi (pc + 1) ls (zi (iz x - iz x / iz y * iz y).toInt :: st) I J P) : Rz X h mi pc ls (zi y :: zi x :: st) I J P := rn_irem hd hy (by rw [← iz_of (iz x - iz x / iz y * iz y)]; exact k)
theorem rz_iand (hd : decode mi.2.1 pc = .ok (.iand, 1)) (k : Rz X h mi (pc + 1) ls (zi (iz x &&& iz y).toInt :: st) I J P) : Rz X h mi pc ls (zi y :: zi x :: st) I J P := rn_iand hd (by rw [← iz_of (iz x &&& iz y)]; exact k)
theorem rz_ixor (hd : decode mi.2.1 pc = .ok (.ixor, 1)) (k : Rz X h mi (pc + 1) ls (zi (iz x ^^^ iz y).toInt :: st) I J P) : Rz X h mi pc ls (zi y :: zi x :: st) I J P := rn_ixor hd (by rw [← iz_of (iz x ^^^ iz y)]; exact k)
theorem rz_land (hd : decode mi.2.1 pc = .ok (.land, 1)) (k : Rz X h mi (pc + 1) ls (zl (lz x &&& lz y).toInt :: st) I J P) : Rz X h mi pc ls (zl y :: zl x :: st) I J P := rn_land hd (by rw [← lz_of (lz x &&& lz y)]; exact k)
theorem rz_lor (hd : decode mi.2.1 pc = .ok (.lor, 1)) (k : Rz X h mi (pc + 1) ls (zl (lz x ||| lz y).toInt :: st) I J P) : Rz X h mi pc ls (zl y :: zl x :: st) I J P := rn_lor hd (by rw [← lz_of (lz x ||| lz y)]; exact k)
theorem rz_lshl (hd : decode mi.2.1 pc = .ok (.lshl, 1)) (k : Rz X h mi (pc + 1) ls (zl (lz x <<< ((iz y).toInt64 &&& 63)).toInt :: st) I J P) : Rz X h mi pc ls (zi y :: zl x :: st) I J P := rn_lshl hd (by rw [← lz_of (lz x <<< ((iz y).toInt64 &&& 63))]; exact k)
theorem rz_lushr (hd : decode mi.2.1 pc = .ok (.lushr, 1)) (k : Rz X h mi (pc + 1) ls (zl ((lz x).toUInt64 >>> ((iz y).toInt64.toUInt64 &&& Int64.toUInt64 63)).toInt64.toInt :: st) I J P) : Rz X h mi pc ls (zi y :: zl x :: st) I J P := rn_lushr hd (by rw [← lz_of (((lz x).toUInt64 >>> ((iz y).toInt64.toUInt64 &&& Int64.toUInt64 63)).toInt64)]; exact k)
theorem rz_ldiv (hd : decode mi.2.1 pc = .ok (.ldiv, 1)) (hx : rl x) (hy : 0 < y ∧ y ≤ 9223372036854775807) (k : Rz X h mi (pc + 1) ls (zl (x.tdiv y) :: st) I J P) : Rz X h mi pc ls (zl y :: zl x :: st) I J P := rn_ldiv hd (fun q => by rw [← lz0] at q; have := (lz_inj (by omega) (by omega)).mp q; omega) (by rw [lz_div hx hy]; exact k)
theorem rz_lrem (hd : decode mi.2.1 pc = .ok (.lrem, 1)) (hx : 0 ≤ x ∧ x ≤ 9223372036854775807) (hy : 0 < y ∧ y ≤ 9223372036854775807) (k : Rz X h mi (pc + 1) ls (zl (x % y) :: st) I J P) : Rz X h mi pc ls (zl y :: zl x :: st) I J P := rn_lrem hd (fun q => by rw [← lz0] at q; have := (lz_inj (by omega) (by omega)).mp q; omega) (by rw [lz_div (by omega) hy, lz_mul, lz_sub, Int.tdiv_eq_ediv_of_nonneg hx.1, show x - x / y * y = x % y from by rw [Int.emod_def, Int.mul_comm]]; exact k)
theorem rz_i2l (hd : decode mi.2.1 pc = .ok (.i2l, 1)) (hx : rg x) (k : Rz X h mi (pc + 1) ls (zl x :: st) I J P) : Rz X h mi pc ls (zi x :: st) I J P := rn_i2l hd (by rw [iz_l hx]; exact k)
theorem rz_l2i (hd : decode mi.2.1 pc = .ok (.l2i, 1)) (k : Rz X h mi (pc + 1) ls (zi x :: st) I J P) : Rz X h mi pc ls (zl x :: st) I J P := rn_l2i hd (by rw [lz_i]; exact k)
theorem rz_i2b (hd : decode mi.2.1 pc = .ok (.i2b, 1)) (hx : -128 ≤ x ∧ x ≤ 127) (k : Rz X h mi (pc + 1) ls (zi x :: st) I J P) : Rz X h mi pc ls (zi x :: st) I J P := rn_i2b hd (by rw [iz8, bm8 hx]; exact k)
theorem rz_i2bw (hd : decode mi.2.1 pc = .ok (.i2b, 1)) (k : Rz X h mi (pc + 1) ls (zi (x.bmod 256) :: st) I J P) : Rz X h mi pc ls (zi x :: st) I J P := rn_i2b hd (by rw [iz8]; exact k)
theorem rz_i2s (hd : decode mi.2.1 pc = .ok (.i2s, 1)) (hx : -32768 ≤ x ∧ x ≤ 32767) (k : Rz X h mi (pc + 1) ls (zi x :: st) I J P) : Rz X h mi pc ls (zi x :: st) I J P := rn_i2s hd (by rw [iz16, bm16 hx]; exact k)
theorem rz_i2sw (hd : decode mi.2.1 pc = .ok (.i2s, 1)) (k : Rz X h mi (pc + 1) ls (zi (x.bmod 65536) :: st) I J P) : Rz X h mi pc ls (zi x :: st) I J P := rn_i2s hd (by rw [iz16]; exact k)
def lcZ (x y : Int) : Int := if y < x then 1 else if x = y then 0 else -1
theorem lg_z {x y : Int} (hx : rl x) (hy : rl y) : lg_cmp (lz x) (lz y) = iz (lcZ x y) := by
  unfold lg_cmp lcZ
  have e1 : (lz y < lz x) ↔ y < x := by rw [Int64.lt_iff_toInt_lt, lz_toInt hx, lz_toInt hy]
  have e2 : (lz x = lz y) ↔ x = y := lz_inj hx hy
  by_cases h1 : y < x
  · simp [e1, h1]; rfl
  · by_cases h2 : x = y
    · subst h2; simp; rfl
    · simp [e1, e2, h1, h2]; rfl
theorem rz_lcmp (hd : decode mi.2.1 pc = .ok (.lcmp, 1)) (hx : rl x) (hy : rl y) (k : Rz X h mi (pc + 1) ls (zi (lcZ x y) :: st) I J P) : Rz X h mi pc ls (zl y :: zl x :: st) I J P := rn_lcmp hd (by rw [lg_z hx hy]; exact k)
theorem rz_dup {v : Value} (hd : decode mi.2.1 pc = .ok (.dup, 1)) (hv : v.category = 1) (k : Rz X h mi (pc + 1) ls (v :: v :: st) I J P) : Rz X h mi pc ls (v :: st) I J P := rn_dup hd hv k
theorem rz_pop {v : Value} (hd : decode mi.2.1 pc = .ok (.pop, 1)) (hv : v.category = 1) (k : Rz X h mi (pc + 1) ls st I J P) : Rz X h mi pc ls (v :: st) I J P := rn_pop hd hv k
theorem rz_dup2 {v w : Value} (hd : decode mi.2.1 pc = .ok (.dup2, 1)) (hv : v.category = 1) (hw : w.category = 1) (k : Rz X h mi (pc + 1) ls (v :: w :: v :: w :: st) I J P) : Rz X h mi pc ls (v :: w :: st) I J P := rn_dup2 hd hv hw k
theorem rz_goto {off : Int} {t : Nat} (hd : decode mi.2.1 pc = .ok (.goto off, 3)) (ht : (pc : Int) + off = (t : Int)) (k : Rz X h mi t ls st I J P) : Rz X h mi pc ls st I J P := rn_goto hd ht k
theorem rz_tableIn {df lo hi : Int} {offs : Array Int} {len : Nat} {off : Int} {t : Nat} (hd : decode mi.2.1 pc = .ok (.tableswitch df lo hi offs, len)) (hx : rg x) (h1 : lo ≤ x ∧ x ≤ hi) (ho : offs[(x - lo).toNat]? = some off) (ht : (pc : Int) + off = (t : Int)) (k : Rz X h mi t ls st I J P) : Rz X h mi pc ls (zi x :: st) I J P := rn_tableIn hd (by rw [iz_toInt hx]; omega) (by rw [iz_toInt hx]; omega) (by rw [iz_toInt hx]; exact ho) ht k
theorem rz_tableOut {df lo hi : Int} {offs : Array Int} {len : Nat} {t : Nat} (hd : decode mi.2.1 pc = .ok (.tableswitch df lo hi offs, len)) (hx : rg x) (h1 : x < lo ∨ hi < x) (ht : (pc : Int) + df = (t : Int)) (k : Rz X h mi t ls st I J P) : Rz X h mi pc ls (zi x :: st) I J P := rn_tableOut hd (by rw [iz_toInt hx]; exact h1) ht k
theorem rz_lookup {df : Int} {ps : Array (Int × Int)} {len : Nat} {off : Int} {t : Nat} (hd : decode mi.2.1 pc = .ok (.lookupswitch df ps, len)) (hx : rg x) (hp : (ps.toList.zip (ps.toList.drop 1)).all (fun (a, next) => a.1 < next.1) = true) (ho : Op.lookupswitch.offset ps.toList df x = off) (ht : (pc : Int) + off = (t : Int)) (k : Rz X h mi t ls st I J P) : Rz X h mi pc ls (zi x :: st) I J P := rn_lookup hd hp (by rw [iz_toInt hx]; exact ho) ht k
theorem rz_icmp_eq {off : Int} {t : Nat} (hd : decode mi.2.1 pc = .ok (.if_icmp .eq off, 3)) (ht : (pc : Int) + off = (t : Int)) (rx : rg x) (ry : rg y) (kt : x = y → Rz X h mi t ls st I J P) (kf : x ≠ y → Rz X h mi (pc + 3) ls st I J P) : Rz X h mi pc ls (zi y :: zi x :: st) I J P := rn_icmp_eq hd ht (fun c => kt ((iz_inj rx ry).mp c)) (fun c => kf (fun q => c ((iz_inj rx ry).mpr q)))
theorem rzw_icmp_eq {off : Int} {t : Nat} (hd : decode mi.2.1 pc = .ok (.if_icmp .eq off, 3)) (ht : (pc : Int) + off = (t : Int)) (kt : iz x = iz y → Rz X h mi t ls st I J P) (kf : iz x ≠ iz y → Rz X h mi (pc + 3) ls st I J P) : Rz X h mi pc ls (zi y :: zi x :: st) I J P := rn_icmp_eq hd ht kt kf
theorem rz_icmp_ne {off : Int} {t : Nat} (hd : decode mi.2.1 pc = .ok (.if_icmp .ne off, 3)) (ht : (pc : Int) + off = (t : Int)) (rx : rg x) (ry : rg y) (kt : x ≠ y → Rz X h mi t ls st I J P) (kf : x = y → Rz X h mi (pc + 3) ls st I J P) : Rz X h mi pc ls (zi y :: zi x :: st) I J P := rn_icmp_ne hd ht (fun c => kt (fun q => c ((iz_inj rx ry).mpr q))) (fun c => kf ((iz_inj rx ry).mp c))
theorem rzw_icmp_ne {off : Int} {t : Nat} (hd : decode mi.2.1 pc = .ok (.if_icmp .ne off, 3)) (ht : (pc : Int) + off = (t : Int)) (kt : iz x ≠ iz y → Rz X h mi t ls st I J P) (kf : iz x = iz y → Rz X h mi (pc + 3) ls st I J P) : Rz X h mi pc ls (zi y :: zi x :: st) I J P := rn_icmp_ne hd ht kt kf
theorem rz_icmp_lt {off : Int} {t : Nat} (hd : decode mi.2.1 pc = .ok (.if_icmp .lt off, 3)) (ht : (pc : Int) + off = (t : Int)) (rx : rg x) (ry : rg y) (kt : x < y → Rz X h mi t ls st I J P) (kf : y ≤ x → Rz X h mi (pc + 3) ls st I J P) : Rz X h mi pc ls (zi y :: zi x :: st) I J P := rn_icmp_lt hd ht (fun c => kt (by have q := c; rw [iz_toInt rx, iz_toInt ry] at q; omega)) (fun c => kf (by have q := c; rw [iz_toInt rx, iz_toInt ry] at q; omega))
theorem rzw_icmp_lt {off : Int} {t : Nat} (hd : decode mi.2.1 pc = .ok (.if_icmp .lt off, 3)) (ht : (pc : Int) + off = (t : Int)) (kt : (iz x).toInt < (iz y).toInt → Rz X h mi t ls st I J P) (kf : (iz y).toInt ≤ (iz x).toInt → Rz X h mi (pc + 3) ls st I J P) : Rz X h mi pc ls (zi y :: zi x :: st) I J P := rn_icmp_lt hd ht kt kf
theorem rz_icmp_ge {off : Int} {t : Nat} (hd : decode mi.2.1 pc = .ok (.if_icmp .ge off, 3)) (ht : (pc : Int) + off = (t : Int)) (rx : rg x) (ry : rg y) (kt : y ≤ x → Rz X h mi t ls st I J P) (kf : x < y → Rz X h mi (pc + 3) ls st I J P) : Rz X h mi pc ls (zi y :: zi x :: st) I J P := rn_icmp_ge hd ht (fun c => kt (by have q := c; rw [iz_toInt rx, iz_toInt ry] at q; omega)) (fun c => kf (by have q := c; rw [iz_toInt rx, iz_toInt ry] at q; omega))
theorem rzw_icmp_ge {off : Int} {t : Nat} (hd : decode mi.2.1 pc = .ok (.if_icmp .ge off, 3)) (ht : (pc : Int) + off = (t : Int)) (kt : (iz y).toInt ≤ (iz x).toInt → Rz X h mi t ls st I J P) (kf : (iz x).toInt < (iz y).toInt → Rz X h mi (pc + 3) ls st I J P) : Rz X h mi pc ls (zi y :: zi x :: st) I J P := rn_icmp_ge hd ht kt kf
theorem rz_icmp_gt {off : Int} {t : Nat} (hd : decode mi.2.1 pc = .ok (.if_icmp .gt off, 3)) (ht : (pc : Int) + off = (t : Int)) (rx : rg x) (ry : rg y) (kt : y < x → Rz X h mi t ls st I J P) (kf : x ≤ y → Rz X h mi (pc + 3) ls st I J P) : Rz X h mi pc ls (zi y :: zi x :: st) I J P := rn_icmp_gt hd ht (fun c => kt (by have q := c; rw [iz_toInt rx, iz_toInt ry] at q; omega)) (fun c => kf (by have q := c; rw [iz_toInt rx, iz_toInt ry] at q; omega))
theorem rzw_icmp_gt {off : Int} {t : Nat} (hd : decode mi.2.1 pc = .ok (.if_icmp .gt off, 3)) (ht : (pc : Int) + off = (t : Int)) (kt : (iz y).toInt < (iz x).toInt → Rz X h mi t ls st I J P) (kf : (iz x).toInt ≤ (iz y).toInt → Rz X h mi (pc + 3) ls st I J P) : Rz X h mi pc ls (zi y :: zi x :: st) I J P := rn_icmp_gt hd ht kt kf
theorem rz_icmp_le {off : Int} {t : Nat} (hd : decode mi.2.1 pc = .ok (.if_icmp .le off, 3)) (ht : (pc : Int) + off = (t : Int)) (rx : rg x) (ry : rg y) (kt : x ≤ y → Rz X h mi t ls st I J P) (kf : y < x → Rz X h mi (pc + 3) ls st I J P) : Rz X h mi pc ls (zi y :: zi x :: st) I J P := rn_icmp_le hd ht (fun c => kt (by have q := c; rw [iz_toInt rx, iz_toInt ry] at q; omega)) (fun c => kf (by have q := c; rw [iz_toInt rx, iz_toInt ry] at q; omega))
theorem rzw_icmp_le {off : Int} {t : Nat} (hd : decode mi.2.1 pc = .ok (.if_icmp .le off, 3)) (ht : (pc : Int) + off = (t : Int)) (kt : (iz x).toInt ≤ (iz y).toInt → Rz X h mi t ls st I J P) (kf : (iz y).toInt < (iz x).toInt → Rz X h mi (pc + 3) ls st I J P) : Rz X h mi pc ls (zi y :: zi x :: st) I J P := rn_icmp_le hd ht kt kf
theorem rz_if_eq {off : Int} {t : Nat} (hd : decode mi.2.1 pc = .ok (.ifCond .eq off, 3)) (ht : (pc : Int) + off = (t : Int)) (rx : rg x) (kt : x = 0 → Rz X h mi t ls st I J P) (kf : x ≠ 0 → Rz X h mi (pc + 3) ls st I J P) : Rz X h mi pc ls (zi x :: st) I J P := rn_if_eq hd ht (fun c => kt ((by have e := iz_inj rx (show rg 0 by omega); rw [iz0] at e; exact e : iz x = 0 ↔ x = 0).mp c)) (fun c => kf (fun q => c ((by have e := iz_inj rx (show rg 0 by omega); rw [iz0] at e; exact e : iz x = 0 ↔ x = 0).mpr q)))
theorem rzw_if_eq {off : Int} {t : Nat} (hd : decode mi.2.1 pc = .ok (.ifCond .eq off, 3)) (ht : (pc : Int) + off = (t : Int)) (kt : iz x = 0 → Rz X h mi t ls st I J P) (kf : iz x ≠ 0 → Rz X h mi (pc + 3) ls st I J P) : Rz X h mi pc ls (zi x :: st) I J P := rn_if_eq hd ht kt kf
theorem rz_if_ne {off : Int} {t : Nat} (hd : decode mi.2.1 pc = .ok (.ifCond .ne off, 3)) (ht : (pc : Int) + off = (t : Int)) (rx : rg x) (kt : x ≠ 0 → Rz X h mi t ls st I J P) (kf : x = 0 → Rz X h mi (pc + 3) ls st I J P) : Rz X h mi pc ls (zi x :: st) I J P := rn_if_ne hd ht (fun c => kt (fun q => c ((by have e := iz_inj rx (show rg 0 by omega); rw [iz0] at e; exact e : iz x = 0 ↔ x = 0).mpr q))) (fun c => kf ((by have e := iz_inj rx (show rg 0 by omega); rw [iz0] at e; exact e : iz x = 0 ↔ x = 0).mp c))
theorem rzw_if_ne {off : Int} {t : Nat} (hd : decode mi.2.1 pc = .ok (.ifCond .ne off, 3)) (ht : (pc : Int) + off = (t : Int)) (kt : iz x ≠ 0 → Rz X h mi t ls st I J P) (kf : iz x = 0 → Rz X h mi (pc + 3) ls st I J P) : Rz X h mi pc ls (zi x :: st) I J P := rn_if_ne hd ht kt kf
theorem rz_if_lt {off : Int} {t : Nat} (hd : decode mi.2.1 pc = .ok (.ifCond .lt off, 3)) (ht : (pc : Int) + off = (t : Int)) (rx : rg x) (kt : x < 0 → Rz X h mi t ls st I J P) (kf : 0 ≤ x → Rz X h mi (pc + 3) ls st I J P) : Rz X h mi pc ls (zi x :: st) I J P := rn_if_lt hd ht (fun c => kt (by have q := c; rw [iz_toInt rx] at q; omega)) (fun c => kf (by have q := c; rw [iz_toInt rx] at q; omega))
theorem rzw_if_lt {off : Int} {t : Nat} (hd : decode mi.2.1 pc = .ok (.ifCond .lt off, 3)) (ht : (pc : Int) + off = (t : Int)) (kt : (iz x).toInt < 0 → Rz X h mi t ls st I J P) (kf : 0 ≤ (iz x).toInt → Rz X h mi (pc + 3) ls st I J P) : Rz X h mi pc ls (zi x :: st) I J P := rn_if_lt hd ht kt kf
theorem rz_if_ge {off : Int} {t : Nat} (hd : decode mi.2.1 pc = .ok (.ifCond .ge off, 3)) (ht : (pc : Int) + off = (t : Int)) (rx : rg x) (kt : 0 ≤ x → Rz X h mi t ls st I J P) (kf : x < 0 → Rz X h mi (pc + 3) ls st I J P) : Rz X h mi pc ls (zi x :: st) I J P := rn_if_ge hd ht (fun c => kt (by have q := c; rw [iz_toInt rx] at q; omega)) (fun c => kf (by have q := c; rw [iz_toInt rx] at q; omega))
theorem rzw_if_ge {off : Int} {t : Nat} (hd : decode mi.2.1 pc = .ok (.ifCond .ge off, 3)) (ht : (pc : Int) + off = (t : Int)) (kt : 0 ≤ (iz x).toInt → Rz X h mi t ls st I J P) (kf : (iz x).toInt < 0 → Rz X h mi (pc + 3) ls st I J P) : Rz X h mi pc ls (zi x :: st) I J P := rn_if_ge hd ht kt kf
theorem rz_if_gt {off : Int} {t : Nat} (hd : decode mi.2.1 pc = .ok (.ifCond .gt off, 3)) (ht : (pc : Int) + off = (t : Int)) (rx : rg x) (kt : 0 < x → Rz X h mi t ls st I J P) (kf : x ≤ 0 → Rz X h mi (pc + 3) ls st I J P) : Rz X h mi pc ls (zi x :: st) I J P := rn_if_gt hd ht (fun c => kt (by have q := c; rw [iz_toInt rx] at q; omega)) (fun c => kf (by have q := c; rw [iz_toInt rx] at q; omega))
theorem rzw_if_gt {off : Int} {t : Nat} (hd : decode mi.2.1 pc = .ok (.ifCond .gt off, 3)) (ht : (pc : Int) + off = (t : Int)) (kt : 0 < (iz x).toInt → Rz X h mi t ls st I J P) (kf : (iz x).toInt ≤ 0 → Rz X h mi (pc + 3) ls st I J P) : Rz X h mi pc ls (zi x :: st) I J P := rn_if_gt hd ht kt kf
theorem rz_if_le {off : Int} {t : Nat} (hd : decode mi.2.1 pc = .ok (.ifCond .le off, 3)) (ht : (pc : Int) + off = (t : Int)) (rx : rg x) (kt : x ≤ 0 → Rz X h mi t ls st I J P) (kf : 0 < x → Rz X h mi (pc + 3) ls st I J P) : Rz X h mi pc ls (zi x :: st) I J P := rn_if_le hd ht (fun c => kt (by have q := c; rw [iz_toInt rx] at q; omega)) (fun c => kf (by have q := c; rw [iz_toInt rx] at q; omega))
theorem rzw_if_le {off : Int} {t : Nat} (hd : decode mi.2.1 pc = .ok (.ifCond .le off, 3)) (ht : (pc : Int) + off = (t : Int)) (kt : (iz x).toInt ≤ 0 → Rz X h mi t ls st I J P) (kf : 0 < (iz x).toInt → Rz X h mi (pc + 3) ls st I J P) : Rz X h mi pc ls (zi x :: st) I J P := rn_if_le hd ht kt kf
theorem rz_getI {idx ci : Nat} (hd : decode mi.2.1 pc = .ok (.getfield idx, 3)) (F : FlR mi.1.cls idx ci k) (hh : HD0[a]? = some (0, ci, zz)) (hr : (fTy ci k).isReference = false) (hv : I a k = z) (kk : Rz X h mi (pc + 3) ls (zi z :: st) I J P) : Rz X h mi pc ls (.ref a :: st) I J P := rn_getI hd F hh hr (by show Rn h mi (pc + 3) ls (.int (iz (I a k)) :: st) _ _; rw [hv]; exact kk)
theorem rz_getR {idx ci t : Nat} (hd : decode mi.2.1 pc = .ok (.getfield idx, 3)) (F : FlR mi.1.cls idx ci k) (hh : HD0[a]? = some (0, ci, zz)) (hr : (fTy ci k).isReference = true) (hR : R0 a k = some t) (kk : Rz X h mi (pc + 3) ls (.ref t :: st) I J P) : Rz X h mi pc ls (.ref a :: st) I J P := rn_getR hd F hh hr hR kk
theorem rz_putI {idx ci : Nat} (hd : decode mi.2.1 pc = .ok (.putfield idx, 3)) (F : FlK mi.1.cls idx ci k false) (hh : HD0[a]? = some (0, ci, zz)) (hr : fTy ci k = .int) (kk : Rz X h mi (pc + 3) ls st (upA I a (up1 (I a) k z)) J P) : Rz X h mi pc ls (zi z :: .ref a :: st) I J P :=
  rn_putI hd F hh (by rw [hr]; rfl) (by rw [hr]; exact ⟨rfl, rfl⟩) (by rw [st_up1, st_upI]; exact kk)
theorem rz_putZ {idx ci : Nat} (hd : decode mi.2.1 pc = .ok (.putfield idx, 3)) (F : FlK mi.1.cls idx ci k false) (hh : HD0[a]? = some (0, ci, zz)) (hr : fTy ci k = .boolean) (hz : z = 0 ∨ z = 1) (kk : Rz X h mi (pc + 3) ls st (upA I a (up1 (I a) k z)) J P) : Rz X h mi pc ls (zi z :: .ref a :: st) I J P :=
  rn_putI hd F hh (by rw [hr]; rfl) (by rw [hr]; rcases hz with rfl | rfl <;> exact ⟨by decide, by decide⟩) (by rw [st_up1, st_upI]; exact kk)
theorem rz_aald {t b : Nat} (ht : 5 ≤ t ∧ t < 9) (hd : decode mi.2.1 pc = .ok (.aaload, 1)) (hh : HD0[a]? = some (3, t, n)) (hn : n ≤ 100000) (hi : 0 ≤ i ∧ i < n) (hr : R0 a i.toNat = some b) (kk : Rz X h mi (pc + 1) ls (.ref b :: st) I J P) : Rz X h mi pc ls (zi i :: .ref a :: st) I J P :=
  rn_aaload ht hd hh (by rw [iz_toInt (by omega)]; exact hi) (by rw [iz_toInt (by omega)]; exact hr) kk
theorem rz_iald (hd : decode mi.2.1 pc = .ok (.iaload, 1)) (hh : HD0[a]? = some (1, 0, n)) (hn : n ≤ 100000) (hi : 0 ≤ i ∧ i < n) (hv : I a i.toNat = z) (kk : Rz X h mi (pc + 1) ls (zi z :: st) I J P) : Rz X h mi pc ls (zi i :: .ref a :: st) I J P :=
  rn_iaload hd hh (by rw [iz_toInt (by omega)]; exact hi) (by rw [iz_toInt (by omega)]; show Rn h mi (pc + 1) ls (.int (iz (I a i.toNat)) :: st) _ _; rw [hv]; exact kk)
theorem rz_bald (hd : decode mi.2.1 pc = .ok (.baload, 1)) (hh : HD0[a]? = some (1, 1, n)) (hn : n ≤ 100000) (hi : 0 ≤ i ∧ i < n) (hv : I a i.toNat = z) (kk : Rz X h mi (pc + 1) ls (zi z :: st) I J P) : Rz X h mi pc ls (zi i :: .ref a :: st) I J P :=
  rn_baload hd hh (by rw [iz_toInt (by omega)]; exact hi) (by rw [iz_toInt (by omega)]; show Rn h mi (pc + 1) ls (.int (iz (I a i.toNat)) :: st) _ _; rw [hv]; exact kk)
theorem rz_sald (hd : decode mi.2.1 pc = .ok (.saload, 1)) (hh : HD0[a]? = some (1, 2, n)) (hn : n ≤ 100000) (hi : 0 ≤ i ∧ i < n) (hv : I a i.toNat = z) (kk : Rz X h mi (pc + 1) ls (zi z :: st) I J P) : Rz X h mi pc ls (zi i :: .ref a :: st) I J P :=
  rn_saload hd hh (by rw [iz_toInt (by omega)]; exact hi) (by rw [iz_toInt (by omega)]; show Rn h mi (pc + 1) ls (.int (iz (I a i.toNat)) :: st) _ _; rw [hv]; exact kk)
theorem rz_zald (hd : decode mi.2.1 pc = .ok (.baload, 1)) (hh : HD0[a]? = some (1, 3, n)) (hn : n ≤ 100000) (hi : 0 ≤ i ∧ i < n) (hv : I a i.toNat = z) (kk : Rz X h mi (pc + 1) ls (zi z :: st) I J P) : Rz X h mi pc ls (zi i :: .ref a :: st) I J P :=
  rn_zaload hd hh (by rw [iz_toInt (by omega)]; exact hi) (by rw [iz_toInt (by omega)]; show Rn h mi (pc + 1) ls (.int (iz (I a i.toNat)) :: st) _ _; rw [hv]; exact kk)
theorem rz_lald (hd : decode mi.2.1 pc = .ok (.laload, 1)) (hh : HD0[a]? = some (2, 4, n)) (hn : n ≤ 100000) (hi : 0 ≤ i ∧ i < n) (hv : J a i.toNat = z) (kk : Rz X h mi (pc + 1) ls (zl z :: st) I J P) : Rz X h mi pc ls (zi i :: .ref a :: st) I J P :=
  rn_laload hd hh (by rw [iz_toInt (by omega)]; exact hi) (by rw [iz_toInt (by omega)]; show Rn h mi (pc + 1) ls (.long (lz (J a i.toNat)) :: st) _ _; rw [hv]; exact kk)
theorem rz_iast (hd : decode mi.2.1 pc = .ok (.iastore, 1)) (hh : HD0[a]? = some (1, 0, n)) (hn : n ≤ 100000) (hi : 0 ≤ i ∧ i < n) (kk : Rz X h mi (pc + 1) ls st (upA I a (up1 (I a) i.toNat z)) J P) : Rz X h mi pc ls (zi z :: zi i :: .ref a :: st) I J P :=
  rn_iastore hd hh (by rw [iz_toInt (by omega)]; exact hi) (by rw [iz_toInt (by omega), st_up1, st_upI]; exact kk)
theorem rz_bast (hd : decode mi.2.1 pc = .ok (.bastore, 1)) (hh : HD0[a]? = some (1, 1, n)) (hn : n ≤ 100000) (hi : 0 ≤ i ∧ i < n) (hz : -128 ≤ z ∧ z ≤ 127) (kk : Rz X h mi (pc + 1) ls st (upA I a (up1 (I a) i.toNat z)) J P) : Rz X h mi pc ls (zi z :: zi i :: .ref a :: st) I J P :=
  rn_bastore hd hh (by rw [iz_toInt (by omega)]; exact hi) (by rw [iz_toInt (by omega), iz8, bm8 hz, st_up1, st_upI]; exact kk)
theorem rz_sast (hd : decode mi.2.1 pc = .ok (.sastore, 1)) (hh : HD0[a]? = some (1, 2, n)) (hn : n ≤ 100000) (hi : 0 ≤ i ∧ i < n) (hz : -32768 ≤ z ∧ z ≤ 32767) (kk : Rz X h mi (pc + 1) ls st (upA I a (up1 (I a) i.toNat z)) J P) : Rz X h mi pc ls (zi z :: zi i :: .ref a :: st) I J P :=
  rn_sastore hd hh (by rw [iz_toInt (by omega)]; exact hi) (by rw [iz_toInt (by omega), iz16, bm16 hz, st_up1, st_upI]; exact kk)
theorem rz_zast (hd : decode mi.2.1 pc = .ok (.bastore, 1)) (hh : HD0[a]? = some (1, 3, n)) (hn : n ≤ 100000) (hi : 0 ≤ i ∧ i < n) (hz : z = 0 ∨ z = 1) (kk : Rz X h mi (pc + 1) ls st (upA I a (up1 (I a) i.toNat z)) J P) : Rz X h mi pc ls (zi z :: zi i :: .ref a :: st) I J P :=
  rn_zastore hd hh (by rw [iz_toInt (by omega)]; exact hi) (by rcases hz with rfl | rfl <;> decide) (by rw [iz_toInt (by omega), st_up1, st_upI]; exact kk)
theorem rz_last (hd : decode mi.2.1 pc = .ok (.lastore, 1)) (hh : HD0[a]? = some (2, 4, n)) (hn : n ≤ 100000) (hi : 0 ≤ i ∧ i < n) (kk : Rz X h mi (pc + 1) ls st I (upA J a (up1 (J a) i.toNat z)) P) : Rz X h mi pc ls (zl z :: zi i :: .ref a :: st) I J P :=
  rn_lastore hd hh (by rw [iz_toInt (by omega)]; exact hi) (by rw [iz_toInt (by omega), st_up1l, st_upJ]; exact kk)
theorem rz_alen {t q : Nat} (hd : decode mi.2.1 pc = .ok (.arraylength, 1)) (hh : HD0[a]? = some (t + 1, q, n)) (ht : t < 2) (hq : q < 5) (kk : Rz X h mi (pc + 1) ls (zi n :: st) I J P) : Rz X h mi pc ls (.ref a :: st) I J P :=
  rn_alen (q := (q, 0, 0)) hd hh ht hq (by show Rn h mi (pc + 1) ls (.int (Int32.ofNat n) :: st) _ _; rw [← Int32.ofInt_eq_ofNat]; exact kk)
theorem rz_gets0 {idx : Nat} (hd : decode mi.2.1 pc = .ok (.getstatic idx, 3)) (hw : Cond.fieldLink mi.1.cls idx "NineCarts$Acts" "ABOVE" "[I" ∈ gT) (kk : Rz X h mi (pc + 3) ls (.ref 1001 :: st) I J P) : Rz X h mi pc ls st I J P := rn_gets0 hd hw kk
theorem rz_gets1 {idx : Nat} (hd : decode mi.2.1 pc = .ok (.getstatic idx, 3)) (hw : Cond.fieldLink mi.1.cls idx "NineCarts$Acts" "BODIES" "[I" ∈ gT) (kk : Rz X h mi (pc + 3) ls (.ref 1002 :: st) I J P) : Rz X h mi pc ls st I J P := rn_gets1 hd hw kk
theorem rz_tld0 (hd : decode mi.2.1 pc = .ok (.iaload, 1)) (hi : 0 ≤ i ∧ i < 8) (hv : (tAB.getD i.toNat 0).toInt = z) (kk : Rz X h mi (pc + 1) ls (zi z :: st) I J P) : Rz X h mi pc ls (zi i :: .ref 1001 :: st) I J P :=
  rn_tld0 hd (by rw [iz_toInt (by omega)]; exact hi) (by rw [iz_toInt (by omega), ← iz_of (tAB.getD i.toNat 0), hv]; exact kk)
theorem rz_tld1 (hd : decode mi.2.1 pc = .ok (.iaload, 1)) (hi : 0 ≤ i ∧ i < 32) (hv : (tBD.getD i.toNat 0).toInt = z) (kk : Rz X h mi (pc + 1) ls (zi z :: st) I J P) : Rz X h mi pc ls (zi i :: .ref 1002 :: st) I J P :=
  rn_tld1 hd (by rw [iz_toInt (by omega)]; exact hi) (by rw [iz_toInt (by omega), ← iz_of (tBD.getD i.toNat 0), hv]; exact kk)
theorem rz_sld (hd : decode mi.2.1 pc = .ok (.iaload, 1)) (hX : X.1 ≤ 100000) (hi : 0 ≤ i ∧ i < X.1) (hv : (X.2 i.toNat).toInt = z) (kk : Rz X h mi (pc + 1) ls (zi z :: st) I J P) : Rz X h mi pc ls (zi i :: .ref 1000 :: st) I J P :=
  rn_sld hd (by rw [iz_toInt (by omega)]; exact hi) (by rw [iz_toInt (by omega), ← iz_of (X.2 i.toNat), hv]; exact kk)
theorem rz_slen (hd : decode mi.2.1 pc = .ok (.arraylength, 1)) (kk : Rz X h mi (pc + 1) ls (zi X.1 :: st) I J P) : Rz X h mi pc ls (.ref 1000 :: st) I J P :=
  rn_slen hd (by rw [← Int32.ofInt_eq_ofNat]; exact kk)
theorem rz_copyi {idx b n2 : Nat} {sp dp len : Int} (hd : decode mi.2.1 pc = .ok (.invokestatic idx, 3)) (K : AcK mi.1.cls idx) (ha : HD0[a]? = some (1, 0, n)) (hb : HD0[b]? = some (1, 0, n2)) (hn : n ≤ 100000 ∧ n2 ≤ 100000) (hst : (st.map fun v => v.category).sum ≤ 8)
    (hsp : 0 ≤ sp ∧ 0 ≤ dp ∧ 0 ≤ len ∧ sp + len ≤ n ∧ dp + len ≤ n2) (kk : Rz X (h + 1) mi (pc + 3) ls st (upA I b (va_cpy (I a) (I b) sp.toNat dp.toNat len.toNat)) J P) : Rz X (h + 1) mi pc ls (zi len :: zi dp :: .ref b :: zi sp :: .ref a :: st) I J P := by
  have r1 : (iz sp).toInt = sp := iz_toInt (by omega)
  have r2 : (iz dp).toInt = dp := iz_toInt (by omega)
  have r3 : (iz len).toInt = len := iz_toInt (by omega)
  exact rn_copyi (Nat.succ_le_succ (Nat.zero_le _)) hd K ha hb hst (by rw [r1, r2, r3]; exact hsp) (by rw [r1, r2, r3, st_cpy, st_upI]; exact kk)
theorem rz_copyl {idx b n2 : Nat} {sp dp len : Int} (hd : decode mi.2.1 pc = .ok (.invokestatic idx, 3)) (K : AcK mi.1.cls idx) (ha : HD0[a]? = some (2, 4, n)) (hb : HD0[b]? = some (2, 4, n2)) (hn : n ≤ 100000 ∧ n2 ≤ 100000) (hst : (st.map fun v => v.category).sum ≤ 8)
    (hsp : 0 ≤ sp ∧ 0 ≤ dp ∧ 0 ≤ len ∧ sp + len ≤ n ∧ dp + len ≤ n2) (kk : Rz X (h + 1) mi (pc + 3) ls st I (upA J b (va_cpy (J a) (J b) sp.toNat dp.toNat len.toNat)) P) : Rz X (h + 1) mi pc ls (zi len :: zi dp :: .ref b :: zi sp :: .ref a :: st) I J P := by
  have r1 : (iz sp).toInt = sp := iz_toInt (by omega)
  have r2 : (iz dp).toInt = dp := iz_toInt (by omega)
  have r3 : (iz len).toInt = len := iz_toInt (by omega)
  exact rn_copyl (Nat.succ_le_succ (Nat.zero_le _)) hd K ha hb hst (by rw [r1, r2, r3]; exact hsp) (by rw [r1, r2, r3, st_cpyl, st_upJ]; exact kk)
theorem rz_mmax {idx : Nat} (hd : decode mi.2.1 pc = .ok (.invokestatic idx, 3)) (K : MxK mi.1.cls idx) (hst : (st.map fun v => v.category).sum ≤ 7) (rx : rg x) (ry : rg y) (kk : Rz X (h + 1) mi (pc + 3) ls (zi (max x y) :: st) I J P) : Rz X (h + 1) mi pc ls (zi y :: zi x :: st) I J P :=
  rn_mmax (Nat.succ_le_succ (Nat.zero_le _)) hd K hst (by
    have e : (if iz x < iz y then iz y else iz x) = iz (max x y) := by
      by_cases c : x < y
      · rw [if_pos (by rw [Int32.lt_iff_toInt_lt, iz_toInt rx, iz_toInt ry]; exact c), show max x y = y by omega]
      · rw [if_neg (by rw [Int32.lt_iff_toInt_lt, iz_toInt rx, iz_toInt ry]; exact c), show max x y = x by omega]
    rw [e]; exact kk)
theorem rz_mmin {idx : Nat} (hd : decode mi.2.1 pc = .ok (.invokestatic idx, 3)) (K : MnK mi.1.cls idx) (hst : (st.map fun v => v.category).sum ≤ 7) (rx : rg x) (ry : rg y) (kk : Rz X (h + 1) mi (pc + 3) ls (zi (min x y) :: st) I J P) : Rz X (h + 1) mi pc ls (zi y :: zi x :: st) I J P :=
  rn_mmin (Nat.succ_le_succ (Nat.zero_le _)) hd K hst (by
    have e : (if iz y < iz x then iz y else iz x) = iz (min x y) := by
      by_cases c : y < x
      · rw [if_pos (by rw [Int32.lt_iff_toInt_lt, iz_toInt rx, iz_toInt ry]; exact c), show min x y = y by omega]
      · rw [if_neg (by rw [Int32.lt_iff_toInt_lt, iz_toInt rx, iz_toInt ry]; exact c), show min x y = x by omega]
    rw [e]; exact kk)
theorem rz_labs {idx : Nat} (hd : decode mi.2.1 pc = .ok (.invokestatic idx, 3)) (K : MaK mi.1.cls idx) (hst : (st.map fun v => v.category).sum ≤ 6) (rx : -9223372036854775807 ≤ x ∧ x ≤ 9223372036854775807) (kk : Rz X (h + 1) mi (pc + 3) ls (zl (if 0 < x then x else -x) :: st) I J P) : Rz X (h + 1) mi pc ls (zl x :: st) I J P :=
  rn_labs (Nat.succ_le_succ (Nat.zero_le _)) hd K hst (by
    have e : (if 0 < lz x then lz x else -lz x) = lz (if 0 < x then x else -x) := by
      have e1 : (0 < lz x) ↔ 0 < x := by rw [Int64.lt_iff_toInt_lt, lz_toInt (by omega), Int64.toInt_zero]
      by_cases c : 0 < x
      · rw [if_pos (e1.mpr c), if_pos c]
      · rw [if_neg (fun q => c (e1.mp q)), if_neg c, lz_neg]
    rw [e]; exact kk)
theorem rz_iret (hd : decode mi.2.1 pc = .ok (.ireturn, 1)) (ht : mi.2.2.2 = some .int) (hq : P (some (zi z)) I J) : Rz X h mi pc ls [zi z] I J P := rn_ireturn hd ht rfl ⟨I, J, rfl, hq⟩
theorem rz_zret (hd : decode mi.2.1 pc = .ok (.ireturn, 1)) (ht : mi.2.2.2 = some .boolean) (hz : z = 0 ∨ z = 1) (hq : P (some (zi z)) I J) : Rz X h mi pc ls [zi z] I J P := rn_ireturn hd ht (by rcases hz with rfl | rfl <;> decide) ⟨I, J, rfl, hq⟩
theorem rz_lret (hd : decode mi.2.1 pc = .ok (.lreturn, 1)) (ht : mi.2.2.2 = some .long) (hq : P (some (zl z)) I J) : Rz X h mi pc ls [zl z] I J P := rn_lreturn hd ht ⟨I, J, rfl, hq⟩
theorem rz_vret (hd : decode mi.2.1 pc = .ok (.return_, 1)) (ht : mi.2.2.2 = none) (hq : P none I J) : Rz X h mi pc ls [] I J P := rn_return hd ht ⟨I, J, rfl, hq⟩
theorem rz_wk (hl : ∀ (i : Nat) (v : Value), ls'[i]? = some (some v) → ls[i]? = some (some v)) (k : Rz X h mi pc ls' st I J P) : Rz X h mi pc ls st I J P := rn_wk hl k
end RZ
section RZC
variable {X : pX} {h : Nat} {mi mi' : MI} {pc : Nat} {ls : List (Option Value)} {st rest As : List Value} {I J : IM} {P : Option Value → IM → IM → Prop} {n idx b ci zz : Nat} {A B : IM} {z : Int}
theorem cnt_St {X : pX} {I J A B : IM} : cnt (St X A B) = cnt (St X I J) := rfl
theorem rz_cVIq {Q : Int → IM → IM → Prop} (hd : decode mi.2.1 pc = .ok (.invokevirtual idx, 3)) (K : LkV mi.1.cls idx mi' n) (hh : HD0[b]? = some (0, ci, zz)) (hci : ∃ T N, vwCl[ci]? = some (mi'.1.cls, T, N)) (E : KIq X h mi' (.ref b :: As) I J Q) (hs : st = As.reverse ++ .ref b :: rest) (hA : As.length = n) (hst : (rest.map fun v => v.category).sum ≤ 8) (hv : (entL0 (.ref b :: As)).length ≤ mi'.2.2.1) (k : ∀ z A B, Q z A B → Rz X (h + 1) mi (pc + 3) ls (zi z :: rest) A B P) : Rz X (h + 1) mi pc ls st I J P := by
  subst hs
  refine rn_callV As hd K hA hh hci hst hv ?_ E ?_ ?_
  · rintro r M' ⟨A, B, rfl, z, e, q⟩; exact Or.inl rfl
  · rintro r M' ⟨A, B, rfl, z, e, q⟩; exact Or.inr (Or.inl ⟨_, e⟩)
  · rintro r M' ⟨A, B, rfl, z, rfl, q⟩; exact k z A B q
theorem rz_cVI (hd : decode mi.2.1 pc = .ok (.invokevirtual idx, 3)) (K : LkV mi.1.cls idx mi' n) (hh : HD0[b]? = some (0, ci, zz)) (hci : ∃ T N, vwCl[ci]? = some (mi'.1.cls, T, N)) (E : KI X h mi' (.ref b :: As) I J z A B) (hs : st = As.reverse ++ .ref b :: rest) (hA : As.length = n) (hst : (rest.map fun v => v.category).sum ≤ 8) (hv : (entL0 (.ref b :: As)).length ≤ mi'.2.2.1) (k : Rz X (h + 1) mi (pc + 3) ls (zi z :: rest) A B P) : Rz X (h + 1) mi pc ls st I J P := rz_cVIq hd K hh hci E hs hA hst hv (fun z' A' B' q => by obtain ⟨rfl, rfl, rfl⟩ := q; exact k)
theorem rz_cVLq {Q : Int → IM → IM → Prop} (hd : decode mi.2.1 pc = .ok (.invokevirtual idx, 3)) (K : LkV mi.1.cls idx mi' n) (hh : HD0[b]? = some (0, ci, zz)) (hci : ∃ T N, vwCl[ci]? = some (mi'.1.cls, T, N)) (E : KLq X h mi' (.ref b :: As) I J Q) (hs : st = As.reverse ++ .ref b :: rest) (hA : As.length = n) (hst : (rest.map fun v => v.category).sum ≤ 8) (hv : (entL0 (.ref b :: As)).length ≤ mi'.2.2.1) (k : ∀ z A B, Q z A B → Rz X (h + 1) mi (pc + 3) ls (zl z :: rest) A B P) : Rz X (h + 1) mi pc ls st I J P := by
  subst hs
  refine rn_callV As hd K hA hh hci hst hv ?_ E ?_ ?_
  · rintro r M' ⟨A, B, rfl, z, e, q⟩; exact Or.inl rfl
  · rintro r M' ⟨A, B, rfl, z, e, q⟩; exact Or.inr (Or.inr ⟨_, e⟩)
  · rintro r M' ⟨A, B, rfl, z, rfl, q⟩; exact k z A B q
theorem rz_cVL (hd : decode mi.2.1 pc = .ok (.invokevirtual idx, 3)) (K : LkV mi.1.cls idx mi' n) (hh : HD0[b]? = some (0, ci, zz)) (hci : ∃ T N, vwCl[ci]? = some (mi'.1.cls, T, N)) (E : KL X h mi' (.ref b :: As) I J z A B) (hs : st = As.reverse ++ .ref b :: rest) (hA : As.length = n) (hst : (rest.map fun v => v.category).sum ≤ 8) (hv : (entL0 (.ref b :: As)).length ≤ mi'.2.2.1) (k : Rz X (h + 1) mi (pc + 3) ls (zl z :: rest) A B P) : Rz X (h + 1) mi pc ls st I J P := rz_cVLq hd K hh hci E hs hA hst hv (fun z' A' B' q => by obtain ⟨rfl, rfl, rfl⟩ := q; exact k)
theorem rz_cVVq {Q : IM → IM → Prop} (hd : decode mi.2.1 pc = .ok (.invokevirtual idx, 3)) (K : LkV mi.1.cls idx mi' n) (hh : HD0[b]? = some (0, ci, zz)) (hci : ∃ T N, vwCl[ci]? = some (mi'.1.cls, T, N)) (E : KVq X h mi' (.ref b :: As) I J Q) (hs : st = As.reverse ++ .ref b :: rest) (hA : As.length = n) (hst : (rest.map fun v => v.category).sum ≤ 8) (hv : (entL0 (.ref b :: As)).length ≤ mi'.2.2.1) (k : ∀ A B, Q A B → Rz X (h + 1) mi (pc + 3) ls rest A B P) : Rz X (h + 1) mi pc ls st I J P := by
  subst hs
  refine rn_callV As hd K hA hh hci hst hv ?_ E ?_ ?_
  · rintro r M' ⟨A, B, rfl, e, q⟩; exact Or.inl rfl
  · rintro r M' ⟨A, B, rfl, e, q⟩; exact Or.inl e
  · rintro r M' ⟨A, B, rfl, rfl, q⟩; exact k A B q
theorem rz_cVV (hd : decode mi.2.1 pc = .ok (.invokevirtual idx, 3)) (K : LkV mi.1.cls idx mi' n) (hh : HD0[b]? = some (0, ci, zz)) (hci : ∃ T N, vwCl[ci]? = some (mi'.1.cls, T, N)) (E : KV X h mi' (.ref b :: As) I J A B) (hs : st = As.reverse ++ .ref b :: rest) (hA : As.length = n) (hst : (rest.map fun v => v.category).sum ≤ 8) (hv : (entL0 (.ref b :: As)).length ≤ mi'.2.2.1) (k : Rz X (h + 1) mi (pc + 3) ls rest A B P) : Rz X (h + 1) mi pc ls st I J P := rz_cVVq hd K hh hci E hs hA hst hv (fun A' B' q => by obtain ⟨rfl, rfl⟩ := q; exact k)
theorem rz_cSIq {Q : Int → IM → IM → Prop} (hd : decode mi.2.1 pc = .ok (.invokestatic idx, 3)) (K : LkS mi.1.cls idx mi' n) (E : KIq X h mi' As I J Q) (hs : st = As.reverse ++ rest) (hA : As.length = n) (hst : (rest.map fun v => v.category).sum ≤ 8) (hv : (entL0 As).length ≤ mi'.2.2.1) (k : ∀ z A B, Q z A B → Rz X (h + 1) mi (pc + 3) ls (zi z :: rest) A B P) : Rz X (h + 1) mi pc ls st I J P := by
  subst hs
  refine rn_callS As hd K hA hst hv ?_ E ?_ ?_
  · rintro r M' ⟨A, B, rfl, z, e, q⟩; exact Or.inl rfl
  · rintro r M' ⟨A, B, rfl, z, e, q⟩; exact Or.inr (Or.inl ⟨_, e⟩)
  · rintro r M' ⟨A, B, rfl, z, rfl, q⟩; exact k z A B q
theorem rz_cSI (hd : decode mi.2.1 pc = .ok (.invokestatic idx, 3)) (K : LkS mi.1.cls idx mi' n) (E : KI X h mi' As I J z A B) (hs : st = As.reverse ++ rest) (hA : As.length = n) (hst : (rest.map fun v => v.category).sum ≤ 8) (hv : (entL0 As).length ≤ mi'.2.2.1) (k : Rz X (h + 1) mi (pc + 3) ls (zi z :: rest) A B P) : Rz X (h + 1) mi pc ls st I J P := rz_cSIq hd K E hs hA hst hv (fun z' A' B' q => by obtain ⟨rfl, rfl, rfl⟩ := q; exact k)
theorem rz_cSLq {Q : Int → IM → IM → Prop} (hd : decode mi.2.1 pc = .ok (.invokestatic idx, 3)) (K : LkS mi.1.cls idx mi' n) (E : KLq X h mi' As I J Q) (hs : st = As.reverse ++ rest) (hA : As.length = n) (hst : (rest.map fun v => v.category).sum ≤ 8) (hv : (entL0 As).length ≤ mi'.2.2.1) (k : ∀ z A B, Q z A B → Rz X (h + 1) mi (pc + 3) ls (zl z :: rest) A B P) : Rz X (h + 1) mi pc ls st I J P := by
  subst hs
  refine rn_callS As hd K hA hst hv ?_ E ?_ ?_
  · rintro r M' ⟨A, B, rfl, z, e, q⟩; exact Or.inl rfl
  · rintro r M' ⟨A, B, rfl, z, e, q⟩; exact Or.inr (Or.inr ⟨_, e⟩)
  · rintro r M' ⟨A, B, rfl, z, rfl, q⟩; exact k z A B q
theorem rz_cSL (hd : decode mi.2.1 pc = .ok (.invokestatic idx, 3)) (K : LkS mi.1.cls idx mi' n) (E : KL X h mi' As I J z A B) (hs : st = As.reverse ++ rest) (hA : As.length = n) (hst : (rest.map fun v => v.category).sum ≤ 8) (hv : (entL0 As).length ≤ mi'.2.2.1) (k : Rz X (h + 1) mi (pc + 3) ls (zl z :: rest) A B P) : Rz X (h + 1) mi pc ls st I J P := rz_cSLq hd K E hs hA hst hv (fun z' A' B' q => by obtain ⟨rfl, rfl, rfl⟩ := q; exact k)
theorem rz_cSVq {Q : IM → IM → Prop} (hd : decode mi.2.1 pc = .ok (.invokestatic idx, 3)) (K : LkS mi.1.cls idx mi' n) (E : KVq X h mi' As I J Q) (hs : st = As.reverse ++ rest) (hA : As.length = n) (hst : (rest.map fun v => v.category).sum ≤ 8) (hv : (entL0 As).length ≤ mi'.2.2.1) (k : ∀ A B, Q A B → Rz X (h + 1) mi (pc + 3) ls rest A B P) : Rz X (h + 1) mi pc ls st I J P := by
  subst hs
  refine rn_callS As hd K hA hst hv ?_ E ?_ ?_
  · rintro r M' ⟨A, B, rfl, e, q⟩; exact Or.inl rfl
  · rintro r M' ⟨A, B, rfl, e, q⟩; exact Or.inl e
  · rintro r M' ⟨A, B, rfl, rfl, q⟩; exact k A B q
theorem rz_cSV (hd : decode mi.2.1 pc = .ok (.invokestatic idx, 3)) (K : LkS mi.1.cls idx mi' n) (E : KV X h mi' As I J A B) (hs : st = As.reverse ++ rest) (hA : As.length = n) (hst : (rest.map fun v => v.category).sum ≤ 8) (hv : (entL0 As).length ≤ mi'.2.2.1) (k : Rz X (h + 1) mi (pc + 3) ls rest A B P) : Rz X (h + 1) mi pc ls st I J P := rz_cSVq hd K E hs hA hst hv (fun A' B' q => by obtain ⟨rfl, rfl⟩ := q; exact k)
theorem rz_cNIq {Q : Int → IM → IM → Prop} (hd : decode mi.2.1 pc = .ok (.invokestatic idx, 3)) (K : LkN mi.1.cls idx mi' n RX11) (E : KIq X h mi' As I J Q) (hs : st = As.reverse ++ rest) (hA : As.length = n) (hst : (rest.map fun v => v.category).sum ≤ 8) (hv : (entL0 As).length ≤ mi'.2.2.1) (k : ∀ z A B, Q z A B → Rz X (h + 1) mi (pc + 3) ls (zi z :: rest) A B P) : Rz X (h + 1) mi pc ls st I J P := by
  subst hs
  refine rn_callN As hd K hA hst hv ?_ E ?_ ?_
  · rintro r M' ⟨A, B, rfl, z, e, q⟩; exact Or.inl rfl
  · rintro r M' ⟨A, B, rfl, z, e, q⟩; exact Or.inr (Or.inl ⟨_, e⟩)
  · rintro r M' ⟨A, B, rfl, z, rfl, q⟩; exact k z A B q
theorem rz_cNI (hd : decode mi.2.1 pc = .ok (.invokestatic idx, 3)) (K : LkN mi.1.cls idx mi' n RX11) (E : KI X h mi' As I J z A B) (hs : st = As.reverse ++ rest) (hA : As.length = n) (hst : (rest.map fun v => v.category).sum ≤ 8) (hv : (entL0 As).length ≤ mi'.2.2.1) (k : Rz X (h + 1) mi (pc + 3) ls (zi z :: rest) A B P) : Rz X (h + 1) mi pc ls st I J P := rz_cNIq hd K E hs hA hst hv (fun z' A' B' q => by obtain ⟨rfl, rfl, rfl⟩ := q; exact k)
theorem rz_cNLq {Q : Int → IM → IM → Prop} (hd : decode mi.2.1 pc = .ok (.invokestatic idx, 3)) (K : LkN mi.1.cls idx mi' n RX11) (E : KLq X h mi' As I J Q) (hs : st = As.reverse ++ rest) (hA : As.length = n) (hst : (rest.map fun v => v.category).sum ≤ 8) (hv : (entL0 As).length ≤ mi'.2.2.1) (k : ∀ z A B, Q z A B → Rz X (h + 1) mi (pc + 3) ls (zl z :: rest) A B P) : Rz X (h + 1) mi pc ls st I J P := by
  subst hs
  refine rn_callN As hd K hA hst hv ?_ E ?_ ?_
  · rintro r M' ⟨A, B, rfl, z, e, q⟩; exact Or.inl rfl
  · rintro r M' ⟨A, B, rfl, z, e, q⟩; exact Or.inr (Or.inr ⟨_, e⟩)
  · rintro r M' ⟨A, B, rfl, z, rfl, q⟩; exact k z A B q
theorem rz_cNL (hd : decode mi.2.1 pc = .ok (.invokestatic idx, 3)) (K : LkN mi.1.cls idx mi' n RX11) (E : KL X h mi' As I J z A B) (hs : st = As.reverse ++ rest) (hA : As.length = n) (hst : (rest.map fun v => v.category).sum ≤ 8) (hv : (entL0 As).length ≤ mi'.2.2.1) (k : Rz X (h + 1) mi (pc + 3) ls (zl z :: rest) A B P) : Rz X (h + 1) mi pc ls st I J P := rz_cNLq hd K E hs hA hst hv (fun z' A' B' q => by obtain ⟨rfl, rfl, rfl⟩ := q; exact k)
theorem rz_cNVq {Q : IM → IM → Prop} (hd : decode mi.2.1 pc = .ok (.invokestatic idx, 3)) (K : LkN mi.1.cls idx mi' n RX11) (E : KVq X h mi' As I J Q) (hs : st = As.reverse ++ rest) (hA : As.length = n) (hst : (rest.map fun v => v.category).sum ≤ 8) (hv : (entL0 As).length ≤ mi'.2.2.1) (k : ∀ A B, Q A B → Rz X (h + 1) mi (pc + 3) ls rest A B P) : Rz X (h + 1) mi pc ls st I J P := by
  subst hs
  refine rn_callN As hd K hA hst hv ?_ E ?_ ?_
  · rintro r M' ⟨A, B, rfl, e, q⟩; exact Or.inl rfl
  · rintro r M' ⟨A, B, rfl, e, q⟩; exact Or.inl e
  · rintro r M' ⟨A, B, rfl, rfl, q⟩; exact k A B q
theorem rz_cNV (hd : decode mi.2.1 pc = .ok (.invokestatic idx, 3)) (K : LkN mi.1.cls idx mi' n RX11) (E : KV X h mi' As I J A B) (hs : st = As.reverse ++ rest) (hA : As.length = n) (hst : (rest.map fun v => v.category).sum ≤ 8) (hv : (entL0 As).length ≤ mi'.2.2.1) (k : Rz X (h + 1) mi (pc + 3) ls rest A B P) : Rz X (h + 1) mi pc ls st I J P := rz_cNVq hd K E hs hA hst hv (fun A' B' q => by obtain ⟨rfl, rfl⟩ := q; exact k)
end RZC
