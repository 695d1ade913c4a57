/-! THE LAYOUT behind the constructors (wip/whole/gen5.py) -/
theorem aldI {sh : List aSh} {σ : Nat → Nat → Int32} {h nn : Nat} {jv : Int32} {K : Value → Option aRs} (hs : sh[h]? = some (0, nn, [])) : ald (sh, σ) h jv K = if inb jv nn = true then K (.int (σ h (ix jv))) else none := by
  unfold ald rdI
  simp only [hs, true_and]
  by_cases hc : inb jv nn = true
  · simp only [if_pos hc]
  · simp only [if_neg hc]
theorem astI {sh : List aSh} {σ : Nat → Nat → Int32} {h nn : Nat} {jv xv : Int32} {K : aSt → Option aRs} (hs : sh[h]? = some (0, nn, [])) : ast (sh, σ) h jv xv K = if inb jv nn = true then K (sh, su σ h (ix jv) xv) else none := by
  unfold ast shA
  simp only [hs, true_and]
  by_cases hc : inb jv nn = true
  · simp only [if_pos hc]
  · simp only [if_neg hc]
theorem bldI {sh : List aSh} {σ : Nat → Nat → Int32} {h nn : Nat} {jv : Int32} {K : Value → Option aRs} (hs : sh[h]? = some (1, nn, [])) : bld (sh, σ) h jv K = if inb jv nn = true then K (.int (σ h (ix jv))) else none := by
  unfold bld rdB
  simp only [hs, true_and]
  by_cases hc : inb jv nn = true
  · simp only [if_pos hc]
  · simp only [if_neg hc]
theorem bstI {sh : List aSh} {σ : Nat → Nat → Int32} {h nn : Nat} {jv xv : Int32} {K : aSt → Option aRs} (hs : sh[h]? = some (1, nn, [])) : bst (sh, σ) h jv xv K = if inb jv nn = true then K (sh, su σ h (ix jv) xv.toInt8.toInt32) else none := by
  unfold bst shA
  simp only [hs, true_and]
  by_cases hc : inb jv nn = true
  · simp only [if_pos hc]
  · simp only [if_neg hc]
def shp : List aSh := [
  (26, 11, [some 1, some 34, some 36, some 46, some 56, some 66, some 67, some 68, some 69, none, none]),
  (20, 2, [some 2, some 3]),
  (6, 15, [some 4, some 6, some 8, some 10, some 12, some 14, some 16, some 18, some 20, some 22, some 24, some 26, some 28, some 30, some 32]),
  (0, 96, []),
  (24, 4, [some 5, none, none, none]),
  (0, 96, []),
  (24, 4, [some 7, none, none, none]),
  (0, 96, []),
  (24, 4, [some 9, none, none, none]),
  (0, 96, []),
  (24, 4, [some 11, none, none, none]),
  (0, 96, []),
  (24, 4, [some 13, none, none, none]),
  (0, 96, []),
  (24, 4, [some 15, none, none, none]),
  (0, 96, []),
  (24, 4, [some 17, none, none, none]),
  (0, 96, []),
  (24, 4, [some 19, none, none, none]),
  (0, 96, []),
  (24, 4, [some 21, none, none, none]),
  (0, 96, []),
  (24, 4, [some 23, none, none, none]),
  (0, 96, []),
  (24, 4, [some 25, none, none, none]),
  (0, 96, []),
  (24, 4, [some 27, none, none, none]),
  (0, 96, []),
  (24, 4, [some 29, none, none, none]),
  (0, 96, []),
  (24, 4, [some 31, none, none, none]),
  (0, 96, []),
  (24, 4, [some 33, none, none, none]),
  (0, 96, []),
  (21, 8, [some 35, none, none, none, none, none, none, none]),
  (1, 96, []),
  (25, 18, [some 1, some 37, some 38, some 39, some 40, some 41, some 42, some 43, some 44, some 45, none, none, none, none, none, none, none, none]),
  (0, 8, []),
  (0, 8, []),
  (0, 8, []),
  (0, 8, []),
  (0, 8, []),
  (0, 8, []),
  (0, 20, []),
  (0, 3, []),
  (0, 3, []),
  (25, 18, [some 1, some 47, some 48, some 49, some 50, some 51, some 52, some 53, some 54, some 55, none, none, none, none, none, none, none, none]),
  (0, 8, []),
  (0, 8, []),
  (0, 8, []),
  (0, 8, []),
  (0, 8, []),
  (0, 8, []),
  (0, 20, []),
  (0, 3, []),
  (0, 3, []),
  (25, 18, [some 1, some 57, some 58, some 59, some 60, some 61, some 62, some 63, some 64, some 65, none, none, none, none, none, none, none, none]),
  (0, 8, []),
  (0, 8, []),
  (0, 8, []),
  (0, 8, []),
  (0, 8, []),
  (0, 8, []),
  (0, 20, []),
  (0, 3, []),
  (0, 3, []),
  (4, 4, [some 70, some 72, some 74, some 76]),
  (5, 5, [some 78, some 81, some 84, some 87, some 90]),
  (0, 60, []),
  (0, 8, []),
  (22, 3, [some 71, none, none]),
  (0, 24, []),
  (22, 3, [some 73, none, none]),
  (0, 24, []),
  (22, 3, [some 75, none, none]),
  (0, 24, []),
  (22, 3, [some 77, none, none]),
  (0, 24, []),
  (23, 5, [some 79, none, none, none, none]),
  (22, 3, [some 80, none, none]),
  (0, 24, []),
  (23, 5, [some 82, none, none, none, none]),
  (22, 3, [some 83, none, none]),
  (0, 24, []),
  (23, 5, [some 85, none, none, none, none]),
  (22, 3, [some 86, none, none]),
  (0, 24, []),
  (23, 5, [some 88, none, none, none, none]),
  (22, 3, [some 89, none, none]),
  (0, 24, []),
  (23, 5, [some 91, none, none, none, none]),
  (22, 3, [some 92, none, none]),
  (0, 24, []),
  (27, 32, [some 94, some 95, some 96, none, some 97, some 98, some 99, some 100, some 101, some 102, some 103, some 104, some 105, some 106, some 107, none, none, none, none, none, none, none, none, none, none, none, some 108, some 109, some 110, some 111, none, some 112]),
  (0, 3051, []),
  (0, 3051, []),
  (0, 3051, []),
  (0, 4, []),
  (0, 4, []),
  (0, 96, []),
  (0, 5, []),
  (0, 5, []),
  (0, 5, []),
  (0, 5, []),
  (0, 120, []),
  (0, 8, []),
  (0, 51, []),
  (0, 96, []),
  (0, 128, []),
  (0, 100, []),
  (0, 24, []),
  (0, 60, []),
  (0, 60, [])]
theorem sh_len : shp.length = 113 := rfl
theorem sh_1000 {σ : Nat → Nat → Int32} : ((shp, σ) : aSt).1[1000]? = none := rfl
theorem sh_0 : shp[0]? = some (26, 11, [some 1, some 34, some 36, some 46, some 56, some 66, some 67, some 68, some 69, none, none]) := rfl
theorem sh_1 : shp[1]? = some (20, 2, [some 2, some 3]) := rfl
theorem sh_2 : shp[2]? = some (6, 15, [some 4, some 6, some 8, some 10, some 12, some 14, some 16, some 18, some 20, some 22, some 24, some 26, some 28, some 30, some 32]) := rfl
theorem sh_3 : shp[3]? = some (0, 96, []) := rfl
theorem sh_4 : shp[4]? = some (24, 4, [some 5, none, none, none]) := rfl
theorem sh_5 : shp[5]? = some (0, 96, []) := rfl
theorem sh_6 : shp[6]? = some (24, 4, [some 7, none, none, none]) := rfl
theorem sh_7 : shp[7]? = some (0, 96, []) := rfl
theorem sh_8 : shp[8]? = some (24, 4, [some 9, none, none, none]) := rfl
theorem sh_9 : shp[9]? = some (0, 96, []) := rfl
theorem sh_10 : shp[10]? = some (24, 4, [some 11, none, none, none]) := rfl
theorem sh_11 : shp[11]? = some (0, 96, []) := rfl
theorem sh_12 : shp[12]? = some (24, 4, [some 13, none, none, none]) := rfl
theorem sh_13 : shp[13]? = some (0, 96, []) := rfl
theorem sh_14 : shp[14]? = some (24, 4, [some 15, none, none, none]) := rfl
theorem sh_15 : shp[15]? = some (0, 96, []) := rfl
theorem sh_16 : shp[16]? = some (24, 4, [some 17, none, none, none]) := rfl
theorem sh_17 : shp[17]? = some (0, 96, []) := rfl
theorem sh_18 : shp[18]? = some (24, 4, [some 19, none, none, none]) := rfl
theorem sh_19 : shp[19]? = some (0, 96, []) := rfl
theorem sh_20 : shp[20]? = some (24, 4, [some 21, none, none, none]) := rfl
theorem sh_21 : shp[21]? = some (0, 96, []) := rfl
theorem sh_22 : shp[22]? = some (24, 4, [some 23, none, none, none]) := rfl
theorem sh_23 : shp[23]? = some (0, 96, []) := rfl
theorem sh_24 : shp[24]? = some (24, 4, [some 25, none, none, none]) := rfl
theorem sh_25 : shp[25]? = some (0, 96, []) := rfl
theorem sh_26 : shp[26]? = some (24, 4, [some 27, none, none, none]) := rfl
theorem sh_27 : shp[27]? = some (0, 96, []) := rfl
theorem sh_28 : shp[28]? = some (24, 4, [some 29, none, none, none]) := rfl
theorem sh_29 : shp[29]? = some (0, 96, []) := rfl
theorem sh_30 : shp[30]? = some (24, 4, [some 31, none, none, none]) := rfl
theorem sh_31 : shp[31]? = some (0, 96, []) := rfl
theorem sh_32 : shp[32]? = some (24, 4, [some 33, none, none, none]) := rfl
theorem sh_33 : shp[33]? = some (0, 96, []) := rfl
theorem sh_34 : shp[34]? = some (21, 8, [some 35, none, none, none, none, none, none, none]) := rfl
theorem sh_35 : shp[35]? = some (1, 96, []) := rfl
theorem sh_36 : shp[36]? = some (25, 18, [some 1, some 37, some 38, some 39, some 40, some 41, some 42, some 43, some 44, some 45, none, none, none, none, none, none, none, none]) := rfl
theorem sh_37 : shp[37]? = some (0, 8, []) := rfl
theorem sh_38 : shp[38]? = some (0, 8, []) := rfl
theorem sh_39 : shp[39]? = some (0, 8, []) := rfl
theorem sh_40 : shp[40]? = some (0, 8, []) := rfl
theorem sh_41 : shp[41]? = some (0, 8, []) := rfl
theorem sh_42 : shp[42]? = some (0, 8, []) := rfl
theorem sh_43 : shp[43]? = some (0, 20, []) := rfl
theorem sh_44 : shp[44]? = some (0, 3, []) := rfl
theorem sh_45 : shp[45]? = some (0, 3, []) := rfl
theorem sh_46 : shp[46]? = some (25, 18, [some 1, some 47, some 48, some 49, some 50, some 51, some 52, some 53, some 54, some 55, none, none, none, none, none, none, none, none]) := rfl
theorem sh_47 : shp[47]? = some (0, 8, []) := rfl
theorem sh_48 : shp[48]? = some (0, 8, []) := rfl
theorem sh_49 : shp[49]? = some (0, 8, []) := rfl
theorem sh_50 : shp[50]? = some (0, 8, []) := rfl
theorem sh_51 : shp[51]? = some (0, 8, []) := rfl
theorem sh_52 : shp[52]? = some (0, 8, []) := rfl
theorem sh_53 : shp[53]? = some (0, 20, []) := rfl
theorem sh_54 : shp[54]? = some (0, 3, []) := rfl
theorem sh_55 : shp[55]? = some (0, 3, []) := rfl
theorem sh_56 : shp[56]? = some (25, 18, [some 1, some 57, some 58, some 59, some 60, some 61, some 62, some 63, some 64, some 65, none, none, none, none, none, none, none, none]) := rfl
theorem sh_57 : shp[57]? = some (0, 8, []) := rfl
theorem sh_58 : shp[58]? = some (0, 8, []) := rfl
theorem sh_59 : shp[59]? = some (0, 8, []) := rfl
theorem sh_60 : shp[60]? = some (0, 8, []) := rfl
theorem sh_61 : shp[61]? = some (0, 8, []) := rfl
theorem sh_62 : shp[62]? = some (0, 8, []) := rfl
theorem sh_63 : shp[63]? = some (0, 20, []) := rfl
theorem sh_64 : shp[64]? = some (0, 3, []) := rfl
theorem sh_65 : shp[65]? = some (0, 3, []) := rfl
theorem sh_66 : shp[66]? = some (4, 4, [some 70, some 72, some 74, some 76]) := rfl
theorem sh_67 : shp[67]? = some (5, 5, [some 78, some 81, some 84, some 87, some 90]) := rfl
theorem sh_68 : shp[68]? = some (0, 60, []) := rfl
theorem sh_69 : shp[69]? = some (0, 8, []) := rfl
theorem sh_70 : shp[70]? = some (22, 3, [some 71, none, none]) := rfl
theorem sh_71 : shp[71]? = some (0, 24, []) := rfl
theorem sh_72 : shp[72]? = some (22, 3, [some 73, none, none]) := rfl
theorem sh_73 : shp[73]? = some (0, 24, []) := rfl
theorem sh_74 : shp[74]? = some (22, 3, [some 75, none, none]) := rfl
theorem sh_75 : shp[75]? = some (0, 24, []) := rfl
theorem sh_76 : shp[76]? = some (22, 3, [some 77, none, none]) := rfl
theorem sh_77 : shp[77]? = some (0, 24, []) := rfl
theorem sh_78 : shp[78]? = some (23, 5, [some 79, none, none, none, none]) := rfl
theorem sh_79 : shp[79]? = some (22, 3, [some 80, none, none]) := rfl
theorem sh_80 : shp[80]? = some (0, 24, []) := rfl
theorem sh_81 : shp[81]? = some (23, 5, [some 82, none, none, none, none]) := rfl
theorem sh_82 : shp[82]? = some (22, 3, [some 83, none, none]) := rfl
theorem sh_83 : shp[83]? = some (0, 24, []) := rfl
theorem sh_84 : shp[84]? = some (23, 5, [some 85, none, none, none, none]) := rfl
theorem sh_85 : shp[85]? = some (22, 3, [some 86, none, none]) := rfl
theorem sh_86 : shp[86]? = some (0, 24, []) := rfl
theorem sh_87 : shp[87]? = some (23, 5, [some 88, none, none, none, none]) := rfl
theorem sh_88 : shp[88]? = some (22, 3, [some 89, none, none]) := rfl
theorem sh_89 : shp[89]? = some (0, 24, []) := rfl
theorem sh_90 : shp[90]? = some (23, 5, [some 91, none, none, none, none]) := rfl
theorem sh_91 : shp[91]? = some (22, 3, [some 92, none, none]) := rfl
theorem sh_92 : shp[92]? = some (0, 24, []) := rfl
theorem sh_93 : shp[93]? = some (27, 32, [some 94, some 95, some 96, none, some 97, some 98, some 99, some 100, some 101, some 102, some 103, some 104, some 105, some 106, some 107, none, none, none, none, none, none, none, none, none, none, none, some 108, some 109, some 110, some 111, none, some 112]) := rfl
theorem sh_94 : shp[94]? = some (0, 3051, []) := rfl
theorem sh_95 : shp[95]? = some (0, 3051, []) := rfl
theorem sh_96 : shp[96]? = some (0, 3051, []) := rfl
theorem sh_97 : shp[97]? = some (0, 4, []) := rfl
theorem sh_98 : shp[98]? = some (0, 4, []) := rfl
theorem sh_99 : shp[99]? = some (0, 96, []) := rfl
theorem sh_100 : shp[100]? = some (0, 5, []) := rfl
theorem sh_101 : shp[101]? = some (0, 5, []) := rfl
theorem sh_102 : shp[102]? = some (0, 5, []) := rfl
theorem sh_103 : shp[103]? = some (0, 5, []) := rfl
theorem sh_104 : shp[104]? = some (0, 120, []) := rfl
theorem sh_105 : shp[105]? = some (0, 8, []) := rfl
theorem sh_106 : shp[106]? = some (0, 51, []) := rfl
theorem sh_107 : shp[107]? = some (0, 96, []) := rfl
theorem sh_108 : shp[108]? = some (0, 128, []) := rfl
theorem sh_109 : shp[109]? = some (0, 100, []) := rfl
theorem sh_110 : shp[110]? = some (0, 24, []) := rfl
theorem sh_111 : shp[111]? = some (0, 60, []) := rfl
theorem sh_112 : shp[112]? = some (0, 60, []) := rfl
theorem gX_0 {σ : Nat → Nat → Int32} {K : Value → Option aRs} : gfK (shp, σ) 0 6 0 K = K (.ref 1) := rfl
theorem gX_1 {σ : Nat → Nat → Int32} {K : Value → Option aRs} : gfK (shp, σ) 0 6 1 K = K (.ref 34) := rfl
theorem gX_2 {σ : Nat → Nat → Int32} {K : Value → Option aRs} : gfK (shp, σ) 0 6 2 K = K (.ref 36) := rfl
theorem gX_3 {σ : Nat → Nat → Int32} {K : Value → Option aRs} : gfK (shp, σ) 0 6 3 K = K (.ref 46) := rfl
theorem gX_4 {σ : Nat → Nat → Int32} {K : Value → Option aRs} : gfK (shp, σ) 0 6 4 K = K (.ref 56) := rfl
theorem gX_5 {σ : Nat → Nat → Int32} {K : Value → Option aRs} : gfK (shp, σ) 0 6 5 K = K (.ref 66) := rfl
theorem gX_6 {σ : Nat → Nat → Int32} {K : Value → Option aRs} : gfK (shp, σ) 0 6 6 K = K (.ref 67) := rfl
theorem gX_7 {σ : Nat → Nat → Int32} {K : Value → Option aRs} : gfK (shp, σ) 0 6 7 K = K (.ref 68) := rfl
theorem gX_8 {σ : Nat → Nat → Int32} {K : Value → Option aRs} : gfK (shp, σ) 0 6 8 K = K (.ref 69) := rfl
theorem gX_9 {σ : Nat → Nat → Int32} {K : Value → Option aRs} : gfK (shp, σ) 0 6 9 K = K (.int (σ 0 9)) := rfl
theorem pX_9 {σ : Nat → Nat → Int32} {xv : Int32} {K : aSt → Option aRs} : pfK (shp, σ) 0 6 9 xv K = K (shp, su σ 0 9 xv) := rfl
theorem gX_10 {σ : Nat → Nat → Int32} {K : Value → Option aRs} : gfK (shp, σ) 0 6 10 K = K (.int (σ 0 10)) := rfl
theorem pX_10 {σ : Nat → Nat → Int32} {xv : Int32} {K : aSt → Option aRs} : pfK (shp, σ) 0 6 10 xv K = K (shp, su σ 0 10 xv) := rfl
theorem vX {σ : Nat → Nat → Int32} {xx : Option aRs} {K : Option Value → aSt → Option aRs} : clV (shp, σ) 0 7 xx K = clK xx K := rfl
theorem gL_0 {σ : Nat → Nat → Int32} {K : Value → Option aRs} : gfK (shp, σ) 1 0 0 K = K (.ref 2) := rfl
theorem gL_1 {σ : Nat → Nat → Int32} {K : Value → Option aRs} : gfK (shp, σ) 1 0 1 K = K (.ref 3) := rfl
theorem vL {σ : Nat → Nat → Int32} {xx : Option aRs} {K : Option Value → aSt → Option aRs} : clV (shp, σ) 1 1 xx K = clK xx K := rfl
theorem gR_0 {σ : Nat → Nat → Int32} {K : Value → Option aRs} : gfK (shp, σ) 34 1 0 K = K (.ref 35) := rfl
theorem gR_1 {σ : Nat → Nat → Int32} {K : Value → Option aRs} : gfK (shp, σ) 34 1 1 K = K (.int (σ 34 1)) := rfl
theorem pR_1 {σ : Nat → Nat → Int32} {xv : Int32} {K : aSt → Option aRs} : pfK (shp, σ) 34 1 1 xv K = K (shp, su σ 34 1 xv) := rfl
theorem gR_2 {σ : Nat → Nat → Int32} {K : Value → Option aRs} : gfK (shp, σ) 34 1 2 K = K (.int (σ 34 2)) := rfl
theorem pR_2 {σ : Nat → Nat → Int32} {xv : Int32} {K : aSt → Option aRs} : pfK (shp, σ) 34 1 2 xv K = K (shp, su σ 34 2 xv) := rfl
theorem gR_3 {σ : Nat → Nat → Int32} {K : Value → Option aRs} : gfK (shp, σ) 34 1 3 K = K (.int (σ 34 3)) := rfl
theorem pR_3 {σ : Nat → Nat → Int32} {xv : Int32} {K : aSt → Option aRs} : pfK (shp, σ) 34 1 3 xv K = K (shp, su σ 34 3 xv) := rfl
theorem gR_4 {σ : Nat → Nat → Int32} {K : Value → Option aRs} : gfK (shp, σ) 34 1 4 K = K (.int (σ 34 4)) := rfl
theorem pR_4 {σ : Nat → Nat → Int32} {xv : Int32} {K : aSt → Option aRs} : pfK (shp, σ) 34 1 4 xv K = K (shp, su σ 34 4 xv) := rfl
theorem gR_5 {σ : Nat → Nat → Int32} {K : Value → Option aRs} : gfK (shp, σ) 34 1 5 K = K (.int (σ 34 5)) := rfl
theorem pR_5 {σ : Nat → Nat → Int32} {xv : Int32} {K : aSt → Option aRs} : pfK (shp, σ) 34 1 5 xv K = K (shp, su σ 34 5 xv) := rfl
theorem gR_6 {σ : Nat → Nat → Int32} {K : Value → Option aRs} : gfK (shp, σ) 34 1 6 K = K (.int (σ 34 6)) := rfl
theorem pR_6 {σ : Nat → Nat → Int32} {xv : Int32} {K : aSt → Option aRs} : pfK (shp, σ) 34 1 6 xv K = K (shp, su σ 34 6 xv) := rfl
theorem gR_7 {σ : Nat → Nat → Int32} {K : Value → Option aRs} : gfK (shp, σ) 34 1 7 K = K (.int (σ 34 7)) := rfl
theorem pR_7 {σ : Nat → Nat → Int32} {xv : Int32} {K : aSt → Option aRs} : pfK (shp, σ) 34 1 7 xv K = K (shp, su σ 34 7 xv) := rfl
theorem vR {σ : Nat → Nat → Int32} {xx : Option aRs} {K : Option Value → aSt → Option aRs} : clV (shp, σ) 34 2 xx K = clK xx K := rfl
theorem gM_0 {σ : Nat → Nat → Int32} {K : Value → Option aRs} : gfK (shp, σ) 93 7 0 K = K (.ref 94) := rfl
theorem gM_1 {σ : Nat → Nat → Int32} {K : Value → Option aRs} : gfK (shp, σ) 93 7 1 K = K (.ref 95) := rfl
theorem gM_2 {σ : Nat → Nat → Int32} {K : Value → Option aRs} : gfK (shp, σ) 93 7 2 K = K (.ref 96) := rfl
theorem gM_3 {σ : Nat → Nat → Int32} {K : Value → Option aRs} : gfK (shp, σ) 93 7 3 K = K (.int (σ 93 3)) := rfl
theorem pM_3 {σ : Nat → Nat → Int32} {xv : Int32} {K : aSt → Option aRs} : pfK (shp, σ) 93 7 3 xv K = K (shp, su σ 93 3 xv) := rfl
theorem gM_4 {σ : Nat → Nat → Int32} {K : Value → Option aRs} : gfK (shp, σ) 93 7 4 K = K (.ref 97) := rfl
theorem gM_5 {σ : Nat → Nat → Int32} {K : Value → Option aRs} : gfK (shp, σ) 93 7 5 K = K (.ref 98) := rfl
theorem gM_6 {σ : Nat → Nat → Int32} {K : Value → Option aRs} : gfK (shp, σ) 93 7 6 K = K (.ref 99) := rfl
theorem gM_7 {σ : Nat → Nat → Int32} {K : Value → Option aRs} : gfK (shp, σ) 93 7 7 K = K (.ref 100) := rfl
theorem gM_8 {σ : Nat → Nat → Int32} {K : Value → Option aRs} : gfK (shp, σ) 93 7 8 K = K (.ref 101) := rfl
theorem gM_9 {σ : Nat → Nat → Int32} {K : Value → Option aRs} : gfK (shp, σ) 93 7 9 K = K (.ref 102) := rfl
theorem gM_10 {σ : Nat → Nat → Int32} {K : Value → Option aRs} : gfK (shp, σ) 93 7 10 K = K (.ref 103) := rfl
theorem gM_11 {σ : Nat → Nat → Int32} {K : Value → Option aRs} : gfK (shp, σ) 93 7 11 K = K (.ref 104) := rfl
theorem gM_12 {σ : Nat → Nat → Int32} {K : Value → Option aRs} : gfK (shp, σ) 93 7 12 K = K (.ref 105) := rfl
theorem gM_13 {σ : Nat → Nat → Int32} {K : Value → Option aRs} : gfK (shp, σ) 93 7 13 K = K (.ref 106) := rfl
theorem gM_14 {σ : Nat → Nat → Int32} {K : Value → Option aRs} : gfK (shp, σ) 93 7 14 K = K (.ref 107) := rfl
theorem gM_15 {σ : Nat → Nat → Int32} {K : Value → Option aRs} : gfK (shp, σ) 93 7 15 K = K (.int (σ 93 15)) := rfl
theorem pM_15 {σ : Nat → Nat → Int32} {xv : Int32} {K : aSt → Option aRs} : pfK (shp, σ) 93 7 15 xv K = K (shp, su σ 93 15 xv) := rfl
theorem gM_16 {σ : Nat → Nat → Int32} {K : Value → Option aRs} : gfK (shp, σ) 93 7 16 K = K (.int (σ 93 16)) := rfl
theorem pM_16 {σ : Nat → Nat → Int32} {xv : Int32} {K : aSt → Option aRs} : pfK (shp, σ) 93 7 16 xv K = K (shp, su σ 93 16 xv) := rfl
theorem gM_17 {σ : Nat → Nat → Int32} {K : Value → Option aRs} : gfK (shp, σ) 93 7 17 K = K (.int (σ 93 17)) := rfl
theorem pM_17 {σ : Nat → Nat → Int32} {xv : Int32} {K : aSt → Option aRs} : pfK (shp, σ) 93 7 17 xv K = K (shp, su σ 93 17 xv) := rfl
theorem gM_18 {σ : Nat → Nat → Int32} {K : Value → Option aRs} : gfK (shp, σ) 93 7 18 K = K (.int (σ 93 18)) := rfl
theorem pM_18 {σ : Nat → Nat → Int32} {xv : Int32} {K : aSt → Option aRs} : pfK (shp, σ) 93 7 18 xv K = K (shp, su σ 93 18 xv) := rfl
theorem gM_19 {σ : Nat → Nat → Int32} {K : Value → Option aRs} : gfK (shp, σ) 93 7 19 K = K (.int (σ 93 19)) := rfl
theorem pM_19 {σ : Nat → Nat → Int32} {xv : Int32} {K : aSt → Option aRs} : pfK (shp, σ) 93 7 19 xv K = K (shp, su σ 93 19 xv) := rfl
theorem gM_20 {σ : Nat → Nat → Int32} {K : Value → Option aRs} : gfK (shp, σ) 93 7 20 K = K (.int (σ 93 20)) := rfl
theorem pM_20 {σ : Nat → Nat → Int32} {xv : Int32} {K : aSt → Option aRs} : pfK (shp, σ) 93 7 20 xv K = K (shp, su σ 93 20 xv) := rfl
theorem gM_21 {σ : Nat → Nat → Int32} {K : Value → Option aRs} : gfK (shp, σ) 93 7 21 K = K (.int (σ 93 21)) := rfl
theorem pM_21 {σ : Nat → Nat → Int32} {xv : Int32} {K : aSt → Option aRs} : pfK (shp, σ) 93 7 21 xv K = K (shp, su σ 93 21 xv) := rfl
theorem gM_22 {σ : Nat → Nat → Int32} {K : Value → Option aRs} : gfK (shp, σ) 93 7 22 K = K (.int (σ 93 22)) := rfl
theorem pM_22 {σ : Nat → Nat → Int32} {xv : Int32} {K : aSt → Option aRs} : pfK (shp, σ) 93 7 22 xv K = K (shp, su σ 93 22 xv) := rfl
theorem gM_23 {σ : Nat → Nat → Int32} {K : Value → Option aRs} : gfK (shp, σ) 93 7 23 K = K (.int (σ 93 23)) := rfl
theorem pM_23 {σ : Nat → Nat → Int32} {xv : Int32} {K : aSt → Option aRs} : pfK (shp, σ) 93 7 23 xv K = K (shp, su σ 93 23 xv) := rfl
theorem gM_24 {σ : Nat → Nat → Int32} {K : Value → Option aRs} : gfK (shp, σ) 93 7 24 K = K (.int (σ 93 24)) := rfl
theorem pM_24 {σ : Nat → Nat → Int32} {xv : Int32} {K : aSt → Option aRs} : pfK (shp, σ) 93 7 24 xv K = K (shp, su σ 93 24 xv) := rfl
theorem gM_25 {σ : Nat → Nat → Int32} {K : Value → Option aRs} : gfK (shp, σ) 93 7 25 K = K (.int (σ 93 25)) := rfl
theorem pM_25 {σ : Nat → Nat → Int32} {xv : Int32} {K : aSt → Option aRs} : pfK (shp, σ) 93 7 25 xv K = K (shp, su σ 93 25 xv) := rfl
theorem gM_26 {σ : Nat → Nat → Int32} {K : Value → Option aRs} : gfK (shp, σ) 93 7 26 K = K (.ref 108) := rfl
theorem gM_27 {σ : Nat → Nat → Int32} {K : Value → Option aRs} : gfK (shp, σ) 93 7 27 K = K (.ref 109) := rfl
theorem gM_28 {σ : Nat → Nat → Int32} {K : Value → Option aRs} : gfK (shp, σ) 93 7 28 K = K (.ref 110) := rfl
theorem gM_29 {σ : Nat → Nat → Int32} {K : Value → Option aRs} : gfK (shp, σ) 93 7 29 K = K (.ref 111) := rfl
theorem gM_30 {σ : Nat → Nat → Int32} {K : Value → Option aRs} : gfK (shp, σ) 93 7 30 K = K (.int (σ 93 30)) := rfl
theorem pM_30 {σ : Nat → Nat → Int32} {xv : Int32} {K : aSt → Option aRs} : pfK (shp, σ) 93 7 30 xv K = K (shp, su σ 93 30 xv) := rfl
theorem gM_31 {σ : Nat → Nat → Int32} {K : Value → Option aRs} : gfK (shp, σ) 93 7 31 K = K (.ref 112) := rfl
theorem vM {σ : Nat → Nat → Int32} {xx : Option aRs} {K : Option Value → aSt → Option aRs} : clV (shp, σ) 93 8 xx K = clK xx K := rfl
def isT (h : Nat) : Prop := h = 36 ∨ h = 46 ∨ h = 56
theorem gT_0 {σ : Nat → Nat → Int32} {h : Nat} {K : Value → Option aRs} (hT : isT h) : gfK (shp, σ) h 5 0 K = K (.ref (1)) := by rcases hT with rfl | rfl | rfl <;> rfl
theorem gT_1 {σ : Nat → Nat → Int32} {h : Nat} {K : Value → Option aRs} (hT : isT h) : gfK (shp, σ) h 5 1 K = K (.ref (h + 1)) := by rcases hT with rfl | rfl | rfl <;> rfl
theorem gT_2 {σ : Nat → Nat → Int32} {h : Nat} {K : Value → Option aRs} (hT : isT h) : gfK (shp, σ) h 5 2 K = K (.ref (h + 2)) := by rcases hT with rfl | rfl | rfl <;> rfl
theorem gT_3 {σ : Nat → Nat → Int32} {h : Nat} {K : Value → Option aRs} (hT : isT h) : gfK (shp, σ) h 5 3 K = K (.ref (h + 3)) := by rcases hT with rfl | rfl | rfl <;> rfl
theorem gT_4 {σ : Nat → Nat → Int32} {h : Nat} {K : Value → Option aRs} (hT : isT h) : gfK (shp, σ) h 5 4 K = K (.ref (h + 4)) := by rcases hT with rfl | rfl | rfl <;> rfl
theorem gT_5 {σ : Nat → Nat → Int32} {h : Nat} {K : Value → Option aRs} (hT : isT h) : gfK (shp, σ) h 5 5 K = K (.ref (h + 5)) := by rcases hT with rfl | rfl | rfl <;> rfl
theorem gT_6 {σ : Nat → Nat → Int32} {h : Nat} {K : Value → Option aRs} (hT : isT h) : gfK (shp, σ) h 5 6 K = K (.ref (h + 6)) := by rcases hT with rfl | rfl | rfl <;> rfl
theorem gT_7 {σ : Nat → Nat → Int32} {h : Nat} {K : Value → Option aRs} (hT : isT h) : gfK (shp, σ) h 5 7 K = K (.ref (h + 7)) := by rcases hT with rfl | rfl | rfl <;> rfl
theorem gT_8 {σ : Nat → Nat → Int32} {h : Nat} {K : Value → Option aRs} (hT : isT h) : gfK (shp, σ) h 5 8 K = K (.ref (h + 8)) := by rcases hT with rfl | rfl | rfl <;> rfl
theorem gT_9 {σ : Nat → Nat → Int32} {h : Nat} {K : Value → Option aRs} (hT : isT h) : gfK (shp, σ) h 5 9 K = K (.ref (h + 9)) := by rcases hT with rfl | rfl | rfl <;> rfl
theorem gT_10 {σ : Nat → Nat → Int32} {h : Nat} {K : Value → Option aRs} (hT : isT h) : gfK (shp, σ) h 5 10 K = K (.int (σ h 10)) := by rcases hT with rfl | rfl | rfl <;> rfl
theorem pT_10 {σ : Nat → Nat → Int32} {h : Nat} {xv : Int32} {K : aSt → Option aRs} (hT : isT h) : pfK (shp, σ) h 5 10 xv K = K (shp, su σ h 10 xv) := by rcases hT with rfl | rfl | rfl <;> rfl
theorem gT_11 {σ : Nat → Nat → Int32} {h : Nat} {K : Value → Option aRs} (hT : isT h) : gfK (shp, σ) h 5 11 K = K (.int (σ h 11)) := by rcases hT with rfl | rfl | rfl <;> rfl
theorem pT_11 {σ : Nat → Nat → Int32} {h : Nat} {xv : Int32} {K : aSt → Option aRs} (hT : isT h) : pfK (shp, σ) h 5 11 xv K = K (shp, su σ h 11 xv) := by rcases hT with rfl | rfl | rfl <;> rfl
theorem gT_12 {σ : Nat → Nat → Int32} {h : Nat} {K : Value → Option aRs} (hT : isT h) : gfK (shp, σ) h 5 12 K = K (.int (σ h 12)) := by rcases hT with rfl | rfl | rfl <;> rfl
theorem pT_12 {σ : Nat → Nat → Int32} {h : Nat} {xv : Int32} {K : aSt → Option aRs} (hT : isT h) : pfK (shp, σ) h 5 12 xv K = K (shp, su σ h 12 xv) := by rcases hT with rfl | rfl | rfl <;> rfl
theorem gT_13 {σ : Nat → Nat → Int32} {h : Nat} {K : Value → Option aRs} (hT : isT h) : gfK (shp, σ) h 5 13 K = K (.int (σ h 13)) := by rcases hT with rfl | rfl | rfl <;> rfl
theorem pT_13 {σ : Nat → Nat → Int32} {h : Nat} {xv : Int32} {K : aSt → Option aRs} (hT : isT h) : pfK (shp, σ) h 5 13 xv K = K (shp, su σ h 13 xv) := by rcases hT with rfl | rfl | rfl <;> rfl
theorem gT_14 {σ : Nat → Nat → Int32} {h : Nat} {K : Value → Option aRs} (hT : isT h) : gfK (shp, σ) h 5 14 K = K (.int (σ h 14)) := by rcases hT with rfl | rfl | rfl <;> rfl
theorem pT_14 {σ : Nat → Nat → Int32} {h : Nat} {xv : Int32} {K : aSt → Option aRs} (hT : isT h) : pfK (shp, σ) h 5 14 xv K = K (shp, su σ h 14 xv) := by rcases hT with rfl | rfl | rfl <;> rfl
theorem gT_15 {σ : Nat → Nat → Int32} {h : Nat} {K : Value → Option aRs} (hT : isT h) : gfK (shp, σ) h 5 15 K = K (.int (σ h 15)) := by rcases hT with rfl | rfl | rfl <;> rfl
theorem pT_15 {σ : Nat → Nat → Int32} {h : Nat} {xv : Int32} {K : aSt → Option aRs} (hT : isT h) : pfK (shp, σ) h 5 15 xv K = K (shp, su σ h 15 xv) := by rcases hT with rfl | rfl | rfl <;> rfl
theorem gT_16 {σ : Nat → Nat → Int32} {h : Nat} {K : Value → Option aRs} (hT : isT h) : gfK (shp, σ) h 5 16 K = K (.int (σ h 16)) := by rcases hT with rfl | rfl | rfl <;> rfl
theorem pT_16 {σ : Nat → Nat → Int32} {h : Nat} {xv : Int32} {K : aSt → Option aRs} (hT : isT h) : pfK (shp, σ) h 5 16 xv K = K (shp, su σ h 16 xv) := by rcases hT with rfl | rfl | rfl <;> rfl
theorem gT_17 {σ : Nat → Nat → Int32} {h : Nat} {K : Value → Option aRs} (hT : isT h) : gfK (shp, σ) h 5 17 K = K (.int (σ h 17)) := by rcases hT with rfl | rfl | rfl <;> rfl
theorem pT_17 {σ : Nat → Nat → Int32} {h : Nat} {xv : Int32} {K : aSt → Option aRs} (hT : isT h) : pfK (shp, σ) h 5 17 xv K = K (shp, su σ h 17 xv) := by rcases hT with rfl | rfl | rfl <;> rfl
theorem vT {σ : Nat → Nat → Int32} {h : Nat} {xx : Option aRs} {K : Option Value → aSt → Option aRs} (hT : isT h) : clV (shp, σ) h 6 xx K = clK xx K := by rcases hT with rfl | rfl | rfl <;> rfl
theorem aT_1 {σ : Nat → Nat → Int32} {h : Nat} {jv : Int32} {K : Value → Option aRs} (hT : isT h) : ald (shp, σ) (h + 1) jv K = if inb jv 8 = true then K (.int (σ (h + 1) (ix jv))) else none := aldI (show shp[h + 1]? = some (0, 8, []) by rcases hT with rfl | rfl | rfl <;> rfl)
theorem sT_1 {σ : Nat → Nat → Int32} {h : Nat} {jv xv : Int32} {K : aSt → Option aRs} (hT : isT h) : ast (shp, σ) (h + 1) jv xv K = if inb jv 8 = true then K (shp, su σ (h + 1) (ix jv) xv) else none := astI (show shp[h + 1]? = some (0, 8, []) by rcases hT with rfl | rfl | rfl <;> rfl)
theorem nT_1 {h : Nat} (hT : isT h) : h + 1 ≠ 1000 := by rcases hT with rfl | rfl | rfl <;> decide
theorem aT_2 {σ : Nat → Nat → Int32} {h : Nat} {jv : Int32} {K : Value → Option aRs} (hT : isT h) : ald (shp, σ) (h + 2) jv K = if inb jv 8 = true then K (.int (σ (h + 2) (ix jv))) else none := aldI (show shp[h + 2]? = some (0, 8, []) by rcases hT with rfl | rfl | rfl <;> rfl)
theorem sT_2 {σ : Nat → Nat → Int32} {h : Nat} {jv xv : Int32} {K : aSt → Option aRs} (hT : isT h) : ast (shp, σ) (h + 2) jv xv K = if inb jv 8 = true then K (shp, su σ (h + 2) (ix jv) xv) else none := astI (show shp[h + 2]? = some (0, 8, []) by rcases hT with rfl | rfl | rfl <;> rfl)
theorem nT_2 {h : Nat} (hT : isT h) : h + 2 ≠ 1000 := by rcases hT with rfl | rfl | rfl <;> decide
theorem aT_3 {σ : Nat → Nat → Int32} {h : Nat} {jv : Int32} {K : Value → Option aRs} (hT : isT h) : ald (shp, σ) (h + 3) jv K = if inb jv 8 = true then K (.int (σ (h + 3) (ix jv))) else none := aldI (show shp[h + 3]? = some (0, 8, []) by rcases hT with rfl | rfl | rfl <;> rfl)
theorem sT_3 {σ : Nat → Nat → Int32} {h : Nat} {jv xv : Int32} {K : aSt → Option aRs} (hT : isT h) : ast (shp, σ) (h + 3) jv xv K = if inb jv 8 = true then K (shp, su σ (h + 3) (ix jv) xv) else none := astI (show shp[h + 3]? = some (0, 8, []) by rcases hT with rfl | rfl | rfl <;> rfl)
theorem nT_3 {h : Nat} (hT : isT h) : h + 3 ≠ 1000 := by rcases hT with rfl | rfl | rfl <;> decide
theorem aT_4 {σ : Nat → Nat → Int32} {h : Nat} {jv : Int32} {K : Value → Option aRs} (hT : isT h) : ald (shp, σ) (h + 4) jv K = if inb jv 8 = true then K (.int (σ (h + 4) (ix jv))) else none := aldI (show shp[h + 4]? = some (0, 8, []) by rcases hT with rfl | rfl | rfl <;> rfl)
theorem sT_4 {σ : Nat → Nat → Int32} {h : Nat} {jv xv : Int32} {K : aSt → Option aRs} (hT : isT h) : ast (shp, σ) (h + 4) jv xv K = if inb jv 8 = true then K (shp, su σ (h + 4) (ix jv) xv) else none := astI (show shp[h + 4]? = some (0, 8, []) by rcases hT with rfl | rfl | rfl <;> rfl)
theorem nT_4 {h : Nat} (hT : isT h) : h + 4 ≠ 1000 := by rcases hT with rfl | rfl | rfl <;> decide
theorem aT_5 {σ : Nat → Nat → Int32} {h : Nat} {jv : Int32} {K : Value → Option aRs} (hT : isT h) : ald (shp, σ) (h + 5) jv K = if inb jv 8 = true then K (.int (σ (h + 5) (ix jv))) else none := aldI (show shp[h + 5]? = some (0, 8, []) by rcases hT with rfl | rfl | rfl <;> rfl)
theorem sT_5 {σ : Nat → Nat → Int32} {h : Nat} {jv xv : Int32} {K : aSt → Option aRs} (hT : isT h) : ast (shp, σ) (h + 5) jv xv K = if inb jv 8 = true then K (shp, su σ (h + 5) (ix jv) xv) else none := astI (show shp[h + 5]? = some (0, 8, []) by rcases hT with rfl | rfl | rfl <;> rfl)
theorem nT_5 {h : Nat} (hT : isT h) : h + 5 ≠ 1000 := by rcases hT with rfl | rfl | rfl <;> decide
theorem aT_6 {σ : Nat → Nat → Int32} {h : Nat} {jv : Int32} {K : Value → Option aRs} (hT : isT h) : ald (shp, σ) (h + 6) jv K = if inb jv 8 = true then K (.int (σ (h + 6) (ix jv))) else none := aldI (show shp[h + 6]? = some (0, 8, []) by rcases hT with rfl | rfl | rfl <;> rfl)
theorem sT_6 {σ : Nat → Nat → Int32} {h : Nat} {jv xv : Int32} {K : aSt → Option aRs} (hT : isT h) : ast (shp, σ) (h + 6) jv xv K = if inb jv 8 = true then K (shp, su σ (h + 6) (ix jv) xv) else none := astI (show shp[h + 6]? = some (0, 8, []) by rcases hT with rfl | rfl | rfl <;> rfl)
theorem nT_6 {h : Nat} (hT : isT h) : h + 6 ≠ 1000 := by rcases hT with rfl | rfl | rfl <;> decide
theorem aT_7 {σ : Nat → Nat → Int32} {h : Nat} {jv : Int32} {K : Value → Option aRs} (hT : isT h) : ald (shp, σ) (h + 7) jv K = if inb jv 20 = true then K (.int (σ (h + 7) (ix jv))) else none := aldI (show shp[h + 7]? = some (0, 20, []) by rcases hT with rfl | rfl | rfl <;> rfl)
theorem sT_7 {σ : Nat → Nat → Int32} {h : Nat} {jv xv : Int32} {K : aSt → Option aRs} (hT : isT h) : ast (shp, σ) (h + 7) jv xv K = if inb jv 20 = true then K (shp, su σ (h + 7) (ix jv) xv) else none := astI (show shp[h + 7]? = some (0, 20, []) by rcases hT with rfl | rfl | rfl <;> rfl)
theorem nT_7 {h : Nat} (hT : isT h) : h + 7 ≠ 1000 := by rcases hT with rfl | rfl | rfl <;> decide
theorem aT_8 {σ : Nat → Nat → Int32} {h : Nat} {jv : Int32} {K : Value → Option aRs} (hT : isT h) : ald (shp, σ) (h + 8) jv K = if inb jv 3 = true then K (.int (σ (h + 8) (ix jv))) else none := aldI (show shp[h + 8]? = some (0, 3, []) by rcases hT with rfl | rfl | rfl <;> rfl)
theorem sT_8 {σ : Nat → Nat → Int32} {h : Nat} {jv xv : Int32} {K : aSt → Option aRs} (hT : isT h) : ast (shp, σ) (h + 8) jv xv K = if inb jv 3 = true then K (shp, su σ (h + 8) (ix jv) xv) else none := astI (show shp[h + 8]? = some (0, 3, []) by rcases hT with rfl | rfl | rfl <;> rfl)
theorem nT_8 {h : Nat} (hT : isT h) : h + 8 ≠ 1000 := by rcases hT with rfl | rfl | rfl <;> decide
theorem aT_9 {σ : Nat → Nat → Int32} {h : Nat} {jv : Int32} {K : Value → Option aRs} (hT : isT h) : ald (shp, σ) (h + 9) jv K = if inb jv 3 = true then K (.int (σ (h + 9) (ix jv))) else none := aldI (show shp[h + 9]? = some (0, 3, []) by rcases hT with rfl | rfl | rfl <;> rfl)
theorem sT_9 {σ : Nat → Nat → Int32} {h : Nat} {jv xv : Int32} {K : aSt → Option aRs} (hT : isT h) : ast (shp, σ) (h + 9) jv xv K = if inb jv 3 = true then K (shp, su σ (h + 9) (ix jv) xv) else none := astI (show shp[h + 9]? = some (0, 3, []) by rcases hT with rfl | rfl | rfl <;> rfl)
theorem nT_9 {h : Nat} (hT : isT h) : h + 9 ≠ 1000 := by rcases hT with rfl | rfl | rfl <;> decide
def isH (h : Nat) : Prop := h = 70 ∨ h = 72 ∨ h = 74 ∨ h = 76 ∨ h = 79 ∨ h = 82 ∨ h = 85 ∨ h = 88 ∨ h = 91
theorem gH_0 {σ : Nat → Nat → Int32} {h : Nat} {K : Value → Option aRs} (hT : isH h) : gfK (shp, σ) h 2 0 K = K (.ref (h + 1)) := by rcases hT with rfl | rfl | rfl | rfl | rfl | rfl | rfl | rfl | rfl <;> rfl
theorem gH_1 {σ : Nat → Nat → Int32} {h : Nat} {K : Value → Option aRs} (hT : isH h) : gfK (shp, σ) h 2 1 K = K (.int (σ h 1)) := by rcases hT with rfl | rfl | rfl | rfl | rfl | rfl | rfl | rfl | rfl <;> rfl
theorem pH_1 {σ : Nat → Nat → Int32} {h : Nat} {xv : Int32} {K : aSt → Option aRs} (hT : isH h) : pfK (shp, σ) h 2 1 xv K = K (shp, su σ h 1 xv) := by rcases hT with rfl | rfl | rfl | rfl | rfl | rfl | rfl | rfl | rfl <;> rfl
theorem gH_2 {σ : Nat → Nat → Int32} {h : Nat} {K : Value → Option aRs} (hT : isH h) : gfK (shp, σ) h 2 2 K = K (.int (σ h 2)) := by rcases hT with rfl | rfl | rfl | rfl | rfl | rfl | rfl | rfl | rfl <;> rfl
theorem pH_2 {σ : Nat → Nat → Int32} {h : Nat} {xv : Int32} {K : aSt → Option aRs} (hT : isH h) : pfK (shp, σ) h 2 2 xv K = K (shp, su σ h 2 xv) := by rcases hT with rfl | rfl | rfl | rfl | rfl | rfl | rfl | rfl | rfl <;> rfl
theorem vH {σ : Nat → Nat → Int32} {h : Nat} {xx : Option aRs} {K : Option Value → aSt → Option aRs} (hT : isH h) : clV (shp, σ) h 3 xx K = clK xx K := by rcases hT with rfl | rfl | rfl | rfl | rfl | rfl | rfl | rfl | rfl <;> rfl
theorem aH_1 {σ : Nat → Nat → Int32} {h : Nat} {jv : Int32} {K : Value → Option aRs} (hT : isH h) : ald (shp, σ) (h + 1) jv K = if inb jv 24 = true then K (.int (σ (h + 1) (ix jv))) else none := aldI (show shp[h + 1]? = some (0, 24, []) by rcases hT with rfl | rfl | rfl | rfl | rfl | rfl | rfl | rfl | rfl <;> rfl)
theorem sH_1 {σ : Nat → Nat → Int32} {h : Nat} {jv xv : Int32} {K : aSt → Option aRs} (hT : isH h) : ast (shp, σ) (h + 1) jv xv K = if inb jv 24 = true then K (shp, su σ (h + 1) (ix jv) xv) else none := astI (show shp[h + 1]? = some (0, 24, []) by rcases hT with rfl | rfl | rfl | rfl | rfl | rfl | rfl | rfl | rfl <;> rfl)
theorem nH_1 {h : Nat} (hT : isH h) : h + 1 ≠ 1000 := by rcases hT with rfl | rfl | rfl | rfl | rfl | rfl | rfl | rfl | rfl <;> decide
def isZ (h : Nat) : Prop := h = 78 ∨ h = 81 ∨ h = 84 ∨ h = 87 ∨ h = 90
theorem gZ_0 {σ : Nat → Nat → Int32} {h : Nat} {K : Value → Option aRs} (hT : isZ h) : gfK (shp, σ) h 3 0 K = K (.ref (h + 1)) := by rcases hT with rfl | rfl | rfl | rfl | rfl <;> rfl
theorem gZ_1 {σ : Nat → Nat → Int32} {h : Nat} {K : Value → Option aRs} (hT : isZ h) : gfK (shp, σ) h 3 1 K = K (.int (σ h 1)) := by rcases hT with rfl | rfl | rfl | rfl | rfl <;> rfl
theorem pZ_1 {σ : Nat → Nat → Int32} {h : Nat} {xv : Int32} {K : aSt → Option aRs} (hT : isZ h) : pfK (shp, σ) h 3 1 xv K = K (shp, su σ h 1 xv) := by rcases hT with rfl | rfl | rfl | rfl | rfl <;> rfl
theorem gZ_2 {σ : Nat → Nat → Int32} {h : Nat} {K : Value → Option aRs} (hT : isZ h) : gfK (shp, σ) h 3 2 K = K (.int (σ h 2)) := by rcases hT with rfl | rfl | rfl | rfl | rfl <;> rfl
theorem pZ_2 {σ : Nat → Nat → Int32} {h : Nat} {xv : Int32} {K : aSt → Option aRs} (hT : isZ h) : pfK (shp, σ) h 3 2 xv K = K (shp, su σ h 2 xv) := by rcases hT with rfl | rfl | rfl | rfl | rfl <;> rfl
theorem gZ_3 {σ : Nat → Nat → Int32} {h : Nat} {K : Value → Option aRs} (hT : isZ h) : gfK (shp, σ) h 3 3 K = K (.int (σ h 3)) := by rcases hT with rfl | rfl | rfl | rfl | rfl <;> rfl
theorem pZ_3 {σ : Nat → Nat → Int32} {h : Nat} {xv : Int32} {K : aSt → Option aRs} (hT : isZ h) : pfK (shp, σ) h 3 3 xv K = K (shp, su σ h 3 xv) := by rcases hT with rfl | rfl | rfl | rfl | rfl <;> rfl
theorem gZ_4 {σ : Nat → Nat → Int32} {h : Nat} {K : Value → Option aRs} (hT : isZ h) : gfK (shp, σ) h 3 4 K = K (.int (σ h 4)) := by rcases hT with rfl | rfl | rfl | rfl | rfl <;> rfl
theorem pZ_4 {σ : Nat → Nat → Int32} {h : Nat} {xv : Int32} {K : aSt → Option aRs} (hT : isZ h) : pfK (shp, σ) h 3 4 xv K = K (shp, su σ h 4 xv) := by rcases hT with rfl | rfl | rfl | rfl | rfl <;> rfl
theorem vZ {σ : Nat → Nat → Int32} {h : Nat} {xx : Option aRs} {K : Option Value → aSt → Option aRs} (hT : isZ h) : clV (shp, σ) h 4 xx K = clK xx K := by rcases hT with rfl | rfl | rfl | rfl | rfl <;> rfl
def isW (h : Nat) : Prop := h = 4 ∨ h = 6 ∨ h = 8 ∨ h = 10 ∨ h = 12 ∨ h = 14 ∨ h = 16 ∨ h = 18 ∨ h = 20 ∨ h = 22 ∨ h = 24 ∨ h = 26 ∨ h = 28 ∨ h = 30 ∨ h = 32
theorem gW_0 {σ : Nat → Nat → Int32} {h : Nat} {K : Value → Option aRs} (hT : isW h) : gfK (shp, σ) h 4 0 K = K (.ref (h + 1)) := by rcases hT with rfl | rfl | rfl | rfl | rfl | rfl | rfl | rfl | rfl | rfl | rfl | rfl | rfl | rfl | rfl <;> rfl
theorem gW_1 {σ : Nat → Nat → Int32} {h : Nat} {K : Value → Option aRs} (hT : isW h) : gfK (shp, σ) h 4 1 K = K (.int (σ h 1)) := by rcases hT with rfl | rfl | rfl | rfl | rfl | rfl | rfl | rfl | rfl | rfl | rfl | rfl | rfl | rfl | rfl <;> rfl
theorem pW_1 {σ : Nat → Nat → Int32} {h : Nat} {xv : Int32} {K : aSt → Option aRs} (hT : isW h) : pfK (shp, σ) h 4 1 xv K = K (shp, su σ h 1 xv) := by rcases hT with rfl | rfl | rfl | rfl | rfl | rfl | rfl | rfl | rfl | rfl | rfl | rfl | rfl | rfl | rfl <;> rfl
theorem gW_2 {σ : Nat → Nat → Int32} {h : Nat} {K : Value → Option aRs} (hT : isW h) : gfK (shp, σ) h 4 2 K = K (.int (σ h 2)) := by rcases hT with rfl | rfl | rfl | rfl | rfl | rfl | rfl | rfl | rfl | rfl | rfl | rfl | rfl | rfl | rfl <;> rfl
theorem pW_2 {σ : Nat → Nat → Int32} {h : Nat} {xv : Int32} {K : aSt → Option aRs} (hT : isW h) : pfK (shp, σ) h 4 2 xv K = K (shp, su σ h 2 xv) := by rcases hT with rfl | rfl | rfl | rfl | rfl | rfl | rfl | rfl | rfl | rfl | rfl | rfl | rfl | rfl | rfl <;> rfl
theorem gW_3 {σ : Nat → Nat → Int32} {h : Nat} {K : Value → Option aRs} (hT : isW h) : gfK (shp, σ) h 4 3 K = K (.int (σ h 3)) := by rcases hT with rfl | rfl | rfl | rfl | rfl | rfl | rfl | rfl | rfl | rfl | rfl | rfl | rfl | rfl | rfl <;> rfl
theorem pW_3 {σ : Nat → Nat → Int32} {h : Nat} {xv : Int32} {K : aSt → Option aRs} (hT : isW h) : pfK (shp, σ) h 4 3 xv K = K (shp, su σ h 3 xv) := by rcases hT with rfl | rfl | rfl | rfl | rfl | rfl | rfl | rfl | rfl | rfl | rfl | rfl | rfl | rfl | rfl <;> rfl
theorem vW {σ : Nat → Nat → Int32} {h : Nat} {xx : Option aRs} {K : Option Value → aSt → Option aRs} (hT : isW h) : clV (shp, σ) h 5 xx K = clK xx K := by rcases hT with rfl | rfl | rfl | rfl | rfl | rfl | rfl | rfl | rfl | rfl | rfl | rfl | rfl | rfl | rfl <;> rfl
theorem aW_1 {σ : Nat → Nat → Int32} {h : Nat} {jv : Int32} {K : Value → Option aRs} (hT : isW h) : ald (shp, σ) (h + 1) jv K = if inb jv 96 = true then K (.int (σ (h + 1) (ix jv))) else none := aldI (show shp[h + 1]? = some (0, 96, []) by rcases hT with rfl | rfl | rfl | rfl | rfl | rfl | rfl | rfl | rfl | rfl | rfl | rfl | rfl | rfl | rfl <;> rfl)
theorem sW_1 {σ : Nat → Nat → Int32} {h : Nat} {jv xv : Int32} {K : aSt → Option aRs} (hT : isW h) : ast (shp, σ) (h + 1) jv xv K = if inb jv 96 = true then K (shp, su σ (h + 1) (ix jv) xv) else none := astI (show shp[h + 1]? = some (0, 96, []) by rcases hT with rfl | rfl | rfl | rfl | rfl | rfl | rfl | rfl | rfl | rfl | rfl | rfl | rfl | rfl | rfl <;> rfl)
theorem nW_1 {h : Nat} (hT : isW h) : h + 1 ≠ 1000 := by rcases hT with rfl | rfl | rfl | rfl | rfl | rfl | rfl | rfl | rfl | rfl | rfl | rfl | rfl | rfl | rfl <;> decide
theorem a_3 {σ : Nat → Nat → Int32} {jv : Int32} {K : Value → Option aRs} : ald (shp, σ) 3 jv K = if inb jv 96 = true then K (.int (σ 3 (ix jv))) else none := aldI sh_3
theorem s_3 {σ : Nat → Nat → Int32} {jv xv : Int32} {K : aSt → Option aRs} : ast (shp, σ) 3 jv xv K = if inb jv 96 = true then K (shp, su σ 3 (ix jv) xv) else none := astI sh_3
theorem a_5 {σ : Nat → Nat → Int32} {jv : Int32} {K : Value → Option aRs} : ald (shp, σ) 5 jv K = if inb jv 96 = true then K (.int (σ 5 (ix jv))) else none := aldI sh_5
theorem s_5 {σ : Nat → Nat → Int32} {jv xv : Int32} {K : aSt → Option aRs} : ast (shp, σ) 5 jv xv K = if inb jv 96 = true then K (shp, su σ 5 (ix jv) xv) else none := astI sh_5
theorem a_7 {σ : Nat → Nat → Int32} {jv : Int32} {K : Value → Option aRs} : ald (shp, σ) 7 jv K = if inb jv 96 = true then K (.int (σ 7 (ix jv))) else none := aldI sh_7
theorem s_7 {σ : Nat → Nat → Int32} {jv xv : Int32} {K : aSt → Option aRs} : ast (shp, σ) 7 jv xv K = if inb jv 96 = true then K (shp, su σ 7 (ix jv) xv) else none := astI sh_7
theorem a_9 {σ : Nat → Nat → Int32} {jv : Int32} {K : Value → Option aRs} : ald (shp, σ) 9 jv K = if inb jv 96 = true then K (.int (σ 9 (ix jv))) else none := aldI sh_9
theorem s_9 {σ : Nat → Nat → Int32} {jv xv : Int32} {K : aSt → Option aRs} : ast (shp, σ) 9 jv xv K = if inb jv 96 = true then K (shp, su σ 9 (ix jv) xv) else none := astI sh_9
theorem a_11 {σ : Nat → Nat → Int32} {jv : Int32} {K : Value → Option aRs} : ald (shp, σ) 11 jv K = if inb jv 96 = true then K (.int (σ 11 (ix jv))) else none := aldI sh_11
theorem s_11 {σ : Nat → Nat → Int32} {jv xv : Int32} {K : aSt → Option aRs} : ast (shp, σ) 11 jv xv K = if inb jv 96 = true then K (shp, su σ 11 (ix jv) xv) else none := astI sh_11
theorem a_13 {σ : Nat → Nat → Int32} {jv : Int32} {K : Value → Option aRs} : ald (shp, σ) 13 jv K = if inb jv 96 = true then K (.int (σ 13 (ix jv))) else none := aldI sh_13
theorem s_13 {σ : Nat → Nat → Int32} {jv xv : Int32} {K : aSt → Option aRs} : ast (shp, σ) 13 jv xv K = if inb jv 96 = true then K (shp, su σ 13 (ix jv) xv) else none := astI sh_13
theorem a_15 {σ : Nat → Nat → Int32} {jv : Int32} {K : Value → Option aRs} : ald (shp, σ) 15 jv K = if inb jv 96 = true then K (.int (σ 15 (ix jv))) else none := aldI sh_15
theorem s_15 {σ : Nat → Nat → Int32} {jv xv : Int32} {K : aSt → Option aRs} : ast (shp, σ) 15 jv xv K = if inb jv 96 = true then K (shp, su σ 15 (ix jv) xv) else none := astI sh_15
theorem a_17 {σ : Nat → Nat → Int32} {jv : Int32} {K : Value → Option aRs} : ald (shp, σ) 17 jv K = if inb jv 96 = true then K (.int (σ 17 (ix jv))) else none := aldI sh_17
theorem s_17 {σ : Nat → Nat → Int32} {jv xv : Int32} {K : aSt → Option aRs} : ast (shp, σ) 17 jv xv K = if inb jv 96 = true then K (shp, su σ 17 (ix jv) xv) else none := astI sh_17
theorem a_19 {σ : Nat → Nat → Int32} {jv : Int32} {K : Value → Option aRs} : ald (shp, σ) 19 jv K = if inb jv 96 = true then K (.int (σ 19 (ix jv))) else none := aldI sh_19
theorem s_19 {σ : Nat → Nat → Int32} {jv xv : Int32} {K : aSt → Option aRs} : ast (shp, σ) 19 jv xv K = if inb jv 96 = true then K (shp, su σ 19 (ix jv) xv) else none := astI sh_19
theorem a_21 {σ : Nat → Nat → Int32} {jv : Int32} {K : Value → Option aRs} : ald (shp, σ) 21 jv K = if inb jv 96 = true then K (.int (σ 21 (ix jv))) else none := aldI sh_21
theorem s_21 {σ : Nat → Nat → Int32} {jv xv : Int32} {K : aSt → Option aRs} : ast (shp, σ) 21 jv xv K = if inb jv 96 = true then K (shp, su σ 21 (ix jv) xv) else none := astI sh_21
theorem a_23 {σ : Nat → Nat → Int32} {jv : Int32} {K : Value → Option aRs} : ald (shp, σ) 23 jv K = if inb jv 96 = true then K (.int (σ 23 (ix jv))) else none := aldI sh_23
theorem s_23 {σ : Nat → Nat → Int32} {jv xv : Int32} {K : aSt → Option aRs} : ast (shp, σ) 23 jv xv K = if inb jv 96 = true then K (shp, su σ 23 (ix jv) xv) else none := astI sh_23
theorem a_25 {σ : Nat → Nat → Int32} {jv : Int32} {K : Value → Option aRs} : ald (shp, σ) 25 jv K = if inb jv 96 = true then K (.int (σ 25 (ix jv))) else none := aldI sh_25
theorem s_25 {σ : Nat → Nat → Int32} {jv xv : Int32} {K : aSt → Option aRs} : ast (shp, σ) 25 jv xv K = if inb jv 96 = true then K (shp, su σ 25 (ix jv) xv) else none := astI sh_25
theorem a_27 {σ : Nat → Nat → Int32} {jv : Int32} {K : Value → Option aRs} : ald (shp, σ) 27 jv K = if inb jv 96 = true then K (.int (σ 27 (ix jv))) else none := aldI sh_27
theorem s_27 {σ : Nat → Nat → Int32} {jv xv : Int32} {K : aSt → Option aRs} : ast (shp, σ) 27 jv xv K = if inb jv 96 = true then K (shp, su σ 27 (ix jv) xv) else none := astI sh_27
theorem a_29 {σ : Nat → Nat → Int32} {jv : Int32} {K : Value → Option aRs} : ald (shp, σ) 29 jv K = if inb jv 96 = true then K (.int (σ 29 (ix jv))) else none := aldI sh_29
theorem s_29 {σ : Nat → Nat → Int32} {jv xv : Int32} {K : aSt → Option aRs} : ast (shp, σ) 29 jv xv K = if inb jv 96 = true then K (shp, su σ 29 (ix jv) xv) else none := astI sh_29
theorem a_31 {σ : Nat → Nat → Int32} {jv : Int32} {K : Value → Option aRs} : ald (shp, σ) 31 jv K = if inb jv 96 = true then K (.int (σ 31 (ix jv))) else none := aldI sh_31
theorem s_31 {σ : Nat → Nat → Int32} {jv xv : Int32} {K : aSt → Option aRs} : ast (shp, σ) 31 jv xv K = if inb jv 96 = true then K (shp, su σ 31 (ix jv) xv) else none := astI sh_31
theorem a_33 {σ : Nat → Nat → Int32} {jv : Int32} {K : Value → Option aRs} : ald (shp, σ) 33 jv K = if inb jv 96 = true then K (.int (σ 33 (ix jv))) else none := aldI sh_33
theorem s_33 {σ : Nat → Nat → Int32} {jv xv : Int32} {K : aSt → Option aRs} : ast (shp, σ) 33 jv xv K = if inb jv 96 = true then K (shp, su σ 33 (ix jv) xv) else none := astI sh_33
theorem a_37 {σ : Nat → Nat → Int32} {jv : Int32} {K : Value → Option aRs} : ald (shp, σ) 37 jv K = if inb jv 8 = true then K (.int (σ 37 (ix jv))) else none := aldI sh_37
theorem s_37 {σ : Nat → Nat → Int32} {jv xv : Int32} {K : aSt → Option aRs} : ast (shp, σ) 37 jv xv K = if inb jv 8 = true then K (shp, su σ 37 (ix jv) xv) else none := astI sh_37
theorem a_38 {σ : Nat → Nat → Int32} {jv : Int32} {K : Value → Option aRs} : ald (shp, σ) 38 jv K = if inb jv 8 = true then K (.int (σ 38 (ix jv))) else none := aldI sh_38
theorem s_38 {σ : Nat → Nat → Int32} {jv xv : Int32} {K : aSt → Option aRs} : ast (shp, σ) 38 jv xv K = if inb jv 8 = true then K (shp, su σ 38 (ix jv) xv) else none := astI sh_38
theorem a_39 {σ : Nat → Nat → Int32} {jv : Int32} {K : Value → Option aRs} : ald (shp, σ) 39 jv K = if inb jv 8 = true then K (.int (σ 39 (ix jv))) else none := aldI sh_39
theorem s_39 {σ : Nat → Nat → Int32} {jv xv : Int32} {K : aSt → Option aRs} : ast (shp, σ) 39 jv xv K = if inb jv 8 = true then K (shp, su σ 39 (ix jv) xv) else none := astI sh_39
theorem a_40 {σ : Nat → Nat → Int32} {jv : Int32} {K : Value → Option aRs} : ald (shp, σ) 40 jv K = if inb jv 8 = true then K (.int (σ 40 (ix jv))) else none := aldI sh_40
theorem s_40 {σ : Nat → Nat → Int32} {jv xv : Int32} {K : aSt → Option aRs} : ast (shp, σ) 40 jv xv K = if inb jv 8 = true then K (shp, su σ 40 (ix jv) xv) else none := astI sh_40
theorem a_41 {σ : Nat → Nat → Int32} {jv : Int32} {K : Value → Option aRs} : ald (shp, σ) 41 jv K = if inb jv 8 = true then K (.int (σ 41 (ix jv))) else none := aldI sh_41
theorem s_41 {σ : Nat → Nat → Int32} {jv xv : Int32} {K : aSt → Option aRs} : ast (shp, σ) 41 jv xv K = if inb jv 8 = true then K (shp, su σ 41 (ix jv) xv) else none := astI sh_41
theorem a_42 {σ : Nat → Nat → Int32} {jv : Int32} {K : Value → Option aRs} : ald (shp, σ) 42 jv K = if inb jv 8 = true then K (.int (σ 42 (ix jv))) else none := aldI sh_42
theorem s_42 {σ : Nat → Nat → Int32} {jv xv : Int32} {K : aSt → Option aRs} : ast (shp, σ) 42 jv xv K = if inb jv 8 = true then K (shp, su σ 42 (ix jv) xv) else none := astI sh_42
theorem a_43 {σ : Nat → Nat → Int32} {jv : Int32} {K : Value → Option aRs} : ald (shp, σ) 43 jv K = if inb jv 20 = true then K (.int (σ 43 (ix jv))) else none := aldI sh_43
theorem s_43 {σ : Nat → Nat → Int32} {jv xv : Int32} {K : aSt → Option aRs} : ast (shp, σ) 43 jv xv K = if inb jv 20 = true then K (shp, su σ 43 (ix jv) xv) else none := astI sh_43
theorem a_44 {σ : Nat → Nat → Int32} {jv : Int32} {K : Value → Option aRs} : ald (shp, σ) 44 jv K = if inb jv 3 = true then K (.int (σ 44 (ix jv))) else none := aldI sh_44
theorem s_44 {σ : Nat → Nat → Int32} {jv xv : Int32} {K : aSt → Option aRs} : ast (shp, σ) 44 jv xv K = if inb jv 3 = true then K (shp, su σ 44 (ix jv) xv) else none := astI sh_44
theorem a_45 {σ : Nat → Nat → Int32} {jv : Int32} {K : Value → Option aRs} : ald (shp, σ) 45 jv K = if inb jv 3 = true then K (.int (σ 45 (ix jv))) else none := aldI sh_45
theorem s_45 {σ : Nat → Nat → Int32} {jv xv : Int32} {K : aSt → Option aRs} : ast (shp, σ) 45 jv xv K = if inb jv 3 = true then K (shp, su σ 45 (ix jv) xv) else none := astI sh_45
theorem a_47 {σ : Nat → Nat → Int32} {jv : Int32} {K : Value → Option aRs} : ald (shp, σ) 47 jv K = if inb jv 8 = true then K (.int (σ 47 (ix jv))) else none := aldI sh_47
theorem s_47 {σ : Nat → Nat → Int32} {jv xv : Int32} {K : aSt → Option aRs} : ast (shp, σ) 47 jv xv K = if inb jv 8 = true then K (shp, su σ 47 (ix jv) xv) else none := astI sh_47
theorem a_48 {σ : Nat → Nat → Int32} {jv : Int32} {K : Value → Option aRs} : ald (shp, σ) 48 jv K = if inb jv 8 = true then K (.int (σ 48 (ix jv))) else none := aldI sh_48
theorem s_48 {σ : Nat → Nat → Int32} {jv xv : Int32} {K : aSt → Option aRs} : ast (shp, σ) 48 jv xv K = if inb jv 8 = true then K (shp, su σ 48 (ix jv) xv) else none := astI sh_48
theorem a_49 {σ : Nat → Nat → Int32} {jv : Int32} {K : Value → Option aRs} : ald (shp, σ) 49 jv K = if inb jv 8 = true then K (.int (σ 49 (ix jv))) else none := aldI sh_49
theorem s_49 {σ : Nat → Nat → Int32} {jv xv : Int32} {K : aSt → Option aRs} : ast (shp, σ) 49 jv xv K = if inb jv 8 = true then K (shp, su σ 49 (ix jv) xv) else none := astI sh_49
theorem a_50 {σ : Nat → Nat → Int32} {jv : Int32} {K : Value → Option aRs} : ald (shp, σ) 50 jv K = if inb jv 8 = true then K (.int (σ 50 (ix jv))) else none := aldI sh_50
theorem s_50 {σ : Nat → Nat → Int32} {jv xv : Int32} {K : aSt → Option aRs} : ast (shp, σ) 50 jv xv K = if inb jv 8 = true then K (shp, su σ 50 (ix jv) xv) else none := astI sh_50
theorem a_51 {σ : Nat → Nat → Int32} {jv : Int32} {K : Value → Option aRs} : ald (shp, σ) 51 jv K = if inb jv 8 = true then K (.int (σ 51 (ix jv))) else none := aldI sh_51
theorem s_51 {σ : Nat → Nat → Int32} {jv xv : Int32} {K : aSt → Option aRs} : ast (shp, σ) 51 jv xv K = if inb jv 8 = true then K (shp, su σ 51 (ix jv) xv) else none := astI sh_51
theorem a_52 {σ : Nat → Nat → Int32} {jv : Int32} {K : Value → Option aRs} : ald (shp, σ) 52 jv K = if inb jv 8 = true then K (.int (σ 52 (ix jv))) else none := aldI sh_52
theorem s_52 {σ : Nat → Nat → Int32} {jv xv : Int32} {K : aSt → Option aRs} : ast (shp, σ) 52 jv xv K = if inb jv 8 = true then K (shp, su σ 52 (ix jv) xv) else none := astI sh_52
theorem a_53 {σ : Nat → Nat → Int32} {jv : Int32} {K : Value → Option aRs} : ald (shp, σ) 53 jv K = if inb jv 20 = true then K (.int (σ 53 (ix jv))) else none := aldI sh_53
theorem s_53 {σ : Nat → Nat → Int32} {jv xv : Int32} {K : aSt → Option aRs} : ast (shp, σ) 53 jv xv K = if inb jv 20 = true then K (shp, su σ 53 (ix jv) xv) else none := astI sh_53
theorem a_54 {σ : Nat → Nat → Int32} {jv : Int32} {K : Value → Option aRs} : ald (shp, σ) 54 jv K = if inb jv 3 = true then K (.int (σ 54 (ix jv))) else none := aldI sh_54
theorem s_54 {σ : Nat → Nat → Int32} {jv xv : Int32} {K : aSt → Option aRs} : ast (shp, σ) 54 jv xv K = if inb jv 3 = true then K (shp, su σ 54 (ix jv) xv) else none := astI sh_54
theorem a_55 {σ : Nat → Nat → Int32} {jv : Int32} {K : Value → Option aRs} : ald (shp, σ) 55 jv K = if inb jv 3 = true then K (.int (σ 55 (ix jv))) else none := aldI sh_55
theorem s_55 {σ : Nat → Nat → Int32} {jv xv : Int32} {K : aSt → Option aRs} : ast (shp, σ) 55 jv xv K = if inb jv 3 = true then K (shp, su σ 55 (ix jv) xv) else none := astI sh_55
theorem a_57 {σ : Nat → Nat → Int32} {jv : Int32} {K : Value → Option aRs} : ald (shp, σ) 57 jv K = if inb jv 8 = true then K (.int (σ 57 (ix jv))) else none := aldI sh_57
theorem s_57 {σ : Nat → Nat → Int32} {jv xv : Int32} {K : aSt → Option aRs} : ast (shp, σ) 57 jv xv K = if inb jv 8 = true then K (shp, su σ 57 (ix jv) xv) else none := astI sh_57
theorem a_58 {σ : Nat → Nat → Int32} {jv : Int32} {K : Value → Option aRs} : ald (shp, σ) 58 jv K = if inb jv 8 = true then K (.int (σ 58 (ix jv))) else none := aldI sh_58
theorem s_58 {σ : Nat → Nat → Int32} {jv xv : Int32} {K : aSt → Option aRs} : ast (shp, σ) 58 jv xv K = if inb jv 8 = true then K (shp, su σ 58 (ix jv) xv) else none := astI sh_58
theorem a_59 {σ : Nat → Nat → Int32} {jv : Int32} {K : Value → Option aRs} : ald (shp, σ) 59 jv K = if inb jv 8 = true then K (.int (σ 59 (ix jv))) else none := aldI sh_59
theorem s_59 {σ : Nat → Nat → Int32} {jv xv : Int32} {K : aSt → Option aRs} : ast (shp, σ) 59 jv xv K = if inb jv 8 = true then K (shp, su σ 59 (ix jv) xv) else none := astI sh_59
theorem a_60 {σ : Nat → Nat → Int32} {jv : Int32} {K : Value → Option aRs} : ald (shp, σ) 60 jv K = if inb jv 8 = true then K (.int (σ 60 (ix jv))) else none := aldI sh_60
theorem s_60 {σ : Nat → Nat → Int32} {jv xv : Int32} {K : aSt → Option aRs} : ast (shp, σ) 60 jv xv K = if inb jv 8 = true then K (shp, su σ 60 (ix jv) xv) else none := astI sh_60
theorem a_61 {σ : Nat → Nat → Int32} {jv : Int32} {K : Value → Option aRs} : ald (shp, σ) 61 jv K = if inb jv 8 = true then K (.int (σ 61 (ix jv))) else none := aldI sh_61
theorem s_61 {σ : Nat → Nat → Int32} {jv xv : Int32} {K : aSt → Option aRs} : ast (shp, σ) 61 jv xv K = if inb jv 8 = true then K (shp, su σ 61 (ix jv) xv) else none := astI sh_61
theorem a_62 {σ : Nat → Nat → Int32} {jv : Int32} {K : Value → Option aRs} : ald (shp, σ) 62 jv K = if inb jv 8 = true then K (.int (σ 62 (ix jv))) else none := aldI sh_62
theorem s_62 {σ : Nat → Nat → Int32} {jv xv : Int32} {K : aSt → Option aRs} : ast (shp, σ) 62 jv xv K = if inb jv 8 = true then K (shp, su σ 62 (ix jv) xv) else none := astI sh_62
theorem a_63 {σ : Nat → Nat → Int32} {jv : Int32} {K : Value → Option aRs} : ald (shp, σ) 63 jv K = if inb jv 20 = true then K (.int (σ 63 (ix jv))) else none := aldI sh_63
theorem s_63 {σ : Nat → Nat → Int32} {jv xv : Int32} {K : aSt → Option aRs} : ast (shp, σ) 63 jv xv K = if inb jv 20 = true then K (shp, su σ 63 (ix jv) xv) else none := astI sh_63
theorem a_64 {σ : Nat → Nat → Int32} {jv : Int32} {K : Value → Option aRs} : ald (shp, σ) 64 jv K = if inb jv 3 = true then K (.int (σ 64 (ix jv))) else none := aldI sh_64
theorem s_64 {σ : Nat → Nat → Int32} {jv xv : Int32} {K : aSt → Option aRs} : ast (shp, σ) 64 jv xv K = if inb jv 3 = true then K (shp, su σ 64 (ix jv) xv) else none := astI sh_64
theorem a_65 {σ : Nat → Nat → Int32} {jv : Int32} {K : Value → Option aRs} : ald (shp, σ) 65 jv K = if inb jv 3 = true then K (.int (σ 65 (ix jv))) else none := aldI sh_65
theorem s_65 {σ : Nat → Nat → Int32} {jv xv : Int32} {K : aSt → Option aRs} : ast (shp, σ) 65 jv xv K = if inb jv 3 = true then K (shp, su σ 65 (ix jv) xv) else none := astI sh_65
theorem a_68 {σ : Nat → Nat → Int32} {jv : Int32} {K : Value → Option aRs} : ald (shp, σ) 68 jv K = if inb jv 60 = true then K (.int (σ 68 (ix jv))) else none := aldI sh_68
theorem s_68 {σ : Nat → Nat → Int32} {jv xv : Int32} {K : aSt → Option aRs} : ast (shp, σ) 68 jv xv K = if inb jv 60 = true then K (shp, su σ 68 (ix jv) xv) else none := astI sh_68
theorem a_69 {σ : Nat → Nat → Int32} {jv : Int32} {K : Value → Option aRs} : ald (shp, σ) 69 jv K = if inb jv 8 = true then K (.int (σ 69 (ix jv))) else none := aldI sh_69
theorem s_69 {σ : Nat → Nat → Int32} {jv xv : Int32} {K : aSt → Option aRs} : ast (shp, σ) 69 jv xv K = if inb jv 8 = true then K (shp, su σ 69 (ix jv) xv) else none := astI sh_69
theorem a_71 {σ : Nat → Nat → Int32} {jv : Int32} {K : Value → Option aRs} : ald (shp, σ) 71 jv K = if inb jv 24 = true then K (.int (σ 71 (ix jv))) else none := aldI sh_71
theorem s_71 {σ : Nat → Nat → Int32} {jv xv : Int32} {K : aSt → Option aRs} : ast (shp, σ) 71 jv xv K = if inb jv 24 = true then K (shp, su σ 71 (ix jv) xv) else none := astI sh_71
theorem a_73 {σ : Nat → Nat → Int32} {jv : Int32} {K : Value → Option aRs} : ald (shp, σ) 73 jv K = if inb jv 24 = true then K (.int (σ 73 (ix jv))) else none := aldI sh_73
theorem s_73 {σ : Nat → Nat → Int32} {jv xv : Int32} {K : aSt → Option aRs} : ast (shp, σ) 73 jv xv K = if inb jv 24 = true then K (shp, su σ 73 (ix jv) xv) else none := astI sh_73
theorem a_75 {σ : Nat → Nat → Int32} {jv : Int32} {K : Value → Option aRs} : ald (shp, σ) 75 jv K = if inb jv 24 = true then K (.int (σ 75 (ix jv))) else none := aldI sh_75
theorem s_75 {σ : Nat → Nat → Int32} {jv xv : Int32} {K : aSt → Option aRs} : ast (shp, σ) 75 jv xv K = if inb jv 24 = true then K (shp, su σ 75 (ix jv) xv) else none := astI sh_75
theorem a_77 {σ : Nat → Nat → Int32} {jv : Int32} {K : Value → Option aRs} : ald (shp, σ) 77 jv K = if inb jv 24 = true then K (.int (σ 77 (ix jv))) else none := aldI sh_77
theorem s_77 {σ : Nat → Nat → Int32} {jv xv : Int32} {K : aSt → Option aRs} : ast (shp, σ) 77 jv xv K = if inb jv 24 = true then K (shp, su σ 77 (ix jv) xv) else none := astI sh_77
theorem a_80 {σ : Nat → Nat → Int32} {jv : Int32} {K : Value → Option aRs} : ald (shp, σ) 80 jv K = if inb jv 24 = true then K (.int (σ 80 (ix jv))) else none := aldI sh_80
theorem s_80 {σ : Nat → Nat → Int32} {jv xv : Int32} {K : aSt → Option aRs} : ast (shp, σ) 80 jv xv K = if inb jv 24 = true then K (shp, su σ 80 (ix jv) xv) else none := astI sh_80
theorem a_83 {σ : Nat → Nat → Int32} {jv : Int32} {K : Value → Option aRs} : ald (shp, σ) 83 jv K = if inb jv 24 = true then K (.int (σ 83 (ix jv))) else none := aldI sh_83
theorem s_83 {σ : Nat → Nat → Int32} {jv xv : Int32} {K : aSt → Option aRs} : ast (shp, σ) 83 jv xv K = if inb jv 24 = true then K (shp, su σ 83 (ix jv) xv) else none := astI sh_83
theorem a_86 {σ : Nat → Nat → Int32} {jv : Int32} {K : Value → Option aRs} : ald (shp, σ) 86 jv K = if inb jv 24 = true then K (.int (σ 86 (ix jv))) else none := aldI sh_86
theorem s_86 {σ : Nat → Nat → Int32} {jv xv : Int32} {K : aSt → Option aRs} : ast (shp, σ) 86 jv xv K = if inb jv 24 = true then K (shp, su σ 86 (ix jv) xv) else none := astI sh_86
theorem a_89 {σ : Nat → Nat → Int32} {jv : Int32} {K : Value → Option aRs} : ald (shp, σ) 89 jv K = if inb jv 24 = true then K (.int (σ 89 (ix jv))) else none := aldI sh_89
theorem s_89 {σ : Nat → Nat → Int32} {jv xv : Int32} {K : aSt → Option aRs} : ast (shp, σ) 89 jv xv K = if inb jv 24 = true then K (shp, su σ 89 (ix jv) xv) else none := astI sh_89
theorem a_92 {σ : Nat → Nat → Int32} {jv : Int32} {K : Value → Option aRs} : ald (shp, σ) 92 jv K = if inb jv 24 = true then K (.int (σ 92 (ix jv))) else none := aldI sh_92
theorem s_92 {σ : Nat → Nat → Int32} {jv xv : Int32} {K : aSt → Option aRs} : ast (shp, σ) 92 jv xv K = if inb jv 24 = true then K (shp, su σ 92 (ix jv) xv) else none := astI sh_92
theorem a_94 {σ : Nat → Nat → Int32} {jv : Int32} {K : Value → Option aRs} : ald (shp, σ) 94 jv K = if inb jv 3051 = true then K (.int (σ 94 (ix jv))) else none := aldI sh_94
theorem s_94 {σ : Nat → Nat → Int32} {jv xv : Int32} {K : aSt → Option aRs} : ast (shp, σ) 94 jv xv K = if inb jv 3051 = true then K (shp, su σ 94 (ix jv) xv) else none := astI sh_94
theorem a_95 {σ : Nat → Nat → Int32} {jv : Int32} {K : Value → Option aRs} : ald (shp, σ) 95 jv K = if inb jv 3051 = true then K (.int (σ 95 (ix jv))) else none := aldI sh_95
theorem s_95 {σ : Nat → Nat → Int32} {jv xv : Int32} {K : aSt → Option aRs} : ast (shp, σ) 95 jv xv K = if inb jv 3051 = true then K (shp, su σ 95 (ix jv) xv) else none := astI sh_95
theorem a_96 {σ : Nat → Nat → Int32} {jv : Int32} {K : Value → Option aRs} : ald (shp, σ) 96 jv K = if inb jv 3051 = true then K (.int (σ 96 (ix jv))) else none := aldI sh_96
theorem s_96 {σ : Nat → Nat → Int32} {jv xv : Int32} {K : aSt → Option aRs} : ast (shp, σ) 96 jv xv K = if inb jv 3051 = true then K (shp, su σ 96 (ix jv) xv) else none := astI sh_96
theorem a_97 {σ : Nat → Nat → Int32} {jv : Int32} {K : Value → Option aRs} : ald (shp, σ) 97 jv K = if inb jv 4 = true then K (.int (σ 97 (ix jv))) else none := aldI sh_97
theorem s_97 {σ : Nat → Nat → Int32} {jv xv : Int32} {K : aSt → Option aRs} : ast (shp, σ) 97 jv xv K = if inb jv 4 = true then K (shp, su σ 97 (ix jv) xv) else none := astI sh_97
theorem a_98 {σ : Nat → Nat → Int32} {jv : Int32} {K : Value → Option aRs} : ald (shp, σ) 98 jv K = if inb jv 4 = true then K (.int (σ 98 (ix jv))) else none := aldI sh_98
theorem s_98 {σ : Nat → Nat → Int32} {jv xv : Int32} {K : aSt → Option aRs} : ast (shp, σ) 98 jv xv K = if inb jv 4 = true then K (shp, su σ 98 (ix jv) xv) else none := astI sh_98
theorem a_99 {σ : Nat → Nat → Int32} {jv : Int32} {K : Value → Option aRs} : ald (shp, σ) 99 jv K = if inb jv 96 = true then K (.int (σ 99 (ix jv))) else none := aldI sh_99
theorem s_99 {σ : Nat → Nat → Int32} {jv xv : Int32} {K : aSt → Option aRs} : ast (shp, σ) 99 jv xv K = if inb jv 96 = true then K (shp, su σ 99 (ix jv) xv) else none := astI sh_99
theorem a_100 {σ : Nat → Nat → Int32} {jv : Int32} {K : Value → Option aRs} : ald (shp, σ) 100 jv K = if inb jv 5 = true then K (.int (σ 100 (ix jv))) else none := aldI sh_100
theorem s_100 {σ : Nat → Nat → Int32} {jv xv : Int32} {K : aSt → Option aRs} : ast (shp, σ) 100 jv xv K = if inb jv 5 = true then K (shp, su σ 100 (ix jv) xv) else none := astI sh_100
theorem a_101 {σ : Nat → Nat → Int32} {jv : Int32} {K : Value → Option aRs} : ald (shp, σ) 101 jv K = if inb jv 5 = true then K (.int (σ 101 (ix jv))) else none := aldI sh_101
theorem s_101 {σ : Nat → Nat → Int32} {jv xv : Int32} {K : aSt → Option aRs} : ast (shp, σ) 101 jv xv K = if inb jv 5 = true then K (shp, su σ 101 (ix jv) xv) else none := astI sh_101
theorem a_102 {σ : Nat → Nat → Int32} {jv : Int32} {K : Value → Option aRs} : ald (shp, σ) 102 jv K = if inb jv 5 = true then K (.int (σ 102 (ix jv))) else none := aldI sh_102
theorem s_102 {σ : Nat → Nat → Int32} {jv xv : Int32} {K : aSt → Option aRs} : ast (shp, σ) 102 jv xv K = if inb jv 5 = true then K (shp, su σ 102 (ix jv) xv) else none := astI sh_102
theorem a_103 {σ : Nat → Nat → Int32} {jv : Int32} {K : Value → Option aRs} : ald (shp, σ) 103 jv K = if inb jv 5 = true then K (.int (σ 103 (ix jv))) else none := aldI sh_103
theorem s_103 {σ : Nat → Nat → Int32} {jv xv : Int32} {K : aSt → Option aRs} : ast (shp, σ) 103 jv xv K = if inb jv 5 = true then K (shp, su σ 103 (ix jv) xv) else none := astI sh_103
theorem a_104 {σ : Nat → Nat → Int32} {jv : Int32} {K : Value → Option aRs} : ald (shp, σ) 104 jv K = if inb jv 120 = true then K (.int (σ 104 (ix jv))) else none := aldI sh_104
theorem s_104 {σ : Nat → Nat → Int32} {jv xv : Int32} {K : aSt → Option aRs} : ast (shp, σ) 104 jv xv K = if inb jv 120 = true then K (shp, su σ 104 (ix jv) xv) else none := astI sh_104
theorem a_105 {σ : Nat → Nat → Int32} {jv : Int32} {K : Value → Option aRs} : ald (shp, σ) 105 jv K = if inb jv 8 = true then K (.int (σ 105 (ix jv))) else none := aldI sh_105
theorem s_105 {σ : Nat → Nat → Int32} {jv xv : Int32} {K : aSt → Option aRs} : ast (shp, σ) 105 jv xv K = if inb jv 8 = true then K (shp, su σ 105 (ix jv) xv) else none := astI sh_105
theorem a_106 {σ : Nat → Nat → Int32} {jv : Int32} {K : Value → Option aRs} : ald (shp, σ) 106 jv K = if inb jv 51 = true then K (.int (σ 106 (ix jv))) else none := aldI sh_106
theorem s_106 {σ : Nat → Nat → Int32} {jv xv : Int32} {K : aSt → Option aRs} : ast (shp, σ) 106 jv xv K = if inb jv 51 = true then K (shp, su σ 106 (ix jv) xv) else none := astI sh_106
theorem a_107 {σ : Nat → Nat → Int32} {jv : Int32} {K : Value → Option aRs} : ald (shp, σ) 107 jv K = if inb jv 96 = true then K (.int (σ 107 (ix jv))) else none := aldI sh_107
theorem s_107 {σ : Nat → Nat → Int32} {jv xv : Int32} {K : aSt → Option aRs} : ast (shp, σ) 107 jv xv K = if inb jv 96 = true then K (shp, su σ 107 (ix jv) xv) else none := astI sh_107
theorem a_108 {σ : Nat → Nat → Int32} {jv : Int32} {K : Value → Option aRs} : ald (shp, σ) 108 jv K = if inb jv 128 = true then K (.int (σ 108 (ix jv))) else none := aldI sh_108
theorem s_108 {σ : Nat → Nat → Int32} {jv xv : Int32} {K : aSt → Option aRs} : ast (shp, σ) 108 jv xv K = if inb jv 128 = true then K (shp, su σ 108 (ix jv) xv) else none := astI sh_108
theorem a_109 {σ : Nat → Nat → Int32} {jv : Int32} {K : Value → Option aRs} : ald (shp, σ) 109 jv K = if inb jv 100 = true then K (.int (σ 109 (ix jv))) else none := aldI sh_109
theorem s_109 {σ : Nat → Nat → Int32} {jv xv : Int32} {K : aSt → Option aRs} : ast (shp, σ) 109 jv xv K = if inb jv 100 = true then K (shp, su σ 109 (ix jv) xv) else none := astI sh_109
theorem a_110 {σ : Nat → Nat → Int32} {jv : Int32} {K : Value → Option aRs} : ald (shp, σ) 110 jv K = if inb jv 24 = true then K (.int (σ 110 (ix jv))) else none := aldI sh_110
theorem s_110 {σ : Nat → Nat → Int32} {jv xv : Int32} {K : aSt → Option aRs} : ast (shp, σ) 110 jv xv K = if inb jv 24 = true then K (shp, su σ 110 (ix jv) xv) else none := astI sh_110
theorem a_111 {σ : Nat → Nat → Int32} {jv : Int32} {K : Value → Option aRs} : ald (shp, σ) 111 jv K = if inb jv 60 = true then K (.int (σ 111 (ix jv))) else none := aldI sh_111
theorem s_111 {σ : Nat → Nat → Int32} {jv xv : Int32} {K : aSt → Option aRs} : ast (shp, σ) 111 jv xv K = if inb jv 60 = true then K (shp, su σ 111 (ix jv) xv) else none := astI sh_111
theorem a_112 {σ : Nat → Nat → Int32} {jv : Int32} {K : Value → Option aRs} : ald (shp, σ) 112 jv K = if inb jv 60 = true then K (.int (σ 112 (ix jv))) else none := aldI sh_112
theorem s_112 {σ : Nat → Nat → Int32} {jv xv : Int32} {K : aSt → Option aRs} : ast (shp, σ) 112 jv xv K = if inb jv 60 = true then K (shp, su σ 112 (ix jv) xv) else none := astI sh_112
theorem b_35 {σ : Nat → Nat → Int32} {jv : Int32} {K : Value → Option aRs} : bld (shp, σ) 35 jv K = if inb jv 96 = true then K (.int (σ 35 (ix jv))) else none := bldI sh_35
theorem t_35 {σ : Nat → Nat → Int32} {jv xv : Int32} {K : aSt → Option aRs} : bst (shp, σ) 35 jv xv K = if inb jv 96 = true then K (shp, su σ 35 (ix jv) xv.toInt8.toInt32) else none := bstI sh_35
theorem q_2 {σ : Nat → Nat → Int32} {kz : Nat} {K : Value → Option aRs} (hk : kz < 15) : qld (shp, σ) 2 (nI kz) K = K (.ref (4 + 2 * kz)) := by
  rcases (by omega : kz = 0 ∨ kz = 1 ∨ kz = 2 ∨ kz = 3 ∨ kz = 4 ∨ kz = 5 ∨ kz = 6 ∨ kz = 7 ∨ kz = 8 ∨ kz = 9 ∨ kz = 10 ∨ kz = 11 ∨ kz = 12 ∨ kz = 13 ∨ kz = 14) with rfl | rfl | rfl | rfl | rfl | rfl | rfl | rfl | rfl | rfl | rfl | rfl | rfl | rfl | rfl <;> rfl
theorem q_66 {σ : Nat → Nat → Int32} {kz : Nat} {K : Value → Option aRs} (hk : kz < 4) : qld (shp, σ) 66 (nI kz) K = K (.ref (70 + 2 * kz)) := by
  rcases (by omega : kz = 0 ∨ kz = 1 ∨ kz = 2 ∨ kz = 3) with rfl | rfl | rfl | rfl <;> rfl
theorem q_67 {σ : Nat → Nat → Int32} {kz : Nat} {K : Value → Option aRs} (hk : kz < 5) : qld (shp, σ) 67 (nI kz) K = K (.ref (78 + 3 * kz)) := by
  rcases (by omega : kz = 0 ∨ kz = 1 ∨ kz = 2 ∨ kz = 3 ∨ kz = 4) with rfl | rfl | rfl | rfl | rfl <;> rfl
def st0 : aCf := (200, 223, 0, [some (.ref 1000), none, none, none], [], ([], fun _ _ => 0))
def ini : Option aCf := adv 10 st0
def iniC : Bool := match ini with
  | some y => decide (y.1 = 200) && decide (y.2.1 = 223) && decide (y.2.2.1 = 18) && decide (y.2.2.2.1 = [some (.ref 1000), some (.ref 0), some (.ref 93), some (.int 0)]) && decide (y.2.2.2.2.1 = []) && decide (y.2.2.2.2.2.1 = shp)
  | none => false
theorem ini_ok : iniC = true := by decide +kernel
def sg0 : Nat → Nat → Int32 := match ini with
  | some y => y.2.2.2.2.2.2
  | none => fun _ _ => 0
