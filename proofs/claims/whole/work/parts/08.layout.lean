/-! the canonical numbering: SH N, RR (wip/whole/layout.py writes this) -/
def SH (N : Nat) : aSh := [(9, 0), (12, 1600), (5, 0), (11, 3), (11, 18), (11, 18), (11, 18), (11, 5), (11, 5), (11, N), (8, 0), (11, 5), (11, 6), (8, 0), (11, 5), (11, 6), (6, 0), (11, 20), (11, 64), (0, 0), (11, 300), (2, 0), (11, 840), (7, 0), (11, 48), (11, 246), (3, 0), (11, 6), (11, 6), (11, 30), (1, 0), (11, 6), (11, 6), (11, 600), (11, 21), (11, 6), (10, 0), (11, 1800), (11, 2), (11, 10), (11, 10), (11, 2), (11, 12), (11, 12), (11, 2), (11, 12), (11, 12), (11, 2), (11, 2), (11, 10), (11, 10), (11, 3200), (11, 3200), (14, 10), (14, 12), (14, 12), (11, 20), (11, 20), (13, 20), (11, 20), (11, 20), (11, 500), (11, 6), (11, 22), (11, 22), (11, 110), (11, 132), (11, 22), (11, 22), (11, 3520), (14, 500), (11, 14), (11, 6), (11, 6), (11, 6), (11, 30), (11, 16), (11, 16), (11, 16), (11, 6), (11, 40)]
def RL : List (List (Option Nat)) := [[some 1, none, some 2, none, none, some 10, some 13, some 16, some 19, some 21, some 23, some 26, some 30, none, some 34, none, some 35], [], [some 3, some 4, some 5, some 6, none, none, none, some 9, none, some 7, some 8], [], [], [], [], [], [], [], [none, none, none, none, some 11, some 12], [], [], [none, none, none, none, some 14, some 15], [], [], [some 2, some 17, some 18], [], [], [some 20], [], [some 22], [], [none, some 24, none, none, some 25, some 16, some 10], [], [], [none, none, some 27, some 28, some 29, some 16, some 10], [], [], [], [none, none, none, some 31, some 32, some 33, some 16, some 10], [], [], [], [], [], [some 37, none, none, none, none, none, none, none, none, none, none, none, none, none, some 38, some 39, some 40, some 41, some 42, some 43, some 44, some 45, some 46, some 47, some 48, some 49, some 50, some 51, some 52, some 53, some 54, some 55, none, none, none, some 56, some 57, some 58, some 59, some 60, none, none, some 61, none, none, some 62, some 63, some 64, some 65, some 66, some 67, some 68, some 69, none, none, none, some 70, some 71, some 72, some 73, some 74, some 75, none, some 76, some 77, some 78, some 79, some 80], [], [], [], [], [], [], [], [], [], [], [], [], [], [], [], [], [], [], [], [], [], [], [], [], [], [], [], [], [], [], [], [], [], [], [], [], [], [], [], [], [], [], [], []]
def RR : aR := fun a k => (RL.getD a []).getD k none
abbrev St (N : Nat) (I : aI) (L : aL) : aS := (SH N, I, L, RR)
theorem SH_len (N : Nat) : (SH N).length = 81 := rfl
theorem sh0 (N : Nat) : (SH N)[0]? = some (9, 0) := rfl
theorem sh1 (N : Nat) : (SH N)[1]? = some (12, 1600) := rfl
theorem sh2 (N : Nat) : (SH N)[2]? = some (5, 0) := rfl
theorem sh3 (N : Nat) : (SH N)[3]? = some (11, 3) := rfl
theorem sh4 (N : Nat) : (SH N)[4]? = some (11, 18) := rfl
theorem sh5 (N : Nat) : (SH N)[5]? = some (11, 18) := rfl
theorem sh6 (N : Nat) : (SH N)[6]? = some (11, 18) := rfl
theorem sh7 (N : Nat) : (SH N)[7]? = some (11, 5) := rfl
theorem sh8 (N : Nat) : (SH N)[8]? = some (11, 5) := rfl
theorem sh9 (N : Nat) : (SH N)[9]? = some (11, N) := rfl
theorem sh10 (N : Nat) : (SH N)[10]? = some (8, 0) := rfl
theorem sh11 (N : Nat) : (SH N)[11]? = some (11, 5) := rfl
theorem sh12 (N : Nat) : (SH N)[12]? = some (11, 6) := rfl
theorem sh13 (N : Nat) : (SH N)[13]? = some (8, 0) := rfl
theorem sh14 (N : Nat) : (SH N)[14]? = some (11, 5) := rfl
theorem sh15 (N : Nat) : (SH N)[15]? = some (11, 6) := rfl
theorem sh16 (N : Nat) : (SH N)[16]? = some (6, 0) := rfl
theorem sh17 (N : Nat) : (SH N)[17]? = some (11, 20) := rfl
theorem sh18 (N : Nat) : (SH N)[18]? = some (11, 64) := rfl
theorem sh19 (N : Nat) : (SH N)[19]? = some (0, 0) := rfl
theorem sh20 (N : Nat) : (SH N)[20]? = some (11, 300) := rfl
theorem sh21 (N : Nat) : (SH N)[21]? = some (2, 0) := rfl
theorem sh22 (N : Nat) : (SH N)[22]? = some (11, 840) := rfl
theorem sh23 (N : Nat) : (SH N)[23]? = some (7, 0) := rfl
theorem sh24 (N : Nat) : (SH N)[24]? = some (11, 48) := rfl
theorem sh25 (N : Nat) : (SH N)[25]? = some (11, 246) := rfl
theorem sh26 (N : Nat) : (SH N)[26]? = some (3, 0) := rfl
theorem sh27 (N : Nat) : (SH N)[27]? = some (11, 6) := rfl
theorem sh28 (N : Nat) : (SH N)[28]? = some (11, 6) := rfl
theorem sh29 (N : Nat) : (SH N)[29]? = some (11, 30) := rfl
theorem sh30 (N : Nat) : (SH N)[30]? = some (1, 0) := rfl
theorem sh31 (N : Nat) : (SH N)[31]? = some (11, 6) := rfl
theorem sh32 (N : Nat) : (SH N)[32]? = some (11, 6) := rfl
theorem sh33 (N : Nat) : (SH N)[33]? = some (11, 600) := rfl
theorem sh34 (N : Nat) : (SH N)[34]? = some (11, 21) := rfl
theorem sh35 (N : Nat) : (SH N)[35]? = some (11, 6) := rfl
theorem sh36 (N : Nat) : (SH N)[36]? = some (10, 0) := rfl
theorem sh37 (N : Nat) : (SH N)[37]? = some (11, 1800) := rfl
theorem sh38 (N : Nat) : (SH N)[38]? = some (11, 2) := rfl
theorem sh39 (N : Nat) : (SH N)[39]? = some (11, 10) := rfl
theorem sh40 (N : Nat) : (SH N)[40]? = some (11, 10) := rfl
theorem sh41 (N : Nat) : (SH N)[41]? = some (11, 2) := rfl
theorem sh42 (N : Nat) : (SH N)[42]? = some (11, 12) := rfl
theorem sh43 (N : Nat) : (SH N)[43]? = some (11, 12) := rfl
theorem sh44 (N : Nat) : (SH N)[44]? = some (11, 2) := rfl
theorem sh45 (N : Nat) : (SH N)[45]? = some (11, 12) := rfl
theorem sh46 (N : Nat) : (SH N)[46]? = some (11, 12) := rfl
theorem sh47 (N : Nat) : (SH N)[47]? = some (11, 2) := rfl
theorem sh48 (N : Nat) : (SH N)[48]? = some (11, 2) := rfl
theorem sh49 (N : Nat) : (SH N)[49]? = some (11, 10) := rfl
theorem sh50 (N : Nat) : (SH N)[50]? = some (11, 10) := rfl
theorem sh51 (N : Nat) : (SH N)[51]? = some (11, 3200) := rfl
theorem sh52 (N : Nat) : (SH N)[52]? = some (11, 3200) := rfl
theorem sh53 (N : Nat) : (SH N)[53]? = some (14, 10) := rfl
theorem sh54 (N : Nat) : (SH N)[54]? = some (14, 12) := rfl
theorem sh55 (N : Nat) : (SH N)[55]? = some (14, 12) := rfl
theorem sh56 (N : Nat) : (SH N)[56]? = some (11, 20) := rfl
theorem sh57 (N : Nat) : (SH N)[57]? = some (11, 20) := rfl
theorem sh58 (N : Nat) : (SH N)[58]? = some (13, 20) := rfl
theorem sh59 (N : Nat) : (SH N)[59]? = some (11, 20) := rfl
theorem sh60 (N : Nat) : (SH N)[60]? = some (11, 20) := rfl
theorem sh61 (N : Nat) : (SH N)[61]? = some (11, 500) := rfl
theorem sh62 (N : Nat) : (SH N)[62]? = some (11, 6) := rfl
theorem sh63 (N : Nat) : (SH N)[63]? = some (11, 22) := rfl
theorem sh64 (N : Nat) : (SH N)[64]? = some (11, 22) := rfl
theorem sh65 (N : Nat) : (SH N)[65]? = some (11, 110) := rfl
theorem sh66 (N : Nat) : (SH N)[66]? = some (11, 132) := rfl
theorem sh67 (N : Nat) : (SH N)[67]? = some (11, 22) := rfl
theorem sh68 (N : Nat) : (SH N)[68]? = some (11, 22) := rfl
theorem sh69 (N : Nat) : (SH N)[69]? = some (11, 3520) := rfl
theorem sh70 (N : Nat) : (SH N)[70]? = some (14, 500) := rfl
theorem sh71 (N : Nat) : (SH N)[71]? = some (11, 14) := rfl
theorem sh72 (N : Nat) : (SH N)[72]? = some (11, 6) := rfl
theorem sh73 (N : Nat) : (SH N)[73]? = some (11, 6) := rfl
theorem sh74 (N : Nat) : (SH N)[74]? = some (11, 6) := rfl
theorem sh75 (N : Nat) : (SH N)[75]? = some (11, 30) := rfl
theorem sh76 (N : Nat) : (SH N)[76]? = some (11, 16) := rfl
theorem sh77 (N : Nat) : (SH N)[77]? = some (11, 16) := rfl
theorem sh78 (N : Nat) : (SH N)[78]? = some (11, 16) := rfl
theorem sh79 (N : Nat) : (SH N)[79]? = some (11, 6) := rfl
theorem sh80 (N : Nat) : (SH N)[80]? = some (11, 40) := rfl
theorem r0_0 : RR 0 0 = some 1 := rfl
theorem r0_2 : RR 0 2 = some 2 := rfl
theorem r0_5 : RR 0 5 = some 10 := rfl
theorem r0_6 : RR 0 6 = some 13 := rfl
theorem r0_7 : RR 0 7 = some 16 := rfl
theorem r0_8 : RR 0 8 = some 19 := rfl
theorem r0_9 : RR 0 9 = some 21 := rfl
theorem r0_10 : RR 0 10 = some 23 := rfl
theorem r0_11 : RR 0 11 = some 26 := rfl
theorem r0_12 : RR 0 12 = some 30 := rfl
theorem r0_14 : RR 0 14 = some 34 := rfl
theorem r0_16 : RR 0 16 = some 35 := rfl
theorem r2_0 : RR 2 0 = some 3 := rfl
theorem r2_1 : RR 2 1 = some 4 := rfl
theorem r2_2 : RR 2 2 = some 5 := rfl
theorem r2_3 : RR 2 3 = some 6 := rfl
theorem r2_7 : RR 2 7 = some 9 := rfl
theorem r2_9 : RR 2 9 = some 7 := rfl
theorem r2_10 : RR 2 10 = some 8 := rfl
theorem r10_4 : RR 10 4 = some 11 := rfl
theorem r10_5 : RR 10 5 = some 12 := rfl
theorem r13_4 : RR 13 4 = some 14 := rfl
theorem r13_5 : RR 13 5 = some 15 := rfl
theorem r16_0 : RR 16 0 = some 2 := rfl
theorem r16_1 : RR 16 1 = some 17 := rfl
theorem r16_2 : RR 16 2 = some 18 := rfl
theorem r19_0 : RR 19 0 = some 20 := rfl
theorem r21_0 : RR 21 0 = some 22 := rfl
theorem r23_1 : RR 23 1 = some 24 := rfl
theorem r23_4 : RR 23 4 = some 25 := rfl
theorem r23_5 : RR 23 5 = some 16 := rfl
theorem r23_6 : RR 23 6 = some 10 := rfl
theorem r26_2 : RR 26 2 = some 27 := rfl
theorem r26_3 : RR 26 3 = some 28 := rfl
theorem r26_4 : RR 26 4 = some 29 := rfl
theorem r26_5 : RR 26 5 = some 16 := rfl
theorem r26_6 : RR 26 6 = some 10 := rfl
theorem r30_3 : RR 30 3 = some 31 := rfl
theorem r30_4 : RR 30 4 = some 32 := rfl
theorem r30_5 : RR 30 5 = some 33 := rfl
theorem r30_6 : RR 30 6 = some 16 := rfl
theorem r30_7 : RR 30 7 = some 10 := rfl
theorem r36_0 : RR 36 0 = some 37 := rfl
theorem r36_14 : RR 36 14 = some 38 := rfl
theorem r36_15 : RR 36 15 = some 39 := rfl
theorem r36_16 : RR 36 16 = some 40 := rfl
theorem r36_17 : RR 36 17 = some 41 := rfl
theorem r36_18 : RR 36 18 = some 42 := rfl
theorem r36_19 : RR 36 19 = some 43 := rfl
theorem r36_20 : RR 36 20 = some 44 := rfl
theorem r36_21 : RR 36 21 = some 45 := rfl
theorem r36_22 : RR 36 22 = some 46 := rfl
theorem r36_23 : RR 36 23 = some 47 := rfl
theorem r36_24 : RR 36 24 = some 48 := rfl
theorem r36_25 : RR 36 25 = some 49 := rfl
theorem r36_26 : RR 36 26 = some 50 := rfl
theorem r36_27 : RR 36 27 = some 51 := rfl
theorem r36_28 : RR 36 28 = some 52 := rfl
theorem r36_29 : RR 36 29 = some 53 := rfl
theorem r36_30 : RR 36 30 = some 54 := rfl
theorem r36_31 : RR 36 31 = some 55 := rfl
theorem r36_35 : RR 36 35 = some 56 := rfl
theorem r36_36 : RR 36 36 = some 57 := rfl
theorem r36_37 : RR 36 37 = some 58 := rfl
theorem r36_38 : RR 36 38 = some 59 := rfl
theorem r36_39 : RR 36 39 = some 60 := rfl
theorem r36_42 : RR 36 42 = some 61 := rfl
theorem r36_45 : RR 36 45 = some 62 := rfl
theorem r36_46 : RR 36 46 = some 63 := rfl
theorem r36_47 : RR 36 47 = some 64 := rfl
theorem r36_48 : RR 36 48 = some 65 := rfl
theorem r36_49 : RR 36 49 = some 66 := rfl
theorem r36_50 : RR 36 50 = some 67 := rfl
theorem r36_51 : RR 36 51 = some 68 := rfl
theorem r36_52 : RR 36 52 = some 69 := rfl
theorem r36_56 : RR 36 56 = some 70 := rfl
theorem r36_57 : RR 36 57 = some 71 := rfl
theorem r36_58 : RR 36 58 = some 72 := rfl
theorem r36_59 : RR 36 59 = some 73 := rfl
theorem r36_60 : RR 36 60 = some 74 := rfl
theorem r36_61 : RR 36 61 = some 75 := rfl
theorem r36_63 : RR 36 63 = some 76 := rfl
theorem r36_64 : RR 36 64 = some 77 := rfl
theorem r36_65 : RR 36 65 = some 78 := rfl
theorem r36_66 : RR 36 66 = some 79 := rfl
theorem r36_67 : RR 36 67 = some 80 := rfl
