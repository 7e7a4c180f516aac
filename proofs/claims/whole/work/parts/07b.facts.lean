set_option maxRecDepth 20000 in
theorem kf_X9_9 : Cond.fieldLink RX9 9 RX9 "tape" "[B" ∈ GW := gw2 68 rfl (by decide +kernel)
theorem fX9_9 : aFd RX9 9 9 0 2 2 := ⟨RX9, TX9, 17, rfl, by decide, kf_X9_9, rfl, fun h => absurd h (by decide), fun _ => ⟨rfl, rfl⟩⟩
set_option maxRecDepth 20000 in
theorem kf_X9_13 : Cond.fieldLink RX9 13 RX9 "tapeSize" "I" ∈ GW := gw2 69 rfl (by decide +kernel)
theorem fX9_13 : aFd RX9 13 9 1 0 1 := ⟨RX9, TX9, 17, rfl, by decide, kf_X9_13, rfl, fun _ => rfl, fun h => absurd h (by decide)⟩
set_option maxRecDepth 20000 in
theorem kf_X9_22 : Cond.fieldLink RX9 22 RX9 "plan" "LZincSermon$Plan;" ∈ GW := gw2 70 rfl (by decide +kernel)
theorem fX9_22 : aFd RX9 22 9 2 2 1 := ⟨RX9, TX9, 17, rfl, by decide, kf_X9_22, rfl, fun _ => rfl, fun h => absurd h (by decide)⟩
set_option maxRecDepth 20000 in
theorem kf_X9_26 : Cond.fieldLink RX9 26 RX9 "faultKind" "I" ∈ GW := gw2 71 rfl (by decide +kernel)
theorem fX9_26 : aFd RX9 26 9 3 0 1 := ⟨RX9, TX9, 17, rfl, by decide, kf_X9_26, rfl, fun _ => rfl, fun h => absurd h (by decide)⟩
set_option maxRecDepth 20000 in
theorem kf_X9_29 : Cond.fieldLink RX9 29 RX9 "faultPlace" "I" ∈ GW := gw2 72 rfl (by decide +kernel)
theorem fX9_29 : aFd RX9 29 9 4 0 1 := ⟨RX9, TX9, 17, rfl, by decide, kf_X9_29, rfl, fun _ => rfl, fun h => absurd h (by decide)⟩
set_option maxRecDepth 20000 in
theorem kf_X9_35 : Cond.fieldLink RX9 35 RX9 "now" "LZincSermon$State;" ∈ GW := gw2 73 rfl (by decide +kernel)
theorem fX9_35 : aFd RX9 35 9 5 2 2 := ⟨RX9, TX9, 17, rfl, by decide, kf_X9_35, rfl, fun h => absurd h (by decide), fun _ => ⟨rfl, rfl⟩⟩
set_option maxRecDepth 20000 in
theorem kf_X9_39 : Cond.fieldLink RX9 39 RX9 "ahead" "LZincSermon$State;" ∈ GW := gw2 74 rfl (by decide +kernel)
theorem fX9_39 : aFd RX9 39 9 6 2 2 := ⟨RX9, TX9, 17, rfl, by decide, kf_X9_39, rfl, fun h => absurd h (by decide), fun _ => ⟨rfl, rfl⟩⟩
set_option maxRecDepth 20000 in
theorem kf_X9_47 : Cond.fieldLink RX9 47 RX9 "preacher" "LZincSermon$Preacher;" ∈ GW := gw2 75 rfl (by decide +kernel)
theorem fX9_47 : aFd RX9 47 9 7 2 2 := ⟨RX9, TX9, 17, rfl, by decide, kf_X9_47, rfl, fun h => absurd h (by decide), fun _ => ⟨rfl, rfl⟩⟩
set_option maxRecDepth 20000 in
theorem kf_X9_54 : Cond.fieldLink RX9 54 RX9 "acts" "LZincSermon$Acts;" ∈ GW := gw2 76 rfl (by decide +kernel)
theorem fX9_54 : aFd RX9 54 9 8 2 2 := ⟨RX9, TX9, 17, rfl, by decide, kf_X9_54, rfl, fun h => absurd h (by decide), fun _ => ⟨rfl, rfl⟩⟩
set_option maxRecDepth 20000 in
theorem kf_X9_61 : Cond.fieldLink RX9 61 RX9 "log" "LZincSermon$Kept;" ∈ GW := gw2 77 rfl (by decide +kernel)
theorem fX9_61 : aFd RX9 61 9 9 2 2 := ⟨RX9, TX9, 17, rfl, by decide, kf_X9_61, rfl, fun h => absurd h (by decide), fun _ => ⟨rfl, rfl⟩⟩
set_option maxRecDepth 20000 in
theorem kf_X9_70 : Cond.fieldLink RX9 70 RX9 "seen" "LZincSermon$Seen;" ∈ GW := gw2 78 rfl (by decide +kernel)
theorem fX9_70 : aFd RX9 70 9 10 2 2 := ⟨RX9, TX9, 17, rfl, by decide, kf_X9_70, rfl, fun h => absurd h (by decide), fun _ => ⟨rfl, rfl⟩⟩
set_option maxRecDepth 20000 in
theorem kf_X9_77 : Cond.fieldLink RX9 77 RX9 "matchFinder" "LZincSermon$MatchFinder;" ∈ GW := gw2 79 rfl (by decide +kernel)
theorem fX9_77 : aFd RX9 77 9 11 2 2 := ⟨RX9, TX9, 17, rfl, by decide, kf_X9_77, rfl, fun h => absurd h (by decide), fun _ => ⟨rfl, rfl⟩⟩
set_option maxRecDepth 20000 in
theorem kf_X9_84 : Cond.fieldLink RX9 84 RX9 "headFinder" "LZincSermon$HeadFinder;" ∈ GW := gw2 80 rfl (by decide +kernel)
theorem fX9_84 : aFd RX9 84 9 12 2 2 := ⟨RX9, TX9, 17, rfl, by decide, kf_X9_84, rfl, fun h => absurd h (by decide), fun _ => ⟨rfl, rfl⟩⟩
set_option maxRecDepth 20000 in
theorem kf_X9_88 : Cond.fieldLink RX9 88 RX9 "drawn" "J" ∈ GW := gw2 81 rfl (by decide +kernel)
theorem fX9_88 : aFd RX9 88 9 13 1 1 := ⟨RX9, TX9, 17, rfl, by decide, kf_X9_88, rfl, fun _ => rfl, fun h => absurd h (by decide)⟩
set_option maxRecDepth 20000 in
theorem kf_X9_92 : Cond.fieldLink RX9 92 RX9 "bytes" "[I" ∈ GW := gw2 82 rfl (by decide +kernel)
theorem fX9_92 : aFd RX9 92 9 14 2 2 := ⟨RX9, TX9, 17, rfl, by decide, kf_X9_92, rfl, fun h => absurd h (by decide), fun _ => ⟨rfl, rfl⟩⟩
set_option maxRecDepth 20000 in
theorem kf_X9_96 : Cond.fieldLink RX9 96 RX9 "bytesSize" "I" ∈ GW := gw2 83 rfl (by decide +kernel)
theorem fX9_96 : aFd RX9 96 9 15 0 1 := ⟨RX9, TX9, 17, rfl, by decide, kf_X9_96, rfl, fun _ => rfl, fun h => absurd h (by decide)⟩
set_option maxRecDepth 20000 in
theorem kf_X9_99 : Cond.fieldLink RX9 99 RX9 "refused" "[I" ∈ GW := gw2 84 rfl (by decide +kernel)
theorem fX9_99 : aFd RX9 99 9 16 2 2 := ⟨RX9, TX9, 17, rfl, by decide, kf_X9_99, rfl, fun h => absurd h (by decide), fun _ => ⟨rfl, rfl⟩⟩
set_option maxRecDepth 20000 in
theorem kf_X4_36 : Cond.fieldLink RX4 36 RX4 "text" "[B" ∈ GW := gw2 156 rfl (by decide +kernel)
theorem fX4_36 : aFd RX4 36 4 0 2 2 := ⟨RX4, TX4, 11, rfl, by decide, kf_X4_36, rfl, fun h => absurd h (by decide), fun _ => ⟨rfl, rfl⟩⟩
set_option maxRecDepth 20000 in
theorem kf_X4_49 : Cond.fieldLink RX4 49 RX4 "size" "I" ∈ GW := gw2 157 rfl (by decide +kernel)
theorem fX4_49 : aFd RX4 49 4 1 0 2 := ⟨RX4, TX4, 11, rfl, by decide, kf_X4_49, rfl, fun h => absurd h (by decide), fun _ => ⟨rfl, rfl⟩⟩
set_option maxRecDepth 20000 in
theorem kf_X4_57 : Cond.fieldLink RX4 57 RX4 "plan" "LZincSermon$Plan;" ∈ GW := gw2 158 rfl (by decide +kernel)
theorem fX4_57 : aFd RX4 57 4 2 2 2 := ⟨RX4, TX4, 11, rfl, by decide, kf_X4_57, rfl, fun h => absurd h (by decide), fun _ => ⟨rfl, rfl⟩⟩
set_option maxRecDepth 20000 in
theorem kf_X9_127 : Cond.fieldLink RX9 127 RX4 "plan" "LZincSermon$Plan;" ∈ GW := gw2 159 rfl (by decide +kernel)
theorem fX9_127 : aFd RX9 127 4 2 2 0 := ⟨RX4, TX4, 11, rfl, by decide, kf_X9_127, rfl, fun h => absurd h (by decide), fun h => absurd h (by decide)⟩
set_option maxRecDepth 20000 in
theorem kf_X4_9 : Cond.fieldLink RX4 9 RX4 "fault" "I" ∈ GW := gw2 160 rfl (by decide +kernel)
theorem fX4_9 : aFd RX4 9 4 3 0 1 := ⟨RX4, TX4, 11, rfl, by decide, kf_X4_9, rfl, fun _ => rfl, fun h => absurd h (by decide)⟩
set_option maxRecDepth 20000 in
theorem kf_X9_121 : Cond.fieldLink RX9 121 RX4 "fault" "I" ∈ GW := gw2 161 rfl (by decide +kernel)
theorem fX9_121 : aFd RX9 121 4 3 0 1 := ⟨RX4, TX4, 11, rfl, by decide, kf_X9_121, rfl, fun _ => rfl, fun h => absurd h (by decide)⟩
set_option maxRecDepth 20000 in
theorem kf_X4_15 : Cond.fieldLink RX4 15 RX4 "place" "I" ∈ GW := gw2 162 rfl (by decide +kernel)
theorem fX4_15 : aFd RX4 15 4 4 0 1 := ⟨RX4, TX4, 11, rfl, by decide, kf_X4_15, rfl, fun _ => rfl, fun h => absurd h (by decide)⟩
set_option maxRecDepth 20000 in
theorem kf_X9_124 : Cond.fieldLink RX9 124 RX4 "place" "I" ∈ GW := gw2 163 rfl (by decide +kernel)
theorem fX9_124 : aFd RX9 124 4 4 0 1 := ⟨RX4, TX4, 11, rfl, by decide, kf_X9_124, rfl, fun _ => rfl, fun h => absurd h (by decide)⟩
set_option maxRecDepth 20000 in
theorem kf_X4_18 : Cond.fieldLink RX4 18 RX4 "at" "I" ∈ GW := gw2 164 rfl (by decide +kernel)
theorem fX4_18 : aFd RX4 18 4 5 0 1 := ⟨RX4, TX4, 11, rfl, by decide, kf_X4_18, rfl, fun _ => rfl, fun h => absurd h (by decide)⟩
set_option maxRecDepth 20000 in
theorem kf_X4_21 : Cond.fieldLink RX4 21 RX4 "start" "I" ∈ GW := gw2 165 rfl (by decide +kernel)
theorem fX4_21 : aFd RX4 21 4 6 0 1 := ⟨RX4, TX4, 11, rfl, by decide, kf_X4_21, rfl, fun _ => rfl, fun h => absurd h (by decide)⟩
set_option maxRecDepth 20000 in
theorem kf_X4_24 : Cond.fieldLink RX4 24 RX4 "kind" "I" ∈ GW := gw2 166 rfl (by decide +kernel)
theorem fX4_24 : aFd RX4 24 4 7 0 1 := ⟨RX4, TX4, 11, rfl, by decide, kf_X4_24, rfl, fun _ => rfl, fun h => absurd h (by decide)⟩
set_option maxRecDepth 20000 in
theorem kf_X4_27 : Cond.fieldLink RX4 27 RX4 "value" "I" ∈ GW := gw2 167 rfl (by decide +kernel)
theorem fX4_27 : aFd RX4 27 4 8 0 1 := ⟨RX4, TX4, 11, rfl, by decide, kf_X4_27, rfl, fun _ => rfl, fun h => absurd h (by decide)⟩
set_option maxRecDepth 20000 in
theorem kf_X4_30 : Cond.fieldLink RX4 30 RX4 "own" "I" ∈ GW := gw2 168 rfl (by decide +kernel)
theorem fX4_30 : aFd RX4 30 4 9 0 1 := ⟨RX4, TX4, 11, rfl, by decide, kf_X4_30, rfl, fun _ => rfl, fun h => absurd h (by decide)⟩
set_option maxRecDepth 20000 in
theorem kf_X4_33 : Cond.fieldLink RX4 33 RX4 "scope" "I" ∈ GW := gw2 169 rfl (by decide +kernel)
theorem fX4_33 : aFd RX4 33 4 10 0 1 := ⟨RX4, TX4, 11, rfl, by decide, kf_X4_33, rfl, fun _ => rfl, fun h => absurd h (by decide)⟩
set_option maxRecDepth 20000 in
theorem kf_X10_7 : Cond.fieldLink RX10 7 RX10 "tape" "[I" ∈ GW := gw5 43 rfl (by decide +kernel)
theorem fX10_7 : aFd RX10 7 10 0 2 2 := ⟨RX10, TX10, 69, rfl, by decide, kf_X10_7, rfl, fun h => absurd h (by decide), fun _ => ⟨rfl, rfl⟩⟩
set_option maxRecDepth 20000 in
theorem kf_X10_13 : Cond.fieldLink RX10 13 RX10 "taped" "I" ∈ GW := gw5 44 rfl (by decide +kernel)
theorem fX10_13 : aFd RX10 13 10 1 0 1 := ⟨RX10, TX10, 69, rfl, by decide, kf_X10_13, rfl, fun _ => rfl, fun h => absurd h (by decide)⟩
set_option maxRecDepth 20000 in
theorem kf_X10_17 : Cond.fieldLink RX10 17 RX10 "size" "I" ∈ GW := gw5 45 rfl (by decide +kernel)
theorem fX10_17 : aFd RX10 17 10 2 0 1 := ⟨RX10, TX10, 69, rfl, by decide, kf_X10_17, rfl, fun _ => rfl, fun h => absurd h (by decide)⟩
set_option maxRecDepth 20000 in
theorem kf_X10_20 : Cond.fieldLink RX10 20 RX10 "sign" "I" ∈ GW := gw5 46 rfl (by decide +kernel)
theorem fX10_20 : aFd RX10 20 10 3 0 1 := ⟨RX10, TX10, 69, rfl, by decide, kf_X10_20, rfl, fun _ => rfl, fun h => absurd h (by decide)⟩
set_option maxRecDepth 20000 in
theorem kf_X10_23 : Cond.fieldLink RX10 23 RX10 "signAt" "I" ∈ GW := gw5 47 rfl (by decide +kernel)
theorem fX10_23 : aFd RX10 23 10 4 0 1 := ⟨RX10, TX10, 69, rfl, by decide, kf_X10_23, rfl, fun _ => rfl, fun h => absurd h (by decide)⟩
set_option maxRecDepth 20000 in
theorem kf_X10_26 : Cond.fieldLink RX10 26 RX10 "signEnd" "I" ∈ GW := gw5 48 rfl (by decide +kernel)
theorem fX10_26 : aFd RX10 26 10 5 0 1 := ⟨RX10, TX10, 69, rfl, by decide, kf_X10_26, rfl, fun _ => rfl, fun h => absurd h (by decide)⟩
set_option maxRecDepth 20000 in
theorem kf_X10_29 : Cond.fieldLink RX10 29 RX10 "value" "I" ∈ GW := gw5 49 rfl (by decide +kernel)
theorem fX10_29 : aFd RX10 29 10 6 0 1 := ⟨RX10, TX10, 69, rfl, by decide, kf_X10_29, rfl, fun _ => rfl, fun h => absurd h (by decide)⟩
set_option maxRecDepth 20000 in
theorem kf_X10_32 : Cond.fieldLink RX10 32 RX10 "word" "J" ∈ GW := gw5 50 rfl (by decide +kernel)
theorem fX10_32 : aFd RX10 32 10 7 1 1 := ⟨RX10, TX10, 69, rfl, by decide, kf_X10_32, rfl, fun _ => rfl, fun h => absurd h (by decide)⟩
set_option maxRecDepth 20000 in
theorem kf_X10_36 : Cond.fieldLink RX10 36 RX10 "faultKind" "I" ∈ GW := gw5 51 rfl (by decide +kernel)
theorem fX10_36 : aFd RX10 36 10 8 0 1 := ⟨RX10, TX10, 69, rfl, by decide, kf_X10_36, rfl, fun _ => rfl, fun h => absurd h (by decide)⟩
set_option maxRecDepth 20000 in
theorem kf_X10_39 : Cond.fieldLink RX10 39 RX10 "faultPlace" "I" ∈ GW := gw5 52 rfl (by decide +kernel)
theorem fX10_39 : aFd RX10 39 10 9 0 1 := ⟨RX10, TX10, 69, rfl, by decide, kf_X10_39, rfl, fun _ => rfl, fun h => absurd h (by decide)⟩
set_option maxRecDepth 20000 in
theorem kf_X10_42 : Cond.fieldLink RX10 42 RX10 "toldKind" "I" ∈ GW := gw5 53 rfl (by decide +kernel)
theorem fX10_42 : aFd RX10 42 10 10 0 1 := ⟨RX10, TX10, 69, rfl, by decide, kf_X10_42, rfl, fun _ => rfl, fun h => absurd h (by decide)⟩
set_option maxRecDepth 20000 in
theorem kf_X10_45 : Cond.fieldLink RX10 45 RX10 "toldPlace" "I" ∈ GW := gw5 54 rfl (by decide +kernel)
theorem fX10_45 : aFd RX10 45 10 11 0 1 := ⟨RX10, TX10, 69, rfl, by decide, kf_X10_45, rfl, fun _ => rfl, fun h => absurd h (by decide)⟩
set_option maxRecDepth 20000 in
theorem kf_X10_48 : Cond.fieldLink RX10 48 RX10 "lexAt" "I" ∈ GW := gw5 55 rfl (by decide +kernel)
theorem fX10_48 : aFd RX10 48 10 12 0 1 := ⟨RX10, TX10, 69, rfl, by decide, kf_X10_48, rfl, fun _ => rfl, fun h => absurd h (by decide)⟩
set_option maxRecDepth 20000 in
theorem kf_X10_51 : Cond.fieldLink RX10 51 RX10 "bank" "I" ∈ GW := gw5 56 rfl (by decide +kernel)
theorem fX10_51 : aFd RX10 51 10 13 0 1 := ⟨RX10, TX10, 69, rfl, by decide, kf_X10_51, rfl, fun _ => rfl, fun h => absurd h (by decide)⟩
set_option maxRecDepth 20000 in
theorem kf_X10_54 : Cond.fieldLink RX10 54 RX10 "boards" "[I" ∈ GW := gw5 57 rfl (by decide +kernel)
theorem fX10_54 : aFd RX10 54 10 14 2 2 := ⟨RX10, TX10, 69, rfl, by decide, kf_X10_54, rfl, fun h => absurd h (by decide), fun _ => ⟨rfl, rfl⟩⟩
set_option maxRecDepth 20000 in
theorem kf_X10_57 : Cond.fieldLink RX10 57 RX10 "ribsOf" "[I" ∈ GW := gw5 58 rfl (by decide +kernel)
theorem fX10_57 : aFd RX10 57 10 15 2 2 := ⟨RX10, TX10, 69, rfl, by decide, kf_X10_57, rfl, fun h => absurd h (by decide), fun _ => ⟨rfl, rfl⟩⟩
set_option maxRecDepth 20000 in
theorem kf_X10_60 : Cond.fieldLink RX10 60 RX10 "zincTold" "[I" ∈ GW := gw5 59 rfl (by decide +kernel)
theorem fX10_60 : aFd RX10 60 10 16 2 2 := ⟨RX10, TX10, 69, rfl, by decide, kf_X10_60, rfl, fun h => absurd h (by decide), fun _ => ⟨rfl, rfl⟩⟩
set_option maxRecDepth 20000 in
theorem kf_X10_63 : Cond.fieldLink RX10 63 RX10 "stains" "[I" ∈ GW := gw5 60 rfl (by decide +kernel)
theorem fX10_63 : aFd RX10 63 10 17 2 2 := ⟨RX10, TX10, 69, rfl, by decide, kf_X10_63, rfl, fun h => absurd h (by decide), fun _ => ⟨rfl, rfl⟩⟩
set_option maxRecDepth 20000 in
theorem kf_X10_66 : Cond.fieldLink RX10 66 RX10 "deepTold" "[I" ∈ GW := gw5 61 rfl (by decide +kernel)
theorem fX10_66 : aFd RX10 66 10 18 2 2 := ⟨RX10, TX10, 69, rfl, by decide, kf_X10_66, rfl, fun h => absurd h (by decide), fun _ => ⟨rfl, rfl⟩⟩
set_option maxRecDepth 20000 in
theorem kf_X10_69 : Cond.fieldLink RX10 69 RX10 "stuffOf" "[I" ∈ GW := gw5 62 rfl (by decide +kernel)
theorem fX10_69 : aFd RX10 69 10 19 2 2 := ⟨RX10, TX10, 69, rfl, by decide, kf_X10_69, rfl, fun h => absurd h (by decide), fun _ => ⟨rfl, rfl⟩⟩
set_option maxRecDepth 20000 in
theorem kf_X10_72 : Cond.fieldLink RX10 72 RX10 "hearers" "[I" ∈ GW := gw5 63 rfl (by decide +kernel)
theorem fX10_72 : aFd RX10 72 10 20 2 2 := ⟨RX10, TX10, 69, rfl, by decide, kf_X10_72, rfl, fun h => absurd h (by decide), fun _ => ⟨rfl, rfl⟩⟩
set_option maxRecDepth 20000 in
theorem kf_X10_75 : Cond.fieldLink RX10 75 RX10 "sinOf" "[I" ∈ GW := gw5 64 rfl (by decide +kernel)
theorem fX10_75 : aFd RX10 75 10 21 2 2 := ⟨RX10, TX10, 69, rfl, by decide, kf_X10_75, rfl, fun h => absurd h (by decide), fun _ => ⟨rfl, rfl⟩⟩
set_option maxRecDepth 20000 in
theorem kf_X10_78 : Cond.fieldLink RX10 78 RX10 "earOf" "[I" ∈ GW := gw5 65 rfl (by decide +kernel)
theorem fX10_78 : aFd RX10 78 10 22 2 2 := ⟨RX10, TX10, 69, rfl, by decide, kf_X10_78, rfl, fun h => absurd h (by decide), fun _ => ⟨rfl, rfl⟩⟩
set_option maxRecDepth 20000 in
theorem kf_X10_81 : Cond.fieldLink RX10 81 RX10 "waterTold" "[I" ∈ GW := gw5 66 rfl (by decide +kernel)
theorem fX10_81 : aFd RX10 81 10 23 2 2 := ⟨RX10, TX10, 69, rfl, by decide, kf_X10_81, rfl, fun h => absurd h (by decide), fun _ => ⟨rfl, rfl⟩⟩
set_option maxRecDepth 20000 in
theorem kf_X10_84 : Cond.fieldLink RX10 84 RX10 "dryTold" "[I" ∈ GW := gw5 67 rfl (by decide +kernel)
theorem fX10_84 : aFd RX10 84 10 24 2 2 := ⟨RX10, TX10, 69, rfl, by decide, kf_X10_84, rfl, fun h => absurd h (by decide), fun _ => ⟨rfl, rfl⟩⟩
set_option maxRecDepth 20000 in
theorem kf_X10_87 : Cond.fieldLink RX10 87 RX10 "sumFrom" "[I" ∈ GW := gw5 68 rfl (by decide +kernel)
theorem fX10_87 : aFd RX10 87 10 25 2 2 := ⟨RX10, TX10, 69, rfl, by decide, kf_X10_87, rfl, fun h => absurd h (by decide), fun _ => ⟨rfl, rfl⟩⟩
set_option maxRecDepth 20000 in
theorem kf_X10_90 : Cond.fieldLink RX10 90 RX10 "sumBehind" "[I" ∈ GW := gw5 69 rfl (by decide +kernel)
theorem fX10_90 : aFd RX10 90 10 26 2 2 := ⟨RX10, TX10, 69, rfl, by decide, kf_X10_90, rfl, fun h => absurd h (by decide), fun _ => ⟨rfl, rfl⟩⟩
set_option maxRecDepth 20000 in
theorem kf_X10_93 : Cond.fieldLink RX10 93 RX10 "codeSort" "[I" ∈ GW := gw5 70 rfl (by decide +kernel)
theorem fX10_93 : aFd RX10 93 10 27 2 2 := ⟨RX10, TX10, 69, rfl, by decide, kf_X10_93, rfl, fun h => absurd h (by decide), fun _ => ⟨rfl, rfl⟩⟩
set_option maxRecDepth 20000 in
theorem kf_X10_96 : Cond.fieldLink RX10 96 RX10 "codeValue" "[I" ∈ GW := gw5 71 rfl (by decide +kernel)
theorem fX10_96 : aFd RX10 96 10 28 2 2 := ⟨RX10, TX10, 69, rfl, by decide, kf_X10_96, rfl, fun h => absurd h (by decide), fun _ => ⟨rfl, rfl⟩⟩
set_option maxRecDepth 20000 in
theorem kf_X10_99 : Cond.fieldLink RX10 99 RX10 "boardName" "[J" ∈ GW := gw5 72 rfl (by decide +kernel)
theorem fX10_99 : aFd RX10 99 10 29 2 2 := ⟨RX10, TX10, 69, rfl, by decide, kf_X10_99, rfl, fun h => absurd h (by decide), fun _ => ⟨rfl, rfl⟩⟩
set_option maxRecDepth 20000 in
theorem kf_X10_103 : Cond.fieldLink RX10 103 RX10 "stainName" "[J" ∈ GW := gw5 73 rfl (by decide +kernel)
theorem fX10_103 : aFd RX10 103 10 30 2 2 := ⟨RX10, TX10, 69, rfl, by decide, kf_X10_103, rfl, fun h => absurd h (by decide), fun _ => ⟨rfl, rfl⟩⟩
set_option maxRecDepth 20000 in
theorem kf_X10_106 : Cond.fieldLink RX10 106 RX10 "hearerName" "[J" ∈ GW := gw5 74 rfl (by decide +kernel)
theorem fX10_106 : aFd RX10 106 10 31 2 2 := ⟨RX10, TX10, 69, rfl, by decide, kf_X10_106, rfl, fun h => absurd h (by decide), fun _ => ⟨rfl, rfl⟩⟩
set_option maxRecDepth 20000 in
theorem kf_X10_109 : Cond.fieldLink RX10 109 RX10 "codes" "I" ∈ GW := gw5 75 rfl (by decide +kernel)
theorem fX10_109 : aFd RX10 109 10 32 0 1 := ⟨RX10, TX10, 69, rfl, by decide, kf_X10_109, rfl, fun _ => rfl, fun h => absurd h (by decide)⟩
set_option maxRecDepth 20000 in
theorem kf_X10_112 : Cond.fieldLink RX10 112 RX10 "in" "I" ∈ GW := gw5 76 rfl (by decide +kernel)
theorem fX10_112 : aFd RX10 112 10 33 0 1 := ⟨RX10, TX10, 69, rfl, by decide, kf_X10_112, rfl, fun _ => rfl, fun h => absurd h (by decide)⟩
set_option maxRecDepth 20000 in
theorem kf_X10_115 : Cond.fieldLink RX10 115 RX10 "law" "I" ∈ GW := gw5 77 rfl (by decide +kernel)
theorem fX10_115 : aFd RX10 115 10 34 0 1 := ⟨RX10, TX10, 69, rfl, by decide, kf_X10_115, rfl, fun _ => rfl, fun h => absurd h (by decide)⟩
set_option maxRecDepth 20000 in
theorem kf_X10_118 : Cond.fieldLink RX10 118 RX10 "frame" "[I" ∈ GW := gw5 78 rfl (by decide +kernel)
theorem fX10_118 : aFd RX10 118 10 35 2 2 := ⟨RX10, TX10, 69, rfl, by decide, kf_X10_118, rfl, fun h => absurd h (by decide), fun _ => ⟨rfl, rfl⟩⟩
set_option maxRecDepth 20000 in
theorem kf_X10_121 : Cond.fieldLink RX10 121 RX10 "phase" "[I" ∈ GW := gw5 79 rfl (by decide +kernel)
theorem fX10_121 : aFd RX10 121 10 36 2 2 := ⟨RX10, TX10, 69, rfl, by decide, kf_X10_121, rfl, fun h => absurd h (by decide), fun _ => ⟨rfl, rfl⟩⟩
set_option maxRecDepth 20000 in
theorem kf_X10_124 : Cond.fieldLink RX10 124 RX10 "begins" "[Z" ∈ GW := gw5 80 rfl (by decide +kernel)
theorem fX10_124 : aFd RX10 124 10 37 2 2 := ⟨RX10, TX10, 69, rfl, by decide, kf_X10_124, rfl, fun h => absurd h (by decide), fun _ => ⟨rfl, rfl⟩⟩
set_option maxRecDepth 20000 in
theorem kf_X10_128 : Cond.fieldLink RX10 128 RX10 "pair" "[I" ∈ GW := gw5 81 rfl (by decide +kernel)
theorem fX10_128 : aFd RX10 128 10 38 2 2 := ⟨RX10, TX10, 69, rfl, by decide, kf_X10_128, rfl, fun h => absurd h (by decide), fun _ => ⟨rfl, rfl⟩⟩
set_option maxRecDepth 20000 in
theorem kf_X10_131 : Cond.fieldLink RX10 131 RX10 "base" "[I" ∈ GW := gw5 82 rfl (by decide +kernel)
theorem fX10_131 : aFd RX10 131 10 39 2 2 := ⟨RX10, TX10, 69, rfl, by decide, kf_X10_131, rfl, fun h => absurd h (by decide), fun _ => ⟨rfl, rfl⟩⟩
set_option maxRecDepth 20000 in
theorem kf_X10_134 : Cond.fieldLink RX10 134 RX10 "deep" "I" ∈ GW := gw5 83 rfl (by decide +kernel)
theorem fX10_134 : aFd RX10 134 10 40 0 1 := ⟨RX10, TX10, 69, rfl, by decide, kf_X10_134, rfl, fun _ => rfl, fun h => absurd h (by decide)⟩
set_option maxRecDepth 20000 in
theorem kf_X10_137 : Cond.fieldLink RX10 137 RX10 "open" "I" ∈ GW := gw5 84 rfl (by decide +kernel)
theorem fX10_137 : aFd RX10 137 10 41 0 1 := ⟨RX10, TX10, 69, rfl, by decide, kf_X10_137, rfl, fun _ => rfl, fun h => absurd h (by decide)⟩
set_option maxRecDepth 20000 in
theorem kf_X10_140 : Cond.fieldLink RX10 140 RX10 "ops" "[I" ∈ GW := gw5 85 rfl (by decide +kernel)
theorem fX10_140 : aFd RX10 140 10 42 2 2 := ⟨RX10, TX10, 69, rfl, by decide, kf_X10_140, rfl, fun h => absurd h (by decide), fun _ => ⟨rfl, rfl⟩⟩
set_option maxRecDepth 20000 in
theorem kf_X10_143 : Cond.fieldLink RX10 143 RX10 "opMany" "I" ∈ GW := gw5 86 rfl (by decide +kernel)
theorem fX10_143 : aFd RX10 143 10 43 0 1 := ⟨RX10, TX10, 69, rfl, by decide, kf_X10_143, rfl, fun _ => rfl, fun h => absurd h (by decide)⟩
set_option maxRecDepth 20000 in
theorem kf_X10_146 : Cond.fieldLink RX10 146 RX10 "operand" "Z" ∈ GW := gw5 87 rfl (by decide +kernel)
theorem fX10_146 : aFd RX10 146 10 44 0 1 := ⟨RX10, TX10, 69, rfl, by decide, kf_X10_146, rfl, fun _ => rfl, fun h => absurd h (by decide)⟩
set_option maxRecDepth 20000 in
theorem kf_X10_150 : Cond.fieldLink RX10 150 RX10 "refused" "[I" ∈ GW := gw5 88 rfl (by decide +kernel)
theorem fX10_150 : aFd RX10 150 10 45 2 2 := ⟨RX10, TX10, 69, rfl, by decide, kf_X10_150, rfl, fun h => absurd h (by decide), fun _ => ⟨rfl, rfl⟩⟩
set_option maxRecDepth 20000 in
theorem kf_X10_153 : Cond.fieldLink RX10 153 RX10 "weekOf" "[I" ∈ GW := gw5 89 rfl (by decide +kernel)
theorem fX10_153 : aFd RX10 153 10 46 2 2 := ⟨RX10, TX10, 69, rfl, by decide, kf_X10_153, rfl, fun h => absurd h (by decide), fun _ => ⟨rfl, rfl⟩⟩
set_option maxRecDepth 20000 in
theorem kf_X10_156 : Cond.fieldLink RX10 156 RX10 "waterOf" "[I" ∈ GW := gw5 90 rfl (by decide +kernel)
theorem fX10_156 : aFd RX10 156 10 47 2 2 := ⟨RX10, TX10, 69, rfl, by decide, kf_X10_156, rfl, fun h => absurd h (by decide), fun _ => ⟨rfl, rfl⟩⟩
set_option maxRecDepth 20000 in
theorem kf_X10_159 : Cond.fieldLink RX10 159 RX10 "zincOf" "[I" ∈ GW := gw5 91 rfl (by decide +kernel)
theorem fX10_159 : aFd RX10 159 10 48 2 2 := ⟨RX10, TX10, 69, rfl, by decide, kf_X10_159, rfl, fun h => absurd h (by decide), fun _ => ⟨rfl, rfl⟩⟩
set_option maxRecDepth 20000 in
theorem kf_X10_162 : Cond.fieldLink RX10 162 RX10 "deepOf" "[I" ∈ GW := gw5 92 rfl (by decide +kernel)
theorem fX10_162 : aFd RX10 162 10 49 2 2 := ⟨RX10, TX10, 69, rfl, by decide, kf_X10_162, rfl, fun h => absurd h (by decide), fun _ => ⟨rfl, rfl⟩⟩
set_option maxRecDepth 20000 in
theorem kf_X10_165 : Cond.fieldLink RX10 165 RX10 "savedOf" "[I" ∈ GW := gw5 93 rfl (by decide +kernel)
theorem fX10_165 : aFd RX10 165 10 50 2 2 := ⟨RX10, TX10, 69, rfl, by decide, kf_X10_165, rfl, fun h => absurd h (by decide), fun _ => ⟨rfl, rfl⟩⟩
set_option maxRecDepth 20000 in
theorem kf_X10_168 : Cond.fieldLink RX10 168 RX10 "keptMany" "[I" ∈ GW := gw5 94 rfl (by decide +kernel)
theorem fX10_168 : aFd RX10 168 10 51 2 2 := ⟨RX10, TX10, 69, rfl, by decide, kf_X10_168, rfl, fun h => absurd h (by decide), fun _ => ⟨rfl, rfl⟩⟩
set_option maxRecDepth 20000 in
theorem kf_X10_171 : Cond.fieldLink RX10 171 RX10 "keptRow" "[I" ∈ GW := gw5 95 rfl (by decide +kernel)
theorem fX10_171 : aFd RX10 171 10 52 2 2 := ⟨RX10, TX10, 69, rfl, by decide, kf_X10_171, rfl, fun h => absurd h (by decide), fun _ => ⟨rfl, rfl⟩⟩
set_option maxRecDepth 20000 in
theorem kf_X10_174 : Cond.fieldLink RX10 174 RX10 "undoFirst" "I" ∈ GW := gw5 96 rfl (by decide +kernel)
theorem fX10_174 : aFd RX10 174 10 53 0 1 := ⟨RX10, TX10, 69, rfl, by decide, kf_X10_174, rfl, fun _ => rfl, fun h => absurd h (by decide)⟩
set_option maxRecDepth 20000 in
theorem kf_X10_177 : Cond.fieldLink RX10 177 RX10 "undos" "I" ∈ GW := gw5 97 rfl (by decide +kernel)
theorem fX10_177 : aFd RX10 177 10 54 0 1 := ⟨RX10, TX10, 69, rfl, by decide, kf_X10_177, rfl, fun _ => rfl, fun h => absurd h (by decide)⟩
set_option maxRecDepth 20000 in
theorem kf_X10_180 : Cond.fieldLink RX10 180 RX10 "seeds" "J" ∈ GW := gw5 98 rfl (by decide +kernel)
theorem fX10_180 : aFd RX10 180 10 55 1 1 := ⟨RX10, TX10, 69, rfl, by decide, kf_X10_180, rfl, fun _ => rfl, fun h => absurd h (by decide)⟩
set_option maxRecDepth 20000 in
theorem kf_X10_183 : Cond.fieldLink RX10 183 RX10 "stack" "[J" ∈ GW := gw5 99 rfl (by decide +kernel)
theorem fX10_183 : aFd RX10 183 10 56 2 2 := ⟨RX10, TX10, 69, rfl, by decide, kf_X10_183, rfl, fun h => absurd h (by decide), fun _ => ⟨rfl, rfl⟩⟩
set_option maxRecDepth 20000 in
theorem kf_X10_186 : Cond.fieldLink RX10 186 RX10 "asked" "[I" ∈ GW := gw5 100 rfl (by decide +kernel)
theorem fX10_186 : aFd RX10 186 10 57 2 2 := ⟨RX10, TX10, 69, rfl, by decide, kf_X10_186, rfl, fun h => absurd h (by decide), fun _ => ⟨rfl, rfl⟩⟩
set_option maxRecDepth 20000 in
theorem kf_X10_189 : Cond.fieldLink RX10 189 RX10 "lefts" "[I" ∈ GW := gw5 101 rfl (by decide +kernel)
theorem fX10_189 : aFd RX10 189 10 58 2 2 := ⟨RX10, TX10, 69, rfl, by decide, kf_X10_189, rfl, fun h => absurd h (by decide), fun _ => ⟨rfl, rfl⟩⟩
set_option maxRecDepth 20000 in
theorem kf_X10_192 : Cond.fieldLink RX10 192 RX10 "row" "[I" ∈ GW := gw5 102 rfl (by decide +kernel)
theorem fX10_192 : aFd RX10 192 10 59 2 2 := ⟨RX10, TX10, 69, rfl, by decide, kf_X10_192, rfl, fun h => absurd h (by decide), fun _ => ⟨rfl, rfl⟩⟩
set_option maxRecDepth 20000 in
theorem kf_X10_195 : Cond.fieldLink RX10 195 RX10 "bestRow" "[I" ∈ GW := gw5 103 rfl (by decide +kernel)
theorem fX10_195 : aFd RX10 195 10 60 2 2 := ⟨RX10, TX10, 69, rfl, by decide, kf_X10_195, rfl, fun h => absurd h (by decide), fun _ => ⟨rfl, rfl⟩⟩
set_option maxRecDepth 20000 in
theorem kf_X10_198 : Cond.fieldLink RX10 198 RX10 "needOf" "[I" ∈ GW := gw5 104 rfl (by decide +kernel)
theorem fX10_198 : aFd RX10 198 10 61 2 2 := ⟨RX10, TX10, 69, rfl, by decide, kf_X10_198, rfl, fun h => absurd h (by decide), fun _ => ⟨rfl, rfl⟩⟩
set_option maxRecDepth 20000 in
theorem kf_X10_201 : Cond.fieldLink RX10 201 RX10 "rows" "I" ∈ GW := gw5 105 rfl (by decide +kernel)
theorem fX10_201 : aFd RX10 201 10 62 0 1 := ⟨RX10, TX10, 69, rfl, by decide, kf_X10_201, rfl, fun _ => rfl, fun h => absurd h (by decide)⟩
set_option maxRecDepth 20000 in
theorem kf_X10_204 : Cond.fieldLink RX10 204 RX10 "rowBoard" "[I" ∈ GW := gw5 106 rfl (by decide +kernel)
theorem fX10_204 : aFd RX10 204 10 63 2 2 := ⟨RX10, TX10, 69, rfl, by decide, kf_X10_204, rfl, fun h => absurd h (by decide), fun _ => ⟨rfl, rfl⟩⟩
set_option maxRecDepth 20000 in
theorem kf_X10_207 : Cond.fieldLink RX10 207 RX10 "rowStrokes" "[I" ∈ GW := gw5 107 rfl (by decide +kernel)
theorem fX10_207 : aFd RX10 207 10 64 2 2 := ⟨RX10, TX10, 69, rfl, by decide, kf_X10_207, rfl, fun h => absurd h (by decide), fun _ => ⟨rfl, rfl⟩⟩
set_option maxRecDepth 20000 in
theorem kf_X10_210 : Cond.fieldLink RX10 210 RX10 "rowLeft" "[I" ∈ GW := gw5 108 rfl (by decide +kernel)
theorem fX10_210 : aFd RX10 210 10 65 2 2 := ⟨RX10, TX10, 69, rfl, by decide, kf_X10_210, rfl, fun h => absurd h (by decide), fun _ => ⟨rfl, rfl⟩⟩
set_option maxRecDepth 20000 in
theorem kf_X10_213 : Cond.fieldLink RX10 213 RX10 "leftOf" "[I" ∈ GW := gw5 109 rfl (by decide +kernel)
theorem fX10_213 : aFd RX10 213 10 66 2 2 := ⟨RX10, TX10, 69, rfl, by decide, kf_X10_213, rfl, fun h => absurd h (by decide), fun _ => ⟨rfl, rfl⟩⟩
set_option maxRecDepth 20000 in
theorem kf_X10_216 : Cond.fieldLink RX10 216 RX10 "out" "[I" ∈ GW := gw5 110 rfl (by decide +kernel)
theorem fX10_216 : aFd RX10 216 10 67 2 2 := ⟨RX10, TX10, 69, rfl, by decide, kf_X10_216, rfl, fun h => absurd h (by decide), fun _ => ⟨rfl, rfl⟩⟩
set_option maxRecDepth 20000 in
theorem kf_X10_219 : Cond.fieldLink RX10 219 RX10 "outs" "I" ∈ GW := gw5 111 rfl (by decide +kernel)
theorem fX10_219 : aFd RX10 219 10 68 0 1 := ⟨RX10, TX10, 69, rfl, by decide, kf_X10_219, rfl, fun _ => rfl, fun h => absurd h (by decide)⟩
set_option maxRecDepth 20000 in
theorem kl_X9_1 : Cond.methodLink RX9 1 Lib.objectInit ∈ GW := gw1 24 rfl (by decide +kernel)
set_option maxRecDepth 20000 in
theorem kl_X9_19 : Cond.methodLink RX9 19 yX5_init ∈ GW := gw1 29 rfl (by decide +kernel)
set_option maxRecDepth 20000 in
theorem kc_X5_init : Cond.code mX5_init.1 mX5_init.2.1 mX5_init.2.2.1 mX5_init.2.2.2 ∈ GW := gw1 31 rfl (by decide +kernel)
set_option maxRecDepth 20000 in
theorem kn_X5 : Cond.initialized RX5 ∈ GW := gw1 2 rfl (by decide +kernel)
set_option maxRecDepth 20000 in
theorem ki_X5_init : Cond.instanceMethod yX5_init ∈ GW := gw1 30 rfl (by decide +kernel)
theorem cX9_19 : aCi RX9 19 mX5_init 1 := ⟨⟨kc_X5_init, kl_X9_19, kn_X5, ⟨by decide +kernel, by decide +kernel, by decide +kernel⟩, by decide⟩, ki_X5_init, rfl, rfl⟩
set_option maxRecDepth 20000 in
theorem kl_X5_3 : Cond.methodLink RX5 3 Lib.objectInit ∈ GW := gw1 32 rfl (by decide +kernel)
set_option maxRecDepth 20000 in
theorem kl_X5_43 : Cond.methodLink RX5 43 Lib.Math.max.name ∈ GW := gw1 33 rfl (by decide +kernel)
set_option maxRecDepth 20000 in
theorem kl_X9_34 : Cond.methodLinkNest RX9 34 yX8_init RX9 ∈ GW := gw1 90 rfl (by decide +kernel)
set_option maxRecDepth 20000 in
theorem kc_X8_init : Cond.code mX8_init.1 mX8_init.2.1 mX8_init.2.2.1 mX8_init.2.2.2 ∈ GW := gw1 92 rfl (by decide +kernel)
set_option maxRecDepth 20000 in
theorem kn_X8 : Cond.initialized RX8 ∈ GW := gw1 4 rfl (by decide +kernel)
set_option maxRecDepth 20000 in
theorem ki_X8_init : Cond.instanceMethod yX8_init ∈ GW := gw1 91 rfl (by decide +kernel)
theorem cX9_34 : aCn RX9 34 mX8_init 0 RX9 := ⟨kc_X8_init, kl_X9_34, kn_X8, ⟨by decide +kernel, by decide +kernel, by decide +kernel⟩, by decide, ki_X8_init, rfl, rfl⟩
set_option maxRecDepth 20000 in
theorem kl_X8_3 : Cond.methodLink RX8 3 Lib.objectInit ∈ GW := gw1 93 rfl (by decide +kernel)
set_option maxRecDepth 20000 in
theorem kl_X9_44 : Cond.methodLink RX9 44 yX6_init ∈ GW := gw1 135 rfl (by decide +kernel)
set_option maxRecDepth 20000 in
theorem kc_X6_init : Cond.code mX6_init.1 mX6_init.2.1 mX6_init.2.2.1 mX6_init.2.2.2 ∈ GW := gw1 137 rfl (by decide +kernel)
set_option maxRecDepth 20000 in
theorem kn_X6 : Cond.initialized RX6 ∈ GW := gw1 5 rfl (by decide +kernel)
set_option maxRecDepth 20000 in
theorem ki_X6_init : Cond.instanceMethod yX6_init ∈ GW := gw1 136 rfl (by decide +kernel)
theorem cX9_44 : aCi RX9 44 mX6_init 1 := ⟨⟨kc_X6_init, kl_X9_44, kn_X6, ⟨by decide +kernel, by decide +kernel, by decide +kernel⟩, by decide⟩, ki_X6_init, rfl, rfl⟩
set_option maxRecDepth 20000 in
theorem kl_X6_3 : Cond.methodLink RX6 3 Lib.objectInit ∈ GW := gw1 138 rfl (by decide +kernel)
set_option maxRecDepth 20000 in
theorem kl_X9_53 : Cond.methodLinkNest RX9 53 yX0_init RX9 ∈ GW := gw1 186 rfl (by decide +kernel)
set_option maxRecDepth 20000 in
theorem kc_X0_init : Cond.code mX0_init.1 mX0_init.2.1 mX0_init.2.2.1 mX0_init.2.2.2 ∈ GW := gw1 188 rfl (by decide +kernel)
set_option maxRecDepth 20000 in
theorem kn_X0 : Cond.initialized RX0 ∈ GW := gw1 6 rfl (by decide +kernel)
set_option maxRecDepth 20000 in
theorem ki_X0_init : Cond.instanceMethod yX0_init ∈ GW := gw1 187 rfl (by decide +kernel)
theorem cX9_53 : aCn RX9 53 mX0_init 0 RX9 := ⟨kc_X0_init, kl_X9_53, kn_X0, ⟨by decide +kernel, by decide +kernel, by decide +kernel⟩, by decide, ki_X0_init, rfl, rfl⟩
set_option maxRecDepth 20000 in
theorem kl_X0_3 : Cond.methodLink RX0 3 Lib.objectInit ∈ GW := gw1 189 rfl (by decide +kernel)
set_option maxRecDepth 20000 in
theorem kl_X9_60 : Cond.methodLinkNest RX9 60 yX2_init RX9 ∈ GW := gw1 203 rfl (by decide +kernel)
set_option maxRecDepth 20000 in
theorem kc_X2_init : Cond.code mX2_init.1 mX2_init.2.1 mX2_init.2.2.1 mX2_init.2.2.2 ∈ GW := gw1 205 rfl (by decide +kernel)
set_option maxRecDepth 20000 in
theorem kn_X2 : Cond.initialized RX2 ∈ GW := gw1 7 rfl (by decide +kernel)
set_option maxRecDepth 20000 in
theorem ki_X2_init : Cond.instanceMethod yX2_init ∈ GW := gw1 204 rfl (by decide +kernel)
theorem cX9_60 : aCn RX9 60 mX2_init 0 RX9 := ⟨kc_X2_init, kl_X9_60, kn_X2, ⟨by decide +kernel, by decide +kernel, by decide +kernel⟩, by decide, ki_X2_init, rfl, rfl⟩
set_option maxRecDepth 20000 in
theorem kl_X2_3 : Cond.methodLink RX2 3 Lib.objectInit ∈ GW := gw1 206 rfl (by decide +kernel)
set_option maxRecDepth 20000 in
theorem kl_X9_67 : Cond.methodLink RX9 67 yX7_init ∈ GW := gw1 213 rfl (by decide +kernel)
set_option maxRecDepth 20000 in
theorem kc_X7_init : Cond.code mX7_init.1 mX7_init.2.1 mX7_init.2.2.1 mX7_init.2.2.2 ∈ GW := gw1 215 rfl (by decide +kernel)
set_option maxRecDepth 20000 in
theorem kn_X7 : Cond.initialized RX7 ∈ GW := gw1 8 rfl (by decide +kernel)
set_option maxRecDepth 20000 in
theorem ki_X7_init : Cond.instanceMethod yX7_init ∈ GW := gw1 214 rfl (by decide +kernel)
theorem cX9_67 : aCi RX9 67 mX7_init 2 := ⟨⟨kc_X7_init, kl_X9_67, kn_X7, ⟨by decide +kernel, by decide +kernel, by decide +kernel⟩, by decide⟩, ki_X7_init, rfl, rfl⟩
set_option maxRecDepth 20000 in
theorem kl_X7_3 : Cond.methodLink RX7 3 Lib.objectInit ∈ GW := gw1 216 rfl (by decide +kernel)
set_option maxRecDepth 20000 in
theorem kl_X9_76 : Cond.methodLink RX9 76 yX3_init ∈ GW := gw2 4 rfl (by decide +kernel)
set_option maxRecDepth 20000 in
theorem kc_X3_init : Cond.code mX3_init.1 mX3_init.2.1 mX3_init.2.2.1 mX3_init.2.2.2 ∈ GW := gw2 6 rfl (by decide +kernel)
