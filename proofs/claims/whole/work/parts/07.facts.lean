theorem gw_of {w : Cond} (i : Nat) (h : tables_1[i]? = some w) (hg : goodWord w = true) : w ∈ GW := List.mem_filter.mpr ⟨List.mem_append_right _ (List.mem_of_getElem? h), hg⟩
theorem gw_sl {q : MethodName × Nat} (i : Nat) (h : lw_privs[i]? = some q) (hg : goodWord (Cond.selects q.1.cls q.1 q.1) = true) : Cond.selects q.1.cls q.1 q.1 ∈ GW := List.mem_filter.mpr ⟨List.mem_append_left _ (List.mem_map.mpr ⟨q, List.mem_of_getElem? h, rfl⟩), hg⟩
theorem kf_X5_9 : Cond.fieldLink RX5 9 RX5 "count" "[I" ∈ GW := gw_of 36 (by decide +kernel) (by decide +kernel)
theorem fX5_9 : aFd RX5 9 5 0 2 2 := ⟨RX5, TX5, 11, rfl, by decide, kf_X5_9, rfl, fun h => absurd h (by decide), fun _ => ⟨rfl, rfl⟩⟩
theorem kf_X3_43 : Cond.fieldLink RX3 43 RX5 "count" "[I" ∈ GW := gw_of 37 (by decide +kernel) (by decide +kernel)
theorem fX3_43 : aFd RX3 43 5 0 2 0 := ⟨RX5, TX5, 11, rfl, by decide, kf_X3_43, rfl, fun h => absurd h (by decide), fun h => absurd h (by decide)⟩
theorem kf_X7_42 : Cond.fieldLink RX7 42 RX5 "count" "[I" ∈ GW := gw_of 38 (by decide +kernel) (by decide +kernel)
theorem fX7_42 : aFd RX7 42 5 0 2 0 := ⟨RX5, TX5, 11, rfl, by decide, kf_X7_42, rfl, fun h => absurd h (by decide), fun h => absurd h (by decide)⟩
theorem kf_X6_92 : Cond.fieldLink RX6 92 RX5 "count" "[I" ∈ GW := gw_of 39 (by decide +kernel) (by decide +kernel)
theorem fX6_92 : aFd RX6 92 5 0 2 0 := ⟨RX5, TX5, 11, rfl, by decide, kf_X6_92, rfl, fun h => absurd h (by decide), fun h => absurd h (by decide)⟩
theorem kf_X9_144 : Cond.fieldLink RX9 144 RX5 "count" "[I" ∈ GW := gw_of 40 (by decide +kernel) (by decide +kernel)
theorem fX9_144 : aFd RX9 144 5 0 2 0 := ⟨RX5, TX5, 11, rfl, by decide, kf_X9_144, rfl, fun h => absurd h (by decide), fun h => absurd h (by decide)⟩
theorem kf_X4_139 : Cond.fieldLink RX4 139 RX5 "count" "[I" ∈ GW := gw_of 41 (by decide +kernel) (by decide +kernel)
theorem fX4_139 : aFd RX4 139 5 0 2 0 := ⟨RX5, TX5, 11, rfl, by decide, kf_X4_139, rfl, fun h => absurd h (by decide), fun h => absurd h (by decide)⟩
theorem kf_X5_15 : Cond.fieldLink RX5 15 RX5 "names" "[I" ∈ GW := gw_of 42 (by decide +kernel) (by decide +kernel)
theorem fX5_15 : aFd RX5 15 5 1 2 2 := ⟨RX5, TX5, 11, rfl, by decide, kf_X5_15, rfl, fun h => absurd h (by decide), fun _ => ⟨rfl, rfl⟩⟩
theorem kf_X9_186 : Cond.fieldLink RX9 186 RX5 "names" "[I" ∈ GW := gw_of 43 (by decide +kernel) (by decide +kernel)
theorem fX9_186 : aFd RX9 186 5 1 2 0 := ⟨RX5, TX5, 11, rfl, by decide, kf_X9_186, rfl, fun h => absurd h (by decide), fun h => absurd h (by decide)⟩
theorem kf_X5_18 : Cond.fieldLink RX5 18 RX5 "first" "[I" ∈ GW := gw_of 44 (by decide +kernel) (by decide +kernel)
theorem fX5_18 : aFd RX5 18 5 2 2 2 := ⟨RX5, TX5, 11, rfl, by decide, kf_X5_18, rfl, fun h => absurd h (by decide), fun _ => ⟨rfl, rfl⟩⟩
theorem kf_X5_21 : Cond.fieldLink RX5 21 RX5 "second" "[I" ∈ GW := gw_of 45 (by decide +kernel) (by decide +kernel)
theorem fX5_21 : aFd RX5 21 5 3 2 2 := ⟨RX5, TX5, 11, rfl, by decide, kf_X5_21, rfl, fun h => absurd h (by decide), fun _ => ⟨rfl, rfl⟩⟩
theorem kf_X5_24 : Cond.fieldLink RX5 24 RX5 "water" "I" ∈ GW := gw_of 46 (by decide +kernel) (by decide +kernel)
theorem fX5_24 : aFd RX5 24 5 4 0 1 := ⟨RX5, TX5, 11, rfl, by decide, kf_X5_24, rfl, fun _ => rfl, fun h => absurd h (by decide)⟩
theorem kf_X8_31 : Cond.fieldLink RX8 31 RX5 "water" "I" ∈ GW := gw_of 47 (by decide +kernel) (by decide +kernel)
theorem fX8_31 : aFd RX8 31 5 4 0 1 := ⟨RX5, TX5, 11, rfl, by decide, kf_X8_31, rfl, fun _ => rfl, fun h => absurd h (by decide)⟩
theorem kf_X4_121 : Cond.fieldLink RX4 121 RX5 "water" "I" ∈ GW := gw_of 48 (by decide +kernel) (by decide +kernel)
theorem fX4_121 : aFd RX4 121 5 4 0 1 := ⟨RX5, TX5, 11, rfl, by decide, kf_X4_121, rfl, fun _ => rfl, fun h => absurd h (by decide)⟩
theorem kf_X5_28 : Cond.fieldLink RX5 28 RX5 "dry" "I" ∈ GW := gw_of 49 (by decide +kernel) (by decide +kernel)
theorem fX5_28 : aFd RX5 28 5 5 0 1 := ⟨RX5, TX5, 11, rfl, by decide, kf_X5_28, rfl, fun _ => rfl, fun h => absurd h (by decide)⟩
theorem kf_X4_124 : Cond.fieldLink RX4 124 RX5 "dry" "I" ∈ GW := gw_of 50 (by decide +kernel) (by decide +kernel)
theorem fX4_124 : aFd RX4 124 5 5 0 1 := ⟨RX5, TX5, 11, rfl, by decide, kf_X4_124, rfl, fun _ => rfl, fun h => absurd h (by decide)⟩
theorem kf_X9_292 : Cond.fieldLink RX9 292 RX5 "dry" "I" ∈ GW := gw_of 51 (by decide +kernel) (by decide +kernel)
theorem fX9_292 : aFd RX9 292 5 5 0 1 := ⟨RX5, TX5, 11, rfl, by decide, kf_X9_292, rfl, fun _ => rfl, fun h => absurd h (by decide)⟩
theorem kf_X5_31 : Cond.fieldLink RX5 31 RX5 "statements" "I" ∈ GW := gw_of 52 (by decide +kernel) (by decide +kernel)
theorem fX5_31 : aFd RX5 31 5 6 0 1 := ⟨RX5, TX5, 11, rfl, by decide, kf_X5_31, rfl, fun _ => rfl, fun h => absurd h (by decide)⟩
theorem kf_X9_141 : Cond.fieldLink RX9 141 RX5 "statements" "I" ∈ GW := gw_of 53 (by decide +kernel) (by decide +kernel)
theorem fX9_141 : aFd RX9 141 5 6 0 1 := ⟨RX5, TX5, 11, rfl, by decide, kf_X9_141, rfl, fun _ => rfl, fun h => absurd h (by decide)⟩
theorem kf_X4_133 : Cond.fieldLink RX4 133 RX5 "statements" "I" ∈ GW := gw_of 54 (by decide +kernel) (by decide +kernel)
theorem fX4_133 : aFd RX4 133 5 6 0 1 := ⟨RX5, TX5, 11, rfl, by decide, kf_X4_133, rfl, fun _ => rfl, fun h => absurd h (by decide)⟩
theorem kf_X5_49 : Cond.fieldLink RX5 49 RX5 "steps" "[I" ∈ GW := gw_of 55 (by decide +kernel) (by decide +kernel)
theorem fX5_49 : aFd RX5 49 5 7 2 2 := ⟨RX5, TX5, 11, rfl, by decide, kf_X5_49, rfl, fun h => absurd h (by decide), fun _ => ⟨rfl, rfl⟩⟩
theorem kf_X6_122 : Cond.fieldLink RX6 122 RX5 "steps" "[I" ∈ GW := gw_of 56 (by decide +kernel) (by decide +kernel)
theorem fX6_122 : aFd RX6 122 5 7 2 0 := ⟨RX5, TX5, 11, rfl, by decide, kf_X6_122, rfl, fun h => absurd h (by decide), fun h => absurd h (by decide)⟩
theorem kf_X5_34 : Cond.fieldLink RX5 34 RX5 "stepCount" "I" ∈ GW := gw_of 57 (by decide +kernel) (by decide +kernel)
theorem fX5_34 : aFd RX5 34 5 8 0 1 := ⟨RX5, TX5, 11, rfl, by decide, kf_X5_34, rfl, fun _ => rfl, fun h => absurd h (by decide)⟩
theorem kf_X6_119 : Cond.fieldLink RX6 119 RX5 "stepCount" "I" ∈ GW := gw_of 58 (by decide +kernel) (by decide +kernel)
theorem fX6_119 : aFd RX6 119 5 8 0 1 := ⟨RX5, TX5, 11, rfl, by decide, kf_X6_119, rfl, fun _ => rfl, fun h => absurd h (by decide)⟩
theorem kf_X4_162 : Cond.fieldLink RX4 162 RX5 "stepCount" "I" ∈ GW := gw_of 59 (by decide +kernel) (by decide +kernel)
theorem fX4_162 : aFd RX4 162 5 8 0 1 := ⟨RX5, TX5, 11, rfl, by decide, kf_X4_162, rfl, fun _ => rfl, fun h => absurd h (by decide)⟩
theorem kf_X5_37 : Cond.fieldLink RX5 37 RX5 "from" "[I" ∈ GW := gw_of 60 (by decide +kernel) (by decide +kernel)
theorem fX5_37 : aFd RX5 37 5 9 2 2 := ⟨RX5, TX5, 11, rfl, by decide, kf_X5_37, rfl, fun h => absurd h (by decide), fun _ => ⟨rfl, rfl⟩⟩
theorem kf_X6_113 : Cond.fieldLink RX6 113 RX5 "from" "[I" ∈ GW := gw_of 61 (by decide +kernel) (by decide +kernel)
theorem fX6_113 : aFd RX6 113 5 9 2 0 := ⟨RX5, TX5, 11, rfl, by decide, kf_X6_113, rfl, fun h => absurd h (by decide), fun h => absurd h (by decide)⟩
theorem kf_X4_146 : Cond.fieldLink RX4 146 RX5 "from" "[I" ∈ GW := gw_of 62 (by decide +kernel) (by decide +kernel)
theorem fX4_146 : aFd RX4 146 5 9 2 0 := ⟨RX5, TX5, 11, rfl, by decide, kf_X4_146, rfl, fun h => absurd h (by decide), fun h => absurd h (by decide)⟩
theorem kf_X5_40 : Cond.fieldLink RX5 40 RX5 "upTo" "[I" ∈ GW := gw_of 63 (by decide +kernel) (by decide +kernel)
theorem fX5_40 : aFd RX5 40 5 10 2 2 := ⟨RX5, TX5, 11, rfl, by decide, kf_X5_40, rfl, fun h => absurd h (by decide), fun _ => ⟨rfl, rfl⟩⟩
theorem kf_X6_116 : Cond.fieldLink RX6 116 RX5 "upTo" "[I" ∈ GW := gw_of 64 (by decide +kernel) (by decide +kernel)
theorem fX6_116 : aFd RX6 116 5 10 2 0 := ⟨RX5, TX5, 11, rfl, by decide, kf_X6_116, rfl, fun h => absurd h (by decide), fun h => absurd h (by decide)⟩
theorem kf_X4_143 : Cond.fieldLink RX4 143 RX5 "upTo" "[I" ∈ GW := gw_of 65 (by decide +kernel) (by decide +kernel)
theorem fX4_143 : aFd RX4 143 5 10 2 0 := ⟨RX5, TX5, 11, rfl, by decide, kf_X4_143, rfl, fun h => absurd h (by decide), fun h => absurd h (by decide)⟩
theorem kf_X8_9 : Cond.fieldLink RX8 9 RX8 "week" "I" ∈ GW := gw_of 97 (by decide +kernel) (by decide +kernel)
theorem fX8_9 : aFd RX8 9 8 0 0 1 := ⟨RX8, TX8, 6, rfl, by decide, kf_X8_9, rfl, fun _ => rfl, fun h => absurd h (by decide)⟩
theorem kf_X6_59 : Cond.fieldLink RX6 59 RX8 "week" "I" ∈ GW := gw_of 98 (by decide +kernel) (by decide +kernel)
theorem fX6_59 : aFd RX6 59 8 0 0 1 := ⟨RX8, TX8, 6, rfl, by decide, kf_X6_59, rfl, fun _ => rfl, fun h => absurd h (by decide)⟩
theorem kf_X0_24 : Cond.fieldLink RX0 24 RX8 "week" "I" ∈ GW := gw_of 99 (by decide +kernel) (by decide +kernel)
theorem fX0_24 : aFd RX0 24 8 0 0 1 := ⟨RX8, TX8, 6, rfl, by decide, kf_X0_24, rfl, fun _ => rfl, fun h => absurd h (by decide)⟩
theorem kf_X9_147 : Cond.fieldLink RX9 147 RX8 "week" "I" ∈ GW := gw_of 100 (by decide +kernel) (by decide +kernel)
theorem fX9_147 : aFd RX9 147 8 0 0 1 := ⟨RX8, TX8, 6, rfl, by decide, kf_X9_147, rfl, fun _ => rfl, fun h => absurd h (by decide)⟩
theorem kf_X8_15 : Cond.fieldLink RX8 15 RX8 "water" "I" ∈ GW := gw_of 101 (by decide +kernel) (by decide +kernel)
theorem fX8_15 : aFd RX8 15 8 1 0 1 := ⟨RX8, TX8, 6, rfl, by decide, kf_X8_15, rfl, fun _ => rfl, fun h => absurd h (by decide)⟩
theorem kf_X6_56 : Cond.fieldLink RX6 56 RX8 "water" "I" ∈ GW := gw_of 102 (by decide +kernel) (by decide +kernel)
theorem fX6_56 : aFd RX6 56 8 1 0 1 := ⟨RX8, TX8, 6, rfl, by decide, kf_X6_56, rfl, fun _ => rfl, fun h => absurd h (by decide)⟩
theorem kf_X0_27 : Cond.fieldLink RX0 27 RX8 "water" "I" ∈ GW := gw_of 103 (by decide +kernel) (by decide +kernel)
theorem fX0_27 : aFd RX0 27 8 1 0 1 := ⟨RX8, TX8, 6, rfl, by decide, kf_X0_27, rfl, fun _ => rfl, fun h => absurd h (by decide)⟩
theorem kf_X9_150 : Cond.fieldLink RX9 150 RX8 "water" "I" ∈ GW := gw_of 104 (by decide +kernel) (by decide +kernel)
theorem fX9_150 : aFd RX9 150 8 1 0 1 := ⟨RX8, TX8, 6, rfl, by decide, kf_X9_150, rfl, fun _ => rfl, fun h => absurd h (by decide)⟩
theorem kf_X8_18 : Cond.fieldLink RX8 18 RX8 "savedBits" "I" ∈ GW := gw_of 105 (by decide +kernel) (by decide +kernel)
theorem fX8_18 : aFd RX8 18 8 2 0 1 := ⟨RX8, TX8, 6, rfl, by decide, kf_X8_18, rfl, fun _ => rfl, fun h => absurd h (by decide)⟩
theorem kf_X0_30 : Cond.fieldLink RX0 30 RX8 "savedBits" "I" ∈ GW := gw_of 106 (by decide +kernel) (by decide +kernel)
theorem fX0_30 : aFd RX0 30 8 2 0 1 := ⟨RX8, TX8, 6, rfl, by decide, kf_X0_30, rfl, fun _ => rfl, fun h => absurd h (by decide)⟩
theorem kf_X6_82 : Cond.fieldLink RX6 82 RX8 "savedBits" "I" ∈ GW := gw_of 107 (by decide +kernel) (by decide +kernel)
theorem fX6_82 : aFd RX6 82 8 2 0 1 := ⟨RX8, TX8, 6, rfl, by decide, kf_X6_82, rfl, fun _ => rfl, fun h => absurd h (by decide)⟩
theorem kf_X9_160 : Cond.fieldLink RX9 160 RX8 "savedBits" "I" ∈ GW := gw_of 108 (by decide +kernel) (by decide +kernel)
theorem fX9_160 : aFd RX9 160 8 2 0 1 := ⟨RX8, TX8, 6, rfl, by decide, kf_X9_160, rfl, fun _ => rfl, fun h => absurd h (by decide)⟩
theorem kf_X8_21 : Cond.fieldLink RX8 21 RX8 "sermons" "I" ∈ GW := gw_of 109 (by decide +kernel) (by decide +kernel)
theorem fX8_21 : aFd RX8 21 8 3 0 1 := ⟨RX8, TX8, 6, rfl, by decide, kf_X8_21, rfl, fun _ => rfl, fun h => absurd h (by decide)⟩
theorem kf_X0_33 : Cond.fieldLink RX0 33 RX8 "sermons" "I" ∈ GW := gw_of 110 (by decide +kernel) (by decide +kernel)
theorem fX0_33 : aFd RX0 33 8 3 0 1 := ⟨RX8, TX8, 6, rfl, by decide, kf_X0_33, rfl, fun _ => rfl, fun h => absurd h (by decide)⟩
theorem kf_X9_168 : Cond.fieldLink RX9 168 RX8 "sermons" "I" ∈ GW := gw_of 111 (by decide +kernel) (by decide +kernel)
theorem fX9_168 : aFd RX9 168 8 3 0 1 := ⟨RX8, TX8, 6, rfl, by decide, kf_X9_168, rfl, fun _ => rfl, fun h => absurd h (by decide)⟩
theorem kf_X8_24 : Cond.fieldLink RX8 24 RX8 "zinc" "[I" ∈ GW := gw_of 112 (by decide +kernel) (by decide +kernel)
theorem fX8_24 : aFd RX8 24 8 4 2 2 := ⟨RX8, TX8, 6, rfl, by decide, kf_X8_24, rfl, fun h => absurd h (by decide), fun _ => ⟨rfl, rfl⟩⟩
theorem kf_X6_41 : Cond.fieldLink RX6 41 RX8 "zinc" "[I" ∈ GW := gw_of 113 (by decide +kernel) (by decide +kernel)
theorem fX6_41 : aFd RX6 41 8 4 2 0 := ⟨RX8, TX8, 6, rfl, by decide, kf_X6_41, rfl, fun h => absurd h (by decide), fun h => absurd h (by decide)⟩
theorem kf_X1_39 : Cond.fieldLink RX1 39 RX8 "zinc" "[I" ∈ GW := gw_of 114 (by decide +kernel) (by decide +kernel)
theorem fX1_39 : aFd RX1 39 8 4 2 0 := ⟨RX8, TX8, 6, rfl, by decide, kf_X1_39, rfl, fun h => absurd h (by decide), fun h => absurd h (by decide)⟩
theorem kf_X0_36 : Cond.fieldLink RX0 36 RX8 "zinc" "[I" ∈ GW := gw_of 115 (by decide +kernel) (by decide +kernel)
theorem fX0_36 : aFd RX0 36 8 4 2 0 := ⟨RX8, TX8, 6, rfl, by decide, kf_X0_36, rfl, fun h => absurd h (by decide), fun h => absurd h (by decide)⟩
theorem kf_X9_179 : Cond.fieldLink RX9 179 RX8 "zinc" "[I" ∈ GW := gw_of 116 (by decide +kernel) (by decide +kernel)
theorem fX9_179 : aFd RX9 179 8 4 2 0 := ⟨RX8, TX8, 6, rfl, by decide, kf_X9_179, rfl, fun h => absurd h (by decide), fun h => absurd h (by decide)⟩
theorem kf_X8_28 : Cond.fieldLink RX8 28 RX8 "deep" "[I" ∈ GW := gw_of 117 (by decide +kernel) (by decide +kernel)
theorem fX8_28 : aFd RX8 28 8 5 2 2 := ⟨RX8, TX8, 6, rfl, by decide, kf_X8_28, rfl, fun h => absurd h (by decide), fun _ => ⟨rfl, rfl⟩⟩
theorem kf_X6_45 : Cond.fieldLink RX6 45 RX8 "deep" "[I" ∈ GW := gw_of 118 (by decide +kernel) (by decide +kernel)
theorem fX6_45 : aFd RX6 45 8 5 2 0 := ⟨RX8, TX8, 6, rfl, by decide, kf_X6_45, rfl, fun h => absurd h (by decide), fun h => absurd h (by decide)⟩
theorem kf_X3_68 : Cond.fieldLink RX3 68 RX8 "deep" "[I" ∈ GW := gw_of 119 (by decide +kernel) (by decide +kernel)
theorem fX3_68 : aFd RX3 68 8 5 2 0 := ⟨RX8, TX8, 6, rfl, by decide, kf_X3_68, rfl, fun h => absurd h (by decide), fun h => absurd h (by decide)⟩
theorem kf_X0_45 : Cond.fieldLink RX0 45 RX8 "deep" "[I" ∈ GW := gw_of 120 (by decide +kernel) (by decide +kernel)
theorem fX0_45 : aFd RX0 45 8 5 2 0 := ⟨RX8, TX8, 6, rfl, by decide, kf_X0_45, rfl, fun h => absurd h (by decide), fun h => absurd h (by decide)⟩
theorem kf_X1_54 : Cond.fieldLink RX1 54 RX8 "deep" "[I" ∈ GW := gw_of 121 (by decide +kernel) (by decide +kernel)
theorem fX1_54 : aFd RX1 54 8 5 2 0 := ⟨RX8, TX8, 6, rfl, by decide, kf_X1_54, rfl, fun h => absurd h (by decide), fun h => absurd h (by decide)⟩
theorem kf_X9_192 : Cond.fieldLink RX9 192 RX8 "deep" "[I" ∈ GW := gw_of 122 (by decide +kernel) (by decide +kernel)
theorem fX9_192 : aFd RX9 192 8 5 2 0 := ⟨RX8, TX8, 6, rfl, by decide, kf_X9_192, rfl, fun h => absurd h (by decide), fun h => absurd h (by decide)⟩
theorem kf_X6_37 : Cond.fieldLink RX6 37 RX6 "plan" "LZincSermon$Plan;" ∈ GW := gw_of 142 (by decide +kernel) (by decide +kernel)
theorem fX6_37 : aFd RX6 37 6 0 2 1 := ⟨RX6, TX6, 9, rfl, by decide, kf_X6_37, rfl, fun _ => rfl, fun h => absurd h (by decide)⟩
theorem kf_X3_37 : Cond.fieldLink RX3 37 RX6 "plan" "LZincSermon$Plan;" ∈ GW := gw_of 143 (by decide +kernel) (by decide +kernel)
theorem fX3_37 : aFd RX3 37 6 0 2 1 := ⟨RX6, TX6, 9, rfl, by decide, kf_X3_37, rfl, fun _ => rfl, fun h => absurd h (by decide)⟩
theorem kf_X7_36 : Cond.fieldLink RX7 36 RX6 "plan" "LZincSermon$Plan;" ∈ GW := gw_of 144 (by decide +kernel) (by decide +kernel)
theorem fX7_36 : aFd RX7 36 6 0 2 1 := ⟨RX6, TX6, 9, rfl, by decide, kf_X7_36, rfl, fun _ => rfl, fun h => absurd h (by decide)⟩
theorem kf_X9_128 : Cond.fieldLink RX9 128 RX6 "plan" "LZincSermon$Plan;" ∈ GW := gw_of 145 (by decide +kernel) (by decide +kernel)
theorem fX9_128 : aFd RX9 128 6 0 2 1 := ⟨RX6, TX6, 9, rfl, by decide, kf_X9_128, rfl, fun _ => rfl, fun h => absurd h (by decide)⟩
theorem kf_X6_9 : Cond.fieldLink RX6 9 RX6 "named" "[I" ∈ GW := gw_of 146 (by decide +kernel) (by decide +kernel)
theorem fX6_9 : aFd RX6 9 6 1 2 2 := ⟨RX6, TX6, 9, rfl, by decide, kf_X6_9, rfl, fun h => absurd h (by decide), fun _ => ⟨rfl, rfl⟩⟩
theorem kf_X6_15 : Cond.fieldLink RX6 15 RX6 "stack" "[I" ∈ GW := gw_of 147 (by decide +kernel) (by decide +kernel)
theorem fX6_15 : aFd RX6 15 6 2 2 2 := ⟨RX6, TX6, 9, rfl, by decide, kf_X6_15, rfl, fun h => absurd h (by decide), fun _ => ⟨rfl, rfl⟩⟩
theorem kf_X6_18 : Cond.fieldLink RX6 18 RX6 "board" "I" ∈ GW := gw_of 148 (by decide +kernel) (by decide +kernel)
theorem fX6_18 : aFd RX6 18 6 3 0 1 := ⟨RX6, TX6, 9, rfl, by decide, kf_X6_18, rfl, fun _ => rfl, fun h => absurd h (by decide)⟩
theorem kf_X2_15 : Cond.fieldLink RX2 15 RX6 "board" "I" ∈ GW := gw_of 149 (by decide +kernel) (by decide +kernel)
theorem fX2_15 : aFd RX2 15 6 3 0 1 := ⟨RX6, TX6, 9, rfl, by decide, kf_X2_15, rfl, fun _ => rfl, fun h => absurd h (by decide)⟩
theorem kf_X9_314 : Cond.fieldLink RX9 314 RX6 "board" "I" ∈ GW := gw_of 150 (by decide +kernel) (by decide +kernel)
theorem fX9_314 : aFd RX9 314 6 3 0 1 := ⟨RX6, TX6, 9, rfl, by decide, kf_X9_314, rfl, fun _ => rfl, fun h => absurd h (by decide)⟩
theorem kf_X6_22 : Cond.fieldLink RX6 22 RX6 "stain" "I" ∈ GW := gw_of 151 (by decide +kernel) (by decide +kernel)
theorem fX6_22 : aFd RX6 22 6 4 0 1 := ⟨RX6, TX6, 9, rfl, by decide, kf_X6_22, rfl, fun _ => rfl, fun h => absurd h (by decide)⟩
theorem kf_X2_21 : Cond.fieldLink RX2 21 RX6 "stain" "I" ∈ GW := gw_of 152 (by decide +kernel) (by decide +kernel)
theorem fX2_21 : aFd RX2 21 6 4 0 1 := ⟨RX6, TX6, 9, rfl, by decide, kf_X2_21, rfl, fun _ => rfl, fun h => absurd h (by decide)⟩
theorem kf_X6_25 : Cond.fieldLink RX6 25 RX6 "zinc" "I" ∈ GW := gw_of 153 (by decide +kernel) (by decide +kernel)
theorem fX6_25 : aFd RX6 25 6 5 0 1 := ⟨RX6, TX6, 9, rfl, by decide, kf_X6_25, rfl, fun _ => rfl, fun h => absurd h (by decide)⟩
theorem kf_X3_52 : Cond.fieldLink RX3 52 RX6 "zinc" "I" ∈ GW := gw_of 154 (by decide +kernel) (by decide +kernel)
theorem fX3_52 : aFd RX3 52 6 5 0 1 := ⟨RX6, TX6, 9, rfl, by decide, kf_X3_52, rfl, fun _ => rfl, fun h => absurd h (by decide)⟩
theorem kf_X1_67 : Cond.fieldLink RX1 67 RX6 "zinc" "I" ∈ GW := gw_of 155 (by decide +kernel) (by decide +kernel)
theorem fX1_67 : aFd RX1 67 6 5 0 1 := ⟨RX6, TX6, 9, rfl, by decide, kf_X1_67, rfl, fun _ => rfl, fun h => absurd h (by decide)⟩
theorem kf_X9_223 : Cond.fieldLink RX9 223 RX6 "zinc" "I" ∈ GW := gw_of 156 (by decide +kernel) (by decide +kernel)
theorem fX9_223 : aFd RX9 223 6 5 0 1 := ⟨RX6, TX6, 9, rfl, by decide, kf_X9_223, rfl, fun _ => rfl, fun h => absurd h (by decide)⟩
theorem kf_X6_28 : Cond.fieldLink RX6 28 RX6 "deep" "I" ∈ GW := gw_of 157 (by decide +kernel) (by decide +kernel)
theorem fX6_28 : aFd RX6 28 6 6 0 1 := ⟨RX6, TX6, 9, rfl, by decide, kf_X6_28, rfl, fun _ => rfl, fun h => absurd h (by decide)⟩
theorem kf_X7_59 : Cond.fieldLink RX7 59 RX6 "deep" "I" ∈ GW := gw_of 158 (by decide +kernel) (by decide +kernel)
theorem fX7_59 : aFd RX7 59 6 6 0 1 := ⟨RX6, TX6, 9, rfl, by decide, kf_X7_59, rfl, fun _ => rfl, fun h => absurd h (by decide)⟩
theorem kf_X1_73 : Cond.fieldLink RX1 73 RX6 "deep" "I" ∈ GW := gw_of 159 (by decide +kernel) (by decide +kernel)
theorem fX1_73 : aFd RX1 73 6 6 0 1 := ⟨RX6, TX6, 9, rfl, by decide, kf_X1_73, rfl, fun _ => rfl, fun h => absurd h (by decide)⟩
theorem kf_X9_214 : Cond.fieldLink RX9 214 RX6 "deep" "I" ∈ GW := gw_of 160 (by decide +kernel) (by decide +kernel)
theorem fX9_214 : aFd RX9 214 6 6 0 1 := ⟨RX6, TX6, 9, rfl, by decide, kf_X9_214, rfl, fun _ => rfl, fun h => absurd h (by decide)⟩
theorem kf_X6_31 : Cond.fieldLink RX6 31 RX6 "rubs" "I" ∈ GW := gw_of 161 (by decide +kernel) (by decide +kernel)
theorem fX6_31 : aFd RX6 31 6 7 0 1 := ⟨RX6, TX6, 9, rfl, by decide, kf_X6_31, rfl, fun _ => rfl, fun h => absurd h (by decide)⟩
theorem kf_X3_55 : Cond.fieldLink RX3 55 RX6 "rubs" "I" ∈ GW := gw_of 162 (by decide +kernel) (by decide +kernel)
theorem fX3_55 : aFd RX3 55 6 7 0 1 := ⟨RX6, TX6, 9, rfl, by decide, kf_X3_55, rfl, fun _ => rfl, fun h => absurd h (by decide)⟩
theorem kf_X1_75 : Cond.fieldLink RX1 75 RX6 "rubs" "I" ∈ GW := gw_of 163 (by decide +kernel) (by decide +kernel)
theorem fX1_75 : aFd RX1 75 6 7 0 1 := ⟨RX6, TX6, 9, rfl, by decide, kf_X1_75, rfl, fun _ => rfl, fun h => absurd h (by decide)⟩
theorem kf_X9_220 : Cond.fieldLink RX9 220 RX6 "rubs" "I" ∈ GW := gw_of 164 (by decide +kernel) (by decide +kernel)
theorem fX9_220 : aFd RX9 220 6 7 0 1 := ⟨RX6, TX6, 9, rfl, by decide, kf_X9_220, rfl, fun _ => rfl, fun h => absurd h (by decide)⟩
theorem kf_X6_34 : Cond.fieldLink RX6 34 RX6 "came" "I" ∈ GW := gw_of 165 (by decide +kernel) (by decide +kernel)
theorem fX6_34 : aFd RX6 34 6 8 0 1 := ⟨RX6, TX6, 9, rfl, by decide, kf_X6_34, rfl, fun _ => rfl, fun h => absurd h (by decide)⟩
theorem kf_X2_24 : Cond.fieldLink RX2 24 RX6 "came" "I" ∈ GW := gw_of 166 (by decide +kernel) (by decide +kernel)
theorem fX2_24 : aFd RX2 24 6 8 0 1 := ⟨RX6, TX6, 9, rfl, by decide, kf_X2_24, rfl, fun _ => rfl, fun h => absurd h (by decide)⟩
theorem kf_X9_286 : Cond.fieldLink RX9 286 RX6 "came" "I" ∈ GW := gw_of 167 (by decide +kernel) (by decide +kernel)
theorem fX9_286 : aFd RX9 286 6 8 0 1 := ⟨RX6, TX6, 9, rfl, by decide, kf_X9_286, rfl, fun _ => rfl, fun h => absurd h (by decide)⟩
theorem kf_X0_11 : Cond.fieldLink RX0 11 RX0 "rows" "[I" ∈ GW := gw_of 193 (by decide +kernel) (by decide +kernel)
theorem fX0_11 : aFd RX0 11 0 0 2 2 := ⟨RX0, TX0, 3, rfl, by decide, kf_X0_11, rfl, fun h => absurd h (by decide), fun _ => ⟨rfl, rfl⟩⟩
theorem kf_X0_17 : Cond.fieldLink RX0 17 RX0 "count" "I" ∈ GW := gw_of 194 (by decide +kernel) (by decide +kernel)
theorem fX0_17 : aFd RX0 17 0 1 0 1 := ⟨RX0, TX0, 3, rfl, by decide, kf_X0_17, rfl, fun _ => rfl, fun h => absurd h (by decide)⟩
theorem kf_X9_177 : Cond.fieldLink RX9 177 RX0 "count" "I" ∈ GW := gw_of 195 (by decide +kernel) (by decide +kernel)
theorem fX9_177 : aFd RX9 177 0 1 0 1 := ⟨RX0, TX0, 3, rfl, by decide, kf_X9_177, rfl, fun _ => rfl, fun h => absurd h (by decide)⟩
theorem kf_X0_21 : Cond.fieldLink RX0 21 RX0 "next" "I" ∈ GW := gw_of 196 (by decide +kernel) (by decide +kernel)
theorem fX0_21 : aFd RX0 21 0 2 0 1 := ⟨RX0, TX0, 3, rfl, by decide, kf_X0_21, rfl, fun _ => rfl, fun h => absurd h (by decide)⟩
theorem kf_X2_11 : Cond.fieldLink RX2 11 RX2 "rows" "[I" ∈ GW := gw_of 210 (by decide +kernel) (by decide +kernel)
theorem fX2_11 : aFd RX2 11 2 0 2 2 := ⟨RX2, TX2, 1, rfl, by decide, kf_X2_11, rfl, fun h => absurd h (by decide), fun _ => ⟨rfl, rfl⟩⟩
theorem kf_X7_9 : Cond.fieldLink RX7 9 RX7 "rows" "I" ∈ GW := gw_of 220 (by decide +kernel) (by decide +kernel)
theorem fX7_9 : aFd RX7 9 7 0 0 1 := ⟨RX7, TX7, 7, rfl, by decide, kf_X7_9, rfl, fun _ => rfl, fun h => absurd h (by decide)⟩
theorem kf_X9_135 : Cond.fieldLink RX9 135 RX7 "rows" "I" ∈ GW := gw_of 221 (by decide +kernel) (by decide +kernel)
theorem fX9_135 : aFd RX9 135 7 0 0 1 := ⟨RX7, TX7, 7, rfl, by decide, kf_X9_135, rfl, fun _ => rfl, fun h => absurd h (by decide)⟩
theorem kf_X7_15 : Cond.fieldLink RX7 15 RX7 "told" "[I" ∈ GW := gw_of 222 (by decide +kernel) (by decide +kernel)
theorem fX7_15 : aFd RX7 15 7 1 2 2 := ⟨RX7, TX7, 7, rfl, by decide, kf_X7_15, rfl, fun h => absurd h (by decide), fun _ => ⟨rfl, rfl⟩⟩
theorem kf_X7_19 : Cond.fieldLink RX7 19 RX7 "telling" "I" ∈ GW := gw_of 223 (by decide +kernel) (by decide +kernel)
theorem fX7_19 : aFd RX7 19 7 2 0 1 := ⟨RX7, TX7, 7, rfl, by decide, kf_X7_19, rfl, fun _ => rfl, fun h => absurd h (by decide)⟩
theorem kf_X9_273 : Cond.fieldLink RX9 273 RX7 "telling" "I" ∈ GW := gw_of 224 (by decide +kernel) (by decide +kernel)
theorem fX9_273 : aFd RX9 273 7 2 0 1 := ⟨RX7, TX7, 7, rfl, by decide, kf_X9_273, rfl, fun _ => rfl, fun h => absurd h (by decide)⟩
theorem kf_X7_22 : Cond.fieldLink RX7 22 RX7 "leftAtMost" "I" ∈ GW := gw_of 225 (by decide +kernel) (by decide +kernel)
theorem fX7_22 : aFd RX7 22 7 3 0 1 := ⟨RX7, TX7, 7, rfl, by decide, kf_X7_22, rfl, fun _ => rfl, fun h => absurd h (by decide)⟩
theorem kf_X9_276 : Cond.fieldLink RX9 276 RX7 "leftAtMost" "I" ∈ GW := gw_of 226 (by decide +kernel) (by decide +kernel)
theorem fX9_276 : aFd RX9 276 7 3 0 1 := ⟨RX7, TX7, 7, rfl, by decide, kf_X9_276, rfl, fun _ => rfl, fun h => absurd h (by decide)⟩
theorem kf_X7_25 : Cond.fieldLink RX7 25 RX7 "left" "[I" ∈ GW := gw_of 227 (by decide +kernel) (by decide +kernel)
theorem fX7_25 : aFd RX7 25 7 4 2 2 := ⟨RX7, TX7, 7, rfl, by decide, kf_X7_25, rfl, fun h => absurd h (by decide), fun _ => ⟨rfl, rfl⟩⟩
theorem kf_X7_28 : Cond.fieldLink RX7 28 RX7 "preacher" "LZincSermon$Preacher;" ∈ GW := gw_of 228 (by decide +kernel) (by decide +kernel)
theorem fX7_28 : aFd RX7 28 7 5 2 2 := ⟨RX7, TX7, 7, rfl, by decide, kf_X7_28, rfl, fun h => absurd h (by decide), fun _ => ⟨rfl, rfl⟩⟩
theorem kf_X7_32 : Cond.fieldLink RX7 32 RX7 "state" "LZincSermon$State;" ∈ GW := gw_of 229 (by decide +kernel) (by decide +kernel)
theorem fX7_32 : aFd RX7 32 7 6 2 2 := ⟨RX7, TX7, 7, rfl, by decide, kf_X7_32, rfl, fun h => absurd h (by decide), fun _ => ⟨rfl, rfl⟩⟩
theorem kf_X3_9 : Cond.fieldLink RX3 9 RX3 "fresh" "Z" ∈ GW := gw_of 251 (by decide +kernel) (by decide +kernel)
theorem fX3_9 : aFd RX3 9 3 0 0 1 := ⟨RX3, TX3, 7, rfl, by decide, kf_X3_9, rfl, fun _ => rfl, fun h => absurd h (by decide)⟩
theorem kf_X9_225 : Cond.fieldLink RX9 225 RX3 "fresh" "Z" ∈ GW := gw_of 252 (by decide +kernel) (by decide +kernel)
theorem fX9_225 : aFd RX9 225 3 0 0 1 := ⟨RX3, TX3, 7, rfl, by decide, kf_X9_225, rfl, fun _ => rfl, fun h => absurd h (by decide)⟩
theorem kf_X3_15 : Cond.fieldLink RX3 15 RX3 "fewest" "I" ∈ GW := gw_of 253 (by decide +kernel) (by decide +kernel)
theorem fX3_15 : aFd RX3 15 3 1 0 1 := ⟨RX3, TX3, 7, rfl, by decide, kf_X3_15, rfl, fun _ => rfl, fun h => absurd h (by decide)⟩
theorem kf_X9_232 : Cond.fieldLink RX9 232 RX3 "fewest" "I" ∈ GW := gw_of 254 (by decide +kernel) (by decide +kernel)
theorem fX9_232 : aFd RX9 232 3 1 0 1 := ⟨RX3, TX3, 7, rfl, by decide, kf_X9_232, rfl, fun _ => rfl, fun h => absurd h (by decide)⟩
theorem kf_X3_19 : Cond.fieldLink RX3 19 RX3 "best" "[I" ∈ GW := gw_of 255 (by decide +kernel) (by decide +kernel)
theorem fX3_19 : aFd RX3 19 3 2 2 2 := ⟨RX3, TX3, 7, rfl, by decide, kf_X3_19, rfl, fun h => absurd h (by decide), fun _ => ⟨rfl, rfl⟩⟩
theorem kf_X9_235 : Cond.fieldLink RX9 235 RX3 "best" "[I" ∈ GW := gw_of 256 (by decide +kernel) (by decide +kernel)
theorem fX9_235 : aFd RX9 235 3 2 2 0 := ⟨RX3, TX3, 7, rfl, by decide, kf_X9_235, rfl, fun h => absurd h (by decide), fun h => absurd h (by decide)⟩
theorem kf_X3_23 : Cond.fieldLink RX3 23 RX3 "tried" "[I" ∈ GW := gw_of 257 (by decide +kernel) (by decide +kernel)
theorem fX3_23 : aFd RX3 23 3 3 2 2 := ⟨RX3, TX3, 7, rfl, by decide, kf_X3_23, rfl, fun h => absurd h (by decide), fun _ => ⟨rfl, rfl⟩⟩
theorem kf_X3_26 : Cond.fieldLink RX3 26 RX3 "safe" "[I" ∈ GW := gw_of 258 (by decide +kernel) (by decide +kernel)
theorem fX3_26 : aFd RX3 26 3 4 2 2 := ⟨RX3, TX3, 7, rfl, by decide, kf_X3_26, rfl, fun h => absurd h (by decide), fun _ => ⟨rfl, rfl⟩⟩
theorem kf_X3_29 : Cond.fieldLink RX3 29 RX3 "preacher" "LZincSermon$Preacher;" ∈ GW := gw_of 259 (by decide +kernel) (by decide +kernel)
theorem fX3_29 : aFd RX3 29 3 5 2 2 := ⟨RX3, TX3, 7, rfl, by decide, kf_X3_29, rfl, fun h => absurd h (by decide), fun _ => ⟨rfl, rfl⟩⟩
theorem kf_X3_33 : Cond.fieldLink RX3 33 RX3 "state" "LZincSermon$State;" ∈ GW := gw_of 260 (by decide +kernel) (by decide +kernel)
theorem fX3_33 : aFd RX3 33 3 6 2 2 := ⟨RX3, TX3, 7, rfl, by decide, kf_X3_33, rfl, fun h => absurd h (by decide), fun _ => ⟨rfl, rfl⟩⟩
theorem kf_X1_9 : Cond.fieldLink RX1 9 RX1 "board" "I" ∈ GW := gw_of 282 (by decide +kernel) (by decide +kernel)
theorem fX1_9 : aFd RX1 9 1 0 0 1 := ⟨RX1, TX1, 8, rfl, by decide, kf_X1_9, rfl, fun _ => rfl, fun h => absurd h (by decide)⟩
theorem kf_X9_238 : Cond.fieldLink RX9 238 RX1 "board" "I" ∈ GW := gw_of 283 (by decide +kernel) (by decide +kernel)
theorem fX9_238 : aFd RX9 238 1 0 0 1 := ⟨RX1, TX1, 8, rfl, by decide, kf_X9_238, rfl, fun _ => rfl, fun h => absurd h (by decide)⟩
theorem kf_X1_15 : Cond.fieldLink RX1 15 RX1 "most" "I" ∈ GW := gw_of 284 (by decide +kernel) (by decide +kernel)
theorem fX1_15 : aFd RX1 15 1 1 0 1 := ⟨RX1, TX1, 8, rfl, by decide, kf_X1_15, rfl, fun _ => rfl, fun h => absurd h (by decide)⟩
theorem kf_X9_243 : Cond.fieldLink RX9 243 RX1 "most" "I" ∈ GW := gw_of 285 (by decide +kernel) (by decide +kernel)
theorem fX9_243 : aFd RX9 243 1 1 0 1 := ⟨RX1, TX1, 8, rfl, by decide, kf_X9_243, rfl, fun _ => rfl, fun h => absurd h (by decide)⟩
theorem kf_X1_18 : Cond.fieldLink RX1 18 RX1 "fewest" "I" ∈ GW := gw_of 286 (by decide +kernel) (by decide +kernel)
theorem fX1_18 : aFd RX1 18 1 2 0 1 := ⟨RX1, TX1, 8, rfl, by decide, kf_X1_18, rfl, fun _ => rfl, fun h => absurd h (by decide)⟩
theorem kf_X9_246 : Cond.fieldLink RX9 246 RX1 "fewest" "I" ∈ GW := gw_of 287 (by decide +kernel) (by decide +kernel)
theorem fX9_246 : aFd RX9 246 1 2 0 1 := ⟨RX1, TX1, 8, rfl, by decide, kf_X9_246, rfl, fun _ => rfl, fun h => absurd h (by decide)⟩
theorem kf_X1_21 : Cond.fieldLink RX1 21 RX1 "best" "[I" ∈ GW := gw_of 288 (by decide +kernel) (by decide +kernel)
theorem fX1_21 : aFd RX1 21 1 3 2 2 := ⟨RX1, TX1, 8, rfl, by decide, kf_X1_21, rfl, fun h => absurd h (by decide), fun _ => ⟨rfl, rfl⟩⟩
theorem kf_X9_247 : Cond.fieldLink RX9 247 RX1 "best" "[I" ∈ GW := gw_of 289 (by decide +kernel) (by decide +kernel)
theorem fX9_247 : aFd RX9 247 1 3 2 0 := ⟨RX1, TX1, 8, rfl, by decide, kf_X9_247, rfl, fun h => absurd h (by decide), fun h => absurd h (by decide)⟩
theorem kf_X1_25 : Cond.fieldLink RX1 25 RX1 "tried" "[I" ∈ GW := gw_of 290 (by decide +kernel) (by decide +kernel)
theorem fX1_25 : aFd RX1 25 1 4 2 2 := ⟨RX1, TX1, 8, rfl, by decide, kf_X1_25, rfl, fun h => absurd h (by decide), fun _ => ⟨rfl, rfl⟩⟩
theorem kf_X1_28 : Cond.fieldLink RX1 28 RX1 "known" "[I" ∈ GW := gw_of 291 (by decide +kernel) (by decide +kernel)
theorem fX1_28 : aFd RX1 28 1 5 2 2 := ⟨RX1, TX1, 8, rfl, by decide, kf_X1_28, rfl, fun h => absurd h (by decide), fun _ => ⟨rfl, rfl⟩⟩
theorem kf_X1_31 : Cond.fieldLink RX1 31 RX1 "preacher" "LZincSermon$Preacher;" ∈ GW := gw_of 292 (by decide +kernel) (by decide +kernel)
theorem fX1_31 : aFd RX1 31 1 6 2 2 := ⟨RX1, TX1, 8, rfl, by decide, kf_X1_31, rfl, fun h => absurd h (by decide), fun _ => ⟨rfl, rfl⟩⟩
theorem kf_X1_35 : Cond.fieldLink RX1 35 RX1 "state" "LZincSermon$State;" ∈ GW := gw_of 293 (by decide +kernel) (by decide +kernel)
theorem fX1_35 : aFd RX1 35 1 7 2 2 := ⟨RX1, TX1, 8, rfl, by decide, kf_X1_35, rfl, fun h => absurd h (by decide), fun _ => ⟨rfl, rfl⟩⟩
theorem kf_X9_9 : Cond.fieldLink RX9 9 RX9 "tape" "[B" ∈ GW := gw_of 311 (by decide +kernel) (by decide +kernel)
theorem fX9_9 : aFd RX9 9 9 0 2 2 := ⟨RX9, TX9, 17, rfl, by decide, kf_X9_9, rfl, fun h => absurd h (by decide), fun _ => ⟨rfl, rfl⟩⟩
theorem kf_X9_13 : Cond.fieldLink RX9 13 RX9 "tapeSize" "I" ∈ GW := gw_of 312 (by decide +kernel) (by decide +kernel)
theorem fX9_13 : aFd RX9 13 9 1 0 1 := ⟨RX9, TX9, 17, rfl, by decide, kf_X9_13, rfl, fun _ => rfl, fun h => absurd h (by decide)⟩
theorem kf_X9_22 : Cond.fieldLink RX9 22 RX9 "plan" "LZincSermon$Plan;" ∈ GW := gw_of 313 (by decide +kernel) (by decide +kernel)
theorem fX9_22 : aFd RX9 22 9 2 2 1 := ⟨RX9, TX9, 17, rfl, by decide, kf_X9_22, rfl, fun _ => rfl, fun h => absurd h (by decide)⟩
theorem kf_X9_26 : Cond.fieldLink RX9 26 RX9 "faultKind" "I" ∈ GW := gw_of 314 (by decide +kernel) (by decide +kernel)
theorem fX9_26 : aFd RX9 26 9 3 0 1 := ⟨RX9, TX9, 17, rfl, by decide, kf_X9_26, rfl, fun _ => rfl, fun h => absurd h (by decide)⟩
theorem kf_X9_29 : Cond.fieldLink RX9 29 RX9 "faultPlace" "I" ∈ GW := gw_of 315 (by decide +kernel) (by decide +kernel)
theorem fX9_29 : aFd RX9 29 9 4 0 1 := ⟨RX9, TX9, 17, rfl, by decide, kf_X9_29, rfl, fun _ => rfl, fun h => absurd h (by decide)⟩
theorem kf_X9_35 : Cond.fieldLink RX9 35 RX9 "now" "LZincSermon$State;" ∈ GW := gw_of 316 (by decide +kernel) (by decide +kernel)
theorem fX9_35 : aFd RX9 35 9 5 2 2 := ⟨RX9, TX9, 17, rfl, by decide, kf_X9_35, rfl, fun h => absurd h (by decide), fun _ => ⟨rfl, rfl⟩⟩
theorem kf_X9_39 : Cond.fieldLink RX9 39 RX9 "ahead" "LZincSermon$State;" ∈ GW := gw_of 317 (by decide +kernel) (by decide +kernel)
theorem fX9_39 : aFd RX9 39 9 6 2 2 := ⟨RX9, TX9, 17, rfl, by decide, kf_X9_39, rfl, fun h => absurd h (by decide), fun _ => ⟨rfl, rfl⟩⟩
theorem kf_X9_47 : Cond.fieldLink RX9 47 RX9 "preacher" "LZincSermon$Preacher;" ∈ GW := gw_of 318 (by decide +kernel) (by decide +kernel)
theorem fX9_47 : aFd RX9 47 9 7 2 2 := ⟨RX9, TX9, 17, rfl, by decide, kf_X9_47, rfl, fun h => absurd h (by decide), fun _ => ⟨rfl, rfl⟩⟩
theorem kf_X9_54 : Cond.fieldLink RX9 54 RX9 "acts" "LZincSermon$Acts;" ∈ GW := gw_of 319 (by decide +kernel) (by decide +kernel)
theorem fX9_54 : aFd RX9 54 9 8 2 2 := ⟨RX9, TX9, 17, rfl, by decide, kf_X9_54, rfl, fun h => absurd h (by decide), fun _ => ⟨rfl, rfl⟩⟩
theorem kf_X9_61 : Cond.fieldLink RX9 61 RX9 "log" "LZincSermon$Kept;" ∈ GW := gw_of 320 (by decide +kernel) (by decide +kernel)
theorem fX9_61 : aFd RX9 61 9 9 2 2 := ⟨RX9, TX9, 17, rfl, by decide, kf_X9_61, rfl, fun h => absurd h (by decide), fun _ => ⟨rfl, rfl⟩⟩
theorem kf_X9_70 : Cond.fieldLink RX9 70 RX9 "seen" "LZincSermon$Seen;" ∈ GW := gw_of 321 (by decide +kernel) (by decide +kernel)
theorem fX9_70 : aFd RX9 70 9 10 2 2 := ⟨RX9, TX9, 17, rfl, by decide, kf_X9_70, rfl, fun h => absurd h (by decide), fun _ => ⟨rfl, rfl⟩⟩
theorem kf_X9_77 : Cond.fieldLink RX9 77 RX9 "matchFinder" "LZincSermon$MatchFinder;" ∈ GW := gw_of 322 (by decide +kernel) (by decide +kernel)
theorem fX9_77 : aFd RX9 77 9 11 2 2 := ⟨RX9, TX9, 17, rfl, by decide, kf_X9_77, rfl, fun h => absurd h (by decide), fun _ => ⟨rfl, rfl⟩⟩
theorem kf_X9_84 : Cond.fieldLink RX9 84 RX9 "headFinder" "LZincSermon$HeadFinder;" ∈ GW := gw_of 323 (by decide +kernel) (by decide +kernel)
theorem fX9_84 : aFd RX9 84 9 12 2 2 := ⟨RX9, TX9, 17, rfl, by decide, kf_X9_84, rfl, fun h => absurd h (by decide), fun _ => ⟨rfl, rfl⟩⟩
theorem kf_X9_88 : Cond.fieldLink RX9 88 RX9 "drawn" "J" ∈ GW := gw_of 324 (by decide +kernel) (by decide +kernel)
theorem fX9_88 : aFd RX9 88 9 13 1 1 := ⟨RX9, TX9, 17, rfl, by decide, kf_X9_88, rfl, fun _ => rfl, fun h => absurd h (by decide)⟩
theorem kf_X9_92 : Cond.fieldLink RX9 92 RX9 "bytes" "[I" ∈ GW := gw_of 325 (by decide +kernel) (by decide +kernel)
theorem fX9_92 : aFd RX9 92 9 14 2 2 := ⟨RX9, TX9, 17, rfl, by decide, kf_X9_92, rfl, fun h => absurd h (by decide), fun _ => ⟨rfl, rfl⟩⟩
theorem kf_X9_96 : Cond.fieldLink RX9 96 RX9 "bytesSize" "I" ∈ GW := gw_of 326 (by decide +kernel) (by decide +kernel)
theorem fX9_96 : aFd RX9 96 9 15 0 1 := ⟨RX9, TX9, 17, rfl, by decide, kf_X9_96, rfl, fun _ => rfl, fun h => absurd h (by decide)⟩
theorem kf_X9_99 : Cond.fieldLink RX9 99 RX9 "refused" "[I" ∈ GW := gw_of 327 (by decide +kernel) (by decide +kernel)
theorem fX9_99 : aFd RX9 99 9 16 2 2 := ⟨RX9, TX9, 17, rfl, by decide, kf_X9_99, rfl, fun h => absurd h (by decide), fun _ => ⟨rfl, rfl⟩⟩
theorem kf_X4_36 : Cond.fieldLink RX4 36 RX4 "text" "[B" ∈ GW := gw_of 399 (by decide +kernel) (by decide +kernel)
theorem fX4_36 : aFd RX4 36 4 0 2 2 := ⟨RX4, TX4, 11, rfl, by decide, kf_X4_36, rfl, fun h => absurd h (by decide), fun _ => ⟨rfl, rfl⟩⟩
theorem kf_X4_49 : Cond.fieldLink RX4 49 RX4 "size" "I" ∈ GW := gw_of 400 (by decide +kernel) (by decide +kernel)
theorem fX4_49 : aFd RX4 49 4 1 0 2 := ⟨RX4, TX4, 11, rfl, by decide, kf_X4_49, rfl, fun h => absurd h (by decide), fun _ => ⟨rfl, rfl⟩⟩
theorem kf_X4_57 : Cond.fieldLink RX4 57 RX4 "plan" "LZincSermon$Plan;" ∈ GW := gw_of 401 (by decide +kernel) (by decide +kernel)
theorem fX4_57 : aFd RX4 57 4 2 2 2 := ⟨RX4, TX4, 11, rfl, by decide, kf_X4_57, rfl, fun h => absurd h (by decide), fun _ => ⟨rfl, rfl⟩⟩
theorem kf_X9_127 : Cond.fieldLink RX9 127 RX4 "plan" "LZincSermon$Plan;" ∈ GW := gw_of 402 (by decide +kernel) (by decide +kernel)
theorem fX9_127 : aFd RX9 127 4 2 2 0 := ⟨RX4, TX4, 11, rfl, by decide, kf_X9_127, rfl, fun h => absurd h (by decide), fun h => absurd h (by decide)⟩
theorem kf_X4_9 : Cond.fieldLink RX4 9 RX4 "fault" "I" ∈ GW := gw_of 403 (by decide +kernel) (by decide +kernel)
theorem fX4_9 : aFd RX4 9 4 3 0 1 := ⟨RX4, TX4, 11, rfl, by decide, kf_X4_9, rfl, fun _ => rfl, fun h => absurd h (by decide)⟩
theorem kf_X9_121 : Cond.fieldLink RX9 121 RX4 "fault" "I" ∈ GW := gw_of 404 (by decide +kernel) (by decide +kernel)
theorem fX9_121 : aFd RX9 121 4 3 0 1 := ⟨RX4, TX4, 11, rfl, by decide, kf_X9_121, rfl, fun _ => rfl, fun h => absurd h (by decide)⟩
theorem kf_X4_15 : Cond.fieldLink RX4 15 RX4 "place" "I" ∈ GW := gw_of 405 (by decide +kernel) (by decide +kernel)
theorem fX4_15 : aFd RX4 15 4 4 0 1 := ⟨RX4, TX4, 11, rfl, by decide, kf_X4_15, rfl, fun _ => rfl, fun h => absurd h (by decide)⟩
theorem kf_X9_124 : Cond.fieldLink RX9 124 RX4 "place" "I" ∈ GW := gw_of 406 (by decide +kernel) (by decide +kernel)
theorem fX9_124 : aFd RX9 124 4 4 0 1 := ⟨RX4, TX4, 11, rfl, by decide, kf_X9_124, rfl, fun _ => rfl, fun h => absurd h (by decide)⟩
theorem kf_X4_18 : Cond.fieldLink RX4 18 RX4 "at" "I" ∈ GW := gw_of 407 (by decide +kernel) (by decide +kernel)
theorem fX4_18 : aFd RX4 18 4 5 0 1 := ⟨RX4, TX4, 11, rfl, by decide, kf_X4_18, rfl, fun _ => rfl, fun h => absurd h (by decide)⟩
theorem kf_X4_21 : Cond.fieldLink RX4 21 RX4 "start" "I" ∈ GW := gw_of 408 (by decide +kernel) (by decide +kernel)
theorem fX4_21 : aFd RX4 21 4 6 0 1 := ⟨RX4, TX4, 11, rfl, by decide, kf_X4_21, rfl, fun _ => rfl, fun h => absurd h (by decide)⟩
theorem kf_X4_24 : Cond.fieldLink RX4 24 RX4 "kind" "I" ∈ GW := gw_of 409 (by decide +kernel) (by decide +kernel)
theorem fX4_24 : aFd RX4 24 4 7 0 1 := ⟨RX4, TX4, 11, rfl, by decide, kf_X4_24, rfl, fun _ => rfl, fun h => absurd h (by decide)⟩
theorem kf_X4_27 : Cond.fieldLink RX4 27 RX4 "value" "I" ∈ GW := gw_of 410 (by decide +kernel) (by decide +kernel)
theorem fX4_27 : aFd RX4 27 4 8 0 1 := ⟨RX4, TX4, 11, rfl, by decide, kf_X4_27, rfl, fun _ => rfl, fun h => absurd h (by decide)⟩
theorem kf_X4_30 : Cond.fieldLink RX4 30 RX4 "own" "I" ∈ GW := gw_of 411 (by decide +kernel) (by decide +kernel)
theorem fX4_30 : aFd RX4 30 4 9 0 1 := ⟨RX4, TX4, 11, rfl, by decide, kf_X4_30, rfl, fun _ => rfl, fun h => absurd h (by decide)⟩
theorem kf_X4_33 : Cond.fieldLink RX4 33 RX4 "scope" "I" ∈ GW := gw_of 412 (by decide +kernel) (by decide +kernel)
theorem fX4_33 : aFd RX4 33 4 10 0 1 := ⟨RX4, TX4, 11, rfl, by decide, kf_X4_33, rfl, fun _ => rfl, fun h => absurd h (by decide)⟩
theorem kf_X10_7 : Cond.fieldLink RX10 7 RX10 "tape" "[I" ∈ GW := gw_of 999 (by decide +kernel) (by decide +kernel)
theorem fX10_7 : aFd RX10 7 10 0 2 2 := ⟨RX10, TX10, 69, rfl, by decide, kf_X10_7, rfl, fun h => absurd h (by decide), fun _ => ⟨rfl, rfl⟩⟩
theorem kf_X10_13 : Cond.fieldLink RX10 13 RX10 "taped" "I" ∈ GW := gw_of 1000 (by decide +kernel) (by decide +kernel)
theorem fX10_13 : aFd RX10 13 10 1 0 1 := ⟨RX10, TX10, 69, rfl, by decide, kf_X10_13, rfl, fun _ => rfl, fun h => absurd h (by decide)⟩
theorem kf_X10_17 : Cond.fieldLink RX10 17 RX10 "size" "I" ∈ GW := gw_of 1001 (by decide +kernel) (by decide +kernel)
theorem fX10_17 : aFd RX10 17 10 2 0 1 := ⟨RX10, TX10, 69, rfl, by decide, kf_X10_17, rfl, fun _ => rfl, fun h => absurd h (by decide)⟩
theorem kf_X10_20 : Cond.fieldLink RX10 20 RX10 "sign" "I" ∈ GW := gw_of 1002 (by decide +kernel) (by decide +kernel)
theorem fX10_20 : aFd RX10 20 10 3 0 1 := ⟨RX10, TX10, 69, rfl, by decide, kf_X10_20, rfl, fun _ => rfl, fun h => absurd h (by decide)⟩
theorem kf_X10_23 : Cond.fieldLink RX10 23 RX10 "signAt" "I" ∈ GW := gw_of 1003 (by decide +kernel) (by decide +kernel)
theorem fX10_23 : aFd RX10 23 10 4 0 1 := ⟨RX10, TX10, 69, rfl, by decide, kf_X10_23, rfl, fun _ => rfl, fun h => absurd h (by decide)⟩
theorem kf_X10_26 : Cond.fieldLink RX10 26 RX10 "signEnd" "I" ∈ GW := gw_of 1004 (by decide +kernel) (by decide +kernel)
theorem fX10_26 : aFd RX10 26 10 5 0 1 := ⟨RX10, TX10, 69, rfl, by decide, kf_X10_26, rfl, fun _ => rfl, fun h => absurd h (by decide)⟩
theorem kf_X10_29 : Cond.fieldLink RX10 29 RX10 "value" "I" ∈ GW := gw_of 1005 (by decide +kernel) (by decide +kernel)
theorem fX10_29 : aFd RX10 29 10 6 0 1 := ⟨RX10, TX10, 69, rfl, by decide, kf_X10_29, rfl, fun _ => rfl, fun h => absurd h (by decide)⟩
theorem kf_X10_32 : Cond.fieldLink RX10 32 RX10 "word" "J" ∈ GW := gw_of 1006 (by decide +kernel) (by decide +kernel)
theorem fX10_32 : aFd RX10 32 10 7 1 1 := ⟨RX10, TX10, 69, rfl, by decide, kf_X10_32, rfl, fun _ => rfl, fun h => absurd h (by decide)⟩
theorem kf_X10_36 : Cond.fieldLink RX10 36 RX10 "faultKind" "I" ∈ GW := gw_of 1007 (by decide +kernel) (by decide +kernel)
theorem fX10_36 : aFd RX10 36 10 8 0 1 := ⟨RX10, TX10, 69, rfl, by decide, kf_X10_36, rfl, fun _ => rfl, fun h => absurd h (by decide)⟩
theorem kf_X10_39 : Cond.fieldLink RX10 39 RX10 "faultPlace" "I" ∈ GW := gw_of 1008 (by decide +kernel) (by decide +kernel)
theorem fX10_39 : aFd RX10 39 10 9 0 1 := ⟨RX10, TX10, 69, rfl, by decide, kf_X10_39, rfl, fun _ => rfl, fun h => absurd h (by decide)⟩
theorem kf_X10_42 : Cond.fieldLink RX10 42 RX10 "toldKind" "I" ∈ GW := gw_of 1009 (by decide +kernel) (by decide +kernel)
theorem fX10_42 : aFd RX10 42 10 10 0 1 := ⟨RX10, TX10, 69, rfl, by decide, kf_X10_42, rfl, fun _ => rfl, fun h => absurd h (by decide)⟩
theorem kf_X10_45 : Cond.fieldLink RX10 45 RX10 "toldPlace" "I" ∈ GW := gw_of 1010 (by decide +kernel) (by decide +kernel)
theorem fX10_45 : aFd RX10 45 10 11 0 1 := ⟨RX10, TX10, 69, rfl, by decide, kf_X10_45, rfl, fun _ => rfl, fun h => absurd h (by decide)⟩
theorem kf_X10_48 : Cond.fieldLink RX10 48 RX10 "lexAt" "I" ∈ GW := gw_of 1011 (by decide +kernel) (by decide +kernel)
theorem fX10_48 : aFd RX10 48 10 12 0 1 := ⟨RX10, TX10, 69, rfl, by decide, kf_X10_48, rfl, fun _ => rfl, fun h => absurd h (by decide)⟩
theorem kf_X10_51 : Cond.fieldLink RX10 51 RX10 "bank" "I" ∈ GW := gw_of 1012 (by decide +kernel) (by decide +kernel)
theorem fX10_51 : aFd RX10 51 10 13 0 1 := ⟨RX10, TX10, 69, rfl, by decide, kf_X10_51, rfl, fun _ => rfl, fun h => absurd h (by decide)⟩
theorem kf_X10_54 : Cond.fieldLink RX10 54 RX10 "boards" "[I" ∈ GW := gw_of 1013 (by decide +kernel) (by decide +kernel)
theorem fX10_54 : aFd RX10 54 10 14 2 2 := ⟨RX10, TX10, 69, rfl, by decide, kf_X10_54, rfl, fun h => absurd h (by decide), fun _ => ⟨rfl, rfl⟩⟩
theorem kf_X10_57 : Cond.fieldLink RX10 57 RX10 "ribsOf" "[I" ∈ GW := gw_of 1014 (by decide +kernel) (by decide +kernel)
theorem fX10_57 : aFd RX10 57 10 15 2 2 := ⟨RX10, TX10, 69, rfl, by decide, kf_X10_57, rfl, fun h => absurd h (by decide), fun _ => ⟨rfl, rfl⟩⟩
theorem kf_X10_60 : Cond.fieldLink RX10 60 RX10 "zincTold" "[I" ∈ GW := gw_of 1015 (by decide +kernel) (by decide +kernel)
theorem fX10_60 : aFd RX10 60 10 16 2 2 := ⟨RX10, TX10, 69, rfl, by decide, kf_X10_60, rfl, fun h => absurd h (by decide), fun _ => ⟨rfl, rfl⟩⟩
theorem kf_X10_63 : Cond.fieldLink RX10 63 RX10 "stains" "[I" ∈ GW := gw_of 1016 (by decide +kernel) (by decide +kernel)
theorem fX10_63 : aFd RX10 63 10 17 2 2 := ⟨RX10, TX10, 69, rfl, by decide, kf_X10_63, rfl, fun h => absurd h (by decide), fun _ => ⟨rfl, rfl⟩⟩
theorem kf_X10_66 : Cond.fieldLink RX10 66 RX10 "deepTold" "[I" ∈ GW := gw_of 1017 (by decide +kernel) (by decide +kernel)
theorem fX10_66 : aFd RX10 66 10 18 2 2 := ⟨RX10, TX10, 69, rfl, by decide, kf_X10_66, rfl, fun h => absurd h (by decide), fun _ => ⟨rfl, rfl⟩⟩
theorem kf_X10_69 : Cond.fieldLink RX10 69 RX10 "stuffOf" "[I" ∈ GW := gw_of 1018 (by decide +kernel) (by decide +kernel)
theorem fX10_69 : aFd RX10 69 10 19 2 2 := ⟨RX10, TX10, 69, rfl, by decide, kf_X10_69, rfl, fun h => absurd h (by decide), fun _ => ⟨rfl, rfl⟩⟩
theorem kf_X10_72 : Cond.fieldLink RX10 72 RX10 "hearers" "[I" ∈ GW := gw_of 1019 (by decide +kernel) (by decide +kernel)
theorem fX10_72 : aFd RX10 72 10 20 2 2 := ⟨RX10, TX10, 69, rfl, by decide, kf_X10_72, rfl, fun h => absurd h (by decide), fun _ => ⟨rfl, rfl⟩⟩
theorem kf_X10_75 : Cond.fieldLink RX10 75 RX10 "sinOf" "[I" ∈ GW := gw_of 1020 (by decide +kernel) (by decide +kernel)
theorem fX10_75 : aFd RX10 75 10 21 2 2 := ⟨RX10, TX10, 69, rfl, by decide, kf_X10_75, rfl, fun h => absurd h (by decide), fun _ => ⟨rfl, rfl⟩⟩
theorem kf_X10_78 : Cond.fieldLink RX10 78 RX10 "earOf" "[I" ∈ GW := gw_of 1021 (by decide +kernel) (by decide +kernel)
theorem fX10_78 : aFd RX10 78 10 22 2 2 := ⟨RX10, TX10, 69, rfl, by decide, kf_X10_78, rfl, fun h => absurd h (by decide), fun _ => ⟨rfl, rfl⟩⟩
theorem kf_X10_81 : Cond.fieldLink RX10 81 RX10 "waterTold" "[I" ∈ GW := gw_of 1022 (by decide +kernel) (by decide +kernel)
theorem fX10_81 : aFd RX10 81 10 23 2 2 := ⟨RX10, TX10, 69, rfl, by decide, kf_X10_81, rfl, fun h => absurd h (by decide), fun _ => ⟨rfl, rfl⟩⟩
theorem kf_X10_84 : Cond.fieldLink RX10 84 RX10 "dryTold" "[I" ∈ GW := gw_of 1023 (by decide +kernel) (by decide +kernel)
theorem fX10_84 : aFd RX10 84 10 24 2 2 := ⟨RX10, TX10, 69, rfl, by decide, kf_X10_84, rfl, fun h => absurd h (by decide), fun _ => ⟨rfl, rfl⟩⟩
theorem kf_X10_87 : Cond.fieldLink RX10 87 RX10 "sumFrom" "[I" ∈ GW := gw_of 1024 (by decide +kernel) (by decide +kernel)
theorem fX10_87 : aFd RX10 87 10 25 2 2 := ⟨RX10, TX10, 69, rfl, by decide, kf_X10_87, rfl, fun h => absurd h (by decide), fun _ => ⟨rfl, rfl⟩⟩
theorem kf_X10_90 : Cond.fieldLink RX10 90 RX10 "sumBehind" "[I" ∈ GW := gw_of 1025 (by decide +kernel) (by decide +kernel)
theorem fX10_90 : aFd RX10 90 10 26 2 2 := ⟨RX10, TX10, 69, rfl, by decide, kf_X10_90, rfl, fun h => absurd h (by decide), fun _ => ⟨rfl, rfl⟩⟩
theorem kf_X10_93 : Cond.fieldLink RX10 93 RX10 "codeSort" "[I" ∈ GW := gw_of 1026 (by decide +kernel) (by decide +kernel)
theorem fX10_93 : aFd RX10 93 10 27 2 2 := ⟨RX10, TX10, 69, rfl, by decide, kf_X10_93, rfl, fun h => absurd h (by decide), fun _ => ⟨rfl, rfl⟩⟩
theorem kf_X10_96 : Cond.fieldLink RX10 96 RX10 "codeValue" "[I" ∈ GW := gw_of 1027 (by decide +kernel) (by decide +kernel)
theorem fX10_96 : aFd RX10 96 10 28 2 2 := ⟨RX10, TX10, 69, rfl, by decide, kf_X10_96, rfl, fun h => absurd h (by decide), fun _ => ⟨rfl, rfl⟩⟩
theorem kf_X10_99 : Cond.fieldLink RX10 99 RX10 "boardName" "[J" ∈ GW := gw_of 1028 (by decide +kernel) (by decide +kernel)
theorem fX10_99 : aFd RX10 99 10 29 2 2 := ⟨RX10, TX10, 69, rfl, by decide, kf_X10_99, rfl, fun h => absurd h (by decide), fun _ => ⟨rfl, rfl⟩⟩
theorem kf_X10_103 : Cond.fieldLink RX10 103 RX10 "stainName" "[J" ∈ GW := gw_of 1029 (by decide +kernel) (by decide +kernel)
theorem fX10_103 : aFd RX10 103 10 30 2 2 := ⟨RX10, TX10, 69, rfl, by decide, kf_X10_103, rfl, fun h => absurd h (by decide), fun _ => ⟨rfl, rfl⟩⟩
theorem kf_X10_106 : Cond.fieldLink RX10 106 RX10 "hearerName" "[J" ∈ GW := gw_of 1030 (by decide +kernel) (by decide +kernel)
theorem fX10_106 : aFd RX10 106 10 31 2 2 := ⟨RX10, TX10, 69, rfl, by decide, kf_X10_106, rfl, fun h => absurd h (by decide), fun _ => ⟨rfl, rfl⟩⟩
theorem kf_X10_109 : Cond.fieldLink RX10 109 RX10 "codes" "I" ∈ GW := gw_of 1031 (by decide +kernel) (by decide +kernel)
theorem fX10_109 : aFd RX10 109 10 32 0 1 := ⟨RX10, TX10, 69, rfl, by decide, kf_X10_109, rfl, fun _ => rfl, fun h => absurd h (by decide)⟩
theorem kf_X10_112 : Cond.fieldLink RX10 112 RX10 "in" "I" ∈ GW := gw_of 1032 (by decide +kernel) (by decide +kernel)
theorem fX10_112 : aFd RX10 112 10 33 0 1 := ⟨RX10, TX10, 69, rfl, by decide, kf_X10_112, rfl, fun _ => rfl, fun h => absurd h (by decide)⟩
theorem kf_X10_115 : Cond.fieldLink RX10 115 RX10 "law" "I" ∈ GW := gw_of 1033 (by decide +kernel) (by decide +kernel)
theorem fX10_115 : aFd RX10 115 10 34 0 1 := ⟨RX10, TX10, 69, rfl, by decide, kf_X10_115, rfl, fun _ => rfl, fun h => absurd h (by decide)⟩
theorem kf_X10_118 : Cond.fieldLink RX10 118 RX10 "frame" "[I" ∈ GW := gw_of 1034 (by decide +kernel) (by decide +kernel)
theorem fX10_118 : aFd RX10 118 10 35 2 2 := ⟨RX10, TX10, 69, rfl, by decide, kf_X10_118, rfl, fun h => absurd h (by decide), fun _ => ⟨rfl, rfl⟩⟩
theorem kf_X10_121 : Cond.fieldLink RX10 121 RX10 "phase" "[I" ∈ GW := gw_of 1035 (by decide +kernel) (by decide +kernel)
theorem fX10_121 : aFd RX10 121 10 36 2 2 := ⟨RX10, TX10, 69, rfl, by decide, kf_X10_121, rfl, fun h => absurd h (by decide), fun _ => ⟨rfl, rfl⟩⟩
theorem kf_X10_124 : Cond.fieldLink RX10 124 RX10 "begins" "[Z" ∈ GW := gw_of 1036 (by decide +kernel) (by decide +kernel)
theorem fX10_124 : aFd RX10 124 10 37 2 2 := ⟨RX10, TX10, 69, rfl, by decide, kf_X10_124, rfl, fun h => absurd h (by decide), fun _ => ⟨rfl, rfl⟩⟩
theorem kf_X10_128 : Cond.fieldLink RX10 128 RX10 "pair" "[I" ∈ GW := gw_of 1037 (by decide +kernel) (by decide +kernel)
theorem fX10_128 : aFd RX10 128 10 38 2 2 := ⟨RX10, TX10, 69, rfl, by decide, kf_X10_128, rfl, fun h => absurd h (by decide), fun _ => ⟨rfl, rfl⟩⟩
theorem kf_X10_131 : Cond.fieldLink RX10 131 RX10 "base" "[I" ∈ GW := gw_of 1038 (by decide +kernel) (by decide +kernel)
theorem fX10_131 : aFd RX10 131 10 39 2 2 := ⟨RX10, TX10, 69, rfl, by decide, kf_X10_131, rfl, fun h => absurd h (by decide), fun _ => ⟨rfl, rfl⟩⟩
theorem kf_X10_134 : Cond.fieldLink RX10 134 RX10 "deep" "I" ∈ GW := gw_of 1039 (by decide +kernel) (by decide +kernel)
theorem fX10_134 : aFd RX10 134 10 40 0 1 := ⟨RX10, TX10, 69, rfl, by decide, kf_X10_134, rfl, fun _ => rfl, fun h => absurd h (by decide)⟩
theorem kf_X10_137 : Cond.fieldLink RX10 137 RX10 "open" "I" ∈ GW := gw_of 1040 (by decide +kernel) (by decide +kernel)
theorem fX10_137 : aFd RX10 137 10 41 0 1 := ⟨RX10, TX10, 69, rfl, by decide, kf_X10_137, rfl, fun _ => rfl, fun h => absurd h (by decide)⟩
theorem kf_X10_140 : Cond.fieldLink RX10 140 RX10 "ops" "[I" ∈ GW := gw_of 1041 (by decide +kernel) (by decide +kernel)
theorem fX10_140 : aFd RX10 140 10 42 2 2 := ⟨RX10, TX10, 69, rfl, by decide, kf_X10_140, rfl, fun h => absurd h (by decide), fun _ => ⟨rfl, rfl⟩⟩
theorem kf_X10_143 : Cond.fieldLink RX10 143 RX10 "opMany" "I" ∈ GW := gw_of 1042 (by decide +kernel) (by decide +kernel)
theorem fX10_143 : aFd RX10 143 10 43 0 1 := ⟨RX10, TX10, 69, rfl, by decide, kf_X10_143, rfl, fun _ => rfl, fun h => absurd h (by decide)⟩
theorem kf_X10_146 : Cond.fieldLink RX10 146 RX10 "operand" "Z" ∈ GW := gw_of 1043 (by decide +kernel) (by decide +kernel)
theorem fX10_146 : aFd RX10 146 10 44 0 1 := ⟨RX10, TX10, 69, rfl, by decide, kf_X10_146, rfl, fun _ => rfl, fun h => absurd h (by decide)⟩
theorem kf_X10_150 : Cond.fieldLink RX10 150 RX10 "refused" "[I" ∈ GW := gw_of 1044 (by decide +kernel) (by decide +kernel)
theorem fX10_150 : aFd RX10 150 10 45 2 2 := ⟨RX10, TX10, 69, rfl, by decide, kf_X10_150, rfl, fun h => absurd h (by decide), fun _ => ⟨rfl, rfl⟩⟩
theorem kf_X10_153 : Cond.fieldLink RX10 153 RX10 "weekOf" "[I" ∈ GW := gw_of 1045 (by decide +kernel) (by decide +kernel)
theorem fX10_153 : aFd RX10 153 10 46 2 2 := ⟨RX10, TX10, 69, rfl, by decide, kf_X10_153, rfl, fun h => absurd h (by decide), fun _ => ⟨rfl, rfl⟩⟩
theorem kf_X10_156 : Cond.fieldLink RX10 156 RX10 "waterOf" "[I" ∈ GW := gw_of 1046 (by decide +kernel) (by decide +kernel)
theorem fX10_156 : aFd RX10 156 10 47 2 2 := ⟨RX10, TX10, 69, rfl, by decide, kf_X10_156, rfl, fun h => absurd h (by decide), fun _ => ⟨rfl, rfl⟩⟩
theorem kf_X10_159 : Cond.fieldLink RX10 159 RX10 "zincOf" "[I" ∈ GW := gw_of 1047 (by decide +kernel) (by decide +kernel)
theorem fX10_159 : aFd RX10 159 10 48 2 2 := ⟨RX10, TX10, 69, rfl, by decide, kf_X10_159, rfl, fun h => absurd h (by decide), fun _ => ⟨rfl, rfl⟩⟩
theorem kf_X10_162 : Cond.fieldLink RX10 162 RX10 "deepOf" "[I" ∈ GW := gw_of 1048 (by decide +kernel) (by decide +kernel)
theorem fX10_162 : aFd RX10 162 10 49 2 2 := ⟨RX10, TX10, 69, rfl, by decide, kf_X10_162, rfl, fun h => absurd h (by decide), fun _ => ⟨rfl, rfl⟩⟩
theorem kf_X10_165 : Cond.fieldLink RX10 165 RX10 "savedOf" "[I" ∈ GW := gw_of 1049 (by decide +kernel) (by decide +kernel)
theorem fX10_165 : aFd RX10 165 10 50 2 2 := ⟨RX10, TX10, 69, rfl, by decide, kf_X10_165, rfl, fun h => absurd h (by decide), fun _ => ⟨rfl, rfl⟩⟩
theorem kf_X10_168 : Cond.fieldLink RX10 168 RX10 "keptMany" "[I" ∈ GW := gw_of 1050 (by decide +kernel) (by decide +kernel)
theorem fX10_168 : aFd RX10 168 10 51 2 2 := ⟨RX10, TX10, 69, rfl, by decide, kf_X10_168, rfl, fun h => absurd h (by decide), fun _ => ⟨rfl, rfl⟩⟩
theorem kf_X10_171 : Cond.fieldLink RX10 171 RX10 "keptRow" "[I" ∈ GW := gw_of 1051 (by decide +kernel) (by decide +kernel)
theorem fX10_171 : aFd RX10 171 10 52 2 2 := ⟨RX10, TX10, 69, rfl, by decide, kf_X10_171, rfl, fun h => absurd h (by decide), fun _ => ⟨rfl, rfl⟩⟩
theorem kf_X10_174 : Cond.fieldLink RX10 174 RX10 "undoFirst" "I" ∈ GW := gw_of 1052 (by decide +kernel) (by decide +kernel)
theorem fX10_174 : aFd RX10 174 10 53 0 1 := ⟨RX10, TX10, 69, rfl, by decide, kf_X10_174, rfl, fun _ => rfl, fun h => absurd h (by decide)⟩
theorem kf_X10_177 : Cond.fieldLink RX10 177 RX10 "undos" "I" ∈ GW := gw_of 1053 (by decide +kernel) (by decide +kernel)
theorem fX10_177 : aFd RX10 177 10 54 0 1 := ⟨RX10, TX10, 69, rfl, by decide, kf_X10_177, rfl, fun _ => rfl, fun h => absurd h (by decide)⟩
theorem kf_X10_180 : Cond.fieldLink RX10 180 RX10 "seeds" "J" ∈ GW := gw_of 1054 (by decide +kernel) (by decide +kernel)
theorem fX10_180 : aFd RX10 180 10 55 1 1 := ⟨RX10, TX10, 69, rfl, by decide, kf_X10_180, rfl, fun _ => rfl, fun h => absurd h (by decide)⟩
theorem kf_X10_183 : Cond.fieldLink RX10 183 RX10 "stack" "[J" ∈ GW := gw_of 1055 (by decide +kernel) (by decide +kernel)
theorem fX10_183 : aFd RX10 183 10 56 2 2 := ⟨RX10, TX10, 69, rfl, by decide, kf_X10_183, rfl, fun h => absurd h (by decide), fun _ => ⟨rfl, rfl⟩⟩
theorem kf_X10_186 : Cond.fieldLink RX10 186 RX10 "asked" "[I" ∈ GW := gw_of 1056 (by decide +kernel) (by decide +kernel)
theorem fX10_186 : aFd RX10 186 10 57 2 2 := ⟨RX10, TX10, 69, rfl, by decide, kf_X10_186, rfl, fun h => absurd h (by decide), fun _ => ⟨rfl, rfl⟩⟩
theorem kf_X10_189 : Cond.fieldLink RX10 189 RX10 "lefts" "[I" ∈ GW := gw_of 1057 (by decide +kernel) (by decide +kernel)
theorem fX10_189 : aFd RX10 189 10 58 2 2 := ⟨RX10, TX10, 69, rfl, by decide, kf_X10_189, rfl, fun h => absurd h (by decide), fun _ => ⟨rfl, rfl⟩⟩
theorem kf_X10_192 : Cond.fieldLink RX10 192 RX10 "row" "[I" ∈ GW := gw_of 1058 (by decide +kernel) (by decide +kernel)
theorem fX10_192 : aFd RX10 192 10 59 2 2 := ⟨RX10, TX10, 69, rfl, by decide, kf_X10_192, rfl, fun h => absurd h (by decide), fun _ => ⟨rfl, rfl⟩⟩
theorem kf_X10_195 : Cond.fieldLink RX10 195 RX10 "bestRow" "[I" ∈ GW := gw_of 1059 (by decide +kernel) (by decide +kernel)
theorem fX10_195 : aFd RX10 195 10 60 2 2 := ⟨RX10, TX10, 69, rfl, by decide, kf_X10_195, rfl, fun h => absurd h (by decide), fun _ => ⟨rfl, rfl⟩⟩
theorem kf_X10_198 : Cond.fieldLink RX10 198 RX10 "needOf" "[I" ∈ GW := gw_of 1060 (by decide +kernel) (by decide +kernel)
theorem fX10_198 : aFd RX10 198 10 61 2 2 := ⟨RX10, TX10, 69, rfl, by decide, kf_X10_198, rfl, fun h => absurd h (by decide), fun _ => ⟨rfl, rfl⟩⟩
theorem kf_X10_201 : Cond.fieldLink RX10 201 RX10 "rows" "I" ∈ GW := gw_of 1061 (by decide +kernel) (by decide +kernel)
theorem fX10_201 : aFd RX10 201 10 62 0 1 := ⟨RX10, TX10, 69, rfl, by decide, kf_X10_201, rfl, fun _ => rfl, fun h => absurd h (by decide)⟩
theorem kf_X10_204 : Cond.fieldLink RX10 204 RX10 "rowBoard" "[I" ∈ GW := gw_of 1062 (by decide +kernel) (by decide +kernel)
theorem fX10_204 : aFd RX10 204 10 63 2 2 := ⟨RX10, TX10, 69, rfl, by decide, kf_X10_204, rfl, fun h => absurd h (by decide), fun _ => ⟨rfl, rfl⟩⟩
theorem kf_X10_207 : Cond.fieldLink RX10 207 RX10 "rowStrokes" "[I" ∈ GW := gw_of 1063 (by decide +kernel) (by decide +kernel)
theorem fX10_207 : aFd RX10 207 10 64 2 2 := ⟨RX10, TX10, 69, rfl, by decide, kf_X10_207, rfl, fun h => absurd h (by decide), fun _ => ⟨rfl, rfl⟩⟩
theorem kf_X10_210 : Cond.fieldLink RX10 210 RX10 "rowLeft" "[I" ∈ GW := gw_of 1064 (by decide +kernel) (by decide +kernel)
theorem fX10_210 : aFd RX10 210 10 65 2 2 := ⟨RX10, TX10, 69, rfl, by decide, kf_X10_210, rfl, fun h => absurd h (by decide), fun _ => ⟨rfl, rfl⟩⟩
theorem kf_X10_213 : Cond.fieldLink RX10 213 RX10 "leftOf" "[I" ∈ GW := gw_of 1065 (by decide +kernel) (by decide +kernel)
theorem fX10_213 : aFd RX10 213 10 66 2 2 := ⟨RX10, TX10, 69, rfl, by decide, kf_X10_213, rfl, fun h => absurd h (by decide), fun _ => ⟨rfl, rfl⟩⟩
theorem kf_X10_216 : Cond.fieldLink RX10 216 RX10 "out" "[I" ∈ GW := gw_of 1066 (by decide +kernel) (by decide +kernel)
theorem fX10_216 : aFd RX10 216 10 67 2 2 := ⟨RX10, TX10, 69, rfl, by decide, kf_X10_216, rfl, fun h => absurd h (by decide), fun _ => ⟨rfl, rfl⟩⟩
theorem kf_X10_219 : Cond.fieldLink RX10 219 RX10 "outs" "I" ∈ GW := gw_of 1067 (by decide +kernel) (by decide +kernel)
theorem fX10_219 : aFd RX10 219 10 68 0 1 := ⟨RX10, TX10, 69, rfl, by decide, kf_X10_219, rfl, fun _ => rfl, fun h => absurd h (by decide)⟩
theorem kl_X9_1 : Cond.methodLink RX9 1 Lib.objectInit ∈ GW := gw_of 24 (by decide +kernel) (by decide +kernel)
theorem kl_X9_19 : Cond.methodLink RX9 19 yX5_init ∈ GW := gw_of 29 (by decide +kernel) (by decide +kernel)
theorem kc_X5_init : Cond.code mX5_init.1 mX5_init.2.1 mX5_init.2.2.1 mX5_init.2.2.2 ∈ GW := gw_of 31 (by decide +kernel) (by decide +kernel)
theorem kn_X5 : Cond.initialized RX5 ∈ GW := gw_of 2 (by decide +kernel) (by decide +kernel)
theorem ki_X5_init : Cond.instanceMethod yX5_init ∈ GW := gw_of 30 (by decide +kernel) (by decide +kernel)
theorem cX9_19 : aCi RX9 19 mX5_init 1 := ⟨⟨kc_X5_init, kl_X9_19, kn_X5, ⟨by decide +kernel, by decide +kernel, by decide +kernel⟩, by decide⟩, ki_X5_init, rfl, rfl⟩
theorem kl_X5_3 : Cond.methodLink RX5 3 Lib.objectInit ∈ GW := gw_of 32 (by decide +kernel) (by decide +kernel)
theorem kl_X5_43 : Cond.methodLink RX5 43 Lib.Math.max.name ∈ GW := gw_of 33 (by decide +kernel) (by decide +kernel)
theorem kl_X8_3 : Cond.methodLink RX8 3 Lib.objectInit ∈ GW := gw_of 96 (by decide +kernel) (by decide +kernel)
theorem kl_X9_44 : Cond.methodLink RX9 44 yX6_init ∈ GW := gw_of 138 (by decide +kernel) (by decide +kernel)
theorem kc_X6_init : Cond.code mX6_init.1 mX6_init.2.1 mX6_init.2.2.1 mX6_init.2.2.2 ∈ GW := gw_of 140 (by decide +kernel) (by decide +kernel)
theorem kn_X6 : Cond.initialized RX6 ∈ GW := gw_of 5 (by decide +kernel) (by decide +kernel)
theorem ki_X6_init : Cond.instanceMethod yX6_init ∈ GW := gw_of 139 (by decide +kernel) (by decide +kernel)
theorem cX9_44 : aCi RX9 44 mX6_init 1 := ⟨⟨kc_X6_init, kl_X9_44, kn_X6, ⟨by decide +kernel, by decide +kernel, by decide +kernel⟩, by decide⟩, ki_X6_init, rfl, rfl⟩
theorem kl_X6_3 : Cond.methodLink RX6 3 Lib.objectInit ∈ GW := gw_of 141 (by decide +kernel) (by decide +kernel)
theorem kl_X0_3 : Cond.methodLink RX0 3 Lib.objectInit ∈ GW := gw_of 192 (by decide +kernel) (by decide +kernel)
theorem kl_X2_3 : Cond.methodLink RX2 3 Lib.objectInit ∈ GW := gw_of 209 (by decide +kernel) (by decide +kernel)
theorem kl_X9_67 : Cond.methodLink RX9 67 yX7_init ∈ GW := gw_of 216 (by decide +kernel) (by decide +kernel)
theorem kc_X7_init : Cond.code mX7_init.1 mX7_init.2.1 mX7_init.2.2.1 mX7_init.2.2.2 ∈ GW := gw_of 218 (by decide +kernel) (by decide +kernel)
theorem kn_X7 : Cond.initialized RX7 ∈ GW := gw_of 8 (by decide +kernel) (by decide +kernel)
theorem ki_X7_init : Cond.instanceMethod yX7_init ∈ GW := gw_of 217 (by decide +kernel) (by decide +kernel)
theorem cX9_67 : aCi RX9 67 mX7_init 2 := ⟨⟨kc_X7_init, kl_X9_67, kn_X7, ⟨by decide +kernel, by decide +kernel, by decide +kernel⟩, by decide⟩, ki_X7_init, rfl, rfl⟩
theorem kl_X7_3 : Cond.methodLink RX7 3 Lib.objectInit ∈ GW := gw_of 219 (by decide +kernel) (by decide +kernel)
theorem kl_X9_76 : Cond.methodLink RX9 76 yX3_init ∈ GW := gw_of 247 (by decide +kernel) (by decide +kernel)
theorem kc_X3_init : Cond.code mX3_init.1 mX3_init.2.1 mX3_init.2.2.1 mX3_init.2.2.2 ∈ GW := gw_of 249 (by decide +kernel) (by decide +kernel)
theorem kn_X3 : Cond.initialized RX3 ∈ GW := gw_of 9 (by decide +kernel) (by decide +kernel)
theorem ki_X3_init : Cond.instanceMethod yX3_init ∈ GW := gw_of 248 (by decide +kernel) (by decide +kernel)
theorem cX9_76 : aCi RX9 76 mX3_init 2 := ⟨⟨kc_X3_init, kl_X9_76, kn_X3, ⟨by decide +kernel, by decide +kernel, by decide +kernel⟩, by decide⟩, ki_X3_init, rfl, rfl⟩
theorem kl_X3_3 : Cond.methodLink RX3 3 Lib.objectInit ∈ GW := gw_of 250 (by decide +kernel) (by decide +kernel)
theorem kl_X9_83 : Cond.methodLink RX9 83 yX1_init ∈ GW := gw_of 278 (by decide +kernel) (by decide +kernel)
theorem kc_X1_init : Cond.code mX1_init.1 mX1_init.2.1 mX1_init.2.2.1 mX1_init.2.2.2 ∈ GW := gw_of 280 (by decide +kernel) (by decide +kernel)
theorem kn_X1 : Cond.initialized RX1 ∈ GW := gw_of 10 (by decide +kernel) (by decide +kernel)
theorem ki_X1_init : Cond.instanceMethod yX1_init ∈ GW := gw_of 279 (by decide +kernel) (by decide +kernel)
theorem cX9_83 : aCi RX9 83 mX1_init 2 := ⟨⟨kc_X1_init, kl_X9_83, kn_X1, ⟨by decide +kernel, by decide +kernel, by decide +kernel⟩, by decide⟩, ki_X1_init, rfl, rfl⟩
theorem kl_X1_3 : Cond.methodLink RX1 3 Lib.objectInit ∈ GW := gw_of 281 (by decide +kernel) (by decide +kernel)
theorem kl_X9_102 : Cond.methodLink RX9 102 yX9_refuse ∈ GW := gw_of 367 (by decide +kernel) (by decide +kernel)
theorem kc_X9_refuse : Cond.code mX9_refuse.1 mX9_refuse.2.1 mX9_refuse.2.2.1 mX9_refuse.2.2.2 ∈ GW := gw_of 370 (by decide +kernel) (by decide +kernel)
theorem kn_X9 : Cond.initialized RX9 ∈ GW := gw_of 1 (by decide +kernel) (by decide +kernel)
theorem ki_X9_refuse : Cond.instanceMethod yX9_refuse ∈ GW := gw_of 369 (by decide +kernel) (by decide +kernel)
theorem ks_X9_refuse : Cond.selects RX9 yX9_refuse yX9_refuse ∈ GW := gw_sl (q := (yX9_refuse, 17)) 0 (by decide +kernel) (by decide +kernel)
theorem cX9_102 : aCv RX9 102 9 mX9_refuse 1 := ⟨⟨kc_X9_refuse, kl_X9_102, kn_X9, ⟨by decide +kernel, by decide +kernel, by decide +kernel⟩, by decide⟩, ki_X9_refuse, ks_X9_refuse, TX9, 17, rfl⟩
theorem kl_X9_106 : Cond.methodLink RX9 106 yX9_putFour ∈ GW := gw_of 371 (by decide +kernel) (by decide +kernel)
theorem kc_X9_putFour : Cond.code mX9_putFour.1 mX9_putFour.2.1 mX9_putFour.2.2.1 mX9_putFour.2.2.2 ∈ GW := gw_of 374 (by decide +kernel) (by decide +kernel)
theorem ki_X9_putFour : Cond.instanceMethod yX9_putFour ∈ GW := gw_of 373 (by decide +kernel) (by decide +kernel)
theorem ks_X9_putFour : Cond.selects RX9 yX9_putFour yX9_putFour ∈ GW := gw_sl (q := (yX9_putFour, 17)) 1 (by decide +kernel) (by decide +kernel)
theorem cX9_106 : aCv RX9 106 9 mX9_putFour 1 := ⟨⟨kc_X9_putFour, kl_X9_106, kn_X9, ⟨by decide +kernel, by decide +kernel, by decide +kernel⟩, by decide⟩, ki_X9_putFour, ks_X9_putFour, TX9, 17, rfl⟩
theorem kl_X9_109 : Cond.methodLink RX9 109 yX9_deny ∈ GW := gw_of 379 (by decide +kernel) (by decide +kernel)
theorem kc_X9_deny : Cond.code mX9_deny.1 mX9_deny.2.1 mX9_deny.2.2.1 mX9_deny.2.2.2 ∈ GW := gw_of 382 (by decide +kernel) (by decide +kernel)
theorem ki_X9_deny : Cond.instanceMethod yX9_deny ∈ GW := gw_of 381 (by decide +kernel) (by decide +kernel)
theorem ks_X9_deny : Cond.selects RX9 yX9_deny yX9_deny ∈ GW := gw_sl (q := (yX9_deny, 17)) 2 (by decide +kernel) (by decide +kernel)
theorem cX9_109 : aCv RX9 109 9 mX9_deny 1 := ⟨⟨kc_X9_deny, kl_X9_109, kn_X9, ⟨by decide +kernel, by decide +kernel, by decide +kernel⟩, by decide⟩, ki_X9_deny, ks_X9_deny, TX9, 17, rfl⟩
theorem kl_X9_115 : Cond.methodLink RX9 115 yX4_init ∈ GW := gw_of 389 (by decide +kernel) (by decide +kernel)
theorem kc_X4_init : Cond.code mX4_init.1 mX4_init.2.1 mX4_init.2.2.1 mX4_init.2.2.2 ∈ GW := gw_of 391 (by decide +kernel) (by decide +kernel)
theorem kn_X4 : Cond.initialized RX4 ∈ GW := gw_of 12 (by decide +kernel) (by decide +kernel)
theorem ki_X4_init : Cond.instanceMethod yX4_init ∈ GW := gw_of 390 (by decide +kernel) (by decide +kernel)
theorem cX9_115 : aCi RX9 115 mX4_init 2 := ⟨⟨kc_X4_init, kl_X9_115, kn_X4, ⟨by decide +kernel, by decide +kernel, by decide +kernel⟩, by decide⟩, ki_X4_init, rfl, rfl⟩
theorem kl_X4_3 : Cond.methodLink RX4 3 Lib.objectInit ∈ GW := gw_of 392 (by decide +kernel) (by decide +kernel)
theorem kl_X4_40 : Cond.methodLink RX4 40 Lib.Math.min.name ∈ GW := gw_of 393 (by decide +kernel) (by decide +kernel)
theorem kl_X4_46 : Cond.methodLink RX4 46 Lib.Math.max.name ∈ GW := gw_of 396 (by decide +kernel) (by decide +kernel)
theorem kl_X4_54 : Cond.methodLink RX4 54 yX5_init ∈ GW := gw_of 398 (by decide +kernel) (by decide +kernel)
theorem cX4_54 : aCi RX4 54 mX5_init 1 := ⟨⟨kc_X5_init, kl_X4_54, kn_X5, ⟨by decide +kernel, by decide +kernel, by decide +kernel⟩, by decide⟩, ki_X5_init, rfl, rfl⟩
theorem kl_X9_118 : Cond.methodLink RX9 118 yX4_parse ∈ GW := gw_of 436 (by decide +kernel) (by decide +kernel)
theorem kc_X4_parse : Cond.code mX4_parse.1 mX4_parse.2.1 mX4_parse.2.2.1 mX4_parse.2.2.2 ∈ GW := gw_of 439 (by decide +kernel) (by decide +kernel)
theorem ki_X4_parse : Cond.instanceMethod yX4_parse ∈ GW := gw_of 437 (by decide +kernel) (by decide +kernel)
theorem ks_X4_parse : Cond.selects RX4 yX4_parse yX4_parse ∈ GW := gw_of 438 (by decide +kernel) (by decide +kernel)
theorem cX9_118 : aCv RX9 118 4 mX4_parse 0 := ⟨⟨kc_X4_parse, kl_X9_118, kn_X4, ⟨by decide +kernel, by decide +kernel, by decide +kernel⟩, by decide⟩, ki_X4_parse, ks_X4_parse, TX4, 11, rfl⟩
theorem kl_X4_61 : Cond.methodLink RX4 61 yX4_next ∈ GW := gw_of 440 (by decide +kernel) (by decide +kernel)
theorem kc_X4_next : Cond.code mX4_next.1 mX4_next.2.1 mX4_next.2.2.1 mX4_next.2.2.2 ∈ GW := gw_of 443 (by decide +kernel) (by decide +kernel)
theorem ki_X4_next : Cond.instanceMethod yX4_next ∈ GW := gw_of 442 (by decide +kernel) (by decide +kernel)
theorem ks_X4_next : Cond.selects RX4 yX4_next yX4_next ∈ GW := gw_sl (q := (yX4_next, 11)) 3 (by decide +kernel) (by decide +kernel)
theorem cX4_61 : aCv RX4 61 4 mX4_next 0 := ⟨⟨kc_X4_next, kl_X4_61, kn_X4, ⟨by decide +kernel, by decide +kernel, by decide +kernel⟩, by decide⟩, ki_X4_next, ks_X4_next, TX4, 11, rfl⟩
theorem kl_X4_67 : Cond.methodLink RX4 67 yX4_skipBlanks ∈ GW := gw_of 444 (by decide +kernel) (by decide +kernel)
theorem kc_X4_skipBlanks : Cond.code mX4_skipBlanks.1 mX4_skipBlanks.2.1 mX4_skipBlanks.2.2.1 mX4_skipBlanks.2.2.2 ∈ GW := gw_of 447 (by decide +kernel) (by decide +kernel)
theorem ki_X4_skipBlanks : Cond.instanceMethod yX4_skipBlanks ∈ GW := gw_of 446 (by decide +kernel) (by decide +kernel)
theorem ks_X4_skipBlanks : Cond.selects RX4 yX4_skipBlanks yX4_skipBlanks ∈ GW := gw_sl (q := (yX4_skipBlanks, 11)) 4 (by decide +kernel) (by decide +kernel)
theorem cX4_67 : aCv RX4 67 4 mX4_skipBlanks 0 := ⟨⟨kc_X4_skipBlanks, kl_X4_67, kn_X4, ⟨by decide +kernel, by decide +kernel, by decide +kernel⟩, by decide⟩, ki_X4_skipBlanks, ks_X4_skipBlanks, TX4, 11, rfl⟩
theorem kl_X4_70 : Cond.methodLink RX4 70 yX4_isLetter ∈ GW := gw_of 448 (by decide +kernel) (by decide +kernel)
theorem kc_X4_isLetter : Cond.code mX4_isLetter.1 mX4_isLetter.2.1 mX4_isLetter.2.2.1 mX4_isLetter.2.2.2 ∈ GW := gw_of 450 (by decide +kernel) (by decide +kernel)
theorem kt_X4_isLetter : Cond.static yX4_isLetter ∈ GW := gw_of 449 (by decide +kernel) (by decide +kernel)
theorem cX4_70 : aCs RX4 70 mX4_isLetter 1 := ⟨⟨kc_X4_isLetter, kl_X4_70, kn_X4, ⟨by decide +kernel, by decide +kernel, by decide +kernel⟩, by decide⟩, kt_X4_isLetter⟩
theorem kl_X4_74 : Cond.methodLink RX4 74 yX4_isDigit ∈ GW := gw_of 451 (by decide +kernel) (by decide +kernel)
theorem kc_X4_isDigit : Cond.code mX4_isDigit.1 mX4_isDigit.2.1 mX4_isDigit.2.2.1 mX4_isDigit.2.2.2 ∈ GW := gw_of 453 (by decide +kernel) (by decide +kernel)
theorem kt_X4_isDigit : Cond.static yX4_isDigit ∈ GW := gw_of 452 (by decide +kernel) (by decide +kernel)
theorem cX4_74 : aCs RX4 74 mX4_isDigit 1 := ⟨⟨kc_X4_isDigit, kl_X4_74, kn_X4, ⟨by decide +kernel, by decide +kernel, by decide +kernel⟩, by decide⟩, kt_X4_isDigit⟩
theorem kl_X4_77 : Cond.methodLink RX4 77 yX4_stop ∈ GW := gw_of 454 (by decide +kernel) (by decide +kernel)
theorem kc_X4_stop : Cond.code mX4_stop.1 mX4_stop.2.1 mX4_stop.2.2.1 mX4_stop.2.2.2 ∈ GW := gw_of 457 (by decide +kernel) (by decide +kernel)
theorem ki_X4_stop : Cond.instanceMethod yX4_stop ∈ GW := gw_of 456 (by decide +kernel) (by decide +kernel)
theorem ks_X4_stop : Cond.selects RX4 yX4_stop yX4_stop ∈ GW := gw_sl (q := (yX4_stop, 11)) 5 (by decide +kernel) (by decide +kernel)
theorem cX4_77 : aCv RX4 77 4 mX4_stop 2 := ⟨⟨kc_X4_stop, kl_X4_77, kn_X4, ⟨by decide +kernel, by decide +kernel, by decide +kernel⟩, by decide⟩, ki_X4_stop, ks_X4_stop, TX4, 11, rfl⟩
theorem kl_X4_81 : Cond.methodLink RX4 81 yX4_takeWord ∈ GW := gw_of 458 (by decide +kernel) (by decide +kernel)
theorem kc_X4_takeWord : Cond.code mX4_takeWord.1 mX4_takeWord.2.1 mX4_takeWord.2.2.1 mX4_takeWord.2.2.2 ∈ GW := gw_of 461 (by decide +kernel) (by decide +kernel)
theorem ki_X4_takeWord : Cond.instanceMethod yX4_takeWord ∈ GW := gw_of 460 (by decide +kernel) (by decide +kernel)
theorem ks_X4_takeWord : Cond.selects RX4 yX4_takeWord yX4_takeWord ∈ GW := gw_sl (q := (yX4_takeWord, 11)) 6 (by decide +kernel) (by decide +kernel)
theorem cX4_81 : aCv RX4 81 4 mX4_takeWord 0 := ⟨⟨kc_X4_takeWord, kl_X4_81, kn_X4, ⟨by decide +kernel, by decide +kernel, by decide +kernel⟩, by decide⟩, ki_X4_takeWord, ks_X4_takeWord, TX4, 11, rfl⟩
theorem kl_X4_84 : Cond.methodLink RX4 84 yX4_findOwn ∈ GW := gw_of 462 (by decide +kernel) (by decide +kernel)
theorem kc_X4_findOwn : Cond.code mX4_findOwn.1 mX4_findOwn.2.1 mX4_findOwn.2.2.1 mX4_findOwn.2.2.2 ∈ GW := gw_of 465 (by decide +kernel) (by decide +kernel)
theorem ki_X4_findOwn : Cond.instanceMethod yX4_findOwn ∈ GW := gw_of 464 (by decide +kernel) (by decide +kernel)
theorem ks_X4_findOwn : Cond.selects RX4 yX4_findOwn yX4_findOwn ∈ GW := gw_sl (q := (yX4_findOwn, 11)) 7 (by decide +kernel) (by decide +kernel)
theorem cX4_84 : aCv RX4 84 4 mX4_findOwn 0 := ⟨⟨kc_X4_findOwn, kl_X4_84, kn_X4, ⟨by decide +kernel, by decide +kernel, by decide +kernel⟩, by decide⟩, ki_X4_findOwn, ks_X4_findOwn, TX4, 11, rfl⟩
theorem kl_X4_88 : Cond.methodLink RX4 88 yX4_takeNumber ∈ GW := gw_of 515 (by decide +kernel) (by decide +kernel)
theorem kc_X4_takeNumber : Cond.code mX4_takeNumber.1 mX4_takeNumber.2.1 mX4_takeNumber.2.2.1 mX4_takeNumber.2.2.2 ∈ GW := gw_of 518 (by decide +kernel) (by decide +kernel)
theorem ki_X4_takeNumber : Cond.instanceMethod yX4_takeNumber ∈ GW := gw_of 517 (by decide +kernel) (by decide +kernel)
theorem ks_X4_takeNumber : Cond.selects RX4 yX4_takeNumber yX4_takeNumber ∈ GW := gw_sl (q := (yX4_takeNumber, 11)) 8 (by decide +kernel) (by decide +kernel)
theorem cX4_88 : aCv RX4 88 4 mX4_takeNumber 0 := ⟨⟨kc_X4_takeNumber, kl_X4_88, kn_X4, ⟨by decide +kernel, by decide +kernel, by decide +kernel⟩, by decide⟩, ki_X4_takeNumber, ks_X4_takeNumber, TX4, 11, rfl⟩
theorem kl_X4_64 : Cond.methodLink RX4 64 yX4_readStatement ∈ GW := gw_of 519 (by decide +kernel) (by decide +kernel)
theorem kc_X4_readStatement : Cond.code mX4_readStatement.1 mX4_readStatement.2.1 mX4_readStatement.2.2.1 mX4_readStatement.2.2.2 ∈ GW := gw_of 522 (by decide +kernel) (by decide +kernel)
theorem ki_X4_readStatement : Cond.instanceMethod yX4_readStatement ∈ GW := gw_of 521 (by decide +kernel) (by decide +kernel)
theorem ks_X4_readStatement : Cond.selects RX4 yX4_readStatement yX4_readStatement ∈ GW := gw_sl (q := (yX4_readStatement, 11)) 9 (by decide +kernel) (by decide +kernel)
theorem cX4_64 : aCv RX4 64 4 mX4_readStatement 0 := ⟨⟨kc_X4_readStatement, kl_X4_64, kn_X4, ⟨by decide +kernel, by decide +kernel, by decide +kernel⟩, by decide⟩, ki_X4_readStatement, ks_X4_readStatement, TX4, 11, rfl⟩
theorem kl_X4_108 : Cond.methodLink RX4 108 yX4_beginsStatement ∈ GW := gw_of 523 (by decide +kernel) (by decide +kernel)
theorem kc_X4_beginsStatement : Cond.code mX4_beginsStatement.1 mX4_beginsStatement.2.1 mX4_beginsStatement.2.2.1 mX4_beginsStatement.2.2.2 ∈ GW := gw_of 525 (by decide +kernel) (by decide +kernel)
theorem kt_X4_beginsStatement : Cond.static yX4_beginsStatement ∈ GW := gw_of 524 (by decide +kernel) (by decide +kernel)
theorem cX4_108 : aCs RX4 108 mX4_beginsStatement 1 := ⟨⟨kc_X4_beginsStatement, kl_X4_108, kn_X4, ⟨by decide +kernel, by decide +kernel, by decide +kernel⟩, by decide⟩, kt_X4_beginsStatement⟩
theorem kl_X4_111 : Cond.methodLink RX4 111 yX4_isFull ∈ GW := gw_of 526 (by decide +kernel) (by decide +kernel)
theorem kc_X4_isFull : Cond.code mX4_isFull.1 mX4_isFull.2.1 mX4_isFull.2.2.1 mX4_isFull.2.2.2 ∈ GW := gw_of 529 (by decide +kernel) (by decide +kernel)
theorem ki_X4_isFull : Cond.instanceMethod yX4_isFull ∈ GW := gw_of 528 (by decide +kernel) (by decide +kernel)
theorem ks_X4_isFull : Cond.selects RX4 yX4_isFull yX4_isFull ∈ GW := gw_sl (q := (yX4_isFull, 11)) 10 (by decide +kernel) (by decide +kernel)
theorem cX4_111 : aCv RX4 111 4 mX4_isFull 1 := ⟨⟨kc_X4_isFull, kl_X4_111, kn_X4, ⟨by decide +kernel, by decide +kernel, by decide +kernel⟩, by decide⟩, ki_X4_isFull, ks_X4_isFull, TX4, 11, rfl⟩
theorem kl_X4_114 : Cond.methodLink RX4 114 yX4_readThing ∈ GW := gw_of 530 (by decide +kernel) (by decide +kernel)
theorem kc_X4_readThing : Cond.code mX4_readThing.1 mX4_readThing.2.1 mX4_readThing.2.2.1 mX4_readThing.2.2.2 ∈ GW := gw_of 533 (by decide +kernel) (by decide +kernel)
theorem ki_X4_readThing : Cond.instanceMethod yX4_readThing ∈ GW := gw_of 532 (by decide +kernel) (by decide +kernel)
theorem ks_X4_readThing : Cond.selects RX4 yX4_readThing yX4_readThing ∈ GW := gw_sl (q := (yX4_readThing, 11)) 11 (by decide +kernel) (by decide +kernel)
theorem cX4_114 : aCv RX4 114 4 mX4_readThing 3 := ⟨⟨kc_X4_readThing, kl_X4_114, kn_X4, ⟨by decide +kernel, by decide +kernel, by decide +kernel⟩, by decide⟩, ki_X4_readThing, ks_X4_readThing, TX4, 11, rfl⟩
theorem kl_X4_149 : Cond.methodLink RX4 149 yX4_takeName ∈ GW := gw_of 534 (by decide +kernel) (by decide +kernel)
theorem kc_X4_takeName : Cond.code mX4_takeName.1 mX4_takeName.2.1 mX4_takeName.2.2.1 mX4_takeName.2.2.2 ∈ GW := gw_of 537 (by decide +kernel) (by decide +kernel)
theorem ki_X4_takeName : Cond.instanceMethod yX4_takeName ∈ GW := gw_of 536 (by decide +kernel) (by decide +kernel)
theorem ks_X4_takeName : Cond.selects RX4 yX4_takeName yX4_takeName ∈ GW := gw_sl (q := (yX4_takeName, 11)) 12 (by decide +kernel) (by decide +kernel)
theorem cX4_149 : aCv RX4 149 4 mX4_takeName 0 := ⟨⟨kc_X4_takeName, kl_X4_149, kn_X4, ⟨by decide +kernel, by decide +kernel, by decide +kernel⟩, by decide⟩, ki_X4_takeName, ks_X4_takeName, TX4, 11, rfl⟩
theorem kl_X4_159 : Cond.methodLink RX4 159 yX5_bears ∈ GW := gw_of 538 (by decide +kernel) (by decide +kernel)
theorem kc_X5_bears : Cond.code mX5_bears.1 mX5_bears.2.1 mX5_bears.2.2.1 mX5_bears.2.2.2 ∈ GW := gw_of 541 (by decide +kernel) (by decide +kernel)
theorem ki_X5_bears : Cond.instanceMethod yX5_bears ∈ GW := gw_of 539 (by decide +kernel) (by decide +kernel)
theorem ks_X5_bears : Cond.selects RX5 yX5_bears yX5_bears ∈ GW := gw_of 540 (by decide +kernel) (by decide +kernel)
theorem cX4_159 : aCv RX4 159 5 mX5_bears 1 := ⟨⟨kc_X5_bears, kl_X4_159, kn_X5, ⟨by decide +kernel, by decide +kernel, by decide +kernel⟩, by decide⟩, ki_X5_bears, ks_X5_bears, TX5, 11, rfl⟩
theorem kl_X4_152 : Cond.methodLink RX4 152 yX4_takeOwn ∈ GW := gw_of 542 (by decide +kernel) (by decide +kernel)
theorem kc_X4_takeOwn : Cond.code mX4_takeOwn.1 mX4_takeOwn.2.1 mX4_takeOwn.2.2.1 mX4_takeOwn.2.2.2 ∈ GW := gw_of 545 (by decide +kernel) (by decide +kernel)
theorem ki_X4_takeOwn : Cond.instanceMethod yX4_takeOwn ∈ GW := gw_of 544 (by decide +kernel) (by decide +kernel)
theorem ks_X4_takeOwn : Cond.selects RX4 yX4_takeOwn yX4_takeOwn ∈ GW := gw_sl (q := (yX4_takeOwn, 11)) 13 (by decide +kernel) (by decide +kernel)
theorem cX4_152 : aCv RX4 152 4 mX4_takeOwn 1 := ⟨⟨kc_X4_takeOwn, kl_X4_152, kn_X4, ⟨by decide +kernel, by decide +kernel, by decide +kernel⟩, by decide⟩, ki_X4_takeOwn, ks_X4_takeOwn, TX4, 11, rfl⟩
theorem kl_X4_102 : Cond.methodLink RX4 102 yX4_isWord ∈ GW := gw_of 546 (by decide +kernel) (by decide +kernel)
theorem kc_X4_isWord : Cond.code mX4_isWord.1 mX4_isWord.2.1 mX4_isWord.2.2.1 mX4_isWord.2.2.2 ∈ GW := gw_of 549 (by decide +kernel) (by decide +kernel)
theorem ki_X4_isWord : Cond.instanceMethod yX4_isWord ∈ GW := gw_of 548 (by decide +kernel) (by decide +kernel)
theorem ks_X4_isWord : Cond.selects RX4 yX4_isWord yX4_isWord ∈ GW := gw_sl (q := (yX4_isWord, 11)) 14 (by decide +kernel) (by decide +kernel)
theorem cX4_102 : aCv RX4 102 4 mX4_isWord 1 := ⟨⟨kc_X4_isWord, kl_X4_102, kn_X4, ⟨by decide +kernel, by decide +kernel, by decide +kernel⟩, by decide⟩, ki_X4_isWord, ks_X4_isWord, TX4, 11, rfl⟩
theorem kl_X4_118 : Cond.methodLink RX4 118 yX4_takeValue ∈ GW := gw_of 550 (by decide +kernel) (by decide +kernel)
theorem kc_X4_takeValue : Cond.code mX4_takeValue.1 mX4_takeValue.2.1 mX4_takeValue.2.2.1 mX4_takeValue.2.2.2 ∈ GW := gw_of 553 (by decide +kernel) (by decide +kernel)
theorem ki_X4_takeValue : Cond.instanceMethod yX4_takeValue ∈ GW := gw_of 552 (by decide +kernel) (by decide +kernel)
theorem ks_X4_takeValue : Cond.selects RX4 yX4_takeValue yX4_takeValue ∈ GW := gw_sl (q := (yX4_takeValue, 11)) 15 (by decide +kernel) (by decide +kernel)
theorem cX4_118 : aCv RX4 118 4 mX4_takeValue 2 := ⟨⟨kc_X4_takeValue, kl_X4_118, kn_X4, ⟨by decide +kernel, by decide +kernel, by decide +kernel⟩, by decide⟩, ki_X4_takeValue, ks_X4_takeValue, TX4, 11, rfl⟩
theorem kl_X4_155 : Cond.methodLink RX4 155 yX5_addThing ∈ GW := gw_of 554 (by decide +kernel) (by decide +kernel)
theorem kc_X5_addThing : Cond.code mX5_addThing.1 mX5_addThing.2.1 mX5_addThing.2.2.1 mX5_addThing.2.2.2 ∈ GW := gw_of 557 (by decide +kernel) (by decide +kernel)
theorem ki_X5_addThing : Cond.instanceMethod yX5_addThing ∈ GW := gw_of 555 (by decide +kernel) (by decide +kernel)
theorem ks_X5_addThing : Cond.selects RX5 yX5_addThing yX5_addThing ∈ GW := gw_of 556 (by decide +kernel) (by decide +kernel)
theorem cX4_155 : aCv RX4 155 5 mX5_addThing 4 := ⟨⟨kc_X5_addThing, kl_X4_155, kn_X5, ⟨by decide +kernel, by decide +kernel, by decide +kernel⟩, by decide⟩, ki_X5_addThing, ks_X5_addThing, TX5, 11, rfl⟩
theorem kl_X4_127 : Cond.methodLink RX4 127 yX4_readRule ∈ GW := gw_of 558 (by decide +kernel) (by decide +kernel)
theorem kc_X4_readRule : Cond.code mX4_readRule.1 mX4_readRule.2.1 mX4_readRule.2.2.1 mX4_readRule.2.2.2 ∈ GW := gw_of 561 (by decide +kernel) (by decide +kernel)
theorem ki_X4_readRule : Cond.instanceMethod yX4_readRule ∈ GW := gw_of 560 (by decide +kernel) (by decide +kernel)
theorem ks_X4_readRule : Cond.selects RX4 yX4_readRule yX4_readRule ∈ GW := gw_sl (q := (yX4_readRule, 11)) 16 (by decide +kernel) (by decide +kernel)
theorem cX4_127 : aCv RX4 127 4 mX4_readRule 1 := ⟨⟨kc_X4_readRule, kl_X4_127, kn_X4, ⟨by decide +kernel, by decide +kernel, by decide +kernel⟩, by decide⟩, ki_X4_readRule, ks_X4_readRule, TX4, 11, rfl⟩
theorem kl_X4_165 : Cond.methodLink RX4 165 yX4_readTest ∈ GW := gw_of 562 (by decide +kernel) (by decide +kernel)
theorem kc_X4_readTest : Cond.code mX4_readTest.1 mX4_readTest.2.1 mX4_readTest.2.2.1 mX4_readTest.2.2.2 ∈ GW := gw_of 565 (by decide +kernel) (by decide +kernel)
theorem ki_X4_readTest : Cond.instanceMethod yX4_readTest ∈ GW := gw_of 564 (by decide +kernel) (by decide +kernel)
theorem ks_X4_readTest : Cond.selects RX4 yX4_readTest yX4_readTest ∈ GW := gw_sl (q := (yX4_readTest, 11)) 17 (by decide +kernel) (by decide +kernel)
theorem cX4_165 : aCv RX4 165 4 mX4_readTest 1 := ⟨⟨kc_X4_readTest, kl_X4_165, kn_X4, ⟨by decide +kernel, by decide +kernel, by decide +kernel⟩, by decide⟩, ki_X4_readTest, ks_X4_readTest, TX4, 11, rfl⟩
theorem kl_X4_195 : Cond.methodLink RX4 195 yX4_readBoth ∈ GW := gw_of 566 (by decide +kernel) (by decide +kernel)
theorem kc_X4_readBoth : Cond.code mX4_readBoth.1 mX4_readBoth.2.1 mX4_readBoth.2.2.1 mX4_readBoth.2.2.2 ∈ GW := gw_of 569 (by decide +kernel) (by decide +kernel)
theorem ki_X4_readBoth : Cond.instanceMethod yX4_readBoth ∈ GW := gw_of 568 (by decide +kernel) (by decide +kernel)
theorem ks_X4_readBoth : Cond.selects RX4 yX4_readBoth yX4_readBoth ∈ GW := gw_sl (q := (yX4_readBoth, 11)) 18 (by decide +kernel) (by decide +kernel)
theorem cX4_195 : aCv RX4 195 4 mX4_readBoth 1 := ⟨⟨kc_X4_readBoth, kl_X4_195, kn_X4, ⟨by decide +kernel, by decide +kernel, by decide +kernel⟩, by decide⟩, ki_X4_readBoth, ks_X4_readBoth, TX4, 11, rfl⟩
theorem kl_X4_198 : Cond.methodLink RX4 198 yX4_readFact ∈ GW := gw_of 570 (by decide +kernel) (by decide +kernel)
theorem kc_X4_readFact : Cond.code mX4_readFact.1 mX4_readFact.2.1 mX4_readFact.2.2.1 mX4_readFact.2.2.2 ∈ GW := gw_of 573 (by decide +kernel) (by decide +kernel)
theorem ki_X4_readFact : Cond.instanceMethod yX4_readFact ∈ GW := gw_of 572 (by decide +kernel) (by decide +kernel)
theorem ks_X4_readFact : Cond.selects RX4 yX4_readFact yX4_readFact ∈ GW := gw_sl (q := (yX4_readFact, 11)) 19 (by decide +kernel) (by decide +kernel)
theorem cX4_198 : aCv RX4 198 4 mX4_readFact 1 := ⟨⟨kc_X4_readFact, kl_X4_198, kn_X4, ⟨by decide +kernel, by decide +kernel, by decide +kernel⟩, by decide⟩, ki_X4_readFact, ks_X4_readFact, TX4, 11, rfl⟩
theorem kl_X4_189 : Cond.methodLink RX4 189 yX4_takeOpener ∈ GW := gw_of 574 (by decide +kernel) (by decide +kernel)
theorem kc_X4_takeOpener : Cond.code mX4_takeOpener.1 mX4_takeOpener.2.1 mX4_takeOpener.2.2.1 mX4_takeOpener.2.2.2 ∈ GW := gw_of 577 (by decide +kernel) (by decide +kernel)
theorem ki_X4_takeOpener : Cond.instanceMethod yX4_takeOpener ∈ GW := gw_of 576 (by decide +kernel) (by decide +kernel)
theorem ks_X4_takeOpener : Cond.selects RX4 yX4_takeOpener yX4_takeOpener ∈ GW := gw_sl (q := (yX4_takeOpener, 11)) 20 (by decide +kernel) (by decide +kernel)
theorem cX4_189 : aCv RX4 189 4 mX4_takeOpener 1 := ⟨⟨kc_X4_takeOpener, kl_X4_189, kn_X4, ⟨by decide +kernel, by decide +kernel, by decide +kernel⟩, by decide⟩, ki_X4_takeOpener, ks_X4_takeOpener, TX4, 11, rfl⟩
theorem kl_X4_174 : Cond.methodLink RX4 174 yX5_addStep ∈ GW := gw_of 578 (by decide +kernel) (by decide +kernel)
theorem kc_X5_addStep : Cond.code mX5_addStep.1 mX5_addStep.2.1 mX5_addStep.2.2.1 mX5_addStep.2.2.2 ∈ GW := gw_of 581 (by decide +kernel) (by decide +kernel)
theorem ki_X5_addStep : Cond.instanceMethod yX5_addStep ∈ GW := gw_of 579 (by decide +kernel) (by decide +kernel)
theorem ks_X5_addStep : Cond.selects RX5 yX5_addStep yX5_addStep ∈ GW := gw_of 580 (by decide +kernel) (by decide +kernel)
theorem cX4_174 : aCv RX4 174 5 mX5_addStep 2 := ⟨⟨kc_X5_addStep, kl_X4_174, kn_X5, ⟨by decide +kernel, by decide +kernel, by decide +kernel⟩, by decide⟩, ki_X5_addStep, ks_X5_addStep, TX5, 11, rfl⟩
theorem kl_X4_105 : Cond.methodLink RX4 105 yX4_isSign ∈ GW := gw_of 582 (by decide +kernel) (by decide +kernel)
theorem kc_X4_isSign : Cond.code mX4_isSign.1 mX4_isSign.2.1 mX4_isSign.2.2.1 mX4_isSign.2.2.2 ∈ GW := gw_of 585 (by decide +kernel) (by decide +kernel)
theorem ki_X4_isSign : Cond.instanceMethod yX4_isSign ∈ GW := gw_of 584 (by decide +kernel) (by decide +kernel)
theorem ks_X4_isSign : Cond.selects RX4 yX4_isSign yX4_isSign ∈ GW := gw_sl (q := (yX4_isSign, 11)) 21 (by decide +kernel) (by decide +kernel)
theorem cX4_105 : aCv RX4 105 4 mX4_isSign 1 := ⟨⟨kc_X4_isSign, kl_X4_105, kn_X4, ⟨by decide +kernel, by decide +kernel, by decide +kernel⟩, by decide⟩, ki_X4_isSign, ks_X4_isSign, TX4, 11, rfl⟩
theorem kl_X4_136 : Cond.methodLink RX4 136 yX4_takeSign ∈ GW := gw_of 586 (by decide +kernel) (by decide +kernel)
theorem kc_X4_takeSign : Cond.code mX4_takeSign.1 mX4_takeSign.2.1 mX4_takeSign.2.2.1 mX4_takeSign.2.2.2 ∈ GW := gw_of 589 (by decide +kernel) (by decide +kernel)
theorem ki_X4_takeSign : Cond.instanceMethod yX4_takeSign ∈ GW := gw_of 588 (by decide +kernel) (by decide +kernel)
theorem ks_X4_takeSign : Cond.selects RX4 yX4_takeSign yX4_takeSign ∈ GW := gw_sl (q := (yX4_takeSign, 11)) 22 (by decide +kernel) (by decide +kernel)
theorem cX4_136 : aCv RX4 136 4 mX4_takeSign 1 := ⟨⟨kc_X4_takeSign, kl_X4_136, kn_X4, ⟨by decide +kernel, by decide +kernel, by decide +kernel⟩, by decide⟩, ki_X4_takeSign, ks_X4_takeSign, TX4, 11, rfl⟩
theorem kl_X4_201 : Cond.methodLink RX4 201 yX4_readComparison ∈ GW := gw_of 590 (by decide +kernel) (by decide +kernel)
theorem kc_X4_readComparison : Cond.code mX4_readComparison.1 mX4_readComparison.2.1 mX4_readComparison.2.2.1 mX4_readComparison.2.2.2 ∈ GW := gw_of 593 (by decide +kernel) (by decide +kernel)
theorem ki_X4_readComparison : Cond.instanceMethod yX4_readComparison ∈ GW := gw_of 592 (by decide +kernel) (by decide +kernel)
theorem ks_X4_readComparison : Cond.selects RX4 yX4_readComparison yX4_readComparison ∈ GW := gw_sl (q := (yX4_readComparison, 11)) 23 (by decide +kernel) (by decide +kernel)
theorem cX4_201 : aCv RX4 201 4 mX4_readComparison 1 := ⟨⟨kc_X4_readComparison, kl_X4_201, kn_X4, ⟨by decide +kernel, by decide +kernel, by decide +kernel⟩, by decide⟩, ki_X4_readComparison, ks_X4_readComparison, TX4, 11, rfl⟩
theorem kl_X4_168 : Cond.methodLink RX4 168 yX4_readSum ∈ GW := gw_of 594 (by decide +kernel) (by decide +kernel)
theorem kc_X4_readSum : Cond.code mX4_readSum.1 mX4_readSum.2.1 mX4_readSum.2.2.1 mX4_readSum.2.2.2 ∈ GW := gw_of 597 (by decide +kernel) (by decide +kernel)
theorem ki_X4_readSum : Cond.instanceMethod yX4_readSum ∈ GW := gw_of 596 (by decide +kernel) (by decide +kernel)
theorem ks_X4_readSum : Cond.selects RX4 yX4_readSum yX4_readSum ∈ GW := gw_sl (q := (yX4_readSum, 11)) 24 (by decide +kernel) (by decide +kernel)
theorem cX4_168 : aCv RX4 168 4 mX4_readSum 1 := ⟨⟨kc_X4_readSum, kl_X4_168, kn_X4, ⟨by decide +kernel, by decide +kernel, by decide +kernel⟩, by decide⟩, ki_X4_readSum, ks_X4_readSum, TX4, 11, rfl⟩
theorem kl_X4_171 : Cond.methodLink RX4 171 yX4_readProduct ∈ GW := gw_of 598 (by decide +kernel) (by decide +kernel)
theorem kc_X4_readProduct : Cond.code mX4_readProduct.1 mX4_readProduct.2.1 mX4_readProduct.2.2.1 mX4_readProduct.2.2.2 ∈ GW := gw_of 601 (by decide +kernel) (by decide +kernel)
theorem ki_X4_readProduct : Cond.instanceMethod yX4_readProduct ∈ GW := gw_of 600 (by decide +kernel) (by decide +kernel)
theorem ks_X4_readProduct : Cond.selects RX4 yX4_readProduct yX4_readProduct ∈ GW := gw_sl (q := (yX4_readProduct, 11)) 25 (by decide +kernel) (by decide +kernel)
theorem cX4_171 : aCv RX4 171 4 mX4_readProduct 1 := ⟨⟨kc_X4_readProduct, kl_X4_171, kn_X4, ⟨by decide +kernel, by decide +kernel, by decide +kernel⟩, by decide⟩, ki_X4_readProduct, ks_X4_readProduct, TX4, 11, rfl⟩
theorem kl_X4_177 : Cond.methodLink RX4 177 yX4_readPart ∈ GW := gw_of 602 (by decide +kernel) (by decide +kernel)
theorem kc_X4_readPart : Cond.code mX4_readPart.1 mX4_readPart.2.1 mX4_readPart.2.2.1 mX4_readPart.2.2.2 ∈ GW := gw_of 605 (by decide +kernel) (by decide +kernel)
theorem ki_X4_readPart : Cond.instanceMethod yX4_readPart ∈ GW := gw_of 604 (by decide +kernel) (by decide +kernel)
theorem ks_X4_readPart : Cond.selects RX4 yX4_readPart yX4_readPart ∈ GW := gw_sl (q := (yX4_readPart, 11)) 26 (by decide +kernel) (by decide +kernel)
theorem cX4_177 : aCv RX4 177 4 mX4_readPart 1 := ⟨⟨kc_X4_readPart, kl_X4_177, kn_X4, ⟨by decide +kernel, by decide +kernel, by decide +kernel⟩, by decide⟩, ki_X4_readPart, ks_X4_readPart, TX4, 11, rfl⟩
theorem kl_X4_180 : Cond.methodLink RX4 180 yX4_mayStand ∈ GW := gw_of 606 (by decide +kernel) (by decide +kernel)
theorem kc_X4_mayStand : Cond.code mX4_mayStand.1 mX4_mayStand.2.1 mX4_mayStand.2.2.1 mX4_mayStand.2.2.2 ∈ GW := gw_of 609 (by decide +kernel) (by decide +kernel)
theorem ki_X4_mayStand : Cond.instanceMethod yX4_mayStand ∈ GW := gw_of 608 (by decide +kernel) (by decide +kernel)
theorem ks_X4_mayStand : Cond.selects RX4 yX4_mayStand yX4_mayStand ∈ GW := gw_sl (q := (yX4_mayStand, 11)) 27 (by decide +kernel) (by decide +kernel)
theorem cX4_180 : aCv RX4 180 4 mX4_mayStand 1 := ⟨⟨kc_X4_mayStand, kl_X4_180, kn_X4, ⟨by decide +kernel, by decide +kernel, by decide +kernel⟩, by decide⟩, ki_X4_mayStand, ks_X4_mayStand, TX4, 11, rfl⟩
theorem kl_X4_183 : Cond.methodLink RX4 183 yX4_readLesserOrGreater ∈ GW := gw_of 610 (by decide +kernel) (by decide +kernel)
theorem kc_X4_readLesserOrGreater : Cond.code mX4_readLesserOrGreater.1 mX4_readLesserOrGreater.2.1 mX4_readLesserOrGreater.2.2.1 mX4_readLesserOrGreater.2.2.2 ∈ GW := gw_of 613 (by decide +kernel) (by decide +kernel)
theorem ki_X4_readLesserOrGreater : Cond.instanceMethod yX4_readLesserOrGreater ∈ GW := gw_of 612 (by decide +kernel) (by decide +kernel)
theorem ks_X4_readLesserOrGreater : Cond.selects RX4 yX4_readLesserOrGreater yX4_readLesserOrGreater ∈ GW := gw_sl (q := (yX4_readLesserOrGreater, 11)) 28 (by decide +kernel) (by decide +kernel)
theorem cX4_183 : aCv RX4 183 4 mX4_readLesserOrGreater 1 := ⟨⟨kc_X4_readLesserOrGreater, kl_X4_183, kn_X4, ⟨by decide +kernel, by decide +kernel, by decide +kernel⟩, by decide⟩, ki_X4_readLesserOrGreater, ks_X4_readLesserOrGreater, TX4, 11, rfl⟩
theorem kl_X4_192 : Cond.methodLink RX4 192 yX4_takeBracket ∈ GW := gw_of 614 (by decide +kernel) (by decide +kernel)
theorem kc_X4_takeBracket : Cond.code mX4_takeBracket.1 mX4_takeBracket.2.1 mX4_takeBracket.2.2.1 mX4_takeBracket.2.2.2 ∈ GW := gw_of 617 (by decide +kernel) (by decide +kernel)
theorem ki_X4_takeBracket : Cond.instanceMethod yX4_takeBracket ∈ GW := gw_of 616 (by decide +kernel) (by decide +kernel)
theorem ks_X4_takeBracket : Cond.selects RX4 yX4_takeBracket yX4_takeBracket ∈ GW := gw_sl (q := (yX4_takeBracket, 11)) 29 (by decide +kernel) (by decide +kernel)
theorem cX4_192 : aCv RX4 192 4 mX4_takeBracket 1 := ⟨⟨kc_X4_takeBracket, kl_X4_192, kn_X4, ⟨by decide +kernel, by decide +kernel, by decide +kernel⟩, by decide⟩, ki_X4_takeBracket, ks_X4_takeBracket, TX4, 11, rfl⟩
theorem kl_X4_186 : Cond.methodLink RX4 186 yX4_readChoice ∈ GW := gw_of 618 (by decide +kernel) (by decide +kernel)
theorem kc_X4_readChoice : Cond.code mX4_readChoice.1 mX4_readChoice.2.1 mX4_readChoice.2.2.1 mX4_readChoice.2.2.2 ∈ GW := gw_of 621 (by decide +kernel) (by decide +kernel)
theorem ki_X4_readChoice : Cond.instanceMethod yX4_readChoice ∈ GW := gw_of 620 (by decide +kernel) (by decide +kernel)
theorem ks_X4_readChoice : Cond.selects RX4 yX4_readChoice yX4_readChoice ∈ GW := gw_sl (q := (yX4_readChoice, 11)) 30 (by decide +kernel) (by decide +kernel)
theorem cX4_186 : aCv RX4 186 4 mX4_readChoice 1 := ⟨⟨kc_X4_readChoice, kl_X4_186, kn_X4, ⟨by decide +kernel, by decide +kernel, by decide +kernel⟩, by decide⟩, ki_X4_readChoice, ks_X4_readChoice, TX4, 11, rfl⟩
theorem kl_X4_130 : Cond.methodLink RX4 130 yX4_endStatement ∈ GW := gw_of 622 (by decide +kernel) (by decide +kernel)
theorem kc_X4_endStatement : Cond.code mX4_endStatement.1 mX4_endStatement.2.1 mX4_endStatement.2.2.1 mX4_endStatement.2.2.2 ∈ GW := gw_of 625 (by decide +kernel) (by decide +kernel)
theorem ki_X4_endStatement : Cond.instanceMethod yX4_endStatement ∈ GW := gw_of 624 (by decide +kernel) (by decide +kernel)
theorem ks_X4_endStatement : Cond.selects RX4 yX4_endStatement yX4_endStatement ∈ GW := gw_sl (q := (yX4_endStatement, 11)) 31 (by decide +kernel) (by decide +kernel)
theorem cX4_130 : aCv RX4 130 4 mX4_endStatement 0 := ⟨⟨kc_X4_endStatement, kl_X4_130, kn_X4, ⟨by decide +kernel, by decide +kernel, by decide +kernel⟩, by decide⟩, ki_X4_endStatement, ks_X4_endStatement, TX4, 11, rfl⟩
theorem kl_X9_129 : Cond.methodLink RX9 129 yX8_begin ∈ GW := gw_of 626 (by decide +kernel) (by decide +kernel)
theorem kc_X8_begin : Cond.code mX8_begin.1 mX8_begin.2.1 mX8_begin.2.2.1 mX8_begin.2.2.2 ∈ GW := gw_of 629 (by decide +kernel) (by decide +kernel)
theorem kn_X8 : Cond.initialized RX8 ∈ GW := gw_of 4 (by decide +kernel) (by decide +kernel)
theorem ki_X8_begin : Cond.instanceMethod yX8_begin ∈ GW := gw_of 627 (by decide +kernel) (by decide +kernel)
theorem ks_X8_begin : Cond.selects RX8 yX8_begin yX8_begin ∈ GW := gw_of 628 (by decide +kernel) (by decide +kernel)
theorem cX9_129 : aCv RX9 129 8 mX8_begin 1 := ⟨⟨kc_X8_begin, kl_X9_129, kn_X8, ⟨by decide +kernel, by decide +kernel, by decide +kernel⟩, by decide⟩, ki_X8_begin, ks_X8_begin, TX8, 6, rfl⟩
theorem kl_X8_34 : Cond.methodLink RX8 34 yX5_zincTold ∈ GW := gw_of 630 (by decide +kernel) (by decide +kernel)
theorem kc_X5_zincTold : Cond.code mX5_zincTold.1 mX5_zincTold.2.1 mX5_zincTold.2.2.1 mX5_zincTold.2.2.2 ∈ GW := gw_of 633 (by decide +kernel) (by decide +kernel)
theorem ki_X5_zincTold : Cond.instanceMethod yX5_zincTold ∈ GW := gw_of 631 (by decide +kernel) (by decide +kernel)
theorem ks_X5_zincTold : Cond.selects RX5 yX5_zincTold yX5_zincTold ∈ GW := gw_of 632 (by decide +kernel) (by decide +kernel)
theorem cX8_34 : aCv RX8 34 5 mX5_zincTold 1 := ⟨⟨kc_X5_zincTold, kl_X8_34, kn_X5, ⟨by decide +kernel, by decide +kernel, by decide +kernel⟩, by decide⟩, ki_X5_zincTold, ks_X5_zincTold, TX5, 11, rfl⟩
theorem kl_X8_38 : Cond.methodLink RX8 38 yX5_deepTold ∈ GW := gw_of 634 (by decide +kernel) (by decide +kernel)
theorem kc_X5_deepTold : Cond.code mX5_deepTold.1 mX5_deepTold.2.1 mX5_deepTold.2.2.1 mX5_deepTold.2.2.2 ∈ GW := gw_of 637 (by decide +kernel) (by decide +kernel)
theorem ki_X5_deepTold : Cond.instanceMethod yX5_deepTold ∈ GW := gw_of 635 (by decide +kernel) (by decide +kernel)
theorem ks_X5_deepTold : Cond.selects RX5 yX5_deepTold yX5_deepTold ∈ GW := gw_of 636 (by decide +kernel) (by decide +kernel)
theorem cX8_38 : aCv RX8 38 5 mX5_deepTold 1 := ⟨⟨kc_X5_deepTold, kl_X8_38, kn_X5, ⟨by decide +kernel, by decide +kernel, by decide +kernel⟩, by decide⟩, ki_X5_deepTold, ks_X5_deepTold, TX5, 11, rfl⟩
theorem kl_X9_132 : Cond.methodLink RX9 132 yX0_forget ∈ GW := gw_of 638 (by decide +kernel) (by decide +kernel)
theorem kc_X0_forget : Cond.code mX0_forget.1 mX0_forget.2.1 mX0_forget.2.2.1 mX0_forget.2.2.2 ∈ GW := gw_of 641 (by decide +kernel) (by decide +kernel)
theorem kn_X0 : Cond.initialized RX0 ∈ GW := gw_of 6 (by decide +kernel) (by decide +kernel)
theorem ki_X0_forget : Cond.instanceMethod yX0_forget ∈ GW := gw_of 639 (by decide +kernel) (by decide +kernel)
theorem ks_X0_forget : Cond.selects RX0 yX0_forget yX0_forget ∈ GW := gw_of 640 (by decide +kernel) (by decide +kernel)
theorem cX9_132 : aCv RX9 132 0 mX0_forget 0 := ⟨⟨kc_X0_forget, kl_X9_132, kn_X0, ⟨by decide +kernel, by decide +kernel, by decide +kernel⟩, by decide⟩, ki_X0_forget, ks_X0_forget, TX0, 3, rfl⟩
theorem kl_X9_138 : Cond.methodLink RX9 138 yX9_forgetAnswers ∈ GW := gw_of 642 (by decide +kernel) (by decide +kernel)
theorem kc_X9_forgetAnswers : Cond.code mX9_forgetAnswers.1 mX9_forgetAnswers.2.1 mX9_forgetAnswers.2.2.1 mX9_forgetAnswers.2.2.2 ∈ GW := gw_of 645 (by decide +kernel) (by decide +kernel)
theorem ki_X9_forgetAnswers : Cond.instanceMethod yX9_forgetAnswers ∈ GW := gw_of 644 (by decide +kernel) (by decide +kernel)
theorem ks_X9_forgetAnswers : Cond.selects RX9 yX9_forgetAnswers yX9_forgetAnswers ∈ GW := gw_sl (q := (yX9_forgetAnswers, 17)) 32 (by decide +kernel) (by decide +kernel)
theorem cX9_138 : aCv RX9 138 9 mX9_forgetAnswers 0 := ⟨⟨kc_X9_forgetAnswers, kl_X9_138, kn_X9, ⟨by decide +kernel, by decide +kernel, by decide +kernel⟩, by decide⟩, ki_X9_forgetAnswers, ks_X9_forgetAnswers, TX9, 17, rfl⟩
theorem kl_X9_153 : Cond.methodLink RX9 153 yX8_stainsLeft ∈ GW := gw_of 654 (by decide +kernel) (by decide +kernel)
theorem kc_X8_stainsLeft : Cond.code mX8_stainsLeft.1 mX8_stainsLeft.2.1 mX8_stainsLeft.2.2.1 mX8_stainsLeft.2.2.2 ∈ GW := gw_of 657 (by decide +kernel) (by decide +kernel)
theorem ki_X8_stainsLeft : Cond.instanceMethod yX8_stainsLeft ∈ GW := gw_of 655 (by decide +kernel) (by decide +kernel)
theorem ks_X8_stainsLeft : Cond.selects RX8 yX8_stainsLeft yX8_stainsLeft ∈ GW := gw_of 656 (by decide +kernel) (by decide +kernel)
theorem cX9_153 : aCv RX9 153 8 mX8_stainsLeft 0 := ⟨⟨kc_X8_stainsLeft, kl_X9_153, kn_X8, ⟨by decide +kernel, by decide +kernel, by decide +kernel⟩, by decide⟩, ki_X8_stainsLeft, ks_X8_stainsLeft, TX8, 6, rfl⟩
theorem kl_X9_157 : Cond.methodLink RX9 157 yX9_bareBoards ∈ GW := gw_of 658 (by decide +kernel) (by decide +kernel)
theorem kc_X9_bareBoards : Cond.code mX9_bareBoards.1 mX9_bareBoards.2.1 mX9_bareBoards.2.2.1 mX9_bareBoards.2.2.2 ∈ GW := gw_of 661 (by decide +kernel) (by decide +kernel)
theorem ki_X9_bareBoards : Cond.instanceMethod yX9_bareBoards ∈ GW := gw_of 660 (by decide +kernel) (by decide +kernel)
theorem ks_X9_bareBoards : Cond.selects RX9 yX9_bareBoards yX9_bareBoards ∈ GW := gw_sl (q := (yX9_bareBoards, 17)) 33 (by decide +kernel) (by decide +kernel)
theorem cX9_157 : aCv RX9 157 9 mX9_bareBoards 0 := ⟨⟨kc_X9_bareBoards, kl_X9_157, kn_X9, ⟨by decide +kernel, by decide +kernel, by decide +kernel⟩, by decide⟩, ki_X9_bareBoards, ks_X9_bareBoards, TX9, 17, rfl⟩
theorem kl_X9_163 : Cond.methodLink RX9 163 yJ6_bitCount_0f7a4 ∈ GW := gw_of 662 (by decide +kernel) (by decide +kernel)
theorem kc_J6_bitCount_0f7a4 : Cond.code mJ6_bitCount_0f7a4.1 mJ6_bitCount_0f7a4.2.1 mJ6_bitCount_0f7a4.2.2.1 mJ6_bitCount_0f7a4.2.2.2 ∈ GW := gw_of 664 (by decide +kernel) (by decide +kernel)
theorem kn_J6 : Cond.initialized RJ6 ∈ GW := gw_of 17 (by decide +kernel) (by decide +kernel)
theorem kt_J6_bitCount_0f7a4 : Cond.static yJ6_bitCount_0f7a4 ∈ GW := gw_of 663 (by decide +kernel) (by decide +kernel)
theorem cX9_163 : aCs RX9 163 mJ6_bitCount_0f7a4 1 := ⟨⟨kc_J6_bitCount_0f7a4, kl_X9_163, kn_J6, ⟨by decide +kernel, by decide +kernel, by decide +kernel⟩, by decide⟩, kt_J6_bitCount_0f7a4⟩
theorem kl_X9_171 : Cond.methodLink RX9 171 Lib.Math.min.name ∈ GW := gw_of 668 (by decide +kernel) (by decide +kernel)
theorem kl_X9_182 : Cond.methodLink RX9 182 yX5_holds ∈ GW := gw_of 673 (by decide +kernel) (by decide +kernel)
theorem kc_X5_holds : Cond.code mX5_holds.1 mX5_holds.2.1 mX5_holds.2.2.1 mX5_holds.2.2.2 ∈ GW := gw_of 676 (by decide +kernel) (by decide +kernel)
theorem ki_X5_holds : Cond.instanceMethod yX5_holds ∈ GW := gw_of 674 (by decide +kernel) (by decide +kernel)
theorem ks_X5_holds : Cond.selects RX5 yX5_holds yX5_holds ∈ GW := gw_of 675 (by decide +kernel) (by decide +kernel)
theorem cX9_182 : aCv RX9 182 5 mX5_holds 2 := ⟨⟨kc_X5_holds, kl_X9_182, kn_X5, ⟨by decide +kernel, by decide +kernel, by decide +kernel⟩, by decide⟩, ki_X5_holds, ks_X5_holds, TX5, 11, rfl⟩
theorem kl_X9_189 : Cond.methodLink RX9 189 yX5_ribs ∈ GW := gw_of 681 (by decide +kernel) (by decide +kernel)
theorem kc_X5_ribs : Cond.code mX5_ribs.1 mX5_ribs.2.1 mX5_ribs.2.2.1 mX5_ribs.2.2.2 ∈ GW := gw_of 684 (by decide +kernel) (by decide +kernel)
theorem ki_X5_ribs : Cond.instanceMethod yX5_ribs ∈ GW := gw_of 682 (by decide +kernel) (by decide +kernel)
theorem ks_X5_ribs : Cond.selects RX5 yX5_ribs yX5_ribs ∈ GW := gw_of 683 (by decide +kernel) (by decide +kernel)
theorem cX9_189 : aCv RX9 189 5 mX5_ribs 1 := ⟨⟨kc_X5_ribs, kl_X9_189, kn_X5, ⟨by decide +kernel, by decide +kernel, by decide +kernel⟩, by decide⟩, ki_X5_ribs, ks_X5_ribs, TX5, 11, rfl⟩
theorem kl_X9_195 : Cond.methodLink RX9 195 yX5_stuff ∈ GW := gw_of 689 (by decide +kernel) (by decide +kernel)
theorem kc_X5_stuff : Cond.code mX5_stuff.1 mX5_stuff.2.1 mX5_stuff.2.2.1 mX5_stuff.2.2.2 ∈ GW := gw_of 692 (by decide +kernel) (by decide +kernel)
theorem ki_X5_stuff : Cond.instanceMethod yX5_stuff ∈ GW := gw_of 690 (by decide +kernel) (by decide +kernel)
theorem ks_X5_stuff : Cond.selects RX5 yX5_stuff yX5_stuff ∈ GW := gw_of 691 (by decide +kernel) (by decide +kernel)
theorem cX9_195 : aCv RX9 195 5 mX5_stuff 1 := ⟨⟨kc_X5_stuff, kl_X9_195, kn_X5, ⟨by decide +kernel, by decide +kernel, by decide +kernel⟩, by decide⟩, ki_X5_stuff, ks_X5_stuff, TX5, 11, rfl⟩
theorem kl_X9_198 : Cond.methodLink RX9 198 yX5_sin ∈ GW := gw_of 697 (by decide +kernel) (by decide +kernel)
theorem kc_X5_sin : Cond.code mX5_sin.1 mX5_sin.2.1 mX5_sin.2.2.1 mX5_sin.2.2.2 ∈ GW := gw_of 700 (by decide +kernel) (by decide +kernel)
theorem ki_X5_sin : Cond.instanceMethod yX5_sin ∈ GW := gw_of 698 (by decide +kernel) (by decide +kernel)
theorem ks_X5_sin : Cond.selects RX5 yX5_sin yX5_sin ∈ GW := gw_of 699 (by decide +kernel) (by decide +kernel)
theorem cX9_198 : aCv RX9 198 5 mX5_sin 1 := ⟨⟨kc_X5_sin, kl_X9_198, kn_X5, ⟨by decide +kernel, by decide +kernel, by decide +kernel⟩, by decide⟩, ki_X5_sin, ks_X5_sin, TX5, 11, rfl⟩
theorem kl_X9_201 : Cond.methodLink RX9 201 yX5_ear ∈ GW := gw_of 701 (by decide +kernel) (by decide +kernel)
theorem kc_X5_ear : Cond.code mX5_ear.1 mX5_ear.2.1 mX5_ear.2.2.1 mX5_ear.2.2.2 ∈ GW := gw_of 704 (by decide +kernel) (by decide +kernel)
theorem ki_X5_ear : Cond.instanceMethod yX5_ear ∈ GW := gw_of 702 (by decide +kernel) (by decide +kernel)
theorem ks_X5_ear : Cond.selects RX5 yX5_ear yX5_ear ∈ GW := gw_of 703 (by decide +kernel) (by decide +kernel)
theorem cX9_201 : aCv RX9 201 5 mX5_ear 1 := ⟨⟨kc_X5_ear, kl_X9_201, kn_X5, ⟨by decide +kernel, by decide +kernel, by decide +kernel⟩, by decide⟩, ki_X5_ear, ks_X5_ear, TX5, 11, rfl⟩
theorem kl_X9_204 : Cond.methodLink RX9 204 yX9_areThere ∈ GW := gw_of 709 (by decide +kernel) (by decide +kernel)
theorem kc_X9_areThere : Cond.code mX9_areThere.1 mX9_areThere.2.1 mX9_areThere.2.2.1 mX9_areThere.2.2.2 ∈ GW := gw_of 712 (by decide +kernel) (by decide +kernel)
theorem ki_X9_areThere : Cond.instanceMethod yX9_areThere ∈ GW := gw_of 711 (by decide +kernel) (by decide +kernel)
theorem ks_X9_areThere : Cond.selects RX9 yX9_areThere yX9_areThere ∈ GW := gw_sl (q := (yX9_areThere, 17)) 34 (by decide +kernel) (by decide +kernel)
theorem cX9_204 : aCv RX9 204 9 mX9_areThere 2 := ⟨⟨kc_X9_areThere, kl_X9_204, kn_X9, ⟨by decide +kernel, by decide +kernel, by decide +kernel⟩, by decide⟩, ki_X9_areThere, ks_X9_areThere, TX9, 17, rfl⟩
theorem kl_X9_207 : Cond.methodLink RX9 207 yX6_lay ∈ GW := gw_of 713 (by decide +kernel) (by decide +kernel)
theorem kc_X6_lay : Cond.code mX6_lay.1 mX6_lay.2.1 mX6_lay.2.2.1 mX6_lay.2.2.2 ∈ GW := gw_of 716 (by decide +kernel) (by decide +kernel)
theorem ki_X6_lay : Cond.instanceMethod yX6_lay ∈ GW := gw_of 714 (by decide +kernel) (by decide +kernel)
theorem ks_X6_lay : Cond.selects RX6 yX6_lay yX6_lay ∈ GW := gw_of 715 (by decide +kernel) (by decide +kernel)
theorem cX9_207 : aCv RX9 207 6 mX6_lay 3 := ⟨⟨kc_X6_lay, kl_X9_207, kn_X6, ⟨by decide +kernel, by decide +kernel, by decide +kernel⟩, by decide⟩, ki_X6_lay, ks_X6_lay, TX6, 9, rfl⟩
theorem kl_X6_47 : Cond.methodLink RX6 47 yX5_ribs ∈ GW := gw_of 717 (by decide +kernel) (by decide +kernel)
theorem cX6_47 : aCv RX6 47 5 mX5_ribs 1 := ⟨⟨kc_X5_ribs, kl_X6_47, kn_X5, ⟨by decide +kernel, by decide +kernel, by decide +kernel⟩, by decide⟩, ki_X5_ribs, ks_X5_ribs, TX5, 11, rfl⟩
theorem kl_X6_53 : Cond.methodLink RX6 53 yX5_stuff ∈ GW := gw_of 718 (by decide +kernel) (by decide +kernel)
theorem cX6_53 : aCv RX6 53 5 mX5_stuff 1 := ⟨⟨kc_X5_stuff, kl_X6_53, kn_X5, ⟨by decide +kernel, by decide +kernel, by decide +kernel⟩, by decide⟩, ki_X5_stuff, ks_X5_stuff, TX5, 11, rfl⟩
theorem kl_X9_211 : Cond.methodLink RX9 211 yX6_rub ∈ GW := gw_of 719 (by decide +kernel) (by decide +kernel)
theorem kc_X6_rub : Cond.code mX6_rub.1 mX6_rub.2.1 mX6_rub.2.2.1 mX6_rub.2.2.2 ∈ GW := gw_of 722 (by decide +kernel) (by decide +kernel)
theorem ki_X6_rub : Cond.instanceMethod yX6_rub ∈ GW := gw_of 720 (by decide +kernel) (by decide +kernel)
theorem ks_X6_rub : Cond.selects RX6 yX6_rub yX6_rub ∈ GW := gw_of 721 (by decide +kernel) (by decide +kernel)
theorem cX9_211 : aCv RX9 211 6 mX6_rub 1 := ⟨⟨kc_X6_rub, kl_X9_211, kn_X6, ⟨by decide +kernel, by decide +kernel, by decide +kernel⟩, by decide⟩, ki_X6_rub, ks_X6_rub, TX6, 9, rfl⟩
theorem kl_X6_62 : Cond.methodLink RX6 62 yX6_valueOf ∈ GW := gw_of 723 (by decide +kernel) (by decide +kernel)
theorem kc_X6_valueOf : Cond.code mX6_valueOf.1 mX6_valueOf.2.1 mX6_valueOf.2.2.1 mX6_valueOf.2.2.2 ∈ GW := gw_of 726 (by decide +kernel) (by decide +kernel)
theorem ki_X6_valueOf : Cond.instanceMethod yX6_valueOf ∈ GW := gw_of 725 (by decide +kernel) (by decide +kernel)
theorem ks_X6_valueOf : Cond.selects RX6 yX6_valueOf yX6_valueOf ∈ GW := gw_sl (q := (yX6_valueOf, 9)) 35 (by decide +kernel) (by decide +kernel)
theorem cX6_62 : aCv RX6 62 6 mX6_valueOf 2 := ⟨⟨kc_X6_valueOf, kl_X6_62, kn_X6, ⟨by decide +kernel, by decide +kernel, by decide +kernel⟩, by decide⟩, ki_X6_valueOf, ks_X6_valueOf, TX6, 9, rfl⟩
theorem kl_X6_71 : Cond.methodLink RX6 71 Lib.Math.min.name ∈ GW := gw_of 727 (by decide +kernel) (by decide +kernel)
theorem kl_X6_125 : Cond.methodLink RX6 125 yX6_put ∈ GW := gw_of 728 (by decide +kernel) (by decide +kernel)
theorem kc_X6_put : Cond.code mX6_put.1 mX6_put.2.1 mX6_put.2.2.1 mX6_put.2.2.2 ∈ GW := gw_of 731 (by decide +kernel) (by decide +kernel)
theorem ki_X6_put : Cond.instanceMethod yX6_put ∈ GW := gw_of 730 (by decide +kernel) (by decide +kernel)
theorem ks_X6_put : Cond.selects RX6 yX6_put yX6_put ∈ GW := gw_sl (q := (yX6_put, 9)) 36 (by decide +kernel) (by decide +kernel)
theorem cX6_125 : aCv RX6 125 6 mX6_put 2 := ⟨⟨kc_X6_put, kl_X6_125, kn_X6, ⟨by decide +kernel, by decide +kernel, by decide +kernel⟩, by decide⟩, ki_X6_put, ks_X6_put, TX6, 9, rfl⟩
theorem kl_X6_128 : Cond.methodLink RX6 128 yX6_reckon ∈ GW := gw_of 732 (by decide +kernel) (by decide +kernel)
theorem kc_X6_reckon : Cond.code mX6_reckon.1 mX6_reckon.2.1 mX6_reckon.2.2.1 mX6_reckon.2.2.2 ∈ GW := gw_of 734 (by decide +kernel) (by decide +kernel)
theorem kt_X6_reckon : Cond.static yX6_reckon ∈ GW := gw_of 733 (by decide +kernel) (by decide +kernel)
theorem cX6_128 : aCs RX6 128 mX6_reckon 3 := ⟨⟨kc_X6_reckon, kl_X6_128, kn_X6, ⟨by decide +kernel, by decide +kernel, by decide +kernel⟩, by decide⟩, kt_X6_reckon⟩
theorem kl_X6_135 : Cond.methodLink RX6 135 yJ9_floorDiv_f86c9 ∈ GW := gw_of 735 (by decide +kernel) (by decide +kernel)
theorem kc_J9_floorDiv_f86c9 : Cond.code mJ9_floorDiv_f86c9.1 mJ9_floorDiv_f86c9.2.1 mJ9_floorDiv_f86c9.2.2.1 mJ9_floorDiv_f86c9.2.2.2 ∈ GW := gw_of 737 (by decide +kernel) (by decide +kernel)
theorem kn_J9 : Cond.initialized RJ9 ∈ GW := gw_of 3 (by decide +kernel) (by decide +kernel)
theorem kt_J9_floorDiv_f86c9 : Cond.static yJ9_floorDiv_f86c9 ∈ GW := gw_of 736 (by decide +kernel) (by decide +kernel)
theorem cX6_135 : aCs RX6 135 mJ9_floorDiv_f86c9 2 := ⟨⟨kc_J9_floorDiv_f86c9, kl_X6_135, kn_J9, ⟨by decide +kernel, by decide +kernel, by decide +kernel⟩, by decide⟩, kt_J9_floorDiv_f86c9⟩
theorem kl_X6_139 : Cond.methodLink RX6 139 yJ9_floorMod_f86c9 ∈ GW := gw_of 738 (by decide +kernel) (by decide +kernel)
theorem kc_J9_floorMod_f86c9 : Cond.code mJ9_floorMod_f86c9.1 mJ9_floorMod_f86c9.2.1 mJ9_floorMod_f86c9.2.2.1 mJ9_floorMod_f86c9.2.2.2 ∈ GW := gw_of 740 (by decide +kernel) (by decide +kernel)
theorem kt_J9_floorMod_f86c9 : Cond.static yJ9_floorMod_f86c9 ∈ GW := gw_of 739 (by decide +kernel) (by decide +kernel)
theorem cX6_139 : aCs RX6 139 mJ9_floorMod_f86c9 2 := ⟨⟨kc_J9_floorMod_f86c9, kl_X6_139, kn_J9, ⟨by decide +kernel, by decide +kernel, by decide +kernel⟩, by decide⟩, kt_J9_floorMod_f86c9⟩
theorem kl_X6_132 : Cond.methodLink RX6 132 yX6_weigh ∈ GW := gw_of 745 (by decide +kernel) (by decide +kernel)
theorem kc_X6_weigh : Cond.code mX6_weigh.1 mX6_weigh.2.1 mX6_weigh.2.2.1 mX6_weigh.2.2.2 ∈ GW := gw_of 748 (by decide +kernel) (by decide +kernel)
theorem ki_X6_weigh : Cond.instanceMethod yX6_weigh ∈ GW := gw_of 747 (by decide +kernel) (by decide +kernel)
theorem ks_X6_weigh : Cond.selects RX6 yX6_weigh yX6_weigh ∈ GW := gw_sl (q := (yX6_weigh, 9)) 37 (by decide +kernel) (by decide +kernel)
theorem cX6_132 : aCv RX6 132 6 mX6_weigh 2 := ⟨⟨kc_X6_weigh, kl_X6_132, kn_X6, ⟨by decide +kernel, by decide +kernel, by decide +kernel⟩, by decide⟩, ki_X6_weigh, ks_X6_weigh, TX6, 9, rfl⟩
theorem kl_X6_66 : Cond.methodLink RX6 66 Lib.Math.max.name ∈ GW := gw_of 749 (by decide +kernel) (by decide +kernel)
theorem kl_X9_216 : Cond.methodLink RX9 216 yX6_bringOut ∈ GW := gw_of 754 (by decide +kernel) (by decide +kernel)
theorem kc_X6_bringOut : Cond.code mX6_bringOut.1 mX6_bringOut.2.1 mX6_bringOut.2.2.1 mX6_bringOut.2.2.2 ∈ GW := gw_of 757 (by decide +kernel) (by decide +kernel)
theorem ki_X6_bringOut : Cond.instanceMethod yX6_bringOut ∈ GW := gw_of 755 (by decide +kernel) (by decide +kernel)
theorem ks_X6_bringOut : Cond.selects RX6 yX6_bringOut yX6_bringOut ∈ GW := gw_of 756 (by decide +kernel) (by decide +kernel)
theorem cX9_216 : aCv RX9 216 6 mX6_bringOut 3 := ⟨⟨kc_X6_bringOut, kl_X9_216, kn_X6, ⟨by decide +kernel, by decide +kernel, by decide +kernel⟩, by decide⟩, ki_X6_bringOut, ks_X6_bringOut, TX6, 9, rfl⟩
theorem kl_X6_74 : Cond.methodLink RX6 74 yX6_lay ∈ GW := gw_of 758 (by decide +kernel) (by decide +kernel)
theorem cX6_74 : aCv RX6 74 6 mX6_lay 3 := ⟨⟨kc_X6_lay, kl_X6_74, kn_X6, ⟨by decide +kernel, by decide +kernel, by decide +kernel⟩, by decide⟩, ki_X6_lay, ks_X6_lay, TX6, 9, rfl⟩
theorem kl_X6_78 : Cond.methodLink RX6 78 yX6_rub ∈ GW := gw_of 759 (by decide +kernel) (by decide +kernel)
theorem cX6_78 : aCv RX6 78 6 mX6_rub 1 := ⟨⟨kc_X6_rub, kl_X6_78, kn_X6, ⟨by decide +kernel, by decide +kernel, by decide +kernel⟩, by decide⟩, ki_X6_rub, ks_X6_rub, TX6, 9, rfl⟩
theorem kl_X9_229 : Cond.methodLink RX9 229 yX3_solve ∈ GW := gw_of 768 (by decide +kernel) (by decide +kernel)
theorem kc_X3_solve : Cond.code mX3_solve.1 mX3_solve.2.1 mX3_solve.2.2.1 mX3_solve.2.2.2 ∈ GW := gw_of 771 (by decide +kernel) (by decide +kernel)
theorem ki_X3_solve : Cond.instanceMethod yX3_solve ∈ GW := gw_of 769 (by decide +kernel) (by decide +kernel)
theorem ks_X3_solve : Cond.selects RX3 yX3_solve yX3_solve ∈ GW := gw_of 770 (by decide +kernel) (by decide +kernel)
theorem cX9_229 : aCv RX9 229 3 mX3_solve 0 := ⟨⟨kc_X3_solve, kl_X9_229, kn_X3, ⟨by decide +kernel, by decide +kernel, by decide +kernel⟩, by decide⟩, ki_X3_solve, ks_X3_solve, TX3, 7, rfl⟩
theorem kl_X3_48 : Cond.methodLink RX3 48 yX6_bringOut ∈ GW := gw_of 772 (by decide +kernel) (by decide +kernel)
theorem cX3_48 : aCv RX3 48 6 mX6_bringOut 3 := ⟨⟨kc_X6_bringOut, kl_X3_48, kn_X6, ⟨by decide +kernel, by decide +kernel, by decide +kernel⟩, by decide⟩, ki_X6_bringOut, ks_X6_bringOut, TX6, 9, rfl⟩
theorem kl_X3_58 : Cond.methodLink RX3 58 yX3_seat ∈ GW := gw_of 773 (by decide +kernel) (by decide +kernel)
theorem kc_X3_seat : Cond.code mX3_seat.1 mX3_seat.2.1 mX3_seat.2.2.1 mX3_seat.2.2.2 ∈ GW := gw_of 776 (by decide +kernel) (by decide +kernel)
theorem ki_X3_seat : Cond.instanceMethod yX3_seat ∈ GW := gw_of 775 (by decide +kernel) (by decide +kernel)
theorem ks_X3_seat : Cond.selects RX3 yX3_seat yX3_seat ∈ GW := gw_sl (q := (yX3_seat, 7)) 38 (by decide +kernel) (by decide +kernel)
theorem cX3_58 : aCv RX3 58 3 mX3_seat 3 := ⟨⟨kc_X3_seat, kl_X3_58, kn_X3, ⟨by decide +kernel, by decide +kernel, by decide +kernel⟩, by decide⟩, ki_X3_seat, ks_X3_seat, TX3, 7, rfl⟩
theorem kl_X3_62 : Cond.methodLink RX3 62 arraycopyName ∈ GW := gw_of 777 (by decide +kernel) (by decide +kernel)
theorem kl_X9_241 : Cond.methodLink RX9 241 yX1_solve ∈ GW := gw_of 784 (by decide +kernel) (by decide +kernel)
theorem kc_X1_solve : Cond.code mX1_solve.1 mX1_solve.2.1 mX1_solve.2.2.1 mX1_solve.2.2.2 ∈ GW := gw_of 787 (by decide +kernel) (by decide +kernel)
theorem ki_X1_solve : Cond.instanceMethod yX1_solve ∈ GW := gw_of 785 (by decide +kernel) (by decide +kernel)
theorem ks_X1_solve : Cond.selects RX1 yX1_solve yX1_solve ∈ GW := gw_of 786 (by decide +kernel) (by decide +kernel)
theorem cX9_241 : aCv RX9 241 1 mX1_solve 1 := ⟨⟨kc_X1_solve, kl_X9_241, kn_X1, ⟨by decide +kernel, by decide +kernel, by decide +kernel⟩, by decide⟩, ki_X1_solve, ks_X1_solve, TX1, 8, rfl⟩
theorem kl_X1_44 : Cond.methodLink RX1 44 yX1_goOn ∈ GW := gw_of 788 (by decide +kernel) (by decide +kernel)
theorem kc_X1_goOn : Cond.code mX1_goOn.1 mX1_goOn.2.1 mX1_goOn.2.2.1 mX1_goOn.2.2.2 ∈ GW := gw_of 791 (by decide +kernel) (by decide +kernel)
theorem ki_X1_goOn : Cond.instanceMethod yX1_goOn ∈ GW := gw_of 790 (by decide +kernel) (by decide +kernel)
theorem ks_X1_goOn : Cond.selects RX1 yX1_goOn yX1_goOn ∈ GW := gw_sl (q := (yX1_goOn, 8)) 39 (by decide +kernel) (by decide +kernel)
theorem cX1_44 : aCv RX1 44 1 mX1_goOn 4 := ⟨⟨kc_X1_goOn, kl_X1_44, kn_X1, ⟨by decide +kernel, by decide +kernel, by decide +kernel⟩, by decide⟩, ki_X1_goOn, ks_X1_goOn, TX1, 8, rfl⟩
theorem kl_X1_48 : Cond.methodLink RX1 48 arraycopyName ∈ GW := gw_of 792 (by decide +kernel) (by decide +kernel)
theorem kl_X1_57 : Cond.methodLink RX1 57 yX1_look ∈ GW := gw_of 793 (by decide +kernel) (by decide +kernel)
theorem kc_X1_look : Cond.code mX1_look.1 mX1_look.2.1 mX1_look.2.2.1 mX1_look.2.2.2 ∈ GW := gw_of 796 (by decide +kernel) (by decide +kernel)
theorem ki_X1_look : Cond.instanceMethod yX1_look ∈ GW := gw_of 795 (by decide +kernel) (by decide +kernel)
theorem ks_X1_look : Cond.selects RX1 yX1_look yX1_look ∈ GW := gw_sl (q := (yX1_look, 8)) 40 (by decide +kernel) (by decide +kernel)
theorem cX1_57 : aCv RX1 57 1 mX1_look 2 := ⟨⟨kc_X1_look, kl_X1_57, kn_X1, ⟨by decide +kernel, by decide +kernel, by decide +kernel⟩, by decide⟩, ki_X1_look, ks_X1_look, TX1, 8, rfl⟩
theorem kl_X1_61 : Cond.methodLink RX1 61 yX6_lay ∈ GW := gw_of 797 (by decide +kernel) (by decide +kernel)
theorem cX1_61 : aCv RX1 61 6 mX6_lay 3 := ⟨⟨kc_X6_lay, kl_X1_61, kn_X6, ⟨by decide +kernel, by decide +kernel, by decide +kernel⟩, by decide⟩, ki_X6_lay, ks_X6_lay, TX6, 9, rfl⟩
theorem kl_X1_69 : Cond.methodLink RX1 69 yX6_rub ∈ GW := gw_of 798 (by decide +kernel) (by decide +kernel)
theorem cX1_69 : aCv RX1 69 6 mX6_rub 1 := ⟨⟨kc_X6_rub, kl_X1_69, kn_X6, ⟨by decide +kernel, by decide +kernel, by decide +kernel⟩, by decide⟩, ki_X6_rub, ks_X6_rub, TX6, 9, rfl⟩
theorem kl_X9_248 : Cond.methodLink RX9 248 yX9_canPass ∈ GW := gw_of 803 (by decide +kernel) (by decide +kernel)
theorem kc_X9_canPass : Cond.code mX9_canPass.1 mX9_canPass.2.1 mX9_canPass.2.2.1 mX9_canPass.2.2.2 ∈ GW := gw_of 806 (by decide +kernel) (by decide +kernel)
theorem ki_X9_canPass : Cond.instanceMethod yX9_canPass ∈ GW := gw_of 805 (by decide +kernel) (by decide +kernel)
theorem ks_X9_canPass : Cond.selects RX9 yX9_canPass yX9_canPass ∈ GW := gw_sl (q := (yX9_canPass, 17)) 41 (by decide +kernel) (by decide +kernel)
theorem cX9_248 : aCv RX9 248 9 mX9_canPass 1 := ⟨⟨kc_X9_canPass, kl_X9_248, kn_X9, ⟨by decide +kernel, by decide +kernel, by decide +kernel⟩, by decide⟩, ki_X9_canPass, ks_X9_canPass, TX9, 17, rfl⟩
theorem kl_X9_251 : Cond.methodLink RX9 251 yX9_goAhead ∈ GW := gw_of 807 (by decide +kernel) (by decide +kernel)
theorem kc_X9_goAhead : Cond.code mX9_goAhead.1 mX9_goAhead.2.1 mX9_goAhead.2.2.1 mX9_goAhead.2.2.2 ∈ GW := gw_of 810 (by decide +kernel) (by decide +kernel)
theorem ki_X9_goAhead : Cond.instanceMethod yX9_goAhead ∈ GW := gw_of 809 (by decide +kernel) (by decide +kernel)
theorem ks_X9_goAhead : Cond.selects RX9 yX9_goAhead yX9_goAhead ∈ GW := gw_sl (q := (yX9_goAhead, 17)) 42 (by decide +kernel) (by decide +kernel)
theorem cX9_251 : aCv RX9 251 9 mX9_goAhead 1 := ⟨⟨kc_X9_goAhead, kl_X9_251, kn_X9, ⟨by decide +kernel, by decide +kernel, by decide +kernel⟩, by decide⟩, ki_X9_goAhead, ks_X9_goAhead, TX9, 17, rfl⟩
theorem kl_X9_254 : Cond.methodLink RX9 254 yX8_take ∈ GW := gw_of 811 (by decide +kernel) (by decide +kernel)
theorem kc_X8_take : Cond.code mX8_take.1 mX8_take.2.1 mX8_take.2.2.1 mX8_take.2.2.2 ∈ GW := gw_of 814 (by decide +kernel) (by decide +kernel)
theorem ki_X8_take : Cond.instanceMethod yX8_take ∈ GW := gw_of 812 (by decide +kernel) (by decide +kernel)
theorem ks_X8_take : Cond.selects RX8 yX8_take yX8_take ∈ GW := gw_of 813 (by decide +kernel) (by decide +kernel)
theorem cX9_254 : aCv RX9 254 8 mX8_take 1 := ⟨⟨kc_X8_take, kl_X9_254, kn_X8, ⟨by decide +kernel, by decide +kernel, by decide +kernel⟩, by decide⟩, ki_X8_take, ks_X8_take, TX8, 6, rfl⟩
theorem kl_X8_41 : Cond.methodLink RX8 41 arraycopyName ∈ GW := gw_of 815 (by decide +kernel) (by decide +kernel)
theorem kl_X9_258 : Cond.methodLink RX9 258 yX6_passWeek ∈ GW := gw_of 816 (by decide +kernel) (by decide +kernel)
theorem kc_X6_passWeek : Cond.code mX6_passWeek.1 mX6_passWeek.2.1 mX6_passWeek.2.2.1 mX6_passWeek.2.2.2 ∈ GW := gw_of 819 (by decide +kernel) (by decide +kernel)
theorem ki_X6_passWeek : Cond.instanceMethod yX6_passWeek ∈ GW := gw_of 817 (by decide +kernel) (by decide +kernel)
theorem ks_X6_passWeek : Cond.selects RX6 yX6_passWeek yX6_passWeek ∈ GW := gw_of 818 (by decide +kernel) (by decide +kernel)
theorem cX9_258 : aCv RX9 258 6 mX6_passWeek 2 := ⟨⟨kc_X6_passWeek, kl_X9_258, kn_X6, ⟨by decide +kernel, by decide +kernel, by decide +kernel⟩, by decide⟩, ki_X6_passWeek, ks_X6_passWeek, TX6, 9, rfl⟩
theorem kl_X6_88 : Cond.methodLink RX6 88 yX6_deepestOf ∈ GW := gw_of 820 (by decide +kernel) (by decide +kernel)
theorem kc_X6_deepestOf : Cond.code mX6_deepestOf.1 mX6_deepestOf.2.1 mX6_deepestOf.2.2.1 mX6_deepestOf.2.2.2 ∈ GW := gw_of 823 (by decide +kernel) (by decide +kernel)
theorem ki_X6_deepestOf : Cond.instanceMethod yX6_deepestOf ∈ GW := gw_of 822 (by decide +kernel) (by decide +kernel)
theorem ks_X6_deepestOf : Cond.selects RX6 yX6_deepestOf yX6_deepestOf ∈ GW := gw_sl (q := (yX6_deepestOf, 9)) 43 (by decide +kernel) (by decide +kernel)
theorem cX6_88 : aCv RX6 88 6 mX6_deepestOf 1 := ⟨⟨kc_X6_deepestOf, kl_X6_88, kn_X6, ⟨by decide +kernel, by decide +kernel, by decide +kernel⟩, by decide⟩, ki_X6_deepestOf, ks_X6_deepestOf, TX6, 9, rfl⟩
theorem kl_X6_95 : Cond.methodLink RX6 95 yX6_pickFor ∈ GW := gw_of 824 (by decide +kernel) (by decide +kernel)
theorem kc_X6_pickFor : Cond.code mX6_pickFor.1 mX6_pickFor.2.1 mX6_pickFor.2.2.1 mX6_pickFor.2.2.2 ∈ GW := gw_of 827 (by decide +kernel) (by decide +kernel)
theorem ki_X6_pickFor : Cond.instanceMethod yX6_pickFor ∈ GW := gw_of 826 (by decide +kernel) (by decide +kernel)
theorem ks_X6_pickFor : Cond.selects RX6 yX6_pickFor yX6_pickFor ∈ GW := gw_sl (q := (yX6_pickFor, 9)) 44 (by decide +kernel) (by decide +kernel)
theorem cX6_95 : aCv RX6 95 6 mX6_pickFor 2 := ⟨⟨kc_X6_pickFor, kl_X6_95, kn_X6, ⟨by decide +kernel, by decide +kernel, by decide +kernel⟩, by decide⟩, ki_X6_pickFor, ks_X6_pickFor, TX6, 9, rfl⟩
theorem kl_X6_99 : Cond.methodLink RX6 99 yX6_preach ∈ GW := gw_of 828 (by decide +kernel) (by decide +kernel)
theorem kc_X6_preach : Cond.code mX6_preach.1 mX6_preach.2.1 mX6_preach.2.2.1 mX6_preach.2.2.2 ∈ GW := gw_of 831 (by decide +kernel) (by decide +kernel)
theorem ki_X6_preach : Cond.instanceMethod yX6_preach ∈ GW := gw_of 829 (by decide +kernel) (by decide +kernel)
theorem ks_X6_preach : Cond.selects RX6 yX6_preach yX6_preach ∈ GW := gw_of 830 (by decide +kernel) (by decide +kernel)
theorem cX6_99 : aCv RX6 99 6 mX6_preach 4 := ⟨⟨kc_X6_preach, kl_X6_99, kn_X6, ⟨by decide +kernel, by decide +kernel, by decide +kernel⟩, by decide⟩, ki_X6_preach, ks_X6_preach, TX6, 9, rfl⟩
theorem kl_X6_85 : Cond.methodLink RX6 85 yX6_whoHolds ∈ GW := gw_of 832 (by decide +kernel) (by decide +kernel)
theorem kc_X6_whoHolds : Cond.code mX6_whoHolds.1 mX6_whoHolds.2.1 mX6_whoHolds.2.2.1 mX6_whoHolds.2.2.2 ∈ GW := gw_of 835 (by decide +kernel) (by decide +kernel)
theorem ki_X6_whoHolds : Cond.instanceMethod yX6_whoHolds ∈ GW := gw_of 834 (by decide +kernel) (by decide +kernel)
theorem ks_X6_whoHolds : Cond.selects RX6 yX6_whoHolds yX6_whoHolds ∈ GW := gw_sl (q := (yX6_whoHolds, 9)) 45 (by decide +kernel) (by decide +kernel)
theorem cX6_85 : aCv RX6 85 6 mX6_whoHolds 2 := ⟨⟨kc_X6_whoHolds, kl_X6_85, kn_X6, ⟨by decide +kernel, by decide +kernel, by decide +kernel⟩, by decide⟩, ki_X6_whoHolds, ks_X6_whoHolds, TX6, 9, rfl⟩
theorem kl_X6_107 : Cond.methodLink RX6 107 yX5_sin ∈ GW := gw_of 836 (by decide +kernel) (by decide +kernel)
theorem cX6_107 : aCv RX6 107 5 mX5_sin 1 := ⟨⟨kc_X5_sin, kl_X6_107, kn_X5, ⟨by decide +kernel, by decide +kernel, by decide +kernel⟩, by decide⟩, ki_X5_sin, ks_X5_sin, TX5, 11, rfl⟩
theorem kl_X6_110 : Cond.methodLink RX6 110 yX5_ear ∈ GW := gw_of 837 (by decide +kernel) (by decide +kernel)
theorem cX6_110 : aCv RX6 110 5 mX5_ear 1 := ⟨⟨kc_X5_ear, kl_X6_110, kn_X5, ⟨by decide +kernel, by decide +kernel, by decide +kernel⟩, by decide⟩, ki_X5_ear, ks_X5_ear, TX5, 11, rfl⟩
theorem kl_X6_103 : Cond.methodLink RX6 103 yX6_restWithoutSermon ∈ GW := gw_of 838 (by decide +kernel) (by decide +kernel)
theorem kc_X6_restWithoutSermon : Cond.code mX6_restWithoutSermon.1 mX6_restWithoutSermon.2.1 mX6_restWithoutSermon.2.2.1 mX6_restWithoutSermon.2.2.2 ∈ GW := gw_of 841 (by decide +kernel) (by decide +kernel)
theorem ki_X6_restWithoutSermon : Cond.instanceMethod yX6_restWithoutSermon ∈ GW := gw_of 840 (by decide +kernel) (by decide +kernel)
theorem ks_X6_restWithoutSermon : Cond.selects RX6 yX6_restWithoutSermon yX6_restWithoutSermon ∈ GW := gw_sl (q := (yX6_restWithoutSermon, 9)) 46 (by decide +kernel) (by decide +kernel)
theorem cX6_103 : aCv RX6 103 6 mX6_restWithoutSermon 1 := ⟨⟨kc_X6_restWithoutSermon, kl_X6_103, kn_X6, ⟨by decide +kernel, by decide +kernel, by decide +kernel⟩, by decide⟩, ki_X6_restWithoutSermon, ks_X6_restWithoutSermon, TX6, 9, rfl⟩
theorem kl_X9_262 : Cond.methodLink RX9 262 yX7_read ∈ GW := gw_of 858 (by decide +kernel) (by decide +kernel)
theorem kc_X7_read : Cond.code mX7_read.1 mX7_read.2.1 mX7_read.2.2.1 mX7_read.2.2.2 ∈ GW := gw_of 861 (by decide +kernel) (by decide +kernel)
theorem ki_X7_read : Cond.instanceMethod yX7_read ∈ GW := gw_of 859 (by decide +kernel) (by decide +kernel)
theorem ks_X7_read : Cond.selects RX7 yX7_read yX7_read ∈ GW := gw_of 860 (by decide +kernel) (by decide +kernel)
theorem cX9_262 : aCv RX9 262 7 mX7_read 3 := ⟨⟨kc_X7_read, kl_X9_262, kn_X7, ⟨by decide +kernel, by decide +kernel, by decide +kernel⟩, by decide⟩, ki_X7_read, ks_X7_read, TX7, 7, rfl⟩
theorem kl_X9_266 : Cond.methodLink RX9 266 yX7_stains ∈ GW := gw_of 866 (by decide +kernel) (by decide +kernel)
theorem kc_X7_stains : Cond.code mX7_stains.1 mX7_stains.2.1 mX7_stains.2.2.1 mX7_stains.2.2.2 ∈ GW := gw_of 869 (by decide +kernel) (by decide +kernel)
theorem ki_X7_stains : Cond.instanceMethod yX7_stains ∈ GW := gw_of 867 (by decide +kernel) (by decide +kernel)
theorem ks_X7_stains : Cond.selects RX7 yX7_stains yX7_stains ∈ GW := gw_of 868 (by decide +kernel) (by decide +kernel)
theorem cX9_266 : aCv RX9 266 7 mX7_stains 0 := ⟨⟨kc_X7_stains, kl_X9_266, kn_X7, ⟨by decide +kernel, by decide +kernel, by decide +kernel⟩, by decide⟩, ki_X7_stains, ks_X7_stains, TX7, 7, rfl⟩
theorem kl_X7_47 : Cond.methodLink RX7 47 yX7_isSo ∈ GW := gw_of 870 (by decide +kernel) (by decide +kernel)
theorem kc_X7_isSo : Cond.code mX7_isSo.1 mX7_isSo.2.1 mX7_isSo.2.2.1 mX7_isSo.2.2.2 ∈ GW := gw_of 873 (by decide +kernel) (by decide +kernel)
theorem ki_X7_isSo : Cond.instanceMethod yX7_isSo ∈ GW := gw_of 872 (by decide +kernel) (by decide +kernel)
theorem ks_X7_isSo : Cond.selects RX7 yX7_isSo yX7_isSo ∈ GW := gw_sl (q := (yX7_isSo, 7)) 47 (by decide +kernel) (by decide +kernel)
theorem cX7_47 : aCv RX7 47 7 mX7_isSo 1 := ⟨⟨kc_X7_isSo, kl_X7_47, kn_X7, ⟨by decide +kernel, by decide +kernel, by decide +kernel⟩, by decide⟩, ki_X7_isSo, ks_X7_isSo, TX7, 7, rfl⟩
theorem kl_X7_51 : Cond.methodLink RX7 51 yX6_lay ∈ GW := gw_of 874 (by decide +kernel) (by decide +kernel)
theorem cX7_51 : aCv RX7 51 6 mX6_lay 3 := ⟨⟨kc_X6_lay, kl_X7_51, kn_X6, ⟨by decide +kernel, by decide +kernel, by decide +kernel⟩, by decide⟩, ki_X6_lay, ks_X6_lay, TX6, 9, rfl⟩
theorem kl_X7_55 : Cond.methodLink RX7 55 yX6_rub ∈ GW := gw_of 875 (by decide +kernel) (by decide +kernel)
theorem cX7_55 : aCv RX7 55 6 mX6_rub 1 := ⟨⟨kc_X6_rub, kl_X7_55, kn_X6, ⟨by decide +kernel, by decide +kernel, by decide +kernel⟩, by decide⟩, ki_X6_rub, ks_X6_rub, TX6, 9, rfl⟩
theorem kl_X9_269 : Cond.methodLink RX9 269 yX7_tell ∈ GW := gw_of 880 (by decide +kernel) (by decide +kernel)
theorem kc_X7_tell : Cond.code mX7_tell.1 mX7_tell.2.1 mX7_tell.2.2.1 mX7_tell.2.2.2 ∈ GW := gw_of 883 (by decide +kernel) (by decide +kernel)
theorem ki_X7_tell : Cond.instanceMethod yX7_tell ∈ GW := gw_of 881 (by decide +kernel) (by decide +kernel)
theorem ks_X7_tell : Cond.selects RX7 yX7_tell yX7_tell ∈ GW := gw_of 882 (by decide +kernel) (by decide +kernel)
theorem cX9_269 : aCv RX9 269 7 mX7_tell 2 := ⟨⟨kc_X7_tell, kl_X9_269, kn_X7, ⟨by decide +kernel, by decide +kernel, by decide +kernel⟩, by decide⟩, ki_X7_tell, ks_X7_tell, TX7, 7, rfl⟩
theorem kl_X7_62 : Cond.methodLink RX7 62 yX7_mostAlike ∈ GW := gw_of 884 (by decide +kernel) (by decide +kernel)
theorem kc_X7_mostAlike : Cond.code mX7_mostAlike.1 mX7_mostAlike.2.1 mX7_mostAlike.2.2.1 mX7_mostAlike.2.2.2 ∈ GW := gw_of 887 (by decide +kernel) (by decide +kernel)
theorem ki_X7_mostAlike : Cond.instanceMethod yX7_mostAlike ∈ GW := gw_of 886 (by decide +kernel) (by decide +kernel)
theorem ks_X7_mostAlike : Cond.selects RX7 yX7_mostAlike yX7_mostAlike ∈ GW := gw_sl (q := (yX7_mostAlike, 7)) 48 (by decide +kernel) (by decide +kernel)
theorem cX7_62 : aCv RX7 62 7 mX7_mostAlike 2 := ⟨⟨kc_X7_mostAlike, kl_X7_62, kn_X7, ⟨by decide +kernel, by decide +kernel, by decide +kernel⟩, by decide⟩, ki_X7_mostAlike, ks_X7_mostAlike, TX7, 7, rfl⟩
theorem kl_X7_66 : Cond.methodLink RX7 66 Lib.Math.max.name ∈ GW := gw_of 888 (by decide +kernel) (by decide +kernel)
theorem kl_X9_279 : Cond.methodLink RX9 279 yX9_beginAct ∈ GW := gw_of 893 (by decide +kernel) (by decide +kernel)
theorem kc_X9_beginAct : Cond.code mX9_beginAct.1 mX9_beginAct.2.1 mX9_beginAct.2.2.1 mX9_beginAct.2.2.2 ∈ GW := gw_of 896 (by decide +kernel) (by decide +kernel)
theorem ki_X9_beginAct : Cond.instanceMethod yX9_beginAct ∈ GW := gw_of 895 (by decide +kernel) (by decide +kernel)
theorem ks_X9_beginAct : Cond.selects RX9 yX9_beginAct yX9_beginAct ∈ GW := gw_sl (q := (yX9_beginAct, 17)) 49 (by decide +kernel) (by decide +kernel)
theorem cX9_279 : aCv RX9 279 9 mX9_beginAct 0 := ⟨⟨kc_X9_beginAct, kl_X9_279, kn_X9, ⟨by decide +kernel, by decide +kernel, by decide +kernel⟩, by decide⟩, ki_X9_beginAct, ks_X9_beginAct, TX9, 17, rfl⟩
theorem kl_X9_311 : Cond.methodLink RX9 311 yX0_remember ∈ GW := gw_of 897 (by decide +kernel) (by decide +kernel)
theorem kc_X0_remember : Cond.code mX0_remember.1 mX0_remember.2.1 mX0_remember.2.2.1 mX0_remember.2.2.2 ∈ GW := gw_of 900 (by decide +kernel) (by decide +kernel)
theorem ki_X0_remember : Cond.instanceMethod yX0_remember ∈ GW := gw_of 898 (by decide +kernel) (by decide +kernel)
theorem ks_X0_remember : Cond.selects RX0 yX0_remember yX0_remember ∈ GW := gw_of 899 (by decide +kernel) (by decide +kernel)
theorem cX9_311 : aCv RX9 311 0 mX0_remember 1 := ⟨⟨kc_X0_remember, kl_X9_311, kn_X0, ⟨by decide +kernel, by decide +kernel, by decide +kernel⟩, by decide⟩, ki_X0_remember, ks_X0_remember, TX0, 3, rfl⟩
theorem kl_X0_39 : Cond.methodLink RX0 39 arraycopyName ∈ GW := gw_of 901 (by decide +kernel) (by decide +kernel)
theorem kl_X0_48 : Cond.methodLink RX0 48 Lib.Math.min.name ∈ GW := gw_of 902 (by decide +kernel) (by decide +kernel)
theorem kl_X9_282 : Cond.methodLink RX9 282 yX9_keepWeek ∈ GW := gw_of 903 (by decide +kernel) (by decide +kernel)
theorem kc_X9_keepWeek : Cond.code mX9_keepWeek.1 mX9_keepWeek.2.1 mX9_keepWeek.2.2.1 mX9_keepWeek.2.2.2 ∈ GW := gw_of 906 (by decide +kernel) (by decide +kernel)
theorem ki_X9_keepWeek : Cond.instanceMethod yX9_keepWeek ∈ GW := gw_of 905 (by decide +kernel) (by decide +kernel)
theorem ks_X9_keepWeek : Cond.selects RX9 yX9_keepWeek yX9_keepWeek ∈ GW := gw_sl (q := (yX9_keepWeek, 17)) 50 (by decide +kernel) (by decide +kernel)
theorem cX9_282 : aCv RX9 282 9 mX9_keepWeek 1 := ⟨⟨kc_X9_keepWeek, kl_X9_282, kn_X9, ⟨by decide +kernel, by decide +kernel, by decide +kernel⟩, by decide⟩, ki_X9_keepWeek, ks_X9_keepWeek, TX9, 17, rfl⟩
theorem kl_X9_299 : Cond.methodLink RX9 299 yX9_keep ∈ GW := gw_of 907 (by decide +kernel) (by decide +kernel)
theorem kc_X9_keep : Cond.code mX9_keep.1 mX9_keep.2.1 mX9_keep.2.2.1 mX9_keep.2.2.2 ∈ GW := gw_of 910 (by decide +kernel) (by decide +kernel)
theorem ki_X9_keep : Cond.instanceMethod yX9_keep ∈ GW := gw_of 909 (by decide +kernel) (by decide +kernel)
theorem ks_X9_keep : Cond.selects RX9 yX9_keep yX9_keep ∈ GW := gw_sl (q := (yX9_keep, 17)) 51 (by decide +kernel) (by decide +kernel)
theorem cX9_299 : aCv RX9 299 9 mX9_keep 1 := ⟨⟨kc_X9_keep, kl_X9_299, kn_X9, ⟨by decide +kernel, by decide +kernel, by decide +kernel⟩, by decide⟩, ki_X9_keep, ks_X9_keep, TX9, 17, rfl⟩
theorem kl_X9_315 : Cond.methodLink RX9 315 yX2_put ∈ GW := gw_of 911 (by decide +kernel) (by decide +kernel)
theorem kc_X2_put : Cond.code mX2_put.1 mX2_put.2.1 mX2_put.2.2.1 mX2_put.2.2.2 ∈ GW := gw_of 914 (by decide +kernel) (by decide +kernel)
theorem kn_X2 : Cond.initialized RX2 ∈ GW := gw_of 7 (by decide +kernel) (by decide +kernel)
theorem ki_X2_put : Cond.instanceMethod yX2_put ∈ GW := gw_of 912 (by decide +kernel) (by decide +kernel)
theorem ks_X2_put : Cond.selects RX2 yX2_put yX2_put ∈ GW := gw_of 913 (by decide +kernel) (by decide +kernel)
theorem cX9_315 : aCv RX9 315 2 mX2_put 3 := ⟨⟨kc_X2_put, kl_X9_315, kn_X2, ⟨by decide +kernel, by decide +kernel, by decide +kernel⟩, by decide⟩, ki_X2_put, ks_X2_put, TX2, 1, rfl⟩
theorem kl_X9_289 : Cond.methodLink RX9 289 yX9_draw ∈ GW := gw_of 919 (by decide +kernel) (by decide +kernel)
theorem kc_X9_draw : Cond.code mX9_draw.1 mX9_draw.2.1 mX9_draw.2.2.1 mX9_draw.2.2.2 ∈ GW := gw_of 922 (by decide +kernel) (by decide +kernel)
theorem ki_X9_draw : Cond.instanceMethod yX9_draw ∈ GW := gw_of 921 (by decide +kernel) (by decide +kernel)
theorem ks_X9_draw : Cond.selects RX9 yX9_draw yX9_draw ∈ GW := gw_sl (q := (yX9_draw, 17)) 52 (by decide +kernel) (by decide +kernel)
theorem cX9_289 : aCv RX9 289 9 mX9_draw 1 := ⟨⟨kc_X9_draw, kl_X9_289, kn_X9, ⟨by decide +kernel, by decide +kernel, by decide +kernel⟩, by decide⟩, ki_X9_draw, ks_X9_draw, TX9, 17, rfl⟩
theorem kl_X9_295 : Cond.methodLink RX9 295 yX6_preach ∈ GW := gw_of 931 (by decide +kernel) (by decide +kernel)
theorem cX9_295 : aCv RX9 295 6 mX6_preach 4 := ⟨⟨kc_X6_preach, kl_X9_295, kn_X6, ⟨by decide +kernel, by decide +kernel, by decide +kernel⟩, by decide⟩, ki_X6_preach, ks_X6_preach, TX6, 9, rfl⟩
theorem kl_X9_302 : Cond.methodLink RX9 302 yX5_zincTold ∈ GW := gw_of 940 (by decide +kernel) (by decide +kernel)
theorem cX9_302 : aCv RX9 302 5 mX5_zincTold 1 := ⟨⟨kc_X5_zincTold, kl_X9_302, kn_X5, ⟨by decide +kernel, by decide +kernel, by decide +kernel⟩, by decide⟩, ki_X5_zincTold, ks_X5_zincTold, TX5, 11, rfl⟩
theorem kl_X9_305 : Cond.methodLink RX9 305 yX0_back ∈ GW := gw_of 949 (by decide +kernel) (by decide +kernel)
theorem kc_X0_back : Cond.code mX0_back.1 mX0_back.2.1 mX0_back.2.2.1 mX0_back.2.2.2 ∈ GW := gw_of 952 (by decide +kernel) (by decide +kernel)
theorem ki_X0_back : Cond.instanceMethod yX0_back ∈ GW := gw_of 950 (by decide +kernel) (by decide +kernel)
theorem ks_X0_back : Cond.selects RX0 yX0_back yX0_back ∈ GW := gw_of 951 (by decide +kernel) (by decide +kernel)
theorem cX9_305 : aCv RX9 305 0 mX0_back 1 := ⟨⟨kc_X0_back, kl_X9_305, kn_X0, ⟨by decide +kernel, by decide +kernel, by decide +kernel⟩, by decide⟩, ki_X0_back, ks_X0_back, TX0, 3, rfl⟩
theorem kl_X9_309 : Cond.methodLink RX9 309 yX2_tell ∈ GW := gw_of 961 (by decide +kernel) (by decide +kernel)
theorem kc_X2_tell : Cond.code mX2_tell.1 mX2_tell.2.1 mX2_tell.2.2.1 mX2_tell.2.2.2 ∈ GW := gw_of 964 (by decide +kernel) (by decide +kernel)
theorem ki_X2_tell : Cond.instanceMethod yX2_tell ∈ GW := gw_of 962 (by decide +kernel) (by decide +kernel)
theorem ks_X2_tell : Cond.selects RX2 yX2_tell yX2_tell ∈ GW := gw_of 963 (by decide +kernel) (by decide +kernel)
theorem cX9_309 : aCv RX9 309 2 mX2_tell 2 := ⟨⟨kc_X2_tell, kl_X9_309, kn_X2, ⟨by decide +kernel, by decide +kernel, by decide +kernel⟩, by decide⟩, ki_X2_tell, ks_X2_tell, TX2, 1, rfl⟩
theorem kl_X9_327 : Cond.methodLink RX9 327 yX9_isImage ∈ GW := gw_of 977 (by decide +kernel) (by decide +kernel)
theorem kc_X9_isImage : Cond.code mX9_isImage.1 mX9_isImage.2.1 mX9_isImage.2.2.1 mX9_isImage.2.2.2 ∈ GW := gw_of 980 (by decide +kernel) (by decide +kernel)
theorem ki_X9_isImage : Cond.instanceMethod yX9_isImage ∈ GW := gw_of 979 (by decide +kernel) (by decide +kernel)
theorem ks_X9_isImage : Cond.selects RX9 yX9_isImage yX9_isImage ∈ GW := gw_sl (q := (yX9_isImage, 17)) 53 (by decide +kernel) (by decide +kernel)
theorem cX9_327 : aCv RX9 327 9 mX9_isImage 1 := ⟨⟨kc_X9_isImage, kl_X9_327, kn_X9, ⟨by decide +kernel, by decide +kernel, by decide +kernel⟩, by decide⟩, ki_X9_isImage, ks_X9_isImage, TX9, 17, rfl⟩
theorem kl_X9_330 : Cond.methodLink RX9 330 yX9_tapeByte ∈ GW := gw_of 981 (by decide +kernel) (by decide +kernel)
theorem kc_X9_tapeByte : Cond.code mX9_tapeByte.1 mX9_tapeByte.2.1 mX9_tapeByte.2.2.1 mX9_tapeByte.2.2.2 ∈ GW := gw_of 984 (by decide +kernel) (by decide +kernel)
theorem ki_X9_tapeByte : Cond.instanceMethod yX9_tapeByte ∈ GW := gw_of 983 (by decide +kernel) (by decide +kernel)
theorem ks_X9_tapeByte : Cond.selects RX9 yX9_tapeByte yX9_tapeByte ∈ GW := gw_sl (q := (yX9_tapeByte, 17)) 54 (by decide +kernel) (by decide +kernel)
theorem cX9_330 : aCv RX9 330 9 mX9_tapeByte 1 := ⟨⟨kc_X9_tapeByte, kl_X9_330, kn_X9, ⟨by decide +kernel, by decide +kernel, by decide +kernel⟩, by decide⟩, ki_X9_tapeByte, ks_X9_tapeByte, TX9, 17, rfl⟩
theorem kl_X9_333 : Cond.methodLink RX9 333 yX9_imageMost ∈ GW := gw_of 985 (by decide +kernel) (by decide +kernel)
theorem kc_X9_imageMost : Cond.code mX9_imageMost.1 mX9_imageMost.2.1 mX9_imageMost.2.2.1 mX9_imageMost.2.2.2 ∈ GW := gw_of 988 (by decide +kernel) (by decide +kernel)
theorem ki_X9_imageMost : Cond.instanceMethod yX9_imageMost ∈ GW := gw_of 987 (by decide +kernel) (by decide +kernel)
theorem ks_X9_imageMost : Cond.selects RX9 yX9_imageMost yX9_imageMost ∈ GW := gw_sl (q := (yX9_imageMost, 17)) 55 (by decide +kernel) (by decide +kernel)
theorem cX9_333 : aCv RX9 333 9 mX9_imageMost 3 := ⟨⟨kc_X9_imageMost, kl_X9_333, kn_X9, ⟨by decide +kernel, by decide +kernel, by decide +kernel⟩, by decide⟩, ki_X9_imageMost, ks_X9_imageMost, TX9, 17, rfl⟩
theorem kl_X10_1 : Cond.methodLink RX10 1 Lib.objectInit ∈ GW := gw_of 998 (by decide +kernel) (by decide +kernel)
theorem kl_X10_222 : Cond.methodLink RX10 222 yX10_refuses ∈ GW := gw_of 1213 (by decide +kernel) (by decide +kernel)
theorem kc_X10_refuses : Cond.code mX10_refuses.1 mX10_refuses.2.1 mX10_refuses.2.2.1 mX10_refuses.2.2.2 ∈ GW := gw_of 1216 (by decide +kernel) (by decide +kernel)
theorem kn_X10 : Cond.initialized RX10 ∈ GW := gw_of 11 (by decide +kernel) (by decide +kernel)
theorem ki_X10_refuses : Cond.instanceMethod yX10_refuses ∈ GW := gw_of 1215 (by decide +kernel) (by decide +kernel)
theorem ks_X10_refuses : Cond.selects RX10 yX10_refuses yX10_refuses ∈ GW := gw_sl (q := (yX10_refuses, 69)) 56 (by decide +kernel) (by decide +kernel)
theorem cX10_222 : aCv RX10 222 10 mX10_refuses 1 := ⟨⟨kc_X10_refuses, kl_X10_222, kn_X10, ⟨by decide +kernel, by decide +kernel, by decide +kernel⟩, by decide⟩, ki_X10_refuses, ks_X10_refuses, TX10, 69, rfl⟩
theorem kl_X10_226 : Cond.methodLink RX10 226 yX10_put ∈ GW := gw_of 1217 (by decide +kernel) (by decide +kernel)
theorem kc_X10_put : Cond.code mX10_put.1 mX10_put.2.1 mX10_put.2.2.1 mX10_put.2.2.2 ∈ GW := gw_of 1220 (by decide +kernel) (by decide +kernel)
theorem ki_X10_put : Cond.instanceMethod yX10_put ∈ GW := gw_of 1219 (by decide +kernel) (by decide +kernel)
theorem ks_X10_put : Cond.selects RX10 yX10_put yX10_put ∈ GW := gw_sl (q := (yX10_put, 69)) 57 (by decide +kernel) (by decide +kernel)
theorem cX10_226 : aCv RX10 226 10 mX10_put 1 := ⟨⟨kc_X10_put, kl_X10_226, kn_X10, ⟨by decide +kernel, by decide +kernel, by decide +kernel⟩, by decide⟩, ki_X10_put, ks_X10_put, TX10, 69, rfl⟩
theorem kl_X10_247 : Cond.methodLink RX10 247 yX10_ahead ∈ GW := gw_of 1229 (by decide +kernel) (by decide +kernel)
theorem kc_X10_ahead : Cond.code mX10_ahead.1 mX10_ahead.2.1 mX10_ahead.2.2.1 mX10_ahead.2.2.2 ∈ GW := gw_of 1232 (by decide +kernel) (by decide +kernel)
theorem ki_X10_ahead : Cond.instanceMethod yX10_ahead ∈ GW := gw_of 1231 (by decide +kernel) (by decide +kernel)
theorem ks_X10_ahead : Cond.selects RX10 yX10_ahead yX10_ahead ∈ GW := gw_sl (q := (yX10_ahead, 69)) 58 (by decide +kernel) (by decide +kernel)
theorem cX10_247 : aCv RX10 247 10 mX10_ahead 0 := ⟨⟨kc_X10_ahead, kl_X10_247, kn_X10, ⟨by decide +kernel, by decide +kernel, by decide +kernel⟩, by decide⟩, ki_X10_ahead, ks_X10_ahead, TX10, 69, rfl⟩
theorem kl_X10_234 : Cond.methodLink RX10 234 yX10_isLetter ∈ GW := gw_of 1233 (by decide +kernel) (by decide +kernel)
theorem kc_X10_isLetter : Cond.code mX10_isLetter.1 mX10_isLetter.2.1 mX10_isLetter.2.2.1 mX10_isLetter.2.2.2 ∈ GW := gw_of 1235 (by decide +kernel) (by decide +kernel)
theorem kt_X10_isLetter : Cond.static yX10_isLetter ∈ GW := gw_of 1234 (by decide +kernel) (by decide +kernel)
theorem cX10_234 : aCs RX10 234 mX10_isLetter 1 := ⟨⟨kc_X10_isLetter, kl_X10_234, kn_X10, ⟨by decide +kernel, by decide +kernel, by decide +kernel⟩, by decide⟩, kt_X10_isLetter⟩
theorem kl_X10_238 : Cond.methodLink RX10 238 yX10_isDigit ∈ GW := gw_of 1236 (by decide +kernel) (by decide +kernel)
theorem kc_X10_isDigit : Cond.code mX10_isDigit.1 mX10_isDigit.2.1 mX10_isDigit.2.2.1 mX10_isDigit.2.2.2 ∈ GW := gw_of 1238 (by decide +kernel) (by decide +kernel)
theorem kt_X10_isDigit : Cond.static yX10_isDigit ∈ GW := gw_of 1237 (by decide +kernel) (by decide +kernel)
theorem cX10_238 : aCs RX10 238 mX10_isDigit 1 := ⟨⟨kc_X10_isDigit, kl_X10_238, kn_X10, ⟨by decide +kernel, by decide +kernel, by decide +kernel⟩, by decide⟩, kt_X10_isDigit⟩
theorem kl_X10_393 : Cond.methodLink RX10 393 yX10_statement ∈ GW := gw_of 1239 (by decide +kernel) (by decide +kernel)
theorem kc_X10_statement : Cond.code mX10_statement.1 mX10_statement.2.1 mX10_statement.2.2.1 mX10_statement.2.2.2 ∈ GW := gw_of 1242 (by decide +kernel) (by decide +kernel)
theorem ki_X10_statement : Cond.instanceMethod yX10_statement ∈ GW := gw_of 1241 (by decide +kernel) (by decide +kernel)
theorem ks_X10_statement : Cond.selects RX10 yX10_statement yX10_statement ∈ GW := gw_sl (q := (yX10_statement, 69)) 59 (by decide +kernel) (by decide +kernel)
theorem cX10_393 : aCv RX10 393 10 mX10_statement 0 := ⟨⟨kc_X10_statement, kl_X10_393, kn_X10, ⟨by decide +kernel, by decide +kernel, by decide +kernel⟩, by decide⟩, ki_X10_statement, ks_X10_statement, TX10, 69, rfl⟩
theorem kl_X10_241 : Cond.methodLink RX10 241 yX10_lex ∈ GW := gw_of 1243 (by decide +kernel) (by decide +kernel)
theorem kc_X10_lex : Cond.code mX10_lex.1 mX10_lex.2.1 mX10_lex.2.2.1 mX10_lex.2.2.2 ∈ GW := gw_of 1246 (by decide +kernel) (by decide +kernel)
theorem ki_X10_lex : Cond.instanceMethod yX10_lex ∈ GW := gw_of 1245 (by decide +kernel) (by decide +kernel)
theorem ks_X10_lex : Cond.selects RX10 yX10_lex yX10_lex ∈ GW := gw_sl (q := (yX10_lex, 69)) 60 (by decide +kernel) (by decide +kernel)
theorem cX10_241 : aCv RX10 241 10 mX10_lex 0 := ⟨⟨kc_X10_lex, kl_X10_241, kn_X10, ⟨by decide +kernel, by decide +kernel, by decide +kernel⟩, by decide⟩, ki_X10_lex, ks_X10_lex, TX10, 69, rfl⟩
theorem kl_X10_230 : Cond.methodLink RX10 230 yX10_blame ∈ GW := gw_of 1247 (by decide +kernel) (by decide +kernel)
theorem kc_X10_blame : Cond.code mX10_blame.1 mX10_blame.2.1 mX10_blame.2.2.1 mX10_blame.2.2.2 ∈ GW := gw_of 1250 (by decide +kernel) (by decide +kernel)
theorem ki_X10_blame : Cond.instanceMethod yX10_blame ∈ GW := gw_of 1249 (by decide +kernel) (by decide +kernel)
theorem ks_X10_blame : Cond.selects RX10 yX10_blame yX10_blame ∈ GW := gw_sl (q := (yX10_blame, 69)) 61 (by decide +kernel) (by decide +kernel)
theorem cX10_230 : aCv RX10 230 10 mX10_blame 2 := ⟨⟨kc_X10_blame, kl_X10_230, kn_X10, ⟨by decide +kernel, by decide +kernel, by decide +kernel⟩, by decide⟩, ki_X10_blame, ks_X10_blame, TX10, 69, rfl⟩
theorem kl_X10_328 : Cond.methodLink RX10 328 yX10_isWord ∈ GW := gw_of 1252 (by decide +kernel) (by decide +kernel)
theorem kc_X10_isWord : Cond.code mX10_isWord.1 mX10_isWord.2.1 mX10_isWord.2.2.1 mX10_isWord.2.2.2 ∈ GW := gw_of 1255 (by decide +kernel) (by decide +kernel)
theorem ki_X10_isWord : Cond.instanceMethod yX10_isWord ∈ GW := gw_of 1254 (by decide +kernel) (by decide +kernel)
theorem ks_X10_isWord : Cond.selects RX10 yX10_isWord yX10_isWord ∈ GW := gw_sl (q := (yX10_isWord, 69)) 62 (by decide +kernel) (by decide +kernel)
theorem cX10_328 : aCv RX10 328 10 mX10_isWord 1 := ⟨⟨kc_X10_isWord, kl_X10_328, kn_X10, ⟨by decide +kernel, by decide +kernel, by decide +kernel⟩, by decide⟩, ki_X10_isWord, ks_X10_isWord, TX10, 69, rfl⟩
theorem kl_X10_373 : Cond.methodLink RX10 373 yX10_boarding ∈ GW := gw_of 1256 (by decide +kernel) (by decide +kernel)
theorem kc_X10_boarding : Cond.code mX10_boarding.1 mX10_boarding.2.1 mX10_boarding.2.2.1 mX10_boarding.2.2.2 ∈ GW := gw_of 1259 (by decide +kernel) (by decide +kernel)
theorem ki_X10_boarding : Cond.instanceMethod yX10_boarding ∈ GW := gw_of 1258 (by decide +kernel) (by decide +kernel)
theorem ks_X10_boarding : Cond.selects RX10 yX10_boarding yX10_boarding ∈ GW := gw_sl (q := (yX10_boarding, 69)) 63 (by decide +kernel) (by decide +kernel)
theorem cX10_373 : aCv RX10 373 10 mX10_boarding 0 := ⟨⟨kc_X10_boarding, kl_X10_373, kn_X10, ⟨by decide +kernel, by decide +kernel, by decide +kernel⟩, by decide⟩, ki_X10_boarding, ks_X10_boarding, TX10, 69, rfl⟩
theorem kl_X10_354 : Cond.methodLink RX10 354 yX10_counts ∈ GW := gw_of 1260 (by decide +kernel) (by decide +kernel)
theorem kc_X10_counts : Cond.code mX10_counts.1 mX10_counts.2.1 mX10_counts.2.2.1 mX10_counts.2.2.2 ∈ GW := gw_of 1263 (by decide +kernel) (by decide +kernel)
theorem ki_X10_counts : Cond.instanceMethod yX10_counts ∈ GW := gw_of 1262 (by decide +kernel) (by decide +kernel)
theorem ks_X10_counts : Cond.selects RX10 yX10_counts yX10_counts ∈ GW := gw_sl (q := (yX10_counts, 69)) 64 (by decide +kernel) (by decide +kernel)
theorem cX10_354 : aCv RX10 354 10 mX10_counts 1 := ⟨⟨kc_X10_counts, kl_X10_354, kn_X10, ⟨by decide +kernel, by decide +kernel, by decide +kernel⟩, by decide⟩, ki_X10_counts, ks_X10_counts, TX10, 69, rfl⟩
theorem kl_X10_358 : Cond.methodLink RX10 358 yX10_fresh ∈ GW := gw_of 1264 (by decide +kernel) (by decide +kernel)
theorem kc_X10_fresh : Cond.code mX10_fresh.1 mX10_fresh.2.1 mX10_fresh.2.2.1 mX10_fresh.2.2.2 ∈ GW := gw_of 1267 (by decide +kernel) (by decide +kernel)
theorem ki_X10_fresh : Cond.instanceMethod yX10_fresh ∈ GW := gw_of 1266 (by decide +kernel) (by decide +kernel)
theorem ks_X10_fresh : Cond.selects RX10 yX10_fresh yX10_fresh ∈ GW := gw_sl (q := (yX10_fresh, 69)) 65 (by decide +kernel) (by decide +kernel)
theorem cX10_358 : aCv RX10 358 10 mX10_fresh 0 := ⟨⟨kc_X10_fresh, kl_X10_358, kn_X10, ⟨by decide +kernel, by decide +kernel, by decide +kernel⟩, by decide⟩, ki_X10_fresh, ks_X10_fresh, TX10, 69, rfl⟩
theorem kl_X10_347 : Cond.methodLink RX10 347 yX10_isOwn ∈ GW := gw_of 1268 (by decide +kernel) (by decide +kernel)
theorem kc_X10_isOwn : Cond.code mX10_isOwn.1 mX10_isOwn.2.1 mX10_isOwn.2.2.1 mX10_isOwn.2.2.2 ∈ GW := gw_of 1271 (by decide +kernel) (by decide +kernel)
theorem ki_X10_isOwn : Cond.instanceMethod yX10_isOwn ∈ GW := gw_of 1270 (by decide +kernel) (by decide +kernel)
theorem ks_X10_isOwn : Cond.selects RX10 yX10_isOwn yX10_isOwn ∈ GW := gw_sl (q := (yX10_isOwn, 69)) 66 (by decide +kernel) (by decide +kernel)
theorem cX10_347 : aCv RX10 347 10 mX10_isOwn 1 := ⟨⟨kc_X10_isOwn, kl_X10_347, kn_X10, ⟨by decide +kernel, by decide +kernel, by decide +kernel⟩, by decide⟩, ki_X10_isOwn, ks_X10_isOwn, TX10, 69, rfl⟩
theorem kl_X10_350 : Cond.methodLink RX10 350 yX10_named ∈ GW := gw_of 1298 (by decide +kernel) (by decide +kernel)
theorem kc_X10_named : Cond.code mX10_named.1 mX10_named.2.1 mX10_named.2.2.1 mX10_named.2.2.2 ∈ GW := gw_of 1301 (by decide +kernel) (by decide +kernel)
theorem ki_X10_named : Cond.instanceMethod yX10_named ∈ GW := gw_of 1300 (by decide +kernel) (by decide +kernel)
theorem ks_X10_named : Cond.selects RX10 yX10_named yX10_named ∈ GW := gw_sl (q := (yX10_named, 69)) 67 (by decide +kernel) (by decide +kernel)
theorem cX10_350 : aCv RX10 350 10 mX10_named 2 := ⟨⟨kc_X10_named, kl_X10_350, kn_X10, ⟨by decide +kernel, by decide +kernel, by decide +kernel⟩, by decide⟩, ki_X10_named, ks_X10_named, TX10, 69, rfl⟩
theorem kl_X10_304 : Cond.methodLink RX10 304 yX10_manyOf ∈ GW := gw_of 1302 (by decide +kernel) (by decide +kernel)
theorem kc_X10_manyOf : Cond.code mX10_manyOf.1 mX10_manyOf.2.1 mX10_manyOf.2.2.1 mX10_manyOf.2.2.2 ∈ GW := gw_of 1305 (by decide +kernel) (by decide +kernel)
theorem ki_X10_manyOf : Cond.instanceMethod yX10_manyOf ∈ GW := gw_of 1304 (by decide +kernel) (by decide +kernel)
theorem ks_X10_manyOf : Cond.selects RX10 yX10_manyOf yX10_manyOf ∈ GW := gw_sl (q := (yX10_manyOf, 69)) 68 (by decide +kernel) (by decide +kernel)
theorem cX10_304 : aCv RX10 304 10 mX10_manyOf 2 := ⟨⟨kc_X10_manyOf, kl_X10_304, kn_X10, ⟨by decide +kernel, by decide +kernel, by decide +kernel⟩, by decide⟩, ki_X10_manyOf, ks_X10_manyOf, TX10, 69, rfl⟩
theorem kl_X10_308 : Cond.methodLink RX10 308 yX10_nameOf ∈ GW := gw_of 1306 (by decide +kernel) (by decide +kernel)
theorem kc_X10_nameOf : Cond.code mX10_nameOf.1 mX10_nameOf.2.1 mX10_nameOf.2.2.1 mX10_nameOf.2.2.2 ∈ GW := gw_of 1309 (by decide +kernel) (by decide +kernel)
theorem ki_X10_nameOf : Cond.instanceMethod yX10_nameOf ∈ GW := gw_of 1308 (by decide +kernel) (by decide +kernel)
theorem ks_X10_nameOf : Cond.selects RX10 yX10_nameOf yX10_nameOf ∈ GW := gw_sl (q := (yX10_nameOf, 69)) 69 (by decide +kernel) (by decide +kernel)
theorem cX10_308 : aCv RX10 308 10 mX10_nameOf 3 := ⟨⟨kc_X10_nameOf, kl_X10_308, kn_X10, ⟨by decide +kernel, by decide +kernel, by decide +kernel⟩, by decide⟩, ki_X10_nameOf, ks_X10_nameOf, TX10, 69, rfl⟩
theorem kl_X10_362 : Cond.methodLink RX10 362 yX10_must_ ∈ GW := gw_of 1310 (by decide +kernel) (by decide +kernel)
theorem kc_X10_must_ : Cond.code mX10_must_.1 mX10_must_.2.1 mX10_must_.2.2.1 mX10_must_.2.2.2 ∈ GW := gw_of 1313 (by decide +kernel) (by decide +kernel)
theorem ki_X10_must_ : Cond.instanceMethod yX10_must_ ∈ GW := gw_of 1312 (by decide +kernel) (by decide +kernel)
theorem ks_X10_must_ : Cond.selects RX10 yX10_must_ yX10_must_ ∈ GW := gw_sl (q := (yX10_must_, 69)) 70 (by decide +kernel) (by decide +kernel)
theorem cX10_362 : aCv RX10 362 10 mX10_must_ 1 := ⟨⟨kc_X10_must_, kl_X10_362, kn_X10, ⟨by decide +kernel, by decide +kernel, by decide +kernel⟩, by decide⟩, ki_X10_must_, ks_X10_must_, TX10, 69, rfl⟩
theorem kl_X10_366 : Cond.methodLink RX10 366 yX10_number ∈ GW := gw_of 1314 (by decide +kernel) (by decide +kernel)
theorem kc_X10_number : Cond.code mX10_number.1 mX10_number.2.1 mX10_number.2.2.1 mX10_number.2.2.2 ∈ GW := gw_of 1317 (by decide +kernel) (by decide +kernel)
theorem ki_X10_number : Cond.instanceMethod yX10_number ∈ GW := gw_of 1316 (by decide +kernel) (by decide +kernel)
theorem ks_X10_number : Cond.selects RX10 yX10_number yX10_number ∈ GW := gw_sl (q := (yX10_number, 69)) 71 (by decide +kernel) (by decide +kernel)
theorem cX10_366 : aCv RX10 366 10 mX10_number 2 := ⟨⟨kc_X10_number, kl_X10_366, kn_X10, ⟨by decide +kernel, by decide +kernel, by decide +kernel⟩, by decide⟩, ki_X10_number, ks_X10_number, TX10, 69, rfl⟩
theorem kl_X10_312 : Cond.methodLink RX10 312 yX10_is ∈ GW := gw_of 1318 (by decide +kernel) (by decide +kernel)
theorem kc_X10_is : Cond.code mX10_is.1 mX10_is.2.1 mX10_is.2.2.1 mX10_is.2.2.2 ∈ GW := gw_of 1320 (by decide +kernel) (by decide +kernel)
theorem kt_X10_is : Cond.static yX10_is ∈ GW := gw_of 1319 (by decide +kernel) (by decide +kernel)
theorem cX10_312 : aCs RX10 312 mX10_is 3 := ⟨⟨kc_X10_is, kl_X10_312, kn_X10, ⟨by decide +kernel, by decide +kernel, by decide +kernel⟩, by decide⟩, kt_X10_is⟩
theorem kl_X10_376 : Cond.methodLink RX10 376 yX10_staining ∈ GW := gw_of 1321 (by decide +kernel) (by decide +kernel)
theorem kc_X10_staining : Cond.code mX10_staining.1 mX10_staining.2.1 mX10_staining.2.2.1 mX10_staining.2.2.2 ∈ GW := gw_of 1324 (by decide +kernel) (by decide +kernel)
theorem ki_X10_staining : Cond.instanceMethod yX10_staining ∈ GW := gw_of 1323 (by decide +kernel) (by decide +kernel)
theorem ks_X10_staining : Cond.selects RX10 yX10_staining yX10_staining ∈ GW := gw_sl (q := (yX10_staining, 69)) 72 (by decide +kernel) (by decide +kernel)
theorem cX10_376 : aCv RX10 376 10 mX10_staining 0 := ⟨⟨kc_X10_staining, kl_X10_376, kn_X10, ⟨by decide +kernel, by decide +kernel, by decide +kernel⟩, by decide⟩, ki_X10_staining, ks_X10_staining, TX10, 69, rfl⟩
theorem kl_X10_379 : Cond.methodLink RX10 379 yX10_hearing ∈ GW := gw_of 1325 (by decide +kernel) (by decide +kernel)
theorem kc_X10_hearing : Cond.code mX10_hearing.1 mX10_hearing.2.1 mX10_hearing.2.2.1 mX10_hearing.2.2.2 ∈ GW := gw_of 1328 (by decide +kernel) (by decide +kernel)
theorem ki_X10_hearing : Cond.instanceMethod yX10_hearing ∈ GW := gw_of 1327 (by decide +kernel) (by decide +kernel)
theorem ks_X10_hearing : Cond.selects RX10 yX10_hearing yX10_hearing ∈ GW := gw_sl (q := (yX10_hearing, 69)) 73 (by decide +kernel) (by decide +kernel)
theorem cX10_379 : aCv RX10 379 10 mX10_hearing 0 := ⟨⟨kc_X10_hearing, kl_X10_379, kn_X10, ⟨by decide +kernel, by decide +kernel, by decide +kernel⟩, by decide⟩, ki_X10_hearing, ks_X10_hearing, TX10, 69, rfl⟩
theorem kl_X10_382 : Cond.methodLink RX10 382 yX10_reading ∈ GW := gw_of 1329 (by decide +kernel) (by decide +kernel)
theorem kc_X10_reading : Cond.code mX10_reading.1 mX10_reading.2.1 mX10_reading.2.2.1 mX10_reading.2.2.2 ∈ GW := gw_of 1332 (by decide +kernel) (by decide +kernel)
theorem ki_X10_reading : Cond.instanceMethod yX10_reading ∈ GW := gw_of 1331 (by decide +kernel) (by decide +kernel)
theorem ks_X10_reading : Cond.selects RX10 yX10_reading yX10_reading ∈ GW := gw_sl (q := (yX10_reading, 69)) 74 (by decide +kernel) (by decide +kernel)
theorem cX10_382 : aCv RX10 382 10 mX10_reading 1 := ⟨⟨kc_X10_reading, kl_X10_382, kn_X10, ⟨by decide +kernel, by decide +kernel, by decide +kernel⟩, by decide⟩, ki_X10_reading, ks_X10_reading, TX10, 69, rfl⟩
theorem kl_X10_369 : Cond.methodLink RX10 369 yX10_reads ∈ GW := gw_of 1333 (by decide +kernel) (by decide +kernel)
theorem kc_X10_reads : Cond.code mX10_reads.1 mX10_reads.2.1 mX10_reads.2.2.1 mX10_reads.2.2.2 ∈ GW := gw_of 1336 (by decide +kernel) (by decide +kernel)
theorem ki_X10_reads : Cond.instanceMethod yX10_reads ∈ GW := gw_of 1335 (by decide +kernel) (by decide +kernel)
theorem ks_X10_reads : Cond.selects RX10 yX10_reads yX10_reads ∈ GW := gw_sl (q := (yX10_reads, 69)) 75 (by decide +kernel) (by decide +kernel)
theorem cX10_369 : aCv RX10 369 10 mX10_reads 1 := ⟨⟨kc_X10_reads, kl_X10_369, kn_X10, ⟨by decide +kernel, by decide +kernel, by decide +kernel⟩, by decide⟩, ki_X10_reads, ks_X10_reads, TX10, 69, rfl⟩
theorem kl_X10_322 : Cond.methodLink RX10 322 yX10_pushes ∈ GW := gw_of 1337 (by decide +kernel) (by decide +kernel)
theorem kc_X10_pushes : Cond.code mX10_pushes.1 mX10_pushes.2.1 mX10_pushes.2.2.1 mX10_pushes.2.2.2 ∈ GW := gw_of 1340 (by decide +kernel) (by decide +kernel)
theorem ki_X10_pushes : Cond.instanceMethod yX10_pushes ∈ GW := gw_of 1339 (by decide +kernel) (by decide +kernel)
theorem ks_X10_pushes : Cond.selects RX10 yX10_pushes yX10_pushes ∈ GW := gw_sl (q := (yX10_pushes, 69)) 76 (by decide +kernel) (by decide +kernel)
theorem cX10_322 : aCv RX10 322 10 mX10_pushes 1 := ⟨⟨kc_X10_pushes, kl_X10_322, kn_X10, ⟨by decide +kernel, by decide +kernel, by decide +kernel⟩, by decide⟩, ki_X10_pushes, ks_X10_pushes, TX10, 69, rfl⟩
theorem kl_X10_341 : Cond.methodLink RX10 341 yX10_operand ∈ GW := gw_of 1341 (by decide +kernel) (by decide +kernel)
theorem kc_X10_operand : Cond.code mX10_operand.1 mX10_operand.2.1 mX10_operand.2.2.1 mX10_operand.2.2.2 ∈ GW := gw_of 1344 (by decide +kernel) (by decide +kernel)
theorem ki_X10_operand : Cond.instanceMethod yX10_operand ∈ GW := gw_of 1343 (by decide +kernel) (by decide +kernel)
theorem ks_X10_operand : Cond.selects RX10 yX10_operand yX10_operand ∈ GW := gw_sl (q := (yX10_operand, 69)) 77 (by decide +kernel) (by decide +kernel)
theorem cX10_341 : aCv RX10 341 10 mX10_operand 0 := ⟨⟨kc_X10_operand, kl_X10_341, kn_X10, ⟨by decide +kernel, by decide +kernel, by decide +kernel⟩, by decide⟩, ki_X10_operand, ks_X10_operand, TX10, 69, rfl⟩
theorem kl_X10_325 : Cond.methodLink RX10 325 yX10_isTest ∈ GW := gw_of 1345 (by decide +kernel) (by decide +kernel)
theorem kc_X10_isTest : Cond.code mX10_isTest.1 mX10_isTest.2.1 mX10_isTest.2.2.1 mX10_isTest.2.2.2 ∈ GW := gw_of 1347 (by decide +kernel) (by decide +kernel)
theorem kt_X10_isTest : Cond.static yX10_isTest ∈ GW := gw_of 1346 (by decide +kernel) (by decide +kernel)
theorem cX10_325 : aCs RX10 325 mX10_isTest 1 := ⟨⟨kc_X10_isTest, kl_X10_325, kn_X10, ⟨by decide +kernel, by decide +kernel, by decide +kernel⟩, by decide⟩, kt_X10_isTest⟩
theorem kl_X10_332 : Cond.methodLink RX10 332 yX10_holdsBack ∈ GW := gw_of 1348 (by decide +kernel) (by decide +kernel)
theorem kc_X10_holdsBack : Cond.code mX10_holdsBack.1 mX10_holdsBack.2.1 mX10_holdsBack.2.2.1 mX10_holdsBack.2.2.2 ∈ GW := gw_of 1351 (by decide +kernel) (by decide +kernel)
theorem ki_X10_holdsBack : Cond.instanceMethod yX10_holdsBack ∈ GW := gw_of 1350 (by decide +kernel) (by decide +kernel)
theorem ks_X10_holdsBack : Cond.selects RX10 yX10_holdsBack yX10_holdsBack ∈ GW := gw_sl (q := (yX10_holdsBack, 69)) 78 (by decide +kernel) (by decide +kernel)
theorem cX10_332 : aCv RX10 332 10 mX10_holdsBack 1 := ⟨⟨kc_X10_holdsBack, kl_X10_332, kn_X10, ⟨by decide +kernel, by decide +kernel, by decide +kernel⟩, by decide⟩, ki_X10_holdsBack, ks_X10_holdsBack, TX10, 69, rfl⟩
theorem kl_X10_244 : Cond.methodLink RX10 244 yX10_isSign ∈ GW := gw_of 1352 (by decide +kernel) (by decide +kernel)
theorem kc_X10_isSign : Cond.code mX10_isSign.1 mX10_isSign.2.1 mX10_isSign.2.2.1 mX10_isSign.2.2.2 ∈ GW := gw_of 1355 (by decide +kernel) (by decide +kernel)
theorem ki_X10_isSign : Cond.instanceMethod yX10_isSign ∈ GW := gw_of 1354 (by decide +kernel) (by decide +kernel)
theorem ks_X10_isSign : Cond.selects RX10 yX10_isSign yX10_isSign ∈ GW := gw_sl (q := (yX10_isSign, 69)) 79 (by decide +kernel) (by decide +kernel)
theorem cX10_244 : aCv RX10 244 10 mX10_isSign 1 := ⟨⟨kc_X10_isSign, kl_X10_244, kn_X10, ⟨by decide +kernel, by decide +kernel, by decide +kernel⟩, by decide⟩, ki_X10_isSign, ks_X10_isSign, TX10, 69, rfl⟩
theorem kl_X10_335 : Cond.methodLink RX10 335 yX10_opens ∈ GW := gw_of 1356 (by decide +kernel) (by decide +kernel)
theorem kc_X10_opens : Cond.code mX10_opens.1 mX10_opens.2.1 mX10_opens.2.2.1 mX10_opens.2.2.2 ∈ GW := gw_of 1359 (by decide +kernel) (by decide +kernel)
theorem ki_X10_opens : Cond.instanceMethod yX10_opens ∈ GW := gw_of 1358 (by decide +kernel) (by decide +kernel)
theorem ks_X10_opens : Cond.selects RX10 yX10_opens yX10_opens ∈ GW := gw_sl (q := (yX10_opens, 69)) 80 (by decide +kernel) (by decide +kernel)
theorem cX10_335 : aCv RX10 335 10 mX10_opens 1 := ⟨⟨kc_X10_opens, kl_X10_335, kn_X10, ⟨by decide +kernel, by decide +kernel, by decide +kernel⟩, by decide⟩, ki_X10_opens, ks_X10_opens, TX10, 69, rfl⟩
theorem kl_X10_319 : Cond.methodLink RX10 319 yX10_add ∈ GW := gw_of 1360 (by decide +kernel) (by decide +kernel)
theorem kc_X10_add : Cond.code mX10_add.1 mX10_add.2.1 mX10_add.2.2.1 mX10_add.2.2.2 ∈ GW := gw_of 1363 (by decide +kernel) (by decide +kernel)
theorem ki_X10_add : Cond.instanceMethod yX10_add ∈ GW := gw_of 1362 (by decide +kernel) (by decide +kernel)
theorem ks_X10_add : Cond.selects RX10 yX10_add yX10_add ∈ GW := gw_sl (q := (yX10_add, 69)) 81 (by decide +kernel) (by decide +kernel)
theorem cX10_319 : aCv RX10 319 10 mX10_add 2 := ⟨⟨kc_X10_add, kl_X10_319, kn_X10, ⟨by decide +kernel, by decide +kernel, by decide +kernel⟩, by decide⟩, ki_X10_add, ks_X10_add, TX10, 69, rfl⟩
theorem kl_X10_344 : Cond.methodLink RX10 344 yX10_goesOn ∈ GW := gw_of 1364 (by decide +kernel) (by decide +kernel)
theorem kc_X10_goesOn : Cond.code mX10_goesOn.1 mX10_goesOn.2.1 mX10_goesOn.2.2.1 mX10_goesOn.2.2.2 ∈ GW := gw_of 1367 (by decide +kernel) (by decide +kernel)
theorem ki_X10_goesOn : Cond.instanceMethod yX10_goesOn ∈ GW := gw_of 1366 (by decide +kernel) (by decide +kernel)
theorem ks_X10_goesOn : Cond.selects RX10 yX10_goesOn yX10_goesOn ∈ GW := gw_sl (q := (yX10_goesOn, 69)) 82 (by decide +kernel) (by decide +kernel)
theorem cX10_344 : aCv RX10 344 10 mX10_goesOn 0 := ⟨⟨kc_X10_goesOn, kl_X10_344, kn_X10, ⟨by decide +kernel, by decide +kernel, by decide +kernel⟩, by decide⟩, ki_X10_goesOn, ks_X10_goesOn, TX10, 69, rfl⟩
theorem kl_X10_338 : Cond.methodLink RX10 338 yX10_joins ∈ GW := gw_of 1368 (by decide +kernel) (by decide +kernel)
theorem kc_X10_joins : Cond.code mX10_joins.1 mX10_joins.2.1 mX10_joins.2.2.1 mX10_joins.2.2.2 ∈ GW := gw_of 1371 (by decide +kernel) (by decide +kernel)
theorem ki_X10_joins : Cond.instanceMethod yX10_joins ∈ GW := gw_of 1370 (by decide +kernel) (by decide +kernel)
theorem ks_X10_joins : Cond.selects RX10 yX10_joins yX10_joins ∈ GW := gw_sl (q := (yX10_joins, 69)) 83 (by decide +kernel) (by decide +kernel)
theorem cX10_338 : aCv RX10 338 10 mX10_joins 1 := ⟨⟨kc_X10_joins, kl_X10_338, kn_X10, ⟨by decide +kernel, by decide +kernel, by decide +kernel⟩, by decide⟩, ki_X10_joins, ks_X10_joins, TX10, 69, rfl⟩
theorem kl_X10_316 : Cond.methodLink RX10 316 yX10_rank ∈ GW := gw_of 1372 (by decide +kernel) (by decide +kernel)
theorem kc_X10_rank : Cond.code mX10_rank.1 mX10_rank.2.1 mX10_rank.2.2.1 mX10_rank.2.2.2 ∈ GW := gw_of 1374 (by decide +kernel) (by decide +kernel)
theorem kt_X10_rank : Cond.static yX10_rank ∈ GW := gw_of 1373 (by decide +kernel) (by decide +kernel)
theorem cX10_316 : aCs RX10 316 mX10_rank 1 := ⟨⟨kc_X10_rank, kl_X10_316, kn_X10, ⟨by decide +kernel, by decide +kernel, by decide +kernel⟩, by decide⟩, kt_X10_rank⟩
theorem kl_X10_385 : Cond.methodLink RX10 385 yX10_watering ∈ GW := gw_of 1375 (by decide +kernel) (by decide +kernel)
theorem kc_X10_watering : Cond.code mX10_watering.1 mX10_watering.2.1 mX10_watering.2.2.1 mX10_watering.2.2.2 ∈ GW := gw_of 1378 (by decide +kernel) (by decide +kernel)
theorem ki_X10_watering : Cond.instanceMethod yX10_watering ∈ GW := gw_of 1377 (by decide +kernel) (by decide +kernel)
theorem ks_X10_watering : Cond.selects RX10 yX10_watering yX10_watering ∈ GW := gw_sl (q := (yX10_watering, 69)) 84 (by decide +kernel) (by decide +kernel)
theorem cX10_385 : aCv RX10 385 10 mX10_watering 0 := ⟨⟨kc_X10_watering, kl_X10_385, kn_X10, ⟨by decide +kernel, by decide +kernel, by decide +kernel⟩, by decide⟩, ki_X10_watering, ks_X10_watering, TX10, 69, rfl⟩
theorem kl_X10_388 : Cond.methodLink RX10 388 yX10_drying ∈ GW := gw_of 1379 (by decide +kernel) (by decide +kernel)
theorem kc_X10_drying : Cond.code mX10_drying.1 mX10_drying.2.1 mX10_drying.2.2.1 mX10_drying.2.2.2 ∈ GW := gw_of 1382 (by decide +kernel) (by decide +kernel)
theorem ki_X10_drying : Cond.instanceMethod yX10_drying ∈ GW := gw_of 1381 (by decide +kernel) (by decide +kernel)
theorem ks_X10_drying : Cond.selects RX10 yX10_drying yX10_drying ∈ GW := gw_sl (q := (yX10_drying, 69)) 85 (by decide +kernel) (by decide +kernel)
theorem cX10_388 : aCv RX10 388 10 mX10_drying 0 := ⟨⟨kc_X10_drying, kl_X10_388, kn_X10, ⟨by decide +kernel, by decide +kernel, by decide +kernel⟩, by decide⟩, ki_X10_drying, ks_X10_drying, TX10, 69, rfl⟩
theorem kl_X10_396 : Cond.methodLink RX10 396 yX10_finishes ∈ GW := gw_of 1383 (by decide +kernel) (by decide +kernel)
theorem kc_X10_finishes : Cond.code mX10_finishes.1 mX10_finishes.2.1 mX10_finishes.2.2.1 mX10_finishes.2.2.2 ∈ GW := gw_of 1386 (by decide +kernel) (by decide +kernel)
theorem ki_X10_finishes : Cond.instanceMethod yX10_finishes ∈ GW := gw_of 1385 (by decide +kernel) (by decide +kernel)
theorem ks_X10_finishes : Cond.selects RX10 yX10_finishes yX10_finishes ∈ GW := gw_sl (q := (yX10_finishes, 69)) 86 (by decide +kernel) (by decide +kernel)
theorem cX10_396 : aCv RX10 396 10 mX10_finishes 1 := ⟨⟨kc_X10_finishes, kl_X10_396, kn_X10, ⟨by decide +kernel, by decide +kernel, by decide +kernel⟩, by decide⟩, ki_X10_finishes, ks_X10_finishes, TX10, 69, rfl⟩
theorem kl_X10_391 : Cond.methodLink RX10 391 yX10_must ∈ GW := gw_of 1387 (by decide +kernel) (by decide +kernel)
theorem kc_X10_must : Cond.code mX10_must.1 mX10_must.2.1 mX10_must.2.2.1 mX10_must.2.2.2 ∈ GW := gw_of 1390 (by decide +kernel) (by decide +kernel)
theorem ki_X10_must : Cond.instanceMethod yX10_must ∈ GW := gw_of 1389 (by decide +kernel) (by decide +kernel)
theorem ks_X10_must : Cond.selects RX10 yX10_must yX10_must ∈ GW := gw_sl (q := (yX10_must, 69)) 87 (by decide +kernel) (by decide +kernel)
theorem cX10_391 : aCv RX10 391 10 mX10_must 1 := ⟨⟨kc_X10_must, kl_X10_391, kn_X10, ⟨by decide +kernel, by decide +kernel, by decide +kernel⟩, by decide⟩, ki_X10_must, ks_X10_must, TX10, 69, rfl⟩
theorem kl_X10_399 : Cond.methodLink RX10 399 yX10_begin ∈ GW := gw_of 1391 (by decide +kernel) (by decide +kernel)
theorem kc_X10_begin : Cond.code mX10_begin.1 mX10_begin.2.1 mX10_begin.2.2.1 mX10_begin.2.2.2 ∈ GW := gw_of 1394 (by decide +kernel) (by decide +kernel)
theorem ki_X10_begin : Cond.instanceMethod yX10_begin ∈ GW := gw_of 1393 (by decide +kernel) (by decide +kernel)
theorem ks_X10_begin : Cond.selects RX10 yX10_begin yX10_begin ∈ GW := gw_sl (q := (yX10_begin, 69)) 88 (by decide +kernel) (by decide +kernel)
theorem cX10_399 : aCv RX10 399 10 mX10_begin 0 := ⟨⟨kc_X10_begin, kl_X10_399, kn_X10, ⟨by decide +kernel, by decide +kernel, by decide +kernel⟩, by decide⟩, ki_X10_begin, ks_X10_begin, TX10, 69, rfl⟩
theorem kl_X10_402 : Cond.methodLink RX10 402 yX10_slot ∈ GW := gw_of 1407 (by decide +kernel) (by decide +kernel)
theorem kc_X10_slot : Cond.code mX10_slot.1 mX10_slot.2.1 mX10_slot.2.2.1 mX10_slot.2.2.2 ∈ GW := gw_of 1410 (by decide +kernel) (by decide +kernel)
theorem ki_X10_slot : Cond.instanceMethod yX10_slot ∈ GW := gw_of 1409 (by decide +kernel) (by decide +kernel)
theorem ks_X10_slot : Cond.selects RX10 yX10_slot yX10_slot ∈ GW := gw_sl (q := (yX10_slot, 69)) 89 (by decide +kernel) (by decide +kernel)
theorem cX10_402 : aCv RX10 402 10 mX10_slot 1 := ⟨⟨kc_X10_slot, kl_X10_402, kn_X10, ⟨by decide +kernel, by decide +kernel, by decide +kernel⟩, by decide⟩, ki_X10_slot, ks_X10_slot, TX10, 69, rfl⟩
theorem kl_X10_405 : Cond.methodLink RX10 405 yX10_copies ∈ GW := gw_of 1411 (by decide +kernel) (by decide +kernel)
theorem kc_X10_copies : Cond.code mX10_copies.1 mX10_copies.2.1 mX10_copies.2.2.1 mX10_copies.2.2.2 ∈ GW := gw_of 1414 (by decide +kernel) (by decide +kernel)
theorem ki_X10_copies : Cond.instanceMethod yX10_copies ∈ GW := gw_of 1413 (by decide +kernel) (by decide +kernel)
theorem ks_X10_copies : Cond.selects RX10 yX10_copies yX10_copies ∈ GW := gw_sl (q := (yX10_copies, 69)) 90 (by decide +kernel) (by decide +kernel)
theorem cX10_405 : aCv RX10 405 10 mX10_copies 2 := ⟨⟨kc_X10_copies, kl_X10_405, kn_X10, ⟨by decide +kernel, by decide +kernel, by decide +kernel⟩, by decide⟩, ki_X10_copies, ks_X10_copies, TX10, 69, rfl⟩
theorem kl_X10_465 : Cond.methodLink RX10 465 yX10_bits ∈ GW := gw_of 1419 (by decide +kernel) (by decide +kernel)
theorem kc_X10_bits : Cond.code mX10_bits.1 mX10_bits.2.1 mX10_bits.2.2.1 mX10_bits.2.2.2 ∈ GW := gw_of 1421 (by decide +kernel) (by decide +kernel)
theorem kt_X10_bits : Cond.static yX10_bits ∈ GW := gw_of 1420 (by decide +kernel) (by decide +kernel)
theorem cX10_465 : aCs RX10 465 mX10_bits 1 := ⟨⟨kc_X10_bits, kl_X10_465, kn_X10, ⟨by decide +kernel, by decide +kernel, by decide +kernel⟩, by decide⟩, kt_X10_bits⟩
theorem kl_X10_470 : Cond.methodLink RX10 470 yX10_isBoard ∈ GW := gw_of 1431 (by decide +kernel) (by decide +kernel)
theorem kc_X10_isBoard : Cond.code mX10_isBoard.1 mX10_isBoard.2.1 mX10_isBoard.2.2.1 mX10_isBoard.2.2.2 ∈ GW := gw_of 1434 (by decide +kernel) (by decide +kernel)
theorem ki_X10_isBoard : Cond.instanceMethod yX10_isBoard ∈ GW := gw_of 1433 (by decide +kernel) (by decide +kernel)
theorem ks_X10_isBoard : Cond.selects RX10 yX10_isBoard yX10_isBoard ∈ GW := gw_sl (q := (yX10_isBoard, 69)) 91 (by decide +kernel) (by decide +kernel)
theorem cX10_470 : aCv RX10 470 10 mX10_isBoard 1 := ⟨⟨kc_X10_isBoard, kl_X10_470, kn_X10, ⟨by decide +kernel, by decide +kernel, by decide +kernel⟩, by decide⟩, ki_X10_isBoard, ks_X10_isBoard, TX10, 69, rfl⟩
theorem kl_X10_473 : Cond.methodLink RX10 473 yX10_isStain ∈ GW := gw_of 1439 (by decide +kernel) (by decide +kernel)
theorem kc_X10_isStain : Cond.code mX10_isStain.1 mX10_isStain.2.1 mX10_isStain.2.2.1 mX10_isStain.2.2.2 ∈ GW := gw_of 1442 (by decide +kernel) (by decide +kernel)
theorem ki_X10_isStain : Cond.instanceMethod yX10_isStain ∈ GW := gw_of 1441 (by decide +kernel) (by decide +kernel)
theorem ks_X10_isStain : Cond.selects RX10 yX10_isStain yX10_isStain ∈ GW := gw_sl (q := (yX10_isStain, 69)) 92 (by decide +kernel) (by decide +kernel)
theorem cX10_473 : aCv RX10 473 10 mX10_isStain 1 := ⟨⟨kc_X10_isStain, kl_X10_473, kn_X10, ⟨by decide +kernel, by decide +kernel, by decide +kernel⟩, by decide⟩, ki_X10_isStain, ks_X10_isStain, TX10, 69, rfl⟩
theorem kl_X10_445 : Cond.methodLink RX10 445 yX10_has2 ∈ GW := gw_of 1447 (by decide +kernel) (by decide +kernel)
theorem kc_X10_has2 : Cond.code mX10_has2.1 mX10_has2.2.1 mX10_has2.2.2.1 mX10_has2.2.2.2 ∈ GW := gw_of 1449 (by decide +kernel) (by decide +kernel)
theorem kt_X10_has2 : Cond.static yX10_has2 ∈ GW := gw_of 1448 (by decide +kernel) (by decide +kernel)
theorem cX10_445 : aCs RX10 445 mX10_has2 2 := ⟨⟨kc_X10_has2, kl_X10_445, kn_X10, ⟨by decide +kernel, by decide +kernel, by decide +kernel⟩, by decide⟩, kt_X10_has2⟩
theorem kl_X10_441 : Cond.methodLink RX10 441 yX10_rubs ∈ GW := gw_of 1454 (by decide +kernel) (by decide +kernel)
theorem kc_X10_rubs : Cond.code mX10_rubs.1 mX10_rubs.2.1 mX10_rubs.2.2.1 mX10_rubs.2.2.2 ∈ GW := gw_of 1457 (by decide +kernel) (by decide +kernel)
theorem ki_X10_rubs : Cond.instanceMethod yX10_rubs ∈ GW := gw_of 1456 (by decide +kernel) (by decide +kernel)
theorem ks_X10_rubs : Cond.selects RX10 yX10_rubs yX10_rubs ∈ GW := gw_sl (q := (yX10_rubs, 69)) 93 (by decide +kernel) (by decide +kernel)
theorem cX10_441 : aCv RX10 441 10 mX10_rubs 4 := ⟨⟨kc_X10_rubs, kl_X10_441, kn_X10, ⟨by decide +kernel, by decide +kernel, by decide +kernel⟩, by decide⟩, ki_X10_rubs, ks_X10_rubs, TX10, 69, rfl⟩
theorem kl_X10_437 : Cond.methodLink RX10 437 yX10_strikes ∈ GW := gw_of 1458 (by decide +kernel) (by decide +kernel)
theorem kc_X10_strikes : Cond.code mX10_strikes.1 mX10_strikes.2.1 mX10_strikes.2.2.1 mX10_strikes.2.2.2 ∈ GW := gw_of 1461 (by decide +kernel) (by decide +kernel)
theorem ki_X10_strikes : Cond.instanceMethod yX10_strikes ∈ GW := gw_of 1460 (by decide +kernel) (by decide +kernel)
theorem ks_X10_strikes : Cond.selects RX10 yX10_strikes yX10_strikes ∈ GW := gw_sl (q := (yX10_strikes, 69)) 94 (by decide +kernel) (by decide +kernel)
theorem cX10_437 : aCv RX10 437 10 mX10_strikes 4 := ⟨⟨kc_X10_strikes, kl_X10_437, kn_X10, ⟨by decide +kernel, by decide +kernel, by decide +kernel⟩, by decide⟩, ki_X10_strikes, ks_X10_strikes, TX10, 69, rfl⟩
theorem kl_X10_424 : Cond.methodLink RX10 424 yX10_lays ∈ GW := gw_of 1462 (by decide +kernel) (by decide +kernel)
theorem kc_X10_lays : Cond.code mX10_lays.1 mX10_lays.2.1 mX10_lays.2.2.1 mX10_lays.2.2.2 ∈ GW := gw_of 1465 (by decide +kernel) (by decide +kernel)
theorem ki_X10_lays : Cond.instanceMethod yX10_lays ∈ GW := gw_of 1464 (by decide +kernel) (by decide +kernel)
theorem ks_X10_lays : Cond.selects RX10 yX10_lays yX10_lays ∈ GW := gw_sl (q := (yX10_lays, 69)) 95 (by decide +kernel) (by decide +kernel)
theorem cX10_424 : aCv RX10 424 10 mX10_lays 3 := ⟨⟨kc_X10_lays, kl_X10_424, kn_X10, ⟨by decide +kernel, by decide +kernel, by decide +kernel⟩, by decide⟩, ki_X10_lays, ks_X10_lays, TX10, 69, rfl⟩
theorem kl_X10_428 : Cond.methodLink RX10 428 yX10_isTold ∈ GW := gw_of 1466 (by decide +kernel) (by decide +kernel)
theorem kc_X10_isTold : Cond.code mX10_isTold.1 mX10_isTold.2.1 mX10_isTold.2.2.1 mX10_isTold.2.2.2 ∈ GW := gw_of 1469 (by decide +kernel) (by decide +kernel)
theorem ki_X10_isTold : Cond.instanceMethod yX10_isTold ∈ GW := gw_of 1468 (by decide +kernel) (by decide +kernel)
theorem ks_X10_isTold : Cond.selects RX10 yX10_isTold yX10_isTold ∈ GW := gw_sl (q := (yX10_isTold, 69)) 96 (by decide +kernel) (by decide +kernel)
theorem cX10_428 : aCv RX10 428 10 mX10_isTold 1 := ⟨⟨kc_X10_isTold, kl_X10_428, kn_X10, ⟨by decide +kernel, by decide +kernel, by decide +kernel⟩, by decide⟩, ki_X10_isTold, ks_X10_isTold, TX10, 69, rfl⟩
theorem kl_X10_431 : Cond.methodLink RX10 431 yX10_reckons ∈ GW := gw_of 1470 (by decide +kernel) (by decide +kernel)
theorem kc_X10_reckons : Cond.code mX10_reckons.1 mX10_reckons.2.1 mX10_reckons.2.2.1 mX10_reckons.2.2.2 ∈ GW := gw_of 1473 (by decide +kernel) (by decide +kernel)
theorem ki_X10_reckons : Cond.instanceMethod yX10_reckons ∈ GW := gw_of 1472 (by decide +kernel) (by decide +kernel)
theorem ks_X10_reckons : Cond.selects RX10 yX10_reckons yX10_reckons ∈ GW := gw_sl (q := (yX10_reckons, 69)) 97 (by decide +kernel) (by decide +kernel)
theorem cX10_431 : aCv RX10 431 10 mX10_reckons 1 := ⟨⟨kc_X10_reckons, kl_X10_431, kn_X10, ⟨by decide +kernel, by decide +kernel, by decide +kernel⟩, by decide⟩, ki_X10_reckons, ks_X10_reckons, TX10, 69, rfl⟩
theorem kl_X10_420 : Cond.methodLink RX10 420 yX10_two ∈ GW := gw_of 1474 (by decide +kernel) (by decide +kernel)
theorem kc_X10_two : Cond.code mX10_two.1 mX10_two.2.1 mX10_two.2.2.1 mX10_two.2.2.2 ∈ GW := gw_of 1476 (by decide +kernel) (by decide +kernel)
theorem kt_X10_two : Cond.static yX10_two ∈ GW := gw_of 1475 (by decide +kernel) (by decide +kernel)
theorem cX10_420 : aCs RX10 420 mX10_two 3 := ⟨⟨kc_X10_two, kl_X10_420, kn_X10, ⟨by decide +kernel, by decide +kernel, by decide +kernel⟩, by decide⟩, kt_X10_two⟩
theorem kl_X10_412 : Cond.methodLink RX10 412 yX10_within ∈ GW := gw_of 1477 (by decide +kernel) (by decide +kernel)
theorem kc_X10_within : Cond.code mX10_within.1 mX10_within.2.1 mX10_within.2.2.1 mX10_within.2.2.2 ∈ GW := gw_of 1479 (by decide +kernel) (by decide +kernel)
theorem kt_X10_within : Cond.static yX10_within ∈ GW := gw_of 1478 (by decide +kernel) (by decide +kernel)
theorem cX10_412 : aCs RX10 412 mX10_within 1 := ⟨⟨kc_X10_within, kl_X10_412, kn_X10, ⟨by decide +kernel, by decide +kernel, by decide +kernel⟩, by decide⟩, kt_X10_within⟩
theorem kl_X10_416 : Cond.methodLink RX10 416 yX10_floor ∈ GW := gw_of 1482 (by decide +kernel) (by decide +kernel)
theorem kc_X10_floor : Cond.code mX10_floor.1 mX10_floor.2.1 mX10_floor.2.2.1 mX10_floor.2.2.2 ∈ GW := gw_of 1484 (by decide +kernel) (by decide +kernel)
theorem kt_X10_floor : Cond.static yX10_floor ∈ GW := gw_of 1483 (by decide +kernel) (by decide +kernel)
theorem cX10_416 : aCs RX10 416 mX10_floor 2 := ⟨⟨kc_X10_floor, kl_X10_416, kn_X10, ⟨by decide +kernel, by decide +kernel, by decide +kernel⟩, by decide⟩, kt_X10_floor⟩
theorem kl_X10_479 : Cond.methodLink RX10 479 yX10_needs ∈ GW := gw_of 1490 (by decide +kernel) (by decide +kernel)
theorem kc_X10_needs : Cond.code mX10_needs.1 mX10_needs.2.1 mX10_needs.2.2.1 mX10_needs.2.2.2 ∈ GW := gw_of 1493 (by decide +kernel) (by decide +kernel)
theorem ki_X10_needs : Cond.instanceMethod yX10_needs ∈ GW := gw_of 1492 (by decide +kernel) (by decide +kernel)
theorem ks_X10_needs : Cond.selects RX10 yX10_needs yX10_needs ∈ GW := gw_sl (q := (yX10_needs, 69)) 98 (by decide +kernel) (by decide +kernel)
theorem cX10_479 : aCv RX10 479 10 mX10_needs 2 := ⟨⟨kc_X10_needs, kl_X10_479, kn_X10, ⟨by decide +kernel, by decide +kernel, by decide +kernel⟩, by decide⟩, ki_X10_needs, ks_X10_needs, TX10, 69, rfl⟩
theorem kl_X10_476 : Cond.methodLink RX10 476 yX10_brings ∈ GW := gw_of 1494 (by decide +kernel) (by decide +kernel)
theorem kc_X10_brings : Cond.code mX10_brings.1 mX10_brings.2.1 mX10_brings.2.2.1 mX10_brings.2.2.2 ∈ GW := gw_of 1497 (by decide +kernel) (by decide +kernel)
theorem ki_X10_brings : Cond.instanceMethod yX10_brings ∈ GW := gw_of 1496 (by decide +kernel) (by decide +kernel)
theorem ks_X10_brings : Cond.selects RX10 yX10_brings yX10_brings ∈ GW := gw_sl (q := (yX10_brings, 69)) 99 (by decide +kernel) (by decide +kernel)
theorem cX10_476 : aCv RX10 476 10 mX10_brings 2 := ⟨⟨kc_X10_brings, kl_X10_476, kn_X10, ⟨by decide +kernel, by decide +kernel, by decide +kernel⟩, by decide⟩, ki_X10_brings, ks_X10_brings, TX10, 69, rfl⟩
theorem kl_X10_492 : Cond.methodLink RX10 492 yX10_findsLefts ∈ GW := gw_of 1507 (by decide +kernel) (by decide +kernel)
theorem kc_X10_findsLefts : Cond.code mX10_findsLefts.1 mX10_findsLefts.2.1 mX10_findsLefts.2.2.1 mX10_findsLefts.2.2.2 ∈ GW := gw_of 1510 (by decide +kernel) (by decide +kernel)
theorem ki_X10_findsLefts : Cond.instanceMethod yX10_findsLefts ∈ GW := gw_of 1509 (by decide +kernel) (by decide +kernel)
theorem ks_X10_findsLefts : Cond.selects RX10 yX10_findsLefts yX10_findsLefts ∈ GW := gw_sl (q := (yX10_findsLefts, 69)) 100 (by decide +kernel) (by decide +kernel)
theorem cX10_492 : aCv RX10 492 10 mX10_findsLefts 0 := ⟨⟨kc_X10_findsLefts, kl_X10_492, kn_X10, ⟨by decide +kernel, by decide +kernel, by decide +kernel⟩, by decide⟩, ki_X10_findsLefts, ks_X10_findsLefts, TX10, 69, rfl⟩
theorem kl_X10_496 : Cond.methodLink RX10 496 yX10_matches ∈ GW := gw_of 1511 (by decide +kernel) (by decide +kernel)
theorem kc_X10_matches : Cond.code mX10_matches.1 mX10_matches.2.1 mX10_matches.2.2.1 mX10_matches.2.2.2 ∈ GW := gw_of 1514 (by decide +kernel) (by decide +kernel)
theorem ki_X10_matches : Cond.instanceMethod yX10_matches ∈ GW := gw_of 1513 (by decide +kernel) (by decide +kernel)
theorem ks_X10_matches : Cond.selects RX10 yX10_matches yX10_matches ∈ GW := gw_sl (q := (yX10_matches, 69)) 101 (by decide +kernel) (by decide +kernel)
theorem cX10_496 : aCv RX10 496 10 mX10_matches 1 := ⟨⟨kc_X10_matches, kl_X10_496, kn_X10, ⟨by decide +kernel, by decide +kernel, by decide +kernel⟩, by decide⟩, ki_X10_matches, ks_X10_matches, TX10, 69, rfl⟩
theorem kl_X10_486 : Cond.methodLink RX10 486 yX10_isFirstRow ∈ GW := gw_of 1515 (by decide +kernel) (by decide +kernel)
theorem kc_X10_isFirstRow : Cond.code mX10_isFirstRow.1 mX10_isFirstRow.2.1 mX10_isFirstRow.2.2.1 mX10_isFirstRow.2.2.2 ∈ GW := gw_of 1518 (by decide +kernel) (by decide +kernel)
theorem ki_X10_isFirstRow : Cond.instanceMethod yX10_isFirstRow ∈ GW := gw_of 1517 (by decide +kernel) (by decide +kernel)
theorem ks_X10_isFirstRow : Cond.selects RX10 yX10_isFirstRow yX10_isFirstRow ∈ GW := gw_sl (q := (yX10_isFirstRow, 69)) 102 (by decide +kernel) (by decide +kernel)
theorem cX10_486 : aCv RX10 486 10 mX10_isFirstRow 2 := ⟨⟨kc_X10_isFirstRow, kl_X10_486, kn_X10, ⟨by decide +kernel, by decide +kernel, by decide +kernel⟩, by decide⟩, ki_X10_isFirstRow, ks_X10_isFirstRow, TX10, 69, rfl⟩
theorem kl_X10_489 : Cond.methodLink RX10 489 yX10_isNextRow ∈ GW := gw_of 1519 (by decide +kernel) (by decide +kernel)
theorem kc_X10_isNextRow : Cond.code mX10_isNextRow.1 mX10_isNextRow.2.1 mX10_isNextRow.2.2.1 mX10_isNextRow.2.2.2 ∈ GW := gw_of 1522 (by decide +kernel) (by decide +kernel)
theorem ki_X10_isNextRow : Cond.instanceMethod yX10_isNextRow ∈ GW := gw_of 1521 (by decide +kernel) (by decide +kernel)
theorem ks_X10_isNextRow : Cond.selects RX10 yX10_isNextRow yX10_isNextRow ∈ GW := gw_sl (q := (yX10_isNextRow, 69)) 103 (by decide +kernel) (by decide +kernel)
theorem cX10_489 : aCv RX10 489 10 mX10_isNextRow 2 := ⟨⟨kc_X10_isNextRow, kl_X10_489, kn_X10, ⟨by decide +kernel, by decide +kernel, by decide +kernel⟩, by decide⟩, ki_X10_isNextRow, ks_X10_isNextRow, TX10, 69, rfl⟩
theorem kl_X10_483 : Cond.methodLink RX10 483 yX10_isIn ∈ GW := gw_of 1523 (by decide +kernel) (by decide +kernel)
theorem kc_X10_isIn : Cond.code mX10_isIn.1 mX10_isIn.2.1 mX10_isIn.2.2.1 mX10_isIn.2.2.2 ∈ GW := gw_of 1526 (by decide +kernel) (by decide +kernel)
theorem ki_X10_isIn : Cond.instanceMethod yX10_isIn ∈ GW := gw_of 1525 (by decide +kernel) (by decide +kernel)
theorem ks_X10_isIn : Cond.selects RX10 yX10_isIn yX10_isIn ∈ GW := gw_sl (q := (yX10_isIn, 69)) 104 (by decide +kernel) (by decide +kernel)
theorem cX10_483 : aCv RX10 483 10 mX10_isIn 1 := ⟨⟨kc_X10_isIn, kl_X10_483, kn_X10, ⟨by decide +kernel, by decide +kernel, by decide +kernel⟩, by decide⟩, ki_X10_isIn, ks_X10_isIn, TX10, 69, rfl⟩
theorem kl_X10_499 : Cond.methodLink RX10 499 yX10_headStrokes ∈ GW := gw_of 1531 (by decide +kernel) (by decide +kernel)
theorem kc_X10_headStrokes : Cond.code mX10_headStrokes.1 mX10_headStrokes.2.1 mX10_headStrokes.2.2.1 mX10_headStrokes.2.2.2 ∈ GW := gw_of 1534 (by decide +kernel) (by decide +kernel)
theorem ki_X10_headStrokes : Cond.instanceMethod yX10_headStrokes ∈ GW := gw_of 1533 (by decide +kernel) (by decide +kernel)
theorem ks_X10_headStrokes : Cond.selects RX10 yX10_headStrokes yX10_headStrokes ∈ GW := gw_sl (q := (yX10_headStrokes, 69)) 105 (by decide +kernel) (by decide +kernel)
theorem cX10_499 : aCv RX10 499 10 mX10_headStrokes 2 := ⟨⟨kc_X10_headStrokes, kl_X10_499, kn_X10, ⟨by decide +kernel, by decide +kernel, by decide +kernel⟩, by decide⟩, ki_X10_headStrokes, ks_X10_headStrokes, TX10, 69, rfl⟩
theorem kl_X10_506 : Cond.methodLink RX10 506 yX10_isAhead ∈ GW := gw_of 1539 (by decide +kernel) (by decide +kernel)
theorem kc_X10_isAhead : Cond.code mX10_isAhead.1 mX10_isAhead.2.1 mX10_isAhead.2.2.1 mX10_isAhead.2.2.2 ∈ GW := gw_of 1542 (by decide +kernel) (by decide +kernel)
theorem ki_X10_isAhead : Cond.instanceMethod yX10_isAhead ∈ GW := gw_of 1541 (by decide +kernel) (by decide +kernel)
theorem ks_X10_isAhead : Cond.selects RX10 yX10_isAhead yX10_isAhead ∈ GW := gw_sl (q := (yX10_isAhead, 69)) 106 (by decide +kernel) (by decide +kernel)
theorem cX10_506 : aCv RX10 506 10 mX10_isAhead 3 := ⟨⟨kc_X10_isAhead, kl_X10_506, kn_X10, ⟨by decide +kernel, by decide +kernel, by decide +kernel⟩, by decide⟩, ki_X10_isAhead, ks_X10_isAhead, TX10, 69, rfl⟩
theorem kl_X10_509 : Cond.methodLink RX10 509 yX10_tries ∈ GW := gw_of 1543 (by decide +kernel) (by decide +kernel)
theorem kc_X10_tries : Cond.code mX10_tries.1 mX10_tries.2.1 mX10_tries.2.2.1 mX10_tries.2.2.2 ∈ GW := gw_of 1546 (by decide +kernel) (by decide +kernel)
theorem ki_X10_tries : Cond.instanceMethod yX10_tries ∈ GW := gw_of 1545 (by decide +kernel) (by decide +kernel)
theorem ks_X10_tries : Cond.selects RX10 yX10_tries yX10_tries ∈ GW := gw_sl (q := (yX10_tries, 69)) 107 (by decide +kernel) (by decide +kernel)
theorem cX10_509 : aCv RX10 509 10 mX10_tries 1 := ⟨⟨kc_X10_tries, kl_X10_509, kn_X10, ⟨by decide +kernel, by decide +kernel, by decide +kernel⟩, by decide⟩, ki_X10_tries, ks_X10_tries, TX10, 69, rfl⟩
theorem kl_X10_502 : Cond.methodLink RX10 502 yX10_passes ∈ GW := gw_of 1547 (by decide +kernel) (by decide +kernel)
theorem kc_X10_passes : Cond.code mX10_passes.1 mX10_passes.2.1 mX10_passes.2.2.1 mX10_passes.2.2.2 ∈ GW := gw_of 1550 (by decide +kernel) (by decide +kernel)
theorem ki_X10_passes : Cond.instanceMethod yX10_passes ∈ GW := gw_of 1549 (by decide +kernel) (by decide +kernel)
theorem ks_X10_passes : Cond.selects RX10 yX10_passes yX10_passes ∈ GW := gw_sl (q := (yX10_passes, 69)) 108 (by decide +kernel) (by decide +kernel)
theorem cX10_502 : aCv RX10 502 10 mX10_passes 2 := ⟨⟨kc_X10_passes, kl_X10_502, kn_X10, ⟨by decide +kernel, by decide +kernel, by decide +kernel⟩, by decide⟩, ki_X10_passes, ks_X10_passes, TX10, 69, rfl⟩
theorem kl_X10_456 : Cond.methodLink RX10 456 yX10_deepest ∈ GW := gw_of 1551 (by decide +kernel) (by decide +kernel)
theorem kc_X10_deepest : Cond.code mX10_deepest.1 mX10_deepest.2.1 mX10_deepest.2.2.1 mX10_deepest.2.2.2 ∈ GW := gw_of 1554 (by decide +kernel) (by decide +kernel)
theorem ki_X10_deepest : Cond.instanceMethod yX10_deepest ∈ GW := gw_of 1553 (by decide +kernel) (by decide +kernel)
theorem ks_X10_deepest : Cond.selects RX10 yX10_deepest yX10_deepest ∈ GW := gw_sl (q := (yX10_deepest, 69)) 109 (by decide +kernel) (by decide +kernel)
theorem cX10_456 : aCv RX10 456 10 mX10_deepest 1 := ⟨⟨kc_X10_deepest, kl_X10_456, kn_X10, ⟨by decide +kernel, by decide +kernel, by decide +kernel⟩, by decide⟩, ki_X10_deepest, ks_X10_deepest, TX10, 69, rfl⟩
theorem kl_X10_459 : Cond.methodLink RX10 459 yX10_pick ∈ GW := gw_of 1555 (by decide +kernel) (by decide +kernel)
theorem kc_X10_pick : Cond.code mX10_pick.1 mX10_pick.2.1 mX10_pick.2.2.1 mX10_pick.2.2.2 ∈ GW := gw_of 1558 (by decide +kernel) (by decide +kernel)
theorem ki_X10_pick : Cond.instanceMethod yX10_pick ∈ GW := gw_of 1557 (by decide +kernel) (by decide +kernel)
theorem ks_X10_pick : Cond.selects RX10 yX10_pick yX10_pick ∈ GW := gw_sl (q := (yX10_pick, 69)) 110 (by decide +kernel) (by decide +kernel)
theorem cX10_459 : aCv RX10 459 10 mX10_pick 2 := ⟨⟨kc_X10_pick, kl_X10_459, kn_X10, ⟨by decide +kernel, by decide +kernel, by decide +kernel⟩, by decide⟩, ki_X10_pick, ks_X10_pick, TX10, 69, rfl⟩
theorem kl_X10_462 : Cond.methodLink RX10 462 yX10_preaches ∈ GW := gw_of 1559 (by decide +kernel) (by decide +kernel)
theorem kc_X10_preaches : Cond.code mX10_preaches.1 mX10_preaches.2.1 mX10_preaches.2.2.1 mX10_preaches.2.2.2 ∈ GW := gw_of 1562 (by decide +kernel) (by decide +kernel)
theorem ki_X10_preaches : Cond.instanceMethod yX10_preaches ∈ GW := gw_of 1561 (by decide +kernel) (by decide +kernel)
theorem ks_X10_preaches : Cond.selects RX10 yX10_preaches yX10_preaches ∈ GW := gw_sl (q := (yX10_preaches, 69)) 111 (by decide +kernel) (by decide +kernel)
theorem cX10_462 : aCv RX10 462 10 mX10_preaches 4 := ⟨⟨kc_X10_preaches, kl_X10_462, kn_X10, ⟨by decide +kernel, by decide +kernel, by decide +kernel⟩, by decide⟩, ki_X10_preaches, ks_X10_preaches, TX10, 69, rfl⟩
theorem kl_X10_449 : Cond.methodLink RX10 449 yX10_isSo ∈ GW := gw_of 1563 (by decide +kernel) (by decide +kernel)
theorem kc_X10_isSo : Cond.code mX10_isSo.1 mX10_isSo.2.1 mX10_isSo.2.2.1 mX10_isSo.2.2.2 ∈ GW := gw_of 1566 (by decide +kernel) (by decide +kernel)
theorem ki_X10_isSo : Cond.instanceMethod yX10_isSo ∈ GW := gw_of 1565 (by decide +kernel) (by decide +kernel)
theorem ks_X10_isSo : Cond.selects RX10 yX10_isSo yX10_isSo ∈ GW := gw_sl (q := (yX10_isSo, 69)) 112 (by decide +kernel) (by decide +kernel)
theorem cX10_449 : aCv RX10 449 10 mX10_isSo 6 := ⟨⟨kc_X10_isSo, kl_X10_449, kn_X10, ⟨by decide +kernel, by decide +kernel, by decide +kernel⟩, by decide⟩, ki_X10_isSo, ks_X10_isSo, TX10, 69, rfl⟩
theorem kl_X10_453 : Cond.methodLink RX10 453 yX10_writesDown ∈ GW := gw_of 1567 (by decide +kernel) (by decide +kernel)
theorem kc_X10_writesDown : Cond.code mX10_writesDown.1 mX10_writesDown.2.1 mX10_writesDown.2.2.1 mX10_writesDown.2.2.2 ∈ GW := gw_of 1570 (by decide +kernel) (by decide +kernel)
theorem ki_X10_writesDown : Cond.instanceMethod yX10_writesDown ∈ GW := gw_of 1569 (by decide +kernel) (by decide +kernel)
theorem ks_X10_writesDown : Cond.selects RX10 yX10_writesDown yX10_writesDown ∈ GW := gw_sl (q := (yX10_writesDown, 69)) 113 (by decide +kernel) (by decide +kernel)
theorem cX10_453 : aCv RX10 453 10 mX10_writesDown 4 := ⟨⟨kc_X10_writesDown, kl_X10_453, kn_X10, ⟨by decide +kernel, by decide +kernel, by decide +kernel⟩, by decide⟩, ki_X10_writesDown, ks_X10_writesDown, TX10, 69, rfl⟩
theorem kl_X10_512 : Cond.methodLink RX10 512 yX10_leftBy ∈ GW := gw_of 1591 (by decide +kernel) (by decide +kernel)
theorem kc_X10_leftBy : Cond.code mX10_leftBy.1 mX10_leftBy.2.1 mX10_leftBy.2.2.1 mX10_leftBy.2.2.2 ∈ GW := gw_of 1594 (by decide +kernel) (by decide +kernel)
theorem ki_X10_leftBy : Cond.instanceMethod yX10_leftBy ∈ GW := gw_of 1593 (by decide +kernel) (by decide +kernel)
theorem ks_X10_leftBy : Cond.selects RX10 yX10_leftBy yX10_leftBy ∈ GW := gw_sl (q := (yX10_leftBy, 69)) 114 (by decide +kernel) (by decide +kernel)
theorem cX10_512 : aCv RX10 512 10 mX10_leftBy 3 := ⟨⟨kc_X10_leftBy, kl_X10_512, kn_X10, ⟨by decide +kernel, by decide +kernel, by decide +kernel⟩, by decide⟩, ki_X10_leftBy, ks_X10_leftBy, TX10, 69, rfl⟩
theorem kl_X10_516 : Cond.methodLink RX10 516 yX10_which ∈ GW := gw_of 1599 (by decide +kernel) (by decide +kernel)
theorem kc_X10_which : Cond.code mX10_which.1 mX10_which.2.1 mX10_which.2.2.1 mX10_which.2.2.2 ∈ GW := gw_of 1590 (by decide +kernel) (by decide +kernel)
theorem ki_X10_which : Cond.instanceMethod yX10_which ∈ GW := gw_of 1588 (by decide +kernel) (by decide +kernel)
theorem ks_X10_which : Cond.selects RX10 yX10_which yX10_which ∈ GW := gw_of 1589 (by decide +kernel) (by decide +kernel)
theorem cX10_516 : aCv RX10 516 10 mX10_which 0 := ⟨⟨kc_X10_which, kl_X10_516, kn_X10, ⟨by decide +kernel, by decide +kernel, by decide +kernel⟩, by decide⟩, ki_X10_which, ks_X10_which, TX10, 69, rfl⟩
theorem kl_X10_519 : Cond.methodLink RX10 519 yX10_keeps ∈ GW := gw_of 1604 (by decide +kernel) (by decide +kernel)
theorem kc_X10_keeps : Cond.code mX10_keeps.1 mX10_keeps.2.1 mX10_keeps.2.2.1 mX10_keeps.2.2.2 ∈ GW := gw_of 1607 (by decide +kernel) (by decide +kernel)
theorem ki_X10_keeps : Cond.instanceMethod yX10_keeps ∈ GW := gw_of 1606 (by decide +kernel) (by decide +kernel)
theorem ks_X10_keeps : Cond.selects RX10 yX10_keeps yX10_keeps ∈ GW := gw_sl (q := (yX10_keeps, 69)) 115 (by decide +kernel) (by decide +kernel)
theorem cX10_519 : aCv RX10 519 10 mX10_keeps 0 := ⟨⟨kc_X10_keeps, kl_X10_519, kn_X10, ⟨by decide +kernel, by decide +kernel, by decide +kernel⟩, by decide⟩, ki_X10_keeps, ks_X10_keeps, TX10, 69, rfl⟩
theorem kl_X10_530 : Cond.methodLink RX10 530 yX10_draw ∈ GW := gw_of 1612 (by decide +kernel) (by decide +kernel)
theorem kc_X10_draw : Cond.code mX10_draw.1 mX10_draw.2.1 mX10_draw.2.2.1 mX10_draw.2.2.2 ∈ GW := gw_of 1615 (by decide +kernel) (by decide +kernel)
theorem ki_X10_draw : Cond.instanceMethod yX10_draw ∈ GW := gw_of 1614 (by decide +kernel) (by decide +kernel)
theorem ks_X10_draw : Cond.selects RX10 yX10_draw yX10_draw ∈ GW := gw_sl (q := (yX10_draw, 69)) 116 (by decide +kernel) (by decide +kernel)
theorem cX10_530 : aCv RX10 530 10 mX10_draw 1 := ⟨⟨kc_X10_draw, kl_X10_530, kn_X10, ⟨by decide +kernel, by decide +kernel, by decide +kernel⟩, by decide⟩, ki_X10_draw, ks_X10_draw, TX10, 69, rfl⟩
theorem kl_X10_533 : Cond.methodLink RX10 533 yX10_writes ∈ GW := gw_of 1648 (by decide +kernel) (by decide +kernel)
theorem kc_X10_writes : Cond.code mX10_writes.1 mX10_writes.2.1 mX10_writes.2.2.1 mX10_writes.2.2.2 ∈ GW := gw_of 1651 (by decide +kernel) (by decide +kernel)
theorem ki_X10_writes : Cond.instanceMethod yX10_writes ∈ GW := gw_of 1650 (by decide +kernel) (by decide +kernel)
theorem ks_X10_writes : Cond.selects RX10 yX10_writes yX10_writes ∈ GW := gw_sl (q := (yX10_writes, 69)) 117 (by decide +kernel) (by decide +kernel)
theorem cX10_533 : aCv RX10 533 10 mX10_writes 1 := ⟨⟨kc_X10_writes, kl_X10_533, kn_X10, ⟨by decide +kernel, by decide +kernel, by decide +kernel⟩, by decide⟩, ki_X10_writes, ks_X10_writes, TX10, 69, rfl⟩
theorem kl_X10_536 : Cond.methodLink RX10 536 yX10_comesOn ∈ GW := gw_of 1660 (by decide +kernel) (by decide +kernel)
theorem kc_X10_comesOn : Cond.code mX10_comesOn.1 mX10_comesOn.2.1 mX10_comesOn.2.2.1 mX10_comesOn.2.2.2 ∈ GW := gw_of 1663 (by decide +kernel) (by decide +kernel)
theorem ki_X10_comesOn : Cond.instanceMethod yX10_comesOn ∈ GW := gw_of 1662 (by decide +kernel) (by decide +kernel)
theorem ks_X10_comesOn : Cond.selects RX10 yX10_comesOn yX10_comesOn ∈ GW := gw_sl (q := (yX10_comesOn, 69)) 118 (by decide +kernel) (by decide +kernel)
theorem cX10_536 : aCv RX10 536 10 mX10_comesOn 1 := ⟨⟨kc_X10_comesOn, kl_X10_536, kn_X10, ⟨by decide +kernel, by decide +kernel, by decide +kernel⟩, by decide⟩, ki_X10_comesOn, ks_X10_comesOn, TX10, 69, rfl⟩
theorem kk_X9_17 : Cond.classLink RX9 17 RX5 ∈ GW := gw_of 27 (by decide +kernel) (by decide +kernel)
theorem kx_X5 : Cond.instantiable RX5 11 ∈ GW := gw_of 28 (by decide +kernel) (by decide +kernel)
theorem nX9_17 : aNw RX9 17 5 := ⟨RX5, TX5, 11, rfl, kk_X9_17, kx_X5, kn_X5⟩
theorem kk_X9_32 : Cond.classLink RX9 32 RX8 ∈ GW := gw_of 91 (by decide +kernel) (by decide +kernel)
theorem kx_X8 : Cond.instantiable RX8 6 ∈ GW := gw_of 92 (by decide +kernel) (by decide +kernel)
theorem nX9_32 : aNw RX9 32 8 := ⟨RX8, TX8, 6, rfl, kk_X9_32, kx_X8, kn_X8⟩
theorem kk_X9_42 : Cond.classLink RX9 42 RX6 ∈ GW := gw_of 136 (by decide +kernel) (by decide +kernel)
theorem kx_X6 : Cond.instantiable RX6 9 ∈ GW := gw_of 137 (by decide +kernel) (by decide +kernel)
theorem nX9_42 : aNw RX9 42 6 := ⟨RX6, TX6, 9, rfl, kk_X9_42, kx_X6, kn_X6⟩
theorem kk_X9_51 : Cond.classLink RX9 51 RX0 ∈ GW := gw_of 187 (by decide +kernel) (by decide +kernel)
theorem kx_X0 : Cond.instantiable RX0 3 ∈ GW := gw_of 188 (by decide +kernel) (by decide +kernel)
theorem nX9_51 : aNw RX9 51 0 := ⟨RX0, TX0, 3, rfl, kk_X9_51, kx_X0, kn_X0⟩
theorem kk_X9_58 : Cond.classLink RX9 58 RX2 ∈ GW := gw_of 204 (by decide +kernel) (by decide +kernel)
theorem kx_X2 : Cond.instantiable RX2 1 ∈ GW := gw_of 205 (by decide +kernel) (by decide +kernel)
theorem nX9_58 : aNw RX9 58 2 := ⟨RX2, TX2, 1, rfl, kk_X9_58, kx_X2, kn_X2⟩
theorem kk_X9_65 : Cond.classLink RX9 65 RX7 ∈ GW := gw_of 214 (by decide +kernel) (by decide +kernel)
theorem kx_X7 : Cond.instantiable RX7 7 ∈ GW := gw_of 215 (by decide +kernel) (by decide +kernel)
theorem nX9_65 : aNw RX9 65 7 := ⟨RX7, TX7, 7, rfl, kk_X9_65, kx_X7, kn_X7⟩
theorem kk_X9_74 : Cond.classLink RX9 74 RX3 ∈ GW := gw_of 245 (by decide +kernel) (by decide +kernel)
theorem kx_X3 : Cond.instantiable RX3 7 ∈ GW := gw_of 246 (by decide +kernel) (by decide +kernel)
theorem nX9_74 : aNw RX9 74 3 := ⟨RX3, TX3, 7, rfl, kk_X9_74, kx_X3, kn_X3⟩
theorem kk_X9_81 : Cond.classLink RX9 81 RX1 ∈ GW := gw_of 276 (by decide +kernel) (by decide +kernel)
theorem kx_X1 : Cond.instantiable RX1 8 ∈ GW := gw_of 277 (by decide +kernel) (by decide +kernel)
theorem nX9_81 : aNw RX9 81 1 := ⟨RX1, TX1, 8, rfl, kk_X9_81, kx_X1, kn_X1⟩
theorem kk_X9_113 : Cond.classLink RX9 113 RX4 ∈ GW := gw_of 387 (by decide +kernel) (by decide +kernel)
theorem kx_X4 : Cond.instantiable RX4 11 ∈ GW := gw_of 388 (by decide +kernel) (by decide +kernel)
theorem nX9_113 : aNw RX9 113 4 := ⟨RX4, TX4, 11, rfl, kk_X9_113, kx_X4, kn_X4⟩
theorem kk_X4_52 : Cond.classLink RX4 52 RX5 ∈ GW := gw_of 397 (by decide +kernel) (by decide +kernel)
theorem nX4_52 : aNw RX4 52 5 := ⟨RX5, TX5, 11, rfl, kk_X4_52, kx_X5, kn_X5⟩
theorem kv_J6_265 : Cond.constant RJ6 265 (1431655765) ∈ GW := gw_of 665 (by decide +kernel) (by decide +kernel)
theorem kv_J6_266 : Cond.constant RJ6 266 (858993459) ∈ GW := gw_of 666 (by decide +kernel) (by decide +kernel)
theorem kv_J6_267 : Cond.constant RJ6 267 (252645135) ∈ GW := gw_of 667 (by decide +kernel) (by decide +kernel)
theorem kv_X6_142 : Cond.constantLong RX6 142 (1000000) ∈ GW := gw_of 741 (by decide +kernel) (by decide +kernel)
theorem kv_X6_144 : Cond.constant RX6 144 (1000000) ∈ GW := gw_of 742 (by decide +kernel) (by decide +kernel)
theorem kv_X6_145 : Cond.constantLong RX6 145 (-1000000) ∈ GW := gw_of 743 (by decide +kernel) (by decide +kernel)
theorem kv_X6_147 : Cond.constant RX6 147 (-1000000) ∈ GW := gw_of 744 (by decide +kernel) (by decide +kernel)
theorem kv_X9_319 : Cond.constantLong RX9 319 (1103515245) ∈ GW := gw_of 923 (by decide +kernel) (by decide +kernel)
theorem kv_X9_321 : Cond.constantLong RX9 321 (12345) ∈ GW := gw_of 924 (by decide +kernel) (by decide +kernel)
theorem kv_X9_323 : Cond.constantLong RX9 323 (2147483647) ∈ GW := gw_of 925 (by decide +kernel) (by decide +kernel)
theorem kv_X9_325 : Cond.constantLong RX9 325 (64) ∈ GW := gw_of 926 (by decide +kernel) (by decide +kernel)
theorem kv_X10_250 : Cond.constantLong RX10 250 (422775452260) ∈ GW := gw_of 1251 (by decide +kernel) (by decide +kernel)
theorem kv_X10_252 : Cond.constantLong RX10 252 (1919509107) ∈ GW := gw_of 1272 (by decide +kernel) (by decide +kernel)
theorem kv_X10_254 : Cond.constantLong RX10 254 (2053729891) ∈ GW := gw_of 1273 (by decide +kernel) (by decide +kernel)
theorem kv_X10_256 : Cond.constantLong RX10 256 (495873780078) ∈ GW := gw_of 1274 (by decide +kernel) (by decide +kernel)
theorem kv_X10_258 : Cond.constantLong RX10 258 (1684366704) ∈ GW := gw_of 1275 (by decide +kernel) (by decide +kernel)
theorem kv_X10_260 : Cond.constantLong RX10 260 (495875090022) ∈ GW := gw_of 1276 (by decide +kernel) (by decide +kernel)
theorem kv_X10_262 : Cond.constantLong RX10 262 (114784635872626) ∈ GW := gw_of 1277 (by decide +kernel) (by decide +kernel)
theorem kv_X10_264 : Cond.constantLong RX10 264 (7563630) ∈ GW := gw_of 1278 (by decide +kernel) (by decide +kernel)
theorem kv_X10_266 : Cond.constantLong RX10 266 (6644082) ∈ GW := gw_of 1279 (by decide +kernel) (by decide +kernel)
theorem kv_X10_268 : Cond.constantLong RX10 268 (7304564) ∈ GW := gw_of 1280 (by decide +kernel) (by decide +kernel)
theorem kv_X10_270 : Cond.constantLong RX10 270 (2003132786) ∈ GW := gw_of 1281 (by decide +kernel) (by decide +kernel)
theorem kv_X10_272 : Cond.constantLong RX10 272 (495556388196) ∈ GW := gw_of 1282 (by decide +kernel) (by decide +kernel)
theorem kv_X10_274 : Cond.constantLong RX10 274 (495740085349) ∈ GW := gw_of 1283 (by decide +kernel) (by decide +kernel)
theorem kv_X10_276 : Cond.constantLong RX10 276 (482804460403) ∈ GW := gw_of 1284 (by decide +kernel) (by decide +kernel)
theorem kv_X10_278 : Cond.constantLong RX10 278 (512736126322) ∈ GW := gw_of 1285 (by decide +kernel) (by decide +kernel)
theorem kv_X10_280 : Cond.constantLong RX10 280 (6582905) ∈ GW := gw_of 1286 (by decide +kernel) (by decide +kernel)
theorem kv_X10_282 : Cond.constantLong RX10 282 (2003133803) ∈ GW := gw_of 1287 (by decide +kernel) (by decide +kernel)
theorem kv_X10_284 : Cond.constantLong RX10 284 (7501154) ∈ GW := gw_of 1288 (by decide +kernel) (by decide +kernel)
theorem kv_X10_286 : Cond.constantLong RX10 286 (1651469925) ∈ GW := gw_of 1289 (by decide +kernel) (by decide +kernel)
theorem kv_X10_288 : Cond.constantLong RX10 288 (1667329381) ∈ GW := gw_of 1290 (by decide +kernel) (by decide +kernel)
theorem kv_X10_290 : Cond.constantLong RX10 290 (26982) ∈ GW := gw_of 1291 (by decide +kernel) (by decide +kernel)
theorem kv_X10_292 : Cond.constantLong RX10 292 (28530) ∈ GW := gw_of 1292 (by decide +kernel) (by decide +kernel)
theorem kv_X10_294 : Cond.constantLong RX10 294 (6385252) ∈ GW := gw_of 1293 (by decide +kernel) (by decide +kernel)
theorem kv_X10_296 : Cond.constantLong RX10 296 (7237492) ∈ GW := gw_of 1294 (by decide +kernel) (by decide +kernel)
theorem kv_X10_298 : Cond.constantLong RX10 298 (6384748) ∈ GW := gw_of 1295 (by decide +kernel) (by decide +kernel)
theorem kv_X10_300 : Cond.constantLong RX10 300 (7170414) ∈ GW := gw_of 1296 (by decide +kernel) (by decide +kernel)
theorem kv_X10_302 : Cond.constantLong RX10 302 (7168376) ∈ GW := gw_of 1297 (by decide +kernel) (by decide +kernel)
theorem kv_X10_468 : Cond.constantLong RX10 468 (255) ∈ GW := gw_of 1426 (by decide +kernel) (by decide +kernel)
theorem kv_X10_408 : Cond.constantLong RX10 408 (1000000) ∈ GW := gw_of 1480 (by decide +kernel) (by decide +kernel)
theorem kv_X10_410 : Cond.constantLong RX10 410 (-1000000) ∈ GW := gw_of 1481 (by decide +kernel) (by decide +kernel)
theorem kv_X10_435 : Cond.constantLong RX10 435 (9) ∈ GW := gw_of 1485 (by decide +kernel) (by decide +kernel)
theorem kv_X10_482 : Cond.constant RX10 482 (100000000) ∈ GW := gw_of 1502 (by decide +kernel) (by decide +kernel)
theorem kv_X10_522 : Cond.constantLong RX10 522 (1103515245) ∈ GW := gw_of 1616 (by decide +kernel) (by decide +kernel)
theorem kv_X10_524 : Cond.constantLong RX10 524 (12345) ∈ GW := gw_of 1617 (by decide +kernel) (by decide +kernel)
theorem kv_X10_526 : Cond.constantLong RX10 526 (2147483648) ∈ GW := gw_of 1618 (by decide +kernel) (by decide +kernel)
theorem kv_X10_528 : Cond.constantLong RX10 528 (64) ∈ GW := gw_of 1619 (by decide +kernel) (by decide +kernel)
