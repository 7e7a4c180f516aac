theorem gw1 {w : Cond} (i : Nat) (h : tables_1_1[i]? = some w) (hg : goodW2 w = true) : w ∈ GW := List.mem_filter.mpr ⟨List.mem_append_right _ (show w ∈ tables_1 from List.mem_append_left _ (List.mem_of_getElem? h)), hg⟩
theorem gw2 {w : Cond} (i : Nat) (h : tables_1_2[i]? = some w) (hg : goodW2 w = true) : w ∈ GW := List.mem_filter.mpr ⟨List.mem_append_right _ (show w ∈ tables_1 from List.mem_append_right _ (List.mem_append_left _ (List.mem_of_getElem? h))), hg⟩
theorem gw3 {w : Cond} (i : Nat) (h : tables_1_3[i]? = some w) (hg : goodW2 w = true) : w ∈ GW := List.mem_filter.mpr ⟨List.mem_append_right _ (show w ∈ tables_1 from List.mem_append_right _ (List.mem_append_right _ (List.mem_append_left _ (List.mem_of_getElem? h)))), hg⟩
theorem gw4 {w : Cond} (i : Nat) (h : tables_1_4[i]? = some w) (hg : goodW2 w = true) : w ∈ GW := List.mem_filter.mpr ⟨List.mem_append_right _ (show w ∈ tables_1 from List.mem_append_right _ (List.mem_append_right _ (List.mem_append_right _ (List.mem_append_left _ (List.mem_of_getElem? h))))), hg⟩
theorem gw5 {w : Cond} (i : Nat) (h : tables_1_5[i]? = some w) (hg : goodW2 w = true) : w ∈ GW := List.mem_filter.mpr ⟨List.mem_append_right _ (show w ∈ tables_1 from List.mem_append_right _ (List.mem_append_right _ (List.mem_append_right _ (List.mem_append_right _ (List.mem_append_left _ (List.mem_of_getElem? h)))))), hg⟩
theorem gw6 {w : Cond} (i : Nat) (h : tables_1_6[i]? = some w) (hg : goodW2 w = true) : w ∈ GW := List.mem_filter.mpr ⟨List.mem_append_right _ (show w ∈ tables_1 from List.mem_append_right _ (List.mem_append_right _ (List.mem_append_right _ (List.mem_append_right _ (List.mem_append_right _ (List.mem_append_left _ (List.mem_of_getElem? h))))))), hg⟩
theorem gw7 {w : Cond} (i : Nat) (h : tables_1_7[i]? = some w) (hg : goodW2 w = true) : w ∈ GW := List.mem_filter.mpr ⟨List.mem_append_right _ (show w ∈ tables_1 from List.mem_append_right _ (List.mem_append_right _ (List.mem_append_right _ (List.mem_append_right _ (List.mem_append_right _ (List.mem_append_right _ (List.mem_of_getElem? h))))))), hg⟩
theorem gw_sl {q : MethodName × Nat} (i : Nat) (h : lw_privs[i]? = some q) (hg : goodW2 (Cond.selects q.1.cls q.1 q.1) = true) : Cond.selects q.1.cls q.1 q.1 ∈ GW := List.mem_filter.mpr ⟨List.mem_append_left _ (List.mem_map.mpr ⟨q, List.mem_of_getElem? h, rfl⟩), hg⟩
set_option maxRecDepth 20000 in
theorem kf_X5_9 : Cond.fieldLink RX5 9 RX5 "count" "[I" ∈ GW := gw1 36 rfl (by decide +kernel)
theorem fX5_9 : aFd RX5 9 5 0 2 2 := ⟨RX5, TX5, 11, rfl, by decide, kf_X5_9, rfl, fun h => absurd h (by decide), fun _ => ⟨rfl, rfl⟩⟩
set_option maxRecDepth 20000 in
theorem kf_X3_43 : Cond.fieldLink RX3 43 RX5 "count" "[I" ∈ GW := gw1 37 rfl (by decide +kernel)
theorem fX3_43 : aFd RX3 43 5 0 2 0 := ⟨RX5, TX5, 11, rfl, by decide, kf_X3_43, rfl, fun h => absurd h (by decide), fun h => absurd h (by decide)⟩
set_option maxRecDepth 20000 in
theorem kf_X7_42 : Cond.fieldLink RX7 42 RX5 "count" "[I" ∈ GW := gw1 38 rfl (by decide +kernel)
theorem fX7_42 : aFd RX7 42 5 0 2 0 := ⟨RX5, TX5, 11, rfl, by decide, kf_X7_42, rfl, fun h => absurd h (by decide), fun h => absurd h (by decide)⟩
set_option maxRecDepth 20000 in
theorem kf_X6_92 : Cond.fieldLink RX6 92 RX5 "count" "[I" ∈ GW := gw1 39 rfl (by decide +kernel)
theorem fX6_92 : aFd RX6 92 5 0 2 0 := ⟨RX5, TX5, 11, rfl, by decide, kf_X6_92, rfl, fun h => absurd h (by decide), fun h => absurd h (by decide)⟩
set_option maxRecDepth 20000 in
theorem kf_X9_144 : Cond.fieldLink RX9 144 RX5 "count" "[I" ∈ GW := gw1 40 rfl (by decide +kernel)
theorem fX9_144 : aFd RX9 144 5 0 2 0 := ⟨RX5, TX5, 11, rfl, by decide, kf_X9_144, rfl, fun h => absurd h (by decide), fun h => absurd h (by decide)⟩
set_option maxRecDepth 20000 in
theorem kf_X4_148 : Cond.fieldLink RX4 148 RX5 "count" "[I" ∈ GW := gw1 41 rfl (by decide +kernel)
theorem fX4_148 : aFd RX4 148 5 0 2 0 := ⟨RX5, TX5, 11, rfl, by decide, kf_X4_148, rfl, fun h => absurd h (by decide), fun h => absurd h (by decide)⟩
set_option maxRecDepth 20000 in
theorem kf_X5_15 : Cond.fieldLink RX5 15 RX5 "names" "[I" ∈ GW := gw1 42 rfl (by decide +kernel)
theorem fX5_15 : aFd RX5 15 5 1 2 2 := ⟨RX5, TX5, 11, rfl, by decide, kf_X5_15, rfl, fun h => absurd h (by decide), fun _ => ⟨rfl, rfl⟩⟩
set_option maxRecDepth 20000 in
theorem kf_X9_186 : Cond.fieldLink RX9 186 RX5 "names" "[I" ∈ GW := gw1 43 rfl (by decide +kernel)
theorem fX9_186 : aFd RX9 186 5 1 2 0 := ⟨RX5, TX5, 11, rfl, by decide, kf_X9_186, rfl, fun h => absurd h (by decide), fun h => absurd h (by decide)⟩
set_option maxRecDepth 20000 in
theorem kf_X5_18 : Cond.fieldLink RX5 18 RX5 "first" "[I" ∈ GW := gw1 44 rfl (by decide +kernel)
theorem fX5_18 : aFd RX5 18 5 2 2 2 := ⟨RX5, TX5, 11, rfl, by decide, kf_X5_18, rfl, fun h => absurd h (by decide), fun _ => ⟨rfl, rfl⟩⟩
set_option maxRecDepth 20000 in
theorem kf_X5_21 : Cond.fieldLink RX5 21 RX5 "second" "[I" ∈ GW := gw1 45 rfl (by decide +kernel)
theorem fX5_21 : aFd RX5 21 5 3 2 2 := ⟨RX5, TX5, 11, rfl, by decide, kf_X5_21, rfl, fun h => absurd h (by decide), fun _ => ⟨rfl, rfl⟩⟩
set_option maxRecDepth 20000 in
theorem kf_X5_24 : Cond.fieldLink RX5 24 RX5 "water" "I" ∈ GW := gw1 46 rfl (by decide +kernel)
theorem fX5_24 : aFd RX5 24 5 4 0 1 := ⟨RX5, TX5, 11, rfl, by decide, kf_X5_24, rfl, fun _ => rfl, fun h => absurd h (by decide)⟩
set_option maxRecDepth 20000 in
theorem kf_X8_31 : Cond.fieldLink RX8 31 RX5 "water" "I" ∈ GW := gw1 47 rfl (by decide +kernel)
theorem fX8_31 : aFd RX8 31 5 4 0 1 := ⟨RX5, TX5, 11, rfl, by decide, kf_X8_31, rfl, fun _ => rfl, fun h => absurd h (by decide)⟩
set_option maxRecDepth 20000 in
theorem kf_X4_124 : Cond.fieldLink RX4 124 RX5 "water" "I" ∈ GW := gw1 48 rfl (by decide +kernel)
theorem fX4_124 : aFd RX4 124 5 4 0 1 := ⟨RX5, TX5, 11, rfl, by decide, kf_X4_124, rfl, fun _ => rfl, fun h => absurd h (by decide)⟩
set_option maxRecDepth 20000 in
theorem kf_X5_28 : Cond.fieldLink RX5 28 RX5 "dry" "I" ∈ GW := gw1 49 rfl (by decide +kernel)
theorem fX5_28 : aFd RX5 28 5 5 0 1 := ⟨RX5, TX5, 11, rfl, by decide, kf_X5_28, rfl, fun _ => rfl, fun h => absurd h (by decide)⟩
set_option maxRecDepth 20000 in
theorem kf_X4_127 : Cond.fieldLink RX4 127 RX5 "dry" "I" ∈ GW := gw1 50 rfl (by decide +kernel)
theorem fX4_127 : aFd RX4 127 5 5 0 1 := ⟨RX5, TX5, 11, rfl, by decide, kf_X4_127, rfl, fun _ => rfl, fun h => absurd h (by decide)⟩
set_option maxRecDepth 20000 in
theorem kf_X9_292 : Cond.fieldLink RX9 292 RX5 "dry" "I" ∈ GW := gw1 51 rfl (by decide +kernel)
theorem fX9_292 : aFd RX9 292 5 5 0 1 := ⟨RX5, TX5, 11, rfl, by decide, kf_X9_292, rfl, fun _ => rfl, fun h => absurd h (by decide)⟩
set_option maxRecDepth 20000 in
theorem kf_X5_31 : Cond.fieldLink RX5 31 RX5 "statements" "I" ∈ GW := gw1 52 rfl (by decide +kernel)
theorem fX5_31 : aFd RX5 31 5 6 0 1 := ⟨RX5, TX5, 11, rfl, by decide, kf_X5_31, rfl, fun _ => rfl, fun h => absurd h (by decide)⟩
set_option maxRecDepth 20000 in
theorem kf_X9_141 : Cond.fieldLink RX9 141 RX5 "statements" "I" ∈ GW := gw1 53 rfl (by decide +kernel)
theorem fX9_141 : aFd RX9 141 5 6 0 1 := ⟨RX5, TX5, 11, rfl, by decide, kf_X9_141, rfl, fun _ => rfl, fun h => absurd h (by decide)⟩
set_option maxRecDepth 20000 in
theorem kf_X4_142 : Cond.fieldLink RX4 142 RX5 "statements" "I" ∈ GW := gw1 54 rfl (by decide +kernel)
theorem fX4_142 : aFd RX4 142 5 6 0 1 := ⟨RX5, TX5, 11, rfl, by decide, kf_X4_142, rfl, fun _ => rfl, fun h => absurd h (by decide)⟩
set_option maxRecDepth 20000 in
theorem kf_X5_49 : Cond.fieldLink RX5 49 RX5 "steps" "[I" ∈ GW := gw1 55 rfl (by decide +kernel)
theorem fX5_49 : aFd RX5 49 5 7 2 2 := ⟨RX5, TX5, 11, rfl, by decide, kf_X5_49, rfl, fun h => absurd h (by decide), fun _ => ⟨rfl, rfl⟩⟩
set_option maxRecDepth 20000 in
theorem kf_X6_122 : Cond.fieldLink RX6 122 RX5 "steps" "[I" ∈ GW := gw1 56 rfl (by decide +kernel)
theorem fX6_122 : aFd RX6 122 5 7 2 0 := ⟨RX5, TX5, 11, rfl, by decide, kf_X6_122, rfl, fun h => absurd h (by decide), fun h => absurd h (by decide)⟩
set_option maxRecDepth 20000 in
theorem kf_X5_34 : Cond.fieldLink RX5 34 RX5 "stepCount" "I" ∈ GW := gw1 57 rfl (by decide +kernel)
theorem fX5_34 : aFd RX5 34 5 8 0 1 := ⟨RX5, TX5, 11, rfl, by decide, kf_X5_34, rfl, fun _ => rfl, fun h => absurd h (by decide)⟩
set_option maxRecDepth 20000 in
theorem kf_X6_119 : Cond.fieldLink RX6 119 RX5 "stepCount" "I" ∈ GW := gw1 58 rfl (by decide +kernel)
theorem fX6_119 : aFd RX6 119 5 8 0 1 := ⟨RX5, TX5, 11, rfl, by decide, kf_X6_119, rfl, fun _ => rfl, fun h => absurd h (by decide)⟩
set_option maxRecDepth 20000 in
theorem kf_X5_37 : Cond.fieldLink RX5 37 RX5 "from" "[I" ∈ GW := gw1 59 rfl (by decide +kernel)
theorem fX5_37 : aFd RX5 37 5 9 2 2 := ⟨RX5, TX5, 11, rfl, by decide, kf_X5_37, rfl, fun h => absurd h (by decide), fun _ => ⟨rfl, rfl⟩⟩
set_option maxRecDepth 20000 in
theorem kf_X6_113 : Cond.fieldLink RX6 113 RX5 "from" "[I" ∈ GW := gw1 60 rfl (by decide +kernel)
theorem fX6_113 : aFd RX6 113 5 9 2 0 := ⟨RX5, TX5, 11, rfl, by decide, kf_X6_113, rfl, fun h => absurd h (by decide), fun h => absurd h (by decide)⟩
set_option maxRecDepth 20000 in
theorem kf_X5_40 : Cond.fieldLink RX5 40 RX5 "upTo" "[I" ∈ GW := gw1 61 rfl (by decide +kernel)
theorem fX5_40 : aFd RX5 40 5 10 2 2 := ⟨RX5, TX5, 11, rfl, by decide, kf_X5_40, rfl, fun h => absurd h (by decide), fun _ => ⟨rfl, rfl⟩⟩
set_option maxRecDepth 20000 in
theorem kf_X6_116 : Cond.fieldLink RX6 116 RX5 "upTo" "[I" ∈ GW := gw1 62 rfl (by decide +kernel)
theorem fX6_116 : aFd RX6 116 5 10 2 0 := ⟨RX5, TX5, 11, rfl, by decide, kf_X6_116, rfl, fun h => absurd h (by decide), fun h => absurd h (by decide)⟩
set_option maxRecDepth 20000 in
theorem kf_X8_9 : Cond.fieldLink RX8 9 RX8 "week" "I" ∈ GW := gw1 94 rfl (by decide +kernel)
theorem fX8_9 : aFd RX8 9 8 0 0 1 := ⟨RX8, TX8, 6, rfl, by decide, kf_X8_9, rfl, fun _ => rfl, fun h => absurd h (by decide)⟩
set_option maxRecDepth 20000 in
theorem kf_X6_59 : Cond.fieldLink RX6 59 RX8 "week" "I" ∈ GW := gw1 95 rfl (by decide +kernel)
theorem fX6_59 : aFd RX6 59 8 0 0 1 := ⟨RX8, TX8, 6, rfl, by decide, kf_X6_59, rfl, fun _ => rfl, fun h => absurd h (by decide)⟩
set_option maxRecDepth 20000 in
theorem kf_X0_24 : Cond.fieldLink RX0 24 RX8 "week" "I" ∈ GW := gw1 96 rfl (by decide +kernel)
theorem fX0_24 : aFd RX0 24 8 0 0 1 := ⟨RX8, TX8, 6, rfl, by decide, kf_X0_24, rfl, fun _ => rfl, fun h => absurd h (by decide)⟩
set_option maxRecDepth 20000 in
theorem kf_X9_147 : Cond.fieldLink RX9 147 RX8 "week" "I" ∈ GW := gw1 97 rfl (by decide +kernel)
theorem fX9_147 : aFd RX9 147 8 0 0 1 := ⟨RX8, TX8, 6, rfl, by decide, kf_X9_147, rfl, fun _ => rfl, fun h => absurd h (by decide)⟩
set_option maxRecDepth 20000 in
theorem kf_X8_15 : Cond.fieldLink RX8 15 RX8 "water" "I" ∈ GW := gw1 98 rfl (by decide +kernel)
theorem fX8_15 : aFd RX8 15 8 1 0 1 := ⟨RX8, TX8, 6, rfl, by decide, kf_X8_15, rfl, fun _ => rfl, fun h => absurd h (by decide)⟩
set_option maxRecDepth 20000 in
theorem kf_X6_56 : Cond.fieldLink RX6 56 RX8 "water" "I" ∈ GW := gw1 99 rfl (by decide +kernel)
theorem fX6_56 : aFd RX6 56 8 1 0 1 := ⟨RX8, TX8, 6, rfl, by decide, kf_X6_56, rfl, fun _ => rfl, fun h => absurd h (by decide)⟩
set_option maxRecDepth 20000 in
theorem kf_X0_27 : Cond.fieldLink RX0 27 RX8 "water" "I" ∈ GW := gw1 100 rfl (by decide +kernel)
theorem fX0_27 : aFd RX0 27 8 1 0 1 := ⟨RX8, TX8, 6, rfl, by decide, kf_X0_27, rfl, fun _ => rfl, fun h => absurd h (by decide)⟩
set_option maxRecDepth 20000 in
theorem kf_X9_150 : Cond.fieldLink RX9 150 RX8 "water" "I" ∈ GW := gw1 101 rfl (by decide +kernel)
theorem fX9_150 : aFd RX9 150 8 1 0 1 := ⟨RX8, TX8, 6, rfl, by decide, kf_X9_150, rfl, fun _ => rfl, fun h => absurd h (by decide)⟩
set_option maxRecDepth 20000 in
theorem kf_X8_18 : Cond.fieldLink RX8 18 RX8 "savedBits" "I" ∈ GW := gw1 102 rfl (by decide +kernel)
theorem fX8_18 : aFd RX8 18 8 2 0 1 := ⟨RX8, TX8, 6, rfl, by decide, kf_X8_18, rfl, fun _ => rfl, fun h => absurd h (by decide)⟩
set_option maxRecDepth 20000 in
theorem kf_X0_30 : Cond.fieldLink RX0 30 RX8 "savedBits" "I" ∈ GW := gw1 103 rfl (by decide +kernel)
theorem fX0_30 : aFd RX0 30 8 2 0 1 := ⟨RX8, TX8, 6, rfl, by decide, kf_X0_30, rfl, fun _ => rfl, fun h => absurd h (by decide)⟩
set_option maxRecDepth 20000 in
theorem kf_X6_82 : Cond.fieldLink RX6 82 RX8 "savedBits" "I" ∈ GW := gw1 104 rfl (by decide +kernel)
theorem fX6_82 : aFd RX6 82 8 2 0 1 := ⟨RX8, TX8, 6, rfl, by decide, kf_X6_82, rfl, fun _ => rfl, fun h => absurd h (by decide)⟩
set_option maxRecDepth 20000 in
theorem kf_X9_160 : Cond.fieldLink RX9 160 RX8 "savedBits" "I" ∈ GW := gw1 105 rfl (by decide +kernel)
theorem fX9_160 : aFd RX9 160 8 2 0 1 := ⟨RX8, TX8, 6, rfl, by decide, kf_X9_160, rfl, fun _ => rfl, fun h => absurd h (by decide)⟩
set_option maxRecDepth 20000 in
theorem kf_X8_21 : Cond.fieldLink RX8 21 RX8 "sermons" "I" ∈ GW := gw1 106 rfl (by decide +kernel)
theorem fX8_21 : aFd RX8 21 8 3 0 1 := ⟨RX8, TX8, 6, rfl, by decide, kf_X8_21, rfl, fun _ => rfl, fun h => absurd h (by decide)⟩
set_option maxRecDepth 20000 in
theorem kf_X0_33 : Cond.fieldLink RX0 33 RX8 "sermons" "I" ∈ GW := gw1 107 rfl (by decide +kernel)
theorem fX0_33 : aFd RX0 33 8 3 0 1 := ⟨RX8, TX8, 6, rfl, by decide, kf_X0_33, rfl, fun _ => rfl, fun h => absurd h (by decide)⟩
set_option maxRecDepth 20000 in
theorem kf_X9_168 : Cond.fieldLink RX9 168 RX8 "sermons" "I" ∈ GW := gw1 108 rfl (by decide +kernel)
theorem fX9_168 : aFd RX9 168 8 3 0 1 := ⟨RX8, TX8, 6, rfl, by decide, kf_X9_168, rfl, fun _ => rfl, fun h => absurd h (by decide)⟩
set_option maxRecDepth 20000 in
theorem kf_X8_24 : Cond.fieldLink RX8 24 RX8 "zinc" "[I" ∈ GW := gw1 109 rfl (by decide +kernel)
theorem fX8_24 : aFd RX8 24 8 4 2 2 := ⟨RX8, TX8, 6, rfl, by decide, kf_X8_24, rfl, fun h => absurd h (by decide), fun _ => ⟨rfl, rfl⟩⟩
set_option maxRecDepth 20000 in
theorem kf_X6_41 : Cond.fieldLink RX6 41 RX8 "zinc" "[I" ∈ GW := gw1 110 rfl (by decide +kernel)
theorem fX6_41 : aFd RX6 41 8 4 2 0 := ⟨RX8, TX8, 6, rfl, by decide, kf_X6_41, rfl, fun h => absurd h (by decide), fun h => absurd h (by decide)⟩
set_option maxRecDepth 20000 in
theorem kf_X1_39 : Cond.fieldLink RX1 39 RX8 "zinc" "[I" ∈ GW := gw1 111 rfl (by decide +kernel)
theorem fX1_39 : aFd RX1 39 8 4 2 0 := ⟨RX8, TX8, 6, rfl, by decide, kf_X1_39, rfl, fun h => absurd h (by decide), fun h => absurd h (by decide)⟩
set_option maxRecDepth 20000 in
theorem kf_X0_36 : Cond.fieldLink RX0 36 RX8 "zinc" "[I" ∈ GW := gw1 112 rfl (by decide +kernel)
theorem fX0_36 : aFd RX0 36 8 4 2 0 := ⟨RX8, TX8, 6, rfl, by decide, kf_X0_36, rfl, fun h => absurd h (by decide), fun h => absurd h (by decide)⟩
set_option maxRecDepth 20000 in
theorem kf_X9_179 : Cond.fieldLink RX9 179 RX8 "zinc" "[I" ∈ GW := gw1 113 rfl (by decide +kernel)
theorem fX9_179 : aFd RX9 179 8 4 2 0 := ⟨RX8, TX8, 6, rfl, by decide, kf_X9_179, rfl, fun h => absurd h (by decide), fun h => absurd h (by decide)⟩
set_option maxRecDepth 20000 in
theorem kf_X8_28 : Cond.fieldLink RX8 28 RX8 "deep" "[I" ∈ GW := gw1 114 rfl (by decide +kernel)
theorem fX8_28 : aFd RX8 28 8 5 2 2 := ⟨RX8, TX8, 6, rfl, by decide, kf_X8_28, rfl, fun h => absurd h (by decide), fun _ => ⟨rfl, rfl⟩⟩
set_option maxRecDepth 20000 in
theorem kf_X6_45 : Cond.fieldLink RX6 45 RX8 "deep" "[I" ∈ GW := gw1 115 rfl (by decide +kernel)
theorem fX6_45 : aFd RX6 45 8 5 2 0 := ⟨RX8, TX8, 6, rfl, by decide, kf_X6_45, rfl, fun h => absurd h (by decide), fun h => absurd h (by decide)⟩
set_option maxRecDepth 20000 in
theorem kf_X3_68 : Cond.fieldLink RX3 68 RX8 "deep" "[I" ∈ GW := gw1 116 rfl (by decide +kernel)
theorem fX3_68 : aFd RX3 68 8 5 2 0 := ⟨RX8, TX8, 6, rfl, by decide, kf_X3_68, rfl, fun h => absurd h (by decide), fun h => absurd h (by decide)⟩
set_option maxRecDepth 20000 in
theorem kf_X0_45 : Cond.fieldLink RX0 45 RX8 "deep" "[I" ∈ GW := gw1 117 rfl (by decide +kernel)
theorem fX0_45 : aFd RX0 45 8 5 2 0 := ⟨RX8, TX8, 6, rfl, by decide, kf_X0_45, rfl, fun h => absurd h (by decide), fun h => absurd h (by decide)⟩
set_option maxRecDepth 20000 in
theorem kf_X1_54 : Cond.fieldLink RX1 54 RX8 "deep" "[I" ∈ GW := gw1 118 rfl (by decide +kernel)
theorem fX1_54 : aFd RX1 54 8 5 2 0 := ⟨RX8, TX8, 6, rfl, by decide, kf_X1_54, rfl, fun h => absurd h (by decide), fun h => absurd h (by decide)⟩
set_option maxRecDepth 20000 in
theorem kf_X9_192 : Cond.fieldLink RX9 192 RX8 "deep" "[I" ∈ GW := gw1 119 rfl (by decide +kernel)
theorem fX9_192 : aFd RX9 192 8 5 2 0 := ⟨RX8, TX8, 6, rfl, by decide, kf_X9_192, rfl, fun h => absurd h (by decide), fun h => absurd h (by decide)⟩
set_option maxRecDepth 20000 in
theorem kf_X6_37 : Cond.fieldLink RX6 37 RX6 "plan" "LZincSermon$Plan;" ∈ GW := gw1 139 rfl (by decide +kernel)
theorem fX6_37 : aFd RX6 37 6 0 2 1 := ⟨RX6, TX6, 9, rfl, by decide, kf_X6_37, rfl, fun _ => rfl, fun h => absurd h (by decide)⟩
set_option maxRecDepth 20000 in
theorem kf_X3_37 : Cond.fieldLink RX3 37 RX6 "plan" "LZincSermon$Plan;" ∈ GW := gw1 140 rfl (by decide +kernel)
theorem fX3_37 : aFd RX3 37 6 0 2 1 := ⟨RX6, TX6, 9, rfl, by decide, kf_X3_37, rfl, fun _ => rfl, fun h => absurd h (by decide)⟩
set_option maxRecDepth 20000 in
theorem kf_X7_36 : Cond.fieldLink RX7 36 RX6 "plan" "LZincSermon$Plan;" ∈ GW := gw1 141 rfl (by decide +kernel)
theorem fX7_36 : aFd RX7 36 6 0 2 1 := ⟨RX6, TX6, 9, rfl, by decide, kf_X7_36, rfl, fun _ => rfl, fun h => absurd h (by decide)⟩
set_option maxRecDepth 20000 in
theorem kf_X9_128 : Cond.fieldLink RX9 128 RX6 "plan" "LZincSermon$Plan;" ∈ GW := gw1 142 rfl (by decide +kernel)
theorem fX9_128 : aFd RX9 128 6 0 2 1 := ⟨RX6, TX6, 9, rfl, by decide, kf_X9_128, rfl, fun _ => rfl, fun h => absurd h (by decide)⟩
set_option maxRecDepth 20000 in
theorem kf_X6_9 : Cond.fieldLink RX6 9 RX6 "named" "[I" ∈ GW := gw1 143 rfl (by decide +kernel)
theorem fX6_9 : aFd RX6 9 6 1 2 2 := ⟨RX6, TX6, 9, rfl, by decide, kf_X6_9, rfl, fun h => absurd h (by decide), fun _ => ⟨rfl, rfl⟩⟩
set_option maxRecDepth 20000 in
theorem kf_X6_15 : Cond.fieldLink RX6 15 RX6 "stack" "[I" ∈ GW := gw1 144 rfl (by decide +kernel)
theorem fX6_15 : aFd RX6 15 6 2 2 2 := ⟨RX6, TX6, 9, rfl, by decide, kf_X6_15, rfl, fun h => absurd h (by decide), fun _ => ⟨rfl, rfl⟩⟩
set_option maxRecDepth 20000 in
theorem kf_X6_18 : Cond.fieldLink RX6 18 RX6 "board" "I" ∈ GW := gw1 145 rfl (by decide +kernel)
theorem fX6_18 : aFd RX6 18 6 3 0 1 := ⟨RX6, TX6, 9, rfl, by decide, kf_X6_18, rfl, fun _ => rfl, fun h => absurd h (by decide)⟩
set_option maxRecDepth 20000 in
theorem kf_X2_15 : Cond.fieldLink RX2 15 RX6 "board" "I" ∈ GW := gw1 146 rfl (by decide +kernel)
theorem fX2_15 : aFd RX2 15 6 3 0 1 := ⟨RX6, TX6, 9, rfl, by decide, kf_X2_15, rfl, fun _ => rfl, fun h => absurd h (by decide)⟩
set_option maxRecDepth 20000 in
theorem kf_X9_314 : Cond.fieldLink RX9 314 RX6 "board" "I" ∈ GW := gw1 147 rfl (by decide +kernel)
theorem fX9_314 : aFd RX9 314 6 3 0 1 := ⟨RX6, TX6, 9, rfl, by decide, kf_X9_314, rfl, fun _ => rfl, fun h => absurd h (by decide)⟩
set_option maxRecDepth 20000 in
theorem kf_X6_22 : Cond.fieldLink RX6 22 RX6 "stain" "I" ∈ GW := gw1 148 rfl (by decide +kernel)
theorem fX6_22 : aFd RX6 22 6 4 0 1 := ⟨RX6, TX6, 9, rfl, by decide, kf_X6_22, rfl, fun _ => rfl, fun h => absurd h (by decide)⟩
set_option maxRecDepth 20000 in
theorem kf_X2_21 : Cond.fieldLink RX2 21 RX6 "stain" "I" ∈ GW := gw1 149 rfl (by decide +kernel)
theorem fX2_21 : aFd RX2 21 6 4 0 1 := ⟨RX6, TX6, 9, rfl, by decide, kf_X2_21, rfl, fun _ => rfl, fun h => absurd h (by decide)⟩
set_option maxRecDepth 20000 in
theorem kf_X6_25 : Cond.fieldLink RX6 25 RX6 "zinc" "I" ∈ GW := gw1 150 rfl (by decide +kernel)
theorem fX6_25 : aFd RX6 25 6 5 0 1 := ⟨RX6, TX6, 9, rfl, by decide, kf_X6_25, rfl, fun _ => rfl, fun h => absurd h (by decide)⟩
set_option maxRecDepth 20000 in
theorem kf_X3_52 : Cond.fieldLink RX3 52 RX6 "zinc" "I" ∈ GW := gw1 151 rfl (by decide +kernel)
theorem fX3_52 : aFd RX3 52 6 5 0 1 := ⟨RX6, TX6, 9, rfl, by decide, kf_X3_52, rfl, fun _ => rfl, fun h => absurd h (by decide)⟩
set_option maxRecDepth 20000 in
theorem kf_X1_67 : Cond.fieldLink RX1 67 RX6 "zinc" "I" ∈ GW := gw1 152 rfl (by decide +kernel)
theorem fX1_67 : aFd RX1 67 6 5 0 1 := ⟨RX6, TX6, 9, rfl, by decide, kf_X1_67, rfl, fun _ => rfl, fun h => absurd h (by decide)⟩
set_option maxRecDepth 20000 in
theorem kf_X9_223 : Cond.fieldLink RX9 223 RX6 "zinc" "I" ∈ GW := gw1 153 rfl (by decide +kernel)
theorem fX9_223 : aFd RX9 223 6 5 0 1 := ⟨RX6, TX6, 9, rfl, by decide, kf_X9_223, rfl, fun _ => rfl, fun h => absurd h (by decide)⟩
set_option maxRecDepth 20000 in
theorem kf_X6_28 : Cond.fieldLink RX6 28 RX6 "deep" "I" ∈ GW := gw1 154 rfl (by decide +kernel)
theorem fX6_28 : aFd RX6 28 6 6 0 1 := ⟨RX6, TX6, 9, rfl, by decide, kf_X6_28, rfl, fun _ => rfl, fun h => absurd h (by decide)⟩
set_option maxRecDepth 20000 in
theorem kf_X7_59 : Cond.fieldLink RX7 59 RX6 "deep" "I" ∈ GW := gw1 155 rfl (by decide +kernel)
theorem fX7_59 : aFd RX7 59 6 6 0 1 := ⟨RX6, TX6, 9, rfl, by decide, kf_X7_59, rfl, fun _ => rfl, fun h => absurd h (by decide)⟩
set_option maxRecDepth 20000 in
theorem kf_X1_73 : Cond.fieldLink RX1 73 RX6 "deep" "I" ∈ GW := gw1 156 rfl (by decide +kernel)
theorem fX1_73 : aFd RX1 73 6 6 0 1 := ⟨RX6, TX6, 9, rfl, by decide, kf_X1_73, rfl, fun _ => rfl, fun h => absurd h (by decide)⟩
set_option maxRecDepth 20000 in
theorem kf_X9_214 : Cond.fieldLink RX9 214 RX6 "deep" "I" ∈ GW := gw1 157 rfl (by decide +kernel)
theorem fX9_214 : aFd RX9 214 6 6 0 1 := ⟨RX6, TX6, 9, rfl, by decide, kf_X9_214, rfl, fun _ => rfl, fun h => absurd h (by decide)⟩
set_option maxRecDepth 20000 in
theorem kf_X6_31 : Cond.fieldLink RX6 31 RX6 "rubs" "I" ∈ GW := gw1 158 rfl (by decide +kernel)
theorem fX6_31 : aFd RX6 31 6 7 0 1 := ⟨RX6, TX6, 9, rfl, by decide, kf_X6_31, rfl, fun _ => rfl, fun h => absurd h (by decide)⟩
set_option maxRecDepth 20000 in
theorem kf_X3_55 : Cond.fieldLink RX3 55 RX6 "rubs" "I" ∈ GW := gw1 159 rfl (by decide +kernel)
theorem fX3_55 : aFd RX3 55 6 7 0 1 := ⟨RX6, TX6, 9, rfl, by decide, kf_X3_55, rfl, fun _ => rfl, fun h => absurd h (by decide)⟩
set_option maxRecDepth 20000 in
theorem kf_X1_75 : Cond.fieldLink RX1 75 RX6 "rubs" "I" ∈ GW := gw1 160 rfl (by decide +kernel)
theorem fX1_75 : aFd RX1 75 6 7 0 1 := ⟨RX6, TX6, 9, rfl, by decide, kf_X1_75, rfl, fun _ => rfl, fun h => absurd h (by decide)⟩
set_option maxRecDepth 20000 in
theorem kf_X9_220 : Cond.fieldLink RX9 220 RX6 "rubs" "I" ∈ GW := gw1 161 rfl (by decide +kernel)
theorem fX9_220 : aFd RX9 220 6 7 0 1 := ⟨RX6, TX6, 9, rfl, by decide, kf_X9_220, rfl, fun _ => rfl, fun h => absurd h (by decide)⟩
set_option maxRecDepth 20000 in
theorem kf_X6_34 : Cond.fieldLink RX6 34 RX6 "came" "I" ∈ GW := gw1 162 rfl (by decide +kernel)
theorem fX6_34 : aFd RX6 34 6 8 0 1 := ⟨RX6, TX6, 9, rfl, by decide, kf_X6_34, rfl, fun _ => rfl, fun h => absurd h (by decide)⟩
set_option maxRecDepth 20000 in
theorem kf_X2_24 : Cond.fieldLink RX2 24 RX6 "came" "I" ∈ GW := gw1 163 rfl (by decide +kernel)
theorem fX2_24 : aFd RX2 24 6 8 0 1 := ⟨RX6, TX6, 9, rfl, by decide, kf_X2_24, rfl, fun _ => rfl, fun h => absurd h (by decide)⟩
set_option maxRecDepth 20000 in
theorem kf_X9_286 : Cond.fieldLink RX9 286 RX6 "came" "I" ∈ GW := gw1 164 rfl (by decide +kernel)
theorem fX9_286 : aFd RX9 286 6 8 0 1 := ⟨RX6, TX6, 9, rfl, by decide, kf_X9_286, rfl, fun _ => rfl, fun h => absurd h (by decide)⟩
set_option maxRecDepth 20000 in
theorem kf_X0_11 : Cond.fieldLink RX0 11 RX0 "rows" "[I" ∈ GW := gw1 190 rfl (by decide +kernel)
theorem fX0_11 : aFd RX0 11 0 0 2 2 := ⟨RX0, TX0, 3, rfl, by decide, kf_X0_11, rfl, fun h => absurd h (by decide), fun _ => ⟨rfl, rfl⟩⟩
set_option maxRecDepth 20000 in
theorem kf_X0_17 : Cond.fieldLink RX0 17 RX0 "count" "I" ∈ GW := gw1 191 rfl (by decide +kernel)
theorem fX0_17 : aFd RX0 17 0 1 0 1 := ⟨RX0, TX0, 3, rfl, by decide, kf_X0_17, rfl, fun _ => rfl, fun h => absurd h (by decide)⟩
set_option maxRecDepth 20000 in
theorem kf_X9_177 : Cond.fieldLink RX9 177 RX0 "count" "I" ∈ GW := gw1 192 rfl (by decide +kernel)
theorem fX9_177 : aFd RX9 177 0 1 0 1 := ⟨RX0, TX0, 3, rfl, by decide, kf_X9_177, rfl, fun _ => rfl, fun h => absurd h (by decide)⟩
set_option maxRecDepth 20000 in
theorem kf_X0_21 : Cond.fieldLink RX0 21 RX0 "next" "I" ∈ GW := gw1 193 rfl (by decide +kernel)
theorem fX0_21 : aFd RX0 21 0 2 0 1 := ⟨RX0, TX0, 3, rfl, by decide, kf_X0_21, rfl, fun _ => rfl, fun h => absurd h (by decide)⟩
set_option maxRecDepth 20000 in
theorem kf_X2_11 : Cond.fieldLink RX2 11 RX2 "rows" "[I" ∈ GW := gw1 207 rfl (by decide +kernel)
theorem fX2_11 : aFd RX2 11 2 0 2 2 := ⟨RX2, TX2, 1, rfl, by decide, kf_X2_11, rfl, fun h => absurd h (by decide), fun _ => ⟨rfl, rfl⟩⟩
set_option maxRecDepth 20000 in
theorem kf_X7_9 : Cond.fieldLink RX7 9 RX7 "rows" "I" ∈ GW := gw1 217 rfl (by decide +kernel)
theorem fX7_9 : aFd RX7 9 7 0 0 1 := ⟨RX7, TX7, 7, rfl, by decide, kf_X7_9, rfl, fun _ => rfl, fun h => absurd h (by decide)⟩
set_option maxRecDepth 20000 in
theorem kf_X9_135 : Cond.fieldLink RX9 135 RX7 "rows" "I" ∈ GW := gw1 218 rfl (by decide +kernel)
theorem fX9_135 : aFd RX9 135 7 0 0 1 := ⟨RX7, TX7, 7, rfl, by decide, kf_X9_135, rfl, fun _ => rfl, fun h => absurd h (by decide)⟩
set_option maxRecDepth 20000 in
theorem kf_X7_15 : Cond.fieldLink RX7 15 RX7 "told" "[I" ∈ GW := gw1 219 rfl (by decide +kernel)
theorem fX7_15 : aFd RX7 15 7 1 2 2 := ⟨RX7, TX7, 7, rfl, by decide, kf_X7_15, rfl, fun h => absurd h (by decide), fun _ => ⟨rfl, rfl⟩⟩
set_option maxRecDepth 20000 in
theorem kf_X7_19 : Cond.fieldLink RX7 19 RX7 "telling" "I" ∈ GW := gw1 220 rfl (by decide +kernel)
theorem fX7_19 : aFd RX7 19 7 2 0 1 := ⟨RX7, TX7, 7, rfl, by decide, kf_X7_19, rfl, fun _ => rfl, fun h => absurd h (by decide)⟩
set_option maxRecDepth 20000 in
theorem kf_X9_273 : Cond.fieldLink RX9 273 RX7 "telling" "I" ∈ GW := gw1 221 rfl (by decide +kernel)
theorem fX9_273 : aFd RX9 273 7 2 0 1 := ⟨RX7, TX7, 7, rfl, by decide, kf_X9_273, rfl, fun _ => rfl, fun h => absurd h (by decide)⟩
set_option maxRecDepth 20000 in
theorem kf_X7_22 : Cond.fieldLink RX7 22 RX7 "leftAtMost" "I" ∈ GW := gw1 222 rfl (by decide +kernel)
theorem fX7_22 : aFd RX7 22 7 3 0 1 := ⟨RX7, TX7, 7, rfl, by decide, kf_X7_22, rfl, fun _ => rfl, fun h => absurd h (by decide)⟩
set_option maxRecDepth 20000 in
theorem kf_X9_276 : Cond.fieldLink RX9 276 RX7 "leftAtMost" "I" ∈ GW := gw1 223 rfl (by decide +kernel)
theorem fX9_276 : aFd RX9 276 7 3 0 1 := ⟨RX7, TX7, 7, rfl, by decide, kf_X9_276, rfl, fun _ => rfl, fun h => absurd h (by decide)⟩
set_option maxRecDepth 20000 in
theorem kf_X7_25 : Cond.fieldLink RX7 25 RX7 "left" "[I" ∈ GW := gw1 224 rfl (by decide +kernel)
theorem fX7_25 : aFd RX7 25 7 4 2 2 := ⟨RX7, TX7, 7, rfl, by decide, kf_X7_25, rfl, fun h => absurd h (by decide), fun _ => ⟨rfl, rfl⟩⟩
set_option maxRecDepth 20000 in
theorem kf_X7_28 : Cond.fieldLink RX7 28 RX7 "preacher" "LZincSermon$Preacher;" ∈ GW := gw1 225 rfl (by decide +kernel)
theorem fX7_28 : aFd RX7 28 7 5 2 2 := ⟨RX7, TX7, 7, rfl, by decide, kf_X7_28, rfl, fun h => absurd h (by decide), fun _ => ⟨rfl, rfl⟩⟩
set_option maxRecDepth 20000 in
theorem kf_X7_32 : Cond.fieldLink RX7 32 RX7 "state" "LZincSermon$State;" ∈ GW := gw1 226 rfl (by decide +kernel)
theorem fX7_32 : aFd RX7 32 7 6 2 2 := ⟨RX7, TX7, 7, rfl, by decide, kf_X7_32, rfl, fun h => absurd h (by decide), fun _ => ⟨rfl, rfl⟩⟩
set_option maxRecDepth 20000 in
theorem kf_X3_9 : Cond.fieldLink RX3 9 RX3 "fresh" "Z" ∈ GW := gw2 8 rfl (by decide +kernel)
theorem fX3_9 : aFd RX3 9 3 0 0 1 := ⟨RX3, TX3, 7, rfl, by decide, kf_X3_9, rfl, fun _ => rfl, fun h => absurd h (by decide)⟩
set_option maxRecDepth 20000 in
theorem kf_X9_225 : Cond.fieldLink RX9 225 RX3 "fresh" "Z" ∈ GW := gw2 9 rfl (by decide +kernel)
theorem fX9_225 : aFd RX9 225 3 0 0 1 := ⟨RX3, TX3, 7, rfl, by decide, kf_X9_225, rfl, fun _ => rfl, fun h => absurd h (by decide)⟩
set_option maxRecDepth 20000 in
theorem kf_X3_15 : Cond.fieldLink RX3 15 RX3 "fewest" "I" ∈ GW := gw2 10 rfl (by decide +kernel)
theorem fX3_15 : aFd RX3 15 3 1 0 1 := ⟨RX3, TX3, 7, rfl, by decide, kf_X3_15, rfl, fun _ => rfl, fun h => absurd h (by decide)⟩
set_option maxRecDepth 20000 in
theorem kf_X9_232 : Cond.fieldLink RX9 232 RX3 "fewest" "I" ∈ GW := gw2 11 rfl (by decide +kernel)
theorem fX9_232 : aFd RX9 232 3 1 0 1 := ⟨RX3, TX3, 7, rfl, by decide, kf_X9_232, rfl, fun _ => rfl, fun h => absurd h (by decide)⟩
set_option maxRecDepth 20000 in
theorem kf_X3_19 : Cond.fieldLink RX3 19 RX3 "best" "[I" ∈ GW := gw2 12 rfl (by decide +kernel)
theorem fX3_19 : aFd RX3 19 3 2 2 2 := ⟨RX3, TX3, 7, rfl, by decide, kf_X3_19, rfl, fun h => absurd h (by decide), fun _ => ⟨rfl, rfl⟩⟩
set_option maxRecDepth 20000 in
theorem kf_X9_235 : Cond.fieldLink RX9 235 RX3 "best" "[I" ∈ GW := gw2 13 rfl (by decide +kernel)
theorem fX9_235 : aFd RX9 235 3 2 2 0 := ⟨RX3, TX3, 7, rfl, by decide, kf_X9_235, rfl, fun h => absurd h (by decide), fun h => absurd h (by decide)⟩
set_option maxRecDepth 20000 in
theorem kf_X3_23 : Cond.fieldLink RX3 23 RX3 "tried" "[I" ∈ GW := gw2 14 rfl (by decide +kernel)
theorem fX3_23 : aFd RX3 23 3 3 2 2 := ⟨RX3, TX3, 7, rfl, by decide, kf_X3_23, rfl, fun h => absurd h (by decide), fun _ => ⟨rfl, rfl⟩⟩
set_option maxRecDepth 20000 in
theorem kf_X3_26 : Cond.fieldLink RX3 26 RX3 "safe" "[I" ∈ GW := gw2 15 rfl (by decide +kernel)
theorem fX3_26 : aFd RX3 26 3 4 2 2 := ⟨RX3, TX3, 7, rfl, by decide, kf_X3_26, rfl, fun h => absurd h (by decide), fun _ => ⟨rfl, rfl⟩⟩
set_option maxRecDepth 20000 in
theorem kf_X3_29 : Cond.fieldLink RX3 29 RX3 "preacher" "LZincSermon$Preacher;" ∈ GW := gw2 16 rfl (by decide +kernel)
theorem fX3_29 : aFd RX3 29 3 5 2 2 := ⟨RX3, TX3, 7, rfl, by decide, kf_X3_29, rfl, fun h => absurd h (by decide), fun _ => ⟨rfl, rfl⟩⟩
set_option maxRecDepth 20000 in
theorem kf_X3_33 : Cond.fieldLink RX3 33 RX3 "state" "LZincSermon$State;" ∈ GW := gw2 17 rfl (by decide +kernel)
theorem fX3_33 : aFd RX3 33 3 6 2 2 := ⟨RX3, TX3, 7, rfl, by decide, kf_X3_33, rfl, fun h => absurd h (by decide), fun _ => ⟨rfl, rfl⟩⟩
set_option maxRecDepth 20000 in
theorem kf_X1_9 : Cond.fieldLink RX1 9 RX1 "board" "I" ∈ GW := gw2 39 rfl (by decide +kernel)
theorem fX1_9 : aFd RX1 9 1 0 0 1 := ⟨RX1, TX1, 8, rfl, by decide, kf_X1_9, rfl, fun _ => rfl, fun h => absurd h (by decide)⟩
set_option maxRecDepth 20000 in
theorem kf_X9_238 : Cond.fieldLink RX9 238 RX1 "board" "I" ∈ GW := gw2 40 rfl (by decide +kernel)
theorem fX9_238 : aFd RX9 238 1 0 0 1 := ⟨RX1, TX1, 8, rfl, by decide, kf_X9_238, rfl, fun _ => rfl, fun h => absurd h (by decide)⟩
set_option maxRecDepth 20000 in
theorem kf_X1_15 : Cond.fieldLink RX1 15 RX1 "most" "I" ∈ GW := gw2 41 rfl (by decide +kernel)
theorem fX1_15 : aFd RX1 15 1 1 0 1 := ⟨RX1, TX1, 8, rfl, by decide, kf_X1_15, rfl, fun _ => rfl, fun h => absurd h (by decide)⟩
set_option maxRecDepth 20000 in
theorem kf_X9_243 : Cond.fieldLink RX9 243 RX1 "most" "I" ∈ GW := gw2 42 rfl (by decide +kernel)
theorem fX9_243 : aFd RX9 243 1 1 0 1 := ⟨RX1, TX1, 8, rfl, by decide, kf_X9_243, rfl, fun _ => rfl, fun h => absurd h (by decide)⟩
set_option maxRecDepth 20000 in
theorem kf_X1_18 : Cond.fieldLink RX1 18 RX1 "fewest" "I" ∈ GW := gw2 43 rfl (by decide +kernel)
theorem fX1_18 : aFd RX1 18 1 2 0 1 := ⟨RX1, TX1, 8, rfl, by decide, kf_X1_18, rfl, fun _ => rfl, fun h => absurd h (by decide)⟩
set_option maxRecDepth 20000 in
theorem kf_X9_246 : Cond.fieldLink RX9 246 RX1 "fewest" "I" ∈ GW := gw2 44 rfl (by decide +kernel)
theorem fX9_246 : aFd RX9 246 1 2 0 1 := ⟨RX1, TX1, 8, rfl, by decide, kf_X9_246, rfl, fun _ => rfl, fun h => absurd h (by decide)⟩
set_option maxRecDepth 20000 in
theorem kf_X1_21 : Cond.fieldLink RX1 21 RX1 "best" "[I" ∈ GW := gw2 45 rfl (by decide +kernel)
theorem fX1_21 : aFd RX1 21 1 3 2 2 := ⟨RX1, TX1, 8, rfl, by decide, kf_X1_21, rfl, fun h => absurd h (by decide), fun _ => ⟨rfl, rfl⟩⟩
set_option maxRecDepth 20000 in
theorem kf_X9_247 : Cond.fieldLink RX9 247 RX1 "best" "[I" ∈ GW := gw2 46 rfl (by decide +kernel)
theorem fX9_247 : aFd RX9 247 1 3 2 0 := ⟨RX1, TX1, 8, rfl, by decide, kf_X9_247, rfl, fun h => absurd h (by decide), fun h => absurd h (by decide)⟩
set_option maxRecDepth 20000 in
theorem kf_X1_25 : Cond.fieldLink RX1 25 RX1 "tried" "[I" ∈ GW := gw2 47 rfl (by decide +kernel)
theorem fX1_25 : aFd RX1 25 1 4 2 2 := ⟨RX1, TX1, 8, rfl, by decide, kf_X1_25, rfl, fun h => absurd h (by decide), fun _ => ⟨rfl, rfl⟩⟩
set_option maxRecDepth 20000 in
theorem kf_X1_28 : Cond.fieldLink RX1 28 RX1 "known" "[I" ∈ GW := gw2 48 rfl (by decide +kernel)
theorem fX1_28 : aFd RX1 28 1 5 2 2 := ⟨RX1, TX1, 8, rfl, by decide, kf_X1_28, rfl, fun h => absurd h (by decide), fun _ => ⟨rfl, rfl⟩⟩
set_option maxRecDepth 20000 in
theorem kf_X1_31 : Cond.fieldLink RX1 31 RX1 "preacher" "LZincSermon$Preacher;" ∈ GW := gw2 49 rfl (by decide +kernel)
theorem fX1_31 : aFd RX1 31 1 6 2 2 := ⟨RX1, TX1, 8, rfl, by decide, kf_X1_31, rfl, fun h => absurd h (by decide), fun _ => ⟨rfl, rfl⟩⟩
set_option maxRecDepth 20000 in
theorem kf_X1_35 : Cond.fieldLink RX1 35 RX1 "state" "LZincSermon$State;" ∈ GW := gw2 50 rfl (by decide +kernel)
theorem fX1_35 : aFd RX1 35 1 7 2 2 := ⟨RX1, TX1, 8, rfl, by decide, kf_X1_35, rfl, fun h => absurd h (by decide), fun _ => ⟨rfl, rfl⟩⟩
