set_option maxRecDepth 20000 in
theorem kl_L_9 : Cond.methodLink R_law 9 yX9_init ∈ GW := gw1 21 rfl (by decide +kernel)
set_option maxRecDepth 20000 in
theorem kc_X9_init : Cond.code mX9_init.1 mX9_init.2.1 mX9_init.2.2.1 mX9_init.2.2.2 ∈ GW := gw1 23 rfl (by decide +kernel)
set_option maxRecDepth 20000 in
theorem ki_X9_init : Cond.instanceMethod yX9_init ∈ GW := gw1 22 rfl (by decide +kernel)
theorem cL_9 : aCi R_law 9 mX9_init 0 := ⟨⟨kc_X9_init, kl_L_9, kn_X9, ⟨by decide +kernel, by decide +kernel, by decide +kernel⟩, by decide⟩, ki_X9_init, rfl, rfl⟩
set_option maxRecDepth 20000 in
theorem kl_L_12 : Cond.methodLink R_law 12 yX10_init ∈ GW := gw5 39 rfl (by decide +kernel)
set_option maxRecDepth 20000 in
theorem kc_X10_init : Cond.code mX10_init.1 mX10_init.2.1 mX10_init.2.2.1 mX10_init.2.2.2 ∈ GW := gw5 41 rfl (by decide +kernel)
set_option maxRecDepth 20000 in
theorem ki_X10_init : Cond.instanceMethod yX10_init ∈ GW := gw5 40 rfl (by decide +kernel)
theorem cL_12 : aCi R_law 12 mX10_init 0 := ⟨⟨kc_X10_init, kl_L_12, kn_X10, ⟨by decide +kernel, by decide +kernel, by decide +kernel⟩, by decide⟩, ki_X10_init, rfl, rfl⟩
set_option maxRecDepth 20000 in
theorem kl_L_13 : Cond.methodLink R_law 13 yX9_feed ∈ GW := gw2 120 rfl (by decide +kernel)
set_option maxRecDepth 20000 in
theorem kc_X9_feed : Cond.code mX9_feed.1 mX9_feed.2.1 mX9_feed.2.2.1 mX9_feed.2.2.2 ∈ GW := gw2 123 rfl (by decide +kernel)
set_option maxRecDepth 20000 in
theorem ki_X9_feed : Cond.instanceMethod yX9_feed ∈ GW := gw2 121 rfl (by decide +kernel)
set_option maxRecDepth 20000 in
theorem ks_X9_feed : Cond.selects RX9 yX9_feed yX9_feed ∈ GW := gw2 122 rfl (by decide +kernel)
theorem cL_13 : aCv R_law 13 9 mX9_feed 5 := ⟨⟨kc_X9_feed, kl_L_13, kn_X9, ⟨by decide +kernel, by decide +kernel, by decide +kernel⟩, by decide⟩, ki_X9_feed, ks_X9_feed, TX9, 17, rfl⟩
set_option maxRecDepth 20000 in
theorem kl_L_17 : Cond.methodLink R_law 17 yX10_feed ∈ GW := gw6 13 rfl (by decide +kernel)
set_option maxRecDepth 20000 in
theorem kc_X10_feed : Cond.code mX10_feed.1 mX10_feed.2.1 mX10_feed.2.2.1 mX10_feed.2.2.2 ∈ GW := gw6 16 rfl (by decide +kernel)
set_option maxRecDepth 20000 in
theorem ki_X10_feed : Cond.instanceMethod yX10_feed ∈ GW := gw6 14 rfl (by decide +kernel)
set_option maxRecDepth 20000 in
theorem ks_X10_feed : Cond.selects RX10 yX10_feed yX10_feed ∈ GW := gw6 15 rfl (by decide +kernel)
theorem cL_17 : aCv R_law 17 10 mX10_feed 5 := ⟨⟨kc_X10_feed, kl_L_17, kn_X10, ⟨by decide +kernel, by decide +kernel, by decide +kernel⟩, by decide⟩, ki_X10_feed, ks_X10_feed, TX10, 69, rfl⟩
set_option maxRecDepth 20000 in
theorem kl_L_18 : Cond.methodLink R_law 18 yX9_end ∈ GW := gw2 132 rfl (by decide +kernel)
set_option maxRecDepth 20000 in
theorem kc_X9_end : Cond.code mX9_end.1 mX9_end.2.1 mX9_end.2.2.1 mX9_end.2.2.2 ∈ GW := gw2 135 rfl (by decide +kernel)
set_option maxRecDepth 20000 in
theorem ki_X9_end : Cond.instanceMethod yX9_end ∈ GW := gw2 133 rfl (by decide +kernel)
set_option maxRecDepth 20000 in
theorem ks_X9_end : Cond.selects RX9 yX9_end yX9_end ∈ GW := gw2 134 rfl (by decide +kernel)
theorem cL_18 : aCv R_law 18 9 mX9_end 1 := ⟨⟨kc_X9_end, kl_L_18, kn_X9, ⟨by decide +kernel, by decide +kernel, by decide +kernel⟩, by decide⟩, ki_X9_end, ks_X9_end, TX9, 17, rfl⟩
set_option maxRecDepth 20000 in
theorem kl_L_22 : Cond.methodLink R_law 22 yX10_end ∈ GW := gw6 25 rfl (by decide +kernel)
set_option maxRecDepth 20000 in
theorem kc_X10_end : Cond.code mX10_end.1 mX10_end.2.1 mX10_end.2.2.1 mX10_end.2.2.2 ∈ GW := gw6 28 rfl (by decide +kernel)
set_option maxRecDepth 20000 in
theorem ki_X10_end : Cond.instanceMethod yX10_end ∈ GW := gw6 26 rfl (by decide +kernel)
set_option maxRecDepth 20000 in
theorem ks_X10_end : Cond.selects RX10 yX10_end yX10_end ∈ GW := gw6 27 rfl (by decide +kernel)
theorem cL_22 : aCv R_law 22 10 mX10_end 1 := ⟨⟨kc_X10_end, kl_L_22, kn_X10, ⟨by decide +kernel, by decide +kernel, by decide +kernel⟩, by decide⟩, ki_X10_end, ks_X10_end, TX10, 69, rfl⟩
set_option maxRecDepth 20000 in
theorem kl_L_23 : Cond.methodLink R_law 23 yX9_chapel ∈ GW := gw2 140 rfl (by decide +kernel)
set_option maxRecDepth 20000 in
theorem kc_X9_chapel : Cond.code mX9_chapel.1 mX9_chapel.2.1 mX9_chapel.2.2.1 mX9_chapel.2.2.2 ∈ GW := gw2 143 rfl (by decide +kernel)
set_option maxRecDepth 20000 in
theorem ki_X9_chapel : Cond.instanceMethod yX9_chapel ∈ GW := gw2 141 rfl (by decide +kernel)
set_option maxRecDepth 20000 in
theorem ks_X9_chapel : Cond.selects RX9 yX9_chapel yX9_chapel ∈ GW := gw2 142 rfl (by decide +kernel)
theorem cL_23 : aCv R_law 23 9 mX9_chapel 0 := ⟨⟨kc_X9_chapel, kl_L_23, kn_X9, ⟨by decide +kernel, by decide +kernel, by decide +kernel⟩, by decide⟩, ki_X9_chapel, ks_X9_chapel, TX9, 17, rfl⟩
set_option maxRecDepth 20000 in
theorem kl_L_27 : Cond.methodLink R_law 27 yX10_chapel ∈ GW := gw6 29 rfl (by decide +kernel)
set_option maxRecDepth 20000 in
theorem kc_X10_chapel : Cond.code mX10_chapel.1 mX10_chapel.2.1 mX10_chapel.2.2.1 mX10_chapel.2.2.2 ∈ GW := gw6 32 rfl (by decide +kernel)
set_option maxRecDepth 20000 in
theorem ki_X10_chapel : Cond.instanceMethod yX10_chapel ∈ GW := gw6 30 rfl (by decide +kernel)
set_option maxRecDepth 20000 in
theorem ks_X10_chapel : Cond.selects RX10 yX10_chapel yX10_chapel ∈ GW := gw6 31 rfl (by decide +kernel)
theorem cL_27 : aCv R_law 27 10 mX10_chapel 0 := ⟨⟨kc_X10_chapel, kl_L_27, kn_X10, ⟨by decide +kernel, by decide +kernel, by decide +kernel⟩, by decide⟩, ki_X10_chapel, ks_X10_chapel, TX10, 69, rfl⟩
set_option maxRecDepth 20000 in
theorem kl_L_28 : Cond.methodLink R_law 28 yX9_fault ∈ GW := gw3 170 rfl (by decide +kernel)
set_option maxRecDepth 20000 in
theorem kc_X9_fault : Cond.code mX9_fault.1 mX9_fault.2.1 mX9_fault.2.2.1 mX9_fault.2.2.2 ∈ GW := gw3 173 rfl (by decide +kernel)
set_option maxRecDepth 20000 in
theorem ki_X9_fault : Cond.instanceMethod yX9_fault ∈ GW := gw3 171 rfl (by decide +kernel)
set_option maxRecDepth 20000 in
theorem ks_X9_fault : Cond.selects RX9 yX9_fault yX9_fault ∈ GW := gw3 172 rfl (by decide +kernel)
theorem cL_28 : aCv R_law 28 9 mX9_fault 1 := ⟨⟨kc_X9_fault, kl_L_28, kn_X9, ⟨by decide +kernel, by decide +kernel, by decide +kernel⟩, by decide⟩, ki_X9_fault, ks_X9_fault, TX9, 17, rfl⟩
set_option maxRecDepth 20000 in
theorem kl_L_32 : Cond.methodLink R_law 32 yX10_fault ∈ GW := gw6 199 rfl (by decide +kernel)
set_option maxRecDepth 20000 in
theorem kc_X10_fault : Cond.code mX10_fault.1 mX10_fault.2.1 mX10_fault.2.2.1 mX10_fault.2.2.2 ∈ GW := gw6 202 rfl (by decide +kernel)
set_option maxRecDepth 20000 in
theorem ki_X10_fault : Cond.instanceMethod yX10_fault ∈ GW := gw6 200 rfl (by decide +kernel)
set_option maxRecDepth 20000 in
theorem ks_X10_fault : Cond.selects RX10 yX10_fault yX10_fault ∈ GW := gw6 201 rfl (by decide +kernel)
theorem cL_32 : aCv R_law 32 10 mX10_fault 1 := ⟨⟨kc_X10_fault, kl_L_32, kn_X10, ⟨by decide +kernel, by decide +kernel, by decide +kernel⟩, by decide⟩, ki_X10_fault, ks_X10_fault, TX10, 69, rfl⟩
set_option maxRecDepth 20000 in
theorem kl_L_33 : Cond.methodLink R_law 33 yX9_has ∈ GW := gw3 174 rfl (by decide +kernel)
set_option maxRecDepth 20000 in
theorem kc_X9_has : Cond.code mX9_has.1 mX9_has.2.1 mX9_has.2.2.1 mX9_has.2.2.2 ∈ GW := gw3 177 rfl (by decide +kernel)
set_option maxRecDepth 20000 in
theorem ki_X9_has : Cond.instanceMethod yX9_has ∈ GW := gw3 175 rfl (by decide +kernel)
set_option maxRecDepth 20000 in
theorem ks_X9_has : Cond.selects RX9 yX9_has yX9_has ∈ GW := gw3 176 rfl (by decide +kernel)
theorem cL_33 : aCv R_law 33 9 mX9_has 1 := ⟨⟨kc_X9_has, kl_L_33, kn_X9, ⟨by decide +kernel, by decide +kernel, by decide +kernel⟩, by decide⟩, ki_X9_has, ks_X9_has, TX9, 17, rfl⟩
set_option maxRecDepth 20000 in
theorem kl_L_36 : Cond.methodLink R_law 36 yX10_has ∈ GW := gw6 219 rfl (by decide +kernel)
set_option maxRecDepth 20000 in
theorem kc_X10_has : Cond.code mX10_has.1 mX10_has.2.1 mX10_has.2.2.1 mX10_has.2.2.2 ∈ GW := gw6 222 rfl (by decide +kernel)
set_option maxRecDepth 20000 in
theorem ki_X10_has : Cond.instanceMethod yX10_has ∈ GW := gw6 220 rfl (by decide +kernel)
set_option maxRecDepth 20000 in
theorem ks_X10_has : Cond.selects RX10 yX10_has yX10_has ∈ GW := gw6 221 rfl (by decide +kernel)
theorem cL_36 : aCv R_law 36 10 mX10_has 1 := ⟨⟨kc_X10_has, kl_L_36, kn_X10, ⟨by decide +kernel, by decide +kernel, by decide +kernel⟩, by decide⟩, ki_X10_has, ks_X10_has, TX10, 69, rfl⟩
set_option maxRecDepth 20000 in
theorem kl_L_37 : Cond.methodLink R_law 37 yX9_letter ∈ GW := gw3 193 rfl (by decide +kernel)
set_option maxRecDepth 20000 in
theorem kc_X9_letter : Cond.code mX9_letter.1 mX9_letter.2.1 mX9_letter.2.2.1 mX9_letter.2.2.2 ∈ GW := gw3 196 rfl (by decide +kernel)
set_option maxRecDepth 20000 in
theorem ki_X9_letter : Cond.instanceMethod yX9_letter ∈ GW := gw3 194 rfl (by decide +kernel)
set_option maxRecDepth 20000 in
theorem ks_X9_letter : Cond.selects RX9 yX9_letter yX9_letter ∈ GW := gw3 195 rfl (by decide +kernel)
theorem cL_37 : aCv R_law 37 9 mX9_letter 3 := ⟨⟨kc_X9_letter, kl_L_37, kn_X9, ⟨by decide +kernel, by decide +kernel, by decide +kernel⟩, by decide⟩, ki_X9_letter, ks_X9_letter, TX9, 17, rfl⟩
set_option maxRecDepth 20000 in
theorem kl_L_41 : Cond.methodLink R_law 41 yX10_letter ∈ GW := gw6 226 rfl (by decide +kernel)
set_option maxRecDepth 20000 in
theorem kc_X10_letter : Cond.code mX10_letter.1 mX10_letter.2.1 mX10_letter.2.2.1 mX10_letter.2.2.2 ∈ GW := gw6 229 rfl (by decide +kernel)
set_option maxRecDepth 20000 in
theorem ki_X10_letter : Cond.instanceMethod yX10_letter ∈ GW := gw6 227 rfl (by decide +kernel)
set_option maxRecDepth 20000 in
theorem ks_X10_letter : Cond.selects RX10 yX10_letter yX10_letter ∈ GW := gw6 228 rfl (by decide +kernel)
theorem cL_41 : aCv R_law 41 10 mX10_letter 3 := ⟨⟨kc_X10_letter, kl_L_41, kn_X10, ⟨by decide +kernel, by decide +kernel, by decide +kernel⟩, by decide⟩, ki_X10_letter, ks_X10_letter, TX10, 69, rfl⟩
set_option maxRecDepth 20000 in
theorem kl_L_42 : Cond.methodLink R_law 42 yX9_board ∈ GW := gw3 201 rfl (by decide +kernel)
set_option maxRecDepth 20000 in
theorem kc_X9_board : Cond.code mX9_board.1 mX9_board.2.1 mX9_board.2.2.1 mX9_board.2.2.2 ∈ GW := gw3 204 rfl (by decide +kernel)
set_option maxRecDepth 20000 in
theorem ki_X9_board : Cond.instanceMethod yX9_board ∈ GW := gw3 202 rfl (by decide +kernel)
set_option maxRecDepth 20000 in
theorem ks_X9_board : Cond.selects RX9 yX9_board yX9_board ∈ GW := gw3 203 rfl (by decide +kernel)
theorem cL_42 : aCv R_law 42 9 mX9_board 2 := ⟨⟨kc_X9_board, kl_L_42, kn_X9, ⟨by decide +kernel, by decide +kernel, by decide +kernel⟩, by decide⟩, ki_X9_board, ks_X9_board, TX9, 17, rfl⟩
set_option maxRecDepth 20000 in
theorem kl_L_46 : Cond.methodLink R_law 46 yX10_board ∈ GW := gw6 231 rfl (by decide +kernel)
set_option maxRecDepth 20000 in
theorem kc_X10_board : Cond.code mX10_board.1 mX10_board.2.1 mX10_board.2.2.1 mX10_board.2.2.2 ∈ GW := gw6 234 rfl (by decide +kernel)
set_option maxRecDepth 20000 in
theorem ki_X10_board : Cond.instanceMethod yX10_board ∈ GW := gw6 232 rfl (by decide +kernel)
set_option maxRecDepth 20000 in
theorem ks_X10_board : Cond.selects RX10 yX10_board yX10_board ∈ GW := gw6 233 rfl (by decide +kernel)
theorem cL_46 : aCv R_law 46 10 mX10_board 2 := ⟨⟨kc_X10_board, kl_L_46, kn_X10, ⟨by decide +kernel, by decide +kernel, by decide +kernel⟩, by decide⟩, ki_X10_board, ks_X10_board, TX10, 69, rfl⟩
set_option maxRecDepth 20000 in
theorem kl_L_47 : Cond.methodLink R_law 47 yX9_stain ∈ GW := gw3 209 rfl (by decide +kernel)
set_option maxRecDepth 20000 in
theorem kc_X9_stain : Cond.code mX9_stain.1 mX9_stain.2.1 mX9_stain.2.2.1 mX9_stain.2.2.2 ∈ GW := gw3 212 rfl (by decide +kernel)
set_option maxRecDepth 20000 in
theorem ki_X9_stain : Cond.instanceMethod yX9_stain ∈ GW := gw3 210 rfl (by decide +kernel)
set_option maxRecDepth 20000 in
theorem ks_X9_stain : Cond.selects RX9 yX9_stain yX9_stain ∈ GW := gw3 211 rfl (by decide +kernel)
theorem cL_47 : aCv R_law 47 9 mX9_stain 2 := ⟨⟨kc_X9_stain, kl_L_47, kn_X9, ⟨by decide +kernel, by decide +kernel, by decide +kernel⟩, by decide⟩, ki_X9_stain, ks_X9_stain, TX9, 17, rfl⟩
set_option maxRecDepth 20000 in
theorem kl_L_50 : Cond.methodLink R_law 50 yX10_stain ∈ GW := gw6 239 rfl (by decide +kernel)
set_option maxRecDepth 20000 in
theorem kc_X10_stain : Cond.code mX10_stain.1 mX10_stain.2.1 mX10_stain.2.2.1 mX10_stain.2.2.2 ∈ GW := gw7 2 rfl (by decide +kernel)
set_option maxRecDepth 20000 in
theorem ki_X10_stain : Cond.instanceMethod yX10_stain ∈ GW := gw7 0 rfl (by decide +kernel)
set_option maxRecDepth 20000 in
theorem ks_X10_stain : Cond.selects RX10 yX10_stain yX10_stain ∈ GW := gw7 1 rfl (by decide +kernel)
theorem cL_50 : aCv R_law 50 10 mX10_stain 2 := ⟨⟨kc_X10_stain, kl_L_50, kn_X10, ⟨by decide +kernel, by decide +kernel, by decide +kernel⟩, by decide⟩, ki_X10_stain, ks_X10_stain, TX10, 69, rfl⟩
set_option maxRecDepth 20000 in
theorem kl_L_51 : Cond.methodLink R_law 51 yX9_hearer ∈ GW := gw3 217 rfl (by decide +kernel)
set_option maxRecDepth 20000 in
theorem kc_X9_hearer : Cond.code mX9_hearer.1 mX9_hearer.2.1 mX9_hearer.2.2.1 mX9_hearer.2.2.2 ∈ GW := gw3 220 rfl (by decide +kernel)
set_option maxRecDepth 20000 in
theorem ki_X9_hearer : Cond.instanceMethod yX9_hearer ∈ GW := gw3 218 rfl (by decide +kernel)
set_option maxRecDepth 20000 in
theorem ks_X9_hearer : Cond.selects RX9 yX9_hearer yX9_hearer ∈ GW := gw3 219 rfl (by decide +kernel)
theorem cL_51 : aCv R_law 51 9 mX9_hearer 2 := ⟨⟨kc_X9_hearer, kl_L_51, kn_X9, ⟨by decide +kernel, by decide +kernel, by decide +kernel⟩, by decide⟩, ki_X9_hearer, ks_X9_hearer, TX9, 17, rfl⟩
set_option maxRecDepth 20000 in
theorem kl_L_54 : Cond.methodLink R_law 54 yX10_hearer ∈ GW := gw7 7 rfl (by decide +kernel)
set_option maxRecDepth 20000 in
theorem kc_X10_hearer : Cond.code mX10_hearer.1 mX10_hearer.2.1 mX10_hearer.2.2.1 mX10_hearer.2.2.2 ∈ GW := gw7 10 rfl (by decide +kernel)
set_option maxRecDepth 20000 in
theorem ki_X10_hearer : Cond.instanceMethod yX10_hearer ∈ GW := gw7 8 rfl (by decide +kernel)
set_option maxRecDepth 20000 in
theorem ks_X10_hearer : Cond.selects RX10 yX10_hearer yX10_hearer ∈ GW := gw7 9 rfl (by decide +kernel)
theorem cL_54 : aCv R_law 54 10 mX10_hearer 2 := ⟨⟨kc_X10_hearer, kl_L_54, kn_X10, ⟨by decide +kernel, by decide +kernel, by decide +kernel⟩, by decide⟩, ki_X10_hearer, ks_X10_hearer, TX10, 69, rfl⟩
set_option maxRecDepth 20000 in
theorem kl_L_55 : Cond.methodLink R_law 55 yX9_strokes ∈ GW := gw3 229 rfl (by decide +kernel)
set_option maxRecDepth 20000 in
theorem kc_X9_strokes : Cond.code mX9_strokes.1 mX9_strokes.2.1 mX9_strokes.2.2.1 mX9_strokes.2.2.2 ∈ GW := gw3 232 rfl (by decide +kernel)
set_option maxRecDepth 20000 in
theorem ki_X9_strokes : Cond.instanceMethod yX9_strokes ∈ GW := gw3 230 rfl (by decide +kernel)
set_option maxRecDepth 20000 in
theorem ks_X9_strokes : Cond.selects RX9 yX9_strokes yX9_strokes ∈ GW := gw3 231 rfl (by decide +kernel)
theorem cL_55 : aCv R_law 55 9 mX9_strokes 3 := ⟨⟨kc_X9_strokes, kl_L_55, kn_X9, ⟨by decide +kernel, by decide +kernel, by decide +kernel⟩, by decide⟩, ki_X9_strokes, ks_X9_strokes, TX9, 17, rfl⟩
set_option maxRecDepth 20000 in
theorem kl_L_58 : Cond.methodLink R_law 58 yX10_strokes ∈ GW := gw7 14 rfl (by decide +kernel)
set_option maxRecDepth 20000 in
theorem kc_X10_strokes : Cond.code mX10_strokes.1 mX10_strokes.2.1 mX10_strokes.2.2.1 mX10_strokes.2.2.2 ∈ GW := gw7 17 rfl (by decide +kernel)
set_option maxRecDepth 20000 in
theorem ki_X10_strokes : Cond.instanceMethod yX10_strokes ∈ GW := gw7 15 rfl (by decide +kernel)
set_option maxRecDepth 20000 in
theorem ks_X10_strokes : Cond.selects RX10 yX10_strokes yX10_strokes ∈ GW := gw7 16 rfl (by decide +kernel)
theorem cL_58 : aCv R_law 58 10 mX10_strokes 3 := ⟨⟨kc_X10_strokes, kl_L_58, kn_X10, ⟨by decide +kernel, by decide +kernel, by decide +kernel⟩, by decide⟩, ki_X10_strokes, ks_X10_strokes, TX10, 69, rfl⟩
set_option maxRecDepth 20000 in
theorem kl_L_59 : Cond.methodLink R_law 59 yX9_needed ∈ GW := gw4 34 rfl (by decide +kernel)
set_option maxRecDepth 20000 in
theorem kc_X9_needed : Cond.code mX9_needed.1 mX9_needed.2.1 mX9_needed.2.2.1 mX9_needed.2.2.2 ∈ GW := gw4 37 rfl (by decide +kernel)
set_option maxRecDepth 20000 in
theorem ki_X9_needed : Cond.instanceMethod yX9_needed ∈ GW := gw4 35 rfl (by decide +kernel)
set_option maxRecDepth 20000 in
theorem ks_X9_needed : Cond.selects RX9 yX9_needed yX9_needed ∈ GW := gw4 36 rfl (by decide +kernel)
theorem cL_59 : aCv R_law 59 9 mX9_needed 3 := ⟨⟨kc_X9_needed, kl_L_59, kn_X9, ⟨by decide +kernel, by decide +kernel, by decide +kernel⟩, by decide⟩, ki_X9_needed, ks_X9_needed, TX9, 17, rfl⟩
set_option maxRecDepth 20000 in
theorem kl_L_62 : Cond.methodLink R_law 62 yX10_needed ∈ GW := gw7 50 rfl (by decide +kernel)
set_option maxRecDepth 20000 in
theorem kc_X10_needed : Cond.code mX10_needed.1 mX10_needed.2.1 mX10_needed.2.2.1 mX10_needed.2.2.2 ∈ GW := gw7 53 rfl (by decide +kernel)
set_option maxRecDepth 20000 in
theorem ki_X10_needed : Cond.instanceMethod yX10_needed ∈ GW := gw7 51 rfl (by decide +kernel)
set_option maxRecDepth 20000 in
theorem ks_X10_needed : Cond.selects RX10 yX10_needed yX10_needed ∈ GW := gw7 52 rfl (by decide +kernel)
theorem cL_62 : aCv R_law 62 10 mX10_needed 3 := ⟨⟨kc_X10_needed, kl_L_62, kn_X10, ⟨by decide +kernel, by decide +kernel, by decide +kernel⟩, by decide⟩, ki_X10_needed, ks_X10_needed, TX10, 69, rfl⟩
set_option maxRecDepth 20000 in
theorem kl_L_63 : Cond.methodLink R_law 63 yX9_best ∈ GW := gw4 44 rfl (by decide +kernel)
set_option maxRecDepth 20000 in
theorem kc_X9_best : Cond.code mX9_best.1 mX9_best.2.1 mX9_best.2.2.1 mX9_best.2.2.2 ∈ GW := gw4 47 rfl (by decide +kernel)
set_option maxRecDepth 20000 in
theorem ki_X9_best : Cond.instanceMethod yX9_best ∈ GW := gw4 45 rfl (by decide +kernel)
set_option maxRecDepth 20000 in
theorem ks_X9_best : Cond.selects RX9 yX9_best yX9_best ∈ GW := gw4 46 rfl (by decide +kernel)
theorem cL_63 : aCv R_law 63 9 mX9_best 1 := ⟨⟨kc_X9_best, kl_L_63, kn_X9, ⟨by decide +kernel, by decide +kernel, by decide +kernel⟩, by decide⟩, ki_X9_best, ks_X9_best, TX9, 17, rfl⟩
set_option maxRecDepth 20000 in
theorem kl_L_66 : Cond.methodLink R_law 66 yX10_best ∈ GW := gw7 62 rfl (by decide +kernel)
set_option maxRecDepth 20000 in
theorem kc_X10_best : Cond.code mX10_best.1 mX10_best.2.1 mX10_best.2.2.1 mX10_best.2.2.2 ∈ GW := gw7 65 rfl (by decide +kernel)
set_option maxRecDepth 20000 in
theorem ki_X10_best : Cond.instanceMethod yX10_best ∈ GW := gw7 63 rfl (by decide +kernel)
set_option maxRecDepth 20000 in
theorem ks_X10_best : Cond.selects RX10 yX10_best yX10_best ∈ GW := gw7 64 rfl (by decide +kernel)
theorem cL_66 : aCv R_law 66 10 mX10_best 1 := ⟨⟨kc_X10_best, kl_L_66, kn_X10, ⟨by decide +kernel, by decide +kernel, by decide +kernel⟩, by decide⟩, ki_X10_best, ks_X10_best, TX10, 69, rfl⟩
set_option maxRecDepth 20000 in
theorem kl_L_67 : Cond.methodLink R_law 67 yX9_match ∈ GW := gw4 48 rfl (by decide +kernel)
set_option maxRecDepth 20000 in
theorem kc_X9_match : Cond.code mX9_match.1 mX9_match.2.1 mX9_match.2.2.1 mX9_match.2.2.2 ∈ GW := gw4 51 rfl (by decide +kernel)
set_option maxRecDepth 20000 in
theorem ki_X9_match : Cond.instanceMethod yX9_match ∈ GW := gw4 49 rfl (by decide +kernel)
set_option maxRecDepth 20000 in
theorem ks_X9_match : Cond.selects RX9 yX9_match yX9_match ∈ GW := gw4 50 rfl (by decide +kernel)
theorem cL_67 : aCv R_law 67 9 mX9_match 1 := ⟨⟨kc_X9_match, kl_L_67, kn_X9, ⟨by decide +kernel, by decide +kernel, by decide +kernel⟩, by decide⟩, ki_X9_match, ks_X9_match, TX9, 17, rfl⟩
set_option maxRecDepth 20000 in
theorem kl_L_70 : Cond.methodLink R_law 70 yX10_match ∈ GW := gw7 67 rfl (by decide +kernel)
set_option maxRecDepth 20000 in
theorem kc_X10_match : Cond.code mX10_match.1 mX10_match.2.1 mX10_match.2.2.1 mX10_match.2.2.2 ∈ GW := gw7 70 rfl (by decide +kernel)
set_option maxRecDepth 20000 in
theorem ki_X10_match : Cond.instanceMethod yX10_match ∈ GW := gw7 68 rfl (by decide +kernel)
set_option maxRecDepth 20000 in
theorem ks_X10_match : Cond.selects RX10 yX10_match yX10_match ∈ GW := gw7 69 rfl (by decide +kernel)
theorem cL_70 : aCv R_law 70 10 mX10_match 1 := ⟨⟨kc_X10_match, kl_L_70, kn_X10, ⟨by decide +kernel, by decide +kernel, by decide +kernel⟩, by decide⟩, ki_X10_match, ks_X10_match, TX10, 69, rfl⟩
set_option maxRecDepth 20000 in
theorem kl_L_71 : Cond.methodLink R_law 71 yX9_heads ∈ GW := gw4 64 rfl (by decide +kernel)
set_option maxRecDepth 20000 in
theorem kc_X9_heads : Cond.code mX9_heads.1 mX9_heads.2.1 mX9_heads.2.2.1 mX9_heads.2.2.2 ∈ GW := gw4 67 rfl (by decide +kernel)
set_option maxRecDepth 20000 in
theorem ki_X9_heads : Cond.instanceMethod yX9_heads ∈ GW := gw4 65 rfl (by decide +kernel)
set_option maxRecDepth 20000 in
theorem ks_X9_heads : Cond.selects RX9 yX9_heads yX9_heads ∈ GW := gw4 66 rfl (by decide +kernel)
theorem cL_71 : aCv R_law 71 9 mX9_heads 2 := ⟨⟨kc_X9_heads, kl_L_71, kn_X9, ⟨by decide +kernel, by decide +kernel, by decide +kernel⟩, by decide⟩, ki_X9_heads, ks_X9_heads, TX9, 17, rfl⟩
set_option maxRecDepth 20000 in
theorem kl_L_74 : Cond.methodLink R_law 74 yX10_heads ∈ GW := gw7 91 rfl (by decide +kernel)
set_option maxRecDepth 20000 in
theorem kc_X10_heads : Cond.code mX10_heads.1 mX10_heads.2.1 mX10_heads.2.2.1 mX10_heads.2.2.2 ∈ GW := gw7 94 rfl (by decide +kernel)
set_option maxRecDepth 20000 in
theorem ki_X10_heads : Cond.instanceMethod yX10_heads ∈ GW := gw7 92 rfl (by decide +kernel)
set_option maxRecDepth 20000 in
theorem ks_X10_heads : Cond.selects RX10 yX10_heads yX10_heads ∈ GW := gw7 93 rfl (by decide +kernel)
theorem cL_74 : aCv R_law 74 10 mX10_heads 2 := ⟨⟨kc_X10_heads, kl_L_74, kn_X10, ⟨by decide +kernel, by decide +kernel, by decide +kernel⟩, by decide⟩, ki_X10_heads, ks_X10_heads, TX10, 69, rfl⟩
set_option maxRecDepth 20000 in
theorem kl_L_75 : Cond.methodLink R_law 75 yX9_later ∈ GW := gw4 83 rfl (by decide +kernel)
set_option maxRecDepth 20000 in
theorem kc_X9_later : Cond.code mX9_later.1 mX9_later.2.1 mX9_later.2.2.1 mX9_later.2.2.2 ∈ GW := gw4 86 rfl (by decide +kernel)
set_option maxRecDepth 20000 in
theorem ki_X9_later : Cond.instanceMethod yX9_later ∈ GW := gw4 84 rfl (by decide +kernel)
set_option maxRecDepth 20000 in
theorem ks_X9_later : Cond.selects RX9 yX9_later yX9_later ∈ GW := gw4 85 rfl (by decide +kernel)
theorem cL_75 : aCv R_law 75 9 mX9_later 2 := ⟨⟨kc_X9_later, kl_L_75, kn_X9, ⟨by decide +kernel, by decide +kernel, by decide +kernel⟩, by decide⟩, ki_X9_later, ks_X9_later, TX9, 17, rfl⟩
set_option maxRecDepth 20000 in
theorem kl_L_78 : Cond.methodLink R_law 78 yX10_later ∈ GW := gw7 99 rfl (by decide +kernel)
set_option maxRecDepth 20000 in
theorem kc_X10_later : Cond.code mX10_later.1 mX10_later.2.1 mX10_later.2.2.1 mX10_later.2.2.2 ∈ GW := gw7 102 rfl (by decide +kernel)
set_option maxRecDepth 20000 in
theorem ki_X10_later : Cond.instanceMethod yX10_later ∈ GW := gw7 100 rfl (by decide +kernel)
set_option maxRecDepth 20000 in
theorem ks_X10_later : Cond.selects RX10 yX10_later yX10_later ∈ GW := gw7 101 rfl (by decide +kernel)
theorem cL_78 : aCv R_law 78 10 mX10_later 2 := ⟨⟨kc_X10_later, kl_L_78, kn_X10, ⟨by decide +kernel, by decide +kernel, by decide +kernel⟩, by decide⟩, ki_X10_later, ks_X10_later, TX10, 69, rfl⟩
set_option maxRecDepth 20000 in
theorem kl_L_79 : Cond.methodLink R_law 79 yX9_worn ∈ GW := gw4 126 rfl (by decide +kernel)
set_option maxRecDepth 20000 in
theorem kc_X9_worn : Cond.code mX9_worn.1 mX9_worn.2.1 mX9_worn.2.2.1 mX9_worn.2.2.2 ∈ GW := gw4 129 rfl (by decide +kernel)
set_option maxRecDepth 20000 in
theorem ki_X9_worn : Cond.instanceMethod yX9_worn ∈ GW := gw4 127 rfl (by decide +kernel)
set_option maxRecDepth 20000 in
theorem ks_X9_worn : Cond.selects RX9 yX9_worn yX9_worn ∈ GW := gw4 128 rfl (by decide +kernel)
theorem cL_79 : aCv R_law 79 9 mX9_worn 2 := ⟨⟨kc_X9_worn, kl_L_79, kn_X9, ⟨by decide +kernel, by decide +kernel, by decide +kernel⟩, by decide⟩, ki_X9_worn, ks_X9_worn, TX9, 17, rfl⟩
set_option maxRecDepth 20000 in
theorem kl_L_82 : Cond.methodLink R_law 82 yX10_worn ∈ GW := gw7 135 rfl (by decide +kernel)
set_option maxRecDepth 20000 in
theorem kc_X10_worn : Cond.code mX10_worn.1 mX10_worn.2.1 mX10_worn.2.2.1 mX10_worn.2.2.2 ∈ GW := gw7 138 rfl (by decide +kernel)
set_option maxRecDepth 20000 in
theorem ki_X10_worn : Cond.instanceMethod yX10_worn ∈ GW := gw7 136 rfl (by decide +kernel)
set_option maxRecDepth 20000 in
theorem ks_X10_worn : Cond.selects RX10 yX10_worn yX10_worn ∈ GW := gw7 137 rfl (by decide +kernel)
theorem cL_82 : aCv R_law 82 10 mX10_worn 2 := ⟨⟨kc_X10_worn, kl_L_82, kn_X10, ⟨by decide +kernel, by decide +kernel, by decide +kernel⟩, by decide⟩, ki_X10_worn, ks_X10_worn, TX10, 69, rfl⟩
set_option maxRecDepth 20000 in
theorem kl_L_83 : Cond.methodLink R_law 83 yX9_saved ∈ GW := gw4 130 rfl (by decide +kernel)
set_option maxRecDepth 20000 in
theorem kc_X9_saved : Cond.code mX9_saved.1 mX9_saved.2.1 mX9_saved.2.2.1 mX9_saved.2.2.2 ∈ GW := gw4 133 rfl (by decide +kernel)
set_option maxRecDepth 20000 in
theorem ki_X9_saved : Cond.instanceMethod yX9_saved ∈ GW := gw4 131 rfl (by decide +kernel)
set_option maxRecDepth 20000 in
theorem ks_X9_saved : Cond.selects RX9 yX9_saved yX9_saved ∈ GW := gw4 132 rfl (by decide +kernel)
theorem cL_83 : aCv R_law 83 9 mX9_saved 1 := ⟨⟨kc_X9_saved, kl_L_83, kn_X9, ⟨by decide +kernel, by decide +kernel, by decide +kernel⟩, by decide⟩, ki_X9_saved, ks_X9_saved, TX9, 17, rfl⟩
set_option maxRecDepth 20000 in
theorem kl_L_86 : Cond.methodLink R_law 86 yX10_saved ∈ GW := gw7 139 rfl (by decide +kernel)
set_option maxRecDepth 20000 in
theorem kc_X10_saved : Cond.code mX10_saved.1 mX10_saved.2.1 mX10_saved.2.2.1 mX10_saved.2.2.2 ∈ GW := gw7 142 rfl (by decide +kernel)
set_option maxRecDepth 20000 in
theorem ki_X10_saved : Cond.instanceMethod yX10_saved ∈ GW := gw7 140 rfl (by decide +kernel)
set_option maxRecDepth 20000 in
theorem ks_X10_saved : Cond.selects RX10 yX10_saved yX10_saved ∈ GW := gw7 141 rfl (by decide +kernel)
theorem cL_86 : aCv R_law 86 10 mX10_saved 1 := ⟨⟨kc_X10_saved, kl_L_86, kn_X10, ⟨by decide +kernel, by decide +kernel, by decide +kernel⟩, by decide⟩, ki_X10_saved, ks_X10_saved, TX10, 69, rfl⟩
set_option maxRecDepth 20000 in
theorem kl_L_87 : Cond.methodLink R_law 87 yX9_clean ∈ GW := gw4 134 rfl (by decide +kernel)
set_option maxRecDepth 20000 in
theorem kc_X9_clean : Cond.code mX9_clean.1 mX9_clean.2.1 mX9_clean.2.2.1 mX9_clean.2.2.2 ∈ GW := gw4 137 rfl (by decide +kernel)
set_option maxRecDepth 20000 in
theorem ki_X9_clean : Cond.instanceMethod yX9_clean ∈ GW := gw4 135 rfl (by decide +kernel)
set_option maxRecDepth 20000 in
theorem ks_X9_clean : Cond.selects RX9 yX9_clean yX9_clean ∈ GW := gw4 136 rfl (by decide +kernel)
theorem cL_87 : aCv R_law 87 9 mX9_clean 0 := ⟨⟨kc_X9_clean, kl_L_87, kn_X9, ⟨by decide +kernel, by decide +kernel, by decide +kernel⟩, by decide⟩, ki_X9_clean, ks_X9_clean, TX9, 17, rfl⟩
set_option maxRecDepth 20000 in
theorem kl_L_90 : Cond.methodLink R_law 90 yX10_clean ∈ GW := gw7 143 rfl (by decide +kernel)
set_option maxRecDepth 20000 in
theorem kc_X10_clean : Cond.code mX10_clean.1 mX10_clean.2.1 mX10_clean.2.2.1 mX10_clean.2.2.2 ∈ GW := gw7 146 rfl (by decide +kernel)
set_option maxRecDepth 20000 in
theorem ki_X10_clean : Cond.instanceMethod yX10_clean ∈ GW := gw7 144 rfl (by decide +kernel)
set_option maxRecDepth 20000 in
theorem ks_X10_clean : Cond.selects RX10 yX10_clean yX10_clean ∈ GW := gw7 145 rfl (by decide +kernel)
theorem cL_90 : aCv R_law 90 10 mX10_clean 0 := ⟨⟨kc_X10_clean, kl_L_90, kn_X10, ⟨by decide +kernel, by decide +kernel, by decide +kernel⟩, by decide⟩, ki_X10_clean, ks_X10_clean, TX10, 69, rfl⟩
set_option maxRecDepth 20000 in
theorem kl_L_91 : Cond.methodLink R_law 91 yX9_see ∈ GW := gw4 138 rfl (by decide +kernel)
set_option maxRecDepth 20000 in
theorem kc_X9_see : Cond.code mX9_see.1 mX9_see.2.1 mX9_see.2.2.1 mX9_see.2.2.2 ∈ GW := gw4 141 rfl (by decide +kernel)
set_option maxRecDepth 20000 in
theorem ki_X9_see : Cond.instanceMethod yX9_see ∈ GW := gw4 139 rfl (by decide +kernel)
set_option maxRecDepth 20000 in
theorem ks_X9_see : Cond.selects RX9 yX9_see yX9_see ∈ GW := gw4 140 rfl (by decide +kernel)
theorem cL_91 : aCv R_law 91 9 mX9_see 0 := ⟨⟨kc_X9_see, kl_L_91, kn_X9, ⟨by decide +kernel, by decide +kernel, by decide +kernel⟩, by decide⟩, ki_X9_see, ks_X9_see, TX9, 17, rfl⟩
set_option maxRecDepth 20000 in
theorem kl_L_94 : Cond.methodLink R_law 94 yX10_see ∈ GW := gw7 147 rfl (by decide +kernel)
set_option maxRecDepth 20000 in
theorem kc_X10_see : Cond.code mX10_see.1 mX10_see.2.1 mX10_see.2.2.1 mX10_see.2.2.2 ∈ GW := gw7 150 rfl (by decide +kernel)
set_option maxRecDepth 20000 in
theorem ki_X10_see : Cond.instanceMethod yX10_see ∈ GW := gw7 148 rfl (by decide +kernel)
set_option maxRecDepth 20000 in
theorem ks_X10_see : Cond.selects RX10 yX10_see yX10_see ∈ GW := gw7 149 rfl (by decide +kernel)
theorem cL_94 : aCv R_law 94 10 mX10_see 0 := ⟨⟨kc_X10_see, kl_L_94, kn_X10, ⟨by decide +kernel, by decide +kernel, by decide +kernel⟩, by decide⟩, ki_X10_see, ks_X10_see, TX10, 69, rfl⟩
set_option maxRecDepth 20000 in
theorem kl_L_95 : Cond.methodLink R_law 95 yX9_which ∈ GW := gw4 146 rfl (by decide +kernel)
set_option maxRecDepth 20000 in
theorem kc_X9_which : Cond.code mX9_which.1 mX9_which.2.1 mX9_which.2.2.1 mX9_which.2.2.2 ∈ GW := gw4 149 rfl (by decide +kernel)
set_option maxRecDepth 20000 in
theorem ki_X9_which : Cond.instanceMethod yX9_which ∈ GW := gw4 147 rfl (by decide +kernel)
set_option maxRecDepth 20000 in
theorem ks_X9_which : Cond.selects RX9 yX9_which yX9_which ∈ GW := gw4 148 rfl (by decide +kernel)
theorem cL_95 : aCv R_law 95 9 mX9_which 0 := ⟨⟨kc_X9_which, kl_L_95, kn_X9, ⟨by decide +kernel, by decide +kernel, by decide +kernel⟩, by decide⟩, ki_X9_which, ks_X9_which, TX9, 17, rfl⟩
set_option maxRecDepth 20000 in
theorem kl_L_98 : Cond.methodLink R_law 98 yX10_which ∈ GW := gw7 151 rfl (by decide +kernel)
theorem cL_98 : aCv R_law 98 10 mX10_which 0 := ⟨⟨kc_X10_which, kl_L_98, kn_X10, ⟨by decide +kernel, by decide +kernel, by decide +kernel⟩, by decide⟩, ki_X10_which, ks_X10_which, TX10, 69, rfl⟩
set_option maxRecDepth 20000 in
theorem kl_L_99 : Cond.methodLink R_law 99 yX9_tells ∈ GW := gw4 160 rfl (by decide +kernel)
set_option maxRecDepth 20000 in
theorem kc_X9_tells : Cond.code mX9_tells.1 mX9_tells.2.1 mX9_tells.2.2.1 mX9_tells.2.2.2 ∈ GW := gw4 163 rfl (by decide +kernel)
set_option maxRecDepth 20000 in
theorem ki_X9_tells : Cond.instanceMethod yX9_tells ∈ GW := gw4 161 rfl (by decide +kernel)
set_option maxRecDepth 20000 in
theorem ks_X9_tells : Cond.selects RX9 yX9_tells yX9_tells ∈ GW := gw4 162 rfl (by decide +kernel)
theorem cL_99 : aCv R_law 99 9 mX9_tells 2 := ⟨⟨kc_X9_tells, kl_L_99, kn_X9, ⟨by decide +kernel, by decide +kernel, by decide +kernel⟩, by decide⟩, ki_X9_tells, ks_X9_tells, TX9, 17, rfl⟩
set_option maxRecDepth 20000 in
theorem kl_L_102 : Cond.methodLink R_law 102 yX10_tells ∈ GW := gw7 159 rfl (by decide +kernel)
set_option maxRecDepth 20000 in
theorem kc_X10_tells : Cond.code mX10_tells.1 mX10_tells.2.1 mX10_tells.2.2.1 mX10_tells.2.2.2 ∈ GW := gw7 162 rfl (by decide +kernel)
set_option maxRecDepth 20000 in
theorem ki_X10_tells : Cond.instanceMethod yX10_tells ∈ GW := gw7 160 rfl (by decide +kernel)
set_option maxRecDepth 20000 in
theorem ks_X10_tells : Cond.selects RX10 yX10_tells yX10_tells ∈ GW := gw7 161 rfl (by decide +kernel)
theorem cL_102 : aCv R_law 102 10 mX10_tells 2 := ⟨⟨kc_X10_tells, kl_L_102, kn_X10, ⟨by decide +kernel, by decide +kernel, by decide +kernel⟩, by decide⟩, ki_X10_tells, ks_X10_tells, TX10, 69, rfl⟩
set_option maxRecDepth 20000 in
theorem kl_L_103 : Cond.methodLink R_law 103 yX9_weeks ∈ GW := gw4 173 rfl (by decide +kernel)
set_option maxRecDepth 20000 in
theorem kc_X9_weeks : Cond.code mX9_weeks.1 mX9_weeks.2.1 mX9_weeks.2.2.1 mX9_weeks.2.2.2 ∈ GW := gw4 176 rfl (by decide +kernel)
set_option maxRecDepth 20000 in
theorem ki_X9_weeks : Cond.instanceMethod yX9_weeks ∈ GW := gw4 174 rfl (by decide +kernel)
set_option maxRecDepth 20000 in
theorem ks_X9_weeks : Cond.selects RX9 yX9_weeks yX9_weeks ∈ GW := gw4 175 rfl (by decide +kernel)
theorem cL_103 : aCv R_law 103 9 mX9_weeks 1 := ⟨⟨kc_X9_weeks, kl_L_103, kn_X9, ⟨by decide +kernel, by decide +kernel, by decide +kernel⟩, by decide⟩, ki_X9_weeks, ks_X9_weeks, TX9, 17, rfl⟩
set_option maxRecDepth 20000 in
theorem kl_L_106 : Cond.methodLink R_law 106 yX10_weeks ∈ GW := gw7 164 rfl (by decide +kernel)
set_option maxRecDepth 20000 in
theorem kc_X10_weeks : Cond.code mX10_weeks.1 mX10_weeks.2.1 mX10_weeks.2.2.1 mX10_weeks.2.2.2 ∈ GW := gw7 167 rfl (by decide +kernel)
set_option maxRecDepth 20000 in
theorem ki_X10_weeks : Cond.instanceMethod yX10_weeks ∈ GW := gw7 165 rfl (by decide +kernel)
set_option maxRecDepth 20000 in
theorem ks_X10_weeks : Cond.selects RX10 yX10_weeks yX10_weeks ∈ GW := gw7 166 rfl (by decide +kernel)
theorem cL_106 : aCv R_law 106 10 mX10_weeks 1 := ⟨⟨kc_X10_weeks, kl_L_106, kn_X10, ⟨by decide +kernel, by decide +kernel, by decide +kernel⟩, by decide⟩, ki_X10_weeks, ks_X10_weeks, TX10, 69, rfl⟩
set_option maxRecDepth 20000 in
theorem kl_L_107 : Cond.methodLink R_law 107 yX9_chance ∈ GW := gw4 199 rfl (by decide +kernel)
set_option maxRecDepth 20000 in
theorem kc_X9_chance : Cond.code mX9_chance.1 mX9_chance.2.1 mX9_chance.2.2.1 mX9_chance.2.2.2 ∈ GW := gw4 202 rfl (by decide +kernel)
set_option maxRecDepth 20000 in
theorem ki_X9_chance : Cond.instanceMethod yX9_chance ∈ GW := gw4 200 rfl (by decide +kernel)
set_option maxRecDepth 20000 in
theorem ks_X9_chance : Cond.selects RX9 yX9_chance yX9_chance ∈ GW := gw4 201 rfl (by decide +kernel)
theorem cL_107 : aCv R_law 107 9 mX9_chance 1 := ⟨⟨kc_X9_chance, kl_L_107, kn_X9, ⟨by decide +kernel, by decide +kernel, by decide +kernel⟩, by decide⟩, ki_X9_chance, ks_X9_chance, TX9, 17, rfl⟩
set_option maxRecDepth 20000 in
theorem kl_L_110 : Cond.methodLink R_law 110 yX10_chance ∈ GW := gw7 172 rfl (by decide +kernel)
set_option maxRecDepth 20000 in
theorem kc_X10_chance : Cond.code mX10_chance.1 mX10_chance.2.1 mX10_chance.2.2.1 mX10_chance.2.2.2 ∈ GW := gw7 175 rfl (by decide +kernel)
set_option maxRecDepth 20000 in
theorem ki_X10_chance : Cond.instanceMethod yX10_chance ∈ GW := gw7 173 rfl (by decide +kernel)
set_option maxRecDepth 20000 in
theorem ks_X10_chance : Cond.selects RX10 yX10_chance yX10_chance ∈ GW := gw7 174 rfl (by decide +kernel)
theorem cL_110 : aCv R_law 110 10 mX10_chance 1 := ⟨⟨kc_X10_chance, kl_L_110, kn_X10, ⟨by decide +kernel, by decide +kernel, by decide +kernel⟩, by decide⟩, ki_X10_chance, ks_X10_chance, TX10, 69, rfl⟩
set_option maxRecDepth 20000 in
theorem kl_L_111 : Cond.methodLink R_law 111 yX9_sermon ∈ GW := gw4 211 rfl (by decide +kernel)
set_option maxRecDepth 20000 in
theorem kc_X9_sermon : Cond.code mX9_sermon.1 mX9_sermon.2.1 mX9_sermon.2.2.1 mX9_sermon.2.2.2 ∈ GW := gw4 214 rfl (by decide +kernel)
set_option maxRecDepth 20000 in
theorem ki_X9_sermon : Cond.instanceMethod yX9_sermon ∈ GW := gw4 212 rfl (by decide +kernel)
set_option maxRecDepth 20000 in
theorem ks_X9_sermon : Cond.selects RX9 yX9_sermon yX9_sermon ∈ GW := gw4 213 rfl (by decide +kernel)
theorem cL_111 : aCv R_law 111 9 mX9_sermon 3 := ⟨⟨kc_X9_sermon, kl_L_111, kn_X9, ⟨by decide +kernel, by decide +kernel, by decide +kernel⟩, by decide⟩, ki_X9_sermon, ks_X9_sermon, TX9, 17, rfl⟩
set_option maxRecDepth 20000 in
theorem kl_L_114 : Cond.methodLink R_law 114 yX10_sermon ∈ GW := gw7 184 rfl (by decide +kernel)
set_option maxRecDepth 20000 in
theorem kc_X10_sermon : Cond.code mX10_sermon.1 mX10_sermon.2.1 mX10_sermon.2.2.1 mX10_sermon.2.2.2 ∈ GW := gw7 187 rfl (by decide +kernel)
set_option maxRecDepth 20000 in
theorem ki_X10_sermon : Cond.instanceMethod yX10_sermon ∈ GW := gw7 185 rfl (by decide +kernel)
set_option maxRecDepth 20000 in
theorem ks_X10_sermon : Cond.selects RX10 yX10_sermon yX10_sermon ∈ GW := gw7 186 rfl (by decide +kernel)
theorem cL_114 : aCv R_law 114 10 mX10_sermon 3 := ⟨⟨kc_X10_sermon, kl_L_114, kn_X10, ⟨by decide +kernel, by decide +kernel, by decide +kernel⟩, by decide⟩, ki_X10_sermon, ks_X10_sermon, TX10, 69, rfl⟩
set_option maxRecDepth 20000 in
theorem kl_L_115 : Cond.methodLink R_law 115 yX9_soil ∈ GW := gw4 216 rfl (by decide +kernel)
set_option maxRecDepth 20000 in
theorem kc_X9_soil : Cond.code mX9_soil.1 mX9_soil.2.1 mX9_soil.2.2.1 mX9_soil.2.2.2 ∈ GW := gw4 219 rfl (by decide +kernel)
set_option maxRecDepth 20000 in
theorem ki_X9_soil : Cond.instanceMethod yX9_soil ∈ GW := gw4 217 rfl (by decide +kernel)
set_option maxRecDepth 20000 in
theorem ks_X9_soil : Cond.selects RX9 yX9_soil yX9_soil ∈ GW := gw4 218 rfl (by decide +kernel)
theorem cL_115 : aCv R_law 115 9 mX9_soil 2 := ⟨⟨kc_X9_soil, kl_L_115, kn_X9, ⟨by decide +kernel, by decide +kernel, by decide +kernel⟩, by decide⟩, ki_X9_soil, ks_X9_soil, TX9, 17, rfl⟩
set_option maxRecDepth 20000 in
theorem kl_L_118 : Cond.methodLink R_law 118 yX10_soil ∈ GW := gw7 188 rfl (by decide +kernel)
set_option maxRecDepth 20000 in
theorem kc_X10_soil : Cond.code mX10_soil.1 mX10_soil.2.1 mX10_soil.2.2.1 mX10_soil.2.2.2 ∈ GW := gw7 191 rfl (by decide +kernel)
set_option maxRecDepth 20000 in
theorem ki_X10_soil : Cond.instanceMethod yX10_soil ∈ GW := gw7 189 rfl (by decide +kernel)
set_option maxRecDepth 20000 in
theorem ks_X10_soil : Cond.selects RX10 yX10_soil yX10_soil ∈ GW := gw7 190 rfl (by decide +kernel)
theorem cL_118 : aCv R_law 118 10 mX10_soil 2 := ⟨⟨kc_X10_soil, kl_L_118, kn_X10, ⟨by decide +kernel, by decide +kernel, by decide +kernel⟩, by decide⟩, ki_X10_soil, ks_X10_soil, TX10, 69, rfl⟩
set_option maxRecDepth 20000 in
theorem kl_L_119 : Cond.methodLink R_law 119 yX9_mend ∈ GW := gw4 220 rfl (by decide +kernel)
set_option maxRecDepth 20000 in
theorem kc_X9_mend : Cond.code mX9_mend.1 mX9_mend.2.1 mX9_mend.2.2.1 mX9_mend.2.2.2 ∈ GW := gw4 223 rfl (by decide +kernel)
set_option maxRecDepth 20000 in
theorem ki_X9_mend : Cond.instanceMethod yX9_mend ∈ GW := gw4 221 rfl (by decide +kernel)
set_option maxRecDepth 20000 in
theorem ks_X9_mend : Cond.selects RX9 yX9_mend yX9_mend ∈ GW := gw4 222 rfl (by decide +kernel)
theorem cL_119 : aCv R_law 119 9 mX9_mend 1 := ⟨⟨kc_X9_mend, kl_L_119, kn_X9, ⟨by decide +kernel, by decide +kernel, by decide +kernel⟩, by decide⟩, ki_X9_mend, ks_X9_mend, TX9, 17, rfl⟩
set_option maxRecDepth 20000 in
theorem kl_L_122 : Cond.methodLink R_law 122 yX10_mend ∈ GW := gw7 192 rfl (by decide +kernel)
set_option maxRecDepth 20000 in
theorem kc_X10_mend : Cond.code mX10_mend.1 mX10_mend.2.1 mX10_mend.2.2.1 mX10_mend.2.2.2 ∈ GW := gw7 195 rfl (by decide +kernel)
set_option maxRecDepth 20000 in
theorem ki_X10_mend : Cond.instanceMethod yX10_mend ∈ GW := gw7 193 rfl (by decide +kernel)
set_option maxRecDepth 20000 in
theorem ks_X10_mend : Cond.selects RX10 yX10_mend yX10_mend ∈ GW := gw7 194 rfl (by decide +kernel)
theorem cL_122 : aCv R_law 122 10 mX10_mend 1 := ⟨⟨kc_X10_mend, kl_L_122, kn_X10, ⟨by decide +kernel, by decide +kernel, by decide +kernel⟩, by decide⟩, ki_X10_mend, ks_X10_mend, TX10, 69, rfl⟩
set_option maxRecDepth 20000 in
theorem kl_L_123 : Cond.methodLink R_law 123 yX9_pour ∈ GW := gw4 225 rfl (by decide +kernel)
set_option maxRecDepth 20000 in
theorem kc_X9_pour : Cond.code mX9_pour.1 mX9_pour.2.1 mX9_pour.2.2.1 mX9_pour.2.2.2 ∈ GW := gw4 228 rfl (by decide +kernel)
set_option maxRecDepth 20000 in
theorem ki_X9_pour : Cond.instanceMethod yX9_pour ∈ GW := gw4 226 rfl (by decide +kernel)
set_option maxRecDepth 20000 in
theorem ks_X9_pour : Cond.selects RX9 yX9_pour yX9_pour ∈ GW := gw4 227 rfl (by decide +kernel)
theorem cL_123 : aCv R_law 123 9 mX9_pour 1 := ⟨⟨kc_X9_pour, kl_L_123, kn_X9, ⟨by decide +kernel, by decide +kernel, by decide +kernel⟩, by decide⟩, ki_X9_pour, ks_X9_pour, TX9, 17, rfl⟩
set_option maxRecDepth 20000 in
theorem kl_L_126 : Cond.methodLink R_law 126 yX10_pour ∈ GW := gw7 196 rfl (by decide +kernel)
set_option maxRecDepth 20000 in
theorem kc_X10_pour : Cond.code mX10_pour.1 mX10_pour.2.1 mX10_pour.2.2.1 mX10_pour.2.2.2 ∈ GW := gw7 199 rfl (by decide +kernel)
set_option maxRecDepth 20000 in
theorem ki_X10_pour : Cond.instanceMethod yX10_pour ∈ GW := gw7 197 rfl (by decide +kernel)
set_option maxRecDepth 20000 in
theorem ks_X10_pour : Cond.selects RX10 yX10_pour yX10_pour ∈ GW := gw7 198 rfl (by decide +kernel)
theorem cL_126 : aCv R_law 126 10 mX10_pour 1 := ⟨⟨kc_X10_pour, kl_L_126, kn_X10, ⟨by decide +kernel, by decide +kernel, by decide +kernel⟩, by decide⟩, ki_X10_pour, ks_X10_pour, TX10, 69, rfl⟩
set_option maxRecDepth 20000 in
theorem kl_L_127 : Cond.methodLink R_law 127 yX9_undo ∈ GW := gw4 229 rfl (by decide +kernel)
set_option maxRecDepth 20000 in
theorem kc_X9_undo : Cond.code mX9_undo.1 mX9_undo.2.1 mX9_undo.2.2.1 mX9_undo.2.2.2 ∈ GW := gw4 232 rfl (by decide +kernel)
set_option maxRecDepth 20000 in
theorem ki_X9_undo : Cond.instanceMethod yX9_undo ∈ GW := gw4 230 rfl (by decide +kernel)
set_option maxRecDepth 20000 in
theorem ks_X9_undo : Cond.selects RX9 yX9_undo yX9_undo ∈ GW := gw4 231 rfl (by decide +kernel)
theorem cL_127 : aCv R_law 127 9 mX9_undo 0 := ⟨⟨kc_X9_undo, kl_L_127, kn_X9, ⟨by decide +kernel, by decide +kernel, by decide +kernel⟩, by decide⟩, ki_X9_undo, ks_X9_undo, TX9, 17, rfl⟩
set_option maxRecDepth 20000 in
theorem kl_L_131 : Cond.methodLink R_law 131 yX10_undo ∈ GW := gw6 207 rfl (by decide +kernel)
set_option maxRecDepth 20000 in
theorem kc_X10_undo : Cond.code mX10_undo.1 mX10_undo.2.1 mX10_undo.2.2.1 mX10_undo.2.2.2 ∈ GW := gw6 210 rfl (by decide +kernel)
set_option maxRecDepth 20000 in
theorem ki_X10_undo : Cond.instanceMethod yX10_undo ∈ GW := gw6 208 rfl (by decide +kernel)
set_option maxRecDepth 20000 in
theorem ks_X10_undo : Cond.selects RX10 yX10_undo yX10_undo ∈ GW := gw6 209 rfl (by decide +kernel)
theorem cL_131 : aCv R_law 131 10 mX10_undo 0 := ⟨⟨kc_X10_undo, kl_L_131, kn_X10, ⟨by decide +kernel, by decide +kernel, by decide +kernel⟩, by decide⟩, ki_X10_undo, ks_X10_undo, TX10, 69, rfl⟩
set_option maxRecDepth 20000 in
theorem kl_L_132 : Cond.methodLink R_law 132 yX9_seed ∈ GW := gw4 237 rfl (by decide +kernel)
set_option maxRecDepth 20000 in
theorem kc_X9_seed : Cond.code mX9_seed.1 mX9_seed.2.1 mX9_seed.2.2.1 mX9_seed.2.2.2 ∈ GW := gw5 0 rfl (by decide +kernel)
set_option maxRecDepth 20000 in
theorem ki_X9_seed : Cond.instanceMethod yX9_seed ∈ GW := gw4 238 rfl (by decide +kernel)
set_option maxRecDepth 20000 in
theorem ks_X9_seed : Cond.selects RX9 yX9_seed yX9_seed ∈ GW := gw4 239 rfl (by decide +kernel)
theorem cL_132 : aCv R_law 132 9 mX9_seed 1 := ⟨⟨kc_X9_seed, kl_L_132, kn_X9, ⟨by decide +kernel, by decide +kernel, by decide +kernel⟩, by decide⟩, ki_X9_seed, ks_X9_seed, TX9, 17, rfl⟩
set_option maxRecDepth 20000 in
theorem kl_L_135 : Cond.methodLink R_law 135 yX10_seed ∈ GW := gw7 200 rfl (by decide +kernel)
set_option maxRecDepth 20000 in
theorem kc_X10_seed : Cond.code mX10_seed.1 mX10_seed.2.1 mX10_seed.2.2.1 mX10_seed.2.2.2 ∈ GW := gw7 203 rfl (by decide +kernel)
set_option maxRecDepth 20000 in
theorem ki_X10_seed : Cond.instanceMethod yX10_seed ∈ GW := gw7 201 rfl (by decide +kernel)
set_option maxRecDepth 20000 in
theorem ks_X10_seed : Cond.selects RX10 yX10_seed yX10_seed ∈ GW := gw7 202 rfl (by decide +kernel)
theorem cL_135 : aCv R_law 135 10 mX10_seed 1 := ⟨⟨kc_X10_seed, kl_L_135, kn_X10, ⟨by decide +kernel, by decide +kernel, by decide +kernel⟩, by decide⟩, ki_X10_seed, ks_X10_seed, TX10, 69, rfl⟩
set_option maxRecDepth 20000 in
theorem kl_L_136 : Cond.methodLink R_law 136 yX9_kept ∈ GW := gw5 1 rfl (by decide +kernel)
set_option maxRecDepth 20000 in
theorem kc_X9_kept : Cond.code mX9_kept.1 mX9_kept.2.1 mX9_kept.2.2.1 mX9_kept.2.2.2 ∈ GW := gw5 4 rfl (by decide +kernel)
set_option maxRecDepth 20000 in
theorem ki_X9_kept : Cond.instanceMethod yX9_kept ∈ GW := gw5 2 rfl (by decide +kernel)
set_option maxRecDepth 20000 in
theorem ks_X9_kept : Cond.selects RX9 yX9_kept yX9_kept ∈ GW := gw5 3 rfl (by decide +kernel)
theorem cL_136 : aCv R_law 136 9 mX9_kept 2 := ⟨⟨kc_X9_kept, kl_L_136, kn_X9, ⟨by decide +kernel, by decide +kernel, by decide +kernel⟩, by decide⟩, ki_X9_kept, ks_X9_kept, TX9, 17, rfl⟩
set_option maxRecDepth 20000 in
theorem kl_L_139 : Cond.methodLink R_law 139 yX10_kept ∈ GW := gw7 204 rfl (by decide +kernel)
set_option maxRecDepth 20000 in
theorem kc_X10_kept : Cond.code mX10_kept.1 mX10_kept.2.1 mX10_kept.2.2.1 mX10_kept.2.2.2 ∈ GW := gw7 207 rfl (by decide +kernel)
set_option maxRecDepth 20000 in
theorem ki_X10_kept : Cond.instanceMethod yX10_kept ∈ GW := gw7 205 rfl (by decide +kernel)
set_option maxRecDepth 20000 in
theorem ks_X10_kept : Cond.selects RX10 yX10_kept yX10_kept ∈ GW := gw7 206 rfl (by decide +kernel)
theorem cL_139 : aCv R_law 139 10 mX10_kept 2 := ⟨⟨kc_X10_kept, kl_L_139, kn_X10, ⟨by decide +kernel, by decide +kernel, by decide +kernel⟩, by decide⟩, ki_X10_kept, ks_X10_kept, TX10, 69, rfl⟩
set_option maxRecDepth 20000 in
theorem kl_L_140 : Cond.methodLink R_law 140 yX9_image ∈ GW := gw5 9 rfl (by decide +kernel)
set_option maxRecDepth 20000 in
theorem kc_X9_image : Cond.code mX9_image.1 mX9_image.2.1 mX9_image.2.2.1 mX9_image.2.2.2 ∈ GW := gw5 12 rfl (by decide +kernel)
set_option maxRecDepth 20000 in
theorem ki_X9_image : Cond.instanceMethod yX9_image ∈ GW := gw5 10 rfl (by decide +kernel)
set_option maxRecDepth 20000 in
theorem ks_X9_image : Cond.selects RX9 yX9_image yX9_image ∈ GW := gw5 11 rfl (by decide +kernel)
theorem cL_140 : aCv R_law 140 9 mX9_image 0 := ⟨⟨kc_X9_image, kl_L_140, kn_X9, ⟨by decide +kernel, by decide +kernel, by decide +kernel⟩, by decide⟩, ki_X9_image, ks_X9_image, TX9, 17, rfl⟩
set_option maxRecDepth 20000 in
theorem kl_L_143 : Cond.methodLink R_law 143 yX10_image ∈ GW := gw7 208 rfl (by decide +kernel)
set_option maxRecDepth 20000 in
theorem kc_X10_image : Cond.code mX10_image.1 mX10_image.2.1 mX10_image.2.2.1 mX10_image.2.2.2 ∈ GW := gw7 211 rfl (by decide +kernel)
set_option maxRecDepth 20000 in
theorem ki_X10_image : Cond.instanceMethod yX10_image ∈ GW := gw7 209 rfl (by decide +kernel)
set_option maxRecDepth 20000 in
theorem ks_X10_image : Cond.selects RX10 yX10_image yX10_image ∈ GW := gw7 210 rfl (by decide +kernel)
theorem cL_143 : aCv R_law 143 10 mX10_image 0 := ⟨⟨kc_X10_image, kl_L_143, kn_X10, ⟨by decide +kernel, by decide +kernel, by decide +kernel⟩, by decide⟩, ki_X10_image, ks_X10_image, TX10, 69, rfl⟩
set_option maxRecDepth 20000 in
theorem kl_L_144 : Cond.methodLink R_law 144 yX9_octet ∈ GW := gw5 13 rfl (by decide +kernel)
set_option maxRecDepth 20000 in
theorem kc_X9_octet : Cond.code mX9_octet.1 mX9_octet.2.1 mX9_octet.2.2.1 mX9_octet.2.2.2 ∈ GW := gw5 16 rfl (by decide +kernel)
set_option maxRecDepth 20000 in
theorem ki_X9_octet : Cond.instanceMethod yX9_octet ∈ GW := gw5 14 rfl (by decide +kernel)
set_option maxRecDepth 20000 in
theorem ks_X9_octet : Cond.selects RX9 yX9_octet yX9_octet ∈ GW := gw5 15 rfl (by decide +kernel)
theorem cL_144 : aCv R_law 144 9 mX9_octet 1 := ⟨⟨kc_X9_octet, kl_L_144, kn_X9, ⟨by decide +kernel, by decide +kernel, by decide +kernel⟩, by decide⟩, ki_X9_octet, ks_X9_octet, TX9, 17, rfl⟩
set_option maxRecDepth 20000 in
theorem kl_L_147 : Cond.methodLink R_law 147 yX10_octet ∈ GW := gw7 216 rfl (by decide +kernel)
set_option maxRecDepth 20000 in
theorem kc_X10_octet : Cond.code mX10_octet.1 mX10_octet.2.1 mX10_octet.2.2.1 mX10_octet.2.2.2 ∈ GW := gw7 219 rfl (by decide +kernel)
set_option maxRecDepth 20000 in
theorem ki_X10_octet : Cond.instanceMethod yX10_octet ∈ GW := gw7 217 rfl (by decide +kernel)
set_option maxRecDepth 20000 in
theorem ks_X10_octet : Cond.selects RX10 yX10_octet yX10_octet ∈ GW := gw7 218 rfl (by decide +kernel)
theorem cL_147 : aCv R_law 147 10 mX10_octet 1 := ⟨⟨kc_X10_octet, kl_L_147, kn_X10, ⟨by decide +kernel, by decide +kernel, by decide +kernel⟩, by decide⟩, ki_X10_octet, ks_X10_octet, TX10, 69, rfl⟩
set_option maxRecDepth 20000 in
theorem kl_L_148 : Cond.methodLink R_law 148 yX9_on ∈ GW := gw5 17 rfl (by decide +kernel)
set_option maxRecDepth 20000 in
theorem kc_X9_on : Cond.code mX9_on.1 mX9_on.2.1 mX9_on.2.2.1 mX9_on.2.2.2 ∈ GW := gw5 20 rfl (by decide +kernel)
set_option maxRecDepth 20000 in
theorem ki_X9_on : Cond.instanceMethod yX9_on ∈ GW := gw5 18 rfl (by decide +kernel)
set_option maxRecDepth 20000 in
theorem ks_X9_on : Cond.selects RX9 yX9_on yX9_on ∈ GW := gw5 19 rfl (by decide +kernel)
theorem cL_148 : aCv R_law 148 9 mX9_on 0 := ⟨⟨kc_X9_on, kl_L_148, kn_X9, ⟨by decide +kernel, by decide +kernel, by decide +kernel⟩, by decide⟩, ki_X9_on, ks_X9_on, TX9, 17, rfl⟩
set_option maxRecDepth 20000 in
theorem kl_L_151 : Cond.methodLink R_law 151 yX10_on ∈ GW := gw7 220 rfl (by decide +kernel)
set_option maxRecDepth 20000 in
theorem kc_X10_on : Cond.code mX10_on.1 mX10_on.2.1 mX10_on.2.2.1 mX10_on.2.2.2 ∈ GW := gw7 223 rfl (by decide +kernel)
set_option maxRecDepth 20000 in
theorem ki_X10_on : Cond.instanceMethod yX10_on ∈ GW := gw7 221 rfl (by decide +kernel)
set_option maxRecDepth 20000 in
theorem ks_X10_on : Cond.selects RX10 yX10_on yX10_on ∈ GW := gw7 222 rfl (by decide +kernel)
theorem cL_151 : aCv R_law 151 10 mX10_on 0 := ⟨⟨kc_X10_on, kl_L_151, kn_X10, ⟨by decide +kernel, by decide +kernel, by decide +kernel⟩, by decide⟩, ki_X10_on, ks_X10_on, TX10, 69, rfl⟩
set_option maxRecDepth 20000 in
theorem kl_L_152 : Cond.methodLink R_law 152 yX9_status ∈ GW := gw5 33 rfl (by decide +kernel)
set_option maxRecDepth 20000 in
theorem kc_X9_status : Cond.code mX9_status.1 mX9_status.2.1 mX9_status.2.2.1 mX9_status.2.2.2 ∈ GW := gw5 36 rfl (by decide +kernel)
set_option maxRecDepth 20000 in
theorem ki_X9_status : Cond.instanceMethod yX9_status ∈ GW := gw5 34 rfl (by decide +kernel)
set_option maxRecDepth 20000 in
theorem ks_X9_status : Cond.selects RX9 yX9_status yX9_status ∈ GW := gw5 35 rfl (by decide +kernel)
theorem cL_152 : aCv R_law 152 9 mX9_status 1 := ⟨⟨kc_X9_status, kl_L_152, kn_X9, ⟨by decide +kernel, by decide +kernel, by decide +kernel⟩, by decide⟩, ki_X9_status, ks_X9_status, TX9, 17, rfl⟩
set_option maxRecDepth 20000 in
theorem kl_L_155 : Cond.methodLink R_law 155 yX10_status ∈ GW := gw6 203 rfl (by decide +kernel)
set_option maxRecDepth 20000 in
theorem kc_X10_status : Cond.code mX10_status.1 mX10_status.2.1 mX10_status.2.2.1 mX10_status.2.2.2 ∈ GW := gw6 206 rfl (by decide +kernel)
set_option maxRecDepth 20000 in
theorem ki_X10_status : Cond.instanceMethod yX10_status ∈ GW := gw6 204 rfl (by decide +kernel)
set_option maxRecDepth 20000 in
theorem ks_X10_status : Cond.selects RX10 yX10_status yX10_status ∈ GW := gw6 205 rfl (by decide +kernel)
theorem cL_155 : aCv R_law 155 10 mX10_status 1 := ⟨⟨kc_X10_status, kl_L_155, kn_X10, ⟨by decide +kernel, by decide +kernel, by decide +kernel⟩, by decide⟩, ki_X10_status, ks_X10_status, TX10, 69, rfl⟩
set_option maxRecDepth 20000 in
theorem kk_L_7 : Cond.classLink R_law 7 RX9 ∈ GW := gw1 19 rfl (by decide +kernel)
set_option maxRecDepth 20000 in
theorem kx_X9 : Cond.instantiable RX9 17 ∈ GW := gw1 20 rfl (by decide +kernel)
theorem nL_7 : aNw R_law 7 9 := ⟨RX9, TX9, 17, rfl, kk_L_7, kx_X9, kn_X9⟩
set_option maxRecDepth 20000 in
theorem kk_L_10 : Cond.classLink R_law 10 RX10 ∈ GW := gw5 37 rfl (by decide +kernel)
set_option maxRecDepth 20000 in
theorem kx_X10 : Cond.instantiable RX10 69 ∈ GW := gw5 38 rfl (by decide +kernel)
theorem nL_10 : aNw R_law 10 10 := ⟨RX10, TX10, 69, rfl, kk_L_10, kx_X10, kn_X10⟩
theorem dL_0 : decode code 0 = .ok (.new 7, 3) := by decide +kernel
theorem dL_3 : decode code 3 = .ok (.dup, 1) := by decide +kernel
theorem dL_4 : decode code 4 = .ok (.invokespecial 9, 3) := by decide +kernel
theorem dL_7 : decode code 7 = .ok (.astore_n 1, 1) := by decide +kernel
theorem dL_8 : decode code 8 = .ok (.new 10, 3) := by decide +kernel
theorem dL_11 : decode code 11 = .ok (.dup, 1) := by decide +kernel
theorem dL_12 : decode code 12 = .ok (.invokespecial 12, 3) := by decide +kernel
theorem dL_15 : decode code 15 = .ok (.astore_n 2, 1) := by decide +kernel
theorem dL_16 : decode code 16 = .ok (.iconst 0, 1) := by decide +kernel
theorem dL_17 : decode code 17 = .ok (.istore_n 3, 1) := by decide +kernel
theorem dL_18 : decode code 18 = .ok (.iload_n 3, 1) := by decide +kernel
theorem dL_19 : decode code 19 = .ok (.aload_n 0, 1) := by decide +kernel
theorem dL_20 : decode code 20 = .ok (.arraylength, 1) := by decide +kernel
theorem dL_21 : decode code 21 = .ok (.bipush 6, 2) := by decide +kernel
theorem dL_23 : decode code 23 = .ok (.isub, 1) := by decide +kernel
theorem dL_24 : decode code 24 = .ok (.if_icmp .gt (1088), 3) := by decide +kernel
theorem dL_27 : decode code 27 = .ok (.aload_n 0, 1) := by decide +kernel
theorem dL_28 : decode code 28 = .ok (.iload_n 3, 1) := by decide +kernel
theorem dL_29 : decode code 29 = .ok (.iaload, 1) := by decide +kernel
theorem dL_30 : decode code 30 = .ok (.bipush 63, 2) := by decide +kernel
theorem dL_32 : decode code 32 = .ok (.iand, 1) := by decide +kernel
theorem dL_33 : decode code 33 = .ok (.tableswitch (1073) 0 33 #[151, 214, 237, 250, 273, 296, 339, 372, 405, 438, 481, 524, 547, 570, 603, 636, 669, 692, 705, 718, 731, 764, 787, 810, 853, 886, 909, 932, 945, 968, 1001, 1014, 1037, 1050], 151) := by decide +kernel
theorem dL_184 : decode code 184 = .ok (.aload_n 1, 1) := by decide +kernel
theorem dL_185 : decode code 185 = .ok (.aload_n 0, 1) := by decide +kernel
theorem dL_186 : decode code 186 = .ok (.iload_n 3, 1) := by decide +kernel
theorem dL_187 : decode code 187 = .ok (.iconst 1, 1) := by decide +kernel
theorem dL_188 : decode code 188 = .ok (.iadd, 1) := by decide +kernel
theorem dL_189 : decode code 189 = .ok (.iaload, 1) := by decide +kernel
theorem dL_190 : decode code 190 = .ok (.aload_n 0, 1) := by decide +kernel
theorem dL_191 : decode code 191 = .ok (.iload_n 3, 1) := by decide +kernel
theorem dL_192 : decode code 192 = .ok (.iconst 2, 1) := by decide +kernel
theorem dL_193 : decode code 193 = .ok (.iadd, 1) := by decide +kernel
theorem dL_194 : decode code 194 = .ok (.iaload, 1) := by decide +kernel
theorem dL_195 : decode code 195 = .ok (.aload_n 0, 1) := by decide +kernel
theorem dL_196 : decode code 196 = .ok (.iload_n 3, 1) := by decide +kernel
theorem dL_197 : decode code 197 = .ok (.iconst 3, 1) := by decide +kernel
theorem dL_198 : decode code 198 = .ok (.iadd, 1) := by decide +kernel
theorem dL_199 : decode code 199 = .ok (.iaload, 1) := by decide +kernel
theorem dL_200 : decode code 200 = .ok (.aload_n 0, 1) := by decide +kernel
theorem dL_201 : decode code 201 = .ok (.iload_n 3, 1) := by decide +kernel
theorem dL_202 : decode code 202 = .ok (.iconst 4, 1) := by decide +kernel
theorem dL_203 : decode code 203 = .ok (.iadd, 1) := by decide +kernel
theorem dL_204 : decode code 204 = .ok (.iaload, 1) := by decide +kernel
theorem dL_205 : decode code 205 = .ok (.aload_n 0, 1) := by decide +kernel
theorem dL_206 : decode code 206 = .ok (.iload_n 3, 1) := by decide +kernel
theorem dL_207 : decode code 207 = .ok (.iconst 5, 1) := by decide +kernel
theorem dL_208 : decode code 208 = .ok (.iadd, 1) := by decide +kernel
theorem dL_209 : decode code 209 = .ok (.iaload, 1) := by decide +kernel
theorem dL_210 : decode code 210 = .ok (.invokevirtual 13, 3) := by decide +kernel
theorem dL_213 : decode code 213 = .ok (.aload_n 2, 1) := by decide +kernel
theorem dL_214 : decode code 214 = .ok (.aload_n 0, 1) := by decide +kernel
theorem dL_215 : decode code 215 = .ok (.iload_n 3, 1) := by decide +kernel
theorem dL_216 : decode code 216 = .ok (.iconst 1, 1) := by decide +kernel
theorem dL_217 : decode code 217 = .ok (.iadd, 1) := by decide +kernel
theorem dL_218 : decode code 218 = .ok (.iaload, 1) := by decide +kernel
theorem dL_219 : decode code 219 = .ok (.aload_n 0, 1) := by decide +kernel
theorem dL_220 : decode code 220 = .ok (.iload_n 3, 1) := by decide +kernel
theorem dL_221 : decode code 221 = .ok (.iconst 2, 1) := by decide +kernel
theorem dL_222 : decode code 222 = .ok (.iadd, 1) := by decide +kernel
theorem dL_223 : decode code 223 = .ok (.iaload, 1) := by decide +kernel
theorem dL_224 : decode code 224 = .ok (.aload_n 0, 1) := by decide +kernel
theorem dL_225 : decode code 225 = .ok (.iload_n 3, 1) := by decide +kernel
theorem dL_226 : decode code 226 = .ok (.iconst 3, 1) := by decide +kernel
theorem dL_227 : decode code 227 = .ok (.iadd, 1) := by decide +kernel
theorem dL_228 : decode code 228 = .ok (.iaload, 1) := by decide +kernel
theorem dL_229 : decode code 229 = .ok (.aload_n 0, 1) := by decide +kernel
theorem dL_230 : decode code 230 = .ok (.iload_n 3, 1) := by decide +kernel
theorem dL_231 : decode code 231 = .ok (.iconst 4, 1) := by decide +kernel
theorem dL_232 : decode code 232 = .ok (.iadd, 1) := by decide +kernel
theorem dL_233 : decode code 233 = .ok (.iaload, 1) := by decide +kernel
theorem dL_234 : decode code 234 = .ok (.aload_n 0, 1) := by decide +kernel
theorem dL_235 : decode code 235 = .ok (.iload_n 3, 1) := by decide +kernel
theorem dL_236 : decode code 236 = .ok (.iconst 5, 1) := by decide +kernel
theorem dL_237 : decode code 237 = .ok (.iadd, 1) := by decide +kernel
theorem dL_238 : decode code 238 = .ok (.iaload, 1) := by decide +kernel
theorem dL_239 : decode code 239 = .ok (.invokevirtual 17, 3) := by decide +kernel
theorem dL_242 : decode code 242 = .ok (.if_icmp .eq (864), 3) := by decide +kernel
theorem dL_245 : decode code 245 = .ok (.iconst 0, 1) := by decide +kernel
theorem dL_246 : decode code 246 = .ok (.ireturn, 1) := by decide +kernel
theorem dL_247 : decode code 247 = .ok (.aload_n 1, 1) := by decide +kernel
theorem dL_248 : decode code 248 = .ok (.aload_n 0, 1) := by decide +kernel
theorem dL_249 : decode code 249 = .ok (.iload_n 3, 1) := by decide +kernel
theorem dL_250 : decode code 250 = .ok (.iconst 1, 1) := by decide +kernel
theorem dL_251 : decode code 251 = .ok (.iadd, 1) := by decide +kernel
theorem dL_252 : decode code 252 = .ok (.iaload, 1) := by decide +kernel
theorem dL_253 : decode code 253 = .ok (.invokevirtual 18, 3) := by decide +kernel
theorem dL_256 : decode code 256 = .ok (.aload_n 2, 1) := by decide +kernel
theorem dL_257 : decode code 257 = .ok (.aload_n 0, 1) := by decide +kernel
theorem dL_258 : decode code 258 = .ok (.iload_n 3, 1) := by decide +kernel
theorem dL_259 : decode code 259 = .ok (.iconst 1, 1) := by decide +kernel
theorem dL_260 : decode code 260 = .ok (.iadd, 1) := by decide +kernel
theorem dL_261 : decode code 261 = .ok (.iaload, 1) := by decide +kernel
theorem dL_262 : decode code 262 = .ok (.invokevirtual 22, 3) := by decide +kernel
theorem dL_265 : decode code 265 = .ok (.if_icmp .eq (841), 3) := by decide +kernel
theorem dL_268 : decode code 268 = .ok (.iconst 0, 1) := by decide +kernel
theorem dL_269 : decode code 269 = .ok (.ireturn, 1) := by decide +kernel
theorem dL_270 : decode code 270 = .ok (.aload_n 1, 1) := by decide +kernel
theorem dL_271 : decode code 271 = .ok (.invokevirtual 23, 3) := by decide +kernel
theorem dL_274 : decode code 274 = .ok (.aload_n 2, 1) := by decide +kernel
theorem dL_275 : decode code 275 = .ok (.invokevirtual 27, 3) := by decide +kernel
theorem dL_278 : decode code 278 = .ok (.if_icmp .eq (828), 3) := by decide +kernel
theorem dL_281 : decode code 281 = .ok (.iconst 0, 1) := by decide +kernel
theorem dL_282 : decode code 282 = .ok (.ireturn, 1) := by decide +kernel
theorem dL_283 : decode code 283 = .ok (.aload_n 1, 1) := by decide +kernel
theorem dL_284 : decode code 284 = .ok (.aload_n 0, 1) := by decide +kernel
theorem dL_285 : decode code 285 = .ok (.iload_n 3, 1) := by decide +kernel
theorem dL_286 : decode code 286 = .ok (.iconst 1, 1) := by decide +kernel
theorem dL_287 : decode code 287 = .ok (.iadd, 1) := by decide +kernel
theorem dL_288 : decode code 288 = .ok (.iaload, 1) := by decide +kernel
theorem dL_289 : decode code 289 = .ok (.invokevirtual 28, 3) := by decide +kernel
theorem dL_292 : decode code 292 = .ok (.aload_n 2, 1) := by decide +kernel
theorem dL_293 : decode code 293 = .ok (.aload_n 0, 1) := by decide +kernel
theorem dL_294 : decode code 294 = .ok (.iload_n 3, 1) := by decide +kernel
theorem dL_295 : decode code 295 = .ok (.iconst 1, 1) := by decide +kernel
theorem dL_296 : decode code 296 = .ok (.iadd, 1) := by decide +kernel
theorem dL_297 : decode code 297 = .ok (.iaload, 1) := by decide +kernel
theorem dL_298 : decode code 298 = .ok (.invokevirtual 32, 3) := by decide +kernel
theorem dL_301 : decode code 301 = .ok (.if_icmp .eq (805), 3) := by decide +kernel
theorem dL_304 : decode code 304 = .ok (.iconst 0, 1) := by decide +kernel
theorem dL_305 : decode code 305 = .ok (.ireturn, 1) := by decide +kernel
theorem dL_306 : decode code 306 = .ok (.aload_n 1, 1) := by decide +kernel
theorem dL_307 : decode code 307 = .ok (.aload_n 0, 1) := by decide +kernel
theorem dL_308 : decode code 308 = .ok (.iload_n 3, 1) := by decide +kernel
theorem dL_309 : decode code 309 = .ok (.iconst 1, 1) := by decide +kernel
theorem dL_310 : decode code 310 = .ok (.iadd, 1) := by decide +kernel
theorem dL_311 : decode code 311 = .ok (.iaload, 1) := by decide +kernel
theorem dL_312 : decode code 312 = .ok (.invokevirtual 33, 3) := by decide +kernel
theorem dL_315 : decode code 315 = .ok (.aload_n 2, 1) := by decide +kernel
theorem dL_316 : decode code 316 = .ok (.aload_n 0, 1) := by decide +kernel
theorem dL_317 : decode code 317 = .ok (.iload_n 3, 1) := by decide +kernel
theorem dL_318 : decode code 318 = .ok (.iconst 1, 1) := by decide +kernel
theorem dL_319 : decode code 319 = .ok (.iadd, 1) := by decide +kernel
theorem dL_320 : decode code 320 = .ok (.iaload, 1) := by decide +kernel
theorem dL_321 : decode code 321 = .ok (.invokevirtual 36, 3) := by decide +kernel
theorem dL_324 : decode code 324 = .ok (.if_icmp .eq (782), 3) := by decide +kernel
theorem dL_327 : decode code 327 = .ok (.iconst 0, 1) := by decide +kernel
theorem dL_328 : decode code 328 = .ok (.ireturn, 1) := by decide +kernel
theorem dL_329 : decode code 329 = .ok (.aload_n 1, 1) := by decide +kernel
theorem dL_330 : decode code 330 = .ok (.aload_n 0, 1) := by decide +kernel
theorem dL_331 : decode code 331 = .ok (.iload_n 3, 1) := by decide +kernel
theorem dL_332 : decode code 332 = .ok (.iconst 1, 1) := by decide +kernel
theorem dL_333 : decode code 333 = .ok (.iadd, 1) := by decide +kernel
theorem dL_334 : decode code 334 = .ok (.iaload, 1) := by decide +kernel
theorem dL_335 : decode code 335 = .ok (.aload_n 0, 1) := by decide +kernel
theorem dL_336 : decode code 336 = .ok (.iload_n 3, 1) := by decide +kernel
theorem dL_337 : decode code 337 = .ok (.iconst 2, 1) := by decide +kernel
theorem dL_338 : decode code 338 = .ok (.iadd, 1) := by decide +kernel
theorem dL_339 : decode code 339 = .ok (.iaload, 1) := by decide +kernel
theorem dL_340 : decode code 340 = .ok (.aload_n 0, 1) := by decide +kernel
theorem dL_341 : decode code 341 = .ok (.iload_n 3, 1) := by decide +kernel
theorem dL_342 : decode code 342 = .ok (.iconst 3, 1) := by decide +kernel
theorem dL_343 : decode code 343 = .ok (.iadd, 1) := by decide +kernel
theorem dL_344 : decode code 344 = .ok (.iaload, 1) := by decide +kernel
theorem dL_345 : decode code 345 = .ok (.invokevirtual 37, 3) := by decide +kernel
theorem dL_348 : decode code 348 = .ok (.aload_n 2, 1) := by decide +kernel
theorem dL_349 : decode code 349 = .ok (.aload_n 0, 1) := by decide +kernel
theorem dL_350 : decode code 350 = .ok (.iload_n 3, 1) := by decide +kernel
theorem dL_351 : decode code 351 = .ok (.iconst 1, 1) := by decide +kernel
theorem dL_352 : decode code 352 = .ok (.iadd, 1) := by decide +kernel
theorem dL_353 : decode code 353 = .ok (.iaload, 1) := by decide +kernel
theorem dL_354 : decode code 354 = .ok (.aload_n 0, 1) := by decide +kernel
theorem dL_355 : decode code 355 = .ok (.iload_n 3, 1) := by decide +kernel
theorem dL_356 : decode code 356 = .ok (.iconst 2, 1) := by decide +kernel
theorem dL_357 : decode code 357 = .ok (.iadd, 1) := by decide +kernel
theorem dL_358 : decode code 358 = .ok (.iaload, 1) := by decide +kernel
theorem dL_359 : decode code 359 = .ok (.aload_n 0, 1) := by decide +kernel
theorem dL_360 : decode code 360 = .ok (.iload_n 3, 1) := by decide +kernel
theorem dL_361 : decode code 361 = .ok (.iconst 3, 1) := by decide +kernel
theorem dL_362 : decode code 362 = .ok (.iadd, 1) := by decide +kernel
theorem dL_363 : decode code 363 = .ok (.iaload, 1) := by decide +kernel
theorem dL_364 : decode code 364 = .ok (.invokevirtual 41, 3) := by decide +kernel
theorem dL_367 : decode code 367 = .ok (.if_icmp .eq (739), 3) := by decide +kernel
theorem dL_370 : decode code 370 = .ok (.iconst 0, 1) := by decide +kernel
theorem dL_371 : decode code 371 = .ok (.ireturn, 1) := by decide +kernel
theorem dL_372 : decode code 372 = .ok (.aload_n 1, 1) := by decide +kernel
theorem dL_373 : decode code 373 = .ok (.aload_n 0, 1) := by decide +kernel
theorem dL_374 : decode code 374 = .ok (.iload_n 3, 1) := by decide +kernel
theorem dL_375 : decode code 375 = .ok (.iconst 1, 1) := by decide +kernel
theorem dL_376 : decode code 376 = .ok (.iadd, 1) := by decide +kernel
theorem dL_377 : decode code 377 = .ok (.iaload, 1) := by decide +kernel
theorem dL_378 : decode code 378 = .ok (.aload_n 0, 1) := by decide +kernel
theorem dL_379 : decode code 379 = .ok (.iload_n 3, 1) := by decide +kernel
theorem dL_380 : decode code 380 = .ok (.iconst 2, 1) := by decide +kernel
theorem dL_381 : decode code 381 = .ok (.iadd, 1) := by decide +kernel
theorem dL_382 : decode code 382 = .ok (.iaload, 1) := by decide +kernel
theorem dL_383 : decode code 383 = .ok (.invokevirtual 42, 3) := by decide +kernel
theorem dL_386 : decode code 386 = .ok (.aload_n 2, 1) := by decide +kernel
theorem dL_387 : decode code 387 = .ok (.aload_n 0, 1) := by decide +kernel
theorem dL_388 : decode code 388 = .ok (.iload_n 3, 1) := by decide +kernel
theorem dL_389 : decode code 389 = .ok (.iconst 1, 1) := by decide +kernel
theorem dL_390 : decode code 390 = .ok (.iadd, 1) := by decide +kernel
theorem dL_391 : decode code 391 = .ok (.iaload, 1) := by decide +kernel
theorem dL_392 : decode code 392 = .ok (.aload_n 0, 1) := by decide +kernel
theorem dL_393 : decode code 393 = .ok (.iload_n 3, 1) := by decide +kernel
theorem dL_394 : decode code 394 = .ok (.iconst 2, 1) := by decide +kernel
theorem dL_395 : decode code 395 = .ok (.iadd, 1) := by decide +kernel
theorem dL_396 : decode code 396 = .ok (.iaload, 1) := by decide +kernel
theorem dL_397 : decode code 397 = .ok (.invokevirtual 46, 3) := by decide +kernel
theorem dL_400 : decode code 400 = .ok (.if_icmp .eq (706), 3) := by decide +kernel
theorem dL_403 : decode code 403 = .ok (.iconst 0, 1) := by decide +kernel
theorem dL_404 : decode code 404 = .ok (.ireturn, 1) := by decide +kernel
theorem dL_405 : decode code 405 = .ok (.aload_n 1, 1) := by decide +kernel
theorem dL_406 : decode code 406 = .ok (.aload_n 0, 1) := by decide +kernel
theorem dL_407 : decode code 407 = .ok (.iload_n 3, 1) := by decide +kernel
theorem dL_408 : decode code 408 = .ok (.iconst 1, 1) := by decide +kernel
theorem dL_409 : decode code 409 = .ok (.iadd, 1) := by decide +kernel
theorem dL_410 : decode code 410 = .ok (.iaload, 1) := by decide +kernel
theorem dL_411 : decode code 411 = .ok (.aload_n 0, 1) := by decide +kernel
theorem dL_412 : decode code 412 = .ok (.iload_n 3, 1) := by decide +kernel
theorem dL_413 : decode code 413 = .ok (.iconst 2, 1) := by decide +kernel
theorem dL_414 : decode code 414 = .ok (.iadd, 1) := by decide +kernel
theorem dL_415 : decode code 415 = .ok (.iaload, 1) := by decide +kernel
theorem dL_416 : decode code 416 = .ok (.invokevirtual 47, 3) := by decide +kernel
theorem dL_419 : decode code 419 = .ok (.aload_n 2, 1) := by decide +kernel
theorem dL_420 : decode code 420 = .ok (.aload_n 0, 1) := by decide +kernel
theorem dL_421 : decode code 421 = .ok (.iload_n 3, 1) := by decide +kernel
theorem dL_422 : decode code 422 = .ok (.iconst 1, 1) := by decide +kernel
theorem dL_423 : decode code 423 = .ok (.iadd, 1) := by decide +kernel
theorem dL_424 : decode code 424 = .ok (.iaload, 1) := by decide +kernel
theorem dL_425 : decode code 425 = .ok (.aload_n 0, 1) := by decide +kernel
theorem dL_426 : decode code 426 = .ok (.iload_n 3, 1) := by decide +kernel
theorem dL_427 : decode code 427 = .ok (.iconst 2, 1) := by decide +kernel
theorem dL_428 : decode code 428 = .ok (.iadd, 1) := by decide +kernel
theorem dL_429 : decode code 429 = .ok (.iaload, 1) := by decide +kernel
theorem dL_430 : decode code 430 = .ok (.invokevirtual 50, 3) := by decide +kernel
theorem dL_433 : decode code 433 = .ok (.if_icmp .eq (673), 3) := by decide +kernel
theorem dL_436 : decode code 436 = .ok (.iconst 0, 1) := by decide +kernel
theorem dL_437 : decode code 437 = .ok (.ireturn, 1) := by decide +kernel
theorem dL_438 : decode code 438 = .ok (.aload_n 1, 1) := by decide +kernel
theorem dL_439 : decode code 439 = .ok (.aload_n 0, 1) := by decide +kernel
theorem dL_440 : decode code 440 = .ok (.iload_n 3, 1) := by decide +kernel
theorem dL_441 : decode code 441 = .ok (.iconst 1, 1) := by decide +kernel
theorem dL_442 : decode code 442 = .ok (.iadd, 1) := by decide +kernel
theorem dL_443 : decode code 443 = .ok (.iaload, 1) := by decide +kernel
theorem dL_444 : decode code 444 = .ok (.aload_n 0, 1) := by decide +kernel
theorem dL_445 : decode code 445 = .ok (.iload_n 3, 1) := by decide +kernel
theorem dL_446 : decode code 446 = .ok (.iconst 2, 1) := by decide +kernel
theorem dL_447 : decode code 447 = .ok (.iadd, 1) := by decide +kernel
theorem dL_448 : decode code 448 = .ok (.iaload, 1) := by decide +kernel
theorem dL_449 : decode code 449 = .ok (.invokevirtual 51, 3) := by decide +kernel
theorem dL_452 : decode code 452 = .ok (.aload_n 2, 1) := by decide +kernel
theorem dL_453 : decode code 453 = .ok (.aload_n 0, 1) := by decide +kernel
theorem dL_454 : decode code 454 = .ok (.iload_n 3, 1) := by decide +kernel
theorem dL_455 : decode code 455 = .ok (.iconst 1, 1) := by decide +kernel
theorem dL_456 : decode code 456 = .ok (.iadd, 1) := by decide +kernel
theorem dL_457 : decode code 457 = .ok (.iaload, 1) := by decide +kernel
theorem dL_458 : decode code 458 = .ok (.aload_n 0, 1) := by decide +kernel
theorem dL_459 : decode code 459 = .ok (.iload_n 3, 1) := by decide +kernel
theorem dL_460 : decode code 460 = .ok (.iconst 2, 1) := by decide +kernel
theorem dL_461 : decode code 461 = .ok (.iadd, 1) := by decide +kernel
theorem dL_462 : decode code 462 = .ok (.iaload, 1) := by decide +kernel
theorem dL_463 : decode code 463 = .ok (.invokevirtual 54, 3) := by decide +kernel
theorem dL_466 : decode code 466 = .ok (.if_icmp .eq (640), 3) := by decide +kernel
theorem dL_469 : decode code 469 = .ok (.iconst 0, 1) := by decide +kernel
theorem dL_470 : decode code 470 = .ok (.ireturn, 1) := by decide +kernel
theorem dL_471 : decode code 471 = .ok (.aload_n 1, 1) := by decide +kernel
theorem dL_472 : decode code 472 = .ok (.aload_n 0, 1) := by decide +kernel
theorem dL_473 : decode code 473 = .ok (.iload_n 3, 1) := by decide +kernel
theorem dL_474 : decode code 474 = .ok (.iconst 1, 1) := by decide +kernel
theorem dL_475 : decode code 475 = .ok (.iadd, 1) := by decide +kernel
theorem dL_476 : decode code 476 = .ok (.iaload, 1) := by decide +kernel
theorem dL_477 : decode code 477 = .ok (.aload_n 0, 1) := by decide +kernel
theorem dL_478 : decode code 478 = .ok (.iload_n 3, 1) := by decide +kernel
theorem dL_479 : decode code 479 = .ok (.iconst 2, 1) := by decide +kernel
theorem dL_480 : decode code 480 = .ok (.iadd, 1) := by decide +kernel
theorem dL_481 : decode code 481 = .ok (.iaload, 1) := by decide +kernel
theorem dL_482 : decode code 482 = .ok (.aload_n 0, 1) := by decide +kernel
theorem dL_483 : decode code 483 = .ok (.iload_n 3, 1) := by decide +kernel
theorem dL_484 : decode code 484 = .ok (.iconst 3, 1) := by decide +kernel
theorem dL_485 : decode code 485 = .ok (.iadd, 1) := by decide +kernel
theorem dL_486 : decode code 486 = .ok (.iaload, 1) := by decide +kernel
theorem dL_487 : decode code 487 = .ok (.invokevirtual 55, 3) := by decide +kernel
theorem dL_490 : decode code 490 = .ok (.aload_n 2, 1) := by decide +kernel
theorem dL_491 : decode code 491 = .ok (.aload_n 0, 1) := by decide +kernel
theorem dL_492 : decode code 492 = .ok (.iload_n 3, 1) := by decide +kernel
theorem dL_493 : decode code 493 = .ok (.iconst 1, 1) := by decide +kernel
theorem dL_494 : decode code 494 = .ok (.iadd, 1) := by decide +kernel
theorem dL_495 : decode code 495 = .ok (.iaload, 1) := by decide +kernel
theorem dL_496 : decode code 496 = .ok (.aload_n 0, 1) := by decide +kernel
theorem dL_497 : decode code 497 = .ok (.iload_n 3, 1) := by decide +kernel
theorem dL_498 : decode code 498 = .ok (.iconst 2, 1) := by decide +kernel
theorem dL_499 : decode code 499 = .ok (.iadd, 1) := by decide +kernel
theorem dL_500 : decode code 500 = .ok (.iaload, 1) := by decide +kernel
theorem dL_501 : decode code 501 = .ok (.aload_n 0, 1) := by decide +kernel
theorem dL_502 : decode code 502 = .ok (.iload_n 3, 1) := by decide +kernel
theorem dL_503 : decode code 503 = .ok (.iconst 3, 1) := by decide +kernel
theorem dL_504 : decode code 504 = .ok (.iadd, 1) := by decide +kernel
theorem dL_505 : decode code 505 = .ok (.iaload, 1) := by decide +kernel
theorem dL_506 : decode code 506 = .ok (.invokevirtual 58, 3) := by decide +kernel
theorem dL_509 : decode code 509 = .ok (.if_icmp .eq (597), 3) := by decide +kernel
theorem dL_512 : decode code 512 = .ok (.iconst 0, 1) := by decide +kernel
theorem dL_513 : decode code 513 = .ok (.ireturn, 1) := by decide +kernel
theorem dL_514 : decode code 514 = .ok (.aload_n 1, 1) := by decide +kernel
theorem dL_515 : decode code 515 = .ok (.aload_n 0, 1) := by decide +kernel
theorem dL_516 : decode code 516 = .ok (.iload_n 3, 1) := by decide +kernel
theorem dL_517 : decode code 517 = .ok (.iconst 1, 1) := by decide +kernel
theorem dL_518 : decode code 518 = .ok (.iadd, 1) := by decide +kernel
theorem dL_519 : decode code 519 = .ok (.iaload, 1) := by decide +kernel
theorem dL_520 : decode code 520 = .ok (.aload_n 0, 1) := by decide +kernel
theorem dL_521 : decode code 521 = .ok (.iload_n 3, 1) := by decide +kernel
theorem dL_522 : decode code 522 = .ok (.iconst 2, 1) := by decide +kernel
theorem dL_523 : decode code 523 = .ok (.iadd, 1) := by decide +kernel
theorem dL_524 : decode code 524 = .ok (.iaload, 1) := by decide +kernel
theorem dL_525 : decode code 525 = .ok (.aload_n 0, 1) := by decide +kernel
theorem dL_526 : decode code 526 = .ok (.iload_n 3, 1) := by decide +kernel
theorem dL_527 : decode code 527 = .ok (.iconst 3, 1) := by decide +kernel
theorem dL_528 : decode code 528 = .ok (.iadd, 1) := by decide +kernel
theorem dL_529 : decode code 529 = .ok (.iaload, 1) := by decide +kernel
theorem dL_530 : decode code 530 = .ok (.invokevirtual 59, 3) := by decide +kernel
theorem dL_533 : decode code 533 = .ok (.aload_n 2, 1) := by decide +kernel
theorem dL_534 : decode code 534 = .ok (.aload_n 0, 1) := by decide +kernel
theorem dL_535 : decode code 535 = .ok (.iload_n 3, 1) := by decide +kernel
theorem dL_536 : decode code 536 = .ok (.iconst 1, 1) := by decide +kernel
theorem dL_537 : decode code 537 = .ok (.iadd, 1) := by decide +kernel
theorem dL_538 : decode code 538 = .ok (.iaload, 1) := by decide +kernel
theorem dL_539 : decode code 539 = .ok (.aload_n 0, 1) := by decide +kernel
theorem dL_540 : decode code 540 = .ok (.iload_n 3, 1) := by decide +kernel
theorem dL_541 : decode code 541 = .ok (.iconst 2, 1) := by decide +kernel
theorem dL_542 : decode code 542 = .ok (.iadd, 1) := by decide +kernel
theorem dL_543 : decode code 543 = .ok (.iaload, 1) := by decide +kernel
theorem dL_544 : decode code 544 = .ok (.aload_n 0, 1) := by decide +kernel
theorem dL_545 : decode code 545 = .ok (.iload_n 3, 1) := by decide +kernel
theorem dL_546 : decode code 546 = .ok (.iconst 3, 1) := by decide +kernel
theorem dL_547 : decode code 547 = .ok (.iadd, 1) := by decide +kernel
theorem dL_548 : decode code 548 = .ok (.iaload, 1) := by decide +kernel
theorem dL_549 : decode code 549 = .ok (.invokevirtual 62, 3) := by decide +kernel
theorem dL_552 : decode code 552 = .ok (.if_icmp .eq (554), 3) := by decide +kernel
theorem dL_555 : decode code 555 = .ok (.iconst 0, 1) := by decide +kernel
theorem dL_556 : decode code 556 = .ok (.ireturn, 1) := by decide +kernel
theorem dL_557 : decode code 557 = .ok (.aload_n 1, 1) := by decide +kernel
theorem dL_558 : decode code 558 = .ok (.aload_n 0, 1) := by decide +kernel
theorem dL_559 : decode code 559 = .ok (.iload_n 3, 1) := by decide +kernel
theorem dL_560 : decode code 560 = .ok (.iconst 1, 1) := by decide +kernel
theorem dL_561 : decode code 561 = .ok (.iadd, 1) := by decide +kernel
theorem dL_562 : decode code 562 = .ok (.iaload, 1) := by decide +kernel
theorem dL_563 : decode code 563 = .ok (.invokevirtual 63, 3) := by decide +kernel
theorem dL_566 : decode code 566 = .ok (.aload_n 2, 1) := by decide +kernel
theorem dL_567 : decode code 567 = .ok (.aload_n 0, 1) := by decide +kernel
theorem dL_568 : decode code 568 = .ok (.iload_n 3, 1) := by decide +kernel
theorem dL_569 : decode code 569 = .ok (.iconst 1, 1) := by decide +kernel
theorem dL_570 : decode code 570 = .ok (.iadd, 1) := by decide +kernel
theorem dL_571 : decode code 571 = .ok (.iaload, 1) := by decide +kernel
theorem dL_572 : decode code 572 = .ok (.invokevirtual 66, 3) := by decide +kernel
theorem dL_575 : decode code 575 = .ok (.if_icmp .eq (531), 3) := by decide +kernel
theorem dL_578 : decode code 578 = .ok (.iconst 0, 1) := by decide +kernel
theorem dL_579 : decode code 579 = .ok (.ireturn, 1) := by decide +kernel
theorem dL_580 : decode code 580 = .ok (.aload_n 1, 1) := by decide +kernel
theorem dL_581 : decode code 581 = .ok (.aload_n 0, 1) := by decide +kernel
theorem dL_582 : decode code 582 = .ok (.iload_n 3, 1) := by decide +kernel
theorem dL_583 : decode code 583 = .ok (.iconst 1, 1) := by decide +kernel
theorem dL_584 : decode code 584 = .ok (.iadd, 1) := by decide +kernel
theorem dL_585 : decode code 585 = .ok (.iaload, 1) := by decide +kernel
theorem dL_586 : decode code 586 = .ok (.invokevirtual 67, 3) := by decide +kernel
theorem dL_589 : decode code 589 = .ok (.aload_n 2, 1) := by decide +kernel
theorem dL_590 : decode code 590 = .ok (.aload_n 0, 1) := by decide +kernel
theorem dL_591 : decode code 591 = .ok (.iload_n 3, 1) := by decide +kernel
theorem dL_592 : decode code 592 = .ok (.iconst 1, 1) := by decide +kernel
theorem dL_593 : decode code 593 = .ok (.iadd, 1) := by decide +kernel
theorem dL_594 : decode code 594 = .ok (.iaload, 1) := by decide +kernel
theorem dL_595 : decode code 595 = .ok (.invokevirtual 70, 3) := by decide +kernel
theorem dL_598 : decode code 598 = .ok (.if_icmp .eq (508), 3) := by decide +kernel
theorem dL_601 : decode code 601 = .ok (.iconst 0, 1) := by decide +kernel
theorem dL_602 : decode code 602 = .ok (.ireturn, 1) := by decide +kernel
theorem dL_603 : decode code 603 = .ok (.aload_n 1, 1) := by decide +kernel
theorem dL_604 : decode code 604 = .ok (.aload_n 0, 1) := by decide +kernel
theorem dL_605 : decode code 605 = .ok (.iload_n 3, 1) := by decide +kernel
theorem dL_606 : decode code 606 = .ok (.iconst 1, 1) := by decide +kernel
theorem dL_607 : decode code 607 = .ok (.iadd, 1) := by decide +kernel
theorem dL_608 : decode code 608 = .ok (.iaload, 1) := by decide +kernel
theorem dL_609 : decode code 609 = .ok (.aload_n 0, 1) := by decide +kernel
theorem dL_610 : decode code 610 = .ok (.iload_n 3, 1) := by decide +kernel
theorem dL_611 : decode code 611 = .ok (.iconst 2, 1) := by decide +kernel
theorem dL_612 : decode code 612 = .ok (.iadd, 1) := by decide +kernel
theorem dL_613 : decode code 613 = .ok (.iaload, 1) := by decide +kernel
theorem dL_614 : decode code 614 = .ok (.invokevirtual 71, 3) := by decide +kernel
theorem dL_617 : decode code 617 = .ok (.aload_n 2, 1) := by decide +kernel
theorem dL_618 : decode code 618 = .ok (.aload_n 0, 1) := by decide +kernel
theorem dL_619 : decode code 619 = .ok (.iload_n 3, 1) := by decide +kernel
theorem dL_620 : decode code 620 = .ok (.iconst 1, 1) := by decide +kernel
theorem dL_621 : decode code 621 = .ok (.iadd, 1) := by decide +kernel
theorem dL_622 : decode code 622 = .ok (.iaload, 1) := by decide +kernel
theorem dL_623 : decode code 623 = .ok (.aload_n 0, 1) := by decide +kernel
theorem dL_624 : decode code 624 = .ok (.iload_n 3, 1) := by decide +kernel
theorem dL_625 : decode code 625 = .ok (.iconst 2, 1) := by decide +kernel
theorem dL_626 : decode code 626 = .ok (.iadd, 1) := by decide +kernel
theorem dL_627 : decode code 627 = .ok (.iaload, 1) := by decide +kernel
theorem dL_628 : decode code 628 = .ok (.invokevirtual 74, 3) := by decide +kernel
theorem dL_631 : decode code 631 = .ok (.if_icmp .eq (475), 3) := by decide +kernel
theorem dL_634 : decode code 634 = .ok (.iconst 0, 1) := by decide +kernel
theorem dL_635 : decode code 635 = .ok (.ireturn, 1) := by decide +kernel
theorem dL_636 : decode code 636 = .ok (.aload_n 1, 1) := by decide +kernel
theorem dL_637 : decode code 637 = .ok (.aload_n 0, 1) := by decide +kernel
theorem dL_638 : decode code 638 = .ok (.iload_n 3, 1) := by decide +kernel
theorem dL_639 : decode code 639 = .ok (.iconst 1, 1) := by decide +kernel
theorem dL_640 : decode code 640 = .ok (.iadd, 1) := by decide +kernel
theorem dL_641 : decode code 641 = .ok (.iaload, 1) := by decide +kernel
theorem dL_642 : decode code 642 = .ok (.aload_n 0, 1) := by decide +kernel
theorem dL_643 : decode code 643 = .ok (.iload_n 3, 1) := by decide +kernel
theorem dL_644 : decode code 644 = .ok (.iconst 2, 1) := by decide +kernel
theorem dL_645 : decode code 645 = .ok (.iadd, 1) := by decide +kernel
theorem dL_646 : decode code 646 = .ok (.iaload, 1) := by decide +kernel
theorem dL_647 : decode code 647 = .ok (.invokevirtual 75, 3) := by decide +kernel
theorem dL_650 : decode code 650 = .ok (.aload_n 2, 1) := by decide +kernel
theorem dL_651 : decode code 651 = .ok (.aload_n 0, 1) := by decide +kernel
theorem dL_652 : decode code 652 = .ok (.iload_n 3, 1) := by decide +kernel
theorem dL_653 : decode code 653 = .ok (.iconst 1, 1) := by decide +kernel
theorem dL_654 : decode code 654 = .ok (.iadd, 1) := by decide +kernel
theorem dL_655 : decode code 655 = .ok (.iaload, 1) := by decide +kernel
theorem dL_656 : decode code 656 = .ok (.aload_n 0, 1) := by decide +kernel
theorem dL_657 : decode code 657 = .ok (.iload_n 3, 1) := by decide +kernel
theorem dL_658 : decode code 658 = .ok (.iconst 2, 1) := by decide +kernel
theorem dL_659 : decode code 659 = .ok (.iadd, 1) := by decide +kernel
theorem dL_660 : decode code 660 = .ok (.iaload, 1) := by decide +kernel
theorem dL_661 : decode code 661 = .ok (.invokevirtual 78, 3) := by decide +kernel
theorem dL_664 : decode code 664 = .ok (.if_icmp .eq (442), 3) := by decide +kernel
theorem dL_667 : decode code 667 = .ok (.iconst 0, 1) := by decide +kernel
theorem dL_668 : decode code 668 = .ok (.ireturn, 1) := by decide +kernel
theorem dL_669 : decode code 669 = .ok (.aload_n 1, 1) := by decide +kernel
theorem dL_670 : decode code 670 = .ok (.aload_n 0, 1) := by decide +kernel
theorem dL_671 : decode code 671 = .ok (.iload_n 3, 1) := by decide +kernel
theorem dL_672 : decode code 672 = .ok (.iconst 1, 1) := by decide +kernel
theorem dL_673 : decode code 673 = .ok (.iadd, 1) := by decide +kernel
theorem dL_674 : decode code 674 = .ok (.iaload, 1) := by decide +kernel
theorem dL_675 : decode code 675 = .ok (.aload_n 0, 1) := by decide +kernel
theorem dL_676 : decode code 676 = .ok (.iload_n 3, 1) := by decide +kernel
theorem dL_677 : decode code 677 = .ok (.iconst 2, 1) := by decide +kernel
theorem dL_678 : decode code 678 = .ok (.iadd, 1) := by decide +kernel
theorem dL_679 : decode code 679 = .ok (.iaload, 1) := by decide +kernel
theorem dL_680 : decode code 680 = .ok (.invokevirtual 79, 3) := by decide +kernel
theorem dL_683 : decode code 683 = .ok (.aload_n 2, 1) := by decide +kernel
theorem dL_684 : decode code 684 = .ok (.aload_n 0, 1) := by decide +kernel
theorem dL_685 : decode code 685 = .ok (.iload_n 3, 1) := by decide +kernel
theorem dL_686 : decode code 686 = .ok (.iconst 1, 1) := by decide +kernel
theorem dL_687 : decode code 687 = .ok (.iadd, 1) := by decide +kernel
theorem dL_688 : decode code 688 = .ok (.iaload, 1) := by decide +kernel
theorem dL_689 : decode code 689 = .ok (.aload_n 0, 1) := by decide +kernel
theorem dL_690 : decode code 690 = .ok (.iload_n 3, 1) := by decide +kernel
theorem dL_691 : decode code 691 = .ok (.iconst 2, 1) := by decide +kernel
theorem dL_692 : decode code 692 = .ok (.iadd, 1) := by decide +kernel
theorem dL_693 : decode code 693 = .ok (.iaload, 1) := by decide +kernel
theorem dL_694 : decode code 694 = .ok (.invokevirtual 82, 3) := by decide +kernel
theorem dL_697 : decode code 697 = .ok (.if_icmp .eq (409), 3) := by decide +kernel
theorem dL_700 : decode code 700 = .ok (.iconst 0, 1) := by decide +kernel
theorem dL_701 : decode code 701 = .ok (.ireturn, 1) := by decide +kernel
theorem dL_702 : decode code 702 = .ok (.aload_n 1, 1) := by decide +kernel
theorem dL_703 : decode code 703 = .ok (.aload_n 0, 1) := by decide +kernel
theorem dL_704 : decode code 704 = .ok (.iload_n 3, 1) := by decide +kernel
theorem dL_705 : decode code 705 = .ok (.iconst 1, 1) := by decide +kernel
theorem dL_706 : decode code 706 = .ok (.iadd, 1) := by decide +kernel
theorem dL_707 : decode code 707 = .ok (.iaload, 1) := by decide +kernel
theorem dL_708 : decode code 708 = .ok (.invokevirtual 83, 3) := by decide +kernel
theorem dL_711 : decode code 711 = .ok (.aload_n 2, 1) := by decide +kernel
theorem dL_712 : decode code 712 = .ok (.aload_n 0, 1) := by decide +kernel
theorem dL_713 : decode code 713 = .ok (.iload_n 3, 1) := by decide +kernel
theorem dL_714 : decode code 714 = .ok (.iconst 1, 1) := by decide +kernel
theorem dL_715 : decode code 715 = .ok (.iadd, 1) := by decide +kernel
theorem dL_716 : decode code 716 = .ok (.iaload, 1) := by decide +kernel
theorem dL_717 : decode code 717 = .ok (.invokevirtual 86, 3) := by decide +kernel
theorem dL_720 : decode code 720 = .ok (.if_icmp .eq (386), 3) := by decide +kernel
theorem dL_723 : decode code 723 = .ok (.iconst 0, 1) := by decide +kernel
theorem dL_724 : decode code 724 = .ok (.ireturn, 1) := by decide +kernel
theorem dL_725 : decode code 725 = .ok (.aload_n 1, 1) := by decide +kernel
theorem dL_726 : decode code 726 = .ok (.invokevirtual 87, 3) := by decide +kernel
theorem dL_729 : decode code 729 = .ok (.aload_n 2, 1) := by decide +kernel
theorem dL_730 : decode code 730 = .ok (.invokevirtual 90, 3) := by decide +kernel
theorem dL_733 : decode code 733 = .ok (.if_icmp .eq (373), 3) := by decide +kernel
theorem dL_736 : decode code 736 = .ok (.iconst 0, 1) := by decide +kernel
theorem dL_737 : decode code 737 = .ok (.ireturn, 1) := by decide +kernel
theorem dL_738 : decode code 738 = .ok (.aload_n 1, 1) := by decide +kernel
theorem dL_739 : decode code 739 = .ok (.invokevirtual 91, 3) := by decide +kernel
theorem dL_742 : decode code 742 = .ok (.aload_n 2, 1) := by decide +kernel
theorem dL_743 : decode code 743 = .ok (.invokevirtual 94, 3) := by decide +kernel
theorem dL_746 : decode code 746 = .ok (.if_icmp .eq (360), 3) := by decide +kernel
theorem dL_749 : decode code 749 = .ok (.iconst 0, 1) := by decide +kernel
theorem dL_750 : decode code 750 = .ok (.ireturn, 1) := by decide +kernel
theorem dL_751 : decode code 751 = .ok (.aload_n 1, 1) := by decide +kernel
theorem dL_752 : decode code 752 = .ok (.invokevirtual 95, 3) := by decide +kernel
theorem dL_755 : decode code 755 = .ok (.aload_n 2, 1) := by decide +kernel
theorem dL_756 : decode code 756 = .ok (.invokevirtual 98, 3) := by decide +kernel
theorem dL_759 : decode code 759 = .ok (.if_icmp .eq (347), 3) := by decide +kernel
theorem dL_762 : decode code 762 = .ok (.iconst 0, 1) := by decide +kernel
theorem dL_763 : decode code 763 = .ok (.ireturn, 1) := by decide +kernel
theorem dL_764 : decode code 764 = .ok (.aload_n 1, 1) := by decide +kernel
theorem dL_765 : decode code 765 = .ok (.aload_n 0, 1) := by decide +kernel
theorem dL_766 : decode code 766 = .ok (.iload_n 3, 1) := by decide +kernel
theorem dL_767 : decode code 767 = .ok (.iconst 1, 1) := by decide +kernel
theorem dL_768 : decode code 768 = .ok (.iadd, 1) := by decide +kernel
theorem dL_769 : decode code 769 = .ok (.iaload, 1) := by decide +kernel
theorem dL_770 : decode code 770 = .ok (.aload_n 0, 1) := by decide +kernel
theorem dL_771 : decode code 771 = .ok (.iload_n 3, 1) := by decide +kernel
theorem dL_772 : decode code 772 = .ok (.iconst 2, 1) := by decide +kernel
theorem dL_773 : decode code 773 = .ok (.iadd, 1) := by decide +kernel
theorem dL_774 : decode code 774 = .ok (.iaload, 1) := by decide +kernel
theorem dL_775 : decode code 775 = .ok (.invokevirtual 99, 3) := by decide +kernel
theorem dL_778 : decode code 778 = .ok (.aload_n 2, 1) := by decide +kernel
theorem dL_779 : decode code 779 = .ok (.aload_n 0, 1) := by decide +kernel
theorem dL_780 : decode code 780 = .ok (.iload_n 3, 1) := by decide +kernel
theorem dL_781 : decode code 781 = .ok (.iconst 1, 1) := by decide +kernel
theorem dL_782 : decode code 782 = .ok (.iadd, 1) := by decide +kernel
theorem dL_783 : decode code 783 = .ok (.iaload, 1) := by decide +kernel
theorem dL_784 : decode code 784 = .ok (.aload_n 0, 1) := by decide +kernel
theorem dL_785 : decode code 785 = .ok (.iload_n 3, 1) := by decide +kernel
theorem dL_786 : decode code 786 = .ok (.iconst 2, 1) := by decide +kernel
theorem dL_787 : decode code 787 = .ok (.iadd, 1) := by decide +kernel
theorem dL_788 : decode code 788 = .ok (.iaload, 1) := by decide +kernel
theorem dL_789 : decode code 789 = .ok (.invokevirtual 102, 3) := by decide +kernel
theorem dL_792 : decode code 792 = .ok (.if_icmp .eq (314), 3) := by decide +kernel
theorem dL_795 : decode code 795 = .ok (.iconst 0, 1) := by decide +kernel
theorem dL_796 : decode code 796 = .ok (.ireturn, 1) := by decide +kernel
theorem dL_797 : decode code 797 = .ok (.aload_n 1, 1) := by decide +kernel
theorem dL_798 : decode code 798 = .ok (.aload_n 0, 1) := by decide +kernel
theorem dL_799 : decode code 799 = .ok (.iload_n 3, 1) := by decide +kernel
theorem dL_800 : decode code 800 = .ok (.iconst 1, 1) := by decide +kernel
theorem dL_801 : decode code 801 = .ok (.iadd, 1) := by decide +kernel
theorem dL_802 : decode code 802 = .ok (.iaload, 1) := by decide +kernel
theorem dL_803 : decode code 803 = .ok (.invokevirtual 103, 3) := by decide +kernel
theorem dL_806 : decode code 806 = .ok (.aload_n 2, 1) := by decide +kernel
theorem dL_807 : decode code 807 = .ok (.aload_n 0, 1) := by decide +kernel
theorem dL_808 : decode code 808 = .ok (.iload_n 3, 1) := by decide +kernel
theorem dL_809 : decode code 809 = .ok (.iconst 1, 1) := by decide +kernel
theorem dL_810 : decode code 810 = .ok (.iadd, 1) := by decide +kernel
theorem dL_811 : decode code 811 = .ok (.iaload, 1) := by decide +kernel
theorem dL_812 : decode code 812 = .ok (.invokevirtual 106, 3) := by decide +kernel
theorem dL_815 : decode code 815 = .ok (.if_icmp .eq (291), 3) := by decide +kernel
theorem dL_818 : decode code 818 = .ok (.iconst 0, 1) := by decide +kernel
theorem dL_819 : decode code 819 = .ok (.ireturn, 1) := by decide +kernel
theorem dL_820 : decode code 820 = .ok (.aload_n 1, 1) := by decide +kernel
theorem dL_821 : decode code 821 = .ok (.aload_n 0, 1) := by decide +kernel
theorem dL_822 : decode code 822 = .ok (.iload_n 3, 1) := by decide +kernel
theorem dL_823 : decode code 823 = .ok (.iconst 1, 1) := by decide +kernel
theorem dL_824 : decode code 824 = .ok (.iadd, 1) := by decide +kernel
theorem dL_825 : decode code 825 = .ok (.iaload, 1) := by decide +kernel
theorem dL_826 : decode code 826 = .ok (.invokevirtual 107, 3) := by decide +kernel
theorem dL_829 : decode code 829 = .ok (.aload_n 2, 1) := by decide +kernel
theorem dL_830 : decode code 830 = .ok (.aload_n 0, 1) := by decide +kernel
theorem dL_831 : decode code 831 = .ok (.iload_n 3, 1) := by decide +kernel
theorem dL_832 : decode code 832 = .ok (.iconst 1, 1) := by decide +kernel
theorem dL_833 : decode code 833 = .ok (.iadd, 1) := by decide +kernel
theorem dL_834 : decode code 834 = .ok (.iaload, 1) := by decide +kernel
theorem dL_835 : decode code 835 = .ok (.invokevirtual 110, 3) := by decide +kernel
theorem dL_838 : decode code 838 = .ok (.if_icmp .eq (268), 3) := by decide +kernel
theorem dL_841 : decode code 841 = .ok (.iconst 0, 1) := by decide +kernel
theorem dL_842 : decode code 842 = .ok (.ireturn, 1) := by decide +kernel
theorem dL_843 : decode code 843 = .ok (.aload_n 1, 1) := by decide +kernel
theorem dL_844 : decode code 844 = .ok (.aload_n 0, 1) := by decide +kernel
theorem dL_845 : decode code 845 = .ok (.iload_n 3, 1) := by decide +kernel
theorem dL_846 : decode code 846 = .ok (.iconst 1, 1) := by decide +kernel
theorem dL_847 : decode code 847 = .ok (.iadd, 1) := by decide +kernel
theorem dL_848 : decode code 848 = .ok (.iaload, 1) := by decide +kernel
theorem dL_849 : decode code 849 = .ok (.aload_n 0, 1) := by decide +kernel
theorem dL_850 : decode code 850 = .ok (.iload_n 3, 1) := by decide +kernel
theorem dL_851 : decode code 851 = .ok (.iconst 2, 1) := by decide +kernel
theorem dL_852 : decode code 852 = .ok (.iadd, 1) := by decide +kernel
theorem dL_853 : decode code 853 = .ok (.iaload, 1) := by decide +kernel
theorem dL_854 : decode code 854 = .ok (.aload_n 0, 1) := by decide +kernel
theorem dL_855 : decode code 855 = .ok (.iload_n 3, 1) := by decide +kernel
theorem dL_856 : decode code 856 = .ok (.iconst 3, 1) := by decide +kernel
theorem dL_857 : decode code 857 = .ok (.iadd, 1) := by decide +kernel
theorem dL_858 : decode code 858 = .ok (.iaload, 1) := by decide +kernel
theorem dL_859 : decode code 859 = .ok (.invokevirtual 111, 3) := by decide +kernel
theorem dL_862 : decode code 862 = .ok (.aload_n 2, 1) := by decide +kernel
theorem dL_863 : decode code 863 = .ok (.aload_n 0, 1) := by decide +kernel
theorem dL_864 : decode code 864 = .ok (.iload_n 3, 1) := by decide +kernel
theorem dL_865 : decode code 865 = .ok (.iconst 1, 1) := by decide +kernel
theorem dL_866 : decode code 866 = .ok (.iadd, 1) := by decide +kernel
theorem dL_867 : decode code 867 = .ok (.iaload, 1) := by decide +kernel
theorem dL_868 : decode code 868 = .ok (.aload_n 0, 1) := by decide +kernel
theorem dL_869 : decode code 869 = .ok (.iload_n 3, 1) := by decide +kernel
theorem dL_870 : decode code 870 = .ok (.iconst 2, 1) := by decide +kernel
theorem dL_871 : decode code 871 = .ok (.iadd, 1) := by decide +kernel
theorem dL_872 : decode code 872 = .ok (.iaload, 1) := by decide +kernel
theorem dL_873 : decode code 873 = .ok (.aload_n 0, 1) := by decide +kernel
theorem dL_874 : decode code 874 = .ok (.iload_n 3, 1) := by decide +kernel
theorem dL_875 : decode code 875 = .ok (.iconst 3, 1) := by decide +kernel
theorem dL_876 : decode code 876 = .ok (.iadd, 1) := by decide +kernel
theorem dL_877 : decode code 877 = .ok (.iaload, 1) := by decide +kernel
theorem dL_878 : decode code 878 = .ok (.invokevirtual 114, 3) := by decide +kernel
theorem dL_881 : decode code 881 = .ok (.if_icmp .eq (225), 3) := by decide +kernel
theorem dL_884 : decode code 884 = .ok (.iconst 0, 1) := by decide +kernel
theorem dL_885 : decode code 885 = .ok (.ireturn, 1) := by decide +kernel
theorem dL_886 : decode code 886 = .ok (.aload_n 1, 1) := by decide +kernel
theorem dL_887 : decode code 887 = .ok (.aload_n 0, 1) := by decide +kernel
theorem dL_888 : decode code 888 = .ok (.iload_n 3, 1) := by decide +kernel
theorem dL_889 : decode code 889 = .ok (.iconst 1, 1) := by decide +kernel
theorem dL_890 : decode code 890 = .ok (.iadd, 1) := by decide +kernel
theorem dL_891 : decode code 891 = .ok (.iaload, 1) := by decide +kernel
theorem dL_892 : decode code 892 = .ok (.aload_n 0, 1) := by decide +kernel
theorem dL_893 : decode code 893 = .ok (.iload_n 3, 1) := by decide +kernel
theorem dL_894 : decode code 894 = .ok (.iconst 2, 1) := by decide +kernel
theorem dL_895 : decode code 895 = .ok (.iadd, 1) := by decide +kernel
theorem dL_896 : decode code 896 = .ok (.iaload, 1) := by decide +kernel
theorem dL_897 : decode code 897 = .ok (.invokevirtual 115, 3) := by decide +kernel
theorem dL_900 : decode code 900 = .ok (.aload_n 2, 1) := by decide +kernel
theorem dL_901 : decode code 901 = .ok (.aload_n 0, 1) := by decide +kernel
theorem dL_902 : decode code 902 = .ok (.iload_n 3, 1) := by decide +kernel
theorem dL_903 : decode code 903 = .ok (.iconst 1, 1) := by decide +kernel
theorem dL_904 : decode code 904 = .ok (.iadd, 1) := by decide +kernel
theorem dL_905 : decode code 905 = .ok (.iaload, 1) := by decide +kernel
theorem dL_906 : decode code 906 = .ok (.aload_n 0, 1) := by decide +kernel
theorem dL_907 : decode code 907 = .ok (.iload_n 3, 1) := by decide +kernel
theorem dL_908 : decode code 908 = .ok (.iconst 2, 1) := by decide +kernel
theorem dL_909 : decode code 909 = .ok (.iadd, 1) := by decide +kernel
theorem dL_910 : decode code 910 = .ok (.iaload, 1) := by decide +kernel
theorem dL_911 : decode code 911 = .ok (.invokevirtual 118, 3) := by decide +kernel
theorem dL_914 : decode code 914 = .ok (.if_icmp .eq (192), 3) := by decide +kernel
theorem dL_917 : decode code 917 = .ok (.iconst 0, 1) := by decide +kernel
theorem dL_918 : decode code 918 = .ok (.ireturn, 1) := by decide +kernel
theorem dL_919 : decode code 919 = .ok (.aload_n 1, 1) := by decide +kernel
theorem dL_920 : decode code 920 = .ok (.aload_n 0, 1) := by decide +kernel
theorem dL_921 : decode code 921 = .ok (.iload_n 3, 1) := by decide +kernel
theorem dL_922 : decode code 922 = .ok (.iconst 1, 1) := by decide +kernel
theorem dL_923 : decode code 923 = .ok (.iadd, 1) := by decide +kernel
theorem dL_924 : decode code 924 = .ok (.iaload, 1) := by decide +kernel
theorem dL_925 : decode code 925 = .ok (.invokevirtual 119, 3) := by decide +kernel
theorem dL_928 : decode code 928 = .ok (.aload_n 2, 1) := by decide +kernel
theorem dL_929 : decode code 929 = .ok (.aload_n 0, 1) := by decide +kernel
theorem dL_930 : decode code 930 = .ok (.iload_n 3, 1) := by decide +kernel
theorem dL_931 : decode code 931 = .ok (.iconst 1, 1) := by decide +kernel
theorem dL_932 : decode code 932 = .ok (.iadd, 1) := by decide +kernel
theorem dL_933 : decode code 933 = .ok (.iaload, 1) := by decide +kernel
theorem dL_934 : decode code 934 = .ok (.invokevirtual 122, 3) := by decide +kernel
theorem dL_937 : decode code 937 = .ok (.if_icmp .eq (169), 3) := by decide +kernel
theorem dL_940 : decode code 940 = .ok (.iconst 0, 1) := by decide +kernel
theorem dL_941 : decode code 941 = .ok (.ireturn, 1) := by decide +kernel
theorem dL_942 : decode code 942 = .ok (.aload_n 1, 1) := by decide +kernel
theorem dL_943 : decode code 943 = .ok (.aload_n 0, 1) := by decide +kernel
theorem dL_944 : decode code 944 = .ok (.iload_n 3, 1) := by decide +kernel
theorem dL_945 : decode code 945 = .ok (.iconst 1, 1) := by decide +kernel
theorem dL_946 : decode code 946 = .ok (.iadd, 1) := by decide +kernel
theorem dL_947 : decode code 947 = .ok (.iaload, 1) := by decide +kernel
theorem dL_948 : decode code 948 = .ok (.invokevirtual 123, 3) := by decide +kernel
theorem dL_951 : decode code 951 = .ok (.aload_n 2, 1) := by decide +kernel
theorem dL_952 : decode code 952 = .ok (.aload_n 0, 1) := by decide +kernel
theorem dL_953 : decode code 953 = .ok (.iload_n 3, 1) := by decide +kernel
theorem dL_954 : decode code 954 = .ok (.iconst 1, 1) := by decide +kernel
theorem dL_955 : decode code 955 = .ok (.iadd, 1) := by decide +kernel
theorem dL_956 : decode code 956 = .ok (.iaload, 1) := by decide +kernel
theorem dL_957 : decode code 957 = .ok (.invokevirtual 126, 3) := by decide +kernel
theorem dL_960 : decode code 960 = .ok (.if_icmp .eq (146), 3) := by decide +kernel
theorem dL_963 : decode code 963 = .ok (.iconst 0, 1) := by decide +kernel
theorem dL_964 : decode code 964 = .ok (.ireturn, 1) := by decide +kernel
theorem dL_965 : decode code 965 = .ok (.aload_n 1, 1) := by decide +kernel
theorem dL_966 : decode code 966 = .ok (.invokevirtual 127, 3) := by decide +kernel
theorem dL_969 : decode code 969 = .ok (.aload_n 2, 1) := by decide +kernel
theorem dL_970 : decode code 970 = .ok (.invokevirtual 131, 3) := by decide +kernel
theorem dL_973 : decode code 973 = .ok (.if_icmp .eq (133), 3) := by decide +kernel
theorem dL_976 : decode code 976 = .ok (.iconst 0, 1) := by decide +kernel
theorem dL_977 : decode code 977 = .ok (.ireturn, 1) := by decide +kernel
theorem dL_978 : decode code 978 = .ok (.aload_n 1, 1) := by decide +kernel
theorem dL_979 : decode code 979 = .ok (.aload_n 0, 1) := by decide +kernel
theorem dL_980 : decode code 980 = .ok (.iload_n 3, 1) := by decide +kernel
theorem dL_981 : decode code 981 = .ok (.iconst 1, 1) := by decide +kernel
theorem dL_982 : decode code 982 = .ok (.iadd, 1) := by decide +kernel
theorem dL_983 : decode code 983 = .ok (.iaload, 1) := by decide +kernel
theorem dL_984 : decode code 984 = .ok (.invokevirtual 132, 3) := by decide +kernel
theorem dL_987 : decode code 987 = .ok (.aload_n 2, 1) := by decide +kernel
theorem dL_988 : decode code 988 = .ok (.aload_n 0, 1) := by decide +kernel
theorem dL_989 : decode code 989 = .ok (.iload_n 3, 1) := by decide +kernel
theorem dL_990 : decode code 990 = .ok (.iconst 1, 1) := by decide +kernel
theorem dL_991 : decode code 991 = .ok (.iadd, 1) := by decide +kernel
theorem dL_992 : decode code 992 = .ok (.iaload, 1) := by decide +kernel
theorem dL_993 : decode code 993 = .ok (.invokevirtual 135, 3) := by decide +kernel
theorem dL_996 : decode code 996 = .ok (.if_icmp .eq (110), 3) := by decide +kernel
theorem dL_999 : decode code 999 = .ok (.iconst 0, 1) := by decide +kernel
theorem dL_1000 : decode code 1000 = .ok (.ireturn, 1) := by decide +kernel
theorem dL_1001 : decode code 1001 = .ok (.aload_n 1, 1) := by decide +kernel
theorem dL_1002 : decode code 1002 = .ok (.aload_n 0, 1) := by decide +kernel
theorem dL_1003 : decode code 1003 = .ok (.iload_n 3, 1) := by decide +kernel
theorem dL_1004 : decode code 1004 = .ok (.iconst 1, 1) := by decide +kernel
theorem dL_1005 : decode code 1005 = .ok (.iadd, 1) := by decide +kernel
theorem dL_1006 : decode code 1006 = .ok (.iaload, 1) := by decide +kernel
theorem dL_1007 : decode code 1007 = .ok (.aload_n 0, 1) := by decide +kernel
theorem dL_1008 : decode code 1008 = .ok (.iload_n 3, 1) := by decide +kernel
theorem dL_1009 : decode code 1009 = .ok (.iconst 2, 1) := by decide +kernel
theorem dL_1010 : decode code 1010 = .ok (.iadd, 1) := by decide +kernel
theorem dL_1011 : decode code 1011 = .ok (.iaload, 1) := by decide +kernel
theorem dL_1012 : decode code 1012 = .ok (.invokevirtual 136, 3) := by decide +kernel
theorem dL_1015 : decode code 1015 = .ok (.aload_n 2, 1) := by decide +kernel
theorem dL_1016 : decode code 1016 = .ok (.aload_n 0, 1) := by decide +kernel
theorem dL_1017 : decode code 1017 = .ok (.iload_n 3, 1) := by decide +kernel
theorem dL_1018 : decode code 1018 = .ok (.iconst 1, 1) := by decide +kernel
theorem dL_1019 : decode code 1019 = .ok (.iadd, 1) := by decide +kernel
theorem dL_1020 : decode code 1020 = .ok (.iaload, 1) := by decide +kernel
theorem dL_1021 : decode code 1021 = .ok (.aload_n 0, 1) := by decide +kernel
theorem dL_1022 : decode code 1022 = .ok (.iload_n 3, 1) := by decide +kernel
theorem dL_1023 : decode code 1023 = .ok (.iconst 2, 1) := by decide +kernel
theorem dL_1024 : decode code 1024 = .ok (.iadd, 1) := by decide +kernel
theorem dL_1025 : decode code 1025 = .ok (.iaload, 1) := by decide +kernel
theorem dL_1026 : decode code 1026 = .ok (.invokevirtual 139, 3) := by decide +kernel
theorem dL_1029 : decode code 1029 = .ok (.if_icmp .eq (77), 3) := by decide +kernel
theorem dL_1032 : decode code 1032 = .ok (.iconst 0, 1) := by decide +kernel
theorem dL_1033 : decode code 1033 = .ok (.ireturn, 1) := by decide +kernel
theorem dL_1034 : decode code 1034 = .ok (.aload_n 1, 1) := by decide +kernel
theorem dL_1035 : decode code 1035 = .ok (.invokevirtual 140, 3) := by decide +kernel
theorem dL_1038 : decode code 1038 = .ok (.aload_n 2, 1) := by decide +kernel
theorem dL_1039 : decode code 1039 = .ok (.invokevirtual 143, 3) := by decide +kernel
theorem dL_1042 : decode code 1042 = .ok (.if_icmp .eq (64), 3) := by decide +kernel
theorem dL_1045 : decode code 1045 = .ok (.iconst 0, 1) := by decide +kernel
theorem dL_1046 : decode code 1046 = .ok (.ireturn, 1) := by decide +kernel
theorem dL_1047 : decode code 1047 = .ok (.aload_n 1, 1) := by decide +kernel
theorem dL_1048 : decode code 1048 = .ok (.aload_n 0, 1) := by decide +kernel
theorem dL_1049 : decode code 1049 = .ok (.iload_n 3, 1) := by decide +kernel
theorem dL_1050 : decode code 1050 = .ok (.iconst 1, 1) := by decide +kernel
theorem dL_1051 : decode code 1051 = .ok (.iadd, 1) := by decide +kernel
theorem dL_1052 : decode code 1052 = .ok (.iaload, 1) := by decide +kernel
theorem dL_1053 : decode code 1053 = .ok (.invokevirtual 144, 3) := by decide +kernel
theorem dL_1056 : decode code 1056 = .ok (.aload_n 2, 1) := by decide +kernel
theorem dL_1057 : decode code 1057 = .ok (.aload_n 0, 1) := by decide +kernel
theorem dL_1058 : decode code 1058 = .ok (.iload_n 3, 1) := by decide +kernel
theorem dL_1059 : decode code 1059 = .ok (.iconst 1, 1) := by decide +kernel
theorem dL_1060 : decode code 1060 = .ok (.iadd, 1) := by decide +kernel
theorem dL_1061 : decode code 1061 = .ok (.iaload, 1) := by decide +kernel
theorem dL_1062 : decode code 1062 = .ok (.invokevirtual 147, 3) := by decide +kernel
theorem dL_1065 : decode code 1065 = .ok (.if_icmp .eq (41), 3) := by decide +kernel
theorem dL_1068 : decode code 1068 = .ok (.iconst 0, 1) := by decide +kernel
theorem dL_1069 : decode code 1069 = .ok (.ireturn, 1) := by decide +kernel
theorem dL_1070 : decode code 1070 = .ok (.aload_n 1, 1) := by decide +kernel
theorem dL_1071 : decode code 1071 = .ok (.invokevirtual 148, 3) := by decide +kernel
theorem dL_1074 : decode code 1074 = .ok (.aload_n 2, 1) := by decide +kernel
theorem dL_1075 : decode code 1075 = .ok (.invokevirtual 151, 3) := by decide +kernel
theorem dL_1078 : decode code 1078 = .ok (.if_icmp .eq (28), 3) := by decide +kernel
theorem dL_1081 : decode code 1081 = .ok (.iconst 0, 1) := by decide +kernel
theorem dL_1082 : decode code 1082 = .ok (.ireturn, 1) := by decide +kernel
theorem dL_1083 : decode code 1083 = .ok (.aload_n 1, 1) := by decide +kernel
theorem dL_1084 : decode code 1084 = .ok (.aload_n 0, 1) := by decide +kernel
theorem dL_1085 : decode code 1085 = .ok (.iload_n 3, 1) := by decide +kernel
theorem dL_1086 : decode code 1086 = .ok (.iconst 1, 1) := by decide +kernel
theorem dL_1087 : decode code 1087 = .ok (.iadd, 1) := by decide +kernel
theorem dL_1088 : decode code 1088 = .ok (.iaload, 1) := by decide +kernel
theorem dL_1089 : decode code 1089 = .ok (.invokevirtual 152, 3) := by decide +kernel
theorem dL_1092 : decode code 1092 = .ok (.aload_n 2, 1) := by decide +kernel
theorem dL_1093 : decode code 1093 = .ok (.aload_n 0, 1) := by decide +kernel
theorem dL_1094 : decode code 1094 = .ok (.iload_n 3, 1) := by decide +kernel
theorem dL_1095 : decode code 1095 = .ok (.iconst 1, 1) := by decide +kernel
theorem dL_1096 : decode code 1096 = .ok (.iadd, 1) := by decide +kernel
theorem dL_1097 : decode code 1097 = .ok (.iaload, 1) := by decide +kernel
theorem dL_1098 : decode code 1098 = .ok (.invokevirtual 155, 3) := by decide +kernel
theorem dL_1101 : decode code 1101 = .ok (.if_icmp .eq (5), 3) := by decide +kernel
theorem dL_1104 : decode code 1104 = .ok (.iconst 0, 1) := by decide +kernel
theorem dL_1105 : decode code 1105 = .ok (.ireturn, 1) := by decide +kernel
theorem dL_1106 : decode code 1106 = .ok (.iinc 3 6, 3) := by decide +kernel
theorem dL_1109 : decode code 1109 = .ok (.goto (-1091), 3) := by decide +kernel
theorem dL_1112 : decode code 1112 = .ok (.iconst 1, 1) := by decide +kernel
theorem dL_1113 : decode code 1113 = .ok (.ireturn, 1) := by decide +kernel
