set_option maxRecDepth 20000 in
theorem ks_X0_forget : Cond.selects RX0 yX0_forget yX0_forget ∈ GW := gw3 164 rfl (by decide +kernel)
theorem cX9_132 : aCv RX9 132 0 mX0_forget 0 := ⟨⟨kc_X0_forget, kl_X9_132, kn_X0, ⟨by decide +kernel, by decide +kernel, by decide +kernel⟩, by decide⟩, ki_X0_forget, ks_X0_forget, TX0, 3, rfl⟩
set_option maxRecDepth 20000 in
theorem kl_X9_138 : Cond.methodLink RX9 138 yX9_forgetAnswers ∈ GW := gw3 166 rfl (by decide +kernel)
set_option maxRecDepth 20000 in
theorem kc_X9_forgetAnswers : Cond.code mX9_forgetAnswers.1 mX9_forgetAnswers.2.1 mX9_forgetAnswers.2.2.1 mX9_forgetAnswers.2.2.2 ∈ GW := gw3 169 rfl (by decide +kernel)
set_option maxRecDepth 20000 in
theorem ki_X9_forgetAnswers : Cond.instanceMethod yX9_forgetAnswers ∈ GW := gw3 168 rfl (by decide +kernel)
set_option maxRecDepth 20000 in
theorem ks_X9_forgetAnswers : Cond.selects RX9 yX9_forgetAnswers yX9_forgetAnswers ∈ GW := gw_sl (q := (yX9_forgetAnswers, 17)) 30 (by decide +kernel) (by decide +kernel)
theorem cX9_138 : aCv RX9 138 9 mX9_forgetAnswers 0 := ⟨⟨kc_X9_forgetAnswers, kl_X9_138, kn_X9, ⟨by decide +kernel, by decide +kernel, by decide +kernel⟩, by decide⟩, ki_X9_forgetAnswers, ks_X9_forgetAnswers, TX9, 17, rfl⟩
set_option maxRecDepth 20000 in
theorem kl_X9_153 : Cond.methodLink RX9 153 yX8_stainsLeft ∈ GW := gw3 178 rfl (by decide +kernel)
set_option maxRecDepth 20000 in
theorem kc_X8_stainsLeft : Cond.code mX8_stainsLeft.1 mX8_stainsLeft.2.1 mX8_stainsLeft.2.2.1 mX8_stainsLeft.2.2.2 ∈ GW := gw3 181 rfl (by decide +kernel)
set_option maxRecDepth 20000 in
theorem ki_X8_stainsLeft : Cond.instanceMethod yX8_stainsLeft ∈ GW := gw3 179 rfl (by decide +kernel)
set_option maxRecDepth 20000 in
theorem ks_X8_stainsLeft : Cond.selects RX8 yX8_stainsLeft yX8_stainsLeft ∈ GW := gw3 180 rfl (by decide +kernel)
theorem cX9_153 : aCv RX9 153 8 mX8_stainsLeft 0 := ⟨⟨kc_X8_stainsLeft, kl_X9_153, kn_X8, ⟨by decide +kernel, by decide +kernel, by decide +kernel⟩, by decide⟩, ki_X8_stainsLeft, ks_X8_stainsLeft, TX8, 6, rfl⟩
set_option maxRecDepth 20000 in
theorem kl_X9_157 : Cond.methodLink RX9 157 yX9_bareBoards ∈ GW := gw3 182 rfl (by decide +kernel)
set_option maxRecDepth 20000 in
theorem kc_X9_bareBoards : Cond.code mX9_bareBoards.1 mX9_bareBoards.2.1 mX9_bareBoards.2.2.1 mX9_bareBoards.2.2.2 ∈ GW := gw3 185 rfl (by decide +kernel)
set_option maxRecDepth 20000 in
theorem ki_X9_bareBoards : Cond.instanceMethod yX9_bareBoards ∈ GW := gw3 184 rfl (by decide +kernel)
set_option maxRecDepth 20000 in
theorem ks_X9_bareBoards : Cond.selects RX9 yX9_bareBoards yX9_bareBoards ∈ GW := gw_sl (q := (yX9_bareBoards, 17)) 31 (by decide +kernel) (by decide +kernel)
theorem cX9_157 : aCv RX9 157 9 mX9_bareBoards 0 := ⟨⟨kc_X9_bareBoards, kl_X9_157, kn_X9, ⟨by decide +kernel, by decide +kernel, by decide +kernel⟩, by decide⟩, ki_X9_bareBoards, ks_X9_bareBoards, TX9, 17, rfl⟩
set_option maxRecDepth 20000 in
theorem kl_X9_163 : Cond.methodLink RX9 163 yJ6_bitCount_0f7a4 ∈ GW := gw3 186 rfl (by decide +kernel)
set_option maxRecDepth 20000 in
theorem kc_J6_bitCount_0f7a4 : Cond.code mJ6_bitCount_0f7a4.1 mJ6_bitCount_0f7a4.2.1 mJ6_bitCount_0f7a4.2.2.1 mJ6_bitCount_0f7a4.2.2.2 ∈ GW := gw3 188 rfl (by decide +kernel)
set_option maxRecDepth 20000 in
theorem kn_J6 : Cond.initialized RJ6 ∈ GW := gw1 17 rfl (by decide +kernel)
set_option maxRecDepth 20000 in
theorem kt_J6_bitCount_0f7a4 : Cond.static yJ6_bitCount_0f7a4 ∈ GW := gw3 187 rfl (by decide +kernel)
theorem cX9_163 : aCs RX9 163 mJ6_bitCount_0f7a4 1 := ⟨⟨kc_J6_bitCount_0f7a4, kl_X9_163, kn_J6, ⟨by decide +kernel, by decide +kernel, by decide +kernel⟩, by decide⟩, kt_J6_bitCount_0f7a4⟩
set_option maxRecDepth 20000 in
theorem kl_X9_171 : Cond.methodLink RX9 171 Lib.Math.min.name ∈ GW := gw3 192 rfl (by decide +kernel)
set_option maxRecDepth 20000 in
theorem kl_X9_182 : Cond.methodLink RX9 182 yX5_holds ∈ GW := gw3 197 rfl (by decide +kernel)
set_option maxRecDepth 20000 in
theorem kc_X5_holds : Cond.code mX5_holds.1 mX5_holds.2.1 mX5_holds.2.2.1 mX5_holds.2.2.2 ∈ GW := gw3 200 rfl (by decide +kernel)
set_option maxRecDepth 20000 in
theorem ki_X5_holds : Cond.instanceMethod yX5_holds ∈ GW := gw3 198 rfl (by decide +kernel)
set_option maxRecDepth 20000 in
theorem ks_X5_holds : Cond.selects RX5 yX5_holds yX5_holds ∈ GW := gw3 199 rfl (by decide +kernel)
theorem cX9_182 : aCv RX9 182 5 mX5_holds 2 := ⟨⟨kc_X5_holds, kl_X9_182, kn_X5, ⟨by decide +kernel, by decide +kernel, by decide +kernel⟩, by decide⟩, ki_X5_holds, ks_X5_holds, TX5, 11, rfl⟩
set_option maxRecDepth 20000 in
theorem kl_X9_189 : Cond.methodLink RX9 189 yX5_ribs ∈ GW := gw3 205 rfl (by decide +kernel)
set_option maxRecDepth 20000 in
theorem kc_X5_ribs : Cond.code mX5_ribs.1 mX5_ribs.2.1 mX5_ribs.2.2.1 mX5_ribs.2.2.2 ∈ GW := gw3 208 rfl (by decide +kernel)
set_option maxRecDepth 20000 in
theorem ki_X5_ribs : Cond.instanceMethod yX5_ribs ∈ GW := gw3 206 rfl (by decide +kernel)
set_option maxRecDepth 20000 in
theorem ks_X5_ribs : Cond.selects RX5 yX5_ribs yX5_ribs ∈ GW := gw3 207 rfl (by decide +kernel)
theorem cX9_189 : aCv RX9 189 5 mX5_ribs 1 := ⟨⟨kc_X5_ribs, kl_X9_189, kn_X5, ⟨by decide +kernel, by decide +kernel, by decide +kernel⟩, by decide⟩, ki_X5_ribs, ks_X5_ribs, TX5, 11, rfl⟩
set_option maxRecDepth 20000 in
theorem kl_X9_195 : Cond.methodLink RX9 195 yX5_stuff ∈ GW := gw3 213 rfl (by decide +kernel)
set_option maxRecDepth 20000 in
theorem kc_X5_stuff : Cond.code mX5_stuff.1 mX5_stuff.2.1 mX5_stuff.2.2.1 mX5_stuff.2.2.2 ∈ GW := gw3 216 rfl (by decide +kernel)
set_option maxRecDepth 20000 in
theorem ki_X5_stuff : Cond.instanceMethod yX5_stuff ∈ GW := gw3 214 rfl (by decide +kernel)
set_option maxRecDepth 20000 in
theorem ks_X5_stuff : Cond.selects RX5 yX5_stuff yX5_stuff ∈ GW := gw3 215 rfl (by decide +kernel)
theorem cX9_195 : aCv RX9 195 5 mX5_stuff 1 := ⟨⟨kc_X5_stuff, kl_X9_195, kn_X5, ⟨by decide +kernel, by decide +kernel, by decide +kernel⟩, by decide⟩, ki_X5_stuff, ks_X5_stuff, TX5, 11, rfl⟩
set_option maxRecDepth 20000 in
theorem kl_X9_198 : Cond.methodLink RX9 198 yX5_sin ∈ GW := gw3 221 rfl (by decide +kernel)
set_option maxRecDepth 20000 in
theorem kc_X5_sin : Cond.code mX5_sin.1 mX5_sin.2.1 mX5_sin.2.2.1 mX5_sin.2.2.2 ∈ GW := gw3 224 rfl (by decide +kernel)
set_option maxRecDepth 20000 in
theorem ki_X5_sin : Cond.instanceMethod yX5_sin ∈ GW := gw3 222 rfl (by decide +kernel)
set_option maxRecDepth 20000 in
theorem ks_X5_sin : Cond.selects RX5 yX5_sin yX5_sin ∈ GW := gw3 223 rfl (by decide +kernel)
theorem cX9_198 : aCv RX9 198 5 mX5_sin 1 := ⟨⟨kc_X5_sin, kl_X9_198, kn_X5, ⟨by decide +kernel, by decide +kernel, by decide +kernel⟩, by decide⟩, ki_X5_sin, ks_X5_sin, TX5, 11, rfl⟩
set_option maxRecDepth 20000 in
theorem kl_X9_201 : Cond.methodLink RX9 201 yX5_ear ∈ GW := gw3 225 rfl (by decide +kernel)
set_option maxRecDepth 20000 in
theorem kc_X5_ear : Cond.code mX5_ear.1 mX5_ear.2.1 mX5_ear.2.2.1 mX5_ear.2.2.2 ∈ GW := gw3 228 rfl (by decide +kernel)
set_option maxRecDepth 20000 in
theorem ki_X5_ear : Cond.instanceMethod yX5_ear ∈ GW := gw3 226 rfl (by decide +kernel)
set_option maxRecDepth 20000 in
theorem ks_X5_ear : Cond.selects RX5 yX5_ear yX5_ear ∈ GW := gw3 227 rfl (by decide +kernel)
theorem cX9_201 : aCv RX9 201 5 mX5_ear 1 := ⟨⟨kc_X5_ear, kl_X9_201, kn_X5, ⟨by decide +kernel, by decide +kernel, by decide +kernel⟩, by decide⟩, ki_X5_ear, ks_X5_ear, TX5, 11, rfl⟩
set_option maxRecDepth 20000 in
theorem kl_X9_204 : Cond.methodLink RX9 204 yX9_areThere ∈ GW := gw3 233 rfl (by decide +kernel)
set_option maxRecDepth 20000 in
theorem kc_X9_areThere : Cond.code mX9_areThere.1 mX9_areThere.2.1 mX9_areThere.2.2.1 mX9_areThere.2.2.2 ∈ GW := gw3 236 rfl (by decide +kernel)
set_option maxRecDepth 20000 in
theorem ki_X9_areThere : Cond.instanceMethod yX9_areThere ∈ GW := gw3 235 rfl (by decide +kernel)
set_option maxRecDepth 20000 in
theorem ks_X9_areThere : Cond.selects RX9 yX9_areThere yX9_areThere ∈ GW := gw_sl (q := (yX9_areThere, 17)) 32 (by decide +kernel) (by decide +kernel)
theorem cX9_204 : aCv RX9 204 9 mX9_areThere 2 := ⟨⟨kc_X9_areThere, kl_X9_204, kn_X9, ⟨by decide +kernel, by decide +kernel, by decide +kernel⟩, by decide⟩, ki_X9_areThere, ks_X9_areThere, TX9, 17, rfl⟩
set_option maxRecDepth 20000 in
theorem kl_X9_207 : Cond.methodLink RX9 207 yX6_lay ∈ GW := gw3 237 rfl (by decide +kernel)
set_option maxRecDepth 20000 in
theorem kc_X6_lay : Cond.code mX6_lay.1 mX6_lay.2.1 mX6_lay.2.2.1 mX6_lay.2.2.2 ∈ GW := gw4 0 rfl (by decide +kernel)
set_option maxRecDepth 20000 in
theorem ki_X6_lay : Cond.instanceMethod yX6_lay ∈ GW := gw3 238 rfl (by decide +kernel)
set_option maxRecDepth 20000 in
theorem ks_X6_lay : Cond.selects RX6 yX6_lay yX6_lay ∈ GW := gw3 239 rfl (by decide +kernel)
theorem cX9_207 : aCv RX9 207 6 mX6_lay 3 := ⟨⟨kc_X6_lay, kl_X9_207, kn_X6, ⟨by decide +kernel, by decide +kernel, by decide +kernel⟩, by decide⟩, ki_X6_lay, ks_X6_lay, TX6, 9, rfl⟩
set_option maxRecDepth 20000 in
theorem kl_X6_47 : Cond.methodLink RX6 47 yX5_ribs ∈ GW := gw4 1 rfl (by decide +kernel)
theorem cX6_47 : aCv RX6 47 5 mX5_ribs 1 := ⟨⟨kc_X5_ribs, kl_X6_47, kn_X5, ⟨by decide +kernel, by decide +kernel, by decide +kernel⟩, by decide⟩, ki_X5_ribs, ks_X5_ribs, TX5, 11, rfl⟩
set_option maxRecDepth 20000 in
theorem kl_X6_53 : Cond.methodLink RX6 53 yX5_stuff ∈ GW := gw4 2 rfl (by decide +kernel)
theorem cX6_53 : aCv RX6 53 5 mX5_stuff 1 := ⟨⟨kc_X5_stuff, kl_X6_53, kn_X5, ⟨by decide +kernel, by decide +kernel, by decide +kernel⟩, by decide⟩, ki_X5_stuff, ks_X5_stuff, TX5, 11, rfl⟩
set_option maxRecDepth 20000 in
theorem kl_X9_211 : Cond.methodLink RX9 211 yX6_rub ∈ GW := gw4 3 rfl (by decide +kernel)
set_option maxRecDepth 20000 in
theorem kc_X6_rub : Cond.code mX6_rub.1 mX6_rub.2.1 mX6_rub.2.2.1 mX6_rub.2.2.2 ∈ GW := gw4 6 rfl (by decide +kernel)
set_option maxRecDepth 20000 in
theorem ki_X6_rub : Cond.instanceMethod yX6_rub ∈ GW := gw4 4 rfl (by decide +kernel)
set_option maxRecDepth 20000 in
theorem ks_X6_rub : Cond.selects RX6 yX6_rub yX6_rub ∈ GW := gw4 5 rfl (by decide +kernel)
theorem cX9_211 : aCv RX9 211 6 mX6_rub 1 := ⟨⟨kc_X6_rub, kl_X9_211, kn_X6, ⟨by decide +kernel, by decide +kernel, by decide +kernel⟩, by decide⟩, ki_X6_rub, ks_X6_rub, TX6, 9, rfl⟩
set_option maxRecDepth 20000 in
theorem kl_X6_62 : Cond.methodLink RX6 62 yX6_valueOf ∈ GW := gw4 7 rfl (by decide +kernel)
set_option maxRecDepth 20000 in
theorem kc_X6_valueOf : Cond.code mX6_valueOf.1 mX6_valueOf.2.1 mX6_valueOf.2.2.1 mX6_valueOf.2.2.2 ∈ GW := gw4 10 rfl (by decide +kernel)
set_option maxRecDepth 20000 in
theorem ki_X6_valueOf : Cond.instanceMethod yX6_valueOf ∈ GW := gw4 9 rfl (by decide +kernel)
set_option maxRecDepth 20000 in
theorem ks_X6_valueOf : Cond.selects RX6 yX6_valueOf yX6_valueOf ∈ GW := gw_sl (q := (yX6_valueOf, 9)) 33 (by decide +kernel) (by decide +kernel)
theorem cX6_62 : aCv RX6 62 6 mX6_valueOf 2 := ⟨⟨kc_X6_valueOf, kl_X6_62, kn_X6, ⟨by decide +kernel, by decide +kernel, by decide +kernel⟩, by decide⟩, ki_X6_valueOf, ks_X6_valueOf, TX6, 9, rfl⟩
set_option maxRecDepth 20000 in
theorem kl_X6_71 : Cond.methodLink RX6 71 Lib.Math.min.name ∈ GW := gw4 11 rfl (by decide +kernel)
set_option maxRecDepth 20000 in
theorem kl_X6_125 : Cond.methodLink RX6 125 yX6_put ∈ GW := gw4 12 rfl (by decide +kernel)
set_option maxRecDepth 20000 in
theorem kc_X6_put : Cond.code mX6_put.1 mX6_put.2.1 mX6_put.2.2.1 mX6_put.2.2.2 ∈ GW := gw4 15 rfl (by decide +kernel)
set_option maxRecDepth 20000 in
theorem ki_X6_put : Cond.instanceMethod yX6_put ∈ GW := gw4 14 rfl (by decide +kernel)
set_option maxRecDepth 20000 in
theorem ks_X6_put : Cond.selects RX6 yX6_put yX6_put ∈ GW := gw_sl (q := (yX6_put, 9)) 34 (by decide +kernel) (by decide +kernel)
theorem cX6_125 : aCv RX6 125 6 mX6_put 2 := ⟨⟨kc_X6_put, kl_X6_125, kn_X6, ⟨by decide +kernel, by decide +kernel, by decide +kernel⟩, by decide⟩, ki_X6_put, ks_X6_put, TX6, 9, rfl⟩
set_option maxRecDepth 20000 in
theorem kl_X6_128 : Cond.methodLink RX6 128 yX6_reckon ∈ GW := gw4 16 rfl (by decide +kernel)
set_option maxRecDepth 20000 in
theorem kc_X6_reckon : Cond.code mX6_reckon.1 mX6_reckon.2.1 mX6_reckon.2.2.1 mX6_reckon.2.2.2 ∈ GW := gw4 18 rfl (by decide +kernel)
set_option maxRecDepth 20000 in
theorem kt_X6_reckon : Cond.static yX6_reckon ∈ GW := gw4 17 rfl (by decide +kernel)
theorem cX6_128 : aCs RX6 128 mX6_reckon 3 := ⟨⟨kc_X6_reckon, kl_X6_128, kn_X6, ⟨by decide +kernel, by decide +kernel, by decide +kernel⟩, by decide⟩, kt_X6_reckon⟩
set_option maxRecDepth 20000 in
theorem kl_X6_135 : Cond.methodLink RX6 135 yJ9_floorDiv_f86c9 ∈ GW := gw4 19 rfl (by decide +kernel)
set_option maxRecDepth 20000 in
theorem kc_J9_floorDiv_f86c9 : Cond.code mJ9_floorDiv_f86c9.1 mJ9_floorDiv_f86c9.2.1 mJ9_floorDiv_f86c9.2.2.1 mJ9_floorDiv_f86c9.2.2.2 ∈ GW := gw4 21 rfl (by decide +kernel)
set_option maxRecDepth 20000 in
theorem kn_J9 : Cond.initialized RJ9 ∈ GW := gw1 3 rfl (by decide +kernel)
set_option maxRecDepth 20000 in
theorem kt_J9_floorDiv_f86c9 : Cond.static yJ9_floorDiv_f86c9 ∈ GW := gw4 20 rfl (by decide +kernel)
theorem cX6_135 : aCs RX6 135 mJ9_floorDiv_f86c9 2 := ⟨⟨kc_J9_floorDiv_f86c9, kl_X6_135, kn_J9, ⟨by decide +kernel, by decide +kernel, by decide +kernel⟩, by decide⟩, kt_J9_floorDiv_f86c9⟩
set_option maxRecDepth 20000 in
theorem kl_X6_139 : Cond.methodLink RX6 139 yJ9_floorMod_f86c9 ∈ GW := gw4 22 rfl (by decide +kernel)
set_option maxRecDepth 20000 in
theorem kc_J9_floorMod_f86c9 : Cond.code mJ9_floorMod_f86c9.1 mJ9_floorMod_f86c9.2.1 mJ9_floorMod_f86c9.2.2.1 mJ9_floorMod_f86c9.2.2.2 ∈ GW := gw4 24 rfl (by decide +kernel)
set_option maxRecDepth 20000 in
theorem kt_J9_floorMod_f86c9 : Cond.static yJ9_floorMod_f86c9 ∈ GW := gw4 23 rfl (by decide +kernel)
theorem cX6_139 : aCs RX6 139 mJ9_floorMod_f86c9 2 := ⟨⟨kc_J9_floorMod_f86c9, kl_X6_139, kn_J9, ⟨by decide +kernel, by decide +kernel, by decide +kernel⟩, by decide⟩, kt_J9_floorMod_f86c9⟩
set_option maxRecDepth 20000 in
theorem kl_X6_132 : Cond.methodLink RX6 132 yX6_weigh ∈ GW := gw4 29 rfl (by decide +kernel)
set_option maxRecDepth 20000 in
theorem kc_X6_weigh : Cond.code mX6_weigh.1 mX6_weigh.2.1 mX6_weigh.2.2.1 mX6_weigh.2.2.2 ∈ GW := gw4 32 rfl (by decide +kernel)
set_option maxRecDepth 20000 in
theorem ki_X6_weigh : Cond.instanceMethod yX6_weigh ∈ GW := gw4 31 rfl (by decide +kernel)
set_option maxRecDepth 20000 in
theorem ks_X6_weigh : Cond.selects RX6 yX6_weigh yX6_weigh ∈ GW := gw_sl (q := (yX6_weigh, 9)) 35 (by decide +kernel) (by decide +kernel)
theorem cX6_132 : aCv RX6 132 6 mX6_weigh 2 := ⟨⟨kc_X6_weigh, kl_X6_132, kn_X6, ⟨by decide +kernel, by decide +kernel, by decide +kernel⟩, by decide⟩, ki_X6_weigh, ks_X6_weigh, TX6, 9, rfl⟩
set_option maxRecDepth 20000 in
theorem kl_X6_66 : Cond.methodLink RX6 66 Lib.Math.max.name ∈ GW := gw4 33 rfl (by decide +kernel)
set_option maxRecDepth 20000 in
theorem kl_X9_216 : Cond.methodLink RX9 216 yX6_bringOut ∈ GW := gw4 38 rfl (by decide +kernel)
set_option maxRecDepth 20000 in
theorem kc_X6_bringOut : Cond.code mX6_bringOut.1 mX6_bringOut.2.1 mX6_bringOut.2.2.1 mX6_bringOut.2.2.2 ∈ GW := gw4 41 rfl (by decide +kernel)
set_option maxRecDepth 20000 in
theorem ki_X6_bringOut : Cond.instanceMethod yX6_bringOut ∈ GW := gw4 39 rfl (by decide +kernel)
set_option maxRecDepth 20000 in
theorem ks_X6_bringOut : Cond.selects RX6 yX6_bringOut yX6_bringOut ∈ GW := gw4 40 rfl (by decide +kernel)
theorem cX9_216 : aCv RX9 216 6 mX6_bringOut 3 := ⟨⟨kc_X6_bringOut, kl_X9_216, kn_X6, ⟨by decide +kernel, by decide +kernel, by decide +kernel⟩, by decide⟩, ki_X6_bringOut, ks_X6_bringOut, TX6, 9, rfl⟩
set_option maxRecDepth 20000 in
theorem kl_X6_74 : Cond.methodLink RX6 74 yX6_lay ∈ GW := gw4 42 rfl (by decide +kernel)
theorem cX6_74 : aCv RX6 74 6 mX6_lay 3 := ⟨⟨kc_X6_lay, kl_X6_74, kn_X6, ⟨by decide +kernel, by decide +kernel, by decide +kernel⟩, by decide⟩, ki_X6_lay, ks_X6_lay, TX6, 9, rfl⟩
set_option maxRecDepth 20000 in
theorem kl_X6_78 : Cond.methodLink RX6 78 yX6_rub ∈ GW := gw4 43 rfl (by decide +kernel)
theorem cX6_78 : aCv RX6 78 6 mX6_rub 1 := ⟨⟨kc_X6_rub, kl_X6_78, kn_X6, ⟨by decide +kernel, by decide +kernel, by decide +kernel⟩, by decide⟩, ki_X6_rub, ks_X6_rub, TX6, 9, rfl⟩
set_option maxRecDepth 20000 in
theorem kl_X9_229 : Cond.methodLink RX9 229 yX3_solve ∈ GW := gw4 52 rfl (by decide +kernel)
set_option maxRecDepth 20000 in
theorem kc_X3_solve : Cond.code mX3_solve.1 mX3_solve.2.1 mX3_solve.2.2.1 mX3_solve.2.2.2 ∈ GW := gw4 55 rfl (by decide +kernel)
set_option maxRecDepth 20000 in
theorem ki_X3_solve : Cond.instanceMethod yX3_solve ∈ GW := gw4 53 rfl (by decide +kernel)
set_option maxRecDepth 20000 in
theorem ks_X3_solve : Cond.selects RX3 yX3_solve yX3_solve ∈ GW := gw4 54 rfl (by decide +kernel)
theorem cX9_229 : aCv RX9 229 3 mX3_solve 0 := ⟨⟨kc_X3_solve, kl_X9_229, kn_X3, ⟨by decide +kernel, by decide +kernel, by decide +kernel⟩, by decide⟩, ki_X3_solve, ks_X3_solve, TX3, 7, rfl⟩
set_option maxRecDepth 20000 in
theorem kl_X3_48 : Cond.methodLink RX3 48 yX6_bringOut ∈ GW := gw4 56 rfl (by decide +kernel)
theorem cX3_48 : aCv RX3 48 6 mX6_bringOut 3 := ⟨⟨kc_X6_bringOut, kl_X3_48, kn_X6, ⟨by decide +kernel, by decide +kernel, by decide +kernel⟩, by decide⟩, ki_X6_bringOut, ks_X6_bringOut, TX6, 9, rfl⟩
set_option maxRecDepth 20000 in
theorem kl_X3_58 : Cond.methodLink RX3 58 yX3_seat ∈ GW := gw4 57 rfl (by decide +kernel)
set_option maxRecDepth 20000 in
theorem kc_X3_seat : Cond.code mX3_seat.1 mX3_seat.2.1 mX3_seat.2.2.1 mX3_seat.2.2.2 ∈ GW := gw4 60 rfl (by decide +kernel)
set_option maxRecDepth 20000 in
theorem ki_X3_seat : Cond.instanceMethod yX3_seat ∈ GW := gw4 59 rfl (by decide +kernel)
set_option maxRecDepth 20000 in
theorem ks_X3_seat : Cond.selects RX3 yX3_seat yX3_seat ∈ GW := gw_sl (q := (yX3_seat, 7)) 36 (by decide +kernel) (by decide +kernel)
theorem cX3_58 : aCv RX3 58 3 mX3_seat 3 := ⟨⟨kc_X3_seat, kl_X3_58, kn_X3, ⟨by decide +kernel, by decide +kernel, by decide +kernel⟩, by decide⟩, ki_X3_seat, ks_X3_seat, TX3, 7, rfl⟩
set_option maxRecDepth 20000 in
theorem kl_X3_62 : Cond.methodLink RX3 62 arraycopyName ∈ GW := gw4 61 rfl (by decide +kernel)
set_option maxRecDepth 20000 in
theorem kl_X9_241 : Cond.methodLink RX9 241 yX1_solve ∈ GW := gw4 68 rfl (by decide +kernel)
set_option maxRecDepth 20000 in
theorem kc_X1_solve : Cond.code mX1_solve.1 mX1_solve.2.1 mX1_solve.2.2.1 mX1_solve.2.2.2 ∈ GW := gw4 71 rfl (by decide +kernel)
set_option maxRecDepth 20000 in
theorem ki_X1_solve : Cond.instanceMethod yX1_solve ∈ GW := gw4 69 rfl (by decide +kernel)
set_option maxRecDepth 20000 in
theorem ks_X1_solve : Cond.selects RX1 yX1_solve yX1_solve ∈ GW := gw4 70 rfl (by decide +kernel)
theorem cX9_241 : aCv RX9 241 1 mX1_solve 1 := ⟨⟨kc_X1_solve, kl_X9_241, kn_X1, ⟨by decide +kernel, by decide +kernel, by decide +kernel⟩, by decide⟩, ki_X1_solve, ks_X1_solve, TX1, 8, rfl⟩
set_option maxRecDepth 20000 in
theorem kl_X1_44 : Cond.methodLink RX1 44 yX1_goOn ∈ GW := gw4 72 rfl (by decide +kernel)
set_option maxRecDepth 20000 in
theorem kc_X1_goOn : Cond.code mX1_goOn.1 mX1_goOn.2.1 mX1_goOn.2.2.1 mX1_goOn.2.2.2 ∈ GW := gw4 75 rfl (by decide +kernel)
set_option maxRecDepth 20000 in
theorem ki_X1_goOn : Cond.instanceMethod yX1_goOn ∈ GW := gw4 74 rfl (by decide +kernel)
set_option maxRecDepth 20000 in
theorem ks_X1_goOn : Cond.selects RX1 yX1_goOn yX1_goOn ∈ GW := gw_sl (q := (yX1_goOn, 8)) 37 (by decide +kernel) (by decide +kernel)
theorem cX1_44 : aCv RX1 44 1 mX1_goOn 4 := ⟨⟨kc_X1_goOn, kl_X1_44, kn_X1, ⟨by decide +kernel, by decide +kernel, by decide +kernel⟩, by decide⟩, ki_X1_goOn, ks_X1_goOn, TX1, 8, rfl⟩
set_option maxRecDepth 20000 in
theorem kl_X1_48 : Cond.methodLink RX1 48 arraycopyName ∈ GW := gw4 76 rfl (by decide +kernel)
set_option maxRecDepth 20000 in
theorem kl_X1_57 : Cond.methodLink RX1 57 yX1_look ∈ GW := gw4 77 rfl (by decide +kernel)
set_option maxRecDepth 20000 in
theorem kc_X1_look : Cond.code mX1_look.1 mX1_look.2.1 mX1_look.2.2.1 mX1_look.2.2.2 ∈ GW := gw4 80 rfl (by decide +kernel)
set_option maxRecDepth 20000 in
theorem ki_X1_look : Cond.instanceMethod yX1_look ∈ GW := gw4 79 rfl (by decide +kernel)
set_option maxRecDepth 20000 in
theorem ks_X1_look : Cond.selects RX1 yX1_look yX1_look ∈ GW := gw_sl (q := (yX1_look, 8)) 38 (by decide +kernel) (by decide +kernel)
theorem cX1_57 : aCv RX1 57 1 mX1_look 2 := ⟨⟨kc_X1_look, kl_X1_57, kn_X1, ⟨by decide +kernel, by decide +kernel, by decide +kernel⟩, by decide⟩, ki_X1_look, ks_X1_look, TX1, 8, rfl⟩
set_option maxRecDepth 20000 in
theorem kl_X1_61 : Cond.methodLink RX1 61 yX6_lay ∈ GW := gw4 81 rfl (by decide +kernel)
theorem cX1_61 : aCv RX1 61 6 mX6_lay 3 := ⟨⟨kc_X6_lay, kl_X1_61, kn_X6, ⟨by decide +kernel, by decide +kernel, by decide +kernel⟩, by decide⟩, ki_X6_lay, ks_X6_lay, TX6, 9, rfl⟩
set_option maxRecDepth 20000 in
theorem kl_X1_69 : Cond.methodLink RX1 69 yX6_rub ∈ GW := gw4 82 rfl (by decide +kernel)
theorem cX1_69 : aCv RX1 69 6 mX6_rub 1 := ⟨⟨kc_X6_rub, kl_X1_69, kn_X6, ⟨by decide +kernel, by decide +kernel, by decide +kernel⟩, by decide⟩, ki_X6_rub, ks_X6_rub, TX6, 9, rfl⟩
set_option maxRecDepth 20000 in
theorem kl_X9_248 : Cond.methodLink RX9 248 yX9_canPass ∈ GW := gw4 87 rfl (by decide +kernel)
set_option maxRecDepth 20000 in
theorem kc_X9_canPass : Cond.code mX9_canPass.1 mX9_canPass.2.1 mX9_canPass.2.2.1 mX9_canPass.2.2.2 ∈ GW := gw4 90 rfl (by decide +kernel)
set_option maxRecDepth 20000 in
theorem ki_X9_canPass : Cond.instanceMethod yX9_canPass ∈ GW := gw4 89 rfl (by decide +kernel)
set_option maxRecDepth 20000 in
theorem ks_X9_canPass : Cond.selects RX9 yX9_canPass yX9_canPass ∈ GW := gw_sl (q := (yX9_canPass, 17)) 39 (by decide +kernel) (by decide +kernel)
theorem cX9_248 : aCv RX9 248 9 mX9_canPass 1 := ⟨⟨kc_X9_canPass, kl_X9_248, kn_X9, ⟨by decide +kernel, by decide +kernel, by decide +kernel⟩, by decide⟩, ki_X9_canPass, ks_X9_canPass, TX9, 17, rfl⟩
set_option maxRecDepth 20000 in
theorem kl_X9_251 : Cond.methodLink RX9 251 yX9_goAhead ∈ GW := gw4 91 rfl (by decide +kernel)
set_option maxRecDepth 20000 in
theorem kc_X9_goAhead : Cond.code mX9_goAhead.1 mX9_goAhead.2.1 mX9_goAhead.2.2.1 mX9_goAhead.2.2.2 ∈ GW := gw4 94 rfl (by decide +kernel)
set_option maxRecDepth 20000 in
theorem ki_X9_goAhead : Cond.instanceMethod yX9_goAhead ∈ GW := gw4 93 rfl (by decide +kernel)
set_option maxRecDepth 20000 in
theorem ks_X9_goAhead : Cond.selects RX9 yX9_goAhead yX9_goAhead ∈ GW := gw_sl (q := (yX9_goAhead, 17)) 40 (by decide +kernel) (by decide +kernel)
theorem cX9_251 : aCv RX9 251 9 mX9_goAhead 1 := ⟨⟨kc_X9_goAhead, kl_X9_251, kn_X9, ⟨by decide +kernel, by decide +kernel, by decide +kernel⟩, by decide⟩, ki_X9_goAhead, ks_X9_goAhead, TX9, 17, rfl⟩
set_option maxRecDepth 20000 in
theorem kl_X9_254 : Cond.methodLink RX9 254 yX8_take ∈ GW := gw4 95 rfl (by decide +kernel)
set_option maxRecDepth 20000 in
theorem kc_X8_take : Cond.code mX8_take.1 mX8_take.2.1 mX8_take.2.2.1 mX8_take.2.2.2 ∈ GW := gw4 98 rfl (by decide +kernel)
set_option maxRecDepth 20000 in
theorem ki_X8_take : Cond.instanceMethod yX8_take ∈ GW := gw4 96 rfl (by decide +kernel)
set_option maxRecDepth 20000 in
theorem ks_X8_take : Cond.selects RX8 yX8_take yX8_take ∈ GW := gw4 97 rfl (by decide +kernel)
theorem cX9_254 : aCv RX9 254 8 mX8_take 1 := ⟨⟨kc_X8_take, kl_X9_254, kn_X8, ⟨by decide +kernel, by decide +kernel, by decide +kernel⟩, by decide⟩, ki_X8_take, ks_X8_take, TX8, 6, rfl⟩
set_option maxRecDepth 20000 in
theorem kl_X8_41 : Cond.methodLink RX8 41 arraycopyName ∈ GW := gw4 99 rfl (by decide +kernel)
set_option maxRecDepth 20000 in
theorem kl_X9_258 : Cond.methodLink RX9 258 yX6_passWeek ∈ GW := gw4 100 rfl (by decide +kernel)
set_option maxRecDepth 20000 in
theorem kc_X6_passWeek : Cond.code mX6_passWeek.1 mX6_passWeek.2.1 mX6_passWeek.2.2.1 mX6_passWeek.2.2.2 ∈ GW := gw4 103 rfl (by decide +kernel)
set_option maxRecDepth 20000 in
theorem ki_X6_passWeek : Cond.instanceMethod yX6_passWeek ∈ GW := gw4 101 rfl (by decide +kernel)
set_option maxRecDepth 20000 in
theorem ks_X6_passWeek : Cond.selects RX6 yX6_passWeek yX6_passWeek ∈ GW := gw4 102 rfl (by decide +kernel)
theorem cX9_258 : aCv RX9 258 6 mX6_passWeek 2 := ⟨⟨kc_X6_passWeek, kl_X9_258, kn_X6, ⟨by decide +kernel, by decide +kernel, by decide +kernel⟩, by decide⟩, ki_X6_passWeek, ks_X6_passWeek, TX6, 9, rfl⟩
set_option maxRecDepth 20000 in
theorem kl_X6_88 : Cond.methodLink RX6 88 yX6_deepestOf ∈ GW := gw4 104 rfl (by decide +kernel)
set_option maxRecDepth 20000 in
theorem kc_X6_deepestOf : Cond.code mX6_deepestOf.1 mX6_deepestOf.2.1 mX6_deepestOf.2.2.1 mX6_deepestOf.2.2.2 ∈ GW := gw4 107 rfl (by decide +kernel)
set_option maxRecDepth 20000 in
theorem ki_X6_deepestOf : Cond.instanceMethod yX6_deepestOf ∈ GW := gw4 106 rfl (by decide +kernel)
set_option maxRecDepth 20000 in
theorem ks_X6_deepestOf : Cond.selects RX6 yX6_deepestOf yX6_deepestOf ∈ GW := gw_sl (q := (yX6_deepestOf, 9)) 41 (by decide +kernel) (by decide +kernel)
theorem cX6_88 : aCv RX6 88 6 mX6_deepestOf 1 := ⟨⟨kc_X6_deepestOf, kl_X6_88, kn_X6, ⟨by decide +kernel, by decide +kernel, by decide +kernel⟩, by decide⟩, ki_X6_deepestOf, ks_X6_deepestOf, TX6, 9, rfl⟩
set_option maxRecDepth 20000 in
theorem kl_X6_95 : Cond.methodLink RX6 95 yX6_pickFor ∈ GW := gw4 108 rfl (by decide +kernel)
set_option maxRecDepth 20000 in
theorem kc_X6_pickFor : Cond.code mX6_pickFor.1 mX6_pickFor.2.1 mX6_pickFor.2.2.1 mX6_pickFor.2.2.2 ∈ GW := gw4 111 rfl (by decide +kernel)
set_option maxRecDepth 20000 in
theorem ki_X6_pickFor : Cond.instanceMethod yX6_pickFor ∈ GW := gw4 110 rfl (by decide +kernel)
set_option maxRecDepth 20000 in
theorem ks_X6_pickFor : Cond.selects RX6 yX6_pickFor yX6_pickFor ∈ GW := gw_sl (q := (yX6_pickFor, 9)) 42 (by decide +kernel) (by decide +kernel)
theorem cX6_95 : aCv RX6 95 6 mX6_pickFor 2 := ⟨⟨kc_X6_pickFor, kl_X6_95, kn_X6, ⟨by decide +kernel, by decide +kernel, by decide +kernel⟩, by decide⟩, ki_X6_pickFor, ks_X6_pickFor, TX6, 9, rfl⟩
set_option maxRecDepth 20000 in
theorem kl_X6_99 : Cond.methodLink RX6 99 yX6_preach ∈ GW := gw4 112 rfl (by decide +kernel)
set_option maxRecDepth 20000 in
theorem kc_X6_preach : Cond.code mX6_preach.1 mX6_preach.2.1 mX6_preach.2.2.1 mX6_preach.2.2.2 ∈ GW := gw4 115 rfl (by decide +kernel)
set_option maxRecDepth 20000 in
theorem ki_X6_preach : Cond.instanceMethod yX6_preach ∈ GW := gw4 113 rfl (by decide +kernel)
set_option maxRecDepth 20000 in
theorem ks_X6_preach : Cond.selects RX6 yX6_preach yX6_preach ∈ GW := gw4 114 rfl (by decide +kernel)
theorem cX6_99 : aCv RX6 99 6 mX6_preach 4 := ⟨⟨kc_X6_preach, kl_X6_99, kn_X6, ⟨by decide +kernel, by decide +kernel, by decide +kernel⟩, by decide⟩, ki_X6_preach, ks_X6_preach, TX6, 9, rfl⟩
set_option maxRecDepth 20000 in
theorem kl_X6_85 : Cond.methodLink RX6 85 yX6_whoHolds ∈ GW := gw4 116 rfl (by decide +kernel)
set_option maxRecDepth 20000 in
theorem kc_X6_whoHolds : Cond.code mX6_whoHolds.1 mX6_whoHolds.2.1 mX6_whoHolds.2.2.1 mX6_whoHolds.2.2.2 ∈ GW := gw4 119 rfl (by decide +kernel)
set_option maxRecDepth 20000 in
theorem ki_X6_whoHolds : Cond.instanceMethod yX6_whoHolds ∈ GW := gw4 118 rfl (by decide +kernel)
set_option maxRecDepth 20000 in
theorem ks_X6_whoHolds : Cond.selects RX6 yX6_whoHolds yX6_whoHolds ∈ GW := gw_sl (q := (yX6_whoHolds, 9)) 43 (by decide +kernel) (by decide +kernel)
theorem cX6_85 : aCv RX6 85 6 mX6_whoHolds 2 := ⟨⟨kc_X6_whoHolds, kl_X6_85, kn_X6, ⟨by decide +kernel, by decide +kernel, by decide +kernel⟩, by decide⟩, ki_X6_whoHolds, ks_X6_whoHolds, TX6, 9, rfl⟩
set_option maxRecDepth 20000 in
theorem kl_X6_107 : Cond.methodLink RX6 107 yX5_sin ∈ GW := gw4 120 rfl (by decide +kernel)
theorem cX6_107 : aCv RX6 107 5 mX5_sin 1 := ⟨⟨kc_X5_sin, kl_X6_107, kn_X5, ⟨by decide +kernel, by decide +kernel, by decide +kernel⟩, by decide⟩, ki_X5_sin, ks_X5_sin, TX5, 11, rfl⟩
set_option maxRecDepth 20000 in
theorem kl_X6_110 : Cond.methodLink RX6 110 yX5_ear ∈ GW := gw4 121 rfl (by decide +kernel)
theorem cX6_110 : aCv RX6 110 5 mX5_ear 1 := ⟨⟨kc_X5_ear, kl_X6_110, kn_X5, ⟨by decide +kernel, by decide +kernel, by decide +kernel⟩, by decide⟩, ki_X5_ear, ks_X5_ear, TX5, 11, rfl⟩
set_option maxRecDepth 20000 in
theorem kl_X6_103 : Cond.methodLink RX6 103 yX6_restWithoutSermon ∈ GW := gw4 122 rfl (by decide +kernel)
set_option maxRecDepth 20000 in
theorem kc_X6_restWithoutSermon : Cond.code mX6_restWithoutSermon.1 mX6_restWithoutSermon.2.1 mX6_restWithoutSermon.2.2.1 mX6_restWithoutSermon.2.2.2 ∈ GW := gw4 125 rfl (by decide +kernel)
set_option maxRecDepth 20000 in
theorem ki_X6_restWithoutSermon : Cond.instanceMethod yX6_restWithoutSermon ∈ GW := gw4 124 rfl (by decide +kernel)
set_option maxRecDepth 20000 in
theorem ks_X6_restWithoutSermon : Cond.selects RX6 yX6_restWithoutSermon yX6_restWithoutSermon ∈ GW := gw_sl (q := (yX6_restWithoutSermon, 9)) 44 (by decide +kernel) (by decide +kernel)
theorem cX6_103 : aCv RX6 103 6 mX6_restWithoutSermon 1 := ⟨⟨kc_X6_restWithoutSermon, kl_X6_103, kn_X6, ⟨by decide +kernel, by decide +kernel, by decide +kernel⟩, by decide⟩, ki_X6_restWithoutSermon, ks_X6_restWithoutSermon, TX6, 9, rfl⟩
set_option maxRecDepth 20000 in
theorem kl_X9_262 : Cond.methodLink RX9 262 yX7_read ∈ GW := gw4 142 rfl (by decide +kernel)
set_option maxRecDepth 20000 in
theorem kc_X7_read : Cond.code mX7_read.1 mX7_read.2.1 mX7_read.2.2.1 mX7_read.2.2.2 ∈ GW := gw4 145 rfl (by decide +kernel)
set_option maxRecDepth 20000 in
theorem ki_X7_read : Cond.instanceMethod yX7_read ∈ GW := gw4 143 rfl (by decide +kernel)
set_option maxRecDepth 20000 in
theorem ks_X7_read : Cond.selects RX7 yX7_read yX7_read ∈ GW := gw4 144 rfl (by decide +kernel)
theorem cX9_262 : aCv RX9 262 7 mX7_read 3 := ⟨⟨kc_X7_read, kl_X9_262, kn_X7, ⟨by decide +kernel, by decide +kernel, by decide +kernel⟩, by decide⟩, ki_X7_read, ks_X7_read, TX7, 7, rfl⟩
set_option maxRecDepth 20000 in
theorem kl_X9_266 : Cond.methodLink RX9 266 yX7_stains ∈ GW := gw4 150 rfl (by decide +kernel)
set_option maxRecDepth 20000 in
theorem kc_X7_stains : Cond.code mX7_stains.1 mX7_stains.2.1 mX7_stains.2.2.1 mX7_stains.2.2.2 ∈ GW := gw4 153 rfl (by decide +kernel)
set_option maxRecDepth 20000 in
theorem ki_X7_stains : Cond.instanceMethod yX7_stains ∈ GW := gw4 151 rfl (by decide +kernel)
set_option maxRecDepth 20000 in
theorem ks_X7_stains : Cond.selects RX7 yX7_stains yX7_stains ∈ GW := gw4 152 rfl (by decide +kernel)
theorem cX9_266 : aCv RX9 266 7 mX7_stains 0 := ⟨⟨kc_X7_stains, kl_X9_266, kn_X7, ⟨by decide +kernel, by decide +kernel, by decide +kernel⟩, by decide⟩, ki_X7_stains, ks_X7_stains, TX7, 7, rfl⟩
set_option maxRecDepth 20000 in
theorem kl_X7_47 : Cond.methodLink RX7 47 yX7_isSo ∈ GW := gw4 154 rfl (by decide +kernel)
set_option maxRecDepth 20000 in
theorem kc_X7_isSo : Cond.code mX7_isSo.1 mX7_isSo.2.1 mX7_isSo.2.2.1 mX7_isSo.2.2.2 ∈ GW := gw4 157 rfl (by decide +kernel)
set_option maxRecDepth 20000 in
theorem ki_X7_isSo : Cond.instanceMethod yX7_isSo ∈ GW := gw4 156 rfl (by decide +kernel)
set_option maxRecDepth 20000 in
theorem ks_X7_isSo : Cond.selects RX7 yX7_isSo yX7_isSo ∈ GW := gw_sl (q := (yX7_isSo, 7)) 45 (by decide +kernel) (by decide +kernel)
theorem cX7_47 : aCv RX7 47 7 mX7_isSo 1 := ⟨⟨kc_X7_isSo, kl_X7_47, kn_X7, ⟨by decide +kernel, by decide +kernel, by decide +kernel⟩, by decide⟩, ki_X7_isSo, ks_X7_isSo, TX7, 7, rfl⟩
set_option maxRecDepth 20000 in
theorem kl_X7_51 : Cond.methodLink RX7 51 yX6_lay ∈ GW := gw4 158 rfl (by decide +kernel)
theorem cX7_51 : aCv RX7 51 6 mX6_lay 3 := ⟨⟨kc_X6_lay, kl_X7_51, kn_X6, ⟨by decide +kernel, by decide +kernel, by decide +kernel⟩, by decide⟩, ki_X6_lay, ks_X6_lay, TX6, 9, rfl⟩
set_option maxRecDepth 20000 in
theorem kl_X7_55 : Cond.methodLink RX7 55 yX6_rub ∈ GW := gw4 159 rfl (by decide +kernel)
theorem cX7_55 : aCv RX7 55 6 mX6_rub 1 := ⟨⟨kc_X6_rub, kl_X7_55, kn_X6, ⟨by decide +kernel, by decide +kernel, by decide +kernel⟩, by decide⟩, ki_X6_rub, ks_X6_rub, TX6, 9, rfl⟩
set_option maxRecDepth 20000 in
theorem kl_X9_269 : Cond.methodLink RX9 269 yX7_tell ∈ GW := gw4 164 rfl (by decide +kernel)
set_option maxRecDepth 20000 in
theorem kc_X7_tell : Cond.code mX7_tell.1 mX7_tell.2.1 mX7_tell.2.2.1 mX7_tell.2.2.2 ∈ GW := gw4 167 rfl (by decide +kernel)
set_option maxRecDepth 20000 in
theorem ki_X7_tell : Cond.instanceMethod yX7_tell ∈ GW := gw4 165 rfl (by decide +kernel)
set_option maxRecDepth 20000 in
theorem ks_X7_tell : Cond.selects RX7 yX7_tell yX7_tell ∈ GW := gw4 166 rfl (by decide +kernel)
theorem cX9_269 : aCv RX9 269 7 mX7_tell 2 := ⟨⟨kc_X7_tell, kl_X9_269, kn_X7, ⟨by decide +kernel, by decide +kernel, by decide +kernel⟩, by decide⟩, ki_X7_tell, ks_X7_tell, TX7, 7, rfl⟩
set_option maxRecDepth 20000 in
theorem kl_X7_62 : Cond.methodLink RX7 62 yX7_mostAlike ∈ GW := gw4 168 rfl (by decide +kernel)
set_option maxRecDepth 20000 in
theorem kc_X7_mostAlike : Cond.code mX7_mostAlike.1 mX7_mostAlike.2.1 mX7_mostAlike.2.2.1 mX7_mostAlike.2.2.2 ∈ GW := gw4 171 rfl (by decide +kernel)
set_option maxRecDepth 20000 in
theorem ki_X7_mostAlike : Cond.instanceMethod yX7_mostAlike ∈ GW := gw4 170 rfl (by decide +kernel)
set_option maxRecDepth 20000 in
theorem ks_X7_mostAlike : Cond.selects RX7 yX7_mostAlike yX7_mostAlike ∈ GW := gw_sl (q := (yX7_mostAlike, 7)) 46 (by decide +kernel) (by decide +kernel)
theorem cX7_62 : aCv RX7 62 7 mX7_mostAlike 2 := ⟨⟨kc_X7_mostAlike, kl_X7_62, kn_X7, ⟨by decide +kernel, by decide +kernel, by decide +kernel⟩, by decide⟩, ki_X7_mostAlike, ks_X7_mostAlike, TX7, 7, rfl⟩
set_option maxRecDepth 20000 in
theorem kl_X7_66 : Cond.methodLink RX7 66 Lib.Math.max.name ∈ GW := gw4 172 rfl (by decide +kernel)
set_option maxRecDepth 20000 in
theorem kl_X9_279 : Cond.methodLink RX9 279 yX9_beginAct ∈ GW := gw4 177 rfl (by decide +kernel)
set_option maxRecDepth 20000 in
theorem kc_X9_beginAct : Cond.code mX9_beginAct.1 mX9_beginAct.2.1 mX9_beginAct.2.2.1 mX9_beginAct.2.2.2 ∈ GW := gw4 180 rfl (by decide +kernel)
set_option maxRecDepth 20000 in
theorem ki_X9_beginAct : Cond.instanceMethod yX9_beginAct ∈ GW := gw4 179 rfl (by decide +kernel)
set_option maxRecDepth 20000 in
theorem ks_X9_beginAct : Cond.selects RX9 yX9_beginAct yX9_beginAct ∈ GW := gw_sl (q := (yX9_beginAct, 17)) 47 (by decide +kernel) (by decide +kernel)
theorem cX9_279 : aCv RX9 279 9 mX9_beginAct 0 := ⟨⟨kc_X9_beginAct, kl_X9_279, kn_X9, ⟨by decide +kernel, by decide +kernel, by decide +kernel⟩, by decide⟩, ki_X9_beginAct, ks_X9_beginAct, TX9, 17, rfl⟩
set_option maxRecDepth 20000 in
theorem kl_X9_311 : Cond.methodLink RX9 311 yX0_remember ∈ GW := gw4 181 rfl (by decide +kernel)
set_option maxRecDepth 20000 in
theorem kc_X0_remember : Cond.code mX0_remember.1 mX0_remember.2.1 mX0_remember.2.2.1 mX0_remember.2.2.2 ∈ GW := gw4 184 rfl (by decide +kernel)
set_option maxRecDepth 20000 in
theorem ki_X0_remember : Cond.instanceMethod yX0_remember ∈ GW := gw4 182 rfl (by decide +kernel)
set_option maxRecDepth 20000 in
theorem ks_X0_remember : Cond.selects RX0 yX0_remember yX0_remember ∈ GW := gw4 183 rfl (by decide +kernel)
theorem cX9_311 : aCv RX9 311 0 mX0_remember 1 := ⟨⟨kc_X0_remember, kl_X9_311, kn_X0, ⟨by decide +kernel, by decide +kernel, by decide +kernel⟩, by decide⟩, ki_X0_remember, ks_X0_remember, TX0, 3, rfl⟩
set_option maxRecDepth 20000 in
theorem kl_X0_39 : Cond.methodLink RX0 39 arraycopyName ∈ GW := gw4 185 rfl (by decide +kernel)
set_option maxRecDepth 20000 in
theorem kl_X0_48 : Cond.methodLink RX0 48 Lib.Math.min.name ∈ GW := gw4 186 rfl (by decide +kernel)
set_option maxRecDepth 20000 in
theorem kl_X9_282 : Cond.methodLink RX9 282 yX9_keepWeek ∈ GW := gw4 187 rfl (by decide +kernel)
set_option maxRecDepth 20000 in
theorem kc_X9_keepWeek : Cond.code mX9_keepWeek.1 mX9_keepWeek.2.1 mX9_keepWeek.2.2.1 mX9_keepWeek.2.2.2 ∈ GW := gw4 190 rfl (by decide +kernel)
set_option maxRecDepth 20000 in
theorem ki_X9_keepWeek : Cond.instanceMethod yX9_keepWeek ∈ GW := gw4 189 rfl (by decide +kernel)
set_option maxRecDepth 20000 in
theorem ks_X9_keepWeek : Cond.selects RX9 yX9_keepWeek yX9_keepWeek ∈ GW := gw_sl (q := (yX9_keepWeek, 17)) 48 (by decide +kernel) (by decide +kernel)
theorem cX9_282 : aCv RX9 282 9 mX9_keepWeek 1 := ⟨⟨kc_X9_keepWeek, kl_X9_282, kn_X9, ⟨by decide +kernel, by decide +kernel, by decide +kernel⟩, by decide⟩, ki_X9_keepWeek, ks_X9_keepWeek, TX9, 17, rfl⟩
set_option maxRecDepth 20000 in
theorem kl_X9_299 : Cond.methodLink RX9 299 yX9_keep ∈ GW := gw4 191 rfl (by decide +kernel)
set_option maxRecDepth 20000 in
theorem kc_X9_keep : Cond.code mX9_keep.1 mX9_keep.2.1 mX9_keep.2.2.1 mX9_keep.2.2.2 ∈ GW := gw4 194 rfl (by decide +kernel)
set_option maxRecDepth 20000 in
theorem ki_X9_keep : Cond.instanceMethod yX9_keep ∈ GW := gw4 193 rfl (by decide +kernel)
set_option maxRecDepth 20000 in
theorem ks_X9_keep : Cond.selects RX9 yX9_keep yX9_keep ∈ GW := gw_sl (q := (yX9_keep, 17)) 49 (by decide +kernel) (by decide +kernel)
