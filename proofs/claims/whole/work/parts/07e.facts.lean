theorem cX9_299 : aCv RX9 299 9 mX9_keep 1 := ⟨⟨kc_X9_keep, kl_X9_299, kn_X9, ⟨by decide +kernel, by decide +kernel, by decide +kernel⟩, by decide⟩, ki_X9_keep, ks_X9_keep, TX9, 17, rfl⟩
set_option maxRecDepth 20000 in
theorem kl_X9_315 : Cond.methodLink RX9 315 yX2_put ∈ GW := gw4 195 rfl (by decide +kernel)
set_option maxRecDepth 20000 in
theorem kc_X2_put : Cond.code mX2_put.1 mX2_put.2.1 mX2_put.2.2.1 mX2_put.2.2.2 ∈ GW := gw4 198 rfl (by decide +kernel)
set_option maxRecDepth 20000 in
theorem ki_X2_put : Cond.instanceMethod yX2_put ∈ GW := gw4 196 rfl (by decide +kernel)
set_option maxRecDepth 20000 in
theorem ks_X2_put : Cond.selects RX2 yX2_put yX2_put ∈ GW := gw4 197 rfl (by decide +kernel)
theorem cX9_315 : aCv RX9 315 2 mX2_put 3 := ⟨⟨kc_X2_put, kl_X9_315, kn_X2, ⟨by decide +kernel, by decide +kernel, by decide +kernel⟩, by decide⟩, ki_X2_put, ks_X2_put, TX2, 1, rfl⟩
set_option maxRecDepth 20000 in
theorem kl_X9_289 : Cond.methodLink RX9 289 yX9_draw ∈ GW := gw4 203 rfl (by decide +kernel)
set_option maxRecDepth 20000 in
theorem kc_X9_draw : Cond.code mX9_draw.1 mX9_draw.2.1 mX9_draw.2.2.1 mX9_draw.2.2.2 ∈ GW := gw4 206 rfl (by decide +kernel)
set_option maxRecDepth 20000 in
theorem ki_X9_draw : Cond.instanceMethod yX9_draw ∈ GW := gw4 205 rfl (by decide +kernel)
set_option maxRecDepth 20000 in
theorem ks_X9_draw : Cond.selects RX9 yX9_draw yX9_draw ∈ GW := gw_sl (q := (yX9_draw, 17)) 50 (by decide +kernel) (by decide +kernel)
theorem cX9_289 : aCv RX9 289 9 mX9_draw 1 := ⟨⟨kc_X9_draw, kl_X9_289, kn_X9, ⟨by decide +kernel, by decide +kernel, by decide +kernel⟩, by decide⟩, ki_X9_draw, ks_X9_draw, TX9, 17, rfl⟩
set_option maxRecDepth 20000 in
theorem kl_X9_295 : Cond.methodLink RX9 295 yX6_preach ∈ GW := gw4 215 rfl (by decide +kernel)
theorem cX9_295 : aCv RX9 295 6 mX6_preach 4 := ⟨⟨kc_X6_preach, kl_X9_295, kn_X6, ⟨by decide +kernel, by decide +kernel, by decide +kernel⟩, by decide⟩, ki_X6_preach, ks_X6_preach, TX6, 9, rfl⟩
set_option maxRecDepth 20000 in
theorem kl_X9_302 : Cond.methodLink RX9 302 yX5_zincTold ∈ GW := gw4 224 rfl (by decide +kernel)
theorem cX9_302 : aCv RX9 302 5 mX5_zincTold 1 := ⟨⟨kc_X5_zincTold, kl_X9_302, kn_X5, ⟨by decide +kernel, by decide +kernel, by decide +kernel⟩, by decide⟩, ki_X5_zincTold, ks_X5_zincTold, TX5, 11, rfl⟩
set_option maxRecDepth 20000 in
theorem kl_X9_305 : Cond.methodLink RX9 305 yX0_back ∈ GW := gw4 233 rfl (by decide +kernel)
set_option maxRecDepth 20000 in
theorem kc_X0_back : Cond.code mX0_back.1 mX0_back.2.1 mX0_back.2.2.1 mX0_back.2.2.2 ∈ GW := gw4 236 rfl (by decide +kernel)
set_option maxRecDepth 20000 in
theorem ki_X0_back : Cond.instanceMethod yX0_back ∈ GW := gw4 234 rfl (by decide +kernel)
set_option maxRecDepth 20000 in
theorem ks_X0_back : Cond.selects RX0 yX0_back yX0_back ∈ GW := gw4 235 rfl (by decide +kernel)
theorem cX9_305 : aCv RX9 305 0 mX0_back 1 := ⟨⟨kc_X0_back, kl_X9_305, kn_X0, ⟨by decide +kernel, by decide +kernel, by decide +kernel⟩, by decide⟩, ki_X0_back, ks_X0_back, TX0, 3, rfl⟩
set_option maxRecDepth 20000 in
theorem kl_X9_309 : Cond.methodLink RX9 309 yX2_tell ∈ GW := gw5 5 rfl (by decide +kernel)
set_option maxRecDepth 20000 in
theorem kc_X2_tell : Cond.code mX2_tell.1 mX2_tell.2.1 mX2_tell.2.2.1 mX2_tell.2.2.2 ∈ GW := gw5 8 rfl (by decide +kernel)
set_option maxRecDepth 20000 in
theorem ki_X2_tell : Cond.instanceMethod yX2_tell ∈ GW := gw5 6 rfl (by decide +kernel)
set_option maxRecDepth 20000 in
theorem ks_X2_tell : Cond.selects RX2 yX2_tell yX2_tell ∈ GW := gw5 7 rfl (by decide +kernel)
theorem cX9_309 : aCv RX9 309 2 mX2_tell 2 := ⟨⟨kc_X2_tell, kl_X9_309, kn_X2, ⟨by decide +kernel, by decide +kernel, by decide +kernel⟩, by decide⟩, ki_X2_tell, ks_X2_tell, TX2, 1, rfl⟩
set_option maxRecDepth 20000 in
theorem kl_X9_327 : Cond.methodLink RX9 327 yX9_isImage ∈ GW := gw5 21 rfl (by decide +kernel)
set_option maxRecDepth 20000 in
theorem kc_X9_isImage : Cond.code mX9_isImage.1 mX9_isImage.2.1 mX9_isImage.2.2.1 mX9_isImage.2.2.2 ∈ GW := gw5 24 rfl (by decide +kernel)
set_option maxRecDepth 20000 in
theorem ki_X9_isImage : Cond.instanceMethod yX9_isImage ∈ GW := gw5 23 rfl (by decide +kernel)
set_option maxRecDepth 20000 in
theorem ks_X9_isImage : Cond.selects RX9 yX9_isImage yX9_isImage ∈ GW := gw_sl (q := (yX9_isImage, 17)) 51 (by decide +kernel) (by decide +kernel)
theorem cX9_327 : aCv RX9 327 9 mX9_isImage 1 := ⟨⟨kc_X9_isImage, kl_X9_327, kn_X9, ⟨by decide +kernel, by decide +kernel, by decide +kernel⟩, by decide⟩, ki_X9_isImage, ks_X9_isImage, TX9, 17, rfl⟩
set_option maxRecDepth 20000 in
theorem kl_X9_330 : Cond.methodLink RX9 330 yX9_tapeByte ∈ GW := gw5 25 rfl (by decide +kernel)
set_option maxRecDepth 20000 in
theorem kc_X9_tapeByte : Cond.code mX9_tapeByte.1 mX9_tapeByte.2.1 mX9_tapeByte.2.2.1 mX9_tapeByte.2.2.2 ∈ GW := gw5 28 rfl (by decide +kernel)
set_option maxRecDepth 20000 in
theorem ki_X9_tapeByte : Cond.instanceMethod yX9_tapeByte ∈ GW := gw5 27 rfl (by decide +kernel)
set_option maxRecDepth 20000 in
theorem ks_X9_tapeByte : Cond.selects RX9 yX9_tapeByte yX9_tapeByte ∈ GW := gw_sl (q := (yX9_tapeByte, 17)) 52 (by decide +kernel) (by decide +kernel)
theorem cX9_330 : aCv RX9 330 9 mX9_tapeByte 1 := ⟨⟨kc_X9_tapeByte, kl_X9_330, kn_X9, ⟨by decide +kernel, by decide +kernel, by decide +kernel⟩, by decide⟩, ki_X9_tapeByte, ks_X9_tapeByte, TX9, 17, rfl⟩
set_option maxRecDepth 20000 in
theorem kl_X9_333 : Cond.methodLink RX9 333 yX9_imageMost ∈ GW := gw5 29 rfl (by decide +kernel)
set_option maxRecDepth 20000 in
theorem kc_X9_imageMost : Cond.code mX9_imageMost.1 mX9_imageMost.2.1 mX9_imageMost.2.2.1 mX9_imageMost.2.2.2 ∈ GW := gw5 32 rfl (by decide +kernel)
set_option maxRecDepth 20000 in
theorem ki_X9_imageMost : Cond.instanceMethod yX9_imageMost ∈ GW := gw5 31 rfl (by decide +kernel)
set_option maxRecDepth 20000 in
theorem ks_X9_imageMost : Cond.selects RX9 yX9_imageMost yX9_imageMost ∈ GW := gw_sl (q := (yX9_imageMost, 17)) 53 (by decide +kernel) (by decide +kernel)
theorem cX9_333 : aCv RX9 333 9 mX9_imageMost 3 := ⟨⟨kc_X9_imageMost, kl_X9_333, kn_X9, ⟨by decide +kernel, by decide +kernel, by decide +kernel⟩, by decide⟩, ki_X9_imageMost, ks_X9_imageMost, TX9, 17, rfl⟩
set_option maxRecDepth 20000 in
theorem kl_X10_1 : Cond.methodLink RX10 1 Lib.objectInit ∈ GW := gw5 42 rfl (by decide +kernel)
set_option maxRecDepth 20000 in
theorem kl_X10_222 : Cond.methodLink RX10 222 yX10_refuses ∈ GW := gw6 17 rfl (by decide +kernel)
set_option maxRecDepth 20000 in
theorem kc_X10_refuses : Cond.code mX10_refuses.1 mX10_refuses.2.1 mX10_refuses.2.2.1 mX10_refuses.2.2.2 ∈ GW := gw6 20 rfl (by decide +kernel)
set_option maxRecDepth 20000 in
theorem kn_X10 : Cond.initialized RX10 ∈ GW := gw1 11 rfl (by decide +kernel)
set_option maxRecDepth 20000 in
theorem ki_X10_refuses : Cond.instanceMethod yX10_refuses ∈ GW := gw6 19 rfl (by decide +kernel)
set_option maxRecDepth 20000 in
theorem ks_X10_refuses : Cond.selects RX10 yX10_refuses yX10_refuses ∈ GW := gw_sl (q := (yX10_refuses, 69)) 54 (by decide +kernel) (by decide +kernel)
theorem cX10_222 : aCv RX10 222 10 mX10_refuses 1 := ⟨⟨kc_X10_refuses, kl_X10_222, kn_X10, ⟨by decide +kernel, by decide +kernel, by decide +kernel⟩, by decide⟩, ki_X10_refuses, ks_X10_refuses, TX10, 69, rfl⟩
set_option maxRecDepth 20000 in
theorem kl_X10_226 : Cond.methodLink RX10 226 yX10_put ∈ GW := gw6 21 rfl (by decide +kernel)
set_option maxRecDepth 20000 in
theorem kc_X10_put : Cond.code mX10_put.1 mX10_put.2.1 mX10_put.2.2.1 mX10_put.2.2.2 ∈ GW := gw6 24 rfl (by decide +kernel)
set_option maxRecDepth 20000 in
theorem ki_X10_put : Cond.instanceMethod yX10_put ∈ GW := gw6 23 rfl (by decide +kernel)
set_option maxRecDepth 20000 in
theorem ks_X10_put : Cond.selects RX10 yX10_put yX10_put ∈ GW := gw_sl (q := (yX10_put, 69)) 55 (by decide +kernel) (by decide +kernel)
theorem cX10_226 : aCv RX10 226 10 mX10_put 1 := ⟨⟨kc_X10_put, kl_X10_226, kn_X10, ⟨by decide +kernel, by decide +kernel, by decide +kernel⟩, by decide⟩, ki_X10_put, ks_X10_put, TX10, 69, rfl⟩
set_option maxRecDepth 20000 in
theorem kl_X10_247 : Cond.methodLink RX10 247 yX10_ahead ∈ GW := gw6 33 rfl (by decide +kernel)
set_option maxRecDepth 20000 in
theorem kc_X10_ahead : Cond.code mX10_ahead.1 mX10_ahead.2.1 mX10_ahead.2.2.1 mX10_ahead.2.2.2 ∈ GW := gw6 36 rfl (by decide +kernel)
set_option maxRecDepth 20000 in
theorem ki_X10_ahead : Cond.instanceMethod yX10_ahead ∈ GW := gw6 35 rfl (by decide +kernel)
set_option maxRecDepth 20000 in
theorem ks_X10_ahead : Cond.selects RX10 yX10_ahead yX10_ahead ∈ GW := gw_sl (q := (yX10_ahead, 69)) 56 (by decide +kernel) (by decide +kernel)
theorem cX10_247 : aCv RX10 247 10 mX10_ahead 0 := ⟨⟨kc_X10_ahead, kl_X10_247, kn_X10, ⟨by decide +kernel, by decide +kernel, by decide +kernel⟩, by decide⟩, ki_X10_ahead, ks_X10_ahead, TX10, 69, rfl⟩
set_option maxRecDepth 20000 in
theorem kl_X10_234 : Cond.methodLink RX10 234 yX10_isLetter ∈ GW := gw6 37 rfl (by decide +kernel)
set_option maxRecDepth 20000 in
theorem kc_X10_isLetter : Cond.code mX10_isLetter.1 mX10_isLetter.2.1 mX10_isLetter.2.2.1 mX10_isLetter.2.2.2 ∈ GW := gw6 39 rfl (by decide +kernel)
set_option maxRecDepth 20000 in
theorem kt_X10_isLetter : Cond.static yX10_isLetter ∈ GW := gw6 38 rfl (by decide +kernel)
theorem cX10_234 : aCs RX10 234 mX10_isLetter 1 := ⟨⟨kc_X10_isLetter, kl_X10_234, kn_X10, ⟨by decide +kernel, by decide +kernel, by decide +kernel⟩, by decide⟩, kt_X10_isLetter⟩
set_option maxRecDepth 20000 in
theorem kl_X10_238 : Cond.methodLink RX10 238 yX10_isDigit ∈ GW := gw6 40 rfl (by decide +kernel)
set_option maxRecDepth 20000 in
theorem kc_X10_isDigit : Cond.code mX10_isDigit.1 mX10_isDigit.2.1 mX10_isDigit.2.2.1 mX10_isDigit.2.2.2 ∈ GW := gw6 42 rfl (by decide +kernel)
set_option maxRecDepth 20000 in
theorem kt_X10_isDigit : Cond.static yX10_isDigit ∈ GW := gw6 41 rfl (by decide +kernel)
theorem cX10_238 : aCs RX10 238 mX10_isDigit 1 := ⟨⟨kc_X10_isDigit, kl_X10_238, kn_X10, ⟨by decide +kernel, by decide +kernel, by decide +kernel⟩, by decide⟩, kt_X10_isDigit⟩
set_option maxRecDepth 20000 in
theorem kl_X10_393 : Cond.methodLink RX10 393 yX10_statement ∈ GW := gw6 43 rfl (by decide +kernel)
set_option maxRecDepth 20000 in
theorem kc_X10_statement : Cond.code mX10_statement.1 mX10_statement.2.1 mX10_statement.2.2.1 mX10_statement.2.2.2 ∈ GW := gw6 46 rfl (by decide +kernel)
set_option maxRecDepth 20000 in
theorem ki_X10_statement : Cond.instanceMethod yX10_statement ∈ GW := gw6 45 rfl (by decide +kernel)
set_option maxRecDepth 20000 in
theorem ks_X10_statement : Cond.selects RX10 yX10_statement yX10_statement ∈ GW := gw_sl (q := (yX10_statement, 69)) 57 (by decide +kernel) (by decide +kernel)
theorem cX10_393 : aCv RX10 393 10 mX10_statement 0 := ⟨⟨kc_X10_statement, kl_X10_393, kn_X10, ⟨by decide +kernel, by decide +kernel, by decide +kernel⟩, by decide⟩, ki_X10_statement, ks_X10_statement, TX10, 69, rfl⟩
set_option maxRecDepth 20000 in
theorem kl_X10_241 : Cond.methodLink RX10 241 yX10_lex ∈ GW := gw6 47 rfl (by decide +kernel)
set_option maxRecDepth 20000 in
theorem kc_X10_lex : Cond.code mX10_lex.1 mX10_lex.2.1 mX10_lex.2.2.1 mX10_lex.2.2.2 ∈ GW := gw6 50 rfl (by decide +kernel)
set_option maxRecDepth 20000 in
theorem ki_X10_lex : Cond.instanceMethod yX10_lex ∈ GW := gw6 49 rfl (by decide +kernel)
set_option maxRecDepth 20000 in
theorem ks_X10_lex : Cond.selects RX10 yX10_lex yX10_lex ∈ GW := gw_sl (q := (yX10_lex, 69)) 58 (by decide +kernel) (by decide +kernel)
theorem cX10_241 : aCv RX10 241 10 mX10_lex 0 := ⟨⟨kc_X10_lex, kl_X10_241, kn_X10, ⟨by decide +kernel, by decide +kernel, by decide +kernel⟩, by decide⟩, ki_X10_lex, ks_X10_lex, TX10, 69, rfl⟩
set_option maxRecDepth 20000 in
theorem kl_X10_230 : Cond.methodLink RX10 230 yX10_blame ∈ GW := gw6 51 rfl (by decide +kernel)
set_option maxRecDepth 20000 in
theorem kc_X10_blame : Cond.code mX10_blame.1 mX10_blame.2.1 mX10_blame.2.2.1 mX10_blame.2.2.2 ∈ GW := gw6 54 rfl (by decide +kernel)
set_option maxRecDepth 20000 in
theorem ki_X10_blame : Cond.instanceMethod yX10_blame ∈ GW := gw6 53 rfl (by decide +kernel)
set_option maxRecDepth 20000 in
theorem ks_X10_blame : Cond.selects RX10 yX10_blame yX10_blame ∈ GW := gw_sl (q := (yX10_blame, 69)) 59 (by decide +kernel) (by decide +kernel)
theorem cX10_230 : aCv RX10 230 10 mX10_blame 2 := ⟨⟨kc_X10_blame, kl_X10_230, kn_X10, ⟨by decide +kernel, by decide +kernel, by decide +kernel⟩, by decide⟩, ki_X10_blame, ks_X10_blame, TX10, 69, rfl⟩
set_option maxRecDepth 20000 in
theorem kl_X10_328 : Cond.methodLink RX10 328 yX10_isWord ∈ GW := gw6 56 rfl (by decide +kernel)
set_option maxRecDepth 20000 in
theorem kc_X10_isWord : Cond.code mX10_isWord.1 mX10_isWord.2.1 mX10_isWord.2.2.1 mX10_isWord.2.2.2 ∈ GW := gw6 59 rfl (by decide +kernel)
set_option maxRecDepth 20000 in
theorem ki_X10_isWord : Cond.instanceMethod yX10_isWord ∈ GW := gw6 58 rfl (by decide +kernel)
set_option maxRecDepth 20000 in
theorem ks_X10_isWord : Cond.selects RX10 yX10_isWord yX10_isWord ∈ GW := gw_sl (q := (yX10_isWord, 69)) 60 (by decide +kernel) (by decide +kernel)
theorem cX10_328 : aCv RX10 328 10 mX10_isWord 1 := ⟨⟨kc_X10_isWord, kl_X10_328, kn_X10, ⟨by decide +kernel, by decide +kernel, by decide +kernel⟩, by decide⟩, ki_X10_isWord, ks_X10_isWord, TX10, 69, rfl⟩
set_option maxRecDepth 20000 in
theorem kl_X10_373 : Cond.methodLink RX10 373 yX10_boarding ∈ GW := gw6 60 rfl (by decide +kernel)
set_option maxRecDepth 20000 in
theorem kc_X10_boarding : Cond.code mX10_boarding.1 mX10_boarding.2.1 mX10_boarding.2.2.1 mX10_boarding.2.2.2 ∈ GW := gw6 63 rfl (by decide +kernel)
set_option maxRecDepth 20000 in
theorem ki_X10_boarding : Cond.instanceMethod yX10_boarding ∈ GW := gw6 62 rfl (by decide +kernel)
set_option maxRecDepth 20000 in
theorem ks_X10_boarding : Cond.selects RX10 yX10_boarding yX10_boarding ∈ GW := gw_sl (q := (yX10_boarding, 69)) 61 (by decide +kernel) (by decide +kernel)
theorem cX10_373 : aCv RX10 373 10 mX10_boarding 0 := ⟨⟨kc_X10_boarding, kl_X10_373, kn_X10, ⟨by decide +kernel, by decide +kernel, by decide +kernel⟩, by decide⟩, ki_X10_boarding, ks_X10_boarding, TX10, 69, rfl⟩
set_option maxRecDepth 20000 in
theorem kl_X10_354 : Cond.methodLink RX10 354 yX10_counts ∈ GW := gw6 64 rfl (by decide +kernel)
set_option maxRecDepth 20000 in
theorem kc_X10_counts : Cond.code mX10_counts.1 mX10_counts.2.1 mX10_counts.2.2.1 mX10_counts.2.2.2 ∈ GW := gw6 67 rfl (by decide +kernel)
set_option maxRecDepth 20000 in
theorem ki_X10_counts : Cond.instanceMethod yX10_counts ∈ GW := gw6 66 rfl (by decide +kernel)
set_option maxRecDepth 20000 in
theorem ks_X10_counts : Cond.selects RX10 yX10_counts yX10_counts ∈ GW := gw_sl (q := (yX10_counts, 69)) 62 (by decide +kernel) (by decide +kernel)
theorem cX10_354 : aCv RX10 354 10 mX10_counts 1 := ⟨⟨kc_X10_counts, kl_X10_354, kn_X10, ⟨by decide +kernel, by decide +kernel, by decide +kernel⟩, by decide⟩, ki_X10_counts, ks_X10_counts, TX10, 69, rfl⟩
set_option maxRecDepth 20000 in
theorem kl_X10_358 : Cond.methodLink RX10 358 yX10_fresh ∈ GW := gw6 68 rfl (by decide +kernel)
set_option maxRecDepth 20000 in
theorem kc_X10_fresh : Cond.code mX10_fresh.1 mX10_fresh.2.1 mX10_fresh.2.2.1 mX10_fresh.2.2.2 ∈ GW := gw6 71 rfl (by decide +kernel)
set_option maxRecDepth 20000 in
theorem ki_X10_fresh : Cond.instanceMethod yX10_fresh ∈ GW := gw6 70 rfl (by decide +kernel)
set_option maxRecDepth 20000 in
theorem ks_X10_fresh : Cond.selects RX10 yX10_fresh yX10_fresh ∈ GW := gw_sl (q := (yX10_fresh, 69)) 63 (by decide +kernel) (by decide +kernel)
theorem cX10_358 : aCv RX10 358 10 mX10_fresh 0 := ⟨⟨kc_X10_fresh, kl_X10_358, kn_X10, ⟨by decide +kernel, by decide +kernel, by decide +kernel⟩, by decide⟩, ki_X10_fresh, ks_X10_fresh, TX10, 69, rfl⟩
set_option maxRecDepth 20000 in
theorem kl_X10_347 : Cond.methodLink RX10 347 yX10_isOwn ∈ GW := gw6 72 rfl (by decide +kernel)
set_option maxRecDepth 20000 in
theorem kc_X10_isOwn : Cond.code mX10_isOwn.1 mX10_isOwn.2.1 mX10_isOwn.2.2.1 mX10_isOwn.2.2.2 ∈ GW := gw6 75 rfl (by decide +kernel)
set_option maxRecDepth 20000 in
theorem ki_X10_isOwn : Cond.instanceMethod yX10_isOwn ∈ GW := gw6 74 rfl (by decide +kernel)
set_option maxRecDepth 20000 in
theorem ks_X10_isOwn : Cond.selects RX10 yX10_isOwn yX10_isOwn ∈ GW := gw_sl (q := (yX10_isOwn, 69)) 64 (by decide +kernel) (by decide +kernel)
theorem cX10_347 : aCv RX10 347 10 mX10_isOwn 1 := ⟨⟨kc_X10_isOwn, kl_X10_347, kn_X10, ⟨by decide +kernel, by decide +kernel, by decide +kernel⟩, by decide⟩, ki_X10_isOwn, ks_X10_isOwn, TX10, 69, rfl⟩
set_option maxRecDepth 20000 in
theorem kl_X10_350 : Cond.methodLink RX10 350 yX10_named ∈ GW := gw6 102 rfl (by decide +kernel)
set_option maxRecDepth 20000 in
theorem kc_X10_named : Cond.code mX10_named.1 mX10_named.2.1 mX10_named.2.2.1 mX10_named.2.2.2 ∈ GW := gw6 105 rfl (by decide +kernel)
set_option maxRecDepth 20000 in
theorem ki_X10_named : Cond.instanceMethod yX10_named ∈ GW := gw6 104 rfl (by decide +kernel)
set_option maxRecDepth 20000 in
theorem ks_X10_named : Cond.selects RX10 yX10_named yX10_named ∈ GW := gw_sl (q := (yX10_named, 69)) 65 (by decide +kernel) (by decide +kernel)
theorem cX10_350 : aCv RX10 350 10 mX10_named 2 := ⟨⟨kc_X10_named, kl_X10_350, kn_X10, ⟨by decide +kernel, by decide +kernel, by decide +kernel⟩, by decide⟩, ki_X10_named, ks_X10_named, TX10, 69, rfl⟩
set_option maxRecDepth 20000 in
theorem kl_X10_304 : Cond.methodLink RX10 304 yX10_manyOf ∈ GW := gw6 106 rfl (by decide +kernel)
set_option maxRecDepth 20000 in
theorem kc_X10_manyOf : Cond.code mX10_manyOf.1 mX10_manyOf.2.1 mX10_manyOf.2.2.1 mX10_manyOf.2.2.2 ∈ GW := gw6 109 rfl (by decide +kernel)
set_option maxRecDepth 20000 in
theorem ki_X10_manyOf : Cond.instanceMethod yX10_manyOf ∈ GW := gw6 108 rfl (by decide +kernel)
set_option maxRecDepth 20000 in
theorem ks_X10_manyOf : Cond.selects RX10 yX10_manyOf yX10_manyOf ∈ GW := gw_sl (q := (yX10_manyOf, 69)) 66 (by decide +kernel) (by decide +kernel)
theorem cX10_304 : aCv RX10 304 10 mX10_manyOf 2 := ⟨⟨kc_X10_manyOf, kl_X10_304, kn_X10, ⟨by decide +kernel, by decide +kernel, by decide +kernel⟩, by decide⟩, ki_X10_manyOf, ks_X10_manyOf, TX10, 69, rfl⟩
set_option maxRecDepth 20000 in
theorem kl_X10_308 : Cond.methodLink RX10 308 yX10_nameOf ∈ GW := gw6 110 rfl (by decide +kernel)
set_option maxRecDepth 20000 in
theorem kc_X10_nameOf : Cond.code mX10_nameOf.1 mX10_nameOf.2.1 mX10_nameOf.2.2.1 mX10_nameOf.2.2.2 ∈ GW := gw6 113 rfl (by decide +kernel)
set_option maxRecDepth 20000 in
theorem ki_X10_nameOf : Cond.instanceMethod yX10_nameOf ∈ GW := gw6 112 rfl (by decide +kernel)
set_option maxRecDepth 20000 in
theorem ks_X10_nameOf : Cond.selects RX10 yX10_nameOf yX10_nameOf ∈ GW := gw_sl (q := (yX10_nameOf, 69)) 67 (by decide +kernel) (by decide +kernel)
theorem cX10_308 : aCv RX10 308 10 mX10_nameOf 3 := ⟨⟨kc_X10_nameOf, kl_X10_308, kn_X10, ⟨by decide +kernel, by decide +kernel, by decide +kernel⟩, by decide⟩, ki_X10_nameOf, ks_X10_nameOf, TX10, 69, rfl⟩
set_option maxRecDepth 20000 in
theorem kl_X10_362 : Cond.methodLink RX10 362 yX10_must_ ∈ GW := gw6 114 rfl (by decide +kernel)
set_option maxRecDepth 20000 in
theorem kc_X10_must_ : Cond.code mX10_must_.1 mX10_must_.2.1 mX10_must_.2.2.1 mX10_must_.2.2.2 ∈ GW := gw6 117 rfl (by decide +kernel)
set_option maxRecDepth 20000 in
theorem ki_X10_must_ : Cond.instanceMethod yX10_must_ ∈ GW := gw6 116 rfl (by decide +kernel)
set_option maxRecDepth 20000 in
theorem ks_X10_must_ : Cond.selects RX10 yX10_must_ yX10_must_ ∈ GW := gw_sl (q := (yX10_must_, 69)) 68 (by decide +kernel) (by decide +kernel)
theorem cX10_362 : aCv RX10 362 10 mX10_must_ 1 := ⟨⟨kc_X10_must_, kl_X10_362, kn_X10, ⟨by decide +kernel, by decide +kernel, by decide +kernel⟩, by decide⟩, ki_X10_must_, ks_X10_must_, TX10, 69, rfl⟩
set_option maxRecDepth 20000 in
theorem kl_X10_366 : Cond.methodLink RX10 366 yX10_number ∈ GW := gw6 118 rfl (by decide +kernel)
set_option maxRecDepth 20000 in
theorem kc_X10_number : Cond.code mX10_number.1 mX10_number.2.1 mX10_number.2.2.1 mX10_number.2.2.2 ∈ GW := gw6 121 rfl (by decide +kernel)
set_option maxRecDepth 20000 in
theorem ki_X10_number : Cond.instanceMethod yX10_number ∈ GW := gw6 120 rfl (by decide +kernel)
set_option maxRecDepth 20000 in
theorem ks_X10_number : Cond.selects RX10 yX10_number yX10_number ∈ GW := gw_sl (q := (yX10_number, 69)) 69 (by decide +kernel) (by decide +kernel)
theorem cX10_366 : aCv RX10 366 10 mX10_number 2 := ⟨⟨kc_X10_number, kl_X10_366, kn_X10, ⟨by decide +kernel, by decide +kernel, by decide +kernel⟩, by decide⟩, ki_X10_number, ks_X10_number, TX10, 69, rfl⟩
set_option maxRecDepth 20000 in
theorem kl_X10_312 : Cond.methodLink RX10 312 yX10_is ∈ GW := gw6 122 rfl (by decide +kernel)
set_option maxRecDepth 20000 in
theorem kc_X10_is : Cond.code mX10_is.1 mX10_is.2.1 mX10_is.2.2.1 mX10_is.2.2.2 ∈ GW := gw6 124 rfl (by decide +kernel)
set_option maxRecDepth 20000 in
theorem kt_X10_is : Cond.static yX10_is ∈ GW := gw6 123 rfl (by decide +kernel)
theorem cX10_312 : aCs RX10 312 mX10_is 3 := ⟨⟨kc_X10_is, kl_X10_312, kn_X10, ⟨by decide +kernel, by decide +kernel, by decide +kernel⟩, by decide⟩, kt_X10_is⟩
set_option maxRecDepth 20000 in
theorem kl_X10_376 : Cond.methodLink RX10 376 yX10_staining ∈ GW := gw6 125 rfl (by decide +kernel)
set_option maxRecDepth 20000 in
theorem kc_X10_staining : Cond.code mX10_staining.1 mX10_staining.2.1 mX10_staining.2.2.1 mX10_staining.2.2.2 ∈ GW := gw6 128 rfl (by decide +kernel)
set_option maxRecDepth 20000 in
theorem ki_X10_staining : Cond.instanceMethod yX10_staining ∈ GW := gw6 127 rfl (by decide +kernel)
set_option maxRecDepth 20000 in
theorem ks_X10_staining : Cond.selects RX10 yX10_staining yX10_staining ∈ GW := gw_sl (q := (yX10_staining, 69)) 70 (by decide +kernel) (by decide +kernel)
theorem cX10_376 : aCv RX10 376 10 mX10_staining 0 := ⟨⟨kc_X10_staining, kl_X10_376, kn_X10, ⟨by decide +kernel, by decide +kernel, by decide +kernel⟩, by decide⟩, ki_X10_staining, ks_X10_staining, TX10, 69, rfl⟩
set_option maxRecDepth 20000 in
theorem kl_X10_379 : Cond.methodLink RX10 379 yX10_hearing ∈ GW := gw6 129 rfl (by decide +kernel)
set_option maxRecDepth 20000 in
theorem kc_X10_hearing : Cond.code mX10_hearing.1 mX10_hearing.2.1 mX10_hearing.2.2.1 mX10_hearing.2.2.2 ∈ GW := gw6 132 rfl (by decide +kernel)
set_option maxRecDepth 20000 in
theorem ki_X10_hearing : Cond.instanceMethod yX10_hearing ∈ GW := gw6 131 rfl (by decide +kernel)
set_option maxRecDepth 20000 in
theorem ks_X10_hearing : Cond.selects RX10 yX10_hearing yX10_hearing ∈ GW := gw_sl (q := (yX10_hearing, 69)) 71 (by decide +kernel) (by decide +kernel)
theorem cX10_379 : aCv RX10 379 10 mX10_hearing 0 := ⟨⟨kc_X10_hearing, kl_X10_379, kn_X10, ⟨by decide +kernel, by decide +kernel, by decide +kernel⟩, by decide⟩, ki_X10_hearing, ks_X10_hearing, TX10, 69, rfl⟩
set_option maxRecDepth 20000 in
theorem kl_X10_382 : Cond.methodLink RX10 382 yX10_reading ∈ GW := gw6 133 rfl (by decide +kernel)
set_option maxRecDepth 20000 in
theorem kc_X10_reading : Cond.code mX10_reading.1 mX10_reading.2.1 mX10_reading.2.2.1 mX10_reading.2.2.2 ∈ GW := gw6 136 rfl (by decide +kernel)
set_option maxRecDepth 20000 in
theorem ki_X10_reading : Cond.instanceMethod yX10_reading ∈ GW := gw6 135 rfl (by decide +kernel)
set_option maxRecDepth 20000 in
theorem ks_X10_reading : Cond.selects RX10 yX10_reading yX10_reading ∈ GW := gw_sl (q := (yX10_reading, 69)) 72 (by decide +kernel) (by decide +kernel)
theorem cX10_382 : aCv RX10 382 10 mX10_reading 1 := ⟨⟨kc_X10_reading, kl_X10_382, kn_X10, ⟨by decide +kernel, by decide +kernel, by decide +kernel⟩, by decide⟩, ki_X10_reading, ks_X10_reading, TX10, 69, rfl⟩
set_option maxRecDepth 20000 in
theorem kl_X10_369 : Cond.methodLink RX10 369 yX10_reads ∈ GW := gw6 137 rfl (by decide +kernel)
set_option maxRecDepth 20000 in
theorem kc_X10_reads : Cond.code mX10_reads.1 mX10_reads.2.1 mX10_reads.2.2.1 mX10_reads.2.2.2 ∈ GW := gw6 140 rfl (by decide +kernel)
set_option maxRecDepth 20000 in
theorem ki_X10_reads : Cond.instanceMethod yX10_reads ∈ GW := gw6 139 rfl (by decide +kernel)
set_option maxRecDepth 20000 in
theorem ks_X10_reads : Cond.selects RX10 yX10_reads yX10_reads ∈ GW := gw_sl (q := (yX10_reads, 69)) 73 (by decide +kernel) (by decide +kernel)
theorem cX10_369 : aCv RX10 369 10 mX10_reads 1 := ⟨⟨kc_X10_reads, kl_X10_369, kn_X10, ⟨by decide +kernel, by decide +kernel, by decide +kernel⟩, by decide⟩, ki_X10_reads, ks_X10_reads, TX10, 69, rfl⟩
set_option maxRecDepth 20000 in
theorem kl_X10_322 : Cond.methodLink RX10 322 yX10_pushes ∈ GW := gw6 141 rfl (by decide +kernel)
set_option maxRecDepth 20000 in
theorem kc_X10_pushes : Cond.code mX10_pushes.1 mX10_pushes.2.1 mX10_pushes.2.2.1 mX10_pushes.2.2.2 ∈ GW := gw6 144 rfl (by decide +kernel)
set_option maxRecDepth 20000 in
theorem ki_X10_pushes : Cond.instanceMethod yX10_pushes ∈ GW := gw6 143 rfl (by decide +kernel)
set_option maxRecDepth 20000 in
theorem ks_X10_pushes : Cond.selects RX10 yX10_pushes yX10_pushes ∈ GW := gw_sl (q := (yX10_pushes, 69)) 74 (by decide +kernel) (by decide +kernel)
theorem cX10_322 : aCv RX10 322 10 mX10_pushes 1 := ⟨⟨kc_X10_pushes, kl_X10_322, kn_X10, ⟨by decide +kernel, by decide +kernel, by decide +kernel⟩, by decide⟩, ki_X10_pushes, ks_X10_pushes, TX10, 69, rfl⟩
set_option maxRecDepth 20000 in
theorem kl_X10_341 : Cond.methodLink RX10 341 yX10_operand ∈ GW := gw6 145 rfl (by decide +kernel)
set_option maxRecDepth 20000 in
theorem kc_X10_operand : Cond.code mX10_operand.1 mX10_operand.2.1 mX10_operand.2.2.1 mX10_operand.2.2.2 ∈ GW := gw6 148 rfl (by decide +kernel)
set_option maxRecDepth 20000 in
theorem ki_X10_operand : Cond.instanceMethod yX10_operand ∈ GW := gw6 147 rfl (by decide +kernel)
set_option maxRecDepth 20000 in
theorem ks_X10_operand : Cond.selects RX10 yX10_operand yX10_operand ∈ GW := gw_sl (q := (yX10_operand, 69)) 75 (by decide +kernel) (by decide +kernel)
theorem cX10_341 : aCv RX10 341 10 mX10_operand 0 := ⟨⟨kc_X10_operand, kl_X10_341, kn_X10, ⟨by decide +kernel, by decide +kernel, by decide +kernel⟩, by decide⟩, ki_X10_operand, ks_X10_operand, TX10, 69, rfl⟩
set_option maxRecDepth 20000 in
theorem kl_X10_325 : Cond.methodLink RX10 325 yX10_isTest ∈ GW := gw6 149 rfl (by decide +kernel)
set_option maxRecDepth 20000 in
theorem kc_X10_isTest : Cond.code mX10_isTest.1 mX10_isTest.2.1 mX10_isTest.2.2.1 mX10_isTest.2.2.2 ∈ GW := gw6 151 rfl (by decide +kernel)
set_option maxRecDepth 20000 in
theorem kt_X10_isTest : Cond.static yX10_isTest ∈ GW := gw6 150 rfl (by decide +kernel)
theorem cX10_325 : aCs RX10 325 mX10_isTest 1 := ⟨⟨kc_X10_isTest, kl_X10_325, kn_X10, ⟨by decide +kernel, by decide +kernel, by decide +kernel⟩, by decide⟩, kt_X10_isTest⟩
set_option maxRecDepth 20000 in
theorem kl_X10_332 : Cond.methodLink RX10 332 yX10_holdsBack ∈ GW := gw6 152 rfl (by decide +kernel)
set_option maxRecDepth 20000 in
theorem kc_X10_holdsBack : Cond.code mX10_holdsBack.1 mX10_holdsBack.2.1 mX10_holdsBack.2.2.1 mX10_holdsBack.2.2.2 ∈ GW := gw6 155 rfl (by decide +kernel)
set_option maxRecDepth 20000 in
theorem ki_X10_holdsBack : Cond.instanceMethod yX10_holdsBack ∈ GW := gw6 154 rfl (by decide +kernel)
set_option maxRecDepth 20000 in
theorem ks_X10_holdsBack : Cond.selects RX10 yX10_holdsBack yX10_holdsBack ∈ GW := gw_sl (q := (yX10_holdsBack, 69)) 76 (by decide +kernel) (by decide +kernel)
theorem cX10_332 : aCv RX10 332 10 mX10_holdsBack 1 := ⟨⟨kc_X10_holdsBack, kl_X10_332, kn_X10, ⟨by decide +kernel, by decide +kernel, by decide +kernel⟩, by decide⟩, ki_X10_holdsBack, ks_X10_holdsBack, TX10, 69, rfl⟩
set_option maxRecDepth 20000 in
theorem kl_X10_244 : Cond.methodLink RX10 244 yX10_isSign ∈ GW := gw6 156 rfl (by decide +kernel)
set_option maxRecDepth 20000 in
theorem kc_X10_isSign : Cond.code mX10_isSign.1 mX10_isSign.2.1 mX10_isSign.2.2.1 mX10_isSign.2.2.2 ∈ GW := gw6 159 rfl (by decide +kernel)
set_option maxRecDepth 20000 in
theorem ki_X10_isSign : Cond.instanceMethod yX10_isSign ∈ GW := gw6 158 rfl (by decide +kernel)
set_option maxRecDepth 20000 in
theorem ks_X10_isSign : Cond.selects RX10 yX10_isSign yX10_isSign ∈ GW := gw_sl (q := (yX10_isSign, 69)) 77 (by decide +kernel) (by decide +kernel)
theorem cX10_244 : aCv RX10 244 10 mX10_isSign 1 := ⟨⟨kc_X10_isSign, kl_X10_244, kn_X10, ⟨by decide +kernel, by decide +kernel, by decide +kernel⟩, by decide⟩, ki_X10_isSign, ks_X10_isSign, TX10, 69, rfl⟩
set_option maxRecDepth 20000 in
theorem kl_X10_335 : Cond.methodLink RX10 335 yX10_opens ∈ GW := gw6 160 rfl (by decide +kernel)
set_option maxRecDepth 20000 in
theorem kc_X10_opens : Cond.code mX10_opens.1 mX10_opens.2.1 mX10_opens.2.2.1 mX10_opens.2.2.2 ∈ GW := gw6 163 rfl (by decide +kernel)
set_option maxRecDepth 20000 in
theorem ki_X10_opens : Cond.instanceMethod yX10_opens ∈ GW := gw6 162 rfl (by decide +kernel)
set_option maxRecDepth 20000 in
theorem ks_X10_opens : Cond.selects RX10 yX10_opens yX10_opens ∈ GW := gw_sl (q := (yX10_opens, 69)) 78 (by decide +kernel) (by decide +kernel)
theorem cX10_335 : aCv RX10 335 10 mX10_opens 1 := ⟨⟨kc_X10_opens, kl_X10_335, kn_X10, ⟨by decide +kernel, by decide +kernel, by decide +kernel⟩, by decide⟩, ki_X10_opens, ks_X10_opens, TX10, 69, rfl⟩
set_option maxRecDepth 20000 in
theorem kl_X10_319 : Cond.methodLink RX10 319 yX10_add ∈ GW := gw6 164 rfl (by decide +kernel)
set_option maxRecDepth 20000 in
theorem kc_X10_add : Cond.code mX10_add.1 mX10_add.2.1 mX10_add.2.2.1 mX10_add.2.2.2 ∈ GW := gw6 167 rfl (by decide +kernel)
set_option maxRecDepth 20000 in
theorem ki_X10_add : Cond.instanceMethod yX10_add ∈ GW := gw6 166 rfl (by decide +kernel)
set_option maxRecDepth 20000 in
theorem ks_X10_add : Cond.selects RX10 yX10_add yX10_add ∈ GW := gw_sl (q := (yX10_add, 69)) 79 (by decide +kernel) (by decide +kernel)
theorem cX10_319 : aCv RX10 319 10 mX10_add 2 := ⟨⟨kc_X10_add, kl_X10_319, kn_X10, ⟨by decide +kernel, by decide +kernel, by decide +kernel⟩, by decide⟩, ki_X10_add, ks_X10_add, TX10, 69, rfl⟩
set_option maxRecDepth 20000 in
theorem kl_X10_344 : Cond.methodLink RX10 344 yX10_goesOn ∈ GW := gw6 168 rfl (by decide +kernel)
set_option maxRecDepth 20000 in
theorem kc_X10_goesOn : Cond.code mX10_goesOn.1 mX10_goesOn.2.1 mX10_goesOn.2.2.1 mX10_goesOn.2.2.2 ∈ GW := gw6 171 rfl (by decide +kernel)
set_option maxRecDepth 20000 in
theorem ki_X10_goesOn : Cond.instanceMethod yX10_goesOn ∈ GW := gw6 170 rfl (by decide +kernel)
set_option maxRecDepth 20000 in
theorem ks_X10_goesOn : Cond.selects RX10 yX10_goesOn yX10_goesOn ∈ GW := gw_sl (q := (yX10_goesOn, 69)) 80 (by decide +kernel) (by decide +kernel)
theorem cX10_344 : aCv RX10 344 10 mX10_goesOn 0 := ⟨⟨kc_X10_goesOn, kl_X10_344, kn_X10, ⟨by decide +kernel, by decide +kernel, by decide +kernel⟩, by decide⟩, ki_X10_goesOn, ks_X10_goesOn, TX10, 69, rfl⟩
set_option maxRecDepth 20000 in
theorem kl_X10_338 : Cond.methodLink RX10 338 yX10_joins ∈ GW := gw6 172 rfl (by decide +kernel)
set_option maxRecDepth 20000 in
theorem kc_X10_joins : Cond.code mX10_joins.1 mX10_joins.2.1 mX10_joins.2.2.1 mX10_joins.2.2.2 ∈ GW := gw6 175 rfl (by decide +kernel)
set_option maxRecDepth 20000 in
theorem ki_X10_joins : Cond.instanceMethod yX10_joins ∈ GW := gw6 174 rfl (by decide +kernel)
set_option maxRecDepth 20000 in
theorem ks_X10_joins : Cond.selects RX10 yX10_joins yX10_joins ∈ GW := gw_sl (q := (yX10_joins, 69)) 81 (by decide +kernel) (by decide +kernel)
theorem cX10_338 : aCv RX10 338 10 mX10_joins 1 := ⟨⟨kc_X10_joins, kl_X10_338, kn_X10, ⟨by decide +kernel, by decide +kernel, by decide +kernel⟩, by decide⟩, ki_X10_joins, ks_X10_joins, TX10, 69, rfl⟩
set_option maxRecDepth 20000 in
theorem kl_X10_316 : Cond.methodLink RX10 316 yX10_rank ∈ GW := gw6 176 rfl (by decide +kernel)
set_option maxRecDepth 20000 in
theorem kc_X10_rank : Cond.code mX10_rank.1 mX10_rank.2.1 mX10_rank.2.2.1 mX10_rank.2.2.2 ∈ GW := gw6 178 rfl (by decide +kernel)
set_option maxRecDepth 20000 in
theorem kt_X10_rank : Cond.static yX10_rank ∈ GW := gw6 177 rfl (by decide +kernel)
theorem cX10_316 : aCs RX10 316 mX10_rank 1 := ⟨⟨kc_X10_rank, kl_X10_316, kn_X10, ⟨by decide +kernel, by decide +kernel, by decide +kernel⟩, by decide⟩, kt_X10_rank⟩
set_option maxRecDepth 20000 in
theorem kl_X10_385 : Cond.methodLink RX10 385 yX10_watering ∈ GW := gw6 179 rfl (by decide +kernel)
set_option maxRecDepth 20000 in
theorem kc_X10_watering : Cond.code mX10_watering.1 mX10_watering.2.1 mX10_watering.2.2.1 mX10_watering.2.2.2 ∈ GW := gw6 182 rfl (by decide +kernel)
set_option maxRecDepth 20000 in
theorem ki_X10_watering : Cond.instanceMethod yX10_watering ∈ GW := gw6 181 rfl (by decide +kernel)
set_option maxRecDepth 20000 in
theorem ks_X10_watering : Cond.selects RX10 yX10_watering yX10_watering ∈ GW := gw_sl (q := (yX10_watering, 69)) 82 (by decide +kernel) (by decide +kernel)
theorem cX10_385 : aCv RX10 385 10 mX10_watering 0 := ⟨⟨kc_X10_watering, kl_X10_385, kn_X10, ⟨by decide +kernel, by decide +kernel, by decide +kernel⟩, by decide⟩, ki_X10_watering, ks_X10_watering, TX10, 69, rfl⟩
set_option maxRecDepth 20000 in
theorem kl_X10_388 : Cond.methodLink RX10 388 yX10_drying ∈ GW := gw6 183 rfl (by decide +kernel)
set_option maxRecDepth 20000 in
theorem kc_X10_drying : Cond.code mX10_drying.1 mX10_drying.2.1 mX10_drying.2.2.1 mX10_drying.2.2.2 ∈ GW := gw6 186 rfl (by decide +kernel)
set_option maxRecDepth 20000 in
theorem ki_X10_drying : Cond.instanceMethod yX10_drying ∈ GW := gw6 185 rfl (by decide +kernel)
set_option maxRecDepth 20000 in
theorem ks_X10_drying : Cond.selects RX10 yX10_drying yX10_drying ∈ GW := gw_sl (q := (yX10_drying, 69)) 83 (by decide +kernel) (by decide +kernel)
theorem cX10_388 : aCv RX10 388 10 mX10_drying 0 := ⟨⟨kc_X10_drying, kl_X10_388, kn_X10, ⟨by decide +kernel, by decide +kernel, by decide +kernel⟩, by decide⟩, ki_X10_drying, ks_X10_drying, TX10, 69, rfl⟩
set_option maxRecDepth 20000 in
theorem kl_X10_396 : Cond.methodLink RX10 396 yX10_finishes ∈ GW := gw6 187 rfl (by decide +kernel)
set_option maxRecDepth 20000 in
theorem kc_X10_finishes : Cond.code mX10_finishes.1 mX10_finishes.2.1 mX10_finishes.2.2.1 mX10_finishes.2.2.2 ∈ GW := gw6 190 rfl (by decide +kernel)
set_option maxRecDepth 20000 in
theorem ki_X10_finishes : Cond.instanceMethod yX10_finishes ∈ GW := gw6 189 rfl (by decide +kernel)
set_option maxRecDepth 20000 in
theorem ks_X10_finishes : Cond.selects RX10 yX10_finishes yX10_finishes ∈ GW := gw_sl (q := (yX10_finishes, 69)) 84 (by decide +kernel) (by decide +kernel)
theorem cX10_396 : aCv RX10 396 10 mX10_finishes 1 := ⟨⟨kc_X10_finishes, kl_X10_396, kn_X10, ⟨by decide +kernel, by decide +kernel, by decide +kernel⟩, by decide⟩, ki_X10_finishes, ks_X10_finishes, TX10, 69, rfl⟩
set_option maxRecDepth 20000 in
theorem kl_X10_391 : Cond.methodLink RX10 391 yX10_must ∈ GW := gw6 191 rfl (by decide +kernel)
set_option maxRecDepth 20000 in
theorem kc_X10_must : Cond.code mX10_must.1 mX10_must.2.1 mX10_must.2.2.1 mX10_must.2.2.2 ∈ GW := gw6 194 rfl (by decide +kernel)
set_option maxRecDepth 20000 in
theorem ki_X10_must : Cond.instanceMethod yX10_must ∈ GW := gw6 193 rfl (by decide +kernel)
set_option maxRecDepth 20000 in
theorem ks_X10_must : Cond.selects RX10 yX10_must yX10_must ∈ GW := gw_sl (q := (yX10_must, 69)) 85 (by decide +kernel) (by decide +kernel)
theorem cX10_391 : aCv RX10 391 10 mX10_must 1 := ⟨⟨kc_X10_must, kl_X10_391, kn_X10, ⟨by decide +kernel, by decide +kernel, by decide +kernel⟩, by decide⟩, ki_X10_must, ks_X10_must, TX10, 69, rfl⟩
set_option maxRecDepth 20000 in
theorem kl_X10_399 : Cond.methodLink RX10 399 yX10_begin ∈ GW := gw6 195 rfl (by decide +kernel)
set_option maxRecDepth 20000 in
theorem kc_X10_begin : Cond.code mX10_begin.1 mX10_begin.2.1 mX10_begin.2.2.1 mX10_begin.2.2.2 ∈ GW := gw6 198 rfl (by decide +kernel)
set_option maxRecDepth 20000 in
theorem ki_X10_begin : Cond.instanceMethod yX10_begin ∈ GW := gw6 197 rfl (by decide +kernel)
set_option maxRecDepth 20000 in
theorem ks_X10_begin : Cond.selects RX10 yX10_begin yX10_begin ∈ GW := gw_sl (q := (yX10_begin, 69)) 86 (by decide +kernel) (by decide +kernel)
theorem cX10_399 : aCv RX10 399 10 mX10_begin 0 := ⟨⟨kc_X10_begin, kl_X10_399, kn_X10, ⟨by decide +kernel, by decide +kernel, by decide +kernel⟩, by decide⟩, ki_X10_begin, ks_X10_begin, TX10, 69, rfl⟩
set_option maxRecDepth 20000 in
theorem kl_X10_402 : Cond.methodLink RX10 402 yX10_slot ∈ GW := gw6 211 rfl (by decide +kernel)
set_option maxRecDepth 20000 in
theorem kc_X10_slot : Cond.code mX10_slot.1 mX10_slot.2.1 mX10_slot.2.2.1 mX10_slot.2.2.2 ∈ GW := gw6 214 rfl (by decide +kernel)
set_option maxRecDepth 20000 in
theorem ki_X10_slot : Cond.instanceMethod yX10_slot ∈ GW := gw6 213 rfl (by decide +kernel)
set_option maxRecDepth 20000 in
theorem ks_X10_slot : Cond.selects RX10 yX10_slot yX10_slot ∈ GW := gw_sl (q := (yX10_slot, 69)) 87 (by decide +kernel) (by decide +kernel)
theorem cX10_402 : aCv RX10 402 10 mX10_slot 1 := ⟨⟨kc_X10_slot, kl_X10_402, kn_X10, ⟨by decide +kernel, by decide +kernel, by decide +kernel⟩, by decide⟩, ki_X10_slot, ks_X10_slot, TX10, 69, rfl⟩
set_option maxRecDepth 20000 in
theorem kl_X10_405 : Cond.methodLink RX10 405 yX10_copies ∈ GW := gw6 215 rfl (by decide +kernel)
set_option maxRecDepth 20000 in
theorem kc_X10_copies : Cond.code mX10_copies.1 mX10_copies.2.1 mX10_copies.2.2.1 mX10_copies.2.2.2 ∈ GW := gw6 218 rfl (by decide +kernel)
set_option maxRecDepth 20000 in
theorem ki_X10_copies : Cond.instanceMethod yX10_copies ∈ GW := gw6 217 rfl (by decide +kernel)
set_option maxRecDepth 20000 in
theorem ks_X10_copies : Cond.selects RX10 yX10_copies yX10_copies ∈ GW := gw_sl (q := (yX10_copies, 69)) 88 (by decide +kernel) (by decide +kernel)
theorem cX10_405 : aCv RX10 405 10 mX10_copies 2 := ⟨⟨kc_X10_copies, kl_X10_405, kn_X10, ⟨by decide +kernel, by decide +kernel, by decide +kernel⟩, by decide⟩, ki_X10_copies, ks_X10_copies, TX10, 69, rfl⟩
set_option maxRecDepth 20000 in
theorem kl_X10_465 : Cond.methodLink RX10 465 yX10_bits ∈ GW := gw6 223 rfl (by decide +kernel)
set_option maxRecDepth 20000 in
theorem kc_X10_bits : Cond.code mX10_bits.1 mX10_bits.2.1 mX10_bits.2.2.1 mX10_bits.2.2.2 ∈ GW := gw6 225 rfl (by decide +kernel)
set_option maxRecDepth 20000 in
theorem kt_X10_bits : Cond.static yX10_bits ∈ GW := gw6 224 rfl (by decide +kernel)
