set_option maxRecDepth 20000 in
theorem kn_X3 : Cond.initialized RX3 ∈ GW := gw1 9 rfl (by decide +kernel)
set_option maxRecDepth 20000 in
theorem ki_X3_init : Cond.instanceMethod yX3_init ∈ GW := gw2 5 rfl (by decide +kernel)
theorem cX9_76 : aCi RX9 76 mX3_init 2 := ⟨⟨kc_X3_init, kl_X9_76, kn_X3, ⟨by decide +kernel, by decide +kernel, by decide +kernel⟩, by decide⟩, ki_X3_init, rfl, rfl⟩
set_option maxRecDepth 20000 in
theorem kl_X3_3 : Cond.methodLink RX3 3 Lib.objectInit ∈ GW := gw2 7 rfl (by decide +kernel)
set_option maxRecDepth 20000 in
theorem kl_X9_83 : Cond.methodLink RX9 83 yX1_init ∈ GW := gw2 35 rfl (by decide +kernel)
set_option maxRecDepth 20000 in
theorem kc_X1_init : Cond.code mX1_init.1 mX1_init.2.1 mX1_init.2.2.1 mX1_init.2.2.2 ∈ GW := gw2 37 rfl (by decide +kernel)
set_option maxRecDepth 20000 in
theorem kn_X1 : Cond.initialized RX1 ∈ GW := gw1 10 rfl (by decide +kernel)
set_option maxRecDepth 20000 in
theorem ki_X1_init : Cond.instanceMethod yX1_init ∈ GW := gw2 36 rfl (by decide +kernel)
theorem cX9_83 : aCi RX9 83 mX1_init 2 := ⟨⟨kc_X1_init, kl_X9_83, kn_X1, ⟨by decide +kernel, by decide +kernel, by decide +kernel⟩, by decide⟩, ki_X1_init, rfl, rfl⟩
set_option maxRecDepth 20000 in
theorem kl_X1_3 : Cond.methodLink RX1 3 Lib.objectInit ∈ GW := gw2 38 rfl (by decide +kernel)
set_option maxRecDepth 20000 in
theorem kl_X9_102 : Cond.methodLink RX9 102 yX9_refuse ∈ GW := gw2 124 rfl (by decide +kernel)
set_option maxRecDepth 20000 in
theorem kc_X9_refuse : Cond.code mX9_refuse.1 mX9_refuse.2.1 mX9_refuse.2.2.1 mX9_refuse.2.2.2 ∈ GW := gw2 127 rfl (by decide +kernel)
set_option maxRecDepth 20000 in
theorem kn_X9 : Cond.initialized RX9 ∈ GW := gw1 1 rfl (by decide +kernel)
set_option maxRecDepth 20000 in
theorem ki_X9_refuse : Cond.instanceMethod yX9_refuse ∈ GW := gw2 126 rfl (by decide +kernel)
set_option maxRecDepth 20000 in
theorem ks_X9_refuse : Cond.selects RX9 yX9_refuse yX9_refuse ∈ GW := gw_sl (q := (yX9_refuse, 17)) 0 (by decide +kernel) (by decide +kernel)
theorem cX9_102 : aCv RX9 102 9 mX9_refuse 1 := ⟨⟨kc_X9_refuse, kl_X9_102, kn_X9, ⟨by decide +kernel, by decide +kernel, by decide +kernel⟩, by decide⟩, ki_X9_refuse, ks_X9_refuse, TX9, 17, rfl⟩
set_option maxRecDepth 20000 in
theorem kl_X9_106 : Cond.methodLink RX9 106 yX9_putFour ∈ GW := gw2 128 rfl (by decide +kernel)
set_option maxRecDepth 20000 in
theorem kc_X9_putFour : Cond.code mX9_putFour.1 mX9_putFour.2.1 mX9_putFour.2.2.1 mX9_putFour.2.2.2 ∈ GW := gw2 131 rfl (by decide +kernel)
set_option maxRecDepth 20000 in
theorem ki_X9_putFour : Cond.instanceMethod yX9_putFour ∈ GW := gw2 130 rfl (by decide +kernel)
set_option maxRecDepth 20000 in
theorem ks_X9_putFour : Cond.selects RX9 yX9_putFour yX9_putFour ∈ GW := gw_sl (q := (yX9_putFour, 17)) 1 (by decide +kernel) (by decide +kernel)
theorem cX9_106 : aCv RX9 106 9 mX9_putFour 1 := ⟨⟨kc_X9_putFour, kl_X9_106, kn_X9, ⟨by decide +kernel, by decide +kernel, by decide +kernel⟩, by decide⟩, ki_X9_putFour, ks_X9_putFour, TX9, 17, rfl⟩
set_option maxRecDepth 20000 in
theorem kl_X9_109 : Cond.methodLink RX9 109 yX9_deny ∈ GW := gw2 136 rfl (by decide +kernel)
set_option maxRecDepth 20000 in
theorem kc_X9_deny : Cond.code mX9_deny.1 mX9_deny.2.1 mX9_deny.2.2.1 mX9_deny.2.2.2 ∈ GW := gw2 139 rfl (by decide +kernel)
set_option maxRecDepth 20000 in
theorem ki_X9_deny : Cond.instanceMethod yX9_deny ∈ GW := gw2 138 rfl (by decide +kernel)
set_option maxRecDepth 20000 in
theorem ks_X9_deny : Cond.selects RX9 yX9_deny yX9_deny ∈ GW := gw_sl (q := (yX9_deny, 17)) 2 (by decide +kernel) (by decide +kernel)
theorem cX9_109 : aCv RX9 109 9 mX9_deny 1 := ⟨⟨kc_X9_deny, kl_X9_109, kn_X9, ⟨by decide +kernel, by decide +kernel, by decide +kernel⟩, by decide⟩, ki_X9_deny, ks_X9_deny, TX9, 17, rfl⟩
set_option maxRecDepth 20000 in
theorem kl_X9_115 : Cond.methodLink RX9 115 yX4_init ∈ GW := gw2 146 rfl (by decide +kernel)
set_option maxRecDepth 20000 in
theorem kc_X4_init : Cond.code mX4_init.1 mX4_init.2.1 mX4_init.2.2.1 mX4_init.2.2.2 ∈ GW := gw2 148 rfl (by decide +kernel)
set_option maxRecDepth 20000 in
theorem kn_X4 : Cond.initialized RX4 ∈ GW := gw1 12 rfl (by decide +kernel)
set_option maxRecDepth 20000 in
theorem ki_X4_init : Cond.instanceMethod yX4_init ∈ GW := gw2 147 rfl (by decide +kernel)
theorem cX9_115 : aCi RX9 115 mX4_init 2 := ⟨⟨kc_X4_init, kl_X9_115, kn_X4, ⟨by decide +kernel, by decide +kernel, by decide +kernel⟩, by decide⟩, ki_X4_init, rfl, rfl⟩
set_option maxRecDepth 20000 in
theorem kl_X4_3 : Cond.methodLink RX4 3 Lib.objectInit ∈ GW := gw2 149 rfl (by decide +kernel)
set_option maxRecDepth 20000 in
theorem kl_X4_40 : Cond.methodLink RX4 40 Lib.Math.min.name ∈ GW := gw2 150 rfl (by decide +kernel)
set_option maxRecDepth 20000 in
theorem kl_X4_46 : Cond.methodLink RX4 46 Lib.Math.max.name ∈ GW := gw2 153 rfl (by decide +kernel)
set_option maxRecDepth 20000 in
theorem kl_X4_54 : Cond.methodLink RX4 54 yX5_init ∈ GW := gw2 155 rfl (by decide +kernel)
theorem cX4_54 : aCi RX4 54 mX5_init 1 := ⟨⟨kc_X5_init, kl_X4_54, kn_X5, ⟨by decide +kernel, by decide +kernel, by decide +kernel⟩, by decide⟩, ki_X5_init, rfl, rfl⟩
set_option maxRecDepth 20000 in
theorem kl_X9_118 : Cond.methodLink RX9 118 yX4_parse ∈ GW := gw2 193 rfl (by decide +kernel)
set_option maxRecDepth 20000 in
theorem kc_X4_parse : Cond.code mX4_parse.1 mX4_parse.2.1 mX4_parse.2.2.1 mX4_parse.2.2.2 ∈ GW := gw2 196 rfl (by decide +kernel)
set_option maxRecDepth 20000 in
theorem ki_X4_parse : Cond.instanceMethod yX4_parse ∈ GW := gw2 194 rfl (by decide +kernel)
set_option maxRecDepth 20000 in
theorem ks_X4_parse : Cond.selects RX4 yX4_parse yX4_parse ∈ GW := gw2 195 rfl (by decide +kernel)
theorem cX9_118 : aCv RX9 118 4 mX4_parse 0 := ⟨⟨kc_X4_parse, kl_X9_118, kn_X4, ⟨by decide +kernel, by decide +kernel, by decide +kernel⟩, by decide⟩, ki_X4_parse, ks_X4_parse, TX4, 11, rfl⟩
set_option maxRecDepth 20000 in
theorem kl_X4_61 : Cond.methodLink RX4 61 yX4_next ∈ GW := gw2 197 rfl (by decide +kernel)
set_option maxRecDepth 20000 in
theorem kc_X4_next : Cond.code mX4_next.1 mX4_next.2.1 mX4_next.2.2.1 mX4_next.2.2.2 ∈ GW := gw2 200 rfl (by decide +kernel)
set_option maxRecDepth 20000 in
theorem ki_X4_next : Cond.instanceMethod yX4_next ∈ GW := gw2 199 rfl (by decide +kernel)
set_option maxRecDepth 20000 in
theorem ks_X4_next : Cond.selects RX4 yX4_next yX4_next ∈ GW := gw_sl (q := (yX4_next, 11)) 3 (by decide +kernel) (by decide +kernel)
theorem cX4_61 : aCv RX4 61 4 mX4_next 0 := ⟨⟨kc_X4_next, kl_X4_61, kn_X4, ⟨by decide +kernel, by decide +kernel, by decide +kernel⟩, by decide⟩, ki_X4_next, ks_X4_next, TX4, 11, rfl⟩
set_option maxRecDepth 20000 in
theorem kl_X4_67 : Cond.methodLink RX4 67 yX4_skipBlanks ∈ GW := gw2 201 rfl (by decide +kernel)
set_option maxRecDepth 20000 in
theorem kc_X4_skipBlanks : Cond.code mX4_skipBlanks.1 mX4_skipBlanks.2.1 mX4_skipBlanks.2.2.1 mX4_skipBlanks.2.2.2 ∈ GW := gw2 204 rfl (by decide +kernel)
set_option maxRecDepth 20000 in
theorem ki_X4_skipBlanks : Cond.instanceMethod yX4_skipBlanks ∈ GW := gw2 203 rfl (by decide +kernel)
set_option maxRecDepth 20000 in
theorem ks_X4_skipBlanks : Cond.selects RX4 yX4_skipBlanks yX4_skipBlanks ∈ GW := gw_sl (q := (yX4_skipBlanks, 11)) 4 (by decide +kernel) (by decide +kernel)
theorem cX4_67 : aCv RX4 67 4 mX4_skipBlanks 0 := ⟨⟨kc_X4_skipBlanks, kl_X4_67, kn_X4, ⟨by decide +kernel, by decide +kernel, by decide +kernel⟩, by decide⟩, ki_X4_skipBlanks, ks_X4_skipBlanks, TX4, 11, rfl⟩
set_option maxRecDepth 20000 in
theorem kl_X4_70 : Cond.methodLink RX4 70 yX4_isLetter ∈ GW := gw2 205 rfl (by decide +kernel)
set_option maxRecDepth 20000 in
theorem kc_X4_isLetter : Cond.code mX4_isLetter.1 mX4_isLetter.2.1 mX4_isLetter.2.2.1 mX4_isLetter.2.2.2 ∈ GW := gw2 207 rfl (by decide +kernel)
set_option maxRecDepth 20000 in
theorem kt_X4_isLetter : Cond.static yX4_isLetter ∈ GW := gw2 206 rfl (by decide +kernel)
theorem cX4_70 : aCs RX4 70 mX4_isLetter 1 := ⟨⟨kc_X4_isLetter, kl_X4_70, kn_X4, ⟨by decide +kernel, by decide +kernel, by decide +kernel⟩, by decide⟩, kt_X4_isLetter⟩
set_option maxRecDepth 20000 in
theorem kl_X4_74 : Cond.methodLink RX4 74 yX4_isDigit ∈ GW := gw2 208 rfl (by decide +kernel)
set_option maxRecDepth 20000 in
theorem kc_X4_isDigit : Cond.code mX4_isDigit.1 mX4_isDigit.2.1 mX4_isDigit.2.2.1 mX4_isDigit.2.2.2 ∈ GW := gw2 210 rfl (by decide +kernel)
set_option maxRecDepth 20000 in
theorem kt_X4_isDigit : Cond.static yX4_isDigit ∈ GW := gw2 209 rfl (by decide +kernel)
theorem cX4_74 : aCs RX4 74 mX4_isDigit 1 := ⟨⟨kc_X4_isDigit, kl_X4_74, kn_X4, ⟨by decide +kernel, by decide +kernel, by decide +kernel⟩, by decide⟩, kt_X4_isDigit⟩
set_option maxRecDepth 20000 in
theorem kl_X4_77 : Cond.methodLink RX4 77 yX4_stop ∈ GW := gw2 211 rfl (by decide +kernel)
set_option maxRecDepth 20000 in
theorem kc_X4_stop : Cond.code mX4_stop.1 mX4_stop.2.1 mX4_stop.2.2.1 mX4_stop.2.2.2 ∈ GW := gw2 214 rfl (by decide +kernel)
set_option maxRecDepth 20000 in
theorem ki_X4_stop : Cond.instanceMethod yX4_stop ∈ GW := gw2 213 rfl (by decide +kernel)
set_option maxRecDepth 20000 in
theorem ks_X4_stop : Cond.selects RX4 yX4_stop yX4_stop ∈ GW := gw_sl (q := (yX4_stop, 11)) 5 (by decide +kernel) (by decide +kernel)
theorem cX4_77 : aCv RX4 77 4 mX4_stop 2 := ⟨⟨kc_X4_stop, kl_X4_77, kn_X4, ⟨by decide +kernel, by decide +kernel, by decide +kernel⟩, by decide⟩, ki_X4_stop, ks_X4_stop, TX4, 11, rfl⟩
set_option maxRecDepth 20000 in
theorem kl_X4_81 : Cond.methodLink RX4 81 yX4_takeWord ∈ GW := gw2 215 rfl (by decide +kernel)
set_option maxRecDepth 20000 in
theorem kc_X4_takeWord : Cond.code mX4_takeWord.1 mX4_takeWord.2.1 mX4_takeWord.2.2.1 mX4_takeWord.2.2.2 ∈ GW := gw2 218 rfl (by decide +kernel)
set_option maxRecDepth 20000 in
theorem ki_X4_takeWord : Cond.instanceMethod yX4_takeWord ∈ GW := gw2 217 rfl (by decide +kernel)
set_option maxRecDepth 20000 in
theorem ks_X4_takeWord : Cond.selects RX4 yX4_takeWord yX4_takeWord ∈ GW := gw_sl (q := (yX4_takeWord, 11)) 6 (by decide +kernel) (by decide +kernel)
theorem cX4_81 : aCv RX4 81 4 mX4_takeWord 0 := ⟨⟨kc_X4_takeWord, kl_X4_81, kn_X4, ⟨by decide +kernel, by decide +kernel, by decide +kernel⟩, by decide⟩, ki_X4_takeWord, ks_X4_takeWord, TX4, 11, rfl⟩
set_option maxRecDepth 20000 in
theorem kl_X4_84 : Cond.methodLink RX4 84 yX4_findOwn ∈ GW := gw2 219 rfl (by decide +kernel)
set_option maxRecDepth 20000 in
theorem kc_X4_findOwn : Cond.code mX4_findOwn.1 mX4_findOwn.2.1 mX4_findOwn.2.2.1 mX4_findOwn.2.2.2 ∈ GW := gw2 222 rfl (by decide +kernel)
set_option maxRecDepth 20000 in
theorem ki_X4_findOwn : Cond.instanceMethod yX4_findOwn ∈ GW := gw2 221 rfl (by decide +kernel)
set_option maxRecDepth 20000 in
theorem ks_X4_findOwn : Cond.selects RX4 yX4_findOwn yX4_findOwn ∈ GW := gw_sl (q := (yX4_findOwn, 11)) 7 (by decide +kernel) (by decide +kernel)
theorem cX4_84 : aCv RX4 84 4 mX4_findOwn 0 := ⟨⟨kc_X4_findOwn, kl_X4_84, kn_X4, ⟨by decide +kernel, by decide +kernel, by decide +kernel⟩, by decide⟩, ki_X4_findOwn, ks_X4_findOwn, TX4, 11, rfl⟩
set_option maxRecDepth 20000 in
theorem kl_X4_88 : Cond.methodLink RX4 88 yX4_takeNumber ∈ GW := gw3 32 rfl (by decide +kernel)
set_option maxRecDepth 20000 in
theorem kc_X4_takeNumber : Cond.code mX4_takeNumber.1 mX4_takeNumber.2.1 mX4_takeNumber.2.2.1 mX4_takeNumber.2.2.2 ∈ GW := gw3 35 rfl (by decide +kernel)
set_option maxRecDepth 20000 in
theorem ki_X4_takeNumber : Cond.instanceMethod yX4_takeNumber ∈ GW := gw3 34 rfl (by decide +kernel)
set_option maxRecDepth 20000 in
theorem ks_X4_takeNumber : Cond.selects RX4 yX4_takeNumber yX4_takeNumber ∈ GW := gw_sl (q := (yX4_takeNumber, 11)) 8 (by decide +kernel) (by decide +kernel)
theorem cX4_88 : aCv RX4 88 4 mX4_takeNumber 0 := ⟨⟨kc_X4_takeNumber, kl_X4_88, kn_X4, ⟨by decide +kernel, by decide +kernel, by decide +kernel⟩, by decide⟩, ki_X4_takeNumber, ks_X4_takeNumber, TX4, 11, rfl⟩
set_option maxRecDepth 20000 in
theorem kl_X4_64 : Cond.methodLink RX4 64 yX4_readStatement ∈ GW := gw3 36 rfl (by decide +kernel)
set_option maxRecDepth 20000 in
theorem kc_X4_readStatement : Cond.code mX4_readStatement.1 mX4_readStatement.2.1 mX4_readStatement.2.2.1 mX4_readStatement.2.2.2 ∈ GW := gw3 39 rfl (by decide +kernel)
set_option maxRecDepth 20000 in
theorem ki_X4_readStatement : Cond.instanceMethod yX4_readStatement ∈ GW := gw3 38 rfl (by decide +kernel)
set_option maxRecDepth 20000 in
theorem ks_X4_readStatement : Cond.selects RX4 yX4_readStatement yX4_readStatement ∈ GW := gw_sl (q := (yX4_readStatement, 11)) 9 (by decide +kernel) (by decide +kernel)
theorem cX4_64 : aCv RX4 64 4 mX4_readStatement 0 := ⟨⟨kc_X4_readStatement, kl_X4_64, kn_X4, ⟨by decide +kernel, by decide +kernel, by decide +kernel⟩, by decide⟩, ki_X4_readStatement, ks_X4_readStatement, TX4, 11, rfl⟩
set_option maxRecDepth 20000 in
theorem kl_X4_108 : Cond.methodLink RX4 108 yX4_beginsStatement ∈ GW := gw3 40 rfl (by decide +kernel)
set_option maxRecDepth 20000 in
theorem kc_X4_beginsStatement : Cond.code mX4_beginsStatement.1 mX4_beginsStatement.2.1 mX4_beginsStatement.2.2.1 mX4_beginsStatement.2.2.2 ∈ GW := gw3 42 rfl (by decide +kernel)
set_option maxRecDepth 20000 in
theorem kt_X4_beginsStatement : Cond.static yX4_beginsStatement ∈ GW := gw3 41 rfl (by decide +kernel)
theorem cX4_108 : aCs RX4 108 mX4_beginsStatement 1 := ⟨⟨kc_X4_beginsStatement, kl_X4_108, kn_X4, ⟨by decide +kernel, by decide +kernel, by decide +kernel⟩, by decide⟩, kt_X4_beginsStatement⟩
set_option maxRecDepth 20000 in
theorem kl_X4_111 : Cond.methodLink RX4 111 yX4_isFull ∈ GW := gw3 43 rfl (by decide +kernel)
set_option maxRecDepth 20000 in
theorem kc_X4_isFull : Cond.code mX4_isFull.1 mX4_isFull.2.1 mX4_isFull.2.2.1 mX4_isFull.2.2.2 ∈ GW := gw3 46 rfl (by decide +kernel)
set_option maxRecDepth 20000 in
theorem ki_X4_isFull : Cond.instanceMethod yX4_isFull ∈ GW := gw3 45 rfl (by decide +kernel)
set_option maxRecDepth 20000 in
theorem ks_X4_isFull : Cond.selects RX4 yX4_isFull yX4_isFull ∈ GW := gw_sl (q := (yX4_isFull, 11)) 10 (by decide +kernel) (by decide +kernel)
theorem cX4_111 : aCv RX4 111 4 mX4_isFull 1 := ⟨⟨kc_X4_isFull, kl_X4_111, kn_X4, ⟨by decide +kernel, by decide +kernel, by decide +kernel⟩, by decide⟩, ki_X4_isFull, ks_X4_isFull, TX4, 11, rfl⟩
set_option maxRecDepth 20000 in
theorem kl_X4_152 : Cond.methodLink RX4 152 yX5_hasRule ∈ GW := gw3 47 rfl (by decide +kernel)
set_option maxRecDepth 20000 in
theorem kc_X5_hasRule : Cond.code mX5_hasRule.1 mX5_hasRule.2.1 mX5_hasRule.2.2.1 mX5_hasRule.2.2.2 ∈ GW := gw3 50 rfl (by decide +kernel)
set_option maxRecDepth 20000 in
theorem ki_X5_hasRule : Cond.instanceMethod yX5_hasRule ∈ GW := gw3 48 rfl (by decide +kernel)
set_option maxRecDepth 20000 in
theorem ks_X5_hasRule : Cond.selects RX5 yX5_hasRule yX5_hasRule ∈ GW := gw3 49 rfl (by decide +kernel)
theorem cX4_152 : aCv RX4 152 5 mX5_hasRule 1 := ⟨⟨kc_X5_hasRule, kl_X4_152, kn_X5, ⟨by decide +kernel, by decide +kernel, by decide +kernel⟩, by decide⟩, ki_X5_hasRule, ks_X5_hasRule, TX5, 11, rfl⟩
set_option maxRecDepth 20000 in
theorem kl_X5_52 : Cond.methodLink RX5 52 yX5_isRule ∈ GW := gw3 51 rfl (by decide +kernel)
set_option maxRecDepth 20000 in
theorem kc_X5_isRule : Cond.code mX5_isRule.1 mX5_isRule.2.1 mX5_isRule.2.2.1 mX5_isRule.2.2.2 ∈ GW := gw3 53 rfl (by decide +kernel)
set_option maxRecDepth 20000 in
theorem kt_X5_isRule : Cond.static yX5_isRule ∈ GW := gw3 52 rfl (by decide +kernel)
theorem cX5_52 : aCs RX5 52 mX5_isRule 1 := ⟨⟨kc_X5_isRule, kl_X5_52, kn_X5, ⟨by decide +kernel, by decide +kernel, by decide +kernel⟩, by decide⟩, kt_X5_isRule⟩
set_option maxRecDepth 20000 in
theorem kl_X4_114 : Cond.methodLink RX4 114 yX5_beginRule ∈ GW := gw3 54 rfl (by decide +kernel)
set_option maxRecDepth 20000 in
theorem kc_X5_beginRule : Cond.code mX5_beginRule.1 mX5_beginRule.2.1 mX5_beginRule.2.2.1 mX5_beginRule.2.2.2 ∈ GW := gw3 57 rfl (by decide +kernel)
set_option maxRecDepth 20000 in
theorem ki_X5_beginRule : Cond.instanceMethod yX5_beginRule ∈ GW := gw3 55 rfl (by decide +kernel)
set_option maxRecDepth 20000 in
theorem ks_X5_beginRule : Cond.selects RX5 yX5_beginRule yX5_beginRule ∈ GW := gw3 56 rfl (by decide +kernel)
theorem cX4_114 : aCv RX4 114 5 mX5_beginRule 1 := ⟨⟨kc_X5_beginRule, kl_X4_114, kn_X5, ⟨by decide +kernel, by decide +kernel, by decide +kernel⟩, by decide⟩, ki_X5_beginRule, ks_X5_beginRule, TX5, 11, rfl⟩
set_option maxRecDepth 20000 in
theorem kl_X4_117 : Cond.methodLink RX4 117 yX4_readThing ∈ GW := gw3 58 rfl (by decide +kernel)
set_option maxRecDepth 20000 in
theorem kc_X4_readThing : Cond.code mX4_readThing.1 mX4_readThing.2.1 mX4_readThing.2.2.1 mX4_readThing.2.2.2 ∈ GW := gw3 61 rfl (by decide +kernel)
set_option maxRecDepth 20000 in
theorem ki_X4_readThing : Cond.instanceMethod yX4_readThing ∈ GW := gw3 60 rfl (by decide +kernel)
set_option maxRecDepth 20000 in
theorem ks_X4_readThing : Cond.selects RX4 yX4_readThing yX4_readThing ∈ GW := gw_sl (q := (yX4_readThing, 11)) 11 (by decide +kernel) (by decide +kernel)
theorem cX4_117 : aCv RX4 117 4 mX4_readThing 3 := ⟨⟨kc_X4_readThing, kl_X4_117, kn_X4, ⟨by decide +kernel, by decide +kernel, by decide +kernel⟩, by decide⟩, ki_X4_readThing, ks_X4_readThing, TX4, 11, rfl⟩
set_option maxRecDepth 20000 in
theorem kl_X4_155 : Cond.methodLink RX4 155 yX4_takeName ∈ GW := gw3 62 rfl (by decide +kernel)
set_option maxRecDepth 20000 in
theorem kc_X4_takeName : Cond.code mX4_takeName.1 mX4_takeName.2.1 mX4_takeName.2.2.1 mX4_takeName.2.2.2 ∈ GW := gw3 65 rfl (by decide +kernel)
set_option maxRecDepth 20000 in
theorem ki_X4_takeName : Cond.instanceMethod yX4_takeName ∈ GW := gw3 64 rfl (by decide +kernel)
set_option maxRecDepth 20000 in
theorem ks_X4_takeName : Cond.selects RX4 yX4_takeName yX4_takeName ∈ GW := gw_sl (q := (yX4_takeName, 11)) 12 (by decide +kernel) (by decide +kernel)
theorem cX4_155 : aCv RX4 155 4 mX4_takeName 0 := ⟨⟨kc_X4_takeName, kl_X4_155, kn_X4, ⟨by decide +kernel, by decide +kernel, by decide +kernel⟩, by decide⟩, ki_X4_takeName, ks_X4_takeName, TX4, 11, rfl⟩
set_option maxRecDepth 20000 in
theorem kl_X4_165 : Cond.methodLink RX4 165 yX5_bears ∈ GW := gw3 66 rfl (by decide +kernel)
set_option maxRecDepth 20000 in
theorem kc_X5_bears : Cond.code mX5_bears.1 mX5_bears.2.1 mX5_bears.2.2.1 mX5_bears.2.2.2 ∈ GW := gw3 69 rfl (by decide +kernel)
set_option maxRecDepth 20000 in
theorem ki_X5_bears : Cond.instanceMethod yX5_bears ∈ GW := gw3 67 rfl (by decide +kernel)
set_option maxRecDepth 20000 in
theorem ks_X5_bears : Cond.selects RX5 yX5_bears yX5_bears ∈ GW := gw3 68 rfl (by decide +kernel)
theorem cX4_165 : aCv RX4 165 5 mX5_bears 1 := ⟨⟨kc_X5_bears, kl_X4_165, kn_X5, ⟨by decide +kernel, by decide +kernel, by decide +kernel⟩, by decide⟩, ki_X5_bears, ks_X5_bears, TX5, 11, rfl⟩
set_option maxRecDepth 20000 in
theorem kl_X4_158 : Cond.methodLink RX4 158 yX4_takeOwn ∈ GW := gw3 70 rfl (by decide +kernel)
set_option maxRecDepth 20000 in
theorem kc_X4_takeOwn : Cond.code mX4_takeOwn.1 mX4_takeOwn.2.1 mX4_takeOwn.2.2.1 mX4_takeOwn.2.2.2 ∈ GW := gw3 73 rfl (by decide +kernel)
set_option maxRecDepth 20000 in
theorem ki_X4_takeOwn : Cond.instanceMethod yX4_takeOwn ∈ GW := gw3 72 rfl (by decide +kernel)
set_option maxRecDepth 20000 in
theorem ks_X4_takeOwn : Cond.selects RX4 yX4_takeOwn yX4_takeOwn ∈ GW := gw_sl (q := (yX4_takeOwn, 11)) 13 (by decide +kernel) (by decide +kernel)
theorem cX4_158 : aCv RX4 158 4 mX4_takeOwn 1 := ⟨⟨kc_X4_takeOwn, kl_X4_158, kn_X4, ⟨by decide +kernel, by decide +kernel, by decide +kernel⟩, by decide⟩, ki_X4_takeOwn, ks_X4_takeOwn, TX4, 11, rfl⟩
set_option maxRecDepth 20000 in
theorem kl_X4_102 : Cond.methodLink RX4 102 yX4_isWord ∈ GW := gw3 74 rfl (by decide +kernel)
set_option maxRecDepth 20000 in
theorem kc_X4_isWord : Cond.code mX4_isWord.1 mX4_isWord.2.1 mX4_isWord.2.2.1 mX4_isWord.2.2.2 ∈ GW := gw3 77 rfl (by decide +kernel)
set_option maxRecDepth 20000 in
theorem ki_X4_isWord : Cond.instanceMethod yX4_isWord ∈ GW := gw3 76 rfl (by decide +kernel)
set_option maxRecDepth 20000 in
theorem ks_X4_isWord : Cond.selects RX4 yX4_isWord yX4_isWord ∈ GW := gw_sl (q := (yX4_isWord, 11)) 14 (by decide +kernel) (by decide +kernel)
theorem cX4_102 : aCv RX4 102 4 mX4_isWord 1 := ⟨⟨kc_X4_isWord, kl_X4_102, kn_X4, ⟨by decide +kernel, by decide +kernel, by decide +kernel⟩, by decide⟩, ki_X4_isWord, ks_X4_isWord, TX4, 11, rfl⟩
set_option maxRecDepth 20000 in
theorem kl_X4_121 : Cond.methodLink RX4 121 yX4_takeValue ∈ GW := gw3 78 rfl (by decide +kernel)
set_option maxRecDepth 20000 in
theorem kc_X4_takeValue : Cond.code mX4_takeValue.1 mX4_takeValue.2.1 mX4_takeValue.2.2.1 mX4_takeValue.2.2.2 ∈ GW := gw3 81 rfl (by decide +kernel)
set_option maxRecDepth 20000 in
theorem ki_X4_takeValue : Cond.instanceMethod yX4_takeValue ∈ GW := gw3 80 rfl (by decide +kernel)
set_option maxRecDepth 20000 in
theorem ks_X4_takeValue : Cond.selects RX4 yX4_takeValue yX4_takeValue ∈ GW := gw_sl (q := (yX4_takeValue, 11)) 15 (by decide +kernel) (by decide +kernel)
theorem cX4_121 : aCv RX4 121 4 mX4_takeValue 2 := ⟨⟨kc_X4_takeValue, kl_X4_121, kn_X4, ⟨by decide +kernel, by decide +kernel, by decide +kernel⟩, by decide⟩, ki_X4_takeValue, ks_X4_takeValue, TX4, 11, rfl⟩
set_option maxRecDepth 20000 in
theorem kl_X4_161 : Cond.methodLink RX4 161 yX5_addThing ∈ GW := gw3 82 rfl (by decide +kernel)
set_option maxRecDepth 20000 in
theorem kc_X5_addThing : Cond.code mX5_addThing.1 mX5_addThing.2.1 mX5_addThing.2.2.1 mX5_addThing.2.2.2 ∈ GW := gw3 85 rfl (by decide +kernel)
set_option maxRecDepth 20000 in
theorem ki_X5_addThing : Cond.instanceMethod yX5_addThing ∈ GW := gw3 83 rfl (by decide +kernel)
set_option maxRecDepth 20000 in
theorem ks_X5_addThing : Cond.selects RX5 yX5_addThing yX5_addThing ∈ GW := gw3 84 rfl (by decide +kernel)
theorem cX4_161 : aCv RX4 161 5 mX5_addThing 4 := ⟨⟨kc_X5_addThing, kl_X4_161, kn_X5, ⟨by decide +kernel, by decide +kernel, by decide +kernel⟩, by decide⟩, ki_X5_addThing, ks_X5_addThing, TX5, 11, rfl⟩
set_option maxRecDepth 20000 in
theorem kl_X4_130 : Cond.methodLink RX4 130 yX4_readTest ∈ GW := gw3 86 rfl (by decide +kernel)
set_option maxRecDepth 20000 in
theorem kc_X4_readTest : Cond.code mX4_readTest.1 mX4_readTest.2.1 mX4_readTest.2.2.1 mX4_readTest.2.2.2 ∈ GW := gw3 89 rfl (by decide +kernel)
set_option maxRecDepth 20000 in
theorem ki_X4_readTest : Cond.instanceMethod yX4_readTest ∈ GW := gw3 88 rfl (by decide +kernel)
set_option maxRecDepth 20000 in
theorem ks_X4_readTest : Cond.selects RX4 yX4_readTest yX4_readTest ∈ GW := gw_sl (q := (yX4_readTest, 11)) 16 (by decide +kernel) (by decide +kernel)
theorem cX4_130 : aCv RX4 130 4 mX4_readTest 1 := ⟨⟨kc_X4_readTest, kl_X4_130, kn_X4, ⟨by decide +kernel, by decide +kernel, by decide +kernel⟩, by decide⟩, ki_X4_readTest, ks_X4_readTest, TX4, 11, rfl⟩
set_option maxRecDepth 20000 in
theorem kl_X4_190 : Cond.methodLink RX4 190 yX4_readBoth ∈ GW := gw3 90 rfl (by decide +kernel)
set_option maxRecDepth 20000 in
theorem kc_X4_readBoth : Cond.code mX4_readBoth.1 mX4_readBoth.2.1 mX4_readBoth.2.2.1 mX4_readBoth.2.2.2 ∈ GW := gw3 93 rfl (by decide +kernel)
set_option maxRecDepth 20000 in
theorem ki_X4_readBoth : Cond.instanceMethod yX4_readBoth ∈ GW := gw3 92 rfl (by decide +kernel)
set_option maxRecDepth 20000 in
theorem ks_X4_readBoth : Cond.selects RX4 yX4_readBoth yX4_readBoth ∈ GW := gw_sl (q := (yX4_readBoth, 11)) 17 (by decide +kernel) (by decide +kernel)
theorem cX4_190 : aCv RX4 190 4 mX4_readBoth 1 := ⟨⟨kc_X4_readBoth, kl_X4_190, kn_X4, ⟨by decide +kernel, by decide +kernel, by decide +kernel⟩, by decide⟩, ki_X4_readBoth, ks_X4_readBoth, TX4, 11, rfl⟩
set_option maxRecDepth 20000 in
theorem kl_X4_193 : Cond.methodLink RX4 193 yX4_readFact ∈ GW := gw3 94 rfl (by decide +kernel)
set_option maxRecDepth 20000 in
theorem kc_X4_readFact : Cond.code mX4_readFact.1 mX4_readFact.2.1 mX4_readFact.2.2.1 mX4_readFact.2.2.2 ∈ GW := gw3 97 rfl (by decide +kernel)
set_option maxRecDepth 20000 in
theorem ki_X4_readFact : Cond.instanceMethod yX4_readFact ∈ GW := gw3 96 rfl (by decide +kernel)
set_option maxRecDepth 20000 in
theorem ks_X4_readFact : Cond.selects RX4 yX4_readFact yX4_readFact ∈ GW := gw_sl (q := (yX4_readFact, 11)) 18 (by decide +kernel) (by decide +kernel)
theorem cX4_193 : aCv RX4 193 4 mX4_readFact 1 := ⟨⟨kc_X4_readFact, kl_X4_193, kn_X4, ⟨by decide +kernel, by decide +kernel, by decide +kernel⟩, by decide⟩, ki_X4_readFact, ks_X4_readFact, TX4, 11, rfl⟩
set_option maxRecDepth 20000 in
theorem kl_X4_186 : Cond.methodLink RX4 186 yX4_takeOpener ∈ GW := gw3 98 rfl (by decide +kernel)
set_option maxRecDepth 20000 in
theorem kc_X4_takeOpener : Cond.code mX4_takeOpener.1 mX4_takeOpener.2.1 mX4_takeOpener.2.2.1 mX4_takeOpener.2.2.2 ∈ GW := gw3 101 rfl (by decide +kernel)
set_option maxRecDepth 20000 in
theorem ki_X4_takeOpener : Cond.instanceMethod yX4_takeOpener ∈ GW := gw3 100 rfl (by decide +kernel)
set_option maxRecDepth 20000 in
theorem ks_X4_takeOpener : Cond.selects RX4 yX4_takeOpener yX4_takeOpener ∈ GW := gw_sl (q := (yX4_takeOpener, 11)) 19 (by decide +kernel) (by decide +kernel)
theorem cX4_186 : aCv RX4 186 4 mX4_takeOpener 2 := ⟨⟨kc_X4_takeOpener, kl_X4_186, kn_X4, ⟨by decide +kernel, by decide +kernel, by decide +kernel⟩, by decide⟩, ki_X4_takeOpener, ks_X4_takeOpener, TX4, 11, rfl⟩
set_option maxRecDepth 20000 in
theorem kl_X4_171 : Cond.methodLink RX4 171 yX5_addStep ∈ GW := gw3 102 rfl (by decide +kernel)
set_option maxRecDepth 20000 in
theorem kc_X5_addStep : Cond.code mX5_addStep.1 mX5_addStep.2.1 mX5_addStep.2.2.1 mX5_addStep.2.2.2 ∈ GW := gw3 105 rfl (by decide +kernel)
set_option maxRecDepth 20000 in
theorem ki_X5_addStep : Cond.instanceMethod yX5_addStep ∈ GW := gw3 103 rfl (by decide +kernel)
set_option maxRecDepth 20000 in
theorem ks_X5_addStep : Cond.selects RX5 yX5_addStep yX5_addStep ∈ GW := gw3 104 rfl (by decide +kernel)
theorem cX4_171 : aCv RX4 171 5 mX5_addStep 2 := ⟨⟨kc_X5_addStep, kl_X4_171, kn_X5, ⟨by decide +kernel, by decide +kernel, by decide +kernel⟩, by decide⟩, ki_X5_addStep, ks_X5_addStep, TX5, 11, rfl⟩
set_option maxRecDepth 20000 in
theorem kl_X4_105 : Cond.methodLink RX4 105 yX4_isSign ∈ GW := gw3 106 rfl (by decide +kernel)
set_option maxRecDepth 20000 in
theorem kc_X4_isSign : Cond.code mX4_isSign.1 mX4_isSign.2.1 mX4_isSign.2.2.1 mX4_isSign.2.2.2 ∈ GW := gw3 109 rfl (by decide +kernel)
set_option maxRecDepth 20000 in
theorem ki_X4_isSign : Cond.instanceMethod yX4_isSign ∈ GW := gw3 108 rfl (by decide +kernel)
set_option maxRecDepth 20000 in
theorem ks_X4_isSign : Cond.selects RX4 yX4_isSign yX4_isSign ∈ GW := gw_sl (q := (yX4_isSign, 11)) 20 (by decide +kernel) (by decide +kernel)
theorem cX4_105 : aCv RX4 105 4 mX4_isSign 1 := ⟨⟨kc_X4_isSign, kl_X4_105, kn_X4, ⟨by decide +kernel, by decide +kernel, by decide +kernel⟩, by decide⟩, ki_X4_isSign, ks_X4_isSign, TX4, 11, rfl⟩
set_option maxRecDepth 20000 in
theorem kl_X4_145 : Cond.methodLink RX4 145 yX4_takeSign ∈ GW := gw3 110 rfl (by decide +kernel)
set_option maxRecDepth 20000 in
theorem kc_X4_takeSign : Cond.code mX4_takeSign.1 mX4_takeSign.2.1 mX4_takeSign.2.2.1 mX4_takeSign.2.2.2 ∈ GW := gw3 113 rfl (by decide +kernel)
set_option maxRecDepth 20000 in
theorem ki_X4_takeSign : Cond.instanceMethod yX4_takeSign ∈ GW := gw3 112 rfl (by decide +kernel)
set_option maxRecDepth 20000 in
theorem ks_X4_takeSign : Cond.selects RX4 yX4_takeSign yX4_takeSign ∈ GW := gw_sl (q := (yX4_takeSign, 11)) 21 (by decide +kernel) (by decide +kernel)
theorem cX4_145 : aCv RX4 145 4 mX4_takeSign 1 := ⟨⟨kc_X4_takeSign, kl_X4_145, kn_X4, ⟨by decide +kernel, by decide +kernel, by decide +kernel⟩, by decide⟩, ki_X4_takeSign, ks_X4_takeSign, TX4, 11, rfl⟩
set_option maxRecDepth 20000 in
theorem kl_X4_196 : Cond.methodLink RX4 196 yX4_readComparison ∈ GW := gw3 114 rfl (by decide +kernel)
set_option maxRecDepth 20000 in
theorem kc_X4_readComparison : Cond.code mX4_readComparison.1 mX4_readComparison.2.1 mX4_readComparison.2.2.1 mX4_readComparison.2.2.2 ∈ GW := gw3 117 rfl (by decide +kernel)
set_option maxRecDepth 20000 in
theorem ki_X4_readComparison : Cond.instanceMethod yX4_readComparison ∈ GW := gw3 116 rfl (by decide +kernel)
set_option maxRecDepth 20000 in
theorem ks_X4_readComparison : Cond.selects RX4 yX4_readComparison yX4_readComparison ∈ GW := gw_sl (q := (yX4_readComparison, 11)) 22 (by decide +kernel) (by decide +kernel)
theorem cX4_196 : aCv RX4 196 4 mX4_readComparison 1 := ⟨⟨kc_X4_readComparison, kl_X4_196, kn_X4, ⟨by decide +kernel, by decide +kernel, by decide +kernel⟩, by decide⟩, ki_X4_readComparison, ks_X4_readComparison, TX4, 11, rfl⟩
set_option maxRecDepth 20000 in
theorem kl_X4_133 : Cond.methodLink RX4 133 yX4_readSum ∈ GW := gw3 118 rfl (by decide +kernel)
set_option maxRecDepth 20000 in
theorem kc_X4_readSum : Cond.code mX4_readSum.1 mX4_readSum.2.1 mX4_readSum.2.2.1 mX4_readSum.2.2.2 ∈ GW := gw3 121 rfl (by decide +kernel)
set_option maxRecDepth 20000 in
theorem ki_X4_readSum : Cond.instanceMethod yX4_readSum ∈ GW := gw3 120 rfl (by decide +kernel)
set_option maxRecDepth 20000 in
theorem ks_X4_readSum : Cond.selects RX4 yX4_readSum yX4_readSum ∈ GW := gw_sl (q := (yX4_readSum, 11)) 23 (by decide +kernel) (by decide +kernel)
theorem cX4_133 : aCv RX4 133 4 mX4_readSum 1 := ⟨⟨kc_X4_readSum, kl_X4_133, kn_X4, ⟨by decide +kernel, by decide +kernel, by decide +kernel⟩, by decide⟩, ki_X4_readSum, ks_X4_readSum, TX4, 11, rfl⟩
set_option maxRecDepth 20000 in
theorem kl_X4_168 : Cond.methodLink RX4 168 yX4_readProduct ∈ GW := gw3 122 rfl (by decide +kernel)
set_option maxRecDepth 20000 in
theorem kc_X4_readProduct : Cond.code mX4_readProduct.1 mX4_readProduct.2.1 mX4_readProduct.2.2.1 mX4_readProduct.2.2.2 ∈ GW := gw3 125 rfl (by decide +kernel)
set_option maxRecDepth 20000 in
theorem ki_X4_readProduct : Cond.instanceMethod yX4_readProduct ∈ GW := gw3 124 rfl (by decide +kernel)
set_option maxRecDepth 20000 in
theorem ks_X4_readProduct : Cond.selects RX4 yX4_readProduct yX4_readProduct ∈ GW := gw_sl (q := (yX4_readProduct, 11)) 24 (by decide +kernel) (by decide +kernel)
theorem cX4_168 : aCv RX4 168 4 mX4_readProduct 1 := ⟨⟨kc_X4_readProduct, kl_X4_168, kn_X4, ⟨by decide +kernel, by decide +kernel, by decide +kernel⟩, by decide⟩, ki_X4_readProduct, ks_X4_readProduct, TX4, 11, rfl⟩
set_option maxRecDepth 20000 in
theorem kl_X4_174 : Cond.methodLink RX4 174 yX4_readPart ∈ GW := gw3 126 rfl (by decide +kernel)
set_option maxRecDepth 20000 in
theorem kc_X4_readPart : Cond.code mX4_readPart.1 mX4_readPart.2.1 mX4_readPart.2.2.1 mX4_readPart.2.2.2 ∈ GW := gw3 129 rfl (by decide +kernel)
set_option maxRecDepth 20000 in
theorem ki_X4_readPart : Cond.instanceMethod yX4_readPart ∈ GW := gw3 128 rfl (by decide +kernel)
set_option maxRecDepth 20000 in
theorem ks_X4_readPart : Cond.selects RX4 yX4_readPart yX4_readPart ∈ GW := gw_sl (q := (yX4_readPart, 11)) 25 (by decide +kernel) (by decide +kernel)
theorem cX4_174 : aCv RX4 174 4 mX4_readPart 1 := ⟨⟨kc_X4_readPart, kl_X4_174, kn_X4, ⟨by decide +kernel, by decide +kernel, by decide +kernel⟩, by decide⟩, ki_X4_readPart, ks_X4_readPart, TX4, 11, rfl⟩
set_option maxRecDepth 20000 in
theorem kl_X4_177 : Cond.methodLink RX4 177 yX4_mayStand ∈ GW := gw3 130 rfl (by decide +kernel)
set_option maxRecDepth 20000 in
theorem kc_X4_mayStand : Cond.code mX4_mayStand.1 mX4_mayStand.2.1 mX4_mayStand.2.2.1 mX4_mayStand.2.2.2 ∈ GW := gw3 133 rfl (by decide +kernel)
set_option maxRecDepth 20000 in
theorem ki_X4_mayStand : Cond.instanceMethod yX4_mayStand ∈ GW := gw3 132 rfl (by decide +kernel)
set_option maxRecDepth 20000 in
theorem ks_X4_mayStand : Cond.selects RX4 yX4_mayStand yX4_mayStand ∈ GW := gw_sl (q := (yX4_mayStand, 11)) 26 (by decide +kernel) (by decide +kernel)
theorem cX4_177 : aCv RX4 177 4 mX4_mayStand 1 := ⟨⟨kc_X4_mayStand, kl_X4_177, kn_X4, ⟨by decide +kernel, by decide +kernel, by decide +kernel⟩, by decide⟩, ki_X4_mayStand, ks_X4_mayStand, TX4, 11, rfl⟩
set_option maxRecDepth 20000 in
theorem kl_X4_180 : Cond.methodLink RX4 180 yX4_readLesserOrGreater ∈ GW := gw3 134 rfl (by decide +kernel)
set_option maxRecDepth 20000 in
theorem kc_X4_readLesserOrGreater : Cond.code mX4_readLesserOrGreater.1 mX4_readLesserOrGreater.2.1 mX4_readLesserOrGreater.2.2.1 mX4_readLesserOrGreater.2.2.2 ∈ GW := gw3 137 rfl (by decide +kernel)
set_option maxRecDepth 20000 in
theorem ki_X4_readLesserOrGreater : Cond.instanceMethod yX4_readLesserOrGreater ∈ GW := gw3 136 rfl (by decide +kernel)
set_option maxRecDepth 20000 in
theorem ks_X4_readLesserOrGreater : Cond.selects RX4 yX4_readLesserOrGreater yX4_readLesserOrGreater ∈ GW := gw_sl (q := (yX4_readLesserOrGreater, 11)) 27 (by decide +kernel) (by decide +kernel)
theorem cX4_180 : aCv RX4 180 4 mX4_readLesserOrGreater 1 := ⟨⟨kc_X4_readLesserOrGreater, kl_X4_180, kn_X4, ⟨by decide +kernel, by decide +kernel, by decide +kernel⟩, by decide⟩, ki_X4_readLesserOrGreater, ks_X4_readLesserOrGreater, TX4, 11, rfl⟩
set_option maxRecDepth 20000 in
theorem kl_X4_183 : Cond.methodLink RX4 183 yX4_readChoice ∈ GW := gw3 138 rfl (by decide +kernel)
set_option maxRecDepth 20000 in
theorem kc_X4_readChoice : Cond.code mX4_readChoice.1 mX4_readChoice.2.1 mX4_readChoice.2.2.1 mX4_readChoice.2.2.2 ∈ GW := gw3 141 rfl (by decide +kernel)
set_option maxRecDepth 20000 in
theorem ki_X4_readChoice : Cond.instanceMethod yX4_readChoice ∈ GW := gw3 140 rfl (by decide +kernel)
set_option maxRecDepth 20000 in
theorem ks_X4_readChoice : Cond.selects RX4 yX4_readChoice yX4_readChoice ∈ GW := gw_sl (q := (yX4_readChoice, 11)) 28 (by decide +kernel) (by decide +kernel)
theorem cX4_183 : aCv RX4 183 4 mX4_readChoice 1 := ⟨⟨kc_X4_readChoice, kl_X4_183, kn_X4, ⟨by decide +kernel, by decide +kernel, by decide +kernel⟩, by decide⟩, ki_X4_readChoice, ks_X4_readChoice, TX4, 11, rfl⟩
set_option maxRecDepth 20000 in
theorem kl_X4_136 : Cond.methodLink RX4 136 yX5_endRule ∈ GW := gw3 142 rfl (by decide +kernel)
set_option maxRecDepth 20000 in
theorem kc_X5_endRule : Cond.code mX5_endRule.1 mX5_endRule.2.1 mX5_endRule.2.2.1 mX5_endRule.2.2.2 ∈ GW := gw3 145 rfl (by decide +kernel)
set_option maxRecDepth 20000 in
theorem ki_X5_endRule : Cond.instanceMethod yX5_endRule ∈ GW := gw3 143 rfl (by decide +kernel)
set_option maxRecDepth 20000 in
theorem ks_X5_endRule : Cond.selects RX5 yX5_endRule yX5_endRule ∈ GW := gw3 144 rfl (by decide +kernel)
theorem cX4_136 : aCv RX4 136 5 mX5_endRule 1 := ⟨⟨kc_X5_endRule, kl_X4_136, kn_X5, ⟨by decide +kernel, by decide +kernel, by decide +kernel⟩, by decide⟩, ki_X5_endRule, ks_X5_endRule, TX5, 11, rfl⟩
set_option maxRecDepth 20000 in
theorem kl_X4_139 : Cond.methodLink RX4 139 yX4_endStatement ∈ GW := gw3 146 rfl (by decide +kernel)
set_option maxRecDepth 20000 in
theorem kc_X4_endStatement : Cond.code mX4_endStatement.1 mX4_endStatement.2.1 mX4_endStatement.2.2.1 mX4_endStatement.2.2.2 ∈ GW := gw3 149 rfl (by decide +kernel)
set_option maxRecDepth 20000 in
theorem ki_X4_endStatement : Cond.instanceMethod yX4_endStatement ∈ GW := gw3 148 rfl (by decide +kernel)
set_option maxRecDepth 20000 in
theorem ks_X4_endStatement : Cond.selects RX4 yX4_endStatement yX4_endStatement ∈ GW := gw_sl (q := (yX4_endStatement, 11)) 29 (by decide +kernel) (by decide +kernel)
theorem cX4_139 : aCv RX4 139 4 mX4_endStatement 0 := ⟨⟨kc_X4_endStatement, kl_X4_139, kn_X4, ⟨by decide +kernel, by decide +kernel, by decide +kernel⟩, by decide⟩, ki_X4_endStatement, ks_X4_endStatement, TX4, 11, rfl⟩
set_option maxRecDepth 20000 in
theorem kl_X9_129 : Cond.methodLink RX9 129 yX8_begin ∈ GW := gw3 150 rfl (by decide +kernel)
set_option maxRecDepth 20000 in
theorem kc_X8_begin : Cond.code mX8_begin.1 mX8_begin.2.1 mX8_begin.2.2.1 mX8_begin.2.2.2 ∈ GW := gw3 153 rfl (by decide +kernel)
set_option maxRecDepth 20000 in
theorem ki_X8_begin : Cond.instanceMethod yX8_begin ∈ GW := gw3 151 rfl (by decide +kernel)
set_option maxRecDepth 20000 in
theorem ks_X8_begin : Cond.selects RX8 yX8_begin yX8_begin ∈ GW := gw3 152 rfl (by decide +kernel)
theorem cX9_129 : aCv RX9 129 8 mX8_begin 1 := ⟨⟨kc_X8_begin, kl_X9_129, kn_X8, ⟨by decide +kernel, by decide +kernel, by decide +kernel⟩, by decide⟩, ki_X8_begin, ks_X8_begin, TX8, 6, rfl⟩
set_option maxRecDepth 20000 in
theorem kl_X8_34 : Cond.methodLink RX8 34 yX5_zincTold ∈ GW := gw3 154 rfl (by decide +kernel)
set_option maxRecDepth 20000 in
theorem kc_X5_zincTold : Cond.code mX5_zincTold.1 mX5_zincTold.2.1 mX5_zincTold.2.2.1 mX5_zincTold.2.2.2 ∈ GW := gw3 157 rfl (by decide +kernel)
set_option maxRecDepth 20000 in
theorem ki_X5_zincTold : Cond.instanceMethod yX5_zincTold ∈ GW := gw3 155 rfl (by decide +kernel)
set_option maxRecDepth 20000 in
theorem ks_X5_zincTold : Cond.selects RX5 yX5_zincTold yX5_zincTold ∈ GW := gw3 156 rfl (by decide +kernel)
theorem cX8_34 : aCv RX8 34 5 mX5_zincTold 1 := ⟨⟨kc_X5_zincTold, kl_X8_34, kn_X5, ⟨by decide +kernel, by decide +kernel, by decide +kernel⟩, by decide⟩, ki_X5_zincTold, ks_X5_zincTold, TX5, 11, rfl⟩
set_option maxRecDepth 20000 in
theorem kl_X8_38 : Cond.methodLink RX8 38 yX5_deepTold ∈ GW := gw3 158 rfl (by decide +kernel)
set_option maxRecDepth 20000 in
theorem kc_X5_deepTold : Cond.code mX5_deepTold.1 mX5_deepTold.2.1 mX5_deepTold.2.2.1 mX5_deepTold.2.2.2 ∈ GW := gw3 161 rfl (by decide +kernel)
set_option maxRecDepth 20000 in
theorem ki_X5_deepTold : Cond.instanceMethod yX5_deepTold ∈ GW := gw3 159 rfl (by decide +kernel)
set_option maxRecDepth 20000 in
theorem ks_X5_deepTold : Cond.selects RX5 yX5_deepTold yX5_deepTold ∈ GW := gw3 160 rfl (by decide +kernel)
theorem cX8_38 : aCv RX8 38 5 mX5_deepTold 1 := ⟨⟨kc_X5_deepTold, kl_X8_38, kn_X5, ⟨by decide +kernel, by decide +kernel, by decide +kernel⟩, by decide⟩, ki_X5_deepTold, ks_X5_deepTold, TX5, 11, rfl⟩
set_option maxRecDepth 20000 in
theorem kl_X9_132 : Cond.methodLink RX9 132 yX0_forget ∈ GW := gw3 162 rfl (by decide +kernel)
set_option maxRecDepth 20000 in
theorem kc_X0_forget : Cond.code mX0_forget.1 mX0_forget.2.1 mX0_forget.2.2.1 mX0_forget.2.2.2 ∈ GW := gw3 165 rfl (by decide +kernel)
set_option maxRecDepth 20000 in
theorem ki_X0_forget : Cond.instanceMethod yX0_forget ∈ GW := gw3 163 rfl (by decide +kernel)
