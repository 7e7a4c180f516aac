theorem kl_X1_3 : Cond.methodLink RX1 3 Lib.objectInit ∈ GW := gw_of 281 (by decide +kernel) (by decide +kernel)
theorem kl_X9_102 : Cond.methodLink RX9 102 yX9_refuse ∈ GW := gw_of 367 (by decide +kernel) (by decide +kernel)
theorem kc_X9_refuse : Cond.code mX9_refuse.1 mX9_refuse.2.1 mX9_refuse.2.2.1 mX9_refuse.2.2.2 ∈ GW := gw_of 370 (by decide +kernel) (by decide +kernel)
theorem kn_X9 : Cond.initialized RX9 ∈ GW := gw_of 1 (by decide +kernel) (by decide +kernel)
theorem ki_X9_refuse : Cond.instanceMethod yX9_refuse ∈ GW := gw_of 369 (by decide +kernel) (by decide +kernel)
theorem ks_X9_refuse : Cond.selects RX9 yX9_refuse yX9_refuse ∈ GW := gw_sl (q := (yX9_refuse, 17)) 0 (by decide +kernel) (by decide +kernel)
theorem cX9_102 : aCv RX9 102 9 mX9_refuse 1 := ⟨⟨kc_X9_refuse, kl_X9_102, kn_X9, ⟨by decide +kernel, by decide +kernel, by decide +kernel⟩, by decide⟩, ki_X9_refuse, ks_X9_refuse, TX9, 17, rfl⟩
theorem kl_X9_106 : Cond.methodLink RX9 106 yX9_putFour ∈ GW := gw_of 371 (by decide +kernel) (by decide +kernel)
theorem kc_X9_putFour : Cond.code mX9_putFour.1 mX9_putFour.2.1 mX9_putFour.2.2.1 mX9_putFour.2.2.2 ∈ GW := gw_of 374 (by decide +kernel) (by decide +kernel)
theorem ki_X9_putFour : Cond.instanceMethod yX9_putFour ∈ GW := gw_of 373 (by decide +kernel) (by decide +kernel)
theorem ks_X9_putFour : Cond.selects RX9 yX9_putFour yX9_putFour ∈ GW := gw_sl (q := (yX9_putFour, 17)) 1 (by decide +kernel) (by decide +kernel)
theorem cX9_106 : aCv RX9 106 9 mX9_putFour 1 := ⟨⟨kc_X9_putFour, kl_X9_106, kn_X9, ⟨by decide +kernel, by decide +kernel, by decide +kernel⟩, by decide⟩, ki_X9_putFour, ks_X9_putFour, TX9, 17, rfl⟩
theorem kl_X9_109 : Cond.methodLink RX9 109 yX9_deny ∈ GW := gw_of 379 (by decide +kernel) (by decide +kernel)
theorem kc_X9_deny : Cond.code mX9_deny.1 mX9_deny.2.1 mX9_deny.2.2.1 mX9_deny.2.2.2 ∈ GW := gw_of 382 (by decide +kernel) (by decide +kernel)
theorem ki_X9_deny : Cond.instanceMethod yX9_deny ∈ GW := gw_of 381 (by decide +kernel) (by decide +kernel)
theorem ks_X9_deny : Cond.selects RX9 yX9_deny yX9_deny ∈ GW := gw_sl (q := (yX9_deny, 17)) 2 (by decide +kernel) (by decide +kernel)
theorem cX9_109 : aCv RX9 109 9 mX9_deny 1 := ⟨⟨kc_X9_deny, kl_X9_109, kn_X9, ⟨by decide +kernel, by decide +kernel, by decide +kernel⟩, by decide⟩, ki_X9_deny, ks_X9_deny, TX9, 17, rfl⟩
theorem kl_X9_115 : Cond.methodLink RX9 115 yX4_init ∈ GW := gw_of 389 (by decide +kernel) (by decide +kernel)
theorem kc_X4_init : Cond.code mX4_init.1 mX4_init.2.1 mX4_init.2.2.1 mX4_init.2.2.2 ∈ GW := gw_of 391 (by decide +kernel) (by decide +kernel)
theorem kn_X4 : Cond.initialized RX4 ∈ GW := gw_of 12 (by decide +kernel) (by decide +kernel)
theorem ki_X4_init : Cond.instanceMethod yX4_init ∈ GW := gw_of 390 (by decide +kernel) (by decide +kernel)
theorem cX9_115 : aCi RX9 115 mX4_init 2 := ⟨⟨kc_X4_init, kl_X9_115, kn_X4, ⟨by decide +kernel, by decide +kernel, by decide +kernel⟩, by decide⟩, ki_X4_init, rfl, rfl⟩
theorem kl_X4_3 : Cond.methodLink RX4 3 Lib.objectInit ∈ GW := gw_of 392 (by decide +kernel) (by decide +kernel)
theorem kl_X4_40 : Cond.methodLink RX4 40 Lib.Math.min.name ∈ GW := gw_of 393 (by decide +kernel) (by decide +kernel)
theorem kl_X4_46 : Cond.methodLink RX4 46 Lib.Math.max.name ∈ GW := gw_of 396 (by decide +kernel) (by decide +kernel)
theorem kl_X4_54 : Cond.methodLink RX4 54 yX5_init ∈ GW := gw_of 398 (by decide +kernel) (by decide +kernel)
theorem cX4_54 : aCi RX4 54 mX5_init 1 := ⟨⟨kc_X5_init, kl_X4_54, kn_X5, ⟨by decide +kernel, by decide +kernel, by decide +kernel⟩, by decide⟩, ki_X5_init, rfl, rfl⟩
theorem kl_X9_118 : Cond.methodLink RX9 118 yX4_parse ∈ GW := gw_of 436 (by decide +kernel) (by decide +kernel)
theorem kc_X4_parse : Cond.code mX4_parse.1 mX4_parse.2.1 mX4_parse.2.2.1 mX4_parse.2.2.2 ∈ GW := gw_of 439 (by decide +kernel) (by decide +kernel)
theorem ki_X4_parse : Cond.instanceMethod yX4_parse ∈ GW := gw_of 437 (by decide +kernel) (by decide +kernel)
theorem ks_X4_parse : Cond.selects RX4 yX4_parse yX4_parse ∈ GW := gw_of 438 (by decide +kernel) (by decide +kernel)
theorem cX9_118 : aCv RX9 118 4 mX4_parse 0 := ⟨⟨kc_X4_parse, kl_X9_118, kn_X4, ⟨by decide +kernel, by decide +kernel, by decide +kernel⟩, by decide⟩, ki_X4_parse, ks_X4_parse, TX4, 11, rfl⟩
theorem kl_X4_61 : Cond.methodLink RX4 61 yX4_next ∈ GW := gw_of 440 (by decide +kernel) (by decide +kernel)
theorem kc_X4_next : Cond.code mX4_next.1 mX4_next.2.1 mX4_next.2.2.1 mX4_next.2.2.2 ∈ GW := gw_of 443 (by decide +kernel) (by decide +kernel)
theorem ki_X4_next : Cond.instanceMethod yX4_next ∈ GW := gw_of 442 (by decide +kernel) (by decide +kernel)
theorem ks_X4_next : Cond.selects RX4 yX4_next yX4_next ∈ GW := gw_sl (q := (yX4_next, 11)) 3 (by decide +kernel) (by decide +kernel)
theorem cX4_61 : aCv RX4 61 4 mX4_next 0 := ⟨⟨kc_X4_next, kl_X4_61, kn_X4, ⟨by decide +kernel, by decide +kernel, by decide +kernel⟩, by decide⟩, ki_X4_next, ks_X4_next, TX4, 11, rfl⟩
theorem kl_X4_67 : Cond.methodLink RX4 67 yX4_skipBlanks ∈ GW := gw_of 444 (by decide +kernel) (by decide +kernel)
theorem kc_X4_skipBlanks : Cond.code mX4_skipBlanks.1 mX4_skipBlanks.2.1 mX4_skipBlanks.2.2.1 mX4_skipBlanks.2.2.2 ∈ GW := gw_of 447 (by decide +kernel) (by decide +kernel)
theorem ki_X4_skipBlanks : Cond.instanceMethod yX4_skipBlanks ∈ GW := gw_of 446 (by decide +kernel) (by decide +kernel)
theorem ks_X4_skipBlanks : Cond.selects RX4 yX4_skipBlanks yX4_skipBlanks ∈ GW := gw_sl (q := (yX4_skipBlanks, 11)) 4 (by decide +kernel) (by decide +kernel)
theorem cX4_67 : aCv RX4 67 4 mX4_skipBlanks 0 := ⟨⟨kc_X4_skipBlanks, kl_X4_67, kn_X4, ⟨by decide +kernel, by decide +kernel, by decide +kernel⟩, by decide⟩, ki_X4_skipBlanks, ks_X4_skipBlanks, TX4, 11, rfl⟩
theorem kl_X4_70 : Cond.methodLink RX4 70 yX4_isLetter ∈ GW := gw_of 448 (by decide +kernel) (by decide +kernel)
theorem kc_X4_isLetter : Cond.code mX4_isLetter.1 mX4_isLetter.2.1 mX4_isLetter.2.2.1 mX4_isLetter.2.2.2 ∈ GW := gw_of 450 (by decide +kernel) (by decide +kernel)
theorem kt_X4_isLetter : Cond.static yX4_isLetter ∈ GW := gw_of 449 (by decide +kernel) (by decide +kernel)
theorem cX4_70 : aCs RX4 70 mX4_isLetter 1 := ⟨⟨kc_X4_isLetter, kl_X4_70, kn_X4, ⟨by decide +kernel, by decide +kernel, by decide +kernel⟩, by decide⟩, kt_X4_isLetter⟩
theorem kl_X4_74 : Cond.methodLink RX4 74 yX4_isDigit ∈ GW := gw_of 451 (by decide +kernel) (by decide +kernel)
theorem kc_X4_isDigit : Cond.code mX4_isDigit.1 mX4_isDigit.2.1 mX4_isDigit.2.2.1 mX4_isDigit.2.2.2 ∈ GW := gw_of 453 (by decide +kernel) (by decide +kernel)
theorem kt_X4_isDigit : Cond.static yX4_isDigit ∈ GW := gw_of 452 (by decide +kernel) (by decide +kernel)
theorem cX4_74 : aCs RX4 74 mX4_isDigit 1 := ⟨⟨kc_X4_isDigit, kl_X4_74, kn_X4, ⟨by decide +kernel, by decide +kernel, by decide +kernel⟩, by decide⟩, kt_X4_isDigit⟩
theorem kl_X4_77 : Cond.methodLink RX4 77 yX4_stop ∈ GW := gw_of 454 (by decide +kernel) (by decide +kernel)
theorem kc_X4_stop : Cond.code mX4_stop.1 mX4_stop.2.1 mX4_stop.2.2.1 mX4_stop.2.2.2 ∈ GW := gw_of 457 (by decide +kernel) (by decide +kernel)
theorem ki_X4_stop : Cond.instanceMethod yX4_stop ∈ GW := gw_of 456 (by decide +kernel) (by decide +kernel)
theorem ks_X4_stop : Cond.selects RX4 yX4_stop yX4_stop ∈ GW := gw_sl (q := (yX4_stop, 11)) 5 (by decide +kernel) (by decide +kernel)
theorem cX4_77 : aCv RX4 77 4 mX4_stop 2 := ⟨⟨kc_X4_stop, kl_X4_77, kn_X4, ⟨by decide +kernel, by decide +kernel, by decide +kernel⟩, by decide⟩, ki_X4_stop, ks_X4_stop, TX4, 11, rfl⟩
theorem kl_X4_81 : Cond.methodLink RX4 81 yX4_takeWord ∈ GW := gw_of 458 (by decide +kernel) (by decide +kernel)
theorem kc_X4_takeWord : Cond.code mX4_takeWord.1 mX4_takeWord.2.1 mX4_takeWord.2.2.1 mX4_takeWord.2.2.2 ∈ GW := gw_of 461 (by decide +kernel) (by decide +kernel)
theorem ki_X4_takeWord : Cond.instanceMethod yX4_takeWord ∈ GW := gw_of 460 (by decide +kernel) (by decide +kernel)
theorem ks_X4_takeWord : Cond.selects RX4 yX4_takeWord yX4_takeWord ∈ GW := gw_sl (q := (yX4_takeWord, 11)) 6 (by decide +kernel) (by decide +kernel)
theorem cX4_81 : aCv RX4 81 4 mX4_takeWord 0 := ⟨⟨kc_X4_takeWord, kl_X4_81, kn_X4, ⟨by decide +kernel, by decide +kernel, by decide +kernel⟩, by decide⟩, ki_X4_takeWord, ks_X4_takeWord, TX4, 11, rfl⟩
theorem kl_X4_84 : Cond.methodLink RX4 84 yX4_findOwn ∈ GW := gw_of 462 (by decide +kernel) (by decide +kernel)
theorem kc_X4_findOwn : Cond.code mX4_findOwn.1 mX4_findOwn.2.1 mX4_findOwn.2.2.1 mX4_findOwn.2.2.2 ∈ GW := gw_of 465 (by decide +kernel) (by decide +kernel)
theorem ki_X4_findOwn : Cond.instanceMethod yX4_findOwn ∈ GW := gw_of 464 (by decide +kernel) (by decide +kernel)
theorem ks_X4_findOwn : Cond.selects RX4 yX4_findOwn yX4_findOwn ∈ GW := gw_sl (q := (yX4_findOwn, 11)) 7 (by decide +kernel) (by decide +kernel)
theorem cX4_84 : aCv RX4 84 4 mX4_findOwn 0 := ⟨⟨kc_X4_findOwn, kl_X4_84, kn_X4, ⟨by decide +kernel, by decide +kernel, by decide +kernel⟩, by decide⟩, ki_X4_findOwn, ks_X4_findOwn, TX4, 11, rfl⟩
theorem kl_X4_88 : Cond.methodLink RX4 88 yX4_takeNumber ∈ GW := gw_of 515 (by decide +kernel) (by decide +kernel)
theorem kc_X4_takeNumber : Cond.code mX4_takeNumber.1 mX4_takeNumber.2.1 mX4_takeNumber.2.2.1 mX4_takeNumber.2.2.2 ∈ GW := gw_of 518 (by decide +kernel) (by decide +kernel)
theorem ki_X4_takeNumber : Cond.instanceMethod yX4_takeNumber ∈ GW := gw_of 517 (by decide +kernel) (by decide +kernel)
theorem ks_X4_takeNumber : Cond.selects RX4 yX4_takeNumber yX4_takeNumber ∈ GW := gw_sl (q := (yX4_takeNumber, 11)) 8 (by decide +kernel) (by decide +kernel)
theorem cX4_88 : aCv RX4 88 4 mX4_takeNumber 0 := ⟨⟨kc_X4_takeNumber, kl_X4_88, kn_X4, ⟨by decide +kernel, by decide +kernel, by decide +kernel⟩, by decide⟩, ki_X4_takeNumber, ks_X4_takeNumber, TX4, 11, rfl⟩
theorem kl_X4_64 : Cond.methodLink RX4 64 yX4_readStatement ∈ GW := gw_of 519 (by decide +kernel) (by decide +kernel)
theorem kc_X4_readStatement : Cond.code mX4_readStatement.1 mX4_readStatement.2.1 mX4_readStatement.2.2.1 mX4_readStatement.2.2.2 ∈ GW := gw_of 522 (by decide +kernel) (by decide +kernel)
theorem ki_X4_readStatement : Cond.instanceMethod yX4_readStatement ∈ GW := gw_of 521 (by decide +kernel) (by decide +kernel)
theorem ks_X4_readStatement : Cond.selects RX4 yX4_readStatement yX4_readStatement ∈ GW := gw_sl (q := (yX4_readStatement, 11)) 9 (by decide +kernel) (by decide +kernel)
theorem cX4_64 : aCv RX4 64 4 mX4_readStatement 0 := ⟨⟨kc_X4_readStatement, kl_X4_64, kn_X4, ⟨by decide +kernel, by decide +kernel, by decide +kernel⟩, by decide⟩, ki_X4_readStatement, ks_X4_readStatement, TX4, 11, rfl⟩
theorem kl_X4_108 : Cond.methodLink RX4 108 yX4_beginsStatement ∈ GW := gw_of 523 (by decide +kernel) (by decide +kernel)
theorem kc_X4_beginsStatement : Cond.code mX4_beginsStatement.1 mX4_beginsStatement.2.1 mX4_beginsStatement.2.2.1 mX4_beginsStatement.2.2.2 ∈ GW := gw_of 525 (by decide +kernel) (by decide +kernel)
theorem kt_X4_beginsStatement : Cond.static yX4_beginsStatement ∈ GW := gw_of 524 (by decide +kernel) (by decide +kernel)
theorem cX4_108 : aCs RX4 108 mX4_beginsStatement 1 := ⟨⟨kc_X4_beginsStatement, kl_X4_108, kn_X4, ⟨by decide +kernel, by decide +kernel, by decide +kernel⟩, by decide⟩, kt_X4_beginsStatement⟩
theorem kl_X4_111 : Cond.methodLink RX4 111 yX4_isFull ∈ GW := gw_of 526 (by decide +kernel) (by decide +kernel)
theorem kc_X4_isFull : Cond.code mX4_isFull.1 mX4_isFull.2.1 mX4_isFull.2.2.1 mX4_isFull.2.2.2 ∈ GW := gw_of 529 (by decide +kernel) (by decide +kernel)
theorem ki_X4_isFull : Cond.instanceMethod yX4_isFull ∈ GW := gw_of 528 (by decide +kernel) (by decide +kernel)
theorem ks_X4_isFull : Cond.selects RX4 yX4_isFull yX4_isFull ∈ GW := gw_sl (q := (yX4_isFull, 11)) 10 (by decide +kernel) (by decide +kernel)
theorem cX4_111 : aCv RX4 111 4 mX4_isFull 1 := ⟨⟨kc_X4_isFull, kl_X4_111, kn_X4, ⟨by decide +kernel, by decide +kernel, by decide +kernel⟩, by decide⟩, ki_X4_isFull, ks_X4_isFull, TX4, 11, rfl⟩
theorem kl_X4_114 : Cond.methodLink RX4 114 yX4_readThing ∈ GW := gw_of 530 (by decide +kernel) (by decide +kernel)
theorem kc_X4_readThing : Cond.code mX4_readThing.1 mX4_readThing.2.1 mX4_readThing.2.2.1 mX4_readThing.2.2.2 ∈ GW := gw_of 533 (by decide +kernel) (by decide +kernel)
theorem ki_X4_readThing : Cond.instanceMethod yX4_readThing ∈ GW := gw_of 532 (by decide +kernel) (by decide +kernel)
theorem ks_X4_readThing : Cond.selects RX4 yX4_readThing yX4_readThing ∈ GW := gw_sl (q := (yX4_readThing, 11)) 11 (by decide +kernel) (by decide +kernel)
theorem cX4_114 : aCv RX4 114 4 mX4_readThing 3 := ⟨⟨kc_X4_readThing, kl_X4_114, kn_X4, ⟨by decide +kernel, by decide +kernel, by decide +kernel⟩, by decide⟩, ki_X4_readThing, ks_X4_readThing, TX4, 11, rfl⟩
theorem kl_X4_149 : Cond.methodLink RX4 149 yX4_takeName ∈ GW := gw_of 534 (by decide +kernel) (by decide +kernel)
theorem kc_X4_takeName : Cond.code mX4_takeName.1 mX4_takeName.2.1 mX4_takeName.2.2.1 mX4_takeName.2.2.2 ∈ GW := gw_of 537 (by decide +kernel) (by decide +kernel)
theorem ki_X4_takeName : Cond.instanceMethod yX4_takeName ∈ GW := gw_of 536 (by decide +kernel) (by decide +kernel)
theorem ks_X4_takeName : Cond.selects RX4 yX4_takeName yX4_takeName ∈ GW := gw_sl (q := (yX4_takeName, 11)) 12 (by decide +kernel) (by decide +kernel)
theorem cX4_149 : aCv RX4 149 4 mX4_takeName 0 := ⟨⟨kc_X4_takeName, kl_X4_149, kn_X4, ⟨by decide +kernel, by decide +kernel, by decide +kernel⟩, by decide⟩, ki_X4_takeName, ks_X4_takeName, TX4, 11, rfl⟩
theorem kl_X4_159 : Cond.methodLink RX4 159 yX5_bears ∈ GW := gw_of 538 (by decide +kernel) (by decide +kernel)
theorem kc_X5_bears : Cond.code mX5_bears.1 mX5_bears.2.1 mX5_bears.2.2.1 mX5_bears.2.2.2 ∈ GW := gw_of 541 (by decide +kernel) (by decide +kernel)
theorem ki_X5_bears : Cond.instanceMethod yX5_bears ∈ GW := gw_of 539 (by decide +kernel) (by decide +kernel)
theorem ks_X5_bears : Cond.selects RX5 yX5_bears yX5_bears ∈ GW := gw_of 540 (by decide +kernel) (by decide +kernel)
theorem cX4_159 : aCv RX4 159 5 mX5_bears 1 := ⟨⟨kc_X5_bears, kl_X4_159, kn_X5, ⟨by decide +kernel, by decide +kernel, by decide +kernel⟩, by decide⟩, ki_X5_bears, ks_X5_bears, TX5, 11, rfl⟩
theorem kl_X4_152 : Cond.methodLink RX4 152 yX4_takeOwn ∈ GW := gw_of 542 (by decide +kernel) (by decide +kernel)
theorem kc_X4_takeOwn : Cond.code mX4_takeOwn.1 mX4_takeOwn.2.1 mX4_takeOwn.2.2.1 mX4_takeOwn.2.2.2 ∈ GW := gw_of 545 (by decide +kernel) (by decide +kernel)
theorem ki_X4_takeOwn : Cond.instanceMethod yX4_takeOwn ∈ GW := gw_of 544 (by decide +kernel) (by decide +kernel)
theorem ks_X4_takeOwn : Cond.selects RX4 yX4_takeOwn yX4_takeOwn ∈ GW := gw_sl (q := (yX4_takeOwn, 11)) 13 (by decide +kernel) (by decide +kernel)
theorem cX4_152 : aCv RX4 152 4 mX4_takeOwn 1 := ⟨⟨kc_X4_takeOwn, kl_X4_152, kn_X4, ⟨by decide +kernel, by decide +kernel, by decide +kernel⟩, by decide⟩, ki_X4_takeOwn, ks_X4_takeOwn, TX4, 11, rfl⟩
theorem kl_X4_102 : Cond.methodLink RX4 102 yX4_isWord ∈ GW := gw_of 546 (by decide +kernel) (by decide +kernel)
theorem kc_X4_isWord : Cond.code mX4_isWord.1 mX4_isWord.2.1 mX4_isWord.2.2.1 mX4_isWord.2.2.2 ∈ GW := gw_of 549 (by decide +kernel) (by decide +kernel)
theorem ki_X4_isWord : Cond.instanceMethod yX4_isWord ∈ GW := gw_of 548 (by decide +kernel) (by decide +kernel)
theorem ks_X4_isWord : Cond.selects RX4 yX4_isWord yX4_isWord ∈ GW := gw_sl (q := (yX4_isWord, 11)) 14 (by decide +kernel) (by decide +kernel)
theorem cX4_102 : aCv RX4 102 4 mX4_isWord 1 := ⟨⟨kc_X4_isWord, kl_X4_102, kn_X4, ⟨by decide +kernel, by decide +kernel, by decide +kernel⟩, by decide⟩, ki_X4_isWord, ks_X4_isWord, TX4, 11, rfl⟩
theorem kl_X4_118 : Cond.methodLink RX4 118 yX4_takeValue ∈ GW := gw_of 550 (by decide +kernel) (by decide +kernel)
theorem kc_X4_takeValue : Cond.code mX4_takeValue.1 mX4_takeValue.2.1 mX4_takeValue.2.2.1 mX4_takeValue.2.2.2 ∈ GW := gw_of 553 (by decide +kernel) (by decide +kernel)
theorem ki_X4_takeValue : Cond.instanceMethod yX4_takeValue ∈ GW := gw_of 552 (by decide +kernel) (by decide +kernel)
theorem ks_X4_takeValue : Cond.selects RX4 yX4_takeValue yX4_takeValue ∈ GW := gw_sl (q := (yX4_takeValue, 11)) 15 (by decide +kernel) (by decide +kernel)
theorem cX4_118 : aCv RX4 118 4 mX4_takeValue 2 := ⟨⟨kc_X4_takeValue, kl_X4_118, kn_X4, ⟨by decide +kernel, by decide +kernel, by decide +kernel⟩, by decide⟩, ki_X4_takeValue, ks_X4_takeValue, TX4, 11, rfl⟩
theorem kl_X4_155 : Cond.methodLink RX4 155 yX5_addThing ∈ GW := gw_of 554 (by decide +kernel) (by decide +kernel)
theorem kc_X5_addThing : Cond.code mX5_addThing.1 mX5_addThing.2.1 mX5_addThing.2.2.1 mX5_addThing.2.2.2 ∈ GW := gw_of 557 (by decide +kernel) (by decide +kernel)
theorem ki_X5_addThing : Cond.instanceMethod yX5_addThing ∈ GW := gw_of 555 (by decide +kernel) (by decide +kernel)
theorem ks_X5_addThing : Cond.selects RX5 yX5_addThing yX5_addThing ∈ GW := gw_of 556 (by decide +kernel) (by decide +kernel)
theorem cX4_155 : aCv RX4 155 5 mX5_addThing 4 := ⟨⟨kc_X5_addThing, kl_X4_155, kn_X5, ⟨by decide +kernel, by decide +kernel, by decide +kernel⟩, by decide⟩, ki_X5_addThing, ks_X5_addThing, TX5, 11, rfl⟩
theorem kl_X4_127 : Cond.methodLink RX4 127 yX4_readRule ∈ GW := gw_of 558 (by decide +kernel) (by decide +kernel)
theorem kc_X4_readRule : Cond.code mX4_readRule.1 mX4_readRule.2.1 mX4_readRule.2.2.1 mX4_readRule.2.2.2 ∈ GW := gw_of 561 (by decide +kernel) (by decide +kernel)
theorem ki_X4_readRule : Cond.instanceMethod yX4_readRule ∈ GW := gw_of 560 (by decide +kernel) (by decide +kernel)
theorem ks_X4_readRule : Cond.selects RX4 yX4_readRule yX4_readRule ∈ GW := gw_sl (q := (yX4_readRule, 11)) 16 (by decide +kernel) (by decide +kernel)
theorem cX4_127 : aCv RX4 127 4 mX4_readRule 1 := ⟨⟨kc_X4_readRule, kl_X4_127, kn_X4, ⟨by decide +kernel, by decide +kernel, by decide +kernel⟩, by decide⟩, ki_X4_readRule, ks_X4_readRule, TX4, 11, rfl⟩
theorem kl_X4_165 : Cond.methodLink RX4 165 yX4_readTest ∈ GW := gw_of 562 (by decide +kernel) (by decide +kernel)
theorem kc_X4_readTest : Cond.code mX4_readTest.1 mX4_readTest.2.1 mX4_readTest.2.2.1 mX4_readTest.2.2.2 ∈ GW := gw_of 565 (by decide +kernel) (by decide +kernel)
theorem ki_X4_readTest : Cond.instanceMethod yX4_readTest ∈ GW := gw_of 564 (by decide +kernel) (by decide +kernel)
theorem ks_X4_readTest : Cond.selects RX4 yX4_readTest yX4_readTest ∈ GW := gw_sl (q := (yX4_readTest, 11)) 17 (by decide +kernel) (by decide +kernel)
theorem cX4_165 : aCv RX4 165 4 mX4_readTest 1 := ⟨⟨kc_X4_readTest, kl_X4_165, kn_X4, ⟨by decide +kernel, by decide +kernel, by decide +kernel⟩, by decide⟩, ki_X4_readTest, ks_X4_readTest, TX4, 11, rfl⟩
theorem kl_X4_195 : Cond.methodLink RX4 195 yX4_readBoth ∈ GW := gw_of 566 (by decide +kernel) (by decide +kernel)
theorem kc_X4_readBoth : Cond.code mX4_readBoth.1 mX4_readBoth.2.1 mX4_readBoth.2.2.1 mX4_readBoth.2.2.2 ∈ GW := gw_of 569 (by decide +kernel) (by decide +kernel)
theorem ki_X4_readBoth : Cond.instanceMethod yX4_readBoth ∈ GW := gw_of 568 (by decide +kernel) (by decide +kernel)
theorem ks_X4_readBoth : Cond.selects RX4 yX4_readBoth yX4_readBoth ∈ GW := gw_sl (q := (yX4_readBoth, 11)) 18 (by decide +kernel) (by decide +kernel)
theorem cX4_195 : aCv RX4 195 4 mX4_readBoth 1 := ⟨⟨kc_X4_readBoth, kl_X4_195, kn_X4, ⟨by decide +kernel, by decide +kernel, by decide +kernel⟩, by decide⟩, ki_X4_readBoth, ks_X4_readBoth, TX4, 11, rfl⟩
theorem kl_X4_198 : Cond.methodLink RX4 198 yX4_readFact ∈ GW := gw_of 570 (by decide +kernel) (by decide +kernel)
theorem kc_X4_readFact : Cond.code mX4_readFact.1 mX4_readFact.2.1 mX4_readFact.2.2.1 mX4_readFact.2.2.2 ∈ GW := gw_of 573 (by decide +kernel) (by decide +kernel)
theorem ki_X4_readFact : Cond.instanceMethod yX4_readFact ∈ GW := gw_of 572 (by decide +kernel) (by decide +kernel)
theorem ks_X4_readFact : Cond.selects RX4 yX4_readFact yX4_readFact ∈ GW := gw_sl (q := (yX4_readFact, 11)) 19 (by decide +kernel) (by decide +kernel)
theorem cX4_198 : aCv RX4 198 4 mX4_readFact 1 := ⟨⟨kc_X4_readFact, kl_X4_198, kn_X4, ⟨by decide +kernel, by decide +kernel, by decide +kernel⟩, by decide⟩, ki_X4_readFact, ks_X4_readFact, TX4, 11, rfl⟩
theorem kl_X4_189 : Cond.methodLink RX4 189 yX4_takeOpener ∈ GW := gw_of 574 (by decide +kernel) (by decide +kernel)
theorem kc_X4_takeOpener : Cond.code mX4_takeOpener.1 mX4_takeOpener.2.1 mX4_takeOpener.2.2.1 mX4_takeOpener.2.2.2 ∈ GW := gw_of 577 (by decide +kernel) (by decide +kernel)
theorem ki_X4_takeOpener : Cond.instanceMethod yX4_takeOpener ∈ GW := gw_of 576 (by decide +kernel) (by decide +kernel)
theorem ks_X4_takeOpener : Cond.selects RX4 yX4_takeOpener yX4_takeOpener ∈ GW := gw_sl (q := (yX4_takeOpener, 11)) 20 (by decide +kernel) (by decide +kernel)
theorem cX4_189 : aCv RX4 189 4 mX4_takeOpener 1 := ⟨⟨kc_X4_takeOpener, kl_X4_189, kn_X4, ⟨by decide +kernel, by decide +kernel, by decide +kernel⟩, by decide⟩, ki_X4_takeOpener, ks_X4_takeOpener, TX4, 11, rfl⟩
theorem kl_X4_174 : Cond.methodLink RX4 174 yX5_addStep ∈ GW := gw_of 578 (by decide +kernel) (by decide +kernel)
theorem kc_X5_addStep : Cond.code mX5_addStep.1 mX5_addStep.2.1 mX5_addStep.2.2.1 mX5_addStep.2.2.2 ∈ GW := gw_of 581 (by decide +kernel) (by decide +kernel)
theorem ki_X5_addStep : Cond.instanceMethod yX5_addStep ∈ GW := gw_of 579 (by decide +kernel) (by decide +kernel)
theorem ks_X5_addStep : Cond.selects RX5 yX5_addStep yX5_addStep ∈ GW := gw_of 580 (by decide +kernel) (by decide +kernel)
theorem cX4_174 : aCv RX4 174 5 mX5_addStep 2 := ⟨⟨kc_X5_addStep, kl_X4_174, kn_X5, ⟨by decide +kernel, by decide +kernel, by decide +kernel⟩, by decide⟩, ki_X5_addStep, ks_X5_addStep, TX5, 11, rfl⟩
theorem kl_X4_105 : Cond.methodLink RX4 105 yX4_isSign ∈ GW := gw_of 582 (by decide +kernel) (by decide +kernel)
theorem kc_X4_isSign : Cond.code mX4_isSign.1 mX4_isSign.2.1 mX4_isSign.2.2.1 mX4_isSign.2.2.2 ∈ GW := gw_of 585 (by decide +kernel) (by decide +kernel)
theorem ki_X4_isSign : Cond.instanceMethod yX4_isSign ∈ GW := gw_of 584 (by decide +kernel) (by decide +kernel)
theorem ks_X4_isSign : Cond.selects RX4 yX4_isSign yX4_isSign ∈ GW := gw_sl (q := (yX4_isSign, 11)) 21 (by decide +kernel) (by decide +kernel)
theorem cX4_105 : aCv RX4 105 4 mX4_isSign 1 := ⟨⟨kc_X4_isSign, kl_X4_105, kn_X4, ⟨by decide +kernel, by decide +kernel, by decide +kernel⟩, by decide⟩, ki_X4_isSign, ks_X4_isSign, TX4, 11, rfl⟩
theorem kl_X4_136 : Cond.methodLink RX4 136 yX4_takeSign ∈ GW := gw_of 586 (by decide +kernel) (by decide +kernel)
theorem kc_X4_takeSign : Cond.code mX4_takeSign.1 mX4_takeSign.2.1 mX4_takeSign.2.2.1 mX4_takeSign.2.2.2 ∈ GW := gw_of 589 (by decide +kernel) (by decide +kernel)
theorem ki_X4_takeSign : Cond.instanceMethod yX4_takeSign ∈ GW := gw_of 588 (by decide +kernel) (by decide +kernel)
theorem ks_X4_takeSign : Cond.selects RX4 yX4_takeSign yX4_takeSign ∈ GW := gw_sl (q := (yX4_takeSign, 11)) 22 (by decide +kernel) (by decide +kernel)
theorem cX4_136 : aCv RX4 136 4 mX4_takeSign 1 := ⟨⟨kc_X4_takeSign, kl_X4_136, kn_X4, ⟨by decide +kernel, by decide +kernel, by decide +kernel⟩, by decide⟩, ki_X4_takeSign, ks_X4_takeSign, TX4, 11, rfl⟩
theorem kl_X4_201 : Cond.methodLink RX4 201 yX4_readComparison ∈ GW := gw_of 590 (by decide +kernel) (by decide +kernel)
theorem kc_X4_readComparison : Cond.code mX4_readComparison.1 mX4_readComparison.2.1 mX4_readComparison.2.2.1 mX4_readComparison.2.2.2 ∈ GW := gw_of 593 (by decide +kernel) (by decide +kernel)
theorem ki_X4_readComparison : Cond.instanceMethod yX4_readComparison ∈ GW := gw_of 592 (by decide +kernel) (by decide +kernel)
theorem ks_X4_readComparison : Cond.selects RX4 yX4_readComparison yX4_readComparison ∈ GW := gw_sl (q := (yX4_readComparison, 11)) 23 (by decide +kernel) (by decide +kernel)
theorem cX4_201 : aCv RX4 201 4 mX4_readComparison 1 := ⟨⟨kc_X4_readComparison, kl_X4_201, kn_X4, ⟨by decide +kernel, by decide +kernel, by decide +kernel⟩, by decide⟩, ki_X4_readComparison, ks_X4_readComparison, TX4, 11, rfl⟩
theorem kl_X4_168 : Cond.methodLink RX4 168 yX4_readSum ∈ GW := gw_of 594 (by decide +kernel) (by decide +kernel)
theorem kc_X4_readSum : Cond.code mX4_readSum.1 mX4_readSum.2.1 mX4_readSum.2.2.1 mX4_readSum.2.2.2 ∈ GW := gw_of 597 (by decide +kernel) (by decide +kernel)
theorem ki_X4_readSum : Cond.instanceMethod yX4_readSum ∈ GW := gw_of 596 (by decide +kernel) (by decide +kernel)
theorem ks_X4_readSum : Cond.selects RX4 yX4_readSum yX4_readSum ∈ GW := gw_sl (q := (yX4_readSum, 11)) 24 (by decide +kernel) (by decide +kernel)
theorem cX4_168 : aCv RX4 168 4 mX4_readSum 1 := ⟨⟨kc_X4_readSum, kl_X4_168, kn_X4, ⟨by decide +kernel, by decide +kernel, by decide +kernel⟩, by decide⟩, ki_X4_readSum, ks_X4_readSum, TX4, 11, rfl⟩
theorem kl_X4_171 : Cond.methodLink RX4 171 yX4_readProduct ∈ GW := gw_of 598 (by decide +kernel) (by decide +kernel)
theorem kc_X4_readProduct : Cond.code mX4_readProduct.1 mX4_readProduct.2.1 mX4_readProduct.2.2.1 mX4_readProduct.2.2.2 ∈ GW := gw_of 601 (by decide +kernel) (by decide +kernel)
theorem ki_X4_readProduct : Cond.instanceMethod yX4_readProduct ∈ GW := gw_of 600 (by decide +kernel) (by decide +kernel)
theorem ks_X4_readProduct : Cond.selects RX4 yX4_readProduct yX4_readProduct ∈ GW := gw_sl (q := (yX4_readProduct, 11)) 25 (by decide +kernel) (by decide +kernel)
theorem cX4_171 : aCv RX4 171 4 mX4_readProduct 1 := ⟨⟨kc_X4_readProduct, kl_X4_171, kn_X4, ⟨by decide +kernel, by decide +kernel, by decide +kernel⟩, by decide⟩, ki_X4_readProduct, ks_X4_readProduct, TX4, 11, rfl⟩
theorem kl_X4_177 : Cond.methodLink RX4 177 yX4_readPart ∈ GW := gw_of 602 (by decide +kernel) (by decide +kernel)
theorem kc_X4_readPart : Cond.code mX4_readPart.1 mX4_readPart.2.1 mX4_readPart.2.2.1 mX4_readPart.2.2.2 ∈ GW := gw_of 605 (by decide +kernel) (by decide +kernel)
theorem ki_X4_readPart : Cond.instanceMethod yX4_readPart ∈ GW := gw_of 604 (by decide +kernel) (by decide +kernel)
theorem ks_X4_readPart : Cond.selects RX4 yX4_readPart yX4_readPart ∈ GW := gw_sl (q := (yX4_readPart, 11)) 26 (by decide +kernel) (by decide +kernel)
theorem cX4_177 : aCv RX4 177 4 mX4_readPart 1 := ⟨⟨kc_X4_readPart, kl_X4_177, kn_X4, ⟨by decide +kernel, by decide +kernel, by decide +kernel⟩, by decide⟩, ki_X4_readPart, ks_X4_readPart, TX4, 11, rfl⟩
theorem kl_X4_180 : Cond.methodLink RX4 180 yX4_mayStand ∈ GW := gw_of 606 (by decide +kernel) (by decide +kernel)
theorem kc_X4_mayStand : Cond.code mX4_mayStand.1 mX4_mayStand.2.1 mX4_mayStand.2.2.1 mX4_mayStand.2.2.2 ∈ GW := gw_of 609 (by decide +kernel) (by decide +kernel)
theorem ki_X4_mayStand : Cond.instanceMethod yX4_mayStand ∈ GW := gw_of 608 (by decide +kernel) (by decide +kernel)
theorem ks_X4_mayStand : Cond.selects RX4 yX4_mayStand yX4_mayStand ∈ GW := gw_sl (q := (yX4_mayStand, 11)) 27 (by decide +kernel) (by decide +kernel)
theorem cX4_180 : aCv RX4 180 4 mX4_mayStand 1 := ⟨⟨kc_X4_mayStand, kl_X4_180, kn_X4, ⟨by decide +kernel, by decide +kernel, by decide +kernel⟩, by decide⟩, ki_X4_mayStand, ks_X4_mayStand, TX4, 11, rfl⟩
theorem kl_X4_183 : Cond.methodLink RX4 183 yX4_readLesserOrGreater ∈ GW := gw_of 610 (by decide +kernel) (by decide +kernel)
theorem kc_X4_readLesserOrGreater : Cond.code mX4_readLesserOrGreater.1 mX4_readLesserOrGreater.2.1 mX4_readLesserOrGreater.2.2.1 mX4_readLesserOrGreater.2.2.2 ∈ GW := gw_of 613 (by decide +kernel) (by decide +kernel)
theorem ki_X4_readLesserOrGreater : Cond.instanceMethod yX4_readLesserOrGreater ∈ GW := gw_of 612 (by decide +kernel) (by decide +kernel)
theorem ks_X4_readLesserOrGreater : Cond.selects RX4 yX4_readLesserOrGreater yX4_readLesserOrGreater ∈ GW := gw_sl (q := (yX4_readLesserOrGreater, 11)) 28 (by decide +kernel) (by decide +kernel)
theorem cX4_183 : aCv RX4 183 4 mX4_readLesserOrGreater 1 := ⟨⟨kc_X4_readLesserOrGreater, kl_X4_183, kn_X4, ⟨by decide +kernel, by decide +kernel, by decide +kernel⟩, by decide⟩, ki_X4_readLesserOrGreater, ks_X4_readLesserOrGreater, TX4, 11, rfl⟩
theorem kl_X4_192 : Cond.methodLink RX4 192 yX4_takeBracket ∈ GW := gw_of 614 (by decide +kernel) (by decide +kernel)
theorem kc_X4_takeBracket : Cond.code mX4_takeBracket.1 mX4_takeBracket.2.1 mX4_takeBracket.2.2.1 mX4_takeBracket.2.2.2 ∈ GW := gw_of 617 (by decide +kernel) (by decide +kernel)
theorem ki_X4_takeBracket : Cond.instanceMethod yX4_takeBracket ∈ GW := gw_of 616 (by decide +kernel) (by decide +kernel)
theorem ks_X4_takeBracket : Cond.selects RX4 yX4_takeBracket yX4_takeBracket ∈ GW := gw_sl (q := (yX4_takeBracket, 11)) 29 (by decide +kernel) (by decide +kernel)
theorem cX4_192 : aCv RX4 192 4 mX4_takeBracket 1 := ⟨⟨kc_X4_takeBracket, kl_X4_192, kn_X4, ⟨by decide +kernel, by decide +kernel, by decide +kernel⟩, by decide⟩, ki_X4_takeBracket, ks_X4_takeBracket, TX4, 11, rfl⟩
theorem kl_X4_186 : Cond.methodLink RX4 186 yX4_readChoice ∈ GW := gw_of 618 (by decide +kernel) (by decide +kernel)
theorem kc_X4_readChoice : Cond.code mX4_readChoice.1 mX4_readChoice.2.1 mX4_readChoice.2.2.1 mX4_readChoice.2.2.2 ∈ GW := gw_of 621 (by decide +kernel) (by decide +kernel)
theorem ki_X4_readChoice : Cond.instanceMethod yX4_readChoice ∈ GW := gw_of 620 (by decide +kernel) (by decide +kernel)
theorem ks_X4_readChoice : Cond.selects RX4 yX4_readChoice yX4_readChoice ∈ GW := gw_sl (q := (yX4_readChoice, 11)) 30 (by decide +kernel) (by decide +kernel)
theorem cX4_186 : aCv RX4 186 4 mX4_readChoice 1 := ⟨⟨kc_X4_readChoice, kl_X4_186, kn_X4, ⟨by decide +kernel, by decide +kernel, by decide +kernel⟩, by decide⟩, ki_X4_readChoice, ks_X4_readChoice, TX4, 11, rfl⟩
theorem kl_X4_130 : Cond.methodLink RX4 130 yX4_endStatement ∈ GW := gw_of 622 (by decide +kernel) (by decide +kernel)
theorem kc_X4_endStatement : Cond.code mX4_endStatement.1 mX4_endStatement.2.1 mX4_endStatement.2.2.1 mX4_endStatement.2.2.2 ∈ GW := gw_of 625 (by decide +kernel) (by decide +kernel)
theorem ki_X4_endStatement : Cond.instanceMethod yX4_endStatement ∈ GW := gw_of 624 (by decide +kernel) (by decide +kernel)
theorem ks_X4_endStatement : Cond.selects RX4 yX4_endStatement yX4_endStatement ∈ GW := gw_sl (q := (yX4_endStatement, 11)) 31 (by decide +kernel) (by decide +kernel)
theorem cX4_130 : aCv RX4 130 4 mX4_endStatement 0 := ⟨⟨kc_X4_endStatement, kl_X4_130, kn_X4, ⟨by decide +kernel, by decide +kernel, by decide +kernel⟩, by decide⟩, ki_X4_endStatement, ks_X4_endStatement, TX4, 11, rfl⟩
theorem kl_X9_129 : Cond.methodLink RX9 129 yX8_begin ∈ GW := gw_of 626 (by decide +kernel) (by decide +kernel)
theorem kc_X8_begin : Cond.code mX8_begin.1 mX8_begin.2.1 mX8_begin.2.2.1 mX8_begin.2.2.2 ∈ GW := gw_of 629 (by decide +kernel) (by decide +kernel)
theorem kn_X8 : Cond.initialized RX8 ∈ GW := gw_of 4 (by decide +kernel) (by decide +kernel)
theorem ki_X8_begin : Cond.instanceMethod yX8_begin ∈ GW := gw_of 627 (by decide +kernel) (by decide +kernel)
theorem ks_X8_begin : Cond.selects RX8 yX8_begin yX8_begin ∈ GW := gw_of 628 (by decide +kernel) (by decide +kernel)
theorem cX9_129 : aCv RX9 129 8 mX8_begin 1 := ⟨⟨kc_X8_begin, kl_X9_129, kn_X8, ⟨by decide +kernel, by decide +kernel, by decide +kernel⟩, by decide⟩, ki_X8_begin, ks_X8_begin, TX8, 6, rfl⟩
theorem kl_X8_34 : Cond.methodLink RX8 34 yX5_zincTold ∈ GW := gw_of 630 (by decide +kernel) (by decide +kernel)
theorem kc_X5_zincTold : Cond.code mX5_zincTold.1 mX5_zincTold.2.1 mX5_zincTold.2.2.1 mX5_zincTold.2.2.2 ∈ GW := gw_of 633 (by decide +kernel) (by decide +kernel)
theorem ki_X5_zincTold : Cond.instanceMethod yX5_zincTold ∈ GW := gw_of 631 (by decide +kernel) (by decide +kernel)
theorem ks_X5_zincTold : Cond.selects RX5 yX5_zincTold yX5_zincTold ∈ GW := gw_of 632 (by decide +kernel) (by decide +kernel)
theorem cX8_34 : aCv RX8 34 5 mX5_zincTold 1 := ⟨⟨kc_X5_zincTold, kl_X8_34, kn_X5, ⟨by decide +kernel, by decide +kernel, by decide +kernel⟩, by decide⟩, ki_X5_zincTold, ks_X5_zincTold, TX5, 11, rfl⟩
theorem kl_X8_38 : Cond.methodLink RX8 38 yX5_deepTold ∈ GW := gw_of 634 (by decide +kernel) (by decide +kernel)
theorem kc_X5_deepTold : Cond.code mX5_deepTold.1 mX5_deepTold.2.1 mX5_deepTold.2.2.1 mX5_deepTold.2.2.2 ∈ GW := gw_of 637 (by decide +kernel) (by decide +kernel)
theorem ki_X5_deepTold : Cond.instanceMethod yX5_deepTold ∈ GW := gw_of 635 (by decide +kernel) (by decide +kernel)
theorem ks_X5_deepTold : Cond.selects RX5 yX5_deepTold yX5_deepTold ∈ GW := gw_of 636 (by decide +kernel) (by decide +kernel)
theorem cX8_38 : aCv RX8 38 5 mX5_deepTold 1 := ⟨⟨kc_X5_deepTold, kl_X8_38, kn_X5, ⟨by decide +kernel, by decide +kernel, by decide +kernel⟩, by decide⟩, ki_X5_deepTold, ks_X5_deepTold, TX5, 11, rfl⟩
theorem kl_X9_132 : Cond.methodLink RX9 132 yX0_forget ∈ GW := gw_of 638 (by decide +kernel) (by decide +kernel)
theorem kc_X0_forget : Cond.code mX0_forget.1 mX0_forget.2.1 mX0_forget.2.2.1 mX0_forget.2.2.2 ∈ GW := gw_of 641 (by decide +kernel) (by decide +kernel)
theorem kn_X0 : Cond.initialized RX0 ∈ GW := gw_of 6 (by decide +kernel) (by decide +kernel)
theorem ki_X0_forget : Cond.instanceMethod yX0_forget ∈ GW := gw_of 639 (by decide +kernel) (by decide +kernel)
theorem ks_X0_forget : Cond.selects RX0 yX0_forget yX0_forget ∈ GW := gw_of 640 (by decide +kernel) (by decide +kernel)
theorem cX9_132 : aCv RX9 132 0 mX0_forget 0 := ⟨⟨kc_X0_forget, kl_X9_132, kn_X0, ⟨by decide +kernel, by decide +kernel, by decide +kernel⟩, by decide⟩, ki_X0_forget, ks_X0_forget, TX0, 3, rfl⟩
theorem kl_X9_138 : Cond.methodLink RX9 138 yX9_forgetAnswers ∈ GW := gw_of 642 (by decide +kernel) (by decide +kernel)
theorem kc_X9_forgetAnswers : Cond.code mX9_forgetAnswers.1 mX9_forgetAnswers.2.1 mX9_forgetAnswers.2.2.1 mX9_forgetAnswers.2.2.2 ∈ GW := gw_of 645 (by decide +kernel) (by decide +kernel)
theorem ki_X9_forgetAnswers : Cond.instanceMethod yX9_forgetAnswers ∈ GW := gw_of 644 (by decide +kernel) (by decide +kernel)
theorem ks_X9_forgetAnswers : Cond.selects RX9 yX9_forgetAnswers yX9_forgetAnswers ∈ GW := gw_sl (q := (yX9_forgetAnswers, 17)) 32 (by decide +kernel) (by decide +kernel)
theorem cX9_138 : aCv RX9 138 9 mX9_forgetAnswers 0 := ⟨⟨kc_X9_forgetAnswers, kl_X9_138, kn_X9, ⟨by decide +kernel, by decide +kernel, by decide +kernel⟩, by decide⟩, ki_X9_forgetAnswers, ks_X9_forgetAnswers, TX9, 17, rfl⟩
theorem kl_X9_153 : Cond.methodLink RX9 153 yX8_stainsLeft ∈ GW := gw_of 654 (by decide +kernel) (by decide +kernel)
theorem kc_X8_stainsLeft : Cond.code mX8_stainsLeft.1 mX8_stainsLeft.2.1 mX8_stainsLeft.2.2.1 mX8_stainsLeft.2.2.2 ∈ GW := gw_of 657 (by decide +kernel) (by decide +kernel)
theorem ki_X8_stainsLeft : Cond.instanceMethod yX8_stainsLeft ∈ GW := gw_of 655 (by decide +kernel) (by decide +kernel)
theorem ks_X8_stainsLeft : Cond.selects RX8 yX8_stainsLeft yX8_stainsLeft ∈ GW := gw_of 656 (by decide +kernel) (by decide +kernel)
theorem cX9_153 : aCv RX9 153 8 mX8_stainsLeft 0 := ⟨⟨kc_X8_stainsLeft, kl_X9_153, kn_X8, ⟨by decide +kernel, by decide +kernel, by decide +kernel⟩, by decide⟩, ki_X8_stainsLeft, ks_X8_stainsLeft, TX8, 6, rfl⟩
theorem kl_X9_157 : Cond.methodLink RX9 157 yX9_bareBoards ∈ GW := gw_of 658 (by decide +kernel) (by decide +kernel)
