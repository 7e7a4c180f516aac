theorem cX10_465 : aCs RX10 465 mX10_bits 1 := ⟨⟨kc_X10_bits, kl_X10_465, kn_X10, ⟨by decide +kernel, by decide +kernel, by decide +kernel⟩, by decide⟩, kt_X10_bits⟩
set_option maxRecDepth 20000 in
theorem kl_X10_470 : Cond.methodLink RX10 470 yX10_isBoard ∈ GW := gw6 235 rfl (by decide +kernel)
set_option maxRecDepth 20000 in
theorem kc_X10_isBoard : Cond.code mX10_isBoard.1 mX10_isBoard.2.1 mX10_isBoard.2.2.1 mX10_isBoard.2.2.2 ∈ GW := gw6 238 rfl (by decide +kernel)
set_option maxRecDepth 20000 in
theorem ki_X10_isBoard : Cond.instanceMethod yX10_isBoard ∈ GW := gw6 237 rfl (by decide +kernel)
set_option maxRecDepth 20000 in
theorem ks_X10_isBoard : Cond.selects RX10 yX10_isBoard yX10_isBoard ∈ GW := gw_sl (q := (yX10_isBoard, 69)) 89 (by decide +kernel) (by decide +kernel)
theorem cX10_470 : aCv RX10 470 10 mX10_isBoard 1 := ⟨⟨kc_X10_isBoard, kl_X10_470, kn_X10, ⟨by decide +kernel, by decide +kernel, by decide +kernel⟩, by decide⟩, ki_X10_isBoard, ks_X10_isBoard, TX10, 69, rfl⟩
set_option maxRecDepth 20000 in
theorem kl_X10_473 : Cond.methodLink RX10 473 yX10_isStain ∈ GW := gw7 3 rfl (by decide +kernel)
set_option maxRecDepth 20000 in
theorem kc_X10_isStain : Cond.code mX10_isStain.1 mX10_isStain.2.1 mX10_isStain.2.2.1 mX10_isStain.2.2.2 ∈ GW := gw7 6 rfl (by decide +kernel)
set_option maxRecDepth 20000 in
theorem ki_X10_isStain : Cond.instanceMethod yX10_isStain ∈ GW := gw7 5 rfl (by decide +kernel)
set_option maxRecDepth 20000 in
theorem ks_X10_isStain : Cond.selects RX10 yX10_isStain yX10_isStain ∈ GW := gw_sl (q := (yX10_isStain, 69)) 90 (by decide +kernel) (by decide +kernel)
theorem cX10_473 : aCv RX10 473 10 mX10_isStain 1 := ⟨⟨kc_X10_isStain, kl_X10_473, kn_X10, ⟨by decide +kernel, by decide +kernel, by decide +kernel⟩, by decide⟩, ki_X10_isStain, ks_X10_isStain, TX10, 69, rfl⟩
set_option maxRecDepth 20000 in
theorem kl_X10_445 : Cond.methodLink RX10 445 yX10_has2 ∈ GW := gw7 11 rfl (by decide +kernel)
set_option maxRecDepth 20000 in
theorem kc_X10_has2 : Cond.code mX10_has2.1 mX10_has2.2.1 mX10_has2.2.2.1 mX10_has2.2.2.2 ∈ GW := gw7 13 rfl (by decide +kernel)
set_option maxRecDepth 20000 in
theorem kt_X10_has2 : Cond.static yX10_has2 ∈ GW := gw7 12 rfl (by decide +kernel)
theorem cX10_445 : aCs RX10 445 mX10_has2 2 := ⟨⟨kc_X10_has2, kl_X10_445, kn_X10, ⟨by decide +kernel, by decide +kernel, by decide +kernel⟩, by decide⟩, kt_X10_has2⟩
set_option maxRecDepth 20000 in
theorem kl_X10_441 : Cond.methodLink RX10 441 yX10_rubs ∈ GW := gw7 18 rfl (by decide +kernel)
set_option maxRecDepth 20000 in
theorem kc_X10_rubs : Cond.code mX10_rubs.1 mX10_rubs.2.1 mX10_rubs.2.2.1 mX10_rubs.2.2.2 ∈ GW := gw7 21 rfl (by decide +kernel)
set_option maxRecDepth 20000 in
theorem ki_X10_rubs : Cond.instanceMethod yX10_rubs ∈ GW := gw7 20 rfl (by decide +kernel)
set_option maxRecDepth 20000 in
theorem ks_X10_rubs : Cond.selects RX10 yX10_rubs yX10_rubs ∈ GW := gw_sl (q := (yX10_rubs, 69)) 91 (by decide +kernel) (by decide +kernel)
theorem cX10_441 : aCv RX10 441 10 mX10_rubs 4 := ⟨⟨kc_X10_rubs, kl_X10_441, kn_X10, ⟨by decide +kernel, by decide +kernel, by decide +kernel⟩, by decide⟩, ki_X10_rubs, ks_X10_rubs, TX10, 69, rfl⟩
set_option maxRecDepth 20000 in
theorem kl_X10_437 : Cond.methodLink RX10 437 yX10_strikes ∈ GW := gw7 22 rfl (by decide +kernel)
set_option maxRecDepth 20000 in
theorem kc_X10_strikes : Cond.code mX10_strikes.1 mX10_strikes.2.1 mX10_strikes.2.2.1 mX10_strikes.2.2.2 ∈ GW := gw7 25 rfl (by decide +kernel)
set_option maxRecDepth 20000 in
theorem ki_X10_strikes : Cond.instanceMethod yX10_strikes ∈ GW := gw7 24 rfl (by decide +kernel)
set_option maxRecDepth 20000 in
theorem ks_X10_strikes : Cond.selects RX10 yX10_strikes yX10_strikes ∈ GW := gw_sl (q := (yX10_strikes, 69)) 92 (by decide +kernel) (by decide +kernel)
theorem cX10_437 : aCv RX10 437 10 mX10_strikes 4 := ⟨⟨kc_X10_strikes, kl_X10_437, kn_X10, ⟨by decide +kernel, by decide +kernel, by decide +kernel⟩, by decide⟩, ki_X10_strikes, ks_X10_strikes, TX10, 69, rfl⟩
set_option maxRecDepth 20000 in
theorem kl_X10_424 : Cond.methodLink RX10 424 yX10_lays ∈ GW := gw7 26 rfl (by decide +kernel)
set_option maxRecDepth 20000 in
theorem kc_X10_lays : Cond.code mX10_lays.1 mX10_lays.2.1 mX10_lays.2.2.1 mX10_lays.2.2.2 ∈ GW := gw7 29 rfl (by decide +kernel)
set_option maxRecDepth 20000 in
theorem ki_X10_lays : Cond.instanceMethod yX10_lays ∈ GW := gw7 28 rfl (by decide +kernel)
set_option maxRecDepth 20000 in
theorem ks_X10_lays : Cond.selects RX10 yX10_lays yX10_lays ∈ GW := gw_sl (q := (yX10_lays, 69)) 93 (by decide +kernel) (by decide +kernel)
theorem cX10_424 : aCv RX10 424 10 mX10_lays 3 := ⟨⟨kc_X10_lays, kl_X10_424, kn_X10, ⟨by decide +kernel, by decide +kernel, by decide +kernel⟩, by decide⟩, ki_X10_lays, ks_X10_lays, TX10, 69, rfl⟩
set_option maxRecDepth 20000 in
theorem kl_X10_428 : Cond.methodLink RX10 428 yX10_isTold ∈ GW := gw7 30 rfl (by decide +kernel)
set_option maxRecDepth 20000 in
theorem kc_X10_isTold : Cond.code mX10_isTold.1 mX10_isTold.2.1 mX10_isTold.2.2.1 mX10_isTold.2.2.2 ∈ GW := gw7 33 rfl (by decide +kernel)
set_option maxRecDepth 20000 in
theorem ki_X10_isTold : Cond.instanceMethod yX10_isTold ∈ GW := gw7 32 rfl (by decide +kernel)
set_option maxRecDepth 20000 in
theorem ks_X10_isTold : Cond.selects RX10 yX10_isTold yX10_isTold ∈ GW := gw_sl (q := (yX10_isTold, 69)) 94 (by decide +kernel) (by decide +kernel)
theorem cX10_428 : aCv RX10 428 10 mX10_isTold 1 := ⟨⟨kc_X10_isTold, kl_X10_428, kn_X10, ⟨by decide +kernel, by decide +kernel, by decide +kernel⟩, by decide⟩, ki_X10_isTold, ks_X10_isTold, TX10, 69, rfl⟩
set_option maxRecDepth 20000 in
theorem kl_X10_431 : Cond.methodLink RX10 431 yX10_reckons ∈ GW := gw7 34 rfl (by decide +kernel)
set_option maxRecDepth 20000 in
theorem kc_X10_reckons : Cond.code mX10_reckons.1 mX10_reckons.2.1 mX10_reckons.2.2.1 mX10_reckons.2.2.2 ∈ GW := gw7 37 rfl (by decide +kernel)
set_option maxRecDepth 20000 in
theorem ki_X10_reckons : Cond.instanceMethod yX10_reckons ∈ GW := gw7 36 rfl (by decide +kernel)
set_option maxRecDepth 20000 in
theorem ks_X10_reckons : Cond.selects RX10 yX10_reckons yX10_reckons ∈ GW := gw_sl (q := (yX10_reckons, 69)) 95 (by decide +kernel) (by decide +kernel)
theorem cX10_431 : aCv RX10 431 10 mX10_reckons 1 := ⟨⟨kc_X10_reckons, kl_X10_431, kn_X10, ⟨by decide +kernel, by decide +kernel, by decide +kernel⟩, by decide⟩, ki_X10_reckons, ks_X10_reckons, TX10, 69, rfl⟩
set_option maxRecDepth 20000 in
theorem kl_X10_420 : Cond.methodLink RX10 420 yX10_two ∈ GW := gw7 38 rfl (by decide +kernel)
set_option maxRecDepth 20000 in
theorem kc_X10_two : Cond.code mX10_two.1 mX10_two.2.1 mX10_two.2.2.1 mX10_two.2.2.2 ∈ GW := gw7 40 rfl (by decide +kernel)
set_option maxRecDepth 20000 in
theorem kt_X10_two : Cond.static yX10_two ∈ GW := gw7 39 rfl (by decide +kernel)
theorem cX10_420 : aCs RX10 420 mX10_two 3 := ⟨⟨kc_X10_two, kl_X10_420, kn_X10, ⟨by decide +kernel, by decide +kernel, by decide +kernel⟩, by decide⟩, kt_X10_two⟩
set_option maxRecDepth 20000 in
theorem kl_X10_412 : Cond.methodLink RX10 412 yX10_within ∈ GW := gw7 41 rfl (by decide +kernel)
set_option maxRecDepth 20000 in
theorem kc_X10_within : Cond.code mX10_within.1 mX10_within.2.1 mX10_within.2.2.1 mX10_within.2.2.2 ∈ GW := gw7 43 rfl (by decide +kernel)
set_option maxRecDepth 20000 in
theorem kt_X10_within : Cond.static yX10_within ∈ GW := gw7 42 rfl (by decide +kernel)
theorem cX10_412 : aCs RX10 412 mX10_within 1 := ⟨⟨kc_X10_within, kl_X10_412, kn_X10, ⟨by decide +kernel, by decide +kernel, by decide +kernel⟩, by decide⟩, kt_X10_within⟩
set_option maxRecDepth 20000 in
theorem kl_X10_416 : Cond.methodLink RX10 416 yX10_floor ∈ GW := gw7 46 rfl (by decide +kernel)
set_option maxRecDepth 20000 in
theorem kc_X10_floor : Cond.code mX10_floor.1 mX10_floor.2.1 mX10_floor.2.2.1 mX10_floor.2.2.2 ∈ GW := gw7 48 rfl (by decide +kernel)
set_option maxRecDepth 20000 in
theorem kt_X10_floor : Cond.static yX10_floor ∈ GW := gw7 47 rfl (by decide +kernel)
theorem cX10_416 : aCs RX10 416 mX10_floor 2 := ⟨⟨kc_X10_floor, kl_X10_416, kn_X10, ⟨by decide +kernel, by decide +kernel, by decide +kernel⟩, by decide⟩, kt_X10_floor⟩
set_option maxRecDepth 20000 in
theorem kl_X10_479 : Cond.methodLink RX10 479 yX10_needs ∈ GW := gw7 54 rfl (by decide +kernel)
set_option maxRecDepth 20000 in
theorem kc_X10_needs : Cond.code mX10_needs.1 mX10_needs.2.1 mX10_needs.2.2.1 mX10_needs.2.2.2 ∈ GW := gw7 57 rfl (by decide +kernel)
set_option maxRecDepth 20000 in
theorem ki_X10_needs : Cond.instanceMethod yX10_needs ∈ GW := gw7 56 rfl (by decide +kernel)
set_option maxRecDepth 20000 in
theorem ks_X10_needs : Cond.selects RX10 yX10_needs yX10_needs ∈ GW := gw_sl (q := (yX10_needs, 69)) 96 (by decide +kernel) (by decide +kernel)
theorem cX10_479 : aCv RX10 479 10 mX10_needs 2 := ⟨⟨kc_X10_needs, kl_X10_479, kn_X10, ⟨by decide +kernel, by decide +kernel, by decide +kernel⟩, by decide⟩, ki_X10_needs, ks_X10_needs, TX10, 69, rfl⟩
set_option maxRecDepth 20000 in
theorem kl_X10_476 : Cond.methodLink RX10 476 yX10_brings ∈ GW := gw7 58 rfl (by decide +kernel)
set_option maxRecDepth 20000 in
theorem kc_X10_brings : Cond.code mX10_brings.1 mX10_brings.2.1 mX10_brings.2.2.1 mX10_brings.2.2.2 ∈ GW := gw7 61 rfl (by decide +kernel)
set_option maxRecDepth 20000 in
theorem ki_X10_brings : Cond.instanceMethod yX10_brings ∈ GW := gw7 60 rfl (by decide +kernel)
set_option maxRecDepth 20000 in
theorem ks_X10_brings : Cond.selects RX10 yX10_brings yX10_brings ∈ GW := gw_sl (q := (yX10_brings, 69)) 97 (by decide +kernel) (by decide +kernel)
theorem cX10_476 : aCv RX10 476 10 mX10_brings 2 := ⟨⟨kc_X10_brings, kl_X10_476, kn_X10, ⟨by decide +kernel, by decide +kernel, by decide +kernel⟩, by decide⟩, ki_X10_brings, ks_X10_brings, TX10, 69, rfl⟩
set_option maxRecDepth 20000 in
theorem kl_X10_492 : Cond.methodLink RX10 492 yX10_findsLefts ∈ GW := gw7 71 rfl (by decide +kernel)
set_option maxRecDepth 20000 in
theorem kc_X10_findsLefts : Cond.code mX10_findsLefts.1 mX10_findsLefts.2.1 mX10_findsLefts.2.2.1 mX10_findsLefts.2.2.2 ∈ GW := gw7 74 rfl (by decide +kernel)
set_option maxRecDepth 20000 in
theorem ki_X10_findsLefts : Cond.instanceMethod yX10_findsLefts ∈ GW := gw7 73 rfl (by decide +kernel)
set_option maxRecDepth 20000 in
theorem ks_X10_findsLefts : Cond.selects RX10 yX10_findsLefts yX10_findsLefts ∈ GW := gw_sl (q := (yX10_findsLefts, 69)) 98 (by decide +kernel) (by decide +kernel)
theorem cX10_492 : aCv RX10 492 10 mX10_findsLefts 0 := ⟨⟨kc_X10_findsLefts, kl_X10_492, kn_X10, ⟨by decide +kernel, by decide +kernel, by decide +kernel⟩, by decide⟩, ki_X10_findsLefts, ks_X10_findsLefts, TX10, 69, rfl⟩
set_option maxRecDepth 20000 in
theorem kl_X10_496 : Cond.methodLink RX10 496 yX10_matches ∈ GW := gw7 75 rfl (by decide +kernel)
set_option maxRecDepth 20000 in
theorem kc_X10_matches : Cond.code mX10_matches.1 mX10_matches.2.1 mX10_matches.2.2.1 mX10_matches.2.2.2 ∈ GW := gw7 78 rfl (by decide +kernel)
set_option maxRecDepth 20000 in
theorem ki_X10_matches : Cond.instanceMethod yX10_matches ∈ GW := gw7 77 rfl (by decide +kernel)
set_option maxRecDepth 20000 in
theorem ks_X10_matches : Cond.selects RX10 yX10_matches yX10_matches ∈ GW := gw_sl (q := (yX10_matches, 69)) 99 (by decide +kernel) (by decide +kernel)
theorem cX10_496 : aCv RX10 496 10 mX10_matches 1 := ⟨⟨kc_X10_matches, kl_X10_496, kn_X10, ⟨by decide +kernel, by decide +kernel, by decide +kernel⟩, by decide⟩, ki_X10_matches, ks_X10_matches, TX10, 69, rfl⟩
set_option maxRecDepth 20000 in
theorem kl_X10_486 : Cond.methodLink RX10 486 yX10_isFirstRow ∈ GW := gw7 79 rfl (by decide +kernel)
set_option maxRecDepth 20000 in
theorem kc_X10_isFirstRow : Cond.code mX10_isFirstRow.1 mX10_isFirstRow.2.1 mX10_isFirstRow.2.2.1 mX10_isFirstRow.2.2.2 ∈ GW := gw7 82 rfl (by decide +kernel)
set_option maxRecDepth 20000 in
theorem ki_X10_isFirstRow : Cond.instanceMethod yX10_isFirstRow ∈ GW := gw7 81 rfl (by decide +kernel)
set_option maxRecDepth 20000 in
theorem ks_X10_isFirstRow : Cond.selects RX10 yX10_isFirstRow yX10_isFirstRow ∈ GW := gw_sl (q := (yX10_isFirstRow, 69)) 100 (by decide +kernel) (by decide +kernel)
theorem cX10_486 : aCv RX10 486 10 mX10_isFirstRow 2 := ⟨⟨kc_X10_isFirstRow, kl_X10_486, kn_X10, ⟨by decide +kernel, by decide +kernel, by decide +kernel⟩, by decide⟩, ki_X10_isFirstRow, ks_X10_isFirstRow, TX10, 69, rfl⟩
set_option maxRecDepth 20000 in
theorem kl_X10_489 : Cond.methodLink RX10 489 yX10_isNextRow ∈ GW := gw7 83 rfl (by decide +kernel)
set_option maxRecDepth 20000 in
theorem kc_X10_isNextRow : Cond.code mX10_isNextRow.1 mX10_isNextRow.2.1 mX10_isNextRow.2.2.1 mX10_isNextRow.2.2.2 ∈ GW := gw7 86 rfl (by decide +kernel)
set_option maxRecDepth 20000 in
theorem ki_X10_isNextRow : Cond.instanceMethod yX10_isNextRow ∈ GW := gw7 85 rfl (by decide +kernel)
set_option maxRecDepth 20000 in
theorem ks_X10_isNextRow : Cond.selects RX10 yX10_isNextRow yX10_isNextRow ∈ GW := gw_sl (q := (yX10_isNextRow, 69)) 101 (by decide +kernel) (by decide +kernel)
theorem cX10_489 : aCv RX10 489 10 mX10_isNextRow 2 := ⟨⟨kc_X10_isNextRow, kl_X10_489, kn_X10, ⟨by decide +kernel, by decide +kernel, by decide +kernel⟩, by decide⟩, ki_X10_isNextRow, ks_X10_isNextRow, TX10, 69, rfl⟩
set_option maxRecDepth 20000 in
theorem kl_X10_483 : Cond.methodLink RX10 483 yX10_isIn ∈ GW := gw7 87 rfl (by decide +kernel)
set_option maxRecDepth 20000 in
theorem kc_X10_isIn : Cond.code mX10_isIn.1 mX10_isIn.2.1 mX10_isIn.2.2.1 mX10_isIn.2.2.2 ∈ GW := gw7 90 rfl (by decide +kernel)
set_option maxRecDepth 20000 in
theorem ki_X10_isIn : Cond.instanceMethod yX10_isIn ∈ GW := gw7 89 rfl (by decide +kernel)
set_option maxRecDepth 20000 in
theorem ks_X10_isIn : Cond.selects RX10 yX10_isIn yX10_isIn ∈ GW := gw_sl (q := (yX10_isIn, 69)) 102 (by decide +kernel) (by decide +kernel)
theorem cX10_483 : aCv RX10 483 10 mX10_isIn 1 := ⟨⟨kc_X10_isIn, kl_X10_483, kn_X10, ⟨by decide +kernel, by decide +kernel, by decide +kernel⟩, by decide⟩, ki_X10_isIn, ks_X10_isIn, TX10, 69, rfl⟩
set_option maxRecDepth 20000 in
theorem kl_X10_499 : Cond.methodLink RX10 499 yX10_headStrokes ∈ GW := gw7 95 rfl (by decide +kernel)
set_option maxRecDepth 20000 in
theorem kc_X10_headStrokes : Cond.code mX10_headStrokes.1 mX10_headStrokes.2.1 mX10_headStrokes.2.2.1 mX10_headStrokes.2.2.2 ∈ GW := gw7 98 rfl (by decide +kernel)
set_option maxRecDepth 20000 in
theorem ki_X10_headStrokes : Cond.instanceMethod yX10_headStrokes ∈ GW := gw7 97 rfl (by decide +kernel)
set_option maxRecDepth 20000 in
theorem ks_X10_headStrokes : Cond.selects RX10 yX10_headStrokes yX10_headStrokes ∈ GW := gw_sl (q := (yX10_headStrokes, 69)) 103 (by decide +kernel) (by decide +kernel)
theorem cX10_499 : aCv RX10 499 10 mX10_headStrokes 2 := ⟨⟨kc_X10_headStrokes, kl_X10_499, kn_X10, ⟨by decide +kernel, by decide +kernel, by decide +kernel⟩, by decide⟩, ki_X10_headStrokes, ks_X10_headStrokes, TX10, 69, rfl⟩
set_option maxRecDepth 20000 in
theorem kl_X10_506 : Cond.methodLink RX10 506 yX10_isAhead ∈ GW := gw7 103 rfl (by decide +kernel)
set_option maxRecDepth 20000 in
theorem kc_X10_isAhead : Cond.code mX10_isAhead.1 mX10_isAhead.2.1 mX10_isAhead.2.2.1 mX10_isAhead.2.2.2 ∈ GW := gw7 106 rfl (by decide +kernel)
set_option maxRecDepth 20000 in
theorem ki_X10_isAhead : Cond.instanceMethod yX10_isAhead ∈ GW := gw7 105 rfl (by decide +kernel)
set_option maxRecDepth 20000 in
theorem ks_X10_isAhead : Cond.selects RX10 yX10_isAhead yX10_isAhead ∈ GW := gw_sl (q := (yX10_isAhead, 69)) 104 (by decide +kernel) (by decide +kernel)
theorem cX10_506 : aCv RX10 506 10 mX10_isAhead 3 := ⟨⟨kc_X10_isAhead, kl_X10_506, kn_X10, ⟨by decide +kernel, by decide +kernel, by decide +kernel⟩, by decide⟩, ki_X10_isAhead, ks_X10_isAhead, TX10, 69, rfl⟩
set_option maxRecDepth 20000 in
theorem kl_X10_509 : Cond.methodLink RX10 509 yX10_tries ∈ GW := gw7 107 rfl (by decide +kernel)
set_option maxRecDepth 20000 in
theorem kc_X10_tries : Cond.code mX10_tries.1 mX10_tries.2.1 mX10_tries.2.2.1 mX10_tries.2.2.2 ∈ GW := gw7 110 rfl (by decide +kernel)
set_option maxRecDepth 20000 in
theorem ki_X10_tries : Cond.instanceMethod yX10_tries ∈ GW := gw7 109 rfl (by decide +kernel)
set_option maxRecDepth 20000 in
theorem ks_X10_tries : Cond.selects RX10 yX10_tries yX10_tries ∈ GW := gw_sl (q := (yX10_tries, 69)) 105 (by decide +kernel) (by decide +kernel)
theorem cX10_509 : aCv RX10 509 10 mX10_tries 1 := ⟨⟨kc_X10_tries, kl_X10_509, kn_X10, ⟨by decide +kernel, by decide +kernel, by decide +kernel⟩, by decide⟩, ki_X10_tries, ks_X10_tries, TX10, 69, rfl⟩
set_option maxRecDepth 20000 in
theorem kl_X10_502 : Cond.methodLink RX10 502 yX10_passes ∈ GW := gw7 111 rfl (by decide +kernel)
set_option maxRecDepth 20000 in
theorem kc_X10_passes : Cond.code mX10_passes.1 mX10_passes.2.1 mX10_passes.2.2.1 mX10_passes.2.2.2 ∈ GW := gw7 114 rfl (by decide +kernel)
set_option maxRecDepth 20000 in
theorem ki_X10_passes : Cond.instanceMethod yX10_passes ∈ GW := gw7 113 rfl (by decide +kernel)
set_option maxRecDepth 20000 in
theorem ks_X10_passes : Cond.selects RX10 yX10_passes yX10_passes ∈ GW := gw_sl (q := (yX10_passes, 69)) 106 (by decide +kernel) (by decide +kernel)
theorem cX10_502 : aCv RX10 502 10 mX10_passes 2 := ⟨⟨kc_X10_passes, kl_X10_502, kn_X10, ⟨by decide +kernel, by decide +kernel, by decide +kernel⟩, by decide⟩, ki_X10_passes, ks_X10_passes, TX10, 69, rfl⟩
set_option maxRecDepth 20000 in
theorem kl_X10_456 : Cond.methodLink RX10 456 yX10_deepest ∈ GW := gw7 115 rfl (by decide +kernel)
set_option maxRecDepth 20000 in
theorem kc_X10_deepest : Cond.code mX10_deepest.1 mX10_deepest.2.1 mX10_deepest.2.2.1 mX10_deepest.2.2.2 ∈ GW := gw7 118 rfl (by decide +kernel)
set_option maxRecDepth 20000 in
theorem ki_X10_deepest : Cond.instanceMethod yX10_deepest ∈ GW := gw7 117 rfl (by decide +kernel)
set_option maxRecDepth 20000 in
theorem ks_X10_deepest : Cond.selects RX10 yX10_deepest yX10_deepest ∈ GW := gw_sl (q := (yX10_deepest, 69)) 107 (by decide +kernel) (by decide +kernel)
theorem cX10_456 : aCv RX10 456 10 mX10_deepest 1 := ⟨⟨kc_X10_deepest, kl_X10_456, kn_X10, ⟨by decide +kernel, by decide +kernel, by decide +kernel⟩, by decide⟩, ki_X10_deepest, ks_X10_deepest, TX10, 69, rfl⟩
set_option maxRecDepth 20000 in
theorem kl_X10_459 : Cond.methodLink RX10 459 yX10_pick ∈ GW := gw7 119 rfl (by decide +kernel)
set_option maxRecDepth 20000 in
theorem kc_X10_pick : Cond.code mX10_pick.1 mX10_pick.2.1 mX10_pick.2.2.1 mX10_pick.2.2.2 ∈ GW := gw7 122 rfl (by decide +kernel)
set_option maxRecDepth 20000 in
theorem ki_X10_pick : Cond.instanceMethod yX10_pick ∈ GW := gw7 121 rfl (by decide +kernel)
set_option maxRecDepth 20000 in
theorem ks_X10_pick : Cond.selects RX10 yX10_pick yX10_pick ∈ GW := gw_sl (q := (yX10_pick, 69)) 108 (by decide +kernel) (by decide +kernel)
theorem cX10_459 : aCv RX10 459 10 mX10_pick 2 := ⟨⟨kc_X10_pick, kl_X10_459, kn_X10, ⟨by decide +kernel, by decide +kernel, by decide +kernel⟩, by decide⟩, ki_X10_pick, ks_X10_pick, TX10, 69, rfl⟩
set_option maxRecDepth 20000 in
theorem kl_X10_462 : Cond.methodLink RX10 462 yX10_preaches ∈ GW := gw7 123 rfl (by decide +kernel)
set_option maxRecDepth 20000 in
theorem kc_X10_preaches : Cond.code mX10_preaches.1 mX10_preaches.2.1 mX10_preaches.2.2.1 mX10_preaches.2.2.2 ∈ GW := gw7 126 rfl (by decide +kernel)
set_option maxRecDepth 20000 in
theorem ki_X10_preaches : Cond.instanceMethod yX10_preaches ∈ GW := gw7 125 rfl (by decide +kernel)
set_option maxRecDepth 20000 in
theorem ks_X10_preaches : Cond.selects RX10 yX10_preaches yX10_preaches ∈ GW := gw_sl (q := (yX10_preaches, 69)) 109 (by decide +kernel) (by decide +kernel)
theorem cX10_462 : aCv RX10 462 10 mX10_preaches 4 := ⟨⟨kc_X10_preaches, kl_X10_462, kn_X10, ⟨by decide +kernel, by decide +kernel, by decide +kernel⟩, by decide⟩, ki_X10_preaches, ks_X10_preaches, TX10, 69, rfl⟩
set_option maxRecDepth 20000 in
theorem kl_X10_449 : Cond.methodLink RX10 449 yX10_isSo ∈ GW := gw7 127 rfl (by decide +kernel)
set_option maxRecDepth 20000 in
theorem kc_X10_isSo : Cond.code mX10_isSo.1 mX10_isSo.2.1 mX10_isSo.2.2.1 mX10_isSo.2.2.2 ∈ GW := gw7 130 rfl (by decide +kernel)
set_option maxRecDepth 20000 in
theorem ki_X10_isSo : Cond.instanceMethod yX10_isSo ∈ GW := gw7 129 rfl (by decide +kernel)
set_option maxRecDepth 20000 in
theorem ks_X10_isSo : Cond.selects RX10 yX10_isSo yX10_isSo ∈ GW := gw_sl (q := (yX10_isSo, 69)) 110 (by decide +kernel) (by decide +kernel)
theorem cX10_449 : aCv RX10 449 10 mX10_isSo 6 := ⟨⟨kc_X10_isSo, kl_X10_449, kn_X10, ⟨by decide +kernel, by decide +kernel, by decide +kernel⟩, by decide⟩, ki_X10_isSo, ks_X10_isSo, TX10, 69, rfl⟩
set_option maxRecDepth 20000 in
theorem kl_X10_453 : Cond.methodLink RX10 453 yX10_writesDown ∈ GW := gw7 131 rfl (by decide +kernel)
set_option maxRecDepth 20000 in
theorem kc_X10_writesDown : Cond.code mX10_writesDown.1 mX10_writesDown.2.1 mX10_writesDown.2.2.1 mX10_writesDown.2.2.2 ∈ GW := gw7 134 rfl (by decide +kernel)
set_option maxRecDepth 20000 in
theorem ki_X10_writesDown : Cond.instanceMethod yX10_writesDown ∈ GW := gw7 133 rfl (by decide +kernel)
set_option maxRecDepth 20000 in
theorem ks_X10_writesDown : Cond.selects RX10 yX10_writesDown yX10_writesDown ∈ GW := gw_sl (q := (yX10_writesDown, 69)) 111 (by decide +kernel) (by decide +kernel)
theorem cX10_453 : aCv RX10 453 10 mX10_writesDown 4 := ⟨⟨kc_X10_writesDown, kl_X10_453, kn_X10, ⟨by decide +kernel, by decide +kernel, by decide +kernel⟩, by decide⟩, ki_X10_writesDown, ks_X10_writesDown, TX10, 69, rfl⟩
set_option maxRecDepth 20000 in
theorem kl_X10_512 : Cond.methodLink RX10 512 yX10_leftBy ∈ GW := gw7 155 rfl (by decide +kernel)
set_option maxRecDepth 20000 in
theorem kc_X10_leftBy : Cond.code mX10_leftBy.1 mX10_leftBy.2.1 mX10_leftBy.2.2.1 mX10_leftBy.2.2.2 ∈ GW := gw7 158 rfl (by decide +kernel)
set_option maxRecDepth 20000 in
theorem ki_X10_leftBy : Cond.instanceMethod yX10_leftBy ∈ GW := gw7 157 rfl (by decide +kernel)
set_option maxRecDepth 20000 in
theorem ks_X10_leftBy : Cond.selects RX10 yX10_leftBy yX10_leftBy ∈ GW := gw_sl (q := (yX10_leftBy, 69)) 112 (by decide +kernel) (by decide +kernel)
theorem cX10_512 : aCv RX10 512 10 mX10_leftBy 3 := ⟨⟨kc_X10_leftBy, kl_X10_512, kn_X10, ⟨by decide +kernel, by decide +kernel, by decide +kernel⟩, by decide⟩, ki_X10_leftBy, ks_X10_leftBy, TX10, 69, rfl⟩
set_option maxRecDepth 20000 in
theorem kl_X10_516 : Cond.methodLink RX10 516 yX10_which ∈ GW := gw7 163 rfl (by decide +kernel)
set_option maxRecDepth 20000 in
theorem kc_X10_which : Cond.code mX10_which.1 mX10_which.2.1 mX10_which.2.2.1 mX10_which.2.2.2 ∈ GW := gw7 154 rfl (by decide +kernel)
set_option maxRecDepth 20000 in
theorem ki_X10_which : Cond.instanceMethod yX10_which ∈ GW := gw7 152 rfl (by decide +kernel)
set_option maxRecDepth 20000 in
theorem ks_X10_which : Cond.selects RX10 yX10_which yX10_which ∈ GW := gw7 153 rfl (by decide +kernel)
theorem cX10_516 : aCv RX10 516 10 mX10_which 0 := ⟨⟨kc_X10_which, kl_X10_516, kn_X10, ⟨by decide +kernel, by decide +kernel, by decide +kernel⟩, by decide⟩, ki_X10_which, ks_X10_which, TX10, 69, rfl⟩
set_option maxRecDepth 20000 in
theorem kl_X10_519 : Cond.methodLink RX10 519 yX10_keeps ∈ GW := gw7 168 rfl (by decide +kernel)
set_option maxRecDepth 20000 in
theorem kc_X10_keeps : Cond.code mX10_keeps.1 mX10_keeps.2.1 mX10_keeps.2.2.1 mX10_keeps.2.2.2 ∈ GW := gw7 171 rfl (by decide +kernel)
set_option maxRecDepth 20000 in
theorem ki_X10_keeps : Cond.instanceMethod yX10_keeps ∈ GW := gw7 170 rfl (by decide +kernel)
set_option maxRecDepth 20000 in
theorem ks_X10_keeps : Cond.selects RX10 yX10_keeps yX10_keeps ∈ GW := gw_sl (q := (yX10_keeps, 69)) 113 (by decide +kernel) (by decide +kernel)
theorem cX10_519 : aCv RX10 519 10 mX10_keeps 0 := ⟨⟨kc_X10_keeps, kl_X10_519, kn_X10, ⟨by decide +kernel, by decide +kernel, by decide +kernel⟩, by decide⟩, ki_X10_keeps, ks_X10_keeps, TX10, 69, rfl⟩
set_option maxRecDepth 20000 in
theorem kl_X10_530 : Cond.methodLink RX10 530 yX10_draw ∈ GW := gw7 176 rfl (by decide +kernel)
set_option maxRecDepth 20000 in
theorem kc_X10_draw : Cond.code mX10_draw.1 mX10_draw.2.1 mX10_draw.2.2.1 mX10_draw.2.2.2 ∈ GW := gw7 179 rfl (by decide +kernel)
set_option maxRecDepth 20000 in
theorem ki_X10_draw : Cond.instanceMethod yX10_draw ∈ GW := gw7 178 rfl (by decide +kernel)
set_option maxRecDepth 20000 in
theorem ks_X10_draw : Cond.selects RX10 yX10_draw yX10_draw ∈ GW := gw_sl (q := (yX10_draw, 69)) 114 (by decide +kernel) (by decide +kernel)
theorem cX10_530 : aCv RX10 530 10 mX10_draw 1 := ⟨⟨kc_X10_draw, kl_X10_530, kn_X10, ⟨by decide +kernel, by decide +kernel, by decide +kernel⟩, by decide⟩, ki_X10_draw, ks_X10_draw, TX10, 69, rfl⟩
set_option maxRecDepth 20000 in
theorem kl_X10_533 : Cond.methodLink RX10 533 yX10_writes ∈ GW := gw7 212 rfl (by decide +kernel)
set_option maxRecDepth 20000 in
theorem kc_X10_writes : Cond.code mX10_writes.1 mX10_writes.2.1 mX10_writes.2.2.1 mX10_writes.2.2.2 ∈ GW := gw7 215 rfl (by decide +kernel)
set_option maxRecDepth 20000 in
theorem ki_X10_writes : Cond.instanceMethod yX10_writes ∈ GW := gw7 214 rfl (by decide +kernel)
set_option maxRecDepth 20000 in
theorem ks_X10_writes : Cond.selects RX10 yX10_writes yX10_writes ∈ GW := gw_sl (q := (yX10_writes, 69)) 115 (by decide +kernel) (by decide +kernel)
theorem cX10_533 : aCv RX10 533 10 mX10_writes 1 := ⟨⟨kc_X10_writes, kl_X10_533, kn_X10, ⟨by decide +kernel, by decide +kernel, by decide +kernel⟩, by decide⟩, ki_X10_writes, ks_X10_writes, TX10, 69, rfl⟩
set_option maxRecDepth 20000 in
theorem kl_X10_536 : Cond.methodLink RX10 536 yX10_comesOn ∈ GW := gw7 224 rfl (by decide +kernel)
set_option maxRecDepth 20000 in
theorem kc_X10_comesOn : Cond.code mX10_comesOn.1 mX10_comesOn.2.1 mX10_comesOn.2.2.1 mX10_comesOn.2.2.2 ∈ GW := gw7 227 rfl (by decide +kernel)
set_option maxRecDepth 20000 in
theorem ki_X10_comesOn : Cond.instanceMethod yX10_comesOn ∈ GW := gw7 226 rfl (by decide +kernel)
set_option maxRecDepth 20000 in
theorem ks_X10_comesOn : Cond.selects RX10 yX10_comesOn yX10_comesOn ∈ GW := gw_sl (q := (yX10_comesOn, 69)) 116 (by decide +kernel) (by decide +kernel)
theorem cX10_536 : aCv RX10 536 10 mX10_comesOn 1 := ⟨⟨kc_X10_comesOn, kl_X10_536, kn_X10, ⟨by decide +kernel, by decide +kernel, by decide +kernel⟩, by decide⟩, ki_X10_comesOn, ks_X10_comesOn, TX10, 69, rfl⟩
set_option maxRecDepth 20000 in
theorem kk_X9_17 : Cond.classLink RX9 17 RX5 ∈ GW := gw1 27 rfl (by decide +kernel)
set_option maxRecDepth 20000 in
theorem kx_X5 : Cond.instantiable RX5 11 ∈ GW := gw1 28 rfl (by decide +kernel)
theorem nX9_17 : aNw RX9 17 5 := ⟨RX5, TX5, 11, rfl, kk_X9_17, kx_X5, kn_X5⟩
set_option maxRecDepth 20000 in
theorem kk_X9_32 : Cond.classLink RX9 32 RX8 ∈ GW := gw1 88 rfl (by decide +kernel)
set_option maxRecDepth 20000 in
theorem kx_X8 : Cond.instantiable RX8 6 ∈ GW := gw1 89 rfl (by decide +kernel)
theorem nX9_32 : aNw RX9 32 8 := ⟨RX8, TX8, 6, rfl, kk_X9_32, kx_X8, kn_X8⟩
set_option maxRecDepth 20000 in
theorem kk_X9_42 : Cond.classLink RX9 42 RX6 ∈ GW := gw1 133 rfl (by decide +kernel)
set_option maxRecDepth 20000 in
theorem kx_X6 : Cond.instantiable RX6 9 ∈ GW := gw1 134 rfl (by decide +kernel)
theorem nX9_42 : aNw RX9 42 6 := ⟨RX6, TX6, 9, rfl, kk_X9_42, kx_X6, kn_X6⟩
set_option maxRecDepth 20000 in
theorem kk_X9_51 : Cond.classLink RX9 51 RX0 ∈ GW := gw1 184 rfl (by decide +kernel)
set_option maxRecDepth 20000 in
theorem kx_X0 : Cond.instantiable RX0 3 ∈ GW := gw1 185 rfl (by decide +kernel)
theorem nX9_51 : aNw RX9 51 0 := ⟨RX0, TX0, 3, rfl, kk_X9_51, kx_X0, kn_X0⟩
set_option maxRecDepth 20000 in
theorem kk_X9_58 : Cond.classLink RX9 58 RX2 ∈ GW := gw1 201 rfl (by decide +kernel)
set_option maxRecDepth 20000 in
theorem kx_X2 : Cond.instantiable RX2 1 ∈ GW := gw1 202 rfl (by decide +kernel)
theorem nX9_58 : aNw RX9 58 2 := ⟨RX2, TX2, 1, rfl, kk_X9_58, kx_X2, kn_X2⟩
set_option maxRecDepth 20000 in
theorem kk_X9_65 : Cond.classLink RX9 65 RX7 ∈ GW := gw1 211 rfl (by decide +kernel)
set_option maxRecDepth 20000 in
theorem kx_X7 : Cond.instantiable RX7 7 ∈ GW := gw1 212 rfl (by decide +kernel)
theorem nX9_65 : aNw RX9 65 7 := ⟨RX7, TX7, 7, rfl, kk_X9_65, kx_X7, kn_X7⟩
set_option maxRecDepth 20000 in
theorem kk_X9_74 : Cond.classLink RX9 74 RX3 ∈ GW := gw2 2 rfl (by decide +kernel)
set_option maxRecDepth 20000 in
theorem kx_X3 : Cond.instantiable RX3 7 ∈ GW := gw2 3 rfl (by decide +kernel)
theorem nX9_74 : aNw RX9 74 3 := ⟨RX3, TX3, 7, rfl, kk_X9_74, kx_X3, kn_X3⟩
set_option maxRecDepth 20000 in
theorem kk_X9_81 : Cond.classLink RX9 81 RX1 ∈ GW := gw2 33 rfl (by decide +kernel)
set_option maxRecDepth 20000 in
theorem kx_X1 : Cond.instantiable RX1 8 ∈ GW := gw2 34 rfl (by decide +kernel)
theorem nX9_81 : aNw RX9 81 1 := ⟨RX1, TX1, 8, rfl, kk_X9_81, kx_X1, kn_X1⟩
set_option maxRecDepth 20000 in
theorem kk_X9_113 : Cond.classLink RX9 113 RX4 ∈ GW := gw2 144 rfl (by decide +kernel)
set_option maxRecDepth 20000 in
theorem kx_X4 : Cond.instantiable RX4 11 ∈ GW := gw2 145 rfl (by decide +kernel)
theorem nX9_113 : aNw RX9 113 4 := ⟨RX4, TX4, 11, rfl, kk_X9_113, kx_X4, kn_X4⟩
set_option maxRecDepth 20000 in
theorem kk_X4_52 : Cond.classLink RX4 52 RX5 ∈ GW := gw2 154 rfl (by decide +kernel)
theorem nX4_52 : aNw RX4 52 5 := ⟨RX5, TX5, 11, rfl, kk_X4_52, kx_X5, kn_X5⟩
set_option maxRecDepth 20000 in
theorem kv_J6_265 : Cond.constant RJ6 265 (1431655765) ∈ GW := gw3 189 rfl (by decide +kernel)
set_option maxRecDepth 20000 in
theorem kv_J6_266 : Cond.constant RJ6 266 (858993459) ∈ GW := gw3 190 rfl (by decide +kernel)
set_option maxRecDepth 20000 in
theorem kv_J6_267 : Cond.constant RJ6 267 (252645135) ∈ GW := gw3 191 rfl (by decide +kernel)
set_option maxRecDepth 20000 in
theorem kv_X6_142 : Cond.constantLong RX6 142 (1000000) ∈ GW := gw4 25 rfl (by decide +kernel)
set_option maxRecDepth 20000 in
theorem kv_X6_144 : Cond.constant RX6 144 (1000000) ∈ GW := gw4 26 rfl (by decide +kernel)
set_option maxRecDepth 20000 in
theorem kv_X6_145 : Cond.constantLong RX6 145 (-1000000) ∈ GW := gw4 27 rfl (by decide +kernel)
set_option maxRecDepth 20000 in
theorem kv_X6_147 : Cond.constant RX6 147 (-1000000) ∈ GW := gw4 28 rfl (by decide +kernel)
set_option maxRecDepth 20000 in
theorem kv_X9_319 : Cond.constantLong RX9 319 (1103515245) ∈ GW := gw4 207 rfl (by decide +kernel)
set_option maxRecDepth 20000 in
theorem kv_X9_321 : Cond.constantLong RX9 321 (12345) ∈ GW := gw4 208 rfl (by decide +kernel)
set_option maxRecDepth 20000 in
theorem kv_X9_323 : Cond.constantLong RX9 323 (2147483647) ∈ GW := gw4 209 rfl (by decide +kernel)
set_option maxRecDepth 20000 in
theorem kv_X9_325 : Cond.constantLong RX9 325 (64) ∈ GW := gw4 210 rfl (by decide +kernel)
set_option maxRecDepth 20000 in
theorem kv_X10_250 : Cond.constantLong RX10 250 (422775452260) ∈ GW := gw6 55 rfl (by decide +kernel)
set_option maxRecDepth 20000 in
theorem kv_X10_252 : Cond.constantLong RX10 252 (1919509107) ∈ GW := gw6 76 rfl (by decide +kernel)
set_option maxRecDepth 20000 in
theorem kv_X10_254 : Cond.constantLong RX10 254 (2053729891) ∈ GW := gw6 77 rfl (by decide +kernel)
set_option maxRecDepth 20000 in
theorem kv_X10_256 : Cond.constantLong RX10 256 (495873780078) ∈ GW := gw6 78 rfl (by decide +kernel)
set_option maxRecDepth 20000 in
theorem kv_X10_258 : Cond.constantLong RX10 258 (1684366704) ∈ GW := gw6 79 rfl (by decide +kernel)
set_option maxRecDepth 20000 in
theorem kv_X10_260 : Cond.constantLong RX10 260 (495875090022) ∈ GW := gw6 80 rfl (by decide +kernel)
set_option maxRecDepth 20000 in
theorem kv_X10_262 : Cond.constantLong RX10 262 (114784635872626) ∈ GW := gw6 81 rfl (by decide +kernel)
set_option maxRecDepth 20000 in
theorem kv_X10_264 : Cond.constantLong RX10 264 (7563630) ∈ GW := gw6 82 rfl (by decide +kernel)
set_option maxRecDepth 20000 in
theorem kv_X10_266 : Cond.constantLong RX10 266 (6644082) ∈ GW := gw6 83 rfl (by decide +kernel)
set_option maxRecDepth 20000 in
theorem kv_X10_268 : Cond.constantLong RX10 268 (7304564) ∈ GW := gw6 84 rfl (by decide +kernel)
set_option maxRecDepth 20000 in
theorem kv_X10_270 : Cond.constantLong RX10 270 (2003132786) ∈ GW := gw6 85 rfl (by decide +kernel)
set_option maxRecDepth 20000 in
theorem kv_X10_272 : Cond.constantLong RX10 272 (495556388196) ∈ GW := gw6 86 rfl (by decide +kernel)
set_option maxRecDepth 20000 in
theorem kv_X10_274 : Cond.constantLong RX10 274 (495740085349) ∈ GW := gw6 87 rfl (by decide +kernel)
set_option maxRecDepth 20000 in
theorem kv_X10_276 : Cond.constantLong RX10 276 (482804460403) ∈ GW := gw6 88 rfl (by decide +kernel)
set_option maxRecDepth 20000 in
theorem kv_X10_278 : Cond.constantLong RX10 278 (512736126322) ∈ GW := gw6 89 rfl (by decide +kernel)
set_option maxRecDepth 20000 in
theorem kv_X10_280 : Cond.constantLong RX10 280 (6582905) ∈ GW := gw6 90 rfl (by decide +kernel)
set_option maxRecDepth 20000 in
theorem kv_X10_282 : Cond.constantLong RX10 282 (2003133803) ∈ GW := gw6 91 rfl (by decide +kernel)
set_option maxRecDepth 20000 in
theorem kv_X10_284 : Cond.constantLong RX10 284 (7501154) ∈ GW := gw6 92 rfl (by decide +kernel)
set_option maxRecDepth 20000 in
theorem kv_X10_286 : Cond.constantLong RX10 286 (1651469925) ∈ GW := gw6 93 rfl (by decide +kernel)
set_option maxRecDepth 20000 in
theorem kv_X10_288 : Cond.constantLong RX10 288 (1667329381) ∈ GW := gw6 94 rfl (by decide +kernel)
set_option maxRecDepth 20000 in
theorem kv_X10_290 : Cond.constantLong RX10 290 (26982) ∈ GW := gw6 95 rfl (by decide +kernel)
set_option maxRecDepth 20000 in
theorem kv_X10_292 : Cond.constantLong RX10 292 (28530) ∈ GW := gw6 96 rfl (by decide +kernel)
set_option maxRecDepth 20000 in
theorem kv_X10_294 : Cond.constantLong RX10 294 (6385252) ∈ GW := gw6 97 rfl (by decide +kernel)
set_option maxRecDepth 20000 in
theorem kv_X10_296 : Cond.constantLong RX10 296 (7237492) ∈ GW := gw6 98 rfl (by decide +kernel)
set_option maxRecDepth 20000 in
theorem kv_X10_298 : Cond.constantLong RX10 298 (6384748) ∈ GW := gw6 99 rfl (by decide +kernel)
set_option maxRecDepth 20000 in
theorem kv_X10_300 : Cond.constantLong RX10 300 (7170414) ∈ GW := gw6 100 rfl (by decide +kernel)
set_option maxRecDepth 20000 in
theorem kv_X10_302 : Cond.constantLong RX10 302 (7168376) ∈ GW := gw6 101 rfl (by decide +kernel)
set_option maxRecDepth 20000 in
theorem kv_X10_468 : Cond.constantLong RX10 468 (255) ∈ GW := gw6 230 rfl (by decide +kernel)
set_option maxRecDepth 20000 in
theorem kv_X10_408 : Cond.constantLong RX10 408 (1000000) ∈ GW := gw7 44 rfl (by decide +kernel)
set_option maxRecDepth 20000 in
theorem kv_X10_410 : Cond.constantLong RX10 410 (-1000000) ∈ GW := gw7 45 rfl (by decide +kernel)
set_option maxRecDepth 20000 in
theorem kv_X10_435 : Cond.constantLong RX10 435 (9) ∈ GW := gw7 49 rfl (by decide +kernel)
set_option maxRecDepth 20000 in
theorem kv_X10_482 : Cond.constant RX10 482 (100000000) ∈ GW := gw7 66 rfl (by decide +kernel)
set_option maxRecDepth 20000 in
theorem kv_X10_522 : Cond.constantLong RX10 522 (1103515245) ∈ GW := gw7 180 rfl (by decide +kernel)
set_option maxRecDepth 20000 in
theorem kv_X10_524 : Cond.constantLong RX10 524 (12345) ∈ GW := gw7 181 rfl (by decide +kernel)
set_option maxRecDepth 20000 in
theorem kv_X10_526 : Cond.constantLong RX10 526 (2147483648) ∈ GW := gw7 182 rfl (by decide +kernel)
set_option maxRecDepth 20000 in
theorem kv_X10_528 : Cond.constantLong RX10 528 (64) ∈ GW := gw7 183 rfl (by decide +kernel)
