set_option maxRecDepth 20000 in
theorem kn_RJ0 : Cond.initialized RJ0 ∈ zTbl := zmem 60 rfl rfl
set_option maxRecDepth 20000 in
theorem kn_RJ1 : Cond.initialized RJ1 ∈ zTbl := zmem 61 rfl rfl
set_option maxRecDepth 20000 in
theorem kn_RJ2 : Cond.initialized RJ2 ∈ zTbl := zmem 63 rfl rfl
set_option maxRecDepth 20000 in
theorem kn_RJ3 : Cond.initialized RJ3 ∈ zTbl := zmem 62 rfl rfl
set_option maxRecDepth 20000 in
theorem kn_RJ6 : Cond.initialized RJ6 ∈ zTbl := zmem 71 rfl rfl
set_option maxRecDepth 20000 in
theorem kn_RJ7 : Cond.initialized RJ7 ∈ zTbl := zmem 64 rfl rfl
set_option maxRecDepth 20000 in
theorem kn_RJ9 : Cond.initialized RJ9 ∈ zTbl := zmem 70 rfl rfl
set_option maxRecDepth 20000 in
theorem kn_RX0 : Cond.initialized RX0 ∈ zTbl := zmem 55 rfl rfl
set_option maxRecDepth 20000 in
theorem kn_RX1 : Cond.initialized RX1 ∈ zTbl := zmem 58 rfl rfl
set_option maxRecDepth 20000 in
theorem kn_RX2 : Cond.initialized RX2 ∈ zTbl := zmem 54 rfl rfl
set_option maxRecDepth 20000 in
theorem kn_RX3 : Cond.initialized RX3 ∈ zTbl := zmem 56 rfl rfl
set_option maxRecDepth 20000 in
theorem kn_RX4 : Cond.initialized RX4 ∈ zTbl := zmem 57 rfl rfl
set_option maxRecDepth 20000 in
theorem kn_RX5 : Cond.initialized RX5 ∈ zTbl := zmem 53 rfl rfl
set_option maxRecDepth 20000 in
theorem kn_RX6 : Cond.initialized RX6 ∈ zTbl := zmem 52 rfl rfl
set_option maxRecDepth 20000 in
theorem kn_RX7 : Cond.initialized RX7 ∈ zTbl := zmem 59 rfl rfl
set_option maxRecDepth 20000 in
theorem kc_X0_init : Cond.code yX0_init cX0_init 1 none ∈ zTbl := zmem 114 rfl rfl
abbrev wsX0_init : List Cond := Cond.code yX0_init cX0_init 1 none :: zTbl
set_option maxRecDepth 20000 in
theorem ki_X0_init : Cond.instanceMethod yX0_init ∈ zTbl := zmem 113 rfl rfl
set_option maxRecDepth 20000 in
theorem kc_X0_clear : Cond.code yX0_clear cX0_clear 1 none ∈ zTbl := zmem 438 rfl rfl
abbrev wsX0_clear : List Cond := Cond.code yX0_clear cX0_clear 1 none :: zTbl
set_option maxRecDepth 20000 in
theorem ki_X0_clear : Cond.instanceMethod yX0_clear ∈ zTbl := zmem 436 rfl rfl
set_option maxRecDepth 20000 in
theorem ke_X0_clear : Cond.selects RX0 yX0_clear yX0_clear ∈ zTbl := zmem 437 rfl rfl
set_option maxRecDepth 20000 in
theorem kc_X0_size : Cond.code yX0_size cX0_size 1 (some .int) ∈ zTbl := zmem 679 rfl rfl
abbrev wsX0_size : List Cond := Cond.code yX0_size cX0_size 1 (some .int) :: zTbl
set_option maxRecDepth 20000 in
theorem ki_X0_size : Cond.instanceMethod yX0_size ∈ zTbl := zmem 677 rfl rfl
set_option maxRecDepth 20000 in
theorem ke_X0_size : Cond.selects RX0 yX0_size yX0_size ∈ zTbl := zmem 678 rfl rfl
set_option maxRecDepth 20000 in
theorem kc_X0_keep : Cond.code yX0_keep cX0_keep 3 none ∈ zTbl := zmem 662 rfl rfl
abbrev wsX0_keep : List Cond := Cond.code yX0_keep cX0_keep 3 none :: zTbl
set_option maxRecDepth 20000 in
theorem ki_X0_keep : Cond.instanceMethod yX0_keep ∈ zTbl := zmem 660 rfl rfl
set_option maxRecDepth 20000 in
theorem ke_X0_keep : Cond.selects RX0 yX0_keep yX0_keep ∈ zTbl := zmem 661 rfl rfl
set_option maxRecDepth 20000 in
theorem kc_X0_dropFirst : Cond.code yX0_dropFirst cX0_dropFirst 2 none ∈ zTbl := zmem 666 rfl rfl
abbrev wsX0_dropFirst : List Cond := Cond.code yX0_dropFirst cX0_dropFirst 2 none :: zTbl
set_option maxRecDepth 20000 in
theorem ki_X0_dropFirst : Cond.instanceMethod yX0_dropFirst ∈ zTbl := zmem 665 rfl rfl
set_option maxRecDepth 20000 in
theorem ke_X0_dropFirst : Cond.selects RX0 yX0_dropFirst yX0_dropFirst ∈ zTbl := zmem 21 rfl rfl
set_option maxRecDepth 20000 in
theorem kc_X0_dropLast : Cond.code yX0_dropLast cX0_dropLast 1 none ∈ zTbl := zmem 691 rfl rfl
abbrev wsX0_dropLast : List Cond := Cond.code yX0_dropLast cX0_dropLast 1 none :: zTbl
set_option maxRecDepth 20000 in
theorem ki_X0_dropLast : Cond.instanceMethod yX0_dropLast ∈ zTbl := zmem 689 rfl rfl
set_option maxRecDepth 20000 in
theorem ke_X0_dropLast : Cond.selects RX0 yX0_dropLast yX0_dropLast ∈ zTbl := zmem 690 rfl rfl
set_option maxRecDepth 20000 in
theorem kc_X0_lastSentence : Cond.code yX0_lastSentence cX0_lastSentence 1 (some .int) ∈ zTbl := zmem 683 rfl rfl
abbrev wsX0_lastSentence : List Cond := Cond.code yX0_lastSentence cX0_lastSentence 1 (some .int) :: zTbl
set_option maxRecDepth 20000 in
theorem ki_X0_lastSentence : Cond.instanceMethod yX0_lastSentence ∈ zTbl := zmem 681 rfl rfl
set_option maxRecDepth 20000 in
theorem ke_X0_lastSentence : Cond.selects RX0 yX0_lastSentence yX0_lastSentence ∈ zTbl := zmem 682 rfl rfl
set_option maxRecDepth 20000 in
theorem kc_X0_lastNumber : Cond.code yX0_lastNumber cX0_lastNumber 1 (some .int) ∈ zTbl := zmem 687 rfl rfl
abbrev wsX0_lastNumber : List Cond := Cond.code yX0_lastNumber cX0_lastNumber 1 (some .int) :: zTbl
set_option maxRecDepth 20000 in
theorem ki_X0_lastNumber : Cond.instanceMethod yX0_lastNumber ∈ zTbl := zmem 685 rfl rfl
set_option maxRecDepth 20000 in
theorem ke_X0_lastNumber : Cond.selects RX0 yX0_lastNumber yX0_lastNumber ∈ zTbl := zmem 686 rfl rfl
set_option maxRecDepth 20000 in
theorem kc_X1_init : Cond.code yX1_init cX1_init 1 none ∈ zTbl := zmem 164 rfl rfl
abbrev wsX1_init : List Cond := Cond.code yX1_init cX1_init 1 none :: zTbl
set_option maxRecDepth 20000 in
theorem ki_X1_init : Cond.instanceMethod yX1_init ∈ zTbl := zmem 163 rfl rfl
set_option maxRecDepth 20000 in
theorem kc_X1_clear : Cond.code yX1_clear cX1_clear 2 none ∈ zTbl := zmem 497 rfl rfl
abbrev wsX1_clear : List Cond := Cond.code yX1_clear cX1_clear 2 none :: zTbl
set_option maxRecDepth 20000 in
theorem ki_X1_clear : Cond.instanceMethod yX1_clear ∈ zTbl := zmem 495 rfl rfl
set_option maxRecDepth 20000 in
theorem ke_X1_clear : Cond.selects RX1 yX1_clear yX1_clear ∈ zTbl := zmem 496 rfl rfl
set_option maxRecDepth 20000 in
theorem kc_X1_add : Cond.code yX1_add cX1_add 4 (some .boolean) ∈ zTbl := zmem 512 rfl rfl
abbrev wsX1_add : List Cond := Cond.code yX1_add cX1_add 4 (some .boolean) :: zTbl
set_option maxRecDepth 20000 in
theorem ki_X1_add : Cond.instanceMethod yX1_add ∈ zTbl := zmem 510 rfl rfl
set_option maxRecDepth 20000 in
theorem ke_X1_add : Cond.selects RX1 yX1_add yX1_add ∈ zTbl := zmem 511 rfl rfl
set_option maxRecDepth 20000 in
theorem kc_X1_reduce : Cond.code yX1_reduce cX1_reduce 3 none ∈ zTbl := zmem 516 rfl rfl
abbrev wsX1_reduce : List Cond := Cond.code yX1_reduce cX1_reduce 3 none :: zTbl
set_option maxRecDepth 20000 in
theorem ki_X1_reduce : Cond.instanceMethod yX1_reduce ∈ zTbl := zmem 514 rfl rfl
set_option maxRecDepth 20000 in
theorem ke_X1_reduce : Cond.selects RX1 yX1_reduce yX1_reduce ∈ zTbl := zmem 515 rfl rfl
set_option maxRecDepth 20000 in
theorem kc_X1_firstName : Cond.code yX1_firstName cX1_firstName 2 (some .int) ∈ zTbl := zmem 525 rfl rfl
abbrev wsX1_firstName : List Cond := Cond.code yX1_firstName cX1_firstName 2 (some .int) :: zTbl
set_option maxRecDepth 20000 in
theorem ks_X1_firstName : Cond.static yX1_firstName ∈ zTbl := zmem 524 rfl rfl
set_option maxRecDepth 20000 in
theorem kc_X1_negate : Cond.code yX1_negate cX1_negate 2 none ∈ zTbl := zmem 528 rfl rfl
abbrev wsX1_negate : List Cond := Cond.code yX1_negate cX1_negate 2 none :: zTbl
set_option maxRecDepth 20000 in
theorem ks_X1_negate : Cond.static yX1_negate ∈ zTbl := zmem 527 rfl rfl
set_option maxRecDepth 20000 in
theorem kc_X1_eliminate : Cond.code yX1_eliminate cX1_eliminate 12 none ∈ zTbl := zmem 519 rfl rfl
abbrev wsX1_eliminate : List Cond := Cond.code yX1_eliminate cX1_eliminate 12 none :: zTbl
set_option maxRecDepth 20000 in
theorem ks_X1_eliminate : Cond.static yX1_eliminate ∈ zTbl := zmem 518 rfl rfl
set_option maxRecDepth 20000 in
theorem kc_X1_gcd : Cond.code yX1_gcd cX1_gcd 11 (some .long) ∈ zTbl := zmem 522 rfl rfl
abbrev wsX1_gcd : List Cond := Cond.code yX1_gcd cX1_gcd 11 (some .long) :: zTbl
set_option maxRecDepth 20000 in
theorem ks_X1_gcd : Cond.static yX1_gcd ∈ zTbl := zmem 521 rfl rfl
set_option maxRecDepth 20000 in
theorem kc_X2_init : Cond.code yX2_init cX2_init 2 none ∈ zTbl := zmem 104 rfl rfl
abbrev wsX2_init : List Cond := Cond.code yX2_init cX2_init 2 none :: zTbl
set_option maxRecDepth 20000 in
theorem ki_X2_init : Cond.instanceMethod yX2_init ∈ zTbl := zmem 103 rfl rfl
set_option maxRecDepth 20000 in
theorem kc_X2_read : Cond.code yX2_read cX2_read 4 (some .int) ∈ zTbl := zmem 284 rfl rfl
abbrev wsX2_read : List Cond := Cond.code yX2_read cX2_read 4 (some .int) :: zTbl
set_option maxRecDepth 20000 in
theorem ki_X2_read : Cond.instanceMethod yX2_read ∈ zTbl := zmem 282 rfl rfl
set_option maxRecDepth 20000 in
theorem ke_X2_read : Cond.selects RX2 yX2_read yX2_read ∈ zTbl := zmem 283 rfl rfl
set_option maxRecDepth 20000 in
theorem kc_X2_readSentence : Cond.code yX2_readSentence cX2_readSentence 5 (some .boolean) ∈ zTbl := zmem 386 rfl rfl
abbrev wsX2_readSentence : List Cond := Cond.code yX2_readSentence cX2_readSentence 5 (some .boolean) :: zTbl
set_option maxRecDepth 20000 in
theorem ki_X2_readSentence : Cond.instanceMethod yX2_readSentence ∈ zTbl := zmem 385 rfl rfl
set_option maxRecDepth 20000 in
theorem ke_X2_readSentence : Cond.selects RX2 yX2_readSentence yX2_readSentence ∈ zTbl := zmem 4 rfl rfl
set_option maxRecDepth 20000 in
theorem kc_X2_readHas : Cond.code yX2_readHas cX2_readHas 4 (some .boolean) ∈ zTbl := zmem 398 rfl rfl
abbrev wsX2_readHas : List Cond := Cond.code yX2_readHas cX2_readHas 4 (some .boolean) :: zTbl
set_option maxRecDepth 20000 in
theorem ki_X2_readHas : Cond.instanceMethod yX2_readHas ∈ zTbl := zmem 397 rfl rfl
set_option maxRecDepth 20000 in
theorem ke_X2_readHas : Cond.selects RX2 yX2_readHas yX2_readHas ∈ zTbl := zmem 5 rfl rfl
set_option maxRecDepth 20000 in
theorem kc_X2_readPlain : Cond.code yX2_readPlain cX2_readPlain 4 (some .boolean) ∈ zTbl := zmem 420 rfl rfl
abbrev wsX2_readPlain : List Cond := Cond.code yX2_readPlain cX2_readPlain 4 (some .boolean) :: zTbl
set_option maxRecDepth 20000 in
theorem ki_X2_readPlain : Cond.instanceMethod yX2_readPlain ∈ zTbl := zmem 419 rfl rfl
set_option maxRecDepth 20000 in
theorem ke_X2_readPlain : Cond.selects RX2 yX2_readPlain yX2_readPlain ∈ zTbl := zmem 8 rfl rfl
set_option maxRecDepth 20000 in
theorem kc_X2_readUnit : Cond.code yX2_readUnit cX2_readUnit 3 (some .boolean) ∈ zTbl := zmem 408 rfl rfl
abbrev wsX2_readUnit : List Cond := Cond.code yX2_readUnit cX2_readUnit 3 (some .boolean) :: zTbl
set_option maxRecDepth 20000 in
theorem ki_X2_readUnit : Cond.instanceMethod yX2_readUnit ∈ zTbl := zmem 407 rfl rfl
set_option maxRecDepth 20000 in
theorem ke_X2_readUnit : Cond.selects RX2 yX2_readUnit yX2_readUnit ∈ zTbl := zmem 6 rfl rfl
set_option maxRecDepth 20000 in
theorem kc_X2_readSecond : Cond.code yX2_readSecond cX2_readSecond 4 (some .boolean) ∈ zTbl := zmem 413 rfl rfl
abbrev wsX2_readSecond : List Cond := Cond.code yX2_readSecond cX2_readSecond 4 (some .boolean) :: zTbl
set_option maxRecDepth 20000 in
theorem ki_X2_readSecond : Cond.instanceMethod yX2_readSecond ∈ zTbl := zmem 412 rfl rfl
set_option maxRecDepth 20000 in
theorem ke_X2_readSecond : Cond.selects RX2 yX2_readSecond yX2_readSecond ∈ zTbl := zmem 7 rfl rfl
set_option maxRecDepth 20000 in
theorem kc_X2_readQuestion : Cond.code yX2_readQuestion cX2_readQuestion 6 (some .boolean) ∈ zTbl := zmem 350 rfl rfl
abbrev wsX2_readQuestion : List Cond := Cond.code yX2_readQuestion cX2_readQuestion 6 (some .boolean) :: zTbl
set_option maxRecDepth 20000 in
theorem ki_X2_readQuestion : Cond.instanceMethod yX2_readQuestion ∈ zTbl := zmem 349 rfl rfl
set_option maxRecDepth 20000 in
theorem ke_X2_readQuestion : Cond.selects RX2 yX2_readQuestion yX2_readQuestion ∈ zTbl := zmem 2 rfl rfl
set_option maxRecDepth 20000 in
theorem kc_X2_takeAskedSort : Cond.code yX2_takeAskedSort cX2_takeAskedSort 1 (some .int) ∈ zTbl := zmem 360 rfl rfl
abbrev wsX2_takeAskedSort : List Cond := Cond.code yX2_takeAskedSort cX2_takeAskedSort 1 (some .int) :: zTbl
set_option maxRecDepth 20000 in
theorem ki_X2_takeAskedSort : Cond.instanceMethod yX2_takeAskedSort ∈ zTbl := zmem 359 rfl rfl
set_option maxRecDepth 20000 in
theorem ke_X2_takeAskedSort : Cond.selects RX2 yX2_takeAskedSort yX2_takeAskedSort ∈ zTbl := zmem 3 rfl rfl
set_option maxRecDepth 20000 in
theorem kc_X3_init : Cond.code yX3_init cX3_init 1 none ∈ zTbl := zmem 130 rfl rfl
abbrev wsX3_init : List Cond := Cond.code yX3_init cX3_init 1 none :: zTbl
set_option maxRecDepth 20000 in
theorem ki_X3_init : Cond.instanceMethod yX3_init ∈ zTbl := zmem 129 rfl rfl
set_option maxRecDepth 20000 in
theorem kc_X3_clear : Cond.code yX3_clear cX3_clear 1 none ∈ zTbl := zmem 288 rfl rfl
abbrev wsX3_clear : List Cond := Cond.code yX3_clear cX3_clear 1 none :: zTbl
set_option maxRecDepth 20000 in
theorem ki_X3_clear : Cond.instanceMethod yX3_clear ∈ zTbl := zmem 286 rfl rfl
set_option maxRecDepth 20000 in
theorem ke_X3_clear : Cond.selects RX3 yX3_clear yX3_clear ∈ zTbl := zmem 287 rfl rfl
set_option maxRecDepth 20000 in
theorem kc_X3_open : Cond.code yX3_open cX3_open 3 none ∈ zTbl := zmem 390 rfl rfl
abbrev wsX3_open : List Cond := Cond.code yX3_open cX3_open 3 none :: zTbl
set_option maxRecDepth 20000 in
theorem ki_X3_open : Cond.instanceMethod yX3_open ∈ zTbl := zmem 388 rfl rfl
set_option maxRecDepth 20000 in
theorem ke_X3_open : Cond.selects RX3 yX3_open yX3_open ∈ zTbl := zmem 389 rfl rfl
set_option maxRecDepth 20000 in
theorem kc_X3_tell : Cond.code yX3_tell cX3_tell 3 none ∈ zTbl := zmem 394 rfl rfl
abbrev wsX3_tell : List Cond := Cond.code yX3_tell cX3_tell 3 none :: zTbl
set_option maxRecDepth 20000 in
theorem ki_X3_tell : Cond.instanceMethod yX3_tell ∈ zTbl := zmem 392 rfl rfl
set_option maxRecDepth 20000 in
theorem ke_X3_tell : Cond.selects RX3 yX3_tell yX3_tell ∈ zTbl := zmem 393 rfl rfl
set_option maxRecDepth 20000 in
theorem kc_X3_close : Cond.code yX3_close cX3_close 1 none ∈ zTbl := zmem 429 rfl rfl
abbrev wsX3_close : List Cond := Cond.code yX3_close cX3_close 1 none :: zTbl
set_option maxRecDepth 20000 in
theorem ki_X3_close : Cond.instanceMethod yX3_close ∈ zTbl := zmem 427 rfl rfl
set_option maxRecDepth 20000 in
theorem ke_X3_close : Cond.selects RX3 yX3_close yX3_close ∈ zTbl := zmem 428 rfl rfl
set_option maxRecDepth 20000 in
theorem kc_X3_ask : Cond.code yX3_ask cX3_ask 5 none ∈ zTbl := zmem 374 rfl rfl
abbrev wsX3_ask : List Cond := Cond.code yX3_ask cX3_ask 5 none :: zTbl
set_option maxRecDepth 20000 in
theorem ki_X3_ask : Cond.instanceMethod yX3_ask ∈ zTbl := zmem 372 rfl rfl
set_option maxRecDepth 20000 in
theorem ke_X3_ask : Cond.selects RX3 yX3_ask yX3_ask ∈ zTbl := zmem 373 rfl rfl
set_option maxRecDepth 20000 in
theorem kc_X3_size : Cond.code yX3_size cX3_size 1 (some .int) ∈ zTbl := zmem 457 rfl rfl
abbrev wsX3_size : List Cond := Cond.code yX3_size cX3_size 1 (some .int) :: zTbl
set_option maxRecDepth 20000 in
theorem ki_X3_size : Cond.instanceMethod yX3_size ∈ zTbl := zmem 455 rfl rfl
set_option maxRecDepth 20000 in
theorem ke_X3_size : Cond.selects RX3 yX3_size yX3_size ∈ zTbl := zmem 456 rfl rfl
set_option maxRecDepth 20000 in
theorem kc_X3_facts : Cond.code yX3_facts cX3_facts 1 (some .int) ∈ zTbl := zmem 505 rfl rfl
abbrev wsX3_facts : List Cond := Cond.code yX3_facts cX3_facts 1 (some .int) :: zTbl
set_option maxRecDepth 20000 in
theorem ki_X3_facts : Cond.instanceMethod yX3_facts ∈ zTbl := zmem 503 rfl rfl
set_option maxRecDepth 20000 in
theorem ke_X3_facts : Cond.selects RX3 yX3_facts yX3_facts ∈ zTbl := zmem 504 rfl rfl
set_option maxRecDepth 20000 in
theorem kc_X3_stages : Cond.code yX3_stages cX3_stages 1 (some .int) ∈ zTbl := zmem 583 rfl rfl
abbrev wsX3_stages : List Cond := Cond.code yX3_stages cX3_stages 1 (some .int) :: zTbl
set_option maxRecDepth 20000 in
theorem ki_X3_stages : Cond.instanceMethod yX3_stages ∈ zTbl := zmem 581 rfl rfl
set_option maxRecDepth 20000 in
theorem ke_X3_stages : Cond.selects RX3 yX3_stages yX3_stages ∈ zTbl := zmem 582 rfl rfl
set_option maxRecDepth 20000 in
theorem kc_X3_has : Cond.code yX3_has cX3_has 2 (some .boolean) ∈ zTbl := zmem 465 rfl rfl
abbrev wsX3_has : List Cond := Cond.code yX3_has cX3_has 2 (some .boolean) :: zTbl
set_option maxRecDepth 20000 in
theorem ki_X3_has : Cond.instanceMethod yX3_has ∈ zTbl := zmem 463 rfl rfl
set_option maxRecDepth 20000 in
theorem ke_X3_has : Cond.selects RX3 yX3_has yX3_has ∈ zTbl := zmem 464 rfl rfl
set_option maxRecDepth 20000 in
theorem kc_X3_part : Cond.code yX3_part cX3_part 3 (some .int) ∈ zTbl := zmem 461 rfl rfl
abbrev wsX3_part : List Cond := Cond.code yX3_part cX3_part 3 (some .int) :: zTbl
set_option maxRecDepth 20000 in
theorem ki_X3_part : Cond.instanceMethod yX3_part ∈ zTbl := zmem 459 rfl rfl
set_option maxRecDepth 20000 in
theorem ke_X3_part : Cond.selects RX3 yX3_part yX3_part ∈ zTbl := zmem 460 rfl rfl
set_option maxRecDepth 20000 in
theorem kc_X3_asked : Cond.code yX3_asked cX3_asked 2 (some .int) ∈ zTbl := zmem 486 rfl rfl
abbrev wsX3_asked : List Cond := Cond.code yX3_asked cX3_asked 2 (some .int) :: zTbl
set_option maxRecDepth 20000 in
theorem ki_X3_asked : Cond.instanceMethod yX3_asked ∈ zTbl := zmem 484 rfl rfl
set_option maxRecDepth 20000 in
theorem ke_X3_asked : Cond.selects RX3 yX3_asked yX3_asked ∈ zTbl := zmem 485 rfl rfl
set_option maxRecDepth 20000 in
theorem kc_X3_allows : Cond.code yX3_allows cX3_allows 3 (some .boolean) ∈ zTbl := zmem 656 rfl rfl
abbrev wsX3_allows : List Cond := Cond.code yX3_allows cX3_allows 3 (some .boolean) :: zTbl
set_option maxRecDepth 20000 in
theorem ki_X3_allows : Cond.instanceMethod yX3_allows ∈ zTbl := zmem 654 rfl rfl
set_option maxRecDepth 20000 in
theorem ke_X3_allows : Cond.selects RX3 yX3_allows yX3_allows ∈ zTbl := zmem 655 rfl rfl
set_option maxRecDepth 20000 in
theorem kc_X3_setNumber : Cond.code yX3_setNumber cX3_setNumber 3 none ∈ zTbl := zmem 670 rfl rfl
abbrev wsX3_setNumber : List Cond := Cond.code yX3_setNumber cX3_setNumber 3 none :: zTbl
set_option maxRecDepth 20000 in
theorem ki_X3_setNumber : Cond.instanceMethod yX3_setNumber ∈ zTbl := zmem 668 rfl rfl
set_option maxRecDepth 20000 in
theorem ke_X3_setNumber : Cond.selects RX3 yX3_setNumber yX3_setNumber ∈ zTbl := zmem 669 rfl rfl
set_option maxRecDepth 20000 in
theorem kc_X3_gain : Cond.code yX3_gain cX3_gain 8 (some .long) ∈ zTbl := zmem 476 rfl rfl
abbrev wsX3_gain : List Cond := Cond.code yX3_gain cX3_gain 8 (some .long) :: zTbl
set_option maxRecDepth 20000 in
theorem ki_X3_gain : Cond.instanceMethod yX3_gain ∈ zTbl := zmem 474 rfl rfl
set_option maxRecDepth 20000 in
theorem ke_X3_gain : Cond.selects RX3 yX3_gain yX3_gain ∈ zTbl := zmem 475 rfl rfl
set_option maxRecDepth 20000 in
theorem kc_X3_gainBy : Cond.code yX3_gainBy cX3_gainBy 4 (some .int) ∈ zTbl := zmem 479 rfl rfl
abbrev wsX3_gainBy : List Cond := Cond.code yX3_gainBy cX3_gainBy 4 (some .int) :: zTbl
set_option maxRecDepth 20000 in
theorem ks_X3_gainBy : Cond.static yX3_gainBy ∈ zTbl := zmem 478 rfl rfl
set_option maxRecDepth 20000 in
theorem kc_X4_init : Cond.code yX4_init cX4_init 3 none ∈ zTbl := zmem 157 rfl rfl
abbrev wsX4_init : List Cond := Cond.code yX4_init cX4_init 3 none :: zTbl
set_option maxRecDepth 20000 in
theorem ki_X4_init : Cond.instanceMethod yX4_init ∈ zTbl := zmem 156 rfl rfl
set_option maxRecDepth 20000 in
theorem kc_X4_begin : Cond.code yX4_begin cX4_begin 2 none ∈ zTbl := zmem 442 rfl rfl
abbrev wsX4_begin : List Cond := Cond.code yX4_begin cX4_begin 2 none :: zTbl
set_option maxRecDepth 20000 in
theorem ki_X4_begin : Cond.instanceMethod yX4_begin ∈ zTbl := zmem 440 rfl rfl
set_option maxRecDepth 20000 in
theorem ke_X4_begin : Cond.selects RX4 yX4_begin yX4_begin ∈ zTbl := zmem 441 rfl rfl
set_option maxRecDepth 20000 in
theorem kc_X4_solve : Cond.code yX4_solve cX4_solve 1 none ∈ zTbl := zmem 446 rfl rfl
abbrev wsX4_solve : List Cond := Cond.code yX4_solve cX4_solve 1 none :: zTbl
set_option maxRecDepth 20000 in
theorem ki_X4_solve : Cond.instanceMethod yX4_solve ∈ zTbl := zmem 444 rfl rfl
set_option maxRecDepth 20000 in
theorem ke_X4_solve : Cond.selects RX4 yX4_solve yX4_solve ∈ zTbl := zmem 445 rfl rfl
set_option maxRecDepth 20000 in
theorem kc_X4_makeLaws : Cond.code yX4_makeLaws cX4_makeLaws 7 none ∈ zTbl := zmem 453 rfl rfl
abbrev wsX4_makeLaws : List Cond := Cond.code yX4_makeLaws cX4_makeLaws 7 none :: zTbl
set_option maxRecDepth 20000 in
theorem ki_X4_makeLaws : Cond.instanceMethod yX4_makeLaws ∈ zTbl := zmem 452 rfl rfl
set_option maxRecDepth 20000 in
theorem ke_X4_makeLaws : Cond.selects RX4 yX4_makeLaws yX4_makeLaws ∈ zTbl := zmem 9 rfl rfl
set_option maxRecDepth 20000 in
theorem kc_X4_madeBy : Cond.code yX4_madeBy cX4_madeBy 2 (some .int) ∈ zTbl := zmem 468 rfl rfl
abbrev wsX4_madeBy : List Cond := Cond.code yX4_madeBy cX4_madeBy 2 (some .int) :: zTbl
set_option maxRecDepth 20000 in
theorem ks_X4_madeBy : Cond.static yX4_madeBy ∈ zTbl := zmem 467 rfl rfl
set_option maxRecDepth 20000 in
theorem kc_X4_secondWeight : Cond.code yX4_secondWeight cX4_secondWeight 2 (some .int) ∈ zTbl := zmem 482 rfl rfl
abbrev wsX4_secondWeight : List Cond := Cond.code yX4_secondWeight cX4_secondWeight 2 (some .int) :: zTbl
set_option maxRecDepth 20000 in
theorem ks_X4_secondWeight : Cond.static yX4_secondWeight ∈ zTbl := zmem 481 rfl rfl
set_option maxRecDepth 20000 in
theorem kc_X4_startSought : Cond.code yX4_startSought cX4_startSought 1 none ∈ zTbl := zmem 489 rfl rfl
abbrev wsX4_startSought : List Cond := Cond.code yX4_startSought cX4_startSought 1 none :: zTbl
set_option maxRecDepth 20000 in
theorem ks_X4_startSought : Cond.static yX4_startSought ∈ zTbl := zmem 488 rfl rfl
set_option maxRecDepth 20000 in
theorem kc_X4_weigh : Cond.code yX4_weigh cX4_weigh 6 none ∈ zTbl := zmem 472 rfl rfl
abbrev wsX4_weigh : List Cond := Cond.code yX4_weigh cX4_weigh 6 none :: zTbl
set_option maxRecDepth 20000 in
theorem ki_X4_weigh : Cond.instanceMethod yX4_weigh ∈ zTbl := zmem 471 rfl rfl
set_option maxRecDepth 20000 in
theorem ke_X4_weigh : Cond.selects RX4 yX4_weigh yX4_weigh ∈ zTbl := zmem 10 rfl rfl
set_option maxRecDepth 20000 in
theorem kc_X4_addFacts : Cond.code yX4_addFacts cX4_addFacts 3 none ∈ zTbl := zmem 493 rfl rfl
abbrev wsX4_addFacts : List Cond := Cond.code yX4_addFacts cX4_addFacts 3 none :: zTbl
set_option maxRecDepth 20000 in
theorem ki_X4_addFacts : Cond.instanceMethod yX4_addFacts ∈ zTbl := zmem 492 rfl rfl
set_option maxRecDepth 20000 in
theorem ke_X4_addFacts : Cond.selects RX4 yX4_addFacts yX4_addFacts ∈ zTbl := zmem 11 rfl rfl
set_option maxRecDepth 20000 in
theorem kc_X4_isFact : Cond.code yX4_isFact cX4_isFact 2 (some .boolean) ∈ zTbl := zmem 501 rfl rfl
abbrev wsX4_isFact : List Cond := Cond.code yX4_isFact cX4_isFact 2 (some .boolean) :: zTbl
set_option maxRecDepth 20000 in
theorem ki_X4_isFact : Cond.instanceMethod yX4_isFact ∈ zTbl := zmem 500 rfl rfl
set_option maxRecDepth 20000 in
theorem ke_X4_isFact : Cond.selects RX4 yX4_isFact yX4_isFact ∈ zTbl := zmem 12 rfl rfl
set_option maxRecDepth 20000 in
theorem kc_X4_settleAmounts : Cond.code yX4_settleAmounts cX4_settleAmounts 3 none ∈ zTbl := zmem 533 rfl rfl
abbrev wsX4_settleAmounts : List Cond := Cond.code yX4_settleAmounts cX4_settleAmounts 3 none :: zTbl
set_option maxRecDepth 20000 in
theorem ki_X4_settleAmounts : Cond.instanceMethod yX4_settleAmounts ∈ zTbl := zmem 532 rfl rfl
set_option maxRecDepth 20000 in
theorem ke_X4_settleAmounts : Cond.selects RX4 yX4_settleAmounts yX4_settleAmounts ∈ zTbl := zmem 13 rfl rfl
set_option maxRecDepth 20000 in
theorem kc_X4_settleAnswer : Cond.code yX4_settleAnswer cX4_settleAnswer 2 none ∈ zTbl := zmem 540 rfl rfl
abbrev wsX4_settleAnswer : List Cond := Cond.code yX4_settleAnswer cX4_settleAnswer 2 none :: zTbl
set_option maxRecDepth 20000 in
theorem ki_X4_settleAnswer : Cond.instanceMethod yX4_settleAnswer ∈ zTbl := zmem 539 rfl rfl
set_option maxRecDepth 20000 in
theorem ke_X4_settleAnswer : Cond.selects RX4 yX4_settleAnswer yX4_settleAnswer ∈ zTbl := zmem 14 rfl rfl
set_option maxRecDepth 20000 in
theorem kc_X4_quarrelAt : Cond.code yX4_quarrelAt cX4_quarrelAt 1 (some .int) ∈ zTbl := zmem 558 rfl rfl
abbrev wsX4_quarrelAt : List Cond := Cond.code yX4_quarrelAt cX4_quarrelAt 1 (some .int) :: zTbl
set_option maxRecDepth 20000 in
theorem ki_X4_quarrelAt : Cond.instanceMethod yX4_quarrelAt ∈ zTbl := zmem 556 rfl rfl
set_option maxRecDepth 20000 in
theorem ke_X4_quarrelAt : Cond.selects RX4 yX4_quarrelAt yX4_quarrelAt ∈ zTbl := zmem 557 rfl rfl
set_option maxRecDepth 20000 in
theorem kc_X4_hasAnswer : Cond.code yX4_hasAnswer cX4_hasAnswer 1 (some .boolean) ∈ zTbl := zmem 570 rfl rfl
abbrev wsX4_hasAnswer : List Cond := Cond.code yX4_hasAnswer cX4_hasAnswer 1 (some .boolean) :: zTbl
set_option maxRecDepth 20000 in
theorem ki_X4_hasAnswer : Cond.instanceMethod yX4_hasAnswer ∈ zTbl := zmem 569 rfl rfl
set_option maxRecDepth 20000 in
theorem ke_X4_hasAnswer : Cond.selects RX4 yX4_hasAnswer yX4_hasAnswer ∈ zTbl := zmem 15 rfl rfl
set_option maxRecDepth 20000 in
theorem kc_X4_answerPart : Cond.code yX4_answerPart cX4_answerPart 2 (some .long) ∈ zTbl := zmem 566 rfl rfl
abbrev wsX4_answerPart : List Cond := Cond.code yX4_answerPart cX4_answerPart 2 (some .long) :: zTbl
set_option maxRecDepth 20000 in
theorem ki_X4_answerPart : Cond.instanceMethod yX4_answerPart ∈ zTbl := zmem 564 rfl rfl
set_option maxRecDepth 20000 in
theorem ke_X4_answerPart : Cond.selects RX4 yX4_answerPart yX4_answerPart ∈ zTbl := zmem 565 rfl rfl
set_option maxRecDepth 20000 in
theorem kc_X4_amountPart : Cond.code yX4_amountPart cX4_amountPart 7 (some .long) ∈ zTbl := zmem 579 rfl rfl
abbrev wsX4_amountPart : List Cond := Cond.code yX4_amountPart cX4_amountPart 7 (some .long) :: zTbl
set_option maxRecDepth 20000 in
theorem ki_X4_amountPart : Cond.instanceMethod yX4_amountPart ∈ zTbl := zmem 577 rfl rfl
set_option maxRecDepth 20000 in
theorem ke_X4_amountPart : Cond.selects RX4 yX4_amountPart yX4_amountPart ∈ zTbl := zmem 578 rfl rfl
set_option maxRecDepth 20000 in
theorem kc_X4_topAt : Cond.code yX4_topAt cX4_topAt 5 (some .long) ∈ zTbl := zmem 587 rfl rfl
abbrev wsX4_topAt : List Cond := Cond.code yX4_topAt cX4_topAt 5 (some .long) :: zTbl
set_option maxRecDepth 20000 in
theorem ki_X4_topAt : Cond.instanceMethod yX4_topAt ∈ zTbl := zmem 586 rfl rfl
set_option maxRecDepth 20000 in
theorem ke_X4_topAt : Cond.selects RX4 yX4_topAt yX4_topAt ∈ zTbl := zmem 16 rfl rfl
set_option maxRecDepth 20000 in
theorem kc_X4_settledAtFirst : Cond.code yX4_settledAtFirst cX4_settledAtFirst 3 (some .int) ∈ zTbl := zmem 702 rfl rfl
abbrev wsX4_settledAtFirst : List Cond := Cond.code yX4_settledAtFirst cX4_settledAtFirst 3 (some .int) :: zTbl
set_option maxRecDepth 20000 in
theorem ki_X4_settledAtFirst : Cond.instanceMethod yX4_settledAtFirst ∈ zTbl := zmem 700 rfl rfl
set_option maxRecDepth 20000 in
theorem ke_X4_settledAtFirst : Cond.selects RX4 yX4_settledAtFirst yX4_settledAtFirst ∈ zTbl := zmem 701 rfl rfl
set_option maxRecDepth 20000 in
theorem kc_X4_strangePart : Cond.code yX4_strangePart cX4_strangePart 5 (some .int) ∈ zTbl := zmem 641 rfl rfl
abbrev wsX4_strangePart : List Cond := Cond.code yX4_strangePart cX4_strangePart 5 (some .int) :: zTbl
set_option maxRecDepth 20000 in
theorem ki_X4_strangePart : Cond.instanceMethod yX4_strangePart ∈ zTbl := zmem 639 rfl rfl
set_option maxRecDepth 20000 in
theorem ke_X4_strangePart : Cond.selects RX4 yX4_strangePart yX4_strangePart ∈ zTbl := zmem 640 rfl rfl
set_option maxRecDepth 20000 in
theorem kc_X4_isStrange : Cond.code yX4_isStrange cX4_isStrange 6 (some .boolean) ∈ zTbl := zmem 645 rfl rfl
abbrev wsX4_isStrange : List Cond := Cond.code yX4_isStrange cX4_isStrange 6 (some .boolean) :: zTbl
set_option maxRecDepth 20000 in
theorem ki_X4_isStrange : Cond.instanceMethod yX4_isStrange ∈ zTbl := zmem 644 rfl rfl
set_option maxRecDepth 20000 in
theorem ke_X4_isStrange : Cond.selects RX4 yX4_isStrange yX4_isStrange ∈ zTbl := zmem 20 rfl rfl
set_option maxRecDepth 20000 in
theorem kc_X4_choose : Cond.code yX4_choose cX4_choose 4 (some .int) ∈ zTbl := zmem 648 rfl rfl
abbrev wsX4_choose : List Cond := Cond.code yX4_choose cX4_choose 4 (some .int) :: zTbl
set_option maxRecDepth 20000 in
theorem ks_X4_choose : Cond.static yX4_choose ∈ zTbl := zmem 647 rfl rfl
set_option maxRecDepth 20000 in
theorem kc_X4_lackingName : Cond.code yX4_lackingName cX4_lackingName 3 (some .int) ∈ zTbl := zmem 630 rfl rfl
abbrev wsX4_lackingName : List Cond := Cond.code yX4_lackingName cX4_lackingName 3 (some .int) :: zTbl
set_option maxRecDepth 20000 in
theorem ki_X4_lackingName : Cond.instanceMethod yX4_lackingName ∈ zTbl := zmem 628 rfl rfl
set_option maxRecDepth 20000 in
theorem ke_X4_lackingName : Cond.selects RX4 yX4_lackingName yX4_lackingName ∈ zTbl := zmem 629 rfl rfl
set_option maxRecDepth 20000 in
theorem kc_X4_areAlongside : Cond.code yX4_areAlongside cX4_areAlongside 4 (some .boolean) ∈ zTbl := zmem 633 rfl rfl
abbrev wsX4_areAlongside : List Cond := Cond.code yX4_areAlongside cX4_areAlongside 4 (some .boolean) :: zTbl
set_option maxRecDepth 20000 in
theorem ks_X4_areAlongside : Cond.static yX4_areAlongside ∈ zTbl := zmem 632 rfl rfl
set_option maxRecDepth 20000 in
theorem kc_X4_idleFacts : Cond.code yX4_idleFacts cX4_idleFacts 2 (some .int) ∈ zTbl := zmem 595 rfl rfl
abbrev wsX4_idleFacts : List Cond := Cond.code yX4_idleFacts cX4_idleFacts 2 (some .int) :: zTbl
set_option maxRecDepth 20000 in
theorem ki_X4_idleFacts : Cond.instanceMethod yX4_idleFacts ∈ zTbl := zmem 593 rfl rfl
set_option maxRecDepth 20000 in
theorem ke_X4_idleFacts : Cond.selects RX4 yX4_idleFacts yX4_idleFacts ∈ zTbl := zmem 594 rfl rfl
set_option maxRecDepth 20000 in
theorem kc_X4_fewestFacts : Cond.code yX4_fewestFacts cX4_fewestFacts 1 (some .int) ∈ zTbl := zmem 611 rfl rfl
abbrev wsX4_fewestFacts : List Cond := Cond.code yX4_fewestFacts cX4_fewestFacts 1 (some .int) :: zTbl
set_option maxRecDepth 20000 in
theorem ki_X4_fewestFacts : Cond.instanceMethod yX4_fewestFacts ∈ zTbl := zmem 609 rfl rfl
set_option maxRecDepth 20000 in
theorem ke_X4_fewestFacts : Cond.selects RX4 yX4_fewestFacts yX4_fewestFacts ∈ zTbl := zmem 610 rfl rfl
set_option maxRecDepth 20000 in
theorem kc_X4_seekFewest : Cond.code yX4_seekFewest cX4_seekFewest 5 (some .int) ∈ zTbl := zmem 616 rfl rfl
abbrev wsX4_seekFewest : List Cond := Cond.code yX4_seekFewest cX4_seekFewest 5 (some .int) :: zTbl
set_option maxRecDepth 20000 in
theorem ki_X4_seekFewest : Cond.instanceMethod yX4_seekFewest ∈ zTbl := zmem 615 rfl rfl
set_option maxRecDepth 20000 in
theorem ke_X4_seekFewest : Cond.selects RX4 yX4_seekFewest yX4_seekFewest ∈ zTbl := zmem 19 rfl rfl
set_option maxRecDepth 20000 in
theorem kc_X4_factsOf : Cond.code yX4_factsOf cX4_factsOf 4 (some .int) ∈ zTbl := zmem 603 rfl rfl
abbrev wsX4_factsOf : List Cond := Cond.code yX4_factsOf cX4_factsOf 4 (some .int) :: zTbl
set_option maxRecDepth 20000 in
theorem ki_X4_factsOf : Cond.instanceMethod yX4_factsOf ∈ zTbl := zmem 602 rfl rfl
set_option maxRecDepth 20000 in
theorem ke_X4_factsOf : Cond.selects RX4 yX4_factsOf yX4_factsOf ∈ zTbl := zmem 18 rfl rfl
set_option maxRecDepth 20000 in
theorem kc_X4_isSettledBy : Cond.code yX4_isSettledBy cX4_isSettledBy 4 (some .boolean) ∈ zTbl := zmem 599 rfl rfl
abbrev wsX4_isSettledBy : List Cond := Cond.code yX4_isSettledBy cX4_isSettledBy 4 (some .boolean) :: zTbl
set_option maxRecDepth 20000 in
theorem ki_X4_isSettledBy : Cond.instanceMethod yX4_isSettledBy ∈ zTbl := zmem 598 rfl rfl
set_option maxRecDepth 20000 in
theorem ke_X4_isSettledBy : Cond.selects RX4 yX4_isSettledBy yX4_isSettledBy ∈ zTbl := zmem 17 rfl rfl
set_option maxRecDepth 20000 in
theorem kc_X5_init : Cond.code yX5_init cX5_init 1 none ∈ zTbl := zmem 84 rfl rfl
abbrev wsX5_init : List Cond := Cond.code yX5_init cX5_init 1 none :: zTbl
set_option maxRecDepth 20000 in
theorem ki_X5_init : Cond.instanceMethod yX5_init ∈ zTbl := zmem 83 rfl rfl
set_option maxRecDepth 20000 in
theorem kc_X5_filledBytes : Cond.code yX5_filledBytes cX5_filledBytes 3 (some .int) ∈ zTbl := zmem 246 rfl rfl
abbrev wsX5_filledBytes : List Cond := Cond.code yX5_filledBytes cX5_filledBytes 3 (some .int) :: zTbl
set_option maxRecDepth 20000 in
theorem ks_X5_filledBytes : Cond.static yX5_filledBytes ∈ zTbl := zmem 245 rfl rfl
set_option maxRecDepth 20000 in
theorem kc_X5_size : Cond.code yX5_size cX5_size 1 (some .int) ∈ zTbl := zmem 250 rfl rfl
abbrev wsX5_size : List Cond := Cond.code yX5_size cX5_size 1 (some .int) :: zTbl
set_option maxRecDepth 20000 in
theorem ki_X5_size : Cond.instanceMethod yX5_size ∈ zTbl := zmem 248 rfl rfl
set_option maxRecDepth 20000 in
theorem ke_X5_size : Cond.selects RX5 yX5_size yX5_size ∈ zTbl := zmem 249 rfl rfl
set_option maxRecDepth 20000 in
theorem kc_X5_append : Cond.code yX5_append cX5_append 4 none ∈ zTbl := zmem 254 rfl rfl
abbrev wsX5_append : List Cond := Cond.code yX5_append cX5_append 4 none :: zTbl
set_option maxRecDepth 20000 in
theorem ki_X5_append : Cond.instanceMethod yX5_append ∈ zTbl := zmem 252 rfl rfl
set_option maxRecDepth 20000 in
theorem ke_X5_append : Cond.selects RX5 yX5_append yX5_append ∈ zTbl := zmem 253 rfl rfl
set_option maxRecDepth 20000 in
theorem kc_X5_cut : Cond.code yX5_cut cX5_cut 2 (some .boolean) ∈ zTbl := zmem 262 rfl rfl
abbrev wsX5_cut : List Cond := Cond.code yX5_cut cX5_cut 2 (some .boolean) :: zTbl
set_option maxRecDepth 20000 in
theorem ki_X5_cut : Cond.instanceMethod yX5_cut ∈ zTbl := zmem 260 rfl rfl
set_option maxRecDepth 20000 in
theorem ke_X5_cut : Cond.selects RX5 yX5_cut yX5_cut ∈ zTbl := zmem 261 rfl rfl
set_option maxRecDepth 20000 in
theorem kc_X5_rewind : Cond.code yX5_rewind cX5_rewind 1 none ∈ zTbl := zmem 266 rfl rfl
abbrev wsX5_rewind : List Cond := Cond.code yX5_rewind cX5_rewind 1 none :: zTbl
set_option maxRecDepth 20000 in
theorem ki_X5_rewind : Cond.instanceMethod yX5_rewind ∈ zTbl := zmem 264 rfl rfl
set_option maxRecDepth 20000 in
theorem ke_X5_rewind : Cond.selects RX5 yX5_rewind yX5_rewind ∈ zTbl := zmem 265 rfl rfl
set_option maxRecDepth 20000 in
theorem kc_X5_advance : Cond.code yX5_advance cX5_advance 4 none ∈ zTbl := zmem 270 rfl rfl
abbrev wsX5_advance : List Cond := Cond.code yX5_advance cX5_advance 4 none :: zTbl
set_option maxRecDepth 20000 in
theorem ki_X5_advance : Cond.instanceMethod yX5_advance ∈ zTbl := zmem 269 rfl rfl
set_option maxRecDepth 20000 in
theorem ke_X5_advance : Cond.selects RX5 yX5_advance yX5_advance ∈ zTbl := zmem 0 rfl rfl
set_option maxRecDepth 20000 in
theorem kc_X5_isLetter : Cond.code yX5_isLetter cX5_isLetter 1 (some .boolean) ∈ zTbl := zmem 276 rfl rfl
abbrev wsX5_isLetter : List Cond := Cond.code yX5_isLetter cX5_isLetter 1 (some .boolean) :: zTbl
set_option maxRecDepth 20000 in
theorem ks_X5_isLetter : Cond.static yX5_isLetter ∈ zTbl := zmem 275 rfl rfl
set_option maxRecDepth 20000 in
theorem kc_X5_isDigit : Cond.code yX5_isDigit cX5_isDigit 1 (some .boolean) ∈ zTbl := zmem 273 rfl rfl
abbrev wsX5_isDigit : List Cond := Cond.code yX5_isDigit cX5_isDigit 1 (some .boolean) :: zTbl
set_option maxRecDepth 20000 in
theorem ks_X5_isDigit : Cond.static yX5_isDigit ∈ zTbl := zmem 272 rfl rfl
set_option maxRecDepth 20000 in
theorem kc_X5_start : Cond.code yX5_start cX5_start 1 (some .int) ∈ zTbl := zmem 382 rfl rfl
abbrev wsX5_start : List Cond := Cond.code yX5_start cX5_start 1 (some .int) :: zTbl
set_option maxRecDepth 20000 in
theorem ki_X5_start : Cond.instanceMethod yX5_start ∈ zTbl := zmem 380 rfl rfl
set_option maxRecDepth 20000 in
theorem ke_X5_start : Cond.selects RX5 yX5_start yX5_start ∈ zTbl := zmem 381 rfl rfl
set_option maxRecDepth 20000 in
theorem kc_X5_isOver : Cond.code yX5_isOver cX5_isOver 1 (some .boolean) ∈ zTbl := zmem 378 rfl rfl
abbrev wsX5_isOver : List Cond := Cond.code yX5_isOver cX5_isOver 1 (some .boolean) :: zTbl
set_option maxRecDepth 20000 in
theorem ki_X5_isOver : Cond.instanceMethod yX5_isOver ∈ zTbl := zmem 376 rfl rfl
set_option maxRecDepth 20000 in
theorem ke_X5_isOver : Cond.selects RX5 yX5_isOver yX5_isOver ∈ zTbl := zmem 377 rfl rfl
set_option maxRecDepth 20000 in
theorem kc_X5_take : Cond.code yX5_take cX5_take 2 (some .boolean) ∈ zTbl := zmem 294 rfl rfl
abbrev wsX5_take : List Cond := Cond.code yX5_take cX5_take 2 (some .boolean) :: zTbl
set_option maxRecDepth 20000 in
theorem ki_X5_take : Cond.instanceMethod yX5_take ∈ zTbl := zmem 292 rfl rfl
set_option maxRecDepth 20000 in
theorem ke_X5_take : Cond.selects RX5 yX5_take yX5_take ∈ zTbl := zmem 293 rfl rfl
set_option maxRecDepth 20000 in
theorem kc_X5_takeName : Cond.code yX5_takeName cX5_takeName 3 (some .int) ∈ zTbl := zmem 367 rfl rfl
abbrev wsX5_takeName : List Cond := Cond.code yX5_takeName cX5_takeName 3 (some .int) :: zTbl
set_option maxRecDepth 20000 in
theorem ki_X5_takeName : Cond.instanceMethod yX5_takeName ∈ zTbl := zmem 365 rfl rfl
set_option maxRecDepth 20000 in
theorem ke_X5_takeName : Cond.selects RX5 yX5_takeName yX5_takeName ∈ zTbl := zmem 366 rfl rfl
set_option maxRecDepth 20000 in
theorem kc_X5_takeUnit : Cond.code yX5_takeUnit cX5_takeUnit 2 (some .int) ∈ zTbl := zmem 355 rfl rfl
abbrev wsX5_takeUnit : List Cond := Cond.code yX5_takeUnit cX5_takeUnit 2 (some .int) :: zTbl
set_option maxRecDepth 20000 in
theorem ki_X5_takeUnit : Cond.instanceMethod yX5_takeUnit ∈ zTbl := zmem 353 rfl rfl
set_option maxRecDepth 20000 in
theorem ke_X5_takeUnit : Cond.selects RX5 yX5_takeUnit yX5_takeUnit ∈ zTbl := zmem 354 rfl rfl
set_option maxRecDepth 20000 in
theorem kc_X5_find : Cond.code yX5_find cX5_find 6 (some .int) ∈ zTbl := zmem 308 rfl rfl
abbrev wsX5_find : List Cond := Cond.code yX5_find cX5_find 6 (some .int) :: zTbl
set_option maxRecDepth 20000 in
theorem ki_X5_find : Cond.instanceMethod yX5_find ∈ zTbl := zmem 307 rfl rfl
set_option maxRecDepth 20000 in
theorem ke_X5_find : Cond.selects RX5 yX5_find yX5_find ∈ zTbl := zmem 1 rfl rfl
set_option maxRecDepth 20000 in
theorem kc_X5_takeNumber : Cond.code yX5_takeNumber cX5_takeNumber 3 (some .int) ∈ zTbl := zmem 402 rfl rfl
abbrev wsX5_takeNumber : List Cond := Cond.code yX5_takeNumber cX5_takeNumber 3 (some .int) :: zTbl
set_option maxRecDepth 20000 in
theorem ki_X5_takeNumber : Cond.instanceMethod yX5_takeNumber ∈ zTbl := zmem 400 rfl rfl
set_option maxRecDepth 20000 in
theorem ke_X5_takeNumber : Cond.selects RX5 yX5_takeNumber yX5_takeNumber ∈ zTbl := zmem 401 rfl rfl
set_option maxRecDepth 20000 in
theorem kc_X6_init : Cond.code yX6_init cX6_init 1 none ∈ zTbl := zmem 76 rfl rfl
abbrev wsX6_init : List Cond := Cond.code yX6_init cX6_init 1 none :: zTbl
set_option maxRecDepth 20000 in
theorem ki_X6_init : Cond.instanceMethod yX6_init ∈ zTbl := zmem 75 rfl rfl
set_option maxRecDepth 20000 in
theorem kc_X6_feed : Cond.code yX6_feed cX6_feed 7 (some .int) ∈ zTbl := zmem 243 rfl rfl
abbrev wsX6_feed : List Cond := Cond.code yX6_feed cX6_feed 7 (some .int) :: zTbl
set_option maxRecDepth 20000 in
theorem ki_X6_feed : Cond.instanceMethod yX6_feed ∈ zTbl := zmem 241 rfl rfl
set_option maxRecDepth 20000 in
theorem ke_X6_feed : Cond.selects RX6 yX6_feed yX6_feed ∈ zTbl := zmem 242 rfl rfl
set_option maxRecDepth 20000 in
theorem kc_X6_end : Cond.code yX6_end cX6_end 2 (some .boolean) ∈ zTbl := zmem 258 rfl rfl
abbrev wsX6_end : List Cond := Cond.code yX6_end cX6_end 2 (some .boolean) :: zTbl
set_option maxRecDepth 20000 in
theorem ki_X6_end : Cond.instanceMethod yX6_end ∈ zTbl := zmem 256 rfl rfl
set_option maxRecDepth 20000 in
theorem ke_X6_end : Cond.selects RX6 yX6_end yX6_end ∈ zTbl := zmem 257 rfl rfl
set_option maxRecDepth 20000 in
theorem kc_X6_fault : Cond.code yX6_fault cX6_fault 1 (some .int) ∈ zTbl := zmem 280 rfl rfl
abbrev wsX6_fault : List Cond := Cond.code yX6_fault cX6_fault 1 (some .int) :: zTbl
set_option maxRecDepth 20000 in
theorem ki_X6_fault : Cond.instanceMethod yX6_fault ∈ zTbl := zmem 278 rfl rfl
set_option maxRecDepth 20000 in
theorem ke_X6_fault : Cond.selects RX6 yX6_fault yX6_fault ∈ zTbl := zmem 279 rfl rfl
set_option maxRecDepth 20000 in
theorem kc_X6_tale : Cond.code yX6_tale cX6_tale 2 (some .boolean) ∈ zTbl := zmem 434 rfl rfl
abbrev wsX6_tale : List Cond := Cond.code yX6_tale cX6_tale 2 (some .boolean) :: zTbl
set_option maxRecDepth 20000 in
theorem ki_X6_tale : Cond.instanceMethod yX6_tale ∈ zTbl := zmem 432 rfl rfl
set_option maxRecDepth 20000 in
theorem ke_X6_tale : Cond.selects RX6 yX6_tale yX6_tale ∈ zTbl := zmem 433 rfl rfl
set_option maxRecDepth 20000 in
theorem kc_X6_sentences : Cond.code yX6_sentences cX6_sentences 1 (some .int) ∈ zTbl := zmem 544 rfl rfl
abbrev wsX6_sentences : List Cond := Cond.code yX6_sentences cX6_sentences 1 (some .int) :: zTbl
set_option maxRecDepth 20000 in
theorem ki_X6_sentences : Cond.instanceMethod yX6_sentences ∈ zTbl := zmem 542 rfl rfl
set_option maxRecDepth 20000 in
theorem ke_X6_sentences : Cond.selects RX6 yX6_sentences yX6_sentences ∈ zTbl := zmem 543 rfl rfl
set_option maxRecDepth 20000 in
theorem kc_X6_sentence : Cond.code yX6_sentence cX6_sentence 3 (some .int) ∈ zTbl := zmem 710 rfl rfl
abbrev wsX6_sentence : List Cond := Cond.code yX6_sentence cX6_sentence 3 (some .int) :: zTbl
set_option maxRecDepth 20000 in
theorem ki_X6_sentence : Cond.instanceMethod yX6_sentence ∈ zTbl := zmem 708 rfl rfl
set_option maxRecDepth 20000 in
theorem ke_X6_sentence : Cond.selects RX6 yX6_sentence yX6_sentence ∈ zTbl := zmem 709 rfl rfl
set_option maxRecDepth 20000 in
theorem kc_X6_question : Cond.code yX6_question cX6_question 2 (some .int) ∈ zTbl := zmem 549 rfl rfl
abbrev wsX6_question : List Cond := Cond.code yX6_question cX6_question 2 (some .int) :: zTbl
set_option maxRecDepth 20000 in
theorem ki_X6_question : Cond.instanceMethod yX6_question ∈ zTbl := zmem 547 rfl rfl
set_option maxRecDepth 20000 in
theorem ke_X6_question : Cond.selects RX6 yX6_question yX6_question ∈ zTbl := zmem 548 rfl rfl
set_option maxRecDepth 20000 in
theorem kc_X6_quarrel : Cond.code yX6_quarrel cX6_quarrel 1 (some .int) ∈ zTbl := zmem 554 rfl rfl
abbrev wsX6_quarrel : List Cond := Cond.code yX6_quarrel cX6_quarrel 1 (some .int) :: zTbl
set_option maxRecDepth 20000 in
theorem ki_X6_quarrel : Cond.instanceMethod yX6_quarrel ∈ zTbl := zmem 552 rfl rfl
set_option maxRecDepth 20000 in
theorem ke_X6_quarrel : Cond.selects RX6 yX6_quarrel yX6_quarrel ∈ zTbl := zmem 553 rfl rfl
set_option maxRecDepth 20000 in
theorem kc_X6_answer : Cond.code yX6_answer cX6_answer 2 (some .long) ∈ zTbl := zmem 562 rfl rfl
abbrev wsX6_answer : List Cond := Cond.code yX6_answer cX6_answer 2 (some .long) :: zTbl
set_option maxRecDepth 20000 in
theorem ki_X6_answer : Cond.instanceMethod yX6_answer ∈ zTbl := zmem 560 rfl rfl
set_option maxRecDepth 20000 in
theorem ke_X6_answer : Cond.selects RX6 yX6_answer yX6_answer ∈ zTbl := zmem 561 rfl rfl
set_option maxRecDepth 20000 in
theorem kc_X6_amount : Cond.code yX6_amount cX6_amount 5 (some .long) ∈ zTbl := zmem 575 rfl rfl
abbrev wsX6_amount : List Cond := Cond.code yX6_amount cX6_amount 5 (some .long) :: zTbl
set_option maxRecDepth 20000 in
theorem ki_X6_amount : Cond.instanceMethod yX6_amount ∈ zTbl := zmem 573 rfl rfl
set_option maxRecDepth 20000 in
theorem ke_X6_amount : Cond.selects RX6 yX6_amount yX6_amount ∈ zTbl := zmem 574 rfl rfl
set_option maxRecDepth 20000 in
theorem kc_X6_idle : Cond.code yX6_idle cX6_idle 1 (some .int) ∈ zTbl := zmem 591 rfl rfl
abbrev wsX6_idle : List Cond := Cond.code yX6_idle cX6_idle 1 (some .int) :: zTbl
set_option maxRecDepth 20000 in
theorem ki_X6_idle : Cond.instanceMethod yX6_idle ∈ zTbl := zmem 589 rfl rfl
set_option maxRecDepth 20000 in
theorem ke_X6_idle : Cond.selects RX6 yX6_idle yX6_idle ∈ zTbl := zmem 590 rfl rfl
set_option maxRecDepth 20000 in
theorem kc_X6_enough : Cond.code yX6_enough cX6_enough 1 (some .int) ∈ zTbl := zmem 607 rfl rfl
abbrev wsX6_enough : List Cond := Cond.code yX6_enough cX6_enough 1 (some .int) :: zTbl
set_option maxRecDepth 20000 in
theorem ki_X6_enough : Cond.instanceMethod yX6_enough ∈ zTbl := zmem 605 rfl rfl
set_option maxRecDepth 20000 in
theorem ke_X6_enough : Cond.selects RX6 yX6_enough yX6_enough ∈ zTbl := zmem 606 rfl rfl
set_option maxRecDepth 20000 in
theorem kc_X6_lacking : Cond.code yX6_lacking cX6_lacking 1 (some .int) ∈ zTbl := zmem 626 rfl rfl
abbrev wsX6_lacking : List Cond := Cond.code yX6_lacking cX6_lacking 1 (some .int) :: zTbl
set_option maxRecDepth 20000 in
theorem ki_X6_lacking : Cond.instanceMethod yX6_lacking ∈ zTbl := zmem 624 rfl rfl
set_option maxRecDepth 20000 in
theorem ke_X6_lacking : Cond.selects RX6 yX6_lacking yX6_lacking ∈ zTbl := zmem 625 rfl rfl
set_option maxRecDepth 20000 in
theorem kc_X6_strange : Cond.code yX6_strange cX6_strange 2 (some .int) ∈ zTbl := zmem 637 rfl rfl
abbrev wsX6_strange : List Cond := Cond.code yX6_strange cX6_strange 2 (some .int) :: zTbl
set_option maxRecDepth 20000 in
theorem ki_X6_strange : Cond.instanceMethod yX6_strange ∈ zTbl := zmem 635 rfl rfl
set_option maxRecDepth 20000 in
theorem ke_X6_strange : Cond.selects RX6 yX6_strange yX6_strange ∈ zTbl := zmem 636 rfl rfl
set_option maxRecDepth 20000 in
theorem kc_X6_put : Cond.code yX6_put cX6_put 3 (some .boolean) ∈ zTbl := zmem 652 rfl rfl
abbrev wsX6_put : List Cond := Cond.code yX6_put cX6_put 3 (some .boolean) :: zTbl
set_option maxRecDepth 20000 in
theorem ki_X6_put : Cond.instanceMethod yX6_put ∈ zTbl := zmem 650 rfl rfl
set_option maxRecDepth 20000 in
theorem ke_X6_put : Cond.selects RX6 yX6_put yX6_put ∈ zTbl := zmem 651 rfl rfl
set_option maxRecDepth 20000 in
theorem kc_X6_undo : Cond.code yX6_undo cX6_undo 2 (some .int) ∈ zTbl := zmem 675 rfl rfl
abbrev wsX6_undo : List Cond := Cond.code yX6_undo cX6_undo 2 (some .int) :: zTbl
set_option maxRecDepth 20000 in
theorem ki_X6_undo : Cond.instanceMethod yX6_undo ∈ zTbl := zmem 673 rfl rfl
set_option maxRecDepth 20000 in
theorem ke_X6_undo : Cond.selects RX6 yX6_undo yX6_undo ∈ zTbl := zmem 674 rfl rfl
set_option maxRecDepth 20000 in
theorem kc_X6_count : Cond.code yX6_count cX6_count 2 (some .int) ∈ zTbl := zmem 695 rfl rfl
abbrev wsX6_count : List Cond := Cond.code yX6_count cX6_count 2 (some .int) :: zTbl
set_option maxRecDepth 20000 in
theorem ki_X6_count : Cond.instanceMethod yX6_count ∈ zTbl := zmem 693 rfl rfl
set_option maxRecDepth 20000 in
theorem ke_X6_count : Cond.selects RX6 yX6_count yX6_count ∈ zTbl := zmem 694 rfl rfl
set_option maxRecDepth 20000 in
theorem kc_X7_init : Cond.code yX7_init cX7_init 1 none ∈ zTbl := zmem 777 rfl rfl
abbrev wsX7_init : List Cond := Cond.code yX7_init cX7_init 1 none :: zTbl
set_option maxRecDepth 20000 in
theorem ki_X7_init : Cond.instanceMethod yX7_init ∈ zTbl := zmem 776 rfl rfl
set_option maxRecDepth 20000 in
theorem kc_X7_thrown : Cond.code yX7_thrown cX7_thrown 1 (some .int) ∈ zTbl := zmem 864 rfl rfl
abbrev wsX7_thrown : List Cond := Cond.code yX7_thrown cX7_thrown 1 (some .int) :: zTbl
set_option maxRecDepth 20000 in
theorem ki_X7_thrown : Cond.instanceMethod yX7_thrown ∈ zTbl := zmem 862 rfl rfl
set_option maxRecDepth 20000 in
theorem ke_X7_thrown : Cond.selects RX7 yX7_thrown yX7_thrown ∈ zTbl := zmem 863 rfl rfl
set_option maxRecDepth 20000 in
theorem kc_X7_isIn : Cond.code yX7_isIn cX7_isIn 3 (some .boolean) ∈ zTbl := zmem 966 rfl rfl
abbrev wsX7_isIn : List Cond := Cond.code yX7_isIn cX7_isIn 3 (some .boolean) :: zTbl
set_option maxRecDepth 20000 in
theorem ks_X7_isIn : Cond.static yX7_isIn ∈ zTbl := zmem 965 rfl rfl
set_option maxRecDepth 20000 in
theorem kc_X7_bytesIn : Cond.code yX7_bytesIn cX7_bytesIn 3 (some .int) ∈ zTbl := zmem 871 rfl rfl
abbrev wsX7_bytesIn : List Cond := Cond.code yX7_bytesIn cX7_bytesIn 3 (some .int) :: zTbl
set_option maxRecDepth 20000 in
theorem ks_X7_bytesIn : Cond.static yX7_bytesIn ∈ zTbl := zmem 870 rfl rfl
set_option maxRecDepth 20000 in
theorem kc_X7_put4 : Cond.code yX7_put4 cX7_put4 3 none ∈ zTbl := zmem 875 rfl rfl
abbrev wsX7_put4 : List Cond := Cond.code yX7_put4 cX7_put4 3 none :: zTbl
set_option maxRecDepth 20000 in
theorem ki_X7_put4 : Cond.instanceMethod yX7_put4 ∈ zTbl := zmem 874 rfl rfl
set_option maxRecDepth 20000 in
theorem ke_X7_put4 : Cond.selects RX7 yX7_put4 yX7_put4 ∈ zTbl := zmem 23 rfl rfl
set_option maxRecDepth 20000 in
theorem kc_X7_feed : Cond.code yX7_feed cX7_feed 6 (some .int) ∈ zTbl := zmem 868 rfl rfl
abbrev wsX7_feed : List Cond := Cond.code yX7_feed cX7_feed 6 (some .int) :: zTbl
set_option maxRecDepth 20000 in
theorem ki_X7_feed : Cond.instanceMethod yX7_feed ∈ zTbl := zmem 866 rfl rfl
set_option maxRecDepth 20000 in
theorem ke_X7_feed : Cond.selects RX7 yX7_feed yX7_feed ∈ zTbl := zmem 867 rfl rfl
set_option maxRecDepth 20000 in
theorem kc_X7_end : Cond.code yX7_end cX7_end 2 (some .boolean) ∈ zTbl := zmem 879 rfl rfl
abbrev wsX7_end : List Cond := Cond.code yX7_end cX7_end 2 (some .boolean) :: zTbl
set_option maxRecDepth 20000 in
theorem ki_X7_end : Cond.instanceMethod yX7_end ∈ zTbl := zmem 877 rfl rfl
set_option maxRecDepth 20000 in
theorem ke_X7_end : Cond.selects RX7 yX7_end yX7_end ∈ zTbl := zmem 878 rfl rfl
set_option maxRecDepth 20000 in
theorem kc_X7_isSmall : Cond.code yX7_isSmall cX7_isSmall 1 (some .boolean) ∈ zTbl := zmem 894 rfl rfl
abbrev wsX7_isSmall : List Cond := Cond.code yX7_isSmall cX7_isSmall 1 (some .boolean) :: zTbl
set_option maxRecDepth 20000 in
theorem ks_X7_isSmall : Cond.static yX7_isSmall ∈ zTbl := zmem 893 rfl rfl
set_option maxRecDepth 20000 in
theorem kc_X7_isDigit : Cond.code yX7_isDigit cX7_isDigit 1 (some .boolean) ∈ zTbl := zmem 897 rfl rfl
abbrev wsX7_isDigit : List Cond := Cond.code yX7_isDigit cX7_isDigit 1 (some .boolean) :: zTbl
set_option maxRecDepth 20000 in
theorem ks_X7_isDigit : Cond.static yX7_isDigit ∈ zTbl := zmem 896 rfl rfl
set_option maxRecDepth 20000 in
theorem kc_X7_next : Cond.code yX7_next cX7_next 2 none ∈ zTbl := zmem 891 rfl rfl
abbrev wsX7_next : List Cond := Cond.code yX7_next cX7_next 2 none :: zTbl
set_option maxRecDepth 20000 in
theorem ki_X7_next : Cond.instanceMethod yX7_next ∈ zTbl := zmem 890 rfl rfl
set_option maxRecDepth 20000 in
theorem ke_X7_next : Cond.selects RX7 yX7_next yX7_next ∈ zTbl := zmem 25 rfl rfl
set_option maxRecDepth 20000 in
theorem kc_X7_is : Cond.code yX7_is cX7_is 3 (some .boolean) ∈ zTbl := zmem 902 rfl rfl
abbrev wsX7_is : List Cond := Cond.code yX7_is cX7_is 3 (some .boolean) :: zTbl
set_option maxRecDepth 20000 in
theorem ki_X7_is : Cond.instanceMethod yX7_is ∈ zTbl := zmem 901 rfl rfl
set_option maxRecDepth 20000 in
theorem ke_X7_is : Cond.selects RX7 yX7_is yX7_is ∈ zTbl := zmem 26 rfl rfl
set_option maxRecDepth 20000 in
theorem kc_X7_takes : Cond.code yX7_takes cX7_takes 2 (some .boolean) ∈ zTbl := zmem 932 rfl rfl
abbrev wsX7_takes : List Cond := Cond.code yX7_takes cX7_takes 2 (some .boolean) :: zTbl
set_option maxRecDepth 20000 in
theorem ki_X7_takes : Cond.instanceMethod yX7_takes ∈ zTbl := zmem 931 rfl rfl
set_option maxRecDepth 20000 in
theorem ke_X7_takes : Cond.selects RX7 yX7_takes yX7_takes ∈ zTbl := zmem 30 rfl rfl
set_option maxRecDepth 20000 in
theorem kc_X7_one : Cond.code yX7_one cX7_one 4 (some .int) ∈ zTbl := zmem 915 rfl rfl
abbrev wsX7_one : List Cond := Cond.code yX7_one cX7_one 4 (some .int) :: zTbl
set_option maxRecDepth 20000 in
theorem ks_X7_one : Cond.static yX7_one ∈ zTbl := zmem 914 rfl rfl
set_option maxRecDepth 20000 in
theorem kc_X7_name : Cond.code yX7_name cX7_name 2 (some .int) ∈ zTbl := zmem 908 rfl rfl
abbrev wsX7_name : List Cond := Cond.code yX7_name cX7_name 2 (some .int) :: zTbl
set_option maxRecDepth 20000 in
theorem ki_X7_name : Cond.instanceMethod yX7_name ∈ zTbl := zmem 907 rfl rfl
set_option maxRecDepth 20000 in
theorem ke_X7_name : Cond.selects RX7 yX7_name yX7_name ∈ zTbl := zmem 27 rfl rfl
set_option maxRecDepth 20000 in
theorem kc_X7_unit : Cond.code yX7_unit cX7_unit 1 (some .int) ∈ zTbl := zmem 949 rfl rfl
abbrev wsX7_unit : List Cond := Cond.code yX7_unit cX7_unit 1 (some .int) :: zTbl
set_option maxRecDepth 20000 in
theorem ki_X7_unit : Cond.instanceMethod yX7_unit ∈ zTbl := zmem 948 rfl rfl
set_option maxRecDepth 20000 in
theorem ke_X7_unit : Cond.selects RX7 yX7_unit yX7_unit ∈ zTbl := zmem 34 rfl rfl
set_option maxRecDepth 20000 in
theorem kc_X7_number : Cond.code yX7_number cX7_number 3 (some .int) ∈ zTbl := zmem 941 rfl rfl
abbrev wsX7_number : List Cond := Cond.code yX7_number cX7_number 3 (some .int) :: zTbl
set_option maxRecDepth 20000 in
theorem ki_X7_number : Cond.instanceMethod yX7_number ∈ zTbl := zmem 940 rfl rfl
set_option maxRecDepth 20000 in
theorem ke_X7_number : Cond.selects RX7 yX7_number yX7_number ∈ zTbl := zmem 32 rfl rfl
set_option maxRecDepth 20000 in
theorem kc_X7_takesName : Cond.code yX7_takesName cX7_takesName 3 (some .boolean) ∈ zTbl := zmem 927 rfl rfl
abbrev wsX7_takesName : List Cond := Cond.code yX7_takesName cX7_takesName 3 (some .boolean) :: zTbl
set_option maxRecDepth 20000 in
theorem ki_X7_takesName : Cond.instanceMethod yX7_takesName ∈ zTbl := zmem 926 rfl rfl
set_option maxRecDepth 20000 in
theorem ke_X7_takesName : Cond.selects RX7 yX7_takesName yX7_takesName ∈ zTbl := zmem 29 rfl rfl
set_option maxRecDepth 20000 in
theorem kc_X7_takesUnit : Cond.code yX7_takesUnit cX7_takesUnit 1 (some .boolean) ∈ zTbl := zmem 945 rfl rfl
abbrev wsX7_takesUnit : List Cond := Cond.code yX7_takesUnit cX7_takesUnit 1 (some .boolean) :: zTbl
set_option maxRecDepth 20000 in
theorem ki_X7_takesUnit : Cond.instanceMethod yX7_takesUnit ∈ zTbl := zmem 944 rfl rfl
set_option maxRecDepth 20000 in
theorem ke_X7_takesUnit : Cond.selects RX7 yX7_takesUnit yX7_takesUnit ∈ zTbl := zmem 33 rfl rfl
set_option maxRecDepth 20000 in
theorem kc_X7_takesNumber : Cond.code yX7_takesNumber cX7_takesNumber 1 (some .boolean) ∈ zTbl := zmem 937 rfl rfl
abbrev wsX7_takesNumber : List Cond := Cond.code yX7_takesNumber cX7_takesNumber 1 (some .boolean) :: zTbl
set_option maxRecDepth 20000 in
theorem ki_X7_takesNumber : Cond.instanceMethod yX7_takesNumber ∈ zTbl := zmem 936 rfl rfl
set_option maxRecDepth 20000 in
theorem ke_X7_takesNumber : Cond.selects RX7 yX7_takesNumber yX7_takesNumber ∈ zTbl := zmem 31 rfl rfl
set_option maxRecDepth 20000 in
theorem kc_X7_sentence : Cond.code yX7_sentence cX7_sentence 2 (some .boolean) ∈ zTbl := zmem 923 rfl rfl
abbrev wsX7_sentence : List Cond := Cond.code yX7_sentence cX7_sentence 2 (some .boolean) :: zTbl
set_option maxRecDepth 20000 in
theorem ki_X7_sentence : Cond.instanceMethod yX7_sentence ∈ zTbl := zmem 922 rfl rfl
set_option maxRecDepth 20000 in
theorem ke_X7_sentence : Cond.selects RX7 yX7_sentence yX7_sentence ∈ zTbl := zmem 28 rfl rfl
set_option maxRecDepth 20000 in
theorem kc_X7_asks : Cond.code yX7_asks cX7_asks 2 (some .boolean) ∈ zTbl := zmem 972 rfl rfl
abbrev wsX7_asks : List Cond := Cond.code yX7_asks cX7_asks 2 (some .boolean) :: zTbl
set_option maxRecDepth 20000 in
theorem ki_X7_asks : Cond.instanceMethod yX7_asks ∈ zTbl := zmem 971 rfl rfl
set_option maxRecDepth 20000 in
theorem ke_X7_asks : Cond.selects RX7 yX7_asks yX7_asks ∈ zTbl := zmem 35 rfl rfl
set_option maxRecDepth 20000 in
theorem kc_X7_reads : Cond.code yX7_reads cX7_reads 4 (some .int) ∈ zTbl := zmem 887 rfl rfl
abbrev wsX7_reads : List Cond := Cond.code yX7_reads cX7_reads 4 (some .int) :: zTbl
set_option maxRecDepth 20000 in
theorem ki_X7_reads : Cond.instanceMethod yX7_reads ∈ zTbl := zmem 886 rfl rfl
set_option maxRecDepth 20000 in
theorem ke_X7_reads : Cond.selects RX7 yX7_reads yX7_reads ∈ zTbl := zmem 24 rfl rfl
set_option maxRecDepth 20000 in
theorem kc_X7_fault : Cond.code yX7_fault cX7_fault 1 (some .int) ∈ zTbl := zmem 883 rfl rfl
abbrev wsX7_fault : List Cond := Cond.code yX7_fault cX7_fault 1 (some .int) :: zTbl
set_option maxRecDepth 20000 in
theorem ki_X7_fault : Cond.instanceMethod yX7_fault ∈ zTbl := zmem 881 rfl rfl
set_option maxRecDepth 20000 in
theorem ke_X7_fault : Cond.selects RX7 yX7_fault yX7_fault ∈ zTbl := zmem 882 rfl rfl
set_option maxRecDepth 20000 in
theorem kc_X7_tale : Cond.code yX7_tale cX7_tale 2 (some .boolean) ∈ zTbl := zmem 978 rfl rfl
abbrev wsX7_tale : List Cond := Cond.code yX7_tale cX7_tale 2 (some .boolean) :: zTbl
set_option maxRecDepth 20000 in
theorem ki_X7_tale : Cond.instanceMethod yX7_tale ∈ zTbl := zmem 976 rfl rfl
set_option maxRecDepth 20000 in
theorem ke_X7_tale : Cond.selects RX7 yX7_tale yX7_tale ∈ zTbl := zmem 977 rfl rfl
set_option maxRecDepth 20000 in
theorem kc_X7_sentences : Cond.code yX7_sentences cX7_sentences 1 (some .int) ∈ zTbl := zmem 982 rfl rfl
abbrev wsX7_sentences : List Cond := Cond.code yX7_sentences cX7_sentences 1 (some .int) :: zTbl
set_option maxRecDepth 20000 in
theorem ki_X7_sentences : Cond.instanceMethod yX7_sentences ∈ zTbl := zmem 980 rfl rfl
set_option maxRecDepth 20000 in
theorem ke_X7_sentences : Cond.selects RX7 yX7_sentences yX7_sentences ∈ zTbl := zmem 981 rfl rfl
set_option maxRecDepth 20000 in
theorem kc_X7_of : Cond.code yX7_of cX7_of 3 (some .int) ∈ zTbl := zmem 990 rfl rfl
abbrev wsX7_of : List Cond := Cond.code yX7_of cX7_of 3 (some .int) :: zTbl
set_option maxRecDepth 20000 in
theorem ki_X7_of : Cond.instanceMethod yX7_of ∈ zTbl := zmem 989 rfl rfl
set_option maxRecDepth 20000 in
theorem ke_X7_of : Cond.selects RX7 yX7_of yX7_of ∈ zTbl := zmem 36 rfl rfl
set_option maxRecDepth 20000 in
theorem kc_X7_sentence_ : Cond.code yX7_sentence_ cX7_sentence_ 3 (some .int) ∈ zTbl := zmem 986 rfl rfl
abbrev wsX7_sentence_ : List Cond := Cond.code yX7_sentence_ cX7_sentence_ 3 (some .int) :: zTbl
set_option maxRecDepth 20000 in
theorem ki_X7_sentence_ : Cond.instanceMethod yX7_sentence_ ∈ zTbl := zmem 984 rfl rfl
set_option maxRecDepth 20000 in
theorem ke_X7_sentence_ : Cond.selects RX7 yX7_sentence_ yX7_sentence_ ∈ zTbl := zmem 985 rfl rfl
set_option maxRecDepth 20000 in
theorem kc_X7_question : Cond.code yX7_question cX7_question 2 (some .int) ∈ zTbl := zmem 994 rfl rfl
abbrev wsX7_question : List Cond := Cond.code yX7_question cX7_question 2 (some .int) :: zTbl
set_option maxRecDepth 20000 in
theorem ki_X7_question : Cond.instanceMethod yX7_question ∈ zTbl := zmem 992 rfl rfl
set_option maxRecDepth 20000 in
theorem ke_X7_question : Cond.selects RX7 yX7_question yX7_question ∈ zTbl := zmem 993 rfl rfl
set_option maxRecDepth 20000 in
theorem kc_X7_more : Cond.code yX7_more cX7_more 7 (some .int) ∈ zTbl := zmem 1018 rfl rfl
abbrev wsX7_more : List Cond := Cond.code yX7_more cX7_more 7 (some .int) :: zTbl
set_option maxRecDepth 20000 in
theorem ki_X7_more : Cond.instanceMethod yX7_more ∈ zTbl := zmem 1017 rfl rfl
set_option maxRecDepth 20000 in
theorem ke_X7_more : Cond.selects RX7 yX7_more yX7_more ∈ zTbl := zmem 41 rfl rfl
set_option maxRecDepth 20000 in
theorem kc_X7_common : Cond.code yX7_common cX7_common 10 (some .long) ∈ zTbl := zmem 1026 rfl rfl
abbrev wsX7_common : List Cond := Cond.code yX7_common cX7_common 10 (some .long) :: zTbl
set_option maxRecDepth 20000 in
theorem ks_X7_common : Cond.static yX7_common ∈ zTbl := zmem 1025 rfl rfl
set_option maxRecDepth 20000 in
theorem kc_X7_law : Cond.code yX7_law cX7_law 12 none ∈ zTbl := zmem 1014 rfl rfl
abbrev wsX7_law : List Cond := Cond.code yX7_law cX7_law 12 none :: zTbl
set_option maxRecDepth 20000 in
theorem ki_X7_law : Cond.instanceMethod yX7_law ∈ zTbl := zmem 1013 rfl rfl
set_option maxRecDepth 20000 in
theorem ke_X7_law : Cond.selects RX7 yX7_law yX7_law ∈ zTbl := zmem 40 rfl rfl
set_option maxRecDepth 20000 in
theorem kc_X7_adds : Cond.code yX7_adds cX7_adds 9 (some .boolean) ∈ zTbl := zmem 1023 rfl rfl
abbrev wsX7_adds : List Cond := Cond.code yX7_adds cX7_adds 9 (some .boolean) :: zTbl
set_option maxRecDepth 20000 in
theorem ki_X7_adds : Cond.instanceMethod yX7_adds ∈ zTbl := zmem 1022 rfl rfl
set_option maxRecDepth 20000 in
theorem ke_X7_adds : Cond.selects RX7 yX7_adds yX7_adds ∈ zTbl := zmem 42 rfl rfl
set_option maxRecDepth 20000 in
theorem kc_X7_isFact : Cond.code yX7_isFact cX7_isFact 2 (some .boolean) ∈ zTbl := zmem 1006 rfl rfl
abbrev wsX7_isFact : List Cond := Cond.code yX7_isFact cX7_isFact 2 (some .boolean) :: zTbl
set_option maxRecDepth 20000 in
theorem ki_X7_isFact : Cond.instanceMethod yX7_isFact ∈ zTbl := zmem 1005 rfl rfl
set_option maxRecDepth 20000 in
theorem ke_X7_isFact : Cond.selects RX7 yX7_isFact yX7_isFact ∈ zTbl := zmem 38 rfl rfl
set_option maxRecDepth 20000 in
theorem kc_X7_gather : Cond.code yX7_gather cX7_gather 5 (some .boolean) ∈ zTbl := zmem 1010 rfl rfl
abbrev wsX7_gather : List Cond := Cond.code yX7_gather cX7_gather 5 (some .boolean) :: zTbl
set_option maxRecDepth 20000 in
theorem ki_X7_gather : Cond.instanceMethod yX7_gather ∈ zTbl := zmem 1009 rfl rfl
set_option maxRecDepth 20000 in
theorem ke_X7_gather : Cond.selects RX7 yX7_gather yX7_gather ∈ zTbl := zmem 39 rfl rfl
set_option maxRecDepth 20000 in
theorem kc_X7_settles : Cond.code yX7_settles cX7_settles 11 (some .boolean) ∈ zTbl := zmem 1049 rfl rfl
abbrev wsX7_settles : List Cond := Cond.code yX7_settles cX7_settles 11 (some .boolean) :: zTbl
set_option maxRecDepth 20000 in
theorem ki_X7_settles : Cond.instanceMethod yX7_settles ∈ zTbl := zmem 1048 rfl rfl
set_option maxRecDepth 20000 in
theorem ke_X7_settles : Cond.selects RX7 yX7_settles yX7_settles ∈ zTbl := zmem 46 rfl rfl
set_option maxRecDepth 20000 in
theorem kc_X7_part : Cond.code yX7_part cX7_part 4 (some .long) ∈ zTbl := zmem 1054 rfl rfl
abbrev wsX7_part : List Cond := Cond.code yX7_part cX7_part 4 (some .long) :: zTbl
set_option maxRecDepth 20000 in
theorem ki_X7_part : Cond.instanceMethod yX7_part ∈ zTbl := zmem 1053 rfl rfl
set_option maxRecDepth 20000 in
theorem ke_X7_part : Cond.selects RX7 yX7_part yX7_part ∈ zTbl := zmem 47 rfl rfl
set_option maxRecDepth 20000 in
theorem kc_X7_all : Cond.code yX7_all cX7_all 1 (some .int) ∈ zTbl := zmem 1041 rfl rfl
abbrev wsX7_all : List Cond := Cond.code yX7_all cX7_all 1 (some .int) :: zTbl
set_option maxRecDepth 20000 in
theorem ki_X7_all : Cond.instanceMethod yX7_all ∈ zTbl := zmem 1040 rfl rfl
set_option maxRecDepth 20000 in
theorem ke_X7_all : Cond.selects RX7 yX7_all yX7_all ∈ zTbl := zmem 44 rfl rfl
set_option maxRecDepth 20000 in
theorem kc_X7_quarrelAt : Cond.code yX7_quarrelAt cX7_quarrelAt 2 (some .int) ∈ zTbl := zmem 1002 rfl rfl
abbrev wsX7_quarrelAt : List Cond := Cond.code yX7_quarrelAt cX7_quarrelAt 2 (some .int) :: zTbl
set_option maxRecDepth 20000 in
theorem ki_X7_quarrelAt : Cond.instanceMethod yX7_quarrelAt ∈ zTbl := zmem 1001 rfl rfl
set_option maxRecDepth 20000 in
theorem ke_X7_quarrelAt : Cond.selects RX7 yX7_quarrelAt yX7_quarrelAt ∈ zTbl := zmem 37 rfl rfl
set_option maxRecDepth 20000 in
theorem kc_X7_quarrel : Cond.code yX7_quarrel cX7_quarrel 1 (some .int) ∈ zTbl := zmem 998 rfl rfl
abbrev wsX7_quarrel : List Cond := Cond.code yX7_quarrel cX7_quarrel 1 (some .int) :: zTbl
set_option maxRecDepth 20000 in
theorem ki_X7_quarrel : Cond.instanceMethod yX7_quarrel ∈ zTbl := zmem 996 rfl rfl
set_option maxRecDepth 20000 in
theorem ke_X7_quarrel : Cond.selects RX7 yX7_quarrel yX7_quarrel ∈ zTbl := zmem 997 rfl rfl
set_option maxRecDepth 20000 in
theorem kc_X7_answersBy : Cond.code yX7_answersBy cX7_answersBy 2 (some .boolean) ∈ zTbl := zmem 1045 rfl rfl
abbrev wsX7_answersBy : List Cond := Cond.code yX7_answersBy cX7_answersBy 2 (some .boolean) :: zTbl
set_option maxRecDepth 20000 in
theorem ki_X7_answersBy : Cond.instanceMethod yX7_answersBy ∈ zTbl := zmem 1044 rfl rfl
set_option maxRecDepth 20000 in
theorem ke_X7_answersBy : Cond.selects RX7 yX7_answersBy yX7_answersBy ∈ zTbl := zmem 45 rfl rfl
set_option maxRecDepth 20000 in
theorem kc_X7_hasAnswer : Cond.code yX7_hasAnswer cX7_hasAnswer 1 (some .boolean) ∈ zTbl := zmem 1037 rfl rfl
abbrev wsX7_hasAnswer : List Cond := Cond.code yX7_hasAnswer cX7_hasAnswer 1 (some .boolean) :: zTbl
set_option maxRecDepth 20000 in
theorem ki_X7_hasAnswer : Cond.instanceMethod yX7_hasAnswer ∈ zTbl := zmem 1036 rfl rfl
set_option maxRecDepth 20000 in
theorem ke_X7_hasAnswer : Cond.selects RX7 yX7_hasAnswer yX7_hasAnswer ∈ zTbl := zmem 43 rfl rfl
set_option maxRecDepth 20000 in
theorem kc_X7_answer : Cond.code yX7_answer cX7_answer 2 (some .long) ∈ zTbl := zmem 1033 rfl rfl
abbrev wsX7_answer : List Cond := Cond.code yX7_answer cX7_answer 2 (some .long) :: zTbl
set_option maxRecDepth 20000 in
theorem ki_X7_answer : Cond.instanceMethod yX7_answer ∈ zTbl := zmem 1031 rfl rfl
set_option maxRecDepth 20000 in
theorem ke_X7_answer : Cond.selects RX7 yX7_answer yX7_answer ∈ zTbl := zmem 1032 rfl rfl
set_option maxRecDepth 20000 in
theorem kc_X7_stages : Cond.code yX7_stages cX7_stages 3 (some .int) ∈ zTbl := zmem 1062 rfl rfl
abbrev wsX7_stages : List Cond := Cond.code yX7_stages cX7_stages 3 (some .int) :: zTbl
set_option maxRecDepth 20000 in
theorem ki_X7_stages : Cond.instanceMethod yX7_stages ∈ zTbl := zmem 1061 rfl rfl
set_option maxRecDepth 20000 in
theorem ke_X7_stages : Cond.selects RX7 yX7_stages yX7_stages ∈ zTbl := zmem 48 rfl rfl
set_option maxRecDepth 20000 in
theorem kc_X7_amounts : Cond.code yX7_amounts cX7_amounts 4 (some .boolean) ∈ zTbl := zmem 1066 rfl rfl
abbrev wsX7_amounts : List Cond := Cond.code yX7_amounts cX7_amounts 4 (some .boolean) :: zTbl
set_option maxRecDepth 20000 in
theorem ki_X7_amounts : Cond.instanceMethod yX7_amounts ∈ zTbl := zmem 1065 rfl rfl
set_option maxRecDepth 20000 in
theorem ke_X7_amounts : Cond.selects RX7 yX7_amounts yX7_amounts ∈ zTbl := zmem 49 rfl rfl
set_option maxRecDepth 20000 in
theorem kc_X7_amount : Cond.code yX7_amount cX7_amount 5 (some .long) ∈ zTbl := zmem 1058 rfl rfl
abbrev wsX7_amount : List Cond := Cond.code yX7_amount cX7_amount 5 (some .long) :: zTbl
set_option maxRecDepth 20000 in
theorem ki_X7_amount : Cond.instanceMethod yX7_amount ∈ zTbl := zmem 1056 rfl rfl
set_option maxRecDepth 20000 in
theorem ke_X7_amount : Cond.selects RX7 yX7_amount yX7_amount ∈ zTbl := zmem 1057 rfl rfl
set_option maxRecDepth 20000 in
theorem kc_X7_idle : Cond.code yX7_idle cX7_idle 3 (some .int) ∈ zTbl := zmem 1070 rfl rfl
abbrev wsX7_idle : List Cond := Cond.code yX7_idle cX7_idle 3 (some .int) :: zTbl
set_option maxRecDepth 20000 in
theorem ki_X7_idle : Cond.instanceMethod yX7_idle ∈ zTbl := zmem 1068 rfl rfl
