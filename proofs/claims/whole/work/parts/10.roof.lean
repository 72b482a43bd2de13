theorem kw386 : Cond.constant RJ6 265 1431655765 ∈ lwX := kw 386 (by decide +kernel) (by decide +kernel)
theorem kw387 : Cond.constant RJ6 266 858993459 ∈ lwX := kw 387 (by decide +kernel) (by decide +kernel)
theorem kw388 : Cond.constant RJ6 267 252645135 ∈ lwX := kw 388 (by decide +kernel) (by decide +kernel)
theorem kw162 : Cond.fieldLink RX3 9 (TX3 0).1 (TX3 0).2.1 (TX3 0).2.2.1 ∈ lwX := kw 162 (by decide +kernel) (by decide +kernel)
theorem kw165 : Cond.fieldLink RX3 15 (TX3 1).1 (TX3 1).2.1 (TX3 1).2.2.1 ∈ lwX := kw 165 (by decide +kernel) (by decide +kernel)
theorem kw167 : Cond.fieldLink RX3 19 (TX3 2).1 (TX3 2).2.1 (TX3 2).2.2.1 ∈ lwX := kw 167 (by decide +kernel) (by decide +kernel)
theorem kw169 : Cond.fieldLink RX3 22 (TX3 3).1 (TX3 3).2.1 (TX3 3).2.2.1 ∈ lwX := kw 169 (by decide +kernel) (by decide +kernel)
theorem kw475 : Cond.static yJ7_fill_53178 ∈ lwX := kw 475 (by decide +kernel) (by decide +kernel)
theorem kw134 : Cond.initialized RJ7 ∈ lwX := kw 134 (by decide +kernel) (by decide +kernel)
theorem kw476 : Cond.code yJ7_fill_53178 cJ7_fill_53178 4 none ∈ lwX := kw 476 (by decide +kernel) (by decide +kernel)
theorem kw481 : Cond.methodLink RX3 26 yJ7_fill_53178 ∈ lwX := kw 481 (by decide +kernel) (by decide +kernel)
theorem kw730 : Cond.methodLink RX3 32 arraycopyName ∈ lwX := kw 730 (by decide +kernel) (by decide +kernel)
theorem kw725 : Cond.native arraycopyName ∈ lwX := kw 725 (by decide +kernel) (by decide +kernel)
theorem kw724 : Cond.static arraycopyName ∈ lwX := kw 724 (by decide +kernel) (by decide +kernel)
theorem kw138 : Cond.initialized "java/lang/System" ∈ lwX := kw 138 (by decide +kernel) (by decide +kernel)
theorem kw182 : Cond.fieldLink RX6 9 (TX6 0).1 (TX6 0).2.1 (TX6 0).2.2.1 ∈ lwX := kw 182 (by decide +kernel) (by decide +kernel)
theorem kw193 : Cond.fieldLink RX6 22 (TX6 3).1 (TX6 3).2.1 (TX6 3).2.2.1 ∈ lwX := kw 193 (by decide +kernel) (by decide +kernel)
theorem kw202 : Cond.fieldLink RX6 34 (TX6 7).1 (TX6 7).2.1 (TX6 7).2.2.1 ∈ lwX := kw 202 (by decide +kernel) (by decide +kernel)
theorem kw211 : Cond.fieldLink RX6 49 (TX6 12).1 (TX6 12).2.1 (TX6 12).2.2.1 ∈ lwX := kw 211 (by decide +kernel) (by decide +kernel)
theorem kw474 : Cond.methodLink RX6 68 yJ7_fill_53178 ∈ lwX := kw 474 (by decide +kernel) (by decide +kernel)
theorem kw212 : Cond.fieldLink RX6 52 (TX6 13).1 (TX6 13).2.1 (TX6 13).2.2.1 ∈ lwX := kw 212 (by decide +kernel) (by decide +kernel)
theorem kw214 : Cond.fieldLink RX6 55 (TX6 14).1 (TX6 14).2.1 (TX6 14).2.2.1 ∈ lwX := kw 214 (by decide +kernel) (by decide +kernel)
theorem kw215 : Cond.fieldLink RX6 58 (TX6 15).1 (TX6 15).2.1 (TX6 15).2.2.1 ∈ lwX := kw 215 (by decide +kernel) (by decide +kernel)
theorem kw216 : Cond.fieldLink RX6 64 (TX6 16).1 (TX6 16).2.1 (TX6 16).2.2.1 ∈ lwX := kw 216 (by decide +kernel) (by decide +kernel)
theorem kw477 : Cond.methodLink RX6 74 yX3_leave ∈ lwX := kw 477 (by decide +kernel) (by decide +kernel)
theorem kw478 : Cond.instanceMethod yX3_leave ∈ lwX := kw 478 (by decide +kernel) (by decide +kernel)
theorem kw479 : Cond.selects RX3 yX3_leave yX3_leave ∈ lwX := kw 479 (by decide +kernel) (by decide +kernel)
theorem kw118 : Cond.initialized RX3 ∈ lwX := kw 118 (by decide +kernel) (by decide +kernel)
theorem kw480 : Cond.code yX3_leave cX3_leave 1 none ∈ lwX := kw 480 (by decide +kernel) (by decide +kernel)
theorem kw186 : Cond.fieldLink RX6 15 (TX6 1).1 (TX6 1).2.1 (TX6 1).2.2.1 ∈ lwX := kw 186 (by decide +kernel) (by decide +kernel)
theorem kw189 : Cond.fieldLink RX6 19 (TX6 2).1 (TX6 2).2.1 (TX6 2).2.2.1 ∈ lwX := kw 189 (by decide +kernel) (by decide +kernel)
theorem kw196 : Cond.fieldLink RX6 25 (TX6 4).1 (TX6 4).2.1 (TX6 4).2.2.1 ∈ lwX := kw 196 (by decide +kernel) (by decide +kernel)
theorem kw198 : Cond.fieldLink RX6 28 (TX6 5).1 (TX6 5).2.1 (TX6 5).2.2.1 ∈ lwX := kw 198 (by decide +kernel) (by decide +kernel)
theorem kw200 : Cond.fieldLink RX6 31 (TX6 6).1 (TX6 6).2.1 (TX6 6).2.2.1 ∈ lwX := kw 200 (by decide +kernel) (by decide +kernel)
theorem kw204 : Cond.fieldLink RX6 37 (TX6 8).1 (TX6 8).2.1 (TX6 8).2.2.1 ∈ lwX := kw 204 (by decide +kernel) (by decide +kernel)
theorem kw206 : Cond.fieldLink RX6 40 (TX6 9).1 (TX6 9).2.1 (TX6 9).2.2.1 ∈ lwX := kw 206 (by decide +kernel) (by decide +kernel)
theorem kw207 : Cond.fieldLink RX6 43 (TX6 10).1 (TX6 10).2.1 (TX6 10).2.2.1 ∈ lwX := kw 207 (by decide +kernel) (by decide +kernel)
theorem kw209 : Cond.fieldLink RX6 46 (TX6 11).1 (TX6 11).2.1 (TX6 11).2.2.1 ∈ lwX := kw 209 (by decide +kernel) (by decide +kernel)
theorem kw727 : Cond.instanceMethod yX3_copyFrom ∈ lwX := kw 727 (by decide +kernel) (by decide +kernel)
theorem kw728 : Cond.selects RX3 yX3_copyFrom yX3_copyFrom ∈ lwX := kw 728 (by decide +kernel) (by decide +kernel)
theorem kw729 : Cond.code yX3_copyFrom cX3_copyFrom 2 none ∈ lwX := kw 729 (by decide +kernel) (by decide +kernel)
theorem kw726 : Cond.methodLink RX6 83 yX3_copyFrom ∈ lwX := kw 726 (by decide +kernel) (by decide +kernel)
theorem kw723 : Cond.methodLink RX6 77 arraycopyName ∈ lwX := kw 723 (by decide +kernel) (by decide +kernel)
theorem kw618 : Cond.methodLink RX6 87 yX6_sitter ∈ lwX := kw 618 (by decide +kernel) (by decide +kernel)
theorem kw619 : Cond.instanceMethod yX6_sitter ∈ lwX := kw 619 (by decide +kernel) (by decide +kernel)
theorem kw620 : Cond.selects RX6 yX6_sitter yX6_sitter ∈ lwX := kw 620 (by decide +kernel) (by decide +kernel)
theorem kw117 : Cond.initialized RX6 ∈ lwX := kw 117 (by decide +kernel) (by decide +kernel)
theorem kw621 : Cond.code yX6_sitter cX6_sitter 3 (some .int) ∈ lwX := kw 621 (by decide +kernel) (by decide +kernel)
theorem kw413 : Cond.methodLink RX6 91 yX6_sitsAtHome ∈ lwX := kw 413 (by decide +kernel) (by decide +kernel)
theorem kw414 : Cond.instanceMethod yX6_sitsAtHome ∈ lwX := kw 414 (by decide +kernel) (by decide +kernel)
theorem kw415 : Cond.selects RX6 yX6_sitsAtHome yX6_sitsAtHome ∈ lwX := kw 415 (by decide +kernel) (by decide +kernel)
theorem kw416 : Cond.code yX6_sitsAtHome cX6_sitsAtHome 2 (some .boolean) ∈ lwX := kw 416 (by decide +kernel) (by decide +kernel)
theorem kw379 : Cond.methodLink RX6 95 yX6_estate ∈ lwX := kw 379 (by decide +kernel) (by decide +kernel)
theorem kw380 : Cond.instanceMethod yX6_estate ∈ lwX := kw 380 (by decide +kernel) (by decide +kernel)
theorem kw381 : Cond.selects RX6 yX6_estate yX6_estate ∈ lwX := kw 381 (by decide +kernel) (by decide +kernel)
theorem kw382 : Cond.code yX6_estate cX6_estate 4 (some .int) ∈ lwX := kw 382 (by decide +kernel) (by decide +kernel)
theorem kw383 : Cond.methodLink RX6 98 yJ6_bitCount_0f7a4 ∈ lwX := kw 383 (by decide +kernel) (by decide +kernel)
theorem kw384 : Cond.static yJ6_bitCount_0f7a4 ∈ lwX := kw 384 (by decide +kernel) (by decide +kernel)
theorem kw123 : Cond.initialized RJ6 ∈ lwX := kw 123 (by decide +kernel) (by decide +kernel)
theorem kw385 : Cond.code yJ6_bitCount_0f7a4 cJ6_bitCount_0f7a4 1 (some .int) ∈ lwX := kw 385 (by decide +kernel) (by decide +kernel)
theorem kw420 : Cond.methodLink RX6 103 Lib.Math.max.name ∈ lwX := kw 420 (by decide +kernel) (by decide +kernel)
theorem kw421 : Cond.static Lib.Math.max.name ∈ lwX := kw 421 (by decide +kernel) (by decide +kernel)
theorem kw124 : Cond.initialized "java/lang/Math" ∈ lwX := kw 124 (by decide +kernel) (by decide +kernel)
theorem kw422 : Cond.code Lib.Math.max.name Lib.Math.max.code 2 (some .int) ∈ lwX := kw 422 (by decide +kernel) (by decide +kernel)
theorem kw634 : Cond.methodLink RX6 109 yX6_truceLeft ∈ lwX := kw 634 (by decide +kernel) (by decide +kernel)
theorem kw635 : Cond.instanceMethod yX6_truceLeft ∈ lwX := kw 635 (by decide +kernel) (by decide +kernel)
theorem kw636 : Cond.selects RX6 yX6_truceLeft yX6_truceLeft ∈ lwX := kw 636 (by decide +kernel) (by decide +kernel)
theorem kw637 : Cond.code yX6_truceLeft cX6_truceLeft 3 (some .int) ∈ lwX := kw 637 (by decide +kernel) (by decide +kernel)
theorem kw630 : Cond.methodLink RX6 112 yX6_isBarred ∈ lwX := kw 630 (by decide +kernel) (by decide +kernel)
theorem kw631 : Cond.instanceMethod yX6_isBarred ∈ lwX := kw 631 (by decide +kernel) (by decide +kernel)
theorem kw632 : Cond.selects RX6 yX6_isBarred yX6_isBarred ∈ lwX := kw 632 (by decide +kernel) (by decide +kernel)
theorem kw633 : Cond.code yX6_isBarred cX6_isBarred 4 (some .boolean) ∈ lwX := kw 633 (by decide +kernel) (by decide +kernel)
theorem kw405 : Cond.methodLink RX6 116 yX6_spread ∈ lwX := kw 405 (by decide +kernel) (by decide +kernel)
theorem kw406 : Cond.instanceMethod yX6_spread ∈ lwX := kw 406 (by decide +kernel) (by decide +kernel)
theorem kw407 : Cond.selects RX6 yX6_spread yX6_spread ∈ lwX := kw 407 (by decide +kernel) (by decide +kernel)
theorem kw408 : Cond.code yX6_spread cX6_spread 10 (some .int) ∈ lwX := kw 408 (by decide +kernel) (by decide +kernel)
theorem kw1242 : Cond.methodLink RX6 120 yX6_walkable ∈ lwX := kw 1242 (by decide +kernel) (by decide +kernel)
theorem kw1228 : Cond.instanceMethod yX6_walkable ∈ lwX := kw 1228 (by decide +kernel) (by decide +kernel)
theorem kw1229 : Cond.selects RX6 yX6_walkable yX6_walkable ∈ lwX := kw 1229 (by decide +kernel) (by decide +kernel)
theorem kw1230 : Cond.code yX6_walkable cX6_walkable 5 (some .int) ∈ lwX := kw 1230 (by decide +kernel) (by decide +kernel)
theorem kw626 : Cond.methodLink RX6 123 yX6_farEnd ∈ lwX := kw 626 (by decide +kernel) (by decide +kernel)
theorem kw628 : Cond.instanceMethod yX6_farEnd ∈ lwX := kw 628 (by decide +kernel) (by decide +kernel)
theorem kw16 : Cond.selects RX6 yX6_farEnd yX6_farEnd ∈ lwX := kw 16 (by decide +kernel) (by decide +kernel)
theorem kw629 : Cond.code yX6_farEnd cX6_farEnd 3 (some .int) ∈ lwX := kw 629 (by decide +kernel) (by decide +kernel)
theorem kw642 : Cond.methodLink RX6 126 yX6_ownsEnough ∈ lwX := kw 642 (by decide +kernel) (by decide +kernel)
theorem kw643 : Cond.instanceMethod yX6_ownsEnough ∈ lwX := kw 643 (by decide +kernel) (by decide +kernel)
theorem kw644 : Cond.selects RX6 yX6_ownsEnough yX6_ownsEnough ∈ lwX := kw 644 (by decide +kernel) (by decide +kernel)
theorem kw645 : Cond.code yX6_ownsEnough cX6_ownsEnough 2 (some .boolean) ∈ lwX := kw 645 (by decide +kernel) (by decide +kernel)
theorem kw650 : Cond.methodLink RX6 129 yX6_isNear ∈ lwX := kw 650 (by decide +kernel) (by decide +kernel)
theorem kw652 : Cond.instanceMethod yX6_isNear ∈ lwX := kw 652 (by decide +kernel) (by decide +kernel)
theorem kw17 : Cond.selects RX6 yX6_isNear yX6_isNear ∈ lwX := kw 17 (by decide +kernel) (by decide +kernel)
theorem kw653 : Cond.code yX6_isNear cX6_isNear 5 (some .boolean) ∈ lwX := kw 653 (by decide +kernel) (by decide +kernel)
theorem kw654 : Cond.methodLink RX6 132 yX6_might ∈ lwX := kw 654 (by decide +kernel) (by decide +kernel)
theorem kw655 : Cond.instanceMethod yX6_might ∈ lwX := kw 655 (by decide +kernel) (by decide +kernel)
theorem kw656 : Cond.selects RX6 yX6_might yX6_might ∈ lwX := kw 656 (by decide +kernel) (by decide +kernel)
theorem kw657 : Cond.code yX6_might cX6_might 2 (some .int) ∈ lwX := kw 657 (by decide +kernel) (by decide +kernel)
theorem kw163 : Cond.fieldLink RX6 135 (TX3 0).1 (TX3 0).2.1 (TX3 0).2.2.1 ∈ lwX := kw 163 (by decide +kernel) (by decide +kernel)
theorem kw170 : Cond.fieldLink RX6 139 (TX3 3).1 (TX3 3).2.1 (TX3 3).2.2.1 ∈ lwX := kw 170 (by decide +kernel) (by decide +kernel)
theorem kw705 : Cond.methodLink RX6 142 yX3_votes ∈ lwX := kw 705 (by decide +kernel) (by decide +kernel)
theorem kw706 : Cond.instanceMethod yX3_votes ∈ lwX := kw 706 (by decide +kernel) (by decide +kernel)
theorem kw707 : Cond.selects RX3 yX3_votes yX3_votes ∈ lwX := kw 707 (by decide +kernel) (by decide +kernel)
theorem kw708 : Cond.code yX3_votes cX3_votes 4 (some .int) ∈ lwX := kw 708 (by decide +kernel) (by decide +kernel)
theorem kw709 : Cond.methodLink RX6 145 yX6_warmestSeat ∈ lwX := kw 709 (by decide +kernel) (by decide +kernel)
theorem kw710 : Cond.instanceMethod yX6_warmestSeat ∈ lwX := kw 710 (by decide +kernel) (by decide +kernel)
theorem kw711 : Cond.selects RX6 yX6_warmestSeat yX6_warmestSeat ∈ lwX := kw 711 (by decide +kernel) (by decide +kernel)
theorem kw712 : Cond.code yX6_warmestSeat cX6_warmestSeat 4 (some .int) ∈ lwX := kw 712 (by decide +kernel) (by decide +kernel)
theorem kw166 : Cond.fieldLink RX6 149 (TX3 1).1 (TX3 1).2.1 (TX3 1).2.2.1 ∈ lwX := kw 166 (by decide +kernel) (by decide +kernel)
theorem kw168 : Cond.fieldLink RX6 151 (TX3 2).1 (TX3 2).2.1 (TX3 2).2.2.1 ∈ lwX := kw 168 (by decide +kernel) (by decide +kernel)
theorem kw713 : Cond.methodLink RX6 153 yX6_putCat ∈ lwX := kw 713 (by decide +kernel) (by decide +kernel)
theorem kw372 : Cond.instanceMethod yX6_putCat ∈ lwX := kw 372 (by decide +kernel) (by decide +kernel)
theorem kw373 : Cond.selects RX6 yX6_putCat yX6_putCat ∈ lwX := kw 373 (by decide +kernel) (by decide +kernel)
theorem kw374 : Cond.code yX6_putCat cX6_putCat 4 (some .int) ∈ lwX := kw 374 (by decide +kernel) (by decide +kernel)
theorem kw401 : Cond.methodLink RX6 173 yX6_choirAround ∈ lwX := kw 401 (by decide +kernel) (by decide +kernel)
theorem kw402 : Cond.instanceMethod yX6_choirAround ∈ lwX := kw 402 (by decide +kernel) (by decide +kernel)
theorem kw403 : Cond.selects RX6 yX6_choirAround yX6_choirAround ∈ lwX := kw 403 (by decide +kernel) (by decide +kernel)
theorem kw404 : Cond.code yX6_choirAround cX6_choirAround 6 (some .int) ∈ lwX := kw 404 (by decide +kernel) (by decide +kernel)
theorem kw417 : Cond.methodLink RX6 170 Lib.Math.min.name ∈ lwX := kw 417 (by decide +kernel) (by decide +kernel)
theorem kw418 : Cond.static Lib.Math.min.name ∈ lwX := kw 418 (by decide +kernel) (by decide +kernel)
theorem kw419 : Cond.code Lib.Math.min.name Lib.Math.min.code 2 (some .int) ∈ lwX := kw 419 (by decide +kernel) (by decide +kernel)
theorem kw397 : Cond.methodLink RX6 157 yX6_mainChoir ∈ lwX := kw 397 (by decide +kernel) (by decide +kernel)
theorem kw398 : Cond.instanceMethod yX6_mainChoir ∈ lwX := kw 398 (by decide +kernel) (by decide +kernel)
theorem kw399 : Cond.selects RX6 yX6_mainChoir yX6_mainChoir ∈ lwX := kw 399 (by decide +kernel) (by decide +kernel)
theorem kw400 : Cond.code yX6_mainChoir cX6_mainChoir 5 (some .int) ∈ lwX := kw 400 (by decide +kernel) (by decide +kernel)
theorem kw409 : Cond.methodLink RX6 160 yX6_supper ∈ lwX := kw 409 (by decide +kernel) (by decide +kernel)
theorem kw411 : Cond.instanceMethod yX6_supper ∈ lwX := kw 411 (by decide +kernel) (by decide +kernel)
theorem kw0 : Cond.selects RX6 yX6_supper yX6_supper ∈ lwX := kw 0 (by decide +kernel) (by decide +kernel)
theorem kw412 : Cond.code yX6_supper cX6_supper 3 (some .int) ∈ lwX := kw 412 (by decide +kernel) (by decide +kernel)
theorem kw423 : Cond.methodLink RX6 163 yX6_setFishInNight ∈ lwX := kw 423 (by decide +kernel) (by decide +kernel)
theorem kw425 : Cond.instanceMethod yX6_setFishInNight ∈ lwX := kw 425 (by decide +kernel) (by decide +kernel)
theorem kw1 : Cond.selects RX6 yX6_setFishInNight yX6_setFishInNight ∈ lwX := kw 1 (by decide +kernel) (by decide +kernel)
theorem kw426 : Cond.code yX6_setFishInNight cX6_setFishInNight 3 none ∈ lwX := kw 426 (by decide +kernel) (by decide +kernel)
theorem kw427 : Cond.methodLink RX6 167 yX6_feast ∈ lwX := kw 427 (by decide +kernel) (by decide +kernel)
theorem kw429 : Cond.instanceMethod yX6_feast ∈ lwX := kw 429 (by decide +kernel) (by decide +kernel)
theorem kw2 : Cond.selects RX6 yX6_feast yX6_feast ∈ lwX := kw 2 (by decide +kernel) (by decide +kernel)
theorem kw430 : Cond.code yX6_feast cX6_feast 5 (some .int) ∈ lwX := kw 430 (by decide +kernel) (by decide +kernel)
theorem kw836 : Cond.methodLink RX6 176 yX6_allFish ∈ lwX := kw 836 (by decide +kernel) (by decide +kernel)
theorem kw817 : Cond.instanceMethod yX6_allFish ∈ lwX := kw 817 (by decide +kernel) (by decide +kernel)
theorem kw818 : Cond.selects RX6 yX6_allFish yX6_allFish ∈ lwX := kw 818 (by decide +kernel) (by decide +kernel)
theorem kw819 : Cond.code yX6_allFish cX6_allFish 3 (some .int) ∈ lwX := kw 819 (by decide +kernel) (by decide +kernel)
theorem kw837 : Cond.methodLink RX6 179 Lib.Math.abs.name ∈ lwX := kw 837 (by decide +kernel) (by decide +kernel)
theorem kw838 : Cond.static Lib.Math.abs.name ∈ lwX := kw 838 (by decide +kernel) (by decide +kernel)
theorem kw839 : Cond.code Lib.Math.abs.name Lib.Math.abs.code 1 (some .int) ∈ lwX := kw 839 (by decide +kernel) (by decide +kernel)
theorem m_J7_fill_53178 : xMemS yJ7_fill_53178 cJ7_fill_53178 4 none 2 := ⟨kw475, kw134, kw476, by decide +kernel, by decide +kernel, by decide +kernel⟩
theorem m_X3_leave : xMem yX3_leave RX3 cX3_leave 1 none 0 := ⟨kw478, kw479, kw118, kw480, by decide +kernel, by decide +kernel, by decide +kernel, by decide +kernel⟩
theorem m_X3_copyFrom : xMem yX3_copyFrom RX3 cX3_copyFrom 2 none 1 := ⟨kw727, kw728, kw118, kw729, by decide +kernel, by decide +kernel, by decide +kernel, by decide +kernel⟩
theorem m_X6_sitter : xMem yX6_sitter RX6 cX6_sitter 3 (some .int) 1 := ⟨kw619, kw620, kw117, kw621, by decide +kernel, by decide +kernel, by decide +kernel, by decide +kernel⟩
theorem m_X6_sitsAtHome : xMem yX6_sitsAtHome RX6 cX6_sitsAtHome 2 (some .boolean) 1 := ⟨kw414, kw415, kw117, kw416, by decide +kernel, by decide +kernel, by decide +kernel, by decide +kernel⟩
theorem m_X6_estate : xMem yX6_estate RX6 cX6_estate 4 (some .int) 1 := ⟨kw380, kw381, kw117, kw382, by decide +kernel, by decide +kernel, by decide +kernel, by decide +kernel⟩
theorem m_J6_bitCount_0f7a4 : xMemS yJ6_bitCount_0f7a4 cJ6_bitCount_0f7a4 1 (some .int) 1 := ⟨kw384, kw123, kw385, by decide +kernel, by decide +kernel, by decide +kernel⟩
theorem m_X6_truceLeft : xMem yX6_truceLeft RX6 cX6_truceLeft 3 (some .int) 2 := ⟨kw635, kw636, kw117, kw637, by decide +kernel, by decide +kernel, by decide +kernel, by decide +kernel⟩
theorem m_X6_isBarred : xMem yX6_isBarred RX6 cX6_isBarred 4 (some .boolean) 2 := ⟨kw631, kw632, kw117, kw633, by decide +kernel, by decide +kernel, by decide +kernel, by decide +kernel⟩
theorem m_X6_spread : xMem yX6_spread RX6 cX6_spread 10 (some .int) 4 := ⟨kw406, kw407, kw117, kw408, by decide +kernel, by decide +kernel, by decide +kernel, by decide +kernel⟩
theorem m_X6_walkable : xMem yX6_walkable RX6 cX6_walkable 5 (some .int) 2 := ⟨kw1228, kw1229, kw117, kw1230, by decide +kernel, by decide +kernel, by decide +kernel, by decide +kernel⟩
theorem m_X6_farEnd : xMem yX6_farEnd RX6 cX6_farEnd 3 (some .int) 2 := ⟨kw628, kw16, kw117, kw629, by decide +kernel, by decide +kernel, by decide +kernel, by decide +kernel⟩
theorem m_X6_ownsEnough : xMem yX6_ownsEnough RX6 cX6_ownsEnough 2 (some .boolean) 1 := ⟨kw643, kw644, kw117, kw645, by decide +kernel, by decide +kernel, by decide +kernel, by decide +kernel⟩
theorem m_X6_isNear : xMem yX6_isNear RX6 cX6_isNear 5 (some .boolean) 2 := ⟨kw652, kw17, kw117, kw653, by decide +kernel, by decide +kernel, by decide +kernel, by decide +kernel⟩
theorem m_X6_might : xMem yX6_might RX6 cX6_might 2 (some .int) 1 := ⟨kw655, kw656, kw117, kw657, by decide +kernel, by decide +kernel, by decide +kernel, by decide +kernel⟩
theorem m_X3_votes : xMem yX3_votes RX3 cX3_votes 4 (some .int) 1 := ⟨kw706, kw707, kw118, kw708, by decide +kernel, by decide +kernel, by decide +kernel, by decide +kernel⟩
theorem m_X6_warmestSeat : xMem yX6_warmestSeat RX6 cX6_warmestSeat 4 (some .int) 0 := ⟨kw710, kw711, kw117, kw712, by decide +kernel, by decide +kernel, by decide +kernel, by decide +kernel⟩
theorem m_X6_putCat : xMem yX6_putCat RX6 cX6_putCat 4 (some .int) 3 := ⟨kw372, kw373, kw117, kw374, by decide +kernel, by decide +kernel, by decide +kernel, by decide +kernel⟩
theorem m_X6_choirAround : xMem yX6_choirAround RX6 cX6_choirAround 6 (some .int) 1 := ⟨kw402, kw403, kw117, kw404, by decide +kernel, by decide +kernel, by decide +kernel, by decide +kernel⟩
theorem m_X6_mainChoir : xMem yX6_mainChoir RX6 cX6_mainChoir 5 (some .int) 0 := ⟨kw398, kw399, kw117, kw400, by decide +kernel, by decide +kernel, by decide +kernel, by decide +kernel⟩
theorem m_X6_supper : xMem yX6_supper RX6 cX6_supper 3 (some .int) 2 := ⟨kw411, kw0, kw117, kw412, by decide +kernel, by decide +kernel, by decide +kernel, by decide +kernel⟩
theorem m_X6_setFishInNight : xMem yX6_setFishInNight RX6 cX6_setFishInNight 3 none 2 := ⟨kw425, kw1, kw117, kw426, by decide +kernel, by decide +kernel, by decide +kernel, by decide +kernel⟩
theorem m_X6_feast : xMem yX6_feast RX6 cX6_feast 5 (some .int) 4 := ⟨kw429, kw2, kw117, kw430, by decide +kernel, by decide +kernel, by decide +kernel, by decide +kernel⟩
theorem m_X6_allFish : xMem yX6_allFish RX6 cX6_allFish 3 (some .int) 0 := ⟨kw817, kw818, kw117, kw819, by decide +kernel, by decide +kernel, by decide +kernel, by decide +kernel⟩
set_option maxHeartbeats 4000000 in
set_option maxRecDepth 100000 in
theorem c_J6_bitCount_0f7a4 (l : Launch) (D : va_G) (cy : Nat → ClassId) (s00 : State) (ad : Nat → Nat) (S : XS) (p0 : Int32) (r9 : Int32) (hf : f_J6_bitCount_0f7a4 p0 = some r9) : XI l yJ6_bitCount_0f7a4 cJ6_bitCount_0f7a4 1 (some .int) 0 D cy s00 [] ad S [.int p0] r9 S := by
  refine XI.of (by decide) [(0, .int p0)] rfl (Nat.le_of_ble_eq_true rfl) (fun p e s m args below meth c A ls E h hl => ?_)
  unfold f_J6_bitCount_0f7a4 at hf
  refine lv_iload_n E.1 E.2.1 dJ6_bitCount_0f7a4_0 rfl (lv_at hl 0 rfl) ?_
  refine lv_iload_n E.1 E.2.1 dJ6_bitCount_0f7a4_1 rfl (lv_at hl 0 rfl) ?_
  refine lv_iconst (v := 1) E.1 E.2.1 dJ6_bitCount_0f7a4_2 (by decide) ?_
  refine lv_iushr E.1 E.2.1 dJ6_bitCount_0f7a4_3 rfl ?_
  refine lv_ldcw (v := 1431655765) E.1 E.2.1 E.2.2.2.1 (E.2.2.2.2.1 _ kw386) dJ6_bitCount_0f7a4_4 ?_
  refine lv_iand E.1 E.2.1 dJ6_bitCount_0f7a4_7 ?_
  refine lv_isub E.1 E.2.1 dJ6_bitCount_0f7a4_8 ?_
  refine x_nm hf (fun v1 hf => ?_)
  refine lv_istore_n (lv' := [(0, .int v1)]) E.1 E.2.1 dJ6_bitCount_0f7a4_9 rfl hl (by decide) rfl (fun ls hl => ?_)
  refine lv_iload_n E.1 E.2.1 dJ6_bitCount_0f7a4_10 rfl (lv_at hl 0 rfl) ?_
  refine lv_ldcw (v := 858993459) E.1 E.2.1 E.2.2.2.1 (E.2.2.2.2.1 _ kw387) dJ6_bitCount_0f7a4_11 ?_
  refine lv_iand E.1 E.2.1 dJ6_bitCount_0f7a4_14 ?_
  refine lv_iload_n E.1 E.2.1 dJ6_bitCount_0f7a4_15 rfl (lv_at hl 0 rfl) ?_
  refine lv_iconst (v := 2) E.1 E.2.1 dJ6_bitCount_0f7a4_16 (by decide) ?_
  refine lv_iushr E.1 E.2.1 dJ6_bitCount_0f7a4_17 rfl ?_
  refine lv_ldcw (v := 858993459) E.1 E.2.1 E.2.2.2.1 (E.2.2.2.2.1 _ kw387) dJ6_bitCount_0f7a4_18 ?_
  refine lv_iand E.1 E.2.1 dJ6_bitCount_0f7a4_21 ?_
  refine lv_iadd E.1 E.2.1 dJ6_bitCount_0f7a4_22 ?_
  refine x_nm hf (fun v2 hf => ?_)
  refine lv_istore_n (lv' := [(0, .int v2)]) E.1 E.2.1 dJ6_bitCount_0f7a4_23 rfl hl (by decide) rfl (fun ls hl => ?_)
  refine lv_iload_n E.1 E.2.1 dJ6_bitCount_0f7a4_24 rfl (lv_at hl 0 rfl) ?_
  refine lv_iload_n E.1 E.2.1 dJ6_bitCount_0f7a4_25 rfl (lv_at hl 0 rfl) ?_
  refine lv_iconst (v := 4) E.1 E.2.1 dJ6_bitCount_0f7a4_26 (by decide) ?_
  refine lv_iushr E.1 E.2.1 dJ6_bitCount_0f7a4_27 rfl ?_
  refine lv_iadd E.1 E.2.1 dJ6_bitCount_0f7a4_28 ?_
  refine lv_ldcw (v := 252645135) E.1 E.2.1 E.2.2.2.1 (E.2.2.2.2.1 _ kw388) dJ6_bitCount_0f7a4_29 ?_
  refine lv_iand E.1 E.2.1 dJ6_bitCount_0f7a4_32 ?_
  refine x_nm hf (fun v3 hf => ?_)
  refine lv_istore_n (lv' := [(0, .int v3)]) E.1 E.2.1 dJ6_bitCount_0f7a4_33 rfl hl (by decide) rfl (fun ls hl => ?_)
  refine lv_iload_n E.1 E.2.1 dJ6_bitCount_0f7a4_34 rfl (lv_at hl 0 rfl) ?_
  refine lv_iload_n E.1 E.2.1 dJ6_bitCount_0f7a4_35 rfl (lv_at hl 0 rfl) ?_
  refine lv_bipush (v := 8) E.1 E.2.1 dJ6_bitCount_0f7a4_36 (by decide) ?_
  refine lv_iushr E.1 E.2.1 dJ6_bitCount_0f7a4_38 rfl ?_
  refine lv_iadd E.1 E.2.1 dJ6_bitCount_0f7a4_39 ?_
  refine x_nm hf (fun v4 hf => ?_)
  refine lv_istore_n (lv' := [(0, .int v4)]) E.1 E.2.1 dJ6_bitCount_0f7a4_40 rfl hl (by decide) rfl (fun ls hl => ?_)
  refine lv_iload_n E.1 E.2.1 dJ6_bitCount_0f7a4_41 rfl (lv_at hl 0 rfl) ?_
  refine lv_iload_n E.1 E.2.1 dJ6_bitCount_0f7a4_42 rfl (lv_at hl 0 rfl) ?_
  refine lv_bipush (v := 16) E.1 E.2.1 dJ6_bitCount_0f7a4_43 (by decide) ?_
  refine lv_iushr E.1 E.2.1 dJ6_bitCount_0f7a4_45 rfl ?_
  refine lv_iadd E.1 E.2.1 dJ6_bitCount_0f7a4_46 ?_
  refine x_nm hf (fun v5 hf => ?_)
  refine lv_istore_n (lv' := [(0, .int v5)]) E.1 E.2.1 dJ6_bitCount_0f7a4_47 rfl hl (by decide) rfl (fun ls hl => ?_)
  refine lv_iload_n E.1 E.2.1 dJ6_bitCount_0f7a4_48 rfl (lv_at hl 0 rfl) ?_
  refine lv_bipush (v := 63) E.1 E.2.1 dJ6_bitCount_0f7a4_49 (by decide) ?_
  refine lv_iand E.1 E.2.1 dJ6_bitCount_0f7a4_51 ?_
  exact x_irp E h hf dJ6_bitCount_0f7a4_52
set_option maxHeartbeats 4000000 in
set_option maxRecDepth 100000 in
theorem w_J7_fill_53178_L5 {p : Program} {l : Launch} {e : Env} {s : State} {m : MethodId} {args : Array Value} {below : List Frame} {meth : Method} {c : Code} {D : va_G} {cy : Nat → ClassId} {s00 : State} {ad : Nat → Nat} {A : Nat → Prop} {w : Nat}  {S9 : XS} {u1 : Int32} {u3 : Int32} {K : Int32 → XS → Option (XS)} (E : XE p s m args meth c cJ7_fill_53178 4 RJ7 none D cy s00) (hk : ∀ (m2 : Int32) (S1 : XS) (H : Heap) (locs : List Loc) (ls : Array Slot), K m2 S1 = some S9 → XH D cy s00 [.inr (.inl (0, w))] ad S1 A s H locs → lv_has ls 4 [(0, .ref (ad 0)), (1, .int u1), (2, .int m2), (3, .int u3)] → W p l e (xrm 0) s m args below meth c H locs 0 0 (MQ below (xqv D cy [.inr (.inl (0, w))] ad S9 A) args s 0 0 A) (F0 m 20 ls [])) :
    ∀ (n : Nat) (m2 : Int32) (S : XS) (H : Heap) (locs : List Loc) (ls : Array Slot), f_J7_fill_53178_L5 w K u1 u3 n m2 S = some S9 → XH D cy s00 [.inr (.inl (0, w))] ad S A s H locs → lv_has ls 4 [(0, .ref (ad 0)), (1, .int u1), (2, .int m2), (3, .int u3)] → W p l e (xrm 0) s m args below meth c H locs 0 0 (MQ below (xqv D cy [.inr (.inl (0, w))] ad S9 A) args s 0 0 A) (F0 m 5 ls []) := by
  intro n
  induction n with
  | zero => intro m2 S H locs ls hf; cases hf
  | succ n ih =>
    intro m2 S H locs ls hf h hl
    rw [f_J7_fill_53178_L5] at hf
    refine lv_iload_n E.1 E.2.1 dJ7_fill_53178_5 rfl (lv_at hl 2 rfl) ?_
    refine lv_iload_n E.1 E.2.1 dJ7_fill_53178_6 rfl (lv_at hl 3 rfl) ?_
    refine x_br hf (lv_icmp_ge (tgt := 20) E.1 E.2.1 dJ7_fill_53178_7 (by decide)) (fun hf => ?_) (fun hf => ?_)
    · exact hk _ _ _ _ _ hf h (lv_sub hl [0, 1, 2, 3] rfl)
    · refine lv_aload_n E.1 E.2.1 dJ7_fill_53178_10 rfl (lv_at hl 0 rfl) ?_
      refine lv_iload_n E.1 E.2.1 dJ7_fill_53178_11 rfl (lv_at hl 2 rfl) ?_
      refine lv_iload_n E.1 E.2.1 dJ7_fill_53178_12 rfl (lv_at hl 1 rfl) ?_
      refine x_iast E h 0 hf rfl dJ7_fill_53178_13 (fun S2 H locs hf h => ?_)
      refine x_nv hf (fun v4 e9 hf => ?_)
      refine lv_iinc (v := v4) (lv' := [(2, .int v4), (0, .ref (ad 0)), (1, .int u1), (3, .int u3)]) E.1 E.2.1 dJ7_fill_53178_14 hl (k := 2) rfl (by rw [e9]; rfl) (by decide) rfl (fun ls hl => ?_)
      refine lv_goto (tgt := 5) E.1 E.2.1 dJ7_fill_53178_17 (by decide) ?_
      exact ih _ _ _ _ _ hf h (lv_sub hl [1, 2, 0, 3] rfl)
set_option maxHeartbeats 4000000 in
set_option maxRecDepth 100000 in
theorem c_J7_fill_53178 (w : Nat) (l : Launch) (D : va_G) (cy : Nat → ClassId) (s00 : State) (ad : Nat → Nat) (S : XS) (p1 : Int32) (S9 : XS) (hf : f_J7_fill_53178 w S p1 = some S9) : XV l yJ7_fill_53178 cJ7_fill_53178 4 none 0 D cy s00 [.inr (.inl (0, w))] ad S [.ref (ad 0), .int p1] S9 := by
  refine XV.of (by decide) [(0, .ref (ad 0)), (1, .int p1)] rfl (Nat.le_of_ble_eq_true rfl) (fun p e s m args below meth c A ls E h hl => ?_)
  unfold f_J7_fill_53178 at hf
  refine lv_iconst (v := 0) E.1 E.2.1 dJ7_fill_53178_0 (by decide) ?_
  refine lv_istore_n (lv' := [(2, .int 0), (0, .ref (ad 0)), (1, .int p1)]) E.1 E.2.1 dJ7_fill_53178_1 rfl hl (by decide) rfl (fun ls hl => ?_)
  refine lv_aload_n E.1 E.2.1 dJ7_fill_53178_2 rfl (lv_at hl 1 rfl) ?_
  refine x_alen E h 0 rfl dJ7_fill_53178_3 ?_
  refine x_nm hf (fun v1 hf => ?_)
  refine lv_istore_n (lv' := [(3, .int v1), (2, .int 0), (0, .ref (ad 0)), (1, .int p1)]) E.1 E.2.1 dJ7_fill_53178_4 rfl hl (by decide) rfl (fun ls hl => ?_)
  refine w_J7_fill_53178_L5 E ?_ _ _ _ _ _ _ hf h (lv_sub hl [2, 3, 1, 0] rfl)
  intro v5 S6 H locs ls hf h hl
  exact x_vret E h hf dJ7_fill_53178_20
set_option maxHeartbeats 4000000 in
set_option maxRecDepth 100000 in
theorem c_X3_arrive (l : Launch) (D : va_G) (cy : Nat → ClassId) (s00 : State) (ad : Nat → Nat) (S : XS) (p0 p1 : Int32) (S9 : XS) (hf : f_X3_arrive S p0 p1 = some S9) : XV l yX3_arrive cX3_arrive 3 none 0 D cy s00 shKit ad S [.ref (ad 0), .int p0, .int p1] S9 := by
  refine XV.of (by decide) [(0, .ref (ad 0)), (1, .int p0), (2, .int p1)] rfl (Nat.le_of_ble_eq_true rfl) (fun p e s m args below meth c A ls E h hl => ?_)
  unfold f_X3_arrive at hf
  refine lv_aload_n E.1 E.2.1 dX3_arrive_0 rfl (lv_at hl 0 rfl) ?_
  refine lv_iconst (v := 1) E.1 E.2.1 dX3_arrive_1 (by decide) ?_
  refine x_put (ty := .boolean) E h 0 0 hf rfl rfl rfl (by decide) xinX3 tyX3_ok nmX3 kw162 rfl (by decide +kernel) (by decide) (by decide) dX3_arrive_2 (fun S1 H locs hf h => ?_)
  refine lv_aload_n E.1 E.2.1 dX3_arrive_5 rfl (lv_at hl 0 rfl) ?_
  refine lv_iload_n E.1 E.2.1 dX3_arrive_6 rfl (lv_at hl 1 rfl) ?_
  refine x_put (ty := .int) E h 0 1 hf rfl rfl rfl (by decide) xinX3 tyX3_ok nmX3 kw165 rfl (by decide +kernel) rfl rfl dX3_arrive_7 (fun S2 H locs hf h => ?_)
  refine lv_aload_n E.1 E.2.1 dX3_arrive_10 rfl (lv_at hl 0 rfl) ?_
  refine lv_iload_n E.1 E.2.1 dX3_arrive_11 rfl (lv_at hl 2 rfl) ?_
  refine x_put (ty := .int) E h 0 2 hf rfl rfl rfl (by decide) xinX3 tyX3_ok nmX3 kw167 rfl (by decide +kernel) rfl rfl dX3_arrive_12 (fun S3 H locs hf h => ?_)
  exact x_vret E h hf dX3_arrive_15
set_option maxHeartbeats 4000000 in
set_option maxRecDepth 100000 in
theorem c_X3_leave (l : Launch) (D : va_G) (cy : Nat → ClassId) (s00 : State) (ad : Nat → Nat) (S : XS) (S9 : XS) (hf : f_X3_leave S = some S9) : XV l yX3_leave cX3_leave 1 none 1 D cy s00 shKit ad S [.ref (ad 0)] S9 := by
  refine XV.of (by decide) [(0, .ref (ad 0))] rfl (Nat.le_of_ble_eq_true rfl) (fun p e s m args below meth c A ls E h hl => ?_)
  unfold f_X3_leave at hf
  refine lv_aload_n E.1 E.2.1 dX3_leave_0 rfl (lv_at hl 0 rfl) ?_
  refine lv_iconst (v := 0) E.1 E.2.1 dX3_leave_1 (by decide) ?_
  refine x_put (ty := .boolean) E h 0 0 hf rfl rfl rfl (by decide) xinX3 tyX3_ok nmX3 kw162 rfl (by decide +kernel) (by decide) (by decide) dX3_leave_2 (fun S1 H locs hf h => ?_)
  refine lv_aload_n E.1 E.2.1 dX3_leave_5 rfl (lv_at hl 0 rfl) ?_
  refine x_getr E h 0 3 1 rfl rfl rfl (by decide) xinX3 kw169 dX3_leave_6 ?_
  refine lv_iconst (v := 0) E.1 E.2.1 dX3_leave_9 (by decide) ?_
  refine x_callsov E h hl 1 hf (xsub_of rfl) (fun r0 hr => c_J7_fill_53178 8 l D cy s00 _ _ 0 r0 hr) m_J7_fill_53178 kw481 rfl rfl (Nat.le_of_ble_eq_true rfl) ⟨by decide, by decide⟩ ⟨Nat.zero_le _, Nat.zero_le _⟩ dX3_leave_10 (fun S2 H locs hf h => ?_)
  exact x_vret E h hf dX3_leave_13
set_option maxHeartbeats 4000000 in
set_option maxRecDepth 100000 in
theorem c_X3_copyFrom (l : Launch) (D : va_G) (cy : Nat → ClassId) (s00 : State) (ad : Nat → Nat) (S : XS) (S9 : XS) (hf : f_X3_copyFrom S = some S9) : XV l yX3_copyFrom cX3_copyFrom 2 none 1 D cy s00 shKit2 ad S [.ref (ad 0), .ref (ad 2)] S9 := by
  refine XV.of (by decide) [(0, .ref (ad 0)), (1, .ref (ad 2))] rfl (Nat.le_of_ble_eq_true rfl) (fun p e s m args below meth c A ls E h hl => ?_)
  unfold f_X3_copyFrom at hf
  refine lv_aload_n E.1 E.2.1 dX3_copyFrom_0 rfl (lv_at hl 0 rfl) ?_
  refine lv_aload_n E.1 E.2.1 dX3_copyFrom_1 rfl (lv_at hl 1 rfl) ?_
  refine x_get E h 2 0 rfl rfl rfl (by decide) xinX3 kw162 dX3_copyFrom_2 ?_
  obtain ⟨hz, hf⟩ := xz_in hf
  refine x_put (ty := .boolean) E h 0 0 hf rfl rfl rfl (by decide) xinX3 tyX3_ok nmX3 kw162 rfl (by decide +kernel) hz (xfit hz) dX3_copyFrom_5 (fun S1 H locs hf h => ?_)
  refine lv_aload_n E.1 E.2.1 dX3_copyFrom_8 rfl (lv_at hl 0 rfl) ?_
  refine lv_aload_n E.1 E.2.1 dX3_copyFrom_9 rfl (lv_at hl 1 rfl) ?_
  refine x_get E h 2 1 rfl rfl rfl (by decide) xinX3 kw165 dX3_copyFrom_10 ?_
  refine x_put (ty := .int) E h 0 1 hf rfl rfl rfl (by decide) xinX3 tyX3_ok nmX3 kw165 rfl (by decide +kernel) rfl rfl dX3_copyFrom_13 (fun S2 H locs hf h => ?_)
  refine lv_aload_n E.1 E.2.1 dX3_copyFrom_16 rfl (lv_at hl 0 rfl) ?_
  refine lv_aload_n E.1 E.2.1 dX3_copyFrom_17 rfl (lv_at hl 1 rfl) ?_
  refine x_get E h 2 2 rfl rfl rfl (by decide) xinX3 kw167 dX3_copyFrom_18 ?_
  refine x_put (ty := .int) E h 0 2 hf rfl rfl rfl (by decide) xinX3 tyX3_ok nmX3 kw167 rfl (by decide +kernel) rfl rfl dX3_copyFrom_21 (fun S3 H locs hf h => ?_)
  refine lv_aload_n E.1 E.2.1 dX3_copyFrom_24 rfl (lv_at hl 1 rfl) ?_
  refine x_getr E h 2 3 3 rfl rfl rfl (by decide) xinX3 kw169 dX3_copyFrom_25 ?_
  refine lv_iconst (v := 0) E.1 E.2.1 dX3_copyFrom_28 (by decide) ?_
  refine lv_aload_n E.1 E.2.1 dX3_copyFrom_29 rfl (lv_at hl 0 rfl) ?_
  refine x_getr E h 0 3 1 rfl rfl rfl (by decide) xinX3 kw169 dX3_copyFrom_30 ?_
  refine lv_iconst (v := 0) E.1 E.2.1 dX3_copyFrom_33 (by decide) ?_
  refine lv_bipush (v := 8) E.1 E.2.1 dX3_copyFrom_34 (by decide) ?_
  refine x_copy E h hl 3 1 8 rfl (by decide) hf rfl rfl (by decide) (by decide) kw730 kw725 kw724 kw138 (by decide) (Nat.le_of_ble_eq_true rfl) dX3_copyFrom_36 (fun S4 H locs hf h => ?_)
  exact x_vret E h hf dX3_copyFrom_39
set_option maxHeartbeats 4000000 in
set_option maxRecDepth 100000 in
theorem w_X3_votes_L4 {p : Program} {l : Launch} {e : Env} {s : State} {m : MethodId} {args : Array Value} {below : List Frame} {meth : Method} {c : Code} {D : va_G} {cy : Nat → ClassId} {s00 : State} {ad : Nat → Nat} {A : Nat → Prop}  {r9 : Int32} {u1 : Int32} {S : XS} {K : Int32 → Int32 → Option (Int32)} (E : XE p s m args meth c cX3_votes 4 RX3 (some .int) D cy s00) (hk : ∀ (m2 m3 : Int32) (H : Heap) (locs : List Loc) (ls : Array Slot), K m2 m3 = some r9 → XH D cy s00 shKit ad S A s H locs → lv_has ls 4 [(0, .ref (ad 0)), (1, .int u1), (2, .int m2), (3, .int m3)] → W p l e (xrm 0) s m args below meth c H locs 0 0 (MQ below (xqi D cy shKit ad r9 S A) args s 0 0 A) (F0 m 29 ls [])) :
    ∀ (n : Nat) (m2 m3 : Int32) (H : Heap) (locs : List Loc) (ls : Array Slot), f_X3_votes_L4 K S u1 n m2 m3 = some r9 → XH D cy s00 shKit ad S A s H locs → lv_has ls 4 [(0, .ref (ad 0)), (1, .int u1), (2, .int m2), (3, .int m3)] → W p l e (xrm 0) s m args below meth c H locs 0 0 (MQ below (xqi D cy shKit ad r9 S A) args s 0 0 A) (F0 m 4 ls []) := by
  intro n
  induction n with
  | zero => intro m2 m3 H locs ls hf; cases hf
  | succ n ih =>
    intro m2 m3 H locs ls hf h hl
    rw [f_X3_votes_L4] at hf
    refine lv_iload_n E.1 E.2.1 dX3_votes_4 rfl (lv_at hl 3 rfl) ?_
    refine lv_bipush (v := 8) E.1 E.2.1 dX3_votes_5 (by decide) ?_
    refine x_br hf (lv_icmp_ge (tgt := 29) E.1 E.2.1 dX3_votes_7 (by decide)) (fun hf => ?_) (fun hf => ?_)
    · exact hk _ _ _ _ _ hf h (lv_sub hl [0, 1, 2, 3] rfl)
    · refine lv_aload_n E.1 E.2.1 dX3_votes_10 rfl (lv_at hl 0 rfl) ?_
      refine x_getr E h 0 3 1 rfl rfl rfl (by decide) xinX3 kw169 dX3_votes_11 ?_
      refine lv_iload_n E.1 E.2.1 dX3_votes_14 rfl (lv_at hl 3 rfl) ?_
      refine x_iald E h 1 hf rfl dX3_votes_15 (fun v1 hf => ?_)
      refine lv_iload_n E.1 E.2.1 dX3_votes_16 rfl (lv_at hl 1 rfl) ?_
      refine x_brn hf (lv_icmp_ne (tgt := 23) E.1 E.2.1 dX3_votes_17 (by decide)) (fun hf => ?_) (fun hf => ?_)
      · refine x_nv hf (fun v2 e9 hf => ?_)
        refine lv_iinc (v := v2) (lv' := [(3, .int v2), (0, .ref (ad 0)), (1, .int u1), (2, .int m2)]) E.1 E.2.1 dX3_votes_23 hl (k := 3) rfl (by rw [e9]; rfl) (by decide) rfl (fun ls hl => ?_)
        refine lv_goto (tgt := 4) E.1 E.2.1 dX3_votes_26 (by decide) ?_
        exact ih _ _ _ _ _ hf h (lv_sub hl [1, 2, 3, 0] rfl)
      · refine x_nv hf (fun v3 e9 hf => ?_)
        refine lv_iinc (v := v3) (lv' := [(2, .int v3), (0, .ref (ad 0)), (1, .int u1), (3, .int m3)]) E.1 E.2.1 dX3_votes_20 hl (k := 2) rfl (by rw [e9]; rfl) (by decide) rfl (fun ls hl => ?_)
        refine x_nv hf (fun v4 e9 hf => ?_)
        refine lv_iinc (v := v4) (lv' := [(3, .int v4), (2, .int v3), (0, .ref (ad 0)), (1, .int u1)]) E.1 E.2.1 dX3_votes_23 hl (k := 3) rfl (by rw [e9]; rfl) (by decide) rfl (fun ls hl => ?_)
        refine lv_goto (tgt := 4) E.1 E.2.1 dX3_votes_26 (by decide) ?_
        exact ih _ _ _ _ _ hf h (lv_sub hl [2, 3, 1, 0] rfl)
set_option maxHeartbeats 4000000 in
set_option maxRecDepth 100000 in
theorem c_X3_votes (l : Launch) (D : va_G) (cy : Nat → ClassId) (s00 : State) (ad : Nat → Nat) (S : XS) (p0 : Int32) (r9 : Int32) (hf : f_X3_votes S p0 = some r9) : XI l yX3_votes cX3_votes 4 (some .int) 0 D cy s00 shKit ad S [.ref (ad 0), .int p0] r9 S := by
  refine XI.of (by decide) [(0, .ref (ad 0)), (1, .int p0)] rfl (Nat.le_of_ble_eq_true rfl) (fun p e s m args below meth c A ls E h hl => ?_)
  unfold f_X3_votes at hf
  refine lv_iconst (v := 0) E.1 E.2.1 dX3_votes_0 (by decide) ?_
  refine lv_istore_n (lv' := [(2, .int 0), (0, .ref (ad 0)), (1, .int p0)]) E.1 E.2.1 dX3_votes_1 rfl hl (by decide) rfl (fun ls hl => ?_)
  refine lv_iconst (v := 0) E.1 E.2.1 dX3_votes_2 (by decide) ?_
  refine lv_istore_n (lv' := [(3, .int 0), (2, .int 0), (0, .ref (ad 0)), (1, .int p0)]) E.1 E.2.1 dX3_votes_3 rfl hl (by decide) rfl (fun ls hl => ?_)
  refine w_X3_votes_L4 E ?_ _ _ _ _ _ _ hf h (lv_sub hl [2, 3, 1, 0] rfl)
  intro v5 v6 H locs ls hf h hl
  refine lv_iload_n E.1 E.2.1 dX3_votes_29 rfl (lv_at hl 2 rfl) ?_
  exact x_irp E h hf dX3_votes_30
set_option maxHeartbeats 4000000 in
set_option maxRecDepth 100000 in
theorem c_X6_clear (l : Launch) (D : va_G) (cy : Nat → ClassId) (s00 : State) (ad : Nat → Nat) (S : XS) (S9 : XS) (hf : f_X6_clear S = some S9) : XV l yX6_clear cX6_clear 1 none 2 D cy s00 shRoof ad S [.ref (ad 0)] S9 := by
  refine XV.of (by decide) [(0, .ref (ad 0))] rfl (Nat.le_of_ble_eq_true rfl) (fun p e s m args below meth c A ls E h hl => ?_)
  unfold f_X6_clear at hf
  refine lv_aload_n E.1 E.2.1 dX6_clear_0 rfl (lv_at hl 0 rfl) ?_
  refine lv_iconst (v := 0) E.1 E.2.1 dX6_clear_1 (by decide) ?_
  refine x_put (ty := .int) E h 0 0 hf rfl rfl rfl (by decide) xinX6 tyX6_ok nmX6 kw182 rfl (by decide +kernel) rfl rfl dX6_clear_2 (fun S1 H locs hf h => ?_)
  refine lv_aload_n E.1 E.2.1 dX6_clear_5 rfl (lv_at hl 0 rfl) ?_
  refine lv_iconst (v := 0) E.1 E.2.1 dX6_clear_6 (by decide) ?_
  refine x_put (ty := .int) E h 0 3 hf rfl rfl rfl (by decide) xinX6 tyX6_ok nmX6 kw193 rfl (by decide +kernel) rfl rfl dX6_clear_7 (fun S2 H locs hf h => ?_)
  refine lv_aload_n E.1 E.2.1 dX6_clear_10 rfl (lv_at hl 0 rfl) ?_
  refine lv_iconst (v := 0) E.1 E.2.1 dX6_clear_11 (by decide) ?_
  refine x_put (ty := .int) E h 0 7 hf rfl rfl rfl (by decide) xinX6 tyX6_ok nmX6 kw202 rfl (by decide +kernel) rfl rfl dX6_clear_12 (fun S3 H locs hf h => ?_)
  refine lv_aload_n E.1 E.2.1 dX6_clear_15 rfl (lv_at hl 0 rfl) ?_
  refine x_getr E h 0 12 10 rfl rfl rfl (by decide) xinX6 kw211 dX6_clear_16 ?_
  refine lv_iconst (v := 0) E.1 E.2.1 dX6_clear_19 (by decide) ?_
  refine x_callsov E h hl 10 hf (xsub_of rfl) (fun r0 hr => c_J7_fill_53178 64 l D cy s00 _ _ 0 r0 hr) m_J7_fill_53178 kw474 rfl rfl (Nat.le_of_ble_eq_true rfl) ⟨by decide, by decide⟩ ⟨Nat.zero_le _, Nat.zero_le _⟩ dX6_clear_20 (fun S4 H locs hf h => ?_)
  refine lv_aload_n E.1 E.2.1 dX6_clear_23 rfl (lv_at hl 0 rfl) ?_
  refine lv_iconst (v := 0) E.1 E.2.1 dX6_clear_24 (by decide) ?_
  refine x_put (ty := .int) E h 0 13 hf rfl rfl rfl (by decide) xinX6 tyX6_ok nmX6 kw212 rfl (by decide +kernel) rfl rfl dX6_clear_25 (fun S5 H locs hf h => ?_)
  refine lv_aload_n E.1 E.2.1 dX6_clear_28 rfl (lv_at hl 0 rfl) ?_
  refine lv_iconst (v := 0) E.1 E.2.1 dX6_clear_29 (by decide) ?_
  refine x_put (ty := .int) E h 0 14 hf rfl rfl rfl (by decide) xinX6 tyX6_ok nmX6 kw214 rfl (by decide +kernel) rfl rfl dX6_clear_30 (fun S6 H locs hf h => ?_)
  refine lv_aload_n E.1 E.2.1 dX6_clear_33 rfl (lv_at hl 0 rfl) ?_
  refine lv_iconst (v := 0) E.1 E.2.1 dX6_clear_34 (by decide) ?_
  refine x_put (ty := .int) E h 0 15 hf rfl rfl rfl (by decide) xinX6 tyX6_ok nmX6 kw215 rfl (by decide +kernel) rfl rfl dX6_clear_35 (fun S7 H locs hf h => ?_)
  refine lv_aload_n E.1 E.2.1 dX6_clear_38 rfl (lv_at hl 0 rfl) ?_
  refine x_getr E h 0 16 11 rfl rfl rfl (by decide) xinX6 kw216 dX6_clear_39 ?_
  refine x_callov E h hl 11 11 hf (xsub_of rfl) (fun r0 hr => c_X3_leave l D cy s00 _ (xs 11 S7)  r0 hr) m_X3_leave rfl rfl kw477 rfl rfl (Nat.le_of_ble_eq_true rfl) ⟨by decide, by decide⟩ ⟨Nat.zero_le _, Nat.zero_le _⟩ dX6_clear_42 (fun S8 H locs hf h => ?_)
  exact x_vret E h hf dX6_clear_45
set_option maxHeartbeats 4000000 in
set_option maxRecDepth 100000 in
theorem c_X6_copyFrom (l : Launch) (D : va_G) (cy : Nat → ClassId) (s00 : State) (ad : Nat → Nat) (S : XS) (S9 : XS) (hf : f_X6_copyFrom S = some S9) : XV l yX6_copyFrom cX6_copyFrom 2 none 2 D cy s00 shRoof2 ad S [.ref (ad 0), .ref (ad 13)] S9 := by
  refine XV.of (by decide) [(0, .ref (ad 0)), (1, .ref (ad 13))] rfl (Nat.le_of_ble_eq_true rfl) (fun p e s m args below meth c A ls E h hl => ?_)
  unfold f_X6_copyFrom at hf
  refine lv_aload_n E.1 E.2.1 dX6_copyFrom_0 rfl (lv_at hl 0 rfl) ?_
  refine lv_aload_n E.1 E.2.1 dX6_copyFrom_1 rfl (lv_at hl 1 rfl) ?_
  refine x_get E h 13 0 rfl rfl rfl (by decide) xinX6 kw182 dX6_copyFrom_2 ?_
  refine x_put (ty := .int) E h 0 0 hf rfl rfl rfl (by decide) xinX6 tyX6_ok nmX6 kw182 rfl (by decide +kernel) rfl rfl dX6_copyFrom_5 (fun S1 H locs hf h => ?_)
  refine lv_aload_n E.1 E.2.1 dX6_copyFrom_8 rfl (lv_at hl 1 rfl) ?_
  refine x_getr E h 13 1 14 rfl rfl rfl (by decide) xinX6 kw186 dX6_copyFrom_9 ?_
  refine lv_iconst (v := 0) E.1 E.2.1 dX6_copyFrom_12 (by decide) ?_
  refine lv_aload_n E.1 E.2.1 dX6_copyFrom_13 rfl (lv_at hl 0 rfl) ?_
  refine x_getr E h 0 1 1 rfl rfl rfl (by decide) xinX6 kw186 dX6_copyFrom_14 ?_
  refine lv_iconst (v := 0) E.1 E.2.1 dX6_copyFrom_17 (by decide) ?_
  refine lv_bipush (v := 10) E.1 E.2.1 dX6_copyFrom_18 (by decide) ?_
  refine x_copy E h hl 14 1 10 rfl (by decide) hf rfl rfl (by decide) (by decide) kw723 kw725 kw724 kw138 (by decide) (Nat.le_of_ble_eq_true rfl) dX6_copyFrom_20 (fun S2 H locs hf h => ?_)
  refine lv_aload_n E.1 E.2.1 dX6_copyFrom_23 rfl (lv_at hl 1 rfl) ?_
  refine x_getr E h 13 2 15 rfl rfl rfl (by decide) xinX6 kw189 dX6_copyFrom_24 ?_
  refine lv_iconst (v := 0) E.1 E.2.1 dX6_copyFrom_27 (by decide) ?_
  refine lv_aload_n E.1 E.2.1 dX6_copyFrom_28 rfl (lv_at hl 0 rfl) ?_
  refine x_getr E h 0 2 2 rfl rfl rfl (by decide) xinX6 kw189 dX6_copyFrom_29 ?_
  refine lv_iconst (v := 0) E.1 E.2.1 dX6_copyFrom_32 (by decide) ?_
  refine lv_bipush (v := 10) E.1 E.2.1 dX6_copyFrom_33 (by decide) ?_
  refine x_copy E h hl 15 2 10 rfl (by decide) hf rfl rfl (by decide) (by decide) kw723 kw725 kw724 kw138 (by decide) (Nat.le_of_ble_eq_true rfl) dX6_copyFrom_35 (fun S3 H locs hf h => ?_)
  refine lv_aload_n E.1 E.2.1 dX6_copyFrom_38 rfl (lv_at hl 0 rfl) ?_
  refine lv_aload_n E.1 E.2.1 dX6_copyFrom_39 rfl (lv_at hl 1 rfl) ?_
  refine x_get E h 13 3 rfl rfl rfl (by decide) xinX6 kw193 dX6_copyFrom_40 ?_
  refine x_put (ty := .int) E h 0 3 hf rfl rfl rfl (by decide) xinX6 tyX6_ok nmX6 kw193 rfl (by decide +kernel) rfl rfl dX6_copyFrom_43 (fun S4 H locs hf h => ?_)
  refine lv_aload_n E.1 E.2.1 dX6_copyFrom_46 rfl (lv_at hl 1 rfl) ?_
  refine x_getr E h 13 4 16 rfl rfl rfl (by decide) xinX6 kw196 dX6_copyFrom_47 ?_
  refine lv_iconst (v := 0) E.1 E.2.1 dX6_copyFrom_50 (by decide) ?_
  refine lv_aload_n E.1 E.2.1 dX6_copyFrom_51 rfl (lv_at hl 0 rfl) ?_
  refine x_getr E h 0 4 3 rfl rfl rfl (by decide) xinX6 kw196 dX6_copyFrom_52 ?_
  refine lv_iconst (v := 0) E.1 E.2.1 dX6_copyFrom_55 (by decide) ?_
  refine lv_bipush (v := 20) E.1 E.2.1 dX6_copyFrom_56 (by decide) ?_
  refine x_copy E h hl 16 3 20 rfl (by decide) hf rfl rfl (by decide) (by decide) kw723 kw725 kw724 kw138 (by decide) (Nat.le_of_ble_eq_true rfl) dX6_copyFrom_58 (fun S5 H locs hf h => ?_)
  refine lv_aload_n E.1 E.2.1 dX6_copyFrom_61 rfl (lv_at hl 1 rfl) ?_
  refine x_getr E h 13 5 17 rfl rfl rfl (by decide) xinX6 kw198 dX6_copyFrom_62 ?_
  refine lv_iconst (v := 0) E.1 E.2.1 dX6_copyFrom_65 (by decide) ?_
  refine lv_aload_n E.1 E.2.1 dX6_copyFrom_66 rfl (lv_at hl 0 rfl) ?_
  refine x_getr E h 0 5 4 rfl rfl rfl (by decide) xinX6 kw198 dX6_copyFrom_67 ?_
  refine lv_iconst (v := 0) E.1 E.2.1 dX6_copyFrom_70 (by decide) ?_
  refine lv_bipush (v := 20) E.1 E.2.1 dX6_copyFrom_71 (by decide) ?_
  refine x_copy E h hl 17 4 20 rfl (by decide) hf rfl rfl (by decide) (by decide) kw723 kw725 kw724 kw138 (by decide) (Nat.le_of_ble_eq_true rfl) dX6_copyFrom_73 (fun S6 H locs hf h => ?_)
  refine lv_aload_n E.1 E.2.1 dX6_copyFrom_76 rfl (lv_at hl 1 rfl) ?_
  refine x_getr E h 13 6 18 rfl rfl rfl (by decide) xinX6 kw200 dX6_copyFrom_77 ?_
  refine lv_iconst (v := 0) E.1 E.2.1 dX6_copyFrom_80 (by decide) ?_
  refine lv_aload_n E.1 E.2.1 dX6_copyFrom_81 rfl (lv_at hl 0 rfl) ?_
  refine x_getr E h 0 6 5 rfl rfl rfl (by decide) xinX6 kw200 dX6_copyFrom_82 ?_
  refine lv_iconst (v := 0) E.1 E.2.1 dX6_copyFrom_85 (by decide) ?_
  refine lv_bipush (v := 20) E.1 E.2.1 dX6_copyFrom_86 (by decide) ?_
  refine x_copy E h hl 18 5 20 rfl (by decide) hf rfl rfl (by decide) (by decide) kw723 kw725 kw724 kw138 (by decide) (Nat.le_of_ble_eq_true rfl) dX6_copyFrom_88 (fun S7 H locs hf h => ?_)
  refine lv_aload_n E.1 E.2.1 dX6_copyFrom_91 rfl (lv_at hl 0 rfl) ?_
  refine lv_aload_n E.1 E.2.1 dX6_copyFrom_92 rfl (lv_at hl 1 rfl) ?_
  refine x_get E h 13 7 rfl rfl rfl (by decide) xinX6 kw202 dX6_copyFrom_93 ?_
  refine x_put (ty := .int) E h 0 7 hf rfl rfl rfl (by decide) xinX6 tyX6_ok nmX6 kw202 rfl (by decide +kernel) rfl rfl dX6_copyFrom_96 (fun S8 H locs hf h => ?_)
  refine lv_aload_n E.1 E.2.1 dX6_copyFrom_99 rfl (lv_at hl 1 rfl) ?_
  refine x_getr E h 13 8 19 rfl rfl rfl (by decide) xinX6 kw204 dX6_copyFrom_100 ?_
  refine lv_iconst (v := 0) E.1 E.2.1 dX6_copyFrom_103 (by decide) ?_
  refine lv_aload_n E.1 E.2.1 dX6_copyFrom_104 rfl (lv_at hl 0 rfl) ?_
  refine x_getr E h 0 8 6 rfl rfl rfl (by decide) xinX6 kw204 dX6_copyFrom_105 ?_
  refine lv_iconst (v := 0) E.1 E.2.1 dX6_copyFrom_108 (by decide) ?_
  refine lv_bipush (v := 8) E.1 E.2.1 dX6_copyFrom_109 (by decide) ?_
  refine x_copy E h hl 19 6 8 rfl (by decide) hf rfl rfl (by decide) (by decide) kw723 kw725 kw724 kw138 (by decide) (Nat.le_of_ble_eq_true rfl) dX6_copyFrom_111 (fun S9 H locs hf h => ?_)
  refine lv_aload_n E.1 E.2.1 dX6_copyFrom_114 rfl (lv_at hl 1 rfl) ?_
  refine x_getr E h 13 9 20 rfl rfl rfl (by decide) xinX6 kw206 dX6_copyFrom_115 ?_
  refine lv_iconst (v := 0) E.1 E.2.1 dX6_copyFrom_118 (by decide) ?_
  refine lv_aload_n E.1 E.2.1 dX6_copyFrom_119 rfl (lv_at hl 0 rfl) ?_
  refine x_getr E h 0 9 7 rfl rfl rfl (by decide) xinX6 kw206 dX6_copyFrom_120 ?_
  refine lv_iconst (v := 0) E.1 E.2.1 dX6_copyFrom_123 (by decide) ?_
  refine lv_bipush (v := 8) E.1 E.2.1 dX6_copyFrom_124 (by decide) ?_
  refine x_copy E h hl 20 7 8 rfl (by decide) hf rfl rfl (by decide) (by decide) kw723 kw725 kw724 kw138 (by decide) (Nat.le_of_ble_eq_true rfl) dX6_copyFrom_126 (fun S10 H locs hf h => ?_)
  refine lv_aload_n E.1 E.2.1 dX6_copyFrom_129 rfl (lv_at hl 1 rfl) ?_
  refine x_getr E h 13 10 21 rfl rfl rfl (by decide) xinX6 kw207 dX6_copyFrom_130 ?_
  refine lv_iconst (v := 0) E.1 E.2.1 dX6_copyFrom_133 (by decide) ?_
  refine lv_aload_n E.1 E.2.1 dX6_copyFrom_134 rfl (lv_at hl 0 rfl) ?_
  refine x_getr E h 0 10 8 rfl rfl rfl (by decide) xinX6 kw207 dX6_copyFrom_135 ?_
  refine lv_iconst (v := 0) E.1 E.2.1 dX6_copyFrom_138 (by decide) ?_
  refine lv_bipush (v := 8) E.1 E.2.1 dX6_copyFrom_139 (by decide) ?_
  refine x_copy E h hl 21 8 8 rfl (by decide) hf rfl rfl (by decide) (by decide) kw723 kw725 kw724 kw138 (by decide) (Nat.le_of_ble_eq_true rfl) dX6_copyFrom_141 (fun S11 H locs hf h => ?_)
  refine lv_aload_n E.1 E.2.1 dX6_copyFrom_144 rfl (lv_at hl 1 rfl) ?_
  refine x_getr E h 13 11 22 rfl rfl rfl (by decide) xinX6 kw209 dX6_copyFrom_145 ?_
  refine lv_iconst (v := 0) E.1 E.2.1 dX6_copyFrom_148 (by decide) ?_
  refine lv_aload_n E.1 E.2.1 dX6_copyFrom_149 rfl (lv_at hl 0 rfl) ?_
  refine x_getr E h 0 11 9 rfl rfl rfl (by decide) xinX6 kw209 dX6_copyFrom_150 ?_
  refine lv_iconst (v := 0) E.1 E.2.1 dX6_copyFrom_153 (by decide) ?_
  refine lv_bipush (v := 8) E.1 E.2.1 dX6_copyFrom_154 (by decide) ?_
  refine x_copy E h hl 22 9 8 rfl (by decide) hf rfl rfl (by decide) (by decide) kw723 kw725 kw724 kw138 (by decide) (Nat.le_of_ble_eq_true rfl) dX6_copyFrom_156 (fun S12 H locs hf h => ?_)
  refine lv_aload_n E.1 E.2.1 dX6_copyFrom_159 rfl (lv_at hl 1 rfl) ?_
  refine x_getr E h 13 12 23 rfl rfl rfl (by decide) xinX6 kw211 dX6_copyFrom_160 ?_
  refine lv_iconst (v := 0) E.1 E.2.1 dX6_copyFrom_163 (by decide) ?_
  refine lv_aload_n E.1 E.2.1 dX6_copyFrom_164 rfl (lv_at hl 0 rfl) ?_
  refine x_getr E h 0 12 10 rfl rfl rfl (by decide) xinX6 kw211 dX6_copyFrom_165 ?_
  refine lv_iconst (v := 0) E.1 E.2.1 dX6_copyFrom_168 (by decide) ?_
  refine lv_bipush (v := 64) E.1 E.2.1 dX6_copyFrom_169 (by decide) ?_
  refine x_copy E h hl 23 10 64 rfl (by decide) hf rfl rfl (by decide) (by decide) kw723 kw725 kw724 kw138 (by decide) (Nat.le_of_ble_eq_true rfl) dX6_copyFrom_171 (fun S13 H locs hf h => ?_)
  refine lv_aload_n E.1 E.2.1 dX6_copyFrom_174 rfl (lv_at hl 0 rfl) ?_
  refine lv_aload_n E.1 E.2.1 dX6_copyFrom_175 rfl (lv_at hl 1 rfl) ?_
  refine x_get E h 13 13 rfl rfl rfl (by decide) xinX6 kw212 dX6_copyFrom_176 ?_
  refine x_put (ty := .int) E h 0 13 hf rfl rfl rfl (by decide) xinX6 tyX6_ok nmX6 kw212 rfl (by decide +kernel) rfl rfl dX6_copyFrom_179 (fun S14 H locs hf h => ?_)
  refine lv_aload_n E.1 E.2.1 dX6_copyFrom_182 rfl (lv_at hl 0 rfl) ?_
  refine lv_aload_n E.1 E.2.1 dX6_copyFrom_183 rfl (lv_at hl 1 rfl) ?_
  refine x_get E h 13 14 rfl rfl rfl (by decide) xinX6 kw214 dX6_copyFrom_184 ?_
  refine x_put (ty := .int) E h 0 14 hf rfl rfl rfl (by decide) xinX6 tyX6_ok nmX6 kw214 rfl (by decide +kernel) rfl rfl dX6_copyFrom_187 (fun S15 H locs hf h => ?_)
  refine lv_aload_n E.1 E.2.1 dX6_copyFrom_190 rfl (lv_at hl 0 rfl) ?_
  refine lv_aload_n E.1 E.2.1 dX6_copyFrom_191 rfl (lv_at hl 1 rfl) ?_
  refine x_get E h 13 15 rfl rfl rfl (by decide) xinX6 kw215 dX6_copyFrom_192 ?_
  refine x_put (ty := .int) E h 0 15 hf rfl rfl rfl (by decide) xinX6 tyX6_ok nmX6 kw215 rfl (by decide +kernel) rfl rfl dX6_copyFrom_195 (fun S16 H locs hf h => ?_)
  refine lv_aload_n E.1 E.2.1 dX6_copyFrom_198 rfl (lv_at hl 0 rfl) ?_
  refine x_getr E h 0 16 11 rfl rfl rfl (by decide) xinX6 kw216 dX6_copyFrom_199 ?_
  refine lv_aload_n E.1 E.2.1 dX6_copyFrom_202 rfl (lv_at hl 1 rfl) ?_
  refine x_getr E h 13 16 24 rfl rfl rfl (by decide) xinX6 kw216 dX6_copyFrom_203 ?_
  refine x_callFv (σ := xσ 11 2 24) (τ := xτ 11 2 24 2) E h hl 11 hf (xsubF_of (by decide +kernel)) (xinv_two (by omega)) (fun r0 hr => c_X3_copyFrom l D cy s00 _ _ r0 hr) m_X3_copyFrom rfl rfl kw726 rfl rfl (Nat.le_of_ble_eq_true rfl) ⟨by decide, by decide⟩ ⟨Nat.zero_le _, Nat.zero_le _⟩ dX6_copyFrom_206 (fun S17 H locs hf h => ?_)
  exact x_vret E h hf dX6_copyFrom_209
set_option maxHeartbeats 4000000 in
set_option maxRecDepth 100000 in
theorem c_X6_hasChimney (l : Launch) (D : va_G) (cy : Nat → ClassId) (s00 : State) (ad : Nat → Nat) (S : XS) (p0 : Int32) (r9 : Int32) (hf : f_X6_hasChimney S p0 = some r9) : XI l yX6_hasChimney cX6_hasChimney 2 (some .boolean) 0 D cy s00 shRoof ad S [.ref (ad 0), .int p0] r9 S := by
  refine XI.of (by decide) [(0, .ref (ad 0)), (1, .int p0)] rfl (Nat.le_of_ble_eq_true rfl) (fun p e s m args below meth c A ls E h hl => ?_)
  unfold f_X6_hasChimney at hf
  refine lv_iload_n E.1 E.2.1 dX6_hasChimney_0 rfl (lv_at hl 1 rfl) ?_
  refine x_br hf (lv_if_lt (tgt := 16) E.1 E.2.1 dX6_hasChimney_1 (by decide)) (fun hf => ?_) (fun hf => ?_)
  · refine lv_iconst (v := 0) E.1 E.2.1 dX6_hasChimney_16 (by decide) ?_
    exact x_zrc E h (by decide) hf dX6_hasChimney_17
  · refine lv_iload_n E.1 E.2.1 dX6_hasChimney_4 rfl (lv_at hl 1 rfl) ?_
    refine lv_aload_n E.1 E.2.1 dX6_hasChimney_5 rfl (lv_at hl 0 rfl) ?_
    refine x_get E h 0 0 rfl rfl rfl (by decide) xinX6 kw182 dX6_hasChimney_6 ?_
    refine x_br hf (lv_icmp_ge (tgt := 16) E.1 E.2.1 dX6_hasChimney_9 (by decide)) (fun hf => ?_) (fun hf => ?_)
    · refine lv_iconst (v := 0) E.1 E.2.1 dX6_hasChimney_16 (by decide) ?_
      exact x_zrc E h (by decide) hf dX6_hasChimney_17
    · refine lv_iconst (v := 1) E.1 E.2.1 dX6_hasChimney_12 (by decide) ?_
      refine lv_goto (tgt := 17) E.1 E.2.1 dX6_hasChimney_13 (by decide) ?_
      exact x_zrc E h (by decide) hf dX6_hasChimney_17
set_option maxHeartbeats 4000000 in
set_option maxRecDepth 100000 in
theorem c_X6_hasGutter (l : Launch) (D : va_G) (cy : Nat → ClassId) (s00 : State) (ad : Nat → Nat) (S : XS) (p0 : Int32) (r9 : Int32) (hf : f_X6_hasGutter S p0 = some r9) : XI l yX6_hasGutter cX6_hasGutter 2 (some .boolean) 0 D cy s00 shRoof ad S [.ref (ad 0), .int p0] r9 S := by
  refine XI.of (by decide) [(0, .ref (ad 0)), (1, .int p0)] rfl (Nat.le_of_ble_eq_true rfl) (fun p e s m args below meth c A ls E h hl => ?_)
  unfold f_X6_hasGutter at hf
  refine lv_iload_n E.1 E.2.1 dX6_hasGutter_0 rfl (lv_at hl 1 rfl) ?_
  refine x_br hf (lv_if_lt (tgt := 16) E.1 E.2.1 dX6_hasGutter_1 (by decide)) (fun hf => ?_) (fun hf => ?_)
  · refine lv_iconst (v := 0) E.1 E.2.1 dX6_hasGutter_16 (by decide) ?_
    exact x_zrc E h (by decide) hf dX6_hasGutter_17
  · refine lv_iload_n E.1 E.2.1 dX6_hasGutter_4 rfl (lv_at hl 1 rfl) ?_
    refine lv_aload_n E.1 E.2.1 dX6_hasGutter_5 rfl (lv_at hl 0 rfl) ?_
    refine x_get E h 0 3 rfl rfl rfl (by decide) xinX6 kw193 dX6_hasGutter_6 ?_
    refine x_br hf (lv_icmp_ge (tgt := 16) E.1 E.2.1 dX6_hasGutter_9 (by decide)) (fun hf => ?_) (fun hf => ?_)
    · refine lv_iconst (v := 0) E.1 E.2.1 dX6_hasGutter_16 (by decide) ?_
      exact x_zrc E h (by decide) hf dX6_hasGutter_17
    · refine lv_iconst (v := 1) E.1 E.2.1 dX6_hasGutter_12 (by decide) ?_
      refine lv_goto (tgt := 17) E.1 E.2.1 dX6_hasGutter_13 (by decide) ?_
      exact x_zrc E h (by decide) hf dX6_hasGutter_17
set_option maxHeartbeats 4000000 in
set_option maxRecDepth 100000 in
theorem c_X6_hasCat (l : Launch) (D : va_G) (cy : Nat → ClassId) (s00 : State) (ad : Nat → Nat) (S : XS) (p0 : Int32) (r9 : Int32) (hf : f_X6_hasCat S p0 = some r9) : XI l yX6_hasCat cX6_hasCat 2 (some .boolean) 0 D cy s00 shRoof ad S [.ref (ad 0), .int p0] r9 S := by
  refine XI.of (by decide) [(0, .ref (ad 0)), (1, .int p0)] rfl (Nat.le_of_ble_eq_true rfl) (fun p e s m args below meth c A ls E h hl => ?_)
  unfold f_X6_hasCat at hf
  refine lv_iload_n E.1 E.2.1 dX6_hasCat_0 rfl (lv_at hl 1 rfl) ?_
  refine x_br hf (lv_if_lt (tgt := 16) E.1 E.2.1 dX6_hasCat_1 (by decide)) (fun hf => ?_) (fun hf => ?_)
  · refine lv_iconst (v := 0) E.1 E.2.1 dX6_hasCat_16 (by decide) ?_
    exact x_zrc E h (by decide) hf dX6_hasCat_17
  · refine lv_iload_n E.1 E.2.1 dX6_hasCat_4 rfl (lv_at hl 1 rfl) ?_
    refine lv_aload_n E.1 E.2.1 dX6_hasCat_5 rfl (lv_at hl 0 rfl) ?_
    refine x_get E h 0 7 rfl rfl rfl (by decide) xinX6 kw202 dX6_hasCat_6 ?_
    refine x_br hf (lv_icmp_ge (tgt := 16) E.1 E.2.1 dX6_hasCat_9 (by decide)) (fun hf => ?_) (fun hf => ?_)
    · refine lv_iconst (v := 0) E.1 E.2.1 dX6_hasCat_16 (by decide) ?_
      exact x_zrc E h (by decide) hf dX6_hasCat_17
    · refine lv_iconst (v := 1) E.1 E.2.1 dX6_hasCat_12 (by decide) ?_
      refine lv_goto (tgt := 17) E.1 E.2.1 dX6_hasCat_13 (by decide) ?_
      exact x_zrc E h (by decide) hf dX6_hasCat_17
set_option maxHeartbeats 4000000 in
set_option maxRecDepth 100000 in
theorem w_X6_sitter_L2 {p : Program} {l : Launch} {e : Env} {s : State} {m : MethodId} {args : Array Value} {below : List Frame} {meth : Method} {c : Code} {D : va_G} {cy : Nat → ClassId} {s00 : State} {ad : Nat → Nat} {A : Nat → Prop}  {r9 : Int32} {u1 : Int32} {S : XS} {K : Int32 → Option (Int32)} (E : XE p s m args meth c cX6_sitter 3 RX6 (some .int) D cy s00) (hk : ∀ (m2 : Int32) (H : Heap) (locs : List Loc) (ls : Array Slot), K m2 = some r9 → XH D cy s00 shRoof ad S A s H locs → lv_has ls 3 [(0, .ref (ad 0)), (1, .int u1), (2, .int m2)] → W p l e (xrm 0) s m args below meth c H locs 0 0 (MQ below (xqi D cy shRoof ad r9 S A) args s 0 0 A) (F0 m 28 ls [])) :
    ∀ (n : Nat) (m2 : Int32) (H : Heap) (locs : List Loc) (ls : Array Slot), f_X6_sitter_L2 K S u1 n m2 = some r9 → XH D cy s00 shRoof ad S A s H locs → lv_has ls 3 [(0, .ref (ad 0)), (1, .int u1), (2, .int m2)] → W p l e (xrm 0) s m args below meth c H locs 0 0 (MQ below (xqi D cy shRoof ad r9 S A) args s 0 0 A) (F0 m 2 ls []) := by
  intro n
  induction n with
  | zero => intro m2 H locs ls hf; cases hf
  | succ n ih =>
    intro m2 H locs ls hf h hl
    rw [f_X6_sitter_L2] at hf
    refine lv_iload_n E.1 E.2.1 dX6_sitter_2 rfl (lv_at hl 2 rfl) ?_
    refine lv_aload_n E.1 E.2.1 dX6_sitter_3 rfl (lv_at hl 0 rfl) ?_
    refine x_get E h 0 7 rfl rfl rfl (by decide) xinX6 kw202 dX6_sitter_4 ?_
    refine x_br hf (lv_icmp_ge (tgt := 28) E.1 E.2.1 dX6_sitter_7 (by decide)) (fun hf => ?_) (fun hf => ?_)
    · exact hk _ _ _ _ hf h (lv_sub hl [0, 1, 2] rfl)
    · refine lv_aload_n E.1 E.2.1 dX6_sitter_10 rfl (lv_at hl 0 rfl) ?_
      refine x_getr E h 0 11 9 rfl rfl rfl (by decide) xinX6 kw209 dX6_sitter_11 ?_
      refine lv_iload_n E.1 E.2.1 dX6_sitter_14 rfl (lv_at hl 2 rfl) ?_
      refine x_iald E h 9 hf rfl dX6_sitter_15 (fun v1 hf => ?_)
      refine lv_iload_n E.1 E.2.1 dX6_sitter_16 rfl (lv_at hl 1 rfl) ?_
      refine x_brn hf (lv_icmp_ne (tgt := 22) E.1 E.2.1 dX6_sitter_17 (by decide)) (fun hf => ?_) (fun hf => ?_)
      · refine x_nv hf (fun v2 e9 hf => ?_)
        refine lv_iinc (v := v2) (lv' := [(2, .int v2), (0, .ref (ad 0)), (1, .int u1)]) E.1 E.2.1 dX6_sitter_22 hl (k := 2) rfl (by rw [e9]; rfl) (by decide) rfl (fun ls hl => ?_)
        refine lv_goto (tgt := 2) E.1 E.2.1 dX6_sitter_25 (by decide) ?_
        exact ih _ _ _ _ hf h (lv_sub hl [1, 2, 0] rfl)
      · refine lv_iload_n E.1 E.2.1 dX6_sitter_20 rfl (lv_at hl 2 rfl) ?_
        exact x_irp E h hf dX6_sitter_21
set_option maxHeartbeats 4000000 in
set_option maxRecDepth 100000 in
theorem c_X6_sitter (l : Launch) (D : va_G) (cy : Nat → ClassId) (s00 : State) (ad : Nat → Nat) (S : XS) (p0 : Int32) (r9 : Int32) (hf : f_X6_sitter S p0 = some r9) : XI l yX6_sitter cX6_sitter 3 (some .int) 0 D cy s00 shRoof ad S [.ref (ad 0), .int p0] r9 S := by
  refine XI.of (by decide) [(0, .ref (ad 0)), (1, .int p0)] rfl (Nat.le_of_ble_eq_true rfl) (fun p e s m args below meth c A ls E h hl => ?_)
  unfold f_X6_sitter at hf
  refine lv_iconst (v := 0) E.1 E.2.1 dX6_sitter_0 (by decide) ?_
  refine lv_istore_n (lv' := [(2, .int 0), (0, .ref (ad 0)), (1, .int p0)]) E.1 E.2.1 dX6_sitter_1 rfl hl (by decide) rfl (fun ls hl => ?_)
  refine w_X6_sitter_L2 E ?_ _ _ _ _ _ hf h (lv_sub hl [1, 2, 0] rfl)
  intro v3 H locs ls hf h hl
  refine lv_iconst (v := (-1)) E.1 E.2.1 dX6_sitter_28 (by decide) ?_
  exact x_irp E h hf dX6_sitter_29
set_option maxHeartbeats 4000000 in
set_option maxRecDepth 100000 in
theorem w_X6_warmestSeat_L6 {p : Program} {l : Launch} {e : Env} {s : State} {m : MethodId} {args : Array Value} {below : List Frame} {meth : Method} {c : Code} {D : va_G} {cy : Nat → ClassId} {s00 : State} {ad : Nat → Nat} {A : Nat → Prop}  {r9 : Int32}  {S : XS} {K : Int32 → Int32 → Int32 → Option (Int32)} (E : XE p s m args meth c cX6_warmestSeat 4 RX6 (some .int) D cy s00) (hk : ∀ (m1 m2 m3 : Int32) (H : Heap) (locs : List Loc) (ls : Array Slot), K m1 m2 m3 = some r9 → XH D cy s00 shRoof ad S A s H locs → lv_has ls 4 [(0, .ref (ad 0)), (1, .int m1), (2, .int m2), (3, .int m3)] → W p l e (xrm 1) s m args below meth c H locs 0 0 (MQ below (xqi D cy shRoof ad r9 S A) args s 0 0 A) (F0 m 48 ls [])) :
    ∀ (n : Nat) (m1 m2 m3 : Int32) (H : Heap) (locs : List Loc) (ls : Array Slot), f_X6_warmestSeat_L6 K S n m1 m2 m3 = some r9 → XH D cy s00 shRoof ad S A s H locs → lv_has ls 4 [(0, .ref (ad 0)), (1, .int m1), (2, .int m2), (3, .int m3)] → W p l e (xrm 1) s m args below meth c H locs 0 0 (MQ below (xqi D cy shRoof ad r9 S A) args s 0 0 A) (F0 m 6 ls []) := by
  intro n
  induction n with
  | zero => intro m1 m2 m3 H locs ls hf; cases hf
  | succ n ih =>
    intro m1 m2 m3 H locs ls hf h hl
    rw [f_X6_warmestSeat_L6] at hf
    refine lv_iload_n E.1 E.2.1 dX6_warmestSeat_6 rfl (lv_at hl 3 rfl) ?_
    refine lv_aload_n E.1 E.2.1 dX6_warmestSeat_7 rfl (lv_at hl 0 rfl) ?_
    refine x_get E h 0 0 rfl rfl rfl (by decide) xinX6 kw182 dX6_warmestSeat_8 ?_
    refine x_br hf (lv_icmp_ge (tgt := 48) E.1 E.2.1 dX6_warmestSeat_11 (by decide)) (fun hf => ?_) (fun hf => ?_)
    · exact hk _ _ _ _ _ _ hf h (lv_sub hl [0, 1, 2, 3] rfl)
    · refine lv_aload_n E.1 E.2.1 dX6_warmestSeat_14 rfl (lv_at hl 0 rfl) ?_
      refine x_getr E h 0 1 1 rfl rfl rfl (by decide) xinX6 kw186 dX6_warmestSeat_15 ?_
      refine lv_iload_n E.1 E.2.1 dX6_warmestSeat_18 rfl (lv_at hl 3 rfl) ?_
      refine x_iald E h 1 hf rfl dX6_warmestSeat_19 (fun v1 hf => ?_)
      refine lv_iload_n E.1 E.2.1 dX6_warmestSeat_20 rfl (lv_at hl 2 rfl) ?_
      refine x_br hf (lv_icmp_le (tgt := 42) E.1 E.2.1 dX6_warmestSeat_21 (by decide)) (fun hf => ?_) (fun hf => ?_)
      · refine x_nv hf (fun v2 e9 hf => ?_)
        refine lv_iinc (v := v2) (lv' := [(3, .int v2), (0, .ref (ad 0)), (1, .int m1), (2, .int m2)]) E.1 E.2.1 dX6_warmestSeat_42 hl (k := 3) rfl (by rw [e9]; rfl) (by decide) rfl (fun ls hl => ?_)
        refine lv_goto (tgt := 6) E.1 E.2.1 dX6_warmestSeat_45 (by decide) ?_
        exact ih _ _ _ _ _ _ hf h (lv_sub hl [1, 2, 3, 0] rfl)
      · refine lv_aload_n E.1 E.2.1 dX6_warmestSeat_24 rfl (lv_at hl 0 rfl) ?_
        refine lv_iload_n E.1 E.2.1 dX6_warmestSeat_25 rfl (lv_at hl 3 rfl) ?_
        refine x_callp E h hl 0 hf (fun r0 hr => c_X6_sitter l D cy s00 _ S m3 r0 hr) m_X6_sitter rfl rfl kw618 rfl rfl (Nat.le_of_ble_eq_true rfl) ⟨by decide, by decide⟩ ⟨Nat.zero_le _, Nat.zero_le _⟩ dX6_warmestSeat_26 (fun v3 H locs hf h => ?_)
        refine lv_iconst (v := (-1)) E.1 E.2.1 dX6_warmestSeat_29 (by decide) ?_
        refine x_brn hf (lv_icmp_ne (tgt := 42) E.1 E.2.1 dX6_warmestSeat_30 (by decide)) (fun hf => ?_) (fun hf => ?_)
        · refine x_nv hf (fun v4 e9 hf => ?_)
          refine lv_iinc (v := v4) (lv' := [(3, .int v4), (0, .ref (ad 0)), (1, .int m1), (2, .int m2)]) E.1 E.2.1 dX6_warmestSeat_42 hl (k := 3) rfl (by rw [e9]; rfl) (by decide) rfl (fun ls hl => ?_)
          refine lv_goto (tgt := 6) E.1 E.2.1 dX6_warmestSeat_45 (by decide) ?_
          exact ih _ _ _ _ _ _ hf h (lv_sub hl [1, 2, 3, 0] rfl)
        · refine lv_iload_n E.1 E.2.1 dX6_warmestSeat_33 rfl (lv_at hl 3 rfl) ?_
          refine lv_istore_n (lv' := [(1, .int m3), (0, .ref (ad 0)), (2, .int m2), (3, .int m3)]) E.1 E.2.1 dX6_warmestSeat_34 rfl hl (by decide) rfl (fun ls hl => ?_)
          refine lv_aload_n E.1 E.2.1 dX6_warmestSeat_35 rfl (lv_at hl 1 rfl) ?_
          refine x_getr E h 0 1 1 rfl rfl rfl (by decide) xinX6 kw186 dX6_warmestSeat_36 ?_
          refine lv_iload_n E.1 E.2.1 dX6_warmestSeat_39 rfl (lv_at hl 3 rfl) ?_
          refine x_iald E h 1 hf rfl dX6_warmestSeat_40 (fun v5 hf => ?_)
          refine lv_istore_n (lv' := [(2, .int v5), (1, .int m3), (0, .ref (ad 0)), (3, .int m3)]) E.1 E.2.1 dX6_warmestSeat_41 rfl hl (by decide) rfl (fun ls hl => ?_)
          refine x_nv hf (fun v6 e9 hf => ?_)
          refine lv_iinc (v := v6) (lv' := [(3, .int v6), (2, .int v5), (1, .int m3), (0, .ref (ad 0))]) E.1 E.2.1 dX6_warmestSeat_42 hl (k := 3) rfl (by rw [e9]; rfl) (by decide) rfl (fun ls hl => ?_)
          refine lv_goto (tgt := 6) E.1 E.2.1 dX6_warmestSeat_45 (by decide) ?_
          exact ih _ _ _ _ _ _ hf h (lv_sub hl [3, 2, 1, 0] rfl)
set_option maxHeartbeats 4000000 in
set_option maxRecDepth 100000 in
theorem c_X6_warmestSeat (l : Launch) (D : va_G) (cy : Nat → ClassId) (s00 : State) (ad : Nat → Nat) (S : XS) (r9 : Int32) (hf : f_X6_warmestSeat S = some r9) : XI l yX6_warmestSeat cX6_warmestSeat 4 (some .int) 1 D cy s00 shRoof ad S [.ref (ad 0)] r9 S := by
  refine XI.of (by decide) [(0, .ref (ad 0))] rfl (Nat.le_of_ble_eq_true rfl) (fun p e s m args below meth c A ls E h hl => ?_)
  unfold f_X6_warmestSeat at hf
  refine lv_iconst (v := (-1)) E.1 E.2.1 dX6_warmestSeat_0 (by decide) ?_
  refine lv_istore_n (lv' := [(1, .int (-1)), (0, .ref (ad 0))]) E.1 E.2.1 dX6_warmestSeat_1 rfl hl (by decide) rfl (fun ls hl => ?_)
  refine lv_iconst (v := (-1)) E.1 E.2.1 dX6_warmestSeat_2 (by decide) ?_
  refine lv_istore_n (lv' := [(2, .int (-1)), (1, .int (-1)), (0, .ref (ad 0))]) E.1 E.2.1 dX6_warmestSeat_3 rfl hl (by decide) rfl (fun ls hl => ?_)
  refine lv_iconst (v := 0) E.1 E.2.1 dX6_warmestSeat_4 (by decide) ?_
  refine lv_istore_n (lv' := [(3, .int 0), (2, .int (-1)), (1, .int (-1)), (0, .ref (ad 0))]) E.1 E.2.1 dX6_warmestSeat_5 rfl hl (by decide) rfl (fun ls hl => ?_)
  refine w_X6_warmestSeat_L6 E ?_ _ _ _ _ _ _ _ hf h (lv_sub hl [3, 2, 1, 0] rfl)
  intro v7 v8 v9 H locs ls hf h hl
  refine lv_iload_n E.1 E.2.1 dX6_warmestSeat_48 rfl (lv_at hl 1 rfl) ?_
  exact x_irp E h hf dX6_warmestSeat_49
set_option maxHeartbeats 4000000 in
set_option maxRecDepth 100000 in
theorem c_X6_sitsAtHome (l : Launch) (D : va_G) (cy : Nat → ClassId) (s00 : State) (ad : Nat → Nat) (S : XS) (p0 : Int32) (r9 : Int32) (hf : f_X6_sitsAtHome S p0 = some r9) : XI l yX6_sitsAtHome cX6_sitsAtHome 2 (some .boolean) 0 D cy s00 shRoof ad S [.ref (ad 0), .int p0] r9 S := by
  refine XI.of (by decide) [(0, .ref (ad 0)), (1, .int p0)] rfl (Nat.le_of_ble_eq_true rfl) (fun p e s m args below meth c A ls E h hl => ?_)
  unfold f_X6_sitsAtHome at hf
  refine lv_aload_n E.1 E.2.1 dX6_sitsAtHome_0 rfl (lv_at hl 0 rfl) ?_
  refine x_getr E h 0 2 2 rfl rfl rfl (by decide) xinX6 kw189 dX6_sitsAtHome_1 ?_
  refine lv_aload_n E.1 E.2.1 dX6_sitsAtHome_4 rfl (lv_at hl 0 rfl) ?_
  refine x_getr E h 0 11 9 rfl rfl rfl (by decide) xinX6 kw209 dX6_sitsAtHome_5 ?_
  refine lv_iload_n E.1 E.2.1 dX6_sitsAtHome_8 rfl (lv_at hl 1 rfl) ?_
  refine x_iald E h 9 hf rfl dX6_sitsAtHome_9 (fun v1 hf => ?_)
  refine x_iald E h 2 hf rfl dX6_sitsAtHome_10 (fun v2 hf => ?_)
  refine lv_iload_n E.1 E.2.1 dX6_sitsAtHome_11 rfl (lv_at hl 1 rfl) ?_
  refine x_brn hf (lv_icmp_ne (tgt := 19) E.1 E.2.1 dX6_sitsAtHome_12 (by decide)) (fun hf => ?_) (fun hf => ?_)
  · refine lv_iconst (v := 0) E.1 E.2.1 dX6_sitsAtHome_19 (by decide) ?_
    exact x_zrc E h (by decide) hf dX6_sitsAtHome_20
  · refine lv_iconst (v := 1) E.1 E.2.1 dX6_sitsAtHome_15 (by decide) ?_
    refine lv_goto (tgt := 20) E.1 E.2.1 dX6_sitsAtHome_16 (by decide) ?_
    exact x_zrc E h (by decide) hf dX6_sitsAtHome_20
set_option maxHeartbeats 4000000 in
set_option maxRecDepth 100000 in
theorem c_X6_might (l : Launch) (D : va_G) (cy : Nat → ClassId) (s00 : State) (ad : Nat → Nat) (S : XS) (p0 : Int32) (r9 : Int32) (hf : f_X6_might S p0 = some r9) : XI l yX6_might cX6_might 2 (some .int) 1 D cy s00 shRoof ad S [.ref (ad 0), .int p0] r9 S := by
  refine XI.of (by decide) [(0, .ref (ad 0)), (1, .int p0)] rfl (Nat.le_of_ble_eq_true rfl) (fun p e s m args below meth c A ls E h hl => ?_)
  unfold f_X6_might at hf
  refine lv_aload_n E.1 E.2.1 dX6_might_0 rfl (lv_at hl 0 rfl) ?_
  refine lv_iload_n E.1 E.2.1 dX6_might_1 rfl (lv_at hl 1 rfl) ?_
  refine x_callp E h hl 0 hf (fun r0 hr => c_X6_sitsAtHome l D cy s00 _ S p0 r0 hr) m_X6_sitsAtHome rfl rfl kw413 rfl rfl (Nat.le_of_ble_eq_true rfl) ⟨by decide, by decide⟩ ⟨Nat.zero_le _, Nat.zero_le _⟩ dX6_might_2 (fun v1 H locs hf h => ?_)
  refine x_br hf (lv_if_eq (tgt := 19) E.1 E.2.1 dX6_might_5 (by decide)) (fun hf => ?_) (fun hf => ?_)
  · refine lv_aload_n E.1 E.2.1 dX6_might_19 rfl (lv_at hl 0 rfl) ?_
    refine x_getr E h 0 9 7 rfl rfl rfl (by decide) xinX6 kw206 dX6_might_20 ?_
    refine lv_iload_n E.1 E.2.1 dX6_might_23 rfl (lv_at hl 1 rfl) ?_
    refine x_iald E h 7 hf rfl dX6_might_24 (fun v2 hf => ?_)
    exact x_irp E h hf dX6_might_25
  · refine lv_aload_n E.1 E.2.1 dX6_might_8 rfl (lv_at hl 0 rfl) ?_
    refine x_getr E h 0 9 7 rfl rfl rfl (by decide) xinX6 kw206 dX6_might_9 ?_
    refine lv_iload_n E.1 E.2.1 dX6_might_12 rfl (lv_at hl 1 rfl) ?_
    refine x_iald E h 7 hf rfl dX6_might_13 (fun v3 hf => ?_)
    refine lv_iconst (v := 2) E.1 E.2.1 dX6_might_14 (by decide) ?_
    refine lv_iadd E.1 E.2.1 dX6_might_15 ?_
    refine lv_goto (tgt := 25) E.1 E.2.1 dX6_might_16 (by decide) ?_
    exact x_irp E h hf dX6_might_25
set_option maxHeartbeats 4000000 in
set_option maxRecDepth 100000 in
theorem w_X6_estate_L4 {p : Program} {l : Launch} {e : Env} {s : State} {m : MethodId} {args : Array Value} {below : List Frame} {meth : Method} {c : Code} {D : va_G} {cy : Nat → ClassId} {s00 : State} {ad : Nat → Nat} {A : Nat → Prop}  {r9 : Int32} {u1 : Int32} {S : XS} {K : Int32 → Int32 → Option (Int32)} (E : XE p s m args meth c cX6_estate 4 RX6 (some .int) D cy s00) (hk : ∀ (m2 m3 : Int32) (H : Heap) (locs : List Loc) (ls : Array Slot), K m2 m3 = some r9 → XH D cy s00 shRoof ad S A s H locs → lv_has ls 4 [(0, .ref (ad 0)), (1, .int u1), (2, .int m2), (3, .int m3)] → W p l e (xrm 0) s m args below meth c H locs 0 0 (MQ below (xqi D cy shRoof ad r9 S A) args s 0 0 A) (F0 m 34 ls [])) :
    ∀ (n : Nat) (m2 m3 : Int32) (H : Heap) (locs : List Loc) (ls : Array Slot), f_X6_estate_L4 K S u1 n m2 m3 = some r9 → XH D cy s00 shRoof ad S A s H locs → lv_has ls 4 [(0, .ref (ad 0)), (1, .int u1), (2, .int m2), (3, .int m3)] → W p l e (xrm 0) s m args below meth c H locs 0 0 (MQ below (xqi D cy shRoof ad r9 S A) args s 0 0 A) (F0 m 4 ls []) := by
  intro n
  induction n with
  | zero => intro m2 m3 H locs ls hf; cases hf
  | succ n ih =>
    intro m2 m3 H locs ls hf h hl
    rw [f_X6_estate_L4] at hf
    refine lv_iload_n E.1 E.2.1 dX6_estate_4 rfl (lv_at hl 3 rfl) ?_
    refine lv_aload_n E.1 E.2.1 dX6_estate_5 rfl (lv_at hl 0 rfl) ?_
    refine x_get E h 0 0 rfl rfl rfl (by decide) xinX6 kw182 dX6_estate_6 ?_
    refine x_br hf (lv_icmp_ge (tgt := 34) E.1 E.2.1 dX6_estate_9 (by decide)) (fun hf => ?_) (fun hf => ?_)
    · exact hk _ _ _ _ _ hf h (lv_sub hl [0, 1, 2, 3] rfl)
    · refine lv_aload_n E.1 E.2.1 dX6_estate_12 rfl (lv_at hl 0 rfl) ?_
      refine x_getr E h 0 2 2 rfl rfl rfl (by decide) xinX6 kw189 dX6_estate_13 ?_
      refine lv_iload_n E.1 E.2.1 dX6_estate_16 rfl (lv_at hl 3 rfl) ?_
      refine x_iald E h 2 hf rfl dX6_estate_17 (fun v1 hf => ?_)
      refine lv_iload_n E.1 E.2.1 dX6_estate_18 rfl (lv_at hl 1 rfl) ?_
      refine x_brn hf (lv_icmp_ne (tgt := 28) E.1 E.2.1 dX6_estate_19 (by decide)) (fun hf => ?_) (fun hf => ?_)
      · refine x_nv hf (fun v2 e9 hf => ?_)
        refine lv_iinc (v := v2) (lv' := [(3, .int v2), (0, .ref (ad 0)), (1, .int u1), (2, .int m2)]) E.1 E.2.1 dX6_estate_28 hl (k := 3) rfl (by rw [e9]; rfl) (by decide) rfl (fun ls hl => ?_)
        refine lv_goto (tgt := 4) E.1 E.2.1 dX6_estate_31 (by decide) ?_
        exact ih _ _ _ _ _ hf h (lv_sub hl [1, 2, 3, 0] rfl)
      · refine lv_iload_n E.1 E.2.1 dX6_estate_22 rfl (lv_at hl 2 rfl) ?_
        refine lv_iconst (v := 1) E.1 E.2.1 dX6_estate_23 (by decide) ?_
        refine lv_iload_n E.1 E.2.1 dX6_estate_24 rfl (lv_at hl 3 rfl) ?_
        refine lv_ishl E.1 E.2.1 dX6_estate_25 ?_
        refine lv_ior E.1 E.2.1 dX6_estate_26 ?_
        refine x_nm hf (fun v3 hf => ?_)
        refine lv_istore_n (lv' := [(2, .int v3), (0, .ref (ad 0)), (1, .int u1), (3, .int m3)]) E.1 E.2.1 dX6_estate_27 rfl hl (by decide) rfl (fun ls hl => ?_)
        refine x_nv hf (fun v4 e9 hf => ?_)
        refine lv_iinc (v := v4) (lv' := [(3, .int v4), (2, .int v3), (0, .ref (ad 0)), (1, .int u1)]) E.1 E.2.1 dX6_estate_28 hl (k := 3) rfl (by rw [e9]; rfl) (by decide) rfl (fun ls hl => ?_)
        refine lv_goto (tgt := 4) E.1 E.2.1 dX6_estate_31 (by decide) ?_
        exact ih _ _ _ _ _ hf h (lv_sub hl [2, 3, 1, 0] rfl)
set_option maxHeartbeats 4000000 in
set_option maxRecDepth 100000 in
theorem c_X6_estate (l : Launch) (D : va_G) (cy : Nat → ClassId) (s00 : State) (ad : Nat → Nat) (S : XS) (p0 : Int32) (r9 : Int32) (hf : f_X6_estate S p0 = some r9) : XI l yX6_estate cX6_estate 4 (some .int) 0 D cy s00 shRoof ad S [.ref (ad 0), .int p0] r9 S := by
  refine XI.of (by decide) [(0, .ref (ad 0)), (1, .int p0)] rfl (Nat.le_of_ble_eq_true rfl) (fun p e s m args below meth c A ls E h hl => ?_)
  unfold f_X6_estate at hf
  refine lv_iconst (v := 0) E.1 E.2.1 dX6_estate_0 (by decide) ?_
  refine lv_istore_n (lv' := [(2, .int 0), (0, .ref (ad 0)), (1, .int p0)]) E.1 E.2.1 dX6_estate_1 rfl hl (by decide) rfl (fun ls hl => ?_)
  refine lv_iconst (v := 0) E.1 E.2.1 dX6_estate_2 (by decide) ?_
  refine lv_istore_n (lv' := [(3, .int 0), (2, .int 0), (0, .ref (ad 0)), (1, .int p0)]) E.1 E.2.1 dX6_estate_3 rfl hl (by decide) rfl (fun ls hl => ?_)
  refine w_X6_estate_L4 E ?_ _ _ _ _ _ _ hf h (lv_sub hl [2, 3, 1, 0] rfl)
  intro v5 v6 H locs ls hf h hl
  refine lv_iload_n E.1 E.2.1 dX6_estate_34 rfl (lv_at hl 2 rfl) ?_
  exact x_irp E h hf dX6_estate_35
set_option maxHeartbeats 4000000 in
set_option maxRecDepth 100000 in
theorem c_X6_ownsEnough (l : Launch) (D : va_G) (cy : Nat → ClassId) (s00 : State) (ad : Nat → Nat) (S : XS) (p0 : Int32) (r9 : Int32) (hf : f_X6_ownsEnough S p0 = some r9) : XI l yX6_ownsEnough cX6_ownsEnough 2 (some .boolean) 1 D cy s00 shRoof ad S [.ref (ad 0), .int p0] r9 S := by
  refine XI.of (by decide) [(0, .ref (ad 0)), (1, .int p0)] rfl (Nat.le_of_ble_eq_true rfl) (fun p e s m args below meth c A ls E h hl => ?_)
  unfold f_X6_ownsEnough at hf
  refine lv_aload_n E.1 E.2.1 dX6_ownsEnough_0 rfl (lv_at hl 0 rfl) ?_
  refine lv_iload_n E.1 E.2.1 dX6_ownsEnough_1 rfl (lv_at hl 1 rfl) ?_
  refine x_callp E h hl 0 hf (fun r0 hr => c_X6_estate l D cy s00 _ S p0 r0 hr) m_X6_estate rfl rfl kw379 rfl rfl (Nat.le_of_ble_eq_true rfl) ⟨by decide, by decide⟩ ⟨Nat.zero_le _, Nat.zero_le _⟩ dX6_ownsEnough_2 (fun v1 H locs hf h => ?_)
  refine x_callsp E h hl hf (fun r0 hr => c_J6_bitCount_0f7a4 l D cy s00 _ _ v1 r0 hr) m_J6_bitCount_0f7a4 kw383 rfl rfl (Nat.le_of_ble_eq_true rfl) ⟨by decide, by decide⟩ ⟨Nat.zero_le _, Nat.zero_le _⟩ dX6_ownsEnough_5 (fun v2 H locs hf h => ?_)
  refine lv_iconst (v := 4) E.1 E.2.1 dX6_ownsEnough_8 (by decide) ?_
  refine x_br hf (lv_icmp_lt (tgt := 16) E.1 E.2.1 dX6_ownsEnough_9 (by decide)) (fun hf => ?_) (fun hf => ?_)
  · refine lv_iconst (v := 0) E.1 E.2.1 dX6_ownsEnough_16 (by decide) ?_
    exact x_zrc E h (by decide) hf dX6_ownsEnough_17
  · refine lv_iconst (v := 1) E.1 E.2.1 dX6_ownsEnough_12 (by decide) ?_
    refine lv_goto (tgt := 17) E.1 E.2.1 dX6_ownsEnough_13 (by decide) ?_
    exact x_zrc E h (by decide) hf dX6_ownsEnough_17
set_option maxHeartbeats 4000000 in
set_option maxRecDepth 100000 in
theorem c_X6_truceLeft (l : Launch) (D : va_G) (cy : Nat → ClassId) (s00 : State) (ad : Nat → Nat) (S : XS) (p0 p1 : Int32) (r9 : Int32) (hf : f_X6_truceLeft S p0 p1 = some r9) : XI l yX6_truceLeft cX6_truceLeft 3 (some .int) 1 D cy s00 shRoof ad S [.ref (ad 0), .int p0, .int p1] r9 S := by
  refine XI.of (by decide) [(0, .ref (ad 0)), (1, .int p0), (2, .int p1)] rfl (Nat.le_of_ble_eq_true rfl) (fun p e s m args below meth c A ls E h hl => ?_)
  unfold f_X6_truceLeft at hf
  refine lv_iconst (v := 0) E.1 E.2.1 dX6_truceLeft_0 (by decide) ?_
  refine lv_aload_n E.1 E.2.1 dX6_truceLeft_1 rfl (lv_at hl 0 rfl) ?_
  refine x_getr E h 0 12 10 rfl rfl rfl (by decide) xinX6 kw211 dX6_truceLeft_2 ?_
  refine lv_iload_n E.1 E.2.1 dX6_truceLeft_5 rfl (lv_at hl 1 rfl) ?_
  refine lv_bipush (v := 8) E.1 E.2.1 dX6_truceLeft_6 (by decide) ?_
  refine lv_imul E.1 E.2.1 dX6_truceLeft_8 ?_
  refine lv_iload_n E.1 E.2.1 dX6_truceLeft_9 rfl (lv_at hl 2 rfl) ?_
  refine lv_iadd E.1 E.2.1 dX6_truceLeft_10 ?_
  refine x_iald E h 10 hf rfl dX6_truceLeft_11 (fun v1 hf => ?_)
  refine lv_aload_n E.1 E.2.1 dX6_truceLeft_12 rfl (lv_at hl 0 rfl) ?_
  refine x_get E h 0 13 rfl rfl rfl (by decide) xinX6 kw212 dX6_truceLeft_13 ?_
  refine lv_isub E.1 E.2.1 dX6_truceLeft_16 ?_
  refine va_mmax E.1 E.2.1 (E.2.2.1.trans hl.1.symm) E.2.2.2.1 (E.2.2.2.2.1 _ kw420) (E.2.2.2.2.1 _ kw421) (E.2.2.2.2.1 _ kw124) (E.2.2.2.2.1 _ kw422) (by decide) (Nat.le_of_ble_eq_true rfl) (Nat.zero_le _) (Nat.zero_le _) dX6_truceLeft_17 ?_
  exact x_irp E h hf dX6_truceLeft_20
set_option maxHeartbeats 4000000 in
set_option maxRecDepth 100000 in
theorem c_X6_isBarred (l : Launch) (D : va_G) (cy : Nat → ClassId) (s00 : State) (ad : Nat → Nat) (S : XS) (p0 p1 : Int32) (r9 : Int32) (hf : f_X6_isBarred S p0 p1 = some r9) : XI l yX6_isBarred cX6_isBarred 4 (some .boolean) 2 D cy s00 shRoof ad S [.ref (ad 0), .int p0, .int p1] r9 S := by
  refine XI.of (by decide) [(0, .ref (ad 0)), (1, .int p0), (2, .int p1)] rfl (Nat.le_of_ble_eq_true rfl) (fun p e s m args below meth c A ls E h hl => ?_)
  unfold f_X6_isBarred at hf
  refine lv_aload_n E.1 E.2.1 dX6_isBarred_0 rfl (lv_at hl 0 rfl) ?_
  refine x_getr E h 0 2 2 rfl rfl rfl (by decide) xinX6 kw189 dX6_isBarred_1 ?_
  refine lv_iload_n E.1 E.2.1 dX6_isBarred_4 rfl (lv_at hl 2 rfl) ?_
  refine x_iald E h 2 hf rfl dX6_isBarred_5 (fun v1 hf => ?_)
  refine lv_istore_n (lv' := [(3, .int v1), (0, .ref (ad 0)), (1, .int p0), (2, .int p1)]) E.1 E.2.1 dX6_isBarred_6 rfl hl (by decide) rfl (fun ls hl => ?_)
  refine lv_iload_n E.1 E.2.1 dX6_isBarred_7 rfl (lv_at hl 0 rfl) ?_
  refine lv_iconst (v := (-1)) E.1 E.2.1 dX6_isBarred_8 (by decide) ?_
  refine x_br hf (lv_icmp_eq (tgt := 30) E.1 E.2.1 dX6_isBarred_9 (by decide)) (fun hf => ?_) (fun hf => ?_)
  · refine lv_iconst (v := 0) E.1 E.2.1 dX6_isBarred_30 (by decide) ?_
    exact x_zrc E h (by decide) hf dX6_isBarred_31
  · refine lv_iload_n E.1 E.2.1 dX6_isBarred_12 rfl (lv_at hl 0 rfl) ?_
    refine lv_iload_n E.1 E.2.1 dX6_isBarred_13 rfl (lv_at hl 2 rfl) ?_
    refine x_br hf (lv_icmp_eq (tgt := 30) E.1 E.2.1 dX6_isBarred_14 (by decide)) (fun hf => ?_) (fun hf => ?_)
    · refine lv_iconst (v := 0) E.1 E.2.1 dX6_isBarred_30 (by decide) ?_
      exact x_zrc E h (by decide) hf dX6_isBarred_31
    · refine lv_aload_n E.1 E.2.1 dX6_isBarred_17 rfl (lv_at hl 1 rfl) ?_
      refine lv_iload_n E.1 E.2.1 dX6_isBarred_18 rfl (lv_at hl 2 rfl) ?_
      refine lv_iload_n E.1 E.2.1 dX6_isBarred_19 rfl (lv_at hl 0 rfl) ?_
      refine x_callp E h hl 0 hf (fun r0 hr => c_X6_truceLeft l D cy s00 _ S p0 v1 r0 hr) m_X6_truceLeft rfl rfl kw634 rfl rfl (Nat.le_of_ble_eq_true rfl) ⟨by decide, by decide⟩ ⟨Nat.zero_le _, Nat.zero_le _⟩ dX6_isBarred_20 (fun v2 H locs hf h => ?_)
      refine x_brn hf (lv_if_ne (tgt := 30) E.1 E.2.1 dX6_isBarred_23 (by decide)) (fun hf => ?_) (fun hf => ?_)
      · refine lv_iconst (v := 0) E.1 E.2.1 dX6_isBarred_30 (by decide) ?_
        exact x_zrc E h (by decide) hf dX6_isBarred_31
      · refine lv_iconst (v := 1) E.1 E.2.1 dX6_isBarred_26 (by decide) ?_
        refine lv_goto (tgt := 31) E.1 E.2.1 dX6_isBarred_27 (by decide) ?_
        exact x_zrc E h (by decide) hf dX6_isBarred_31
set_option maxHeartbeats 4000000 in
set_option maxRecDepth 100000 in
theorem w_X6_spread_L22 {p : Program} {l : Launch} {e : Env} {s : State} {m : MethodId} {args : Array Value} {below : List Frame} {meth : Method} {c : Code} {D : va_G} {cy : Nat → ClassId} {s00 : State} {ad : Nat → Nat} {A : Nat → Prop}  {r9 : Int32} {u1 : Int32} {u2 : Int32} {u3 : Int32} {u4 : Int32} {u5 : Int32} {u6 : Int32} {S : XS} {K : Int32 → Int32 → Option (Int32)} (E : XE p s m args meth c cX6_spread 10 RX6 (some .int) D cy s00) (hk : ∀ (m7 m8 : Int32) (H : Heap) (locs : List Loc) (ls : Array Slot), K m7 m8 = some r9 → XH D cy s00 shRoof ad S A s H locs → lv_has ls 10 [(0, .ref (ad 0)), (1, .int u1), (2, .int u2), (3, .int u3), (4, .int u4), (5, .int u5), (6, .int u6), (7, .int m7), (8, .int m8)] → W p l e (xrm 0) s m args below meth c H locs 0 0 (MQ below (xqi D cy shRoof ad r9 S A) args s 0 0 A) (F0 m 86 ls [])) :
    ∀ (n : Nat) (m7 m8 : Int32) (H : Heap) (locs : List Loc) (ls : Array Slot), f_X6_spread_L22 K S u1 u2 u3 u4 u5 u6 n m7 m8 = some r9 → XH D cy s00 shRoof ad S A s H locs → lv_has ls 10 [(0, .ref (ad 0)), (1, .int u1), (2, .int u2), (3, .int u3), (4, .int u4), (5, .int u5), (6, .int u6), (7, .int m7), (8, .int m8)] → W p l e (xrm 0) s m args below meth c H locs 0 0 (MQ below (xqi D cy shRoof ad r9 S A) args s 0 0 A) (F0 m 22 ls []) := by
  intro n
  induction n with
  | zero => intro m7 m8 H locs ls hf; cases hf
  | succ n ih =>
    intro m7 m8 H locs ls hf h hl
    rw [f_X6_spread_L22] at hf
    refine lv_iload E.1 E.2.1 dX6_spread_22 (lv_at hl 8 rfl) ?_
    refine lv_aload_n E.1 E.2.1 dX6_spread_24 rfl (lv_at hl 0 rfl) ?_
    refine x_get E h 0 3 rfl rfl rfl (by decide) xinX6 kw193 dX6_spread_25 ?_
    refine x_br hf (lv_icmp_ge (tgt := 86) E.1 E.2.1 dX6_spread_28 (by decide)) (fun hf => ?_) (fun hf => ?_)
    · exact hk _ _ _ _ _ hf h (lv_sub hl [0, 1, 2, 3, 4, 5, 6, 7, 8] rfl)
    · refine lv_iconst (v := 1) E.1 E.2.1 dX6_spread_31 (by decide) ?_
      refine lv_aload_n E.1 E.2.1 dX6_spread_32 rfl (lv_at hl 0 rfl) ?_
      refine x_getr E h 0 4 3 rfl rfl rfl (by decide) xinX6 kw196 dX6_spread_33 ?_
      refine lv_iload E.1 E.2.1 dX6_spread_36 (lv_at hl 8 rfl) ?_
      refine x_iald E h 3 hf rfl dX6_spread_38 (fun v2 hf => ?_)
      refine lv_ishl E.1 E.2.1 dX6_spread_39 ?_
      refine lv_iconst (v := 1) E.1 E.2.1 dX6_spread_40 (by decide) ?_
      refine lv_aload_n E.1 E.2.1 dX6_spread_41 rfl (lv_at hl 0 rfl) ?_
      refine x_getr E h 0 5 4 rfl rfl rfl (by decide) xinX6 kw198 dX6_spread_42 ?_
      refine lv_iload E.1 E.2.1 dX6_spread_45 (lv_at hl 8 rfl) ?_
      refine x_iald E h 4 hf rfl dX6_spread_47 (fun v3 hf => ?_)
      refine lv_ishl E.1 E.2.1 dX6_spread_48 ?_
      refine lv_ior E.1 E.2.1 dX6_spread_49 ?_
      refine x_nm hf (fun v4 hf => ?_)
      refine lv_istore (lv' := [(9, .int v4), (0, .ref (ad 0)), (1, .int u1), (2, .int u2), (3, .int u3), (4, .int u4), (5, .int u5), (6, .int u6), (7, .int m7), (8, .int m8)]) E.1 E.2.1 dX6_spread_50 hl (by decide) rfl (fun ls hl => ?_)
      refine lv_aload_n E.1 E.2.1 dX6_spread_52 rfl (lv_at hl 1 rfl) ?_
      refine x_getr E h 0 6 5 rfl rfl rfl (by decide) xinX6 kw200 dX6_spread_53 ?_
      refine lv_iload E.1 E.2.1 dX6_spread_56 (lv_at hl 9 rfl) ?_
      refine x_iald E h 5 hf rfl dX6_spread_58 (fun v5 hf => ?_)
      refine lv_iload_n E.1 E.2.1 dX6_spread_59 rfl (lv_at hl 4 rfl) ?_
      refine x_br hf (lv_icmp_lt (tgt := 80) E.1 E.2.1 dX6_spread_60 (by decide)) (fun hf => ?_) (fun hf => ?_)
      · refine x_nv hf (fun v6 e9 hf => ?_)
        refine lv_iinc (v := v6) (lv' := [(8, .int v6), (9, .int v4), (0, .ref (ad 0)), (1, .int u1), (2, .int u2), (3, .int u3), (4, .int u4), (5, .int u5), (6, .int u6), (7, .int m7)]) E.1 E.2.1 dX6_spread_80 hl (k := 9) rfl (by rw [e9]; rfl) (by decide) rfl (fun ls hl => ?_)
        refine lv_goto (tgt := 22) E.1 E.2.1 dX6_spread_83 (by decide) ?_
        exact ih _ _ _ _ _ hf h (lv_sub hl [2, 3, 4, 5, 6, 7, 8, 9, 0] rfl)
      · refine lv_iload E.1 E.2.1 dX6_spread_63 (lv_at hl 6 rfl) ?_
        refine lv_iload E.1 E.2.1 dX6_spread_65 (lv_at hl 0 rfl) ?_
        refine lv_iand E.1 E.2.1 dX6_spread_67 ?_
        refine x_br hf (lv_if_eq (tgt := 80) E.1 E.2.1 dX6_spread_68 (by decide)) (fun hf => ?_) (fun hf => ?_)
        · refine x_nv hf (fun v7 e9 hf => ?_)
          refine lv_iinc (v := v7) (lv' := [(8, .int v7), (9, .int v4), (0, .ref (ad 0)), (1, .int u1), (2, .int u2), (3, .int u3), (4, .int u4), (5, .int u5), (6, .int u6), (7, .int m7)]) E.1 E.2.1 dX6_spread_80 hl (k := 9) rfl (by rw [e9]; rfl) (by decide) rfl (fun ls hl => ?_)
          refine lv_goto (tgt := 22) E.1 E.2.1 dX6_spread_83 (by decide) ?_
          exact ih _ _ _ _ _ hf h (lv_sub hl [2, 3, 4, 5, 6, 7, 8, 9, 0] rfl)
        · refine lv_iload E.1 E.2.1 dX6_spread_71 (lv_at hl 8 rfl) ?_
          refine lv_iload E.1 E.2.1 dX6_spread_73 (lv_at hl 0 rfl) ?_
          refine lv_iload_n E.1 E.2.1 dX6_spread_75 rfl (lv_at hl 3 rfl) ?_
          refine lv_iand E.1 E.2.1 dX6_spread_76 ?_
          refine lv_ior E.1 E.2.1 dX6_spread_77 ?_
          refine x_nm hf (fun v8 hf => ?_)
          refine lv_istore (lv' := [(7, .int v8), (9, .int v4), (0, .ref (ad 0)), (1, .int u1), (2, .int u2), (3, .int u3), (4, .int u4), (5, .int u5), (6, .int u6), (8, .int m8)]) E.1 E.2.1 dX6_spread_78 hl (by decide) rfl (fun ls hl => ?_)
          refine x_nv hf (fun v9 e9 hf => ?_)
          refine lv_iinc (v := v9) (lv' := [(8, .int v9), (7, .int v8), (9, .int v4), (0, .ref (ad 0)), (1, .int u1), (2, .int u2), (3, .int u3), (4, .int u4), (5, .int u5), (6, .int u6)]) E.1 E.2.1 dX6_spread_80 hl (k := 9) rfl (by rw [e9]; rfl) (by decide) rfl (fun ls hl => ?_)
          refine lv_goto (tgt := 22) E.1 E.2.1 dX6_spread_83 (by decide) ?_
          exact ih _ _ _ _ _ hf h (lv_sub hl [3, 4, 5, 6, 7, 8, 9, 1, 0] rfl)
set_option maxHeartbeats 4000000 in
set_option maxRecDepth 100000 in
theorem w_X6_spread_L8 {p : Program} {l : Launch} {e : Env} {s : State} {m : MethodId} {args : Array Value} {below : List Frame} {meth : Method} {c : Code} {D : va_G} {cy : Nat → ClassId} {s00 : State} {ad : Nat → Nat} {A : Nat → Prop}  {r9 : Int32} {u1 : Int32} {u2 : Int32} {u3 : Int32} {u4 : Int32} {S : XS} {K : Int32 → Int32 → Option (Int32)} (E : XE p s m args meth c cX6_spread 10 RX6 (some .int) D cy s00) (hk : ∀ (m5 m6 : Int32) (H : Heap) (locs : List Loc) (ls : Array Slot), K m5 m6 = some r9 → XH D cy s00 shRoof ad S A s H locs → lv_has ls 10 [(0, .ref (ad 0)), (1, .int u1), (2, .int u2), (3, .int u3), (4, .int u4), (5, .int m5), (6, .int m6)] → W p l e (xrm 0) s m args below meth c H locs 0 0 (MQ below (xqi D cy shRoof ad r9 S A) args s 0 0 A) (F0 m 106 ls [])) :
    ∀ (n : Nat) (m5 m6 : Int32) (H : Heap) (locs : List Loc) (ls : Array Slot), f_X6_spread_L8 K S u1 u2 u3 u4 n m5 m6 = some r9 → XH D cy s00 shRoof ad S A s H locs → lv_has ls 10 [(0, .ref (ad 0)), (1, .int u1), (2, .int u2), (3, .int u3), (4, .int u4), (5, .int m5), (6, .int m6)] → W p l e (xrm 0) s m args below meth c H locs 0 0 (MQ below (xqi D cy shRoof ad r9 S A) args s 0 0 A) (F0 m 8 ls []) := by
  intro n
  induction n with
  | zero => intro m5 m6 H locs ls hf; cases hf
  | succ n ih =>
    intro m5 m6 H locs ls hf h hl
    rw [f_X6_spread_L8] at hf
    refine lv_iload E.1 E.2.1 dX6_spread_8 (lv_at hl 6 rfl) ?_
    refine lv_iload E.1 E.2.1 dX6_spread_10 (lv_at hl 4 rfl) ?_
    refine x_br hf (lv_icmp_ge (tgt := 106) E.1 E.2.1 dX6_spread_12 (by decide)) (fun hf => ?_) (fun hf => ?_)
    · exact hk _ _ _ _ _ hf h (lv_sub hl [0, 1, 2, 3, 4, 5, 6] rfl)
    · refine lv_iload E.1 E.2.1 dX6_spread_15 (lv_at hl 5 rfl) ?_
      refine lv_istore (lv' := [(7, .int m5), (0, .ref (ad 0)), (1, .int u1), (2, .int u2), (3, .int u3), (4, .int u4), (5, .int m5), (6, .int m6)]) E.1 E.2.1 dX6_spread_17 hl (by decide) rfl (fun ls hl => ?_)
      refine lv_iconst (v := 0) E.1 E.2.1 dX6_spread_19 (by decide) ?_
      refine lv_istore (lv' := [(8, .int 0), (7, .int m5), (0, .ref (ad 0)), (1, .int u1), (2, .int u2), (3, .int u3), (4, .int u4), (5, .int m5), (6, .int m6)]) E.1 E.2.1 dX6_spread_20 hl (by decide) rfl (fun ls hl => ?_)
      refine w_X6_spread_L22 E ?_ _ _ _ _ _ _ hf h (lv_sub hl [2, 3, 4, 5, 6, 7, 8, 1, 0] rfl)
      intro v10 v11 H locs ls hf h hl
      refine lv_iload E.1 E.2.1 dX6_spread_86 (lv_at hl 7 rfl) ?_
      refine lv_iload E.1 E.2.1 dX6_spread_88 (lv_at hl 5 rfl) ?_
      refine x_brn hf (lv_icmp_ne (tgt := 96) E.1 E.2.1 dX6_spread_90 (by decide)) (fun hf => ?_) (fun hf => ?_)
      · refine lv_iload E.1 E.2.1 dX6_spread_96 (lv_at hl 7 rfl) ?_
        refine lv_istore (lv' := [(5, .int v10), (0, .ref (ad 0)), (1, .int u1), (2, .int u2), (3, .int u3), (4, .int u4), (6, .int m6), (7, .int v10), (8, .int v11)]) E.1 E.2.1 dX6_spread_98 hl (by decide) rfl (fun ls hl => ?_)
        refine x_nv hf (fun v12 e9 hf => ?_)
        refine lv_iinc (v := v12) (lv' := [(6, .int v12), (5, .int v10), (0, .ref (ad 0)), (1, .int u1), (2, .int u2), (3, .int u3), (4, .int u4), (7, .int v10), (8, .int v11)]) E.1 E.2.1 dX6_spread_100 hl (k := 6) rfl (by rw [e9]; rfl) (by decide) rfl (fun ls hl => ?_)
        refine lv_goto (tgt := 8) E.1 E.2.1 dX6_spread_103 (by decide) ?_
        exact ih _ _ _ _ _ hf h (lv_sub hl [2, 3, 4, 5, 6, 1, 0] rfl)
      · refine lv_iload E.1 E.2.1 dX6_spread_93 (lv_at hl 5 rfl) ?_
        exact x_irp E h hf dX6_spread_95
set_option maxHeartbeats 4000000 in
set_option maxRecDepth 100000 in
theorem c_X6_spread (l : Launch) (D : va_G) (cy : Nat → ClassId) (s00 : State) (ad : Nat → Nat) (S : XS) (p0 p1 p2 p3 : Int32) (r9 : Int32) (hf : f_X6_spread S p0 p1 p2 p3 = some r9) : XI l yX6_spread cX6_spread 10 (some .int) 0 D cy s00 shRoof ad S [.ref (ad 0), .int p0, .int p1, .int p2, .int p3] r9 S := by
  refine XI.of (by decide) [(0, .ref (ad 0)), (1, .int p0), (2, .int p1), (3, .int p2), (4, .int p3)] rfl (Nat.le_of_ble_eq_true rfl) (fun p e s m args below meth c A ls E h hl => ?_)
  unfold f_X6_spread at hf
  refine lv_iconst (v := 1) E.1 E.2.1 dX6_spread_0 (by decide) ?_
  refine lv_iload_n E.1 E.2.1 dX6_spread_1 rfl (lv_at hl 1 rfl) ?_
  refine lv_ishl E.1 E.2.1 dX6_spread_2 ?_
  refine x_nm hf (fun v1 hf => ?_)
  refine lv_istore (lv' := [(5, .int v1), (0, .ref (ad 0)), (1, .int p0), (2, .int p1), (3, .int p2), (4, .int p3)]) E.1 E.2.1 dX6_spread_3 hl (by decide) rfl (fun ls hl => ?_)
  refine lv_iconst (v := 0) E.1 E.2.1 dX6_spread_5 (by decide) ?_
  refine lv_istore (lv' := [(6, .int 0), (5, .int v1), (0, .ref (ad 0)), (1, .int p0), (2, .int p1), (3, .int p2), (4, .int p3)]) E.1 E.2.1 dX6_spread_6 hl (by decide) rfl (fun ls hl => ?_)
  refine w_X6_spread_L8 E ?_ _ _ _ _ _ _ hf h (lv_sub hl [2, 3, 4, 5, 6, 1, 0] rfl)
  intro v13 v14 H locs ls hf h hl
  refine lv_iload E.1 E.2.1 dX6_spread_106 (lv_at hl 5 rfl) ?_
  exact x_irp E h hf dX6_spread_108
set_option maxHeartbeats 4000000 in
set_option maxRecDepth 100000 in
theorem w_X6_walkable_L5 {p : Program} {l : Launch} {e : Env} {s : State} {m : MethodId} {args : Array Value} {below : List Frame} {meth : Method} {c : Code} {D : va_G} {cy : Nat → ClassId} {s00 : State} {ad : Nat → Nat} {A : Nat → Prop}  {r9 : Int32} {u1 : Int32} {u2 : Int32} {S : XS} {K : Int32 → Int32 → Option (Int32)} (E : XE p s m args meth c cX6_walkable 5 RX6 (some .int) D cy s00) (hk : ∀ (m3 m4 : Int32) (H : Heap) (locs : List Loc) (ls : Array Slot), K m3 m4 = some r9 → XH D cy s00 shRoof ad S A s H locs → lv_has ls 5 [(0, .ref (ad 0)), (1, .int u1), (2, .int u2), (3, .int m3), (4, .int m4)] → W p l e (xrm 3) s m args below meth c H locs 0 0 (MQ below (xqi D cy shRoof ad r9 S A) args s 0 0 A) (F0 m 47 ls [])) :
    ∀ (n : Nat) (m3 m4 : Int32) (H : Heap) (locs : List Loc) (ls : Array Slot), f_X6_walkable_L5 K S u1 u2 n m3 m4 = some r9 → XH D cy s00 shRoof ad S A s H locs → lv_has ls 5 [(0, .ref (ad 0)), (1, .int u1), (2, .int u2), (3, .int m3), (4, .int m4)] → W p l e (xrm 3) s m args below meth c H locs 0 0 (MQ below (xqi D cy shRoof ad r9 S A) args s 0 0 A) (F0 m 5 ls []) := by
  intro n
  induction n with
  | zero => intro m3 m4 H locs ls hf; cases hf
  | succ n ih =>
    intro m3 m4 H locs ls hf h hl
    rw [f_X6_walkable_L5] at hf
    refine lv_iload E.1 E.2.1 dX6_walkable_5 (lv_at hl 4 rfl) ?_
    refine lv_aload_n E.1 E.2.1 dX6_walkable_7 rfl (lv_at hl 0 rfl) ?_
    refine x_get E h 0 0 rfl rfl rfl (by decide) xinX6 kw182 dX6_walkable_8 ?_
    refine x_br hf (lv_icmp_ge (tgt := 47) E.1 E.2.1 dX6_walkable_11 (by decide)) (fun hf => ?_) (fun hf => ?_)
    · exact hk _ _ _ _ _ hf h (lv_sub hl [0, 1, 2, 3, 4] rfl)
    · refine lv_aload_n E.1 E.2.1 dX6_walkable_14 rfl (lv_at hl 0 rfl) ?_
      refine lv_iload E.1 E.2.1 dX6_walkable_15 (lv_at hl 4 rfl) ?_
      refine x_callp E h hl 0 hf (fun r0 hr => c_X6_sitter l D cy s00 _ S m4 r0 hr) m_X6_sitter rfl rfl kw618 rfl rfl (Nat.le_of_ble_eq_true rfl) ⟨by decide, by decide⟩ ⟨Nat.zero_le _, Nat.zero_le _⟩ dX6_walkable_17 (fun v1 H locs hf h => ?_)
      refine lv_iconst (v := (-1)) E.1 E.2.1 dX6_walkable_20 (by decide) ?_
      refine x_brn hf (lv_icmp_ne (tgt := 41) E.1 E.2.1 dX6_walkable_21 (by decide)) (fun hf => ?_) (fun hf => ?_)
      · refine x_nv hf (fun v2 e9 hf => ?_)
        refine lv_iinc (v := v2) (lv' := [(4, .int v2), (0, .ref (ad 0)), (1, .int u1), (2, .int u2), (3, .int m3)]) E.1 E.2.1 dX6_walkable_41 hl (k := 4) rfl (by rw [e9]; rfl) (by decide) rfl (fun ls hl => ?_)
        refine lv_goto (tgt := 5) E.1 E.2.1 dX6_walkable_44 (by decide) ?_
        exact ih _ _ _ _ _ hf h (lv_sub hl [1, 2, 3, 4, 0] rfl)
      · refine lv_aload_n E.1 E.2.1 dX6_walkable_24 rfl (lv_at hl 0 rfl) ?_
        refine lv_iload_n E.1 E.2.1 dX6_walkable_25 rfl (lv_at hl 1 rfl) ?_
        refine lv_iload E.1 E.2.1 dX6_walkable_26 (lv_at hl 4 rfl) ?_
        refine x_callp E h hl 0 hf (fun r0 hr => c_X6_isBarred l D cy s00 _ S u1 m4 r0 hr) m_X6_isBarred rfl rfl kw630 rfl rfl (Nat.le_of_ble_eq_true rfl) ⟨by decide, by decide⟩ ⟨Nat.zero_le _, Nat.zero_le _⟩ dX6_walkable_28 (fun v3 H locs hf h => ?_)
        refine x_brn hf (lv_if_ne (tgt := 41) E.1 E.2.1 dX6_walkable_31 (by decide)) (fun hf => ?_) (fun hf => ?_)
        · refine x_nv hf (fun v4 e9 hf => ?_)
          refine lv_iinc (v := v4) (lv' := [(4, .int v4), (0, .ref (ad 0)), (1, .int u1), (2, .int u2), (3, .int m3)]) E.1 E.2.1 dX6_walkable_41 hl (k := 4) rfl (by rw [e9]; rfl) (by decide) rfl (fun ls hl => ?_)
          refine lv_goto (tgt := 5) E.1 E.2.1 dX6_walkable_44 (by decide) ?_
          exact ih _ _ _ _ _ hf h (lv_sub hl [1, 2, 3, 4, 0] rfl)
        · refine lv_iload_n E.1 E.2.1 dX6_walkable_34 rfl (lv_at hl 3 rfl) ?_
          refine lv_iconst (v := 1) E.1 E.2.1 dX6_walkable_35 (by decide) ?_
          refine lv_iload E.1 E.2.1 dX6_walkable_36 (lv_at hl 4 rfl) ?_
          refine lv_ishl E.1 E.2.1 dX6_walkable_38 ?_
          refine lv_ior E.1 E.2.1 dX6_walkable_39 ?_
          refine x_nm hf (fun v5 hf => ?_)
          refine lv_istore_n (lv' := [(3, .int v5), (0, .ref (ad 0)), (1, .int u1), (2, .int u2), (4, .int m4)]) E.1 E.2.1 dX6_walkable_40 rfl hl (by decide) rfl (fun ls hl => ?_)
          refine x_nv hf (fun v6 e9 hf => ?_)
          refine lv_iinc (v := v6) (lv' := [(4, .int v6), (3, .int v5), (0, .ref (ad 0)), (1, .int u1), (2, .int u2)]) E.1 E.2.1 dX6_walkable_41 hl (k := 4) rfl (by rw [e9]; rfl) (by decide) rfl (fun ls hl => ?_)
          refine lv_goto (tgt := 5) E.1 E.2.1 dX6_walkable_44 (by decide) ?_
          exact ih _ _ _ _ _ hf h (lv_sub hl [2, 3, 4, 1, 0] rfl)
set_option maxHeartbeats 4000000 in
set_option maxRecDepth 100000 in
theorem c_X6_walkable (l : Launch) (D : va_G) (cy : Nat → ClassId) (s00 : State) (ad : Nat → Nat) (S : XS) (p0 p1 : Int32) (r9 : Int32) (hf : f_X6_walkable S p0 p1 = some r9) : XI l yX6_walkable cX6_walkable 5 (some .int) 3 D cy s00 shRoof ad S [.ref (ad 0), .int p0, .int p1] r9 S := by
  refine XI.of (by decide) [(0, .ref (ad 0)), (1, .int p0), (2, .int p1)] rfl (Nat.le_of_ble_eq_true rfl) (fun p e s m args below meth c A ls E h hl => ?_)
  unfold f_X6_walkable at hf
  refine lv_iconst (v := 0) E.1 E.2.1 dX6_walkable_0 (by decide) ?_
  refine lv_istore_n (lv' := [(3, .int 0), (0, .ref (ad 0)), (1, .int p0), (2, .int p1)]) E.1 E.2.1 dX6_walkable_1 rfl hl (by decide) rfl (fun ls hl => ?_)
  refine lv_iconst (v := 0) E.1 E.2.1 dX6_walkable_2 (by decide) ?_
  refine lv_istore (lv' := [(4, .int 0), (3, .int 0), (0, .ref (ad 0)), (1, .int p0), (2, .int p1)]) E.1 E.2.1 dX6_walkable_3 hl (by decide) rfl (fun ls hl => ?_)
  refine w_X6_walkable_L5 E ?_ _ _ _ _ _ _ hf h (lv_sub hl [2, 3, 4, 1, 0] rfl)
  intro v7 v8 H locs ls hf h hl
  refine lv_aload_n E.1 E.2.1 dX6_walkable_47 rfl (lv_at hl 0 rfl) ?_
  refine lv_aload_n E.1 E.2.1 dX6_walkable_48 rfl (lv_at hl 0 rfl) ?_
  refine x_getr E h 0 11 9 rfl rfl rfl (by decide) xinX6 kw209 dX6_walkable_49 ?_
  refine lv_iload_n E.1 E.2.1 dX6_walkable_52 rfl (lv_at hl 1 rfl) ?_
  refine x_iald E h 9 hf rfl dX6_walkable_53 (fun v9 hf => ?_)
  refine lv_iload_n E.1 E.2.1 dX6_walkable_54 rfl (lv_at hl 3 rfl) ?_
  refine lv_aload_n E.1 E.2.1 dX6_walkable_55 rfl (lv_at hl 0 rfl) ?_
  refine x_getr E h 0 8 6 rfl rfl rfl (by decide) xinX6 kw204 dX6_walkable_56 ?_
  refine lv_iload_n E.1 E.2.1 dX6_walkable_59 rfl (lv_at hl 1 rfl) ?_
  refine x_iald E h 6 hf rfl dX6_walkable_60 (fun v10 hf => ?_)
  refine lv_iload_n E.1 E.2.1 dX6_walkable_61 rfl (lv_at hl 2 rfl) ?_
  refine x_callp E h hl 0 hf (fun r0 hr => c_X6_spread l D cy s00 _ S v9 v7 v10 p1 r0 hr) m_X6_spread rfl rfl kw405 rfl rfl (Nat.le_of_ble_eq_true rfl) ⟨by decide, by decide⟩ ⟨Nat.zero_le _, Nat.zero_le _⟩ dX6_walkable_62 (fun v11 H locs hf h => ?_)
  exact x_irp E h hf dX6_walkable_65
set_option maxHeartbeats 4000000 in
set_option maxRecDepth 100000 in
theorem w_X6_fewestSteps_L2 {p : Program} {l : Launch} {e : Env} {s : State} {m : MethodId} {args : Array Value} {below : List Frame} {meth : Method} {c : Code} {D : va_G} {cy : Nat → ClassId} {s00 : State} {ad : Nat → Nat} {A : Nat → Prop}  {r9 : Int32} {u1 : Int32} {u2 : Int32} {S : XS} {K : Int32 → Option (Int32)} (E : XE p s m args meth c cX6_fewestSteps 4 RX6 (some .int) D cy s00) (hk : ∀ (m3 : Int32) (H : Heap) (locs : List Loc) (ls : Array Slot), K m3 = some r9 → XH D cy s00 shRoof ad S A s H locs → lv_has ls 4 [(0, .ref (ad 0)), (1, .int u1), (2, .int u2), (3, .int m3)] → W p l e (xrm 4) s m args below meth c H locs 0 0 (MQ below (xqi D cy shRoof ad r9 S A) args s 0 0 A) (F0 m 29 ls [])) :
    ∀ (n : Nat) (m3 : Int32) (H : Heap) (locs : List Loc) (ls : Array Slot), f_X6_fewestSteps_L2 K S u1 u2 n m3 = some r9 → XH D cy s00 shRoof ad S A s H locs → lv_has ls 4 [(0, .ref (ad 0)), (1, .int u1), (2, .int u2), (3, .int m3)] → W p l e (xrm 4) s m args below meth c H locs 0 0 (MQ below (xqi D cy shRoof ad r9 S A) args s 0 0 A) (F0 m 2 ls []) := by
  intro n
  induction n with
  | zero => intro m3 H locs ls hf; cases hf
  | succ n ih =>
    intro m3 H locs ls hf h hl
    rw [f_X6_fewestSteps_L2] at hf
    refine lv_iload_n E.1 E.2.1 dX6_fewestSteps_2 rfl (lv_at hl 3 rfl) ?_
    refine lv_bipush (v := 10) E.1 E.2.1 dX6_fewestSteps_3 (by decide) ?_
    refine x_br hf (lv_icmp_ge (tgt := 29) E.1 E.2.1 dX6_fewestSteps_5 (by decide)) (fun hf => ?_) (fun hf => ?_)
    · exact hk _ _ _ _ hf h (lv_sub hl [0, 1, 2, 3] rfl)
    · refine lv_aload_n E.1 E.2.1 dX6_fewestSteps_8 rfl (lv_at hl 0 rfl) ?_
      refine lv_iload_n E.1 E.2.1 dX6_fewestSteps_9 rfl (lv_at hl 1 rfl) ?_
      refine lv_iload_n E.1 E.2.1 dX6_fewestSteps_10 rfl (lv_at hl 3 rfl) ?_
      refine x_callp E h hl 0 hf (fun r0 hr => c_X6_walkable l D cy s00 _ S u1 m3 r0 hr) m_X6_walkable rfl rfl kw1242 rfl rfl (Nat.le_of_ble_eq_true rfl) ⟨by decide, by decide⟩ ⟨Nat.zero_le _, Nat.zero_le _⟩ dX6_fewestSteps_11 (fun v1 H locs hf h => ?_)
      refine lv_iload_n E.1 E.2.1 dX6_fewestSteps_14 rfl (lv_at hl 2 rfl) ?_
      refine lv_ishr E.1 E.2.1 dX6_fewestSteps_15 ?_
      refine lv_iconst (v := 1) E.1 E.2.1 dX6_fewestSteps_16 (by decide) ?_
      refine lv_iand E.1 E.2.1 dX6_fewestSteps_17 ?_
      refine x_br hf (lv_if_eq (tgt := 23) E.1 E.2.1 dX6_fewestSteps_18 (by decide)) (fun hf => ?_) (fun hf => ?_)
      · refine x_nv hf (fun v2 e9 hf => ?_)
        refine lv_iinc (v := v2) (lv' := [(3, .int v2), (0, .ref (ad 0)), (1, .int u1), (2, .int u2)]) E.1 E.2.1 dX6_fewestSteps_23 hl (k := 3) rfl (by rw [e9]; rfl) (by decide) rfl (fun ls hl => ?_)
        refine lv_goto (tgt := 2) E.1 E.2.1 dX6_fewestSteps_26 (by decide) ?_
        exact ih _ _ _ _ hf h (lv_sub hl [1, 2, 3, 0] rfl)
      · refine lv_iload_n E.1 E.2.1 dX6_fewestSteps_21 rfl (lv_at hl 3 rfl) ?_
        exact x_irp E h hf dX6_fewestSteps_22
set_option maxHeartbeats 4000000 in
set_option maxRecDepth 100000 in
theorem c_X6_fewestSteps (l : Launch) (D : va_G) (cy : Nat → ClassId) (s00 : State) (ad : Nat → Nat) (S : XS) (p0 p1 : Int32) (r9 : Int32) (hf : f_X6_fewestSteps S p0 p1 = some r9) : XI l yX6_fewestSteps cX6_fewestSteps 4 (some .int) 4 D cy s00 shRoof ad S [.ref (ad 0), .int p0, .int p1] r9 S := by
  refine XI.of (by decide) [(0, .ref (ad 0)), (1, .int p0), (2, .int p1)] rfl (Nat.le_of_ble_eq_true rfl) (fun p e s m args below meth c A ls E h hl => ?_)
  unfold f_X6_fewestSteps at hf
  refine lv_iconst (v := 0) E.1 E.2.1 dX6_fewestSteps_0 (by decide) ?_
  refine lv_istore_n (lv' := [(3, .int 0), (0, .ref (ad 0)), (1, .int p0), (2, .int p1)]) E.1 E.2.1 dX6_fewestSteps_1 rfl hl (by decide) rfl (fun ls hl => ?_)
  refine w_X6_fewestSteps_L2 E ?_ _ _ _ _ _ hf h (lv_sub hl [1, 2, 3, 0] rfl)
  intro v3 H locs ls hf h hl
  refine lv_iconst (v := (-1)) E.1 E.2.1 dX6_fewestSteps_29 (by decide) ?_
  exact x_irp E h hf dX6_fewestSteps_30
set_option maxHeartbeats 4000000 in
set_option maxRecDepth 100000 in
theorem w_X6_widestGirth_L13 {p : Program} {l : Launch} {e : Env} {s : State} {m : MethodId} {args : Array Value} {below : List Frame} {meth : Method} {c : Code} {D : va_G} {cy : Nat → ClassId} {s00 : State} {ad : Nat → Nat} {A : Nat → Prop}  {r9 : Int32} {u1 : Int32} {u2 : Int32} {u3 : Int32} {S : XS} {K : Int32 → Option (Int32)} (E : XE p s m args meth c cX6_widestGirth 5 RX6 (some .int) D cy s00) (hk : ∀ (m4 : Int32) (H : Heap) (locs : List Loc) (ls : Array Slot), K m4 = some r9 → XH D cy s00 shRoof ad S A s H locs → lv_has ls 5 [(0, .ref (ad 0)), (1, .int u1), (2, .int u2), (3, .int u3), (4, .int m4)] → W p l e (xrm 1) s m args below meth c H locs 0 0 (MQ below (xqi D cy shRoof ad r9 S A) args s 0 0 A) (F0 m 45 ls [])) :
    ∀ (n : Nat) (m4 : Int32) (H : Heap) (locs : List Loc) (ls : Array Slot), f_X6_widestGirth_L13 K S u1 u2 u3 n m4 = some r9 → XH D cy s00 shRoof ad S A s H locs → lv_has ls 5 [(0, .ref (ad 0)), (1, .int u1), (2, .int u2), (3, .int u3), (4, .int m4)] → W p l e (xrm 1) s m args below meth c H locs 0 0 (MQ below (xqi D cy shRoof ad r9 S A) args s 0 0 A) (F0 m 13 ls []) := by
  intro n
  induction n with
  | zero => intro m4 H locs ls hf; cases hf
  | succ n ih =>
    intro m4 H locs ls hf h hl
    rw [f_X6_widestGirth_L13] at hf
    refine lv_iload E.1 E.2.1 dX6_widestGirth_13 (lv_at hl 4 rfl) ?_
    refine lv_iconst (v := 1) E.1 E.2.1 dX6_widestGirth_15 (by decide) ?_
    refine x_br hf (lv_icmp_lt (tgt := 45) E.1 E.2.1 dX6_widestGirth_16 (by decide)) (fun hf => ?_) (fun hf => ?_)
    · exact hk _ _ _ _ hf h (lv_sub hl [0, 1, 2, 3, 4] rfl)
    · refine lv_aload_n E.1 E.2.1 dX6_widestGirth_19 rfl (lv_at hl 0 rfl) ?_
      refine lv_iload_n E.1 E.2.1 dX6_widestGirth_20 rfl (lv_at hl 1 rfl) ?_
      refine lv_iload_n E.1 E.2.1 dX6_widestGirth_21 rfl (lv_at hl 3 rfl) ?_
      refine lv_iload E.1 E.2.1 dX6_widestGirth_22 (lv_at hl 4 rfl) ?_
      refine lv_bipush (v := 10) E.1 E.2.1 dX6_widestGirth_24 (by decide) ?_
      refine x_callp E h hl 0 hf (fun r0 hr => c_X6_spread l D cy s00 _ S u1 u3 m4 10 r0 hr) m_X6_spread rfl rfl kw405 rfl rfl (Nat.le_of_ble_eq_true rfl) ⟨by decide, by decide⟩ ⟨Nat.zero_le _, Nat.zero_le _⟩ dX6_widestGirth_26 (fun v2 H locs hf h => ?_)
      refine lv_iload_n E.1 E.2.1 dX6_widestGirth_29 rfl (lv_at hl 2 rfl) ?_
      refine lv_ishr E.1 E.2.1 dX6_widestGirth_30 ?_
      refine lv_iconst (v := 1) E.1 E.2.1 dX6_widestGirth_31 (by decide) ?_
      refine lv_iand E.1 E.2.1 dX6_widestGirth_32 ?_
      refine x_br hf (lv_if_eq (tgt := 39) E.1 E.2.1 dX6_widestGirth_33 (by decide)) (fun hf => ?_) (fun hf => ?_)
      · refine x_nv hf (fun v3 e9 hf => ?_)
        refine lv_iinc (v := v3) (lv' := [(4, .int v3), (0, .ref (ad 0)), (1, .int u1), (2, .int u2), (3, .int u3)]) E.1 E.2.1 dX6_widestGirth_39 hl (k := 4) rfl (by rw [e9]; rfl) (by decide) rfl (fun ls hl => ?_)
        refine lv_goto (tgt := 13) E.1 E.2.1 dX6_widestGirth_42 (by decide) ?_
        exact ih _ _ _ _ hf h (lv_sub hl [1, 2, 3, 4, 0] rfl)
      · refine lv_iload E.1 E.2.1 dX6_widestGirth_36 (lv_at hl 4 rfl) ?_
        exact x_irp E h hf dX6_widestGirth_38
set_option maxHeartbeats 4000000 in
set_option maxRecDepth 100000 in
theorem c_X6_widestGirth (l : Launch) (D : va_G) (cy : Nat → ClassId) (s00 : State) (ad : Nat → Nat) (S : XS) (p0 p1 : Int32) (r9 : Int32) (hf : f_X6_widestGirth S p0 p1 = some r9) : XI l yX6_widestGirth cX6_widestGirth 5 (some .int) 1 D cy s00 shRoof ad S [.ref (ad 0), .int p0, .int p1] r9 S := by
  refine XI.of (by decide) [(0, .ref (ad 0)), (1, .int p0), (2, .int p1)] rfl (Nat.le_of_ble_eq_true rfl) (fun p e s m args below meth c A ls E h hl => ?_)
  unfold f_X6_widestGirth at hf
  refine lv_iconst (v := 1) E.1 E.2.1 dX6_widestGirth_0 (by decide) ?_
  refine lv_aload_n E.1 E.2.1 dX6_widestGirth_1 rfl (lv_at hl 0 rfl) ?_
  refine x_get E h 0 0 rfl rfl rfl (by decide) xinX6 kw182 dX6_widestGirth_2 ?_
  refine lv_ishl E.1 E.2.1 dX6_widestGirth_5 ?_
  refine lv_iconst (v := 1) E.1 E.2.1 dX6_widestGirth_6 (by decide) ?_
  refine lv_isub E.1 E.2.1 dX6_widestGirth_7 ?_
  refine x_nm hf (fun v1 hf => ?_)
  refine lv_istore_n (lv' := [(3, .int v1), (0, .ref (ad 0)), (1, .int p0), (2, .int p1)]) E.1 E.2.1 dX6_widestGirth_8 rfl hl (by decide) rfl (fun ls hl => ?_)
  refine lv_bipush (v := 9) E.1 E.2.1 dX6_widestGirth_9 (by decide) ?_
  refine lv_istore (lv' := [(4, .int 9), (3, .int v1), (0, .ref (ad 0)), (1, .int p0), (2, .int p1)]) E.1 E.2.1 dX6_widestGirth_11 hl (by decide) rfl (fun ls hl => ?_)
  refine w_X6_widestGirth_L13 E ?_ _ _ _ _ _ hf h (lv_sub hl [2, 3, 4, 1, 0] rfl)
  intro v4 H locs ls hf h hl
  refine lv_iconst (v := (-1)) E.1 E.2.1 dX6_widestGirth_45 (by decide) ?_
  exact x_irp E h hf dX6_widestGirth_46
set_option maxHeartbeats 4000000 in
set_option maxRecDepth 100000 in
theorem c_X6_refusesCat (l : Launch) (D : va_G) (cy : Nat → ClassId) (s00 : State) (ad : Nat → Nat) (S : XS) (p0 : Int32) (r9 : Int32) (hf : f_X6_refusesCat S p0 = some r9) : XI l yX6_refusesCat cX6_refusesCat 2 (some .boolean) 1 D cy s00 shRoof ad S [.ref (ad 0), .int p0] r9 S := by
  refine XI.of (by decide) [(0, .ref (ad 0)), (1, .int p0)] rfl (Nat.le_of_ble_eq_true rfl) (fun p e s m args below meth c A ls E h hl => ?_)
  unfold f_X6_refusesCat at hf
  refine lv_aload_n E.1 E.2.1 dX6_refusesCat_0 rfl (lv_at hl 0 rfl) ?_
  refine x_get E h 0 7 rfl rfl rfl (by decide) xinX6 kw202 dX6_refusesCat_1 ?_
  refine lv_bipush (v := 8) E.1 E.2.1 dX6_refusesCat_4 (by decide) ?_
  refine x_br hf (lv_icmp_ge (tgt := 18) E.1 E.2.1 dX6_refusesCat_6 (by decide)) (fun hf => ?_) (fun hf => ?_)
  · refine lv_iconst (v := 1) E.1 E.2.1 dX6_refusesCat_18 (by decide) ?_
    refine lv_goto (tgt := 23) E.1 E.2.1 dX6_refusesCat_19 (by decide) ?_
    exact x_zrc E h (by decide) hf dX6_refusesCat_23
  · refine lv_aload_n E.1 E.2.1 dX6_refusesCat_9 rfl (lv_at hl 0 rfl) ?_
    refine lv_iload_n E.1 E.2.1 dX6_refusesCat_10 rfl (lv_at hl 1 rfl) ?_
    refine x_callp E h hl 0 hf (fun r0 hr => c_X6_sitter l D cy s00 _ S p0 r0 hr) m_X6_sitter rfl rfl kw618 rfl rfl (Nat.le_of_ble_eq_true rfl) ⟨by decide, by decide⟩ ⟨Nat.zero_le _, Nat.zero_le _⟩ dX6_refusesCat_11 (fun v1 H locs hf h => ?_)
    refine lv_iconst (v := (-1)) E.1 E.2.1 dX6_refusesCat_14 (by decide) ?_
    refine x_br hf (lv_icmp_eq (tgt := 22) E.1 E.2.1 dX6_refusesCat_15 (by decide)) (fun hf => ?_) (fun hf => ?_)
    · refine lv_iconst (v := 0) E.1 E.2.1 dX6_refusesCat_22 (by decide) ?_
      exact x_zrc E h (by decide) hf dX6_refusesCat_23
    · refine lv_iconst (v := 1) E.1 E.2.1 dX6_refusesCat_18 (by decide) ?_
      refine lv_goto (tgt := 23) E.1 E.2.1 dX6_refusesCat_19 (by decide) ?_
      exact x_zrc E h (by decide) hf dX6_refusesCat_23
set_option maxHeartbeats 4000000 in
set_option maxRecDepth 100000 in
theorem c_X6_farEnd (l : Launch) (D : va_G) (cy : Nat → ClassId) (s00 : State) (ad : Nat → Nat) (S : XS) (p0 p1 : Int32) (r9 : Int32) (hf : f_X6_farEnd S p0 p1 = some r9) : XI l yX6_farEnd cX6_farEnd 3 (some .int) 0 D cy s00 shRoof ad S [.ref (ad 0), .int p0, .int p1] r9 S := by
  refine XI.of (by decide) [(0, .ref (ad 0)), (1, .int p0), (2, .int p1)] rfl (Nat.le_of_ble_eq_true rfl) (fun p e s m args below meth c A ls E h hl => ?_)
  unfold f_X6_farEnd at hf
  refine lv_aload_n E.1 E.2.1 dX6_farEnd_0 rfl (lv_at hl 0 rfl) ?_
  refine x_getr E h 0 4 3 rfl rfl rfl (by decide) xinX6 kw196 dX6_farEnd_1 ?_
  refine lv_iload_n E.1 E.2.1 dX6_farEnd_4 rfl (lv_at hl 2 rfl) ?_
  refine x_iald E h 3 hf rfl dX6_farEnd_5 (fun v1 hf => ?_)
  refine lv_aload_n E.1 E.2.1 dX6_farEnd_6 rfl (lv_at hl 0 rfl) ?_
  refine x_getr E h 0 11 9 rfl rfl rfl (by decide) xinX6 kw209 dX6_farEnd_7 ?_
  refine lv_iload_n E.1 E.2.1 dX6_farEnd_10 rfl (lv_at hl 1 rfl) ?_
  refine x_iald E h 9 hf rfl dX6_farEnd_11 (fun v2 hf => ?_)
  refine x_brn hf (lv_icmp_ne (tgt := 24) E.1 E.2.1 dX6_farEnd_12 (by decide)) (fun hf => ?_) (fun hf => ?_)
  · refine lv_aload_n E.1 E.2.1 dX6_farEnd_24 rfl (lv_at hl 0 rfl) ?_
    refine x_getr E h 0 4 3 rfl rfl rfl (by decide) xinX6 kw196 dX6_farEnd_25 ?_
    refine lv_iload_n E.1 E.2.1 dX6_farEnd_28 rfl (lv_at hl 2 rfl) ?_
    refine x_iald E h 3 hf rfl dX6_farEnd_29 (fun v3 hf => ?_)
    exact x_irp E h hf dX6_farEnd_30
  · refine lv_aload_n E.1 E.2.1 dX6_farEnd_15 rfl (lv_at hl 0 rfl) ?_
    refine x_getr E h 0 5 4 rfl rfl rfl (by decide) xinX6 kw198 dX6_farEnd_16 ?_
    refine lv_iload_n E.1 E.2.1 dX6_farEnd_19 rfl (lv_at hl 2 rfl) ?_
    refine x_iald E h 4 hf rfl dX6_farEnd_20 (fun v4 hf => ?_)
    refine lv_goto (tgt := 30) E.1 E.2.1 dX6_farEnd_21 (by decide) ?_
    exact x_irp E h hf dX6_farEnd_30
set_option maxHeartbeats 4000000 in
set_option maxRecDepth 100000 in
theorem c_X6_stepRefusal (l : Launch) (D : va_G) (cy : Nat → ClassId) (s00 : State) (ad : Nat → Nat) (S : XS) (p0 p1 : Int32) (r9 : Int32) (hf : f_X6_stepRefusal S p0 p1 = some r9) : XI l yX6_stepRefusal cX6_stepRefusal 4 (some .int) 3 D cy s00 shRoof ad S [.ref (ad 0), .int p0, .int p1] r9 S := by
  refine XI.of (by decide) [(0, .ref (ad 0)), (1, .int p0), (2, .int p1)] rfl (Nat.le_of_ble_eq_true rfl) (fun p e s m args below meth c A ls E h hl => ?_)
  unfold f_X6_stepRefusal at hf
  refine lv_aload_n E.1 E.2.1 dX6_stepRefusal_0 rfl (lv_at hl 0 rfl) ?_
  refine x_getr E h 0 4 3 rfl rfl rfl (by decide) xinX6 kw196 dX6_stepRefusal_1 ?_
  refine lv_iload_n E.1 E.2.1 dX6_stepRefusal_4 rfl (lv_at hl 2 rfl) ?_
  refine x_iald E h 3 hf rfl dX6_stepRefusal_5 (fun v1 hf => ?_)
  refine lv_aload_n E.1 E.2.1 dX6_stepRefusal_6 rfl (lv_at hl 0 rfl) ?_
  refine x_getr E h 0 11 9 rfl rfl rfl (by decide) xinX6 kw209 dX6_stepRefusal_7 ?_
  refine lv_iload_n E.1 E.2.1 dX6_stepRefusal_10 rfl (lv_at hl 1 rfl) ?_
  refine x_iald E h 9 hf rfl dX6_stepRefusal_11 (fun v2 hf => ?_)
  refine x_br hf (lv_icmp_eq (tgt := 32) E.1 E.2.1 dX6_stepRefusal_12 (by decide)) (fun hf => ?_) (fun hf => ?_)
  · refine lv_aload_n E.1 E.2.1 dX6_stepRefusal_32 rfl (lv_at hl 0 rfl) ?_
    refine x_getr E h 0 6 5 rfl rfl rfl (by decide) xinX6 kw200 dX6_stepRefusal_33 ?_
    refine lv_iload_n E.1 E.2.1 dX6_stepRefusal_36 rfl (lv_at hl 2 rfl) ?_
    refine x_iald E h 5 hf rfl dX6_stepRefusal_37 (fun v3 hf => ?_)
    refine lv_aload_n E.1 E.2.1 dX6_stepRefusal_38 rfl (lv_at hl 0 rfl) ?_
    refine x_getr E h 0 8 6 rfl rfl rfl (by decide) xinX6 kw204 dX6_stepRefusal_39 ?_
    refine lv_iload_n E.1 E.2.1 dX6_stepRefusal_42 rfl (lv_at hl 1 rfl) ?_
    refine x_iald E h 6 hf rfl dX6_stepRefusal_43 (fun v4 hf => ?_)
    refine x_br hf (lv_icmp_ge (tgt := 49) E.1 E.2.1 dX6_stepRefusal_44 (by decide)) (fun hf => ?_) (fun hf => ?_)
    · refine lv_aload_n E.1 E.2.1 dX6_stepRefusal_49 rfl (lv_at hl 0 rfl) ?_
      refine lv_iload_n E.1 E.2.1 dX6_stepRefusal_50 rfl (lv_at hl 1 rfl) ?_
      refine lv_iload_n E.1 E.2.1 dX6_stepRefusal_51 rfl (lv_at hl 2 rfl) ?_
      refine x_callp E h hl 0 hf (fun r0 hr => c_X6_farEnd l D cy s00 _ S p0 p1 r0 hr) m_X6_farEnd rfl rfl kw626 rfl rfl (Nat.le_of_ble_eq_true rfl) ⟨by decide, by decide⟩ ⟨Nat.zero_le _, Nat.zero_le _⟩ dX6_stepRefusal_52 (fun v5 H locs hf h => ?_)
      refine lv_istore_n (lv' := [(3, .int v5), (0, .ref (ad 0)), (1, .int p0), (2, .int p1)]) E.1 E.2.1 dX6_stepRefusal_55 rfl hl (by decide) rfl (fun ls hl => ?_)
      refine lv_aload_n E.1 E.2.1 dX6_stepRefusal_56 rfl (lv_at hl 1 rfl) ?_
      refine lv_iload_n E.1 E.2.1 dX6_stepRefusal_57 rfl (lv_at hl 0 rfl) ?_
      refine x_callp E h hl 0 hf (fun r0 hr => c_X6_sitter l D cy s00 _ S v5 r0 hr) m_X6_sitter rfl rfl kw618 rfl rfl (Nat.le_of_ble_eq_true rfl) ⟨by decide, by decide⟩ ⟨Nat.zero_le _, Nat.zero_le _⟩ dX6_stepRefusal_58 (fun v6 H locs hf h => ?_)
      refine lv_iconst (v := (-1)) E.1 E.2.1 dX6_stepRefusal_61 (by decide) ?_
      refine x_br hf (lv_icmp_eq (tgt := 67) E.1 E.2.1 dX6_stepRefusal_62 (by decide)) (fun hf => ?_) (fun hf => ?_)
      · refine lv_aload_n E.1 E.2.1 dX6_stepRefusal_67 rfl (lv_at hl 1 rfl) ?_
        refine lv_iload_n E.1 E.2.1 dX6_stepRefusal_68 rfl (lv_at hl 2 rfl) ?_
        refine lv_iload_n E.1 E.2.1 dX6_stepRefusal_69 rfl (lv_at hl 0 rfl) ?_
        refine x_callp E h hl 0 hf (fun r0 hr => c_X6_isBarred l D cy s00 _ S p0 v5 r0 hr) m_X6_isBarred rfl rfl kw630 rfl rfl (Nat.le_of_ble_eq_true rfl) ⟨by decide, by decide⟩ ⟨Nat.zero_le _, Nat.zero_le _⟩ dX6_stepRefusal_70 (fun v7 H locs hf h => ?_)
        refine x_br hf (lv_if_eq (tgt := 80) E.1 E.2.1 dX6_stepRefusal_73 (by decide)) (fun hf => ?_) (fun hf => ?_)
        · refine lv_iconst (v := 0) E.1 E.2.1 dX6_stepRefusal_80 (by decide) ?_
          exact x_irp E h hf dX6_stepRefusal_81
        · refine lv_iconst (v := 4) E.1 E.2.1 dX6_stepRefusal_76 (by decide) ?_
          refine lv_goto (tgt := 81) E.1 E.2.1 dX6_stepRefusal_77 (by decide) ?_
          exact x_irp E h hf dX6_stepRefusal_81
      · refine lv_iconst (v := 3) E.1 E.2.1 dX6_stepRefusal_65 (by decide) ?_
        exact x_irp E h hf dX6_stepRefusal_66
    · refine lv_iconst (v := 2) E.1 E.2.1 dX6_stepRefusal_47 (by decide) ?_
      exact x_irp E h hf dX6_stepRefusal_48
  · refine lv_aload_n E.1 E.2.1 dX6_stepRefusal_15 rfl (lv_at hl 0 rfl) ?_
    refine x_getr E h 0 5 4 rfl rfl rfl (by decide) xinX6 kw198 dX6_stepRefusal_16 ?_
    refine lv_iload_n E.1 E.2.1 dX6_stepRefusal_19 rfl (lv_at hl 2 rfl) ?_
    refine x_iald E h 4 hf rfl dX6_stepRefusal_20 (fun v8 hf => ?_)
    refine lv_aload_n E.1 E.2.1 dX6_stepRefusal_21 rfl (lv_at hl 0 rfl) ?_
    refine x_getr E h 0 11 9 rfl rfl rfl (by decide) xinX6 kw209 dX6_stepRefusal_22 ?_
    refine lv_iload_n E.1 E.2.1 dX6_stepRefusal_25 rfl (lv_at hl 1 rfl) ?_
    refine x_iald E h 9 hf rfl dX6_stepRefusal_26 (fun v9 hf => ?_)
    refine x_br hf (lv_icmp_eq (tgt := 32) E.1 E.2.1 dX6_stepRefusal_27 (by decide)) (fun hf => ?_) (fun hf => ?_)
    · refine lv_aload_n E.1 E.2.1 dX6_stepRefusal_32 rfl (lv_at hl 0 rfl) ?_
      refine x_getr E h 0 6 5 rfl rfl rfl (by decide) xinX6 kw200 dX6_stepRefusal_33 ?_
      refine lv_iload_n E.1 E.2.1 dX6_stepRefusal_36 rfl (lv_at hl 2 rfl) ?_
      refine x_iald E h 5 hf rfl dX6_stepRefusal_37 (fun v10 hf => ?_)
      refine lv_aload_n E.1 E.2.1 dX6_stepRefusal_38 rfl (lv_at hl 0 rfl) ?_
      refine x_getr E h 0 8 6 rfl rfl rfl (by decide) xinX6 kw204 dX6_stepRefusal_39 ?_
      refine lv_iload_n E.1 E.2.1 dX6_stepRefusal_42 rfl (lv_at hl 1 rfl) ?_
      refine x_iald E h 6 hf rfl dX6_stepRefusal_43 (fun v11 hf => ?_)
      refine x_br hf (lv_icmp_ge (tgt := 49) E.1 E.2.1 dX6_stepRefusal_44 (by decide)) (fun hf => ?_) (fun hf => ?_)
      · refine lv_aload_n E.1 E.2.1 dX6_stepRefusal_49 rfl (lv_at hl 0 rfl) ?_
        refine lv_iload_n E.1 E.2.1 dX6_stepRefusal_50 rfl (lv_at hl 1 rfl) ?_
        refine lv_iload_n E.1 E.2.1 dX6_stepRefusal_51 rfl (lv_at hl 2 rfl) ?_
        refine x_callp E h hl 0 hf (fun r0 hr => c_X6_farEnd l D cy s00 _ S p0 p1 r0 hr) m_X6_farEnd rfl rfl kw626 rfl rfl (Nat.le_of_ble_eq_true rfl) ⟨by decide, by decide⟩ ⟨Nat.zero_le _, Nat.zero_le _⟩ dX6_stepRefusal_52 (fun v12 H locs hf h => ?_)
        refine lv_istore_n (lv' := [(3, .int v12), (0, .ref (ad 0)), (1, .int p0), (2, .int p1)]) E.1 E.2.1 dX6_stepRefusal_55 rfl hl (by decide) rfl (fun ls hl => ?_)
        refine lv_aload_n E.1 E.2.1 dX6_stepRefusal_56 rfl (lv_at hl 1 rfl) ?_
        refine lv_iload_n E.1 E.2.1 dX6_stepRefusal_57 rfl (lv_at hl 0 rfl) ?_
        refine x_callp E h hl 0 hf (fun r0 hr => c_X6_sitter l D cy s00 _ S v12 r0 hr) m_X6_sitter rfl rfl kw618 rfl rfl (Nat.le_of_ble_eq_true rfl) ⟨by decide, by decide⟩ ⟨Nat.zero_le _, Nat.zero_le _⟩ dX6_stepRefusal_58 (fun v13 H locs hf h => ?_)
        refine lv_iconst (v := (-1)) E.1 E.2.1 dX6_stepRefusal_61 (by decide) ?_
        refine x_br hf (lv_icmp_eq (tgt := 67) E.1 E.2.1 dX6_stepRefusal_62 (by decide)) (fun hf => ?_) (fun hf => ?_)
        · refine lv_aload_n E.1 E.2.1 dX6_stepRefusal_67 rfl (lv_at hl 1 rfl) ?_
          refine lv_iload_n E.1 E.2.1 dX6_stepRefusal_68 rfl (lv_at hl 2 rfl) ?_
          refine lv_iload_n E.1 E.2.1 dX6_stepRefusal_69 rfl (lv_at hl 0 rfl) ?_
          refine x_callp E h hl 0 hf (fun r0 hr => c_X6_isBarred l D cy s00 _ S p0 v12 r0 hr) m_X6_isBarred rfl rfl kw630 rfl rfl (Nat.le_of_ble_eq_true rfl) ⟨by decide, by decide⟩ ⟨Nat.zero_le _, Nat.zero_le _⟩ dX6_stepRefusal_70 (fun v14 H locs hf h => ?_)
          refine x_br hf (lv_if_eq (tgt := 80) E.1 E.2.1 dX6_stepRefusal_73 (by decide)) (fun hf => ?_) (fun hf => ?_)
          · refine lv_iconst (v := 0) E.1 E.2.1 dX6_stepRefusal_80 (by decide) ?_
            exact x_irp E h hf dX6_stepRefusal_81
          · refine lv_iconst (v := 4) E.1 E.2.1 dX6_stepRefusal_76 (by decide) ?_
            refine lv_goto (tgt := 81) E.1 E.2.1 dX6_stepRefusal_77 (by decide) ?_
            exact x_irp E h hf dX6_stepRefusal_81
        · refine lv_iconst (v := 3) E.1 E.2.1 dX6_stepRefusal_65 (by decide) ?_
          exact x_irp E h hf dX6_stepRefusal_66
      · refine lv_iconst (v := 2) E.1 E.2.1 dX6_stepRefusal_47 (by decide) ?_
        exact x_irp E h hf dX6_stepRefusal_48
    · refine lv_iconst (v := 1) E.1 E.2.1 dX6_stepRefusal_30 (by decide) ?_
      exact x_irp E h hf dX6_stepRefusal_31
set_option maxHeartbeats 4000000 in
set_option maxRecDepth 100000 in
theorem c_X6_claimRefusal (l : Launch) (D : va_G) (cy : Nat → ClassId) (s00 : State) (ad : Nat → Nat) (S : XS) (p0 : Int32) (r9 : Int32) (hf : f_X6_claimRefusal S p0 = some r9) : XI l yX6_claimRefusal cX6_claimRefusal 2 (some .int) 2 D cy s00 shRoof ad S [.ref (ad 0), .int p0] r9 S := by
  refine XI.of (by decide) [(0, .ref (ad 0)), (1, .int p0)] rfl (Nat.le_of_ble_eq_true rfl) (fun p e s m args below meth c A ls E h hl => ?_)
  unfold f_X6_claimRefusal at hf
  refine lv_aload_n E.1 E.2.1 dX6_claimRefusal_0 rfl (lv_at hl 0 rfl) ?_
  refine x_getr E h 0 2 2 rfl rfl rfl (by decide) xinX6 kw189 dX6_claimRefusal_1 ?_
  refine lv_aload_n E.1 E.2.1 dX6_claimRefusal_4 rfl (lv_at hl 0 rfl) ?_
  refine x_getr E h 0 11 9 rfl rfl rfl (by decide) xinX6 kw209 dX6_claimRefusal_5 ?_
  refine lv_iload_n E.1 E.2.1 dX6_claimRefusal_8 rfl (lv_at hl 1 rfl) ?_
  refine x_iald E h 9 hf rfl dX6_claimRefusal_9 (fun v1 hf => ?_)
  refine x_iald E h 2 hf rfl dX6_claimRefusal_10 (fun v2 hf => ?_)
  refine lv_iconst (v := (-1)) E.1 E.2.1 dX6_claimRefusal_11 (by decide) ?_
  refine x_br hf (lv_icmp_eq (tgt := 17) E.1 E.2.1 dX6_claimRefusal_12 (by decide)) (fun hf => ?_) (fun hf => ?_)
  · refine lv_aload_n E.1 E.2.1 dX6_claimRefusal_17 rfl (lv_at hl 0 rfl) ?_
    refine lv_iload_n E.1 E.2.1 dX6_claimRefusal_18 rfl (lv_at hl 1 rfl) ?_
    refine x_callp E h hl 0 hf (fun r0 hr => c_X6_ownsEnough l D cy s00 _ S p0 r0 hr) m_X6_ownsEnough rfl rfl kw642 rfl rfl (Nat.le_of_ble_eq_true rfl) ⟨by decide, by decide⟩ ⟨Nat.zero_le _, Nat.zero_le _⟩ dX6_claimRefusal_19 (fun v3 H locs hf h => ?_)
    refine x_br hf (lv_if_eq (tgt := 30) E.1 E.2.1 dX6_claimRefusal_22 (by decide)) (fun hf => ?_) (fun hf => ?_)
    · refine lv_iconst (v := 0) E.1 E.2.1 dX6_claimRefusal_30 (by decide) ?_
      exact x_irp E h hf dX6_claimRefusal_31
    · refine lv_bipush (v := 6) E.1 E.2.1 dX6_claimRefusal_25 (by decide) ?_
      refine lv_goto (tgt := 31) E.1 E.2.1 dX6_claimRefusal_27 (by decide) ?_
      exact x_irp E h hf dX6_claimRefusal_31
  · refine lv_iconst (v := 5) E.1 E.2.1 dX6_claimRefusal_15 (by decide) ?_
    exact x_irp E h hf dX6_claimRefusal_16
set_option maxHeartbeats 4000000 in
set_option maxRecDepth 100000 in
theorem w_X6_isNear_L21 {p : Program} {l : Launch} {e : Env} {s : State} {m : MethodId} {args : Array Value} {below : List Frame} {meth : Method} {c : Code} {D : va_G} {cy : Nat → ClassId} {s00 : State} {ad : Nat → Nat} {A : Nat → Prop}  {r9 : Int32} {u1 : Int32} {u2 : Int32} {u3 : Int32} {S : XS} {K : Int32 → Option (Int32)} (E : XE p s m args meth c cX6_isNear 5 RX6 (some .boolean) D cy s00) (hk : ∀ (m4 : Int32) (H : Heap) (locs : List Loc) (ls : Array Slot), K m4 = some r9 → XH D cy s00 shRoof ad S A s H locs → lv_has ls 5 [(0, .ref (ad 0)), (1, .int u1), (2, .int u2), (3, .int u3), (4, .int m4)] → W p l e (xrm 0) s m args below meth c H locs 0 0 (MQ below (xqi D cy shRoof ad r9 S A) args s 0 0 A) (F0 m 77 ls [])) :
    ∀ (n : Nat) (m4 : Int32) (H : Heap) (locs : List Loc) (ls : Array Slot), f_X6_isNear_L21 K S u1 u2 u3 n m4 = some r9 → XH D cy s00 shRoof ad S A s H locs → lv_has ls 5 [(0, .ref (ad 0)), (1, .int u1), (2, .int u2), (3, .int u3), (4, .int m4)] → W p l e (xrm 0) s m args below meth c H locs 0 0 (MQ below (xqi D cy shRoof ad r9 S A) args s 0 0 A) (F0 m 21 ls []) := by
  intro n
  induction n with
  | zero => intro m4 H locs ls hf; cases hf
  | succ n ih =>
    intro m4 H locs ls hf h hl
    rw [f_X6_isNear_L21] at hf
    refine lv_iload E.1 E.2.1 dX6_isNear_21 (lv_at hl 4 rfl) ?_
    refine lv_aload_n E.1 E.2.1 dX6_isNear_23 rfl (lv_at hl 0 rfl) ?_
    refine x_get E h 0 3 rfl rfl rfl (by decide) xinX6 kw193 dX6_isNear_24 ?_
    refine x_br hf (lv_icmp_ge (tgt := 77) E.1 E.2.1 dX6_isNear_27 (by decide)) (fun hf => ?_) (fun hf => ?_)
    · exact hk _ _ _ _ hf h (lv_sub hl [0, 1, 2, 3, 4] rfl)
    · refine lv_iconst (v := 1) E.1 E.2.1 dX6_isNear_30 (by decide) ?_
      refine lv_aload_n E.1 E.2.1 dX6_isNear_31 rfl (lv_at hl 0 rfl) ?_
      refine x_getr E h 0 4 3 rfl rfl rfl (by decide) xinX6 kw196 dX6_isNear_32 ?_
      refine lv_iload E.1 E.2.1 dX6_isNear_35 (lv_at hl 4 rfl) ?_
      refine x_iald E h 3 hf rfl dX6_isNear_37 (fun v4 hf => ?_)
      refine lv_ishl E.1 E.2.1 dX6_isNear_38 ?_
      refine lv_iconst (v := 1) E.1 E.2.1 dX6_isNear_39 (by decide) ?_
      refine lv_aload_n E.1 E.2.1 dX6_isNear_40 rfl (lv_at hl 0 rfl) ?_
      refine x_getr E h 0 5 4 rfl rfl rfl (by decide) xinX6 kw198 dX6_isNear_41 ?_
      refine lv_iload E.1 E.2.1 dX6_isNear_44 (lv_at hl 4 rfl) ?_
      refine x_iald E h 4 hf rfl dX6_isNear_46 (fun v5 hf => ?_)
      refine lv_ishl E.1 E.2.1 dX6_isNear_47 ?_
      refine lv_ior E.1 E.2.1 dX6_isNear_48 ?_
      refine lv_iload_n E.1 E.2.1 dX6_isNear_49 rfl (lv_at hl 3 rfl) ?_
      refine x_brn hf (lv_icmp_ne (tgt := 71) E.1 E.2.1 dX6_isNear_50 (by decide)) (fun hf => ?_) (fun hf => ?_)
      · refine x_nv hf (fun v6 e9 hf => ?_)
        refine lv_iinc (v := v6) (lv' := [(4, .int v6), (0, .ref (ad 0)), (1, .int u1), (2, .int u2), (3, .int u3)]) E.1 E.2.1 dX6_isNear_71 hl (k := 4) rfl (by rw [e9]; rfl) (by decide) rfl (fun ls hl => ?_)
        refine lv_goto (tgt := 21) E.1 E.2.1 dX6_isNear_74 (by decide) ?_
        exact ih _ _ _ _ hf h (lv_sub hl [1, 2, 3, 4, 0] rfl)
      · refine lv_aload_n E.1 E.2.1 dX6_isNear_53 rfl (lv_at hl 0 rfl) ?_
        refine x_getr E h 0 6 5 rfl rfl rfl (by decide) xinX6 kw200 dX6_isNear_54 ?_
        refine lv_iload E.1 E.2.1 dX6_isNear_57 (lv_at hl 4 rfl) ?_
        refine x_iald E h 5 hf rfl dX6_isNear_59 (fun v7 hf => ?_)
        refine lv_aload_n E.1 E.2.1 dX6_isNear_60 rfl (lv_at hl 0 rfl) ?_
        refine x_getr E h 0 8 6 rfl rfl rfl (by decide) xinX6 kw204 dX6_isNear_61 ?_
        refine lv_iload_n E.1 E.2.1 dX6_isNear_64 rfl (lv_at hl 1 rfl) ?_
        refine x_iald E h 6 hf rfl dX6_isNear_65 (fun v8 hf => ?_)
        refine x_br hf (lv_icmp_lt (tgt := 71) E.1 E.2.1 dX6_isNear_66 (by decide)) (fun hf => ?_) (fun hf => ?_)
        · refine x_nv hf (fun v9 e9 hf => ?_)
          refine lv_iinc (v := v9) (lv' := [(4, .int v9), (0, .ref (ad 0)), (1, .int u1), (2, .int u2), (3, .int u3)]) E.1 E.2.1 dX6_isNear_71 hl (k := 4) rfl (by rw [e9]; rfl) (by decide) rfl (fun ls hl => ?_)
          refine lv_goto (tgt := 21) E.1 E.2.1 dX6_isNear_74 (by decide) ?_
          exact ih _ _ _ _ hf h (lv_sub hl [1, 2, 3, 4, 0] rfl)
        · refine lv_iconst (v := 1) E.1 E.2.1 dX6_isNear_69 (by decide) ?_
          exact x_zrc E h (by decide) hf dX6_isNear_70
set_option maxHeartbeats 4000000 in
set_option maxRecDepth 100000 in
theorem c_X6_isNear (l : Launch) (D : va_G) (cy : Nat → ClassId) (s00 : State) (ad : Nat → Nat) (S : XS) (p0 p1 : Int32) (r9 : Int32) (hf : f_X6_isNear S p0 p1 = some r9) : XI l yX6_isNear cX6_isNear 5 (some .boolean) 0 D cy s00 shRoof ad S [.ref (ad 0), .int p0, .int p1] r9 S := by
  refine XI.of (by decide) [(0, .ref (ad 0)), (1, .int p0), (2, .int p1)] rfl (Nat.le_of_ble_eq_true rfl) (fun p e s m args below meth c A ls E h hl => ?_)
  unfold f_X6_isNear at hf
  refine lv_iconst (v := 1) E.1 E.2.1 dX6_isNear_0 (by decide) ?_
  refine lv_aload_n E.1 E.2.1 dX6_isNear_1 rfl (lv_at hl 0 rfl) ?_
  refine x_getr E h 0 11 9 rfl rfl rfl (by decide) xinX6 kw209 dX6_isNear_2 ?_
  refine lv_iload_n E.1 E.2.1 dX6_isNear_5 rfl (lv_at hl 1 rfl) ?_
  refine x_iald E h 9 hf rfl dX6_isNear_6 (fun v1 hf => ?_)
  refine lv_ishl E.1 E.2.1 dX6_isNear_7 ?_
  refine lv_iconst (v := 1) E.1 E.2.1 dX6_isNear_8 (by decide) ?_
  refine lv_aload_n E.1 E.2.1 dX6_isNear_9 rfl (lv_at hl 0 rfl) ?_
  refine x_getr E h 0 11 9 rfl rfl rfl (by decide) xinX6 kw209 dX6_isNear_10 ?_
  refine lv_iload_n E.1 E.2.1 dX6_isNear_13 rfl (lv_at hl 2 rfl) ?_
  refine x_iald E h 9 hf rfl dX6_isNear_14 (fun v2 hf => ?_)
  refine lv_ishl E.1 E.2.1 dX6_isNear_15 ?_
  refine lv_ior E.1 E.2.1 dX6_isNear_16 ?_
  refine x_nm hf (fun v3 hf => ?_)
  refine lv_istore_n (lv' := [(3, .int v3), (0, .ref (ad 0)), (1, .int p0), (2, .int p1)]) E.1 E.2.1 dX6_isNear_17 rfl hl (by decide) rfl (fun ls hl => ?_)
  refine lv_iconst (v := 0) E.1 E.2.1 dX6_isNear_18 (by decide) ?_
  refine lv_istore (lv' := [(4, .int 0), (3, .int v3), (0, .ref (ad 0)), (1, .int p0), (2, .int p1)]) E.1 E.2.1 dX6_isNear_19 hl (by decide) rfl (fun ls hl => ?_)
  refine w_X6_isNear_L21 E ?_ _ _ _ _ _ hf h (lv_sub hl [2, 3, 4, 1, 0] rfl)
  intro v10 H locs ls hf h hl
  refine lv_iconst (v := 0) E.1 E.2.1 dX6_isNear_77 (by decide) ?_
  exact x_zrc E h (by decide) hf dX6_isNear_78
set_option maxHeartbeats 4000000 in
set_option maxRecDepth 100000 in
theorem c_X6_chaseRefusal (l : Launch) (D : va_G) (cy : Nat → ClassId) (s00 : State) (ad : Nat → Nat) (S : XS) (p0 p1 : Int32) (r9 : Int32) (hf : f_X6_chaseRefusal S p0 p1 = some r9) : XI l yX6_chaseRefusal cX6_chaseRefusal 3 (some .int) 2 D cy s00 shRoof ad S [.ref (ad 0), .int p0, .int p1] r9 S := by
  refine XI.of (by decide) [(0, .ref (ad 0)), (1, .int p0), (2, .int p1)] rfl (Nat.le_of_ble_eq_true rfl) (fun p e s m args below meth c A ls E h hl => ?_)
  unfold f_X6_chaseRefusal at hf
  refine lv_aload_n E.1 E.2.1 dX6_chaseRefusal_0 rfl (lv_at hl 0 rfl) ?_
  refine lv_iload_n E.1 E.2.1 dX6_chaseRefusal_1 rfl (lv_at hl 1 rfl) ?_
  refine lv_iload_n E.1 E.2.1 dX6_chaseRefusal_2 rfl (lv_at hl 2 rfl) ?_
  refine x_callp E h hl 0 hf (fun r0 hr => c_X6_isNear l D cy s00 _ S p0 p1 r0 hr) m_X6_isNear rfl rfl kw650 rfl rfl (Nat.le_of_ble_eq_true rfl) ⟨by decide, by decide⟩ ⟨Nat.zero_le _, Nat.zero_le _⟩ dX6_chaseRefusal_3 (fun v1 H locs hf h => ?_)
  refine x_brn hf (lv_if_ne (tgt := 12) E.1 E.2.1 dX6_chaseRefusal_6 (by decide)) (fun hf => ?_) (fun hf => ?_)
  · refine lv_aload_n E.1 E.2.1 dX6_chaseRefusal_12 rfl (lv_at hl 0 rfl) ?_
    refine lv_iload_n E.1 E.2.1 dX6_chaseRefusal_13 rfl (lv_at hl 1 rfl) ?_
    refine lv_iload_n E.1 E.2.1 dX6_chaseRefusal_14 rfl (lv_at hl 2 rfl) ?_
    refine x_callp E h hl 0 hf (fun r0 hr => c_X6_truceLeft l D cy s00 _ S p0 p1 r0 hr) m_X6_truceLeft rfl rfl kw634 rfl rfl (Nat.le_of_ble_eq_true rfl) ⟨by decide, by decide⟩ ⟨Nat.zero_le _, Nat.zero_le _⟩ dX6_chaseRefusal_15 (fun v2 H locs hf h => ?_)
    refine x_br hf (lv_if_le (tgt := 24) E.1 E.2.1 dX6_chaseRefusal_18 (by decide)) (fun hf => ?_) (fun hf => ?_)
    · refine lv_aload_n E.1 E.2.1 dX6_chaseRefusal_24 rfl (lv_at hl 0 rfl) ?_
      refine lv_iload_n E.1 E.2.1 dX6_chaseRefusal_25 rfl (lv_at hl 1 rfl) ?_
      refine x_callp E h hl 0 hf (fun r0 hr => c_X6_might l D cy s00 _ S p0 r0 hr) m_X6_might rfl rfl kw654 rfl rfl (Nat.le_of_ble_eq_true rfl) ⟨by decide, by decide⟩ ⟨Nat.zero_le _, Nat.zero_le _⟩ dX6_chaseRefusal_26 (fun v3 H locs hf h => ?_)
      refine lv_aload_n E.1 E.2.1 dX6_chaseRefusal_29 rfl (lv_at hl 0 rfl) ?_
      refine lv_iload_n E.1 E.2.1 dX6_chaseRefusal_30 rfl (lv_at hl 2 rfl) ?_
      refine x_callp E h hl 0 hf (fun r0 hr => c_X6_might l D cy s00 _ S p1 r0 hr) m_X6_might rfl rfl kw654 rfl rfl (Nat.le_of_ble_eq_true rfl) ⟨by decide, by decide⟩ ⟨Nat.zero_le _, Nat.zero_le _⟩ dX6_chaseRefusal_31 (fun v4 H locs hf h => ?_)
      refine x_br hf (lv_icmp_le (tgt := 41) E.1 E.2.1 dX6_chaseRefusal_34 (by decide)) (fun hf => ?_) (fun hf => ?_)
      · refine lv_bipush (v := 9) E.1 E.2.1 dX6_chaseRefusal_41 (by decide) ?_
        exact x_irp E h hf dX6_chaseRefusal_43
      · refine lv_iconst (v := 0) E.1 E.2.1 dX6_chaseRefusal_37 (by decide) ?_
        refine lv_goto (tgt := 43) E.1 E.2.1 dX6_chaseRefusal_38 (by decide) ?_
        exact x_irp E h hf dX6_chaseRefusal_43
    · refine lv_bipush (v := 8) E.1 E.2.1 dX6_chaseRefusal_21 (by decide) ?_
      exact x_irp E h hf dX6_chaseRefusal_23
  · refine lv_bipush (v := 7) E.1 E.2.1 dX6_chaseRefusal_9 (by decide) ?_
    exact x_irp E h hf dX6_chaseRefusal_11
set_option maxHeartbeats 4000000 in
set_option maxRecDepth 100000 in
theorem c_X6_refusesTruce (l : Launch) (D : va_G) (cy : Nat → ClassId) (s00 : State) (ad : Nat → Nat) (S : XS) (p0 p1 p2 : Int32) (r9 : Int32) (hf : f_X6_refusesTruce S p0 p1 p2 = some r9) : XI l yX6_refusesTruce cX6_refusesTruce 4 (some .boolean) 2 D cy s00 shRoof ad S [.ref (ad 0), .int p0, .int p1, .int p2] r9 S := by
  refine XI.of (by decide) [(0, .ref (ad 0)), (1, .int p0), (2, .int p1), (3, .int p2)] rfl (Nat.le_of_ble_eq_true rfl) (fun p e s m args below meth c A ls E h hl => ?_)
  unfold f_X6_refusesTruce at hf
  refine lv_aload_n E.1 E.2.1 dX6_refusesTruce_0 rfl (lv_at hl 0 rfl) ?_
  refine lv_iload_n E.1 E.2.1 dX6_refusesTruce_1 rfl (lv_at hl 1 rfl) ?_
  refine lv_iload_n E.1 E.2.1 dX6_refusesTruce_2 rfl (lv_at hl 2 rfl) ?_
  refine x_callp E h hl 0 hf (fun r0 hr => c_X6_truceLeft l D cy s00 _ S p0 p1 r0 hr) m_X6_truceLeft rfl rfl kw634 rfl rfl (Nat.le_of_ble_eq_true rfl) ⟨by decide, by decide⟩ ⟨Nat.zero_le _, Nat.zero_le _⟩ dX6_refusesTruce_3 (fun v1 H locs hf h => ?_)
  refine x_br hf (lv_if_gt (tgt := 32) E.1 E.2.1 dX6_refusesTruce_6 (by decide)) (fun hf => ?_) (fun hf => ?_)
  · refine lv_iconst (v := 1) E.1 E.2.1 dX6_refusesTruce_32 (by decide) ?_
    refine lv_goto (tgt := 37) E.1 E.2.1 dX6_refusesTruce_33 (by decide) ?_
    exact x_zrc E h (by decide) hf dX6_refusesTruce_37
  · refine lv_aload_n E.1 E.2.1 dX6_refusesTruce_9 rfl (lv_at hl 0 rfl) ?_
    refine x_getr E h 0 10 8 rfl rfl rfl (by decide) xinX6 kw207 dX6_refusesTruce_10 ?_
    refine lv_iload_n E.1 E.2.1 dX6_refusesTruce_13 rfl (lv_at hl 1 rfl) ?_
    refine x_iald E h 8 hf rfl dX6_refusesTruce_14 (fun v2 hf => ?_)
    refine lv_iload_n E.1 E.2.1 dX6_refusesTruce_15 rfl (lv_at hl 3 rfl) ?_
    refine x_br hf (lv_icmp_lt (tgt := 32) E.1 E.2.1 dX6_refusesTruce_16 (by decide)) (fun hf => ?_) (fun hf => ?_)
    · refine lv_iconst (v := 1) E.1 E.2.1 dX6_refusesTruce_32 (by decide) ?_
      refine lv_goto (tgt := 37) E.1 E.2.1 dX6_refusesTruce_33 (by decide) ?_
      exact x_zrc E h (by decide) hf dX6_refusesTruce_37
    · refine lv_aload_n E.1 E.2.1 dX6_refusesTruce_19 rfl (lv_at hl 0 rfl) ?_
      refine x_getr E h 0 10 8 rfl rfl rfl (by decide) xinX6 kw207 dX6_refusesTruce_20 ?_
      refine lv_iload_n E.1 E.2.1 dX6_refusesTruce_23 rfl (lv_at hl 2 rfl) ?_
      refine x_iald E h 8 hf rfl dX6_refusesTruce_24 (fun v3 hf => ?_)
      refine lv_iload_n E.1 E.2.1 dX6_refusesTruce_25 rfl (lv_at hl 3 rfl) ?_
      refine lv_iadd E.1 E.2.1 dX6_refusesTruce_26 ?_
      refine lv_bipush (v := 99) E.1 E.2.1 dX6_refusesTruce_27 (by decide) ?_
      refine x_br hf (lv_icmp_le (tgt := 36) E.1 E.2.1 dX6_refusesTruce_29 (by decide)) (fun hf => ?_) (fun hf => ?_)
      · refine lv_iconst (v := 0) E.1 E.2.1 dX6_refusesTruce_36 (by decide) ?_
        exact x_zrc E h (by decide) hf dX6_refusesTruce_37
      · refine lv_iconst (v := 1) E.1 E.2.1 dX6_refusesTruce_32 (by decide) ?_
        refine lv_goto (tgt := 37) E.1 E.2.1 dX6_refusesTruce_33 (by decide) ?_
        exact x_zrc E h (by decide) hf dX6_refusesTruce_37
set_option maxHeartbeats 4000000 in
set_option maxRecDepth 100000 in
theorem c_X6_refusesKitten (l : Launch) (D : va_G) (cy : Nat → ClassId) (s00 : State) (ad : Nat → Nat) (S : XS) (r9 : Int32) (hf : f_X6_refusesKitten S = some r9) : XI l yX6_refusesKitten cX6_refusesKitten 1 (some .boolean) 0 D cy s00 shRoof ad S [.ref (ad 0)] r9 S := by
  refine XI.of (by decide) [(0, .ref (ad 0))] rfl (Nat.le_of_ble_eq_true rfl) (fun p e s m args below meth c A ls E h hl => ?_)
  unfold f_X6_refusesKitten at hf
  refine lv_aload_n E.1 E.2.1 dX6_refusesKitten_0 rfl (lv_at hl 0 rfl) ?_
  refine x_getr E h 0 16 11 rfl rfl rfl (by decide) xinX6 kw216 dX6_refusesKitten_1 ?_
  refine x_get E h 11 0 rfl rfl rfl (by decide) xinX3 kw163 dX6_refusesKitten_4 ?_
  refine x_brn hf (lv_if_ne (tgt := 26) E.1 E.2.1 dX6_refusesKitten_7 (by decide)) (fun hf => ?_) (fun hf => ?_)
  · refine lv_iconst (v := 1) E.1 E.2.1 dX6_refusesKitten_26 (by decide) ?_
    refine lv_goto (tgt := 31) E.1 E.2.1 dX6_refusesKitten_27 (by decide) ?_
    exact x_zrc E h (by decide) hf dX6_refusesKitten_31
  · refine lv_aload_n E.1 E.2.1 dX6_refusesKitten_10 rfl (lv_at hl 0 rfl) ?_
    refine x_get E h 0 7 rfl rfl rfl (by decide) xinX6 kw202 dX6_refusesKitten_11 ?_
    refine x_br hf (lv_if_eq (tgt := 26) E.1 E.2.1 dX6_refusesKitten_14 (by decide)) (fun hf => ?_) (fun hf => ?_)
    · refine lv_iconst (v := 1) E.1 E.2.1 dX6_refusesKitten_26 (by decide) ?_
      refine lv_goto (tgt := 31) E.1 E.2.1 dX6_refusesKitten_27 (by decide) ?_
      exact x_zrc E h (by decide) hf dX6_refusesKitten_31
    · refine lv_aload_n E.1 E.2.1 dX6_refusesKitten_17 rfl (lv_at hl 0 rfl) ?_
      refine x_get E h 0 7 rfl rfl rfl (by decide) xinX6 kw202 dX6_refusesKitten_18 ?_
      refine lv_bipush (v := 8) E.1 E.2.1 dX6_refusesKitten_21 (by decide) ?_
      refine x_br hf (lv_icmp_lt (tgt := 30) E.1 E.2.1 dX6_refusesKitten_23 (by decide)) (fun hf => ?_) (fun hf => ?_)
      · refine lv_iconst (v := 0) E.1 E.2.1 dX6_refusesKitten_30 (by decide) ?_
        exact x_zrc E h (by decide) hf dX6_refusesKitten_31
      · refine lv_iconst (v := 1) E.1 E.2.1 dX6_refusesKitten_26 (by decide) ?_
        refine lv_goto (tgt := 31) E.1 E.2.1 dX6_refusesKitten_27 (by decide) ?_
        exact x_zrc E h (by decide) hf dX6_refusesKitten_31
set_option maxHeartbeats 4000000 in
set_option maxRecDepth 100000 in
theorem c_X6_refusesVote (l : Launch) (D : va_G) (cy : Nat → ClassId) (s00 : State) (ad : Nat → Nat) (S : XS) (p0 : Int32) (r9 : Int32) (hf : f_X6_refusesVote S p0 = some r9) : XI l yX6_refusesVote cX6_refusesVote 2 (some .boolean) 0 D cy s00 shRoof ad S [.ref (ad 0), .int p0] r9 S := by
  refine XI.of (by decide) [(0, .ref (ad 0)), (1, .int p0)] rfl (Nat.le_of_ble_eq_true rfl) (fun p e s m args below meth c A ls E h hl => ?_)
  unfold f_X6_refusesVote at hf
  refine lv_aload_n E.1 E.2.1 dX6_refusesVote_0 rfl (lv_at hl 0 rfl) ?_
  refine x_getr E h 0 16 11 rfl rfl rfl (by decide) xinX6 kw216 dX6_refusesVote_1 ?_
  refine x_get E h 11 0 rfl rfl rfl (by decide) xinX3 kw163 dX6_refusesVote_4 ?_
  refine x_br hf (lv_if_eq (tgt := 22) E.1 E.2.1 dX6_refusesVote_7 (by decide)) (fun hf => ?_) (fun hf => ?_)
  · refine lv_iconst (v := 1) E.1 E.2.1 dX6_refusesVote_22 (by decide) ?_
    refine lv_goto (tgt := 27) E.1 E.2.1 dX6_refusesVote_23 (by decide) ?_
    exact x_zrc E h (by decide) hf dX6_refusesVote_27
  · refine lv_aload_n E.1 E.2.1 dX6_refusesVote_10 rfl (lv_at hl 0 rfl) ?_
    refine x_getr E h 0 16 11 rfl rfl rfl (by decide) xinX6 kw216 dX6_refusesVote_11 ?_
    refine x_getr E h 11 3 12 rfl rfl rfl (by decide) xinX3 kw170 dX6_refusesVote_14 ?_
    refine lv_iload_n E.1 E.2.1 dX6_refusesVote_17 rfl (lv_at hl 1 rfl) ?_
    refine x_iald E h 12 hf rfl dX6_refusesVote_18 (fun v1 hf => ?_)
    refine x_br hf (lv_if_eq (tgt := 26) E.1 E.2.1 dX6_refusesVote_19 (by decide)) (fun hf => ?_) (fun hf => ?_)
    · refine lv_iconst (v := 0) E.1 E.2.1 dX6_refusesVote_26 (by decide) ?_
      exact x_zrc E h (by decide) hf dX6_refusesVote_27
    · refine lv_iconst (v := 1) E.1 E.2.1 dX6_refusesVote_22 (by decide) ?_
      refine lv_goto (tgt := 27) E.1 E.2.1 dX6_refusesVote_23 (by decide) ?_
      exact x_zrc E h (by decide) hf dX6_refusesVote_27
set_option maxHeartbeats 4000000 in
set_option maxRecDepth 100000 in
theorem c_X6_refusesNights (l : Launch) (D : va_G) (cy : Nat → ClassId) (s00 : State) (ad : Nat → Nat) (S : XS) (p0 : Int32) (r9 : Int32) (hf : f_X6_refusesNights S p0 = some r9) : XI l yX6_refusesNights cX6_refusesNights 2 (some .boolean) 0 D cy s00 shRoof ad S [.ref (ad 0), .int p0] r9 S := by
  refine XI.of (by decide) [(0, .ref (ad 0)), (1, .int p0)] rfl (Nat.le_of_ble_eq_true rfl) (fun p e s m args below meth c A ls E h hl => ?_)
  unfold f_X6_refusesNights at hf
  refine lv_aload_n E.1 E.2.1 dX6_refusesNights_0 rfl (lv_at hl 0 rfl) ?_
  refine x_get E h 0 13 rfl rfl rfl (by decide) xinX6 kw212 dX6_refusesNights_1 ?_
  refine lv_iload_n E.1 E.2.1 dX6_refusesNights_4 rfl (lv_at hl 1 rfl) ?_
  refine lv_iadd E.1 E.2.1 dX6_refusesNights_5 ?_
  refine lv_sipush (v := 999) E.1 E.2.1 dX6_refusesNights_6 (by decide) ?_
  refine x_br hf (lv_icmp_le (tgt := 16) E.1 E.2.1 dX6_refusesNights_9 (by decide)) (fun hf => ?_) (fun hf => ?_)
  · refine lv_iconst (v := 0) E.1 E.2.1 dX6_refusesNights_16 (by decide) ?_
    exact x_zrc E h (by decide) hf dX6_refusesNights_17
  · refine lv_iconst (v := 1) E.1 E.2.1 dX6_refusesNights_12 (by decide) ?_
    refine lv_goto (tgt := 17) E.1 E.2.1 dX6_refusesNights_13 (by decide) ?_
    exact x_zrc E h (by decide) hf dX6_refusesNights_17
set_option maxHeartbeats 4000000 in
set_option maxRecDepth 100000 in
theorem c_X6_putChimney (l : Launch) (D : va_G) (cy : Nat → ClassId) (s00 : State) (ad : Nat → Nat) (S : XS) (p0 : Int32) (r9 : Int32) (S9 : XS) (hf : f_X6_putChimney S p0 = some (r9, S9)) : XI l yX6_putChimney cX6_putChimney 2 (some .int) 0 D cy s00 shRoof ad S [.ref (ad 0), .int p0] r9 S9 := by
  refine XI.of (by decide) [(0, .ref (ad 0)), (1, .int p0)] rfl (Nat.le_of_ble_eq_true rfl) (fun p e s m args below meth c A ls E h hl => ?_)
  unfold f_X6_putChimney at hf
  refine lv_aload_n E.1 E.2.1 dX6_putChimney_0 rfl (lv_at hl 0 rfl) ?_
  refine x_getr E h 0 1 1 rfl rfl rfl (by decide) xinX6 kw186 dX6_putChimney_1 ?_
  refine lv_aload_n E.1 E.2.1 dX6_putChimney_4 rfl (lv_at hl 0 rfl) ?_
  refine x_get E h 0 0 rfl rfl rfl (by decide) xinX6 kw182 dX6_putChimney_5 ?_
  refine lv_iload_n E.1 E.2.1 dX6_putChimney_8 rfl (lv_at hl 1 rfl) ?_
  refine x_iast E h 1 hf rfl dX6_putChimney_9 (fun S1 H locs hf h => ?_)
  refine lv_aload_n E.1 E.2.1 dX6_putChimney_10 rfl (lv_at hl 0 rfl) ?_
  refine x_getr E h 0 2 2 rfl rfl rfl (by decide) xinX6 kw189 dX6_putChimney_11 ?_
  refine lv_aload_n E.1 E.2.1 dX6_putChimney_14 rfl (lv_at hl 0 rfl) ?_
  refine x_get E h 0 0 rfl rfl rfl (by decide) xinX6 kw182 dX6_putChimney_15 ?_
  refine lv_iconst (v := (-1)) E.1 E.2.1 dX6_putChimney_18 (by decide) ?_
  refine x_iast E h 2 hf rfl dX6_putChimney_19 (fun S3 H locs hf h => ?_)
  refine lv_aload_n E.1 E.2.1 dX6_putChimney_20 rfl (lv_at hl 0 rfl) ?_
  refine lv_dup E.1 E.2.1 dX6_putChimney_21 rfl ?_
  refine x_get E h 0 0 rfl rfl rfl (by decide) xinX6 kw182 dX6_putChimney_22 ?_
  refine lv_iconst (v := 1) E.1 E.2.1 dX6_putChimney_25 (by decide) ?_
  refine lv_iadd E.1 E.2.1 dX6_putChimney_26 ?_
  refine x_put (ty := .int) E h 0 0 hf rfl rfl rfl (by decide) xinX6 tyX6_ok nmX6 kw182 rfl (by decide +kernel) rfl rfl dX6_putChimney_27 (fun S5 H locs hf h => ?_)
  refine lv_aload_n E.1 E.2.1 dX6_putChimney_30 rfl (lv_at hl 0 rfl) ?_
  refine x_get E h 0 0 rfl rfl rfl (by decide) xinX6 kw182 dX6_putChimney_31 ?_
  refine lv_iconst (v := 1) E.1 E.2.1 dX6_putChimney_34 (by decide) ?_
  refine lv_isub E.1 E.2.1 dX6_putChimney_35 ?_
  exact x_iret E h hf dX6_putChimney_36
set_option maxHeartbeats 4000000 in
set_option maxRecDepth 100000 in
theorem c_X6_putGutter (l : Launch) (D : va_G) (cy : Nat → ClassId) (s00 : State) (ad : Nat → Nat) (S : XS) (p0 p1 p2 : Int32) (r9 : Int32) (S9 : XS) (hf : f_X6_putGutter S p0 p1 p2 = some (r9, S9)) : XI l yX6_putGutter cX6_putGutter 4 (some .int) 0 D cy s00 shRoof ad S [.ref (ad 0), .int p0, .int p1, .int p2] r9 S9 := by
  refine XI.of (by decide) [(0, .ref (ad 0)), (1, .int p0), (2, .int p1), (3, .int p2)] rfl (Nat.le_of_ble_eq_true rfl) (fun p e s m args below meth c A ls E h hl => ?_)
  unfold f_X6_putGutter at hf
  refine lv_aload_n E.1 E.2.1 dX6_putGutter_0 rfl (lv_at hl 0 rfl) ?_
  refine x_getr E h 0 4 3 rfl rfl rfl (by decide) xinX6 kw196 dX6_putGutter_1 ?_
  refine lv_aload_n E.1 E.2.1 dX6_putGutter_4 rfl (lv_at hl 0 rfl) ?_
  refine x_get E h 0 3 rfl rfl rfl (by decide) xinX6 kw193 dX6_putGutter_5 ?_
  refine lv_iload_n E.1 E.2.1 dX6_putGutter_8 rfl (lv_at hl 1 rfl) ?_
  refine x_iast E h 3 hf rfl dX6_putGutter_9 (fun S1 H locs hf h => ?_)
  refine lv_aload_n E.1 E.2.1 dX6_putGutter_10 rfl (lv_at hl 0 rfl) ?_
  refine x_getr E h 0 5 4 rfl rfl rfl (by decide) xinX6 kw198 dX6_putGutter_11 ?_
  refine lv_aload_n E.1 E.2.1 dX6_putGutter_14 rfl (lv_at hl 0 rfl) ?_
  refine x_get E h 0 3 rfl rfl rfl (by decide) xinX6 kw193 dX6_putGutter_15 ?_
  refine lv_iload_n E.1 E.2.1 dX6_putGutter_18 rfl (lv_at hl 2 rfl) ?_
  refine x_iast E h 4 hf rfl dX6_putGutter_19 (fun S3 H locs hf h => ?_)
  refine lv_aload_n E.1 E.2.1 dX6_putGutter_20 rfl (lv_at hl 0 rfl) ?_
  refine x_getr E h 0 6 5 rfl rfl rfl (by decide) xinX6 kw200 dX6_putGutter_21 ?_
  refine lv_aload_n E.1 E.2.1 dX6_putGutter_24 rfl (lv_at hl 0 rfl) ?_
  refine x_get E h 0 3 rfl rfl rfl (by decide) xinX6 kw193 dX6_putGutter_25 ?_
  refine lv_iload_n E.1 E.2.1 dX6_putGutter_28 rfl (lv_at hl 3 rfl) ?_
  refine x_iast E h 5 hf rfl dX6_putGutter_29 (fun S5 H locs hf h => ?_)
  refine lv_aload_n E.1 E.2.1 dX6_putGutter_30 rfl (lv_at hl 0 rfl) ?_
  refine lv_dup E.1 E.2.1 dX6_putGutter_31 rfl ?_
  refine x_get E h 0 3 rfl rfl rfl (by decide) xinX6 kw193 dX6_putGutter_32 ?_
  refine lv_iconst (v := 1) E.1 E.2.1 dX6_putGutter_35 (by decide) ?_
  refine lv_iadd E.1 E.2.1 dX6_putGutter_36 ?_
  refine x_put (ty := .int) E h 0 3 hf rfl rfl rfl (by decide) xinX6 tyX6_ok nmX6 kw193 rfl (by decide +kernel) rfl rfl dX6_putGutter_37 (fun S7 H locs hf h => ?_)
  refine lv_aload_n E.1 E.2.1 dX6_putGutter_40 rfl (lv_at hl 0 rfl) ?_
  refine x_get E h 0 3 rfl rfl rfl (by decide) xinX6 kw193 dX6_putGutter_41 ?_
  refine lv_iconst (v := 1) E.1 E.2.1 dX6_putGutter_44 (by decide) ?_
  refine lv_isub E.1 E.2.1 dX6_putGutter_45 ?_
  exact x_iret E h hf dX6_putGutter_46
set_option maxHeartbeats 4000000 in
set_option maxRecDepth 100000 in
theorem c_X6_putCat (l : Launch) (D : va_G) (cy : Nat → ClassId) (s00 : State) (ad : Nat → Nat) (S : XS) (p0 p1 p2 : Int32) (r9 : Int32) (S9 : XS) (hf : f_X6_putCat S p0 p1 p2 = some (r9, S9)) : XI l yX6_putCat cX6_putCat 4 (some .int) 0 D cy s00 shRoof ad S [.ref (ad 0), .int p0, .int p1, .int p2] r9 S9 := by
  refine XI.of (by decide) [(0, .ref (ad 0)), (1, .int p0), (2, .int p1), (3, .int p2)] rfl (Nat.le_of_ble_eq_true rfl) (fun p e s m args below meth c A ls E h hl => ?_)
  unfold f_X6_putCat at hf
  refine lv_aload_n E.1 E.2.1 dX6_putCat_0 rfl (lv_at hl 0 rfl) ?_
  refine x_getr E h 0 8 6 rfl rfl rfl (by decide) xinX6 kw204 dX6_putCat_1 ?_
  refine lv_aload_n E.1 E.2.1 dX6_putCat_4 rfl (lv_at hl 0 rfl) ?_
  refine x_get E h 0 7 rfl rfl rfl (by decide) xinX6 kw202 dX6_putCat_5 ?_
  refine lv_iload_n E.1 E.2.1 dX6_putCat_8 rfl (lv_at hl 2 rfl) ?_
  refine x_iast E h 6 hf rfl dX6_putCat_9 (fun S1 H locs hf h => ?_)
  refine lv_aload_n E.1 E.2.1 dX6_putCat_10 rfl (lv_at hl 0 rfl) ?_
  refine x_getr E h 0 9 7 rfl rfl rfl (by decide) xinX6 kw206 dX6_putCat_11 ?_
  refine lv_aload_n E.1 E.2.1 dX6_putCat_14 rfl (lv_at hl 0 rfl) ?_
  refine x_get E h 0 7 rfl rfl rfl (by decide) xinX6 kw202 dX6_putCat_15 ?_
  refine lv_iload_n E.1 E.2.1 dX6_putCat_18 rfl (lv_at hl 3 rfl) ?_
  refine x_iast E h 7 hf rfl dX6_putCat_19 (fun S3 H locs hf h => ?_)
  refine lv_aload_n E.1 E.2.1 dX6_putCat_20 rfl (lv_at hl 0 rfl) ?_
  refine x_getr E h 0 10 8 rfl rfl rfl (by decide) xinX6 kw207 dX6_putCat_21 ?_
  refine lv_aload_n E.1 E.2.1 dX6_putCat_24 rfl (lv_at hl 0 rfl) ?_
  refine x_get E h 0 7 rfl rfl rfl (by decide) xinX6 kw202 dX6_putCat_25 ?_
  refine lv_iconst (v := 5) E.1 E.2.1 dX6_putCat_28 (by decide) ?_
  refine x_iast E h 8 hf rfl dX6_putCat_29 (fun S5 H locs hf h => ?_)
  refine lv_aload_n E.1 E.2.1 dX6_putCat_30 rfl (lv_at hl 0 rfl) ?_
  refine x_getr E h 0 11 9 rfl rfl rfl (by decide) xinX6 kw209 dX6_putCat_31 ?_
  refine lv_aload_n E.1 E.2.1 dX6_putCat_34 rfl (lv_at hl 0 rfl) ?_
  refine x_get E h 0 7 rfl rfl rfl (by decide) xinX6 kw202 dX6_putCat_35 ?_
  refine lv_iload_n E.1 E.2.1 dX6_putCat_38 rfl (lv_at hl 1 rfl) ?_
  refine x_iast E h 9 hf rfl dX6_putCat_39 (fun S7 H locs hf h => ?_)
  refine lv_aload_n E.1 E.2.1 dX6_putCat_40 rfl (lv_at hl 0 rfl) ?_
  refine lv_dup E.1 E.2.1 dX6_putCat_41 rfl ?_
  refine x_get E h 0 7 rfl rfl rfl (by decide) xinX6 kw202 dX6_putCat_42 ?_
  refine lv_iconst (v := 1) E.1 E.2.1 dX6_putCat_45 (by decide) ?_
  refine lv_iadd E.1 E.2.1 dX6_putCat_46 ?_
  refine x_put (ty := .int) E h 0 7 hf rfl rfl rfl (by decide) xinX6 tyX6_ok nmX6 kw202 rfl (by decide +kernel) rfl rfl dX6_putCat_47 (fun S9 H locs hf h => ?_)
  refine lv_aload_n E.1 E.2.1 dX6_putCat_50 rfl (lv_at hl 0 rfl) ?_
  refine x_get E h 0 7 rfl rfl rfl (by decide) xinX6 kw202 dX6_putCat_51 ?_
  refine lv_iconst (v := 1) E.1 E.2.1 dX6_putCat_54 (by decide) ?_
  refine lv_isub E.1 E.2.1 dX6_putCat_55 ?_
  exact x_iret E h hf dX6_putCat_56
set_option maxHeartbeats 4000000 in
set_option maxRecDepth 100000 in
theorem c_X6_walk (l : Launch) (D : va_G) (cy : Nat → ClassId) (s00 : State) (ad : Nat → Nat) (S : XS) (p0 p1 : Int32) (r9 : Int32) (S9 : XS) (hf : f_X6_walk S p0 p1 = some (r9, S9)) : XI l yX6_walk cX6_walk 3 (some .int) 1 D cy s00 shRoof ad S [.ref (ad 0), .int p0, .int p1] r9 S9 := by
  refine XI.of (by decide) [(0, .ref (ad 0)), (1, .int p0), (2, .int p1)] rfl (Nat.le_of_ble_eq_true rfl) (fun p e s m args below meth c A ls E h hl => ?_)
  unfold f_X6_walk at hf
  refine lv_aload_n E.1 E.2.1 dX6_walk_0 rfl (lv_at hl 0 rfl) ?_
  refine x_getr E h 0 11 9 rfl rfl rfl (by decide) xinX6 kw209 dX6_walk_1 ?_
  refine lv_iload_n E.1 E.2.1 dX6_walk_4 rfl (lv_at hl 1 rfl) ?_
  refine lv_aload_n E.1 E.2.1 dX6_walk_5 rfl (lv_at hl 0 rfl) ?_
  refine lv_iload_n E.1 E.2.1 dX6_walk_6 rfl (lv_at hl 1 rfl) ?_
  refine lv_iload_n E.1 E.2.1 dX6_walk_7 rfl (lv_at hl 2 rfl) ?_
  refine x_callp E h hl 0 hf (fun r0 hr => c_X6_farEnd l D cy s00 _ S p0 p1 r0 hr) m_X6_farEnd rfl rfl kw626 rfl rfl (Nat.le_of_ble_eq_true rfl) ⟨by decide, by decide⟩ ⟨Nat.zero_le _, Nat.zero_le _⟩ dX6_walk_8 (fun v1 H locs hf h => ?_)
  refine x_iast E h 9 hf rfl dX6_walk_11 (fun S2 H locs hf h => ?_)
  refine lv_aload_n E.1 E.2.1 dX6_walk_12 rfl (lv_at hl 0 rfl) ?_
  refine x_getr E h 0 11 9 rfl rfl rfl (by decide) xinX6 kw209 dX6_walk_13 ?_
  refine lv_iload_n E.1 E.2.1 dX6_walk_16 rfl (lv_at hl 1 rfl) ?_
  refine x_iald E h 9 hf rfl dX6_walk_17 (fun v4 hf => ?_)
  exact x_iret E h hf dX6_walk_18
set_option maxHeartbeats 4000000 in
set_option maxRecDepth 100000 in
theorem c_X6_takeSeat (l : Launch) (D : va_G) (cy : Nat → ClassId) (s00 : State) (ad : Nat → Nat) (S : XS) (p0 : Int32) (r9 : Int32) (S9 : XS) (hf : f_X6_takeSeat S p0 = some (r9, S9)) : XI l yX6_takeSeat cX6_takeSeat 2 (some .int) 1 D cy s00 shRoof ad S [.ref (ad 0), .int p0] r9 S9 := by
  refine XI.of (by decide) [(0, .ref (ad 0)), (1, .int p0)] rfl (Nat.le_of_ble_eq_true rfl) (fun p e s m args below meth c A ls E h hl => ?_)
  unfold f_X6_takeSeat at hf
  refine lv_aload_n E.1 E.2.1 dX6_takeSeat_0 rfl (lv_at hl 0 rfl) ?_
  refine x_getr E h 0 2 2 rfl rfl rfl (by decide) xinX6 kw189 dX6_takeSeat_1 ?_
  refine lv_aload_n E.1 E.2.1 dX6_takeSeat_4 rfl (lv_at hl 0 rfl) ?_
  refine x_getr E h 0 11 9 rfl rfl rfl (by decide) xinX6 kw209 dX6_takeSeat_5 ?_
  refine lv_iload_n E.1 E.2.1 dX6_takeSeat_8 rfl (lv_at hl 1 rfl) ?_
  refine x_iald E h 9 hf rfl dX6_takeSeat_9 (fun v1 hf => ?_)
  refine lv_iload_n E.1 E.2.1 dX6_takeSeat_10 rfl (lv_at hl 1 rfl) ?_
  refine x_iast E h 2 hf rfl dX6_takeSeat_11 (fun S2 H locs hf h => ?_)
  refine lv_aload_n E.1 E.2.1 dX6_takeSeat_12 rfl (lv_at hl 0 rfl) ?_
  refine lv_iload_n E.1 E.2.1 dX6_takeSeat_13 rfl (lv_at hl 1 rfl) ?_
  refine x_callp E h hl 0 hf (fun r0 hr => c_X6_estate l D cy s00 _ S2 p0 r0 hr) m_X6_estate rfl rfl kw379 rfl rfl (Nat.le_of_ble_eq_true rfl) ⟨by decide, by decide⟩ ⟨Nat.zero_le _, Nat.zero_le _⟩ dX6_takeSeat_14 (fun v4 H locs hf h => ?_)
  refine x_callsp E h hl hf (fun r0 hr => c_J6_bitCount_0f7a4 l D cy s00 _ _ v4 r0 hr) m_J6_bitCount_0f7a4 kw383 rfl rfl (Nat.le_of_ble_eq_true rfl) ⟨by decide, by decide⟩ ⟨Nat.zero_le _, Nat.zero_le _⟩ dX6_takeSeat_17 (fun v5 H locs hf h => ?_)
  exact x_iret E h hf dX6_takeSeat_20
set_option maxHeartbeats 4000000 in
set_option maxRecDepth 100000 in
theorem c_X6_release (l : Launch) (D : va_G) (cy : Nat → ClassId) (s00 : State) (ad : Nat → Nat) (S : XS) (p0 : Int32) (r9 : Int32) (S9 : XS) (hf : f_X6_release S p0 = some (r9, S9)) : XI l yX6_release cX6_release 3 (some .int) 0 D cy s00 shRoof ad S [.ref (ad 0), .int p0] r9 S9 := by
  refine XI.of (by decide) [(0, .ref (ad 0)), (1, .int p0)] rfl (Nat.le_of_ble_eq_true rfl) (fun p e s m args below meth c A ls E h hl => ?_)
  unfold f_X6_release at hf
  refine lv_aload_n E.1 E.2.1 dX6_release_0 rfl (lv_at hl 0 rfl) ?_
  refine x_getr E h 0 2 2 rfl rfl rfl (by decide) xinX6 kw189 dX6_release_1 ?_
  refine lv_iload_n E.1 E.2.1 dX6_release_4 rfl (lv_at hl 1 rfl) ?_
  refine x_iald E h 2 hf rfl dX6_release_5 (fun v1 hf => ?_)
  refine lv_istore_n (lv' := [(2, .int v1), (0, .ref (ad 0)), (1, .int p0)]) E.1 E.2.1 dX6_release_6 rfl hl (by decide) rfl (fun ls hl => ?_)
  refine lv_aload_n E.1 E.2.1 dX6_release_7 rfl (lv_at hl 1 rfl) ?_
  refine x_getr E h 0 2 2 rfl rfl rfl (by decide) xinX6 kw189 dX6_release_8 ?_
  refine lv_iload_n E.1 E.2.1 dX6_release_11 rfl (lv_at hl 2 rfl) ?_
  refine lv_iconst (v := (-1)) E.1 E.2.1 dX6_release_12 (by decide) ?_
  refine x_iast E h 2 hf rfl dX6_release_13 (fun S2 H locs hf h => ?_)
  refine lv_iload_n E.1 E.2.1 dX6_release_14 rfl (lv_at hl 0 rfl) ?_
  exact x_iret E h hf dX6_release_15
set_option maxHeartbeats 4000000 in
set_option maxRecDepth 100000 in
theorem c_X6_driveAway (l : Launch) (D : va_G) (cy : Nat → ClassId) (s00 : State) (ad : Nat → Nat) (S : XS) (p0 p1 : Int32) (r9 : Int32) (S9 : XS) (hf : f_X6_driveAway S p0 p1 = some (r9, S9)) : XI l yX6_driveAway cX6_driveAway 4 (some .boolean) 2 D cy s00 shRoof ad S [.ref (ad 0), .int p0, .int p1] r9 S9 := by
  refine XI.of (by decide) [(0, .ref (ad 0)), (1, .int p0), (2, .int p1)] rfl (Nat.le_of_ble_eq_true rfl) (fun p e s m args below meth c A ls E h hl => ?_)
  unfold f_X6_driveAway at hf
  refine lv_aload_n E.1 E.2.1 dX6_driveAway_0 rfl (lv_at hl 0 rfl) ?_
  refine x_getr E h 0 11 9 rfl rfl rfl (by decide) xinX6 kw209 dX6_driveAway_1 ?_
  refine lv_iload_n E.1 E.2.1 dX6_driveAway_4 rfl (lv_at hl 2 rfl) ?_
  refine x_iald E h 9 hf rfl dX6_driveAway_5 (fun v1 hf => ?_)
  refine lv_istore_n (lv' := [(3, .int v1), (0, .ref (ad 0)), (1, .int p0), (2, .int p1)]) E.1 E.2.1 dX6_driveAway_6 rfl hl (by decide) rfl (fun ls hl => ?_)
  refine lv_aload_n E.1 E.2.1 dX6_driveAway_7 rfl (lv_at hl 1 rfl) ?_
  refine x_getr E h 0 11 9 rfl rfl rfl (by decide) xinX6 kw209 dX6_driveAway_8 ?_
  refine lv_iload_n E.1 E.2.1 dX6_driveAway_11 rfl (lv_at hl 3 rfl) ?_
  refine lv_aload_n E.1 E.2.1 dX6_driveAway_12 rfl (lv_at hl 1 rfl) ?_
  refine x_getr E h 0 11 9 rfl rfl rfl (by decide) xinX6 kw209 dX6_driveAway_13 ?_
  refine lv_iload_n E.1 E.2.1 dX6_driveAway_16 rfl (lv_at hl 2 rfl) ?_
  refine x_iald E h 9 hf rfl dX6_driveAway_17 (fun v2 hf => ?_)
  refine x_iast E h 9 hf rfl dX6_driveAway_18 (fun S3 H locs hf h => ?_)
  refine lv_aload_n E.1 E.2.1 dX6_driveAway_19 rfl (lv_at hl 1 rfl) ?_
  refine x_getr E h 0 11 9 rfl rfl rfl (by decide) xinX6 kw209 dX6_driveAway_20 ?_
  refine lv_iload_n E.1 E.2.1 dX6_driveAway_23 rfl (lv_at hl 2 rfl) ?_
  refine lv_iload_n E.1 E.2.1 dX6_driveAway_24 rfl (lv_at hl 0 rfl) ?_
  refine x_iast E h 9 hf rfl dX6_driveAway_25 (fun S5 H locs hf h => ?_)
  refine lv_aload_n E.1 E.2.1 dX6_driveAway_26 rfl (lv_at hl 1 rfl) ?_
  refine x_getr E h 0 2 2 rfl rfl rfl (by decide) xinX6 kw189 dX6_driveAway_27 ?_
  refine lv_iload_n E.1 E.2.1 dX6_driveAway_30 rfl (lv_at hl 0 rfl) ?_
  refine x_iald E h 2 hf rfl dX6_driveAway_31 (fun v7 hf => ?_)
  refine lv_iload_n E.1 E.2.1 dX6_driveAway_32 rfl (lv_at hl 3 rfl) ?_
  refine x_brn hf (lv_icmp_ne (tgt := 55) E.1 E.2.1 dX6_driveAway_33 (by decide)) (fun hf => ?_) (fun hf => ?_)
  · refine lv_aload_n E.1 E.2.1 dX6_driveAway_55 rfl (lv_at hl 1 rfl) ?_
    refine x_getr E h 0 10 8 rfl rfl rfl (by decide) xinX6 kw207 dX6_driveAway_56 ?_
    refine lv_iload_n E.1 E.2.1 dX6_driveAway_59 rfl (lv_at hl 3 rfl) ?_
    refine x_iald E h 8 hf rfl dX6_driveAway_60 (fun v8 hf => ?_)
    refine x_br hf (lv_if_le (tgt := 95) E.1 E.2.1 dX6_driveAway_61 (by decide)) (fun hf => ?_) (fun hf => ?_)
    · refine lv_aload_n E.1 E.2.1 dX6_driveAway_95 rfl (lv_at hl 1 rfl) ?_
      refine x_getr E h 0 2 2 rfl rfl rfl (by decide) xinX6 kw189 dX6_driveAway_96 ?_
      refine lv_iload_n E.1 E.2.1 dX6_driveAway_99 rfl (lv_at hl 0 rfl) ?_
      refine x_iald E h 2 hf rfl dX6_driveAway_100 (fun v9 hf => ?_)
      refine lv_iload_n E.1 E.2.1 dX6_driveAway_101 rfl (lv_at hl 2 rfl) ?_
      refine x_brn hf (lv_icmp_ne (tgt := 109) E.1 E.2.1 dX6_driveAway_102 (by decide)) (fun hf => ?_) (fun hf => ?_)
      · refine lv_iconst (v := 0) E.1 E.2.1 dX6_driveAway_109 (by decide) ?_
        exact x_zic E h (by decide) hf dX6_driveAway_110
      · refine lv_iconst (v := 1) E.1 E.2.1 dX6_driveAway_105 (by decide) ?_
        refine lv_goto (tgt := 110) E.1 E.2.1 dX6_driveAway_106 (by decide) ?_
        exact x_zic E h (by decide) hf dX6_driveAway_110
    · refine lv_aload_n E.1 E.2.1 dX6_driveAway_64 rfl (lv_at hl 1 rfl) ?_
      refine x_getr E h 0 10 8 rfl rfl rfl (by decide) xinX6 kw207 dX6_driveAway_65 ?_
      refine lv_iload_n E.1 E.2.1 dX6_driveAway_68 rfl (lv_at hl 2 rfl) ?_
      refine x_iald E h 8 hf rfl dX6_driveAway_69 (fun v10 hf => ?_)
      refine lv_bipush (v := 99) E.1 E.2.1 dX6_driveAway_70 (by decide) ?_
      refine x_br hf (lv_icmp_ge (tgt := 95) E.1 E.2.1 dX6_driveAway_72 (by decide)) (fun hf => ?_) (fun hf => ?_)
      · refine lv_aload_n E.1 E.2.1 dX6_driveAway_95 rfl (lv_at hl 1 rfl) ?_
        refine x_getr E h 0 2 2 rfl rfl rfl (by decide) xinX6 kw189 dX6_driveAway_96 ?_
        refine lv_iload_n E.1 E.2.1 dX6_driveAway_99 rfl (lv_at hl 0 rfl) ?_
        refine x_iald E h 2 hf rfl dX6_driveAway_100 (fun v11 hf => ?_)
        refine lv_iload_n E.1 E.2.1 dX6_driveAway_101 rfl (lv_at hl 2 rfl) ?_
        refine x_brn hf (lv_icmp_ne (tgt := 109) E.1 E.2.1 dX6_driveAway_102 (by decide)) (fun hf => ?_) (fun hf => ?_)
        · refine lv_iconst (v := 0) E.1 E.2.1 dX6_driveAway_109 (by decide) ?_
          exact x_zic E h (by decide) hf dX6_driveAway_110
        · refine lv_iconst (v := 1) E.1 E.2.1 dX6_driveAway_105 (by decide) ?_
          refine lv_goto (tgt := 110) E.1 E.2.1 dX6_driveAway_106 (by decide) ?_
          exact x_zic E h (by decide) hf dX6_driveAway_110
      · refine lv_aload_n E.1 E.2.1 dX6_driveAway_75 rfl (lv_at hl 1 rfl) ?_
        refine x_getr E h 0 10 8 rfl rfl rfl (by decide) xinX6 kw207 dX6_driveAway_76 ?_
        refine lv_iload_n E.1 E.2.1 dX6_driveAway_79 rfl (lv_at hl 3 rfl) ?_
        refine lv_dup2_11 E.1 E.2.1 dX6_driveAway_80 rfl rfl ?_
        refine x_iald E h 8 hf rfl dX6_driveAway_81 (fun v12 hf => ?_)
        refine lv_iconst (v := 1) E.1 E.2.1 dX6_driveAway_82 (by decide) ?_
        refine lv_isub E.1 E.2.1 dX6_driveAway_83 ?_
        refine x_iast E h 8 hf rfl dX6_driveAway_84 (fun S13 H locs hf h => ?_)
        refine lv_aload_n E.1 E.2.1 dX6_driveAway_85 rfl (lv_at hl 1 rfl) ?_
        refine x_getr E h 0 10 8 rfl rfl rfl (by decide) xinX6 kw207 dX6_driveAway_86 ?_
        refine lv_iload_n E.1 E.2.1 dX6_driveAway_89 rfl (lv_at hl 2 rfl) ?_
        refine lv_dup2_11 E.1 E.2.1 dX6_driveAway_90 rfl rfl ?_
        refine x_iald E h 8 hf rfl dX6_driveAway_91 (fun v15 hf => ?_)
        refine lv_iconst (v := 1) E.1 E.2.1 dX6_driveAway_92 (by decide) ?_
        refine lv_iadd E.1 E.2.1 dX6_driveAway_93 ?_
        refine x_iast E h 8 hf rfl dX6_driveAway_94 (fun S16 H locs hf h => ?_)
        refine lv_aload_n E.1 E.2.1 dX6_driveAway_95 rfl (lv_at hl 1 rfl) ?_
        refine x_getr E h 0 2 2 rfl rfl rfl (by decide) xinX6 kw189 dX6_driveAway_96 ?_
        refine lv_iload_n E.1 E.2.1 dX6_driveAway_99 rfl (lv_at hl 0 rfl) ?_
        refine x_iald E h 2 hf rfl dX6_driveAway_100 (fun v18 hf => ?_)
        refine lv_iload_n E.1 E.2.1 dX6_driveAway_101 rfl (lv_at hl 2 rfl) ?_
        refine x_brn hf (lv_icmp_ne (tgt := 109) E.1 E.2.1 dX6_driveAway_102 (by decide)) (fun hf => ?_) (fun hf => ?_)
        · refine lv_iconst (v := 0) E.1 E.2.1 dX6_driveAway_109 (by decide) ?_
          exact x_zic E h (by decide) hf dX6_driveAway_110
        · refine lv_iconst (v := 1) E.1 E.2.1 dX6_driveAway_105 (by decide) ?_
          refine lv_goto (tgt := 110) E.1 E.2.1 dX6_driveAway_106 (by decide) ?_
          exact x_zic E h (by decide) hf dX6_driveAway_110
  · refine lv_aload_n E.1 E.2.1 dX6_driveAway_36 rfl (lv_at hl 1 rfl) ?_
    refine x_getr E h 0 2 2 rfl rfl rfl (by decide) xinX6 kw189 dX6_driveAway_37 ?_
    refine lv_iload_n E.1 E.2.1 dX6_driveAway_40 rfl (lv_at hl 0 rfl) ?_
    refine lv_aload_n E.1 E.2.1 dX6_driveAway_41 rfl (lv_at hl 1 rfl) ?_
    refine lv_iload_n E.1 E.2.1 dX6_driveAway_42 rfl (lv_at hl 2 rfl) ?_
    refine x_callp E h hl 0 hf (fun r0 hr => c_X6_ownsEnough l D cy s00 _ S5 p0 r0 hr) m_X6_ownsEnough rfl rfl kw642 rfl rfl (Nat.le_of_ble_eq_true rfl) ⟨by decide, by decide⟩ ⟨Nat.zero_le _, Nat.zero_le _⟩ dX6_driveAway_43 (fun v19 H locs hf h => ?_)
    refine x_br hf (lv_if_eq (tgt := 53) E.1 E.2.1 dX6_driveAway_46 (by decide)) (fun hf => ?_) (fun hf => ?_)
    · refine lv_iload_n E.1 E.2.1 dX6_driveAway_53 rfl (lv_at hl 2 rfl) ?_
      refine x_iast E h 2 hf rfl dX6_driveAway_54 (fun S20 H locs hf h => ?_)
      refine lv_aload_n E.1 E.2.1 dX6_driveAway_55 rfl (lv_at hl 1 rfl) ?_
      refine x_getr E h 0 10 8 rfl rfl rfl (by decide) xinX6 kw207 dX6_driveAway_56 ?_
      refine lv_iload_n E.1 E.2.1 dX6_driveAway_59 rfl (lv_at hl 3 rfl) ?_
      refine x_iald E h 8 hf rfl dX6_driveAway_60 (fun v22 hf => ?_)
      refine x_br hf (lv_if_le (tgt := 95) E.1 E.2.1 dX6_driveAway_61 (by decide)) (fun hf => ?_) (fun hf => ?_)
      · refine lv_aload_n E.1 E.2.1 dX6_driveAway_95 rfl (lv_at hl 1 rfl) ?_
        refine x_getr E h 0 2 2 rfl rfl rfl (by decide) xinX6 kw189 dX6_driveAway_96 ?_
        refine lv_iload_n E.1 E.2.1 dX6_driveAway_99 rfl (lv_at hl 0 rfl) ?_
        refine x_iald E h 2 hf rfl dX6_driveAway_100 (fun v23 hf => ?_)
        refine lv_iload_n E.1 E.2.1 dX6_driveAway_101 rfl (lv_at hl 2 rfl) ?_
        refine x_brn hf (lv_icmp_ne (tgt := 109) E.1 E.2.1 dX6_driveAway_102 (by decide)) (fun hf => ?_) (fun hf => ?_)
        · refine lv_iconst (v := 0) E.1 E.2.1 dX6_driveAway_109 (by decide) ?_
          exact x_zic E h (by decide) hf dX6_driveAway_110
        · refine lv_iconst (v := 1) E.1 E.2.1 dX6_driveAway_105 (by decide) ?_
          refine lv_goto (tgt := 110) E.1 E.2.1 dX6_driveAway_106 (by decide) ?_
          exact x_zic E h (by decide) hf dX6_driveAway_110
      · refine lv_aload_n E.1 E.2.1 dX6_driveAway_64 rfl (lv_at hl 1 rfl) ?_
        refine x_getr E h 0 10 8 rfl rfl rfl (by decide) xinX6 kw207 dX6_driveAway_65 ?_
        refine lv_iload_n E.1 E.2.1 dX6_driveAway_68 rfl (lv_at hl 2 rfl) ?_
        refine x_iald E h 8 hf rfl dX6_driveAway_69 (fun v24 hf => ?_)
        refine lv_bipush (v := 99) E.1 E.2.1 dX6_driveAway_70 (by decide) ?_
        refine x_br hf (lv_icmp_ge (tgt := 95) E.1 E.2.1 dX6_driveAway_72 (by decide)) (fun hf => ?_) (fun hf => ?_)
        · refine lv_aload_n E.1 E.2.1 dX6_driveAway_95 rfl (lv_at hl 1 rfl) ?_
          refine x_getr E h 0 2 2 rfl rfl rfl (by decide) xinX6 kw189 dX6_driveAway_96 ?_
          refine lv_iload_n E.1 E.2.1 dX6_driveAway_99 rfl (lv_at hl 0 rfl) ?_
          refine x_iald E h 2 hf rfl dX6_driveAway_100 (fun v25 hf => ?_)
          refine lv_iload_n E.1 E.2.1 dX6_driveAway_101 rfl (lv_at hl 2 rfl) ?_
          refine x_brn hf (lv_icmp_ne (tgt := 109) E.1 E.2.1 dX6_driveAway_102 (by decide)) (fun hf => ?_) (fun hf => ?_)
          · refine lv_iconst (v := 0) E.1 E.2.1 dX6_driveAway_109 (by decide) ?_
            exact x_zic E h (by decide) hf dX6_driveAway_110
          · refine lv_iconst (v := 1) E.1 E.2.1 dX6_driveAway_105 (by decide) ?_
            refine lv_goto (tgt := 110) E.1 E.2.1 dX6_driveAway_106 (by decide) ?_
            exact x_zic E h (by decide) hf dX6_driveAway_110
        · refine lv_aload_n E.1 E.2.1 dX6_driveAway_75 rfl (lv_at hl 1 rfl) ?_
          refine x_getr E h 0 10 8 rfl rfl rfl (by decide) xinX6 kw207 dX6_driveAway_76 ?_
          refine lv_iload_n E.1 E.2.1 dX6_driveAway_79 rfl (lv_at hl 3 rfl) ?_
          refine lv_dup2_11 E.1 E.2.1 dX6_driveAway_80 rfl rfl ?_
          refine x_iald E h 8 hf rfl dX6_driveAway_81 (fun v26 hf => ?_)
          refine lv_iconst (v := 1) E.1 E.2.1 dX6_driveAway_82 (by decide) ?_
          refine lv_isub E.1 E.2.1 dX6_driveAway_83 ?_
          refine x_iast E h 8 hf rfl dX6_driveAway_84 (fun S27 H locs hf h => ?_)
          refine lv_aload_n E.1 E.2.1 dX6_driveAway_85 rfl (lv_at hl 1 rfl) ?_
          refine x_getr E h 0 10 8 rfl rfl rfl (by decide) xinX6 kw207 dX6_driveAway_86 ?_
          refine lv_iload_n E.1 E.2.1 dX6_driveAway_89 rfl (lv_at hl 2 rfl) ?_
          refine lv_dup2_11 E.1 E.2.1 dX6_driveAway_90 rfl rfl ?_
          refine x_iald E h 8 hf rfl dX6_driveAway_91 (fun v29 hf => ?_)
          refine lv_iconst (v := 1) E.1 E.2.1 dX6_driveAway_92 (by decide) ?_
          refine lv_iadd E.1 E.2.1 dX6_driveAway_93 ?_
          refine x_iast E h 8 hf rfl dX6_driveAway_94 (fun S30 H locs hf h => ?_)
          refine lv_aload_n E.1 E.2.1 dX6_driveAway_95 rfl (lv_at hl 1 rfl) ?_
          refine x_getr E h 0 2 2 rfl rfl rfl (by decide) xinX6 kw189 dX6_driveAway_96 ?_
          refine lv_iload_n E.1 E.2.1 dX6_driveAway_99 rfl (lv_at hl 0 rfl) ?_
          refine x_iald E h 2 hf rfl dX6_driveAway_100 (fun v32 hf => ?_)
          refine lv_iload_n E.1 E.2.1 dX6_driveAway_101 rfl (lv_at hl 2 rfl) ?_
          refine x_brn hf (lv_icmp_ne (tgt := 109) E.1 E.2.1 dX6_driveAway_102 (by decide)) (fun hf => ?_) (fun hf => ?_)
          · refine lv_iconst (v := 0) E.1 E.2.1 dX6_driveAway_109 (by decide) ?_
            exact x_zic E h (by decide) hf dX6_driveAway_110
          · refine lv_iconst (v := 1) E.1 E.2.1 dX6_driveAway_105 (by decide) ?_
            refine lv_goto (tgt := 110) E.1 E.2.1 dX6_driveAway_106 (by decide) ?_
            exact x_zic E h (by decide) hf dX6_driveAway_110
    · refine lv_iconst (v := (-1)) E.1 E.2.1 dX6_driveAway_49 (by decide) ?_
      refine lv_goto (tgt := 54) E.1 E.2.1 dX6_driveAway_50 (by decide) ?_
      refine x_iast E h 2 hf rfl dX6_driveAway_54 (fun S33 H locs hf h => ?_)
      refine lv_aload_n E.1 E.2.1 dX6_driveAway_55 rfl (lv_at hl 1 rfl) ?_
      refine x_getr E h 0 10 8 rfl rfl rfl (by decide) xinX6 kw207 dX6_driveAway_56 ?_
      refine lv_iload_n E.1 E.2.1 dX6_driveAway_59 rfl (lv_at hl 3 rfl) ?_
      refine x_iald E h 8 hf rfl dX6_driveAway_60 (fun v35 hf => ?_)
      refine x_br hf (lv_if_le (tgt := 95) E.1 E.2.1 dX6_driveAway_61 (by decide)) (fun hf => ?_) (fun hf => ?_)
      · refine lv_aload_n E.1 E.2.1 dX6_driveAway_95 rfl (lv_at hl 1 rfl) ?_
        refine x_getr E h 0 2 2 rfl rfl rfl (by decide) xinX6 kw189 dX6_driveAway_96 ?_
        refine lv_iload_n E.1 E.2.1 dX6_driveAway_99 rfl (lv_at hl 0 rfl) ?_
        refine x_iald E h 2 hf rfl dX6_driveAway_100 (fun v36 hf => ?_)
        refine lv_iload_n E.1 E.2.1 dX6_driveAway_101 rfl (lv_at hl 2 rfl) ?_
        refine x_brn hf (lv_icmp_ne (tgt := 109) E.1 E.2.1 dX6_driveAway_102 (by decide)) (fun hf => ?_) (fun hf => ?_)
        · refine lv_iconst (v := 0) E.1 E.2.1 dX6_driveAway_109 (by decide) ?_
          exact x_zic E h (by decide) hf dX6_driveAway_110
        · refine lv_iconst (v := 1) E.1 E.2.1 dX6_driveAway_105 (by decide) ?_
          refine lv_goto (tgt := 110) E.1 E.2.1 dX6_driveAway_106 (by decide) ?_
          exact x_zic E h (by decide) hf dX6_driveAway_110
      · refine lv_aload_n E.1 E.2.1 dX6_driveAway_64 rfl (lv_at hl 1 rfl) ?_
        refine x_getr E h 0 10 8 rfl rfl rfl (by decide) xinX6 kw207 dX6_driveAway_65 ?_
        refine lv_iload_n E.1 E.2.1 dX6_driveAway_68 rfl (lv_at hl 2 rfl) ?_
        refine x_iald E h 8 hf rfl dX6_driveAway_69 (fun v37 hf => ?_)
        refine lv_bipush (v := 99) E.1 E.2.1 dX6_driveAway_70 (by decide) ?_
        refine x_br hf (lv_icmp_ge (tgt := 95) E.1 E.2.1 dX6_driveAway_72 (by decide)) (fun hf => ?_) (fun hf => ?_)
        · refine lv_aload_n E.1 E.2.1 dX6_driveAway_95 rfl (lv_at hl 1 rfl) ?_
          refine x_getr E h 0 2 2 rfl rfl rfl (by decide) xinX6 kw189 dX6_driveAway_96 ?_
          refine lv_iload_n E.1 E.2.1 dX6_driveAway_99 rfl (lv_at hl 0 rfl) ?_
          refine x_iald E h 2 hf rfl dX6_driveAway_100 (fun v38 hf => ?_)
          refine lv_iload_n E.1 E.2.1 dX6_driveAway_101 rfl (lv_at hl 2 rfl) ?_
          refine x_brn hf (lv_icmp_ne (tgt := 109) E.1 E.2.1 dX6_driveAway_102 (by decide)) (fun hf => ?_) (fun hf => ?_)
          · refine lv_iconst (v := 0) E.1 E.2.1 dX6_driveAway_109 (by decide) ?_
            exact x_zic E h (by decide) hf dX6_driveAway_110
          · refine lv_iconst (v := 1) E.1 E.2.1 dX6_driveAway_105 (by decide) ?_
            refine lv_goto (tgt := 110) E.1 E.2.1 dX6_driveAway_106 (by decide) ?_
            exact x_zic E h (by decide) hf dX6_driveAway_110
        · refine lv_aload_n E.1 E.2.1 dX6_driveAway_75 rfl (lv_at hl 1 rfl) ?_
          refine x_getr E h 0 10 8 rfl rfl rfl (by decide) xinX6 kw207 dX6_driveAway_76 ?_
          refine lv_iload_n E.1 E.2.1 dX6_driveAway_79 rfl (lv_at hl 3 rfl) ?_
          refine lv_dup2_11 E.1 E.2.1 dX6_driveAway_80 rfl rfl ?_
          refine x_iald E h 8 hf rfl dX6_driveAway_81 (fun v39 hf => ?_)
          refine lv_iconst (v := 1) E.1 E.2.1 dX6_driveAway_82 (by decide) ?_
          refine lv_isub E.1 E.2.1 dX6_driveAway_83 ?_
          refine x_iast E h 8 hf rfl dX6_driveAway_84 (fun S40 H locs hf h => ?_)
          refine lv_aload_n E.1 E.2.1 dX6_driveAway_85 rfl (lv_at hl 1 rfl) ?_
          refine x_getr E h 0 10 8 rfl rfl rfl (by decide) xinX6 kw207 dX6_driveAway_86 ?_
          refine lv_iload_n E.1 E.2.1 dX6_driveAway_89 rfl (lv_at hl 2 rfl) ?_
          refine lv_dup2_11 E.1 E.2.1 dX6_driveAway_90 rfl rfl ?_
          refine x_iald E h 8 hf rfl dX6_driveAway_91 (fun v42 hf => ?_)
          refine lv_iconst (v := 1) E.1 E.2.1 dX6_driveAway_92 (by decide) ?_
          refine lv_iadd E.1 E.2.1 dX6_driveAway_93 ?_
          refine x_iast E h 8 hf rfl dX6_driveAway_94 (fun S43 H locs hf h => ?_)
          refine lv_aload_n E.1 E.2.1 dX6_driveAway_95 rfl (lv_at hl 1 rfl) ?_
          refine x_getr E h 0 2 2 rfl rfl rfl (by decide) xinX6 kw189 dX6_driveAway_96 ?_
          refine lv_iload_n E.1 E.2.1 dX6_driveAway_99 rfl (lv_at hl 0 rfl) ?_
          refine x_iald E h 2 hf rfl dX6_driveAway_100 (fun v45 hf => ?_)
          refine lv_iload_n E.1 E.2.1 dX6_driveAway_101 rfl (lv_at hl 2 rfl) ?_
          refine x_brn hf (lv_icmp_ne (tgt := 109) E.1 E.2.1 dX6_driveAway_102 (by decide)) (fun hf => ?_) (fun hf => ?_)
          · refine lv_iconst (v := 0) E.1 E.2.1 dX6_driveAway_109 (by decide) ?_
            exact x_zic E h (by decide) hf dX6_driveAway_110
          · refine lv_iconst (v := 1) E.1 E.2.1 dX6_driveAway_105 (by decide) ?_
            refine lv_goto (tgt := 110) E.1 E.2.1 dX6_driveAway_106 (by decide) ?_
            exact x_zic E h (by decide) hf dX6_driveAway_110
set_option maxHeartbeats 4000000 in
set_option maxRecDepth 100000 in
theorem c_X6_agreeTruce (l : Launch) (D : va_G) (cy : Nat → ClassId) (s00 : State) (ad : Nat → Nat) (S : XS) (p0 p1 p2 p3 : Int32) (r9 : Int32) (S9 : XS) (hf : f_X6_agreeTruce S p0 p1 p2 p3 = some (r9, S9)) : XI l yX6_agreeTruce cX6_agreeTruce 6 (some .int) 0 D cy s00 shRoof ad S [.ref (ad 0), .int p0, .int p1, .int p2, .int p3] r9 S9 := by
  refine XI.of (by decide) [(0, .ref (ad 0)), (1, .int p0), (2, .int p1), (3, .int p2), (4, .int p3)] rfl (Nat.le_of_ble_eq_true rfl) (fun p e s m args below meth c A ls E h hl => ?_)
  unfold f_X6_agreeTruce at hf
  refine lv_aload_n E.1 E.2.1 dX6_agreeTruce_0 rfl (lv_at hl 0 rfl) ?_
  refine x_getr E h 0 10 8 rfl rfl rfl (by decide) xinX6 kw207 dX6_agreeTruce_1 ?_
  refine lv_iload_n E.1 E.2.1 dX6_agreeTruce_4 rfl (lv_at hl 1 rfl) ?_
  refine lv_dup2_11 E.1 E.2.1 dX6_agreeTruce_5 rfl rfl ?_
  refine x_iald E h 8 hf rfl dX6_agreeTruce_6 (fun v1 hf => ?_)
  refine lv_iload_n E.1 E.2.1 dX6_agreeTruce_7 rfl (lv_at hl 3 rfl) ?_
  refine lv_isub E.1 E.2.1 dX6_agreeTruce_8 ?_
  refine x_iast E h 8 hf rfl dX6_agreeTruce_9 (fun S2 H locs hf h => ?_)
  refine lv_aload_n E.1 E.2.1 dX6_agreeTruce_10 rfl (lv_at hl 0 rfl) ?_
  refine x_getr E h 0 10 8 rfl rfl rfl (by decide) xinX6 kw207 dX6_agreeTruce_11 ?_
  refine lv_iload_n E.1 E.2.1 dX6_agreeTruce_14 rfl (lv_at hl 2 rfl) ?_
  refine lv_dup2_11 E.1 E.2.1 dX6_agreeTruce_15 rfl rfl ?_
  refine x_iald E h 8 hf rfl dX6_agreeTruce_16 (fun v4 hf => ?_)
  refine lv_iload_n E.1 E.2.1 dX6_agreeTruce_17 rfl (lv_at hl 3 rfl) ?_
  refine lv_iadd E.1 E.2.1 dX6_agreeTruce_18 ?_
  refine x_iast E h 8 hf rfl dX6_agreeTruce_19 (fun S5 H locs hf h => ?_)
  refine lv_aload_n E.1 E.2.1 dX6_agreeTruce_20 rfl (lv_at hl 0 rfl) ?_
  refine x_get E h 0 13 rfl rfl rfl (by decide) xinX6 kw212 dX6_agreeTruce_21 ?_
  refine lv_iload E.1 E.2.1 dX6_agreeTruce_24 (lv_at hl 4 rfl) ?_
  refine lv_iadd E.1 E.2.1 dX6_agreeTruce_26 ?_
  refine x_nm hf (fun v7 hf => ?_)
  refine lv_istore (lv' := [(5, .int v7), (0, .ref (ad 0)), (1, .int p0), (2, .int p1), (3, .int p2), (4, .int p3)]) E.1 E.2.1 dX6_agreeTruce_27 hl (by decide) rfl (fun ls hl => ?_)
  refine lv_aload_n E.1 E.2.1 dX6_agreeTruce_29 rfl (lv_at hl 1 rfl) ?_
  refine x_getr E h 0 12 10 rfl rfl rfl (by decide) xinX6 kw211 dX6_agreeTruce_30 ?_
  refine lv_iload_n E.1 E.2.1 dX6_agreeTruce_33 rfl (lv_at hl 2 rfl) ?_
  refine lv_bipush (v := 8) E.1 E.2.1 dX6_agreeTruce_34 (by decide) ?_
  refine lv_imul E.1 E.2.1 dX6_agreeTruce_36 ?_
  refine lv_iload_n E.1 E.2.1 dX6_agreeTruce_37 rfl (lv_at hl 3 rfl) ?_
  refine lv_iadd E.1 E.2.1 dX6_agreeTruce_38 ?_
  refine lv_iload E.1 E.2.1 dX6_agreeTruce_39 (lv_at hl 0 rfl) ?_
  refine x_iast E h 10 hf rfl dX6_agreeTruce_41 (fun S8 H locs hf h => ?_)
  refine lv_aload_n E.1 E.2.1 dX6_agreeTruce_42 rfl (lv_at hl 1 rfl) ?_
  refine x_getr E h 0 12 10 rfl rfl rfl (by decide) xinX6 kw211 dX6_agreeTruce_43 ?_
  refine lv_iload_n E.1 E.2.1 dX6_agreeTruce_46 rfl (lv_at hl 3 rfl) ?_
  refine lv_bipush (v := 8) E.1 E.2.1 dX6_agreeTruce_47 (by decide) ?_
  refine lv_imul E.1 E.2.1 dX6_agreeTruce_49 ?_
  refine lv_iload_n E.1 E.2.1 dX6_agreeTruce_50 rfl (lv_at hl 2 rfl) ?_
  refine lv_iadd E.1 E.2.1 dX6_agreeTruce_51 ?_
  refine lv_iload E.1 E.2.1 dX6_agreeTruce_52 (lv_at hl 0 rfl) ?_
  refine x_iast E h 10 hf rfl dX6_agreeTruce_54 (fun S10 H locs hf h => ?_)
  refine lv_iload E.1 E.2.1 dX6_agreeTruce_55 (lv_at hl 0 rfl) ?_
  exact x_iret E h hf dX6_agreeTruce_57
set_option maxHeartbeats 4000000 in
set_option maxRecDepth 100000 in
theorem c_X6_takeVote (l : Launch) (D : va_G) (cy : Nat → ClassId) (s00 : State) (ad : Nat → Nat) (S : XS) (p0 p1 : Int32) (r9 : Int32) (S9 : XS) (hf : f_X6_takeVote S p0 p1 = some (r9, S9)) : XI l yX6_takeVote cX6_takeVote 7 (some .boolean) 2 D cy s00 shRoof ad S [.ref (ad 0), .int p0, .int p1] r9 S9 := by
  refine XI.of (by decide) [(0, .ref (ad 0)), (1, .int p0), (2, .int p1)] rfl (Nat.le_of_ble_eq_true rfl) (fun p e s m args below meth c A ls E h hl => ?_)
  unfold f_X6_takeVote at hf
  refine lv_aload_n E.1 E.2.1 dX6_takeVote_0 rfl (lv_at hl 0 rfl) ?_
  refine x_getr E h 0 16 11 rfl rfl rfl (by decide) xinX6 kw216 dX6_takeVote_1 ?_
  refine x_getr E h 11 3 12 rfl rfl rfl (by decide) xinX3 kw170 dX6_takeVote_4 ?_
  refine lv_iload_n E.1 E.2.1 dX6_takeVote_7 rfl (lv_at hl 1 rfl) ?_
  refine lv_iload_n E.1 E.2.1 dX6_takeVote_8 rfl (lv_at hl 2 rfl) ?_
  refine x_br hf (lv_if_eq (tgt := 16) E.1 E.2.1 dX6_takeVote_9 (by decide)) (fun hf => ?_) (fun hf => ?_)
  · refine lv_iconst (v := 2) E.1 E.2.1 dX6_takeVote_16 (by decide) ?_
    refine x_iast E h 12 hf rfl dX6_takeVote_17 (fun S1 H locs hf h => ?_)
    refine lv_aload_n E.1 E.2.1 dX6_takeVote_18 rfl (lv_at hl 0 rfl) ?_
    refine x_getr E h 0 16 11 rfl rfl rfl (by decide) xinX6 kw216 dX6_takeVote_19 ?_
    refine lv_iconst (v := 1) E.1 E.2.1 dX6_takeVote_22 (by decide) ?_
    refine x_callop E h hl 11 11 hf (xsub_of rfl) (fun r0 hr => c_X3_votes l D cy s00 _ (xs 11 S1) 1 r0 hr) m_X3_votes rfl rfl kw705 rfl rfl (Nat.le_of_ble_eq_true rfl) ⟨by decide, by decide⟩ ⟨Nat.zero_le _, Nat.zero_le _⟩ dX6_takeVote_23 (fun v3 H locs hf h => ?_)
    refine lv_istore_n (lv' := [(3, .int v3), (0, .ref (ad 0)), (1, .int p0), (2, .int p1)]) E.1 E.2.1 dX6_takeVote_26 rfl hl (by decide) rfl (fun ls hl => ?_)
    refine lv_aload_n E.1 E.2.1 dX6_takeVote_27 rfl (lv_at hl 1 rfl) ?_
    refine x_getr E h 0 16 11 rfl rfl rfl (by decide) xinX6 kw216 dX6_takeVote_28 ?_
    refine lv_iconst (v := 2) E.1 E.2.1 dX6_takeVote_31 (by decide) ?_
    refine x_callop E h hl 11 11 hf (xsub_of rfl) (fun r0 hr => c_X3_votes l D cy s00 _ (xs 11 S1) 2 r0 hr) m_X3_votes rfl rfl kw705 rfl rfl (Nat.le_of_ble_eq_true rfl) ⟨by decide, by decide⟩ ⟨Nat.zero_le _, Nat.zero_le _⟩ dX6_takeVote_32 (fun v4 H locs hf h => ?_)
    refine lv_istore (lv' := [(4, .int v4), (3, .int v3), (0, .ref (ad 0)), (1, .int p0), (2, .int p1)]) E.1 E.2.1 dX6_takeVote_35 hl (by decide) rfl (fun ls hl => ?_)
    refine lv_iload_n E.1 E.2.1 dX6_takeVote_37 rfl (lv_at hl 1 rfl) ?_
    refine lv_iload E.1 E.2.1 dX6_takeVote_38 (lv_at hl 0 rfl) ?_
    refine lv_iadd E.1 E.2.1 dX6_takeVote_40 ?_
    refine lv_aload_n E.1 E.2.1 dX6_takeVote_41 rfl (lv_at hl 2 rfl) ?_
    refine x_get E h 0 7 rfl rfl rfl (by decide) xinX6 kw202 dX6_takeVote_42 ?_
    refine x_br hf (lv_icmp_ge (tgt := 50) E.1 E.2.1 dX6_takeVote_45 (by decide)) (fun hf => ?_) (fun hf => ?_)
    · refine lv_aload_n E.1 E.2.1 dX6_takeVote_50 rfl (lv_at hl 2 rfl) ?_
      refine x_callp E h hl 0 hf (fun r0 hr => c_X6_warmestSeat l D cy s00 _ S1  r0 hr) m_X6_warmestSeat rfl rfl kw709 rfl rfl (Nat.le_of_ble_eq_true rfl) ⟨by decide, by decide⟩ ⟨Nat.zero_le _, Nat.zero_le _⟩ dX6_takeVote_51 (fun v5 H locs hf h => ?_)
      refine lv_istore (lv' := [(5, .int v5), (4, .int v4), (3, .int v3), (0, .ref (ad 0)), (1, .int p0), (2, .int p1)]) E.1 E.2.1 dX6_takeVote_54 hl (by decide) rfl (fun ls hl => ?_)
      refine lv_iload_n E.1 E.2.1 dX6_takeVote_56 rfl (lv_at hl 2 rfl) ?_
      refine lv_iload E.1 E.2.1 dX6_takeVote_57 (lv_at hl 1 rfl) ?_
      refine x_br hf (lv_icmp_le (tgt := 81) E.1 E.2.1 dX6_takeVote_59 (by decide)) (fun hf => ?_) (fun hf => ?_)
      · refine lv_iconst (v := 0) E.1 E.2.1 dX6_takeVote_81 (by decide) ?_
        refine lv_istore (lv' := [(6, .int 0), (5, .int v5), (4, .int v4), (3, .int v3), (0, .ref (ad 0)), (1, .int p0), (2, .int p1)]) E.1 E.2.1 dX6_takeVote_82 hl (by decide) rfl (fun ls hl => ?_)
        refine lv_iload E.1 E.2.1 dX6_takeVote_84 (lv_at hl 0 rfl) ?_
        refine lv_if_eq (tgt := 110) E.1 E.2.1 dX6_takeVote_86 (by decide) (fun _ => ?_) (fun c9 => absurd c9 (by decide))
        refine lv_aload_n E.1 E.2.1 dX6_takeVote_110 rfl (lv_at hl 4 rfl) ?_
        refine x_getr E h 0 16 11 rfl rfl rfl (by decide) xinX6 kw216 dX6_takeVote_111 ?_
        refine x_callov E h hl 11 11 hf (xsub_of rfl) (fun r0 hr => c_X3_leave l D cy s00 _ (xs 11 S1)  r0 hr) m_X3_leave rfl rfl kw477 rfl rfl (Nat.le_of_ble_eq_true rfl) ⟨by decide, by decide⟩ ⟨Nat.zero_le _, Nat.zero_le _⟩ dX6_takeVote_114 (fun S6 H locs hf h => ?_)
        refine lv_iload E.1 E.2.1 dX6_takeVote_117 (lv_at hl 0 rfl) ?_
        exact x_zic E h (by decide) hf dX6_takeVote_119
      · refine lv_aload_n E.1 E.2.1 dX6_takeVote_62 rfl (lv_at hl 3 rfl) ?_
        refine x_get E h 0 7 rfl rfl rfl (by decide) xinX6 kw202 dX6_takeVote_63 ?_
        refine lv_bipush (v := 8) E.1 E.2.1 dX6_takeVote_66 (by decide) ?_
        refine x_br hf (lv_icmp_ge (tgt := 81) E.1 E.2.1 dX6_takeVote_68 (by decide)) (fun hf => ?_) (fun hf => ?_)
        · refine lv_iconst (v := 0) E.1 E.2.1 dX6_takeVote_81 (by decide) ?_
          refine lv_istore (lv' := [(6, .int 0), (5, .int v5), (4, .int v4), (3, .int v3), (0, .ref (ad 0)), (1, .int p0), (2, .int p1)]) E.1 E.2.1 dX6_takeVote_82 hl (by decide) rfl (fun ls hl => ?_)
          refine lv_iload E.1 E.2.1 dX6_takeVote_84 (lv_at hl 0 rfl) ?_
          refine lv_if_eq (tgt := 110) E.1 E.2.1 dX6_takeVote_86 (by decide) (fun _ => ?_) (fun c9 => absurd c9 (by decide))
          refine lv_aload_n E.1 E.2.1 dX6_takeVote_110 rfl (lv_at hl 4 rfl) ?_
          refine x_getr E h 0 16 11 rfl rfl rfl (by decide) xinX6 kw216 dX6_takeVote_111 ?_
          refine x_callov E h hl 11 11 hf (xsub_of rfl) (fun r0 hr => c_X3_leave l D cy s00 _ (xs 11 S1)  r0 hr) m_X3_leave rfl rfl kw477 rfl rfl (Nat.le_of_ble_eq_true rfl) ⟨by decide, by decide⟩ ⟨Nat.zero_le _, Nat.zero_le _⟩ dX6_takeVote_114 (fun S7 H locs hf h => ?_)
          refine lv_iload E.1 E.2.1 dX6_takeVote_117 (lv_at hl 0 rfl) ?_
          exact x_zic E h (by decide) hf dX6_takeVote_119
        · refine lv_iload E.1 E.2.1 dX6_takeVote_71 (lv_at hl 0 rfl) ?_
          refine lv_iconst (v := (-1)) E.1 E.2.1 dX6_takeVote_73 (by decide) ?_
          refine x_br hf (lv_icmp_eq (tgt := 81) E.1 E.2.1 dX6_takeVote_74 (by decide)) (fun hf => ?_) (fun hf => ?_)
          · refine lv_iconst (v := 0) E.1 E.2.1 dX6_takeVote_81 (by decide) ?_
            refine lv_istore (lv' := [(6, .int 0), (5, .int v5), (4, .int v4), (3, .int v3), (0, .ref (ad 0)), (1, .int p0), (2, .int p1)]) E.1 E.2.1 dX6_takeVote_82 hl (by decide) rfl (fun ls hl => ?_)
            refine lv_iload E.1 E.2.1 dX6_takeVote_84 (lv_at hl 0 rfl) ?_
            refine lv_if_eq (tgt := 110) E.1 E.2.1 dX6_takeVote_86 (by decide) (fun _ => ?_) (fun c9 => absurd c9 (by decide))
            refine lv_aload_n E.1 E.2.1 dX6_takeVote_110 rfl (lv_at hl 4 rfl) ?_
            refine x_getr E h 0 16 11 rfl rfl rfl (by decide) xinX6 kw216 dX6_takeVote_111 ?_
            refine x_callov E h hl 11 11 hf (xsub_of rfl) (fun r0 hr => c_X3_leave l D cy s00 _ (xs 11 S1)  r0 hr) m_X3_leave rfl rfl kw477 rfl rfl (Nat.le_of_ble_eq_true rfl) ⟨by decide, by decide⟩ ⟨Nat.zero_le _, Nat.zero_le _⟩ dX6_takeVote_114 (fun S8 H locs hf h => ?_)
            refine lv_iload E.1 E.2.1 dX6_takeVote_117 (lv_at hl 0 rfl) ?_
            exact x_zic E h (by decide) hf dX6_takeVote_119
          · refine lv_iconst (v := 1) E.1 E.2.1 dX6_takeVote_77 (by decide) ?_
            refine lv_goto (tgt := 82) E.1 E.2.1 dX6_takeVote_78 (by decide) ?_
            refine lv_istore (lv' := [(6, .int 1), (5, .int v5), (4, .int v4), (3, .int v3), (0, .ref (ad 0)), (1, .int p0), (2, .int p1)]) E.1 E.2.1 dX6_takeVote_82 hl (by decide) rfl (fun ls hl => ?_)
            refine lv_iload E.1 E.2.1 dX6_takeVote_84 (lv_at hl 0 rfl) ?_
            refine lv_if_eq (tgt := 110) E.1 E.2.1 dX6_takeVote_86 (by decide) (fun c9 => absurd c9 (by decide)) (fun _ => ?_)
            refine lv_aload_n E.1 E.2.1 dX6_takeVote_89 rfl (lv_at hl 4 rfl) ?_
            refine lv_iload E.1 E.2.1 dX6_takeVote_90 (lv_at hl 1 rfl) ?_
            refine lv_aload_n E.1 E.2.1 dX6_takeVote_92 rfl (lv_at hl 4 rfl) ?_
            refine x_getr E h 0 16 11 rfl rfl rfl (by decide) xinX6 kw216 dX6_takeVote_93 ?_
            refine x_get E h 11 1 rfl rfl rfl (by decide) xinX3 kw166 dX6_takeVote_96 ?_
            refine lv_aload_n E.1 E.2.1 dX6_takeVote_99 rfl (lv_at hl 4 rfl) ?_
            refine x_getr E h 0 16 11 rfl rfl rfl (by decide) xinX6 kw216 dX6_takeVote_100 ?_
            refine x_get E h 11 2 rfl rfl rfl (by decide) xinX3 kw168 dX6_takeVote_103 ?_
            refine x_calli E h hl 0 hf (fun r0 Sq0 hr => c_X6_putCat l D cy s00 _ S1 v5 (S1 11 1) (S1 11 2) r0 Sq0 hr) m_X6_putCat rfl rfl kw713 rfl rfl (Nat.le_of_ble_eq_true rfl) ⟨by decide, by decide⟩ ⟨Nat.zero_le _, Nat.zero_le _⟩ dX6_takeVote_106 (fun v9 S10 H locs hf h => ?_)
            refine lv_pop E.1 E.2.1 dX6_takeVote_109 rfl ?_
            refine lv_aload_n E.1 E.2.1 dX6_takeVote_110 rfl (lv_at hl 4 rfl) ?_
            refine x_getr E h 0 16 11 rfl rfl rfl (by decide) xinX6 kw216 dX6_takeVote_111 ?_
            refine x_callov E h hl 11 11 hf (xsub_of rfl) (fun r0 hr => c_X3_leave l D cy s00 _ (xs 11 S10)  r0 hr) m_X3_leave rfl rfl kw477 rfl rfl (Nat.le_of_ble_eq_true rfl) ⟨by decide, by decide⟩ ⟨Nat.zero_le _, Nat.zero_le _⟩ dX6_takeVote_114 (fun S11 H locs hf h => ?_)
            refine lv_iload E.1 E.2.1 dX6_takeVote_117 (lv_at hl 0 rfl) ?_
            exact x_zic E h (by decide) hf dX6_takeVote_119
    · refine lv_iconst (v := 0) E.1 E.2.1 dX6_takeVote_48 (by decide) ?_
      exact x_zic E h (by decide) hf dX6_takeVote_49
  · refine lv_iconst (v := 1) E.1 E.2.1 dX6_takeVote_12 (by decide) ?_
    refine lv_goto (tgt := 17) E.1 E.2.1 dX6_takeVote_13 (by decide) ?_
    refine x_iast E h 12 hf rfl dX6_takeVote_17 (fun S12 H locs hf h => ?_)
    refine lv_aload_n E.1 E.2.1 dX6_takeVote_18 rfl (lv_at hl 0 rfl) ?_
    refine x_getr E h 0 16 11 rfl rfl rfl (by decide) xinX6 kw216 dX6_takeVote_19 ?_
    refine lv_iconst (v := 1) E.1 E.2.1 dX6_takeVote_22 (by decide) ?_
    refine x_callop E h hl 11 11 hf (xsub_of rfl) (fun r0 hr => c_X3_votes l D cy s00 _ (xs 11 S12) 1 r0 hr) m_X3_votes rfl rfl kw705 rfl rfl (Nat.le_of_ble_eq_true rfl) ⟨by decide, by decide⟩ ⟨Nat.zero_le _, Nat.zero_le _⟩ dX6_takeVote_23 (fun v14 H locs hf h => ?_)
    refine lv_istore_n (lv' := [(3, .int v14), (0, .ref (ad 0)), (1, .int p0), (2, .int p1)]) E.1 E.2.1 dX6_takeVote_26 rfl hl (by decide) rfl (fun ls hl => ?_)
    refine lv_aload_n E.1 E.2.1 dX6_takeVote_27 rfl (lv_at hl 1 rfl) ?_
    refine x_getr E h 0 16 11 rfl rfl rfl (by decide) xinX6 kw216 dX6_takeVote_28 ?_
    refine lv_iconst (v := 2) E.1 E.2.1 dX6_takeVote_31 (by decide) ?_
    refine x_callop E h hl 11 11 hf (xsub_of rfl) (fun r0 hr => c_X3_votes l D cy s00 _ (xs 11 S12) 2 r0 hr) m_X3_votes rfl rfl kw705 rfl rfl (Nat.le_of_ble_eq_true rfl) ⟨by decide, by decide⟩ ⟨Nat.zero_le _, Nat.zero_le _⟩ dX6_takeVote_32 (fun v15 H locs hf h => ?_)
    refine lv_istore (lv' := [(4, .int v15), (3, .int v14), (0, .ref (ad 0)), (1, .int p0), (2, .int p1)]) E.1 E.2.1 dX6_takeVote_35 hl (by decide) rfl (fun ls hl => ?_)
    refine lv_iload_n E.1 E.2.1 dX6_takeVote_37 rfl (lv_at hl 1 rfl) ?_
    refine lv_iload E.1 E.2.1 dX6_takeVote_38 (lv_at hl 0 rfl) ?_
    refine lv_iadd E.1 E.2.1 dX6_takeVote_40 ?_
    refine lv_aload_n E.1 E.2.1 dX6_takeVote_41 rfl (lv_at hl 2 rfl) ?_
    refine x_get E h 0 7 rfl rfl rfl (by decide) xinX6 kw202 dX6_takeVote_42 ?_
    refine x_br hf (lv_icmp_ge (tgt := 50) E.1 E.2.1 dX6_takeVote_45 (by decide)) (fun hf => ?_) (fun hf => ?_)
    · refine lv_aload_n E.1 E.2.1 dX6_takeVote_50 rfl (lv_at hl 2 rfl) ?_
      refine x_callp E h hl 0 hf (fun r0 hr => c_X6_warmestSeat l D cy s00 _ S12  r0 hr) m_X6_warmestSeat rfl rfl kw709 rfl rfl (Nat.le_of_ble_eq_true rfl) ⟨by decide, by decide⟩ ⟨Nat.zero_le _, Nat.zero_le _⟩ dX6_takeVote_51 (fun v16 H locs hf h => ?_)
      refine lv_istore (lv' := [(5, .int v16), (4, .int v15), (3, .int v14), (0, .ref (ad 0)), (1, .int p0), (2, .int p1)]) E.1 E.2.1 dX6_takeVote_54 hl (by decide) rfl (fun ls hl => ?_)
      refine lv_iload_n E.1 E.2.1 dX6_takeVote_56 rfl (lv_at hl 2 rfl) ?_
      refine lv_iload E.1 E.2.1 dX6_takeVote_57 (lv_at hl 1 rfl) ?_
      refine x_br hf (lv_icmp_le (tgt := 81) E.1 E.2.1 dX6_takeVote_59 (by decide)) (fun hf => ?_) (fun hf => ?_)
      · refine lv_iconst (v := 0) E.1 E.2.1 dX6_takeVote_81 (by decide) ?_
        refine lv_istore (lv' := [(6, .int 0), (5, .int v16), (4, .int v15), (3, .int v14), (0, .ref (ad 0)), (1, .int p0), (2, .int p1)]) E.1 E.2.1 dX6_takeVote_82 hl (by decide) rfl (fun ls hl => ?_)
        refine lv_iload E.1 E.2.1 dX6_takeVote_84 (lv_at hl 0 rfl) ?_
        refine lv_if_eq (tgt := 110) E.1 E.2.1 dX6_takeVote_86 (by decide) (fun _ => ?_) (fun c9 => absurd c9 (by decide))
        refine lv_aload_n E.1 E.2.1 dX6_takeVote_110 rfl (lv_at hl 4 rfl) ?_
        refine x_getr E h 0 16 11 rfl rfl rfl (by decide) xinX6 kw216 dX6_takeVote_111 ?_
        refine x_callov E h hl 11 11 hf (xsub_of rfl) (fun r0 hr => c_X3_leave l D cy s00 _ (xs 11 S12)  r0 hr) m_X3_leave rfl rfl kw477 rfl rfl (Nat.le_of_ble_eq_true rfl) ⟨by decide, by decide⟩ ⟨Nat.zero_le _, Nat.zero_le _⟩ dX6_takeVote_114 (fun S17 H locs hf h => ?_)
        refine lv_iload E.1 E.2.1 dX6_takeVote_117 (lv_at hl 0 rfl) ?_
        exact x_zic E h (by decide) hf dX6_takeVote_119
      · refine lv_aload_n E.1 E.2.1 dX6_takeVote_62 rfl (lv_at hl 3 rfl) ?_
        refine x_get E h 0 7 rfl rfl rfl (by decide) xinX6 kw202 dX6_takeVote_63 ?_
        refine lv_bipush (v := 8) E.1 E.2.1 dX6_takeVote_66 (by decide) ?_
        refine x_br hf (lv_icmp_ge (tgt := 81) E.1 E.2.1 dX6_takeVote_68 (by decide)) (fun hf => ?_) (fun hf => ?_)
        · refine lv_iconst (v := 0) E.1 E.2.1 dX6_takeVote_81 (by decide) ?_
          refine lv_istore (lv' := [(6, .int 0), (5, .int v16), (4, .int v15), (3, .int v14), (0, .ref (ad 0)), (1, .int p0), (2, .int p1)]) E.1 E.2.1 dX6_takeVote_82 hl (by decide) rfl (fun ls hl => ?_)
          refine lv_iload E.1 E.2.1 dX6_takeVote_84 (lv_at hl 0 rfl) ?_
          refine lv_if_eq (tgt := 110) E.1 E.2.1 dX6_takeVote_86 (by decide) (fun _ => ?_) (fun c9 => absurd c9 (by decide))
          refine lv_aload_n E.1 E.2.1 dX6_takeVote_110 rfl (lv_at hl 4 rfl) ?_
          refine x_getr E h 0 16 11 rfl rfl rfl (by decide) xinX6 kw216 dX6_takeVote_111 ?_
          refine x_callov E h hl 11 11 hf (xsub_of rfl) (fun r0 hr => c_X3_leave l D cy s00 _ (xs 11 S12)  r0 hr) m_X3_leave rfl rfl kw477 rfl rfl (Nat.le_of_ble_eq_true rfl) ⟨by decide, by decide⟩ ⟨Nat.zero_le _, Nat.zero_le _⟩ dX6_takeVote_114 (fun S18 H locs hf h => ?_)
          refine lv_iload E.1 E.2.1 dX6_takeVote_117 (lv_at hl 0 rfl) ?_
          exact x_zic E h (by decide) hf dX6_takeVote_119
        · refine lv_iload E.1 E.2.1 dX6_takeVote_71 (lv_at hl 0 rfl) ?_
          refine lv_iconst (v := (-1)) E.1 E.2.1 dX6_takeVote_73 (by decide) ?_
          refine x_br hf (lv_icmp_eq (tgt := 81) E.1 E.2.1 dX6_takeVote_74 (by decide)) (fun hf => ?_) (fun hf => ?_)
          · refine lv_iconst (v := 0) E.1 E.2.1 dX6_takeVote_81 (by decide) ?_
            refine lv_istore (lv' := [(6, .int 0), (5, .int v16), (4, .int v15), (3, .int v14), (0, .ref (ad 0)), (1, .int p0), (2, .int p1)]) E.1 E.2.1 dX6_takeVote_82 hl (by decide) rfl (fun ls hl => ?_)
            refine lv_iload E.1 E.2.1 dX6_takeVote_84 (lv_at hl 0 rfl) ?_
            refine lv_if_eq (tgt := 110) E.1 E.2.1 dX6_takeVote_86 (by decide) (fun _ => ?_) (fun c9 => absurd c9 (by decide))
            refine lv_aload_n E.1 E.2.1 dX6_takeVote_110 rfl (lv_at hl 4 rfl) ?_
            refine x_getr E h 0 16 11 rfl rfl rfl (by decide) xinX6 kw216 dX6_takeVote_111 ?_
            refine x_callov E h hl 11 11 hf (xsub_of rfl) (fun r0 hr => c_X3_leave l D cy s00 _ (xs 11 S12)  r0 hr) m_X3_leave rfl rfl kw477 rfl rfl (Nat.le_of_ble_eq_true rfl) ⟨by decide, by decide⟩ ⟨Nat.zero_le _, Nat.zero_le _⟩ dX6_takeVote_114 (fun S19 H locs hf h => ?_)
            refine lv_iload E.1 E.2.1 dX6_takeVote_117 (lv_at hl 0 rfl) ?_
            exact x_zic E h (by decide) hf dX6_takeVote_119
          · refine lv_iconst (v := 1) E.1 E.2.1 dX6_takeVote_77 (by decide) ?_
            refine lv_goto (tgt := 82) E.1 E.2.1 dX6_takeVote_78 (by decide) ?_
            refine lv_istore (lv' := [(6, .int 1), (5, .int v16), (4, .int v15), (3, .int v14), (0, .ref (ad 0)), (1, .int p0), (2, .int p1)]) E.1 E.2.1 dX6_takeVote_82 hl (by decide) rfl (fun ls hl => ?_)
            refine lv_iload E.1 E.2.1 dX6_takeVote_84 (lv_at hl 0 rfl) ?_
            refine lv_if_eq (tgt := 110) E.1 E.2.1 dX6_takeVote_86 (by decide) (fun c9 => absurd c9 (by decide)) (fun _ => ?_)
            refine lv_aload_n E.1 E.2.1 dX6_takeVote_89 rfl (lv_at hl 4 rfl) ?_
            refine lv_iload E.1 E.2.1 dX6_takeVote_90 (lv_at hl 1 rfl) ?_
            refine lv_aload_n E.1 E.2.1 dX6_takeVote_92 rfl (lv_at hl 4 rfl) ?_
            refine x_getr E h 0 16 11 rfl rfl rfl (by decide) xinX6 kw216 dX6_takeVote_93 ?_
            refine x_get E h 11 1 rfl rfl rfl (by decide) xinX3 kw166 dX6_takeVote_96 ?_
            refine lv_aload_n E.1 E.2.1 dX6_takeVote_99 rfl (lv_at hl 4 rfl) ?_
            refine x_getr E h 0 16 11 rfl rfl rfl (by decide) xinX6 kw216 dX6_takeVote_100 ?_
            refine x_get E h 11 2 rfl rfl rfl (by decide) xinX3 kw168 dX6_takeVote_103 ?_
            refine x_calli E h hl 0 hf (fun r0 Sq0 hr => c_X6_putCat l D cy s00 _ S12 v16 (S12 11 1) (S12 11 2) r0 Sq0 hr) m_X6_putCat rfl rfl kw713 rfl rfl (Nat.le_of_ble_eq_true rfl) ⟨by decide, by decide⟩ ⟨Nat.zero_le _, Nat.zero_le _⟩ dX6_takeVote_106 (fun v20 S21 H locs hf h => ?_)
            refine lv_pop E.1 E.2.1 dX6_takeVote_109 rfl ?_
            refine lv_aload_n E.1 E.2.1 dX6_takeVote_110 rfl (lv_at hl 4 rfl) ?_
            refine x_getr E h 0 16 11 rfl rfl rfl (by decide) xinX6 kw216 dX6_takeVote_111 ?_
            refine x_callov E h hl 11 11 hf (xsub_of rfl) (fun r0 hr => c_X3_leave l D cy s00 _ (xs 11 S21)  r0 hr) m_X3_leave rfl rfl kw477 rfl rfl (Nat.le_of_ble_eq_true rfl) ⟨by decide, by decide⟩ ⟨Nat.zero_le _, Nat.zero_le _⟩ dX6_takeVote_114 (fun S22 H locs hf h => ?_)
            refine lv_iload E.1 E.2.1 dX6_takeVote_117 (lv_at hl 0 rfl) ?_
            exact x_zic E h (by decide) hf dX6_takeVote_119
    · refine lv_iconst (v := 0) E.1 E.2.1 dX6_takeVote_48 (by decide) ?_
      exact x_zic E h (by decide) hf dX6_takeVote_49
set_option maxHeartbeats 4000000 in
set_option maxRecDepth 100000 in
theorem w_X6_choirAround_L4 {p : Program} {l : Launch} {e : Env} {s : State} {m : MethodId} {args : Array Value} {below : List Frame} {meth : Method} {c : Code} {D : va_G} {cy : Nat → ClassId} {s00 : State} {ad : Nat → Nat} {A : Nat → Prop}  {r9 : Int32} {u1 : Int32} {S : XS} {K : Int32 → Int32 → Option (Int32)} (E : XE p s m args meth c cX6_choirAround 6 RX6 (some .int) D cy s00) (hk : ∀ (m2 m3 : Int32) (H : Heap) (locs : List Loc) (ls : Array Slot), K m2 m3 = some r9 → XH D cy s00 shRoof ad S A s H locs → lv_has ls 6 [(0, .ref (ad 0)), (1, .int u1), (2, .int m2), (3, .int m3)] → W p l e (xrm 1) s m args below meth c H locs 0 0 (MQ below (xqi D cy shRoof ad r9 S A) args s 0 0 A) (F0 m 29 ls [])) :
    ∀ (n : Nat) (m2 m3 : Int32) (H : Heap) (locs : List Loc) (ls : Array Slot), f_X6_choirAround_L4 K S u1 n m2 m3 = some r9 → XH D cy s00 shRoof ad S A s H locs → lv_has ls 6 [(0, .ref (ad 0)), (1, .int u1), (2, .int m2), (3, .int m3)] → W p l e (xrm 1) s m args below meth c H locs 0 0 (MQ below (xqi D cy shRoof ad r9 S A) args s 0 0 A) (F0 m 4 ls []) := by
  intro n
  induction n with
  | zero => intro m2 m3 H locs ls hf; cases hf
  | succ n ih =>
    intro m2 m3 H locs ls hf h hl
    rw [f_X6_choirAround_L4] at hf
    refine lv_iload_n E.1 E.2.1 dX6_choirAround_4 rfl (lv_at hl 3 rfl) ?_
    refine lv_aload_n E.1 E.2.1 dX6_choirAround_5 rfl (lv_at hl 0 rfl) ?_
    refine x_get E h 0 7 rfl rfl rfl (by decide) xinX6 kw202 dX6_choirAround_6 ?_
    refine x_br hf (lv_icmp_ge (tgt := 29) E.1 E.2.1 dX6_choirAround_9 (by decide)) (fun hf => ?_) (fun hf => ?_)
    · exact hk _ _ _ _ _ hf h (lv_sub hl [0, 1, 2, 3] rfl)
    · refine lv_iload_n E.1 E.2.1 dX6_choirAround_12 rfl (lv_at hl 2 rfl) ?_
      refine lv_iconst (v := 1) E.1 E.2.1 dX6_choirAround_13 (by decide) ?_
      refine lv_aload_n E.1 E.2.1 dX6_choirAround_14 rfl (lv_at hl 0 rfl) ?_
      refine x_getr E h 0 11 9 rfl rfl rfl (by decide) xinX6 kw209 dX6_choirAround_15 ?_
      refine lv_iload_n E.1 E.2.1 dX6_choirAround_18 rfl (lv_at hl 3 rfl) ?_
      refine x_iald E h 9 hf rfl dX6_choirAround_19 (fun v1 hf => ?_)
      refine lv_ishl E.1 E.2.1 dX6_choirAround_20 ?_
      refine lv_ior E.1 E.2.1 dX6_choirAround_21 ?_
      refine x_nm hf (fun v2 hf => ?_)
      refine lv_istore_n (lv' := [(2, .int v2), (0, .ref (ad 0)), (1, .int u1), (3, .int m3)]) E.1 E.2.1 dX6_choirAround_22 rfl hl (by decide) rfl (fun ls hl => ?_)
      refine x_nv hf (fun v3 e9 hf => ?_)
      refine lv_iinc (v := v3) (lv' := [(3, .int v3), (2, .int v2), (0, .ref (ad 0)), (1, .int u1)]) E.1 E.2.1 dX6_choirAround_23 hl (k := 3) rfl (by rw [e9]; rfl) (by decide) rfl (fun ls hl => ?_)
      refine lv_goto (tgt := 4) E.1 E.2.1 dX6_choirAround_26 (by decide) ?_
      exact ih _ _ _ _ _ hf h (lv_sub hl [2, 3, 1, 0] rfl)
set_option maxHeartbeats 4000000 in
set_option maxRecDepth 100000 in
theorem w_X6_choirAround_L50 {p : Program} {l : Launch} {e : Env} {s : State} {m : MethodId} {args : Array Value} {below : List Frame} {meth : Method} {c : Code} {D : va_G} {cy : Nat → ClassId} {s00 : State} {ad : Nat → Nat} {A : Nat → Prop}  {r9 : Int32} {u1 : Int32} {u2 : Int32} {u3 : Int32} {S : XS} {K : Int32 → Int32 → Option (Int32)} (E : XE p s m args meth c cX6_choirAround 6 RX6 (some .int) D cy s00) (hk : ∀ (m4 m5 : Int32) (H : Heap) (locs : List Loc) (ls : Array Slot), K m4 m5 = some r9 → XH D cy s00 shRoof ad S A s H locs → lv_has ls 6 [(0, .ref (ad 0)), (1, .int u1), (2, .int u2), (3, .int u3), (4, .int m4), (5, .int m5)] → W p l e (xrm 1) s m args below meth c H locs 0 0 (MQ below (xqi D cy shRoof ad r9 S A) args s 0 0 A) (F0 m 88 ls [])) :
    ∀ (n : Nat) (m4 m5 : Int32) (H : Heap) (locs : List Loc) (ls : Array Slot), f_X6_choirAround_L50 K S u1 u2 u3 n m4 m5 = some r9 → XH D cy s00 shRoof ad S A s H locs → lv_has ls 6 [(0, .ref (ad 0)), (1, .int u1), (2, .int u2), (3, .int u3), (4, .int m4), (5, .int m5)] → W p l e (xrm 1) s m args below meth c H locs 0 0 (MQ below (xqi D cy shRoof ad r9 S A) args s 0 0 A) (F0 m 50 ls []) := by
  intro n
  induction n with
  | zero => intro m4 m5 H locs ls hf; cases hf
  | succ n ih =>
    intro m4 m5 H locs ls hf h hl
    rw [f_X6_choirAround_L50] at hf
    refine lv_iload E.1 E.2.1 dX6_choirAround_50 (lv_at hl 5 rfl) ?_
    refine lv_aload_n E.1 E.2.1 dX6_choirAround_52 rfl (lv_at hl 0 rfl) ?_
    refine x_get E h 0 7 rfl rfl rfl (by decide) xinX6 kw202 dX6_choirAround_53 ?_
    refine x_br hf (lv_icmp_ge (tgt := 88) E.1 E.2.1 dX6_choirAround_56 (by decide)) (fun hf => ?_) (fun hf => ?_)
    · exact hk _ _ _ _ _ hf h (lv_sub hl [0, 1, 2, 3, 4, 5] rfl)
    · refine lv_iload_n E.1 E.2.1 dX6_choirAround_59 rfl (lv_at hl 3 rfl) ?_
      refine lv_aload_n E.1 E.2.1 dX6_choirAround_60 rfl (lv_at hl 0 rfl) ?_
      refine x_getr E h 0 11 9 rfl rfl rfl (by decide) xinX6 kw209 dX6_choirAround_61 ?_
      refine lv_iload E.1 E.2.1 dX6_choirAround_64 (lv_at hl 5 rfl) ?_
      refine x_iald E h 9 hf rfl dX6_choirAround_66 (fun v8 hf => ?_)
      refine lv_ishr E.1 E.2.1 dX6_choirAround_67 ?_
      refine lv_iconst (v := 1) E.1 E.2.1 dX6_choirAround_68 (by decide) ?_
      refine lv_iand E.1 E.2.1 dX6_choirAround_69 ?_
      refine x_br hf (lv_if_eq (tgt := 82) E.1 E.2.1 dX6_choirAround_70 (by decide)) (fun hf => ?_) (fun hf => ?_)
      · refine x_nv hf (fun v9 e9 hf => ?_)
        refine lv_iinc (v := v9) (lv' := [(5, .int v9), (0, .ref (ad 0)), (1, .int u1), (2, .int u2), (3, .int u3), (4, .int m4)]) E.1 E.2.1 dX6_choirAround_82 hl (k := 5) rfl (by rw [e9]; rfl) (by decide) rfl (fun ls hl => ?_)
        refine lv_goto (tgt := 50) E.1 E.2.1 dX6_choirAround_85 (by decide) ?_
        exact ih _ _ _ _ _ hf h (lv_sub hl [1, 2, 3, 4, 5, 0] rfl)
      · refine lv_iload E.1 E.2.1 dX6_choirAround_73 (lv_at hl 4 rfl) ?_
        refine lv_iconst (v := 1) E.1 E.2.1 dX6_choirAround_75 (by decide) ?_
        refine lv_iload E.1 E.2.1 dX6_choirAround_76 (lv_at hl 5 rfl) ?_
        refine lv_ishl E.1 E.2.1 dX6_choirAround_78 ?_
        refine lv_ior E.1 E.2.1 dX6_choirAround_79 ?_
        refine x_nm hf (fun v10 hf => ?_)
        refine lv_istore (lv' := [(4, .int v10), (0, .ref (ad 0)), (1, .int u1), (2, .int u2), (3, .int u3), (5, .int m5)]) E.1 E.2.1 dX6_choirAround_80 hl (by decide) rfl (fun ls hl => ?_)
        refine x_nv hf (fun v11 e9 hf => ?_)
        refine lv_iinc (v := v11) (lv' := [(5, .int v11), (4, .int v10), (0, .ref (ad 0)), (1, .int u1), (2, .int u2), (3, .int u3)]) E.1 E.2.1 dX6_choirAround_82 hl (k := 5) rfl (by rw [e9]; rfl) (by decide) rfl (fun ls hl => ?_)
        refine lv_goto (tgt := 50) E.1 E.2.1 dX6_choirAround_85 (by decide) ?_
        exact ih _ _ _ _ _ hf h (lv_sub hl [2, 3, 4, 5, 1, 0] rfl)
set_option maxHeartbeats 4000000 in
set_option maxRecDepth 100000 in
theorem c_X6_choirAround (l : Launch) (D : va_G) (cy : Nat → ClassId) (s00 : State) (ad : Nat → Nat) (S : XS) (p0 : Int32) (r9 : Int32) (hf : f_X6_choirAround S p0 = some r9) : XI l yX6_choirAround cX6_choirAround 6 (some .int) 1 D cy s00 shRoof ad S [.ref (ad 0), .int p0] r9 S := by
  refine XI.of (by decide) [(0, .ref (ad 0)), (1, .int p0)] rfl (Nat.le_of_ble_eq_true rfl) (fun p e s m args below meth c A ls E h hl => ?_)
  unfold f_X6_choirAround at hf
  refine lv_iconst (v := 0) E.1 E.2.1 dX6_choirAround_0 (by decide) ?_
  refine lv_istore_n (lv' := [(2, .int 0), (0, .ref (ad 0)), (1, .int p0)]) E.1 E.2.1 dX6_choirAround_1 rfl hl (by decide) rfl (fun ls hl => ?_)
  refine lv_iconst (v := 0) E.1 E.2.1 dX6_choirAround_2 (by decide) ?_
  refine lv_istore_n (lv' := [(3, .int 0), (2, .int 0), (0, .ref (ad 0)), (1, .int p0)]) E.1 E.2.1 dX6_choirAround_3 rfl hl (by decide) rfl (fun ls hl => ?_)
  refine w_X6_choirAround_L4 E ?_ _ _ _ _ _ _ hf h (lv_sub hl [2, 3, 1, 0] rfl)
  intro v4 v5 H locs ls hf h hl
  refine lv_aload_n E.1 E.2.1 dX6_choirAround_29 rfl (lv_at hl 0 rfl) ?_
  refine lv_aload_n E.1 E.2.1 dX6_choirAround_30 rfl (lv_at hl 0 rfl) ?_
  refine x_getr E h 0 11 9 rfl rfl rfl (by decide) xinX6 kw209 dX6_choirAround_31 ?_
  refine lv_iload_n E.1 E.2.1 dX6_choirAround_34 rfl (lv_at hl 1 rfl) ?_
  refine x_iald E h 9 hf rfl dX6_choirAround_35 (fun v6 hf => ?_)
  refine lv_iload_n E.1 E.2.1 dX6_choirAround_36 rfl (lv_at hl 2 rfl) ?_
  refine lv_iconst (v := 0) E.1 E.2.1 dX6_choirAround_37 (by decide) ?_
  refine lv_bipush (v := 10) E.1 E.2.1 dX6_choirAround_38 (by decide) ?_
  refine x_callp E h hl 0 hf (fun r0 hr => c_X6_spread l D cy s00 _ S v6 v4 0 10 r0 hr) m_X6_spread rfl rfl kw405 rfl rfl (Nat.le_of_ble_eq_true rfl) ⟨by decide, by decide⟩ ⟨Nat.zero_le _, Nat.zero_le _⟩ dX6_choirAround_40 (fun v7 H locs hf h => ?_)
  refine lv_istore_n (lv' := [(3, .int v7), (0, .ref (ad 0)), (1, .int p0), (2, .int v4)]) E.1 E.2.1 dX6_choirAround_43 rfl hl (by decide) rfl (fun ls hl => ?_)
  refine lv_iconst (v := 0) E.1 E.2.1 dX6_choirAround_44 (by decide) ?_
  refine lv_istore (lv' := [(4, .int 0), (3, .int v7), (0, .ref (ad 0)), (1, .int p0), (2, .int v4)]) E.1 E.2.1 dX6_choirAround_45 hl (by decide) rfl (fun ls hl => ?_)
  refine lv_iconst (v := 0) E.1 E.2.1 dX6_choirAround_47 (by decide) ?_
  refine lv_istore (lv' := [(5, .int 0), (4, .int 0), (3, .int v7), (0, .ref (ad 0)), (1, .int p0), (2, .int v4)]) E.1 E.2.1 dX6_choirAround_48 hl (by decide) rfl (fun ls hl => ?_)
  refine w_X6_choirAround_L50 E ?_ _ _ _ _ _ _ hf h (lv_sub hl [3, 4, 5, 2, 1, 0] rfl)
  intro v12 v13 H locs ls hf h hl
  refine lv_iload E.1 E.2.1 dX6_choirAround_88 (lv_at hl 4 rfl) ?_
  exact x_irp E h hf dX6_choirAround_90
set_option maxHeartbeats 4000000 in
set_option maxRecDepth 100000 in
theorem w_X6_mainChoir_L6 {p : Program} {l : Launch} {e : Env} {s : State} {m : MethodId} {args : Array Value} {below : List Frame} {meth : Method} {c : Code} {D : va_G} {cy : Nat → ClassId} {s00 : State} {ad : Nat → Nat} {A : Nat → Prop}  {r9 : Int32}  {S : XS} {K : Int32 → Int32 → Int32 → Option (Int32)} (E : XE p s m args meth c cX6_mainChoir 5 RX6 (some .int) D cy s00) (hk : ∀ (m1 m2 m3 : Int32) (H : Heap) (locs : List Loc) (ls : Array Slot), K m1 m2 m3 = some r9 → XH D cy s00 shRoof ad S A s H locs → lv_has ls 5 [(0, .ref (ad 0)), (1, .int m1), (2, .int m2), (3, .int m3)] → W p l e (xrm 2) s m args below meth c H locs 0 0 (MQ below (xqi D cy shRoof ad r9 S A) args s 0 0 A) (F0 m 55 ls [])) :
    ∀ (n : Nat) (m1 m2 m3 : Int32) (H : Heap) (locs : List Loc) (ls : Array Slot), f_X6_mainChoir_L6 K S n m1 m2 m3 = some r9 → XH D cy s00 shRoof ad S A s H locs → lv_has ls 5 [(0, .ref (ad 0)), (1, .int m1), (2, .int m2), (3, .int m3)] → W p l e (xrm 2) s m args below meth c H locs 0 0 (MQ below (xqi D cy shRoof ad r9 S A) args s 0 0 A) (F0 m 6 ls []) := by
  intro n
  induction n with
  | zero => intro m1 m2 m3 H locs ls hf; cases hf
  | succ n ih =>
    intro m1 m2 m3 H locs ls hf h hl
    rw [f_X6_mainChoir_L6] at hf
    refine lv_iload_n E.1 E.2.1 dX6_mainChoir_6 rfl (lv_at hl 3 rfl) ?_
    refine lv_aload_n E.1 E.2.1 dX6_mainChoir_7 rfl (lv_at hl 0 rfl) ?_
    refine x_get E h 0 7 rfl rfl rfl (by decide) xinX6 kw202 dX6_mainChoir_8 ?_
    refine x_br hf (lv_icmp_ge (tgt := 55) E.1 E.2.1 dX6_mainChoir_11 (by decide)) (fun hf => ?_) (fun hf => ?_)
    · exact hk _ _ _ _ _ _ hf h (lv_sub hl [0, 1, 2, 3] rfl)
    · refine lv_iload_n E.1 E.2.1 dX6_mainChoir_14 rfl (lv_at hl 2 rfl) ?_
      refine lv_iload_n E.1 E.2.1 dX6_mainChoir_15 rfl (lv_at hl 3 rfl) ?_
      refine lv_ishr E.1 E.2.1 dX6_mainChoir_16 ?_
      refine lv_iconst (v := 1) E.1 E.2.1 dX6_mainChoir_17 (by decide) ?_
      refine lv_iand E.1 E.2.1 dX6_mainChoir_18 ?_
      refine x_brn hf (lv_if_ne (tgt := 49) E.1 E.2.1 dX6_mainChoir_19 (by decide)) (fun hf => ?_) (fun hf => ?_)
      · refine x_nv hf (fun v1 e9 hf => ?_)
        refine lv_iinc (v := v1) (lv' := [(3, .int v1), (0, .ref (ad 0)), (1, .int m1), (2, .int m2)]) E.1 E.2.1 dX6_mainChoir_49 hl (k := 3) rfl (by rw [e9]; rfl) (by decide) rfl (fun ls hl => ?_)
        refine lv_goto (tgt := 6) E.1 E.2.1 dX6_mainChoir_52 (by decide) ?_
        exact ih _ _ _ _ _ _ hf h (lv_sub hl [1, 2, 3, 0] rfl)
      · refine lv_aload_n E.1 E.2.1 dX6_mainChoir_22 rfl (lv_at hl 0 rfl) ?_
        refine lv_iload_n E.1 E.2.1 dX6_mainChoir_23 rfl (lv_at hl 3 rfl) ?_
        refine x_callp E h hl 0 hf (fun r0 hr => c_X6_choirAround l D cy s00 _ S m3 r0 hr) m_X6_choirAround rfl rfl kw401 rfl rfl (Nat.le_of_ble_eq_true rfl) ⟨by decide, by decide⟩ ⟨Nat.zero_le _, Nat.zero_le _⟩ dX6_mainChoir_24 (fun v2 H locs hf h => ?_)
        refine lv_istore (lv' := [(4, .int v2), (0, .ref (ad 0)), (1, .int m1), (2, .int m2), (3, .int m3)]) E.1 E.2.1 dX6_mainChoir_27 hl (by decide) rfl (fun ls hl => ?_)
        refine lv_iload_n E.1 E.2.1 dX6_mainChoir_29 rfl (lv_at hl 3 rfl) ?_
        refine lv_iload E.1 E.2.1 dX6_mainChoir_30 (lv_at hl 0 rfl) ?_
        refine lv_ior E.1 E.2.1 dX6_mainChoir_32 ?_
        refine x_nm hf (fun v3 hf => ?_)
        refine lv_istore_n (lv' := [(2, .int v3), (4, .int v2), (0, .ref (ad 0)), (1, .int m1), (3, .int m3)]) E.1 E.2.1 dX6_mainChoir_33 rfl hl (by decide) rfl (fun ls hl => ?_)
        refine lv_iload E.1 E.2.1 dX6_mainChoir_34 (lv_at hl 1 rfl) ?_
        refine x_callsp E h hl hf (fun r0 hr => c_J6_bitCount_0f7a4 l D cy s00 _ _ v2 r0 hr) m_J6_bitCount_0f7a4 kw383 rfl rfl (Nat.le_of_ble_eq_true rfl) ⟨by decide, by decide⟩ ⟨Nat.zero_le _, Nat.zero_le _⟩ dX6_mainChoir_36 (fun v4 H locs hf h => ?_)
        refine lv_iload_n E.1 E.2.1 dX6_mainChoir_39 rfl (lv_at hl 3 rfl) ?_
        refine x_callsp E h hl hf (fun r0 hr => c_J6_bitCount_0f7a4 l D cy s00 _ _ m1 r0 hr) m_J6_bitCount_0f7a4 kw383 rfl rfl (Nat.le_of_ble_eq_true rfl) ⟨by decide, by decide⟩ ⟨Nat.zero_le _, Nat.zero_le _⟩ dX6_mainChoir_40 (fun v5 H locs hf h => ?_)
        refine x_br hf (lv_icmp_le (tgt := 49) E.1 E.2.1 dX6_mainChoir_43 (by decide)) (fun hf => ?_) (fun hf => ?_)
        · refine x_nv hf (fun v6 e9 hf => ?_)
          refine lv_iinc (v := v6) (lv' := [(3, .int v6), (2, .int v3), (4, .int v2), (0, .ref (ad 0)), (1, .int m1)]) E.1 E.2.1 dX6_mainChoir_49 hl (k := 4) rfl (by rw [e9]; rfl) (by decide) rfl (fun ls hl => ?_)
          refine lv_goto (tgt := 6) E.1 E.2.1 dX6_mainChoir_52 (by decide) ?_
          exact ih _ _ _ _ _ _ hf h (lv_sub hl [3, 4, 1, 0] rfl)
        · refine lv_iload E.1 E.2.1 dX6_mainChoir_46 (lv_at hl 1 rfl) ?_
          refine lv_istore_n (lv' := [(1, .int v2), (2, .int v3), (4, .int v2), (0, .ref (ad 0)), (3, .int m3)]) E.1 E.2.1 dX6_mainChoir_48 rfl hl (by decide) rfl (fun ls hl => ?_)
          refine x_nv hf (fun v7 e9 hf => ?_)
          refine lv_iinc (v := v7) (lv' := [(3, .int v7), (1, .int v2), (2, .int v3), (4, .int v2), (0, .ref (ad 0))]) E.1 E.2.1 dX6_mainChoir_49 hl (k := 4) rfl (by rw [e9]; rfl) (by decide) rfl (fun ls hl => ?_)
          refine lv_goto (tgt := 6) E.1 E.2.1 dX6_mainChoir_52 (by decide) ?_
          exact ih _ _ _ _ _ _ hf h (lv_sub hl [4, 1, 2, 0] rfl)
set_option maxHeartbeats 4000000 in
set_option maxRecDepth 100000 in
theorem c_X6_mainChoir (l : Launch) (D : va_G) (cy : Nat → ClassId) (s00 : State) (ad : Nat → Nat) (S : XS) (r9 : Int32) (hf : f_X6_mainChoir S = some r9) : XI l yX6_mainChoir cX6_mainChoir 5 (some .int) 2 D cy s00 shRoof ad S [.ref (ad 0)] r9 S := by
  refine XI.of (by decide) [(0, .ref (ad 0))] rfl (Nat.le_of_ble_eq_true rfl) (fun p e s m args below meth c A ls E h hl => ?_)
  unfold f_X6_mainChoir at hf
  refine lv_iconst (v := 0) E.1 E.2.1 dX6_mainChoir_0 (by decide) ?_
  refine lv_istore_n (lv' := [(1, .int 0), (0, .ref (ad 0))]) E.1 E.2.1 dX6_mainChoir_1 rfl hl (by decide) rfl (fun ls hl => ?_)
  refine lv_iconst (v := 0) E.1 E.2.1 dX6_mainChoir_2 (by decide) ?_
  refine lv_istore_n (lv' := [(2, .int 0), (1, .int 0), (0, .ref (ad 0))]) E.1 E.2.1 dX6_mainChoir_3 rfl hl (by decide) rfl (fun ls hl => ?_)
  refine lv_iconst (v := 0) E.1 E.2.1 dX6_mainChoir_4 (by decide) ?_
  refine lv_istore_n (lv' := [(3, .int 0), (2, .int 0), (1, .int 0), (0, .ref (ad 0))]) E.1 E.2.1 dX6_mainChoir_5 rfl hl (by decide) rfl (fun ls hl => ?_)
  refine w_X6_mainChoir_L6 E ?_ _ _ _ _ _ _ _ hf h (lv_sub hl [3, 2, 1, 0] rfl)
  intro v8 v9 v10 H locs ls hf h hl
  refine lv_iload_n E.1 E.2.1 dX6_mainChoir_55 rfl (lv_at hl 1 rfl) ?_
  exact x_irp E h hf dX6_mainChoir_56
set_option maxHeartbeats 4000000 in
set_option maxRecDepth 100000 in
theorem c_X6_supper (l : Launch) (D : va_G) (cy : Nat → ClassId) (s00 : State) (ad : Nat → Nat) (S : XS) (p0 p1 : Int32) (r9 : Int32) (hf : f_X6_supper S p0 p1 = some r9) : XI l yX6_supper cX6_supper 3 (some .int) 1 D cy s00 shRoof ad S [.ref (ad 0), .int p0, .int p1] r9 S := by
  refine XI.of (by decide) [(0, .ref (ad 0)), (1, .int p0), (2, .int p1)] rfl (Nat.le_of_ble_eq_true rfl) (fun p e s m args below meth c A ls E h hl => ?_)
  unfold f_X6_supper at hf
  refine lv_aload_n E.1 E.2.1 dX6_supper_0 rfl (lv_at hl 0 rfl) ?_
  refine lv_iload_n E.1 E.2.1 dX6_supper_1 rfl (lv_at hl 1 rfl) ?_
  refine x_callp E h hl 0 hf (fun r0 hr => c_X6_sitsAtHome l D cy s00 _ S p0 r0 hr) m_X6_sitsAtHome rfl rfl kw413 rfl rfl (Nat.le_of_ble_eq_true rfl) ⟨by decide, by decide⟩ ⟨Nat.zero_le _, Nat.zero_le _⟩ dX6_supper_2 (fun v1 H locs hf h => ?_)
  refine x_br hf (lv_if_eq (tgt := 29) E.1 E.2.1 dX6_supper_5 (by decide)) (fun hf => ?_) (fun hf => ?_)
  · refine lv_iconst (v := 0) E.1 E.2.1 dX6_supper_29 (by decide) ?_
    refine lv_iload_n E.1 E.2.1 dX6_supper_30 rfl (lv_at hl 2 rfl) ?_
    refine lv_iconst (v := 1) E.1 E.2.1 dX6_supper_31 (by decide) ?_
    refine lv_isub E.1 E.2.1 dX6_supper_32 ?_
    refine va_mmax E.1 E.2.1 (E.2.2.1.trans hl.1.symm) E.2.2.2.1 (E.2.2.2.2.1 _ kw420) (E.2.2.2.2.1 _ kw421) (E.2.2.2.2.1 _ kw124) (E.2.2.2.2.1 _ kw422) (by decide) (Nat.le_of_ble_eq_true rfl) (Nat.zero_le _) (Nat.zero_le _) dX6_supper_33 ?_
    exact x_irp E h hf dX6_supper_36
  · refine lv_bipush (v := 99) E.1 E.2.1 dX6_supper_8 (by decide) ?_
    refine lv_iload_n E.1 E.2.1 dX6_supper_10 rfl (lv_at hl 2 rfl) ?_
    refine lv_aload_n E.1 E.2.1 dX6_supper_11 rfl (lv_at hl 0 rfl) ?_
    refine x_getr E h 0 1 1 rfl rfl rfl (by decide) xinX6 kw186 dX6_supper_12 ?_
    refine lv_aload_n E.1 E.2.1 dX6_supper_15 rfl (lv_at hl 0 rfl) ?_
    refine x_getr E h 0 11 9 rfl rfl rfl (by decide) xinX6 kw209 dX6_supper_16 ?_
    refine lv_iload_n E.1 E.2.1 dX6_supper_19 rfl (lv_at hl 1 rfl) ?_
    refine x_iald E h 9 hf rfl dX6_supper_20 (fun v2 hf => ?_)
    refine x_iald E h 1 hf rfl dX6_supper_21 (fun v3 hf => ?_)
    refine lv_iconst (v := 3) E.1 E.2.1 dX6_supper_22 (by decide) ?_
    refine lv_idiv E.1 E.2.1 dX6_supper_23 (by decide) ?_
    refine lv_iadd E.1 E.2.1 dX6_supper_24 ?_
    refine va_mmin E.1 E.2.1 (E.2.2.1.trans hl.1.symm) E.2.2.2.1 (E.2.2.2.2.1 _ kw417) (E.2.2.2.2.1 _ kw418) (E.2.2.2.2.1 _ kw124) (E.2.2.2.2.1 _ kw419) (by decide) (Nat.le_of_ble_eq_true rfl) (Nat.zero_le _) (Nat.zero_le _) dX6_supper_25 ?_
    exact x_irp E h hf dX6_supper_28
set_option maxHeartbeats 4000000 in
set_option maxRecDepth 100000 in
theorem c_X6_setFishInNight (l : Launch) (D : va_G) (cy : Nat → ClassId) (s00 : State) (ad : Nat → Nat) (S : XS) (p0 p1 : Int32) (S9 : XS) (hf : f_X6_setFishInNight S p0 p1 = some S9) : XV l yX6_setFishInNight cX6_setFishInNight 3 none 0 D cy s00 shRoof ad S [.ref (ad 0), .int p0, .int p1] S9 := by
  refine XV.of (by decide) [(0, .ref (ad 0)), (1, .int p0), (2, .int p1)] rfl (Nat.le_of_ble_eq_true rfl) (fun p e s m args below meth c A ls E h hl => ?_)
  unfold f_X6_setFishInNight at hf
  refine lv_iload_n E.1 E.2.1 dX6_setFishInNight_0 rfl (lv_at hl 2 rfl) ?_
  refine lv_aload_n E.1 E.2.1 dX6_setFishInNight_1 rfl (lv_at hl 0 rfl) ?_
  refine x_getr E h 0 10 8 rfl rfl rfl (by decide) xinX6 kw207 dX6_setFishInNight_2 ?_
  refine lv_iload_n E.1 E.2.1 dX6_setFishInNight_5 rfl (lv_at hl 1 rfl) ?_
  refine x_iald E h 8 hf rfl dX6_setFishInNight_6 (fun v1 hf => ?_)
  refine x_br hf (lv_icmp_le (tgt := 30) E.1 E.2.1 dX6_setFishInNight_7 (by decide)) (fun hf => ?_) (fun hf => ?_)
  · refine lv_aload_n E.1 E.2.1 dX6_setFishInNight_30 rfl (lv_at hl 0 rfl) ?_
    refine lv_dup E.1 E.2.1 dX6_setFishInNight_31 rfl ?_
    refine x_get E h 0 15 rfl rfl rfl (by decide) xinX6 kw215 dX6_setFishInNight_32 ?_
    refine lv_aload_n E.1 E.2.1 dX6_setFishInNight_35 rfl (lv_at hl 0 rfl) ?_
    refine x_getr E h 0 10 8 rfl rfl rfl (by decide) xinX6 kw207 dX6_setFishInNight_36 ?_
    refine lv_iload_n E.1 E.2.1 dX6_setFishInNight_39 rfl (lv_at hl 1 rfl) ?_
    refine x_iald E h 8 hf rfl dX6_setFishInNight_40 (fun v2 hf => ?_)
    refine lv_iload_n E.1 E.2.1 dX6_setFishInNight_41 rfl (lv_at hl 2 rfl) ?_
    refine lv_isub E.1 E.2.1 dX6_setFishInNight_42 ?_
    refine lv_iadd E.1 E.2.1 dX6_setFishInNight_43 ?_
    refine x_put (ty := .int) E h 0 15 hf rfl rfl rfl (by decide) xinX6 tyX6_ok nmX6 kw215 rfl (by decide +kernel) rfl rfl dX6_setFishInNight_44 (fun S3 H locs hf h => ?_)
    refine lv_aload_n E.1 E.2.1 dX6_setFishInNight_47 rfl (lv_at hl 0 rfl) ?_
    refine x_getr E h 0 10 8 rfl rfl rfl (by decide) xinX6 kw207 dX6_setFishInNight_48 ?_
    refine lv_iload_n E.1 E.2.1 dX6_setFishInNight_51 rfl (lv_at hl 1 rfl) ?_
    refine lv_iload_n E.1 E.2.1 dX6_setFishInNight_52 rfl (lv_at hl 2 rfl) ?_
    refine x_iast E h 8 hf rfl dX6_setFishInNight_53 (fun S4 H locs hf h => ?_)
    exact x_vret E h hf dX6_setFishInNight_54
  · refine lv_aload_n E.1 E.2.1 dX6_setFishInNight_10 rfl (lv_at hl 0 rfl) ?_
    refine lv_dup E.1 E.2.1 dX6_setFishInNight_11 rfl ?_
    refine x_get E h 0 14 rfl rfl rfl (by decide) xinX6 kw214 dX6_setFishInNight_12 ?_
    refine lv_iload_n E.1 E.2.1 dX6_setFishInNight_15 rfl (lv_at hl 2 rfl) ?_
    refine lv_aload_n E.1 E.2.1 dX6_setFishInNight_16 rfl (lv_at hl 0 rfl) ?_
    refine x_getr E h 0 10 8 rfl rfl rfl (by decide) xinX6 kw207 dX6_setFishInNight_17 ?_
    refine lv_iload_n E.1 E.2.1 dX6_setFishInNight_20 rfl (lv_at hl 1 rfl) ?_
    refine x_iald E h 8 hf rfl dX6_setFishInNight_21 (fun v6 hf => ?_)
    refine lv_isub E.1 E.2.1 dX6_setFishInNight_22 ?_
    refine lv_iadd E.1 E.2.1 dX6_setFishInNight_23 ?_
    refine x_put (ty := .int) E h 0 14 hf rfl rfl rfl (by decide) xinX6 tyX6_ok nmX6 kw214 rfl (by decide +kernel) rfl rfl dX6_setFishInNight_24 (fun S7 H locs hf h => ?_)
    refine lv_goto (tgt := 47) E.1 E.2.1 dX6_setFishInNight_27 (by decide) ?_
    refine lv_aload_n E.1 E.2.1 dX6_setFishInNight_47 rfl (lv_at hl 0 rfl) ?_
    refine x_getr E h 0 10 8 rfl rfl rfl (by decide) xinX6 kw207 dX6_setFishInNight_48 ?_
    refine lv_iload_n E.1 E.2.1 dX6_setFishInNight_51 rfl (lv_at hl 1 rfl) ?_
    refine lv_iload_n E.1 E.2.1 dX6_setFishInNight_52 rfl (lv_at hl 2 rfl) ?_
    refine x_iast E h 8 hf rfl dX6_setFishInNight_53 (fun S8 H locs hf h => ?_)
    exact x_vret E h hf dX6_setFishInNight_54
set_option maxHeartbeats 4000000 in
set_option maxRecDepth 100000 in
theorem c_X6_feast (l : Launch) (D : va_G) (cy : Nat → ClassId) (s00 : State) (ad : Nat → Nat) (S : XS) (p0 p1 p2 p3 : Int32) (r9 : Int32) (hf : f_X6_feast S p0 p1 p2 p3 = some r9) : XI l yX6_feast cX6_feast 5 (some .int) 1 D cy s00 shRoof ad S [.ref (ad 0), .int p0, .int p1, .int p2, .int p3] r9 S := by
  refine XI.of (by decide) [(0, .ref (ad 0)), (1, .int p0), (2, .int p1), (3, .int p2), (4, .int p3)] rfl (Nat.le_of_ble_eq_true rfl) (fun p e s m args below meth c A ls E h hl => ?_)
  unfold f_X6_feast at hf
  refine lv_iload_n E.1 E.2.1 dX6_feast_0 rfl (lv_at hl 3 rfl) ?_
  refine lv_bipush (v := 8) E.1 E.2.1 dX6_feast_1 (by decide) ?_
  refine lv_irem E.1 E.2.1 dX6_feast_3 (by decide) ?_
  refine lv_iconst (v := 4) E.1 E.2.1 dX6_feast_4 (by decide) ?_
  refine x_brn hf (lv_icmp_ne (tgt := 17) E.1 E.2.1 dX6_feast_5 (by decide)) (fun hf => ?_) (fun hf => ?_)
  · refine lv_iload_n E.1 E.2.1 dX6_feast_17 rfl (lv_at hl 2 rfl) ?_
    exact x_irp E h hf dX6_feast_18
  · refine lv_iload E.1 E.2.1 dX6_feast_8 (lv_at hl 4 rfl) ?_
    refine lv_iload_n E.1 E.2.1 dX6_feast_10 rfl (lv_at hl 1 rfl) ?_
    refine lv_ishr E.1 E.2.1 dX6_feast_11 ?_
    refine lv_iconst (v := 1) E.1 E.2.1 dX6_feast_12 (by decide) ?_
    refine lv_iand E.1 E.2.1 dX6_feast_13 ?_
    refine x_brn hf (lv_if_ne (tgt := 19) E.1 E.2.1 dX6_feast_14 (by decide)) (fun hf => ?_) (fun hf => ?_)
    · refine lv_bipush (v := 99) E.1 E.2.1 dX6_feast_19 (by decide) ?_
      refine lv_iload_n E.1 E.2.1 dX6_feast_21 rfl (lv_at hl 2 rfl) ?_
      refine lv_iload E.1 E.2.1 dX6_feast_22 (lv_at hl 4 rfl) ?_
      refine x_callsp E h hl hf (fun r0 hr => c_J6_bitCount_0f7a4 l D cy s00 _ _ p3 r0 hr) m_J6_bitCount_0f7a4 kw383 rfl rfl (Nat.le_of_ble_eq_true rfl) ⟨by decide, by decide⟩ ⟨Nat.zero_le _, Nat.zero_le _⟩ dX6_feast_24 (fun v1 H locs hf h => ?_)
      refine lv_iadd E.1 E.2.1 dX6_feast_27 ?_
      refine va_mmin E.1 E.2.1 (E.2.2.1.trans hl.1.symm) E.2.2.2.1 (E.2.2.2.2.1 _ kw417) (E.2.2.2.2.1 _ kw418) (E.2.2.2.2.1 _ kw124) (E.2.2.2.2.1 _ kw419) (by decide) (Nat.le_of_ble_eq_true rfl) (Nat.zero_le _) (Nat.zero_le _) dX6_feast_28 ?_
      exact x_irp E h hf dX6_feast_31
    · refine lv_iload_n E.1 E.2.1 dX6_feast_17 rfl (lv_at hl 2 rfl) ?_
      exact x_irp E h hf dX6_feast_18
set_option maxHeartbeats 4000000 in
set_option maxRecDepth 100000 in
theorem w_X6_spendNights_L25 {p : Program} {l : Launch} {e : Env} {s : State} {m : MethodId} {args : Array Value} {below : List Frame} {meth : Method} {c : Code} {D : va_G} {cy : Nat → ClassId} {s00 : State} {ad : Nat → Nat} {A : Nat → Prop}  {r9 : Int32} {S9 : XS} {u1 : Int32} {u2 : Int32} {u3 : Int32} {K : Int32 → XS → Option (Int32 × XS)} (E : XE p s m args meth c cX6_spendNights 5 RX6 (some .int) D cy s00) (hk : ∀ (m4 : Int32) (S1 : XS) (H : Heap) (locs : List Loc) (ls : Array Slot), K m4 S1 = some (r9, S9) → XH D cy s00 shRoof ad S1 A s H locs → lv_has ls 5 [(0, .ref (ad 0)), (1, .int u1), (2, .int u2), (3, .int u3), (4, .int m4)] → W p l e (xrm 3) s m args below meth c H locs 0 0 (MQ below (xqi D cy shRoof ad r9 S9 A) args s 0 0 A) (F0 m 83 ls [])) :
    ∀ (n : Nat) (m4 : Int32) (S : XS) (H : Heap) (locs : List Loc) (ls : Array Slot), f_X6_spendNights_L25 K u1 u2 u3 n m4 S = some (r9, S9) → XH D cy s00 shRoof ad S A s H locs → lv_has ls 5 [(0, .ref (ad 0)), (1, .int u1), (2, .int u2), (3, .int u3), (4, .int m4)] → W p l e (xrm 3) s m args below meth c H locs 0 0 (MQ below (xqi D cy shRoof ad r9 S9 A) args s 0 0 A) (F0 m 25 ls []) := by
  intro n
  induction n with
  | zero => intro m4 S H locs ls hf; cases hf
  | succ n ih =>
    intro m4 S H locs ls hf h hl
    rw [f_X6_spendNights_L25] at hf
    refine lv_iload E.1 E.2.1 dX6_spendNights_25 (lv_at hl 4 rfl) ?_
    refine lv_aload_n E.1 E.2.1 dX6_spendNights_27 rfl (lv_at hl 0 rfl) ?_
    refine x_get E h 0 7 rfl rfl rfl (by decide) xinX6 kw202 dX6_spendNights_28 ?_
    refine x_br hf (lv_icmp_ge (tgt := 83) E.1 E.2.1 dX6_spendNights_31 (by decide)) (fun hf => ?_) (fun hf => ?_)
    · exact hk _ _ _ _ _ hf h (lv_sub hl [0, 1, 2, 3, 4] rfl)
    · refine lv_aload_n E.1 E.2.1 dX6_spendNights_34 rfl (lv_at hl 0 rfl) ?_
      refine lv_iload E.1 E.2.1 dX6_spendNights_35 (lv_at hl 4 rfl) ?_
      refine lv_aload_n E.1 E.2.1 dX6_spendNights_37 rfl (lv_at hl 0 rfl) ?_
      refine lv_iload E.1 E.2.1 dX6_spendNights_38 (lv_at hl 4 rfl) ?_
      refine lv_aload_n E.1 E.2.1 dX6_spendNights_40 rfl (lv_at hl 0 rfl) ?_
      refine x_getr E h 0 10 8 rfl rfl rfl (by decide) xinX6 kw207 dX6_spendNights_41 ?_
      refine lv_iload E.1 E.2.1 dX6_spendNights_44 (lv_at hl 4 rfl) ?_
      refine x_iald E h 8 hf rfl dX6_spendNights_46 (fun v3 hf => ?_)
      refine x_callp E h hl 0 hf (fun r0 hr => c_X6_supper l D cy s00 _ S m4 v3 r0 hr) m_X6_supper rfl rfl kw409 rfl rfl (Nat.le_of_ble_eq_true rfl) ⟨by decide, by decide⟩ ⟨Nat.zero_le _, Nat.zero_le _⟩ dX6_spendNights_47 (fun v4 H locs hf h => ?_)
      refine x_callv E h hl 0 hf (fun r0 hr => c_X6_setFishInNight l D cy s00 _ S m4 v4 r0 hr) m_X6_setFishInNight rfl rfl kw423 rfl rfl (Nat.le_of_ble_eq_true rfl) ⟨by decide, by decide⟩ ⟨Nat.zero_le _, Nat.zero_le _⟩ dX6_spendNights_50 (fun S5 H locs hf h => ?_)
      refine lv_aload_n E.1 E.2.1 dX6_spendNights_53 rfl (lv_at hl 0 rfl) ?_
      refine lv_iload E.1 E.2.1 dX6_spendNights_54 (lv_at hl 4 rfl) ?_
      refine lv_aload_n E.1 E.2.1 dX6_spendNights_56 rfl (lv_at hl 0 rfl) ?_
      refine lv_iload E.1 E.2.1 dX6_spendNights_57 (lv_at hl 4 rfl) ?_
      refine lv_aload_n E.1 E.2.1 dX6_spendNights_59 rfl (lv_at hl 0 rfl) ?_
      refine x_getr E h 0 10 8 rfl rfl rfl (by decide) xinX6 kw207 dX6_spendNights_60 ?_
      refine lv_iload E.1 E.2.1 dX6_spendNights_63 (lv_at hl 4 rfl) ?_
      refine x_iald E h 8 hf rfl dX6_spendNights_65 (fun v6 hf => ?_)
      refine lv_aload_n E.1 E.2.1 dX6_spendNights_66 rfl (lv_at hl 0 rfl) ?_
      refine x_get E h 0 13 rfl rfl rfl (by decide) xinX6 kw212 dX6_spendNights_67 ?_
      refine lv_iload_n E.1 E.2.1 dX6_spendNights_70 rfl (lv_at hl 2 rfl) ?_
      refine x_callp E h hl 0 hf (fun r0 hr => c_X6_feast l D cy s00 _ S5 m4 v6 (S5 0 13) u2 r0 hr) m_X6_feast rfl rfl kw427 rfl rfl (Nat.le_of_ble_eq_true rfl) ⟨by decide, by decide⟩ ⟨Nat.zero_le _, Nat.zero_le _⟩ dX6_spendNights_71 (fun v7 H locs hf h => ?_)
      refine x_callv E h hl 0 hf (fun r0 hr => c_X6_setFishInNight l D cy s00 _ S5 m4 v7 r0 hr) m_X6_setFishInNight rfl rfl kw423 rfl rfl (Nat.le_of_ble_eq_true rfl) ⟨by decide, by decide⟩ ⟨Nat.zero_le _, Nat.zero_le _⟩ dX6_spendNights_74 (fun S8 H locs hf h => ?_)
      refine x_nv hf (fun v9 e9 hf => ?_)
      refine lv_iinc (v := v9) (lv' := [(4, .int v9), (0, .ref (ad 0)), (1, .int u1), (2, .int u2), (3, .int u3)]) E.1 E.2.1 dX6_spendNights_77 hl (k := 4) rfl (by rw [e9]; rfl) (by decide) rfl (fun ls hl => ?_)
      refine lv_goto (tgt := 25) E.1 E.2.1 dX6_spendNights_80 (by decide) ?_
      exact ih _ _ _ _ _ hf h (lv_sub hl [1, 2, 3, 4, 0] rfl)
set_option maxHeartbeats 4000000 in
set_option maxRecDepth 100000 in
theorem w_X6_spendNights_L7 {p : Program} {l : Launch} {e : Env} {s : State} {m : MethodId} {args : Array Value} {below : List Frame} {meth : Method} {c : Code} {D : va_G} {cy : Nat → ClassId} {s00 : State} {ad : Nat → Nat} {A : Nat → Prop}  {r9 : Int32} {S9 : XS} {u1 : Int32} {u2 : Int32} {K : Int32 → XS → Option (Int32 × XS)} (E : XE p s m args meth c cX6_spendNights 5 RX6 (some .int) D cy s00) (hk : ∀ (m3 : Int32) (S1 : XS) (H : Heap) (locs : List Loc) (ls : Array Slot), K m3 S1 = some (r9, S9) → XH D cy s00 shRoof ad S1 A s H locs → lv_has ls 5 [(0, .ref (ad 0)), (1, .int u1), (2, .int u2), (3, .int m3)] → W p l e (xrm 3) s m args below meth c H locs 0 0 (MQ below (xqi D cy shRoof ad r9 S9 A) args s 0 0 A) (F0 m 89 ls [])) :
    ∀ (n : Nat) (m3 : Int32) (S : XS) (H : Heap) (locs : List Loc) (ls : Array Slot), f_X6_spendNights_L7 K u1 u2 n m3 S = some (r9, S9) → XH D cy s00 shRoof ad S A s H locs → lv_has ls 5 [(0, .ref (ad 0)), (1, .int u1), (2, .int u2), (3, .int m3)] → W p l e (xrm 3) s m args below meth c H locs 0 0 (MQ below (xqi D cy shRoof ad r9 S9 A) args s 0 0 A) (F0 m 7 ls []) := by
  intro n
  induction n with
  | zero => intro m3 S H locs ls hf; cases hf
  | succ n ih =>
    intro m3 S H locs ls hf h hl
    rw [f_X6_spendNights_L7] at hf
    refine lv_iload_n E.1 E.2.1 dX6_spendNights_7 rfl (lv_at hl 3 rfl) ?_
    refine lv_iload_n E.1 E.2.1 dX6_spendNights_8 rfl (lv_at hl 1 rfl) ?_
    refine x_br hf (lv_icmp_ge (tgt := 89) E.1 E.2.1 dX6_spendNights_9 (by decide)) (fun hf => ?_) (fun hf => ?_)
    · exact hk _ _ _ _ _ hf h (lv_sub hl [0, 1, 2, 3] rfl)
    · refine lv_aload_n E.1 E.2.1 dX6_spendNights_12 rfl (lv_at hl 0 rfl) ?_
      refine lv_dup E.1 E.2.1 dX6_spendNights_13 rfl ?_
      refine x_get E h 0 13 rfl rfl rfl (by decide) xinX6 kw212 dX6_spendNights_14 ?_
      refine lv_iconst (v := 1) E.1 E.2.1 dX6_spendNights_17 (by decide) ?_
      refine lv_iadd E.1 E.2.1 dX6_spendNights_18 ?_
      refine x_put (ty := .int) E h 0 13 hf rfl rfl rfl (by decide) xinX6 tyX6_ok nmX6 kw212 rfl (by decide +kernel) rfl rfl dX6_spendNights_19 (fun S2 H locs hf h => ?_)
      refine lv_iconst (v := 0) E.1 E.2.1 dX6_spendNights_22 (by decide) ?_
      refine lv_istore (lv' := [(4, .int 0), (0, .ref (ad 0)), (1, .int u1), (2, .int u2), (3, .int m3)]) E.1 E.2.1 dX6_spendNights_23 hl (by decide) rfl (fun ls hl => ?_)
      refine w_X6_spendNights_L25 E ?_ _ _ _ _ _ _ hf h (lv_sub hl [1, 2, 3, 4, 0] rfl)
      intro v10 S11 H locs ls hf h hl
      refine x_nv hf (fun v12 e9 hf => ?_)
      refine lv_iinc (v := v12) (lv' := [(3, .int v12), (0, .ref (ad 0)), (1, .int u1), (2, .int u2), (4, .int v10)]) E.1 E.2.1 dX6_spendNights_83 hl (k := 3) rfl (by rw [e9]; rfl) (by decide) rfl (fun ls hl => ?_)
      refine lv_goto (tgt := 7) E.1 E.2.1 dX6_spendNights_86 (by decide) ?_
      exact ih _ _ _ _ _ hf h (lv_sub hl [1, 2, 3, 0] rfl)
set_option maxHeartbeats 4000000 in
set_option maxRecDepth 100000 in
theorem c_X6_spendNights (l : Launch) (D : va_G) (cy : Nat → ClassId) (s00 : State) (ad : Nat → Nat) (S : XS) (p0 : Int32) (r9 : Int32) (S9 : XS) (hf : f_X6_spendNights S p0 = some (r9, S9)) : XI l yX6_spendNights cX6_spendNights 5 (some .int) 3 D cy s00 shRoof ad S [.ref (ad 0), .int p0] r9 S9 := by
  refine XI.of (by decide) [(0, .ref (ad 0)), (1, .int p0)] rfl (Nat.le_of_ble_eq_true rfl) (fun p e s m args below meth c A ls E h hl => ?_)
  unfold f_X6_spendNights at hf
  refine lv_aload_n E.1 E.2.1 dX6_spendNights_0 rfl (lv_at hl 0 rfl) ?_
  refine x_callp E h hl 0 hf (fun r0 hr => c_X6_mainChoir l D cy s00 _ S  r0 hr) m_X6_mainChoir rfl rfl kw397 rfl rfl (Nat.le_of_ble_eq_true rfl) ⟨by decide, by decide⟩ ⟨Nat.zero_le _, Nat.zero_le _⟩ dX6_spendNights_1 (fun v1 H locs hf h => ?_)
  refine lv_istore_n (lv' := [(2, .int v1), (0, .ref (ad 0)), (1, .int p0)]) E.1 E.2.1 dX6_spendNights_4 rfl hl (by decide) rfl (fun ls hl => ?_)
  refine lv_iconst (v := 0) E.1 E.2.1 dX6_spendNights_5 (by decide) ?_
  refine lv_istore_n (lv' := [(3, .int 0), (2, .int v1), (0, .ref (ad 0)), (1, .int p0)]) E.1 E.2.1 dX6_spendNights_6 rfl hl (by decide) rfl (fun ls hl => ?_)
  refine w_X6_spendNights_L7 E ?_ _ _ _ _ _ _ hf h (lv_sub hl [2, 3, 1, 0] rfl)
  intro v13 S14 H locs ls hf h hl
  refine lv_aload_n E.1 E.2.1 dX6_spendNights_89 rfl (lv_at hl 0 rfl) ?_
  refine x_get E h 0 13 rfl rfl rfl (by decide) xinX6 kw212 dX6_spendNights_90 ?_
  exact x_iret E h hf dX6_spendNights_93
set_option maxHeartbeats 4000000 in
set_option maxRecDepth 100000 in
theorem w_X6_futureFish_L16 {p : Program} {l : Launch} {e : Env} {s : State} {m : MethodId} {args : Array Value} {below : List Frame} {meth : Method} {c : Code} {D : va_G} {cy : Nat → ClassId} {s00 : State} {ad : Nat → Nat} {A : Nat → Prop}  {r9 : Int32} {u1 : Int32} {u2 : Int32} {u3 : Int32} {S : XS} {K : Int32 → Int32 → Option (Int32)} (E : XE p s m args meth c cX6_futureFish 6 RX6 (some .int) D cy s00) (hk : ∀ (m4 m5 : Int32) (H : Heap) (locs : List Loc) (ls : Array Slot), K m4 m5 = some r9 → XH D cy s00 shRoof ad S A s H locs → lv_has ls 6 [(0, .ref (ad 0)), (1, .int u1), (2, .int u2), (3, .int u3), (4, .int m4), (5, .int m5)] → W p l e (xrm 3) s m args below meth c H locs 0 0 (MQ below (xqi D cy shRoof ad r9 S A) args s 0 0 A) (F0 m 50 ls [])) :
    ∀ (n : Nat) (m4 m5 : Int32) (H : Heap) (locs : List Loc) (ls : Array Slot), f_X6_futureFish_L16 K S u1 u2 u3 n m4 m5 = some r9 → XH D cy s00 shRoof ad S A s H locs → lv_has ls 6 [(0, .ref (ad 0)), (1, .int u1), (2, .int u2), (3, .int u3), (4, .int m4), (5, .int m5)] → W p l e (xrm 3) s m args below meth c H locs 0 0 (MQ below (xqi D cy shRoof ad r9 S A) args s 0 0 A) (F0 m 16 ls []) := by
  intro n
  induction n with
  | zero => intro m4 m5 H locs ls hf; cases hf
  | succ n ih =>
    intro m4 m5 H locs ls hf h hl
    rw [f_X6_futureFish_L16] at hf
    refine lv_iload E.1 E.2.1 dX6_futureFish_16 (lv_at hl 5 rfl) ?_
    refine lv_iload_n E.1 E.2.1 dX6_futureFish_18 rfl (lv_at hl 2 rfl) ?_
    refine x_br hf (lv_icmp_gt (tgt := 50) E.1 E.2.1 dX6_futureFish_19 (by decide)) (fun hf => ?_) (fun hf => ?_)
    · exact hk _ _ _ _ _ hf h (lv_sub hl [0, 1, 2, 3, 4, 5] rfl)
    · refine lv_aload_n E.1 E.2.1 dX6_futureFish_22 rfl (lv_at hl 0 rfl) ?_
      refine lv_iload_n E.1 E.2.1 dX6_futureFish_23 rfl (lv_at hl 1 rfl) ?_
      refine lv_aload_n E.1 E.2.1 dX6_futureFish_24 rfl (lv_at hl 0 rfl) ?_
      refine lv_iload_n E.1 E.2.1 dX6_futureFish_25 rfl (lv_at hl 1 rfl) ?_
      refine lv_iload E.1 E.2.1 dX6_futureFish_26 (lv_at hl 4 rfl) ?_
      refine x_callp E h hl 0 hf (fun r0 hr => c_X6_supper l D cy s00 _ S u1 m4 r0 hr) m_X6_supper rfl rfl kw409 rfl rfl (Nat.le_of_ble_eq_true rfl) ⟨by decide, by decide⟩ ⟨Nat.zero_le _, Nat.zero_le _⟩ dX6_futureFish_28 (fun v3 H locs hf h => ?_)
      refine lv_aload_n E.1 E.2.1 dX6_futureFish_31 rfl (lv_at hl 0 rfl) ?_
      refine x_get E h 0 13 rfl rfl rfl (by decide) xinX6 kw212 dX6_futureFish_32 ?_
      refine lv_iload E.1 E.2.1 dX6_futureFish_35 (lv_at hl 5 rfl) ?_
      refine lv_iadd E.1 E.2.1 dX6_futureFish_37 ?_
      refine lv_iload_n E.1 E.2.1 dX6_futureFish_38 rfl (lv_at hl 3 rfl) ?_
      refine x_callp E h hl 0 hf (fun r0 hr => c_X6_feast l D cy s00 _ S u1 v3 ((S 0 13) + m5) u3 r0 hr) m_X6_feast rfl rfl kw427 rfl rfl (Nat.le_of_ble_eq_true rfl) ⟨by decide, by decide⟩ ⟨Nat.zero_le _, Nat.zero_le _⟩ dX6_futureFish_39 (fun v4 H locs hf h => ?_)
      refine lv_istore (lv' := [(4, .int v4), (0, .ref (ad 0)), (1, .int u1), (2, .int u2), (3, .int u3), (5, .int m5)]) E.1 E.2.1 dX6_futureFish_42 hl (by decide) rfl (fun ls hl => ?_)
      refine x_nv hf (fun v5 e9 hf => ?_)
      refine lv_iinc (v := v5) (lv' := [(5, .int v5), (4, .int v4), (0, .ref (ad 0)), (1, .int u1), (2, .int u2), (3, .int u3)]) E.1 E.2.1 dX6_futureFish_44 hl (k := 5) rfl (by rw [e9]; rfl) (by decide) rfl (fun ls hl => ?_)
      refine lv_goto (tgt := 16) E.1 E.2.1 dX6_futureFish_47 (by decide) ?_
      exact ih _ _ _ _ _ hf h (lv_sub hl [2, 3, 4, 5, 1, 0] rfl)
set_option maxHeartbeats 4000000 in
set_option maxRecDepth 100000 in
theorem c_X6_futureFish (l : Launch) (D : va_G) (cy : Nat → ClassId) (s00 : State) (ad : Nat → Nat) (S : XS) (p0 p1 : Int32) (r9 : Int32) (hf : f_X6_futureFish S p0 p1 = some r9) : XI l yX6_futureFish cX6_futureFish 6 (some .int) 3 D cy s00 shRoof ad S [.ref (ad 0), .int p0, .int p1] r9 S := by
  refine XI.of (by decide) [(0, .ref (ad 0)), (1, .int p0), (2, .int p1)] rfl (Nat.le_of_ble_eq_true rfl) (fun p e s m args below meth c A ls E h hl => ?_)
  unfold f_X6_futureFish at hf
  refine lv_aload_n E.1 E.2.1 dX6_futureFish_0 rfl (lv_at hl 0 rfl) ?_
  refine x_callp E h hl 0 hf (fun r0 hr => c_X6_mainChoir l D cy s00 _ S  r0 hr) m_X6_mainChoir rfl rfl kw397 rfl rfl (Nat.le_of_ble_eq_true rfl) ⟨by decide, by decide⟩ ⟨Nat.zero_le _, Nat.zero_le _⟩ dX6_futureFish_1 (fun v1 H locs hf h => ?_)
  refine lv_istore_n (lv' := [(3, .int v1), (0, .ref (ad 0)), (1, .int p0), (2, .int p1)]) E.1 E.2.1 dX6_futureFish_4 rfl hl (by decide) rfl (fun ls hl => ?_)
  refine lv_aload_n E.1 E.2.1 dX6_futureFish_5 rfl (lv_at hl 1 rfl) ?_
  refine x_getr E h 0 10 8 rfl rfl rfl (by decide) xinX6 kw207 dX6_futureFish_6 ?_
  refine lv_iload_n E.1 E.2.1 dX6_futureFish_9 rfl (lv_at hl 2 rfl) ?_
  refine x_iald E h 8 hf rfl dX6_futureFish_10 (fun v2 hf => ?_)
  refine lv_istore (lv' := [(4, .int v2), (3, .int v1), (0, .ref (ad 0)), (1, .int p0), (2, .int p1)]) E.1 E.2.1 dX6_futureFish_11 hl (by decide) rfl (fun ls hl => ?_)
  refine lv_iconst (v := 1) E.1 E.2.1 dX6_futureFish_13 (by decide) ?_
  refine lv_istore (lv' := [(5, .int 1), (4, .int v2), (3, .int v1), (0, .ref (ad 0)), (1, .int p0), (2, .int p1)]) E.1 E.2.1 dX6_futureFish_14 hl (by decide) rfl (fun ls hl => ?_)
  refine w_X6_futureFish_L16 E ?_ _ _ _ _ _ _ hf h (lv_sub hl [3, 4, 5, 2, 1, 0] rfl)
  intro v6 v7 H locs ls hf h hl
  refine lv_iload E.1 E.2.1 dX6_futureFish_50 (lv_at hl 4 rfl) ?_
  exact x_irp E h hf dX6_futureFish_52
set_option maxHeartbeats 4000000 in
set_option maxRecDepth 100000 in
theorem w_X6_allFish_L4 {p : Program} {l : Launch} {e : Env} {s : State} {m : MethodId} {args : Array Value} {below : List Frame} {meth : Method} {c : Code} {D : va_G} {cy : Nat → ClassId} {s00 : State} {ad : Nat → Nat} {A : Nat → Prop}  {r9 : Int32}  {S : XS} {K : Int32 → Int32 → Option (Int32)} (E : XE p s m args meth c cX6_allFish 3 RX6 (some .int) D cy s00) (hk : ∀ (m1 m2 : Int32) (H : Heap) (locs : List Loc) (ls : Array Slot), K m1 m2 = some r9 → XH D cy s00 shRoof ad S A s H locs → lv_has ls 3 [(0, .ref (ad 0)), (1, .int m1), (2, .int m2)] → W p l e (xrm 0) s m args below meth c H locs 0 0 (MQ below (xqi D cy shRoof ad r9 S A) args s 0 0 A) (F0 m 27 ls [])) :
    ∀ (n : Nat) (m1 m2 : Int32) (H : Heap) (locs : List Loc) (ls : Array Slot), f_X6_allFish_L4 K S n m1 m2 = some r9 → XH D cy s00 shRoof ad S A s H locs → lv_has ls 3 [(0, .ref (ad 0)), (1, .int m1), (2, .int m2)] → W p l e (xrm 0) s m args below meth c H locs 0 0 (MQ below (xqi D cy shRoof ad r9 S A) args s 0 0 A) (F0 m 4 ls []) := by
  intro n
  induction n with
  | zero => intro m1 m2 H locs ls hf; cases hf
  | succ n ih =>
    intro m1 m2 H locs ls hf h hl
    rw [f_X6_allFish_L4] at hf
    refine lv_iload_n E.1 E.2.1 dX6_allFish_4 rfl (lv_at hl 2 rfl) ?_
    refine lv_aload_n E.1 E.2.1 dX6_allFish_5 rfl (lv_at hl 0 rfl) ?_
    refine x_get E h 0 7 rfl rfl rfl (by decide) xinX6 kw202 dX6_allFish_6 ?_
    refine x_br hf (lv_icmp_ge (tgt := 27) E.1 E.2.1 dX6_allFish_9 (by decide)) (fun hf => ?_) (fun hf => ?_)
    · exact hk _ _ _ _ _ hf h (lv_sub hl [0, 1, 2] rfl)
    · refine lv_iload_n E.1 E.2.1 dX6_allFish_12 rfl (lv_at hl 1 rfl) ?_
      refine lv_aload_n E.1 E.2.1 dX6_allFish_13 rfl (lv_at hl 0 rfl) ?_
      refine x_getr E h 0 10 8 rfl rfl rfl (by decide) xinX6 kw207 dX6_allFish_14 ?_
      refine lv_iload_n E.1 E.2.1 dX6_allFish_17 rfl (lv_at hl 2 rfl) ?_
      refine x_iald E h 8 hf rfl dX6_allFish_18 (fun v1 hf => ?_)
      refine lv_iadd E.1 E.2.1 dX6_allFish_19 ?_
      refine x_nm hf (fun v2 hf => ?_)
      refine lv_istore_n (lv' := [(1, .int v2), (0, .ref (ad 0)), (2, .int m2)]) E.1 E.2.1 dX6_allFish_20 rfl hl (by decide) rfl (fun ls hl => ?_)
      refine x_nv hf (fun v3 e9 hf => ?_)
      refine lv_iinc (v := v3) (lv' := [(2, .int v3), (1, .int v2), (0, .ref (ad 0))]) E.1 E.2.1 dX6_allFish_21 hl (k := 2) rfl (by rw [e9]; rfl) (by decide) rfl (fun ls hl => ?_)
      refine lv_goto (tgt := 4) E.1 E.2.1 dX6_allFish_24 (by decide) ?_
      exact ih _ _ _ _ _ hf h (lv_sub hl [2, 1, 0] rfl)
set_option maxHeartbeats 4000000 in
set_option maxRecDepth 100000 in
theorem c_X6_allFish (l : Launch) (D : va_G) (cy : Nat → ClassId) (s00 : State) (ad : Nat → Nat) (S : XS) (r9 : Int32) (hf : f_X6_allFish S = some r9) : XI l yX6_allFish cX6_allFish 3 (some .int) 0 D cy s00 shRoof ad S [.ref (ad 0)] r9 S := by
  refine XI.of (by decide) [(0, .ref (ad 0))] rfl (Nat.le_of_ble_eq_true rfl) (fun p e s m args below meth c A ls E h hl => ?_)
  unfold f_X6_allFish at hf
  refine lv_iconst (v := 0) E.1 E.2.1 dX6_allFish_0 (by decide) ?_
  refine lv_istore_n (lv' := [(1, .int 0), (0, .ref (ad 0))]) E.1 E.2.1 dX6_allFish_1 rfl hl (by decide) rfl (fun ls hl => ?_)
  refine lv_iconst (v := 0) E.1 E.2.1 dX6_allFish_2 (by decide) ?_
  refine lv_istore_n (lv' := [(2, .int 0), (1, .int 0), (0, .ref (ad 0))]) E.1 E.2.1 dX6_allFish_3 rfl hl (by decide) rfl (fun ls hl => ?_)
  refine w_X6_allFish_L4 E ?_ _ _ _ _ _ _ hf h (lv_sub hl [2, 1, 0] rfl)
  intro v4 v5 H locs ls hf h hl
  refine lv_iload_n E.1 E.2.1 dX6_allFish_27 rfl (lv_at hl 1 rfl) ?_
  exact x_irp E h hf dX6_allFish_28
set_option maxHeartbeats 4000000 in
set_option maxRecDepth 100000 in
theorem c_X6_fishMismatch (l : Launch) (D : va_G) (cy : Nat → ClassId) (s00 : State) (ad : Nat → Nat) (S : XS) (r9 : Int32) (hf : f_X6_fishMismatch S = some r9) : XI l yX6_fishMismatch cX6_fishMismatch 1 (some .int) 1 D cy s00 shRoof ad S [.ref (ad 0)] r9 S := by
  refine XI.of (by decide) [(0, .ref (ad 0))] rfl (Nat.le_of_ble_eq_true rfl) (fun p e s m args below meth c A ls E h hl => ?_)
  unfold f_X6_fishMismatch at hf
  refine lv_aload_n E.1 E.2.1 dX6_fishMismatch_0 rfl (lv_at hl 0 rfl) ?_
  refine x_callp E h hl 0 hf (fun r0 hr => c_X6_allFish l D cy s00 _ S  r0 hr) m_X6_allFish rfl rfl kw836 rfl rfl (Nat.le_of_ble_eq_true rfl) ⟨by decide, by decide⟩ ⟨Nat.zero_le _, Nat.zero_le _⟩ dX6_fishMismatch_1 (fun v1 H locs hf h => ?_)
  refine lv_iconst (v := 5) E.1 E.2.1 dX6_fishMismatch_4 (by decide) ?_
  refine lv_aload_n E.1 E.2.1 dX6_fishMismatch_5 rfl (lv_at hl 0 rfl) ?_
  refine x_get E h 0 7 rfl rfl rfl (by decide) xinX6 kw202 dX6_fishMismatch_6 ?_
  refine lv_imul E.1 E.2.1 dX6_fishMismatch_9 ?_
  refine lv_aload_n E.1 E.2.1 dX6_fishMismatch_10 rfl (lv_at hl 0 rfl) ?_
  refine x_get E h 0 14 rfl rfl rfl (by decide) xinX6 kw214 dX6_fishMismatch_11 ?_
  refine lv_iadd E.1 E.2.1 dX6_fishMismatch_14 ?_
  refine lv_aload_n E.1 E.2.1 dX6_fishMismatch_15 rfl (lv_at hl 0 rfl) ?_
  refine x_get E h 0 15 rfl rfl rfl (by decide) xinX6 kw215 dX6_fishMismatch_16 ?_
  refine lv_isub E.1 E.2.1 dX6_fishMismatch_19 ?_
  refine lv_isub E.1 E.2.1 dX6_fishMismatch_20 ?_
  refine va_mabs E.1 E.2.1 (E.2.2.1.trans hl.1.symm) E.2.2.2.1 (E.2.2.2.2.1 _ kw837) (E.2.2.2.2.1 _ kw838) (E.2.2.2.2.1 _ kw124) (E.2.2.2.2.1 _ kw839) (by decide) (Nat.le_of_ble_eq_true rfl) (Nat.zero_le _) (Nat.zero_le _) dX6_fishMismatch_21 ?_
  exact x_irp E h hf dX6_fishMismatch_24
set_option maxHeartbeats 4000000 in
set_option maxRecDepth 100000 in
theorem w_X6_sharedChimneys_L17 {p : Program} {l : Launch} {e : Env} {s : State} {m : MethodId} {args : Array Value} {below : List Frame} {meth : Method} {c : Code} {D : va_G} {cy : Nat → ClassId} {s00 : State} {ad : Nat → Nat} {A : Nat → Prop}  {r9 : Int32} {u1 : Int32} {u2 : Int32} {S : XS} {K : Int32 → Int32 → Option (Int32)} (E : XE p s m args meth c cX6_sharedChimneys 5 RX6 (some .int) D cy s00) (hk : ∀ (m3 m4 : Int32) (H : Heap) (locs : List Loc) (ls : Array Slot), K m3 m4 = some r9 → XH D cy s00 shRoof ad S A s H locs → lv_has ls 5 [(0, .ref (ad 0)), (1, .int u1), (2, .int u2), (3, .int m3), (4, .int m4)] → W p l e (xrm 0) s m args below meth c H locs 0 0 (MQ below (xqi D cy shRoof ad r9 S A) args s 0 0 A) (F0 m 46 ls [])) :
    ∀ (n : Nat) (m3 m4 : Int32) (H : Heap) (locs : List Loc) (ls : Array Slot), f_X6_sharedChimneys_L17 K S u1 u2 n m3 m4 = some r9 → XH D cy s00 shRoof ad S A s H locs → lv_has ls 5 [(0, .ref (ad 0)), (1, .int u1), (2, .int u2), (3, .int m3), (4, .int m4)] → W p l e (xrm 0) s m args below meth c H locs 0 0 (MQ below (xqi D cy shRoof ad r9 S A) args s 0 0 A) (F0 m 17 ls []) := by
  intro n
  induction n with
  | zero => intro m3 m4 H locs ls hf; cases hf
  | succ n ih =>
    intro m3 m4 H locs ls hf h hl
    rw [f_X6_sharedChimneys_L17] at hf
    refine lv_iload E.1 E.2.1 dX6_sharedChimneys_17 (lv_at hl 4 rfl) ?_
    refine lv_aload_n E.1 E.2.1 dX6_sharedChimneys_19 rfl (lv_at hl 0 rfl) ?_
    refine x_get E h 0 7 rfl rfl rfl (by decide) xinX6 kw202 dX6_sharedChimneys_20 ?_
    refine x_br hf (lv_icmp_ge (tgt := 46) E.1 E.2.1 dX6_sharedChimneys_23 (by decide)) (fun hf => ?_) (fun hf => ?_)
    · exact hk _ _ _ _ _ hf h (lv_sub hl [0, 1, 2, 3, 4] rfl)
    · refine lv_aload_n E.1 E.2.1 dX6_sharedChimneys_26 rfl (lv_at hl 0 rfl) ?_
      refine x_getr E h 0 11 9 rfl rfl rfl (by decide) xinX6 kw209 dX6_sharedChimneys_27 ?_
      refine lv_iload E.1 E.2.1 dX6_sharedChimneys_30 (lv_at hl 4 rfl) ?_
      refine x_iald E h 9 hf rfl dX6_sharedChimneys_32 (fun v1 hf => ?_)
      refine lv_iload_n E.1 E.2.1 dX6_sharedChimneys_33 rfl (lv_at hl 2 rfl) ?_
      refine x_brn hf (lv_icmp_ne (tgt := 40) E.1 E.2.1 dX6_sharedChimneys_34 (by decide)) (fun hf => ?_) (fun hf => ?_)
      · refine x_nv hf (fun v2 e9 hf => ?_)
        refine lv_iinc (v := v2) (lv' := [(4, .int v2), (0, .ref (ad 0)), (1, .int u1), (2, .int u2), (3, .int m3)]) E.1 E.2.1 dX6_sharedChimneys_40 hl (k := 4) rfl (by rw [e9]; rfl) (by decide) rfl (fun ls hl => ?_)
        refine lv_goto (tgt := 17) E.1 E.2.1 dX6_sharedChimneys_43 (by decide) ?_
        exact ih _ _ _ _ _ hf h (lv_sub hl [1, 2, 3, 4, 0] rfl)
      · refine x_nv hf (fun v3 e9 hf => ?_)
        refine lv_iinc (v := v3) (lv' := [(3, .int v3), (0, .ref (ad 0)), (1, .int u1), (2, .int u2), (4, .int m4)]) E.1 E.2.1 dX6_sharedChimneys_37 hl (k := 3) rfl (by rw [e9]; rfl) (by decide) rfl (fun ls hl => ?_)
        refine x_nv hf (fun v4 e9 hf => ?_)
        refine lv_iinc (v := v4) (lv' := [(4, .int v4), (3, .int v3), (0, .ref (ad 0)), (1, .int u1), (2, .int u2)]) E.1 E.2.1 dX6_sharedChimneys_40 hl (k := 4) rfl (by rw [e9]; rfl) (by decide) rfl (fun ls hl => ?_)
        refine lv_goto (tgt := 17) E.1 E.2.1 dX6_sharedChimneys_43 (by decide) ?_
        exact ih _ _ _ _ _ hf h (lv_sub hl [2, 3, 4, 1, 0] rfl)
set_option maxHeartbeats 4000000 in
set_option maxRecDepth 100000 in
theorem w_X6_sharedChimneys_L4 {p : Program} {l : Launch} {e : Env} {s : State} {m : MethodId} {args : Array Value} {below : List Frame} {meth : Method} {c : Code} {D : va_G} {cy : Nat → ClassId} {s00 : State} {ad : Nat → Nat} {A : Nat → Prop}  {r9 : Int32}  {S : XS} {K : Int32 → Int32 → Option (Int32)} (E : XE p s m args meth c cX6_sharedChimneys 5 RX6 (some .int) D cy s00) (hk : ∀ (m1 m2 : Int32) (H : Heap) (locs : List Loc) (ls : Array Slot), K m1 m2 = some r9 → XH D cy s00 shRoof ad S A s H locs → lv_has ls 5 [(0, .ref (ad 0)), (1, .int m1), (2, .int m2)] → W p l e (xrm 0) s m args below meth c H locs 0 0 (MQ below (xqi D cy shRoof ad r9 S A) args s 0 0 A) (F0 m 60 ls [])) :
    ∀ (n : Nat) (m1 m2 : Int32) (H : Heap) (locs : List Loc) (ls : Array Slot), f_X6_sharedChimneys_L4 K S n m1 m2 = some r9 → XH D cy s00 shRoof ad S A s H locs → lv_has ls 5 [(0, .ref (ad 0)), (1, .int m1), (2, .int m2)] → W p l e (xrm 0) s m args below meth c H locs 0 0 (MQ below (xqi D cy shRoof ad r9 S A) args s 0 0 A) (F0 m 4 ls []) := by
  intro n
  induction n with
  | zero => intro m1 m2 H locs ls hf; cases hf
  | succ n ih =>
    intro m1 m2 H locs ls hf h hl
    rw [f_X6_sharedChimneys_L4] at hf
    refine lv_iload_n E.1 E.2.1 dX6_sharedChimneys_4 rfl (lv_at hl 2 rfl) ?_
    refine lv_aload_n E.1 E.2.1 dX6_sharedChimneys_5 rfl (lv_at hl 0 rfl) ?_
    refine x_get E h 0 0 rfl rfl rfl (by decide) xinX6 kw182 dX6_sharedChimneys_6 ?_
    refine x_br hf (lv_icmp_ge (tgt := 60) E.1 E.2.1 dX6_sharedChimneys_9 (by decide)) (fun hf => ?_) (fun hf => ?_)
    · exact hk _ _ _ _ _ hf h (lv_sub hl [0, 1, 2] rfl)
    · refine lv_iconst (v := 0) E.1 E.2.1 dX6_sharedChimneys_12 (by decide) ?_
      refine lv_istore_n (lv' := [(3, .int 0), (0, .ref (ad 0)), (1, .int m1), (2, .int m2)]) E.1 E.2.1 dX6_sharedChimneys_13 rfl hl (by decide) rfl (fun ls hl => ?_)
      refine lv_iconst (v := 0) E.1 E.2.1 dX6_sharedChimneys_14 (by decide) ?_
      refine lv_istore (lv' := [(4, .int 0), (3, .int 0), (0, .ref (ad 0)), (1, .int m1), (2, .int m2)]) E.1 E.2.1 dX6_sharedChimneys_15 hl (by decide) rfl (fun ls hl => ?_)
      refine w_X6_sharedChimneys_L17 E ?_ _ _ _ _ _ _ hf h (lv_sub hl [2, 3, 4, 1, 0] rfl)
      intro v5 v6 H locs ls hf h hl
      refine lv_iload_n E.1 E.2.1 dX6_sharedChimneys_46 rfl (lv_at hl 3 rfl) ?_
      refine lv_iconst (v := 1) E.1 E.2.1 dX6_sharedChimneys_47 (by decide) ?_
      refine x_br hf (lv_icmp_le (tgt := 54) E.1 E.2.1 dX6_sharedChimneys_48 (by decide)) (fun hf => ?_) (fun hf => ?_)
      · refine x_nv hf (fun v7 e9 hf => ?_)
        refine lv_iinc (v := v7) (lv' := [(2, .int v7), (0, .ref (ad 0)), (1, .int m1), (3, .int v5), (4, .int v6)]) E.1 E.2.1 dX6_sharedChimneys_54 hl (k := 2) rfl (by rw [e9]; rfl) (by decide) rfl (fun ls hl => ?_)
        refine lv_goto (tgt := 4) E.1 E.2.1 dX6_sharedChimneys_57 (by decide) ?_
        exact ih _ _ _ _ _ hf h (lv_sub hl [1, 2, 0] rfl)
      · refine x_nv hf (fun v8 e9 hf => ?_)
        refine lv_iinc (v := v8) (lv' := [(1, .int v8), (0, .ref (ad 0)), (2, .int m2), (3, .int v5), (4, .int v6)]) E.1 E.2.1 dX6_sharedChimneys_51 hl (k := 1) rfl (by rw [e9]; rfl) (by decide) rfl (fun ls hl => ?_)
        refine x_nv hf (fun v9 e9 hf => ?_)
        refine lv_iinc (v := v9) (lv' := [(2, .int v9), (1, .int v8), (0, .ref (ad 0)), (3, .int v5), (4, .int v6)]) E.1 E.2.1 dX6_sharedChimneys_54 hl (k := 2) rfl (by rw [e9]; rfl) (by decide) rfl (fun ls hl => ?_)
        refine lv_goto (tgt := 4) E.1 E.2.1 dX6_sharedChimneys_57 (by decide) ?_
        exact ih _ _ _ _ _ hf h (lv_sub hl [2, 1, 0] rfl)
set_option maxHeartbeats 4000000 in
set_option maxRecDepth 100000 in
theorem c_X6_sharedChimneys (l : Launch) (D : va_G) (cy : Nat → ClassId) (s00 : State) (ad : Nat → Nat) (S : XS) (r9 : Int32) (hf : f_X6_sharedChimneys S = some r9) : XI l yX6_sharedChimneys cX6_sharedChimneys 5 (some .int) 0 D cy s00 shRoof ad S [.ref (ad 0)] r9 S := by
  refine XI.of (by decide) [(0, .ref (ad 0))] rfl (Nat.le_of_ble_eq_true rfl) (fun p e s m args below meth c A ls E h hl => ?_)
  unfold f_X6_sharedChimneys at hf
  refine lv_iconst (v := 0) E.1 E.2.1 dX6_sharedChimneys_0 (by decide) ?_
  refine lv_istore_n (lv' := [(1, .int 0), (0, .ref (ad 0))]) E.1 E.2.1 dX6_sharedChimneys_1 rfl hl (by decide) rfl (fun ls hl => ?_)
  refine lv_iconst (v := 0) E.1 E.2.1 dX6_sharedChimneys_2 (by decide) ?_
  refine lv_istore_n (lv' := [(2, .int 0), (1, .int 0), (0, .ref (ad 0))]) E.1 E.2.1 dX6_sharedChimneys_3 rfl hl (by decide) rfl (fun ls hl => ?_)
  refine w_X6_sharedChimneys_L4 E ?_ _ _ _ _ _ _ hf h (lv_sub hl [2, 1, 0] rfl)
  intro v10 v11 H locs ls hf h hl
  refine lv_iload_n E.1 E.2.1 dX6_sharedChimneys_60 rfl (lv_at hl 1 rfl) ?_
  exact x_irp E h hf dX6_sharedChimneys_61
set_option maxHeartbeats 4000000 in
set_option maxRecDepth 100000 in
theorem w_X6_brokenCats_L4 {p : Program} {l : Launch} {e : Env} {s : State} {m : MethodId} {args : Array Value} {below : List Frame} {meth : Method} {c : Code} {D : va_G} {cy : Nat → ClassId} {s00 : State} {ad : Nat → Nat} {A : Nat → Prop}  {r9 : Int32}  {S : XS} {K : Int32 → Int32 → Option (Int32)} (E : XE p s m args meth c cX6_brokenCats 3 RX6 (some .int) D cy s00) (hk : ∀ (m1 m2 : Int32) (H : Heap) (locs : List Loc) (ls : Array Slot), K m1 m2 = some r9 → XH D cy s00 shRoof ad S A s H locs → lv_has ls 3 [(0, .ref (ad 0)), (1, .int m1), (2, .int m2)] → W p l e (xrm 1) s m args below meth c H locs 0 0 (MQ below (xqi D cy shRoof ad r9 S A) args s 0 0 A) (F0 m 56 ls [])) :
    ∀ (n : Nat) (m1 m2 : Int32) (H : Heap) (locs : List Loc) (ls : Array Slot), f_X6_brokenCats_L4 K S n m1 m2 = some r9 → XH D cy s00 shRoof ad S A s H locs → lv_has ls 3 [(0, .ref (ad 0)), (1, .int m1), (2, .int m2)] → W p l e (xrm 1) s m args below meth c H locs 0 0 (MQ below (xqi D cy shRoof ad r9 S A) args s 0 0 A) (F0 m 4 ls []) := by
  intro n
  induction n with
  | zero => intro m1 m2 H locs ls hf; cases hf
  | succ n ih =>
    intro m1 m2 H locs ls hf h hl
    rw [f_X6_brokenCats_L4] at hf
    refine lv_iload_n E.1 E.2.1 dX6_brokenCats_4 rfl (lv_at hl 2 rfl) ?_
    refine lv_aload_n E.1 E.2.1 dX6_brokenCats_5 rfl (lv_at hl 0 rfl) ?_
    refine x_get E h 0 7 rfl rfl rfl (by decide) xinX6 kw202 dX6_brokenCats_6 ?_
    refine x_br hf (lv_icmp_ge (tgt := 56) E.1 E.2.1 dX6_brokenCats_9 (by decide)) (fun hf => ?_) (fun hf => ?_)
    · exact hk _ _ _ _ _ hf h (lv_sub hl [0, 1, 2] rfl)
    · refine lv_aload_n E.1 E.2.1 dX6_brokenCats_12 rfl (lv_at hl 0 rfl) ?_
      refine lv_iload_n E.1 E.2.1 dX6_brokenCats_13 rfl (lv_at hl 2 rfl) ?_
      refine x_callp E h hl 0 hf (fun r0 hr => c_X6_estate l D cy s00 _ S m2 r0 hr) m_X6_estate rfl rfl kw379 rfl rfl (Nat.le_of_ble_eq_true rfl) ⟨by decide, by decide⟩ ⟨Nat.zero_le _, Nat.zero_le _⟩ dX6_brokenCats_14 (fun v1 H locs hf h => ?_)
      refine x_callsp E h hl hf (fun r0 hr => c_J6_bitCount_0f7a4 l D cy s00 _ _ v1 r0 hr) m_J6_bitCount_0f7a4 kw383 rfl rfl (Nat.le_of_ble_eq_true rfl) ⟨by decide, by decide⟩ ⟨Nat.zero_le _, Nat.zero_le _⟩ dX6_brokenCats_17 (fun v2 H locs hf h => ?_)
      refine lv_iconst (v := 4) E.1 E.2.1 dX6_brokenCats_20 (by decide) ?_
      refine x_br hf (lv_icmp_le (tgt := 27) E.1 E.2.1 dX6_brokenCats_21 (by decide)) (fun hf => ?_) (fun hf => ?_)
      · refine lv_aload_n E.1 E.2.1 dX6_brokenCats_27 rfl (lv_at hl 0 rfl) ?_
        refine x_getr E h 0 10 8 rfl rfl rfl (by decide) xinX6 kw207 dX6_brokenCats_28 ?_
        refine lv_iload_n E.1 E.2.1 dX6_brokenCats_31 rfl (lv_at hl 2 rfl) ?_
        refine x_iald E h 8 hf rfl dX6_brokenCats_32 (fun v3 hf => ?_)
        refine x_br hf (lv_if_lt (tgt := 47) E.1 E.2.1 dX6_brokenCats_33 (by decide)) (fun hf => ?_) (fun hf => ?_)
        · refine x_nv hf (fun v4 e9 hf => ?_)
          refine lv_iinc (v := v4) (lv' := [(1, .int v4), (0, .ref (ad 0)), (2, .int m2)]) E.1 E.2.1 dX6_brokenCats_47 hl (k := 1) rfl (by rw [e9]; rfl) (by decide) rfl (fun ls hl => ?_)
          refine x_nv hf (fun v5 e9 hf => ?_)
          refine lv_iinc (v := v5) (lv' := [(2, .int v5), (1, .int v4), (0, .ref (ad 0))]) E.1 E.2.1 dX6_brokenCats_50 hl (k := 2) rfl (by rw [e9]; rfl) (by decide) rfl (fun ls hl => ?_)
          refine lv_goto (tgt := 4) E.1 E.2.1 dX6_brokenCats_53 (by decide) ?_
          exact ih _ _ _ _ _ hf h (lv_sub hl [2, 1, 0] rfl)
        · refine lv_aload_n E.1 E.2.1 dX6_brokenCats_36 rfl (lv_at hl 0 rfl) ?_
          refine x_getr E h 0 10 8 rfl rfl rfl (by decide) xinX6 kw207 dX6_brokenCats_37 ?_
          refine lv_iload_n E.1 E.2.1 dX6_brokenCats_40 rfl (lv_at hl 2 rfl) ?_
          refine x_iald E h 8 hf rfl dX6_brokenCats_41 (fun v6 hf => ?_)
          refine lv_bipush (v := 99) E.1 E.2.1 dX6_brokenCats_42 (by decide) ?_
          refine x_br hf (lv_icmp_le (tgt := 50) E.1 E.2.1 dX6_brokenCats_44 (by decide)) (fun hf => ?_) (fun hf => ?_)
          · refine x_nv hf (fun v7 e9 hf => ?_)
            refine lv_iinc (v := v7) (lv' := [(2, .int v7), (0, .ref (ad 0)), (1, .int m1)]) E.1 E.2.1 dX6_brokenCats_50 hl (k := 2) rfl (by rw [e9]; rfl) (by decide) rfl (fun ls hl => ?_)
            refine lv_goto (tgt := 4) E.1 E.2.1 dX6_brokenCats_53 (by decide) ?_
            exact ih _ _ _ _ _ hf h (lv_sub hl [1, 2, 0] rfl)
          · refine x_nv hf (fun v8 e9 hf => ?_)
            refine lv_iinc (v := v8) (lv' := [(1, .int v8), (0, .ref (ad 0)), (2, .int m2)]) E.1 E.2.1 dX6_brokenCats_47 hl (k := 1) rfl (by rw [e9]; rfl) (by decide) rfl (fun ls hl => ?_)
            refine x_nv hf (fun v9 e9 hf => ?_)
            refine lv_iinc (v := v9) (lv' := [(2, .int v9), (1, .int v8), (0, .ref (ad 0))]) E.1 E.2.1 dX6_brokenCats_50 hl (k := 2) rfl (by rw [e9]; rfl) (by decide) rfl (fun ls hl => ?_)
            refine lv_goto (tgt := 4) E.1 E.2.1 dX6_brokenCats_53 (by decide) ?_
            exact ih _ _ _ _ _ hf h (lv_sub hl [2, 1, 0] rfl)
      · refine x_nv hf (fun v10 e9 hf => ?_)
        refine lv_iinc (v := v10) (lv' := [(1, .int v10), (0, .ref (ad 0)), (2, .int m2)]) E.1 E.2.1 dX6_brokenCats_24 hl (k := 1) rfl (by rw [e9]; rfl) (by decide) rfl (fun ls hl => ?_)
        refine lv_aload_n E.1 E.2.1 dX6_brokenCats_27 rfl (lv_at hl 1 rfl) ?_
        refine x_getr E h 0 10 8 rfl rfl rfl (by decide) xinX6 kw207 dX6_brokenCats_28 ?_
        refine lv_iload_n E.1 E.2.1 dX6_brokenCats_31 rfl (lv_at hl 2 rfl) ?_
        refine x_iald E h 8 hf rfl dX6_brokenCats_32 (fun v11 hf => ?_)
        refine x_br hf (lv_if_lt (tgt := 47) E.1 E.2.1 dX6_brokenCats_33 (by decide)) (fun hf => ?_) (fun hf => ?_)
        · refine x_nv hf (fun v12 e9 hf => ?_)
          refine lv_iinc (v := v12) (lv' := [(1, .int v12), (0, .ref (ad 0)), (2, .int m2)]) E.1 E.2.1 dX6_brokenCats_47 hl (k := 0) rfl (by rw [e9]; rfl) (by decide) rfl (fun ls hl => ?_)
          refine x_nv hf (fun v13 e9 hf => ?_)
          refine lv_iinc (v := v13) (lv' := [(2, .int v13), (1, .int v12), (0, .ref (ad 0))]) E.1 E.2.1 dX6_brokenCats_50 hl (k := 2) rfl (by rw [e9]; rfl) (by decide) rfl (fun ls hl => ?_)
          refine lv_goto (tgt := 4) E.1 E.2.1 dX6_brokenCats_53 (by decide) ?_
          exact ih _ _ _ _ _ hf h (lv_sub hl [2, 1, 0] rfl)
        · refine lv_aload_n E.1 E.2.1 dX6_brokenCats_36 rfl (lv_at hl 1 rfl) ?_
          refine x_getr E h 0 10 8 rfl rfl rfl (by decide) xinX6 kw207 dX6_brokenCats_37 ?_
          refine lv_iload_n E.1 E.2.1 dX6_brokenCats_40 rfl (lv_at hl 2 rfl) ?_
          refine x_iald E h 8 hf rfl dX6_brokenCats_41 (fun v14 hf => ?_)
          refine lv_bipush (v := 99) E.1 E.2.1 dX6_brokenCats_42 (by decide) ?_
          refine x_br hf (lv_icmp_le (tgt := 50) E.1 E.2.1 dX6_brokenCats_44 (by decide)) (fun hf => ?_) (fun hf => ?_)
          · refine x_nv hf (fun v15 e9 hf => ?_)
            refine lv_iinc (v := v15) (lv' := [(2, .int v15), (1, .int v10), (0, .ref (ad 0))]) E.1 E.2.1 dX6_brokenCats_50 hl (k := 2) rfl (by rw [e9]; rfl) (by decide) rfl (fun ls hl => ?_)
            refine lv_goto (tgt := 4) E.1 E.2.1 dX6_brokenCats_53 (by decide) ?_
            exact ih _ _ _ _ _ hf h (lv_sub hl [2, 1, 0] rfl)
          · refine x_nv hf (fun v16 e9 hf => ?_)
            refine lv_iinc (v := v16) (lv' := [(1, .int v16), (0, .ref (ad 0)), (2, .int m2)]) E.1 E.2.1 dX6_brokenCats_47 hl (k := 0) rfl (by rw [e9]; rfl) (by decide) rfl (fun ls hl => ?_)
            refine x_nv hf (fun v17 e9 hf => ?_)
            refine lv_iinc (v := v17) (lv' := [(2, .int v17), (1, .int v16), (0, .ref (ad 0))]) E.1 E.2.1 dX6_brokenCats_50 hl (k := 2) rfl (by rw [e9]; rfl) (by decide) rfl (fun ls hl => ?_)
            refine lv_goto (tgt := 4) E.1 E.2.1 dX6_brokenCats_53 (by decide) ?_
            exact ih _ _ _ _ _ hf h (lv_sub hl [2, 1, 0] rfl)
set_option maxHeartbeats 4000000 in
set_option maxRecDepth 100000 in
theorem c_X6_brokenCats (l : Launch) (D : va_G) (cy : Nat → ClassId) (s00 : State) (ad : Nat → Nat) (S : XS) (r9 : Int32) (hf : f_X6_brokenCats S = some r9) : XI l yX6_brokenCats cX6_brokenCats 3 (some .int) 1 D cy s00 shRoof ad S [.ref (ad 0)] r9 S := by
  refine XI.of (by decide) [(0, .ref (ad 0))] rfl (Nat.le_of_ble_eq_true rfl) (fun p e s m args below meth c A ls E h hl => ?_)
  unfold f_X6_brokenCats at hf
  refine lv_iconst (v := 0) E.1 E.2.1 dX6_brokenCats_0 (by decide) ?_
  refine lv_istore_n (lv' := [(1, .int 0), (0, .ref (ad 0))]) E.1 E.2.1 dX6_brokenCats_1 rfl hl (by decide) rfl (fun ls hl => ?_)
  refine lv_iconst (v := 0) E.1 E.2.1 dX6_brokenCats_2 (by decide) ?_
  refine lv_istore_n (lv' := [(2, .int 0), (1, .int 0), (0, .ref (ad 0))]) E.1 E.2.1 dX6_brokenCats_3 rfl hl (by decide) rfl (fun ls hl => ?_)
  refine w_X6_brokenCats_L4 E ?_ _ _ _ _ _ _ hf h (lv_sub hl [2, 1, 0] rfl)
  intro v18 v19 H locs ls hf h hl
  refine lv_iload_n E.1 E.2.1 dX6_brokenCats_56 rfl (lv_at hl 1 rfl) ?_
  exact x_irp E h hf dX6_brokenCats_57
