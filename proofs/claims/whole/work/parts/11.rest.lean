theorem kw287 : Cond.fieldLink RX4 15 (TX4 1).1 (TX4 1).2.1 (TX4 1).2.2.1 ∈ lwX := kw 287 (by decide +kernel) (by decide +kernel)
theorem kw286 : Cond.fieldLink RX4 9 (TX4 0).1 (TX4 0).2.1 (TX4 0).2.2.1 ∈ lwX := kw 286 (by decide +kernel) (by decide +kernel)
theorem kw289 : Cond.fieldLink RX4 19 (TX4 2).1 (TX4 2).2.1 (TX4 2).2.2.1 ∈ lwX := kw 289 (by decide +kernel) (by decide +kernel)
theorem kw293 : Cond.fieldLink RX4 25 (TX4 4).1 (TX4 4).2.1 (TX4 4).2.2.1 ∈ lwX := kw 293 (by decide +kernel) (by decide +kernel)
theorem kw295 : Cond.fieldLink RX4 28 (TX4 5).1 (TX4 5).2.1 (TX4 5).2.2.1 ∈ lwX := kw 295 (by decide +kernel) (by decide +kernel)
theorem kw291 : Cond.fieldLink RX4 22 (TX4 3).1 (TX4 3).2.1 (TX4 3).2.2.1 ∈ lwX := kw 291 (by decide +kernel) (by decide +kernel)
theorem kw490 : Cond.methodLink RX4 31 yX4_kindOf ∈ lwX := kw 490 (by decide +kernel) (by decide +kernel)
theorem kw492 : Cond.instanceMethod yX4_kindOf ∈ lwX := kw 492 (by decide +kernel) (by decide +kernel)
theorem kw5 : Cond.selects RX4 yX4_kindOf yX4_kindOf ∈ lwX := kw 5 (by decide +kernel) (by decide +kernel)
theorem kw121 : Cond.initialized RX4 ∈ lwX := kw 121 (by decide +kernel) (by decide +kernel)
theorem kw493 : Cond.code yX4_kindOf cX4_kindOf 2 (some .int) ∈ lwX := kw 493 (by decide +kernel) (by decide +kernel)
theorem kw494 : Cond.methodLink RX4 35 yX4_readNumber ∈ lwX := kw 494 (by decide +kernel) (by decide +kernel)
theorem kw496 : Cond.instanceMethod yX4_readNumber ∈ lwX := kw 496 (by decide +kernel) (by decide +kernel)
theorem kw6 : Cond.selects RX4 yX4_readNumber yX4_readNumber ∈ lwX := kw 6 (by decide +kernel) (by decide +kernel)
theorem kw497 : Cond.code yX4_readNumber cX4_readNumber 2 none ∈ lwX := kw 497 (by decide +kernel) (by decide +kernel)
theorem kw503 : Cond.methodLink RX4 38 yJ0_length_8abf5 ∈ lwX := kw 503 (by decide +kernel) (by decide +kernel)
theorem kw513 : Cond.methodLink RX4 43 yJ0_charAt_5068e ∈ lwX := kw 513 (by decide +kernel) (by decide +kernel)
theorem kw315 : Cond.fieldLink RX7 21 (TX7 1).1 (TX7 1).2.1 (TX7 1).2.2.1 ∈ lwX := kw 315 (by decide +kernel) (by decide +kernel)
theorem kw470 : Cond.methodLink RX7 75 yX6_clear ∈ lwX := kw 470 (by decide +kernel) (by decide +kernel)
theorem kw471 : Cond.instanceMethod yX6_clear ∈ lwX := kw 471 (by decide +kernel) (by decide +kernel)
theorem kw472 : Cond.selects RX6 yX6_clear yX6_clear ∈ lwX := kw 472 (by decide +kernel) (by decide +kernel)
theorem kw473 : Cond.code yX6_clear cX6_clear 1 none ∈ lwX := kw 473 (by decide +kernel) (by decide +kernel)
theorem kw313 : Cond.fieldLink RX7 12 (TX7 0).1 (TX7 0).2.1 (TX7 0).2.2.1 ∈ lwX := kw 313 (by decide +kernel) (by decide +kernel)
theorem kw290 : Cond.fieldLink RX7 78 (TX4 2).1 (TX4 2).2.1 (TX4 2).2.2.1 ∈ lwX := kw 290 (by decide +kernel) (by decide +kernel)
theorem kw317 : Cond.fieldLink RX7 25 (TX7 2).1 (TX7 2).2.1 (TX7 2).2.2.1 ∈ lwX := kw 317 (by decide +kernel) (by decide +kernel)
theorem kw319 : Cond.fieldLink RX7 29 (TX7 3).1 (TX7 3).2.1 (TX7 3).2.2.1 ∈ lwX := kw 319 (by decide +kernel) (by decide +kernel)
theorem kw322 : Cond.fieldLink RX7 36 (TX7 5).1 (TX7 5).2.1 (TX7 5).2.2.1 ∈ lwX := kw 322 (by decide +kernel) (by decide +kernel)
theorem kw323 : Cond.fieldLink RX7 40 (TX7 6).1 (TX7 6).2.1 (TX7 6).2.2.1 ∈ lwX := kw 323 (by decide +kernel) (by decide +kernel)
theorem kw324 : Cond.fieldLink RX7 43 (TX7 7).1 (TX7 7).2.1 (TX7 7).2.2.1 ∈ lwX := kw 324 (by decide +kernel) (by decide +kernel)
theorem kw294 : Cond.fieldLink RX7 81 (TX4 4).1 (TX4 4).2.1 (TX4 4).2.2.1 ∈ lwX := kw 294 (by decide +kernel) (by decide +kernel)
theorem kw486 : Cond.methodLink RX7 84 yX4_next ∈ lwX := kw 486 (by decide +kernel) (by decide +kernel)
theorem kw487 : Cond.instanceMethod yX4_next ∈ lwX := kw 487 (by decide +kernel) (by decide +kernel)
theorem kw488 : Cond.selects RX4 yX4_next yX4_next ∈ lwX := kw 488 (by decide +kernel) (by decide +kernel)
theorem kw489 : Cond.code yX4_next cX4_next 1 none ∈ lwX := kw 489 (by decide +kernel) (by decide +kernel)
theorem kw292 : Cond.fieldLink RX7 87 (TX4 3).1 (TX4 3).2.1 (TX4 3).2.2.1 ∈ lwX := kw 292 (by decide +kernel) (by decide +kernel)
theorem kw555 : Cond.methodLink RX7 67 yX7_fail ∈ lwX := kw 555 (by decide +kernel) (by decide +kernel)
theorem kw557 : Cond.instanceMethod yX7_fail ∈ lwX := kw 557 (by decide +kernel) (by decide +kernel)
theorem kw8 : Cond.selects RX7 yX7_fail yX7_fail ∈ lwX := kw 8 (by decide +kernel) (by decide +kernel)
theorem kw120 : Cond.initialized RX7 ∈ lwX := kw 120 (by decide +kernel) (by decide +kernel)
theorem kw558 : Cond.code yX7_fail cX7_fail 2 none ∈ lwX := kw 558 (by decide +kernel) (by decide +kernel)
theorem kw499 : Cond.methodLink RX7 91 yX4_isWord ∈ lwX := kw 499 (by decide +kernel) (by decide +kernel)
theorem kw500 : Cond.instanceMethod yX4_isWord ∈ lwX := kw 500 (by decide +kernel) (by decide +kernel)
theorem kw501 : Cond.selects RX4 yX4_isWord yX4_isWord ∈ lwX := kw 501 (by decide +kernel) (by decide +kernel)
theorem kw502 : Cond.code yX4_isWord cX4_isWord 3 (some .boolean) ∈ lwX := kw 502 (by decide +kernel) (by decide +kernel)
theorem kw551 : Cond.methodLink RX7 95 yX7_expect ∈ lwX := kw 551 (by decide +kernel) (by decide +kernel)
theorem kw553 : Cond.instanceMethod yX7_expect ∈ lwX := kw 553 (by decide +kernel) (by decide +kernel)
theorem kw7 : Cond.selects RX7 yX7_expect yX7_expect ∈ lwX := kw 7 (by decide +kernel) (by decide +kernel)
theorem kw554 : Cond.code yX7_expect cX7_expect 2 (some .boolean) ∈ lwX := kw 554 (by decide +kernel) (by decide +kernel)
theorem kw326 : Cond.fieldLink RX7 49 (TX7 9).1 (TX7 9).2.1 (TX7 9).2.2.1 ∈ lwX := kw 326 (by decide +kernel) (by decide +kernel)
theorem kw325 : Cond.fieldLink RX7 46 (TX7 8).1 (TX7 8).2.1 (TX7 8).2.2.1 ∈ lwX := kw 325 (by decide +kernel) (by decide +kernel)
theorem kw572 : Cond.fieldLink RX7 117 "RooftopCats$Script" "COMMANDS" "[LRooftopCats$Command;" ∈ lwX := kw 572 (by decide +kernel) (by decide +kernel)
theorem kw2027 : Cond.fieldLink RX7 121 xCmd "word" "Ljava/lang/String;" ∈ lwX := kw 2027 (by decide +kernel) (by decide +kernel)
theorem kw594 : Cond.methodLink RX7 148 yX6_hasCat ∈ lwX := kw 594 (by decide +kernel) (by decide +kernel)
theorem kw595 : Cond.instanceMethod yX6_hasCat ∈ lwX := kw 595 (by decide +kernel) (by decide +kernel)
theorem kw596 : Cond.selects RX6 yX6_hasCat yX6_hasCat ∈ lwX := kw 596 (by decide +kernel) (by decide +kernel)
theorem kw597 : Cond.code yX6_hasCat cX6_hasCat 2 (some .boolean) ∈ lwX := kw 597 (by decide +kernel) (by decide +kernel)
theorem kw321 : Cond.fieldLink RX7 32 (TX7 4).1 (TX7 4).2.1 (TX7 4).2.2.1 ∈ lwX := kw 321 (by decide +kernel) (by decide +kernel)
theorem kw590 : Cond.methodLink RX7 145 yX6_hasChimney ∈ lwX := kw 590 (by decide +kernel) (by decide +kernel)
theorem kw591 : Cond.instanceMethod yX6_hasChimney ∈ lwX := kw 591 (by decide +kernel) (by decide +kernel)
theorem kw592 : Cond.selects RX6 yX6_hasChimney yX6_hasChimney ∈ lwX := kw 592 (by decide +kernel) (by decide +kernel)
theorem kw593 : Cond.code yX6_hasChimney cX6_hasChimney 2 (some .boolean) ∈ lwX := kw 593 (by decide +kernel) (by decide +kernel)
theorem kw598 : Cond.methodLink RX7 151 yX6_hasGutter ∈ lwX := kw 598 (by decide +kernel) (by decide +kernel)
theorem kw599 : Cond.instanceMethod yX6_hasGutter ∈ lwX := kw 599 (by decide +kernel) (by decide +kernel)
theorem kw600 : Cond.selects RX6 yX6_hasGutter yX6_hasGutter ∈ lwX := kw 600 (by decide +kernel) (by decide +kernel)
theorem kw601 : Cond.code yX6_hasGutter cX6_hasGutter 2 (some .boolean) ∈ lwX := kw 601 (by decide +kernel) (by decide +kernel)
theorem kw2028 : Cond.fieldLink RX7 125 xCmd "places" "Ljava/lang/String;" ∈ lwX := kw 2028 (by decide +kernel) (by decide +kernel)
theorem kw584 : Cond.methodLink RX7 128 yJ0_length_8abf5 ∈ lwX := kw 584 (by decide +kernel) (by decide +kernel)
theorem kw585 : Cond.methodLink RX7 134 yJ0_charAt_5068e ∈ lwX := kw 585 (by decide +kernel) (by decide +kernel)
theorem kw296 : Cond.fieldLink RX7 138 (TX4 5).1 (TX4 5).2.1 (TX4 5).2.2.1 ∈ lwX := kw 296 (by decide +kernel) (by decide +kernel)
theorem kw586 : Cond.methodLink RX7 141 yX7_fits ∈ lwX := kw 586 (by decide +kernel) (by decide +kernel)
theorem kw588 : Cond.instanceMethod yX7_fits ∈ lwX := kw 588 (by decide +kernel) (by decide +kernel)
theorem kw14 : Cond.selects RX7 yX7_fits yX7_fits ∈ lwX := kw 14 (by decide +kernel) (by decide +kernel)
theorem kw589 : Cond.code yX7_fits cX7_fits 3 (some .boolean) ∈ lwX := kw 589 (by decide +kernel) (by decide +kernel)
theorem kw574 : Cond.fieldLink RX7 105 "RooftopCats$Command" "REPEAT" "LRooftopCats$Command;" ∈ lwX := kw 574 (by decide +kernel) (by decide +kernel)
theorem kw580 : Cond.methodLink RX7 114 yX7_readNumbers ∈ lwX := kw 580 (by decide +kernel) (by decide +kernel)
theorem kw582 : Cond.instanceMethod yX7_readNumbers ∈ lwX := kw 582 (by decide +kernel) (by decide +kernel)
theorem kw13 : Cond.selects RX7 yX7_readNumbers yX7_readNumbers ∈ lwX := kw 13 (by decide +kernel) (by decide +kernel)
theorem kw583 : Cond.code yX7_readNumbers cX7_readNumbers 4 (some .boolean) ∈ lwX := kw 583 (by decide +kernel) (by decide +kernel)
theorem kw568 : Cond.methodLink RX7 102 yX7_commandHere ∈ lwX := kw 568 (by decide +kernel) (by decide +kernel)
theorem kw570 : Cond.instanceMethod yX7_commandHere ∈ lwX := kw 570 (by decide +kernel) (by decide +kernel)
theorem kw11 : Cond.selects RX7 yX7_commandHere yX7_commandHere ∈ lwX := kw 11 (by decide +kernel) (by decide +kernel)
theorem kw571 : Cond.code yX7_commandHere cX7_commandHere 2 (some (.object xCmd)) ∈ lwX := kw 571 (by decide +kernel) (by decide +kernel)
theorem kw576 : Cond.methodLink RX7 111 yX7_openRepeat ∈ lwX := kw 576 (by decide +kernel) (by decide +kernel)
theorem kw578 : Cond.instanceMethod yX7_openRepeat ∈ lwX := kw 578 (by decide +kernel) (by decide +kernel)
theorem kw12 : Cond.selects RX7 yX7_openRepeat yX7_openRepeat ∈ lwX := kw 12 (by decide +kernel) (by decide +kernel)
theorem kw579 : Cond.code yX7_openRepeat cX7_openRepeat 1 none ∈ lwX := kw 579 (by decide +kernel) (by decide +kernel)
theorem kw564 : Cond.methodLink RX7 99 yX7_closeRound ∈ lwX := kw 564 (by decide +kernel) (by decide +kernel)
theorem kw566 : Cond.instanceMethod yX7_closeRound ∈ lwX := kw 566 (by decide +kernel) (by decide +kernel)
theorem kw10 : Cond.selects RX7 yX7_closeRound yX7_closeRound ∈ lwX := kw 10 (by decide +kernel) (by decide +kernel)
theorem kw567 : Cond.code yX7_closeRound cX7_closeRound 2 none ∈ lwX := kw 567 (by decide +kernel) (by decide +kernel)
theorem kw606 : Cond.fieldLink RX7 154 "RooftopCats$1" "$SwitchMap$RooftopCats$Command" "[I" ∈ lwX := kw 606 (by decide +kernel) (by decide +kernel)
theorem kw608 : Cond.methodLink RX7 159 yOrd ∈ lwX := kw 608 (by decide +kernel) (by decide +kernel)
theorem kw185 : Cond.fieldLink RX7 162 (TX6 0).1 (TX6 0).2.1 (TX6 0).2.2.1 ∈ lwX := kw 185 (by decide +kernel) (by decide +kernel)
theorem kw195 : Cond.fieldLink RX7 165 (TX6 3).1 (TX6 3).2.1 (TX6 3).2.2.1 ∈ lwX := kw 195 (by decide +kernel) (by decide +kernel)
theorem kw614 : Cond.methodLink RX7 168 yX6_refusesCat ∈ lwX := kw 614 (by decide +kernel) (by decide +kernel)
theorem kw615 : Cond.instanceMethod yX6_refusesCat ∈ lwX := kw 615 (by decide +kernel) (by decide +kernel)
theorem kw616 : Cond.selects RX6 yX6_refusesCat yX6_refusesCat ∈ lwX := kw 616 (by decide +kernel) (by decide +kernel)
theorem kw617 : Cond.code yX6_refusesCat cX6_refusesCat 2 (some .boolean) ∈ lwX := kw 617 (by decide +kernel) (by decide +kernel)
theorem kw622 : Cond.methodLink RX7 171 yX6_stepRefusal ∈ lwX := kw 622 (by decide +kernel) (by decide +kernel)
theorem kw623 : Cond.instanceMethod yX6_stepRefusal ∈ lwX := kw 623 (by decide +kernel) (by decide +kernel)
theorem kw624 : Cond.selects RX6 yX6_stepRefusal yX6_stepRefusal ∈ lwX := kw 624 (by decide +kernel) (by decide +kernel)
theorem kw625 : Cond.code yX6_stepRefusal cX6_stepRefusal 4 (some .int) ∈ lwX := kw 625 (by decide +kernel) (by decide +kernel)
theorem kw638 : Cond.methodLink RX7 175 yX6_claimRefusal ∈ lwX := kw 638 (by decide +kernel) (by decide +kernel)
theorem kw639 : Cond.instanceMethod yX6_claimRefusal ∈ lwX := kw 639 (by decide +kernel) (by decide +kernel)
theorem kw640 : Cond.selects RX6 yX6_claimRefusal yX6_claimRefusal ∈ lwX := kw 640 (by decide +kernel) (by decide +kernel)
theorem kw641 : Cond.code yX6_claimRefusal cX6_claimRefusal 2 (some .int) ∈ lwX := kw 641 (by decide +kernel) (by decide +kernel)
theorem kw192 : Cond.fieldLink RX7 179 (TX6 2).1 (TX6 2).2.1 (TX6 2).2.2.1 ∈ lwX := kw 192 (by decide +kernel) (by decide +kernel)
theorem kw646 : Cond.methodLink RX7 182 yX6_chaseRefusal ∈ lwX := kw 646 (by decide +kernel) (by decide +kernel)
theorem kw647 : Cond.instanceMethod yX6_chaseRefusal ∈ lwX := kw 647 (by decide +kernel) (by decide +kernel)
theorem kw648 : Cond.selects RX6 yX6_chaseRefusal yX6_chaseRefusal ∈ lwX := kw 648 (by decide +kernel) (by decide +kernel)
theorem kw649 : Cond.code yX6_chaseRefusal cX6_chaseRefusal 3 (some .int) ∈ lwX := kw 649 (by decide +kernel) (by decide +kernel)
theorem kw658 : Cond.methodLink RX7 185 yX6_refusesTruce ∈ lwX := kw 658 (by decide +kernel) (by decide +kernel)
theorem kw659 : Cond.instanceMethod yX6_refusesTruce ∈ lwX := kw 659 (by decide +kernel) (by decide +kernel)
theorem kw660 : Cond.selects RX6 yX6_refusesTruce yX6_refusesTruce ∈ lwX := kw 660 (by decide +kernel) (by decide +kernel)
theorem kw661 : Cond.code yX6_refusesTruce cX6_refusesTruce 4 (some .boolean) ∈ lwX := kw 661 (by decide +kernel) (by decide +kernel)
theorem kw662 : Cond.methodLink RX7 189 yX6_refusesKitten ∈ lwX := kw 662 (by decide +kernel) (by decide +kernel)
theorem kw663 : Cond.instanceMethod yX6_refusesKitten ∈ lwX := kw 663 (by decide +kernel) (by decide +kernel)
theorem kw664 : Cond.selects RX6 yX6_refusesKitten yX6_refusesKitten ∈ lwX := kw 664 (by decide +kernel) (by decide +kernel)
theorem kw665 : Cond.code yX6_refusesKitten cX6_refusesKitten 1 (some .boolean) ∈ lwX := kw 665 (by decide +kernel) (by decide +kernel)
theorem kw666 : Cond.methodLink RX7 193 yX6_refusesVote ∈ lwX := kw 666 (by decide +kernel) (by decide +kernel)
theorem kw667 : Cond.instanceMethod yX6_refusesVote ∈ lwX := kw 667 (by decide +kernel) (by decide +kernel)
theorem kw668 : Cond.selects RX6 yX6_refusesVote yX6_refusesVote ∈ lwX := kw 668 (by decide +kernel) (by decide +kernel)
theorem kw669 : Cond.code yX6_refusesVote cX6_refusesVote 2 (some .boolean) ∈ lwX := kw 669 (by decide +kernel) (by decide +kernel)
theorem kw670 : Cond.methodLink RX7 196 yX6_refusesNights ∈ lwX := kw 670 (by decide +kernel) (by decide +kernel)
theorem kw671 : Cond.instanceMethod yX6_refusesNights ∈ lwX := kw 671 (by decide +kernel) (by decide +kernel)
theorem kw672 : Cond.selects RX6 yX6_refusesNights yX6_refusesNights ∈ lwX := kw 672 (by decide +kernel) (by decide +kernel)
theorem kw673 : Cond.code yX6_refusesNights cX6_refusesNights 2 (some .boolean) ∈ lwX := kw 673 (by decide +kernel) (by decide +kernel)
theorem kw678 : Cond.methodLink RX7 199 yX6_putChimney ∈ lwX := kw 678 (by decide +kernel) (by decide +kernel)
theorem kw364 : Cond.instanceMethod yX6_putChimney ∈ lwX := kw 364 (by decide +kernel) (by decide +kernel)
theorem kw365 : Cond.selects RX6 yX6_putChimney yX6_putChimney ∈ lwX := kw 365 (by decide +kernel) (by decide +kernel)
theorem kw366 : Cond.code yX6_putChimney cX6_putChimney 2 (some .int) ∈ lwX := kw 366 (by decide +kernel) (by decide +kernel)
theorem kw679 : Cond.methodLink RX7 202 yX6_putGutter ∈ lwX := kw 679 (by decide +kernel) (by decide +kernel)
theorem kw368 : Cond.instanceMethod yX6_putGutter ∈ lwX := kw 368 (by decide +kernel) (by decide +kernel)
theorem kw369 : Cond.selects RX6 yX6_putGutter yX6_putGutter ∈ lwX := kw 369 (by decide +kernel) (by decide +kernel)
theorem kw370 : Cond.code yX6_putGutter cX6_putGutter 4 (some .int) ∈ lwX := kw 370 (by decide +kernel) (by decide +kernel)
theorem kw680 : Cond.methodLink RX7 206 yX6_putCat ∈ lwX := kw 680 (by decide +kernel) (by decide +kernel)
theorem kw681 : Cond.methodLink RX7 209 yX6_walk ∈ lwX := kw 681 (by decide +kernel) (by decide +kernel)
theorem kw682 : Cond.instanceMethod yX6_walk ∈ lwX := kw 682 (by decide +kernel) (by decide +kernel)
theorem kw683 : Cond.selects RX6 yX6_walk yX6_walk ∈ lwX := kw 683 (by decide +kernel) (by decide +kernel)
theorem kw684 : Cond.code yX6_walk cX6_walk 3 (some .int) ∈ lwX := kw 684 (by decide +kernel) (by decide +kernel)
theorem kw685 : Cond.methodLink RX7 212 yX6_takeSeat ∈ lwX := kw 685 (by decide +kernel) (by decide +kernel)
theorem kw376 : Cond.instanceMethod yX6_takeSeat ∈ lwX := kw 376 (by decide +kernel) (by decide +kernel)
theorem kw377 : Cond.selects RX6 yX6_takeSeat yX6_takeSeat ∈ lwX := kw 377 (by decide +kernel) (by decide +kernel)
theorem kw378 : Cond.code yX6_takeSeat cX6_takeSeat 2 (some .int) ∈ lwX := kw 378 (by decide +kernel) (by decide +kernel)
theorem kw686 : Cond.methodLink RX7 215 yX6_release ∈ lwX := kw 686 (by decide +kernel) (by decide +kernel)
theorem kw687 : Cond.instanceMethod yX6_release ∈ lwX := kw 687 (by decide +kernel) (by decide +kernel)
theorem kw688 : Cond.selects RX6 yX6_release yX6_release ∈ lwX := kw 688 (by decide +kernel) (by decide +kernel)
theorem kw689 : Cond.code yX6_release cX6_release 3 (some .int) ∈ lwX := kw 689 (by decide +kernel) (by decide +kernel)
theorem kw690 : Cond.methodLink RX7 218 yX6_driveAway ∈ lwX := kw 690 (by decide +kernel) (by decide +kernel)
theorem kw691 : Cond.instanceMethod yX6_driveAway ∈ lwX := kw 691 (by decide +kernel) (by decide +kernel)
theorem kw692 : Cond.selects RX6 yX6_driveAway yX6_driveAway ∈ lwX := kw 692 (by decide +kernel) (by decide +kernel)
theorem kw693 : Cond.code yX6_driveAway cX6_driveAway 4 (some .boolean) ∈ lwX := kw 693 (by decide +kernel) (by decide +kernel)
theorem kw694 : Cond.methodLink RX7 221 yX6_agreeTruce ∈ lwX := kw 694 (by decide +kernel) (by decide +kernel)
theorem kw390 : Cond.instanceMethod yX6_agreeTruce ∈ lwX := kw 390 (by decide +kernel) (by decide +kernel)
theorem kw391 : Cond.selects RX6 yX6_agreeTruce yX6_agreeTruce ∈ lwX := kw 391 (by decide +kernel) (by decide +kernel)
theorem kw392 : Cond.code yX6_agreeTruce cX6_agreeTruce 6 (some .int) ∈ lwX := kw 392 (by decide +kernel) (by decide +kernel)
theorem kw218 : Cond.fieldLink RX7 225 (TX6 16).1 (TX6 16).2.1 (TX6 16).2.2.1 ∈ lwX := kw 218 (by decide +kernel) (by decide +kernel)
theorem kw695 : Cond.methodLink RX7 229 yX3_arrive ∈ lwX := kw 695 (by decide +kernel) (by decide +kernel)
theorem kw696 : Cond.instanceMethod yX3_arrive ∈ lwX := kw 696 (by decide +kernel) (by decide +kernel)
theorem kw697 : Cond.selects RX3 yX3_arrive yX3_arrive ∈ lwX := kw 697 (by decide +kernel) (by decide +kernel)
theorem kw698 : Cond.code yX3_arrive cX3_arrive 3 none ∈ lwX := kw 698 (by decide +kernel) (by decide +kernel)
theorem kw699 : Cond.fieldLink RX7 235 "RooftopCats$Command" "YES" "LRooftopCats$Command;" ∈ lwX := kw 699 (by decide +kernel) (by decide +kernel)
theorem kw701 : Cond.methodLink RX7 238 yX6_takeVote ∈ lwX := kw 701 (by decide +kernel) (by decide +kernel)
theorem kw702 : Cond.instanceMethod yX6_takeVote ∈ lwX := kw 702 (by decide +kernel) (by decide +kernel)
theorem kw703 : Cond.selects RX6 yX6_takeVote yX6_takeVote ∈ lwX := kw 703 (by decide +kernel) (by decide +kernel)
theorem kw704 : Cond.code yX6_takeVote cX6_takeVote 7 (some .boolean) ∈ lwX := kw 704 (by decide +kernel) (by decide +kernel)
theorem kw714 : Cond.methodLink RX7 242 yX6_spendNights ∈ lwX := kw 714 (by decide +kernel) (by decide +kernel)
theorem kw394 : Cond.instanceMethod yX6_spendNights ∈ lwX := kw 394 (by decide +kernel) (by decide +kernel)
theorem kw395 : Cond.selects RX6 yX6_spendNights yX6_spendNights ∈ lwX := kw 395 (by decide +kernel) (by decide +kernel)
theorem kw396 : Cond.code yX6_spendNights cX6_spendNights 5 (some .int) ∈ lwX := kw 396 (by decide +kernel) (by decide +kernel)
theorem kw466 : Cond.methodLink RX7 52 yX7_begin ∈ lwX := kw 466 (by decide +kernel) (by decide +kernel)
theorem kw468 : Cond.instanceMethod yX7_begin ∈ lwX := kw 468 (by decide +kernel) (by decide +kernel)
theorem kw3 : Cond.selects RX7 yX7_begin yX7_begin ∈ lwX := kw 3 (by decide +kernel) (by decide +kernel)
theorem kw469 : Cond.code yX7_begin cX7_begin 1 none ∈ lwX := kw 469 (by decide +kernel) (by decide +kernel)
theorem kw482 : Cond.methodLink RX7 55 yX7_readHead ∈ lwX := kw 482 (by decide +kernel) (by decide +kernel)
theorem kw484 : Cond.instanceMethod yX7_readHead ∈ lwX := kw 484 (by decide +kernel) (by decide +kernel)
theorem kw4 : Cond.selects RX7 yX7_readHead yX7_readHead ∈ lwX := kw 4 (by decide +kernel) (by decide +kernel)
theorem kw485 : Cond.code yX7_readHead cX7_readHead 1 none ∈ lwX := kw 485 (by decide +kernel) (by decide +kernel)
theorem kw559 : Cond.constant RX7 58 1000000 ∈ lwX := kw 559 (by decide +kernel) (by decide +kernel)
theorem kw560 : Cond.methodLink RX7 59 yX7_readStatement ∈ lwX := kw 560 (by decide +kernel) (by decide +kernel)
theorem kw562 : Cond.instanceMethod yX7_readStatement ∈ lwX := kw 562 (by decide +kernel) (by decide +kernel)
theorem kw9 : Cond.selects RX7 yX7_readStatement yX7_readStatement ∈ lwX := kw 9 (by decide +kernel) (by decide +kernel)
theorem kw563 : Cond.code yX7_readStatement cX7_readStatement 2 (some (.object xCmd)) ∈ lwX := kw 563 (by decide +kernel) (by decide +kernel)
theorem kw602 : Cond.methodLink RX7 63 yX7_isRefused ∈ lwX := kw 602 (by decide +kernel) (by decide +kernel)
theorem kw604 : Cond.instanceMethod yX7_isRefused ∈ lwX := kw 604 (by decide +kernel) (by decide +kernel)
theorem kw15 : Cond.selects RX7 yX7_isRefused yX7_isRefused ∈ lwX := kw 15 (by decide +kernel) (by decide +kernel)
theorem kw605 : Cond.code yX7_isRefused cX7_isRefused 4 (some .boolean) ∈ lwX := kw 605 (by decide +kernel) (by decide +kernel)
theorem kw674 : Cond.methodLink RX7 71 yX7_apply ∈ lwX := kw 674 (by decide +kernel) (by decide +kernel)
theorem kw676 : Cond.instanceMethod yX7_apply ∈ lwX := kw 676 (by decide +kernel) (by decide +kernel)
theorem kw18 : Cond.selects RX7 yX7_apply yX7_apply ∈ lwX := kw 18 (by decide +kernel) (by decide +kernel)
theorem kw677 : Cond.code yX7_apply cX7_apply 4 none ∈ lwX := kw 677 (by decide +kernel) (by decide +kernel)
theorem kw263 : Cond.fieldLink RX2 11 (TX2 0).1 (TX2 0).2.1 (TX2 0).2.2.1 ∈ lwX := kw 263 (by decide +kernel) (by decide +kernel)
theorem kw264 : Cond.fieldLink RX2 17 (TX2 1).1 (TX2 1).2.1 (TX2 1).2.2.1 ∈ lwX := kw 264 (by decide +kernel) (by decide +kernel)
theorem kw265 : Cond.fieldLink RX2 21 (TX2 2).1 (TX2 2).2.1 (TX2 2).2.2.1 ∈ lwX := kw 265 (by decide +kernel) (by decide +kernel)
theorem kw720 : Cond.instanceMethod yX6_copyFrom ∈ lwX := kw 720 (by decide +kernel) (by decide +kernel)
theorem kw721 : Cond.selects RX6 yX6_copyFrom yX6_copyFrom ∈ lwX := kw 721 (by decide +kernel) (by decide +kernel)
theorem kw722 : Cond.code yX6_copyFrom cX6_copyFrom 2 none ∈ lwX := kw 722 (by decide +kernel) (by decide +kernel)
theorem kw719 : Cond.methodLink RX2 25 yX6_copyFrom ∈ lwX := kw 719 (by decide +kernel) (by decide +kernel)
theorem kw356 : Cond.fieldLink RX5 15 (TX5 1).1 (TX5 1).2.1 (TX5 1).2.2.1 ∈ lwX := kw 356 (by decide +kernel) (by decide +kernel)
theorem kw354 : Cond.fieldLink RX5 11 (TX5 0).1 (TX5 0).2.1 (TX5 0).2.2.1 ∈ lwX := kw 354 (by decide +kernel) (by decide +kernel)
theorem kw856 : Cond.methodLink RX5 24 yX5_put ∈ lwX := kw 856 (by decide +kernel) (by decide +kernel)
theorem kw858 : Cond.instanceMethod yX5_put ∈ lwX := kw 858 (by decide +kernel) (by decide +kernel)
theorem kw19 : Cond.selects RX5 yX5_put yX5_put ∈ lwX := kw 19 (by decide +kernel) (by decide +kernel)
theorem kw122 : Cond.initialized RX5 ∈ lwX := kw 122 (by decide +kernel) (by decide +kernel)
theorem kw859 : Cond.code yX5_put cX5_put 2 none ∈ lwX := kw 859 (by decide +kernel) (by decide +kernel)
theorem kw183 : Cond.fieldLink RX5 19 (TX6 0).1 (TX6 0).2.1 (TX6 0).2.2.1 ∈ lwX := kw 183 (by decide +kernel) (by decide +kernel)
theorem kw187 : Cond.fieldLink RX5 28 (TX6 1).1 (TX6 1).2.1 (TX6 1).2.2.1 ∈ lwX := kw 187 (by decide +kernel) (by decide +kernel)
theorem kw860 : Cond.methodLink RX5 32 yX6_sitter ∈ lwX := kw 860 (by decide +kernel) (by decide +kernel)
theorem kw861 : Cond.methodLink RX5 36 yX5_putCat ∈ lwX := kw 861 (by decide +kernel) (by decide +kernel)
theorem kw863 : Cond.instanceMethod yX5_putCat ∈ lwX := kw 863 (by decide +kernel) (by decide +kernel)
theorem kw20 : Cond.selects RX5 yX5_putCat yX5_putCat ∈ lwX := kw 20 (by decide +kernel) (by decide +kernel)
theorem kw864 : Cond.code yX5_putCat cX5_putCat 3 none ∈ lwX := kw 864 (by decide +kernel) (by decide +kernel)
theorem kw190 : Cond.fieldLink RX5 40 (TX6 2).1 (TX6 2).2.1 (TX6 2).2.2.1 ∈ lwX := kw 190 (by decide +kernel) (by decide +kernel)
theorem m_X4_kindOf : xMem yX4_kindOf RX4 cX4_kindOf 2 (some .int) 1 := ⟨kw492, kw5, kw121, kw493, by decide +kernel, by decide +kernel, by decide +kernel, by decide +kernel⟩
theorem m_X4_readNumber : xMem yX4_readNumber RX4 cX4_readNumber 2 none 0 := ⟨kw496, kw6, kw121, kw497, by decide +kernel, by decide +kernel, by decide +kernel, by decide +kernel⟩
theorem m_X6_clear : xMem yX6_clear RX6 cX6_clear 1 none 0 := ⟨kw471, kw472, kw117, kw473, by decide +kernel, by decide +kernel, by decide +kernel, by decide +kernel⟩
theorem m_X4_next : xMem yX4_next RX4 cX4_next 1 none 0 := ⟨kw487, kw488, kw121, kw489, by decide +kernel, by decide +kernel, by decide +kernel, by decide +kernel⟩
theorem m_X7_fail : xMem yX7_fail RX7 cX7_fail 2 none 1 := ⟨kw557, kw8, kw120, kw558, by decide +kernel, by decide +kernel, by decide +kernel, by decide +kernel⟩
theorem m_X4_isWord : xMem yX4_isWord RX4 cX4_isWord 3 (some .boolean) 1 := ⟨kw500, kw501, kw121, kw502, by decide +kernel, by decide +kernel, by decide +kernel, by decide +kernel⟩
theorem m_X7_expect : xMem yX7_expect RX7 cX7_expect 2 (some .boolean) 1 := ⟨kw553, kw7, kw120, kw554, by decide +kernel, by decide +kernel, by decide +kernel, by decide +kernel⟩
theorem m_X6_hasCat : xMem yX6_hasCat RX6 cX6_hasCat 2 (some .boolean) 1 := ⟨kw595, kw596, kw117, kw597, by decide +kernel, by decide +kernel, by decide +kernel, by decide +kernel⟩
theorem m_X6_hasChimney : xMem yX6_hasChimney RX6 cX6_hasChimney 2 (some .boolean) 1 := ⟨kw591, kw592, kw117, kw593, by decide +kernel, by decide +kernel, by decide +kernel, by decide +kernel⟩
theorem m_X6_hasGutter : xMem yX6_hasGutter RX6 cX6_hasGutter 2 (some .boolean) 1 := ⟨kw599, kw600, kw117, kw601, by decide +kernel, by decide +kernel, by decide +kernel, by decide +kernel⟩
theorem m_X7_fits : xMem yX7_fits RX7 cX7_fits 3 (some .boolean) 2 := ⟨kw588, kw14, kw120, kw589, by decide +kernel, by decide +kernel, by decide +kernel, by decide +kernel⟩
theorem m_X7_readNumbers : xMem yX7_readNumbers RX7 cX7_readNumbers 4 (some .boolean) 1 := ⟨kw582, kw13, kw120, kw583, by decide +kernel, by decide +kernel, by decide +kernel, by decide +kernel⟩
theorem m_X7_commandHere : xMem yX7_commandHere RX7 cX7_commandHere 2 (some (.object xCmd)) 0 := ⟨kw570, kw11, kw120, kw571, by decide +kernel, by decide +kernel, by decide +kernel, by decide +kernel⟩
theorem m_X7_openRepeat : xMem yX7_openRepeat RX7 cX7_openRepeat 1 none 0 := ⟨kw578, kw12, kw120, kw579, by decide +kernel, by decide +kernel, by decide +kernel, by decide +kernel⟩
theorem m_X7_closeRound : xMem yX7_closeRound RX7 cX7_closeRound 2 none 0 := ⟨kw566, kw10, kw120, kw567, by decide +kernel, by decide +kernel, by decide +kernel, by decide +kernel⟩
theorem m_X6_refusesCat : xMem yX6_refusesCat RX6 cX6_refusesCat 2 (some .boolean) 1 := ⟨kw615, kw616, kw117, kw617, by decide +kernel, by decide +kernel, by decide +kernel, by decide +kernel⟩
theorem m_X6_stepRefusal : xMem yX6_stepRefusal RX6 cX6_stepRefusal 4 (some .int) 2 := ⟨kw623, kw624, kw117, kw625, by decide +kernel, by decide +kernel, by decide +kernel, by decide +kernel⟩
theorem m_X6_claimRefusal : xMem yX6_claimRefusal RX6 cX6_claimRefusal 2 (some .int) 1 := ⟨kw639, kw640, kw117, kw641, by decide +kernel, by decide +kernel, by decide +kernel, by decide +kernel⟩
theorem m_X6_chaseRefusal : xMem yX6_chaseRefusal RX6 cX6_chaseRefusal 3 (some .int) 2 := ⟨kw647, kw648, kw117, kw649, by decide +kernel, by decide +kernel, by decide +kernel, by decide +kernel⟩
theorem m_X6_refusesTruce : xMem yX6_refusesTruce RX6 cX6_refusesTruce 4 (some .boolean) 3 := ⟨kw659, kw660, kw117, kw661, by decide +kernel, by decide +kernel, by decide +kernel, by decide +kernel⟩
theorem m_X6_refusesKitten : xMem yX6_refusesKitten RX6 cX6_refusesKitten 1 (some .boolean) 0 := ⟨kw663, kw664, kw117, kw665, by decide +kernel, by decide +kernel, by decide +kernel, by decide +kernel⟩
theorem m_X6_refusesVote : xMem yX6_refusesVote RX6 cX6_refusesVote 2 (some .boolean) 1 := ⟨kw667, kw668, kw117, kw669, by decide +kernel, by decide +kernel, by decide +kernel, by decide +kernel⟩
theorem m_X6_refusesNights : xMem yX6_refusesNights RX6 cX6_refusesNights 2 (some .boolean) 1 := ⟨kw671, kw672, kw117, kw673, by decide +kernel, by decide +kernel, by decide +kernel, by decide +kernel⟩
theorem m_X6_putChimney : xMem yX6_putChimney RX6 cX6_putChimney 2 (some .int) 1 := ⟨kw364, kw365, kw117, kw366, by decide +kernel, by decide +kernel, by decide +kernel, by decide +kernel⟩
theorem m_X6_putGutter : xMem yX6_putGutter RX6 cX6_putGutter 4 (some .int) 3 := ⟨kw368, kw369, kw117, kw370, by decide +kernel, by decide +kernel, by decide +kernel, by decide +kernel⟩
theorem m_X6_walk : xMem yX6_walk RX6 cX6_walk 3 (some .int) 2 := ⟨kw682, kw683, kw117, kw684, by decide +kernel, by decide +kernel, by decide +kernel, by decide +kernel⟩
theorem m_X6_takeSeat : xMem yX6_takeSeat RX6 cX6_takeSeat 2 (some .int) 1 := ⟨kw376, kw377, kw117, kw378, by decide +kernel, by decide +kernel, by decide +kernel, by decide +kernel⟩
theorem m_X6_release : xMem yX6_release RX6 cX6_release 3 (some .int) 1 := ⟨kw687, kw688, kw117, kw689, by decide +kernel, by decide +kernel, by decide +kernel, by decide +kernel⟩
theorem m_X6_driveAway : xMem yX6_driveAway RX6 cX6_driveAway 4 (some .boolean) 2 := ⟨kw691, kw692, kw117, kw693, by decide +kernel, by decide +kernel, by decide +kernel, by decide +kernel⟩
theorem m_X6_agreeTruce : xMem yX6_agreeTruce RX6 cX6_agreeTruce 6 (some .int) 4 := ⟨kw390, kw391, kw117, kw392, by decide +kernel, by decide +kernel, by decide +kernel, by decide +kernel⟩
theorem m_X3_arrive : xMem yX3_arrive RX3 cX3_arrive 3 none 2 := ⟨kw696, kw697, kw118, kw698, by decide +kernel, by decide +kernel, by decide +kernel, by decide +kernel⟩
theorem m_X6_takeVote : xMem yX6_takeVote RX6 cX6_takeVote 7 (some .boolean) 2 := ⟨kw702, kw703, kw117, kw704, by decide +kernel, by decide +kernel, by decide +kernel, by decide +kernel⟩
theorem m_X6_spendNights : xMem yX6_spendNights RX6 cX6_spendNights 5 (some .int) 1 := ⟨kw394, kw395, kw117, kw396, by decide +kernel, by decide +kernel, by decide +kernel, by decide +kernel⟩
theorem m_X7_begin : xMem yX7_begin RX7 cX7_begin 1 none 0 := ⟨kw468, kw3, kw120, kw469, by decide +kernel, by decide +kernel, by decide +kernel, by decide +kernel⟩
theorem m_X7_readHead : xMem yX7_readHead RX7 cX7_readHead 1 none 0 := ⟨kw484, kw4, kw120, kw485, by decide +kernel, by decide +kernel, by decide +kernel, by decide +kernel⟩
theorem m_X7_readStatement : xMem yX7_readStatement RX7 cX7_readStatement 2 (some (.object xCmd)) 0 := ⟨kw562, kw9, kw120, kw563, by decide +kernel, by decide +kernel, by decide +kernel, by decide +kernel⟩
theorem m_X7_isRefused : xMem yX7_isRefused RX7 cX7_isRefused 4 (some .boolean) 1 := ⟨kw604, kw15, kw120, kw605, by decide +kernel, by decide +kernel, by decide +kernel, by decide +kernel⟩
theorem m_X7_apply : xMem yX7_apply RX7 cX7_apply 4 none 1 := ⟨kw676, kw18, kw120, kw677, by decide +kernel, by decide +kernel, by decide +kernel, by decide +kernel⟩
theorem m_X6_copyFrom : xMem yX6_copyFrom RX6 cX6_copyFrom 2 none 1 := ⟨kw720, kw721, kw117, kw722, by decide +kernel, by decide +kernel, by decide +kernel, by decide +kernel⟩
theorem m_X5_put : xMem yX5_put RX5 cX5_put 2 none 1 := ⟨kw858, kw19, kw122, kw859, by decide +kernel, by decide +kernel, by decide +kernel, by decide +kernel⟩
theorem m_X5_putCat : xMem yX5_putCat RX5 cX5_putCat 3 none 2 := ⟨kw863, kw20, kw122, kw864, by decide +kernel, by decide +kernel, by decide +kernel, by decide +kernel⟩
set_option maxHeartbeats 4000000 in
set_option maxRecDepth 100000 in
theorem w_X4_putFour_L3 {p : Program} {l : Launch} {e : Env} {s : State} {m : MethodId} {args : Array Value} {below : List Frame} {meth : Method} {c : Code} {D : va_G} {cy : Nat → ClassId} {s00 : State} {ad : Nat → Nat} {A : Nat → Prop}  {S9 : XS} {u1 : Int32} {K : Int32 → XS → Option (XS)} (E : XE p s m args meth c cX4_putFour 3 RX4 none D cy s00) (hk : ∀ (m2 : Int32) (S1 : XS) (H : Heap) (locs : List Loc) (ls : Array Slot), K m2 S1 = some S9 → XH D cy s00 shRead ad S1 A s H locs → lv_has ls 3 [(0, .ref (ad 0)), (1, .int u1), (2, .int m2)] → W p l e (xrm 0) s m args below meth c H locs 0 0 (MQ below (xqv D cy shRead ad S9 A) args s 0 0 A) (F0 m 46 ls [])) :
    ∀ (n : Nat) (m2 : Int32) (S : XS) (H : Heap) (locs : List Loc) (ls : Array Slot), f_X4_putFour_L3 K u1 n m2 S = some S9 → XH D cy s00 shRead ad S A s H locs → lv_has ls 3 [(0, .ref (ad 0)), (1, .int u1), (2, .int m2)] → W p l e (xrm 0) s m args below meth c H locs 0 0 (MQ below (xqv D cy shRead ad S9 A) args s 0 0 A) (F0 m 3 ls []) := by
  intro n
  induction n with
  | zero => intro m2 S H locs ls hf; cases hf
  | succ n ih =>
    intro m2 S H locs ls hf h hl
    rw [f_X4_putFour_L3] at hf
    refine lv_iload_n E.1 E.2.1 dX4_putFour_3 rfl (lv_at hl 2 rfl) ?_
    refine x_br hf (lv_if_lt (tgt := 46) E.1 E.2.1 dX4_putFour_4 (by decide)) (fun hf => ?_) (fun hf => ?_)
    · exact hk _ _ _ _ _ hf h (lv_sub hl [0, 1, 2] rfl)
    · refine lv_aload_n E.1 E.2.1 dX4_putFour_7 rfl (lv_at hl 0 rfl) ?_
      refine x_get E h 0 1 rfl rfl rfl (by decide) xinX4 kw287 dX4_putFour_8 ?_
      refine lv_sipush (v := 600) E.1 E.2.1 dX4_putFour_11 (by decide) ?_
      refine x_br hf (lv_icmp_ge (tgt := 46) E.1 E.2.1 dX4_putFour_14 (by decide)) (fun hf => ?_) (fun hf => ?_)
      · exact hk _ _ _ _ _ hf h (lv_sub hl [0, 1, 2] rfl)
      · refine lv_aload_n E.1 E.2.1 dX4_putFour_17 rfl (lv_at hl 0 rfl) ?_
        refine x_getr E h 0 0 1 rfl rfl rfl (by decide) xinX4 kw286 dX4_putFour_18 ?_
        refine lv_aload_n E.1 E.2.1 dX4_putFour_21 rfl (lv_at hl 0 rfl) ?_
        refine x_get E h 0 1 rfl rfl rfl (by decide) xinX4 kw287 dX4_putFour_22 ?_
        refine lv_iload_n E.1 E.2.1 dX4_putFour_25 rfl (lv_at hl 1 rfl) ?_
        refine lv_iload_n E.1 E.2.1 dX4_putFour_26 rfl (lv_at hl 2 rfl) ?_
        refine lv_ishr E.1 E.2.1 dX4_putFour_27 ?_
        refine lv_i2b E.1 E.2.1 dX4_putFour_28 rfl ?_
        refine x_bast E h 1 hf rfl dX4_putFour_29 (fun S1 H locs hf h => ?_)
        refine lv_aload_n E.1 E.2.1 dX4_putFour_30 rfl (lv_at hl 0 rfl) ?_
        refine lv_dup E.1 E.2.1 dX4_putFour_31 rfl ?_
        refine x_get E h 0 1 rfl rfl rfl (by decide) xinX4 kw287 dX4_putFour_32 ?_
        refine lv_iconst (v := 1) E.1 E.2.1 dX4_putFour_35 (by decide) ?_
        refine lv_iadd E.1 E.2.1 dX4_putFour_36 ?_
        refine x_put (ty := .int) E h 0 1 hf rfl rfl rfl (by decide) xinX4 tyX4_ok nmX4 kw287 rfl (by decide +kernel) rfl rfl dX4_putFour_37 (fun S3 H locs hf h => ?_)
        refine x_nv hf (fun v4 e9 hf => ?_)
        refine lv_iinc (v := v4) (lv' := [(2, .int v4), (0, .ref (ad 0)), (1, .int u1)]) E.1 E.2.1 dX4_putFour_40 hl (k := 2) rfl (by rw [e9]; rfl) (by decide) rfl (fun ls hl => ?_)
        refine lv_goto (tgt := 3) E.1 E.2.1 dX4_putFour_43 (by decide) ?_
        exact ih _ _ _ _ _ hf h (lv_sub hl [1, 2, 0] rfl)
set_option maxHeartbeats 4000000 in
set_option maxRecDepth 100000 in
theorem c_X4_putFour (l : Launch) (D : va_G) (cy : Nat → ClassId) (s00 : State) (ad : Nat → Nat) (S : XS) (p0 : Int32) (S9 : XS) (hf : f_X4_putFour S p0 = some S9) : XV l yX4_putFour cX4_putFour 3 none 0 D cy s00 shRead ad S [.ref (ad 0), .int p0] S9 := by
  refine XV.of (by decide) [(0, .ref (ad 0)), (1, .int p0)] rfl (Nat.le_of_ble_eq_true rfl) (fun p e s m args below meth c A ls E h hl => ?_)
  unfold f_X4_putFour at hf
  refine lv_bipush (v := 24) E.1 E.2.1 dX4_putFour_0 (by decide) ?_
  refine lv_istore_n (lv' := [(2, .int 24), (0, .ref (ad 0)), (1, .int p0)]) E.1 E.2.1 dX4_putFour_2 rfl hl (by decide) rfl (fun ls hl => ?_)
  refine w_X4_putFour_L3 E ?_ _ _ _ _ _ _ hf h (lv_sub hl [1, 2, 0] rfl)
  intro v5 S6 H locs ls hf h hl
  exact x_vret E h hf dX4_putFour_46
set_option maxHeartbeats 4000000 in
set_option maxRecDepth 100000 in
theorem c_X4_kindOf (l : Launch) (D : va_G) (cy : Nat → ClassId) (s00 : State) (ad : Nat → Nat) (S : XS) (p0 : Int32) (r9 : Int32) (hf : f_X4_kindOf S p0 = some r9) : XI l yX4_kindOf cX4_kindOf 2 (some .int) 0 D cy s00 shRead ad S [.ref (ad 0), .int p0] r9 S := by
  refine XI.of (by decide) [(0, .ref (ad 0)), (1, .int p0)] rfl (Nat.le_of_ble_eq_true rfl) (fun p e s m args below meth c A ls E h hl => ?_)
  unfold f_X4_kindOf at hf
  refine lv_iload_n E.1 E.2.1 dX4_kindOf_0 rfl (lv_at hl 1 rfl) ?_
  refine lv_bipush (v := 97) E.1 E.2.1 dX4_kindOf_1 (by decide) ?_
  refine x_br hf (lv_icmp_lt (tgt := 14) E.1 E.2.1 dX4_kindOf_3 (by decide)) (fun hf => ?_) (fun hf => ?_)
  · refine lv_iload_n E.1 E.2.1 dX4_kindOf_14 rfl (lv_at hl 1 rfl) ?_
    refine lv_bipush (v := 48) E.1 E.2.1 dX4_kindOf_15 (by decide) ?_
    refine x_br hf (lv_icmp_lt (tgt := 28) E.1 E.2.1 dX4_kindOf_17 (by decide)) (fun hf => ?_) (fun hf => ?_)
    · refine lv_iload_n E.1 E.2.1 dX4_kindOf_28 rfl (lv_at hl 1 rfl) ?_
      refine lv_bipush (v := 40) E.1 E.2.1 dX4_kindOf_29 (by decide) ?_
      refine x_brn hf (lv_icmp_ne (tgt := 36) E.1 E.2.1 dX4_kindOf_31 (by decide)) (fun hf => ?_) (fun hf => ?_)
      · refine lv_iload_n E.1 E.2.1 dX4_kindOf_36 rfl (lv_at hl 1 rfl) ?_
        refine lv_bipush (v := 41) E.1 E.2.1 dX4_kindOf_37 (by decide) ?_
        refine x_brn hf (lv_icmp_ne (tgt := 44) E.1 E.2.1 dX4_kindOf_39 (by decide)) (fun hf => ?_) (fun hf => ?_)
        · refine lv_iload_n E.1 E.2.1 dX4_kindOf_44 rfl (lv_at hl 1 rfl) ?_
          refine lv_bipush (v := 59) E.1 E.2.1 dX4_kindOf_45 (by decide) ?_
          refine x_brn hf (lv_icmp_ne (tgt := 54) E.1 E.2.1 dX4_kindOf_47 (by decide)) (fun hf => ?_) (fun hf => ?_)
          · refine lv_bipush (v := 6) E.1 E.2.1 dX4_kindOf_54 (by decide) ?_
            exact x_irp E h hf dX4_kindOf_56
          · refine lv_iconst (v := 5) E.1 E.2.1 dX4_kindOf_50 (by decide) ?_
            refine lv_goto (tgt := 56) E.1 E.2.1 dX4_kindOf_51 (by decide) ?_
            exact x_irp E h hf dX4_kindOf_56
        · refine lv_iconst (v := 4) E.1 E.2.1 dX4_kindOf_42 (by decide) ?_
          exact x_irp E h hf dX4_kindOf_43
      · refine lv_iconst (v := 3) E.1 E.2.1 dX4_kindOf_34 (by decide) ?_
        exact x_irp E h hf dX4_kindOf_35
    · refine lv_iload_n E.1 E.2.1 dX4_kindOf_20 rfl (lv_at hl 1 rfl) ?_
      refine lv_bipush (v := 57) E.1 E.2.1 dX4_kindOf_21 (by decide) ?_
      refine x_br hf (lv_icmp_gt (tgt := 28) E.1 E.2.1 dX4_kindOf_23 (by decide)) (fun hf => ?_) (fun hf => ?_)
      · refine lv_iload_n E.1 E.2.1 dX4_kindOf_28 rfl (lv_at hl 1 rfl) ?_
        refine lv_bipush (v := 40) E.1 E.2.1 dX4_kindOf_29 (by decide) ?_
        refine x_brn hf (lv_icmp_ne (tgt := 36) E.1 E.2.1 dX4_kindOf_31 (by decide)) (fun hf => ?_) (fun hf => ?_)
        · refine lv_iload_n E.1 E.2.1 dX4_kindOf_36 rfl (lv_at hl 1 rfl) ?_
          refine lv_bipush (v := 41) E.1 E.2.1 dX4_kindOf_37 (by decide) ?_
          refine x_brn hf (lv_icmp_ne (tgt := 44) E.1 E.2.1 dX4_kindOf_39 (by decide)) (fun hf => ?_) (fun hf => ?_)
          · refine lv_iload_n E.1 E.2.1 dX4_kindOf_44 rfl (lv_at hl 1 rfl) ?_
            refine lv_bipush (v := 59) E.1 E.2.1 dX4_kindOf_45 (by decide) ?_
            refine x_brn hf (lv_icmp_ne (tgt := 54) E.1 E.2.1 dX4_kindOf_47 (by decide)) (fun hf => ?_) (fun hf => ?_)
            · refine lv_bipush (v := 6) E.1 E.2.1 dX4_kindOf_54 (by decide) ?_
              exact x_irp E h hf dX4_kindOf_56
            · refine lv_iconst (v := 5) E.1 E.2.1 dX4_kindOf_50 (by decide) ?_
              refine lv_goto (tgt := 56) E.1 E.2.1 dX4_kindOf_51 (by decide) ?_
              exact x_irp E h hf dX4_kindOf_56
          · refine lv_iconst (v := 4) E.1 E.2.1 dX4_kindOf_42 (by decide) ?_
            exact x_irp E h hf dX4_kindOf_43
        · refine lv_iconst (v := 3) E.1 E.2.1 dX4_kindOf_34 (by decide) ?_
          exact x_irp E h hf dX4_kindOf_35
      · refine lv_iconst (v := 2) E.1 E.2.1 dX4_kindOf_26 (by decide) ?_
        exact x_irp E h hf dX4_kindOf_27
  · refine lv_iload_n E.1 E.2.1 dX4_kindOf_6 rfl (lv_at hl 1 rfl) ?_
    refine lv_bipush (v := 122) E.1 E.2.1 dX4_kindOf_7 (by decide) ?_
    refine x_br hf (lv_icmp_gt (tgt := 14) E.1 E.2.1 dX4_kindOf_9 (by decide)) (fun hf => ?_) (fun hf => ?_)
    · refine lv_iload_n E.1 E.2.1 dX4_kindOf_14 rfl (lv_at hl 1 rfl) ?_
      refine lv_bipush (v := 48) E.1 E.2.1 dX4_kindOf_15 (by decide) ?_
      refine x_br hf (lv_icmp_lt (tgt := 28) E.1 E.2.1 dX4_kindOf_17 (by decide)) (fun hf => ?_) (fun hf => ?_)
      · refine lv_iload_n E.1 E.2.1 dX4_kindOf_28 rfl (lv_at hl 1 rfl) ?_
        refine lv_bipush (v := 40) E.1 E.2.1 dX4_kindOf_29 (by decide) ?_
        refine x_brn hf (lv_icmp_ne (tgt := 36) E.1 E.2.1 dX4_kindOf_31 (by decide)) (fun hf => ?_) (fun hf => ?_)
        · refine lv_iload_n E.1 E.2.1 dX4_kindOf_36 rfl (lv_at hl 1 rfl) ?_
          refine lv_bipush (v := 41) E.1 E.2.1 dX4_kindOf_37 (by decide) ?_
          refine x_brn hf (lv_icmp_ne (tgt := 44) E.1 E.2.1 dX4_kindOf_39 (by decide)) (fun hf => ?_) (fun hf => ?_)
          · refine lv_iload_n E.1 E.2.1 dX4_kindOf_44 rfl (lv_at hl 1 rfl) ?_
            refine lv_bipush (v := 59) E.1 E.2.1 dX4_kindOf_45 (by decide) ?_
            refine x_brn hf (lv_icmp_ne (tgt := 54) E.1 E.2.1 dX4_kindOf_47 (by decide)) (fun hf => ?_) (fun hf => ?_)
            · refine lv_bipush (v := 6) E.1 E.2.1 dX4_kindOf_54 (by decide) ?_
              exact x_irp E h hf dX4_kindOf_56
            · refine lv_iconst (v := 5) E.1 E.2.1 dX4_kindOf_50 (by decide) ?_
              refine lv_goto (tgt := 56) E.1 E.2.1 dX4_kindOf_51 (by decide) ?_
              exact x_irp E h hf dX4_kindOf_56
          · refine lv_iconst (v := 4) E.1 E.2.1 dX4_kindOf_42 (by decide) ?_
            exact x_irp E h hf dX4_kindOf_43
        · refine lv_iconst (v := 3) E.1 E.2.1 dX4_kindOf_34 (by decide) ?_
          exact x_irp E h hf dX4_kindOf_35
      · refine lv_iload_n E.1 E.2.1 dX4_kindOf_20 rfl (lv_at hl 1 rfl) ?_
        refine lv_bipush (v := 57) E.1 E.2.1 dX4_kindOf_21 (by decide) ?_
        refine x_br hf (lv_icmp_gt (tgt := 28) E.1 E.2.1 dX4_kindOf_23 (by decide)) (fun hf => ?_) (fun hf => ?_)
        · refine lv_iload_n E.1 E.2.1 dX4_kindOf_28 rfl (lv_at hl 1 rfl) ?_
          refine lv_bipush (v := 40) E.1 E.2.1 dX4_kindOf_29 (by decide) ?_
          refine x_brn hf (lv_icmp_ne (tgt := 36) E.1 E.2.1 dX4_kindOf_31 (by decide)) (fun hf => ?_) (fun hf => ?_)
          · refine lv_iload_n E.1 E.2.1 dX4_kindOf_36 rfl (lv_at hl 1 rfl) ?_
            refine lv_bipush (v := 41) E.1 E.2.1 dX4_kindOf_37 (by decide) ?_
            refine x_brn hf (lv_icmp_ne (tgt := 44) E.1 E.2.1 dX4_kindOf_39 (by decide)) (fun hf => ?_) (fun hf => ?_)
            · refine lv_iload_n E.1 E.2.1 dX4_kindOf_44 rfl (lv_at hl 1 rfl) ?_
              refine lv_bipush (v := 59) E.1 E.2.1 dX4_kindOf_45 (by decide) ?_
              refine x_brn hf (lv_icmp_ne (tgt := 54) E.1 E.2.1 dX4_kindOf_47 (by decide)) (fun hf => ?_) (fun hf => ?_)
              · refine lv_bipush (v := 6) E.1 E.2.1 dX4_kindOf_54 (by decide) ?_
                exact x_irp E h hf dX4_kindOf_56
              · refine lv_iconst (v := 5) E.1 E.2.1 dX4_kindOf_50 (by decide) ?_
                refine lv_goto (tgt := 56) E.1 E.2.1 dX4_kindOf_51 (by decide) ?_
                exact x_irp E h hf dX4_kindOf_56
            · refine lv_iconst (v := 4) E.1 E.2.1 dX4_kindOf_42 (by decide) ?_
              exact x_irp E h hf dX4_kindOf_43
          · refine lv_iconst (v := 3) E.1 E.2.1 dX4_kindOf_34 (by decide) ?_
            exact x_irp E h hf dX4_kindOf_35
        · refine lv_iconst (v := 2) E.1 E.2.1 dX4_kindOf_26 (by decide) ?_
          exact x_irp E h hf dX4_kindOf_27
    · refine lv_iconst (v := 1) E.1 E.2.1 dX4_kindOf_12 (by decide) ?_
      exact x_irp E h hf dX4_kindOf_13
set_option maxHeartbeats 4000000 in
set_option maxRecDepth 100000 in
theorem w_X4_readNumber_L30 {p : Program} {l : Launch} {e : Env} {s : State} {m : MethodId} {args : Array Value} {below : List Frame} {meth : Method} {c : Code} {D : va_G} {cy : Nat → ClassId} {s00 : State} {ad : Nat → Nat} {A : Nat → Prop}  {S9 : XS}  {K : Int32 → XS → Option (XS)} (E : XE p s m args meth c cX4_readNumber 2 RX4 none D cy s00) (hk : ∀ (m1 : Int32) (S1 : XS) (H : Heap) (locs : List Loc) (ls : Array Slot), K m1 S1 = some S9 → XH D cy s00 shRead ad S1 A s H locs → lv_has ls 2 [(0, .ref (ad 0)), (1, .int m1)] → W p l e (xrm 0) s m args below meth c H locs 0 0 (MQ below (xqv D cy shRead ad S9 A) args s 0 0 A) (F0 m 65 ls [])) :
    ∀ (n : Nat) (m1 : Int32) (S : XS) (H : Heap) (locs : List Loc) (ls : Array Slot), f_X4_readNumber_L30 K n m1 S = some S9 → XH D cy s00 shRead ad S A s H locs → lv_has ls 2 [(0, .ref (ad 0)), (1, .int m1)] → W p l e (xrm 0) s m args below meth c H locs 0 0 (MQ below (xqv D cy shRead ad S9 A) args s 0 0 A) (F0 m 30 ls []) := by
  intro n
  induction n with
  | zero => intro m1 S H locs ls hf; cases hf
  | succ n ih =>
    intro m1 S H locs ls hf h hl
    rw [f_X4_readNumber_L30] at hf
    refine lv_iload_n E.1 E.2.1 dX4_readNumber_30 rfl (lv_at hl 1 rfl) ?_
    refine lv_aload_n E.1 E.2.1 dX4_readNumber_31 rfl (lv_at hl 0 rfl) ?_
    refine x_get E h 0 2 rfl rfl rfl (by decide) xinX4 kw289 dX4_readNumber_32 ?_
    refine x_br hf (lv_icmp_ge (tgt := 65) E.1 E.2.1 dX4_readNumber_35 (by decide)) (fun hf => ?_) (fun hf => ?_)
    · exact hk _ _ _ _ _ hf h (lv_sub hl [0, 1] rfl)
    · refine lv_aload_n E.1 E.2.1 dX4_readNumber_38 rfl (lv_at hl 0 rfl) ?_
      refine lv_aload_n E.1 E.2.1 dX4_readNumber_39 rfl (lv_at hl 0 rfl) ?_
      refine x_get E h 0 5 rfl rfl rfl (by decide) xinX4 kw295 dX4_readNumber_40 ?_
      refine lv_bipush (v := 10) E.1 E.2.1 dX4_readNumber_43 (by decide) ?_
      refine lv_imul E.1 E.2.1 dX4_readNumber_45 ?_
      refine lv_aload_n E.1 E.2.1 dX4_readNumber_46 rfl (lv_at hl 0 rfl) ?_
      refine x_getr E h 0 0 1 rfl rfl rfl (by decide) xinX4 kw286 dX4_readNumber_47 ?_
      refine lv_iload_n E.1 E.2.1 dX4_readNumber_50 rfl (lv_at hl 1 rfl) ?_
      refine x_bald E h 1 hf rfl dX4_readNumber_51 (fun v3 hf => ?_)
      refine lv_iadd E.1 E.2.1 dX4_readNumber_52 ?_
      refine lv_bipush (v := 48) E.1 E.2.1 dX4_readNumber_53 (by decide) ?_
      refine lv_isub E.1 E.2.1 dX4_readNumber_55 ?_
      refine x_put (ty := .int) E h 0 5 hf rfl rfl rfl (by decide) xinX4 tyX4_ok nmX4 kw295 rfl (by decide +kernel) rfl rfl dX4_readNumber_56 (fun S4 H locs hf h => ?_)
      refine x_nv hf (fun v5 e9 hf => ?_)
      refine lv_iinc (v := v5) (lv' := [(1, .int v5), (0, .ref (ad 0))]) E.1 E.2.1 dX4_readNumber_59 hl (k := 1) rfl (by rw [e9]; rfl) (by decide) rfl (fun ls hl => ?_)
      refine lv_goto (tgt := 30) E.1 E.2.1 dX4_readNumber_62 (by decide) ?_
      exact ih _ _ _ _ _ hf h (lv_sub hl [1, 0] rfl)
set_option maxHeartbeats 4000000 in
set_option maxRecDepth 100000 in
theorem c_X4_readNumber (l : Launch) (D : va_G) (cy : Nat → ClassId) (s00 : State) (ad : Nat → Nat) (S : XS) (S9 : XS) (hf : f_X4_readNumber S = some S9) : XV l yX4_readNumber cX4_readNumber 2 none 0 D cy s00 shRead ad S [.ref (ad 0)] S9 := by
  refine XV.of (by decide) [(0, .ref (ad 0))] rfl (Nat.le_of_ble_eq_true rfl) (fun p e s m args below meth c A ls E h hl => ?_)
  unfold f_X4_readNumber at hf
  refine lv_aload_n E.1 E.2.1 dX4_readNumber_0 rfl (lv_at hl 0 rfl) ?_
  refine x_get E h 0 2 rfl rfl rfl (by decide) xinX4 kw289 dX4_readNumber_1 ?_
  refine lv_aload_n E.1 E.2.1 dX4_readNumber_4 rfl (lv_at hl 0 rfl) ?_
  refine x_get E h 0 4 rfl rfl rfl (by decide) xinX4 kw293 dX4_readNumber_5 ?_
  refine lv_isub E.1 E.2.1 dX4_readNumber_8 ?_
  refine lv_iconst (v := 3) E.1 E.2.1 dX4_readNumber_9 (by decide) ?_
  refine x_br hf (lv_icmp_le (tgt := 20) E.1 E.2.1 dX4_readNumber_10 (by decide)) (fun hf => ?_) (fun hf => ?_)
  · refine lv_aload_n E.1 E.2.1 dX4_readNumber_20 rfl (lv_at hl 0 rfl) ?_
    refine lv_iconst (v := 0) E.1 E.2.1 dX4_readNumber_21 (by decide) ?_
    refine x_put (ty := .int) E h 0 5 hf rfl rfl rfl (by decide) xinX4 tyX4_ok nmX4 kw295 rfl (by decide +kernel) rfl rfl dX4_readNumber_22 (fun S1 H locs hf h => ?_)
    refine lv_aload_n E.1 E.2.1 dX4_readNumber_25 rfl (lv_at hl 0 rfl) ?_
    refine x_get E h 0 4 rfl rfl rfl (by decide) xinX4 kw293 dX4_readNumber_26 ?_
    refine x_nm hf (fun v2 hf => ?_)
    refine lv_istore_n (lv' := [(1, .int v2), (0, .ref (ad 0))]) E.1 E.2.1 dX4_readNumber_29 rfl hl (by decide) rfl (fun ls hl => ?_)
    refine w_X4_readNumber_L30 E ?_ _ _ _ _ _ _ hf h (lv_sub hl [1, 0] rfl)
    intro v6 S7 H locs ls hf h hl
    exact x_vret E h hf dX4_readNumber_65
  · refine lv_aload_n E.1 E.2.1 dX4_readNumber_13 rfl (lv_at hl 0 rfl) ?_
    refine lv_bipush (v := 6) E.1 E.2.1 dX4_readNumber_14 (by decide) ?_
    refine x_put (ty := .int) E h 0 3 hf rfl rfl rfl (by decide) xinX4 tyX4_ok nmX4 kw291 rfl (by decide +kernel) rfl rfl dX4_readNumber_16 (fun S8 H locs hf h => ?_)
    exact x_vret E h hf dX4_readNumber_19
set_option maxHeartbeats 4000000 in
set_option maxRecDepth 100000 in
theorem w_X4_next_L0 {p : Program} {l : Launch} {e : Env} {s : State} {m : MethodId} {args : Array Value} {below : List Frame} {meth : Method} {c : Code} {D : va_G} {cy : Nat → ClassId} {s00 : State} {ad : Nat → Nat} {A : Nat → Prop}  {S9 : XS}  {K : XS → Option (XS)} (E : XE p s m args meth c cX4_next 1 RX4 none D cy s00) (hk : ∀ (S1 : XS) (H : Heap) (locs : List Loc) (ls : Array Slot), K S1 = some S9 → XH D cy s00 shRead ad S1 A s H locs → lv_has ls 1 [(0, .ref (ad 0))] → W p l e (xrm 1) s m args below meth c H locs 0 0 (MQ below (xqv D cy shRead ad S9 A) args s 0 0 A) (F0 m 52 ls [])) :
    ∀ (n : Nat) (S : XS) (H : Heap) (locs : List Loc) (ls : Array Slot), f_X4_next_L0 K n S = some S9 → XH D cy s00 shRead ad S A s H locs → lv_has ls 1 [(0, .ref (ad 0))] → W p l e (xrm 1) s m args below meth c H locs 0 0 (MQ below (xqv D cy shRead ad S9 A) args s 0 0 A) (F0 m 0 ls []) := by
  intro n
  induction n with
  | zero => intro S H locs ls hf; cases hf
  | succ n ih =>
    intro S H locs ls hf h hl
    rw [f_X4_next_L0] at hf
    refine lv_aload_n E.1 E.2.1 dX4_next_0 rfl (lv_at hl 0 rfl) ?_
    refine x_get E h 0 2 rfl rfl rfl (by decide) xinX4 kw289 dX4_next_1 ?_
    refine lv_aload_n E.1 E.2.1 dX4_next_4 rfl (lv_at hl 0 rfl) ?_
    refine x_get E h 0 1 rfl rfl rfl (by decide) xinX4 kw287 dX4_next_5 ?_
    refine x_br hf (lv_icmp_ge (tgt := 52) E.1 E.2.1 dX4_next_8 (by decide)) (fun hf => ?_) (fun hf => ?_)
    · exact hk _ _ _ _ hf h (lv_sub hl [0] rfl)
    · refine lv_aload_n E.1 E.2.1 dX4_next_11 rfl (lv_at hl 0 rfl) ?_
      refine x_getr E h 0 0 1 rfl rfl rfl (by decide) xinX4 kw286 dX4_next_12 ?_
      refine lv_aload_n E.1 E.2.1 dX4_next_15 rfl (lv_at hl 0 rfl) ?_
      refine x_get E h 0 2 rfl rfl rfl (by decide) xinX4 kw289 dX4_next_16 ?_
      refine x_bald E h 1 hf rfl dX4_next_19 (fun v1 hf => ?_)
      refine lv_bipush (v := 32) E.1 E.2.1 dX4_next_20 (by decide) ?_
      refine x_br hf (lv_icmp_eq (tgt := 39) E.1 E.2.1 dX4_next_22 (by decide)) (fun hf => ?_) (fun hf => ?_)
      · refine lv_aload_n E.1 E.2.1 dX4_next_39 rfl (lv_at hl 0 rfl) ?_
        refine lv_dup E.1 E.2.1 dX4_next_40 rfl ?_
        refine x_get E h 0 2 rfl rfl rfl (by decide) xinX4 kw289 dX4_next_41 ?_
        refine lv_iconst (v := 1) E.1 E.2.1 dX4_next_44 (by decide) ?_
        refine lv_iadd E.1 E.2.1 dX4_next_45 ?_
        refine x_put (ty := .int) E h 0 2 hf rfl rfl rfl (by decide) xinX4 tyX4_ok nmX4 kw289 rfl (by decide +kernel) rfl rfl dX4_next_46 (fun S2 H locs hf h => ?_)
        refine lv_goto (tgt := 0) E.1 E.2.1 dX4_next_49 (by decide) ?_
        exact ih _ _ _ _ hf h (lv_sub hl [0] rfl)
      · refine lv_aload_n E.1 E.2.1 dX4_next_25 rfl (lv_at hl 0 rfl) ?_
        refine x_getr E h 0 0 1 rfl rfl rfl (by decide) xinX4 kw286 dX4_next_26 ?_
        refine lv_aload_n E.1 E.2.1 dX4_next_29 rfl (lv_at hl 0 rfl) ?_
        refine x_get E h 0 2 rfl rfl rfl (by decide) xinX4 kw289 dX4_next_30 ?_
        refine x_bald E h 1 hf rfl dX4_next_33 (fun v3 hf => ?_)
        refine lv_bipush (v := 10) E.1 E.2.1 dX4_next_34 (by decide) ?_
        refine x_brn hf (lv_icmp_ne (tgt := 52) E.1 E.2.1 dX4_next_36 (by decide)) (fun hf => ?_) (fun hf => ?_)
        · exact hk _ _ _ _ hf h (lv_sub hl [0] rfl)
        · refine lv_aload_n E.1 E.2.1 dX4_next_39 rfl (lv_at hl 0 rfl) ?_
          refine lv_dup E.1 E.2.1 dX4_next_40 rfl ?_
          refine x_get E h 0 2 rfl rfl rfl (by decide) xinX4 kw289 dX4_next_41 ?_
          refine lv_iconst (v := 1) E.1 E.2.1 dX4_next_44 (by decide) ?_
          refine lv_iadd E.1 E.2.1 dX4_next_45 ?_
          refine x_put (ty := .int) E h 0 2 hf rfl rfl rfl (by decide) xinX4 tyX4_ok nmX4 kw289 rfl (by decide +kernel) rfl rfl dX4_next_46 (fun S4 H locs hf h => ?_)
          refine lv_goto (tgt := 0) E.1 E.2.1 dX4_next_49 (by decide) ?_
          exact ih _ _ _ _ hf h (lv_sub hl [0] rfl)
set_option maxHeartbeats 4000000 in
set_option maxRecDepth 100000 in
theorem w_X4_next_L119 {p : Program} {l : Launch} {e : Env} {s : State} {m : MethodId} {args : Array Value} {below : List Frame} {meth : Method} {c : Code} {D : va_G} {cy : Nat → ClassId} {s00 : State} {ad : Nat → Nat} {A : Nat → Prop}  {S9 : XS}  {K : XS → Option (XS)} (E : XE p s m args meth c cX4_next 1 RX4 none D cy s00) (hk : ∀ (S1 : XS) (H : Heap) (locs : List Loc) (ls : Array Slot), K S1 = some S9 → XH D cy s00 shRead ad S1 A s H locs → lv_has ls 1 [(0, .ref (ad 0))] → W p l e (xrm 1) s m args below meth c H locs 0 0 (MQ below (xqv D cy shRead ad S9 A) args s 0 0 A) (F0 m 163 ls [])) :
    ∀ (n : Nat) (S : XS) (H : Heap) (locs : List Loc) (ls : Array Slot), f_X4_next_L119 K n S = some S9 → XH D cy s00 shRead ad S A s H locs → lv_has ls 1 [(0, .ref (ad 0))] → W p l e (xrm 1) s m args below meth c H locs 0 0 (MQ below (xqv D cy shRead ad S9 A) args s 0 0 A) (F0 m 119 ls []) := by
  intro n
  induction n with
  | zero => intro S H locs ls hf; cases hf
  | succ n ih =>
    intro S H locs ls hf h hl
    rw [f_X4_next_L119] at hf
    refine lv_aload_n E.1 E.2.1 dX4_next_119 rfl (lv_at hl 0 rfl) ?_
    refine x_get E h 0 2 rfl rfl rfl (by decide) xinX4 kw289 dX4_next_120 ?_
    refine lv_aload_n E.1 E.2.1 dX4_next_123 rfl (lv_at hl 0 rfl) ?_
    refine x_get E h 0 1 rfl rfl rfl (by decide) xinX4 kw287 dX4_next_124 ?_
    refine x_br hf (lv_icmp_ge (tgt := 163) E.1 E.2.1 dX4_next_127 (by decide)) (fun hf => ?_) (fun hf => ?_)
    · exact hk _ _ _ _ hf h (lv_sub hl [0] rfl)
    · refine lv_aload_n E.1 E.2.1 dX4_next_130 rfl (lv_at hl 0 rfl) ?_
      refine lv_aload_n E.1 E.2.1 dX4_next_131 rfl (lv_at hl 0 rfl) ?_
      refine x_getr E h 0 0 1 rfl rfl rfl (by decide) xinX4 kw286 dX4_next_132 ?_
      refine lv_aload_n E.1 E.2.1 dX4_next_135 rfl (lv_at hl 0 rfl) ?_
      refine x_get E h 0 2 rfl rfl rfl (by decide) xinX4 kw289 dX4_next_136 ?_
      refine x_bald E h 1 hf rfl dX4_next_139 (fun v8 hf => ?_)
      refine x_callp E h hl 0 hf (fun r0 hr => c_X4_kindOf l D cy s00 _ S v8 r0 hr) m_X4_kindOf rfl rfl kw490 rfl rfl (Nat.le_of_ble_eq_true rfl) ⟨by decide, by decide⟩ ⟨Nat.zero_le _, Nat.zero_le _⟩ dX4_next_140 (fun v9 H locs hf h => ?_)
      refine lv_aload_n E.1 E.2.1 dX4_next_143 rfl (lv_at hl 0 rfl) ?_
      refine x_get E h 0 3 rfl rfl rfl (by decide) xinX4 kw291 dX4_next_144 ?_
      refine x_brn hf (lv_icmp_ne (tgt := 163) E.1 E.2.1 dX4_next_147 (by decide)) (fun hf => ?_) (fun hf => ?_)
      · exact hk _ _ _ _ hf h (lv_sub hl [0] rfl)
      · refine lv_aload_n E.1 E.2.1 dX4_next_150 rfl (lv_at hl 0 rfl) ?_
        refine lv_dup E.1 E.2.1 dX4_next_151 rfl ?_
        refine x_get E h 0 2 rfl rfl rfl (by decide) xinX4 kw289 dX4_next_152 ?_
        refine lv_iconst (v := 1) E.1 E.2.1 dX4_next_155 (by decide) ?_
        refine lv_iadd E.1 E.2.1 dX4_next_156 ?_
        refine x_put (ty := .int) E h 0 2 hf rfl rfl rfl (by decide) xinX4 tyX4_ok nmX4 kw289 rfl (by decide +kernel) rfl rfl dX4_next_157 (fun S10 H locs hf h => ?_)
        refine lv_goto (tgt := 119) E.1 E.2.1 dX4_next_160 (by decide) ?_
        exact ih _ _ _ _ hf h (lv_sub hl [0] rfl)
set_option maxHeartbeats 4000000 in
set_option maxRecDepth 100000 in
theorem c_X4_next (l : Launch) (D : va_G) (cy : Nat → ClassId) (s00 : State) (ad : Nat → Nat) (S : XS) (S9 : XS) (hf : f_X4_next S = some S9) : XV l yX4_next cX4_next 1 none 1 D cy s00 shRead ad S [.ref (ad 0)] S9 := by
  refine XV.of (by decide) [(0, .ref (ad 0))] rfl (Nat.le_of_ble_eq_true rfl) (fun p e s m args below meth c A ls E h hl => ?_)
  unfold f_X4_next at hf
  refine w_X4_next_L0 E ?_ _ _ _ _ _ hf h (lv_sub hl [0] rfl)
  intro S5 H locs ls hf h hl
  refine lv_aload_n E.1 E.2.1 dX4_next_52 rfl (lv_at hl 0 rfl) ?_
  refine lv_aload_n E.1 E.2.1 dX4_next_53 rfl (lv_at hl 0 rfl) ?_
  refine x_get E h 0 2 rfl rfl rfl (by decide) xinX4 kw289 dX4_next_54 ?_
  refine x_put (ty := .int) E h 0 4 hf rfl rfl rfl (by decide) xinX4 tyX4_ok nmX4 kw293 rfl (by decide +kernel) rfl rfl dX4_next_57 (fun S6 H locs hf h => ?_)
  refine lv_aload_n E.1 E.2.1 dX4_next_60 rfl (lv_at hl 0 rfl) ?_
  refine lv_iconst (v := 0) E.1 E.2.1 dX4_next_61 (by decide) ?_
  refine x_put (ty := .int) E h 0 3 hf rfl rfl rfl (by decide) xinX4 tyX4_ok nmX4 kw291 rfl (by decide +kernel) rfl rfl dX4_next_62 (fun S7 H locs hf h => ?_)
  refine lv_aload_n E.1 E.2.1 dX4_next_65 rfl (lv_at hl 0 rfl) ?_
  refine x_get E h 0 2 rfl rfl rfl (by decide) xinX4 kw289 dX4_next_66 ?_
  refine lv_aload_n E.1 E.2.1 dX4_next_69 rfl (lv_at hl 0 rfl) ?_
  refine x_get E h 0 1 rfl rfl rfl (by decide) xinX4 kw287 dX4_next_70 ?_
  refine x_br hf (lv_icmp_ge (tgt := 103) E.1 E.2.1 dX4_next_73 (by decide)) (fun hf => ?_) (fun hf => ?_)
  · refine lv_aload_n E.1 E.2.1 dX4_next_103 rfl (lv_at hl 0 rfl) ?_
    refine x_get E h 0 3 rfl rfl rfl (by decide) xinX4 kw291 dX4_next_104 ?_
    refine lv_iconst (v := 1) E.1 E.2.1 dX4_next_107 (by decide) ?_
    refine x_br hf (lv_icmp_eq (tgt := 119) E.1 E.2.1 dX4_next_108 (by decide)) (fun hf => ?_) (fun hf => ?_)
    · refine w_X4_next_L119 E ?_ _ _ _ _ _ hf h (lv_sub hl [0] rfl)
      intro S11 H locs ls hf h hl
      refine lv_aload_n E.1 E.2.1 dX4_next_163 rfl (lv_at hl 0 rfl) ?_
      refine x_get E h 0 3 rfl rfl rfl (by decide) xinX4 kw291 dX4_next_164 ?_
      refine lv_iconst (v := 2) E.1 E.2.1 dX4_next_167 (by decide) ?_
      refine x_brn hf (lv_icmp_ne (tgt := 175) E.1 E.2.1 dX4_next_168 (by decide)) (fun hf => ?_) (fun hf => ?_)
      · exact x_vret E h hf dX4_next_175
      · refine lv_aload_n E.1 E.2.1 dX4_next_171 rfl (lv_at hl 0 rfl) ?_
        refine x_callv E h hl 0 hf (fun r0 hr => c_X4_readNumber l D cy s00 _ S11  r0 hr) m_X4_readNumber rfl rfl kw494 rfl rfl (Nat.le_of_ble_eq_true rfl) ⟨by decide, by decide⟩ ⟨Nat.zero_le _, Nat.zero_le _⟩ dX4_next_172 (fun S12 H locs hf h => ?_)
        exact x_vret E h hf dX4_next_175
    · refine lv_aload_n E.1 E.2.1 dX4_next_111 rfl (lv_at hl 0 rfl) ?_
      refine x_get E h 0 3 rfl rfl rfl (by decide) xinX4 kw291 dX4_next_112 ?_
      refine lv_iconst (v := 2) E.1 E.2.1 dX4_next_115 (by decide) ?_
      refine x_brn hf (lv_icmp_ne (tgt := 163) E.1 E.2.1 dX4_next_116 (by decide)) (fun hf => ?_) (fun hf => ?_)
      · refine lv_aload_n E.1 E.2.1 dX4_next_163 rfl (lv_at hl 0 rfl) ?_
        refine x_get E h 0 3 rfl rfl rfl (by decide) xinX4 kw291 dX4_next_164 ?_
        refine lv_iconst (v := 2) E.1 E.2.1 dX4_next_167 (by decide) ?_
        refine x_brn hf (lv_icmp_ne (tgt := 175) E.1 E.2.1 dX4_next_168 (by decide)) (fun hf => ?_) (fun hf => ?_)
        · exact x_vret E h hf dX4_next_175
        · refine lv_aload_n E.1 E.2.1 dX4_next_171 rfl (lv_at hl 0 rfl) ?_
          refine x_callv E h hl 0 hf (fun r0 hr => c_X4_readNumber l D cy s00 _ S7  r0 hr) m_X4_readNumber rfl rfl kw494 rfl rfl (Nat.le_of_ble_eq_true rfl) ⟨by decide, by decide⟩ ⟨Nat.zero_le _, Nat.zero_le _⟩ dX4_next_172 (fun S13 H locs hf h => ?_)
          exact x_vret E h hf dX4_next_175
      · refine w_X4_next_L119 E ?_ _ _ _ _ _ hf h (lv_sub hl [0] rfl)
        intro S14 H locs ls hf h hl
        refine lv_aload_n E.1 E.2.1 dX4_next_163 rfl (lv_at hl 0 rfl) ?_
        refine x_get E h 0 3 rfl rfl rfl (by decide) xinX4 kw291 dX4_next_164 ?_
        refine lv_iconst (v := 2) E.1 E.2.1 dX4_next_167 (by decide) ?_
        refine x_brn hf (lv_icmp_ne (tgt := 175) E.1 E.2.1 dX4_next_168 (by decide)) (fun hf => ?_) (fun hf => ?_)
        · exact x_vret E h hf dX4_next_175
        · refine lv_aload_n E.1 E.2.1 dX4_next_171 rfl (lv_at hl 0 rfl) ?_
          refine x_callv E h hl 0 hf (fun r0 hr => c_X4_readNumber l D cy s00 _ S14  r0 hr) m_X4_readNumber rfl rfl kw494 rfl rfl (Nat.le_of_ble_eq_true rfl) ⟨by decide, by decide⟩ ⟨Nat.zero_le _, Nat.zero_le _⟩ dX4_next_172 (fun S15 H locs hf h => ?_)
          exact x_vret E h hf dX4_next_175
  · refine lv_aload_n E.1 E.2.1 dX4_next_76 rfl (lv_at hl 0 rfl) ?_
    refine lv_aload_n E.1 E.2.1 dX4_next_77 rfl (lv_at hl 0 rfl) ?_
    refine lv_aload_n E.1 E.2.1 dX4_next_78 rfl (lv_at hl 0 rfl) ?_
    refine x_getr E h 0 0 1 rfl rfl rfl (by decide) xinX4 kw286 dX4_next_79 ?_
    refine lv_aload_n E.1 E.2.1 dX4_next_82 rfl (lv_at hl 0 rfl) ?_
    refine x_get E h 0 2 rfl rfl rfl (by decide) xinX4 kw289 dX4_next_83 ?_
    refine x_bald E h 1 hf rfl dX4_next_86 (fun v16 hf => ?_)
    refine x_callp E h hl 0 hf (fun r0 hr => c_X4_kindOf l D cy s00 _ S7 v16 r0 hr) m_X4_kindOf rfl rfl kw490 rfl rfl (Nat.le_of_ble_eq_true rfl) ⟨by decide, by decide⟩ ⟨Nat.zero_le _, Nat.zero_le _⟩ dX4_next_87 (fun v17 H locs hf h => ?_)
    refine x_put (ty := .int) E h 0 3 hf rfl rfl rfl (by decide) xinX4 tyX4_ok nmX4 kw291 rfl (by decide +kernel) rfl rfl dX4_next_90 (fun S18 H locs hf h => ?_)
    refine lv_aload_n E.1 E.2.1 dX4_next_93 rfl (lv_at hl 0 rfl) ?_
    refine lv_dup E.1 E.2.1 dX4_next_94 rfl ?_
    refine x_get E h 0 2 rfl rfl rfl (by decide) xinX4 kw289 dX4_next_95 ?_
    refine lv_iconst (v := 1) E.1 E.2.1 dX4_next_98 (by decide) ?_
    refine lv_iadd E.1 E.2.1 dX4_next_99 ?_
    refine x_put (ty := .int) E h 0 2 hf rfl rfl rfl (by decide) xinX4 tyX4_ok nmX4 kw289 rfl (by decide +kernel) rfl rfl dX4_next_100 (fun S19 H locs hf h => ?_)
    refine lv_aload_n E.1 E.2.1 dX4_next_103 rfl (lv_at hl 0 rfl) ?_
    refine x_get E h 0 3 rfl rfl rfl (by decide) xinX4 kw291 dX4_next_104 ?_
    refine lv_iconst (v := 1) E.1 E.2.1 dX4_next_107 (by decide) ?_
    refine x_br hf (lv_icmp_eq (tgt := 119) E.1 E.2.1 dX4_next_108 (by decide)) (fun hf => ?_) (fun hf => ?_)
    · refine w_X4_next_L119 E ?_ _ _ _ _ _ hf h (lv_sub hl [0] rfl)
      intro S20 H locs ls hf h hl
      refine lv_aload_n E.1 E.2.1 dX4_next_163 rfl (lv_at hl 0 rfl) ?_
      refine x_get E h 0 3 rfl rfl rfl (by decide) xinX4 kw291 dX4_next_164 ?_
      refine lv_iconst (v := 2) E.1 E.2.1 dX4_next_167 (by decide) ?_
      refine x_brn hf (lv_icmp_ne (tgt := 175) E.1 E.2.1 dX4_next_168 (by decide)) (fun hf => ?_) (fun hf => ?_)
      · exact x_vret E h hf dX4_next_175
      · refine lv_aload_n E.1 E.2.1 dX4_next_171 rfl (lv_at hl 0 rfl) ?_
        refine x_callv E h hl 0 hf (fun r0 hr => c_X4_readNumber l D cy s00 _ S20  r0 hr) m_X4_readNumber rfl rfl kw494 rfl rfl (Nat.le_of_ble_eq_true rfl) ⟨by decide, by decide⟩ ⟨Nat.zero_le _, Nat.zero_le _⟩ dX4_next_172 (fun S21 H locs hf h => ?_)
        exact x_vret E h hf dX4_next_175
    · refine lv_aload_n E.1 E.2.1 dX4_next_111 rfl (lv_at hl 0 rfl) ?_
      refine x_get E h 0 3 rfl rfl rfl (by decide) xinX4 kw291 dX4_next_112 ?_
      refine lv_iconst (v := 2) E.1 E.2.1 dX4_next_115 (by decide) ?_
      refine x_brn hf (lv_icmp_ne (tgt := 163) E.1 E.2.1 dX4_next_116 (by decide)) (fun hf => ?_) (fun hf => ?_)
      · refine lv_aload_n E.1 E.2.1 dX4_next_163 rfl (lv_at hl 0 rfl) ?_
        refine x_get E h 0 3 rfl rfl rfl (by decide) xinX4 kw291 dX4_next_164 ?_
        refine lv_iconst (v := 2) E.1 E.2.1 dX4_next_167 (by decide) ?_
        refine x_brn hf (lv_icmp_ne (tgt := 175) E.1 E.2.1 dX4_next_168 (by decide)) (fun hf => ?_) (fun hf => ?_)
        · exact x_vret E h hf dX4_next_175
        · refine lv_aload_n E.1 E.2.1 dX4_next_171 rfl (lv_at hl 0 rfl) ?_
          refine x_callv E h hl 0 hf (fun r0 hr => c_X4_readNumber l D cy s00 _ S19  r0 hr) m_X4_readNumber rfl rfl kw494 rfl rfl (Nat.le_of_ble_eq_true rfl) ⟨by decide, by decide⟩ ⟨Nat.zero_le _, Nat.zero_le _⟩ dX4_next_172 (fun S22 H locs hf h => ?_)
          exact x_vret E h hf dX4_next_175
      · refine w_X4_next_L119 E ?_ _ _ _ _ _ hf h (lv_sub hl [0] rfl)
        intro S23 H locs ls hf h hl
        refine lv_aload_n E.1 E.2.1 dX4_next_163 rfl (lv_at hl 0 rfl) ?_
        refine x_get E h 0 3 rfl rfl rfl (by decide) xinX4 kw291 dX4_next_164 ?_
        refine lv_iconst (v := 2) E.1 E.2.1 dX4_next_167 (by decide) ?_
        refine x_brn hf (lv_icmp_ne (tgt := 175) E.1 E.2.1 dX4_next_168 (by decide)) (fun hf => ?_) (fun hf => ?_)
        · exact x_vret E h hf dX4_next_175
        · refine lv_aload_n E.1 E.2.1 dX4_next_171 rfl (lv_at hl 0 rfl) ?_
          refine x_callv E h hl 0 hf (fun r0 hr => c_X4_readNumber l D cy s00 _ S23  r0 hr) m_X4_readNumber rfl rfl kw494 rfl rfl (Nat.le_of_ble_eq_true rfl) ⟨by decide, by decide⟩ ⟨Nat.zero_le _, Nat.zero_le _⟩ dX4_next_172 (fun S24 H locs hf h => ?_)
          exact x_vret E h hf dX4_next_175
set_option maxHeartbeats 4000000 in
set_option maxRecDepth 100000 in
theorem w_X4_isWord_L28 {p : Program} {l : Launch} {e : Env} {s : State} {m : MethodId} {args : Array Value} {below : List Frame} {meth : Method} {c : Code} {D : va_G} {cy : Nat → ClassId} {s00 : State} {ad : Nat → Nat} {A : Nat → Prop} (hG : XG s00) {aK0 aV0 : Nat} {byt0 : List Int32} (g0 : XStr s00 aK0 aV0 byt0) (hlen0 : byt0.length < 2 ^ 31) {r9 : Int32}  {S : XS} {K : Int32 → Option (Int32)} (E : XE p s m args meth c cX4_isWord 3 RX4 (some .boolean) D cy s00) (hk : ∀ (m2 : Int32) (H : Heap) (locs : List Loc) (ls : Array Slot), K m2 = some r9 → XH D cy s00 shRead ad S A s H locs → lv_has ls 3 [(0, .ref (ad 0)), (1, .ref aK0), (2, .int m2)] → W p l e (xrm 4) s m args below meth c H locs 0 0 (MQ below (xqi D cy shRead ad r9 S A) args s 0 0 A) (F0 m 63 ls [])) :
    ∀ (n : Nat) (m2 : Int32) (H : Heap) (locs : List Loc) (ls : Array Slot), f_X4_isWord_L28 byt0 K S n m2 = some r9 → XH D cy s00 shRead ad S A s H locs → lv_has ls 3 [(0, .ref (ad 0)), (1, .ref aK0), (2, .int m2)] → W p l e (xrm 4) s m args below meth c H locs 0 0 (MQ below (xqi D cy shRead ad r9 S A) args s 0 0 A) (F0 m 28 ls []) := by
  intro n
  induction n with
  | zero => intro m2 H locs ls hf; cases hf
  | succ n ih =>
    intro m2 H locs ls hf h hl
    rw [f_X4_isWord_L28] at hf
    refine lv_iload_n E.1 E.2.1 dX4_isWord_28 rfl (lv_at hl 2 rfl) ?_
    refine lv_aload_n E.1 E.2.1 dX4_isWord_29 rfl (lv_at hl 1 rfl) ?_
    refine x_slen hG g0 E h hl kw503 (Nat.le_of_ble_eq_true rfl) ⟨by decide, by decide⟩ ⟨Nat.zero_le _, Nat.zero_le _⟩ dX4_isWord_30 (fun H locs h => ?_)
    refine x_br hf (lv_icmp_ge (tgt := 63) E.1 E.2.1 dX4_isWord_33 (by decide)) (fun hf => ?_) (fun hf => ?_)
    · exact hk _ _ _ _ hf h (lv_sub hl [0, 1, 2] rfl)
    · refine lv_aload_n E.1 E.2.1 dX4_isWord_36 rfl (lv_at hl 0 rfl) ?_
      refine x_getr E h 0 0 1 rfl rfl rfl (by decide) xinX4 kw286 dX4_isWord_37 ?_
      refine lv_aload_n E.1 E.2.1 dX4_isWord_40 rfl (lv_at hl 0 rfl) ?_
      refine x_get E h 0 4 rfl rfl rfl (by decide) xinX4 kw293 dX4_isWord_41 ?_
      refine lv_iload_n E.1 E.2.1 dX4_isWord_44 rfl (lv_at hl 2 rfl) ?_
      refine lv_iadd E.1 E.2.1 dX4_isWord_45 ?_
      refine x_bald E h 1 hf rfl dX4_isWord_46 (fun v1 hf => ?_)
      refine lv_aload_n E.1 E.2.1 dX4_isWord_47 rfl (lv_at hl 1 rfl) ?_
      refine lv_iload_n E.1 E.2.1 dX4_isWord_48 rfl (lv_at hl 2 rfl) ?_
      refine x_sch hG g0 hlen0 E h hl hf kw513 (Nat.le_of_ble_eq_true rfl) ⟨by decide, by decide⟩ ⟨Nat.zero_le _, Nat.zero_le _⟩ dX4_isWord_49 (fun v2 H locs hf h => ?_)
      refine x_br hf (lv_icmp_eq (tgt := 57) E.1 E.2.1 dX4_isWord_52 (by decide)) (fun hf => ?_) (fun hf => ?_)
      · refine x_nv hf (fun v3 e9 hf => ?_)
        refine lv_iinc (v := v3) (lv' := [(2, .int v3), (0, .ref (ad 0)), (1, .ref aK0)]) E.1 E.2.1 dX4_isWord_57 hl (k := 2) rfl (by rw [e9]; rfl) (by decide) rfl (fun ls hl => ?_)
        refine lv_goto (tgt := 28) E.1 E.2.1 dX4_isWord_60 (by decide) ?_
        exact ih _ _ _ _ hf h (lv_sub hl [1, 2, 0] rfl)
      · refine lv_iconst (v := 0) E.1 E.2.1 dX4_isWord_55 (by decide) ?_
        exact x_zrc E h (by decide) hf dX4_isWord_56
set_option maxHeartbeats 4000000 in
set_option maxRecDepth 100000 in
theorem c_X4_isWord (l : Launch) (D : va_G) (cy : Nat → ClassId) (s00 : State) (ad : Nat → Nat) (hG : XG s00) {aK0 aV0 : Nat} {byt0 : List Int32} (g0 : XStr s00 aK0 aV0 byt0) (hlen0 : byt0.length < 2 ^ 31) (S : XS) (r9 : Int32) (hf : f_X4_isWord S byt0 = some r9) : XI l yX4_isWord cX4_isWord 3 (some .boolean) 4 D cy s00 shRead ad S [.ref (ad 0), .ref aK0] r9 S := by
  refine XI.of (by decide) [(0, .ref (ad 0)), (1, .ref aK0)] rfl (Nat.le_of_ble_eq_true rfl) (fun p e s m args below meth c A ls E h hl => ?_)
  unfold f_X4_isWord at hf
  refine lv_aload_n E.1 E.2.1 dX4_isWord_0 rfl (lv_at hl 0 rfl) ?_
  refine x_get E h 0 3 rfl rfl rfl (by decide) xinX4 kw291 dX4_isWord_1 ?_
  refine lv_iconst (v := 1) E.1 E.2.1 dX4_isWord_4 (by decide) ?_
  refine x_brn hf (lv_icmp_ne (tgt := 24) E.1 E.2.1 dX4_isWord_5 (by decide)) (fun hf => ?_) (fun hf => ?_)
  · refine lv_iconst (v := 0) E.1 E.2.1 dX4_isWord_24 (by decide) ?_
    exact x_zrc E h (by decide) hf dX4_isWord_25
  · refine lv_aload_n E.1 E.2.1 dX4_isWord_8 rfl (lv_at hl 1 rfl) ?_
    refine x_slen hG g0 E h hl kw503 (Nat.le_of_ble_eq_true rfl) ⟨by decide, by decide⟩ ⟨Nat.zero_le _, Nat.zero_le _⟩ dX4_isWord_9 (fun H locs h => ?_)
    refine lv_aload_n E.1 E.2.1 dX4_isWord_12 rfl (lv_at hl 0 rfl) ?_
    refine x_get E h 0 2 rfl rfl rfl (by decide) xinX4 kw289 dX4_isWord_13 ?_
    refine lv_aload_n E.1 E.2.1 dX4_isWord_16 rfl (lv_at hl 0 rfl) ?_
    refine x_get E h 0 4 rfl rfl rfl (by decide) xinX4 kw293 dX4_isWord_17 ?_
    refine lv_isub E.1 E.2.1 dX4_isWord_20 ?_
    refine x_br hf (lv_icmp_eq (tgt := 26) E.1 E.2.1 dX4_isWord_21 (by decide)) (fun hf => ?_) (fun hf => ?_)
    · refine lv_iconst (v := 0) E.1 E.2.1 dX4_isWord_26 (by decide) ?_
      refine lv_istore_n (lv' := [(2, .int 0), (0, .ref (ad 0)), (1, .ref aK0)]) E.1 E.2.1 dX4_isWord_27 rfl hl (by decide) rfl (fun ls hl => ?_)
      refine w_X4_isWord_L28 hG g0 hlen0 E ?_ _ _ _ _ _ hf h (lv_sub hl [1, 2, 0] rfl)
      intro v4 H locs ls hf h hl
      refine lv_iconst (v := 1) E.1 E.2.1 dX4_isWord_63 (by decide) ?_
      exact x_zrc E h (by decide) hf dX4_isWord_64
    · refine lv_iconst (v := 0) E.1 E.2.1 dX4_isWord_24 (by decide) ?_
      exact x_zrc E h (by decide) hf dX4_isWord_25
set_option maxHeartbeats 4000000 in
set_option maxRecDepth 100000 in
theorem c_X7_begin (l : Launch) (D : va_G) (cy : Nat → ClassId) (s00 : State) (ad : Nat → Nat) (S : XS) (S9 : XS) (hf : f_X7_begin S = some S9) : XV l yX7_begin cX7_begin 1 none 3 D cy s00 shScr ad S [.ref (ad 0)] S9 := by
  refine XV.of (by decide) [(0, .ref (ad 0))] rfl (Nat.le_of_ble_eq_true rfl) (fun p e s m args below meth c A ls E h hl => ?_)
  unfold f_X7_begin at hf
  refine lv_aload_n E.1 E.2.1 dX7_begin_0 rfl (lv_at hl 0 rfl) ?_
  refine x_getr E h 0 1 3 rfl rfl rfl (by decide) xinX7 kw315 dX7_begin_1 ?_
  refine x_callov E h hl 3 3 hf (xsub_of rfl) (fun r0 hr => c_X6_clear l D cy s00 _ (xs 3 S)  r0 hr) m_X6_clear rfl rfl kw470 rfl rfl (Nat.le_of_ble_eq_true rfl) ⟨by decide, by decide⟩ ⟨Nat.zero_le _, Nat.zero_le _⟩ dX7_begin_4 (fun S1 H locs hf h => ?_)
  refine lv_aload_n E.1 E.2.1 dX7_begin_7 rfl (lv_at hl 0 rfl) ?_
  refine x_getr E h 0 0 1 rfl rfl rfl (by decide) xinX7 kw313 dX7_begin_8 ?_
  refine lv_iconst (v := 0) E.1 E.2.1 dX7_begin_11 (by decide) ?_
  refine x_put (ty := .int) E h 1 2 hf rfl rfl rfl (by decide) xinX4 tyX4_ok nmX4 kw290 rfl (by decide +kernel) rfl rfl dX7_begin_12 (fun S2 H locs hf h => ?_)
  refine lv_aload_n E.1 E.2.1 dX7_begin_15 rfl (lv_at hl 0 rfl) ?_
  refine lv_iconst (v := 0) E.1 E.2.1 dX7_begin_16 (by decide) ?_
  refine x_put (ty := .int) E h 0 2 hf rfl rfl rfl (by decide) xinX7 tyX7_ok nmX7 kw317 rfl (by decide +kernel) rfl rfl dX7_begin_17 (fun S3 H locs hf h => ?_)
  refine lv_aload_n E.1 E.2.1 dX7_begin_20 rfl (lv_at hl 0 rfl) ?_
  refine lv_iconst (v := (-1)) E.1 E.2.1 dX7_begin_21 (by decide) ?_
  refine x_put (ty := .int) E h 0 3 hf rfl rfl rfl (by decide) xinX7 tyX7_ok nmX7 kw319 rfl (by decide +kernel) rfl rfl dX7_begin_22 (fun S4 H locs hf h => ?_)
  refine lv_aload_n E.1 E.2.1 dX7_begin_25 rfl (lv_at hl 0 rfl) ?_
  refine lv_iconst (v := 1) E.1 E.2.1 dX7_begin_26 (by decide) ?_
  refine x_put (ty := .boolean) E h 0 5 hf rfl rfl rfl (by decide) xinX7 tyX7_ok nmX7 kw322 rfl (by decide +kernel) (by decide) (by decide) dX7_begin_27 (fun S5 H locs hf h => ?_)
  refine lv_aload_n E.1 E.2.1 dX7_begin_30 rfl (lv_at hl 0 rfl) ?_
  refine lv_iconst (v := 0) E.1 E.2.1 dX7_begin_31 (by decide) ?_
  refine x_put (ty := .int) E h 0 6 hf rfl rfl rfl (by decide) xinX7 tyX7_ok nmX7 kw323 rfl (by decide +kernel) rfl rfl dX7_begin_32 (fun S6 H locs hf h => ?_)
  refine lv_aload_n E.1 E.2.1 dX7_begin_35 rfl (lv_at hl 0 rfl) ?_
  refine lv_iconst (v := 0) E.1 E.2.1 dX7_begin_36 (by decide) ?_
  refine x_put (ty := .int) E h 0 7 hf rfl rfl rfl (by decide) xinX7 tyX7_ok nmX7 kw324 rfl (by decide +kernel) rfl rfl dX7_begin_37 (fun S7 H locs hf h => ?_)
  exact x_vret E h hf dX7_begin_40
set_option maxHeartbeats 4000000 in
set_option maxRecDepth 100000 in
theorem c_X7_fail (l : Launch) (D : va_G) (cy : Nat → ClassId) (s00 : State) (ad : Nat → Nat) (S : XS) (p0 : Int32) (S9 : XS) (hf : f_X7_fail S p0 = some S9) : XV l yX7_fail cX7_fail 2 none 0 D cy s00 shScr ad S [.ref (ad 0), .int p0] S9 := by
  refine XV.of (by decide) [(0, .ref (ad 0)), (1, .int p0)] rfl (Nat.le_of_ble_eq_true rfl) (fun p e s m args below meth c A ls E h hl => ?_)
  unfold f_X7_fail at hf
  refine lv_aload_n E.1 E.2.1 dX7_fail_0 rfl (lv_at hl 0 rfl) ?_
  refine lv_iload_n E.1 E.2.1 dX7_fail_1 rfl (lv_at hl 1 rfl) ?_
  refine x_put (ty := .int) E h 0 2 hf rfl rfl rfl (by decide) xinX7 tyX7_ok nmX7 kw317 rfl (by decide +kernel) rfl rfl dX7_fail_2 (fun S1 H locs hf h => ?_)
  refine lv_aload_n E.1 E.2.1 dX7_fail_5 rfl (lv_at hl 0 rfl) ?_
  refine lv_aload_n E.1 E.2.1 dX7_fail_6 rfl (lv_at hl 0 rfl) ?_
  refine x_getr E h 0 0 1 rfl rfl rfl (by decide) xinX7 kw313 dX7_fail_7 ?_
  refine x_get E h 1 4 rfl rfl rfl (by decide) xinX4 kw294 dX7_fail_10 ?_
  refine x_put (ty := .int) E h 0 3 hf rfl rfl rfl (by decide) xinX7 tyX7_ok nmX7 kw319 rfl (by decide +kernel) rfl rfl dX7_fail_13 (fun S2 H locs hf h => ?_)
  refine lv_aload_n E.1 E.2.1 dX7_fail_16 rfl (lv_at hl 0 rfl) ?_
  refine lv_iconst (v := 0) E.1 E.2.1 dX7_fail_17 (by decide) ?_
  refine x_put (ty := .boolean) E h 0 5 hf rfl rfl rfl (by decide) xinX7 tyX7_ok nmX7 kw322 rfl (by decide +kernel) (by decide) (by decide) dX7_fail_18 (fun S3 H locs hf h => ?_)
  exact x_vret E h hf dX7_fail_21
set_option maxHeartbeats 4000000 in
set_option maxRecDepth 100000 in
theorem c_X7_expect (l : Launch) (D : va_G) (cy : Nat → ClassId) (s00 : State) (ad : Nat → Nat) (S : XS) (p0 : Int32) (r9 : Int32) (S9 : XS) (hf : f_X7_expect S p0 = some (r9, S9)) : XI l yX7_expect cX7_expect 2 (some .boolean) 2 D cy s00 shScr ad S [.ref (ad 0), .int p0] r9 S9 := by
  refine XI.of (by decide) [(0, .ref (ad 0)), (1, .int p0)] rfl (Nat.le_of_ble_eq_true rfl) (fun p e s m args below meth c A ls E h hl => ?_)
  unfold f_X7_expect at hf
  refine lv_aload_n E.1 E.2.1 dX7_expect_0 rfl (lv_at hl 0 rfl) ?_
  refine x_getr E h 0 0 1 rfl rfl rfl (by decide) xinX7 kw313 dX7_expect_1 ?_
  refine x_callov E h hl 1 1 hf (xsub_of rfl) (fun r0 hr => c_X4_next l D cy s00 _ (xs 1 S)  r0 hr) m_X4_next rfl rfl kw486 rfl rfl (Nat.le_of_ble_eq_true rfl) ⟨by decide, by decide⟩ ⟨Nat.zero_le _, Nat.zero_le _⟩ dX7_expect_4 (fun S1 H locs hf h => ?_)
  refine lv_aload_n E.1 E.2.1 dX7_expect_7 rfl (lv_at hl 0 rfl) ?_
  refine x_getr E h 0 0 1 rfl rfl rfl (by decide) xinX7 kw313 dX7_expect_8 ?_
  refine x_get E h 1 3 rfl rfl rfl (by decide) xinX4 kw292 dX7_expect_11 ?_
  refine lv_iload_n E.1 E.2.1 dX7_expect_14 rfl (lv_at hl 1 rfl) ?_
  refine x_br hf (lv_icmp_eq (tgt := 25) E.1 E.2.1 dX7_expect_15 (by decide)) (fun hf => ?_) (fun hf => ?_)
  · refine lv_iconst (v := 1) E.1 E.2.1 dX7_expect_25 (by decide) ?_
    exact x_zic E h (by decide) hf dX7_expect_26
  · refine lv_aload_n E.1 E.2.1 dX7_expect_18 rfl (lv_at hl 0 rfl) ?_
    refine lv_iconst (v := 1) E.1 E.2.1 dX7_expect_19 (by decide) ?_
    refine x_callv E h hl 0 hf (fun r0 hr => c_X7_fail l D cy s00 _ S1 1 r0 hr) m_X7_fail rfl rfl kw555 rfl rfl (Nat.le_of_ble_eq_true rfl) ⟨by decide, by decide⟩ ⟨Nat.zero_le _, Nat.zero_le _⟩ dX7_expect_20 (fun S2 H locs hf h => ?_)
    refine lv_iconst (v := 0) E.1 E.2.1 dX7_expect_23 (by decide) ?_
    exact x_zic E h (by decide) hf dX7_expect_24
set_option maxHeartbeats 4000000 in
set_option maxRecDepth 100000 in
theorem c_X7_readHead (l : Launch) (D : va_G) (cy : Nat → ClassId) (s00 : State) (ad : Nat → Nat) (hG : XG s00) (S : XS) (S9 : XS) (hf : f_X7_readHead S = some S9) : XV l yX7_readHead cX7_readHead 1 none 5 D cy s00 shScr ad S [.ref (ad 0)] S9 := by
  refine XV.of (by decide) [(0, .ref (ad 0))] rfl (Nat.le_of_ble_eq_true rfl) (fun p e s m args below meth c A ls E h hl => ?_)
  unfold f_X7_readHead at hf
  refine lv_aload_n E.1 E.2.1 dX7_readHead_0 rfl (lv_at hl 0 rfl) ?_
  refine x_getr E h 0 0 1 rfl rfl rfl (by decide) xinX7 kw313 dX7_readHead_1 ?_
  refine x_callov E h hl 1 1 hf (xsub_of rfl) (fun r0 hr => c_X4_next l D cy s00 _ (xs 1 S)  r0 hr) m_X4_next rfl rfl kw486 rfl rfl (Nat.le_of_ble_eq_true rfl) ⟨by decide, by decide⟩ ⟨Nat.zero_le _, Nat.zero_le _⟩ dX7_readHead_4 (fun S1 H locs hf h => ?_)
  refine lv_aload_n E.1 E.2.1 dX7_readHead_7 rfl (lv_at hl 0 rfl) ?_
  refine x_getr E h 0 0 1 rfl rfl rfl (by decide) xinX7 kw313 dX7_readHead_8 ?_
  refine x_ldcS hG E 0 (byt := lb0) rfl dX7_readHead_11 (fun aK2 aV2 g2 => ?_)
  refine x_callop E h hl 1 1 hf (xsub_of rfl) (fun r0 hr => c_X4_isWord l D cy s00 _ hG g2 (by decide) (xs 1 S1)  r0 hr) m_X4_isWord rfl rfl kw499 rfl rfl (Nat.le_of_ble_eq_true rfl) ⟨by decide, by decide⟩ ⟨Nat.zero_le _, Nat.zero_le _⟩ dX7_readHead_13 (fun v3 H locs hf h => ?_)
  refine x_br hf (lv_if_eq (tgt := 28) E.1 E.2.1 dX7_readHead_16 (by decide)) (fun hf => ?_) (fun hf => ?_)
  · refine lv_aload_n E.1 E.2.1 dX7_readHead_28 rfl (lv_at hl 0 rfl) ?_
    refine lv_iconst (v := 1) E.1 E.2.1 dX7_readHead_29 (by decide) ?_
    refine x_callv E h hl 0 hf (fun r0 hr => c_X7_fail l D cy s00 _ S1 1 r0 hr) m_X7_fail rfl rfl kw555 rfl rfl (Nat.le_of_ble_eq_true rfl) ⟨by decide, by decide⟩ ⟨Nat.zero_le _, Nat.zero_le _⟩ dX7_readHead_30 (fun S4 H locs hf h => ?_)
    exact x_vret E h hf dX7_readHead_33
  · refine lv_aload_n E.1 E.2.1 dX7_readHead_19 rfl (lv_at hl 0 rfl) ?_
    refine lv_iconst (v := 5) E.1 E.2.1 dX7_readHead_20 (by decide) ?_
    refine x_calli E h hl 0 hf (fun r0 Sq0 hr => c_X7_expect l D cy s00 _ S1 5 r0 Sq0 hr) m_X7_expect rfl rfl kw551 rfl rfl (Nat.le_of_ble_eq_true rfl) ⟨by decide, by decide⟩ ⟨Nat.zero_le _, Nat.zero_le _⟩ dX7_readHead_21 (fun v5 S6 H locs hf h => ?_)
    refine lv_pop E.1 E.2.1 dX7_readHead_24 rfl ?_
    refine lv_goto (tgt := 33) E.1 E.2.1 dX7_readHead_25 (by decide) ?_
    exact x_vret E h hf dX7_readHead_33
set_option maxHeartbeats 4000000 in
set_option maxRecDepth 100000 in
theorem c_X7_closeRound (l : Launch) (D : va_G) (cy : Nat → ClassId) (s00 : State) (ad : Nat → Nat) (S : XS) (S9 : XS) (hf : f_X7_closeRound S = some S9) : XV l yX7_closeRound cX7_closeRound 2 none 3 D cy s00 shScr ad S [.ref (ad 0)] S9 := by
  refine XV.of (by decide) [(0, .ref (ad 0))] rfl (Nat.le_of_ble_eq_true rfl) (fun p e s m args below meth c A ls E h hl => ?_)
  unfold f_X7_closeRound at hf
  refine lv_aload_n E.1 E.2.1 dX7_closeRound_0 rfl (lv_at hl 0 rfl) ?_
  refine x_get E h 0 7 rfl rfl rfl (by decide) xinX7 kw324 dX7_closeRound_1 ?_
  refine lv_iconst (v := 1) E.1 E.2.1 dX7_closeRound_4 (by decide) ?_
  refine lv_isub E.1 E.2.1 dX7_closeRound_5 ?_
  refine x_nm hf (fun v1 hf => ?_)
  refine lv_istore_n (lv' := [(1, .int v1), (0, .ref (ad 0))]) E.1 E.2.1 dX7_closeRound_6 rfl hl (by decide) rfl (fun ls hl => ?_)
  refine lv_aload_n E.1 E.2.1 dX7_closeRound_7 rfl (lv_at hl 1 rfl) ?_
  refine x_getr E h 0 9 18 rfl rfl rfl (by decide) xinX7 kw326 dX7_closeRound_8 ?_
  refine lv_iload_n E.1 E.2.1 dX7_closeRound_11 rfl (lv_at hl 0 rfl) ?_
  refine lv_dup2_11 E.1 E.2.1 dX7_closeRound_12 rfl rfl ?_
  refine x_iald E h 18 hf rfl dX7_closeRound_13 (fun v2 hf => ?_)
  refine lv_iconst (v := 1) E.1 E.2.1 dX7_closeRound_14 (by decide) ?_
  refine lv_isub E.1 E.2.1 dX7_closeRound_15 ?_
  refine x_iast E h 18 hf rfl dX7_closeRound_16 (fun S3 H locs hf h => ?_)
  refine lv_aload_n E.1 E.2.1 dX7_closeRound_17 rfl (lv_at hl 1 rfl) ?_
  refine x_getr E h 0 9 18 rfl rfl rfl (by decide) xinX7 kw326 dX7_closeRound_18 ?_
  refine lv_iload_n E.1 E.2.1 dX7_closeRound_21 rfl (lv_at hl 0 rfl) ?_
  refine x_iald E h 18 hf rfl dX7_closeRound_22 (fun v5 hf => ?_)
  refine x_br hf (lv_if_le (tgt := 42) E.1 E.2.1 dX7_closeRound_23 (by decide)) (fun hf => ?_) (fun hf => ?_)
  · refine lv_aload_n E.1 E.2.1 dX7_closeRound_42 rfl (lv_at hl 1 rfl) ?_
    refine lv_iload_n E.1 E.2.1 dX7_closeRound_43 rfl (lv_at hl 0 rfl) ?_
    refine x_put (ty := .int) E h 0 7 hf rfl rfl rfl (by decide) xinX7 tyX7_ok nmX7 kw324 rfl (by decide +kernel) rfl rfl dX7_closeRound_44 (fun S6 H locs hf h => ?_)
    refine lv_aload_n E.1 E.2.1 dX7_closeRound_47 rfl (lv_at hl 1 rfl) ?_
    refine lv_iconst (v := 5) E.1 E.2.1 dX7_closeRound_48 (by decide) ?_
    refine x_calli E h hl 0 hf (fun r0 Sq0 hr => c_X7_expect l D cy s00 _ S6 5 r0 Sq0 hr) m_X7_expect rfl rfl kw551 rfl rfl (Nat.le_of_ble_eq_true rfl) ⟨by decide, by decide⟩ ⟨Nat.zero_le _, Nat.zero_le _⟩ dX7_closeRound_49 (fun v7 S8 H locs hf h => ?_)
    refine lv_pop E.1 E.2.1 dX7_closeRound_52 rfl ?_
    exact x_vret E h hf dX7_closeRound_53
  · refine lv_aload_n E.1 E.2.1 dX7_closeRound_26 rfl (lv_at hl 1 rfl) ?_
    refine x_getr E h 0 0 1 rfl rfl rfl (by decide) xinX7 kw313 dX7_closeRound_27 ?_
    refine lv_aload_n E.1 E.2.1 dX7_closeRound_30 rfl (lv_at hl 1 rfl) ?_
    refine x_getr E h 0 8 17 rfl rfl rfl (by decide) xinX7 kw325 dX7_closeRound_31 ?_
    refine lv_iload_n E.1 E.2.1 dX7_closeRound_34 rfl (lv_at hl 0 rfl) ?_
    refine x_iald E h 17 hf rfl dX7_closeRound_35 (fun v9 hf => ?_)
    refine x_put (ty := .int) E h 1 2 hf rfl rfl rfl (by decide) xinX4 tyX4_ok nmX4 kw290 rfl (by decide +kernel) rfl rfl dX7_closeRound_36 (fun S10 H locs hf h => ?_)
    refine lv_goto (tgt := 53) E.1 E.2.1 dX7_closeRound_39 (by decide) ?_
    exact x_vret E h hf dX7_closeRound_53
set_option maxHeartbeats 4000000 in
set_option maxRecDepth 100000 in
theorem w_X7_commandHere_L2 {p : Program} {l : Launch} {e : Env} {s : State} {m : MethodId} {args : Array Value} {below : List Frame} {meth : Method} {c : Code} {D : va_G} {cy : Nat → ClassId} {s00 : State} {ad : Nat → Nat} {A : Nat → Prop} (hG : XG s00) {tE : xEnT} (hEn : XEn s00 tE) {r9 : Option Nat} {S9 : XS}  {S : XS} {K : Int32 → Option (Option Nat × XS)} (E : XE p s m args meth c cX7_commandHere 2 RX7 (some (.object xCmd)) D cy s00) (hk : ∀ (m1 : Int32) (H : Heap) (locs : List Loc) (ls : Array Slot), K m1 = some (r9, S9) → XH D cy s00 shScr ad S A s H locs → lv_has ls 2 [(0, .ref (ad 0)), (1, .int m1)] → W p l e (xrm 5) s m args below meth c H locs 0 0 (MQ below (xqo D cy tE.1 shScr ad r9 S9 A) args s 0 0 A) (F0 m 40 ls [])) :
    ∀ (n : Nat) (m1 : Int32) (H : Heap) (locs : List Loc) (ls : Array Slot), f_X7_commandHere_L2 K S n m1 = some (r9, S9) → XH D cy s00 shScr ad S A s H locs → lv_has ls 2 [(0, .ref (ad 0)), (1, .int m1)] → W p l e (xrm 5) s m args below meth c H locs 0 0 (MQ below (xqo D cy tE.1 shScr ad r9 S9 A) args s 0 0 A) (F0 m 2 ls []) := by
  intro n
  induction n with
  | zero => intro m1 H locs ls hf; cases hf
  | succ n ih =>
    intro m1 H locs ls hf h hl
    rw [f_X7_commandHere_L2] at hf
    refine lv_iload_n E.1 E.2.1 dX7_commandHere_2 rfl (lv_at hl 1 rfl) ?_
    refine va_gets E.1 E.2.1 (xZ_here hEn.2.2.1 E h) h.2.2.1 E.2.2.2.1 (E.2.2.2.2.1 _ kw572) (fun _ h9 => h9) dX7_commandHere_3 ?_
    refine va_tlen E.1 E.2.1 (xT_here hEn.2.2.2.1 E h) h.2.2.1 (v := 13) rfl dX7_commandHere_6 ?_
    refine x_br hf (lv_icmp_ge (tgt := 40) E.1 E.2.1 dX7_commandHere_7 (by decide)) (fun hf => ?_) (fun hf => ?_)
    · exact hk _ _ _ _ hf h (lv_sub hl [0, 1] rfl)
    · refine lv_aload_n E.1 E.2.1 dX7_commandHere_10 rfl (lv_at hl 0 rfl) ?_
      refine x_getr E h 0 0 1 rfl rfl rfl (by decide) xinX7 kw313 dX7_commandHere_11 ?_
      refine va_gets E.1 E.2.1 (xZ_here hEn.2.2.1 E h) h.2.2.1 E.2.2.2.1 (E.2.2.2.2.1 _ kw572) (fun _ h9 => h9) dX7_commandHere_14 ?_
      refine lv_iload_n E.1 E.2.1 dX7_commandHere_17 rfl (lv_at hl 1 rfl) ?_
      obtain ⟨hin, hf⟩ := xwr_in hf
      have hk1 := xin_lt hin
      refine vb_tq E.1 E.2.1 (xT_here hEn.2.2.2.1 E h) h.2.2.1 hin (v := .ref (tE.1 (m1 : Int32).toNatClampNeg)) rfl dX7_commandHere_18 ?_
      generalize (m1 : Int32).toNatClampNeg = k1 at hf hk1 ⊢
      refine vk_getf E.1 E.2.1 (xOF_here (hEn.1 k1 hk1).2.2.1 E h) h.2.2.1 E.2.2.2.1 (E.2.2.2.2.1 _ kw2027) (fun _ h9 => h9) dX7_commandHere_19 ?_
      refine x_callop E h hl 1 1 hf (xsub_of rfl) (fun r0 hr => c_X4_isWord l D cy s00 _ hG (hEn.1 k1 hk1).2.2.2.2.1 (xWord_len k1) (xs 1 S)  r0 hr) m_X4_isWord rfl rfl kw499 rfl rfl (Nat.le_of_ble_eq_true rfl) ⟨by decide, by decide⟩ ⟨Nat.zero_le _, Nat.zero_le _⟩ dX7_commandHere_22 (fun v2 H locs hf h => ?_)
      refine x_br hf (lv_if_eq (tgt := 34) E.1 E.2.1 dX7_commandHere_25 (by decide)) (fun hf => ?_) (fun hf => ?_)
      · refine x_nv hf (fun v3 e9 hf => ?_)
        refine lv_iinc (v := v3) (lv' := [(1, .int v3), (0, .ref (ad 0))]) E.1 E.2.1 dX7_commandHere_34 hl (k := 1) rfl (by rw [e9]; rfl) (by decide) rfl (fun ls hl => ?_)
        refine lv_goto (tgt := 2) E.1 E.2.1 dX7_commandHere_37 (by decide) ?_
        exact ih _ _ _ _ hf h (lv_sub hl [1, 0] rfl)
      · refine va_gets E.1 E.2.1 (xZ_here hEn.2.2.1 E h) h.2.2.1 E.2.2.2.1 (E.2.2.2.2.1 _ kw572) (fun _ h9 => h9) dX7_commandHere_28 ?_
        refine lv_iload_n E.1 E.2.1 dX7_commandHere_31 rfl (lv_at hl 1 rfl) ?_
        obtain ⟨hin, hf⟩ := xwr_in hf
        have hk4 := xin_lt hin
        refine vb_tq E.1 E.2.1 (xT_here hEn.2.2.2.1 E h) h.2.2.1 hin (v := .ref (tE.1 (m1 : Int32).toNatClampNeg)) rfl dX7_commandHere_32 ?_
        generalize (m1 : Int32).toNatClampNeg = k4 at hf hk4 ⊢
        exact x_aret (adE := tE.1) (v := (some k4)) E h hf dX7_commandHere_33
set_option maxHeartbeats 4000000 in
set_option maxRecDepth 100000 in
theorem c_X7_commandHere (l : Launch) (D : va_G) (cy : Nat → ClassId) (s00 : State) (ad : Nat → Nat) (hG : XG s00) {tE : xEnT} (hEn : XEn s00 tE) (S : XS) (r9 : Option Nat) (S9 : XS) (hf : f_X7_commandHere S = some (r9, S9)) : XO l yX7_commandHere cX7_commandHere 2 (some (.object xCmd)) 5 D cy s00 tE.1 shScr ad S [.ref (ad 0)] r9 S9 := by
  refine XO.of (by decide) [(0, .ref (ad 0))] rfl (Nat.le_of_ble_eq_true rfl) (fun p e s m args below meth c A ls E h hl => ?_)
  unfold f_X7_commandHere at hf
  refine lv_iconst (v := 0) E.1 E.2.1 dX7_commandHere_0 (by decide) ?_
  refine lv_istore_n (lv' := [(1, .int 0), (0, .ref (ad 0))]) E.1 E.2.1 dX7_commandHere_1 rfl hl (by decide) rfl (fun ls hl => ?_)
  refine w_X7_commandHere_L2 hG hEn E ?_ _ _ _ _ _ hf h (lv_sub hl [1, 0] rfl)
  intro v5 H locs ls hf h hl
  refine lv_null E.1 E.2.1 dX7_commandHere_40 ?_
  exact x_aret (adE := tE.1) (v := none) E h hf dX7_commandHere_41
set_option maxHeartbeats 4000000 in
set_option maxRecDepth 100000 in
theorem c_X7_fits (l : Launch) (D : va_G) (cy : Nat → ClassId) (s00 : State) (ad : Nat → Nat) (S : XS) (p0 p1 : Int32) (r9 : Int32) (hf : f_X7_fits S p0 p1 = some r9) : XI l yX7_fits cX7_fits 3 (some .boolean) 1 D cy s00 shScr ad S [.ref (ad 0), .int p0, .int p1] r9 S := by
  refine XI.of (by decide) [(0, .ref (ad 0)), (1, .int p0), (2, .int p1)] rfl (Nat.le_of_ble_eq_true rfl) (fun p e s m args below meth c A ls E h hl => ?_)
  unfold f_X7_fits at hf
  refine lv_iload_n E.1 E.2.1 dX7_fits_0 rfl (lv_at hl 1 rfl) ?_
  refine x_case hf (fun c9 hf => ?_) (fun c167 hf => ?_)
  · refine lv_lookup (tgt := 145) E.1 E.2.1 dX7_fits_1 (by decide) (by rw [c9]) (by decide) ?_
    refine lv_aload_n E.1 E.2.1 dX7_fits_145 rfl (lv_at hl 0 rfl) ?_
    refine x_getr E h 0 1 3 rfl rfl rfl (by decide) xinX7 kw315 dX7_fits_146 ?_
    refine lv_iload_n E.1 E.2.1 dX7_fits_149 rfl (lv_at hl 2 rfl) ?_
    refine x_callop E h hl 3 3 hf (xsub_of rfl) (fun r0 hr => c_X6_hasCat l D cy s00 _ (xs 3 S) p1 r0 hr) m_X6_hasCat rfl rfl kw594 rfl rfl (Nat.le_of_ble_eq_true rfl) ⟨by decide, by decide⟩ ⟨Nat.zero_le _, Nat.zero_le _⟩ dX7_fits_150 (fun v1 H locs hf h => ?_)
    refine x_br hf (lv_if_eq (tgt := 170) E.1 E.2.1 dX7_fits_153 (by decide)) (fun hf => ?_) (fun hf => ?_)
    · refine lv_iconst (v := 0) E.1 E.2.1 dX7_fits_170 (by decide) ?_
      exact x_zrc E h (by decide) hf dX7_fits_171
    · refine lv_iload_n E.1 E.2.1 dX7_fits_156 rfl (lv_at hl 2 rfl) ?_
      refine lv_aload_n E.1 E.2.1 dX7_fits_157 rfl (lv_at hl 0 rfl) ?_
      refine x_getr E h 0 4 16 rfl rfl rfl (by decide) xinX7 kw321 dX7_fits_158 ?_
      refine lv_iconst (v := 0) E.1 E.2.1 dX7_fits_161 (by decide) ?_
      refine x_iald E h 16 hf rfl dX7_fits_162 (fun v2 hf => ?_)
      refine x_br hf (lv_icmp_eq (tgt := 170) E.1 E.2.1 dX7_fits_163 (by decide)) (fun hf => ?_) (fun hf => ?_)
      · refine lv_iconst (v := 0) E.1 E.2.1 dX7_fits_170 (by decide) ?_
        exact x_zrc E h (by decide) hf dX7_fits_171
      · refine lv_iconst (v := 1) E.1 E.2.1 dX7_fits_166 (by decide) ?_
        refine lv_goto (tgt := 171) E.1 E.2.1 dX7_fits_167 (by decide) ?_
        exact x_zrc E h (by decide) hf dX7_fits_171
  refine x_case hf (fun c9 hf => ?_) (fun c172 hf => ?_)
  · refine lv_lookup (tgt := 109) E.1 E.2.1 dX7_fits_1 (by decide) (by rw [c9]) (by decide) ?_
    refine lv_aload_n E.1 E.2.1 dX7_fits_109 rfl (lv_at hl 0 rfl) ?_
    refine x_getr E h 0 1 3 rfl rfl rfl (by decide) xinX7 kw315 dX7_fits_110 ?_
    refine lv_iload_n E.1 E.2.1 dX7_fits_113 rfl (lv_at hl 2 rfl) ?_
    refine x_callop E h hl 3 3 hf (xsub_of rfl) (fun r0 hr => c_X6_hasChimney l D cy s00 _ (xs 3 S) p1 r0 hr) m_X6_hasChimney rfl rfl kw590 rfl rfl (Nat.le_of_ble_eq_true rfl) ⟨by decide, by decide⟩ ⟨Nat.zero_le _, Nat.zero_le _⟩ dX7_fits_114 (fun v3 H locs hf h => ?_)
    refine x_br hf (lv_if_eq (tgt := 134) E.1 E.2.1 dX7_fits_117 (by decide)) (fun hf => ?_) (fun hf => ?_)
    · refine lv_iconst (v := 0) E.1 E.2.1 dX7_fits_134 (by decide) ?_
      exact x_zrc E h (by decide) hf dX7_fits_135
    · refine lv_iload_n E.1 E.2.1 dX7_fits_120 rfl (lv_at hl 2 rfl) ?_
      refine lv_aload_n E.1 E.2.1 dX7_fits_121 rfl (lv_at hl 0 rfl) ?_
      refine x_getr E h 0 4 16 rfl rfl rfl (by decide) xinX7 kw321 dX7_fits_122 ?_
      refine lv_iconst (v := 0) E.1 E.2.1 dX7_fits_125 (by decide) ?_
      refine x_iald E h 16 hf rfl dX7_fits_126 (fun v4 hf => ?_)
      refine x_br hf (lv_icmp_eq (tgt := 134) E.1 E.2.1 dX7_fits_127 (by decide)) (fun hf => ?_) (fun hf => ?_)
      · refine lv_iconst (v := 0) E.1 E.2.1 dX7_fits_134 (by decide) ?_
        exact x_zrc E h (by decide) hf dX7_fits_135
      · refine lv_iconst (v := 1) E.1 E.2.1 dX7_fits_130 (by decide) ?_
        refine lv_goto (tgt := 135) E.1 E.2.1 dX7_fits_131 (by decide) ?_
        exact x_zrc E h (by decide) hf dX7_fits_135
  refine x_case hf (fun c9 hf => ?_) (fun c199 hf => ?_)
  · refine lv_lookup (tgt := 136) E.1 E.2.1 dX7_fits_1 (by decide) (by rw [c9]) (by decide) ?_
    refine lv_aload_n E.1 E.2.1 dX7_fits_136 rfl (lv_at hl 0 rfl) ?_
    refine x_getr E h 0 1 3 rfl rfl rfl (by decide) xinX7 kw315 dX7_fits_137 ?_
    refine lv_iload_n E.1 E.2.1 dX7_fits_140 rfl (lv_at hl 2 rfl) ?_
    refine x_callop E h hl 3 3 hf (xsub_of rfl) (fun r0 hr => c_X6_hasCat l D cy s00 _ (xs 3 S) p1 r0 hr) m_X6_hasCat rfl rfl kw594 rfl rfl (Nat.le_of_ble_eq_true rfl) ⟨by decide, by decide⟩ ⟨Nat.zero_le _, Nat.zero_le _⟩ dX7_fits_141 (fun v5 H locs hf h => ?_)
    exact x_zrp E h hf dX7_fits_144
  refine x_case hf (fun c9 hf => ?_) (fun c202 hf => ?_)
  · refine lv_lookup (tgt := 210) E.1 E.2.1 dX7_fits_1 (by decide) (by rw [c9]) (by decide) ?_
    refine lv_iload_n E.1 E.2.1 dX7_fits_210 rfl (lv_at hl 2 rfl) ?_
    refine lv_iconst (v := 1) E.1 E.2.1 dX7_fits_211 (by decide) ?_
    refine x_br hf (lv_icmp_lt (tgt := 225) E.1 E.2.1 dX7_fits_212 (by decide)) (fun hf => ?_) (fun hf => ?_)
    · refine lv_iconst (v := 0) E.1 E.2.1 dX7_fits_225 (by decide) ?_
      exact x_zrc E h (by decide) hf dX7_fits_226
    · refine lv_iload_n E.1 E.2.1 dX7_fits_215 rfl (lv_at hl 2 rfl) ?_
      refine lv_bipush (v := 9) E.1 E.2.1 dX7_fits_216 (by decide) ?_
      refine x_br hf (lv_icmp_gt (tgt := 225) E.1 E.2.1 dX7_fits_218 (by decide)) (fun hf => ?_) (fun hf => ?_)
      · refine lv_iconst (v := 0) E.1 E.2.1 dX7_fits_225 (by decide) ?_
        exact x_zrc E h (by decide) hf dX7_fits_226
      · refine lv_iconst (v := 1) E.1 E.2.1 dX7_fits_221 (by decide) ?_
        refine lv_goto (tgt := 226) E.1 E.2.1 dX7_fits_222 (by decide) ?_
        exact x_zrc E h (by decide) hf dX7_fits_226
  refine x_case hf (fun c9 hf => ?_) (fun c203 hf => ?_)
  · refine lv_lookup (tgt := 172) E.1 E.2.1 dX7_fits_1 (by decide) (by rw [c9]) (by decide) ?_
    refine lv_aload_n E.1 E.2.1 dX7_fits_172 rfl (lv_at hl 0 rfl) ?_
    refine x_getr E h 0 1 3 rfl rfl rfl (by decide) xinX7 kw315 dX7_fits_173 ?_
    refine lv_iload_n E.1 E.2.1 dX7_fits_176 rfl (lv_at hl 2 rfl) ?_
    refine x_callop E h hl 3 3 hf (xsub_of rfl) (fun r0 hr => c_X6_hasGutter l D cy s00 _ (xs 3 S) p1 r0 hr) m_X6_hasGutter rfl rfl kw598 rfl rfl (Nat.le_of_ble_eq_true rfl) ⟨by decide, by decide⟩ ⟨Nat.zero_le _, Nat.zero_le _⟩ dX7_fits_177 (fun v6 H locs hf h => ?_)
    exact x_zrp E h hf dX7_fits_180
  refine x_case hf (fun c9 hf => ?_) (fun c204 hf => ?_)
  · refine lv_lookup (tgt := 100) E.1 E.2.1 dX7_fits_1 (by decide) (by rw [c9]) (by decide) ?_
    refine lv_aload_n E.1 E.2.1 dX7_fits_100 rfl (lv_at hl 0 rfl) ?_
    refine x_getr E h 0 1 3 rfl rfl rfl (by decide) xinX7 kw315 dX7_fits_101 ?_
    refine lv_iload_n E.1 E.2.1 dX7_fits_104 rfl (lv_at hl 2 rfl) ?_
    refine x_callop E h hl 3 3 hf (xsub_of rfl) (fun r0 hr => c_X6_hasChimney l D cy s00 _ (xs 3 S) p1 r0 hr) m_X6_hasChimney rfl rfl kw590 rfl rfl (Nat.le_of_ble_eq_true rfl) ⟨by decide, by decide⟩ ⟨Nat.zero_le _, Nat.zero_le _⟩ dX7_fits_105 (fun v7 H locs hf h => ?_)
    exact x_zrp E h hf dX7_fits_108
  refine x_case hf (fun c9 hf => ?_) (fun c210 hf => ?_)
  · refine lv_lookup (tgt := 244) E.1 E.2.1 dX7_fits_1 (by decide) (by rw [c9]) (by decide) ?_
    refine lv_iload_n E.1 E.2.1 dX7_fits_244 rfl (lv_at hl 2 rfl) ?_
    refine lv_iconst (v := 1) E.1 E.2.1 dX7_fits_245 (by decide) ?_
    refine x_br hf (lv_icmp_lt (tgt := 259) E.1 E.2.1 dX7_fits_246 (by decide)) (fun hf => ?_) (fun hf => ?_)
    · refine lv_iconst (v := 0) E.1 E.2.1 dX7_fits_259 (by decide) ?_
      exact x_zrc E h (by decide) hf dX7_fits_260
    · refine lv_iload_n E.1 E.2.1 dX7_fits_249 rfl (lv_at hl 2 rfl) ?_
      refine lv_bipush (v := 30) E.1 E.2.1 dX7_fits_250 (by decide) ?_
      refine x_br hf (lv_icmp_gt (tgt := 259) E.1 E.2.1 dX7_fits_252 (by decide)) (fun hf => ?_) (fun hf => ?_)
      · refine lv_iconst (v := 0) E.1 E.2.1 dX7_fits_259 (by decide) ?_
        exact x_zrc E h (by decide) hf dX7_fits_260
      · refine lv_iconst (v := 1) E.1 E.2.1 dX7_fits_255 (by decide) ?_
        refine lv_goto (tgt := 260) E.1 E.2.1 dX7_fits_256 (by decide) ?_
        exact x_zrc E h (by decide) hf dX7_fits_260
  refine x_case hf (fun c9 hf => ?_) (fun c214 hf => ?_)
  · refine lv_lookup (tgt := 261) E.1 E.2.1 dX7_fits_1 (by decide) (by rw [c9]) (by decide) ?_
    refine lv_iload_n E.1 E.2.1 dX7_fits_261 rfl (lv_at hl 2 rfl) ?_
    refine lv_iconst (v := 1) E.1 E.2.1 dX7_fits_262 (by decide) ?_
    refine x_br hf (lv_icmp_lt (tgt := 276) E.1 E.2.1 dX7_fits_263 (by decide)) (fun hf => ?_) (fun hf => ?_)
    · refine lv_iconst (v := 0) E.1 E.2.1 dX7_fits_276 (by decide) ?_
      exact x_zrc E h (by decide) hf dX7_fits_277
    · refine lv_iload_n E.1 E.2.1 dX7_fits_266 rfl (lv_at hl 2 rfl) ?_
      refine lv_bipush (v := 20) E.1 E.2.1 dX7_fits_267 (by decide) ?_
      refine x_br hf (lv_icmp_gt (tgt := 276) E.1 E.2.1 dX7_fits_269 (by decide)) (fun hf => ?_) (fun hf => ?_)
      · refine lv_iconst (v := 0) E.1 E.2.1 dX7_fits_276 (by decide) ?_
        exact x_zrc E h (by decide) hf dX7_fits_277
      · refine lv_iconst (v := 1) E.1 E.2.1 dX7_fits_272 (by decide) ?_
        refine lv_goto (tgt := 277) E.1 E.2.1 dX7_fits_273 (by decide) ?_
        exact x_zrc E h (by decide) hf dX7_fits_277
  refine x_case hf (fun c9 hf => ?_) (fun c215 hf => ?_)
  · refine lv_lookup (tgt := 193) E.1 E.2.1 dX7_fits_1 (by decide) (by rw [c9]) (by decide) ?_
    refine lv_iload_n E.1 E.2.1 dX7_fits_193 rfl (lv_at hl 2 rfl) ?_
    refine lv_iconst (v := 1) E.1 E.2.1 dX7_fits_194 (by decide) ?_
    refine x_br hf (lv_icmp_lt (tgt := 208) E.1 E.2.1 dX7_fits_195 (by decide)) (fun hf => ?_) (fun hf => ?_)
    · refine lv_iconst (v := 0) E.1 E.2.1 dX7_fits_208 (by decide) ?_
      exact x_zrc E h (by decide) hf dX7_fits_209
    · refine lv_iload_n E.1 E.2.1 dX7_fits_198 rfl (lv_at hl 2 rfl) ?_
      refine lv_bipush (v := 9) E.1 E.2.1 dX7_fits_199 (by decide) ?_
      refine x_br hf (lv_icmp_gt (tgt := 208) E.1 E.2.1 dX7_fits_201 (by decide)) (fun hf => ?_) (fun hf => ?_)
      · refine lv_iconst (v := 0) E.1 E.2.1 dX7_fits_208 (by decide) ?_
        exact x_zrc E h (by decide) hf dX7_fits_209
      · refine lv_iconst (v := 1) E.1 E.2.1 dX7_fits_204 (by decide) ?_
        refine lv_goto (tgt := 209) E.1 E.2.1 dX7_fits_205 (by decide) ?_
        exact x_zrc E h (by decide) hf dX7_fits_209
  refine x_case hf (fun c9 hf => ?_) (fun c216 hf => ?_)
  · refine lv_lookup (tgt := 227) E.1 E.2.1 dX7_fits_1 (by decide) (by rw [c9]) (by decide) ?_
    refine lv_iload_n E.1 E.2.1 dX7_fits_227 rfl (lv_at hl 2 rfl) ?_
    refine lv_iconst (v := 1) E.1 E.2.1 dX7_fits_228 (by decide) ?_
    refine x_br hf (lv_icmp_lt (tgt := 242) E.1 E.2.1 dX7_fits_229 (by decide)) (fun hf => ?_) (fun hf => ?_)
    · refine lv_iconst (v := 0) E.1 E.2.1 dX7_fits_242 (by decide) ?_
      exact x_zrc E h (by decide) hf dX7_fits_243
    · refine lv_iload_n E.1 E.2.1 dX7_fits_232 rfl (lv_at hl 2 rfl) ?_
      refine lv_bipush (v := 20) E.1 E.2.1 dX7_fits_233 (by decide) ?_
      refine x_br hf (lv_icmp_gt (tgt := 242) E.1 E.2.1 dX7_fits_235 (by decide)) (fun hf => ?_) (fun hf => ?_)
      · refine lv_iconst (v := 0) E.1 E.2.1 dX7_fits_242 (by decide) ?_
        exact x_zrc E h (by decide) hf dX7_fits_243
      · refine lv_iconst (v := 1) E.1 E.2.1 dX7_fits_238 (by decide) ?_
        refine lv_goto (tgt := 243) E.1 E.2.1 dX7_fits_239 (by decide) ?_
        exact x_zrc E h (by decide) hf dX7_fits_243
  refine x_case hf (fun c9 hf => ?_) (fun c219 hf => ?_)
  · refine lv_lookup (tgt := 181) E.1 E.2.1 dX7_fits_1 (by decide) (by rw [c9]) (by decide) ?_
    refine lv_iload_n E.1 E.2.1 dX7_fits_181 rfl (lv_at hl 2 rfl) ?_
    refine lv_bipush (v := 9) E.1 E.2.1 dX7_fits_182 (by decide) ?_
    refine x_br hf (lv_icmp_gt (tgt := 191) E.1 E.2.1 dX7_fits_184 (by decide)) (fun hf => ?_) (fun hf => ?_)
    · refine lv_iconst (v := 0) E.1 E.2.1 dX7_fits_191 (by decide) ?_
      exact x_zrc E h (by decide) hf dX7_fits_192
    · refine lv_iconst (v := 1) E.1 E.2.1 dX7_fits_187 (by decide) ?_
      refine lv_goto (tgt := 192) E.1 E.2.1 dX7_fits_188 (by decide) ?_
      exact x_zrc E h (by decide) hf dX7_fits_192
  refine lv_lookup (tgt := 278) E.1 E.2.1 dX7_fits_1 (by decide) (x_lkout (ks := [67, 72, 99, 102, 103, 104, 110, 114, 115, 116, 119]) rfl (fun z hz => ?_)) (by decide) ?_
  · simp only [List.mem_cons, List.not_mem_nil, or_false] at hz
    rcases hz with rfl | rfl | rfl | rfl | rfl | rfl | rfl | rfl | rfl | rfl | rfl
    · exact c167
    · exact c172
    · exact c199
    · exact c202
    · exact c203
    · exact c204
    · exact c210
    · exact c214
    · exact c215
    · exact c216
    · exact c219
  · refine lv_iconst (v := 0) E.1 E.2.1 dX7_fits_278 (by decide) ?_
    exact x_zrc E h (by decide) hf dX7_fits_279
set_option maxHeartbeats 4000000 in
set_option maxRecDepth 100000 in
theorem w_X7_readNumbers_L7 {p : Program} {l : Launch} {e : Env} {s : State} {m : MethodId} {args : Array Value} {below : List Frame} {meth : Method} {c : Code} {D : va_G} {cy : Nat → ClassId} {s00 : State} {ad : Nat → Nat} {A : Nat → Prop} (hG : XG s00) {tE : xEnT} (hEn : XEn s00 tE) {k0 : Nat} (hk0 : k0 < 13) {r9 : Int32} {S9 : XS}  {K : Int32 → XS → Option (Int32 × XS)} (E : XE p s m args meth c cX7_readNumbers 4 RX7 (some .boolean) D cy s00) (hk : ∀ (m3 : Int32) (S1 : XS) (H : Heap) (locs : List Loc) (ls : Array Slot), K m3 S1 = some (r9, S9) → XH D cy s00 shScr ad S1 A s H locs → lv_has ls 4 [(0, .ref (ad 0)), (1, .ref (tE.1 k0)), (2, .ref (tE.2.2.1 k0)), (3, .int m3)] → W p l e (xrm 4) s m args below meth c H locs 0 0 (MQ below (xqi D cy shScr ad r9 S9 A) args s 0 0 A) (F0 m 75 ls [])) :
    ∀ (n : Nat) (m3 : Int32) (S : XS) (H : Heap) (locs : List Loc) (ls : Array Slot), f_X7_readNumbers_L7 k0 K n m3 S = some (r9, S9) → XH D cy s00 shScr ad S A s H locs → lv_has ls 4 [(0, .ref (ad 0)), (1, .ref (tE.1 k0)), (2, .ref (tE.2.2.1 k0)), (3, .int m3)] → W p l e (xrm 4) s m args below meth c H locs 0 0 (MQ below (xqi D cy shScr ad r9 S9 A) args s 0 0 A) (F0 m 7 ls []) := by
  intro n
  induction n with
  | zero => intro m3 S H locs ls hf; cases hf
  | succ n ih =>
    intro m3 S H locs ls hf h hl
    rw [f_X7_readNumbers_L7] at hf
    refine lv_iload_n E.1 E.2.1 dX7_readNumbers_7 rfl (lv_at hl 3 rfl) ?_
    refine lv_aload_n E.1 E.2.1 dX7_readNumbers_8 rfl (lv_at hl 2 rfl) ?_
    refine x_slen hG (hEn.1 k0 hk0).2.2.2.2.2 E h hl kw584 (Nat.le_of_ble_eq_true rfl) ⟨by decide, by decide⟩ ⟨Nat.zero_le _, Nat.zero_le _⟩ dX7_readNumbers_9 (fun H locs h => ?_)
    refine x_br hf (lv_icmp_ge (tgt := 75) E.1 E.2.1 dX7_readNumbers_12 (by decide)) (fun hf => ?_) (fun hf => ?_)
    · exact hk _ _ _ _ _ hf h (lv_sub hl [0, 1, 2, 3] rfl)
    · refine lv_iload_n E.1 E.2.1 dX7_readNumbers_15 rfl (lv_at hl 3 rfl) ?_
      refine lv_iconst (v := 4) E.1 E.2.1 dX7_readNumbers_16 (by decide) ?_
      refine x_br hf (lv_icmp_ge (tgt := 75) E.1 E.2.1 dX7_readNumbers_17 (by decide)) (fun hf => ?_) (fun hf => ?_)
      · exact hk _ _ _ _ _ hf h (lv_sub hl [0, 1, 2, 3] rfl)
      · refine lv_aload_n E.1 E.2.1 dX7_readNumbers_20 rfl (lv_at hl 0 rfl) ?_
        refine lv_iconst (v := 2) E.1 E.2.1 dX7_readNumbers_21 (by decide) ?_
        refine x_calli E h hl 0 hf (fun r0 Sq0 hr => c_X7_expect l D cy s00 _ S 2 r0 Sq0 hr) m_X7_expect rfl rfl kw551 rfl rfl (Nat.le_of_ble_eq_true rfl) ⟨by decide, by decide⟩ ⟨Nat.zero_le _, Nat.zero_le _⟩ dX7_readNumbers_22 (fun v1 S2 H locs hf h => ?_)
        refine x_brn hf (lv_if_ne (tgt := 30) E.1 E.2.1 dX7_readNumbers_25 (by decide)) (fun hf => ?_) (fun hf => ?_)
        · refine lv_aload_n E.1 E.2.1 dX7_readNumbers_30 rfl (lv_at hl 0 rfl) ?_
          refine lv_aload_n E.1 E.2.1 dX7_readNumbers_31 rfl (lv_at hl 2 rfl) ?_
          refine lv_iload_n E.1 E.2.1 dX7_readNumbers_32 rfl (lv_at hl 3 rfl) ?_
          refine x_sch hG (hEn.1 k0 hk0).2.2.2.2.2 (xPlace_len k0) E h hl hf kw585 (Nat.le_of_ble_eq_true rfl) ⟨by decide, by decide⟩ ⟨Nat.zero_le _, Nat.zero_le _⟩ dX7_readNumbers_33 (fun v3 H locs hf h => ?_)
          refine lv_aload_n E.1 E.2.1 dX7_readNumbers_36 rfl (lv_at hl 0 rfl) ?_
          refine x_getr E h 0 0 1 rfl rfl rfl (by decide) xinX7 kw313 dX7_readNumbers_37 ?_
          refine x_get E h 1 5 rfl rfl rfl (by decide) xinX4 kw296 dX7_readNumbers_40 ?_
          refine x_callp E h hl 0 hf (fun r0 hr => c_X7_fits l D cy s00 _ S2 v3 (S2 1 5) r0 hr) m_X7_fits rfl rfl kw586 rfl rfl (Nat.le_of_ble_eq_true rfl) ⟨by decide, by decide⟩ ⟨Nat.zero_le _, Nat.zero_le _⟩ dX7_readNumbers_43 (fun v4 H locs hf h => ?_)
          refine x_brn hf (lv_if_ne (tgt := 56) E.1 E.2.1 dX7_readNumbers_46 (by decide)) (fun hf => ?_) (fun hf => ?_)
          · refine lv_aload_n E.1 E.2.1 dX7_readNumbers_56 rfl (lv_at hl 0 rfl) ?_
            refine x_getr E h 0 4 16 rfl rfl rfl (by decide) xinX7 kw321 dX7_readNumbers_57 ?_
            refine lv_iload_n E.1 E.2.1 dX7_readNumbers_60 rfl (lv_at hl 3 rfl) ?_
            refine lv_aload_n E.1 E.2.1 dX7_readNumbers_61 rfl (lv_at hl 0 rfl) ?_
            refine x_getr E h 0 0 1 rfl rfl rfl (by decide) xinX7 kw313 dX7_readNumbers_62 ?_
            refine x_get E h 1 5 rfl rfl rfl (by decide) xinX4 kw296 dX7_readNumbers_65 ?_
            refine x_iast E h 16 hf rfl dX7_readNumbers_68 (fun S5 H locs hf h => ?_)
            refine x_nv hf (fun v7 e9 hf => ?_)
            refine lv_iinc (v := v7) (lv' := [(3, .int v7), (0, .ref (ad 0)), (1, .ref (tE.1 k0)), (2, .ref (tE.2.2.1 k0))]) E.1 E.2.1 dX7_readNumbers_69 hl (k := 3) rfl (by rw [e9]; rfl) (by decide) rfl (fun ls hl => ?_)
            refine lv_goto (tgt := 7) E.1 E.2.1 dX7_readNumbers_72 (by decide) ?_
            exact ih _ _ _ _ _ hf h (lv_sub hl [1, 2, 3, 0] rfl)
          · refine lv_aload_n E.1 E.2.1 dX7_readNumbers_49 rfl (lv_at hl 0 rfl) ?_
            refine lv_iconst (v := 2) E.1 E.2.1 dX7_readNumbers_50 (by decide) ?_
            refine x_callv E h hl 0 hf (fun r0 hr => c_X7_fail l D cy s00 _ S2 2 r0 hr) m_X7_fail rfl rfl kw555 rfl rfl (Nat.le_of_ble_eq_true rfl) ⟨by decide, by decide⟩ ⟨Nat.zero_le _, Nat.zero_le _⟩ dX7_readNumbers_51 (fun S8 H locs hf h => ?_)
            refine lv_iconst (v := 0) E.1 E.2.1 dX7_readNumbers_54 (by decide) ?_
            exact x_zic E h (by decide) hf dX7_readNumbers_55
        · refine lv_iconst (v := 0) E.1 E.2.1 dX7_readNumbers_28 (by decide) ?_
          exact x_zic E h (by decide) hf dX7_readNumbers_29
set_option maxHeartbeats 4000000 in
set_option maxRecDepth 100000 in
theorem c_X7_readNumbers (l : Launch) (D : va_G) (cy : Nat → ClassId) (s00 : State) (ad : Nat → Nat) (hG : XG s00) {tE : xEnT} (hEn : XEn s00 tE) {k0 : Nat} (hk0 : k0 < 13) (S : XS) (r9 : Int32) (S9 : XS) (hf : f_X7_readNumbers S k0 = some (r9, S9)) : XI l yX7_readNumbers cX7_readNumbers 4 (some .boolean) 4 D cy s00 shScr ad S [.ref (ad 0), .ref (tE.1 k0)] r9 S9 := by
  refine XI.of (by decide) [(0, .ref (ad 0)), (1, .ref (tE.1 k0))] rfl (Nat.le_of_ble_eq_true rfl) (fun p e s m args below meth c A ls E h hl => ?_)
  unfold f_X7_readNumbers at hf
  refine lv_aload_n E.1 E.2.1 dX7_readNumbers_0 rfl (lv_at hl 1 rfl) ?_
  refine vk_getf E.1 E.2.1 (xOF_here (hEn.1 k0 hk0).2.2.2.1 E h) h.2.2.1 E.2.2.2.1 (E.2.2.2.2.1 _ kw2028) (fun _ h9 => h9) dX7_readNumbers_1 ?_
  refine lv_astore_n (lv' := [(2, .ref (tE.2.2.1 k0)), (0, .ref (ad 0)), (1, .ref (tE.1 k0))]) E.1 E.2.1 dX7_readNumbers_4 rfl hl (by decide) rfl (fun ls hl => ?_)
  refine lv_iconst (v := 0) E.1 E.2.1 dX7_readNumbers_5 (by decide) ?_
  refine lv_istore_n (lv' := [(3, .int 0), (2, .ref (tE.2.2.1 k0)), (0, .ref (ad 0)), (1, .ref (tE.1 k0))]) E.1 E.2.1 dX7_readNumbers_6 rfl hl (by decide) rfl (fun ls hl => ?_)
  refine w_X7_readNumbers_L7 hG hEn hk0 E ?_ _ _ _ _ _ _ hf h (lv_sub hl [2, 3, 1, 0] rfl)
  intro v9 S10 H locs ls hf h hl
  refine lv_iconst (v := 1) E.1 E.2.1 dX7_readNumbers_75 (by decide) ?_
  exact x_zic E h (by decide) hf dX7_readNumbers_76
set_option maxHeartbeats 4000000 in
set_option maxRecDepth 100000 in
theorem c_X7_openRepeat (l : Launch) (D : va_G) (cy : Nat → ClassId) (s00 : State) (ad : Nat → Nat) (hG : XG s00) {tE : xEnT} (hEn : XEn s00 tE) (S : XS) (S9 : XS) (hf : f_X7_openRepeat S = some S9) : XV l yX7_openRepeat cX7_openRepeat 1 none 5 D cy s00 shScr ad S [.ref (ad 0)] S9 := by
  refine XV.of (by decide) [(0, .ref (ad 0))] rfl (Nat.le_of_ble_eq_true rfl) (fun p e s m args below meth c A ls E h hl => ?_)
  unfold f_X7_openRepeat at hf
  refine lv_aload_n E.1 E.2.1 dX7_openRepeat_0 rfl (lv_at hl 0 rfl) ?_
  refine x_get E h 0 7 rfl rfl rfl (by decide) xinX7 kw324 dX7_openRepeat_1 ?_
  refine lv_iconst (v := 2) E.1 E.2.1 dX7_openRepeat_4 (by decide) ?_
  refine x_br hf (lv_icmp_lt (tgt := 14) E.1 E.2.1 dX7_openRepeat_5 (by decide)) (fun hf => ?_) (fun hf => ?_)
  · refine lv_aload_n E.1 E.2.1 dX7_openRepeat_14 rfl (lv_at hl 0 rfl) ?_
    refine va_gets E.1 E.2.1 (xZ_here hEn.2.2.2.2.2.2.1 E h) h.2.2.1 E.2.2.2.1 (E.2.2.2.2.1 _ kw574) (fun _ h9 => h9) dX7_openRepeat_15 ?_
    refine x_calli E h hl 0 hf (fun r0 Sq0 hr => c_X7_readNumbers l D cy s00 _ hG hEn (by decide) S  r0 Sq0 hr) m_X7_readNumbers rfl rfl kw580 rfl rfl (Nat.le_of_ble_eq_true rfl) ⟨by decide, by decide⟩ ⟨Nat.zero_le _, Nat.zero_le _⟩ dX7_openRepeat_18 (fun v1 S2 H locs hf h => ?_)
    refine x_br hf (lv_if_eq (tgt := 73) E.1 E.2.1 dX7_openRepeat_21 (by decide)) (fun hf => ?_) (fun hf => ?_)
    · exact x_vret E h hf dX7_openRepeat_73
    · refine lv_aload_n E.1 E.2.1 dX7_openRepeat_24 rfl (lv_at hl 0 rfl) ?_
      refine lv_iconst (v := 3) E.1 E.2.1 dX7_openRepeat_25 (by decide) ?_
      refine x_calli E h hl 0 hf (fun r0 Sq0 hr => c_X7_expect l D cy s00 _ S2 3 r0 Sq0 hr) m_X7_expect rfl rfl kw551 rfl rfl (Nat.le_of_ble_eq_true rfl) ⟨by decide, by decide⟩ ⟨Nat.zero_le _, Nat.zero_le _⟩ dX7_openRepeat_26 (fun v3 S4 H locs hf h => ?_)
      refine x_br hf (lv_if_eq (tgt := 73) E.1 E.2.1 dX7_openRepeat_29 (by decide)) (fun hf => ?_) (fun hf => ?_)
      · exact x_vret E h hf dX7_openRepeat_73
      · refine lv_aload_n E.1 E.2.1 dX7_openRepeat_32 rfl (lv_at hl 0 rfl) ?_
        refine x_getr E h 0 8 17 rfl rfl rfl (by decide) xinX7 kw325 dX7_openRepeat_33 ?_
        refine lv_aload_n E.1 E.2.1 dX7_openRepeat_36 rfl (lv_at hl 0 rfl) ?_
        refine x_get E h 0 7 rfl rfl rfl (by decide) xinX7 kw324 dX7_openRepeat_37 ?_
        refine lv_aload_n E.1 E.2.1 dX7_openRepeat_40 rfl (lv_at hl 0 rfl) ?_
        refine x_getr E h 0 0 1 rfl rfl rfl (by decide) xinX7 kw313 dX7_openRepeat_41 ?_
        refine x_get E h 1 2 rfl rfl rfl (by decide) xinX4 kw290 dX7_openRepeat_44 ?_
        refine x_iast E h 17 hf rfl dX7_openRepeat_47 (fun S5 H locs hf h => ?_)
        refine lv_aload_n E.1 E.2.1 dX7_openRepeat_48 rfl (lv_at hl 0 rfl) ?_
        refine x_getr E h 0 9 18 rfl rfl rfl (by decide) xinX7 kw326 dX7_openRepeat_49 ?_
        refine lv_aload_n E.1 E.2.1 dX7_openRepeat_52 rfl (lv_at hl 0 rfl) ?_
        refine x_get E h 0 7 rfl rfl rfl (by decide) xinX7 kw324 dX7_openRepeat_53 ?_
        refine lv_aload_n E.1 E.2.1 dX7_openRepeat_56 rfl (lv_at hl 0 rfl) ?_
        refine x_getr E h 0 4 16 rfl rfl rfl (by decide) xinX7 kw321 dX7_openRepeat_57 ?_
        refine lv_iconst (v := 0) E.1 E.2.1 dX7_openRepeat_60 (by decide) ?_
        refine x_iald E h 16 hf rfl dX7_openRepeat_61 (fun v7 hf => ?_)
        refine x_iast E h 18 hf rfl dX7_openRepeat_62 (fun S8 H locs hf h => ?_)
        refine lv_aload_n E.1 E.2.1 dX7_openRepeat_63 rfl (lv_at hl 0 rfl) ?_
        refine lv_dup E.1 E.2.1 dX7_openRepeat_64 rfl ?_
        refine x_get E h 0 7 rfl rfl rfl (by decide) xinX7 kw324 dX7_openRepeat_65 ?_
        refine lv_iconst (v := 1) E.1 E.2.1 dX7_openRepeat_68 (by decide) ?_
        refine lv_iadd E.1 E.2.1 dX7_openRepeat_69 ?_
        refine x_put (ty := .int) E h 0 7 hf rfl rfl rfl (by decide) xinX7 tyX7_ok nmX7 kw324 rfl (by decide +kernel) rfl rfl dX7_openRepeat_70 (fun S10 H locs hf h => ?_)
        exact x_vret E h hf dX7_openRepeat_73
  · refine lv_aload_n E.1 E.2.1 dX7_openRepeat_8 rfl (lv_at hl 0 rfl) ?_
    refine lv_iconst (v := 4) E.1 E.2.1 dX7_openRepeat_9 (by decide) ?_
    refine x_callv E h hl 0 hf (fun r0 hr => c_X7_fail l D cy s00 _ S 4 r0 hr) m_X7_fail rfl rfl kw555 rfl rfl (Nat.le_of_ble_eq_true rfl) ⟨by decide, by decide⟩ ⟨Nat.zero_le _, Nat.zero_le _⟩ dX7_openRepeat_10 (fun S11 H locs hf h => ?_)
    exact x_vret E h hf dX7_openRepeat_13
set_option maxHeartbeats 4000000 in
set_option maxRecDepth 100000 in
theorem c_X7_readStatement (l : Launch) (D : va_G) (cy : Nat → ClassId) (s00 : State) (ad : Nat → Nat) (hG : XG s00) {tE : xEnT} (hEn : XEn s00 tE) (S : XS) (r9 : Option Nat) (S9 : XS) (hf : f_X7_readStatement S = some (r9, S9)) : XO l yX7_readStatement cX7_readStatement 2 (some (.object xCmd)) 6 D cy s00 tE.1 shScr ad S [.ref (ad 0)] r9 S9 := by
  refine XO.of (by decide) [(0, .ref (ad 0))] rfl (Nat.le_of_ble_eq_true rfl) (fun p e s m args below meth c A ls E h hl => ?_)
  unfold f_X7_readStatement at hf
  refine lv_aload_n E.1 E.2.1 dX7_readStatement_0 rfl (lv_at hl 0 rfl) ?_
  refine x_getr E h 0 0 1 rfl rfl rfl (by decide) xinX7 kw313 dX7_readStatement_1 ?_
  refine x_callov E h hl 1 1 hf (xsub_of rfl) (fun r0 hr => c_X4_next l D cy s00 _ (xs 1 S)  r0 hr) m_X4_next rfl rfl kw486 rfl rfl (Nat.le_of_ble_eq_true rfl) ⟨by decide, by decide⟩ ⟨Nat.zero_le _, Nat.zero_le _⟩ dX7_readStatement_4 (fun S1 H locs hf h => ?_)
  refine lv_aload_n E.1 E.2.1 dX7_readStatement_7 rfl (lv_at hl 0 rfl) ?_
  refine x_getr E h 0 0 1 rfl rfl rfl (by decide) xinX7 kw313 dX7_readStatement_8 ?_
  refine x_get E h 1 3 rfl rfl rfl (by decide) xinX4 kw292 dX7_readStatement_11 ?_
  refine x_brn hf (lv_if_ne (tgt := 31) E.1 E.2.1 dX7_readStatement_14 (by decide)) (fun hf => ?_) (fun hf => ?_)
  · refine lv_aload_n E.1 E.2.1 dX7_readStatement_31 rfl (lv_at hl 0 rfl) ?_
    refine x_getr E h 0 0 1 rfl rfl rfl (by decide) xinX7 kw313 dX7_readStatement_32 ?_
    refine x_get E h 1 3 rfl rfl rfl (by decide) xinX4 kw292 dX7_readStatement_35 ?_
    refine lv_iconst (v := 4) E.1 E.2.1 dX7_readStatement_38 (by decide) ?_
    refine x_brn hf (lv_icmp_ne (tgt := 55) E.1 E.2.1 dX7_readStatement_39 (by decide)) (fun hf => ?_) (fun hf => ?_)
    · refine lv_aload_n E.1 E.2.1 dX7_readStatement_55 rfl (lv_at hl 0 rfl) ?_
      refine x_callo (adE := tE.1) E h hl 0 hf (fun r0 Sq0 hr => c_X7_commandHere l D cy s00 _ hG hEn S1  r0 Sq0 hr) m_X7_commandHere rfl rfl kw568 rfl rfl (Nat.le_of_ble_eq_true rfl) ⟨by decide, by decide⟩ ⟨Nat.zero_le _, Nat.zero_le _⟩ dX7_readStatement_56 (fun q2 S3 H locs hf h => ?_)
      refine x_opt hf (fun e9 hg => ?_) (fun k4 e9 hg => ?_)
      · subst e9
        replace hf := hg
        refine lv_astore_nN (lv' := [(1, .null), (0, .ref (ad 0))]) E.1 E.2.1 dX7_readStatement_59 rfl hl (by decide) rfl (fun ls hl => ?_)
        refine lv_aload_nN E.1 E.2.1 dX7_readStatement_60 rfl (lv_at hl 0 rfl) ?_
        refine lv_ifnonnullN E.1 E.2.1 dX7_readStatement_61 ?_
        refine lv_aload_n E.1 E.2.1 dX7_readStatement_64 rfl (lv_at hl 1 rfl) ?_
        refine lv_iconst (v := 1) E.1 E.2.1 dX7_readStatement_65 (by decide) ?_
        refine x_callv E h hl 0 hf (fun r0 hr => c_X7_fail l D cy s00 _ S3 1 r0 hr) m_X7_fail rfl rfl kw555 rfl rfl (Nat.le_of_ble_eq_true rfl) ⟨by decide, by decide⟩ ⟨Nat.zero_le _, Nat.zero_le _⟩ dX7_readStatement_66 (fun S5 H locs hf h => ?_)
        refine lv_null E.1 E.2.1 dX7_readStatement_69 ?_
        exact x_aret (adE := tE.1) (v := none) E h hf dX7_readStatement_70
      · subst e9
        obtain ⟨hk4, hf⟩ := xif13_in hg
        refine lv_astore_n (lv' := [(1, .ref (tE.1 k4)), (0, .ref (ad 0))]) E.1 E.2.1 dX7_readStatement_59 rfl hl (by decide) rfl (fun ls hl => ?_)
        refine lv_aload_n E.1 E.2.1 dX7_readStatement_60 rfl (lv_at hl 0 rfl) ?_
        refine lv_ifnonnull (tgt := 71) E.1 E.2.1 dX7_readStatement_61 (by decide) ?_
        refine lv_aload_n E.1 E.2.1 dX7_readStatement_71 rfl (lv_at hl 0 rfl) ?_
        refine va_gets E.1 E.2.1 (xZ_here hEn.2.2.2.2.2.2.1 E h) h.2.2.1 E.2.2.2.1 (E.2.2.2.2.1 _ kw574) (fun _ h9 => h9) dX7_readStatement_72 ?_
        refine x_brne (x_inj hEn hk4 (by decide)) hf (lv_acmp_ne (rx := some (tE.1 k4)) (ry := some (tE.1 12)) (tgt := 84) E.1 E.2.1 dX7_readStatement_75 (by decide)) (fun hf => ?_) (fun hf => ?_)
        · refine lv_aload_n E.1 E.2.1 dX7_readStatement_84 rfl (lv_at hl 1 rfl) ?_
          refine x_get E h 0 6 rfl rfl rfl (by decide) xinX7 kw323 dX7_readStatement_85 ?_
          refine lv_sipush (v := 200) E.1 E.2.1 dX7_readStatement_88 (by decide) ?_
          refine x_br hf (lv_icmp_lt (tgt := 101) E.1 E.2.1 dX7_readStatement_91 (by decide)) (fun hf => ?_) (fun hf => ?_)
          · refine lv_aload_n E.1 E.2.1 dX7_readStatement_101 rfl (lv_at hl 1 rfl) ?_
            refine lv_aload_n E.1 E.2.1 dX7_readStatement_102 rfl (lv_at hl 0 rfl) ?_
            refine x_calli E h hl 0 hf (fun r0 Sq0 hr => c_X7_readNumbers l D cy s00 _ hG hEn hk4 S3  r0 Sq0 hr) m_X7_readNumbers rfl rfl kw580 rfl rfl (Nat.le_of_ble_eq_true rfl) ⟨by decide, by decide⟩ ⟨Nat.zero_le _, Nat.zero_le _⟩ dX7_readStatement_103 (fun v6 S7 H locs hf h => ?_)
            refine x_br hf (lv_if_eq (tgt := 121) E.1 E.2.1 dX7_readStatement_106 (by decide)) (fun hf => ?_) (fun hf => ?_)
            · refine lv_null E.1 E.2.1 dX7_readStatement_121 ?_
              exact x_aret (adE := tE.1) (v := none) E h hf dX7_readStatement_122
            · refine lv_aload_n E.1 E.2.1 dX7_readStatement_109 rfl (lv_at hl 1 rfl) ?_
              refine lv_iconst (v := 5) E.1 E.2.1 dX7_readStatement_110 (by decide) ?_
              refine x_calli E h hl 0 hf (fun r0 Sq0 hr => c_X7_expect l D cy s00 _ S7 5 r0 Sq0 hr) m_X7_expect rfl rfl kw551 rfl rfl (Nat.le_of_ble_eq_true rfl) ⟨by decide, by decide⟩ ⟨Nat.zero_le _, Nat.zero_le _⟩ dX7_readStatement_111 (fun v8 S9 H locs hf h => ?_)
              refine x_br hf (lv_if_eq (tgt := 121) E.1 E.2.1 dX7_readStatement_114 (by decide)) (fun hf => ?_) (fun hf => ?_)
              · refine lv_null E.1 E.2.1 dX7_readStatement_121 ?_
                exact x_aret (adE := tE.1) (v := none) E h hf dX7_readStatement_122
              · refine lv_aload_n E.1 E.2.1 dX7_readStatement_117 rfl (lv_at hl 0 rfl) ?_
                refine lv_goto (tgt := 122) E.1 E.2.1 dX7_readStatement_118 (by decide) ?_
                exact x_aret (adE := tE.1) (v := (some k4)) E h hf dX7_readStatement_122
          · refine lv_aload_n E.1 E.2.1 dX7_readStatement_94 rfl (lv_at hl 1 rfl) ?_
            refine lv_iconst (v := 5) E.1 E.2.1 dX7_readStatement_95 (by decide) ?_
            refine x_callv E h hl 0 hf (fun r0 hr => c_X7_fail l D cy s00 _ S3 5 r0 hr) m_X7_fail rfl rfl kw555 rfl rfl (Nat.le_of_ble_eq_true rfl) ⟨by decide, by decide⟩ ⟨Nat.zero_le _, Nat.zero_le _⟩ dX7_readStatement_96 (fun S10 H locs hf h => ?_)
            refine lv_null E.1 E.2.1 dX7_readStatement_99 ?_
            exact x_aret (adE := tE.1) (v := none) E h hf dX7_readStatement_100
        · refine lv_aload_n E.1 E.2.1 dX7_readStatement_78 rfl (lv_at hl 1 rfl) ?_
          refine x_callv E h hl 0 hf (fun r0 hr => c_X7_openRepeat l D cy s00 _ hG hEn S3  r0 hr) m_X7_openRepeat rfl rfl kw576 rfl rfl (Nat.le_of_ble_eq_true rfl) ⟨by decide, by decide⟩ ⟨Nat.zero_le _, Nat.zero_le _⟩ dX7_readStatement_79 (fun S11 H locs hf h => ?_)
          refine lv_null E.1 E.2.1 dX7_readStatement_82 ?_
          exact x_aret (adE := tE.1) (v := none) E h hf dX7_readStatement_83
    · refine lv_aload_n E.1 E.2.1 dX7_readStatement_42 rfl (lv_at hl 0 rfl) ?_
      refine x_get E h 0 7 rfl rfl rfl (by decide) xinX7 kw324 dX7_readStatement_43 ?_
      refine x_br hf (lv_if_le (tgt := 55) E.1 E.2.1 dX7_readStatement_46 (by decide)) (fun hf => ?_) (fun hf => ?_)
      · refine lv_aload_n E.1 E.2.1 dX7_readStatement_55 rfl (lv_at hl 0 rfl) ?_
        refine x_callo (adE := tE.1) E h hl 0 hf (fun r0 Sq0 hr => c_X7_commandHere l D cy s00 _ hG hEn S1  r0 Sq0 hr) m_X7_commandHere rfl rfl kw568 rfl rfl (Nat.le_of_ble_eq_true rfl) ⟨by decide, by decide⟩ ⟨Nat.zero_le _, Nat.zero_le _⟩ dX7_readStatement_56 (fun q12 S13 H locs hf h => ?_)
        refine x_opt hf (fun e9 hg => ?_) (fun k14 e9 hg => ?_)
        · subst e9
          replace hf := hg
          refine lv_astore_nN (lv' := [(1, .null), (0, .ref (ad 0))]) E.1 E.2.1 dX7_readStatement_59 rfl hl (by decide) rfl (fun ls hl => ?_)
          refine lv_aload_nN E.1 E.2.1 dX7_readStatement_60 rfl (lv_at hl 0 rfl) ?_
          refine lv_ifnonnullN E.1 E.2.1 dX7_readStatement_61 ?_
          refine lv_aload_n E.1 E.2.1 dX7_readStatement_64 rfl (lv_at hl 1 rfl) ?_
          refine lv_iconst (v := 1) E.1 E.2.1 dX7_readStatement_65 (by decide) ?_
          refine x_callv E h hl 0 hf (fun r0 hr => c_X7_fail l D cy s00 _ S13 1 r0 hr) m_X7_fail rfl rfl kw555 rfl rfl (Nat.le_of_ble_eq_true rfl) ⟨by decide, by decide⟩ ⟨Nat.zero_le _, Nat.zero_le _⟩ dX7_readStatement_66 (fun S15 H locs hf h => ?_)
          refine lv_null E.1 E.2.1 dX7_readStatement_69 ?_
          exact x_aret (adE := tE.1) (v := none) E h hf dX7_readStatement_70
        · subst e9
          obtain ⟨hk14, hf⟩ := xif13_in hg
          refine lv_astore_n (lv' := [(1, .ref (tE.1 k14)), (0, .ref (ad 0))]) E.1 E.2.1 dX7_readStatement_59 rfl hl (by decide) rfl (fun ls hl => ?_)
          refine lv_aload_n E.1 E.2.1 dX7_readStatement_60 rfl (lv_at hl 0 rfl) ?_
          refine lv_ifnonnull (tgt := 71) E.1 E.2.1 dX7_readStatement_61 (by decide) ?_
          refine lv_aload_n E.1 E.2.1 dX7_readStatement_71 rfl (lv_at hl 0 rfl) ?_
          refine va_gets E.1 E.2.1 (xZ_here hEn.2.2.2.2.2.2.1 E h) h.2.2.1 E.2.2.2.1 (E.2.2.2.2.1 _ kw574) (fun _ h9 => h9) dX7_readStatement_72 ?_
          refine x_brne (x_inj hEn hk14 (by decide)) hf (lv_acmp_ne (rx := some (tE.1 k14)) (ry := some (tE.1 12)) (tgt := 84) E.1 E.2.1 dX7_readStatement_75 (by decide)) (fun hf => ?_) (fun hf => ?_)
          · refine lv_aload_n E.1 E.2.1 dX7_readStatement_84 rfl (lv_at hl 1 rfl) ?_
            refine x_get E h 0 6 rfl rfl rfl (by decide) xinX7 kw323 dX7_readStatement_85 ?_
            refine lv_sipush (v := 200) E.1 E.2.1 dX7_readStatement_88 (by decide) ?_
            refine x_br hf (lv_icmp_lt (tgt := 101) E.1 E.2.1 dX7_readStatement_91 (by decide)) (fun hf => ?_) (fun hf => ?_)
            · refine lv_aload_n E.1 E.2.1 dX7_readStatement_101 rfl (lv_at hl 1 rfl) ?_
              refine lv_aload_n E.1 E.2.1 dX7_readStatement_102 rfl (lv_at hl 0 rfl) ?_
              refine x_calli E h hl 0 hf (fun r0 Sq0 hr => c_X7_readNumbers l D cy s00 _ hG hEn hk14 S13  r0 Sq0 hr) m_X7_readNumbers rfl rfl kw580 rfl rfl (Nat.le_of_ble_eq_true rfl) ⟨by decide, by decide⟩ ⟨Nat.zero_le _, Nat.zero_le _⟩ dX7_readStatement_103 (fun v16 S17 H locs hf h => ?_)
              refine x_br hf (lv_if_eq (tgt := 121) E.1 E.2.1 dX7_readStatement_106 (by decide)) (fun hf => ?_) (fun hf => ?_)
              · refine lv_null E.1 E.2.1 dX7_readStatement_121 ?_
                exact x_aret (adE := tE.1) (v := none) E h hf dX7_readStatement_122
              · refine lv_aload_n E.1 E.2.1 dX7_readStatement_109 rfl (lv_at hl 1 rfl) ?_
                refine lv_iconst (v := 5) E.1 E.2.1 dX7_readStatement_110 (by decide) ?_
                refine x_calli E h hl 0 hf (fun r0 Sq0 hr => c_X7_expect l D cy s00 _ S17 5 r0 Sq0 hr) m_X7_expect rfl rfl kw551 rfl rfl (Nat.le_of_ble_eq_true rfl) ⟨by decide, by decide⟩ ⟨Nat.zero_le _, Nat.zero_le _⟩ dX7_readStatement_111 (fun v18 S19 H locs hf h => ?_)
                refine x_br hf (lv_if_eq (tgt := 121) E.1 E.2.1 dX7_readStatement_114 (by decide)) (fun hf => ?_) (fun hf => ?_)
                · refine lv_null E.1 E.2.1 dX7_readStatement_121 ?_
                  exact x_aret (adE := tE.1) (v := none) E h hf dX7_readStatement_122
                · refine lv_aload_n E.1 E.2.1 dX7_readStatement_117 rfl (lv_at hl 0 rfl) ?_
                  refine lv_goto (tgt := 122) E.1 E.2.1 dX7_readStatement_118 (by decide) ?_
                  exact x_aret (adE := tE.1) (v := (some k14)) E h hf dX7_readStatement_122
            · refine lv_aload_n E.1 E.2.1 dX7_readStatement_94 rfl (lv_at hl 1 rfl) ?_
              refine lv_iconst (v := 5) E.1 E.2.1 dX7_readStatement_95 (by decide) ?_
              refine x_callv E h hl 0 hf (fun r0 hr => c_X7_fail l D cy s00 _ S13 5 r0 hr) m_X7_fail rfl rfl kw555 rfl rfl (Nat.le_of_ble_eq_true rfl) ⟨by decide, by decide⟩ ⟨Nat.zero_le _, Nat.zero_le _⟩ dX7_readStatement_96 (fun S20 H locs hf h => ?_)
              refine lv_null E.1 E.2.1 dX7_readStatement_99 ?_
              exact x_aret (adE := tE.1) (v := none) E h hf dX7_readStatement_100
          · refine lv_aload_n E.1 E.2.1 dX7_readStatement_78 rfl (lv_at hl 1 rfl) ?_
            refine x_callv E h hl 0 hf (fun r0 hr => c_X7_openRepeat l D cy s00 _ hG hEn S13  r0 hr) m_X7_openRepeat rfl rfl kw576 rfl rfl (Nat.le_of_ble_eq_true rfl) ⟨by decide, by decide⟩ ⟨Nat.zero_le _, Nat.zero_le _⟩ dX7_readStatement_79 (fun S21 H locs hf h => ?_)
            refine lv_null E.1 E.2.1 dX7_readStatement_82 ?_
            exact x_aret (adE := tE.1) (v := none) E h hf dX7_readStatement_83
      · refine lv_aload_n E.1 E.2.1 dX7_readStatement_49 rfl (lv_at hl 0 rfl) ?_
        refine x_callv E h hl 0 hf (fun r0 hr => c_X7_closeRound l D cy s00 _ S1  r0 hr) m_X7_closeRound rfl rfl kw564 rfl rfl (Nat.le_of_ble_eq_true rfl) ⟨by decide, by decide⟩ ⟨Nat.zero_le _, Nat.zero_le _⟩ dX7_readStatement_50 (fun S22 H locs hf h => ?_)
        refine lv_null E.1 E.2.1 dX7_readStatement_53 ?_
        exact x_aret (adE := tE.1) (v := none) E h hf dX7_readStatement_54
  · refine lv_aload_n E.1 E.2.1 dX7_readStatement_17 rfl (lv_at hl 0 rfl) ?_
    refine x_get E h 0 7 rfl rfl rfl (by decide) xinX7 kw324 dX7_readStatement_18 ?_
    refine x_brn hf (lv_if_ne (tgt := 31) E.1 E.2.1 dX7_readStatement_21 (by decide)) (fun hf => ?_) (fun hf => ?_)
    · refine lv_aload_n E.1 E.2.1 dX7_readStatement_31 rfl (lv_at hl 0 rfl) ?_
      refine x_getr E h 0 0 1 rfl rfl rfl (by decide) xinX7 kw313 dX7_readStatement_32 ?_
      refine x_get E h 1 3 rfl rfl rfl (by decide) xinX4 kw292 dX7_readStatement_35 ?_
      refine lv_iconst (v := 4) E.1 E.2.1 dX7_readStatement_38 (by decide) ?_
      refine x_brn hf (lv_icmp_ne (tgt := 55) E.1 E.2.1 dX7_readStatement_39 (by decide)) (fun hf => ?_) (fun hf => ?_)
      · refine lv_aload_n E.1 E.2.1 dX7_readStatement_55 rfl (lv_at hl 0 rfl) ?_
        refine x_callo (adE := tE.1) E h hl 0 hf (fun r0 Sq0 hr => c_X7_commandHere l D cy s00 _ hG hEn S1  r0 Sq0 hr) m_X7_commandHere rfl rfl kw568 rfl rfl (Nat.le_of_ble_eq_true rfl) ⟨by decide, by decide⟩ ⟨Nat.zero_le _, Nat.zero_le _⟩ dX7_readStatement_56 (fun q23 S24 H locs hf h => ?_)
        refine x_opt hf (fun e9 hg => ?_) (fun k25 e9 hg => ?_)
        · subst e9
          replace hf := hg
          refine lv_astore_nN (lv' := [(1, .null), (0, .ref (ad 0))]) E.1 E.2.1 dX7_readStatement_59 rfl hl (by decide) rfl (fun ls hl => ?_)
          refine lv_aload_nN E.1 E.2.1 dX7_readStatement_60 rfl (lv_at hl 0 rfl) ?_
          refine lv_ifnonnullN E.1 E.2.1 dX7_readStatement_61 ?_
          refine lv_aload_n E.1 E.2.1 dX7_readStatement_64 rfl (lv_at hl 1 rfl) ?_
          refine lv_iconst (v := 1) E.1 E.2.1 dX7_readStatement_65 (by decide) ?_
          refine x_callv E h hl 0 hf (fun r0 hr => c_X7_fail l D cy s00 _ S24 1 r0 hr) m_X7_fail rfl rfl kw555 rfl rfl (Nat.le_of_ble_eq_true rfl) ⟨by decide, by decide⟩ ⟨Nat.zero_le _, Nat.zero_le _⟩ dX7_readStatement_66 (fun S26 H locs hf h => ?_)
          refine lv_null E.1 E.2.1 dX7_readStatement_69 ?_
          exact x_aret (adE := tE.1) (v := none) E h hf dX7_readStatement_70
        · subst e9
          obtain ⟨hk25, hf⟩ := xif13_in hg
          refine lv_astore_n (lv' := [(1, .ref (tE.1 k25)), (0, .ref (ad 0))]) E.1 E.2.1 dX7_readStatement_59 rfl hl (by decide) rfl (fun ls hl => ?_)
          refine lv_aload_n E.1 E.2.1 dX7_readStatement_60 rfl (lv_at hl 0 rfl) ?_
          refine lv_ifnonnull (tgt := 71) E.1 E.2.1 dX7_readStatement_61 (by decide) ?_
          refine lv_aload_n E.1 E.2.1 dX7_readStatement_71 rfl (lv_at hl 0 rfl) ?_
          refine va_gets E.1 E.2.1 (xZ_here hEn.2.2.2.2.2.2.1 E h) h.2.2.1 E.2.2.2.1 (E.2.2.2.2.1 _ kw574) (fun _ h9 => h9) dX7_readStatement_72 ?_
          refine x_brne (x_inj hEn hk25 (by decide)) hf (lv_acmp_ne (rx := some (tE.1 k25)) (ry := some (tE.1 12)) (tgt := 84) E.1 E.2.1 dX7_readStatement_75 (by decide)) (fun hf => ?_) (fun hf => ?_)
          · refine lv_aload_n E.1 E.2.1 dX7_readStatement_84 rfl (lv_at hl 1 rfl) ?_
            refine x_get E h 0 6 rfl rfl rfl (by decide) xinX7 kw323 dX7_readStatement_85 ?_
            refine lv_sipush (v := 200) E.1 E.2.1 dX7_readStatement_88 (by decide) ?_
            refine x_br hf (lv_icmp_lt (tgt := 101) E.1 E.2.1 dX7_readStatement_91 (by decide)) (fun hf => ?_) (fun hf => ?_)
            · refine lv_aload_n E.1 E.2.1 dX7_readStatement_101 rfl (lv_at hl 1 rfl) ?_
              refine lv_aload_n E.1 E.2.1 dX7_readStatement_102 rfl (lv_at hl 0 rfl) ?_
              refine x_calli E h hl 0 hf (fun r0 Sq0 hr => c_X7_readNumbers l D cy s00 _ hG hEn hk25 S24  r0 Sq0 hr) m_X7_readNumbers rfl rfl kw580 rfl rfl (Nat.le_of_ble_eq_true rfl) ⟨by decide, by decide⟩ ⟨Nat.zero_le _, Nat.zero_le _⟩ dX7_readStatement_103 (fun v27 S28 H locs hf h => ?_)
              refine x_br hf (lv_if_eq (tgt := 121) E.1 E.2.1 dX7_readStatement_106 (by decide)) (fun hf => ?_) (fun hf => ?_)
              · refine lv_null E.1 E.2.1 dX7_readStatement_121 ?_
                exact x_aret (adE := tE.1) (v := none) E h hf dX7_readStatement_122
              · refine lv_aload_n E.1 E.2.1 dX7_readStatement_109 rfl (lv_at hl 1 rfl) ?_
                refine lv_iconst (v := 5) E.1 E.2.1 dX7_readStatement_110 (by decide) ?_
                refine x_calli E h hl 0 hf (fun r0 Sq0 hr => c_X7_expect l D cy s00 _ S28 5 r0 Sq0 hr) m_X7_expect rfl rfl kw551 rfl rfl (Nat.le_of_ble_eq_true rfl) ⟨by decide, by decide⟩ ⟨Nat.zero_le _, Nat.zero_le _⟩ dX7_readStatement_111 (fun v29 S30 H locs hf h => ?_)
                refine x_br hf (lv_if_eq (tgt := 121) E.1 E.2.1 dX7_readStatement_114 (by decide)) (fun hf => ?_) (fun hf => ?_)
                · refine lv_null E.1 E.2.1 dX7_readStatement_121 ?_
                  exact x_aret (adE := tE.1) (v := none) E h hf dX7_readStatement_122
                · refine lv_aload_n E.1 E.2.1 dX7_readStatement_117 rfl (lv_at hl 0 rfl) ?_
                  refine lv_goto (tgt := 122) E.1 E.2.1 dX7_readStatement_118 (by decide) ?_
                  exact x_aret (adE := tE.1) (v := (some k25)) E h hf dX7_readStatement_122
            · refine lv_aload_n E.1 E.2.1 dX7_readStatement_94 rfl (lv_at hl 1 rfl) ?_
              refine lv_iconst (v := 5) E.1 E.2.1 dX7_readStatement_95 (by decide) ?_
              refine x_callv E h hl 0 hf (fun r0 hr => c_X7_fail l D cy s00 _ S24 5 r0 hr) m_X7_fail rfl rfl kw555 rfl rfl (Nat.le_of_ble_eq_true rfl) ⟨by decide, by decide⟩ ⟨Nat.zero_le _, Nat.zero_le _⟩ dX7_readStatement_96 (fun S31 H locs hf h => ?_)
              refine lv_null E.1 E.2.1 dX7_readStatement_99 ?_
              exact x_aret (adE := tE.1) (v := none) E h hf dX7_readStatement_100
          · refine lv_aload_n E.1 E.2.1 dX7_readStatement_78 rfl (lv_at hl 1 rfl) ?_
            refine x_callv E h hl 0 hf (fun r0 hr => c_X7_openRepeat l D cy s00 _ hG hEn S24  r0 hr) m_X7_openRepeat rfl rfl kw576 rfl rfl (Nat.le_of_ble_eq_true rfl) ⟨by decide, by decide⟩ ⟨Nat.zero_le _, Nat.zero_le _⟩ dX7_readStatement_79 (fun S32 H locs hf h => ?_)
            refine lv_null E.1 E.2.1 dX7_readStatement_82 ?_
            exact x_aret (adE := tE.1) (v := none) E h hf dX7_readStatement_83
      · refine lv_aload_n E.1 E.2.1 dX7_readStatement_42 rfl (lv_at hl 0 rfl) ?_
        refine x_get E h 0 7 rfl rfl rfl (by decide) xinX7 kw324 dX7_readStatement_43 ?_
        refine x_br hf (lv_if_le (tgt := 55) E.1 E.2.1 dX7_readStatement_46 (by decide)) (fun hf => ?_) (fun hf => ?_)
        · refine lv_aload_n E.1 E.2.1 dX7_readStatement_55 rfl (lv_at hl 0 rfl) ?_
          refine x_callo (adE := tE.1) E h hl 0 hf (fun r0 Sq0 hr => c_X7_commandHere l D cy s00 _ hG hEn S1  r0 Sq0 hr) m_X7_commandHere rfl rfl kw568 rfl rfl (Nat.le_of_ble_eq_true rfl) ⟨by decide, by decide⟩ ⟨Nat.zero_le _, Nat.zero_le _⟩ dX7_readStatement_56 (fun q33 S34 H locs hf h => ?_)
          refine x_opt hf (fun e9 hg => ?_) (fun k35 e9 hg => ?_)
          · subst e9
            replace hf := hg
            refine lv_astore_nN (lv' := [(1, .null), (0, .ref (ad 0))]) E.1 E.2.1 dX7_readStatement_59 rfl hl (by decide) rfl (fun ls hl => ?_)
            refine lv_aload_nN E.1 E.2.1 dX7_readStatement_60 rfl (lv_at hl 0 rfl) ?_
            refine lv_ifnonnullN E.1 E.2.1 dX7_readStatement_61 ?_
            refine lv_aload_n E.1 E.2.1 dX7_readStatement_64 rfl (lv_at hl 1 rfl) ?_
            refine lv_iconst (v := 1) E.1 E.2.1 dX7_readStatement_65 (by decide) ?_
            refine x_callv E h hl 0 hf (fun r0 hr => c_X7_fail l D cy s00 _ S34 1 r0 hr) m_X7_fail rfl rfl kw555 rfl rfl (Nat.le_of_ble_eq_true rfl) ⟨by decide, by decide⟩ ⟨Nat.zero_le _, Nat.zero_le _⟩ dX7_readStatement_66 (fun S36 H locs hf h => ?_)
            refine lv_null E.1 E.2.1 dX7_readStatement_69 ?_
            exact x_aret (adE := tE.1) (v := none) E h hf dX7_readStatement_70
          · subst e9
            obtain ⟨hk35, hf⟩ := xif13_in hg
            refine lv_astore_n (lv' := [(1, .ref (tE.1 k35)), (0, .ref (ad 0))]) E.1 E.2.1 dX7_readStatement_59 rfl hl (by decide) rfl (fun ls hl => ?_)
            refine lv_aload_n E.1 E.2.1 dX7_readStatement_60 rfl (lv_at hl 0 rfl) ?_
            refine lv_ifnonnull (tgt := 71) E.1 E.2.1 dX7_readStatement_61 (by decide) ?_
            refine lv_aload_n E.1 E.2.1 dX7_readStatement_71 rfl (lv_at hl 0 rfl) ?_
            refine va_gets E.1 E.2.1 (xZ_here hEn.2.2.2.2.2.2.1 E h) h.2.2.1 E.2.2.2.1 (E.2.2.2.2.1 _ kw574) (fun _ h9 => h9) dX7_readStatement_72 ?_
            refine x_brne (x_inj hEn hk35 (by decide)) hf (lv_acmp_ne (rx := some (tE.1 k35)) (ry := some (tE.1 12)) (tgt := 84) E.1 E.2.1 dX7_readStatement_75 (by decide)) (fun hf => ?_) (fun hf => ?_)
            · refine lv_aload_n E.1 E.2.1 dX7_readStatement_84 rfl (lv_at hl 1 rfl) ?_
              refine x_get E h 0 6 rfl rfl rfl (by decide) xinX7 kw323 dX7_readStatement_85 ?_
              refine lv_sipush (v := 200) E.1 E.2.1 dX7_readStatement_88 (by decide) ?_
              refine x_br hf (lv_icmp_lt (tgt := 101) E.1 E.2.1 dX7_readStatement_91 (by decide)) (fun hf => ?_) (fun hf => ?_)
              · refine lv_aload_n E.1 E.2.1 dX7_readStatement_101 rfl (lv_at hl 1 rfl) ?_
                refine lv_aload_n E.1 E.2.1 dX7_readStatement_102 rfl (lv_at hl 0 rfl) ?_
                refine x_calli E h hl 0 hf (fun r0 Sq0 hr => c_X7_readNumbers l D cy s00 _ hG hEn hk35 S34  r0 Sq0 hr) m_X7_readNumbers rfl rfl kw580 rfl rfl (Nat.le_of_ble_eq_true rfl) ⟨by decide, by decide⟩ ⟨Nat.zero_le _, Nat.zero_le _⟩ dX7_readStatement_103 (fun v37 S38 H locs hf h => ?_)
                refine x_br hf (lv_if_eq (tgt := 121) E.1 E.2.1 dX7_readStatement_106 (by decide)) (fun hf => ?_) (fun hf => ?_)
                · refine lv_null E.1 E.2.1 dX7_readStatement_121 ?_
                  exact x_aret (adE := tE.1) (v := none) E h hf dX7_readStatement_122
                · refine lv_aload_n E.1 E.2.1 dX7_readStatement_109 rfl (lv_at hl 1 rfl) ?_
                  refine lv_iconst (v := 5) E.1 E.2.1 dX7_readStatement_110 (by decide) ?_
                  refine x_calli E h hl 0 hf (fun r0 Sq0 hr => c_X7_expect l D cy s00 _ S38 5 r0 Sq0 hr) m_X7_expect rfl rfl kw551 rfl rfl (Nat.le_of_ble_eq_true rfl) ⟨by decide, by decide⟩ ⟨Nat.zero_le _, Nat.zero_le _⟩ dX7_readStatement_111 (fun v39 S40 H locs hf h => ?_)
                  refine x_br hf (lv_if_eq (tgt := 121) E.1 E.2.1 dX7_readStatement_114 (by decide)) (fun hf => ?_) (fun hf => ?_)
                  · refine lv_null E.1 E.2.1 dX7_readStatement_121 ?_
                    exact x_aret (adE := tE.1) (v := none) E h hf dX7_readStatement_122
                  · refine lv_aload_n E.1 E.2.1 dX7_readStatement_117 rfl (lv_at hl 0 rfl) ?_
                    refine lv_goto (tgt := 122) E.1 E.2.1 dX7_readStatement_118 (by decide) ?_
                    exact x_aret (adE := tE.1) (v := (some k35)) E h hf dX7_readStatement_122
              · refine lv_aload_n E.1 E.2.1 dX7_readStatement_94 rfl (lv_at hl 1 rfl) ?_
                refine lv_iconst (v := 5) E.1 E.2.1 dX7_readStatement_95 (by decide) ?_
                refine x_callv E h hl 0 hf (fun r0 hr => c_X7_fail l D cy s00 _ S34 5 r0 hr) m_X7_fail rfl rfl kw555 rfl rfl (Nat.le_of_ble_eq_true rfl) ⟨by decide, by decide⟩ ⟨Nat.zero_le _, Nat.zero_le _⟩ dX7_readStatement_96 (fun S41 H locs hf h => ?_)
                refine lv_null E.1 E.2.1 dX7_readStatement_99 ?_
                exact x_aret (adE := tE.1) (v := none) E h hf dX7_readStatement_100
            · refine lv_aload_n E.1 E.2.1 dX7_readStatement_78 rfl (lv_at hl 1 rfl) ?_
              refine x_callv E h hl 0 hf (fun r0 hr => c_X7_openRepeat l D cy s00 _ hG hEn S34  r0 hr) m_X7_openRepeat rfl rfl kw576 rfl rfl (Nat.le_of_ble_eq_true rfl) ⟨by decide, by decide⟩ ⟨Nat.zero_le _, Nat.zero_le _⟩ dX7_readStatement_79 (fun S42 H locs hf h => ?_)
              refine lv_null E.1 E.2.1 dX7_readStatement_82 ?_
              exact x_aret (adE := tE.1) (v := none) E h hf dX7_readStatement_83
        · refine lv_aload_n E.1 E.2.1 dX7_readStatement_49 rfl (lv_at hl 0 rfl) ?_
          refine x_callv E h hl 0 hf (fun r0 hr => c_X7_closeRound l D cy s00 _ S1  r0 hr) m_X7_closeRound rfl rfl kw564 rfl rfl (Nat.le_of_ble_eq_true rfl) ⟨by decide, by decide⟩ ⟨Nat.zero_le _, Nat.zero_le _⟩ dX7_readStatement_50 (fun S43 H locs hf h => ?_)
          refine lv_null E.1 E.2.1 dX7_readStatement_53 ?_
          exact x_aret (adE := tE.1) (v := none) E h hf dX7_readStatement_54
    · refine lv_aload_n E.1 E.2.1 dX7_readStatement_24 rfl (lv_at hl 0 rfl) ?_
      refine lv_iconst (v := 0) E.1 E.2.1 dX7_readStatement_25 (by decide) ?_
      refine x_put (ty := .boolean) E h 0 5 hf rfl rfl rfl (by decide) xinX7 tyX7_ok nmX7 kw322 rfl (by decide +kernel) (by decide) (by decide) dX7_readStatement_26 (fun S44 H locs hf h => ?_)
      refine lv_null E.1 E.2.1 dX7_readStatement_29 ?_
      exact x_aret (adE := tE.1) (v := none) E h hf dX7_readStatement_30
set_option maxHeartbeats 4000000 in
set_option maxRecDepth 100000 in
theorem c_X7_isRefused (l : Launch) (D : va_G) (cy : Nat → ClassId) (s00 : State) (ad : Nat → Nat) (hG : XG s00) {tE : xEnT} (hEn : XEn s00 tE) {k0 : Nat} (hk0 : k0 < 13) (S : XS) (r9 : Int32) (hf : f_X7_isRefused S k0 = some r9) : XI l yX7_isRefused cX7_isRefused 4 (some .boolean) 4 D cy s00 shScr ad S [.ref (ad 0), .ref (tE.1 k0)] r9 S := by
  refine XI.of (by decide) [(0, .ref (ad 0)), (1, .ref (tE.1 k0))] rfl (Nat.le_of_ble_eq_true rfl) (fun p e s m args below meth c A ls E h hl => ?_)
  unfold f_X7_isRefused at hf
  refine lv_aload_n E.1 E.2.1 dX7_isRefused_0 rfl (lv_at hl 0 rfl) ?_
  refine x_getr E h 0 4 16 rfl rfl rfl (by decide) xinX7 kw321 dX7_isRefused_1 ?_
  refine lv_iconst (v := 0) E.1 E.2.1 dX7_isRefused_4 (by decide) ?_
  refine x_iald E h 16 hf rfl dX7_isRefused_5 (fun v1 hf => ?_)
  refine lv_istore_n (lv' := [(2, .int v1), (0, .ref (ad 0)), (1, .ref (tE.1 k0))]) E.1 E.2.1 dX7_isRefused_6 rfl hl (by decide) rfl (fun ls hl => ?_)
  refine lv_aload_n E.1 E.2.1 dX7_isRefused_7 rfl (lv_at hl 1 rfl) ?_
  refine x_getr E h 0 4 16 rfl rfl rfl (by decide) xinX7 kw321 dX7_isRefused_8 ?_
  refine lv_iconst (v := 1) E.1 E.2.1 dX7_isRefused_11 (by decide) ?_
  refine x_iald E h 16 hf rfl dX7_isRefused_12 (fun v2 hf => ?_)
  refine lv_istore_n (lv' := [(3, .int v2), (2, .int v1), (0, .ref (ad 0)), (1, .ref (tE.1 k0))]) E.1 E.2.1 dX7_isRefused_13 rfl hl (by decide) rfl (fun ls hl => ?_)
  refine va_gets E.1 E.2.1 (xZ_here hEn.2.2.2.2.1 E h) h.2.2.1 E.2.2.2.1 (E.2.2.2.2.1 _ kw606) (fun _ h9 => h9) dX7_isRefused_14 ?_
  refine lv_aload_n E.1 E.2.1 dX7_isRefused_17 rfl (lv_at hl 3 rfl) ?_
  refine x_ord hEn hk0 E h hl kw608 (Nat.le_of_ble_eq_true rfl) ⟨by decide, by decide⟩ ⟨Nat.zero_le _, Nat.zero_le _⟩ dX7_isRefused_18 (fun H locs h => ?_)
  refine x_swt hEn E h hf dX7_isRefused_21 (fun v3 hf => ?_)
  refine x_case hf (fun c9 hf => ?_) (fun c101 hf => ?_)
  · refine lv_tableIn (tgt := 84) E.1 E.2.1 dX7_isRefused_22 (by rw [c9]; decide) (by rw [c9]; decide) (by rw [c9]; rfl) (by decide) ?_
    refine lv_aload_n E.1 E.2.1 dX7_isRefused_84 rfl (lv_at hl 2 rfl) ?_
    refine x_getr E h 0 1 3 rfl rfl rfl (by decide) xinX7 kw315 dX7_isRefused_85 ?_
    refine x_get E h 3 0 rfl rfl rfl (by decide) xinX6 kw185 dX7_isRefused_88 ?_
    refine lv_bipush (v := 10) E.1 E.2.1 dX7_isRefused_91 (by decide) ?_
    refine x_br hf (lv_icmp_lt (tgt := 100) E.1 E.2.1 dX7_isRefused_93 (by decide)) (fun hf => ?_) (fun hf => ?_)
    · refine lv_iconst (v := 0) E.1 E.2.1 dX7_isRefused_100 (by decide) ?_
      exact x_zrc E h (by decide) hf dX7_isRefused_101
    · refine lv_iconst (v := 1) E.1 E.2.1 dX7_isRefused_96 (by decide) ?_
      refine lv_goto (tgt := 101) E.1 E.2.1 dX7_isRefused_97 (by decide) ?_
      exact x_zrc E h (by decide) hf dX7_isRefused_101
  refine x_case hf (fun c9 hf => ?_) (fun c102 hf => ?_)
  · refine lv_tableIn (tgt := 102) E.1 E.2.1 dX7_isRefused_22 (by rw [c9]; decide) (by rw [c9]; decide) (by rw [c9]; rfl) (by decide) ?_
    refine lv_aload_n E.1 E.2.1 dX7_isRefused_102 rfl (lv_at hl 2 rfl) ?_
    refine x_getr E h 0 1 3 rfl rfl rfl (by decide) xinX7 kw315 dX7_isRefused_103 ?_
    refine x_get E h 3 3 rfl rfl rfl (by decide) xinX6 kw195 dX7_isRefused_106 ?_
    refine lv_bipush (v := 20) E.1 E.2.1 dX7_isRefused_109 (by decide) ?_
    refine x_br hf (lv_icmp_lt (tgt := 118) E.1 E.2.1 dX7_isRefused_111 (by decide)) (fun hf => ?_) (fun hf => ?_)
    · refine lv_iconst (v := 0) E.1 E.2.1 dX7_isRefused_118 (by decide) ?_
      exact x_zrc E h (by decide) hf dX7_isRefused_119
    · refine lv_iconst (v := 1) E.1 E.2.1 dX7_isRefused_114 (by decide) ?_
      refine lv_goto (tgt := 119) E.1 E.2.1 dX7_isRefused_115 (by decide) ?_
      exact x_zrc E h (by decide) hf dX7_isRefused_119
  refine x_case hf (fun c9 hf => ?_) (fun c103 hf => ?_)
  · refine lv_tableIn (tgt := 120) E.1 E.2.1 dX7_isRefused_22 (by rw [c9]; decide) (by rw [c9]; decide) (by rw [c9]; rfl) (by decide) ?_
    refine lv_aload_n E.1 E.2.1 dX7_isRefused_120 rfl (lv_at hl 2 rfl) ?_
    refine x_getr E h 0 1 3 rfl rfl rfl (by decide) xinX7 kw315 dX7_isRefused_121 ?_
    refine lv_iload_n E.1 E.2.1 dX7_isRefused_124 rfl (lv_at hl 1 rfl) ?_
    refine x_callop E h hl 3 3 hf (xsub_of rfl) (fun r0 hr => c_X6_refusesCat l D cy s00 _ (xs 3 S) v1 r0 hr) m_X6_refusesCat rfl rfl kw614 rfl rfl (Nat.le_of_ble_eq_true rfl) ⟨by decide, by decide⟩ ⟨Nat.zero_le _, Nat.zero_le _⟩ dX7_isRefused_125 (fun v4 H locs hf h => ?_)
    exact x_zrp E h hf dX7_isRefused_128
  refine x_case hf (fun c9 hf => ?_) (fun c104 hf => ?_)
  · refine lv_tableIn (tgt := 129) E.1 E.2.1 dX7_isRefused_22 (by rw [c9]; decide) (by rw [c9]; decide) (by rw [c9]; rfl) (by decide) ?_
    refine lv_aload_n E.1 E.2.1 dX7_isRefused_129 rfl (lv_at hl 2 rfl) ?_
    refine x_getr E h 0 1 3 rfl rfl rfl (by decide) xinX7 kw315 dX7_isRefused_130 ?_
    refine lv_iload_n E.1 E.2.1 dX7_isRefused_133 rfl (lv_at hl 1 rfl) ?_
    refine lv_iload_n E.1 E.2.1 dX7_isRefused_134 rfl (lv_at hl 0 rfl) ?_
    refine x_callop E h hl 3 3 hf (xsub_of rfl) (fun r0 hr => c_X6_stepRefusal l D cy s00 _ (xs 3 S) v1 v2 r0 hr) m_X6_stepRefusal rfl rfl kw622 rfl rfl (Nat.le_of_ble_eq_true rfl) ⟨by decide, by decide⟩ ⟨Nat.zero_le _, Nat.zero_le _⟩ dX7_isRefused_135 (fun v5 H locs hf h => ?_)
    refine x_br hf (lv_if_eq (tgt := 145) E.1 E.2.1 dX7_isRefused_138 (by decide)) (fun hf => ?_) (fun hf => ?_)
    · refine lv_iconst (v := 0) E.1 E.2.1 dX7_isRefused_145 (by decide) ?_
      exact x_zrc E h (by decide) hf dX7_isRefused_146
    · refine lv_iconst (v := 1) E.1 E.2.1 dX7_isRefused_141 (by decide) ?_
      refine lv_goto (tgt := 146) E.1 E.2.1 dX7_isRefused_142 (by decide) ?_
      exact x_zrc E h (by decide) hf dX7_isRefused_146
  refine x_case hf (fun c9 hf => ?_) (fun c105 hf => ?_)
  · refine lv_tableIn (tgt := 147) E.1 E.2.1 dX7_isRefused_22 (by rw [c9]; decide) (by rw [c9]; decide) (by rw [c9]; rfl) (by decide) ?_
    refine lv_aload_n E.1 E.2.1 dX7_isRefused_147 rfl (lv_at hl 2 rfl) ?_
    refine x_getr E h 0 1 3 rfl rfl rfl (by decide) xinX7 kw315 dX7_isRefused_148 ?_
    refine lv_iload_n E.1 E.2.1 dX7_isRefused_151 rfl (lv_at hl 1 rfl) ?_
    refine x_callop E h hl 3 3 hf (xsub_of rfl) (fun r0 hr => c_X6_claimRefusal l D cy s00 _ (xs 3 S) v1 r0 hr) m_X6_claimRefusal rfl rfl kw638 rfl rfl (Nat.le_of_ble_eq_true rfl) ⟨by decide, by decide⟩ ⟨Nat.zero_le _, Nat.zero_le _⟩ dX7_isRefused_152 (fun v6 H locs hf h => ?_)
    refine x_br hf (lv_if_eq (tgt := 162) E.1 E.2.1 dX7_isRefused_155 (by decide)) (fun hf => ?_) (fun hf => ?_)
    · refine lv_iconst (v := 0) E.1 E.2.1 dX7_isRefused_162 (by decide) ?_
      exact x_zrc E h (by decide) hf dX7_isRefused_163
    · refine lv_iconst (v := 1) E.1 E.2.1 dX7_isRefused_158 (by decide) ?_
      refine lv_goto (tgt := 163) E.1 E.2.1 dX7_isRefused_159 (by decide) ?_
      exact x_zrc E h (by decide) hf dX7_isRefused_163
  refine x_case hf (fun c9 hf => ?_) (fun c106 hf => ?_)
  · refine lv_tableIn (tgt := 164) E.1 E.2.1 dX7_isRefused_22 (by rw [c9]; decide) (by rw [c9]; decide) (by rw [c9]; rfl) (by decide) ?_
    refine lv_aload_n E.1 E.2.1 dX7_isRefused_164 rfl (lv_at hl 2 rfl) ?_
    refine x_getr E h 0 1 3 rfl rfl rfl (by decide) xinX7 kw315 dX7_isRefused_165 ?_
    refine x_getr E h 3 2 5 rfl rfl rfl (by decide) xinX6 kw192 dX7_isRefused_168 ?_
    refine lv_iload_n E.1 E.2.1 dX7_isRefused_171 rfl (lv_at hl 1 rfl) ?_
    refine x_iald E h 5 hf rfl dX7_isRefused_172 (fun v7 hf => ?_)
    refine lv_iconst (v := (-1)) E.1 E.2.1 dX7_isRefused_173 (by decide) ?_
    refine x_brn hf (lv_icmp_ne (tgt := 181) E.1 E.2.1 dX7_isRefused_174 (by decide)) (fun hf => ?_) (fun hf => ?_)
    · refine lv_iconst (v := 0) E.1 E.2.1 dX7_isRefused_181 (by decide) ?_
      exact x_zrc E h (by decide) hf dX7_isRefused_182
    · refine lv_iconst (v := 1) E.1 E.2.1 dX7_isRefused_177 (by decide) ?_
      refine lv_goto (tgt := 182) E.1 E.2.1 dX7_isRefused_178 (by decide) ?_
      exact x_zrc E h (by decide) hf dX7_isRefused_182
  refine x_case hf (fun c9 hf => ?_) (fun c107 hf => ?_)
  · refine lv_tableIn (tgt := 183) E.1 E.2.1 dX7_isRefused_22 (by rw [c9]; decide) (by rw [c9]; decide) (by rw [c9]; rfl) (by decide) ?_
    refine lv_aload_n E.1 E.2.1 dX7_isRefused_183 rfl (lv_at hl 2 rfl) ?_
    refine x_getr E h 0 1 3 rfl rfl rfl (by decide) xinX7 kw315 dX7_isRefused_184 ?_
    refine lv_iload_n E.1 E.2.1 dX7_isRefused_187 rfl (lv_at hl 1 rfl) ?_
    refine lv_iload_n E.1 E.2.1 dX7_isRefused_188 rfl (lv_at hl 0 rfl) ?_
    refine x_callop E h hl 3 3 hf (xsub_of rfl) (fun r0 hr => c_X6_chaseRefusal l D cy s00 _ (xs 3 S) v1 v2 r0 hr) m_X6_chaseRefusal rfl rfl kw646 rfl rfl (Nat.le_of_ble_eq_true rfl) ⟨by decide, by decide⟩ ⟨Nat.zero_le _, Nat.zero_le _⟩ dX7_isRefused_189 (fun v8 H locs hf h => ?_)
    refine x_br hf (lv_if_eq (tgt := 199) E.1 E.2.1 dX7_isRefused_192 (by decide)) (fun hf => ?_) (fun hf => ?_)
    · refine lv_iconst (v := 0) E.1 E.2.1 dX7_isRefused_199 (by decide) ?_
      exact x_zrc E h (by decide) hf dX7_isRefused_200
    · refine lv_iconst (v := 1) E.1 E.2.1 dX7_isRefused_195 (by decide) ?_
      refine lv_goto (tgt := 200) E.1 E.2.1 dX7_isRefused_196 (by decide) ?_
      exact x_zrc E h (by decide) hf dX7_isRefused_200
  refine x_case hf (fun c9 hf => ?_) (fun c108 hf => ?_)
  · refine lv_tableIn (tgt := 201) E.1 E.2.1 dX7_isRefused_22 (by rw [c9]; decide) (by rw [c9]; decide) (by rw [c9]; rfl) (by decide) ?_
    refine lv_aload_n E.1 E.2.1 dX7_isRefused_201 rfl (lv_at hl 2 rfl) ?_
    refine x_getr E h 0 1 3 rfl rfl rfl (by decide) xinX7 kw315 dX7_isRefused_202 ?_
    refine lv_iload_n E.1 E.2.1 dX7_isRefused_205 rfl (lv_at hl 1 rfl) ?_
    refine lv_iload_n E.1 E.2.1 dX7_isRefused_206 rfl (lv_at hl 0 rfl) ?_
    refine lv_aload_n E.1 E.2.1 dX7_isRefused_207 rfl (lv_at hl 2 rfl) ?_
    refine x_getr E h 0 4 16 rfl rfl rfl (by decide) xinX7 kw321 dX7_isRefused_208 ?_
    refine lv_iconst (v := 2) E.1 E.2.1 dX7_isRefused_211 (by decide) ?_
    refine x_iald E h 16 hf rfl dX7_isRefused_212 (fun v9 hf => ?_)
    refine x_callop E h hl 3 3 hf (xsub_of rfl) (fun r0 hr => c_X6_refusesTruce l D cy s00 _ (xs 3 S) v1 v2 v9 r0 hr) m_X6_refusesTruce rfl rfl kw658 rfl rfl (Nat.le_of_ble_eq_true rfl) ⟨by decide, by decide⟩ ⟨Nat.zero_le _, Nat.zero_le _⟩ dX7_isRefused_213 (fun v10 H locs hf h => ?_)
    exact x_zrp E h hf dX7_isRefused_216
  refine x_case hf (fun c9 hf => ?_) (fun c109 hf => ?_)
  · refine lv_tableIn (tgt := 217) E.1 E.2.1 dX7_isRefused_22 (by rw [c9]; decide) (by rw [c9]; decide) (by rw [c9]; rfl) (by decide) ?_
    refine lv_aload_n E.1 E.2.1 dX7_isRefused_217 rfl (lv_at hl 2 rfl) ?_
    refine x_getr E h 0 1 3 rfl rfl rfl (by decide) xinX7 kw315 dX7_isRefused_218 ?_
    refine x_callop E h hl 3 3 hf (xsub_of rfl) (fun r0 hr => c_X6_refusesKitten l D cy s00 _ (xs 3 S)  r0 hr) m_X6_refusesKitten rfl rfl kw662 rfl rfl (Nat.le_of_ble_eq_true rfl) ⟨by decide, by decide⟩ ⟨Nat.zero_le _, Nat.zero_le _⟩ dX7_isRefused_221 (fun v11 H locs hf h => ?_)
    exact x_zrp E h hf dX7_isRefused_224
  refine x_case hf (fun c9 hf => ?_) (fun c110 hf => ?_)
  · refine lv_tableIn (tgt := 225) E.1 E.2.1 dX7_isRefused_22 (by rw [c9]; decide) (by rw [c9]; decide) (by rw [c9]; rfl) (by decide) ?_
    refine lv_aload_n E.1 E.2.1 dX7_isRefused_225 rfl (lv_at hl 2 rfl) ?_
    refine x_getr E h 0 1 3 rfl rfl rfl (by decide) xinX7 kw315 dX7_isRefused_226 ?_
    refine lv_iload_n E.1 E.2.1 dX7_isRefused_229 rfl (lv_at hl 1 rfl) ?_
    refine x_callop E h hl 3 3 hf (xsub_of rfl) (fun r0 hr => c_X6_refusesVote l D cy s00 _ (xs 3 S) v1 r0 hr) m_X6_refusesVote rfl rfl kw666 rfl rfl (Nat.le_of_ble_eq_true rfl) ⟨by decide, by decide⟩ ⟨Nat.zero_le _, Nat.zero_le _⟩ dX7_isRefused_230 (fun v12 H locs hf h => ?_)
    exact x_zrp E h hf dX7_isRefused_233
  refine x_case hf (fun c9 hf => ?_) (fun c111 hf => ?_)
  · refine lv_tableIn (tgt := 225) E.1 E.2.1 dX7_isRefused_22 (by rw [c9]; decide) (by rw [c9]; decide) (by rw [c9]; rfl) (by decide) ?_
    refine lv_aload_n E.1 E.2.1 dX7_isRefused_225 rfl (lv_at hl 2 rfl) ?_
    refine x_getr E h 0 1 3 rfl rfl rfl (by decide) xinX7 kw315 dX7_isRefused_226 ?_
    refine lv_iload_n E.1 E.2.1 dX7_isRefused_229 rfl (lv_at hl 1 rfl) ?_
    refine x_callop E h hl 3 3 hf (xsub_of rfl) (fun r0 hr => c_X6_refusesVote l D cy s00 _ (xs 3 S) v1 r0 hr) m_X6_refusesVote rfl rfl kw666 rfl rfl (Nat.le_of_ble_eq_true rfl) ⟨by decide, by decide⟩ ⟨Nat.zero_le _, Nat.zero_le _⟩ dX7_isRefused_230 (fun v13 H locs hf h => ?_)
    exact x_zrp E h hf dX7_isRefused_233
  refine x_case hf (fun c9 hf => ?_) (fun c112 hf => ?_)
  · refine lv_tableIn (tgt := 234) E.1 E.2.1 dX7_isRefused_22 (by rw [c9]; decide) (by rw [c9]; decide) (by rw [c9]; rfl) (by decide) ?_
    refine lv_aload_n E.1 E.2.1 dX7_isRefused_234 rfl (lv_at hl 2 rfl) ?_
    refine x_getr E h 0 1 3 rfl rfl rfl (by decide) xinX7 kw315 dX7_isRefused_235 ?_
    refine lv_iload_n E.1 E.2.1 dX7_isRefused_238 rfl (lv_at hl 1 rfl) ?_
    refine x_callop E h hl 3 3 hf (xsub_of rfl) (fun r0 hr => c_X6_refusesNights l D cy s00 _ (xs 3 S) v1 r0 hr) m_X6_refusesNights rfl rfl kw670 rfl rfl (Nat.le_of_ble_eq_true rfl) ⟨by decide, by decide⟩ ⟨Nat.zero_le _, Nat.zero_le _⟩ dX7_isRefused_239 (fun v14 H locs hf h => ?_)
    exact x_zrp E h hf dX7_isRefused_242
  refine lv_tableOut (tgt := 243) E.1 E.2.1 dX7_isRefused_22 (x_out (fun z z1 z2 => ?_)) (by decide) ?_
  · have hz : z = 1 ∨ z = 2 ∨ z = 3 ∨ z = 4 ∨ z = 5 ∨ z = 6 ∨ z = 7 ∨ z = 8 ∨ z = 9 ∨ z = 10 ∨ z = 11 ∨ z = 12 := by omega
    rcases hz with rfl | rfl | rfl | rfl | rfl | rfl | rfl | rfl | rfl | rfl | rfl | rfl
    · exact c101
    · exact c102
    · exact c103
    · exact c104
    · exact c105
    · exact c106
    · exact c107
    · exact c108
    · exact c109
    · exact c110
    · exact c111
    · exact c112
  · refine lv_iconst (v := 1) E.1 E.2.1 dX7_isRefused_243 (by decide) ?_
    exact x_zrc E h (by decide) hf dX7_isRefused_244
set_option maxHeartbeats 4000000 in
set_option maxRecDepth 100000 in
theorem c_X7_apply (l : Launch) (D : va_G) (cy : Nat → ClassId) (s00 : State) (ad : Nat → Nat) (hG : XG s00) {tE : xEnT} (hEn : XEn s00 tE) {k0 : Nat} (hk0 : k0 < 13) (S : XS) (S9 : XS) (hf : f_X7_apply S k0 = some S9) : XV l yX7_apply cX7_apply 4 none 4 D cy s00 shScr ad S [.ref (ad 0), .ref (tE.1 k0)] S9 := by
  refine XV.of (by decide) [(0, .ref (ad 0)), (1, .ref (tE.1 k0))] rfl (Nat.le_of_ble_eq_true rfl) (fun p e s m args below meth c A ls E h hl => ?_)
  unfold f_X7_apply at hf
  refine lv_aload_n E.1 E.2.1 dX7_apply_0 rfl (lv_at hl 0 rfl) ?_
  refine x_getr E h 0 4 16 rfl rfl rfl (by decide) xinX7 kw321 dX7_apply_1 ?_
  refine lv_iconst (v := 0) E.1 E.2.1 dX7_apply_4 (by decide) ?_
  refine x_iald E h 16 hf rfl dX7_apply_5 (fun v1 hf => ?_)
  refine lv_istore_n (lv' := [(2, .int v1), (0, .ref (ad 0)), (1, .ref (tE.1 k0))]) E.1 E.2.1 dX7_apply_6 rfl hl (by decide) rfl (fun ls hl => ?_)
  refine lv_aload_n E.1 E.2.1 dX7_apply_7 rfl (lv_at hl 1 rfl) ?_
  refine x_getr E h 0 4 16 rfl rfl rfl (by decide) xinX7 kw321 dX7_apply_8 ?_
  refine lv_iconst (v := 1) E.1 E.2.1 dX7_apply_11 (by decide) ?_
  refine x_iald E h 16 hf rfl dX7_apply_12 (fun v2 hf => ?_)
  refine lv_istore_n (lv' := [(3, .int v2), (2, .int v1), (0, .ref (ad 0)), (1, .ref (tE.1 k0))]) E.1 E.2.1 dX7_apply_13 rfl hl (by decide) rfl (fun ls hl => ?_)
  refine va_gets E.1 E.2.1 (xZ_here hEn.2.2.2.2.1 E h) h.2.2.1 E.2.2.2.1 (E.2.2.2.2.1 _ kw606) (fun _ h9 => h9) dX7_apply_14 ?_
  refine lv_aload_n E.1 E.2.1 dX7_apply_17 rfl (lv_at hl 3 rfl) ?_
  refine x_ord hEn hk0 E h hl kw608 (Nat.le_of_ble_eq_true rfl) ⟨by decide, by decide⟩ ⟨Nat.zero_le _, Nat.zero_le _⟩ dX7_apply_18 (fun H locs h => ?_)
  refine x_swt hEn E h hf dX7_apply_21 (fun v3 hf => ?_)
  refine x_case hf (fun c9 hf => ?_) (fun c101 hf => ?_)
  · refine lv_tableIn (tgt := 84) E.1 E.2.1 dX7_apply_22 (by rw [c9]; decide) (by rw [c9]; decide) (by rw [c9]; rfl) (by decide) ?_
    refine lv_aload_n E.1 E.2.1 dX7_apply_84 rfl (lv_at hl 2 rfl) ?_
    refine x_getr E h 0 1 3 rfl rfl rfl (by decide) xinX7 kw315 dX7_apply_85 ?_
    refine lv_iload_n E.1 E.2.1 dX7_apply_88 rfl (lv_at hl 1 rfl) ?_
    refine x_calloi E h hl 3 3 hf (xsub_of rfl) (fun r0 Sq0 hr => c_X6_putChimney l D cy s00 _ (xs 3 S) v1 r0 Sq0 hr) m_X6_putChimney rfl rfl kw678 rfl rfl (Nat.le_of_ble_eq_true rfl) ⟨by decide, by decide⟩ ⟨Nat.zero_le _, Nat.zero_le _⟩ dX7_apply_89 (fun v4 S5 H locs hf h => ?_)
    refine lv_pop E.1 E.2.1 dX7_apply_92 rfl ?_
    refine lv_goto (tgt := 260) E.1 E.2.1 dX7_apply_93 (by decide) ?_
    exact x_vret E h hf dX7_apply_260
  refine x_case hf (fun c9 hf => ?_) (fun c102 hf => ?_)
  · refine lv_tableIn (tgt := 96) E.1 E.2.1 dX7_apply_22 (by rw [c9]; decide) (by rw [c9]; decide) (by rw [c9]; rfl) (by decide) ?_
    refine lv_aload_n E.1 E.2.1 dX7_apply_96 rfl (lv_at hl 2 rfl) ?_
    refine x_getr E h 0 1 3 rfl rfl rfl (by decide) xinX7 kw315 dX7_apply_97 ?_
    refine lv_iload_n E.1 E.2.1 dX7_apply_100 rfl (lv_at hl 1 rfl) ?_
    refine lv_iload_n E.1 E.2.1 dX7_apply_101 rfl (lv_at hl 0 rfl) ?_
    refine lv_aload_n E.1 E.2.1 dX7_apply_102 rfl (lv_at hl 2 rfl) ?_
    refine x_getr E h 0 4 16 rfl rfl rfl (by decide) xinX7 kw321 dX7_apply_103 ?_
    refine lv_iconst (v := 2) E.1 E.2.1 dX7_apply_106 (by decide) ?_
    refine x_iald E h 16 hf rfl dX7_apply_107 (fun v6 hf => ?_)
    refine x_calloi E h hl 3 3 hf (xsub_of rfl) (fun r0 Sq0 hr => c_X6_putGutter l D cy s00 _ (xs 3 S) v1 v2 v6 r0 Sq0 hr) m_X6_putGutter rfl rfl kw679 rfl rfl (Nat.le_of_ble_eq_true rfl) ⟨by decide, by decide⟩ ⟨Nat.zero_le _, Nat.zero_le _⟩ dX7_apply_108 (fun v7 S8 H locs hf h => ?_)
    refine lv_pop E.1 E.2.1 dX7_apply_111 rfl ?_
    refine lv_goto (tgt := 260) E.1 E.2.1 dX7_apply_112 (by decide) ?_
    exact x_vret E h hf dX7_apply_260
  refine x_case hf (fun c9 hf => ?_) (fun c103 hf => ?_)
  · refine lv_tableIn (tgt := 115) E.1 E.2.1 dX7_apply_22 (by rw [c9]; decide) (by rw [c9]; decide) (by rw [c9]; rfl) (by decide) ?_
    refine lv_aload_n E.1 E.2.1 dX7_apply_115 rfl (lv_at hl 2 rfl) ?_
    refine x_getr E h 0 1 3 rfl rfl rfl (by decide) xinX7 kw315 dX7_apply_116 ?_
    refine lv_iload_n E.1 E.2.1 dX7_apply_119 rfl (lv_at hl 1 rfl) ?_
    refine lv_iload_n E.1 E.2.1 dX7_apply_120 rfl (lv_at hl 0 rfl) ?_
    refine lv_aload_n E.1 E.2.1 dX7_apply_121 rfl (lv_at hl 2 rfl) ?_
    refine x_getr E h 0 4 16 rfl rfl rfl (by decide) xinX7 kw321 dX7_apply_122 ?_
    refine lv_iconst (v := 2) E.1 E.2.1 dX7_apply_125 (by decide) ?_
    refine x_iald E h 16 hf rfl dX7_apply_126 (fun v9 hf => ?_)
    refine x_calloi E h hl 3 3 hf (xsub_of rfl) (fun r0 Sq0 hr => c_X6_putCat l D cy s00 _ (xs 3 S) v1 v2 v9 r0 Sq0 hr) m_X6_putCat rfl rfl kw680 rfl rfl (Nat.le_of_ble_eq_true rfl) ⟨by decide, by decide⟩ ⟨Nat.zero_le _, Nat.zero_le _⟩ dX7_apply_127 (fun v10 S11 H locs hf h => ?_)
    refine lv_pop E.1 E.2.1 dX7_apply_130 rfl ?_
    refine lv_goto (tgt := 260) E.1 E.2.1 dX7_apply_131 (by decide) ?_
    exact x_vret E h hf dX7_apply_260
  refine x_case hf (fun c9 hf => ?_) (fun c104 hf => ?_)
  · refine lv_tableIn (tgt := 134) E.1 E.2.1 dX7_apply_22 (by rw [c9]; decide) (by rw [c9]; decide) (by rw [c9]; rfl) (by decide) ?_
    refine lv_aload_n E.1 E.2.1 dX7_apply_134 rfl (lv_at hl 2 rfl) ?_
    refine x_getr E h 0 1 3 rfl rfl rfl (by decide) xinX7 kw315 dX7_apply_135 ?_
    refine lv_iload_n E.1 E.2.1 dX7_apply_138 rfl (lv_at hl 1 rfl) ?_
    refine lv_iload_n E.1 E.2.1 dX7_apply_139 rfl (lv_at hl 0 rfl) ?_
    refine x_calloi E h hl 3 3 hf (xsub_of rfl) (fun r0 Sq0 hr => c_X6_walk l D cy s00 _ (xs 3 S) v1 v2 r0 Sq0 hr) m_X6_walk rfl rfl kw681 rfl rfl (Nat.le_of_ble_eq_true rfl) ⟨by decide, by decide⟩ ⟨Nat.zero_le _, Nat.zero_le _⟩ dX7_apply_140 (fun v12 S13 H locs hf h => ?_)
    refine lv_pop E.1 E.2.1 dX7_apply_143 rfl ?_
    refine lv_goto (tgt := 260) E.1 E.2.1 dX7_apply_144 (by decide) ?_
    exact x_vret E h hf dX7_apply_260
  refine x_case hf (fun c9 hf => ?_) (fun c105 hf => ?_)
  · refine lv_tableIn (tgt := 147) E.1 E.2.1 dX7_apply_22 (by rw [c9]; decide) (by rw [c9]; decide) (by rw [c9]; rfl) (by decide) ?_
    refine lv_aload_n E.1 E.2.1 dX7_apply_147 rfl (lv_at hl 2 rfl) ?_
    refine x_getr E h 0 1 3 rfl rfl rfl (by decide) xinX7 kw315 dX7_apply_148 ?_
    refine lv_iload_n E.1 E.2.1 dX7_apply_151 rfl (lv_at hl 1 rfl) ?_
    refine x_calloi E h hl 3 3 hf (xsub_of rfl) (fun r0 Sq0 hr => c_X6_takeSeat l D cy s00 _ (xs 3 S) v1 r0 Sq0 hr) m_X6_takeSeat rfl rfl kw685 rfl rfl (Nat.le_of_ble_eq_true rfl) ⟨by decide, by decide⟩ ⟨Nat.zero_le _, Nat.zero_le _⟩ dX7_apply_152 (fun v14 S15 H locs hf h => ?_)
    refine lv_pop E.1 E.2.1 dX7_apply_155 rfl ?_
    refine lv_goto (tgt := 260) E.1 E.2.1 dX7_apply_156 (by decide) ?_
    exact x_vret E h hf dX7_apply_260
  refine x_case hf (fun c9 hf => ?_) (fun c106 hf => ?_)
  · refine lv_tableIn (tgt := 159) E.1 E.2.1 dX7_apply_22 (by rw [c9]; decide) (by rw [c9]; decide) (by rw [c9]; rfl) (by decide) ?_
    refine lv_aload_n E.1 E.2.1 dX7_apply_159 rfl (lv_at hl 2 rfl) ?_
    refine x_getr E h 0 1 3 rfl rfl rfl (by decide) xinX7 kw315 dX7_apply_160 ?_
    refine lv_iload_n E.1 E.2.1 dX7_apply_163 rfl (lv_at hl 1 rfl) ?_
    refine x_calloi E h hl 3 3 hf (xsub_of rfl) (fun r0 Sq0 hr => c_X6_release l D cy s00 _ (xs 3 S) v1 r0 Sq0 hr) m_X6_release rfl rfl kw686 rfl rfl (Nat.le_of_ble_eq_true rfl) ⟨by decide, by decide⟩ ⟨Nat.zero_le _, Nat.zero_le _⟩ dX7_apply_164 (fun v16 S17 H locs hf h => ?_)
    refine lv_pop E.1 E.2.1 dX7_apply_167 rfl ?_
    refine lv_goto (tgt := 260) E.1 E.2.1 dX7_apply_168 (by decide) ?_
    exact x_vret E h hf dX7_apply_260
  refine x_case hf (fun c9 hf => ?_) (fun c107 hf => ?_)
  · refine lv_tableIn (tgt := 171) E.1 E.2.1 dX7_apply_22 (by rw [c9]; decide) (by rw [c9]; decide) (by rw [c9]; rfl) (by decide) ?_
    refine lv_aload_n E.1 E.2.1 dX7_apply_171 rfl (lv_at hl 2 rfl) ?_
    refine x_getr E h 0 1 3 rfl rfl rfl (by decide) xinX7 kw315 dX7_apply_172 ?_
    refine lv_iload_n E.1 E.2.1 dX7_apply_175 rfl (lv_at hl 1 rfl) ?_
    refine lv_iload_n E.1 E.2.1 dX7_apply_176 rfl (lv_at hl 0 rfl) ?_
    refine x_calloi E h hl 3 3 hf (xsub_of rfl) (fun r0 Sq0 hr => c_X6_driveAway l D cy s00 _ (xs 3 S) v1 v2 r0 Sq0 hr) m_X6_driveAway rfl rfl kw690 rfl rfl (Nat.le_of_ble_eq_true rfl) ⟨by decide, by decide⟩ ⟨Nat.zero_le _, Nat.zero_le _⟩ dX7_apply_177 (fun v18 S19 H locs hf h => ?_)
    refine lv_pop E.1 E.2.1 dX7_apply_180 rfl ?_
    refine lv_goto (tgt := 260) E.1 E.2.1 dX7_apply_181 (by decide) ?_
    exact x_vret E h hf dX7_apply_260
  refine x_case hf (fun c9 hf => ?_) (fun c108 hf => ?_)
  · refine lv_tableIn (tgt := 184) E.1 E.2.1 dX7_apply_22 (by rw [c9]; decide) (by rw [c9]; decide) (by rw [c9]; rfl) (by decide) ?_
    refine lv_aload_n E.1 E.2.1 dX7_apply_184 rfl (lv_at hl 2 rfl) ?_
    refine x_getr E h 0 1 3 rfl rfl rfl (by decide) xinX7 kw315 dX7_apply_185 ?_
    refine lv_iload_n E.1 E.2.1 dX7_apply_188 rfl (lv_at hl 1 rfl) ?_
    refine lv_iload_n E.1 E.2.1 dX7_apply_189 rfl (lv_at hl 0 rfl) ?_
    refine lv_aload_n E.1 E.2.1 dX7_apply_190 rfl (lv_at hl 2 rfl) ?_
    refine x_getr E h 0 4 16 rfl rfl rfl (by decide) xinX7 kw321 dX7_apply_191 ?_
    refine lv_iconst (v := 2) E.1 E.2.1 dX7_apply_194 (by decide) ?_
    refine x_iald E h 16 hf rfl dX7_apply_195 (fun v20 hf => ?_)
    refine lv_aload_n E.1 E.2.1 dX7_apply_196 rfl (lv_at hl 2 rfl) ?_
    refine x_getr E h 0 4 16 rfl rfl rfl (by decide) xinX7 kw321 dX7_apply_197 ?_
    refine lv_iconst (v := 3) E.1 E.2.1 dX7_apply_200 (by decide) ?_
    refine x_iald E h 16 hf rfl dX7_apply_201 (fun v21 hf => ?_)
    refine x_calloi E h hl 3 3 hf (xsub_of rfl) (fun r0 Sq0 hr => c_X6_agreeTruce l D cy s00 _ (xs 3 S) v1 v2 v20 v21 r0 Sq0 hr) m_X6_agreeTruce rfl rfl kw694 rfl rfl (Nat.le_of_ble_eq_true rfl) ⟨by decide, by decide⟩ ⟨Nat.zero_le _, Nat.zero_le _⟩ dX7_apply_202 (fun v22 S23 H locs hf h => ?_)
    refine lv_pop E.1 E.2.1 dX7_apply_205 rfl ?_
    refine lv_goto (tgt := 260) E.1 E.2.1 dX7_apply_206 (by decide) ?_
    exact x_vret E h hf dX7_apply_260
  refine x_case hf (fun c9 hf => ?_) (fun c109 hf => ?_)
  · refine lv_tableIn (tgt := 209) E.1 E.2.1 dX7_apply_22 (by rw [c9]; decide) (by rw [c9]; decide) (by rw [c9]; rfl) (by decide) ?_
    refine lv_aload_n E.1 E.2.1 dX7_apply_209 rfl (lv_at hl 2 rfl) ?_
    refine x_getr E h 0 1 3 rfl rfl rfl (by decide) xinX7 kw315 dX7_apply_210 ?_
    refine x_getr E h 3 16 14 rfl rfl rfl (by decide) xinX6 kw218 dX7_apply_213 ?_
    refine lv_iload_n E.1 E.2.1 dX7_apply_216 rfl (lv_at hl 1 rfl) ?_
    refine lv_iload_n E.1 E.2.1 dX7_apply_217 rfl (lv_at hl 0 rfl) ?_
    refine x_callov E h hl 14 14 hf (xsub_of rfl) (fun r0 hr => c_X3_arrive l D cy s00 _ (xs 14 S) v1 v2 r0 hr) m_X3_arrive rfl rfl kw695 rfl rfl (Nat.le_of_ble_eq_true rfl) ⟨by decide, by decide⟩ ⟨Nat.zero_le _, Nat.zero_le _⟩ dX7_apply_218 (fun S24 H locs hf h => ?_)
    refine lv_goto (tgt := 260) E.1 E.2.1 dX7_apply_221 (by decide) ?_
    exact x_vret E h hf dX7_apply_260
  refine x_case hf (fun c9 hf => ?_) (fun c110 hf => ?_)
  · refine lv_tableIn (tgt := 224) E.1 E.2.1 dX7_apply_22 (by rw [c9]; decide) (by rw [c9]; decide) (by rw [c9]; rfl) (by decide) ?_
    refine lv_aload_n E.1 E.2.1 dX7_apply_224 rfl (lv_at hl 2 rfl) ?_
    refine x_getr E h 0 1 3 rfl rfl rfl (by decide) xinX7 kw315 dX7_apply_225 ?_
    refine lv_iload_n E.1 E.2.1 dX7_apply_228 rfl (lv_at hl 1 rfl) ?_
    refine lv_aload_n E.1 E.2.1 dX7_apply_229 rfl (lv_at hl 3 rfl) ?_
    refine va_gets E.1 E.2.1 (xZ_here hEn.2.2.2.2.2.2.2 E h) h.2.2.1 E.2.2.2.1 (E.2.2.2.2.1 _ kw699) (fun _ h9 => h9) dX7_apply_230 ?_
    refine x_brne (x_inj hEn hk0 (by decide)) hf (lv_acmp_ne (rx := some (tE.1 k0)) (ry := some (tE.1 9)) (tgt := 240) E.1 E.2.1 dX7_apply_233 (by decide)) (fun hf => ?_) (fun hf => ?_)
    · refine lv_iconst (v := 0) E.1 E.2.1 dX7_apply_240 (by decide) ?_
      refine x_calloi E h hl 3 3 hf (xsub_of rfl) (fun r0 Sq0 hr => c_X6_takeVote l D cy s00 _ (xs 3 S) v1 0 r0 Sq0 hr) m_X6_takeVote rfl rfl kw701 rfl rfl (Nat.le_of_ble_eq_true rfl) ⟨by decide, by decide⟩ ⟨Nat.zero_le _, Nat.zero_le _⟩ dX7_apply_241 (fun v25 S26 H locs hf h => ?_)
      refine lv_pop E.1 E.2.1 dX7_apply_244 rfl ?_
      refine lv_goto (tgt := 260) E.1 E.2.1 dX7_apply_245 (by decide) ?_
      exact x_vret E h hf dX7_apply_260
    · refine lv_iconst (v := 1) E.1 E.2.1 dX7_apply_236 (by decide) ?_
      refine lv_goto (tgt := 241) E.1 E.2.1 dX7_apply_237 (by decide) ?_
      refine x_calloi E h hl 3 3 hf (xsub_of rfl) (fun r0 Sq0 hr => c_X6_takeVote l D cy s00 _ (xs 3 S) v1 1 r0 Sq0 hr) m_X6_takeVote rfl rfl kw701 rfl rfl (Nat.le_of_ble_eq_true rfl) ⟨by decide, by decide⟩ ⟨Nat.zero_le _, Nat.zero_le _⟩ dX7_apply_241 (fun v27 S28 H locs hf h => ?_)
      refine lv_pop E.1 E.2.1 dX7_apply_244 rfl ?_
      refine lv_goto (tgt := 260) E.1 E.2.1 dX7_apply_245 (by decide) ?_
      exact x_vret E h hf dX7_apply_260
  refine x_case hf (fun c9 hf => ?_) (fun c111 hf => ?_)
  · refine lv_tableIn (tgt := 224) E.1 E.2.1 dX7_apply_22 (by rw [c9]; decide) (by rw [c9]; decide) (by rw [c9]; rfl) (by decide) ?_
    refine lv_aload_n E.1 E.2.1 dX7_apply_224 rfl (lv_at hl 2 rfl) ?_
    refine x_getr E h 0 1 3 rfl rfl rfl (by decide) xinX7 kw315 dX7_apply_225 ?_
    refine lv_iload_n E.1 E.2.1 dX7_apply_228 rfl (lv_at hl 1 rfl) ?_
    refine lv_aload_n E.1 E.2.1 dX7_apply_229 rfl (lv_at hl 3 rfl) ?_
    refine va_gets E.1 E.2.1 (xZ_here hEn.2.2.2.2.2.2.2 E h) h.2.2.1 E.2.2.2.1 (E.2.2.2.2.1 _ kw699) (fun _ h9 => h9) dX7_apply_230 ?_
    refine x_brne (x_inj hEn hk0 (by decide)) hf (lv_acmp_ne (rx := some (tE.1 k0)) (ry := some (tE.1 9)) (tgt := 240) E.1 E.2.1 dX7_apply_233 (by decide)) (fun hf => ?_) (fun hf => ?_)
    · refine lv_iconst (v := 0) E.1 E.2.1 dX7_apply_240 (by decide) ?_
      refine x_calloi E h hl 3 3 hf (xsub_of rfl) (fun r0 Sq0 hr => c_X6_takeVote l D cy s00 _ (xs 3 S) v1 0 r0 Sq0 hr) m_X6_takeVote rfl rfl kw701 rfl rfl (Nat.le_of_ble_eq_true rfl) ⟨by decide, by decide⟩ ⟨Nat.zero_le _, Nat.zero_le _⟩ dX7_apply_241 (fun v29 S30 H locs hf h => ?_)
      refine lv_pop E.1 E.2.1 dX7_apply_244 rfl ?_
      refine lv_goto (tgt := 260) E.1 E.2.1 dX7_apply_245 (by decide) ?_
      exact x_vret E h hf dX7_apply_260
    · refine lv_iconst (v := 1) E.1 E.2.1 dX7_apply_236 (by decide) ?_
      refine lv_goto (tgt := 241) E.1 E.2.1 dX7_apply_237 (by decide) ?_
      refine x_calloi E h hl 3 3 hf (xsub_of rfl) (fun r0 Sq0 hr => c_X6_takeVote l D cy s00 _ (xs 3 S) v1 1 r0 Sq0 hr) m_X6_takeVote rfl rfl kw701 rfl rfl (Nat.le_of_ble_eq_true rfl) ⟨by decide, by decide⟩ ⟨Nat.zero_le _, Nat.zero_le _⟩ dX7_apply_241 (fun v31 S32 H locs hf h => ?_)
      refine lv_pop E.1 E.2.1 dX7_apply_244 rfl ?_
      refine lv_goto (tgt := 260) E.1 E.2.1 dX7_apply_245 (by decide) ?_
      exact x_vret E h hf dX7_apply_260
  refine x_case hf (fun c9 hf => ?_) (fun c112 hf => ?_)
  · refine lv_tableIn (tgt := 248) E.1 E.2.1 dX7_apply_22 (by rw [c9]; decide) (by rw [c9]; decide) (by rw [c9]; rfl) (by decide) ?_
    refine lv_aload_n E.1 E.2.1 dX7_apply_248 rfl (lv_at hl 2 rfl) ?_
    refine x_getr E h 0 1 3 rfl rfl rfl (by decide) xinX7 kw315 dX7_apply_249 ?_
    refine lv_iload_n E.1 E.2.1 dX7_apply_252 rfl (lv_at hl 1 rfl) ?_
    refine x_calloi E h hl 3 3 hf (xsub_of rfl) (fun r0 Sq0 hr => c_X6_spendNights l D cy s00 _ (xs 3 S) v1 r0 Sq0 hr) m_X6_spendNights rfl rfl kw714 rfl rfl (Nat.le_of_ble_eq_true rfl) ⟨by decide, by decide⟩ ⟨Nat.zero_le _, Nat.zero_le _⟩ dX7_apply_253 (fun v33 S34 H locs hf h => ?_)
    refine lv_pop E.1 E.2.1 dX7_apply_256 rfl ?_
    refine lv_goto (tgt := 260) E.1 E.2.1 dX7_apply_257 (by decide) ?_
    exact x_vret E h hf dX7_apply_260
  refine lv_tableOut (tgt := 260) E.1 E.2.1 dX7_apply_22 (x_out (fun z z1 z2 => ?_)) (by decide) ?_
  · have hz : z = 1 ∨ z = 2 ∨ z = 3 ∨ z = 4 ∨ z = 5 ∨ z = 6 ∨ z = 7 ∨ z = 8 ∨ z = 9 ∨ z = 10 ∨ z = 11 ∨ z = 12 := by omega
    rcases hz with rfl | rfl | rfl | rfl | rfl | rfl | rfl | rfl | rfl | rfl | rfl | rfl
    · exact c101
    · exact c102
    · exact c103
    · exact c104
    · exact c105
    · exact c106
    · exact c107
    · exact c108
    · exact c109
    · exact c110
    · exact c111
    · exact c112
  · exact x_vret E h hf dX7_apply_260
set_option maxHeartbeats 4000000 in
set_option maxRecDepth 100000 in
theorem w_X7_execute_L10 {p : Program} {l : Launch} {e : Env} {s : State} {m : MethodId} {args : Array Value} {below : List Frame} {meth : Method} {c : Code} {D : va_G} {cy : Nat → ClassId} {s00 : State} {ad : Nat → Nat} {A : Nat → Prop} (hG : XG s00) {tE : xEnT} (hEn : XEn s00 tE) {S9 : XS}  {K : Int32 → XS → Option (XS)} (E : XE p s m args meth c cX7_execute 3 RX7 none D cy s00) (hk : ∀ (m1 : Int32) (S1 : XS) (H : Heap) (locs : List Loc) (ls : Array Slot), K m1 S1 = some S9 → XH D cy s00 shScr ad S1 A s H locs → lv_has ls 3 [(0, .ref (ad 0)), (1, .int m1)] → W p l e (xrm 7) s m args below meth c H locs 0 0 (MQ below (xqv D cy shScr ad S9 A) args s 0 0 A) (F0 m 73 ls [])) :
    ∀ (n : Nat) (m1 : Int32) (S : XS) (H : Heap) (locs : List Loc) (ls : Array Slot), f_X7_execute_L10 K n m1 S = some S9 → XH D cy s00 shScr ad S A s H locs → lv_has ls 3 [(0, .ref (ad 0)), (1, .int m1)] → W p l e (xrm 7) s m args below meth c H locs 0 0 (MQ below (xqv D cy shScr ad S9 A) args s 0 0 A) (F0 m 10 ls []) := by
  intro n
  induction n with
  | zero => intro m1 S H locs ls hf; cases hf
  | succ n ih =>
    intro m1 S H locs ls hf h hl
    rw [f_X7_execute_L10] at hf
    refine lv_iload_n E.1 E.2.1 dX7_execute_10 rfl (lv_at hl 1 rfl) ?_
    refine lv_ldc (v := 1000000) E.1 E.2.1 E.2.2.2.1 (E.2.2.2.2.1 _ kw559) dX7_execute_11 ?_
    refine x_br hf (lv_icmp_ge (tgt := 73) E.1 E.2.1 dX7_execute_13 (by decide)) (fun hf => ?_) (fun hf => ?_)
    · exact hk _ _ _ _ _ hf h (lv_sub hl [0, 1] rfl)
    · refine lv_aload_n E.1 E.2.1 dX7_execute_16 rfl (lv_at hl 0 rfl) ?_
      refine x_get E h 0 5 rfl rfl rfl (by decide) xinX7 kw322 dX7_execute_17 ?_
      refine x_br hf (lv_if_eq (tgt := 73) E.1 E.2.1 dX7_execute_20 (by decide)) (fun hf => ?_) (fun hf => ?_)
      · exact hk _ _ _ _ _ hf h (lv_sub hl [0, 1] rfl)
      · refine lv_aload_n E.1 E.2.1 dX7_execute_23 rfl (lv_at hl 0 rfl) ?_
        refine x_callo (adE := tE.1) E h hl 0 hf (fun r0 Sq0 hr => c_X7_readStatement l D cy s00 _ hG hEn S  r0 Sq0 hr) m_X7_readStatement rfl rfl kw560 rfl rfl (Nat.le_of_ble_eq_true rfl) ⟨by decide, by decide⟩ ⟨Nat.zero_le _, Nat.zero_le _⟩ dX7_execute_24 (fun q3 S4 H locs hf h => ?_)
        refine x_opt hf (fun e9 hg => ?_) (fun k5 e9 hg => ?_)
        · subst e9
          replace hf := hg
          refine lv_astore_nN (lv' := [(2, .null), (0, .ref (ad 0)), (1, .int m1)]) E.1 E.2.1 dX7_execute_27 rfl hl (by decide) rfl (fun ls hl => ?_)
          refine lv_aload_nN E.1 E.2.1 dX7_execute_28 rfl (lv_at hl 0 rfl) ?_
          refine lv_ifnullN (tgt := 48) E.1 E.2.1 dX7_execute_29 (by decide) ?_
          refine lv_aload_nN E.1 E.2.1 dX7_execute_48 rfl (lv_at hl 0 rfl) ?_
          refine lv_ifnullN (tgt := 67) E.1 E.2.1 dX7_execute_49 (by decide) ?_
          refine x_nv hf (fun v6 e9 hf => ?_)
          refine lv_iinc (v := v6) (lv' := [(1, .int v6), (2, .null), (0, .ref (ad 0))]) E.1 E.2.1 dX7_execute_67 hl (k := 2) rfl (by rw [e9]; rfl) (by decide) rfl (fun ls hl => ?_)
          refine lv_goto (tgt := 10) E.1 E.2.1 dX7_execute_70 (by decide) ?_
          exact ih _ _ _ _ _ hf h (lv_sub hl [2, 0] rfl)
        · subst e9
          obtain ⟨hk5, hf⟩ := xif13_in hg
          refine lv_astore_n (lv' := [(2, .ref (tE.1 k5)), (0, .ref (ad 0)), (1, .int m1)]) E.1 E.2.1 dX7_execute_27 rfl hl (by decide) rfl (fun ls hl => ?_)
          refine lv_aload_n E.1 E.2.1 dX7_execute_28 rfl (lv_at hl 0 rfl) ?_
          refine lv_ifnull E.1 E.2.1 dX7_execute_29 ?_
          refine lv_aload_n E.1 E.2.1 dX7_execute_32 rfl (lv_at hl 1 rfl) ?_
          refine lv_aload_n E.1 E.2.1 dX7_execute_33 rfl (lv_at hl 0 rfl) ?_
          refine x_callp E h hl 0 hf (fun r0 hr => c_X7_isRefused l D cy s00 _ hG hEn hk5 S4  r0 hr) m_X7_isRefused rfl rfl kw602 rfl rfl (Nat.le_of_ble_eq_true rfl) ⟨by decide, by decide⟩ ⟨Nat.zero_le _, Nat.zero_le _⟩ dX7_execute_34 (fun v7 H locs hf h => ?_)
          refine x_br hf (lv_if_eq (tgt := 48) E.1 E.2.1 dX7_execute_37 (by decide)) (fun hf => ?_) (fun hf => ?_)
          · refine lv_aload_n E.1 E.2.1 dX7_execute_48 rfl (lv_at hl 0 rfl) ?_
            refine lv_ifnull E.1 E.2.1 dX7_execute_49 ?_
            refine lv_aload_n E.1 E.2.1 dX7_execute_52 rfl (lv_at hl 1 rfl) ?_
            refine lv_dup E.1 E.2.1 dX7_execute_53 rfl ?_
            refine x_get E h 0 6 rfl rfl rfl (by decide) xinX7 kw323 dX7_execute_54 ?_
            refine lv_iconst (v := 1) E.1 E.2.1 dX7_execute_57 (by decide) ?_
            refine lv_iadd E.1 E.2.1 dX7_execute_58 ?_
            refine x_put (ty := .int) E h 0 6 hf rfl rfl rfl (by decide) xinX7 tyX7_ok nmX7 kw323 rfl (by decide +kernel) rfl rfl dX7_execute_59 (fun S8 H locs hf h => ?_)
            refine lv_aload_n E.1 E.2.1 dX7_execute_62 rfl (lv_at hl 1 rfl) ?_
            refine lv_aload_n E.1 E.2.1 dX7_execute_63 rfl (lv_at hl 0 rfl) ?_
            refine x_callv E h hl 0 hf (fun r0 hr => c_X7_apply l D cy s00 _ hG hEn hk5 S8  r0 hr) m_X7_apply rfl rfl kw674 rfl rfl (Nat.le_of_ble_eq_true rfl) ⟨by decide, by decide⟩ ⟨Nat.zero_le _, Nat.zero_le _⟩ dX7_execute_64 (fun S9 H locs hf h => ?_)
            refine x_nv hf (fun v10 e9 hf => ?_)
            refine lv_iinc (v := v10) (lv' := [(1, .int v10), (2, .ref (tE.1 k5)), (0, .ref (ad 0))]) E.1 E.2.1 dX7_execute_67 hl (k := 2) rfl (by rw [e9]; rfl) (by decide) rfl (fun ls hl => ?_)
            refine lv_goto (tgt := 10) E.1 E.2.1 dX7_execute_70 (by decide) ?_
            exact ih _ _ _ _ _ hf h (lv_sub hl [2, 0] rfl)
          · refine lv_aload_n E.1 E.2.1 dX7_execute_40 rfl (lv_at hl 1 rfl) ?_
            refine lv_iconst (v := 3) E.1 E.2.1 dX7_execute_41 (by decide) ?_
            refine x_callv E h hl 0 hf (fun r0 hr => c_X7_fail l D cy s00 _ S4 3 r0 hr) m_X7_fail rfl rfl kw555 rfl rfl (Nat.le_of_ble_eq_true rfl) ⟨by decide, by decide⟩ ⟨Nat.zero_le _, Nat.zero_le _⟩ dX7_execute_42 (fun S11 H locs hf h => ?_)
            refine lv_goto (tgt := 67) E.1 E.2.1 dX7_execute_45 (by decide) ?_
            refine x_nv hf (fun v12 e9 hf => ?_)
            refine lv_iinc (v := v12) (lv' := [(1, .int v12), (2, .ref (tE.1 k5)), (0, .ref (ad 0))]) E.1 E.2.1 dX7_execute_67 hl (k := 2) rfl (by rw [e9]; rfl) (by decide) rfl (fun ls hl => ?_)
            refine lv_goto (tgt := 10) E.1 E.2.1 dX7_execute_70 (by decide) ?_
            exact ih _ _ _ _ _ hf h (lv_sub hl [2, 0] rfl)
set_option maxHeartbeats 4000000 in
set_option maxRecDepth 100000 in
theorem c_X7_execute (l : Launch) (D : va_G) (cy : Nat → ClassId) (s00 : State) (ad : Nat → Nat) (hG : XG s00) {tE : xEnT} (hEn : XEn s00 tE) (S : XS) (S9 : XS) (hf : f_X7_execute S = some S9) : XV l yX7_execute cX7_execute 3 none 7 D cy s00 shScr ad S [.ref (ad 0)] S9 := by
  refine XV.of (by decide) [(0, .ref (ad 0))] rfl (Nat.le_of_ble_eq_true rfl) (fun p e s m args below meth c A ls E h hl => ?_)
  unfold f_X7_execute at hf
  refine lv_aload_n E.1 E.2.1 dX7_execute_0 rfl (lv_at hl 0 rfl) ?_
  refine x_callv E h hl 0 hf (fun r0 hr => c_X7_begin l D cy s00 _ S  r0 hr) m_X7_begin rfl rfl kw466 rfl rfl (Nat.le_of_ble_eq_true rfl) ⟨by decide, by decide⟩ ⟨Nat.zero_le _, Nat.zero_le _⟩ dX7_execute_1 (fun S1 H locs hf h => ?_)
  refine lv_aload_n E.1 E.2.1 dX7_execute_4 rfl (lv_at hl 0 rfl) ?_
  refine x_callv E h hl 0 hf (fun r0 hr => c_X7_readHead l D cy s00 _ hG S1  r0 hr) m_X7_readHead rfl rfl kw482 rfl rfl (Nat.le_of_ble_eq_true rfl) ⟨by decide, by decide⟩ ⟨Nat.zero_le _, Nat.zero_le _⟩ dX7_execute_5 (fun S2 H locs hf h => ?_)
  refine lv_iconst (v := 0) E.1 E.2.1 dX7_execute_8 (by decide) ?_
  refine lv_istore_n (lv' := [(1, .int 0), (0, .ref (ad 0))]) E.1 E.2.1 dX7_execute_9 rfl hl (by decide) rfl (fun ls hl => ?_)
  refine w_X7_execute_L10 hG hEn E ?_ _ _ _ _ _ _ hf h (lv_sub hl [1, 0] rfl)
  intro v13 S14 H locs ls hf h hl
  exact x_vret E h hf dX7_execute_73
set_option maxHeartbeats 4000000 in
set_option maxRecDepth 100000 in
theorem c_X2_remember (l : Launch) (D : va_G) (cy : Nat → ClassId) (s00 : State) (ad : Nat → Nat) (S : XS) (S9 : XS) (hf : f_X2_remember S = some S9) : XV l yX2_remember cX2_remember 2 none 3 D cy s00 shHistRoof ad S [.ref (ad 0), .ref (ad 106)] S9 := by
  refine XV.of (by decide) [(0, .ref (ad 0)), (1, .ref (ad 106))] rfl (Nat.le_of_ble_eq_true rfl) (fun p e s m args below meth c A ls E h hl => ?_)
  unfold f_X2_remember at hf
  refine lv_aload_n E.1 E.2.1 dX2_remember_0 rfl (lv_at hl 0 rfl) ?_
  refine x_getr E h 0 0 1 rfl rfl rfl (by decide) xinX2 kw263 dX2_remember_1 ?_
  refine lv_aload_n E.1 E.2.1 dX2_remember_4 rfl (lv_at hl 0 rfl) ?_
  refine x_get E h 0 1 rfl rfl rfl (by decide) xinX2 kw264 dX2_remember_5 ?_
  refine lv_aload_n E.1 E.2.1 dX2_remember_8 rfl (lv_at hl 0 rfl) ?_
  refine x_get E h 0 2 rfl rfl rfl (by decide) xinX2 kw265 dX2_remember_9 ?_
  refine lv_iadd E.1 E.2.1 dX2_remember_12 ?_
  refine lv_bipush (v := 8) E.1 E.2.1 dX2_remember_13 (by decide) ?_
  refine lv_irem E.1 E.2.1 dX2_remember_15 (by decide) ?_
  refine x_pald E h hf dX2_remember_16 (fun j1 hj1 hf => ?_)
  refine lv_aload_n E.1 E.2.1 dX2_remember_17 rfl (lv_at hl 1 rfl) ?_
  refine x_callFv (σ := xσ (2 + 13 * j1) 13 106) (τ := xτ (2 + 13 * j1) 13 106 13) E h hl (2 + 13 * j1) hf (xsub_hr1 _ hj1) (xinv_two (by omega)) (fun r0 hr => c_X6_copyFrom l D cy s00 _ _ r0 hr) m_X6_copyFrom (xhs_hr _ hj1) rfl kw719 rfl rfl (Nat.le_of_ble_eq_true rfl) ⟨by decide, by decide⟩ ⟨Nat.zero_le _, Nat.zero_le _⟩ dX2_remember_18 (fun S2 H locs hf h => ?_)
  refine lv_aload_n E.1 E.2.1 dX2_remember_21 rfl (lv_at hl 0 rfl) ?_
  refine x_get E h 0 2 rfl rfl rfl (by decide) xinX2 kw265 dX2_remember_22 ?_
  refine lv_bipush (v := 8) E.1 E.2.1 dX2_remember_25 (by decide) ?_
  refine x_br hf (lv_icmp_ge (tgt := 43) E.1 E.2.1 dX2_remember_27 (by decide)) (fun hf => ?_) (fun hf => ?_)
  · refine lv_aload_n E.1 E.2.1 dX2_remember_43 rfl (lv_at hl 0 rfl) ?_
    refine lv_aload_n E.1 E.2.1 dX2_remember_44 rfl (lv_at hl 0 rfl) ?_
    refine x_get E h 0 1 rfl rfl rfl (by decide) xinX2 kw264 dX2_remember_45 ?_
    refine lv_iconst (v := 1) E.1 E.2.1 dX2_remember_48 (by decide) ?_
    refine lv_iadd E.1 E.2.1 dX2_remember_49 ?_
    refine lv_bipush (v := 8) E.1 E.2.1 dX2_remember_50 (by decide) ?_
    refine lv_irem E.1 E.2.1 dX2_remember_52 (by decide) ?_
    refine x_put (ty := .int) E h 0 1 hf rfl rfl rfl (by decide) xinX2 tyX2_ok nmX2 kw264 rfl (by decide +kernel) rfl rfl dX2_remember_53 (fun S3 H locs hf h => ?_)
    exact x_vret E h hf dX2_remember_56
  · refine lv_aload_n E.1 E.2.1 dX2_remember_30 rfl (lv_at hl 0 rfl) ?_
    refine lv_dup E.1 E.2.1 dX2_remember_31 rfl ?_
    refine x_get E h 0 2 rfl rfl rfl (by decide) xinX2 kw265 dX2_remember_32 ?_
    refine lv_iconst (v := 1) E.1 E.2.1 dX2_remember_35 (by decide) ?_
    refine lv_iadd E.1 E.2.1 dX2_remember_36 ?_
    refine x_put (ty := .int) E h 0 2 hf rfl rfl rfl (by decide) xinX2 tyX2_ok nmX2 kw265 rfl (by decide +kernel) rfl rfl dX2_remember_37 (fun S4 H locs hf h => ?_)
    refine lv_goto (tgt := 56) E.1 E.2.1 dX2_remember_40 (by decide) ?_
    exact x_vret E h hf dX2_remember_56
set_option maxHeartbeats 4000000 in
set_option maxRecDepth 100000 in
theorem c_X2_takeBack (l : Launch) (D : va_G) (cy : Nat → ClassId) (s00 : State) (ad : Nat → Nat) (S : XS) (S9 : XS) (hf : f_X2_takeBack S = some S9) : XV l yX2_takeBack cX2_takeBack 2 none 3 D cy s00 shHistRoof ad S [.ref (ad 0), .ref (ad 106)] S9 := by
  refine XV.of (by decide) [(0, .ref (ad 0)), (1, .ref (ad 106))] rfl (Nat.le_of_ble_eq_true rfl) (fun p e s m args below meth c A ls E h hl => ?_)
  unfold f_X2_takeBack at hf
  refine lv_aload_n E.1 E.2.1 dX2_takeBack_0 rfl (lv_at hl 0 rfl) ?_
  refine x_get E h 0 2 rfl rfl rfl (by decide) xinX2 kw265 dX2_takeBack_1 ?_
  refine x_br hf (lv_if_le (tgt := 38) E.1 E.2.1 dX2_takeBack_4 (by decide)) (fun hf => ?_) (fun hf => ?_)
  · exact x_vret E h hf dX2_takeBack_38
  · refine lv_aload_n E.1 E.2.1 dX2_takeBack_7 rfl (lv_at hl 0 rfl) ?_
    refine lv_dup E.1 E.2.1 dX2_takeBack_8 rfl ?_
    refine x_get E h 0 2 rfl rfl rfl (by decide) xinX2 kw265 dX2_takeBack_9 ?_
    refine lv_iconst (v := 1) E.1 E.2.1 dX2_takeBack_12 (by decide) ?_
    refine lv_isub E.1 E.2.1 dX2_takeBack_13 ?_
    refine x_put (ty := .int) E h 0 2 hf rfl rfl rfl (by decide) xinX2 tyX2_ok nmX2 kw265 rfl (by decide +kernel) rfl rfl dX2_takeBack_14 (fun S1 H locs hf h => ?_)
    refine lv_aload_n E.1 E.2.1 dX2_takeBack_17 rfl (lv_at hl 1 rfl) ?_
    refine lv_aload_n E.1 E.2.1 dX2_takeBack_18 rfl (lv_at hl 0 rfl) ?_
    refine x_getr E h 0 0 1 rfl rfl rfl (by decide) xinX2 kw263 dX2_takeBack_19 ?_
    refine lv_aload_n E.1 E.2.1 dX2_takeBack_22 rfl (lv_at hl 0 rfl) ?_
    refine x_get E h 0 1 rfl rfl rfl (by decide) xinX2 kw264 dX2_takeBack_23 ?_
    refine lv_aload_n E.1 E.2.1 dX2_takeBack_26 rfl (lv_at hl 0 rfl) ?_
    refine x_get E h 0 2 rfl rfl rfl (by decide) xinX2 kw265 dX2_takeBack_27 ?_
    refine lv_iadd E.1 E.2.1 dX2_takeBack_30 ?_
    refine lv_bipush (v := 8) E.1 E.2.1 dX2_takeBack_31 (by decide) ?_
    refine lv_irem E.1 E.2.1 dX2_takeBack_33 (by decide) ?_
    refine x_pald E h hf dX2_takeBack_34 (fun j2 hj2 hf => ?_)
    refine x_callFv (σ := xσ 106 13 (2 + 13 * j2)) (τ := xτ 106 13 (2 + 13 * j2) 13) E h hl 106 hf (xsub_hr2 _ hj2) (xinv_two (by omega)) (fun r0 hr => c_X6_copyFrom l D cy s00 _ _ r0 hr) m_X6_copyFrom rfl rfl kw719 rfl rfl (Nat.le_of_ble_eq_true rfl) ⟨by decide, by decide⟩ ⟨Nat.zero_le _, Nat.zero_le _⟩ dX2_takeBack_35 (fun S3 H locs hf h => ?_)
    exact x_vret E h hf dX2_takeBack_38
set_option maxHeartbeats 4000000 in
set_option maxRecDepth 100000 in
theorem c_X2_forget (l : Launch) (D : va_G) (cy : Nat → ClassId) (s00 : State) (ad : Nat → Nat) (S : XS) (S9 : XS) (hf : f_X2_forget S = some S9) : XV l yX2_forget cX2_forget 1 none 0 D cy s00 shHist ad S [.ref (ad 0)] S9 := by
  refine XV.of (by decide) [(0, .ref (ad 0))] rfl (Nat.le_of_ble_eq_true rfl) (fun p e s m args below meth c A ls E h hl => ?_)
  unfold f_X2_forget at hf
  refine lv_aload_n E.1 E.2.1 dX2_forget_0 rfl (lv_at hl 0 rfl) ?_
  refine lv_iconst (v := 0) E.1 E.2.1 dX2_forget_1 (by decide) ?_
  refine x_put (ty := .int) E h 0 2 hf rfl rfl rfl (by decide) xinX2 tyX2_ok nmX2 kw265 rfl (by decide +kernel) rfl rfl dX2_forget_2 (fun S1 H locs hf h => ?_)
  exact x_vret E h hf dX2_forget_5
set_option maxHeartbeats 4000000 in
set_option maxRecDepth 100000 in
theorem c_X5_put (l : Launch) (D : va_G) (cy : Nat → ClassId) (s00 : State) (ad : Nat → Nat) (S : XS) (p0 : Int32) (S9 : XS) (hf : f_X5_put S p0 = some S9) : XV l yX5_put cX5_put 2 none 0 D cy s00 shRep ad S [.ref (ad 0), .int p0] S9 := by
  refine XV.of (by decide) [(0, .ref (ad 0)), (1, .int p0)] rfl (Nat.le_of_ble_eq_true rfl) (fun p e s m args below meth c A ls E h hl => ?_)
  unfold f_X5_put at hf
  refine lv_aload_n E.1 E.2.1 dX5_put_0 rfl (lv_at hl 0 rfl) ?_
  refine x_get E h 0 1 rfl rfl rfl (by decide) xinX5 kw356 dX5_put_1 ?_
  refine lv_bipush (v := 59) E.1 E.2.1 dX5_put_4 (by decide) ?_
  refine x_br hf (lv_icmp_ge (tgt := 30) E.1 E.2.1 dX5_put_6 (by decide)) (fun hf => ?_) (fun hf => ?_)
  · exact x_vret E h hf dX5_put_30
  · refine lv_aload_n E.1 E.2.1 dX5_put_9 rfl (lv_at hl 0 rfl) ?_
    refine x_getr E h 0 0 1 rfl rfl rfl (by decide) xinX5 kw354 dX5_put_10 ?_
    refine lv_aload_n E.1 E.2.1 dX5_put_13 rfl (lv_at hl 0 rfl) ?_
    refine x_get E h 0 1 rfl rfl rfl (by decide) xinX5 kw356 dX5_put_14 ?_
    refine lv_iload_n E.1 E.2.1 dX5_put_17 rfl (lv_at hl 1 rfl) ?_
    refine lv_i2b E.1 E.2.1 dX5_put_18 rfl ?_
    refine x_bast E h 1 hf rfl dX5_put_19 (fun S1 H locs hf h => ?_)
    refine lv_aload_n E.1 E.2.1 dX5_put_20 rfl (lv_at hl 0 rfl) ?_
    refine lv_dup E.1 E.2.1 dX5_put_21 rfl ?_
    refine x_get E h 0 1 rfl rfl rfl (by decide) xinX5 kw356 dX5_put_22 ?_
    refine lv_iconst (v := 1) E.1 E.2.1 dX5_put_25 (by decide) ?_
    refine lv_iadd E.1 E.2.1 dX5_put_26 ?_
    refine x_put (ty := .int) E h 0 1 hf rfl rfl rfl (by decide) xinX5 tyX5_ok nmX5 kw356 rfl (by decide +kernel) rfl rfl dX5_put_27 (fun S3 H locs hf h => ?_)
    exact x_vret E h hf dX5_put_30
set_option maxHeartbeats 4000000 in
set_option maxRecDepth 100000 in
theorem c_X5_putCat (l : Launch) (D : va_G) (cy : Nat → ClassId) (s00 : State) (ad : Nat → Nat) (S : XS) (p0 p1 : Int32) (S9 : XS) (hf : f_X5_putCat S p0 p1 = some S9) : XV l yX5_putCat cX5_putCat 3 none 1 D cy s00 shRep ad S [.ref (ad 0), .int p0, .int p1] S9 := by
  refine XV.of (by decide) [(0, .ref (ad 0)), (1, .int p0), (2, .int p1)] rfl (Nat.le_of_ble_eq_true rfl) (fun p e s m args below meth c A ls E h hl => ?_)
  unfold f_X5_putCat at hf
  refine lv_iload_n E.1 E.2.1 dX5_putCat_0 rfl (lv_at hl 2 rfl) ?_
  refine lv_iconst (v := (-1)) E.1 E.2.1 dX5_putCat_1 (by decide) ?_
  refine x_br hf (lv_icmp_eq (tgt := 18) E.1 E.2.1 dX5_putCat_2 (by decide)) (fun hf => ?_) (fun hf => ?_)
  · exact x_vret E h hf dX5_putCat_18
  · refine lv_aload_n E.1 E.2.1 dX5_putCat_5 rfl (lv_at hl 0 rfl) ?_
    refine lv_iload_n E.1 E.2.1 dX5_putCat_6 rfl (lv_at hl 1 rfl) ?_
    refine x_callv E h hl 0 hf (fun r0 hr => c_X5_put l D cy s00 _ S p0 r0 hr) m_X5_put rfl rfl kw856 rfl rfl (Nat.le_of_ble_eq_true rfl) ⟨by decide, by decide⟩ ⟨Nat.zero_le _, Nat.zero_le _⟩ dX5_putCat_7 (fun S1 H locs hf h => ?_)
    refine lv_aload_n E.1 E.2.1 dX5_putCat_10 rfl (lv_at hl 0 rfl) ?_
    refine lv_bipush (v := 48) E.1 E.2.1 dX5_putCat_11 (by decide) ?_
    refine lv_iload_n E.1 E.2.1 dX5_putCat_13 rfl (lv_at hl 2 rfl) ?_
    refine lv_iadd E.1 E.2.1 dX5_putCat_14 ?_
    refine x_callv E h hl 0 hf (fun r0 hr => c_X5_put l D cy s00 _ S1 (48 + p1) r0 hr) m_X5_put rfl rfl kw856 rfl rfl (Nat.le_of_ble_eq_true rfl) ⟨by decide, by decide⟩ ⟨Nat.zero_le _, Nat.zero_le _⟩ dX5_putCat_15 (fun S2 H locs hf h => ?_)
    exact x_vret E h hf dX5_putCat_18
set_option maxHeartbeats 4000000 in
set_option maxRecDepth 100000 in
theorem w_X5_write_L7 {p : Program} {l : Launch} {e : Env} {s : State} {m : MethodId} {args : Array Value} {below : List Frame} {meth : Method} {c : Code} {D : va_G} {cy : Nat → ClassId} {s00 : State} {ad : Nat → Nat} {A : Nat → Prop}  {S9 : XS}  {K : Int32 → XS → Option (XS)} (E : XE p s m args meth c cX5_write 3 RX5 none D cy s00) (hk : ∀ (m2 : Int32) (S1 : XS) (H : Heap) (locs : List Loc) (ls : Array Slot), K m2 S1 = some S9 → XH D cy s00 shRepRoof ad S1 A s H locs → lv_has ls 3 [(0, .ref (ad 0)), (1, .ref (ad 2)), (2, .int m2)] → W p l e (xrm 2) s m args below meth c H locs 0 0 (MQ below (xqv D cy shRepRoof ad S9 A) args s 0 0 A) (F0 m 67 ls [])) :
    ∀ (n : Nat) (m2 : Int32) (S : XS) (H : Heap) (locs : List Loc) (ls : Array Slot), f_X5_write_L7 K n m2 S = some S9 → XH D cy s00 shRepRoof ad S A s H locs → lv_has ls 3 [(0, .ref (ad 0)), (1, .ref (ad 2)), (2, .int m2)] → W p l e (xrm 2) s m args below meth c H locs 0 0 (MQ below (xqv D cy shRepRoof ad S9 A) args s 0 0 A) (F0 m 7 ls []) := by
  intro n
  induction n with
  | zero => intro m2 S H locs ls hf; cases hf
  | succ n ih =>
    intro m2 S H locs ls hf h hl
    rw [f_X5_write_L7] at hf
    refine lv_iload_n E.1 E.2.1 dX5_write_7 rfl (lv_at hl 2 rfl) ?_
    refine lv_aload_n E.1 E.2.1 dX5_write_8 rfl (lv_at hl 1 rfl) ?_
    refine x_get E h 2 0 rfl rfl rfl (by decide) xinX6 kw183 dX5_write_9 ?_
    refine x_br hf (lv_icmp_ge (tgt := 67) E.1 E.2.1 dX5_write_12 (by decide)) (fun hf => ?_) (fun hf => ?_)
    · exact hk _ _ _ _ _ hf h (lv_sub hl [0, 1, 2] rfl)
    · refine lv_iload_n E.1 E.2.1 dX5_write_15 rfl (lv_at hl 2 rfl) ?_
      refine x_br hf (lv_if_le (tgt := 25) E.1 E.2.1 dX5_write_16 (by decide)) (fun hf => ?_) (fun hf => ?_)
      · refine lv_aload_n E.1 E.2.1 dX5_write_25 rfl (lv_at hl 0 rfl) ?_
        refine lv_bipush (v := 48) E.1 E.2.1 dX5_write_26 (by decide) ?_
        refine lv_aload_n E.1 E.2.1 dX5_write_28 rfl (lv_at hl 1 rfl) ?_
        refine x_getr E h 2 1 3 rfl rfl rfl (by decide) xinX6 kw187 dX5_write_29 ?_
        refine lv_iload_n E.1 E.2.1 dX5_write_32 rfl (lv_at hl 2 rfl) ?_
        refine x_iald E h 3 hf rfl dX5_write_33 (fun v2 hf => ?_)
        refine lv_iadd E.1 E.2.1 dX5_write_34 ?_
        refine x_callov E h hl 0 0 hf (xsub_of rfl) (fun r0 hr => c_X5_put l D cy s00 _ (xs 0 S) (48 + v2) r0 hr) m_X5_put rfl rfl kw856 rfl rfl (Nat.le_of_ble_eq_true rfl) ⟨by decide, by decide⟩ ⟨Nat.zero_le _, Nat.zero_le _⟩ dX5_write_35 (fun S3 H locs hf h => ?_)
        refine lv_aload_n E.1 E.2.1 dX5_write_38 rfl (lv_at hl 0 rfl) ?_
        refine lv_bipush (v := 99) E.1 E.2.1 dX5_write_39 (by decide) ?_
        refine lv_aload_n E.1 E.2.1 dX5_write_41 rfl (lv_at hl 1 rfl) ?_
        refine lv_iload_n E.1 E.2.1 dX5_write_42 rfl (lv_at hl 2 rfl) ?_
        refine x_callop E h hl 2 2 hf (xsub_of rfl) (fun r0 hr => c_X6_sitter l D cy s00 _ (xs 2 S3) m2 r0 hr) m_X6_sitter rfl rfl kw860 rfl rfl (Nat.le_of_ble_eq_true rfl) ⟨by decide, by decide⟩ ⟨Nat.zero_le _, Nat.zero_le _⟩ dX5_write_43 (fun v4 H locs hf h => ?_)
        refine x_callov E h hl 0 0 hf (xsub_of rfl) (fun r0 hr => c_X5_putCat l D cy s00 _ (xs 0 S3) 99 v4 r0 hr) m_X5_putCat rfl rfl kw861 rfl rfl (Nat.le_of_ble_eq_true rfl) ⟨by decide, by decide⟩ ⟨Nat.zero_le _, Nat.zero_le _⟩ dX5_write_46 (fun S5 H locs hf h => ?_)
        refine lv_aload_n E.1 E.2.1 dX5_write_49 rfl (lv_at hl 0 rfl) ?_
        refine lv_bipush (v := 111) E.1 E.2.1 dX5_write_50 (by decide) ?_
        refine lv_aload_n E.1 E.2.1 dX5_write_52 rfl (lv_at hl 1 rfl) ?_
        refine x_getr E h 2 2 4 rfl rfl rfl (by decide) xinX6 kw190 dX5_write_53 ?_
        refine lv_iload_n E.1 E.2.1 dX5_write_56 rfl (lv_at hl 2 rfl) ?_
        refine x_iald E h 4 hf rfl dX5_write_57 (fun v6 hf => ?_)
        refine x_callov E h hl 0 0 hf (xsub_of rfl) (fun r0 hr => c_X5_putCat l D cy s00 _ (xs 0 S5) 111 v6 r0 hr) m_X5_putCat rfl rfl kw861 rfl rfl (Nat.le_of_ble_eq_true rfl) ⟨by decide, by decide⟩ ⟨Nat.zero_le _, Nat.zero_le _⟩ dX5_write_58 (fun S7 H locs hf h => ?_)
        refine x_nv hf (fun v8 e9 hf => ?_)
        refine lv_iinc (v := v8) (lv' := [(2, .int v8), (0, .ref (ad 0)), (1, .ref (ad 2))]) E.1 E.2.1 dX5_write_61 hl (k := 2) rfl (by rw [e9]; rfl) (by decide) rfl (fun ls hl => ?_)
        refine lv_goto (tgt := 7) E.1 E.2.1 dX5_write_64 (by decide) ?_
        exact ih _ _ _ _ _ hf h (lv_sub hl [1, 2, 0] rfl)
      · refine lv_aload_n E.1 E.2.1 dX5_write_19 rfl (lv_at hl 0 rfl) ?_
        refine lv_bipush (v := 32) E.1 E.2.1 dX5_write_20 (by decide) ?_
        refine x_callov E h hl 0 0 hf (xsub_of rfl) (fun r0 hr => c_X5_put l D cy s00 _ (xs 0 S) 32 r0 hr) m_X5_put rfl rfl kw856 rfl rfl (Nat.le_of_ble_eq_true rfl) ⟨by decide, by decide⟩ ⟨Nat.zero_le _, Nat.zero_le _⟩ dX5_write_22 (fun S9 H locs hf h => ?_)
        refine lv_aload_n E.1 E.2.1 dX5_write_25 rfl (lv_at hl 0 rfl) ?_
        refine lv_bipush (v := 48) E.1 E.2.1 dX5_write_26 (by decide) ?_
        refine lv_aload_n E.1 E.2.1 dX5_write_28 rfl (lv_at hl 1 rfl) ?_
        refine x_getr E h 2 1 3 rfl rfl rfl (by decide) xinX6 kw187 dX5_write_29 ?_
        refine lv_iload_n E.1 E.2.1 dX5_write_32 rfl (lv_at hl 2 rfl) ?_
        refine x_iald E h 3 hf rfl dX5_write_33 (fun v10 hf => ?_)
        refine lv_iadd E.1 E.2.1 dX5_write_34 ?_
        refine x_callov E h hl 0 0 hf (xsub_of rfl) (fun r0 hr => c_X5_put l D cy s00 _ (xs 0 S9) (48 + v10) r0 hr) m_X5_put rfl rfl kw856 rfl rfl (Nat.le_of_ble_eq_true rfl) ⟨by decide, by decide⟩ ⟨Nat.zero_le _, Nat.zero_le _⟩ dX5_write_35 (fun S11 H locs hf h => ?_)
        refine lv_aload_n E.1 E.2.1 dX5_write_38 rfl (lv_at hl 0 rfl) ?_
        refine lv_bipush (v := 99) E.1 E.2.1 dX5_write_39 (by decide) ?_
        refine lv_aload_n E.1 E.2.1 dX5_write_41 rfl (lv_at hl 1 rfl) ?_
        refine lv_iload_n E.1 E.2.1 dX5_write_42 rfl (lv_at hl 2 rfl) ?_
        refine x_callop E h hl 2 2 hf (xsub_of rfl) (fun r0 hr => c_X6_sitter l D cy s00 _ (xs 2 S11) m2 r0 hr) m_X6_sitter rfl rfl kw860 rfl rfl (Nat.le_of_ble_eq_true rfl) ⟨by decide, by decide⟩ ⟨Nat.zero_le _, Nat.zero_le _⟩ dX5_write_43 (fun v12 H locs hf h => ?_)
        refine x_callov E h hl 0 0 hf (xsub_of rfl) (fun r0 hr => c_X5_putCat l D cy s00 _ (xs 0 S11) 99 v12 r0 hr) m_X5_putCat rfl rfl kw861 rfl rfl (Nat.le_of_ble_eq_true rfl) ⟨by decide, by decide⟩ ⟨Nat.zero_le _, Nat.zero_le _⟩ dX5_write_46 (fun S13 H locs hf h => ?_)
        refine lv_aload_n E.1 E.2.1 dX5_write_49 rfl (lv_at hl 0 rfl) ?_
        refine lv_bipush (v := 111) E.1 E.2.1 dX5_write_50 (by decide) ?_
        refine lv_aload_n E.1 E.2.1 dX5_write_52 rfl (lv_at hl 1 rfl) ?_
        refine x_getr E h 2 2 4 rfl rfl rfl (by decide) xinX6 kw190 dX5_write_53 ?_
        refine lv_iload_n E.1 E.2.1 dX5_write_56 rfl (lv_at hl 2 rfl) ?_
        refine x_iald E h 4 hf rfl dX5_write_57 (fun v14 hf => ?_)
        refine x_callov E h hl 0 0 hf (xsub_of rfl) (fun r0 hr => c_X5_putCat l D cy s00 _ (xs 0 S13) 111 v14 r0 hr) m_X5_putCat rfl rfl kw861 rfl rfl (Nat.le_of_ble_eq_true rfl) ⟨by decide, by decide⟩ ⟨Nat.zero_le _, Nat.zero_le _⟩ dX5_write_58 (fun S15 H locs hf h => ?_)
        refine x_nv hf (fun v16 e9 hf => ?_)
        refine lv_iinc (v := v16) (lv' := [(2, .int v16), (0, .ref (ad 0)), (1, .ref (ad 2))]) E.1 E.2.1 dX5_write_61 hl (k := 2) rfl (by rw [e9]; rfl) (by decide) rfl (fun ls hl => ?_)
        refine lv_goto (tgt := 7) E.1 E.2.1 dX5_write_64 (by decide) ?_
        exact ih _ _ _ _ _ hf h (lv_sub hl [1, 2, 0] rfl)
set_option maxHeartbeats 4000000 in
set_option maxRecDepth 100000 in
theorem c_X5_write (l : Launch) (D : va_G) (cy : Nat → ClassId) (s00 : State) (ad : Nat → Nat) (S : XS) (S9 : XS) (hf : f_X5_write S = some S9) : XV l yX5_write cX5_write 3 none 2 D cy s00 shRepRoof ad S [.ref (ad 0), .ref (ad 2)] S9 := by
  refine XV.of (by decide) [(0, .ref (ad 0)), (1, .ref (ad 2))] rfl (Nat.le_of_ble_eq_true rfl) (fun p e s m args below meth c A ls E h hl => ?_)
  unfold f_X5_write at hf
  refine lv_aload_n E.1 E.2.1 dX5_write_0 rfl (lv_at hl 0 rfl) ?_
  refine lv_iconst (v := 0) E.1 E.2.1 dX5_write_1 (by decide) ?_
  refine x_put (ty := .int) E h 0 1 hf rfl rfl rfl (by decide) xinX5 tyX5_ok nmX5 kw356 rfl (by decide +kernel) rfl rfl dX5_write_2 (fun S1 H locs hf h => ?_)
  refine lv_iconst (v := 0) E.1 E.2.1 dX5_write_5 (by decide) ?_
  refine lv_istore_n (lv' := [(2, .int 0), (0, .ref (ad 0)), (1, .ref (ad 2))]) E.1 E.2.1 dX5_write_6 rfl hl (by decide) rfl (fun ls hl => ?_)
  refine w_X5_write_L7 E ?_ _ _ _ _ _ _ hf h (lv_sub hl [1, 2, 0] rfl)
  intro v17 S18 H locs ls hf h hl
  exact x_vret E h hf dX5_write_67
