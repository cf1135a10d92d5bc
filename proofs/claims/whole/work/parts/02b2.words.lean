/-! the words, by their places -/
set_option maxRecDepth 20000 in
theorem mw_503 : Cond.fieldLink RX3 22 "ScanForgeModel" "seen" "[Z" ∈ gw_all := gw_in (k := 503) (by decide +kernel) (by decide +kernel)
set_option maxRecDepth 20000 in
theorem mw_504 : Cond.fieldLink RX3 25 "ScanForgeModel" "guarded" "[Z" ∈ gw_all := gw_in (k := 504) (by decide +kernel) (by decide +kernel)
set_option maxRecDepth 20000 in
theorem mw_505 : Cond.fieldLink RX3 28 "ScanForgeModel" "had" "[Z" ∈ gw_all := gw_in (k := 505) (by decide +kernel) (by decide +kernel)
set_option maxRecDepth 20000 in
theorem mw_506 : Cond.fieldLink RX3 31 "ScanForgeModel" "now" "[Z" ∈ gw_all := gw_in (k := 506) (by decide +kernel) (by decide +kernel)
set_option maxRecDepth 20000 in
theorem mw_507 : Cond.fieldLink RX3 34 "ScanForgeModel" "register" "[D" ∈ gw_all := gw_in (k := 507) (by decide +kernel) (by decide +kernel)
set_option maxRecDepth 20000 in
theorem mw_508 : Cond.fieldLink RX3 38 "ScanForgeModel" "amount" "[D" ∈ gw_all := gw_in (k := 508) (by decide +kernel) (by decide +kernel)
set_option maxRecDepth 20000 in
theorem mw_509 : Cond.fieldLink RX3 41 "ScanForgeModel" "sum" "[D" ∈ gw_all := gw_in (k := 509) (by decide +kernel) (by decide +kernel)
set_option maxRecDepth 20000 in
theorem mw_510 : Cond.fieldLink RX3 44 "ScanForgeModel" "last" "[D" ∈ gw_all := gw_in (k := 510) (by decide +kernel) (by decide +kernel)
set_option maxRecDepth 20000 in
theorem mw_511 : Cond.fieldLink RX3 47 "ScanForgeModel" "kind" "[I" ∈ gw_all := gw_in (k := 511) (by decide +kernel) (by decide +kernel)
set_option maxRecDepth 20000 in
theorem mw_512 : Cond.fieldLink RX3 51 "ScanForgeModel" "of" "[I" ∈ gw_all := gw_in (k := 512) (by decide +kernel) (by decide +kernel)
set_option maxRecDepth 20000 in
theorem mw_513 : Cond.fieldLink RX3 54 "ScanForgeModel" "coil" "[I" ∈ gw_all := gw_in (k := 513) (by decide +kernel) (by decide +kernel)
set_option maxRecDepth 20000 in
theorem mw_514 : Cond.fieldLink RX3 57 "ScanForgeModel" "coilOf" "[I" ∈ gw_all := gw_in (k := 514) (by decide +kernel) (by decide +kernel)
set_option maxRecDepth 20000 in
theorem mw_515 : Cond.fieldLink RX3 60 "ScanForgeModel" "block" "[I" ∈ gw_all := gw_in (k := 515) (by decide +kernel) (by decide +kernel)
set_option maxRecDepth 20000 in
theorem mw_516 : Cond.fieldLink RX3 63 "ScanForgeModel" "first" "[I" ∈ gw_all := gw_in (k := 516) (by decide +kernel) (by decide +kernel)
set_option maxRecDepth 20000 in
theorem mw_517 : Cond.fieldLink RX3 66 "ScanForgeModel" "second" "[I" ∈ gw_all := gw_in (k := 517) (by decide +kernel) (by decide +kernel)
set_option maxRecDepth 20000 in
theorem mw_518 : Cond.fieldLink RX3 69 "ScanForgeModel" "third" "[I" ∈ gw_all := gw_in (k := 518) (by decide +kernel) (by decide +kernel)
set_option maxRecDepth 20000 in
theorem mw_519 : Cond.fieldLink RX3 72 "ScanForgeModel" "counted" "[I" ∈ gw_all := gw_in (k := 519) (by decide +kernel) (by decide +kernel)
set_option maxRecDepth 20000 in
theorem mw_520 : Cond.fieldLink RX3 75 "ScanForgeModel" "runs" "[I" ∈ gw_all := gw_in (k := 520) (by decide +kernel) (by decide +kernel)
set_option maxRecDepth 20000 in
theorem mw_521 : Cond.fieldLink RX3 78 "ScanForgeModel" "faults" "[I" ∈ gw_all := gw_in (k := 521) (by decide +kernel) (by decide +kernel)
set_option maxRecDepth 20000 in
theorem mw_522 : Cond.fieldLink RX3 145 "ScanForgeModel" "scans" "I" ∈ gw_all := gw_in (k := 522) (by decide +kernel) (by decide +kernel)
set_option maxRecDepth 20000 in
theorem mw_523 : Cond.fieldLink RX3 127 "ScanForgeModel" "all" "I" ∈ gw_all := gw_in (k := 523) (by decide +kernel) (by decide +kernel)
set_option maxRecDepth 20000 in
theorem mw_524 : Cond.fieldLink RX3 85 "ScanForgeModel" "thrown" "I" ∈ gw_all := gw_in (k := 524) (by decide +kernel) (by decide +kernel)
set_option maxRecDepth 20000 in
theorem mw_525 : Cond.fieldLink RX3 81 "ScanForgeModel" "by" "I" ∈ gw_all := gw_in (k := 525) (by decide +kernel) (by decide +kernel)
set_option maxRecDepth 20000 in
theorem mw_526 : Cond.fieldLink RX3 130 "ScanForgeModel" "halted" "Z" ∈ gw_all := gw_in (k := 526) (by decide +kernel) (by decide +kernel)
set_option maxRecDepth 20000 in
theorem mw_584 : Cond.methodLink RL 77 yX3_thrown ∈ gw_all := gw_in (k := 584) (by decide +kernel) (by decide +kernel)
set_option maxRecDepth 20000 in
theorem mw_585 : Cond.instanceMethod yX3_thrown ∈ gw_all := gw_in (k := 585) (by decide +kernel) (by decide +kernel)
set_option maxRecDepth 20000 in
theorem mw_586 : Cond.selects RX3 yX3_thrown yX3_thrown ∈ gw_all := gw_in (k := 586) (by decide +kernel) (by decide +kernel)
set_option maxRecDepth 20000 in
theorem mw_587 : Cond.code yX3_thrown prog_5_method_2_code 1 (some .int) ∈ gw_all := gw_in (k := 587) (by decide +kernel) (by decide +kernel)
set_option maxRecDepth 20000 in
theorem mw_588 : Cond.methodLink RL 76 yX3_cell ∈ gw_all := gw_in (k := 588) (by decide +kernel) (by decide +kernel)
set_option maxRecDepth 20000 in
theorem mw_589 : Cond.instanceMethod yX3_cell ∈ gw_all := gw_in (k := 589) (by decide +kernel) (by decide +kernel)
set_option maxRecDepth 20000 in
theorem mw_590 : Cond.selects RX3 yX3_cell yX3_cell ∈ gw_all := gw_in (k := 590) (by decide +kernel) (by decide +kernel)
set_option maxRecDepth 20000 in
theorem mw_591 : Cond.code yX3_cell prog_5_method_6_code 8 (some .int) ∈ gw_all := gw_in (k := 591) (by decide +kernel) (by decide +kernel)
set_option maxRecDepth 20000 in
theorem mw_592 : Cond.methodLink RX3 88 yX3_in ∈ gw_all := gw_in (k := 592) (by decide +kernel) (by decide +kernel)
set_option maxRecDepth 20000 in
theorem mw_593 : Cond.static yX3_in ∈ gw_all := gw_in (k := 593) (by decide +kernel) (by decide +kernel)
set_option maxRecDepth 20000 in
theorem mw_594 : Cond.code yX3_in prog_5_method_3_code 3 (some .boolean) ∈ gw_all := gw_in (k := 594) (by decide +kernel) (by decide +kernel)
set_option maxRecDepth 20000 in
theorem mw_595 : Cond.methodLink RX3 92 yX3_fail ∈ gw_all := gw_in (k := 595) (by decide +kernel) (by decide +kernel)
set_option maxRecDepth 20000 in
theorem mw_597 : Cond.instanceMethod yX3_fail ∈ gw_all := gw_in (k := 597) (by decide +kernel) (by decide +kernel)
set_option maxRecDepth 20000 in
theorem mw_598 : Cond.code yX3_fail prog_5_method_4_code 2 (some .int) ∈ gw_all := gw_in (k := 598) (by decide +kernel) (by decide +kernel)
set_option maxRecDepth 20000 in
theorem mw_599 : Cond.methodLink RX3 96 yX3_at ∈ gw_all := gw_in (k := 599) (by decide +kernel) (by decide +kernel)
set_option maxRecDepth 20000 in
theorem mw_600 : Cond.static yX3_at ∈ gw_all := gw_in (k := 600) (by decide +kernel) (by decide +kernel)
set_option maxRecDepth 20000 in
theorem mw_601 : Cond.code yX3_at prog_5_method_5_code 3 (some .int) ∈ gw_all := gw_in (k := 601) (by decide +kernel) (by decide +kernel)
set_option maxRecDepth 20000 in
theorem mw_602 : Cond.methodLink RL 84 yX3_link ∈ gw_all := gw_in (k := 602) (by decide +kernel) (by decide +kernel)
set_option maxRecDepth 20000 in
theorem mw_603 : Cond.instanceMethod yX3_link ∈ gw_all := gw_in (k := 603) (by decide +kernel) (by decide +kernel)
set_option maxRecDepth 20000 in
theorem mw_604 : Cond.selects RX3 yX3_link yX3_link ∈ gw_all := gw_in (k := 604) (by decide +kernel) (by decide +kernel)
set_option maxRecDepth 20000 in
theorem mw_605 : Cond.code yX3_link prog_5_method_7_code 7 (some .boolean) ∈ gw_all := gw_in (k := 605) (by decide +kernel) (by decide +kernel)
set_option maxRecDepth 20000 in
theorem mw_606 : Cond.methodLink RL 88 yX3_coil ∈ gw_all := gw_in (k := 606) (by decide +kernel) (by decide +kernel)
set_option maxRecDepth 20000 in
theorem mw_607 : Cond.instanceMethod yX3_coil ∈ gw_all := gw_in (k := 607) (by decide +kernel) (by decide +kernel)
set_option maxRecDepth 20000 in
theorem mw_608 : Cond.selects RX3 yX3_coil yX3_coil ∈ gw_all := gw_in (k := 608) (by decide +kernel) (by decide +kernel)
set_option maxRecDepth 20000 in
theorem mw_609 : Cond.code yX3_coil prog_5_method_8_code 6 (some .int) ∈ gw_all := gw_in (k := 609) (by decide +kernel) (by decide +kernel)
set_option maxRecDepth 20000 in
theorem mw_610 : Cond.methodLink RL 94 yX3_block ∈ gw_all := gw_in (k := 610) (by decide +kernel) (by decide +kernel)
set_option maxRecDepth 20000 in
theorem mw_611 : Cond.instanceMethod yX3_block ∈ gw_all := gw_in (k := 611) (by decide +kernel) (by decide +kernel)
set_option maxRecDepth 20000 in
theorem mw_612 : Cond.selects RX3 yX3_block yX3_block ∈ gw_all := gw_in (k := 612) (by decide +kernel) (by decide +kernel)
set_option maxRecDepth 20000 in
theorem mw_613 : Cond.code yX3_block prog_5_method_11_code 10 (some .int) ∈ gw_all := gw_in (k := 613) (by decide +kernel) (by decide +kernel)
set_option maxRecDepth 20000 in
theorem mw_614 : Cond.methodLink RX3 108 yX3_fits ∈ gw_all := gw_in (k := 614) (by decide +kernel) (by decide +kernel)
set_option maxRecDepth 20000 in
theorem mw_615 : Cond.static yX3_fits ∈ gw_all := gw_in (k := 615) (by decide +kernel) (by decide +kernel)
set_option maxRecDepth 20000 in
theorem mw_616 : Cond.code yX3_fits prog_5_method_10_code 6 (some .boolean) ∈ gw_all := gw_in (k := 616) (by decide +kernel) (by decide +kernel)
set_option maxRecDepth 20000 in
theorem mw_617 : Cond.constantDouble RX3 100 4652007308841189376 ∈ gw_all := gw_in (k := 617) (by decide +kernel) (by decide +kernel)
set_option maxRecDepth 20000 in
theorem mw_618 : Cond.methodLink RX3 102 yX3_isRegister ∈ gw_all := gw_in (k := 618) (by decide +kernel) (by decide +kernel)
set_option maxRecDepth 20000 in
theorem mw_619 : Cond.static yX3_isRegister ∈ gw_all := gw_in (k := 619) (by decide +kernel) (by decide +kernel)
set_option maxRecDepth 20000 in
theorem mw_620 : Cond.code yX3_isRegister prog_5_method_9_code 1 (some .boolean) ∈ gw_all := gw_in (k := 620) (by decide +kernel) (by decide +kernel)
set_option maxRecDepth 20000 in
theorem mw_621 : Cond.constantDouble RX3 106 13875379345695965184 ∈ gw_all := gw_in (k := 621) (by decide +kernel) (by decide +kernel)
set_option maxRecDepth 20000 in
theorem mw_622 : Cond.methodLink RL 98 yX3_guard ∈ gw_all := gw_in (k := 622) (by decide +kernel) (by decide +kernel)
set_option maxRecDepth 20000 in
theorem mw_623 : Cond.instanceMethod yX3_guard ∈ gw_all := gw_in (k := 623) (by decide +kernel) (by decide +kernel)
set_option maxRecDepth 20000 in
theorem mw_624 : Cond.selects RX3 yX3_guard yX3_guard ∈ gw_all := gw_in (k := 624) (by decide +kernel) (by decide +kernel)
set_option maxRecDepth 20000 in
theorem mw_625 : Cond.code yX3_guard prog_5_method_12_code 4 (some .boolean) ∈ gw_all := gw_in (k := 625) (by decide +kernel) (by decide +kernel)
set_option maxRecDepth 20000 in
theorem mw_626 : Cond.methodLink RL 101 yX3_input ∈ gw_all := gw_in (k := 626) (by decide +kernel) (by decide +kernel)
set_option maxRecDepth 20000 in
theorem mw_627 : Cond.instanceMethod yX3_input ∈ gw_all := gw_in (k := 627) (by decide +kernel) (by decide +kernel)
set_option maxRecDepth 20000 in
theorem mw_628 : Cond.selects RX3 yX3_input yX3_input ∈ gw_all := gw_in (k := 628) (by decide +kernel) (by decide +kernel)
set_option maxRecDepth 20000 in
theorem mw_629 : Cond.code yX3_input prog_5_method_13_code 4 (some .boolean) ∈ gw_all := gw_in (k := 629) (by decide +kernel) (by decide +kernel)
set_option maxRecDepth 20000 in
theorem mw_630 : Cond.methodLink RL 105 yX3_set ∈ gw_all := gw_in (k := 630) (by decide +kernel) (by decide +kernel)
set_option maxRecDepth 20000 in
theorem mw_631 : Cond.instanceMethod yX3_set ∈ gw_all := gw_in (k := 631) (by decide +kernel) (by decide +kernel)
set_option maxRecDepth 20000 in
theorem mw_632 : Cond.selects RX3 yX3_set yX3_set ∈ gw_all := gw_in (k := 632) (by decide +kernel) (by decide +kernel)
set_option maxRecDepth 20000 in
theorem mw_633 : Cond.code yX3_set prog_5_method_14_code 6 (some .double) ∈ gw_all := gw_in (k := 633) (by decide +kernel) (by decide +kernel)
set_option maxRecDepth 20000 in
theorem mw_634 : Cond.constantDouble RX3 112 4786511204640096256 ∈ gw_all := gw_in (k := 634) (by decide +kernel) (by decide +kernel)
set_option maxRecDepth 20000 in
theorem mw_635 : Cond.constantDouble RX3 114 14009883241494872064 ∈ gw_all := gw_in (k := 635) (by decide +kernel) (by decide +kernel)
set_option maxRecDepth 20000 in
theorem mw_636 : Cond.methodLink RL 109 yX3_scan ∈ gw_all := gw_in (k := 636) (by decide +kernel) (by decide +kernel)
set_option maxRecDepth 20000 in
theorem mw_637 : Cond.instanceMethod yX3_scan ∈ gw_all := gw_in (k := 637) (by decide +kernel) (by decide +kernel)
set_option maxRecDepth 20000 in
theorem mw_638 : Cond.selects RX3 yX3_scan yX3_scan ∈ gw_all := gw_in (k := 638) (by decide +kernel) (by decide +kernel)
set_option maxRecDepth 20000 in
theorem mw_639 : Cond.code yX3_scan prog_5_method_21_code 4 (some .int) ∈ gw_all := gw_in (k := 639) (by decide +kernel) (by decide +kernel)
set_option maxRecDepth 20000 in
theorem mw_640 : Cond.methodLink RX3 148 yX3_rung ∈ gw_all := gw_in (k := 640) (by decide +kernel) (by decide +kernel)
set_option maxRecDepth 20000 in
theorem mw_642 : Cond.instanceMethod yX3_rung ∈ gw_all := gw_in (k := 642) (by decide +kernel) (by decide +kernel)
set_option maxRecDepth 20000 in
theorem mw_643 : Cond.code yX3_rung prog_5_method_20_code 6 (some .boolean) ∈ gw_all := gw_in (k := 643) (by decide +kernel) (by decide +kernel)
set_option maxRecDepth 20000 in
theorem mw_644 : Cond.methodLink RX3 137 yX3_column ∈ gw_all := gw_in (k := 644) (by decide +kernel) (by decide +kernel)
set_option maxRecDepth 20000 in
theorem mw_646 : Cond.instanceMethod yX3_column ∈ gw_all := gw_in (k := 646) (by decide +kernel) (by decide +kernel)
set_option maxRecDepth 20000 in
theorem mw_647 : Cond.code yX3_column prog_5_method_19_code 6 none ∈ gw_all := gw_in (k := 647) (by decide +kernel) (by decide +kernel)
set_option maxRecDepth 20000 in
theorem mw_648 : Cond.methodLink RX3 134 yX3_conducts ∈ gw_all := gw_in (k := 648) (by decide +kernel) (by decide +kernel)
set_option maxRecDepth 20000 in
theorem mw_650 : Cond.instanceMethod yX3_conducts ∈ gw_all := gw_in (k := 650) (by decide +kernel) (by decide +kernel)
set_option maxRecDepth 20000 in
theorem mw_651 : Cond.code yX3_conducts prog_5_method_18_code 4 (some .boolean) ∈ gw_all := gw_in (k := 651) (by decide +kernel) (by decide +kernel)
set_option maxRecDepth 20000 in
theorem mw_652 : Cond.methodLink RX3 141 yX3_perform ∈ gw_all := gw_in (k := 652) (by decide +kernel) (by decide +kernel)
set_option maxRecDepth 20000 in
theorem mw_654 : Cond.instanceMethod yX3_perform ∈ gw_all := gw_in (k := 654) (by decide +kernel) (by decide +kernel)
set_option maxRecDepth 20000 in
theorem mw_655 : Cond.code yX3_perform prog_5_method_17_code 6 (some .boolean) ∈ gw_all := gw_in (k := 655) (by decide +kernel) (by decide +kernel)
set_option maxRecDepth 20000 in
theorem mw_656 : Cond.methodLink RX3 120 yX3_tally ∈ gw_all := gw_in (k := 656) (by decide +kernel) (by decide +kernel)
set_option maxRecDepth 20000 in
theorem mw_658 : Cond.instanceMethod yX3_tally ∈ gw_all := gw_in (k := 658) (by decide +kernel) (by decide +kernel)
set_option maxRecDepth 20000 in
theorem mw_659 : Cond.code yX3_tally prog_5_method_16_code 3 none ∈ gw_all := gw_in (k := 659) (by decide +kernel) (by decide +kernel)
set_option maxRecDepth 20000 in
theorem mw_660 : Cond.methodLink RX3 124 yX3_reckon ∈ gw_all := gw_in (k := 660) (by decide +kernel) (by decide +kernel)
set_option maxRecDepth 20000 in
theorem mw_662 : Cond.instanceMethod yX3_reckon ∈ gw_all := gw_in (k := 662) (by decide +kernel) (by decide +kernel)
set_option maxRecDepth 20000 in
theorem mw_663 : Cond.code yX3_reckon prog_5_method_15_code 12 (some .boolean) ∈ gw_all := gw_in (k := 663) (by decide +kernel) (by decide +kernel)
set_option maxRecDepth 20000 in
theorem mw_664 : Cond.constantDouble RX3 116 4593671619917905920 ∈ gw_all := gw_in (k := 664) (by decide +kernel) (by decide +kernel)
set_option maxRecDepth 20000 in
theorem mw_665 : Cond.constantDouble RX3 118 4602678819172646912 ∈ gw_all := gw_in (k := 665) (by decide +kernel) (by decide +kernel)
set_option maxRecDepth 20000 in
theorem mw_666 : Cond.methodLink RL 113 yX3_resume ∈ gw_all := gw_in (k := 666) (by decide +kernel) (by decide +kernel)
set_option maxRecDepth 20000 in
theorem mw_667 : Cond.instanceMethod yX3_resume ∈ gw_all := gw_in (k := 667) (by decide +kernel) (by decide +kernel)
set_option maxRecDepth 20000 in
theorem mw_668 : Cond.selects RX3 yX3_resume yX3_resume ∈ gw_all := gw_in (k := 668) (by decide +kernel) (by decide +kernel)
set_option maxRecDepth 20000 in
theorem mw_669 : Cond.code yX3_resume prog_5_method_22_code 2 (some .int) ∈ gw_all := gw_in (k := 669) (by decide +kernel) (by decide +kernel)
set_option maxRecDepth 20000 in
theorem mw_670 : Cond.methodLink RL 116 yX3_bit ∈ gw_all := gw_in (k := 670) (by decide +kernel) (by decide +kernel)
set_option maxRecDepth 20000 in
theorem mw_671 : Cond.instanceMethod yX3_bit ∈ gw_all := gw_in (k := 671) (by decide +kernel) (by decide +kernel)
set_option maxRecDepth 20000 in
theorem mw_672 : Cond.selects RX3 yX3_bit yX3_bit ∈ gw_all := gw_in (k := 672) (by decide +kernel) (by decide +kernel)
set_option maxRecDepth 20000 in
theorem mw_673 : Cond.code yX3_bit prog_5_method_23_code 2 (some .boolean) ∈ gw_all := gw_in (k := 673) (by decide +kernel) (by decide +kernel)
set_option maxRecDepth 20000 in
theorem mw_674 : Cond.methodLink RL 120 yX3_register ∈ gw_all := gw_in (k := 674) (by decide +kernel) (by decide +kernel)
set_option maxRecDepth 20000 in
theorem mw_675 : Cond.instanceMethod yX3_register ∈ gw_all := gw_in (k := 675) (by decide +kernel) (by decide +kernel)
set_option maxRecDepth 20000 in
theorem mw_676 : Cond.selects RX3 yX3_register yX3_register ∈ gw_all := gw_in (k := 676) (by decide +kernel) (by decide +kernel)
set_option maxRecDepth 20000 in
theorem mw_677 : Cond.code yX3_register prog_5_method_24_code 2 (some .double) ∈ gw_all := gw_in (k := 677) (by decide +kernel) (by decide +kernel)
set_option maxRecDepth 20000 in
theorem mw_678 : Cond.methodLink RL 124 yX3_power ∈ gw_all := gw_in (k := 678) (by decide +kernel) (by decide +kernel)
set_option maxRecDepth 20000 in
theorem mw_679 : Cond.instanceMethod yX3_power ∈ gw_all := gw_in (k := 679) (by decide +kernel) (by decide +kernel)
set_option maxRecDepth 20000 in
theorem mw_680 : Cond.selects RX3 yX3_power yX3_power ∈ gw_all := gw_in (k := 680) (by decide +kernel) (by decide +kernel)
set_option maxRecDepth 20000 in
theorem mw_681 : Cond.code yX3_power prog_5_method_25_code 4 (some .boolean) ∈ gw_all := gw_in (k := 681) (by decide +kernel) (by decide +kernel)
set_option maxRecDepth 20000 in
theorem mw_682 : Cond.methodLink RL 128 yX3_told ∈ gw_all := gw_in (k := 682) (by decide +kernel) (by decide +kernel)
set_option maxRecDepth 20000 in
theorem mw_683 : Cond.instanceMethod yX3_told ∈ gw_all := gw_in (k := 683) (by decide +kernel) (by decide +kernel)
set_option maxRecDepth 20000 in
theorem mw_684 : Cond.selects RX3 yX3_told yX3_told ∈ gw_all := gw_in (k := 684) (by decide +kernel) (by decide +kernel)
set_option maxRecDepth 20000 in
theorem mw_685 : Cond.code yX3_told prog_5_method_26_code 3 (some .int) ∈ gw_all := gw_in (k := 685) (by decide +kernel) (by decide +kernel)
set_option maxRecDepth 20000 in
theorem mw_686 : Cond.methodLink RL 131 yX3_count ∈ gw_all := gw_in (k := 686) (by decide +kernel) (by decide +kernel)
set_option maxRecDepth 20000 in
theorem mw_687 : Cond.instanceMethod yX3_count ∈ gw_all := gw_in (k := 687) (by decide +kernel) (by decide +kernel)
set_option maxRecDepth 20000 in
theorem mw_688 : Cond.selects RX3 yX3_count yX3_count ∈ gw_all := gw_in (k := 688) (by decide +kernel) (by decide +kernel)
set_option maxRecDepth 20000 in
theorem mw_689 : Cond.code yX3_count prog_5_method_27_code 4 (some .int) ∈ gw_all := gw_in (k := 689) (by decide +kernel) (by decide +kernel)
set_option maxRecDepth 20000 in
theorem mw_690 : Cond.constantDouble RL 89 4593671619917905920 ∈ gw_all := gw_in (k := 690) (by decide +kernel) (by decide +kernel)
set_option maxRecDepth 20000 in
theorem mw_691 : Cond.arrayClass .long ∈ gw_all := gw_in (k := 691) (by decide +kernel) (by decide +kernel)
set_option maxRecDepth 20000 in
theorem mw_1 : Cond.selects RX2 yX2_isHalted yX2_isHalted ∈ gw_all := gw_in (k := 1) (by decide +kernel) (by decide +kernel)
set_option maxRecDepth 20000 in
theorem mw_2 : Cond.selects RX2 yX2_scanOnce yX2_scanOnce ∈ gw_all := gw_in (k := 2) (by decide +kernel) (by decide +kernel)
set_option maxRecDepth 20000 in
theorem mw_3 : Cond.selects RX1 yX1_lookAtCell yX1_lookAtCell ∈ gw_all := gw_in (k := 3) (by decide +kernel) (by decide +kernel)
set_option maxRecDepth 20000 in
theorem mw_4 : Cond.selects RX1 yX1_join yX1_join ∈ gw_all := gw_in (k := 4) (by decide +kernel) (by decide +kernel)
set_option maxRecDepth 20000 in
theorem mw_5 : Cond.selects RX2 yX2_drive yX2_drive ∈ gw_all := gw_in (k := 5) (by decide +kernel) (by decide +kernel)
set_option maxRecDepth 20000 in
theorem mw_6 : Cond.selects RX0 yX0_delay yX0_delay ∈ gw_all := gw_in (k := 6) (by decide +kernel) (by decide +kernel)
set_option maxRecDepth 20000 in
theorem mw_7 : Cond.selects RX0 yX0_countRuns yX0_countRuns ∈ gw_all := gw_in (k := 7) (by decide +kernel) (by decide +kernel)
set_option maxRecDepth 20000 in
theorem mw_8 : Cond.selects RX0 yX0_regulate yX0_regulate ∈ gw_all := gw_in (k := 8) (by decide +kernel) (by decide +kernel)
set_option maxRecDepth 20000 in
theorem mw_9 : Cond.selects RX0 yX0_keep yX0_keep ∈ gw_all := gw_in (k := 9) (by decide +kernel) (by decide +kernel)
set_option maxRecDepth 20000 in
theorem mw_10 : Cond.selects RX0 yX0_calculate yX0_calculate ∈ gw_all := gw_in (k := 10) (by decide +kernel) (by decide +kernel)
set_option maxRecDepth 20000 in
theorem mw_11 : Cond.selects RX2 yX2_takeFault yX2_takeFault ∈ gw_all := gw_in (k := 11) (by decide +kernel) (by decide +kernel)
set_option maxRecDepth 20000 in
theorem mw_12 : Cond.selects RX2 yX2_bitsOn yX2_bitsOn ∈ gw_all := gw_in (k := 12) (by decide +kernel) (by decide +kernel)
set_option maxRecDepth 20000 in
theorem mw_13 : Cond.selects RX3 yX3_fail yX3_fail ∈ gw_all := gw_in (k := 13) (by decide +kernel) (by decide +kernel)
set_option maxRecDepth 20000 in
theorem mw_14 : Cond.selects RX3 yX3_rung yX3_rung ∈ gw_all := gw_in (k := 14) (by decide +kernel) (by decide +kernel)
set_option maxRecDepth 20000 in
theorem mw_15 : Cond.selects RX3 yX3_column yX3_column ∈ gw_all := gw_in (k := 15) (by decide +kernel) (by decide +kernel)
set_option maxRecDepth 20000 in
theorem mw_16 : Cond.selects RX3 yX3_conducts yX3_conducts ∈ gw_all := gw_in (k := 16) (by decide +kernel) (by decide +kernel)
set_option maxRecDepth 20000 in
theorem mw_17 : Cond.selects RX3 yX3_perform yX3_perform ∈ gw_all := gw_in (k := 17) (by decide +kernel) (by decide +kernel)
set_option maxRecDepth 20000 in
theorem mw_18 : Cond.selects RX3 yX3_tally yX3_tally ∈ gw_all := gw_in (k := 18) (by decide +kernel) (by decide +kernel)
set_option maxRecDepth 20000 in
theorem mw_19 : Cond.selects RX3 yX3_reckon yX3_reckon ∈ gw_all := gw_in (k := 19) (by decide +kernel) (by decide +kernel)
set_option maxRecDepth 20000 in
theorem in_X0 : ∀ w ∈ u_ws RX0 TX0 12, w ∈ gw_all := by decide +kernel
set_option maxRecDepth 20000 in
theorem in_X1 : ∀ w ∈ u_ws RX1 TX1 7, w ∈ gw_all := by decide +kernel
set_option maxRecDepth 20000 in
theorem in_X2 : ∀ w ∈ u_ws RX2 TX2 7, w ∈ gw_all := by decide +kernel
set_option maxRecDepth 20000 in
theorem in_X3 : ∀ w ∈ u_ws RX3 TX3 28, w ∈ gw_all := by decide +kernel
