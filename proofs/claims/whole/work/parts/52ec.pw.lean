set_option maxRecDepth 100000 in
theorem pw_563 : (.code yX7_held cX7_held 4 (some .int) : Cond) ∈ lw_tbl := List.mem_of_getElem? (i := 563) rfl
set_option maxRecDepth 100000 in
theorem pw_564 : Cond.methodLink RL 106 yX7_wind ∈ lw_tbl := List.mem_of_getElem? (i := 564) rfl
set_option maxRecDepth 100000 in
theorem pw_565 : Cond.instanceMethod yX7_wind ∈ lw_tbl := List.mem_of_getElem? (i := 565) rfl
set_option maxRecDepth 100000 in
theorem pw_566 : Cond.selects RX7 yX7_wind yX7_wind ∈ lw_tbl := List.mem_of_getElem? (i := 566) rfl
set_option maxRecDepth 100000 in
theorem pw_567 : (.code yX7_wind cX7_wind 3 (some .int) : Cond) ∈ lw_tbl := List.mem_of_getElem? (i := 567) rfl
set_option maxRecDepth 100000 in
theorem pw_568 : Cond.methodLink RX7 202 yX4_meetsZeroOf ∈ lw_tbl := List.mem_of_getElem? (i := 568) rfl
set_option maxRecDepth 100000 in
theorem pw_569 : Cond.instanceMethod yX4_meetsZeroOf ∈ lw_tbl := List.mem_of_getElem? (i := 569) rfl
set_option maxRecDepth 100000 in
theorem pw_570 : Cond.selects RX4 yX4_meetsZeroOf yX4_meetsZeroOf ∈ lw_tbl := List.mem_of_getElem? (i := 570) rfl
set_option maxRecDepth 100000 in
theorem pw_571 : Cond.code yX4_meetsZeroOf cX4_meetsZeroOf 4 (some .boolean) ∈ lw_tbl := List.mem_of_getElem? (i := 571) rfl
set_option maxRecDepth 100000 in
theorem pw_572 : Cond.methodLink RX4 93 yX4_zerosOnPiece ∈ lw_tbl := List.mem_of_getElem? (i := 572) rfl
set_option maxRecDepth 100000 in
theorem pw_573 : Cond.methodLink RX4 96 yX4_signAtRootOf ∈ lw_tbl := List.mem_of_getElem? (i := 573) rfl
set_option maxRecDepth 100000 in
theorem pw_574 : Cond.instanceMethod yX4_signAtRootOf ∈ lw_tbl := List.mem_of_getElem? (i := 574) rfl
set_option maxRecDepth 100000 in
theorem pw_575 : Cond.selects RX4 yX4_signAtRootOf yX4_signAtRootOf ∈ lw_tbl := List.mem_of_getElem? (i := 575) rfl
set_option maxRecDepth 100000 in
theorem pw_576 : Cond.code yX4_signAtRootOf cX4_signAtRootOf 3 (some .int) ∈ lw_tbl := List.mem_of_getElem? (i := 576) rfl
set_option maxRecDepth 100000 in
theorem pw_577 : Cond.constant RX7 206 (-1000007) ∈ lw_tbl := List.mem_of_getElem? (i := 577) rfl
set_option maxRecDepth 100000 in
theorem pw_578 : Cond.methodLink RX7 207 yX4_upwardCrossings ∈ lw_tbl := List.mem_of_getElem? (i := 578) rfl
set_option maxRecDepth 100000 in
theorem pw_579 : Cond.instanceMethod yX4_upwardCrossings ∈ lw_tbl := List.mem_of_getElem? (i := 579) rfl
set_option maxRecDepth 100000 in
theorem pw_580 : Cond.selects RX4 yX4_upwardCrossings yX4_upwardCrossings ∈ lw_tbl := List.mem_of_getElem? (i := 580) rfl
set_option maxRecDepth 100000 in
theorem pw_581 : Cond.code yX4_upwardCrossings cX4_upwardCrossings 5 (some .int) ∈ lw_tbl := List.mem_of_getElem? (i := 581) rfl
set_option maxRecDepth 100000 in
theorem pw_582 : Cond.methodLink RX4 103 yX4_signBeforeRoot ∈ lw_tbl := List.mem_of_getElem? (i := 582) rfl
set_option maxRecDepth 100000 in
theorem pw_583 : Cond.instanceMethod yX4_signBeforeRoot ∈ lw_tbl := List.mem_of_getElem? (i := 583) rfl
set_option maxRecDepth 100000 in
theorem pw_584 : Cond.selects RX4 yX4_signBeforeRoot yX4_signBeforeRoot ∈ lw_tbl := List.mem_of_getElem? (i := 584) rfl
set_option maxRecDepth 100000 in
theorem pw_585 : Cond.code yX4_signBeforeRoot cX4_signBeforeRoot 3 (some .int) ∈ lw_tbl := List.mem_of_getElem? (i := 585) rfl
set_option maxRecDepth 100000 in
theorem pw_586 : Cond.methodLink RX4 100 yX4_signAfterRoot ∈ lw_tbl := List.mem_of_getElem? (i := 586) rfl
set_option maxRecDepth 100000 in
theorem pw_587 : Cond.instanceMethod yX4_signAfterRoot ∈ lw_tbl := List.mem_of_getElem? (i := 587) rfl
set_option maxRecDepth 100000 in
theorem pw_588 : Cond.selects RX4 yX4_signAfterRoot yX4_signAfterRoot ∈ lw_tbl := List.mem_of_getElem? (i := 588) rfl
set_option maxRecDepth 100000 in
theorem pw_589 : Cond.code yX4_signAfterRoot cX4_signAfterRoot 2 (some .int) ∈ lw_tbl := List.mem_of_getElem? (i := 589) rfl
set_option maxRecDepth 100000 in
theorem pw_590 : Cond.methodLink RL 110 yX7_indexes ∈ lw_tbl := List.mem_of_getElem? (i := 590) rfl
set_option maxRecDepth 100000 in
theorem pw_591 : Cond.instanceMethod yX7_indexes ∈ lw_tbl := List.mem_of_getElem? (i := 591) rfl
set_option maxRecDepth 100000 in
theorem pw_592 : Cond.selects RX7 yX7_indexes yX7_indexes ∈ lw_tbl := List.mem_of_getElem? (i := 592) rfl
set_option maxRecDepth 100000 in
theorem pw_593 : (.code yX7_indexes cX7_indexes 5 (some .int) : Cond) ∈ lw_tbl := List.mem_of_getElem? (i := 593) rfl
set_option maxRecDepth 100000 in
theorem pw_594 : Cond.methodLink RL 114 yX7_along ∈ lw_tbl := List.mem_of_getElem? (i := 594) rfl
set_option maxRecDepth 100000 in
theorem pw_595 : Cond.instanceMethod yX7_along ∈ lw_tbl := List.mem_of_getElem? (i := 595) rfl
set_option maxRecDepth 100000 in
theorem pw_596 : Cond.selects RX7 yX7_along yX7_along ∈ lw_tbl := List.mem_of_getElem? (i := 596) rfl
set_option maxRecDepth 100000 in
theorem pw_597 : (.code yX7_along cX7_along 7 (some .int) : Cond) ∈ lw_tbl := List.mem_of_getElem? (i := 597) rfl
set_option maxRecDepth 100000 in
theorem pw_598 : Cond.methodLink RX7 211 yX7_isSum ∈ lw_tbl := List.mem_of_getElem? (i := 598) rfl
set_option maxRecDepth 100000 in
theorem pw_599 : Cond.static yX7_isSum ∈ lw_tbl := List.mem_of_getElem? (i := 599) rfl
set_option maxRecDepth 100000 in
theorem pw_600 : Cond.code yX7_isSum cX7_isSum 5 (some .boolean) ∈ lw_tbl := List.mem_of_getElem? (i := 600) rfl
set_option maxRecDepth 100000 in
theorem pw_601 : Cond.methodLink RX7 215 yX7_clearChange ∈ lw_tbl := List.mem_of_getElem? (i := 601) rfl
set_option maxRecDepth 100000 in
theorem pw_603 : Cond.instanceMethod yX7_clearChange ∈ lw_tbl := List.mem_of_getElem? (i := 603) rfl
set_option maxRecDepth 100000 in
theorem pw_604 : Cond.code yX7_clearChange cX7_clearChange 2 none ∈ lw_tbl := List.mem_of_getElem? (i := 604) rfl
set_option maxRecDepth 100000 in
theorem pw_605 : Cond.methodLink RX7 218 yX7_addChange ∈ lw_tbl := List.mem_of_getElem? (i := 605) rfl
set_option maxRecDepth 100000 in
theorem pw_607 : Cond.instanceMethod yX7_addChange ∈ lw_tbl := List.mem_of_getElem? (i := 607) rfl
set_option maxRecDepth 100000 in
theorem pw_608 : Cond.code yX7_addChange cX7_addChange 7 none ∈ lw_tbl := List.mem_of_getElem? (i := 608) rfl
set_option maxRecDepth 100000 in
theorem pw_609 : Cond.fieldLink RX7 326 "FlowPlane" "TIMES_X" "[I" ∈ lw_tbl := List.mem_of_getElem? (i := 609) rfl
set_option maxRecDepth 100000 in
theorem pw_611 : Cond.fieldLink RX7 329 "FlowPlane" "TIMES_Y" "[I" ∈ lw_tbl := List.mem_of_getElem? (i := 611) rfl
set_option maxRecDepth 100000 in
theorem pw_613 : Cond.methodLink RL 119 yX7_falls ∈ lw_tbl := List.mem_of_getElem? (i := 613) rfl
set_option maxRecDepth 100000 in
theorem pw_614 : Cond.instanceMethod yX7_falls ∈ lw_tbl := List.mem_of_getElem? (i := 614) rfl
set_option maxRecDepth 100000 in
theorem pw_615 : Cond.selects RX7 yX7_falls yX7_falls ∈ lw_tbl := List.mem_of_getElem? (i := 615) rfl
set_option maxRecDepth 100000 in
theorem pw_616 : (.code yX7_falls cX7_falls 10 (some .int) : Cond) ∈ lw_tbl := List.mem_of_getElem? (i := 616) rfl
set_option maxRecDepth 100000 in
theorem pw_617 : Cond.methodLink RL 124 yX7_kept ∈ lw_tbl := List.mem_of_getElem? (i := 617) rfl
set_option maxRecDepth 100000 in
theorem pw_618 : Cond.instanceMethod yX7_kept ∈ lw_tbl := List.mem_of_getElem? (i := 618) rfl
set_option maxRecDepth 100000 in
theorem pw_619 : Cond.selects RX7 yX7_kept yX7_kept ∈ lw_tbl := List.mem_of_getElem? (i := 619) rfl
set_option maxRecDepth 100000 in
theorem pw_620 : (.code yX7_kept cX7_kept 2 (some .int) : Cond) ∈ lw_tbl := List.mem_of_getElem? (i := 620) rfl
set_option maxRecDepth 100000 in
theorem pw_621 : Cond.methodLink RX7 222 yX7_oneIf ∈ lw_tbl := List.mem_of_getElem? (i := 621) rfl
set_option maxRecDepth 100000 in
theorem pw_622 : Cond.static yX7_oneIf ∈ lw_tbl := List.mem_of_getElem? (i := 622) rfl
set_option maxRecDepth 100000 in
theorem pw_623 : Cond.code yX7_oneIf cX7_oneIf 1 (some .int) ∈ lw_tbl := List.mem_of_getElem? (i := 623) rfl
set_option maxRecDepth 100000 in
theorem pw_624 : Cond.methodLink RX7 226 yX6_fillRow ∈ lw_tbl := List.mem_of_getElem? (i := 624) rfl
set_option maxRecDepth 100000 in
theorem pw_625 : Cond.instanceMethod yX6_fillRow ∈ lw_tbl := List.mem_of_getElem? (i := 625) rfl
set_option maxRecDepth 100000 in
theorem pw_626 : Cond.selects RX6 yX6_fillRow yX6_fillRow ∈ lw_tbl := List.mem_of_getElem? (i := 626) rfl
set_option maxRecDepth 100000 in
theorem pw_627 : Cond.code yX6_fillRow cX6_fillRow 4 none ∈ lw_tbl := List.mem_of_getElem? (i := 627) rfl
set_option maxRecDepth 100000 in
theorem pw_628 : Cond.methodLink RX7 230 yX6_rank ∈ lw_tbl := List.mem_of_getElem? (i := 628) rfl
set_option maxRecDepth 100000 in
theorem pw_629 : Cond.instanceMethod yX6_rank ∈ lw_tbl := List.mem_of_getElem? (i := 629) rfl
set_option maxRecDepth 100000 in
theorem pw_630 : Cond.selects RX6 yX6_rank yX6_rank ∈ lw_tbl := List.mem_of_getElem? (i := 630) rfl
set_option maxRecDepth 100000 in
theorem pw_631 : Cond.code yX6_rank cX6_rank 5 (some .int) ∈ lw_tbl := List.mem_of_getElem? (i := 631) rfl
set_option maxRecDepth 100000 in
theorem pw_632 : Cond.methodLink RX6 16 yX6_raisePivot ∈ lw_tbl := List.mem_of_getElem? (i := 632) rfl
set_option maxRecDepth 100000 in
theorem pw_633 : Cond.instanceMethod yX6_raisePivot ∈ lw_tbl := List.mem_of_getElem? (i := 633) rfl
set_option maxRecDepth 100000 in
theorem pw_634 : Cond.selects RX6 yX6_raisePivot yX6_raisePivot ∈ lw_tbl := List.mem_of_getElem? (i := 634) rfl
set_option maxRecDepth 100000 in
theorem pw_635 : Cond.code yX6_raisePivot cX6_raisePivot 4 (some .boolean) ∈ lw_tbl := List.mem_of_getElem? (i := 635) rfl
set_option maxRecDepth 100000 in
theorem pw_636 : Cond.methodLink RX6 24 yX6_swapRows ∈ lw_tbl := List.mem_of_getElem? (i := 636) rfl
set_option maxRecDepth 100000 in
theorem pw_637 : Cond.instanceMethod yX6_swapRows ∈ lw_tbl := List.mem_of_getElem? (i := 637) rfl
set_option maxRecDepth 100000 in
theorem pw_638 : Cond.selects RX6 yX6_swapRows yX6_swapRows ∈ lw_tbl := List.mem_of_getElem? (i := 638) rfl
set_option maxRecDepth 100000 in
theorem pw_639 : Cond.code yX6_swapRows cX6_swapRows 6 none ∈ lw_tbl := List.mem_of_getElem? (i := 639) rfl
set_option maxRecDepth 100000 in
theorem pw_640 : Cond.methodLink RX6 20 yX6_clearBelow ∈ lw_tbl := List.mem_of_getElem? (i := 640) rfl
set_option maxRecDepth 100000 in
theorem pw_641 : Cond.instanceMethod yX6_clearBelow ∈ lw_tbl := List.mem_of_getElem? (i := 641) rfl
set_option maxRecDepth 100000 in
theorem pw_642 : Cond.selects RX6 yX6_clearBelow yX6_clearBelow ∈ lw_tbl := List.mem_of_getElem? (i := 642) rfl
set_option maxRecDepth 100000 in
theorem pw_643 : Cond.code yX6_clearBelow cX6_clearBelow 13 none ∈ lw_tbl := List.mem_of_getElem? (i := 643) rfl
set_option maxRecDepth 100000 in
theorem pw_644 : Cond.methodLink RL 128 yX7_none ∈ lw_tbl := List.mem_of_getElem? (i := 644) rfl
set_option maxRecDepth 100000 in
theorem pw_645 : Cond.instanceMethod yX7_none ∈ lw_tbl := List.mem_of_getElem? (i := 645) rfl
set_option maxRecDepth 100000 in
theorem pw_646 : Cond.selects RX7 yX7_none yX7_none ∈ lw_tbl := List.mem_of_getElem? (i := 646) rfl
set_option maxRecDepth 100000 in
theorem pw_647 : (.code yX7_none cX7_none 11 (some .int) : Cond) ∈ lw_tbl := List.mem_of_getElem? (i := 647) rfl
set_option maxRecDepth 100000 in
theorem pw_648 : Cond.methodLink RX7 233 yX1_spreadAt ∈ lw_tbl := List.mem_of_getElem? (i := 648) rfl
set_option maxRecDepth 100000 in
theorem pw_649 : Cond.instanceMethod yX1_spreadAt ∈ lw_tbl := List.mem_of_getElem? (i := 649) rfl
set_option maxRecDepth 100000 in
theorem pw_650 : Cond.selects RX1 yX1_spreadAt yX1_spreadAt ∈ lw_tbl := List.mem_of_getElem? (i := 650) rfl
set_option maxRecDepth 100000 in
theorem pw_651 : Cond.code yX1_spreadAt cX1_spreadAt 3 (some .int) ∈ lw_tbl := List.mem_of_getElem? (i := 651) rfl
set_option maxRecDepth 100000 in
theorem pw_652 : Cond.methodLink RX7 236 Lib.Math.min.name ∈ lw_tbl := List.mem_of_getElem? (i := 652) rfl
set_option maxRecDepth 100000 in
theorem pw_653 : Cond.methodLink RX7 241 Lib.Math.max.name ∈ lw_tbl := List.mem_of_getElem? (i := 653) rfl
set_option maxRecDepth 100000 in
theorem pw_654 : Cond.methodLink RL 133 yX7_edge ∈ lw_tbl := List.mem_of_getElem? (i := 654) rfl
set_option maxRecDepth 100000 in
theorem pw_655 : Cond.instanceMethod yX7_edge ∈ lw_tbl := List.mem_of_getElem? (i := 655) rfl
set_option maxRecDepth 100000 in
theorem pw_656 : Cond.selects RX7 yX7_edge yX7_edge ∈ lw_tbl := List.mem_of_getElem? (i := 656) rfl
set_option maxRecDepth 100000 in
theorem pw_657 : (.code yX7_edge cX7_edge 3 (some .int) : Cond) ∈ lw_tbl := List.mem_of_getElem? (i := 657) rfl
set_option maxRecDepth 100000 in
theorem pw_658 : (.methodLink RX7 244 yX7_linesOfCubic : Cond) ∈ lw_tbl := List.mem_of_getElem? (i := 658) rfl
set_option maxRecDepth 100000 in
theorem pw_659 : (.static yX7_linesOfCubic : Cond) ∈ lw_tbl := List.mem_of_getElem? (i := 659) rfl
set_option maxRecDepth 100000 in
theorem pw_660 : (.code yX7_linesOfCubic cX7_linesOfCubic 6 (some .int) : Cond) ∈ lw_tbl := List.mem_of_getElem? (i := 660) rfl
set_option maxRecDepth 100000 in
theorem pw_661 : Cond.methodLink RL 137 yX7_far ∈ lw_tbl := List.mem_of_getElem? (i := 661) rfl
set_option maxRecDepth 100000 in
theorem pw_662 : Cond.instanceMethod yX7_far ∈ lw_tbl := List.mem_of_getElem? (i := 662) rfl
set_option maxRecDepth 100000 in
theorem pw_663 : Cond.selects RX7 yX7_far yX7_far ∈ lw_tbl := List.mem_of_getElem? (i := 663) rfl
set_option maxRecDepth 100000 in
theorem pw_664 : (.code yX7_far cX7_far 4 (some .int) : Cond) ∈ lw_tbl := List.mem_of_getElem? (i := 664) rfl
set_option maxRecDepth 100000 in
theorem pw_665 : (.methodLink RX7 248 yX3_squaresAt : Cond) ∈ lw_tbl := List.mem_of_getElem? (i := 665) rfl
set_option maxRecDepth 100000 in
theorem pw_666 : Cond.methodLink RL 141 yX7_keep ∈ lw_tbl := List.mem_of_getElem? (i := 666) rfl
set_option maxRecDepth 100000 in
theorem pw_667 : Cond.instanceMethod yX7_keep ∈ lw_tbl := List.mem_of_getElem? (i := 667) rfl
set_option maxRecDepth 100000 in
theorem pw_668 : Cond.selects RX7 yX7_keep yX7_keep ∈ lw_tbl := List.mem_of_getElem? (i := 668) rfl
set_option maxRecDepth 100000 in
theorem pw_669 : (.code yX7_keep cX7_keep 2 (some .int) : Cond) ∈ lw_tbl := List.mem_of_getElem? (i := 669) rfl
set_option maxRecDepth 100000 in
theorem pw_670 : Cond.methodLink RX7 251 yX1_lastKind ∈ lw_tbl := List.mem_of_getElem? (i := 670) rfl
set_option maxRecDepth 100000 in
theorem pw_671 : Cond.instanceMethod yX1_lastKind ∈ lw_tbl := List.mem_of_getElem? (i := 671) rfl
set_option maxRecDepth 100000 in
theorem pw_672 : Cond.selects RX1 yX1_lastKind yX1_lastKind ∈ lw_tbl := List.mem_of_getElem? (i := 672) rfl
set_option maxRecDepth 100000 in
theorem pw_673 : Cond.code yX1_lastKind cX1_lastKind 1 (some .int) ∈ lw_tbl := List.mem_of_getElem? (i := 673) rfl
set_option maxRecDepth 100000 in
theorem pw_674 : Cond.methodLink RX1 46 yX1_isFree ∈ lw_tbl := List.mem_of_getElem? (i := 674) rfl
set_option maxRecDepth 100000 in
theorem pw_675 : Cond.instanceMethod yX1_isFree ∈ lw_tbl := List.mem_of_getElem? (i := 675) rfl
set_option maxRecDepth 100000 in
theorem pw_676 : Cond.selects RX1 yX1_isFree yX1_isFree ∈ lw_tbl := List.mem_of_getElem? (i := 676) rfl
set_option maxRecDepth 100000 in
theorem pw_677 : Cond.code yX1_isFree cX1_isFree 1 (some .boolean) ∈ lw_tbl := List.mem_of_getElem? (i := 677) rfl
set_option maxRecDepth 100000 in
theorem pw_678 : Cond.methodLink RX1 43 yX1_spreadAt ∈ lw_tbl := List.mem_of_getElem? (i := 678) rfl
set_option maxRecDepth 100000 in
theorem pw_679 : Cond.methodLink RX1 49 yX3_hasSquares ∈ lw_tbl := List.mem_of_getElem? (i := 679) rfl
set_option maxRecDepth 100000 in
theorem pw_680 : Cond.instanceMethod yX3_hasSquares ∈ lw_tbl := List.mem_of_getElem? (i := 680) rfl
set_option maxRecDepth 100000 in
theorem pw_681 : Cond.selects RX3 yX3_hasSquares yX3_hasSquares ∈ lw_tbl := List.mem_of_getElem? (i := 681) rfl
set_option maxRecDepth 100000 in
theorem pw_682 : Cond.code yX3_hasSquares cX3_hasSquares 1 (some .boolean) ∈ lw_tbl := List.mem_of_getElem? (i := 682) rfl
set_option maxRecDepth 100000 in
theorem pw_683 : Cond.methodLink RL 145 yX7_bring ∈ lw_tbl := List.mem_of_getElem? (i := 683) rfl
set_option maxRecDepth 100000 in
theorem pw_684 : Cond.instanceMethod yX7_bring ∈ lw_tbl := List.mem_of_getElem? (i := 684) rfl
set_option maxRecDepth 100000 in
theorem pw_685 : Cond.selects RX7 yX7_bring yX7_bring ∈ lw_tbl := List.mem_of_getElem? (i := 685) rfl
set_option maxRecDepth 100000 in
theorem pw_686 : (.code yX7_bring cX7_bring 2 (some .int) : Cond) ∈ lw_tbl := List.mem_of_getElem? (i := 686) rfl
set_option maxRecDepth 100000 in
theorem pw_687 : Cond.methodLink RL 149 yX7_as ∈ lw_tbl := List.mem_of_getElem? (i := 687) rfl
set_option maxRecDepth 100000 in
theorem pw_688 : Cond.instanceMethod yX7_as ∈ lw_tbl := List.mem_of_getElem? (i := 688) rfl
set_option maxRecDepth 100000 in
theorem pw_689 : Cond.selects RX7 yX7_as yX7_as ∈ lw_tbl := List.mem_of_getElem? (i := 689) rfl
set_option maxRecDepth 100000 in
theorem pw_690 : (.code yX7_as cX7_as 3 (some .int) : Cond) ∈ lw_tbl := List.mem_of_getElem? (i := 690) rfl
set_option maxRecDepth 100000 in
theorem pw_691 : Cond.methodLink RX7 254 yX7_isUnder ∈ lw_tbl := List.mem_of_getElem? (i := 691) rfl
set_option maxRecDepth 100000 in
theorem pw_692 : Cond.static yX7_isUnder ∈ lw_tbl := List.mem_of_getElem? (i := 692) rfl
set_option maxRecDepth 100000 in
theorem pw_693 : Cond.code yX7_isUnder cX7_isUnder 4 (some .boolean) ∈ lw_tbl := List.mem_of_getElem? (i := 693) rfl
set_option maxRecDepth 100000 in
theorem pw_694 : Cond.fieldLink RX7 332 "FlowPlane" "ABOVE" "[I" ∈ lw_tbl := List.mem_of_getElem? (i := 694) rfl
set_option maxRecDepth 100000 in
theorem pw_696 : Cond.methodLink RX7 257 yX1_countNotZero ∈ lw_tbl := List.mem_of_getElem? (i := 696) rfl
set_option maxRecDepth 100000 in
theorem pw_697 : Cond.instanceMethod yX1_countNotZero ∈ lw_tbl := List.mem_of_getElem? (i := 697) rfl
set_option maxRecDepth 100000 in
theorem pw_698 : Cond.selects RX1 yX1_countNotZero yX1_countNotZero ∈ lw_tbl := List.mem_of_getElem? (i := 698) rfl
set_option maxRecDepth 100000 in
theorem pw_699 : Cond.code yX1_countNotZero cX1_countNotZero 1 (some .int) ∈ lw_tbl := List.mem_of_getElem? (i := 699) rfl
set_option maxRecDepth 100000 in
theorem pw_700 : Cond.methodLink RX1 29 yX3_countNotZero ∈ lw_tbl := List.mem_of_getElem? (i := 700) rfl
set_option maxRecDepth 100000 in
theorem pw_701 : Cond.instanceMethod yX3_countNotZero ∈ lw_tbl := List.mem_of_getElem? (i := 701) rfl
set_option maxRecDepth 100000 in
theorem pw_702 : Cond.selects RX3 yX3_countNotZero yX3_countNotZero ∈ lw_tbl := List.mem_of_getElem? (i := 702) rfl
set_option maxRecDepth 100000 in
theorem pw_703 : Cond.code yX3_countNotZero cX3_countNotZero 3 (some .int) ∈ lw_tbl := List.mem_of_getElem? (i := 703) rfl
set_option maxRecDepth 100000 in
theorem pw_704 : Cond.methodLink RL 153 yX7_sheet ∈ lw_tbl := List.mem_of_getElem? (i := 704) rfl
set_option maxRecDepth 100000 in
theorem pw_705 : Cond.instanceMethod yX7_sheet ∈ lw_tbl := List.mem_of_getElem? (i := 705) rfl
set_option maxRecDepth 100000 in
theorem pw_706 : Cond.selects RX7 yX7_sheet yX7_sheet ∈ lw_tbl := List.mem_of_getElem? (i := 706) rfl
set_option maxRecDepth 100000 in
theorem pw_707 : (.code yX7_sheet cX7_sheet 4 (some .int) : Cond) ∈ lw_tbl := List.mem_of_getElem? (i := 707) rfl
set_option maxRecDepth 100000 in
theorem pw_708 : (.methodLink RX7 260 yX7_isSheet : Cond) ∈ lw_tbl := List.mem_of_getElem? (i := 708) rfl
set_option maxRecDepth 100000 in
theorem pw_709 : (.static yX7_isSheet : Cond) ∈ lw_tbl := List.mem_of_getElem? (i := 709) rfl
set_option maxRecDepth 100000 in
theorem pw_710 : (.code yX7_isSheet cX7_isSheet 1 (some .boolean) : Cond) ∈ lw_tbl := List.mem_of_getElem? (i := 710) rfl
set_option maxRecDepth 100000 in
theorem pw_711 : (.methodLink RX7 263 yX7_isBits : Cond) ∈ lw_tbl := List.mem_of_getElem? (i := 711) rfl
set_option maxRecDepth 100000 in
theorem pw_712 : (.static yX7_isBits : Cond) ∈ lw_tbl := List.mem_of_getElem? (i := 712) rfl
set_option maxRecDepth 100000 in
theorem pw_713 : (.code yX7_isBits cX7_isBits 1 (some .boolean) : Cond) ∈ lw_tbl := List.mem_of_getElem? (i := 713) rfl
set_option maxRecDepth 100000 in
theorem pw_714 : (.methodLink RX7 266 yX5_begin : Cond) ∈ lw_tbl := List.mem_of_getElem? (i := 714) rfl
set_option maxRecDepth 100000 in
theorem pw_715 : (.instanceMethod yX5_begin : Cond) ∈ lw_tbl := List.mem_of_getElem? (i := 715) rfl
set_option maxRecDepth 100000 in
theorem pw_716 : (.selects RX5 yX5_begin yX5_begin : Cond) ∈ lw_tbl := List.mem_of_getElem? (i := 716) rfl
set_option maxRecDepth 100000 in
theorem pw_717 : (.code yX5_begin cX5_begin 4 none : Cond) ∈ lw_tbl := List.mem_of_getElem? (i := 717) rfl
set_option maxRecDepth 100000 in
theorem pw_718 : Cond.methodLink RL 157 yX7_write ∈ lw_tbl := List.mem_of_getElem? (i := 718) rfl
set_option maxRecDepth 100000 in
theorem pw_719 : Cond.instanceMethod yX7_write ∈ lw_tbl := List.mem_of_getElem? (i := 719) rfl
set_option maxRecDepth 100000 in
theorem pw_720 : Cond.selects RX7 yX7_write yX7_write ∈ lw_tbl := List.mem_of_getElem? (i := 720) rfl
set_option maxRecDepth 100000 in
theorem pw_721 : (.code yX7_write cX7_write 5 (some .int) : Cond) ∈ lw_tbl := List.mem_of_getElem? (i := 721) rfl
set_option maxRecDepth 100000 in
theorem pw_722 : (.methodLink RX7 272 yX5_isMissing : Cond) ∈ lw_tbl := List.mem_of_getElem? (i := 722) rfl
set_option maxRecDepth 100000 in
theorem pw_723 : (.instanceMethod yX5_isMissing : Cond) ∈ lw_tbl := List.mem_of_getElem? (i := 723) rfl
set_option maxRecDepth 100000 in
theorem pw_724 : (.selects RX5 yX5_isMissing yX5_isMissing : Cond) ∈ lw_tbl := List.mem_of_getElem? (i := 724) rfl
set_option maxRecDepth 100000 in
theorem pw_725 : (.code yX5_isMissing cX5_isMissing 1 (some .boolean) : Cond) ∈ lw_tbl := List.mem_of_getElem? (i := 725) rfl
set_option maxRecDepth 100000 in
theorem pw_726 : (.constant RX7 275 (-1000002) : Cond) ∈ lw_tbl := List.mem_of_getElem? (i := 726) rfl
set_option maxRecDepth 100000 in
theorem pw_727 : (.methodLink RX7 277 yX5_lowestBits : Cond) ∈ lw_tbl := List.mem_of_getElem? (i := 727) rfl
set_option maxRecDepth 100000 in
theorem pw_728 : (.instanceMethod yX5_lowestBits : Cond) ∈ lw_tbl := List.mem_of_getElem? (i := 728) rfl
set_option maxRecDepth 100000 in
theorem pw_729 : (.selects RX5 yX5_lowestBits yX5_lowestBits : Cond) ∈ lw_tbl := List.mem_of_getElem? (i := 729) rfl
set_option maxRecDepth 100000 in
theorem pw_730 : (.code yX5_lowestBits cX5_lowestBits 2 (some .int) : Cond) ∈ lw_tbl := List.mem_of_getElem? (i := 730) rfl
set_option maxRecDepth 100000 in
theorem pw_731 : Cond.methodLink RL 161 yX7_copy ∈ lw_tbl := List.mem_of_getElem? (i := 731) rfl
set_option maxRecDepth 100000 in
theorem pw_732 : Cond.instanceMethod yX7_copy ∈ lw_tbl := List.mem_of_getElem? (i := 732) rfl
set_option maxRecDepth 100000 in
theorem pw_733 : Cond.selects RX7 yX7_copy yX7_copy ∈ lw_tbl := List.mem_of_getElem? (i := 733) rfl
set_option maxRecDepth 100000 in
theorem pw_734 : (.code yX7_copy cX7_copy 8 (some .int) : Cond) ∈ lw_tbl := List.mem_of_getElem? (i := 734) rfl
set_option maxRecDepth 100000 in
theorem pw_735 : Cond.methodLink RX7 283 yX5_hasRange ∈ lw_tbl := List.mem_of_getElem? (i := 735) rfl
set_option maxRecDepth 100000 in
theorem pw_736 : Cond.instanceMethod yX5_hasRange ∈ lw_tbl := List.mem_of_getElem? (i := 736) rfl
set_option maxRecDepth 100000 in
theorem pw_737 : Cond.selects RX5 yX5_hasRange yX5_hasRange ∈ lw_tbl := List.mem_of_getElem? (i := 737) rfl
set_option maxRecDepth 100000 in
theorem pw_738 : Cond.code yX5_hasRange cX5_hasRange 3 (some .boolean) ∈ lw_tbl := List.mem_of_getElem? (i := 738) rfl
set_option maxRecDepth 100000 in
theorem pw_739 : Cond.methodLink RX7 286 arraycopyName ∈ lw_tbl := List.mem_of_getElem? (i := 739) rfl
set_option maxRecDepth 100000 in
theorem pw_740 : Cond.methodLink RL 166 yX7_lay ∈ lw_tbl := List.mem_of_getElem? (i := 740) rfl
set_option maxRecDepth 100000 in
theorem pw_741 : Cond.instanceMethod yX7_lay ∈ lw_tbl := List.mem_of_getElem? (i := 741) rfl
set_option maxRecDepth 100000 in
theorem pw_742 : Cond.selects RX7 yX7_lay yX7_lay ∈ lw_tbl := List.mem_of_getElem? (i := 742) rfl
set_option maxRecDepth 100000 in
theorem pw_743 : (.code yX7_lay cX7_lay 5 (some .int) : Cond) ∈ lw_tbl := List.mem_of_getElem? (i := 743) rfl
set_option maxRecDepth 100000 in
theorem pw_744 : Cond.methodLink RL 170 yX7_undo ∈ lw_tbl := List.mem_of_getElem? (i := 744) rfl
set_option maxRecDepth 100000 in
theorem pw_745 : Cond.instanceMethod yX7_undo ∈ lw_tbl := List.mem_of_getElem? (i := 745) rfl
set_option maxRecDepth 100000 in
theorem pw_746 : Cond.selects RX7 yX7_undo yX7_undo ∈ lw_tbl := List.mem_of_getElem? (i := 746) rfl
set_option maxRecDepth 100000 in
theorem pw_747 : (.code yX7_undo cX7_undo 1 (some .int) : Cond) ∈ lw_tbl := List.mem_of_getElem? (i := 747) rfl
set_option maxRecDepth 100000 in
theorem pw_748 : Cond.methodLink RX7 296 yX2_bringBack ∈ lw_tbl := List.mem_of_getElem? (i := 748) rfl
set_option maxRecDepth 100000 in
theorem pw_749 : Cond.instanceMethod yX2_bringBack ∈ lw_tbl := List.mem_of_getElem? (i := 749) rfl
set_option maxRecDepth 100000 in
theorem pw_750 : Cond.selects RX2 yX2_bringBack yX2_bringBack ∈ lw_tbl := List.mem_of_getElem? (i := 750) rfl
set_option maxRecDepth 100000 in
theorem pw_751 : Cond.code yX2_bringBack cX2_bringBack 4 none ∈ lw_tbl := List.mem_of_getElem? (i := 751) rfl
set_option maxRecDepth 100000 in
theorem pw_752 : Cond.methodLink RL 174 yX7_told ∈ lw_tbl := List.mem_of_getElem? (i := 752) rfl
set_option maxRecDepth 100000 in
theorem pw_753 : Cond.instanceMethod yX7_told ∈ lw_tbl := List.mem_of_getElem? (i := 753) rfl
set_option maxRecDepth 100000 in
theorem pw_754 : Cond.selects RX7 yX7_told yX7_told ∈ lw_tbl := List.mem_of_getElem? (i := 754) rfl
set_option maxRecDepth 100000 in
theorem pw_755 : (.code yX7_told cX7_told 2 (some .int) : Cond) ∈ lw_tbl := List.mem_of_getElem? (i := 755) rfl
set_option maxRecDepth 100000 in
theorem pw_756 : Cond.methodLink RX7 299 yX7_countFilledSlots ∈ lw_tbl := List.mem_of_getElem? (i := 756) rfl
set_option maxRecDepth 100000 in
theorem pw_758 : Cond.instanceMethod yX7_countFilledSlots ∈ lw_tbl := List.mem_of_getElem? (i := 758) rfl
set_option maxRecDepth 100000 in
theorem pw_759 : Cond.code yX7_countFilledSlots cX7_countFilledSlots 3 (some .int) ∈ lw_tbl := List.mem_of_getElem? (i := 759) rfl
set_option maxRecDepth 100000 in
theorem pw_764 : (.code yX8_init cX8_init 1 none : Cond) ∈ lw_tbl := List.mem_of_getElem? (i := 764) rfl
set_option maxRecDepth 100000 in
theorem pw_765 : (.methodLink RX8 1 objectInit : Cond) ∈ lw_tbl := List.mem_of_getElem? (i := 765) rfl
set_option maxRecDepth 100000 in
theorem pw_766 : Cond.fieldLink RX8 7 "FlowPlaneModel" "now" "[I" ∈ lw_tbl := List.mem_of_getElem? (i := 766) rfl
set_option maxRecDepth 100000 in
theorem pw_767 : (.fieldLink RX8 13 "FlowPlaneModel" "undone" "[I" : Cond) ∈ lw_tbl := List.mem_of_getElem? (i := 767) rfl
set_option maxRecDepth 100000 in
theorem pw_768 : Cond.fieldLink RX8 16 "FlowPlaneModel" "slots" "[I" ∈ lw_tbl := List.mem_of_getElem? (i := 768) rfl
set_option maxRecDepth 100000 in
theorem pw_769 : Cond.fieldLink RX8 19 "FlowPlaneModel" "slotKind" "[I" ∈ lw_tbl := List.mem_of_getElem? (i := 769) rfl
set_option maxRecDepth 100000 in
theorem pw_770 : Cond.fieldLink RX8 22 "FlowPlaneModel" "hasSlot" "[Z" ∈ lw_tbl := List.mem_of_getElem? (i := 770) rfl
set_option maxRecDepth 100000 in
theorem pw_771 : (.fieldLink RX8 26 "FlowPlaneModel" "sheetBits" "[I" : Cond) ∈ lw_tbl := List.mem_of_getElem? (i := 771) rfl
set_option maxRecDepth 100000 in
theorem pw_772 : (.fieldLink RX8 29 "FlowPlaneModel" "sheetSize" "[I" : Cond) ∈ lw_tbl := List.mem_of_getElem? (i := 772) rfl
