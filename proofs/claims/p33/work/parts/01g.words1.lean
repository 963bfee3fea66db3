set_option maxRecDepth 20000 in
theorem zw_421 : Cond.static yJ7_copyOfRange_39247 ∈ zbig := zw_of 421 (by decide +kernel) (by decide +kernel)
set_option maxRecDepth 20000 in
theorem zw_422 : Cond.code yJ7_copyOfRange_39247 cJ7_copyOfRange_39247 3 (some (.array .byte)) ∈ zbig := zw_of 422 (by decide +kernel) (by decide +kernel)
set_option maxRecDepth 20000 in
theorem zw_423 : Cond.methodLink RJ7 339 yJ7_copyOfRangeByte_39247 ∈ zbig := zw_of 423 (by decide +kernel) (by decide +kernel)
set_option maxRecDepth 20000 in
theorem zw_424 : Cond.static yJ7_copyOfRangeByte_39247 ∈ zbig := zw_of 424 (by decide +kernel) (by decide +kernel)
set_option maxRecDepth 20000 in
theorem zw_425 : Cond.code yJ7_copyOfRangeByte_39247 cJ7_copyOfRangeByte_39247 5 (some (.array .byte)) ∈ zbig := zw_of 425 (by decide +kernel) (by decide +kernel)
set_option maxRecDepth 20000 in
theorem zw_426 : Cond.methodLink RJ7 343 yJ7_checkLength_df160 ∈ zbig := zw_of 426 (by decide +kernel) (by decide +kernel)
set_option maxRecDepth 20000 in
theorem zw_427 : Cond.static yJ7_checkLength_df160 ∈ zbig := zw_of 427 (by decide +kernel) (by decide +kernel)
set_option maxRecDepth 20000 in
theorem zw_428 : Cond.code yJ7_checkLength_df160 cJ7_checkLength_df160 2 none ∈ zbig := zw_of 428 (by decide +kernel) (by decide +kernel)
set_option maxRecDepth 20000 in
theorem zw_516 : Cond.fieldLink RJ0 9 "java/lang/String" "value" "[B" ∈ zbig := zw_of 516 (by decide +kernel) (by decide +kernel)
set_option maxRecDepth 20000 in
theorem zw_517 : Cond.fieldLink RJ0 15 "java/lang/String" "coder" "B" ∈ zbig := zw_of 517 (by decide +kernel) (by decide +kernel)
set_option maxRecDepth 20000 in
theorem zw_577 : Cond.methodLink RX1 345 yX1_writeRow ∈ zbig := zw_of 577 (by decide +kernel) (by decide +kernel)
set_option maxRecDepth 20000 in
theorem zw_578 : Cond.static yX1_writeRow ∈ zbig := zw_of 578 (by decide +kernel) (by decide +kernel)
set_option maxRecDepth 20000 in
theorem zw_579 : Cond.code yX1_writeRow cX1_writeRow 4 none ∈ zbig := zw_of 579 (by decide +kernel) (by decide +kernel)
set_option maxRecDepth 20000 in
theorem zw_580 : Cond.methodLink RX1 349 yJ4_append_cf468 ∈ zbig := zw_of 580 (by decide +kernel) (by decide +kernel)
set_option maxRecDepth 20000 in
theorem zw_581 : Cond.instanceMethod yJ4_append_cf468 ∈ zbig := zw_of 581 (by decide +kernel) (by decide +kernel)
set_option maxRecDepth 20000 in
theorem zw_582 : Cond.selects RJ4 yJ4_append_cf468 yJ4_append_cf468 ∈ zbig := zw_of 582 (by decide +kernel) (by decide +kernel)
set_option maxRecDepth 20000 in
theorem zw_583 : Cond.code yJ4_append_cf468 cJ4_append_cf468 2 (some (.object "java/lang/StringBuilder")) ∈ zbig := zw_of 583 (by decide +kernel) (by decide +kernel)
set_option maxRecDepth 20000 in
theorem zw_584 : Cond.methodLink RJ4 50 yJ5_append_3fe6f ∈ zbig := zw_of 584 (by decide +kernel) (by decide +kernel)
set_option maxRecDepth 20000 in
theorem zw_585 : Cond.instanceMethod yJ5_append_3fe6f ∈ zbig := zw_of 585 (by decide +kernel) (by decide +kernel)
set_option maxRecDepth 20000 in
theorem zw_586 : Cond.code yJ5_append_3fe6f cJ5_append_3fe6f 2 (some (.object "java/lang/AbstractStringBuilder")) ∈ zbig := zw_of 586 (by decide +kernel) (by decide +kernel)
set_option maxRecDepth 20000 in
theorem zw_587 : Cond.methodLink RJ5 191 yJ1_canEncode_fc78d ∈ zbig := zw_of 587 (by decide +kernel) (by decide +kernel)
set_option maxRecDepth 20000 in
theorem zw_588 : Cond.static yJ1_canEncode_fc78d ∈ zbig := zw_of 588 (by decide +kernel) (by decide +kernel)
set_option maxRecDepth 20000 in
theorem zw_589 : Cond.code yJ1_canEncode_fc78d cJ1_canEncode_fc78d 1 (some .boolean) ∈ zbig := zw_of 589 (by decide +kernel) (by decide +kernel)
set_option maxRecDepth 20000 in
theorem zw_597 : Cond.static yJ0_checkIndex_df160 ∈ zbig := zw_of 597 (by decide +kernel) (by decide +kernel)
set_option maxRecDepth 20000 in
theorem zw_598 : Cond.code yJ0_checkIndex_df160 cJ0_checkIndex_df160 2 none ∈ zbig := zw_of 598 (by decide +kernel) (by decide +kernel)
set_option maxRecDepth 20000 in
theorem zw_599 : Cond.methodLink RJ0 1059 yJ3_checkIndex_8e157 ∈ zbig := zw_of 599 (by decide +kernel) (by decide +kernel)
set_option maxRecDepth 20000 in
theorem zw_601 : Cond.methodLink RX1 355 yX1_writeSigns ∈ zbig := zw_of 601 (by decide +kernel) (by decide +kernel)
set_option maxRecDepth 20000 in
theorem zw_602 : Cond.static yX1_writeSigns ∈ zbig := zw_of 602 (by decide +kernel) (by decide +kernel)
set_option maxRecDepth 20000 in
theorem zw_603 : Cond.code yX1_writeSigns cX1_writeSigns 3 none ∈ zbig := zw_of 603 (by decide +kernel) (by decide +kernel)
set_option maxRecDepth 20000 in
theorem zw_604 : Cond.methodLink RX1 314 yJ0_length_8abf5 ∈ zbig := zw_of 604 (by decide +kernel) (by decide +kernel)
set_option maxRecDepth 20000 in
theorem zw_605 : Cond.methodLink RX1 318 yJ0_charAt_5068e ∈ zbig := zw_of 605 (by decide +kernel) (by decide +kernel)
set_option maxRecDepth 20000 in
theorem zw_606 : Cond.instanceMethod yJ0_charAt_5068e ∈ zbig := zw_of 606 (by decide +kernel) (by decide +kernel)
set_option maxRecDepth 20000 in
theorem zw_607 : Cond.selects RJ0 yJ0_charAt_5068e yJ0_charAt_5068e ∈ zbig := zw_of 607 (by decide +kernel) (by decide +kernel)
set_option maxRecDepth 20000 in
theorem zw_608 : Cond.code yJ0_charAt_5068e cJ0_charAt_5068e 2 (some .char) ∈ zbig := zw_of 608 (by decide +kernel) (by decide +kernel)
set_option maxRecDepth 20000 in
theorem zw_609 : Cond.methodLink RJ0 492 yJ0_isLatin1_aae02 ∈ zbig := zw_of 609 (by decide +kernel) (by decide +kernel)
set_option maxRecDepth 20000 in
theorem zw_610 : Cond.instanceMethod yJ0_isLatin1_aae02 ∈ zbig := zw_of 610 (by decide +kernel) (by decide +kernel)
set_option maxRecDepth 20000 in
theorem zw_611 : Cond.selects RJ0 yJ0_isLatin1_aae02 yJ0_isLatin1_aae02 ∈ zbig := zw_of 611 (by decide +kernel) (by decide +kernel)
set_option maxRecDepth 20000 in
theorem zw_612 : Cond.code yJ0_isLatin1_aae02 cJ0_isLatin1_aae02 1 (some .boolean) ∈ zbig := zw_of 612 (by decide +kernel) (by decide +kernel)
set_option maxRecDepth 20000 in
theorem zw_613 : Cond.methodLink RJ0 495 yJ1_charAt_3b067 ∈ zbig := zw_of 613 (by decide +kernel) (by decide +kernel)
set_option maxRecDepth 20000 in
theorem zw_614 : Cond.static yJ1_charAt_3b067 ∈ zbig := zw_of 614 (by decide +kernel) (by decide +kernel)
set_option maxRecDepth 20000 in
theorem zw_615 : Cond.code yJ1_charAt_3b067 cJ1_charAt_3b067 2 (some .char) ∈ zbig := zw_of 615 (by decide +kernel) (by decide +kernel)
set_option maxRecDepth 20000 in
theorem zw_616 : Cond.methodLink RJ1 9 yJ0_checkIndex_df160 ∈ zbig := zw_of 616 (by decide +kernel) (by decide +kernel)
set_option maxRecDepth 20000 in
theorem zw_620 : Cond.methodLink RX1 359 yX1_writePlace ∈ zbig := zw_of 620 (by decide +kernel) (by decide +kernel)
set_option maxRecDepth 20000 in
theorem zw_621 : Cond.static yX1_writePlace ∈ zbig := zw_of 621 (by decide +kernel) (by decide +kernel)
set_option maxRecDepth 20000 in
theorem zw_622 : Cond.code yX1_writePlace cX1_writePlace 5 none ∈ zbig := zw_of 622 (by decide +kernel) (by decide +kernel)
set_option maxRecDepth 20000 in
theorem zw_659 : Cond.methodLink RX1 135 yX0_putRow ∈ zbig := zw_of 659 (by decide +kernel) (by decide +kernel)
set_option maxRecDepth 20000 in
theorem zw_660 : Cond.instanceMethod yX0_putRow ∈ zbig := zw_of 660 (by decide +kernel) (by decide +kernel)
set_option maxRecDepth 20000 in
theorem zw_661 : Cond.selects RX0 yX0_putRow yX0_putRow ∈ zbig := zw_of 661 (by decide +kernel) (by decide +kernel)
set_option maxRecDepth 20000 in
theorem zw_662 : Cond.code yX0_putRow cX0_putRow 3 none ∈ zbig := zw_of 662 (by decide +kernel) (by decide +kernel)
set_option maxRecDepth 20000 in
theorem zw_663 : Cond.methodLink RX0 33 yX0_change ∈ zbig := zw_of 663 (by decide +kernel) (by decide +kernel)
set_option maxRecDepth 20000 in
theorem zw_665 : Cond.instanceMethod yX0_change ∈ zbig := zw_of 665 (by decide +kernel) (by decide +kernel)
set_option maxRecDepth 20000 in
theorem zw_666 : Cond.code yX0_change cX0_change 5 none ∈ zbig := zw_of 666 (by decide +kernel) (by decide +kernel)
set_option maxRecDepth 20000 in
theorem zw_722 : Cond.methodLink RX1 122 yX1_depthOf ∈ zbig := zw_of 722 (by decide +kernel) (by decide +kernel)
set_option maxRecDepth 20000 in
theorem zw_723 : Cond.static yX1_depthOf ∈ zbig := zw_of 723 (by decide +kernel) (by decide +kernel)
set_option maxRecDepth 20000 in
theorem zw_724 : Cond.code yX1_depthOf cX1_depthOf 1 (some .int) ∈ zbig := zw_of 724 (by decide +kernel) (by decide +kernel)
set_option maxRecDepth 20000 in
theorem zw_725 : Cond.methodLink RX1 280 yX1_depthIf ∈ zbig := zw_of 725 (by decide +kernel) (by decide +kernel)
set_option maxRecDepth 20000 in
theorem zw_726 : Cond.static yX1_depthIf ∈ zbig := zw_of 726 (by decide +kernel) (by decide +kernel)
set_option maxRecDepth 20000 in
theorem zw_727 : Cond.code yX1_depthIf cX1_depthIf 7 (some .int) ∈ zbig := zw_of 727 (by decide +kernel) (by decide +kernel)
set_option maxRecDepth 20000 in
theorem zw_728 : Cond.methodLink RX1 126 Lib.Math.max.name ∈ zbig := zw_of 728 (by decide +kernel) (by decide +kernel)
set_option maxRecDepth 20000 in
theorem zw_736 : Cond.methodLink RX1 89 yX1_rowOf ∈ zbig := zw_of 736 (by decide +kernel) (by decide +kernel)
set_option maxRecDepth 20000 in
theorem zw_738 : Cond.instanceMethod yX1_rowOf ∈ zbig := zw_of 738 (by decide +kernel) (by decide +kernel)
set_option maxRecDepth 20000 in
theorem zw_739 : Cond.code yX1_rowOf cX1_rowOf 2 (some (.object "Deeprows$Row")) ∈ zbig := zw_of 739 (by decide +kernel) (by decide +kernel)
set_option maxRecDepth 20000 in
theorem zw_770 : Cond.classLink RL 14 RX2 ∈ zbig := zw_of 770 (by decide +kernel) (by decide +kernel)
set_option maxRecDepth 20000 in
theorem zw_771 : Cond.instantiable RX2 2 ∈ zbig := zw_of 771 (by decide +kernel) (by decide +kernel)
set_option maxRecDepth 20000 in
theorem zw_773 : Cond.instanceMethod yX2_init ∈ zbig := zw_of 773 (by decide +kernel) (by decide +kernel)
set_option maxRecDepth 20000 in
theorem zw_774 : Cond.code yX2_init cX2_init 1 none ∈ zbig := zw_of 774 (by decide +kernel) (by decide +kernel)
set_option maxRecDepth 20000 in
theorem zw_775 : Cond.methodLink RX2 1 objectInit ∈ zbig := zw_of 775 (by decide +kernel) (by decide +kernel)
set_option maxRecDepth 20000 in
theorem zw_783 : Cond.methodLink RL 122 yL_make ∈ zbig := zw_of 783 (by decide +kernel) (by decide +kernel)
set_option maxRecDepth 20000 in
theorem zw_784 : Cond.static yL_make ∈ zbig := zw_of 784 (by decide +kernel) (by decide +kernel)
set_option maxRecDepth 20000 in
theorem zw_785 : Cond.codeWith yL_make cL_make 5 (some .int) [(0, 11, 14, 19), (0, 11, 18, 21)] ∈ zbig := zw_of 785 (by decide +kernel) (by decide +kernel)
set_option maxRecDepth 20000 in
theorem zw_788 : Cond.methodLink RL 7 yX1_make ∈ zbig := zw_of 788 (by decide +kernel) (by decide +kernel)
set_option maxRecDepth 20000 in
theorem zw_789 : Cond.instanceMethod yX1_make ∈ zbig := zw_of 789 (by decide +kernel) (by decide +kernel)
set_option maxRecDepth 20000 in
theorem zw_790 : Cond.selects RX1 yX1_make yX1_make ∈ zbig := zw_of 790 (by decide +kernel) (by decide +kernel)
set_option maxRecDepth 20000 in
theorem zw_791 : Cond.code yX1_make cX1_make 3 (some .int) ∈ zbig := zw_of 791 (by decide +kernel) (by decide +kernel)
set_option maxRecDepth 20000 in
theorem zw_793 : Cond.methodLink RX1 55 yX1_requireLength ∈ zbig := zw_of 793 (by decide +kernel) (by decide +kernel)
set_option maxRecDepth 20000 in
theorem zw_794 : Cond.static yX1_requireLength ∈ zbig := zw_of 794 (by decide +kernel) (by decide +kernel)
set_option maxRecDepth 20000 in
theorem zw_795 : Cond.code yX1_requireLength cX1_requireLength 1 none ∈ zbig := zw_of 795 (by decide +kernel) (by decide +kernel)
set_option maxRecDepth 20000 in
theorem zw_797 : Cond.methodLink RX1 59 yX1_requireRoom ∈ zbig := zw_of 797 (by decide +kernel) (by decide +kernel)
set_option maxRecDepth 20000 in
theorem zw_799 : Cond.instanceMethod yX1_requireRoom ∈ zbig := zw_of 799 (by decide +kernel) (by decide +kernel)
set_option maxRecDepth 20000 in
theorem zw_800 : Cond.code yX1_requireRoom cX1_requireRoom 2 none ∈ zbig := zw_of 800 (by decide +kernel) (by decide +kernel)
set_option maxRecDepth 20000 in
theorem zw_817 : Cond.methodLink RX1 62 yX1_addRow ∈ zbig := zw_of 817 (by decide +kernel) (by decide +kernel)
set_option maxRecDepth 20000 in
theorem zw_819 : Cond.instanceMethod yX1_addRow ∈ zbig := zw_of 819 (by decide +kernel) (by decide +kernel)
set_option maxRecDepth 20000 in
theorem zw_820 : Cond.code yX1_addRow cX1_addRow 2 (some (.object "Deeprows$Row")) ∈ zbig := zw_of 820 (by decide +kernel) (by decide +kernel)
set_option maxRecDepth 20000 in
theorem zw_821 : Cond.methodLink RX1 286 yJx4a65c_add_9ea2d ∈ zbig := zw_of 821 (by decide +kernel) (by decide +kernel)
set_option maxRecDepth 20000 in
theorem zw_822 : Cond.instanceMethod yJx4a65c_add_9ea2d ∈ zbig := zw_of 822 (by decide +kernel) (by decide +kernel)
set_option maxRecDepth 20000 in
theorem zw_823 : Cond.selects RJx4a65c yJx4a65c_add_9ea2d yJx4a65c_add_9ea2d ∈ zbig := zw_of 823 (by decide +kernel) (by decide +kernel)
set_option maxRecDepth 20000 in
theorem zw_824 : Cond.code yJx4a65c_add_9ea2d cJx4a65c_add_9ea2d 2 (some .boolean) ∈ zbig := zw_of 824 (by decide +kernel) (by decide +kernel)
set_option maxRecDepth 20000 in
theorem zw_825 : Cond.methodLink RJx4a65c 131 yJx4a65c_add_72be8 ∈ zbig := zw_of 825 (by decide +kernel) (by decide +kernel)
set_option maxRecDepth 20000 in
theorem zw_827 : Cond.instanceMethod yJx4a65c_add_72be8 ∈ zbig := zw_of 827 (by decide +kernel) (by decide +kernel)
set_option maxRecDepth 20000 in
theorem zw_828 : Cond.code yJx4a65c_add_72be8 cJx4a65c_add_72be8 4 none ∈ zbig := zw_of 828 (by decide +kernel) (by decide +kernel)
set_option maxRecDepth 20000 in
theorem zw_829 : Cond.methodLink RJx4a65c 129 yJx4a65c_grow_d5877 ∈ zbig := zw_of 829 (by decide +kernel) (by decide +kernel)
set_option maxRecDepth 20000 in
theorem zw_831 : Cond.instanceMethod yJx4a65c_grow_d5877 ∈ zbig := zw_of 831 (by decide +kernel) (by decide +kernel)
set_option maxRecDepth 20000 in
theorem zw_832 : Cond.code yJx4a65c_grow_d5877 cJx4a65c_grow_d5877 1 (some (.array (.object "java/lang/Object"))) ∈ zbig := zw_of 832 (by decide +kernel) (by decide +kernel)
set_option maxRecDepth 20000 in
theorem zw_833 : Cond.methodLink RJx4a65c 69 yJx4a65c_grow_92f84 ∈ zbig := zw_of 833 (by decide +kernel) (by decide +kernel)
set_option maxRecDepth 20000 in
theorem zw_835 : Cond.instanceMethod yJx4a65c_grow_92f84 ∈ zbig := zw_of 835 (by decide +kernel) (by decide +kernel)
set_option maxRecDepth 20000 in
theorem zw_836 : Cond.code yJx4a65c_grow_92f84 cJx4a65c_grow_92f84 4 (some (.array (.object "java/lang/Object"))) ∈ zbig := zw_of 836 (by decide +kernel) (by decide +kernel)
set_option maxRecDepth 20000 in
theorem zw_864 : Cond.methodLink RJx4a65c 79 Lib.Math.max.name ∈ zbig := zw_of 864 (by decide +kernel) (by decide +kernel)
set_option maxRecDepth 20000 in
theorem zw_865 : Cond.classLink RJx4a65c 7 "java/lang/Object" ∈ zbig := zw_of 865 (by decide +kernel) (by decide +kernel)
set_option maxRecDepth 20000 in
theorem zw_917 : Cond.methodLink RX1 105 yX1_requireThings ∈ zbig := zw_of 917 (by decide +kernel) (by decide +kernel)
set_option maxRecDepth 20000 in
theorem zw_918 : Cond.static yX1_requireThings ∈ zbig := zw_of 918 (by decide +kernel) (by decide +kernel)
set_option maxRecDepth 20000 in
theorem zw_919 : Cond.code yX1_requireThings cX1_requireThings 1 none ∈ zbig := zw_of 919 (by decide +kernel) (by decide +kernel)
set_option maxRecDepth 20000 in
theorem zw_943 : Cond.methodLink RX1 115 yX1_requireLess ∈ zbig := zw_of 943 (by decide +kernel) (by decide +kernel)
set_option maxRecDepth 20000 in
theorem zw_944 : Cond.static yX1_requireLess ∈ zbig := zw_of 944 (by decide +kernel) (by decide +kernel)
set_option maxRecDepth 20000 in
theorem zw_945 : Cond.code yX1_requireLess cX1_requireLess 2 none ∈ zbig := zw_of 945 (by decide +kernel) (by decide +kernel)
set_option maxRecDepth 20000 in
theorem zw_950 : Cond.methodLink RX1 132 yX1_requireDepths ∈ zbig := zw_of 950 (by decide +kernel) (by decide +kernel)
set_option maxRecDepth 20000 in
theorem zw_952 : Cond.instanceMethod yX1_requireDepths ∈ zbig := zw_of 952 (by decide +kernel) (by decide +kernel)
set_option maxRecDepth 20000 in
theorem zw_953 : Cond.code yX1_requireDepths cX1_requireDepths 4 none ∈ zbig := zw_of 953 (by decide +kernel) (by decide +kernel)
set_option maxRecDepth 20000 in
theorem zw_974 : Cond.methodLink RL 155 yL_fillRow ∈ zbig := zw_of 974 (by decide +kernel) (by decide +kernel)
set_option maxRecDepth 20000 in
theorem zw_975 : Cond.static yL_fillRow ∈ zbig := zw_of 975 (by decide +kernel) (by decide +kernel)
set_option maxRecDepth 20000 in
theorem zw_976 : Cond.codeWith yL_fillRow cL_fillRow 5 (some .int) [(0, 11, 14, 31), (0, 11, 18, 19), (0, 11, 22, 21)] ∈ zbig := zw_of 976 (by decide +kernel) (by decide +kernel)
set_option maxRecDepth 20000 in
theorem zw_977 : Cond.methodLink RL 48 yX1_fillRow ∈ zbig := zw_of 977 (by decide +kernel) (by decide +kernel)
set_option maxRecDepth 20000 in
theorem zw_978 : Cond.instanceMethod yX1_fillRow ∈ zbig := zw_of 978 (by decide +kernel) (by decide +kernel)
set_option maxRecDepth 20000 in
theorem zw_979 : Cond.selects RX1 yX1_fillRow yX1_fillRow ∈ zbig := zw_of 979 (by decide +kernel) (by decide +kernel)
set_option maxRecDepth 20000 in
theorem zw_980 : Cond.code yX1_fillRow cX1_fillRow 7 (some .int) ∈ zbig := zw_of 980 (by decide +kernel) (by decide +kernel)
set_option maxRecDepth 20000 in
theorem zw_1098 : Cond.methodLink RL 205 yL_text ∈ zbig := zw_of 1098 (by decide +kernel) (by decide +kernel)
set_option maxRecDepth 20000 in
theorem zw_1099 : Cond.static yL_text ∈ zbig := zw_of 1099 (by decide +kernel) (by decide +kernel)
set_option maxRecDepth 20000 in
theorem zw_1100 : Cond.codeWith yL_text cL_text 4 (some .int) [(0, 9, 12, 31)] ∈ zbig := zw_of 1100 (by decide +kernel) (by decide +kernel)
set_option maxRecDepth 20000 in
theorem zw_1101 : Cond.methodLink RL 100 yX1_text ∈ zbig := zw_of 1101 (by decide +kernel) (by decide +kernel)
set_option maxRecDepth 20000 in
theorem zw_1102 : Cond.instanceMethod yX1_text ∈ zbig := zw_of 1102 (by decide +kernel) (by decide +kernel)
set_option maxRecDepth 20000 in
theorem zw_1103 : Cond.selects RX1 yX1_text yX1_text ∈ zbig := zw_of 1103 (by decide +kernel) (by decide +kernel)
set_option maxRecDepth 20000 in
theorem zw_1104 : Cond.code yX1_text cX1_text 2 (some (.object "java/lang/String")) ∈ zbig := zw_of 1104 (by decide +kernel) (by decide +kernel)
set_option maxRecDepth 20000 in
theorem zw_1105 : Cond.methodLink RX1 212 yJ4_toString_0e30d ∈ zbig := zw_of 1105 (by decide +kernel) (by decide +kernel)
set_option maxRecDepth 20000 in
theorem zw_1125 : Cond.classLink RL 118 RX4 ∈ zbig := zw_of 1125 (by decide +kernel) (by decide +kernel)
set_option maxRecDepth 20000 in
theorem zw_1126 : Cond.instantiable RX4 5 ∈ zbig := zw_of 1126 (by decide +kernel) (by decide +kernel)
set_option maxRecDepth 20000 in
theorem zw_1127 : Cond.methodLink RL 120 yX4_init ∈ zbig := zw_of 1127 (by decide +kernel) (by decide +kernel)
set_option maxRecDepth 20000 in
theorem zw_1128 : Cond.instanceMethod yX4_init ∈ zbig := zw_of 1128 (by decide +kernel) (by decide +kernel)
set_option maxRecDepth 20000 in
theorem zw_1129 : Cond.code yX4_init cX4_init 1 none ∈ zbig := zw_of 1129 (by decide +kernel) (by decide +kernel)
set_option maxRecDepth 20000 in
theorem zw_1130 : Cond.methodLink RX4 1 objectInit ∈ zbig := zw_of 1130 (by decide +kernel) (by decide +kernel)
set_option maxRecDepth 20000 in
theorem zw_1131 : Cond.classLink RX4 7 RJx4a65c ∈ zbig := zw_of 1131 (by decide +kernel) (by decide +kernel)
set_option maxRecDepth 20000 in
theorem zw_1132 : Cond.methodLink RX4 9 yJx4a65c_init_da8c8 ∈ zbig := zw_of 1132 (by decide +kernel) (by decide +kernel)
set_option maxRecDepth 20000 in
theorem zw_1133 : Cond.fieldLink RX4 16 "DeeprowsModel" "thrown" "I" ∈ zbig := zw_of 1133 (by decide +kernel) (by decide +kernel)
set_option maxRecDepth 20000 in
theorem zw_1134 : Cond.fieldLink RX4 10 "DeeprowsModel" "rows" "Ljava/util/ArrayList;" ∈ zbig := zw_of 1134 (by decide +kernel) (by decide +kernel)
set_option maxRecDepth 20000 in
theorem zw_1149 : Cond.methodLink RL 127 yX4_make ∈ zbig := zw_of 1149 (by decide +kernel) (by decide +kernel)
set_option maxRecDepth 20000 in
theorem zw_1150 : Cond.instanceMethod yX4_make ∈ zbig := zw_of 1150 (by decide +kernel) (by decide +kernel)
set_option maxRecDepth 20000 in
theorem zw_1151 : Cond.selects RX4 yX4_make yX4_make ∈ zbig := zw_of 1151 (by decide +kernel) (by decide +kernel)
set_option maxRecDepth 20000 in
theorem zw_1152 : Cond.code yX4_make cX4_make 3 (some .int) ∈ zbig := zw_of 1152 (by decide +kernel) (by decide +kernel)
set_option maxRecDepth 20000 in
theorem zw_1153 : Cond.methodLink RX4 28 yX4_isIn ∈ zbig := zw_of 1153 (by decide +kernel) (by decide +kernel)
set_option maxRecDepth 20000 in
theorem zw_1154 : Cond.static yX4_isIn ∈ zbig := zw_of 1154 (by decide +kernel) (by decide +kernel)
set_option maxRecDepth 20000 in
theorem zw_1155 : Cond.code yX4_isIn cX4_isIn 3 (some .boolean) ∈ zbig := zw_of 1155 (by decide +kernel) (by decide +kernel)
set_option maxRecDepth 20000 in
theorem zw_1156 : Cond.methodLink RX4 73 yX4_start ∈ zbig := zw_of 1156 (by decide +kernel) (by decide +kernel)
set_option maxRecDepth 20000 in
theorem zw_1158 : Cond.instanceMethod yX4_start ∈ zbig := zw_of 1158 (by decide +kernel) (by decide +kernel)
set_option maxRecDepth 20000 in
theorem zw_1159 : Cond.code yX4_start cX4_start 3 (some .boolean) ∈ zbig := zw_of 1159 (by decide +kernel) (by decide +kernel)
set_option maxRecDepth 20000 in
theorem zw_1160 : Cond.methodLink RX4 20 yX4_refuse ∈ zbig := zw_of 1160 (by decide +kernel) (by decide +kernel)
set_option maxRecDepth 20000 in
theorem zw_1162 : Cond.instanceMethod yX4_refuse ∈ zbig := zw_of 1162 (by decide +kernel) (by decide +kernel)
set_option maxRecDepth 20000 in
theorem zw_1163 : Cond.code yX4_refuse cX4_refuse 3 (some .boolean) ∈ zbig := zw_of 1163 (by decide +kernel) (by decide +kernel)
set_option maxRecDepth 20000 in
theorem zw_1164 : Cond.methodLink RX4 24 yJx4a65c_size_8abf5 ∈ zbig := zw_of 1164 (by decide +kernel) (by decide +kernel)
set_option maxRecDepth 20000 in
theorem zw_1165 : Cond.classLink RX4 40 "DeeprowsModel$Row" ∈ zbig := zw_of 1165 (by decide +kernel) (by decide +kernel)
set_option maxRecDepth 20000 in
theorem zw_1166 : Cond.instantiable RX3 3 ∈ zbig := zw_of 1166 (by decide +kernel) (by decide +kernel)
set_option maxRecDepth 20000 in
theorem zw_1167 : Cond.methodLink RX4 76 yX3_init ∈ zbig := zw_of 1167 (by decide +kernel) (by decide +kernel)
set_option maxRecDepth 20000 in
theorem zw_1168 : Cond.instanceMethod yX3_init ∈ zbig := zw_of 1168 (by decide +kernel) (by decide +kernel)
set_option maxRecDepth 20000 in
theorem zw_1169 : Cond.code yX3_init cX3_init 4 none ∈ zbig := zw_of 1169 (by decide +kernel) (by decide +kernel)
set_option maxRecDepth 20000 in
theorem zw_1170 : Cond.methodLink RX3 3 objectInit ∈ zbig := zw_of 1170 (by decide +kernel) (by decide +kernel)
set_option maxRecDepth 20000 in
theorem zw_1171 : Cond.methodLink RX3 22 yX3_put ∈ zbig := zw_of 1171 (by decide +kernel) (by decide +kernel)
set_option maxRecDepth 20000 in
theorem zw_1172 : Cond.instanceMethod yX3_put ∈ zbig := zw_of 1172 (by decide +kernel) (by decide +kernel)
set_option maxRecDepth 20000 in
theorem zw_1173 : Cond.selects RX3 yX3_put yX3_put ∈ zbig := zw_of 1173 (by decide +kernel) (by decide +kernel)
set_option maxRecDepth 20000 in
theorem zw_1174 : Cond.code yX3_put cX3_put 4 none ∈ zbig := zw_of 1174 (by decide +kernel) (by decide +kernel)
set_option maxRecDepth 20000 in
theorem zw_1175 : Cond.fieldLink RX3 9 "DeeprowsModel$Row" "kind" "I" ∈ zbig := zw_of 1175 (by decide +kernel) (by decide +kernel)
set_option maxRecDepth 20000 in
theorem zw_1176 : Cond.fieldLink RX4 103 "DeeprowsModel$Row" "kind" "I" ∈ zbig := zw_of 1176 (by decide +kernel) (by decide +kernel)
set_option maxRecDepth 20000 in
theorem zw_1177 : Cond.fieldLink RX3 15 "DeeprowsModel$Row" "whats" "[I" ∈ zbig := zw_of 1177 (by decide +kernel) (by decide +kernel)
set_option maxRecDepth 20000 in
theorem zw_1178 : Cond.fieldLink RX4 70 "DeeprowsModel$Row" "whats" "[I" ∈ zbig := zw_of 1178 (by decide +kernel) (by decide +kernel)
set_option maxRecDepth 20000 in
theorem zw_1179 : Cond.fieldLink RX3 19 "DeeprowsModel$Row" "numbers" "[I" ∈ zbig := zw_of 1179 (by decide +kernel) (by decide +kernel)
set_option maxRecDepth 20000 in
theorem zw_1180 : Cond.fieldLink RX4 48 "DeeprowsModel$Row" "numbers" "[I" ∈ zbig := zw_of 1180 (by decide +kernel) (by decide +kernel)
set_option maxRecDepth 20000 in
theorem zw_1188 : Cond.methodLink RX4 79 yJx4a65c_add_9ea2d ∈ zbig := zw_of 1188 (by decide +kernel) (by decide +kernel)
set_option maxRecDepth 20000 in
theorem zw_1208 : Cond.methodLink RX4 32 yX4_isNoRow ∈ zbig := zw_of 1208 (by decide +kernel) (by decide +kernel)
set_option maxRecDepth 20000 in
theorem zw_1210 : Cond.instanceMethod yX4_isNoRow ∈ zbig := zw_of 1210 (by decide +kernel) (by decide +kernel)
set_option maxRecDepth 20000 in
theorem zw_1211 : Cond.code yX4_isNoRow cX4_isNoRow 2 (some .boolean) ∈ zbig := zw_of 1211 (by decide +kernel) (by decide +kernel)
set_option maxRecDepth 20000 in
theorem zw_1212 : Cond.methodLink RX4 36 yJx4a65c_get_915e3 ∈ zbig := zw_of 1212 (by decide +kernel) (by decide +kernel)
set_option maxRecDepth 20000 in
theorem zw_1213 : Cond.methodLink RX4 42 yX3_length ∈ zbig := zw_of 1213 (by decide +kernel) (by decide +kernel)
set_option maxRecDepth 20000 in
theorem zw_1214 : Cond.instanceMethod yX3_length ∈ zbig := zw_of 1214 (by decide +kernel) (by decide +kernel)
set_option maxRecDepth 20000 in
theorem zw_1215 : Cond.selects RX3 yX3_length yX3_length ∈ zbig := zw_of 1215 (by decide +kernel) (by decide +kernel)
set_option maxRecDepth 20000 in
theorem zw_1216 : Cond.code yX3_length cX3_length 1 (some .int) ∈ zbig := zw_of 1216 (by decide +kernel) (by decide +kernel)
set_option maxRecDepth 20000 in
theorem zw_1232 : Cond.methodLink RX4 62 yX3_put ∈ zbig := zw_of 1232 (by decide +kernel) (by decide +kernel)
set_option maxRecDepth 20000 in
theorem zw_1241 : Cond.methodLink RX4 106 yX4_nowhere ∈ zbig := zw_of 1241 (by decide +kernel) (by decide +kernel)
set_option maxRecDepth 20000 in
theorem zw_1243 : Cond.instanceMethod yX4_nowhere ∈ zbig := zw_of 1243 (by decide +kernel) (by decide +kernel)
set_option maxRecDepth 20000 in
theorem zw_1244 : Cond.code yX4_nowhere cX4_nowhere 4 (some (.array .int)) ∈ zbig := zw_of 1244 (by decide +kernel) (by decide +kernel)
set_option maxRecDepth 20000 in
theorem zw_1245 : Cond.methodLink RX4 110 yX4_areHung ∈ zbig := zw_of 1245 (by decide +kernel) (by decide +kernel)
set_option maxRecDepth 20000 in
theorem zw_1247 : Cond.instanceMethod yX4_areHung ∈ zbig := zw_of 1247 (by decide +kernel) (by decide +kernel)
set_option maxRecDepth 20000 in
theorem zw_1248 : Cond.code yX4_areHung cX4_areHung 7 (some .boolean) ∈ zbig := zw_of 1248 (by decide +kernel) (by decide +kernel)
set_option maxRecDepth 20000 in
theorem zw_1249 : Cond.methodLink RX4 58 yX3_twin ∈ zbig := zw_of 1249 (by decide +kernel) (by decide +kernel)
set_option maxRecDepth 20000 in
theorem zw_1250 : Cond.instanceMethod yX3_twin ∈ zbig := zw_of 1250 (by decide +kernel) (by decide +kernel)
set_option maxRecDepth 20000 in
theorem zw_1251 : Cond.selects RX3 yX3_twin yX3_twin ∈ zbig := zw_of 1251 (by decide +kernel) (by decide +kernel)
set_option maxRecDepth 20000 in
theorem zw_1252 : Cond.code yX3_twin cX3_twin 4 (some (.object "DeeprowsModel$Row")) ∈ zbig := zw_of 1252 (by decide +kernel) (by decide +kernel)
set_option maxRecDepth 20000 in
theorem zw_1253 : Cond.classLink RX3 10 RX3 ∈ zbig := zw_of 1253 (by decide +kernel) (by decide +kernel)
set_option maxRecDepth 20000 in
theorem zw_1254 : Cond.methodLink RX3 36 yX3_init ∈ zbig := zw_of 1254 (by decide +kernel) (by decide +kernel)
set_option maxRecDepth 20000 in
theorem zw_1255 : Cond.methodLink RX3 39 yX3_length ∈ zbig := zw_of 1255 (by decide +kernel) (by decide +kernel)
set_option maxRecDepth 20000 in
theorem zw_1256 : Cond.methodLink RX4 66 yX4_depthOf ∈ zbig := zw_of 1256 (by decide +kernel) (by decide +kernel)
set_option maxRecDepth 20000 in
theorem zw_1258 : Cond.instanceMethod yX4_depthOf ∈ zbig := zw_of 1258 (by decide +kernel) (by decide +kernel)
set_option maxRecDepth 20000 in
theorem zw_1259 : Cond.code yX4_depthOf cX4_depthOf 6 (some .int) ∈ zbig := zw_of 1259 (by decide +kernel) (by decide +kernel)
set_option maxRecDepth 20000 in
theorem zw_1260 : Cond.methodLink RX4 45 yX3_hangs ∈ zbig := zw_of 1260 (by decide +kernel) (by decide +kernel)
set_option maxRecDepth 20000 in
theorem zw_1261 : Cond.instanceMethod yX3_hangs ∈ zbig := zw_of 1261 (by decide +kernel) (by decide +kernel)
set_option maxRecDepth 20000 in
theorem zw_1262 : Cond.selects RX3 yX3_hangs yX3_hangs ∈ zbig := zw_of 1262 (by decide +kernel) (by decide +kernel)
set_option maxRecDepth 20000 in
theorem zw_1263 : Cond.code yX3_hangs cX3_hangs 2 (some .boolean) ∈ zbig := zw_of 1263 (by decide +kernel) (by decide +kernel)
set_option maxRecDepth 20000 in
theorem zw_1264 : Cond.methodLink RX4 52 Lib.Math.max.name ∈ zbig := zw_of 1264 (by decide +kernel) (by decide +kernel)
set_option maxRecDepth 20000 in
theorem zw_1273 : Cond.methodLink RL 157 yX4_fillRow ∈ zbig := zw_of 1273 (by decide +kernel) (by decide +kernel)
set_option maxRecDepth 20000 in
theorem zw_1274 : Cond.instanceMethod yX4_fillRow ∈ zbig := zw_of 1274 (by decide +kernel) (by decide +kernel)
set_option maxRecDepth 20000 in
theorem zw_1275 : Cond.selects RX4 yX4_fillRow yX4_fillRow ∈ zbig := zw_of 1275 (by decide +kernel) (by decide +kernel)
set_option maxRecDepth 20000 in
theorem zw_1276 : Cond.code yX4_fillRow cX4_fillRow 5 (some .int) ∈ zbig := zw_of 1276 (by decide +kernel) (by decide +kernel)
set_option maxRecDepth 20000 in
theorem zw_1378 : Cond.methodLink RL 207 yX4_text ∈ zbig := zw_of 1378 (by decide +kernel) (by decide +kernel)
set_option maxRecDepth 20000 in
theorem zw_1379 : Cond.instanceMethod yX4_text ∈ zbig := zw_of 1379 (by decide +kernel) (by decide +kernel)
set_option maxRecDepth 20000 in
theorem zw_1380 : Cond.selects RX4 yX4_text yX4_text ∈ zbig := zw_of 1380 (by decide +kernel) (by decide +kernel)
set_option maxRecDepth 20000 in
theorem zw_1381 : Cond.code yX4_text cX4_text 2 (some (.object "java/lang/String")) ∈ zbig := zw_of 1381 (by decide +kernel) (by decide +kernel)
set_option maxRecDepth 20000 in
theorem zw_1383 : Cond.methodLink RX4 193 yX4_textOf ∈ zbig := zw_of 1383 (by decide +kernel) (by decide +kernel)
set_option maxRecDepth 20000 in
theorem zw_1385 : Cond.instanceMethod yX4_textOf ∈ zbig := zw_of 1385 (by decide +kernel) (by decide +kernel)
set_option maxRecDepth 20000 in
theorem zw_1386 : Cond.code yX4_textOf cX4_textOf 5 (some (.object "java/lang/String")) ∈ zbig := zw_of 1386 (by decide +kernel) (by decide +kernel)
set_option maxRecDepth 20000 in
theorem zw_1388 : Cond.classLink RX4 165 RJ4 ∈ zbig := zw_of 1388 (by decide +kernel) (by decide +kernel)
set_option maxRecDepth 20000 in
theorem zw_1389 : Cond.methodLink RX4 167 yJ4_init_da8c8 ∈ zbig := zw_of 1389 (by decide +kernel) (by decide +kernel)
set_option maxRecDepth 20000 in
theorem zw_1390 : Cond.methodLink RX4 170 yJ4_append_15ec4 ∈ zbig := zw_of 1390 (by decide +kernel) (by decide +kernel)
set_option maxRecDepth 20000 in
theorem zw_1392 : Cond.methodLink RX4 201 yX4_textAt ∈ zbig := zw_of 1392 (by decide +kernel) (by decide +kernel)
set_option maxRecDepth 20000 in
theorem zw_1394 : Cond.instanceMethod yX4_textAt ∈ zbig := zw_of 1394 (by decide +kernel) (by decide +kernel)
set_option maxRecDepth 20000 in
theorem zw_1395 : Cond.code yX4_textAt cX4_textAt 4 (some (.object "java/lang/String")) ∈ zbig := zw_of 1395 (by decide +kernel) (by decide +kernel)
set_option maxRecDepth 20000 in
theorem zw_1397 : Cond.methodLink RX4 177 yJ4_toString_0e30d ∈ zbig := zw_of 1397 (by decide +kernel) (by decide +kernel)
set_option maxRecDepth 20000 in
theorem zw_1464 : Cond.sameMethod "java/lang/AbstractStringBuilder" "java/lang/AbstractStringBuilder" "setLength" "(I)V" ∈ zbig := zw_of 1464 (by decide +kernel) (by decide +kernel)
set_option maxRecDepth 20000 in
theorem zw_1465 : Cond.sameMethod "java/lang/AbstractStringBuilder" "java/lang/AbstractStringBuilder" "append" "(Ljava/lang/String;)Ljava/lang/AbstractStringBuilder;" ∈ zbig := zw_of 1465 (by decide +kernel) (by decide +kernel)
set_option maxRecDepth 20000 in
theorem zw_1467 : Cond.sameMethod "java/lang/AbstractStringBuilder" "java/lang/AbstractStringBuilder" "ensureCapacityInternal" "(I)V" ∈ zbig := zw_of 1467 (by decide +kernel) (by decide +kernel)
set_option maxRecDepth 20000 in
theorem zw_1468 : Cond.sameMethod "java/lang/AbstractStringBuilder" "java/lang/AbstractStringBuilder" "newCapacity" "(I)I" ∈ zbig := zw_of 1468 (by decide +kernel) (by decide +kernel)
set_option maxRecDepth 20000 in
theorem zw_1469 : Cond.sameMethod "java/lang/AbstractStringBuilder" "java/lang/AbstractStringBuilder" "putStringAt" "(ILjava/lang/String;)V" ∈ zbig := zw_of 1469 (by decide +kernel) (by decide +kernel)
set_option maxRecDepth 20000 in
theorem zw_1470 : Cond.sameMethod "java/lang/AbstractStringBuilder" "java/lang/AbstractStringBuilder" "inflateIfNeededFor" "(Ljava/lang/String;)V" ∈ zbig := zw_of 1470 (by decide +kernel) (by decide +kernel)
set_option maxRecDepth 20000 in
theorem zw_1474 : Cond.sameMethod "java/lang/AbstractStringBuilder" "java/lang/AbstractStringBuilder" "append" "(C)Ljava/lang/AbstractStringBuilder;" ∈ zbig := zw_of 1474 (by decide +kernel) (by decide +kernel)
