theorem tw_661 : gW (.code yX3_readZone cX3_readZone 3 (some .boolean)) := ⟨tb_3 (List.mem_of_getElem? (i := 71) (by decide +kernel)), Or.inl rfl⟩

theorem tw_11 : gW (.selects RX3 yX3_readZone yX3_readZone) := ⟨tb_0 (List.mem_of_getElem? (i := 11) (by decide +kernel)), Or.inl rfl⟩

theorem tw_660 : gW (.instanceMethod yX3_readZone) := ⟨tb_3 (List.mem_of_getElem? (i := 70) (by decide +kernel)), Or.inl rfl⟩

theorem tw_658 : gW (.methodLink RX3 93 yX3_readZone) := ⟨tb_3 (List.mem_of_getElem? (i := 68) (by decide +kernel)), Or.inl rfl⟩

theorem tw_657 : gW (.methodLink RX3 90 yX4_next) := ⟨tb_3 (List.mem_of_getElem? (i := 67) (by decide +kernel)), Or.inl rfl⟩

theorem tw_656 : gW (.code yX3_onceBit cX3_onceBit 1 (some .int)) := ⟨tb_3 (List.mem_of_getElem? (i := 66) (by decide +kernel)), Or.inl rfl⟩

theorem tw_655 : gW (.static yX3_onceBit) := ⟨tb_3 (List.mem_of_getElem? (i := 65) (by decide +kernel)), Or.inl rfl⟩

theorem tw_654 : gW (.methodLink RX3 86 yX3_onceBit) := ⟨tb_3 (List.mem_of_getElem? (i := 64) (by decide +kernel)), Or.inl rfl⟩

theorem tw_653 : gW (.code yX3_mayStand cX3_mayStand 2 (some .boolean)) := ⟨tb_3 (List.mem_of_getElem? (i := 63) (by decide +kernel)), Or.inl rfl⟩

theorem tw_10 : gW (.selects RX3 yX3_mayStand yX3_mayStand) := ⟨tb_0 (List.mem_of_getElem? (i := 10) (by decide +kernel)), Or.inl rfl⟩

theorem tw_652 : gW (.instanceMethod yX3_mayStand) := ⟨tb_3 (List.mem_of_getElem? (i := 62) (by decide +kernel)), Or.inl rfl⟩

theorem tw_650 : gW (.methodLink RX3 82 yX3_mayStand) := ⟨tb_3 (List.mem_of_getElem? (i := 60) (by decide +kernel)), Or.inl rfl⟩

theorem tw_648 : gW (.fieldLink RJ2 63 "java/lang/StringUTF16" "LO_BYTE_SHIFT" "I") := ⟨tb_3 (List.mem_of_getElem? (i := 58) (by decide +kernel)), Or.inl rfl⟩

theorem tw_646 : gW (.fieldLink RJ2 59 "java/lang/StringUTF16" "HI_BYTE_SHIFT" "I") := ⟨tb_3 (List.mem_of_getElem? (i := 56) (by decide +kernel)), Or.inl rfl⟩

theorem tw_644 : gW (.fieldLink RJ2 44 "java/lang/StringUTF16" "$assertionsDisabled" "Z") := ⟨tb_3 (List.mem_of_getElem? (i := 54) (by decide +kernel)), Or.inl rfl⟩

theorem tw_643 : gW (.code yJ2_getChar_3b067 cJ2_getChar_3b067 2 (some .char)) := ⟨tb_3 (List.mem_of_getElem? (i := 53) (by decide +kernel)), Or.inl rfl⟩

theorem tw_642 : gW (.static yJ2_getChar_3b067) := ⟨tb_3 (List.mem_of_getElem? (i := 52) (by decide +kernel)), Or.inl rfl⟩

theorem tw_641 : gW (.methodLink RJ2 71 yJ2_getChar_3b067) := ⟨tb_3 (List.mem_of_getElem? (i := 51) (by decide +kernel)), Or.inl rfl⟩

theorem tw_640 : gW (.methodLink RJ2 414 yJ0_checkIndex_df160) := ⟨tb_3 (List.mem_of_getElem? (i := 50) (by decide +kernel)), Or.inl rfl⟩

theorem tw_639 : gW (.code yJ2_length_9d52b cJ2_length_9d52b 1 (some .int)) := ⟨tb_3 (List.mem_of_getElem? (i := 49) (by decide +kernel)), Or.inl rfl⟩

theorem tw_688 : gW (.selects RX4 yX4_isNumber yX4_isNumber) := ⟨tb_3 (List.mem_of_getElem? (i := 98) (by decide +kernel)), Or.inl rfl⟩

theorem tw_687 : gW (.instanceMethod yX4_isNumber) := ⟨tb_3 (List.mem_of_getElem? (i := 97) (by decide +kernel)), Or.inl rfl⟩

theorem tw_686 : gW (.methodLink RX3 122 yX4_isNumber) := ⟨tb_3 (List.mem_of_getElem? (i := 96) (by decide +kernel)), Or.inl rfl⟩

theorem tw_685 : gW (.code yX3_readRest cX3_readRest 4 (some .boolean)) := ⟨tb_3 (List.mem_of_getElem? (i := 95) (by decide +kernel)), Or.inl rfl⟩

theorem tw_12 : gW (.selects RX3 yX3_readRest yX3_readRest) := ⟨tb_0 (List.mem_of_getElem? (i := 12) (by decide +kernel)), Or.inl rfl⟩

theorem tw_684 : gW (.instanceMethod yX3_readRest) := ⟨tb_3 (List.mem_of_getElem? (i := 94) (by decide +kernel)), Or.inl rfl⟩

theorem tw_682 : gW (.methodLink RX3 96 yX3_readRest) := ⟨tb_3 (List.mem_of_getElem? (i := 92) (by decide +kernel)), Or.inl rfl⟩

theorem tw_681 : gW (.code yX4_taken cX4_taken 1 (some .int)) := ⟨tb_3 (List.mem_of_getElem? (i := 91) (by decide +kernel)), Or.inl rfl⟩

theorem tw_680 : gW (.selects RX4 yX4_taken yX4_taken) := ⟨tb_3 (List.mem_of_getElem? (i := 90) (by decide +kernel)), Or.inl rfl⟩

theorem tw_679 : gW (.instanceMethod yX4_taken) := ⟨tb_3 (List.mem_of_getElem? (i := 89) (by decide +kernel)), Or.inl rfl⟩

theorem tw_678 : gW (.methodLink RX3 118 yX4_taken) := ⟨tb_3 (List.mem_of_getElem? (i := 88) (by decide +kernel)), Or.inl rfl⟩

theorem tw_677 : gW (.code yX4_isNumberWithin cX4_isNumberWithin 3 (some .boolean)) := ⟨tb_3 (List.mem_of_getElem? (i := 87) (by decide +kernel)), Or.inl rfl⟩

theorem tw_676 : gW (.selects RX4 yX4_isNumberWithin yX4_isNumberWithin) := ⟨tb_3 (List.mem_of_getElem? (i := 86) (by decide +kernel)), Or.inl rfl⟩

theorem tw_675 : gW (.instanceMethod yX4_isNumberWithin) := ⟨tb_3 (List.mem_of_getElem? (i := 85) (by decide +kernel)), Or.inl rfl⟩

theorem tw_674 : gW (.methodLink RX4 67 yX4_isNumberWithin) := ⟨tb_3 (List.mem_of_getElem? (i := 84) (by decide +kernel)), Or.inl rfl⟩

theorem tw_168 : gW (.fieldLink RX4 71 "NoticeDesk$Parts" "taken" "I") := ⟨tb_1 (List.mem_of_getElem? (i := 58) (by decide +kernel)), Or.inl rfl⟩

theorem tw_673 : gW (.code yX4_takeNumber cX4_takeNumber 4 (some .boolean)) := ⟨tb_3 (List.mem_of_getElem? (i := 83) (by decide +kernel)), Or.inl rfl⟩

theorem tw_672 : gW (.selects RX4 yX4_takeNumber yX4_takeNumber) := ⟨tb_3 (List.mem_of_getElem? (i := 82) (by decide +kernel)), Or.inl rfl⟩

theorem tw_671 : gW (.instanceMethod yX4_takeNumber) := ⟨tb_3 (List.mem_of_getElem? (i := 81) (by decide +kernel)), Or.inl rfl⟩

theorem tw_670 : gW (.methodLink RX3 114 yX4_takeNumber) := ⟨tb_3 (List.mem_of_getElem? (i := 80) (by decide +kernel)), Or.inl rfl⟩

theorem tw_669 : gW (.code yX4_isSign cX4_isSign 2 (some .boolean)) := ⟨tb_3 (List.mem_of_getElem? (i := 79) (by decide +kernel)), Or.inl rfl⟩

theorem tw_668 : gW (.selects RX4 yX4_isSign yX4_isSign) := ⟨tb_3 (List.mem_of_getElem? (i := 78) (by decide +kernel)), Or.inl rfl⟩

theorem tw_667 : gW (.instanceMethod yX4_isSign) := ⟨tb_3 (List.mem_of_getElem? (i := 77) (by decide +kernel)), Or.inl rfl⟩

theorem tw_666 : gW (.methodLink RX4 63 yX4_isSign) := ⟨tb_3 (List.mem_of_getElem? (i := 76) (by decide +kernel)), Or.inl rfl⟩

theorem tw_714 : gW (.instanceMethod yX3_addTelling) := ⟨tb_3 (List.mem_of_getElem? (i := 124) (by decide +kernel)), Or.inl rfl⟩

theorem tw_712 : gW (.methodLink RX3 139 yX3_addTelling) := ⟨tb_3 (List.mem_of_getElem? (i := 122) (by decide +kernel)), Or.inl rfl⟩

theorem tw_711 : gW (.code yX3_highestNumber cX3_highestNumber 1 (some .int)) := ⟨tb_3 (List.mem_of_getElem? (i := 121) (by decide +kernel)), Or.inl rfl⟩

theorem tw_710 : gW (.static yX3_highestNumber) := ⟨tb_3 (List.mem_of_getElem? (i := 120) (by decide +kernel)), Or.inl rfl⟩

theorem tw_709 : gW (.methodLink RX3 136 yX3_highestNumber) := ⟨tb_3 (List.mem_of_getElem? (i := 119) (by decide +kernel)), Or.inl rfl⟩

theorem tw_708 : gW (.methodLink RX4 59 yX4_isWord) := ⟨tb_3 (List.mem_of_getElem? (i := 118) (by decide +kernel)), Or.inl rfl⟩

theorem tw_707 : gW (.code yX4_takeWord cX4_takeWord 3 (some .boolean)) := ⟨tb_3 (List.mem_of_getElem? (i := 117) (by decide +kernel)), Or.inl rfl⟩

theorem tw_706 : gW (.selects RX4 yX4_takeWord yX4_takeWord) := ⟨tb_3 (List.mem_of_getElem? (i := 116) (by decide +kernel)), Or.inl rfl⟩

theorem tw_705 : gW (.instanceMethod yX4_takeWord) := ⟨tb_3 (List.mem_of_getElem? (i := 115) (by decide +kernel)), Or.inl rfl⟩

theorem tw_704 : gW (.methodLink RX3 133 yX4_takeWord) := ⟨tb_3 (List.mem_of_getElem? (i := 114) (by decide +kernel)), Or.inl rfl⟩

theorem tw_702 : gW (.code yX3_readTelling cX3_readTelling 4 (some .boolean)) := ⟨tb_3 (List.mem_of_getElem? (i := 112) (by decide +kernel)), Or.inl rfl⟩

theorem tw_14 : gW (.selects RX3 yX3_readTelling yX3_readTelling) := ⟨tb_0 (List.mem_of_getElem? (i := 14) (by decide +kernel)), Or.inl rfl⟩

theorem tw_701 : gW (.instanceMethod yX3_readTelling) := ⟨tb_3 (List.mem_of_getElem? (i := 111) (by decide +kernel)), Or.inl rfl⟩

theorem tw_699 : gW (.methodLink RX3 102 yX3_readTelling) := ⟨tb_3 (List.mem_of_getElem? (i := 109) (by decide +kernel)), Or.inl rfl⟩

theorem tw_698 : gW (.code yX3_readOpen cX3_readOpen 2 (some .boolean)) := ⟨tb_3 (List.mem_of_getElem? (i := 108) (by decide +kernel)), Or.inl rfl⟩

theorem tw_13 : gW (.selects RX3 yX3_readOpen yX3_readOpen) := ⟨tb_0 (List.mem_of_getElem? (i := 13) (by decide +kernel)), Or.inl rfl⟩

theorem tw_697 : gW (.instanceMethod yX3_readOpen) := ⟨tb_3 (List.mem_of_getElem? (i := 107) (by decide +kernel)), Or.inl rfl⟩

theorem tw_695 : gW (.methodLink RX3 99 yX3_readOpen) := ⟨tb_3 (List.mem_of_getElem? (i := 105) (by decide +kernel)), Or.inl rfl⟩

theorem tw_694 : gW (.code yX4_value cX4_value 1 (some .int)) := ⟨tb_3 (List.mem_of_getElem? (i := 104) (by decide +kernel)), Or.inl rfl⟩

theorem tw_693 : gW (.selects RX4 yX4_value yX4_value) := ⟨tb_3 (List.mem_of_getElem? (i := 103) (by decide +kernel)), Or.inl rfl⟩

theorem tw_692 : gW (.instanceMethod yX4_value) := ⟨tb_3 (List.mem_of_getElem? (i := 102) (by decide +kernel)), Or.inl rfl⟩

theorem tw_691 : gW (.methodLink RX3 128 yX4_value) := ⟨tb_3 (List.mem_of_getElem? (i := 101) (by decide +kernel)), Or.inl rfl⟩

theorem tw_690 : gW (.methodLink RX3 125 yX4_isNumberWithin) := ⟨tb_3 (List.mem_of_getElem? (i := 100) (by decide +kernel)), Or.inl rfl⟩

theorem tw_689 : gW (.code yX4_isNumber cX4_isNumber 1 (some .boolean)) := ⟨tb_3 (List.mem_of_getElem? (i := 99) (by decide +kernel)), Or.inl rfl⟩

theorem tw_17 : gW (.selects RX9 yX9_readStep yX9_readStep) := ⟨tb_0 (List.mem_of_getElem? (i := 17) (by decide +kernel)), Or.inl rfl⟩

theorem tw_731 : gW (.instanceMethod yX9_readStep) := ⟨tb_3 (List.mem_of_getElem? (i := 141) (by decide +kernel)), Or.inl rfl⟩

theorem tw_729 : gW (.methodLink RX9 50 yX9_readStep) := ⟨tb_3 (List.mem_of_getElem? (i := 139) (by decide +kernel)), Or.inl rfl⟩

theorem tw_728 : gW (.methodLink RX9 45 yX4_start) := ⟨tb_3 (List.mem_of_getElem? (i := 138) (by decide +kernel)), Or.inl rfl⟩

theorem tw_321 : gW (.fieldLink RX9 41 "NoticeDesk$Way" "size" "I") := ⟨tb_1 (List.mem_of_getElem? (i := 211) (by decide +kernel)), Or.inl rfl⟩

theorem tw_727 : gW (.code yX9_read cX9_read 3 (some .boolean)) := ⟨tb_3 (List.mem_of_getElem? (i := 137) (by decide +kernel)), Or.inl rfl⟩

theorem tw_726 : gW (.selects RX9 yX9_read yX9_read) := ⟨tb_3 (List.mem_of_getElem? (i := 136) (by decide +kernel)), Or.inl rfl⟩

theorem tw_725 : gW (.instanceMethod yX9_read) := ⟨tb_3 (List.mem_of_getElem? (i := 135) (by decide +kernel)), Or.inl rfl⟩

theorem tw_724 : gW (.methodLink RX10 125 yX9_read) := ⟨tb_3 (List.mem_of_getElem? (i := 134) (by decide +kernel)), Or.inl rfl⟩

theorem tw_723 : gW (.code yX4_place cX4_place 1 (some .int)) := ⟨tb_3 (List.mem_of_getElem? (i := 133) (by decide +kernel)), Or.inl rfl⟩

theorem tw_722 : gW (.selects RX4 yX4_place yX4_place) := ⟨tb_3 (List.mem_of_getElem? (i := 132) (by decide +kernel)), Or.inl rfl⟩

theorem tw_721 : gW (.instanceMethod yX4_place) := ⟨tb_3 (List.mem_of_getElem? (i := 131) (by decide +kernel)), Or.inl rfl⟩

theorem tw_720 : gW (.methodLink RX10 129 yX4_place) := ⟨tb_3 (List.mem_of_getElem? (i := 130) (by decide +kernel)), Or.inl rfl⟩

theorem tw_719 : gW (.code yX10_faultUnless cX10_faultUnless 2 (some .int)) := ⟨tb_3 (List.mem_of_getElem? (i := 129) (by decide +kernel)), Or.inl rfl⟩

theorem tw_16 : gW (.selects RX10 yX10_faultUnless yX10_faultUnless) := ⟨tb_0 (List.mem_of_getElem? (i := 16) (by decide +kernel)), Or.inl rfl⟩

theorem tw_718 : gW (.instanceMethod yX10_faultUnless) := ⟨tb_3 (List.mem_of_getElem? (i := 128) (by decide +kernel)), Or.inl rfl⟩

theorem tw_716 : gW (.methodLink RX10 121 yX10_faultUnless) := ⟨tb_3 (List.mem_of_getElem? (i := 126) (by decide +kernel)), Or.inl rfl⟩

theorem tw_715 : gW (.code yX3_addTelling cX3_addTelling 4 (some .boolean)) := ⟨tb_3 (List.mem_of_getElem? (i := 125) (by decide +kernel)), Or.inl rfl⟩

theorem tw_15 : gW (.selects RX3 yX3_addTelling yX3_addTelling) := ⟨tb_0 (List.mem_of_getElem? (i := 15) (by decide +kernel)), Or.inl rfl⟩

theorem tw_18 : gW (.selects RX1 yX1_readStage yX1_readStage) := ⟨tb_0 (List.mem_of_getElem? (i := 18) (by decide +kernel)), Or.inl rfl⟩

theorem tw_761 : gW (.instanceMethod yX1_readStage) := ⟨tb_3 (List.mem_of_getElem? (i := 171) (by decide +kernel)), Or.inl rfl⟩

theorem tw_759 : gW (.methodLink RX1 39 yX1_readStage) := ⟨tb_3 (List.mem_of_getElem? (i := 169) (by decide +kernel)), Or.inl rfl⟩

theorem tw_758 : gW (.methodLink RX1 34 yX4_start) := ⟨tb_3 (List.mem_of_getElem? (i := 168) (by decide +kernel)), Or.inl rfl⟩

theorem tw_355 : gW (.fieldLink RX1 30 "NoticeDesk$Chain" "size" "I") := ⟨tb_2 (List.mem_of_getElem? (i := 5) (by decide +kernel)), Or.inl rfl⟩

theorem tw_757 : gW (.code yX1_read cX1_read 4 (some .boolean)) := ⟨tb_3 (List.mem_of_getElem? (i := 167) (by decide +kernel)), Or.inl rfl⟩

theorem tw_756 : gW (.selects RX1 yX1_read yX1_read) := ⟨tb_3 (List.mem_of_getElem? (i := 166) (by decide +kernel)), Or.inl rfl⟩

theorem tw_755 : gW (.instanceMethod yX1_read) := ⟨tb_3 (List.mem_of_getElem? (i := 165) (by decide +kernel)), Or.inl rfl⟩

theorem tw_754 : gW (.methodLink RX10 126 yX1_read) := ⟨tb_3 (List.mem_of_getElem? (i := 164) (by decide +kernel)), Or.inl rfl⟩

theorem tw_753 : gW (.methodLink RX9 54 yX4_isNothing) := ⟨tb_3 (List.mem_of_getElem? (i := 163) (by decide +kernel)), Or.inl rfl⟩

theorem tw_752 : gW (.methodLink RX9 69 yX4_taken) := ⟨tb_3 (List.mem_of_getElem? (i := 162) (by decide +kernel)), Or.inl rfl⟩

theorem tw_751 : gW (.methodLink RX9 65 yX4_takeNumber) := ⟨tb_3 (List.mem_of_getElem? (i := 161) (by decide +kernel)), Or.inl rfl⟩

theorem tw_750 : gW (.methodLink RX9 62 yX4_next) := ⟨tb_3 (List.mem_of_getElem? (i := 160) (by decide +kernel)), Or.inl rfl⟩

theorem tw_749 : gW (.methodLink RX9 77 yX4_isWord) := ⟨tb_3 (List.mem_of_getElem? (i := 159) (by decide +kernel)), Or.inl rfl⟩

theorem tw_738 : gW (.code yX9_wordOf cX9_wordOf 1 (some (.object "java/lang/String"))) := ⟨tb_3 (List.mem_of_getElem? (i := 148) (by decide +kernel)), Or.inl rfl⟩

theorem tw_737 : gW (.static yX9_wordOf) := ⟨tb_3 (List.mem_of_getElem? (i := 147) (by decide +kernel)), Or.inl rfl⟩

theorem tw_736 : gW (.methodLink RX9 73 yX9_wordOf) := ⟨tb_3 (List.mem_of_getElem? (i := 146) (by decide +kernel)), Or.inl rfl⟩

theorem tw_735 : gW (.code yX9_kindHere cX9_kindHere 2 (some .int)) := ⟨tb_3 (List.mem_of_getElem? (i := 145) (by decide +kernel)), Or.inl rfl⟩

theorem tw_734 : gW (.static yX9_kindHere) := ⟨tb_3 (List.mem_of_getElem? (i := 144) (by decide +kernel)), Or.inl rfl⟩

theorem tw_733 : gW (.methodLink RX9 58 yX9_kindHere) := ⟨tb_3 (List.mem_of_getElem? (i := 143) (by decide +kernel)), Or.inl rfl⟩

theorem tw_732 : gW (.code yX9_readStep cX9_readStep 5 (some .boolean)) := ⟨tb_3 (List.mem_of_getElem? (i := 142) (by decide +kernel)), Or.inl rfl⟩

theorem tw_780 : gW (.methodLink RX1 47 yX4_takeSign) := ⟨tb_3 (List.mem_of_getElem? (i := 190) (by decide +kernel)), Or.inl rfl⟩

theorem tw_779 : gW (.methodLink RX1 43 yX4_isNothing) := ⟨tb_3 (List.mem_of_getElem? (i := 189) (by decide +kernel)), Or.inl rfl⟩

theorem tw_776 : gW (.methodLink RX1 76 yX4_isWord) := ⟨tb_3 (List.mem_of_getElem? (i := 186) (by decide +kernel)), Or.inl rfl⟩

theorem tw_771 : gW (.methodLink RX1 60 yX4_taken) := ⟨tb_3 (List.mem_of_getElem? (i := 181) (by decide +kernel)), Or.inl rfl⟩

theorem tw_770 : gW (.methodLink RX1 66 yX4_takeNumber) := ⟨tb_3 (List.mem_of_getElem? (i := 180) (by decide +kernel)), Or.inl rfl⟩

theorem tw_769 : gW (.methodLink RX1 86 yX4_value) := ⟨tb_3 (List.mem_of_getElem? (i := 179) (by decide +kernel)), Or.inl rfl⟩

theorem tw_768 : gW (.methodLink RX1 83 yX4_isNumberWithin) := ⟨tb_3 (List.mem_of_getElem? (i := 178) (by decide +kernel)), Or.inl rfl⟩

theorem tw_767 : gW (.code yX1_takeWay cX1_takeWay 2 (some .boolean)) := ⟨tb_3 (List.mem_of_getElem? (i := 177) (by decide +kernel)), Or.inl rfl⟩

theorem tw_766 : gW (.static yX1_takeWay) := ⟨tb_3 (List.mem_of_getElem? (i := 176) (by decide +kernel)), Or.inl rfl⟩

theorem tw_765 : gW (.methodLink RX1 57 yX1_takeWay) := ⟨tb_3 (List.mem_of_getElem? (i := 175) (by decide +kernel)), Or.inl rfl⟩

theorem tw_764 : gW (.methodLink RX1 53 yX4_takeWord) := ⟨tb_3 (List.mem_of_getElem? (i := 174) (by decide +kernel)), Or.inl rfl⟩

theorem tw_762 : gW (.code yX1_readStage cX1_readStage 3 (some .boolean)) := ⟨tb_3 (List.mem_of_getElem? (i := 172) (by decide +kernel)), Or.inl rfl⟩

theorem tw_543 : gW (.code yX10_fault cX10_fault 2 (some .int)) := ⟨tb_2 (List.mem_of_getElem? (i := 193) (by decide +kernel)), Or.inl rfl⟩

theorem tw_1536 : gW (.selects RX11 yX11_fault yX11_fault) := ⟨tb_6 (List.mem_of_getElem? (i := 226) (by decide +kernel)), Or.inl rfl⟩

theorem tw_1535 : gW (.instanceMethod yX11_fault) := ⟨tb_6 (List.mem_of_getElem? (i := 225) (by decide +kernel)), Or.inl rfl⟩

theorem tw_1534 : gW (.methodLink RL 33 yX11_fault) := ⟨tb_6 (List.mem_of_getElem? (i := 224) (by decide +kernel)), Or.inl rfl⟩

theorem tw_1545 : gW (.code yX11_look cX11_look 1 (some .int)) := ⟨tb_6 (List.mem_of_getElem? (i := 235) (by decide +kernel)), Or.inl rfl⟩

theorem tw_59 : gW (.selects RX11 yX11_look yX11_look) := ⟨tb_0 (List.mem_of_getElem? (i := 59) (by decide +kernel)), Or.inl rfl⟩

theorem tw_1544 : gW (.instanceMethod yX11_look) := ⟨tb_6 (List.mem_of_getElem? (i := 234) (by decide +kernel)), Or.inl rfl⟩

theorem tw_1542 : gW (.methodLink RX11 106 yX11_look) := ⟨tb_6 (List.mem_of_getElem? (i := 232) (by decide +kernel)), Or.inl rfl⟩

theorem tw_1395 : gW (.fieldLink RX11 103 "NoticeDeskModel" "fault" "I") := ⟨tb_6 (List.mem_of_getElem? (i := 85) (by decide +kernel)), Or.inl rfl⟩

theorem tw_1394 : gW (.fieldLink RX11 96 "NoticeDeskModel" "at" "I") := ⟨tb_6 (List.mem_of_getElem? (i := 84) (by decide +kernel)), Or.inl rfl⟩

theorem tw_1541 : gW (.code yX11_readsLand cX11_readsLand 1 (some .int)) := ⟨tb_6 (List.mem_of_getElem? (i := 231) (by decide +kernel)), Or.inl rfl⟩

theorem tw_58 : gW (.selects RX11 yX11_readsLand yX11_readsLand) := ⟨tb_0 (List.mem_of_getElem? (i := 58) (by decide +kernel)), Or.inl rfl⟩

theorem tw_1540 : gW (.instanceMethod yX11_readsLand) := ⟨tb_6 (List.mem_of_getElem? (i := 230) (by decide +kernel)), Or.inl rfl⟩

theorem tw_1538 : gW (.methodLink RX11 263 yX11_readsLand) := ⟨tb_6 (List.mem_of_getElem? (i := 228) (by decide +kernel)), Or.inl rfl⟩

theorem tw_1559 : gW (.methodLink RX11 109 yJ0_length_8abf5) := ⟨tb_7 (List.mem_of_getElem? (i := 9) (by decide +kernel)), Or.inl rfl⟩

theorem tw_1558 : gW (.code yX11_word cX11_word 4 (some .boolean)) := ⟨tb_7 (List.mem_of_getElem? (i := 8) (by decide +kernel)), Or.inl rfl⟩

theorem tw_62 : gW (.selects RX11 yX11_word yX11_word) := ⟨tb_0 (List.mem_of_getElem? (i := 62) (by decide +kernel)), Or.inl rfl⟩

theorem tw_1557 : gW (.instanceMethod yX11_word) := ⟨tb_7 (List.mem_of_getElem? (i := 7) (by decide +kernel)), Or.inl rfl⟩

theorem tw_1555 : gW (.methodLink RX11 124 yX11_word) := ⟨tb_7 (List.mem_of_getElem? (i := 5) (by decide +kernel)), Or.inl rfl⟩

theorem tw_1553 : gW (.code yX11_piece cX11_piece 3 none) := ⟨tb_7 (List.mem_of_getElem? (i := 3) (by decide +kernel)), Or.inl rfl⟩

theorem tw_61 : gW (.selects RX11 yX11_piece yX11_piece) := ⟨tb_0 (List.mem_of_getElem? (i := 61) (by decide +kernel)), Or.inl rfl⟩

theorem tw_1552 : gW (.instanceMethod yX11_piece) := ⟨tb_7 (List.mem_of_getElem? (i := 2) (by decide +kernel)), Or.inl rfl⟩

theorem tw_1550 : gW (.methodLink RX11 208 yX11_piece) := ⟨tb_7 (List.mem_of_getElem? (i := 0) (by decide +kernel)), Or.inl rfl⟩

theorem tw_1549 : gW (.code yX11_here cX11_here 1 (some .int)) := ⟨tb_6 (List.mem_of_getElem? (i := 239) (by decide +kernel)), Or.inl rfl⟩

theorem tw_60 : gW (.selects RX11 yX11_here yX11_here) := ⟨tb_0 (List.mem_of_getElem? (i := 60) (by decide +kernel)), Or.inl rfl⟩

theorem tw_1548 : gW (.instanceMethod yX11_here) := ⟨tb_6 (List.mem_of_getElem? (i := 238) (by decide +kernel)), Or.inl rfl⟩

theorem tw_1546 : gW (.methodLink RX11 99 yX11_here) := ⟨tb_6 (List.mem_of_getElem? (i := 236) (by decide +kernel)), Or.inl rfl⟩

theorem tw_1560 : gW (.methodLink RX11 113 yJ0_charAt_5068e) := ⟨tb_7 (List.mem_of_getElem? (i := 10) (by decide +kernel)), Or.inl rfl⟩

theorem tw_1567 : gW (.instanceMethod yX11_fails) := ⟨tb_7 (List.mem_of_getElem? (i := 17) (by decide +kernel)), Or.inl rfl⟩

theorem tw_1565 : gW (.methodLink RX11 121 yX11_fails) := ⟨tb_7 (List.mem_of_getElem? (i := 15) (by decide +kernel)), Or.inl rfl⟩

theorem tw_1564 : gW (.code yX11_once cX11_once 3 (some .boolean)) := ⟨tb_7 (List.mem_of_getElem? (i := 14) (by decide +kernel)), Or.inl rfl⟩

theorem tw_63 : gW (.selects RX11 yX11_once yX11_once) := ⟨tb_0 (List.mem_of_getElem? (i := 63) (by decide +kernel)), Or.inl rfl⟩

theorem tw_1563 : gW (.instanceMethod yX11_once) := ⟨tb_7 (List.mem_of_getElem? (i := 13) (by decide +kernel)), Or.inl rfl⟩

theorem tw_1561 : gW (.methodLink RX11 182 yX11_once) := ⟨tb_7 (List.mem_of_getElem? (i := 11) (by decide +kernel)), Or.inl rfl⟩

theorem tw_69 : gW (.selects RX11 yX11_isDigit yX11_isDigit) := ⟨tb_0 (List.mem_of_getElem? (i := 69) (by decide +kernel)), Or.inl rfl⟩

theorem tw_1591 : gW (.instanceMethod yX11_isDigit) := ⟨tb_7 (List.mem_of_getElem? (i := 41) (by decide +kernel)), Or.inl rfl⟩

theorem tw_1589 : gW (.methodLink RX11 165 yX11_isDigit) := ⟨tb_7 (List.mem_of_getElem? (i := 39) (by decide +kernel)), Or.inl rfl⟩

theorem tw_1588 : gW (.code yX11_rests cX11_rests 6 none) := ⟨tb_7 (List.mem_of_getElem? (i := 38) (by decide +kernel)), Or.inl rfl⟩

theorem tw_68 : gW (.selects RX11 yX11_rests yX11_rests) := ⟨tb_0 (List.mem_of_getElem? (i := 68) (by decide +kernel)), Or.inl rfl⟩

theorem tw_1587 : gW (.instanceMethod yX11_rests) := ⟨tb_7 (List.mem_of_getElem? (i := 37) (by decide +kernel)), Or.inl rfl⟩

theorem tw_1585 : gW (.methodLink RX11 189 yX11_rests) := ⟨tb_7 (List.mem_of_getElem? (i := 35) (by decide +kernel)), Or.inl rfl⟩

theorem tw_1583 : gW (.code yX11_isIn cX11_isIn 6 (some .boolean)) := ⟨tb_7 (List.mem_of_getElem? (i := 33) (by decide +kernel)), Or.inl rfl⟩

theorem tw_1582 : gW (.static yX11_isIn) := ⟨tb_7 (List.mem_of_getElem? (i := 32) (by decide +kernel)), Or.inl rfl⟩

theorem tw_1581 : gW (.methodLink RX11 117 yX11_isIn) := ⟨tb_7 (List.mem_of_getElem? (i := 31) (by decide +kernel)), Or.inl rfl⟩

theorem tw_1580 : gW (.code yX11_number cX11_number 6 (some .int)) := ⟨tb_7 (List.mem_of_getElem? (i := 30) (by decide +kernel)), Or.inl rfl⟩

theorem tw_67 : gW (.selects RX11 yX11_number yX11_number) := ⟨tb_0 (List.mem_of_getElem? (i := 67) (by decide +kernel)), Or.inl rfl⟩

theorem tw_1579 : gW (.instanceMethod yX11_number) := ⟨tb_7 (List.mem_of_getElem? (i := 29) (by decide +kernel)), Or.inl rfl⟩

theorem tw_1577 : gW (.methodLink RX11 132 yX11_number) := ⟨tb_7 (List.mem_of_getElem? (i := 27) (by decide +kernel)), Or.inl rfl⟩

theorem tw_1576 : gW (.code yX11_takes cX11_takes 2 (some .boolean)) := ⟨tb_7 (List.mem_of_getElem? (i := 26) (by decide +kernel)), Or.inl rfl⟩

theorem tw_66 : gW (.selects RX11 yX11_takes yX11_takes) := ⟨tb_0 (List.mem_of_getElem? (i := 66) (by decide +kernel)), Or.inl rfl⟩

theorem tw_1575 : gW (.instanceMethod yX11_takes) := ⟨tb_7 (List.mem_of_getElem? (i := 25) (by decide +kernel)), Or.inl rfl⟩

theorem tw_1573 : gW (.methodLink RX11 158 yX11_takes) := ⟨tb_7 (List.mem_of_getElem? (i := 23) (by decide +kernel)), Or.inl rfl⟩

theorem tw_1572 : gW (.code yX11_zones cX11_zones 3 none) := ⟨tb_7 (List.mem_of_getElem? (i := 22) (by decide +kernel)), Or.inl rfl⟩

theorem tw_65 : gW (.selects RX11 yX11_zones yX11_zones) := ⟨tb_0 (List.mem_of_getElem? (i := 65) (by decide +kernel)), Or.inl rfl⟩

theorem tw_1571 : gW (.instanceMethod yX11_zones) := ⟨tb_7 (List.mem_of_getElem? (i := 21) (by decide +kernel)), Or.inl rfl⟩

theorem tw_1569 : gW (.methodLink RX11 185 yX11_zones) := ⟨tb_7 (List.mem_of_getElem? (i := 19) (by decide +kernel)), Or.inl rfl⟩

theorem tw_1568 : gW (.code yX11_fails cX11_fails 2 none) := ⟨tb_7 (List.mem_of_getElem? (i := 18) (by decide +kernel)), Or.inl rfl⟩

theorem tw_64 : gW (.selects RX11 yX11_fails yX11_fails) := ⟨tb_0 (List.mem_of_getElem? (i := 64) (by decide +kernel)), Or.inl rfl⟩

theorem tw_75 : gW (.selects RX11 yX11_tells yX11_tells) := ⟨tb_0 (List.mem_of_getElem? (i := 75) (by decide +kernel)), Or.inl rfl⟩

theorem tw_1620 : gW (.instanceMethod yX11_tells) := ⟨tb_7 (List.mem_of_getElem? (i := 70) (by decide +kernel)), Or.inl rfl⟩

theorem tw_1618 : gW (.methodLink RX11 175 yX11_tells) := ⟨tb_7 (List.mem_of_getElem? (i := 68) (by decide +kernel)), Or.inl rfl⟩

theorem tw_1617 : gW (.code yX11_must cX11_must 2 none) := ⟨tb_7 (List.mem_of_getElem? (i := 67) (by decide +kernel)), Or.inl rfl⟩

theorem tw_74 : gW (.selects RX11 yX11_must yX11_must) := ⟨tb_0 (List.mem_of_getElem? (i := 74) (by decide +kernel)), Or.inl rfl⟩

theorem tw_1616 : gW (.instanceMethod yX11_must) := ⟨tb_7 (List.mem_of_getElem? (i := 66) (by decide +kernel)), Or.inl rfl⟩

theorem tw_1614 : gW (.methodLink RX11 128 yX11_must) := ⟨tb_7 (List.mem_of_getElem? (i := 64) (by decide +kernel)), Or.inl rfl⟩

theorem tw_1613 : gW (.code yX11_after cX11_after 4 (some .int)) := ⟨tb_7 (List.mem_of_getElem? (i := 63) (by decide +kernel)), Or.inl rfl⟩

theorem tw_73 : gW (.selects RX11 yX11_after yX11_after) := ⟨tb_0 (List.mem_of_getElem? (i := 73) (by decide +kernel)), Or.inl rfl⟩

theorem tw_1612 : gW (.instanceMethod yX11_after) := ⟨tb_7 (List.mem_of_getElem? (i := 62) (by decide +kernel)), Or.inl rfl⟩

theorem tw_1610 : gW (.methodLink RX11 171 yX11_after) := ⟨tb_7 (List.mem_of_getElem? (i := 60) (by decide +kernel)), Or.inl rfl⟩

theorem tw_1608 : gW (.code yX11_firsts cX11_firsts 5 none) := ⟨tb_7 (List.mem_of_getElem? (i := 58) (by decide +kernel)), Or.inl rfl⟩

theorem tw_72 : gW (.selects RX11 yX11_firsts yX11_firsts) := ⟨tb_0 (List.mem_of_getElem? (i := 72) (by decide +kernel)), Or.inl rfl⟩

theorem tw_1607 : gW (.instanceMethod yX11_firsts) := ⟨tb_7 (List.mem_of_getElem? (i := 57) (by decide +kernel)), Or.inl rfl⟩

theorem tw_1605 : gW (.methodLink RX11 178 yX11_firsts) := ⟨tb_7 (List.mem_of_getElem? (i := 55) (by decide +kernel)), Or.inl rfl⟩

theorem tw_1604 : gW (.code yX11_holiday cX11_holiday 5 none) := ⟨tb_7 (List.mem_of_getElem? (i := 54) (by decide +kernel)), Or.inl rfl⟩

theorem tw_71 : gW (.selects RX11 yX11_holiday yX11_holiday) := ⟨tb_0 (List.mem_of_getElem? (i := 71) (by decide +kernel)), Or.inl rfl⟩

theorem tw_1603 : gW (.instanceMethod yX11_holiday) := ⟨tb_7 (List.mem_of_getElem? (i := 53) (by decide +kernel)), Or.inl rfl⟩

theorem tw_1601 : gW (.methodLink RX11 201 yX11_holiday) := ⟨tb_7 (List.mem_of_getElem? (i := 51) (by decide +kernel)), Or.inl rfl⟩

theorem tw_1597 : gW (.code yX11_opens cX11_opens 1 none) := ⟨tb_7 (List.mem_of_getElem? (i := 47) (by decide +kernel)), Or.inl rfl⟩

theorem tw_70 : gW (.selects RX11 yX11_opens yX11_opens) := ⟨tb_0 (List.mem_of_getElem? (i := 70) (by decide +kernel)), Or.inl rfl⟩

theorem tw_1596 : gW (.instanceMethod yX11_opens) := ⟨tb_7 (List.mem_of_getElem? (i := 46) (by decide +kernel)), Or.inl rfl⟩

theorem tw_1594 : gW (.methodLink RX11 194 yX11_opens) := ⟨tb_7 (List.mem_of_getElem? (i := 44) (by decide +kernel)), Or.inl rfl⟩

theorem tw_1592 : gW (.code yX11_isDigit cX11_isDigit 2 (some .boolean)) := ⟨tb_7 (List.mem_of_getElem? (i := 42) (by decide +kernel)), Or.inl rfl⟩

theorem tw_1651 : gW (.methodLink RX11 252 yX11_lastNumber) := ⟨tb_7 (List.mem_of_getElem? (i := 101) (by decide +kernel)), Or.inl rfl⟩

theorem tw_1649 : gW (.code yX11_readsStage cX11_readsStage 3 none) := ⟨tb_7 (List.mem_of_getElem? (i := 99) (by decide +kernel)), Or.inl rfl⟩

theorem tw_79 : gW (.selects RX11 yX11_readsStage yX11_readsStage) := ⟨tb_0 (List.mem_of_getElem? (i := 79) (by decide +kernel)), Or.inl rfl⟩

theorem tw_1648 : gW (.instanceMethod yX11_readsStage) := ⟨tb_7 (List.mem_of_getElem? (i := 98) (by decide +kernel)), Or.inl rfl⟩

theorem tw_1646 : gW (.methodLink RX11 260 yX11_readsStage) := ⟨tb_7 (List.mem_of_getElem? (i := 96) (by decide +kernel)), Or.inl rfl⟩

theorem tw_1419 : gW (.fieldLink RX11 247 "NoticeDeskModel" "stagesRead" "I") := ⟨tb_6 (List.mem_of_getElem? (i := 109) (by decide +kernel)), Or.inl rfl⟩

theorem tw_1645 : gW (.code yX11_readsChain cX11_readsChain 1 (some .int)) := ⟨tb_7 (List.mem_of_getElem? (i := 95) (by decide +kernel)), Or.inl rfl⟩

theorem tw_78 : gW (.selects RX11 yX11_readsChain yX11_readsChain) := ⟨tb_0 (List.mem_of_getElem? (i := 78) (by decide +kernel)), Or.inl rfl⟩

theorem tw_1644 : gW (.instanceMethod yX11_readsChain) := ⟨tb_7 (List.mem_of_getElem? (i := 94) (by decide +kernel)), Or.inl rfl⟩

theorem tw_1642 : gW (.methodLink RX11 269 yX11_readsChain) := ⟨tb_7 (List.mem_of_getElem? (i := 92) (by decide +kernel)), Or.inl rfl⟩

theorem tw_1631 : gW (.code yX11_stepHere cX11_stepHere 1 (some .int)) := ⟨tb_7 (List.mem_of_getElem? (i := 81) (by decide +kernel)), Or.inl rfl⟩

theorem tw_77 : gW (.selects RX11 yX11_stepHere yX11_stepHere) := ⟨tb_0 (List.mem_of_getElem? (i := 77) (by decide +kernel)), Or.inl rfl⟩

theorem tw_1630 : gW (.instanceMethod yX11_stepHere) := ⟨tb_7 (List.mem_of_getElem? (i := 80) (by decide +kernel)), Or.inl rfl⟩

theorem tw_1628 : gW (.methodLink RX11 242 yX11_stepHere) := ⟨tb_7 (List.mem_of_getElem? (i := 78) (by decide +kernel)), Or.inl rfl⟩

theorem tw_1415 : gW (.fieldLink RX11 239 "NoticeDeskModel" "stepsRead" "I") := ⟨tb_6 (List.mem_of_getElem? (i := 105) (by decide +kernel)), Or.inl rfl⟩

theorem tw_1627 : gW (.code yX11_readsWay cX11_readsWay 4 (some .int)) := ⟨tb_7 (List.mem_of_getElem? (i := 77) (by decide +kernel)), Or.inl rfl⟩

theorem tw_76 : gW (.selects RX11 yX11_readsWay yX11_readsWay) := ⟨tb_0 (List.mem_of_getElem? (i := 76) (by decide +kernel)), Or.inl rfl⟩

theorem tw_1626 : gW (.instanceMethod yX11_readsWay) := ⟨tb_7 (List.mem_of_getElem? (i := 76) (by decide +kernel)), Or.inl rfl⟩

theorem tw_1624 : gW (.methodLink RX11 266 yX11_readsWay) := ⟨tb_7 (List.mem_of_getElem? (i := 74) (by decide +kernel)), Or.inl rfl⟩

theorem tw_1621 : gW (.code yX11_tells cX11_tells 2 none) := ⟨tb_7 (List.mem_of_getElem? (i := 71) (by decide +kernel)), Or.inl rfl⟩

theorem tw_1654 : gW (.code yX11_lastNumber cX11_lastNumber 2 (some .int)) := ⟨tb_7 (List.mem_of_getElem? (i := 104) (by decide +kernel)), Or.inl rfl⟩

theorem tw_80 : gW (.selects RX11 yX11_lastNumber yX11_lastNumber) := ⟨tb_0 (List.mem_of_getElem? (i := 80) (by decide +kernel)), Or.inl rfl⟩

theorem tw_1653 : gW (.instanceMethod yX11_lastNumber) := ⟨tb_7 (List.mem_of_getElem? (i := 103) (by decide +kernel)), Or.inl rfl⟩

theorem tw_1537 : gW (.code yX11_fault cX11_fault 2 (some .int)) := ⟨tb_6 (List.mem_of_getElem? (i := 227) (by decide +kernel)), Or.inl rfl⟩

theorem tw_784 : gW (.selects RX10 yX10_land yX10_land) := ⟨tb_3 (List.mem_of_getElem? (i := 194) (by decide +kernel)), Or.inl rfl⟩

theorem tw_783 : gW (.instanceMethod yX10_land) := ⟨tb_3 (List.mem_of_getElem? (i := 193) (by decide +kernel)), Or.inl rfl⟩

theorem tw_782 : gW (.methodLink RL 34 yX10_land) := ⟨tb_3 (List.mem_of_getElem? (i := 192) (by decide +kernel)), Or.inl rfl⟩

theorem tw_788 : gW (.code yX10_isLand cX10_isLand 1 (some .boolean)) := ⟨tb_3 (List.mem_of_getElem? (i := 198) (by decide +kernel)), Or.inl rfl⟩

theorem tw_787 : gW (.static yX10_isLand) := ⟨tb_3 (List.mem_of_getElem? (i := 197) (by decide +kernel)), Or.inl rfl⟩

theorem tw_786 : gW (.methodLink RX10 132 yX10_isLand) := ⟨tb_3 (List.mem_of_getElem? (i := 196) (by decide +kernel)), Or.inl rfl⟩

theorem tw_789 : gW (.methodLink RX10 135 yX2_adopt) := ⟨tb_3 (List.mem_of_getElem? (i := 199) (by decide +kernel)), Or.inl rfl⟩

theorem tw_785 : gW (.code yX10_land cX10_land 2 (some .int)) := ⟨tb_3 (List.mem_of_getElem? (i := 195) (by decide +kernel)), Or.inl rfl⟩

theorem tw_1660 : gW (.selects RX11 yX11_land yX11_land) := ⟨tb_7 (List.mem_of_getElem? (i := 110) (by decide +kernel)), Or.inl rfl⟩

theorem tw_1659 : gW (.instanceMethod yX11_land) := ⟨tb_7 (List.mem_of_getElem? (i := 109) (by decide +kernel)), Or.inl rfl⟩

theorem tw_1658 : gW (.methodLink RL 37 yX11_land) := ⟨tb_7 (List.mem_of_getElem? (i := 108) (by decide +kernel)), Or.inl rfl⟩

theorem tw_1664 : gW (.code yX11_isLand cX11_isLand 1 (some .boolean)) := ⟨tb_7 (List.mem_of_getElem? (i := 114) (by decide +kernel)), Or.inl rfl⟩

theorem tw_1663 : gW (.static yX11_isLand) := ⟨tb_7 (List.mem_of_getElem? (i := 113) (by decide +kernel)), Or.inl rfl⟩

theorem tw_1662 : gW (.methodLink RX11 214 yX11_isLand) := ⟨tb_7 (List.mem_of_getElem? (i := 112) (by decide +kernel)), Or.inl rfl⟩

theorem tw_1661 : gW (.code yX11_land cX11_land 2 (some .int)) := ⟨tb_7 (List.mem_of_getElem? (i := 111) (by decide +kernel)), Or.inl rfl⟩

theorem tw_792 : gW (.selects RX10 yX10_way yX10_way) := ⟨tb_3 (List.mem_of_getElem? (i := 202) (by decide +kernel)), Or.inl rfl⟩

theorem tw_791 : gW (.instanceMethod yX10_way) := ⟨tb_3 (List.mem_of_getElem? (i := 201) (by decide +kernel)), Or.inl rfl⟩

theorem tw_790 : gW (.methodLink RL 38 yX10_way) := ⟨tb_3 (List.mem_of_getElem? (i := 200) (by decide +kernel)), Or.inl rfl⟩

theorem tw_804 : gW (.code yX9_writeText cX9_writeText 2 none) := ⟨tb_3 (List.mem_of_getElem? (i := 214) (by decide +kernel)), Or.inl rfl⟩

theorem tw_19 : gW (.selects RX9 yX9_writeText yX9_writeText) := ⟨tb_0 (List.mem_of_getElem? (i := 19) (by decide +kernel)), Or.inl rfl⟩

theorem tw_803 : gW (.instanceMethod yX9_writeText) := ⟨tb_3 (List.mem_of_getElem? (i := 213) (by decide +kernel)), Or.inl rfl⟩

theorem tw_801 : gW (.methodLink RX9 87 yX9_writeText) := ⟨tb_3 (List.mem_of_getElem? (i := 211) (by decide +kernel)), Or.inl rfl⟩

theorem tw_129 : gW (.initialized "java/lang/System") := ⟨tb_1 (List.mem_of_getElem? (i := 19) (by decide +kernel)), Or.inl rfl⟩

theorem tw_799 : gW (.static arraycopyName) := ⟨tb_3 (List.mem_of_getElem? (i := 209) (by decide +kernel)), Or.inl rfl⟩

theorem tw_800 : gW (.native arraycopyName) := ⟨tb_3 (List.mem_of_getElem? (i := 210) (by decide +kernel)), Or.inl rfl⟩

theorem tw_798 : gW (.methodLink RX9 81 arraycopyName) := ⟨tb_3 (List.mem_of_getElem? (i := 208) (by decide +kernel)), Or.inl rfl⟩

theorem tw_797 : gW (.code yX9_copyFrom cX9_copyFrom 2 none) := ⟨tb_3 (List.mem_of_getElem? (i := 207) (by decide +kernel)), Or.inl rfl⟩

theorem tw_796 : gW (.selects RX9 yX9_copyFrom yX9_copyFrom) := ⟨tb_3 (List.mem_of_getElem? (i := 206) (by decide +kernel)), Or.inl rfl⟩

theorem tw_795 : gW (.instanceMethod yX9_copyFrom) := ⟨tb_3 (List.mem_of_getElem? (i := 205) (by decide +kernel)), Or.inl rfl⟩

theorem tw_794 : gW (.methodLink RX10 142 yX9_copyFrom) := ⟨tb_3 (List.mem_of_getElem? (i := 204) (by decide +kernel)), Or.inl rfl⟩

theorem tw_818 : gW (.code yX9_writeNumber cX9_writeNumber 2 none) := ⟨tb_3 (List.mem_of_getElem? (i := 228) (by decide +kernel)), Or.inl rfl⟩

theorem tw_22 : gW (.selects RX9 yX9_writeNumber yX9_writeNumber) := ⟨tb_0 (List.mem_of_getElem? (i := 22) (by decide +kernel)), Or.inl rfl⟩

theorem tw_817 : gW (.instanceMethod yX9_writeNumber) := ⟨tb_3 (List.mem_of_getElem? (i := 227) (by decide +kernel)), Or.inl rfl⟩

theorem tw_815 : gW (.methodLink RX9 101 yX9_writeNumber) := ⟨tb_3 (List.mem_of_getElem? (i := 225) (by decide +kernel)), Or.inl rfl⟩

theorem tw_814 : gW (.methodLink RX9 109 yJ0_charAt_5068e) := ⟨tb_3 (List.mem_of_getElem? (i := 224) (by decide +kernel)), Or.inl rfl⟩

theorem tw_813 : gW (.methodLink RX9 104 yJ0_length_8abf5) := ⟨tb_3 (List.mem_of_getElem? (i := 223) (by decide +kernel)), Or.inl rfl⟩

theorem tw_812 : gW (.code yX9_writeWord cX9_writeWord 3 none) := ⟨tb_3 (List.mem_of_getElem? (i := 222) (by decide +kernel)), Or.inl rfl⟩

theorem tw_21 : gW (.selects RX9 yX9_writeWord yX9_writeWord) := ⟨tb_0 (List.mem_of_getElem? (i := 21) (by decide +kernel)), Or.inl rfl⟩

theorem tw_811 : gW (.instanceMethod yX9_writeWord) := ⟨tb_3 (List.mem_of_getElem? (i := 221) (by decide +kernel)), Or.inl rfl⟩

theorem tw_809 : gW (.methodLink RX9 97 yX9_writeWord) := ⟨tb_3 (List.mem_of_getElem? (i := 219) (by decide +kernel)), Or.inl rfl⟩

theorem tw_808 : gW (.code yX9_writeByte cX9_writeByte 2 none) := ⟨tb_3 (List.mem_of_getElem? (i := 218) (by decide +kernel)), Or.inl rfl⟩

theorem tw_20 : gW (.selects RX9 yX9_writeByte yX9_writeByte) := ⟨tb_0 (List.mem_of_getElem? (i := 20) (by decide +kernel)), Or.inl rfl⟩

theorem tw_807 : gW (.instanceMethod yX9_writeByte) := ⟨tb_3 (List.mem_of_getElem? (i := 217) (by decide +kernel)), Or.inl rfl⟩

theorem tw_805 : gW (.methodLink RX9 93 yX9_writeByte) := ⟨tb_3 (List.mem_of_getElem? (i := 215) (by decide +kernel)), Or.inl rfl⟩

theorem tw_324 : gW (.fieldLink RX9 90 "NoticeDesk$Way" "textSize" "I") := ⟨tb_1 (List.mem_of_getElem? (i := 214) (by decide +kernel)), Or.inl rfl⟩

theorem tw_793 : gW (.code yX10_way cX10_way 2 (some .int)) := ⟨tb_3 (List.mem_of_getElem? (i := 203) (by decide +kernel)), Or.inl rfl⟩

theorem tw_1667 : gW (.selects RX11 yX11_way yX11_way) := ⟨tb_7 (List.mem_of_getElem? (i := 117) (by decide +kernel)), Or.inl rfl⟩

theorem tw_1666 : gW (.instanceMethod yX11_way) := ⟨tb_7 (List.mem_of_getElem? (i := 116) (by decide +kernel)), Or.inl rfl⟩

theorem tw_1665 : gW (.methodLink RL 41 yX11_way) := ⟨tb_7 (List.mem_of_getElem? (i := 115) (by decide +kernel)), Or.inl rfl⟩

theorem tw_1669 : gW (.constantLong RX11 245 (7)) := ⟨tb_7 (List.mem_of_getElem? (i := 119) (by decide +kernel)), Or.inl rfl⟩

theorem tw_1668 : gW (.code yX11_way cX11_way 3 (some .int)) := ⟨tb_7 (List.mem_of_getElem? (i := 118) (by decide +kernel)), Or.inl rfl⟩

theorem tw_821 : gW (.selects RX10 yX10_chain yX10_chain) := ⟨tb_3 (List.mem_of_getElem? (i := 231) (by decide +kernel)), Or.inl rfl⟩

theorem tw_820 : gW (.instanceMethod yX10_chain) := ⟨tb_3 (List.mem_of_getElem? (i := 230) (by decide +kernel)), Or.inl rfl⟩

theorem tw_819 : gW (.methodLink RL 42 yX10_chain) := ⟨tb_3 (List.mem_of_getElem? (i := 229) (by decide +kernel)), Or.inl rfl⟩

theorem tw_827 : gW (.methodLink RX1 92 arraycopyName) := ⟨tb_3 (List.mem_of_getElem? (i := 237) (by decide +kernel)), Or.inl rfl⟩

theorem tw_826 : gW (.code yX1_copyFrom cX1_copyFrom 2 none) := ⟨tb_3 (List.mem_of_getElem? (i := 236) (by decide +kernel)), Or.inl rfl⟩

theorem tw_825 : gW (.selects RX1 yX1_copyFrom yX1_copyFrom) := ⟨tb_3 (List.mem_of_getElem? (i := 235) (by decide +kernel)), Or.inl rfl⟩

theorem tw_824 : gW (.instanceMethod yX1_copyFrom) := ⟨tb_3 (List.mem_of_getElem? (i := 234) (by decide +kernel)), Or.inl rfl⟩

theorem tw_823 : gW (.methodLink RX10 149 yX1_copyFrom) := ⟨tb_3 (List.mem_of_getElem? (i := 233) (by decide +kernel)), Or.inl rfl⟩

theorem tw_822 : gW (.code yX10_chain cX10_chain 2 (some .int)) := ⟨tb_3 (List.mem_of_getElem? (i := 232) (by decide +kernel)), Or.inl rfl⟩

theorem tw_1672 : gW (.selects RX11 yX11_chain yX11_chain) := ⟨tb_7 (List.mem_of_getElem? (i := 122) (by decide +kernel)), Or.inl rfl⟩

theorem tw_1671 : gW (.instanceMethod yX11_chain) := ⟨tb_7 (List.mem_of_getElem? (i := 121) (by decide +kernel)), Or.inl rfl⟩

theorem tw_1670 : gW (.methodLink RL 45 yX11_chain) := ⟨tb_7 (List.mem_of_getElem? (i := 120) (by decide +kernel)), Or.inl rfl⟩

theorem tw_1674 : gW (.constantLong RX11 272 (5)) := ⟨tb_7 (List.mem_of_getElem? (i := 124) (by decide +kernel)), Or.inl rfl⟩

theorem tw_1673 : gW (.code yX11_chain cX11_chain 3 (some .int)) := ⟨tb_7 (List.mem_of_getElem? (i := 123) (by decide +kernel)), Or.inl rfl⟩

theorem tw_830 : gW (.selects RX10 yX10_rule yX10_rule) := ⟨tb_4 (List.mem_of_getElem? (i := 0) (by decide +kernel)), Or.inl rfl⟩

theorem tw_829 : gW (.instanceMethod yX10_rule) := ⟨tb_3 (List.mem_of_getElem? (i := 239) (by decide +kernel)), Or.inl rfl⟩

theorem tw_828 : gW (.methodLink RL 46 yX10_rule) := ⟨tb_3 (List.mem_of_getElem? (i := 238) (by decide +kernel)), Or.inl rfl⟩

theorem tw_832 : gW (.constant RX10 153 (-1000000)) := ⟨tb_4 (List.mem_of_getElem? (i := 2) (by decide +kernel)), Or.inl rfl⟩

theorem tw_831 : gW (.code yX10_rule cX10_rule 4 (some .int)) := ⟨tb_4 (List.mem_of_getElem? (i := 1) (by decide +kernel)), Or.inl rfl⟩

theorem tw_1677 : gW (.selects RX11 yX11_rule yX11_rule) := ⟨tb_7 (List.mem_of_getElem? (i := 127) (by decide +kernel)), Or.inl rfl⟩

theorem tw_1676 : gW (.instanceMethod yX11_rule) := ⟨tb_7 (List.mem_of_getElem? (i := 126) (by decide +kernel)), Or.inl rfl⟩

theorem tw_1675 : gW (.methodLink RL 49 yX11_rule) := ⟨tb_7 (List.mem_of_getElem? (i := 125) (by decide +kernel)), Or.inl rfl⟩

theorem tw_1679 : gW (.constant RX11 274 (-1000000)) := ⟨tb_7 (List.mem_of_getElem? (i := 129) (by decide +kernel)), Or.inl rfl⟩

theorem tw_1678 : gW (.code yX11_rule cX11_rule 3 (some .int)) := ⟨tb_7 (List.mem_of_getElem? (i := 128) (by decide +kernel)), Or.inl rfl⟩

theorem tw_835 : gW (.selects RX10 yX10_day yX10_day) := ⟨tb_4 (List.mem_of_getElem? (i := 5) (by decide +kernel)), Or.inl rfl⟩

theorem tw_834 : gW (.instanceMethod yX10_day) := ⟨tb_4 (List.mem_of_getElem? (i := 4) (by decide +kernel)), Or.inl rfl⟩

theorem tw_833 : gW (.methodLink RL 50 yX10_day) := ⟨tb_4 (List.mem_of_getElem? (i := 3) (by decide +kernel)), Or.inl rfl⟩

theorem tw_844 : gW (.methodLink RX10 179 yX2_isRest) := ⟨tb_4 (List.mem_of_getElem? (i := 14) (by decide +kernel)), Or.inl rfl⟩

theorem tw_843 : gW (.code yX2_isWorkday cX2_isWorkday 2 (some .boolean)) := ⟨tb_4 (List.mem_of_getElem? (i := 13) (by decide +kernel)), Or.inl rfl⟩

theorem tw_842 : gW (.selects RX2 yX2_isWorkday yX2_isWorkday) := ⟨tb_4 (List.mem_of_getElem? (i := 12) (by decide +kernel)), Or.inl rfl⟩

theorem tw_841 : gW (.instanceMethod yX2_isWorkday) := ⟨tb_4 (List.mem_of_getElem? (i := 11) (by decide +kernel)), Or.inl rfl⟩

theorem tw_840 : gW (.methodLink RX10 176 yX2_isWorkday) := ⟨tb_4 (List.mem_of_getElem? (i := 10) (by decide +kernel)), Or.inl rfl⟩

theorem tw_839 : gW (.code yX10_isDay cX10_isDay 1 (some .boolean)) := ⟨tb_4 (List.mem_of_getElem? (i := 9) (by decide +kernel)), Or.inl rfl⟩

theorem tw_838 : gW (.static yX10_isDay) := ⟨tb_4 (List.mem_of_getElem? (i := 8) (by decide +kernel)), Or.inl rfl⟩

theorem tw_837 : gW (.methodLink RX10 173 yX10_isDay) := ⟨tb_4 (List.mem_of_getElem? (i := 7) (by decide +kernel)), Or.inl rfl⟩

theorem tw_836 : gW (.code yX10_day cX10_day 3 (some .int)) := ⟨tb_4 (List.mem_of_getElem? (i := 6) (by decide +kernel)), Or.inl rfl⟩

theorem tw_1682 : gW (.selects RX11 yX11_day yX11_day) := ⟨tb_7 (List.mem_of_getElem? (i := 132) (by decide +kernel)), Or.inl rfl⟩

theorem tw_1681 : gW (.instanceMethod yX11_day) := ⟨tb_7 (List.mem_of_getElem? (i := 131) (by decide +kernel)), Or.inl rfl⟩

theorem tw_1680 : gW (.methodLink RL 53 yX11_day) := ⟨tb_7 (List.mem_of_getElem? (i := 130) (by decide +kernel)), Or.inl rfl⟩

theorem tw_1687 : gW (.constantLong RX11 218 (3999)) := ⟨tb_7 (List.mem_of_getElem? (i := 137) (by decide +kernel)), Or.inl rfl⟩

theorem tw_1686 : gW (.code yX11_isDay cX11_isDay 1 (some .boolean)) := ⟨tb_7 (List.mem_of_getElem? (i := 136) (by decide +kernel)), Or.inl rfl⟩

theorem tw_1685 : gW (.static yX11_isDay) := ⟨tb_7 (List.mem_of_getElem? (i := 135) (by decide +kernel)), Or.inl rfl⟩

theorem tw_1684 : gW (.methodLink RX11 275 yX11_isDay) := ⟨tb_7 (List.mem_of_getElem? (i := 134) (by decide +kernel)), Or.inl rfl⟩

theorem tw_1683 : gW (.code yX11_day cX11_day 3 (some .int)) := ⟨tb_7 (List.mem_of_getElem? (i := 133) (by decide +kernel)), Or.inl rfl⟩

theorem tw_847 : gW (.selects RX10 yX10_plus yX10_plus) := ⟨tb_4 (List.mem_of_getElem? (i := 17) (by decide +kernel)), Or.inl rfl⟩

theorem tw_846 : gW (.instanceMethod yX10_plus) := ⟨tb_4 (List.mem_of_getElem? (i := 16) (by decide +kernel)), Or.inl rfl⟩

theorem tw_845 : gW (.methodLink RL 54 yX10_plus) := ⟨tb_4 (List.mem_of_getElem? (i := 15) (by decide +kernel)), Or.inl rfl⟩

theorem tw_857 : gW (.methodLink RX2 82 yX2_workdayAt) := ⟨tb_4 (List.mem_of_getElem? (i := 27) (by decide +kernel)), Or.inl rfl⟩

theorem tw_856 : gW (.code yX2_workdaysBefore cX2_workdaysBefore 3 (some .int)) := ⟨tb_4 (List.mem_of_getElem? (i := 26) (by decide +kernel)), Or.inl rfl⟩

theorem tw_855 : gW (.selects RX2 yX2_workdaysBefore yX2_workdaysBefore) := ⟨tb_4 (List.mem_of_getElem? (i := 25) (by decide +kernel)), Or.inl rfl⟩

theorem tw_854 : gW (.instanceMethod yX2_workdaysBefore) := ⟨tb_4 (List.mem_of_getElem? (i := 24) (by decide +kernel)), Or.inl rfl⟩

theorem tw_853 : gW (.methodLink RX2 78 yX2_workdaysBefore) := ⟨tb_4 (List.mem_of_getElem? (i := 23) (by decide +kernel)), Or.inl rfl⟩

theorem tw_852 : gW (.code yX2_workdayBehind cX2_workdayBehind 3 (some .int)) := ⟨tb_4 (List.mem_of_getElem? (i := 22) (by decide +kernel)), Or.inl rfl⟩

theorem tw_851 : gW (.selects RX2 yX2_workdayBehind yX2_workdayBehind) := ⟨tb_4 (List.mem_of_getElem? (i := 21) (by decide +kernel)), Or.inl rfl⟩

theorem tw_850 : gW (.instanceMethod yX2_workdayBehind) := ⟨tb_4 (List.mem_of_getElem? (i := 20) (by decide +kernel)), Or.inl rfl⟩

theorem tw_849 : gW (.methodLink RX10 182 yX2_workdayBehind) := ⟨tb_4 (List.mem_of_getElem? (i := 19) (by decide +kernel)), Or.inl rfl⟩

theorem tw_864 : gW (.code yX2_workdayAhead cX2_workdayAhead 3 (some .int)) := ⟨tb_4 (List.mem_of_getElem? (i := 34) (by decide +kernel)), Or.inl rfl⟩

theorem tw_863 : gW (.selects RX2 yX2_workdayAhead yX2_workdayAhead) := ⟨tb_4 (List.mem_of_getElem? (i := 33) (by decide +kernel)), Or.inl rfl⟩

theorem tw_862 : gW (.instanceMethod yX2_workdayAhead) := ⟨tb_4 (List.mem_of_getElem? (i := 32) (by decide +kernel)), Or.inl rfl⟩

theorem tw_861 : gW (.methodLink RX10 186 yX2_workdayAhead) := ⟨tb_4 (List.mem_of_getElem? (i := 31) (by decide +kernel)), Or.inl rfl⟩

theorem tw_860 : gW (.code yX2_workdayAt cX2_workdayAt 6 (some .int)) := ⟨tb_4 (List.mem_of_getElem? (i := 30) (by decide +kernel)), Or.inl rfl⟩

theorem tw_23 : gW (.selects RX2 yX2_workdayAt yX2_workdayAt) := ⟨tb_0 (List.mem_of_getElem? (i := 23) (by decide +kernel)), Or.inl rfl⟩

theorem tw_859 : gW (.instanceMethod yX2_workdayAt) := ⟨tb_4 (List.mem_of_getElem? (i := 29) (by decide +kernel)), Or.inl rfl⟩

theorem tw_848 : gW (.code yX10_plus cX10_plus 6 (some .int)) := ⟨tb_4 (List.mem_of_getElem? (i := 18) (by decide +kernel)), Or.inl rfl⟩

theorem tw_1690 : gW (.selects RX11 yX11_plus yX11_plus) := ⟨tb_7 (List.mem_of_getElem? (i := 140) (by decide +kernel)), Or.inl rfl⟩

theorem tw_1689 : gW (.instanceMethod yX11_plus) := ⟨tb_7 (List.mem_of_getElem? (i := 139) (by decide +kernel)), Or.inl rfl⟩

theorem tw_1688 : gW (.methodLink RL 58 yX11_plus) := ⟨tb_7 (List.mem_of_getElem? (i := 138) (by decide +kernel)), Or.inl rfl⟩

theorem tw_1699 : gW (.code yX11_onFrom cX11_onFrom 7 (some .int)) := ⟨tb_7 (List.mem_of_getElem? (i := 149) (by decide +kernel)), Or.inl rfl⟩

theorem tw_82 : gW (.selects RX11 yX11_onFrom yX11_onFrom) := ⟨tb_0 (List.mem_of_getElem? (i := 82) (by decide +kernel)), Or.inl rfl⟩

theorem tw_1698 : gW (.instanceMethod yX11_onFrom) := ⟨tb_7 (List.mem_of_getElem? (i := 148) (by decide +kernel)), Or.inl rfl⟩

theorem tw_1696 : gW (.methodLink RX11 281 yX11_onFrom) := ⟨tb_7 (List.mem_of_getElem? (i := 146) (by decide +kernel)), Or.inl rfl⟩

theorem tw_1695 : gW (.code yX11_isWorkday cX11_isWorkday 3 (some .boolean)) := ⟨tb_7 (List.mem_of_getElem? (i := 145) (by decide +kernel)), Or.inl rfl⟩

theorem tw_81 : gW (.selects RX11 yX11_isWorkday yX11_isWorkday) := ⟨tb_0 (List.mem_of_getElem? (i := 81) (by decide +kernel)), Or.inl rfl⟩

theorem tw_1694 : gW (.instanceMethod yX11_isWorkday) := ⟨tb_7 (List.mem_of_getElem? (i := 144) (by decide +kernel)), Or.inl rfl⟩

theorem tw_1692 : gW (.methodLink RX11 278 yX11_isWorkday) := ⟨tb_7 (List.mem_of_getElem? (i := 142) (by decide +kernel)), Or.inl rfl⟩

theorem tw_1691 : gW (.code yX11_plus cX11_plus 4 (some .int)) := ⟨tb_7 (List.mem_of_getElem? (i := 141) (by decide +kernel)), Or.inl rfl⟩

theorem tw_867 : gW (.selects RX10 yX10_both yX10_both) := ⟨tb_4 (List.mem_of_getElem? (i := 37) (by decide +kernel)), Or.inl rfl⟩

theorem tw_866 : gW (.instanceMethod yX10_both) := ⟨tb_4 (List.mem_of_getElem? (i := 36) (by decide +kernel)), Or.inl rfl⟩

theorem tw_865 : gW (.methodLink RL 59 yX10_both) := ⟨tb_4 (List.mem_of_getElem? (i := 35) (by decide +kernel)), Or.inl rfl⟩

theorem tw_872 : gW (.code yX10_isWorkdayOfBoth cX10_isWorkdayOfBoth 2 (some .boolean)) := ⟨tb_4 (List.mem_of_getElem? (i := 42) (by decide +kernel)), Or.inl rfl⟩

theorem tw_24 : gW (.selects RX10 yX10_isWorkdayOfBoth yX10_isWorkdayOfBoth) := ⟨tb_0 (List.mem_of_getElem? (i := 24) (by decide +kernel)), Or.inl rfl⟩

theorem tw_871 : gW (.instanceMethod yX10_isWorkdayOfBoth) := ⟨tb_4 (List.mem_of_getElem? (i := 41) (by decide +kernel)), Or.inl rfl⟩

theorem tw_869 : gW (.methodLink RX10 189 yX10_isWorkdayOfBoth) := ⟨tb_4 (List.mem_of_getElem? (i := 39) (by decide +kernel)), Or.inl rfl⟩

theorem tw_868 : gW (.code yX10_both cX10_both 6 (some .int)) := ⟨tb_4 (List.mem_of_getElem? (i := 38) (by decide +kernel)), Or.inl rfl⟩

theorem tw_1823 : gW (.selects RX11 yX11_both yX11_both) := ⟨tb_8 (List.mem_of_getElem? (i := 33) (by decide +kernel)), Or.inl rfl⟩

theorem tw_1822 : gW (.instanceMethod yX11_both) := ⟨tb_8 (List.mem_of_getElem? (i := 32) (by decide +kernel)), Or.inl rfl⟩

theorem tw_1821 : gW (.methodLink RL 62 yX11_both) := ⟨tb_8 (List.mem_of_getElem? (i := 31) (by decide +kernel)), Or.inl rfl⟩

theorem tw_1828 : gW (.code yX11_isSo cX11_isSo 5 (some .boolean)) := ⟨tb_8 (List.mem_of_getElem? (i := 38) (by decide +kernel)), Or.inl rfl⟩

theorem tw_96 : gW (.selects RX11 yX11_isSo yX11_isSo) := ⟨tb_0 (List.mem_of_getElem? (i := 96) (by decide +kernel)), Or.inl rfl⟩

theorem tw_1827 : gW (.instanceMethod yX11_isSo) := ⟨tb_8 (List.mem_of_getElem? (i := 37) (by decide +kernel)), Or.inl rfl⟩

theorem tw_1825 : gW (.methodLink RX11 356 yX11_isSo) := ⟨tb_8 (List.mem_of_getElem? (i := 35) (by decide +kernel)), Or.inl rfl⟩

theorem tw_1824 : gW (.code yX11_both cX11_both 5 (some .int)) := ⟨tb_8 (List.mem_of_getElem? (i := 34) (by decide +kernel)), Or.inl rfl⟩

theorem tw_875 : gW (.selects RX10 yX10_open yX10_open) := ⟨tb_4 (List.mem_of_getElem? (i := 45) (by decide +kernel)), Or.inl rfl⟩

theorem tw_874 : gW (.instanceMethod yX10_open) := ⟨tb_4 (List.mem_of_getElem? (i := 44) (by decide +kernel)), Or.inl rfl⟩

theorem tw_873 : gW (.methodLink RL 63 yX10_open) := ⟨tb_4 (List.mem_of_getElem? (i := 43) (by decide +kernel)), Or.inl rfl⟩

theorem tw_888 : gW (.code yJ9_floorDiv_7cf53 cJ9_floorDiv_7cf53 3 (some .int)) := ⟨tb_4 (List.mem_of_getElem? (i := 58) (by decide +kernel)), Or.inl rfl⟩

theorem tw_887 : gW (.static yJ9_floorDiv_7cf53) := ⟨tb_4 (List.mem_of_getElem? (i := 57) (by decide +kernel)), Or.inl rfl⟩

theorem tw_886 : gW (.methodLink RX2 92 yJ9_floorDiv_7cf53) := ⟨tb_4 (List.mem_of_getElem? (i := 56) (by decide +kernel)), Or.inl rfl⟩

theorem tw_885 : gW (.methodLink RX2 86 yJ9_floorMod_7cf53) := ⟨tb_4 (List.mem_of_getElem? (i := 55) (by decide +kernel)), Or.inl rfl⟩

theorem tw_884 : gW (.code yX2_isOpenAt cX2_isOpenAt 4 (some .boolean)) := ⟨tb_4 (List.mem_of_getElem? (i := 54) (by decide +kernel)), Or.inl rfl⟩

theorem tw_883 : gW (.selects RX2 yX2_isOpenAt yX2_isOpenAt) := ⟨tb_4 (List.mem_of_getElem? (i := 53) (by decide +kernel)), Or.inl rfl⟩

theorem tw_882 : gW (.instanceMethod yX2_isOpenAt) := ⟨tb_4 (List.mem_of_getElem? (i := 52) (by decide +kernel)), Or.inl rfl⟩

theorem tw_881 : gW (.methodLink RX10 195 yX2_isOpenAt) := ⟨tb_4 (List.mem_of_getElem? (i := 51) (by decide +kernel)), Or.inl rfl⟩

theorem tw_880 : gW (.code yX10_openHours cX10_openHours 5 (some .int)) := ⟨tb_4 (List.mem_of_getElem? (i := 50) (by decide +kernel)), Or.inl rfl⟩

theorem tw_25 : gW (.selects RX10 yX10_openHours yX10_openHours) := ⟨tb_0 (List.mem_of_getElem? (i := 25) (by decide +kernel)), Or.inl rfl⟩

theorem tw_879 : gW (.instanceMethod yX10_openHours) := ⟨tb_4 (List.mem_of_getElem? (i := 49) (by decide +kernel)), Or.inl rfl⟩

theorem tw_877 : gW (.methodLink RX10 192 yX10_openHours) := ⟨tb_4 (List.mem_of_getElem? (i := 47) (by decide +kernel)), Or.inl rfl⟩

theorem tw_889 : gW (.methodLink RX2 95 yX2_isWorkday) := ⟨tb_4 (List.mem_of_getElem? (i := 59) (by decide +kernel)), Or.inl rfl⟩

theorem tw_876 : gW (.code yX10_open cX10_open 5 (some .int)) := ⟨tb_4 (List.mem_of_getElem? (i := 46) (by decide +kernel)), Or.inl rfl⟩

theorem tw_1840 : gW (.selects RX11 yX11_open yX11_open) := ⟨tb_8 (List.mem_of_getElem? (i := 50) (by decide +kernel)), Or.inl rfl⟩

theorem tw_1839 : gW (.instanceMethod yX11_open) := ⟨tb_8 (List.mem_of_getElem? (i := 49) (by decide +kernel)), Or.inl rfl⟩

theorem tw_1838 : gW (.methodLink RL 66 yX11_open) := ⟨tb_8 (List.mem_of_getElem? (i := 48) (by decide +kernel)), Or.inl rfl⟩

theorem tw_1714 : gW (.constantLong RX11 285 (95999)) := ⟨tb_7 (List.mem_of_getElem? (i := 164) (by decide +kernel)), Or.inl rfl⟩

theorem tw_1713 : gW (.code yX11_isMoment cX11_isMoment 2 (some .boolean)) := ⟨tb_7 (List.mem_of_getElem? (i := 163) (by decide +kernel)), Or.inl rfl⟩

theorem tw_1712 : gW (.static yX11_isMoment) := ⟨tb_7 (List.mem_of_getElem? (i := 162) (by decide +kernel)), Or.inl rfl⟩

theorem tw_1711 : gW (.methodLink RX11 290 yX11_isMoment) := ⟨tb_7 (List.mem_of_getElem? (i := 161) (by decide +kernel)), Or.inl rfl⟩

theorem tw_1846 : gW (.code yX11_isOpen cX11_isOpen 4 (some .boolean)) := ⟨tb_8 (List.mem_of_getElem? (i := 56) (by decide +kernel)), Or.inl rfl⟩

theorem tw_98 : gW (.selects RX11 yX11_isOpen yX11_isOpen) := ⟨tb_0 (List.mem_of_getElem? (i := 98) (by decide +kernel)), Or.inl rfl⟩

theorem tw_1845 : gW (.instanceMethod yX11_isOpen) := ⟨tb_8 (List.mem_of_getElem? (i := 55) (by decide +kernel)), Or.inl rfl⟩

theorem tw_1843 : gW (.methodLink RX11 373 yX11_isOpen) := ⟨tb_8 (List.mem_of_getElem? (i := 53) (by decide +kernel)), Or.inl rfl⟩

theorem tw_1842 : gW (.constantLong RX11 371 (3)) := ⟨tb_8 (List.mem_of_getElem? (i := 52) (by decide +kernel)), Or.inl rfl⟩

theorem tw_1841 : gW (.code yX11_open cX11_open 8 (some .int)) := ⟨tb_8 (List.mem_of_getElem? (i := 51) (by decide +kernel)), Or.inl rfl⟩

theorem tw_892 : gW (.selects RX10 yX10_dark yX10_dark) := ⟨tb_4 (List.mem_of_getElem? (i := 62) (by decide +kernel)), Or.inl rfl⟩

theorem tw_891 : gW (.instanceMethod yX10_dark) := ⟨tb_4 (List.mem_of_getElem? (i := 61) (by decide +kernel)), Or.inl rfl⟩

theorem tw_890 : gW (.methodLink RL 67 yX10_dark) := ⟨tb_4 (List.mem_of_getElem? (i := 60) (by decide +kernel)), Or.inl rfl⟩

theorem tw_900 : gW (.code yX10_isDarkAt cX10_isDarkAt 2 (some .boolean)) := ⟨tb_4 (List.mem_of_getElem? (i := 70) (by decide +kernel)), Or.inl rfl⟩

theorem tw_26 : gW (.selects RX10 yX10_isDarkAt yX10_isDarkAt) := ⟨tb_0 (List.mem_of_getElem? (i := 26) (by decide +kernel)), Or.inl rfl⟩

theorem tw_899 : gW (.instanceMethod yX10_isDarkAt) := ⟨tb_4 (List.mem_of_getElem? (i := 69) (by decide +kernel)), Or.inl rfl⟩

theorem tw_897 : gW (.methodLink RX10 202 yX10_isDarkAt) := ⟨tb_4 (List.mem_of_getElem? (i := 67) (by decide +kernel)), Or.inl rfl⟩

theorem tw_896 : gW (.code yX10_isSpan cX10_isSpan 3 (some .boolean)) := ⟨tb_4 (List.mem_of_getElem? (i := 66) (by decide +kernel)), Or.inl rfl⟩

theorem tw_895 : gW (.static yX10_isSpan) := ⟨tb_4 (List.mem_of_getElem? (i := 65) (by decide +kernel)), Or.inl rfl⟩

theorem tw_894 : gW (.methodLink RX10 198 yX10_isSpan) := ⟨tb_4 (List.mem_of_getElem? (i := 64) (by decide +kernel)), Or.inl rfl⟩

theorem tw_893 : gW (.code yX10_dark cX10_dark 8 (some .int)) := ⟨tb_4 (List.mem_of_getElem? (i := 63) (by decide +kernel)), Or.inl rfl⟩

theorem tw_1849 : gW (.selects RX11 yX11_dark yX11_dark) := ⟨tb_8 (List.mem_of_getElem? (i := 59) (by decide +kernel)), Or.inl rfl⟩

theorem tw_1848 : gW (.instanceMethod yX11_dark) := ⟨tb_8 (List.mem_of_getElem? (i := 58) (by decide +kernel)), Or.inl rfl⟩

theorem tw_1847 : gW (.methodLink RL 70 yX11_dark) := ⟨tb_8 (List.mem_of_getElem? (i := 57) (by decide +kernel)), Or.inl rfl⟩

theorem tw_1850 : gW (.code yX11_dark cX11_dark 8 (some .int)) := ⟨tb_8 (List.mem_of_getElem? (i := 60) (by decide +kernel)), Or.inl rfl⟩

theorem tw_903 : gW (.selects RX10 yX10_between yX10_between) := ⟨tb_4 (List.mem_of_getElem? (i := 73) (by decide +kernel)), Or.inl rfl⟩

theorem tw_902 : gW (.instanceMethod yX10_between) := ⟨tb_4 (List.mem_of_getElem? (i := 72) (by decide +kernel)), Or.inl rfl⟩

theorem tw_901 : gW (.methodLink RL 71 yX10_between) := ⟨tb_4 (List.mem_of_getElem? (i := 71) (by decide +kernel)), Or.inl rfl⟩

theorem tw_905 : gW (.methodLink RX10 205 yX2_workdaysBefore) := ⟨tb_4 (List.mem_of_getElem? (i := 75) (by decide +kernel)), Or.inl rfl⟩

theorem tw_904 : gW (.code yX10_between cX10_between 5 (some .int)) := ⟨tb_4 (List.mem_of_getElem? (i := 74) (by decide +kernel)), Or.inl rfl⟩

theorem tw_1702 : gW (.selects RX11 yX11_between yX11_between) := ⟨tb_7 (List.mem_of_getElem? (i := 152) (by decide +kernel)), Or.inl rfl⟩

theorem tw_1701 : gW (.instanceMethod yX11_between) := ⟨tb_7 (List.mem_of_getElem? (i := 151) (by decide +kernel)), Or.inl rfl⟩

theorem tw_1700 : gW (.methodLink RL 74 yX11_between) := ⟨tb_7 (List.mem_of_getElem? (i := 150) (by decide +kernel)), Or.inl rfl⟩

theorem tw_1703 : gW (.code yX11_between cX11_between 6 (some .int)) := ⟨tb_7 (List.mem_of_getElem? (i := 153) (by decide +kernel)), Or.inl rfl⟩

theorem tw_908 : gW (.selects RX10 yX10_clock yX10_clock) := ⟨tb_4 (List.mem_of_getElem? (i := 78) (by decide +kernel)), Or.inl rfl⟩

theorem tw_907 : gW (.instanceMethod yX10_clock) := ⟨tb_4 (List.mem_of_getElem? (i := 77) (by decide +kernel)), Or.inl rfl⟩

theorem tw_906 : gW (.methodLink RL 75 yX10_clock) := ⟨tb_4 (List.mem_of_getElem? (i := 76) (by decide +kernel)), Or.inl rfl⟩

theorem tw_913 : gW (.constant RX10 388 (96000)) := ⟨tb_4 (List.mem_of_getElem? (i := 83) (by decide +kernel)), Or.inl rfl⟩

theorem tw_912 : gW (.code yX10_isMoment cX10_isMoment 1 (some .boolean)) := ⟨tb_4 (List.mem_of_getElem? (i := 82) (by decide +kernel)), Or.inl rfl⟩

theorem tw_911 : gW (.static yX10_isMoment) := ⟨tb_4 (List.mem_of_getElem? (i := 81) (by decide +kernel)), Or.inl rfl⟩

theorem tw_910 : gW (.methodLink RX10 209 yX10_isMoment) := ⟨tb_4 (List.mem_of_getElem? (i := 80) (by decide +kernel)), Or.inl rfl⟩

theorem tw_914 : gW (.constantLong RX10 212 (96000)) := ⟨tb_4 (List.mem_of_getElem? (i := 84) (by decide +kernel)), Or.inl rfl⟩

theorem tw_909 : gW (.code yX10_clock cX10_clock 7 (some .int)) := ⟨tb_4 (List.mem_of_getElem? (i := 79) (by decide +kernel)), Or.inl rfl⟩

theorem tw_1706 : gW (.selects RX11 yX11_clock yX11_clock) := ⟨tb_7 (List.mem_of_getElem? (i := 156) (by decide +kernel)), Or.inl rfl⟩

theorem tw_1705 : gW (.instanceMethod yX11_clock) := ⟨tb_7 (List.mem_of_getElem? (i := 155) (by decide +kernel)), Or.inl rfl⟩

theorem tw_1704 : gW (.methodLink RL 79 yX11_clock) := ⟨tb_7 (List.mem_of_getElem? (i := 154) (by decide +kernel)), Or.inl rfl⟩

theorem tw_1710 : gW (.code yX11_areLands cX11_areLands 2 (some .boolean)) := ⟨tb_7 (List.mem_of_getElem? (i := 160) (by decide +kernel)), Or.inl rfl⟩

theorem tw_1709 : gW (.static yX11_areLands) := ⟨tb_7 (List.mem_of_getElem? (i := 159) (by decide +kernel)), Or.inl rfl⟩

theorem tw_1708 : gW (.methodLink RX11 287 yX11_areLands) := ⟨tb_7 (List.mem_of_getElem? (i := 158) (by decide +kernel)), Or.inl rfl⟩

theorem tw_1707 : gW (.code yX11_clock cX11_clock 7 (some .int)) := ⟨tb_7 (List.mem_of_getElem? (i := 157) (by decide +kernel)), Or.inl rfl⟩

theorem tw_935 : gW (.selects RX10 yX10_served yX10_served) := ⟨tb_4 (List.mem_of_getElem? (i := 105) (by decide +kernel)), Or.inl rfl⟩

theorem tw_934 : gW (.instanceMethod yX10_served) := ⟨tb_4 (List.mem_of_getElem? (i := 104) (by decide +kernel)), Or.inl rfl⟩

theorem tw_933 : gW (.methodLink RL 80 yX10_served) := ⟨tb_4 (List.mem_of_getElem? (i := 103) (by decide +kernel)), Or.inl rfl⟩

theorem tw_950 : gW (.instanceMethod yX8_go) := ⟨tb_4 (List.mem_of_getElem? (i := 120) (by decide +kernel)), Or.inl rfl⟩

theorem tw_949 : gW (.methodLink RX10 239 yX8_go) := ⟨tb_4 (List.mem_of_getElem? (i := 119) (by decide +kernel)), Or.inl rfl⟩

theorem tw_948 : gW (.code yX10_sentBy cX10_sentBy 5 (some .int)) := ⟨tb_4 (List.mem_of_getElem? (i := 118) (by decide +kernel)), Or.inl rfl⟩

theorem tw_31 : gW (.selects RX10 yX10_sentBy yX10_sentBy) := ⟨tb_0 (List.mem_of_getElem? (i := 31) (by decide +kernel)), Or.inl rfl⟩

theorem tw_947 : gW (.instanceMethod yX10_sentBy) := ⟨tb_4 (List.mem_of_getElem? (i := 117) (by decide +kernel)), Or.inl rfl⟩

theorem tw_945 : gW (.methodLink RX10 232 yX10_sentBy) := ⟨tb_4 (List.mem_of_getElem? (i := 115) (by decide +kernel)), Or.inl rfl⟩

theorem tw_944 : gW (.code yX10_isWay cX10_isWay 2 (some .boolean)) := ⟨tb_4 (List.mem_of_getElem? (i := 114) (by decide +kernel)), Or.inl rfl⟩

theorem tw_30 : gW (.selects RX10 yX10_isWay yX10_isWay) := ⟨tb_0 (List.mem_of_getElem? (i := 30) (by decide +kernel)), Or.inl rfl⟩

theorem tw_943 : gW (.instanceMethod yX10_isWay) := ⟨tb_4 (List.mem_of_getElem? (i := 113) (by decide +kernel)), Or.inl rfl⟩

theorem tw_941 : gW (.methodLink RX10 266 yX10_isWay) := ⟨tb_4 (List.mem_of_getElem? (i := 111) (by decide +kernel)), Or.inl rfl⟩

theorem tw_940 : gW (.code yX10_isRoute cX10_isRoute 4 (some .boolean)) := ⟨tb_4 (List.mem_of_getElem? (i := 110) (by decide +kernel)), Or.inl rfl⟩

theorem tw_29 : gW (.selects RX10 yX10_isRoute yX10_isRoute) := ⟨tb_0 (List.mem_of_getElem? (i := 29) (by decide +kernel)), Or.inl rfl⟩

theorem tw_939 : gW (.instanceMethod yX10_isRoute) := ⟨tb_4 (List.mem_of_getElem? (i := 109) (by decide +kernel)), Or.inl rfl⟩

theorem tw_937 : gW (.methodLink RX10 229 yX10_isRoute) := ⟨tb_4 (List.mem_of_getElem? (i := 107) (by decide +kernel)), Or.inl rfl⟩

theorem tw_931 : gW (.static Lib.Math.max.name) := ⟨tb_4 (List.mem_of_getElem? (i := 101) (by decide +kernel)), Or.inl rfl⟩

theorem tw_963 : gW (.methodLink RX8 90 Lib.Math.max.name) := ⟨tb_4 (List.mem_of_getElem? (i := 133) (by decide +kernel)), Or.inl rfl⟩

theorem tw_386 : gW (.fieldLink RX8 84 "NoticeDesk$Trip" "highest" "I") := ⟨tb_2 (List.mem_of_getElem? (i := 36) (by decide +kernel)), Or.inl rfl⟩

theorem tw_921 : gW (.code Lib.Math.min.name Lib.Math.min.code 2 (some .int)) := ⟨tb_4 (List.mem_of_getElem? (i := 91) (by decide +kernel)), Or.inl rfl⟩

theorem tw_920 : gW (.static Lib.Math.min.name) := ⟨tb_4 (List.mem_of_getElem? (i := 90) (by decide +kernel)), Or.inl rfl⟩

theorem tw_962 : gW (.methodLink RX8 87 Lib.Math.min.name) := ⟨tb_4 (List.mem_of_getElem? (i := 132) (by decide +kernel)), Or.inl rfl⟩

theorem tw_385 : gW (.fieldLink RX8 81 "NoticeDesk$Trip" "lowest" "I") := ⟨tb_2 (List.mem_of_getElem? (i := 35) (by decide +kernel)), Or.inl rfl⟩

theorem tw_961 : gW (.code yX8_seeDay cX8_seeDay 2 none) := ⟨tb_4 (List.mem_of_getElem? (i := 131) (by decide +kernel)), Or.inl rfl⟩

theorem tw_960 : gW (.selects RX8 yX8_seeDay yX8_seeDay) := ⟨tb_4 (List.mem_of_getElem? (i := 130) (by decide +kernel)), Or.inl rfl⟩

theorem tw_959 : gW (.instanceMethod yX8_seeDay) := ⟨tb_4 (List.mem_of_getElem? (i := 129) (by decide +kernel)), Or.inl rfl⟩

theorem tw_958 : gW (.methodLink RX8 32 yX8_seeDay) := ⟨tb_4 (List.mem_of_getElem? (i := 128) (by decide +kernel)), Or.inl rfl⟩

theorem tw_957 : gW (.constant RX8 75 (96000)) := ⟨tb_4 (List.mem_of_getElem? (i := 127) (by decide +kernel)), Or.inl rfl⟩

theorem tw_956 : gW (.code yX8_dayReached cX8_dayReached 1 (some .int)) := ⟨tb_4 (List.mem_of_getElem? (i := 126) (by decide +kernel)), Or.inl rfl⟩

theorem tw_32 : gW (.selects RX8 yX8_dayReached yX8_dayReached) := ⟨tb_0 (List.mem_of_getElem? (i := 32) (by decide +kernel)), Or.inl rfl⟩

theorem tw_955 : gW (.instanceMethod yX8_dayReached) := ⟨tb_4 (List.mem_of_getElem? (i := 125) (by decide +kernel)), Or.inl rfl⟩

theorem tw_953 : gW (.methodLink RX8 28 yX8_dayReached) := ⟨tb_4 (List.mem_of_getElem? (i := 123) (by decide +kernel)), Or.inl rfl⟩

theorem tw_384 : gW (.fieldLink RX8 25 "NoticeDesk$Trip" "local" "I") := ⟨tb_2 (List.mem_of_getElem? (i := 34) (by decide +kernel)), Or.inl rfl⟩

theorem tw_383 : gW (.fieldLink RX8 22 "NoticeDesk$Trip" "looked" "I") := ⟨tb_2 (List.mem_of_getElem? (i := 33) (by decide +kernel)), Or.inl rfl⟩

theorem tw_382 : gW (.fieldLink RX8 19 "NoticeDesk$Trip" "there" "I") := ⟨tb_2 (List.mem_of_getElem? (i := 32) (by decide +kernel)), Or.inl rfl⟩

theorem tw_381 : gW (.fieldLink RX8 15 "NoticeDesk$Trip" "here" "I") := ⟨tb_2 (List.mem_of_getElem? (i := 31) (by decide +kernel)), Or.inl rfl⟩

theorem tw_952 : gW (.code yX8_go cX8_go 7 (some .int)) := ⟨tb_4 (List.mem_of_getElem? (i := 122) (by decide +kernel)), Or.inl rfl⟩

theorem tw_951 : gW (.selects RX8 yX8_go yX8_go) := ⟨tb_4 (List.mem_of_getElem? (i := 121) (by decide +kernel)), Or.inl rfl⟩

theorem tw_982 : gW (.instanceMethod yX2_officeFrom) := ⟨tb_4 (List.mem_of_getElem? (i := 152) (by decide +kernel)), Or.inl rfl⟩

theorem tw_981 : gW (.methodLink RX8 56 yX2_officeFrom) := ⟨tb_4 (List.mem_of_getElem? (i := 151) (by decide +kernel)), Or.inl rfl⟩

theorem tw_980 : gW (.code yX8_lookAt cX8_lookAt 2 none) := ⟨tb_4 (List.mem_of_getElem? (i := 150) (by decide +kernel)), Or.inl rfl⟩

theorem tw_34 : gW (.selects RX8 yX8_lookAt yX8_lookAt) := ⟨tb_0 (List.mem_of_getElem? (i := 34) (by decide +kernel)), Or.inl rfl⟩

theorem tw_979 : gW (.instanceMethod yX8_lookAt) := ⟨tb_4 (List.mem_of_getElem? (i := 149) (by decide +kernel)), Or.inl rfl⟩

theorem tw_977 : gW (.methodLink RX8 53 yX8_lookAt) := ⟨tb_4 (List.mem_of_getElem? (i := 147) (by decide +kernel)), Or.inl rfl⟩

theorem tw_976 : gW (.code yX8_take cX8_take 6 none) := ⟨tb_4 (List.mem_of_getElem? (i := 146) (by decide +kernel)), Or.inl rfl⟩

theorem tw_33 : gW (.selects RX8 yX8_take yX8_take) := ⟨tb_0 (List.mem_of_getElem? (i := 33) (by decide +kernel)), Or.inl rfl⟩

theorem tw_975 : gW (.instanceMethod yX8_take) := ⟨tb_4 (List.mem_of_getElem? (i := 145) (by decide +kernel)), Or.inl rfl⟩

theorem tw_973 : gW (.methodLink RX8 49 yX8_take) := ⟨tb_4 (List.mem_of_getElem? (i := 143) (by decide +kernel)), Or.inl rfl⟩

theorem tw_972 : gW (.code yX9_numberAt cX9_numberAt 2 (some .int)) := ⟨tb_4 (List.mem_of_getElem? (i := 142) (by decide +kernel)), Or.inl rfl⟩

theorem tw_971 : gW (.selects RX9 yX9_numberAt yX9_numberAt) := ⟨tb_4 (List.mem_of_getElem? (i := 141) (by decide +kernel)), Or.inl rfl⟩

theorem tw_970 : gW (.instanceMethod yX9_numberAt) := ⟨tb_4 (List.mem_of_getElem? (i := 140) (by decide +kernel)), Or.inl rfl⟩

theorem tw_969 : gW (.methodLink RX8 46 yX9_numberAt) := ⟨tb_4 (List.mem_of_getElem? (i := 139) (by decide +kernel)), Or.inl rfl⟩

theorem tw_968 : gW (.code yX9_kindAt cX9_kindAt 2 (some .int)) := ⟨tb_4 (List.mem_of_getElem? (i := 138) (by decide +kernel)), Or.inl rfl⟩

theorem tw_967 : gW (.selects RX9 yX9_kindAt yX9_kindAt) := ⟨tb_4 (List.mem_of_getElem? (i := 137) (by decide +kernel)), Or.inl rfl⟩

theorem tw_966 : gW (.instanceMethod yX9_kindAt) := ⟨tb_4 (List.mem_of_getElem? (i := 136) (by decide +kernel)), Or.inl rfl⟩

theorem tw_965 : gW (.methodLink RX8 40 yX9_kindAt) := ⟨tb_4 (List.mem_of_getElem? (i := 135) (by decide +kernel)), Or.inl rfl⟩

theorem tw_932 : gW (.code Lib.Math.max.name Lib.Math.max.code 2 (some .int)) := ⟨tb_4 (List.mem_of_getElem? (i := 102) (by decide +kernel)), Or.inl rfl⟩

theorem tw_986 : gW (.methodLink RX2 101 yX2_workdayBehind) := ⟨tb_4 (List.mem_of_getElem? (i := 156) (by decide +kernel)), Or.inl rfl⟩

theorem tw_985 : gW (.methodLink RX2 98 Lib.Math.max.name) := ⟨tb_4 (List.mem_of_getElem? (i := 155) (by decide +kernel)), Or.inl rfl⟩

theorem tw_984 : gW (.code yX2_officeFrom cX2_officeFrom 3 (some .int)) := ⟨tb_4 (List.mem_of_getElem? (i := 154) (by decide +kernel)), Or.inl rfl⟩

theorem tw_983 : gW (.selects RX2 yX2_officeFrom yX2_officeFrom) := ⟨tb_4 (List.mem_of_getElem? (i := 153) (by decide +kernel)), Or.inl rfl⟩

theorem tw_1002 : gW (.code yX10_dayOrNone cX10_dayOrNone 1 (some .int)) := ⟨tb_4 (List.mem_of_getElem? (i := 172) (by decide +kernel)), Or.inl rfl⟩

theorem tw_1001 : gW (.static yX10_dayOrNone) := ⟨tb_4 (List.mem_of_getElem? (i := 171) (by decide +kernel)), Or.inl rfl⟩

theorem tw_1000 : gW (.methodLink RX10 236 yX10_dayOrNone) := ⟨tb_4 (List.mem_of_getElem? (i := 170) (by decide +kernel)), Or.inl rfl⟩

theorem tw_999 : gW (.code yX2_backFrom cX2_backFrom 3 (some .int)) := ⟨tb_4 (List.mem_of_getElem? (i := 169) (by decide +kernel)), Or.inl rfl⟩

theorem tw_998 : gW (.selects RX2 yX2_backFrom yX2_backFrom) := ⟨tb_4 (List.mem_of_getElem? (i := 168) (by decide +kernel)), Or.inl rfl⟩

theorem tw_997 : gW (.instanceMethod yX2_backFrom) := ⟨tb_4 (List.mem_of_getElem? (i := 167) (by decide +kernel)), Or.inl rfl⟩

theorem tw_996 : gW (.methodLink RX8 69 yX2_backFrom) := ⟨tb_4 (List.mem_of_getElem? (i := 166) (by decide +kernel)), Or.inl rfl⟩

theorem tw_995 : gW (.code yX2_rollFrom cX2_rollFrom 3 (some .int)) := ⟨tb_4 (List.mem_of_getElem? (i := 165) (by decide +kernel)), Or.inl rfl⟩

theorem tw_994 : gW (.selects RX2 yX2_rollFrom yX2_rollFrom) := ⟨tb_4 (List.mem_of_getElem? (i := 164) (by decide +kernel)), Or.inl rfl⟩

theorem tw_993 : gW (.instanceMethod yX2_rollFrom) := ⟨tb_4 (List.mem_of_getElem? (i := 163) (by decide +kernel)), Or.inl rfl⟩

theorem tw_992 : gW (.methodLink RX8 66 yX2_rollFrom) := ⟨tb_4 (List.mem_of_getElem? (i := 162) (by decide +kernel)), Or.inl rfl⟩

theorem tw_991 : gW (.methodLink RX2 104 yX2_workdayAhead) := ⟨tb_4 (List.mem_of_getElem? (i := 161) (by decide +kernel)), Or.inl rfl⟩

theorem tw_990 : gW (.code yX2_workFrom cX2_workFrom 4 (some .int)) := ⟨tb_4 (List.mem_of_getElem? (i := 160) (by decide +kernel)), Or.inl rfl⟩

theorem tw_989 : gW (.selects RX2 yX2_workFrom yX2_workFrom) := ⟨tb_4 (List.mem_of_getElem? (i := 159) (by decide +kernel)), Or.inl rfl⟩

theorem tw_988 : gW (.instanceMethod yX2_workFrom) := ⟨tb_4 (List.mem_of_getElem? (i := 158) (by decide +kernel)), Or.inl rfl⟩

theorem tw_987 : gW (.methodLink RX8 62 yX2_workFrom) := ⟨tb_4 (List.mem_of_getElem? (i := 157) (by decide +kernel)), Or.inl rfl⟩

theorem tw_936 : gW (.code yX10_served cX10_served 5 (some .int)) := ⟨tb_4 (List.mem_of_getElem? (i := 106) (by decide +kernel)), Or.inl rfl⟩

theorem tw_1717 : gW (.selects RX11 yX11_served yX11_served) := ⟨tb_7 (List.mem_of_getElem? (i := 167) (by decide +kernel)), Or.inl rfl⟩

theorem tw_1716 : gW (.instanceMethod yX11_served) := ⟨tb_7 (List.mem_of_getElem? (i := 166) (by decide +kernel)), Or.inl rfl⟩

theorem tw_1715 : gW (.methodLink RL 83 yX11_served) := ⟨tb_7 (List.mem_of_getElem? (i := 165) (by decide +kernel)), Or.inl rfl⟩

theorem tw_84 : gW (.selects RX11 yX11_servedBy yX11_servedBy) := ⟨tb_0 (List.mem_of_getElem? (i := 84) (by decide +kernel)), Or.inl rfl⟩

theorem tw_1725 : gW (.instanceMethod yX11_servedBy) := ⟨tb_7 (List.mem_of_getElem? (i := 175) (by decide +kernel)), Or.inl rfl⟩

theorem tw_1723 : gW (.methodLink RX11 325 yX11_servedBy) := ⟨tb_7 (List.mem_of_getElem? (i := 173) (by decide +kernel)), Or.inl rfl⟩

theorem tw_1722 : gW (.code yX11_isWay cX11_isWay 2 (some .boolean)) := ⟨tb_7 (List.mem_of_getElem? (i := 172) (by decide +kernel)), Or.inl rfl⟩

theorem tw_83 : gW (.selects RX11 yX11_isWay yX11_isWay) := ⟨tb_0 (List.mem_of_getElem? (i := 83) (by decide +kernel)), Or.inl rfl⟩

theorem tw_1721 : gW (.instanceMethod yX11_isWay) := ⟨tb_7 (List.mem_of_getElem? (i := 171) (by decide +kernel)), Or.inl rfl⟩

theorem tw_1719 : gW (.methodLink RX11 322 yX11_isWay) := ⟨tb_7 (List.mem_of_getElem? (i := 169) (by decide +kernel)), Or.inl rfl⟩

theorem tw_1739 : gW (.methodLink RX11 303 Lib.Math.max.name) := ⟨tb_7 (List.mem_of_getElem? (i := 189) (by decide +kernel)), Or.inl rfl⟩

theorem tw_1734 : gW (.code yX11_goes cX11_goes 9 (some .boolean)) := ⟨tb_7 (List.mem_of_getElem? (i := 184) (by decide +kernel)), Or.inl rfl⟩

theorem tw_86 : gW (.selects RX11 yX11_goes yX11_goes) := ⟨tb_0 (List.mem_of_getElem? (i := 86) (by decide +kernel)), Or.inl rfl⟩

theorem tw_1733 : gW (.instanceMethod yX11_goes) := ⟨tb_7 (List.mem_of_getElem? (i := 183) (by decide +kernel)), Or.inl rfl⟩

theorem tw_1731 : gW (.methodLink RX11 314 yX11_goes) := ⟨tb_7 (List.mem_of_getElem? (i := 181) (by decide +kernel)), Or.inl rfl⟩

theorem tw_1420 : gW (.fieldLink RX11 297 "NoticeDeskModel" "land" "I") := ⟨tb_6 (List.mem_of_getElem? (i := 110) (by decide +kernel)), Or.inl rfl⟩

theorem tw_1730 : gW (.code yX11_goesOn cX11_goesOn 7 (some .boolean)) := ⟨tb_7 (List.mem_of_getElem? (i := 180) (by decide +kernel)), Or.inl rfl⟩

theorem tw_85 : gW (.selects RX11 yX11_goesOn yX11_goesOn) := ⟨tb_0 (List.mem_of_getElem? (i := 85) (by decide +kernel)), Or.inl rfl⟩
