theorem tw_1729 : gW (.instanceMethod yX11_goesOn) := ⟨tb_7 (List.mem_of_getElem? (i := 179) (by decide +kernel)), Or.inl rfl⟩

theorem tw_1727 : gW (.methodLink RX11 318 yX11_goesOn) := ⟨tb_7 (List.mem_of_getElem? (i := 177) (by decide +kernel)), Or.inl rfl⟩

theorem tw_1421 : gW (.fieldLink RX11 294 "NoticeDeskModel" "moment" "I") := ⟨tb_6 (List.mem_of_getElem? (i := 111) (by decide +kernel)), Or.inl rfl⟩

theorem tw_1726 : gW (.code yX11_servedBy cX11_servedBy 5 (some .int)) := ⟨tb_7 (List.mem_of_getElem? (i := 176) (by decide +kernel)), Or.inl rfl⟩

theorem tw_1750 : gW (.code yX11_orNone cX11_orNone 1 (some .int)) := ⟨tb_7 (List.mem_of_getElem? (i := 200) (by decide +kernel)), Or.inl rfl⟩

theorem tw_1749 : gW (.static yX11_orNone) := ⟨tb_7 (List.mem_of_getElem? (i := 199) (by decide +kernel)), Or.inl rfl⟩

theorem tw_1748 : gW (.methodLink RX11 329 yX11_orNone) := ⟨tb_7 (List.mem_of_getElem? (i := 198) (by decide +kernel)), Or.inl rfl⟩

theorem tw_1747 : gW (.code yX11_later cX11_later 2 (some .boolean)) := ⟨tb_7 (List.mem_of_getElem? (i := 197) (by decide +kernel)), Or.inl rfl⟩

theorem tw_89 : gW (.selects RX11 yX11_later yX11_later) := ⟨tb_0 (List.mem_of_getElem? (i := 89) (by decide +kernel)), Or.inl rfl⟩

theorem tw_1746 : gW (.instanceMethod yX11_later) := ⟨tb_7 (List.mem_of_getElem? (i := 196) (by decide +kernel)), Or.inl rfl⟩

theorem tw_1744 : gW (.methodLink RX11 311 yX11_later) := ⟨tb_7 (List.mem_of_getElem? (i := 194) (by decide +kernel)), Or.inl rfl⟩

theorem tw_1743 : gW (.code yX11_comes cX11_comes 3 (some .boolean)) := ⟨tb_7 (List.mem_of_getElem? (i := 193) (by decide +kernel)), Or.inl rfl⟩

theorem tw_88 : gW (.selects RX11 yX11_comes yX11_comes) := ⟨tb_0 (List.mem_of_getElem? (i := 88) (by decide +kernel)), Or.inl rfl⟩

theorem tw_1742 : gW (.instanceMethod yX11_comes) := ⟨tb_7 (List.mem_of_getElem? (i := 192) (by decide +kernel)), Or.inl rfl⟩

theorem tw_1740 : gW (.methodLink RX11 308 yX11_comes) := ⟨tb_7 (List.mem_of_getElem? (i := 190) (by decide +kernel)), Or.inl rfl⟩

theorem tw_1738 : gW (.code yX11_looksAt cX11_looksAt 2 (some .boolean)) := ⟨tb_7 (List.mem_of_getElem? (i := 188) (by decide +kernel)), Or.inl rfl⟩

theorem tw_87 : gW (.selects RX11 yX11_looksAt yX11_looksAt) := ⟨tb_0 (List.mem_of_getElem? (i := 87) (by decide +kernel)), Or.inl rfl⟩

theorem tw_1737 : gW (.instanceMethod yX11_looksAt) := ⟨tb_7 (List.mem_of_getElem? (i := 187) (by decide +kernel)), Or.inl rfl⟩

theorem tw_1735 : gW (.methodLink RX11 300 yX11_looksAt) := ⟨tb_7 (List.mem_of_getElem? (i := 185) (by decide +kernel)), Or.inl rfl⟩

theorem tw_1718 : gW (.code yX11_served cX11_served 5 (some .int)) := ⟨tb_7 (List.mem_of_getElem? (i := 168) (by decide +kernel)), Or.inl rfl⟩

theorem tw_1005 : gW (.selects RX10 yX10_step yX10_step) := ⟨tb_4 (List.mem_of_getElem? (i := 175) (by decide +kernel)), Or.inl rfl⟩

theorem tw_1004 : gW (.instanceMethod yX10_step) := ⟨tb_4 (List.mem_of_getElem? (i := 174) (by decide +kernel)), Or.inl rfl⟩

theorem tw_1003 : gW (.methodLink RL 84 yX10_step) := ⟨tb_4 (List.mem_of_getElem? (i := 173) (by decide +kernel)), Or.inl rfl⟩

theorem tw_1011 : gW (.methodLink RX8 76 yJ9_floorMod_7cf53) := ⟨tb_4 (List.mem_of_getElem? (i := 181) (by decide +kernel)), Or.inl rfl⟩

theorem tw_1010 : gW (.code yX8_hour cX8_hour 1 (some .int)) := ⟨tb_4 (List.mem_of_getElem? (i := 180) (by decide +kernel)), Or.inl rfl⟩

theorem tw_1009 : gW (.selects RX8 yX8_hour yX8_hour) := ⟨tb_4 (List.mem_of_getElem? (i := 179) (by decide +kernel)), Or.inl rfl⟩

theorem tw_1008 : gW (.instanceMethod yX8_hour) := ⟨tb_4 (List.mem_of_getElem? (i := 178) (by decide +kernel)), Or.inl rfl⟩

theorem tw_1007 : gW (.methodLink RX10 243 yX8_hour) := ⟨tb_4 (List.mem_of_getElem? (i := 177) (by decide +kernel)), Or.inl rfl⟩

theorem tw_1015 : gW (.code yX8_landLookedAt cX8_landLookedAt 1 (some .int)) := ⟨tb_4 (List.mem_of_getElem? (i := 185) (by decide +kernel)), Or.inl rfl⟩

theorem tw_1014 : gW (.selects RX8 yX8_landLookedAt yX8_landLookedAt) := ⟨tb_4 (List.mem_of_getElem? (i := 184) (by decide +kernel)), Or.inl rfl⟩

theorem tw_1013 : gW (.instanceMethod yX8_landLookedAt) := ⟨tb_4 (List.mem_of_getElem? (i := 183) (by decide +kernel)), Or.inl rfl⟩

theorem tw_1012 : gW (.methodLink RX10 246 yX8_landLookedAt) := ⟨tb_4 (List.mem_of_getElem? (i := 182) (by decide +kernel)), Or.inl rfl⟩

theorem tw_1006 : gW (.code yX10_step cX10_step 8 (some .int)) := ⟨tb_4 (List.mem_of_getElem? (i := 176) (by decide +kernel)), Or.inl rfl⟩

theorem tw_1753 : gW (.selects RX11 yX11_step yX11_step) := ⟨tb_7 (List.mem_of_getElem? (i := 203) (by decide +kernel)), Or.inl rfl⟩

theorem tw_1752 : gW (.instanceMethod yX11_step) := ⟨tb_7 (List.mem_of_getElem? (i := 202) (by decide +kernel)), Or.inl rfl⟩

theorem tw_1751 : gW (.methodLink RL 88 yX11_step) := ⟨tb_7 (List.mem_of_getElem? (i := 201) (by decide +kernel)), Or.inl rfl⟩

theorem tw_1755 : gW (.constantLong RX11 332 (2)) := ⟨tb_7 (List.mem_of_getElem? (i := 205) (by decide +kernel)), Or.inl rfl⟩

theorem tw_1754 : gW (.code yX11_step cX11_step 7 (some .int)) := ⟨tb_7 (List.mem_of_getElem? (i := 204) (by decide +kernel)), Or.inl rfl⟩

theorem tw_1018 : gW (.selects RX10 yX10_safe yX10_safe) := ⟨tb_4 (List.mem_of_getElem? (i := 188) (by decide +kernel)), Or.inl rfl⟩

theorem tw_1017 : gW (.instanceMethod yX10_safe) := ⟨tb_4 (List.mem_of_getElem? (i := 187) (by decide +kernel)), Or.inl rfl⟩

theorem tw_1016 : gW (.methodLink RL 89 yX10_safe) := ⟨tb_4 (List.mem_of_getElem? (i := 186) (by decide +kernel)), Or.inl rfl⟩

theorem tw_1024 : gW (.constant RX10 252 (65536)) := ⟨tb_4 (List.mem_of_getElem? (i := 194) (by decide +kernel)), Or.inl rfl⟩

theorem tw_1023 : gW (.code yX10_lastServedBy cX10_lastServedBy 8 (some .int)) := ⟨tb_4 (List.mem_of_getElem? (i := 193) (by decide +kernel)), Or.inl rfl⟩

theorem tw_35 : gW (.selects RX10 yX10_lastServedBy yX10_lastServedBy) := ⟨tb_0 (List.mem_of_getElem? (i := 35) (by decide +kernel)), Or.inl rfl⟩

theorem tw_1022 : gW (.instanceMethod yX10_lastServedBy) := ⟨tb_4 (List.mem_of_getElem? (i := 192) (by decide +kernel)), Or.inl rfl⟩

theorem tw_1020 : gW (.methodLink RX10 249 yX10_lastServedBy) := ⟨tb_4 (List.mem_of_getElem? (i := 190) (by decide +kernel)), Or.inl rfl⟩

theorem tw_1019 : gW (.code yX10_safe cX10_safe 6 (some .int)) := ⟨tb_4 (List.mem_of_getElem? (i := 189) (by decide +kernel)), Or.inl rfl⟩

theorem tw_1758 : gW (.selects RX11 yX11_safe yX11_safe) := ⟨tb_7 (List.mem_of_getElem? (i := 208) (by decide +kernel)), Or.inl rfl⟩

theorem tw_1757 : gW (.instanceMethod yX11_safe) := ⟨tb_7 (List.mem_of_getElem? (i := 207) (by decide +kernel)), Or.inl rfl⟩

theorem tw_1756 : gW (.methodLink RL 92 yX11_safe) := ⟨tb_7 (List.mem_of_getElem? (i := 206) (by decide +kernel)), Or.inl rfl⟩

theorem tw_1760 : gW (.constant RX11 334 (95999)) := ⟨tb_7 (List.mem_of_getElem? (i := 210) (by decide +kernel)), Or.inl rfl⟩

theorem tw_1759 : gW (.code yX11_safe cX11_safe 6 (some .int)) := ⟨tb_7 (List.mem_of_getElem? (i := 209) (by decide +kernel)), Or.inl rfl⟩

theorem tw_1027 : gW (.selects RX10 yX10_within yX10_within) := ⟨tb_4 (List.mem_of_getElem? (i := 197) (by decide +kernel)), Or.inl rfl⟩

theorem tw_1026 : gW (.instanceMethod yX10_within) := ⟨tb_4 (List.mem_of_getElem? (i := 196) (by decide +kernel)), Or.inl rfl⟩

theorem tw_1025 : gW (.methodLink RL 93 yX10_within) := ⟨tb_4 (List.mem_of_getElem? (i := 195) (by decide +kernel)), Or.inl rfl⟩

theorem tw_1028 : gW (.code yX10_within cX10_within 8 (some .int)) := ⟨tb_4 (List.mem_of_getElem? (i := 198) (by decide +kernel)), Or.inl rfl⟩

theorem tw_1853 : gW (.selects RX11 yX11_within yX11_within) := ⟨tb_8 (List.mem_of_getElem? (i := 63) (by decide +kernel)), Or.inl rfl⟩

theorem tw_1852 : gW (.instanceMethod yX11_within) := ⟨tb_8 (List.mem_of_getElem? (i := 62) (by decide +kernel)), Or.inl rfl⟩

theorem tw_1851 : gW (.methodLink RL 96 yX11_within) := ⟨tb_8 (List.mem_of_getElem? (i := 61) (by decide +kernel)), Or.inl rfl⟩

theorem tw_1855 : gW (.constant RX11 376 (96000)) := ⟨tb_8 (List.mem_of_getElem? (i := 65) (by decide +kernel)), Or.inl rfl⟩

theorem tw_1854 : gW (.code yX11_within cX11_within 10 (some .int)) := ⟨tb_8 (List.mem_of_getElem? (i := 64) (by decide +kernel)), Or.inl rfl⟩

theorem tw_1031 : gW (.selects RX10 yX10_edges yX10_edges) := ⟨tb_4 (List.mem_of_getElem? (i := 201) (by decide +kernel)), Or.inl rfl⟩

theorem tw_1030 : gW (.instanceMethod yX10_edges) := ⟨tb_4 (List.mem_of_getElem? (i := 200) (by decide +kernel)), Or.inl rfl⟩

theorem tw_1029 : gW (.methodLink RL 97 yX10_edges) := ⟨tb_4 (List.mem_of_getElem? (i := 199) (by decide +kernel)), Or.inl rfl⟩

theorem tw_1035 : gW (.code yX10_lateness cX10_lateness 1 (some .int)) := ⟨tb_4 (List.mem_of_getElem? (i := 205) (by decide +kernel)), Or.inl rfl⟩

theorem tw_1034 : gW (.static yX10_lateness) := ⟨tb_4 (List.mem_of_getElem? (i := 204) (by decide +kernel)), Or.inl rfl⟩

theorem tw_1033 : gW (.methodLink RX10 253 yX10_lateness) := ⟨tb_4 (List.mem_of_getElem? (i := 203) (by decide +kernel)), Or.inl rfl⟩

theorem tw_1032 : gW (.code yX10_edges cX10_edges 10 (some .int)) := ⟨tb_4 (List.mem_of_getElem? (i := 202) (by decide +kernel)), Or.inl rfl⟩

theorem tw_1763 : gW (.selects RX11 yX11_edges yX11_edges) := ⟨tb_7 (List.mem_of_getElem? (i := 213) (by decide +kernel)), Or.inl rfl⟩

theorem tw_1762 : gW (.instanceMethod yX11_edges) := ⟨tb_7 (List.mem_of_getElem? (i := 212) (by decide +kernel)), Or.inl rfl⟩

theorem tw_1761 : gW (.methodLink RL 100 yX11_edges) := ⟨tb_7 (List.mem_of_getElem? (i := 211) (by decide +kernel)), Or.inl rfl⟩

theorem tw_1764 : gW (.code yX11_edges cX11_edges 7 (some .int)) := ⟨tb_7 (List.mem_of_getElem? (i := 214) (by decide +kernel)), Or.inl rfl⟩

theorem tw_1038 : gW (.selects RX10 yX10_fastest yX10_fastest) := ⟨tb_4 (List.mem_of_getElem? (i := 208) (by decide +kernel)), Or.inl rfl⟩

theorem tw_1037 : gW (.instanceMethod yX10_fastest) := ⟨tb_4 (List.mem_of_getElem? (i := 207) (by decide +kernel)), Or.inl rfl⟩

theorem tw_1036 : gW (.methodLink RL 101 yX10_fastest) := ⟨tb_4 (List.mem_of_getElem? (i := 206) (by decide +kernel)), Or.inl rfl⟩

theorem tw_1044 : gW (.methodLink RX5 53 yX8_go) := ⟨tb_4 (List.mem_of_getElem? (i := 214) (by decide +kernel)), Or.inl rfl⟩

theorem tw_414 : gW (.fieldLink RX5 72 "NoticeDesk$Passage" "wayGone" "I") := ⟨tb_2 (List.mem_of_getElem? (i := 64) (by decide +kernel)), Or.inl rfl⟩

theorem tw_413 : gW (.fieldLink RX5 59 "NoticeDesk$Passage" "servedDay" "I") := ⟨tb_2 (List.mem_of_getElem? (i := 63) (by decide +kernel)), Or.inl rfl⟩

theorem tw_1043 : gW (.code yX5_goByFastest cX5_goByFastest 6 none) := ⟨tb_4 (List.mem_of_getElem? (i := 213) (by decide +kernel)), Or.inl rfl⟩

theorem tw_1042 : gW (.selects RX5 yX5_goByFastest yX5_goByFastest) := ⟨tb_4 (List.mem_of_getElem? (i := 212) (by decide +kernel)), Or.inl rfl⟩

theorem tw_1041 : gW (.instanceMethod yX5_goByFastest) := ⟨tb_4 (List.mem_of_getElem? (i := 211) (by decide +kernel)), Or.inl rfl⟩

theorem tw_1040 : gW (.methodLink RX10 256 yX5_goByFastest) := ⟨tb_4 (List.mem_of_getElem? (i := 210) (by decide +kernel)), Or.inl rfl⟩

theorem tw_1053 : gW (.code yX5_servedDay cX5_servedDay 1 (some .int)) := ⟨tb_4 (List.mem_of_getElem? (i := 223) (by decide +kernel)), Or.inl rfl⟩

theorem tw_1052 : gW (.selects RX5 yX5_servedDay yX5_servedDay) := ⟨tb_4 (List.mem_of_getElem? (i := 222) (by decide +kernel)), Or.inl rfl⟩

theorem tw_1051 : gW (.instanceMethod yX5_servedDay) := ⟨tb_4 (List.mem_of_getElem? (i := 221) (by decide +kernel)), Or.inl rfl⟩

theorem tw_1050 : gW (.methodLink RX10 263 yX5_servedDay) := ⟨tb_4 (List.mem_of_getElem? (i := 220) (by decide +kernel)), Or.inl rfl⟩

theorem tw_1049 : gW (.code yX5_wayGone cX5_wayGone 1 (some .int)) := ⟨tb_4 (List.mem_of_getElem? (i := 219) (by decide +kernel)), Or.inl rfl⟩

theorem tw_1048 : gW (.selects RX5 yX5_wayGone yX5_wayGone) := ⟨tb_4 (List.mem_of_getElem? (i := 218) (by decide +kernel)), Or.inl rfl⟩

theorem tw_1047 : gW (.instanceMethod yX5_wayGone) := ⟨tb_4 (List.mem_of_getElem? (i := 217) (by decide +kernel)), Or.inl rfl⟩

theorem tw_1046 : gW (.methodLink RX10 260 yX5_wayGone) := ⟨tb_4 (List.mem_of_getElem? (i := 216) (by decide +kernel)), Or.inl rfl⟩

theorem tw_1039 : gW (.code yX10_fastest cX10_fastest 5 (some .int)) := ⟨tb_4 (List.mem_of_getElem? (i := 209) (by decide +kernel)), Or.inl rfl⟩

theorem tw_1767 : gW (.selects RX11 yX11_fastest yX11_fastest) := ⟨tb_7 (List.mem_of_getElem? (i := 217) (by decide +kernel)), Or.inl rfl⟩

theorem tw_1766 : gW (.instanceMethod yX11_fastest) := ⟨tb_7 (List.mem_of_getElem? (i := 216) (by decide +kernel)), Or.inl rfl⟩

theorem tw_1765 : gW (.methodLink RL 104 yX11_fastest) := ⟨tb_7 (List.mem_of_getElem? (i := 215) (by decide +kernel)), Or.inl rfl⟩

theorem tw_1768 : gW (.code yX11_fastest cX11_fastest 9 (some .int)) := ⟨tb_7 (List.mem_of_getElem? (i := 218) (by decide +kernel)), Or.inl rfl⟩

theorem tw_1056 : gW (.selects RX10 yX10_neverLater yX10_neverLater) := ⟨tb_4 (List.mem_of_getElem? (i := 226) (by decide +kernel)), Or.inl rfl⟩

theorem tw_1055 : gW (.instanceMethod yX10_neverLater) := ⟨tb_4 (List.mem_of_getElem? (i := 225) (by decide +kernel)), Or.inl rfl⟩

theorem tw_1054 : gW (.methodLink RL 105 yX10_neverLater) := ⟨tb_4 (List.mem_of_getElem? (i := 224) (by decide +kernel)), Or.inl rfl⟩

theorem tw_1057 : gW (.code yX10_neverLater cX10_neverLater 9 (some .int)) := ⟨tb_4 (List.mem_of_getElem? (i := 227) (by decide +kernel)), Or.inl rfl⟩

theorem tw_1771 : gW (.selects RX11 yX11_neverLater yX11_neverLater) := ⟨tb_7 (List.mem_of_getElem? (i := 221) (by decide +kernel)), Or.inl rfl⟩

theorem tw_1770 : gW (.instanceMethod yX11_neverLater) := ⟨tb_7 (List.mem_of_getElem? (i := 220) (by decide +kernel)), Or.inl rfl⟩

theorem tw_1769 : gW (.methodLink RL 108 yX11_neverLater) := ⟨tb_7 (List.mem_of_getElem? (i := 219) (by decide +kernel)), Or.inl rfl⟩

theorem tw_1772 : gW (.code yX11_neverLater cX11_neverLater 8 (some .int)) := ⟨tb_7 (List.mem_of_getElem? (i := 222) (by decide +kernel)), Or.inl rfl⟩

theorem tw_1072 : gW (.selects RX10 yX10_ends yX10_ends) := ⟨tb_5 (List.mem_of_getElem? (i := 2) (by decide +kernel)), Or.inl rfl⟩

theorem tw_1071 : gW (.instanceMethod yX10_ends) := ⟨tb_5 (List.mem_of_getElem? (i := 1) (by decide +kernel)), Or.inl rfl⟩

theorem tw_1070 : gW (.methodLink RL 109 yX10_ends) := ⟨tb_5 (List.mem_of_getElem? (i := 0) (by decide +kernel)), Or.inl rfl⟩

theorem tw_1086 : gW (.methodLink RX5 66 yX8_forgetDays) := ⟨tb_5 (List.mem_of_getElem? (i := 16) (by decide +kernel)), Or.inl rfl⟩

theorem tw_1085 : gW (.code yX5_begin cX5_begin 2 none) := ⟨tb_5 (List.mem_of_getElem? (i := 15) (by decide +kernel)), Or.inl rfl⟩

theorem tw_37 : gW (.selects RX5 yX5_begin yX5_begin) := ⟨tb_0 (List.mem_of_getElem? (i := 37) (by decide +kernel)), Or.inl rfl⟩

theorem tw_1084 : gW (.instanceMethod yX5_begin) := ⟨tb_5 (List.mem_of_getElem? (i := 14) (by decide +kernel)), Or.inl rfl⟩

theorem tw_1082 : gW (.methodLink RX5 23 yX5_begin) := ⟨tb_5 (List.mem_of_getElem? (i := 12) (by decide +kernel)), Or.inl rfl⟩

theorem tw_412 : gW (.fieldLink RX5 47 "NoticeDesk$Passage" "sentMoment" "I") := ⟨tb_2 (List.mem_of_getElem? (i := 62) (by decide +kernel)), Or.inl rfl⟩

theorem tw_1081 : gW (.code yX5_go cX5_go 6 (some .int)) := ⟨tb_5 (List.mem_of_getElem? (i := 11) (by decide +kernel)), Or.inl rfl⟩

theorem tw_1080 : gW (.selects RX5 yX5_go yX5_go) := ⟨tb_5 (List.mem_of_getElem? (i := 10) (by decide +kernel)), Or.inl rfl⟩

theorem tw_1079 : gW (.instanceMethod yX5_go) := ⟨tb_5 (List.mem_of_getElem? (i := 9) (by decide +kernel)), Or.inl rfl⟩

theorem tw_1078 : gW (.methodLink RX10 278 yX5_go) := ⟨tb_5 (List.mem_of_getElem? (i := 8) (by decide +kernel)), Or.inl rfl⟩

theorem tw_1077 : gW (.code yX10_isChain cX10_isChain 2 (some .boolean)) := ⟨tb_5 (List.mem_of_getElem? (i := 7) (by decide +kernel)), Or.inl rfl⟩

theorem tw_36 : gW (.selects RX10 yX10_isChain yX10_isChain) := ⟨tb_0 (List.mem_of_getElem? (i := 36) (by decide +kernel)), Or.inl rfl⟩

theorem tw_1076 : gW (.instanceMethod yX10_isChain) := ⟨tb_5 (List.mem_of_getElem? (i := 6) (by decide +kernel)), Or.inl rfl⟩

theorem tw_1074 : gW (.methodLink RX10 275 yX10_isChain) := ⟨tb_5 (List.mem_of_getElem? (i := 4) (by decide +kernel)), Or.inl rfl⟩

theorem tw_1095 : gW (.methodLink RX5 75 yX5_dayToSend) := ⟨tb_5 (List.mem_of_getElem? (i := 25) (by decide +kernel)), Or.inl rfl⟩

theorem tw_411 : gW (.fieldLink RX5 79 "NoticeDesk$Passage" "sentDay" "I") := ⟨tb_2 (List.mem_of_getElem? (i := 61) (by decide +kernel)), Or.inl rfl⟩

theorem tw_1094 : gW (.code yX5_setOff cX5_setOff 3 (some .boolean)) := ⟨tb_5 (List.mem_of_getElem? (i := 24) (by decide +kernel)), Or.inl rfl⟩

theorem tw_38 : gW (.selects RX5 yX5_setOff yX5_setOff) := ⟨tb_0 (List.mem_of_getElem? (i := 38) (by decide +kernel)), Or.inl rfl⟩

theorem tw_1093 : gW (.instanceMethod yX5_setOff) := ⟨tb_5 (List.mem_of_getElem? (i := 23) (by decide +kernel)), Or.inl rfl⟩

theorem tw_1091 : gW (.methodLink RX5 33 yX5_setOff) := ⟨tb_5 (List.mem_of_getElem? (i := 21) (by decide +kernel)), Or.inl rfl⟩

theorem tw_1090 : gW (.methodLink RX5 69 yX8_seeDay) := ⟨tb_5 (List.mem_of_getElem? (i := 20) (by decide +kernel)), Or.inl rfl⟩

theorem tw_1089 : gW (.code yX8_forgetDays cX8_forgetDays 1 none) := ⟨tb_5 (List.mem_of_getElem? (i := 19) (by decide +kernel)), Or.inl rfl⟩

theorem tw_1088 : gW (.selects RX8 yX8_forgetDays yX8_forgetDays) := ⟨tb_5 (List.mem_of_getElem? (i := 18) (by decide +kernel)), Or.inl rfl⟩

theorem tw_1087 : gW (.instanceMethod yX8_forgetDays) := ⟨tb_5 (List.mem_of_getElem? (i := 17) (by decide +kernel)), Or.inl rfl⟩

theorem tw_1100 : gW (.methodLink RX5 101 yX2_workdayBehind) := ⟨tb_5 (List.mem_of_getElem? (i := 30) (by decide +kernel)), Or.inl rfl⟩

theorem tw_1099 : gW (.methodLink RX5 95 Lib.Math.min.name) := ⟨tb_5 (List.mem_of_getElem? (i := 29) (by decide +kernel)), Or.inl rfl⟩

theorem tw_1098 : gW (.code yX5_dayToSend cX5_dayToSend 5 (some .int)) := ⟨tb_5 (List.mem_of_getElem? (i := 28) (by decide +kernel)), Or.inl rfl⟩

theorem tw_39 : gW (.selects RX5 yX5_dayToSend yX5_dayToSend) := ⟨tb_0 (List.mem_of_getElem? (i := 39) (by decide +kernel)), Or.inl rfl⟩

theorem tw_1097 : gW (.instanceMethod yX5_dayToSend) := ⟨tb_5 (List.mem_of_getElem? (i := 27) (by decide +kernel)), Or.inl rfl⟩

theorem tw_1073 : gW (.code yX10_ends cX10_ends 3 (some .int)) := ⟨tb_5 (List.mem_of_getElem? (i := 3) (by decide +kernel)), Or.inl rfl⟩

theorem tw_1775 : gW (.selects RX11 yX11_ends yX11_ends) := ⟨tb_7 (List.mem_of_getElem? (i := 225) (by decide +kernel)), Or.inl rfl⟩

theorem tw_1774 : gW (.instanceMethod yX11_ends) := ⟨tb_7 (List.mem_of_getElem? (i := 224) (by decide +kernel)), Or.inl rfl⟩

theorem tw_1773 : gW (.methodLink RL 112 yX11_ends) := ⟨tb_7 (List.mem_of_getElem? (i := 223) (by decide +kernel)), Or.inl rfl⟩

theorem tw_1788 : gW (.code yX11_endsBy cX11_endsBy 8 (some .int)) := ⟨tb_7 (List.mem_of_getElem? (i := 238) (by decide +kernel)), Or.inl rfl⟩

theorem tw_92 : gW (.selects RX11 yX11_endsBy yX11_endsBy) := ⟨tb_0 (List.mem_of_getElem? (i := 92) (by decide +kernel)), Or.inl rfl⟩

theorem tw_1787 : gW (.instanceMethod yX11_endsBy) := ⟨tb_7 (List.mem_of_getElem? (i := 237) (by decide +kernel)), Or.inl rfl⟩

theorem tw_1785 : gW (.methodLink RX11 341 yX11_endsBy) := ⟨tb_7 (List.mem_of_getElem? (i := 235) (by decide +kernel)), Or.inl rfl⟩

theorem tw_1784 : gW (.code yX11_endsOf cX11_endsOf 3 (some .int)) := ⟨tb_7 (List.mem_of_getElem? (i := 234) (by decide +kernel)), Or.inl rfl⟩

theorem tw_91 : gW (.selects RX11 yX11_endsOf yX11_endsOf) := ⟨tb_0 (List.mem_of_getElem? (i := 91) (by decide +kernel)), Or.inl rfl⟩

theorem tw_1783 : gW (.instanceMethod yX11_endsOf) := ⟨tb_7 (List.mem_of_getElem? (i := 233) (by decide +kernel)), Or.inl rfl⟩

theorem tw_1781 : gW (.methodLink RX11 347 yX11_endsOf) := ⟨tb_7 (List.mem_of_getElem? (i := 231) (by decide +kernel)), Or.inl rfl⟩

theorem tw_1780 : gW (.code yX11_isChain cX11_isChain 2 (some .boolean)) := ⟨tb_7 (List.mem_of_getElem? (i := 230) (by decide +kernel)), Or.inl rfl⟩

theorem tw_90 : gW (.selects RX11 yX11_isChain yX11_isChain) := ⟨tb_0 (List.mem_of_getElem? (i := 90) (by decide +kernel)), Or.inl rfl⟩

theorem tw_1779 : gW (.instanceMethod yX11_isChain) := ⟨tb_7 (List.mem_of_getElem? (i := 229) (by decide +kernel)), Or.inl rfl⟩

theorem tw_1777 : gW (.methodLink RX11 344 yX11_isChain) := ⟨tb_7 (List.mem_of_getElem? (i := 227) (by decide +kernel)), Or.inl rfl⟩

theorem tw_1792 : gW (.code yX11_sentOn cX11_sentOn 4 (some .int)) := ⟨tb_8 (List.mem_of_getElem? (i := 2) (by decide +kernel)), Or.inl rfl⟩

theorem tw_93 : gW (.selects RX11 yX11_sentOn yX11_sentOn) := ⟨tb_0 (List.mem_of_getElem? (i := 93) (by decide +kernel)), Or.inl rfl⟩

theorem tw_1791 : gW (.instanceMethod yX11_sentOn) := ⟨tb_8 (List.mem_of_getElem? (i := 1) (by decide +kernel)), Or.inl rfl⟩

theorem tw_1789 : gW (.methodLink RX11 335 yX11_sentOn) := ⟨tb_7 (List.mem_of_getElem? (i := 239) (by decide +kernel)), Or.inl rfl⟩

theorem tw_1422 : gW (.fieldLink RX11 338 "NoticeDeskModel" "sentDay" "I") := ⟨tb_6 (List.mem_of_getElem? (i := 112) (by decide +kernel)), Or.inl rfl⟩

theorem tw_1776 : gW (.code yX11_ends cX11_ends 3 (some .int)) := ⟨tb_7 (List.mem_of_getElem? (i := 226) (by decide +kernel)), Or.inl rfl⟩

theorem tw_1103 : gW (.selects RX10 yX10_stage yX10_stage) := ⟨tb_5 (List.mem_of_getElem? (i := 33) (by decide +kernel)), Or.inl rfl⟩

theorem tw_1102 : gW (.instanceMethod yX10_stage) := ⟨tb_5 (List.mem_of_getElem? (i := 32) (by decide +kernel)), Or.inl rfl⟩

theorem tw_1101 : gW (.methodLink RL 113 yX10_stage) := ⟨tb_5 (List.mem_of_getElem? (i := 31) (by decide +kernel)), Or.inl rfl⟩

theorem tw_1108 : gW (.code yX10_isStage cX10_isStage 3 (some .boolean)) := ⟨tb_5 (List.mem_of_getElem? (i := 38) (by decide +kernel)), Or.inl rfl⟩

theorem tw_40 : gW (.selects RX10 yX10_isStage yX10_isStage) := ⟨tb_0 (List.mem_of_getElem? (i := 40) (by decide +kernel)), Or.inl rfl⟩

theorem tw_1107 : gW (.instanceMethod yX10_isStage) := ⟨tb_5 (List.mem_of_getElem? (i := 37) (by decide +kernel)), Or.inl rfl⟩

theorem tw_1105 : gW (.methodLink RX10 281 yX10_isStage) := ⟨tb_5 (List.mem_of_getElem? (i := 35) (by decide +kernel)), Or.inl rfl⟩

theorem tw_1112 : gW (.code yX5_sentDay cX5_sentDay 1 (some .int)) := ⟨tb_5 (List.mem_of_getElem? (i := 42) (by decide +kernel)), Or.inl rfl⟩

theorem tw_1111 : gW (.selects RX5 yX5_sentDay yX5_sentDay) := ⟨tb_5 (List.mem_of_getElem? (i := 41) (by decide +kernel)), Or.inl rfl⟩

theorem tw_1110 : gW (.instanceMethod yX5_sentDay) := ⟨tb_5 (List.mem_of_getElem? (i := 40) (by decide +kernel)), Or.inl rfl⟩

theorem tw_1109 : gW (.methodLink RX10 284 yX5_sentDay) := ⟨tb_5 (List.mem_of_getElem? (i := 39) (by decide +kernel)), Or.inl rfl⟩

theorem tw_1104 : gW (.code yX10_stage cX10_stage 5 (some .int)) := ⟨tb_5 (List.mem_of_getElem? (i := 34) (by decide +kernel)), Or.inl rfl⟩

theorem tw_1795 : gW (.selects RX11 yX11_stage yX11_stage) := ⟨tb_8 (List.mem_of_getElem? (i := 5) (by decide +kernel)), Or.inl rfl⟩

theorem tw_1794 : gW (.instanceMethod yX11_stage) := ⟨tb_8 (List.mem_of_getElem? (i := 4) (by decide +kernel)), Or.inl rfl⟩

theorem tw_1793 : gW (.methodLink RL 116 yX11_stage) := ⟨tb_8 (List.mem_of_getElem? (i := 3) (by decide +kernel)), Or.inl rfl⟩

theorem tw_1796 : gW (.code yX11_stage cX11_stage 6 (some .int)) := ⟨tb_8 (List.mem_of_getElem? (i := 6) (by decide +kernel)), Or.inl rfl⟩

theorem tw_1115 : gW (.selects RX10 yX10_quick yX10_quick) := ⟨tb_5 (List.mem_of_getElem? (i := 45) (by decide +kernel)), Or.inl rfl⟩

theorem tw_1114 : gW (.instanceMethod yX10_quick) := ⟨tb_5 (List.mem_of_getElem? (i := 44) (by decide +kernel)), Or.inl rfl⟩

theorem tw_1113 : gW (.methodLink RL 117 yX10_quick) := ⟨tb_5 (List.mem_of_getElem? (i := 43) (by decide +kernel)), Or.inl rfl⟩

theorem tw_1120 : gW (.code yX5_goQuickly cX5_goQuickly 5 (some .int)) := ⟨tb_5 (List.mem_of_getElem? (i := 50) (by decide +kernel)), Or.inl rfl⟩

theorem tw_1119 : gW (.selects RX5 yX5_goQuickly yX5_goQuickly) := ⟨tb_5 (List.mem_of_getElem? (i := 49) (by decide +kernel)), Or.inl rfl⟩

theorem tw_1118 : gW (.instanceMethod yX5_goQuickly) := ⟨tb_5 (List.mem_of_getElem? (i := 48) (by decide +kernel)), Or.inl rfl⟩

theorem tw_1117 : gW (.methodLink RX10 287 yX5_goQuickly) := ⟨tb_5 (List.mem_of_getElem? (i := 47) (by decide +kernel)), Or.inl rfl⟩

theorem tw_1121 : gW (.methodLink RX5 62 yX5_goByFastest) := ⟨tb_5 (List.mem_of_getElem? (i := 51) (by decide +kernel)), Or.inl rfl⟩

theorem tw_1116 : gW (.code yX10_quick cX10_quick 4 (some .int)) := ⟨tb_5 (List.mem_of_getElem? (i := 46) (by decide +kernel)), Or.inl rfl⟩

theorem tw_1831 : gW (.selects RX11 yX11_quick yX11_quick) := ⟨tb_8 (List.mem_of_getElem? (i := 41) (by decide +kernel)), Or.inl rfl⟩

theorem tw_1830 : gW (.instanceMethod yX11_quick) := ⟨tb_8 (List.mem_of_getElem? (i := 40) (by decide +kernel)), Or.inl rfl⟩

theorem tw_1829 : gW (.methodLink RL 120 yX11_quick) := ⟨tb_8 (List.mem_of_getElem? (i := 39) (by decide +kernel)), Or.inl rfl⟩

theorem tw_1424 : gW (.fieldLink RX11 362 "NoticeDeskModel" "quickDay" "I") := ⟨tb_6 (List.mem_of_getElem? (i := 114) (by decide +kernel)), Or.inl rfl⟩

theorem tw_1423 : gW (.fieldLink RX11 359 "NoticeDeskModel" "quickWay" "I") := ⟨tb_6 (List.mem_of_getElem? (i := 113) (by decide +kernel)), Or.inl rfl⟩

theorem tw_1833 : gW (.constantLong RX11 365 (-1)) := ⟨tb_8 (List.mem_of_getElem? (i := 43) (by decide +kernel)), Or.inl rfl⟩

theorem tw_1837 : gW (.code yX11_laysQuick cX11_laysQuick 6 none) := ⟨tb_8 (List.mem_of_getElem? (i := 47) (by decide +kernel)), Or.inl rfl⟩

theorem tw_97 : gW (.selects RX11 yX11_laysQuick yX11_laysQuick) := ⟨tb_0 (List.mem_of_getElem? (i := 97) (by decide +kernel)), Or.inl rfl⟩

theorem tw_1836 : gW (.instanceMethod yX11_laysQuick) := ⟨tb_8 (List.mem_of_getElem? (i := 46) (by decide +kernel)), Or.inl rfl⟩

theorem tw_1834 : gW (.methodLink RX11 367 yX11_laysQuick) := ⟨tb_8 (List.mem_of_getElem? (i := 44) (by decide +kernel)), Or.inl rfl⟩

theorem tw_1832 : gW (.code yX11_quick cX11_quick 9 (some .int)) := ⟨tb_8 (List.mem_of_getElem? (i := 42) (by decide +kernel)), Or.inl rfl⟩

theorem tw_1124 : gW (.selects RX10 yX10_race yX10_race) := ⟨tb_5 (List.mem_of_getElem? (i := 54) (by decide +kernel)), Or.inl rfl⟩

theorem tw_1123 : gW (.instanceMethod yX10_race) := ⟨tb_5 (List.mem_of_getElem? (i := 53) (by decide +kernel)), Or.inl rfl⟩

theorem tw_1122 : gW (.methodLink RL 121 yX10_race) := ⟨tb_5 (List.mem_of_getElem? (i := 52) (by decide +kernel)), Or.inl rfl⟩

theorem tw_1127 : gW (.static yJ6_compare_7cf53) := ⟨tb_5 (List.mem_of_getElem? (i := 57) (by decide +kernel)), Or.inl rfl⟩

theorem tw_1126 : gW (.methodLink RX10 290 yJ6_compare_7cf53) := ⟨tb_5 (List.mem_of_getElem? (i := 56) (by decide +kernel)), Or.inl rfl⟩

theorem tw_1128 : gW (.code yJ6_compare_7cf53 cJ6_compare_7cf53 2 (some .int)) := ⟨tb_5 (List.mem_of_getElem? (i := 58) (by decide +kernel)), Or.inl rfl⟩

theorem tw_130 : gW (.initialized RJ6) := ⟨tb_1 (List.mem_of_getElem? (i := 20) (by decide +kernel)), Or.inl rfl⟩

theorem tw_1125 : gW (.code yX10_race cX10_race 10 (some .int)) := ⟨tb_5 (List.mem_of_getElem? (i := 55) (by decide +kernel)), Or.inl rfl⟩

theorem tw_1858 : gW (.selects RX11 yX11_race yX11_race) := ⟨tb_8 (List.mem_of_getElem? (i := 68) (by decide +kernel)), Or.inl rfl⟩

theorem tw_1857 : gW (.instanceMethod yX11_race) := ⟨tb_8 (List.mem_of_getElem? (i := 67) (by decide +kernel)), Or.inl rfl⟩

theorem tw_1856 : gW (.methodLink RL 124 yX11_race) := ⟨tb_8 (List.mem_of_getElem? (i := 66) (by decide +kernel)), Or.inl rfl⟩

theorem tw_1862 : gW (.code yX11_order cX11_order 2 (some .int)) := ⟨tb_8 (List.mem_of_getElem? (i := 72) (by decide +kernel)), Or.inl rfl⟩

theorem tw_1861 : gW (.static yX11_order) := ⟨tb_8 (List.mem_of_getElem? (i := 71) (by decide +kernel)), Or.inl rfl⟩

theorem tw_1860 : gW (.methodLink RX11 377 yX11_order) := ⟨tb_8 (List.mem_of_getElem? (i := 70) (by decide +kernel)), Or.inl rfl⟩

theorem tw_1859 : gW (.code yX11_race cX11_race 9 (some .int)) := ⟨tb_8 (List.mem_of_getElem? (i := 69) (by decide +kernel)), Or.inl rfl⟩

theorem tw_1131 : gW (.selects RX10 yX10_last yX10_last) := ⟨tb_5 (List.mem_of_getElem? (i := 61) (by decide +kernel)), Or.inl rfl⟩

theorem tw_1130 : gW (.instanceMethod yX10_last) := ⟨tb_5 (List.mem_of_getElem? (i := 60) (by decide +kernel)), Or.inl rfl⟩

theorem tw_1129 : gW (.methodLink RL 125 yX10_last) := ⟨tb_5 (List.mem_of_getElem? (i := 59) (by decide +kernel)), Or.inl rfl⟩

theorem tw_1136 : gW (.code yX10_lastBegun cX10_lastBegun 8 (some .int)) := ⟨tb_5 (List.mem_of_getElem? (i := 66) (by decide +kernel)), Or.inl rfl⟩

theorem tw_41 : gW (.selects RX10 yX10_lastBegun yX10_lastBegun) := ⟨tb_0 (List.mem_of_getElem? (i := 41) (by decide +kernel)), Or.inl rfl⟩

theorem tw_1135 : gW (.instanceMethod yX10_lastBegun) := ⟨tb_5 (List.mem_of_getElem? (i := 65) (by decide +kernel)), Or.inl rfl⟩

theorem tw_1133 : gW (.methodLink RX10 295 yX10_lastBegun) := ⟨tb_5 (List.mem_of_getElem? (i := 63) (by decide +kernel)), Or.inl rfl⟩

theorem tw_1132 : gW (.code yX10_last cX10_last 3 (some .int)) := ⟨tb_5 (List.mem_of_getElem? (i := 62) (by decide +kernel)), Or.inl rfl⟩

theorem tw_1799 : gW (.selects RX11 yX11_last yX11_last) := ⟨tb_8 (List.mem_of_getElem? (i := 9) (by decide +kernel)), Or.inl rfl⟩

theorem tw_1798 : gW (.instanceMethod yX11_last) := ⟨tb_8 (List.mem_of_getElem? (i := 8) (by decide +kernel)), Or.inl rfl⟩

theorem tw_1797 : gW (.methodLink RL 128 yX11_last) := ⟨tb_8 (List.mem_of_getElem? (i := 7) (by decide +kernel)), Or.inl rfl⟩

theorem tw_1804 : gW (.code yX11_lastFor cX11_lastFor 4 (some .int)) := ⟨tb_8 (List.mem_of_getElem? (i := 14) (by decide +kernel)), Or.inl rfl⟩

theorem tw_94 : gW (.selects RX11 yX11_lastFor yX11_lastFor) := ⟨tb_0 (List.mem_of_getElem? (i := 94) (by decide +kernel)), Or.inl rfl⟩

theorem tw_1803 : gW (.instanceMethod yX11_lastFor) := ⟨tb_8 (List.mem_of_getElem? (i := 13) (by decide +kernel)), Or.inl rfl⟩

theorem tw_1801 : gW (.methodLink RX11 350 yX11_lastFor) := ⟨tb_8 (List.mem_of_getElem? (i := 11) (by decide +kernel)), Or.inl rfl⟩

theorem tw_1800 : gW (.code yX11_last cX11_last 3 (some .int)) := ⟨tb_8 (List.mem_of_getElem? (i := 10) (by decide +kernel)), Or.inl rfl⟩

theorem tw_1139 : gW (.selects RX10 yX10_slack yX10_slack) := ⟨tb_5 (List.mem_of_getElem? (i := 69) (by decide +kernel)), Or.inl rfl⟩

theorem tw_1138 : gW (.instanceMethod yX10_slack) := ⟨tb_5 (List.mem_of_getElem? (i := 68) (by decide +kernel)), Or.inl rfl⟩

theorem tw_1137 : gW (.methodLink RL 129 yX10_slack) := ⟨tb_5 (List.mem_of_getElem? (i := 67) (by decide +kernel)), Or.inl rfl⟩

theorem tw_1140 : gW (.code yX10_slack cX10_slack 5 (some .int)) := ⟨tb_5 (List.mem_of_getElem? (i := 70) (by decide +kernel)), Or.inl rfl⟩

theorem tw_1807 : gW (.selects RX11 yX11_slack yX11_slack) := ⟨tb_8 (List.mem_of_getElem? (i := 17) (by decide +kernel)), Or.inl rfl⟩

theorem tw_1806 : gW (.instanceMethod yX11_slack) := ⟨tb_8 (List.mem_of_getElem? (i := 16) (by decide +kernel)), Or.inl rfl⟩

theorem tw_1805 : gW (.methodLink RL 132 yX11_slack) := ⟨tb_8 (List.mem_of_getElem? (i := 15) (by decide +kernel)), Or.inl rfl⟩

theorem tw_1808 : gW (.code yX11_slack cX11_slack 5 (some .int)) := ⟨tb_8 (List.mem_of_getElem? (i := 18) (by decide +kernel)), Or.inl rfl⟩

theorem tw_1143 : gW (.selects RX10 yX10_cost yX10_cost) := ⟨tb_5 (List.mem_of_getElem? (i := 73) (by decide +kernel)), Or.inl rfl⟩

theorem tw_1142 : gW (.instanceMethod yX10_cost) := ⟨tb_5 (List.mem_of_getElem? (i := 72) (by decide +kernel)), Or.inl rfl⟩

theorem tw_1141 : gW (.methodLink RL 133 yX10_cost) := ⟨tb_5 (List.mem_of_getElem? (i := 71) (by decide +kernel)), Or.inl rfl⟩

theorem tw_1148 : gW (.code yX10_isHoliday cX10_isHoliday 3 (some .boolean)) := ⟨tb_5 (List.mem_of_getElem? (i := 78) (by decide +kernel)), Or.inl rfl⟩

theorem tw_42 : gW (.selects RX10 yX10_isHoliday yX10_isHoliday) := ⟨tb_0 (List.mem_of_getElem? (i := 42) (by decide +kernel)), Or.inl rfl⟩

theorem tw_1147 : gW (.instanceMethod yX10_isHoliday) := ⟨tb_5 (List.mem_of_getElem? (i := 77) (by decide +kernel)), Or.inl rfl⟩

theorem tw_1145 : gW (.methodLink RX10 298 yX10_isHoliday) := ⟨tb_5 (List.mem_of_getElem? (i := 75) (by decide +kernel)), Or.inl rfl⟩

theorem tw_1156 : gW (.code yX2_pretendWorkday cX2_pretendWorkday 2 none) := ⟨tb_5 (List.mem_of_getElem? (i := 86) (by decide +kernel)), Or.inl rfl⟩

theorem tw_1155 : gW (.selects RX2 yX2_pretendWorkday yX2_pretendWorkday) := ⟨tb_5 (List.mem_of_getElem? (i := 85) (by decide +kernel)), Or.inl rfl⟩

theorem tw_1154 : gW (.instanceMethod yX2_pretendWorkday) := ⟨tb_5 (List.mem_of_getElem? (i := 84) (by decide +kernel)), Or.inl rfl⟩

theorem tw_1153 : gW (.methodLink RX10 304 yX2_pretendWorkday) := ⟨tb_5 (List.mem_of_getElem? (i := 83) (by decide +kernel)), Or.inl rfl⟩

theorem tw_1152 : gW (.code yX10_endWithout cX10_endWithout 6 (some .int)) := ⟨tb_5 (List.mem_of_getElem? (i := 82) (by decide +kernel)), Or.inl rfl⟩

theorem tw_43 : gW (.selects RX10 yX10_endWithout yX10_endWithout) := ⟨tb_0 (List.mem_of_getElem? (i := 43) (by decide +kernel)), Or.inl rfl⟩

theorem tw_1151 : gW (.instanceMethod yX10_endWithout) := ⟨tb_5 (List.mem_of_getElem? (i := 81) (by decide +kernel)), Or.inl rfl⟩

theorem tw_1149 : gW (.methodLink RX10 301 yX10_endWithout) := ⟨tb_5 (List.mem_of_getElem? (i := 79) (by decide +kernel)), Or.inl rfl⟩

theorem tw_1144 : gW (.code yX10_cost cX10_cost 5 (some .int)) := ⟨tb_5 (List.mem_of_getElem? (i := 74) (by decide +kernel)), Or.inl rfl⟩

theorem tw_1811 : gW (.selects RX11 yX11_cost yX11_cost) := ⟨tb_8 (List.mem_of_getElem? (i := 21) (by decide +kernel)), Or.inl rfl⟩

theorem tw_1810 : gW (.instanceMethod yX11_cost) := ⟨tb_8 (List.mem_of_getElem? (i := 20) (by decide +kernel)), Or.inl rfl⟩

theorem tw_1809 : gW (.methodLink RL 136 yX11_cost) := ⟨tb_8 (List.mem_of_getElem? (i := 19) (by decide +kernel)), Or.inl rfl⟩

theorem tw_1816 : gW (.code yX11_costOf cX11_costOf 7 (some .int)) := ⟨tb_8 (List.mem_of_getElem? (i := 26) (by decide +kernel)), Or.inl rfl⟩

theorem tw_95 : gW (.selects RX11 yX11_costOf yX11_costOf) := ⟨tb_0 (List.mem_of_getElem? (i := 95) (by decide +kernel)), Or.inl rfl⟩

theorem tw_1815 : gW (.instanceMethod yX11_costOf) := ⟨tb_8 (List.mem_of_getElem? (i := 25) (by decide +kernel)), Or.inl rfl⟩

theorem tw_1813 : gW (.methodLink RX11 353 yX11_costOf) := ⟨tb_8 (List.mem_of_getElem? (i := 23) (by decide +kernel)), Or.inl rfl⟩

theorem tw_1812 : gW (.code yX11_cost cX11_cost 5 (some .int)) := ⟨tb_8 (List.mem_of_getElem? (i := 22) (by decide +kernel)), Or.inl rfl⟩

theorem tw_1159 : gW (.selects RX10 yX10_dearest yX10_dearest) := ⟨tb_5 (List.mem_of_getElem? (i := 89) (by decide +kernel)), Or.inl rfl⟩

theorem tw_1158 : gW (.instanceMethod yX10_dearest) := ⟨tb_5 (List.mem_of_getElem? (i := 88) (by decide +kernel)), Or.inl rfl⟩

theorem tw_1157 : gW (.methodLink RL 137 yX10_dearest) := ⟨tb_5 (List.mem_of_getElem? (i := 87) (by decide +kernel)), Or.inl rfl⟩

theorem tw_919 : gW (.methodLink RX10 214 Lib.Math.min.name) := ⟨tb_4 (List.mem_of_getElem? (i := 89) (by decide +kernel)), Or.inl rfl⟩

theorem tw_930 : gW (.methodLink RX10 223 Lib.Math.max.name) := ⟨tb_4 (List.mem_of_getElem? (i := 100) (by decide +kernel)), Or.inl rfl⟩

theorem tw_1165 : gW (.methodLink RX10 310 yX8_highest) := ⟨tb_5 (List.mem_of_getElem? (i := 95) (by decide +kernel)), Or.inl rfl⟩

theorem tw_1164 : gW (.code yX8_lowest cX8_lowest 1 (some .int)) := ⟨tb_5 (List.mem_of_getElem? (i := 94) (by decide +kernel)), Or.inl rfl⟩

theorem tw_1163 : gW (.selects RX8 yX8_lowest yX8_lowest) := ⟨tb_5 (List.mem_of_getElem? (i := 93) (by decide +kernel)), Or.inl rfl⟩

theorem tw_1162 : gW (.instanceMethod yX8_lowest) := ⟨tb_5 (List.mem_of_getElem? (i := 92) (by decide +kernel)), Or.inl rfl⟩

theorem tw_1161 : gW (.methodLink RX10 307 yX8_lowest) := ⟨tb_5 (List.mem_of_getElem? (i := 91) (by decide +kernel)), Or.inl rfl⟩

theorem tw_1168 : gW (.code yX8_highest cX8_highest 1 (some .int)) := ⟨tb_5 (List.mem_of_getElem? (i := 98) (by decide +kernel)), Or.inl rfl⟩

theorem tw_1167 : gW (.selects RX8 yX8_highest yX8_highest) := ⟨tb_5 (List.mem_of_getElem? (i := 97) (by decide +kernel)), Or.inl rfl⟩

theorem tw_1166 : gW (.instanceMethod yX8_highest) := ⟨tb_5 (List.mem_of_getElem? (i := 96) (by decide +kernel)), Or.inl rfl⟩

theorem tw_1160 : gW (.code yX10_dearest cX10_dearest 13 (some .int)) := ⟨tb_5 (List.mem_of_getElem? (i := 90) (by decide +kernel)), Or.inl rfl⟩

theorem tw_1819 : gW (.selects RX11 yX11_dearest yX11_dearest) := ⟨tb_8 (List.mem_of_getElem? (i := 29) (by decide +kernel)), Or.inl rfl⟩

theorem tw_1818 : gW (.instanceMethod yX11_dearest) := ⟨tb_8 (List.mem_of_getElem? (i := 28) (by decide +kernel)), Or.inl rfl⟩

theorem tw_1817 : gW (.methodLink RL 140 yX11_dearest) := ⟨tb_8 (List.mem_of_getElem? (i := 27) (by decide +kernel)), Or.inl rfl⟩

theorem tw_1820 : gW (.code yX11_dearest cX11_dearest 10 (some .int)) := ⟨tb_8 (List.mem_of_getElem? (i := 30) (by decide +kernel)), Or.inl rfl⟩

theorem tw_1171 : gW (.selects RX10 yX10_send yX10_send) := ⟨tb_5 (List.mem_of_getElem? (i := 101) (by decide +kernel)), Or.inl rfl⟩

theorem tw_1170 : gW (.instanceMethod yX10_send) := ⟨tb_5 (List.mem_of_getElem? (i := 100) (by decide +kernel)), Or.inl rfl⟩

theorem tw_1169 : gW (.methodLink RL 141 yX10_send) := ⟨tb_5 (List.mem_of_getElem? (i := 99) (by decide +kernel)), Or.inl rfl⟩

theorem tw_437 : gW (.fieldLink RX0 15 "NoticeDesk$Book" "size" "I") := ⟨tb_2 (List.mem_of_getElem? (i := 87) (by decide +kernel)), Or.inl rfl⟩

theorem tw_1180 : gW (.code yX0_isFull cX0_isFull 1 (some .boolean)) := ⟨tb_5 (List.mem_of_getElem? (i := 110) (by decide +kernel)), Or.inl rfl⟩

theorem tw_1179 : gW (.selects RX0 yX0_isFull yX0_isFull) := ⟨tb_5 (List.mem_of_getElem? (i := 109) (by decide +kernel)), Or.inl rfl⟩

theorem tw_1178 : gW (.instanceMethod yX0_isFull) := ⟨tb_5 (List.mem_of_getElem? (i := 108) (by decide +kernel)), Or.inl rfl⟩

theorem tw_1177 : gW (.methodLink RX10 316 yX0_isFull) := ⟨tb_5 (List.mem_of_getElem? (i := 107) (by decide +kernel)), Or.inl rfl⟩

theorem tw_1176 : gW (.code yX10_refuse cX10_refuse 2 (some .int)) := ⟨tb_5 (List.mem_of_getElem? (i := 106) (by decide +kernel)), Or.inl rfl⟩

theorem tw_44 : gW (.selects RX10 yX10_refuse yX10_refuse) := ⟨tb_0 (List.mem_of_getElem? (i := 44) (by decide +kernel)), Or.inl rfl⟩

theorem tw_1175 : gW (.instanceMethod yX10_refuse) := ⟨tb_5 (List.mem_of_getElem? (i := 105) (by decide +kernel)), Or.inl rfl⟩

theorem tw_1173 : gW (.methodLink RX10 313 yX10_refuse) := ⟨tb_5 (List.mem_of_getElem? (i := 103) (by decide +kernel)), Or.inl rfl⟩

theorem tw_1189 : gW (.methodLink RX0 19 arraycopyName) := ⟨tb_5 (List.mem_of_getElem? (i := 119) (by decide +kernel)), Or.inl rfl⟩

theorem tw_1188 : gW (.code yX0_copyFrom cX0_copyFrom 2 none) := ⟨tb_5 (List.mem_of_getElem? (i := 118) (by decide +kernel)), Or.inl rfl⟩

theorem tw_1187 : gW (.selects RX0 yX0_copyFrom yX0_copyFrom) := ⟨tb_5 (List.mem_of_getElem? (i := 117) (by decide +kernel)), Or.inl rfl⟩

theorem tw_1186 : gW (.instanceMethod yX0_copyFrom) := ⟨tb_5 (List.mem_of_getElem? (i := 116) (by decide +kernel)), Or.inl rfl⟩

theorem tw_1185 : gW (.methodLink RX6 22 yX0_copyFrom) := ⟨tb_5 (List.mem_of_getElem? (i := 115) (by decide +kernel)), Or.inl rfl⟩

theorem tw_1190 : gW (.methodLink RX6 29 Lib.Math.min.name) := ⟨tb_5 (List.mem_of_getElem? (i := 120) (by decide +kernel)), Or.inl rfl⟩

theorem tw_459 : gW (.fieldLink RX6 26 "NoticeDesk$Past" "size" "I") := ⟨tb_2 (List.mem_of_getElem? (i := 109) (by decide +kernel)), Or.inl rfl⟩

theorem tw_458 : gW (.fieldLink RX6 18 "NoticeDesk$Past" "next" "I") := ⟨tb_2 (List.mem_of_getElem? (i := 108) (by decide +kernel)), Or.inl rfl⟩

theorem tw_1184 : gW (.code yX6_remember cX6_remember 2 none) := ⟨tb_5 (List.mem_of_getElem? (i := 114) (by decide +kernel)), Or.inl rfl⟩

theorem tw_1183 : gW (.selects RX6 yX6_remember yX6_remember) := ⟨tb_5 (List.mem_of_getElem? (i := 113) (by decide +kernel)), Or.inl rfl⟩

theorem tw_1182 : gW (.instanceMethod yX6_remember) := ⟨tb_5 (List.mem_of_getElem? (i := 112) (by decide +kernel)), Or.inl rfl⟩

theorem tw_1181 : gW (.methodLink RX10 323 yX6_remember) := ⟨tb_5 (List.mem_of_getElem? (i := 111) (by decide +kernel)), Or.inl rfl⟩

theorem tw_1198 : gW (.code yX0_put cX0_put 5 none) := ⟨tb_5 (List.mem_of_getElem? (i := 128) (by decide +kernel)), Or.inl rfl⟩

theorem tw_1197 : gW (.selects RX0 yX0_put yX0_put) := ⟨tb_5 (List.mem_of_getElem? (i := 127) (by decide +kernel)), Or.inl rfl⟩

theorem tw_1196 : gW (.instanceMethod yX0_put) := ⟨tb_5 (List.mem_of_getElem? (i := 126) (by decide +kernel)), Or.inl rfl⟩

theorem tw_1195 : gW (.methodLink RX10 331 yX0_put) := ⟨tb_5 (List.mem_of_getElem? (i := 125) (by decide +kernel)), Or.inl rfl⟩

theorem tw_1194 : gW (.code yX0_add cX0_add 1 none) := ⟨tb_5 (List.mem_of_getElem? (i := 124) (by decide +kernel)), Or.inl rfl⟩

theorem tw_1193 : gW (.selects RX0 yX0_add yX0_add) := ⟨tb_5 (List.mem_of_getElem? (i := 123) (by decide +kernel)), Or.inl rfl⟩

theorem tw_1192 : gW (.instanceMethod yX0_add) := ⟨tb_5 (List.mem_of_getElem? (i := 122) (by decide +kernel)), Or.inl rfl⟩

theorem tw_1191 : gW (.methodLink RX10 328 yX0_add) := ⟨tb_5 (List.mem_of_getElem? (i := 121) (by decide +kernel)), Or.inl rfl⟩

theorem tw_439 : gW (.fieldLink RX0 25 "NoticeDesk$Book" "clock" "I") := ⟨tb_2 (List.mem_of_getElem? (i := 89) (by decide +kernel)), Or.inl rfl⟩

theorem tw_1172 : gW (.code yX10_send cX10_send 7 (some .int)) := ⟨tb_5 (List.mem_of_getElem? (i := 102) (by decide +kernel)), Or.inl rfl⟩

theorem tw_1865 : gW (.selects RX11 yX11_send yX11_send) := ⟨tb_8 (List.mem_of_getElem? (i := 75) (by decide +kernel)), Or.inl rfl⟩

theorem tw_1864 : gW (.instanceMethod yX11_send) := ⟨tb_8 (List.mem_of_getElem? (i := 74) (by decide +kernel)), Or.inl rfl⟩

theorem tw_1863 : gW (.methodLink RL 144 yX11_send) := ⟨tb_8 (List.mem_of_getElem? (i := 73) (by decide +kernel)), Or.inl rfl⟩

theorem tw_1870 : gW (.code yX11_refuse cX11_refuse 2 (some .int)) := ⟨tb_8 (List.mem_of_getElem? (i := 80) (by decide +kernel)), Or.inl rfl⟩

theorem tw_99 : gW (.selects RX11 yX11_refuse yX11_refuse) := ⟨tb_0 (List.mem_of_getElem? (i := 99) (by decide +kernel)), Or.inl rfl⟩

theorem tw_1869 : gW (.instanceMethod yX11_refuse) := ⟨tb_8 (List.mem_of_getElem? (i := 79) (by decide +kernel)), Or.inl rfl⟩

theorem tw_1867 : gW (.methodLink RX11 383 yX11_refuse) := ⟨tb_8 (List.mem_of_getElem? (i := 77) (by decide +kernel)), Or.inl rfl⟩

theorem tw_1429 : gW (.fieldLink RX11 380 "NoticeDeskModel" "acts" "I") := ⟨tb_6 (List.mem_of_getElem? (i := 119) (by decide +kernel)), Or.inl rfl⟩

theorem tw_1874 : gW (.code yX11_keeps cX11_keeps 2 none) := ⟨tb_8 (List.mem_of_getElem? (i := 84) (by decide +kernel)), Or.inl rfl⟩

theorem tw_100 : gW (.selects RX11 yX11_keeps yX11_keeps) := ⟨tb_0 (List.mem_of_getElem? (i := 100) (by decide +kernel)), Or.inl rfl⟩

theorem tw_1873 : gW (.instanceMethod yX11_keeps) := ⟨tb_8 (List.mem_of_getElem? (i := 83) (by decide +kernel)), Or.inl rfl⟩

theorem tw_1871 : gW (.methodLink RX11 386 yX11_keeps) := ⟨tb_8 (List.mem_of_getElem? (i := 81) (by decide +kernel)), Or.inl rfl⟩

theorem tw_1866 : gW (.code yX11_send cX11_send 8 (some .int)) := ⟨tb_8 (List.mem_of_getElem? (i := 76) (by decide +kernel)), Or.inl rfl⟩

theorem tw_1201 : gW (.selects RX10 yX10_withdraw yX10_withdraw) := ⟨tb_5 (List.mem_of_getElem? (i := 131) (by decide +kernel)), Or.inl rfl⟩

theorem tw_1200 : gW (.instanceMethod yX10_withdraw) := ⟨tb_5 (List.mem_of_getElem? (i := 130) (by decide +kernel)), Or.inl rfl⟩

theorem tw_1199 : gW (.methodLink RL 145 yX10_withdraw) := ⟨tb_5 (List.mem_of_getElem? (i := 129) (by decide +kernel)), Or.inl rfl⟩

theorem tw_1217 : gW (.selects RX0 yX0_cell yX0_cell) := ⟨tb_5 (List.mem_of_getElem? (i := 147) (by decide +kernel)), Or.inl rfl⟩

theorem tw_1216 : gW (.instanceMethod yX0_cell) := ⟨tb_5 (List.mem_of_getElem? (i := 146) (by decide +kernel)), Or.inl rfl⟩

theorem tw_1215 : gW (.methodLink RX10 353 yX0_cell) := ⟨tb_5 (List.mem_of_getElem? (i := 145) (by decide +kernel)), Or.inl rfl⟩

theorem tw_1214 : gW (.code yX10_stateOf cX10_stateOf 6 (some .int)) := ⟨tb_5 (List.mem_of_getElem? (i := 144) (by decide +kernel)), Or.inl rfl⟩

theorem tw_47 : gW (.selects RX10 yX10_stateOf yX10_stateOf) := ⟨tb_0 (List.mem_of_getElem? (i := 47) (by decide +kernel)), Or.inl rfl⟩

theorem tw_1213 : gW (.instanceMethod yX10_stateOf) := ⟨tb_5 (List.mem_of_getElem? (i := 143) (by decide +kernel)), Or.inl rfl⟩

theorem tw_1211 : gW (.methodLink RX10 350 yX10_stateOf) := ⟨tb_5 (List.mem_of_getElem? (i := 141) (by decide +kernel)), Or.inl rfl⟩

theorem tw_1210 : gW (.code yX10_isOnItsWay cX10_isOnItsWay 3 (some .boolean)) := ⟨tb_5 (List.mem_of_getElem? (i := 140) (by decide +kernel)), Or.inl rfl⟩

theorem tw_46 : gW (.selects RX10 yX10_isOnItsWay yX10_isOnItsWay) := ⟨tb_0 (List.mem_of_getElem? (i := 46) (by decide +kernel)), Or.inl rfl⟩

theorem tw_1209 : gW (.instanceMethod yX10_isOnItsWay) := ⟨tb_5 (List.mem_of_getElem? (i := 139) (by decide +kernel)), Or.inl rfl⟩

theorem tw_1207 : gW (.methodLink RX10 337 yX10_isOnItsWay) := ⟨tb_5 (List.mem_of_getElem? (i := 137) (by decide +kernel)), Or.inl rfl⟩

theorem tw_1219 : gW (.methodLink RX10 356 yJ9_floorDiv_7cf53) := ⟨tb_5 (List.mem_of_getElem? (i := 149) (by decide +kernel)), Or.inl rfl⟩

theorem tw_1218 : gW (.code yX0_cell cX0_cell 4 (some .int)) := ⟨tb_5 (List.mem_of_getElem? (i := 148) (by decide +kernel)), Or.inl rfl⟩

theorem tw_1223 : gW (.code yX0_remove cX0_remove 3 none) := ⟨tb_5 (List.mem_of_getElem? (i := 153) (by decide +kernel)), Or.inl rfl⟩

theorem tw_1222 : gW (.selects RX0 yX0_remove yX0_remove) := ⟨tb_5 (List.mem_of_getElem? (i := 152) (by decide +kernel)), Or.inl rfl⟩

theorem tw_1221 : gW (.instanceMethod yX0_remove) := ⟨tb_5 (List.mem_of_getElem? (i := 151) (by decide +kernel)), Or.inl rfl⟩

theorem tw_1220 : gW (.methodLink RX10 340 yX0_remove) := ⟨tb_5 (List.mem_of_getElem? (i := 150) (by decide +kernel)), Or.inl rfl⟩

theorem tw_1202 : gW (.code yX10_withdraw cX10_withdraw 2 (some .int)) := ⟨tb_5 (List.mem_of_getElem? (i := 132) (by decide +kernel)), Or.inl rfl⟩

theorem tw_1877 : gW (.selects RX11 yX11_withdraw yX11_withdraw) := ⟨tb_8 (List.mem_of_getElem? (i := 87) (by decide +kernel)), Or.inl rfl⟩

theorem tw_1876 : gW (.instanceMethod yX11_withdraw) := ⟨tb_8 (List.mem_of_getElem? (i := 86) (by decide +kernel)), Or.inl rfl⟩

theorem tw_1875 : gW (.methodLink RL 148 yX11_withdraw) := ⟨tb_8 (List.mem_of_getElem? (i := 85) (by decide +kernel)), Or.inl rfl⟩

theorem tw_1890 : gW (.code yX11_stateOf cX11_stateOf 5 (some .int)) := ⟨tb_8 (List.mem_of_getElem? (i := 100) (by decide +kernel)), Or.inl rfl⟩

theorem tw_103 : gW (.selects RX11 yX11_stateOf yX11_stateOf) := ⟨tb_0 (List.mem_of_getElem? (i := 103) (by decide +kernel)), Or.inl rfl⟩

theorem tw_1889 : gW (.instanceMethod yX11_stateOf) := ⟨tb_8 (List.mem_of_getElem? (i := 99) (by decide +kernel)), Or.inl rfl⟩

theorem tw_1887 : gW (.methodLink RX11 392 yX11_stateOf) := ⟨tb_8 (List.mem_of_getElem? (i := 97) (by decide +kernel)), Or.inl rfl⟩

theorem tw_1886 : gW (.code yX11_isOnWay cX11_isOnWay 2 (some .boolean)) := ⟨tb_8 (List.mem_of_getElem? (i := 96) (by decide +kernel)), Or.inl rfl⟩

theorem tw_102 : gW (.selects RX11 yX11_isOnWay yX11_isOnWay) := ⟨tb_0 (List.mem_of_getElem? (i := 102) (by decide +kernel)), Or.inl rfl⟩

theorem tw_1885 : gW (.instanceMethod yX11_isOnWay) := ⟨tb_8 (List.mem_of_getElem? (i := 95) (by decide +kernel)), Or.inl rfl⟩

theorem tw_1883 : gW (.methodLink RX11 398 yX11_isOnWay) := ⟨tb_8 (List.mem_of_getElem? (i := 93) (by decide +kernel)), Or.inl rfl⟩

theorem tw_1882 : gW (.code yX11_isNotice cX11_isNotice 2 (some .boolean)) := ⟨tb_8 (List.mem_of_getElem? (i := 92) (by decide +kernel)), Or.inl rfl⟩

theorem tw_101 : gW (.selects RX11 yX11_isNotice yX11_isNotice) := ⟨tb_0 (List.mem_of_getElem? (i := 101) (by decide +kernel)), Or.inl rfl⟩

theorem tw_1881 : gW (.instanceMethod yX11_isNotice) := ⟨tb_8 (List.mem_of_getElem? (i := 91) (by decide +kernel)), Or.inl rfl⟩

theorem tw_1879 : gW (.methodLink RX11 395 yX11_isNotice) := ⟨tb_8 (List.mem_of_getElem? (i := 89) (by decide +kernel)), Or.inl rfl⟩

theorem tw_1891 : gW (.methodLink RX11 389 yJ9_floorDiv_7cf53) := ⟨tb_8 (List.mem_of_getElem? (i := 101) (by decide +kernel)), Or.inl rfl⟩

theorem tw_1878 : gW (.code yX11_withdraw cX11_withdraw 3 (some .int)) := ⟨tb_8 (List.mem_of_getElem? (i := 88) (by decide +kernel)), Or.inl rfl⟩

theorem tw_1226 : gW (.selects RX10 yX10_pass yX10_pass) := ⟨tb_5 (List.mem_of_getElem? (i := 156) (by decide +kernel)), Or.inl rfl⟩

theorem tw_1225 : gW (.instanceMethod yX10_pass) := ⟨tb_5 (List.mem_of_getElem? (i := 155) (by decide +kernel)), Or.inl rfl⟩

theorem tw_1224 : gW (.methodLink RL 149 yX10_pass) := ⟨tb_5 (List.mem_of_getElem? (i := 154) (by decide +kernel)), Or.inl rfl⟩

theorem tw_1227 : gW (.code yX10_pass cX10_pass 2 (some .int)) := ⟨tb_5 (List.mem_of_getElem? (i := 157) (by decide +kernel)), Or.inl rfl⟩

theorem tw_1894 : gW (.selects RX11 yX11_pass yX11_pass) := ⟨tb_8 (List.mem_of_getElem? (i := 104) (by decide +kernel)), Or.inl rfl⟩

theorem tw_1893 : gW (.instanceMethod yX11_pass) := ⟨tb_8 (List.mem_of_getElem? (i := 103) (by decide +kernel)), Or.inl rfl⟩

theorem tw_1892 : gW (.methodLink RL 152 yX11_pass) := ⟨tb_8 (List.mem_of_getElem? (i := 102) (by decide +kernel)), Or.inl rfl⟩

theorem tw_1896 : gW (.constantLong RX11 401 (9999)) := ⟨tb_8 (List.mem_of_getElem? (i := 106) (by decide +kernel)), Or.inl rfl⟩

theorem tw_1895 : gW (.code yX11_pass cX11_pass 2 (some .int)) := ⟨tb_8 (List.mem_of_getElem? (i := 105) (by decide +kernel)), Or.inl rfl⟩

theorem tw_1899 : gW (.selects RX11 yX11_notice yX11_notice) := ⟨tb_8 (List.mem_of_getElem? (i := 109) (by decide +kernel)), Or.inl rfl⟩

theorem tw_1898 : gW (.instanceMethod yX11_notice) := ⟨tb_8 (List.mem_of_getElem? (i := 108) (by decide +kernel)), Or.inl rfl⟩

theorem tw_1897 : gW (.methodLink RL 158 yX11_notice) := ⟨tb_8 (List.mem_of_getElem? (i := 107) (by decide +kernel)), Or.inl rfl⟩

theorem tw_1900 : gW (.code yX11_notice cX11_notice 3 (some .int)) := ⟨tb_8 (List.mem_of_getElem? (i := 110) (by decide +kernel)), Or.inl rfl⟩

theorem tw_1368 : gW (.selects RX11 yX11_thrown yX11_thrown) := ⟨tb_6 (List.mem_of_getElem? (i := 58) (by decide +kernel)), Or.inl rfl⟩

theorem tw_1367 : gW (.instanceMethod yX11_thrown) := ⟨tb_6 (List.mem_of_getElem? (i := 57) (by decide +kernel)), Or.inl rfl⟩

theorem tw_1366 : gW (.methodLink RL 159 yX11_thrown) := ⟨tb_6 (List.mem_of_getElem? (i := 56) (by decide +kernel)), Or.inl rfl⟩

theorem tw_1369 : gW (.code yX11_thrown cX11_thrown 1 (some .int)) := ⟨tb_6 (List.mem_of_getElem? (i := 59) (by decide +kernel)), Or.inl rfl⟩

theorem tw_1230 : gW (.selects RX10 yX10_due yX10_due) := ⟨tb_5 (List.mem_of_getElem? (i := 160) (by decide +kernel)), Or.inl rfl⟩

theorem tw_1229 : gW (.instanceMethod yX10_due) := ⟨tb_5 (List.mem_of_getElem? (i := 159) (by decide +kernel)), Or.inl rfl⟩

theorem tw_1228 : gW (.methodLink RL 163 yX10_due) := ⟨tb_5 (List.mem_of_getElem? (i := 158) (by decide +kernel)), Or.inl rfl⟩

theorem tw_1235 : gW (.code yX10_placeByServed cX10_placeByServed 6 (some .int)) := ⟨tb_5 (List.mem_of_getElem? (i := 165) (by decide +kernel)), Or.inl rfl⟩

theorem tw_48 : gW (.selects RX10 yX10_placeByServed yX10_placeByServed) := ⟨tb_0 (List.mem_of_getElem? (i := 48) (by decide +kernel)), Or.inl rfl⟩

theorem tw_1234 : gW (.instanceMethod yX10_placeByServed) := ⟨tb_5 (List.mem_of_getElem? (i := 164) (by decide +kernel)), Or.inl rfl⟩

theorem tw_1232 : gW (.methodLink RX10 359 yX10_placeByServed) := ⟨tb_5 (List.mem_of_getElem? (i := 162) (by decide +kernel)), Or.inl rfl⟩

theorem tw_1231 : gW (.code yX10_due cX10_due 3 (some .int)) := ⟨tb_5 (List.mem_of_getElem? (i := 161) (by decide +kernel)), Or.inl rfl⟩

theorem tw_1903 : gW (.selects RX11 yX11_due yX11_due) := ⟨tb_8 (List.mem_of_getElem? (i := 113) (by decide +kernel)), Or.inl rfl⟩

theorem tw_1902 : gW (.instanceMethod yX11_due) := ⟨tb_8 (List.mem_of_getElem? (i := 112) (by decide +kernel)), Or.inl rfl⟩

theorem tw_1901 : gW (.methodLink RL 166 yX11_due) := ⟨tb_8 (List.mem_of_getElem? (i := 111) (by decide +kernel)), Or.inl rfl⟩

theorem tw_1908 : gW (.code yX11_aheadOf cX11_aheadOf 4 (some .int)) := ⟨tb_8 (List.mem_of_getElem? (i := 118) (by decide +kernel)), Or.inl rfl⟩

theorem tw_104 : gW (.selects RX11 yX11_aheadOf yX11_aheadOf) := ⟨tb_0 (List.mem_of_getElem? (i := 104) (by decide +kernel)), Or.inl rfl⟩

theorem tw_1907 : gW (.instanceMethod yX11_aheadOf) := ⟨tb_8 (List.mem_of_getElem? (i := 117) (by decide +kernel)), Or.inl rfl⟩

theorem tw_1905 : gW (.methodLink RX11 403 yX11_aheadOf) := ⟨tb_8 (List.mem_of_getElem? (i := 115) (by decide +kernel)), Or.inl rfl⟩

theorem tw_1904 : gW (.code yX11_due cX11_due 3 (some .int)) := ⟨tb_8 (List.mem_of_getElem? (i := 114) (by decide +kernel)), Or.inl rfl⟩

theorem tw_1238 : gW (.selects RX10 yX10_late yX10_late) := ⟨tb_5 (List.mem_of_getElem? (i := 168) (by decide +kernel)), Or.inl rfl⟩

theorem tw_1237 : gW (.instanceMethod yX10_late) := ⟨tb_5 (List.mem_of_getElem? (i := 167) (by decide +kernel)), Or.inl rfl⟩

theorem tw_1236 : gW (.methodLink RL 167 yX10_late) := ⟨tb_5 (List.mem_of_getElem? (i := 166) (by decide +kernel)), Or.inl rfl⟩

theorem tw_1239 : gW (.code yX10_late cX10_late 6 (some .int)) := ⟨tb_5 (List.mem_of_getElem? (i := 169) (by decide +kernel)), Or.inl rfl⟩

theorem tw_1911 : gW (.selects RX11 yX11_late yX11_late) := ⟨tb_8 (List.mem_of_getElem? (i := 121) (by decide +kernel)), Or.inl rfl⟩

theorem tw_1910 : gW (.instanceMethod yX11_late) := ⟨tb_8 (List.mem_of_getElem? (i := 120) (by decide +kernel)), Or.inl rfl⟩

theorem tw_1909 : gW (.methodLink RL 170 yX11_late) := ⟨tb_8 (List.mem_of_getElem? (i := 119) (by decide +kernel)), Or.inl rfl⟩

theorem tw_1912 : gW (.code yX11_late cX11_late 6 (some .int)) := ⟨tb_8 (List.mem_of_getElem? (i := 122) (by decide +kernel)), Or.inl rfl⟩

theorem tw_1242 : gW (.selects RX10 yX10_now yX10_now) := ⟨tb_5 (List.mem_of_getElem? (i := 172) (by decide +kernel)), Or.inl rfl⟩

theorem tw_1241 : gW (.instanceMethod yX10_now) := ⟨tb_5 (List.mem_of_getElem? (i := 171) (by decide +kernel)), Or.inl rfl⟩

theorem tw_1240 : gW (.methodLink RL 171 yX10_now) := ⟨tb_5 (List.mem_of_getElem? (i := 170) (by decide +kernel)), Or.inl rfl⟩

theorem tw_50 : gW (.selects RX10 yX10_servedNext yX10_servedNext) := ⟨tb_0 (List.mem_of_getElem? (i := 50) (by decide +kernel)), Or.inl rfl⟩

theorem tw_1250 : gW (.instanceMethod yX10_servedNext) := ⟨tb_5 (List.mem_of_getElem? (i := 180) (by decide +kernel)), Or.inl rfl⟩

theorem tw_1248 : gW (.methodLink RX10 365 yX10_servedNext) := ⟨tb_5 (List.mem_of_getElem? (i := 178) (by decide +kernel)), Or.inl rfl⟩

theorem tw_1247 : gW (.code yX10_noticesOfState cX10_noticesOfState 4 (some .int)) := ⟨tb_5 (List.mem_of_getElem? (i := 177) (by decide +kernel)), Or.inl rfl⟩

theorem tw_49 : gW (.selects RX10 yX10_noticesOfState yX10_noticesOfState) := ⟨tb_0 (List.mem_of_getElem? (i := 49) (by decide +kernel)), Or.inl rfl⟩

theorem tw_1246 : gW (.instanceMethod yX10_noticesOfState) := ⟨tb_5 (List.mem_of_getElem? (i := 176) (by decide +kernel)), Or.inl rfl⟩

theorem tw_1244 : gW (.methodLink RX10 362 yX10_noticesOfState) := ⟨tb_5 (List.mem_of_getElem? (i := 174) (by decide +kernel)), Or.inl rfl⟩

theorem tw_1259 : gW (.code yX10_chainsTold cX10_chainsTold 3 (some .int)) := ⟨tb_5 (List.mem_of_getElem? (i := 189) (by decide +kernel)), Or.inl rfl⟩

theorem tw_52 : gW (.selects RX10 yX10_chainsTold yX10_chainsTold) := ⟨tb_0 (List.mem_of_getElem? (i := 52) (by decide +kernel)), Or.inl rfl⟩

theorem tw_1258 : gW (.instanceMethod yX10_chainsTold) := ⟨tb_5 (List.mem_of_getElem? (i := 188) (by decide +kernel)), Or.inl rfl⟩

theorem tw_1256 : gW (.methodLink RX10 371 yX10_chainsTold) := ⟨tb_5 (List.mem_of_getElem? (i := 186) (by decide +kernel)), Or.inl rfl⟩

theorem tw_1255 : gW (.code yX10_waysTold cX10_waysTold 3 (some .int)) := ⟨tb_5 (List.mem_of_getElem? (i := 185) (by decide +kernel)), Or.inl rfl⟩

theorem tw_51 : gW (.selects RX10 yX10_waysTold yX10_waysTold) := ⟨tb_0 (List.mem_of_getElem? (i := 51) (by decide +kernel)), Or.inl rfl⟩

theorem tw_1254 : gW (.instanceMethod yX10_waysTold) := ⟨tb_5 (List.mem_of_getElem? (i := 184) (by decide +kernel)), Or.inl rfl⟩

theorem tw_1252 : gW (.methodLink RX10 368 yX10_waysTold) := ⟨tb_5 (List.mem_of_getElem? (i := 182) (by decide +kernel)), Or.inl rfl⟩

theorem tw_1251 : gW (.code yX10_servedNext cX10_servedNext 4 (some .int)) := ⟨tb_5 (List.mem_of_getElem? (i := 181) (by decide +kernel)), Or.inl rfl⟩

theorem tw_1243 : gW (.code yX10_now cX10_now 2 (some .int)) := ⟨tb_5 (List.mem_of_getElem? (i := 173) (by decide +kernel)), Or.inl rfl⟩

theorem tw_1915 : gW (.selects RX11 yX11_now yX11_now) := ⟨tb_8 (List.mem_of_getElem? (i := 125) (by decide +kernel)), Or.inl rfl⟩

theorem tw_1914 : gW (.instanceMethod yX11_now) := ⟨tb_8 (List.mem_of_getElem? (i := 124) (by decide +kernel)), Or.inl rfl⟩

theorem tw_1913 : gW (.methodLink RL 174 yX11_now) := ⟨tb_8 (List.mem_of_getElem? (i := 123) (by decide +kernel)), Or.inl rfl⟩

theorem tw_1921 : gW (.methodLink RX11 409 yX11_nextServed) := ⟨tb_8 (List.mem_of_getElem? (i := 131) (by decide +kernel)), Or.inl rfl⟩

theorem tw_1920 : gW (.code yX11_stateMany cX11_stateMany 4 (some .int)) := ⟨tb_8 (List.mem_of_getElem? (i := 130) (by decide +kernel)), Or.inl rfl⟩

theorem tw_105 : gW (.selects RX11 yX11_stateMany yX11_stateMany) := ⟨tb_0 (List.mem_of_getElem? (i := 105) (by decide +kernel)), Or.inl rfl⟩

theorem tw_1919 : gW (.instanceMethod yX11_stateMany) := ⟨tb_8 (List.mem_of_getElem? (i := 129) (by decide +kernel)), Or.inl rfl⟩

theorem tw_1917 : gW (.methodLink RX11 406 yX11_stateMany) := ⟨tb_8 (List.mem_of_getElem? (i := 127) (by decide +kernel)), Or.inl rfl⟩

theorem tw_1927 : gW (.code yX11_bits cX11_bits 3 (some .int)) := ⟨tb_8 (List.mem_of_getElem? (i := 137) (by decide +kernel)), Or.inl rfl⟩

theorem tw_1926 : gW (.static yX11_bits) := ⟨tb_8 (List.mem_of_getElem? (i := 136) (by decide +kernel)), Or.inl rfl⟩

theorem tw_1925 : gW (.methodLink RX11 412 yX11_bits) := ⟨tb_8 (List.mem_of_getElem? (i := 135) (by decide +kernel)), Or.inl rfl⟩

theorem tw_1924 : gW (.code yX11_nextServed cX11_nextServed 3 (some .int)) := ⟨tb_8 (List.mem_of_getElem? (i := 134) (by decide +kernel)), Or.inl rfl⟩

theorem tw_106 : gW (.selects RX11 yX11_nextServed yX11_nextServed) := ⟨tb_0 (List.mem_of_getElem? (i := 106) (by decide +kernel)), Or.inl rfl⟩

theorem tw_1923 : gW (.instanceMethod yX11_nextServed) := ⟨tb_8 (List.mem_of_getElem? (i := 133) (by decide +kernel)), Or.inl rfl⟩

theorem tw_1916 : gW (.code yX11_now cX11_now 2 (some .int)) := ⟨tb_8 (List.mem_of_getElem? (i := 126) (by decide +kernel)), Or.inl rfl⟩

theorem tw_1262 : gW (.selects RX10 yX10_undo yX10_undo) := ⟨tb_5 (List.mem_of_getElem? (i := 192) (by decide +kernel)), Or.inl rfl⟩

theorem tw_1261 : gW (.instanceMethod yX10_undo) := ⟨tb_5 (List.mem_of_getElem? (i := 191) (by decide +kernel)), Or.inl rfl⟩

theorem tw_1260 : gW (.methodLink RL 175 yX10_undo) := ⟨tb_5 (List.mem_of_getElem? (i := 190) (by decide +kernel)), Or.inl rfl⟩

theorem tw_1267 : gW (.code yX6_takeBack cX6_takeBack 2 (some .int)) := ⟨tb_5 (List.mem_of_getElem? (i := 197) (by decide +kernel)), Or.inl rfl⟩

theorem tw_1266 : gW (.selects RX6 yX6_takeBack yX6_takeBack) := ⟨tb_5 (List.mem_of_getElem? (i := 196) (by decide +kernel)), Or.inl rfl⟩

theorem tw_1265 : gW (.instanceMethod yX6_takeBack) := ⟨tb_5 (List.mem_of_getElem? (i := 195) (by decide +kernel)), Or.inl rfl⟩

theorem tw_1264 : gW (.methodLink RX10 374 yX6_takeBack) := ⟨tb_5 (List.mem_of_getElem? (i := 194) (by decide +kernel)), Or.inl rfl⟩

theorem tw_1263 : gW (.code yX10_undo cX10_undo 1 (some .int)) := ⟨tb_5 (List.mem_of_getElem? (i := 193) (by decide +kernel)), Or.inl rfl⟩

theorem tw_1930 : gW (.selects RX11 yX11_undo yX11_undo) := ⟨tb_8 (List.mem_of_getElem? (i := 140) (by decide +kernel)), Or.inl rfl⟩

theorem tw_1929 : gW (.instanceMethod yX11_undo) := ⟨tb_8 (List.mem_of_getElem? (i := 139) (by decide +kernel)), Or.inl rfl⟩

theorem tw_1928 : gW (.methodLink RL 178 yX11_undo) := ⟨tb_8 (List.mem_of_getElem? (i := 138) (by decide +kernel)), Or.inl rfl⟩

theorem tw_1931 : gW (.code yX11_undo cX11_undo 2 (some .int)) := ⟨tb_8 (List.mem_of_getElem? (i := 141) (by decide +kernel)), Or.inl rfl⟩

theorem tw_1270 : gW (.selects RX10 yX10_image yX10_image) := ⟨tb_5 (List.mem_of_getElem? (i := 200) (by decide +kernel)), Or.inl rfl⟩

theorem tw_1269 : gW (.instanceMethod yX10_image) := ⟨tb_5 (List.mem_of_getElem? (i := 199) (by decide +kernel)), Or.inl rfl⟩

theorem tw_1268 : gW (.methodLink RL 179 yX10_image) := ⟨tb_5 (List.mem_of_getElem? (i := 198) (by decide +kernel)), Or.inl rfl⟩

theorem tw_1272 : gW (.methodLink RX10 378 yX0_copyFrom) := ⟨tb_5 (List.mem_of_getElem? (i := 202) (by decide +kernel)), Or.inl rfl⟩

theorem tw_481 : gW (.fieldLink RX10 380 "NoticeDesk" "hasImage" "Z") := ⟨tb_2 (List.mem_of_getElem? (i := 131) (by decide +kernel)), Or.inl rfl⟩

theorem tw_1271 : gW (.code yX10_image cX10_image 1 (some .int)) := ⟨tb_5 (List.mem_of_getElem? (i := 201) (by decide +kernel)), Or.inl rfl⟩

theorem tw_1934 : gW (.selects RX11 yX11_image yX11_image) := ⟨tb_8 (List.mem_of_getElem? (i := 144) (by decide +kernel)), Or.inl rfl⟩

theorem tw_1933 : gW (.instanceMethod yX11_image) := ⟨tb_8 (List.mem_of_getElem? (i := 143) (by decide +kernel)), Or.inl rfl⟩

theorem tw_1932 : gW (.methodLink RL 182 yX11_image) := ⟨tb_8 (List.mem_of_getElem? (i := 142) (by decide +kernel)), Or.inl rfl⟩

theorem tw_1430 : gW (.fieldLink RX11 416 "NoticeDeskModel" "hasImage" "Z") := ⟨tb_6 (List.mem_of_getElem? (i := 120) (by decide +kernel)), Or.inl rfl⟩

theorem tw_1935 : gW (.code yX11_image cX11_image 2 (some .int)) := ⟨tb_8 (List.mem_of_getElem? (i := 145) (by decide +kernel)), Or.inl rfl⟩

theorem tw_1275 : gW (.selects RX10 yX10_back yX10_back) := ⟨tb_5 (List.mem_of_getElem? (i := 205) (by decide +kernel)), Or.inl rfl⟩

theorem tw_1274 : gW (.instanceMethod yX10_back) := ⟨tb_5 (List.mem_of_getElem? (i := 204) (by decide +kernel)), Or.inl rfl⟩

theorem tw_1273 : gW (.methodLink RL 183 yX10_back) := ⟨tb_5 (List.mem_of_getElem? (i := 203) (by decide +kernel)), Or.inl rfl⟩

theorem tw_1280 : gW (.code yX6_forget cX6_forget 1 none) := ⟨tb_5 (List.mem_of_getElem? (i := 210) (by decide +kernel)), Or.inl rfl⟩

theorem tw_1279 : gW (.selects RX6 yX6_forget yX6_forget) := ⟨tb_5 (List.mem_of_getElem? (i := 209) (by decide +kernel)), Or.inl rfl⟩

theorem tw_1278 : gW (.instanceMethod yX6_forget) := ⟨tb_5 (List.mem_of_getElem? (i := 208) (by decide +kernel)), Or.inl rfl⟩

theorem tw_1277 : gW (.methodLink RX10 383 yX6_forget) := ⟨tb_5 (List.mem_of_getElem? (i := 207) (by decide +kernel)), Or.inl rfl⟩

theorem tw_1276 : gW (.code yX10_back cX10_back 1 (some .int)) := ⟨tb_5 (List.mem_of_getElem? (i := 206) (by decide +kernel)), Or.inl rfl⟩

theorem tw_1938 : gW (.selects RX11 yX11_back yX11_back) := ⟨tb_8 (List.mem_of_getElem? (i := 148) (by decide +kernel)), Or.inl rfl⟩

theorem tw_1937 : gW (.instanceMethod yX11_back) := ⟨tb_8 (List.mem_of_getElem? (i := 147) (by decide +kernel)), Or.inl rfl⟩

theorem tw_1936 : gW (.methodLink RL 186 yX11_back) := ⟨tb_8 (List.mem_of_getElem? (i := 146) (by decide +kernel)), Or.inl rfl⟩

theorem tw_1939 : gW (.code yX11_back cX11_back 2 (some .int)) := ⟨tb_8 (List.mem_of_getElem? (i := 149) (by decide +kernel)), Or.inl rfl⟩

theorem tw_1060 : gW (.selects RX10 yX10_written yX10_written) := ⟨tb_4 (List.mem_of_getElem? (i := 230) (by decide +kernel)), Or.inl rfl⟩

theorem tw_1059 : gW (.instanceMethod yX10_written) := ⟨tb_4 (List.mem_of_getElem? (i := 229) (by decide +kernel)), Or.inl rfl⟩

theorem tw_1058 : gW (.methodLink RL 187 yX10_written) := ⟨tb_4 (List.mem_of_getElem? (i := 228) (by decide +kernel)), Or.inl rfl⟩

theorem tw_1069 : gW (.code yX9_textByte cX9_textByte 2 (some .int)) := ⟨tb_4 (List.mem_of_getElem? (i := 239) (by decide +kernel)), Or.inl rfl⟩

theorem tw_1068 : gW (.selects RX9 yX9_textByte yX9_textByte) := ⟨tb_4 (List.mem_of_getElem? (i := 238) (by decide +kernel)), Or.inl rfl⟩

theorem tw_1067 : gW (.instanceMethod yX9_textByte) := ⟨tb_4 (List.mem_of_getElem? (i := 237) (by decide +kernel)), Or.inl rfl⟩

theorem tw_1066 : gW (.methodLink RX10 272 yX9_textByte) := ⟨tb_4 (List.mem_of_getElem? (i := 236) (by decide +kernel)), Or.inl rfl⟩

theorem tw_1065 : gW (.code yX9_textLength cX9_textLength 1 (some .int)) := ⟨tb_4 (List.mem_of_getElem? (i := 235) (by decide +kernel)), Or.inl rfl⟩

theorem tw_1064 : gW (.selects RX9 yX9_textLength yX9_textLength) := ⟨tb_4 (List.mem_of_getElem? (i := 234) (by decide +kernel)), Or.inl rfl⟩

theorem tw_1063 : gW (.instanceMethod yX9_textLength) := ⟨tb_4 (List.mem_of_getElem? (i := 233) (by decide +kernel)), Or.inl rfl⟩

theorem tw_1062 : gW (.methodLink RX10 269 yX9_textLength) := ⟨tb_4 (List.mem_of_getElem? (i := 232) (by decide +kernel)), Or.inl rfl⟩

theorem tw_1061 : gW (.code yX10_written cX10_written 3 (some .int)) := ⟨tb_4 (List.mem_of_getElem? (i := 231) (by decide +kernel)), Or.inl rfl⟩

theorem tw_1942 : gW (.selects RX11 yX11_written yX11_written) := ⟨tb_8 (List.mem_of_getElem? (i := 152) (by decide +kernel)), Or.inl rfl⟩

theorem tw_1941 : gW (.instanceMethod yX11_written) := ⟨tb_8 (List.mem_of_getElem? (i := 151) (by decide +kernel)), Or.inl rfl⟩

theorem tw_1940 : gW (.methodLink RL 190 yX11_written) := ⟨tb_8 (List.mem_of_getElem? (i := 150) (by decide +kernel)), Or.inl rfl⟩

theorem tw_1952 : gW (.methodLink RX11 424 yX11_saysWord) := ⟨tb_8 (List.mem_of_getElem? (i := 162) (by decide +kernel)), Or.inl rfl⟩

theorem tw_1951 : gW (.code yX11_saysStep cX11_saysStep 3 none) := ⟨tb_8 (List.mem_of_getElem? (i := 161) (by decide +kernel)), Or.inl rfl⟩

theorem tw_108 : gW (.selects RX11 yX11_saysStep yX11_saysStep) := ⟨tb_0 (List.mem_of_getElem? (i := 108) (by decide +kernel)), Or.inl rfl⟩

theorem tw_1950 : gW (.instanceMethod yX11_saysStep) := ⟨tb_8 (List.mem_of_getElem? (i := 160) (by decide +kernel)), Or.inl rfl⟩

theorem tw_1948 : gW (.methodLink RX11 433 yX11_saysStep) := ⟨tb_8 (List.mem_of_getElem? (i := 158) (by decide +kernel)), Or.inl rfl⟩

theorem tw_1947 : gW (.code yX11_says cX11_says 2 none) := ⟨tb_8 (List.mem_of_getElem? (i := 157) (by decide +kernel)), Or.inl rfl⟩

theorem tw_107 : gW (.selects RX11 yX11_says yX11_says) := ⟨tb_0 (List.mem_of_getElem? (i := 107) (by decide +kernel)), Or.inl rfl⟩

theorem tw_1946 : gW (.instanceMethod yX11_says) := ⟨tb_8 (List.mem_of_getElem? (i := 156) (by decide +kernel)), Or.inl rfl⟩

theorem tw_1944 : gW (.methodLink RX11 422 yX11_says) := ⟨tb_8 (List.mem_of_getElem? (i := 154) (by decide +kernel)), Or.inl rfl⟩

theorem tw_1432 : gW (.fieldLink RX11 419 "NoticeDeskModel" "says" "I") := ⟨tb_6 (List.mem_of_getElem? (i := 122) (by decide +kernel)), Or.inl rfl⟩

theorem tw_1955 : gW (.code yX11_saysWord cX11_saysWord 3 none) := ⟨tb_8 (List.mem_of_getElem? (i := 165) (by decide +kernel)), Or.inl rfl⟩

theorem tw_109 : gW (.selects RX11 yX11_saysWord yX11_saysWord) := ⟨tb_0 (List.mem_of_getElem? (i := 109) (by decide +kernel)), Or.inl rfl⟩

theorem tw_1954 : gW (.instanceMethod yX11_saysWord) := ⟨tb_8 (List.mem_of_getElem? (i := 164) (by decide +kernel)), Or.inl rfl⟩

theorem tw_1943 : gW (.code yX11_written cX11_written 4 (some .int)) := ⟨tb_8 (List.mem_of_getElem? (i := 153) (by decide +kernel)), Or.inl rfl⟩

theorem tw_1283 : gW (.selects RX10 yX10_status yX10_status) := ⟨tb_5 (List.mem_of_getElem? (i := 213) (by decide +kernel)), Or.inl rfl⟩

theorem tw_1282 : gW (.instanceMethod yX10_status) := ⟨tb_5 (List.mem_of_getElem? (i := 212) (by decide +kernel)), Or.inl rfl⟩

theorem tw_1281 : gW (.methodLink RL 191 yX10_status) := ⟨tb_5 (List.mem_of_getElem? (i := 211) (by decide +kernel)), Or.inl rfl⟩

theorem tw_1284 : gW (.code yX10_status cX10_status 2 (some .int)) := ⟨tb_5 (List.mem_of_getElem? (i := 214) (by decide +kernel)), Or.inl rfl⟩

theorem tw_1961 : gW (.selects RX11 yX11_status yX11_status) := ⟨tb_8 (List.mem_of_getElem? (i := 171) (by decide +kernel)), Or.inl rfl⟩

theorem tw_1960 : gW (.instanceMethod yX11_status) := ⟨tb_8 (List.mem_of_getElem? (i := 170) (by decide +kernel)), Or.inl rfl⟩

theorem tw_1959 : gW (.methodLink RL 194 yX11_status) := ⟨tb_8 (List.mem_of_getElem? (i := 169) (by decide +kernel)), Or.inl rfl⟩

theorem tw_1962 : gW (.code yX11_status cX11_status 2 (some .int)) := ⟨tb_8 (List.mem_of_getElem? (i := 172) (by decide +kernel)), Or.inl rfl⟩

theorem tw_917 : gW (.selects RX10 yX10_most yX10_most) := ⟨tb_4 (List.mem_of_getElem? (i := 87) (by decide +kernel)), Or.inl rfl⟩

theorem tw_916 : gW (.instanceMethod yX10_most) := ⟨tb_4 (List.mem_of_getElem? (i := 86) (by decide +kernel)), Or.inl rfl⟩

theorem tw_915 : gW (.methodLink RL 195 yX10_most) := ⟨tb_4 (List.mem_of_getElem? (i := 85) (by decide +kernel)), Or.inl rfl⟩

theorem tw_925 : gW (.code yX10_countsForMost cX10_countsForMost 3 (some .boolean)) := ⟨tb_4 (List.mem_of_getElem? (i := 95) (by decide +kernel)), Or.inl rfl⟩

theorem tw_27 : gW (.selects RX10 yX10_countsForMost yX10_countsForMost) := ⟨tb_0 (List.mem_of_getElem? (i := 27) (by decide +kernel)), Or.inl rfl⟩

theorem tw_924 : gW (.instanceMethod yX10_countsForMost) := ⟨tb_4 (List.mem_of_getElem? (i := 94) (by decide +kernel)), Or.inl rfl⟩

theorem tw_922 : gW (.methodLink RX10 219 yX10_countsForMost) := ⟨tb_4 (List.mem_of_getElem? (i := 92) (by decide +kernel)), Or.inl rfl⟩

theorem tw_929 : gW (.code yX10_isWorkdayOfNone cX10_isWorkdayOfNone 2 (some .boolean)) := ⟨tb_4 (List.mem_of_getElem? (i := 99) (by decide +kernel)), Or.inl rfl⟩

theorem tw_28 : gW (.selects RX10 yX10_isWorkdayOfNone yX10_isWorkdayOfNone) := ⟨tb_0 (List.mem_of_getElem? (i := 28) (by decide +kernel)), Or.inl rfl⟩

theorem tw_928 : gW (.instanceMethod yX10_isWorkdayOfNone) := ⟨tb_4 (List.mem_of_getElem? (i := 98) (by decide +kernel)), Or.inl rfl⟩

theorem tw_926 : gW (.methodLink RX10 226 yX10_isWorkdayOfNone) := ⟨tb_4 (List.mem_of_getElem? (i := 96) (by decide +kernel)), Or.inl rfl⟩

theorem tw_918 : gW (.code yX10_most cX10_most 9 (some .int)) := ⟨tb_4 (List.mem_of_getElem? (i := 88) (by decide +kernel)), Or.inl rfl⟩

theorem tw_1965 : gW (.selects RX11 yX11_most yX11_most) := ⟨tb_8 (List.mem_of_getElem? (i := 175) (by decide +kernel)), Or.inl rfl⟩

theorem tw_1964 : gW (.instanceMethod yX11_most) := ⟨tb_8 (List.mem_of_getElem? (i := 174) (by decide +kernel)), Or.inl rfl⟩

theorem tw_1963 : gW (.methodLink RL 198 yX11_most) := ⟨tb_8 (List.mem_of_getElem? (i := 173) (by decide +kernel)), Or.inl rfl⟩

theorem tw_1967 : gW (.constantLong RX11 436 (4)) := ⟨tb_8 (List.mem_of_getElem? (i := 177) (by decide +kernel)), Or.inl rfl⟩

theorem tw_1966 : gW (.code yX11_most cX11_most 8 (some .int)) := ⟨tb_8 (List.mem_of_getElem? (i := 176) (by decide +kernel)), Or.inl rfl⟩

theorem tw_1287 : gW (.selects RX10 yX10_count yX10_count) := ⟨tb_5 (List.mem_of_getElem? (i := 217) (by decide +kernel)), Or.inl rfl⟩

theorem tw_1286 : gW (.instanceMethod yX10_count) := ⟨tb_5 (List.mem_of_getElem? (i := 216) (by decide +kernel)), Or.inl rfl⟩

theorem tw_1285 : gW (.methodLink RL 199 yX10_count) := ⟨tb_5 (List.mem_of_getElem? (i := 215) (by decide +kernel)), Or.inl rfl⟩

theorem tw_1292 : gW (.code yX6_size cX6_size 1 (some .int)) := ⟨tb_5 (List.mem_of_getElem? (i := 222) (by decide +kernel)), Or.inl rfl⟩

theorem tw_1291 : gW (.selects RX6 yX6_size yX6_size) := ⟨tb_5 (List.mem_of_getElem? (i := 221) (by decide +kernel)), Or.inl rfl⟩

theorem tw_1290 : gW (.instanceMethod yX6_size) := ⟨tb_5 (List.mem_of_getElem? (i := 220) (by decide +kernel)), Or.inl rfl⟩

theorem tw_1289 : gW (.methodLink RX10 386 yX6_size) := ⟨tb_5 (List.mem_of_getElem? (i := 219) (by decide +kernel)), Or.inl rfl⟩

theorem tw_1288 : gW (.code yX10_count cX10_count 2 (some .int)) := ⟨tb_5 (List.mem_of_getElem? (i := 218) (by decide +kernel)), Or.inl rfl⟩

theorem tw_1970 : gW (.selects RX11 yX11_count yX11_count) := ⟨tb_8 (List.mem_of_getElem? (i := 180) (by decide +kernel)), Or.inl rfl⟩

theorem tw_1969 : gW (.instanceMethod yX11_count) := ⟨tb_8 (List.mem_of_getElem? (i := 179) (by decide +kernel)), Or.inl rfl⟩

theorem tw_1968 : gW (.methodLink RL 202 yX11_count) := ⟨tb_8 (List.mem_of_getElem? (i := 178) (by decide +kernel)), Or.inl rfl⟩

theorem tw_1971 : gW (.code yX11_count cX11_count 2 (some .int)) := ⟨tb_8 (List.mem_of_getElem? (i := 181) (by decide +kernel)), Or.inl rfl⟩
