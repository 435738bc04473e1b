theorem in_pl {big ws : List Cond} (ps : List Nat) (h : ws = ps.filterMap (fun i => big[i]?)) : ∀ w ∈ ws, w ∈ big := fun w hw => by
  rw [h] at hw
  obtain ⟨i, -, hi⟩ := List.mem_filterMap.mp hw
  exact List.mem_of_getElem? hi
theorem in_ap {big a b : List Cond} (ha : ∀ w ∈ a, w ∈ big) (hb : ∀ w ∈ b, w ∈ big) : ∀ w ∈ a ++ b, w ∈ big := fun w h => (List.mem_append.mp h).elim (ha w) (hb w)

/-- among the tables' words, and one that stays -/
abbrev gW (w : Cond) : Prop := w ∈ lw_tbl ∧ ((w.onTables && w.keeps) = true ∨ ∃ ty, w = .arrayClass ty)

theorem tb_0 {w : Cond} (h : w ∈ k2_sels lw_privs) : w ∈ lw_tbl := List.mem_append_left _ h

theorem tb_1 {w : Cond} (h : w ∈ tables_1_1) : w ∈ lw_tbl := List.mem_append_right _ (List.mem_append_left _ h)

theorem tb_2 {w : Cond} (h : w ∈ tables_1_2) : w ∈ lw_tbl := List.mem_append_right _ (List.mem_append_right _ (List.mem_append_left _ h))

theorem tb_3 {w : Cond} (h : w ∈ tables_1_3) : w ∈ lw_tbl := List.mem_append_right _ (List.mem_append_right _ (List.mem_append_right _ (List.mem_append_left _ h)))

theorem tb_4 {w : Cond} (h : w ∈ tables_1_4) : w ∈ lw_tbl := List.mem_append_right _ (List.mem_append_right _ (List.mem_append_right _ (List.mem_append_right _ (List.mem_append_left _ h))))

theorem tb_5 {w : Cond} (h : w ∈ tables_1_5) : w ∈ lw_tbl := List.mem_append_right _ (List.mem_append_right _ (List.mem_append_right _ (List.mem_append_right _ (List.mem_append_right _ (List.mem_append_left _ h)))))

theorem tb_6 {w : Cond} (h : w ∈ tables_1_6) : w ∈ lw_tbl := List.mem_append_right _ (List.mem_append_right _ (List.mem_append_right _ (List.mem_append_right _ (List.mem_append_right _ (List.mem_append_right _ (List.mem_append_left _ h))))))

theorem tb_7 {w : Cond} (h : w ∈ tables_1_7) : w ∈ lw_tbl := List.mem_append_right _ (List.mem_append_right _ (List.mem_append_right _ (List.mem_append_right _ (List.mem_append_right _ (List.mem_append_right _ (List.mem_append_right _ (List.mem_append_left _ h)))))))

theorem tb_8 {w : Cond} (h : w ∈ tables_1_8) : w ∈ lw_tbl := List.mem_append_right _ (List.mem_append_right _ (List.mem_append_right _ (List.mem_append_right _ (List.mem_append_right _ (List.mem_append_right _ (List.mem_append_right _ (List.mem_append_right _ h)))))))

theorem tw_513 : gW (.laysFinal RX10 "NoticeDesk" "refused" "[I") := ⟨tb_2 (List.mem_of_getElem? (i := 163) (by decide +kernel)), Or.inl rfl⟩

theorem tw_511 : gW (.lays RX10 "NoticeDesk" "hasImage" "Z") := ⟨tb_2 (List.mem_of_getElem? (i := 161) (by decide +kernel)), Or.inl rfl⟩

theorem tw_509 : gW (.laysFinal RX10 "NoticeDesk" "kept" "LNoticeDesk$Book;") := ⟨tb_2 (List.mem_of_getElem? (i := 159) (by decide +kernel)), Or.inl rfl⟩

theorem tw_507 : gW (.laysFinal RX10 "NoticeDesk" "past" "LNoticeDesk$Past;") := ⟨tb_2 (List.mem_of_getElem? (i := 157) (by decide +kernel)), Or.inl rfl⟩

theorem tw_505 : gW (.laysFinal RX10 "NoticeDesk" "book" "LNoticeDesk$Book;") := ⟨tb_2 (List.mem_of_getElem? (i := 155) (by decide +kernel)), Or.inl rfl⟩

theorem tw_503 : gW (.laysFinal RX10 "NoticeDesk" "passage" "LNoticeDesk$Passage;") := ⟨tb_2 (List.mem_of_getElem? (i := 153) (by decide +kernel)), Or.inl rfl⟩

theorem tw_501 : gW (.laysFinal RX10 "NoticeDesk" "trip" "LNoticeDesk$Trip;") := ⟨tb_2 (List.mem_of_getElem? (i := 151) (by decide +kernel)), Or.inl rfl⟩

theorem tw_499 : gW (.laysFinal RX10 "NoticeDesk" "chains" "[LNoticeDesk$Chain;") := ⟨tb_2 (List.mem_of_getElem? (i := 149) (by decide +kernel)), Or.inl rfl⟩

theorem tw_497 : gW (.laysFinal RX10 "NoticeDesk" "chainDraft" "LNoticeDesk$Chain;") := ⟨tb_2 (List.mem_of_getElem? (i := 147) (by decide +kernel)), Or.inl rfl⟩

theorem tw_495 : gW (.laysFinal RX10 "NoticeDesk" "ways" "[LNoticeDesk$Way;") := ⟨tb_2 (List.mem_of_getElem? (i := 145) (by decide +kernel)), Or.inl rfl⟩

theorem tw_493 : gW (.laysFinal RX10 "NoticeDesk" "wayDraft" "LNoticeDesk$Way;") := ⟨tb_2 (List.mem_of_getElem? (i := 143) (by decide +kernel)), Or.inl rfl⟩

theorem tw_491 : gW (.laysFinal RX10 "NoticeDesk" "lands" "[LNoticeDesk$Land;") := ⟨tb_2 (List.mem_of_getElem? (i := 141) (by decide +kernel)), Or.inl rfl⟩

theorem tw_489 : gW (.laysFinal RX10 "NoticeDesk" "told" "[I") := ⟨tb_2 (List.mem_of_getElem? (i := 139) (by decide +kernel)), Or.inl rfl⟩

theorem tw_487 : gW (.laysFinal RX10 "NoticeDesk" "landText" "LNoticeDesk$LandText;") := ⟨tb_2 (List.mem_of_getElem? (i := 137) (by decide +kernel)), Or.inl rfl⟩

theorem tw_485 : gW (.laysFinal RX10 "NoticeDesk" "parts" "LNoticeDesk$Parts;") := ⟨tb_2 (List.mem_of_getElem? (i := 135) (by decide +kernel)), Or.inl rfl⟩

theorem tw_483 : gW (.laysFinal RX10 "NoticeDesk" "tape" "LNoticeDesk$Tape;") := ⟨tb_2 (List.mem_of_getElem? (i := 133) (by decide +kernel)), Or.inl rfl⟩

theorem tw_1515 : gW (.lays RX11 "NoticeDeskModel" "says" "I") := ⟨tb_6 (List.mem_of_getElem? (i := 205) (by decide +kernel)), Or.inl rfl⟩

theorem tw_1513 : gW (.laysFinal RX11 "NoticeDeskModel" "said" "[I") := ⟨tb_6 (List.mem_of_getElem? (i := 203) (by decide +kernel)), Or.inl rfl⟩

theorem tw_1511 : gW (.lays RX11 "NoticeDeskModel" "hasImage" "Z") := ⟨tb_6 (List.mem_of_getElem? (i := 201) (by decide +kernel)), Or.inl rfl⟩

theorem tw_1509 : gW (.lays RX11 "NoticeDeskModel" "acts" "I") := ⟨tb_6 (List.mem_of_getElem? (i := 199) (by decide +kernel)), Or.inl rfl⟩

theorem tw_1507 : gW (.laysFinal RX11 "NoticeDeskModel" "refused" "[I") := ⟨tb_6 (List.mem_of_getElem? (i := 197) (by decide +kernel)), Or.inl rfl⟩

theorem tw_1505 : gW (.laysFinal RX11 "NoticeDeskModel" "kept" "[I") := ⟨tb_6 (List.mem_of_getElem? (i := 195) (by decide +kernel)), Or.inl rfl⟩

theorem tw_1503 : gW (.laysFinal RX11 "NoticeDeskModel" "image" "[I") := ⟨tb_6 (List.mem_of_getElem? (i := 193) (by decide +kernel)), Or.inl rfl⟩

theorem tw_1501 : gW (.laysFinal RX11 "NoticeDeskModel" "book" "[I") := ⟨tb_6 (List.mem_of_getElem? (i := 191) (by decide +kernel)), Or.inl rfl⟩

theorem tw_1499 : gW (.lays RX11 "NoticeDeskModel" "quickDay" "I") := ⟨tb_6 (List.mem_of_getElem? (i := 189) (by decide +kernel)), Or.inl rfl⟩

theorem tw_1497 : gW (.lays RX11 "NoticeDeskModel" "quickWay" "I") := ⟨tb_6 (List.mem_of_getElem? (i := 187) (by decide +kernel)), Or.inl rfl⟩

theorem tw_1495 : gW (.lays RX11 "NoticeDeskModel" "sentDay" "I") := ⟨tb_6 (List.mem_of_getElem? (i := 185) (by decide +kernel)), Or.inl rfl⟩

theorem tw_1493 : gW (.lays RX11 "NoticeDeskModel" "moment" "I") := ⟨tb_6 (List.mem_of_getElem? (i := 183) (by decide +kernel)), Or.inl rfl⟩

theorem tw_1491 : gW (.lays RX11 "NoticeDeskModel" "land" "I") := ⟨tb_6 (List.mem_of_getElem? (i := 181) (by decide +kernel)), Or.inl rfl⟩

theorem tw_1489 : gW (.lays RX11 "NoticeDeskModel" "stagesRead" "I") := ⟨tb_6 (List.mem_of_getElem? (i := 179) (by decide +kernel)), Or.inl rfl⟩

theorem tw_1487 : gW (.laysFinal RX11 "NoticeDeskModel" "stageMany" "[I") := ⟨tb_6 (List.mem_of_getElem? (i := 177) (by decide +kernel)), Or.inl rfl⟩

theorem tw_1485 : gW (.laysFinal RX11 "NoticeDeskModel" "stage" "[I") := ⟨tb_6 (List.mem_of_getElem? (i := 175) (by decide +kernel)), Or.inl rfl⟩

theorem tw_1483 : gW (.laysFinal RX11 "NoticeDeskModel" "stageRead" "[I") := ⟨tb_6 (List.mem_of_getElem? (i := 173) (by decide +kernel)), Or.inl rfl⟩

theorem tw_1481 : gW (.lays RX11 "NoticeDeskModel" "stepsRead" "I") := ⟨tb_6 (List.mem_of_getElem? (i := 171) (by decide +kernel)), Or.inl rfl⟩

theorem tw_1479 : gW (.laysFinal RX11 "NoticeDeskModel" "stepMany" "[I") := ⟨tb_6 (List.mem_of_getElem? (i := 169) (by decide +kernel)), Or.inl rfl⟩

theorem tw_1477 : gW (.laysFinal RX11 "NoticeDeskModel" "stepNumber" "[I") := ⟨tb_6 (List.mem_of_getElem? (i := 167) (by decide +kernel)), Or.inl rfl⟩

theorem tw_1475 : gW (.laysFinal RX11 "NoticeDeskModel" "step" "[I") := ⟨tb_6 (List.mem_of_getElem? (i := 165) (by decide +kernel)), Or.inl rfl⟩

theorem tw_1473 : gW (.laysFinal RX11 "NoticeDeskModel" "numberRead" "[I") := ⟨tb_6 (List.mem_of_getElem? (i := 163) (by decide +kernel)), Or.inl rfl⟩

theorem tw_1471 : gW (.laysFinal RX11 "NoticeDeskModel" "stepRead" "[I") := ⟨tb_6 (List.mem_of_getElem? (i := 161) (by decide +kernel)), Or.inl rfl⟩

theorem tw_1469 : gW (.laysFinal RX11 "NoticeDeskModel" "kind" "[B") := ⟨tb_6 (List.mem_of_getElem? (i := 159) (by decide +kernel)), Or.inl rfl⟩

theorem tw_1467 : gW (.laysFinal RX11 "NoticeDeskModel" "moved" "[Z") := ⟨tb_6 (List.mem_of_getElem? (i := 157) (by decide +kernel)), Or.inl rfl⟩

theorem tw_1465 : gW (.laysFinal RX11 "NoticeDeskModel" "openTo" "[I") := ⟨tb_6 (List.mem_of_getElem? (i := 155) (by decide +kernel)), Or.inl rfl⟩

theorem tw_1463 : gW (.laysFinal RX11 "NoticeDeskModel" "openFrom" "[I") := ⟨tb_6 (List.mem_of_getElem? (i := 153) (by decide +kernel)), Or.inl rfl⟩

theorem tw_1461 : gW (.laysFinal RX11 "NoticeDeskModel" "rest" "[I") := ⟨tb_6 (List.mem_of_getElem? (i := 151) (by decide +kernel)), Or.inl rfl⟩

theorem tw_1459 : gW (.laysFinal RX11 "NoticeDeskModel" "zone" "[I") := ⟨tb_6 (List.mem_of_getElem? (i := 149) (by decide +kernel)), Or.inl rfl⟩

theorem tw_1457 : gW (.lays RX11 "NoticeDeskModel" "movedRead" "Z") := ⟨tb_6 (List.mem_of_getElem? (i := 147) (by decide +kernel)), Or.inl rfl⟩

theorem tw_1455 : gW (.lays RX11 "NoticeDeskModel" "holidaysRead" "I") := ⟨tb_6 (List.mem_of_getElem? (i := 145) (by decide +kernel)), Or.inl rfl⟩

theorem tw_1453 : gW (.lays RX11 "NoticeDeskModel" "onceRead" "I") := ⟨tb_6 (List.mem_of_getElem? (i := 143) (by decide +kernel)), Or.inl rfl⟩

theorem tw_1451 : gW (.lays RX11 "NoticeDeskModel" "toRead" "I") := ⟨tb_6 (List.mem_of_getElem? (i := 141) (by decide +kernel)), Or.inl rfl⟩

theorem tw_1449 : gW (.lays RX11 "NoticeDeskModel" "fromRead" "I") := ⟨tb_6 (List.mem_of_getElem? (i := 139) (by decide +kernel)), Or.inl rfl⟩

theorem tw_1447 : gW (.lays RX11 "NoticeDeskModel" "restRead" "I") := ⟨tb_6 (List.mem_of_getElem? (i := 137) (by decide +kernel)), Or.inl rfl⟩

theorem tw_1445 : gW (.lays RX11 "NoticeDeskModel" "zoneRead" "I") := ⟨tb_6 (List.mem_of_getElem? (i := 135) (by decide +kernel)), Or.inl rfl⟩

theorem tw_1443 : gW (.laysFinal RX11 "NoticeDeskModel" "told" "[Z") := ⟨tb_6 (List.mem_of_getElem? (i := 133) (by decide +kernel)), Or.inl rfl⟩

theorem tw_1441 : gW (.lays RX11 "NoticeDeskModel" "fault" "I") := ⟨tb_6 (List.mem_of_getElem? (i := 131) (by decide +kernel)), Or.inl rfl⟩

theorem tw_1439 : gW (.lays RX11 "NoticeDeskModel" "at" "I") := ⟨tb_6 (List.mem_of_getElem? (i := 129) (by decide +kernel)), Or.inl rfl⟩

theorem tw_1437 : gW (.lays RX11 "NoticeDeskModel" "length" "I") := ⟨tb_6 (List.mem_of_getElem? (i := 127) (by decide +kernel)), Or.inl rfl⟩

theorem tw_1435 : gW (.laysFinal RX11 "NoticeDeskModel" "tape" "[B") := ⟨tb_6 (List.mem_of_getElem? (i := 125) (by decide +kernel)), Or.inl rfl⟩

theorem tw_1433 : gW (.lays RX11 "NoticeDeskModel" "thrown" "I") := ⟨tb_6 (List.mem_of_getElem? (i := 123) (by decide +kernel)), Or.inl rfl⟩

theorem tw_153 : gW (.lays RX7 "NoticeDesk$Tape" "length" "I") := ⟨tb_1 (List.mem_of_getElem? (i := 43) (by decide +kernel)), Or.inl rfl⟩

theorem tw_151 : gW (.laysFinal RX7 "NoticeDesk$Tape" "bytes" "[I") := ⟨tb_1 (List.mem_of_getElem? (i := 41) (by decide +kernel)), Or.inl rfl⟩

theorem tw_179 : gW (.lays RX4 "NoticeDesk$Parts" "taken" "I") := ⟨tb_1 (List.mem_of_getElem? (i := 69) (by decide +kernel)), Or.inl rfl⟩

theorem tw_177 : gW (.lays RX4 "NoticeDesk$Parts" "value" "I") := ⟨tb_1 (List.mem_of_getElem? (i := 67) (by decide +kernel)), Or.inl rfl⟩

theorem tw_175 : gW (.lays RX4 "NoticeDesk$Parts" "kind" "I") := ⟨tb_1 (List.mem_of_getElem? (i := 65) (by decide +kernel)), Or.inl rfl⟩

theorem tw_173 : gW (.lays RX4 "NoticeDesk$Parts" "stop" "I") := ⟨tb_1 (List.mem_of_getElem? (i := 63) (by decide +kernel)), Or.inl rfl⟩

theorem tw_171 : gW (.lays RX4 "NoticeDesk$Parts" "place" "I") := ⟨tb_1 (List.mem_of_getElem? (i := 61) (by decide +kernel)), Or.inl rfl⟩

theorem tw_169 : gW (.laysFinal RX4 "NoticeDesk$Parts" "tape" "LNoticeDesk$Tape;") := ⟨tb_1 (List.mem_of_getElem? (i := 59) (by decide +kernel)), Or.inl rfl⟩

theorem tw_225 : gW (.lays RX3 "NoticeDesk$LandText" "moved" "Z") := ⟨tb_1 (List.mem_of_getElem? (i := 115) (by decide +kernel)), Or.inl rfl⟩

theorem tw_223 : gW (.lays RX3 "NoticeDesk$LandText" "openTo" "I") := ⟨tb_1 (List.mem_of_getElem? (i := 113) (by decide +kernel)), Or.inl rfl⟩

theorem tw_221 : gW (.lays RX3 "NoticeDesk$LandText" "openFrom" "I") := ⟨tb_1 (List.mem_of_getElem? (i := 111) (by decide +kernel)), Or.inl rfl⟩

theorem tw_219 : gW (.lays RX3 "NoticeDesk$LandText" "restDays" "I") := ⟨tb_1 (List.mem_of_getElem? (i := 109) (by decide +kernel)), Or.inl rfl⟩

theorem tw_217 : gW (.lays RX3 "NoticeDesk$LandText" "zone" "I") := ⟨tb_1 (List.mem_of_getElem? (i := 107) (by decide +kernel)), Or.inl rfl⟩

theorem tw_215 : gW (.lays RX3 "NoticeDesk$LandText" "seen" "I") := ⟨tb_1 (List.mem_of_getElem? (i := 105) (by decide +kernel)), Or.inl rfl⟩

theorem tw_213 : gW (.lays RX3 "NoticeDesk$LandText" "size" "I") := ⟨tb_1 (List.mem_of_getElem? (i := 103) (by decide +kernel)), Or.inl rfl⟩

theorem tw_211 : gW (.laysFinal RX3 "NoticeDesk$LandText" "numbers" "[I") := ⟨tb_1 (List.mem_of_getElem? (i := 101) (by decide +kernel)), Or.inl rfl⟩

theorem tw_209 : gW (.laysFinal RX3 "NoticeDesk$LandText" "weekdays" "[I") := ⟨tb_1 (List.mem_of_getElem? (i := 99) (by decide +kernel)), Or.inl rfl⟩

theorem tw_207 : gW (.laysFinal RX3 "NoticeDesk$LandText" "tellings" "[I") := ⟨tb_1 (List.mem_of_getElem? (i := 97) (by decide +kernel)), Or.inl rfl⟩

theorem tw_308 : gW (.lays RX2 "NoticeDesk$Land" "pretended" "I") := ⟨tb_1 (List.mem_of_getElem? (i := 198) (by decide +kernel)), Or.inl rfl⟩

theorem tw_306 : gW (.lays RX2 "NoticeDesk$Land" "moved" "Z") := ⟨tb_1 (List.mem_of_getElem? (i := 196) (by decide +kernel)), Or.inl rfl⟩

theorem tw_304 : gW (.lays RX2 "NoticeDesk$Land" "openTo" "I") := ⟨tb_1 (List.mem_of_getElem? (i := 194) (by decide +kernel)), Or.inl rfl⟩

theorem tw_302 : gW (.lays RX2 "NoticeDesk$Land" "openFrom" "I") := ⟨tb_1 (List.mem_of_getElem? (i := 192) (by decide +kernel)), Or.inl rfl⟩

theorem tw_300 : gW (.lays RX2 "NoticeDesk$Land" "restDays" "I") := ⟨tb_1 (List.mem_of_getElem? (i := 190) (by decide +kernel)), Or.inl rfl⟩

theorem tw_298 : gW (.lays RX2 "NoticeDesk$Land" "zone" "I") := ⟨tb_1 (List.mem_of_getElem? (i := 188) (by decide +kernel)), Or.inl rfl⟩

theorem tw_296 : gW (.lays RX2 "NoticeDesk$Land" "holidays" "I") := ⟨tb_1 (List.mem_of_getElem? (i := 186) (by decide +kernel)), Or.inl rfl⟩

theorem tw_294 : gW (.lays RX2 "NoticeDesk$Land" "workdayCount" "I") := ⟨tb_1 (List.mem_of_getElem? (i := 184) (by decide +kernel)), Or.inl rfl⟩

theorem tw_292 : gW (.laysFinal RX2 "NoticeDesk$Land" "workdays" "[I") := ⟨tb_1 (List.mem_of_getElem? (i := 182) (by decide +kernel)), Or.inl rfl⟩

theorem tw_290 : gW (.laysFinal RX2 "NoticeDesk$Land" "before" "[I") := ⟨tb_1 (List.mem_of_getElem? (i := 180) (by decide +kernel)), Or.inl rfl⟩

theorem tw_333 : gW (.lays RX9 "NoticeDesk$Way" "textSize" "I") := ⟨tb_1 (List.mem_of_getElem? (i := 223) (by decide +kernel)), Or.inl rfl⟩

theorem tw_331 : gW (.lays RX9 "NoticeDesk$Way" "size" "I") := ⟨tb_1 (List.mem_of_getElem? (i := 221) (by decide +kernel)), Or.inl rfl⟩

theorem tw_329 : gW (.laysFinal RX9 "NoticeDesk$Way" "text" "[I") := ⟨tb_1 (List.mem_of_getElem? (i := 219) (by decide +kernel)), Or.inl rfl⟩

theorem tw_327 : gW (.laysFinal RX9 "NoticeDesk$Way" "numbers" "[I") := ⟨tb_1 (List.mem_of_getElem? (i := 217) (by decide +kernel)), Or.inl rfl⟩

theorem tw_325 : gW (.laysFinal RX9 "NoticeDesk$Way" "kinds" "[I") := ⟨tb_1 (List.mem_of_getElem? (i := 215) (by decide +kernel)), Or.inl rfl⟩

theorem tw_370 : gW (.lays RX1 "NoticeDesk$Chain" "size" "I") := ⟨tb_2 (List.mem_of_getElem? (i := 20) (by decide +kernel)), Or.inl rfl⟩

theorem tw_368 : gW (.laysFinal RX1 "NoticeDesk$Chain" "hourOf" "[I") := ⟨tb_2 (List.mem_of_getElem? (i := 18) (by decide +kernel)), Or.inl rfl⟩

theorem tw_366 : gW (.laysFinal RX1 "NoticeDesk$Chain" "waitsWorkdays" "[I") := ⟨tb_2 (List.mem_of_getElem? (i := 16) (by decide +kernel)), Or.inl rfl⟩

theorem tw_364 : gW (.laysFinal RX1 "NoticeDesk$Chain" "waitOf" "[I") := ⟨tb_2 (List.mem_of_getElem? (i := 14) (by decide +kernel)), Or.inl rfl⟩

theorem tw_362 : gW (.laysFinal RX1 "NoticeDesk$Chain" "toOf" "[I") := ⟨tb_2 (List.mem_of_getElem? (i := 12) (by decide +kernel)), Or.inl rfl⟩

theorem tw_360 : gW (.laysFinal RX1 "NoticeDesk$Chain" "fromOf" "[I") := ⟨tb_2 (List.mem_of_getElem? (i := 10) (by decide +kernel)), Or.inl rfl⟩

theorem tw_358 : gW (.laysFinal RX1 "NoticeDesk$Chain" "wayOf" "[I") := ⟨tb_2 (List.mem_of_getElem? (i := 8) (by decide +kernel)), Or.inl rfl⟩

theorem tw_399 : gW (.lays RX8 "NoticeDesk$Trip" "highest" "I") := ⟨tb_2 (List.mem_of_getElem? (i := 49) (by decide +kernel)), Or.inl rfl⟩

theorem tw_397 : gW (.lays RX8 "NoticeDesk$Trip" "lowest" "I") := ⟨tb_2 (List.mem_of_getElem? (i := 47) (by decide +kernel)), Or.inl rfl⟩

theorem tw_395 : gW (.lays RX8 "NoticeDesk$Trip" "local" "I") := ⟨tb_2 (List.mem_of_getElem? (i := 45) (by decide +kernel)), Or.inl rfl⟩

theorem tw_393 : gW (.lays RX8 "NoticeDesk$Trip" "looked" "I") := ⟨tb_2 (List.mem_of_getElem? (i := 43) (by decide +kernel)), Or.inl rfl⟩

theorem tw_391 : gW (.lays RX8 "NoticeDesk$Trip" "there" "I") := ⟨tb_2 (List.mem_of_getElem? (i := 41) (by decide +kernel)), Or.inl rfl⟩

theorem tw_389 : gW (.lays RX8 "NoticeDesk$Trip" "here" "I") := ⟨tb_2 (List.mem_of_getElem? (i := 39) (by decide +kernel)), Or.inl rfl⟩

theorem tw_387 : gW (.laysFinal RX8 "NoticeDesk$Trip" "lands" "[LNoticeDesk$Land;") := ⟨tb_2 (List.mem_of_getElem? (i := 37) (by decide +kernel)), Or.inl rfl⟩

theorem tw_427 : gW (.lays RX5 "NoticeDesk$Passage" "wayGone" "I") := ⟨tb_2 (List.mem_of_getElem? (i := 77) (by decide +kernel)), Or.inl rfl⟩

theorem tw_425 : gW (.lays RX5 "NoticeDesk$Passage" "servedDay" "I") := ⟨tb_2 (List.mem_of_getElem? (i := 75) (by decide +kernel)), Or.inl rfl⟩

theorem tw_423 : gW (.lays RX5 "NoticeDesk$Passage" "sentMoment" "I") := ⟨tb_2 (List.mem_of_getElem? (i := 73) (by decide +kernel)), Or.inl rfl⟩

theorem tw_421 : gW (.lays RX5 "NoticeDesk$Passage" "sentDay" "I") := ⟨tb_2 (List.mem_of_getElem? (i := 71) (by decide +kernel)), Or.inl rfl⟩

theorem tw_419 : gW (.laysFinal RX5 "NoticeDesk$Passage" "trip" "LNoticeDesk$Trip;") := ⟨tb_2 (List.mem_of_getElem? (i := 69) (by decide +kernel)), Or.inl rfl⟩

theorem tw_417 : gW (.laysFinal RX5 "NoticeDesk$Passage" "ways" "[LNoticeDesk$Way;") := ⟨tb_2 (List.mem_of_getElem? (i := 67) (by decide +kernel)), Or.inl rfl⟩

theorem tw_415 : gW (.laysFinal RX5 "NoticeDesk$Passage" "lands" "[LNoticeDesk$Land;") := ⟨tb_2 (List.mem_of_getElem? (i := 65) (by decide +kernel)), Or.inl rfl⟩

theorem tw_445 : gW (.lays RX0 "NoticeDesk$Book" "clock" "I") := ⟨tb_2 (List.mem_of_getElem? (i := 95) (by decide +kernel)), Or.inl rfl⟩

theorem tw_443 : gW (.lays RX0 "NoticeDesk$Book" "size" "I") := ⟨tb_2 (List.mem_of_getElem? (i := 93) (by decide +kernel)), Or.inl rfl⟩

theorem tw_441 : gW (.laysFinal RX0 "NoticeDesk$Book" "cells" "[I") := ⟨tb_2 (List.mem_of_getElem? (i := 91) (by decide +kernel)), Or.inl rfl⟩

theorem tw_464 : gW (.lays RX6 "NoticeDesk$Past" "size" "I") := ⟨tb_2 (List.mem_of_getElem? (i := 114) (by decide +kernel)), Or.inl rfl⟩

theorem tw_462 : gW (.lays RX6 "NoticeDesk$Past" "next" "I") := ⟨tb_2 (List.mem_of_getElem? (i := 112) (by decide +kernel)), Or.inl rfl⟩

theorem tw_460 : gW (.laysFinal RX6 "NoticeDesk$Past" "books" "[LNoticeDesk$Book;") := ⟨tb_2 (List.mem_of_getElem? (i := 110) (by decide +kernel)), Or.inl rfl⟩

theorem tw_1321 : gW (.lays "java/lang/Throwable" "java/lang/Throwable" "backtrace" "Ljava/lang/Object;") := ⟨tb_6 (List.mem_of_getElem? (i := 11) (by decide +kernel)), Or.inl rfl⟩

theorem tw_1322 : gW (.fieldLink "java/lang/Throwable" 198 "java/lang/Throwable" "backtrace" "Ljava/lang/Object;") := ⟨tb_6 (List.mem_of_getElem? (i := 12) (by decide +kernel)), Or.inl rfl⟩

theorem tw_1320 : gW (.lays "java/util/NoSuchElementException" "java/lang/Throwable" "backtrace" "Ljava/lang/Object;") := ⟨tb_6 (List.mem_of_getElem? (i := 10) (by decide +kernel)), Or.inl rfl⟩

theorem tw_1318 : gW (.lays "java/util/NoSuchElementException" "java/lang/Throwable" "detailMessage" "Ljava/lang/String;") := ⟨tb_6 (List.mem_of_getElem? (i := 8) (by decide +kernel)), Or.inl rfl⟩

theorem tw_1316 : gW (.lays "java/util/NoSuchElementException" "java/lang/Throwable" "suppressedExceptions" "Ljava/util/List;") := ⟨tb_6 (List.mem_of_getElem? (i := 6) (by decide +kernel)), Or.inl rfl⟩

theorem tw_1314 : gW (.lays "java/util/NoSuchElementException" "java/lang/Throwable" "stackTrace" "[Ljava/lang/StackTraceElement;") := ⟨tb_6 (List.mem_of_getElem? (i := 4) (by decide +kernel)), Or.inl rfl⟩

theorem tw_1312 : gW (.lays "java/util/NoSuchElementException" "java/lang/Throwable" "cause" "Ljava/lang/Throwable;") := ⟨tb_6 (List.mem_of_getElem? (i := 2) (by decide +kernel)), Or.inl rfl⟩

theorem tw_1311 : gW (.selects "java/util/NoSuchElementException" ⟨"java/lang/Throwable", "fillInStackTrace", "()Ljava/lang/Throwable;"⟩ ⟨"java/lang/Throwable", "fillInStackTrace", "()Ljava/lang/Throwable;"⟩) := ⟨tb_6 (List.mem_of_getElem? (i := 1) (by decide +kernel)), Or.inl rfl⟩

theorem tw_1310 : gW (.selects "java/util/NoSuchElementException" ⟨"java/lang/Throwable", "fillInStackTrace", "(I)Ljava/lang/Throwable;"⟩ ⟨"java/lang/Throwable", "fillInStackTrace", "(I)Ljava/lang/Throwable;"⟩) := ⟨tb_6 (List.mem_of_getElem? (i := 0) (by decide +kernel)), Or.inl rfl⟩

theorem tw_1302 : gW (.instantiable "java/util/NoSuchElementException" 6) := ⟨tb_5 (List.mem_of_getElem? (i := 232) (by decide +kernel)), Or.inl rfl⟩

theorem tw_1341 : gW (.methodLink RX10 347 ⟨"java/util/NoSuchElementException", "<init>", "(Ljava/lang/String;)V"⟩) := ⟨tb_6 (List.mem_of_getElem? (i := 31) (by decide +kernel)), Or.inl rfl⟩

theorem tw_1351 : gW (.instanceMethod ⟨"java/lang/Throwable", "<init>", "(Ljava/lang/String;)V"⟩) := ⟨tb_6 (List.mem_of_getElem? (i := 41) (by decide +kernel)), Or.inl rfl⟩

theorem tw_1350 : gW (.methodLink "java/lang/Exception" 7 ⟨"java/lang/Throwable", "<init>", "(Ljava/lang/String;)V"⟩) := ⟨tb_6 (List.mem_of_getElem? (i := 40) (by decide +kernel)), Or.inl rfl⟩

theorem tw_1349 : gW (.code ⟨"java/lang/Exception", "<init>", "(Ljava/lang/String;)V"⟩ prog_17_method_2_code 2 none) := ⟨tb_6 (List.mem_of_getElem? (i := 39) (by decide +kernel)), Or.inl rfl⟩

theorem tw_1348 : gW (.instanceMethod ⟨"java/lang/Exception", "<init>", "(Ljava/lang/String;)V"⟩) := ⟨tb_6 (List.mem_of_getElem? (i := 38) (by decide +kernel)), Or.inl rfl⟩

theorem tw_1347 : gW (.methodLink "java/lang/RuntimeException" 7 ⟨"java/lang/Exception", "<init>", "(Ljava/lang/String;)V"⟩) := ⟨tb_6 (List.mem_of_getElem? (i := 37) (by decide +kernel)), Or.inl rfl⟩

theorem tw_1346 : gW (.code ⟨"java/lang/RuntimeException", "<init>", "(Ljava/lang/String;)V"⟩ prog_20_method_2_code 2 none) := ⟨tb_6 (List.mem_of_getElem? (i := 36) (by decide +kernel)), Or.inl rfl⟩

theorem tw_1345 : gW (.instanceMethod ⟨"java/lang/RuntimeException", "<init>", "(Ljava/lang/String;)V"⟩) := ⟨tb_6 (List.mem_of_getElem? (i := 35) (by decide +kernel)), Or.inl rfl⟩

theorem tw_1344 : gW (.methodLink "java/util/NoSuchElementException" 13 ⟨"java/lang/RuntimeException", "<init>", "(Ljava/lang/String;)V"⟩) := ⟨tb_6 (List.mem_of_getElem? (i := 34) (by decide +kernel)), Or.inl rfl⟩

theorem tw_1343 : gW (.code ⟨"java/util/NoSuchElementException", "<init>", "(Ljava/lang/String;)V"⟩ prog_29_method_4_code 2 none) := ⟨tb_6 (List.mem_of_getElem? (i := 33) (by decide +kernel)), Or.inl rfl⟩

theorem tw_1342 : gW (.instanceMethod ⟨"java/util/NoSuchElementException", "<init>", "(Ljava/lang/String;)V"⟩) := ⟨tb_6 (List.mem_of_getElem? (i := 32) (by decide +kernel)), Or.inl rfl⟩

theorem tw_1319 : gW (.lays "java/lang/Throwable" "java/lang/Throwable" "detailMessage" "Ljava/lang/String;") := ⟨tb_6 (List.mem_of_getElem? (i := 9) (by decide +kernel)), Or.inl rfl⟩

theorem tw_1354 : gW (.fieldLink "java/lang/Throwable" 31 "java/lang/Throwable" "detailMessage" "Ljava/lang/String;") := ⟨tb_6 (List.mem_of_getElem? (i := 44) (by decide +kernel)), Or.inl rfl⟩

theorem tw_1352 : gW (.code ⟨"java/lang/Throwable", "<init>", "(Ljava/lang/String;)V"⟩ prog_25_method_2_code 2 none) := ⟨tb_6 (List.mem_of_getElem? (i := 42) (by decide +kernel)), Or.inl rfl⟩

theorem tw_1329 : gW (.fieldLink "java/lang/Throwable" 20 "java/lang/Throwable" "SUPPRESSED_SENTINEL" "Ljava/util/List;") := ⟨tb_6 (List.mem_of_getElem? (i := 19) (by decide +kernel)), Or.inl rfl⟩

theorem tw_1327 : gW (.fieldLink "java/lang/Throwable" 13 "java/lang/Throwable" "UNASSIGNED_STACK" "[Ljava/lang/StackTraceElement;") := ⟨tb_6 (List.mem_of_getElem? (i := 17) (by decide +kernel)), Or.inl rfl⟩

theorem tw_1317 : gW (.lays "java/lang/Throwable" "java/lang/Throwable" "suppressedExceptions" "Ljava/util/List;") := ⟨tb_6 (List.mem_of_getElem? (i := 7) (by decide +kernel)), Or.inl rfl⟩

theorem tw_1357 : gW (.fieldLink "java/lang/Throwable" 24 "java/lang/Throwable" "suppressedExceptions" "Ljava/util/List;") := ⟨tb_6 (List.mem_of_getElem? (i := 47) (by decide +kernel)), Or.inl rfl⟩

theorem tw_1315 : gW (.lays "java/lang/Throwable" "java/lang/Throwable" "stackTrace" "[Ljava/lang/StackTraceElement;") := ⟨tb_6 (List.mem_of_getElem? (i := 5) (by decide +kernel)), Or.inl rfl⟩

theorem tw_1356 : gW (.fieldLink "java/lang/Throwable" 17 "java/lang/Throwable" "stackTrace" "[Ljava/lang/StackTraceElement;") := ⟨tb_6 (List.mem_of_getElem? (i := 46) (by decide +kernel)), Or.inl rfl⟩

theorem tw_1313 : gW (.lays "java/lang/Throwable" "java/lang/Throwable" "cause" "Ljava/lang/Throwable;") := ⟨tb_6 (List.mem_of_getElem? (i := 3) (by decide +kernel)), Or.inl rfl⟩

theorem tw_1355 : gW (.fieldLink "java/lang/Throwable" 7 "java/lang/Throwable" "cause" "Ljava/lang/Throwable;") := ⟨tb_6 (List.mem_of_getElem? (i := 45) (by decide +kernel)), Or.inl rfl⟩

theorem tw_1335 : gW (.methodLink "java/lang/Throwable" 202 ⟨"java/lang/Throwable", "fillInStackTrace", "(I)Ljava/lang/Throwable;"⟩) := ⟨tb_6 (List.mem_of_getElem? (i := 25) (by decide +kernel)), Or.inl rfl⟩

theorem tw_1331 : gW (.methodLink "java/lang/Throwable" 27 ⟨"java/lang/Throwable", "fillInStackTrace", "()Ljava/lang/Throwable;"⟩) := ⟨tb_6 (List.mem_of_getElem? (i := 21) (by decide +kernel)), Or.inl rfl⟩

theorem tw_1326 : gW (.methodLink "java/lang/Throwable" 1 ⟨"java/lang/Object", "<init>", "()V"⟩) := ⟨tb_6 (List.mem_of_getElem? (i := 16) (by decide +kernel)), Or.inl rfl⟩

theorem tw_142 : gW (.code ⟨"java/lang/Object", "<init>", "()V"⟩ object_method_1_code 1 none) := ⟨tb_1 (List.mem_of_getElem? (i := 32) (by decide +kernel)), Or.inl rfl⟩

theorem tw_141 : gW (.instanceMethod ⟨"java/lang/Object", "<init>", "()V"⟩) := ⟨tb_1 (List.mem_of_getElem? (i := 31) (by decide +kernel)), Or.inl rfl⟩

theorem tw_1325 : gW (.code ⟨"java/lang/Throwable", "<init>", "()V"⟩ prog_25_method_1_code 1 none) := ⟨tb_6 (List.mem_of_getElem? (i := 15) (by decide +kernel)), Or.inl rfl⟩

theorem tw_1324 : gW (.instanceMethod ⟨"java/lang/Throwable", "<init>", "()V"⟩) := ⟨tb_6 (List.mem_of_getElem? (i := 14) (by decide +kernel)), Or.inl rfl⟩

theorem tw_1339 : gW (.native ⟨"java/lang/Throwable", "fillInStackTrace", "(I)Ljava/lang/Throwable;"⟩) := ⟨tb_6 (List.mem_of_getElem? (i := 29) (by decide +kernel)), Or.inl rfl⟩

theorem tw_1337 : gW (.instanceMethod ⟨"java/lang/Throwable", "fillInStackTrace", "(I)Ljava/lang/Throwable;"⟩) := ⟨tb_6 (List.mem_of_getElem? (i := 27) (by decide +kernel)), Or.inl rfl⟩

theorem tw_1334 : gW (.codeSync ⟨"java/lang/Throwable", "fillInStackTrace", "()Ljava/lang/Throwable;"⟩ prog_25_method_18_code 1 (some (.object "java/lang/Throwable"))) := ⟨tb_6 (List.mem_of_getElem? (i := 24) (by decide +kernel)), Or.inl rfl⟩

theorem tw_1332 : gW (.instanceMethod ⟨"java/lang/Throwable", "fillInStackTrace", "()Ljava/lang/Throwable;"⟩) := ⟨tb_6 (List.mem_of_getElem? (i := 22) (by decide +kernel)), Or.inl rfl⟩

theorem tw_1323 : gW (.superclass "java/lang/Throwable" "java/lang/Object") := ⟨tb_6 (List.mem_of_getElem? (i := 13) (by decide +kernel)), Or.inl rfl⟩

theorem tw_131 : gW (.initialized "java/lang/Throwable") := ⟨tb_1 (List.mem_of_getElem? (i := 21) (by decide +kernel)), Or.inl rfl⟩

theorem tw_478 : gW (.fieldLink RX10 88 "NoticeDesk" "book" "LNoticeDesk$Book;") := ⟨tb_2 (List.mem_of_getElem? (i := 128) (by decide +kernel)), Or.inl rfl⟩

theorem tw_1206 : gW (.code yX10_isNotice cX10_isNotice 2 (some .boolean)) := ⟨tb_5 (List.mem_of_getElem? (i := 136) (by decide +kernel)), Or.inl rfl⟩

theorem tw_111 : gW (.initialized RX10) := ⟨tb_1 (List.mem_of_getElem? (i := 1) (by decide +kernel)), Or.inl rfl⟩

theorem tw_45 : gW (.selects RX10 yX10_isNotice yX10_isNotice) := ⟨tb_0 (List.mem_of_getElem? (i := 45) (by decide +kernel)), Or.inl rfl⟩

theorem tw_1205 : gW (.instanceMethod yX10_isNotice) := ⟨tb_5 (List.mem_of_getElem? (i := 135) (by decide +kernel)), Or.inl rfl⟩

theorem tw_1203 : gW (.methodLink RX10 334 yX10_isNotice) := ⟨tb_5 (List.mem_of_getElem? (i := 133) (by decide +kernel)), Or.inl rfl⟩

theorem tw_1300 : gW (.code yX10_notice cX10_notice 3 (some .int)) := ⟨tb_5 (List.mem_of_getElem? (i := 230) (by decide +kernel)), Or.inl rfl⟩

theorem tw_134 : gW (.initialized "java/util/NoSuchElementException") := ⟨tb_1 (List.mem_of_getElem? (i := 24) (by decide +kernel)), Or.inl rfl⟩

theorem tw_1301 : gW (.classLink RX10 343 "java/util/NoSuchElementException") := ⟨tb_5 (List.mem_of_getElem? (i := 231) (by decide +kernel)), Or.inl rfl⟩

theorem tw_110 : gW (.initialized RL) := ⟨tb_1 (List.mem_of_getElem? (i := 0) (by decide +kernel)), Or.inl rfl⟩

theorem tw_1294 : gW (.static yL_notice) := ⟨tb_5 (List.mem_of_getElem? (i := 224) (by decide +kernel)), Or.inl rfl⟩

theorem tw_1293 : gW (.methodLink RL 153 yL_notice) := ⟨tb_5 (List.mem_of_getElem? (i := 223) (by decide +kernel)), Or.inl rfl⟩

theorem tw_1295 : gW (.codeWith yL_notice cL_notice 5 (some .int) [(0, 10, 13, 13)]) := ⟨tb_5 (List.mem_of_getElem? (i := 225) (by decide +kernel)), Or.inl rfl⟩

theorem tw_1296 : gW (.classLink RL 13 "java/util/NoSuchElementException") := ⟨tb_5 (List.mem_of_getElem? (i := 226) (by decide +kernel)), Or.inl rfl⟩

theorem tw_1299 : gW (.selects RX10 yX10_notice yX10_notice) := ⟨tb_5 (List.mem_of_getElem? (i := 229) (by decide +kernel)), Or.inl rfl⟩

theorem tw_1298 : gW (.instanceMethod yX10_notice) := ⟨tb_5 (List.mem_of_getElem? (i := 228) (by decide +kernel)), Or.inl rfl⟩

theorem tw_1297 : gW (.methodLink RL 7 yX10_notice) := ⟨tb_5 (List.mem_of_getElem? (i := 227) (by decide +kernel)), Or.inl rfl⟩

theorem tw_118 : gW (.initialized RX9) := ⟨tb_1 (List.mem_of_getElem? (i := 8) (by decide +kernel)), Or.inl rfl⟩

theorem tw_312 : gW (.instantiable RX9 5) := ⟨tb_1 (List.mem_of_getElem? (i := 202) (by decide +kernel)), Or.inl rfl⟩

theorem tw_311 : gW (.classLink RX10 45 RX9) := ⟨tb_1 (List.mem_of_getElem? (i := 201) (by decide +kernel)), Or.inl rfl⟩

theorem tw_115 : gW (.initialized RX2) := ⟨tb_1 (List.mem_of_getElem? (i := 5) (by decide +kernel)), Or.inl rfl⟩

theorem tw_230 : gW (.instantiable RX2 10) := ⟨tb_1 (List.mem_of_getElem? (i := 120) (by decide +kernel)), Or.inl rfl⟩

theorem tw_471 : gW (.fieldLink RX10 38 "NoticeDesk" "lands" "[LNoticeDesk$Land;") := ⟨tb_2 (List.mem_of_getElem? (i := 121) (by decide +kernel)), Or.inl rfl⟩

theorem tw_228 : gW (.classLink RX10 36 RX2) := ⟨tb_1 (List.mem_of_getElem? (i := 118) (by decide +kernel)), Or.inl rfl⟩

theorem tw_470 : gW (.fieldLink RX10 32 "NoticeDesk" "told" "[I") := ⟨tb_2 (List.mem_of_getElem? (i := 120) (by decide +kernel)), Or.inl rfl⟩

theorem tw_156 : gW (.arrayClass .int) := ⟨tb_1 (List.mem_of_getElem? (i := 46) (by decide +kernel)), Or.inr ⟨_, rfl⟩⟩

theorem tw_469 : gW (.fieldLink RX10 28 "NoticeDesk" "landText" "LNoticeDesk$LandText;") := ⟨tb_2 (List.mem_of_getElem? (i := 119) (by decide +kernel)), Or.inl rfl⟩

theorem tw_114 : gW (.initialized RX3) := ⟨tb_1 (List.mem_of_getElem? (i := 4) (by decide +kernel)), Or.inl rfl⟩

theorem tw_183 : gW (.instantiable RX3 10) := ⟨tb_1 (List.mem_of_getElem? (i := 73) (by decide +kernel)), Or.inl rfl⟩

theorem tw_182 : gW (.classLink RX10 25 RX3) := ⟨tb_1 (List.mem_of_getElem? (i := 72) (by decide +kernel)), Or.inl rfl⟩

theorem tw_468 : gW (.fieldLink RX10 21 "NoticeDesk" "parts" "LNoticeDesk$Parts;") := ⟨tb_2 (List.mem_of_getElem? (i := 118) (by decide +kernel)), Or.inl rfl⟩

theorem tw_113 : gW (.initialized RX4) := ⟨tb_1 (List.mem_of_getElem? (i := 3) (by decide +kernel)), Or.inl rfl⟩

theorem tw_158 : gW (.instantiable RX4 6) := ⟨tb_1 (List.mem_of_getElem? (i := 48) (by decide +kernel)), Or.inl rfl⟩

theorem tw_157 : gW (.classLink RX10 16 RX4) := ⟨tb_1 (List.mem_of_getElem? (i := 47) (by decide +kernel)), Or.inl rfl⟩

theorem tw_467 : gW (.fieldLink RX10 12 "NoticeDesk" "tape" "LNoticeDesk$Tape;") := ⟨tb_2 (List.mem_of_getElem? (i := 117) (by decide +kernel)), Or.inl rfl⟩

theorem tw_112 : gW (.initialized RX7) := ⟨tb_1 (List.mem_of_getElem? (i := 2) (by decide +kernel)), Or.inl rfl⟩

theorem tw_144 : gW (.instantiable RX7 2) := ⟨tb_1 (List.mem_of_getElem? (i := 34) (by decide +kernel)), Or.inl rfl⟩

theorem tw_143 : gW (.classLink RX10 9 RX7) := ⟨tb_1 (List.mem_of_getElem? (i := 33) (by decide +kernel)), Or.inl rfl⟩

theorem tw_140 : gW (.methodLink RX10 3 objectInit) := ⟨tb_1 (List.mem_of_getElem? (i := 30) (by decide +kernel)), Or.inl rfl⟩

theorem tw_480 : gW (.fieldLink RX10 99 "NoticeDesk" "kept" "LNoticeDesk$Book;") := ⟨tb_2 (List.mem_of_getElem? (i := 130) (by decide +kernel)), Or.inl rfl⟩

theorem tw_479 : gW (.fieldLink RX10 95 "NoticeDesk" "past" "LNoticeDesk$Past;") := ⟨tb_2 (List.mem_of_getElem? (i := 129) (by decide +kernel)), Or.inl rfl⟩

theorem tw_123 : gW (.initialized RX6) := ⟨tb_1 (List.mem_of_getElem? (i := 13) (by decide +kernel)), Or.inl rfl⟩

theorem tw_449 : gW (.instantiable RX6 3) := ⟨tb_2 (List.mem_of_getElem? (i := 99) (by decide +kernel)), Or.inl rfl⟩

theorem tw_448 : gW (.classLink RX10 92 RX6) := ⟨tb_2 (List.mem_of_getElem? (i := 98) (by decide +kernel)), Or.inl rfl⟩

theorem tw_122 : gW (.initialized RX0) := ⟨tb_1 (List.mem_of_getElem? (i := 12) (by decide +kernel)), Or.inl rfl⟩

theorem tw_431 : gW (.instantiable RX0 3) := ⟨tb_2 (List.mem_of_getElem? (i := 81) (by decide +kernel)), Or.inl rfl⟩

theorem tw_430 : gW (.classLink RX10 85 RX0) := ⟨tb_2 (List.mem_of_getElem? (i := 80) (by decide +kernel)), Or.inl rfl⟩

theorem tw_477 : gW (.fieldLink RX10 81 "NoticeDesk" "passage" "LNoticeDesk$Passage;") := ⟨tb_2 (List.mem_of_getElem? (i := 127) (by decide +kernel)), Or.inl rfl⟩

theorem tw_121 : gW (.initialized RX5) := ⟨tb_1 (List.mem_of_getElem? (i := 11) (by decide +kernel)), Or.inl rfl⟩

theorem tw_403 : gW (.instantiable RX5 7) := ⟨tb_2 (List.mem_of_getElem? (i := 53) (by decide +kernel)), Or.inl rfl⟩

theorem tw_402 : gW (.classLink RX10 76 RX5) := ⟨tb_2 (List.mem_of_getElem? (i := 52) (by decide +kernel)), Or.inl rfl⟩

theorem tw_476 : gW (.fieldLink RX10 72 "NoticeDesk" "trip" "LNoticeDesk$Trip;") := ⟨tb_2 (List.mem_of_getElem? (i := 126) (by decide +kernel)), Or.inl rfl⟩

theorem tw_120 : gW (.initialized RX8) := ⟨tb_1 (List.mem_of_getElem? (i := 10) (by decide +kernel)), Or.inl rfl⟩

theorem tw_375 : gW (.instantiable RX8 7) := ⟨tb_2 (List.mem_of_getElem? (i := 25) (by decide +kernel)), Or.inl rfl⟩

theorem tw_374 : gW (.classLink RX10 67 RX8) := ⟨tb_2 (List.mem_of_getElem? (i := 24) (by decide +kernel)), Or.inl rfl⟩

theorem tw_475 : gW (.fieldLink RX10 63 "NoticeDesk" "chains" "[LNoticeDesk$Chain;") := ⟨tb_2 (List.mem_of_getElem? (i := 125) (by decide +kernel)), Or.inl rfl⟩

theorem tw_474 : gW (.fieldLink RX10 59 "NoticeDesk" "chainDraft" "LNoticeDesk$Chain;") := ⟨tb_2 (List.mem_of_getElem? (i := 124) (by decide +kernel)), Or.inl rfl⟩

theorem tw_119 : gW (.initialized RX1) := ⟨tb_1 (List.mem_of_getElem? (i := 9) (by decide +kernel)), Or.inl rfl⟩

theorem tw_338 : gW (.instantiable RX1 7) := ⟨tb_1 (List.mem_of_getElem? (i := 228) (by decide +kernel)), Or.inl rfl⟩

theorem tw_337 : gW (.classLink RX10 56 RX1) := ⟨tb_1 (List.mem_of_getElem? (i := 227) (by decide +kernel)), Or.inl rfl⟩

theorem tw_473 : gW (.fieldLink RX10 52 "NoticeDesk" "ways" "[LNoticeDesk$Way;") := ⟨tb_2 (List.mem_of_getElem? (i := 123) (by decide +kernel)), Or.inl rfl⟩

theorem tw_472 : gW (.fieldLink RX10 48 "NoticeDesk" "wayDraft" "LNoticeDesk$Way;") := ⟨tb_2 (List.mem_of_getElem? (i := 122) (by decide +kernel)), Or.inl rfl⟩

theorem tw_198 : gW (.fieldLink RX3 31 "NoticeDesk$LandText" "zone" "I") := ⟨tb_1 (List.mem_of_getElem? (i := 88) (by decide +kernel)), Or.inl rfl⟩

theorem tw_196 : gW (.fieldLink RX3 28 "NoticeDesk$LandText" "seen" "I") := ⟨tb_1 (List.mem_of_getElem? (i := 86) (by decide +kernel)), Or.inl rfl⟩

theorem tw_195 : gW (.fieldLink RX3 24 "NoticeDesk$LandText" "size" "I") := ⟨tb_1 (List.mem_of_getElem? (i := 85) (by decide +kernel)), Or.inl rfl⟩

theorem tw_191 : gW (.code yX3_clear cX3_clear 1 none) := ⟨tb_1 (List.mem_of_getElem? (i := 81) (by decide +kernel)), Or.inl rfl⟩

theorem tw_0 : gW (.selects RX3 yX3_clear yX3_clear) := ⟨tb_0 (List.mem_of_getElem? (i := 0) (by decide +kernel)), Or.inl rfl⟩

theorem tw_190 : gW (.instanceMethod yX3_clear) := ⟨tb_1 (List.mem_of_getElem? (i := 80) (by decide +kernel)), Or.inl rfl⟩

theorem tw_188 : gW (.methodLink RX3 21 yX3_clear) := ⟨tb_1 (List.mem_of_getElem? (i := 78) (by decide +kernel)), Or.inl rfl⟩

theorem tw_194 : gW (.fieldLink RX3 18 "NoticeDesk$LandText" "numbers" "[I") := ⟨tb_1 (List.mem_of_getElem? (i := 84) (by decide +kernel)), Or.inl rfl⟩

theorem tw_193 : gW (.fieldLink RX3 15 "NoticeDesk$LandText" "weekdays" "[I") := ⟨tb_1 (List.mem_of_getElem? (i := 83) (by decide +kernel)), Or.inl rfl⟩

theorem tw_192 : gW (.fieldLink RX3 11 "NoticeDesk$LandText" "tellings" "[I") := ⟨tb_1 (List.mem_of_getElem? (i := 82) (by decide +kernel)), Or.inl rfl⟩

theorem tw_187 : gW (.methodLink RX3 3 objectInit) := ⟨tb_1 (List.mem_of_getElem? (i := 77) (by decide +kernel)), Or.inl rfl⟩

theorem tw_186 : gW (.code yX3_init cX3_init 1 none) := ⟨tb_1 (List.mem_of_getElem? (i := 76) (by decide +kernel)), Or.inl rfl⟩

theorem tw_185 : gW (.instanceMethod yX3_init) := ⟨tb_1 (List.mem_of_getElem? (i := 75) (by decide +kernel)), Or.inl rfl⟩

theorem tw_184 : gW (.methodLink RX10 27 yX3_init) := ⟨tb_1 (List.mem_of_getElem? (i := 74) (by decide +kernel)), Or.inl rfl⟩

theorem tw_163 : gW (.fieldLink RX4 7 "NoticeDesk$Parts" "tape" "LNoticeDesk$Tape;") := ⟨tb_1 (List.mem_of_getElem? (i := 53) (by decide +kernel)), Or.inl rfl⟩

theorem tw_162 : gW (.methodLink RX4 1 objectInit) := ⟨tb_1 (List.mem_of_getElem? (i := 52) (by decide +kernel)), Or.inl rfl⟩

theorem tw_161 : gW (.code yX4_init cX4_init 2 none) := ⟨tb_1 (List.mem_of_getElem? (i := 51) (by decide +kernel)), Or.inl rfl⟩

theorem tw_160 : gW (.instanceMethod yX4_init) := ⟨tb_1 (List.mem_of_getElem? (i := 50) (by decide +kernel)), Or.inl rfl⟩

theorem tw_159 : gW (.methodLink RX10 18 yX4_init) := ⟨tb_1 (List.mem_of_getElem? (i := 49) (by decide +kernel)), Or.inl rfl⟩

theorem tw_149 : gW (.fieldLink RX7 9 "NoticeDesk$Tape" "bytes" "[I") := ⟨tb_1 (List.mem_of_getElem? (i := 39) (by decide +kernel)), Or.inl rfl⟩

theorem tw_148 : gW (.methodLink RX7 3 objectInit) := ⟨tb_1 (List.mem_of_getElem? (i := 38) (by decide +kernel)), Or.inl rfl⟩

theorem tw_147 : gW (.code yX7_init cX7_init 1 none) := ⟨tb_1 (List.mem_of_getElem? (i := 37) (by decide +kernel)), Or.inl rfl⟩

theorem tw_146 : gW (.instanceMethod yX7_init) := ⟨tb_1 (List.mem_of_getElem? (i := 36) (by decide +kernel)), Or.inl rfl⟩

theorem tw_482 : gW (.fieldLink RX10 102 "NoticeDesk" "refused" "[I") := ⟨tb_2 (List.mem_of_getElem? (i := 132) (by decide +kernel)), Or.inl rfl⟩

theorem tw_241 : gW (.code yJ7_fill_53178 cJ7_fill_53178 4 none) := ⟨tb_1 (List.mem_of_getElem? (i := 131) (by decide +kernel)), Or.inl rfl⟩

theorem tw_116 : gW (.initialized RJ7) := ⟨tb_1 (List.mem_of_getElem? (i := 6) (by decide +kernel)), Or.inl rfl⟩

theorem tw_240 : gW (.static yJ7_fill_53178) := ⟨tb_1 (List.mem_of_getElem? (i := 130) (by decide +kernel)), Or.inl rfl⟩

theorem tw_239 : gW (.methodLink RX2 49 yJ7_fill_53178) := ⟨tb_1 (List.mem_of_getElem? (i := 129) (by decide +kernel)), Or.inl rfl⟩

theorem tw_289 : gW (.fieldLink RX2 46 "NoticeDesk$Land" "pretended" "I") := ⟨tb_1 (List.mem_of_getElem? (i := 179) (by decide +kernel)), Or.inl rfl⟩

theorem tw_287 : gW (.fieldLink RX2 45 "NoticeDesk$Land" "moved" "Z") := ⟨tb_1 (List.mem_of_getElem? (i := 177) (by decide +kernel)), Or.inl rfl⟩

theorem tw_285 : gW (.fieldLink RX2 40 "NoticeDesk$Land" "openTo" "I") := ⟨tb_1 (List.mem_of_getElem? (i := 175) (by decide +kernel)), Or.inl rfl⟩

theorem tw_283 : gW (.fieldLink RX2 36 "NoticeDesk$Land" "openFrom" "I") := ⟨tb_1 (List.mem_of_getElem? (i := 173) (by decide +kernel)), Or.inl rfl⟩

theorem tw_281 : gW (.fieldLink RX2 32 "NoticeDesk$Land" "restDays" "I") := ⟨tb_1 (List.mem_of_getElem? (i := 171) (by decide +kernel)), Or.inl rfl⟩

theorem tw_278 : gW (.fieldLink RX2 28 "NoticeDesk$Land" "zone" "I") := ⟨tb_1 (List.mem_of_getElem? (i := 168) (by decide +kernel)), Or.inl rfl⟩

theorem tw_238 : gW (.code yX2_adopt cX2_adopt 3 none) := ⟨tb_1 (List.mem_of_getElem? (i := 128) (by decide +kernel)), Or.inl rfl⟩

theorem tw_237 : gW (.selects RX2 yX2_adopt yX2_adopt) := ⟨tb_1 (List.mem_of_getElem? (i := 127) (by decide +kernel)), Or.inl rfl⟩

theorem tw_236 : gW (.instanceMethod yX2_adopt) := ⟨tb_1 (List.mem_of_getElem? (i := 126) (by decide +kernel)), Or.inl rfl⟩

theorem tw_235 : gW (.methodLink RX2 18 yX2_adopt) := ⟨tb_1 (List.mem_of_getElem? (i := 125) (by decide +kernel)), Or.inl rfl⟩

theorem tw_273 : gW (.fieldLink RX2 15 "NoticeDesk$Land" "workdays" "[I") := ⟨tb_1 (List.mem_of_getElem? (i := 163) (by decide +kernel)), Or.inl rfl⟩

theorem tw_272 : gW (.fieldLink RX2 9 "NoticeDesk$Land" "before" "[I") := ⟨tb_1 (List.mem_of_getElem? (i := 162) (by decide +kernel)), Or.inl rfl⟩

theorem tw_234 : gW (.methodLink RX2 3 objectInit) := ⟨tb_1 (List.mem_of_getElem? (i := 124) (by decide +kernel)), Or.inl rfl⟩

theorem tw_233 : gW (.code yX2_init cX2_init 3 none) := ⟨tb_1 (List.mem_of_getElem? (i := 123) (by decide +kernel)), Or.inl rfl⟩

theorem tw_232 : gW (.instanceMethod yX2_init) := ⟨tb_1 (List.mem_of_getElem? (i := 122) (by decide +kernel)), Or.inl rfl⟩

theorem tw_231 : gW (.methodLink RX10 42 yX2_init) := ⟨tb_1 (List.mem_of_getElem? (i := 121) (by decide +kernel)), Or.inl rfl⟩

theorem tw_206 : gW (.fieldLink RX3 43 "NoticeDesk$LandText" "moved" "Z") := ⟨tb_1 (List.mem_of_getElem? (i := 96) (by decide +kernel)), Or.inl rfl⟩

theorem tw_204 : gW (.fieldLink RX3 40 "NoticeDesk$LandText" "openTo" "I") := ⟨tb_1 (List.mem_of_getElem? (i := 94) (by decide +kernel)), Or.inl rfl⟩

theorem tw_202 : gW (.fieldLink RX3 37 "NoticeDesk$LandText" "openFrom" "I") := ⟨tb_1 (List.mem_of_getElem? (i := 92) (by decide +kernel)), Or.inl rfl⟩

theorem tw_200 : gW (.fieldLink RX3 34 "NoticeDesk$LandText" "restDays" "I") := ⟨tb_1 (List.mem_of_getElem? (i := 90) (by decide +kernel)), Or.inl rfl⟩

theorem tw_264 : gW (.methodLink RX2 69 yX2_markFirstFree) := ⟨tb_1 (List.mem_of_getElem? (i := 154) (by decide +kernel)), Or.inl rfl⟩

theorem tw_263 : gW (.code yX2_isRest cX2_isRest 2 (some .boolean)) := ⟨tb_1 (List.mem_of_getElem? (i := 153) (by decide +kernel)), Or.inl rfl⟩

theorem tw_262 : gW (.selects RX2 yX2_isRest yX2_isRest) := ⟨tb_1 (List.mem_of_getElem? (i := 152) (by decide +kernel)), Or.inl rfl⟩

theorem tw_261 : gW (.instanceMethod yX2_isRest) := ⟨tb_1 (List.mem_of_getElem? (i := 151) (by decide +kernel)), Or.inl rfl⟩

theorem tw_260 : gW (.methodLink RX2 65 yX2_isRest) := ⟨tb_1 (List.mem_of_getElem? (i := 150) (by decide +kernel)), Or.inl rfl⟩

theorem tw_259 : gW (.code yX2_moveOffRest cX2_moveOffRest 3 none) := ⟨tb_1 (List.mem_of_getElem? (i := 149) (by decide +kernel)), Or.inl rfl⟩

theorem tw_2 : gW (.selects RX2 yX2_moveOffRest yX2_moveOffRest) := ⟨tb_0 (List.mem_of_getElem? (i := 2) (by decide +kernel)), Or.inl rfl⟩

theorem tw_258 : gW (.instanceMethod yX2_moveOffRest) := ⟨tb_1 (List.mem_of_getElem? (i := 148) (by decide +kernel)), Or.inl rfl⟩

theorem tw_256 : gW (.methodLink RX2 59 yX2_moveOffRest) := ⟨tb_1 (List.mem_of_getElem? (i := 146) (by decide +kernel)), Or.inl rfl⟩

theorem tw_255 : gW (.code yJ9_floorMod_7cf53 cJ9_floorMod_7cf53 3 (some .int)) := ⟨tb_1 (List.mem_of_getElem? (i := 145) (by decide +kernel)), Or.inl rfl⟩

theorem tw_117 : gW (.initialized RJ9) := ⟨tb_1 (List.mem_of_getElem? (i := 7) (by decide +kernel)), Or.inl rfl⟩

theorem tw_254 : gW (.static yJ9_floorMod_7cf53) := ⟨tb_1 (List.mem_of_getElem? (i := 144) (by decide +kernel)), Or.inl rfl⟩

theorem tw_253 : gW (.methodLink RX3 150 yJ9_floorMod_7cf53) := ⟨tb_1 (List.mem_of_getElem? (i := 143) (by decide +kernel)), Or.inl rfl⟩

theorem tw_252 : gW (.code yX3_markEachYear cX3_markEachYear 5 none) := ⟨tb_1 (List.mem_of_getElem? (i := 142) (by decide +kernel)), Or.inl rfl⟩

theorem tw_1 : gW (.selects RX3 yX3_markEachYear yX3_markEachYear) := ⟨tb_0 (List.mem_of_getElem? (i := 1) (by decide +kernel)), Or.inl rfl⟩

theorem tw_251 : gW (.instanceMethod yX3_markEachYear) := ⟨tb_1 (List.mem_of_getElem? (i := 141) (by decide +kernel)), Or.inl rfl⟩

theorem tw_249 : gW (.methodLink RX3 147 yX3_markEachYear) := ⟨tb_1 (List.mem_of_getElem? (i := 139) (by decide +kernel)), Or.inl rfl⟩

theorem tw_248 : gW (.code yX3_mark cX3_mark 2 none) := ⟨tb_1 (List.mem_of_getElem? (i := 138) (by decide +kernel)), Or.inl rfl⟩

theorem tw_247 : gW (.static yX3_mark) := ⟨tb_1 (List.mem_of_getElem? (i := 137) (by decide +kernel)), Or.inl rfl⟩

theorem tw_246 : gW (.methodLink RX3 143 yX3_mark) := ⟨tb_1 (List.mem_of_getElem? (i := 136) (by decide +kernel)), Or.inl rfl⟩

theorem tw_245 : gW (.code yX3_markTold cX3_markTold 3 none) := ⟨tb_1 (List.mem_of_getElem? (i := 135) (by decide +kernel)), Or.inl rfl⟩

theorem tw_244 : gW (.selects RX3 yX3_markTold yX3_markTold) := ⟨tb_1 (List.mem_of_getElem? (i := 134) (by decide +kernel)), Or.inl rfl⟩

theorem tw_243 : gW (.instanceMethod yX3_markTold) := ⟨tb_1 (List.mem_of_getElem? (i := 133) (by decide +kernel)), Or.inl rfl⟩

theorem tw_242 : gW (.methodLink RX2 55 yX3_markTold) := ⟨tb_1 (List.mem_of_getElem? (i := 132) (by decide +kernel)), Or.inl rfl⟩

theorem tw_353 : gW (.fieldLink RX1 27 "NoticeDesk$Chain" "hourOf" "[I") := ⟨tb_2 (List.mem_of_getElem? (i := 3) (by decide +kernel)), Or.inl rfl⟩

theorem tw_351 : gW (.fieldLink RX1 24 "NoticeDesk$Chain" "waitsWorkdays" "[I") := ⟨tb_2 (List.mem_of_getElem? (i := 1) (by decide +kernel)), Or.inl rfl⟩

theorem tw_349 : gW (.fieldLink RX1 21 "NoticeDesk$Chain" "waitOf" "[I") := ⟨tb_1 (List.mem_of_getElem? (i := 239) (by decide +kernel)), Or.inl rfl⟩

theorem tw_347 : gW (.fieldLink RX1 18 "NoticeDesk$Chain" "toOf" "[I") := ⟨tb_1 (List.mem_of_getElem? (i := 237) (by decide +kernel)), Or.inl rfl⟩

theorem tw_345 : gW (.fieldLink RX1 15 "NoticeDesk$Chain" "fromOf" "[I") := ⟨tb_1 (List.mem_of_getElem? (i := 235) (by decide +kernel)), Or.inl rfl⟩

theorem tw_343 : gW (.fieldLink RX1 11 "NoticeDesk$Chain" "wayOf" "[I") := ⟨tb_1 (List.mem_of_getElem? (i := 233) (by decide +kernel)), Or.inl rfl⟩

theorem tw_342 : gW (.methodLink RX1 3 objectInit) := ⟨tb_1 (List.mem_of_getElem? (i := 232) (by decide +kernel)), Or.inl rfl⟩

theorem tw_341 : gW (.code yX1_init cX1_init 1 none) := ⟨tb_1 (List.mem_of_getElem? (i := 231) (by decide +kernel)), Or.inl rfl⟩

theorem tw_340 : gW (.instanceMethod yX1_init) := ⟨tb_1 (List.mem_of_getElem? (i := 230) (by decide +kernel)), Or.inl rfl⟩

theorem tw_319 : gW (.fieldLink RX9 18 "NoticeDesk$Way" "text" "[I") := ⟨tb_1 (List.mem_of_getElem? (i := 209) (by decide +kernel)), Or.inl rfl⟩

theorem tw_318 : gW (.fieldLink RX9 15 "NoticeDesk$Way" "numbers" "[I") := ⟨tb_1 (List.mem_of_getElem? (i := 208) (by decide +kernel)), Or.inl rfl⟩

theorem tw_317 : gW (.fieldLink RX9 11 "NoticeDesk$Way" "kinds" "[I") := ⟨tb_1 (List.mem_of_getElem? (i := 207) (by decide +kernel)), Or.inl rfl⟩

theorem tw_316 : gW (.methodLink RX9 3 objectInit) := ⟨tb_1 (List.mem_of_getElem? (i := 206) (by decide +kernel)), Or.inl rfl⟩

theorem tw_315 : gW (.code yX9_init cX9_init 1 none) := ⟨tb_1 (List.mem_of_getElem? (i := 205) (by decide +kernel)), Or.inl rfl⟩

theorem tw_314 : gW (.instanceMethod yX9_init) := ⟨tb_1 (List.mem_of_getElem? (i := 204) (by decide +kernel)), Or.inl rfl⟩

theorem tw_276 : gW (.fieldLink RX2 75 "NoticeDesk$Land" "holidays" "I") := ⟨tb_1 (List.mem_of_getElem? (i := 166) (by decide +kernel)), Or.inl rfl⟩

theorem tw_274 : gW (.fieldLink RX2 72 "NoticeDesk$Land" "workdayCount" "I") := ⟨tb_1 (List.mem_of_getElem? (i := 164) (by decide +kernel)), Or.inl rfl⟩

theorem tw_271 : gW (.code yX2_setWorkdays cX2_setWorkdays 5 none) := ⟨tb_1 (List.mem_of_getElem? (i := 161) (by decide +kernel)), Or.inl rfl⟩

theorem tw_4 : gW (.selects RX2 yX2_setWorkdays yX2_setWorkdays) := ⟨tb_0 (List.mem_of_getElem? (i := 4) (by decide +kernel)), Or.inl rfl⟩

theorem tw_270 : gW (.instanceMethod yX2_setWorkdays) := ⟨tb_1 (List.mem_of_getElem? (i := 160) (by decide +kernel)), Or.inl rfl⟩

theorem tw_268 : gW (.methodLink RX2 62 yX2_setWorkdays) := ⟨tb_1 (List.mem_of_getElem? (i := 158) (by decide +kernel)), Or.inl rfl⟩

theorem tw_267 : gW (.code yX2_markFirstFree cX2_markFirstFree 4 none) := ⟨tb_1 (List.mem_of_getElem? (i := 157) (by decide +kernel)), Or.inl rfl⟩

theorem tw_3 : gW (.selects RX2 yX2_markFirstFree yX2_markFirstFree) := ⟨tb_0 (List.mem_of_getElem? (i := 3) (by decide +kernel)), Or.inl rfl⟩

theorem tw_266 : gW (.instanceMethod yX2_markFirstFree) := ⟨tb_1 (List.mem_of_getElem? (i := 156) (by decide +kernel)), Or.inl rfl⟩

theorem tw_457 : gW (.fieldLink RX6 13 "NoticeDesk$Past" "books" "[LNoticeDesk$Book;") := ⟨tb_2 (List.mem_of_getElem? (i := 107) (by decide +kernel)), Or.inl rfl⟩

theorem tw_454 : gW (.classLink RX6 11 RX0) := ⟨tb_2 (List.mem_of_getElem? (i := 104) (by decide +kernel)), Or.inl rfl⟩

theorem tw_453 : gW (.methodLink RX6 3 objectInit) := ⟨tb_2 (List.mem_of_getElem? (i := 103) (by decide +kernel)), Or.inl rfl⟩

theorem tw_452 : gW (.code yX6_init cX6_init 2 none) := ⟨tb_2 (List.mem_of_getElem? (i := 102) (by decide +kernel)), Or.inl rfl⟩

theorem tw_451 : gW (.instanceMethod yX6_init) := ⟨tb_2 (List.mem_of_getElem? (i := 101) (by decide +kernel)), Or.inl rfl⟩

theorem tw_450 : gW (.methodLink RX10 94 yX6_init) := ⟨tb_2 (List.mem_of_getElem? (i := 100) (by decide +kernel)), Or.inl rfl⟩

theorem tw_436 : gW (.fieldLink RX0 11 "NoticeDesk$Book" "cells" "[I") := ⟨tb_2 (List.mem_of_getElem? (i := 86) (by decide +kernel)), Or.inl rfl⟩

theorem tw_435 : gW (.methodLink RX0 3 objectInit) := ⟨tb_2 (List.mem_of_getElem? (i := 85) (by decide +kernel)), Or.inl rfl⟩

theorem tw_434 : gW (.code yX0_init cX0_init 1 none) := ⟨tb_2 (List.mem_of_getElem? (i := 84) (by decide +kernel)), Or.inl rfl⟩

theorem tw_433 : gW (.instanceMethod yX0_init) := ⟨tb_2 (List.mem_of_getElem? (i := 83) (by decide +kernel)), Or.inl rfl⟩

theorem tw_410 : gW (.fieldLink RX5 19 "NoticeDesk$Passage" "trip" "LNoticeDesk$Trip;") := ⟨tb_2 (List.mem_of_getElem? (i := 60) (by decide +kernel)), Or.inl rfl⟩

theorem tw_409 : gW (.fieldLink RX5 15 "NoticeDesk$Passage" "ways" "[LNoticeDesk$Way;") := ⟨tb_2 (List.mem_of_getElem? (i := 59) (by decide +kernel)), Or.inl rfl⟩

theorem tw_408 : gW (.fieldLink RX5 9 "NoticeDesk$Passage" "lands" "[LNoticeDesk$Land;") := ⟨tb_2 (List.mem_of_getElem? (i := 58) (by decide +kernel)), Or.inl rfl⟩

theorem tw_407 : gW (.methodLink RX5 3 objectInit) := ⟨tb_2 (List.mem_of_getElem? (i := 57) (by decide +kernel)), Or.inl rfl⟩

theorem tw_406 : gW (.code yX5_init cX5_init 4 none) := ⟨tb_2 (List.mem_of_getElem? (i := 56) (by decide +kernel)), Or.inl rfl⟩

theorem tw_405 : gW (.instanceMethod yX5_init) := ⟨tb_2 (List.mem_of_getElem? (i := 55) (by decide +kernel)), Or.inl rfl⟩

theorem tw_404 : gW (.methodLink RX10 78 yX5_init) := ⟨tb_2 (List.mem_of_getElem? (i := 54) (by decide +kernel)), Or.inl rfl⟩

theorem tw_380 : gW (.fieldLink RX8 9 "NoticeDesk$Trip" "lands" "[LNoticeDesk$Land;") := ⟨tb_2 (List.mem_of_getElem? (i := 30) (by decide +kernel)), Or.inl rfl⟩

theorem tw_379 : gW (.methodLink RX8 3 objectInit) := ⟨tb_2 (List.mem_of_getElem? (i := 29) (by decide +kernel)), Or.inl rfl⟩

theorem tw_378 : gW (.code yX8_init cX8_init 2 none) := ⟨tb_2 (List.mem_of_getElem? (i := 28) (by decide +kernel)), Or.inl rfl⟩

theorem tw_377 : gW (.instanceMethod yX8_init) := ⟨tb_2 (List.mem_of_getElem? (i := 27) (by decide +kernel)), Or.inl rfl⟩

theorem tw_376 : gW (.methodLink RX10 69 yX8_init) := ⟨tb_2 (List.mem_of_getElem? (i := 26) (by decide +kernel)), Or.inl rfl⟩

theorem tw_139 : gW (.code yX10_init cX10_init 2 none) := ⟨tb_1 (List.mem_of_getElem? (i := 29) (by decide +kernel)), Or.inl rfl⟩

theorem tw_1426 : gW (.fieldLink RX11 67 "NoticeDeskModel" "image" "[I") := ⟨tb_6 (List.mem_of_getElem? (i := 116) (by decide +kernel)), Or.inl rfl⟩

theorem tw_1425 : gW (.fieldLink RX11 64 "NoticeDeskModel" "book" "[I") := ⟨tb_6 (List.mem_of_getElem? (i := 115) (by decide +kernel)), Or.inl rfl⟩

theorem tw_1418 : gW (.fieldLink RX11 61 "NoticeDeskModel" "stageMany" "[I") := ⟨tb_6 (List.mem_of_getElem? (i := 108) (by decide +kernel)), Or.inl rfl⟩

theorem tw_1417 : gW (.fieldLink RX11 58 "NoticeDeskModel" "stage" "[I") := ⟨tb_6 (List.mem_of_getElem? (i := 107) (by decide +kernel)), Or.inl rfl⟩

theorem tw_1416 : gW (.fieldLink RX11 55 "NoticeDeskModel" "stageRead" "[I") := ⟨tb_6 (List.mem_of_getElem? (i := 106) (by decide +kernel)), Or.inl rfl⟩

theorem tw_1414 : gW (.fieldLink RX11 52 "NoticeDeskModel" "stepMany" "[I") := ⟨tb_6 (List.mem_of_getElem? (i := 104) (by decide +kernel)), Or.inl rfl⟩

theorem tw_1413 : gW (.fieldLink RX11 49 "NoticeDeskModel" "stepNumber" "[I") := ⟨tb_6 (List.mem_of_getElem? (i := 103) (by decide +kernel)), Or.inl rfl⟩

theorem tw_1412 : gW (.fieldLink RX11 46 "NoticeDeskModel" "step" "[I") := ⟨tb_6 (List.mem_of_getElem? (i := 102) (by decide +kernel)), Or.inl rfl⟩

theorem tw_1411 : gW (.fieldLink RX11 43 "NoticeDeskModel" "numberRead" "[I") := ⟨tb_6 (List.mem_of_getElem? (i := 101) (by decide +kernel)), Or.inl rfl⟩

theorem tw_1410 : gW (.fieldLink RX11 40 "NoticeDeskModel" "stepRead" "[I") := ⟨tb_6 (List.mem_of_getElem? (i := 100) (by decide +kernel)), Or.inl rfl⟩

theorem tw_1409 : gW (.fieldLink RX11 37 "NoticeDeskModel" "kind" "[B") := ⟨tb_6 (List.mem_of_getElem? (i := 99) (by decide +kernel)), Or.inl rfl⟩

theorem tw_1408 : gW (.fieldLink RX11 34 "NoticeDeskModel" "moved" "[Z") := ⟨tb_6 (List.mem_of_getElem? (i := 98) (by decide +kernel)), Or.inl rfl⟩

theorem tw_1407 : gW (.fieldLink RX11 31 "NoticeDeskModel" "openTo" "[I") := ⟨tb_6 (List.mem_of_getElem? (i := 97) (by decide +kernel)), Or.inl rfl⟩

theorem tw_1406 : gW (.fieldLink RX11 28 "NoticeDeskModel" "openFrom" "[I") := ⟨tb_6 (List.mem_of_getElem? (i := 96) (by decide +kernel)), Or.inl rfl⟩

theorem tw_1405 : gW (.fieldLink RX11 25 "NoticeDeskModel" "rest" "[I") := ⟨tb_6 (List.mem_of_getElem? (i := 95) (by decide +kernel)), Or.inl rfl⟩

theorem tw_1404 : gW (.fieldLink RX11 21 "NoticeDeskModel" "zone" "[I") := ⟨tb_6 (List.mem_of_getElem? (i := 94) (by decide +kernel)), Or.inl rfl⟩

theorem tw_1396 : gW (.fieldLink RX11 17 "NoticeDeskModel" "told" "[Z") := ⟨tb_6 (List.mem_of_getElem? (i := 86) (by decide +kernel)), Or.inl rfl⟩

theorem tw_1518 : gW (.arrayClass .boolean) := ⟨tb_6 (List.mem_of_getElem? (i := 208) (by decide +kernel)), Or.inr ⟨_, rfl⟩⟩

theorem tw_1392 : gW (.fieldLink RX11 13 "NoticeDeskModel" "tape" "[B") := ⟨tb_6 (List.mem_of_getElem? (i := 82) (by decide +kernel)), Or.inl rfl⟩

theorem tw_781 : gW (.arrayClass .byte) := ⟨tb_3 (List.mem_of_getElem? (i := 191) (by decide +kernel)), Or.inr ⟨_, rfl⟩⟩

theorem tw_1375 : gW (.methodLink RX11 7 objectInit) := ⟨tb_6 (List.mem_of_getElem? (i := 65) (by decide +kernel)), Or.inl rfl⟩

theorem tw_1389 : gW (.instanceMethod yX11_kindMany) := ⟨tb_6 (List.mem_of_getElem? (i := 79) (by decide +kernel)), Or.inl rfl⟩

theorem tw_1387 : gW (.methodLink RX11 211 yX11_kindMany) := ⟨tb_6 (List.mem_of_getElem? (i := 77) (by decide +kernel)), Or.inl rfl⟩

theorem tw_1386 : gW (.code yX11_has cX11_has 2 (some .boolean)) := ⟨tb_6 (List.mem_of_getElem? (i := 76) (by decide +kernel)), Or.inl rfl⟩

theorem tw_1385 : gW (.static yX11_has) := ⟨tb_6 (List.mem_of_getElem? (i := 75) (by decide +kernel)), Or.inl rfl⟩

theorem tw_1384 : gW (.methodLink RX11 161 yX11_has) := ⟨tb_6 (List.mem_of_getElem? (i := 74) (by decide +kernel)), Or.inl rfl⟩

theorem tw_1383 : gW (.code yX11_takes_ cX11_takes_ 5 (some .int)) := ⟨tb_6 (List.mem_of_getElem? (i := 73) (by decide +kernel)), Or.inl rfl⟩

theorem tw_55 : gW (.selects RX11 yX11_takes_ yX11_takes_) := ⟨tb_0 (List.mem_of_getElem? (i := 55) (by decide +kernel)), Or.inl rfl⟩

theorem tw_1382 : gW (.instanceMethod yX11_takes_) := ⟨tb_6 (List.mem_of_getElem? (i := 72) (by decide +kernel)), Or.inl rfl⟩

theorem tw_1380 : gW (.methodLink RX11 82 yX11_takes_) := ⟨tb_6 (List.mem_of_getElem? (i := 70) (by decide +kernel)), Or.inl rfl⟩

theorem tw_1403 : gW (.fieldLink RX11 154 "NoticeDeskModel" "movedRead" "Z") := ⟨tb_6 (List.mem_of_getElem? (i := 93) (by decide +kernel)), Or.inl rfl⟩

theorem tw_1402 : gW (.fieldLink RX11 151 "NoticeDeskModel" "holidaysRead" "I") := ⟨tb_6 (List.mem_of_getElem? (i := 92) (by decide +kernel)), Or.inl rfl⟩

theorem tw_1401 : gW (.fieldLink RX11 148 "NoticeDeskModel" "onceRead" "I") := ⟨tb_6 (List.mem_of_getElem? (i := 91) (by decide +kernel)), Or.inl rfl⟩

theorem tw_1400 : gW (.fieldLink RX11 145 "NoticeDeskModel" "toRead" "I") := ⟨tb_6 (List.mem_of_getElem? (i := 90) (by decide +kernel)), Or.inl rfl⟩

theorem tw_1399 : gW (.fieldLink RX11 142 "NoticeDeskModel" "fromRead" "I") := ⟨tb_6 (List.mem_of_getElem? (i := 89) (by decide +kernel)), Or.inl rfl⟩

theorem tw_1398 : gW (.fieldLink RX11 139 "NoticeDeskModel" "restRead" "I") := ⟨tb_6 (List.mem_of_getElem? (i := 88) (by decide +kernel)), Or.inl rfl⟩

theorem tw_1397 : gW (.fieldLink RX11 136 "NoticeDeskModel" "zoneRead" "I") := ⟨tb_6 (List.mem_of_getElem? (i := 87) (by decide +kernel)), Or.inl rfl⟩

theorem tw_1379 : gW (.code yX11_plain cX11_plain 2 none) := ⟨tb_6 (List.mem_of_getElem? (i := 69) (by decide +kernel)), Or.inl rfl⟩

theorem tw_124 : gW (.initialized RX11) := ⟨tb_1 (List.mem_of_getElem? (i := 14) (by decide +kernel)), Or.inl rfl⟩

theorem tw_54 : gW (.selects RX11 yX11_plain yX11_plain) := ⟨tb_0 (List.mem_of_getElem? (i := 54) (by decide +kernel)), Or.inl rfl⟩

theorem tw_1378 : gW (.instanceMethod yX11_plain) := ⟨tb_6 (List.mem_of_getElem? (i := 68) (by decide +kernel)), Or.inl rfl⟩

theorem tw_1376 : gW (.methodLink RX11 79 yX11_plain) := ⟨tb_6 (List.mem_of_getElem? (i := 66) (by decide +kernel)), Or.inl rfl⟩

theorem tw_1431 : gW (.fieldLink RX11 76 "NoticeDeskModel" "said" "[I") := ⟨tb_6 (List.mem_of_getElem? (i := 121) (by decide +kernel)), Or.inl rfl⟩

theorem tw_1428 : gW (.fieldLink RX11 73 "NoticeDeskModel" "refused" "[I") := ⟨tb_6 (List.mem_of_getElem? (i := 118) (by decide +kernel)), Or.inl rfl⟩

theorem tw_1427 : gW (.fieldLink RX11 70 "NoticeDeskModel" "kept" "[I") := ⟨tb_6 (List.mem_of_getElem? (i := 117) (by decide +kernel)), Or.inl rfl⟩

theorem tw_1390 : gW (.code yX11_kindMany cX11_kindMany 5 (some .int)) := ⟨tb_6 (List.mem_of_getElem? (i := 80) (by decide +kernel)), Or.inl rfl⟩

theorem tw_56 : gW (.selects RX11 yX11_kindMany yX11_kindMany) := ⟨tb_0 (List.mem_of_getElem? (i := 56) (by decide +kernel)), Or.inl rfl⟩

theorem tw_1374 : gW (.code yX11_init cX11_init 2 none) := ⟨tb_6 (List.mem_of_getElem? (i := 64) (by decide +kernel)), Or.inl rfl⟩

theorem tw_518 : gW (.selects RX10 yX10_feed yX10_feed) := ⟨tb_2 (List.mem_of_getElem? (i := 168) (by decide +kernel)), Or.inl rfl⟩

theorem tw_517 : gW (.instanceMethod yX10_feed) := ⟨tb_2 (List.mem_of_getElem? (i := 167) (by decide +kernel)), Or.inl rfl⟩

theorem tw_516 : gW (.methodLink RL 19 yX10_feed) := ⟨tb_2 (List.mem_of_getElem? (i := 166) (by decide +kernel)), Or.inl rfl⟩

theorem tw_531 : gW (.code yX7_addByte cX7_addByte 2 none) := ⟨tb_2 (List.mem_of_getElem? (i := 181) (by decide +kernel)), Or.inl rfl⟩

theorem tw_5 : gW (.selects RX7 yX7_addByte yX7_addByte) := ⟨tb_0 (List.mem_of_getElem? (i := 5) (by decide +kernel)), Or.inl rfl⟩

theorem tw_530 : gW (.instanceMethod yX7_addByte) := ⟨tb_2 (List.mem_of_getElem? (i := 180) (by decide +kernel)), Or.inl rfl⟩

theorem tw_528 : gW (.methodLink RX7 19 yX7_addByte) := ⟨tb_2 (List.mem_of_getElem? (i := 178) (by decide +kernel)), Or.inl rfl⟩

theorem tw_527 : gW (.code yX7_addNumber cX7_addNumber 3 none) := ⟨tb_2 (List.mem_of_getElem? (i := 177) (by decide +kernel)), Or.inl rfl⟩

theorem tw_526 : gW (.selects RX7 yX7_addNumber yX7_addNumber) := ⟨tb_2 (List.mem_of_getElem? (i := 176) (by decide +kernel)), Or.inl rfl⟩

theorem tw_525 : gW (.instanceMethod yX7_addNumber) := ⟨tb_2 (List.mem_of_getElem? (i := 175) (by decide +kernel)), Or.inl rfl⟩

theorem tw_524 : gW (.methodLink RX10 109 yX7_addNumber) := ⟨tb_2 (List.mem_of_getElem? (i := 174) (by decide +kernel)), Or.inl rfl⟩

theorem tw_150 : gW (.fieldLink RX7 15 "NoticeDesk$Tape" "length" "I") := ⟨tb_1 (List.mem_of_getElem? (i := 40) (by decide +kernel)), Or.inl rfl⟩

theorem tw_523 : gW (.code yX7_length cX7_length 1 (some .int)) := ⟨tb_2 (List.mem_of_getElem? (i := 173) (by decide +kernel)), Or.inl rfl⟩

theorem tw_522 : gW (.selects RX7 yX7_length yX7_length) := ⟨tb_2 (List.mem_of_getElem? (i := 172) (by decide +kernel)), Or.inl rfl⟩

theorem tw_521 : gW (.instanceMethod yX7_length) := ⟨tb_2 (List.mem_of_getElem? (i := 171) (by decide +kernel)), Or.inl rfl⟩

theorem tw_520 : gW (.methodLink RX10 105 yX7_length) := ⟨tb_2 (List.mem_of_getElem? (i := 170) (by decide +kernel)), Or.inl rfl⟩

theorem tw_519 : gW (.code yX10_feed cX10_feed 6 (some .int)) := ⟨tb_2 (List.mem_of_getElem? (i := 169) (by decide +kernel)), Or.inl rfl⟩

theorem tw_1521 : gW (.selects RX11 yX11_feed yX11_feed) := ⟨tb_6 (List.mem_of_getElem? (i := 211) (by decide +kernel)), Or.inl rfl⟩

theorem tw_1520 : gW (.instanceMethod yX11_feed) := ⟨tb_6 (List.mem_of_getElem? (i := 210) (by decide +kernel)), Or.inl rfl⟩

theorem tw_1519 : gW (.methodLink RL 23 yX11_feed) := ⟨tb_6 (List.mem_of_getElem? (i := 209) (by decide +kernel)), Or.inl rfl⟩

theorem tw_1529 : gW (.code yX11_brings cX11_brings 4 none) := ⟨tb_6 (List.mem_of_getElem? (i := 219) (by decide +kernel)), Or.inl rfl⟩

theorem tw_57 : gW (.selects RX11 yX11_brings yX11_brings) := ⟨tb_0 (List.mem_of_getElem? (i := 57) (by decide +kernel)), Or.inl rfl⟩

theorem tw_1528 : gW (.instanceMethod yX11_brings) := ⟨tb_6 (List.mem_of_getElem? (i := 218) (by decide +kernel)), Or.inl rfl⟩

theorem tw_1526 : gW (.methodLink RX11 92 yX11_brings) := ⟨tb_6 (List.mem_of_getElem? (i := 216) (by decide +kernel)), Or.inl rfl⟩

theorem tw_1525 : gW (.code yX11_bytesOf cX11_bytesOf 3 (some .int)) := ⟨tb_6 (List.mem_of_getElem? (i := 215) (by decide +kernel)), Or.inl rfl⟩

theorem tw_1524 : gW (.static yX11_bytesOf) := ⟨tb_6 (List.mem_of_getElem? (i := 214) (by decide +kernel)), Or.inl rfl⟩

theorem tw_1523 : gW (.methodLink RX11 89 yX11_bytesOf) := ⟨tb_6 (List.mem_of_getElem? (i := 213) (by decide +kernel)), Or.inl rfl⟩

theorem tw_1393 : gW (.fieldLink RX11 86 "NoticeDeskModel" "length" "I") := ⟨tb_6 (List.mem_of_getElem? (i := 83) (by decide +kernel)), Or.inl rfl⟩

theorem tw_1391 : gW (.fieldLink RX11 3 "NoticeDeskModel" "thrown" "I") := ⟨tb_6 (List.mem_of_getElem? (i := 81) (by decide +kernel)), Or.inl rfl⟩

theorem tw_1522 : gW (.code yX11_feed cX11_feed 6 (some .int)) := ⟨tb_6 (List.mem_of_getElem? (i := 212) (by decide +kernel)), Or.inl rfl⟩

theorem tw_534 : gW (.selects RX10 yX10_end yX10_end) := ⟨tb_2 (List.mem_of_getElem? (i := 184) (by decide +kernel)), Or.inl rfl⟩

theorem tw_533 : gW (.instanceMethod yX10_end) := ⟨tb_2 (List.mem_of_getElem? (i := 183) (by decide +kernel)), Or.inl rfl⟩

theorem tw_532 : gW (.methodLink RL 24 yX10_end) := ⟨tb_2 (List.mem_of_getElem? (i := 182) (by decide +kernel)), Or.inl rfl⟩

theorem tw_539 : gW (.code yX7_cutTo cX7_cutTo 2 (some .boolean)) := ⟨tb_2 (List.mem_of_getElem? (i := 189) (by decide +kernel)), Or.inl rfl⟩

theorem tw_538 : gW (.selects RX7 yX7_cutTo yX7_cutTo) := ⟨tb_2 (List.mem_of_getElem? (i := 188) (by decide +kernel)), Or.inl rfl⟩

theorem tw_537 : gW (.instanceMethod yX7_cutTo) := ⟨tb_2 (List.mem_of_getElem? (i := 187) (by decide +kernel)), Or.inl rfl⟩

theorem tw_536 : gW (.methodLink RX10 113 yX7_cutTo) := ⟨tb_2 (List.mem_of_getElem? (i := 186) (by decide +kernel)), Or.inl rfl⟩

theorem tw_535 : gW (.code yX10_end cX10_end 2 (some .boolean)) := ⟨tb_2 (List.mem_of_getElem? (i := 185) (by decide +kernel)), Or.inl rfl⟩

theorem tw_1532 : gW (.selects RX11 yX11_end yX11_end) := ⟨tb_6 (List.mem_of_getElem? (i := 222) (by decide +kernel)), Or.inl rfl⟩

theorem tw_1531 : gW (.instanceMethod yX11_end) := ⟨tb_6 (List.mem_of_getElem? (i := 221) (by decide +kernel)), Or.inl rfl⟩

theorem tw_1530 : gW (.methodLink RL 28 yX11_end) := ⟨tb_6 (List.mem_of_getElem? (i := 220) (by decide +kernel)), Or.inl rfl⟩

theorem tw_1533 : gW (.code yX11_end cX11_end 2 (some .boolean)) := ⟨tb_6 (List.mem_of_getElem? (i := 223) (by decide +kernel)), Or.inl rfl⟩

theorem tw_542 : gW (.selects RX10 yX10_fault yX10_fault) := ⟨tb_2 (List.mem_of_getElem? (i := 192) (by decide +kernel)), Or.inl rfl⟩

theorem tw_541 : gW (.instanceMethod yX10_fault) := ⟨tb_2 (List.mem_of_getElem? (i := 191) (by decide +kernel)), Or.inl rfl⟩

theorem tw_540 : gW (.methodLink RL 29 yX10_fault) := ⟨tb_2 (List.mem_of_getElem? (i := 190) (by decide +kernel)), Or.inl rfl⟩

theorem tw_550 : gW (.selects RX4 yX4_start yX4_start) := ⟨tb_2 (List.mem_of_getElem? (i := 200) (by decide +kernel)), Or.inl rfl⟩

theorem tw_549 : gW (.instanceMethod yX4_start) := ⟨tb_2 (List.mem_of_getElem? (i := 199) (by decide +kernel)), Or.inl rfl⟩

theorem tw_548 : gW (.methodLink RX3 61 yX4_start) := ⟨tb_2 (List.mem_of_getElem? (i := 198) (by decide +kernel)), Or.inl rfl⟩

theorem tw_547 : gW (.code yX3_read cX3_read 3 (some .boolean)) := ⟨tb_2 (List.mem_of_getElem? (i := 197) (by decide +kernel)), Or.inl rfl⟩

theorem tw_546 : gW (.selects RX3 yX3_read yX3_read) := ⟨tb_2 (List.mem_of_getElem? (i := 196) (by decide +kernel)), Or.inl rfl⟩

theorem tw_545 : gW (.instanceMethod yX3_read) := ⟨tb_2 (List.mem_of_getElem? (i := 195) (by decide +kernel)), Or.inl rfl⟩

theorem tw_544 : gW (.methodLink RX10 117 yX3_read) := ⟨tb_2 (List.mem_of_getElem? (i := 194) (by decide +kernel)), Or.inl rfl⟩

theorem tw_563 : gW (.code yX4_isLetter cX4_isLetter 1 (some .boolean)) := ⟨tb_2 (List.mem_of_getElem? (i := 213) (by decide +kernel)), Or.inl rfl⟩

theorem tw_562 : gW (.static yX4_isLetter) := ⟨tb_2 (List.mem_of_getElem? (i := 212) (by decide +kernel)), Or.inl rfl⟩

theorem tw_561 : gW (.methodLink RX4 36 yX4_isLetter) := ⟨tb_2 (List.mem_of_getElem? (i := 211) (by decide +kernel)), Or.inl rfl⟩

theorem tw_560 : gW (.code yX7_byteAt cX7_byteAt 2 (some .int)) := ⟨tb_2 (List.mem_of_getElem? (i := 210) (by decide +kernel)), Or.inl rfl⟩

theorem tw_559 : gW (.selects RX7 yX7_byteAt yX7_byteAt) := ⟨tb_2 (List.mem_of_getElem? (i := 209) (by decide +kernel)), Or.inl rfl⟩

theorem tw_558 : gW (.instanceMethod yX7_byteAt) := ⟨tb_2 (List.mem_of_getElem? (i := 208) (by decide +kernel)), Or.inl rfl⟩

theorem tw_557 : gW (.methodLink RX4 29 yX7_byteAt) := ⟨tb_2 (List.mem_of_getElem? (i := 207) (by decide +kernel)), Or.inl rfl⟩

theorem tw_556 : gW (.methodLink RX4 23 yX7_length) := ⟨tb_2 (List.mem_of_getElem? (i := 206) (by decide +kernel)), Or.inl rfl⟩

theorem tw_166 : gW (.fieldLink RX4 33 "NoticeDesk$Parts" "kind" "I") := ⟨tb_1 (List.mem_of_getElem? (i := 56) (by decide +kernel)), Or.inl rfl⟩

theorem tw_164 : gW (.fieldLink RX4 20 "NoticeDesk$Parts" "place" "I") := ⟨tb_1 (List.mem_of_getElem? (i := 54) (by decide +kernel)), Or.inl rfl⟩

theorem tw_555 : gW (.code yX4_next cX4_next 1 none) := ⟨tb_2 (List.mem_of_getElem? (i := 205) (by decide +kernel)), Or.inl rfl⟩

theorem tw_554 : gW (.selects RX4 yX4_next yX4_next) := ⟨tb_2 (List.mem_of_getElem? (i := 204) (by decide +kernel)), Or.inl rfl⟩

theorem tw_553 : gW (.instanceMethod yX4_next) := ⟨tb_2 (List.mem_of_getElem? (i := 203) (by decide +kernel)), Or.inl rfl⟩

theorem tw_552 : gW (.methodLink RX4 17 yX4_next) := ⟨tb_2 (List.mem_of_getElem? (i := 202) (by decide +kernel)), Or.inl rfl⟩

theorem tw_165 : gW (.fieldLink RX4 13 "NoticeDesk$Parts" "stop" "I") := ⟨tb_1 (List.mem_of_getElem? (i := 55) (by decide +kernel)), Or.inl rfl⟩

theorem tw_551 : gW (.code yX4_start cX4_start 1 none) := ⟨tb_2 (List.mem_of_getElem? (i := 201) (by decide +kernel)), Or.inl rfl⟩

theorem tw_586 : gW (.code yX3_kindHere cX3_kindHere 3 (some .int)) := ⟨tb_2 (List.mem_of_getElem? (i := 236) (by decide +kernel)), Or.inl rfl⟩

theorem tw_9 : gW (.selects RX3 yX3_kindHere yX3_kindHere) := ⟨tb_0 (List.mem_of_getElem? (i := 9) (by decide +kernel)), Or.inl rfl⟩

theorem tw_585 : gW (.instanceMethod yX3_kindHere) := ⟨tb_2 (List.mem_of_getElem? (i := 235) (by decide +kernel)), Or.inl rfl⟩

theorem tw_583 : gW (.methodLink RX3 78 yX3_kindHere) := ⟨tb_2 (List.mem_of_getElem? (i := 233) (by decide +kernel)), Or.inl rfl⟩

theorem tw_582 : gW (.code yX3_readPiece cX3_readPiece 3 (some .boolean)) := ⟨tb_2 (List.mem_of_getElem? (i := 232) (by decide +kernel)), Or.inl rfl⟩

theorem tw_8 : gW (.selects RX3 yX3_readPiece yX3_readPiece) := ⟨tb_0 (List.mem_of_getElem? (i := 8) (by decide +kernel)), Or.inl rfl⟩

theorem tw_581 : gW (.instanceMethod yX3_readPiece) := ⟨tb_2 (List.mem_of_getElem? (i := 231) (by decide +kernel)), Or.inl rfl⟩

theorem tw_579 : gW (.methodLink RX3 70 yX3_readPiece) := ⟨tb_2 (List.mem_of_getElem? (i := 229) (by decide +kernel)), Or.inl rfl⟩

theorem tw_578 : gW (.code yX4_isNothing cX4_isNothing 1 (some .boolean)) := ⟨tb_2 (List.mem_of_getElem? (i := 228) (by decide +kernel)), Or.inl rfl⟩

theorem tw_577 : gW (.selects RX4 yX4_isNothing yX4_isNothing) := ⟨tb_2 (List.mem_of_getElem? (i := 227) (by decide +kernel)), Or.inl rfl⟩

theorem tw_576 : gW (.instanceMethod yX4_isNothing) := ⟨tb_2 (List.mem_of_getElem? (i := 226) (by decide +kernel)), Or.inl rfl⟩

theorem tw_575 : gW (.methodLink RX3 66 yX4_isNothing) := ⟨tb_2 (List.mem_of_getElem? (i := 225) (by decide +kernel)), Or.inl rfl⟩

theorem tw_167 : gW (.fieldLink RX4 49 "NoticeDesk$Parts" "value" "I") := ⟨tb_1 (List.mem_of_getElem? (i := 57) (by decide +kernel)), Or.inl rfl⟩

theorem tw_574 : gW (.code yX4_passNumber cX4_passNumber 2 none) := ⟨tb_2 (List.mem_of_getElem? (i := 224) (by decide +kernel)), Or.inl rfl⟩

theorem tw_7 : gW (.selects RX4 yX4_passNumber yX4_passNumber) := ⟨tb_0 (List.mem_of_getElem? (i := 7) (by decide +kernel)), Or.inl rfl⟩

theorem tw_573 : gW (.instanceMethod yX4_passNumber) := ⟨tb_2 (List.mem_of_getElem? (i := 223) (by decide +kernel)), Or.inl rfl⟩

theorem tw_571 : gW (.methodLink RX4 46 yX4_passNumber) := ⟨tb_2 (List.mem_of_getElem? (i := 221) (by decide +kernel)), Or.inl rfl⟩

theorem tw_570 : gW (.code yX4_isDigit cX4_isDigit 1 (some .boolean)) := ⟨tb_2 (List.mem_of_getElem? (i := 220) (by decide +kernel)), Or.inl rfl⟩

theorem tw_569 : gW (.static yX4_isDigit) := ⟨tb_2 (List.mem_of_getElem? (i := 219) (by decide +kernel)), Or.inl rfl⟩

theorem tw_568 : gW (.methodLink RX4 43 yX4_isDigit) := ⟨tb_2 (List.mem_of_getElem? (i := 218) (by decide +kernel)), Or.inl rfl⟩

theorem tw_567 : gW (.code yX4_passWord cX4_passWord 1 none) := ⟨tb_2 (List.mem_of_getElem? (i := 217) (by decide +kernel)), Or.inl rfl⟩

theorem tw_6 : gW (.selects RX4 yX4_passWord yX4_passWord) := ⟨tb_0 (List.mem_of_getElem? (i := 6) (by decide +kernel)), Or.inl rfl⟩

theorem tw_566 : gW (.instanceMethod yX4_passWord) := ⟨tb_2 (List.mem_of_getElem? (i := 216) (by decide +kernel)), Or.inl rfl⟩

theorem tw_564 : gW (.methodLink RX4 40 yX4_passWord) := ⟨tb_2 (List.mem_of_getElem? (i := 214) (by decide +kernel)), Or.inl rfl⟩

theorem tw_616 : gW (.methodLink RJ0 492 yJ0_isLatin1_aae02) := ⟨tb_3 (List.mem_of_getElem? (i := 26) (by decide +kernel)), Or.inl rfl⟩

theorem tw_615 : gW (.code yJ0_charAt_5068e cJ0_charAt_5068e 2 (some .char)) := ⟨tb_3 (List.mem_of_getElem? (i := 25) (by decide +kernel)), Or.inl rfl⟩

theorem tw_614 : gW (.selects RJ0 yJ0_charAt_5068e yJ0_charAt_5068e) := ⟨tb_3 (List.mem_of_getElem? (i := 24) (by decide +kernel)), Or.inl rfl⟩

theorem tw_613 : gW (.instanceMethod yJ0_charAt_5068e) := ⟨tb_3 (List.mem_of_getElem? (i := 23) (by decide +kernel)), Or.inl rfl⟩

theorem tw_612 : gW (.methodLink RX4 55 yJ0_charAt_5068e) := ⟨tb_3 (List.mem_of_getElem? (i := 22) (by decide +kernel)), Or.inl rfl⟩

theorem tw_1990 : gW (.fieldLink RJ0 15 "java/lang/String" "coder" "B") := ⟨tb_8 (List.mem_of_getElem? (i := 200) (by decide +kernel)), Or.inl rfl⟩

theorem tw_610 : gW (.fieldLink RJ0 38 "java/lang/String" "COMPACT_STRINGS" "Z") := ⟨tb_3 (List.mem_of_getElem? (i := 20) (by decide +kernel)), Or.inl rfl⟩

theorem tw_609 : gW (.code yJ0_coder_7d493 cJ0_coder_7d493 1 (some .byte)) := ⟨tb_3 (List.mem_of_getElem? (i := 19) (by decide +kernel)), Or.inl rfl⟩

theorem tw_608 : gW (.selects RJ0 yJ0_coder_7d493 yJ0_coder_7d493) := ⟨tb_3 (List.mem_of_getElem? (i := 18) (by decide +kernel)), Or.inl rfl⟩

theorem tw_607 : gW (.instanceMethod yJ0_coder_7d493) := ⟨tb_3 (List.mem_of_getElem? (i := 17) (by decide +kernel)), Or.inl rfl⟩

theorem tw_606 : gW (.methodLink RJ0 335 yJ0_coder_7d493) := ⟨tb_3 (List.mem_of_getElem? (i := 16) (by decide +kernel)), Or.inl rfl⟩

theorem tw_1989 : gW (.fieldLink RJ0 9 "java/lang/String" "value" "[B") := ⟨tb_8 (List.mem_of_getElem? (i := 199) (by decide +kernel)), Or.inl rfl⟩

theorem tw_605 : gW (.code yJ0_length_8abf5 cJ0_length_8abf5 1 (some .int)) := ⟨tb_3 (List.mem_of_getElem? (i := 15) (by decide +kernel)), Or.inl rfl⟩

theorem tw_125 : gW (.initialized RJ0) := ⟨tb_1 (List.mem_of_getElem? (i := 15) (by decide +kernel)), Or.inl rfl⟩

theorem tw_604 : gW (.selects RJ0 yJ0_length_8abf5 yJ0_length_8abf5) := ⟨tb_3 (List.mem_of_getElem? (i := 14) (by decide +kernel)), Or.inl rfl⟩

theorem tw_603 : gW (.instanceMethod yJ0_length_8abf5) := ⟨tb_3 (List.mem_of_getElem? (i := 13) (by decide +kernel)), Or.inl rfl⟩

theorem tw_602 : gW (.methodLink RX4 52 yJ0_length_8abf5) := ⟨tb_3 (List.mem_of_getElem? (i := 12) (by decide +kernel)), Or.inl rfl⟩

theorem tw_601 : gW (.code yX4_isWord cX4_isWord 3 (some .boolean)) := ⟨tb_3 (List.mem_of_getElem? (i := 11) (by decide +kernel)), Or.inl rfl⟩

theorem tw_600 : gW (.selects RX4 yX4_isWord yX4_isWord) := ⟨tb_3 (List.mem_of_getElem? (i := 10) (by decide +kernel)), Or.inl rfl⟩

theorem tw_599 : gW (.instanceMethod yX4_isWord) := ⟨tb_3 (List.mem_of_getElem? (i := 9) (by decide +kernel)), Or.inl rfl⟩

theorem tw_598 : gW (.methodLink RX3 110 yX4_isWord) := ⟨tb_3 (List.mem_of_getElem? (i := 8) (by decide +kernel)), Or.inl rfl⟩

theorem tw_589 : gW (.code yX3_wordOf cX3_wordOf 1 (some (.object "java/lang/String"))) := ⟨tb_2 (List.mem_of_getElem? (i := 239) (by decide +kernel)), Or.inl rfl⟩

theorem tw_588 : gW (.static yX3_wordOf) := ⟨tb_2 (List.mem_of_getElem? (i := 238) (by decide +kernel)), Or.inl rfl⟩

theorem tw_587 : gW (.methodLink RX3 106 yX3_wordOf) := ⟨tb_2 (List.mem_of_getElem? (i := 237) (by decide +kernel)), Or.inl rfl⟩

theorem tw_638 : gW (.static yJ2_length_9d52b) := ⟨tb_3 (List.mem_of_getElem? (i := 48) (by decide +kernel)), Or.inl rfl⟩

theorem tw_637 : gW (.methodLink RJ2 48 yJ2_length_9d52b) := ⟨tb_3 (List.mem_of_getElem? (i := 47) (by decide +kernel)), Or.inl rfl⟩

theorem tw_636 : gW (.code yJ2_checkIndex_2214a cJ2_checkIndex_2214a 2 none) := ⟨tb_3 (List.mem_of_getElem? (i := 46) (by decide +kernel)), Or.inl rfl⟩

theorem tw_635 : gW (.static yJ2_checkIndex_2214a) := ⟨tb_3 (List.mem_of_getElem? (i := 45) (by decide +kernel)), Or.inl rfl⟩

theorem tw_634 : gW (.methodLink RJ2 67 yJ2_checkIndex_2214a) := ⟨tb_3 (List.mem_of_getElem? (i := 44) (by decide +kernel)), Or.inl rfl⟩

theorem tw_633 : gW (.code yJ2_charAt_3b067 cJ2_charAt_3b067 2 (some .char)) := ⟨tb_3 (List.mem_of_getElem? (i := 43) (by decide +kernel)), Or.inl rfl⟩

theorem tw_128 : gW (.initialized RJ2) := ⟨tb_1 (List.mem_of_getElem? (i := 18) (by decide +kernel)), Or.inl rfl⟩

theorem tw_632 : gW (.static yJ2_charAt_3b067) := ⟨tb_3 (List.mem_of_getElem? (i := 42) (by decide +kernel)), Or.inl rfl⟩

theorem tw_631 : gW (.methodLink RJ0 498 yJ2_charAt_3b067) := ⟨tb_3 (List.mem_of_getElem? (i := 41) (by decide +kernel)), Or.inl rfl⟩

theorem tw_630 : gW (.code yJ3_checkIndex_8e157 cJ3_checkIndex_8e157 3 (some .int)) := ⟨tb_3 (List.mem_of_getElem? (i := 40) (by decide +kernel)), Or.inl rfl⟩

theorem tw_127 : gW (.initialized RJ3) := ⟨tb_1 (List.mem_of_getElem? (i := 17) (by decide +kernel)), Or.inl rfl⟩

theorem tw_629 : gW (.static yJ3_checkIndex_8e157) := ⟨tb_3 (List.mem_of_getElem? (i := 39) (by decide +kernel)), Or.inl rfl⟩

theorem tw_628 : gW (.methodLink RJ0 1059 yJ3_checkIndex_8e157) := ⟨tb_3 (List.mem_of_getElem? (i := 38) (by decide +kernel)), Or.inl rfl⟩

theorem tw_626 : gW (.fieldLink RJ0 1053 "jdk/internal/util/Preconditions" "SIOOBE_FORMATTER" "Ljava/util/function/BiFunction;") := ⟨tb_3 (List.mem_of_getElem? (i := 36) (by decide +kernel)), Or.inl rfl⟩

theorem tw_625 : gW (.code yJ0_checkIndex_df160 cJ0_checkIndex_df160 2 none) := ⟨tb_3 (List.mem_of_getElem? (i := 35) (by decide +kernel)), Or.inl rfl⟩

theorem tw_624 : gW (.static yJ0_checkIndex_df160) := ⟨tb_3 (List.mem_of_getElem? (i := 34) (by decide +kernel)), Or.inl rfl⟩

theorem tw_623 : gW (.methodLink RJ1 9 yJ0_checkIndex_df160) := ⟨tb_3 (List.mem_of_getElem? (i := 33) (by decide +kernel)), Or.inl rfl⟩

theorem tw_622 : gW (.code yJ1_charAt_3b067 cJ1_charAt_3b067 2 (some .char)) := ⟨tb_3 (List.mem_of_getElem? (i := 32) (by decide +kernel)), Or.inl rfl⟩

theorem tw_126 : gW (.initialized RJ1) := ⟨tb_1 (List.mem_of_getElem? (i := 16) (by decide +kernel)), Or.inl rfl⟩

theorem tw_621 : gW (.static yJ1_charAt_3b067) := ⟨tb_3 (List.mem_of_getElem? (i := 31) (by decide +kernel)), Or.inl rfl⟩

theorem tw_620 : gW (.methodLink RJ0 495 yJ1_charAt_3b067) := ⟨tb_3 (List.mem_of_getElem? (i := 30) (by decide +kernel)), Or.inl rfl⟩

theorem tw_619 : gW (.code yJ0_isLatin1_aae02 cJ0_isLatin1_aae02 1 (some .boolean)) := ⟨tb_3 (List.mem_of_getElem? (i := 29) (by decide +kernel)), Or.inl rfl⟩

theorem tw_618 : gW (.selects RJ0 yJ0_isLatin1_aae02 yJ0_isLatin1_aae02) := ⟨tb_3 (List.mem_of_getElem? (i := 28) (by decide +kernel)), Or.inl rfl⟩

theorem tw_617 : gW (.instanceMethod yJ0_isLatin1_aae02) := ⟨tb_3 (List.mem_of_getElem? (i := 27) (by decide +kernel)), Or.inl rfl⟩

theorem tw_665 : gW (.code yX4_takeSign cX4_takeSign 3 (some .boolean)) := ⟨tb_3 (List.mem_of_getElem? (i := 75) (by decide +kernel)), Or.inl rfl⟩

theorem tw_664 : gW (.selects RX4 yX4_takeSign yX4_takeSign) := ⟨tb_3 (List.mem_of_getElem? (i := 74) (by decide +kernel)), Or.inl rfl⟩

theorem tw_663 : gW (.instanceMethod yX4_takeSign) := ⟨tb_3 (List.mem_of_getElem? (i := 73) (by decide +kernel)), Or.inl rfl⟩

theorem tw_662 : gW (.methodLink RX3 74 yX4_takeSign) := ⟨tb_3 (List.mem_of_getElem? (i := 72) (by decide +kernel)), Or.inl rfl⟩
