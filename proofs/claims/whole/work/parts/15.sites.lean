abbrev mX9_init : fMT := (yX9_init, cX9_init, 2, none, [])
theorem cc_X9_init : fCC 0 mX9_init := ⟨⟨by decide +kernel, by decide +kernel⟩, by decide +kernel, by decide +kernel, by decide +kernel, List.mem_of_getElem? (i := 163) (by decide +kernel)⟩
theorem im_X9_init : Cond.instanceMethod mX9_init.1 ∈ lw_tbl := List.mem_of_getElem? (i := 162) (by decide +kernel)
abbrev mX3_init : fMT := (yX3_init, cX3_init, 1, none, [])
theorem cc_X3_init : fCC 0 mX3_init := ⟨⟨by decide +kernel, by decide +kernel⟩, by decide +kernel, by decide +kernel, by decide +kernel, List.mem_of_getElem? (i := 171) (by decide +kernel)⟩
theorem im_X3_init : Cond.instanceMethod mX3_init.1 ∈ lw_tbl := List.mem_of_getElem? (i := 170) (by decide +kernel)
abbrev mX3_begin : fMT := (yX3_begin, cX3_begin, 2, none, [])
theorem cc_X3_begin : fCC 0 mX3_begin := ⟨⟨by decide +kernel, by decide +kernel⟩, by decide +kernel, by decide +kernel, by decide +kernel, List.mem_of_getElem? (i := 176) (by decide +kernel)⟩
theorem im_X3_begin : Cond.instanceMethod mX3_begin.1 ∈ lw_tbl := List.mem_of_getElem? (i := 175) (by decide +kernel)
theorem se_X3_begin : Cond.selects (fKC 2) mX3_begin.1 mX3_begin.1 ∈ lw_tbl := List.mem_of_getElem? (i := 0) (by decide +kernel)
abbrev mJ7_fill_53178 : fMT := (yJ7_fill_53178, cJ7_fill_53178, 4, none, [])
theorem cc_J7_fill_53178 : fCC 2 mJ7_fill_53178 := ⟨⟨by decide +kernel, by decide +kernel⟩, by decide +kernel, by decide +kernel, by decide +kernel, List.mem_of_getElem? (i := 179) (by decide +kernel)⟩
theorem st_J7_fill_53178 : Cond.static mJ7_fill_53178.1 ∈ lw_tbl := List.mem_of_getElem? (i := 178) (by decide +kernel)
abbrev mX5_init : fMT := (yX5_init, cX5_init, 2, none, [])
theorem cc_X5_init : fCC 1 mX5_init := ⟨⟨by decide +kernel, by decide +kernel⟩, by decide +kernel, by decide +kernel, by decide +kernel, List.mem_of_getElem? (i := 252) (by decide +kernel)⟩
theorem im_X5_init : Cond.instanceMethod mX5_init.1 ∈ lw_tbl := List.mem_of_getElem? (i := 251) (by decide +kernel)
abbrev mX8_init : fMT := (yX8_init, cX8_init, 2, none, [])
theorem cc_X8_init : fCC 1 mX8_init := ⟨⟨by decide +kernel, by decide +kernel⟩, by decide +kernel, by decide +kernel, by decide +kernel, List.mem_of_getElem? (i := 285) (by decide +kernel)⟩
theorem im_X8_init : Cond.instanceMethod mX8_init.1 ∈ lw_tbl := List.mem_of_getElem? (i := 284) (by decide +kernel)
abbrev mX4_init : fMT := (yX4_init, cX4_init, 1, none, [])
theorem cc_X4_init : fCC 0 mX4_init := ⟨⟨by decide +kernel, by decide +kernel⟩, by decide +kernel, by decide +kernel, by decide +kernel, List.mem_of_getElem? (i := 291) (by decide +kernel)⟩
theorem im_X4_init : Cond.instanceMethod mX4_init.1 ∈ lw_tbl := List.mem_of_getElem? (i := 290) (by decide +kernel)
abbrev mX1_init : fMT := (yX1_init, cX1_init, 1, none, [])
theorem cc_X1_init : fCC 0 mX1_init := ⟨⟨by decide +kernel, by decide +kernel⟩, by decide +kernel, by decide +kernel, by decide +kernel, List.mem_of_getElem? (i := 294) (by decide +kernel)⟩
theorem im_X1_init : Cond.instanceMethod mX1_init.1 ∈ lw_tbl := List.mem_of_getElem? (i := 293) (by decide +kernel)
abbrev mX0_init : fMT := (yX0_init, cX0_init, 1, none, [])
theorem cc_X0_init : fCC 0 mX0_init := ⟨⟨by decide +kernel, by decide +kernel⟩, by decide +kernel, by decide +kernel, by decide +kernel, List.mem_of_getElem? (i := 364) (by decide +kernel)⟩
theorem im_X0_init : Cond.instanceMethod mX0_init.1 ∈ lw_tbl := List.mem_of_getElem? (i := 363) (by decide +kernel)
abbrev mX2_init : fMT := (yX2_init, cX2_init, 3, none, [])
theorem cc_X2_init : fCC 1 mX2_init := ⟨⟨by decide +kernel, by decide +kernel⟩, by decide +kernel, by decide +kernel, by decide +kernel, List.mem_of_getElem? (i := 383) (by decide +kernel)⟩
theorem im_X2_init : Cond.instanceMethod mX2_init.1 ∈ lw_tbl := List.mem_of_getElem? (i := 382) (by decide +kernel)
abbrev mX7_init : fMT := (yX7_init, cX7_init, 1, none, [])
theorem cc_X7_init : fCC 0 mX7_init := ⟨⟨by decide +kernel, by decide +kernel⟩, by decide +kernel, by decide +kernel, by decide +kernel, List.mem_of_getElem? (i := 392) (by decide +kernel)⟩
theorem im_X7_init : Cond.instanceMethod mX7_init.1 ∈ lw_tbl := List.mem_of_getElem? (i := 391) (by decide +kernel)
abbrev mX6_init : fMT := (yX6_init, cX6_init, 1, none, [])
theorem cc_X6_init : fCC 0 mX6_init := ⟨⟨by decide +kernel, by decide +kernel⟩, by decide +kernel, by decide +kernel, by decide +kernel, List.mem_of_getElem? (i := 422) (by decide +kernel)⟩
theorem im_X6_init : Cond.instanceMethod mX6_init.1 ∈ lw_tbl := List.mem_of_getElem? (i := 421) (by decide +kernel)
abbrev mX9_feed : fMT := (yX9_feed, cX9_feed, 6, some .int, [])
theorem cc_X9_feed : fCC 5 mX9_feed := ⟨⟨by decide +kernel, by decide +kernel⟩, by decide +kernel, by decide +kernel, by decide +kernel, List.mem_of_getElem? (i := 492) (by decide +kernel)⟩
theorem im_X9_feed : Cond.instanceMethod mX9_feed.1 ∈ lw_tbl := List.mem_of_getElem? (i := 490) (by decide +kernel)
theorem se_X9_feed : Cond.selects (fKC 8) mX9_feed.1 mX9_feed.1 ∈ lw_tbl := List.mem_of_getElem? (i := 491) (by decide +kernel)
abbrev mX9_putOnTape : fMT := (yX9_putOnTape, cX9_putOnTape, 3, none, [])
theorem cc_X9_putOnTape : fCC 1 mX9_putOnTape := ⟨⟨by decide +kernel, by decide +kernel⟩, by decide +kernel, by decide +kernel, by decide +kernel, List.mem_of_getElem? (i := 496) (by decide +kernel)⟩
theorem im_X9_putOnTape : Cond.instanceMethod mX9_putOnTape.1 ∈ lw_tbl := List.mem_of_getElem? (i := 495) (by decide +kernel)
theorem se_X9_putOnTape : Cond.selects (fKC 8) mX9_putOnTape.1 mX9_putOnTape.1 ∈ lw_tbl := List.mem_of_getElem? (i := 1) (by decide +kernel)
abbrev mX9_fault : fMT := (yX9_fault, cX9_fault, 1, some .int, [])
theorem cc_X9_fault : fCC 0 mX9_fault := ⟨⟨by decide +kernel, by decide +kernel⟩, by decide +kernel, by decide +kernel, by decide +kernel, List.mem_of_getElem? (i := 500) (by decide +kernel)⟩
theorem im_X9_fault : Cond.instanceMethod mX9_fault.1 ∈ lw_tbl := List.mem_of_getElem? (i := 498) (by decide +kernel)
theorem se_X9_fault : Cond.selects (fKC 8) mX9_fault.1 mX9_fault.1 ∈ lw_tbl := List.mem_of_getElem? (i := 499) (by decide +kernel)
abbrev mX9_seed : fMT := (yX9_seed, cX9_seed, 3, some .int, [])
theorem cc_X9_seed : fCC 1 mX9_seed := ⟨⟨by decide +kernel, by decide +kernel⟩, by decide +kernel, by decide +kernel, by decide +kernel, List.mem_of_getElem? (i := 504) (by decide +kernel)⟩
theorem im_X9_seed : Cond.instanceMethod mX9_seed.1 ∈ lw_tbl := List.mem_of_getElem? (i := 502) (by decide +kernel)
theorem se_X9_seed : Cond.selects (fKC 8) mX9_seed.1 mX9_seed.1 ∈ lw_tbl := List.mem_of_getElem? (i := 503) (by decide +kernel)
abbrev mX9_cold : fMT := (yX9_cold, cX9_cold, 2, some .int, [])
theorem cc_X9_cold : fCC 1 mX9_cold := ⟨⟨by decide +kernel, by decide +kernel⟩, by decide +kernel, by decide +kernel, by decide +kernel, List.mem_of_getElem? (i := 508) (by decide +kernel)⟩
theorem im_X9_cold : Cond.instanceMethod mX9_cold.1 ∈ lw_tbl := List.mem_of_getElem? (i := 506) (by decide +kernel)
theorem se_X9_cold : Cond.selects (fKC 8) mX9_cold.1 mX9_cold.1 ∈ lw_tbl := List.mem_of_getElem? (i := 507) (by decide +kernel)
abbrev mX9_undone : fMT := (yX9_undone, cX9_undone, 1, some .int, [])
theorem cc_X9_undone : fCC 0 mX9_undone := ⟨⟨by decide +kernel, by decide +kernel⟩, by decide +kernel, by decide +kernel, by decide +kernel, List.mem_of_getElem? (i := 512) (by decide +kernel)⟩
theorem im_X9_undone : Cond.instanceMethod mX9_undone.1 ∈ lw_tbl := List.mem_of_getElem? (i := 510) (by decide +kernel)
theorem se_X9_undone : Cond.selects (fKC 8) mX9_undone.1 mX9_undone.1 ∈ lw_tbl := List.mem_of_getElem? (i := 511) (by decide +kernel)
abbrev mX8_firstAlive : fMT := (yX8_firstAlive, cX8_firstAlive, 5, some .int, [])
theorem cc_X8_firstAlive : fCC 1 mX8_firstAlive := ⟨⟨by decide +kernel, by decide +kernel⟩, by decide +kernel, by decide +kernel, by decide +kernel, List.mem_of_getElem? (i := 516) (by decide +kernel)⟩
theorem im_X8_firstAlive : Cond.instanceMethod mX8_firstAlive.1 ∈ lw_tbl := List.mem_of_getElem? (i := 515) (by decide +kernel)
theorem se_X8_firstAlive : Cond.selects (fKC 7) mX8_firstAlive.1 mX8_firstAlive.1 ∈ lw_tbl := List.mem_of_getElem? (i := 2) (by decide +kernel)
abbrev mX8_isAlive : fMT := (yX8_isAlive, cX8_isAlive, 3, some .boolean, [])
theorem cc_X8_isAlive : fCC 1 mX8_isAlive := ⟨⟨by decide +kernel, by decide +kernel⟩, by decide +kernel, by decide +kernel, by decide +kernel, List.mem_of_getElem? (i := 520) (by decide +kernel)⟩
theorem im_X8_isAlive : Cond.instanceMethod mX8_isAlive.1 ∈ lw_tbl := List.mem_of_getElem? (i := 519) (by decide +kernel)
theorem se_X8_isAlive : Cond.selects (fKC 7) mX8_isAlive.1 mX8_isAlive.1 ∈ lw_tbl := List.mem_of_getElem? (i := 3) (by decide +kernel)
abbrev mX8_pieceUnder : fMT := (yX8_pieceUnder, cX8_pieceUnder, 9, some .int, [])
theorem cc_X8_pieceUnder : fCC 1 mX8_pieceUnder := ⟨⟨by decide +kernel, by decide +kernel⟩, by decide +kernel, by decide +kernel, by decide +kernel, List.mem_of_getElem? (i := 524) (by decide +kernel)⟩
theorem im_X8_pieceUnder : Cond.instanceMethod mX8_pieceUnder.1 ∈ lw_tbl := List.mem_of_getElem? (i := 523) (by decide +kernel)
theorem se_X8_pieceUnder : Cond.selects (fKC 7) mX8_pieceUnder.1 mX8_pieceUnder.1 ∈ lw_tbl := List.mem_of_getElem? (i := 4) (by decide +kernel)
abbrev mX8_isInside : fMT := (yX8_isInside, cX8_isInside, 5, some .boolean, [])
theorem cc_X8_isInside : fCC 3 mX8_isInside := ⟨⟨by decide +kernel, by decide +kernel⟩, by decide +kernel, by decide +kernel, by decide +kernel, List.mem_of_getElem? (i := 528) (by decide +kernel)⟩
theorem im_X8_isInside : Cond.instanceMethod mX8_isInside.1 ∈ lw_tbl := List.mem_of_getElem? (i := 527) (by decide +kernel)
theorem se_X8_isInside : Cond.selects (fKC 7) mX8_isInside.1 mX8_isInside.1 ∈ lw_tbl := List.mem_of_getElem? (i := 5) (by decide +kernel)
abbrev mX8_lowEdge : fMT := (yX8_lowEdge, cX8_lowEdge, 3, some .int, [])
theorem cc_X8_lowEdge : fCC 2 mX8_lowEdge := ⟨⟨by decide +kernel, by decide +kernel⟩, by decide +kernel, by decide +kernel, by decide +kernel, List.mem_of_getElem? (i := 532) (by decide +kernel)⟩
theorem im_X8_lowEdge : Cond.instanceMethod mX8_lowEdge.1 ∈ lw_tbl := List.mem_of_getElem? (i := 531) (by decide +kernel)
theorem se_X8_lowEdge : Cond.selects (fKC 7) mX8_lowEdge.1 mX8_lowEdge.1 ∈ lw_tbl := List.mem_of_getElem? (i := 6) (by decide +kernel)
abbrev mX9_clear : fMT := (yX9_clear, cX9_clear, 2, some .int, [])
theorem cc_X9_clear : fCC 0 mX9_clear := ⟨⟨by decide +kernel, by decide +kernel⟩, by decide +kernel, by decide +kernel, by decide +kernel, List.mem_of_getElem? (i := 536) (by decide +kernel)⟩
theorem im_X9_clear : Cond.instanceMethod mX9_clear.1 ∈ lw_tbl := List.mem_of_getElem? (i := 534) (by decide +kernel)
theorem se_X9_clear : Cond.selects (fKC 8) mX9_clear.1 mX9_clear.1 ∈ lw_tbl := List.mem_of_getElem? (i := 535) (by decide +kernel)
abbrev mX9_thumb : fMT := (yX9_thumb, cX9_thumb, 3, some .int, [])
theorem cc_X9_thumb : fCC 2 mX9_thumb := ⟨⟨by decide +kernel, by decide +kernel⟩, by decide +kernel, by decide +kernel, by decide +kernel, List.mem_of_getElem? (i := 540) (by decide +kernel)⟩
theorem im_X9_thumb : Cond.instanceMethod mX9_thumb.1 ∈ lw_tbl := List.mem_of_getElem? (i := 538) (by decide +kernel)
theorem se_X9_thumb : Cond.selects (fKC 8) mX9_thumb.1 mX9_thumb.1 ∈ lw_tbl := List.mem_of_getElem? (i := 539) (by decide +kernel)
abbrev mX0_addRecord : fMT := (yX0_addRecord, cX0_addRecord, 3, some .int, [])
theorem cc_X0_addRecord : fCC 2 mX0_addRecord := ⟨⟨by decide +kernel, by decide +kernel⟩, by decide +kernel, by decide +kernel, by decide +kernel, List.mem_of_getElem? (i := 544) (by decide +kernel)⟩
theorem im_X0_addRecord : Cond.instanceMethod mX0_addRecord.1 ∈ lw_tbl := List.mem_of_getElem? (i := 543) (by decide +kernel)
theorem se_X0_addRecord : Cond.selects (fKC 0) mX0_addRecord.1 mX0_addRecord.1 ∈ lw_tbl := List.mem_of_getElem? (i := 7) (by decide +kernel)
abbrev mX0_records : fMT := (yX0_records, cX0_records, 1, some .int, [])
theorem cc_X0_records : fCC 0 mX0_records := ⟨⟨by decide +kernel, by decide +kernel⟩, by decide +kernel, by decide +kernel, by decide +kernel, List.mem_of_getElem? (i := 548) (by decide +kernel)⟩
theorem im_X0_records : Cond.instanceMethod mX0_records.1 ∈ lw_tbl := List.mem_of_getElem? (i := 547) (by decide +kernel)
theorem se_X0_records : Cond.selects (fKC 0) mX0_records.1 mX0_records.1 ∈ lw_tbl := List.mem_of_getElem? (i := 8) (by decide +kernel)
abbrev mX0_kindOf : fMT := (yX0_kindOf, cX0_kindOf, 2, some .int, [])
theorem cc_X0_kindOf : fCC 2 mX0_kindOf := ⟨⟨by decide +kernel, by decide +kernel⟩, by decide +kernel, by decide +kernel, by decide +kernel, List.mem_of_getElem? (i := 551) (by decide +kernel)⟩
theorem st_X0_kindOf : Cond.static mX0_kindOf.1 ∈ lw_tbl := List.mem_of_getElem? (i := 550) (by decide +kernel)
abbrev mX9_listening : fMT := (yX9_listening, cX9_listening, 3, some .int, [])
theorem cc_X9_listening : fCC 0 mX9_listening := ⟨⟨by decide +kernel, by decide +kernel⟩, by decide +kernel, by decide +kernel, by decide +kernel, List.mem_of_getElem? (i := 555) (by decide +kernel)⟩
theorem im_X9_listening : Cond.instanceMethod mX9_listening.1 ∈ lw_tbl := List.mem_of_getElem? (i := 553) (by decide +kernel)
theorem se_X9_listening : Cond.selects (fKC 8) mX9_listening.1 mX9_listening.1 ∈ lw_tbl := List.mem_of_getElem? (i := 554) (by decide +kernel)
abbrev mX0_recordsOf : fMT := (yX0_recordsOf, cX0_recordsOf, 3, some .int, [])
theorem cc_X0_recordsOf : fCC 2 mX0_recordsOf := ⟨⟨by decide +kernel, by decide +kernel⟩, by decide +kernel, by decide +kernel, by decide +kernel, List.mem_of_getElem? (i := 559) (by decide +kernel)⟩
theorem im_X0_recordsOf : Cond.instanceMethod mX0_recordsOf.1 ∈ lw_tbl := List.mem_of_getElem? (i := 558) (by decide +kernel)
theorem se_X0_recordsOf : Cond.selects (fKC 0) mX0_recordsOf.1 mX0_recordsOf.1 ∈ lw_tbl := List.mem_of_getElem? (i := 9) (by decide +kernel)
abbrev mX9_tower : fMT := (yX9_tower, cX9_tower, 1, some .int, [])
theorem cc_X9_tower : fCC 0 mX9_tower := ⟨⟨by decide +kernel, by decide +kernel⟩, by decide +kernel, by decide +kernel, by decide +kernel, List.mem_of_getElem? (i := 567) (by decide +kernel)⟩
theorem im_X9_tower : Cond.instanceMethod mX9_tower.1 ∈ lw_tbl := List.mem_of_getElem? (i := 565) (by decide +kernel)
theorem se_X9_tower : Cond.selects (fKC 8) mX9_tower.1 mX9_tower.1 ∈ lw_tbl := List.mem_of_getElem? (i := 566) (by decide +kernel)
abbrev mX6_highest : fMT := (yX6_highest, cX6_highest, 5, some .int, [])
theorem cc_X6_highest : fCC 1 mX6_highest := ⟨⟨by decide +kernel, by decide +kernel⟩, by decide +kernel, by decide +kernel, by decide +kernel, List.mem_of_getElem? (i := 571) (by decide +kernel)⟩
theorem im_X6_highest : Cond.instanceMethod mX6_highest.1 ∈ lw_tbl := List.mem_of_getElem? (i := 570) (by decide +kernel)
theorem se_X6_highest : Cond.selects (fKC 5) mX6_highest.1 mX6_highest.1 ∈ lw_tbl := List.mem_of_getElem? (i := 10) (by decide +kernel)
abbrev mX8_isLying : fMT := (yX8_isLying, cX8_isLying, 2, some .boolean, [])
theorem cc_X8_isLying : fCC 1 mX8_isLying := ⟨⟨by decide +kernel, by decide +kernel⟩, by decide +kernel, by decide +kernel, by decide +kernel, List.mem_of_getElem? (i := 575) (by decide +kernel)⟩
theorem im_X8_isLying : Cond.instanceMethod mX8_isLying.1 ∈ lw_tbl := List.mem_of_getElem? (i := 574) (by decide +kernel)
theorem se_X8_isLying : Cond.selects (fKC 7) mX8_isLying.1 mX8_isLying.1 ∈ lw_tbl := List.mem_of_getElem? (i := 11) (by decide +kernel)
abbrev mX8_pieceWide : fMT := (yX8_pieceWide, cX8_pieceWide, 2, some .int, [])
theorem cc_X8_pieceWide : fCC 1 mX8_pieceWide := ⟨⟨by decide +kernel, by decide +kernel⟩, by decide +kernel, by decide +kernel, by decide +kernel, List.mem_of_getElem? (i := 579) (by decide +kernel)⟩
theorem im_X8_pieceWide : Cond.instanceMethod mX8_pieceWide.1 ∈ lw_tbl := List.mem_of_getElem? (i := 578) (by decide +kernel)
theorem se_X8_pieceWide : Cond.selects (fKC 7) mX8_pieceWide.1 mX8_pieceWide.1 ∈ lw_tbl := List.mem_of_getElem? (i := 12) (by decide +kernel)
abbrev mX8_pieceHigh : fMT := (yX8_pieceHigh, cX8_pieceHigh, 2, some .int, [])
theorem cc_X8_pieceHigh : fCC 1 mX8_pieceHigh := ⟨⟨by decide +kernel, by decide +kernel⟩, by decide +kernel, by decide +kernel, by decide +kernel, List.mem_of_getElem? (i := 583) (by decide +kernel)⟩
theorem im_X8_pieceHigh : Cond.instanceMethod mX8_pieceHigh.1 ∈ lw_tbl := List.mem_of_getElem? (i := 582) (by decide +kernel)
theorem se_X8_pieceHigh : Cond.selects (fKC 7) mX8_pieceHigh.1 mX8_pieceHigh.1 ∈ lw_tbl := List.mem_of_getElem? (i := 13) (by decide +kernel)
abbrev mX6_insert : fMT := (yX6_insert, cX6_insert, 4, none, [])
theorem cc_X6_insert : fCC 2 mX6_insert := ⟨⟨by decide +kernel, by decide +kernel⟩, by decide +kernel, by decide +kernel, by decide +kernel, List.mem_of_getElem? (i := 591) (by decide +kernel)⟩
theorem im_X6_insert : Cond.instanceMethod mX6_insert.1 ∈ lw_tbl := List.mem_of_getElem? (i := 590) (by decide +kernel)
theorem se_X6_insert : Cond.selects (fKC 5) mX6_insert.1 mX6_insert.1 ∈ lw_tbl := List.mem_of_getElem? (i := 14) (by decide +kernel)
abbrev mX6_highestUpon : fMT := (yX6_highestUpon, cX6_highestUpon, 4, some .int, [])
theorem cc_X6_highestUpon : fCC 1 mX6_highestUpon := ⟨⟨by decide +kernel, by decide +kernel⟩, by decide +kernel, by decide +kernel, by decide +kernel, List.mem_of_getElem? (i := 595) (by decide +kernel)⟩
theorem im_X6_highestUpon : Cond.instanceMethod mX6_highestUpon.1 ∈ lw_tbl := List.mem_of_getElem? (i := 594) (by decide +kernel)
theorem se_X6_highestUpon : Cond.selects (fKC 5) mX6_highestUpon.1 mX6_highestUpon.1 ∈ lw_tbl := List.mem_of_getElem? (i := 15) (by decide +kernel)
abbrev mX9_image : fMT := (yX9_image, cX9_image, 1, some .int, [])
theorem cc_X9_image : fCC 0 mX9_image := ⟨⟨by decide +kernel, by decide +kernel⟩, by decide +kernel, by decide +kernel, by decide +kernel, List.mem_of_getElem? (i := 599) (by decide +kernel)⟩
theorem im_X9_image : Cond.instanceMethod mX9_image.1 ∈ lw_tbl := List.mem_of_getElem? (i := 597) (by decide +kernel)
theorem se_X9_image : Cond.selects (fKC 8) mX9_image.1 mX9_image.1 ∈ lw_tbl := List.mem_of_getElem? (i := 598) (by decide +kernel)
abbrev mX8_copyFrom : fMT := (yX8_copyFrom, cX8_copyFrom, 2, none, [])
theorem cc_X8_copyFrom : fCC 1 mX8_copyFrom := ⟨⟨by decide +kernel, by decide +kernel⟩, by decide +kernel, by decide +kernel, by decide +kernel, List.mem_of_getElem? (i := 603) (by decide +kernel)⟩
theorem im_X8_copyFrom : Cond.instanceMethod mX8_copyFrom.1 ∈ lw_tbl := List.mem_of_getElem? (i := 602) (by decide +kernel)
theorem se_X8_copyFrom : Cond.selects (fKC 7) mX8_copyFrom.1 mX8_copyFrom.1 ∈ lw_tbl := List.mem_of_getElem? (i := 16) (by decide +kernel)
abbrev mX0_copyFrom : fMT := (yX0_copyFrom, cX0_copyFrom, 2, none, [])
theorem cc_X0_copyFrom : fCC 1 mX0_copyFrom := ⟨⟨by decide +kernel, by decide +kernel⟩, by decide +kernel, by decide +kernel, by decide +kernel, List.mem_of_getElem? (i := 610) (by decide +kernel)⟩
theorem im_X0_copyFrom : Cond.instanceMethod mX0_copyFrom.1 ∈ lw_tbl := List.mem_of_getElem? (i := 609) (by decide +kernel)
theorem se_X0_copyFrom : Cond.selects (fKC 0) mX0_copyFrom.1 mX0_copyFrom.1 ∈ lw_tbl := List.mem_of_getElem? (i := 17) (by decide +kernel)
abbrev mX9_restore : fMT := (yX9_restore, cX9_restore, 1, some .int, [])
theorem cc_X9_restore : fCC 0 mX9_restore := ⟨⟨by decide +kernel, by decide +kernel⟩, by decide +kernel, by decide +kernel, by decide +kernel, List.mem_of_getElem? (i := 615) (by decide +kernel)⟩
theorem im_X9_restore : Cond.instanceMethod mX9_restore.1 ∈ lw_tbl := List.mem_of_getElem? (i := 613) (by decide +kernel)
theorem se_X9_restore : Cond.selects (fKC 8) mX9_restore.1 mX9_restore.1 ∈ lw_tbl := List.mem_of_getElem? (i := 614) (by decide +kernel)
abbrev mX9_count : fMT := (yX9_count, cX9_count, 2, some .int, [])
theorem cc_X9_count : fCC 1 mX9_count := ⟨⟨by decide +kernel, by decide +kernel⟩, by decide +kernel, by decide +kernel, by decide +kernel, List.mem_of_getElem? (i := 619) (by decide +kernel)⟩
theorem im_X9_count : Cond.instanceMethod mX9_count.1 ∈ lw_tbl := List.mem_of_getElem? (i := 617) (by decide +kernel)
theorem se_X9_count : Cond.selects (fKC 8) mX9_count.1 mX9_count.1 ∈ lw_tbl := List.mem_of_getElem? (i := 618) (by decide +kernel)
abbrev mL_quarry : fMT := (yL_quarry, cL_quarry, 4, some .int, [(0, 9, 12, 13)])
theorem cc_L_quarry : fCC 3 mL_quarry := ⟨⟨by decide +kernel, by decide +kernel⟩, by decide +kernel, by decide +kernel, by decide +kernel, List.mem_of_getElem? (i := 622) (by decide +kernel)⟩
theorem st_L_quarry : Cond.static mL_quarry.1 ∈ lw_tbl := List.mem_of_getElem? (i := 621) (by decide +kernel)
abbrev mX9_quarry : fMT := (yX9_quarry, cX9_quarry, 2, some .int, [])
theorem cc_X9_quarry : fCC 1 mX9_quarry := ⟨⟨by decide +kernel, by decide +kernel⟩, by decide +kernel, by decide +kernel, by decide +kernel, List.mem_of_getElem? (i := 627) (by decide +kernel)⟩
theorem im_X9_quarry : Cond.instanceMethod mX9_quarry.1 ∈ lw_tbl := List.mem_of_getElem? (i := 625) (by decide +kernel)
theorem se_X9_quarry : Cond.selects (fKC 8) mX9_quarry.1 mX9_quarry.1 ∈ lw_tbl := List.mem_of_getElem? (i := 626) (by decide +kernel)
abbrev mX5_read : fMT := (yX5_read, cX5_read, 3, none, [])
theorem cc_X5_read : fCC 1 mX5_read := ⟨⟨by decide +kernel, by decide +kernel⟩, by decide +kernel, by decide +kernel, by decide +kernel, List.mem_of_getElem? (i := 699) (by decide +kernel)⟩
theorem im_X5_read : Cond.instanceMethod mX5_read.1 ∈ lw_tbl := List.mem_of_getElem? (i := 698) (by decide +kernel)
theorem se_X5_read : Cond.selects (fKC 4) mX5_read.1 mX5_read.1 ∈ lw_tbl := List.mem_of_getElem? (i := 19) (by decide +kernel)
abbrev mX5_skipBlanks : fMT := (yX5_skipBlanks, cX5_skipBlanks, 1, none, [])
theorem cc_X5_skipBlanks : fCC 0 mX5_skipBlanks := ⟨⟨by decide +kernel, by decide +kernel⟩, by decide +kernel, by decide +kernel, by decide +kernel, List.mem_of_getElem? (i := 705) (by decide +kernel)⟩
theorem im_X5_skipBlanks : Cond.instanceMethod mX5_skipBlanks.1 ∈ lw_tbl := List.mem_of_getElem? (i := 704) (by decide +kernel)
theorem se_X5_skipBlanks : Cond.selects (fKC 4) mX5_skipBlanks.1 mX5_skipBlanks.1 ∈ lw_tbl := List.mem_of_getElem? (i := 20) (by decide +kernel)
abbrev mX5_readClause : fMT := (yX5_readClause, cX5_readClause, 3, none, [])
theorem cc_X5_readClause : fCC 0 mX5_readClause := ⟨⟨by decide +kernel, by decide +kernel⟩, by decide +kernel, by decide +kernel, by decide +kernel, List.mem_of_getElem? (i := 709) (by decide +kernel)⟩
theorem im_X5_readClause : Cond.instanceMethod mX5_readClause.1 ∈ lw_tbl := List.mem_of_getElem? (i := 708) (by decide +kernel)
theorem se_X5_readClause : Cond.selects (fKC 4) mX5_readClause.1 mX5_readClause.1 ∈ lw_tbl := List.mem_of_getElem? (i := 21) (by decide +kernel)
abbrev mX5_readWord : fMT := (yX5_readWord, cX5_readWord, 2, some .int, [])
theorem cc_X5_readWord : fCC 0 mX5_readWord := ⟨⟨by decide +kernel, by decide +kernel⟩, by decide +kernel, by decide +kernel, by decide +kernel, List.mem_of_getElem? (i := 713) (by decide +kernel)⟩
theorem im_X5_readWord : Cond.instanceMethod mX5_readWord.1 ∈ lw_tbl := List.mem_of_getElem? (i := 712) (by decide +kernel)
theorem se_X5_readWord : Cond.selects (fKC 4) mX5_readWord.1 mX5_readWord.1 ∈ lw_tbl := List.mem_of_getElem? (i := 22) (by decide +kernel)
abbrev mX5_isWord : fMT := (yX5_isWord, cX5_isWord, 4, some .boolean, [])
theorem cc_X5_isWord : fCC 2 mX5_isWord := ⟨⟨by decide +kernel, by decide +kernel⟩, by decide +kernel, by decide +kernel, by decide +kernel, List.mem_of_getElem? (i := 718) (by decide +kernel)⟩
theorem im_X5_isWord : Cond.instanceMethod mX5_isWord.1 ∈ lw_tbl := List.mem_of_getElem? (i := 717) (by decide +kernel)
theorem se_X5_isWord : Cond.selects (fKC 4) mX5_isWord.1 mX5_isWord.1 ∈ lw_tbl := List.mem_of_getElem? (i := 23) (by decide +kernel)
abbrev mX5_blame : fMT := (yX5_blame, cX5_blame, 3, none, [])
theorem cc_X5_blame : fCC 2 mX5_blame := ⟨⟨by decide +kernel, by decide +kernel⟩, by decide +kernel, by decide +kernel, by decide +kernel, List.mem_of_getElem? (i := 776) (by decide +kernel)⟩
theorem im_X5_blame : Cond.instanceMethod mX5_blame.1 ∈ lw_tbl := List.mem_of_getElem? (i := 775) (by decide +kernel)
theorem se_X5_blame : Cond.selects (fKC 4) mX5_blame.1 mX5_blame.1 ∈ lw_tbl := List.mem_of_getElem? (i := 24) (by decide +kernel)
abbrev mX5_isFull : fMT := (yX5_isFull, cX5_isFull, 2, some .boolean, [])
theorem cc_X5_isFull : fCC 1 mX5_isFull := ⟨⟨by decide +kernel, by decide +kernel⟩, by decide +kernel, by decide +kernel, by decide +kernel, List.mem_of_getElem? (i := 780) (by decide +kernel)⟩
theorem im_X5_isFull : Cond.instanceMethod mX5_isFull.1 ∈ lw_tbl := List.mem_of_getElem? (i := 779) (by decide +kernel)
theorem se_X5_isFull : Cond.selects (fKC 4) mX5_isFull.1 mX5_isFull.1 ∈ lw_tbl := List.mem_of_getElem? (i := 25) (by decide +kernel)
abbrev mX5_readNumbers : fMT := (yX5_readNumbers, cX5_readNumbers, 2, none, [])
theorem cc_X5_readNumbers : fCC 1 mX5_readNumbers := ⟨⟨by decide +kernel, by decide +kernel⟩, by decide +kernel, by decide +kernel, by decide +kernel, List.mem_of_getElem? (i := 784) (by decide +kernel)⟩
theorem im_X5_readNumbers : Cond.instanceMethod mX5_readNumbers.1 ∈ lw_tbl := List.mem_of_getElem? (i := 783) (by decide +kernel)
theorem se_X5_readNumbers : Cond.selects (fKC 4) mX5_readNumbers.1 mX5_readNumbers.1 ∈ lw_tbl := List.mem_of_getElem? (i := 26) (by decide +kernel)
abbrev mX5_readBlock : fMT := (yX5_readBlock, cX5_readBlock, 4, none, [])
theorem cc_X5_readBlock : fCC 0 mX5_readBlock := ⟨⟨by decide +kernel, by decide +kernel⟩, by decide +kernel, by decide +kernel, by decide +kernel, List.mem_of_getElem? (i := 788) (by decide +kernel)⟩
theorem im_X5_readBlock : Cond.instanceMethod mX5_readBlock.1 ∈ lw_tbl := List.mem_of_getElem? (i := 787) (by decide +kernel)
theorem se_X5_readBlock : Cond.selects (fKC 4) mX5_readBlock.1 mX5_readBlock.1 ∈ lw_tbl := List.mem_of_getElem? (i := 27) (by decide +kernel)
abbrev mX5_readNumber : fMT := (yX5_readNumber, cX5_readNumber, 5, some .int, [])
theorem cc_X5_readNumber : fCC 2 mX5_readNumber := ⟨⟨by decide +kernel, by decide +kernel⟩, by decide +kernel, by decide +kernel, by decide +kernel, List.mem_of_getElem? (i := 792) (by decide +kernel)⟩
theorem im_X5_readNumber : Cond.instanceMethod mX5_readNumber.1 ∈ lw_tbl := List.mem_of_getElem? (i := 791) (by decide +kernel)
theorem se_X5_readNumber : Cond.selects (fKC 4) mX5_readNumber.1 mX5_readNumber.1 ∈ lw_tbl := List.mem_of_getElem? (i := 28) (by decide +kernel)
abbrev mX3_addBlock : fMT := (yX3_addBlock, cX3_addBlock, 5, none, [])
theorem cc_X3_addBlock : fCC 3 mX3_addBlock := ⟨⟨by decide +kernel, by decide +kernel⟩, by decide +kernel, by decide +kernel, by decide +kernel, List.mem_of_getElem? (i := 796) (by decide +kernel)⟩
theorem im_X3_addBlock : Cond.instanceMethod mX3_addBlock.1 ∈ lw_tbl := List.mem_of_getElem? (i := 795) (by decide +kernel)
theorem se_X3_addBlock : Cond.selects (fKC 2) mX3_addBlock.1 mX3_addBlock.1 ∈ lw_tbl := List.mem_of_getElem? (i := 29) (by decide +kernel)
abbrev mX5_readSlot : fMT := (yX5_readSlot, cX5_readSlot, 8, none, [])
theorem cc_X5_readSlot : fCC 0 mX5_readSlot := ⟨⟨by decide +kernel, by decide +kernel⟩, by decide +kernel, by decide +kernel, by decide +kernel, List.mem_of_getElem? (i := 800) (by decide +kernel)⟩
theorem im_X5_readSlot : Cond.instanceMethod mX5_readSlot.1 ∈ lw_tbl := List.mem_of_getElem? (i := 799) (by decide +kernel)
theorem se_X5_readSlot : Cond.selects (fKC 4) mX5_readSlot.1 mX5_readSlot.1 ∈ lw_tbl := List.mem_of_getElem? (i := 30) (by decide +kernel)
abbrev mX3_addSlot : fMT := (yX3_addSlot, cX3_addSlot, 7, none, [])
theorem cc_X3_addSlot : fCC 5 mX3_addSlot := ⟨⟨by decide +kernel, by decide +kernel⟩, by decide +kernel, by decide +kernel, by decide +kernel, List.mem_of_getElem? (i := 804) (by decide +kernel)⟩
theorem im_X3_addSlot : Cond.instanceMethod mX3_addSlot.1 ∈ lw_tbl := List.mem_of_getElem? (i := 803) (by decide +kernel)
theorem se_X3_addSlot : Cond.selects (fKC 2) mX3_addSlot.1 mX3_addSlot.1 ∈ lw_tbl := List.mem_of_getElem? (i := 31) (by decide +kernel)
abbrev mX5_readOrder : fMT := (yX5_readOrder, cX5_readOrder, 6, none, [])
theorem cc_X5_readOrder : fCC 0 mX5_readOrder := ⟨⟨by decide +kernel, by decide +kernel⟩, by decide +kernel, by decide +kernel, by decide +kernel, List.mem_of_getElem? (i := 808) (by decide +kernel)⟩
theorem im_X5_readOrder : Cond.instanceMethod mX5_readOrder.1 ∈ lw_tbl := List.mem_of_getElem? (i := 807) (by decide +kernel)
theorem se_X5_readOrder : Cond.selects (fKC 4) mX5_readOrder.1 mX5_readOrder.1 ∈ lw_tbl := List.mem_of_getElem? (i := 32) (by decide +kernel)
abbrev mX3_addOrder : fMT := (yX3_addOrder, cX3_addOrder, 7, none, [])
theorem cc_X3_addOrder : fCC 5 mX3_addOrder := ⟨⟨by decide +kernel, by decide +kernel⟩, by decide +kernel, by decide +kernel, by decide +kernel, List.mem_of_getElem? (i := 812) (by decide +kernel)⟩
theorem im_X3_addOrder : Cond.instanceMethod mX3_addOrder.1 ∈ lw_tbl := List.mem_of_getElem? (i := 811) (by decide +kernel)
theorem se_X3_addOrder : Cond.selects (fKC 2) mX3_addOrder.1 mX3_addOrder.1 ∈ lw_tbl := List.mem_of_getElem? (i := 33) (by decide +kernel)
abbrev mX5_readOdds : fMT := (yX5_readOdds, cX5_readOdds, 4, none, [])
theorem cc_X5_readOdds : fCC 0 mX5_readOdds := ⟨⟨by decide +kernel, by decide +kernel⟩, by decide +kernel, by decide +kernel, by decide +kernel, List.mem_of_getElem? (i := 816) (by decide +kernel)⟩
theorem im_X5_readOdds : Cond.instanceMethod mX5_readOdds.1 ∈ lw_tbl := List.mem_of_getElem? (i := 815) (by decide +kernel)
theorem se_X5_readOdds : Cond.selects (fKC 4) mX5_readOdds.1 mX5_readOdds.1 ∈ lw_tbl := List.mem_of_getElem? (i := 34) (by decide +kernel)
abbrev mX3_addOdds : fMT := (yX3_addOdds, cX3_addOdds, 5, none, [])
theorem cc_X3_addOdds : fCC 3 mX3_addOdds := ⟨⟨by decide +kernel, by decide +kernel⟩, by decide +kernel, by decide +kernel, by decide +kernel, List.mem_of_getElem? (i := 820) (by decide +kernel)⟩
theorem im_X3_addOdds : Cond.instanceMethod mX3_addOdds.1 ∈ lw_tbl := List.mem_of_getElem? (i := 819) (by decide +kernel)
theorem se_X3_addOdds : Cond.selects (fKC 2) mX3_addOdds.1 mX3_addOdds.1 ∈ lw_tbl := List.mem_of_getElem? (i := 35) (by decide +kernel)
abbrev mX5_readEnd : fMT := (yX5_readEnd, cX5_readEnd, 1, none, [])
theorem cc_X5_readEnd : fCC 0 mX5_readEnd := ⟨⟨by decide +kernel, by decide +kernel⟩, by decide +kernel, by decide +kernel, by decide +kernel, List.mem_of_getElem? (i := 824) (by decide +kernel)⟩
theorem im_X5_readEnd : Cond.instanceMethod mX5_readEnd.1 ∈ lw_tbl := List.mem_of_getElem? (i := 823) (by decide +kernel)
theorem se_X5_readEnd : Cond.selects (fKC 4) mX5_readEnd.1 mX5_readEnd.1 ∈ lw_tbl := List.mem_of_getElem? (i := 36) (by decide +kernel)
abbrev mX3_copyFrom : fMT := (yX3_copyFrom, cX3_copyFrom, 2, none, [])
theorem cc_X3_copyFrom : fCC 1 mX3_copyFrom := ⟨⟨by decide +kernel, by decide +kernel⟩, by decide +kernel, by decide +kernel, by decide +kernel, List.mem_of_getElem? (i := 828) (by decide +kernel)⟩
theorem im_X3_copyFrom : Cond.instanceMethod mX3_copyFrom.1 ∈ lw_tbl := List.mem_of_getElem? (i := 827) (by decide +kernel)
theorem se_X3_copyFrom : Cond.selects (fKC 2) mX3_copyFrom.1 mX3_copyFrom.1 ∈ lw_tbl := List.mem_of_getElem? (i := 37) (by decide +kernel)
abbrev mX8_begin : fMT := (yX8_begin, cX8_begin, 3, none, [])
theorem cc_X8_begin : fCC 0 mX8_begin := ⟨⟨by decide +kernel, by decide +kernel⟩, by decide +kernel, by decide +kernel, by decide +kernel, List.mem_of_getElem? (i := 833) (by decide +kernel)⟩
theorem im_X8_begin : Cond.instanceMethod mX8_begin.1 ∈ lw_tbl := List.mem_of_getElem? (i := 832) (by decide +kernel)
theorem se_X8_begin : Cond.selects (fKC 7) mX8_begin.1 mX8_begin.1 ∈ lw_tbl := List.mem_of_getElem? (i := 38) (by decide +kernel)
abbrev mX0_begin : fMT := (yX0_begin, cX0_begin, 1, none, [])
theorem cc_X0_begin : fCC 0 mX0_begin := ⟨⟨by decide +kernel, by decide +kernel⟩, by decide +kernel, by decide +kernel, by decide +kernel, List.mem_of_getElem? (i := 838) (by decide +kernel)⟩
theorem im_X0_begin : Cond.instanceMethod mX0_begin.1 ∈ lw_tbl := List.mem_of_getElem? (i := 837) (by decide +kernel)
theorem se_X0_begin : Cond.selects (fKC 0) mX0_begin.1 mX0_begin.1 ∈ lw_tbl := List.mem_of_getElem? (i := 39) (by decide +kernel)
abbrev mL_told : fMT := (yL_told, cL_told, 4, some .int, [(0, 9, 12, 13)])
theorem cc_L_told : fCC 3 mL_told := ⟨⟨by decide +kernel, by decide +kernel⟩, by decide +kernel, by decide +kernel, by decide +kernel, List.mem_of_getElem? (i := 842) (by decide +kernel)⟩
theorem st_L_told : Cond.static mL_told.1 ∈ lw_tbl := List.mem_of_getElem? (i := 841) (by decide +kernel)
abbrev mX9_told : fMT := (yX9_told, cX9_told, 2, some .int, [])
theorem cc_X9_told : fCC 1 mX9_told := ⟨⟨by decide +kernel, by decide +kernel⟩, by decide +kernel, by decide +kernel, by decide +kernel, List.mem_of_getElem? (i := 846) (by decide +kernel)⟩
theorem im_X9_told : Cond.instanceMethod mX9_told.1 ∈ lw_tbl := List.mem_of_getElem? (i := 844) (by decide +kernel)
theorem se_X9_told : Cond.selects (fKC 8) mX9_told.1 mX9_told.1 ∈ lw_tbl := List.mem_of_getElem? (i := 845) (by decide +kernel)
abbrev mL_slot : fMT := (yL_slot, cL_slot, 5, some .int, [(0, 10, 13, 22), (0, 10, 17, 13)])
theorem cc_L_slot : fCC 4 mL_slot := ⟨⟨by decide +kernel, by decide +kernel⟩, by decide +kernel, by decide +kernel, by decide +kernel, List.mem_of_getElem? (i := 850) (by decide +kernel)⟩
theorem st_L_slot : Cond.static mL_slot.1 ∈ lw_tbl := List.mem_of_getElem? (i := 849) (by decide +kernel)
abbrev mX9_slot : fMT := (yX9_slot, cX9_slot, 3, some .int, [])
theorem cc_X9_slot : fCC 2 mX9_slot := ⟨⟨by decide +kernel, by decide +kernel⟩, by decide +kernel, by decide +kernel, by decide +kernel, List.mem_of_getElem? (i := 855) (by decide +kernel)⟩
theorem im_X9_slot : Cond.instanceMethod mX9_slot.1 ∈ lw_tbl := List.mem_of_getElem? (i := 853) (by decide +kernel)
theorem se_X9_slot : Cond.selects (fKC 8) mX9_slot.1 mX9_slot.1 ∈ lw_tbl := List.mem_of_getElem? (i := 854) (by decide +kernel)
abbrev mX9_checkSlot : fMT := (yX9_checkSlot, cX9_checkSlot, 2, none, [])
theorem cc_X9_checkSlot : fCC 1 mX9_checkSlot := ⟨⟨by decide +kernel, by decide +kernel⟩, by decide +kernel, by decide +kernel, by decide +kernel, List.mem_of_getElem? (i := 859) (by decide +kernel)⟩
theorem im_X9_checkSlot : Cond.instanceMethod mX9_checkSlot.1 ∈ lw_tbl := List.mem_of_getElem? (i := 858) (by decide +kernel)
theorem se_X9_checkSlot : Cond.selects (fKC 8) mX9_checkSlot.1 mX9_checkSlot.1 ∈ lw_tbl := List.mem_of_getElem? (i := 40) (by decide +kernel)
abbrev mX9_checkRange : fMT := (yX9_checkRange, cX9_checkRange, 3, none, [])
theorem cc_X9_checkRange : fCC 3 mX9_checkRange := ⟨⟨by decide +kernel, by decide +kernel⟩, by decide +kernel, by decide +kernel, by decide +kernel, List.mem_of_getElem? (i := 878) (by decide +kernel)⟩
theorem st_X9_checkRange : Cond.static mX9_checkRange.1 ∈ lw_tbl := List.mem_of_getElem? (i := 877) (by decide +kernel)
abbrev mX8_needOf : fMT := (yX8_needOf, cX8_needOf, 2, some .int, [])
theorem cc_X8_needOf : fCC 1 mX8_needOf := ⟨⟨by decide +kernel, by decide +kernel⟩, by decide +kernel, by decide +kernel, by decide +kernel, List.mem_of_getElem? (i := 883) (by decide +kernel)⟩
theorem im_X8_needOf : Cond.instanceMethod mX8_needOf.1 ∈ lw_tbl := List.mem_of_getElem? (i := 882) (by decide +kernel)
theorem se_X8_needOf : Cond.selects (fKC 7) mX8_needOf.1 mX8_needOf.1 ∈ lw_tbl := List.mem_of_getElem? (i := 41) (by decide +kernel)
abbrev mX3_isAcrossGrain : fMT := (yX3_isAcrossGrain, cX3_isAcrossGrain, 3, some .boolean, [])
theorem cc_X3_isAcrossGrain : fCC 1 mX3_isAcrossGrain := ⟨⟨by decide +kernel, by decide +kernel⟩, by decide +kernel, by decide +kernel, by decide +kernel, List.mem_of_getElem? (i := 887) (by decide +kernel)⟩
theorem im_X3_isAcrossGrain : Cond.instanceMethod mX3_isAcrossGrain.1 ∈ lw_tbl := List.mem_of_getElem? (i := 886) (by decide +kernel)
theorem se_X3_isAcrossGrain : Cond.selects (fKC 2) mX3_isAcrossGrain.1 mX3_isAcrossGrain.1 ∈ lw_tbl := List.mem_of_getElem? (i := 42) (by decide +kernel)
abbrev mL_order : fMT := (yL_order, cL_order, 5, some .int, [(0, 10, 13, 22), (0, 10, 17, 13)])
theorem cc_L_order : fCC 4 mL_order := ⟨⟨by decide +kernel, by decide +kernel⟩, by decide +kernel, by decide +kernel, by decide +kernel, List.mem_of_getElem? (i := 892) (by decide +kernel)⟩
theorem st_L_order : Cond.static mL_order.1 ∈ lw_tbl := List.mem_of_getElem? (i := 891) (by decide +kernel)
abbrev mX9_order : fMT := (yX9_order, cX9_order, 3, some .int, [])
theorem cc_X9_order : fCC 2 mX9_order := ⟨⟨by decide +kernel, by decide +kernel⟩, by decide +kernel, by decide +kernel, by decide +kernel, List.mem_of_getElem? (i := 896) (by decide +kernel)⟩
theorem im_X9_order : Cond.instanceMethod mX9_order.1 ∈ lw_tbl := List.mem_of_getElem? (i := 894) (by decide +kernel)
theorem se_X9_order : Cond.selects (fKC 8) mX9_order.1 mX9_order.1 ∈ lw_tbl := List.mem_of_getElem? (i := 895) (by decide +kernel)
abbrev mX9_checkOrder : fMT := (yX9_checkOrder, cX9_checkOrder, 2, none, [])
theorem cc_X9_checkOrder : fCC 1 mX9_checkOrder := ⟨⟨by decide +kernel, by decide +kernel⟩, by decide +kernel, by decide +kernel, by decide +kernel, List.mem_of_getElem? (i := 900) (by decide +kernel)⟩
theorem im_X9_checkOrder : Cond.instanceMethod mX9_checkOrder.1 ∈ lw_tbl := List.mem_of_getElem? (i := 899) (by decide +kernel)
theorem se_X9_checkOrder : Cond.selects (fKC 8) mX9_checkOrder.1 mX9_checkOrder.1 ∈ lw_tbl := List.mem_of_getElem? (i := 43) (by decide +kernel)
abbrev mL_piece : fMT := (yL_piece, cL_piece, 5, some .int, [(0, 10, 13, 30), (0, 10, 17, 13)])
theorem cc_L_piece : fCC 4 mL_piece := ⟨⟨by decide +kernel, by decide +kernel⟩, by decide +kernel, by decide +kernel, by decide +kernel, List.mem_of_getElem? (i := 904) (by decide +kernel)⟩
theorem st_L_piece : Cond.static mL_piece.1 ∈ lw_tbl := List.mem_of_getElem? (i := 903) (by decide +kernel)
abbrev mX9_piece : fMT := (yX9_piece, cX9_piece, 3, some .int, [])
theorem cc_X9_piece : fCC 2 mX9_piece := ⟨⟨by decide +kernel, by decide +kernel⟩, by decide +kernel, by decide +kernel, by decide +kernel, List.mem_of_getElem? (i := 909) (by decide +kernel)⟩
theorem im_X9_piece : Cond.instanceMethod mX9_piece.1 ∈ lw_tbl := List.mem_of_getElem? (i := 907) (by decide +kernel)
theorem se_X9_piece : Cond.selects (fKC 8) mX9_piece.1 mX9_piece.1 ∈ lw_tbl := List.mem_of_getElem? (i := 908) (by decide +kernel)
abbrev mL_odds : fMT := (yL_odds, cL_odds, 5, some .int, [(0, 10, 13, 13)])
theorem cc_L_odds : fCC 4 mL_odds := ⟨⟨by decide +kernel, by decide +kernel⟩, by decide +kernel, by decide +kernel, by decide +kernel, List.mem_of_getElem? (i := 928) (by decide +kernel)⟩
theorem st_L_odds : Cond.static mL_odds.1 ∈ lw_tbl := List.mem_of_getElem? (i := 927) (by decide +kernel)
abbrev mX9_odds : fMT := (yX9_odds, cX9_odds, 5, some .int, [])
theorem cc_X9_odds : fCC 2 mX9_odds := ⟨⟨by decide +kernel, by decide +kernel⟩, by decide +kernel, by decide +kernel, by decide +kernel, List.mem_of_getElem? (i := 932) (by decide +kernel)⟩
theorem im_X9_odds : Cond.instanceMethod mX9_odds.1 ∈ lw_tbl := List.mem_of_getElem? (i := 930) (by decide +kernel)
theorem se_X9_odds : Cond.selects (fKC 8) mX9_odds.1 mX9_odds.1 ∈ lw_tbl := List.mem_of_getElem? (i := 931) (by decide +kernel)
abbrev mL_night : fMT := (yL_night, cL_night, 5, some .int, [(0, 10, 13, 13), (0, 10, 17, 38)])
theorem cc_L_night : fCC 4 mL_night := ⟨⟨by decide +kernel, by decide +kernel⟩, by decide +kernel, by decide +kernel, by decide +kernel, List.mem_of_getElem? (i := 935) (by decide +kernel)⟩
theorem st_L_night : Cond.static mL_night.1 ∈ lw_tbl := List.mem_of_getElem? (i := 934) (by decide +kernel)
abbrev mX9_night : fMT := (yX9_night, cX9_night, 4, some .int, [])
theorem cc_X9_night : fCC 2 mX9_night := ⟨⟨by decide +kernel, by decide +kernel⟩, by decide +kernel, by decide +kernel, by decide +kernel, List.mem_of_getElem? (i := 940) (by decide +kernel)⟩
theorem im_X9_night : Cond.instanceMethod mX9_night.1 ∈ lw_tbl := List.mem_of_getElem? (i := 938) (by decide +kernel)
theorem se_X9_night : Cond.selects (fKC 8) mX9_night.1 mX9_night.1 ∈ lw_tbl := List.mem_of_getElem? (i := 939) (by decide +kernel)
abbrev mX9_checkFill : fMT := (yX9_checkFill, cX9_checkFill, 2, none, [])
theorem cc_X9_checkFill : fCC 1 mX9_checkFill := ⟨⟨by decide +kernel, by decide +kernel⟩, by decide +kernel, by decide +kernel, by decide +kernel, List.mem_of_getElem? (i := 944) (by decide +kernel)⟩
theorem im_X9_checkFill : Cond.instanceMethod mX9_checkFill.1 ∈ lw_tbl := List.mem_of_getElem? (i := 943) (by decide +kernel)
theorem se_X9_checkFill : Cond.selects (fKC 8) mX9_checkFill.1 mX9_checkFill.1 ∈ lw_tbl := List.mem_of_getElem? (i := 44) (by decide +kernel)
abbrev mJ6_bitCount_0f7a4 : fMT := (yJ6_bitCount_0f7a4, cJ6_bitCount_0f7a4, 1, some .int, [])
theorem cc_J6_bitCount_0f7a4 : fCC 1 mJ6_bitCount_0f7a4 := ⟨⟨by decide +kernel, by decide +kernel⟩, by decide +kernel, by decide +kernel, by decide +kernel, List.mem_of_getElem? (i := 948) (by decide +kernel)⟩
theorem st_J6_bitCount_0f7a4 : Cond.static mJ6_bitCount_0f7a4.1 ∈ lw_tbl := List.mem_of_getElem? (i := 947) (by decide +kernel)
abbrev mX9_checkNightLeft : fMT := (yX9_checkNightLeft, cX9_checkNightLeft, 1, none, [])
theorem cc_X9_checkNightLeft : fCC 0 mX9_checkNightLeft := ⟨⟨by decide +kernel, by decide +kernel⟩, by decide +kernel, by decide +kernel, by decide +kernel, List.mem_of_getElem? (i := 956) (by decide +kernel)⟩
theorem im_X9_checkNightLeft : Cond.instanceMethod mX9_checkNightLeft.1 ∈ lw_tbl := List.mem_of_getElem? (i := 955) (by decide +kernel)
theorem se_X9_checkNightLeft : Cond.selects (fKC 8) mX9_checkNightLeft.1 mX9_checkNightLeft.1 ∈ lw_tbl := List.mem_of_getElem? (i := 45) (by decide +kernel)
abbrev mX8_drawCold : fMT := (yX8_drawCold, cX8_drawCold, 1, some .int, [])
theorem cc_X8_drawCold : fCC 0 mX8_drawCold := ⟨⟨by decide +kernel, by decide +kernel⟩, by decide +kernel, by decide +kernel, by decide +kernel, List.mem_of_getElem? (i := 976) (by decide +kernel)⟩
theorem im_X8_drawCold : Cond.instanceMethod mX8_drawCold.1 ∈ lw_tbl := List.mem_of_getElem? (i := 975) (by decide +kernel)
theorem se_X8_drawCold : Cond.selects (fKC 7) mX8_drawCold.1 mX8_drawCold.1 ∈ lw_tbl := List.mem_of_getElem? (i := 46) (by decide +kernel)
abbrev mX3_hasOdds : fMT := (yX3_hasOdds, cX3_hasOdds, 2, some .boolean, [])
theorem cc_X3_hasOdds : fCC 1 mX3_hasOdds := ⟨⟨by decide +kernel, by decide +kernel⟩, by decide +kernel, by decide +kernel, by decide +kernel, List.mem_of_getElem? (i := 980) (by decide +kernel)⟩
theorem im_X3_hasOdds : Cond.instanceMethod mX3_hasOdds.1 ∈ lw_tbl := List.mem_of_getElem? (i := 979) (by decide +kernel)
theorem se_X3_hasOdds : Cond.selects (fKC 2) mX3_hasOdds.1 mX3_hasOdds.1 ∈ lw_tbl := List.mem_of_getElem? (i := 47) (by decide +kernel)
abbrev mX4_eighth : fMT := (yX4_eighth, cX4_eighth, 1, some .int, [])
theorem cc_X4_eighth : fCC 0 mX4_eighth := ⟨⟨by decide +kernel, by decide +kernel⟩, by decide +kernel, by decide +kernel, by decide +kernel, List.mem_of_getElem? (i := 984) (by decide +kernel)⟩
theorem im_X4_eighth : Cond.instanceMethod mX4_eighth.1 ∈ lw_tbl := List.mem_of_getElem? (i := 983) (by decide +kernel)
theorem se_X4_eighth : Cond.selects (fKC 3) mX4_eighth.1 mX4_eighth.1 ∈ lw_tbl := List.mem_of_getElem? (i := 48) (by decide +kernel)
abbrev mX4_step : fMT := (yX4_step, cX4_step, 1, none, [])
theorem cc_X4_step : fCC 0 mX4_step := ⟨⟨by decide +kernel, by decide +kernel⟩, by decide +kernel, by decide +kernel, by decide +kernel, List.mem_of_getElem? (i := 988) (by decide +kernel)⟩
theorem im_X4_step : Cond.instanceMethod mX4_step.1 ∈ lw_tbl := List.mem_of_getElem? (i := 987) (by decide +kernel)
theorem se_X4_step : Cond.selects (fKC 3) mX4_step.1 mX4_step.1 ∈ lw_tbl := List.mem_of_getElem? (i := 49) (by decide +kernel)
abbrev mX3_coldOf : fMT := (yX3_coldOf, cX3_coldOf, 5, some .int, [])
theorem cc_X3_coldOf : fCC 2 mX3_coldOf := ⟨⟨by decide +kernel, by decide +kernel⟩, by decide +kernel, by decide +kernel, by decide +kernel, List.mem_of_getElem? (i := 993) (by decide +kernel)⟩
theorem im_X3_coldOf : Cond.instanceMethod mX3_coldOf.1 ∈ lw_tbl := List.mem_of_getElem? (i := 992) (by decide +kernel)
theorem se_X3_coldOf : Cond.selects (fKC 2) mX3_coldOf.1 mX3_coldOf.1 ∈ lw_tbl := List.mem_of_getElem? (i := 50) (by decide +kernel)
abbrev mX8_goThrough : fMT := (yX8_goThrough, cX8_goThrough, 6, some .int, [])
theorem cc_X8_goThrough : fCC 3 mX8_goThrough := ⟨⟨by decide +kernel, by decide +kernel⟩, by decide +kernel, by decide +kernel, by decide +kernel, List.mem_of_getElem? (i := 997) (by decide +kernel)⟩
theorem im_X8_goThrough : Cond.instanceMethod mX8_goThrough.1 ∈ lw_tbl := List.mem_of_getElem? (i := 996) (by decide +kernel)
theorem se_X8_goThrough : Cond.selects (fKC 7) mX8_goThrough.1 mX8_goThrough.1 ∈ lw_tbl := List.mem_of_getElem? (i := 51) (by decide +kernel)
abbrev mX8_split : fMT := (yX8_split, cX8_split, 8, none, [])
theorem cc_X8_split : fCC 3 mX8_split := ⟨⟨by decide +kernel, by decide +kernel⟩, by decide +kernel, by decide +kernel, by decide +kernel, List.mem_of_getElem? (i := 1002) (by decide +kernel)⟩
theorem im_X8_split : Cond.instanceMethod mX8_split.1 ∈ lw_tbl := List.mem_of_getElem? (i := 1001) (by decide +kernel)
theorem se_X8_split : Cond.selects (fKC 7) mX8_split.1 mX8_split.1 ∈ lw_tbl := List.mem_of_getElem? (i := 52) (by decide +kernel)
abbrev mX4_quarter : fMT := (yX4_quarter, cX4_quarter, 1, some .int, [])
theorem cc_X4_quarter : fCC 0 mX4_quarter := ⟨⟨by decide +kernel, by decide +kernel⟩, by decide +kernel, by decide +kernel, by decide +kernel, List.mem_of_getElem? (i := 1008) (by decide +kernel)⟩
theorem im_X4_quarter : Cond.instanceMethod mX4_quarter.1 ∈ lw_tbl := List.mem_of_getElem? (i := 1007) (by decide +kernel)
abbrev mX7_quarter : fMT := (yX7_quarter, cX7_quarter, 2, some .int, [])
theorem cc_X7_quarter : fCC 0 mX7_quarter := ⟨⟨by decide +kernel, by decide +kernel⟩, by decide +kernel, by decide +kernel, by decide +kernel, List.mem_of_getElem? (i := 1011) (by decide +kernel)⟩
theorem im_X7_quarter : Cond.instanceMethod mX7_quarter.1 ∈ lw_tbl := List.mem_of_getElem? (i := 1010) (by decide +kernel)
abbrev mX8_divide : fMT := (yX8_divide, cX8_divide, 6, none, [])
theorem cc_X8_divide : fCC 3 mX8_divide := ⟨⟨by decide +kernel, by decide +kernel⟩, by decide +kernel, by decide +kernel, by decide +kernel, List.mem_of_getElem? (i := 1015) (by decide +kernel)⟩
theorem im_X8_divide : Cond.instanceMethod mX8_divide.1 ∈ lw_tbl := List.mem_of_getElem? (i := 1014) (by decide +kernel)
theorem se_X8_divide : Cond.selects (fKC 7) mX8_divide.1 mX8_divide.1 ∈ lw_tbl := List.mem_of_getElem? (i := 53) (by decide +kernel)
abbrev mX8_note : fMT := (yX8_note, cX8_note, 5, none, [])
theorem cc_X8_note : fCC 3 mX8_note := ⟨⟨by decide +kernel, by decide +kernel⟩, by decide +kernel, by decide +kernel, by decide +kernel, List.mem_of_getElem? (i := 1019) (by decide +kernel)⟩
theorem im_X8_note : Cond.instanceMethod mX8_note.1 ∈ lw_tbl := List.mem_of_getElem? (i := 1018) (by decide +kernel)
theorem se_X8_note : Cond.selects (fKC 7) mX8_note.1 mX8_note.1 ∈ lw_tbl := List.mem_of_getElem? (i := 54) (by decide +kernel)
abbrev mX8_bruise : fMT := (yX8_bruise, cX8_bruise, 2, none, [])
theorem cc_X8_bruise : fCC 1 mX8_bruise := ⟨⟨by decide +kernel, by decide +kernel⟩, by decide +kernel, by decide +kernel, by decide +kernel, List.mem_of_getElem? (i := 1023) (by decide +kernel)⟩
theorem im_X8_bruise : Cond.instanceMethod mX8_bruise.1 ∈ lw_tbl := List.mem_of_getElem? (i := 1022) (by decide +kernel)
theorem se_X8_bruise : Cond.selects (fKC 7) mX8_bruise.1 mX8_bruise.1 ∈ lw_tbl := List.mem_of_getElem? (i := 55) (by decide +kernel)
abbrev mX8_deliver : fMT := (yX8_deliver, cX8_deliver, 3, none, [])
theorem cc_X8_deliver : fCC 0 mX8_deliver := ⟨⟨by decide +kernel, by decide +kernel⟩, by decide +kernel, by decide +kernel, by decide +kernel, List.mem_of_getElem? (i := 1028) (by decide +kernel)⟩
theorem im_X8_deliver : Cond.instanceMethod mX8_deliver.1 ∈ lw_tbl := List.mem_of_getElem? (i := 1027) (by decide +kernel)
theorem se_X8_deliver : Cond.selects (fKC 7) mX8_deliver.1 mX8_deliver.1 ∈ lw_tbl := List.mem_of_getElem? (i := 56) (by decide +kernel)
abbrev mX8_isOpen : fMT := (yX8_isOpen, cX8_isOpen, 2, some .boolean, [])
theorem cc_X8_isOpen : fCC 1 mX8_isOpen := ⟨⟨by decide +kernel, by decide +kernel⟩, by decide +kernel, by decide +kernel, by decide +kernel, List.mem_of_getElem? (i := 1032) (by decide +kernel)⟩
theorem im_X8_isOpen : Cond.instanceMethod mX8_isOpen.1 ∈ lw_tbl := List.mem_of_getElem? (i := 1031) (by decide +kernel)
theorem se_X8_isOpen : Cond.selects (fKC 7) mX8_isOpen.1 mX8_isOpen.1 ∈ lw_tbl := List.mem_of_getElem? (i := 57) (by decide +kernel)
abbrev mX8_isDone : fMT := (yX8_isDone, cX8_isDone, 2, some .boolean, [])
theorem cc_X8_isDone : fCC 1 mX8_isDone := ⟨⟨by decide +kernel, by decide +kernel⟩, by decide +kernel, by decide +kernel, by decide +kernel, List.mem_of_getElem? (i := 1036) (by decide +kernel)⟩
theorem im_X8_isDone : Cond.instanceMethod mX8_isDone.1 ∈ lw_tbl := List.mem_of_getElem? (i := 1035) (by decide +kernel)
theorem se_X8_isDone : Cond.selects (fKC 7) mX8_isDone.1 mX8_isDone.1 ∈ lw_tbl := List.mem_of_getElem? (i := 58) (by decide +kernel)
abbrev mX8_deliverTo : fMT := (yX8_deliverTo, cX8_deliverTo, 5, some .int, [])
theorem cc_X8_deliverTo : fCC 2 mX8_deliverTo := ⟨⟨by decide +kernel, by decide +kernel⟩, by decide +kernel, by decide +kernel, by decide +kernel, List.mem_of_getElem? (i := 1040) (by decide +kernel)⟩
theorem im_X8_deliverTo : Cond.instanceMethod mX8_deliverTo.1 ∈ lw_tbl := List.mem_of_getElem? (i := 1039) (by decide +kernel)
theorem se_X8_deliverTo : Cond.selects (fKC 7) mX8_deliverTo.1 mX8_deliverTo.1 ∈ lw_tbl := List.mem_of_getElem? (i := 59) (by decide +kernel)
abbrev mX3_isOfSize : fMT := (yX3_isOfSize, cX3_isOfSize, 6, some .boolean, [])
theorem cc_X3_isOfSize : fCC 3 mX3_isOfSize := ⟨⟨by decide +kernel, by decide +kernel⟩, by decide +kernel, by decide +kernel, by decide +kernel, List.mem_of_getElem? (i := 1047) (by decide +kernel)⟩
theorem im_X3_isOfSize : Cond.instanceMethod mX3_isOfSize.1 ∈ lw_tbl := List.mem_of_getElem? (i := 1046) (by decide +kernel)
theorem se_X3_isOfSize : Cond.selects (fKC 2) mX3_isOfSize.1 mX3_isOfSize.1 ∈ lw_tbl := List.mem_of_getElem? (i := 60) (by decide +kernel)
abbrev mL_sums : fMT := (yL_sums, cL_sums, 4, some .int, [(0, 9, 12, 13)])
theorem cc_L_sums : fCC 3 mL_sums := ⟨⟨by decide +kernel, by decide +kernel⟩, by decide +kernel, by decide +kernel, by decide +kernel, List.mem_of_getElem? (i := 1050) (by decide +kernel)⟩
theorem st_L_sums : Cond.static mL_sums.1 ∈ lw_tbl := List.mem_of_getElem? (i := 1049) (by decide +kernel)
abbrev mX9_sums : fMT := (yX9_sums, cX9_sums, 2, some .int, [])
theorem cc_X9_sums : fCC 1 mX9_sums := ⟨⟨by decide +kernel, by decide +kernel⟩, by decide +kernel, by decide +kernel, by decide +kernel, List.mem_of_getElem? (i := 1054) (by decide +kernel)⟩
theorem im_X9_sums : Cond.instanceMethod mX9_sums.1 ∈ lw_tbl := List.mem_of_getElem? (i := 1052) (by decide +kernel)
theorem se_X9_sums : Cond.selects (fKC 8) mX9_sums.1 mX9_sums.1 ∈ lw_tbl := List.mem_of_getElem? (i := 1053) (by decide +kernel)
abbrev mX8_stone : fMT := (yX8_stone, cX8_stone, 4, some .int, [])
theorem cc_X8_stone : fCC 1 mX8_stone := ⟨⟨by decide +kernel, by decide +kernel⟩, by decide +kernel, by decide +kernel, by decide +kernel, List.mem_of_getElem? (i := 1058) (by decide +kernel)⟩
theorem im_X8_stone : Cond.instanceMethod mX8_stone.1 ∈ lw_tbl := List.mem_of_getElem? (i := 1057) (by decide +kernel)
theorem se_X8_stone : Cond.selects (fKC 7) mX8_stone.1 mX8_stone.1 ∈ lw_tbl := List.mem_of_getElem? (i := 61) (by decide +kernel)
abbrev mX8_unwanted : fMT := (yX8_unwanted, cX8_unwanted, 3, some .int, [])
theorem cc_X8_unwanted : fCC 0 mX8_unwanted := ⟨⟨by decide +kernel, by decide +kernel⟩, by decide +kernel, by decide +kernel, by decide +kernel, List.mem_of_getElem? (i := 1062) (by decide +kernel)⟩
theorem im_X8_unwanted : Cond.instanceMethod mX8_unwanted.1 ∈ lw_tbl := List.mem_of_getElem? (i := 1061) (by decide +kernel)
theorem se_X8_unwanted : Cond.selects (fKC 7) mX8_unwanted.1 mX8_unwanted.1 ∈ lw_tbl := List.mem_of_getElem? (i := 62) (by decide +kernel)
abbrev mX3_orderOfSize : fMT := (yX3_orderOfSize, cX3_orderOfSize, 4, some .int, [])
theorem cc_X3_orderOfSize : fCC 2 mX3_orderOfSize := ⟨⟨by decide +kernel, by decide +kernel⟩, by decide +kernel, by decide +kernel, by decide +kernel, List.mem_of_getElem? (i := 1066) (by decide +kernel)⟩
theorem im_X3_orderOfSize : Cond.instanceMethod mX3_orderOfSize.1 ∈ lw_tbl := List.mem_of_getElem? (i := 1065) (by decide +kernel)
theorem se_X3_orderOfSize : Cond.selects (fKC 2) mX3_orderOfSize.1 mX3_orderOfSize.1 ∈ lw_tbl := List.mem_of_getElem? (i := 63) (by decide +kernel)
abbrev mL_trace : fMT := (yL_trace, cL_trace, 5, some .int, [(0, 10, 13, 13)])
theorem cc_L_trace : fCC 4 mL_trace := ⟨⟨by decide +kernel, by decide +kernel⟩, by decide +kernel, by decide +kernel, by decide +kernel, List.mem_of_getElem? (i := 1070) (by decide +kernel)⟩
theorem st_L_trace : Cond.static mL_trace.1 ∈ lw_tbl := List.mem_of_getElem? (i := 1069) (by decide +kernel)
abbrev mX9_trace : fMT := (yX9_trace, cX9_trace, 3, some .int, [])
theorem cc_X9_trace : fCC 2 mX9_trace := ⟨⟨by decide +kernel, by decide +kernel⟩, by decide +kernel, by decide +kernel, by decide +kernel, List.mem_of_getElem? (i := 1074) (by decide +kernel)⟩
theorem im_X9_trace : Cond.instanceMethod mX9_trace.1 ∈ lw_tbl := List.mem_of_getElem? (i := 1072) (by decide +kernel)
theorem se_X9_trace : Cond.selects (fKC 8) mX9_trace.1 mX9_trace.1 ∈ lw_tbl := List.mem_of_getElem? (i := 1073) (by decide +kernel)
abbrev mL_left : fMT := (yL_left, cL_left, 6, some .int, [(0, 12, 15, 22), (0, 12, 19, 13)])
theorem cc_L_left : fCC 5 mL_left := ⟨⟨by decide +kernel, by decide +kernel⟩, by decide +kernel, by decide +kernel, by decide +kernel, List.mem_of_getElem? (i := 1077) (by decide +kernel)⟩
theorem st_L_left : Cond.static mL_left.1 ∈ lw_tbl := List.mem_of_getElem? (i := 1076) (by decide +kernel)
abbrev mX9_left : fMT := (yX9_left, cX9_left, 4, some .int, [])
theorem cc_X9_left : fCC 3 mX9_left := ⟨⟨by decide +kernel, by decide +kernel⟩, by decide +kernel, by decide +kernel, by decide +kernel, List.mem_of_getElem? (i := 1081) (by decide +kernel)⟩
theorem im_X9_left : Cond.instanceMethod mX9_left.1 ∈ lw_tbl := List.mem_of_getElem? (i := 1079) (by decide +kernel)
theorem se_X9_left : Cond.selects (fKC 8) mX9_left.1 mX9_left.1 ∈ lw_tbl := List.mem_of_getElem? (i := 1080) (by decide +kernel)
abbrev mX8_canSplit : fMT := (yX8_canSplit, cX8_canSplit, 3, some .boolean, [])
theorem cc_X8_canSplit : fCC 2 mX8_canSplit := ⟨⟨by decide +kernel, by decide +kernel⟩, by decide +kernel, by decide +kernel, by decide +kernel, List.mem_of_getElem? (i := 1085) (by decide +kernel)⟩
theorem im_X8_canSplit : Cond.instanceMethod mX8_canSplit.1 ∈ lw_tbl := List.mem_of_getElem? (i := 1084) (by decide +kernel)
theorem se_X8_canSplit : Cond.selects (fKC 7) mX8_canSplit.1 mX8_canSplit.1 ∈ lw_tbl := List.mem_of_getElem? (i := 64) (by decide +kernel)
abbrev mX8_partWide : fMT := (yX8_partWide, cX8_partWide, 4, some .int, [])
theorem cc_X8_partWide : fCC 3 mX8_partWide := ⟨⟨by decide +kernel, by decide +kernel⟩, by decide +kernel, by decide +kernel, by decide +kernel, List.mem_of_getElem? (i := 1089) (by decide +kernel)⟩
theorem im_X8_partWide : Cond.instanceMethod mX8_partWide.1 ∈ lw_tbl := List.mem_of_getElem? (i := 1088) (by decide +kernel)
theorem se_X8_partWide : Cond.selects (fKC 7) mX8_partWide.1 mX8_partWide.1 ∈ lw_tbl := List.mem_of_getElem? (i := 65) (by decide +kernel)
abbrev mX8_partSide : fMT := (yX8_partSide, cX8_partSide, 10, some .int, [])
theorem cc_X8_partSide : fCC 4 mX8_partSide := ⟨⟨by decide +kernel, by decide +kernel⟩, by decide +kernel, by decide +kernel, by decide +kernel, List.mem_of_getElem? (i := 1093) (by decide +kernel)⟩
theorem im_X8_partSide : Cond.instanceMethod mX8_partSide.1 ∈ lw_tbl := List.mem_of_getElem? (i := 1092) (by decide +kernel)
theorem se_X8_partSide : Cond.selects (fKC 7) mX8_partSide.1 mX8_partSide.1 ∈ lw_tbl := List.mem_of_getElem? (i := 66) (by decide +kernel)
abbrev mX8_partHigh : fMT := (yX8_partHigh, cX8_partHigh, 4, some .int, [])
theorem cc_X8_partHigh : fCC 3 mX8_partHigh := ⟨⟨by decide +kernel, by decide +kernel⟩, by decide +kernel, by decide +kernel, by decide +kernel, List.mem_of_getElem? (i := 1097) (by decide +kernel)⟩
theorem im_X8_partHigh : Cond.instanceMethod mX8_partHigh.1 ∈ lw_tbl := List.mem_of_getElem? (i := 1096) (by decide +kernel)
theorem se_X8_partHigh : Cond.selects (fKC 7) mX8_partHigh.1 mX8_partHigh.1 ∈ lw_tbl := List.mem_of_getElem? (i := 67) (by decide +kernel)
abbrev mL_fits : fMT := (yL_fits, cL_fits, 6, some .int, [(0, 12, 15, 22), (0, 12, 19, 13)])
theorem cc_L_fits : fCC 5 mL_fits := ⟨⟨by decide +kernel, by decide +kernel⟩, by decide +kernel, by decide +kernel, by decide +kernel, List.mem_of_getElem? (i := 1100) (by decide +kernel)⟩
theorem st_L_fits : Cond.static mL_fits.1 ∈ lw_tbl := List.mem_of_getElem? (i := 1099) (by decide +kernel)
abbrev mX9_fits : fMT := (yX9_fits, cX9_fits, 4, some .int, [])
theorem cc_X9_fits : fCC 3 mX9_fits := ⟨⟨by decide +kernel, by decide +kernel⟩, by decide +kernel, by decide +kernel, by decide +kernel, List.mem_of_getElem? (i := 1104) (by decide +kernel)⟩
theorem im_X9_fits : Cond.instanceMethod mX9_fits.1 ∈ lw_tbl := List.mem_of_getElem? (i := 1102) (by decide +kernel)
theorem se_X9_fits : Cond.selects (fKC 8) mX9_fits.1 mX9_fits.1 ∈ lw_tbl := List.mem_of_getElem? (i := 1103) (by decide +kernel)
abbrev mL_plan : fMT := (yL_plan, cL_plan, 4, some .int, [(0, 9, 12, 13)])
theorem cc_L_plan : fCC 3 mL_plan := ⟨⟨by decide +kernel, by decide +kernel⟩, by decide +kernel, by decide +kernel, by decide +kernel, List.mem_of_getElem? (i := 1108) (by decide +kernel)⟩
theorem st_L_plan : Cond.static mL_plan.1 ∈ lw_tbl := List.mem_of_getElem? (i := 1107) (by decide +kernel)
abbrev mX9_plan : fMT := (yX9_plan, cX9_plan, 2, some .int, [])
theorem cc_X9_plan : fCC 1 mX9_plan := ⟨⟨by decide +kernel, by decide +kernel⟩, by decide +kernel, by decide +kernel, by decide +kernel, List.mem_of_getElem? (i := 1112) (by decide +kernel)⟩
theorem im_X9_plan : Cond.instanceMethod mX9_plan.1 ∈ lw_tbl := List.mem_of_getElem? (i := 1110) (by decide +kernel)
theorem se_X9_plan : Cond.selects (fKC 8) mX9_plan.1 mX9_plan.1 ∈ lw_tbl := List.mem_of_getElem? (i := 1111) (by decide +kernel)
abbrev mX0_addPlan : fMT := (yX0_addPlan, cX0_addPlan, 2, some .int, [])
theorem cc_X0_addPlan : fCC 1 mX0_addPlan := ⟨⟨by decide +kernel, by decide +kernel⟩, by decide +kernel, by decide +kernel, by decide +kernel, List.mem_of_getElem? (i := 1117) (by decide +kernel)⟩
theorem im_X0_addPlan : Cond.instanceMethod mX0_addPlan.1 ∈ lw_tbl := List.mem_of_getElem? (i := 1116) (by decide +kernel)
theorem se_X0_addPlan : Cond.selects (fKC 0) mX0_addPlan.1 mX0_addPlan.1 ∈ lw_tbl := List.mem_of_getElem? (i := 68) (by decide +kernel)
abbrev mL_would : fMT := (yL_would, cL_would, 5, some .int, [(0, 10, 13, 13)])
theorem cc_L_would : fCC 4 mL_would := ⟨⟨by decide +kernel, by decide +kernel⟩, by decide +kernel, by decide +kernel, by decide +kernel, List.mem_of_getElem? (i := 1120) (by decide +kernel)⟩
theorem st_L_would : Cond.static mL_would.1 ∈ lw_tbl := List.mem_of_getElem? (i := 1119) (by decide +kernel)
abbrev mX9_would : fMT := (yX9_would, cX9_would, 3, some .int, [])
theorem cc_X9_would : fCC 2 mX9_would := ⟨⟨by decide +kernel, by decide +kernel⟩, by decide +kernel, by decide +kernel, by decide +kernel, List.mem_of_getElem? (i := 1124) (by decide +kernel)⟩
theorem im_X9_would : Cond.instanceMethod mX9_would.1 ∈ lw_tbl := List.mem_of_getElem? (i := 1122) (by decide +kernel)
theorem se_X9_would : Cond.selects (fKC 8) mX9_would.1 mX9_would.1 ∈ lw_tbl := List.mem_of_getElem? (i := 1123) (by decide +kernel)
abbrev mX9_followPlan : fMT := (yX9_followPlan, cX9_followPlan, 4, none, [])
theorem cc_X9_followPlan : fCC 1 mX9_followPlan := ⟨⟨by decide +kernel, by decide +kernel⟩, by decide +kernel, by decide +kernel, by decide +kernel, List.mem_of_getElem? (i := 1128) (by decide +kernel)⟩
theorem im_X9_followPlan : Cond.instanceMethod mX9_followPlan.1 ∈ lw_tbl := List.mem_of_getElem? (i := 1127) (by decide +kernel)
theorem se_X9_followPlan : Cond.selects (fKC 8) mX9_followPlan.1 mX9_followPlan.1 ∈ lw_tbl := List.mem_of_getElem? (i := 69) (by decide +kernel)
abbrev mX0_planOf : fMT := (yX0_planOf, cX0_planOf, 2, some .int, [])
theorem cc_X0_planOf : fCC 1 mX0_planOf := ⟨⟨by decide +kernel, by decide +kernel⟩, by decide +kernel, by decide +kernel, by decide +kernel, List.mem_of_getElem? (i := 1132) (by decide +kernel)⟩
theorem im_X0_planOf : Cond.instanceMethod mX0_planOf.1 ∈ lw_tbl := List.mem_of_getElem? (i := 1131) (by decide +kernel)
theorem se_X0_planOf : Cond.selects (fKC 0) mX0_planOf.1 mX0_planOf.1 ∈ lw_tbl := List.mem_of_getElem? (i := 70) (by decide +kernel)
abbrev mX8_fillable : fMT := (yX8_fillable, cX8_fillable, 5, some .int, [])
theorem cc_X8_fillable : fCC 1 mX8_fillable := ⟨⟨by decide +kernel, by decide +kernel⟩, by decide +kernel, by decide +kernel, by decide +kernel, List.mem_of_getElem? (i := 1136) (by decide +kernel)⟩
theorem im_X8_fillable : Cond.instanceMethod mX8_fillable.1 ∈ lw_tbl := List.mem_of_getElem? (i := 1135) (by decide +kernel)
theorem se_X8_fillable : Cond.selects (fKC 7) mX8_fillable.1 mX8_fillable.1 ∈ lw_tbl := List.mem_of_getElem? (i := 71) (by decide +kernel)
abbrev mX8_ordersDone : fMT := (yX8_ordersDone, cX8_ordersDone, 3, some .int, [])
theorem cc_X8_ordersDone : fCC 0 mX8_ordersDone := ⟨⟨by decide +kernel, by decide +kernel⟩, by decide +kernel, by decide +kernel, by decide +kernel, List.mem_of_getElem? (i := 1140) (by decide +kernel)⟩
theorem im_X8_ordersDone : Cond.instanceMethod mX8_ordersDone.1 ∈ lw_tbl := List.mem_of_getElem? (i := 1139) (by decide +kernel)
theorem se_X8_ordersDone : Cond.selects (fKC 7) mX8_ordersDone.1 mX8_ordersDone.1 ∈ lw_tbl := List.mem_of_getElem? (i := 72) (by decide +kernel)
abbrev mL_promise : fMT := (yL_promise, cL_promise, 6, some .int, [(0, 12, 15, 22), (0, 12, 19, 13)])
theorem cc_L_promise : fCC 5 mL_promise := ⟨⟨by decide +kernel, by decide +kernel⟩, by decide +kernel, by decide +kernel, by decide +kernel, List.mem_of_getElem? (i := 1143) (by decide +kernel)⟩
theorem st_L_promise : Cond.static mL_promise.1 ∈ lw_tbl := List.mem_of_getElem? (i := 1142) (by decide +kernel)
abbrev mX9_promise : fMT := (yX9_promise, cX9_promise, 6, some .int, [])
theorem cc_X9_promise : fCC 3 mX9_promise := ⟨⟨by decide +kernel, by decide +kernel⟩, by decide +kernel, by decide +kernel, by decide +kernel, List.mem_of_getElem? (i := 1147) (by decide +kernel)⟩
theorem im_X9_promise : Cond.instanceMethod mX9_promise.1 ∈ lw_tbl := List.mem_of_getElem? (i := 1145) (by decide +kernel)
theorem se_X9_promise : Cond.selects (fKC 8) mX9_promise.1 mX9_promise.1 ∈ lw_tbl := List.mem_of_getElem? (i := 1146) (by decide +kernel)
abbrev mL_tonight : fMT := (yL_tonight, cL_tonight, 3, some .int, [(0, 8, 11, 38)])
theorem cc_L_tonight : fCC 2 mL_tonight := ⟨⟨by decide +kernel, by decide +kernel⟩, by decide +kernel, by decide +kernel, by decide +kernel, List.mem_of_getElem? (i := 1151) (by decide +kernel)⟩
theorem st_L_tonight : Cond.static mL_tonight.1 ∈ lw_tbl := List.mem_of_getElem? (i := 1150) (by decide +kernel)
abbrev mX9_tonight : fMT := (yX9_tonight, cX9_tonight, 1, some .int, [])
theorem cc_X9_tonight : fCC 0 mX9_tonight := ⟨⟨by decide +kernel, by decide +kernel⟩, by decide +kernel, by decide +kernel, by decide +kernel, List.mem_of_getElem? (i := 1155) (by decide +kernel)⟩
theorem im_X9_tonight : Cond.instanceMethod mX9_tonight.1 ∈ lw_tbl := List.mem_of_getElem? (i := 1153) (by decide +kernel)
theorem se_X9_tonight : Cond.selects (fKC 8) mX9_tonight.1 mX9_tonight.1 ∈ lw_tbl := List.mem_of_getElem? (i := 1154) (by decide +kernel)
abbrev mX9_foresee : fMT := (yX9_foresee, cX9_foresee, 1, none, [])
theorem cc_X9_foresee : fCC 0 mX9_foresee := ⟨⟨by decide +kernel, by decide +kernel⟩, by decide +kernel, by decide +kernel, by decide +kernel, List.mem_of_getElem? (i := 1159) (by decide +kernel)⟩
theorem im_X9_foresee : Cond.instanceMethod mX9_foresee.1 ∈ lw_tbl := List.mem_of_getElem? (i := 1158) (by decide +kernel)
theorem se_X9_foresee : Cond.selects (fKC 8) mX9_foresee.1 mX9_foresee.1 ∈ lw_tbl := List.mem_of_getElem? (i := 73) (by decide +kernel)
abbrev mX2_mostOf : fMT := (yX2_mostOf, cX2_mostOf, 12, some .long, [])
theorem cc_X2_mostOf : fCC 2 mX2_mostOf := ⟨⟨by decide +kernel, by decide +kernel⟩, by decide +kernel, by decide +kernel, by decide +kernel, List.mem_of_getElem? (i := 1163) (by decide +kernel)⟩
theorem im_X2_mostOf : Cond.instanceMethod mX2_mostOf.1 ∈ lw_tbl := List.mem_of_getElem? (i := 1162) (by decide +kernel)
theorem se_X2_mostOf : Cond.selects (fKC 1) mX2_mostOf.1 mX2_mostOf.1 ∈ lw_tbl := List.mem_of_getElem? (i := 74) (by decide +kernel)
abbrev mX8_mayBePaid : fMT := (yX8_mayBePaid, cX8_mayBePaid, 2, some .boolean, [])
theorem cc_X8_mayBePaid : fCC 0 mX8_mayBePaid := ⟨⟨by decide +kernel, by decide +kernel⟩, by decide +kernel, by decide +kernel, by decide +kernel, List.mem_of_getElem? (i := 1167) (by decide +kernel)⟩
theorem im_X8_mayBePaid : Cond.instanceMethod mX8_mayBePaid.1 ∈ lw_tbl := List.mem_of_getElem? (i := 1166) (by decide +kernel)
theorem se_X8_mayBePaid : Cond.selects (fKC 7) mX8_mayBePaid.1 mX8_mayBePaid.1 ∈ lw_tbl := List.mem_of_getElem? (i := 75) (by decide +kernel)
abbrev mX2_sumOf : fMT := (yX2_sumOf, cX2_sumOf, 14, some .long, [])
theorem cc_X2_sumOf : fCC 3 mX2_sumOf := ⟨⟨by decide +kernel, by decide +kernel⟩, by decide +kernel, by decide +kernel, by decide +kernel, List.mem_of_getElem? (i := 1174) (by decide +kernel)⟩
theorem im_X2_sumOf : Cond.instanceMethod mX2_sumOf.1 ∈ lw_tbl := List.mem_of_getElem? (i := 1173) (by decide +kernel)
theorem se_X2_sumOf : Cond.selects (fKC 1) mX2_sumOf.1 mX2_sumOf.1 ∈ lw_tbl := List.mem_of_getElem? (i := 76) (by decide +kernel)
abbrev mX8_actAlike : fMT := (yX8_actAlike, cX8_actAlike, 5, some .boolean, [])
theorem cc_X8_actAlike : fCC 3 mX8_actAlike := ⟨⟨by decide +kernel, by decide +kernel⟩, by decide +kernel, by decide +kernel, by decide +kernel, List.mem_of_getElem? (i := 1178) (by decide +kernel)⟩
theorem im_X8_actAlike : Cond.instanceMethod mX8_actAlike.1 ∈ lw_tbl := List.mem_of_getElem? (i := 1177) (by decide +kernel)
theorem se_X8_actAlike : Cond.selects (fKC 7) mX8_actAlike.1 mX8_actAlike.1 ∈ lw_tbl := List.mem_of_getElem? (i := 77) (by decide +kernel)
abbrev mX8_effectOf : fMT := (yX8_effectOf, cX8_effectOf, 4, some .int, [])
theorem cc_X8_effectOf : fCC 2 mX8_effectOf := ⟨⟨by decide +kernel, by decide +kernel⟩, by decide +kernel, by decide +kernel, by decide +kernel, List.mem_of_getElem? (i := 1182) (by decide +kernel)⟩
theorem im_X8_effectOf : Cond.instanceMethod mX8_effectOf.1 ∈ lw_tbl := List.mem_of_getElem? (i := 1181) (by decide +kernel)
theorem se_X8_effectOf : Cond.selects (fKC 7) mX8_effectOf.1 mX8_effectOf.1 ∈ lw_tbl := List.mem_of_getElem? (i := 78) (by decide +kernel)
abbrev mX7_begin : fMT := (yX7_begin, cX7_begin, 1, none, [])
theorem cc_X7_begin : fCC 0 mX7_begin := ⟨⟨by decide +kernel, by decide +kernel⟩, by decide +kernel, by decide +kernel, by decide +kernel, List.mem_of_getElem? (i := 1186) (by decide +kernel)⟩
theorem im_X7_begin : Cond.instanceMethod mX7_begin.1 ∈ lw_tbl := List.mem_of_getElem? (i := 1185) (by decide +kernel)
theorem se_X7_begin : Cond.selects (fKC 6) mX7_begin.1 mX7_begin.1 ∈ lw_tbl := List.mem_of_getElem? (i := 79) (by decide +kernel)
abbrev mX7_weight : fMT := (yX7_weight, cX7_weight, 4, some .long, [])
theorem cc_X7_weight : fCC 0 mX7_weight := ⟨⟨by decide +kernel, by decide +kernel⟩, by decide +kernel, by decide +kernel, by decide +kernel, List.mem_of_getElem? (i := 1194) (by decide +kernel)⟩
theorem im_X7_weight : Cond.instanceMethod mX7_weight.1 ∈ lw_tbl := List.mem_of_getElem? (i := 1193) (by decide +kernel)
theorem se_X7_weight : Cond.selects (fKC 6) mX7_weight.1 mX7_weight.1 ∈ lw_tbl := List.mem_of_getElem? (i := 80) (by decide +kernel)
abbrev mX7_advance : fMT := (yX7_advance, cX7_advance, 1, some .boolean, [])
theorem cc_X7_advance : fCC 0 mX7_advance := ⟨⟨by decide +kernel, by decide +kernel⟩, by decide +kernel, by decide +kernel, by decide +kernel, List.mem_of_getElem? (i := 1200) (by decide +kernel)⟩
theorem im_X7_advance : Cond.instanceMethod mX7_advance.1 ∈ lw_tbl := List.mem_of_getElem? (i := 1199) (by decide +kernel)
theorem se_X7_advance : Cond.selects (fKC 6) mX7_advance.1 mX7_advance.1 ∈ lw_tbl := List.mem_of_getElem? (i := 81) (by decide +kernel)
abbrev mL_worth : fMT := (yL_worth, cL_worth, 4, some .int, [(0, 8, 11, 13), (0, 8, 14, 38)])
theorem cc_L_worth : fCC 3 mL_worth := ⟨⟨by decide +kernel, by decide +kernel⟩, by decide +kernel, by decide +kernel, by decide +kernel, List.mem_of_getElem? (i := 1203) (by decide +kernel)⟩
theorem st_L_worth : Cond.static mL_worth.1 ∈ lw_tbl := List.mem_of_getElem? (i := 1202) (by decide +kernel)
abbrev mX9_worth : fMT := (yX9_worth, cX9_worth, 2, some .long, [])
theorem cc_X9_worth : fCC 1 mX9_worth := ⟨⟨by decide +kernel, by decide +kernel⟩, by decide +kernel, by decide +kernel, by decide +kernel, List.mem_of_getElem? (i := 1207) (by decide +kernel)⟩
theorem im_X9_worth : Cond.instanceMethod mX9_worth.1 ∈ lw_tbl := List.mem_of_getElem? (i := 1205) (by decide +kernel)
theorem se_X9_worth : Cond.selects (fKC 8) mX9_worth.1 mX9_worth.1 ∈ lw_tbl := List.mem_of_getElem? (i := 1206) (by decide +kernel)
abbrev mX9_inLeastTerms : fMT := (yX9_inLeastTerms, cX9_inLeastTerms, 12, some .long, [])
theorem cc_X9_inLeastTerms : fCC 3 mX9_inLeastTerms := ⟨⟨by decide +kernel, by decide +kernel⟩, by decide +kernel, by decide +kernel, by decide +kernel, List.mem_of_getElem? (i := 1211) (by decide +kernel)⟩
theorem st_X9_inLeastTerms : Cond.static mX9_inLeastTerms.1 ∈ lw_tbl := List.mem_of_getElem? (i := 1210) (by decide +kernel)
abbrev mL_now : fMT := (yL_now, cL_now, 5, some .int, [(0, 9, 12, 13), (0, 9, 16, 38)])
theorem cc_L_now : fCC 4 mL_now := ⟨⟨by decide +kernel, by decide +kernel⟩, by decide +kernel, by decide +kernel, by decide +kernel, List.mem_of_getElem? (i := 1214) (by decide +kernel)⟩
theorem st_L_now : Cond.static mL_now.1 ∈ lw_tbl := List.mem_of_getElem? (i := 1213) (by decide +kernel)
abbrev mX9_now : fMT := (yX9_now, cX9_now, 3, some .long, [])
theorem cc_X9_now : fCC 2 mX9_now := ⟨⟨by decide +kernel, by decide +kernel⟩, by decide +kernel, by decide +kernel, by decide +kernel, List.mem_of_getElem? (i := 1218) (by decide +kernel)⟩
theorem im_X9_now : Cond.instanceMethod mX9_now.1 ∈ lw_tbl := List.mem_of_getElem? (i := 1216) (by decide +kernel)
theorem se_X9_now : Cond.selects (fKC 8) mX9_now.1 mX9_now.1 ∈ lw_tbl := List.mem_of_getElem? (i := 1217) (by decide +kernel)
abbrev mL_deeper : fMT := (yL_deeper, cL_deeper, 3, some .int, [(0, 8, 11, 38)])
theorem cc_L_deeper : fCC 2 mL_deeper := ⟨⟨by decide +kernel, by decide +kernel⟩, by decide +kernel, by decide +kernel, by decide +kernel, List.mem_of_getElem? (i := 1223) (by decide +kernel)⟩
theorem st_L_deeper : Cond.static mL_deeper.1 ∈ lw_tbl := List.mem_of_getElem? (i := 1222) (by decide +kernel)
abbrev mX9_deeper : fMT := (yX9_deeper, cX9_deeper, 7, some .int, [])
theorem cc_X9_deeper : fCC 0 mX9_deeper := ⟨⟨by decide +kernel, by decide +kernel⟩, by decide +kernel, by decide +kernel, by decide +kernel, List.mem_of_getElem? (i := 1227) (by decide +kernel)⟩
theorem im_X9_deeper : Cond.instanceMethod mX9_deeper.1 ∈ lw_tbl := List.mem_of_getElem? (i := 1225) (by decide +kernel)
theorem se_X9_deeper : Cond.selects (fKC 8) mX9_deeper.1 mX9_deeper.1 ∈ lw_tbl := List.mem_of_getElem? (i := 1226) (by decide +kernel)
abbrev mX9_sumIfDeeper : fMT := (yX9_sumIfDeeper, cX9_sumIfDeeper, 2, some .long, [])
theorem cc_X9_sumIfDeeper : fCC 1 mX9_sumIfDeeper := ⟨⟨by decide +kernel, by decide +kernel⟩, by decide +kernel, by decide +kernel, by decide +kernel, List.mem_of_getElem? (i := 1232) (by decide +kernel)⟩
theorem im_X9_sumIfDeeper : Cond.instanceMethod mX9_sumIfDeeper.1 ∈ lw_tbl := List.mem_of_getElem? (i := 1231) (by decide +kernel)
theorem se_X9_sumIfDeeper : Cond.selects (fKC 8) mX9_sumIfDeeper.1 mX9_sumIfDeeper.1 ∈ lw_tbl := List.mem_of_getElem? (i := 82) (by decide +kernel)
abbrev mL_trust : fMT := (yL_trust, cL_trust, 5, some .int, [(0, 10, 13, 13)])
theorem cc_L_trust : fCC 4 mL_trust := ⟨⟨by decide +kernel, by decide +kernel⟩, by decide +kernel, by decide +kernel, by decide +kernel, List.mem_of_getElem? (i := 1236) (by decide +kernel)⟩
theorem st_L_trust : Cond.static mL_trust.1 ∈ lw_tbl := List.mem_of_getElem? (i := 1235) (by decide +kernel)
abbrev mX9_trust : fMT := (yX9_trust, cX9_trust, 5, some .int, [])
theorem cc_X9_trust : fCC 2 mX9_trust := ⟨⟨by decide +kernel, by decide +kernel⟩, by decide +kernel, by decide +kernel, by decide +kernel, List.mem_of_getElem? (i := 1240) (by decide +kernel)⟩
theorem im_X9_trust : Cond.instanceMethod mX9_trust.1 ∈ lw_tbl := List.mem_of_getElem? (i := 1238) (by decide +kernel)
theorem se_X9_trust : Cond.selects (fKC 8) mX9_trust.1 mX9_trust.1 ∈ lw_tbl := List.mem_of_getElem? (i := 1239) (by decide +kernel)
abbrev mL_face : fMT := (yL_face, cL_face, 4, some .int, [(0, 9, 12, 22)])
theorem cc_L_face : fCC 3 mL_face := ⟨⟨by decide +kernel, by decide +kernel⟩, by decide +kernel, by decide +kernel, by decide +kernel, List.mem_of_getElem? (i := 1243) (by decide +kernel)⟩
theorem st_L_face : Cond.static mL_face.1 ∈ lw_tbl := List.mem_of_getElem? (i := 1242) (by decide +kernel)
abbrev mX9_face : fMT := (yX9_face, cX9_face, 5, some .int, [])
theorem cc_X9_face : fCC 1 mX9_face := ⟨⟨by decide +kernel, by decide +kernel⟩, by decide +kernel, by decide +kernel, by decide +kernel, List.mem_of_getElem? (i := 1247) (by decide +kernel)⟩
theorem im_X9_face : Cond.instanceMethod mX9_face.1 ∈ lw_tbl := List.mem_of_getElem? (i := 1245) (by decide +kernel)
theorem se_X9_face : Cond.selects (fKC 8) mX9_face.1 mX9_face.1 ∈ lw_tbl := List.mem_of_getElem? (i := 1246) (by decide +kernel)
abbrev mX10_init : fMT := (yX10_init, cX10_init, 2, none, [])
theorem cc_X10_init : fCC 0 mX10_init := ⟨⟨by decide +kernel, by decide +kernel⟩, by decide +kernel, by decide +kernel, by decide +kernel, List.mem_of_getElem? (i := 1252) (by decide +kernel)⟩
theorem im_X10_init : Cond.instanceMethod mX10_init.1 ∈ lw_tbl := List.mem_of_getElem? (i := 1251) (by decide +kernel)
abbrev mX10_tellsNothing : fMT := (yX10_tellsNothing, cX10_tellsNothing, 2, none, [])
theorem cc_X10_tellsNothing : fCC 0 mX10_tellsNothing := ⟨⟨by decide +kernel, by decide +kernel⟩, by decide +kernel, by decide +kernel, by decide +kernel, List.mem_of_getElem? (i := 1259) (by decide +kernel)⟩
theorem im_X10_tellsNothing : Cond.instanceMethod mX10_tellsNothing.1 ∈ lw_tbl := List.mem_of_getElem? (i := 1258) (by decide +kernel)
theorem se_X10_tellsNothing : Cond.selects (fKC 9) mX10_tellsNothing.1 mX10_tellsNothing.1 ∈ lw_tbl := List.mem_of_getElem? (i := 83) (by decide +kernel)
abbrev mX10_thrown : fMT := (yX10_thrown, cX10_thrown, 1, some .int, [])
theorem cc_X10_thrown : fCC 0 mX10_thrown := ⟨⟨by decide +kernel, by decide +kernel⟩, by decide +kernel, by decide +kernel, by decide +kernel, List.mem_of_getElem? (i := 1372) (by decide +kernel)⟩
theorem im_X10_thrown : Cond.instanceMethod mX10_thrown.1 ∈ lw_tbl := List.mem_of_getElem? (i := 1370) (by decide +kernel)
theorem se_X10_thrown : Cond.selects (fKC 9) mX10_thrown.1 mX10_thrown.1 ∈ lw_tbl := List.mem_of_getElem? (i := 1371) (by decide +kernel)
abbrev mX10_feed : fMT := (yX10_feed, cX10_feed, 8, some .int, [])
theorem cc_X10_feed : fCC 5 mX10_feed := ⟨⟨by decide +kernel, by decide +kernel⟩, by decide +kernel, by decide +kernel, by decide +kernel, List.mem_of_getElem? (i := 1376) (by decide +kernel)⟩
theorem im_X10_feed : Cond.instanceMethod mX10_feed.1 ∈ lw_tbl := List.mem_of_getElem? (i := 1374) (by decide +kernel)
theorem se_X10_feed : Cond.selects (fKC 9) mX10_feed.1 mX10_feed.1 ∈ lw_tbl := List.mem_of_getElem? (i := 1375) (by decide +kernel)
abbrev mX10_quarry : fMT := (yX10_quarry, cX10_quarry, 4, some .int, [])
theorem cc_X10_quarry : fCC 1 mX10_quarry := ⟨⟨by decide +kernel, by decide +kernel⟩, by decide +kernel, by decide +kernel, by decide +kernel, List.mem_of_getElem? (i := 1380) (by decide +kernel)⟩
theorem im_X10_quarry : Cond.instanceMethod mX10_quarry.1 ∈ lw_tbl := List.mem_of_getElem? (i := 1378) (by decide +kernel)
theorem se_X10_quarry : Cond.selects (fKC 9) mX10_quarry.1 mX10_quarry.1 ∈ lw_tbl := List.mem_of_getElem? (i := 1379) (by decide +kernel)
abbrev mX10_in : fMT := (yX10_in, cX10_in, 3, some .boolean, [])
theorem cc_X10_in : fCC 3 mX10_in := ⟨⟨by decide +kernel, by decide +kernel⟩, by decide +kernel, by decide +kernel, by decide +kernel, List.mem_of_getElem? (i := 1383) (by decide +kernel)⟩
theorem st_X10_in : Cond.static mX10_in.1 ∈ lw_tbl := List.mem_of_getElem? (i := 1382) (by decide +kernel)
abbrev mX10_bad : fMT := (yX10_bad, cX10_bad, 3, some .boolean, [])
theorem cc_X10_bad : fCC 2 mX10_bad := ⟨⟨by decide +kernel, by decide +kernel⟩, by decide +kernel, by decide +kernel, by decide +kernel, List.mem_of_getElem? (i := 1387) (by decide +kernel)⟩
theorem im_X10_bad : Cond.instanceMethod mX10_bad.1 ∈ lw_tbl := List.mem_of_getElem? (i := 1386) (by decide +kernel)
theorem se_X10_bad : Cond.selects (fKC 9) mX10_bad.1 mX10_bad.1 ∈ lw_tbl := List.mem_of_getElem? (i := 84) (by decide +kernel)
abbrev mX10_blanks : fMT := (yX10_blanks, cX10_blanks, 1, none, [])
theorem cc_X10_blanks : fCC 0 mX10_blanks := ⟨⟨by decide +kernel, by decide +kernel⟩, by decide +kernel, by decide +kernel, by decide +kernel, List.mem_of_getElem? (i := 1391) (by decide +kernel)⟩
theorem im_X10_blanks : Cond.instanceMethod mX10_blanks.1 ∈ lw_tbl := List.mem_of_getElem? (i := 1390) (by decide +kernel)
theorem se_X10_blanks : Cond.selects (fKC 9) mX10_blanks.1 mX10_blanks.1 ∈ lw_tbl := List.mem_of_getElem? (i := 85) (by decide +kernel)
abbrev mX10_byteAt : fMT := (yX10_byteAt, cX10_byteAt, 2, some .int, [])
theorem cc_X10_byteAt : fCC 1 mX10_byteAt := ⟨⟨by decide +kernel, by decide +kernel⟩, by decide +kernel, by decide +kernel, by decide +kernel, List.mem_of_getElem? (i := 1395) (by decide +kernel)⟩
theorem im_X10_byteAt : Cond.instanceMethod mX10_byteAt.1 ∈ lw_tbl := List.mem_of_getElem? (i := 1394) (by decide +kernel)
theorem se_X10_byteAt : Cond.selects (fKC 9) mX10_byteAt.1 mX10_byteAt.1 ∈ lw_tbl := List.mem_of_getElem? (i := 86) (by decide +kernel)
abbrev mX10_clause : fMT := (yX10_clause, cX10_clause, 3, none, [])
theorem cc_X10_clause : fCC 0 mX10_clause := ⟨⟨by decide +kernel, by decide +kernel⟩, by decide +kernel, by decide +kernel, by decide +kernel, List.mem_of_getElem? (i := 1399) (by decide +kernel)⟩
theorem im_X10_clause : Cond.instanceMethod mX10_clause.1 ∈ lw_tbl := List.mem_of_getElem? (i := 1398) (by decide +kernel)
theorem se_X10_clause : Cond.selects (fKC 9) mX10_clause.1 mX10_clause.1 ∈ lw_tbl := List.mem_of_getElem? (i := 87) (by decide +kernel)
abbrev mX10_kindHere : fMT := (yX10_kindHere, cX10_kindHere, 1, some .int, [])
theorem cc_X10_kindHere : fCC 0 mX10_kindHere := ⟨⟨by decide +kernel, by decide +kernel⟩, by decide +kernel, by decide +kernel, by decide +kernel, List.mem_of_getElem? (i := 1403) (by decide +kernel)⟩
theorem im_X10_kindHere : Cond.instanceMethod mX10_kindHere.1 ∈ lw_tbl := List.mem_of_getElem? (i := 1402) (by decide +kernel)
theorem se_X10_kindHere : Cond.selects (fKC 9) mX10_kindHere.1 mX10_kindHere.1 ∈ lw_tbl := List.mem_of_getElem? (i := 88) (by decide +kernel)
abbrev mX10_six : fMT := (yX10_six, cX10_six, 7, some .int, [])
theorem cc_X10_six : fCC 6 mX10_six := ⟨⟨by decide +kernel, by decide +kernel⟩, by decide +kernel, by decide +kernel, by decide +kernel, List.mem_of_getElem? (i := 1406) (by decide +kernel)⟩
theorem st_X10_six : Cond.static mX10_six.1 ∈ lw_tbl := List.mem_of_getElem? (i := 1405) (by decide +kernel)
abbrev mX10_isWord : fMT := (yX10_isWord, cX10_isWord, 2, some .boolean, [])
theorem cc_X10_isWord : fCC 1 mX10_isWord := ⟨⟨by decide +kernel, by decide +kernel⟩, by decide +kernel, by decide +kernel, by decide +kernel, List.mem_of_getElem? (i := 1410) (by decide +kernel)⟩
theorem im_X10_isWord : Cond.instanceMethod mX10_isWord.1 ∈ lw_tbl := List.mem_of_getElem? (i := 1409) (by decide +kernel)
theorem se_X10_isWord : Cond.selects (fKC 9) mX10_isWord.1 mX10_isWord.1 ∈ lw_tbl := List.mem_of_getElem? (i := 89) (by decide +kernel)
abbrev mX10_wordHere : fMT := (yX10_wordHere, cX10_wordHere, 3, some .int, [])
theorem cc_X10_wordHere : fCC 0 mX10_wordHere := ⟨⟨by decide +kernel, by decide +kernel⟩, by decide +kernel, by decide +kernel, by decide +kernel, List.mem_of_getElem? (i := 1414) (by decide +kernel)⟩
theorem im_X10_wordHere : Cond.instanceMethod mX10_wordHere.1 ∈ lw_tbl := List.mem_of_getElem? (i := 1413) (by decide +kernel)
theorem se_X10_wordHere : Cond.selects (fKC 9) mX10_wordHere.1 mX10_wordHere.1 ∈ lw_tbl := List.mem_of_getElem? (i := 90) (by decide +kernel)
abbrev mX10_wrong : fMT := (yX10_wrong, cX10_wrong, 3, none, [])
theorem cc_X10_wrong : fCC 2 mX10_wrong := ⟨⟨by decide +kernel, by decide +kernel⟩, by decide +kernel, by decide +kernel, by decide +kernel, List.mem_of_getElem? (i := 1418) (by decide +kernel)⟩
theorem im_X10_wrong : Cond.instanceMethod mX10_wrong.1 ∈ lw_tbl := List.mem_of_getElem? (i := 1417) (by decide +kernel)
theorem se_X10_wrong : Cond.selects (fKC 9) mX10_wrong.1 mX10_wrong.1 ∈ lw_tbl := List.mem_of_getElem? (i := 91) (by decide +kernel)
abbrev mX10_mostOf : fMT := (yX10_mostOf, cX10_mostOf, 1, some .int, [])
theorem cc_X10_mostOf : fCC 1 mX10_mostOf := ⟨⟨by decide +kernel, by decide +kernel⟩, by decide +kernel, by decide +kernel, by decide +kernel, List.mem_of_getElem? (i := 1421) (by decide +kernel)⟩
theorem st_X10_mostOf : Cond.static mX10_mostOf.1 ∈ lw_tbl := List.mem_of_getElem? (i := 1420) (by decide +kernel)
abbrev mX10_number : fMT := (yX10_number, cX10_number, 5, some .int, [])
theorem cc_X10_number : fCC 2 mX10_number := ⟨⟨by decide +kernel, by decide +kernel⟩, by decide +kernel, by decide +kernel, by decide +kernel, List.mem_of_getElem? (i := 1425) (by decide +kernel)⟩
theorem im_X10_number : Cond.instanceMethod mX10_number.1 ∈ lw_tbl := List.mem_of_getElem? (i := 1424) (by decide +kernel)
theorem se_X10_number : Cond.selects (fKC 9) mX10_number.1 mX10_number.1 ∈ lw_tbl := List.mem_of_getElem? (i := 92) (by decide +kernel)
abbrev mX10_isDigit : fMT := (yX10_isDigit, cX10_isDigit, 1, some .boolean, [])
theorem cc_X10_isDigit : fCC 1 mX10_isDigit := ⟨⟨by decide +kernel, by decide +kernel⟩, by decide +kernel, by decide +kernel, by decide +kernel, List.mem_of_getElem? (i := 1428) (by decide +kernel)⟩
theorem st_X10_isDigit : Cond.static mX10_isDigit.1 ∈ lw_tbl := List.mem_of_getElem? (i := 1427) (by decide +kernel)
abbrev mX10_readsSlot : fMT := (yX10_readsSlot, cX10_readsSlot, 3, none, [])
theorem cc_X10_readsSlot : fCC 1 mX10_readsSlot := ⟨⟨by decide +kernel, by decide +kernel⟩, by decide +kernel, by decide +kernel, by decide +kernel, List.mem_of_getElem? (i := 1433) (by decide +kernel)⟩
theorem im_X10_readsSlot : Cond.instanceMethod mX10_readsSlot.1 ∈ lw_tbl := List.mem_of_getElem? (i := 1432) (by decide +kernel)
theorem se_X10_readsSlot : Cond.selects (fKC 9) mX10_readsSlot.1 mX10_readsSlot.1 ∈ lw_tbl := List.mem_of_getElem? (i := 93) (by decide +kernel)
abbrev mX10_readsOdds : fMT := (yX10_readsOdds, cX10_readsOdds, 4, none, [])
theorem cc_X10_readsOdds : fCC 1 mX10_readsOdds := ⟨⟨by decide +kernel, by decide +kernel⟩, by decide +kernel, by decide +kernel, by decide +kernel, List.mem_of_getElem? (i := 1437) (by decide +kernel)⟩
theorem im_X10_readsOdds : Cond.instanceMethod mX10_readsOdds.1 ∈ lw_tbl := List.mem_of_getElem? (i := 1436) (by decide +kernel)
theorem se_X10_readsOdds : Cond.selects (fKC 9) mX10_readsOdds.1 mX10_readsOdds.1 ∈ lw_tbl := List.mem_of_getElem? (i := 94) (by decide +kernel)
abbrev mX10_closes : fMT := (yX10_closes, cX10_closes, 1, none, [])
theorem cc_X10_closes : fCC 0 mX10_closes := ⟨⟨by decide +kernel, by decide +kernel⟩, by decide +kernel, by decide +kernel, by decide +kernel, List.mem_of_getElem? (i := 1441) (by decide +kernel)⟩
theorem im_X10_closes : Cond.instanceMethod mX10_closes.1 ∈ lw_tbl := List.mem_of_getElem? (i := 1440) (by decide +kernel)
theorem se_X10_closes : Cond.selects (fKC 9) mX10_closes.1 mX10_closes.1 ∈ lw_tbl := List.mem_of_getElem? (i := 95) (by decide +kernel)
abbrev mX10_lays : fMT := (yX10_lays, cX10_lays, 7, none, [])
theorem cc_X10_lays : fCC 6 mX10_lays := ⟨⟨by decide +kernel, by decide +kernel⟩, by decide +kernel, by decide +kernel, by decide +kernel, List.mem_of_getElem? (i := 1445) (by decide +kernel)⟩
theorem im_X10_lays : Cond.instanceMethod mX10_lays.1 ∈ lw_tbl := List.mem_of_getElem? (i := 1444) (by decide +kernel)
theorem se_X10_lays : Cond.selects (fKC 9) mX10_lays.1 mX10_lays.1 ∈ lw_tbl := List.mem_of_getElem? (i := 96) (by decide +kernel)
abbrev mX10_fault : fMT := (yX10_fault, cX10_fault, 1, some .int, [])
theorem cc_X10_fault : fCC 0 mX10_fault := ⟨⟨by decide +kernel, by decide +kernel⟩, by decide +kernel, by decide +kernel, by decide +kernel, List.mem_of_getElem? (i := 1449) (by decide +kernel)⟩
theorem im_X10_fault : Cond.instanceMethod mX10_fault.1 ∈ lw_tbl := List.mem_of_getElem? (i := 1447) (by decide +kernel)
theorem se_X10_fault : Cond.selects (fKC 9) mX10_fault.1 mX10_fault.1 ∈ lw_tbl := List.mem_of_getElem? (i := 1448) (by decide +kernel)
abbrev mX10_told : fMT := (yX10_told, cX10_told, 2, some .int, [])
theorem cc_X10_told : fCC 1 mX10_told := ⟨⟨by decide +kernel, by decide +kernel⟩, by decide +kernel, by decide +kernel, by decide +kernel, List.mem_of_getElem? (i := 1453) (by decide +kernel)⟩
theorem im_X10_told : Cond.instanceMethod mX10_told.1 ∈ lw_tbl := List.mem_of_getElem? (i := 1451) (by decide +kernel)
theorem se_X10_told : Cond.selects (fKC 9) mX10_told.1 mX10_told.1 ∈ lw_tbl := List.mem_of_getElem? (i := 1452) (by decide +kernel)
abbrev mX10_slot : fMT := (yX10_slot, cX10_slot, 3, some .int, [])
theorem cc_X10_slot : fCC 2 mX10_slot := ⟨⟨by decide +kernel, by decide +kernel⟩, by decide +kernel, by decide +kernel, by decide +kernel, List.mem_of_getElem? (i := 1457) (by decide +kernel)⟩
theorem im_X10_slot : Cond.instanceMethod mX10_slot.1 ∈ lw_tbl := List.mem_of_getElem? (i := 1455) (by decide +kernel)
theorem se_X10_slot : Cond.selects (fKC 9) mX10_slot.1 mX10_slot.1 ∈ lw_tbl := List.mem_of_getElem? (i := 1456) (by decide +kernel)
abbrev mX10_isSlot : fMT := (yX10_isSlot, cX10_isSlot, 2, some .boolean, [])
theorem cc_X10_isSlot : fCC 1 mX10_isSlot := ⟨⟨by decide +kernel, by decide +kernel⟩, by decide +kernel, by decide +kernel, by decide +kernel, List.mem_of_getElem? (i := 1461) (by decide +kernel)⟩
theorem im_X10_isSlot : Cond.instanceMethod mX10_isSlot.1 ∈ lw_tbl := List.mem_of_getElem? (i := 1460) (by decide +kernel)
theorem se_X10_isSlot : Cond.selects (fKC 9) mX10_isSlot.1 mX10_isSlot.1 ∈ lw_tbl := List.mem_of_getElem? (i := 97) (by decide +kernel)
abbrev mX10_needOf : fMT := (yX10_needOf, cX10_needOf, 2, some .int, [])
theorem cc_X10_needOf : fCC 1 mX10_needOf := ⟨⟨by decide +kernel, by decide +kernel⟩, by decide +kernel, by decide +kernel, by decide +kernel, List.mem_of_getElem? (i := 1465) (by decide +kernel)⟩
theorem im_X10_needOf : Cond.instanceMethod mX10_needOf.1 ∈ lw_tbl := List.mem_of_getElem? (i := 1464) (by decide +kernel)
theorem se_X10_needOf : Cond.selects (fKC 9) mX10_needOf.1 mX10_needOf.1 ∈ lw_tbl := List.mem_of_getElem? (i := 98) (by decide +kernel)
abbrev mX10_isAcross : fMT := (yX10_isAcross, cX10_isAcross, 2, some .boolean, [])
theorem cc_X10_isAcross : fCC 1 mX10_isAcross := ⟨⟨by decide +kernel, by decide +kernel⟩, by decide +kernel, by decide +kernel, by decide +kernel, List.mem_of_getElem? (i := 1469) (by decide +kernel)⟩
theorem im_X10_isAcross : Cond.instanceMethod mX10_isAcross.1 ∈ lw_tbl := List.mem_of_getElem? (i := 1468) (by decide +kernel)
theorem se_X10_isAcross : Cond.selects (fKC 9) mX10_isAcross.1 mX10_isAcross.1 ∈ lw_tbl := List.mem_of_getElem? (i := 99) (by decide +kernel)
abbrev mX10_isAlive : fMT := (yX10_isAlive, cX10_isAlive, 3, some .boolean, [])
theorem cc_X10_isAlive : fCC 1 mX10_isAlive := ⟨⟨by decide +kernel, by decide +kernel⟩, by decide +kernel, by decide +kernel, by decide +kernel, List.mem_of_getElem? (i := 1473) (by decide +kernel)⟩
theorem im_X10_isAlive : Cond.instanceMethod mX10_isAlive.1 ∈ lw_tbl := List.mem_of_getElem? (i := 1472) (by decide +kernel)
theorem se_X10_isAlive : Cond.selects (fKC 9) mX10_isAlive.1 mX10_isAlive.1 ∈ lw_tbl := List.mem_of_getElem? (i := 100) (by decide +kernel)
abbrev mX10_pieceOf : fMT := (yX10_pieceOf, cX10_pieceOf, 5, some .int, [])
theorem cc_X10_pieceOf : fCC 1 mX10_pieceOf := ⟨⟨by decide +kernel, by decide +kernel⟩, by decide +kernel, by decide +kernel, by decide +kernel, List.mem_of_getElem? (i := 1477) (by decide +kernel)⟩
theorem im_X10_pieceOf : Cond.instanceMethod mX10_pieceOf.1 ∈ lw_tbl := List.mem_of_getElem? (i := 1476) (by decide +kernel)
theorem se_X10_pieceOf : Cond.selects (fKC 9) mX10_pieceOf.1 mX10_pieceOf.1 ∈ lw_tbl := List.mem_of_getElem? (i := 101) (by decide +kernel)
abbrev mX10_isInside : fMT := (yX10_isInside, cX10_isInside, 5, some .boolean, [])
theorem cc_X10_isInside : fCC 3 mX10_isInside := ⟨⟨by decide +kernel, by decide +kernel⟩, by decide +kernel, by decide +kernel, by decide +kernel, List.mem_of_getElem? (i := 1481) (by decide +kernel)⟩
theorem im_X10_isInside : Cond.instanceMethod mX10_isInside.1 ∈ lw_tbl := List.mem_of_getElem? (i := 1480) (by decide +kernel)
theorem se_X10_isInside : Cond.selects (fKC 9) mX10_isInside.1 mX10_isInside.1 ∈ lw_tbl := List.mem_of_getElem? (i := 102) (by decide +kernel)
abbrev mX10_order : fMT := (yX10_order, cX10_order, 3, some .int, [])
theorem cc_X10_order : fCC 2 mX10_order := ⟨⟨by decide +kernel, by decide +kernel⟩, by decide +kernel, by decide +kernel, by decide +kernel, List.mem_of_getElem? (i := 1485) (by decide +kernel)⟩
theorem im_X10_order : Cond.instanceMethod mX10_order.1 ∈ lw_tbl := List.mem_of_getElem? (i := 1483) (by decide +kernel)
theorem se_X10_order : Cond.selects (fKC 9) mX10_order.1 mX10_order.1 ∈ lw_tbl := List.mem_of_getElem? (i := 1484) (by decide +kernel)
abbrev mX10_isOrder : fMT := (yX10_isOrder, cX10_isOrder, 2, some .boolean, [])
theorem cc_X10_isOrder : fCC 1 mX10_isOrder := ⟨⟨by decide +kernel, by decide +kernel⟩, by decide +kernel, by decide +kernel, by decide +kernel, List.mem_of_getElem? (i := 1489) (by decide +kernel)⟩
theorem im_X10_isOrder : Cond.instanceMethod mX10_isOrder.1 ∈ lw_tbl := List.mem_of_getElem? (i := 1488) (by decide +kernel)
theorem se_X10_isOrder : Cond.selects (fKC 9) mX10_isOrder.1 mX10_isOrder.1 ∈ lw_tbl := List.mem_of_getElem? (i := 103) (by decide +kernel)
abbrev mX10_piece : fMT := (yX10_piece, cX10_piece, 3, some .int, [])
theorem cc_X10_piece : fCC 2 mX10_piece := ⟨⟨by decide +kernel, by decide +kernel⟩, by decide +kernel, by decide +kernel, by decide +kernel, List.mem_of_getElem? (i := 1493) (by decide +kernel)⟩
theorem im_X10_piece : Cond.instanceMethod mX10_piece.1 ∈ lw_tbl := List.mem_of_getElem? (i := 1491) (by decide +kernel)
theorem se_X10_piece : Cond.selects (fKC 9) mX10_piece.1 mX10_piece.1 ∈ lw_tbl := List.mem_of_getElem? (i := 1492) (by decide +kernel)
abbrev mX10_odds : fMT := (yX10_odds, cX10_odds, 5, some .int, [])
theorem cc_X10_odds : fCC 2 mX10_odds := ⟨⟨by decide +kernel, by decide +kernel⟩, by decide +kernel, by decide +kernel, by decide +kernel, List.mem_of_getElem? (i := 1497) (by decide +kernel)⟩
theorem im_X10_odds : Cond.instanceMethod mX10_odds.1 ∈ lw_tbl := List.mem_of_getElem? (i := 1495) (by decide +kernel)
theorem se_X10_odds : Cond.selects (fKC 9) mX10_odds.1 mX10_odds.1 ∈ lw_tbl := List.mem_of_getElem? (i := 1496) (by decide +kernel)
abbrev mX10_seed : fMT := (yX10_seed, cX10_seed, 3, some .int, [])
theorem cc_X10_seed : fCC 1 mX10_seed := ⟨⟨by decide +kernel, by decide +kernel⟩, by decide +kernel, by decide +kernel, by decide +kernel, List.mem_of_getElem? (i := 1501) (by decide +kernel)⟩
theorem im_X10_seed : Cond.instanceMethod mX10_seed.1 ∈ lw_tbl := List.mem_of_getElem? (i := 1499) (by decide +kernel)
theorem se_X10_seed : Cond.selects (fKC 9) mX10_seed.1 mX10_seed.1 ∈ lw_tbl := List.mem_of_getElem? (i := 1500) (by decide +kernel)
abbrev mX10_night : fMT := (yX10_night, cX10_night, 5, some .int, [])
theorem cc_X10_night : fCC 2 mX10_night := ⟨⟨by decide +kernel, by decide +kernel⟩, by decide +kernel, by decide +kernel, by decide +kernel, List.mem_of_getElem? (i := 1505) (by decide +kernel)⟩
theorem im_X10_night : Cond.instanceMethod mX10_night.1 ∈ lw_tbl := List.mem_of_getElem? (i := 1503) (by decide +kernel)
theorem se_X10_night : Cond.selects (fKC 9) mX10_night.1 mX10_night.1 ∈ lw_tbl := List.mem_of_getElem? (i := 1504) (by decide +kernel)
abbrev mX10_isFill : fMT := (yX10_isFill, cX10_isFill, 2, some .boolean, [])
theorem cc_X10_isFill : fCC 1 mX10_isFill := ⟨⟨by decide +kernel, by decide +kernel⟩, by decide +kernel, by decide +kernel, by decide +kernel, List.mem_of_getElem? (i := 1509) (by decide +kernel)⟩
theorem im_X10_isFill : Cond.instanceMethod mX10_isFill.1 ∈ lw_tbl := List.mem_of_getElem? (i := 1508) (by decide +kernel)
theorem se_X10_isFill : Cond.selects (fKC 9) mX10_isFill.1 mX10_isFill.1 ∈ lw_tbl := List.mem_of_getElem? (i := 104) (by decide +kernel)
abbrev mX10_alive : fMT := (yX10_alive, cX10_alive, 3, some .int, [])
theorem cc_X10_alive : fCC 0 mX10_alive := ⟨⟨by decide +kernel, by decide +kernel⟩, by decide +kernel, by decide +kernel, by decide +kernel, List.mem_of_getElem? (i := 1513) (by decide +kernel)⟩
theorem im_X10_alive : Cond.instanceMethod mX10_alive.1 ∈ lw_tbl := List.mem_of_getElem? (i := 1512) (by decide +kernel)
theorem se_X10_alive : Cond.selects (fKC 9) mX10_alive.1 mX10_alive.1 ∈ lw_tbl := List.mem_of_getElem? (i := 105) (by decide +kernel)
abbrev mX10_ones : fMT := (yX10_ones, cX10_ones, 3, some .int, [])
theorem cc_X10_ones : fCC 1 mX10_ones := ⟨⟨by decide +kernel, by decide +kernel⟩, by decide +kernel, by decide +kernel, by decide +kernel, List.mem_of_getElem? (i := 1516) (by decide +kernel)⟩
theorem st_X10_ones : Cond.static mX10_ones.1 ∈ lw_tbl := List.mem_of_getElem? (i := 1515) (by decide +kernel)
abbrev mX10_isOver : fMT := (yX10_isOver, cX10_isOver, 1, some .boolean, [])
theorem cc_X10_isOver : fCC 0 mX10_isOver := ⟨⟨by decide +kernel, by decide +kernel⟩, by decide +kernel, by decide +kernel, by decide +kernel, List.mem_of_getElem? (i := 1520) (by decide +kernel)⟩
theorem im_X10_isOver : Cond.instanceMethod mX10_isOver.1 ∈ lw_tbl := List.mem_of_getElem? (i := 1519) (by decide +kernel)
theorem se_X10_isOver : Cond.selects (fKC 9) mX10_isOver.1 mX10_isOver.1 ∈ lw_tbl := List.mem_of_getElem? (i := 106) (by decide +kernel)
abbrev mX10_drawn : fMT := (yX10_drawn, cX10_drawn, 5, some .int, [])
theorem cc_X10_drawn : fCC 0 mX10_drawn := ⟨⟨by decide +kernel, by decide +kernel⟩, by decide +kernel, by decide +kernel, by decide +kernel, List.mem_of_getElem? (i := 1524) (by decide +kernel)⟩
theorem im_X10_drawn : Cond.instanceMethod mX10_drawn.1 ∈ lw_tbl := List.mem_of_getElem? (i := 1523) (by decide +kernel)
theorem se_X10_drawn : Cond.selects (fKC 9) mX10_drawn.1 mX10_drawn.1 ∈ lw_tbl := List.mem_of_getElem? (i := 107) (by decide +kernel)
abbrev mX10_draws : fMT := (yX10_draws, cX10_draws, 2, some .int, [])
theorem cc_X10_draws : fCC 1 mX10_draws := ⟨⟨by decide +kernel, by decide +kernel⟩, by decide +kernel, by decide +kernel, by decide +kernel, List.mem_of_getElem? (i := 1528) (by decide +kernel)⟩
theorem im_X10_draws : Cond.instanceMethod mX10_draws.1 ∈ lw_tbl := List.mem_of_getElem? (i := 1527) (by decide +kernel)
theorem se_X10_draws : Cond.selects (fKC 9) mX10_draws.1 mX10_draws.1 ∈ lw_tbl := List.mem_of_getElem? (i := 108) (by decide +kernel)
abbrev mX10_freezes : fMT := (yX10_freezes, cX10_freezes, 4, none, [])
theorem cc_X10_freezes : fCC 2 mX10_freezes := ⟨⟨by decide +kernel, by decide +kernel⟩, by decide +kernel, by decide +kernel, by decide +kernel, List.mem_of_getElem? (i := 1533) (by decide +kernel)⟩
theorem im_X10_freezes : Cond.instanceMethod mX10_freezes.1 ∈ lw_tbl := List.mem_of_getElem? (i := 1532) (by decide +kernel)
theorem se_X10_freezes : Cond.selects (fKC 9) mX10_freezes.1 mX10_freezes.1 ∈ lw_tbl := List.mem_of_getElem? (i := 109) (by decide +kernel)
abbrev mX10_mayStray : fMT := (yX10_mayStray, cX10_mayStray, 3, some .boolean, [])
theorem cc_X10_mayStray : fCC 2 mX10_mayStray := ⟨⟨by decide +kernel, by decide +kernel⟩, by decide +kernel, by decide +kernel, by decide +kernel, List.mem_of_getElem? (i := 1537) (by decide +kernel)⟩
theorem im_X10_mayStray : Cond.instanceMethod mX10_mayStray.1 ∈ lw_tbl := List.mem_of_getElem? (i := 1536) (by decide +kernel)
theorem se_X10_mayStray : Cond.selects (fKC 9) mX10_mayStray.1 mX10_mayStray.1 ∈ lw_tbl := List.mem_of_getElem? (i := 110) (by decide +kernel)
abbrev mX10_lineOf : fMT := (yX10_lineOf, cX10_lineOf, 4, some .int, [])
theorem cc_X10_lineOf : fCC 2 mX10_lineOf := ⟨⟨by decide +kernel, by decide +kernel⟩, by decide +kernel, by decide +kernel, by decide +kernel, List.mem_of_getElem? (i := 1541) (by decide +kernel)⟩
theorem im_X10_lineOf : Cond.instanceMethod mX10_lineOf.1 ∈ lw_tbl := List.mem_of_getElem? (i := 1540) (by decide +kernel)
theorem se_X10_lineOf : Cond.selects (fKC 9) mX10_lineOf.1 mX10_lineOf.1 ∈ lw_tbl := List.mem_of_getElem? (i := 111) (by decide +kernel)
abbrev mX10_splits : fMT := (yX10_splits, cX10_splits, 8, none, [])
theorem cc_X10_splits : fCC 3 mX10_splits := ⟨⟨by decide +kernel, by decide +kernel⟩, by decide +kernel, by decide +kernel, by decide +kernel, List.mem_of_getElem? (i := 1545) (by decide +kernel)⟩
theorem im_X10_splits : Cond.instanceMethod mX10_splits.1 ∈ lw_tbl := List.mem_of_getElem? (i := 1544) (by decide +kernel)
theorem se_X10_splits : Cond.selects (fKC 9) mX10_splits.1 mX10_splits.1 ∈ lw_tbl := List.mem_of_getElem? (i := 112) (by decide +kernel)
abbrev mX10_bruises : fMT := (yX10_bruises, cX10_bruises, 2, none, [])
theorem cc_X10_bruises : fCC 1 mX10_bruises := ⟨⟨by decide +kernel, by decide +kernel⟩, by decide +kernel, by decide +kernel, by decide +kernel, List.mem_of_getElem? (i := 1549) (by decide +kernel)⟩
theorem im_X10_bruises : Cond.instanceMethod mX10_bruises.1 ∈ lw_tbl := List.mem_of_getElem? (i := 1548) (by decide +kernel)
theorem se_X10_bruises : Cond.selects (fKC 9) mX10_bruises.1 mX10_bruises.1 ∈ lw_tbl := List.mem_of_getElem? (i := 113) (by decide +kernel)
abbrev mX10_sledges : fMT := (yX10_sledges, cX10_sledges, 4, none, [])
theorem cc_X10_sledges : fCC 0 mX10_sledges := ⟨⟨by decide +kernel, by decide +kernel⟩, by decide +kernel, by decide +kernel, by decide +kernel, List.mem_of_getElem? (i := 1553) (by decide +kernel)⟩
theorem im_X10_sledges : Cond.instanceMethod mX10_sledges.1 ∈ lw_tbl := List.mem_of_getElem? (i := 1552) (by decide +kernel)
theorem se_X10_sledges : Cond.selects (fKC 9) mX10_sledges.1 mX10_sledges.1 ∈ lw_tbl := List.mem_of_getElem? (i := 114) (by decide +kernel)
abbrev mX10_isSize : fMT := (yX10_isSize, cX10_isSize, 4, some .boolean, [])
theorem cc_X10_isSize : fCC 3 mX10_isSize := ⟨⟨by decide +kernel, by decide +kernel⟩, by decide +kernel, by decide +kernel, by decide +kernel, List.mem_of_getElem? (i := 1557) (by decide +kernel)⟩
theorem im_X10_isSize : Cond.instanceMethod mX10_isSize.1 ∈ lw_tbl := List.mem_of_getElem? (i := 1556) (by decide +kernel)
theorem se_X10_isSize : Cond.selects (fKC 9) mX10_isSize.1 mX10_isSize.1 ∈ lw_tbl := List.mem_of_getElem? (i := 115) (by decide +kernel)
abbrev mX10_sums : fMT := (yX10_sums, cX10_sums, 6, some .int, [])
theorem cc_X10_sums : fCC 1 mX10_sums := ⟨⟨by decide +kernel, by decide +kernel⟩, by decide +kernel, by decide +kernel, by decide +kernel, List.mem_of_getElem? (i := 1561) (by decide +kernel)⟩
theorem im_X10_sums : Cond.instanceMethod mX10_sums.1 ∈ lw_tbl := List.mem_of_getElem? (i := 1559) (by decide +kernel)
theorem se_X10_sums : Cond.selects (fKC 9) mX10_sums.1 mX10_sums.1 ∈ lw_tbl := List.mem_of_getElem? (i := 1560) (by decide +kernel)
abbrev mX10_area : fMT := (yX10_area, cX10_area, 2, some .int, [])
theorem cc_X10_area : fCC 1 mX10_area := ⟨⟨by decide +kernel, by decide +kernel⟩, by decide +kernel, by decide +kernel, by decide +kernel, List.mem_of_getElem? (i := 1565) (by decide +kernel)⟩
theorem im_X10_area : Cond.instanceMethod mX10_area.1 ∈ lw_tbl := List.mem_of_getElem? (i := 1564) (by decide +kernel)
theorem se_X10_area : Cond.selects (fKC 9) mX10_area.1 mX10_area.1 ∈ lw_tbl := List.mem_of_getElem? (i := 116) (by decide +kernel)
abbrev mX10_orderOf : fMT := (yX10_orderOf, cX10_orderOf, 4, some .int, [])
theorem cc_X10_orderOf : fCC 2 mX10_orderOf := ⟨⟨by decide +kernel, by decide +kernel⟩, by decide +kernel, by decide +kernel, by decide +kernel, List.mem_of_getElem? (i := 1569) (by decide +kernel)⟩
theorem im_X10_orderOf : Cond.instanceMethod mX10_orderOf.1 ∈ lw_tbl := List.mem_of_getElem? (i := 1568) (by decide +kernel)
theorem se_X10_orderOf : Cond.selects (fKC 9) mX10_orderOf.1 mX10_orderOf.1 ∈ lw_tbl := List.mem_of_getElem? (i := 117) (by decide +kernel)
abbrev mX10_trace : fMT := (yX10_trace, cX10_trace, 3, some .int, [])
theorem cc_X10_trace : fCC 2 mX10_trace := ⟨⟨by decide +kernel, by decide +kernel⟩, by decide +kernel, by decide +kernel, by decide +kernel, List.mem_of_getElem? (i := 1573) (by decide +kernel)⟩
theorem im_X10_trace : Cond.instanceMethod mX10_trace.1 ∈ lw_tbl := List.mem_of_getElem? (i := 1571) (by decide +kernel)
theorem se_X10_trace : Cond.selects (fKC 9) mX10_trace.1 mX10_trace.1 ∈ lw_tbl := List.mem_of_getElem? (i := 1572) (by decide +kernel)
abbrev mX10_cold : fMT := (yX10_cold, cX10_cold, 2, some .int, [])
theorem cc_X10_cold : fCC 1 mX10_cold := ⟨⟨by decide +kernel, by decide +kernel⟩, by decide +kernel, by decide +kernel, by decide +kernel, List.mem_of_getElem? (i := 1577) (by decide +kernel)⟩
theorem im_X10_cold : Cond.instanceMethod mX10_cold.1 ∈ lw_tbl := List.mem_of_getElem? (i := 1575) (by decide +kernel)
theorem se_X10_cold : Cond.selects (fKC 9) mX10_cold.1 mX10_cold.1 ∈ lw_tbl := List.mem_of_getElem? (i := 1576) (by decide +kernel)
abbrev mX10_undone : fMT := (yX10_undone, cX10_undone, 1, some .int, [])
theorem cc_X10_undone : fCC 0 mX10_undone := ⟨⟨by decide +kernel, by decide +kernel⟩, by decide +kernel, by decide +kernel, by decide +kernel, List.mem_of_getElem? (i := 1581) (by decide +kernel)⟩
theorem im_X10_undone : Cond.instanceMethod mX10_undone.1 ∈ lw_tbl := List.mem_of_getElem? (i := 1579) (by decide +kernel)
theorem se_X10_undone : Cond.selects (fKC 9) mX10_undone.1 mX10_undone.1 ∈ lw_tbl := List.mem_of_getElem? (i := 1580) (by decide +kernel)
abbrev mX10_left : fMT := (yX10_left, cX10_left, 5, some .int, [])
theorem cc_X10_left : fCC 3 mX10_left := ⟨⟨by decide +kernel, by decide +kernel⟩, by decide +kernel, by decide +kernel, by decide +kernel, List.mem_of_getElem? (i := 1585) (by decide +kernel)⟩
theorem im_X10_left : Cond.instanceMethod mX10_left.1 ∈ lw_tbl := List.mem_of_getElem? (i := 1583) (by decide +kernel)
theorem se_X10_left : Cond.selects (fKC 9) mX10_left.1 mX10_left.1 ∈ lw_tbl := List.mem_of_getElem? (i := 1584) (by decide +kernel)
abbrev mX10_sideOf : fMT := (yX10_sideOf, cX10_sideOf, 8, some .int, [])
theorem cc_X10_sideOf : fCC 4 mX10_sideOf := ⟨⟨by decide +kernel, by decide +kernel⟩, by decide +kernel, by decide +kernel, by decide +kernel, List.mem_of_getElem? (i := 1589) (by decide +kernel)⟩
theorem im_X10_sideOf : Cond.instanceMethod mX10_sideOf.1 ∈ lw_tbl := List.mem_of_getElem? (i := 1588) (by decide +kernel)
theorem se_X10_sideOf : Cond.selects (fKC 9) mX10_sideOf.1 mX10_sideOf.1 ∈ lw_tbl := List.mem_of_getElem? (i := 118) (by decide +kernel)
abbrev mX10_fits : fMT := (yX10_fits, cX10_fits, 5, some .int, [])
theorem cc_X10_fits : fCC 3 mX10_fits := ⟨⟨by decide +kernel, by decide +kernel⟩, by decide +kernel, by decide +kernel, by decide +kernel, List.mem_of_getElem? (i := 1593) (by decide +kernel)⟩
theorem im_X10_fits : Cond.instanceMethod mX10_fits.1 ∈ lw_tbl := List.mem_of_getElem? (i := 1591) (by decide +kernel)
theorem se_X10_fits : Cond.selects (fKC 9) mX10_fits.1 mX10_fits.1 ∈ lw_tbl := List.mem_of_getElem? (i := 1592) (by decide +kernel)
abbrev mX10_plan : fMT := (yX10_plan, cX10_plan, 2, some .int, [])
theorem cc_X10_plan : fCC 1 mX10_plan := ⟨⟨by decide +kernel, by decide +kernel⟩, by decide +kernel, by decide +kernel, by decide +kernel, List.mem_of_getElem? (i := 1597) (by decide +kernel)⟩
theorem im_X10_plan : Cond.instanceMethod mX10_plan.1 ∈ lw_tbl := List.mem_of_getElem? (i := 1595) (by decide +kernel)
theorem se_X10_plan : Cond.selects (fKC 9) mX10_plan.1 mX10_plan.1 ∈ lw_tbl := List.mem_of_getElem? (i := 1596) (by decide +kernel)
abbrev mX10_clear : fMT := (yX10_clear, cX10_clear, 2, some .int, [])
theorem cc_X10_clear : fCC 0 mX10_clear := ⟨⟨by decide +kernel, by decide +kernel⟩, by decide +kernel, by decide +kernel, by decide +kernel, List.mem_of_getElem? (i := 1601) (by decide +kernel)⟩
theorem im_X10_clear : Cond.instanceMethod mX10_clear.1 ∈ lw_tbl := List.mem_of_getElem? (i := 1599) (by decide +kernel)
theorem se_X10_clear : Cond.selects (fKC 9) mX10_clear.1 mX10_clear.1 ∈ lw_tbl := List.mem_of_getElem? (i := 1600) (by decide +kernel)
abbrev mX10_would : fMT := (yX10_would, cX10_would, 10, some .int, [])
theorem cc_X10_would : fCC 2 mX10_would := ⟨⟨by decide +kernel, by decide +kernel⟩, by decide +kernel, by decide +kernel, by decide +kernel, List.mem_of_getElem? (i := 1605) (by decide +kernel)⟩
theorem im_X10_would : Cond.instanceMethod mX10_would.1 ∈ lw_tbl := List.mem_of_getElem? (i := 1603) (by decide +kernel)
theorem se_X10_would : Cond.selects (fKC 9) mX10_would.1 mX10_would.1 ∈ lw_tbl := List.mem_of_getElem? (i := 1604) (by decide +kernel)
abbrev mX10_puts : fMT := (yX10_puts, cX10_puts, 2, none, [])
theorem cc_X10_puts : fCC 0 mX10_puts := ⟨⟨by decide +kernel, by decide +kernel⟩, by decide +kernel, by decide +kernel, by decide +kernel, List.mem_of_getElem? (i := 1609) (by decide +kernel)⟩
theorem im_X10_puts : Cond.instanceMethod mX10_puts.1 ∈ lw_tbl := List.mem_of_getElem? (i := 1608) (by decide +kernel)
theorem se_X10_puts : Cond.selects (fKC 9) mX10_puts.1 mX10_puts.1 ∈ lw_tbl := List.mem_of_getElem? (i := 119) (by decide +kernel)
abbrev mX10_goes : fMT := (yX10_goes, cX10_goes, 5, some .int, [])
theorem cc_X10_goes : fCC 1 mX10_goes := ⟨⟨by decide +kernel, by decide +kernel⟩, by decide +kernel, by decide +kernel, by decide +kernel, List.mem_of_getElem? (i := 1613) (by decide +kernel)⟩
theorem im_X10_goes : Cond.instanceMethod mX10_goes.1 ∈ lw_tbl := List.mem_of_getElem? (i := 1612) (by decide +kernel)
theorem se_X10_goes : Cond.selects (fKC 9) mX10_goes.1 mX10_goes.1 ∈ lw_tbl := List.mem_of_getElem? (i := 120) (by decide +kernel)
abbrev mX10_watered : fMT := (yX10_watered, cX10_watered, 5, some .int, [])
theorem cc_X10_watered : fCC 1 mX10_watered := ⟨⟨by decide +kernel, by decide +kernel⟩, by decide +kernel, by decide +kernel, by decide +kernel, List.mem_of_getElem? (i := 1617) (by decide +kernel)⟩
theorem im_X10_watered : Cond.instanceMethod mX10_watered.1 ∈ lw_tbl := List.mem_of_getElem? (i := 1616) (by decide +kernel)
theorem se_X10_watered : Cond.selects (fKC 9) mX10_watered.1 mX10_watered.1 ∈ lw_tbl := List.mem_of_getElem? (i := 121) (by decide +kernel)
abbrev mX10_takes : fMT := (yX10_takes, cX10_takes, 2, none, [])
theorem cc_X10_takes : fCC 0 mX10_takes := ⟨⟨by decide +kernel, by decide +kernel⟩, by decide +kernel, by decide +kernel, by decide +kernel, List.mem_of_getElem? (i := 1621) (by decide +kernel)⟩
theorem im_X10_takes : Cond.instanceMethod mX10_takes.1 ∈ lw_tbl := List.mem_of_getElem? (i := 1620) (by decide +kernel)
theorem se_X10_takes : Cond.selects (fKC 9) mX10_takes.1 mX10_takes.1 ∈ lw_tbl := List.mem_of_getElem? (i := 122) (by decide +kernel)
abbrev mX10_promise : fMT := (yX10_promise, cX10_promise, 6, some .int, [])
theorem cc_X10_promise : fCC 3 mX10_promise := ⟨⟨by decide +kernel, by decide +kernel⟩, by decide +kernel, by decide +kernel, by decide +kernel, List.mem_of_getElem? (i := 1625) (by decide +kernel)⟩
theorem im_X10_promise : Cond.instanceMethod mX10_promise.1 ∈ lw_tbl := List.mem_of_getElem? (i := 1623) (by decide +kernel)
theorem se_X10_promise : Cond.selects (fKC 9) mX10_promise.1 mX10_promise.1 ∈ lw_tbl := List.mem_of_getElem? (i := 1624) (by decide +kernel)
abbrev mX10_tonight : fMT := (yX10_tonight, cX10_tonight, 1, some .int, [])
theorem cc_X10_tonight : fCC 0 mX10_tonight := ⟨⟨by decide +kernel, by decide +kernel⟩, by decide +kernel, by decide +kernel, by decide +kernel, List.mem_of_getElem? (i := 1629) (by decide +kernel)⟩
theorem im_X10_tonight : Cond.instanceMethod mX10_tonight.1 ∈ lw_tbl := List.mem_of_getElem? (i := 1627) (by decide +kernel)
theorem se_X10_tonight : Cond.selects (fKC 9) mX10_tonight.1 mX10_tonight.1 ∈ lw_tbl := List.mem_of_getElem? (i := 1628) (by decide +kernel)
abbrev mX10_findTonight : fMT := (yX10_findTonight, cX10_findTonight, 7, some .long, [])
theorem cc_X10_findTonight : fCC 0 mX10_findTonight := ⟨⟨by decide +kernel, by decide +kernel⟩, by decide +kernel, by decide +kernel, by decide +kernel, List.mem_of_getElem? (i := 1633) (by decide +kernel)⟩
theorem im_X10_findTonight : Cond.instanceMethod mX10_findTonight.1 ∈ lw_tbl := List.mem_of_getElem? (i := 1632) (by decide +kernel)
theorem se_X10_findTonight : Cond.selects (fKC 9) mX10_findTonight.1 mX10_findTonight.1 ∈ lw_tbl := List.mem_of_getElem? (i := 123) (by decide +kernel)
abbrev mX10_setOf : fMT := (yX10_setOf, cX10_setOf, 6, some .int, [])
theorem cc_X10_setOf : fCC 1 mX10_setOf := ⟨⟨by decide +kernel, by decide +kernel⟩, by decide +kernel, by decide +kernel, by decide +kernel, List.mem_of_getElem? (i := 1638) (by decide +kernel)⟩
theorem im_X10_setOf : Cond.instanceMethod mX10_setOf.1 ∈ lw_tbl := List.mem_of_getElem? (i := 1637) (by decide +kernel)
theorem se_X10_setOf : Cond.selects (fKC 9) mX10_setOf.1 mX10_setOf.1 ∈ lw_tbl := List.mem_of_getElem? (i := 124) (by decide +kernel)
abbrev mX10_byOdds : fMT := (yX10_byOdds, cX10_byOdds, 9, some .long, [])
theorem cc_X10_byOdds : fCC 1 mX10_byOdds := ⟨⟨by decide +kernel, by decide +kernel⟩, by decide +kernel, by decide +kernel, by decide +kernel, List.mem_of_getElem? (i := 1642) (by decide +kernel)⟩
theorem im_X10_byOdds : Cond.instanceMethod mX10_byOdds.1 ∈ lw_tbl := List.mem_of_getElem? (i := 1641) (by decide +kernel)
theorem se_X10_byOdds : Cond.selects (fKC 9) mX10_byOdds.1 mX10_byOdds.1 ∈ lw_tbl := List.mem_of_getElem? (i := 125) (by decide +kernel)
abbrev mX10_branches : fMT := (yX10_branches, cX10_branches, 10, none, [])
theorem cc_X10_branches : fCC 5 mX10_branches := ⟨⟨by decide +kernel, by decide +kernel⟩, by decide +kernel, by decide +kernel, by decide +kernel, List.mem_of_getElem? (i := 1646) (by decide +kernel)⟩
theorem im_X10_branches : Cond.instanceMethod mX10_branches.1 ∈ lw_tbl := List.mem_of_getElem? (i := 1645) (by decide +kernel)
theorem se_X10_branches : Cond.selects (fKC 9) mX10_branches.1 mX10_branches.1 ∈ lw_tbl := List.mem_of_getElem? (i := 126) (by decide +kernel)
abbrev mX10_bestNext : fMT := (yX10_bestNext, cX10_bestNext, 8, some .long, [])
theorem cc_X10_bestNext : fCC 0 mX10_bestNext := ⟨⟨by decide +kernel, by decide +kernel⟩, by decide +kernel, by decide +kernel, by decide +kernel, List.mem_of_getElem? (i := 1651) (by decide +kernel)⟩
theorem im_X10_bestNext : Cond.instanceMethod mX10_bestNext.1 ∈ lw_tbl := List.mem_of_getElem? (i := 1650) (by decide +kernel)
theorem se_X10_bestNext : Cond.selects (fKC 9) mX10_bestNext.1 mX10_bestNext.1 ∈ lw_tbl := List.mem_of_getElem? (i := 127) (by decide +kernel)
abbrev mX10_fours : fMT := (yX10_fours, cX10_fours, 1, some .long, [])
theorem cc_X10_fours : fCC 1 mX10_fours := ⟨⟨by decide +kernel, by decide +kernel⟩, by decide +kernel, by decide +kernel, by decide +kernel, List.mem_of_getElem? (i := 1654) (by decide +kernel)⟩
theorem st_X10_fours : Cond.static mX10_fours.1 ∈ lw_tbl := List.mem_of_getElem? (i := 1653) (by decide +kernel)
abbrev mX10_worth : fMT := (yX10_worth, cX10_worth, 2, some .long, [])
theorem cc_X10_worth : fCC 1 mX10_worth := ⟨⟨by decide +kernel, by decide +kernel⟩, by decide +kernel, by decide +kernel, by decide +kernel, List.mem_of_getElem? (i := 1660) (by decide +kernel)⟩
theorem im_X10_worth : Cond.instanceMethod mX10_worth.1 ∈ lw_tbl := List.mem_of_getElem? (i := 1658) (by decide +kernel)
theorem se_X10_worth : Cond.selects (fKC 9) mX10_worth.1 mX10_worth.1 ∈ lw_tbl := List.mem_of_getElem? (i := 1659) (by decide +kernel)
abbrev mX10_least : fMT := (yX10_least, cX10_least, 11, some .long, [])
theorem cc_X10_least : fCC 3 mX10_least := ⟨⟨by decide +kernel, by decide +kernel⟩, by decide +kernel, by decide +kernel, by decide +kernel, List.mem_of_getElem? (i := 1664) (by decide +kernel)⟩
theorem st_X10_least : Cond.static mX10_least.1 ∈ lw_tbl := List.mem_of_getElem? (i := 1663) (by decide +kernel)
abbrev mX10_now : fMT := (yX10_now, cX10_now, 3, some .long, [])
theorem cc_X10_now : fCC 2 mX10_now := ⟨⟨by decide +kernel, by decide +kernel⟩, by decide +kernel, by decide +kernel, by decide +kernel, List.mem_of_getElem? (i := 1668) (by decide +kernel)⟩
theorem im_X10_now : Cond.instanceMethod mX10_now.1 ∈ lw_tbl := List.mem_of_getElem? (i := 1666) (by decide +kernel)
theorem se_X10_now : Cond.selects (fKC 9) mX10_now.1 mX10_now.1 ∈ lw_tbl := List.mem_of_getElem? (i := 1667) (by decide +kernel)
abbrev mX10_deeper : fMT := (yX10_deeper, cX10_deeper, 9, some .int, [])
theorem cc_X10_deeper : fCC 0 mX10_deeper := ⟨⟨by decide +kernel, by decide +kernel⟩, by decide +kernel, by decide +kernel, by decide +kernel, List.mem_of_getElem? (i := 1673) (by decide +kernel)⟩
theorem im_X10_deeper : Cond.instanceMethod mX10_deeper.1 ∈ lw_tbl := List.mem_of_getElem? (i := 1671) (by decide +kernel)
theorem se_X10_deeper : Cond.selects (fKC 9) mX10_deeper.1 mX10_deeper.1 ∈ lw_tbl := List.mem_of_getElem? (i := 1672) (by decide +kernel)
abbrev mX10_thumb : fMT := (yX10_thumb, cX10_thumb, 3, some .int, [])
theorem cc_X10_thumb : fCC 2 mX10_thumb := ⟨⟨by decide +kernel, by decide +kernel⟩, by decide +kernel, by decide +kernel, by decide +kernel, List.mem_of_getElem? (i := 1677) (by decide +kernel)⟩
theorem im_X10_thumb : Cond.instanceMethod mX10_thumb.1 ∈ lw_tbl := List.mem_of_getElem? (i := 1675) (by decide +kernel)
theorem se_X10_thumb : Cond.selects (fKC 9) mX10_thumb.1 mX10_thumb.1 ∈ lw_tbl := List.mem_of_getElem? (i := 1676) (by decide +kernel)
abbrev mX10_trust : fMT := (yX10_trust, cX10_trust, 6, some .int, [])
theorem cc_X10_trust : fCC 2 mX10_trust := ⟨⟨by decide +kernel, by decide +kernel⟩, by decide +kernel, by decide +kernel, by decide +kernel, List.mem_of_getElem? (i := 1681) (by decide +kernel)⟩
theorem im_X10_trust : Cond.instanceMethod mX10_trust.1 ∈ lw_tbl := List.mem_of_getElem? (i := 1679) (by decide +kernel)
theorem se_X10_trust : Cond.selects (fKC 9) mX10_trust.1 mX10_trust.1 ∈ lw_tbl := List.mem_of_getElem? (i := 1680) (by decide +kernel)
abbrev mX10_listening : fMT := (yX10_listening, cX10_listening, 4, some .int, [])
theorem cc_X10_listening : fCC 0 mX10_listening := ⟨⟨by decide +kernel, by decide +kernel⟩, by decide +kernel, by decide +kernel, by decide +kernel, List.mem_of_getElem? (i := 1685) (by decide +kernel)⟩
theorem im_X10_listening : Cond.instanceMethod mX10_listening.1 ∈ lw_tbl := List.mem_of_getElem? (i := 1683) (by decide +kernel)
theorem se_X10_listening : Cond.selects (fKC 9) mX10_listening.1 mX10_listening.1 ∈ lw_tbl := List.mem_of_getElem? (i := 1684) (by decide +kernel)
abbrev mX10_tower : fMT := (yX10_tower, cX10_tower, 6, some .int, [])
theorem cc_X10_tower : fCC 0 mX10_tower := ⟨⟨by decide +kernel, by decide +kernel⟩, by decide +kernel, by decide +kernel, by decide +kernel, List.mem_of_getElem? (i := 1689) (by decide +kernel)⟩
theorem im_X10_tower : Cond.instanceMethod mX10_tower.1 ∈ lw_tbl := List.mem_of_getElem? (i := 1687) (by decide +kernel)
theorem se_X10_tower : Cond.selects (fKC 9) mX10_tower.1 mX10_tower.1 ∈ lw_tbl := List.mem_of_getElem? (i := 1688) (by decide +kernel)
abbrev mX10_isOn : fMT := (yX10_isOn, cX10_isOn, 3, some .boolean, [])
theorem cc_X10_isOn : fCC 2 mX10_isOn := ⟨⟨by decide +kernel, by decide +kernel⟩, by decide +kernel, by decide +kernel, by decide +kernel, List.mem_of_getElem? (i := 1693) (by decide +kernel)⟩
theorem im_X10_isOn : Cond.instanceMethod mX10_isOn.1 ∈ lw_tbl := List.mem_of_getElem? (i := 1692) (by decide +kernel)
theorem se_X10_isOn : Cond.selects (fKC 9) mX10_isOn.1 mX10_isOn.1 ∈ lw_tbl := List.mem_of_getElem? (i := 128) (by decide +kernel)
abbrev mX10_side : fMT := (yX10_side, cX10_side, 5, some .int, [])
theorem cc_X10_side : fCC 2 mX10_side := ⟨⟨by decide +kernel, by decide +kernel⟩, by decide +kernel, by decide +kernel, by decide +kernel, List.mem_of_getElem? (i := 1697) (by decide +kernel)⟩
theorem im_X10_side : Cond.instanceMethod mX10_side.1 ∈ lw_tbl := List.mem_of_getElem? (i := 1696) (by decide +kernel)
theorem se_X10_side : Cond.selects (fKC 9) mX10_side.1 mX10_side.1 ∈ lw_tbl := List.mem_of_getElem? (i := 129) (by decide +kernel)
abbrev mX10_face : fMT := (yX10_face, cX10_face, 4, some .int, [])
theorem cc_X10_face : fCC 1 mX10_face := ⟨⟨by decide +kernel, by decide +kernel⟩, by decide +kernel, by decide +kernel, by decide +kernel, List.mem_of_getElem? (i := 1701) (by decide +kernel)⟩
theorem im_X10_face : Cond.instanceMethod mX10_face.1 ∈ lw_tbl := List.mem_of_getElem? (i := 1699) (by decide +kernel)
theorem se_X10_face : Cond.selects (fKC 9) mX10_face.1 mX10_face.1 ∈ lw_tbl := List.mem_of_getElem? (i := 1700) (by decide +kernel)
abbrev mX10_image : fMT := (yX10_image, cX10_image, 1, some .int, [])
theorem cc_X10_image : fCC 0 mX10_image := ⟨⟨by decide +kernel, by decide +kernel⟩, by decide +kernel, by decide +kernel, by decide +kernel, List.mem_of_getElem? (i := 1705) (by decide +kernel)⟩
theorem im_X10_image : Cond.instanceMethod mX10_image.1 ∈ lw_tbl := List.mem_of_getElem? (i := 1703) (by decide +kernel)
theorem se_X10_image : Cond.selects (fKC 9) mX10_image.1 mX10_image.1 ∈ lw_tbl := List.mem_of_getElem? (i := 1704) (by decide +kernel)
abbrev mX10_movesAll : fMT := (yX10_movesAll, cX10_movesAll, 5, none, [])
theorem cc_X10_movesAll : fCC 2 mX10_movesAll := ⟨⟨by decide +kernel, by decide +kernel⟩, by decide +kernel, by decide +kernel, by decide +kernel, List.mem_of_getElem? (i := 1709) (by decide +kernel)⟩
theorem im_X10_movesAll : Cond.instanceMethod mX10_movesAll.1 ∈ lw_tbl := List.mem_of_getElem? (i := 1708) (by decide +kernel)
theorem se_X10_movesAll : Cond.selects (fKC 9) mX10_movesAll.1 mX10_movesAll.1 ∈ lw_tbl := List.mem_of_getElem? (i := 130) (by decide +kernel)
abbrev mX10_moves : fMT := (yX10_moves, cX10_moves, 4, some .int, [])
theorem cc_X10_moves : fCC 3 mX10_moves := ⟨⟨by decide +kernel, by decide +kernel⟩, by decide +kernel, by decide +kernel, by decide +kernel, List.mem_of_getElem? (i := 1713) (by decide +kernel)⟩
theorem im_X10_moves : Cond.instanceMethod mX10_moves.1 ∈ lw_tbl := List.mem_of_getElem? (i := 1712) (by decide +kernel)
theorem se_X10_moves : Cond.selects (fKC 9) mX10_moves.1 mX10_moves.1 ∈ lw_tbl := List.mem_of_getElem? (i := 131) (by decide +kernel)
abbrev mX10_restore : fMT := (yX10_restore, cX10_restore, 1, some .int, [])
theorem cc_X10_restore : fCC 0 mX10_restore := ⟨⟨by decide +kernel, by decide +kernel⟩, by decide +kernel, by decide +kernel, by decide +kernel, List.mem_of_getElem? (i := 1717) (by decide +kernel)⟩
theorem im_X10_restore : Cond.instanceMethod mX10_restore.1 ∈ lw_tbl := List.mem_of_getElem? (i := 1715) (by decide +kernel)
theorem se_X10_restore : Cond.selects (fKC 9) mX10_restore.1 mX10_restore.1 ∈ lw_tbl := List.mem_of_getElem? (i := 1716) (by decide +kernel)
abbrev mX10_count : fMT := (yX10_count, cX10_count, 2, some .int, [])
theorem cc_X10_count : fCC 1 mX10_count := ⟨⟨by decide +kernel, by decide +kernel⟩, by decide +kernel, by decide +kernel, by decide +kernel, List.mem_of_getElem? (i := 1721) (by decide +kernel)⟩
theorem im_X10_count : Cond.instanceMethod mX10_count.1 ∈ lw_tbl := List.mem_of_getElem? (i := 1719) (by decide +kernel)
theorem se_X10_count : Cond.selects (fKC 9) mX10_count.1 mX10_count.1 ∈ lw_tbl := List.mem_of_getElem? (i := 1720) (by decide +kernel)
theorem in_RJ3 : Cond.initialized RJ3 ∈ lw_tbl := List.mem_of_getElem? (i := 152) (by decide +kernel)
theorem in_RX1 : Cond.initialized RX1 ∈ lw_tbl := List.mem_of_getElem? (i := 138) (by decide +kernel)
theorem in_RX2 : Cond.initialized RX2 ∈ lw_tbl := List.mem_of_getElem? (i := 141) (by decide +kernel)
theorem in_RX7 : Cond.initialized RX7 ∈ lw_tbl := List.mem_of_getElem? (i := 142) (by decide +kernel)
theorem in_RJ9 : Cond.initialized RJ9 ∈ lw_tbl := List.mem_of_getElem? (i := 149) (by decide +kernel)
theorem in_RX3 : Cond.initialized RX3 ∈ lw_tbl := List.mem_of_getElem? (i := 134) (by decide +kernel)
theorem in_RX9 : Cond.initialized RX9 ∈ lw_tbl := List.mem_of_getElem? (i := 133) (by decide +kernel)
theorem in_RJ6 : Cond.initialized RJ6 ∈ lw_tbl := List.mem_of_getElem? (i := 157) (by decide +kernel)
theorem in_RX6 : Cond.initialized RX6 ∈ lw_tbl := List.mem_of_getElem? (i := 143) (by decide +kernel)
theorem in_RJ2 : Cond.initialized RJ2 ∈ lw_tbl := List.mem_of_getElem? (i := 153) (by decide +kernel)
theorem in_RJ0 : Cond.initialized RJ0 ∈ lw_tbl := List.mem_of_getElem? (i := 150) (by decide +kernel)
theorem in_RL : Cond.initialized RL ∈ lw_tbl := List.mem_of_getElem? (i := 132) (by decide +kernel)
theorem in_RX0 : Cond.initialized RX0 ∈ lw_tbl := List.mem_of_getElem? (i := 140) (by decide +kernel)
theorem in_RJ7 : Cond.initialized RJ7 ∈ lw_tbl := List.mem_of_getElem? (i := 135) (by decide +kernel)
theorem in_RX10 : Cond.initialized RX10 ∈ lw_tbl := List.mem_of_getElem? (i := 144) (by decide +kernel)
theorem in_RX8 : Cond.initialized RX8 ∈ lw_tbl := List.mem_of_getElem? (i := 137) (by decide +kernel)
theorem in_RX4 : Cond.initialized RX4 ∈ lw_tbl := List.mem_of_getElem? (i := 139) (by decide +kernel)
theorem in_RX5 : Cond.initialized RX5 ∈ lw_tbl := List.mem_of_getElem? (i := 136) (by decide +kernel)
theorem in_RJ1 : Cond.initialized RJ1 ∈ lw_tbl := List.mem_of_getElem? (i := 151) (by decide +kernel)
theorem lk_RL_84 : fLK RL 84 yX9_init := Or.inl (List.mem_of_getElem? (i := 161) (by decide +kernel))
theorem ml_RX9_3 : Cond.methodLink RX9 3 objectInit ∈ lw_tbl := List.mem_of_getElem? (i := 164) (by decide +kernel)
theorem lk_RX9_22 : fLK RX9 22 yX3_init := Or.inr ⟨"FrostMason", List.mem_of_getElem? (i := 169) (by decide +kernel)⟩
theorem ml_RX3_3 : Cond.methodLink RX3 3 objectInit ∈ lw_tbl := List.mem_of_getElem? (i := 172) (by decide +kernel)
theorem lk_RX3_27 : fLK RX3 27 yX3_begin := Or.inl (List.mem_of_getElem? (i := 173) (by decide +kernel))
theorem lk_RX3_52 : fLK RX3 52 yJ7_fill_53178 := Or.inl (List.mem_of_getElem? (i := 177) (by decide +kernel))
theorem lk_RX9_29 : fLK RX9 29 yX5_init := Or.inr ⟨"FrostMason", List.mem_of_getElem? (i := 250) (by decide +kernel)⟩
theorem ml_RX5_3 : Cond.methodLink RX5 3 objectInit ∈ lw_tbl := List.mem_of_getElem? (i := 253) (by decide +kernel)
theorem lk_RX5_11 : fLK RX5 11 yX3_init := Or.inr ⟨"FrostMason", List.mem_of_getElem? (i := 255) (by decide +kernel)⟩
theorem lk_RX9_38 : fLK RX9 38 yX8_init := Or.inr ⟨"FrostMason", List.mem_of_getElem? (i := 283) (by decide +kernel)⟩
theorem ml_RX8_3 : Cond.methodLink RX8 3 objectInit ∈ lw_tbl := List.mem_of_getElem? (i := 286) (by decide +kernel)
theorem lk_RX8_36 : fLK RX8 36 yX4_init := Or.inr ⟨"FrostMason", List.mem_of_getElem? (i := 289) (by decide +kernel)⟩
theorem lk_RX4_1 : fLK RX4 1 yX1_init := Or.inr ⟨"FrostMason", List.mem_of_getElem? (i := 292) (by decide +kernel)⟩
theorem ml_RX1_1 : Cond.methodLink RX1 1 objectInit ∈ lw_tbl := List.mem_of_getElem? (i := 295) (by decide +kernel)
theorem lk_RX9_50 : fLK RX9 50 yX0_init := Or.inr ⟨"FrostMason", List.mem_of_getElem? (i := 362) (by decide +kernel)⟩
theorem ml_RX0_3 : Cond.methodLink RX0 3 objectInit ∈ lw_tbl := List.mem_of_getElem? (i := 365) (by decide +kernel)
theorem lk_RX9_68 : fLK RX9 68 yX2_init := Or.inr ⟨"FrostMason", List.mem_of_getElem? (i := 381) (by decide +kernel)⟩
theorem ml_RX2_3 : Cond.methodLink RX2 3 objectInit ∈ lw_tbl := List.mem_of_getElem? (i := 384) (by decide +kernel)
theorem lk_RX2_31 : fLK RX2 31 yX8_init := Or.inr ⟨"FrostMason", List.mem_of_getElem? (i := 388) (by decide +kernel)⟩
theorem lk_RX2_34 : fLK RX2 34 yX7_init := Or.inr ⟨"FrostMason", List.mem_of_getElem? (i := 390) (by decide +kernel)⟩
theorem lk_RX7_3 : fLK RX7 3 yX1_init := Or.inr ⟨"FrostMason", List.mem_of_getElem? (i := 393) (by decide +kernel)⟩
theorem lk_RX9_75 : fLK RX9 75 yX6_init := Or.inr ⟨"FrostMason", List.mem_of_getElem? (i := 420) (by decide +kernel)⟩
theorem ml_RX6_3 : Cond.methodLink RX6 3 objectInit ∈ lw_tbl := List.mem_of_getElem? (i := 423) (by decide +kernel)
theorem lk_RL_88 : fLK RL 88 yX9_feed := Or.inl (List.mem_of_getElem? (i := 489) (by decide +kernel))
theorem lk_RX9_94 : fLK RX9 94 yX9_putOnTape := Or.inl (List.mem_of_getElem? (i := 493) (by decide +kernel))
theorem lk_RL_102 : fLK RL 102 yX9_fault := Or.inl (List.mem_of_getElem? (i := 497) (by decide +kernel))
theorem lk_RL_122 : fLK RL 122 yX9_seed := Or.inl (List.mem_of_getElem? (i := 501) (by decide +kernel))
theorem lk_RL_135 : fLK RL 135 yX9_cold := Or.inl (List.mem_of_getElem? (i := 505) (by decide +kernel))
theorem lk_RL_139 : fLK RL 139 yX9_undone := Or.inl (List.mem_of_getElem? (i := 509) (by decide +kernel))
theorem lk_RX9_243 : fLK RX9 243 yX8_firstAlive := Or.inr ⟨"FrostMason", List.mem_of_getElem? (i := 513) (by decide +kernel)⟩
theorem lk_RX8_105 : fLK RX8 105 yX8_isAlive := Or.inl (List.mem_of_getElem? (i := 517) (by decide +kernel))
theorem lk_RX8_97 : fLK RX8 97 yX8_pieceUnder := Or.inl (List.mem_of_getElem? (i := 521) (by decide +kernel))
theorem lk_RX8_101 : fLK RX8 101 yX8_isInside := Or.inl (List.mem_of_getElem? (i := 525) (by decide +kernel))
theorem lk_RX8_93 : fLK RX8 93 yX8_lowEdge := Or.inl (List.mem_of_getElem? (i := 529) (by decide +kernel))
theorem lk_RL_153 : fLK RL 153 yX9_clear := Or.inl (List.mem_of_getElem? (i := 533) (by decide +kernel))
theorem lk_RL_176 : fLK RL 176 yX9_thumb := Or.inl (List.mem_of_getElem? (i := 537) (by decide +kernel))
theorem lk_RX9_304 : fLK RX9 304 yX0_addRecord := Or.inr ⟨"FrostMason", List.mem_of_getElem? (i := 541) (by decide +kernel)⟩
theorem lk_RX0_34 : fLK RX0 34 yX0_records := Or.inl (List.mem_of_getElem? (i := 545) (by decide +kernel))
theorem lk_RX0_38 : fLK RX0 38 yX0_kindOf := Or.inl (List.mem_of_getElem? (i := 549) (by decide +kernel))
theorem lk_RL_185 : fLK RL 185 yX9_listening := Or.inl (List.mem_of_getElem? (i := 552) (by decide +kernel))
theorem lk_RX9_308 : fLK RX9 308 yX0_recordsOf := Or.inr ⟨"FrostMason", List.mem_of_getElem? (i := 556) (by decide +kernel)⟩
theorem lk_RX9_311 : fLK RX9 311 yX0_records := Or.inr ⟨"FrostMason", List.mem_of_getElem? (i := 560) (by decide +kernel)⟩
theorem ml_RX9_314 : Cond.methodLink RX9 314 yJ9_max_7cf53 ∈ lw_tbl := List.mem_of_getElem? (i := 561) (by decide +kernel)
theorem lk_RL_189 : fLK RL 189 yX9_tower := Or.inl (List.mem_of_getElem? (i := 564) (by decide +kernel))
theorem lk_RX9_319 : fLK RX9 319 yX6_highest := Or.inr ⟨"FrostMason", List.mem_of_getElem? (i := 568) (by decide +kernel)⟩
theorem lk_RX6_30 : fLK RX6 30 yX8_isLying := Or.inr ⟨"FrostMason", List.mem_of_getElem? (i := 572) (by decide +kernel)⟩
theorem lk_RX6_34 : fLK RX6 34 yX8_pieceWide := Or.inr ⟨"FrostMason", List.mem_of_getElem? (i := 576) (by decide +kernel)⟩
theorem lk_RX6_38 : fLK RX6 38 yX8_pieceHigh := Or.inr ⟨"FrostMason", List.mem_of_getElem? (i := 580) (by decide +kernel)⟩
theorem ml_RX6_41 : Cond.methodLink RX6 41 yJ9_max_7cf53 ∈ lw_tbl := List.mem_of_getElem? (i := 584) (by decide +kernel)
theorem ml_RX6_47 : Cond.methodLink RX6 47 yJ9_min_7cf53 ∈ lw_tbl := List.mem_of_getElem? (i := 585) (by decide +kernel)
theorem lk_RX6_50 : fLK RX6 50 yX6_insert := Or.inl (List.mem_of_getElem? (i := 588) (by decide +kernel))
theorem lk_RX6_54 : fLK RX6 54 yX6_highestUpon := Or.inl (List.mem_of_getElem? (i := 592) (by decide +kernel))
theorem lk_RL_196 : fLK RL 196 yX9_image := Or.inl (List.mem_of_getElem? (i := 596) (by decide +kernel))
theorem lk_RX9_323 : fLK RX9 323 yX8_copyFrom := Or.inr ⟨"FrostMason", List.mem_of_getElem? (i := 600) (by decide +kernel)⟩
theorem ml_RX8_83 : Cond.methodLink RX8 83 arraycopyName ∈ lw_tbl := List.mem_of_getElem? (i := 604) (by decide +kernel)
theorem lk_RX9_326 : fLK RX9 326 yX0_copyFrom := Or.inr ⟨"FrostMason", List.mem_of_getElem? (i := 607) (by decide +kernel)⟩
theorem ml_RX0_28 : Cond.methodLink RX0 28 arraycopyName ∈ lw_tbl := List.mem_of_getElem? (i := 611) (by decide +kernel)
theorem lk_RL_200 : fLK RL 200 yX9_restore := Or.inl (List.mem_of_getElem? (i := 612) (by decide +kernel))
theorem lk_RL_204 : fLK RL 204 yX9_count := Or.inl (List.mem_of_getElem? (i := 616) (by decide +kernel))
theorem lk_RL_93 : fLK RL 93 yL_quarry := Or.inl (List.mem_of_getElem? (i := 620) (by decide +kernel))
theorem lk_RL_7 : fLK RL 7 yX9_quarry := Or.inl (List.mem_of_getElem? (i := 624) (by decide +kernel))
theorem lk_RX9_105 : fLK RX9 105 yX5_read := Or.inr ⟨"FrostMason", List.mem_of_getElem? (i := 696) (by decide +kernel)⟩
theorem lk_RX5_38 : fLK RX5 38 yX3_begin := Or.inr ⟨"FrostMason", List.mem_of_getElem? (i := 700) (by decide +kernel)⟩
theorem ml_RX5_41 : Cond.methodLink RX5 41 yJ9_min_7cf53 ∈ lw_tbl := List.mem_of_getElem? (i := 701) (by decide +kernel)
theorem lk_RX5_47 : fLK RX5 47 yX5_skipBlanks := Or.inl (List.mem_of_getElem? (i := 702) (by decide +kernel))
theorem lk_RX5_50 : fLK RX5 50 yX5_readClause := Or.inl (List.mem_of_getElem? (i := 706) (by decide +kernel))
theorem lk_RX5_53 : fLK RX5 53 yX5_readWord := Or.inl (List.mem_of_getElem? (i := 710) (by decide +kernel))
theorem lk_RX5_74 : fLK RX5 74 yX5_isWord := Or.inl (List.mem_of_getElem? (i := 715) (by decide +kernel))
theorem lk_RX5_57 : fLK RX5 57 yX5_blame := Or.inl (List.mem_of_getElem? (i := 773) (by decide +kernel))
theorem lk_RX5_61 : fLK RX5 61 yX5_isFull := Or.inl (List.mem_of_getElem? (i := 777) (by decide +kernel))
theorem lk_RX5_65 : fLK RX5 65 yX5_readNumbers := Or.inl (List.mem_of_getElem? (i := 781) (by decide +kernel))
theorem lk_RX5_110 : fLK RX5 110 yX5_readBlock := Or.inl (List.mem_of_getElem? (i := 785) (by decide +kernel))
theorem lk_RX5_122 : fLK RX5 122 yX5_readNumber := Or.inl (List.mem_of_getElem? (i := 789) (by decide +kernel))
theorem lk_RX5_131 : fLK RX5 131 yX3_addBlock := Or.inr ⟨"FrostMason", List.mem_of_getElem? (i := 793) (by decide +kernel)⟩
theorem lk_RX5_113 : fLK RX5 113 yX5_readSlot := Or.inl (List.mem_of_getElem? (i := 797) (by decide +kernel))
theorem lk_RX5_139 : fLK RX5 139 yX3_addSlot := Or.inr ⟨"FrostMason", List.mem_of_getElem? (i := 801) (by decide +kernel)⟩
theorem lk_RX5_116 : fLK RX5 116 yX5_readOrder := Or.inl (List.mem_of_getElem? (i := 805) (by decide +kernel))
theorem lk_RX5_143 : fLK RX5 143 yX3_addOrder := Or.inr ⟨"FrostMason", List.mem_of_getElem? (i := 809) (by decide +kernel)⟩
theorem lk_RX5_119 : fLK RX5 119 yX5_readOdds := Or.inl (List.mem_of_getElem? (i := 813) (by decide +kernel))
theorem lk_RX5_149 : fLK RX5 149 yX3_addOdds := Or.inr ⟨"FrostMason", List.mem_of_getElem? (i := 817) (by decide +kernel)⟩
theorem lk_RX5_69 : fLK RX5 69 yX5_readEnd := Or.inl (List.mem_of_getElem? (i := 821) (by decide +kernel))
theorem lk_RX9_117 : fLK RX9 117 yX3_copyFrom := Or.inr ⟨"FrostMason", List.mem_of_getElem? (i := 825) (by decide +kernel)⟩
theorem ml_RX3_58 : Cond.methodLink RX3 58 arraycopyName ∈ lw_tbl := List.mem_of_getElem? (i := 829) (by decide +kernel)
theorem lk_RX9_120 : fLK RX9 120 yX8_begin := Or.inr ⟨"FrostMason", List.mem_of_getElem? (i := 830) (by decide +kernel)⟩
theorem lk_RX8_74 : fLK RX8 74 yJ7_fill_53178 := Or.inl (List.mem_of_getElem? (i := 834) (by decide +kernel))
theorem lk_RX9_123 : fLK RX9 123 yX0_begin := Or.inr ⟨"FrostMason", List.mem_of_getElem? (i := 835) (by decide +kernel)⟩
theorem lk_RX0_22 : fLK RX0 22 yJ7_fill_53178 := Or.inl (List.mem_of_getElem? (i := 839) (by decide +kernel))
theorem lk_RL_106 : fLK RL 106 yL_told := Or.inl (List.mem_of_getElem? (i := 840) (by decide +kernel))
theorem lk_RL_15 : fLK RL 15 yX9_told := Or.inl (List.mem_of_getElem? (i := 843) (by decide +kernel))
theorem lk_RL_109 : fLK RL 109 yL_slot := Or.inl (List.mem_of_getElem? (i := 848) (by decide +kernel))
theorem lk_RL_18 : fLK RL 18 yX9_slot := Or.inl (List.mem_of_getElem? (i := 852) (by decide +kernel))
theorem lk_RX9_150 : fLK RX9 150 yX9_checkSlot := Or.inl (List.mem_of_getElem? (i := 856) (by decide +kernel))
theorem lk_RX9_153 : fLK RX9 153 yX9_checkRange := Or.inl (List.mem_of_getElem? (i := 876) (by decide +kernel))
theorem lk_RX9_161 : fLK RX9 161 yX8_needOf := Or.inr ⟨"FrostMason", List.mem_of_getElem? (i := 880) (by decide +kernel)⟩
theorem lk_RX8_89 : fLK RX8 89 yX3_isAcrossGrain := Or.inr ⟨"FrostMason", List.mem_of_getElem? (i := 884) (by decide +kernel)⟩
theorem lk_RX9_165 : fLK RX9 165 yX8_isAlive := Or.inr ⟨"FrostMason", List.mem_of_getElem? (i := 888) (by decide +kernel)⟩
theorem lk_RX9_169 : fLK RX9 169 yX8_pieceUnder := Or.inr ⟨"FrostMason", List.mem_of_getElem? (i := 889) (by decide +kernel)⟩
theorem lk_RL_113 : fLK RL 113 yL_order := Or.inl (List.mem_of_getElem? (i := 890) (by decide +kernel))
theorem lk_RL_24 : fLK RL 24 yX9_order := Or.inl (List.mem_of_getElem? (i := 893) (by decide +kernel))
theorem lk_RX9_175 : fLK RX9 175 yX9_checkOrder := Or.inl (List.mem_of_getElem? (i := 897) (by decide +kernel))
theorem lk_RL_116 : fLK RL 116 yL_piece := Or.inl (List.mem_of_getElem? (i := 902) (by decide +kernel))
theorem lk_RL_27 : fLK RL 27 yX9_piece := Or.inl (List.mem_of_getElem? (i := 906) (by decide +kernel))
theorem lk_RL_119 : fLK RL 119 yL_odds := Or.inl (List.mem_of_getElem? (i := 926) (by decide +kernel))
theorem lk_RL_32 : fLK RL 32 yX9_odds := Or.inl (List.mem_of_getElem? (i := 929) (by decide +kernel))
theorem lk_RL_126 : fLK RL 126 yL_night := Or.inl (List.mem_of_getElem? (i := 933) (by decide +kernel))
theorem lk_RL_35 : fLK RL 35 yX9_night := Or.inl (List.mem_of_getElem? (i := 937) (by decide +kernel))
theorem lk_RX9_204 : fLK RX9 204 yX9_checkFill := Or.inl (List.mem_of_getElem? (i := 941) (by decide +kernel))
theorem lk_RX9_287 : fLK RX9 287 yJ6_bitCount_0f7a4 := Or.inl (List.mem_of_getElem? (i := 946) (by decide +kernel))
theorem lk_RX9_207 : fLK RX9 207 yX9_checkNightLeft := Or.inl (List.mem_of_getElem? (i := 953) (by decide +kernel))
theorem lk_RX9_210 : fLK RX9 210 yX8_drawCold := Or.inr ⟨"FrostMason", List.mem_of_getElem? (i := 973) (by decide +kernel)⟩
theorem lk_RX8_121 : fLK RX8 121 yX3_hasOdds := Or.inr ⟨"FrostMason", List.mem_of_getElem? (i := 977) (by decide +kernel)⟩
theorem lk_RX8_124 : fLK RX8 124 yX4_eighth := Or.inr ⟨"FrostMason", List.mem_of_getElem? (i := 981) (by decide +kernel)⟩
theorem lk_RX4_13 : fLK RX4 13 yX4_step := Or.inl (List.mem_of_getElem? (i := 985) (by decide +kernel))
theorem lk_RX8_128 : fLK RX8 128 yX3_coldOf := Or.inr ⟨"FrostMason", List.mem_of_getElem? (i := 990) (by decide +kernel)⟩
theorem lk_RX9_214 : fLK RX9 214 yX8_goThrough := Or.inr ⟨"FrostMason", List.mem_of_getElem? (i := 994) (by decide +kernel)⟩
theorem lk_RX8_134 : fLK RX8 134 yX8_needOf := Or.inl (List.mem_of_getElem? (i := 998) (by decide +kernel))
theorem lk_RX8_137 : fLK RX8 137 yX8_split := Or.inl (List.mem_of_getElem? (i := 999) (by decide +kernel))
theorem ml_RX8_156 : Cond.methodLink RX8 156 ⟨RX1, "quarter", "()I"⟩ ∈ lw_tbl := List.mem_of_getElem? (i := 1003) (by decide +kernel)
theorem lk_RX8_161 : fLK RX8 161 yX8_divide := Or.inl (List.mem_of_getElem? (i := 1012) (by decide +kernel))
theorem lk_RX8_165 : fLK RX8 165 yX8_note := Or.inl (List.mem_of_getElem? (i := 1016) (by decide +kernel))
theorem lk_RX8_141 : fLK RX8 141 yX8_bruise := Or.inl (List.mem_of_getElem? (i := 1020) (by decide +kernel))
theorem ml_RX8_151 : Cond.methodLink RX8 151 yJ9_max_7cf53 ∈ lw_tbl := List.mem_of_getElem? (i := 1024) (by decide +kernel)
theorem lk_RX8_148 : fLK RX8 148 yX8_deliver := Or.inl (List.mem_of_getElem? (i := 1025) (by decide +kernel))
theorem lk_RX8_174 : fLK RX8 174 yX8_isOpen := Or.inl (List.mem_of_getElem? (i := 1029) (by decide +kernel))
theorem lk_RX8_183 : fLK RX8 183 yX8_isDone := Or.inl (List.mem_of_getElem? (i := 1033) (by decide +kernel))
theorem lk_RX8_177 : fLK RX8 177 yX8_deliverTo := Or.inl (List.mem_of_getElem? (i := 1037) (by decide +kernel))
theorem lk_RX8_186 : fLK RX8 186 yX8_isLying := Or.inl (List.mem_of_getElem? (i := 1041) (by decide +kernel))
theorem lk_RX8_115 : fLK RX8 115 yX8_pieceWide := Or.inl (List.mem_of_getElem? (i := 1042) (by decide +kernel))
theorem lk_RX8_118 : fLK RX8 118 yX8_pieceHigh := Or.inl (List.mem_of_getElem? (i := 1043) (by decide +kernel))
theorem lk_RX8_189 : fLK RX8 189 yX3_isOfSize := Or.inr ⟨"FrostMason", List.mem_of_getElem? (i := 1044) (by decide +kernel)⟩
theorem lk_RL_129 : fLK RL 129 yL_sums := Or.inl (List.mem_of_getElem? (i := 1048) (by decide +kernel))
theorem lk_RL_40 : fLK RL 40 yX9_sums := Or.inl (List.mem_of_getElem? (i := 1051) (by decide +kernel))
theorem lk_RX9_218 : fLK RX9 218 yX8_stone := Or.inr ⟨"FrostMason", List.mem_of_getElem? (i := 1055) (by decide +kernel)⟩
theorem lk_RX9_234 : fLK RX9 234 yX8_unwanted := Or.inr ⟨"FrostMason", List.mem_of_getElem? (i := 1059) (by decide +kernel)⟩
theorem lk_RX8_192 : fLK RX8 192 yX3_orderOfSize := Or.inr ⟨"FrostMason", List.mem_of_getElem? (i := 1063) (by decide +kernel)⟩
theorem lk_RX3_64 : fLK RX3 64 yX3_isOfSize := Or.inl (List.mem_of_getElem? (i := 1067) (by decide +kernel))
theorem lk_RL_132 : fLK RL 132 yL_trace := Or.inl (List.mem_of_getElem? (i := 1068) (by decide +kernel))
theorem lk_RL_43 : fLK RL 43 yX9_trace := Or.inl (List.mem_of_getElem? (i := 1071) (by decide +kernel))
theorem lk_RL_143 : fLK RL 143 yL_left := Or.inl (List.mem_of_getElem? (i := 1075) (by decide +kernel))
theorem lk_RL_46 : fLK RL 46 yX9_left := Or.inl (List.mem_of_getElem? (i := 1078) (by decide +kernel))
theorem lk_RX9_246 : fLK RX9 246 yX8_canSplit := Or.inr ⟨"FrostMason", List.mem_of_getElem? (i := 1082) (by decide +kernel)⟩
theorem lk_RX9_250 : fLK RX9 250 yX8_partWide := Or.inr ⟨"FrostMason", List.mem_of_getElem? (i := 1086) (by decide +kernel)⟩
theorem lk_RX8_111 : fLK RX8 111 yX8_partSide := Or.inl (List.mem_of_getElem? (i := 1090) (by decide +kernel))
theorem lk_RX9_254 : fLK RX9 254 yX8_partHigh := Or.inr ⟨"FrostMason", List.mem_of_getElem? (i := 1094) (by decide +kernel)⟩
theorem lk_RL_147 : fLK RL 147 yL_fits := Or.inl (List.mem_of_getElem? (i := 1098) (by decide +kernel))
theorem lk_RL_50 : fLK RL 50 yX9_fits := Or.inl (List.mem_of_getElem? (i := 1101) (by decide +kernel))
theorem lk_RX9_257 : fLK RX9 257 yX3_orderOfSize := Or.inr ⟨"FrostMason", List.mem_of_getElem? (i := 1105) (by decide +kernel)⟩
theorem lk_RL_150 : fLK RL 150 yL_plan := Or.inl (List.mem_of_getElem? (i := 1106) (by decide +kernel))
theorem lk_RL_53 : fLK RL 53 yX9_plan := Or.inl (List.mem_of_getElem? (i := 1109) (by decide +kernel))
theorem lk_RX9_263 : fLK RX9 263 yX0_addPlan := Or.inr ⟨"FrostMason", List.mem_of_getElem? (i := 1114) (by decide +kernel)⟩
theorem lk_RL_157 : fLK RL 157 yL_would := Or.inl (List.mem_of_getElem? (i := 1118) (by decide +kernel))
theorem lk_RL_56 : fLK RL 56 yX9_would := Or.inl (List.mem_of_getElem? (i := 1121) (by decide +kernel))
theorem lk_RX9_269 : fLK RX9 269 yX9_followPlan := Or.inl (List.mem_of_getElem? (i := 1125) (by decide +kernel))
theorem lk_RX9_347 : fLK RX9 347 yX0_planOf := Or.inr ⟨"FrostMason", List.mem_of_getElem? (i := 1129) (by decide +kernel)⟩
theorem lk_RX9_350 : fLK RX9 350 yX8_fillable := Or.inr ⟨"FrostMason", List.mem_of_getElem? (i := 1133) (by decide +kernel)⟩
theorem lk_RX9_272 : fLK RX9 272 yX8_ordersDone := Or.inr ⟨"FrostMason", List.mem_of_getElem? (i := 1137) (by decide +kernel)⟩
theorem lk_RL_160 : fLK RL 160 yL_promise := Or.inl (List.mem_of_getElem? (i := 1141) (by decide +kernel))
theorem lk_RL_59 : fLK RL 59 yX9_promise := Or.inl (List.mem_of_getElem? (i := 1144) (by decide +kernel))
theorem lk_RX9_275 : fLK RX9 275 yX8_isDone := Or.inr ⟨"FrostMason", List.mem_of_getElem? (i := 1148) (by decide +kernel)⟩
theorem lk_RL_163 : fLK RL 163 yL_tonight := Or.inl (List.mem_of_getElem? (i := 1149) (by decide +kernel))
theorem lk_RL_62 : fLK RL 62 yX9_tonight := Or.inl (List.mem_of_getElem? (i := 1152) (by decide +kernel))
theorem lk_RX9_278 : fLK RX9 278 yX9_foresee := Or.inl (List.mem_of_getElem? (i := 1156) (by decide +kernel))
theorem lk_RX9_353 : fLK RX9 353 yX2_mostOf := Or.inr ⟨"FrostMason", List.mem_of_getElem? (i := 1160) (by decide +kernel)⟩
theorem lk_RX2_38 : fLK RX2 38 yX8_mayBePaid := Or.inr ⟨"FrostMason", List.mem_of_getElem? (i := 1164) (by decide +kernel)⟩
theorem lk_RX2_42 : fLK RX2 42 yX8_firstAlive := Or.inr ⟨"FrostMason", List.mem_of_getElem? (i := 1168) (by decide +kernel)⟩
theorem lk_RX2_46 : fLK RX2 46 yJ6_bitCount_0f7a4 := Or.inl (List.mem_of_getElem? (i := 1169) (by decide +kernel))
theorem lk_RX2_58 : fLK RX2 58 yX2_sumOf := Or.inl (List.mem_of_getElem? (i := 1171) (by decide +kernel))
theorem lk_RX2_66 : fLK RX2 66 yX8_actAlike := Or.inr ⟨"FrostMason", List.mem_of_getElem? (i := 1175) (by decide +kernel)⟩
theorem lk_RX8_131 : fLK RX8 131 yX8_effectOf := Or.inl (List.mem_of_getElem? (i := 1179) (by decide +kernel))
theorem lk_RX2_70 : fLK RX2 70 yX7_begin := Or.inr ⟨"FrostMason", List.mem_of_getElem? (i := 1183) (by decide +kernel)⟩
theorem lk_RX2_73 : fLK RX2 73 yX8_copyFrom := Or.inr ⟨"FrostMason", List.mem_of_getElem? (i := 1187) (by decide +kernel)⟩
theorem lk_RX2_77 : fLK RX2 77 yX8_goThrough := Or.inr ⟨"FrostMason", List.mem_of_getElem? (i := 1188) (by decide +kernel)⟩
theorem lk_RX2_86 : fLK RX2 86 yX2_mostOf := Or.inl (List.mem_of_getElem? (i := 1190) (by decide +kernel))
theorem lk_RX2_90 : fLK RX2 90 yX7_weight := Or.inr ⟨"FrostMason", List.mem_of_getElem? (i := 1191) (by decide +kernel)⟩
theorem lk_RX2_94 : fLK RX2 94 yX7_advance := Or.inr ⟨"FrostMason", List.mem_of_getElem? (i := 1197) (by decide +kernel)⟩
theorem lk_RL_167 : fLK RL 167 yL_worth := Or.inl (List.mem_of_getElem? (i := 1201) (by decide +kernel))
theorem lk_RL_66 : fLK RL 66 yX9_worth := Or.inl (List.mem_of_getElem? (i := 1204) (by decide +kernel))
theorem lk_RX9_283 : fLK RX9 283 yX9_inLeastTerms := Or.inl (List.mem_of_getElem? (i := 1209) (by decide +kernel))
theorem lk_RL_170 : fLK RL 170 yL_now := Or.inl (List.mem_of_getElem? (i := 1212) (by decide +kernel))
theorem lk_RL_70 : fLK RL 70 yX9_now := Or.inl (List.mem_of_getElem? (i := 1215) (by decide +kernel))
theorem lk_RX9_292 : fLK RX9 292 yX2_sumOf := Or.inr ⟨"FrostMason", List.mem_of_getElem? (i := 1219) (by decide +kernel)⟩
theorem lk_RL_173 : fLK RL 173 yL_deeper := Or.inl (List.mem_of_getElem? (i := 1221) (by decide +kernel))
theorem lk_RL_74 : fLK RL 74 yX9_deeper := Or.inl (List.mem_of_getElem? (i := 1224) (by decide +kernel))
theorem lk_RX9_300 : fLK RX9 300 yX9_sumIfDeeper := Or.inl (List.mem_of_getElem? (i := 1229) (by decide +kernel))
theorem ml_RX9_360 : Cond.methodLink RX9 360 yJ9_min_7cf53 ∈ lw_tbl := List.mem_of_getElem? (i := 1233) (by decide +kernel)
theorem lk_RL_181 : fLK RL 181 yL_trust := Or.inl (List.mem_of_getElem? (i := 1234) (by decide +kernel))
theorem lk_RL_77 : fLK RL 77 yX9_trust := Or.inl (List.mem_of_getElem? (i := 1237) (by decide +kernel))
theorem lk_RL_193 : fLK RL 193 yL_face := Or.inl (List.mem_of_getElem? (i := 1241) (by decide +kernel))
theorem lk_RL_81 : fLK RL 81 yX9_face := Or.inl (List.mem_of_getElem? (i := 1244) (by decide +kernel))
theorem lk_RL_87 : fLK RL 87 yX10_init := Or.inl (List.mem_of_getElem? (i := 1250) (by decide +kernel))
theorem ml_RX10_3 : Cond.methodLink RX10 3 objectInit ∈ lw_tbl := List.mem_of_getElem? (i := 1253) (by decide +kernel)
theorem lk_RX10_73 : fLK RX10 73 yX10_tellsNothing := Or.inl (List.mem_of_getElem? (i := 1256) (by decide +kernel))
theorem lk_RL_99 : fLK RL 99 yX10_thrown := Or.inl (List.mem_of_getElem? (i := 1369) (by decide +kernel))
theorem lk_RL_92 : fLK RL 92 yX10_feed := Or.inl (List.mem_of_getElem? (i := 1373) (by decide +kernel))
theorem lk_RL_98 : fLK RL 98 yX10_quarry := Or.inl (List.mem_of_getElem? (i := 1377) (by decide +kernel))
theorem lk_RX10_110 : fLK RX10 110 yX10_in := Or.inl (List.mem_of_getElem? (i := 1381) (by decide +kernel))
theorem lk_RX10_148 : fLK RX10 148 yX10_bad := Or.inl (List.mem_of_getElem? (i := 1384) (by decide +kernel))
theorem lk_RX10_98 : fLK RX10 98 yX10_blanks := Or.inl (List.mem_of_getElem? (i := 1388) (by decide +kernel))
theorem lk_RX10_88 : fLK RX10 88 yX10_byteAt := Or.inl (List.mem_of_getElem? (i := 1392) (by decide +kernel))
theorem lk_RX10_152 : fLK RX10 152 yX10_clause := Or.inl (List.mem_of_getElem? (i := 1396) (by decide +kernel))
theorem lk_RX10_125 : fLK RX10 125 yX10_kindHere := Or.inl (List.mem_of_getElem? (i := 1400) (by decide +kernel))
theorem lk_RX10_118 : fLK RX10 118 yX10_six := Or.inl (List.mem_of_getElem? (i := 1404) (by decide +kernel))
theorem lk_RX10_122 : fLK RX10 122 yX10_isWord := Or.inl (List.mem_of_getElem? (i := 1407) (by decide +kernel))
theorem lk_RX10_114 : fLK RX10 114 yX10_wordHere := Or.inl (List.mem_of_getElem? (i := 1411) (by decide +kernel))
theorem lk_RX10_105 : fLK RX10 105 yX10_wrong := Or.inl (List.mem_of_getElem? (i := 1415) (by decide +kernel))
theorem lk_RX10_131 : fLK RX10 131 yX10_mostOf := Or.inl (List.mem_of_getElem? (i := 1419) (by decide +kernel))
theorem lk_RX10_134 : fLK RX10 134 yX10_number := Or.inl (List.mem_of_getElem? (i := 1422) (by decide +kernel))
theorem lk_RX10_101 : fLK RX10 101 yX10_isDigit := Or.inl (List.mem_of_getElem? (i := 1426) (by decide +kernel))
theorem lk_RX10_138 : fLK RX10 138 yX10_readsSlot := Or.inl (List.mem_of_getElem? (i := 1430) (by decide +kernel))
theorem lk_RX10_142 : fLK RX10 142 yX10_readsOdds := Or.inl (List.mem_of_getElem? (i := 1434) (by decide +kernel))
theorem lk_RX10_145 : fLK RX10 145 yX10_closes := Or.inl (List.mem_of_getElem? (i := 1438) (by decide +kernel))
theorem lk_RX10_155 : fLK RX10 155 yX10_lays := Or.inl (List.mem_of_getElem? (i := 1442) (by decide +kernel))
theorem lk_RL_105 : fLK RL 105 yX10_fault := Or.inl (List.mem_of_getElem? (i := 1446) (by decide +kernel))
theorem lk_RL_108 : fLK RL 108 yX10_told := Or.inl (List.mem_of_getElem? (i := 1450) (by decide +kernel))
theorem lk_RL_112 : fLK RL 112 yX10_slot := Or.inl (List.mem_of_getElem? (i := 1454) (by decide +kernel))
theorem lk_RX10_177 : fLK RX10 177 yX10_isSlot := Or.inl (List.mem_of_getElem? (i := 1458) (by decide +kernel))
theorem lk_RX10_180 : fLK RX10 180 yX10_needOf := Or.inl (List.mem_of_getElem? (i := 1462) (by decide +kernel))
theorem lk_RX10_174 : fLK RX10 174 yX10_isAcross := Or.inl (List.mem_of_getElem? (i := 1466) (by decide +kernel))
theorem lk_RX10_183 : fLK RX10 183 yX10_isAlive := Or.inl (List.mem_of_getElem? (i := 1470) (by decide +kernel))
theorem lk_RX10_168 : fLK RX10 168 yX10_pieceOf := Or.inl (List.mem_of_getElem? (i := 1474) (by decide +kernel))
theorem lk_RX10_171 : fLK RX10 171 yX10_isInside := Or.inl (List.mem_of_getElem? (i := 1478) (by decide +kernel))
theorem lk_RL_115 : fLK RL 115 yX10_order := Or.inl (List.mem_of_getElem? (i := 1482) (by decide +kernel))
theorem lk_RX10_186 : fLK RX10 186 yX10_isOrder := Or.inl (List.mem_of_getElem? (i := 1486) (by decide +kernel))
theorem lk_RL_118 : fLK RL 118 yX10_piece := Or.inl (List.mem_of_getElem? (i := 1490) (by decide +kernel))
theorem lk_RL_121 : fLK RL 121 yX10_odds := Or.inl (List.mem_of_getElem? (i := 1494) (by decide +kernel))
theorem lk_RL_125 : fLK RL 125 yX10_seed := Or.inl (List.mem_of_getElem? (i := 1498) (by decide +kernel))
theorem lk_RL_128 : fLK RL 128 yX10_night := Or.inl (List.mem_of_getElem? (i := 1502) (by decide +kernel))
theorem lk_RX10_221 : fLK RX10 221 yX10_isFill := Or.inl (List.mem_of_getElem? (i := 1506) (by decide +kernel))
theorem lk_RX10_215 : fLK RX10 215 yX10_alive := Or.inl (List.mem_of_getElem? (i := 1510) (by decide +kernel))
theorem lk_RX10_218 : fLK RX10 218 yX10_ones := Or.inl (List.mem_of_getElem? (i := 1514) (by decide +kernel))
theorem lk_RX10_224 : fLK RX10 224 yX10_isOver := Or.inl (List.mem_of_getElem? (i := 1517) (by decide +kernel))
theorem lk_RX10_228 : fLK RX10 228 yX10_drawn := Or.inl (List.mem_of_getElem? (i := 1521) (by decide +kernel))
theorem lk_RX10_190 : fLK RX10 190 yX10_draws := Or.inl (List.mem_of_getElem? (i := 1525) (by decide +kernel))
theorem lk_RX10_231 : fLK RX10 231 yX10_freezes := Or.inl (List.mem_of_getElem? (i := 1530) (by decide +kernel))
theorem lk_RX10_197 : fLK RX10 197 yX10_mayStray := Or.inl (List.mem_of_getElem? (i := 1534) (by decide +kernel))
theorem lk_RX10_201 : fLK RX10 201 yX10_lineOf := Or.inl (List.mem_of_getElem? (i := 1538) (by decide +kernel))
theorem lk_RX10_204 : fLK RX10 204 yX10_splits := Or.inl (List.mem_of_getElem? (i := 1542) (by decide +kernel))
theorem lk_RX10_208 : fLK RX10 208 yX10_bruises := Or.inl (List.mem_of_getElem? (i := 1546) (by decide +kernel))
theorem lk_RX10_234 : fLK RX10 234 yX10_sledges := Or.inl (List.mem_of_getElem? (i := 1550) (by decide +kernel))
theorem lk_RX10_212 : fLK RX10 212 yX10_isSize := Or.inl (List.mem_of_getElem? (i := 1554) (by decide +kernel))
theorem lk_RL_131 : fLK RL 131 yX10_sums := Or.inl (List.mem_of_getElem? (i := 1558) (by decide +kernel))
theorem lk_RX10_237 : fLK RX10 237 yX10_area := Or.inl (List.mem_of_getElem? (i := 1562) (by decide +kernel))
theorem lk_RX10_240 : fLK RX10 240 yX10_orderOf := Or.inl (List.mem_of_getElem? (i := 1566) (by decide +kernel))
theorem lk_RL_134 : fLK RL 134 yX10_trace := Or.inl (List.mem_of_getElem? (i := 1570) (by decide +kernel))
theorem lk_RL_138 : fLK RL 138 yX10_cold := Or.inl (List.mem_of_getElem? (i := 1574) (by decide +kernel))
theorem lk_RL_142 : fLK RL 142 yX10_undone := Or.inl (List.mem_of_getElem? (i := 1578) (by decide +kernel))
theorem lk_RL_146 : fLK RL 146 yX10_left := Or.inl (List.mem_of_getElem? (i := 1582) (by decide +kernel))
theorem lk_RX10_243 : fLK RX10 243 yX10_sideOf := Or.inl (List.mem_of_getElem? (i := 1586) (by decide +kernel))
theorem lk_RL_149 : fLK RL 149 yX10_fits := Or.inl (List.mem_of_getElem? (i := 1590) (by decide +kernel))
theorem lk_RL_152 : fLK RL 152 yX10_plan := Or.inl (List.mem_of_getElem? (i := 1594) (by decide +kernel))
theorem lk_RL_156 : fLK RL 156 yX10_clear := Or.inl (List.mem_of_getElem? (i := 1598) (by decide +kernel))
theorem lk_RL_159 : fLK RL 159 yX10_would := Or.inl (List.mem_of_getElem? (i := 1602) (by decide +kernel))
theorem lk_RX10_253 : fLK RX10 253 yX10_puts := Or.inl (List.mem_of_getElem? (i := 1606) (by decide +kernel))
theorem lk_RX10_256 : fLK RX10 256 yX10_goes := Or.inl (List.mem_of_getElem? (i := 1610) (by decide +kernel))
theorem lk_RX10_250 : fLK RX10 250 yX10_watered := Or.inl (List.mem_of_getElem? (i := 1614) (by decide +kernel))
theorem lk_RX10_259 : fLK RX10 259 yX10_takes := Or.inl (List.mem_of_getElem? (i := 1618) (by decide +kernel))
theorem lk_RL_162 : fLK RL 162 yX10_promise := Or.inl (List.mem_of_getElem? (i := 1622) (by decide +kernel))
theorem lk_RL_166 : fLK RL 166 yX10_tonight := Or.inl (List.mem_of_getElem? (i := 1626) (by decide +kernel))
theorem lk_RX10_298 : fLK RX10 298 yX10_findTonight := Or.inl (List.mem_of_getElem? (i := 1630) (by decide +kernel))
theorem lk_RX10_283 : fLK RX10 283 yX10_setOf := Or.inl (List.mem_of_getElem? (i := 1635) (by decide +kernel))
theorem lk_RX10_286 : fLK RX10 286 yX10_byOdds := Or.inl (List.mem_of_getElem? (i := 1639) (by decide +kernel))
theorem lk_RX10_277 : fLK RX10 277 yX10_branches := Or.inl (List.mem_of_getElem? (i := 1643) (by decide +kernel))
theorem lk_RX10_267 : fLK RX10 267 yX10_bestNext := Or.inl (List.mem_of_getElem? (i := 1648) (by decide +kernel))
theorem lk_RX10_290 : fLK RX10 290 yX10_fours := Or.inl (List.mem_of_getElem? (i := 1652) (by decide +kernel))
theorem lk_RL_169 : fLK RL 169 yX10_worth := Or.inl (List.mem_of_getElem? (i := 1657) (by decide +kernel))
theorem lk_RX10_303 : fLK RX10 303 yX10_least := Or.inl (List.mem_of_getElem? (i := 1662) (by decide +kernel))
theorem lk_RL_172 : fLK RL 172 yX10_now := Or.inl (List.mem_of_getElem? (i := 1665) (by decide +kernel))
theorem lk_RL_175 : fLK RL 175 yX10_deeper := Or.inl (List.mem_of_getElem? (i := 1670) (by decide +kernel))
theorem lk_RL_180 : fLK RL 180 yX10_thumb := Or.inl (List.mem_of_getElem? (i := 1674) (by decide +kernel))
theorem lk_RL_184 : fLK RL 184 yX10_trust := Or.inl (List.mem_of_getElem? (i := 1678) (by decide +kernel))
theorem lk_RL_188 : fLK RL 188 yX10_listening := Or.inl (List.mem_of_getElem? (i := 1682) (by decide +kernel))
theorem lk_RL_192 : fLK RL 192 yX10_tower := Or.inl (List.mem_of_getElem? (i := 1686) (by decide +kernel))
theorem lk_RX10_309 : fLK RX10 309 yX10_isOn := Or.inl (List.mem_of_getElem? (i := 1690) (by decide +kernel))
theorem lk_RX10_312 : fLK RX10 312 yX10_side := Or.inl (List.mem_of_getElem? (i := 1694) (by decide +kernel))
theorem lk_RL_195 : fLK RL 195 yX10_face := Or.inl (List.mem_of_getElem? (i := 1698) (by decide +kernel))
theorem lk_RL_199 : fLK RL 199 yX10_image := Or.inl (List.mem_of_getElem? (i := 1702) (by decide +kernel))
theorem lk_RX10_323 : fLK RX10 323 yX10_movesAll := Or.inl (List.mem_of_getElem? (i := 1706) (by decide +kernel))
theorem lk_RX10_319 : fLK RX10 319 yX10_moves := Or.inl (List.mem_of_getElem? (i := 1710) (by decide +kernel))
theorem lk_RL_203 : fLK RL 203 yX10_restore := Or.inl (List.mem_of_getElem? (i := 1714) (by decide +kernel))
theorem lk_RL_207 : fLK RL 207 yX10_count := Or.inl (List.mem_of_getElem? (i := 1718) (by decide +kernel))
theorem ff_RX3_9 : Cond.fieldLink RX3 9 (fKT 2 0).1 (fKT 2 0).2.1 (fKT 2 0).2.2.1 ∈ lw_tbl := List.mem_of_getElem? (i := 180) (by decide +kernel)
theorem fl_RX3_9 : fFL RX3 9 2 0 := ⟨by decide, by decide, Or.inl ff_RX3_9⟩
theorem fl_RX8_65 : fFL RX8 65 2 0 := ⟨by decide, by decide, Or.inr ⟨"FrostMason", List.mem_of_getElem? (i := 181) (by decide +kernel)⟩⟩
theorem fl_RX5_135 : fFL RX5 135 2 0 := ⟨by decide, by decide, Or.inr ⟨"FrostMason", List.mem_of_getElem? (i := 182) (by decide +kernel)⟩⟩
theorem ff_RX3_15 : Cond.fieldLink RX3 15 (fKT 2 1).1 (fKT 2 1).2.1 (fKT 2 1).2.2.1 ∈ lw_tbl := List.mem_of_getElem? (i := 183) (by decide +kernel)
theorem fl_RX3_15 : fFL RX3 15 2 1 := ⟨by decide, by decide, Or.inl ff_RX3_15⟩
theorem fl_RX8_71 : fFL RX8 71 2 1 := ⟨by decide, by decide, Or.inr ⟨"FrostMason", List.mem_of_getElem? (i := 184) (by decide +kernel)⟩⟩
theorem fl_RX9_172 : fFL RX9 172 2 1 := ⟨by decide, by decide, Or.inr ⟨"FrostMason", List.mem_of_getElem? (i := 185) (by decide +kernel)⟩⟩
theorem ff_RX3_18 : Cond.fieldLink RX3 18 (fKT 2 2).1 (fKT 2 2).2.1 (fKT 2 2).2.2.1 ∈ lw_tbl := List.mem_of_getElem? (i := 186) (by decide +kernel)
theorem fl_RX3_18 : fFL RX3 18 2 2 := ⟨by decide, by decide, Or.inl ff_RX3_18⟩
theorem fl_RX9_181 : fFL RX9 181 2 2 := ⟨by decide, by decide, Or.inr ⟨"FrostMason", List.mem_of_getElem? (i := 187) (by decide +kernel)⟩⟩
theorem fl_RX8_180 : fFL RX8 180 2 2 := ⟨by decide, by decide, Or.inr ⟨"FrostMason", List.mem_of_getElem? (i := 188) (by decide +kernel)⟩⟩
theorem ff_RX3_21 : Cond.fieldLink RX3 21 (fKT 2 3).1 (fKT 2 3).2.1 (fKT 2 3).2.2.1 ∈ lw_tbl := List.mem_of_getElem? (i := 189) (by decide +kernel)
theorem fl_RX3_21 : fFL RX3 21 2 3 := ⟨by decide, by decide, Or.inl ff_RX3_21⟩
theorem ff_RX3_24 : Cond.fieldLink RX3 24 (fKT 2 4).1 (fKT 2 4).2.1 (fKT 2 4).2.2.1 ∈ lw_tbl := List.mem_of_getElem? (i := 190) (by decide +kernel)
theorem fl_RX3_24 : fFL RX3 24 2 4 := ⟨by decide, by decide, Or.inl ff_RX3_24⟩
theorem fl_RX2_62 : fFL RX2 62 2 4 := ⟨by decide, by decide, Or.inr ⟨"FrostMason", List.mem_of_getElem? (i := 191) (by decide +kernel)⟩⟩
theorem fl_RX9_192 : fFL RX9 192 2 4 := ⟨by decide, by decide, Or.inr ⟨"FrostMason", List.mem_of_getElem? (i := 192) (by decide +kernel)⟩⟩
theorem fl_RX5_146 : fFL RX5 146 2 4 := ⟨by decide, by decide, Or.inr ⟨"FrostMason", List.mem_of_getElem? (i := 193) (by decide +kernel)⟩⟩
theorem ff_RX3_30 : Cond.fieldLink RX3 30 (fKT 2 5).1 (fKT 2 5).2.1 (fKT 2 5).2.2.1 ∈ lw_tbl := List.mem_of_getElem? (i := 194) (by decide +kernel)
theorem fl_RX3_30 : fFL RX3 30 2 5 := ⟨by decide, by decide, Or.inl ff_RX3_30⟩
theorem fl_RX8_60 : fFL RX8 60 2 5 := ⟨by decide, by decide, Or.inr ⟨"FrostMason", List.mem_of_getElem? (i := 195) (by decide +kernel)⟩⟩
theorem fl_RX9_124 : fFL RX9 124 2 5 := ⟨by decide, by decide, Or.inr ⟨"FrostMason", List.mem_of_getElem? (i := 196) (by decide +kernel)⟩⟩
theorem fl_RX5_98 : fFL RX5 98 2 5 := ⟨by decide, by decide, Or.inr ⟨"FrostMason", List.mem_of_getElem? (i := 197) (by decide +kernel)⟩⟩
theorem ff_RX3_34 : Cond.fieldLink RX3 34 (fKT 2 6).1 (fKT 2 6).2.1 (fKT 2 6).2.2.1 ∈ lw_tbl := List.mem_of_getElem? (i := 198) (by decide +kernel)
theorem fl_RX3_34 : fFL RX3 34 2 6 := ⟨by decide, by decide, Or.inl ff_RX3_34⟩
theorem fl_RX8_68 : fFL RX8 68 2 6 := ⟨by decide, by decide, Or.inr ⟨"FrostMason", List.mem_of_getElem? (i := 199) (by decide +kernel)⟩⟩
theorem fl_RX9_127 : fFL RX9 127 2 6 := ⟨by decide, by decide, Or.inr ⟨"FrostMason", List.mem_of_getElem? (i := 200) (by decide +kernel)⟩⟩
theorem fl_RX5_101 : fFL RX5 101 2 6 := ⟨by decide, by decide, Or.inr ⟨"FrostMason", List.mem_of_getElem? (i := 201) (by decide +kernel)⟩⟩
theorem ff_RX3_37 : Cond.fieldLink RX3 37 (fKT 2 7).1 (fKT 2 7).2.1 (fKT 2 7).2.2.1 ∈ lw_tbl := List.mem_of_getElem? (i := 202) (by decide +kernel)
theorem fl_RX3_37 : fFL RX3 37 2 7 := ⟨by decide, by decide, Or.inl ff_RX3_37⟩
theorem fl_RX9_130 : fFL RX9 130 2 7 := ⟨by decide, by decide, Or.inr ⟨"FrostMason", List.mem_of_getElem? (i := 203) (by decide +kernel)⟩⟩
theorem fl_RX5_104 : fFL RX5 104 2 7 := ⟨by decide, by decide, Or.inr ⟨"FrostMason", List.mem_of_getElem? (i := 204) (by decide +kernel)⟩⟩
theorem fl_RX8_171 : fFL RX8 171 2 7 := ⟨by decide, by decide, Or.inr ⟨"FrostMason", List.mem_of_getElem? (i := 205) (by decide +kernel)⟩⟩
theorem ff_RX3_40 : Cond.fieldLink RX3 40 (fKT 2 8).1 (fKT 2 8).2.1 (fKT 2 8).2.2.1 ∈ lw_tbl := List.mem_of_getElem? (i := 206) (by decide +kernel)
theorem fl_RX3_40 : fFL RX3 40 2 8 := ⟨by decide, by decide, Or.inl ff_RX3_40⟩
theorem fl_RX5_107 : fFL RX5 107 2 8 := ⟨by decide, by decide, Or.inr ⟨"FrostMason", List.mem_of_getElem? (i := 207) (by decide +kernel)⟩⟩
theorem ff_RX3_43 : Cond.fieldLink RX3 43 (fKT 2 9).1 (fKT 2 9).2.1 (fKT 2 9).2.2.1 ∈ lw_tbl := List.mem_of_getElem? (i := 208) (by decide +kernel)
theorem fl_RX3_43 : fFL RX3 43 2 9 := ⟨by decide, by decide, Or.inl ff_RX3_43⟩
theorem fl_RX2_53 : fFL RX2 53 2 9 := ⟨by decide, by decide, Or.inr ⟨"FrostMason", List.mem_of_getElem? (i := 209) (by decide +kernel)⟩⟩
theorem fl_RX9_133 : fFL RX9 133 2 9 := ⟨by decide, by decide, Or.inr ⟨"FrostMason", List.mem_of_getElem? (i := 210) (by decide +kernel)⟩⟩
theorem fl_RX5_125 : fFL RX5 125 2 9 := ⟨by decide, by decide, Or.inr ⟨"FrostMason", List.mem_of_getElem? (i := 211) (by decide +kernel)⟩⟩
theorem fl_RX8_108 : fFL RX8 108 2 9 := ⟨by decide, by decide, Or.inr ⟨"FrostMason", List.mem_of_getElem? (i := 212) (by decide +kernel)⟩⟩
theorem ff_RX3_46 : Cond.fieldLink RX3 46 (fKT 2 10).1 (fKT 2 10).2.1 (fKT 2 10).2.2.1 ∈ lw_tbl := List.mem_of_getElem? (i := 213) (by decide +kernel)
theorem fl_RX3_46 : fFL RX3 46 2 10 := ⟨by decide, by decide, Or.inl ff_RX3_46⟩
theorem fl_RX9_136 : fFL RX9 136 2 10 := ⟨by decide, by decide, Or.inr ⟨"FrostMason", List.mem_of_getElem? (i := 214) (by decide +kernel)⟩⟩
theorem fl_RX5_127 : fFL RX5 127 2 10 := ⟨by decide, by decide, Or.inr ⟨"FrostMason", List.mem_of_getElem? (i := 215) (by decide +kernel)⟩⟩
theorem fl_RX8_168 : fFL RX8 168 2 10 := ⟨by decide, by decide, Or.inr ⟨"FrostMason", List.mem_of_getElem? (i := 216) (by decide +kernel)⟩⟩
theorem ff_RX3_49 : Cond.fieldLink RX3 49 (fKT 2 11).1 (fKT 2 11).2.1 (fKT 2 11).2.2.1 ∈ lw_tbl := List.mem_of_getElem? (i := 217) (by decide +kernel)
theorem fl_RX3_49 : fFL RX3 49 2 11 := ⟨by decide, by decide, Or.inl ff_RX3_49⟩
theorem fl_RX9_139 : fFL RX9 139 2 11 := ⟨by decide, by decide, Or.inr ⟨"FrostMason", List.mem_of_getElem? (i := 218) (by decide +kernel)⟩⟩
theorem fl_RX5_129 : fFL RX5 129 2 11 := ⟨by decide, by decide, Or.inr ⟨"FrostMason", List.mem_of_getElem? (i := 219) (by decide +kernel)⟩⟩
theorem fl_RX8_145 : fFL RX8 145 2 11 := ⟨by decide, by decide, Or.inr ⟨"FrostMason", List.mem_of_getElem? (i := 220) (by decide +kernel)⟩⟩
theorem ff_RX5_34 : Cond.fieldLink RX5 34 (fKT 4 0).1 (fKT 4 0).2.1 (fKT 4 0).2.2.1 ∈ lw_tbl := List.mem_of_getElem? (i := 256) (by decide +kernel)
theorem fl_RX5_34 : fFL RX5 34 4 0 := ⟨by decide, by decide, Or.inl ff_RX5_34⟩
theorem ff_RX5_12 : Cond.fieldLink RX5 12 (fKT 4 1).1 (fKT 4 1).2.1 (fKT 4 1).2.2.1 ∈ lw_tbl := List.mem_of_getElem? (i := 257) (by decide +kernel)
theorem fl_RX5_12 : fFL RX5 12 4 1 := ⟨by decide, by decide, Or.inl ff_RX5_12⟩
theorem fl_RX9_114 : fFL RX9 114 4 1 := ⟨by decide, by decide, Or.inr ⟨"FrostMason", List.mem_of_getElem? (i := 258) (by decide +kernel)⟩⟩
theorem ff_RX5_18 : Cond.fieldLink RX5 18 (fKT 4 2).1 (fKT 4 2).2.1 (fKT 4 2).2.2.1 ∈ lw_tbl := List.mem_of_getElem? (i := 259) (by decide +kernel)
theorem fl_RX5_18 : fFL RX5 18 4 2 := ⟨by decide, by decide, Or.inl ff_RX5_18⟩
theorem ff_RX5_22 : Cond.fieldLink RX5 22 (fKT 4 3).1 (fKT 4 3).2.1 (fKT 4 3).2.2.1 ∈ lw_tbl := List.mem_of_getElem? (i := 260) (by decide +kernel)
theorem fl_RX5_22 : fFL RX5 22 4 3 := ⟨by decide, by decide, Or.inl ff_RX5_22⟩
theorem ff_RX5_25 : Cond.fieldLink RX5 25 (fKT 4 4).1 (fKT 4 4).2.1 (fKT 4 4).2.2.1 ∈ lw_tbl := List.mem_of_getElem? (i := 261) (by decide +kernel)
theorem fl_RX5_25 : fFL RX5 25 4 4 := ⟨by decide, by decide, Or.inl ff_RX5_25⟩
theorem ff_RX5_28 : Cond.fieldLink RX5 28 (fKT 4 5).1 (fKT 4 5).2.1 (fKT 4 5).2.2.1 ∈ lw_tbl := List.mem_of_getElem? (i := 262) (by decide +kernel)
theorem fl_RX5_28 : fFL RX5 28 4 5 := ⟨by decide, by decide, Or.inl ff_RX5_28⟩
theorem fl_RX9_111 : fFL RX9 111 4 5 := ⟨by decide, by decide, Or.inr ⟨"FrostMason", List.mem_of_getElem? (i := 263) (by decide +kernel)⟩⟩
theorem ff_RX5_31 : Cond.fieldLink RX5 31 (fKT 4 6).1 (fKT 4 6).2.1 (fKT 4 6).2.2.1 ∈ lw_tbl := List.mem_of_getElem? (i := 264) (by decide +kernel)
theorem fl_RX5_31 : fFL RX5 31 4 6 := ⟨by decide, by decide, Or.inl ff_RX5_31⟩
theorem fl_RX9_108 : fFL RX9 108 4 6 := ⟨by decide, by decide, Or.inr ⟨"FrostMason", List.mem_of_getElem? (i := 265) (by decide +kernel)⟩⟩
theorem ff_RX4_7 : Cond.fieldLink RX4 7 (fKT 3 0).1 (fKT 3 0).2.1 (fKT 3 0).2.2.1 ∈ lw_tbl := List.mem_of_getElem? (i := 296) (by decide +kernel)
theorem fl_RX4_7 : fFL RX4 7 3 0 := ⟨by decide, by decide, Or.inl ff_RX4_7⟩
theorem fl_RX8_80 : fFL RX8 80 3 0 := ⟨by decide, by decide, Or.inr ⟨"FrostMason", List.mem_of_getElem? (i := 297) (by decide +kernel)⟩⟩
theorem fl_RX9_199 : fFL RX9 199 3 0 := ⟨by decide, by decide, Or.inr ⟨"FrostMason", List.mem_of_getElem? (i := 298) (by decide +kernel)⟩⟩
theorem ff_RX8_56 : Cond.fieldLink RX8 56 (fKT 7 0).1 (fKT 7 0).2.1 (fKT 7 0).2.2.1 ∈ lw_tbl := List.mem_of_getElem? (i := 302) (by decide +kernel)
theorem fl_RX8_56 : fFL RX8 56 7 0 := ⟨by decide, by decide, Or.inl ff_RX8_56⟩
theorem ff_RX8_9 : Cond.fieldLink RX8 9 (fKT 7 1).1 (fKT 7 1).2.1 (fKT 7 1).2.2.1 ∈ lw_tbl := List.mem_of_getElem? (i := 303) (by decide +kernel)
theorem fl_RX8_9 : fFL RX8 9 7 1 := ⟨by decide, by decide, Or.inl ff_RX8_9⟩
theorem fl_RX9_189 : fFL RX9 189 7 1 := ⟨by decide, by decide, Or.inr ⟨"FrostMason", List.mem_of_getElem? (i := 304) (by decide +kernel)⟩⟩
theorem ff_RX8_15 : Cond.fieldLink RX8 15 (fKT 7 2).1 (fKT 7 2).2.1 (fKT 7 2).2.2.1 ∈ lw_tbl := List.mem_of_getElem? (i := 305) (by decide +kernel)
theorem fl_RX8_15 : fFL RX8 15 7 2 := ⟨by decide, by decide, Or.inl ff_RX8_15⟩
theorem fl_RX6_25 : fFL RX6 25 7 2 := ⟨by decide, by decide, Or.inr ⟨"FrostMason", List.mem_of_getElem? (i := 306) (by decide +kernel)⟩⟩
theorem fl_RX9_145 : fFL RX9 145 7 2 := ⟨by decide, by decide, Or.inr ⟨"FrostMason", List.mem_of_getElem? (i := 307) (by decide +kernel)⟩⟩
theorem ff_RX8_19 : Cond.fieldLink RX8 19 (fKT 7 3).1 (fKT 7 3).2.1 (fKT 7 3).2.2.1 ∈ lw_tbl := List.mem_of_getElem? (i := 308) (by decide +kernel)
theorem fl_RX8_19 : fFL RX8 19 7 3 := ⟨by decide, by decide, Or.inl ff_RX8_19⟩
theorem fl_RX9_157 : fFL RX9 157 7 3 := ⟨by decide, by decide, Or.inr ⟨"FrostMason", List.mem_of_getElem? (i := 309) (by decide +kernel)⟩⟩
theorem ff_RX8_22 : Cond.fieldLink RX8 22 (fKT 7 4).1 (fKT 7 4).2.1 (fKT 7 4).2.2.1 ∈ lw_tbl := List.mem_of_getElem? (i := 310) (by decide +kernel)
theorem fl_RX8_22 : fFL RX8 22 7 4 := ⟨by decide, by decide, Or.inl ff_RX8_22⟩
theorem ff_RX8_25 : Cond.fieldLink RX8 25 (fKT 7 5).1 (fKT 7 5).2.1 (fKT 7 5).2.2.1 ∈ lw_tbl := List.mem_of_getElem? (i := 311) (by decide +kernel)
theorem fl_RX8_25 : fFL RX8 25 7 5 := ⟨by decide, by decide, Or.inl ff_RX8_25⟩
theorem fl_RX9_178 : fFL RX9 178 7 5 := ⟨by decide, by decide, Or.inr ⟨"FrostMason", List.mem_of_getElem? (i := 312) (by decide +kernel)⟩⟩
theorem ff_RX8_28 : Cond.fieldLink RX8 28 (fKT 7 6).1 (fKT 7 6).2.1 (fKT 7 6).2.2.1 ∈ lw_tbl := List.mem_of_getElem? (i := 313) (by decide +kernel)
theorem fl_RX8_28 : fFL RX8 28 7 6 := ⟨by decide, by decide, Or.inl ff_RX8_28⟩
theorem fl_RX9_240 : fFL RX9 240 7 6 := ⟨by decide, by decide, Or.inr ⟨"FrostMason", List.mem_of_getElem? (i := 314) (by decide +kernel)⟩⟩
theorem ff_RX8_31 : Cond.fieldLink RX8 31 (fKT 7 7).1 (fKT 7 7).2.1 (fKT 7 7).2.2.1 ∈ lw_tbl := List.mem_of_getElem? (i := 315) (by decide +kernel)
theorem fl_RX8_31 : fFL RX8 31 7 7 := ⟨by decide, by decide, Or.inl ff_RX8_31⟩
theorem fl_RX9_237 : fFL RX9 237 7 7 := ⟨by decide, by decide, Or.inr ⟨"FrostMason", List.mem_of_getElem? (i := 316) (by decide +kernel)⟩⟩
theorem ff_RX8_37 : Cond.fieldLink RX8 37 (fKT 7 8).1 (fKT 7 8).2.1 (fKT 7 8).2.2.1 ∈ lw_tbl := List.mem_of_getElem? (i := 317) (by decide +kernel)
theorem fl_RX8_37 : fFL RX8 37 7 8 := ⟨by decide, by decide, Or.inl ff_RX8_37⟩
theorem fl_RX9_195 : fFL RX9 195 7 8 := ⟨by decide, by decide, Or.inr ⟨"FrostMason", List.mem_of_getElem? (i := 318) (by decide +kernel)⟩⟩
theorem ff_RX8_41 : Cond.fieldLink RX8 41 (fKT 7 9).1 (fKT 7 9).2.1 (fKT 7 9).2.2.1 ∈ lw_tbl := List.mem_of_getElem? (i := 319) (by decide +kernel)
theorem fl_RX8_41 : fFL RX8 41 7 9 := ⟨by decide, by decide, Or.inl ff_RX8_41⟩
theorem fl_RX2_35 : fFL RX2 35 7 9 := ⟨by decide, by decide, Or.inr ⟨"FrostMason", List.mem_of_getElem? (i := 320) (by decide +kernel)⟩⟩
theorem fl_RX9_142 : fFL RX9 142 7 9 := ⟨by decide, by decide, Or.inr ⟨"FrostMason", List.mem_of_getElem? (i := 321) (by decide +kernel)⟩⟩
theorem ff_RX8_44 : Cond.fieldLink RX8 44 (fKT 7 10).1 (fKT 7 10).2.1 (fKT 7 10).2.2.1 ∈ lw_tbl := List.mem_of_getElem? (i := 322) (by decide +kernel)
theorem fl_RX8_44 : fFL RX8 44 7 10 := ⟨by decide, by decide, Or.inl ff_RX8_44⟩
theorem fl_RX2_81 : fFL RX2 81 7 10 := ⟨by decide, by decide, Or.inr ⟨"FrostMason", List.mem_of_getElem? (i := 323) (by decide +kernel)⟩⟩
theorem fl_RX9_222 : fFL RX9 222 7 10 := ⟨by decide, by decide, Or.inr ⟨"FrostMason", List.mem_of_getElem? (i := 324) (by decide +kernel)⟩⟩
theorem ff_RX8_47 : Cond.fieldLink RX8 47 (fKT 7 11).1 (fKT 7 11).2.1 (fKT 7 11).2.2.1 ∈ lw_tbl := List.mem_of_getElem? (i := 325) (by decide +kernel)
theorem fl_RX8_47 : fFL RX8 47 7 11 := ⟨by decide, by decide, Or.inl ff_RX8_47⟩
theorem fl_RX9_225 : fFL RX9 225 7 11 := ⟨by decide, by decide, Or.inr ⟨"FrostMason", List.mem_of_getElem? (i := 326) (by decide +kernel)⟩⟩
theorem ff_RX8_50 : Cond.fieldLink RX8 50 (fKT 7 12).1 (fKT 7 12).2.1 (fKT 7 12).2.2.1 ∈ lw_tbl := List.mem_of_getElem? (i := 327) (by decide +kernel)
theorem fl_RX8_50 : fFL RX8 50 7 12 := ⟨by decide, by decide, Or.inl ff_RX8_50⟩
theorem fl_RX9_228 : fFL RX9 228 7 12 := ⟨by decide, by decide, Or.inr ⟨"FrostMason", List.mem_of_getElem? (i := 328) (by decide +kernel)⟩⟩
theorem ff_RX8_53 : Cond.fieldLink RX8 53 (fKT 7 13).1 (fKT 7 13).2.1 (fKT 7 13).2.2.1 ∈ lw_tbl := List.mem_of_getElem? (i := 329) (by decide +kernel)
theorem fl_RX8_53 : fFL RX8 53 7 13 := ⟨by decide, by decide, Or.inl ff_RX8_53⟩
theorem fl_RX9_231 : fFL RX9 231 7 13 := ⟨by decide, by decide, Or.inr ⟨"FrostMason", List.mem_of_getElem? (i := 330) (by decide +kernel)⟩⟩
theorem ff_RX0_9 : Cond.fieldLink RX0 9 (fKT 0 0).1 (fKT 0 0).2.1 (fKT 0 0).2.2.1 ∈ lw_tbl := List.mem_of_getElem? (i := 366) (by decide +kernel)
theorem fl_RX0_9 : fFL RX0 9 0 0 := ⟨by decide, by decide, Or.inl ff_RX0_9⟩
theorem ff_RX0_15 : Cond.fieldLink RX0 15 (fKT 0 1).1 (fKT 0 1).2.1 (fKT 0 1).2.2.1 ∈ lw_tbl := List.mem_of_getElem? (i := 367) (by decide +kernel)
theorem fl_RX0_15 : fFL RX0 15 0 1 := ⟨by decide, by decide, Or.inl ff_RX0_15⟩
theorem fl_RX9_266 : fFL RX9 266 0 1 := ⟨by decide, by decide, Or.inr ⟨"FrostMason", List.mem_of_getElem? (i := 368) (by decide +kernel)⟩⟩
theorem ff_RX0_19 : Cond.fieldLink RX0 19 (fKT 0 2).1 (fKT 0 2).2.1 (fKT 0 2).2.2.1 ∈ lw_tbl := List.mem_of_getElem? (i := 369) (by decide +kernel)
theorem fl_RX0_19 : fFL RX0 19 0 2 := ⟨by decide, by decide, Or.inl ff_RX0_19⟩
theorem ff_RX7_9 : Cond.fieldLink RX7 9 (fKT 6 0).1 (fKT 6 0).2.1 (fKT 6 0).2.2.1 ∈ lw_tbl := List.mem_of_getElem? (i := 394) (by decide +kernel)
theorem fl_RX7_9 : fFL RX7 9 6 0 := ⟨by decide, by decide, Or.inl ff_RX7_9⟩
theorem ff_RX7_15 : Cond.fieldLink RX7 15 (fKT 6 1).1 (fKT 6 1).2.1 (fKT 6 1).2.2.1 ∈ lw_tbl := List.mem_of_getElem? (i := 395) (by decide +kernel)
theorem fl_RX7_15 : fFL RX7 15 6 1 := ⟨by decide, by decide, Or.inl ff_RX7_15⟩
theorem ff_RX7_19 : Cond.fieldLink RX7 19 (fKT 6 2).1 (fKT 6 2).2.1 (fKT 6 2).2.2.1 ∈ lw_tbl := List.mem_of_getElem? (i := 396) (by decide +kernel)
theorem fl_RX7_19 : fFL RX7 19 6 2 := ⟨by decide, by decide, Or.inl ff_RX7_19⟩
theorem ff_RX2_27 : Cond.fieldLink RX2 27 (fKT 1 0).1 (fKT 1 0).2.1 (fKT 1 0).2.2.1 ∈ lw_tbl := List.mem_of_getElem? (i := 404) (by decide +kernel)
theorem fl_RX2_27 : fFL RX2 27 1 0 := ⟨by decide, by decide, Or.inl ff_RX2_27⟩
theorem ff_RX2_13 : Cond.fieldLink RX2 13 (fKT 1 1).1 (fKT 1 1).2.1 (fKT 1 1).2.2.1 ∈ lw_tbl := List.mem_of_getElem? (i := 405) (by decide +kernel)
theorem fl_RX2_13 : fFL RX2 13 1 1 := ⟨by decide, by decide, Or.inl ff_RX2_13⟩
theorem ff_RX2_19 : Cond.fieldLink RX2 19 (fKT 1 2).1 (fKT 1 2).2.1 (fKT 1 2).2.2.1 ∈ lw_tbl := List.mem_of_getElem? (i := 406) (by decide +kernel)
theorem fl_RX2_19 : fFL RX2 19 1 2 := ⟨by decide, by decide, Or.inl ff_RX2_19⟩
theorem ff_RX2_23 : Cond.fieldLink RX2 23 (fKT 1 3).1 (fKT 1 3).2.1 (fKT 1 3).2.2.1 ∈ lw_tbl := List.mem_of_getElem? (i := 407) (by decide +kernel)
theorem fl_RX2_23 : fFL RX2 23 1 3 := ⟨by decide, by decide, Or.inl ff_RX2_23⟩
theorem fl_RX9_357 : fFL RX9 357 1 3 := ⟨by decide, by decide, Or.inr ⟨"FrostMason", List.mem_of_getElem? (i := 408) (by decide +kernel)⟩⟩
theorem ff_RX6_9 : Cond.fieldLink RX6 9 (fKT 5 0).1 (fKT 5 0).2.1 (fKT 5 0).2.2.1 ∈ lw_tbl := List.mem_of_getElem? (i := 424) (by decide +kernel)
theorem fl_RX6_9 : fFL RX6 9 5 0 := ⟨by decide, by decide, Or.inl ff_RX6_9⟩
theorem ff_RX6_15 : Cond.fieldLink RX6 15 (fKT 5 1).1 (fKT 5 1).2.1 (fKT 5 1).2.2.1 ∈ lw_tbl := List.mem_of_getElem? (i := 425) (by decide +kernel)
theorem fl_RX6_15 : fFL RX6 15 5 1 := ⟨by decide, by decide, Or.inl ff_RX6_15⟩
theorem ff_RX6_18 : Cond.fieldLink RX6 18 (fKT 5 2).1 (fKT 5 2).2.1 (fKT 5 2).2.2.1 ∈ lw_tbl := List.mem_of_getElem? (i := 426) (by decide +kernel)
theorem fl_RX6_18 : fFL RX6 18 5 2 := ⟨by decide, by decide, Or.inl ff_RX6_18⟩
theorem ff_RX6_21 : Cond.fieldLink RX6 21 (fKT 5 3).1 (fKT 5 3).2.1 (fKT 5 3).2.2.1 ∈ lw_tbl := List.mem_of_getElem? (i := 427) (by decide +kernel)
theorem fl_RX6_21 : fFL RX6 21 5 3 := ⟨by decide, by decide, Or.inl ff_RX6_21⟩
theorem ff_RX9_9 : Cond.fieldLink RX9 9 (fKT 8 0).1 (fKT 8 0).2.1 (fKT 8 0).2.2.1 ∈ lw_tbl := List.mem_of_getElem? (i := 437) (by decide +kernel)
theorem fl_RX9_9 : fFL RX9 9 8 0 := ⟨by decide, by decide, Or.inl ff_RX9_9⟩
theorem ff_RX9_13 : Cond.fieldLink RX9 13 (fKT 8 1).1 (fKT 8 1).2.1 (fKT 8 1).2.2.1 ∈ lw_tbl := List.mem_of_getElem? (i := 438) (by decide +kernel)
theorem fl_RX9_13 : fFL RX9 13 8 1 := ⟨by decide, by decide, Or.inl ff_RX9_13⟩
theorem ff_RX9_17 : Cond.fieldLink RX9 17 (fKT 8 2).1 (fKT 8 2).2.1 (fKT 8 2).2.2.1 ∈ lw_tbl := List.mem_of_getElem? (i := 439) (by decide +kernel)
theorem fl_RX9_17 : fFL RX9 17 8 2 := ⟨by decide, by decide, Or.inl ff_RX9_17⟩
theorem ff_RX9_23 : Cond.fieldLink RX9 23 (fKT 8 3).1 (fKT 8 3).2.1 (fKT 8 3).2.2.1 ∈ lw_tbl := List.mem_of_getElem? (i := 440) (by decide +kernel)
theorem fl_RX9_23 : fFL RX9 23 8 3 := ⟨by decide, by decide, Or.inl ff_RX9_23⟩
theorem ff_RX9_32 : Cond.fieldLink RX9 32 (fKT 8 4).1 (fKT 8 4).2.1 (fKT 8 4).2.2.1 ∈ lw_tbl := List.mem_of_getElem? (i := 441) (by decide +kernel)
theorem fl_RX9_32 : fFL RX9 32 8 4 := ⟨by decide, by decide, Or.inl ff_RX9_32⟩
theorem ff_RX9_41 : Cond.fieldLink RX9 41 (fKT 8 5).1 (fKT 8 5).2.1 (fKT 8 5).2.2.1 ∈ lw_tbl := List.mem_of_getElem? (i := 442) (by decide +kernel)
theorem fl_RX9_41 : fFL RX9 41 8 5 := ⟨by decide, by decide, Or.inl ff_RX9_41⟩
theorem ff_RX9_45 : Cond.fieldLink RX9 45 (fKT 8 6).1 (fKT 8 6).2.1 (fKT 8 6).2.2.1 ∈ lw_tbl := List.mem_of_getElem? (i := 443) (by decide +kernel)
theorem fl_RX9_45 : fFL RX9 45 8 6 := ⟨by decide, by decide, Or.inl ff_RX9_45⟩
theorem ff_RX9_51 : Cond.fieldLink RX9 51 (fKT 8 7).1 (fKT 8 7).2.1 (fKT 8 7).2.2.1 ∈ lw_tbl := List.mem_of_getElem? (i := 444) (by decide +kernel)
theorem fl_RX9_51 : fFL RX9 51 8 7 := ⟨by decide, by decide, Or.inl ff_RX9_51⟩
theorem ff_RX9_55 : Cond.fieldLink RX9 55 (fKT 8 8).1 (fKT 8 8).2.1 (fKT 8 8).2.2.1 ∈ lw_tbl := List.mem_of_getElem? (i := 445) (by decide +kernel)
theorem fl_RX9_55 : fFL RX9 55 8 8 := ⟨by decide, by decide, Or.inl ff_RX9_55⟩
theorem ff_RX9_59 : Cond.fieldLink RX9 59 (fKT 8 9).1 (fKT 8 9).2.1 (fKT 8 9).2.2.1 ∈ lw_tbl := List.mem_of_getElem? (i := 446) (by decide +kernel)
theorem fl_RX9_59 : fFL RX9 59 8 9 := ⟨by decide, by decide, Or.inl ff_RX9_59⟩
theorem ff_RX9_63 : Cond.fieldLink RX9 63 (fKT 8 10).1 (fKT 8 10).2.1 (fKT 8 10).2.2.1 ∈ lw_tbl := List.mem_of_getElem? (i := 447) (by decide +kernel)
theorem fl_RX9_63 : fFL RX9 63 8 10 := ⟨by decide, by decide, Or.inl ff_RX9_63⟩
theorem ff_RX9_69 : Cond.fieldLink RX9 69 (fKT 8 11).1 (fKT 8 11).2.1 (fKT 8 11).2.2.1 ∈ lw_tbl := List.mem_of_getElem? (i := 448) (by decide +kernel)
theorem fl_RX9_69 : fFL RX9 69 8 11 := ⟨by decide, by decide, Or.inl ff_RX9_69⟩
theorem ff_RX9_76 : Cond.fieldLink RX9 76 (fKT 8 12).1 (fKT 8 12).2.1 (fKT 8 12).2.2.1 ∈ lw_tbl := List.mem_of_getElem? (i := 449) (by decide +kernel)
theorem fl_RX9_76 : fFL RX9 76 8 12 := ⟨by decide, by decide, Or.inl ff_RX9_76⟩
theorem ff_RX9_80 : Cond.fieldLink RX9 80 (fKT 8 13).1 (fKT 8 13).2.1 (fKT 8 13).2.2.1 ∈ lw_tbl := List.mem_of_getElem? (i := 450) (by decide +kernel)
theorem fl_RX9_80 : fFL RX9 80 8 13 := ⟨by decide, by decide, Or.inl ff_RX9_80⟩
theorem ff_RX9_83 : Cond.fieldLink RX9 83 (fKT 8 14).1 (fKT 8 14).2.1 (fKT 8 14).2.2.1 ∈ lw_tbl := List.mem_of_getElem? (i := 451) (by decide +kernel)
theorem fl_RX9_83 : fFL RX9 83 8 14 := ⟨by decide, by decide, Or.inl ff_RX9_83⟩
theorem ff_RX9_87 : Cond.fieldLink RX9 87 (fKT 8 15).1 (fKT 8 15).2.1 (fKT 8 15).2.2.1 ∈ lw_tbl := List.mem_of_getElem? (i := 452) (by decide +kernel)
theorem fl_RX9_87 : fFL RX9 87 8 15 := ⟨by decide, by decide, Or.inl ff_RX9_87⟩
theorem ff_RX9_90 : Cond.fieldLink RX9 90 (fKT 8 16).1 (fKT 8 16).2.1 (fKT 8 16).2.2.1 ∈ lw_tbl := List.mem_of_getElem? (i := 453) (by decide +kernel)
theorem fl_RX9_90 : fFL RX9 90 8 16 := ⟨by decide, by decide, Or.inl ff_RX9_90⟩
theorem ff_RX10_76 : Cond.fieldLink RX10 76 (fKT 9 0).1 (fKT 9 0).2.1 (fKT 9 0).2.2.1 ∈ lw_tbl := List.mem_of_getElem? (i := 1260) (by decide +kernel)
theorem fl_RX10_76 : fFL RX10 76 9 0 := ⟨by decide, by decide, Or.inl ff_RX10_76⟩
theorem ff_RX10_79 : Cond.fieldLink RX10 79 (fKT 9 1).1 (fKT 9 1).2.1 (fKT 9 1).2.2.1 ∈ lw_tbl := List.mem_of_getElem? (i := 1261) (by decide +kernel)
theorem fl_RX10_79 : fFL RX10 79 9 1 := ⟨by decide, by decide, Or.inl ff_RX10_79⟩
theorem ff_RX10_82 : Cond.fieldLink RX10 82 (fKT 9 2).1 (fKT 9 2).2.1 (fKT 9 2).2.2.1 ∈ lw_tbl := List.mem_of_getElem? (i := 1262) (by decide +kernel)
theorem fl_RX10_82 : fFL RX10 82 9 2 := ⟨by decide, by decide, Or.inl ff_RX10_82⟩
theorem ff_RX10_9 : Cond.fieldLink RX10 9 (fKT 9 3).1 (fKT 9 3).2.1 (fKT 9 3).2.2.1 ∈ lw_tbl := List.mem_of_getElem? (i := 1263) (by decide +kernel)
theorem fl_RX10_9 : fFL RX10 9 9 3 := ⟨by decide, by decide, Or.inl ff_RX10_9⟩
theorem ff_RX10_85 : Cond.fieldLink RX10 85 (fKT 9 4).1 (fKT 9 4).2.1 (fKT 9 4).2.2.1 ∈ lw_tbl := List.mem_of_getElem? (i := 1264) (by decide +kernel)
theorem fl_RX10_85 : fFL RX10 85 9 4 := ⟨by decide, by decide, Or.inl ff_RX10_85⟩
theorem ff_RX10_92 : Cond.fieldLink RX10 92 (fKT 9 5).1 (fKT 9 5).2.1 (fKT 9 5).2.2.1 ∈ lw_tbl := List.mem_of_getElem? (i := 1265) (by decide +kernel)
theorem fl_RX10_92 : fFL RX10 92 9 5 := ⟨by decide, by decide, Or.inl ff_RX10_92⟩
theorem ff_RX10_95 : Cond.fieldLink RX10 95 (fKT 9 6).1 (fKT 9 6).2.1 (fKT 9 6).2.2.1 ∈ lw_tbl := List.mem_of_getElem? (i := 1266) (by decide +kernel)
theorem fl_RX10_95 : fFL RX10 95 9 6 := ⟨by decide, by decide, Or.inl ff_RX10_95⟩
theorem ff_RX10_128 : Cond.fieldLink RX10 128 (fKT 9 7).1 (fKT 9 7).2.1 (fKT 9 7).2.2.1 ∈ lw_tbl := List.mem_of_getElem? (i := 1267) (by decide +kernel)
theorem fl_RX10_128 : fFL RX10 128 9 7 := ⟨by decide, by decide, Or.inl ff_RX10_128⟩
theorem ff_RX10_13 : Cond.fieldLink RX10 13 (fKT 9 8).1 (fKT 9 8).2.1 (fKT 9 8).2.2.1 ∈ lw_tbl := List.mem_of_getElem? (i := 1268) (by decide +kernel)
theorem fl_RX10_13 : fFL RX10 13 9 8 := ⟨by decide, by decide, Or.inl ff_RX10_13⟩
theorem ff_RX10_17 : Cond.fieldLink RX10 17 (fKT 9 9).1 (fKT 9 9).2.1 (fKT 9 9).2.2.1 ∈ lw_tbl := List.mem_of_getElem? (i := 1269) (by decide +kernel)
theorem fl_RX10_17 : fFL RX10 17 9 9 := ⟨by decide, by decide, Or.inl ff_RX10_17⟩
theorem ff_RX10_20 : Cond.fieldLink RX10 20 (fKT 9 10).1 (fKT 9 10).2.1 (fKT 9 10).2.2.1 ∈ lw_tbl := List.mem_of_getElem? (i := 1270) (by decide +kernel)
theorem fl_RX10_20 : fFL RX10 20 9 10 := ⟨by decide, by decide, Or.inl ff_RX10_20⟩
theorem ff_RX10_25 : Cond.fieldLink RX10 25 (fKT 9 11).1 (fKT 9 11).2.1 (fKT 9 11).2.2.1 ∈ lw_tbl := List.mem_of_getElem? (i := 1271) (by decide +kernel)
theorem fl_RX10_25 : fFL RX10 25 9 11 := ⟨by decide, by decide, Or.inl ff_RX10_25⟩
theorem ff_RX10_28 : Cond.fieldLink RX10 28 (fKT 9 12).1 (fKT 9 12).2.1 (fKT 9 12).2.2.1 ∈ lw_tbl := List.mem_of_getElem? (i := 1272) (by decide +kernel)
theorem fl_RX10_28 : fFL RX10 28 9 12 := ⟨by decide, by decide, Or.inl ff_RX10_28⟩
theorem ff_RX10_31 : Cond.fieldLink RX10 31 (fKT 9 13).1 (fKT 9 13).2.1 (fKT 9 13).2.2.1 ∈ lw_tbl := List.mem_of_getElem? (i := 1273) (by decide +kernel)
theorem fl_RX10_31 : fFL RX10 31 9 13 := ⟨by decide, by decide, Or.inl ff_RX10_31⟩
theorem ff_RX10_34 : Cond.fieldLink RX10 34 (fKT 9 14).1 (fKT 9 14).2.1 (fKT 9 14).2.2.1 ∈ lw_tbl := List.mem_of_getElem? (i := 1274) (by decide +kernel)
theorem fl_RX10_34 : fFL RX10 34 9 14 := ⟨by decide, by decide, Or.inl ff_RX10_34⟩
theorem ff_RX10_37 : Cond.fieldLink RX10 37 (fKT 9 15).1 (fKT 9 15).2.1 (fKT 9 15).2.2.1 ∈ lw_tbl := List.mem_of_getElem? (i := 1275) (by decide +kernel)
theorem fl_RX10_37 : fFL RX10 37 9 15 := ⟨by decide, by decide, Or.inl ff_RX10_37⟩
theorem ff_RX10_40 : Cond.fieldLink RX10 40 (fKT 9 16).1 (fKT 9 16).2.1 (fKT 9 16).2.2.1 ∈ lw_tbl := List.mem_of_getElem? (i := 1276) (by decide +kernel)
theorem fl_RX10_40 : fFL RX10 40 9 16 := ⟨by decide, by decide, Or.inl ff_RX10_40⟩
theorem ff_RX10_43 : Cond.fieldLink RX10 43 (fKT 9 17).1 (fKT 9 17).2.1 (fKT 9 17).2.2.1 ∈ lw_tbl := List.mem_of_getElem? (i := 1277) (by decide +kernel)
theorem fl_RX10_43 : fFL RX10 43 9 17 := ⟨by decide, by decide, Or.inl ff_RX10_43⟩
theorem ff_RX10_46 : Cond.fieldLink RX10 46 (fKT 9 18).1 (fKT 9 18).2.1 (fKT 9 18).2.2.1 ∈ lw_tbl := List.mem_of_getElem? (i := 1278) (by decide +kernel)
theorem fl_RX10_46 : fFL RX10 46 9 18 := ⟨by decide, by decide, Or.inl ff_RX10_46⟩
theorem ff_RX10_49 : Cond.fieldLink RX10 49 (fKT 9 19).1 (fKT 9 19).2.1 (fKT 9 19).2.2.1 ∈ lw_tbl := List.mem_of_getElem? (i := 1279) (by decide +kernel)
theorem fl_RX10_49 : fFL RX10 49 9 19 := ⟨by decide, by decide, Or.inl ff_RX10_49⟩
theorem ff_RX10_52 : Cond.fieldLink RX10 52 (fKT 9 20).1 (fKT 9 20).2.1 (fKT 9 20).2.2.1 ∈ lw_tbl := List.mem_of_getElem? (i := 1280) (by decide +kernel)
theorem fl_RX10_52 : fFL RX10 52 9 20 := ⟨by decide, by decide, Or.inl ff_RX10_52⟩
theorem ff_RX10_247 : Cond.fieldLink RX10 247 (fKT 9 21).1 (fKT 9 21).2.1 (fKT 9 21).2.2.1 ∈ lw_tbl := List.mem_of_getElem? (i := 1281) (by decide +kernel)
theorem fl_RX10_247 : fFL RX10 247 9 21 := ⟨by decide, by decide, Or.inl ff_RX10_247⟩
theorem ff_RX10_159 : Cond.fieldLink RX10 159 (fKT 9 22).1 (fKT 9 22).2.1 (fKT 9 22).2.2.1 ∈ lw_tbl := List.mem_of_getElem? (i := 1282) (by decide +kernel)
theorem fl_RX10_159 : fFL RX10 159 9 22 := ⟨by decide, by decide, Or.inl ff_RX10_159⟩
theorem ff_RX10_162 : Cond.fieldLink RX10 162 (fKT 9 23).1 (fKT 9 23).2.1 (fKT 9 23).2.2.1 ∈ lw_tbl := List.mem_of_getElem? (i := 1283) (by decide +kernel)
theorem fl_RX10_162 : fFL RX10 162 9 23 := ⟨by decide, by decide, Or.inl ff_RX10_162⟩
theorem ff_RX10_165 : Cond.fieldLink RX10 165 (fKT 9 24).1 (fKT 9 24).2.1 (fKT 9 24).2.2.1 ∈ lw_tbl := List.mem_of_getElem? (i := 1284) (by decide +kernel)
theorem fl_RX10_165 : fFL RX10 165 9 24 := ⟨by decide, by decide, Or.inl ff_RX10_165⟩
theorem ff_RX10_316 : Cond.fieldLink RX10 316 (fKT 9 25).1 (fKT 9 25).2.1 (fKT 9 25).2.2.1 ∈ lw_tbl := List.mem_of_getElem? (i := 1285) (by decide +kernel)
theorem fl_RX10_316 : fFL RX10 316 9 25 := ⟨by decide, by decide, Or.inl ff_RX10_316⟩
theorem ff_RX10_55 : Cond.fieldLink RX10 55 (fKT 9 26).1 (fKT 9 26).2.1 (fKT 9 26).2.2.1 ∈ lw_tbl := List.mem_of_getElem? (i := 1286) (by decide +kernel)
theorem fl_RX10_55 : fFL RX10 55 9 26 := ⟨by decide, by decide, Or.inl ff_RX10_55⟩
theorem ff_RX10_58 : Cond.fieldLink RX10 58 (fKT 9 27).1 (fKT 9 27).2.1 (fKT 9 27).2.2.1 ∈ lw_tbl := List.mem_of_getElem? (i := 1287) (by decide +kernel)
theorem fl_RX10_58 : fFL RX10 58 9 27 := ⟨by decide, by decide, Or.inl ff_RX10_58⟩
theorem ff_RX10_61 : Cond.fieldLink RX10 61 (fKT 9 28).1 (fKT 9 28).2.1 (fKT 9 28).2.2.1 ∈ lw_tbl := List.mem_of_getElem? (i := 1288) (by decide +kernel)
theorem fl_RX10_61 : fFL RX10 61 9 28 := ⟨by decide, by decide, Or.inl ff_RX10_61⟩
theorem ff_RX10_64 : Cond.fieldLink RX10 64 (fKT 9 29).1 (fKT 9 29).2.1 (fKT 9 29).2.2.1 ∈ lw_tbl := List.mem_of_getElem? (i := 1289) (by decide +kernel)
theorem fl_RX10_64 : fFL RX10 64 9 29 := ⟨by decide, by decide, Or.inl ff_RX10_64⟩
theorem ff_RX10_67 : Cond.fieldLink RX10 67 (fKT 9 30).1 (fKT 9 30).2.1 (fKT 9 30).2.2.1 ∈ lw_tbl := List.mem_of_getElem? (i := 1290) (by decide +kernel)
theorem fl_RX10_67 : fFL RX10 67 9 30 := ⟨by decide, by decide, Or.inl ff_RX10_67⟩
theorem ff_RX10_193 : Cond.fieldLink RX10 193 (fKT 9 31).1 (fKT 9 31).2.1 (fKT 9 31).2.2.1 ∈ lw_tbl := List.mem_of_getElem? (i := 1291) (by decide +kernel)
theorem fl_RX10_193 : fFL RX10 193 9 31 := ⟨by decide, by decide, Or.inl ff_RX10_193⟩
theorem ff_RX10_271 : Cond.fieldLink RX10 271 (fKT 9 32).1 (fKT 9 32).2.1 (fKT 9 32).2.2.1 ∈ lw_tbl := List.mem_of_getElem? (i := 1292) (by decide +kernel)
theorem fl_RX10_271 : fFL RX10 271 9 32 := ⟨by decide, by decide, Or.inl ff_RX10_271⟩
theorem ff_RX10_262 : Cond.fieldLink RX10 262 (fKT 9 33).1 (fKT 9 33).2.1 (fKT 9 33).2.2.1 ∈ lw_tbl := List.mem_of_getElem? (i := 1293) (by decide +kernel)
theorem fl_RX10_262 : fFL RX10 262 9 33 := ⟨by decide, by decide, Or.inl ff_RX10_262⟩
theorem ff_RX10_295 : Cond.fieldLink RX10 295 (fKT 9 34).1 (fKT 9 34).2.1 (fKT 9 34).2.2.1 ∈ lw_tbl := List.mem_of_getElem? (i := 1294) (by decide +kernel)
theorem fl_RX10_295 : fFL RX10 295 9 34 := ⟨by decide, by decide, Or.inl ff_RX10_295⟩
theorem ff_RX10_70 : Cond.fieldLink RX10 70 (fKT 9 35).1 (fKT 9 35).2.1 (fKT 9 35).2.2.1 ∈ lw_tbl := List.mem_of_getElem? (i := 1295) (by decide +kernel)
theorem fl_RX10_70 : fFL RX10 70 9 35 := ⟨by decide, by decide, Or.inl ff_RX10_70⟩
theorem kc_RJ6_265 : Cond.constant RJ6 265 (1431655765) ∈ lw_tbl := List.mem_of_getElem? (i := 949) (by decide +kernel)
theorem kc_RJ6_266 : Cond.constant RJ6 266 (858993459) ∈ lw_tbl := List.mem_of_getElem? (i := 950) (by decide +kernel)
theorem kc_RJ6_267 : Cond.constant RJ6 267 (252645135) ∈ lw_tbl := List.mem_of_getElem? (i := 951) (by decide +kernel)
theorem kc_RX4_16 : Cond.constant RX4 16 (1103515245) ∈ lw_tbl := List.mem_of_getElem? (i := 989) (by decide +kernel)
theorem kc_RX2_51 : Cond.constantLong RX2 51 (-1) ∈ lw_tbl := List.mem_of_getElem? (i := 1170) (by decide +kernel)
theorem kc_RX2_84 : Cond.constantLong RX2 84 (32768) ∈ lw_tbl := List.mem_of_getElem? (i := 1189) (by decide +kernel)
theorem kc_RX7_22 : Cond.constantLong RX7 22 (4) ∈ lw_tbl := List.mem_of_getElem? (i := 1195) (by decide +kernel)
theorem kc_RX7_24 : Cond.constantLong RX7 24 (2) ∈ lw_tbl := List.mem_of_getElem? (i := 1196) (by decide +kernel)
theorem kc_RX9_281 : Cond.constantLong RX9 281 (1073741824) ∈ lw_tbl := List.mem_of_getElem? (i := 1208) (by decide +kernel)
theorem kc_RX9_296 : Cond.constantLong RX9 296 (32768) ∈ lw_tbl := List.mem_of_getElem? (i := 1220) (by decide +kernel)
theorem kc_RX9_298 : Cond.constantLong RX9 298 (-1) ∈ lw_tbl := List.mem_of_getElem? (i := 1228) (by decide +kernel)
theorem kc_RX10_109 : Cond.constant RX10 109 (100000) ∈ lw_tbl := List.mem_of_getElem? (i := 1429) (by decide +kernel)
theorem kc_RX10_189 : Cond.constant RX10 189 (1103515245) ∈ lw_tbl := List.mem_of_getElem? (i := 1529) (by decide +kernel)
theorem kc_RX10_293 : Cond.constantLong RX10 293 (-1) ∈ lw_tbl := List.mem_of_getElem? (i := 1634) (by decide +kernel)
theorem kc_RX10_265 : Cond.constantLong RX10 265 (512) ∈ lw_tbl := List.mem_of_getElem? (i := 1647) (by decide +kernel)
theorem kc_RX10_275 : Cond.constantLong RX10 275 (2) ∈ lw_tbl := List.mem_of_getElem? (i := 1655) (by decide +kernel)
theorem kc_RX10_281 : Cond.constantLong RX10 281 (4) ∈ lw_tbl := List.mem_of_getElem? (i := 1656) (by decide +kernel)
theorem kc_RX10_301 : Cond.constantLong RX10 301 (262144) ∈ lw_tbl := List.mem_of_getElem? (i := 1661) (by decide +kernel)
theorem kc_RX10_307 : Cond.constantLong RX10 307 (8) ∈ lw_tbl := List.mem_of_getElem? (i := 1669) (by decide +kernel)
