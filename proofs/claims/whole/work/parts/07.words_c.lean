abbrev m_X11_init : pm_M := (yX11_init, cX11_init, 1, none, { frames := 3, cells := 19, slots := 328, locals := 60 })
theorem ok_X11_init : pm_ok m_X11_init 0 := ⟨kw_66, kw_46, by decide, by decide, by decide +kernel⟩
abbrev m_X6_init : pm_M := (yX6_init, cX6_init, 1, none, { frames := 2, cells := 2, slots := 28, locals := 40 })
theorem ok_X6_init : pm_ok m_X6_init 0 := ⟨kw_74, kw_47, by decide, by decide, by decide +kernel⟩
abbrev m_X10_init : pm_M := (yX10_init, cX10_init, 1, none, { frames := 1, cells := 0, slots := 0, locals := 20 })
theorem ok_X10_init : pm_ok m_X10_init 0 := ⟨kw_80, kw_48, by decide, by decide, by decide +kernel⟩
abbrev m_X1_init : pm_M := (yX1_init, cX1_init, 1, none, { frames := 1, cells := 0, slots := 0, locals := 20 })
theorem ok_X1_init : pm_ok m_X1_init 0 := ⟨kw_141, kw_49, by decide, by decide, by decide +kernel⟩
abbrev m_X3_init : pm_M := (yX3_init, cX3_init, 1, none, { frames := 1, cells := 4, slots := 36, locals := 20 })
theorem ok_X3_init : pm_ok m_X3_init 0 := ⟨kw_169, kw_50, by decide, by decide, by decide +kernel⟩
abbrev m_X9_init : pm_M := (yX9_init, cX9_init, 1, none, { frames := 1, cells := 2, slots := 198, locals := 20 })
theorem ok_X9_init : pm_ok m_X9_init 0 := ⟨kw_203, kw_51, by decide, by decide, by decide +kernel⟩
abbrev m_X2_init : pm_M := (yX2_init, cX2_init, 1, none, { frames := 1, cells := 3, slots := 24, locals := 20 })
theorem ok_X2_init : pm_ok m_X2_init 0 := ⟨kw_221, kw_52, by decide, by decide, by decide +kernel⟩
abbrev m_X11_letters : pm_M := (yX11_letters, cX11_letters, 3, (some .int), { frames := 3, cells := 0, slots := 0, locals := 71 })
theorem ok_X11_letters : pm_ok m_X11_letters 1 := ⟨kw_278, kw_46, by decide, by decide, by decide +kernel⟩
abbrev m_X6_write : pm_M := (yX6_write, cX6_write, 5, (some .int), { frames := 2, cells := 0, slots := 0, locals := 47 })
theorem ok_X6_write : pm_ok m_X6_write 1 := ⟨kw_282, kw_47, by decide, by decide, by decide +kernel⟩
abbrev m_X6_lettersIn : pm_M := (yX6_lettersIn, cX6_lettersIn, 6, (some .int), { frames := 1, cells := 0, slots := 0, locals := 22 })
theorem ok_X6_lettersIn : pm_ok m_X6_lettersIn 1 := ⟨kw_285, kw_47, by decide, by decide, by decide +kernel⟩
abbrev m_X6_byteOf : pm_M := (yX6_byteOf, cX6_byteOf, 3, (some .int), { frames := 0, cells := 0, slots := 0, locals := 0 })
theorem ok_X6_byteOf : pm_ok m_X6_byteOf 2 := ⟨kw_288, kw_47, by decide, by decide, by decide +kernel⟩
abbrev m_X11_blank : pm_M := (yX11_blank, cX11_blank, 1, (some .int), { frames := 1, cells := 0, slots := 0, locals := 21 })
theorem ok_X11_blank : pm_ok m_X11_blank 0 := ⟨kw_292, kw_46, by decide, by decide, by decide +kernel⟩
abbrev m_X6_clear : pm_M := (yX6_clear, cX6_clear, 2, (some .int), { frames := 0, cells := 0, slots := 0, locals := 0 })
theorem ok_X6_clear : pm_ok m_X6_clear 0 := ⟨kw_296, kw_47, by decide, by decide, by decide +kernel⟩
abbrev m_X11_fault : pm_M := (yX11_fault, cX11_fault, 1, (some .int), { frames := 4, cells := 0, slots := 0, locals := 84 })
theorem ok_X11_fault : pm_ok m_X11_fault 0 := ⟨kw_300, kw_46, by decide, by decide, by decide +kernel⟩
abbrev m_X6_firstFault : pm_M := (yX6_firstFault, cX6_firstFault, 2, (some .int), { frames := 3, cells := 0, slots := 0, locals := 63 })
theorem ok_X6_firstFault : pm_ok m_X6_firstFault 0 := ⟨kw_304, kw_47, by decide, by decide, by decide +kernel⟩
abbrev m_X10_forget : pm_M := (yX10_forget, cX10_forget, 1, none, { frames := 0, cells := 0, slots := 0, locals := 0 })
theorem ok_X10_forget : pm_ok m_X10_forget 0 := ⟨kw_308, kw_48, by decide, by decide, by decide +kernel⟩
abbrev m_X6_reads : pm_M := (yX6_reads, cX6_reads, 2, (some .boolean), { frames := 2, cells := 0, slots := 0, locals := 42 })
theorem ok_X6_reads : pm_ok m_X6_reads 1 := ⟨kw_312, kw_47, by decide, by decide, by decide +kernel⟩
abbrev m_X6_readsTerm : pm_M := (yX6_readsTerm, cX6_readsTerm, 2, (some .boolean), { frames := 1, cells := 0, slots := 0, locals := 21 })
theorem ok_X6_readsTerm : pm_ok m_X6_readsTerm 1 := ⟨kw_316, kw_47, by decide, by decide, by decide +kernel⟩
abbrev m_X6_isDigit : pm_M := (yX6_isDigit, cX6_isDigit, 1, (some .boolean), { frames := 0, cells := 0, slots := 0, locals := 0 })
theorem ok_X6_isDigit : pm_ok m_X6_isDigit 1 := ⟨kw_319, kw_47, by decide, by decide, by decide +kernel⟩
abbrev m_X10_takesLetter : pm_M := (yX10_takesLetter, cX10_takesLetter, 2, (some .boolean), { frames := 0, cells := 0, slots := 0, locals := 0 })
theorem ok_X10_takesLetter : pm_ok m_X10_takesLetter 1 := ⟨kw_323, kw_48, by decide, by decide, by decide +kernel⟩
abbrev m_X10_takesNumber : pm_M := (yX10_takesNumber, cX10_takesNumber, 2, none, { frames := 0, cells := 0, slots := 0, locals := 0 })
theorem ok_X10_takesNumber : pm_ok m_X10_takesNumber 1 := ⟨kw_327, kw_48, by decide, by decide, by decide +kernel⟩
abbrev m_X6_readsSecondDigit : pm_M := (yX6_readsSecondDigit, cX6_readsSecondDigit, 2, (some .boolean), { frames := 1, cells := 0, slots := 0, locals := 21 })
theorem ok_X6_readsSecondDigit : pm_ok m_X6_readsSecondDigit 1 := ⟨kw_331, kw_47, by decide, by decide, by decide +kernel⟩
abbrev m_X6_readsSign : pm_M := (yX6_readsSign, cX6_readsSign, 2, (some .boolean), { frames := 0, cells := 0, slots := 0, locals := 0 })
theorem ok_X6_readsSign : pm_ok m_X6_readsSign 1 := ⟨kw_335, kw_47, by decide, by decide, by decide +kernel⟩
abbrev m_X10_takesTangles : pm_M := (yX10_takesTangles, cX10_takesTangles, 2, (some .boolean), { frames := 0, cells := 0, slots := 0, locals := 0 })
theorem ok_X10_takesTangles : pm_ok m_X10_takesTangles 1 := ⟨kw_339, kw_48, by decide, by decide, by decide +kernel⟩
abbrev m_X11_school : pm_M := (yX11_school, cX11_school, 2, (some .int), { frames := 5, cells := 1, slots := 8, locals := 104 })
theorem ok_X11_school : pm_ok m_X11_school 0 := ⟨kw_343, kw_46, by decide, by decide, by decide +kernel⟩
abbrev m_X6_isSchool : pm_M := (yX6_isSchool, cX6_isSchool, 1, (some .boolean), { frames := 4, cells := 0, slots := 0, locals := 84 })
theorem ok_X6_isSchool : pm_ok m_X6_isSchool 0 := ⟨kw_347, kw_47, by decide, by decide, by decide +kernel⟩
abbrev m_X6_takeSchool : pm_M := (yX6_takeSchool, cX6_takeSchool, 3, (some (.object "ThirtyNine$School")), { frames := 2, cells := 1, slots := 8, locals := 40 })
theorem ok_X6_takeSchool : pm_ok m_X6_takeSchool 1 := ⟨kw_352, kw_47, by decide, by decide, by decide +kernel⟩
abbrev m_X11_counts : pm_M := (yX11_counts, cX11_counts, 5, (some .int), { frames := 2, cells := 0, slots := 0, locals := 44 })
theorem ok_X11_counts : pm_ok m_X11_counts 3 := ⟨kw_356, kw_46, by decide, by decide, by decide +kernel⟩
abbrev m_X11_schoolOf : pm_M := (yX11_schoolOf, cX11_schoolOf, 2, (some (.object "ThirtyNine$School")), { frames := 1, cells := 0, slots := 0, locals := 22 })
theorem ok_X11_schoolOf : pm_ok m_X11_schoolOf 1 := ⟨kw_360, kw_46, by decide, by decide, by decide +kernel⟩
abbrev m_X11_isOutside : pm_M := (yX11_isOutside, cX11_isOutside, 3, (some .boolean), { frames := 0, cells := 0, slots := 0, locals := 0 })
theorem ok_X11_isOutside : pm_ok m_X11_isOutside 3 := ⟨kw_363, kw_46, by decide, by decide, by decide +kernel⟩
abbrev m_X10_countAfter : pm_M := (yX10_countAfter, cX10_countAfter, 4, (some .int), { frames := 1, cells := 0, slots := 0, locals := 21 })
theorem ok_X10_countAfter : pm_ok m_X10_countAfter 2 := ⟨kw_367, kw_48, by decide, by decide, by decide +kernel⟩
abbrev m_X11_meeting : pm_M := (yX11_meeting, cX11_meeting, 3, (some .int), { frames := 1, cells := 0, slots := 0, locals := 22 })
theorem ok_X11_meeting : pm_ok m_X11_meeting 1 := ⟨kw_377, kw_46, by decide, by decide, by decide +kernel⟩
abbrev m_X11_nut : pm_M := (yX11_nut, cX11_nut, 8, (some .int), { frames := 5, cells := 1, slots := 13, locals := 108 })
theorem ok_X11_nut : pm_ok m_X11_nut 5 := ⟨kw_381, kw_46, by decide, by decide, by decide +kernel⟩
abbrev m_X11_newNut : pm_M := (yX11_newNut, cX11_newNut, 3, (some (.object "ThirtyNine$Nut")), { frames := 4, cells := 1, slots := 13, locals := 86 })
theorem ok_X11_newNut : pm_ok m_X11_newNut 3 := ⟨kw_384, kw_46, by decide, by decide, by decide +kernel⟩
abbrev m_X5_init : pm_M := (yX5_init, cX5_init, 3, none, { frames := 2, cells := 0, slots := 0, locals := 42 })
theorem ok_X5_init : pm_ok m_X5_init 2 := ⟨kw_389, kw_56, by decide, by decide, by decide +kernel⟩
abbrev m_X4_init : pm_M := (yX4_init, cX4_init, 3, none, { frames := 1, cells := 0, slots := 0, locals := 20 })
theorem ok_X4_init : pm_ok m_X4_init 2 := ⟨kw_392, kw_55, by decide, by decide, by decide +kernel⟩
abbrev m_X0_init : pm_M := (yX0_init, cX0_init, 3, none, { frames := 2, cells := 0, slots := 0, locals := 42 })
theorem ok_X0_init : pm_ok m_X0_init 2 := ⟨kw_460, kw_57, by decide, by decide, by decide +kernel⟩
abbrev m_X8_init : pm_M := (yX8_init, cX8_init, 3, none, { frames := 3, cells := 0, slots := 0, locals := 64 })
theorem ok_X8_init : pm_ok m_X8_init 2 := ⟨kw_480, kw_58, by decide, by decide, by decide +kernel⟩
abbrev m_X7_init : pm_M := (yX7_init, cX7_init, 3, none, { frames := 2, cells := 0, slots := 0, locals := 42 })
theorem ok_X7_init : pm_ok m_X7_init 2 := ⟨kw_500, kw_59, by decide, by decide, by decide +kernel⟩
abbrev m_X4_begins : pm_M := (yX4_begins, cX4_begins, 4, none, { frames := 0, cells := 0, slots := 0, locals := 0 })
theorem ok_X4_begins : pm_ok m_X4_begins 3 := ⟨kw_540, kw_55, by decide, by decide, by decide +kernel⟩
abbrev m_X11_as : pm_M := (yX11_as, cX11_as, 4, (some .int), { frames := 2, cells := 0, slots := 0, locals := 43 })
theorem ok_X11_as : pm_ok m_X11_as 2 := ⟨kw_544, kw_46, by decide, by decide, by decide +kernel⟩
abbrev m_X11_nutOf : pm_M := (yX11_nutOf, cX11_nutOf, 2, (some (.object "ThirtyNine$Nut")), { frames := 1, cells := 0, slots := 0, locals := 22 })
theorem ok_X11_nutOf : pm_ok m_X11_nutOf 1 := ⟨kw_548, kw_46, by decide, by decide, by decide +kernel⟩
abbrev m_X11_isOfKind : pm_M := (yX11_isOfKind, cX11_isOfKind, 2, (some .boolean), { frames := 0, cells := 0, slots := 0, locals := 0 })
theorem ok_X11_isOfKind : pm_ok m_X11_isOfKind 2 := ⟨kw_551, kw_46, by decide, by decide, by decide +kernel⟩
abbrev m_X11_about : pm_M := (yX11_about, cX11_about, 4, (some .int), { frames := 2, cells := 0, slots := 0, locals := 43 })
theorem ok_X11_about : pm_ok m_X11_about 2 := ⟨kw_555, kw_46, by decide, by decide, by decide +kernel⟩
abbrev m_X4_tell : pm_M := (yX4_tell, cX4_tell, 2, (some .int), { frames := 1, cells := 0, slots := 0, locals := 20 })
theorem ok_X4_tell : pm_ok m_X4_tell 1 := ⟨kw_564, kw_55, by decide, by decide, by decide +kernel⟩
abbrev m_X0_kind : pm_M := (yX0_kind, cX0_kind, 1, (some .int), { frames := 0, cells := 0, slots := 0, locals := 0 })
theorem ok_X0_kind : pm_ok m_X0_kind 0 := ⟨kw_571, kw_57, by decide, by decide, by decide +kernel⟩
abbrev m_X5_kind : pm_M := (yX5_kind, cX5_kind, 1, (some .int), { frames := 0, cells := 0, slots := 0, locals := 0 })
theorem ok_X5_kind : pm_ok m_X5_kind 0 := ⟨kw_574, kw_56, by decide, by decide, by decide +kernel⟩
abbrev m_X7_kind : pm_M := (yX7_kind, cX7_kind, 1, (some .int), { frames := 0, cells := 0, slots := 0, locals := 0 })
theorem ok_X7_kind : pm_ok m_X7_kind 0 := ⟨kw_577, kw_59, by decide, by decide, by decide +kernel⟩
abbrev m_X8_kind : pm_M := (yX8_kind, cX8_kind, 1, (some .int), { frames := 0, cells := 0, slots := 0, locals := 0 })
theorem ok_X8_kind : pm_ok m_X8_kind 0 := ⟨kw_580, kw_58, by decide, by decide, by decide +kernel⟩
abbrev m_X4_kind : pm_M := (yX4_kind, cX4_kind, 1, (some .int), { frames := 0, cells := 0, slots := 0, locals := 0 })
theorem ok_X4_kind : pm_ok m_X4_kind 0 := ⟨kw_581, kw_55, by decide, by decide, by decide +kernel⟩
abbrev m_X0_hard : pm_M := (yX0_hard, cX0_hard, 1, (some .int), { frames := 0, cells := 0, slots := 0, locals := 0 })
theorem ok_X0_hard : pm_ok m_X0_hard 0 := ⟨kw_588, kw_57, by decide, by decide, by decide +kernel⟩
abbrev m_X5_hard : pm_M := (yX5_hard, cX5_hard, 1, (some .int), { frames := 0, cells := 0, slots := 0, locals := 0 })
theorem ok_X5_hard : pm_ok m_X5_hard 0 := ⟨kw_591, kw_56, by decide, by decide, by decide +kernel⟩
abbrev m_X7_hard : pm_M := (yX7_hard, cX7_hard, 1, (some .int), { frames := 0, cells := 0, slots := 0, locals := 0 })
theorem ok_X7_hard : pm_ok m_X7_hard 0 := ⟨kw_594, kw_59, by decide, by decide, by decide +kernel⟩
abbrev m_X8_hard : pm_M := (yX8_hard, cX8_hard, 1, (some .int), { frames := 0, cells := 0, slots := 0, locals := 0 })
theorem ok_X8_hard : pm_ok m_X8_hard 0 := ⟨kw_597, kw_58, by decide, by decide, by decide +kernel⟩
abbrev m_X4_hard : pm_M := (yX4_hard, cX4_hard, 1, (some .int), { frames := 0, cells := 0, slots := 0, locals := 0 })
theorem ok_X4_hard : pm_ok m_X4_hard 0 := ⟨kw_598, kw_55, by decide, by decide, by decide +kernel⟩
abbrev m_X11_beats : pm_M := (yX11_beats, cX11_beats, 5, (some .int), { frames := 4, cells := 0, slots := 0, locals := 92 })
theorem ok_X11_beats : pm_ok m_X11_beats 2 := ⟨kw_602, kw_46, by decide, by decide, by decide +kernel⟩
abbrev m_X4_breaks : pm_M := (yX4_breaks, cX4_breaks, 3, (some .int), { frames := 3, cells := 0, slots := 0, locals := 70 })
theorem ok_X4_breaks : pm_ok m_X4_breaks 2 := ⟨kw_611, kw_55, by decide, by decide, by decide +kernel⟩
abbrev m_X10_countOver : pm_M := (yX10_countOver, cX10_countOver, 7, (some .int), { frames := 2, cells := 0, slots := 0, locals := 44 })
theorem ok_X10_countOver : pm_ok m_X10_countOver 4 := ⟨kw_615, kw_48, by decide, by decide, by decide +kernel⟩
abbrev m_X11_fight : pm_M := (yX11_fight, cX11_fight, 6, (some .int), { frames := 4, cells := 0, slots := 0, locals := 92 })
theorem ok_X11_fight : pm_ok m_X11_fight 3 := ⟨kw_620, kw_46, by decide, by decide, by decide +kernel⟩
abbrev m_X1_strikeOut : pm_M := (yX1_strikeOut, cX1_strikeOut, 8, none, { frames := 2, cells := 0, slots := 0, locals := 46 })
theorem ok_X1_strikeOut : pm_ok m_X1_strikeOut 3 := ⟨kw_624, kw_49, by decide, by decide, by decide +kernel⟩
abbrev m_X1_draw : pm_M := (yX1_draw, cX1_draw, 2, (some .int), { frames := 0, cells := 0, slots := 0, locals := 0 })
theorem ok_X1_draw : pm_ok m_X1_draw 1 := ⟨kw_628, kw_49, by decide, by decide, by decide +kernel⟩
abbrev m_X1_nextStriker : pm_M := (yX1_nextStriker, cX1_nextStriker, 3, (some .int), { frames := 1, cells := 0, slots := 0, locals := 21 })
theorem ok_X1_nextStriker : pm_ok m_X1_nextStriker 2 := ⟨kw_634, kw_49, by decide, by decide, by decide +kernel⟩
abbrev m_X1_strike : pm_M := (yX1_strike, cX1_strike, 6, none, { frames := 1, cells := 0, slots := 0, locals := 21 })
theorem ok_X1_strike : pm_ok m_X1_strike 3 := ⟨kw_639, kw_49, by decide, by decide, by decide +kernel⟩
abbrev m_X11_would : pm_M := (yX11_would, cX11_would, 7, (some .int), { frames := 3, cells := 0, slots := 0, locals := 73 })
theorem ok_X11_would : pm_ok m_X11_would 4 := ⟨kw_645, kw_46, by decide, by decide, by decide +kernel⟩
abbrev m_X1_tell : pm_M := (yX1_tell, cX1_tell, 2, (some .int), { frames := 0, cells := 0, slots := 0, locals := 0 })
theorem ok_X1_tell : pm_ok m_X1_tell 1 := ⟨kw_649, kw_49, by decide, by decide, by decide +kernel⟩
abbrev m_X11_scales : pm_M := (yX11_scales, cX11_scales, 4, (some .int), { frames := 2, cells := 0, slots := 0, locals := 43 })
theorem ok_X11_scales : pm_ok m_X11_scales 2 := ⟨kw_653, kw_46, by decide, by decide, by decide +kernel⟩
abbrev m_X11_told : pm_M := (yX11_told, cX11_told, 5, (some .int), { frames := 2, cells := 0, slots := 0, locals := 43 })
theorem ok_X11_told : pm_ok m_X11_told 2 := ⟨kw_657, kw_46, by decide, by decide, by decide +kernel⟩
abbrev m_X3_add : pm_M := (yX3_add, cX3_add, 3, (some .int), { frames := 0, cells := 0, slots := 0, locals := 0 })
theorem ok_X3_add : pm_ok m_X3_add 2 := ⟨kw_661, kw_50, by decide, by decide, by decide +kernel⟩
abbrev m_X11_claim : pm_M := (yX11_claim, cX11_claim, 5, (some .int), { frames := 2, cells := 0, slots := 0, locals := 43 })
theorem ok_X11_claim : pm_ok m_X11_claim 2 := ⟨kw_665, kw_46, by decide, by decide, by decide +kernel⟩
abbrev m_X11_by : pm_M := (yX11_by, cX11_by, 5, (some .int), { frames := 5, cells := 0, slots := 0, locals := 120 })
theorem ok_X11_by : pm_ok m_X11_by 2 := ⟨kw_669, kw_46, by decide, by decide, by decide +kernel⟩
abbrev m_X3_hasSet : pm_M := (yX3_hasSet, cX3_hasSet, 2, (some .boolean), { frames := 0, cells := 0, slots := 0, locals := 0 })
theorem ok_X3_hasSet : pm_ok m_X3_hasSet 1 := ⟨kw_673, kw_50, by decide, by decide, by decide +kernel⟩
abbrev m_X3_follow : pm_M := (yX3_follow, cX3_follow, 6, (some .boolean), { frames := 4, cells := 0, slots := 0, locals := 95 })
theorem ok_X3_follow : pm_ok m_X3_follow 3 := ⟨kw_677, kw_50, by decide, by decide, by decide +kernel⟩
abbrev m_X3_countFight : pm_M := (yX3_countFight, cX3_countFight, 6, none, { frames := 3, cells := 0, slots := 0, locals := 70 })
theorem ok_X3_countFight : pm_ok m_X3_countFight 3 := ⟨kw_681, kw_50, by decide, by decide, by decide +kernel⟩
abbrev m_X3_followedCount : pm_M := (yX3_followedCount, cX3_followedCount, 2, (some .int), { frames := 0, cells := 0, slots := 0, locals := 0 })
theorem ok_X3_followedCount : pm_ok m_X3_followedCount 1 := ⟨kw_686, kw_50, by decide, by decide, by decide +kernel⟩
abbrev m_X11_lies : pm_M := (yX11_lies, cX11_lies, 2, (some .int), { frames := 6, cells := 0, slots := 0, locals := 145 })
theorem ok_X11_lies : pm_ok m_X11_lies 1 := ⟨kw_690, kw_46, by decide, by decide, by decide +kernel⟩
abbrev m_X3_findFewestLies : pm_M := (yX3_findFewestLies, cX3_findFewestLies, 6, none, { frames := 5, cells := 0, slots := 0, locals := 120 })
theorem ok_X3_findFewestLies : pm_ok m_X3_findFewestLies 2 := ⟨kw_694, kw_50, by decide, by decide, by decide +kernel⟩
abbrev m_X3_liesOf : pm_M := (yX3_liesOf, cX3_liesOf, 5, (some .int), { frames := 1, cells := 0, slots := 0, locals := 20 })
theorem ok_X3_liesOf : pm_ok m_X3_liesOf 2 := ⟨kw_699, kw_50, by decide, by decide, by decide +kernel⟩
abbrev m_J6_bitCount_0f7a4 : pm_M := (yJ6_bitCount_0f7a4, cJ6_bitCount_0f7a4, 1, (some .int), { frames := 0, cells := 0, slots := 0, locals := 0 })
theorem ok_J6_bitCount_0f7a4 : pm_ok m_J6_bitCount_0f7a4 1 := ⟨kw_702, kw_60, by decide, by decide, by decide +kernel⟩
abbrev m_X11_most : pm_M := (yX11_most, cX11_most, 4, (some .int), { frames := 6, cells := 0, slots := 0, locals := 146 })
theorem ok_X11_most : pm_ok m_X11_most 2 := ⟨kw_709, kw_46, by decide, by decide, by decide +kernel⟩
abbrev m_X3_greatestCount : pm_M := (yX3_greatestCount, cX3_greatestCount, 7, (some .int), { frames := 5, cells := 0, slots := 0, locals := 120 })
theorem ok_X3_greatestCount : pm_ok m_X3_greatestCount 4 := ⟨kw_713, kw_50, by decide, by decide, by decide +kernel⟩
abbrev m_X11_whose : pm_M := (yX11_whose, cX11_whose, 2, (some .int), { frames := 6, cells := 0, slots := 0, locals := 145 })
theorem ok_X11_whose : pm_ok m_X11_whose 1 := ⟨kw_719, kw_46, by decide, by decide, by decide +kernel⟩
abbrev m_X3_fewestWithout : pm_M := (yX3_fewestWithout, cX3_fewestWithout, 6, (some .int), { frames := 5, cells := 0, slots := 0, locals := 120 })
theorem ok_X3_fewestWithout : pm_ok m_X3_fewestWithout 3 := ⟨kw_723, kw_50, by decide, by decide, by decide +kernel⟩
abbrev m_X11_reach : pm_M := (yX11_reach, cX11_reach, 5, (some .long), { frames := 6, cells := 0, slots := 0, locals := 162 })
theorem ok_X11_reach : pm_ok m_X11_reach 2 := ⟨kw_727, kw_46, by decide, by decide, by decide +kernel⟩
abbrev m_X9_gather : pm_M := (yX9_gather, cX9_gather, 5, none, { frames := 0, cells := 0, slots := 0, locals := 0 })
theorem ok_X9_gather : pm_ok m_X9_gather 3 := ⟨kw_734, kw_51, by decide, by decide, by decide +kernel⟩
abbrev m_X9_allCounts : pm_M := (yX9_allCounts, cX9_allCounts, 4, (some .long), { frames := 5, cells := 0, slots := 0, locals := 139 })
theorem ok_X9_allCounts : pm_ok m_X9_allCounts 1 := ⟨kw_738, kw_51, by decide, by decide, by decide +kernel⟩
abbrev m_X9_firstCount : pm_M := (yX9_firstCount, cX9_firstCount, 1, (some .long), { frames := 1, cells := 0, slots := 0, locals := 21 })
theorem ok_X9_firstCount : pm_ok m_X9_firstCount 1 := ⟨kw_741, kw_51, by decide, by decide, by decide +kernel⟩
abbrev m_X9_countsOver : pm_M := (yX9_countsOver, cX9_countsOver, 13, (some .long), { frames := 4, cells := 0, slots := 0, locals := 107 })
theorem ok_X9_countsOver : pm_ok m_X9_countsOver 3 := ⟨kw_746, kw_51, by decide, by decide, by decide +kernel⟩
abbrev m_X9_countsOfAll : pm_M := (yX9_countsOfAll, cX9_countsOfAll, 18, (some .long), { frames := 3, cells := 0, slots := 0, locals := 70 })
theorem ok_X9_countsOfAll : pm_ok m_X9_countsOfAll 5 := ⟨kw_749, kw_51, by decide, by decide, by decide +kernel⟩
abbrev m_J13_bitCount_95d88 : pm_M := (yJ13_bitCount_95d88, cJ13_bitCount_95d88, 2, (some .int), { frames := 0, cells := 0, slots := 0, locals := 0 })
theorem ok_J13_bitCount_95d88 : pm_ok m_J13_bitCount_95d88 1 := ⟨kw_752, kw_61, by decide, by decide, by decide +kernel⟩
abbrev m_J13_numberOfTrailingZeros_95d88 : pm_M := (yJ13_numberOfTrailingZeros_95d88, cJ13_numberOfTrailingZeros_95d88, 3, (some .int), { frames := 1, cells := 0, slots := 0, locals := 21 })
theorem ok_J13_numberOfTrailingZeros_95d88 : pm_ok m_J13_numberOfTrailingZeros_95d88 1 := ⟨kw_758, kw_61, by decide, by decide, by decide +kernel⟩
abbrev m_J6_numberOfTrailingZeros_0f7a4 : pm_M := (yJ6_numberOfTrailingZeros_0f7a4, cJ6_numberOfTrailingZeros_0f7a4, 2, (some .int), { frames := 0, cells := 0, slots := 0, locals := 0 })
theorem ok_J6_numberOfTrailingZeros_0f7a4 : pm_ok m_J6_numberOfTrailingZeros_0f7a4 1 := ⟨kw_761, kw_60, by decide, by decide, by decide +kernel⟩
abbrev m_X11_odds : pm_M := (yX11_odds, cX11_odds, 6, (some .long), { frames := 3, cells := 0, slots := 0, locals := 89 })
theorem ok_X11_odds : pm_ok m_X11_odds 3 := ⟨kw_767, kw_46, by decide, by decide, by decide +kernel⟩
abbrev m_X3_learntOdds : pm_M := (yX3_learntOdds, cX3_learntOdds, 14, (some .long), { frames := 2, cells := 0, slots := 0, locals := 56 })
theorem ok_X3_learntOdds : pm_ok m_X3_learntOdds 4 := ⟨kw_772, kw_50, by decide, by decide, by decide +kernel⟩
abbrev m_X11_power : pm_M := (yX11_power, cX11_power, 6, (some .long), { frames := 0, cells := 0, slots := 0, locals := 0 })
theorem ok_X11_power : pm_ok m_X11_power 2 := ⟨kw_776, kw_46, by decide, by decide, by decide +kernel⟩
abbrev m_X3_grade : pm_M := (yX3_grade, cX3_grade, 4, none, { frames := 0, cells := 0, slots := 0, locals := 0 })
theorem ok_X3_grade : pm_ok m_X3_grade 1 := ⟨kw_780, kw_50, by decide, by decide, by decide +kernel⟩
abbrev m_X3_weightOfGrades : pm_M := (yX3_weightOfGrades, cX3_weightOfGrades, 4, (some .long), { frames := 0, cells := 0, slots := 0, locals := 0 })
theorem ok_X3_weightOfGrades : pm_ok m_X3_weightOfGrades 0 := ⟨kw_784, kw_50, by decide, by decide, by decide +kernel⟩
abbrev m_X11_inLowestTerms : pm_M := (yX11_inLowestTerms, cX11_inLowestTerms, 7, (some .long), { frames := 1, cells := 0, slots := 0, locals := 30 })
theorem ok_X11_inLowestTerms : pm_ok m_X11_inLowestTerms 3 := ⟨kw_788, kw_46, by decide, by decide, by decide +kernel⟩
abbrev m_X11_greatestDivisor : pm_M := (yX11_greatestDivisor, cX11_greatestDivisor, 11, (some .long), { frames := 0, cells := 0, slots := 0, locals := 0 })
theorem ok_X11_greatestDivisor : pm_ok m_X11_greatestDivisor 2 := ⟨kw_791, kw_46, by decide, by decide, by decide +kernel⟩
abbrev m_X11_likely : pm_M := (yX11_likely, cX11_likely, 5, (some .long), { frames := 3, cells := 0, slots := 0, locals := 89 })
theorem ok_X11_likely : pm_ok m_X11_likely 3 := ⟨kw_795, kw_46, by decide, by decide, by decide +kernel⟩
abbrev m_X3_learntGrade : pm_M := (yX3_learntGrade, cX3_learntGrade, 14, (some .long), { frames := 2, cells := 0, slots := 0, locals := 56 })
theorem ok_X3_learntGrade : pm_ok m_X3_learntGrade 4 := ⟨kw_799, kw_50, by decide, by decide, by decide +kernel⟩
abbrev m_X11_comer : pm_M := (yX11_comer, cX11_comer, 5, (some .int), { frames := 2, cells := 0, slots := 0, locals := 43 })
theorem ok_X11_comer : pm_ok m_X11_comer 3 := ⟨kw_803, kw_46, by decide, by decide, by decide +kernel⟩
abbrev m_X2_add : pm_M := (yX2_add, cX2_add, 4, (some .int), { frames := 0, cells := 0, slots := 0, locals := 0 })
theorem ok_X2_add : pm_ok m_X2_add 3 := ⟨kw_807, kw_52, by decide, by decide, by decide +kernel⟩
abbrev m_X11_gone : pm_M := (yX11_gone, cX11_gone, 1, (some .int), { frames := 1, cells := 0, slots := 0, locals := 21 })
theorem ok_X11_gone : pm_ok m_X11_gone 0 := ⟨kw_811, kw_46, by decide, by decide, by decide +kernel⟩
abbrev m_X2_clear : pm_M := (yX2_clear, cX2_clear, 2, (some .int), { frames := 0, cells := 0, slots := 0, locals := 0 })
theorem ok_X2_clear : pm_ok m_X2_clear 0 := ⟨kw_815, kw_52, by decide, by decide, by decide +kernel⟩
abbrev m_X11_worth : pm_M := (yX11_worth, cX11_worth, 7, (some .long), { frames := 4, cells := 0, slots := 0, locals := 98 })
theorem ok_X11_worth : pm_ok m_X11_worth 3 := ⟨kw_819, kw_46, by decide, by decide, by decide +kernel⟩
abbrev m_X2_hasSet : pm_M := (yX2_hasSet, cX2_hasSet, 2, (some .boolean), { frames := 0, cells := 0, slots := 0, locals := 0 })
theorem ok_X2_hasSet : pm_ok m_X2_hasSet 1 := ⟨kw_823, kw_52, by decide, by decide, by decide +kernel⟩
abbrev m_X2_worthAbove : pm_M := (yX2_worthAbove, cX2_worthAbove, 9, (some .long), { frames := 3, cells := 0, slots := 0, locals := 70 })
theorem ok_X2_worthAbove : pm_ok m_X2_worthAbove 3 := ⟨kw_827, kw_52, by decide, by decide, by decide +kernel⟩
abbrev m_X11_season : pm_M := (yX11_season, cX11_season, 3, (some .int), { frames := 5, cells := 0, slots := 0, locals := 128 })
theorem ok_X11_season : pm_ok m_X11_season 1 := ⟨kw_836, kw_46, by decide, by decide, by decide +kernel⟩
abbrev m_X2_bestSet : pm_M := (yX2_bestSet, cX2_bestSet, 11, (some .int), { frames := 4, cells := 0, slots := 0, locals := 98 })
theorem ok_X2_bestSet : pm_ok m_X2_bestSet 2 := ⟨kw_840, kw_52, by decide, by decide, by decide +kernel⟩
abbrev m_X11_tree : pm_M := (yX11_tree, cX11_tree, 12, (some .int), { frames := 3, cells := 0, slots := 0, locals := 72 })
theorem ok_X11_tree : pm_ok m_X11_tree 6 := ⟨kw_849, kw_46, by decide, by decide, by decide +kernel⟩
abbrev m_X11_takeSeats : pm_M := (yX11_takeSeats, cX11_takeSeats, 10, (some .boolean), { frames := 2, cells := 0, slots := 0, locals := 43 })
theorem ok_X11_takeSeats : pm_ok m_X11_takeSeats 4 := ⟨kw_853, kw_46, by decide, by decide, by decide +kernel⟩
abbrev m_X11_tenthsFor : pm_M := (yX11_tenthsFor, cX11_tenthsFor, 4, (some .int), { frames := 1, cells := 0, slots := 0, locals := 21 })
theorem ok_X11_tenthsFor : pm_ok m_X11_tenthsFor 2 := ⟨kw_858, kw_46, by decide, by decide, by decide +kernel⟩
abbrev m_X11_last : pm_M := (yX11_last, cX11_last, 7, (some .int), { frames := 3, cells := 0, slots := 0, locals := 72 })
theorem ok_X11_last : pm_ok m_X11_last 4 := ⟨kw_864, kw_46, by decide, by decide, by decide +kernel⟩
abbrev m_X11_run : pm_M := (yX11_run, cX11_run, 4, (some .int), { frames := 2, cells := 0, slots := 0, locals := 56 })
theorem ok_X11_run : pm_ok m_X11_run 3 := ⟨kw_868, kw_46, by decide, by decide, by decide +kernel⟩
abbrev m_X11_image : pm_M := (yX11_image, cX11_image, 2, (some .int), { frames := 1, cells := 0, slots := 0, locals := 20 })
theorem ok_X11_image : pm_ok m_X11_image 0 := ⟨kw_872, kw_46, by decide, by decide, by decide +kernel⟩
abbrev m_X4_keep : pm_M := (yX4_keep, cX4_keep, 1, none, { frames := 0, cells := 0, slots := 0, locals := 0 })
theorem ok_X4_keep : pm_ok m_X4_keep 0 := ⟨kw_881, kw_55, by decide, by decide, by decide +kernel⟩
abbrev m_X3_keep : pm_M := (yX3_keep, cX3_keep, 1, none, { frames := 0, cells := 0, slots := 0, locals := 0 })
theorem ok_X3_keep : pm_ok m_X3_keep 0 := ⟨kw_885, kw_50, by decide, by decide, by decide +kernel⟩
abbrev m_X11_restore : pm_M := (yX11_restore, cX11_restore, 2, (some .int), { frames := 1, cells := 0, slots := 0, locals := 20 })
theorem ok_X11_restore : pm_ok m_X11_restore 0 := ⟨kw_889, kw_46, by decide, by decide, by decide +kernel⟩
abbrev m_X4_goBack : pm_M := (yX4_goBack, cX4_goBack, 1, none, { frames := 0, cells := 0, slots := 0, locals := 0 })
theorem ok_X4_goBack : pm_ok m_X4_goBack 0 := ⟨kw_898, kw_55, by decide, by decide, by decide +kernel⟩
abbrev m_X3_goBack : pm_M := (yX3_goBack, cX3_goBack, 1, none, { frames := 0, cells := 0, slots := 0, locals := 0 })
theorem ok_X3_goBack : pm_ok m_X3_goBack 0 := ⟨kw_902, kw_50, by decide, by decide, by decide +kernel⟩
abbrev m_X11_count : pm_M := (yX11_count, cX11_count, 2, (some .int), { frames := 1, cells := 0, slots := 0, locals := 22 })
theorem ok_X11_count : pm_ok m_X11_count 1 := ⟨kw_906, kw_46, by decide, by decide, by decide +kernel⟩
abbrev m_X11_brokenNuts : pm_M := (yX11_brokenNuts, cX11_brokenNuts, 3, (some .int), { frames := 0, cells := 0, slots := 0, locals := 0 })
theorem ok_X11_brokenNuts : pm_ok m_X11_brokenNuts 0 := ⟨kw_910, kw_46, by decide, by decide, by decide +kernel⟩
abbrev m_X11_claimsMade : pm_M := (yX11_claimsMade, cX11_claimsMade, 3, (some .int), { frames := 0, cells := 0, slots := 0, locals := 0 })
theorem ok_X11_claimsMade : pm_ok m_X11_claimsMade 0 := ⟨kw_914, kw_46, by decide, by decide, by decide +kernel⟩
abbrev m_X11_digest : pm_M := (yX11_digest, cX11_digest, 4, (some .long), { frames := 6, cells := 0, slots := 0, locals := 153 })
theorem ok_X11_digest : pm_ok m_X11_digest 0 := ⟨kw_918, kw_46, by decide, by decide, by decide +kernel⟩
abbrev m_X11_mixSchools : pm_M := (yX11_mixSchools, cX11_mixSchools, 6, (some .long), { frames := 2, cells := 0, slots := 0, locals := 44 })
theorem ok_X11_mixSchools : pm_ok m_X11_mixSchools 1 := ⟨kw_923, kw_46, by decide, by decide, by decide +kernel⟩
abbrev m_X11_mixed : pm_M := (yX11_mixed, cX11_mixed, 4, (some .long), { frames := 0, cells := 0, slots := 0, locals := 0 })
theorem ok_X11_mixed : pm_ok m_X11_mixed 2 := ⟨kw_926, kw_46, by decide, by decide, by decide +kernel⟩
abbrev m_X11_mixNuts : pm_M := (yX11_mixNuts, cX11_mixNuts, 7, (some .long), { frames := 2, cells := 0, slots := 0, locals := 41 })
theorem ok_X11_mixNuts : pm_ok m_X11_mixNuts 1 := ⟨kw_931, kw_46, by decide, by decide, by decide +kernel⟩
abbrev m_X3_mixInto : pm_M := (yX3_mixInto, cX3_mixInto, 6, (some .long), { frames := 1, cells := 0, slots := 0, locals := 23 })
theorem ok_X3_mixInto : pm_ok m_X3_mixInto 1 := ⟨kw_935, kw_50, by decide, by decide, by decide +kernel⟩
abbrev m_X2_mixInto : pm_M := (yX2_mixInto, cX2_mixInto, 6, (some .long), { frames := 1, cells := 0, slots := 0, locals := 23 })
theorem ok_X2_mixInto : pm_ok m_X2_mixInto 1 := ⟨kw_940, kw_52, by decide, by decide, by decide +kernel⟩
abbrev m_X11_mixSeasons : pm_M := (yX11_mixSeasons, cX11_mixSeasons, 6, (some .long), { frames := 5, cells := 0, slots := 0, locals := 128 })
theorem ok_X11_mixSeasons : pm_ok m_X11_mixSeasons 1 := ⟨kw_945, kw_46, by decide, by decide, by decide +kernel⟩
abbrev m_X6_mixInto : pm_M := (yX6_mixInto, cX6_mixInto, 6, (some .long), { frames := 1, cells := 0, slots := 0, locals := 23 })
theorem ok_X6_mixInto : pm_ok m_X6_mixInto 1 := ⟨kw_949, kw_47, by decide, by decide, by decide +kernel⟩
abbrev m_X12_init : pm_M := (yX12_init, cX12_init, 2, none, { frames := 1, cells := 23, slots := 224, locals := 20 })
theorem ok_X12_init : pm_ok m_X12_init 0 := ⟨kw_956, kw_53, by decide, by decide, by decide +kernel⟩
abbrev m_X12_letters : pm_M := (yX12_letters, cX12_letters, 9, (some .int), { frames := 0, cells := 0, slots := 0, locals := 0 })
theorem ok_X12_letters : pm_ok m_X12_letters 1 := ⟨kw_1095, kw_53, by decide, by decide, by decide +kernel⟩
abbrev m_X12_blank : pm_M := (yX12_blank, cX12_blank, 2, (some .int), { frames := 0, cells := 0, slots := 0, locals := 0 })
theorem ok_X12_blank : pm_ok m_X12_blank 0 := ⟨kw_1100, kw_53, by decide, by decide, by decide +kernel⟩
abbrev m_X12_fault : pm_M := (yX12_fault, cX12_fault, 1, (some .int), { frames := 3, cells := 0, slots := 0, locals := 68 })
theorem ok_X12_fault : pm_ok m_X12_fault 0 := ⟨kw_1104, kw_53, by decide, by decide, by decide +kernel⟩
abbrev m_X12_faultOf : pm_M := (yX12_faultOf, cX12_faultOf, 2, (some .int), { frames := 2, cells := 0, slots := 0, locals := 47 })
theorem ok_X12_faultOf : pm_ok m_X12_faultOf 0 := ⟨kw_1108, kw_53, by decide, by decide, by decide +kernel⟩
abbrev m_X12_go : pm_M := (yX12_go, cX12_go, 3, (some .boolean), { frames := 1, cells := 0, slots := 0, locals := 25 })
theorem ok_X12_go : pm_ok m_X12_go 1 := ⟨kw_1112, kw_53, by decide, by decide, by decide +kernel⟩
abbrev m_X12_in : pm_M := (yX12_in, cX12_in, 6, (some .boolean), { frames := 0, cells := 0, slots := 0, locals := 0 })
theorem ok_X12_in : pm_ok m_X12_in 3 := ⟨kw_1117, kw_53, by decide, by decide, by decide +kernel⟩
abbrev m_X12_school : pm_M := (yX12_school, cX12_school, 2, (some .int), { frames := 3, cells := 0, slots := 0, locals := 68 })
theorem ok_X12_school : pm_ok m_X12_school 0 := ⟨kw_1121, kw_53, by decide, by decide, by decide +kernel⟩
abbrev m_X12_counts : pm_M := (yX12_counts, cX12_counts, 4, (some .int), { frames := 2, cells := 0, slots := 0, locals := 47 })
theorem ok_X12_counts : pm_ok m_X12_counts 3 := ⟨kw_1125, kw_53, by decide, by decide, by decide +kernel⟩
abbrev m_X12_isSchool : pm_M := (yX12_isSchool, cX12_isSchool, 2, (some .boolean), { frames := 1, cells := 0, slots := 0, locals := 25 })
theorem ok_X12_isSchool : pm_ok m_X12_isSchool 1 := ⟨kw_1129, kw_53, by decide, by decide, by decide +kernel⟩
abbrev m_X12_countsOf : pm_M := (yX12_countsOf, cX12_countsOf, 6, (some .int), { frames := 1, cells := 0, slots := 0, locals := 22 })
theorem ok_X12_countsOf : pm_ok m_X12_countsOf 3 := ⟨kw_1134, kw_53, by decide, by decide, by decide +kernel⟩
abbrev m_X12_worthOf : pm_M := (yX12_worthOf, cX12_worthOf, 3, (some .int), { frames := 0, cells := 0, slots := 0, locals := 0 })
theorem ok_X12_worthOf : pm_ok m_X12_worthOf 3 := ⟨kw_1137, kw_53, by decide, by decide, by decide +kernel⟩
abbrev m_X12_meeting : pm_M := (yX12_meeting, cX12_meeting, 3, (some .int), { frames := 1, cells := 0, slots := 0, locals := 25 })
theorem ok_X12_meeting : pm_ok m_X12_meeting 1 := ⟨kw_1141, kw_53, by decide, by decide, by decide +kernel⟩
abbrev m_X12_nut : pm_M := (yX12_nut, cX12_nut, 6, (some .int), { frames := 2, cells := 0, slots := 0, locals := 46 })
theorem ok_X12_nut : pm_ok m_X12_nut 5 := ⟨kw_1146, kw_53, by decide, by decide, by decide +kernel⟩
abbrev m_X12_as : pm_M := (yX12_as, cX12_as, 4, (some .int), { frames := 2, cells := 0, slots := 0, locals := 46 })
theorem ok_X12_as : pm_ok m_X12_as 2 := ⟨kw_1153, kw_53, by decide, by decide, by decide +kernel⟩
abbrev m_X12_isNut : pm_M := (yX12_isNut, cX12_isNut, 2, (some .boolean), { frames := 1, cells := 0, slots := 0, locals := 25 })
theorem ok_X12_isNut : pm_ok m_X12_isNut 1 := ⟨kw_1157, kw_53, by decide, by decide, by decide +kernel⟩
abbrev m_X12_about : pm_M := (yX12_about, cX12_about, 3, (some .int), { frames := 2, cells := 0, slots := 0, locals := 46 })
theorem ok_X12_about : pm_ok m_X12_about 2 := ⟨kw_1161, kw_53, by decide, by decide, by decide +kernel⟩
abbrev m_X12_aboutOf : pm_M := (yX12_aboutOf, cX12_aboutOf, 3, (some .int), { frames := 1, cells := 0, slots := 0, locals := 22 })
theorem ok_X12_aboutOf : pm_ok m_X12_aboutOf 2 := ⟨kw_1165, kw_53, by decide, by decide, by decide +kernel⟩
abbrev m_X12_hard : pm_M := (yX12_hard, cX12_hard, 3, (some .int), { frames := 0, cells := 0, slots := 0, locals := 0 })
theorem ok_X12_hard : pm_ok m_X12_hard 1 := ⟨kw_1169, kw_53, by decide, by decide, by decide +kernel⟩
abbrev m_X12_beats : pm_M := (yX12_beats, cX12_beats, 3, (some .int), { frames := 4, cells := 0, slots := 0, locals := 95 })
theorem ok_X12_beats : pm_ok m_X12_beats 2 := ⟨kw_1173, kw_53, by decide, by decide, by decide +kernel⟩
abbrev m_X12_isPair : pm_M := (yX12_isPair, cX12_isPair, 3, (some .boolean), { frames := 2, cells := 0, slots := 0, locals := 46 })
theorem ok_X12_isPair : pm_ok m_X12_isPair 2 := ⟨kw_1177, kw_53, by decide, by decide, by decide +kernel⟩
abbrev m_X12_beat : pm_M := (yX12_beat, cX12_beat, 3, none, { frames := 3, cells := 0, slots := 0, locals := 73 })
theorem ok_X12_beat : pm_ok m_X12_beat 2 := ⟨kw_1181, kw_53, by decide, by decide, by decide +kernel⟩
abbrev m_X12_meet : pm_M := (yX12_meet, cX12_meet, 7, (some .int), { frames := 2, cells := 0, slots := 0, locals := 47 })
theorem ok_X12_meet : pm_ok m_X12_meet 4 := ⟨kw_1185, kw_53, by decide, by decide, by decide +kernel⟩
abbrev m_X12_fight : pm_M := (yX12_fight, cX12_fight, 5, (some .int), { frames := 4, cells := 0, slots := 0, locals := 95 })
theorem ok_X12_fight : pm_ok m_X12_fight 3 := ⟨kw_1189, kw_53, by decide, by decide, by decide +kernel⟩
abbrev m_X12_fought : pm_M := (yX12_fought, cX12_fought, 7, (some .int), { frames := 1, cells := 0, slots := 0, locals := 22 })
theorem ok_X12_fought : pm_ok m_X12_fought 3 := ⟨kw_1193, kw_53, by decide, by decide, by decide +kernel⟩
abbrev m_X12_draw : pm_M := (yX12_draw, cX12_draw, 2, (some .int), { frames := 0, cells := 0, slots := 0, locals := 0 })
theorem ok_X12_draw : pm_ok m_X12_draw 1 := ⟨kw_1197, kw_53, by decide, by decide, by decide +kernel⟩
abbrev m_X12_would : pm_M := (yX12_would, cX12_would, 6, (some .int), { frames := 3, cells := 0, slots := 0, locals := 68 })
theorem ok_X12_would : pm_ok m_X12_would 4 := ⟨kw_1205, kw_53, by decide, by decide, by decide +kernel⟩
abbrev m_X12_scales : pm_M := (yX12_scales, cX12_scales, 4, (some .int), { frames := 2, cells := 0, slots := 0, locals := 46 })
theorem ok_X12_scales : pm_ok m_X12_scales 2 := ⟨kw_1209, kw_53, by decide, by decide, by decide +kernel⟩
abbrev m_X12_told : pm_M := (yX12_told, cX12_told, 3, (some .int), { frames := 3, cells := 0, slots := 0, locals := 68 })
theorem ok_X12_told : pm_ok m_X12_told 2 := ⟨kw_1214, kw_53, by decide, by decide, by decide +kernel⟩
abbrev m_X12_claim : pm_M := (yX12_claim, cX12_claim, 4, (some .int), { frames := 2, cells := 0, slots := 0, locals := 46 })
theorem ok_X12_claim : pm_ok m_X12_claim 2 := ⟨kw_1218, kw_53, by decide, by decide, by decide +kernel⟩
abbrev m_X12_by : pm_M := (yX12_by, cX12_by, 4, (some .int), { frames := 4, cells := 0, slots := 0, locals := 99 })
theorem ok_X12_by : pm_ok m_X12_by 2 := ⟨kw_1223, kw_53, by decide, by decide, by decide +kernel⟩
abbrev m_X12_layBy : pm_M := (yX12_layBy, cX12_layBy, 7, (some .boolean), { frames := 3, cells := 0, slots := 0, locals := 73 })
theorem ok_X12_layBy : pm_ok m_X12_layBy 1 := ⟨kw_1227, kw_53, by decide, by decide, by decide +kernel⟩
abbrev m_X12_lies : pm_M := (yX12_lies, cX12_lies, 2, (some .int), { frames := 5, cells := 0, slots := 0, locals := 122 })
theorem ok_X12_lies : pm_ok m_X12_lies 1 := ⟨kw_1231, kw_53, by decide, by decide, by decide +kernel⟩
abbrev m_X12_layFewest : pm_M := (yX12_layFewest, cX12_layFewest, 4, none, { frames := 4, cells := 0, slots := 0, locals := 99 })
theorem ok_X12_layFewest : pm_ok m_X12_layFewest 0 := ⟨kw_1235, kw_53, by decide, by decide, by decide +kernel⟩
abbrev m_X12_liesOf : pm_M := (yX12_liesOf, cX12_liesOf, 4, (some .int), { frames := 1, cells := 0, slots := 0, locals := 22 })
theorem ok_X12_liesOf : pm_ok m_X12_liesOf 1 := ⟨kw_1239, kw_53, by decide, by decide, by decide +kernel⟩
abbrev m_X12_bitsOf : pm_M := (yX12_bitsOf, cX12_bitsOf, 3, (some .int), { frames := 0, cells := 0, slots := 0, locals := 0 })
theorem ok_X12_bitsOf : pm_ok m_X12_bitsOf 1 := ⟨kw_1242, kw_53, by decide, by decide, by decide +kernel⟩
abbrev m_X12_most : pm_M := (yX12_most, cX12_most, 5, (some .int), { frames := 4, cells := 0, slots := 0, locals := 99 })
theorem ok_X12_most : pm_ok m_X12_most 2 := ⟨kw_1246, kw_53, by decide, by decide, by decide +kernel⟩
abbrev m_X12_whose : pm_M := (yX12_whose, cX12_whose, 4, (some .int), { frames := 5, cells := 0, slots := 0, locals := 122 })
theorem ok_X12_whose : pm_ok m_X12_whose 1 := ⟨kw_1251, kw_53, by decide, by decide, by decide +kernel⟩
abbrev m_X12_reach : pm_M := (yX12_reach, cX12_reach, 7, (some .long), { frames := 4, cells := 0, slots := 0, locals := 100 })
theorem ok_X12_reach : pm_ok m_X12_reach 2 := ⟨kw_1255, kw_53, by decide, by decide, by decide +kernel⟩
abbrev m_X12_reached : pm_M := (yX12_reached, cX12_reached, 8, (some .int), { frames := 3, cells := 0, slots := 0, locals := 73 })
theorem ok_X12_reached : pm_ok m_X12_reached 1 := ⟨kw_1261, kw_53, by decide, by decide, by decide +kernel⟩
abbrev m_X12_narrow : pm_M := (yX12_narrow, cX12_narrow, 1, (some .int), { frames := 0, cells := 0, slots := 0, locals := 0 })
theorem ok_X12_narrow : pm_ok m_X12_narrow 1 := ⟨kw_1264, kw_53, by decide, by decide, by decide +kernel⟩
abbrev m_X12_whole : pm_M := (yX12_whole, cX12_whole, 6, (some .int), { frames := 0, cells := 0, slots := 0, locals := 0 })
theorem ok_X12_whole : pm_ok m_X12_whole 3 := ⟨kw_1268, kw_53, by decide, by decide, by decide +kernel⟩
abbrev m_X12_odds : pm_M := (yX12_odds, cX12_odds, 11, (some .long), { frames := 3, cells := 0, slots := 0, locals := 68 })
theorem ok_X12_odds : pm_ok m_X12_odds 3 := ⟨kw_1272, kw_53, by decide, by decide, by decide +kernel⟩
abbrev m_X12_isPart : pm_M := (yX12_isPart, cX12_isPart, 1, (some .boolean), { frames := 1, cells := 0, slots := 0, locals := 25 })
theorem ok_X12_isPart : pm_ok m_X12_isPart 1 := ⟨kw_1275, kw_53, by decide, by decide, by decide +kernel⟩
abbrev m_X12_power : pm_M := (yX12_power, cX12_power, 4, (some .int), { frames := 0, cells := 0, slots := 0, locals := 0 })
theorem ok_X12_power : pm_ok m_X12_power 2 := ⟨kw_1279, kw_53, by decide, by decide, by decide +kernel⟩
abbrev m_X12_likelyOf : pm_M := (yX12_likelyOf, cX12_likelyOf, 5, (some .long), { frames := 2, cells := 0, slots := 0, locals := 44 })
theorem ok_X12_likelyOf : pm_ok m_X12_likelyOf 1 := ⟨kw_1283, kw_53, by decide, by decide, by decide +kernel⟩
abbrev m_X12_softOf : pm_M := (yX12_softOf, cX12_softOf, 2, (some .int), { frames := 1, cells := 0, slots := 0, locals := 23 })
theorem ok_X12_softOf : pm_ok m_X12_softOf 2 := ⟨kw_1286, kw_53, by decide, by decide, by decide +kernel⟩
abbrev m_X12_term : pm_M := (yX12_term, cX12_term, 7, (some .long), { frames := 1, cells := 0, slots := 0, locals := 29 })
theorem ok_X12_term : pm_ok m_X12_term 3 := ⟨kw_1290, kw_53, by decide, by decide, by decide +kernel⟩
abbrev m_X12_common : pm_M := (yX12_common, cX12_common, 10, (some .long), { frames := 0, cells := 0, slots := 0, locals := 0 })
theorem ok_X12_common : pm_ok m_X12_common 2 := ⟨kw_1293, kw_53, by decide, by decide, by decide +kernel⟩
abbrev m_X12_likely : pm_M := (yX12_likely, cX12_likely, 11, (some .long), { frames := 3, cells := 0, slots := 0, locals := 68 })
theorem ok_X12_likely : pm_ok m_X12_likely 3 := ⟨kw_1297, kw_53, by decide, by decide, by decide +kernel⟩
abbrev m_X12_comer : pm_M := (yX12_comer, cX12_comer, 4, (some .int), { frames := 2, cells := 0, slots := 0, locals := 46 })
theorem ok_X12_comer : pm_ok m_X12_comer 3 := ⟨kw_1301, kw_53, by decide, by decide, by decide +kernel⟩
abbrev m_X12_gone : pm_M := (yX12_gone, cX12_gone, 2, (some .int), { frames := 0, cells := 0, slots := 0, locals := 0 })
theorem ok_X12_gone : pm_ok m_X12_gone 0 := ⟨kw_1305, kw_53, by decide, by decide, by decide +kernel⟩
abbrev m_X12_worth : pm_M := (yX12_worth, cX12_worth, 4, (some .long), { frames := 4, cells := 0, slots := 0, locals := 101 })
theorem ok_X12_worth : pm_ok m_X12_worth 3 := ⟨kw_1309, kw_53, by decide, by decide, by decide +kernel⟩
abbrev m_X12_worthOfSet : pm_M := (yX12_worthOfSet, cX12_worthOfSet, 9, (some .long), { frames := 3, cells := 0, slots := 0, locals := 73 })
theorem ok_X12_worthOfSet : pm_ok m_X12_worthOfSet 2 := ⟨kw_1313, kw_53, by decide, by decide, by decide +kernel⟩
abbrev m_X12_season : pm_M := (yX12_season, cX12_season, 2, (some .int), { frames := 5, cells := 0, slots := 0, locals := 129 })
theorem ok_X12_season : pm_ok m_X12_season 1 := ⟨kw_1317, kw_53, by decide, by decide, by decide +kernel⟩
abbrev m_X12_seasonOf : pm_M := (yX12_seasonOf, cX12_seasonOf, 9, (some .int), { frames := 4, cells := 0, slots := 0, locals := 101 })
theorem ok_X12_seasonOf : pm_ok m_X12_seasonOf 1 := ⟨kw_1321, kw_53, by decide, by decide, by decide +kernel⟩
abbrev m_X12_tree : pm_M := (yX12_tree, cX12_tree, 8, (some .int), { frames := 4, cells := 0, slots := 0, locals := 92 })
theorem ok_X12_tree : pm_ok m_X12_tree 6 := ⟨kw_1325, kw_53, by decide, by decide, by decide +kernel⟩
abbrev m_X12_areFour : pm_M := (yX12_areFour, cX12_areFour, 5, (some .boolean), { frames := 3, cells := 0, slots := 0, locals := 68 })
theorem ok_X12_areFour : pm_ok m_X12_areFour 4 := ⟨kw_1329, kw_53, by decide, by decide, by decide +kernel⟩
abbrev m_X12_wins : pm_M := (yX12_wins, cX12_wins, 5, (some .int), { frames := 2, cells := 0, slots := 0, locals := 45 })
theorem ok_X12_wins : pm_ok m_X12_wins 4 := ⟨kw_1333, kw_53, by decide, by decide, by decide +kernel⟩
abbrev m_X12_tenths : pm_M := (yX12_tenths, cX12_tenths, 4, (some .int), { frames := 1, cells := 0, slots := 0, locals := 22 })
theorem ok_X12_tenths : pm_ok m_X12_tenths 2 := ⟨kw_1337, kw_53, by decide, by decide, by decide +kernel⟩
abbrev m_X12_last : pm_M := (yX12_last, cX12_last, 5, (some .int), { frames := 4, cells := 0, slots := 0, locals := 92 })
theorem ok_X12_last : pm_ok m_X12_last 4 := ⟨kw_1342, kw_53, by decide, by decide, by decide +kernel⟩
abbrev m_X12_run : pm_M := (yX12_run, cX12_run, 9, (some .int), { frames := 2, cells := 0, slots := 0, locals := 55 })
theorem ok_X12_run : pm_ok m_X12_run 3 := ⟨kw_1346, kw_53, by decide, by decide, by decide +kernel⟩
abbrev m_X12_image : pm_M := (yX12_image, cX12_image, 2, (some .int), { frames := 0, cells := 0, slots := 0, locals := 0 })
theorem ok_X12_image : pm_ok m_X12_image 0 := ⟨kw_1350, kw_53, by decide, by decide, by decide +kernel⟩
abbrev m_X12_restore : pm_M := (yX12_restore, cX12_restore, 2, (some .int), { frames := 0, cells := 0, slots := 0, locals := 0 })
theorem ok_X12_restore : pm_ok m_X12_restore 0 := ⟨kw_1354, kw_53, by decide, by decide, by decide +kernel⟩
abbrev m_X12_count : pm_M := (yX12_count, cX12_count, 2, (some .int), { frames := 1, cells := 0, slots := 0, locals := 24 })
theorem ok_X12_count : pm_ok m_X12_count 1 := ⟨kw_1358, kw_53, by decide, by decide, by decide +kernel⟩
abbrev m_X12_countOf : pm_M := (yX12_countOf, cX12_countOf, 5, (some .int), { frames := 0, cells := 0, slots := 0, locals := 0 })
theorem ok_X12_countOf : pm_ok m_X12_countOf 1 := ⟨kw_1362, kw_53, by decide, by decide, by decide +kernel⟩
abbrev m_X12_digest : pm_M := (yX12_digest, cX12_digest, 3, (some .long), { frames := 5, cells := 0, slots := 0, locals := 129 })
theorem ok_X12_digest : pm_ok m_X12_digest 0 := ⟨kw_1366, kw_53, by decide, by decide, by decide +kernel⟩
abbrev m_X12_say : pm_M := (yX12_say, cX12_say, 3, none, { frames := 0, cells := 0, slots := 0, locals := 0 })
theorem ok_X12_say : pm_ok m_X12_say 1 := ⟨kw_1371, kw_53, by decide, by decide, by decide +kernel⟩
