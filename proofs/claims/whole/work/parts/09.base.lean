theorem fl_X2_9 : eFl RX2 9 2 0 := ⟨by decide, by decide, mw_30⟩
theorem fl_X1_25 : eFl RX1 25 2 0 := ⟨by decide, by decide, mw_31⟩
theorem fl_X7_95 : eFl RX7 95 2 0 := ⟨by decide, by decide, mw_32⟩
theorem fl_X4_59 : eFl RX4 59 2 0 := ⟨by decide, by decide, mw_33⟩
theorem fl_X0_29 : eFl RX0 29 2 0 := ⟨by decide, by decide, mw_34⟩
theorem fl_X2_15 : eFl RX2 15 2 1 := ⟨by decide, by decide, mw_35⟩
theorem fl_X7_102 : eFl RX7 102 2 1 := ⟨by decide, by decide, mw_36⟩
theorem fl_X2_19 : eFl RX2 19 2 2 := ⟨by decide, by decide, mw_37⟩
theorem fl_X1_30 : eFl RX1 30 2 2 := ⟨by decide, by decide, mw_38⟩
theorem fl_X7_105 : eFl RX7 105 2 2 := ⟨by decide, by decide, mw_39⟩
theorem fl_X2_24 : eFl RX2 24 2 3 := ⟨by decide, by decide, mw_40⟩
theorem fl_X7_108 : eFl RX7 108 2 3 := ⟨by decide, by decide, mw_41⟩
theorem fl_X4_12 : eFl RX4 12 4 0 := ⟨by decide, by decide, mw_60⟩
theorem fl_X7_88 : eFl RX7 88 4 0 := ⟨by decide, by decide, mw_61⟩
theorem fl_X4_18 : eFl RX4 18 4 1 := ⟨by decide, by decide, mw_62⟩
theorem fl_X4_22 : eFl RX4 22 4 2 := ⟨by decide, by decide, mw_63⟩
theorem fl_X0_9 : eFl RX0 9 0 0 := ⟨by decide, by decide, mw_85⟩
theorem fl_X0_15 : eFl RX0 15 0 1 := ⟨by decide, by decide, mw_86⟩
theorem fl_X5_12 : eFl RX5 12 5 0 := ⟨by decide, by decide, mw_112⟩
theorem fl_X7_134 : eFl RX7 134 5 0 := ⟨by decide, by decide, mw_113⟩
theorem fl_X5_18 : eFl RX5 18 5 1 := ⟨by decide, by decide, mw_114⟩
theorem fl_X5_22 : eFl RX5 22 5 2 := ⟨by decide, by decide, mw_115⟩
theorem fl_X5_27 : eFl RX5 27 5 3 := ⟨by decide, by decide, mw_116⟩
theorem fl_X5_30 : eFl RX5 30 5 4 := ⟨by decide, by decide, mw_117⟩
theorem fl_X5_33 : eFl RX5 33 5 5 := ⟨by decide, by decide, mw_118⟩
theorem fl_X5_36 : eFl RX5 36 5 6 := ⟨by decide, by decide, mw_119⟩
theorem fl_X5_39 : eFl RX5 39 5 7 := ⟨by decide, by decide, mw_120⟩
theorem fl_X5_42 : eFl RX5 42 5 8 := ⟨by decide, by decide, mw_121⟩
theorem fl_X5_46 : eFl RX5 46 5 9 := ⟨by decide, by decide, mw_122⟩
theorem fl_X5_50 : eFl RX5 50 5 10 := ⟨by decide, by decide, mw_123⟩
theorem fl_X1_11 : eFl RX1 11 1 0 := ⟨by decide, by decide, mw_153⟩
theorem fl_X1_15 : eFl RX1 15 1 1 := ⟨by decide, by decide, mw_154⟩
theorem fl_X1_18 : eFl RX1 18 1 2 := ⟨by decide, by decide, mw_155⟩
theorem fl_X1_21 : eFl RX1 21 1 3 := ⟨by decide, by decide, mw_156⟩
theorem fl_X3_9 : eFl RX3 9 3 0 := ⟨by decide, by decide, mw_180⟩
theorem fl_X5_67 : eFl RX5 67 3 0 := ⟨by decide, by decide, mw_181⟩
theorem fl_X7_121 : eFl RX7 121 3 0 := ⟨by decide, by decide, mw_182⟩
theorem fl_X3_18 : eFl RX3 18 3 1 := ⟨by decide, by decide, mw_183⟩
theorem fl_X7_147 : eFl RX7 147 3 1 := ⟨by decide, by decide, mw_184⟩
theorem fl_X3_22 : eFl RX3 22 3 2 := ⟨by decide, by decide, mw_185⟩
theorem fl_X7_162 : eFl RX7 162 3 2 := ⟨by decide, by decide, mw_186⟩
theorem fl_X3_25 : eFl RX3 25 3 3 := ⟨by decide, by decide, mw_187⟩
theorem fl_X7_202 : eFl RX7 202 3 3 := ⟨by decide, by decide, mw_188⟩
theorem fl_X3_29 : eFl RX3 29 3 4 := ⟨by decide, by decide, mw_189⟩
theorem fl_X7_209 : eFl RX7 209 3 4 := ⟨by decide, by decide, mw_190⟩
theorem fl_X3_32 : eFl RX3 32 3 5 := ⟨by decide, by decide, mw_191⟩
theorem fl_X7_212 : eFl RX7 212 3 5 := ⟨by decide, by decide, mw_192⟩
theorem fl_X3_35 : eFl RX3 35 3 6 := ⟨by decide, by decide, mw_193⟩
theorem fl_X3_38 : eFl RX3 38 3 7 := ⟨by decide, by decide, mw_194⟩
theorem fl_X7_225 : eFl RX7 225 3 7 := ⟨by decide, by decide, mw_195⟩
theorem fl_X3_41 : eFl RX3 41 3 8 := ⟨by decide, by decide, mw_196⟩
theorem fl_X3_44 : eFl RX3 44 3 9 := ⟨by decide, by decide, mw_197⟩
theorem fl_X7_219 : eFl RX7 219 3 9 := ⟨by decide, by decide, mw_198⟩
theorem fl_X3_47 : eFl RX3 47 3 10 := ⟨by decide, by decide, mw_199⟩
theorem fl_X7_243 : eFl RX7 243 3 10 := ⟨by decide, by decide, mw_200⟩
theorem fl_X3_50 : eFl RX3 50 3 11 := ⟨by decide, by decide, mw_201⟩
theorem fl_X7_240 : eFl RX7 240 3 11 := ⟨by decide, by decide, mw_202⟩
theorem fl_X3_53 : eFl RX3 53 3 12 := ⟨by decide, by decide, mw_203⟩
theorem fl_X7_250 : eFl RX7 250 3 12 := ⟨by decide, by decide, mw_204⟩
theorem fl_X7_12 : eFl RX7 12 7 0 := ⟨by decide, by decide, mw_232⟩
theorem fl_X7_21 : eFl RX7 21 7 1 := ⟨by decide, by decide, mw_233⟩
theorem fl_X7_27 : eFl RX7 27 7 2 := ⟨by decide, by decide, mw_234⟩
theorem fl_X7_31 : eFl RX7 31 7 3 := ⟨by decide, by decide, mw_235⟩
theorem fl_X7_38 : eFl RX7 38 7 4 := ⟨by decide, by decide, mw_236⟩
theorem fl_X7_45 : eFl RX7 45 7 5 := ⟨by decide, by decide, mw_237⟩
theorem fl_X7_49 : eFl RX7 49 7 6 := ⟨by decide, by decide, mw_238⟩
theorem fl_X7_55 : eFl RX7 55 7 7 := ⟨by decide, by decide, mw_239⟩
theorem fl_X7_59 : eFl RX7 59 7 8 := ⟨by decide, by decide, mw_240⟩
theorem fl_X7_62 : eFl RX7 62 7 9 := ⟨by decide, by decide, mw_241⟩
theorem fl_X6_7 : eFl RX6 7 6 0 := ⟨by decide, by decide, mw_665⟩
theorem fl_X7_74 : eFl RX7 74 6 0 := ⟨by decide, by decide, mw_666⟩
theorem fl_X6_19 : eFl RX6 19 6 1 := ⟨by decide, by decide, mw_667⟩
theorem fl_X7_81 : eFl RX7 81 6 1 := ⟨by decide, by decide, mw_668⟩
theorem fl_X8_119 : eFl RX8 119 8 0 := ⟨by decide, by decide, mw_748⟩
theorem fl_X8_143 : eFl RX8 143 8 1 := ⟨by decide, by decide, mw_749⟩
theorem fl_X8_7 : eFl RX8 7 8 2 := ⟨by decide, by decide, mw_750⟩
theorem fl_X8_13 : eFl RX8 13 8 3 := ⟨by decide, by decide, mw_751⟩
theorem fl_X8_16 : eFl RX8 16 8 4 := ⟨by decide, by decide, mw_752⟩
theorem fl_X8_146 : eFl RX8 146 8 5 := ⟨by decide, by decide, mw_753⟩
theorem fl_X8_19 : eFl RX8 19 8 6 := ⟨by decide, by decide, mw_754⟩
theorem fl_X8_22 : eFl RX8 22 8 7 := ⟨by decide, by decide, mw_755⟩
theorem fl_X8_25 : eFl RX8 25 8 8 := ⟨by decide, by decide, mw_756⟩
theorem fl_X8_172 : eFl RX8 172 8 9 := ⟨by decide, by decide, mw_757⟩
theorem fl_X8_28 : eFl RX8 28 8 10 := ⟨by decide, by decide, mw_758⟩
theorem fl_X8_31 : eFl RX8 31 8 11 := ⟨by decide, by decide, mw_759⟩
theorem fl_X8_34 : eFl RX8 34 8 12 := ⟨by decide, by decide, mw_760⟩
theorem fl_X8_37 : eFl RX8 37 8 13 := ⟨by decide, by decide, mw_761⟩
theorem fl_X8_41 : eFl RX8 41 8 14 := ⟨by decide, by decide, mw_762⟩
theorem fl_X8_44 : eFl RX8 44 8 15 := ⟨by decide, by decide, mw_763⟩
theorem fl_X8_47 : eFl RX8 47 8 16 := ⟨by decide, by decide, mw_764⟩
theorem fl_X8_198 : eFl RX8 198 8 17 := ⟨by decide, by decide, mw_765⟩
theorem fl_X8_50 : eFl RX8 50 8 18 := ⟨by decide, by decide, mw_766⟩
theorem fl_X8_53 : eFl RX8 53 8 19 := ⟨by decide, by decide, mw_767⟩
theorem fl_X8_56 : eFl RX8 56 8 20 := ⟨by decide, by decide, mw_768⟩
theorem fl_X8_204 : eFl RX8 204 8 21 := ⟨by decide, by decide, mw_769⟩
theorem fl_X8_249 : eFl RX8 249 8 22 := ⟨by decide, by decide, mw_770⟩
theorem fl_X8_59 : eFl RX8 59 8 23 := ⟨by decide, by decide, mw_771⟩
theorem fl_X8_62 : eFl RX8 62 8 24 := ⟨by decide, by decide, mw_772⟩
theorem fl_X8_65 : eFl RX8 65 8 25 := ⟨by decide, by decide, mw_773⟩
theorem fl_X8_110 : eFl RX8 110 8 26 := ⟨by decide, by decide, mw_774⟩
theorem fl_X8_114 : eFl RX8 114 8 27 := ⟨by decide, by decide, mw_775⟩
theorem fl_X8_68 : eFl RX8 68 8 28 := ⟨by decide, by decide, mw_776⟩
theorem fl_X8_71 : eFl RX8 71 8 29 := ⟨by decide, by decide, mw_777⟩
theorem fl_X8_74 : eFl RX8 74 8 30 := ⟨by decide, by decide, mw_778⟩
theorem fl_X8_77 : eFl RX8 77 8 31 := ⟨by decide, by decide, mw_779⟩
theorem fl_X8_80 : eFl RX8 80 8 32 := ⟨by decide, by decide, mw_780⟩
theorem fl_X8_83 : eFl RX8 83 8 33 := ⟨by decide, by decide, mw_781⟩
theorem fl_X8_86 : eFl RX8 86 8 34 := ⟨by decide, by decide, mw_782⟩
theorem fl_X8_89 : eFl RX8 89 8 35 := ⟨by decide, by decide, mw_783⟩
theorem fl_X8_92 : eFl RX8 92 8 36 := ⟨by decide, by decide, mw_784⟩
theorem fl_X8_95 : eFl RX8 95 8 37 := ⟨by decide, by decide, mw_785⟩
theorem fl_X8_98 : eFl RX8 98 8 38 := ⟨by decide, by decide, mw_786⟩
theorem fl_X8_101 : eFl RX8 101 8 39 := ⟨by decide, by decide, mw_787⟩
theorem fl_X8_104 : eFl RX8 104 8 40 := ⟨by decide, by decide, mw_788⟩
theorem fl_X8_107 : eFl RX8 107 8 41 := ⟨by decide, by decide, mw_789⟩
theorem fl_X8_301 : eFl RX8 301 8 42 := ⟨by decide, by decide, mw_790⟩
theorem mi_X7_init : eMi yX7_init cX7_init 2 none 0 := ⟨mw_18, mw_1, by decide, by decide, by decide, by decide +kernel⟩
theorem mi_X2_init : eMi yX2_init cX2_init 1 none 0 := ⟨mw_26, mw_2, by decide, by decide, by decide, by decide +kernel⟩
theorem mi_X4_init : eMi yX4_init cX4_init 1 none 0 := ⟨mw_56, mw_3, by decide, by decide, by decide, by decide +kernel⟩
theorem mi_X5_init : eMi yX5_init cX5_init 4 none 0 := ⟨mw_77, mw_4, by decide, by decide, by decide, by decide +kernel⟩
theorem mi_X0_init : eMi yX0_init cX0_init 1 none 0 := ⟨mw_83, mw_5, by decide, by decide, by decide, by decide +kernel⟩
theorem mi_X0_wayBetween : eMi yX0_wayBetween cX0_wayBetween 2 (some .int) 2 := ⟨mw_96, mw_5, by decide, by decide, by decide, by decide +kernel⟩
theorem mi_X7_columnOf : eMi yX7_columnOf cX7_columnOf 1 (some .int) 1 := ⟨mw_99, mw_1, by decide, by decide, by decide, by decide +kernel⟩
theorem mi_J9_abs_0f7a4 : eMi yJ9_abs_0f7a4 cJ9_abs_0f7a4 1 (some .int) 1 := ⟨mw_102, mw_6, by decide, by decide, by decide, by decide +kernel⟩
theorem mi_X7_rowOf : eMi yX7_rowOf cX7_rowOf 1 (some .int) 1 := ⟨mw_105, mw_1, by decide, by decide, by decide, by decide +kernel⟩
theorem mi_X0_apart : eMi yX0_apart cX0_apart 2 (some .int) 2 := ⟨mw_108, mw_5, by decide, by decide, by decide, by decide +kernel⟩
theorem mi_J9_max_7cf53 : eMi yJ9_max_7cf53 cJ9_max_7cf53 2 (some .int) 2 := ⟨mw_111, mw_6, by decide, by decide, by decide, by decide +kernel⟩
theorem mi_X1_init : eMi yX1_init cX1_init 1 none 0 := ⟨mw_151, mw_7, by decide, by decide, by decide, by decide +kernel⟩
theorem mi_X3_init : eMi yX3_init cX3_init 1 none 0 := ⟨mw_171, mw_8, by decide, by decide, by decide, by decide +kernel⟩
theorem mi_J7_fill_53178 : eMi yJ7_fill_53178 cJ7_fill_53178 4 none 2 := ⟨mw_179, mw_9, by decide, by decide, by decide, by decide +kernel⟩
theorem mi_X7_text : eMi yX7_text cX7_text 7 (some .int) 4 := ⟨mw_266, mw_1, by decide, by decide, by decide, by decide +kernel⟩
theorem mi_X7_isWithin : eMi yX7_isWithin cX7_isWithin 3 (some .boolean) 3 := ⟨mw_269, mw_1, by decide, by decide, by decide, by decide +kernel⟩
theorem mi_X7_faulted : eMi yX7_faulted cX7_faulted 2 (some .int) 1 := ⟨mw_273, mw_1, by decide, by decide, by decide, by decide +kernel⟩
theorem mi_X6_hasCells : eMi yX6_hasCells cX6_hasCells 3 (some .boolean) 2 := ⟨mw_277, mw_13, by decide, by decide, by decide, by decide +kernel⟩
theorem mi_X4_firstFault : eMi yX4_firstFault cX4_firstFault 5 (some .int) 3 := ⟨mw_281, mw_3, by decide, by decide, by decide, by decide +kernel⟩
theorem mi_X2_clear : eMi yX2_clear cX2_clear 2 none 0 := ⟨mw_285, mw_2, by decide, by decide, by decide, by decide +kernel⟩
theorem mi_X4_takes : eMi yX4_takes cX4_takes 2 (some .boolean) 1 := ⟨mw_290, mw_3, by decide, by decide, by decide, by decide +kernel⟩
theorem mi_X4_takesLetter : eMi yX4_takesLetter cX4_takesLetter 3 (some .boolean) 1 := ⟨mw_294, mw_3, by decide, by decide, by decide, by decide +kernel⟩
theorem mi_X4_kindOf : eMi yX4_kindOf cX4_kindOf 1 (some .int) 1 := ⟨mw_297, mw_3, by decide, by decide, by decide, by decide +kernel⟩
theorem mi_X2_add : eMi yX2_add cX2_add 2 none 1 := ⟨mw_301, mw_2, by decide, by decide, by decide, by decide +kernel⟩
theorem mi_X4_takesDigit : eMi yX4_takesDigit cX4_takesDigit 2 (some .boolean) 1 := ⟨mw_305, mw_3, by decide, by decide, by decide, by decide +kernel⟩
theorem mi_X2_addDigitToLatest : eMi yX2_addDigitToLatest cX2_addDigitToLatest 2 none 1 := ⟨mw_310, mw_2, by decide, by decide, by decide, by decide +kernel⟩
theorem mi_X4_takesSign : eMi yX4_takesSign cX4_takesSign 2 (some .boolean) 1 := ⟨mw_314, mw_3, by decide, by decide, by decide, by decide +kernel⟩
theorem mi_X4_takesAhead : eMi yX4_takesAhead cX4_takesAhead 3 (some .boolean) 1 := ⟨mw_318, mw_3, by decide, by decide, by decide, by decide +kernel⟩
theorem mi_X2_isAheadOfLatest : eMi yX2_isAheadOfLatest cX2_isAheadOfLatest 2 (some .boolean) 1 := ⟨mw_322, mw_2, by decide, by decide, by decide, by decide +kernel⟩
theorem mi_X2_putBehindLatest : eMi yX2_putBehindLatest cX2_putBehindLatest 2 none 1 := ⟨mw_326, mw_2, by decide, by decide, by decide, by decide +kernel⟩
theorem mi_X7_takeParts : eMi yX7_takeParts cX7_takeParts 3 none 1 := ⟨mw_331, mw_1, by decide, by decide, by decide, by decide +kernel⟩
theorem mi_X2_become : eMi yX2_become cX2_become 3 none 1 := ⟨mw_335, mw_2, by decide, by decide, by decide, by decide +kernel⟩
theorem mi_X3_forgetLayings : eMi yX3_forgetLayings cX3_forgetLayings 1 none 0 := ⟨mw_342, mw_8, by decide, by decide, by decide, by decide +kernel⟩
theorem mi_X0_clear : eMi yX0_clear cX0_clear 1 none 0 := ⟨mw_346, mw_5, by decide, by decide, by decide, by decide +kernel⟩
theorem mi_X7_part : eMi yX7_part cX7_part 3 (some .int) 2 := ⟨mw_350, mw_1, by decide, by decide, by decide, by decide +kernel⟩
theorem mi_X2_has : eMi yX2_has cX2_has 2 (some .boolean) 1 := ⟨mw_354, mw_2, by decide, by decide, by decide, by decide +kernel⟩
theorem mi_X7_wish : eMi yX7_wish cX7_wish 4 (some .int) 2 := ⟨mw_358, mw_1, by decide, by decide, by decide, by decide +kernel⟩
theorem mi_X7_follows : eMi yX7_follows cX7_follows 3 (some .int) 2 := ⟨mw_362, mw_1, by decide, by decide, by decide, by decide +kernel⟩
theorem mi_X7_follow : eMi yX7_follow cX7_follow 5 (some .int) 3 := ⟨mw_366, mw_1, by decide, by decide, by decide, by decide +kernel⟩
theorem mi_X7_person : eMi yX7_person cX7_person 1 (some .int) 0 := ⟨mw_370, mw_1, by decide, by decide, by decide, by decide +kernel⟩
theorem mi_X7_can : eMi yX7_can cX7_can 6 (some .int) 3 := ⟨mw_374, mw_1, by decide, by decide, by decide, by decide +kernel⟩
theorem mi_X7_isPerson : eMi yX7_isPerson cX7_isPerson 2 (some .boolean) 1 := ⟨mw_378, mw_1, by decide, by decide, by decide, by decide +kernel⟩
theorem mi_X7_best : eMi yX7_best cX7_best 5 (some .int) 3 := ⟨mw_385, mw_1, by decide, by decide, by decide, by decide +kernel⟩
theorem mi_X7_isPartOrAll : eMi yX7_isPartOrAll cX7_isPartOrAll 2 (some .boolean) 1 := ⟨mw_389, mw_1, by decide, by decide, by decide, by decide +kernel⟩
theorem mi_X2_canBeLaid : eMi yX2_canBeLaid cX2_canBeLaid 2 (some .boolean) 1 := ⟨mw_393, mw_2, by decide, by decide, by decide, by decide +kernel⟩
theorem mi_X2_hasSet : eMi yX2_hasSet cX2_hasSet 2 (some .boolean) 1 := ⟨mw_397, mw_2, by decide, by decide, by decide, by decide +kernel⟩
theorem mi_J6_bitCount_0f7a4 : eMi yJ6_bitCount_0f7a4 cJ6_bitCount_0f7a4 1 (some .int) 1 := ⟨mw_400, mw_12, by decide, by decide, by decide, by decide +kernel⟩
theorem mi_X5_seek : eMi yX5_seek cX5_seek 4 (some .int) 3 := ⟨mw_407, mw_4, by decide, by decide, by decide, by decide +kernel⟩
theorem mi_X5_choose : eMi yX5_choose cX5_choose 3 none 1 := ⟨mw_412, mw_4, by decide, by decide, by decide, by decide +kernel⟩
theorem mi_X5_weighPairs : eMi yX5_weighPairs cX5_weighPairs 5 none 1 := ⟨mw_416, mw_4, by decide, by decide, by decide, by decide +kernel⟩
theorem mi_X2_followsBothWays : eMi yX2_followsBothWays cX2_followsBothWays 3 (some .int) 2 := ⟨mw_420, mw_2, by decide, by decide, by decide, by decide +kernel⟩
theorem mi_X5_layFrom : eMi yX5_layFrom cX5_layFrom 7 none 3 := ⟨mw_424, mw_4, by decide, by decide, by decide, by decide +kernel⟩
theorem mi_X5_keepAsBest : eMi yX5_keepAsBest cX5_keepAsBest 3 none 1 := ⟨mw_428, mw_4, by decide, by decide, by decide, by decide +kernel⟩
theorem mi_X0_layPart : eMi yX0_layPart cX0_layPart 3 none 2 := ⟨mw_432, mw_5, by decide, by decide, by decide, by decide +kernel⟩
theorem mi_X5_leastRest : eMi yX5_leastRest cX5_leastRest 5 (some .int) 2 := ⟨mw_436, mw_4, by decide, by decide, by decide, by decide +kernel⟩
theorem mi_X5_leastDue : eMi yX5_leastDue cX5_leastDue 8 (some .int) 3 := ⟨mw_440, mw_4, by decide, by decide, by decide, by decide +kernel⟩
theorem mi_J9_min_7cf53 : eMi yJ9_min_7cf53 cJ9_min_7cf53 2 (some .int) 2 := ⟨mw_443, mw_6, by decide, by decide, by decide, by decide +kernel⟩
theorem mi_X0_isEmpty : eMi yX0_isEmpty cX0_isEmpty 1 (some .boolean) 0 := ⟨mw_447, mw_5, by decide, by decide, by decide, by decide +kernel⟩
theorem mi_X0_placeOf : eMi yX0_placeOf cX0_placeOf 2 (some .int) 1 := ⟨mw_451, mw_5, by decide, by decide, by decide, by decide +kernel⟩
theorem mi_X0_hasPart : eMi yX0_hasPart cX0_hasPart 2 (some .boolean) 1 := ⟨mw_455, mw_5, by decide, by decide, by decide, by decide +kernel⟩
theorem mi_X7_lay : eMi yX7_lay cX7_lay 4 (some .int) 2 := ⟨mw_459, mw_1, by decide, by decide, by decide, by decide +kernel⟩
theorem mi_X3_receiveLaying : eMi yX3_receiveLaying cX3_receiveLaying 2 none 1 := ⟨mw_463, mw_8, by decide, by decide, by decide, by decide +kernel⟩
theorem mi_X3_swapLayings : eMi yX3_swapLayings cX3_swapLayings 2 none 0 := ⟨mw_467, mw_8, by decide, by decide, by decide, by decide +kernel⟩
theorem mi_X0_become : eMi yX0_become cX0_become 2 none 1 := ⟨mw_471, mw_5, by decide, by decide, by decide, by decide +kernel⟩
theorem mi_X7_offer : eMi yX7_offer cX7_offer 5 (some .int) 2 := ⟨mw_476, mw_1, by decide, by decide, by decide, by decide +kernel⟩
theorem mi_X0_partSet : eMi yX0_partSet cX0_partSet 1 (some .int) 0 := ⟨mw_481, mw_5, by decide, by decide, by decide, by decide +kernel⟩
theorem mi_X0_priceBy : eMi yX0_priceBy cX0_priceBy 5 (some .int) 1 := ⟨mw_485, mw_5, by decide, by decide, by decide, by decide +kernel⟩
theorem mi_X7_back : eMi yX7_back cX7_back 2 (some .int) 1 := ⟨mw_491, mw_1, by decide, by decide, by decide, by decide +kernel⟩
theorem mi_X7_at : eMi yX7_at cX7_at 3 (some .int) 2 := ⟨mw_496, mw_1, by decide, by decide, by decide, by decide +kernel⟩
theorem mi_X7_isPlace : eMi yX7_isPlace cX7_isPlace 1 (some .boolean) 1 := ⟨mw_499, mw_1, by decide, by decide, by decide, by decide +kernel⟩
theorem mi_X0_partAt : eMi yX0_partAt cX0_partAt 3 (some .int) 1 := ⟨mw_503, mw_5, by decide, by decide, by decide, by decide +kernel⟩
theorem mi_X7_price : eMi yX7_price cX7_price 2 (some .int) 1 := ⟨mw_507, mw_1, by decide, by decide, by decide, by decide +kernel⟩
theorem mi_X7_ways : eMi yX7_ways cX7_ways 4 (some .int) 3 := ⟨mw_511, mw_1, by decide, by decide, by decide, by decide +kernel⟩
theorem mi_X1_build : eMi yX1_build cX1_build 7 none 3 := ⟨mw_516, mw_7, by decide, by decide, by decide, by decide +kernel⟩
theorem mi_X1_addNode : eMi yX1_addNode cX1_addNode 2 none 1 := ⟨mw_520, mw_7, by decide, by decide, by decide, by decide +kernel⟩
theorem mi_X1_joinLeast : eMi yX1_joinLeast cX1_joinLeast 6 none 1 := ⟨mw_524, mw_7, by decide, by decide, by decide, by decide +kernel⟩
theorem mi_X1_leastOpenNode : eMi yX1_leastOpenNode cX1_leastOpenNode 3 (some .int) 0 := ⟨mw_528, mw_7, by decide, by decide, by decide, by decide +kernel⟩
theorem mi_X1_costBy : eMi yX1_costBy cX1_costBy 4 (some .int) 1 := ⟨mw_532, mw_7, by decide, by decide, by decide, by decide +kernel⟩
theorem mi_X1_stepsOf : eMi yX1_stepsOf cX1_stepsOf 4 (some .int) 1 := ⟨mw_536, mw_7, by decide, by decide, by decide, by decide +kernel⟩
theorem mi_X7_kept : eMi yX7_kept cX7_kept 7 (some .int) 3 := ⟨mw_541, mw_1, by decide, by decide, by decide, by decide +kernel⟩
theorem mi_X7_rule : eMi yX7_rule cX7_rule 4 (some .int) 2 := ⟨mw_547, mw_1, by decide, by decide, by decide, by decide +kernel⟩
theorem mi_X7_press : eMi yX7_press cX7_press 6 (some .int) 4 := ⟨mw_553, mw_1, by decide, by decide, by decide, by decide +kernel⟩
theorem mi_X7_isTick : eMi yX7_isTick cX7_isTick 1 (some .boolean) 1 := ⟨mw_556, mw_1, by decide, by decide, by decide, by decide +kernel⟩
theorem mi_X7_pressFor : eMi yX7_pressFor cX7_pressFor 11 (some .int) 4 := ⟨mw_560, mw_1, by decide, by decide, by decide, by decide +kernel⟩
theorem mi_X7_weightOf : eMi yX7_weightOf cX7_weightOf 6 (some .int) 4 := ⟨mw_564, mw_1, by decide, by decide, by decide, by decide +kernel⟩
theorem mi_X0_errorOf : eMi yX0_errorOf cX0_errorOf 6 (some .int) 3 := ⟨mw_568, mw_5, by decide, by decide, by decide, by decide +kernel⟩
theorem mi_X3_isStillAsked : eMi yX3_isStillAsked cX3_isStillAsked 4 (some .boolean) 3 := ⟨mw_572, mw_8, by decide, by decide, by decide, by decide +kernel⟩
theorem mi_X3_take : eMi yX3_take cX3_take 2 none 1 := ⟨mw_576, mw_8, by decide, by decide, by decide, by decide +kernel⟩
theorem mi_X3_ask : eMi yX3_ask cX3_ask 4 none 3 := ⟨mw_581, mw_8, by decide, by decide, by decide, by decide +kernel⟩
theorem mi_X7_confirm : eMi yX7_confirm cX7_confirm 5 (some .int) 2 := ⟨mw_585, mw_1, by decide, by decide, by decide, by decide +kernel⟩
theorem mi_X7_asked : eMi yX7_asked cX7_asked 2 (some .int) 1 := ⟨mw_589, mw_1, by decide, by decide, by decide, by decide +kernel⟩
theorem mi_X7_undo : eMi yX7_undo cX7_undo 2 (some .int) 1 := ⟨mw_593, mw_1, by decide, by decide, by decide, by decide +kernel⟩
theorem mi_X3_takeBack : eMi yX3_takeBack cX3_takeBack 2 (some .int) 0 := ⟨mw_597, mw_8, by decide, by decide, by decide, by decide +kernel⟩
theorem mi_X7_counted : eMi yX7_counted cX7_counted 3 (some .int) 2 := ⟨mw_601, mw_1, by decide, by decide, by decide, by decide +kernel⟩
theorem mi_X7_span : eMi yX7_span cX7_span 3 (some .int) 2 := ⟨mw_605, mw_1, by decide, by decide, by decide, by decide +kernel⟩
theorem mi_X3_spanFor : eMi yX3_spanFor cX3_spanFor 5 (some .int) 1 := ⟨mw_609, mw_8, by decide, by decide, by decide, by decide +kernel⟩
theorem mi_X7_worse : eMi yX7_worse cX7_worse 5 (some .long) 2 := ⟨mw_613, mw_1, by decide, by decide, by decide, by decide +kernel⟩
theorem mi_X3_pairsThatGo : eMi yX3_pairsThatGo cX3_pairsThatGo 5 (some .int) 1 := ⟨mw_618, mw_8, by decide, by decide, by decide, by decide +kernel⟩
theorem mi_J6_compare_7cf53 : eMi yJ6_compare_7cf53 cJ6_compare_7cf53 2 (some .int) 2 := ⟨mw_621, mw_12, by decide, by decide, by decide, by decide +kernel⟩
theorem mi_X7_shareNumber : eMi yX7_shareNumber cX7_shareNumber 4 (some .int) 3 := ⟨mw_624, mw_1, by decide, by decide, by decide, by decide +kernel⟩
theorem mi_X7_greatestDivisor : eMi yX7_greatestDivisor cX7_greatestDivisor 6 (some .int) 2 := ⟨mw_627, mw_1, by decide, by decide, by decide, by decide +kernel⟩
theorem mi_X7_trial : eMi yX7_trial cX7_trial 5 (some .int) 3 := ⟨mw_631, mw_1, by decide, by decide, by decide, by decide +kernel⟩
theorem mi_X7_odds : eMi yX7_odds cX7_odds 5 (some .long) 2 := ⟨mw_635, mw_1, by decide, by decide, by decide, by decide +kernel⟩
theorem mi_X7_waysAsGreat : eMi yX7_waysAsGreat cX7_waysAsGreat 4 (some .int) 4 := ⟨mw_638, mw_1, by decide, by decide, by decide, by decide +kernel⟩
theorem mi_X7_leave : eMi yX7_leave cX7_leave 8 (some .int) 4 := ⟨mw_642, mw_1, by decide, by decide, by decide, by decide +kernel⟩
theorem mi_X7_see : eMi yX7_see cX7_see 5 (some .int) 4 := ⟨mw_646, mw_1, by decide, by decide, by decide, by decide +kernel⟩
theorem mi_X7_hasLeave : eMi yX7_hasLeave cX7_hasLeave 5 (some .boolean) 4 := ⟨mw_650, mw_1, by decide, by decide, by decide, by decide +kernel⟩
theorem mi_X7_told : eMi yX7_told cX7_told 5 (some .int) 4 := ⟨mw_654, mw_1, by decide, by decide, by decide, by decide +kernel⟩
theorem mi_X7_sheet : eMi yX7_sheet cX7_sheet 4 (some .int) 3 := ⟨mw_658, mw_1, by decide, by decide, by decide, by decide +kernel⟩
theorem mi_X6_init : eMi yX6_init cX6_init 3 none 2 := ⟨mw_662, mw_13, by decide, by decide, by decide, by decide +kernel⟩
theorem mi_X7_lose : eMi yX7_lose cX7_lose 3 (some .int) 1 := ⟨mw_677, mw_1, by decide, by decide, by decide, by decide +kernel⟩
theorem mi_X7_put : eMi yX7_put cX7_put 5 (some .int) 3 := ⟨mw_681, mw_1, by decide, by decide, by decide, by decide +kernel⟩
theorem mi_X7_cutToLane : eMi yX7_cutToLane cX7_cutToLane 2 (some .int) 2 := ⟨mw_684, mw_1, by decide, by decide, by decide, by decide +kernel⟩
theorem mi_X7_cell : eMi yX7_cell cX7_cell 5 (some .long) 3 := ⟨mw_688, mw_1, by decide, by decide, by decide, by decide +kernel⟩
theorem mi_X7_copy : eMi yX7_copy cX7_copy 8 (some .int) 5 := ⟨mw_692, mw_1, by decide, by decide, by decide, by decide +kernel⟩
theorem mi_X7_tell : eMi yX7_tell cX7_tell 2 (some .int) 1 := ⟨mw_697, mw_1, by decide, by decide, by decide, by decide +kernel⟩
theorem mi_X7_dangerBody : eMi yX7_dangerBody cX7_dangerBody 3 (some .int) 1 := ⟨mw_701, mw_1, by decide, by decide, by decide, by decide +kernel⟩
theorem mi_X7_leaveTrace : eMi yX7_leaveTrace cX7_leaveTrace 2 none 1 := ⟨mw_705, mw_1, by decide, by decide, by decide, by decide +kernel⟩
theorem mi_X7_deedBody : eMi yX7_deedBody cX7_deedBody 2 (some .int) 1 := ⟨mw_709, mw_1, by decide, by decide, by decide, by decide +kernel⟩
theorem mi_X7_partBody : eMi yX7_partBody cX7_partBody 2 (some .int) 1 := ⟨mw_713, mw_1, by decide, by decide, by decide, by decide +kernel⟩
theorem mi_X7_speak : eMi yX7_speak cX7_speak 2 (some .int) 1 := ⟨mw_717, mw_1, by decide, by decide, by decide, by decide +kernel⟩
theorem mi_X7_dangerSpokenBody : eMi yX7_dangerSpokenBody cX7_dangerSpokenBody 1 (some .int) 0 := ⟨mw_721, mw_1, by decide, by decide, by decide, by decide +kernel⟩
theorem mi_X7_lentBody : eMi yX7_lentBody cX7_lentBody 2 (some .int) 1 := ⟨mw_725, mw_1, by decide, by decide, by decide, by decide +kernel⟩
theorem mi_X7_as : eMi yX7_as cX7_as 3 (some .int) 2 := ⟨mw_729, mw_1, by decide, by decide, by decide, by decide +kernel⟩
theorem mi_X7_trace : eMi yX7_trace cX7_trace 1 (some .int) 0 := ⟨mw_733, mw_1, by decide, by decide, by decide, by decide +kernel⟩
theorem mi_X7_fault : eMi yX7_fault cX7_fault 1 (some .int) 0 := ⟨mw_737, mw_1, by decide, by decide, by decide, by decide +kernel⟩
theorem mi_X7_many : eMi yX7_many cX7_many 2 (some .int) 1 := ⟨mw_741, mw_1, by decide, by decide, by decide, by decide +kernel⟩
theorem mi_X8_init : eMi yX8_init cX8_init 2 none 0 := ⟨mw_746, mw_10, by decide, by decide, by decide, by decide +kernel⟩
theorem mi_X8_text : eMi yX8_text cX8_text 8 (some .int) 4 := ⟨mw_882, mw_10, by decide, by decide, by decide, by decide +kernel⟩
theorem mi_X8_noSheet : eMi yX8_noSheet cX8_noSheet 1 (some .boolean) 1 := ⟨mw_885, mw_10, by decide, by decide, by decide, by decide +kernel⟩
theorem mi_X8_in : eMi yX8_in cX8_in 6 (some .boolean) 3 := ⟨mw_889, mw_10, by decide, by decide, by decide, by decide +kernel⟩
theorem mi_X8_refused : eMi yX8_refused cX8_refused 2 (some .int) 1 := ⟨mw_893, mw_10, by decide, by decide, by decide, by decide +kernel⟩
theorem mi_X8_barred : eMi yX8_barred cX8_barred 6 (some .int) 4 := ⟨mw_897, mw_10, by decide, by decide, by decide, by decide +kernel⟩
theorem mi_X8_failed : eMi yX8_failed cX8_failed 2 (some .int) 1 := ⟨mw_902, mw_10, by decide, by decide, by decide, by decide +kernel⟩
theorem mi_X8_isBeyond : eMi yX8_isBeyond cX8_isBeyond 4 (some .boolean) 3 := ⟨mw_905, mw_10, by decide, by decide, by decide, by decide +kernel⟩
theorem mi_X8_read : eMi yX8_read cX8_read 8 (some .int) 2 := ⟨mw_909, mw_10, by decide, by decide, by decide, by decide +kernel⟩
theorem mi_X8_part : eMi yX8_part cX8_part 3 (some .int) 2 := ⟨mw_915, mw_10, by decide, by decide, by decide, by decide +kernel⟩
theorem mi_X8_noPart : eMi yX8_noPart cX8_noPart 2 (some .boolean) 1 := ⟨mw_919, mw_10, by decide, by decide, by decide, by decide +kernel⟩
theorem mi_X8_wish : eMi yX8_wish cX8_wish 4 (some .int) 2 := ⟨mw_923, mw_10, by decide, by decide, by decide, by decide +kernel⟩
theorem mi_X8_follows : eMi yX8_follows cX8_follows 3 (some .int) 2 := ⟨mw_928, mw_10, by decide, by decide, by decide, by decide +kernel⟩
theorem mi_X8_follow : eMi yX8_follow cX8_follow 5 (some .int) 3 := ⟨mw_932, mw_10, by decide, by decide, by decide, by decide +kernel⟩
theorem mi_X8_person : eMi yX8_person cX8_person 1 (some .int) 0 := ⟨mw_937, mw_10, by decide, by decide, by decide, by decide +kernel⟩
theorem mi_X8_can : eMi yX8_can cX8_can 5 (some .int) 3 := ⟨mw_941, mw_10, by decide, by decide, by decide, by decide +kernel⟩
theorem mi_X8_noPerson : eMi yX8_noPerson cX8_noPerson 2 (some .boolean) 1 := ⟨mw_945, mw_10, by decide, by decide, by decide, by decide +kernel⟩
theorem mi_X8_best : eMi yX8_best cX8_best 6 (some .int) 3 := ⟨mw_951, mw_10, by decide, by decide, by decide, by decide +kernel⟩
theorem mi_X8_isFew : eMi yX8_isFew cX8_isFew 2 (some .boolean) 1 := ⟨mw_956, mw_10, by decide, by decide, by decide, by decide +kernel⟩
theorem mi_X8_bits : eMi yX8_bits cX8_bits 3 (some .int) 1 := ⟨mw_959, mw_10, by decide, by decide, by decide, by decide +kernel⟩
theorem mi_X8_findBest : eMi yX8_findBest cX8_findBest 4 (some .boolean) 2 := ⟨mw_963, mw_10, by decide, by decide, by decide, by decide +kernel⟩
theorem mi_X8_hasBit : eMi yX8_hasBit cX8_hasBit 2 (some .boolean) 2 := ⟨mw_966, mw_10, by decide, by decide, by decide, by decide +kernel⟩
theorem mi_X8_mayBe : eMi yX8_mayBe cX8_mayBe 6 (some .boolean) 3 := ⟨mw_970, mw_10, by decide, by decide, by decide, by decide +kernel⟩
theorem mi_X8_across : eMi yX8_across cX8_across 2 (some .int) 2 := ⟨mw_973, mw_10, by decide, by decide, by decide, by decide +kernel⟩
theorem mi_X8_sizeOf : eMi yX8_sizeOf cX8_sizeOf 1 (some .int) 1 := ⟨mw_976, mw_10, by decide, by decide, by decide, by decide +kernel⟩
theorem mi_X8_down : eMi yX8_down cX8_down 2 (some .int) 2 := ⟨mw_979, mw_10, by decide, by decide, by decide, by decide +kernel⟩
theorem mi_X8_greater : eMi yX8_greater cX8_greater 2 (some .int) 2 := ⟨mw_982, mw_10, by decide, by decide, by decide, by decide +kernel⟩
theorem mi_X8_keepTried : eMi yX8_keepTried cX8_keepTried 3 none 0 := ⟨mw_986, mw_10, by decide, by decide, by decide, by decide +kernel⟩
theorem mi_X8_priceOfTried : eMi yX8_priceOfTried cX8_priceOfTried 4 (some .int) 0 := ⟨mw_990, mw_10, by decide, by decide, by decide, by decide +kernel⟩
theorem mi_X8_both : eMi yX8_both cX8_both 3 (some .int) 2 := ⟨mw_994, mw_10, by decide, by decide, by decide, by decide +kernel⟩
theorem mi_X8_lay : eMi yX8_lay cX8_lay 3 (some .int) 2 := ⟨mw_998, mw_10, by decide, by decide, by decide, by decide +kernel⟩
theorem mi_X8_take : eMi yX8_take cX8_take 3 none 1 := ⟨mw_1002, mw_10, by decide, by decide, by decide, by decide +kernel⟩
theorem mi_X8_offer : eMi yX8_offer cX8_offer 3 (some .int) 2 := ⟨mw_1006, mw_10, by decide, by decide, by decide, by decide +kernel⟩
theorem mi_X8_setOf : eMi yX8_setOf cX8_setOf 4 (some .int) 1 := ⟨mw_1011, mw_10, by decide, by decide, by decide, by decide +kernel⟩
theorem mi_X8_priceOf : eMi yX8_priceOf cX8_priceOf 7 (some .int) 1 := ⟨mw_1015, mw_10, by decide, by decide, by decide, by decide +kernel⟩
theorem mi_X8_back : eMi yX8_back cX8_back 4 (some .int) 1 := ⟨mw_1019, mw_10, by decide, by decide, by decide, by decide +kernel⟩
theorem mi_X8_at : eMi yX8_at cX8_at 3 (some .int) 2 := ⟨mw_1023, mw_10, by decide, by decide, by decide, by decide +kernel⟩
theorem mi_X8_isPlace : eMi yX8_isPlace cX8_isPlace 1 (some .boolean) 1 := ⟨mw_1026, mw_10, by decide, by decide, by decide, by decide +kernel⟩
theorem mi_X8_partIn : eMi yX8_partIn cX8_partIn 4 (some .int) 2 := ⟨mw_1031, mw_10, by decide, by decide, by decide, by decide +kernel⟩
theorem mi_X8_price : eMi yX8_price cX8_price 2 (some .int) 1 := ⟨mw_1035, mw_10, by decide, by decide, by decide, by decide +kernel⟩
theorem mi_X8_ways : eMi yX8_ways cX8_ways 6 (some .int) 3 := ⟨mw_1039, mw_10, by decide, by decide, by decide, by decide +kernel⟩
theorem mi_X8_areParts : eMi yX8_areParts cX8_areParts 2 (some .boolean) 1 := ⟨mw_1043, mw_10, by decide, by decide, by decide, by decide +kernel⟩
theorem mi_X8_layWays : eMi yX8_layWays cX8_layWays 8 none 2 := ⟨mw_1048, mw_10, by decide, by decide, by decide, by decide +kernel⟩
theorem mi_X8_join : eMi yX8_join cX8_join 5 none 1 := ⟨mw_1052, mw_10, by decide, by decide, by decide, by decide +kernel⟩
theorem mi_X8_leastNode : eMi yX8_leastNode cX8_leastNode 3 (some .int) 0 := ⟨mw_1056, mw_10, by decide, by decide, by decide, by decide +kernel⟩
theorem mi_X8_kept : eMi yX8_kept cX8_kept 7 (some .int) 3 := ⟨mw_1060, mw_10, by decide, by decide, by decide, by decide +kernel⟩
theorem mi_X8_rule : eMi yX8_rule cX8_rule 4 (some .int) 2 := ⟨mw_1064, mw_10, by decide, by decide, by decide, by decide +kernel⟩
theorem mi_X8_press : eMi yX8_press cX8_press 14 (some .int) 4 := ⟨mw_1068, mw_10, by decide, by decide, by decide, by decide +kernel⟩
theorem mi_X8_errorOf : eMi yX8_errorOf cX8_errorOf 8 (some .int) 4 := ⟨mw_1074, mw_10, by decide, by decide, by decide, by decide +kernel⟩
theorem mi_X8_takePress : eMi yX8_takePress cX8_takePress 4 none 2 := ⟨mw_1078, mw_10, by decide, by decide, by decide, by decide +kernel⟩
theorem mi_X8_confirm : eMi yX8_confirm cX8_confirm 4 (some .int) 2 := ⟨mw_1082, mw_10, by decide, by decide, by decide, by decide +kernel⟩
theorem mi_X8_asked : eMi yX8_asked cX8_asked 2 (some .int) 1 := ⟨mw_1086, mw_10, by decide, by decide, by decide, by decide +kernel⟩
theorem mi_X8_undo : eMi yX8_undo cX8_undo 3 (some .int) 1 := ⟨mw_1090, mw_10, by decide, by decide, by decide, by decide +kernel⟩
theorem mi_X8_counted : eMi yX8_counted cX8_counted 3 (some .int) 2 := ⟨mw_1094, mw_10, by decide, by decide, by decide, by decide +kernel⟩
theorem mi_X8_span : eMi yX8_span cX8_span 3 (some .int) 2 := ⟨mw_1098, mw_10, by decide, by decide, by decide, by decide +kernel⟩
theorem mi_X8_spanOf : eMi yX8_spanOf cX8_spanOf 6 (some .int) 2 := ⟨mw_1102, mw_10, by decide, by decide, by decide, by decide +kernel⟩
theorem mi_X8_worse : eMi yX8_worse cX8_worse 10 (some .long) 2 := ⟨mw_1106, mw_10, by decide, by decide, by decide, by decide +kernel⟩
theorem mi_X8_lost : eMi yX8_lost cX8_lost 0 (some .long) 0 := ⟨mw_1109, mw_10, by decide, by decide, by decide, by decide +kernel⟩
theorem mi_X8_share : eMi yX8_share cX8_share 11 (some .long) 3 := ⟨mw_1113, mw_10, by decide, by decide, by decide, by decide +kernel⟩
theorem mi_X8_trial : eMi yX8_trial cX8_trial 4 (some .int) 3 := ⟨mw_1117, mw_10, by decide, by decide, by decide, by decide +kernel⟩
theorem mi_X8_odds : eMi yX8_odds cX8_odds 6 (some .long) 2 := ⟨mw_1121, mw_10, by decide, by decide, by decide, by decide +kernel⟩
theorem mi_X8_sumBy : eMi yX8_sumBy cX8_sumBy 5 (some .int) 2 := ⟨mw_1125, mw_10, by decide, by decide, by decide, by decide +kernel⟩
theorem mi_X8_leave : eMi yX8_leave cX8_leave 7 (some .int) 4 := ⟨mw_1129, mw_10, by decide, by decide, by decide, by decide +kernel⟩
theorem mi_X8_see : eMi yX8_see cX8_see 5 (some .int) 4 := ⟨mw_1133, mw_10, by decide, by decide, by decide, by decide +kernel⟩
theorem mi_X8_maySee : eMi yX8_maySee cX8_maySee 5 (some .boolean) 4 := ⟨mw_1137, mw_10, by decide, by decide, by decide, by decide +kernel⟩
theorem mi_X8_told : eMi yX8_told cX8_told 5 (some .int) 4 := ⟨mw_1141, mw_10, by decide, by decide, by decide, by decide +kernel⟩
theorem mi_X8_sheet : eMi yX8_sheet cX8_sheet 5 (some .int) 3 := ⟨mw_1145, mw_10, by decide, by decide, by decide, by decide +kernel⟩
theorem mi_X8_lose : eMi yX8_lose cX8_lose 3 (some .int) 1 := ⟨mw_1149, mw_10, by decide, by decide, by decide, by decide +kernel⟩
theorem mi_X8_put : eMi yX8_put cX8_put 4 (some .int) 3 := ⟨mw_1153, mw_10, by decide, by decide, by decide, by decide +kernel⟩
theorem mi_X8_noCell : eMi yX8_noCell cX8_noCell 3 (some .int) 2 := ⟨mw_1157, mw_10, by decide, by decide, by decide, by decide +kernel⟩
theorem mi_X8_cell : eMi yX8_cell cX8_cell 4 (some .long) 3 := ⟨mw_1161, mw_10, by decide, by decide, by decide, by decide +kernel⟩
theorem mi_X8_failedLong : eMi yX8_failedLong cX8_failedLong 2 (some .long) 1 := ⟨mw_1165, mw_10, by decide, by decide, by decide, by decide +kernel⟩
theorem mi_X8_copy : eMi yX8_copy cX8_copy 7 (some .int) 5 := ⟨mw_1169, mw_10, by decide, by decide, by decide, by decide +kernel⟩
theorem mi_X8_tell : eMi yX8_tell cX8_tell 3 (some .int) 1 := ⟨mw_1173, mw_10, by decide, by decide, by decide, by decide +kernel⟩
theorem mi_X8_traced : eMi yX8_traced cX8_traced 2 none 1 := ⟨mw_1177, mw_10, by decide, by decide, by decide, by decide +kernel⟩
theorem mi_X8_speak : eMi yX8_speak cX8_speak 2 (some .int) 1 := ⟨mw_1181, mw_10, by decide, by decide, by decide, by decide +kernel⟩
theorem mi_X8_as : eMi yX8_as cX8_as 3 (some .int) 2 := ⟨mw_1185, mw_10, by decide, by decide, by decide, by decide +kernel⟩
theorem mi_X8_trace : eMi yX8_trace cX8_trace 1 (some .int) 0 := ⟨mw_1189, mw_10, by decide, by decide, by decide, by decide +kernel⟩
theorem mi_X8_fault : eMi yX8_fault cX8_fault 1 (some .int) 0 := ⟨mw_1193, mw_10, by decide, by decide, by decide, by decide +kernel⟩
theorem mi_X8_many : eMi yX8_many cX8_many 2 (some .int) 1 := ⟨mw_1197, mw_10, by decide, by decide, by decide, by decide +kernel⟩
section TYP
variable {y y2 : MethodName} {cc cc2 : ByteArray} {nL nL2 : Nat} {ret ret2 : Option FieldType} {d K N K2 N2 : Nat} {Q : eQt} {kc ks pc : Nat} {L S : List Value} {n : Nat} {t : eT} {I : eI} {R : eR} {idx : Nat} {v1 v2 v3 v4 v5 : Value}
theorem wp_V0i {q a : Nat} (hd : decode cc pc = .ok (.invokevirtual idx, 3)) (hl1 : Cond.methodLink y.cls idx y2 ∈ lw_w) (hv1 : Cond.instanceMethod y2 ∈ lw_w) (hv2 : Cond.selects y2.cls y2 y2 ∈ lw_w) (hi : eMi y2 cc2 nL2 ret2 0) (hs : (S.map Value.category).sum ≤ 8) (hk : kc ≤ K) (hk2 : ks ≤ N) (ht : (t a).1 = q) (hq : q < 9) (hq2 : (eCl q).1 = y2.cls) (hM : MC y2 cc2 nL2 ret2 d 0 0 (.ref a :: []) n t I R (qI (fun r n t I R => wp y cc nL ret (d + 1) K N Q kc ks (pc + 3) L (.int r :: S) n t I R))) : wp y cc nL ret (d + 1) K N Q kc ks pc L (.ref a :: S) n t I R :=
  wp_callV (K2 := 0) (N2 := 0) (As := []) hd hl1 hv1 hv2 hi rfl hs hk hk2 ht hq hq2 hM (fun rv n2 t2 I2 R2 hq => by
    obtain ⟨r, rfl, h⟩ := hq
    exact h)
theorem wp_S0i (hd : decode cc pc = .ok (.invokestatic idx, 3)) (hl1 : Cond.methodLink y.cls idx y2 ∈ lw_w) (hv1 : Cond.static y2 ∈ lw_w) (hi : eMi y2 cc2 nL2 ret2 0) (hs : (S.map Value.category).sum ≤ 8) (hk : kc ≤ K) (hk2 : ks ≤ N) (hM : MC y2 cc2 nL2 ret2 d 0 0 [] n t I R (qI (fun r n t I R => wp y cc nL ret (d + 1) K N Q kc ks (pc + 3) L (.int r :: S) n t I R))) : wp y cc nL ret (d + 1) K N Q kc ks pc L (S) n t I R :=
  wp_callS (K2 := 0) (N2 := 0) (As := []) hd hl1 hv1 hi rfl hs hk hk2 hM (fun rv n2 t2 I2 R2 hq => by
    obtain ⟨r, rfl, h⟩ := hq
    exact h)
theorem wp_SN0i {host : String} (hd : decode cc pc = .ok (.invokestatic idx, 3)) (hl1 : Cond.methodLinkNest y.cls idx y2 host ∈ lw_w) (hv1 : Cond.static y2 ∈ lw_w) (hi : eMi y2 cc2 nL2 ret2 0) (hs : (S.map Value.category).sum ≤ 8) (hk : kc ≤ K) (hk2 : ks ≤ N) (hM : MC y2 cc2 nL2 ret2 d 0 0 [] n t I R (qI (fun r n t I R => wp y cc nL ret (d + 1) K N Q kc ks (pc + 3) L (.int r :: S) n t I R))) : wp y cc nL ret (d + 1) K N Q kc ks pc L (S) n t I R :=
  wp_callSN (K2 := 0) (N2 := 0) (As := []) hd hl1 hv1 hi rfl hs hk hk2 hM (fun rv n2 t2 I2 R2 hq => by
    obtain ⟨r, rfl, h⟩ := hq
    exact h)
theorem wp_V0iA {q a : Nat} (hd : decode cc pc = .ok (.invokevirtual idx, 3)) (hl1 : Cond.methodLink y.cls idx y2 ∈ lw_w) (hv1 : Cond.instanceMethod y2 ∈ lw_w) (hv2 : Cond.selects y2.cls y2 y2 ∈ lw_w) (hi : eMi y2 cc2 nL2 ret2 0) (hs : (S.map Value.category).sum ≤ 8) (hk : kc + K2 ≤ K) (hk2 : ks + N2 ≤ N) (ht : (t a).1 = q) (hq : q < 9) (hq2 : (eCl q).1 = y2.cls) (hM : MC y2 cc2 nL2 ret2 d K2 N2 (.ref a :: []) n t I R (qI (fun r n t I R => wp y cc nL ret (d + 1) K N Q (kc + K2) (ks + N2) (pc + 3) L (.int r :: S) n t I R))) : wp y cc nL ret (d + 1) K N Q kc ks pc L (.ref a :: S) n t I R :=
  wp_callV (K2 := K2) (N2 := N2) (As := []) hd hl1 hv1 hv2 hi rfl hs hk hk2 ht hq hq2 hM (fun rv n2 t2 I2 R2 hq => by
    obtain ⟨r, rfl, h⟩ := hq
    exact h)
theorem wp_S0iA (hd : decode cc pc = .ok (.invokestatic idx, 3)) (hl1 : Cond.methodLink y.cls idx y2 ∈ lw_w) (hv1 : Cond.static y2 ∈ lw_w) (hi : eMi y2 cc2 nL2 ret2 0) (hs : (S.map Value.category).sum ≤ 8) (hk : kc + K2 ≤ K) (hk2 : ks + N2 ≤ N) (hM : MC y2 cc2 nL2 ret2 d K2 N2 [] n t I R (qI (fun r n t I R => wp y cc nL ret (d + 1) K N Q (kc + K2) (ks + N2) (pc + 3) L (.int r :: S) n t I R))) : wp y cc nL ret (d + 1) K N Q kc ks pc L (S) n t I R :=
  wp_callS (K2 := K2) (N2 := N2) (As := []) hd hl1 hv1 hi rfl hs hk hk2 hM (fun rv n2 t2 I2 R2 hq => by
    obtain ⟨r, rfl, h⟩ := hq
    exact h)
theorem wp_V0l {q a : Nat} (hd : decode cc pc = .ok (.invokevirtual idx, 3)) (hl1 : Cond.methodLink y.cls idx y2 ∈ lw_w) (hv1 : Cond.instanceMethod y2 ∈ lw_w) (hv2 : Cond.selects y2.cls y2 y2 ∈ lw_w) (hi : eMi y2 cc2 nL2 ret2 0) (hs : (S.map Value.category).sum ≤ 8) (hk : kc ≤ K) (hk2 : ks ≤ N) (ht : (t a).1 = q) (hq : q < 9) (hq2 : (eCl q).1 = y2.cls) (hM : MC y2 cc2 nL2 ret2 d 0 0 (.ref a :: []) n t I R (qL (fun r n t I R => wp y cc nL ret (d + 1) K N Q kc ks (pc + 3) L (.long r :: S) n t I R))) : wp y cc nL ret (d + 1) K N Q kc ks pc L (.ref a :: S) n t I R :=
  wp_callV (K2 := 0) (N2 := 0) (As := []) hd hl1 hv1 hv2 hi rfl hs hk hk2 ht hq hq2 hM (fun rv n2 t2 I2 R2 hq => by
    obtain ⟨r, rfl, h⟩ := hq
    exact h)
theorem wp_S0l (hd : decode cc pc = .ok (.invokestatic idx, 3)) (hl1 : Cond.methodLink y.cls idx y2 ∈ lw_w) (hv1 : Cond.static y2 ∈ lw_w) (hi : eMi y2 cc2 nL2 ret2 0) (hs : (S.map Value.category).sum ≤ 8) (hk : kc ≤ K) (hk2 : ks ≤ N) (hM : MC y2 cc2 nL2 ret2 d 0 0 [] n t I R (qL (fun r n t I R => wp y cc nL ret (d + 1) K N Q kc ks (pc + 3) L (.long r :: S) n t I R))) : wp y cc nL ret (d + 1) K N Q kc ks pc L (S) n t I R :=
  wp_callS (K2 := 0) (N2 := 0) (As := []) hd hl1 hv1 hi rfl hs hk hk2 hM (fun rv n2 t2 I2 R2 hq => by
    obtain ⟨r, rfl, h⟩ := hq
    exact h)
theorem wp_V0lA {q a : Nat} (hd : decode cc pc = .ok (.invokevirtual idx, 3)) (hl1 : Cond.methodLink y.cls idx y2 ∈ lw_w) (hv1 : Cond.instanceMethod y2 ∈ lw_w) (hv2 : Cond.selects y2.cls y2 y2 ∈ lw_w) (hi : eMi y2 cc2 nL2 ret2 0) (hs : (S.map Value.category).sum ≤ 8) (hk : kc + K2 ≤ K) (hk2 : ks + N2 ≤ N) (ht : (t a).1 = q) (hq : q < 9) (hq2 : (eCl q).1 = y2.cls) (hM : MC y2 cc2 nL2 ret2 d K2 N2 (.ref a :: []) n t I R (qL (fun r n t I R => wp y cc nL ret (d + 1) K N Q (kc + K2) (ks + N2) (pc + 3) L (.long r :: S) n t I R))) : wp y cc nL ret (d + 1) K N Q kc ks pc L (.ref a :: S) n t I R :=
  wp_callV (K2 := K2) (N2 := N2) (As := []) hd hl1 hv1 hv2 hi rfl hs hk hk2 ht hq hq2 hM (fun rv n2 t2 I2 R2 hq => by
    obtain ⟨r, rfl, h⟩ := hq
    exact h)
theorem wp_S0lA (hd : decode cc pc = .ok (.invokestatic idx, 3)) (hl1 : Cond.methodLink y.cls idx y2 ∈ lw_w) (hv1 : Cond.static y2 ∈ lw_w) (hi : eMi y2 cc2 nL2 ret2 0) (hs : (S.map Value.category).sum ≤ 8) (hk : kc + K2 ≤ K) (hk2 : ks + N2 ≤ N) (hM : MC y2 cc2 nL2 ret2 d K2 N2 [] n t I R (qL (fun r n t I R => wp y cc nL ret (d + 1) K N Q (kc + K2) (ks + N2) (pc + 3) L (.long r :: S) n t I R))) : wp y cc nL ret (d + 1) K N Q kc ks pc L (S) n t I R :=
  wp_callS (K2 := K2) (N2 := N2) (As := []) hd hl1 hv1 hi rfl hs hk hk2 hM (fun rv n2 t2 I2 R2 hq => by
    obtain ⟨r, rfl, h⟩ := hq
    exact h)
theorem wp_V0v {q a : Nat} (hd : decode cc pc = .ok (.invokevirtual idx, 3)) (hl1 : Cond.methodLink y.cls idx y2 ∈ lw_w) (hv1 : Cond.instanceMethod y2 ∈ lw_w) (hv2 : Cond.selects y2.cls y2 y2 ∈ lw_w) (hi : eMi y2 cc2 nL2 ret2 0) (hs : (S.map Value.category).sum ≤ 8) (hk : kc ≤ K) (hk2 : ks ≤ N) (ht : (t a).1 = q) (hq : q < 9) (hq2 : (eCl q).1 = y2.cls) (hM : MC y2 cc2 nL2 ret2 d 0 0 (.ref a :: []) n t I R (qV (fun n t I R => wp y cc nL ret (d + 1) K N Q kc ks (pc + 3) L (S) n t I R))) : wp y cc nL ret (d + 1) K N Q kc ks pc L (.ref a :: S) n t I R :=
  wp_callV (K2 := 0) (N2 := 0) (As := []) hd hl1 hv1 hv2 hi rfl hs hk hk2 ht hq hq2 hM (fun rv n2 t2 I2 R2 hq => by
    obtain ⟨rfl, h⟩ := hq
    exact h)
theorem wp_S0v (hd : decode cc pc = .ok (.invokestatic idx, 3)) (hl1 : Cond.methodLink y.cls idx y2 ∈ lw_w) (hv1 : Cond.static y2 ∈ lw_w) (hi : eMi y2 cc2 nL2 ret2 0) (hs : (S.map Value.category).sum ≤ 8) (hk : kc ≤ K) (hk2 : ks ≤ N) (hM : MC y2 cc2 nL2 ret2 d 0 0 [] n t I R (qV (fun n t I R => wp y cc nL ret (d + 1) K N Q kc ks (pc + 3) L (S) n t I R))) : wp y cc nL ret (d + 1) K N Q kc ks pc L (S) n t I R :=
  wp_callS (K2 := 0) (N2 := 0) (As := []) hd hl1 hv1 hi rfl hs hk hk2 hM (fun rv n2 t2 I2 R2 hq => by
    obtain ⟨rfl, h⟩ := hq
    exact h)
theorem wp_I0v {a : Nat} (hd : decode cc pc = .ok (.invokespecial idx, 3)) (hl1 : Cond.methodLink y.cls idx y2 ∈ lw_w) (hv1 : Cond.instanceMethod y2 ∈ lw_w) (hnm : y2.name = "<init>") (hr2 : ret2 = none) (hi : eMi y2 cc2 nL2 ret2 0) (hs : (S.map Value.category).sum ≤ 8) (hk : kc ≤ K) (hk2 : ks ≤ N) (hM : MC y2 cc2 nL2 ret2 d 0 0 (.ref a :: []) n t I R (qV (fun n t I R => wp y cc nL ret (d + 1) K N Q kc ks (pc + 3) L (S) n t I R))) : wp y cc nL ret (d + 1) K N Q kc ks pc L (.ref a :: S) n t I R :=
  wp_callI (K2 := 0) (N2 := 0) (As := []) hd hl1 hv1 hnm hr2 hi rfl hs hk hk2 hM (fun rv n2 t2 I2 R2 hq => by
    obtain ⟨rfl, h⟩ := hq
    exact h)
theorem wp_IN0v {a : Nat} {host : String} (hd : decode cc pc = .ok (.invokespecial idx, 3)) (hl1 : Cond.methodLinkNest y.cls idx y2 host ∈ lw_w) (hv1 : Cond.instanceMethod y2 ∈ lw_w) (hnm : y2.name = "<init>") (hr2 : ret2 = none) (hi : eMi y2 cc2 nL2 ret2 0) (hs : (S.map Value.category).sum ≤ 8) (hk : kc ≤ K) (hk2 : ks ≤ N) (hM : MC y2 cc2 nL2 ret2 d 0 0 (.ref a :: []) n t I R (qV (fun n t I R => wp y cc nL ret (d + 1) K N Q kc ks (pc + 3) L (S) n t I R))) : wp y cc nL ret (d + 1) K N Q kc ks pc L (.ref a :: S) n t I R :=
  wp_callIN (K2 := 0) (N2 := 0) (As := []) hd hl1 hv1 hnm hr2 hi rfl hs hk hk2 hM (fun rv n2 t2 I2 R2 hq => by
    obtain ⟨rfl, h⟩ := hq
    exact h)
theorem wp_V0vA {q a : Nat} (hd : decode cc pc = .ok (.invokevirtual idx, 3)) (hl1 : Cond.methodLink y.cls idx y2 ∈ lw_w) (hv1 : Cond.instanceMethod y2 ∈ lw_w) (hv2 : Cond.selects y2.cls y2 y2 ∈ lw_w) (hi : eMi y2 cc2 nL2 ret2 0) (hs : (S.map Value.category).sum ≤ 8) (hk : kc + K2 ≤ K) (hk2 : ks + N2 ≤ N) (ht : (t a).1 = q) (hq : q < 9) (hq2 : (eCl q).1 = y2.cls) (hM : MC y2 cc2 nL2 ret2 d K2 N2 (.ref a :: []) n t I R (qV (fun n t I R => wp y cc nL ret (d + 1) K N Q (kc + K2) (ks + N2) (pc + 3) L (S) n t I R))) : wp y cc nL ret (d + 1) K N Q kc ks pc L (.ref a :: S) n t I R :=
  wp_callV (K2 := K2) (N2 := N2) (As := []) hd hl1 hv1 hv2 hi rfl hs hk hk2 ht hq hq2 hM (fun rv n2 t2 I2 R2 hq => by
    obtain ⟨rfl, h⟩ := hq
    exact h)
theorem wp_S0vA (hd : decode cc pc = .ok (.invokestatic idx, 3)) (hl1 : Cond.methodLink y.cls idx y2 ∈ lw_w) (hv1 : Cond.static y2 ∈ lw_w) (hi : eMi y2 cc2 nL2 ret2 0) (hs : (S.map Value.category).sum ≤ 8) (hk : kc + K2 ≤ K) (hk2 : ks + N2 ≤ N) (hM : MC y2 cc2 nL2 ret2 d K2 N2 [] n t I R (qV (fun n t I R => wp y cc nL ret (d + 1) K N Q (kc + K2) (ks + N2) (pc + 3) L (S) n t I R))) : wp y cc nL ret (d + 1) K N Q kc ks pc L (S) n t I R :=
  wp_callS (K2 := K2) (N2 := N2) (As := []) hd hl1 hv1 hi rfl hs hk hk2 hM (fun rv n2 t2 I2 R2 hq => by
    obtain ⟨rfl, h⟩ := hq
    exact h)
theorem wp_I0vA {a : Nat} (hd : decode cc pc = .ok (.invokespecial idx, 3)) (hl1 : Cond.methodLink y.cls idx y2 ∈ lw_w) (hv1 : Cond.instanceMethod y2 ∈ lw_w) (hnm : y2.name = "<init>") (hr2 : ret2 = none) (hi : eMi y2 cc2 nL2 ret2 0) (hs : (S.map Value.category).sum ≤ 8) (hk : kc + K2 ≤ K) (hk2 : ks + N2 ≤ N) (hM : MC y2 cc2 nL2 ret2 d K2 N2 (.ref a :: []) n t I R (qV (fun n t I R => wp y cc nL ret (d + 1) K N Q (kc + K2) (ks + N2) (pc + 3) L (S) n t I R))) : wp y cc nL ret (d + 1) K N Q kc ks pc L (.ref a :: S) n t I R :=
  wp_callI (K2 := K2) (N2 := N2) (As := []) hd hl1 hv1 hnm hr2 hi rfl hs hk hk2 hM (fun rv n2 t2 I2 R2 hq => by
    obtain ⟨rfl, h⟩ := hq
    exact h)
theorem wp_IN0vA {a : Nat} {host : String} (hd : decode cc pc = .ok (.invokespecial idx, 3)) (hl1 : Cond.methodLinkNest y.cls idx y2 host ∈ lw_w) (hv1 : Cond.instanceMethod y2 ∈ lw_w) (hnm : y2.name = "<init>") (hr2 : ret2 = none) (hi : eMi y2 cc2 nL2 ret2 0) (hs : (S.map Value.category).sum ≤ 8) (hk : kc + K2 ≤ K) (hk2 : ks + N2 ≤ N) (hM : MC y2 cc2 nL2 ret2 d K2 N2 (.ref a :: []) n t I R (qV (fun n t I R => wp y cc nL ret (d + 1) K N Q (kc + K2) (ks + N2) (pc + 3) L (S) n t I R))) : wp y cc nL ret (d + 1) K N Q kc ks pc L (.ref a :: S) n t I R :=
  wp_callIN (K2 := K2) (N2 := N2) (As := []) hd hl1 hv1 hnm hr2 hi rfl hs hk hk2 hM (fun rv n2 t2 I2 R2 hq => by
    obtain ⟨rfl, h⟩ := hq
    exact h)
theorem wp_V1i {q a : Nat} (hd : decode cc pc = .ok (.invokevirtual idx, 3)) (hl1 : Cond.methodLink y.cls idx y2 ∈ lw_w) (hv1 : Cond.instanceMethod y2 ∈ lw_w) (hv2 : Cond.selects y2.cls y2 y2 ∈ lw_w) (hi : eMi y2 cc2 nL2 ret2 1) (hs : (S.map Value.category).sum ≤ 8) (hk : kc ≤ K) (hk2 : ks ≤ N) (ht : (t a).1 = q) (hq : q < 9) (hq2 : (eCl q).1 = y2.cls) (hM : MC y2 cc2 nL2 ret2 d 0 0 (.ref a :: [v1]) n t I R (qI (fun r n t I R => wp y cc nL ret (d + 1) K N Q kc ks (pc + 3) L (.int r :: S) n t I R))) : wp y cc nL ret (d + 1) K N Q kc ks pc L (v1 :: .ref a :: S) n t I R :=
  wp_callV (K2 := 0) (N2 := 0) (As := [v1]) hd hl1 hv1 hv2 hi rfl hs hk hk2 ht hq hq2 hM (fun rv n2 t2 I2 R2 hq => by
    obtain ⟨r, rfl, h⟩ := hq
    exact h)
theorem wp_S1i (hd : decode cc pc = .ok (.invokestatic idx, 3)) (hl1 : Cond.methodLink y.cls idx y2 ∈ lw_w) (hv1 : Cond.static y2 ∈ lw_w) (hi : eMi y2 cc2 nL2 ret2 1) (hs : (S.map Value.category).sum ≤ 8) (hk : kc ≤ K) (hk2 : ks ≤ N) (hM : MC y2 cc2 nL2 ret2 d 0 0 [v1] n t I R (qI (fun r n t I R => wp y cc nL ret (d + 1) K N Q kc ks (pc + 3) L (.int r :: S) n t I R))) : wp y cc nL ret (d + 1) K N Q kc ks pc L (v1 :: S) n t I R :=
  wp_callS (K2 := 0) (N2 := 0) (As := [v1]) hd hl1 hv1 hi rfl hs hk hk2 hM (fun rv n2 t2 I2 R2 hq => by
    obtain ⟨r, rfl, h⟩ := hq
    exact h)
theorem wp_SN1i {host : String} (hd : decode cc pc = .ok (.invokestatic idx, 3)) (hl1 : Cond.methodLinkNest y.cls idx y2 host ∈ lw_w) (hv1 : Cond.static y2 ∈ lw_w) (hi : eMi y2 cc2 nL2 ret2 1) (hs : (S.map Value.category).sum ≤ 8) (hk : kc ≤ K) (hk2 : ks ≤ N) (hM : MC y2 cc2 nL2 ret2 d 0 0 [v1] n t I R (qI (fun r n t I R => wp y cc nL ret (d + 1) K N Q kc ks (pc + 3) L (.int r :: S) n t I R))) : wp y cc nL ret (d + 1) K N Q kc ks pc L (v1 :: S) n t I R :=
  wp_callSN (K2 := 0) (N2 := 0) (As := [v1]) hd hl1 hv1 hi rfl hs hk hk2 hM (fun rv n2 t2 I2 R2 hq => by
    obtain ⟨r, rfl, h⟩ := hq
    exact h)
theorem wp_V1iA {q a : Nat} (hd : decode cc pc = .ok (.invokevirtual idx, 3)) (hl1 : Cond.methodLink y.cls idx y2 ∈ lw_w) (hv1 : Cond.instanceMethod y2 ∈ lw_w) (hv2 : Cond.selects y2.cls y2 y2 ∈ lw_w) (hi : eMi y2 cc2 nL2 ret2 1) (hs : (S.map Value.category).sum ≤ 8) (hk : kc + K2 ≤ K) (hk2 : ks + N2 ≤ N) (ht : (t a).1 = q) (hq : q < 9) (hq2 : (eCl q).1 = y2.cls) (hM : MC y2 cc2 nL2 ret2 d K2 N2 (.ref a :: [v1]) n t I R (qI (fun r n t I R => wp y cc nL ret (d + 1) K N Q (kc + K2) (ks + N2) (pc + 3) L (.int r :: S) n t I R))) : wp y cc nL ret (d + 1) K N Q kc ks pc L (v1 :: .ref a :: S) n t I R :=
  wp_callV (K2 := K2) (N2 := N2) (As := [v1]) hd hl1 hv1 hv2 hi rfl hs hk hk2 ht hq hq2 hM (fun rv n2 t2 I2 R2 hq => by
    obtain ⟨r, rfl, h⟩ := hq
    exact h)
theorem wp_S1iA (hd : decode cc pc = .ok (.invokestatic idx, 3)) (hl1 : Cond.methodLink y.cls idx y2 ∈ lw_w) (hv1 : Cond.static y2 ∈ lw_w) (hi : eMi y2 cc2 nL2 ret2 1) (hs : (S.map Value.category).sum ≤ 8) (hk : kc + K2 ≤ K) (hk2 : ks + N2 ≤ N) (hM : MC y2 cc2 nL2 ret2 d K2 N2 [v1] n t I R (qI (fun r n t I R => wp y cc nL ret (d + 1) K N Q (kc + K2) (ks + N2) (pc + 3) L (.int r :: S) n t I R))) : wp y cc nL ret (d + 1) K N Q kc ks pc L (v1 :: S) n t I R :=
  wp_callS (K2 := K2) (N2 := N2) (As := [v1]) hd hl1 hv1 hi rfl hs hk hk2 hM (fun rv n2 t2 I2 R2 hq => by
    obtain ⟨r, rfl, h⟩ := hq
    exact h)
theorem wp_V1l {q a : Nat} (hd : decode cc pc = .ok (.invokevirtual idx, 3)) (hl1 : Cond.methodLink y.cls idx y2 ∈ lw_w) (hv1 : Cond.instanceMethod y2 ∈ lw_w) (hv2 : Cond.selects y2.cls y2 y2 ∈ lw_w) (hi : eMi y2 cc2 nL2 ret2 1) (hs : (S.map Value.category).sum ≤ 8) (hk : kc ≤ K) (hk2 : ks ≤ N) (ht : (t a).1 = q) (hq : q < 9) (hq2 : (eCl q).1 = y2.cls) (hM : MC y2 cc2 nL2 ret2 d 0 0 (.ref a :: [v1]) n t I R (qL (fun r n t I R => wp y cc nL ret (d + 1) K N Q kc ks (pc + 3) L (.long r :: S) n t I R))) : wp y cc nL ret (d + 1) K N Q kc ks pc L (v1 :: .ref a :: S) n t I R :=
  wp_callV (K2 := 0) (N2 := 0) (As := [v1]) hd hl1 hv1 hv2 hi rfl hs hk hk2 ht hq hq2 hM (fun rv n2 t2 I2 R2 hq => by
    obtain ⟨r, rfl, h⟩ := hq
    exact h)
theorem wp_S1l (hd : decode cc pc = .ok (.invokestatic idx, 3)) (hl1 : Cond.methodLink y.cls idx y2 ∈ lw_w) (hv1 : Cond.static y2 ∈ lw_w) (hi : eMi y2 cc2 nL2 ret2 1) (hs : (S.map Value.category).sum ≤ 8) (hk : kc ≤ K) (hk2 : ks ≤ N) (hM : MC y2 cc2 nL2 ret2 d 0 0 [v1] n t I R (qL (fun r n t I R => wp y cc nL ret (d + 1) K N Q kc ks (pc + 3) L (.long r :: S) n t I R))) : wp y cc nL ret (d + 1) K N Q kc ks pc L (v1 :: S) n t I R :=
  wp_callS (K2 := 0) (N2 := 0) (As := [v1]) hd hl1 hv1 hi rfl hs hk hk2 hM (fun rv n2 t2 I2 R2 hq => by
    obtain ⟨r, rfl, h⟩ := hq
    exact h)
theorem wp_V1lA {q a : Nat} (hd : decode cc pc = .ok (.invokevirtual idx, 3)) (hl1 : Cond.methodLink y.cls idx y2 ∈ lw_w) (hv1 : Cond.instanceMethod y2 ∈ lw_w) (hv2 : Cond.selects y2.cls y2 y2 ∈ lw_w) (hi : eMi y2 cc2 nL2 ret2 1) (hs : (S.map Value.category).sum ≤ 8) (hk : kc + K2 ≤ K) (hk2 : ks + N2 ≤ N) (ht : (t a).1 = q) (hq : q < 9) (hq2 : (eCl q).1 = y2.cls) (hM : MC y2 cc2 nL2 ret2 d K2 N2 (.ref a :: [v1]) n t I R (qL (fun r n t I R => wp y cc nL ret (d + 1) K N Q (kc + K2) (ks + N2) (pc + 3) L (.long r :: S) n t I R))) : wp y cc nL ret (d + 1) K N Q kc ks pc L (v1 :: .ref a :: S) n t I R :=
  wp_callV (K2 := K2) (N2 := N2) (As := [v1]) hd hl1 hv1 hv2 hi rfl hs hk hk2 ht hq hq2 hM (fun rv n2 t2 I2 R2 hq => by
    obtain ⟨r, rfl, h⟩ := hq
    exact h)
theorem wp_S1lA (hd : decode cc pc = .ok (.invokestatic idx, 3)) (hl1 : Cond.methodLink y.cls idx y2 ∈ lw_w) (hv1 : Cond.static y2 ∈ lw_w) (hi : eMi y2 cc2 nL2 ret2 1) (hs : (S.map Value.category).sum ≤ 8) (hk : kc + K2 ≤ K) (hk2 : ks + N2 ≤ N) (hM : MC y2 cc2 nL2 ret2 d K2 N2 [v1] n t I R (qL (fun r n t I R => wp y cc nL ret (d + 1) K N Q (kc + K2) (ks + N2) (pc + 3) L (.long r :: S) n t I R))) : wp y cc nL ret (d + 1) K N Q kc ks pc L (v1 :: S) n t I R :=
  wp_callS (K2 := K2) (N2 := N2) (As := [v1]) hd hl1 hv1 hi rfl hs hk hk2 hM (fun rv n2 t2 I2 R2 hq => by
    obtain ⟨r, rfl, h⟩ := hq
    exact h)
theorem wp_V1v {q a : Nat} (hd : decode cc pc = .ok (.invokevirtual idx, 3)) (hl1 : Cond.methodLink y.cls idx y2 ∈ lw_w) (hv1 : Cond.instanceMethod y2 ∈ lw_w) (hv2 : Cond.selects y2.cls y2 y2 ∈ lw_w) (hi : eMi y2 cc2 nL2 ret2 1) (hs : (S.map Value.category).sum ≤ 8) (hk : kc ≤ K) (hk2 : ks ≤ N) (ht : (t a).1 = q) (hq : q < 9) (hq2 : (eCl q).1 = y2.cls) (hM : MC y2 cc2 nL2 ret2 d 0 0 (.ref a :: [v1]) n t I R (qV (fun n t I R => wp y cc nL ret (d + 1) K N Q kc ks (pc + 3) L (S) n t I R))) : wp y cc nL ret (d + 1) K N Q kc ks pc L (v1 :: .ref a :: S) n t I R :=
  wp_callV (K2 := 0) (N2 := 0) (As := [v1]) hd hl1 hv1 hv2 hi rfl hs hk hk2 ht hq hq2 hM (fun rv n2 t2 I2 R2 hq => by
    obtain ⟨rfl, h⟩ := hq
    exact h)
theorem wp_S1v (hd : decode cc pc = .ok (.invokestatic idx, 3)) (hl1 : Cond.methodLink y.cls idx y2 ∈ lw_w) (hv1 : Cond.static y2 ∈ lw_w) (hi : eMi y2 cc2 nL2 ret2 1) (hs : (S.map Value.category).sum ≤ 8) (hk : kc ≤ K) (hk2 : ks ≤ N) (hM : MC y2 cc2 nL2 ret2 d 0 0 [v1] n t I R (qV (fun n t I R => wp y cc nL ret (d + 1) K N Q kc ks (pc + 3) L (S) n t I R))) : wp y cc nL ret (d + 1) K N Q kc ks pc L (v1 :: S) n t I R :=
  wp_callS (K2 := 0) (N2 := 0) (As := [v1]) hd hl1 hv1 hi rfl hs hk hk2 hM (fun rv n2 t2 I2 R2 hq => by
    obtain ⟨rfl, h⟩ := hq
    exact h)
theorem wp_I1v {a : Nat} (hd : decode cc pc = .ok (.invokespecial idx, 3)) (hl1 : Cond.methodLink y.cls idx y2 ∈ lw_w) (hv1 : Cond.instanceMethod y2 ∈ lw_w) (hnm : y2.name = "<init>") (hr2 : ret2 = none) (hi : eMi y2 cc2 nL2 ret2 1) (hs : (S.map Value.category).sum ≤ 8) (hk : kc ≤ K) (hk2 : ks ≤ N) (hM : MC y2 cc2 nL2 ret2 d 0 0 (.ref a :: [v1]) n t I R (qV (fun n t I R => wp y cc nL ret (d + 1) K N Q kc ks (pc + 3) L (S) n t I R))) : wp y cc nL ret (d + 1) K N Q kc ks pc L (v1 :: .ref a :: S) n t I R :=
  wp_callI (K2 := 0) (N2 := 0) (As := [v1]) hd hl1 hv1 hnm hr2 hi rfl hs hk hk2 hM (fun rv n2 t2 I2 R2 hq => by
    obtain ⟨rfl, h⟩ := hq
    exact h)
theorem wp_IN1v {a : Nat} {host : String} (hd : decode cc pc = .ok (.invokespecial idx, 3)) (hl1 : Cond.methodLinkNest y.cls idx y2 host ∈ lw_w) (hv1 : Cond.instanceMethod y2 ∈ lw_w) (hnm : y2.name = "<init>") (hr2 : ret2 = none) (hi : eMi y2 cc2 nL2 ret2 1) (hs : (S.map Value.category).sum ≤ 8) (hk : kc ≤ K) (hk2 : ks ≤ N) (hM : MC y2 cc2 nL2 ret2 d 0 0 (.ref a :: [v1]) n t I R (qV (fun n t I R => wp y cc nL ret (d + 1) K N Q kc ks (pc + 3) L (S) n t I R))) : wp y cc nL ret (d + 1) K N Q kc ks pc L (v1 :: .ref a :: S) n t I R :=
  wp_callIN (K2 := 0) (N2 := 0) (As := [v1]) hd hl1 hv1 hnm hr2 hi rfl hs hk hk2 hM (fun rv n2 t2 I2 R2 hq => by
    obtain ⟨rfl, h⟩ := hq
    exact h)
theorem wp_V1vA {q a : Nat} (hd : decode cc pc = .ok (.invokevirtual idx, 3)) (hl1 : Cond.methodLink y.cls idx y2 ∈ lw_w) (hv1 : Cond.instanceMethod y2 ∈ lw_w) (hv2 : Cond.selects y2.cls y2 y2 ∈ lw_w) (hi : eMi y2 cc2 nL2 ret2 1) (hs : (S.map Value.category).sum ≤ 8) (hk : kc + K2 ≤ K) (hk2 : ks + N2 ≤ N) (ht : (t a).1 = q) (hq : q < 9) (hq2 : (eCl q).1 = y2.cls) (hM : MC y2 cc2 nL2 ret2 d K2 N2 (.ref a :: [v1]) n t I R (qV (fun n t I R => wp y cc nL ret (d + 1) K N Q (kc + K2) (ks + N2) (pc + 3) L (S) n t I R))) : wp y cc nL ret (d + 1) K N Q kc ks pc L (v1 :: .ref a :: S) n t I R :=
  wp_callV (K2 := K2) (N2 := N2) (As := [v1]) hd hl1 hv1 hv2 hi rfl hs hk hk2 ht hq hq2 hM (fun rv n2 t2 I2 R2 hq => by
    obtain ⟨rfl, h⟩ := hq
    exact h)
theorem wp_S1vA (hd : decode cc pc = .ok (.invokestatic idx, 3)) (hl1 : Cond.methodLink y.cls idx y2 ∈ lw_w) (hv1 : Cond.static y2 ∈ lw_w) (hi : eMi y2 cc2 nL2 ret2 1) (hs : (S.map Value.category).sum ≤ 8) (hk : kc + K2 ≤ K) (hk2 : ks + N2 ≤ N) (hM : MC y2 cc2 nL2 ret2 d K2 N2 [v1] n t I R (qV (fun n t I R => wp y cc nL ret (d + 1) K N Q (kc + K2) (ks + N2) (pc + 3) L (S) n t I R))) : wp y cc nL ret (d + 1) K N Q kc ks pc L (v1 :: S) n t I R :=
  wp_callS (K2 := K2) (N2 := N2) (As := [v1]) hd hl1 hv1 hi rfl hs hk hk2 hM (fun rv n2 t2 I2 R2 hq => by
    obtain ⟨rfl, h⟩ := hq
    exact h)
theorem wp_I1vA {a : Nat} (hd : decode cc pc = .ok (.invokespecial idx, 3)) (hl1 : Cond.methodLink y.cls idx y2 ∈ lw_w) (hv1 : Cond.instanceMethod y2 ∈ lw_w) (hnm : y2.name = "<init>") (hr2 : ret2 = none) (hi : eMi y2 cc2 nL2 ret2 1) (hs : (S.map Value.category).sum ≤ 8) (hk : kc + K2 ≤ K) (hk2 : ks + N2 ≤ N) (hM : MC y2 cc2 nL2 ret2 d K2 N2 (.ref a :: [v1]) n t I R (qV (fun n t I R => wp y cc nL ret (d + 1) K N Q (kc + K2) (ks + N2) (pc + 3) L (S) n t I R))) : wp y cc nL ret (d + 1) K N Q kc ks pc L (v1 :: .ref a :: S) n t I R :=
  wp_callI (K2 := K2) (N2 := N2) (As := [v1]) hd hl1 hv1 hnm hr2 hi rfl hs hk hk2 hM (fun rv n2 t2 I2 R2 hq => by
    obtain ⟨rfl, h⟩ := hq
    exact h)
theorem wp_IN1vA {a : Nat} {host : String} (hd : decode cc pc = .ok (.invokespecial idx, 3)) (hl1 : Cond.methodLinkNest y.cls idx y2 host ∈ lw_w) (hv1 : Cond.instanceMethod y2 ∈ lw_w) (hnm : y2.name = "<init>") (hr2 : ret2 = none) (hi : eMi y2 cc2 nL2 ret2 1) (hs : (S.map Value.category).sum ≤ 8) (hk : kc + K2 ≤ K) (hk2 : ks + N2 ≤ N) (hM : MC y2 cc2 nL2 ret2 d K2 N2 (.ref a :: [v1]) n t I R (qV (fun n t I R => wp y cc nL ret (d + 1) K N Q (kc + K2) (ks + N2) (pc + 3) L (S) n t I R))) : wp y cc nL ret (d + 1) K N Q kc ks pc L (v1 :: .ref a :: S) n t I R :=
  wp_callIN (K2 := K2) (N2 := N2) (As := [v1]) hd hl1 hv1 hnm hr2 hi rfl hs hk hk2 hM (fun rv n2 t2 I2 R2 hq => by
    obtain ⟨rfl, h⟩ := hq
    exact h)
theorem wp_V2i {q a : Nat} (hd : decode cc pc = .ok (.invokevirtual idx, 3)) (hl1 : Cond.methodLink y.cls idx y2 ∈ lw_w) (hv1 : Cond.instanceMethod y2 ∈ lw_w) (hv2 : Cond.selects y2.cls y2 y2 ∈ lw_w) (hi : eMi y2 cc2 nL2 ret2 2) (hs : (S.map Value.category).sum ≤ 8) (hk : kc ≤ K) (hk2 : ks ≤ N) (ht : (t a).1 = q) (hq : q < 9) (hq2 : (eCl q).1 = y2.cls) (hM : MC y2 cc2 nL2 ret2 d 0 0 (.ref a :: [v1, v2]) n t I R (qI (fun r n t I R => wp y cc nL ret (d + 1) K N Q kc ks (pc + 3) L (.int r :: S) n t I R))) : wp y cc nL ret (d + 1) K N Q kc ks pc L (v2 :: v1 :: .ref a :: S) n t I R :=
  wp_callV (K2 := 0) (N2 := 0) (As := [v1, v2]) hd hl1 hv1 hv2 hi rfl hs hk hk2 ht hq hq2 hM (fun rv n2 t2 I2 R2 hq => by
    obtain ⟨r, rfl, h⟩ := hq
    exact h)
theorem wp_S2i (hd : decode cc pc = .ok (.invokestatic idx, 3)) (hl1 : Cond.methodLink y.cls idx y2 ∈ lw_w) (hv1 : Cond.static y2 ∈ lw_w) (hi : eMi y2 cc2 nL2 ret2 2) (hs : (S.map Value.category).sum ≤ 8) (hk : kc ≤ K) (hk2 : ks ≤ N) (hM : MC y2 cc2 nL2 ret2 d 0 0 [v1, v2] n t I R (qI (fun r n t I R => wp y cc nL ret (d + 1) K N Q kc ks (pc + 3) L (.int r :: S) n t I R))) : wp y cc nL ret (d + 1) K N Q kc ks pc L (v2 :: v1 :: S) n t I R :=
  wp_callS (K2 := 0) (N2 := 0) (As := [v1, v2]) hd hl1 hv1 hi rfl hs hk hk2 hM (fun rv n2 t2 I2 R2 hq => by
    obtain ⟨r, rfl, h⟩ := hq
    exact h)
theorem wp_SN2i {host : String} (hd : decode cc pc = .ok (.invokestatic idx, 3)) (hl1 : Cond.methodLinkNest y.cls idx y2 host ∈ lw_w) (hv1 : Cond.static y2 ∈ lw_w) (hi : eMi y2 cc2 nL2 ret2 2) (hs : (S.map Value.category).sum ≤ 8) (hk : kc ≤ K) (hk2 : ks ≤ N) (hM : MC y2 cc2 nL2 ret2 d 0 0 [v1, v2] n t I R (qI (fun r n t I R => wp y cc nL ret (d + 1) K N Q kc ks (pc + 3) L (.int r :: S) n t I R))) : wp y cc nL ret (d + 1) K N Q kc ks pc L (v2 :: v1 :: S) n t I R :=
  wp_callSN (K2 := 0) (N2 := 0) (As := [v1, v2]) hd hl1 hv1 hi rfl hs hk hk2 hM (fun rv n2 t2 I2 R2 hq => by
    obtain ⟨r, rfl, h⟩ := hq
    exact h)
theorem wp_V2iA {q a : Nat} (hd : decode cc pc = .ok (.invokevirtual idx, 3)) (hl1 : Cond.methodLink y.cls idx y2 ∈ lw_w) (hv1 : Cond.instanceMethod y2 ∈ lw_w) (hv2 : Cond.selects y2.cls y2 y2 ∈ lw_w) (hi : eMi y2 cc2 nL2 ret2 2) (hs : (S.map Value.category).sum ≤ 8) (hk : kc + K2 ≤ K) (hk2 : ks + N2 ≤ N) (ht : (t a).1 = q) (hq : q < 9) (hq2 : (eCl q).1 = y2.cls) (hM : MC y2 cc2 nL2 ret2 d K2 N2 (.ref a :: [v1, v2]) n t I R (qI (fun r n t I R => wp y cc nL ret (d + 1) K N Q (kc + K2) (ks + N2) (pc + 3) L (.int r :: S) n t I R))) : wp y cc nL ret (d + 1) K N Q kc ks pc L (v2 :: v1 :: .ref a :: S) n t I R :=
  wp_callV (K2 := K2) (N2 := N2) (As := [v1, v2]) hd hl1 hv1 hv2 hi rfl hs hk hk2 ht hq hq2 hM (fun rv n2 t2 I2 R2 hq => by
    obtain ⟨r, rfl, h⟩ := hq
    exact h)
theorem wp_S2iA (hd : decode cc pc = .ok (.invokestatic idx, 3)) (hl1 : Cond.methodLink y.cls idx y2 ∈ lw_w) (hv1 : Cond.static y2 ∈ lw_w) (hi : eMi y2 cc2 nL2 ret2 2) (hs : (S.map Value.category).sum ≤ 8) (hk : kc + K2 ≤ K) (hk2 : ks + N2 ≤ N) (hM : MC y2 cc2 nL2 ret2 d K2 N2 [v1, v2] n t I R (qI (fun r n t I R => wp y cc nL ret (d + 1) K N Q (kc + K2) (ks + N2) (pc + 3) L (.int r :: S) n t I R))) : wp y cc nL ret (d + 1) K N Q kc ks pc L (v2 :: v1 :: S) n t I R :=
  wp_callS (K2 := K2) (N2 := N2) (As := [v1, v2]) hd hl1 hv1 hi rfl hs hk hk2 hM (fun rv n2 t2 I2 R2 hq => by
    obtain ⟨r, rfl, h⟩ := hq
    exact h)
theorem wp_V2l {q a : Nat} (hd : decode cc pc = .ok (.invokevirtual idx, 3)) (hl1 : Cond.methodLink y.cls idx y2 ∈ lw_w) (hv1 : Cond.instanceMethod y2 ∈ lw_w) (hv2 : Cond.selects y2.cls y2 y2 ∈ lw_w) (hi : eMi y2 cc2 nL2 ret2 2) (hs : (S.map Value.category).sum ≤ 8) (hk : kc ≤ K) (hk2 : ks ≤ N) (ht : (t a).1 = q) (hq : q < 9) (hq2 : (eCl q).1 = y2.cls) (hM : MC y2 cc2 nL2 ret2 d 0 0 (.ref a :: [v1, v2]) n t I R (qL (fun r n t I R => wp y cc nL ret (d + 1) K N Q kc ks (pc + 3) L (.long r :: S) n t I R))) : wp y cc nL ret (d + 1) K N Q kc ks pc L (v2 :: v1 :: .ref a :: S) n t I R :=
  wp_callV (K2 := 0) (N2 := 0) (As := [v1, v2]) hd hl1 hv1 hv2 hi rfl hs hk hk2 ht hq hq2 hM (fun rv n2 t2 I2 R2 hq => by
    obtain ⟨r, rfl, h⟩ := hq
    exact h)
theorem wp_S2l (hd : decode cc pc = .ok (.invokestatic idx, 3)) (hl1 : Cond.methodLink y.cls idx y2 ∈ lw_w) (hv1 : Cond.static y2 ∈ lw_w) (hi : eMi y2 cc2 nL2 ret2 2) (hs : (S.map Value.category).sum ≤ 8) (hk : kc ≤ K) (hk2 : ks ≤ N) (hM : MC y2 cc2 nL2 ret2 d 0 0 [v1, v2] n t I R (qL (fun r n t I R => wp y cc nL ret (d + 1) K N Q kc ks (pc + 3) L (.long r :: S) n t I R))) : wp y cc nL ret (d + 1) K N Q kc ks pc L (v2 :: v1 :: S) n t I R :=
  wp_callS (K2 := 0) (N2 := 0) (As := [v1, v2]) hd hl1 hv1 hi rfl hs hk hk2 hM (fun rv n2 t2 I2 R2 hq => by
    obtain ⟨r, rfl, h⟩ := hq
    exact h)
theorem wp_V2lA {q a : Nat} (hd : decode cc pc = .ok (.invokevirtual idx, 3)) (hl1 : Cond.methodLink y.cls idx y2 ∈ lw_w) (hv1 : Cond.instanceMethod y2 ∈ lw_w) (hv2 : Cond.selects y2.cls y2 y2 ∈ lw_w) (hi : eMi y2 cc2 nL2 ret2 2) (hs : (S.map Value.category).sum ≤ 8) (hk : kc + K2 ≤ K) (hk2 : ks + N2 ≤ N) (ht : (t a).1 = q) (hq : q < 9) (hq2 : (eCl q).1 = y2.cls) (hM : MC y2 cc2 nL2 ret2 d K2 N2 (.ref a :: [v1, v2]) n t I R (qL (fun r n t I R => wp y cc nL ret (d + 1) K N Q (kc + K2) (ks + N2) (pc + 3) L (.long r :: S) n t I R))) : wp y cc nL ret (d + 1) K N Q kc ks pc L (v2 :: v1 :: .ref a :: S) n t I R :=
  wp_callV (K2 := K2) (N2 := N2) (As := [v1, v2]) hd hl1 hv1 hv2 hi rfl hs hk hk2 ht hq hq2 hM (fun rv n2 t2 I2 R2 hq => by
    obtain ⟨r, rfl, h⟩ := hq
    exact h)
theorem wp_S2lA (hd : decode cc pc = .ok (.invokestatic idx, 3)) (hl1 : Cond.methodLink y.cls idx y2 ∈ lw_w) (hv1 : Cond.static y2 ∈ lw_w) (hi : eMi y2 cc2 nL2 ret2 2) (hs : (S.map Value.category).sum ≤ 8) (hk : kc + K2 ≤ K) (hk2 : ks + N2 ≤ N) (hM : MC y2 cc2 nL2 ret2 d K2 N2 [v1, v2] n t I R (qL (fun r n t I R => wp y cc nL ret (d + 1) K N Q (kc + K2) (ks + N2) (pc + 3) L (.long r :: S) n t I R))) : wp y cc nL ret (d + 1) K N Q kc ks pc L (v2 :: v1 :: S) n t I R :=
  wp_callS (K2 := K2) (N2 := N2) (As := [v1, v2]) hd hl1 hv1 hi rfl hs hk hk2 hM (fun rv n2 t2 I2 R2 hq => by
    obtain ⟨r, rfl, h⟩ := hq
    exact h)
theorem wp_V2v {q a : Nat} (hd : decode cc pc = .ok (.invokevirtual idx, 3)) (hl1 : Cond.methodLink y.cls idx y2 ∈ lw_w) (hv1 : Cond.instanceMethod y2 ∈ lw_w) (hv2 : Cond.selects y2.cls y2 y2 ∈ lw_w) (hi : eMi y2 cc2 nL2 ret2 2) (hs : (S.map Value.category).sum ≤ 8) (hk : kc ≤ K) (hk2 : ks ≤ N) (ht : (t a).1 = q) (hq : q < 9) (hq2 : (eCl q).1 = y2.cls) (hM : MC y2 cc2 nL2 ret2 d 0 0 (.ref a :: [v1, v2]) n t I R (qV (fun n t I R => wp y cc nL ret (d + 1) K N Q kc ks (pc + 3) L (S) n t I R))) : wp y cc nL ret (d + 1) K N Q kc ks pc L (v2 :: v1 :: .ref a :: S) n t I R :=
  wp_callV (K2 := 0) (N2 := 0) (As := [v1, v2]) hd hl1 hv1 hv2 hi rfl hs hk hk2 ht hq hq2 hM (fun rv n2 t2 I2 R2 hq => by
    obtain ⟨rfl, h⟩ := hq
    exact h)
theorem wp_S2v (hd : decode cc pc = .ok (.invokestatic idx, 3)) (hl1 : Cond.methodLink y.cls idx y2 ∈ lw_w) (hv1 : Cond.static y2 ∈ lw_w) (hi : eMi y2 cc2 nL2 ret2 2) (hs : (S.map Value.category).sum ≤ 8) (hk : kc ≤ K) (hk2 : ks ≤ N) (hM : MC y2 cc2 nL2 ret2 d 0 0 [v1, v2] n t I R (qV (fun n t I R => wp y cc nL ret (d + 1) K N Q kc ks (pc + 3) L (S) n t I R))) : wp y cc nL ret (d + 1) K N Q kc ks pc L (v2 :: v1 :: S) n t I R :=
  wp_callS (K2 := 0) (N2 := 0) (As := [v1, v2]) hd hl1 hv1 hi rfl hs hk hk2 hM (fun rv n2 t2 I2 R2 hq => by
    obtain ⟨rfl, h⟩ := hq
    exact h)
theorem wp_I2v {a : Nat} (hd : decode cc pc = .ok (.invokespecial idx, 3)) (hl1 : Cond.methodLink y.cls idx y2 ∈ lw_w) (hv1 : Cond.instanceMethod y2 ∈ lw_w) (hnm : y2.name = "<init>") (hr2 : ret2 = none) (hi : eMi y2 cc2 nL2 ret2 2) (hs : (S.map Value.category).sum ≤ 8) (hk : kc ≤ K) (hk2 : ks ≤ N) (hM : MC y2 cc2 nL2 ret2 d 0 0 (.ref a :: [v1, v2]) n t I R (qV (fun n t I R => wp y cc nL ret (d + 1) K N Q kc ks (pc + 3) L (S) n t I R))) : wp y cc nL ret (d + 1) K N Q kc ks pc L (v2 :: v1 :: .ref a :: S) n t I R :=
  wp_callI (K2 := 0) (N2 := 0) (As := [v1, v2]) hd hl1 hv1 hnm hr2 hi rfl hs hk hk2 hM (fun rv n2 t2 I2 R2 hq => by
    obtain ⟨rfl, h⟩ := hq
    exact h)
theorem wp_IN2v {a : Nat} {host : String} (hd : decode cc pc = .ok (.invokespecial idx, 3)) (hl1 : Cond.methodLinkNest y.cls idx y2 host ∈ lw_w) (hv1 : Cond.instanceMethod y2 ∈ lw_w) (hnm : y2.name = "<init>") (hr2 : ret2 = none) (hi : eMi y2 cc2 nL2 ret2 2) (hs : (S.map Value.category).sum ≤ 8) (hk : kc ≤ K) (hk2 : ks ≤ N) (hM : MC y2 cc2 nL2 ret2 d 0 0 (.ref a :: [v1, v2]) n t I R (qV (fun n t I R => wp y cc nL ret (d + 1) K N Q kc ks (pc + 3) L (S) n t I R))) : wp y cc nL ret (d + 1) K N Q kc ks pc L (v2 :: v1 :: .ref a :: S) n t I R :=
  wp_callIN (K2 := 0) (N2 := 0) (As := [v1, v2]) hd hl1 hv1 hnm hr2 hi rfl hs hk hk2 hM (fun rv n2 t2 I2 R2 hq => by
    obtain ⟨rfl, h⟩ := hq
    exact h)
theorem wp_V2vA {q a : Nat} (hd : decode cc pc = .ok (.invokevirtual idx, 3)) (hl1 : Cond.methodLink y.cls idx y2 ∈ lw_w) (hv1 : Cond.instanceMethod y2 ∈ lw_w) (hv2 : Cond.selects y2.cls y2 y2 ∈ lw_w) (hi : eMi y2 cc2 nL2 ret2 2) (hs : (S.map Value.category).sum ≤ 8) (hk : kc + K2 ≤ K) (hk2 : ks + N2 ≤ N) (ht : (t a).1 = q) (hq : q < 9) (hq2 : (eCl q).1 = y2.cls) (hM : MC y2 cc2 nL2 ret2 d K2 N2 (.ref a :: [v1, v2]) n t I R (qV (fun n t I R => wp y cc nL ret (d + 1) K N Q (kc + K2) (ks + N2) (pc + 3) L (S) n t I R))) : wp y cc nL ret (d + 1) K N Q kc ks pc L (v2 :: v1 :: .ref a :: S) n t I R :=
  wp_callV (K2 := K2) (N2 := N2) (As := [v1, v2]) hd hl1 hv1 hv2 hi rfl hs hk hk2 ht hq hq2 hM (fun rv n2 t2 I2 R2 hq => by
    obtain ⟨rfl, h⟩ := hq
    exact h)
theorem wp_S2vA (hd : decode cc pc = .ok (.invokestatic idx, 3)) (hl1 : Cond.methodLink y.cls idx y2 ∈ lw_w) (hv1 : Cond.static y2 ∈ lw_w) (hi : eMi y2 cc2 nL2 ret2 2) (hs : (S.map Value.category).sum ≤ 8) (hk : kc + K2 ≤ K) (hk2 : ks + N2 ≤ N) (hM : MC y2 cc2 nL2 ret2 d K2 N2 [v1, v2] n t I R (qV (fun n t I R => wp y cc nL ret (d + 1) K N Q (kc + K2) (ks + N2) (pc + 3) L (S) n t I R))) : wp y cc nL ret (d + 1) K N Q kc ks pc L (v2 :: v1 :: S) n t I R :=
  wp_callS (K2 := K2) (N2 := N2) (As := [v1, v2]) hd hl1 hv1 hi rfl hs hk hk2 hM (fun rv n2 t2 I2 R2 hq => by
    obtain ⟨rfl, h⟩ := hq
    exact h)
theorem wp_I2vA {a : Nat} (hd : decode cc pc = .ok (.invokespecial idx, 3)) (hl1 : Cond.methodLink y.cls idx y2 ∈ lw_w) (hv1 : Cond.instanceMethod y2 ∈ lw_w) (hnm : y2.name = "<init>") (hr2 : ret2 = none) (hi : eMi y2 cc2 nL2 ret2 2) (hs : (S.map Value.category).sum ≤ 8) (hk : kc + K2 ≤ K) (hk2 : ks + N2 ≤ N) (hM : MC y2 cc2 nL2 ret2 d K2 N2 (.ref a :: [v1, v2]) n t I R (qV (fun n t I R => wp y cc nL ret (d + 1) K N Q (kc + K2) (ks + N2) (pc + 3) L (S) n t I R))) : wp y cc nL ret (d + 1) K N Q kc ks pc L (v2 :: v1 :: .ref a :: S) n t I R :=
  wp_callI (K2 := K2) (N2 := N2) (As := [v1, v2]) hd hl1 hv1 hnm hr2 hi rfl hs hk hk2 hM (fun rv n2 t2 I2 R2 hq => by
    obtain ⟨rfl, h⟩ := hq
    exact h)
theorem wp_IN2vA {a : Nat} {host : String} (hd : decode cc pc = .ok (.invokespecial idx, 3)) (hl1 : Cond.methodLinkNest y.cls idx y2 host ∈ lw_w) (hv1 : Cond.instanceMethod y2 ∈ lw_w) (hnm : y2.name = "<init>") (hr2 : ret2 = none) (hi : eMi y2 cc2 nL2 ret2 2) (hs : (S.map Value.category).sum ≤ 8) (hk : kc + K2 ≤ K) (hk2 : ks + N2 ≤ N) (hM : MC y2 cc2 nL2 ret2 d K2 N2 (.ref a :: [v1, v2]) n t I R (qV (fun n t I R => wp y cc nL ret (d + 1) K N Q (kc + K2) (ks + N2) (pc + 3) L (S) n t I R))) : wp y cc nL ret (d + 1) K N Q kc ks pc L (v2 :: v1 :: .ref a :: S) n t I R :=
  wp_callIN (K2 := K2) (N2 := N2) (As := [v1, v2]) hd hl1 hv1 hnm hr2 hi rfl hs hk hk2 hM (fun rv n2 t2 I2 R2 hq => by
    obtain ⟨rfl, h⟩ := hq
    exact h)
theorem wp_V3i {q a : Nat} (hd : decode cc pc = .ok (.invokevirtual idx, 3)) (hl1 : Cond.methodLink y.cls idx y2 ∈ lw_w) (hv1 : Cond.instanceMethod y2 ∈ lw_w) (hv2 : Cond.selects y2.cls y2 y2 ∈ lw_w) (hi : eMi y2 cc2 nL2 ret2 3) (hs : (S.map Value.category).sum ≤ 8) (hk : kc ≤ K) (hk2 : ks ≤ N) (ht : (t a).1 = q) (hq : q < 9) (hq2 : (eCl q).1 = y2.cls) (hM : MC y2 cc2 nL2 ret2 d 0 0 (.ref a :: [v1, v2, v3]) n t I R (qI (fun r n t I R => wp y cc nL ret (d + 1) K N Q kc ks (pc + 3) L (.int r :: S) n t I R))) : wp y cc nL ret (d + 1) K N Q kc ks pc L (v3 :: v2 :: v1 :: .ref a :: S) n t I R :=
  wp_callV (K2 := 0) (N2 := 0) (As := [v1, v2, v3]) hd hl1 hv1 hv2 hi rfl hs hk hk2 ht hq hq2 hM (fun rv n2 t2 I2 R2 hq => by
    obtain ⟨r, rfl, h⟩ := hq
    exact h)
theorem wp_S3i (hd : decode cc pc = .ok (.invokestatic idx, 3)) (hl1 : Cond.methodLink y.cls idx y2 ∈ lw_w) (hv1 : Cond.static y2 ∈ lw_w) (hi : eMi y2 cc2 nL2 ret2 3) (hs : (S.map Value.category).sum ≤ 8) (hk : kc ≤ K) (hk2 : ks ≤ N) (hM : MC y2 cc2 nL2 ret2 d 0 0 [v1, v2, v3] n t I R (qI (fun r n t I R => wp y cc nL ret (d + 1) K N Q kc ks (pc + 3) L (.int r :: S) n t I R))) : wp y cc nL ret (d + 1) K N Q kc ks pc L (v3 :: v2 :: v1 :: S) n t I R :=
  wp_callS (K2 := 0) (N2 := 0) (As := [v1, v2, v3]) hd hl1 hv1 hi rfl hs hk hk2 hM (fun rv n2 t2 I2 R2 hq => by
    obtain ⟨r, rfl, h⟩ := hq
    exact h)
theorem wp_SN3i {host : String} (hd : decode cc pc = .ok (.invokestatic idx, 3)) (hl1 : Cond.methodLinkNest y.cls idx y2 host ∈ lw_w) (hv1 : Cond.static y2 ∈ lw_w) (hi : eMi y2 cc2 nL2 ret2 3) (hs : (S.map Value.category).sum ≤ 8) (hk : kc ≤ K) (hk2 : ks ≤ N) (hM : MC y2 cc2 nL2 ret2 d 0 0 [v1, v2, v3] n t I R (qI (fun r n t I R => wp y cc nL ret (d + 1) K N Q kc ks (pc + 3) L (.int r :: S) n t I R))) : wp y cc nL ret (d + 1) K N Q kc ks pc L (v3 :: v2 :: v1 :: S) n t I R :=
  wp_callSN (K2 := 0) (N2 := 0) (As := [v1, v2, v3]) hd hl1 hv1 hi rfl hs hk hk2 hM (fun rv n2 t2 I2 R2 hq => by
    obtain ⟨r, rfl, h⟩ := hq
    exact h)
theorem wp_V3iA {q a : Nat} (hd : decode cc pc = .ok (.invokevirtual idx, 3)) (hl1 : Cond.methodLink y.cls idx y2 ∈ lw_w) (hv1 : Cond.instanceMethod y2 ∈ lw_w) (hv2 : Cond.selects y2.cls y2 y2 ∈ lw_w) (hi : eMi y2 cc2 nL2 ret2 3) (hs : (S.map Value.category).sum ≤ 8) (hk : kc + K2 ≤ K) (hk2 : ks + N2 ≤ N) (ht : (t a).1 = q) (hq : q < 9) (hq2 : (eCl q).1 = y2.cls) (hM : MC y2 cc2 nL2 ret2 d K2 N2 (.ref a :: [v1, v2, v3]) n t I R (qI (fun r n t I R => wp y cc nL ret (d + 1) K N Q (kc + K2) (ks + N2) (pc + 3) L (.int r :: S) n t I R))) : wp y cc nL ret (d + 1) K N Q kc ks pc L (v3 :: v2 :: v1 :: .ref a :: S) n t I R :=
  wp_callV (K2 := K2) (N2 := N2) (As := [v1, v2, v3]) hd hl1 hv1 hv2 hi rfl hs hk hk2 ht hq hq2 hM (fun rv n2 t2 I2 R2 hq => by
    obtain ⟨r, rfl, h⟩ := hq
    exact h)
theorem wp_S3iA (hd : decode cc pc = .ok (.invokestatic idx, 3)) (hl1 : Cond.methodLink y.cls idx y2 ∈ lw_w) (hv1 : Cond.static y2 ∈ lw_w) (hi : eMi y2 cc2 nL2 ret2 3) (hs : (S.map Value.category).sum ≤ 8) (hk : kc + K2 ≤ K) (hk2 : ks + N2 ≤ N) (hM : MC y2 cc2 nL2 ret2 d K2 N2 [v1, v2, v3] n t I R (qI (fun r n t I R => wp y cc nL ret (d + 1) K N Q (kc + K2) (ks + N2) (pc + 3) L (.int r :: S) n t I R))) : wp y cc nL ret (d + 1) K N Q kc ks pc L (v3 :: v2 :: v1 :: S) n t I R :=
  wp_callS (K2 := K2) (N2 := N2) (As := [v1, v2, v3]) hd hl1 hv1 hi rfl hs hk hk2 hM (fun rv n2 t2 I2 R2 hq => by
    obtain ⟨r, rfl, h⟩ := hq
    exact h)
theorem wp_V3l {q a : Nat} (hd : decode cc pc = .ok (.invokevirtual idx, 3)) (hl1 : Cond.methodLink y.cls idx y2 ∈ lw_w) (hv1 : Cond.instanceMethod y2 ∈ lw_w) (hv2 : Cond.selects y2.cls y2 y2 ∈ lw_w) (hi : eMi y2 cc2 nL2 ret2 3) (hs : (S.map Value.category).sum ≤ 8) (hk : kc ≤ K) (hk2 : ks ≤ N) (ht : (t a).1 = q) (hq : q < 9) (hq2 : (eCl q).1 = y2.cls) (hM : MC y2 cc2 nL2 ret2 d 0 0 (.ref a :: [v1, v2, v3]) n t I R (qL (fun r n t I R => wp y cc nL ret (d + 1) K N Q kc ks (pc + 3) L (.long r :: S) n t I R))) : wp y cc nL ret (d + 1) K N Q kc ks pc L (v3 :: v2 :: v1 :: .ref a :: S) n t I R :=
  wp_callV (K2 := 0) (N2 := 0) (As := [v1, v2, v3]) hd hl1 hv1 hv2 hi rfl hs hk hk2 ht hq hq2 hM (fun rv n2 t2 I2 R2 hq => by
    obtain ⟨r, rfl, h⟩ := hq
    exact h)
theorem wp_S3l (hd : decode cc pc = .ok (.invokestatic idx, 3)) (hl1 : Cond.methodLink y.cls idx y2 ∈ lw_w) (hv1 : Cond.static y2 ∈ lw_w) (hi : eMi y2 cc2 nL2 ret2 3) (hs : (S.map Value.category).sum ≤ 8) (hk : kc ≤ K) (hk2 : ks ≤ N) (hM : MC y2 cc2 nL2 ret2 d 0 0 [v1, v2, v3] n t I R (qL (fun r n t I R => wp y cc nL ret (d + 1) K N Q kc ks (pc + 3) L (.long r :: S) n t I R))) : wp y cc nL ret (d + 1) K N Q kc ks pc L (v3 :: v2 :: v1 :: S) n t I R :=
  wp_callS (K2 := 0) (N2 := 0) (As := [v1, v2, v3]) hd hl1 hv1 hi rfl hs hk hk2 hM (fun rv n2 t2 I2 R2 hq => by
    obtain ⟨r, rfl, h⟩ := hq
    exact h)
theorem wp_V3lA {q a : Nat} (hd : decode cc pc = .ok (.invokevirtual idx, 3)) (hl1 : Cond.methodLink y.cls idx y2 ∈ lw_w) (hv1 : Cond.instanceMethod y2 ∈ lw_w) (hv2 : Cond.selects y2.cls y2 y2 ∈ lw_w) (hi : eMi y2 cc2 nL2 ret2 3) (hs : (S.map Value.category).sum ≤ 8) (hk : kc + K2 ≤ K) (hk2 : ks + N2 ≤ N) (ht : (t a).1 = q) (hq : q < 9) (hq2 : (eCl q).1 = y2.cls) (hM : MC y2 cc2 nL2 ret2 d K2 N2 (.ref a :: [v1, v2, v3]) n t I R (qL (fun r n t I R => wp y cc nL ret (d + 1) K N Q (kc + K2) (ks + N2) (pc + 3) L (.long r :: S) n t I R))) : wp y cc nL ret (d + 1) K N Q kc ks pc L (v3 :: v2 :: v1 :: .ref a :: S) n t I R :=
  wp_callV (K2 := K2) (N2 := N2) (As := [v1, v2, v3]) hd hl1 hv1 hv2 hi rfl hs hk hk2 ht hq hq2 hM (fun rv n2 t2 I2 R2 hq => by
    obtain ⟨r, rfl, h⟩ := hq
    exact h)
theorem wp_S3lA (hd : decode cc pc = .ok (.invokestatic idx, 3)) (hl1 : Cond.methodLink y.cls idx y2 ∈ lw_w) (hv1 : Cond.static y2 ∈ lw_w) (hi : eMi y2 cc2 nL2 ret2 3) (hs : (S.map Value.category).sum ≤ 8) (hk : kc + K2 ≤ K) (hk2 : ks + N2 ≤ N) (hM : MC y2 cc2 nL2 ret2 d K2 N2 [v1, v2, v3] n t I R (qL (fun r n t I R => wp y cc nL ret (d + 1) K N Q (kc + K2) (ks + N2) (pc + 3) L (.long r :: S) n t I R))) : wp y cc nL ret (d + 1) K N Q kc ks pc L (v3 :: v2 :: v1 :: S) n t I R :=
  wp_callS (K2 := K2) (N2 := N2) (As := [v1, v2, v3]) hd hl1 hv1 hi rfl hs hk hk2 hM (fun rv n2 t2 I2 R2 hq => by
    obtain ⟨r, rfl, h⟩ := hq
    exact h)
theorem wp_V3v {q a : Nat} (hd : decode cc pc = .ok (.invokevirtual idx, 3)) (hl1 : Cond.methodLink y.cls idx y2 ∈ lw_w) (hv1 : Cond.instanceMethod y2 ∈ lw_w) (hv2 : Cond.selects y2.cls y2 y2 ∈ lw_w) (hi : eMi y2 cc2 nL2 ret2 3) (hs : (S.map Value.category).sum ≤ 8) (hk : kc ≤ K) (hk2 : ks ≤ N) (ht : (t a).1 = q) (hq : q < 9) (hq2 : (eCl q).1 = y2.cls) (hM : MC y2 cc2 nL2 ret2 d 0 0 (.ref a :: [v1, v2, v3]) n t I R (qV (fun n t I R => wp y cc nL ret (d + 1) K N Q kc ks (pc + 3) L (S) n t I R))) : wp y cc nL ret (d + 1) K N Q kc ks pc L (v3 :: v2 :: v1 :: .ref a :: S) n t I R :=
  wp_callV (K2 := 0) (N2 := 0) (As := [v1, v2, v3]) hd hl1 hv1 hv2 hi rfl hs hk hk2 ht hq hq2 hM (fun rv n2 t2 I2 R2 hq => by
    obtain ⟨rfl, h⟩ := hq
    exact h)
theorem wp_S3v (hd : decode cc pc = .ok (.invokestatic idx, 3)) (hl1 : Cond.methodLink y.cls idx y2 ∈ lw_w) (hv1 : Cond.static y2 ∈ lw_w) (hi : eMi y2 cc2 nL2 ret2 3) (hs : (S.map Value.category).sum ≤ 8) (hk : kc ≤ K) (hk2 : ks ≤ N) (hM : MC y2 cc2 nL2 ret2 d 0 0 [v1, v2, v3] n t I R (qV (fun n t I R => wp y cc nL ret (d + 1) K N Q kc ks (pc + 3) L (S) n t I R))) : wp y cc nL ret (d + 1) K N Q kc ks pc L (v3 :: v2 :: v1 :: S) n t I R :=
  wp_callS (K2 := 0) (N2 := 0) (As := [v1, v2, v3]) hd hl1 hv1 hi rfl hs hk hk2 hM (fun rv n2 t2 I2 R2 hq => by
    obtain ⟨rfl, h⟩ := hq
    exact h)
theorem wp_V3vA {q a : Nat} (hd : decode cc pc = .ok (.invokevirtual idx, 3)) (hl1 : Cond.methodLink y.cls idx y2 ∈ lw_w) (hv1 : Cond.instanceMethod y2 ∈ lw_w) (hv2 : Cond.selects y2.cls y2 y2 ∈ lw_w) (hi : eMi y2 cc2 nL2 ret2 3) (hs : (S.map Value.category).sum ≤ 8) (hk : kc + K2 ≤ K) (hk2 : ks + N2 ≤ N) (ht : (t a).1 = q) (hq : q < 9) (hq2 : (eCl q).1 = y2.cls) (hM : MC y2 cc2 nL2 ret2 d K2 N2 (.ref a :: [v1, v2, v3]) n t I R (qV (fun n t I R => wp y cc nL ret (d + 1) K N Q (kc + K2) (ks + N2) (pc + 3) L (S) n t I R))) : wp y cc nL ret (d + 1) K N Q kc ks pc L (v3 :: v2 :: v1 :: .ref a :: S) n t I R :=
  wp_callV (K2 := K2) (N2 := N2) (As := [v1, v2, v3]) hd hl1 hv1 hv2 hi rfl hs hk hk2 ht hq hq2 hM (fun rv n2 t2 I2 R2 hq => by
    obtain ⟨rfl, h⟩ := hq
    exact h)
theorem wp_S3vA (hd : decode cc pc = .ok (.invokestatic idx, 3)) (hl1 : Cond.methodLink y.cls idx y2 ∈ lw_w) (hv1 : Cond.static y2 ∈ lw_w) (hi : eMi y2 cc2 nL2 ret2 3) (hs : (S.map Value.category).sum ≤ 8) (hk : kc + K2 ≤ K) (hk2 : ks + N2 ≤ N) (hM : MC y2 cc2 nL2 ret2 d K2 N2 [v1, v2, v3] n t I R (qV (fun n t I R => wp y cc nL ret (d + 1) K N Q (kc + K2) (ks + N2) (pc + 3) L (S) n t I R))) : wp y cc nL ret (d + 1) K N Q kc ks pc L (v3 :: v2 :: v1 :: S) n t I R :=
  wp_callS (K2 := K2) (N2 := N2) (As := [v1, v2, v3]) hd hl1 hv1 hi rfl hs hk hk2 hM (fun rv n2 t2 I2 R2 hq => by
    obtain ⟨rfl, h⟩ := hq
    exact h)
theorem wp_V4i {q a : Nat} (hd : decode cc pc = .ok (.invokevirtual idx, 3)) (hl1 : Cond.methodLink y.cls idx y2 ∈ lw_w) (hv1 : Cond.instanceMethod y2 ∈ lw_w) (hv2 : Cond.selects y2.cls y2 y2 ∈ lw_w) (hi : eMi y2 cc2 nL2 ret2 4) (hs : (S.map Value.category).sum ≤ 8) (hk : kc ≤ K) (hk2 : ks ≤ N) (ht : (t a).1 = q) (hq : q < 9) (hq2 : (eCl q).1 = y2.cls) (hM : MC y2 cc2 nL2 ret2 d 0 0 (.ref a :: [v1, v2, v3, v4]) n t I R (qI (fun r n t I R => wp y cc nL ret (d + 1) K N Q kc ks (pc + 3) L (.int r :: S) n t I R))) : wp y cc nL ret (d + 1) K N Q kc ks pc L (v4 :: v3 :: v2 :: v1 :: .ref a :: S) n t I R :=
  wp_callV (K2 := 0) (N2 := 0) (As := [v1, v2, v3, v4]) hd hl1 hv1 hv2 hi rfl hs hk hk2 ht hq hq2 hM (fun rv n2 t2 I2 R2 hq => by
    obtain ⟨r, rfl, h⟩ := hq
    exact h)
theorem wp_S4i (hd : decode cc pc = .ok (.invokestatic idx, 3)) (hl1 : Cond.methodLink y.cls idx y2 ∈ lw_w) (hv1 : Cond.static y2 ∈ lw_w) (hi : eMi y2 cc2 nL2 ret2 4) (hs : (S.map Value.category).sum ≤ 8) (hk : kc ≤ K) (hk2 : ks ≤ N) (hM : MC y2 cc2 nL2 ret2 d 0 0 [v1, v2, v3, v4] n t I R (qI (fun r n t I R => wp y cc nL ret (d + 1) K N Q kc ks (pc + 3) L (.int r :: S) n t I R))) : wp y cc nL ret (d + 1) K N Q kc ks pc L (v4 :: v3 :: v2 :: v1 :: S) n t I R :=
  wp_callS (K2 := 0) (N2 := 0) (As := [v1, v2, v3, v4]) hd hl1 hv1 hi rfl hs hk hk2 hM (fun rv n2 t2 I2 R2 hq => by
    obtain ⟨r, rfl, h⟩ := hq
    exact h)
theorem wp_V4iA {q a : Nat} (hd : decode cc pc = .ok (.invokevirtual idx, 3)) (hl1 : Cond.methodLink y.cls idx y2 ∈ lw_w) (hv1 : Cond.instanceMethod y2 ∈ lw_w) (hv2 : Cond.selects y2.cls y2 y2 ∈ lw_w) (hi : eMi y2 cc2 nL2 ret2 4) (hs : (S.map Value.category).sum ≤ 8) (hk : kc + K2 ≤ K) (hk2 : ks + N2 ≤ N) (ht : (t a).1 = q) (hq : q < 9) (hq2 : (eCl q).1 = y2.cls) (hM : MC y2 cc2 nL2 ret2 d K2 N2 (.ref a :: [v1, v2, v3, v4]) n t I R (qI (fun r n t I R => wp y cc nL ret (d + 1) K N Q (kc + K2) (ks + N2) (pc + 3) L (.int r :: S) n t I R))) : wp y cc nL ret (d + 1) K N Q kc ks pc L (v4 :: v3 :: v2 :: v1 :: .ref a :: S) n t I R :=
  wp_callV (K2 := K2) (N2 := N2) (As := [v1, v2, v3, v4]) hd hl1 hv1 hv2 hi rfl hs hk hk2 ht hq hq2 hM (fun rv n2 t2 I2 R2 hq => by
    obtain ⟨r, rfl, h⟩ := hq
    exact h)
theorem wp_S4iA (hd : decode cc pc = .ok (.invokestatic idx, 3)) (hl1 : Cond.methodLink y.cls idx y2 ∈ lw_w) (hv1 : Cond.static y2 ∈ lw_w) (hi : eMi y2 cc2 nL2 ret2 4) (hs : (S.map Value.category).sum ≤ 8) (hk : kc + K2 ≤ K) (hk2 : ks + N2 ≤ N) (hM : MC y2 cc2 nL2 ret2 d K2 N2 [v1, v2, v3, v4] n t I R (qI (fun r n t I R => wp y cc nL ret (d + 1) K N Q (kc + K2) (ks + N2) (pc + 3) L (.int r :: S) n t I R))) : wp y cc nL ret (d + 1) K N Q kc ks pc L (v4 :: v3 :: v2 :: v1 :: S) n t I R :=
  wp_callS (K2 := K2) (N2 := N2) (As := [v1, v2, v3, v4]) hd hl1 hv1 hi rfl hs hk hk2 hM (fun rv n2 t2 I2 R2 hq => by
    obtain ⟨r, rfl, h⟩ := hq
    exact h)
theorem wp_V4l {q a : Nat} (hd : decode cc pc = .ok (.invokevirtual idx, 3)) (hl1 : Cond.methodLink y.cls idx y2 ∈ lw_w) (hv1 : Cond.instanceMethod y2 ∈ lw_w) (hv2 : Cond.selects y2.cls y2 y2 ∈ lw_w) (hi : eMi y2 cc2 nL2 ret2 4) (hs : (S.map Value.category).sum ≤ 8) (hk : kc ≤ K) (hk2 : ks ≤ N) (ht : (t a).1 = q) (hq : q < 9) (hq2 : (eCl q).1 = y2.cls) (hM : MC y2 cc2 nL2 ret2 d 0 0 (.ref a :: [v1, v2, v3, v4]) n t I R (qL (fun r n t I R => wp y cc nL ret (d + 1) K N Q kc ks (pc + 3) L (.long r :: S) n t I R))) : wp y cc nL ret (d + 1) K N Q kc ks pc L (v4 :: v3 :: v2 :: v1 :: .ref a :: S) n t I R :=
  wp_callV (K2 := 0) (N2 := 0) (As := [v1, v2, v3, v4]) hd hl1 hv1 hv2 hi rfl hs hk hk2 ht hq hq2 hM (fun rv n2 t2 I2 R2 hq => by
    obtain ⟨r, rfl, h⟩ := hq
    exact h)
theorem wp_S4l (hd : decode cc pc = .ok (.invokestatic idx, 3)) (hl1 : Cond.methodLink y.cls idx y2 ∈ lw_w) (hv1 : Cond.static y2 ∈ lw_w) (hi : eMi y2 cc2 nL2 ret2 4) (hs : (S.map Value.category).sum ≤ 8) (hk : kc ≤ K) (hk2 : ks ≤ N) (hM : MC y2 cc2 nL2 ret2 d 0 0 [v1, v2, v3, v4] n t I R (qL (fun r n t I R => wp y cc nL ret (d + 1) K N Q kc ks (pc + 3) L (.long r :: S) n t I R))) : wp y cc nL ret (d + 1) K N Q kc ks pc L (v4 :: v3 :: v2 :: v1 :: S) n t I R :=
  wp_callS (K2 := 0) (N2 := 0) (As := [v1, v2, v3, v4]) hd hl1 hv1 hi rfl hs hk hk2 hM (fun rv n2 t2 I2 R2 hq => by
    obtain ⟨r, rfl, h⟩ := hq
    exact h)
theorem wp_V4lA {q a : Nat} (hd : decode cc pc = .ok (.invokevirtual idx, 3)) (hl1 : Cond.methodLink y.cls idx y2 ∈ lw_w) (hv1 : Cond.instanceMethod y2 ∈ lw_w) (hv2 : Cond.selects y2.cls y2 y2 ∈ lw_w) (hi : eMi y2 cc2 nL2 ret2 4) (hs : (S.map Value.category).sum ≤ 8) (hk : kc + K2 ≤ K) (hk2 : ks + N2 ≤ N) (ht : (t a).1 = q) (hq : q < 9) (hq2 : (eCl q).1 = y2.cls) (hM : MC y2 cc2 nL2 ret2 d K2 N2 (.ref a :: [v1, v2, v3, v4]) n t I R (qL (fun r n t I R => wp y cc nL ret (d + 1) K N Q (kc + K2) (ks + N2) (pc + 3) L (.long r :: S) n t I R))) : wp y cc nL ret (d + 1) K N Q kc ks pc L (v4 :: v3 :: v2 :: v1 :: .ref a :: S) n t I R :=
  wp_callV (K2 := K2) (N2 := N2) (As := [v1, v2, v3, v4]) hd hl1 hv1 hv2 hi rfl hs hk hk2 ht hq hq2 hM (fun rv n2 t2 I2 R2 hq => by
    obtain ⟨r, rfl, h⟩ := hq
    exact h)
theorem wp_S4lA (hd : decode cc pc = .ok (.invokestatic idx, 3)) (hl1 : Cond.methodLink y.cls idx y2 ∈ lw_w) (hv1 : Cond.static y2 ∈ lw_w) (hi : eMi y2 cc2 nL2 ret2 4) (hs : (S.map Value.category).sum ≤ 8) (hk : kc + K2 ≤ K) (hk2 : ks + N2 ≤ N) (hM : MC y2 cc2 nL2 ret2 d K2 N2 [v1, v2, v3, v4] n t I R (qL (fun r n t I R => wp y cc nL ret (d + 1) K N Q (kc + K2) (ks + N2) (pc + 3) L (.long r :: S) n t I R))) : wp y cc nL ret (d + 1) K N Q kc ks pc L (v4 :: v3 :: v2 :: v1 :: S) n t I R :=
  wp_callS (K2 := K2) (N2 := N2) (As := [v1, v2, v3, v4]) hd hl1 hv1 hi rfl hs hk hk2 hM (fun rv n2 t2 I2 R2 hq => by
    obtain ⟨r, rfl, h⟩ := hq
    exact h)
theorem wp_V4v {q a : Nat} (hd : decode cc pc = .ok (.invokevirtual idx, 3)) (hl1 : Cond.methodLink y.cls idx y2 ∈ lw_w) (hv1 : Cond.instanceMethod y2 ∈ lw_w) (hv2 : Cond.selects y2.cls y2 y2 ∈ lw_w) (hi : eMi y2 cc2 nL2 ret2 4) (hs : (S.map Value.category).sum ≤ 8) (hk : kc ≤ K) (hk2 : ks ≤ N) (ht : (t a).1 = q) (hq : q < 9) (hq2 : (eCl q).1 = y2.cls) (hM : MC y2 cc2 nL2 ret2 d 0 0 (.ref a :: [v1, v2, v3, v4]) n t I R (qV (fun n t I R => wp y cc nL ret (d + 1) K N Q kc ks (pc + 3) L (S) n t I R))) : wp y cc nL ret (d + 1) K N Q kc ks pc L (v4 :: v3 :: v2 :: v1 :: .ref a :: S) n t I R :=
  wp_callV (K2 := 0) (N2 := 0) (As := [v1, v2, v3, v4]) hd hl1 hv1 hv2 hi rfl hs hk hk2 ht hq hq2 hM (fun rv n2 t2 I2 R2 hq => by
    obtain ⟨rfl, h⟩ := hq
    exact h)
theorem wp_S4v (hd : decode cc pc = .ok (.invokestatic idx, 3)) (hl1 : Cond.methodLink y.cls idx y2 ∈ lw_w) (hv1 : Cond.static y2 ∈ lw_w) (hi : eMi y2 cc2 nL2 ret2 4) (hs : (S.map Value.category).sum ≤ 8) (hk : kc ≤ K) (hk2 : ks ≤ N) (hM : MC y2 cc2 nL2 ret2 d 0 0 [v1, v2, v3, v4] n t I R (qV (fun n t I R => wp y cc nL ret (d + 1) K N Q kc ks (pc + 3) L (S) n t I R))) : wp y cc nL ret (d + 1) K N Q kc ks pc L (v4 :: v3 :: v2 :: v1 :: S) n t I R :=
  wp_callS (K2 := 0) (N2 := 0) (As := [v1, v2, v3, v4]) hd hl1 hv1 hi rfl hs hk hk2 hM (fun rv n2 t2 I2 R2 hq => by
    obtain ⟨rfl, h⟩ := hq
    exact h)
theorem wp_V4vA {q a : Nat} (hd : decode cc pc = .ok (.invokevirtual idx, 3)) (hl1 : Cond.methodLink y.cls idx y2 ∈ lw_w) (hv1 : Cond.instanceMethod y2 ∈ lw_w) (hv2 : Cond.selects y2.cls y2 y2 ∈ lw_w) (hi : eMi y2 cc2 nL2 ret2 4) (hs : (S.map Value.category).sum ≤ 8) (hk : kc + K2 ≤ K) (hk2 : ks + N2 ≤ N) (ht : (t a).1 = q) (hq : q < 9) (hq2 : (eCl q).1 = y2.cls) (hM : MC y2 cc2 nL2 ret2 d K2 N2 (.ref a :: [v1, v2, v3, v4]) n t I R (qV (fun n t I R => wp y cc nL ret (d + 1) K N Q (kc + K2) (ks + N2) (pc + 3) L (S) n t I R))) : wp y cc nL ret (d + 1) K N Q kc ks pc L (v4 :: v3 :: v2 :: v1 :: .ref a :: S) n t I R :=
  wp_callV (K2 := K2) (N2 := N2) (As := [v1, v2, v3, v4]) hd hl1 hv1 hv2 hi rfl hs hk hk2 ht hq hq2 hM (fun rv n2 t2 I2 R2 hq => by
    obtain ⟨rfl, h⟩ := hq
    exact h)
theorem wp_S4vA (hd : decode cc pc = .ok (.invokestatic idx, 3)) (hl1 : Cond.methodLink y.cls idx y2 ∈ lw_w) (hv1 : Cond.static y2 ∈ lw_w) (hi : eMi y2 cc2 nL2 ret2 4) (hs : (S.map Value.category).sum ≤ 8) (hk : kc + K2 ≤ K) (hk2 : ks + N2 ≤ N) (hM : MC y2 cc2 nL2 ret2 d K2 N2 [v1, v2, v3, v4] n t I R (qV (fun n t I R => wp y cc nL ret (d + 1) K N Q (kc + K2) (ks + N2) (pc + 3) L (S) n t I R))) : wp y cc nL ret (d + 1) K N Q kc ks pc L (v4 :: v3 :: v2 :: v1 :: S) n t I R :=
  wp_callS (K2 := K2) (N2 := N2) (As := [v1, v2, v3, v4]) hd hl1 hv1 hi rfl hs hk hk2 hM (fun rv n2 t2 I2 R2 hq => by
    obtain ⟨rfl, h⟩ := hq
    exact h)
theorem wp_V5i {q a : Nat} (hd : decode cc pc = .ok (.invokevirtual idx, 3)) (hl1 : Cond.methodLink y.cls idx y2 ∈ lw_w) (hv1 : Cond.instanceMethod y2 ∈ lw_w) (hv2 : Cond.selects y2.cls y2 y2 ∈ lw_w) (hi : eMi y2 cc2 nL2 ret2 5) (hs : (S.map Value.category).sum ≤ 8) (hk : kc ≤ K) (hk2 : ks ≤ N) (ht : (t a).1 = q) (hq : q < 9) (hq2 : (eCl q).1 = y2.cls) (hM : MC y2 cc2 nL2 ret2 d 0 0 (.ref a :: [v1, v2, v3, v4, v5]) n t I R (qI (fun r n t I R => wp y cc nL ret (d + 1) K N Q kc ks (pc + 3) L (.int r :: S) n t I R))) : wp y cc nL ret (d + 1) K N Q kc ks pc L (v5 :: v4 :: v3 :: v2 :: v1 :: .ref a :: S) n t I R :=
  wp_callV (K2 := 0) (N2 := 0) (As := [v1, v2, v3, v4, v5]) hd hl1 hv1 hv2 hi rfl hs hk hk2 ht hq hq2 hM (fun rv n2 t2 I2 R2 hq => by
    obtain ⟨r, rfl, h⟩ := hq
    exact h)
theorem wp_S5i (hd : decode cc pc = .ok (.invokestatic idx, 3)) (hl1 : Cond.methodLink y.cls idx y2 ∈ lw_w) (hv1 : Cond.static y2 ∈ lw_w) (hi : eMi y2 cc2 nL2 ret2 5) (hs : (S.map Value.category).sum ≤ 8) (hk : kc ≤ K) (hk2 : ks ≤ N) (hM : MC y2 cc2 nL2 ret2 d 0 0 [v1, v2, v3, v4, v5] n t I R (qI (fun r n t I R => wp y cc nL ret (d + 1) K N Q kc ks (pc + 3) L (.int r :: S) n t I R))) : wp y cc nL ret (d + 1) K N Q kc ks pc L (v5 :: v4 :: v3 :: v2 :: v1 :: S) n t I R :=
  wp_callS (K2 := 0) (N2 := 0) (As := [v1, v2, v3, v4, v5]) hd hl1 hv1 hi rfl hs hk hk2 hM (fun rv n2 t2 I2 R2 hq => by
    obtain ⟨r, rfl, h⟩ := hq
    exact h)
theorem wp_V5iA {q a : Nat} (hd : decode cc pc = .ok (.invokevirtual idx, 3)) (hl1 : Cond.methodLink y.cls idx y2 ∈ lw_w) (hv1 : Cond.instanceMethod y2 ∈ lw_w) (hv2 : Cond.selects y2.cls y2 y2 ∈ lw_w) (hi : eMi y2 cc2 nL2 ret2 5) (hs : (S.map Value.category).sum ≤ 8) (hk : kc + K2 ≤ K) (hk2 : ks + N2 ≤ N) (ht : (t a).1 = q) (hq : q < 9) (hq2 : (eCl q).1 = y2.cls) (hM : MC y2 cc2 nL2 ret2 d K2 N2 (.ref a :: [v1, v2, v3, v4, v5]) n t I R (qI (fun r n t I R => wp y cc nL ret (d + 1) K N Q (kc + K2) (ks + N2) (pc + 3) L (.int r :: S) n t I R))) : wp y cc nL ret (d + 1) K N Q kc ks pc L (v5 :: v4 :: v3 :: v2 :: v1 :: .ref a :: S) n t I R :=
  wp_callV (K2 := K2) (N2 := N2) (As := [v1, v2, v3, v4, v5]) hd hl1 hv1 hv2 hi rfl hs hk hk2 ht hq hq2 hM (fun rv n2 t2 I2 R2 hq => by
    obtain ⟨r, rfl, h⟩ := hq
    exact h)
theorem wp_S5iA (hd : decode cc pc = .ok (.invokestatic idx, 3)) (hl1 : Cond.methodLink y.cls idx y2 ∈ lw_w) (hv1 : Cond.static y2 ∈ lw_w) (hi : eMi y2 cc2 nL2 ret2 5) (hs : (S.map Value.category).sum ≤ 8) (hk : kc + K2 ≤ K) (hk2 : ks + N2 ≤ N) (hM : MC y2 cc2 nL2 ret2 d K2 N2 [v1, v2, v3, v4, v5] n t I R (qI (fun r n t I R => wp y cc nL ret (d + 1) K N Q (kc + K2) (ks + N2) (pc + 3) L (.int r :: S) n t I R))) : wp y cc nL ret (d + 1) K N Q kc ks pc L (v5 :: v4 :: v3 :: v2 :: v1 :: S) n t I R :=
  wp_callS (K2 := K2) (N2 := N2) (As := [v1, v2, v3, v4, v5]) hd hl1 hv1 hi rfl hs hk hk2 hM (fun rv n2 t2 I2 R2 hq => by
    obtain ⟨r, rfl, h⟩ := hq
    exact h)
theorem wp_V5l {q a : Nat} (hd : decode cc pc = .ok (.invokevirtual idx, 3)) (hl1 : Cond.methodLink y.cls idx y2 ∈ lw_w) (hv1 : Cond.instanceMethod y2 ∈ lw_w) (hv2 : Cond.selects y2.cls y2 y2 ∈ lw_w) (hi : eMi y2 cc2 nL2 ret2 5) (hs : (S.map Value.category).sum ≤ 8) (hk : kc ≤ K) (hk2 : ks ≤ N) (ht : (t a).1 = q) (hq : q < 9) (hq2 : (eCl q).1 = y2.cls) (hM : MC y2 cc2 nL2 ret2 d 0 0 (.ref a :: [v1, v2, v3, v4, v5]) n t I R (qL (fun r n t I R => wp y cc nL ret (d + 1) K N Q kc ks (pc + 3) L (.long r :: S) n t I R))) : wp y cc nL ret (d + 1) K N Q kc ks pc L (v5 :: v4 :: v3 :: v2 :: v1 :: .ref a :: S) n t I R :=
  wp_callV (K2 := 0) (N2 := 0) (As := [v1, v2, v3, v4, v5]) hd hl1 hv1 hv2 hi rfl hs hk hk2 ht hq hq2 hM (fun rv n2 t2 I2 R2 hq => by
    obtain ⟨r, rfl, h⟩ := hq
    exact h)
theorem wp_S5l (hd : decode cc pc = .ok (.invokestatic idx, 3)) (hl1 : Cond.methodLink y.cls idx y2 ∈ lw_w) (hv1 : Cond.static y2 ∈ lw_w) (hi : eMi y2 cc2 nL2 ret2 5) (hs : (S.map Value.category).sum ≤ 8) (hk : kc ≤ K) (hk2 : ks ≤ N) (hM : MC y2 cc2 nL2 ret2 d 0 0 [v1, v2, v3, v4, v5] n t I R (qL (fun r n t I R => wp y cc nL ret (d + 1) K N Q kc ks (pc + 3) L (.long r :: S) n t I R))) : wp y cc nL ret (d + 1) K N Q kc ks pc L (v5 :: v4 :: v3 :: v2 :: v1 :: S) n t I R :=
  wp_callS (K2 := 0) (N2 := 0) (As := [v1, v2, v3, v4, v5]) hd hl1 hv1 hi rfl hs hk hk2 hM (fun rv n2 t2 I2 R2 hq => by
    obtain ⟨r, rfl, h⟩ := hq
    exact h)
theorem wp_V5lA {q a : Nat} (hd : decode cc pc = .ok (.invokevirtual idx, 3)) (hl1 : Cond.methodLink y.cls idx y2 ∈ lw_w) (hv1 : Cond.instanceMethod y2 ∈ lw_w) (hv2 : Cond.selects y2.cls y2 y2 ∈ lw_w) (hi : eMi y2 cc2 nL2 ret2 5) (hs : (S.map Value.category).sum ≤ 8) (hk : kc + K2 ≤ K) (hk2 : ks + N2 ≤ N) (ht : (t a).1 = q) (hq : q < 9) (hq2 : (eCl q).1 = y2.cls) (hM : MC y2 cc2 nL2 ret2 d K2 N2 (.ref a :: [v1, v2, v3, v4, v5]) n t I R (qL (fun r n t I R => wp y cc nL ret (d + 1) K N Q (kc + K2) (ks + N2) (pc + 3) L (.long r :: S) n t I R))) : wp y cc nL ret (d + 1) K N Q kc ks pc L (v5 :: v4 :: v3 :: v2 :: v1 :: .ref a :: S) n t I R :=
  wp_callV (K2 := K2) (N2 := N2) (As := [v1, v2, v3, v4, v5]) hd hl1 hv1 hv2 hi rfl hs hk hk2 ht hq hq2 hM (fun rv n2 t2 I2 R2 hq => by
    obtain ⟨r, rfl, h⟩ := hq
    exact h)
theorem wp_S5lA (hd : decode cc pc = .ok (.invokestatic idx, 3)) (hl1 : Cond.methodLink y.cls idx y2 ∈ lw_w) (hv1 : Cond.static y2 ∈ lw_w) (hi : eMi y2 cc2 nL2 ret2 5) (hs : (S.map Value.category).sum ≤ 8) (hk : kc + K2 ≤ K) (hk2 : ks + N2 ≤ N) (hM : MC y2 cc2 nL2 ret2 d K2 N2 [v1, v2, v3, v4, v5] n t I R (qL (fun r n t I R => wp y cc nL ret (d + 1) K N Q (kc + K2) (ks + N2) (pc + 3) L (.long r :: S) n t I R))) : wp y cc nL ret (d + 1) K N Q kc ks pc L (v5 :: v4 :: v3 :: v2 :: v1 :: S) n t I R :=
  wp_callS (K2 := K2) (N2 := N2) (As := [v1, v2, v3, v4, v5]) hd hl1 hv1 hi rfl hs hk hk2 hM (fun rv n2 t2 I2 R2 hq => by
    obtain ⟨r, rfl, h⟩ := hq
    exact h)
theorem wp_V5v {q a : Nat} (hd : decode cc pc = .ok (.invokevirtual idx, 3)) (hl1 : Cond.methodLink y.cls idx y2 ∈ lw_w) (hv1 : Cond.instanceMethod y2 ∈ lw_w) (hv2 : Cond.selects y2.cls y2 y2 ∈ lw_w) (hi : eMi y2 cc2 nL2 ret2 5) (hs : (S.map Value.category).sum ≤ 8) (hk : kc ≤ K) (hk2 : ks ≤ N) (ht : (t a).1 = q) (hq : q < 9) (hq2 : (eCl q).1 = y2.cls) (hM : MC y2 cc2 nL2 ret2 d 0 0 (.ref a :: [v1, v2, v3, v4, v5]) n t I R (qV (fun n t I R => wp y cc nL ret (d + 1) K N Q kc ks (pc + 3) L (S) n t I R))) : wp y cc nL ret (d + 1) K N Q kc ks pc L (v5 :: v4 :: v3 :: v2 :: v1 :: .ref a :: S) n t I R :=
  wp_callV (K2 := 0) (N2 := 0) (As := [v1, v2, v3, v4, v5]) hd hl1 hv1 hv2 hi rfl hs hk hk2 ht hq hq2 hM (fun rv n2 t2 I2 R2 hq => by
    obtain ⟨rfl, h⟩ := hq
    exact h)
theorem wp_S5v (hd : decode cc pc = .ok (.invokestatic idx, 3)) (hl1 : Cond.methodLink y.cls idx y2 ∈ lw_w) (hv1 : Cond.static y2 ∈ lw_w) (hi : eMi y2 cc2 nL2 ret2 5) (hs : (S.map Value.category).sum ≤ 8) (hk : kc ≤ K) (hk2 : ks ≤ N) (hM : MC y2 cc2 nL2 ret2 d 0 0 [v1, v2, v3, v4, v5] n t I R (qV (fun n t I R => wp y cc nL ret (d + 1) K N Q kc ks (pc + 3) L (S) n t I R))) : wp y cc nL ret (d + 1) K N Q kc ks pc L (v5 :: v4 :: v3 :: v2 :: v1 :: S) n t I R :=
  wp_callS (K2 := 0) (N2 := 0) (As := [v1, v2, v3, v4, v5]) hd hl1 hv1 hi rfl hs hk hk2 hM (fun rv n2 t2 I2 R2 hq => by
    obtain ⟨rfl, h⟩ := hq
    exact h)
theorem wp_V5vA {q a : Nat} (hd : decode cc pc = .ok (.invokevirtual idx, 3)) (hl1 : Cond.methodLink y.cls idx y2 ∈ lw_w) (hv1 : Cond.instanceMethod y2 ∈ lw_w) (hv2 : Cond.selects y2.cls y2 y2 ∈ lw_w) (hi : eMi y2 cc2 nL2 ret2 5) (hs : (S.map Value.category).sum ≤ 8) (hk : kc + K2 ≤ K) (hk2 : ks + N2 ≤ N) (ht : (t a).1 = q) (hq : q < 9) (hq2 : (eCl q).1 = y2.cls) (hM : MC y2 cc2 nL2 ret2 d K2 N2 (.ref a :: [v1, v2, v3, v4, v5]) n t I R (qV (fun n t I R => wp y cc nL ret (d + 1) K N Q (kc + K2) (ks + N2) (pc + 3) L (S) n t I R))) : wp y cc nL ret (d + 1) K N Q kc ks pc L (v5 :: v4 :: v3 :: v2 :: v1 :: .ref a :: S) n t I R :=
  wp_callV (K2 := K2) (N2 := N2) (As := [v1, v2, v3, v4, v5]) hd hl1 hv1 hv2 hi rfl hs hk hk2 ht hq hq2 hM (fun rv n2 t2 I2 R2 hq => by
    obtain ⟨rfl, h⟩ := hq
    exact h)
theorem wp_S5vA (hd : decode cc pc = .ok (.invokestatic idx, 3)) (hl1 : Cond.methodLink y.cls idx y2 ∈ lw_w) (hv1 : Cond.static y2 ∈ lw_w) (hi : eMi y2 cc2 nL2 ret2 5) (hs : (S.map Value.category).sum ≤ 8) (hk : kc + K2 ≤ K) (hk2 : ks + N2 ≤ N) (hM : MC y2 cc2 nL2 ret2 d K2 N2 [v1, v2, v3, v4, v5] n t I R (qV (fun n t I R => wp y cc nL ret (d + 1) K N Q (kc + K2) (ks + N2) (pc + 3) L (S) n t I R))) : wp y cc nL ret (d + 1) K N Q kc ks pc L (v5 :: v4 :: v3 :: v2 :: v1 :: S) n t I R :=
  wp_callS (K2 := K2) (N2 := N2) (As := [v1, v2, v3, v4, v5]) hd hl1 hv1 hi rfl hs hk hk2 hM (fun rv n2 t2 I2 R2 hq => by
    obtain ⟨rfl, h⟩ := hq
    exact h)
theorem wp_retI {QI : Int32 → Nat → eT → eI → eR → Prop} {v : Int32} (hd : decode cc pc = .ok (.ireturn, 1)) (hr : ret = some .int) (hk : kc ≤ K) (hk2 : ks ≤ N) (hq : QI v n t I R) : wp y cc nL ret d K N (qI QI) kc ks pc L [.int v] n t I R := wp_ireturn hd hr hk hk2 ⟨v, rfl, hq⟩
theorem wp_retZ {QI : Int32 → Nat → eT → eI → eR → Prop} {v : Int32} (hd : decode cc pc = .ok (.ireturn, 1)) (hr : ret = some .boolean) (hn : narrow .boolean (.int v) = .int v) (hk : kc ≤ K) (hk2 : ks ≤ N) (hq : QI v n t I R) : wp y cc nL ret d K N (qI QI) kc ks pc L [.int v] n t I R := wp_zreturn hd hr hn hk hk2 ⟨v, rfl, hq⟩
theorem wp_retL {QL : Int64 → Nat → eT → eI → eR → Prop} {v : Int64} (hd : decode cc pc = .ok (.lreturn, 1)) (hr : ret = some .long) (hk : kc ≤ K) (hk2 : ks ≤ N) (hq : QL v n t I R) : wp y cc nL ret d K N (qL QL) kc ks pc L [.long v] n t I R := wp_lreturn hd hr hk hk2 ⟨v, rfl, hq⟩
theorem wp_retV {QV : Nat → eT → eI → eR → Prop} (hd : decode cc pc = .ok (.return_, 1)) (hr : ret = none) (hk : kc ≤ K) (hk2 : ks ≤ N) (hq : QV n t I R) : wp y cc nL ret d K N (qV QV) kc ks pc L [] n t I R := wp_vreturn hd hr hk hk2 ⟨rfl, hq⟩
theorem wp_if_eq0 {off : Int} {tgt : Nat} (hd : decode cc pc = .ok (.ifCond .eq off, 3)) (ht : (pc : Int) + off = (tgt : Int)) (k : wp y cc nL ret d K N Q kc ks tgt L (S) n t I R) : wp y cc nL ret d K N Q kc ks pc L (.int 0 :: S) n t I R := wp_if_eq hd ht (fun _ => k) (fun q => absurd q (by decide))
theorem wp_if_eq1 {off : Int} {tgt : Nat} (hd : decode cc pc = .ok (.ifCond .eq off, 3)) (ht : (pc : Int) + off = (tgt : Int)) (k : wp y cc nL ret d K N Q kc ks (pc + 3) L (S) n t I R) : wp y cc nL ret d K N Q kc ks pc L (.int 1 :: S) n t I R := wp_if_eq hd ht (fun q => absurd q (by decide)) (fun _ => k)
theorem wp_if_ne1 {off : Int} {tgt : Nat} (hd : decode cc pc = .ok (.ifCond .ne off, 3)) (ht : (pc : Int) + off = (tgt : Int)) (k : wp y cc nL ret d K N Q kc ks tgt L (S) n t I R) : wp y cc nL ret d K N Q kc ks pc L (.int 1 :: S) n t I R := wp_if_ne hd ht (fun _ => k) (fun q => absurd q (by decide))
theorem wp_if_ne0 {off : Int} {tgt : Nat} (hd : decode cc pc = .ok (.ifCond .ne off, 3)) (ht : (pc : Int) + off = (tgt : Int)) (k : wp y cc nL ret d K N Q kc ks (pc + 3) L (S) n t I R) : wp y cc nL ret d K N Q kc ks pc L (.int 0 :: S) n t I R := wp_if_ne hd ht (fun q => absurd q (by decide)) (fun _ => k)
theorem wp_istore_1_0 {x0 : Value} {v : Int32} (hd : decode cc pc = .ok (.istore_n 0, 1)) (hs : sec x0 = false) (k : wp y cc 1 ret d K N Q kc ks (pc + 1) [.int v] S n t I R) : wp y cc 1 ret d K N Q kc ks pc [x0] (.int v :: S) n t I R := wp_istore_n hd rfl rfl hs k
theorem wp_astore_2_1 {x0 x1 : Value} {v : Nat} (hd : decode cc pc = .ok (.astore_n 1, 1)) (hs : sec x1 = false) (k : wp y cc 2 ret d K N Q kc ks (pc + 1) [x0, .ref v] S n t I R) : wp y cc 2 ret d K N Q kc ks pc [x0, x1] (.ref v :: S) n t I R := wp_astore_n hd rfl rfl hs k
theorem wp_astoreN_2_1 {x0 x1 : Value} (hd : decode cc pc = .ok (.astore_n 1, 1)) (hs : sec x1 = false) (k : wp y cc 2 ret d K N Q kc ks (pc + 1) [x0, .null] S n t I R) : wp y cc 2 ret d K N Q kc ks pc [x0, x1] (.null :: S) n t I R := wp_astore_nN hd rfl rfl hs k
theorem wp_iinc_2_1 {x0 : Value} {j : Int} {x v : Int32} (hd : decode cc pc = .ok (.iinc 1 j, 3)) (hv : x + Int32.ofInt j = v) (k : wp y cc 2 ret d K N Q kc ks (pc + 3) [x0, .int v] S n t I R) : wp y cc 2 ret d K N Q kc ks pc [x0, .int x] S n t I R := wp_iinc hd rfl hv k
theorem wp_istore_2_1 {x0 x1 : Value} {v : Int32} (hd : decode cc pc = .ok (.istore_n 1, 1)) (hs : sec x1 = false) (k : wp y cc 2 ret d K N Q kc ks (pc + 1) [x0, .int v] S n t I R) : wp y cc 2 ret d K N Q kc ks pc [x0, x1] (.int v :: S) n t I R := wp_istore_n hd rfl rfl hs k
theorem wp_istore_3_1 {x0 x1 x2 : Value} {v : Int32} (hd : decode cc pc = .ok (.istore_n 1, 1)) (hs : sec x1 = false) (k : wp y cc 3 ret d K N Q kc ks (pc + 1) [x0, .int v, x2] S n t I R) : wp y cc 3 ret d K N Q kc ks pc [x0, x1, x2] (.int v :: S) n t I R := wp_istore_n hd rfl rfl hs k
theorem wp_iinc_3_2 {x0 x1 : Value} {j : Int} {x v : Int32} (hd : decode cc pc = .ok (.iinc 2 j, 3)) (hv : x + Int32.ofInt j = v) (k : wp y cc 3 ret d K N Q kc ks (pc + 3) [x0, x1, .int v] S n t I R) : wp y cc 3 ret d K N Q kc ks pc [x0, x1, .int x] S n t I R := wp_iinc hd rfl hv k
theorem wp_istore_3_2 {x0 x1 x2 : Value} {v : Int32} (hd : decode cc pc = .ok (.istore_n 2, 1)) (hs : sec x2 = false) (k : wp y cc 3 ret d K N Q kc ks (pc + 1) [x0, x1, .int v] S n t I R) : wp y cc 3 ret d K N Q kc ks pc [x0, x1, x2] (.int v :: S) n t I R := wp_istore_n hd rfl rfl hs k
theorem wp_astore_4_1 {x0 x1 x2 x3 : Value} {v : Nat} (hd : decode cc pc = .ok (.astore_n 1, 1)) (hs : sec x1 = false) (k : wp y cc 4 ret d K N Q kc ks (pc + 1) [x0, .ref v, x2, x3] S n t I R) : wp y cc 4 ret d K N Q kc ks pc [x0, x1, x2, x3] (.ref v :: S) n t I R := wp_astore_n hd rfl rfl hs k
theorem wp_astoreN_4_1 {x0 x1 x2 x3 : Value} (hd : decode cc pc = .ok (.astore_n 1, 1)) (hs : sec x1 = false) (k : wp y cc 4 ret d K N Q kc ks (pc + 1) [x0, .null, x2, x3] S n t I R) : wp y cc 4 ret d K N Q kc ks pc [x0, x1, x2, x3] (.null :: S) n t I R := wp_astore_nN hd rfl rfl hs k
theorem wp_iinc_4_1 {x0 x2 x3 : Value} {j : Int} {x v : Int32} (hd : decode cc pc = .ok (.iinc 1 j, 3)) (hv : x + Int32.ofInt j = v) (k : wp y cc 4 ret d K N Q kc ks (pc + 3) [x0, .int v, x2, x3] S n t I R) : wp y cc 4 ret d K N Q kc ks pc [x0, .int x, x2, x3] S n t I R := wp_iinc hd rfl hv k
theorem wp_istore_4_1 {x0 x1 x2 x3 : Value} {v : Int32} (hd : decode cc pc = .ok (.istore_n 1, 1)) (hs : sec x1 = false) (k : wp y cc 4 ret d K N Q kc ks (pc + 1) [x0, .int v, x2, x3] S n t I R) : wp y cc 4 ret d K N Q kc ks pc [x0, x1, x2, x3] (.int v :: S) n t I R := wp_istore_n hd rfl rfl hs k
theorem wp_astore_4_2 {x0 x1 x2 x3 : Value} {v : Nat} (hd : decode cc pc = .ok (.astore_n 2, 1)) (hs : sec x2 = false) (k : wp y cc 4 ret d K N Q kc ks (pc + 1) [x0, x1, .ref v, x3] S n t I R) : wp y cc 4 ret d K N Q kc ks pc [x0, x1, x2, x3] (.ref v :: S) n t I R := wp_astore_n hd rfl rfl hs k
theorem wp_astoreN_4_2 {x0 x1 x2 x3 : Value} (hd : decode cc pc = .ok (.astore_n 2, 1)) (hs : sec x2 = false) (k : wp y cc 4 ret d K N Q kc ks (pc + 1) [x0, x1, .null, x3] S n t I R) : wp y cc 4 ret d K N Q kc ks pc [x0, x1, x2, x3] (.null :: S) n t I R := wp_astore_nN hd rfl rfl hs k
theorem wp_iinc_4_2 {x0 x1 x3 : Value} {j : Int} {x v : Int32} (hd : decode cc pc = .ok (.iinc 2 j, 3)) (hv : x + Int32.ofInt j = v) (k : wp y cc 4 ret d K N Q kc ks (pc + 3) [x0, x1, .int v, x3] S n t I R) : wp y cc 4 ret d K N Q kc ks pc [x0, x1, .int x, x3] S n t I R := wp_iinc hd rfl hv k
theorem wp_istore_4_2 {x0 x1 x2 x3 : Value} {v : Int32} (hd : decode cc pc = .ok (.istore_n 2, 1)) (hs : sec x2 = false) (k : wp y cc 4 ret d K N Q kc ks (pc + 1) [x0, x1, .int v, x3] S n t I R) : wp y cc 4 ret d K N Q kc ks pc [x0, x1, x2, x3] (.int v :: S) n t I R := wp_istore_n hd rfl rfl hs k
theorem wp_iinc_4_3 {x0 x1 x2 : Value} {j : Int} {x v : Int32} (hd : decode cc pc = .ok (.iinc 3 j, 3)) (hv : x + Int32.ofInt j = v) (k : wp y cc 4 ret d K N Q kc ks (pc + 3) [x0, x1, x2, .int v] S n t I R) : wp y cc 4 ret d K N Q kc ks pc [x0, x1, x2, .int x] S n t I R := wp_iinc hd rfl hv k
theorem wp_istore_4_3 {x0 x1 x2 x3 : Value} {v : Int32} (hd : decode cc pc = .ok (.istore_n 3, 1)) (hs : sec x3 = false) (k : wp y cc 4 ret d K N Q kc ks (pc + 1) [x0, x1, x2, .int v] S n t I R) : wp y cc 4 ret d K N Q kc ks pc [x0, x1, x2, x3] (.int v :: S) n t I R := wp_istore_n hd rfl rfl hs k
theorem wp_iinc_5_2 {x0 x1 x3 x4 : Value} {j : Int} {x v : Int32} (hd : decode cc pc = .ok (.iinc 2 j, 3)) (hv : x + Int32.ofInt j = v) (k : wp y cc 5 ret d K N Q kc ks (pc + 3) [x0, x1, .int v, x3, x4] S n t I R) : wp y cc 5 ret d K N Q kc ks pc [x0, x1, .int x, x3, x4] S n t I R := wp_iinc hd rfl hv k
theorem wp_istore_5_2 {x0 x1 x2 x3 x4 : Value} {v : Int32} (hd : decode cc pc = .ok (.istore_n 2, 1)) (hs : sec x2 = false) (k : wp y cc 5 ret d K N Q kc ks (pc + 1) [x0, x1, .int v, x3, x4] S n t I R) : wp y cc 5 ret d K N Q kc ks pc [x0, x1, x2, x3, x4] (.int v :: S) n t I R := wp_istore_n hd rfl rfl hs k
theorem wp_astore_5_3 {x0 x1 x2 x3 x4 : Value} {v : Nat} (hd : decode cc pc = .ok (.astore_n 3, 1)) (hs : sec x3 = false) (k : wp y cc 5 ret d K N Q kc ks (pc + 1) [x0, x1, x2, .ref v, x4] S n t I R) : wp y cc 5 ret d K N Q kc ks pc [x0, x1, x2, x3, x4] (.ref v :: S) n t I R := wp_astore_n hd rfl rfl hs k
theorem wp_astoreN_5_3 {x0 x1 x2 x3 x4 : Value} (hd : decode cc pc = .ok (.astore_n 3, 1)) (hs : sec x3 = false) (k : wp y cc 5 ret d K N Q kc ks (pc + 1) [x0, x1, x2, .null, x4] S n t I R) : wp y cc 5 ret d K N Q kc ks pc [x0, x1, x2, x3, x4] (.null :: S) n t I R := wp_astore_nN hd rfl rfl hs k
theorem wp_iinc_5_3 {x0 x1 x2 x4 : Value} {j : Int} {x v : Int32} (hd : decode cc pc = .ok (.iinc 3 j, 3)) (hv : x + Int32.ofInt j = v) (k : wp y cc 5 ret d K N Q kc ks (pc + 3) [x0, x1, x2, .int v, x4] S n t I R) : wp y cc 5 ret d K N Q kc ks pc [x0, x1, x2, .int x, x4] S n t I R := wp_iinc hd rfl hv k
theorem wp_istore_5_3 {x0 x1 x2 x3 x4 : Value} {v : Int32} (hd : decode cc pc = .ok (.istore_n 3, 1)) (hs : sec x3 = false) (k : wp y cc 5 ret d K N Q kc ks (pc + 1) [x0, x1, x2, .int v, x4] S n t I R) : wp y cc 5 ret d K N Q kc ks pc [x0, x1, x2, x3, x4] (.int v :: S) n t I R := wp_istore_n hd rfl rfl hs k
theorem wp_astore_5_4 {x0 x1 x2 x3 x4 : Value} {v : Nat} (hd : decode cc pc = .ok (.astore 4, 2)) (hs : sec x4 = false) (k : wp y cc 5 ret d K N Q kc ks (pc + 2) [x0, x1, x2, x3, .ref v] S n t I R) : wp y cc 5 ret d K N Q kc ks pc [x0, x1, x2, x3, x4] (.ref v :: S) n t I R := wp_astore hd rfl hs k
theorem wp_astoreN_5_4 {x0 x1 x2 x3 x4 : Value} (hd : decode cc pc = .ok (.astore 4, 2)) (hs : sec x4 = false) (k : wp y cc 5 ret d K N Q kc ks (pc + 2) [x0, x1, x2, x3, .null] S n t I R) : wp y cc 5 ret d K N Q kc ks pc [x0, x1, x2, x3, x4] (.null :: S) n t I R := wp_astoreN hd rfl hs k
theorem wp_iinc_5_4 {x0 x1 x2 x3 : Value} {j : Int} {x v : Int32} (hd : decode cc pc = .ok (.iinc 4 j, 3)) (hv : x + Int32.ofInt j = v) (k : wp y cc 5 ret d K N Q kc ks (pc + 3) [x0, x1, x2, x3, .int v] S n t I R) : wp y cc 5 ret d K N Q kc ks pc [x0, x1, x2, x3, .int x] S n t I R := wp_iinc hd rfl hv k
theorem wp_istore_5_4 {x0 x1 x2 x3 x4 : Value} {v : Int32} (hd : decode cc pc = .ok (.istore 4, 2)) (hs : sec x4 = false) (k : wp y cc 5 ret d K N Q kc ks (pc + 2) [x0, x1, x2, x3, .int v] S n t I R) : wp y cc 5 ret d K N Q kc ks pc [x0, x1, x2, x3, x4] (.int v :: S) n t I R := wp_istore hd rfl hs k
theorem wp_istore_6_2 {x0 x1 x2 x3 x4 x5 : Value} {v : Int32} (hd : decode cc pc = .ok (.istore_n 2, 1)) (hs : sec x2 = false) (k : wp y cc 6 ret d K N Q kc ks (pc + 1) [x0, x1, .int v, x3, x4, x5] S n t I R) : wp y cc 6 ret d K N Q kc ks pc [x0, x1, x2, x3, x4, x5] (.int v :: S) n t I R := wp_istore_n hd rfl rfl hs k
theorem wp_istore_6_3 {x0 x1 x2 x3 x4 x5 : Value} {v : Int32} (hd : decode cc pc = .ok (.istore_n 3, 1)) (hs : sec x3 = false) (k : wp y cc 6 ret d K N Q kc ks (pc + 1) [x0, x1, x2, .int v, x4, x5] S n t I R) : wp y cc 6 ret d K N Q kc ks pc [x0, x1, x2, x3, x4, x5] (.int v :: S) n t I R := wp_istore_n hd rfl rfl hs k
theorem wp_astore_6_4 {x0 x1 x2 x3 x4 x5 : Value} {v : Nat} (hd : decode cc pc = .ok (.astore 4, 2)) (hs : sec x4 = false) (k : wp y cc 6 ret d K N Q kc ks (pc + 2) [x0, x1, x2, x3, .ref v, x5] S n t I R) : wp y cc 6 ret d K N Q kc ks pc [x0, x1, x2, x3, x4, x5] (.ref v :: S) n t I R := wp_astore hd rfl hs k
theorem wp_astoreN_6_4 {x0 x1 x2 x3 x4 x5 : Value} (hd : decode cc pc = .ok (.astore 4, 2)) (hs : sec x4 = false) (k : wp y cc 6 ret d K N Q kc ks (pc + 2) [x0, x1, x2, x3, .null, x5] S n t I R) : wp y cc 6 ret d K N Q kc ks pc [x0, x1, x2, x3, x4, x5] (.null :: S) n t I R := wp_astoreN hd rfl hs k
theorem wp_iinc_6_4 {x0 x1 x2 x3 x5 : Value} {j : Int} {x v : Int32} (hd : decode cc pc = .ok (.iinc 4 j, 3)) (hv : x + Int32.ofInt j = v) (k : wp y cc 6 ret d K N Q kc ks (pc + 3) [x0, x1, x2, x3, .int v, x5] S n t I R) : wp y cc 6 ret d K N Q kc ks pc [x0, x1, x2, x3, .int x, x5] S n t I R := wp_iinc hd rfl hv k
theorem wp_istore_6_4 {x0 x1 x2 x3 x4 x5 : Value} {v : Int32} (hd : decode cc pc = .ok (.istore 4, 2)) (hs : sec x4 = false) (k : wp y cc 6 ret d K N Q kc ks (pc + 2) [x0, x1, x2, x3, .int v, x5] S n t I R) : wp y cc 6 ret d K N Q kc ks pc [x0, x1, x2, x3, x4, x5] (.int v :: S) n t I R := wp_istore hd rfl hs k
theorem wp_astore_6_5 {x0 x1 x2 x3 x4 x5 : Value} {v : Nat} (hd : decode cc pc = .ok (.astore 5, 2)) (hs : sec x5 = false) (k : wp y cc 6 ret d K N Q kc ks (pc + 2) [x0, x1, x2, x3, x4, .ref v] S n t I R) : wp y cc 6 ret d K N Q kc ks pc [x0, x1, x2, x3, x4, x5] (.ref v :: S) n t I R := wp_astore hd rfl hs k
theorem wp_astoreN_6_5 {x0 x1 x2 x3 x4 x5 : Value} (hd : decode cc pc = .ok (.astore 5, 2)) (hs : sec x5 = false) (k : wp y cc 6 ret d K N Q kc ks (pc + 2) [x0, x1, x2, x3, x4, .null] S n t I R) : wp y cc 6 ret d K N Q kc ks pc [x0, x1, x2, x3, x4, x5] (.null :: S) n t I R := wp_astoreN hd rfl hs k
theorem wp_iinc_6_5 {x0 x1 x2 x3 x4 : Value} {j : Int} {x v : Int32} (hd : decode cc pc = .ok (.iinc 5 j, 3)) (hv : x + Int32.ofInt j = v) (k : wp y cc 6 ret d K N Q kc ks (pc + 3) [x0, x1, x2, x3, x4, .int v] S n t I R) : wp y cc 6 ret d K N Q kc ks pc [x0, x1, x2, x3, x4, .int x] S n t I R := wp_iinc hd rfl hv k
theorem wp_istore_6_5 {x0 x1 x2 x3 x4 x5 : Value} {v : Int32} (hd : decode cc pc = .ok (.istore 5, 2)) (hs : sec x5 = false) (k : wp y cc 6 ret d K N Q kc ks (pc + 2) [x0, x1, x2, x3, x4, .int v] S n t I R) : wp y cc 6 ret d K N Q kc ks pc [x0, x1, x2, x3, x4, x5] (.int v :: S) n t I R := wp_istore hd rfl hs k
theorem wp_istore_7_2 {x0 x1 x2 x3 x4 x5 x6 : Value} {v : Int32} (hd : decode cc pc = .ok (.istore_n 2, 1)) (hs : sec x2 = false) (k : wp y cc 7 ret d K N Q kc ks (pc + 1) [x0, x1, .int v, x3, x4, x5, x6] S n t I R) : wp y cc 7 ret d K N Q kc ks pc [x0, x1, x2, x3, x4, x5, x6] (.int v :: S) n t I R := wp_istore_n hd rfl rfl hs k
theorem wp_iinc_7_3 {x0 x1 x2 x4 x5 x6 : Value} {j : Int} {x v : Int32} (hd : decode cc pc = .ok (.iinc 3 j, 3)) (hv : x + Int32.ofInt j = v) (k : wp y cc 7 ret d K N Q kc ks (pc + 3) [x0, x1, x2, .int v, x4, x5, x6] S n t I R) : wp y cc 7 ret d K N Q kc ks pc [x0, x1, x2, .int x, x4, x5, x6] S n t I R := wp_iinc hd rfl hv k
theorem wp_istore_7_3 {x0 x1 x2 x3 x4 x5 x6 : Value} {v : Int32} (hd : decode cc pc = .ok (.istore_n 3, 1)) (hs : sec x3 = false) (k : wp y cc 7 ret d K N Q kc ks (pc + 1) [x0, x1, x2, .int v, x4, x5, x6] S n t I R) : wp y cc 7 ret d K N Q kc ks pc [x0, x1, x2, x3, x4, x5, x6] (.int v :: S) n t I R := wp_istore_n hd rfl rfl hs k
theorem wp_iinc_7_4 {x0 x1 x2 x3 x5 x6 : Value} {j : Int} {x v : Int32} (hd : decode cc pc = .ok (.iinc 4 j, 3)) (hv : x + Int32.ofInt j = v) (k : wp y cc 7 ret d K N Q kc ks (pc + 3) [x0, x1, x2, x3, .int v, x5, x6] S n t I R) : wp y cc 7 ret d K N Q kc ks pc [x0, x1, x2, x3, .int x, x5, x6] S n t I R := wp_iinc hd rfl hv k
theorem wp_istore_7_4 {x0 x1 x2 x3 x4 x5 x6 : Value} {v : Int32} (hd : decode cc pc = .ok (.istore 4, 2)) (hs : sec x4 = false) (k : wp y cc 7 ret d K N Q kc ks (pc + 2) [x0, x1, x2, x3, .int v, x5, x6] S n t I R) : wp y cc 7 ret d K N Q kc ks pc [x0, x1, x2, x3, x4, x5, x6] (.int v :: S) n t I R := wp_istore hd rfl hs k
theorem wp_astore_7_5 {x0 x1 x2 x3 x4 x5 x6 : Value} {v : Nat} (hd : decode cc pc = .ok (.astore 5, 2)) (hs : sec x5 = false) (k : wp y cc 7 ret d K N Q kc ks (pc + 2) [x0, x1, x2, x3, x4, .ref v, x6] S n t I R) : wp y cc 7 ret d K N Q kc ks pc [x0, x1, x2, x3, x4, x5, x6] (.ref v :: S) n t I R := wp_astore hd rfl hs k
theorem wp_astoreN_7_5 {x0 x1 x2 x3 x4 x5 x6 : Value} (hd : decode cc pc = .ok (.astore 5, 2)) (hs : sec x5 = false) (k : wp y cc 7 ret d K N Q kc ks (pc + 2) [x0, x1, x2, x3, x4, .null, x6] S n t I R) : wp y cc 7 ret d K N Q kc ks pc [x0, x1, x2, x3, x4, x5, x6] (.null :: S) n t I R := wp_astoreN hd rfl hs k
theorem wp_istore_7_5 {x0 x1 x2 x3 x4 x5 x6 : Value} {v : Int32} (hd : decode cc pc = .ok (.istore 5, 2)) (hs : sec x5 = false) (k : wp y cc 7 ret d K N Q kc ks (pc + 2) [x0, x1, x2, x3, x4, .int v, x6] S n t I R) : wp y cc 7 ret d K N Q kc ks pc [x0, x1, x2, x3, x4, x5, x6] (.int v :: S) n t I R := wp_istore hd rfl hs k
theorem wp_iinc_7_6 {x0 x1 x2 x3 x4 x5 : Value} {j : Int} {x v : Int32} (hd : decode cc pc = .ok (.iinc 6 j, 3)) (hv : x + Int32.ofInt j = v) (k : wp y cc 7 ret d K N Q kc ks (pc + 3) [x0, x1, x2, x3, x4, x5, .int v] S n t I R) : wp y cc 7 ret d K N Q kc ks pc [x0, x1, x2, x3, x4, x5, .int x] S n t I R := wp_iinc hd rfl hv k
theorem wp_istore_7_6 {x0 x1 x2 x3 x4 x5 x6 : Value} {v : Int32} (hd : decode cc pc = .ok (.istore 6, 2)) (hs : sec x6 = false) (k : wp y cc 7 ret d K N Q kc ks (pc + 2) [x0, x1, x2, x3, x4, x5, .int v] S n t I R) : wp y cc 7 ret d K N Q kc ks pc [x0, x1, x2, x3, x4, x5, x6] (.int v :: S) n t I R := wp_istore hd rfl hs k
theorem wp_iinc_8_3 {x0 x1 x2 x4 x5 x6 x7 : Value} {j : Int} {x v : Int32} (hd : decode cc pc = .ok (.iinc 3 j, 3)) (hv : x + Int32.ofInt j = v) (k : wp y cc 8 ret d K N Q kc ks (pc + 3) [x0, x1, x2, .int v, x4, x5, x6, x7] S n t I R) : wp y cc 8 ret d K N Q kc ks pc [x0, x1, x2, .int x, x4, x5, x6, x7] S n t I R := wp_iinc hd rfl hv k
theorem wp_istore_8_3 {x0 x1 x2 x3 x4 x5 x6 x7 : Value} {v : Int32} (hd : decode cc pc = .ok (.istore_n 3, 1)) (hs : sec x3 = false) (k : wp y cc 8 ret d K N Q kc ks (pc + 1) [x0, x1, x2, .int v, x4, x5, x6, x7] S n t I R) : wp y cc 8 ret d K N Q kc ks pc [x0, x1, x2, x3, x4, x5, x6, x7] (.int v :: S) n t I R := wp_istore_n hd rfl rfl hs k
theorem wp_astore_8_4 {x0 x1 x2 x3 x4 x5 x6 x7 : Value} {v : Nat} (hd : decode cc pc = .ok (.astore 4, 2)) (hs : sec x4 = false) (k : wp y cc 8 ret d K N Q kc ks (pc + 2) [x0, x1, x2, x3, .ref v, x5, x6, x7] S n t I R) : wp y cc 8 ret d K N Q kc ks pc [x0, x1, x2, x3, x4, x5, x6, x7] (.ref v :: S) n t I R := wp_astore hd rfl hs k
theorem wp_astoreN_8_4 {x0 x1 x2 x3 x4 x5 x6 x7 : Value} (hd : decode cc pc = .ok (.astore 4, 2)) (hs : sec x4 = false) (k : wp y cc 8 ret d K N Q kc ks (pc + 2) [x0, x1, x2, x3, .null, x5, x6, x7] S n t I R) : wp y cc 8 ret d K N Q kc ks pc [x0, x1, x2, x3, x4, x5, x6, x7] (.null :: S) n t I R := wp_astoreN hd rfl hs k
theorem wp_iinc_8_4 {x0 x1 x2 x3 x5 x6 x7 : Value} {j : Int} {x v : Int32} (hd : decode cc pc = .ok (.iinc 4 j, 3)) (hv : x + Int32.ofInt j = v) (k : wp y cc 8 ret d K N Q kc ks (pc + 3) [x0, x1, x2, x3, .int v, x5, x6, x7] S n t I R) : wp y cc 8 ret d K N Q kc ks pc [x0, x1, x2, x3, .int x, x5, x6, x7] S n t I R := wp_iinc hd rfl hv k
theorem wp_istore_8_4 {x0 x1 x2 x3 x4 x5 x6 x7 : Value} {v : Int32} (hd : decode cc pc = .ok (.istore 4, 2)) (hs : sec x4 = false) (k : wp y cc 8 ret d K N Q kc ks (pc + 2) [x0, x1, x2, x3, .int v, x5, x6, x7] S n t I R) : wp y cc 8 ret d K N Q kc ks pc [x0, x1, x2, x3, x4, x5, x6, x7] (.int v :: S) n t I R := wp_istore hd rfl hs k
theorem wp_astore_8_5 {x0 x1 x2 x3 x4 x5 x6 x7 : Value} {v : Nat} (hd : decode cc pc = .ok (.astore 5, 2)) (hs : sec x5 = false) (k : wp y cc 8 ret d K N Q kc ks (pc + 2) [x0, x1, x2, x3, x4, .ref v, x6, x7] S n t I R) : wp y cc 8 ret d K N Q kc ks pc [x0, x1, x2, x3, x4, x5, x6, x7] (.ref v :: S) n t I R := wp_astore hd rfl hs k
theorem wp_astoreN_8_5 {x0 x1 x2 x3 x4 x5 x6 x7 : Value} (hd : decode cc pc = .ok (.astore 5, 2)) (hs : sec x5 = false) (k : wp y cc 8 ret d K N Q kc ks (pc + 2) [x0, x1, x2, x3, x4, .null, x6, x7] S n t I R) : wp y cc 8 ret d K N Q kc ks pc [x0, x1, x2, x3, x4, x5, x6, x7] (.null :: S) n t I R := wp_astoreN hd rfl hs k
theorem wp_iinc_8_5 {x0 x1 x2 x3 x4 x6 x7 : Value} {j : Int} {x v : Int32} (hd : decode cc pc = .ok (.iinc 5 j, 3)) (hv : x + Int32.ofInt j = v) (k : wp y cc 8 ret d K N Q kc ks (pc + 3) [x0, x1, x2, x3, x4, .int v, x6, x7] S n t I R) : wp y cc 8 ret d K N Q kc ks pc [x0, x1, x2, x3, x4, .int x, x6, x7] S n t I R := wp_iinc hd rfl hv k
theorem wp_istore_8_5 {x0 x1 x2 x3 x4 x5 x6 x7 : Value} {v : Int32} (hd : decode cc pc = .ok (.istore 5, 2)) (hs : sec x5 = false) (k : wp y cc 8 ret d K N Q kc ks (pc + 2) [x0, x1, x2, x3, x4, .int v, x6, x7] S n t I R) : wp y cc 8 ret d K N Q kc ks pc [x0, x1, x2, x3, x4, x5, x6, x7] (.int v :: S) n t I R := wp_istore hd rfl hs k
theorem wp_astore_8_6 {x0 x1 x2 x3 x4 x5 x6 x7 : Value} {v : Nat} (hd : decode cc pc = .ok (.astore 6, 2)) (hs : sec x6 = false) (k : wp y cc 8 ret d K N Q kc ks (pc + 2) [x0, x1, x2, x3, x4, x5, .ref v, x7] S n t I R) : wp y cc 8 ret d K N Q kc ks pc [x0, x1, x2, x3, x4, x5, x6, x7] (.ref v :: S) n t I R := wp_astore hd rfl hs k
theorem wp_astoreN_8_6 {x0 x1 x2 x3 x4 x5 x6 x7 : Value} (hd : decode cc pc = .ok (.astore 6, 2)) (hs : sec x6 = false) (k : wp y cc 8 ret d K N Q kc ks (pc + 2) [x0, x1, x2, x3, x4, x5, .null, x7] S n t I R) : wp y cc 8 ret d K N Q kc ks pc [x0, x1, x2, x3, x4, x5, x6, x7] (.null :: S) n t I R := wp_astoreN hd rfl hs k
theorem wp_iinc_8_6 {x0 x1 x2 x3 x4 x5 x7 : Value} {j : Int} {x v : Int32} (hd : decode cc pc = .ok (.iinc 6 j, 3)) (hv : x + Int32.ofInt j = v) (k : wp y cc 8 ret d K N Q kc ks (pc + 3) [x0, x1, x2, x3, x4, x5, .int v, x7] S n t I R) : wp y cc 8 ret d K N Q kc ks pc [x0, x1, x2, x3, x4, x5, .int x, x7] S n t I R := wp_iinc hd rfl hv k
theorem wp_istore_8_6 {x0 x1 x2 x3 x4 x5 x6 x7 : Value} {v : Int32} (hd : decode cc pc = .ok (.istore 6, 2)) (hs : sec x6 = false) (k : wp y cc 8 ret d K N Q kc ks (pc + 2) [x0, x1, x2, x3, x4, x5, .int v, x7] S n t I R) : wp y cc 8 ret d K N Q kc ks pc [x0, x1, x2, x3, x4, x5, x6, x7] (.int v :: S) n t I R := wp_istore hd rfl hs k
theorem wp_astore_8_7 {x0 x1 x2 x3 x4 x5 x6 x7 : Value} {v : Nat} (hd : decode cc pc = .ok (.astore 7, 2)) (hs : sec x7 = false) (k : wp y cc 8 ret d K N Q kc ks (pc + 2) [x0, x1, x2, x3, x4, x5, x6, .ref v] S n t I R) : wp y cc 8 ret d K N Q kc ks pc [x0, x1, x2, x3, x4, x5, x6, x7] (.ref v :: S) n t I R := wp_astore hd rfl hs k
theorem wp_astoreN_8_7 {x0 x1 x2 x3 x4 x5 x6 x7 : Value} (hd : decode cc pc = .ok (.astore 7, 2)) (hs : sec x7 = false) (k : wp y cc 8 ret d K N Q kc ks (pc + 2) [x0, x1, x2, x3, x4, x5, x6, .null] S n t I R) : wp y cc 8 ret d K N Q kc ks pc [x0, x1, x2, x3, x4, x5, x6, x7] (.null :: S) n t I R := wp_astoreN hd rfl hs k
theorem wp_iinc_8_7 {x0 x1 x2 x3 x4 x5 x6 : Value} {j : Int} {x v : Int32} (hd : decode cc pc = .ok (.iinc 7 j, 3)) (hv : x + Int32.ofInt j = v) (k : wp y cc 8 ret d K N Q kc ks (pc + 3) [x0, x1, x2, x3, x4, x5, x6, .int v] S n t I R) : wp y cc 8 ret d K N Q kc ks pc [x0, x1, x2, x3, x4, x5, x6, .int x] S n t I R := wp_iinc hd rfl hv k
theorem wp_istore_8_7 {x0 x1 x2 x3 x4 x5 x6 x7 : Value} {v : Int32} (hd : decode cc pc = .ok (.istore 7, 2)) (hs : sec x7 = false) (k : wp y cc 8 ret d K N Q kc ks (pc + 2) [x0, x1, x2, x3, x4, x5, x6, .int v] S n t I R) : wp y cc 8 ret d K N Q kc ks pc [x0, x1, x2, x3, x4, x5, x6, x7] (.int v :: S) n t I R := wp_istore hd rfl hs k
theorem wp_lstore_10_3 {x0 x1 x2 x3 x4 x5 x6 x7 x8 x9 : Value} {v : Int64} (hd : decode cc pc = .ok (.lstore_n 3, 1)) (hs : sec x3 = false) (k : wp y cc 10 ret d K N Q kc ks (pc + 1) [x0, x1, x2, .long v, vM, x5, x6, x7, x8, x9] S n t I R) : wp y cc 10 ret d K N Q kc ks pc [x0, x1, x2, x3, x4, x5, x6, x7, x8, x9] (.long v :: S) n t I R := wp_lstore_n hd rfl rfl hs (by decide) k
theorem wp_lstore_10_5 {x0 x1 x2 x3 x4 x5 x6 x7 x8 x9 : Value} {v : Int64} (hd : decode cc pc = .ok (.lstore 5, 2)) (hs : sec x5 = false) (k : wp y cc 10 ret d K N Q kc ks (pc + 2) [x0, x1, x2, x3, x4, .long v, vM, x7, x8, x9] S n t I R) : wp y cc 10 ret d K N Q kc ks pc [x0, x1, x2, x3, x4, x5, x6, x7, x8, x9] (.long v :: S) n t I R := wp_lstore hd rfl hs (by decide) k
theorem wp_iinc_10_7 {x0 x1 x2 x3 x4 x5 x6 x8 x9 : Value} {j : Int} {x v : Int32} (hd : decode cc pc = .ok (.iinc 7 j, 3)) (hv : x + Int32.ofInt j = v) (k : wp y cc 10 ret d K N Q kc ks (pc + 3) [x0, x1, x2, x3, x4, x5, x6, .int v, x8, x9] S n t I R) : wp y cc 10 ret d K N Q kc ks pc [x0, x1, x2, x3, x4, x5, x6, .int x, x8, x9] S n t I R := wp_iinc hd rfl hv k
theorem wp_istore_10_7 {x0 x1 x2 x3 x4 x5 x6 x7 x8 x9 : Value} {v : Int32} (hd : decode cc pc = .ok (.istore 7, 2)) (hs : sec x7 = false) (k : wp y cc 10 ret d K N Q kc ks (pc + 2) [x0, x1, x2, x3, x4, x5, x6, .int v, x8, x9] S n t I R) : wp y cc 10 ret d K N Q kc ks pc [x0, x1, x2, x3, x4, x5, x6, x7, x8, x9] (.int v :: S) n t I R := wp_istore hd rfl hs k
theorem wp_iinc_10_8 {x0 x1 x2 x3 x4 x5 x6 x7 x9 : Value} {j : Int} {x v : Int32} (hd : decode cc pc = .ok (.iinc 8 j, 3)) (hv : x + Int32.ofInt j = v) (k : wp y cc 10 ret d K N Q kc ks (pc + 3) [x0, x1, x2, x3, x4, x5, x6, x7, .int v, x9] S n t I R) : wp y cc 10 ret d K N Q kc ks pc [x0, x1, x2, x3, x4, x5, x6, x7, .int x, x9] S n t I R := wp_iinc hd rfl hv k
theorem wp_istore_10_8 {x0 x1 x2 x3 x4 x5 x6 x7 x8 x9 : Value} {v : Int32} (hd : decode cc pc = .ok (.istore 8, 2)) (hs : sec x8 = false) (k : wp y cc 10 ret d K N Q kc ks (pc + 2) [x0, x1, x2, x3, x4, x5, x6, x7, .int v, x9] S n t I R) : wp y cc 10 ret d K N Q kc ks pc [x0, x1, x2, x3, x4, x5, x6, x7, x8, x9] (.int v :: S) n t I R := wp_istore hd rfl hs k
theorem wp_istore_10_9 {x0 x1 x2 x3 x4 x5 x6 x7 x8 x9 : Value} {v : Int32} (hd : decode cc pc = .ok (.istore 9, 2)) (hs : sec x9 = false) (k : wp y cc 10 ret d K N Q kc ks (pc + 2) [x0, x1, x2, x3, x4, x5, x6, x7, x8, .int v] S n t I R) : wp y cc 10 ret d K N Q kc ks pc [x0, x1, x2, x3, x4, x5, x6, x7, x8, x9] (.int v :: S) n t I R := wp_istore hd rfl hs k
theorem wp_istore_11_5 {x0 x1 x2 x3 x4 x5 x6 x7 x8 x9 x10 : Value} {v : Int32} (hd : decode cc pc = .ok (.istore 5, 2)) (hs : sec x5 = false) (k : wp y cc 11 ret d K N Q kc ks (pc + 2) [x0, x1, x2, x3, x4, .int v, x6, x7, x8, x9, x10] S n t I R) : wp y cc 11 ret d K N Q kc ks pc [x0, x1, x2, x3, x4, x5, x6, x7, x8, x9, x10] (.int v :: S) n t I R := wp_istore hd rfl hs k
theorem wp_lstore_11_5 {x0 x1 x2 x3 x4 x5 x6 x7 x8 x9 x10 : Value} {v : Int64} (hd : decode cc pc = .ok (.lstore 5, 2)) (hs : sec x5 = false) (k : wp y cc 11 ret d K N Q kc ks (pc + 2) [x0, x1, x2, x3, x4, .long v, vM, x7, x8, x9, x10] S n t I R) : wp y cc 11 ret d K N Q kc ks pc [x0, x1, x2, x3, x4, x5, x6, x7, x8, x9, x10] (.long v :: S) n t I R := wp_lstore hd rfl hs (by decide) k
theorem wp_istore_11_6 {x0 x1 x2 x3 x4 x5 x6 x7 x8 x9 x10 : Value} {v : Int32} (hd : decode cc pc = .ok (.istore 6, 2)) (hs : sec x6 = false) (k : wp y cc 11 ret d K N Q kc ks (pc + 2) [x0, x1, x2, x3, x4, x5, .int v, x7, x8, x9, x10] S n t I R) : wp y cc 11 ret d K N Q kc ks pc [x0, x1, x2, x3, x4, x5, x6, x7, x8, x9, x10] (.int v :: S) n t I R := wp_istore hd rfl hs k
theorem wp_istore_11_7 {x0 x1 x2 x3 x4 x5 x6 x7 x8 x9 x10 : Value} {v : Int32} (hd : decode cc pc = .ok (.istore 7, 2)) (hs : sec x7 = false) (k : wp y cc 11 ret d K N Q kc ks (pc + 2) [x0, x1, x2, x3, x4, x5, x6, .int v, x8, x9, x10] S n t I R) : wp y cc 11 ret d K N Q kc ks pc [x0, x1, x2, x3, x4, x5, x6, x7, x8, x9, x10] (.int v :: S) n t I R := wp_istore hd rfl hs k
theorem wp_lstore_11_7 {x0 x1 x2 x3 x4 x5 x6 x7 x8 x9 x10 : Value} {v : Int64} (hd : decode cc pc = .ok (.lstore 7, 2)) (hs : sec x7 = false) (k : wp y cc 11 ret d K N Q kc ks (pc + 2) [x0, x1, x2, x3, x4, x5, x6, .long v, vM, x9, x10] S n t I R) : wp y cc 11 ret d K N Q kc ks pc [x0, x1, x2, x3, x4, x5, x6, x7, x8, x9, x10] (.long v :: S) n t I R := wp_lstore hd rfl hs (by decide) k
theorem wp_iinc_11_8 {x0 x1 x2 x3 x4 x5 x6 x7 x9 x10 : Value} {j : Int} {x v : Int32} (hd : decode cc pc = .ok (.iinc 8 j, 3)) (hv : x + Int32.ofInt j = v) (k : wp y cc 11 ret d K N Q kc ks (pc + 3) [x0, x1, x2, x3, x4, x5, x6, x7, .int v, x9, x10] S n t I R) : wp y cc 11 ret d K N Q kc ks pc [x0, x1, x2, x3, x4, x5, x6, x7, .int x, x9, x10] S n t I R := wp_iinc hd rfl hv k
theorem wp_istore_11_8 {x0 x1 x2 x3 x4 x5 x6 x7 x8 x9 x10 : Value} {v : Int32} (hd : decode cc pc = .ok (.istore 8, 2)) (hs : sec x8 = false) (k : wp y cc 11 ret d K N Q kc ks (pc + 2) [x0, x1, x2, x3, x4, x5, x6, x7, .int v, x9, x10] S n t I R) : wp y cc 11 ret d K N Q kc ks pc [x0, x1, x2, x3, x4, x5, x6, x7, x8, x9, x10] (.int v :: S) n t I R := wp_istore hd rfl hs k
theorem wp_istore_11_9 {x0 x1 x2 x3 x4 x5 x6 x7 x8 x9 x10 : Value} {v : Int32} (hd : decode cc pc = .ok (.istore 9, 2)) (hs : sec x9 = false) (k : wp y cc 11 ret d K N Q kc ks (pc + 2) [x0, x1, x2, x3, x4, x5, x6, x7, x8, .int v, x10] S n t I R) : wp y cc 11 ret d K N Q kc ks pc [x0, x1, x2, x3, x4, x5, x6, x7, x8, x9, x10] (.int v :: S) n t I R := wp_istore hd rfl hs k
theorem wp_lstore_11_9 {x0 x1 x2 x3 x4 x5 x6 x7 x8 x9 x10 : Value} {v : Int64} (hd : decode cc pc = .ok (.lstore 9, 2)) (hs : sec x9 = false) (k : wp y cc 11 ret d K N Q kc ks (pc + 2) [x0, x1, x2, x3, x4, x5, x6, x7, x8, .long v, vM] S n t I R) : wp y cc 11 ret d K N Q kc ks pc [x0, x1, x2, x3, x4, x5, x6, x7, x8, x9, x10] (.long v :: S) n t I R := wp_lstore hd rfl hs (by decide) k
theorem wp_istore_11_10 {x0 x1 x2 x3 x4 x5 x6 x7 x8 x9 x10 : Value} {v : Int32} (hd : decode cc pc = .ok (.istore 10, 2)) (hs : sec x10 = false) (k : wp y cc 11 ret d K N Q kc ks (pc + 2) [x0, x1, x2, x3, x4, x5, x6, x7, x8, x9, .int v] S n t I R) : wp y cc 11 ret d K N Q kc ks pc [x0, x1, x2, x3, x4, x5, x6, x7, x8, x9, x10] (.int v :: S) n t I R := wp_istore hd rfl hs k
theorem wp_istore_14_5 {x0 x1 x2 x3 x4 x5 x6 x7 x8 x9 x10 x11 x12 x13 : Value} {v : Int32} (hd : decode cc pc = .ok (.istore 5, 2)) (hs : sec x5 = false) (k : wp y cc 14 ret d K N Q kc ks (pc + 2) [x0, x1, x2, x3, x4, .int v, x6, x7, x8, x9, x10, x11, x12, x13] S n t I R) : wp y cc 14 ret d K N Q kc ks pc [x0, x1, x2, x3, x4, x5, x6, x7, x8, x9, x10, x11, x12, x13] (.int v :: S) n t I R := wp_istore hd rfl hs k
theorem wp_lstore_14_6 {x0 x1 x2 x3 x4 x5 x6 x7 x8 x9 x10 x11 x12 x13 : Value} {v : Int64} (hd : decode cc pc = .ok (.lstore 6, 2)) (hs : sec x6 = false) (k : wp y cc 14 ret d K N Q kc ks (pc + 2) [x0, x1, x2, x3, x4, x5, .long v, vM, x8, x9, x10, x11, x12, x13] S n t I R) : wp y cc 14 ret d K N Q kc ks pc [x0, x1, x2, x3, x4, x5, x6, x7, x8, x9, x10, x11, x12, x13] (.long v :: S) n t I R := wp_lstore hd rfl hs (by decide) k
theorem wp_lstore_14_8 {x0 x1 x2 x3 x4 x5 x6 x7 x8 x9 x10 x11 x12 x13 : Value} {v : Int64} (hd : decode cc pc = .ok (.lstore 8, 2)) (hs : sec x8 = false) (k : wp y cc 14 ret d K N Q kc ks (pc + 2) [x0, x1, x2, x3, x4, x5, x6, x7, .long v, vM, x10, x11, x12, x13] S n t I R) : wp y cc 14 ret d K N Q kc ks pc [x0, x1, x2, x3, x4, x5, x6, x7, x8, x9, x10, x11, x12, x13] (.long v :: S) n t I R := wp_lstore hd rfl hs (by decide) k
theorem wp_iinc_14_10 {x0 x1 x2 x3 x4 x5 x6 x7 x8 x9 x11 x12 x13 : Value} {j : Int} {x v : Int32} (hd : decode cc pc = .ok (.iinc 10 j, 3)) (hv : x + Int32.ofInt j = v) (k : wp y cc 14 ret d K N Q kc ks (pc + 3) [x0, x1, x2, x3, x4, x5, x6, x7, x8, x9, .int v, x11, x12, x13] S n t I R) : wp y cc 14 ret d K N Q kc ks pc [x0, x1, x2, x3, x4, x5, x6, x7, x8, x9, .int x, x11, x12, x13] S n t I R := wp_iinc hd rfl hv k
theorem wp_istore_14_10 {x0 x1 x2 x3 x4 x5 x6 x7 x8 x9 x10 x11 x12 x13 : Value} {v : Int32} (hd : decode cc pc = .ok (.istore 10, 2)) (hs : sec x10 = false) (k : wp y cc 14 ret d K N Q kc ks (pc + 2) [x0, x1, x2, x3, x4, x5, x6, x7, x8, x9, .int v, x11, x12, x13] S n t I R) : wp y cc 14 ret d K N Q kc ks pc [x0, x1, x2, x3, x4, x5, x6, x7, x8, x9, x10, x11, x12, x13] (.int v :: S) n t I R := wp_istore hd rfl hs k
theorem wp_istore_14_11 {x0 x1 x2 x3 x4 x5 x6 x7 x8 x9 x10 x11 x12 x13 : Value} {v : Int32} (hd : decode cc pc = .ok (.istore 11, 2)) (hs : sec x11 = false) (k : wp y cc 14 ret d K N Q kc ks (pc + 2) [x0, x1, x2, x3, x4, x5, x6, x7, x8, x9, x10, .int v, x12, x13] S n t I R) : wp y cc 14 ret d K N Q kc ks pc [x0, x1, x2, x3, x4, x5, x6, x7, x8, x9, x10, x11, x12, x13] (.int v :: S) n t I R := wp_istore hd rfl hs k
theorem wp_lstore_14_12 {x0 x1 x2 x3 x4 x5 x6 x7 x8 x9 x10 x11 x12 x13 : Value} {v : Int64} (hd : decode cc pc = .ok (.lstore 12, 2)) (hs : sec x12 = false) (k : wp y cc 14 ret d K N Q kc ks (pc + 2) [x0, x1, x2, x3, x4, x5, x6, x7, x8, x9, x10, x11, .long v, vM] S n t I R) : wp y cc 14 ret d K N Q kc ks pc [x0, x1, x2, x3, x4, x5, x6, x7, x8, x9, x10, x11, x12, x13] (.long v :: S) n t I R := wp_lstore hd rfl hs (by decide) k
end TYP
