/-! THE WORDS OF THE TABLES, each by its place; the links of the pure machine; printed by program (wip/gen/words.py) -/
theorem wm_0 : Cond.fieldLink RX0 12 "SluiceLevels$Bridge" "now" "LSluiceLevels$Stand;" ∈ lw_tbl := List.mem_append_right _ (List.mem_append_left _ (List.mem_of_getElem? (i := 69) rfl))
theorem wm_1 : Cond.fieldLink RX0 18 "SluiceLevels$Bridge" "pastLevels" "[I" ∈ lw_tbl := List.mem_append_right _ (List.mem_append_left _ (List.mem_of_getElem? (i := 71) rfl))
theorem wm_2 : Cond.fieldLink RX0 22 "SluiceLevels$Bridge" "pastOpen" "[I" ∈ lw_tbl := List.mem_append_right _ (List.mem_append_left _ (List.mem_of_getElem? (i := 72) rfl))
theorem wm_3 : Cond.fieldLink RX0 25 "SluiceLevels$Bridge" "pastNumbers" "[I" ∈ lw_tbl := List.mem_append_right _ (List.mem_append_left _ (List.mem_of_getElem? (i := 73) rfl))
theorem wm_4 : Cond.fieldLink RX0 28 "SluiceLevels$Stand" "gates" "I" ∈ lw_tbl := List.mem_append_right _ (List.mem_append_left _ (List.mem_of_getElem? (i := 43) rfl))
theorem wm_5 : Cond.fieldLink RX0 32 "SluiceLevels$Bridge" "deeds" "I" ∈ lw_tbl := List.mem_append_right _ (List.mem_append_left _ (List.mem_of_getElem? (i := 74) rfl))
theorem wm_6 : Cond.fieldLink RX0 49 "SluiceLevels$Stand" "levelOf" "[I" ∈ lw_tbl := List.mem_append_right _ (List.mem_append_left _ (List.mem_of_getElem? (i := 40) rfl))
theorem wm_7 : Cond.fieldLink RX0 52 "SluiceLevels$Stand" "open" "I" ∈ lw_tbl := List.mem_append_right _ (List.mem_append_left _ (List.mem_of_getElem? (i := 48) rfl))
theorem wm_8 : Cond.fieldLink RX0 55 "SluiceLevels$Stand" "number" "I" ∈ lw_tbl := List.mem_append_right _ (List.mem_append_left _ (List.mem_of_getElem? (i := 52) rfl))
theorem wm_9 : Cond.fieldLink RX1 9 "SluiceLevels$Row" "size" "I" ∈ lw_tbl := List.mem_append_right _ (List.mem_append_left _ (List.mem_of_getElem? (i := 119) rfl))
theorem wm_10 : Cond.fieldLink RX1 15 "SluiceLevels$Row" "places" "[I" ∈ lw_tbl := List.mem_append_right _ (List.mem_append_left _ (List.mem_of_getElem? (i := 116) rfl))
theorem wm_11 : Cond.fieldLink RX1 40 "SluiceLevels$Stand" "kindOf" "[I" ∈ lw_tbl := List.mem_append_right _ (List.mem_append_left _ (List.mem_of_getElem? (i := 34) rfl))
theorem wm_12 : Cond.fieldLink RX1 45 "SluiceLevels$Stand" "widthOf" "[I" ∈ lw_tbl := List.mem_append_right _ (List.mem_append_left _ (List.mem_of_getElem? (i := 37) rfl))
theorem wm_13 : Cond.fieldLink RX1 48 "SluiceLevels$Stand" "open" "I" ∈ lw_tbl := List.mem_append_right _ (List.mem_append_left _ (List.mem_of_getElem? (i := 49) rfl))
theorem wm_14 : Cond.fieldLink RX1 51 "SluiceLevels$Stand" "levelOf" "[I" ∈ lw_tbl := List.mem_append_right _ (List.mem_append_left _ (List.mem_of_getElem? (i := 41) rfl))
theorem wm_15 : Cond.fieldLink RX1 54 "SluiceLevels$Stand" "gates" "I" ∈ lw_tbl := List.mem_append_right _ (List.mem_append_left _ (List.mem_of_getElem? (i := 45) rfl))
theorem wm_16 : Cond.fieldLink RX1 60 "SluiceLevels$Stand" "number" "I" ∈ lw_tbl := List.mem_append_right _ (List.mem_append_left _ (List.mem_of_getElem? (i := 53) rfl))
theorem wm_17 : Cond.fieldLink RX2 9 "SluiceLevels$Row" "size" "I" ∈ lw_tbl := List.mem_append_right _ (List.mem_append_left _ (List.mem_of_getElem? (i := 118) rfl))
theorem wm_18 : Cond.fieldLink RX2 15 "SluiceLevels$Row" "places" "[I" ∈ lw_tbl := List.mem_append_right _ (List.mem_append_left _ (List.mem_of_getElem? (i := 115) rfl))
theorem wm_19 : Cond.fieldLink RX3 9 "SluiceLevels$SetList" "sets" "[I" ∈ lw_tbl := List.mem_append_right _ (List.mem_append_left _ (List.mem_of_getElem? (i := 96) rfl))
theorem wm_20 : Cond.fieldLink RX3 15 "SluiceLevels$SetList" "levelsBehind" "[I" ∈ lw_tbl := List.mem_append_right _ (List.mem_append_left _ (List.mem_of_getElem? (i := 97) rfl))
theorem wm_21 : Cond.fieldLink RX3 18 "SluiceLevels$SetList" "tally" "[I" ∈ lw_tbl := List.mem_append_right _ (List.mem_append_left _ (List.mem_of_getElem? (i := 98) rfl))
theorem wm_22 : Cond.fieldLink RX3 21 "SluiceLevels$SetList" "size" "I" ∈ lw_tbl := List.mem_append_right _ (List.mem_append_left _ (List.mem_of_getElem? (i := 99) rfl))
theorem wm_23 : Cond.fieldLink RX4 9 "SluiceLevels$Stand" "kindOf" "[I" ∈ lw_tbl := List.mem_append_right _ (List.mem_append_left _ (List.mem_of_getElem? (i := 33) rfl))
theorem wm_24 : Cond.fieldLink RX4 15 "SluiceLevels$Stand" "widthOf" "[I" ∈ lw_tbl := List.mem_append_right _ (List.mem_append_left _ (List.mem_of_getElem? (i := 36) rfl))
theorem wm_25 : Cond.fieldLink RX4 18 "SluiceLevels$Stand" "levelOf" "[I" ∈ lw_tbl := List.mem_append_right _ (List.mem_append_left _ (List.mem_of_getElem? (i := 39) rfl))
theorem wm_26 : Cond.fieldLink RX4 27 "SluiceLevels$Stand" "gates" "I" ∈ lw_tbl := List.mem_append_right _ (List.mem_append_left _ (List.mem_of_getElem? (i := 44) rfl))
theorem wm_27 : Cond.fieldLink RX4 31 "SluiceLevels$Stand" "open" "I" ∈ lw_tbl := List.mem_append_right _ (List.mem_append_left _ (List.mem_of_getElem? (i := 47) rfl))
theorem wm_28 : Cond.fieldLink RX4 34 "SluiceLevels$Stand" "number" "I" ∈ lw_tbl := List.mem_append_right _ (List.mem_append_left _ (List.mem_of_getElem? (i := 51) rfl))
theorem wm_29 : Cond.fieldLink RX5 11 "SluiceLevels" "rows" "[LSluiceLevels$Row;" ∈ lw_tbl := List.mem_append_right _ (List.mem_append_left _ (List.mem_of_getElem? (i := 126) rfl))
theorem wm_30 : Cond.fieldLink RX5 15 "SluiceLevels" "texts" "[LSluiceLevels$Row;" ∈ lw_tbl := List.mem_append_right _ (List.mem_append_left _ (List.mem_of_getElem? (i := 127) rfl))
theorem wm_31 : Cond.fieldLink RX5 21 "SluiceLevels" "bridge" "LSluiceLevels$Bridge;" ∈ lw_tbl := List.mem_append_right _ (List.mem_append_left _ (List.mem_of_getElem? (i := 128) rfl))
theorem wm_32 : Cond.fieldLink RX5 25 "SluiceLevels" "kept" "[LSluiceLevels$Bridge;" ∈ lw_tbl := List.mem_append_right _ (List.mem_append_left _ (List.mem_of_getElem? (i := 129) rfl))
theorem wm_33 : Cond.fieldLink RX5 32 "SluiceLevels" "aside" "LSluiceLevels$Stand;" ∈ lw_tbl := List.mem_append_right _ (List.mem_append_left _ (List.mem_of_getElem? (i := 130) rfl))
theorem wm_34 : Cond.fieldLink RX5 39 "SluiceLevels" "found" "LSluiceLevels$SetList;" ∈ lw_tbl := List.mem_append_right _ (List.mem_append_left _ (List.mem_of_getElem? (i := 131) rfl))
theorem wm_35 : Cond.fieldLink RX5 43 "SluiceLevels" "outcomes" "[I" ∈ lw_tbl := List.mem_append_right _ (List.mem_append_left _ (List.mem_of_getElem? (i := 132) rfl))
theorem wm_36 : Cond.fieldLink RX5 47 "SluiceLevels" "outcomesAhead" "[I" ∈ lw_tbl := List.mem_append_right _ (List.mem_append_left _ (List.mem_of_getElem? (i := 133) rfl))
theorem wm_37 : Cond.fieldLink RX5 50 "SluiceLevels" "timesFound" "[I" ∈ lw_tbl := List.mem_append_right _ (List.mem_append_left _ (List.mem_of_getElem? (i := 134) rfl))
theorem wm_38 : Cond.fieldLink RX5 53 "SluiceLevels" "lowerTold" "J" ∈ lw_tbl := List.mem_append_right _ (List.mem_append_left _ (List.mem_of_getElem? (i := 138) rfl))
theorem wm_39 : Cond.fieldLink RX5 72 "SluiceLevels$Row" "places" "[I" ∈ lw_tbl := List.mem_append_right _ (List.mem_append_left _ (List.mem_of_getElem? (i := 117) rfl))
theorem wm_40 : Cond.fieldLink RX5 86 "SluiceLevels$Row" "size" "I" ∈ lw_tbl := List.mem_append_right _ (List.mem_append_left _ (List.mem_of_getElem? (i := 120) rfl))
theorem wm_41 : Cond.fieldLink RX5 113 "SluiceLevels$Bridge" "now" "LSluiceLevels$Stand;" ∈ lw_tbl := List.mem_append_right _ (List.mem_append_left _ (List.mem_of_getElem? (i := 70) rfl))
theorem wm_42 : Cond.fieldLink RX5 116 "SluiceLevels$Stand" "gates" "I" ∈ lw_tbl := List.mem_append_right _ (List.mem_append_left _ (List.mem_of_getElem? (i := 46) rfl))
theorem wm_43 : Cond.fieldLink RX5 123 "SluiceLevels$Stand" "levelOf" "[I" ∈ lw_tbl := List.mem_append_right _ (List.mem_append_left _ (List.mem_of_getElem? (i := 42) rfl))
theorem wm_44 : Cond.fieldLink RX5 133 "SluiceLevels$Stand" "kindOf" "[I" ∈ lw_tbl := List.mem_append_right _ (List.mem_append_left _ (List.mem_of_getElem? (i := 35) rfl))
theorem wm_45 : Cond.fieldLink RX5 154 "SluiceLevels$Stand" "open" "I" ∈ lw_tbl := List.mem_append_right _ (List.mem_append_left _ (List.mem_of_getElem? (i := 50) rfl))
theorem wm_46 : Cond.fieldLink RX5 164 "SluiceLevels$Bridge" "deeds" "I" ∈ lw_tbl := List.mem_append_right _ (List.mem_append_left _ (List.mem_of_getElem? (i := 75) rfl))
theorem wm_47 : Cond.fieldLink RX5 180 "SluiceLevels$Stand" "widthOf" "[I" ∈ lw_tbl := List.mem_append_right _ (List.mem_append_left _ (List.mem_of_getElem? (i := 38) rfl))
theorem wm_48 : Cond.fieldLink RX5 219 "SluiceLevels$SetList" "size" "I" ∈ lw_tbl := List.mem_append_right _ (List.mem_append_left _ (List.mem_of_getElem? (i := 100) rfl))
theorem wm_49 : Cond.fieldLink RX5 275 "SluiceLevels" "told" "I" ∈ lw_tbl := List.mem_append_right _ (List.mem_append_left _ (List.mem_of_getElem? (i := 136) rfl))
theorem wm_50 : Cond.fieldLink RX5 278 "SluiceLevels" "upperTold" "J" ∈ lw_tbl := List.mem_append_right _ (List.mem_append_left _ (List.mem_of_getElem? (i := 137) rfl))
theorem wm_51 : Cond.fieldLink RX5 281 "SluiceLevels$Stand" "number" "I" ∈ lw_tbl := List.mem_append_right _ (List.mem_append_left _ (List.mem_of_getElem? (i := 54) rfl))
theorem wm_52 : Cond.fieldLink RX5 300 "SluiceLevels" "latestFinding" "I" ∈ lw_tbl := List.mem_append_right _ (List.mem_append_left _ (List.mem_of_getElem? (i := 135) rfl))
theorem wm_53 : Cond.fieldLink RX6 7 "SluiceLevelsModel" "sizes" "[I" ∈ lw_tbl := List.mem_append_right _ (List.mem_append_right _ (List.mem_append_right _ (List.mem_append_left _ (List.mem_of_getElem? (i := 216) rfl))))
theorem wm_54 : Cond.fieldLink RX6 13 "SluiceLevelsModel" "ints" "[I" ∈ lw_tbl := List.mem_append_right _ (List.mem_append_right _ (List.mem_append_right _ (List.mem_append_left _ (List.mem_of_getElem? (i := 217) rfl))))
theorem wm_55 : Cond.fieldLink RX6 16 "SluiceLevelsModel" "textSizes" "[I" ∈ lw_tbl := List.mem_append_right _ (List.mem_append_right _ (List.mem_append_right _ (List.mem_append_left _ (List.mem_of_getElem? (i := 218) rfl))))
theorem wm_56 : Cond.fieldLink RX6 19 "SluiceLevelsModel" "letters" "[I" ∈ lw_tbl := List.mem_append_right _ (List.mem_append_right _ (List.mem_append_right _ (List.mem_append_left _ (List.mem_of_getElem? (i := 219) rfl))))
theorem wm_57 : Cond.fieldLink RX6 22 "SluiceLevelsModel" "kind" "[I" ∈ lw_tbl := List.mem_append_right _ (List.mem_append_right _ (List.mem_append_right _ (List.mem_append_left _ (List.mem_of_getElem? (i := 221) rfl))))
theorem wm_58 : Cond.fieldLink RX6 25 "SluiceLevelsModel" "width" "[I" ∈ lw_tbl := List.mem_append_right _ (List.mem_append_right _ (List.mem_append_right _ (List.mem_append_left _ (List.mem_of_getElem? (i := 222) rfl))))
theorem wm_59 : Cond.fieldLink RX6 28 "SluiceLevelsModel" "st" "[I" ∈ lw_tbl := List.mem_append_right _ (List.mem_append_right _ (List.mem_append_right _ (List.mem_append_left _ (List.mem_of_getElem? (i := 223) rfl))))
theorem wm_60 : Cond.fieldLink RX6 31 "SluiceLevelsModel" "book" "[I" ∈ lw_tbl := List.mem_append_right _ (List.mem_append_right _ (List.mem_append_right _ (List.mem_append_left _ (List.mem_of_getElem? (i := 225) rfl))))
theorem wm_61 : Cond.fieldLink RX6 34 "SluiceLevelsModel" "kept" "[I" ∈ lw_tbl := List.mem_append_right _ (List.mem_append_right _ (List.mem_append_right _ (List.mem_append_left _ (List.mem_of_getElem? (i := 226) rfl))))
theorem wm_62 : Cond.fieldLink RX6 37 "SluiceLevelsModel" "below" "J" ∈ lw_tbl := List.mem_append_right _ (List.mem_append_right _ (List.mem_append_right _ (List.mem_append_left _ (List.mem_of_getElem? (i := 229) rfl))))
theorem wm_63 : Cond.fieldLink RX6 41 "SluiceLevelsModel" "often" "[I" ∈ lw_tbl := List.mem_append_right _ (List.mem_append_right _ (List.mem_append_right _ (List.mem_append_left _ (List.mem_of_getElem? (i := 231) rfl))))
theorem wm_64 : Cond.fieldLink RX6 44 "SluiceLevelsModel" "readKind" "[I" ∈ lw_tbl := List.mem_append_right _ (List.mem_append_right _ (List.mem_append_right _ (List.mem_append_left _ (List.mem_of_getElem? (i := 236) rfl))))
theorem wm_65 : Cond.fieldLink RX6 47 "SluiceLevelsModel" "readWidth" "[I" ∈ lw_tbl := List.mem_append_right _ (List.mem_append_right _ (List.mem_append_right _ (List.mem_append_left _ (List.mem_of_getElem? (i := 237) rfl))))
theorem wm_66 : Cond.fieldLink RX6 50 "SluiceLevelsModel" "readSt" "[I" ∈ lw_tbl := List.mem_append_right _ (List.mem_append_right _ (List.mem_append_right _ (List.mem_append_left _ (List.mem_of_getElem? (i := 238) rfl))))
theorem wm_67 : Cond.fieldLink RX6 53 "SluiceLevelsModel" "now" "[I" ∈ lw_tbl := List.mem_append_right _ (List.mem_append_right _ (List.mem_append_right _ (List.mem_append_left _ (List.mem_of_getElem? (i := 239) rfl))))
theorem wm_68 : Cond.fieldLink RX6 56 "SluiceLevelsModel" "fits" "[Z" ∈ lw_tbl := List.mem_append_right _ (List.mem_append_right _ (List.mem_append_right _ (List.mem_append_right _ (List.mem_append_left _ (List.mem_of_getElem? (i := 0) rfl)))))
theorem wm_69 : Cond.fieldLink RX6 60 "SluiceLevelsModel" "behind" "[I" ∈ lw_tbl := List.mem_append_right _ (List.mem_append_right _ (List.mem_append_right _ (List.mem_append_right _ (List.mem_append_left _ (List.mem_of_getElem? (i := 1) rfl)))))
theorem wm_70 : Cond.fieldLink RX6 63 "SluiceLevelsModel" "worth" "[I" ∈ lw_tbl := List.mem_append_right _ (List.mem_append_right _ (List.mem_append_right _ (List.mem_append_right _ (List.mem_append_left _ (List.mem_of_getElem? (i := 3) rfl)))))
theorem wm_71 : Cond.fieldLink RX6 69 "SluiceLevelsModel" "found" "I" ∈ lw_tbl := List.mem_append_right _ (List.mem_append_right _ (List.mem_append_right _ (List.mem_append_left _ (List.mem_of_getElem? (i := 230) rfl))))
theorem wm_72 : Cond.fieldLink RX6 73 "SluiceLevelsModel" "told" "I" ∈ lw_tbl := List.mem_append_right _ (List.mem_append_right _ (List.mem_append_right _ (List.mem_append_left _ (List.mem_of_getElem? (i := 227) rfl))))
theorem wm_73 : Cond.fieldLink RX6 80 "SluiceLevelsModel" "gates" "I" ∈ lw_tbl := List.mem_append_right _ (List.mem_append_right _ (List.mem_append_right _ (List.mem_append_left _ (List.mem_of_getElem? (i := 220) rfl))))
theorem wm_74 : Cond.fieldLink RX6 100 "SluiceLevelsModel" "place" "I" ∈ lw_tbl := List.mem_append_right _ (List.mem_append_right _ (List.mem_append_right _ (List.mem_append_left _ (List.mem_of_getElem? (i := 233) rfl))))
theorem wm_75 : Cond.fieldLink RX6 103 "SluiceLevelsModel" "textAt" "I" ∈ lw_tbl := List.mem_append_right _ (List.mem_append_right _ (List.mem_append_right _ (List.mem_append_left _ (List.mem_of_getElem? (i := 232) rfl))))
theorem wm_76 : Cond.fieldLink RX6 110 "SluiceLevelsModel" "wrong" "I" ∈ lw_tbl := List.mem_append_right _ (List.mem_append_right _ (List.mem_append_right _ (List.mem_append_left _ (List.mem_of_getElem? (i := 234) rfl))))
theorem wm_77 : Cond.fieldLink RX6 120 "SluiceLevelsModel" "readGates" "I" ∈ lw_tbl := List.mem_append_right _ (List.mem_append_right _ (List.mem_append_right _ (List.mem_append_left _ (List.mem_of_getElem? (i := 235) rfl))))
theorem wm_78 : Cond.fieldLink RX6 139 "SluiceLevelsModel" "deeds" "I" ∈ lw_tbl := List.mem_append_right _ (List.mem_append_right _ (List.mem_append_right _ (List.mem_append_left _ (List.mem_of_getElem? (i := 224) rfl))))
theorem wm_79 : Cond.fieldLink RX6 202 "SluiceLevelsModel" "fitting" "I" ∈ lw_tbl := List.mem_append_right _ (List.mem_append_right _ (List.mem_append_right _ (List.mem_append_right _ (List.mem_append_left _ (List.mem_of_getElem? (i := 2) rfl)))))
theorem wm_80 : Cond.fieldLink RX6 217 "SluiceLevelsModel" "above" "J" ∈ lw_tbl := List.mem_append_right _ (List.mem_append_right _ (List.mem_append_right _ (List.mem_append_left _ (List.mem_of_getElem? (i := 228) rfl))))
theorem wm_81 : Cond.methodLink RX0 3 objectInit ∈ lw_tbl := List.mem_append_right _ (List.mem_append_left _ (List.mem_of_getElem? (i := 26) rfl))
theorem wm_82 : Cond.methodLinkNest RX0 11 yX4_init "SluiceLevels" ∈ lw_tbl := List.mem_append_right _ (List.mem_append_left _ (List.mem_of_getElem? (i := 29) rfl))
theorem wm_83 : Cond.instanceMethod yX4_init ∈ lw_tbl := List.mem_append_right _ (List.mem_append_left _ (List.mem_of_getElem? (i := 30) rfl))
theorem wm_84 : Cond.initialized RX4 ∈ lw_tbl := List.mem_append_right _ (List.mem_append_left _ (List.mem_of_getElem? (i := 3) rfl))
theorem wm_85 : Cond.methodLink RX0 35 yX4_takeFrom ∈ lw_tbl := List.mem_append_right _ (List.mem_append_right _ (List.mem_append_left _ (List.mem_of_getElem? (i := 43) rfl)))
theorem wm_86 : Cond.instanceMethod yX4_takeFrom ∈ lw_tbl := List.mem_append_right _ (List.mem_append_right _ (List.mem_append_left _ (List.mem_of_getElem? (i := 44) rfl)))
theorem wm_87 : Cond.selects RX4 yX4_takeFrom yX4_takeFrom ∈ lw_tbl := List.mem_append_right _ (List.mem_append_right _ (List.mem_append_left _ (List.mem_of_getElem? (i := 45) rfl)))
theorem wm_88 : Cond.methodLink RX0 39 arraycopyName ∈ lw_tbl := List.mem_append_right _ (List.mem_append_right _ (List.mem_append_left _ (List.mem_of_getElem? (i := 144) rfl)))
theorem wm_89 : Cond.methodLink RX0 45 yX0_isFull ∈ lw_tbl := List.mem_append_right _ (List.mem_append_right _ (List.mem_append_left _ (List.mem_of_getElem? (i := 143) rfl)))
theorem wm_90 : Cond.instanceMethod yX0_isFull ∈ lw_tbl := List.mem_append_right _ (List.mem_append_right _ (List.mem_append_left _ (List.mem_of_getElem? (i := 136) rfl)))
theorem wm_91 : Cond.selects RX0 yX0_isFull yX0_isFull ∈ lw_tbl := List.mem_append_right _ (List.mem_append_right _ (List.mem_append_left _ (List.mem_of_getElem? (i := 137) rfl)))
theorem wm_92 : Cond.initialized RX0 ∈ lw_tbl := List.mem_append_right _ (List.mem_append_left _ (List.mem_of_getElem? (i := 2) rfl))
theorem wm_93 : Cond.methodLink RX1 19 yX1_byteAt ∈ lw_tbl := List.mem_append_right _ (List.mem_append_right _ (List.mem_append_left _ (List.mem_of_getElem? (i := 9) rfl)))
theorem wm_94 : Cond.static yX1_byteAt ∈ lw_tbl := List.mem_append_right _ (List.mem_append_right _ (List.mem_append_left _ (List.mem_of_getElem? (i := 10) rfl)))
theorem wm_95 : Cond.initialized RX1 ∈ lw_tbl := List.mem_append_right _ (List.mem_append_left _ (List.mem_of_getElem? (i := 8) rfl))
theorem wm_96 : Cond.methodLink RX1 28 yX1_figureAt ∈ lw_tbl := List.mem_append_right _ (List.mem_append_right _ (List.mem_append_left _ (List.mem_of_getElem? (i := 15) rfl)))
theorem wm_97 : Cond.static yX1_figureAt ∈ lw_tbl := List.mem_append_right _ (List.mem_append_right _ (List.mem_append_left _ (List.mem_of_getElem? (i := 16) rfl)))
theorem wm_98 : Cond.methodLink RX1 31 yX1_levelAt ∈ lw_tbl := List.mem_append_right _ (List.mem_append_right _ (List.mem_append_left _ (List.mem_of_getElem? (i := 18) rfl)))
theorem wm_99 : Cond.static yX1_levelAt ∈ lw_tbl := List.mem_append_right _ (List.mem_append_right _ (List.mem_append_left _ (List.mem_of_getElem? (i := 19) rfl)))
theorem wm_100 : Cond.methodLink RX1 34 yX1_kindAt ∈ lw_tbl := List.mem_append_right _ (List.mem_append_right _ (List.mem_append_left _ (List.mem_of_getElem? (i := 27) rfl)))
theorem wm_101 : Cond.static yX1_kindAt ∈ lw_tbl := List.mem_append_right _ (List.mem_append_right _ (List.mem_append_left _ (List.mem_of_getElem? (i := 28) rfl)))
theorem wm_102 : Cond.methodLink RX1 37 yX1_levelFault ∈ lw_tbl := List.mem_append_right _ (List.mem_append_right _ (List.mem_append_left _ (List.mem_of_getElem? (i := 12) rfl)))
theorem wm_103 : Cond.static yX1_levelFault ∈ lw_tbl := List.mem_append_right _ (List.mem_append_right _ (List.mem_append_left _ (List.mem_of_getElem? (i := 13) rfl)))
theorem wm_104 : Cond.methodLink RX1 57 yX1_behindBlanks ∈ lw_tbl := List.mem_append_right _ (List.mem_append_right _ (List.mem_append_left _ (List.mem_of_getElem? (i := 6) rfl)))
theorem wm_105 : Cond.static yX1_behindBlanks ∈ lw_tbl := List.mem_append_right _ (List.mem_append_right _ (List.mem_append_left _ (List.mem_of_getElem? (i := 7) rfl)))
theorem wm_106 : Cond.methodLink RX1 63 yX1_readGates ∈ lw_tbl := List.mem_append_right _ (List.mem_append_right _ (List.mem_append_left _ (List.mem_of_getElem? (i := 21) rfl)))
theorem wm_107 : Cond.static yX1_readGates ∈ lw_tbl := List.mem_append_right _ (List.mem_append_right _ (List.mem_append_left _ (List.mem_of_getElem? (i := 22) rfl)))
theorem wm_108 : Cond.methodLink RX1 67 yX1_gateFault ∈ lw_tbl := List.mem_append_right _ (List.mem_append_right _ (List.mem_append_left _ (List.mem_of_getElem? (i := 24) rfl)))
theorem wm_109 : Cond.static yX1_gateFault ∈ lw_tbl := List.mem_append_right _ (List.mem_append_right _ (List.mem_append_left _ (List.mem_of_getElem? (i := 25) rfl)))
theorem wm_110 : Cond.methodLink RX1 70 yX1_takeGate ∈ lw_tbl := List.mem_append_right _ (List.mem_append_right _ (List.mem_append_left _ (List.mem_of_getElem? (i := 32) rfl)))
theorem wm_111 : Cond.static yX1_takeGate ∈ lw_tbl := List.mem_append_right _ (List.mem_append_right _ (List.mem_append_left _ (List.mem_of_getElem? (i := 33) rfl)))
theorem wm_112 : Cond.methodLink RX2 3 objectInit ∈ lw_tbl := List.mem_append_right _ (List.mem_append_left _ (List.mem_of_getElem? (i := 114) rfl))
theorem wm_113 : Cond.methodLink RX3 3 objectInit ∈ lw_tbl := List.mem_append_right _ (List.mem_append_left _ (List.mem_of_getElem? (i := 95) rfl))
theorem wm_114 : Cond.methodLink RX3 25 arraycopyName ∈ lw_tbl := List.mem_append_right _ (List.mem_append_right _ (List.mem_append_right _ (List.mem_append_left _ (List.mem_of_getElem? (i := 33) rfl))))
theorem wm_115 : Cond.methodLink RX3 31 yX3_add ∈ lw_tbl := List.mem_append_right _ (List.mem_append_right _ (List.mem_append_right _ (List.mem_append_left _ (List.mem_of_getElem? (i := 34) rfl))))
theorem wm_116 : Cond.instanceMethod yX3_add ∈ lw_tbl := List.mem_append_right _ (List.mem_append_right _ (List.mem_append_right _ (List.mem_append_left _ (List.mem_of_getElem? (i := 35) rfl))))
theorem wm_117 : Cond.selects RX3 yX3_add yX3_add ∈ lw_tbl := List.mem_append_right _ (List.mem_append_right _ (List.mem_append_right _ (List.mem_append_left _ (List.mem_of_getElem? (i := 36) rfl))))
theorem wm_118 : Cond.initialized RX3 ∈ lw_tbl := List.mem_append_right _ (List.mem_append_left _ (List.mem_of_getElem? (i := 4) rfl))
theorem wm_119 : Cond.methodLinkNest RX3 35 yX5_isLevel "SluiceLevels" ∈ lw_tbl := List.mem_append_right _ (List.mem_append_right _ (List.mem_append_right _ (List.mem_append_left _ (List.mem_of_getElem? (i := 70) rfl))))
theorem wm_120 : Cond.static yX5_isLevel ∈ lw_tbl := List.mem_append_right _ (List.mem_append_right _ (List.mem_append_left _ (List.mem_of_getElem? (i := 202) rfl)))
theorem wm_121 : Cond.initialized RX5 ∈ lw_tbl := List.mem_append_right _ (List.mem_append_left _ (List.mem_of_getElem? (i := 1) rfl))
theorem wm_122 : Cond.methodLink RX3 39 Lib.Math.max.name ∈ lw_tbl := List.mem_append_right _ (List.mem_append_right _ (List.mem_append_right _ (List.mem_append_left _ (List.mem_of_getElem? (i := 71) rfl))))
theorem wm_123 : Cond.methodLink RX4 3 objectInit ∈ lw_tbl := List.mem_append_right _ (List.mem_append_left _ (List.mem_of_getElem? (i := 32) rfl))
theorem wm_124 : Cond.methodLink RX4 21 arraycopyName ∈ lw_tbl := List.mem_append_right _ (List.mem_append_right _ (List.mem_append_left _ (List.mem_of_getElem? (i := 47) rfl)))
theorem wm_125 : Cond.methodLink RX4 37 yX4_basins ∈ lw_tbl := List.mem_append_right _ (List.mem_append_right _ (List.mem_append_left _ (List.mem_of_getElem? (i := 60) rfl)))
theorem wm_126 : Cond.instanceMethod yX4_basins ∈ lw_tbl := List.mem_append_right _ (List.mem_append_right _ (List.mem_append_left _ (List.mem_of_getElem? (i := 61) rfl)))
theorem wm_127 : Cond.selects RX4 yX4_basins yX4_basins ∈ lw_tbl := List.mem_append_right _ (List.mem_append_right _ (List.mem_append_left _ (List.mem_of_getElem? (i := 62) rfl)))
theorem wm_128 : Cond.methodLink RX4 41 yX4_isWeir ∈ lw_tbl := List.mem_append_right _ (List.mem_append_right _ (List.mem_append_left _ (List.mem_of_getElem? (i := 80) rfl)))
theorem wm_129 : Cond.instanceMethod yX4_isWeir ∈ lw_tbl := List.mem_append_right _ (List.mem_append_right _ (List.mem_append_left _ (List.mem_of_getElem? (i := 81) rfl)))
theorem wm_130 : Cond.selects RX4 yX4_isWeir yX4_isWeir ∈ lw_tbl := List.mem_append_right _ (List.mem_append_right _ (List.mem_append_left _ (List.mem_of_getElem? (i := 82) rfl)))
theorem wm_131 : Cond.methodLinkNest RX4 45 yX5_hasBit "SluiceLevels" ∈ lw_tbl := List.mem_append_right _ (List.mem_append_right _ (List.mem_append_left _ (List.mem_of_getElem? (i := 84) rfl)))
theorem wm_132 : Cond.static yX5_hasBit ∈ lw_tbl := List.mem_append_right _ (List.mem_append_right _ (List.mem_append_left _ (List.mem_of_getElem? (i := 85) rfl)))
theorem wm_133 : Cond.methodLink RX4 49 yX4_allGates ∈ lw_tbl := List.mem_append_right _ (List.mem_append_right _ (List.mem_append_right _ (List.mem_append_left _ (List.mem_of_getElem? (i := 125) rfl))))
theorem wm_134 : Cond.instanceMethod yX4_allGates ∈ lw_tbl := List.mem_append_right _ (List.mem_append_right _ (List.mem_append_left _ (List.mem_of_getElem? (i := 228) rfl)))
theorem wm_135 : Cond.selects RX4 yX4_allGates yX4_allGates ∈ lw_tbl := List.mem_append_right _ (List.mem_append_right _ (List.mem_append_left _ (List.mem_of_getElem? (i := 229) rfl)))
theorem wm_136 : Cond.methodLink RX4 52 yX4_weirs ∈ lw_tbl := List.mem_append_right _ (List.mem_append_right _ (List.mem_append_right _ (List.mem_append_left _ (List.mem_of_getElem? (i := 126) rfl))))
theorem wm_137 : Cond.instanceMethod yX4_weirs ∈ lw_tbl := List.mem_append_right _ (List.mem_append_right _ (List.mem_append_left _ (List.mem_of_getElem? (i := 224) rfl)))
theorem wm_138 : Cond.selects RX4 yX4_weirs yX4_weirs ∈ lw_tbl := List.mem_append_right _ (List.mem_append_right _ (List.mem_append_left _ (List.mem_of_getElem? (i := 225) rfl)))
theorem wm_139 : Cond.methodLinkNest RX4 55 yX5_flowOf "SluiceLevels" ∈ lw_tbl := List.mem_append_right _ (List.mem_append_right _ (List.mem_append_left _ (List.mem_of_getElem? (i := 91) rfl)))
theorem wm_140 : Cond.static yX5_flowOf ∈ lw_tbl := List.mem_append_right _ (List.mem_append_right _ (List.mem_append_left _ (List.mem_of_getElem? (i := 92) rfl)))
theorem wm_141 : Cond.methodLink RX4 59 yX4_isOpen ∈ lw_tbl := List.mem_append_right _ (List.mem_append_right _ (List.mem_append_left _ (List.mem_of_getElem? (i := 149) rfl)))
theorem wm_142 : Cond.instanceMethod yX4_isOpen ∈ lw_tbl := List.mem_append_right _ (List.mem_append_right _ (List.mem_append_left _ (List.mem_of_getElem? (i := 77) rfl)))
theorem wm_143 : Cond.selects RX4 yX4_isOpen yX4_isOpen ∈ lw_tbl := List.mem_append_right _ (List.mem_append_right _ (List.mem_append_left _ (List.mem_of_getElem? (i := 78) rfl)))
theorem wm_144 : Cond.methodLink RX4 62 yX4_flowNow ∈ lw_tbl := List.mem_append_right _ (List.mem_append_right _ (List.mem_append_left _ (List.mem_of_getElem? (i := 150) rfl)))
theorem wm_145 : Cond.instanceMethod yX4_flowNow ∈ lw_tbl := List.mem_append_right _ (List.mem_append_right _ (List.mem_append_left _ (List.mem_of_getElem? (i := 88) rfl)))
theorem wm_146 : Cond.selects RX4 yX4_flowNow yX4_flowNow ∈ lw_tbl := List.mem_append_right _ (List.mem_append_right _ (List.mem_append_left _ (List.mem_of_getElem? (i := 89) rfl)))
theorem wm_147 : Cond.methodLink RX4 66 yX4_passTurn ∈ lw_tbl := List.mem_append_right _ (List.mem_append_right _ (List.mem_append_left _ (List.mem_of_getElem? (i := 214) rfl)))
theorem wm_148 : Cond.instanceMethod yX4_passTurn ∈ lw_tbl := List.mem_append_right _ (List.mem_append_right _ (List.mem_append_left _ (List.mem_of_getElem? (i := 146) rfl)))
theorem wm_149 : Cond.selects RX4 yX4_passTurn yX4_passTurn ∈ lw_tbl := List.mem_append_right _ (List.mem_append_right _ (List.mem_append_left _ (List.mem_of_getElem? (i := 147) rfl)))
theorem wm_150 : Cond.methodLink RX4 69 Lib.Math.min.name ∈ lw_tbl := List.mem_append_right _ (List.mem_append_right _ (List.mem_append_left _ (List.mem_of_getElem? (i := 168) rfl)))
theorem wm_151 : Cond.methodLink RX4 75 Lib.Math.max.name ∈ lw_tbl := List.mem_append_right _ (List.mem_append_right _ (List.mem_append_left _ (List.mem_of_getElem? (i := 169) rfl)))
theorem wm_152 : Cond.methodLinkNest RX4 78 yX5_isOfKind "SluiceLevels" ∈ lw_tbl := List.mem_append_right _ (List.mem_append_right _ (List.mem_append_right _ (List.mem_append_left _ (List.mem_of_getElem? (i := 176) rfl))))
theorem wm_153 : Cond.static yX5_isOfKind ∈ lw_tbl := List.mem_append_right _ (List.mem_append_right _ (List.mem_append_left _ (List.mem_of_getElem? (i := 120) rfl)))
theorem wm_154 : Cond.methodLink RX5 1 objectInit ∈ lw_tbl := List.mem_append_right _ (List.mem_append_left _ (List.mem_of_getElem? (i := 16) rfl))
theorem wm_155 : Cond.methodLinkNest RX5 20 yX0_init "SluiceLevels" ∈ lw_tbl := List.mem_append_right _ (List.mem_append_left _ (List.mem_of_getElem? (i := 23) rfl))
theorem wm_156 : Cond.instanceMethod yX0_init ∈ lw_tbl := List.mem_append_right _ (List.mem_append_left _ (List.mem_of_getElem? (i := 24) rfl))
theorem wm_157 : Cond.methodLinkNest RX5 31 yX4_init "SluiceLevels" ∈ lw_tbl := List.mem_append_right _ (List.mem_append_left _ (List.mem_of_getElem? (i := 89) rfl))
theorem wm_158 : Cond.methodLinkNest RX5 38 yX3_init "SluiceLevels" ∈ lw_tbl := List.mem_append_right _ (List.mem_append_left _ (List.mem_of_getElem? (i := 92) rfl))
theorem wm_159 : Cond.instanceMethod yX3_init ∈ lw_tbl := List.mem_append_right _ (List.mem_append_left _ (List.mem_of_getElem? (i := 93) rfl))
theorem wm_160 : Cond.methodLink RX5 57 yX2_init ∈ lw_tbl := List.mem_append_right _ (List.mem_append_left _ (List.mem_of_getElem? (i := 111) rfl))
theorem wm_161 : Cond.instanceMethod yX2_init ∈ lw_tbl := List.mem_append_right _ (List.mem_append_left _ (List.mem_of_getElem? (i := 112) rfl))
theorem wm_162 : Cond.initialized RX2 ∈ lw_tbl := List.mem_append_right _ (List.mem_append_left _ (List.mem_of_getElem? (i := 5) rfl))
theorem wm_163 : Cond.methodLink RX5 60 yX5_isRow ∈ lw_tbl := List.mem_append_right _ (List.mem_append_left _ (List.mem_of_getElem? (i := 170) rfl))
theorem wm_164 : Cond.static yX5_isRow ∈ lw_tbl := List.mem_append_right _ (List.mem_append_left _ (List.mem_of_getElem? (i := 171) rfl))
theorem wm_165 : Cond.methodLink RX5 64 yX5_makeRow ∈ lw_tbl := List.mem_append_right _ (List.mem_append_left _ (List.mem_of_getElem? (i := 173) rfl))
theorem wm_166 : Cond.instanceMethod yX5_makeRow ∈ lw_tbl := List.mem_append_right _ (List.mem_append_left _ (List.mem_of_getElem? (i := 175) rfl))
theorem wm_167 : Cond.selects RX5 yX5_makeRow yX5_makeRow ∈ lw_tbl := List.mem_append_left _ (List.mem_of_getElem? (i := 0) rfl)
theorem wm_168 : Cond.methodLink RX5 68 yX5_refusalOfPlace ∈ lw_tbl := List.mem_append_right _ (List.mem_append_left _ (List.mem_of_getElem? (i := 189) rfl))
theorem wm_169 : Cond.instanceMethod yX5_refusalOfPlace ∈ lw_tbl := List.mem_append_right _ (List.mem_append_left _ (List.mem_of_getElem? (i := 191) rfl))
theorem wm_170 : Cond.selects RX5 yX5_refusalOfPlace yX5_refusalOfPlace ∈ lw_tbl := List.mem_append_left _ (List.mem_of_getElem? (i := 2) rfl)
theorem wm_171 : Cond.methodLink RX5 75 yX5_tell ∈ lw_tbl := List.mem_append_right _ (List.mem_append_left _ (List.mem_of_getElem? (i := 201) rfl))
theorem wm_172 : Cond.instanceMethod yX5_tell ∈ lw_tbl := List.mem_append_right _ (List.mem_append_left _ (List.mem_of_getElem? (i := 203) rfl))
theorem wm_173 : Cond.selects RX5 yX5_tell yX5_tell ∈ lw_tbl := List.mem_append_left _ (List.mem_of_getElem? (i := 3) rfl)
theorem wm_174 : Cond.methodLink RX5 79 yX2_isThere ∈ lw_tbl := List.mem_append_right _ (List.mem_append_left _ (List.mem_of_getElem? (i := 193) rfl))
theorem wm_175 : Cond.instanceMethod yX2_isThere ∈ lw_tbl := List.mem_append_right _ (List.mem_append_left _ (List.mem_of_getElem? (i := 194) rfl))
theorem wm_176 : Cond.selects RX2 yX2_isThere yX2_isThere ∈ lw_tbl := List.mem_append_right _ (List.mem_append_left _ (List.mem_of_getElem? (i := 195) rfl))
theorem wm_177 : Cond.methodLink RX5 83 yX5_refuse ∈ lw_tbl := List.mem_append_right _ (List.mem_append_left _ (List.mem_of_getElem? (i := 177) rfl))
theorem wm_178 : Cond.instanceMethod yX5_refuse ∈ lw_tbl := List.mem_append_right _ (List.mem_append_left _ (List.mem_of_getElem? (i := 179) rfl))
theorem wm_179 : Cond.selects RX5 yX5_refuse yX5_refuse ∈ lw_tbl := List.mem_append_left _ (List.mem_of_getElem? (i := 1) rfl)
theorem wm_180 : Cond.methodLink RX5 90 yX2_hasPlaces ∈ lw_tbl := List.mem_append_right _ (List.mem_append_left _ (List.mem_of_getElem? (i := 217) rfl))
theorem wm_181 : Cond.instanceMethod yX2_hasPlaces ∈ lw_tbl := List.mem_append_right _ (List.mem_append_left _ (List.mem_of_getElem? (i := 218) rfl))
theorem wm_182 : Cond.selects RX2 yX2_hasPlaces yX2_hasPlaces ∈ lw_tbl := List.mem_append_right _ (List.mem_append_left _ (List.mem_of_getElem? (i := 219) rfl))
theorem wm_183 : Cond.methodLink RX5 94 arraycopyName ∈ lw_tbl := List.mem_append_right _ (List.mem_append_left _ (List.mem_of_getElem? (i := 221) rfl))
theorem wm_184 : Cond.methodLink RX5 100 yX5_isText ∈ lw_tbl := List.mem_append_right _ (List.mem_append_left _ (List.mem_of_getElem? (i := 232) rfl))
theorem wm_185 : Cond.static yX5_isText ∈ lw_tbl := List.mem_append_right _ (List.mem_append_left _ (List.mem_of_getElem? (i := 233) rfl))
theorem wm_186 : Cond.methodLink RX5 103 yX1_read ∈ lw_tbl := List.mem_append_right _ (List.mem_append_right _ (List.mem_append_left _ (List.mem_of_getElem? (i := 3) rfl)))
theorem wm_187 : Cond.static yX1_read ∈ lw_tbl := List.mem_append_right _ (List.mem_append_right _ (List.mem_append_left _ (List.mem_of_getElem? (i := 4) rfl)))
theorem wm_188 : Cond.methodLink RX5 109 yX0_start ∈ lw_tbl := List.mem_append_right _ (List.mem_append_right _ (List.mem_append_left _ (List.mem_of_getElem? (i := 39) rfl)))
theorem wm_189 : Cond.instanceMethod yX0_start ∈ lw_tbl := List.mem_append_right _ (List.mem_append_right _ (List.mem_append_left _ (List.mem_of_getElem? (i := 40) rfl)))
theorem wm_190 : Cond.selects RX0 yX0_start yX0_start ∈ lw_tbl := List.mem_append_right _ (List.mem_append_right _ (List.mem_append_left _ (List.mem_of_getElem? (i := 41) rfl)))
theorem wm_191 : Cond.methodLink RX5 119 yX0_isThere ∈ lw_tbl := List.mem_append_right _ (List.mem_append_right _ (List.mem_append_left _ (List.mem_of_getElem? (i := 52) rfl)))
theorem wm_192 : Cond.instanceMethod yX0_isThere ∈ lw_tbl := List.mem_append_right _ (List.mem_append_right _ (List.mem_append_left _ (List.mem_of_getElem? (i := 53) rfl)))
theorem wm_193 : Cond.selects RX0 yX0_isThere yX0_isThere ∈ lw_tbl := List.mem_append_right _ (List.mem_append_right _ (List.mem_append_left _ (List.mem_of_getElem? (i := 54) rfl)))
theorem wm_194 : Cond.methodLink RX5 120 yX4_hasBasin ∈ lw_tbl := List.mem_append_right _ (List.mem_append_right _ (List.mem_append_left _ (List.mem_of_getElem? (i := 56) rfl)))
theorem wm_195 : Cond.instanceMethod yX4_hasBasin ∈ lw_tbl := List.mem_append_right _ (List.mem_append_right _ (List.mem_append_left _ (List.mem_of_getElem? (i := 57) rfl)))
theorem wm_196 : Cond.selects RX4 yX4_hasBasin yX4_hasBasin ∈ lw_tbl := List.mem_append_right _ (List.mem_append_right _ (List.mem_append_left _ (List.mem_of_getElem? (i := 58) rfl)))
theorem wm_197 : Cond.methodLink RX5 126 yX4_hasGate ∈ lw_tbl := List.mem_append_right _ (List.mem_append_right _ (List.mem_append_left _ (List.mem_of_getElem? (i := 68) rfl)))
theorem wm_198 : Cond.instanceMethod yX4_hasGate ∈ lw_tbl := List.mem_append_right _ (List.mem_append_right _ (List.mem_append_left _ (List.mem_of_getElem? (i := 69) rfl)))
theorem wm_199 : Cond.selects RX4 yX4_hasGate yX4_hasGate ∈ lw_tbl := List.mem_append_right _ (List.mem_append_right _ (List.mem_append_left _ (List.mem_of_getElem? (i := 70) rfl)))
theorem wm_200 : Cond.methodLink RX5 129 yX5_gateFact ∈ lw_tbl := List.mem_append_right _ (List.mem_append_right _ (List.mem_append_left _ (List.mem_of_getElem? (i := 72) rfl)))
theorem wm_201 : Cond.instanceMethod yX5_gateFact ∈ lw_tbl := List.mem_append_right _ (List.mem_append_right _ (List.mem_append_left _ (List.mem_of_getElem? (i := 74) rfl)))
theorem wm_202 : Cond.selects RX5 yX5_gateFact yX5_gateFact ∈ lw_tbl := List.mem_append_left _ (List.mem_of_getElem? (i := 4) rfl)
theorem wm_203 : Cond.methodLink RX5 136 yX5_isOfKind ∈ lw_tbl := List.mem_append_right _ (List.mem_append_right _ (List.mem_append_left _ (List.mem_of_getElem? (i := 119) rfl)))
theorem wm_204 : Cond.methodLink RX5 139 yX5_markOf ∈ lw_tbl := List.mem_append_right _ (List.mem_append_right _ (List.mem_append_left _ (List.mem_of_getElem? (i := 124) rfl)))
theorem wm_205 : Cond.instanceMethod yX5_markOf ∈ lw_tbl := List.mem_append_right _ (List.mem_append_right _ (List.mem_append_left _ (List.mem_of_getElem? (i := 126) rfl)))
theorem wm_206 : Cond.selects RX5 yX5_markOf yX5_markOf ∈ lw_tbl := List.mem_append_left _ (List.mem_of_getElem? (i := 5) rfl)
theorem wm_207 : Cond.methodLink RX5 142 yX0_isFull ∈ lw_tbl := List.mem_append_right _ (List.mem_append_right _ (List.mem_append_left _ (List.mem_of_getElem? (i := 135) rfl)))
theorem wm_208 : Cond.methodLink RX5 145 yX0_beginDeed ∈ lw_tbl := List.mem_append_right _ (List.mem_append_right _ (List.mem_append_left _ (List.mem_of_getElem? (i := 139) rfl)))
theorem wm_209 : Cond.instanceMethod yX0_beginDeed ∈ lw_tbl := List.mem_append_right _ (List.mem_append_right _ (List.mem_append_left _ (List.mem_of_getElem? (i := 140) rfl)))
theorem wm_210 : Cond.selects RX0 yX0_beginDeed yX0_beginDeed ∈ lw_tbl := List.mem_append_right _ (List.mem_append_right _ (List.mem_append_left _ (List.mem_of_getElem? (i := 141) rfl)))
theorem wm_211 : Cond.methodLink RX5 148 yX4_passTurn ∈ lw_tbl := List.mem_append_right _ (List.mem_append_right _ (List.mem_append_left _ (List.mem_of_getElem? (i := 145) rfl)))
theorem wm_212 : Cond.methodLink RX5 151 yX4_isWeir ∈ lw_tbl := List.mem_append_right _ (List.mem_append_right _ (List.mem_append_left _ (List.mem_of_getElem? (i := 155) rfl)))
theorem wm_213 : Cond.methodLink RX5 157 yX4_isOpen ∈ lw_tbl := List.mem_append_right _ (List.mem_append_right _ (List.mem_append_left _ (List.mem_of_getElem? (i := 76) rfl)))
theorem wm_214 : Cond.methodLink RX5 160 yX5_changeLevel ∈ lw_tbl := List.mem_append_right _ (List.mem_append_right _ (List.mem_append_left _ (List.mem_of_getElem? (i := 160) rfl)))
theorem wm_215 : Cond.instanceMethod yX5_changeLevel ∈ lw_tbl := List.mem_append_right _ (List.mem_append_right _ (List.mem_append_left _ (List.mem_of_getElem? (i := 162) rfl)))
theorem wm_216 : Cond.selects RX5 yX5_changeLevel yX5_changeLevel ∈ lw_tbl := List.mem_append_left _ (List.mem_of_getElem? (i := 6) rfl)
theorem wm_217 : Cond.methodLink RX5 167 yX0_goBackTo ∈ lw_tbl := List.mem_append_right _ (List.mem_append_right _ (List.mem_append_left _ (List.mem_of_getElem? (i := 178) rfl)))
theorem wm_218 : Cond.instanceMethod yX0_goBackTo ∈ lw_tbl := List.mem_append_right _ (List.mem_append_right _ (List.mem_append_left _ (List.mem_of_getElem? (i := 179) rfl)))
theorem wm_219 : Cond.selects RX0 yX0_goBackTo yX0_goBackTo ∈ lw_tbl := List.mem_append_right _ (List.mem_append_right _ (List.mem_append_left _ (List.mem_of_getElem? (i := 180) rfl)))
theorem wm_220 : Cond.methodLink RX5 170 yX5_isKeptPlace ∈ lw_tbl := List.mem_append_right _ (List.mem_append_right _ (List.mem_append_left _ (List.mem_of_getElem? (i := 186) rfl)))
theorem wm_221 : Cond.static yX5_isKeptPlace ∈ lw_tbl := List.mem_append_right _ (List.mem_append_right _ (List.mem_append_left _ (List.mem_of_getElem? (i := 187) rfl)))
theorem wm_222 : Cond.methodLink RX5 173 yX0_takeFrom ∈ lw_tbl := List.mem_append_right _ (List.mem_append_right _ (List.mem_append_left _ (List.mem_of_getElem? (i := 189) rfl)))
theorem wm_223 : Cond.instanceMethod yX0_takeFrom ∈ lw_tbl := List.mem_append_right _ (List.mem_append_right _ (List.mem_append_left _ (List.mem_of_getElem? (i := 190) rfl)))
theorem wm_224 : Cond.selects RX0 yX0_takeFrom yX0_takeFrom ∈ lw_tbl := List.mem_append_right _ (List.mem_append_right _ (List.mem_append_left _ (List.mem_of_getElem? (i := 191) rfl)))
theorem wm_225 : Cond.methodLink RX5 177 yX5_isLevel ∈ lw_tbl := List.mem_append_right _ (List.mem_append_right _ (List.mem_append_left _ (List.mem_of_getElem? (i := 201) rfl)))
theorem wm_226 : Cond.methodLink RX5 183 yX5_flowOf ∈ lw_tbl := List.mem_append_right _ (List.mem_append_right _ (List.mem_append_left _ (List.mem_of_getElem? (i := 204) rfl)))
theorem wm_227 : Cond.methodLink RX5 187 yX4_takeFrom ∈ lw_tbl := List.mem_append_right _ (List.mem_append_right _ (List.mem_append_left _ (List.mem_of_getElem? (i := 209) rfl)))
theorem wm_228 : Cond.methodLink RX5 189 yX4_passTurns ∈ lw_tbl := List.mem_append_right _ (List.mem_append_right _ (List.mem_append_left _ (List.mem_of_getElem? (i := 210) rfl)))
theorem wm_229 : Cond.instanceMethod yX4_passTurns ∈ lw_tbl := List.mem_append_right _ (List.mem_append_right _ (List.mem_append_left _ (List.mem_of_getElem? (i := 211) rfl)))
theorem wm_230 : Cond.selects RX4 yX4_passTurns yX4_passTurns ∈ lw_tbl := List.mem_append_right _ (List.mem_append_right _ (List.mem_append_left _ (List.mem_of_getElem? (i := 212) rfl)))
theorem wm_231 : Cond.methodLink RX5 192 yX4_weirs ∈ lw_tbl := List.mem_append_right _ (List.mem_append_right _ (List.mem_append_left _ (List.mem_of_getElem? (i := 223) rfl)))
theorem wm_232 : Cond.methodLink RX5 196 yX4_allGates ∈ lw_tbl := List.mem_append_right _ (List.mem_append_right _ (List.mem_append_left _ (List.mem_of_getElem? (i := 227) rfl)))
theorem wm_233 : Cond.methodLink RX5 199 yJ6_bitCount_0f7a4 ∈ lw_tbl := List.mem_append_right _ (List.mem_append_right _ (List.mem_append_left _ (List.mem_of_getElem? (i := 231) rfl)))
theorem wm_234 : Cond.static yJ6_bitCount_0f7a4 ∈ lw_tbl := List.mem_append_right _ (List.mem_append_right _ (List.mem_append_left _ (List.mem_of_getElem? (i := 232) rfl)))
theorem wm_235 : Cond.initialized RJ6 ∈ lw_tbl := List.mem_append_right _ (List.mem_append_left _ (List.mem_of_getElem? (i := 10) rfl))
theorem wm_236 : Cond.methodLink RX5 204 yX5_standsAside ∈ lw_tbl := List.mem_append_right _ (List.mem_append_right _ (List.mem_append_left _ (List.mem_of_getElem? (i := 237) rfl)))
theorem wm_237 : Cond.instanceMethod yX5_standsAside ∈ lw_tbl := List.mem_append_right _ (List.mem_append_right _ (List.mem_append_left _ (List.mem_of_getElem? (i := 239) rfl)))
theorem wm_238 : Cond.selects RX5 yX5_standsAside yX5_standsAside ∈ lw_tbl := List.mem_append_left _ (List.mem_of_getElem? (i := 7) rfl)
theorem wm_239 : Cond.methodLink RX5 208 yX4_spread ∈ lw_tbl := List.mem_append_right _ (List.mem_append_right _ (List.mem_append_right _ (List.mem_append_left _ (List.mem_of_getElem? (i := 5) rfl))))
theorem wm_240 : Cond.instanceMethod yX4_spread ∈ lw_tbl := List.mem_append_right _ (List.mem_append_right _ (List.mem_append_right _ (List.mem_append_left _ (List.mem_of_getElem? (i := 6) rfl))))
theorem wm_241 : Cond.selects RX4 yX4_spread yX4_spread ∈ lw_tbl := List.mem_append_right _ (List.mem_append_right _ (List.mem_append_right _ (List.mem_append_left _ (List.mem_of_getElem? (i := 7) rfl))))
theorem wm_242 : Cond.methodLink RX5 211 yX5_refusalOfSeen ∈ lw_tbl := List.mem_append_right _ (List.mem_append_right _ (List.mem_append_right _ (List.mem_append_left _ (List.mem_of_getElem? (i := 13) rfl))))
theorem wm_243 : Cond.instanceMethod yX5_refusalOfSeen ∈ lw_tbl := List.mem_append_right _ (List.mem_append_right _ (List.mem_append_right _ (List.mem_append_left _ (List.mem_of_getElem? (i := 15) rfl))))
theorem wm_244 : Cond.selects RX5 yX5_refusalOfSeen yX5_refusalOfSeen ∈ lw_tbl := List.mem_append_left _ (List.mem_of_getElem? (i := 8) rfl)
theorem wm_245 : Cond.methodLink RX5 215 yX5_findSetsBySeen ∈ lw_tbl := List.mem_append_right _ (List.mem_append_right _ (List.mem_append_right _ (List.mem_append_left _ (List.mem_of_getElem? (i := 17) rfl))))
theorem wm_246 : Cond.instanceMethod yX5_findSetsBySeen ∈ lw_tbl := List.mem_append_right _ (List.mem_append_right _ (List.mem_append_right _ (List.mem_append_left _ (List.mem_of_getElem? (i := 19) rfl))))
theorem wm_247 : Cond.selects RX5 yX5_findSetsBySeen yX5_findSetsBySeen ∈ lw_tbl := List.mem_append_left _ (List.mem_of_getElem? (i := 9) rfl)
theorem wm_248 : Cond.methodLink RX5 220 yX5_tellPart ∈ lw_tbl := List.mem_append_right _ (List.mem_append_right _ (List.mem_append_right _ (List.mem_append_left _ (List.mem_of_getElem? (i := 38) rfl))))
theorem wm_249 : Cond.instanceMethod yX5_tellPart ∈ lw_tbl := List.mem_append_right _ (List.mem_append_right _ (List.mem_append_right _ (List.mem_append_left _ (List.mem_of_getElem? (i := 40) rfl))))
theorem wm_250 : Cond.selects RX5 yX5_tellPart yX5_tellPart ∈ lw_tbl := List.mem_append_left _ (List.mem_of_getElem? (i := 11) rfl)
theorem wm_251 : Cond.methodLink RX5 224 yX3_least ∈ lw_tbl := List.mem_append_right _ (List.mem_append_right _ (List.mem_append_right _ (List.mem_append_left _ (List.mem_of_getElem? (i := 45) rfl))))
theorem wm_252 : Cond.instanceMethod yX3_least ∈ lw_tbl := List.mem_append_right _ (List.mem_append_right _ (List.mem_append_right _ (List.mem_append_left _ (List.mem_of_getElem? (i := 46) rfl))))
theorem wm_253 : Cond.selects RX3 yX3_least yX3_least ∈ lw_tbl := List.mem_append_right _ (List.mem_append_right _ (List.mem_append_right _ (List.mem_append_left _ (List.mem_of_getElem? (i := 47) rfl))))
theorem wm_254 : Cond.methodLink RX5 227 yX3_inNone ∈ lw_tbl := List.mem_append_right _ (List.mem_append_right _ (List.mem_append_right _ (List.mem_append_left _ (List.mem_of_getElem? (i := 53) rfl))))
theorem wm_255 : Cond.instanceMethod yX3_inNone ∈ lw_tbl := List.mem_append_right _ (List.mem_append_right _ (List.mem_append_right _ (List.mem_append_left _ (List.mem_of_getElem? (i := 54) rfl))))
theorem wm_256 : Cond.selects RX3 yX3_inNone yX3_inNone ∈ lw_tbl := List.mem_append_right _ (List.mem_append_right _ (List.mem_append_right _ (List.mem_append_left _ (List.mem_of_getElem? (i := 55) rfl))))
theorem wm_257 : Cond.methodLink RX5 230 yX3_inEach ∈ lw_tbl := List.mem_append_right _ (List.mem_append_right _ (List.mem_append_right _ (List.mem_append_left _ (List.mem_of_getElem? (i := 57) rfl))))
theorem wm_258 : Cond.instanceMethod yX3_inEach ∈ lw_tbl := List.mem_append_right _ (List.mem_append_right _ (List.mem_append_right _ (List.mem_append_left _ (List.mem_of_getElem? (i := 58) rfl))))
theorem wm_259 : Cond.selects RX3 yX3_inEach yX3_inEach ∈ lw_tbl := List.mem_append_right _ (List.mem_append_right _ (List.mem_append_right _ (List.mem_append_left _ (List.mem_of_getElem? (i := 59) rfl))))
theorem wm_260 : Cond.methodLink RX5 233 yX4_basins ∈ lw_tbl := List.mem_append_right _ (List.mem_append_right _ (List.mem_append_right _ (List.mem_append_left _ (List.mem_of_getElem? (i := 65) rfl))))
theorem wm_261 : Cond.methodLink RX5 236 yX3_greatestPart ∈ lw_tbl := List.mem_append_right _ (List.mem_append_right _ (List.mem_append_right _ (List.mem_append_left _ (List.mem_of_getElem? (i := 66) rfl))))
theorem wm_262 : Cond.instanceMethod yX3_greatestPart ∈ lw_tbl := List.mem_append_right _ (List.mem_append_right _ (List.mem_append_right _ (List.mem_append_left _ (List.mem_of_getElem? (i := 67) rfl))))
theorem wm_263 : Cond.selects RX3 yX3_greatestPart yX3_greatestPart ∈ lw_tbl := List.mem_append_right _ (List.mem_append_right _ (List.mem_append_right _ (List.mem_append_left _ (List.mem_of_getElem? (i := 68) rfl))))
theorem wm_264 : Cond.methodLink RX5 239 yX5_asideStandsAs ∈ lw_tbl := List.mem_append_right _ (List.mem_append_right _ (List.mem_append_right _ (List.mem_append_left _ (List.mem_of_getElem? (i := 25) rfl))))
theorem wm_265 : Cond.instanceMethod yX5_asideStandsAs ∈ lw_tbl := List.mem_append_right _ (List.mem_append_right _ (List.mem_append_right _ (List.mem_append_left _ (List.mem_of_getElem? (i := 27) rfl))))
theorem wm_266 : Cond.selects RX5 yX5_asideStandsAs yX5_asideStandsAs ∈ lw_tbl := List.mem_append_left _ (List.mem_of_getElem? (i := 10) rfl)
theorem wm_267 : Cond.methodLink RX5 243 yX5_refusalOfWidths ∈ lw_tbl := List.mem_append_right _ (List.mem_append_right _ (List.mem_append_right _ (List.mem_append_left _ (List.mem_of_getElem? (i := 84) rfl))))
theorem wm_268 : Cond.instanceMethod yX5_refusalOfWidths ∈ lw_tbl := List.mem_append_right _ (List.mem_append_right _ (List.mem_append_right _ (List.mem_append_left _ (List.mem_of_getElem? (i := 86) rfl))))
theorem wm_269 : Cond.selects RX5 yX5_refusalOfWidths yX5_refusalOfWidths ∈ lw_tbl := List.mem_append_left _ (List.mem_of_getElem? (i := 12) rfl)
theorem wm_270 : Cond.methodLink RX5 246 yX5_findSetsByWidths ∈ lw_tbl := List.mem_append_right _ (List.mem_append_right _ (List.mem_append_right _ (List.mem_append_left _ (List.mem_of_getElem? (i := 88) rfl))))
theorem wm_271 : Cond.instanceMethod yX5_findSetsByWidths ∈ lw_tbl := List.mem_append_right _ (List.mem_append_right _ (List.mem_append_right _ (List.mem_append_left _ (List.mem_of_getElem? (i := 90) rfl))))
theorem wm_272 : Cond.selects RX5 yX5_findSetsByWidths yX5_findSetsByWidths ∈ lw_tbl := List.mem_append_left _ (List.mem_of_getElem? (i := 13) rfl)
theorem wm_273 : Cond.methodLink RX5 249 yX5_chooseAhead ∈ lw_tbl := List.mem_append_right _ (List.mem_append_right _ (List.mem_append_right _ (List.mem_append_left _ (List.mem_of_getElem? (i := 106) rfl))))
theorem wm_274 : Cond.instanceMethod yX5_chooseAhead ∈ lw_tbl := List.mem_append_right _ (List.mem_append_right _ (List.mem_append_right _ (List.mem_append_left _ (List.mem_of_getElem? (i := 108) rfl))))
theorem wm_275 : Cond.selects RX5 yX5_chooseAhead yX5_chooseAhead ∈ lw_tbl := List.mem_append_left _ (List.mem_of_getElem? (i := 15) rfl)
theorem wm_276 : Cond.methodLink RX5 253 yX5_isTwelfths ∈ lw_tbl := List.mem_append_right _ (List.mem_append_right _ (List.mem_append_right _ (List.mem_append_left _ (List.mem_of_getElem? (i := 114) rfl))))
theorem wm_277 : Cond.static yX5_isTwelfths ∈ lw_tbl := List.mem_append_right _ (List.mem_append_right _ (List.mem_append_right _ (List.mem_append_left _ (List.mem_of_getElem? (i := 115) rfl))))
theorem wm_278 : Cond.methodLink RX5 256 yX5_chanceOf ∈ lw_tbl := List.mem_append_right _ (List.mem_append_right _ (List.mem_append_right _ (List.mem_append_left _ (List.mem_of_getElem? (i := 117) rfl))))
theorem wm_279 : Cond.instanceMethod yX5_chanceOf ∈ lw_tbl := List.mem_append_right _ (List.mem_append_right _ (List.mem_append_right _ (List.mem_append_left _ (List.mem_of_getElem? (i := 119) rfl))))
theorem wm_280 : Cond.selects RX5 yX5_chanceOf yX5_chanceOf ∈ lw_tbl := List.mem_append_left _ (List.mem_of_getElem? (i := 16) rfl)
theorem wm_281 : Cond.methodLink RX5 260 yX5_standsStuck ∈ lw_tbl := List.mem_append_right _ (List.mem_append_right _ (List.mem_append_right _ (List.mem_append_left _ (List.mem_of_getElem? (i := 127) rfl))))
theorem wm_282 : Cond.instanceMethod yX5_standsStuck ∈ lw_tbl := List.mem_append_right _ (List.mem_append_right _ (List.mem_append_right _ (List.mem_append_left _ (List.mem_of_getElem? (i := 129) rfl))))
theorem wm_283 : Cond.selects RX5 yX5_standsStuck yX5_standsStuck ∈ lw_tbl := List.mem_append_left _ (List.mem_of_getElem? (i := 17) rfl)
theorem wm_284 : Cond.methodLink RX5 263 yX5_allChances ∈ lw_tbl := List.mem_append_right _ (List.mem_append_right _ (List.mem_append_right _ (List.mem_append_left _ (List.mem_of_getElem? (i := 131) rfl))))
theorem wm_285 : Cond.instanceMethod yX5_allChances ∈ lw_tbl := List.mem_append_right _ (List.mem_append_right _ (List.mem_append_right _ (List.mem_append_left _ (List.mem_of_getElem? (i := 133) rfl))))
theorem wm_286 : Cond.selects RX5 yX5_allChances yX5_allChances ∈ lw_tbl := List.mem_append_left _ (List.mem_of_getElem? (i := 18) rfl)
theorem wm_287 : Cond.methodLink RX5 271 yX5_doByLot ∈ lw_tbl := List.mem_append_right _ (List.mem_append_right _ (List.mem_append_right _ (List.mem_append_left _ (List.mem_of_getElem? (i := 146) rfl))))
theorem wm_288 : Cond.instanceMethod yX5_doByLot ∈ lw_tbl := List.mem_append_right _ (List.mem_append_right _ (List.mem_append_right _ (List.mem_append_left _ (List.mem_of_getElem? (i := 148) rfl))))
theorem wm_289 : Cond.selects RX5 yX5_doByLot yX5_doByLot ∈ lw_tbl := List.mem_append_left _ (List.mem_of_getElem? (i := 19) rfl)
theorem wm_290 : Cond.methodLink RX5 284 yX4_openGates ∈ lw_tbl := List.mem_append_right _ (List.mem_append_right _ (List.mem_append_right _ (List.mem_append_left _ (List.mem_of_getElem? (i := 121) rfl))))
theorem wm_291 : Cond.instanceMethod yX4_openGates ∈ lw_tbl := List.mem_append_right _ (List.mem_append_right _ (List.mem_append_right _ (List.mem_append_left _ (List.mem_of_getElem? (i := 122) rfl))))
theorem wm_292 : Cond.selects RX4 yX4_openGates yX4_openGates ∈ lw_tbl := List.mem_append_right _ (List.mem_append_right _ (List.mem_append_right _ (List.mem_append_left _ (List.mem_of_getElem? (i := 123) rfl))))
theorem wm_293 : Cond.methodLink RX5 287 yX4_sum ∈ lw_tbl := List.mem_append_right _ (List.mem_append_right _ (List.mem_append_right _ (List.mem_append_left _ (List.mem_of_getElem? (i := 168) rfl))))
theorem wm_294 : Cond.instanceMethod yX4_sum ∈ lw_tbl := List.mem_append_right _ (List.mem_append_right _ (List.mem_append_right _ (List.mem_append_left _ (List.mem_of_getElem? (i := 169) rfl))))
theorem wm_295 : Cond.selects RX4 yX4_sum yX4_sum ∈ lw_tbl := List.mem_append_right _ (List.mem_append_right _ (List.mem_append_right _ (List.mem_append_left _ (List.mem_of_getElem? (i := 170) rfl))))
theorem wm_296 : Cond.methodLink RX5 290 yX4_howManyAre ∈ lw_tbl := List.mem_append_right _ (List.mem_append_right _ (List.mem_append_right _ (List.mem_append_left _ (List.mem_of_getElem? (i := 172) rfl))))
theorem wm_297 : Cond.instanceMethod yX4_howManyAre ∈ lw_tbl := List.mem_append_right _ (List.mem_append_right _ (List.mem_append_right _ (List.mem_append_left _ (List.mem_of_getElem? (i := 173) rfl))))
theorem wm_298 : Cond.selects RX4 yX4_howManyAre yX4_howManyAre ∈ lw_tbl := List.mem_append_right _ (List.mem_append_right _ (List.mem_append_right _ (List.mem_append_left _ (List.mem_of_getElem? (i := 174) rfl))))
theorem wm_299 : Cond.methodLink RX5 293 yX5_howManyThere ∈ lw_tbl := List.mem_append_right _ (List.mem_append_right _ (List.mem_append_right _ (List.mem_append_left _ (List.mem_of_getElem? (i := 177) rfl))))
theorem wm_300 : Cond.static yX5_howManyThere ∈ lw_tbl := List.mem_append_right _ (List.mem_append_right _ (List.mem_append_right _ (List.mem_append_left _ (List.mem_of_getElem? (i := 178) rfl))))
theorem wm_301 : Cond.methodLink RX5 297 yX5_howManyKept ∈ lw_tbl := List.mem_append_right _ (List.mem_append_right _ (List.mem_append_right _ (List.mem_append_left _ (List.mem_of_getElem? (i := 180) rfl))))
theorem wm_302 : Cond.instanceMethod yX5_howManyKept ∈ lw_tbl := List.mem_append_right _ (List.mem_append_right _ (List.mem_append_right _ (List.mem_append_left _ (List.mem_of_getElem? (i := 182) rfl))))
theorem wm_303 : Cond.selects RX5 yX5_howManyKept yX5_howManyKept ∈ lw_tbl := List.mem_append_left _ (List.mem_of_getElem? (i := 20) rfl)
theorem wm_304 : Cond.methodLink RX5 307 yX5_count ∈ lw_tbl := List.mem_append_right _ (List.mem_append_right _ (List.mem_append_right _ (List.mem_append_left _ (List.mem_of_getElem? (i := 198) rfl))))
theorem wm_305 : Cond.instanceMethod yX5_count ∈ lw_tbl := List.mem_append_right _ (List.mem_append_right _ (List.mem_append_right _ (List.mem_append_left _ (List.mem_of_getElem? (i := 165) rfl))))
theorem wm_306 : Cond.selects RX5 yX5_count yX5_count ∈ lw_tbl := List.mem_append_right _ (List.mem_append_right _ (List.mem_append_right _ (List.mem_append_left _ (List.mem_of_getElem? (i := 166) rfl))))
theorem wm_307 : Cond.methodLink RX5 310 yX5_digestBridge ∈ lw_tbl := List.mem_append_right _ (List.mem_append_right _ (List.mem_append_right _ (List.mem_append_left _ (List.mem_of_getElem? (i := 199) rfl))))
theorem wm_308 : Cond.instanceMethod yX5_digestBridge ∈ lw_tbl := List.mem_append_right _ (List.mem_append_right _ (List.mem_append_right _ (List.mem_append_left _ (List.mem_of_getElem? (i := 201) rfl))))
theorem wm_309 : Cond.selects RX5 yX5_digestBridge yX5_digestBridge ∈ lw_tbl := List.mem_append_left _ (List.mem_of_getElem? (i := 21) rfl)
theorem wm_310 : Cond.methodLink RX5 314 yX5_digestRows ∈ lw_tbl := List.mem_append_right _ (List.mem_append_right _ (List.mem_append_right _ (List.mem_append_left _ (List.mem_of_getElem? (i := 203) rfl))))
theorem wm_311 : Cond.static yX5_digestRows ∈ lw_tbl := List.mem_append_right _ (List.mem_append_right _ (List.mem_append_right _ (List.mem_append_left _ (List.mem_of_getElem? (i := 204) rfl))))
theorem wm_312 : Cond.methodLink RX5 318 yX5_levelling ∈ lw_tbl := List.mem_append_right _ (List.mem_append_right _ (List.mem_append_left _ (List.mem_of_getElem? (i := 94) rfl)))
theorem wm_313 : Cond.static yX5_levelling ∈ lw_tbl := List.mem_append_right _ (List.mem_append_right _ (List.mem_append_left _ (List.mem_of_getElem? (i := 95) rfl)))
theorem wm_314 : Cond.methodLink RX5 321 Lib.Math.max.name ∈ lw_tbl := List.mem_append_right _ (List.mem_append_right _ (List.mem_append_left _ (List.mem_of_getElem? (i := 100) rfl)))
theorem wm_315 : Cond.methodLink RX5 326 yX5_lifting ∈ lw_tbl := List.mem_append_right _ (List.mem_append_right _ (List.mem_append_left _ (List.mem_of_getElem? (i := 103) rfl)))
theorem wm_316 : Cond.static yX5_lifting ∈ lw_tbl := List.mem_append_right _ (List.mem_append_right _ (List.mem_append_left _ (List.mem_of_getElem? (i := 104) rfl)))
theorem wm_317 : Cond.methodLink RX5 329 yX5_overWeir ∈ lw_tbl := List.mem_append_right _ (List.mem_append_right _ (List.mem_append_left _ (List.mem_of_getElem? (i := 106) rfl)))
theorem wm_318 : Cond.static yX5_overWeir ∈ lw_tbl := List.mem_append_right _ (List.mem_append_right _ (List.mem_append_left _ (List.mem_of_getElem? (i := 107) rfl)))
theorem wm_319 : Cond.methodLink RX5 332 yX5_isShutLock ∈ lw_tbl := List.mem_append_right _ (List.mem_append_right _ (List.mem_append_left _ (List.mem_of_getElem? (i := 109) rfl)))
theorem wm_320 : Cond.static yX5_isShutLock ∈ lw_tbl := List.mem_append_right _ (List.mem_append_right _ (List.mem_append_left _ (List.mem_of_getElem? (i := 110) rfl)))
theorem wm_321 : Cond.methodLink RX5 335 yX5_turnsUntilTwice ∈ lw_tbl := List.mem_append_right _ (List.mem_append_right _ (List.mem_append_left _ (List.mem_of_getElem? (i := 112) rfl)))
theorem wm_322 : Cond.static yX5_turnsUntilTwice ∈ lw_tbl := List.mem_append_right _ (List.mem_append_right _ (List.mem_append_left _ (List.mem_of_getElem? (i := 113) rfl)))
theorem wm_323 : Cond.methodLink RX5 338 Lib.Math.min.name ∈ lw_tbl := List.mem_append_right _ (List.mem_append_right _ (List.mem_append_left _ (List.mem_of_getElem? (i := 97) rfl)))
theorem wm_324 : Cond.methodLink RX5 344 yX4_flowNow ∈ lw_tbl := List.mem_append_right _ (List.mem_append_right _ (List.mem_append_left _ (List.mem_of_getElem? (i := 87) rfl)))
theorem wm_325 : Cond.methodLink RX5 347 Lib.Math.abs.name ∈ lw_tbl := List.mem_append_right _ (List.mem_append_right _ (List.mem_append_left _ (List.mem_of_getElem? (i := 128) rfl)))
theorem wm_326 : Cond.methodLink RX5 350 yX4_change ∈ lw_tbl := List.mem_append_right _ (List.mem_append_right _ (List.mem_append_left _ (List.mem_of_getElem? (i := 164) rfl)))
theorem wm_327 : Cond.instanceMethod yX4_change ∈ lw_tbl := List.mem_append_right _ (List.mem_append_right _ (List.mem_append_left _ (List.mem_of_getElem? (i := 165) rfl)))
theorem wm_328 : Cond.selects RX4 yX4_change yX4_change ∈ lw_tbl := List.mem_append_right _ (List.mem_append_right _ (List.mem_append_left _ (List.mem_of_getElem? (i := 166) rfl)))
theorem wm_329 : Cond.methodLink RX5 358 yX3_empty ∈ lw_tbl := List.mem_append_right _ (List.mem_append_right _ (List.mem_append_right _ (List.mem_append_left _ (List.mem_of_getElem? (i := 21) rfl))))
theorem wm_330 : Cond.instanceMethod yX3_empty ∈ lw_tbl := List.mem_append_right _ (List.mem_append_right _ (List.mem_append_right _ (List.mem_append_left _ (List.mem_of_getElem? (i := 22) rfl))))
theorem wm_331 : Cond.selects RX3 yX3_empty yX3_empty ∈ lw_tbl := List.mem_append_right _ (List.mem_append_right _ (List.mem_append_right _ (List.mem_append_left _ (List.mem_of_getElem? (i := 23) rfl))))
theorem wm_332 : Cond.methodLink RX5 361 yX3_addWithLevels ∈ lw_tbl := List.mem_append_right _ (List.mem_append_right _ (List.mem_append_right _ (List.mem_append_left _ (List.mem_of_getElem? (i := 29) rfl))))
theorem wm_333 : Cond.instanceMethod yX3_addWithLevels ∈ lw_tbl := List.mem_append_right _ (List.mem_append_right _ (List.mem_append_right _ (List.mem_append_left _ (List.mem_of_getElem? (i := 30) rfl))))
theorem wm_334 : Cond.selects RX3 yX3_addWithLevels yX3_addWithLevels ∈ lw_tbl := List.mem_append_right _ (List.mem_append_right _ (List.mem_append_right _ (List.mem_append_left _ (List.mem_of_getElem? (i := 31) rfl))))
theorem wm_335 : Cond.methodLink RX5 365 yX5_widthTogether ∈ lw_tbl := List.mem_append_right _ (List.mem_append_right _ (List.mem_append_right _ (List.mem_append_left _ (List.mem_of_getElem? (i := 92) rfl))))
theorem wm_336 : Cond.instanceMethod yX5_widthTogether ∈ lw_tbl := List.mem_append_right _ (List.mem_append_right _ (List.mem_append_right _ (List.mem_append_left _ (List.mem_of_getElem? (i := 94) rfl))))
theorem wm_337 : Cond.selects RX5 yX5_widthTogether yX5_widthTogether ∈ lw_tbl := List.mem_append_left _ (List.mem_of_getElem? (i := 14) rfl)
theorem wm_338 : Cond.methodLink RX5 368 yX3_add ∈ lw_tbl := List.mem_append_right _ (List.mem_append_right _ (List.mem_append_right _ (List.mem_append_left _ (List.mem_of_getElem? (i := 97) rfl))))
theorem wm_339 : Cond.methodLink RX5 371 yX5_hasBit ∈ lw_tbl := List.mem_append_right _ (List.mem_append_right _ (List.mem_append_right _ (List.mem_append_left _ (List.mem_of_getElem? (i := 96) rfl))))
theorem wm_340 : Cond.methodLink RX5 376 yX2_make ∈ lw_tbl := List.mem_append_right _ (List.mem_append_left _ (List.mem_of_getElem? (i := 181) rfl))
theorem wm_341 : Cond.instanceMethod yX2_make ∈ lw_tbl := List.mem_append_right _ (List.mem_append_left _ (List.mem_of_getElem? (i := 182) rfl))
theorem wm_342 : Cond.selects RX2 yX2_make yX2_make ∈ lw_tbl := List.mem_append_right _ (List.mem_append_left _ (List.mem_of_getElem? (i := 183) rfl))
theorem wm_343 : Cond.methodLink RX5 379 yX2_hasPlace ∈ lw_tbl := List.mem_append_right _ (List.mem_append_left _ (List.mem_of_getElem? (i := 197) rfl))
theorem wm_344 : Cond.instanceMethod yX2_hasPlace ∈ lw_tbl := List.mem_append_right _ (List.mem_append_left _ (List.mem_of_getElem? (i := 198) rfl))
theorem wm_345 : Cond.selects RX2 yX2_hasPlace yX2_hasPlace ∈ lw_tbl := List.mem_append_right _ (List.mem_append_left _ (List.mem_of_getElem? (i := 199) rfl))
theorem wm_346 : Cond.methodLink RX5 382 yX5_commonDivisor ∈ lw_tbl := List.mem_append_right _ (List.mem_append_right _ (List.mem_append_right _ (List.mem_append_left _ (List.mem_of_getElem? (i := 42) rfl))))
theorem wm_347 : Cond.static yX5_commonDivisor ∈ lw_tbl := List.mem_append_right _ (List.mem_append_right _ (List.mem_append_right _ (List.mem_append_left _ (List.mem_of_getElem? (i := 43) rfl))))
theorem wm_348 : Cond.methodLink RX6 1 objectInit ∈ lw_tbl := List.mem_append_right _ (List.mem_append_right _ (List.mem_append_right _ (List.mem_append_left _ (List.mem_of_getElem? (i := 211) rfl))))
theorem wm_349 : Cond.methodLink RX6 66 yX6_nothingKept ∈ lw_tbl := List.mem_append_right _ (List.mem_append_right _ (List.mem_append_right _ (List.mem_append_left _ (List.mem_of_getElem? (i := 212) rfl))))
theorem wm_350 : Cond.instanceMethod yX6_nothingKept ∈ lw_tbl := List.mem_append_right _ (List.mem_append_right _ (List.mem_append_right _ (List.mem_append_left _ (List.mem_of_getElem? (i := 214) rfl))))
theorem wm_351 : Cond.selects RX6 yX6_nothingKept yX6_nothingKept ∈ lw_tbl := List.mem_append_left _ (List.mem_of_getElem? (i := 22) rfl)
theorem wm_352 : Cond.initialized RX6 ∈ lw_tbl := List.mem_append_right _ (List.mem_append_left _ (List.mem_of_getElem? (i := 6) rfl))
theorem wm_353 : Cond.methodLink RX6 76 yX6_in ∈ lw_tbl := List.mem_append_right _ (List.mem_append_right _ (List.mem_append_right _ (List.mem_append_right _ (List.mem_append_left _ (List.mem_of_getElem? (i := 70) rfl)))))
theorem wm_354 : Cond.static yX6_in ∈ lw_tbl := List.mem_append_right _ (List.mem_append_right _ (List.mem_append_right _ (List.mem_append_right _ (List.mem_append_left _ (List.mem_of_getElem? (i := 71) rfl)))))
theorem wm_355 : Cond.methodLink RX6 83 yX6_isRow ∈ lw_tbl := List.mem_append_right _ (List.mem_append_right _ (List.mem_append_right _ (List.mem_append_right _ (List.mem_append_left _ (List.mem_of_getElem? (i := 66) rfl)))))
theorem wm_356 : Cond.instanceMethod yX6_isRow ∈ lw_tbl := List.mem_append_right _ (List.mem_append_right _ (List.mem_append_right _ (List.mem_append_right _ (List.mem_append_left _ (List.mem_of_getElem? (i := 68) rfl)))))
theorem wm_357 : Cond.selects RX6 yX6_isRow yX6_isRow ∈ lw_tbl := List.mem_append_left _ (List.mem_of_getElem? (i := 23) rfl)
theorem wm_358 : Cond.methodLink RX6 87 yX6_finds ∈ lw_tbl := List.mem_append_right _ (List.mem_append_right _ (List.mem_append_right _ (List.mem_append_right _ (List.mem_append_left _ (List.mem_of_getElem? (i := 73) rfl)))))
theorem wm_359 : Cond.instanceMethod yX6_finds ∈ lw_tbl := List.mem_append_right _ (List.mem_append_right _ (List.mem_append_right _ (List.mem_append_right _ (List.mem_append_left _ (List.mem_of_getElem? (i := 75) rfl)))))
theorem wm_360 : Cond.selects RX6 yX6_finds yX6_finds ∈ lw_tbl := List.mem_append_left _ (List.mem_of_getElem? (i := 24) rfl)
theorem wm_361 : Cond.methodLink RX6 91 yX6_tells ∈ lw_tbl := List.mem_append_right _ (List.mem_append_right _ (List.mem_append_right _ (List.mem_append_right _ (List.mem_append_left _ (List.mem_of_getElem? (i := 81) rfl)))))
theorem wm_362 : Cond.instanceMethod yX6_tells ∈ lw_tbl := List.mem_append_right _ (List.mem_append_right _ (List.mem_append_right _ (List.mem_append_right _ (List.mem_append_left _ (List.mem_of_getElem? (i := 83) rfl)))))
theorem wm_363 : Cond.selects RX6 yX6_tells yX6_tells ∈ lw_tbl := List.mem_append_left _ (List.mem_of_getElem? (i := 25) rfl)
theorem wm_364 : Cond.methodLink RX6 94 yX6_isPart ∈ lw_tbl := List.mem_append_right _ (List.mem_append_right _ (List.mem_append_right _ (List.mem_append_right _ (List.mem_append_left _ (List.mem_of_getElem? (i := 97) rfl)))))
theorem wm_365 : Cond.static yX6_isPart ∈ lw_tbl := List.mem_append_right _ (List.mem_append_right _ (List.mem_append_right _ (List.mem_append_right _ (List.mem_append_left _ (List.mem_of_getElem? (i := 98) rfl)))))
theorem wm_366 : Cond.methodLink RX6 97 yX6_isText ∈ lw_tbl := List.mem_append_right _ (List.mem_append_right _ (List.mem_append_right _ (List.mem_append_right _ (List.mem_append_left _ (List.mem_of_getElem? (i := 108) rfl)))))
theorem wm_367 : Cond.instanceMethod yX6_isText ∈ lw_tbl := List.mem_append_right _ (List.mem_append_right _ (List.mem_append_right _ (List.mem_append_right _ (List.mem_append_left _ (List.mem_of_getElem? (i := 110) rfl)))))
theorem wm_368 : Cond.selects RX6 yX6_isText yX6_isText ∈ lw_tbl := List.mem_append_left _ (List.mem_of_getElem? (i := 26) rfl)
theorem wm_369 : Cond.methodLink RX6 106 yX6_here ∈ lw_tbl := List.mem_append_right _ (List.mem_append_right _ (List.mem_append_right _ (List.mem_append_right _ (List.mem_append_left _ (List.mem_of_getElem? (i := 128) rfl)))))
theorem wm_370 : Cond.instanceMethod yX6_here ∈ lw_tbl := List.mem_append_right _ (List.mem_append_right _ (List.mem_append_right _ (List.mem_append_right _ (List.mem_append_left _ (List.mem_of_getElem? (i := 130) rfl)))))
theorem wm_371 : Cond.selects RX6 yX6_here yX6_here ∈ lw_tbl := List.mem_append_left _ (List.mem_of_getElem? (i := 29) rfl)
theorem wm_372 : Cond.methodLink RX6 113 yX6_figure ∈ lw_tbl := List.mem_append_right _ (List.mem_append_right _ (List.mem_append_right _ (List.mem_append_right _ (List.mem_append_left _ (List.mem_of_getElem? (i := 136) rfl)))))
theorem wm_373 : Cond.instanceMethod yX6_figure ∈ lw_tbl := List.mem_append_right _ (List.mem_append_right _ (List.mem_append_right _ (List.mem_append_right _ (List.mem_append_left _ (List.mem_of_getElem? (i := 138) rfl)))))
theorem wm_374 : Cond.selects RX6 yX6_figure yX6_figure ∈ lw_tbl := List.mem_append_left _ (List.mem_of_getElem? (i := 31) rfl)
theorem wm_375 : Cond.methodLink RX6 117 yX6_kindBy ∈ lw_tbl := List.mem_append_right _ (List.mem_append_right _ (List.mem_append_right _ (List.mem_append_right _ (List.mem_append_left _ (List.mem_of_getElem? (i := 144) rfl)))))
theorem wm_376 : Cond.static yX6_kindBy ∈ lw_tbl := List.mem_append_right _ (List.mem_append_right _ (List.mem_append_right _ (List.mem_append_right _ (List.mem_append_left _ (List.mem_of_getElem? (i := 145) rfl)))))
theorem wm_377 : Cond.methodLink RX6 123 yX6_levelHere ∈ lw_tbl := List.mem_append_right _ (List.mem_append_right _ (List.mem_append_right _ (List.mem_append_right _ (List.mem_append_left _ (List.mem_of_getElem? (i := 132) rfl)))))
theorem wm_378 : Cond.instanceMethod yX6_levelHere ∈ lw_tbl := List.mem_append_right _ (List.mem_append_right _ (List.mem_append_right _ (List.mem_append_right _ (List.mem_append_left _ (List.mem_of_getElem? (i := 134) rfl)))))
theorem wm_379 : Cond.selects RX6 yX6_levelHere yX6_levelHere ∈ lw_tbl := List.mem_append_left _ (List.mem_of_getElem? (i := 30) rfl)
theorem wm_380 : Cond.methodLink RX6 126 yX6_skips ∈ lw_tbl := List.mem_append_right _ (List.mem_append_right _ (List.mem_append_right _ (List.mem_append_right _ (List.mem_append_left _ (List.mem_of_getElem? (i := 124) rfl)))))
theorem wm_381 : Cond.instanceMethod yX6_skips ∈ lw_tbl := List.mem_append_right _ (List.mem_append_right _ (List.mem_append_right _ (List.mem_append_right _ (List.mem_append_left _ (List.mem_of_getElem? (i := 126) rfl)))))
theorem wm_382 : Cond.selects RX6 yX6_skips yX6_skips ∈ lw_tbl := List.mem_append_left _ (List.mem_of_getElem? (i := 28) rfl)
theorem wm_383 : Cond.methodLink RX6 129 yX6_readGate ∈ lw_tbl := List.mem_append_right _ (List.mem_append_right _ (List.mem_append_right _ (List.mem_append_right _ (List.mem_append_left _ (List.mem_of_getElem? (i := 140) rfl)))))
theorem wm_384 : Cond.instanceMethod yX6_readGate ∈ lw_tbl := List.mem_append_right _ (List.mem_append_right _ (List.mem_append_right _ (List.mem_append_right _ (List.mem_append_left _ (List.mem_of_getElem? (i := 142) rfl)))))
theorem wm_385 : Cond.selects RX6 yX6_readGate yX6_readGate ∈ lw_tbl := List.mem_append_left _ (List.mem_of_getElem? (i := 32) rfl)
theorem wm_386 : Cond.methodLink RX6 132 yX6_readBridge ∈ lw_tbl := List.mem_append_right _ (List.mem_append_right _ (List.mem_append_right _ (List.mem_append_right _ (List.mem_append_left _ (List.mem_of_getElem? (i := 120) rfl)))))
theorem wm_387 : Cond.instanceMethod yX6_readBridge ∈ lw_tbl := List.mem_append_right _ (List.mem_append_right _ (List.mem_append_right _ (List.mem_append_right _ (List.mem_append_left _ (List.mem_of_getElem? (i := 122) rfl)))))
theorem wm_388 : Cond.selects RX6 yX6_readBridge yX6_readBridge ∈ lw_tbl := List.mem_append_left _ (List.mem_of_getElem? (i := 27) rfl)
theorem wm_389 : Cond.methodLink RX6 135 yX6_bring ∈ lw_tbl := List.mem_append_right _ (List.mem_append_right _ (List.mem_append_right _ (List.mem_append_right _ (List.mem_append_left _ (List.mem_of_getElem? (i := 151) rfl)))))
theorem wm_390 : Cond.static yX6_bring ∈ lw_tbl := List.mem_append_right _ (List.mem_append_right _ (List.mem_append_right _ (List.mem_append_right _ (List.mem_append_left _ (List.mem_of_getElem? (i := 152) rfl)))))
theorem wm_391 : Cond.methodLink RX6 142 yX6_least ∈ lw_tbl := List.mem_append_right _ (List.mem_append_right _ (List.mem_append_right _ (List.mem_append_right _ (List.mem_append_left _ (List.mem_of_getElem? (i := 188) rfl)))))
theorem wm_392 : Cond.static yX6_least ∈ lw_tbl := List.mem_append_right _ (List.mem_append_right _ (List.mem_append_right _ (List.mem_append_right _ (List.mem_append_left _ (List.mem_of_getElem? (i := 189) rfl)))))
theorem wm_393 : Cond.methodLink RX6 145 yX6_far ∈ lw_tbl := List.mem_append_right _ (List.mem_append_right _ (List.mem_append_right _ (List.mem_append_right _ (List.mem_append_left _ (List.mem_of_getElem? (i := 191) rfl)))))
theorem wm_394 : Cond.static yX6_far ∈ lw_tbl := List.mem_append_right _ (List.mem_append_right _ (List.mem_append_right _ (List.mem_append_right _ (List.mem_append_left _ (List.mem_of_getElem? (i := 192) rfl)))))
theorem wm_395 : Cond.methodLink RX6 148 yX6_has ∈ lw_tbl := List.mem_append_right _ (List.mem_append_right _ (List.mem_append_right _ (List.mem_append_right _ (List.mem_append_left _ (List.mem_of_getElem? (i := 178) rfl)))))
theorem wm_396 : Cond.static yX6_has ∈ lw_tbl := List.mem_append_right _ (List.mem_append_right _ (List.mem_append_right _ (List.mem_append_right _ (List.mem_append_left _ (List.mem_of_getElem? (i := 179) rfl)))))
theorem wm_397 : Cond.methodLink RX6 152 yX6_flowBy ∈ lw_tbl := List.mem_append_right _ (List.mem_append_right _ (List.mem_append_right _ (List.mem_append_right _ (List.mem_append_left _ (List.mem_of_getElem? (i := 185) rfl)))))
theorem wm_398 : Cond.static yX6_flowBy ∈ lw_tbl := List.mem_append_right _ (List.mem_append_right _ (List.mem_append_right _ (List.mem_append_right _ (List.mem_append_left _ (List.mem_of_getElem? (i := 186) rfl)))))
theorem wm_399 : Cond.methodLink RX6 156 yX6_isOpen ∈ lw_tbl := List.mem_append_right _ (List.mem_append_right _ (List.mem_append_right _ (List.mem_append_right _ (List.mem_append_left _ (List.mem_of_getElem? (i := 174) rfl)))))
theorem wm_400 : Cond.instanceMethod yX6_isOpen ∈ lw_tbl := List.mem_append_right _ (List.mem_append_right _ (List.mem_append_right _ (List.mem_append_right _ (List.mem_append_left _ (List.mem_of_getElem? (i := 176) rfl)))))
theorem wm_401 : Cond.selects RX6 yX6_isOpen yX6_isOpen ∈ lw_tbl := List.mem_append_left _ (List.mem_of_getElem? (i := 36) rfl)
theorem wm_402 : Cond.methodLink RX6 160 yX6_flowOn ∈ lw_tbl := List.mem_append_right _ (List.mem_append_right _ (List.mem_append_right _ (List.mem_append_right _ (List.mem_append_left _ (List.mem_of_getElem? (i := 181) rfl)))))
theorem wm_403 : Cond.instanceMethod yX6_flowOn ∈ lw_tbl := List.mem_append_right _ (List.mem_append_right _ (List.mem_append_right _ (List.mem_append_right _ (List.mem_append_left _ (List.mem_of_getElem? (i := 183) rfl)))))
theorem wm_404 : Cond.selects RX6 yX6_flowOn yX6_flowOn ∈ lw_tbl := List.mem_append_left _ (List.mem_of_getElem? (i := 37) rfl)
theorem wm_405 : Cond.methodLink RX6 164 yX6_isBasin ∈ lw_tbl := List.mem_append_right _ (List.mem_append_right _ (List.mem_append_right _ (List.mem_append_right _ (List.mem_append_left _ (List.mem_of_getElem? (i := 158) rfl)))))
theorem wm_406 : Cond.instanceMethod yX6_isBasin ∈ lw_tbl := List.mem_append_right _ (List.mem_append_right _ (List.mem_append_right _ (List.mem_append_right _ (List.mem_append_left _ (List.mem_of_getElem? (i := 160) rfl)))))
theorem wm_407 : Cond.selects RX6 yX6_isBasin yX6_isBasin ∈ lw_tbl := List.mem_append_left _ (List.mem_of_getElem? (i := 33) rfl)
theorem wm_408 : Cond.methodLink RX6 167 yX6_isGate ∈ lw_tbl := List.mem_append_right _ (List.mem_append_right _ (List.mem_append_right _ (List.mem_append_right _ (List.mem_append_left _ (List.mem_of_getElem? (i := 166) rfl)))))
theorem wm_409 : Cond.instanceMethod yX6_isGate ∈ lw_tbl := List.mem_append_right _ (List.mem_append_right _ (List.mem_append_right _ (List.mem_append_right _ (List.mem_append_left _ (List.mem_of_getElem? (i := 168) rfl)))))
theorem wm_410 : Cond.selects RX6 yX6_isGate yX6_isGate ∈ lw_tbl := List.mem_append_left _ (List.mem_of_getElem? (i := 34) rfl)
theorem wm_411 : Cond.methodLink RX6 170 yX6_ofGate ∈ lw_tbl := List.mem_append_right _ (List.mem_append_right _ (List.mem_append_right _ (List.mem_append_right _ (List.mem_append_left _ (List.mem_of_getElem? (i := 170) rfl)))))
theorem wm_412 : Cond.instanceMethod yX6_ofGate ∈ lw_tbl := List.mem_append_right _ (List.mem_append_right _ (List.mem_append_right _ (List.mem_append_right _ (List.mem_append_left _ (List.mem_of_getElem? (i := 172) rfl)))))
theorem wm_413 : Cond.selects RX6 yX6_ofGate yX6_ofGate ∈ lw_tbl := List.mem_append_left _ (List.mem_of_getElem? (i := 35) rfl)
theorem wm_414 : Cond.methodLink RX6 173 yX6_isA ∈ lw_tbl := List.mem_append_right _ (List.mem_append_right _ (List.mem_append_right _ (List.mem_append_right _ (List.mem_append_left _ (List.mem_of_getElem? (i := 198) rfl)))))
theorem wm_415 : Cond.instanceMethod yX6_isA ∈ lw_tbl := List.mem_append_right _ (List.mem_append_right _ (List.mem_append_right _ (List.mem_append_right _ (List.mem_append_left _ (List.mem_of_getElem? (i := 200) rfl)))))
theorem wm_416 : Cond.selects RX6 yX6_isA yX6_isA ∈ lw_tbl := List.mem_append_left _ (List.mem_of_getElem? (i := 38) rfl)
theorem wm_417 : Cond.methodLink RX6 176 yX6_notes ∈ lw_tbl := List.mem_append_right _ (List.mem_append_right _ (List.mem_append_right _ (List.mem_append_right _ (List.mem_append_left _ (List.mem_of_getElem? (i := 206) rfl)))))
theorem wm_418 : Cond.instanceMethod yX6_notes ∈ lw_tbl := List.mem_append_right _ (List.mem_append_right _ (List.mem_append_right _ (List.mem_append_right _ (List.mem_append_left _ (List.mem_of_getElem? (i := 208) rfl)))))
theorem wm_419 : Cond.selects RX6 yX6_notes yX6_notes ∈ lw_tbl := List.mem_append_left _ (List.mem_of_getElem? (i := 39) rfl)
theorem wm_420 : Cond.methodLink RX6 179 yX6_turnOn ∈ lw_tbl := List.mem_append_right _ (List.mem_append_right _ (List.mem_append_right _ (List.mem_append_right _ (List.mem_append_left _ (List.mem_of_getElem? (i := 210) rfl)))))
theorem wm_421 : Cond.instanceMethod yX6_turnOn ∈ lw_tbl := List.mem_append_right _ (List.mem_append_right _ (List.mem_append_right _ (List.mem_append_right _ (List.mem_append_left _ (List.mem_of_getElem? (i := 212) rfl)))))
theorem wm_422 : Cond.selects RX6 yX6_turnOn yX6_turnOn ∈ lw_tbl := List.mem_append_left _ (List.mem_of_getElem? (i := 40) rfl)
theorem wm_423 : Cond.methodLink RX6 182 yX6_comes ∈ lw_tbl := List.mem_append_right _ (List.mem_append_right _ (List.mem_append_right _ (List.mem_append_right _ (List.mem_append_left _ (List.mem_of_getElem? (i := 222) rfl)))))
theorem wm_424 : Cond.instanceMethod yX6_comes ∈ lw_tbl := List.mem_append_right _ (List.mem_append_right _ (List.mem_append_right _ (List.mem_append_right _ (List.mem_append_left _ (List.mem_of_getElem? (i := 224) rfl)))))
theorem wm_425 : Cond.selects RX6 yX6_comes yX6_comes ∈ lw_tbl := List.mem_append_left _ (List.mem_of_getElem? (i := 41) rfl)
theorem wm_426 : Cond.methodLink RX6 186 yX6_asItIs ∈ lw_tbl := List.mem_append_right _ (List.mem_append_right _ (List.mem_append_right _ (List.mem_append_right _ (List.mem_append_right _ (List.mem_of_getElem? (i := 10) rfl)))))
theorem wm_427 : Cond.instanceMethod yX6_asItIs ∈ lw_tbl := List.mem_append_right _ (List.mem_append_right _ (List.mem_append_right _ (List.mem_append_right _ (List.mem_append_right _ (List.mem_of_getElem? (i := 12) rfl)))))
theorem wm_428 : Cond.selects RX6 yX6_asItIs yX6_asItIs ∈ lw_tbl := List.mem_append_left _ (List.mem_of_getElem? (i := 42) rfl)
theorem wm_429 : Cond.methodLink RX6 189 yX6_weirs ∈ lw_tbl := List.mem_append_right _ (List.mem_append_right _ (List.mem_append_right _ (List.mem_append_right _ (List.mem_append_right _ (List.mem_of_getElem? (i := 22) rfl)))))
theorem wm_430 : Cond.instanceMethod yX6_weirs ∈ lw_tbl := List.mem_append_right _ (List.mem_append_right _ (List.mem_append_right _ (List.mem_append_right _ (List.mem_append_right _ (List.mem_of_getElem? (i := 24) rfl)))))
theorem wm_431 : Cond.selects RX6 yX6_weirs yX6_weirs ∈ lw_tbl := List.mem_append_left _ (List.mem_of_getElem? (i := 43) rfl)
theorem wm_432 : Cond.methodLink RX6 192 yX6_bits ∈ lw_tbl := List.mem_append_right _ (List.mem_append_right _ (List.mem_append_right _ (List.mem_append_right _ (List.mem_append_right _ (List.mem_of_getElem? (i := 26) rfl)))))
theorem wm_433 : Cond.static yX6_bits ∈ lw_tbl := List.mem_append_right _ (List.mem_append_right _ (List.mem_append_right _ (List.mem_append_right _ (List.mem_append_right _ (List.mem_of_getElem? (i := 27) rfl)))))
theorem wm_434 : Cond.methodLink RX6 195 yX6_tries ∈ lw_tbl := List.mem_append_right _ (List.mem_append_right _ (List.mem_append_right _ (List.mem_append_right _ (List.mem_append_right _ (List.mem_of_getElem? (i := 29) rfl)))))
theorem wm_435 : Cond.instanceMethod yX6_tries ∈ lw_tbl := List.mem_append_right _ (List.mem_append_right _ (List.mem_append_right _ (List.mem_append_right _ (List.mem_append_right _ (List.mem_of_getElem? (i := 31) rfl)))))
theorem wm_436 : Cond.selects RX6 yX6_tries yX6_tries ∈ lw_tbl := List.mem_append_left _ (List.mem_of_getElem? (i := 44) rfl)
theorem wm_437 : Cond.methodLink RX6 198 yX6_spread ∈ lw_tbl := List.mem_append_right _ (List.mem_append_right _ (List.mem_append_right _ (List.mem_append_right _ (List.mem_append_right _ (List.mem_of_getElem? (i := 37) rfl)))))
theorem wm_438 : Cond.instanceMethod yX6_spread ∈ lw_tbl := List.mem_append_right _ (List.mem_append_right _ (List.mem_append_right _ (List.mem_append_right _ (List.mem_append_right _ (List.mem_of_getElem? (i := 39) rfl)))))
theorem wm_439 : Cond.selects RX6 yX6_spread yX6_spread ∈ lw_tbl := List.mem_append_left _ (List.mem_of_getElem? (i := 45) rfl)
theorem wm_440 : Cond.methodLink RX6 205 yX6_isSo ∈ lw_tbl := List.mem_append_right _ (List.mem_append_right _ (List.mem_append_right _ (List.mem_append_right _ (List.mem_append_right _ (List.mem_of_getElem? (i := 57) rfl)))))
theorem wm_441 : Cond.instanceMethod yX6_isSo ∈ lw_tbl := List.mem_append_right _ (List.mem_append_right _ (List.mem_append_right _ (List.mem_append_right _ (List.mem_append_right _ (List.mem_of_getElem? (i := 59) rfl)))))
theorem wm_442 : Cond.selects RX6 yX6_isSo yX6_isSo ∈ lw_tbl := List.mem_append_left _ (List.mem_of_getElem? (i := 49) rfl)
theorem wm_443 : Cond.methodLink RX6 208 yX6_wrongRow ∈ lw_tbl := List.mem_append_right _ (List.mem_append_right _ (List.mem_append_right _ (List.mem_append_right _ (List.mem_append_right _ (List.mem_of_getElem? (i := 49) rfl)))))
theorem wm_444 : Cond.instanceMethod yX6_wrongRow ∈ lw_tbl := List.mem_append_right _ (List.mem_append_right _ (List.mem_append_right _ (List.mem_append_right _ (List.mem_append_right _ (List.mem_of_getElem? (i := 51) rfl)))))
theorem wm_445 : Cond.selects RX6 yX6_wrongRow yX6_wrongRow ∈ lw_tbl := List.mem_append_left _ (List.mem_of_getElem? (i := 47) rfl)
theorem wm_446 : Cond.methodLink RX6 211 yX6_refusedBy ∈ lw_tbl := List.mem_append_right _ (List.mem_append_right _ (List.mem_append_right _ (List.mem_append_right _ (List.mem_append_right _ (List.mem_of_getElem? (i := 45) rfl)))))
theorem wm_447 : Cond.instanceMethod yX6_refusedBy ∈ lw_tbl := List.mem_append_right _ (List.mem_append_right _ (List.mem_append_right _ (List.mem_append_right _ (List.mem_append_right _ (List.mem_of_getElem? (i := 47) rfl)))))
theorem wm_448 : Cond.selects RX6 yX6_refusedBy yX6_refusedBy ∈ lw_tbl := List.mem_append_left _ (List.mem_of_getElem? (i := 46) rfl)
theorem wm_449 : Cond.methodLink RX6 214 yX6_layFits ∈ lw_tbl := List.mem_append_right _ (List.mem_append_right _ (List.mem_append_right _ (List.mem_append_right _ (List.mem_append_right _ (List.mem_of_getElem? (i := 53) rfl)))))
theorem wm_450 : Cond.instanceMethod yX6_layFits ∈ lw_tbl := List.mem_append_right _ (List.mem_append_right _ (List.mem_append_right _ (List.mem_append_right _ (List.mem_append_right _ (List.mem_of_getElem? (i := 55) rfl)))))
theorem wm_451 : Cond.selects RX6 yX6_layFits yX6_layFits ∈ lw_tbl := List.mem_append_left _ (List.mem_of_getElem? (i := 48) rfl)
theorem wm_452 : Cond.methodLink RX6 220 yX6_partBy ∈ lw_tbl := List.mem_append_right _ (List.mem_append_right _ (List.mem_append_right _ (List.mem_append_right _ (List.mem_append_right _ (List.mem_of_getElem? (i := 69) rfl)))))
theorem wm_453 : Cond.instanceMethod yX6_partBy ∈ lw_tbl := List.mem_append_right _ (List.mem_append_right _ (List.mem_append_right _ (List.mem_append_right _ (List.mem_append_right _ (List.mem_of_getElem? (i := 71) rfl)))))
theorem wm_454 : Cond.selects RX6 yX6_partBy yX6_partBy ∈ lw_tbl := List.mem_append_left _ (List.mem_of_getElem? (i := 50) rfl)
theorem wm_455 : Cond.methodLink RX6 223 yX6_refusedOf ∈ lw_tbl := List.mem_append_right _ (List.mem_append_right _ (List.mem_append_right _ (List.mem_append_right _ (List.mem_append_right _ (List.mem_of_getElem? (i := 77) rfl)))))
theorem wm_456 : Cond.instanceMethod yX6_refusedOf ∈ lw_tbl := List.mem_append_right _ (List.mem_append_right _ (List.mem_append_right _ (List.mem_append_right _ (List.mem_append_right _ (List.mem_of_getElem? (i := 79) rfl)))))
theorem wm_457 : Cond.selects RX6 yX6_refusedOf yX6_refusedOf ∈ lw_tbl := List.mem_append_left _ (List.mem_of_getElem? (i := 51) rfl)
theorem wm_458 : Cond.methodLink RX6 227 yX6_widthOf ∈ lw_tbl := List.mem_append_right _ (List.mem_append_right _ (List.mem_append_right _ (List.mem_append_right _ (List.mem_append_right _ (List.mem_of_getElem? (i := 89) rfl)))))
theorem wm_459 : Cond.instanceMethod yX6_widthOf ∈ lw_tbl := List.mem_append_right _ (List.mem_append_right _ (List.mem_append_right _ (List.mem_append_right _ (List.mem_append_right _ (List.mem_of_getElem? (i := 91) rfl)))))
theorem wm_460 : Cond.selects RX6 yX6_widthOf yX6_widthOf ∈ lw_tbl := List.mem_append_left _ (List.mem_of_getElem? (i := 52) rfl)
theorem wm_461 : Cond.methodLink RX6 230 yX6_power ∈ lw_tbl := List.mem_append_right _ (List.mem_append_right _ (List.mem_append_right _ (List.mem_append_right _ (List.mem_append_right _ (List.mem_of_getElem? (i := 101) rfl)))))
theorem wm_462 : Cond.static yX6_power ∈ lw_tbl := List.mem_append_right _ (List.mem_append_right _ (List.mem_append_right _ (List.mem_append_right _ (List.mem_append_right _ (List.mem_of_getElem? (i := 102) rfl)))))
theorem wm_463 : Cond.methodLink RX6 233 yX6_worthOf ∈ lw_tbl := List.mem_append_right _ (List.mem_append_right _ (List.mem_append_right _ (List.mem_append_right _ (List.mem_append_right _ (List.mem_of_getElem? (i := 104) rfl)))))
theorem wm_464 : Cond.instanceMethod yX6_worthOf ∈ lw_tbl := List.mem_append_right _ (List.mem_append_right _ (List.mem_append_right _ (List.mem_append_right _ (List.mem_append_right _ (List.mem_of_getElem? (i := 106) rfl)))))
theorem wm_465 : Cond.selects RX6 yX6_worthOf yX6_worthOf ∈ lw_tbl := List.mem_append_left _ (List.mem_of_getElem? (i := 53) rfl)
theorem wm_466 : Cond.methodLink RX6 236 yX6_openOnes ∈ lw_tbl := List.mem_append_right _ (List.mem_append_right _ (List.mem_append_right _ (List.mem_append_right _ (List.mem_append_right _ (List.mem_of_getElem? (i := 116) rfl)))))
theorem wm_467 : Cond.instanceMethod yX6_openOnes ∈ lw_tbl := List.mem_append_right _ (List.mem_append_right _ (List.mem_append_right _ (List.mem_append_right _ (List.mem_append_right _ (List.mem_of_getElem? (i := 118) rfl)))))
theorem wm_468 : Cond.selects RX6 yX6_openOnes yX6_openOnes ∈ lw_tbl := List.mem_append_left _ (List.mem_of_getElem? (i := 55) rfl)
theorem wm_469 : Cond.methodLink RX6 239 yX6_lowest ∈ lw_tbl := List.mem_append_right _ (List.mem_append_right _ (List.mem_append_right _ (List.mem_append_right _ (List.mem_append_right _ (List.mem_of_getElem? (i := 120) rfl)))))
theorem wm_470 : Cond.instanceMethod yX6_lowest ∈ lw_tbl := List.mem_append_right _ (List.mem_append_right _ (List.mem_append_right _ (List.mem_append_right _ (List.mem_append_right _ (List.mem_of_getElem? (i := 122) rfl)))))
theorem wm_471 : Cond.selects RX6 yX6_lowest yX6_lowest ∈ lw_tbl := List.mem_append_left _ (List.mem_of_getElem? (i := 56) rfl)
theorem wm_472 : Cond.methodLink RX6 243 yX6_byChance ∈ lw_tbl := List.mem_append_right _ (List.mem_append_right _ (List.mem_append_right _ (List.mem_append_right _ (List.mem_append_right _ (List.mem_of_getElem? (i := 112) rfl)))))
theorem wm_473 : Cond.instanceMethod yX6_byChance ∈ lw_tbl := List.mem_append_right _ (List.mem_append_right _ (List.mem_append_right _ (List.mem_append_right _ (List.mem_append_right _ (List.mem_of_getElem? (i := 114) rfl)))))
theorem wm_474 : Cond.selects RX6 yX6_byChance yX6_byChance ∈ lw_tbl := List.mem_append_left _ (List.mem_of_getElem? (i := 54) rfl)
theorem wm_475 : Cond.methodLink RX6 256 yX6_lot ∈ lw_tbl := List.mem_append_right _ (List.mem_append_right _ (List.mem_append_right _ (List.mem_append_right _ (List.mem_append_right _ (List.mem_of_getElem? (i := 135) rfl)))))
theorem wm_476 : Cond.instanceMethod yX6_lot ∈ lw_tbl := List.mem_append_right _ (List.mem_append_right _ (List.mem_append_right _ (List.mem_append_right _ (List.mem_append_right _ (List.mem_of_getElem? (i := 137) rfl)))))
theorem wm_477 : Cond.selects RX6 yX6_lot yX6_lot ∈ lw_tbl := List.mem_append_left _ (List.mem_of_getElem? (i := 57) rfl)
theorem wm_478 : Cond.methodLink RX6 260 yX6_levels ∈ lw_tbl := List.mem_append_right _ (List.mem_append_right _ (List.mem_append_right _ (List.mem_append_right _ (List.mem_append_right _ (List.mem_of_getElem? (i := 161) rfl)))))
theorem wm_479 : Cond.instanceMethod yX6_levels ∈ lw_tbl := List.mem_append_right _ (List.mem_append_right _ (List.mem_append_right _ (List.mem_append_right _ (List.mem_append_right _ (List.mem_of_getElem? (i := 163) rfl)))))
theorem wm_480 : Cond.selects RX6 yX6_levels yX6_levels ∈ lw_tbl := List.mem_append_left _ (List.mem_of_getElem? (i := 59) rfl)
theorem wm_481 : Cond.methodLink RX6 263 yX6_manyOf ∈ lw_tbl := List.mem_append_right _ (List.mem_append_right _ (List.mem_append_right _ (List.mem_append_right _ (List.mem_append_right _ (List.mem_of_getElem? (i := 165) rfl)))))
theorem wm_482 : Cond.instanceMethod yX6_manyOf ∈ lw_tbl := List.mem_append_right _ (List.mem_append_right _ (List.mem_append_right _ (List.mem_append_right _ (List.mem_append_right _ (List.mem_of_getElem? (i := 167) rfl)))))
theorem wm_483 : Cond.selects RX6 yX6_manyOf yX6_manyOf ∈ lw_tbl := List.mem_append_left _ (List.mem_of_getElem? (i := 60) rfl)
theorem wm_484 : Cond.methodLink RX6 266 yX6_there ∈ lw_tbl := List.mem_append_right _ (List.mem_append_right _ (List.mem_append_right _ (List.mem_append_right _ (List.mem_append_right _ (List.mem_of_getElem? (i := 169) rfl)))))
theorem wm_485 : Cond.static yX6_there ∈ lw_tbl := List.mem_append_right _ (List.mem_append_right _ (List.mem_append_right _ (List.mem_append_right _ (List.mem_append_right _ (List.mem_of_getElem? (i := 170) rfl)))))
theorem wm_486 : Cond.methodLink RX6 270 yX6_counted ∈ lw_tbl := List.mem_append_right _ (List.mem_append_right _ (List.mem_append_right _ (List.mem_append_right _ (List.mem_append_right _ (List.mem_of_getElem? (i := 157) rfl)))))
theorem wm_487 : Cond.instanceMethod yX6_counted ∈ lw_tbl := List.mem_append_right _ (List.mem_append_right _ (List.mem_append_right _ (List.mem_append_right _ (List.mem_append_right _ (List.mem_of_getElem? (i := 159) rfl)))))
theorem wm_488 : Cond.selects RX6 yX6_counted yX6_counted ∈ lw_tbl := List.mem_append_left _ (List.mem_of_getElem? (i := 58) rfl)
theorem wm_489 : Cond.methodLink RX6 277 yX6_digested ∈ lw_tbl := List.mem_append_right _ (List.mem_append_right _ (List.mem_append_right _ (List.mem_append_right _ (List.mem_append_right _ (List.mem_of_getElem? (i := 186) rfl)))))
theorem wm_490 : Cond.static yX6_digested ∈ lw_tbl := List.mem_append_right _ (List.mem_append_right _ (List.mem_append_right _ (List.mem_append_right _ (List.mem_append_right _ (List.mem_of_getElem? (i := 187) rfl)))))
theorem wm_491 : Cond.methodLink RL 9 yX5_init ∈ lw_tbl := List.mem_append_right _ (List.mem_append_left _ (List.mem_of_getElem? (i := 13) rfl))
theorem wm_492 : Cond.instanceMethod yX5_init ∈ lw_tbl := List.mem_append_right _ (List.mem_append_left _ (List.mem_of_getElem? (i := 14) rfl))
theorem wm_493 : Cond.methodLink RL 12 yX6_init ∈ lw_tbl := List.mem_append_right _ (List.mem_append_right _ (List.mem_append_right _ (List.mem_append_left _ (List.mem_of_getElem? (i := 208) rfl))))
theorem wm_494 : Cond.instanceMethod yX6_init ∈ lw_tbl := List.mem_append_right _ (List.mem_append_right _ (List.mem_append_right _ (List.mem_append_left _ (List.mem_of_getElem? (i := 209) rfl))))
theorem wm_495 : Cond.methodLink RL 13 yX5_row ∈ lw_tbl := List.mem_append_right _ (List.mem_append_left _ (List.mem_of_getElem? (i := 166) rfl))
theorem wm_496 : Cond.instanceMethod yX5_row ∈ lw_tbl := List.mem_append_right _ (List.mem_append_left _ (List.mem_of_getElem? (i := 167) rfl))
theorem wm_497 : Cond.selects RX5 yX5_row yX5_row ∈ lw_tbl := List.mem_append_right _ (List.mem_append_left _ (List.mem_of_getElem? (i := 168) rfl))
theorem wm_498 : Cond.methodLink RL 17 yX6_row ∈ lw_tbl := List.mem_append_right _ (List.mem_append_right _ (List.mem_append_right _ (List.mem_append_right _ (List.mem_append_left _ (List.mem_of_getElem? (i := 62) rfl)))))
theorem wm_499 : Cond.instanceMethod yX6_row ∈ lw_tbl := List.mem_append_right _ (List.mem_append_right _ (List.mem_append_right _ (List.mem_append_right _ (List.mem_append_left _ (List.mem_of_getElem? (i := 63) rfl)))))
theorem wm_500 : Cond.selects RX6 yX6_row yX6_row ∈ lw_tbl := List.mem_append_right _ (List.mem_append_right _ (List.mem_append_right _ (List.mem_append_right _ (List.mem_append_left _ (List.mem_of_getElem? (i := 64) rfl)))))
theorem wm_501 : Cond.methodLink RL 18 yX5_lay ∈ lw_tbl := List.mem_append_right _ (List.mem_append_left _ (List.mem_of_getElem? (i := 185) rfl))
theorem wm_502 : Cond.instanceMethod yX5_lay ∈ lw_tbl := List.mem_append_right _ (List.mem_append_left _ (List.mem_of_getElem? (i := 186) rfl))
theorem wm_503 : Cond.selects RX5 yX5_lay yX5_lay ∈ lw_tbl := List.mem_append_right _ (List.mem_append_left _ (List.mem_of_getElem? (i := 187) rfl))
theorem wm_504 : Cond.methodLink RL 22 yX6_lay ∈ lw_tbl := List.mem_append_right _ (List.mem_append_right _ (List.mem_append_right _ (List.mem_append_right _ (List.mem_append_left _ (List.mem_of_getElem? (i := 77) rfl)))))
theorem wm_505 : Cond.instanceMethod yX6_lay ∈ lw_tbl := List.mem_append_right _ (List.mem_append_right _ (List.mem_append_right _ (List.mem_append_right _ (List.mem_append_left _ (List.mem_of_getElem? (i := 78) rfl)))))
theorem wm_506 : Cond.selects RX6 yX6_lay yX6_lay ∈ lw_tbl := List.mem_append_right _ (List.mem_append_right _ (List.mem_append_right _ (List.mem_append_right _ (List.mem_append_left _ (List.mem_of_getElem? (i := 79) rfl)))))
theorem wm_507 : Cond.methodLink RL 23 yX5_at ∈ lw_tbl := List.mem_append_right _ (List.mem_append_left _ (List.mem_of_getElem? (i := 205) rfl))
theorem wm_508 : Cond.instanceMethod yX5_at ∈ lw_tbl := List.mem_append_right _ (List.mem_append_left _ (List.mem_of_getElem? (i := 206) rfl))
theorem wm_509 : Cond.selects RX5 yX5_at yX5_at ∈ lw_tbl := List.mem_append_right _ (List.mem_append_left _ (List.mem_of_getElem? (i := 207) rfl))
theorem wm_510 : Cond.methodLink RL 26 yX6_at ∈ lw_tbl := List.mem_append_right _ (List.mem_append_right _ (List.mem_append_right _ (List.mem_append_right _ (List.mem_append_left _ (List.mem_of_getElem? (i := 85) rfl)))))
theorem wm_511 : Cond.instanceMethod yX6_at ∈ lw_tbl := List.mem_append_right _ (List.mem_append_right _ (List.mem_append_right _ (List.mem_append_right _ (List.mem_append_left _ (List.mem_of_getElem? (i := 86) rfl)))))
theorem wm_512 : Cond.selects RX6 yX6_at yX6_at ∈ lw_tbl := List.mem_append_right _ (List.mem_append_right _ (List.mem_append_right _ (List.mem_append_right _ (List.mem_append_left _ (List.mem_of_getElem? (i := 87) rfl)))))
theorem wm_513 : Cond.methodLink RL 27 yX5_tear ∈ lw_tbl := List.mem_append_right _ (List.mem_append_left _ (List.mem_of_getElem? (i := 209) rfl))
theorem wm_514 : Cond.instanceMethod yX5_tear ∈ lw_tbl := List.mem_append_right _ (List.mem_append_left _ (List.mem_of_getElem? (i := 210) rfl))
theorem wm_515 : Cond.selects RX5 yX5_tear yX5_tear ∈ lw_tbl := List.mem_append_right _ (List.mem_append_left _ (List.mem_of_getElem? (i := 211) rfl))
theorem wm_516 : Cond.methodLink RL 31 yX6_tear ∈ lw_tbl := List.mem_append_right _ (List.mem_append_right _ (List.mem_append_right _ (List.mem_append_right _ (List.mem_append_left _ (List.mem_of_getElem? (i := 89) rfl)))))
theorem wm_517 : Cond.instanceMethod yX6_tear ∈ lw_tbl := List.mem_append_right _ (List.mem_append_right _ (List.mem_append_right _ (List.mem_append_right _ (List.mem_append_left _ (List.mem_of_getElem? (i := 90) rfl)))))
theorem wm_518 : Cond.selects RX6 yX6_tear yX6_tear ∈ lw_tbl := List.mem_append_right _ (List.mem_append_right _ (List.mem_append_right _ (List.mem_append_right _ (List.mem_append_left _ (List.mem_of_getElem? (i := 91) rfl)))))
theorem wm_519 : Cond.methodLink RL 32 yX5_copy ∈ lw_tbl := List.mem_append_right _ (List.mem_append_left _ (List.mem_of_getElem? (i := 213) rfl))
theorem wm_520 : Cond.instanceMethod yX5_copy ∈ lw_tbl := List.mem_append_right _ (List.mem_append_left _ (List.mem_of_getElem? (i := 214) rfl))
theorem wm_521 : Cond.selects RX5 yX5_copy yX5_copy ∈ lw_tbl := List.mem_append_right _ (List.mem_append_left _ (List.mem_of_getElem? (i := 215) rfl))
theorem wm_522 : Cond.methodLink RL 36 yX6_copy ∈ lw_tbl := List.mem_append_right _ (List.mem_append_right _ (List.mem_append_right _ (List.mem_append_right _ (List.mem_append_left _ (List.mem_of_getElem? (i := 93) rfl)))))
theorem wm_523 : Cond.instanceMethod yX6_copy ∈ lw_tbl := List.mem_append_right _ (List.mem_append_right _ (List.mem_append_right _ (List.mem_append_right _ (List.mem_append_left _ (List.mem_of_getElem? (i := 94) rfl)))))
theorem wm_524 : Cond.selects RX6 yX6_copy yX6_copy ∈ lw_tbl := List.mem_append_right _ (List.mem_append_right _ (List.mem_append_right _ (List.mem_append_right _ (List.mem_append_left _ (List.mem_of_getElem? (i := 95) rfl)))))
theorem wm_525 : Cond.methodLink RL 37 yX5_mean ∈ lw_tbl := List.mem_append_right _ (List.mem_append_left _ (List.mem_of_getElem? (i := 224) rfl))
theorem wm_526 : Cond.instanceMethod yX5_mean ∈ lw_tbl := List.mem_append_right _ (List.mem_append_left _ (List.mem_of_getElem? (i := 225) rfl))
theorem wm_527 : Cond.selects RX5 yX5_mean yX5_mean ∈ lw_tbl := List.mem_append_right _ (List.mem_append_left _ (List.mem_of_getElem? (i := 226) rfl))
theorem wm_528 : Cond.methodLink RL 40 yX6_mean ∈ lw_tbl := List.mem_append_right _ (List.mem_append_right _ (List.mem_append_right _ (List.mem_append_right _ (List.mem_append_left _ (List.mem_of_getElem? (i := 100) rfl)))))
theorem wm_529 : Cond.instanceMethod yX6_mean ∈ lw_tbl := List.mem_append_right _ (List.mem_append_right _ (List.mem_append_right _ (List.mem_append_right _ (List.mem_append_left _ (List.mem_of_getElem? (i := 101) rfl)))))
theorem wm_530 : Cond.selects RX6 yX6_mean yX6_mean ∈ lw_tbl := List.mem_append_right _ (List.mem_append_right _ (List.mem_append_right _ (List.mem_append_right _ (List.mem_append_left _ (List.mem_of_getElem? (i := 102) rfl)))))
theorem wm_531 : Cond.methodLink RL 41 yX5_text ∈ lw_tbl := List.mem_append_right _ (List.mem_append_left _ (List.mem_of_getElem? (i := 228) rfl))
theorem wm_532 : Cond.instanceMethod yX5_text ∈ lw_tbl := List.mem_append_right _ (List.mem_append_left _ (List.mem_of_getElem? (i := 229) rfl))
theorem wm_533 : Cond.selects RX5 yX5_text yX5_text ∈ lw_tbl := List.mem_append_right _ (List.mem_append_left _ (List.mem_of_getElem? (i := 230) rfl))
theorem wm_534 : Cond.methodLink RL 44 yX6_text ∈ lw_tbl := List.mem_append_right _ (List.mem_append_right _ (List.mem_append_right _ (List.mem_append_right _ (List.mem_append_left _ (List.mem_of_getElem? (i := 104) rfl)))))
theorem wm_535 : Cond.instanceMethod yX6_text ∈ lw_tbl := List.mem_append_right _ (List.mem_append_right _ (List.mem_append_right _ (List.mem_append_right _ (List.mem_append_left _ (List.mem_of_getElem? (i := 105) rfl)))))
theorem wm_536 : Cond.selects RX6 yX6_text yX6_text ∈ lw_tbl := List.mem_append_right _ (List.mem_append_right _ (List.mem_append_right _ (List.mem_append_right _ (List.mem_append_left _ (List.mem_of_getElem? (i := 106) rfl)))))
theorem wm_537 : Cond.methodLink RL 45 yX5_put ∈ lw_tbl := List.mem_append_right _ (List.mem_append_left _ (List.mem_of_getElem? (i := 235) rfl))
theorem wm_538 : Cond.instanceMethod yX5_put ∈ lw_tbl := List.mem_append_right _ (List.mem_append_left _ (List.mem_of_getElem? (i := 236) rfl))
theorem wm_539 : Cond.selects RX5 yX5_put yX5_put ∈ lw_tbl := List.mem_append_right _ (List.mem_append_left _ (List.mem_of_getElem? (i := 237) rfl))
theorem wm_540 : Cond.methodLink RL 48 yX6_put ∈ lw_tbl := List.mem_append_right _ (List.mem_append_right _ (List.mem_append_right _ (List.mem_append_right _ (List.mem_append_left _ (List.mem_of_getElem? (i := 112) rfl)))))
theorem wm_541 : Cond.instanceMethod yX6_put ∈ lw_tbl := List.mem_append_right _ (List.mem_append_right _ (List.mem_append_right _ (List.mem_append_right _ (List.mem_append_left _ (List.mem_of_getElem? (i := 113) rfl)))))
theorem wm_542 : Cond.selects RX6 yX6_put yX6_put ∈ lw_tbl := List.mem_append_right _ (List.mem_append_right _ (List.mem_append_right _ (List.mem_append_right _ (List.mem_append_left _ (List.mem_of_getElem? (i := 114) rfl)))))
theorem wm_543 : Cond.methodLink RL 49 yX5_fault ∈ lw_tbl := List.mem_append_right _ (List.mem_append_left _ (List.mem_of_getElem? (i := 239) rfl))
theorem wm_544 : Cond.instanceMethod yX5_fault ∈ lw_tbl := List.mem_append_right _ (List.mem_append_right _ (List.mem_append_left _ (List.mem_of_getElem? (i := 0) rfl)))
theorem wm_545 : Cond.selects RX5 yX5_fault yX5_fault ∈ lw_tbl := List.mem_append_right _ (List.mem_append_right _ (List.mem_append_left _ (List.mem_of_getElem? (i := 1) rfl)))
theorem wm_546 : Cond.methodLink RL 52 yX6_fault ∈ lw_tbl := List.mem_append_right _ (List.mem_append_right _ (List.mem_append_right _ (List.mem_append_right _ (List.mem_append_left _ (List.mem_of_getElem? (i := 116) rfl)))))
theorem wm_547 : Cond.instanceMethod yX6_fault ∈ lw_tbl := List.mem_append_right _ (List.mem_append_right _ (List.mem_append_right _ (List.mem_append_right _ (List.mem_append_left _ (List.mem_of_getElem? (i := 117) rfl)))))
theorem wm_548 : Cond.selects RX6 yX6_fault yX6_fault ∈ lw_tbl := List.mem_append_right _ (List.mem_append_right _ (List.mem_append_right _ (List.mem_append_right _ (List.mem_append_left _ (List.mem_of_getElem? (i := 118) rfl)))))
theorem wm_549 : Cond.methodLink RL 53 yX5_bridge ∈ lw_tbl := List.mem_append_right _ (List.mem_append_right _ (List.mem_append_left _ (List.mem_of_getElem? (i := 35) rfl)))
theorem wm_550 : Cond.instanceMethod yX5_bridge ∈ lw_tbl := List.mem_append_right _ (List.mem_append_right _ (List.mem_append_left _ (List.mem_of_getElem? (i := 36) rfl)))
theorem wm_551 : Cond.selects RX5 yX5_bridge yX5_bridge ∈ lw_tbl := List.mem_append_right _ (List.mem_append_right _ (List.mem_append_left _ (List.mem_of_getElem? (i := 37) rfl)))
theorem wm_552 : Cond.methodLink RL 56 yX6_bridge ∈ lw_tbl := List.mem_append_right _ (List.mem_append_right _ (List.mem_append_right _ (List.mem_append_right _ (List.mem_append_left _ (List.mem_of_getElem? (i := 147) rfl)))))
theorem wm_553 : Cond.instanceMethod yX6_bridge ∈ lw_tbl := List.mem_append_right _ (List.mem_append_right _ (List.mem_append_right _ (List.mem_append_right _ (List.mem_append_left _ (List.mem_of_getElem? (i := 148) rfl)))))
theorem wm_554 : Cond.selects RX6 yX6_bridge yX6_bridge ∈ lw_tbl := List.mem_append_right _ (List.mem_append_right _ (List.mem_append_right _ (List.mem_append_right _ (List.mem_append_left _ (List.mem_of_getElem? (i := 149) rfl)))))
theorem wm_555 : Cond.methodLink RL 57 yX5_basin ∈ lw_tbl := List.mem_append_right _ (List.mem_append_right _ (List.mem_append_left _ (List.mem_of_getElem? (i := 48) rfl)))
theorem wm_556 : Cond.instanceMethod yX5_basin ∈ lw_tbl := List.mem_append_right _ (List.mem_append_right _ (List.mem_append_left _ (List.mem_of_getElem? (i := 49) rfl)))
theorem wm_557 : Cond.selects RX5 yX5_basin yX5_basin ∈ lw_tbl := List.mem_append_right _ (List.mem_append_right _ (List.mem_append_left _ (List.mem_of_getElem? (i := 50) rfl)))
theorem wm_558 : Cond.methodLink RL 60 yX6_basin ∈ lw_tbl := List.mem_append_right _ (List.mem_append_right _ (List.mem_append_right _ (List.mem_append_right _ (List.mem_append_left _ (List.mem_of_getElem? (i := 154) rfl)))))
theorem wm_559 : Cond.instanceMethod yX6_basin ∈ lw_tbl := List.mem_append_right _ (List.mem_append_right _ (List.mem_append_right _ (List.mem_append_right _ (List.mem_append_left _ (List.mem_of_getElem? (i := 155) rfl)))))
theorem wm_560 : Cond.selects RX6 yX6_basin yX6_basin ∈ lw_tbl := List.mem_append_right _ (List.mem_append_right _ (List.mem_append_right _ (List.mem_append_right _ (List.mem_append_left _ (List.mem_of_getElem? (i := 156) rfl)))))
theorem wm_561 : Cond.methodLink RL 61 yX5_gate ∈ lw_tbl := List.mem_append_right _ (List.mem_append_right _ (List.mem_append_left _ (List.mem_of_getElem? (i := 64) rfl)))
theorem wm_562 : Cond.instanceMethod yX5_gate ∈ lw_tbl := List.mem_append_right _ (List.mem_append_right _ (List.mem_append_left _ (List.mem_of_getElem? (i := 65) rfl)))
theorem wm_563 : Cond.selects RX5 yX5_gate yX5_gate ∈ lw_tbl := List.mem_append_right _ (List.mem_append_right _ (List.mem_append_left _ (List.mem_of_getElem? (i := 66) rfl)))
theorem wm_564 : Cond.methodLink RL 64 yX6_gate ∈ lw_tbl := List.mem_append_right _ (List.mem_append_right _ (List.mem_append_right _ (List.mem_append_right _ (List.mem_append_left _ (List.mem_of_getElem? (i := 162) rfl)))))
theorem wm_565 : Cond.instanceMethod yX6_gate ∈ lw_tbl := List.mem_append_right _ (List.mem_append_right _ (List.mem_append_right _ (List.mem_append_right _ (List.mem_append_left _ (List.mem_of_getElem? (i := 163) rfl)))))
theorem wm_566 : Cond.selects RX6 yX6_gate yX6_gate ∈ lw_tbl := List.mem_append_right _ (List.mem_append_right _ (List.mem_append_right _ (List.mem_append_right _ (List.mem_append_left _ (List.mem_of_getElem? (i := 164) rfl)))))
theorem wm_567 : Cond.methodLink RL 65 yX5_mark ∈ lw_tbl := List.mem_append_right _ (List.mem_append_right _ (List.mem_append_left _ (List.mem_of_getElem? (i := 115) rfl)))
theorem wm_568 : Cond.instanceMethod yX5_mark ∈ lw_tbl := List.mem_append_right _ (List.mem_append_right _ (List.mem_append_left _ (List.mem_of_getElem? (i := 116) rfl)))
theorem wm_569 : Cond.selects RX5 yX5_mark yX5_mark ∈ lw_tbl := List.mem_append_right _ (List.mem_append_right _ (List.mem_append_left _ (List.mem_of_getElem? (i := 117) rfl)))
theorem wm_570 : Cond.methodLink RL 68 yX6_mark ∈ lw_tbl := List.mem_append_right _ (List.mem_append_right _ (List.mem_append_right _ (List.mem_append_right _ (List.mem_append_left _ (List.mem_of_getElem? (i := 194) rfl)))))
theorem wm_571 : Cond.instanceMethod yX6_mark ∈ lw_tbl := List.mem_append_right _ (List.mem_append_right _ (List.mem_append_right _ (List.mem_append_right _ (List.mem_append_left _ (List.mem_of_getElem? (i := 195) rfl)))))
theorem wm_572 : Cond.selects RX6 yX6_mark yX6_mark ∈ lw_tbl := List.mem_append_right _ (List.mem_append_right _ (List.mem_append_right _ (List.mem_append_right _ (List.mem_append_left _ (List.mem_of_getElem? (i := 196) rfl)))))
theorem wm_573 : Cond.methodLink RL 69 yX5_turn ∈ lw_tbl := List.mem_append_right _ (List.mem_append_right _ (List.mem_append_left _ (List.mem_of_getElem? (i := 131) rfl)))
theorem wm_574 : Cond.instanceMethod yX5_turn ∈ lw_tbl := List.mem_append_right _ (List.mem_append_right _ (List.mem_append_left _ (List.mem_of_getElem? (i := 132) rfl)))
theorem wm_575 : Cond.selects RX5 yX5_turn yX5_turn ∈ lw_tbl := List.mem_append_right _ (List.mem_append_right _ (List.mem_append_left _ (List.mem_of_getElem? (i := 133) rfl)))
theorem wm_576 : Cond.methodLink RL 73 yX6_turn ∈ lw_tbl := List.mem_append_right _ (List.mem_append_right _ (List.mem_append_right _ (List.mem_append_right _ (List.mem_append_left _ (List.mem_of_getElem? (i := 202) rfl)))))
theorem wm_577 : Cond.instanceMethod yX6_turn ∈ lw_tbl := List.mem_append_right _ (List.mem_append_right _ (List.mem_append_right _ (List.mem_append_right _ (List.mem_append_left _ (List.mem_of_getElem? (i := 203) rfl)))))
theorem wm_578 : Cond.selects RX6 yX6_turn yX6_turn ∈ lw_tbl := List.mem_append_right _ (List.mem_append_right _ (List.mem_append_right _ (List.mem_append_right _ (List.mem_append_left _ (List.mem_of_getElem? (i := 204) rfl)))))
theorem wm_579 : Cond.methodLink RL 74 yX5_wind ∈ lw_tbl := List.mem_append_right _ (List.mem_append_right _ (List.mem_append_left _ (List.mem_of_getElem? (i := 151) rfl)))
theorem wm_580 : Cond.instanceMethod yX5_wind ∈ lw_tbl := List.mem_append_right _ (List.mem_append_right _ (List.mem_append_left _ (List.mem_of_getElem? (i := 152) rfl)))
theorem wm_581 : Cond.selects RX5 yX5_wind yX5_wind ∈ lw_tbl := List.mem_append_right _ (List.mem_append_right _ (List.mem_append_left _ (List.mem_of_getElem? (i := 153) rfl)))
theorem wm_582 : Cond.methodLink RL 77 yX6_wind ∈ lw_tbl := List.mem_append_right _ (List.mem_append_right _ (List.mem_append_right _ (List.mem_append_right _ (List.mem_append_left _ (List.mem_of_getElem? (i := 214) rfl)))))
theorem wm_583 : Cond.instanceMethod yX6_wind ∈ lw_tbl := List.mem_append_right _ (List.mem_append_right _ (List.mem_append_right _ (List.mem_append_right _ (List.mem_append_left _ (List.mem_of_getElem? (i := 215) rfl)))))
theorem wm_584 : Cond.selects RX6 yX6_wind yX6_wind ∈ lw_tbl := List.mem_append_right _ (List.mem_append_right _ (List.mem_append_right _ (List.mem_append_right _ (List.mem_append_left _ (List.mem_of_getElem? (i := 216) rfl)))))
theorem wm_585 : Cond.methodLink RL 78 yX5_rain ∈ lw_tbl := List.mem_append_right _ (List.mem_append_right _ (List.mem_append_left _ (List.mem_of_getElem? (i := 156) rfl)))
theorem wm_586 : Cond.instanceMethod yX5_rain ∈ lw_tbl := List.mem_append_right _ (List.mem_append_right _ (List.mem_append_left _ (List.mem_of_getElem? (i := 157) rfl)))
theorem wm_587 : Cond.selects RX5 yX5_rain yX5_rain ∈ lw_tbl := List.mem_append_right _ (List.mem_append_right _ (List.mem_append_left _ (List.mem_of_getElem? (i := 158) rfl)))
theorem wm_588 : Cond.methodLink RL 81 yX6_rain ∈ lw_tbl := List.mem_append_right _ (List.mem_append_right _ (List.mem_append_right _ (List.mem_append_right _ (List.mem_append_left _ (List.mem_of_getElem? (i := 218) rfl)))))
theorem wm_589 : Cond.instanceMethod yX6_rain ∈ lw_tbl := List.mem_append_right _ (List.mem_append_right _ (List.mem_append_right _ (List.mem_append_right _ (List.mem_append_left _ (List.mem_of_getElem? (i := 219) rfl)))))
theorem wm_590 : Cond.selects RX6 yX6_rain yX6_rain ∈ lw_tbl := List.mem_append_right _ (List.mem_append_right _ (List.mem_append_right _ (List.mem_append_right _ (List.mem_append_left _ (List.mem_of_getElem? (i := 220) rfl)))))
theorem wm_591 : Cond.methodLink RL 82 yX5_draw ∈ lw_tbl := List.mem_append_right _ (List.mem_append_right _ (List.mem_append_left _ (List.mem_of_getElem? (i := 170) rfl)))
theorem wm_592 : Cond.instanceMethod yX5_draw ∈ lw_tbl := List.mem_append_right _ (List.mem_append_right _ (List.mem_append_left _ (List.mem_of_getElem? (i := 171) rfl)))
theorem wm_593 : Cond.selects RX5 yX5_draw yX5_draw ∈ lw_tbl := List.mem_append_right _ (List.mem_append_right _ (List.mem_append_left _ (List.mem_of_getElem? (i := 172) rfl)))
theorem wm_594 : Cond.methodLink RL 85 yX6_draw ∈ lw_tbl := List.mem_append_right _ (List.mem_append_right _ (List.mem_append_right _ (List.mem_append_right _ (List.mem_append_left _ (List.mem_of_getElem? (i := 226) rfl)))))
theorem wm_595 : Cond.instanceMethod yX6_draw ∈ lw_tbl := List.mem_append_right _ (List.mem_append_right _ (List.mem_append_right _ (List.mem_append_right _ (List.mem_append_left _ (List.mem_of_getElem? (i := 227) rfl)))))
theorem wm_596 : Cond.selects RX6 yX6_draw yX6_draw ∈ lw_tbl := List.mem_append_right _ (List.mem_append_right _ (List.mem_append_right _ (List.mem_append_right _ (List.mem_append_left _ (List.mem_of_getElem? (i := 228) rfl)))))
theorem wm_597 : Cond.methodLink RL 86 yX5_undo ∈ lw_tbl := List.mem_append_right _ (List.mem_append_right _ (List.mem_append_left _ (List.mem_of_getElem? (i := 174) rfl)))
theorem wm_598 : Cond.instanceMethod yX5_undo ∈ lw_tbl := List.mem_append_right _ (List.mem_append_right _ (List.mem_append_left _ (List.mem_of_getElem? (i := 175) rfl)))
theorem wm_599 : Cond.selects RX5 yX5_undo yX5_undo ∈ lw_tbl := List.mem_append_right _ (List.mem_append_right _ (List.mem_append_left _ (List.mem_of_getElem? (i := 176) rfl)))
theorem wm_600 : Cond.methodLink RL 89 yX6_undo ∈ lw_tbl := List.mem_append_right _ (List.mem_append_right _ (List.mem_append_right _ (List.mem_append_right _ (List.mem_append_left _ (List.mem_of_getElem? (i := 230) rfl)))))
theorem wm_601 : Cond.instanceMethod yX6_undo ∈ lw_tbl := List.mem_append_right _ (List.mem_append_right _ (List.mem_append_right _ (List.mem_append_right _ (List.mem_append_left _ (List.mem_of_getElem? (i := 231) rfl)))))
theorem wm_602 : Cond.selects RX6 yX6_undo yX6_undo ∈ lw_tbl := List.mem_append_right _ (List.mem_append_right _ (List.mem_append_right _ (List.mem_append_right _ (List.mem_append_left _ (List.mem_of_getElem? (i := 232) rfl)))))
theorem wm_603 : Cond.methodLink RL 90 yX5_keep ∈ lw_tbl := List.mem_append_right _ (List.mem_append_right _ (List.mem_append_left _ (List.mem_of_getElem? (i := 182) rfl)))
theorem wm_604 : Cond.instanceMethod yX5_keep ∈ lw_tbl := List.mem_append_right _ (List.mem_append_right _ (List.mem_append_left _ (List.mem_of_getElem? (i := 183) rfl)))
theorem wm_605 : Cond.selects RX5 yX5_keep yX5_keep ∈ lw_tbl := List.mem_append_right _ (List.mem_append_right _ (List.mem_append_left _ (List.mem_of_getElem? (i := 184) rfl)))
theorem wm_606 : Cond.methodLink RL 93 yX6_keep ∈ lw_tbl := List.mem_append_right _ (List.mem_append_right _ (List.mem_append_right _ (List.mem_append_right _ (List.mem_append_left _ (List.mem_of_getElem? (i := 234) rfl)))))
theorem wm_607 : Cond.instanceMethod yX6_keep ∈ lw_tbl := List.mem_append_right _ (List.mem_append_right _ (List.mem_append_right _ (List.mem_append_right _ (List.mem_append_left _ (List.mem_of_getElem? (i := 235) rfl)))))
theorem wm_608 : Cond.selects RX6 yX6_keep yX6_keep ∈ lw_tbl := List.mem_append_right _ (List.mem_append_right _ (List.mem_append_right _ (List.mem_append_right _ (List.mem_append_left _ (List.mem_of_getElem? (i := 236) rfl)))))
theorem wm_609 : Cond.methodLink RL 94 yX5_on ∈ lw_tbl := List.mem_append_right _ (List.mem_append_right _ (List.mem_append_left _ (List.mem_of_getElem? (i := 193) rfl)))
theorem wm_610 : Cond.instanceMethod yX5_on ∈ lw_tbl := List.mem_append_right _ (List.mem_append_right _ (List.mem_append_left _ (List.mem_of_getElem? (i := 194) rfl)))
theorem wm_611 : Cond.selects RX5 yX5_on yX5_on ∈ lw_tbl := List.mem_append_right _ (List.mem_append_right _ (List.mem_append_left _ (List.mem_of_getElem? (i := 195) rfl)))
theorem wm_612 : Cond.methodLink RL 97 yX6_on ∈ lw_tbl := List.mem_append_right _ (List.mem_append_right _ (List.mem_append_right _ (List.mem_append_right _ (List.mem_append_left _ (List.mem_of_getElem? (i := 238) rfl)))))
theorem wm_613 : Cond.instanceMethod yX6_on ∈ lw_tbl := List.mem_append_right _ (List.mem_append_right _ (List.mem_append_right _ (List.mem_append_right _ (List.mem_append_left _ (List.mem_of_getElem? (i := 239) rfl)))))
theorem wm_614 : Cond.selects RX6 yX6_on yX6_on ∈ lw_tbl := List.mem_append_right _ (List.mem_append_right _ (List.mem_append_right _ (List.mem_append_right _ (List.mem_append_right _ (List.mem_of_getElem? (i := 0) rfl)))))
theorem wm_615 : Cond.methodLink RL 98 yX5_flows ∈ lw_tbl := List.mem_append_right _ (List.mem_append_right _ (List.mem_append_left _ (List.mem_of_getElem? (i := 197) rfl)))
theorem wm_616 : Cond.instanceMethod yX5_flows ∈ lw_tbl := List.mem_append_right _ (List.mem_append_right _ (List.mem_append_left _ (List.mem_of_getElem? (i := 198) rfl)))
theorem wm_617 : Cond.selects RX5 yX5_flows yX5_flows ∈ lw_tbl := List.mem_append_right _ (List.mem_append_right _ (List.mem_append_left _ (List.mem_of_getElem? (i := 199) rfl)))
theorem wm_618 : Cond.methodLink RL 102 yX6_flows ∈ lw_tbl := List.mem_append_right _ (List.mem_append_right _ (List.mem_append_right _ (List.mem_append_right _ (List.mem_append_right _ (List.mem_of_getElem? (i := 2) rfl)))))
theorem wm_619 : Cond.instanceMethod yX6_flows ∈ lw_tbl := List.mem_append_right _ (List.mem_append_right _ (List.mem_append_right _ (List.mem_append_right _ (List.mem_append_right _ (List.mem_of_getElem? (i := 3) rfl)))))
theorem wm_620 : Cond.selects RX6 yX6_flows yX6_flows ∈ lw_tbl := List.mem_append_right _ (List.mem_append_right _ (List.mem_append_right _ (List.mem_append_right _ (List.mem_append_right _ (List.mem_of_getElem? (i := 4) rfl)))))
theorem wm_621 : Cond.methodLink RL 103 yX5_level ∈ lw_tbl := List.mem_append_right _ (List.mem_append_right _ (List.mem_append_left _ (List.mem_of_getElem? (i := 205) rfl)))
theorem wm_622 : Cond.instanceMethod yX5_level ∈ lw_tbl := List.mem_append_right _ (List.mem_append_right _ (List.mem_append_left _ (List.mem_of_getElem? (i := 206) rfl)))
theorem wm_623 : Cond.selects RX5 yX5_level yX5_level ∈ lw_tbl := List.mem_append_right _ (List.mem_append_right _ (List.mem_append_left _ (List.mem_of_getElem? (i := 207) rfl)))
theorem wm_624 : Cond.methodLink RL 106 yX6_level ∈ lw_tbl := List.mem_append_right _ (List.mem_append_right _ (List.mem_append_right _ (List.mem_append_right _ (List.mem_append_right _ (List.mem_of_getElem? (i := 6) rfl)))))
theorem wm_625 : Cond.instanceMethod yX6_level ∈ lw_tbl := List.mem_append_right _ (List.mem_append_right _ (List.mem_append_right _ (List.mem_append_right _ (List.mem_append_right _ (List.mem_of_getElem? (i := 7) rfl)))))
theorem wm_626 : Cond.selects RX6 yX6_level yX6_level ∈ lw_tbl := List.mem_append_right _ (List.mem_append_right _ (List.mem_append_right _ (List.mem_append_right _ (List.mem_append_right _ (List.mem_of_getElem? (i := 8) rfl)))))
theorem wm_627 : Cond.methodLink RL 107 yX5_stops ∈ lw_tbl := List.mem_append_right _ (List.mem_append_right _ (List.mem_append_left _ (List.mem_of_getElem? (i := 215) rfl)))
theorem wm_628 : Cond.instanceMethod yX5_stops ∈ lw_tbl := List.mem_append_right _ (List.mem_append_right _ (List.mem_append_left _ (List.mem_of_getElem? (i := 216) rfl)))
theorem wm_629 : Cond.selects RX5 yX5_stops yX5_stops ∈ lw_tbl := List.mem_append_right _ (List.mem_append_right _ (List.mem_append_left _ (List.mem_of_getElem? (i := 217) rfl)))
theorem wm_630 : Cond.methodLink RL 110 yX6_stops ∈ lw_tbl := List.mem_append_right _ (List.mem_append_right _ (List.mem_append_right _ (List.mem_append_right _ (List.mem_append_right _ (List.mem_of_getElem? (i := 14) rfl)))))
theorem wm_631 : Cond.instanceMethod yX6_stops ∈ lw_tbl := List.mem_append_right _ (List.mem_append_right _ (List.mem_append_right _ (List.mem_append_right _ (List.mem_append_right _ (List.mem_of_getElem? (i := 15) rfl)))))
theorem wm_632 : Cond.selects RX6 yX6_stops yX6_stops ∈ lw_tbl := List.mem_append_right _ (List.mem_append_right _ (List.mem_append_right _ (List.mem_append_right _ (List.mem_append_right _ (List.mem_of_getElem? (i := 16) rfl)))))
theorem wm_633 : Cond.methodLink RL 111 yX5_high ∈ lw_tbl := List.mem_append_right _ (List.mem_append_right _ (List.mem_append_left _ (List.mem_of_getElem? (i := 219) rfl)))
theorem wm_634 : Cond.instanceMethod yX5_high ∈ lw_tbl := List.mem_append_right _ (List.mem_append_right _ (List.mem_append_left _ (List.mem_of_getElem? (i := 220) rfl)))
theorem wm_635 : Cond.selects RX5 yX5_high yX5_high ∈ lw_tbl := List.mem_append_right _ (List.mem_append_right _ (List.mem_append_left _ (List.mem_of_getElem? (i := 221) rfl)))
theorem wm_636 : Cond.methodLink RL 114 yX6_high ∈ lw_tbl := List.mem_append_right _ (List.mem_append_right _ (List.mem_append_right _ (List.mem_append_right _ (List.mem_append_right _ (List.mem_of_getElem? (i := 18) rfl)))))
theorem wm_637 : Cond.instanceMethod yX6_high ∈ lw_tbl := List.mem_append_right _ (List.mem_append_right _ (List.mem_append_right _ (List.mem_append_right _ (List.mem_append_right _ (List.mem_of_getElem? (i := 19) rfl)))))
theorem wm_638 : Cond.selects RX6 yX6_high yX6_high ∈ lw_tbl := List.mem_append_right _ (List.mem_append_right _ (List.mem_append_right _ (List.mem_append_right _ (List.mem_append_right _ (List.mem_of_getElem? (i := 20) rfl)))))
theorem wm_639 : Cond.methodLink RL 115 yX5_even ∈ lw_tbl := List.mem_append_right _ (List.mem_append_right _ (List.mem_append_right _ (List.mem_append_left _ (List.mem_of_getElem? (i := 1) rfl))))
theorem wm_640 : Cond.instanceMethod yX5_even ∈ lw_tbl := List.mem_append_right _ (List.mem_append_right _ (List.mem_append_right _ (List.mem_append_left _ (List.mem_of_getElem? (i := 2) rfl))))
theorem wm_641 : Cond.selects RX5 yX5_even yX5_even ∈ lw_tbl := List.mem_append_right _ (List.mem_append_right _ (List.mem_append_right _ (List.mem_append_left _ (List.mem_of_getElem? (i := 3) rfl))))
theorem wm_642 : Cond.methodLink RL 118 yX6_even ∈ lw_tbl := List.mem_append_right _ (List.mem_append_right _ (List.mem_append_right _ (List.mem_append_right _ (List.mem_append_right _ (List.mem_of_getElem? (i := 33) rfl)))))
theorem wm_643 : Cond.instanceMethod yX6_even ∈ lw_tbl := List.mem_append_right _ (List.mem_append_right _ (List.mem_append_right _ (List.mem_append_right _ (List.mem_append_right _ (List.mem_of_getElem? (i := 34) rfl)))))
theorem wm_644 : Cond.selects RX6 yX6_even yX6_even ∈ lw_tbl := List.mem_append_right _ (List.mem_append_right _ (List.mem_append_right _ (List.mem_append_right _ (List.mem_append_right _ (List.mem_of_getElem? (i := 35) rfl)))))
theorem wm_645 : Cond.methodLink RL 119 yX5_opens ∈ lw_tbl := List.mem_append_right _ (List.mem_append_right _ (List.mem_append_right _ (List.mem_append_left _ (List.mem_of_getElem? (i := 9) rfl))))
theorem wm_646 : Cond.instanceMethod yX5_opens ∈ lw_tbl := List.mem_append_right _ (List.mem_append_right _ (List.mem_append_right _ (List.mem_append_left _ (List.mem_of_getElem? (i := 10) rfl))))
theorem wm_647 : Cond.selects RX5 yX5_opens yX5_opens ∈ lw_tbl := List.mem_append_right _ (List.mem_append_right _ (List.mem_append_right _ (List.mem_append_left _ (List.mem_of_getElem? (i := 11) rfl))))
theorem wm_648 : Cond.methodLink RL 122 yX6_opens ∈ lw_tbl := List.mem_append_right _ (List.mem_append_right _ (List.mem_append_right _ (List.mem_append_right _ (List.mem_append_right _ (List.mem_of_getElem? (i := 41) rfl)))))
theorem wm_649 : Cond.instanceMethod yX6_opens ∈ lw_tbl := List.mem_append_right _ (List.mem_append_right _ (List.mem_append_right _ (List.mem_append_right _ (List.mem_append_right _ (List.mem_of_getElem? (i := 42) rfl)))))
theorem wm_650 : Cond.selects RX6 yX6_opens yX6_opens ∈ lw_tbl := List.mem_append_right _ (List.mem_append_right _ (List.mem_append_right _ (List.mem_append_right _ (List.mem_append_right _ (List.mem_of_getElem? (i := 43) rfl)))))
theorem wm_651 : Cond.methodLink RL 123 yX5_sure ∈ lw_tbl := List.mem_append_right _ (List.mem_append_right _ (List.mem_append_right _ (List.mem_append_left _ (List.mem_of_getElem? (i := 49) rfl))))
theorem wm_652 : Cond.instanceMethod yX5_sure ∈ lw_tbl := List.mem_append_right _ (List.mem_append_right _ (List.mem_append_right _ (List.mem_append_left _ (List.mem_of_getElem? (i := 50) rfl))))
theorem wm_653 : Cond.selects RX5 yX5_sure yX5_sure ∈ lw_tbl := List.mem_append_right _ (List.mem_append_right _ (List.mem_append_right _ (List.mem_append_left _ (List.mem_of_getElem? (i := 51) rfl))))
theorem wm_654 : Cond.methodLink RL 126 yX6_sure ∈ lw_tbl := List.mem_append_right _ (List.mem_append_right _ (List.mem_append_right _ (List.mem_append_right _ (List.mem_append_right _ (List.mem_of_getElem? (i := 61) rfl)))))
theorem wm_655 : Cond.instanceMethod yX6_sure ∈ lw_tbl := List.mem_append_right _ (List.mem_append_right _ (List.mem_append_right _ (List.mem_append_right _ (List.mem_append_right _ (List.mem_of_getElem? (i := 62) rfl)))))
theorem wm_656 : Cond.selects RX6 yX6_sure yX6_sure ∈ lw_tbl := List.mem_append_right _ (List.mem_append_right _ (List.mem_append_right _ (List.mem_append_right _ (List.mem_append_right _ (List.mem_of_getElem? (i := 63) rfl)))))
theorem wm_657 : Cond.methodLink RL 127 yX5_next ∈ lw_tbl := List.mem_append_right _ (List.mem_append_right _ (List.mem_append_right _ (List.mem_append_left _ (List.mem_of_getElem? (i := 61) rfl))))
theorem wm_658 : Cond.instanceMethod yX5_next ∈ lw_tbl := List.mem_append_right _ (List.mem_append_right _ (List.mem_append_right _ (List.mem_append_left _ (List.mem_of_getElem? (i := 62) rfl))))
theorem wm_659 : Cond.selects RX5 yX5_next yX5_next ∈ lw_tbl := List.mem_append_right _ (List.mem_append_right _ (List.mem_append_right _ (List.mem_append_left _ (List.mem_of_getElem? (i := 63) rfl))))
theorem wm_660 : Cond.methodLink RL 130 yX6_next ∈ lw_tbl := List.mem_append_right _ (List.mem_append_right _ (List.mem_append_right _ (List.mem_append_right _ (List.mem_append_right _ (List.mem_of_getElem? (i := 65) rfl)))))
theorem wm_661 : Cond.instanceMethod yX6_next ∈ lw_tbl := List.mem_append_right _ (List.mem_append_right _ (List.mem_append_right _ (List.mem_append_right _ (List.mem_append_right _ (List.mem_of_getElem? (i := 66) rfl)))))
theorem wm_662 : Cond.selects RX6 yX6_next yX6_next ∈ lw_tbl := List.mem_append_right _ (List.mem_append_right _ (List.mem_append_right _ (List.mem_append_right _ (List.mem_append_right _ (List.mem_of_getElem? (i := 67) rfl)))))
theorem wm_663 : Cond.methodLink RL 131 yX5_widths ∈ lw_tbl := List.mem_append_right _ (List.mem_append_right _ (List.mem_append_right _ (List.mem_append_left _ (List.mem_of_getElem? (i := 72) rfl))))
theorem wm_664 : Cond.instanceMethod yX5_widths ∈ lw_tbl := List.mem_append_right _ (List.mem_append_right _ (List.mem_append_right _ (List.mem_append_left _ (List.mem_of_getElem? (i := 73) rfl))))
theorem wm_665 : Cond.selects RX5 yX5_widths yX5_widths ∈ lw_tbl := List.mem_append_right _ (List.mem_append_right _ (List.mem_append_right _ (List.mem_append_left _ (List.mem_of_getElem? (i := 74) rfl))))
theorem wm_666 : Cond.methodLink RL 134 yX6_widths ∈ lw_tbl := List.mem_append_right _ (List.mem_append_right _ (List.mem_append_right _ (List.mem_append_right _ (List.mem_append_right _ (List.mem_of_getElem? (i := 73) rfl)))))
theorem wm_667 : Cond.instanceMethod yX6_widths ∈ lw_tbl := List.mem_append_right _ (List.mem_append_right _ (List.mem_append_right _ (List.mem_append_right _ (List.mem_append_right _ (List.mem_of_getElem? (i := 74) rfl)))))
theorem wm_668 : Cond.selects RX6 yX6_widths yX6_widths ∈ lw_tbl := List.mem_append_right _ (List.mem_append_right _ (List.mem_append_right _ (List.mem_append_right _ (List.mem_append_right _ (List.mem_of_getElem? (i := 75) rfl)))))
theorem wm_669 : Cond.methodLink RL 135 yX5_kinds ∈ lw_tbl := List.mem_append_right _ (List.mem_append_right _ (List.mem_append_right _ (List.mem_append_left _ (List.mem_of_getElem? (i := 76) rfl))))
theorem wm_670 : Cond.instanceMethod yX5_kinds ∈ lw_tbl := List.mem_append_right _ (List.mem_append_right _ (List.mem_append_right _ (List.mem_append_left _ (List.mem_of_getElem? (i := 77) rfl))))
theorem wm_671 : Cond.selects RX5 yX5_kinds yX5_kinds ∈ lw_tbl := List.mem_append_right _ (List.mem_append_right _ (List.mem_append_right _ (List.mem_append_left _ (List.mem_of_getElem? (i := 78) rfl))))
theorem wm_672 : Cond.methodLink RL 138 yX6_kinds ∈ lw_tbl := List.mem_append_right _ (List.mem_append_right _ (List.mem_append_right _ (List.mem_append_right _ (List.mem_append_right _ (List.mem_of_getElem? (i := 81) rfl)))))
theorem wm_673 : Cond.instanceMethod yX6_kinds ∈ lw_tbl := List.mem_append_right _ (List.mem_append_right _ (List.mem_append_right _ (List.mem_append_right _ (List.mem_append_right _ (List.mem_of_getElem? (i := 82) rfl)))))
theorem wm_674 : Cond.selects RX6 yX6_kinds yX6_kinds ∈ lw_tbl := List.mem_append_right _ (List.mem_append_right _ (List.mem_append_right _ (List.mem_append_right _ (List.mem_append_right _ (List.mem_of_getElem? (i := 83) rfl)))))
theorem wm_675 : Cond.methodLink RL 139 yX5_sets ∈ lw_tbl := List.mem_append_right _ (List.mem_append_right _ (List.mem_append_right _ (List.mem_append_left _ (List.mem_of_getElem? (i := 80) rfl))))
theorem wm_676 : Cond.instanceMethod yX5_sets ∈ lw_tbl := List.mem_append_right _ (List.mem_append_right _ (List.mem_append_right _ (List.mem_append_left _ (List.mem_of_getElem? (i := 81) rfl))))
theorem wm_677 : Cond.selects RX5 yX5_sets yX5_sets ∈ lw_tbl := List.mem_append_right _ (List.mem_append_right _ (List.mem_append_right _ (List.mem_append_left _ (List.mem_of_getElem? (i := 82) rfl))))
theorem wm_678 : Cond.methodLink RL 142 yX6_sets ∈ lw_tbl := List.mem_append_right _ (List.mem_append_right _ (List.mem_append_right _ (List.mem_append_right _ (List.mem_append_right _ (List.mem_of_getElem? (i := 85) rfl)))))
theorem wm_679 : Cond.instanceMethod yX6_sets ∈ lw_tbl := List.mem_append_right _ (List.mem_append_right _ (List.mem_append_right _ (List.mem_append_right _ (List.mem_append_right _ (List.mem_of_getElem? (i := 86) rfl)))))
theorem wm_680 : Cond.selects RX6 yX6_sets yX6_sets ∈ lw_tbl := List.mem_append_right _ (List.mem_append_right _ (List.mem_append_right _ (List.mem_append_right _ (List.mem_append_right _ (List.mem_of_getElem? (i := 87) rfl)))))
theorem wm_681 : Cond.methodLink RL 143 yX5_surely ∈ lw_tbl := List.mem_append_right _ (List.mem_append_right _ (List.mem_append_right _ (List.mem_append_left _ (List.mem_of_getElem? (i := 98) rfl))))
theorem wm_682 : Cond.instanceMethod yX5_surely ∈ lw_tbl := List.mem_append_right _ (List.mem_append_right _ (List.mem_append_right _ (List.mem_append_left _ (List.mem_of_getElem? (i := 99) rfl))))
theorem wm_683 : Cond.selects RX5 yX5_surely yX5_surely ∈ lw_tbl := List.mem_append_right _ (List.mem_append_right _ (List.mem_append_right _ (List.mem_append_left _ (List.mem_of_getElem? (i := 100) rfl))))
theorem wm_684 : Cond.methodLink RL 146 yX6_surely ∈ lw_tbl := List.mem_append_right _ (List.mem_append_right _ (List.mem_append_right _ (List.mem_append_right _ (List.mem_append_right _ (List.mem_of_getElem? (i := 93) rfl)))))
theorem wm_685 : Cond.instanceMethod yX6_surely ∈ lw_tbl := List.mem_append_right _ (List.mem_append_right _ (List.mem_append_right _ (List.mem_append_right _ (List.mem_append_right _ (List.mem_of_getElem? (i := 94) rfl)))))
theorem wm_686 : Cond.selects RX6 yX6_surely yX6_surely ∈ lw_tbl := List.mem_append_right _ (List.mem_append_right _ (List.mem_append_right _ (List.mem_append_right _ (List.mem_append_right _ (List.mem_of_getElem? (i := 95) rfl)))))
theorem wm_687 : Cond.methodLink RL 147 yX5_duel ∈ lw_tbl := List.mem_append_right _ (List.mem_append_right _ (List.mem_append_right _ (List.mem_append_left _ (List.mem_of_getElem? (i := 102) rfl))))
theorem wm_688 : Cond.instanceMethod yX5_duel ∈ lw_tbl := List.mem_append_right _ (List.mem_append_right _ (List.mem_append_right _ (List.mem_append_left _ (List.mem_of_getElem? (i := 103) rfl))))
theorem wm_689 : Cond.selects RX5 yX5_duel yX5_duel ∈ lw_tbl := List.mem_append_right _ (List.mem_append_right _ (List.mem_append_right _ (List.mem_append_left _ (List.mem_of_getElem? (i := 104) rfl))))
theorem wm_690 : Cond.methodLink RL 150 yX6_duel ∈ lw_tbl := List.mem_append_right _ (List.mem_append_right _ (List.mem_append_right _ (List.mem_append_right _ (List.mem_append_right _ (List.mem_of_getElem? (i := 97) rfl)))))
theorem wm_691 : Cond.instanceMethod yX6_duel ∈ lw_tbl := List.mem_append_right _ (List.mem_append_right _ (List.mem_append_right _ (List.mem_append_right _ (List.mem_append_right _ (List.mem_of_getElem? (i := 98) rfl)))))
theorem wm_692 : Cond.selects RX6 yX6_duel yX6_duel ∈ lw_tbl := List.mem_append_right _ (List.mem_append_right _ (List.mem_append_right _ (List.mem_append_right _ (List.mem_append_right _ (List.mem_of_getElem? (i := 99) rfl)))))
theorem wm_693 : Cond.methodLink RL 151 yX5_odds ∈ lw_tbl := List.mem_append_right _ (List.mem_append_right _ (List.mem_append_right _ (List.mem_append_left _ (List.mem_of_getElem? (i := 110) rfl))))
theorem wm_694 : Cond.instanceMethod yX5_odds ∈ lw_tbl := List.mem_append_right _ (List.mem_append_right _ (List.mem_append_right _ (List.mem_append_left _ (List.mem_of_getElem? (i := 111) rfl))))
theorem wm_695 : Cond.selects RX5 yX5_odds yX5_odds ∈ lw_tbl := List.mem_append_right _ (List.mem_append_right _ (List.mem_append_right _ (List.mem_append_left _ (List.mem_of_getElem? (i := 112) rfl))))
theorem wm_696 : Cond.methodLink RL 154 yX6_odds ∈ lw_tbl := List.mem_append_right _ (List.mem_append_right _ (List.mem_append_right _ (List.mem_append_right _ (List.mem_append_right _ (List.mem_of_getElem? (i := 108) rfl)))))
theorem wm_697 : Cond.instanceMethod yX6_odds ∈ lw_tbl := List.mem_append_right _ (List.mem_append_right _ (List.mem_append_right _ (List.mem_append_right _ (List.mem_append_right _ (List.mem_of_getElem? (i := 109) rfl)))))
theorem wm_698 : Cond.selects RX6 yX6_odds yX6_odds ∈ lw_tbl := List.mem_append_right _ (List.mem_append_right _ (List.mem_append_right _ (List.mem_append_right _ (List.mem_append_right _ (List.mem_of_getElem? (i := 110) rfl)))))
theorem wm_699 : Cond.methodLink RL 155 yX5_mid ∈ lw_tbl := List.mem_append_right _ (List.mem_append_right _ (List.mem_append_right _ (List.mem_append_left _ (List.mem_of_getElem? (i := 136) rfl))))
theorem wm_700 : Cond.instanceMethod yX5_mid ∈ lw_tbl := List.mem_append_right _ (List.mem_append_right _ (List.mem_append_right _ (List.mem_append_left _ (List.mem_of_getElem? (i := 137) rfl))))
theorem wm_701 : Cond.selects RX5 yX5_mid yX5_mid ∈ lw_tbl := List.mem_append_right _ (List.mem_append_right _ (List.mem_append_right _ (List.mem_append_left _ (List.mem_of_getElem? (i := 138) rfl))))
theorem wm_702 : Cond.methodLink RL 158 yX6_mid ∈ lw_tbl := List.mem_append_right _ (List.mem_append_right _ (List.mem_append_right _ (List.mem_append_right _ (List.mem_append_right _ (List.mem_of_getElem? (i := 124) rfl)))))
theorem wm_703 : Cond.instanceMethod yX6_mid ∈ lw_tbl := List.mem_append_right _ (List.mem_append_right _ (List.mem_append_right _ (List.mem_append_right _ (List.mem_append_right _ (List.mem_of_getElem? (i := 125) rfl)))))
theorem wm_704 : Cond.selects RX6 yX6_mid yX6_mid ∈ lw_tbl := List.mem_append_right _ (List.mem_append_right _ (List.mem_append_right _ (List.mem_append_right _ (List.mem_append_right _ (List.mem_of_getElem? (i := 126) rfl)))))
theorem wm_705 : Cond.methodLink RL 159 yX5_lots ∈ lw_tbl := List.mem_append_right _ (List.mem_append_right _ (List.mem_append_right _ (List.mem_append_left _ (List.mem_of_getElem? (i := 140) rfl))))
theorem wm_706 : Cond.instanceMethod yX5_lots ∈ lw_tbl := List.mem_append_right _ (List.mem_append_right _ (List.mem_append_right _ (List.mem_append_left _ (List.mem_of_getElem? (i := 141) rfl))))
theorem wm_707 : Cond.selects RX5 yX5_lots yX5_lots ∈ lw_tbl := List.mem_append_right _ (List.mem_append_right _ (List.mem_append_right _ (List.mem_append_left _ (List.mem_of_getElem? (i := 142) rfl))))
theorem wm_708 : Cond.methodLink RL 162 yX6_lots ∈ lw_tbl := List.mem_append_right _ (List.mem_append_right _ (List.mem_append_right _ (List.mem_append_right _ (List.mem_append_right _ (List.mem_of_getElem? (i := 128) rfl)))))
theorem wm_709 : Cond.instanceMethod yX6_lots ∈ lw_tbl := List.mem_append_right _ (List.mem_append_right _ (List.mem_append_right _ (List.mem_append_right _ (List.mem_append_right _ (List.mem_of_getElem? (i := 129) rfl)))))
theorem wm_710 : Cond.selects RX6 yX6_lots yX6_lots ∈ lw_tbl := List.mem_append_right _ (List.mem_append_right _ (List.mem_append_right _ (List.mem_append_right _ (List.mem_append_right _ (List.mem_of_getElem? (i := 130) rfl)))))
theorem wm_711 : Cond.methodLink RL 163 yX5_asked ∈ lw_tbl := List.mem_append_right _ (List.mem_append_right _ (List.mem_append_right _ (List.mem_append_left _ (List.mem_of_getElem? (i := 152) rfl))))
theorem wm_712 : Cond.instanceMethod yX5_asked ∈ lw_tbl := List.mem_append_right _ (List.mem_append_right _ (List.mem_append_right _ (List.mem_append_left _ (List.mem_of_getElem? (i := 153) rfl))))
theorem wm_713 : Cond.selects RX5 yX5_asked yX5_asked ∈ lw_tbl := List.mem_append_right _ (List.mem_append_right _ (List.mem_append_right _ (List.mem_append_left _ (List.mem_of_getElem? (i := 154) rfl))))
theorem wm_714 : Cond.methodLink RL 166 yX6_asked ∈ lw_tbl := List.mem_append_right _ (List.mem_append_right _ (List.mem_append_right _ (List.mem_append_right _ (List.mem_append_right _ (List.mem_of_getElem? (i := 141) rfl)))))
theorem wm_715 : Cond.instanceMethod yX6_asked ∈ lw_tbl := List.mem_append_right _ (List.mem_append_right _ (List.mem_append_right _ (List.mem_append_right _ (List.mem_append_right _ (List.mem_of_getElem? (i := 142) rfl)))))
theorem wm_716 : Cond.selects RX6 yX6_asked yX6_asked ∈ lw_tbl := List.mem_append_right _ (List.mem_append_right _ (List.mem_append_right _ (List.mem_append_right _ (List.mem_append_right _ (List.mem_of_getElem? (i := 143) rfl)))))
theorem wm_717 : Cond.methodLink RL 167 yX5_upper ∈ lw_tbl := List.mem_append_right _ (List.mem_append_right _ (List.mem_append_right _ (List.mem_append_left _ (List.mem_of_getElem? (i := 156) rfl))))
theorem wm_718 : Cond.instanceMethod yX5_upper ∈ lw_tbl := List.mem_append_right _ (List.mem_append_right _ (List.mem_append_right _ (List.mem_append_left _ (List.mem_of_getElem? (i := 157) rfl))))
theorem wm_719 : Cond.selects RX5 yX5_upper yX5_upper ∈ lw_tbl := List.mem_append_right _ (List.mem_append_right _ (List.mem_append_right _ (List.mem_append_left _ (List.mem_of_getElem? (i := 158) rfl))))
theorem wm_720 : Cond.methodLink RL 171 yX6_upper ∈ lw_tbl := List.mem_append_right _ (List.mem_append_right _ (List.mem_append_right _ (List.mem_append_right _ (List.mem_append_right _ (List.mem_of_getElem? (i := 145) rfl)))))
theorem wm_721 : Cond.instanceMethod yX6_upper ∈ lw_tbl := List.mem_append_right _ (List.mem_append_right _ (List.mem_append_right _ (List.mem_append_right _ (List.mem_append_right _ (List.mem_of_getElem? (i := 146) rfl)))))
theorem wm_722 : Cond.selects RX6 yX6_upper yX6_upper ∈ lw_tbl := List.mem_append_right _ (List.mem_append_right _ (List.mem_append_right _ (List.mem_append_right _ (List.mem_append_right _ (List.mem_of_getElem? (i := 147) rfl)))))
theorem wm_723 : Cond.methodLink RL 172 yX5_lower ∈ lw_tbl := List.mem_append_right _ (List.mem_append_right _ (List.mem_append_right _ (List.mem_append_left _ (List.mem_of_getElem? (i := 160) rfl))))
theorem wm_724 : Cond.instanceMethod yX5_lower ∈ lw_tbl := List.mem_append_right _ (List.mem_append_right _ (List.mem_append_right _ (List.mem_append_left _ (List.mem_of_getElem? (i := 161) rfl))))
theorem wm_725 : Cond.selects RX5 yX5_lower yX5_lower ∈ lw_tbl := List.mem_append_right _ (List.mem_append_right _ (List.mem_append_right _ (List.mem_append_left _ (List.mem_of_getElem? (i := 162) rfl))))
theorem wm_726 : Cond.methodLink RL 175 yX6_lower ∈ lw_tbl := List.mem_append_right _ (List.mem_append_right _ (List.mem_append_right _ (List.mem_append_right _ (List.mem_append_right _ (List.mem_of_getElem? (i := 149) rfl)))))
theorem wm_727 : Cond.instanceMethod yX6_lower ∈ lw_tbl := List.mem_append_right _ (List.mem_append_right _ (List.mem_append_right _ (List.mem_append_right _ (List.mem_append_right _ (List.mem_of_getElem? (i := 150) rfl)))))
theorem wm_728 : Cond.selects RX6 yX6_lower yX6_lower ∈ lw_tbl := List.mem_append_right _ (List.mem_append_right _ (List.mem_append_right _ (List.mem_append_right _ (List.mem_append_right _ (List.mem_of_getElem? (i := 151) rfl)))))
theorem wm_729 : Cond.methodLink RL 176 yX5_count ∈ lw_tbl := List.mem_append_right _ (List.mem_append_right _ (List.mem_append_right _ (List.mem_append_left _ (List.mem_of_getElem? (i := 164) rfl))))
theorem wm_730 : Cond.methodLink RL 179 yX6_count ∈ lw_tbl := List.mem_append_right _ (List.mem_append_right _ (List.mem_append_right _ (List.mem_append_right _ (List.mem_append_right _ (List.mem_of_getElem? (i := 153) rfl)))))
theorem wm_731 : Cond.instanceMethod yX6_count ∈ lw_tbl := List.mem_append_right _ (List.mem_append_right _ (List.mem_append_right _ (List.mem_append_right _ (List.mem_append_right _ (List.mem_of_getElem? (i := 154) rfl)))))
theorem wm_732 : Cond.selects RX6 yX6_count yX6_count ∈ lw_tbl := List.mem_append_right _ (List.mem_append_right _ (List.mem_append_right _ (List.mem_append_right _ (List.mem_append_right _ (List.mem_of_getElem? (i := 155) rfl)))))
theorem wm_733 : Cond.methodLink RL 180 yX5_finding ∈ lw_tbl := List.mem_append_right _ (List.mem_append_right _ (List.mem_append_right _ (List.mem_append_left _ (List.mem_of_getElem? (i := 184) rfl))))
theorem wm_734 : Cond.instanceMethod yX5_finding ∈ lw_tbl := List.mem_append_right _ (List.mem_append_right _ (List.mem_append_right _ (List.mem_append_left _ (List.mem_of_getElem? (i := 185) rfl))))
theorem wm_735 : Cond.selects RX5 yX5_finding yX5_finding ∈ lw_tbl := List.mem_append_right _ (List.mem_append_right _ (List.mem_append_right _ (List.mem_append_left _ (List.mem_of_getElem? (i := 186) rfl))))
theorem wm_736 : Cond.methodLink RL 183 yX6_finding ∈ lw_tbl := List.mem_append_right _ (List.mem_append_right _ (List.mem_append_right _ (List.mem_append_right _ (List.mem_append_right _ (List.mem_of_getElem? (i := 172) rfl)))))
theorem wm_737 : Cond.instanceMethod yX6_finding ∈ lw_tbl := List.mem_append_right _ (List.mem_append_right _ (List.mem_append_right _ (List.mem_append_right _ (List.mem_append_right _ (List.mem_of_getElem? (i := 173) rfl)))))
theorem wm_738 : Cond.selects RX6 yX6_finding yX6_finding ∈ lw_tbl := List.mem_append_right _ (List.mem_append_right _ (List.mem_append_right _ (List.mem_append_right _ (List.mem_append_right _ (List.mem_of_getElem? (i := 174) rfl)))))
theorem wm_739 : Cond.methodLink RL 184 yX5_findings ∈ lw_tbl := List.mem_append_right _ (List.mem_append_right _ (List.mem_append_right _ (List.mem_append_left _ (List.mem_of_getElem? (i := 188) rfl))))
theorem wm_740 : Cond.instanceMethod yX5_findings ∈ lw_tbl := List.mem_append_right _ (List.mem_append_right _ (List.mem_append_right _ (List.mem_append_left _ (List.mem_of_getElem? (i := 189) rfl))))
theorem wm_741 : Cond.selects RX5 yX5_findings yX5_findings ∈ lw_tbl := List.mem_append_right _ (List.mem_append_right _ (List.mem_append_right _ (List.mem_append_left _ (List.mem_of_getElem? (i := 190) rfl))))
theorem wm_742 : Cond.methodLink RL 187 yX6_findings ∈ lw_tbl := List.mem_append_right _ (List.mem_append_right _ (List.mem_append_right _ (List.mem_append_right _ (List.mem_append_right _ (List.mem_of_getElem? (i := 176) rfl)))))
theorem wm_743 : Cond.instanceMethod yX6_findings ∈ lw_tbl := List.mem_append_right _ (List.mem_append_right _ (List.mem_append_right _ (List.mem_append_right _ (List.mem_append_right _ (List.mem_of_getElem? (i := 177) rfl)))))
theorem wm_744 : Cond.selects RX6 yX6_findings yX6_findings ∈ lw_tbl := List.mem_append_right _ (List.mem_append_right _ (List.mem_append_right _ (List.mem_append_right _ (List.mem_append_right _ (List.mem_of_getElem? (i := 178) rfl)))))
theorem wm_745 : Cond.methodLink RL 188 yX5_digest ∈ lw_tbl := List.mem_append_right _ (List.mem_append_right _ (List.mem_append_right _ (List.mem_append_left _ (List.mem_of_getElem? (i := 192) rfl))))
theorem wm_746 : Cond.instanceMethod yX5_digest ∈ lw_tbl := List.mem_append_right _ (List.mem_append_right _ (List.mem_append_right _ (List.mem_append_left _ (List.mem_of_getElem? (i := 193) rfl))))
theorem wm_747 : Cond.selects RX5 yX5_digest yX5_digest ∈ lw_tbl := List.mem_append_right _ (List.mem_append_right _ (List.mem_append_right _ (List.mem_append_left _ (List.mem_of_getElem? (i := 194) rfl))))
theorem wm_748 : Cond.methodLink RL 191 yX6_digest ∈ lw_tbl := List.mem_append_right _ (List.mem_append_right _ (List.mem_append_right _ (List.mem_append_right _ (List.mem_append_right _ (List.mem_of_getElem? (i := 180) rfl)))))
theorem wm_749 : Cond.instanceMethod yX6_digest ∈ lw_tbl := List.mem_append_right _ (List.mem_append_right _ (List.mem_append_right _ (List.mem_append_right _ (List.mem_append_right _ (List.mem_of_getElem? (i := 181) rfl)))))
theorem wm_750 : Cond.selects RX6 yX6_digest yX6_digest ∈ lw_tbl := List.mem_append_right _ (List.mem_append_right _ (List.mem_append_right _ (List.mem_append_right _ (List.mem_append_right _ (List.mem_of_getElem? (i := 182) rfl)))))
theorem wm_751 : Cond.code (pm_yN 0) (pm_yB 0) (pm_yL 0) (pm_yR 0) ∈ lw_tbl := List.mem_append_right _ (List.mem_append_left _ (List.mem_of_getElem? (i := 25) rfl))
theorem wm_752 : Cond.code (pm_yN 1) (pm_yB 1) (pm_yL 1) (pm_yR 1) ∈ lw_tbl := List.mem_append_right _ (List.mem_append_right _ (List.mem_append_left _ (List.mem_of_getElem? (i := 55) rfl)))
theorem wm_753 : Cond.code (pm_yN 2) (pm_yB 2) (pm_yL 2) (pm_yR 2) ∈ lw_tbl := List.mem_append_right _ (List.mem_append_right _ (List.mem_append_left _ (List.mem_of_getElem? (i := 138) rfl)))
theorem wm_754 : Cond.code (pm_yN 3) (pm_yB 3) (pm_yL 3) (pm_yR 3) ∈ lw_tbl := List.mem_append_right _ (List.mem_append_right _ (List.mem_append_left _ (List.mem_of_getElem? (i := 42) rfl)))
theorem wm_755 : Cond.code (pm_yN 4) (pm_yB 4) (pm_yL 4) (pm_yR 4) ∈ lw_tbl := List.mem_append_right _ (List.mem_append_right _ (List.mem_append_left _ (List.mem_of_getElem? (i := 192) rfl)))
theorem wm_756 : Cond.code (pm_yN 5) (pm_yB 5) (pm_yL 5) (pm_yR 5) ∈ lw_tbl := List.mem_append_right _ (List.mem_append_right _ (List.mem_append_left _ (List.mem_of_getElem? (i := 142) rfl)))
theorem wm_757 : Cond.code (pm_yN 6) (pm_yB 6) (pm_yL 6) (pm_yR 6) ∈ lw_tbl := List.mem_append_right _ (List.mem_append_right _ (List.mem_append_left _ (List.mem_of_getElem? (i := 181) rfl)))
theorem wm_758 : Cond.code (pm_yN 7) (pm_yB 7) (pm_yL 7) (pm_yR 7) ∈ lw_tbl := List.mem_append_right _ (List.mem_append_right _ (List.mem_append_left _ (List.mem_of_getElem? (i := 11) rfl)))
theorem wm_759 : Cond.code (pm_yN 8) (pm_yB 8) (pm_yL 8) (pm_yR 8) ∈ lw_tbl := List.mem_append_right _ (List.mem_append_right _ (List.mem_append_left _ (List.mem_of_getElem? (i := 17) rfl)))
theorem wm_760 : Cond.code (pm_yN 9) (pm_yB 9) (pm_yL 9) (pm_yR 9) ∈ lw_tbl := List.mem_append_right _ (List.mem_append_right _ (List.mem_append_left _ (List.mem_of_getElem? (i := 29) rfl)))
theorem wm_761 : Cond.code (pm_yN 10) (pm_yB 10) (pm_yL 10) (pm_yR 10) ∈ lw_tbl := List.mem_append_right _ (List.mem_append_right _ (List.mem_append_left _ (List.mem_of_getElem? (i := 20) rfl)))
theorem wm_762 : Cond.code (pm_yN 11) (pm_yB 11) (pm_yL 11) (pm_yR 11) ∈ lw_tbl := List.mem_append_right _ (List.mem_append_right _ (List.mem_append_left _ (List.mem_of_getElem? (i := 8) rfl)))
theorem wm_763 : Cond.code (pm_yN 12) (pm_yB 12) (pm_yL 12) (pm_yR 12) ∈ lw_tbl := List.mem_append_right _ (List.mem_append_right _ (List.mem_append_left _ (List.mem_of_getElem? (i := 14) rfl)))
theorem wm_764 : Cond.code (pm_yN 13) (pm_yB 13) (pm_yL 13) (pm_yR 13) ∈ lw_tbl := List.mem_append_right _ (List.mem_append_right _ (List.mem_append_left _ (List.mem_of_getElem? (i := 26) rfl)))
theorem wm_765 : Cond.code (pm_yN 14) (pm_yB 14) (pm_yL 14) (pm_yR 14) ∈ lw_tbl := List.mem_append_right _ (List.mem_append_right _ (List.mem_append_left _ (List.mem_of_getElem? (i := 34) rfl)))
theorem wm_766 : Cond.code (pm_yN 15) (pm_yB 15) (pm_yL 15) (pm_yR 15) ∈ lw_tbl := List.mem_append_right _ (List.mem_append_right _ (List.mem_append_left _ (List.mem_of_getElem? (i := 5) rfl)))
theorem wm_767 : Cond.code (pm_yN 16) (pm_yB 16) (pm_yL 16) (pm_yR 16) ∈ lw_tbl := List.mem_append_right _ (List.mem_append_right _ (List.mem_append_left _ (List.mem_of_getElem? (i := 23) rfl)))
theorem wm_768 : Cond.code (pm_yN 17) (pm_yB 17) (pm_yL 17) (pm_yR 17) ∈ lw_tbl := List.mem_append_right _ (List.mem_append_left _ (List.mem_of_getElem? (i := 113) rfl))
theorem wm_769 : Cond.code (pm_yN 18) (pm_yB 18) (pm_yL 18) (pm_yR 18) ∈ lw_tbl := List.mem_append_right _ (List.mem_append_left _ (List.mem_of_getElem? (i := 196) rfl))
theorem wm_770 : Cond.code (pm_yN 19) (pm_yB 19) (pm_yL 19) (pm_yR 19) ∈ lw_tbl := List.mem_append_right _ (List.mem_append_left _ (List.mem_of_getElem? (i := 200) rfl))
theorem wm_771 : Cond.code (pm_yN 20) (pm_yB 20) (pm_yL 20) (pm_yR 20) ∈ lw_tbl := List.mem_append_right _ (List.mem_append_left _ (List.mem_of_getElem? (i := 220) rfl))
theorem wm_772 : Cond.code (pm_yN 21) (pm_yB 21) (pm_yL 21) (pm_yR 21) ∈ lw_tbl := List.mem_append_right _ (List.mem_append_left _ (List.mem_of_getElem? (i := 184) rfl))
theorem wm_773 : Cond.code (pm_yN 22) (pm_yB 22) (pm_yL 22) (pm_yR 22) ∈ lw_tbl := List.mem_append_right _ (List.mem_append_left _ (List.mem_of_getElem? (i := 94) rfl))
theorem wm_774 : Cond.code (pm_yN 23) (pm_yB 23) (pm_yL 23) (pm_yR 23) ∈ lw_tbl := List.mem_append_right _ (List.mem_append_right _ (List.mem_append_right _ (List.mem_append_left _ (List.mem_of_getElem? (i := 24) rfl))))
theorem wm_775 : Cond.code (pm_yN 24) (pm_yB 24) (pm_yL 24) (pm_yR 24) ∈ lw_tbl := List.mem_append_right _ (List.mem_append_right _ (List.mem_append_right _ (List.mem_append_left _ (List.mem_of_getElem? (i := 37) rfl))))
theorem wm_776 : Cond.code (pm_yN 25) (pm_yB 25) (pm_yL 25) (pm_yR 25) ∈ lw_tbl := List.mem_append_right _ (List.mem_append_right _ (List.mem_append_right _ (List.mem_append_left _ (List.mem_of_getElem? (i := 32) rfl))))
theorem wm_777 : Cond.code (pm_yN 26) (pm_yB 26) (pm_yL 26) (pm_yR 26) ∈ lw_tbl := List.mem_append_right _ (List.mem_append_right _ (List.mem_append_right _ (List.mem_append_left _ (List.mem_of_getElem? (i := 48) rfl))))
theorem wm_778 : Cond.code (pm_yN 27) (pm_yB 27) (pm_yL 27) (pm_yR 27) ∈ lw_tbl := List.mem_append_right _ (List.mem_append_right _ (List.mem_append_right _ (List.mem_append_left _ (List.mem_of_getElem? (i := 60) rfl))))
theorem wm_779 : Cond.code (pm_yN 28) (pm_yB 28) (pm_yL 28) (pm_yR 28) ∈ lw_tbl := List.mem_append_right _ (List.mem_append_right _ (List.mem_append_right _ (List.mem_append_left _ (List.mem_of_getElem? (i := 56) rfl))))
theorem wm_780 : Cond.code (pm_yN 29) (pm_yB 29) (pm_yL 29) (pm_yR 29) ∈ lw_tbl := List.mem_append_right _ (List.mem_append_right _ (List.mem_append_right _ (List.mem_append_left _ (List.mem_of_getElem? (i := 69) rfl))))
theorem wm_781 : Cond.code (pm_yN 30) (pm_yB 30) (pm_yL 30) (pm_yR 30) ∈ lw_tbl := List.mem_append_right _ (List.mem_append_left _ (List.mem_of_getElem? (i := 31) rfl))
theorem wm_782 : Cond.code (pm_yN 31) (pm_yB 31) (pm_yL 31) (pm_yR 31) ∈ lw_tbl := List.mem_append_right _ (List.mem_append_right _ (List.mem_append_left _ (List.mem_of_getElem? (i := 46) rfl)))
theorem wm_783 : Cond.code (pm_yN 32) (pm_yB 32) (pm_yL 32) (pm_yR 32) ∈ lw_tbl := List.mem_append_right _ (List.mem_append_right _ (List.mem_append_left _ (List.mem_of_getElem? (i := 71) rfl)))
theorem wm_784 : Cond.code (pm_yN 33) (pm_yB 33) (pm_yL 33) (pm_yR 33) ∈ lw_tbl := List.mem_append_right _ (List.mem_append_right _ (List.mem_append_left _ (List.mem_of_getElem? (i := 59) rfl)))
theorem wm_785 : Cond.code (pm_yN 34) (pm_yB 34) (pm_yL 34) (pm_yR 34) ∈ lw_tbl := List.mem_append_right _ (List.mem_append_right _ (List.mem_append_left _ (List.mem_of_getElem? (i := 83) rfl)))
theorem wm_786 : Cond.code (pm_yN 35) (pm_yB 35) (pm_yL 35) (pm_yR 35) ∈ lw_tbl := List.mem_append_right _ (List.mem_append_right _ (List.mem_append_left _ (List.mem_of_getElem? (i := 79) rfl)))
theorem wm_787 : Cond.code (pm_yN 36) (pm_yB 36) (pm_yL 36) (pm_yR 36) ∈ lw_tbl := List.mem_append_right _ (List.mem_append_right _ (List.mem_append_left _ (List.mem_of_getElem? (i := 63) rfl)))
theorem wm_788 : Cond.code (pm_yN 37) (pm_yB 37) (pm_yL 37) (pm_yR 37) ∈ lw_tbl := List.mem_append_right _ (List.mem_append_right _ (List.mem_append_left _ (List.mem_of_getElem? (i := 230) rfl)))
theorem wm_789 : Cond.code (pm_yN 38) (pm_yB 38) (pm_yL 38) (pm_yR 38) ∈ lw_tbl := List.mem_append_right _ (List.mem_append_right _ (List.mem_append_left _ (List.mem_of_getElem? (i := 226) rfl)))
theorem wm_790 : Cond.code (pm_yN 39) (pm_yB 39) (pm_yL 39) (pm_yR 39) ∈ lw_tbl := List.mem_append_right _ (List.mem_append_right _ (List.mem_append_right _ (List.mem_append_left _ (List.mem_of_getElem? (i := 124) rfl))))
theorem wm_791 : Cond.code (pm_yN 40) (pm_yB 40) (pm_yL 40) (pm_yR 40) ∈ lw_tbl := List.mem_append_right _ (List.mem_append_right _ (List.mem_append_left _ (List.mem_of_getElem? (i := 90) rfl)))
theorem wm_792 : Cond.code (pm_yN 41) (pm_yB 41) (pm_yL 41) (pm_yR 41) ∈ lw_tbl := List.mem_append_right _ (List.mem_append_right _ (List.mem_append_left _ (List.mem_of_getElem? (i := 148) rfl)))
theorem wm_793 : Cond.code (pm_yN 42) (pm_yB 42) (pm_yL 42) (pm_yR 42) ∈ lw_tbl := List.mem_append_right _ (List.mem_append_right _ (List.mem_append_left _ (List.mem_of_getElem? (i := 213) rfl)))
theorem wm_794 : Cond.code (pm_yN 43) (pm_yB 43) (pm_yL 43) (pm_yR 43) ∈ lw_tbl := List.mem_append_right _ (List.mem_append_right _ (List.mem_append_left _ (List.mem_of_getElem? (i := 167) rfl)))
theorem wm_795 : Cond.code (pm_yN 44) (pm_yB 44) (pm_yL 44) (pm_yR 44) ∈ lw_tbl := List.mem_append_right _ (List.mem_append_right _ (List.mem_append_right _ (List.mem_append_left _ (List.mem_of_getElem? (i := 171) rfl))))
theorem wm_796 : Cond.code (pm_yN 45) (pm_yB 45) (pm_yL 45) (pm_yR 45) ∈ lw_tbl := List.mem_append_right _ (List.mem_append_right _ (List.mem_append_right _ (List.mem_append_left _ (List.mem_of_getElem? (i := 8) rfl))))
theorem wm_797 : Cond.code (pm_yN 46) (pm_yB 46) (pm_yL 46) (pm_yR 46) ∈ lw_tbl := List.mem_append_right _ (List.mem_append_right _ (List.mem_append_right _ (List.mem_append_left _ (List.mem_of_getElem? (i := 175) rfl))))
theorem wm_798 : Cond.code (pm_yN 47) (pm_yB 47) (pm_yL 47) (pm_yR 47) ∈ lw_tbl := List.mem_append_right _ (List.mem_append_left _ (List.mem_of_getElem? (i := 15) rfl))
theorem wm_799 : Cond.code (pm_yN 48) (pm_yB 48) (pm_yL 48) (pm_yR 48) ∈ lw_tbl := List.mem_append_right _ (List.mem_append_left _ (List.mem_of_getElem? (i := 169) rfl))
theorem wm_800 : Cond.code (pm_yN 49) (pm_yB 49) (pm_yL 49) (pm_yR 49) ∈ lw_tbl := List.mem_append_right _ (List.mem_append_left _ (List.mem_of_getElem? (i := 188) rfl))
theorem wm_801 : Cond.code (pm_yN 50) (pm_yB 50) (pm_yL 50) (pm_yR 50) ∈ lw_tbl := List.mem_append_right _ (List.mem_append_left _ (List.mem_of_getElem? (i := 208) rfl))
theorem wm_802 : Cond.code (pm_yN 51) (pm_yB 51) (pm_yL 51) (pm_yR 51) ∈ lw_tbl := List.mem_append_right _ (List.mem_append_left _ (List.mem_of_getElem? (i := 212) rfl))
theorem wm_803 : Cond.code (pm_yN 52) (pm_yB 52) (pm_yL 52) (pm_yR 52) ∈ lw_tbl := List.mem_append_right _ (List.mem_append_left _ (List.mem_of_getElem? (i := 216) rfl))
theorem wm_804 : Cond.code (pm_yN 53) (pm_yB 53) (pm_yL 53) (pm_yR 53) ∈ lw_tbl := List.mem_append_right _ (List.mem_append_left _ (List.mem_of_getElem? (i := 227) rfl))
theorem wm_805 : Cond.code (pm_yN 54) (pm_yB 54) (pm_yL 54) (pm_yR 54) ∈ lw_tbl := List.mem_append_right _ (List.mem_append_left _ (List.mem_of_getElem? (i := 231) rfl))
theorem wm_806 : Cond.code (pm_yN 55) (pm_yB 55) (pm_yL 55) (pm_yR 55) ∈ lw_tbl := List.mem_append_right _ (List.mem_append_left _ (List.mem_of_getElem? (i := 238) rfl))
theorem wm_807 : Cond.code (pm_yN 56) (pm_yB 56) (pm_yL 56) (pm_yR 56) ∈ lw_tbl := List.mem_append_right _ (List.mem_append_right _ (List.mem_append_left _ (List.mem_of_getElem? (i := 2) rfl)))
theorem wm_808 : Cond.code (pm_yN 57) (pm_yB 57) (pm_yL 57) (pm_yR 57) ∈ lw_tbl := List.mem_append_right _ (List.mem_append_right _ (List.mem_append_left _ (List.mem_of_getElem? (i := 38) rfl)))
theorem wm_809 : Cond.code (pm_yN 58) (pm_yB 58) (pm_yL 58) (pm_yR 58) ∈ lw_tbl := List.mem_append_right _ (List.mem_append_right _ (List.mem_append_left _ (List.mem_of_getElem? (i := 51) rfl)))
theorem wm_810 : Cond.code (pm_yN 59) (pm_yB 59) (pm_yL 59) (pm_yR 59) ∈ lw_tbl := List.mem_append_right _ (List.mem_append_right _ (List.mem_append_left _ (List.mem_of_getElem? (i := 67) rfl)))
theorem wm_811 : Cond.code (pm_yN 60) (pm_yB 60) (pm_yL 60) (pm_yR 60) ∈ lw_tbl := List.mem_append_right _ (List.mem_append_right _ (List.mem_append_left _ (List.mem_of_getElem? (i := 118) rfl)))
theorem wm_812 : Cond.code (pm_yN 61) (pm_yB 61) (pm_yL 61) (pm_yR 61) ∈ lw_tbl := List.mem_append_right _ (List.mem_append_right _ (List.mem_append_left _ (List.mem_of_getElem? (i := 134) rfl)))
theorem wm_813 : Cond.code (pm_yN 62) (pm_yB 62) (pm_yL 62) (pm_yR 62) ∈ lw_tbl := List.mem_append_right _ (List.mem_append_right _ (List.mem_append_left _ (List.mem_of_getElem? (i := 154) rfl)))
theorem wm_814 : Cond.code (pm_yN 63) (pm_yB 63) (pm_yL 63) (pm_yR 63) ∈ lw_tbl := List.mem_append_right _ (List.mem_append_right _ (List.mem_append_left _ (List.mem_of_getElem? (i := 159) rfl)))
theorem wm_815 : Cond.code (pm_yN 64) (pm_yB 64) (pm_yL 64) (pm_yR 64) ∈ lw_tbl := List.mem_append_right _ (List.mem_append_right _ (List.mem_append_left _ (List.mem_of_getElem? (i := 173) rfl)))
theorem wm_816 : Cond.code (pm_yN 65) (pm_yB 65) (pm_yL 65) (pm_yR 65) ∈ lw_tbl := List.mem_append_right _ (List.mem_append_right _ (List.mem_append_left _ (List.mem_of_getElem? (i := 177) rfl)))
theorem wm_817 : Cond.code (pm_yN 66) (pm_yB 66) (pm_yL 66) (pm_yR 66) ∈ lw_tbl := List.mem_append_right _ (List.mem_append_right _ (List.mem_append_left _ (List.mem_of_getElem? (i := 185) rfl)))
theorem wm_818 : Cond.code (pm_yN 67) (pm_yB 67) (pm_yL 67) (pm_yR 67) ∈ lw_tbl := List.mem_append_right _ (List.mem_append_right _ (List.mem_append_left _ (List.mem_of_getElem? (i := 196) rfl)))
theorem wm_819 : Cond.code (pm_yN 68) (pm_yB 68) (pm_yL 68) (pm_yR 68) ∈ lw_tbl := List.mem_append_right _ (List.mem_append_right _ (List.mem_append_left _ (List.mem_of_getElem? (i := 200) rfl)))
theorem wm_820 : Cond.code (pm_yN 69) (pm_yB 69) (pm_yL 69) (pm_yR 69) ∈ lw_tbl := List.mem_append_right _ (List.mem_append_right _ (List.mem_append_left _ (List.mem_of_getElem? (i := 208) rfl)))
theorem wm_821 : Cond.code (pm_yN 70) (pm_yB 70) (pm_yL 70) (pm_yR 70) ∈ lw_tbl := List.mem_append_right _ (List.mem_append_right _ (List.mem_append_left _ (List.mem_of_getElem? (i := 218) rfl)))
theorem wm_822 : Cond.code (pm_yN 71) (pm_yB 71) (pm_yL 71) (pm_yR 71) ∈ lw_tbl := List.mem_append_right _ (List.mem_append_right _ (List.mem_append_left _ (List.mem_of_getElem? (i := 222) rfl)))
theorem wm_823 : Cond.code (pm_yN 72) (pm_yB 72) (pm_yL 72) (pm_yR 72) ∈ lw_tbl := List.mem_append_right _ (List.mem_append_right _ (List.mem_append_right _ (List.mem_append_left _ (List.mem_of_getElem? (i := 4) rfl))))
theorem wm_824 : Cond.code (pm_yN 73) (pm_yB 73) (pm_yL 73) (pm_yR 73) ∈ lw_tbl := List.mem_append_right _ (List.mem_append_right _ (List.mem_append_right _ (List.mem_append_left _ (List.mem_of_getElem? (i := 12) rfl))))
theorem wm_825 : Cond.code (pm_yN 74) (pm_yB 74) (pm_yL 74) (pm_yR 74) ∈ lw_tbl := List.mem_append_right _ (List.mem_append_right _ (List.mem_append_right _ (List.mem_append_left _ (List.mem_of_getElem? (i := 52) rfl))))
theorem wm_826 : Cond.code (pm_yN 75) (pm_yB 75) (pm_yL 75) (pm_yR 75) ∈ lw_tbl := List.mem_append_right _ (List.mem_append_right _ (List.mem_append_right _ (List.mem_append_left _ (List.mem_of_getElem? (i := 64) rfl))))
theorem wm_827 : Cond.code (pm_yN 76) (pm_yB 76) (pm_yL 76) (pm_yR 76) ∈ lw_tbl := List.mem_append_right _ (List.mem_append_right _ (List.mem_append_right _ (List.mem_append_left _ (List.mem_of_getElem? (i := 75) rfl))))
theorem wm_828 : Cond.code (pm_yN 77) (pm_yB 77) (pm_yL 77) (pm_yR 77) ∈ lw_tbl := List.mem_append_right _ (List.mem_append_right _ (List.mem_append_right _ (List.mem_append_left _ (List.mem_of_getElem? (i := 79) rfl))))
theorem wm_829 : Cond.code (pm_yN 78) (pm_yB 78) (pm_yL 78) (pm_yR 78) ∈ lw_tbl := List.mem_append_right _ (List.mem_append_right _ (List.mem_append_right _ (List.mem_append_left _ (List.mem_of_getElem? (i := 83) rfl))))
theorem wm_830 : Cond.code (pm_yN 79) (pm_yB 79) (pm_yL 79) (pm_yR 79) ∈ lw_tbl := List.mem_append_right _ (List.mem_append_right _ (List.mem_append_right _ (List.mem_append_left _ (List.mem_of_getElem? (i := 101) rfl))))
theorem wm_831 : Cond.code (pm_yN 80) (pm_yB 80) (pm_yL 80) (pm_yR 80) ∈ lw_tbl := List.mem_append_right _ (List.mem_append_right _ (List.mem_append_right _ (List.mem_append_left _ (List.mem_of_getElem? (i := 105) rfl))))
theorem wm_832 : Cond.code (pm_yN 81) (pm_yB 81) (pm_yL 81) (pm_yR 81) ∈ lw_tbl := List.mem_append_right _ (List.mem_append_right _ (List.mem_append_right _ (List.mem_append_left _ (List.mem_of_getElem? (i := 113) rfl))))
theorem wm_833 : Cond.code (pm_yN 82) (pm_yB 82) (pm_yL 82) (pm_yR 82) ∈ lw_tbl := List.mem_append_right _ (List.mem_append_right _ (List.mem_append_right _ (List.mem_append_left _ (List.mem_of_getElem? (i := 139) rfl))))
theorem wm_834 : Cond.code (pm_yN 83) (pm_yB 83) (pm_yL 83) (pm_yR 83) ∈ lw_tbl := List.mem_append_right _ (List.mem_append_right _ (List.mem_append_right _ (List.mem_append_left _ (List.mem_of_getElem? (i := 143) rfl))))
theorem wm_835 : Cond.code (pm_yN 84) (pm_yB 84) (pm_yL 84) (pm_yR 84) ∈ lw_tbl := List.mem_append_right _ (List.mem_append_right _ (List.mem_append_right _ (List.mem_append_left _ (List.mem_of_getElem? (i := 155) rfl))))
theorem wm_836 : Cond.code (pm_yN 85) (pm_yB 85) (pm_yL 85) (pm_yR 85) ∈ lw_tbl := List.mem_append_right _ (List.mem_append_right _ (List.mem_append_right _ (List.mem_append_left _ (List.mem_of_getElem? (i := 159) rfl))))
theorem wm_837 : Cond.code (pm_yN 86) (pm_yB 86) (pm_yL 86) (pm_yR 86) ∈ lw_tbl := List.mem_append_right _ (List.mem_append_right _ (List.mem_append_right _ (List.mem_append_left _ (List.mem_of_getElem? (i := 163) rfl))))
theorem wm_838 : Cond.code (pm_yN 87) (pm_yB 87) (pm_yL 87) (pm_yR 87) ∈ lw_tbl := List.mem_append_right _ (List.mem_append_right _ (List.mem_append_right _ (List.mem_append_left _ (List.mem_of_getElem? (i := 167) rfl))))
theorem wm_839 : Cond.code (pm_yN 88) (pm_yB 88) (pm_yL 88) (pm_yR 88) ∈ lw_tbl := List.mem_append_right _ (List.mem_append_right _ (List.mem_append_right _ (List.mem_append_left _ (List.mem_of_getElem? (i := 187) rfl))))
theorem wm_840 : Cond.code (pm_yN 89) (pm_yB 89) (pm_yL 89) (pm_yR 89) ∈ lw_tbl := List.mem_append_right _ (List.mem_append_right _ (List.mem_append_right _ (List.mem_append_left _ (List.mem_of_getElem? (i := 191) rfl))))
theorem wm_841 : Cond.code (pm_yN 90) (pm_yB 90) (pm_yL 90) (pm_yR 90) ∈ lw_tbl := List.mem_append_right _ (List.mem_append_right _ (List.mem_append_right _ (List.mem_append_left _ (List.mem_of_getElem? (i := 195) rfl))))
theorem wm_842 : Cond.code (pm_yN 91) (pm_yB 91) (pm_yL 91) (pm_yR 91) ∈ lw_tbl := List.mem_append_right _ (List.mem_append_right _ (List.mem_append_left _ (List.mem_of_getElem? (i := 93) rfl)))
theorem wm_843 : Cond.code (pm_yN 92) (pm_yB 92) (pm_yL 92) (pm_yR 92) ∈ lw_tbl := List.mem_append_right _ (List.mem_append_right _ (List.mem_append_left _ (List.mem_of_getElem? (i := 96) rfl)))
theorem wm_844 : Cond.code (pm_yN 93) (pm_yB 93) (pm_yL 93) (pm_yR 93) ∈ lw_tbl := List.mem_append_right _ (List.mem_append_right _ (List.mem_append_left _ (List.mem_of_getElem? (i := 105) rfl)))
theorem wm_845 : Cond.code (pm_yN 94) (pm_yB 94) (pm_yL 94) (pm_yR 94) ∈ lw_tbl := List.mem_append_right _ (List.mem_append_right _ (List.mem_append_left _ (List.mem_of_getElem? (i := 108) rfl)))
theorem wm_846 : Cond.code (pm_yN 95) (pm_yB 95) (pm_yL 95) (pm_yR 95) ∈ lw_tbl := List.mem_append_right _ (List.mem_append_right _ (List.mem_append_left _ (List.mem_of_getElem? (i := 111) rfl)))
theorem wm_847 : Cond.code (pm_yN 96) (pm_yB 96) (pm_yL 96) (pm_yR 96) ∈ lw_tbl := List.mem_append_right _ (List.mem_append_right _ (List.mem_append_left _ (List.mem_of_getElem? (i := 114) rfl)))
theorem wm_848 : Cond.code (pm_yN 97) (pm_yB 97) (pm_yL 97) (pm_yR 97) ∈ lw_tbl := List.mem_append_right _ (List.mem_append_right _ (List.mem_append_left _ (List.mem_of_getElem? (i := 121) rfl)))
theorem wm_849 : Cond.code (pm_yN 98) (pm_yB 98) (pm_yL 98) (pm_yR 98) ∈ lw_tbl := List.mem_append_right _ (List.mem_append_right _ (List.mem_append_left _ (List.mem_of_getElem? (i := 86) rfl)))
theorem wm_850 : Cond.code (pm_yN 99) (pm_yB 99) (pm_yL 99) (pm_yR 99) ∈ lw_tbl := List.mem_append_right _ (List.mem_append_right _ (List.mem_append_left _ (List.mem_of_getElem? (i := 75) rfl)))
theorem wm_851 : Cond.code (pm_yN 100) (pm_yB 100) (pm_yL 100) (pm_yR 100) ∈ lw_tbl := List.mem_append_right _ (List.mem_append_right _ (List.mem_append_left _ (List.mem_of_getElem? (i := 127) rfl)))
theorem wm_852 : Cond.code (pm_yN 101) (pm_yB 101) (pm_yL 101) (pm_yR 101) ∈ lw_tbl := List.mem_append_right _ (List.mem_append_right _ (List.mem_append_left _ (List.mem_of_getElem? (i := 163) rfl)))
theorem wm_853 : Cond.code (pm_yN 102) (pm_yB 102) (pm_yL 102) (pm_yR 102) ∈ lw_tbl := List.mem_append_right _ (List.mem_append_right _ (List.mem_append_right _ (List.mem_append_left _ (List.mem_of_getElem? (i := 149) rfl))))
theorem wm_854 : Cond.code (pm_yN 103) (pm_yB 103) (pm_yL 103) (pm_yR 103) ∈ lw_tbl := List.mem_append_right _ (List.mem_append_right _ (List.mem_append_right _ (List.mem_append_left _ (List.mem_of_getElem? (i := 0) rfl))))
theorem wm_855 : Cond.code (pm_yN 104) (pm_yB 104) (pm_yL 104) (pm_yR 104) ∈ lw_tbl := List.mem_append_right _ (List.mem_append_right _ (List.mem_append_right _ (List.mem_append_left _ (List.mem_of_getElem? (i := 130) rfl))))
theorem wm_856 : Cond.code (pm_yN 105) (pm_yB 105) (pm_yL 105) (pm_yR 105) ∈ lw_tbl := List.mem_append_right _ (List.mem_append_right _ (List.mem_append_right _ (List.mem_append_left _ (List.mem_of_getElem? (i := 28) rfl))))
theorem wm_857 : Cond.code (pm_yN 106) (pm_yB 106) (pm_yL 106) (pm_yR 106) ∈ lw_tbl := List.mem_append_right _ (List.mem_append_right _ (List.mem_append_right _ (List.mem_append_left _ (List.mem_of_getElem? (i := 20) rfl))))
theorem wm_858 : Cond.code (pm_yN 107) (pm_yB 107) (pm_yL 107) (pm_yR 107) ∈ lw_tbl := List.mem_append_right _ (List.mem_append_right _ (List.mem_append_right _ (List.mem_append_left _ (List.mem_of_getElem? (i := 91) rfl))))
theorem wm_859 : Cond.code (pm_yN 108) (pm_yB 108) (pm_yL 108) (pm_yR 108) ∈ lw_tbl := List.mem_append_right _ (List.mem_append_right _ (List.mem_append_right _ (List.mem_append_left _ (List.mem_of_getElem? (i := 95) rfl))))
theorem wm_860 : Cond.code (pm_yN 109) (pm_yB 109) (pm_yL 109) (pm_yR 109) ∈ lw_tbl := List.mem_append_right _ (List.mem_append_right _ (List.mem_append_right _ (List.mem_append_left _ (List.mem_of_getElem? (i := 109) rfl))))
theorem wm_861 : Cond.code (pm_yN 110) (pm_yB 110) (pm_yL 110) (pm_yR 110) ∈ lw_tbl := List.mem_append_right _ (List.mem_append_right _ (List.mem_append_right _ (List.mem_append_left _ (List.mem_of_getElem? (i := 120) rfl))))
theorem wm_862 : Cond.code (pm_yN 111) (pm_yB 111) (pm_yL 111) (pm_yR 111) ∈ lw_tbl := List.mem_append_right _ (List.mem_append_right _ (List.mem_append_right _ (List.mem_append_left _ (List.mem_of_getElem? (i := 134) rfl))))
theorem wm_863 : Cond.code (pm_yN 112) (pm_yB 112) (pm_yL 112) (pm_yR 112) ∈ lw_tbl := List.mem_append_right _ (List.mem_append_left _ (List.mem_of_getElem? (i := 172) rfl))
theorem wm_864 : Cond.code (pm_yN 113) (pm_yB 113) (pm_yL 113) (pm_yR 113) ∈ lw_tbl := List.mem_append_right _ (List.mem_append_left _ (List.mem_of_getElem? (i := 234) rfl))
theorem wm_865 : Cond.code (pm_yN 114) (pm_yB 114) (pm_yL 114) (pm_yR 114) ∈ lw_tbl := List.mem_append_right _ (List.mem_append_right _ (List.mem_append_left _ (List.mem_of_getElem? (i := 188) rfl)))
theorem wm_866 : Cond.code (pm_yN 115) (pm_yB 115) (pm_yL 115) (pm_yR 115) ∈ lw_tbl := List.mem_append_right _ (List.mem_append_right _ (List.mem_append_left _ (List.mem_of_getElem? (i := 203) rfl)))
theorem wm_867 : Cond.code (pm_yN 116) (pm_yB 116) (pm_yL 116) (pm_yR 116) ∈ lw_tbl := List.mem_append_right _ (List.mem_append_right _ (List.mem_append_right _ (List.mem_append_left _ (List.mem_of_getElem? (i := 116) rfl))))
theorem wm_868 : Cond.code (pm_yN 117) (pm_yB 117) (pm_yL 117) (pm_yR 117) ∈ lw_tbl := List.mem_append_right _ (List.mem_append_left _ (List.mem_of_getElem? (i := 176) rfl))
theorem wm_869 : Cond.code (pm_yN 118) (pm_yB 118) (pm_yL 118) (pm_yR 118) ∈ lw_tbl := List.mem_append_right _ (List.mem_append_left _ (List.mem_of_getElem? (i := 192) rfl))
theorem wm_870 : Cond.code (pm_yN 119) (pm_yB 119) (pm_yL 119) (pm_yR 119) ∈ lw_tbl := List.mem_append_right _ (List.mem_append_right _ (List.mem_append_right _ (List.mem_append_left _ (List.mem_of_getElem? (i := 16) rfl))))
theorem wm_871 : Cond.code (pm_yN 120) (pm_yB 120) (pm_yL 120) (pm_yR 120) ∈ lw_tbl := List.mem_append_right _ (List.mem_append_right _ (List.mem_append_right _ (List.mem_append_left _ (List.mem_of_getElem? (i := 87) rfl))))
theorem wm_872 : Cond.code (pm_yN 121) (pm_yB 121) (pm_yL 121) (pm_yR 121) ∈ lw_tbl := List.mem_append_right _ (List.mem_append_left _ (List.mem_of_getElem? (i := 180) rfl))
theorem wm_873 : Cond.code (pm_yN 122) (pm_yB 122) (pm_yL 122) (pm_yR 122) ∈ lw_tbl := List.mem_append_right _ (List.mem_append_left _ (List.mem_of_getElem? (i := 204) rfl))
theorem wm_874 : Cond.code (pm_yN 123) (pm_yB 123) (pm_yL 123) (pm_yR 123) ∈ lw_tbl := List.mem_append_right _ (List.mem_append_right _ (List.mem_append_right _ (List.mem_append_left _ (List.mem_of_getElem? (i := 41) rfl))))
theorem wm_875 : Cond.code (pm_yN 124) (pm_yB 124) (pm_yL 124) (pm_yR 124) ∈ lw_tbl := List.mem_append_right _ (List.mem_append_right _ (List.mem_append_right _ (List.mem_append_left _ (List.mem_of_getElem? (i := 44) rfl))))
theorem wm_876 : Cond.code (pm_yN 125) (pm_yB 125) (pm_yL 125) (pm_yR 125) ∈ lw_tbl := List.mem_append_right _ (List.mem_append_right _ (List.mem_append_right _ (List.mem_append_left _ (List.mem_of_getElem? (i := 179) rfl))))
theorem wm_877 : Cond.code (pm_yN 126) (pm_yB 126) (pm_yL 126) (pm_yR 126) ∈ lw_tbl := List.mem_append_right _ (List.mem_append_right _ (List.mem_append_right _ (List.mem_append_left _ (List.mem_of_getElem? (i := 183) rfl))))
theorem wm_878 : Cond.code (pm_yN 127) (pm_yB 127) (pm_yL 127) (pm_yR 127) ∈ lw_tbl := List.mem_append_right _ (List.mem_append_right _ (List.mem_append_right _ (List.mem_append_left _ (List.mem_of_getElem? (i := 202) rfl))))
theorem wm_879 : Cond.code (pm_yN 128) (pm_yB 128) (pm_yL 128) (pm_yR 128) ∈ lw_tbl := List.mem_append_right _ (List.mem_append_right _ (List.mem_append_right _ (List.mem_append_left _ (List.mem_of_getElem? (i := 205) rfl))))
theorem wm_880 : Cond.code (pm_yN 129) (pm_yB 129) (pm_yL 129) (pm_yR 129) ∈ lw_tbl := List.mem_append_right _ (List.mem_append_right _ (List.mem_append_right _ (List.mem_append_left _ (List.mem_of_getElem? (i := 210) rfl))))
theorem wm_881 : Cond.code (pm_yN 130) (pm_yB 130) (pm_yL 130) (pm_yR 130) ∈ lw_tbl := List.mem_append_right _ (List.mem_append_right _ (List.mem_append_right _ (List.mem_append_left _ (List.mem_of_getElem? (i := 215) rfl))))
theorem wm_882 : Cond.code (pm_yN 131) (pm_yB 131) (pm_yL 131) (pm_yR 131) ∈ lw_tbl := List.mem_append_right _ (List.mem_append_right _ (List.mem_append_right _ (List.mem_append_right _ (List.mem_append_left _ (List.mem_of_getElem? (i := 72) rfl)))))
theorem wm_883 : Cond.code (pm_yN 132) (pm_yB 132) (pm_yL 132) (pm_yR 132) ∈ lw_tbl := List.mem_append_right _ (List.mem_append_right _ (List.mem_append_right _ (List.mem_append_right _ (List.mem_append_left _ (List.mem_of_getElem? (i := 180) rfl)))))
theorem wm_884 : Cond.code (pm_yN 133) (pm_yB 133) (pm_yL 133) (pm_yR 133) ∈ lw_tbl := List.mem_append_right _ (List.mem_append_right _ (List.mem_append_right _ (List.mem_append_right _ (List.mem_append_right _ (List.mem_of_getElem? (i := 28) rfl)))))
theorem wm_885 : Cond.code (pm_yN 134) (pm_yB 134) (pm_yL 134) (pm_yR 134) ∈ lw_tbl := List.mem_append_right _ (List.mem_append_right _ (List.mem_append_right _ (List.mem_append_right _ (List.mem_append_left _ (List.mem_of_getElem? (i := 153) rfl)))))
theorem wm_886 : Cond.code (pm_yN 135) (pm_yB 135) (pm_yL 135) (pm_yR 135) ∈ lw_tbl := List.mem_append_right _ (List.mem_append_right _ (List.mem_append_right _ (List.mem_append_right _ (List.mem_append_left _ (List.mem_of_getElem? (i := 76) rfl)))))
theorem wm_887 : Cond.code (pm_yN 136) (pm_yB 136) (pm_yL 136) (pm_yR 136) ∈ lw_tbl := List.mem_append_right _ (List.mem_append_right _ (List.mem_append_right _ (List.mem_append_right _ (List.mem_append_left _ (List.mem_of_getElem? (i := 84) rfl)))))
theorem wm_888 : Cond.code (pm_yN 137) (pm_yB 137) (pm_yL 137) (pm_yR 137) ∈ lw_tbl := List.mem_append_right _ (List.mem_append_right _ (List.mem_append_right _ (List.mem_append_right _ (List.mem_append_left _ (List.mem_of_getElem? (i := 69) rfl)))))
theorem wm_889 : Cond.code (pm_yN 138) (pm_yB 138) (pm_yL 138) (pm_yR 138) ∈ lw_tbl := List.mem_append_right _ (List.mem_append_right _ (List.mem_append_right _ (List.mem_append_right _ (List.mem_append_left _ (List.mem_of_getElem? (i := 111) rfl)))))
theorem wm_890 : Cond.code (pm_yN 139) (pm_yB 139) (pm_yL 139) (pm_yR 139) ∈ lw_tbl := List.mem_append_right _ (List.mem_append_right _ (List.mem_append_right _ (List.mem_append_right _ (List.mem_append_left _ (List.mem_of_getElem? (i := 169) rfl)))))
theorem wm_891 : Cond.code (pm_yN 140) (pm_yB 140) (pm_yL 140) (pm_yR 140) ∈ lw_tbl := List.mem_append_right _ (List.mem_append_right _ (List.mem_append_right _ (List.mem_append_right _ (List.mem_append_left _ (List.mem_of_getElem? (i := 161) rfl)))))
theorem wm_892 : Cond.code (pm_yN 141) (pm_yB 141) (pm_yL 141) (pm_yR 141) ∈ lw_tbl := List.mem_append_right _ (List.mem_append_right _ (List.mem_append_right _ (List.mem_append_right _ (List.mem_append_left _ (List.mem_of_getElem? (i := 65) rfl)))))
theorem wm_893 : Cond.code (pm_yN 142) (pm_yB 142) (pm_yL 142) (pm_yR 142) ∈ lw_tbl := List.mem_append_right _ (List.mem_append_right _ (List.mem_append_right _ (List.mem_append_right _ (List.mem_append_left _ (List.mem_of_getElem? (i := 80) rfl)))))
theorem wm_894 : Cond.code (pm_yN 143) (pm_yB 143) (pm_yL 143) (pm_yR 143) ∈ lw_tbl := List.mem_append_right _ (List.mem_append_right _ (List.mem_append_right _ (List.mem_append_right _ (List.mem_append_left _ (List.mem_of_getElem? (i := 88) rfl)))))
theorem wm_895 : Cond.code (pm_yN 144) (pm_yB 144) (pm_yL 144) (pm_yR 144) ∈ lw_tbl := List.mem_append_right _ (List.mem_append_right _ (List.mem_append_right _ (List.mem_append_right _ (List.mem_append_left _ (List.mem_of_getElem? (i := 92) rfl)))))
theorem wm_896 : Cond.code (pm_yN 145) (pm_yB 145) (pm_yL 145) (pm_yR 145) ∈ lw_tbl := List.mem_append_right _ (List.mem_append_right _ (List.mem_append_right _ (List.mem_append_right _ (List.mem_append_left _ (List.mem_of_getElem? (i := 99) rfl)))))
theorem wm_897 : Cond.code (pm_yN 146) (pm_yB 146) (pm_yL 146) (pm_yR 146) ∈ lw_tbl := List.mem_append_right _ (List.mem_append_right _ (List.mem_append_right _ (List.mem_append_right _ (List.mem_append_left _ (List.mem_of_getElem? (i := 96) rfl)))))
theorem wm_898 : Cond.code (pm_yN 147) (pm_yB 147) (pm_yL 147) (pm_yR 147) ∈ lw_tbl := List.mem_append_right _ (List.mem_append_right _ (List.mem_append_right _ (List.mem_append_right _ (List.mem_append_left _ (List.mem_of_getElem? (i := 103) rfl)))))
theorem wm_899 : Cond.code (pm_yN 148) (pm_yB 148) (pm_yL 148) (pm_yR 148) ∈ lw_tbl := List.mem_append_right _ (List.mem_append_right _ (List.mem_append_right _ (List.mem_append_right _ (List.mem_append_left _ (List.mem_of_getElem? (i := 107) rfl)))))
theorem wm_900 : Cond.code (pm_yN 149) (pm_yB 149) (pm_yL 149) (pm_yR 149) ∈ lw_tbl := List.mem_append_right _ (List.mem_append_right _ (List.mem_append_right _ (List.mem_append_right _ (List.mem_append_left _ (List.mem_of_getElem? (i := 115) rfl)))))
theorem wm_901 : Cond.code (pm_yN 150) (pm_yB 150) (pm_yL 150) (pm_yR 150) ∈ lw_tbl := List.mem_append_right _ (List.mem_append_right _ (List.mem_append_right _ (List.mem_append_right _ (List.mem_append_left _ (List.mem_of_getElem? (i := 131) rfl)))))
theorem wm_902 : Cond.code (pm_yN 151) (pm_yB 151) (pm_yL 151) (pm_yR 151) ∈ lw_tbl := List.mem_append_right _ (List.mem_append_right _ (List.mem_append_right _ (List.mem_append_right _ (List.mem_append_left _ (List.mem_of_getElem? (i := 127) rfl)))))
theorem wm_903 : Cond.code (pm_yN 152) (pm_yB 152) (pm_yL 152) (pm_yR 152) ∈ lw_tbl := List.mem_append_right _ (List.mem_append_right _ (List.mem_append_right _ (List.mem_append_right _ (List.mem_append_left _ (List.mem_of_getElem? (i := 146) rfl)))))
theorem wm_904 : Cond.code (pm_yN 153) (pm_yB 153) (pm_yL 153) (pm_yR 153) ∈ lw_tbl := List.mem_append_right _ (List.mem_append_right _ (List.mem_append_right _ (List.mem_append_right _ (List.mem_append_left _ (List.mem_of_getElem? (i := 139) rfl)))))
theorem wm_905 : Cond.code (pm_yN 154) (pm_yB 154) (pm_yL 154) (pm_yR 154) ∈ lw_tbl := List.mem_append_right _ (List.mem_append_right _ (List.mem_append_right _ (List.mem_append_right _ (List.mem_append_left _ (List.mem_of_getElem? (i := 135) rfl)))))
theorem wm_906 : Cond.code (pm_yN 155) (pm_yB 155) (pm_yL 155) (pm_yR 155) ∈ lw_tbl := List.mem_append_right _ (List.mem_append_right _ (List.mem_append_right _ (List.mem_append_right _ (List.mem_append_left _ (List.mem_of_getElem? (i := 143) rfl)))))
theorem wm_907 : Cond.code (pm_yN 156) (pm_yB 156) (pm_yL 156) (pm_yR 156) ∈ lw_tbl := List.mem_append_right _ (List.mem_append_right _ (List.mem_append_right _ (List.mem_append_right _ (List.mem_append_left _ (List.mem_of_getElem? (i := 123) rfl)))))
theorem wm_908 : Cond.code (pm_yN 157) (pm_yB 157) (pm_yL 157) (pm_yR 157) ∈ lw_tbl := List.mem_append_right _ (List.mem_append_right _ (List.mem_append_right _ (List.mem_append_right _ (List.mem_append_left _ (List.mem_of_getElem? (i := 119) rfl)))))
theorem wm_909 : Cond.code (pm_yN 158) (pm_yB 158) (pm_yL 158) (pm_yR 158) ∈ lw_tbl := List.mem_append_right _ (List.mem_append_right _ (List.mem_append_right _ (List.mem_append_right _ (List.mem_append_left _ (List.mem_of_getElem? (i := 150) rfl)))))
theorem wm_910 : Cond.code (pm_yN 159) (pm_yB 159) (pm_yL 159) (pm_yR 159) ∈ lw_tbl := List.mem_append_right _ (List.mem_append_right _ (List.mem_append_right _ (List.mem_append_right _ (List.mem_append_left _ (List.mem_of_getElem? (i := 190) rfl)))))
theorem wm_911 : Cond.code (pm_yN 160) (pm_yB 160) (pm_yL 160) (pm_yR 160) ∈ lw_tbl := List.mem_append_right _ (List.mem_append_right _ (List.mem_append_right _ (List.mem_append_right _ (List.mem_append_left _ (List.mem_of_getElem? (i := 193) rfl)))))
theorem wm_912 : Cond.code (pm_yN 161) (pm_yB 161) (pm_yL 161) (pm_yR 161) ∈ lw_tbl := List.mem_append_right _ (List.mem_append_right _ (List.mem_append_right _ (List.mem_append_right _ (List.mem_append_left _ (List.mem_of_getElem? (i := 187) rfl)))))
theorem wm_913 : Cond.code (pm_yN 162) (pm_yB 162) (pm_yL 162) (pm_yR 162) ∈ lw_tbl := List.mem_append_right _ (List.mem_append_right _ (List.mem_append_right _ (List.mem_append_right _ (List.mem_append_left _ (List.mem_of_getElem? (i := 177) rfl)))))
theorem wm_914 : Cond.code (pm_yN 163) (pm_yB 163) (pm_yL 163) (pm_yR 163) ∈ lw_tbl := List.mem_append_right _ (List.mem_append_right _ (List.mem_append_right _ (List.mem_append_right _ (List.mem_append_left _ (List.mem_of_getElem? (i := 184) rfl)))))
theorem wm_915 : Cond.code (pm_yN 164) (pm_yB 164) (pm_yL 164) (pm_yR 164) ∈ lw_tbl := List.mem_append_right _ (List.mem_append_right _ (List.mem_append_right _ (List.mem_append_right _ (List.mem_append_left _ (List.mem_of_getElem? (i := 213) rfl)))))
theorem wm_916 : Cond.code (pm_yN 165) (pm_yB 165) (pm_yL 165) (pm_yR 165) ∈ lw_tbl := List.mem_append_right _ (List.mem_append_right _ (List.mem_append_right _ (List.mem_append_right _ (List.mem_append_right _ (List.mem_of_getElem? (i := 119) rfl)))))
theorem wm_917 : Cond.code (pm_yN 166) (pm_yB 166) (pm_yL 166) (pm_yR 166) ∈ lw_tbl := List.mem_append_right _ (List.mem_append_right _ (List.mem_append_right _ (List.mem_append_right _ (List.mem_append_left _ (List.mem_of_getElem? (i := 157) rfl)))))
theorem wm_918 : Cond.code (pm_yN 167) (pm_yB 167) (pm_yL 167) (pm_yR 167) ∈ lw_tbl := List.mem_append_right _ (List.mem_append_right _ (List.mem_append_right _ (List.mem_append_right _ (List.mem_append_left _ (List.mem_of_getElem? (i := 173) rfl)))))
theorem wm_919 : Cond.code (pm_yN 168) (pm_yB 168) (pm_yL 168) (pm_yR 168) ∈ lw_tbl := List.mem_append_right _ (List.mem_append_right _ (List.mem_append_right _ (List.mem_append_right _ (List.mem_append_left _ (List.mem_of_getElem? (i := 165) rfl)))))
theorem wm_920 : Cond.code (pm_yN 169) (pm_yB 169) (pm_yL 169) (pm_yR 169) ∈ lw_tbl := List.mem_append_right _ (List.mem_append_right _ (List.mem_append_right _ (List.mem_append_right _ (List.mem_append_left _ (List.mem_of_getElem? (i := 201) rfl)))))
theorem wm_921 : Cond.code (pm_yN 170) (pm_yB 170) (pm_yL 170) (pm_yR 170) ∈ lw_tbl := List.mem_append_right _ (List.mem_append_right _ (List.mem_append_right _ (List.mem_append_right _ (List.mem_append_left _ (List.mem_of_getElem? (i := 197) rfl)))))
theorem wm_922 : Cond.code (pm_yN 171) (pm_yB 171) (pm_yL 171) (pm_yR 171) ∈ lw_tbl := List.mem_append_right _ (List.mem_append_right _ (List.mem_append_right _ (List.mem_append_right _ (List.mem_append_left _ (List.mem_of_getElem? (i := 209) rfl)))))
theorem wm_923 : Cond.code (pm_yN 172) (pm_yB 172) (pm_yL 172) (pm_yR 172) ∈ lw_tbl := List.mem_append_right _ (List.mem_append_right _ (List.mem_append_right _ (List.mem_append_right _ (List.mem_append_left _ (List.mem_of_getElem? (i := 205) rfl)))))
theorem wm_924 : Cond.code (pm_yN 173) (pm_yB 173) (pm_yL 173) (pm_yR 173) ∈ lw_tbl := List.mem_append_right _ (List.mem_append_right _ (List.mem_append_right _ (List.mem_append_right _ (List.mem_append_left _ (List.mem_of_getElem? (i := 217) rfl)))))
theorem wm_925 : Cond.code (pm_yN 174) (pm_yB 174) (pm_yL 174) (pm_yR 174) ∈ lw_tbl := List.mem_append_right _ (List.mem_append_right _ (List.mem_append_right _ (List.mem_append_right _ (List.mem_append_left _ (List.mem_of_getElem? (i := 225) rfl)))))
theorem wm_926 : Cond.code (pm_yN 175) (pm_yB 175) (pm_yL 175) (pm_yR 175) ∈ lw_tbl := List.mem_append_right _ (List.mem_append_right _ (List.mem_append_right _ (List.mem_append_right _ (List.mem_append_left _ (List.mem_of_getElem? (i := 221) rfl)))))
theorem wm_927 : Cond.code (pm_yN 176) (pm_yB 176) (pm_yL 176) (pm_yR 176) ∈ lw_tbl := List.mem_append_right _ (List.mem_append_right _ (List.mem_append_right _ (List.mem_append_right _ (List.mem_append_left _ (List.mem_of_getElem? (i := 229) rfl)))))
theorem wm_928 : Cond.code (pm_yN 177) (pm_yB 177) (pm_yL 177) (pm_yR 177) ∈ lw_tbl := List.mem_append_right _ (List.mem_append_right _ (List.mem_append_right _ (List.mem_append_right _ (List.mem_append_left _ (List.mem_of_getElem? (i := 233) rfl)))))
theorem wm_929 : Cond.code (pm_yN 178) (pm_yB 178) (pm_yL 178) (pm_yR 178) ∈ lw_tbl := List.mem_append_right _ (List.mem_append_right _ (List.mem_append_right _ (List.mem_append_right _ (List.mem_append_left _ (List.mem_of_getElem? (i := 237) rfl)))))
theorem wm_930 : Cond.code (pm_yN 179) (pm_yB 179) (pm_yL 179) (pm_yR 179) ∈ lw_tbl := List.mem_append_right _ (List.mem_append_right _ (List.mem_append_right _ (List.mem_append_right _ (List.mem_append_right _ (List.mem_of_getElem? (i := 1) rfl)))))
theorem wm_931 : Cond.code (pm_yN 180) (pm_yB 180) (pm_yL 180) (pm_yR 180) ∈ lw_tbl := List.mem_append_right _ (List.mem_append_right _ (List.mem_append_right _ (List.mem_append_right _ (List.mem_append_right _ (List.mem_of_getElem? (i := 13) rfl)))))
theorem wm_932 : Cond.code (pm_yN 181) (pm_yB 181) (pm_yL 181) (pm_yR 181) ∈ lw_tbl := List.mem_append_right _ (List.mem_append_right _ (List.mem_append_right _ (List.mem_append_right _ (List.mem_append_right _ (List.mem_of_getElem? (i := 5) rfl)))))
theorem wm_933 : Cond.code (pm_yN 182) (pm_yB 182) (pm_yL 182) (pm_yR 182) ∈ lw_tbl := List.mem_append_right _ (List.mem_append_right _ (List.mem_append_right _ (List.mem_append_right _ (List.mem_append_right _ (List.mem_of_getElem? (i := 9) rfl)))))
theorem wm_934 : Cond.code (pm_yN 183) (pm_yB 183) (pm_yL 183) (pm_yR 183) ∈ lw_tbl := List.mem_append_right _ (List.mem_append_right _ (List.mem_append_right _ (List.mem_append_right _ (List.mem_append_right _ (List.mem_of_getElem? (i := 17) rfl)))))
theorem wm_935 : Cond.code (pm_yN 184) (pm_yB 184) (pm_yL 184) (pm_yR 184) ∈ lw_tbl := List.mem_append_right _ (List.mem_append_right _ (List.mem_append_right _ (List.mem_append_right _ (List.mem_append_right _ (List.mem_of_getElem? (i := 25) rfl)))))
theorem wm_936 : Cond.code (pm_yN 185) (pm_yB 185) (pm_yL 185) (pm_yR 185) ∈ lw_tbl := List.mem_append_right _ (List.mem_append_right _ (List.mem_append_right _ (List.mem_append_right _ (List.mem_append_right _ (List.mem_of_getElem? (i := 32) rfl)))))
theorem wm_937 : Cond.code (pm_yN 186) (pm_yB 186) (pm_yL 186) (pm_yR 186) ∈ lw_tbl := List.mem_append_right _ (List.mem_append_right _ (List.mem_append_right _ (List.mem_append_right _ (List.mem_append_right _ (List.mem_of_getElem? (i := 21) rfl)))))
theorem wm_938 : Cond.code (pm_yN 187) (pm_yB 187) (pm_yL 187) (pm_yR 187) ∈ lw_tbl := List.mem_append_right _ (List.mem_append_right _ (List.mem_append_right _ (List.mem_append_right _ (List.mem_append_right _ (List.mem_of_getElem? (i := 40) rfl)))))
theorem wm_939 : Cond.code (pm_yN 188) (pm_yB 188) (pm_yL 188) (pm_yR 188) ∈ lw_tbl := List.mem_append_right _ (List.mem_append_right _ (List.mem_append_right _ (List.mem_append_right _ (List.mem_append_right _ (List.mem_of_getElem? (i := 36) rfl)))))
theorem wm_940 : Cond.code (pm_yN 189) (pm_yB 189) (pm_yL 189) (pm_yR 189) ∈ lw_tbl := List.mem_append_right _ (List.mem_append_right _ (List.mem_append_right _ (List.mem_append_right _ (List.mem_append_right _ (List.mem_of_getElem? (i := 52) rfl)))))
theorem wm_941 : Cond.code (pm_yN 190) (pm_yB 190) (pm_yL 190) (pm_yR 190) ∈ lw_tbl := List.mem_append_right _ (List.mem_append_right _ (List.mem_append_right _ (List.mem_append_right _ (List.mem_append_right _ (List.mem_of_getElem? (i := 60) rfl)))))
theorem wm_942 : Cond.code (pm_yN 191) (pm_yB 191) (pm_yL 191) (pm_yR 191) ∈ lw_tbl := List.mem_append_right _ (List.mem_append_right _ (List.mem_append_right _ (List.mem_append_right _ (List.mem_append_right _ (List.mem_of_getElem? (i := 56) rfl)))))
theorem wm_943 : Cond.code (pm_yN 192) (pm_yB 192) (pm_yL 192) (pm_yR 192) ∈ lw_tbl := List.mem_append_right _ (List.mem_append_right _ (List.mem_append_right _ (List.mem_append_right _ (List.mem_append_right _ (List.mem_of_getElem? (i := 48) rfl)))))
theorem wm_944 : Cond.code (pm_yN 193) (pm_yB 193) (pm_yL 193) (pm_yR 193) ∈ lw_tbl := List.mem_append_right _ (List.mem_append_right _ (List.mem_append_right _ (List.mem_append_right _ (List.mem_append_right _ (List.mem_of_getElem? (i := 44) rfl)))))
theorem wm_945 : Cond.code (pm_yN 194) (pm_yB 194) (pm_yL 194) (pm_yR 194) ∈ lw_tbl := List.mem_append_right _ (List.mem_append_right _ (List.mem_append_right _ (List.mem_append_right _ (List.mem_append_right _ (List.mem_of_getElem? (i := 64) rfl)))))
theorem wm_946 : Cond.code (pm_yN 195) (pm_yB 195) (pm_yL 195) (pm_yR 195) ∈ lw_tbl := List.mem_append_right _ (List.mem_append_right _ (List.mem_append_right _ (List.mem_append_right _ (List.mem_append_right _ (List.mem_of_getElem? (i := 72) rfl)))))
theorem wm_947 : Cond.code (pm_yN 196) (pm_yB 196) (pm_yL 196) (pm_yR 196) ∈ lw_tbl := List.mem_append_right _ (List.mem_append_right _ (List.mem_append_right _ (List.mem_append_right _ (List.mem_append_right _ (List.mem_of_getElem? (i := 68) rfl)))))
theorem wm_948 : Cond.code (pm_yN 197) (pm_yB 197) (pm_yL 197) (pm_yR 197) ∈ lw_tbl := List.mem_append_right _ (List.mem_append_right _ (List.mem_append_right _ (List.mem_append_right _ (List.mem_append_right _ (List.mem_of_getElem? (i := 80) rfl)))))
theorem wm_949 : Cond.code (pm_yN 198) (pm_yB 198) (pm_yL 198) (pm_yR 198) ∈ lw_tbl := List.mem_append_right _ (List.mem_append_right _ (List.mem_append_right _ (List.mem_append_right _ (List.mem_append_right _ (List.mem_of_getElem? (i := 76) rfl)))))
theorem wm_950 : Cond.code (pm_yN 199) (pm_yB 199) (pm_yL 199) (pm_yR 199) ∈ lw_tbl := List.mem_append_right _ (List.mem_append_right _ (List.mem_append_right _ (List.mem_append_right _ (List.mem_append_right _ (List.mem_of_getElem? (i := 84) rfl)))))
theorem wm_951 : Cond.code (pm_yN 200) (pm_yB 200) (pm_yL 200) (pm_yR 200) ∈ lw_tbl := List.mem_append_right _ (List.mem_append_right _ (List.mem_append_right _ (List.mem_append_right _ (List.mem_append_right _ (List.mem_of_getElem? (i := 92) rfl)))))
theorem wm_952 : Cond.code (pm_yN 201) (pm_yB 201) (pm_yL 201) (pm_yR 201) ∈ lw_tbl := List.mem_append_right _ (List.mem_append_right _ (List.mem_append_right _ (List.mem_append_right _ (List.mem_append_right _ (List.mem_of_getElem? (i := 88) rfl)))))
theorem wm_953 : Cond.code (pm_yN 202) (pm_yB 202) (pm_yL 202) (pm_yR 202) ∈ lw_tbl := List.mem_append_right _ (List.mem_append_right _ (List.mem_append_right _ (List.mem_append_right _ (List.mem_append_right _ (List.mem_of_getElem? (i := 96) rfl)))))
theorem wm_954 : Cond.code (pm_yN 203) (pm_yB 203) (pm_yL 203) (pm_yR 203) ∈ lw_tbl := List.mem_append_right _ (List.mem_append_right _ (List.mem_append_right _ (List.mem_append_right _ (List.mem_append_right _ (List.mem_of_getElem? (i := 103) rfl)))))
theorem wm_955 : Cond.code (pm_yN 204) (pm_yB 204) (pm_yL 204) (pm_yR 204) ∈ lw_tbl := List.mem_append_right _ (List.mem_append_right _ (List.mem_append_right _ (List.mem_append_right _ (List.mem_append_right _ (List.mem_of_getElem? (i := 107) rfl)))))
theorem wm_956 : Cond.code (pm_yN 205) (pm_yB 205) (pm_yL 205) (pm_yR 205) ∈ lw_tbl := List.mem_append_right _ (List.mem_append_right _ (List.mem_append_right _ (List.mem_append_right _ (List.mem_append_right _ (List.mem_of_getElem? (i := 100) rfl)))))
theorem wm_957 : Cond.code (pm_yN 206) (pm_yB 206) (pm_yL 206) (pm_yR 206) ∈ lw_tbl := List.mem_append_right _ (List.mem_append_right _ (List.mem_append_right _ (List.mem_append_right _ (List.mem_append_right _ (List.mem_of_getElem? (i := 123) rfl)))))
theorem wm_958 : Cond.code (pm_yN 207) (pm_yB 207) (pm_yL 207) (pm_yR 207) ∈ lw_tbl := List.mem_append_right _ (List.mem_append_right _ (List.mem_append_right _ (List.mem_append_right _ (List.mem_append_right _ (List.mem_of_getElem? (i := 115) rfl)))))
theorem wm_959 : Cond.code (pm_yN 208) (pm_yB 208) (pm_yL 208) (pm_yR 208) ∈ lw_tbl := List.mem_append_right _ (List.mem_append_right _ (List.mem_append_right _ (List.mem_append_right _ (List.mem_append_right _ (List.mem_of_getElem? (i := 111) rfl)))))
theorem wm_960 : Cond.code (pm_yN 209) (pm_yB 209) (pm_yL 209) (pm_yR 209) ∈ lw_tbl := List.mem_append_right _ (List.mem_append_right _ (List.mem_append_right _ (List.mem_append_right _ (List.mem_append_right _ (List.mem_of_getElem? (i := 127) rfl)))))
theorem wm_961 : Cond.code (pm_yN 210) (pm_yB 210) (pm_yL 210) (pm_yR 210) ∈ lw_tbl := List.mem_append_right _ (List.mem_append_right _ (List.mem_append_right _ (List.mem_append_right _ (List.mem_append_right _ (List.mem_of_getElem? (i := 138) rfl)))))
theorem wm_962 : Cond.code (pm_yN 211) (pm_yB 211) (pm_yL 211) (pm_yR 211) ∈ lw_tbl := List.mem_append_right _ (List.mem_append_right _ (List.mem_append_right _ (List.mem_append_right _ (List.mem_append_right _ (List.mem_of_getElem? (i := 131) rfl)))))
theorem wm_963 : Cond.code (pm_yN 212) (pm_yB 212) (pm_yL 212) (pm_yR 212) ∈ lw_tbl := List.mem_append_right _ (List.mem_append_right _ (List.mem_append_right _ (List.mem_append_right _ (List.mem_append_right _ (List.mem_of_getElem? (i := 144) rfl)))))
theorem wm_964 : Cond.code (pm_yN 213) (pm_yB 213) (pm_yL 213) (pm_yR 213) ∈ lw_tbl := List.mem_append_right _ (List.mem_append_right _ (List.mem_append_right _ (List.mem_append_right _ (List.mem_append_right _ (List.mem_of_getElem? (i := 148) rfl)))))
theorem wm_965 : Cond.code (pm_yN 214) (pm_yB 214) (pm_yL 214) (pm_yR 214) ∈ lw_tbl := List.mem_append_right _ (List.mem_append_right _ (List.mem_append_right _ (List.mem_append_right _ (List.mem_append_right _ (List.mem_of_getElem? (i := 152) rfl)))))
theorem wm_966 : Cond.code (pm_yN 215) (pm_yB 215) (pm_yL 215) (pm_yR 215) ∈ lw_tbl := List.mem_append_right _ (List.mem_append_right _ (List.mem_append_right _ (List.mem_append_right _ (List.mem_append_right _ (List.mem_of_getElem? (i := 168) rfl)))))
theorem wm_967 : Cond.code (pm_yN 216) (pm_yB 216) (pm_yL 216) (pm_yR 216) ∈ lw_tbl := List.mem_append_right _ (List.mem_append_right _ (List.mem_append_right _ (List.mem_append_right _ (List.mem_append_right _ (List.mem_of_getElem? (i := 171) rfl)))))
theorem wm_968 : Cond.code (pm_yN 217) (pm_yB 217) (pm_yL 217) (pm_yR 217) ∈ lw_tbl := List.mem_append_right _ (List.mem_append_right _ (List.mem_append_right _ (List.mem_append_right _ (List.mem_append_right _ (List.mem_of_getElem? (i := 164) rfl)))))
theorem wm_969 : Cond.code (pm_yN 218) (pm_yB 218) (pm_yL 218) (pm_yR 218) ∈ lw_tbl := List.mem_append_right _ (List.mem_append_right _ (List.mem_append_right _ (List.mem_append_right _ (List.mem_append_right _ (List.mem_of_getElem? (i := 160) rfl)))))
theorem wm_970 : Cond.code (pm_yN 219) (pm_yB 219) (pm_yL 219) (pm_yR 219) ∈ lw_tbl := List.mem_append_right _ (List.mem_append_right _ (List.mem_append_right _ (List.mem_append_right _ (List.mem_append_right _ (List.mem_of_getElem? (i := 156) rfl)))))
theorem wm_971 : Cond.code (pm_yN 220) (pm_yB 220) (pm_yL 220) (pm_yR 220) ∈ lw_tbl := List.mem_append_right _ (List.mem_append_right _ (List.mem_append_right _ (List.mem_append_right _ (List.mem_append_right _ (List.mem_of_getElem? (i := 175) rfl)))))
theorem wm_972 : Cond.code (pm_yN 221) (pm_yB 221) (pm_yL 221) (pm_yR 221) ∈ lw_tbl := List.mem_append_right _ (List.mem_append_right _ (List.mem_append_right _ (List.mem_append_right _ (List.mem_append_right _ (List.mem_of_getElem? (i := 179) rfl)))))
theorem wm_973 : Cond.code (pm_yN 222) (pm_yB 222) (pm_yL 222) (pm_yR 222) ∈ lw_tbl := List.mem_append_right _ (List.mem_append_right _ (List.mem_append_right _ (List.mem_append_right _ (List.mem_append_right _ (List.mem_of_getElem? (i := 188) rfl)))))
theorem wm_974 : Cond.code (pm_yN 223) (pm_yB 223) (pm_yL 223) (pm_yR 223) ∈ lw_tbl := List.mem_append_right _ (List.mem_append_right _ (List.mem_append_right _ (List.mem_append_right _ (List.mem_append_right _ (List.mem_of_getElem? (i := 183) rfl)))))
theorem wm_975 : Cond.code (pm_yN 224) (pm_yB 224) (pm_yL 224) (pm_yR 224) ∈ lw_tbl := List.mem_append_right _ (List.mem_append_right _ (List.mem_append_left _ (List.mem_of_getElem? (i := 233) rfl)))
theorem wm_976 : Cond.instanceMethod objectInit ∈ lw_tbl := List.mem_append_right _ (List.mem_append_left _ (List.mem_of_getElem? (i := 17) rfl))
theorem wm_977 : Cond.code objectInit ⟨#[0xb1]⟩ 1 none ∈ lw_tbl := List.mem_append_right _ (List.mem_append_left _ (List.mem_of_getElem? (i := 18) rfl))
theorem wm_978 : Cond.static Lib.Math.max.name ∈ lw_tbl := List.mem_append_right _ (List.mem_append_right _ (List.mem_append_left _ (List.mem_of_getElem? (i := 101) rfl)))
theorem wm_979 : Cond.code Lib.Math.max.name Lib.Math.max.code 2 (some .int) ∈ lw_tbl := List.mem_append_right _ (List.mem_append_right _ (List.mem_append_left _ (List.mem_of_getElem? (i := 102) rfl)))
theorem wm_980 : Cond.static Lib.Math.min.name ∈ lw_tbl := List.mem_append_right _ (List.mem_append_right _ (List.mem_append_left _ (List.mem_of_getElem? (i := 98) rfl)))
theorem wm_981 : Cond.code Lib.Math.min.name Lib.Math.min.code 2 (some .int) ∈ lw_tbl := List.mem_append_right _ (List.mem_append_right _ (List.mem_append_left _ (List.mem_of_getElem? (i := 99) rfl)))
theorem wm_982 : Cond.static Lib.Math.abs.name ∈ lw_tbl := List.mem_append_right _ (List.mem_append_right _ (List.mem_append_left _ (List.mem_of_getElem? (i := 129) rfl)))
theorem wm_983 : Cond.code Lib.Math.abs.name Lib.Math.abs.code 1 (some .int) ∈ lw_tbl := List.mem_append_right _ (List.mem_append_right _ (List.mem_append_left _ (List.mem_of_getElem? (i := 130) rfl)))
theorem wm_984 : Cond.initialized "java/lang/Math" ∈ lw_tbl := List.mem_append_right _ (List.mem_append_left _ (List.mem_of_getElem? (i := 9) rfl))
theorem wm_985 : Cond.initialized "java/lang/System" ∈ lw_tbl := List.mem_append_right _ (List.mem_append_left _ (List.mem_of_getElem? (i := 7) rfl))
theorem wm_986 : Cond.native arraycopyName ∈ lw_tbl := List.mem_append_right _ (List.mem_append_left _ (List.mem_of_getElem? (i := 223) rfl))
theorem wm_987 : Cond.static arraycopyName ∈ lw_tbl := List.mem_append_right _ (List.mem_append_left _ (List.mem_of_getElem? (i := 222) rfl))
theorem wm_988 : Cond.arrayClass .int ∈ lw_tbl := List.mem_append_right _ (List.mem_append_left _ (List.mem_of_getElem? (i := 68) rfl))
theorem wm_989 : Cond.arrayClass .boolean ∈ lw_tbl := List.mem_append_right _ (List.mem_append_right _ (List.mem_append_right _ (List.mem_append_right _ (List.mem_append_left _ (List.mem_of_getElem? (i := 61) rfl)))))
theorem wm_990 : Cond.arrayOver (.object RX2) ∈ lw_tbl := List.mem_append_right _ (List.mem_append_left _ (List.mem_of_getElem? (i := 20) rfl))
theorem wm_991 : Cond.arrayOver (.object RX0) ∈ lw_tbl := List.mem_append_right _ (List.mem_append_left _ (List.mem_of_getElem? (i := 87) rfl))
theorem wm_992 : Cond.constant RJ6 265 (1431655765) ∈ lw_tbl := List.mem_append_right _ (List.mem_append_right _ (List.mem_append_left _ (List.mem_of_getElem? (i := 234) rfl)))
theorem wm_993 : Cond.constant RJ6 266 (858993459) ∈ lw_tbl := List.mem_append_right _ (List.mem_append_right _ (List.mem_append_left _ (List.mem_of_getElem? (i := 235) rfl)))
theorem wm_994 : Cond.constant RJ6 267 (252645135) ∈ lw_tbl := List.mem_append_right _ (List.mem_append_right _ (List.mem_append_left _ (List.mem_of_getElem? (i := 236) rfl)))
theorem wm_995 : Cond.constantLong RX5 374 (12) ∈ lw_tbl := List.mem_append_right _ (List.mem_append_right _ (List.mem_append_right _ (List.mem_append_left _ (List.mem_of_getElem? (i := 135) rfl))))
theorem wm_996 : Cond.constantLong RX5 267 (2147483647) ∈ lw_tbl := List.mem_append_right _ (List.mem_append_right _ (List.mem_append_right _ (List.mem_append_left _ (List.mem_of_getElem? (i := 144) rfl))))
theorem wm_997 : Cond.constantLong RX5 269 (48271) ∈ lw_tbl := List.mem_append_right _ (List.mem_append_right _ (List.mem_append_right _ (List.mem_append_left _ (List.mem_of_getElem? (i := 145) rfl))))
theorem wm_998 : Cond.constantLong RX5 354 (8) ∈ lw_tbl := List.mem_append_right _ (List.mem_append_right _ (List.mem_append_right _ (List.mem_append_left _ (List.mem_of_getElem? (i := 150) rfl))))
theorem wm_999 : Cond.constantLong RX5 356 (64) ∈ lw_tbl := List.mem_append_right _ (List.mem_append_right _ (List.mem_append_right _ (List.mem_append_left _ (List.mem_of_getElem? (i := 151) rfl))))
theorem wm_1000 : Cond.constantLong RX5 303 (17) ∈ lw_tbl := List.mem_append_right _ (List.mem_append_right _ (List.mem_append_right _ (List.mem_append_left _ (List.mem_of_getElem? (i := 196) rfl))))
theorem wm_1001 : Cond.constantLong RX5 305 (31) ∈ lw_tbl := List.mem_append_right _ (List.mem_append_right _ (List.mem_append_right _ (List.mem_append_left _ (List.mem_of_getElem? (i := 197) rfl))))
theorem wm_1002 : Cond.constant RX6 251 (2147483646) ∈ lw_tbl := List.mem_append_right _ (List.mem_append_right _ (List.mem_append_right _ (List.mem_append_right _ (List.mem_append_right _ (List.mem_of_getElem? (i := 132) rfl)))))
theorem wm_1003 : Cond.constantLong RX6 252 (48271) ∈ lw_tbl := List.mem_append_right _ (List.mem_append_right _ (List.mem_append_right _ (List.mem_append_right _ (List.mem_append_right _ (List.mem_of_getElem? (i := 133) rfl)))))
theorem wm_1004 : Cond.constantLong RX6 254 (2147483647) ∈ lw_tbl := List.mem_append_right _ (List.mem_append_right _ (List.mem_append_right _ (List.mem_append_right _ (List.mem_append_right _ (List.mem_of_getElem? (i := 134) rfl)))))
theorem wm_1005 : Cond.constantLong RX6 247 (8) ∈ lw_tbl := List.mem_append_right _ (List.mem_append_right _ (List.mem_append_right _ (List.mem_append_right _ (List.mem_append_right _ (List.mem_of_getElem? (i := 139) rfl)))))
theorem wm_1006 : Cond.constantLong RX6 249 (64) ∈ lw_tbl := List.mem_append_right _ (List.mem_append_right _ (List.mem_append_right _ (List.mem_append_right _ (List.mem_append_right _ (List.mem_of_getElem? (i := 140) rfl)))))
theorem wm_1007 : Cond.constantLong RX6 275 (17) ∈ lw_tbl := List.mem_append_right _ (List.mem_append_right _ (List.mem_append_right _ (List.mem_append_right _ (List.mem_append_right _ (List.mem_of_getElem? (i := 184) rfl)))))
theorem wm_1008 : Cond.constantLong RX6 273 (31) ∈ lw_tbl := List.mem_append_right _ (List.mem_append_right _ (List.mem_append_right _ (List.mem_append_right _ (List.mem_append_right _ (List.mem_of_getElem? (i := 185) rfl)))))
theorem wm_1009 : Cond.classLink RL 7 RX5 ∈ lw_tbl := List.mem_append_right _ (List.mem_append_left _ (List.mem_of_getElem? (i := 11) rfl))
theorem wm_1010 : Cond.instantiable RX5 13 ∈ lw_tbl := List.mem_append_right _ (List.mem_append_left _ (List.mem_of_getElem? (i := 12) rfl))
theorem wm_1011 : Cond.classLink RX5 9 RX2 ∈ lw_tbl := List.mem_append_right _ (List.mem_append_left _ (List.mem_of_getElem? (i := 19) rfl))
theorem wm_1012 : Cond.instantiable RX2 2 ∈ lw_tbl := List.mem_append_right _ (List.mem_append_left _ (List.mem_of_getElem? (i := 110) rfl))
theorem wm_1013 : Cond.classLink RX5 18 RX0 ∈ lw_tbl := List.mem_append_right _ (List.mem_append_left _ (List.mem_of_getElem? (i := 21) rfl))
theorem wm_1014 : Cond.instantiable RX0 5 ∈ lw_tbl := List.mem_append_right _ (List.mem_append_left _ (List.mem_of_getElem? (i := 22) rfl))
theorem wm_1015 : Cond.classLink RX0 9 RX4 ∈ lw_tbl := List.mem_append_right _ (List.mem_append_left _ (List.mem_of_getElem? (i := 27) rfl))
theorem wm_1016 : Cond.instantiable RX4 6 ∈ lw_tbl := List.mem_append_right _ (List.mem_append_left _ (List.mem_of_getElem? (i := 28) rfl))
theorem wm_1017 : Cond.classLink RX5 29 RX4 ∈ lw_tbl := List.mem_append_right _ (List.mem_append_left _ (List.mem_of_getElem? (i := 88) rfl))
theorem wm_1018 : Cond.classLink RX5 36 RX3 ∈ lw_tbl := List.mem_append_right _ (List.mem_append_left _ (List.mem_of_getElem? (i := 90) rfl))
theorem wm_1019 : Cond.instantiable RX3 4 ∈ lw_tbl := List.mem_append_right _ (List.mem_append_left _ (List.mem_of_getElem? (i := 91) rfl))
theorem wm_1020 : Cond.classLink RL 10 RX6 ∈ lw_tbl := List.mem_append_right _ (List.mem_append_right _ (List.mem_append_right _ (List.mem_append_left _ (List.mem_of_getElem? (i := 206) rfl))))
theorem wm_1021 : Cond.instantiable RX6 28 ∈ lw_tbl := List.mem_append_right _ (List.mem_append_right _ (List.mem_append_right _ (List.mem_append_left _ (List.mem_of_getElem? (i := 207) rfl))))
theorem wm_1022 : Cond.laysFinal RX0 "SluiceLevels$Bridge" "now" "LSluiceLevels$Stand;" ∈ lw_tbl := List.mem_append_right _ (List.mem_append_left _ (List.mem_of_getElem? (i := 76) rfl))
theorem wm_1023 : Cond.laysFinal RX0 "SluiceLevels$Bridge" "pastLevels" "[I" ∈ lw_tbl := List.mem_append_right _ (List.mem_append_left _ (List.mem_of_getElem? (i := 78) rfl))
theorem wm_1024 : Cond.laysFinal RX0 "SluiceLevels$Bridge" "pastOpen" "[I" ∈ lw_tbl := List.mem_append_right _ (List.mem_append_left _ (List.mem_of_getElem? (i := 80) rfl))
theorem wm_1025 : Cond.laysFinal RX0 "SluiceLevels$Bridge" "pastNumbers" "[I" ∈ lw_tbl := List.mem_append_right _ (List.mem_append_left _ (List.mem_of_getElem? (i := 82) rfl))
theorem wm_1026 : Cond.lays RX0 "SluiceLevels$Bridge" "deeds" "I" ∈ lw_tbl := List.mem_append_right _ (List.mem_append_left _ (List.mem_of_getElem? (i := 84) rfl))
theorem wm_1027 : Cond.laysFinal RX2 "SluiceLevels$Row" "places" "[I" ∈ lw_tbl := List.mem_append_right _ (List.mem_append_left _ (List.mem_of_getElem? (i := 121) rfl))
theorem wm_1028 : Cond.lays RX2 "SluiceLevels$Row" "size" "I" ∈ lw_tbl := List.mem_append_right _ (List.mem_append_left _ (List.mem_of_getElem? (i := 123) rfl))
theorem wm_1029 : Cond.laysFinal RX3 "SluiceLevels$SetList" "sets" "[I" ∈ lw_tbl := List.mem_append_right _ (List.mem_append_left _ (List.mem_of_getElem? (i := 101) rfl))
theorem wm_1030 : Cond.laysFinal RX3 "SluiceLevels$SetList" "levelsBehind" "[I" ∈ lw_tbl := List.mem_append_right _ (List.mem_append_left _ (List.mem_of_getElem? (i := 103) rfl))
theorem wm_1031 : Cond.laysFinal RX3 "SluiceLevels$SetList" "tally" "[I" ∈ lw_tbl := List.mem_append_right _ (List.mem_append_left _ (List.mem_of_getElem? (i := 105) rfl))
theorem wm_1032 : Cond.lays RX3 "SluiceLevels$SetList" "size" "I" ∈ lw_tbl := List.mem_append_right _ (List.mem_append_left _ (List.mem_of_getElem? (i := 107) rfl))
theorem wm_1033 : Cond.laysFinal RX4 "SluiceLevels$Stand" "kindOf" "[I" ∈ lw_tbl := List.mem_append_right _ (List.mem_append_left _ (List.mem_of_getElem? (i := 55) rfl))
theorem wm_1034 : Cond.laysFinal RX4 "SluiceLevels$Stand" "widthOf" "[I" ∈ lw_tbl := List.mem_append_right _ (List.mem_append_left _ (List.mem_of_getElem? (i := 57) rfl))
theorem wm_1035 : Cond.laysFinal RX4 "SluiceLevels$Stand" "levelOf" "[I" ∈ lw_tbl := List.mem_append_right _ (List.mem_append_left _ (List.mem_of_getElem? (i := 59) rfl))
theorem wm_1036 : Cond.lays RX4 "SluiceLevels$Stand" "gates" "I" ∈ lw_tbl := List.mem_append_right _ (List.mem_append_left _ (List.mem_of_getElem? (i := 61) rfl))
theorem wm_1037 : Cond.lays RX4 "SluiceLevels$Stand" "open" "I" ∈ lw_tbl := List.mem_append_right _ (List.mem_append_left _ (List.mem_of_getElem? (i := 63) rfl))
theorem wm_1038 : Cond.lays RX4 "SluiceLevels$Stand" "number" "I" ∈ lw_tbl := List.mem_append_right _ (List.mem_append_left _ (List.mem_of_getElem? (i := 65) rfl))
theorem wm_1039 : Cond.laysFinal RX5 "SluiceLevels" "rows" "[LSluiceLevels$Row;" ∈ lw_tbl := List.mem_append_right _ (List.mem_append_left _ (List.mem_of_getElem? (i := 139) rfl))
theorem wm_1040 : Cond.laysFinal RX5 "SluiceLevels" "texts" "[LSluiceLevels$Row;" ∈ lw_tbl := List.mem_append_right _ (List.mem_append_left _ (List.mem_of_getElem? (i := 141) rfl))
theorem wm_1041 : Cond.laysFinal RX5 "SluiceLevels" "bridge" "LSluiceLevels$Bridge;" ∈ lw_tbl := List.mem_append_right _ (List.mem_append_left _ (List.mem_of_getElem? (i := 143) rfl))
theorem wm_1042 : Cond.laysFinal RX5 "SluiceLevels" "kept" "[LSluiceLevels$Bridge;" ∈ lw_tbl := List.mem_append_right _ (List.mem_append_left _ (List.mem_of_getElem? (i := 145) rfl))
theorem wm_1043 : Cond.laysFinal RX5 "SluiceLevels" "aside" "LSluiceLevels$Stand;" ∈ lw_tbl := List.mem_append_right _ (List.mem_append_left _ (List.mem_of_getElem? (i := 147) rfl))
theorem wm_1044 : Cond.laysFinal RX5 "SluiceLevels" "found" "LSluiceLevels$SetList;" ∈ lw_tbl := List.mem_append_right _ (List.mem_append_left _ (List.mem_of_getElem? (i := 149) rfl))
theorem wm_1045 : Cond.laysFinal RX5 "SluiceLevels" "outcomes" "[I" ∈ lw_tbl := List.mem_append_right _ (List.mem_append_left _ (List.mem_of_getElem? (i := 151) rfl))
theorem wm_1046 : Cond.laysFinal RX5 "SluiceLevels" "outcomesAhead" "[I" ∈ lw_tbl := List.mem_append_right _ (List.mem_append_left _ (List.mem_of_getElem? (i := 153) rfl))
theorem wm_1047 : Cond.laysFinal RX5 "SluiceLevels" "timesFound" "[I" ∈ lw_tbl := List.mem_append_right _ (List.mem_append_left _ (List.mem_of_getElem? (i := 155) rfl))
theorem wm_1048 : Cond.lays RX5 "SluiceLevels" "latestFinding" "I" ∈ lw_tbl := List.mem_append_right _ (List.mem_append_left _ (List.mem_of_getElem? (i := 157) rfl))
theorem wm_1049 : Cond.lays RX5 "SluiceLevels" "told" "I" ∈ lw_tbl := List.mem_append_right _ (List.mem_append_left _ (List.mem_of_getElem? (i := 159) rfl))
theorem wm_1050 : Cond.lays RX5 "SluiceLevels" "upperTold" "J" ∈ lw_tbl := List.mem_append_right _ (List.mem_append_left _ (List.mem_of_getElem? (i := 161) rfl))
theorem wm_1051 : Cond.lays RX5 "SluiceLevels" "lowerTold" "J" ∈ lw_tbl := List.mem_append_right _ (List.mem_append_left _ (List.mem_of_getElem? (i := 163) rfl))
theorem wm_1052 : Cond.laysFinal RX6 "SluiceLevelsModel" "sizes" "[I" ∈ lw_tbl := List.mem_append_right _ (List.mem_append_right _ (List.mem_append_right _ (List.mem_append_right _ (List.mem_append_left _ (List.mem_of_getElem? (i := 4) rfl)))))
theorem wm_1053 : Cond.laysFinal RX6 "SluiceLevelsModel" "ints" "[I" ∈ lw_tbl := List.mem_append_right _ (List.mem_append_right _ (List.mem_append_right _ (List.mem_append_right _ (List.mem_append_left _ (List.mem_of_getElem? (i := 6) rfl)))))
theorem wm_1054 : Cond.laysFinal RX6 "SluiceLevelsModel" "textSizes" "[I" ∈ lw_tbl := List.mem_append_right _ (List.mem_append_right _ (List.mem_append_right _ (List.mem_append_right _ (List.mem_append_left _ (List.mem_of_getElem? (i := 8) rfl)))))
theorem wm_1055 : Cond.laysFinal RX6 "SluiceLevelsModel" "letters" "[I" ∈ lw_tbl := List.mem_append_right _ (List.mem_append_right _ (List.mem_append_right _ (List.mem_append_right _ (List.mem_append_left _ (List.mem_of_getElem? (i := 10) rfl)))))
theorem wm_1056 : Cond.lays RX6 "SluiceLevelsModel" "gates" "I" ∈ lw_tbl := List.mem_append_right _ (List.mem_append_right _ (List.mem_append_right _ (List.mem_append_right _ (List.mem_append_left _ (List.mem_of_getElem? (i := 12) rfl)))))
theorem wm_1057 : Cond.laysFinal RX6 "SluiceLevelsModel" "kind" "[I" ∈ lw_tbl := List.mem_append_right _ (List.mem_append_right _ (List.mem_append_right _ (List.mem_append_right _ (List.mem_append_left _ (List.mem_of_getElem? (i := 14) rfl)))))
theorem wm_1058 : Cond.laysFinal RX6 "SluiceLevelsModel" "width" "[I" ∈ lw_tbl := List.mem_append_right _ (List.mem_append_right _ (List.mem_append_right _ (List.mem_append_right _ (List.mem_append_left _ (List.mem_of_getElem? (i := 16) rfl)))))
theorem wm_1059 : Cond.laysFinal RX6 "SluiceLevelsModel" "st" "[I" ∈ lw_tbl := List.mem_append_right _ (List.mem_append_right _ (List.mem_append_right _ (List.mem_append_right _ (List.mem_append_left _ (List.mem_of_getElem? (i := 18) rfl)))))
theorem wm_1060 : Cond.lays RX6 "SluiceLevelsModel" "deeds" "I" ∈ lw_tbl := List.mem_append_right _ (List.mem_append_right _ (List.mem_append_right _ (List.mem_append_right _ (List.mem_append_left _ (List.mem_of_getElem? (i := 20) rfl)))))
theorem wm_1061 : Cond.laysFinal RX6 "SluiceLevelsModel" "book" "[I" ∈ lw_tbl := List.mem_append_right _ (List.mem_append_right _ (List.mem_append_right _ (List.mem_append_right _ (List.mem_append_left _ (List.mem_of_getElem? (i := 22) rfl)))))
theorem wm_1062 : Cond.laysFinal RX6 "SluiceLevelsModel" "kept" "[I" ∈ lw_tbl := List.mem_append_right _ (List.mem_append_right _ (List.mem_append_right _ (List.mem_append_right _ (List.mem_append_left _ (List.mem_of_getElem? (i := 24) rfl)))))
theorem wm_1063 : Cond.lays RX6 "SluiceLevelsModel" "told" "I" ∈ lw_tbl := List.mem_append_right _ (List.mem_append_right _ (List.mem_append_right _ (List.mem_append_right _ (List.mem_append_left _ (List.mem_of_getElem? (i := 26) rfl)))))
theorem wm_1064 : Cond.lays RX6 "SluiceLevelsModel" "above" "J" ∈ lw_tbl := List.mem_append_right _ (List.mem_append_right _ (List.mem_append_right _ (List.mem_append_right _ (List.mem_append_left _ (List.mem_of_getElem? (i := 28) rfl)))))
theorem wm_1065 : Cond.lays RX6 "SluiceLevelsModel" "below" "J" ∈ lw_tbl := List.mem_append_right _ (List.mem_append_right _ (List.mem_append_right _ (List.mem_append_right _ (List.mem_append_left _ (List.mem_of_getElem? (i := 30) rfl)))))
theorem wm_1066 : Cond.lays RX6 "SluiceLevelsModel" "found" "I" ∈ lw_tbl := List.mem_append_right _ (List.mem_append_right _ (List.mem_append_right _ (List.mem_append_right _ (List.mem_append_left _ (List.mem_of_getElem? (i := 32) rfl)))))
theorem wm_1067 : Cond.laysFinal RX6 "SluiceLevelsModel" "often" "[I" ∈ lw_tbl := List.mem_append_right _ (List.mem_append_right _ (List.mem_append_right _ (List.mem_append_right _ (List.mem_append_left _ (List.mem_of_getElem? (i := 34) rfl)))))
theorem wm_1068 : Cond.lays RX6 "SluiceLevelsModel" "textAt" "I" ∈ lw_tbl := List.mem_append_right _ (List.mem_append_right _ (List.mem_append_right _ (List.mem_append_right _ (List.mem_append_left _ (List.mem_of_getElem? (i := 36) rfl)))))
theorem wm_1069 : Cond.lays RX6 "SluiceLevelsModel" "place" "I" ∈ lw_tbl := List.mem_append_right _ (List.mem_append_right _ (List.mem_append_right _ (List.mem_append_right _ (List.mem_append_left _ (List.mem_of_getElem? (i := 38) rfl)))))
theorem wm_1070 : Cond.lays RX6 "SluiceLevelsModel" "wrong" "I" ∈ lw_tbl := List.mem_append_right _ (List.mem_append_right _ (List.mem_append_right _ (List.mem_append_right _ (List.mem_append_left _ (List.mem_of_getElem? (i := 40) rfl)))))
theorem wm_1071 : Cond.lays RX6 "SluiceLevelsModel" "readGates" "I" ∈ lw_tbl := List.mem_append_right _ (List.mem_append_right _ (List.mem_append_right _ (List.mem_append_right _ (List.mem_append_left _ (List.mem_of_getElem? (i := 42) rfl)))))
theorem wm_1072 : Cond.laysFinal RX6 "SluiceLevelsModel" "readKind" "[I" ∈ lw_tbl := List.mem_append_right _ (List.mem_append_right _ (List.mem_append_right _ (List.mem_append_right _ (List.mem_append_left _ (List.mem_of_getElem? (i := 44) rfl)))))
theorem wm_1073 : Cond.laysFinal RX6 "SluiceLevelsModel" "readWidth" "[I" ∈ lw_tbl := List.mem_append_right _ (List.mem_append_right _ (List.mem_append_right _ (List.mem_append_right _ (List.mem_append_left _ (List.mem_of_getElem? (i := 46) rfl)))))
theorem wm_1074 : Cond.laysFinal RX6 "SluiceLevelsModel" "readSt" "[I" ∈ lw_tbl := List.mem_append_right _ (List.mem_append_right _ (List.mem_append_right _ (List.mem_append_right _ (List.mem_append_left _ (List.mem_of_getElem? (i := 48) rfl)))))
theorem wm_1075 : Cond.laysFinal RX6 "SluiceLevelsModel" "now" "[I" ∈ lw_tbl := List.mem_append_right _ (List.mem_append_right _ (List.mem_append_right _ (List.mem_append_right _ (List.mem_append_left _ (List.mem_of_getElem? (i := 50) rfl)))))
theorem wm_1076 : Cond.laysFinal RX6 "SluiceLevelsModel" "fits" "[Z" ∈ lw_tbl := List.mem_append_right _ (List.mem_append_right _ (List.mem_append_right _ (List.mem_append_right _ (List.mem_append_left _ (List.mem_of_getElem? (i := 52) rfl)))))
theorem wm_1077 : Cond.laysFinal RX6 "SluiceLevelsModel" "behind" "[I" ∈ lw_tbl := List.mem_append_right _ (List.mem_append_right _ (List.mem_append_right _ (List.mem_append_right _ (List.mem_append_left _ (List.mem_of_getElem? (i := 54) rfl)))))
theorem wm_1078 : Cond.lays RX6 "SluiceLevelsModel" "fitting" "I" ∈ lw_tbl := List.mem_append_right _ (List.mem_append_right _ (List.mem_append_right _ (List.mem_append_right _ (List.mem_append_left _ (List.mem_of_getElem? (i := 56) rfl)))))
theorem wm_1079 : Cond.laysFinal RX6 "SluiceLevelsModel" "worth" "[I" ∈ lw_tbl := List.mem_append_right _ (List.mem_append_right _ (List.mem_append_right _ (List.mem_append_right _ (List.mem_append_left _ (List.mem_of_getElem? (i := 58) rfl)))))
theorem wm_1080 : Cond.laysStatic RX5 "LETTERS" "[I" ∈ lw_tbl := List.mem_append_right _ (List.mem_append_right _ (List.mem_append_left _ (List.mem_of_getElem? (i := 31) rfl)))
theorem wm_1081 : Cond.laysStatic RX5 "KIND_ABOVE" "[I" ∈ lw_tbl := List.mem_append_right _ (List.mem_append_right _ (List.mem_append_left _ (List.mem_of_getElem? (i := 123) rfl)))
theorem wm_1082 : Cond.fieldLinkNest RX1 25 "SluiceLevels" "LETTERS" "[I" "SluiceLevels" ∈ lw_tbl := List.mem_append_right _ (List.mem_append_right _ (List.mem_append_left _ (List.mem_of_getElem? (i := 30) rfl)))
theorem wm_1083 : Cond.fieldLink RX5 341 "SluiceLevels" "KIND_ABOVE" "[I" ∈ lw_tbl := List.mem_append_right _ (List.mem_append_right _ (List.mem_append_left _ (List.mem_of_getElem? (i := 122) rfl)))
def pm_fok (e : Nat × Nat × Nat × Nat) : Prop := ∃ (C : String) (T : u_T) (N : Nat), vwCl[e.2.2.1]? = some (C, T, N) ∧ e.2.2.2 < N ∧ (T e.2.2.2).1 = C ∧ Cond.fieldLink (pm_R e.1) e.2.1 C (T e.2.2.2).2.1 (T e.2.2.2).2.2.1 ∈ lw_tbl
def pm_flT_0 : List (Nat × Nat × Nat × Nat) := [(0, 12, 0, 0), (0, 18, 0, 1), (0, 22, 0, 2), (0, 25, 0, 3), (0, 28, 3, 3), (0, 32, 0, 4), (0, 49, 3, 2), (0, 52, 3, 4), (0, 55, 3, 5), (1, 9, 1, 1), (1, 15, 1, 0), (1, 40, 3, 0), (1, 45, 3, 1), (1, 48, 3, 4), (1, 51, 3, 2), (1, 54, 3, 3), (1, 60, 3, 5), (2, 9, 1, 1), (2, 15, 1, 0), (3, 9, 2, 0), (3, 15, 2, 1), (3, 18, 2, 2), (3, 21, 2, 3), (4, 9, 3, 0), (4, 15, 3, 1), (4, 18, 3, 2), (4, 27, 3, 3), (4, 31, 3, 4), (4, 34, 3, 5), (5, 11, 4, 0), (5, 15, 4, 1), (5, 21, 4, 2), (5, 25, 4, 3), (5, 32, 4, 4), (5, 39, 4, 5), (5, 43, 4, 6), (5, 47, 4, 7), (5, 50, 4, 8), (5, 53, 4, 12), (5, 72, 1, 0)]
theorem pm_flT_0_ok : ∀ e ∈ pm_flT_0, pm_fok e := List.forall_mem_cons.mpr ⟨⟨RX0, TX0, 5, rfl, by decide, rfl, wm_0⟩, List.forall_mem_cons.mpr ⟨⟨RX0, TX0, 5, rfl, by decide, rfl, wm_1⟩, List.forall_mem_cons.mpr ⟨⟨RX0, TX0, 5, rfl, by decide, rfl, wm_2⟩, List.forall_mem_cons.mpr ⟨⟨RX0, TX0, 5, rfl, by decide, rfl, wm_3⟩, List.forall_mem_cons.mpr ⟨⟨RX4, TX4, 6, rfl, by decide, rfl, wm_4⟩, List.forall_mem_cons.mpr ⟨⟨RX0, TX0, 5, rfl, by decide, rfl, wm_5⟩, List.forall_mem_cons.mpr ⟨⟨RX4, TX4, 6, rfl, by decide, rfl, wm_6⟩, List.forall_mem_cons.mpr ⟨⟨RX4, TX4, 6, rfl, by decide, rfl, wm_7⟩, List.forall_mem_cons.mpr ⟨⟨RX4, TX4, 6, rfl, by decide, rfl, wm_8⟩, List.forall_mem_cons.mpr ⟨⟨RX2, TX2, 2, rfl, by decide, rfl, wm_9⟩, List.forall_mem_cons.mpr ⟨⟨RX2, TX2, 2, rfl, by decide, rfl, wm_10⟩, List.forall_mem_cons.mpr ⟨⟨RX4, TX4, 6, rfl, by decide, rfl, wm_11⟩, List.forall_mem_cons.mpr ⟨⟨RX4, TX4, 6, rfl, by decide, rfl, wm_12⟩, List.forall_mem_cons.mpr ⟨⟨RX4, TX4, 6, rfl, by decide, rfl, wm_13⟩, List.forall_mem_cons.mpr ⟨⟨RX4, TX4, 6, rfl, by decide, rfl, wm_14⟩, List.forall_mem_cons.mpr ⟨⟨RX4, TX4, 6, rfl, by decide, rfl, wm_15⟩, List.forall_mem_cons.mpr ⟨⟨RX4, TX4, 6, rfl, by decide, rfl, wm_16⟩, List.forall_mem_cons.mpr ⟨⟨RX2, TX2, 2, rfl, by decide, rfl, wm_17⟩, List.forall_mem_cons.mpr ⟨⟨RX2, TX2, 2, rfl, by decide, rfl, wm_18⟩, List.forall_mem_cons.mpr ⟨⟨RX3, TX3, 4, rfl, by decide, rfl, wm_19⟩, List.forall_mem_cons.mpr ⟨⟨RX3, TX3, 4, rfl, by decide, rfl, wm_20⟩, List.forall_mem_cons.mpr ⟨⟨RX3, TX3, 4, rfl, by decide, rfl, wm_21⟩, List.forall_mem_cons.mpr ⟨⟨RX3, TX3, 4, rfl, by decide, rfl, wm_22⟩, List.forall_mem_cons.mpr ⟨⟨RX4, TX4, 6, rfl, by decide, rfl, wm_23⟩, List.forall_mem_cons.mpr ⟨⟨RX4, TX4, 6, rfl, by decide, rfl, wm_24⟩, List.forall_mem_cons.mpr ⟨⟨RX4, TX4, 6, rfl, by decide, rfl, wm_25⟩, List.forall_mem_cons.mpr ⟨⟨RX4, TX4, 6, rfl, by decide, rfl, wm_26⟩, List.forall_mem_cons.mpr ⟨⟨RX4, TX4, 6, rfl, by decide, rfl, wm_27⟩, List.forall_mem_cons.mpr ⟨⟨RX4, TX4, 6, rfl, by decide, rfl, wm_28⟩, List.forall_mem_cons.mpr ⟨⟨RX5, TX5, 13, rfl, by decide, rfl, wm_29⟩, List.forall_mem_cons.mpr ⟨⟨RX5, TX5, 13, rfl, by decide, rfl, wm_30⟩, List.forall_mem_cons.mpr ⟨⟨RX5, TX5, 13, rfl, by decide, rfl, wm_31⟩, List.forall_mem_cons.mpr ⟨⟨RX5, TX5, 13, rfl, by decide, rfl, wm_32⟩, List.forall_mem_cons.mpr ⟨⟨RX5, TX5, 13, rfl, by decide, rfl, wm_33⟩, List.forall_mem_cons.mpr ⟨⟨RX5, TX5, 13, rfl, by decide, rfl, wm_34⟩, List.forall_mem_cons.mpr ⟨⟨RX5, TX5, 13, rfl, by decide, rfl, wm_35⟩, List.forall_mem_cons.mpr ⟨⟨RX5, TX5, 13, rfl, by decide, rfl, wm_36⟩, List.forall_mem_cons.mpr ⟨⟨RX5, TX5, 13, rfl, by decide, rfl, wm_37⟩, List.forall_mem_cons.mpr ⟨⟨RX5, TX5, 13, rfl, by decide, rfl, wm_38⟩, List.forall_mem_cons.mpr ⟨⟨RX2, TX2, 2, rfl, by decide, rfl, wm_39⟩, fun _ h => absurd h List.not_mem_nil⟩⟩⟩⟩⟩⟩⟩⟩⟩⟩⟩⟩⟩⟩⟩⟩⟩⟩⟩⟩⟩⟩⟩⟩⟩⟩⟩⟩⟩⟩⟩⟩⟩⟩⟩⟩⟩⟩⟩⟩
def pm_flT_1 : List (Nat × Nat × Nat × Nat) := [(5, 86, 1, 1), (5, 113, 0, 0), (5, 116, 3, 3), (5, 123, 3, 2), (5, 133, 3, 0), (5, 154, 3, 4), (5, 164, 0, 4), (5, 180, 3, 1), (5, 219, 2, 3), (5, 275, 4, 10), (5, 278, 4, 11), (5, 281, 3, 5), (5, 300, 4, 9), (6, 7, 5, 0), (6, 13, 5, 1), (6, 16, 5, 2), (6, 19, 5, 3), (6, 22, 5, 5), (6, 25, 5, 6), (6, 28, 5, 7), (6, 31, 5, 9), (6, 34, 5, 10), (6, 37, 5, 13), (6, 41, 5, 15), (6, 44, 5, 20), (6, 47, 5, 21), (6, 50, 5, 22), (6, 53, 5, 23), (6, 56, 5, 24), (6, 60, 5, 25), (6, 63, 5, 27), (6, 69, 5, 14), (6, 73, 5, 11), (6, 80, 5, 4), (6, 100, 5, 17), (6, 103, 5, 16), (6, 110, 5, 18), (6, 120, 5, 19), (6, 139, 5, 8), (6, 202, 5, 26)]
theorem pm_flT_1_ok : ∀ e ∈ pm_flT_1, pm_fok e := List.forall_mem_cons.mpr ⟨⟨RX2, TX2, 2, rfl, by decide, rfl, wm_40⟩, List.forall_mem_cons.mpr ⟨⟨RX0, TX0, 5, rfl, by decide, rfl, wm_41⟩, List.forall_mem_cons.mpr ⟨⟨RX4, TX4, 6, rfl, by decide, rfl, wm_42⟩, List.forall_mem_cons.mpr ⟨⟨RX4, TX4, 6, rfl, by decide, rfl, wm_43⟩, List.forall_mem_cons.mpr ⟨⟨RX4, TX4, 6, rfl, by decide, rfl, wm_44⟩, List.forall_mem_cons.mpr ⟨⟨RX4, TX4, 6, rfl, by decide, rfl, wm_45⟩, List.forall_mem_cons.mpr ⟨⟨RX0, TX0, 5, rfl, by decide, rfl, wm_46⟩, List.forall_mem_cons.mpr ⟨⟨RX4, TX4, 6, rfl, by decide, rfl, wm_47⟩, List.forall_mem_cons.mpr ⟨⟨RX3, TX3, 4, rfl, by decide, rfl, wm_48⟩, List.forall_mem_cons.mpr ⟨⟨RX5, TX5, 13, rfl, by decide, rfl, wm_49⟩, List.forall_mem_cons.mpr ⟨⟨RX5, TX5, 13, rfl, by decide, rfl, wm_50⟩, List.forall_mem_cons.mpr ⟨⟨RX4, TX4, 6, rfl, by decide, rfl, wm_51⟩, List.forall_mem_cons.mpr ⟨⟨RX5, TX5, 13, rfl, by decide, rfl, wm_52⟩, List.forall_mem_cons.mpr ⟨⟨RX6, TX6, 28, rfl, by decide, rfl, wm_53⟩, List.forall_mem_cons.mpr ⟨⟨RX6, TX6, 28, rfl, by decide, rfl, wm_54⟩, List.forall_mem_cons.mpr ⟨⟨RX6, TX6, 28, rfl, by decide, rfl, wm_55⟩, List.forall_mem_cons.mpr ⟨⟨RX6, TX6, 28, rfl, by decide, rfl, wm_56⟩, List.forall_mem_cons.mpr ⟨⟨RX6, TX6, 28, rfl, by decide, rfl, wm_57⟩, List.forall_mem_cons.mpr ⟨⟨RX6, TX6, 28, rfl, by decide, rfl, wm_58⟩, List.forall_mem_cons.mpr ⟨⟨RX6, TX6, 28, rfl, by decide, rfl, wm_59⟩, List.forall_mem_cons.mpr ⟨⟨RX6, TX6, 28, rfl, by decide, rfl, wm_60⟩, List.forall_mem_cons.mpr ⟨⟨RX6, TX6, 28, rfl, by decide, rfl, wm_61⟩, List.forall_mem_cons.mpr ⟨⟨RX6, TX6, 28, rfl, by decide, rfl, wm_62⟩, List.forall_mem_cons.mpr ⟨⟨RX6, TX6, 28, rfl, by decide, rfl, wm_63⟩, List.forall_mem_cons.mpr ⟨⟨RX6, TX6, 28, rfl, by decide, rfl, wm_64⟩, List.forall_mem_cons.mpr ⟨⟨RX6, TX6, 28, rfl, by decide, rfl, wm_65⟩, List.forall_mem_cons.mpr ⟨⟨RX6, TX6, 28, rfl, by decide, rfl, wm_66⟩, List.forall_mem_cons.mpr ⟨⟨RX6, TX6, 28, rfl, by decide, rfl, wm_67⟩, List.forall_mem_cons.mpr ⟨⟨RX6, TX6, 28, rfl, by decide, rfl, wm_68⟩, List.forall_mem_cons.mpr ⟨⟨RX6, TX6, 28, rfl, by decide, rfl, wm_69⟩, List.forall_mem_cons.mpr ⟨⟨RX6, TX6, 28, rfl, by decide, rfl, wm_70⟩, List.forall_mem_cons.mpr ⟨⟨RX6, TX6, 28, rfl, by decide, rfl, wm_71⟩, List.forall_mem_cons.mpr ⟨⟨RX6, TX6, 28, rfl, by decide, rfl, wm_72⟩, List.forall_mem_cons.mpr ⟨⟨RX6, TX6, 28, rfl, by decide, rfl, wm_73⟩, List.forall_mem_cons.mpr ⟨⟨RX6, TX6, 28, rfl, by decide, rfl, wm_74⟩, List.forall_mem_cons.mpr ⟨⟨RX6, TX6, 28, rfl, by decide, rfl, wm_75⟩, List.forall_mem_cons.mpr ⟨⟨RX6, TX6, 28, rfl, by decide, rfl, wm_76⟩, List.forall_mem_cons.mpr ⟨⟨RX6, TX6, 28, rfl, by decide, rfl, wm_77⟩, List.forall_mem_cons.mpr ⟨⟨RX6, TX6, 28, rfl, by decide, rfl, wm_78⟩, List.forall_mem_cons.mpr ⟨⟨RX6, TX6, 28, rfl, by decide, rfl, wm_79⟩, fun _ h => absurd h List.not_mem_nil⟩⟩⟩⟩⟩⟩⟩⟩⟩⟩⟩⟩⟩⟩⟩⟩⟩⟩⟩⟩⟩⟩⟩⟩⟩⟩⟩⟩⟩⟩⟩⟩⟩⟩⟩⟩⟩⟩⟩⟩
def pm_flT_2 : List (Nat × Nat × Nat × Nat) := [(6, 217, 5, 12)]
theorem pm_flT_2_ok : ∀ e ∈ pm_flT_2, pm_fok e := List.forall_mem_cons.mpr ⟨⟨RX6, TX6, 28, rfl, by decide, rfl, wm_80⟩, fun _ h => absurd h List.not_mem_nil⟩
def pm_flT : List (Nat × Nat × Nat × Nat) := pm_flT_0 ++ (pm_flT_1 ++ (pm_flT_2))
theorem pm_flT_ok : ∀ e ∈ pm_flT, pm_fok e := List.forall_mem_append.mpr ⟨pm_flT_0_ok, List.forall_mem_append.mpr ⟨pm_flT_1_ok, pm_flT_2_ok⟩⟩
abbrev pm_nn (y n : Nat) : Prop := (parseMethodDescriptor (pm_yN y).desc).map (fun d => d.parameters.length) = some n
def pm_mok (e : Nat × Nat × Nat × Nat × Nat) : Prop := match e.2.2.1 with
  | 0 => pm_nn e.2.2.2.1 e.2.2.2.2 ∧ Cond.methodLink (pm_R e.1) e.2.1 (pm_yN e.2.2.2.1) ∈ lw_tbl ∧ Cond.instanceMethod (pm_yN e.2.2.2.1) ∈ lw_tbl ∧ Cond.selects (pm_yN e.2.2.2.1).cls (pm_yN e.2.2.2.1) (pm_yN e.2.2.2.1) ∈ lw_tbl ∧ Cond.initialized (pm_yN e.2.2.2.1).cls ∈ lw_tbl
  | 1 => pm_nn e.2.2.2.1 e.2.2.2.2 ∧ Cond.methodLink (pm_R e.1) e.2.1 (pm_yN e.2.2.2.1) ∈ lw_tbl ∧ Cond.static (pm_yN e.2.2.2.1) ∈ lw_tbl ∧ Cond.initialized (pm_yN e.2.2.2.1).cls ∈ lw_tbl
  | 2 => pm_nn e.2.2.2.1 e.2.2.2.2 ∧ Cond.methodLink (pm_R e.1) e.2.1 (pm_yN e.2.2.2.1) ∈ lw_tbl ∧ Cond.instanceMethod (pm_yN e.2.2.2.1) ∈ lw_tbl ∧ Cond.initialized (pm_yN e.2.2.2.1).cls ∈ lw_tbl
  | 3 => pm_nn e.2.2.2.1 e.2.2.2.2 ∧ Cond.methodLinkNest (pm_R e.1) e.2.1 (pm_yN e.2.2.2.1) "SluiceLevels" ∈ lw_tbl ∧ Cond.static (pm_yN e.2.2.2.1) ∈ lw_tbl ∧ Cond.initialized (pm_yN e.2.2.2.1).cls ∈ lw_tbl
  | 4 => pm_nn e.2.2.2.1 e.2.2.2.2 ∧ Cond.methodLinkNest (pm_R e.1) e.2.1 (pm_yN e.2.2.2.1) "SluiceLevels" ∈ lw_tbl ∧ Cond.instanceMethod (pm_yN e.2.2.2.1) ∈ lw_tbl ∧ Cond.initialized (pm_yN e.2.2.2.1).cls ∈ lw_tbl
  | 5 => Cond.methodLink (pm_R e.1) e.2.1 objectInit ∈ lw_tbl
  | 6 => Cond.methodLink (pm_R e.1) e.2.1 Lib.Math.max.name ∈ lw_tbl
  | 7 => Cond.methodLink (pm_R e.1) e.2.1 Lib.Math.min.name ∈ lw_tbl
  | 8 => Cond.methodLink (pm_R e.1) e.2.1 Lib.Math.abs.name ∈ lw_tbl
  | _ => Cond.methodLink (pm_R e.1) e.2.1 arraycopyName ∈ lw_tbl
def pm_mlT_0 : List (Nat × Nat × Nat × Nat × Nat) := [(0, 3, 5, 0, 0), (0, 11, 4, 30, 0), (0, 35, 0, 31, 1), (0, 39, 9, 0, 5), (0, 45, 0, 2, 1), (1, 19, 1, 7, 2), (1, 28, 1, 8, 2), (1, 31, 1, 10, 2), (1, 34, 1, 9, 2), (1, 37, 1, 12, 2), (1, 57, 1, 11, 2), (1, 63, 1, 16, 3), (1, 67, 1, 13, 2), (1, 70, 1, 14, 4), (2, 3, 5, 0, 0), (3, 3, 5, 0, 0), (3, 25, 9, 0, 5), (3, 31, 0, 24, 1), (3, 35, 3, 115, 1), (3, 39, 6, 0, 2), (4, 3, 5, 0, 0), (4, 21, 9, 0, 5), (4, 37, 0, 36, 0), (4, 41, 0, 34, 1), (4, 45, 3, 98, 2), (4, 49, 0, 37, 0), (4, 52, 0, 38, 0), (4, 55, 3, 91, 5), (4, 59, 0, 35, 1), (4, 62, 0, 40, 1), (4, 66, 0, 41, 1), (4, 69, 7, 0, 2), (4, 75, 6, 0, 2), (4, 78, 3, 97, 2), (5, 1, 5, 0, 0), (5, 20, 4, 0, 0), (5, 31, 4, 30, 0), (5, 38, 4, 22, 0), (5, 57, 2, 17, 1), (5, 60, 1, 112, 1)]
theorem pm_mlT_0_ok : ∀ e ∈ pm_mlT_0, pm_mok e := List.forall_mem_cons.mpr ⟨wm_81, List.forall_mem_cons.mpr ⟨⟨by decide +kernel, wm_82, wm_83, wm_84⟩, List.forall_mem_cons.mpr ⟨⟨by decide +kernel, wm_85, wm_86, wm_87, wm_84⟩, List.forall_mem_cons.mpr ⟨wm_88, List.forall_mem_cons.mpr ⟨⟨by decide +kernel, wm_89, wm_90, wm_91, wm_92⟩, List.forall_mem_cons.mpr ⟨⟨by decide +kernel, wm_93, wm_94, wm_95⟩, List.forall_mem_cons.mpr ⟨⟨by decide +kernel, wm_96, wm_97, wm_95⟩, List.forall_mem_cons.mpr ⟨⟨by decide +kernel, wm_98, wm_99, wm_95⟩, List.forall_mem_cons.mpr ⟨⟨by decide +kernel, wm_100, wm_101, wm_95⟩, List.forall_mem_cons.mpr ⟨⟨by decide +kernel, wm_102, wm_103, wm_95⟩, List.forall_mem_cons.mpr ⟨⟨by decide +kernel, wm_104, wm_105, wm_95⟩, List.forall_mem_cons.mpr ⟨⟨by decide +kernel, wm_106, wm_107, wm_95⟩, List.forall_mem_cons.mpr ⟨⟨by decide +kernel, wm_108, wm_109, wm_95⟩, List.forall_mem_cons.mpr ⟨⟨by decide +kernel, wm_110, wm_111, wm_95⟩, List.forall_mem_cons.mpr ⟨wm_112, List.forall_mem_cons.mpr ⟨wm_113, List.forall_mem_cons.mpr ⟨wm_114, List.forall_mem_cons.mpr ⟨⟨by decide +kernel, wm_115, wm_116, wm_117, wm_118⟩, List.forall_mem_cons.mpr ⟨⟨by decide +kernel, wm_119, wm_120, wm_121⟩, List.forall_mem_cons.mpr ⟨wm_122, List.forall_mem_cons.mpr ⟨wm_123, List.forall_mem_cons.mpr ⟨wm_124, List.forall_mem_cons.mpr ⟨⟨by decide +kernel, wm_125, wm_126, wm_127, wm_84⟩, List.forall_mem_cons.mpr ⟨⟨by decide +kernel, wm_128, wm_129, wm_130, wm_84⟩, List.forall_mem_cons.mpr ⟨⟨by decide +kernel, wm_131, wm_132, wm_121⟩, List.forall_mem_cons.mpr ⟨⟨by decide +kernel, wm_133, wm_134, wm_135, wm_84⟩, List.forall_mem_cons.mpr ⟨⟨by decide +kernel, wm_136, wm_137, wm_138, wm_84⟩, List.forall_mem_cons.mpr ⟨⟨by decide +kernel, wm_139, wm_140, wm_121⟩, List.forall_mem_cons.mpr ⟨⟨by decide +kernel, wm_141, wm_142, wm_143, wm_84⟩, List.forall_mem_cons.mpr ⟨⟨by decide +kernel, wm_144, wm_145, wm_146, wm_84⟩, List.forall_mem_cons.mpr ⟨⟨by decide +kernel, wm_147, wm_148, wm_149, wm_84⟩, List.forall_mem_cons.mpr ⟨wm_150, List.forall_mem_cons.mpr ⟨wm_151, List.forall_mem_cons.mpr ⟨⟨by decide +kernel, wm_152, wm_153, wm_121⟩, List.forall_mem_cons.mpr ⟨wm_154, List.forall_mem_cons.mpr ⟨⟨by decide +kernel, wm_155, wm_156, wm_92⟩, List.forall_mem_cons.mpr ⟨⟨by decide +kernel, wm_157, wm_83, wm_84⟩, List.forall_mem_cons.mpr ⟨⟨by decide +kernel, wm_158, wm_159, wm_118⟩, List.forall_mem_cons.mpr ⟨⟨by decide +kernel, wm_160, wm_161, wm_162⟩, List.forall_mem_cons.mpr ⟨⟨by decide +kernel, wm_163, wm_164, wm_121⟩, fun _ h => absurd h List.not_mem_nil⟩⟩⟩⟩⟩⟩⟩⟩⟩⟩⟩⟩⟩⟩⟩⟩⟩⟩⟩⟩⟩⟩⟩⟩⟩⟩⟩⟩⟩⟩⟩⟩⟩⟩⟩⟩⟩⟩⟩⟩
def pm_mlT_1 : List (Nat × Nat × Nat × Nat × Nat) := [(5, 64, 0, 117, 3), (5, 68, 0, 118, 2), (5, 75, 0, 122, 1), (5, 79, 0, 18, 0), (5, 83, 0, 121, 1), (5, 90, 0, 20, 2), (5, 94, 9, 0, 5), (5, 100, 1, 113, 1), (5, 103, 1, 15, 2), (5, 109, 0, 3, 1), (5, 119, 0, 1, 0), (5, 120, 0, 33, 1), (5, 126, 0, 32, 1), (5, 129, 0, 99, 2), (5, 136, 1, 97, 2), (5, 139, 0, 100, 2), (5, 142, 0, 2, 1), (5, 145, 0, 5, 0), (5, 148, 0, 41, 1), (5, 151, 0, 34, 1), (5, 157, 0, 35, 1), (5, 160, 0, 101, 4), (5, 167, 0, 6, 1), (5, 170, 1, 114, 1), (5, 173, 0, 4, 1), (5, 177, 1, 115, 1), (5, 183, 1, 91, 5), (5, 187, 0, 31, 1), (5, 189, 0, 42, 1), (5, 192, 0, 38, 0), (5, 196, 0, 37, 0), (5, 199, 1, 224, 1), (5, 204, 0, 103, 3), (5, 208, 0, 45, 0), (5, 211, 0, 119, 3), (5, 215, 0, 106, 2), (5, 220, 0, 123, 2), (5, 224, 0, 26, 0), (5, 227, 0, 28, 1), (5, 230, 0, 27, 1)]
theorem pm_mlT_1_ok : ∀ e ∈ pm_mlT_1, pm_mok e := List.forall_mem_cons.mpr ⟨⟨by decide +kernel, wm_165, wm_166, wm_167, wm_121⟩, List.forall_mem_cons.mpr ⟨⟨by decide +kernel, wm_168, wm_169, wm_170, wm_121⟩, List.forall_mem_cons.mpr ⟨⟨by decide +kernel, wm_171, wm_172, wm_173, wm_121⟩, List.forall_mem_cons.mpr ⟨⟨by decide +kernel, wm_174, wm_175, wm_176, wm_162⟩, List.forall_mem_cons.mpr ⟨⟨by decide +kernel, wm_177, wm_178, wm_179, wm_121⟩, List.forall_mem_cons.mpr ⟨⟨by decide +kernel, wm_180, wm_181, wm_182, wm_162⟩, List.forall_mem_cons.mpr ⟨wm_183, List.forall_mem_cons.mpr ⟨⟨by decide +kernel, wm_184, wm_185, wm_121⟩, List.forall_mem_cons.mpr ⟨⟨by decide +kernel, wm_186, wm_187, wm_95⟩, List.forall_mem_cons.mpr ⟨⟨by decide +kernel, wm_188, wm_189, wm_190, wm_92⟩, List.forall_mem_cons.mpr ⟨⟨by decide +kernel, wm_191, wm_192, wm_193, wm_92⟩, List.forall_mem_cons.mpr ⟨⟨by decide +kernel, wm_194, wm_195, wm_196, wm_84⟩, List.forall_mem_cons.mpr ⟨⟨by decide +kernel, wm_197, wm_198, wm_199, wm_84⟩, List.forall_mem_cons.mpr ⟨⟨by decide +kernel, wm_200, wm_201, wm_202, wm_121⟩, List.forall_mem_cons.mpr ⟨⟨by decide +kernel, wm_203, wm_153, wm_121⟩, List.forall_mem_cons.mpr ⟨⟨by decide +kernel, wm_204, wm_205, wm_206, wm_121⟩, List.forall_mem_cons.mpr ⟨⟨by decide +kernel, wm_207, wm_90, wm_91, wm_92⟩, List.forall_mem_cons.mpr ⟨⟨by decide +kernel, wm_208, wm_209, wm_210, wm_92⟩, List.forall_mem_cons.mpr ⟨⟨by decide +kernel, wm_211, wm_148, wm_149, wm_84⟩, List.forall_mem_cons.mpr ⟨⟨by decide +kernel, wm_212, wm_129, wm_130, wm_84⟩, List.forall_mem_cons.mpr ⟨⟨by decide +kernel, wm_213, wm_142, wm_143, wm_84⟩, List.forall_mem_cons.mpr ⟨⟨by decide +kernel, wm_214, wm_215, wm_216, wm_121⟩, List.forall_mem_cons.mpr ⟨⟨by decide +kernel, wm_217, wm_218, wm_219, wm_92⟩, List.forall_mem_cons.mpr ⟨⟨by decide +kernel, wm_220, wm_221, wm_121⟩, List.forall_mem_cons.mpr ⟨⟨by decide +kernel, wm_222, wm_223, wm_224, wm_92⟩, List.forall_mem_cons.mpr ⟨⟨by decide +kernel, wm_225, wm_120, wm_121⟩, List.forall_mem_cons.mpr ⟨⟨by decide +kernel, wm_226, wm_140, wm_121⟩, List.forall_mem_cons.mpr ⟨⟨by decide +kernel, wm_227, wm_86, wm_87, wm_84⟩, List.forall_mem_cons.mpr ⟨⟨by decide +kernel, wm_228, wm_229, wm_230, wm_84⟩, List.forall_mem_cons.mpr ⟨⟨by decide +kernel, wm_231, wm_137, wm_138, wm_84⟩, List.forall_mem_cons.mpr ⟨⟨by decide +kernel, wm_232, wm_134, wm_135, wm_84⟩, List.forall_mem_cons.mpr ⟨⟨by decide +kernel, wm_233, wm_234, wm_235⟩, List.forall_mem_cons.mpr ⟨⟨by decide +kernel, wm_236, wm_237, wm_238, wm_121⟩, List.forall_mem_cons.mpr ⟨⟨by decide +kernel, wm_239, wm_240, wm_241, wm_84⟩, List.forall_mem_cons.mpr ⟨⟨by decide +kernel, wm_242, wm_243, wm_244, wm_121⟩, List.forall_mem_cons.mpr ⟨⟨by decide +kernel, wm_245, wm_246, wm_247, wm_121⟩, List.forall_mem_cons.mpr ⟨⟨by decide +kernel, wm_248, wm_249, wm_250, wm_121⟩, List.forall_mem_cons.mpr ⟨⟨by decide +kernel, wm_251, wm_252, wm_253, wm_118⟩, List.forall_mem_cons.mpr ⟨⟨by decide +kernel, wm_254, wm_255, wm_256, wm_118⟩, List.forall_mem_cons.mpr ⟨⟨by decide +kernel, wm_257, wm_258, wm_259, wm_118⟩, fun _ h => absurd h List.not_mem_nil⟩⟩⟩⟩⟩⟩⟩⟩⟩⟩⟩⟩⟩⟩⟩⟩⟩⟩⟩⟩⟩⟩⟩⟩⟩⟩⟩⟩⟩⟩⟩⟩⟩⟩⟩⟩⟩⟩⟩⟩
def pm_mlT_2 : List (Nat × Nat × Nat × Nat × Nat) := [(5, 233, 0, 36, 0), (5, 236, 0, 29, 1), (5, 239, 0, 105, 2), (5, 243, 0, 120, 1), (5, 246, 0, 107, 1), (5, 249, 0, 109, 1), (5, 253, 1, 116, 1), (5, 256, 0, 110, 2), (5, 260, 0, 104, 2), (5, 263, 0, 111, 0), (5, 271, 0, 102, 1), (5, 284, 0, 39, 0), (5, 287, 0, 44, 0), (5, 290, 0, 46, 1), (5, 293, 1, 125, 1), (5, 297, 0, 126, 0), (5, 307, 0, 87, 1), (5, 310, 0, 127, 1), (5, 314, 1, 128, 2), (5, 318, 1, 92, 2), (5, 321, 6, 0, 2), (5, 326, 1, 93, 3), (5, 329, 1, 94, 1), (5, 332, 1, 95, 1), (5, 335, 1, 96, 1), (5, 338, 7, 0, 2), (5, 344, 0, 40, 1), (5, 347, 8, 0, 1), (5, 350, 0, 43, 2), (5, 358, 0, 23, 0), (5, 361, 0, 25, 2), (5, 365, 0, 108, 1), (5, 368, 0, 24, 1), (5, 371, 1, 98, 2), (5, 376, 0, 21, 2), (5, 379, 0, 19, 1), (5, 382, 1, 124, 2), (6, 1, 5, 0, 0), (6, 66, 0, 130, 0), (6, 76, 1, 131, 3)]
theorem pm_mlT_2_ok : ∀ e ∈ pm_mlT_2, pm_mok e := List.forall_mem_cons.mpr ⟨⟨by decide +kernel, wm_260, wm_126, wm_127, wm_84⟩, List.forall_mem_cons.mpr ⟨⟨by decide +kernel, wm_261, wm_262, wm_263, wm_118⟩, List.forall_mem_cons.mpr ⟨⟨by decide +kernel, wm_264, wm_265, wm_266, wm_121⟩, List.forall_mem_cons.mpr ⟨⟨by decide +kernel, wm_267, wm_268, wm_269, wm_121⟩, List.forall_mem_cons.mpr ⟨⟨by decide +kernel, wm_270, wm_271, wm_272, wm_121⟩, List.forall_mem_cons.mpr ⟨⟨by decide +kernel, wm_273, wm_274, wm_275, wm_121⟩, List.forall_mem_cons.mpr ⟨⟨by decide +kernel, wm_276, wm_277, wm_121⟩, List.forall_mem_cons.mpr ⟨⟨by decide +kernel, wm_278, wm_279, wm_280, wm_121⟩, List.forall_mem_cons.mpr ⟨⟨by decide +kernel, wm_281, wm_282, wm_283, wm_121⟩, List.forall_mem_cons.mpr ⟨⟨by decide +kernel, wm_284, wm_285, wm_286, wm_121⟩, List.forall_mem_cons.mpr ⟨⟨by decide +kernel, wm_287, wm_288, wm_289, wm_121⟩, List.forall_mem_cons.mpr ⟨⟨by decide +kernel, wm_290, wm_291, wm_292, wm_84⟩, List.forall_mem_cons.mpr ⟨⟨by decide +kernel, wm_293, wm_294, wm_295, wm_84⟩, List.forall_mem_cons.mpr ⟨⟨by decide +kernel, wm_296, wm_297, wm_298, wm_84⟩, List.forall_mem_cons.mpr ⟨⟨by decide +kernel, wm_299, wm_300, wm_121⟩, List.forall_mem_cons.mpr ⟨⟨by decide +kernel, wm_301, wm_302, wm_303, wm_121⟩, List.forall_mem_cons.mpr ⟨⟨by decide +kernel, wm_304, wm_305, wm_306, wm_121⟩, List.forall_mem_cons.mpr ⟨⟨by decide +kernel, wm_307, wm_308, wm_309, wm_121⟩, List.forall_mem_cons.mpr ⟨⟨by decide +kernel, wm_310, wm_311, wm_121⟩, List.forall_mem_cons.mpr ⟨⟨by decide +kernel, wm_312, wm_313, wm_121⟩, List.forall_mem_cons.mpr ⟨wm_314, List.forall_mem_cons.mpr ⟨⟨by decide +kernel, wm_315, wm_316, wm_121⟩, List.forall_mem_cons.mpr ⟨⟨by decide +kernel, wm_317, wm_318, wm_121⟩, List.forall_mem_cons.mpr ⟨⟨by decide +kernel, wm_319, wm_320, wm_121⟩, List.forall_mem_cons.mpr ⟨⟨by decide +kernel, wm_321, wm_322, wm_121⟩, List.forall_mem_cons.mpr ⟨wm_323, List.forall_mem_cons.mpr ⟨⟨by decide +kernel, wm_324, wm_145, wm_146, wm_84⟩, List.forall_mem_cons.mpr ⟨wm_325, List.forall_mem_cons.mpr ⟨⟨by decide +kernel, wm_326, wm_327, wm_328, wm_84⟩, List.forall_mem_cons.mpr ⟨⟨by decide +kernel, wm_329, wm_330, wm_331, wm_118⟩, List.forall_mem_cons.mpr ⟨⟨by decide +kernel, wm_332, wm_333, wm_334, wm_118⟩, List.forall_mem_cons.mpr ⟨⟨by decide +kernel, wm_335, wm_336, wm_337, wm_121⟩, List.forall_mem_cons.mpr ⟨⟨by decide +kernel, wm_338, wm_116, wm_117, wm_118⟩, List.forall_mem_cons.mpr ⟨⟨by decide +kernel, wm_339, wm_132, wm_121⟩, List.forall_mem_cons.mpr ⟨⟨by decide +kernel, wm_340, wm_341, wm_342, wm_162⟩, List.forall_mem_cons.mpr ⟨⟨by decide +kernel, wm_343, wm_344, wm_345, wm_162⟩, List.forall_mem_cons.mpr ⟨⟨by decide +kernel, wm_346, wm_347, wm_121⟩, List.forall_mem_cons.mpr ⟨wm_348, List.forall_mem_cons.mpr ⟨⟨by decide +kernel, wm_349, wm_350, wm_351, wm_352⟩, List.forall_mem_cons.mpr ⟨⟨by decide +kernel, wm_353, wm_354, wm_352⟩, fun _ h => absurd h List.not_mem_nil⟩⟩⟩⟩⟩⟩⟩⟩⟩⟩⟩⟩⟩⟩⟩⟩⟩⟩⟩⟩⟩⟩⟩⟩⟩⟩⟩⟩⟩⟩⟩⟩⟩⟩⟩⟩⟩⟩⟩⟩
def pm_mlT_3 : List (Nat × Nat × Nat × Nat × Nat) := [(6, 83, 0, 137, 1), (6, 87, 0, 135, 1), (6, 91, 0, 136, 1), (6, 94, 1, 145, 3), (6, 97, 0, 138, 1), (6, 106, 0, 150, 0), (6, 113, 0, 153, 2), (6, 117, 1, 152, 1), (6, 123, 0, 154, 0), (6, 126, 0, 151, 0), (6, 129, 0, 155, 0), (6, 132, 0, 156, 1), (6, 135, 1, 134, 5), (6, 142, 1, 159, 2), (6, 145, 1, 160, 2), (6, 148, 1, 132, 2), (6, 152, 1, 161, 5), (6, 156, 0, 162, 2), (6, 160, 0, 163, 2), (6, 164, 0, 140, 1), (6, 167, 0, 139, 1), (6, 170, 0, 167, 2), (6, 173, 0, 169, 2), (6, 176, 0, 171, 0), (6, 179, 0, 164, 2), (6, 182, 0, 174, 2), (6, 186, 0, 180, 0), (6, 189, 0, 184, 0), (6, 192, 1, 133, 1), (6, 195, 0, 185, 2), (6, 198, 0, 187, 1), (6, 205, 0, 190, 2), (6, 208, 0, 189, 1), (6, 211, 0, 192, 2), (6, 214, 0, 191, 2), (6, 220, 0, 195, 1), (6, 223, 0, 197, 3), (6, 227, 0, 200, 1), (6, 230, 1, 203, 2), (6, 233, 0, 204, 2)]
theorem pm_mlT_3_ok : ∀ e ∈ pm_mlT_3, pm_mok e := List.forall_mem_cons.mpr ⟨⟨by decide +kernel, wm_355, wm_356, wm_357, wm_352⟩, List.forall_mem_cons.mpr ⟨⟨by decide +kernel, wm_358, wm_359, wm_360, wm_352⟩, List.forall_mem_cons.mpr ⟨⟨by decide +kernel, wm_361, wm_362, wm_363, wm_352⟩, List.forall_mem_cons.mpr ⟨⟨by decide +kernel, wm_364, wm_365, wm_352⟩, List.forall_mem_cons.mpr ⟨⟨by decide +kernel, wm_366, wm_367, wm_368, wm_352⟩, List.forall_mem_cons.mpr ⟨⟨by decide +kernel, wm_369, wm_370, wm_371, wm_352⟩, List.forall_mem_cons.mpr ⟨⟨by decide +kernel, wm_372, wm_373, wm_374, wm_352⟩, List.forall_mem_cons.mpr ⟨⟨by decide +kernel, wm_375, wm_376, wm_352⟩, List.forall_mem_cons.mpr ⟨⟨by decide +kernel, wm_377, wm_378, wm_379, wm_352⟩, List.forall_mem_cons.mpr ⟨⟨by decide +kernel, wm_380, wm_381, wm_382, wm_352⟩, List.forall_mem_cons.mpr ⟨⟨by decide +kernel, wm_383, wm_384, wm_385, wm_352⟩, List.forall_mem_cons.mpr ⟨⟨by decide +kernel, wm_386, wm_387, wm_388, wm_352⟩, List.forall_mem_cons.mpr ⟨⟨by decide +kernel, wm_389, wm_390, wm_352⟩, List.forall_mem_cons.mpr ⟨⟨by decide +kernel, wm_391, wm_392, wm_352⟩, List.forall_mem_cons.mpr ⟨⟨by decide +kernel, wm_393, wm_394, wm_352⟩, List.forall_mem_cons.mpr ⟨⟨by decide +kernel, wm_395, wm_396, wm_352⟩, List.forall_mem_cons.mpr ⟨⟨by decide +kernel, wm_397, wm_398, wm_352⟩, List.forall_mem_cons.mpr ⟨⟨by decide +kernel, wm_399, wm_400, wm_401, wm_352⟩, List.forall_mem_cons.mpr ⟨⟨by decide +kernel, wm_402, wm_403, wm_404, wm_352⟩, List.forall_mem_cons.mpr ⟨⟨by decide +kernel, wm_405, wm_406, wm_407, wm_352⟩, List.forall_mem_cons.mpr ⟨⟨by decide +kernel, wm_408, wm_409, wm_410, wm_352⟩, List.forall_mem_cons.mpr ⟨⟨by decide +kernel, wm_411, wm_412, wm_413, wm_352⟩, List.forall_mem_cons.mpr ⟨⟨by decide +kernel, wm_414, wm_415, wm_416, wm_352⟩, List.forall_mem_cons.mpr ⟨⟨by decide +kernel, wm_417, wm_418, wm_419, wm_352⟩, List.forall_mem_cons.mpr ⟨⟨by decide +kernel, wm_420, wm_421, wm_422, wm_352⟩, List.forall_mem_cons.mpr ⟨⟨by decide +kernel, wm_423, wm_424, wm_425, wm_352⟩, List.forall_mem_cons.mpr ⟨⟨by decide +kernel, wm_426, wm_427, wm_428, wm_352⟩, List.forall_mem_cons.mpr ⟨⟨by decide +kernel, wm_429, wm_430, wm_431, wm_352⟩, List.forall_mem_cons.mpr ⟨⟨by decide +kernel, wm_432, wm_433, wm_352⟩, List.forall_mem_cons.mpr ⟨⟨by decide +kernel, wm_434, wm_435, wm_436, wm_352⟩, List.forall_mem_cons.mpr ⟨⟨by decide +kernel, wm_437, wm_438, wm_439, wm_352⟩, List.forall_mem_cons.mpr ⟨⟨by decide +kernel, wm_440, wm_441, wm_442, wm_352⟩, List.forall_mem_cons.mpr ⟨⟨by decide +kernel, wm_443, wm_444, wm_445, wm_352⟩, List.forall_mem_cons.mpr ⟨⟨by decide +kernel, wm_446, wm_447, wm_448, wm_352⟩, List.forall_mem_cons.mpr ⟨⟨by decide +kernel, wm_449, wm_450, wm_451, wm_352⟩, List.forall_mem_cons.mpr ⟨⟨by decide +kernel, wm_452, wm_453, wm_454, wm_352⟩, List.forall_mem_cons.mpr ⟨⟨by decide +kernel, wm_455, wm_456, wm_457, wm_352⟩, List.forall_mem_cons.mpr ⟨⟨by decide +kernel, wm_458, wm_459, wm_460, wm_352⟩, List.forall_mem_cons.mpr ⟨⟨by decide +kernel, wm_461, wm_462, wm_352⟩, List.forall_mem_cons.mpr ⟨⟨by decide +kernel, wm_463, wm_464, wm_465, wm_352⟩, fun _ h => absurd h List.not_mem_nil⟩⟩⟩⟩⟩⟩⟩⟩⟩⟩⟩⟩⟩⟩⟩⟩⟩⟩⟩⟩⟩⟩⟩⟩⟩⟩⟩⟩⟩⟩⟩⟩⟩⟩⟩⟩⟩⟩⟩⟩
def pm_mlT_4 : List (Nat × Nat × Nat × Nat × Nat) := [(6, 236, 0, 165, 0), (6, 239, 0, 206, 2), (6, 243, 0, 207, 3), (6, 256, 0, 210, 1), (6, 260, 0, 217, 0), (6, 263, 0, 215, 1), (6, 266, 1, 216, 3), (6, 270, 0, 218, 1), (6, 277, 1, 222, 4), (7, 9, 2, 47, 0), (7, 12, 2, 129, 0), (7, 13, 0, 48, 2), (7, 17, 0, 141, 2), (7, 18, 0, 49, 3), (7, 22, 0, 142, 3), (7, 23, 0, 50, 2), (7, 26, 0, 143, 2), (7, 27, 0, 51, 1), (7, 31, 0, 144, 1), (7, 32, 0, 52, 5), (7, 36, 0, 146, 5), (7, 37, 0, 53, 1), (7, 40, 0, 147, 1), (7, 41, 0, 54, 2), (7, 44, 0, 148, 2), (7, 45, 0, 55, 3), (7, 48, 0, 149, 3), (7, 49, 0, 56, 1), (7, 52, 0, 157, 1), (7, 53, 0, 57, 1), (7, 56, 0, 158, 1), (7, 57, 0, 58, 1), (7, 60, 0, 166, 1), (7, 61, 0, 59, 2), (7, 64, 0, 168, 2), (7, 65, 0, 60, 2), (7, 68, 0, 170, 2), (7, 69, 0, 61, 0), (7, 73, 0, 172, 0), (7, 74, 0, 62, 1)]
theorem pm_mlT_4_ok : ∀ e ∈ pm_mlT_4, pm_mok e := List.forall_mem_cons.mpr ⟨⟨by decide +kernel, wm_466, wm_467, wm_468, wm_352⟩, List.forall_mem_cons.mpr ⟨⟨by decide +kernel, wm_469, wm_470, wm_471, wm_352⟩, List.forall_mem_cons.mpr ⟨⟨by decide +kernel, wm_472, wm_473, wm_474, wm_352⟩, List.forall_mem_cons.mpr ⟨⟨by decide +kernel, wm_475, wm_476, wm_477, wm_352⟩, List.forall_mem_cons.mpr ⟨⟨by decide +kernel, wm_478, wm_479, wm_480, wm_352⟩, List.forall_mem_cons.mpr ⟨⟨by decide +kernel, wm_481, wm_482, wm_483, wm_352⟩, List.forall_mem_cons.mpr ⟨⟨by decide +kernel, wm_484, wm_485, wm_352⟩, List.forall_mem_cons.mpr ⟨⟨by decide +kernel, wm_486, wm_487, wm_488, wm_352⟩, List.forall_mem_cons.mpr ⟨⟨by decide +kernel, wm_489, wm_490, wm_352⟩, List.forall_mem_cons.mpr ⟨⟨by decide +kernel, wm_491, wm_492, wm_121⟩, List.forall_mem_cons.mpr ⟨⟨by decide +kernel, wm_493, wm_494, wm_352⟩, List.forall_mem_cons.mpr ⟨⟨by decide +kernel, wm_495, wm_496, wm_497, wm_121⟩, List.forall_mem_cons.mpr ⟨⟨by decide +kernel, wm_498, wm_499, wm_500, wm_352⟩, List.forall_mem_cons.mpr ⟨⟨by decide +kernel, wm_501, wm_502, wm_503, wm_121⟩, List.forall_mem_cons.mpr ⟨⟨by decide +kernel, wm_504, wm_505, wm_506, wm_352⟩, List.forall_mem_cons.mpr ⟨⟨by decide +kernel, wm_507, wm_508, wm_509, wm_121⟩, List.forall_mem_cons.mpr ⟨⟨by decide +kernel, wm_510, wm_511, wm_512, wm_352⟩, List.forall_mem_cons.mpr ⟨⟨by decide +kernel, wm_513, wm_514, wm_515, wm_121⟩, List.forall_mem_cons.mpr ⟨⟨by decide +kernel, wm_516, wm_517, wm_518, wm_352⟩, List.forall_mem_cons.mpr ⟨⟨by decide +kernel, wm_519, wm_520, wm_521, wm_121⟩, List.forall_mem_cons.mpr ⟨⟨by decide +kernel, wm_522, wm_523, wm_524, wm_352⟩, List.forall_mem_cons.mpr ⟨⟨by decide +kernel, wm_525, wm_526, wm_527, wm_121⟩, List.forall_mem_cons.mpr ⟨⟨by decide +kernel, wm_528, wm_529, wm_530, wm_352⟩, List.forall_mem_cons.mpr ⟨⟨by decide +kernel, wm_531, wm_532, wm_533, wm_121⟩, List.forall_mem_cons.mpr ⟨⟨by decide +kernel, wm_534, wm_535, wm_536, wm_352⟩, List.forall_mem_cons.mpr ⟨⟨by decide +kernel, wm_537, wm_538, wm_539, wm_121⟩, List.forall_mem_cons.mpr ⟨⟨by decide +kernel, wm_540, wm_541, wm_542, wm_352⟩, List.forall_mem_cons.mpr ⟨⟨by decide +kernel, wm_543, wm_544, wm_545, wm_121⟩, List.forall_mem_cons.mpr ⟨⟨by decide +kernel, wm_546, wm_547, wm_548, wm_352⟩, List.forall_mem_cons.mpr ⟨⟨by decide +kernel, wm_549, wm_550, wm_551, wm_121⟩, List.forall_mem_cons.mpr ⟨⟨by decide +kernel, wm_552, wm_553, wm_554, wm_352⟩, List.forall_mem_cons.mpr ⟨⟨by decide +kernel, wm_555, wm_556, wm_557, wm_121⟩, List.forall_mem_cons.mpr ⟨⟨by decide +kernel, wm_558, wm_559, wm_560, wm_352⟩, List.forall_mem_cons.mpr ⟨⟨by decide +kernel, wm_561, wm_562, wm_563, wm_121⟩, List.forall_mem_cons.mpr ⟨⟨by decide +kernel, wm_564, wm_565, wm_566, wm_352⟩, List.forall_mem_cons.mpr ⟨⟨by decide +kernel, wm_567, wm_568, wm_569, wm_121⟩, List.forall_mem_cons.mpr ⟨⟨by decide +kernel, wm_570, wm_571, wm_572, wm_352⟩, List.forall_mem_cons.mpr ⟨⟨by decide +kernel, wm_573, wm_574, wm_575, wm_121⟩, List.forall_mem_cons.mpr ⟨⟨by decide +kernel, wm_576, wm_577, wm_578, wm_352⟩, List.forall_mem_cons.mpr ⟨⟨by decide +kernel, wm_579, wm_580, wm_581, wm_121⟩, fun _ h => absurd h List.not_mem_nil⟩⟩⟩⟩⟩⟩⟩⟩⟩⟩⟩⟩⟩⟩⟩⟩⟩⟩⟩⟩⟩⟩⟩⟩⟩⟩⟩⟩⟩⟩⟩⟩⟩⟩⟩⟩⟩⟩⟩⟩
def pm_mlT_5 : List (Nat × Nat × Nat × Nat × Nat) := [(7, 77, 0, 173, 1), (7, 78, 0, 63, 2), (7, 81, 0, 175, 2), (7, 82, 0, 64, 2), (7, 85, 0, 176, 2), (7, 86, 0, 65, 1), (7, 89, 0, 177, 1), (7, 90, 0, 66, 1), (7, 93, 0, 178, 1), (7, 94, 0, 67, 1), (7, 97, 0, 179, 1), (7, 98, 0, 68, 4), (7, 102, 0, 181, 4), (7, 103, 0, 69, 2), (7, 106, 0, 182, 2), (7, 107, 0, 70, 0), (7, 110, 0, 183, 0), (7, 111, 0, 71, 3), (7, 114, 0, 186, 3), (7, 115, 0, 72, 1), (7, 118, 0, 188, 1), (7, 119, 0, 73, 2), (7, 122, 0, 193, 2), (7, 123, 0, 74, 2), (7, 126, 0, 194, 2), (7, 127, 0, 75, 2), (7, 130, 0, 196, 2), (7, 131, 0, 76, 3), (7, 134, 0, 198, 3), (7, 135, 0, 77, 3), (7, 138, 0, 199, 3), (7, 139, 0, 78, 1), (7, 142, 0, 201, 1), (7, 143, 0, 79, 1), (7, 146, 0, 202, 1), (7, 147, 0, 80, 1), (7, 150, 0, 205, 1), (7, 151, 0, 81, 3), (7, 154, 0, 208, 3), (7, 155, 0, 82, 2)]
theorem pm_mlT_5_ok : ∀ e ∈ pm_mlT_5, pm_mok e := List.forall_mem_cons.mpr ⟨⟨by decide +kernel, wm_582, wm_583, wm_584, wm_352⟩, List.forall_mem_cons.mpr ⟨⟨by decide +kernel, wm_585, wm_586, wm_587, wm_121⟩, List.forall_mem_cons.mpr ⟨⟨by decide +kernel, wm_588, wm_589, wm_590, wm_352⟩, List.forall_mem_cons.mpr ⟨⟨by decide +kernel, wm_591, wm_592, wm_593, wm_121⟩, List.forall_mem_cons.mpr ⟨⟨by decide +kernel, wm_594, wm_595, wm_596, wm_352⟩, List.forall_mem_cons.mpr ⟨⟨by decide +kernel, wm_597, wm_598, wm_599, wm_121⟩, List.forall_mem_cons.mpr ⟨⟨by decide +kernel, wm_600, wm_601, wm_602, wm_352⟩, List.forall_mem_cons.mpr ⟨⟨by decide +kernel, wm_603, wm_604, wm_605, wm_121⟩, List.forall_mem_cons.mpr ⟨⟨by decide +kernel, wm_606, wm_607, wm_608, wm_352⟩, List.forall_mem_cons.mpr ⟨⟨by decide +kernel, wm_609, wm_610, wm_611, wm_121⟩, List.forall_mem_cons.mpr ⟨⟨by decide +kernel, wm_612, wm_613, wm_614, wm_352⟩, List.forall_mem_cons.mpr ⟨⟨by decide +kernel, wm_615, wm_616, wm_617, wm_121⟩, List.forall_mem_cons.mpr ⟨⟨by decide +kernel, wm_618, wm_619, wm_620, wm_352⟩, List.forall_mem_cons.mpr ⟨⟨by decide +kernel, wm_621, wm_622, wm_623, wm_121⟩, List.forall_mem_cons.mpr ⟨⟨by decide +kernel, wm_624, wm_625, wm_626, wm_352⟩, List.forall_mem_cons.mpr ⟨⟨by decide +kernel, wm_627, wm_628, wm_629, wm_121⟩, List.forall_mem_cons.mpr ⟨⟨by decide +kernel, wm_630, wm_631, wm_632, wm_352⟩, List.forall_mem_cons.mpr ⟨⟨by decide +kernel, wm_633, wm_634, wm_635, wm_121⟩, List.forall_mem_cons.mpr ⟨⟨by decide +kernel, wm_636, wm_637, wm_638, wm_352⟩, List.forall_mem_cons.mpr ⟨⟨by decide +kernel, wm_639, wm_640, wm_641, wm_121⟩, List.forall_mem_cons.mpr ⟨⟨by decide +kernel, wm_642, wm_643, wm_644, wm_352⟩, List.forall_mem_cons.mpr ⟨⟨by decide +kernel, wm_645, wm_646, wm_647, wm_121⟩, List.forall_mem_cons.mpr ⟨⟨by decide +kernel, wm_648, wm_649, wm_650, wm_352⟩, List.forall_mem_cons.mpr ⟨⟨by decide +kernel, wm_651, wm_652, wm_653, wm_121⟩, List.forall_mem_cons.mpr ⟨⟨by decide +kernel, wm_654, wm_655, wm_656, wm_352⟩, List.forall_mem_cons.mpr ⟨⟨by decide +kernel, wm_657, wm_658, wm_659, wm_121⟩, List.forall_mem_cons.mpr ⟨⟨by decide +kernel, wm_660, wm_661, wm_662, wm_352⟩, List.forall_mem_cons.mpr ⟨⟨by decide +kernel, wm_663, wm_664, wm_665, wm_121⟩, List.forall_mem_cons.mpr ⟨⟨by decide +kernel, wm_666, wm_667, wm_668, wm_352⟩, List.forall_mem_cons.mpr ⟨⟨by decide +kernel, wm_669, wm_670, wm_671, wm_121⟩, List.forall_mem_cons.mpr ⟨⟨by decide +kernel, wm_672, wm_673, wm_674, wm_352⟩, List.forall_mem_cons.mpr ⟨⟨by decide +kernel, wm_675, wm_676, wm_677, wm_121⟩, List.forall_mem_cons.mpr ⟨⟨by decide +kernel, wm_678, wm_679, wm_680, wm_352⟩, List.forall_mem_cons.mpr ⟨⟨by decide +kernel, wm_681, wm_682, wm_683, wm_121⟩, List.forall_mem_cons.mpr ⟨⟨by decide +kernel, wm_684, wm_685, wm_686, wm_352⟩, List.forall_mem_cons.mpr ⟨⟨by decide +kernel, wm_687, wm_688, wm_689, wm_121⟩, List.forall_mem_cons.mpr ⟨⟨by decide +kernel, wm_690, wm_691, wm_692, wm_352⟩, List.forall_mem_cons.mpr ⟨⟨by decide +kernel, wm_693, wm_694, wm_695, wm_121⟩, List.forall_mem_cons.mpr ⟨⟨by decide +kernel, wm_696, wm_697, wm_698, wm_352⟩, List.forall_mem_cons.mpr ⟨⟨by decide +kernel, wm_699, wm_700, wm_701, wm_121⟩, fun _ h => absurd h List.not_mem_nil⟩⟩⟩⟩⟩⟩⟩⟩⟩⟩⟩⟩⟩⟩⟩⟩⟩⟩⟩⟩⟩⟩⟩⟩⟩⟩⟩⟩⟩⟩⟩⟩⟩⟩⟩⟩⟩⟩⟩⟩
def pm_mlT_6 : List (Nat × Nat × Nat × Nat × Nat) := [(7, 158, 0, 209, 2), (7, 159, 0, 83, 2), (7, 162, 0, 211, 2), (7, 163, 0, 84, 0), (7, 166, 0, 212, 0), (7, 167, 0, 85, 0), (7, 171, 0, 213, 0), (7, 172, 0, 86, 0), (7, 175, 0, 214, 0), (7, 176, 0, 87, 1), (7, 179, 0, 219, 1), (7, 180, 0, 88, 0), (7, 183, 0, 220, 0), (7, 184, 0, 89, 1), (7, 187, 0, 221, 1), (7, 188, 0, 90, 0), (7, 191, 0, 223, 0)]
theorem pm_mlT_6_ok : ∀ e ∈ pm_mlT_6, pm_mok e := List.forall_mem_cons.mpr ⟨⟨by decide +kernel, wm_702, wm_703, wm_704, wm_352⟩, List.forall_mem_cons.mpr ⟨⟨by decide +kernel, wm_705, wm_706, wm_707, wm_121⟩, List.forall_mem_cons.mpr ⟨⟨by decide +kernel, wm_708, wm_709, wm_710, wm_352⟩, List.forall_mem_cons.mpr ⟨⟨by decide +kernel, wm_711, wm_712, wm_713, wm_121⟩, List.forall_mem_cons.mpr ⟨⟨by decide +kernel, wm_714, wm_715, wm_716, wm_352⟩, List.forall_mem_cons.mpr ⟨⟨by decide +kernel, wm_717, wm_718, wm_719, wm_121⟩, List.forall_mem_cons.mpr ⟨⟨by decide +kernel, wm_720, wm_721, wm_722, wm_352⟩, List.forall_mem_cons.mpr ⟨⟨by decide +kernel, wm_723, wm_724, wm_725, wm_121⟩, List.forall_mem_cons.mpr ⟨⟨by decide +kernel, wm_726, wm_727, wm_728, wm_352⟩, List.forall_mem_cons.mpr ⟨⟨by decide +kernel, wm_729, wm_305, wm_306, wm_121⟩, List.forall_mem_cons.mpr ⟨⟨by decide +kernel, wm_730, wm_731, wm_732, wm_352⟩, List.forall_mem_cons.mpr ⟨⟨by decide +kernel, wm_733, wm_734, wm_735, wm_121⟩, List.forall_mem_cons.mpr ⟨⟨by decide +kernel, wm_736, wm_737, wm_738, wm_352⟩, List.forall_mem_cons.mpr ⟨⟨by decide +kernel, wm_739, wm_740, wm_741, wm_121⟩, List.forall_mem_cons.mpr ⟨⟨by decide +kernel, wm_742, wm_743, wm_744, wm_352⟩, List.forall_mem_cons.mpr ⟨⟨by decide +kernel, wm_745, wm_746, wm_747, wm_121⟩, List.forall_mem_cons.mpr ⟨⟨by decide +kernel, wm_748, wm_749, wm_750, wm_352⟩, fun _ h => absurd h List.not_mem_nil⟩⟩⟩⟩⟩⟩⟩⟩⟩⟩⟩⟩⟩⟩⟩⟩⟩
def pm_mlT : List (Nat × Nat × Nat × Nat × Nat) := pm_mlT_0 ++ (pm_mlT_1 ++ (pm_mlT_2 ++ (pm_mlT_3 ++ (pm_mlT_4 ++ (pm_mlT_5 ++ (pm_mlT_6))))))
theorem pm_mlT_ok : ∀ e ∈ pm_mlT, pm_mok e := List.forall_mem_append.mpr ⟨pm_mlT_0_ok, List.forall_mem_append.mpr ⟨pm_mlT_1_ok, List.forall_mem_append.mpr ⟨pm_mlT_2_ok, List.forall_mem_append.mpr ⟨pm_mlT_3_ok, List.forall_mem_append.mpr ⟨pm_mlT_4_ok, List.forall_mem_append.mpr ⟨pm_mlT_5_ok, pm_mlT_6_ok⟩⟩⟩⟩⟩⟩
def pm_cok (e : Nat × Nat × Int32) : Prop := Cond.constant (pm_R e.1) e.2.1 e.2.2 ∈ lw_tbl
def pm_ciT_0 : List (Nat × Nat × Int32) := [(8, 265, 1431655765), (8, 266, 858993459), (8, 267, 252645135), (6, 251, 2147483646)]
theorem pm_ciT_0_ok : ∀ e ∈ pm_ciT_0, pm_cok e := List.forall_mem_cons.mpr ⟨wm_992, List.forall_mem_cons.mpr ⟨wm_993, List.forall_mem_cons.mpr ⟨wm_994, List.forall_mem_cons.mpr ⟨wm_1002, fun _ h => absurd h List.not_mem_nil⟩⟩⟩⟩
def pm_ciT : List (Nat × Nat × Int32) := pm_ciT_0
theorem pm_ciT_ok : ∀ e ∈ pm_ciT, pm_cok e := pm_ciT_0_ok
def pm_lok (e : Nat × Nat × Int64) : Prop := Cond.constantLong (pm_R e.1) e.2.1 e.2.2 ∈ lw_tbl
def pm_clT_0 : List (Nat × Nat × Int64) := [(5, 374, 12), (5, 267, 2147483647), (5, 269, 48271), (5, 354, 8), (5, 356, 64), (5, 303, 17), (5, 305, 31), (6, 252, 48271), (6, 254, 2147483647), (6, 247, 8), (6, 249, 64), (6, 275, 17), (6, 273, 31)]
theorem pm_clT_0_ok : ∀ e ∈ pm_clT_0, pm_lok e := List.forall_mem_cons.mpr ⟨wm_995, List.forall_mem_cons.mpr ⟨wm_996, List.forall_mem_cons.mpr ⟨wm_997, List.forall_mem_cons.mpr ⟨wm_998, List.forall_mem_cons.mpr ⟨wm_999, List.forall_mem_cons.mpr ⟨wm_1000, List.forall_mem_cons.mpr ⟨wm_1001, List.forall_mem_cons.mpr ⟨wm_1003, List.forall_mem_cons.mpr ⟨wm_1004, List.forall_mem_cons.mpr ⟨wm_1005, List.forall_mem_cons.mpr ⟨wm_1006, List.forall_mem_cons.mpr ⟨wm_1007, List.forall_mem_cons.mpr ⟨wm_1008, fun _ h => absurd h List.not_mem_nil⟩⟩⟩⟩⟩⟩⟩⟩⟩⟩⟩⟩⟩
def pm_clT : List (Nat × Nat × Int64) := pm_clT_0
theorem pm_clT_ok : ∀ e ∈ pm_clT, pm_lok e := pm_clT_0_ok
def pm_wok (e : Nat × Nat × Nat) : Prop := ∃ (C : String) (T : u_T) (N : Nat), vwCl[e.2.2]? = some (C, T, N) ∧ Cond.classLink (pm_R e.1) e.2.1 C ∈ lw_tbl ∧ Cond.instantiable C N ∈ lw_tbl ∧ Cond.initialized C ∈ lw_tbl
def pm_nwT_0 : List (Nat × Nat × Nat) := [(7, 7, 4), (5, 9, 1), (5, 18, 0), (0, 9, 3), (5, 29, 3), (5, 36, 2), (7, 10, 5)]
theorem pm_nwT_0_ok : ∀ e ∈ pm_nwT_0, pm_wok e := List.forall_mem_cons.mpr ⟨⟨RX5, TX5, 13, rfl, wm_1009, wm_1010, wm_121⟩, List.forall_mem_cons.mpr ⟨⟨RX2, TX2, 2, rfl, wm_1011, wm_1012, wm_162⟩, List.forall_mem_cons.mpr ⟨⟨RX0, TX0, 5, rfl, wm_1013, wm_1014, wm_92⟩, List.forall_mem_cons.mpr ⟨⟨RX4, TX4, 6, rfl, wm_1015, wm_1016, wm_84⟩, List.forall_mem_cons.mpr ⟨⟨RX4, TX4, 6, rfl, wm_1017, wm_1016, wm_84⟩, List.forall_mem_cons.mpr ⟨⟨RX3, TX3, 4, rfl, wm_1018, wm_1019, wm_118⟩, List.forall_mem_cons.mpr ⟨⟨RX6, TX6, 28, rfl, wm_1020, wm_1021, wm_352⟩, fun _ h => absurd h List.not_mem_nil⟩⟩⟩⟩⟩⟩⟩
def pm_nwT : List (Nat × Nat × Nat) := pm_nwT_0
theorem pm_nwT_ok : ∀ e ∈ pm_nwT, pm_wok e := pm_nwT_0_ok
/-- classes of arrays of references, by tag -/
def pm_tC (t : Nat) : String := match t with
  | 2 => RX2
  | _ => RX0
def pm_aok (e : Nat × Nat × Nat) : Prop := (e.2.2 = 2 ∨ e.2.2 = 3) ∧ Cond.classLink (pm_R e.1) e.2.1 (pm_tC e.2.2) ∈ lw_tbl
def pm_naT_0 : List (Nat × Nat × Nat) := [(5, 9, 2), (5, 18, 3)]
theorem pm_naT_0_ok : ∀ e ∈ pm_naT_0, pm_aok e := List.forall_mem_cons.mpr ⟨⟨by decide, wm_1011⟩, List.forall_mem_cons.mpr ⟨⟨by decide, wm_1013⟩, fun _ h => absurd h List.not_mem_nil⟩⟩
def pm_naT : List (Nat × Nat × Nat) := pm_naT_0
theorem pm_naT_ok : ∀ e ∈ pm_naT, pm_aok e := pm_naT_0_ok
theorem pm_code_ok : ∀ y, y < 225 → Cond.code (pm_yN y) (pm_yB y) (pm_yL y) (pm_yR y) ∈ lw_tbl := by
  intro y hy
  match y, hy with
  | 0, _ => exact wm_751
  | 1, _ => exact wm_752
  | 2, _ => exact wm_753
  | 3, _ => exact wm_754
  | 4, _ => exact wm_755
  | 5, _ => exact wm_756
  | 6, _ => exact wm_757
  | 7, _ => exact wm_758
  | 8, _ => exact wm_759
  | 9, _ => exact wm_760
  | 10, _ => exact wm_761
  | 11, _ => exact wm_762
  | 12, _ => exact wm_763
  | 13, _ => exact wm_764
  | 14, _ => exact wm_765
  | 15, _ => exact wm_766
  | 16, _ => exact wm_767
  | 17, _ => exact wm_768
  | 18, _ => exact wm_769
  | 19, _ => exact wm_770
  | 20, _ => exact wm_771
  | 21, _ => exact wm_772
  | 22, _ => exact wm_773
  | 23, _ => exact wm_774
  | 24, _ => exact wm_775
  | 25, _ => exact wm_776
  | 26, _ => exact wm_777
  | 27, _ => exact wm_778
  | 28, _ => exact wm_779
  | 29, _ => exact wm_780
  | 30, _ => exact wm_781
  | 31, _ => exact wm_782
  | 32, _ => exact wm_783
  | 33, _ => exact wm_784
  | 34, _ => exact wm_785
  | 35, _ => exact wm_786
  | 36, _ => exact wm_787
  | 37, _ => exact wm_788
  | 38, _ => exact wm_789
  | 39, _ => exact wm_790
  | 40, _ => exact wm_791
  | 41, _ => exact wm_792
  | 42, _ => exact wm_793
  | 43, _ => exact wm_794
  | 44, _ => exact wm_795
  | 45, _ => exact wm_796
  | 46, _ => exact wm_797
  | 47, _ => exact wm_798
  | 48, _ => exact wm_799
  | 49, _ => exact wm_800
  | 50, _ => exact wm_801
  | 51, _ => exact wm_802
  | 52, _ => exact wm_803
  | 53, _ => exact wm_804
  | 54, _ => exact wm_805
  | 55, _ => exact wm_806
  | 56, _ => exact wm_807
  | 57, _ => exact wm_808
  | 58, _ => exact wm_809
  | 59, _ => exact wm_810
  | 60, _ => exact wm_811
  | 61, _ => exact wm_812
  | 62, _ => exact wm_813
  | 63, _ => exact wm_814
  | 64, _ => exact wm_815
  | 65, _ => exact wm_816
  | 66, _ => exact wm_817
  | 67, _ => exact wm_818
  | 68, _ => exact wm_819
  | 69, _ => exact wm_820
  | 70, _ => exact wm_821
  | 71, _ => exact wm_822
  | 72, _ => exact wm_823
  | 73, _ => exact wm_824
  | 74, _ => exact wm_825
  | 75, _ => exact wm_826
  | 76, _ => exact wm_827
  | 77, _ => exact wm_828
  | 78, _ => exact wm_829
  | 79, _ => exact wm_830
  | 80, _ => exact wm_831
  | 81, _ => exact wm_832
  | 82, _ => exact wm_833
  | 83, _ => exact wm_834
  | 84, _ => exact wm_835
  | 85, _ => exact wm_836
  | 86, _ => exact wm_837
  | 87, _ => exact wm_838
  | 88, _ => exact wm_839
  | 89, _ => exact wm_840
  | 90, _ => exact wm_841
  | 91, _ => exact wm_842
  | 92, _ => exact wm_843
  | 93, _ => exact wm_844
  | 94, _ => exact wm_845
  | 95, _ => exact wm_846
  | 96, _ => exact wm_847
  | 97, _ => exact wm_848
  | 98, _ => exact wm_849
  | 99, _ => exact wm_850
  | 100, _ => exact wm_851
  | 101, _ => exact wm_852
  | 102, _ => exact wm_853
  | 103, _ => exact wm_854
  | 104, _ => exact wm_855
  | 105, _ => exact wm_856
  | 106, _ => exact wm_857
  | 107, _ => exact wm_858
  | 108, _ => exact wm_859
  | 109, _ => exact wm_860
  | 110, _ => exact wm_861
  | 111, _ => exact wm_862
  | 112, _ => exact wm_863
  | 113, _ => exact wm_864
  | 114, _ => exact wm_865
  | 115, _ => exact wm_866
  | 116, _ => exact wm_867
  | 117, _ => exact wm_868
  | 118, _ => exact wm_869
  | 119, _ => exact wm_870
  | 120, _ => exact wm_871
  | 121, _ => exact wm_872
  | 122, _ => exact wm_873
  | 123, _ => exact wm_874
  | 124, _ => exact wm_875
  | 125, _ => exact wm_876
  | 126, _ => exact wm_877
  | 127, _ => exact wm_878
  | 128, _ => exact wm_879
  | 129, _ => exact wm_880
  | 130, _ => exact wm_881
  | 131, _ => exact wm_882
  | 132, _ => exact wm_883
  | 133, _ => exact wm_884
  | 134, _ => exact wm_885
  | 135, _ => exact wm_886
  | 136, _ => exact wm_887
  | 137, _ => exact wm_888
  | 138, _ => exact wm_889
  | 139, _ => exact wm_890
  | 140, _ => exact wm_891
  | 141, _ => exact wm_892
  | 142, _ => exact wm_893
  | 143, _ => exact wm_894
  | 144, _ => exact wm_895
  | 145, _ => exact wm_896
  | 146, _ => exact wm_897
  | 147, _ => exact wm_898
  | 148, _ => exact wm_899
  | 149, _ => exact wm_900
  | 150, _ => exact wm_901
  | 151, _ => exact wm_902
  | 152, _ => exact wm_903
  | 153, _ => exact wm_904
  | 154, _ => exact wm_905
  | 155, _ => exact wm_906
  | 156, _ => exact wm_907
  | 157, _ => exact wm_908
  | 158, _ => exact wm_909
  | 159, _ => exact wm_910
  | 160, _ => exact wm_911
  | 161, _ => exact wm_912
  | 162, _ => exact wm_913
  | 163, _ => exact wm_914
  | 164, _ => exact wm_915
  | 165, _ => exact wm_916
  | 166, _ => exact wm_917
  | 167, _ => exact wm_918
  | 168, _ => exact wm_919
  | 169, _ => exact wm_920
  | 170, _ => exact wm_921
  | 171, _ => exact wm_922
  | 172, _ => exact wm_923
  | 173, _ => exact wm_924
  | 174, _ => exact wm_925
  | 175, _ => exact wm_926
  | 176, _ => exact wm_927
  | 177, _ => exact wm_928
  | 178, _ => exact wm_929
  | 179, _ => exact wm_930
  | 180, _ => exact wm_931
  | 181, _ => exact wm_932
  | 182, _ => exact wm_933
  | 183, _ => exact wm_934
  | 184, _ => exact wm_935
  | 185, _ => exact wm_936
  | 186, _ => exact wm_937
  | 187, _ => exact wm_938
  | 188, _ => exact wm_939
  | 189, _ => exact wm_940
  | 190, _ => exact wm_941
  | 191, _ => exact wm_942
  | 192, _ => exact wm_943
  | 193, _ => exact wm_944
  | 194, _ => exact wm_945
  | 195, _ => exact wm_946
  | 196, _ => exact wm_947
  | 197, _ => exact wm_948
  | 198, _ => exact wm_949
  | 199, _ => exact wm_950
  | 200, _ => exact wm_951
  | 201, _ => exact wm_952
  | 202, _ => exact wm_953
  | 203, _ => exact wm_954
  | 204, _ => exact wm_955
  | 205, _ => exact wm_956
  | 206, _ => exact wm_957
  | 207, _ => exact wm_958
  | 208, _ => exact wm_959
  | 209, _ => exact wm_960
  | 210, _ => exact wm_961
  | 211, _ => exact wm_962
  | 212, _ => exact wm_963
  | 213, _ => exact wm_964
  | 214, _ => exact wm_965
  | 215, _ => exact wm_966
  | 216, _ => exact wm_967
  | 217, _ => exact wm_968
  | 218, _ => exact wm_969
  | 219, _ => exact wm_970
  | 220, _ => exact wm_971
  | 221, _ => exact wm_972
  | 222, _ => exact wm_973
  | 223, _ => exact wm_974
  | 224, _ => exact wm_975
  | y + 225, hy => exact absurd hy (by omega)
abbrev wo_objI := wm_976
abbrev wo_objC := wm_977
abbrev wo_maxS := wm_978
abbrev wo_maxC := wm_979
abbrev wo_minS := wm_980
abbrev wo_minC := wm_981
abbrev wo_absS := wm_982
abbrev wo_absC := wm_983
abbrev wo_mathI := wm_984
abbrev wo_sysI := wm_985
abbrev wo_acN := wm_986
abbrev wo_acS := wm_987
abbrev wo_aI := wm_988
abbrev wo_aZ := wm_989
abbrev wo_oR := wm_990
abbrev wo_oB := wm_991
abbrev wo_lsL := wm_1080
abbrev wo_lsK := wm_1081
abbrev wo_flN := wm_1082
abbrev wo_flK := wm_1083
theorem pm_inX0 : ∀ w ∈ u_ws RX0 TX0 5, w ∈ lw_tbl := List.forall_mem_cons.mpr ⟨wm_1022, List.forall_mem_cons.mpr ⟨wm_1023, List.forall_mem_cons.mpr ⟨wm_1024, List.forall_mem_cons.mpr ⟨wm_1025, List.forall_mem_cons.mpr ⟨wm_1026, fun _ h => absurd h List.not_mem_nil⟩⟩⟩⟩⟩
theorem pm_inX2 : ∀ w ∈ u_ws RX2 TX2 2, w ∈ lw_tbl := List.forall_mem_cons.mpr ⟨wm_1027, List.forall_mem_cons.mpr ⟨wm_1028, fun _ h => absurd h List.not_mem_nil⟩⟩
theorem pm_inX3 : ∀ w ∈ u_ws RX3 TX3 4, w ∈ lw_tbl := List.forall_mem_cons.mpr ⟨wm_1029, List.forall_mem_cons.mpr ⟨wm_1030, List.forall_mem_cons.mpr ⟨wm_1031, List.forall_mem_cons.mpr ⟨wm_1032, fun _ h => absurd h List.not_mem_nil⟩⟩⟩⟩
theorem pm_inX4 : ∀ w ∈ u_ws RX4 TX4 6, w ∈ lw_tbl := List.forall_mem_cons.mpr ⟨wm_1033, List.forall_mem_cons.mpr ⟨wm_1034, List.forall_mem_cons.mpr ⟨wm_1035, List.forall_mem_cons.mpr ⟨wm_1036, List.forall_mem_cons.mpr ⟨wm_1037, List.forall_mem_cons.mpr ⟨wm_1038, fun _ h => absurd h List.not_mem_nil⟩⟩⟩⟩⟩⟩
theorem pm_inX5 : ∀ w ∈ u_ws RX5 TX5 13, w ∈ lw_tbl := List.forall_mem_cons.mpr ⟨wm_1039, List.forall_mem_cons.mpr ⟨wm_1040, List.forall_mem_cons.mpr ⟨wm_1041, List.forall_mem_cons.mpr ⟨wm_1042, List.forall_mem_cons.mpr ⟨wm_1043, List.forall_mem_cons.mpr ⟨wm_1044, List.forall_mem_cons.mpr ⟨wm_1045, List.forall_mem_cons.mpr ⟨wm_1046, List.forall_mem_cons.mpr ⟨wm_1047, List.forall_mem_cons.mpr ⟨wm_1048, List.forall_mem_cons.mpr ⟨wm_1049, List.forall_mem_cons.mpr ⟨wm_1050, List.forall_mem_cons.mpr ⟨wm_1051, fun _ h => absurd h List.not_mem_nil⟩⟩⟩⟩⟩⟩⟩⟩⟩⟩⟩⟩⟩
theorem pm_inX6 : ∀ w ∈ u_ws RX6 TX6 28, w ∈ lw_tbl := List.forall_mem_cons.mpr ⟨wm_1052, List.forall_mem_cons.mpr ⟨wm_1053, List.forall_mem_cons.mpr ⟨wm_1054, List.forall_mem_cons.mpr ⟨wm_1055, List.forall_mem_cons.mpr ⟨wm_1056, List.forall_mem_cons.mpr ⟨wm_1057, List.forall_mem_cons.mpr ⟨wm_1058, List.forall_mem_cons.mpr ⟨wm_1059, List.forall_mem_cons.mpr ⟨wm_1060, List.forall_mem_cons.mpr ⟨wm_1061, List.forall_mem_cons.mpr ⟨wm_1062, List.forall_mem_cons.mpr ⟨wm_1063, List.forall_mem_cons.mpr ⟨wm_1064, List.forall_mem_cons.mpr ⟨wm_1065, List.forall_mem_cons.mpr ⟨wm_1066, List.forall_mem_cons.mpr ⟨wm_1067, List.forall_mem_cons.mpr ⟨wm_1068, List.forall_mem_cons.mpr ⟨wm_1069, List.forall_mem_cons.mpr ⟨wm_1070, List.forall_mem_cons.mpr ⟨wm_1071, List.forall_mem_cons.mpr ⟨wm_1072, List.forall_mem_cons.mpr ⟨wm_1073, List.forall_mem_cons.mpr ⟨wm_1074, List.forall_mem_cons.mpr ⟨wm_1075, List.forall_mem_cons.mpr ⟨wm_1076, List.forall_mem_cons.mpr ⟨wm_1077, List.forall_mem_cons.mpr ⟨wm_1078, List.forall_mem_cons.mpr ⟨wm_1079, fun _ h => absurd h List.not_mem_nil⟩⟩⟩⟩⟩⟩⟩⟩⟩⟩⟩⟩⟩⟩⟩⟩⟩⟩⟩⟩⟩⟩⟩⟩⟩⟩⟩⟩
theorem pm_cl_in : ∀ (c : Nat) (q : vw_C), vwCl[c]? = some q → (∀ w ∈ u_ws q.1 q.2.1 q.2.2, w ∈ lw_tbl) ∧ Cond.instantiable q.1 q.2.2 ∈ lw_tbl := by
  intro c q h
  match c, h with
  | 0, h => cases h; exact ⟨pm_inX0, wm_1014⟩
  | 1, h => cases h; exact ⟨pm_inX2, wm_1012⟩
  | 2, h => cases h; exact ⟨pm_inX3, wm_1019⟩
  | 3, h => cases h; exact ⟨pm_inX4, wm_1016⟩
  | 4, h => cases h; exact ⟨pm_inX5, wm_1010⟩
  | 5, h => cases h; exact ⟨pm_inX6, wm_1021⟩
  | c + 6, h => exact absurd h (by simp [vwCl])
def pm_ty (ci : Nat) : Nat → FieldType := match ci with
  | 0 => tyX0
  | 1 => tyX2
  | 2 => tyX3
  | 3 => tyX4
  | 4 => tyX5
  | _ => tyX6
theorem pm_ty_ok : ∀ (c : Nat) (q : vw_C), vwCl[c]? = some q → (∀ k, k < q.2.2 → parseFieldDescriptor (q.2.1 k).2.2.1 = some (pm_ty c k)) ∧ (∀ a, a < q.2.2 → ∀ b, b < q.2.2 → a ≠ b → (q.2.1 a).2.1 ≠ (q.2.1 b).2.1) := by
  intro c q h
  match c, h with
  | 0, h => cases h; exact ⟨tyX0_ok, nmX0⟩
  | 1, h => cases h; exact ⟨tyX2_ok, nmX2⟩
  | 2, h => cases h; exact ⟨tyX3_ok, nmX3⟩
  | 3, h => cases h; exact ⟨tyX4_ok, nmX4⟩
  | 4, h => cases h; exact ⟨tyX5_ok, nmX5⟩
  | 5, h => cases h; exact ⟨tyX6_ok, nmX6⟩
  | c + 6, h => exact absurd h (by simp [vwCl])
