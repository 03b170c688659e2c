theorem m_0 : Cond.selects "DotLines$WordTree" y_Tree_put y_Tree_put ∈ WA := wa_m (List.mem_of_getElem? (i := 0) rfl) rfl
theorem m_1 : Cond.selects "DotLines$WordTree" y_Tree_grow y_Tree_grow ∈ WA := wa_m (List.mem_of_getElem? (i := 1) rfl) rfl
theorem m_2 : Cond.selects "DotLines$WordTree" y_Tree_set y_Tree_set ∈ WA := wa_m (List.mem_of_getElem? (i := 2) rfl) rfl
theorem m_3 : Cond.selects "DotLines$Reader" y_Reader_readSteps y_Reader_readSteps ∈ WA := wa_m (List.mem_of_getElem? (i := 3) rfl) rfl
theorem m_4 : Cond.selects "DotLines$Reader" y_Reader_take y_Reader_take ∈ WA := wa_m (List.mem_of_getElem? (i := 4) rfl) rfl
theorem m_5 : Cond.selects "DotLines$Reader" y_Reader_pass y_Reader_pass ∈ WA := wa_m (List.mem_of_getElem? (i := 5) rfl) rfl
theorem m_6 : Cond.selects "DotLines$Reader" y_Reader_faultAt y_Reader_faultAt ∈ WA := wa_m (List.mem_of_getElem? (i := 6) rfl) rfl
theorem m_7 : Cond.selects "DotLines$Reader" y_Reader_drawTo y_Reader_drawTo ∈ WA := wa_m (List.mem_of_getElem? (i := 7) rfl) rfl
theorem m_8 : Cond.selects "DotLines$Reader" y_Reader_across y_Reader_across ∈ WA := wa_m (List.mem_of_getElem? (i := 8) rfl) rfl
theorem m_9 : Cond.selects "DotLines$Reader" y_Reader_runFrom y_Reader_runFrom ∈ WA := wa_m (List.mem_of_getElem? (i := 9) rfl) rfl
theorem m_10 : Cond.selects "DotLines$Reader" y_Reader_shift y_Reader_shift ∈ WA := wa_m (List.mem_of_getElem? (i := 10) rfl) rfl
theorem m_11 : Cond.selects "DotLines$Line" y_Line_addChanges y_Line_addChanges ∈ WA := wa_m (List.mem_of_getElem? (i := 11) rfl) rfl
theorem m_12 : Cond.selects "DotLines$Coder" y_Coder_addSteps y_Coder_addSteps ∈ WA := wa_m (List.mem_of_getElem? (i := 12) rfl) rfl
theorem m_13 : Cond.selects "DotLines$Coder" y_Coder_addStep y_Coder_addStep ∈ WA := wa_m (List.mem_of_getElem? (i := 13) rfl) rfl
theorem m_14 : Cond.selects "DotLines$Coder" y_Coder_addWord y_Coder_addWord ∈ WA := wa_m (List.mem_of_getElem? (i := 14) rfl) rfl
theorem m_15 : Cond.selects "DotLines$Coder" y_Coder_addRun y_Coder_addRun ∈ WA := wa_m (List.mem_of_getElem? (i := 15) rfl) rfl
theorem m_17 : Cond.selects "DotLinesModel" y_Model_lineWords y_Model_lineWords ∈ WA := wa_m (List.mem_of_getElem? (i := 17) rfl) rfl
theorem m_18 : Cond.selects "DotLinesModel" y_Model_dotAfter y_Model_dotAfter ∈ WA := wa_m (List.mem_of_getElem? (i := 18) rfl) rfl
theorem m_19 : Cond.selects "DotLinesModel" y_Model_changeAfter y_Model_changeAfter ∈ WA := wa_m (List.mem_of_getElem? (i := 19) rfl) rfl
theorem m_20 : Cond.selects "DotLinesModel" y_Model_word y_Model_word ∈ WA := wa_m (List.mem_of_getElem? (i := 20) rfl) rfl
theorem m_21 : Cond.selects "DotLinesModel" y_Model_run y_Model_run ∈ WA := wa_m (List.mem_of_getElem? (i := 21) rfl) rfl
theorem m_22 : Cond.selects "DotLinesModel" y_Model_take y_Model_take ∈ WA := wa_m (List.mem_of_getElem? (i := 22) rfl) rfl
theorem m_23 : Cond.selects "DotLinesModel" y_Model_bytesOut y_Model_bytesOut ∈ WA := wa_m (List.mem_of_getElem? (i := 23) rfl) rfl
theorem m_24 : Cond.selects "DotLinesModel" y_Model_byteOut y_Model_byteOut ∈ WA := wa_m (List.mem_of_getElem? (i := 24) rfl) rfl
theorem m_25 : Cond.selects "DotLinesModel" y_Model_begin y_Model_begin ∈ WA := wa_m (List.mem_of_getElem? (i := 25) rfl) rfl
theorem m_26 : Cond.selects "DotLinesModel" y_Model_piece y_Model_piece ∈ WA := wa_m (List.mem_of_getElem? (i := 26) rfl) rfl
theorem m_27 : Cond.selects "DotLinesModel" y_Model_mode y_Model_mode ∈ WA := wa_m (List.mem_of_getElem? (i := 27) rfl) rfl
theorem m_28 : Cond.selects "DotLinesModel" y_Model_fault y_Model_fault ∈ WA := wa_m (List.mem_of_getElem? (i := 28) rfl) rfl
theorem m_29 : Cond.selects "DotLinesModel" y_Model_bit y_Model_bit ∈ WA := wa_m (List.mem_of_getElem? (i := 29) rfl) rfl
theorem m_30 : Cond.selects "DotLinesModel" y_Model_begins y_Model_begins ∈ WA := wa_m (List.mem_of_getElem? (i := 30) rfl) rfl
theorem m_31 : Cond.selects "DotLinesModel" y_Model_end y_Model_end ∈ WA := wa_m (List.mem_of_getElem? (i := 31) rfl) rfl
theorem m_32 : Cond.selects "DotLinesModel" y_Model_fill y_Model_fill ∈ WA := wa_m (List.mem_of_getElem? (i := 32) rfl) rfl
theorem m_33 : Cond.selects "DotLinesModel" y_Model_readRun y_Model_readRun ∈ WA := wa_m (List.mem_of_getElem? (i := 33) rfl) rfl
theorem m_34 : Cond.initialized "DotLinesLaw" ∈ WA := wa_m (List.mem_of_getElem? (i := 34) rfl) rfl
theorem m_35 : Cond.initialized "DotLines" ∈ WA := wa_m (List.mem_of_getElem? (i := 35) rfl) rfl
theorem m_36 : Cond.initialized "java/lang/Math" ∈ WA := wa_m (List.mem_of_getElem? (i := 36) rfl) rfl
theorem m_37 : Cond.initialized "DotLines$Coder" ∈ WA := wa_m (List.mem_of_getElem? (i := 37) rfl) rfl
theorem m_38 : Cond.initialized "DotLines$Bits" ∈ WA := wa_m (List.mem_of_getElem? (i := 38) rfl) rfl
theorem m_39 : Cond.initialized "DotLines$Line" ∈ WA := wa_m (List.mem_of_getElem? (i := 39) rfl) rfl
theorem m_40 : Cond.initialized "DotLines$Spot" ∈ WA := wa_m (List.mem_of_getElem? (i := 40) rfl) rfl
theorem m_41 : Cond.initialized "DotLines$Reader" ∈ WA := wa_m (List.mem_of_getElem? (i := 41) rfl) rfl
theorem m_42 : Cond.initialized "DotLines$WordTree" ∈ WA := wa_m (List.mem_of_getElem? (i := 42) rfl) rfl
theorem m_43 : Cond.initialized "DotLines$Words" ∈ WA := wa_m (List.mem_of_getElem? (i := 43) rfl) rfl
theorem m_44 : Cond.initialized "java/lang/Integer" ∈ WA := wa_m (List.mem_of_getElem? (i := 44) rfl) rfl
theorem m_45 : Cond.initialized "DotLinesModel" ∈ WA := wa_m (List.mem_of_getElem? (i := 45) rfl) rfl
theorem m_46 : Cond.initialized "java/lang/Long" ∈ WA := wa_m (List.mem_of_getElem? (i := 46) rfl) rfl
theorem m_47 : Cond.initialized "java/util/Arrays" ∈ WA := wa_m (List.mem_of_getElem? (i := 47) rfl) rfl
theorem m_54 : Cond.classLink "DotLinesLaw" 8 "DotLines" ∈ WA := wa_m (List.mem_of_getElem? (i := 54) rfl) rfl
theorem m_55 : Cond.instantiable "DotLines" 3 ∈ WA := wa_m (List.mem_of_getElem? (i := 55) rfl) rfl
theorem m_56 : Cond.methodLink "DotLinesLaw" 36 y_DL_init ∈ WA := wa_m (List.mem_of_getElem? (i := 56) rfl) rfl
theorem m_57 : Cond.instanceMethod y_DL_init ∈ WA := wa_m (List.mem_of_getElem? (i := 57) rfl) rfl
theorem m_58 : Cond.code y_DL_init b_DL_init 2 none ∈ WA := wa_m (List.mem_of_getElem? (i := 58) rfl) rfl
theorem m_59 : Cond.methodLink "DotLines" 1 objectInit ∈ WA := wa_m (List.mem_of_getElem? (i := 59) rfl) rfl
theorem m_60 : Cond.instanceMethod objectInit ∈ WA := wa_m (List.mem_of_getElem? (i := 60) rfl) rfl
theorem m_61 : Cond.code objectInit ⟨#[0xb1]⟩ 1 none ∈ WA := wa_m (List.mem_of_getElem? (i := 61) rfl) rfl
theorem m_62 : Cond.methodLink "DotLines" 9 Lib.Math.min.name ∈ WA := wa_m (List.mem_of_getElem? (i := 62) rfl) rfl
theorem m_63 : Cond.static Lib.Math.min.name ∈ WA := wa_m (List.mem_of_getElem? (i := 63) rfl) rfl
theorem m_64 : Cond.code Lib.Math.min.name Lib.Math.min.code 2 (some .int) ∈ WA := wa_m (List.mem_of_getElem? (i := 64) rfl) rfl
theorem m_65 : Cond.methodLink "DotLines" 15 Lib.Math.max.name ∈ WA := wa_m (List.mem_of_getElem? (i := 65) rfl) rfl
theorem m_66 : Cond.static Lib.Math.max.name ∈ WA := wa_m (List.mem_of_getElem? (i := 66) rfl) rfl
theorem m_67 : Cond.code Lib.Math.max.name Lib.Math.max.code 2 (some .int) ∈ WA := wa_m (List.mem_of_getElem? (i := 67) rfl) rfl
theorem m_68 : Cond.classLink "DotLines" 22 "DotLines$Coder" ∈ WA := wa_m (List.mem_of_getElem? (i := 68) rfl) rfl
theorem m_69 : Cond.instantiable "DotLines$Coder" 11 ∈ WA := wa_m (List.mem_of_getElem? (i := 69) rfl) rfl
theorem m_70 : Cond.methodLink "DotLines" 24 y_Coder_init ∈ WA := wa_m (List.mem_of_getElem? (i := 70) rfl) rfl
theorem m_71 : Cond.instanceMethod y_Coder_init ∈ WA := wa_m (List.mem_of_getElem? (i := 71) rfl) rfl
theorem m_72 : Cond.code y_Coder_init b_Coder_init 2 none ∈ WA := wa_m (List.mem_of_getElem? (i := 72) rfl) rfl
theorem m_73 : Cond.methodLink "DotLines$Coder" 3 objectInit ∈ WA := wa_m (List.mem_of_getElem? (i := 73) rfl) rfl
theorem m_74 : Cond.classLink "DotLines$Coder" 9 "DotLines$Bits" ∈ WA := wa_m (List.mem_of_getElem? (i := 74) rfl) rfl
theorem m_75 : Cond.instantiable "DotLines$Bits" 2 ∈ WA := wa_m (List.mem_of_getElem? (i := 75) rfl) rfl
theorem m_77 : Cond.instanceMethod y_Bits_init ∈ WA := wa_m (List.mem_of_getElem? (i := 77) rfl) rfl
theorem m_78 : Cond.code y_Bits_init b_Bits_init 1 none ∈ WA := wa_m (List.mem_of_getElem? (i := 78) rfl) rfl
theorem m_79 : Cond.methodLink "DotLines$Bits" 1 objectInit ∈ WA := wa_m (List.mem_of_getElem? (i := 79) rfl) rfl
theorem m_80 : Cond.fieldLink "DotLines$Bits" 9 "DotLines$Bits" "parts" "[J" ∈ WA := wa_m (List.mem_of_getElem? (i := 80) rfl) rfl
theorem m_81 : Cond.fieldLink "DotLines$Bits" 13 "DotLines$Bits" "count" "I" ∈ WA := wa_m (List.mem_of_getElem? (i := 81) rfl) rfl
theorem m_82 : Cond.fieldLink "DotLines$Coder" 65 "DotLines$Bits" "count" "I" ∈ WA := wa_m (List.mem_of_getElem? (i := 82) rfl) rfl
theorem m_83 : Cond.fieldLink "DotLines$Reader" 91 "DotLines$Bits" "count" "I" ∈ WA := wa_m (List.mem_of_getElem? (i := 83) rfl) rfl
theorem m_84 : Cond.fieldLink "DotLines" 119 "DotLines$Bits" "count" "I" ∈ WA := wa_m (List.mem_of_getElem? (i := 84) rfl) rfl
theorem m_90 : Cond.arrayClass .long ∈ WA := wa_m (List.mem_of_getElem? (i := 90) rfl) rfl
theorem m_91 : Cond.classLink "DotLines$Coder" 22 "DotLines$Line" ∈ WA := wa_m (List.mem_of_getElem? (i := 91) rfl) rfl
theorem m_92 : Cond.instantiable "DotLines$Line" 4 ∈ WA := wa_m (List.mem_of_getElem? (i := 92) rfl) rfl
theorem m_93 : Cond.methodLink "DotLines$Coder" 24 y_Line_init ∈ WA := wa_m (List.mem_of_getElem? (i := 93) rfl) rfl
theorem m_94 : Cond.instanceMethod y_Line_init ∈ WA := wa_m (List.mem_of_getElem? (i := 94) rfl) rfl
theorem m_95 : Cond.code y_Line_init b_Line_init 2 none ∈ WA := wa_m (List.mem_of_getElem? (i := 95) rfl) rfl
theorem m_96 : Cond.methodLink "DotLines$Line" 1 objectInit ∈ WA := wa_m (List.mem_of_getElem? (i := 96) rfl) rfl
theorem m_97 : Cond.fieldLink "DotLines$Line" 7 "DotLines$Line" "width" "I" ∈ WA := wa_m (List.mem_of_getElem? (i := 97) rfl) rfl
theorem m_98 : Cond.fieldLink "DotLines$Line" 13 "DotLines$Line" "parts" "[J" ∈ WA := wa_m (List.mem_of_getElem? (i := 98) rfl) rfl
theorem m_99 : Cond.fieldLink "DotLines$Line" 17 "DotLines$Line" "changes" "[I" ∈ WA := wa_m (List.mem_of_getElem? (i := 99) rfl) rfl
theorem m_100 : Cond.fieldLink "DotLines$Line" 27 "DotLines$Line" "changeCount" "I" ∈ WA := wa_m (List.mem_of_getElem? (i := 100) rfl) rfl
theorem m_101 : Cond.fieldLink "DotLines" 112 "DotLines$Line" "changeCount" "I" ∈ WA := wa_m (List.mem_of_getElem? (i := 101) rfl) rfl
theorem m_111 : Cond.arrayClass .int ∈ WA := wa_m (List.mem_of_getElem? (i := 111) rfl) rfl
theorem m_112 : Cond.classLink "DotLines$Coder" 34 "DotLines$Spot" ∈ WA := wa_m (List.mem_of_getElem? (i := 112) rfl) rfl
theorem m_113 : Cond.instantiable "DotLines$Spot" 6 ∈ WA := wa_m (List.mem_of_getElem? (i := 113) rfl) rfl
theorem m_114 : Cond.methodLink "DotLines$Coder" 36 y_Spot_init ∈ WA := wa_m (List.mem_of_getElem? (i := 114) rfl) rfl
theorem m_115 : Cond.instanceMethod y_Spot_init ∈ WA := wa_m (List.mem_of_getElem? (i := 115) rfl) rfl
theorem m_116 : Cond.code y_Spot_init b_Spot_init 2 none ∈ WA := wa_m (List.mem_of_getElem? (i := 116) rfl) rfl
theorem m_117 : Cond.methodLink "DotLines$Spot" 1 objectInit ∈ WA := wa_m (List.mem_of_getElem? (i := 117) rfl) rfl
theorem m_118 : Cond.fieldLink "DotLines$Spot" 7 "DotLines$Spot" "above" "LDotLines$Line;" ∈ WA := wa_m (List.mem_of_getElem? (i := 118) rfl) rfl
theorem m_119 : Cond.fieldLink "DotLines$Spot" 13 "DotLines$Spot" "firstRight" "I" ∈ WA := wa_m (List.mem_of_getElem? (i := 119) rfl) rfl
theorem m_120 : Cond.fieldLink "DotLines$Spot" 21 "DotLines$Spot" "a" "I" ∈ WA := wa_m (List.mem_of_getElem? (i := 120) rfl) rfl
theorem m_121 : Cond.fieldLink "DotLines$Reader" 85 "DotLines$Spot" "a" "I" ∈ WA := wa_m (List.mem_of_getElem? (i := 121) rfl) rfl
theorem m_122 : Cond.fieldLink "DotLines$Coder" 101 "DotLines$Spot" "a" "I" ∈ WA := wa_m (List.mem_of_getElem? (i := 122) rfl) rfl
theorem m_123 : Cond.fieldLink "DotLines$Spot" 24 "DotLines$Spot" "inBlack" "Z" ∈ WA := wa_m (List.mem_of_getElem? (i := 123) rfl) rfl
theorem m_124 : Cond.fieldLink "DotLines$Coder" 121 "DotLines$Spot" "inBlack" "Z" ∈ WA := wa_m (List.mem_of_getElem? (i := 124) rfl) rfl
theorem m_125 : Cond.fieldLink "DotLines$Reader" 117 "DotLines$Spot" "inBlack" "Z" ∈ WA := wa_m (List.mem_of_getElem? (i := 125) rfl) rfl
theorem m_126 : Cond.fieldLink "DotLines$Spot" 38 "DotLines$Spot" "b1" "I" ∈ WA := wa_m (List.mem_of_getElem? (i := 126) rfl) rfl
theorem m_127 : Cond.fieldLink "DotLines$Coder" 115 "DotLines$Spot" "b1" "I" ∈ WA := wa_m (List.mem_of_getElem? (i := 127) rfl) rfl
theorem m_128 : Cond.fieldLink "DotLines$Reader" 125 "DotLines$Spot" "b1" "I" ∈ WA := wa_m (List.mem_of_getElem? (i := 128) rfl) rfl
theorem m_129 : Cond.fieldLink "DotLines$Spot" 41 "DotLines$Spot" "b2" "I" ∈ WA := wa_m (List.mem_of_getElem? (i := 129) rfl) rfl
theorem m_130 : Cond.fieldLink "DotLines$Coder" 118 "DotLines$Spot" "b2" "I" ∈ WA := wa_m (List.mem_of_getElem? (i := 130) rfl) rfl
theorem m_131 : Cond.fieldLink "DotLines$Reader" 108 "DotLines$Spot" "b2" "I" ∈ WA := wa_m (List.mem_of_getElem? (i := 131) rfl) rfl
theorem m_145 : Cond.fieldLink "DotLines$Coder" 12 "DotLines$Coder" "output" "LDotLines$Bits;" ∈ WA := wa_m (List.mem_of_getElem? (i := 145) rfl) rfl
theorem m_146 : Cond.fieldLink "DotLines" 67 "DotLines$Coder" "output" "LDotLines$Bits;" ∈ WA := wa_m (List.mem_of_getElem? (i := 146) rfl) rfl
theorem m_147 : Cond.fieldLink "DotLines$Coder" 18 "DotLines$Coder" "width" "I" ∈ WA := wa_m (List.mem_of_getElem? (i := 147) rfl) rfl
theorem m_148 : Cond.fieldLink "DotLines$Coder" 39 "DotLines$Coder" "spot" "LDotLines$Spot;" ∈ WA := wa_m (List.mem_of_getElem? (i := 148) rfl) rfl
theorem m_149 : Cond.fieldLink "DotLines$Coder" 27 "DotLines$Coder" "made" "LDotLines$Line;" ∈ WA := wa_m (List.mem_of_getElem? (i := 149) rfl) rfl
theorem m_150 : Cond.fieldLink "DotLines" 38 "DotLines$Coder" "made" "LDotLines$Line;" ∈ WA := wa_m (List.mem_of_getElem? (i := 150) rfl) rfl
theorem m_151 : Cond.fieldLink "DotLines$Coder" 31 "DotLines$Coder" "above" "LDotLines$Line;" ∈ WA := wa_m (List.mem_of_getElem? (i := 151) rfl) rfl
theorem m_152 : Cond.fieldLink "DotLines$Coder" 46 "DotLines$Coder" "closed" "Z" ∈ WA := wa_m (List.mem_of_getElem? (i := 152) rfl) rfl
theorem m_153 : Cond.fieldLink "DotLines" 122 "DotLines$Coder" "closed" "Z" ∈ WA := wa_m (List.mem_of_getElem? (i := 153) rfl) rfl
theorem m_154 : Cond.fieldLink "DotLines$Coder" 53 "DotLines$Coder" "lines" "I" ∈ WA := wa_m (List.mem_of_getElem? (i := 154) rfl) rfl
theorem m_155 : Cond.fieldLink "DotLines" 129 "DotLines$Coder" "lines" "I" ∈ WA := wa_m (List.mem_of_getElem? (i := 155) rfl) rfl
theorem m_156 : Cond.fieldLink "DotLines$Coder" 56 "DotLines$Coder" "passes" "I" ∈ WA := wa_m (List.mem_of_getElem? (i := 156) rfl) rfl
theorem m_157 : Cond.fieldLink "DotLines" 130 "DotLines$Coder" "passes" "I" ∈ WA := wa_m (List.mem_of_getElem? (i := 157) rfl) rfl
theorem m_158 : Cond.fieldLink "DotLines$Coder" 59 "DotLines$Coder" "shifts" "I" ∈ WA := wa_m (List.mem_of_getElem? (i := 158) rfl) rfl
theorem m_159 : Cond.fieldLink "DotLines" 133 "DotLines$Coder" "shifts" "I" ∈ WA := wa_m (List.mem_of_getElem? (i := 159) rfl) rfl
theorem m_160 : Cond.fieldLink "DotLines$Coder" 62 "DotLines$Coder" "acrosses" "I" ∈ WA := wa_m (List.mem_of_getElem? (i := 160) rfl) rfl
theorem m_161 : Cond.fieldLink "DotLines" 136 "DotLines$Coder" "acrosses" "I" ∈ WA := wa_m (List.mem_of_getElem? (i := 161) rfl) rfl
theorem m_162 : Cond.fieldLink "DotLines$Coder" 71 "DotLines$Coder" "fits" "Z" ∈ WA := wa_m (List.mem_of_getElem? (i := 162) rfl) rfl
theorem m_186 : Cond.classLink "DotLines" 31 "DotLines$Reader" ∈ WA := wa_m (List.mem_of_getElem? (i := 186) rfl) rfl
theorem m_187 : Cond.instantiable "DotLines$Reader" 10 ∈ WA := wa_m (List.mem_of_getElem? (i := 187) rfl) rfl
theorem m_188 : Cond.methodLink "DotLines" 33 y_Reader_init ∈ WA := wa_m (List.mem_of_getElem? (i := 188) rfl) rfl
theorem m_189 : Cond.instanceMethod y_Reader_init ∈ WA := wa_m (List.mem_of_getElem? (i := 189) rfl) rfl
theorem m_190 : Cond.code y_Reader_init b_Reader_init 2 none ∈ WA := wa_m (List.mem_of_getElem? (i := 190) rfl) rfl
theorem m_191 : Cond.methodLink "DotLines$Reader" 1 objectInit ∈ WA := wa_m (List.mem_of_getElem? (i := 191) rfl) rfl
theorem m_192 : Cond.classLink "DotLines$Reader" 7 "DotLines$Bits" ∈ WA := wa_m (List.mem_of_getElem? (i := 192) rfl) rfl
theorem m_194 : Cond.classLink "DotLines$Reader" 16 "DotLines$WordTree" ∈ WA := wa_m (List.mem_of_getElem? (i := 194) rfl) rfl
theorem m_195 : Cond.instantiable "DotLines$WordTree" 2 ∈ WA := wa_m (List.mem_of_getElem? (i := 195) rfl) rfl
theorem m_196 : Cond.methodLink "DotLines$Reader" 18 y_Tree_init ∈ WA := wa_m (List.mem_of_getElem? (i := 196) rfl) rfl
theorem m_197 : Cond.instanceMethod y_Tree_init ∈ WA := wa_m (List.mem_of_getElem? (i := 197) rfl) rfl
theorem m_198 : Cond.code y_Tree_init b_Tree_init 2 none ∈ WA := wa_m (List.mem_of_getElem? (i := 198) rfl) rfl
theorem m_199 : Cond.methodLink "DotLines$WordTree" 1 objectInit ∈ WA := wa_m (List.mem_of_getElem? (i := 199) rfl) rfl
theorem m_200 : Cond.methodLink "DotLines$WordTree" 19 y_Words_step ∈ WA := wa_m (List.mem_of_getElem? (i := 200) rfl) rfl
theorem m_201 : Cond.static y_Words_step ∈ WA := wa_m (List.mem_of_getElem? (i := 201) rfl) rfl
theorem m_202 : Cond.code y_Words_step b_Words_step 1 (some .int) ∈ WA := wa_m (List.mem_of_getElem? (i := 202) rfl) rfl
theorem m_203 : Cond.fieldLink "DotLines$Words" 13 "DotLines$Words" "STEPS" "[I" ∈ WA := wa_m (List.mem_of_getElem? (i := 203) rfl) rfl
theorem m_205 : Cond.methodLink "DotLines$Words" 19 y_Words_at ∈ WA := wa_m (List.mem_of_getElem? (i := 205) rfl) rfl
theorem m_206 : Cond.static y_Words_at ∈ WA := wa_m (List.mem_of_getElem? (i := 206) rfl) rfl
theorem m_207 : Cond.code y_Words_at b_Words_at 2 (some .int) ∈ WA := wa_m (List.mem_of_getElem? (i := 207) rfl) rfl
theorem m_208 : Cond.methodLink "DotLines$WordTree" 23 y_Tree_put ∈ WA := wa_m (List.mem_of_getElem? (i := 208) rfl) rfl
theorem m_210 : Cond.instanceMethod y_Tree_put ∈ WA := wa_m (List.mem_of_getElem? (i := 210) rfl) rfl
theorem m_211 : Cond.code y_Tree_put b_Tree_put 6 none ∈ WA := wa_m (List.mem_of_getElem? (i := 211) rfl) rfl
theorem m_212 : Cond.methodLink "DotLines$WordTree" 34 y_Words_length ∈ WA := wa_m (List.mem_of_getElem? (i := 212) rfl) rfl
theorem m_213 : Cond.static y_Words_length ∈ WA := wa_m (List.mem_of_getElem? (i := 213) rfl) rfl
theorem m_214 : Cond.code y_Words_length b_Words_length 1 (some .int) ∈ WA := wa_m (List.mem_of_getElem? (i := 214) rfl) rfl
theorem m_215 : Cond.methodLink "DotLines$Words" 7 y_Integer_numberOfLeadingZeros ∈ WA := wa_m (List.mem_of_getElem? (i := 215) rfl) rfl
theorem m_216 : Cond.static y_Integer_numberOfLeadingZeros ∈ WA := wa_m (List.mem_of_getElem? (i := 216) rfl) rfl
theorem m_217 : Cond.code y_Integer_numberOfLeadingZeros b_Integer_numberOfLeadingZeros 2 (some .int) ∈ WA := wa_m (List.mem_of_getElem? (i := 217) rfl) rfl
theorem m_218 : Cond.constant "java/lang/Integer" 264 65536 ∈ WA := wa_m (List.mem_of_getElem? (i := 218) rfl) rfl
theorem m_219 : Cond.methodLink "DotLines$WordTree" 37 y_Tree_grow ∈ WA := wa_m (List.mem_of_getElem? (i := 219) rfl) rfl
theorem m_221 : Cond.instanceMethod y_Tree_grow ∈ WA := wa_m (List.mem_of_getElem? (i := 221) rfl) rfl
theorem m_222 : Cond.code y_Tree_grow b_Tree_grow 3 (some .int) ∈ WA := wa_m (List.mem_of_getElem? (i := 222) rfl) rfl
theorem m_223 : Cond.methodLink "DotLines$WordTree" 44 y_Tree_follow ∈ WA := wa_m (List.mem_of_getElem? (i := 223) rfl) rfl
theorem m_224 : Cond.instanceMethod y_Tree_follow ∈ WA := wa_m (List.mem_of_getElem? (i := 224) rfl) rfl
theorem m_225 : Cond.selects "DotLines$WordTree" y_Tree_follow y_Tree_follow ∈ WA := wa_m (List.mem_of_getElem? (i := 225) rfl) rfl
theorem m_226 : Cond.code y_Tree_follow b_Tree_follow 4 (some .int) ∈ WA := wa_m (List.mem_of_getElem? (i := 226) rfl) rfl
theorem m_227 : Cond.methodLink "DotLines$WordTree" 41 y_Tree_set ∈ WA := wa_m (List.mem_of_getElem? (i := 227) rfl) rfl
theorem m_229 : Cond.instanceMethod y_Tree_set ∈ WA := wa_m (List.mem_of_getElem? (i := 229) rfl) rfl
theorem m_230 : Cond.code y_Tree_set b_Tree_set 5 none ∈ WA := wa_m (List.mem_of_getElem? (i := 230) rfl) rfl
theorem m_231 : Cond.methodLink "DotLines$WordTree" 27 y_Words_rest ∈ WA := wa_m (List.mem_of_getElem? (i := 231) rfl) rfl
theorem m_232 : Cond.static y_Words_rest ∈ WA := wa_m (List.mem_of_getElem? (i := 232) rfl) rfl
theorem m_233 : Cond.code y_Words_rest b_Words_rest 2 (some .int) ∈ WA := wa_m (List.mem_of_getElem? (i := 233) rfl) rfl
theorem m_234 : Cond.fieldLink "DotLines$Words" 23 "DotLines$Words" "BLACK_RESTS" "[I" ∈ WA := wa_m (List.mem_of_getElem? (i := 234) rfl) rfl
theorem m_236 : Cond.fieldLink "DotLines$Words" 26 "DotLines$Words" "WHITE_RESTS" "[I" ∈ WA := wa_m (List.mem_of_getElem? (i := 236) rfl) rfl
theorem m_238 : Cond.methodLink "DotLines$WordTree" 31 y_Words_block ∈ WA := wa_m (List.mem_of_getElem? (i := 238) rfl) rfl
theorem m_239 : Cond.static y_Words_block ∈ WA := wa_m (List.mem_of_getElem? (i := 239) rfl) rfl
theorem m_240 : Cond.code y_Words_block b_Words_block 3 (some .int) ∈ WA := wa_m (List.mem_of_getElem? (i := 240) rfl) rfl
theorem m_241 : Cond.fieldLink "DotLines$Words" 29 "DotLines$Words" "WHITE_BLOCKS" "[I" ∈ WA := wa_m (List.mem_of_getElem? (i := 241) rfl) rfl
theorem m_243 : Cond.fieldLink "DotLines$Words" 32 "DotLines$Words" "LONG_BLOCKS" "[I" ∈ WA := wa_m (List.mem_of_getElem? (i := 243) rfl) rfl
theorem m_245 : Cond.fieldLink "DotLines$Words" 35 "DotLines$Words" "BLACK_BLOCKS" "[I" ∈ WA := wa_m (List.mem_of_getElem? (i := 245) rfl) rfl
theorem m_247 : Cond.fieldLink "DotLines$WordTree" 9 "DotLines$WordTree" "branches" "[I" ∈ WA := wa_m (List.mem_of_getElem? (i := 247) rfl) rfl
theorem m_248 : Cond.fieldLink "DotLines$WordTree" 13 "DotLines$WordTree" "nodes" "I" ∈ WA := wa_m (List.mem_of_getElem? (i := 248) rfl) rfl
theorem m_254 : Cond.classLink "DotLines$Reader" 27 "DotLines$Line" ∈ WA := wa_m (List.mem_of_getElem? (i := 254) rfl) rfl
theorem m_255 : Cond.methodLink "DotLines$Reader" 29 y_Line_init ∈ WA := wa_m (List.mem_of_getElem? (i := 255) rfl) rfl
theorem m_256 : Cond.classLink "DotLines$Reader" 39 "DotLines$Spot" ∈ WA := wa_m (List.mem_of_getElem? (i := 256) rfl) rfl
theorem m_257 : Cond.methodLink "DotLines$Reader" 41 y_Spot_init ∈ WA := wa_m (List.mem_of_getElem? (i := 257) rfl) rfl
theorem m_258 : Cond.fieldLink "DotLines$Reader" 10 "DotLines$Reader" "input" "LDotLines$Bits;" ∈ WA := wa_m (List.mem_of_getElem? (i := 258) rfl) rfl
theorem m_259 : Cond.fieldLink "DotLines" 77 "DotLines$Reader" "input" "LDotLines$Bits;" ∈ WA := wa_m (List.mem_of_getElem? (i := 259) rfl) rfl
theorem m_260 : Cond.fieldLink "DotLines$Reader" 19 "DotLines$Reader" "tree" "LDotLines$WordTree;" ∈ WA := wa_m (List.mem_of_getElem? (i := 260) rfl) rfl
theorem m_261 : Cond.fieldLink "DotLines$Reader" 23 "DotLines$Reader" "width" "I" ∈ WA := wa_m (List.mem_of_getElem? (i := 261) rfl) rfl
theorem m_262 : Cond.fieldLink "DotLines$Reader" 44 "DotLines$Reader" "spot" "LDotLines$Spot;" ∈ WA := wa_m (List.mem_of_getElem? (i := 262) rfl) rfl
theorem m_263 : Cond.fieldLink "DotLines$Reader" 32 "DotLines$Reader" "above" "LDotLines$Line;" ∈ WA := wa_m (List.mem_of_getElem? (i := 263) rfl) rfl
theorem m_264 : Cond.fieldLink "DotLines" 108 "DotLines$Reader" "above" "LDotLines$Line;" ∈ WA := wa_m (List.mem_of_getElem? (i := 264) rfl) rfl
theorem m_265 : Cond.fieldLink "DotLines$Reader" 36 "DotLines$Reader" "fresh" "LDotLines$Line;" ∈ WA := wa_m (List.mem_of_getElem? (i := 265) rfl) rfl
theorem m_266 : Cond.fieldLink "DotLines$Reader" 54 "DotLines$Reader" "lines" "I" ∈ WA := wa_m (List.mem_of_getElem? (i := 266) rfl) rfl
theorem m_267 : Cond.fieldLink "DotLines" 126 "DotLines$Reader" "lines" "I" ∈ WA := wa_m (List.mem_of_getElem? (i := 267) rfl) rfl
theorem m_268 : Cond.fieldLink "DotLines$Reader" 57 "DotLines$Reader" "at" "I" ∈ WA := wa_m (List.mem_of_getElem? (i := 268) rfl) rfl
theorem m_269 : Cond.fieldLink "DotLines" 139 "DotLines$Reader" "at" "I" ∈ WA := wa_m (List.mem_of_getElem? (i := 269) rfl) rfl
theorem m_270 : Cond.fieldLink "DotLines$Reader" 88 "DotLines$Reader" "wordAt" "I" ∈ WA := wa_m (List.mem_of_getElem? (i := 270) rfl) rfl
theorem m_271 : Cond.fieldLink "DotLines$Reader" 48 "DotLines$Reader" "answer" "I" ∈ WA := wa_m (List.mem_of_getElem? (i := 271) rfl) rfl
theorem m_293 : Cond.fieldLink "DotLines" 18 "DotLines" "width" "I" ∈ WA := wa_m (List.mem_of_getElem? (i := 293) rfl) rfl
theorem m_294 : Cond.fieldLink "DotLines" 27 "DotLines" "coder" "LDotLines$Coder;" ∈ WA := wa_m (List.mem_of_getElem? (i := 294) rfl) rfl
theorem m_295 : Cond.fieldLink "DotLines" 34 "DotLines" "reader" "LDotLines$Reader;" ∈ WA := wa_m (List.mem_of_getElem? (i := 295) rfl) rfl
theorem m_303 : Cond.methodLink "DotLinesLaw" 42 y_DL_paint ∈ WA := wa_m (List.mem_of_getElem? (i := 303) rfl) rfl
theorem m_304 : Cond.instanceMethod y_DL_paint ∈ WA := wa_m (List.mem_of_getElem? (i := 304) rfl) rfl
theorem m_305 : Cond.selects "DotLines" y_DL_paint y_DL_paint ∈ WA := wa_m (List.mem_of_getElem? (i := 305) rfl) rfl
theorem m_306 : Cond.code y_DL_paint b_DL_paint 4 (some .boolean) ∈ WA := wa_m (List.mem_of_getElem? (i := 306) rfl) rfl
theorem m_307 : Cond.methodLink "DotLines" 42 y_Line_fill ∈ WA := wa_m (List.mem_of_getElem? (i := 307) rfl) rfl
theorem m_308 : Cond.instanceMethod y_Line_fill ∈ WA := wa_m (List.mem_of_getElem? (i := 308) rfl) rfl
theorem m_309 : Cond.selects "DotLines$Line" y_Line_fill y_Line_fill ∈ WA := wa_m (List.mem_of_getElem? (i := 309) rfl) rfl
theorem m_310 : Cond.code y_Line_fill b_Line_fill 9 none ∈ WA := wa_m (List.mem_of_getElem? (i := 310) rfl) rfl
theorem m_311 : Cond.methodLink "DotLines$Line" 30 Lib.Math.max.name ∈ WA := wa_m (List.mem_of_getElem? (i := 311) rfl) rfl
theorem m_312 : Cond.methodLink "DotLines$Line" 36 Lib.Math.min.name ∈ WA := wa_m (List.mem_of_getElem? (i := 312) rfl) rfl
theorem m_313 : Cond.constantLong "DotLines$Line" 39 (-1) ∈ WA := wa_m (List.mem_of_getElem? (i := 313) rfl) rfl
theorem m_314 : Cond.methodLink "DotLinesLaw" 57 y_DL_clear ∈ WA := wa_m (List.mem_of_getElem? (i := 314) rfl) rfl
theorem m_315 : Cond.instanceMethod y_DL_clear ∈ WA := wa_m (List.mem_of_getElem? (i := 315) rfl) rfl
theorem m_316 : Cond.selects "DotLines" y_DL_clear y_DL_clear ∈ WA := wa_m (List.mem_of_getElem? (i := 316) rfl) rfl
theorem m_317 : Cond.code y_DL_clear b_DL_clear 1 none ∈ WA := wa_m (List.mem_of_getElem? (i := 317) rfl) rfl
theorem m_318 : Cond.methodLink "DotLines" 64 y_Coder_begin ∈ WA := wa_m (List.mem_of_getElem? (i := 318) rfl) rfl
theorem m_319 : Cond.instanceMethod y_Coder_begin ∈ WA := wa_m (List.mem_of_getElem? (i := 319) rfl) rfl
theorem m_320 : Cond.selects "DotLines$Coder" y_Coder_begin y_Coder_begin ∈ WA := wa_m (List.mem_of_getElem? (i := 320) rfl) rfl
theorem m_321 : Cond.code y_Coder_begin b_Coder_begin 1 none ∈ WA := wa_m (List.mem_of_getElem? (i := 321) rfl) rfl
theorem m_322 : Cond.methodLink "DotLines$Coder" 43 y_Bits_cut ∈ WA := wa_m (List.mem_of_getElem? (i := 322) rfl) rfl
theorem m_323 : Cond.instanceMethod y_Bits_cut ∈ WA := wa_m (List.mem_of_getElem? (i := 323) rfl) rfl
theorem m_324 : Cond.selects "DotLines$Bits" y_Bits_cut y_Bits_cut ∈ WA := wa_m (List.mem_of_getElem? (i := 324) rfl) rfl
theorem m_325 : Cond.code y_Bits_cut b_Bits_cut 4 none ∈ WA := wa_m (List.mem_of_getElem? (i := 325) rfl) rfl
theorem m_326 : Cond.constantLong "DotLines$Bits" 18 (-1) ∈ WA := wa_m (List.mem_of_getElem? (i := 326) rfl) rfl
theorem m_327 : Cond.methodLink "DotLines$Coder" 50 y_Line_whiten ∈ WA := wa_m (List.mem_of_getElem? (i := 327) rfl) rfl
theorem m_328 : Cond.instanceMethod y_Line_whiten ∈ WA := wa_m (List.mem_of_getElem? (i := 328) rfl) rfl
theorem m_329 : Cond.selects "DotLines$Line" y_Line_whiten y_Line_whiten ∈ WA := wa_m (List.mem_of_getElem? (i := 329) rfl) rfl
theorem m_330 : Cond.code y_Line_whiten b_Line_whiten 1 none ∈ WA := wa_m (List.mem_of_getElem? (i := 330) rfl) rfl
theorem m_331 : Cond.methodLink "DotLines$Line" 21 y_Arrays_fill ∈ WA := wa_m (List.mem_of_getElem? (i := 331) rfl) rfl
theorem m_332 : Cond.static y_Arrays_fill ∈ WA := wa_m (List.mem_of_getElem? (i := 332) rfl) rfl
theorem m_333 : Cond.code y_Arrays_fill b_Arrays_fill 5 none ∈ WA := wa_m (List.mem_of_getElem? (i := 333) rfl) rfl
theorem m_334 : Cond.methodLink "DotLinesLaw" 61 y_DL_out ∈ WA := wa_m (List.mem_of_getElem? (i := 334) rfl) rfl
theorem m_335 : Cond.instanceMethod y_DL_out ∈ WA := wa_m (List.mem_of_getElem? (i := 335) rfl) rfl
theorem m_336 : Cond.selects "DotLines" y_DL_out y_DL_out ∈ WA := wa_m (List.mem_of_getElem? (i := 336) rfl) rfl
theorem m_337 : Cond.code y_DL_out b_DL_out 2 (some .long) ∈ WA := wa_m (List.mem_of_getElem? (i := 337) rfl) rfl
theorem m_338 : Cond.methodLink "DotLines" 71 y_Bits_part ∈ WA := wa_m (List.mem_of_getElem? (i := 338) rfl) rfl
theorem m_339 : Cond.instanceMethod y_Bits_part ∈ WA := wa_m (List.mem_of_getElem? (i := 339) rfl) rfl
theorem m_340 : Cond.selects "DotLines$Bits" y_Bits_part y_Bits_part ∈ WA := wa_m (List.mem_of_getElem? (i := 340) rfl) rfl
theorem m_341 : Cond.code y_Bits_part b_Bits_part 2 (some .long) ∈ WA := wa_m (List.mem_of_getElem? (i := 341) rfl) rfl
theorem m_342 : Cond.methodLink "DotLinesLaw" 68 y_DL_give ∈ WA := wa_m (List.mem_of_getElem? (i := 342) rfl) rfl
theorem m_343 : Cond.instanceMethod y_DL_give ∈ WA := wa_m (List.mem_of_getElem? (i := 343) rfl) rfl
theorem m_344 : Cond.selects "DotLines" y_DL_give y_DL_give ∈ WA := wa_m (List.mem_of_getElem? (i := 344) rfl) rfl
theorem m_345 : Cond.code y_DL_give b_DL_give 4 (some .boolean) ∈ WA := wa_m (List.mem_of_getElem? (i := 345) rfl) rfl
theorem m_346 : Cond.methodLink "DotLines" 80 y_Bits_add ∈ WA := wa_m (List.mem_of_getElem? (i := 346) rfl) rfl
theorem m_347 : Cond.instanceMethod y_Bits_add ∈ WA := wa_m (List.mem_of_getElem? (i := 347) rfl) rfl
theorem m_348 : Cond.selects "DotLines$Bits" y_Bits_add y_Bits_add ∈ WA := wa_m (List.mem_of_getElem? (i := 348) rfl) rfl
theorem m_349 : Cond.code y_Bits_add b_Bits_add 8 (some .boolean) ∈ WA := wa_m (List.mem_of_getElem? (i := 349) rfl) rfl
theorem m_350 : Cond.constant "DotLines$Bits" 17 524288 ∈ WA := wa_m (List.mem_of_getElem? (i := 350) rfl) rfl
theorem m_351 : Cond.methodLink "DotLinesLaw" 77 y_DL_wipe ∈ WA := wa_m (List.mem_of_getElem? (i := 351) rfl) rfl
theorem m_352 : Cond.instanceMethod y_DL_wipe ∈ WA := wa_m (List.mem_of_getElem? (i := 352) rfl) rfl
theorem m_353 : Cond.selects "DotLines" y_DL_wipe y_DL_wipe ∈ WA := wa_m (List.mem_of_getElem? (i := 353) rfl) rfl
theorem m_354 : Cond.code y_DL_wipe b_DL_wipe 1 none ∈ WA := wa_m (List.mem_of_getElem? (i := 354) rfl) rfl
theorem m_355 : Cond.methodLink "DotLines" 97 y_Bits_cut ∈ WA := wa_m (List.mem_of_getElem? (i := 355) rfl) rfl
theorem m_356 : Cond.methodLink "DotLines" 96 y_Reader_begin ∈ WA := wa_m (List.mem_of_getElem? (i := 356) rfl) rfl
theorem m_357 : Cond.instanceMethod y_Reader_begin ∈ WA := wa_m (List.mem_of_getElem? (i := 357) rfl) rfl
theorem m_358 : Cond.selects "DotLines$Reader" y_Reader_begin y_Reader_begin ∈ WA := wa_m (List.mem_of_getElem? (i := 358) rfl) rfl
theorem m_359 : Cond.code y_Reader_begin b_Reader_begin 1 none ∈ WA := wa_m (List.mem_of_getElem? (i := 359) rfl) rfl
theorem m_360 : Cond.methodLink "DotLines$Reader" 51 y_Line_whiten ∈ WA := wa_m (List.mem_of_getElem? (i := 360) rfl) rfl
theorem m_361 : Cond.methodLink "DotLinesLaw" 81 y_DL_rewind ∈ WA := wa_m (List.mem_of_getElem? (i := 361) rfl) rfl
theorem m_362 : Cond.instanceMethod y_DL_rewind ∈ WA := wa_m (List.mem_of_getElem? (i := 362) rfl) rfl
theorem m_363 : Cond.selects "DotLines" y_DL_rewind y_DL_rewind ∈ WA := wa_m (List.mem_of_getElem? (i := 363) rfl) rfl
theorem m_364 : Cond.code y_DL_rewind b_DL_rewind 1 none ∈ WA := wa_m (List.mem_of_getElem? (i := 364) rfl) rfl
theorem m_365 : Cond.methodLink "DotLinesLaw" 85 y_DL_read ∈ WA := wa_m (List.mem_of_getElem? (i := 365) rfl) rfl
theorem m_366 : Cond.instanceMethod y_DL_read ∈ WA := wa_m (List.mem_of_getElem? (i := 366) rfl) rfl
theorem m_367 : Cond.selects "DotLines" y_DL_read y_DL_read ∈ WA := wa_m (List.mem_of_getElem? (i := 367) rfl) rfl
theorem m_368 : Cond.code y_DL_read b_DL_read 1 (some .int) ∈ WA := wa_m (List.mem_of_getElem? (i := 368) rfl) rfl
theorem m_369 : Cond.methodLink "DotLines" 100 y_Reader_nextLine ∈ WA := wa_m (List.mem_of_getElem? (i := 369) rfl) rfl
theorem m_370 : Cond.instanceMethod y_Reader_nextLine ∈ WA := wa_m (List.mem_of_getElem? (i := 370) rfl) rfl
theorem m_371 : Cond.selects "DotLines$Reader" y_Reader_nextLine y_Reader_nextLine ∈ WA := wa_m (List.mem_of_getElem? (i := 371) rfl) rfl
theorem m_372 : Cond.code y_Reader_nextLine b_Reader_nextLine 2 (some .int) ∈ WA := wa_m (List.mem_of_getElem? (i := 372) rfl) rfl
theorem m_373 : Cond.methodLink "DotLines$Reader" 60 y_Spot_begin ∈ WA := wa_m (List.mem_of_getElem? (i := 373) rfl) rfl
theorem m_374 : Cond.instanceMethod y_Spot_begin ∈ WA := wa_m (List.mem_of_getElem? (i := 374) rfl) rfl
theorem m_375 : Cond.selects "DotLines$Spot" y_Spot_begin y_Spot_begin ∈ WA := wa_m (List.mem_of_getElem? (i := 375) rfl) rfl
theorem m_376 : Cond.code y_Spot_begin b_Spot_begin 2 none ∈ WA := wa_m (List.mem_of_getElem? (i := 376) rfl) rfl
theorem m_377 : Cond.methodLink "DotLines$Spot" 17 y_Spot_move ∈ WA := wa_m (List.mem_of_getElem? (i := 377) rfl) rfl
theorem m_378 : Cond.instanceMethod y_Spot_move ∈ WA := wa_m (List.mem_of_getElem? (i := 378) rfl) rfl
theorem m_379 : Cond.selects "DotLines$Spot" y_Spot_move y_Spot_move ∈ WA := wa_m (List.mem_of_getElem? (i := 379) rfl) rfl
theorem m_380 : Cond.code y_Spot_move b_Spot_move 5 none ∈ WA := wa_m (List.mem_of_getElem? (i := 380) rfl) rfl
theorem m_381 : Cond.methodLink "DotLines$Spot" 28 y_Line_firstRightOf ∈ WA := wa_m (List.mem_of_getElem? (i := 381) rfl) rfl
theorem m_382 : Cond.instanceMethod y_Line_firstRightOf ∈ WA := wa_m (List.mem_of_getElem? (i := 382) rfl) rfl
theorem m_383 : Cond.selects "DotLines$Line" y_Line_firstRightOf y_Line_firstRightOf ∈ WA := wa_m (List.mem_of_getElem? (i := 383) rfl) rfl
theorem m_384 : Cond.code y_Line_firstRightOf b_Line_firstRightOf 4 (some .int) ∈ WA := wa_m (List.mem_of_getElem? (i := 384) rfl) rfl
theorem m_385 : Cond.methodLink "DotLines$Line" 54 y_Line_placeOf ∈ WA := wa_m (List.mem_of_getElem? (i := 385) rfl) rfl
theorem m_386 : Cond.instanceMethod y_Line_placeOf ∈ WA := wa_m (List.mem_of_getElem? (i := 386) rfl) rfl
theorem m_387 : Cond.selects "DotLines$Line" y_Line_placeOf y_Line_placeOf ∈ WA := wa_m (List.mem_of_getElem? (i := 387) rfl) rfl
theorem m_388 : Cond.code y_Line_placeOf b_Line_placeOf 2 (some .int) ∈ WA := wa_m (List.mem_of_getElem? (i := 388) rfl) rfl
theorem m_389 : Cond.methodLink "DotLines$Spot" 34 y_Line_placeOf ∈ WA := wa_m (List.mem_of_getElem? (i := 389) rfl) rfl
theorem m_390 : Cond.methodLink "DotLines$Reader" 63 y_Reader_readSteps ∈ WA := wa_m (List.mem_of_getElem? (i := 390) rfl) rfl
theorem m_392 : Cond.instanceMethod y_Reader_readSteps ∈ WA := wa_m (List.mem_of_getElem? (i := 392) rfl) rfl
theorem m_393 : Cond.code y_Reader_readSteps b_Reader_readSteps 4 (some .int) ∈ WA := wa_m (List.mem_of_getElem? (i := 393) rfl) rfl
theorem m_394 : Cond.methodLink "DotLines$Reader" 70 y_Reader_take ∈ WA := wa_m (List.mem_of_getElem? (i := 394) rfl) rfl
theorem m_396 : Cond.instanceMethod y_Reader_take ∈ WA := wa_m (List.mem_of_getElem? (i := 396) rfl) rfl
theorem m_397 : Cond.code y_Reader_take b_Reader_take 4 (some .int) ∈ WA := wa_m (List.mem_of_getElem? (i := 397) rfl) rfl
theorem m_398 : Cond.methodLink "DotLines$Reader" 94 y_Bits_bit ∈ WA := wa_m (List.mem_of_getElem? (i := 398) rfl) rfl
theorem m_399 : Cond.instanceMethod y_Bits_bit ∈ WA := wa_m (List.mem_of_getElem? (i := 399) rfl) rfl
theorem m_400 : Cond.selects "DotLines$Bits" y_Bits_bit y_Bits_bit ∈ WA := wa_m (List.mem_of_getElem? (i := 400) rfl) rfl
set_option maxRecDepth 20000 in theorem m_401 : Cond.code y_Bits_bit b_Bits_bit 3 (some .int) ∈ WA := wa_m (List.mem_of_getElem? (i := 401) rfl) rfl
set_option maxRecDepth 20000 in theorem m_402 : Cond.methodLink "DotLines$Reader" 97 y_Tree_follow ∈ WA := wa_m (List.mem_of_getElem? (i := 402) rfl) rfl
set_option maxRecDepth 20000 in theorem m_403 : Cond.methodLink "DotLines$Reader" 101 y_Tree_isWord ∈ WA := wa_m (List.mem_of_getElem? (i := 403) rfl) rfl
set_option maxRecDepth 20000 in theorem m_404 : Cond.static y_Tree_isWord ∈ WA := wa_m (List.mem_of_getElem? (i := 404) rfl) rfl
set_option maxRecDepth 20000 in theorem m_405 : Cond.code y_Tree_isWord b_Tree_isWord 1 (some .boolean) ∈ WA := wa_m (List.mem_of_getElem? (i := 405) rfl) rfl
set_option maxRecDepth 20000 in theorem m_406 : Cond.methodLink "DotLines$Reader" 105 y_Tree_meaning ∈ WA := wa_m (List.mem_of_getElem? (i := 406) rfl) rfl
set_option maxRecDepth 20000 in theorem m_407 : Cond.static y_Tree_meaning ∈ WA := wa_m (List.mem_of_getElem? (i := 407) rfl) rfl
set_option maxRecDepth 20000 in theorem m_408 : Cond.code y_Tree_meaning b_Tree_meaning 1 (some .int) ∈ WA := wa_m (List.mem_of_getElem? (i := 408) rfl) rfl
set_option maxRecDepth 20000 in theorem m_409 : Cond.methodLink "DotLines$Reader" 76 y_Reader_pass ∈ WA := wa_m (List.mem_of_getElem? (i := 409) rfl) rfl
set_option maxRecDepth 20000 in theorem m_411 : Cond.instanceMethod y_Reader_pass ∈ WA := wa_m (List.mem_of_getElem? (i := 411) rfl) rfl
set_option maxRecDepth 20000 in theorem m_412 : Cond.code y_Reader_pass b_Reader_pass 1 (some .int) ∈ WA := wa_m (List.mem_of_getElem? (i := 412) rfl) rfl
set_option maxRecDepth 20000 in theorem m_413 : Cond.methodLink "DotLines$Reader" 111 y_Reader_faultAt ∈ WA := wa_m (List.mem_of_getElem? (i := 413) rfl) rfl
set_option maxRecDepth 20000 in theorem m_415 : Cond.instanceMethod y_Reader_faultAt ∈ WA := wa_m (List.mem_of_getElem? (i := 415) rfl) rfl
set_option maxRecDepth 20000 in theorem m_416 : Cond.code y_Reader_faultAt b_Reader_faultAt 3 (some .int) ∈ WA := wa_m (List.mem_of_getElem? (i := 416) rfl) rfl
set_option maxRecDepth 20000 in theorem m_417 : Cond.methodLink "DotLines$Reader" 114 y_Reader_drawTo ∈ WA := wa_m (List.mem_of_getElem? (i := 417) rfl) rfl
set_option maxRecDepth 20000 in theorem m_419 : Cond.instanceMethod y_Reader_drawTo ∈ WA := wa_m (List.mem_of_getElem? (i := 419) rfl) rfl
set_option maxRecDepth 20000 in theorem m_420 : Cond.code y_Reader_drawTo b_Reader_drawTo 2 none ∈ WA := wa_m (List.mem_of_getElem? (i := 420) rfl) rfl
set_option maxRecDepth 20000 in theorem m_421 : Cond.methodLink "DotLines$Reader" 128 Lib.Math.max.name ∈ WA := wa_m (List.mem_of_getElem? (i := 421) rfl) rfl
set_option maxRecDepth 20000 in theorem m_422 : Cond.methodLink "DotLines$Reader" 137 y_Line_fill ∈ WA := wa_m (List.mem_of_getElem? (i := 422) rfl) rfl
set_option maxRecDepth 20000 in theorem m_423 : Cond.methodLink "DotLines$Reader" 121 y_Spot_move ∈ WA := wa_m (List.mem_of_getElem? (i := 423) rfl) rfl
set_option maxRecDepth 20000 in theorem m_424 : Cond.methodLink "DotLines$Reader" 79 y_Reader_across ∈ WA := wa_m (List.mem_of_getElem? (i := 424) rfl) rfl
set_option maxRecDepth 20000 in theorem m_426 : Cond.instanceMethod y_Reader_across ∈ WA := wa_m (List.mem_of_getElem? (i := 426) rfl) rfl
set_option maxRecDepth 20000 in theorem m_427 : Cond.code y_Reader_across b_Reader_across 5 (some .int) ∈ WA := wa_m (List.mem_of_getElem? (i := 427) rfl) rfl
set_option maxRecDepth 20000 in theorem m_428 : Cond.methodLink "DotLines$Reader" 133 y_Reader_runFrom ∈ WA := wa_m (List.mem_of_getElem? (i := 428) rfl) rfl
set_option maxRecDepth 20000 in theorem m_430 : Cond.instanceMethod y_Reader_runFrom ∈ WA := wa_m (List.mem_of_getElem? (i := 430) rfl) rfl
set_option maxRecDepth 20000 in theorem m_431 : Cond.code y_Reader_runFrom b_Reader_runFrom 6 (some .int) ∈ WA := wa_m (List.mem_of_getElem? (i := 431) rfl) rfl
set_option maxRecDepth 20000 in theorem m_432 : Cond.methodLink "DotLines$Reader" 82 y_Reader_shift ∈ WA := wa_m (List.mem_of_getElem? (i := 432) rfl) rfl
set_option maxRecDepth 20000 in theorem m_434 : Cond.instanceMethod y_Reader_shift ∈ WA := wa_m (List.mem_of_getElem? (i := 434) rfl) rfl
set_option maxRecDepth 20000 in theorem m_435 : Cond.code y_Reader_shift b_Reader_shift 3 (some .int) ∈ WA := wa_m (List.mem_of_getElem? (i := 435) rfl) rfl
set_option maxRecDepth 20000 in theorem m_436 : Cond.methodLink "DotLines$Reader" 67 y_Line_findChanges ∈ WA := wa_m (List.mem_of_getElem? (i := 436) rfl) rfl
set_option maxRecDepth 20000 in theorem m_437 : Cond.instanceMethod y_Line_findChanges ∈ WA := wa_m (List.mem_of_getElem? (i := 437) rfl) rfl
set_option maxRecDepth 20000 in theorem m_438 : Cond.selects "DotLines$Line" y_Line_findChanges y_Line_findChanges ∈ WA := wa_m (List.mem_of_getElem? (i := 438) rfl) rfl
set_option maxRecDepth 20000 in theorem m_439 : Cond.code y_Line_findChanges b_Line_findChanges 6 none ∈ WA := wa_m (List.mem_of_getElem? (i := 439) rfl) rfl
set_option maxRecDepth 20000 in theorem m_440 : Cond.methodLink "DotLines$Line" 41 y_Line_addChanges ∈ WA := wa_m (List.mem_of_getElem? (i := 440) rfl) rfl
set_option maxRecDepth 20000 in theorem m_442 : Cond.instanceMethod y_Line_addChanges ∈ WA := wa_m (List.mem_of_getElem? (i := 442) rfl) rfl
set_option maxRecDepth 20000 in theorem m_443 : Cond.code y_Line_addChanges b_Line_addChanges 8 none ∈ WA := wa_m (List.mem_of_getElem? (i := 443) rfl) rfl
set_option maxRecDepth 20000 in theorem m_444 : Cond.methodLink "DotLines$Line" 45 y_Long_bitCount ∈ WA := wa_m (List.mem_of_getElem? (i := 444) rfl) rfl
set_option maxRecDepth 20000 in theorem m_445 : Cond.static y_Long_bitCount ∈ WA := wa_m (List.mem_of_getElem? (i := 445) rfl) rfl
set_option maxRecDepth 20000 in theorem m_446 : Cond.code y_Long_bitCount b_Long_bitCount 2 (some .int) ∈ WA := wa_m (List.mem_of_getElem? (i := 446) rfl) rfl
set_option maxRecDepth 20000 in theorem m_447 : Cond.constantLong "java/lang/Long" 314 6148914691236517205 ∈ WA := wa_m (List.mem_of_getElem? (i := 447) rfl) rfl
set_option maxRecDepth 20000 in theorem m_448 : Cond.constantLong "java/lang/Long" 316 3689348814741910323 ∈ WA := wa_m (List.mem_of_getElem? (i := 448) rfl) rfl
set_option maxRecDepth 20000 in theorem m_449 : Cond.constantLong "java/lang/Long" 318 1085102592571150095 ∈ WA := wa_m (List.mem_of_getElem? (i := 449) rfl) rfl
set_option maxRecDepth 20000 in theorem m_450 : Cond.methodLink "DotLines$Line" 51 y_Long_numberOfLeadingZeros ∈ WA := wa_m (List.mem_of_getElem? (i := 450) rfl) rfl
set_option maxRecDepth 20000 in theorem m_451 : Cond.static y_Long_numberOfLeadingZeros ∈ WA := wa_m (List.mem_of_getElem? (i := 451) rfl) rfl
set_option maxRecDepth 20000 in theorem m_452 : Cond.code y_Long_numberOfLeadingZeros b_Long_numberOfLeadingZeros 3 (some .int) ∈ WA := wa_m (List.mem_of_getElem? (i := 452) rfl) rfl
set_option maxRecDepth 20000 in theorem m_453 : Cond.methodLink "java/lang/Long" 308 y_Integer_numberOfLeadingZeros ∈ WA := wa_m (List.mem_of_getElem? (i := 453) rfl) rfl
set_option maxRecDepth 20000 in theorem m_454 : Cond.methodLink "DotLinesLaw" 92 y_DL_dots ∈ WA := wa_m (List.mem_of_getElem? (i := 454) rfl) rfl
set_option maxRecDepth 20000 in theorem m_455 : Cond.instanceMethod y_DL_dots ∈ WA := wa_m (List.mem_of_getElem? (i := 455) rfl) rfl
set_option maxRecDepth 20000 in theorem m_456 : Cond.selects "DotLines" y_DL_dots y_DL_dots ∈ WA := wa_m (List.mem_of_getElem? (i := 456) rfl) rfl
set_option maxRecDepth 20000 in theorem m_457 : Cond.code y_DL_dots b_DL_dots 2 (some .long) ∈ WA := wa_m (List.mem_of_getElem? (i := 457) rfl) rfl
set_option maxRecDepth 20000 in theorem m_458 : Cond.methodLink "DotLines" 111 y_Line_part ∈ WA := wa_m (List.mem_of_getElem? (i := 458) rfl) rfl
set_option maxRecDepth 20000 in theorem m_459 : Cond.instanceMethod y_Line_part ∈ WA := wa_m (List.mem_of_getElem? (i := 459) rfl) rfl
set_option maxRecDepth 20000 in theorem m_460 : Cond.selects "DotLines$Line" y_Line_part y_Line_part ∈ WA := wa_m (List.mem_of_getElem? (i := 460) rfl) rfl
set_option maxRecDepth 20000 in theorem m_461 : Cond.code y_Line_part b_Line_part 2 (some .long) ∈ WA := wa_m (List.mem_of_getElem? (i := 461) rfl) rfl
set_option maxRecDepth 20000 in theorem m_462 : Cond.methodLink "DotLinesLaw" 96 y_DL_change ∈ WA := wa_m (List.mem_of_getElem? (i := 462) rfl) rfl
set_option maxRecDepth 20000 in theorem m_463 : Cond.instanceMethod y_DL_change ∈ WA := wa_m (List.mem_of_getElem? (i := 463) rfl) rfl
set_option maxRecDepth 20000 in theorem m_464 : Cond.selects "DotLines" y_DL_change y_DL_change ∈ WA := wa_m (List.mem_of_getElem? (i := 464) rfl) rfl
set_option maxRecDepth 20000 in theorem m_465 : Cond.code y_DL_change b_DL_change 3 (some .int) ∈ WA := wa_m (List.mem_of_getElem? (i := 465) rfl) rfl
set_option maxRecDepth 20000 in theorem m_466 : Cond.methodLink "DotLines" 115 y_Line_placeOf ∈ WA := wa_m (List.mem_of_getElem? (i := 466) rfl) rfl
set_option maxRecDepth 20000 in theorem m_467 : Cond.methodLink "DotLinesLaw" 100 y_DL_look ∈ WA := wa_m (List.mem_of_getElem? (i := 467) rfl) rfl
set_option maxRecDepth 20000 in theorem m_468 : Cond.instanceMethod y_DL_look ∈ WA := wa_m (List.mem_of_getElem? (i := 468) rfl) rfl
set_option maxRecDepth 20000 in theorem m_469 : Cond.selects "DotLines" y_DL_look y_DL_look ∈ WA := wa_m (List.mem_of_getElem? (i := 469) rfl) rfl
set_option maxRecDepth 20000 in theorem m_470 : Cond.code y_DL_look b_DL_look 2 (some .int) ∈ WA := wa_m (List.mem_of_getElem? (i := 470) rfl) rfl
set_option maxRecDepth 20000 in theorem m_471 : Cond.methodLink "DotLines" 84 y_Bits_bytes ∈ WA := wa_m (List.mem_of_getElem? (i := 471) rfl) rfl
set_option maxRecDepth 20000 in theorem m_472 : Cond.instanceMethod y_Bits_bytes ∈ WA := wa_m (List.mem_of_getElem? (i := 472) rfl) rfl
set_option maxRecDepth 20000 in theorem m_473 : Cond.selects "DotLines$Bits" y_Bits_bytes y_Bits_bytes ∈ WA := wa_m (List.mem_of_getElem? (i := 473) rfl) rfl
set_option maxRecDepth 20000 in theorem m_474 : Cond.code y_Bits_bytes b_Bits_bytes 1 (some .int) ∈ WA := wa_m (List.mem_of_getElem? (i := 474) rfl) rfl
set_option maxRecDepth 20000 in theorem m_475 : Cond.methodLink "DotLinesLaw" 30 y_Law_cell ∈ WA := wa_m (List.mem_of_getElem? (i := 475) rfl) rfl
set_option maxRecDepth 20000 in theorem m_476 : Cond.static y_Law_cell ∈ WA := wa_m (List.mem_of_getElem? (i := 476) rfl) rfl
set_option maxRecDepth 20000 in theorem m_477 : Cond.code y_Law_cell b_Law_cell 2 (some .int) ∈ WA := wa_m (List.mem_of_getElem? (i := 477) rfl) rfl
set_option maxRecDepth 20000 in theorem m_478 : Cond.methodLink "DotLinesLaw" 47 y_Law_code ∈ WA := wa_m (List.mem_of_getElem? (i := 478) rfl) rfl
set_option maxRecDepth 20000 in theorem m_479 : Cond.static y_Law_code ∈ WA := wa_m (List.mem_of_getElem? (i := 479) rfl) rfl
set_option maxRecDepth 20000 in theorem m_482 : Cond.methodLink "DotLinesLaw" 7 y_DL_code ∈ WA := wa_m (List.mem_of_getElem? (i := 482) rfl) rfl
set_option maxRecDepth 20000 in theorem m_483 : Cond.instanceMethod y_DL_code ∈ WA := wa_m (List.mem_of_getElem? (i := 483) rfl) rfl
set_option maxRecDepth 20000 in theorem m_484 : Cond.selects "DotLines" y_DL_code y_DL_code ∈ WA := wa_m (List.mem_of_getElem? (i := 484) rfl) rfl
set_option maxRecDepth 20000 in theorem m_485 : Cond.code y_DL_code b_DL_code 2 (some .int) ∈ WA := wa_m (List.mem_of_getElem? (i := 485) rfl) rfl
set_option maxRecDepth 20000 in theorem m_486 : Cond.methodLink "DotLines" 48 y_Coder_addLine ∈ WA := wa_m (List.mem_of_getElem? (i := 486) rfl) rfl
set_option maxRecDepth 20000 in theorem m_487 : Cond.instanceMethod y_Coder_addLine ∈ WA := wa_m (List.mem_of_getElem? (i := 487) rfl) rfl
set_option maxRecDepth 20000 in theorem m_488 : Cond.selects "DotLines$Coder" y_Coder_addLine y_Coder_addLine ∈ WA := wa_m (List.mem_of_getElem? (i := 488) rfl) rfl
set_option maxRecDepth 20000 in theorem m_489 : Cond.code y_Coder_addLine b_Coder_addLine 6 (some .int) ∈ WA := wa_m (List.mem_of_getElem? (i := 489) rfl) rfl
set_option maxRecDepth 20000 in theorem m_490 : Cond.methodLink "DotLines$Coder" 68 y_Coder_addSteps ∈ WA := wa_m (List.mem_of_getElem? (i := 490) rfl) rfl
set_option maxRecDepth 20000 in theorem m_492 : Cond.instanceMethod y_Coder_addSteps ∈ WA := wa_m (List.mem_of_getElem? (i := 492) rfl) rfl
set_option maxRecDepth 20000 in theorem m_493 : Cond.code y_Coder_addSteps b_Coder_addSteps 3 none ∈ WA := wa_m (List.mem_of_getElem? (i := 493) rfl) rfl
set_option maxRecDepth 20000 in theorem m_494 : Cond.methodLink "DotLines$Coder" 95 y_Line_findChanges ∈ WA := wa_m (List.mem_of_getElem? (i := 494) rfl) rfl
set_option maxRecDepth 20000 in theorem m_495 : Cond.methodLink "DotLines$Coder" 98 y_Spot_begin ∈ WA := wa_m (List.mem_of_getElem? (i := 495) rfl) rfl
set_option maxRecDepth 20000 in theorem m_496 : Cond.methodLink "DotLines$Coder" 104 y_Line_firstRightOf ∈ WA := wa_m (List.mem_of_getElem? (i := 496) rfl) rfl
set_option maxRecDepth 20000 in theorem m_497 : Cond.methodLink "DotLines$Coder" 108 y_Line_placeOf ∈ WA := wa_m (List.mem_of_getElem? (i := 497) rfl) rfl
set_option maxRecDepth 20000 in theorem m_498 : Cond.methodLink "DotLines$Coder" 111 y_Coder_addStep ∈ WA := wa_m (List.mem_of_getElem? (i := 498) rfl) rfl
set_option maxRecDepth 20000 in theorem m_500 : Cond.instanceMethod y_Coder_addStep ∈ WA := wa_m (List.mem_of_getElem? (i := 500) rfl) rfl
set_option maxRecDepth 20000 in theorem m_501 : Cond.code y_Coder_addStep b_Coder_addStep 4 none ∈ WA := wa_m (List.mem_of_getElem? (i := 501) rfl) rfl
set_option maxRecDepth 20000 in theorem m_502 : Cond.methodLink "DotLines$Coder" 76 y_Words_step ∈ WA := wa_m (List.mem_of_getElem? (i := 502) rfl) rfl
set_option maxRecDepth 20000 in theorem m_503 : Cond.methodLink "DotLines$Coder" 84 y_Coder_addWord ∈ WA := wa_m (List.mem_of_getElem? (i := 503) rfl) rfl
set_option maxRecDepth 20000 in theorem m_505 : Cond.instanceMethod y_Coder_addWord ∈ WA := wa_m (List.mem_of_getElem? (i := 505) rfl) rfl
set_option maxRecDepth 20000 in theorem m_506 : Cond.code y_Coder_addWord b_Coder_addWord 2 none ∈ WA := wa_m (List.mem_of_getElem? (i := 506) rfl) rfl
set_option maxRecDepth 20000 in theorem m_507 : Cond.methodLink "DotLines$Coder" 80 y_Words_length ∈ WA := wa_m (List.mem_of_getElem? (i := 507) rfl) rfl
set_option maxRecDepth 20000 in theorem m_508 : Cond.methodLink "DotLines$Coder" 91 y_Bits_add ∈ WA := wa_m (List.mem_of_getElem? (i := 508) rfl) rfl
set_option maxRecDepth 20000 in theorem m_509 : Cond.methodLink "DotLines$Coder" 124 y_Spot_move ∈ WA := wa_m (List.mem_of_getElem? (i := 509) rfl) rfl
set_option maxRecDepth 20000 in theorem m_510 : Cond.methodLink "DotLines$Coder" 128 Lib.Math.max.name ∈ WA := wa_m (List.mem_of_getElem? (i := 510) rfl) rfl
set_option maxRecDepth 20000 in theorem m_511 : Cond.methodLink "DotLines$Coder" 133 y_Coder_addRun ∈ WA := wa_m (List.mem_of_getElem? (i := 511) rfl) rfl
set_option maxRecDepth 20000 in theorem m_513 : Cond.instanceMethod y_Coder_addRun ∈ WA := wa_m (List.mem_of_getElem? (i := 513) rfl) rfl
set_option maxRecDepth 20000 in theorem m_514 : Cond.code y_Coder_addRun b_Coder_addRun 4 none ∈ WA := wa_m (List.mem_of_getElem? (i := 514) rfl) rfl
set_option maxRecDepth 20000 in theorem m_515 : Cond.methodLink "DotLines$Coder" 136 y_Words_block ∈ WA := wa_m (List.mem_of_getElem? (i := 515) rfl) rfl
set_option maxRecDepth 20000 in theorem m_516 : Cond.methodLink "DotLines$Coder" 140 y_Words_rest ∈ WA := wa_m (List.mem_of_getElem? (i := 516) rfl) rfl
set_option maxRecDepth 20000 in theorem m_584 : Cond.arrayClass .byte ∈ WA := wa_m (List.mem_of_getElem? (i := 584) rfl) rfl
set_option maxRecDepth 20000 in theorem m_585 : Cond.methodLink "DotLinesLaw" 54 y_Law_close ∈ WA := wa_m (List.mem_of_getElem? (i := 585) rfl) rfl
set_option maxRecDepth 20000 in theorem m_586 : Cond.static y_Law_close ∈ WA := wa_m (List.mem_of_getElem? (i := 586) rfl) rfl
set_option maxRecDepth 20000 in theorem m_588 : Cond.methodLink "DotLinesLaw" 15 y_DL_close ∈ WA := wa_m (List.mem_of_getElem? (i := 588) rfl) rfl
set_option maxRecDepth 20000 in theorem m_589 : Cond.instanceMethod y_DL_close ∈ WA := wa_m (List.mem_of_getElem? (i := 589) rfl) rfl
set_option maxRecDepth 20000 in theorem m_590 : Cond.selects "DotLines" y_DL_close y_DL_close ∈ WA := wa_m (List.mem_of_getElem? (i := 590) rfl) rfl
set_option maxRecDepth 20000 in theorem m_591 : Cond.code y_DL_close b_DL_close 2 (some .int) ∈ WA := wa_m (List.mem_of_getElem? (i := 591) rfl) rfl
set_option maxRecDepth 20000 in theorem m_592 : Cond.methodLink "DotLines" 59 y_Coder_finish ∈ WA := wa_m (List.mem_of_getElem? (i := 592) rfl) rfl
set_option maxRecDepth 20000 in theorem m_593 : Cond.instanceMethod y_Coder_finish ∈ WA := wa_m (List.mem_of_getElem? (i := 593) rfl) rfl
set_option maxRecDepth 20000 in theorem m_594 : Cond.selects "DotLines$Coder" y_Coder_finish y_Coder_finish ∈ WA := wa_m (List.mem_of_getElem? (i := 594) rfl) rfl
set_option maxRecDepth 20000 in theorem m_595 : Cond.code y_Coder_finish b_Coder_finish 2 (some .int) ∈ WA := wa_m (List.mem_of_getElem? (i := 595) rfl) rfl
set_option maxRecDepth 20000 in theorem m_596 : Cond.constant "DotLines$Coder" 83 524288 ∈ WA := wa_m (List.mem_of_getElem? (i := 596) rfl) rfl
set_option maxRecDepth 20000 in theorem m_597 : Cond.methodLink "DotLines$Coder" 87 y_Bits_bytes ∈ WA := wa_m (List.mem_of_getElem? (i := 597) rfl) rfl
set_option maxRecDepth 20000 in theorem m_599 : Cond.methodLink "DotLinesLaw" 73 y_Law_turn ∈ WA := wa_m (List.mem_of_getElem? (i := 599) rfl) rfl
set_option maxRecDepth 20000 in theorem m_600 : Cond.static y_Law_turn ∈ WA := wa_m (List.mem_of_getElem? (i := 600) rfl) rfl
set_option maxRecDepth 20000 in theorem m_603 : Cond.methodLink "DotLinesLaw" 18 y_DL_turn ∈ WA := wa_m (List.mem_of_getElem? (i := 603) rfl) rfl
set_option maxRecDepth 20000 in theorem m_604 : Cond.instanceMethod y_DL_turn ∈ WA := wa_m (List.mem_of_getElem? (i := 604) rfl) rfl
set_option maxRecDepth 20000 in theorem m_605 : Cond.selects "DotLines" y_DL_turn y_DL_turn ∈ WA := wa_m (List.mem_of_getElem? (i := 605) rfl) rfl
set_option maxRecDepth 20000 in theorem m_606 : Cond.code y_DL_turn b_DL_turn 2 (some .int) ∈ WA := wa_m (List.mem_of_getElem? (i := 606) rfl) rfl
set_option maxRecDepth 20000 in theorem m_623 : Cond.methodLink "DotLines" 92 y_Bits_become ∈ WA := wa_m (List.mem_of_getElem? (i := 623) rfl) rfl
set_option maxRecDepth 20000 in theorem m_624 : Cond.instanceMethod y_Bits_become ∈ WA := wa_m (List.mem_of_getElem? (i := 624) rfl) rfl
set_option maxRecDepth 20000 in theorem m_625 : Cond.selects "DotLines$Bits" y_Bits_become y_Bits_become ∈ WA := wa_m (List.mem_of_getElem? (i := 625) rfl) rfl
set_option maxRecDepth 20000 in theorem m_626 : Cond.code y_Bits_become b_Bits_become 6 none ∈ WA := wa_m (List.mem_of_getElem? (i := 626) rfl) rfl
set_option maxRecDepth 20000 in theorem m_627 : Cond.methodLink "DotLines$Bits" 20 y_Bits_cut ∈ WA := wa_m (List.mem_of_getElem? (i := 627) rfl) rfl
set_option maxRecDepth 20000 in theorem m_628 : Cond.methodLink "DotLines$Bits" 24 y_Bits_bytes ∈ WA := wa_m (List.mem_of_getElem? (i := 628) rfl) rfl
set_option maxRecDepth 20000 in theorem m_629 : Cond.methodLink "DotLines$Bits" 28 y_Bits_part ∈ WA := wa_m (List.mem_of_getElem? (i := 629) rfl) rfl
set_option maxRecDepth 20000 in theorem m_630 : Cond.methodLink "DotLines$Bits" 32 y_Bits_add ∈ WA := wa_m (List.mem_of_getElem? (i := 630) rfl) rfl
set_option maxRecDepth 20000 in theorem m_631 : Cond.methodLink "DotLinesLaw" 89 y_Law_black ∈ WA := wa_m (List.mem_of_getElem? (i := 631) rfl) rfl
set_option maxRecDepth 20000 in theorem m_632 : Cond.static y_Law_black ∈ WA := wa_m (List.mem_of_getElem? (i := 632) rfl) rfl
set_option maxRecDepth 20000 in theorem m_635 : Cond.methodLink "DotLinesLaw" 24 y_DL_black ∈ WA := wa_m (List.mem_of_getElem? (i := 635) rfl) rfl
set_option maxRecDepth 20000 in theorem m_636 : Cond.instanceMethod y_DL_black ∈ WA := wa_m (List.mem_of_getElem? (i := 636) rfl) rfl
set_option maxRecDepth 20000 in theorem m_637 : Cond.selects "DotLines" y_DL_black y_DL_black ∈ WA := wa_m (List.mem_of_getElem? (i := 637) rfl) rfl
set_option maxRecDepth 20000 in theorem m_638 : Cond.code y_DL_black b_DL_black 2 (some .boolean) ∈ WA := wa_m (List.mem_of_getElem? (i := 638) rfl) rfl
set_option maxRecDepth 20000 in theorem m_655 : Cond.classLink "DotLinesLaw" 39 "DotLinesModel" ∈ WA := wa_m (List.mem_of_getElem? (i := 655) rfl) rfl
set_option maxRecDepth 20000 in theorem m_656 : Cond.instantiable "DotLinesModel" 30 ∈ WA := wa_m (List.mem_of_getElem? (i := 656) rfl) rfl
set_option maxRecDepth 20000 in theorem m_657 : Cond.methodLink "DotLinesLaw" 41 y_Model_init ∈ WA := wa_m (List.mem_of_getElem? (i := 657) rfl) rfl
set_option maxRecDepth 20000 in theorem m_658 : Cond.instanceMethod y_Model_init ∈ WA := wa_m (List.mem_of_getElem? (i := 658) rfl) rfl
set_option maxRecDepth 20000 in theorem m_659 : Cond.code y_Model_init b_Model_init 2 none ∈ WA := wa_m (List.mem_of_getElem? (i := 659) rfl) rfl
set_option maxRecDepth 20000 in theorem m_660 : Cond.methodLink "DotLinesModel" 1 objectInit ∈ WA := wa_m (List.mem_of_getElem? (i := 660) rfl) rfl
set_option maxRecDepth 20000 in theorem m_661 : Cond.constant "DotLinesModel" 28 524288 ∈ WA := wa_m (List.mem_of_getElem? (i := 661) rfl) rfl
set_option maxRecDepth 20000 in theorem m_662 : Cond.constant "DotLinesModel" 33 130000 ∈ WA := wa_m (List.mem_of_getElem? (i := 662) rfl) rfl
set_option maxRecDepth 20000 in theorem m_663 : Cond.constant "DotLinesModel" 37 65536 ∈ WA := wa_m (List.mem_of_getElem? (i := 663) rfl) rfl
set_option maxRecDepth 20000 in theorem m_664 : Cond.fieldLink "DotLinesModel" 7 "DotLinesModel" "whiteRests" "[I" ∈ WA := wa_m (List.mem_of_getElem? (i := 664) rfl) rfl
set_option maxRecDepth 20000 in theorem m_665 : Cond.fieldLink "DotLinesModel" 13 "DotLinesModel" "blackRests" "[I" ∈ WA := wa_m (List.mem_of_getElem? (i := 665) rfl) rfl
set_option maxRecDepth 20000 in theorem m_666 : Cond.fieldLink "DotLinesModel" 16 "DotLinesModel" "whiteBlocks" "[I" ∈ WA := wa_m (List.mem_of_getElem? (i := 666) rfl) rfl
set_option maxRecDepth 20000 in theorem m_667 : Cond.fieldLink "DotLinesModel" 19 "DotLinesModel" "blackBlocks" "[I" ∈ WA := wa_m (List.mem_of_getElem? (i := 667) rfl) rfl
set_option maxRecDepth 20000 in theorem m_668 : Cond.fieldLink "DotLinesModel" 22 "DotLinesModel" "blocks" "[I" ∈ WA := wa_m (List.mem_of_getElem? (i := 668) rfl) rfl
set_option maxRecDepth 20000 in theorem m_669 : Cond.fieldLink "DotLinesModel" 25 "DotLinesModel" "modes" "[I" ∈ WA := wa_m (List.mem_of_getElem? (i := 669) rfl) rfl
set_option maxRecDepth 20000 in theorem m_670 : Cond.fieldLink "DotLinesModel" 60 "DotLinesModel" "thrown" "I" ∈ WA := wa_m (List.mem_of_getElem? (i := 670) rfl) rfl
set_option maxRecDepth 20000 in theorem m_671 : Cond.fieldLink "DotLinesModel" 41 "DotLinesModel" "width" "I" ∈ WA := wa_m (List.mem_of_getElem? (i := 671) rfl) rfl
set_option maxRecDepth 20000 in theorem m_672 : Cond.fieldLink "DotLinesModel" 45 "DotLinesModel" "line" "[Z" ∈ WA := wa_m (List.mem_of_getElem? (i := 672) rfl) rfl
set_option maxRecDepth 20000 in theorem m_673 : Cond.fieldLink "DotLinesModel" 48 "DotLinesModel" "above" "[Z" ∈ WA := wa_m (List.mem_of_getElem? (i := 673) rfl) rfl
set_option maxRecDepth 20000 in theorem m_674 : Cond.fieldLink "DotLinesModel" 29 "DotLinesModel" "out" "[Z" ∈ WA := wa_m (List.mem_of_getElem? (i := 674) rfl) rfl
set_option maxRecDepth 20000 in theorem m_675 : Cond.fieldLink "DotLinesModel" 90 "DotLinesModel" "bits" "I" ∈ WA := wa_m (List.mem_of_getElem? (i := 675) rfl) rfl
set_option maxRecDepth 20000 in theorem m_676 : Cond.fieldLink "DotLinesModel" 96 "DotLinesModel" "closed" "Z" ∈ WA := wa_m (List.mem_of_getElem? (i := 676) rfl) rfl
set_option maxRecDepth 20000 in theorem m_677 : Cond.fieldLink "DotLinesModel" 112 "DotLinesModel" "coded" "I" ∈ WA := wa_m (List.mem_of_getElem? (i := 677) rfl) rfl
set_option maxRecDepth 20000 in theorem m_678 : Cond.fieldLink "DotLinesModel" 103 "DotLinesModel" "passes" "I" ∈ WA := wa_m (List.mem_of_getElem? (i := 678) rfl) rfl
set_option maxRecDepth 20000 in theorem m_679 : Cond.fieldLink "DotLinesModel" 106 "DotLinesModel" "shifts" "I" ∈ WA := wa_m (List.mem_of_getElem? (i := 679) rfl) rfl
set_option maxRecDepth 20000 in theorem m_680 : Cond.fieldLink "DotLinesModel" 109 "DotLinesModel" "acrosses" "I" ∈ WA := wa_m (List.mem_of_getElem? (i := 680) rfl) rfl
set_option maxRecDepth 20000 in theorem m_681 : Cond.fieldLink "DotLinesModel" 34 "DotLinesModel" "next" "[Z" ∈ WA := wa_m (List.mem_of_getElem? (i := 681) rfl) rfl
set_option maxRecDepth 20000 in theorem m_682 : Cond.fieldLink "DotLinesModel" 63 "DotLinesModel" "nextBits" "I" ∈ WA := wa_m (List.mem_of_getElem? (i := 682) rfl) rfl
set_option maxRecDepth 20000 in theorem m_683 : Cond.fieldLink "DotLinesModel" 70 "DotLinesModel" "words0" "I" ∈ WA := wa_m (List.mem_of_getElem? (i := 683) rfl) rfl
set_option maxRecDepth 20000 in theorem m_684 : Cond.fieldLink "DotLinesModel" 73 "DotLinesModel" "words1" "I" ∈ WA := wa_m (List.mem_of_getElem? (i := 684) rfl) rfl
set_option maxRecDepth 20000 in theorem m_685 : Cond.fieldLink "DotLinesModel" 76 "DotLinesModel" "words2" "I" ∈ WA := wa_m (List.mem_of_getElem? (i := 685) rfl) rfl
set_option maxRecDepth 20000 in theorem m_686 : Cond.fieldLink "DotLinesModel" 38 "DotLinesModel" "in" "[I" ∈ WA := wa_m (List.mem_of_getElem? (i := 686) rfl) rfl
set_option maxRecDepth 20000 in theorem m_687 : Cond.fieldLink "DotLinesModel" 125 "DotLinesModel" "given" "I" ∈ WA := wa_m (List.mem_of_getElem? (i := 687) rfl) rfl
set_option maxRecDepth 20000 in theorem m_688 : Cond.fieldLink "DotLinesModel" 51 "DotLinesModel" "readLine" "[Z" ∈ WA := wa_m (List.mem_of_getElem? (i := 688) rfl) rfl
set_option maxRecDepth 20000 in theorem m_689 : Cond.fieldLink "DotLinesModel" 54 "DotLinesModel" "readAbove" "[Z" ∈ WA := wa_m (List.mem_of_getElem? (i := 689) rfl) rfl
set_option maxRecDepth 20000 in theorem m_690 : Cond.fieldLink "DotLinesModel" 136 "DotLinesModel" "lines" "I" ∈ WA := wa_m (List.mem_of_getElem? (i := 690) rfl) rfl
set_option maxRecDepth 20000 in theorem m_691 : Cond.fieldLink "DotLinesModel" 133 "DotLinesModel" "at" "I" ∈ WA := wa_m (List.mem_of_getElem? (i := 691) rfl) rfl
set_option maxRecDepth 20000 in theorem m_692 : Cond.fieldLink "DotLinesModel" 57 "DotLinesModel" "state" "I" ∈ WA := wa_m (List.mem_of_getElem? (i := 692) rfl) rfl
set_option maxRecDepth 20000 in theorem m_693 : Cond.fieldLink "DotLinesModel" 165 "DotLinesModel" "turns" "Z" ∈ WA := wa_m (List.mem_of_getElem? (i := 693) rfl) rfl
set_option maxRecDepth 20000 in theorem m_755 : Cond.arrayClass .boolean ∈ WA := wa_m (List.mem_of_getElem? (i := 755) rfl) rfl
set_option maxRecDepth 20000 in theorem m_756 : Cond.methodLink "DotLinesLaw" 51 y_Model_thrown ∈ WA := wa_m (List.mem_of_getElem? (i := 756) rfl) rfl
set_option maxRecDepth 20000 in theorem m_757 : Cond.instanceMethod y_Model_thrown ∈ WA := wa_m (List.mem_of_getElem? (i := 757) rfl) rfl
set_option maxRecDepth 20000 in theorem m_758 : Cond.selects "DotLinesModel" y_Model_thrown y_Model_thrown ∈ WA := wa_m (List.mem_of_getElem? (i := 758) rfl) rfl
set_option maxRecDepth 20000 in theorem m_759 : Cond.code y_Model_thrown b_Model_thrown 1 (some .int) ∈ WA := wa_m (List.mem_of_getElem? (i := 759) rfl) rfl
set_option maxRecDepth 20000 in theorem m_760 : Cond.methodLink "DotLinesLaw" 46 y_Model_paint ∈ WA := wa_m (List.mem_of_getElem? (i := 760) rfl) rfl
set_option maxRecDepth 20000 in theorem m_761 : Cond.instanceMethod y_Model_paint ∈ WA := wa_m (List.mem_of_getElem? (i := 761) rfl) rfl
set_option maxRecDepth 20000 in theorem m_762 : Cond.selects "DotLinesModel" y_Model_paint y_Model_paint ∈ WA := wa_m (List.mem_of_getElem? (i := 762) rfl) rfl
set_option maxRecDepth 20000 in theorem m_763 : Cond.code y_Model_paint b_Model_paint 5 (some .boolean) ∈ WA := wa_m (List.mem_of_getElem? (i := 763) rfl) rfl
set_option maxRecDepth 20000 in theorem m_764 : Cond.methodLink "DotLinesLaw" 50 y_Model_code ∈ WA := wa_m (List.mem_of_getElem? (i := 764) rfl) rfl
set_option maxRecDepth 20000 in theorem m_765 : Cond.instanceMethod y_Model_code ∈ WA := wa_m (List.mem_of_getElem? (i := 765) rfl) rfl
set_option maxRecDepth 20000 in theorem m_766 : Cond.selects "DotLinesModel" y_Model_code y_Model_code ∈ WA := wa_m (List.mem_of_getElem? (i := 766) rfl) rfl
set_option maxRecDepth 20000 in theorem m_767 : Cond.code y_Model_code b_Model_code 2 (some .int) ∈ WA := wa_m (List.mem_of_getElem? (i := 767) rfl) rfl
set_option maxRecDepth 20000 in theorem m_768 : Cond.methodLink "DotLinesModel" 93 y_Model_lineWords ∈ WA := wa_m (List.mem_of_getElem? (i := 768) rfl) rfl
set_option maxRecDepth 20000 in theorem m_770 : Cond.instanceMethod y_Model_lineWords ∈ WA := wa_m (List.mem_of_getElem? (i := 770) rfl) rfl
set_option maxRecDepth 20000 in theorem m_771 : Cond.code y_Model_lineWords b_Model_lineWords 8 none ∈ WA := wa_m (List.mem_of_getElem? (i := 771) rfl) rfl
set_option maxRecDepth 20000 in theorem m_772 : Cond.methodLink "DotLinesModel" 79 y_Model_dotAfter ∈ WA := wa_m (List.mem_of_getElem? (i := 772) rfl) rfl
set_option maxRecDepth 20000 in theorem m_774 : Cond.instanceMethod y_Model_dotAfter ∈ WA := wa_m (List.mem_of_getElem? (i := 774) rfl) rfl
set_option maxRecDepth 20000 in theorem m_775 : Cond.code y_Model_dotAfter b_Model_dotAfter 5 (some .int) ∈ WA := wa_m (List.mem_of_getElem? (i := 775) rfl) rfl
set_option maxRecDepth 20000 in theorem m_776 : Cond.methodLink "DotLinesModel" 83 y_Model_changeAfter ∈ WA := wa_m (List.mem_of_getElem? (i := 776) rfl) rfl
set_option maxRecDepth 20000 in theorem m_778 : Cond.instanceMethod y_Model_changeAfter ∈ WA := wa_m (List.mem_of_getElem? (i := 778) rfl) rfl
set_option maxRecDepth 20000 in theorem m_779 : Cond.code y_Model_changeAfter b_Model_changeAfter 6 (some .int) ∈ WA := wa_m (List.mem_of_getElem? (i := 779) rfl) rfl
set_option maxRecDepth 20000 in theorem m_780 : Cond.methodLink "DotLinesModel" 66 y_Model_word ∈ WA := wa_m (List.mem_of_getElem? (i := 780) rfl) rfl
set_option maxRecDepth 20000 in theorem m_782 : Cond.instanceMethod y_Model_word ∈ WA := wa_m (List.mem_of_getElem? (i := 782) rfl) rfl
set_option maxRecDepth 20000 in theorem m_783 : Cond.code y_Model_word b_Model_word 4 none ∈ WA := wa_m (List.mem_of_getElem? (i := 783) rfl) rfl
set_option maxRecDepth 20000 in theorem m_784 : Cond.methodLink "DotLinesModel" 86 y_Model_run ∈ WA := wa_m (List.mem_of_getElem? (i := 784) rfl) rfl
set_option maxRecDepth 20000 in theorem m_786 : Cond.instanceMethod y_Model_run ∈ WA := wa_m (List.mem_of_getElem? (i := 786) rfl) rfl
set_option maxRecDepth 20000 in theorem m_787 : Cond.code y_Model_run b_Model_run 5 none ∈ WA := wa_m (List.mem_of_getElem? (i := 787) rfl) rfl
set_option maxRecDepth 20000 in theorem m_788 : Cond.methodLink "DotLinesModel" 100 y_Model_take ∈ WA := wa_m (List.mem_of_getElem? (i := 788) rfl) rfl
set_option maxRecDepth 20000 in theorem m_790 : Cond.instanceMethod y_Model_take ∈ WA := wa_m (List.mem_of_getElem? (i := 790) rfl) rfl
set_option maxRecDepth 20000 in theorem m_791 : Cond.code y_Model_take b_Model_take 2 none ∈ WA := wa_m (List.mem_of_getElem? (i := 791) rfl) rfl
set_option maxRecDepth 20000 in theorem m_792 : Cond.methodLink "DotLinesLaw" 56 y_Model_close ∈ WA := wa_m (List.mem_of_getElem? (i := 792) rfl) rfl
set_option maxRecDepth 20000 in theorem m_793 : Cond.instanceMethod y_Model_close ∈ WA := wa_m (List.mem_of_getElem? (i := 793) rfl) rfl
set_option maxRecDepth 20000 in theorem m_794 : Cond.selects "DotLinesModel" y_Model_close y_Model_close ∈ WA := wa_m (List.mem_of_getElem? (i := 794) rfl) rfl
set_option maxRecDepth 20000 in theorem m_795 : Cond.code y_Model_close b_Model_close 1 (some .int) ∈ WA := wa_m (List.mem_of_getElem? (i := 795) rfl) rfl
set_option maxRecDepth 20000 in theorem m_796 : Cond.methodLink "DotLinesModel" 115 y_Model_bytesOut ∈ WA := wa_m (List.mem_of_getElem? (i := 796) rfl) rfl
set_option maxRecDepth 20000 in theorem m_798 : Cond.instanceMethod y_Model_bytesOut ∈ WA := wa_m (List.mem_of_getElem? (i := 798) rfl) rfl
set_option maxRecDepth 20000 in theorem m_799 : Cond.code y_Model_bytesOut b_Model_bytesOut 1 (some .int) ∈ WA := wa_m (List.mem_of_getElem? (i := 799) rfl) rfl
set_option maxRecDepth 20000 in theorem m_800 : Cond.methodLink "DotLinesLaw" 60 y_Model_clear ∈ WA := wa_m (List.mem_of_getElem? (i := 800) rfl) rfl
set_option maxRecDepth 20000 in theorem m_801 : Cond.instanceMethod y_Model_clear ∈ WA := wa_m (List.mem_of_getElem? (i := 801) rfl) rfl
set_option maxRecDepth 20000 in theorem m_802 : Cond.selects "DotLinesModel" y_Model_clear y_Model_clear ∈ WA := wa_m (List.mem_of_getElem? (i := 802) rfl) rfl
set_option maxRecDepth 20000 in theorem m_803 : Cond.code y_Model_clear b_Model_clear 2 none ∈ WA := wa_m (List.mem_of_getElem? (i := 803) rfl) rfl
set_option maxRecDepth 20000 in theorem m_804 : Cond.methodLink "DotLinesLaw" 65 y_Model_out ∈ WA := wa_m (List.mem_of_getElem? (i := 804) rfl) rfl
set_option maxRecDepth 20000 in theorem m_805 : Cond.instanceMethod y_Model_out ∈ WA := wa_m (List.mem_of_getElem? (i := 805) rfl) rfl
set_option maxRecDepth 20000 in theorem m_806 : Cond.selects "DotLinesModel" y_Model_out y_Model_out ∈ WA := wa_m (List.mem_of_getElem? (i := 806) rfl) rfl
set_option maxRecDepth 20000 in theorem m_807 : Cond.code y_Model_out b_Model_out 5 (some .long) ∈ WA := wa_m (List.mem_of_getElem? (i := 807) rfl) rfl
set_option maxRecDepth 20000 in theorem m_808 : Cond.constantLong "DotLinesModel" 119 8 ∈ WA := wa_m (List.mem_of_getElem? (i := 808) rfl) rfl
set_option maxRecDepth 20000 in theorem m_809 : Cond.methodLink "DotLinesModel" 121 y_Model_byteOut ∈ WA := wa_m (List.mem_of_getElem? (i := 809) rfl) rfl
set_option maxRecDepth 20000 in theorem m_811 : Cond.instanceMethod y_Model_byteOut ∈ WA := wa_m (List.mem_of_getElem? (i := 811) rfl) rfl
set_option maxRecDepth 20000 in theorem m_812 : Cond.code y_Model_byteOut b_Model_byteOut 7 (some .int) ∈ WA := wa_m (List.mem_of_getElem? (i := 812) rfl) rfl
set_option maxRecDepth 20000 in theorem m_813 : Cond.methodLink "DotLinesLaw" 72 y_Model_give ∈ WA := wa_m (List.mem_of_getElem? (i := 813) rfl) rfl
set_option maxRecDepth 20000 in theorem m_814 : Cond.instanceMethod y_Model_give ∈ WA := wa_m (List.mem_of_getElem? (i := 814) rfl) rfl
set_option maxRecDepth 20000 in theorem m_815 : Cond.selects "DotLinesModel" y_Model_give y_Model_give ∈ WA := wa_m (List.mem_of_getElem? (i := 815) rfl) rfl
set_option maxRecDepth 20000 in theorem m_816 : Cond.code y_Model_give b_Model_give 5 (some .boolean) ∈ WA := wa_m (List.mem_of_getElem? (i := 816) rfl) rfl
set_option maxRecDepth 20000 in theorem m_817 : Cond.constantLong "DotLinesModel" 128 255 ∈ WA := wa_m (List.mem_of_getElem? (i := 817) rfl) rfl
set_option maxRecDepth 20000 in theorem m_818 : Cond.methodLink "DotLinesLaw" 76 y_Model_turn ∈ WA := wa_m (List.mem_of_getElem? (i := 818) rfl) rfl
set_option maxRecDepth 20000 in theorem m_819 : Cond.instanceMethod y_Model_turn ∈ WA := wa_m (List.mem_of_getElem? (i := 819) rfl) rfl
set_option maxRecDepth 20000 in theorem m_820 : Cond.selects "DotLinesModel" y_Model_turn y_Model_turn ∈ WA := wa_m (List.mem_of_getElem? (i := 820) rfl) rfl
set_option maxRecDepth 20000 in theorem m_821 : Cond.code y_Model_turn b_Model_turn 3 (some .int) ∈ WA := wa_m (List.mem_of_getElem? (i := 821) rfl) rfl
set_option maxRecDepth 20000 in theorem m_822 : Cond.methodLink "DotLinesModel" 130 y_Model_begin ∈ WA := wa_m (List.mem_of_getElem? (i := 822) rfl) rfl
set_option maxRecDepth 20000 in theorem m_824 : Cond.instanceMethod y_Model_begin ∈ WA := wa_m (List.mem_of_getElem? (i := 824) rfl) rfl
set_option maxRecDepth 20000 in theorem m_825 : Cond.code y_Model_begin b_Model_begin 2 none ∈ WA := wa_m (List.mem_of_getElem? (i := 825) rfl) rfl
set_option maxRecDepth 20000 in theorem m_826 : Cond.methodLink "DotLinesLaw" 80 y_Model_wipe ∈ WA := wa_m (List.mem_of_getElem? (i := 826) rfl) rfl
set_option maxRecDepth 20000 in theorem m_827 : Cond.instanceMethod y_Model_wipe ∈ WA := wa_m (List.mem_of_getElem? (i := 827) rfl) rfl
set_option maxRecDepth 20000 in theorem m_828 : Cond.selects "DotLinesModel" y_Model_wipe y_Model_wipe ∈ WA := wa_m (List.mem_of_getElem? (i := 828) rfl) rfl
set_option maxRecDepth 20000 in theorem m_829 : Cond.code y_Model_wipe b_Model_wipe 1 none ∈ WA := wa_m (List.mem_of_getElem? (i := 829) rfl) rfl
set_option maxRecDepth 20000 in theorem m_830 : Cond.methodLink "DotLinesLaw" 84 y_Model_rewind ∈ WA := wa_m (List.mem_of_getElem? (i := 830) rfl) rfl
set_option maxRecDepth 20000 in theorem m_831 : Cond.instanceMethod y_Model_rewind ∈ WA := wa_m (List.mem_of_getElem? (i := 831) rfl) rfl
set_option maxRecDepth 20000 in theorem m_832 : Cond.selects "DotLinesModel" y_Model_rewind y_Model_rewind ∈ WA := wa_m (List.mem_of_getElem? (i := 832) rfl) rfl
set_option maxRecDepth 20000 in theorem m_833 : Cond.code y_Model_rewind b_Model_rewind 1 none ∈ WA := wa_m (List.mem_of_getElem? (i := 833) rfl) rfl
set_option maxRecDepth 20000 in theorem m_834 : Cond.methodLink "DotLinesLaw" 88 y_Model_read ∈ WA := wa_m (List.mem_of_getElem? (i := 834) rfl) rfl
set_option maxRecDepth 20000 in theorem m_835 : Cond.instanceMethod y_Model_read ∈ WA := wa_m (List.mem_of_getElem? (i := 835) rfl) rfl
set_option maxRecDepth 20000 in theorem m_836 : Cond.selects "DotLinesModel" y_Model_read y_Model_read ∈ WA := wa_m (List.mem_of_getElem? (i := 836) rfl) rfl
set_option maxRecDepth 20000 in theorem m_837 : Cond.code y_Model_read b_Model_read 4 (some .int) ∈ WA := wa_m (List.mem_of_getElem? (i := 837) rfl) rfl
set_option maxRecDepth 20000 in theorem m_838 : Cond.methodLink "DotLinesModel" 172 y_Model_piece ∈ WA := wa_m (List.mem_of_getElem? (i := 838) rfl) rfl
set_option maxRecDepth 20000 in theorem m_840 : Cond.instanceMethod y_Model_piece ∈ WA := wa_m (List.mem_of_getElem? (i := 840) rfl) rfl
set_option maxRecDepth 20000 in theorem m_841 : Cond.code y_Model_piece b_Model_piece 10 (some .int) ∈ WA := wa_m (List.mem_of_getElem? (i := 841) rfl) rfl
set_option maxRecDepth 20000 in theorem m_842 : Cond.methodLink "DotLinesModel" 155 y_Model_mode ∈ WA := wa_m (List.mem_of_getElem? (i := 842) rfl) rfl
set_option maxRecDepth 20000 in theorem m_844 : Cond.instanceMethod y_Model_mode ∈ WA := wa_m (List.mem_of_getElem? (i := 844) rfl) rfl
set_option maxRecDepth 20000 in theorem m_845 : Cond.code y_Model_mode b_Model_mode 5 (some .int) ∈ WA := wa_m (List.mem_of_getElem? (i := 845) rfl) rfl
set_option maxRecDepth 20000 in theorem m_846 : Cond.methodLink "DotLinesModel" 139 y_Model_fault ∈ WA := wa_m (List.mem_of_getElem? (i := 846) rfl) rfl
set_option maxRecDepth 20000 in theorem m_848 : Cond.instanceMethod y_Model_fault ∈ WA := wa_m (List.mem_of_getElem? (i := 848) rfl) rfl
set_option maxRecDepth 20000 in theorem m_849 : Cond.code y_Model_fault b_Model_fault 3 none ∈ WA := wa_m (List.mem_of_getElem? (i := 849) rfl) rfl
set_option maxRecDepth 20000 in theorem m_850 : Cond.methodLink "DotLinesModel" 143 y_Model_bit ∈ WA := wa_m (List.mem_of_getElem? (i := 850) rfl) rfl
set_option maxRecDepth 20000 in theorem m_852 : Cond.instanceMethod y_Model_bit ∈ WA := wa_m (List.mem_of_getElem? (i := 852) rfl) rfl
set_option maxRecDepth 20000 in theorem m_853 : Cond.code y_Model_bit b_Model_bit 2 (some .int) ∈ WA := wa_m (List.mem_of_getElem? (i := 853) rfl) rfl
set_option maxRecDepth 20000 in theorem m_854 : Cond.methodLink "DotLinesModel" 147 y_Model_placeOf ∈ WA := wa_m (List.mem_of_getElem? (i := 854) rfl) rfl
set_option maxRecDepth 20000 in theorem m_855 : Cond.static y_Model_placeOf ∈ WA := wa_m (List.mem_of_getElem? (i := 855) rfl) rfl
set_option maxRecDepth 20000 in theorem m_856 : Cond.code y_Model_placeOf b_Model_placeOf 5 (some .int) ∈ WA := wa_m (List.mem_of_getElem? (i := 856) rfl) rfl
set_option maxRecDepth 20000 in theorem m_857 : Cond.methodLink "DotLinesModel" 151 y_Model_begins ∈ WA := wa_m (List.mem_of_getElem? (i := 857) rfl) rfl
set_option maxRecDepth 20000 in theorem m_859 : Cond.instanceMethod y_Model_begins ∈ WA := wa_m (List.mem_of_getElem? (i := 859) rfl) rfl
set_option maxRecDepth 20000 in theorem m_860 : Cond.code y_Model_begins b_Model_begins 7 (some .boolean) ∈ WA := wa_m (List.mem_of_getElem? (i := 860) rfl) rfl
set_option maxRecDepth 20000 in theorem m_861 : Cond.methodLink "DotLinesModel" 158 y_Model_end ∈ WA := wa_m (List.mem_of_getElem? (i := 861) rfl) rfl
set_option maxRecDepth 20000 in theorem m_863 : Cond.instanceMethod y_Model_end ∈ WA := wa_m (List.mem_of_getElem? (i := 863) rfl) rfl
set_option maxRecDepth 20000 in theorem m_864 : Cond.code y_Model_end b_Model_end 4 none ∈ WA := wa_m (List.mem_of_getElem? (i := 864) rfl) rfl
set_option maxRecDepth 20000 in theorem m_865 : Cond.methodLink "DotLinesModel" 161 y_Model_fill ∈ WA := wa_m (List.mem_of_getElem? (i := 865) rfl) rfl
set_option maxRecDepth 20000 in theorem m_867 : Cond.instanceMethod y_Model_fill ∈ WA := wa_m (List.mem_of_getElem? (i := 867) rfl) rfl
set_option maxRecDepth 20000 in theorem m_868 : Cond.code y_Model_fill b_Model_fill 5 none ∈ WA := wa_m (List.mem_of_getElem? (i := 868) rfl) rfl
set_option maxRecDepth 20000 in theorem m_869 : Cond.methodLink "DotLinesModel" 168 y_Model_readRun ∈ WA := wa_m (List.mem_of_getElem? (i := 869) rfl) rfl
set_option maxRecDepth 20000 in theorem m_871 : Cond.instanceMethod y_Model_readRun ∈ WA := wa_m (List.mem_of_getElem? (i := 871) rfl) rfl
set_option maxRecDepth 20000 in theorem m_872 : Cond.code y_Model_readRun b_Model_readRun 13 (some .int) ∈ WA := wa_m (List.mem_of_getElem? (i := 872) rfl) rfl
set_option maxRecDepth 20000 in theorem m_873 : Cond.methodLink "DotLinesLaw" 91 y_Model_black ∈ WA := wa_m (List.mem_of_getElem? (i := 873) rfl) rfl
set_option maxRecDepth 20000 in theorem m_874 : Cond.instanceMethod y_Model_black ∈ WA := wa_m (List.mem_of_getElem? (i := 874) rfl) rfl
set_option maxRecDepth 20000 in theorem m_875 : Cond.selects "DotLinesModel" y_Model_black y_Model_black ∈ WA := wa_m (List.mem_of_getElem? (i := 875) rfl) rfl
set_option maxRecDepth 20000 in theorem m_876 : Cond.code y_Model_black b_Model_black 2 (some .boolean) ∈ WA := wa_m (List.mem_of_getElem? (i := 876) rfl) rfl
set_option maxRecDepth 20000 in theorem m_877 : Cond.methodLink "DotLinesLaw" 95 y_Model_dots ∈ WA := wa_m (List.mem_of_getElem? (i := 877) rfl) rfl
set_option maxRecDepth 20000 in theorem m_878 : Cond.instanceMethod y_Model_dots ∈ WA := wa_m (List.mem_of_getElem? (i := 878) rfl) rfl
set_option maxRecDepth 20000 in theorem m_879 : Cond.selects "DotLinesModel" y_Model_dots y_Model_dots ∈ WA := wa_m (List.mem_of_getElem? (i := 879) rfl) rfl
set_option maxRecDepth 20000 in theorem m_880 : Cond.code y_Model_dots b_Model_dots 8 (some .long) ∈ WA := wa_m (List.mem_of_getElem? (i := 880) rfl) rfl
set_option maxRecDepth 20000 in theorem m_881 : Cond.constantLong "DotLinesModel" 175 64 ∈ WA := wa_m (List.mem_of_getElem? (i := 881) rfl) rfl
set_option maxRecDepth 20000 in theorem m_882 : Cond.methodLink "DotLinesLaw" 99 y_Model_change ∈ WA := wa_m (List.mem_of_getElem? (i := 882) rfl) rfl
set_option maxRecDepth 20000 in theorem m_883 : Cond.instanceMethod y_Model_change ∈ WA := wa_m (List.mem_of_getElem? (i := 883) rfl) rfl
set_option maxRecDepth 20000 in theorem m_884 : Cond.selects "DotLinesModel" y_Model_change y_Model_change ∈ WA := wa_m (List.mem_of_getElem? (i := 884) rfl) rfl
set_option maxRecDepth 20000 in theorem m_885 : Cond.code y_Model_change b_Model_change 5 (some .int) ∈ WA := wa_m (List.mem_of_getElem? (i := 885) rfl) rfl
set_option maxRecDepth 20000 in theorem m_886 : Cond.methodLink "DotLinesLaw" 103 y_Model_look ∈ WA := wa_m (List.mem_of_getElem? (i := 886) rfl) rfl
set_option maxRecDepth 20000 in theorem m_887 : Cond.instanceMethod y_Model_look ∈ WA := wa_m (List.mem_of_getElem? (i := 887) rfl) rfl
set_option maxRecDepth 20000 in theorem m_888 : Cond.selects "DotLinesModel" y_Model_look y_Model_look ∈ WA := wa_m (List.mem_of_getElem? (i := 888) rfl) rfl
set_option maxRecDepth 20000 in theorem m_889 : Cond.code y_Model_look b_Model_look 2 (some .int) ∈ WA := wa_m (List.mem_of_getElem? (i := 889) rfl) rfl
set_option maxRecDepth 20000 in theorem m_890 : Cond.constantLong "DotLinesLaw" 66 4294967295 ∈ WA := wa_m (List.mem_of_getElem? (i := 890) rfl) rfl
