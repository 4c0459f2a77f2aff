theorem mp_0 : Cond.selects RX1 yX1_addRelaxedValue yX1_addRelaxedValue ∈ gx_TB := List.mem_filter.mpr ⟨List.mem_append_left _ (List.mem_of_getElem? (i := 0) (by decide +kernel)), by decide +kernel⟩
theorem mp_1 : Cond.selects RX1 yX1_isNamed yX1_isNamed ∈ gx_TB := List.mem_filter.mpr ⟨List.mem_append_left _ (List.mem_of_getElem? (i := 1) (by decide +kernel)), by decide +kernel⟩
theorem mp_2 : Cond.selects RX3 yX3_fillSchedule yX3_fillSchedule ∈ gx_TB := List.mem_filter.mpr ⟨List.mem_append_left _ (List.mem_of_getElem? (i := 2) (by decide +kernel)), by decide +kernel⟩
theorem mp_3 : Cond.selects RX3 yX3_mixBlock yX3_mixBlock ∈ gx_TB := List.mem_filter.mpr ⟨List.mem_append_left _ (List.mem_of_getElem? (i := 3) (by decide +kernel)), by decide +kernel⟩
theorem mp_4 : Cond.selects RX3 yX3_mixRound yX3_mixRound ∈ gx_TB := List.mem_filter.mpr ⟨List.mem_append_left _ (List.mem_of_getElem? (i := 4) (by decide +kernel)), by decide +kernel⟩
theorem mp_5 : Cond.selects RX2 yX2_bringBaseBelowModulus yX2_bringBaseBelowModulus ∈ gx_TB := List.mem_filter.mpr ⟨List.mem_append_left _ (List.mem_of_getElem? (i := 5) (by decide +kernel)), by decide +kernel⟩
theorem mp_6 : Cond.selects RX2 yX2_divideProduct yX2_divideProduct ∈ gx_TB := List.mem_filter.mpr ⟨List.mem_append_left _ (List.mem_of_getElem? (i := 6) (by decide +kernel)), by decide +kernel⟩
theorem mp_7 : Cond.selects RX2 yX2_guessedDigit yX2_guessedDigit ∈ gx_TB := List.mem_filter.mpr ⟨List.mem_append_left _ (List.mem_of_getElem? (i := 7) (by decide +kernel)), by decide +kernel⟩
theorem mp_8 : Cond.selects RX2 yX2_takeAway yX2_takeAway ∈ gx_TB := List.mem_filter.mpr ⟨List.mem_append_left _ (List.mem_of_getElem? (i := 8) (by decide +kernel)), by decide +kernel⟩
theorem mp_9 : Cond.selects RX2 yX2_giveBack yX2_giveBack ∈ gx_TB := List.mem_filter.mpr ⟨List.mem_append_left _ (List.mem_of_getElem? (i := 9) (by decide +kernel)), by decide +kernel⟩
theorem mp_10 : Cond.selects RX2 yX2_multiplyRestBy yX2_multiplyRestBy ∈ gx_TB := List.mem_filter.mpr ⟨List.mem_append_left _ (List.mem_of_getElem? (i := 10) (by decide +kernel)), by decide +kernel⟩
theorem mp_11 : Cond.selects RX10 yX10_four yX10_four ∈ gx_TB := List.mem_filter.mpr ⟨List.mem_append_left _ (List.mem_of_getElem? (i := 11) (by decide +kernel)), by decide +kernel⟩
theorem mp_12 : Cond.selects RX10 yX10_used yX10_used ∈ gx_TB := List.mem_filter.mpr ⟨List.mem_append_left _ (List.mem_of_getElem? (i := 12) (by decide +kernel)), by decide +kernel⟩
theorem mp_13 : Cond.selects RX10 yX10_bodyPlain yX10_bodyPlain ∈ gx_TB := List.mem_filter.mpr ⟨List.mem_append_left _ (List.mem_of_getElem? (i := 13) (by decide +kernel)), by decide +kernel⟩
theorem mp_14 : Cond.selects RX10 yX10_tell yX10_tell ∈ gx_TB := List.mem_filter.mpr ⟨List.mem_append_left _ (List.mem_of_getElem? (i := 14) (by decide +kernel)), by decide +kernel⟩
theorem mp_15 : Cond.selects RX10 yX10_fieldPlain yX10_fieldPlain ∈ gx_TB := List.mem_filter.mpr ⟨List.mem_append_left _ (List.mem_of_getElem? (i := 15) (by decide +kernel)), by decide +kernel⟩
theorem mp_16 : Cond.selects RX10 yX10_valueEnd yX10_valueEnd ∈ gx_TB := List.mem_filter.mpr ⟨List.mem_append_left _ (List.mem_of_getElem? (i := 16) (by decide +kernel)), by decide +kernel⟩
theorem mp_17 : Cond.selects RX8 yX8_isSame yX8_isSame ∈ gx_TB := List.mem_filter.mpr ⟨List.mem_append_left _ (List.mem_of_getElem? (i := 17) (by decide +kernel)), by decide +kernel⟩
theorem mp_18 : Cond.selects RX10 yX10_digest yX10_digest ∈ gx_TB := List.mem_filter.mpr ⟨List.mem_append_left _ (List.mem_of_getElem? (i := 18) (by decide +kernel)), by decide +kernel⟩
theorem mp_19 : Cond.selects RX7 yX7_round yX7_round ∈ gx_TB := List.mem_filter.mpr ⟨List.mem_append_left _ (List.mem_of_getElem? (i := 19) (by decide +kernel)), by decide +kernel⟩
theorem mp_20 : Cond.selects RX10 yX10_remainder yX10_remainder ∈ gx_TB := List.mem_filter.mpr ⟨List.mem_append_left _ (List.mem_of_getElem? (i := 20) (by decide +kernel)), by decide +kernel⟩
theorem mp_21 : Cond.selects RX10 yX10_times yX10_times ∈ gx_TB := List.mem_filter.mpr ⟨List.mem_append_left _ (List.mem_of_getElem? (i := 21) (by decide +kernel)), by decide +kernel⟩
theorem mw_1 : Cond.initialized RX6 ∈ gx_TB := List.mem_filter.mpr ⟨List.mem_append_right _ (List.mem_of_getElem? (i := 1) (by decide +kernel)), by decide +kernel⟩
theorem mw_2 : Cond.initialized RX0 ∈ gx_TB := List.mem_filter.mpr ⟨List.mem_append_right _ (List.mem_of_getElem? (i := 2) (by decide +kernel)), by decide +kernel⟩
theorem mw_3 : Cond.initialized RX1 ∈ gx_TB := List.mem_filter.mpr ⟨List.mem_append_right _ (List.mem_of_getElem? (i := 3) (by decide +kernel)), by decide +kernel⟩
theorem mw_4 : Cond.initialized RX5 ∈ gx_TB := List.mem_filter.mpr ⟨List.mem_append_right _ (List.mem_of_getElem? (i := 4) (by decide +kernel)), by decide +kernel⟩
theorem mw_5 : Cond.initialized RX3 ∈ gx_TB := List.mem_filter.mpr ⟨List.mem_append_right _ (List.mem_of_getElem? (i := 5) (by decide +kernel)), by decide +kernel⟩
theorem mw_6 : Cond.initialized RX2 ∈ gx_TB := List.mem_filter.mpr ⟨List.mem_append_right _ (List.mem_of_getElem? (i := 6) (by decide +kernel)), by decide +kernel⟩
theorem mw_7 : Cond.initialized RX10 ∈ gx_TB := List.mem_filter.mpr ⟨List.mem_append_right _ (List.mem_of_getElem? (i := 7) (by decide +kernel)), by decide +kernel⟩
theorem mw_8 : Cond.initialized RX9 ∈ gx_TB := List.mem_filter.mpr ⟨List.mem_append_right _ (List.mem_of_getElem? (i := 8) (by decide +kernel)), by decide +kernel⟩
theorem mw_9 : Cond.initialized RX8 ∈ gx_TB := List.mem_filter.mpr ⟨List.mem_append_right _ (List.mem_of_getElem? (i := 9) (by decide +kernel)), by decide +kernel⟩
theorem mw_10 : Cond.initialized RX7 ∈ gx_TB := List.mem_filter.mpr ⟨List.mem_append_right _ (List.mem_of_getElem? (i := 10) (by decide +kernel)), by decide +kernel⟩
theorem mw_11 : Cond.initialized RJ9 ∈ gx_TB := List.mem_filter.mpr ⟨List.mem_append_right _ (List.mem_of_getElem? (i := 11) (by decide +kernel)), by decide +kernel⟩
theorem mw_12 : Cond.initialized RJ10 ∈ gx_TB := List.mem_filter.mpr ⟨List.mem_append_right _ (List.mem_of_getElem? (i := 12) (by decide +kernel)), by decide +kernel⟩
theorem mw_13 : Cond.initialized RX4 ∈ gx_TB := List.mem_filter.mpr ⟨List.mem_append_right _ (List.mem_of_getElem? (i := 13) (by decide +kernel)), by decide +kernel⟩
theorem mw_14 : Cond.initialized RJ6 ∈ gx_TB := List.mem_filter.mpr ⟨List.mem_append_right _ (List.mem_of_getElem? (i := 14) (by decide +kernel)), by decide +kernel⟩
theorem mw_15 : Cond.initialized RJ7 ∈ gx_TB := List.mem_filter.mpr ⟨List.mem_append_right _ (List.mem_of_getElem? (i := 15) (by decide +kernel)), by decide +kernel⟩
theorem mw_30 : Cond.fieldLink RX0 9 "PlainSeal$Bytes" "held" "[B" ∈ gx_TB := List.mem_filter.mpr ⟨List.mem_append_right _ (List.mem_of_getElem? (i := 30) (by decide +kernel)), by decide +kernel⟩
theorem mw_31 : Cond.fieldLink RX0 15 "PlainSeal$Bytes" "size" "I" ∈ gx_TB := List.mem_filter.mpr ⟨List.mem_append_right _ (List.mem_of_getElem? (i := 31) (by decide +kernel)), by decide +kernel⟩
theorem mw_46 : Cond.fieldLink RX1 12 "PlainSeal$Mail" "text" "LPlainSeal$Bytes;" ∈ gx_TB := List.mem_filter.mpr ⟨List.mem_append_right _ (List.mem_of_getElem? (i := 46) (by decide +kernel)), by decide +kernel⟩
theorem mw_47 : Cond.fieldLink RX1 18 "PlainSeal$Mail" "places" "[I" ∈ gx_TB := List.mem_filter.mpr ⟨List.mem_append_right _ (List.mem_of_getElem? (i := 47) (by decide +kernel)), by decide +kernel⟩
theorem mw_48 : Cond.fieldLink RX1 22 "PlainSeal$Mail" "fields" "I" ∈ gx_TB := List.mem_filter.mpr ⟨List.mem_append_right _ (List.mem_of_getElem? (i := 48) (by decide +kernel)), by decide +kernel⟩
theorem mw_65 : Cond.fieldLink RX5 12 "PlainSeal$TagList" "text" "LPlainSeal$Bytes;" ∈ gx_TB := List.mem_filter.mpr ⟨List.mem_append_right _ (List.mem_of_getElem? (i := 65) (by decide +kernel)), by decide +kernel⟩
theorem mw_75 : Cond.fieldLink RX3 9 "PlainSeal$Sha256" "state" "[I" ∈ gx_TB := List.mem_filter.mpr ⟨List.mem_append_right _ (List.mem_of_getElem? (i := 75) (by decide +kernel)), by decide +kernel⟩
theorem mw_76 : Cond.fieldLink RX3 13 "PlainSeal$Sha256" "mixed" "[I" ∈ gx_TB := List.mem_filter.mpr ⟨List.mem_append_right _ (List.mem_of_getElem? (i := 76) (by decide +kernel)), by decide +kernel⟩
theorem mw_77 : Cond.fieldLink RX3 16 "PlainSeal$Sha256" "schedule" "[I" ∈ gx_TB := List.mem_filter.mpr ⟨List.mem_append_right _ (List.mem_of_getElem? (i := 77) (by decide +kernel)), by decide +kernel⟩
theorem mw_91 : Cond.fieldLink RX2 9 "PlainSeal$Modular" "base" "[I" ∈ gx_TB := List.mem_filter.mpr ⟨List.mem_append_right _ (List.mem_of_getElem? (i := 91) (by decide +kernel)), by decide +kernel⟩
theorem mw_92 : Cond.fieldLink RX2 13 "PlainSeal$Modular" "modulus" "[I" ∈ gx_TB := List.mem_filter.mpr ⟨List.mem_append_right _ (List.mem_of_getElem? (i := 92) (by decide +kernel)), by decide +kernel⟩
theorem mw_93 : Cond.fieldLink RX2 16 "PlainSeal$Modular" "rest" "[I" ∈ gx_TB := List.mem_filter.mpr ⟨List.mem_append_right _ (List.mem_of_getElem? (i := 93) (by decide +kernel)), by decide +kernel⟩
theorem mw_94 : Cond.fieldLink RX2 19 "PlainSeal$Modular" "product" "[I" ∈ gx_TB := List.mem_filter.mpr ⟨List.mem_append_right _ (List.mem_of_getElem? (i := 94) (by decide +kernel)), by decide +kernel⟩
theorem mw_104 : Cond.fieldLink RX6 10 "PlainSeal" "tape" "LPlainSeal$Bytes;" ∈ gx_TB := List.mem_filter.mpr ⟨List.mem_append_right _ (List.mem_of_getElem? (i := 104) (by decide +kernel)), by decide +kernel⟩
theorem mw_105 : Cond.fieldLink RX6 16 "PlainSeal" "out" "LPlainSeal$Bytes;" ∈ gx_TB := List.mem_filter.mpr ⟨List.mem_append_right _ (List.mem_of_getElem? (i := 105) (by decide +kernel)), by decide +kernel⟩
theorem mw_106 : Cond.fieldLink RX6 22 "PlainSeal" "mail" "LPlainSeal$Mail;" ∈ gx_TB := List.mem_filter.mpr ⟨List.mem_append_right _ (List.mem_of_getElem? (i := 106) (by decide +kernel)), by decide +kernel⟩
theorem mw_107 : Cond.fieldLink RX6 29 "PlainSeal" "tagList" "LPlainSeal$TagList;" ∈ gx_TB := List.mem_filter.mpr ⟨List.mem_append_right _ (List.mem_of_getElem? (i := 107) (by decide +kernel)), by decide +kernel⟩
theorem mw_108 : Cond.fieldLink RX6 36 "PlainSeal" "sha256" "LPlainSeal$Sha256;" ∈ gx_TB := List.mem_filter.mpr ⟨List.mem_append_right _ (List.mem_of_getElem? (i := 108) (by decide +kernel)), by decide +kernel⟩
theorem mw_109 : Cond.fieldLink RX6 43 "PlainSeal" "modular" "LPlainSeal$Modular;" ∈ gx_TB := List.mem_filter.mpr ⟨List.mem_append_right _ (List.mem_of_getElem? (i := 109) (by decide +kernel)), by decide +kernel⟩
theorem mw_127 : Cond.methodLink RX6 47 yX0_size ∈ gx_TB := List.mem_filter.mpr ⟨List.mem_append_right _ (List.mem_of_getElem? (i := 127) (by decide +kernel)), by decide +kernel⟩
theorem mw_128 : Cond.instanceMethod yX0_size ∈ gx_TB := List.mem_filter.mpr ⟨List.mem_append_right _ (List.mem_of_getElem? (i := 128) (by decide +kernel)), by decide +kernel⟩
theorem mw_129 : Cond.selects RX0 yX0_size yX0_size ∈ gx_TB := List.mem_filter.mpr ⟨List.mem_append_right _ (List.mem_of_getElem? (i := 129) (by decide +kernel)), by decide +kernel⟩
set_option maxRecDepth 100000 in
theorem mw_130 : Cond.code yX0_size cX0_size 1 (some .int) ∈ gx_TB := List.mem_filter.mpr ⟨List.mem_append_right _ (List.mem_of_getElem? (i := 130) rfl), by decide +kernel⟩
theorem mw_131 : Cond.methodLink RX6 51 yX0_addWord ∈ gx_TB := List.mem_filter.mpr ⟨List.mem_append_right _ (List.mem_of_getElem? (i := 131) (by decide +kernel)), by decide +kernel⟩
theorem mw_132 : Cond.instanceMethod yX0_addWord ∈ gx_TB := List.mem_filter.mpr ⟨List.mem_append_right _ (List.mem_of_getElem? (i := 132) (by decide +kernel)), by decide +kernel⟩
theorem mw_133 : Cond.selects RX0 yX0_addWord yX0_addWord ∈ gx_TB := List.mem_filter.mpr ⟨List.mem_append_right _ (List.mem_of_getElem? (i := 133) (by decide +kernel)), by decide +kernel⟩
set_option maxRecDepth 100000 in
theorem mw_134 : Cond.code yX0_addWord cX0_addWord 2 none ∈ gx_TB := List.mem_filter.mpr ⟨List.mem_append_right _ (List.mem_of_getElem? (i := 134) rfl), by decide +kernel⟩
theorem mw_135 : Cond.methodLink RX0 19 yX0_add ∈ gx_TB := List.mem_filter.mpr ⟨List.mem_append_right _ (List.mem_of_getElem? (i := 135) (by decide +kernel)), by decide +kernel⟩
theorem mw_136 : Cond.instanceMethod yX0_add ∈ gx_TB := List.mem_filter.mpr ⟨List.mem_append_right _ (List.mem_of_getElem? (i := 136) (by decide +kernel)), by decide +kernel⟩
theorem mw_137 : Cond.selects RX0 yX0_add yX0_add ∈ gx_TB := List.mem_filter.mpr ⟨List.mem_append_right _ (List.mem_of_getElem? (i := 137) (by decide +kernel)), by decide +kernel⟩
set_option maxRecDepth 100000 in
theorem mw_138 : Cond.code yX0_add cX0_add 2 none ∈ gx_TB := List.mem_filter.mpr ⟨List.mem_append_right _ (List.mem_of_getElem? (i := 138) rfl), by decide +kernel⟩
theorem mw_143 : Cond.methodLink RX6 55 yX0_cutTo ∈ gx_TB := List.mem_filter.mpr ⟨List.mem_append_right _ (List.mem_of_getElem? (i := 143) (by decide +kernel)), by decide +kernel⟩
theorem mw_144 : Cond.instanceMethod yX0_cutTo ∈ gx_TB := List.mem_filter.mpr ⟨List.mem_append_right _ (List.mem_of_getElem? (i := 144) (by decide +kernel)), by decide +kernel⟩
theorem mw_145 : Cond.selects RX0 yX0_cutTo yX0_cutTo ∈ gx_TB := List.mem_filter.mpr ⟨List.mem_append_right _ (List.mem_of_getElem? (i := 145) (by decide +kernel)), by decide +kernel⟩
set_option maxRecDepth 100000 in
theorem mw_146 : Cond.code yX0_cutTo cX0_cutTo 2 none ∈ gx_TB := List.mem_filter.mpr ⟨List.mem_append_right _ (List.mem_of_getElem? (i := 146) rfl), by decide +kernel⟩
theorem mw_151 : Cond.methodLink RX6 58 yX1_read ∈ gx_TB := List.mem_filter.mpr ⟨List.mem_append_right _ (List.mem_of_getElem? (i := 151) (by decide +kernel)), by decide +kernel⟩
theorem mw_152 : Cond.instanceMethod yX1_read ∈ gx_TB := List.mem_filter.mpr ⟨List.mem_append_right _ (List.mem_of_getElem? (i := 152) (by decide +kernel)), by decide +kernel⟩
theorem mw_153 : Cond.selects RX1 yX1_read yX1_read ∈ gx_TB := List.mem_filter.mpr ⟨List.mem_append_right _ (List.mem_of_getElem? (i := 153) (by decide +kernel)), by decide +kernel⟩
set_option maxRecDepth 100000 in
theorem mw_154 : Cond.code yX1_read cX1_read 4 (some .int) ∈ gx_TB := List.mem_filter.mpr ⟨List.mem_append_right _ (List.mem_of_getElem? (i := 154) rfl), by decide +kernel⟩
theorem mw_155 : Cond.methodLink RX1 26 yX1_countFields ∈ gx_TB := List.mem_filter.mpr ⟨List.mem_append_right _ (List.mem_of_getElem? (i := 155) (by decide +kernel)), by decide +kernel⟩
theorem mw_156 : Cond.static yX1_countFields ∈ gx_TB := List.mem_filter.mpr ⟨List.mem_append_right _ (List.mem_of_getElem? (i := 156) (by decide +kernel)), by decide +kernel⟩
set_option maxRecDepth 100000 in
theorem mw_157 : Cond.code yX1_countFields cX1_countFields 3 (some .int) ∈ gx_TB := List.mem_filter.mpr ⟨List.mem_append_right _ (List.mem_of_getElem? (i := 157) rfl), by decide +kernel⟩
theorem mw_158 : Cond.methodLink RX1 38 yX1_fieldsEndAt ∈ gx_TB := List.mem_filter.mpr ⟨List.mem_append_right _ (List.mem_of_getElem? (i := 158) (by decide +kernel)), by decide +kernel⟩
theorem mw_159 : Cond.static yX1_fieldsEndAt ∈ gx_TB := List.mem_filter.mpr ⟨List.mem_append_right _ (List.mem_of_getElem? (i := 159) (by decide +kernel)), by decide +kernel⟩
set_option maxRecDepth 100000 in
theorem mw_160 : Cond.code yX1_fieldsEndAt cX1_fieldsEndAt 2 (some .boolean) ∈ gx_TB := List.mem_filter.mpr ⟨List.mem_append_right _ (List.mem_of_getElem? (i := 160) rfl), by decide +kernel⟩
theorem mw_161 : Cond.methodLink RX1 45 yX0_size ∈ gx_TB := List.mem_filter.mpr ⟨List.mem_append_right _ (List.mem_of_getElem? (i := 161) (by decide +kernel)), by decide +kernel⟩
theorem mw_162 : Cond.methodLink RX1 49 yX0_at ∈ gx_TB := List.mem_filter.mpr ⟨List.mem_append_right _ (List.mem_of_getElem? (i := 162) (by decide +kernel)), by decide +kernel⟩
theorem mw_163 : Cond.instanceMethod yX0_at ∈ gx_TB := List.mem_filter.mpr ⟨List.mem_append_right _ (List.mem_of_getElem? (i := 163) (by decide +kernel)), by decide +kernel⟩
theorem mw_164 : Cond.selects RX0 yX0_at yX0_at ∈ gx_TB := List.mem_filter.mpr ⟨List.mem_append_right _ (List.mem_of_getElem? (i := 164) (by decide +kernel)), by decide +kernel⟩
set_option maxRecDepth 100000 in
theorem mw_165 : Cond.code yX0_at cX0_at 2 (some .int) ∈ gx_TB := List.mem_filter.mpr ⟨List.mem_append_right _ (List.mem_of_getElem? (i := 165) rfl), by decide +kernel⟩
theorem mw_166 : Cond.methodLink RX1 42 yX1_nameLength ∈ gx_TB := List.mem_filter.mpr ⟨List.mem_append_right _ (List.mem_of_getElem? (i := 166) (by decide +kernel)), by decide +kernel⟩
theorem mw_167 : Cond.static yX1_nameLength ∈ gx_TB := List.mem_filter.mpr ⟨List.mem_append_right _ (List.mem_of_getElem? (i := 167) (by decide +kernel)), by decide +kernel⟩
set_option maxRecDepth 100000 in
theorem mw_168 : Cond.code yX1_nameLength cX1_nameLength 3 (some .int) ∈ gx_TB := List.mem_filter.mpr ⟨List.mem_append_right _ (List.mem_of_getElem? (i := 168) rfl), by decide +kernel⟩
theorem mw_169 : Cond.methodLink RX1 53 yX1_isOfName ∈ gx_TB := List.mem_filter.mpr ⟨List.mem_append_right _ (List.mem_of_getElem? (i := 169) (by decide +kernel)), by decide +kernel⟩
theorem mw_170 : Cond.static yX1_isOfName ∈ gx_TB := List.mem_filter.mpr ⟨List.mem_append_right _ (List.mem_of_getElem? (i := 170) (by decide +kernel)), by decide +kernel⟩
set_option maxRecDepth 100000 in
theorem mw_171 : Cond.code yX1_isOfName cX1_isOfName 1 (some .boolean) ∈ gx_TB := List.mem_filter.mpr ⟨List.mem_append_right _ (List.mem_of_getElem? (i := 171) rfl), by decide +kernel⟩
theorem mw_173 : Cond.static yX6_isSmallLetter ∈ gx_TB := List.mem_filter.mpr ⟨List.mem_append_right _ (List.mem_of_getElem? (i := 173) (by decide +kernel)), by decide +kernel⟩
set_option maxRecDepth 100000 in
theorem mw_174 : Cond.code yX6_isSmallLetter cX6_isSmallLetter 1 (some .boolean) ∈ gx_TB := List.mem_filter.mpr ⟨List.mem_append_right _ (List.mem_of_getElem? (i := 174) rfl), by decide +kernel⟩
theorem mw_176 : Cond.static yX6_isGreatLetter ∈ gx_TB := List.mem_filter.mpr ⟨List.mem_append_right _ (List.mem_of_getElem? (i := 176) (by decide +kernel)), by decide +kernel⟩
set_option maxRecDepth 100000 in
theorem mw_177 : Cond.code yX6_isGreatLetter cX6_isGreatLetter 1 (some .boolean) ∈ gx_TB := List.mem_filter.mpr ⟨List.mem_append_right _ (List.mem_of_getElem? (i := 177) rfl), by decide +kernel⟩
theorem mw_179 : Cond.static yX6_isDigit ∈ gx_TB := List.mem_filter.mpr ⟨List.mem_append_right _ (List.mem_of_getElem? (i := 179) (by decide +kernel)), by decide +kernel⟩
set_option maxRecDepth 100000 in
theorem mw_180 : Cond.code yX6_isDigit cX6_isDigit 1 (some .boolean) ∈ gx_TB := List.mem_filter.mpr ⟨List.mem_append_right _ (List.mem_of_getElem? (i := 180) rfl), by decide +kernel⟩
theorem mw_181 : Cond.methodLink RX1 34 yX1_fieldStop ∈ gx_TB := List.mem_filter.mpr ⟨List.mem_append_right _ (List.mem_of_getElem? (i := 181) (by decide +kernel)), by decide +kernel⟩
theorem mw_182 : Cond.static yX1_fieldStop ∈ gx_TB := List.mem_filter.mpr ⟨List.mem_append_right _ (List.mem_of_getElem? (i := 182) (by decide +kernel)), by decide +kernel⟩
set_option maxRecDepth 100000 in
theorem mw_183 : Cond.code yX1_fieldStop cX1_fieldStop 3 (some .int) ∈ gx_TB := List.mem_filter.mpr ⟨List.mem_append_right _ (List.mem_of_getElem? (i := 183) rfl), by decide +kernel⟩
theorem mw_185 : Cond.static yX6_isWhite ∈ gx_TB := List.mem_filter.mpr ⟨List.mem_append_right _ (List.mem_of_getElem? (i := 185) (by decide +kernel)), by decide +kernel⟩
set_option maxRecDepth 100000 in
theorem mw_186 : Cond.code yX6_isWhite cX6_isWhite 1 (some .boolean) ∈ gx_TB := List.mem_filter.mpr ⟨List.mem_append_right _ (List.mem_of_getElem? (i := 186) rfl), by decide +kernel⟩
theorem mw_187 : Cond.methodLink RX1 30 yX0_become ∈ gx_TB := List.mem_filter.mpr ⟨List.mem_append_right _ (List.mem_of_getElem? (i := 187) (by decide +kernel)), by decide +kernel⟩
theorem mw_188 : Cond.instanceMethod yX0_become ∈ gx_TB := List.mem_filter.mpr ⟨List.mem_append_right _ (List.mem_of_getElem? (i := 188) (by decide +kernel)), by decide +kernel⟩
theorem mw_189 : Cond.selects RX0 yX0_become yX0_become ∈ gx_TB := List.mem_filter.mpr ⟨List.mem_append_right _ (List.mem_of_getElem? (i := 189) (by decide +kernel)), by decide +kernel⟩
set_option maxRecDepth 100000 in
theorem mw_190 : Cond.code yX0_become cX0_become 2 none ∈ gx_TB := List.mem_filter.mpr ⟨List.mem_append_right _ (List.mem_of_getElem? (i := 190) rfl), by decide +kernel⟩
theorem mw_191 : Cond.methodLink RX0 27 yX0_clear ∈ gx_TB := List.mem_filter.mpr ⟨List.mem_append_right _ (List.mem_of_getElem? (i := 191) (by decide +kernel)), by decide +kernel⟩
theorem mw_192 : Cond.instanceMethod yX0_clear ∈ gx_TB := List.mem_filter.mpr ⟨List.mem_append_right _ (List.mem_of_getElem? (i := 192) (by decide +kernel)), by decide +kernel⟩
theorem mw_193 : Cond.selects RX0 yX0_clear yX0_clear ∈ gx_TB := List.mem_filter.mpr ⟨List.mem_append_right _ (List.mem_of_getElem? (i := 193) (by decide +kernel)), by decide +kernel⟩
set_option maxRecDepth 100000 in
theorem mw_194 : Cond.code yX0_clear cX0_clear 1 none ∈ gx_TB := List.mem_filter.mpr ⟨List.mem_append_right _ (List.mem_of_getElem? (i := 194) rfl), by decide +kernel⟩
theorem mw_195 : Cond.methodLink RX0 30 yX0_addPart ∈ gx_TB := List.mem_filter.mpr ⟨List.mem_append_right _ (List.mem_of_getElem? (i := 195) (by decide +kernel)), by decide +kernel⟩
theorem mw_196 : Cond.instanceMethod yX0_addPart ∈ gx_TB := List.mem_filter.mpr ⟨List.mem_append_right _ (List.mem_of_getElem? (i := 196) (by decide +kernel)), by decide +kernel⟩
theorem mw_197 : Cond.selects RX0 yX0_addPart yX0_addPart ∈ gx_TB := List.mem_filter.mpr ⟨List.mem_append_right _ (List.mem_of_getElem? (i := 197) (by decide +kernel)), by decide +kernel⟩
set_option maxRecDepth 100000 in
theorem mw_198 : Cond.code yX0_addPart cX0_addPart 5 none ∈ gx_TB := List.mem_filter.mpr ⟨List.mem_append_right _ (List.mem_of_getElem? (i := 198) rfl), by decide +kernel⟩
theorem mw_199 : Cond.methodLink RX0 23 yX0_at ∈ gx_TB := List.mem_filter.mpr ⟨List.mem_append_right _ (List.mem_of_getElem? (i := 199) (by decide +kernel)), by decide +kernel⟩
theorem mw_200 : Cond.methodLink RX6 62 yX0_clear ∈ gx_TB := List.mem_filter.mpr ⟨List.mem_append_right _ (List.mem_of_getElem? (i := 200) (by decide +kernel)), by decide +kernel⟩
theorem mw_205 : Cond.methodLink RX6 65 yX1_isMissing ∈ gx_TB := List.mem_filter.mpr ⟨List.mem_append_right _ (List.mem_of_getElem? (i := 205) (by decide +kernel)), by decide +kernel⟩
theorem mw_206 : Cond.instanceMethod yX1_isMissing ∈ gx_TB := List.mem_filter.mpr ⟨List.mem_append_right _ (List.mem_of_getElem? (i := 206) (by decide +kernel)), by decide +kernel⟩
theorem mw_207 : Cond.selects RX1 yX1_isMissing yX1_isMissing ∈ gx_TB := List.mem_filter.mpr ⟨List.mem_append_right _ (List.mem_of_getElem? (i := 207) (by decide +kernel)), by decide +kernel⟩
set_option maxRecDepth 100000 in
theorem mw_208 : Cond.code yX1_isMissing cX1_isMissing 1 (some .boolean) ∈ gx_TB := List.mem_filter.mpr ⟨List.mem_append_right _ (List.mem_of_getElem? (i := 208) rfl), by decide +kernel⟩
theorem mw_209 : Cond.methodLink RX6 69 yX1_writeBody ∈ gx_TB := List.mem_filter.mpr ⟨List.mem_append_right _ (List.mem_of_getElem? (i := 209) (by decide +kernel)), by decide +kernel⟩
theorem mw_210 : Cond.instanceMethod yX1_writeBody ∈ gx_TB := List.mem_filter.mpr ⟨List.mem_append_right _ (List.mem_of_getElem? (i := 210) (by decide +kernel)), by decide +kernel⟩
theorem mw_211 : Cond.selects RX1 yX1_writeBody yX1_writeBody ∈ gx_TB := List.mem_filter.mpr ⟨List.mem_append_right _ (List.mem_of_getElem? (i := 211) (by decide +kernel)), by decide +kernel⟩
set_option maxRecDepth 100000 in
theorem mw_212 : Cond.code yX1_writeBody cX1_writeBody 7 none ∈ gx_TB := List.mem_filter.mpr ⟨List.mem_append_right _ (List.mem_of_getElem? (i := 212) rfl), by decide +kernel⟩
theorem mw_213 : Cond.methodLink RX1 76 yX0_clear ∈ gx_TB := List.mem_filter.mpr ⟨List.mem_append_right _ (List.mem_of_getElem? (i := 213) (by decide +kernel)), by decide +kernel⟩
theorem mw_214 : Cond.methodLink RX1 79 yX0_addTimes ∈ gx_TB := List.mem_filter.mpr ⟨List.mem_append_right _ (List.mem_of_getElem? (i := 214) (by decide +kernel)), by decide +kernel⟩
theorem mw_215 : Cond.instanceMethod yX0_addTimes ∈ gx_TB := List.mem_filter.mpr ⟨List.mem_append_right _ (List.mem_of_getElem? (i := 215) (by decide +kernel)), by decide +kernel⟩
theorem mw_216 : Cond.selects RX0 yX0_addTimes yX0_addTimes ∈ gx_TB := List.mem_filter.mpr ⟨List.mem_append_right _ (List.mem_of_getElem? (i := 216) (by decide +kernel)), by decide +kernel⟩
set_option maxRecDepth 100000 in
theorem mw_217 : Cond.code yX0_addTimes cX0_addTimes 4 none ∈ gx_TB := List.mem_filter.mpr ⟨List.mem_append_right _ (List.mem_of_getElem? (i := 217) rfl), by decide +kernel⟩
theorem mw_218 : Cond.methodLink RX1 83 yX0_add ∈ gx_TB := List.mem_filter.mpr ⟨List.mem_append_right _ (List.mem_of_getElem? (i := 218) (by decide +kernel)), by decide +kernel⟩
theorem mw_223 : Cond.methodLink RX6 73 yX1_hasField ∈ gx_TB := List.mem_filter.mpr ⟨List.mem_append_right _ (List.mem_of_getElem? (i := 223) (by decide +kernel)), by decide +kernel⟩
theorem mw_224 : Cond.instanceMethod yX1_hasField ∈ gx_TB := List.mem_filter.mpr ⟨List.mem_append_right _ (List.mem_of_getElem? (i := 224) (by decide +kernel)), by decide +kernel⟩
theorem mw_225 : Cond.selects RX1 yX1_hasField yX1_hasField ∈ gx_TB := List.mem_filter.mpr ⟨List.mem_append_right _ (List.mem_of_getElem? (i := 225) (by decide +kernel)), by decide +kernel⟩
set_option maxRecDepth 100000 in
theorem mw_226 : Cond.code yX1_hasField cX1_hasField 2 (some .boolean) ∈ gx_TB := List.mem_filter.mpr ⟨List.mem_append_right _ (List.mem_of_getElem? (i := 226) rfl), by decide +kernel⟩
theorem mw_227 : Cond.methodLink RX6 77 yX1_writeRelaxedField ∈ gx_TB := List.mem_filter.mpr ⟨List.mem_append_right _ (List.mem_of_getElem? (i := 227) (by decide +kernel)), by decide +kernel⟩
theorem mw_228 : Cond.instanceMethod yX1_writeRelaxedField ∈ gx_TB := List.mem_filter.mpr ⟨List.mem_append_right _ (List.mem_of_getElem? (i := 228) (by decide +kernel)), by decide +kernel⟩
theorem mw_229 : Cond.selects RX1 yX1_writeRelaxedField yX1_writeRelaxedField ∈ gx_TB := List.mem_filter.mpr ⟨List.mem_append_right _ (List.mem_of_getElem? (i := 229) (by decide +kernel)), by decide +kernel⟩
set_option maxRecDepth 100000 in
theorem mw_230 : Cond.code yX1_writeRelaxedField cX1_writeRelaxedField 5 none ∈ gx_TB := List.mem_filter.mpr ⟨List.mem_append_right _ (List.mem_of_getElem? (i := 230) rfl), by decide +kernel⟩
theorem mw_232 : Cond.static yX6_small ∈ gx_TB := List.mem_filter.mpr ⟨List.mem_append_right _ (List.mem_of_getElem? (i := 232) (by decide +kernel)), by decide +kernel⟩
set_option maxRecDepth 100000 in
theorem mw_233 : Cond.code yX6_small cX6_small 1 (some .int) ∈ gx_TB := List.mem_filter.mpr ⟨List.mem_append_right _ (List.mem_of_getElem? (i := 233) rfl), by decide +kernel⟩
theorem mw_234 : Cond.methodLink RX6 122 yX6_isGreatLetter ∈ gx_TB := List.mem_filter.mpr ⟨List.mem_append_right _ (List.mem_of_getElem? (i := 234) (by decide +kernel)), by decide +kernel⟩
theorem mw_235 : Cond.methodLink RX1 91 yX1_addRelaxedValue ∈ gx_TB := List.mem_filter.mpr ⟨List.mem_append_right _ (List.mem_of_getElem? (i := 235) (by decide +kernel)), by decide +kernel⟩
theorem mw_237 : Cond.instanceMethod yX1_addRelaxedValue ∈ gx_TB := List.mem_filter.mpr ⟨List.mem_append_right _ (List.mem_of_getElem? (i := 237) (by decide +kernel)), by decide +kernel⟩
set_option maxRecDepth 100000 in
theorem mw_238 : Cond.code yX1_addRelaxedValue cX1_addRelaxedValue 8 none ∈ gx_TB := List.mem_filter.mpr ⟨List.mem_append_right _ (List.mem_of_getElem? (i := 238) rfl), by decide +kernel⟩
theorem mw_239 : Cond.methodLink RX6 81 yX1_writeSimpleField ∈ gx_TB := List.mem_filter.mpr ⟨List.mem_append_right _ (List.mem_of_getElem? (i := 239) (by decide +kernel)), by decide +kernel⟩
theorem mw_240 : Cond.instanceMethod yX1_writeSimpleField ∈ gx_TB := List.mem_filter.mpr ⟨List.mem_append_right _ (List.mem_of_getElem? (i := 240) (by decide +kernel)), by decide +kernel⟩
theorem mw_241 : Cond.selects RX1 yX1_writeSimpleField yX1_writeSimpleField ∈ gx_TB := List.mem_filter.mpr ⟨List.mem_append_right _ (List.mem_of_getElem? (i := 241) (by decide +kernel)), by decide +kernel⟩
set_option maxRecDepth 100000 in
theorem mw_242 : Cond.code yX1_writeSimpleField cX1_writeSimpleField 5 none ∈ gx_TB := List.mem_filter.mpr ⟨List.mem_append_right _ (List.mem_of_getElem? (i := 242) rfl), by decide +kernel⟩
theorem mw_243 : Cond.methodLink RX1 87 yX0_addPart ∈ gx_TB := List.mem_filter.mpr ⟨List.mem_append_right _ (List.mem_of_getElem? (i := 243) (by decide +kernel)), by decide +kernel⟩
theorem mw_248 : Cond.methodLink RX6 84 yX1_countNamed ∈ gx_TB := List.mem_filter.mpr ⟨List.mem_append_right _ (List.mem_of_getElem? (i := 248) (by decide +kernel)), by decide +kernel⟩
theorem mw_249 : Cond.instanceMethod yX1_countNamed ∈ gx_TB := List.mem_filter.mpr ⟨List.mem_append_right _ (List.mem_of_getElem? (i := 249) (by decide +kernel)), by decide +kernel⟩
theorem mw_250 : Cond.selects RX1 yX1_countNamed yX1_countNamed ∈ gx_TB := List.mem_filter.mpr ⟨List.mem_append_right _ (List.mem_of_getElem? (i := 250) (by decide +kernel)), by decide +kernel⟩
set_option maxRecDepth 100000 in
theorem mw_251 : Cond.code yX1_countNamed cX1_countNamed 4 (some .int) ∈ gx_TB := List.mem_filter.mpr ⟨List.mem_append_right _ (List.mem_of_getElem? (i := 251) rfl), by decide +kernel⟩
theorem mw_252 : Cond.methodLink RX1 69 yX1_isNamed ∈ gx_TB := List.mem_filter.mpr ⟨List.mem_append_right _ (List.mem_of_getElem? (i := 252) (by decide +kernel)), by decide +kernel⟩
theorem mw_254 : Cond.instanceMethod yX1_isNamed ∈ gx_TB := List.mem_filter.mpr ⟨List.mem_append_right _ (List.mem_of_getElem? (i := 254) (by decide +kernel)), by decide +kernel⟩
set_option maxRecDepth 100000 in
theorem mw_255 : Cond.code yX1_isNamed cX1_isNamed 4 (some .boolean) ∈ gx_TB := List.mem_filter.mpr ⟨List.mem_append_right _ (List.mem_of_getElem? (i := 255) rfl), by decide +kernel⟩
theorem mw_260 : Cond.methodLink RX6 87 yX5_read ∈ gx_TB := List.mem_filter.mpr ⟨List.mem_append_right _ (List.mem_of_getElem? (i := 260) (by decide +kernel)), by decide +kernel⟩
theorem mw_261 : Cond.instanceMethod yX5_read ∈ gx_TB := List.mem_filter.mpr ⟨List.mem_append_right _ (List.mem_of_getElem? (i := 261) (by decide +kernel)), by decide +kernel⟩
theorem mw_262 : Cond.selects RX5 yX5_read yX5_read ∈ gx_TB := List.mem_filter.mpr ⟨List.mem_append_right _ (List.mem_of_getElem? (i := 262) (by decide +kernel)), by decide +kernel⟩
set_option maxRecDepth 100000 in
theorem mw_263 : Cond.code yX5_read cX5_read 3 (some .int) ∈ gx_TB := List.mem_filter.mpr ⟨List.mem_append_right _ (List.mem_of_getElem? (i := 263) rfl), by decide +kernel⟩
theorem mw_264 : Cond.methodLink RX5 18 yX0_dropWhiteAndNewlines ∈ gx_TB := List.mem_filter.mpr ⟨List.mem_append_right _ (List.mem_of_getElem? (i := 264) (by decide +kernel)), by decide +kernel⟩
theorem mw_265 : Cond.instanceMethod yX0_dropWhiteAndNewlines ∈ gx_TB := List.mem_filter.mpr ⟨List.mem_append_right _ (List.mem_of_getElem? (i := 265) (by decide +kernel)), by decide +kernel⟩
theorem mw_266 : Cond.selects RX0 yX0_dropWhiteAndNewlines yX0_dropWhiteAndNewlines ∈ gx_TB := List.mem_filter.mpr ⟨List.mem_append_right _ (List.mem_of_getElem? (i := 266) (by decide +kernel)), by decide +kernel⟩
set_option maxRecDepth 100000 in
theorem mw_267 : Cond.code yX0_dropWhiteAndNewlines cX0_dropWhiteAndNewlines 4 none ∈ gx_TB := List.mem_filter.mpr ⟨List.mem_append_right _ (List.mem_of_getElem? (i := 267) rfl), by decide +kernel⟩
theorem mw_269 : Cond.methodLink RX5 21 yX0_size ∈ gx_TB := List.mem_filter.mpr ⟨List.mem_append_right _ (List.mem_of_getElem? (i := 269) (by decide +kernel)), by decide +kernel⟩
theorem mw_270 : Cond.methodLink RX5 25 yX0_at ∈ gx_TB := List.mem_filter.mpr ⟨List.mem_append_right _ (List.mem_of_getElem? (i := 270) (by decide +kernel)), by decide +kernel⟩
theorem mw_271 : Cond.methodLink RX5 29 yX0_cutTo ∈ gx_TB := List.mem_filter.mpr ⟨List.mem_append_right _ (List.mem_of_getElem? (i := 271) (by decide +kernel)), by decide +kernel⟩
theorem mw_272 : Cond.methodLink RX5 33 yX5_countTags ∈ gx_TB := List.mem_filter.mpr ⟨List.mem_append_right _ (List.mem_of_getElem? (i := 272) (by decide +kernel)), by decide +kernel⟩
theorem mw_273 : Cond.static yX5_countTags ∈ gx_TB := List.mem_filter.mpr ⟨List.mem_append_right _ (List.mem_of_getElem? (i := 273) (by decide +kernel)), by decide +kernel⟩
set_option maxRecDepth 100000 in
theorem mw_274 : Cond.code yX5_countTags cX5_countTags 5 (some .int) ∈ gx_TB := List.mem_filter.mpr ⟨List.mem_append_right _ (List.mem_of_getElem? (i := 274) rfl), by decide +kernel⟩
theorem mw_275 : Cond.methodLink RX5 41 yX5_lettersLength ∈ gx_TB := List.mem_filter.mpr ⟨List.mem_append_right _ (List.mem_of_getElem? (i := 275) (by decide +kernel)), by decide +kernel⟩
theorem mw_276 : Cond.static yX5_lettersLength ∈ gx_TB := List.mem_filter.mpr ⟨List.mem_append_right _ (List.mem_of_getElem? (i := 276) (by decide +kernel)), by decide +kernel⟩
set_option maxRecDepth 100000 in
theorem mw_277 : Cond.code yX5_lettersLength cX5_lettersLength 3 (some .int) ∈ gx_TB := List.mem_filter.mpr ⟨List.mem_append_right _ (List.mem_of_getElem? (i := 277) rfl), by decide +kernel⟩
theorem mw_279 : Cond.methodLink RX5 45 yX5_valueOf ∈ gx_TB := List.mem_filter.mpr ⟨List.mem_append_right _ (List.mem_of_getElem? (i := 279) (by decide +kernel)), by decide +kernel⟩
theorem mw_280 : Cond.static yX5_valueOf ∈ gx_TB := List.mem_filter.mpr ⟨List.mem_append_right _ (List.mem_of_getElem? (i := 280) (by decide +kernel)), by decide +kernel⟩
set_option maxRecDepth 100000 in
theorem mw_281 : Cond.code yX5_valueOf cX5_valueOf 7 (some .int) ∈ gx_TB := List.mem_filter.mpr ⟨List.mem_append_right _ (List.mem_of_getElem? (i := 281) rfl), by decide +kernel⟩
theorem mw_282 : Cond.methodLink RX5 57 yX5_isSame ∈ gx_TB := List.mem_filter.mpr ⟨List.mem_append_right _ (List.mem_of_getElem? (i := 282) (by decide +kernel)), by decide +kernel⟩
theorem mw_283 : Cond.static yX5_isSame ∈ gx_TB := List.mem_filter.mpr ⟨List.mem_append_right _ (List.mem_of_getElem? (i := 283) (by decide +kernel)), by decide +kernel⟩
set_option maxRecDepth 100000 in
theorem mw_284 : Cond.code yX5_isSame cX5_isSame 6 (some .boolean) ∈ gx_TB := List.mem_filter.mpr ⟨List.mem_append_right _ (List.mem_of_getElem? (i := 284) rfl), by decide +kernel⟩
theorem mw_285 : Cond.methodLink RX5 49 yX0_find ∈ gx_TB := List.mem_filter.mpr ⟨List.mem_append_right _ (List.mem_of_getElem? (i := 285) (by decide +kernel)), by decide +kernel⟩
theorem mw_286 : Cond.instanceMethod yX0_find ∈ gx_TB := List.mem_filter.mpr ⟨List.mem_append_right _ (List.mem_of_getElem? (i := 286) (by decide +kernel)), by decide +kernel⟩
theorem mw_287 : Cond.selects RX0 yX0_find yX0_find ∈ gx_TB := List.mem_filter.mpr ⟨List.mem_append_right _ (List.mem_of_getElem? (i := 287) (by decide +kernel)), by decide +kernel⟩
set_option maxRecDepth 100000 in
theorem mw_288 : Cond.code yX0_find cX0_find 4 (some .int) ∈ gx_TB := List.mem_filter.mpr ⟨List.mem_append_right _ (List.mem_of_getElem? (i := 288) rfl), by decide +kernel⟩
theorem mw_289 : Cond.methodLink RX5 37 yX0_become ∈ gx_TB := List.mem_filter.mpr ⟨List.mem_append_right _ (List.mem_of_getElem? (i := 289) (by decide +kernel)), by decide +kernel⟩
theorem mw_294 : Cond.methodLink RX6 88 yX5_writeValue ∈ gx_TB := List.mem_filter.mpr ⟨List.mem_append_right _ (List.mem_of_getElem? (i := 294) (by decide +kernel)), by decide +kernel⟩
theorem mw_295 : Cond.instanceMethod yX5_writeValue ∈ gx_TB := List.mem_filter.mpr ⟨List.mem_append_right _ (List.mem_of_getElem? (i := 295) (by decide +kernel)), by decide +kernel⟩
theorem mw_296 : Cond.selects RX5 yX5_writeValue yX5_writeValue ∈ gx_TB := List.mem_filter.mpr ⟨List.mem_append_right _ (List.mem_of_getElem? (i := 296) (by decide +kernel)), by decide +kernel⟩
set_option maxRecDepth 100000 in
theorem mw_297 : Cond.code yX5_writeValue cX5_writeValue 4 (some .int) ∈ gx_TB := List.mem_filter.mpr ⟨List.mem_append_right _ (List.mem_of_getElem? (i := 297) rfl), by decide +kernel⟩
theorem mw_298 : Cond.methodLink RX5 61 yX0_clear ∈ gx_TB := List.mem_filter.mpr ⟨List.mem_append_right _ (List.mem_of_getElem? (i := 298) (by decide +kernel)), by decide +kernel⟩
theorem mw_299 : Cond.methodLink RX5 64 yX0_addPart ∈ gx_TB := List.mem_filter.mpr ⟨List.mem_append_right _ (List.mem_of_getElem? (i := 299) (by decide +kernel)), by decide +kernel⟩
theorem mw_304 : Cond.methodLink RX6 94 yX4_areOf ∈ gx_TB := List.mem_filter.mpr ⟨List.mem_append_right _ (List.mem_of_getElem? (i := 304) (by decide +kernel)), by decide +kernel⟩
theorem mw_305 : Cond.static yX4_areOf ∈ gx_TB := List.mem_filter.mpr ⟨List.mem_append_right _ (List.mem_of_getElem? (i := 305) (by decide +kernel)), by decide +kernel⟩
set_option maxRecDepth 100000 in
theorem mw_306 : Cond.code yX4_areOf cX4_areOf 5 (some .boolean) ∈ gx_TB := List.mem_filter.mpr ⟨List.mem_append_right _ (List.mem_of_getElem? (i := 306) rfl), by decide +kernel⟩
theorem mw_307 : Cond.methodLink RX4 9 yX4_lettersFor ∈ gx_TB := List.mem_filter.mpr ⟨List.mem_append_right _ (List.mem_of_getElem? (i := 307) (by decide +kernel)), by decide +kernel⟩
theorem mw_308 : Cond.static yX4_lettersFor ∈ gx_TB := List.mem_filter.mpr ⟨List.mem_append_right _ (List.mem_of_getElem? (i := 308) (by decide +kernel)), by decide +kernel⟩
set_option maxRecDepth 100000 in
theorem mw_309 : Cond.code yX4_lettersFor cX4_lettersFor 1 (some .int) ∈ gx_TB := List.mem_filter.mpr ⟨List.mem_append_right _ (List.mem_of_getElem? (i := 309) rfl), by decide +kernel⟩
theorem mw_310 : Cond.methodLink RX4 15 yX0_size ∈ gx_TB := List.mem_filter.mpr ⟨List.mem_append_right _ (List.mem_of_getElem? (i := 310) (by decide +kernel)), by decide +kernel⟩
theorem mw_311 : Cond.methodLink RX4 21 yX0_at ∈ gx_TB := List.mem_filter.mpr ⟨List.mem_append_right _ (List.mem_of_getElem? (i := 311) (by decide +kernel)), by decide +kernel⟩
theorem mw_312 : Cond.methodLink RX4 24 yX4_sixBits ∈ gx_TB := List.mem_filter.mpr ⟨List.mem_append_right _ (List.mem_of_getElem? (i := 312) (by decide +kernel)), by decide +kernel⟩
theorem mw_313 : Cond.static yX4_sixBits ∈ gx_TB := List.mem_filter.mpr ⟨List.mem_append_right _ (List.mem_of_getElem? (i := 313) (by decide +kernel)), by decide +kernel⟩
set_option maxRecDepth 100000 in
theorem mw_314 : Cond.code yX4_sixBits cX4_sixBits 1 (some .int) ∈ gx_TB := List.mem_filter.mpr ⟨List.mem_append_right _ (List.mem_of_getElem? (i := 314) rfl), by decide +kernel⟩
theorem mw_318 : Cond.methodLink RX4 27 yX4_bitsOver ∈ gx_TB := List.mem_filter.mpr ⟨List.mem_append_right _ (List.mem_of_getElem? (i := 318) (by decide +kernel)), by decide +kernel⟩
theorem mw_319 : Cond.static yX4_bitsOver ∈ gx_TB := List.mem_filter.mpr ⟨List.mem_append_right _ (List.mem_of_getElem? (i := 319) (by decide +kernel)), by decide +kernel⟩
set_option maxRecDepth 100000 in
theorem mw_320 : Cond.code yX4_bitsOver cX4_bitsOver 1 (some .int) ∈ gx_TB := List.mem_filter.mpr ⟨List.mem_append_right _ (List.mem_of_getElem? (i := 320) rfl), by decide +kernel⟩
theorem mw_321 : Cond.methodLink RX6 98 yX4_write ∈ gx_TB := List.mem_filter.mpr ⟨List.mem_append_right _ (List.mem_of_getElem? (i := 321) (by decide +kernel)), by decide +kernel⟩
theorem mw_322 : Cond.static yX4_write ∈ gx_TB := List.mem_filter.mpr ⟨List.mem_append_right _ (List.mem_of_getElem? (i := 322) (by decide +kernel)), by decide +kernel⟩
set_option maxRecDepth 100000 in
theorem mw_323 : Cond.code yX4_write cX4_write 6 none ∈ gx_TB := List.mem_filter.mpr ⟨List.mem_append_right _ (List.mem_of_getElem? (i := 323) rfl), by decide +kernel⟩
theorem mw_324 : Cond.methodLink RX4 40 yX0_clear ∈ gx_TB := List.mem_filter.mpr ⟨List.mem_append_right _ (List.mem_of_getElem? (i := 324) (by decide +kernel)), by decide +kernel⟩
theorem mw_325 : Cond.methodLink RX4 43 yX0_add ∈ gx_TB := List.mem_filter.mpr ⟨List.mem_append_right _ (List.mem_of_getElem? (i := 325) (by decide +kernel)), by decide +kernel⟩
theorem mw_330 : Cond.methodLink RX6 102 yX3_write ∈ gx_TB := List.mem_filter.mpr ⟨List.mem_append_right _ (List.mem_of_getElem? (i := 330) (by decide +kernel)), by decide +kernel⟩
theorem mw_331 : Cond.instanceMethod yX3_write ∈ gx_TB := List.mem_filter.mpr ⟨List.mem_append_right _ (List.mem_of_getElem? (i := 331) (by decide +kernel)), by decide +kernel⟩
theorem mw_332 : Cond.selects RX3 yX3_write yX3_write ∈ gx_TB := List.mem_filter.mpr ⟨List.mem_append_right _ (List.mem_of_getElem? (i := 332) (by decide +kernel)), by decide +kernel⟩
set_option maxRecDepth 100000 in
theorem mw_333 : Cond.code yX3_write cX3_write 5 none ∈ gx_TB := List.mem_filter.mpr ⟨List.mem_append_right _ (List.mem_of_getElem? (i := 333) rfl), by decide +kernel⟩
theorem mw_334 : Cond.methodLink RX3 19 yX0_size ∈ gx_TB := List.mem_filter.mpr ⟨List.mem_append_right _ (List.mem_of_getElem? (i := 334) (by decide +kernel)), by decide +kernel⟩
theorem mw_335 : Cond.fieldLink RX3 25 "PlainSeal$Sha256" "FIRST_STATE" "[I" ∈ gx_TB := List.mem_filter.mpr ⟨List.mem_append_right _ (List.mem_of_getElem? (i := 335) (by decide +kernel)), by decide +kernel⟩
theorem mw_337 : Cond.methodLink RX3 28 arraycopyName ∈ gx_TB := List.mem_filter.mpr ⟨List.mem_append_right _ (List.mem_of_getElem? (i := 337) (by decide +kernel)), by decide +kernel⟩
theorem mw_338 : Cond.static arraycopyName ∈ gx_TB := List.mem_filter.mpr ⟨List.mem_append_right _ (List.mem_of_getElem? (i := 338) (by decide +kernel)), by decide +kernel⟩
theorem mw_339 : Cond.native arraycopyName ∈ gx_TB := List.mem_filter.mpr ⟨List.mem_append_right _ (List.mem_of_getElem? (i := 339) (by decide +kernel)), by decide +kernel⟩
theorem mw_340 : Cond.methodLink RX3 34 yX3_fillSchedule ∈ gx_TB := List.mem_filter.mpr ⟨List.mem_append_right _ (List.mem_of_getElem? (i := 340) (by decide +kernel)), by decide +kernel⟩
theorem mw_342 : Cond.instanceMethod yX3_fillSchedule ∈ gx_TB := List.mem_filter.mpr ⟨List.mem_append_right _ (List.mem_of_getElem? (i := 342) (by decide +kernel)), by decide +kernel⟩
set_option maxRecDepth 100000 in
theorem mw_343 : Cond.code yX3_fillSchedule cX3_fillSchedule 9 none ∈ gx_TB := List.mem_filter.mpr ⟨List.mem_append_right _ (List.mem_of_getElem? (i := 343) rfl), by decide +kernel⟩
theorem mw_344 : Cond.methodLink RX3 48 yX3_paddedWord ∈ gx_TB := List.mem_filter.mpr ⟨List.mem_append_right _ (List.mem_of_getElem? (i := 344) (by decide +kernel)), by decide +kernel⟩
theorem mw_345 : Cond.static yX3_paddedWord ∈ gx_TB := List.mem_filter.mpr ⟨List.mem_append_right _ (List.mem_of_getElem? (i := 345) (by decide +kernel)), by decide +kernel⟩
set_option maxRecDepth 100000 in
theorem mw_346 : Cond.code yX3_paddedWord cX3_paddedWord 4 (some .int) ∈ gx_TB := List.mem_filter.mpr ⟨List.mem_append_right _ (List.mem_of_getElem? (i := 346) rfl), by decide +kernel⟩
theorem mw_347 : Cond.methodLink RX3 56 yX3_paddedByte ∈ gx_TB := List.mem_filter.mpr ⟨List.mem_append_right _ (List.mem_of_getElem? (i := 347) (by decide +kernel)), by decide +kernel⟩
theorem mw_348 : Cond.static yX3_paddedByte ∈ gx_TB := List.mem_filter.mpr ⟨List.mem_append_right _ (List.mem_of_getElem? (i := 348) (by decide +kernel)), by decide +kernel⟩
set_option maxRecDepth 100000 in
theorem mw_349 : Cond.code yX3_paddedByte cX3_paddedByte 2 (some .int) ∈ gx_TB := List.mem_filter.mpr ⟨List.mem_append_right _ (List.mem_of_getElem? (i := 349) rfl), by decide +kernel⟩
theorem mw_350 : Cond.methodLink RX3 59 yX0_at ∈ gx_TB := List.mem_filter.mpr ⟨List.mem_append_right _ (List.mem_of_getElem? (i := 350) (by decide +kernel)), by decide +kernel⟩
theorem mw_351 : Cond.methodLink RX3 52 yX3_turned ∈ gx_TB := List.mem_filter.mpr ⟨List.mem_append_right _ (List.mem_of_getElem? (i := 351) (by decide +kernel)), by decide +kernel⟩
theorem mw_352 : Cond.static yX3_turned ∈ gx_TB := List.mem_filter.mpr ⟨List.mem_append_right _ (List.mem_of_getElem? (i := 352) (by decide +kernel)), by decide +kernel⟩
set_option maxRecDepth 100000 in
theorem mw_353 : Cond.code yX3_turned cX3_turned 2 (some .int) ∈ gx_TB := List.mem_filter.mpr ⟨List.mem_append_right _ (List.mem_of_getElem? (i := 353) rfl), by decide +kernel⟩
theorem mw_354 : Cond.methodLink RX3 38 yX3_mixBlock ∈ gx_TB := List.mem_filter.mpr ⟨List.mem_append_right _ (List.mem_of_getElem? (i := 354) (by decide +kernel)), by decide +kernel⟩
theorem mw_356 : Cond.instanceMethod yX3_mixBlock ∈ gx_TB := List.mem_filter.mpr ⟨List.mem_append_right _ (List.mem_of_getElem? (i := 356) (by decide +kernel)), by decide +kernel⟩
set_option maxRecDepth 100000 in
theorem mw_357 : Cond.code yX3_mixBlock cX3_mixBlock 2 none ∈ gx_TB := List.mem_filter.mpr ⟨List.mem_append_right _ (List.mem_of_getElem? (i := 357) rfl), by decide +kernel⟩
theorem mw_358 : Cond.fieldLink RX3 63 "PlainSeal$Sha256" "ROUND_WORDS" "[I" ∈ gx_TB := List.mem_filter.mpr ⟨List.mem_append_right _ (List.mem_of_getElem? (i := 358) (by decide +kernel)), by decide +kernel⟩
theorem mw_360 : Cond.methodLink RX3 66 yX3_mixRound ∈ gx_TB := List.mem_filter.mpr ⟨List.mem_append_right _ (List.mem_of_getElem? (i := 360) (by decide +kernel)), by decide +kernel⟩
theorem mw_362 : Cond.instanceMethod yX3_mixRound ∈ gx_TB := List.mem_filter.mpr ⟨List.mem_append_right _ (List.mem_of_getElem? (i := 362) (by decide +kernel)), by decide +kernel⟩
set_option maxRecDepth 100000 in
theorem mw_363 : Cond.code yX3_mixRound cX3_mixRound 9 none ∈ gx_TB := List.mem_filter.mpr ⟨List.mem_append_right _ (List.mem_of_getElem? (i := 363) rfl), by decide +kernel⟩
theorem mw_364 : Cond.methodLink RX3 41 yX0_clear ∈ gx_TB := List.mem_filter.mpr ⟨List.mem_append_right _ (List.mem_of_getElem? (i := 364) (by decide +kernel)), by decide +kernel⟩
theorem mw_365 : Cond.methodLink RX3 44 yX0_addWord ∈ gx_TB := List.mem_filter.mpr ⟨List.mem_append_right _ (List.mem_of_getElem? (i := 365) (by decide +kernel)), by decide +kernel⟩
theorem mw_370 : Cond.methodLink RX6 105 yX2_canTake ∈ gx_TB := List.mem_filter.mpr ⟨List.mem_append_right _ (List.mem_of_getElem? (i := 370) (by decide +kernel)), by decide +kernel⟩
theorem mw_371 : Cond.instanceMethod yX2_canTake ∈ gx_TB := List.mem_filter.mpr ⟨List.mem_append_right _ (List.mem_of_getElem? (i := 371) (by decide +kernel)), by decide +kernel⟩
theorem mw_372 : Cond.selects RX2 yX2_canTake yX2_canTake ∈ gx_TB := List.mem_filter.mpr ⟨List.mem_append_right _ (List.mem_of_getElem? (i := 372) (by decide +kernel)), by decide +kernel⟩
set_option maxRecDepth 100000 in
theorem mw_373 : Cond.code yX2_canTake cX2_canTake 2 (some .boolean) ∈ gx_TB := List.mem_filter.mpr ⟨List.mem_append_right _ (List.mem_of_getElem? (i := 373) rfl), by decide +kernel⟩
theorem mw_374 : Cond.methodLink RX2 22 yX0_size ∈ gx_TB := List.mem_filter.mpr ⟨List.mem_append_right _ (List.mem_of_getElem? (i := 374) (by decide +kernel)), by decide +kernel⟩
theorem mw_375 : Cond.methodLink RX2 28 yX0_at ∈ gx_TB := List.mem_filter.mpr ⟨List.mem_append_right _ (List.mem_of_getElem? (i := 375) (by decide +kernel)), by decide +kernel⟩
theorem mw_376 : Cond.methodLink RX6 109 yX2_take ∈ gx_TB := List.mem_filter.mpr ⟨List.mem_append_right _ (List.mem_of_getElem? (i := 376) (by decide +kernel)), by decide +kernel⟩
theorem mw_377 : Cond.instanceMethod yX2_take ∈ gx_TB := List.mem_filter.mpr ⟨List.mem_append_right _ (List.mem_of_getElem? (i := 377) (by decide +kernel)), by decide +kernel⟩
theorem mw_378 : Cond.selects RX2 yX2_take yX2_take ∈ gx_TB := List.mem_filter.mpr ⟨List.mem_append_right _ (List.mem_of_getElem? (i := 378) (by decide +kernel)), by decide +kernel⟩
set_option maxRecDepth 100000 in
theorem mw_379 : Cond.code yX2_take cX2_take 2 none ∈ gx_TB := List.mem_filter.mpr ⟨List.mem_append_right _ (List.mem_of_getElem? (i := 379) rfl), by decide +kernel⟩
theorem mw_380 : Cond.methodLink RX2 32 yX2_takeNumber ∈ gx_TB := List.mem_filter.mpr ⟨List.mem_append_right _ (List.mem_of_getElem? (i := 380) (by decide +kernel)), by decide +kernel⟩
theorem mw_381 : Cond.static yX2_takeNumber ∈ gx_TB := List.mem_filter.mpr ⟨List.mem_append_right _ (List.mem_of_getElem? (i := 381) (by decide +kernel)), by decide +kernel⟩
set_option maxRecDepth 100000 in
theorem mw_382 : Cond.code yX2_takeNumber cX2_takeNumber 5 none ∈ gx_TB := List.mem_filter.mpr ⟨List.mem_append_right _ (List.mem_of_getElem? (i := 382) rfl), by decide +kernel⟩
theorem mw_383 : Cond.methodLink RX6 113 yX2_raise ∈ gx_TB := List.mem_filter.mpr ⟨List.mem_append_right _ (List.mem_of_getElem? (i := 383) (by decide +kernel)), by decide +kernel⟩
theorem mw_384 : Cond.instanceMethod yX2_raise ∈ gx_TB := List.mem_filter.mpr ⟨List.mem_append_right _ (List.mem_of_getElem? (i := 384) (by decide +kernel)), by decide +kernel⟩
theorem mw_385 : Cond.selects RX2 yX2_raise yX2_raise ∈ gx_TB := List.mem_filter.mpr ⟨List.mem_append_right _ (List.mem_of_getElem? (i := 385) (by decide +kernel)), by decide +kernel⟩
set_option maxRecDepth 100000 in
theorem mw_386 : Cond.code yX2_raise cX2_raise 2 none ∈ gx_TB := List.mem_filter.mpr ⟨List.mem_append_right _ (List.mem_of_getElem? (i := 386) rfl), by decide +kernel⟩
theorem mw_387 : Cond.methodLink RX2 43 yX2_bringBaseBelowModulus ∈ gx_TB := List.mem_filter.mpr ⟨List.mem_append_right _ (List.mem_of_getElem? (i := 387) (by decide +kernel)), by decide +kernel⟩
theorem mw_389 : Cond.instanceMethod yX2_bringBaseBelowModulus ∈ gx_TB := List.mem_filter.mpr ⟨List.mem_append_right _ (List.mem_of_getElem? (i := 389) (by decide +kernel)), by decide +kernel⟩
set_option maxRecDepth 100000 in
theorem mw_390 : Cond.code yX2_bringBaseBelowModulus cX2_bringBaseBelowModulus 2 none ∈ gx_TB := List.mem_filter.mpr ⟨List.mem_append_right _ (List.mem_of_getElem? (i := 390) rfl), by decide +kernel⟩
theorem mw_391 : Cond.methodLink RX2 50 yX2_divideProduct ∈ gx_TB := List.mem_filter.mpr ⟨List.mem_append_right _ (List.mem_of_getElem? (i := 391) (by decide +kernel)), by decide +kernel⟩
theorem mw_393 : Cond.instanceMethod yX2_divideProduct ∈ gx_TB := List.mem_filter.mpr ⟨List.mem_append_right _ (List.mem_of_getElem? (i := 393) (by decide +kernel)), by decide +kernel⟩
set_option maxRecDepth 100000 in
theorem mw_394 : Cond.code yX2_divideProduct cX2_divideProduct 2 none ∈ gx_TB := List.mem_filter.mpr ⟨List.mem_append_right _ (List.mem_of_getElem? (i := 394) rfl), by decide +kernel⟩
theorem mw_395 : Cond.methodLink RX2 55 yX2_guessedDigit ∈ gx_TB := List.mem_filter.mpr ⟨List.mem_append_right _ (List.mem_of_getElem? (i := 395) (by decide +kernel)), by decide +kernel⟩
theorem mw_397 : Cond.instanceMethod yX2_guessedDigit ∈ gx_TB := List.mem_filter.mpr ⟨List.mem_append_right _ (List.mem_of_getElem? (i := 397) (by decide +kernel)), by decide +kernel⟩
set_option maxRecDepth 100000 in
theorem mw_398 : Cond.code yX2_guessedDigit cX2_guessedDigit 6 (some .long) ∈ gx_TB := List.mem_filter.mpr ⟨List.mem_append_right _ (List.mem_of_getElem? (i := 398) rfl), by decide +kernel⟩
theorem mw_399 : Cond.constant RX2 63 (32768) ∈ gx_TB := List.mem_filter.mpr ⟨List.mem_append_right _ (List.mem_of_getElem? (i := 399) (by decide +kernel)), by decide +kernel⟩
theorem mw_400 : Cond.constantLong RX2 53 (65535) ∈ gx_TB := List.mem_filter.mpr ⟨List.mem_append_right _ (List.mem_of_getElem? (i := 400) (by decide +kernel)), by decide +kernel⟩
theorem mw_401 : Cond.methodLink RX2 64 Lib.MathLoose.min_long.x ∈ gx_TB := List.mem_filter.mpr ⟨List.mem_append_right _ (List.mem_of_getElem? (i := 401) (by decide +kernel)), by decide +kernel⟩
theorem mw_402 : Cond.static Lib.MathLoose.min_long.x ∈ gx_TB := List.mem_filter.mpr ⟨List.mem_append_right _ (List.mem_of_getElem? (i := 402) (by decide +kernel)), by decide +kernel⟩
set_option maxRecDepth 100000 in
theorem mw_403 : Cond.code Lib.MathLoose.min_long.x Lib.MathLoose.min_long.code 4 (some .long) ∈ gx_TB := List.mem_filter.mpr ⟨List.mem_append_right _ (List.mem_of_getElem? (i := 403) rfl), by decide +kernel⟩
theorem mw_404 : Cond.methodLink RX2 59 yX2_takeAway ∈ gx_TB := List.mem_filter.mpr ⟨List.mem_append_right _ (List.mem_of_getElem? (i := 404) (by decide +kernel)), by decide +kernel⟩
theorem mw_406 : Cond.instanceMethod yX2_takeAway ∈ gx_TB := List.mem_filter.mpr ⟨List.mem_append_right _ (List.mem_of_getElem? (i := 406) (by decide +kernel)), by decide +kernel⟩
set_option maxRecDepth 100000 in
theorem mw_407 : Cond.code yX2_takeAway cX2_takeAway 9 none ∈ gx_TB := List.mem_filter.mpr ⟨List.mem_append_right _ (List.mem_of_getElem? (i := 407) rfl), by decide +kernel⟩
theorem mw_408 : Cond.methodLink RX2 70 yX2_giveBack ∈ gx_TB := List.mem_filter.mpr ⟨List.mem_append_right _ (List.mem_of_getElem? (i := 408) (by decide +kernel)), by decide +kernel⟩
theorem mw_410 : Cond.instanceMethod yX2_giveBack ∈ gx_TB := List.mem_filter.mpr ⟨List.mem_append_right _ (List.mem_of_getElem? (i := 410) (by decide +kernel)), by decide +kernel⟩
set_option maxRecDepth 100000 in
theorem mw_411 : Cond.code yX2_giveBack cX2_giveBack 5 (some .long) ∈ gx_TB := List.mem_filter.mpr ⟨List.mem_append_right _ (List.mem_of_getElem? (i := 411) rfl), by decide +kernel⟩
theorem mw_412 : Cond.methodLink RX2 46 yX2_multiplyRestBy ∈ gx_TB := List.mem_filter.mpr ⟨List.mem_append_right _ (List.mem_of_getElem? (i := 412) (by decide +kernel)), by decide +kernel⟩
theorem mw_414 : Cond.instanceMethod yX2_multiplyRestBy ∈ gx_TB := List.mem_filter.mpr ⟨List.mem_append_right _ (List.mem_of_getElem? (i := 414) (by decide +kernel)), by decide +kernel⟩
set_option maxRecDepth 100000 in
theorem mw_415 : Cond.code yX2_multiplyRestBy cX2_multiplyRestBy 6 none ∈ gx_TB := List.mem_filter.mpr ⟨List.mem_append_right _ (List.mem_of_getElem? (i := 415) rfl), by decide +kernel⟩
theorem mw_416 : Cond.methodLink RX6 116 yX2_write ∈ gx_TB := List.mem_filter.mpr ⟨List.mem_append_right _ (List.mem_of_getElem? (i := 416) (by decide +kernel)), by decide +kernel⟩
theorem mw_417 : Cond.instanceMethod yX2_write ∈ gx_TB := List.mem_filter.mpr ⟨List.mem_append_right _ (List.mem_of_getElem? (i := 417) (by decide +kernel)), by decide +kernel⟩
theorem mw_418 : Cond.selects RX2 yX2_write yX2_write ∈ gx_TB := List.mem_filter.mpr ⟨List.mem_append_right _ (List.mem_of_getElem? (i := 418) (by decide +kernel)), by decide +kernel⟩
set_option maxRecDepth 100000 in
theorem mw_419 : Cond.code yX2_write cX2_write 3 none ∈ gx_TB := List.mem_filter.mpr ⟨List.mem_append_right _ (List.mem_of_getElem? (i := 419) rfl), by decide +kernel⟩
theorem mw_420 : Cond.methodLink RX2 36 yX0_clear ∈ gx_TB := List.mem_filter.mpr ⟨List.mem_append_right _ (List.mem_of_getElem? (i := 420) (by decide +kernel)), by decide +kernel⟩
theorem mw_421 : Cond.methodLink RX2 39 yX0_add ∈ gx_TB := List.mem_filter.mpr ⟨List.mem_append_right _ (List.mem_of_getElem? (i := 421) (by decide +kernel)), by decide +kernel⟩
theorem mw_426 : Cond.methodLink RX6 118 yX0_at ∈ gx_TB := List.mem_filter.mpr ⟨List.mem_append_right _ (List.mem_of_getElem? (i := 426) (by decide +kernel)), by decide +kernel⟩
theorem mw_439 : Cond.fieldLink RX9 7 "PlainSealModel$Text" "b" "[B" ∈ gx_TB := List.mem_filter.mpr ⟨List.mem_append_right _ (List.mem_of_getElem? (i := 439) (by decide +kernel)), by decide +kernel⟩
theorem mw_440 : Cond.fieldLink RX8 37 "PlainSealModel$Text" "b" "[B" ∈ gx_TB := List.mem_filter.mpr ⟨List.mem_append_right _ (List.mem_of_getElem? (i := 440) (by decide +kernel)), by decide +kernel⟩
theorem mw_441 : Cond.fieldLink RX10 163 "PlainSealModel$Text" "b" "[B" ∈ gx_TB := List.mem_filter.mpr ⟨List.mem_append_right _ (List.mem_of_getElem? (i := 441) (by decide +kernel)), by decide +kernel⟩
theorem mw_442 : Cond.fieldLink RX9 13 "PlainSealModel$Text" "n" "I" ∈ gx_TB := List.mem_filter.mpr ⟨List.mem_append_right _ (List.mem_of_getElem? (i := 442) (by decide +kernel)), by decide +kernel⟩
theorem mw_443 : Cond.fieldLink RX8 34 "PlainSealModel$Text" "n" "I" ∈ gx_TB := List.mem_filter.mpr ⟨List.mem_append_right _ (List.mem_of_getElem? (i := 443) (by decide +kernel)), by decide +kernel⟩
theorem mw_444 : Cond.fieldLink RX10 150 "PlainSealModel$Text" "n" "I" ∈ gx_TB := List.mem_filter.mpr ⟨List.mem_append_right _ (List.mem_of_getElem? (i := 444) (by decide +kernel)), by decide +kernel⟩
theorem mw_458 : Cond.fieldLink RX8 26 "PlainSealModel$Tags" "text" "LPlainSealModel$Text;" ∈ gx_TB := List.mem_filter.mpr ⟨List.mem_append_right _ (List.mem_of_getElem? (i := 458) (by decide +kernel)), by decide +kernel⟩
theorem mw_459 : Cond.fieldLink RX10 181 "PlainSealModel$Tags" "text" "LPlainSealModel$Text;" ∈ gx_TB := List.mem_filter.mpr ⟨List.mem_append_right _ (List.mem_of_getElem? (i := 459) (by decide +kernel)), by decide +kernel⟩
theorem mw_460 : Cond.fieldLink RX8 9 "PlainSealModel$Tags" "from" "[I" ∈ gx_TB := List.mem_filter.mpr ⟨List.mem_append_right _ (List.mem_of_getElem? (i := 460) (by decide +kernel)), by decide +kernel⟩
theorem mw_461 : Cond.fieldLink RX8 15 "PlainSealModel$Tags" "equals" "[I" ∈ gx_TB := List.mem_filter.mpr ⟨List.mem_append_right _ (List.mem_of_getElem? (i := 461) (by decide +kernel)), by decide +kernel⟩
theorem mw_462 : Cond.fieldLink RX10 194 "PlainSealModel$Tags" "equals" "[I" ∈ gx_TB := List.mem_filter.mpr ⟨List.mem_append_right _ (List.mem_of_getElem? (i := 462) (by decide +kernel)), by decide +kernel⟩
theorem mw_463 : Cond.fieldLink RX8 18 "PlainSealModel$Tags" "to" "[I" ∈ gx_TB := List.mem_filter.mpr ⟨List.mem_append_right _ (List.mem_of_getElem? (i := 463) (by decide +kernel)), by decide +kernel⟩
theorem mw_464 : Cond.fieldLink RX10 197 "PlainSealModel$Tags" "to" "[I" ∈ gx_TB := List.mem_filter.mpr ⟨List.mem_append_right _ (List.mem_of_getElem? (i := 464) (by decide +kernel)), by decide +kernel⟩
theorem mw_465 : Cond.fieldLink RX8 30 "PlainSealModel$Tags" "many" "I" ∈ gx_TB := List.mem_filter.mpr ⟨List.mem_append_right _ (List.mem_of_getElem? (i := 465) (by decide +kernel)), by decide +kernel⟩
theorem mw_466 : Cond.fieldLink RX10 187 "PlainSealModel$Tags" "many" "I" ∈ gx_TB := List.mem_filter.mpr ⟨List.mem_append_right _ (List.mem_of_getElem? (i := 466) (by decide +kernel)), by decide +kernel⟩
theorem mw_490 : Cond.constantLong RX7 34 (68719476736) ∈ gx_TB := List.mem_filter.mpr ⟨List.mem_append_right _ (List.mem_of_getElem? (i := 490) (by decide +kernel)), by decide +kernel⟩
theorem mw_491 : Cond.methodLink RX7 36 yX7_isAtMost ∈ gx_TB := List.mem_filter.mpr ⟨List.mem_append_right _ (List.mem_of_getElem? (i := 491) (by decide +kernel)), by decide +kernel⟩
theorem mw_492 : Cond.static yX7_isAtMost ∈ gx_TB := List.mem_filter.mpr ⟨List.mem_append_right _ (List.mem_of_getElem? (i := 492) (by decide +kernel)), by decide +kernel⟩
set_option maxRecDepth 100000 in
theorem mw_493 : Cond.code yX7_isAtMost cX7_isAtMost 28 (some .boolean) ∈ gx_TB := List.mem_filter.mpr ⟨List.mem_append_right _ (List.mem_of_getElem? (i := 493) rfl), by decide +kernel⟩
theorem mw_494 : Cond.methodLink RX7 40 yJ9_multiplyHigh_f86c9 ∈ gx_TB := List.mem_filter.mpr ⟨List.mem_append_right _ (List.mem_of_getElem? (i := 494) (by decide +kernel)), by decide +kernel⟩
theorem mw_495 : Cond.static yJ9_multiplyHigh_f86c9 ∈ gx_TB := List.mem_filter.mpr ⟨List.mem_append_right _ (List.mem_of_getElem? (i := 495) (by decide +kernel)), by decide +kernel⟩
set_option maxRecDepth 100000 in
theorem mw_496 : Cond.code yJ9_multiplyHigh_f86c9 cJ9_multiplyHigh_f86c9 20 (some .long) ∈ gx_TB := List.mem_filter.mpr ⟨List.mem_append_right _ (List.mem_of_getElem? (i := 496) rfl), by decide +kernel⟩
theorem mw_497 : Cond.constantLong RJ9 138 (4294967295) ∈ gx_TB := List.mem_filter.mpr ⟨List.mem_append_right _ (List.mem_of_getElem? (i := 497) (by decide +kernel)), by decide +kernel⟩
theorem mw_498 : Cond.constantLong RX7 46 (4294967295) ∈ gx_TB := List.mem_filter.mpr ⟨List.mem_append_right _ (List.mem_of_getElem? (i := 498) (by decide +kernel)), by decide +kernel⟩
theorem mw_499 : Cond.fieldLink RX7 9 "PlainSealModel$Hash" "first" "[I" ∈ gx_TB := List.mem_filter.mpr ⟨List.mem_append_right _ (List.mem_of_getElem? (i := 499) (by decide +kernel)), by decide +kernel⟩
theorem mw_500 : Cond.fieldLink RX7 13 "PlainSealModel$Hash" "h" "[I" ∈ gx_TB := List.mem_filter.mpr ⟨List.mem_append_right _ (List.mem_of_getElem? (i := 500) (by decide +kernel)), by decide +kernel⟩
theorem mw_501 : Cond.fieldLink RX7 16 "PlainSealModel$Hash" "w" "[I" ∈ gx_TB := List.mem_filter.mpr ⟨List.mem_append_right _ (List.mem_of_getElem? (i := 501) (by decide +kernel)), by decide +kernel⟩
theorem mw_502 : Cond.fieldLink RX7 19 "PlainSealModel$Hash" "k" "[I" ∈ gx_TB := List.mem_filter.mpr ⟨List.mem_append_right _ (List.mem_of_getElem? (i := 502) (by decide +kernel)), by decide +kernel⟩
theorem mw_503 : Cond.fieldLink RX7 22 "PlainSealModel$Hash" "block" "[B" ∈ gx_TB := List.mem_filter.mpr ⟨List.mem_append_right _ (List.mem_of_getElem? (i := 503) (by decide +kernel)), by decide +kernel⟩
theorem mw_504 : Cond.fieldLink RX7 54 "PlainSealModel$Hash" "many" "I" ∈ gx_TB := List.mem_filter.mpr ⟨List.mem_append_right _ (List.mem_of_getElem? (i := 504) (by decide +kernel)), by decide +kernel⟩
theorem mw_505 : Cond.fieldLink RX7 58 "PlainSealModel$Hash" "all" "J" ∈ gx_TB := List.mem_filter.mpr ⟨List.mem_append_right _ (List.mem_of_getElem? (i := 505) (by decide +kernel)), by decide +kernel⟩
theorem mw_521 : Cond.fieldLink RX10 13 "PlainSealModel" "tape" "[B" ∈ gx_TB := List.mem_filter.mpr ⟨List.mem_append_right _ (List.mem_of_getElem? (i := 521) (by decide +kernel)), by decide +kernel⟩
theorem mw_522 : Cond.fieldLink RX10 95 "PlainSealModel" "tapeMany" "I" ∈ gx_TB := List.mem_filter.mpr ⟨List.mem_append_right _ (List.mem_of_getElem? (i := 522) (by decide +kernel)), by decide +kernel⟩
theorem mw_523 : Cond.fieldLink RX10 166 "PlainSealModel" "outMany" "I" ∈ gx_TB := List.mem_filter.mpr ⟨List.mem_append_right _ (List.mem_of_getElem? (i := 523) (by decide +kernel)), by decide +kernel⟩
theorem mw_524 : Cond.fieldLink RX10 17 "PlainSealModel" "out" "[B" ∈ gx_TB := List.mem_filter.mpr ⟨List.mem_append_right _ (List.mem_of_getElem? (i := 524) (by decide +kernel)), by decide +kernel⟩
theorem mw_525 : Cond.fieldLink RX10 20 "PlainSealModel" "mail" "[B" ∈ gx_TB := List.mem_filter.mpr ⟨List.mem_append_right _ (List.mem_of_getElem? (i := 525) (by decide +kernel)), by decide +kernel⟩
theorem mw_526 : Cond.fieldLink RX10 23 "PlainSealModel" "begin" "[I" ∈ gx_TB := List.mem_filter.mpr ⟨List.mem_append_right _ (List.mem_of_getElem? (i := 526) (by decide +kernel)), by decide +kernel⟩
theorem mw_527 : Cond.fieldLink RX10 27 "PlainSealModel" "colon" "[I" ∈ gx_TB := List.mem_filter.mpr ⟨List.mem_append_right _ (List.mem_of_getElem? (i := 527) (by decide +kernel)), by decide +kernel⟩
theorem mw_528 : Cond.fieldLink RX10 30 "PlainSealModel" "stop" "[I" ∈ gx_TB := List.mem_filter.mpr ⟨List.mem_append_right _ (List.mem_of_getElem? (i := 528) (by decide +kernel)), by decide +kernel⟩
theorem mw_529 : Cond.fieldLink RX10 33 "PlainSealModel" "newBegin" "[I" ∈ gx_TB := List.mem_filter.mpr ⟨List.mem_append_right _ (List.mem_of_getElem? (i := 529) (by decide +kernel)), by decide +kernel⟩
theorem mw_530 : Cond.fieldLink RX10 36 "PlainSealModel" "newColon" "[I" ∈ gx_TB := List.mem_filter.mpr ⟨List.mem_append_right _ (List.mem_of_getElem? (i := 530) (by decide +kernel)), by decide +kernel⟩
theorem mw_531 : Cond.fieldLink RX10 39 "PlainSealModel" "newStop" "[I" ∈ gx_TB := List.mem_filter.mpr ⟨List.mem_append_right _ (List.mem_of_getElem? (i := 531) (by decide +kernel)), by decide +kernel⟩
theorem mw_532 : Cond.fieldLink RX10 131 "PlainSealModel" "fields" "I" ∈ gx_TB := List.mem_filter.mpr ⟨List.mem_append_right _ (List.mem_of_getElem? (i := 532) (by decide +kernel)), by decide +kernel⟩
theorem mw_533 : Cond.fieldLink RX10 140 "PlainSealModel" "body" "I" ∈ gx_TB := List.mem_filter.mpr ⟨List.mem_append_right _ (List.mem_of_getElem? (i := 533) (by decide +kernel)), by decide +kernel⟩
theorem mw_534 : Cond.fieldLink RX10 143 "PlainSealModel" "mailMany" "I" ∈ gx_TB := List.mem_filter.mpr ⟨List.mem_append_right _ (List.mem_of_getElem? (i := 534) (by decide +kernel)), by decide +kernel⟩
theorem mw_535 : Cond.fieldLink RX10 146 "PlainSealModel" "mailed" "Z" ∈ gx_TB := List.mem_filter.mpr ⟨List.mem_append_right _ (List.mem_of_getElem? (i := 535) (by decide +kernel)), by decide +kernel⟩
theorem mw_536 : Cond.fieldLink RX10 47 "PlainSealModel" "plain" "LPlainSealModel$Text;" ∈ gx_TB := List.mem_filter.mpr ⟨List.mem_append_right _ (List.mem_of_getElem? (i := 536) (by decide +kernel)), by decide +kernel⟩
theorem mw_537 : Cond.fieldLink RX10 54 "PlainSealModel" "told" "LPlainSealModel$Tags;" ∈ gx_TB := List.mem_filter.mpr ⟨List.mem_append_right _ (List.mem_of_getElem? (i := 537) (by decide +kernel)), by decide +kernel⟩
theorem mw_538 : Cond.fieldLink RX10 58 "PlainSealModel" "draft" "LPlainSealModel$Tags;" ∈ gx_TB := List.mem_filter.mpr ⟨List.mem_append_right _ (List.mem_of_getElem? (i := 538) (by decide +kernel)), by decide +kernel⟩
theorem mw_539 : Cond.fieldLink RX10 61 "PlainSealModel" "made" "[B" ∈ gx_TB := List.mem_filter.mpr ⟨List.mem_append_right _ (List.mem_of_getElem? (i := 539) (by decide +kernel)), by decide +kernel⟩
theorem mw_540 : Cond.fieldLink RX10 67 "PlainSealModel" "hash" "LPlainSealModel$Hash;" ∈ gx_TB := List.mem_filter.mpr ⟨List.mem_append_right _ (List.mem_of_getElem? (i := 540) (by decide +kernel)), by decide +kernel⟩
theorem mw_541 : Cond.fieldLink RX10 71 "PlainSealModel" "modulus" "[I" ∈ gx_TB := List.mem_filter.mpr ⟨List.mem_append_right _ (List.mem_of_getElem? (i := 541) (by decide +kernel)), by decide +kernel⟩
theorem mw_542 : Cond.fieldLink RX10 74 "PlainSealModel" "power" "[I" ∈ gx_TB := List.mem_filter.mpr ⟨List.mem_append_right _ (List.mem_of_getElem? (i := 542) (by decide +kernel)), by decide +kernel⟩
theorem mw_543 : Cond.fieldLink RX10 77 "PlainSealModel" "number" "[I" ∈ gx_TB := List.mem_filter.mpr ⟨List.mem_append_right _ (List.mem_of_getElem? (i := 543) (by decide +kernel)), by decide +kernel⟩
theorem mw_544 : Cond.fieldLink RX10 80 "PlainSealModel" "product" "[I" ∈ gx_TB := List.mem_filter.mpr ⟨List.mem_append_right _ (List.mem_of_getElem? (i := 544) (by decide +kernel)), by decide +kernel⟩
theorem mw_545 : Cond.fieldLink RX10 83 "PlainSealModel" "square" "[I" ∈ gx_TB := List.mem_filter.mpr ⟨List.mem_append_right _ (List.mem_of_getElem? (i := 545) (by decide +kernel)), by decide +kernel⟩
theorem mw_546 : Cond.fieldLink RX10 86 "PlainSealModel" "hashed" "[B" ∈ gx_TB := List.mem_filter.mpr ⟨List.mem_append_right _ (List.mem_of_getElem? (i := 546) (by decide +kernel)), by decide +kernel⟩
theorem mw_547 : Cond.fieldLink RX10 89 "PlainSealModel" "first" "[B" ∈ gx_TB := List.mem_filter.mpr ⟨List.mem_append_right _ (List.mem_of_getElem? (i := 547) (by decide +kernel)), by decide +kernel⟩
theorem mw_548 : Cond.fieldLink RX10 92 "PlainSealModel" "second" "[B" ∈ gx_TB := List.mem_filter.mpr ⟨List.mem_append_right _ (List.mem_of_getElem? (i := 548) (by decide +kernel)), by decide +kernel⟩
theorem mw_610 : Cond.methodLink RX10 99 yX10_four ∈ gx_TB := List.mem_filter.mpr ⟨List.mem_append_right _ (List.mem_of_getElem? (i := 610) (by decide +kernel)), by decide +kernel⟩
theorem mw_612 : Cond.instanceMethod yX10_four ∈ gx_TB := List.mem_filter.mpr ⟨List.mem_append_right _ (List.mem_of_getElem? (i := 612) (by decide +kernel)), by decide +kernel⟩
set_option maxRecDepth 100000 in
theorem mw_613 : Cond.code yX10_four cX10_four 3 none ∈ gx_TB := List.mem_filter.mpr ⟨List.mem_append_right _ (List.mem_of_getElem? (i := 613) rfl), by decide +kernel⟩
theorem mw_618 : Cond.methodLink RX10 102 yX10_in ∈ gx_TB := List.mem_filter.mpr ⟨List.mem_append_right _ (List.mem_of_getElem? (i := 618) (by decide +kernel)), by decide +kernel⟩
theorem mw_619 : Cond.static yX10_in ∈ gx_TB := List.mem_filter.mpr ⟨List.mem_append_right _ (List.mem_of_getElem? (i := 619) (by decide +kernel)), by decide +kernel⟩
set_option maxRecDepth 100000 in
theorem mw_620 : Cond.code yX10_in cX10_in 6 (some .boolean) ∈ gx_TB := List.mem_filter.mpr ⟨List.mem_append_right _ (List.mem_of_getElem? (i := 620) rfl), by decide +kernel⟩
theorem mw_625 : Cond.methodLink RX10 112 yX10_used ∈ gx_TB := List.mem_filter.mpr ⟨List.mem_append_right _ (List.mem_of_getElem? (i := 625) (by decide +kernel)), by decide +kernel⟩
theorem mw_627 : Cond.instanceMethod yX10_used ∈ gx_TB := List.mem_filter.mpr ⟨List.mem_append_right _ (List.mem_of_getElem? (i := 627) (by decide +kernel)), by decide +kernel⟩
set_option maxRecDepth 100000 in
theorem mw_628 : Cond.code yX10_used cX10_used 2 (some .int) ∈ gx_TB := List.mem_filter.mpr ⟨List.mem_append_right _ (List.mem_of_getElem? (i := 628) rfl), by decide +kernel⟩
theorem mw_629 : Cond.methodLink RX10 116 yX10_lineEnd ∈ gx_TB := List.mem_filter.mpr ⟨List.mem_append_right _ (List.mem_of_getElem? (i := 629) (by decide +kernel)), by decide +kernel⟩
theorem mw_630 : Cond.static yX10_lineEnd ∈ gx_TB := List.mem_filter.mpr ⟨List.mem_append_right _ (List.mem_of_getElem? (i := 630) (by decide +kernel)), by decide +kernel⟩
set_option maxRecDepth 100000 in
theorem mw_631 : Cond.code yX10_lineEnd cX10_lineEnd 4 (some .int) ∈ gx_TB := List.mem_filter.mpr ⟨List.mem_append_right _ (List.mem_of_getElem? (i := 631) rfl), by decide +kernel⟩
theorem mw_632 : Cond.methodLink RX10 106 Lib.Math.min.name ∈ gx_TB := List.mem_filter.mpr ⟨List.mem_append_right _ (List.mem_of_getElem? (i := 632) (by decide +kernel)), by decide +kernel⟩
theorem mw_633 : Cond.static Lib.Math.min.name ∈ gx_TB := List.mem_filter.mpr ⟨List.mem_append_right _ (List.mem_of_getElem? (i := 633) (by decide +kernel)), by decide +kernel⟩
set_option maxRecDepth 100000 in
theorem mw_634 : Cond.code Lib.Math.min.name Lib.Math.min.code 2 (some .int) ∈ gx_TB := List.mem_filter.mpr ⟨List.mem_append_right _ (List.mem_of_getElem? (i := 634) rfl), by decide +kernel⟩
theorem mw_635 : Cond.methodLink RX10 120 yX10_isWhite ∈ gx_TB := List.mem_filter.mpr ⟨List.mem_append_right _ (List.mem_of_getElem? (i := 635) (by decide +kernel)), by decide +kernel⟩
theorem mw_636 : Cond.static yX10_isWhite ∈ gx_TB := List.mem_filter.mpr ⟨List.mem_append_right _ (List.mem_of_getElem? (i := 636) (by decide +kernel)), by decide +kernel⟩
set_option maxRecDepth 100000 in
theorem mw_637 : Cond.code yX10_isWhite cX10_isWhite 1 (some .boolean) ∈ gx_TB := List.mem_filter.mpr ⟨List.mem_append_right _ (List.mem_of_getElem? (i := 637) rfl), by decide +kernel⟩
theorem mw_638 : Cond.methodLink RX10 123 yX10_isLetter ∈ gx_TB := List.mem_filter.mpr ⟨List.mem_append_right _ (List.mem_of_getElem? (i := 638) (by decide +kernel)), by decide +kernel⟩
theorem mw_639 : Cond.static yX10_isLetter ∈ gx_TB := List.mem_filter.mpr ⟨List.mem_append_right _ (List.mem_of_getElem? (i := 639) (by decide +kernel)), by decide +kernel⟩
set_option maxRecDepth 100000 in
theorem mw_640 : Cond.code yX10_isLetter cX10_isLetter 1 (some .boolean) ∈ gx_TB := List.mem_filter.mpr ⟨List.mem_append_right _ (List.mem_of_getElem? (i := 640) rfl), by decide +kernel⟩
theorem mw_641 : Cond.methodLink RX10 3 yX10_isSmall ∈ gx_TB := List.mem_filter.mpr ⟨List.mem_append_right _ (List.mem_of_getElem? (i := 641) (by decide +kernel)), by decide +kernel⟩
theorem mw_642 : Cond.static yX10_isSmall ∈ gx_TB := List.mem_filter.mpr ⟨List.mem_append_right _ (List.mem_of_getElem? (i := 642) (by decide +kernel)), by decide +kernel⟩
set_option maxRecDepth 100000 in
theorem mw_643 : Cond.code yX10_isSmall cX10_isSmall 1 (some .boolean) ∈ gx_TB := List.mem_filter.mpr ⟨List.mem_append_right _ (List.mem_of_getElem? (i := 643) rfl), by decide +kernel⟩
theorem mw_644 : Cond.methodLink RX10 126 yX10_isDigit ∈ gx_TB := List.mem_filter.mpr ⟨List.mem_append_right _ (List.mem_of_getElem? (i := 644) (by decide +kernel)), by decide +kernel⟩
theorem mw_645 : Cond.static yX10_isDigit ∈ gx_TB := List.mem_filter.mpr ⟨List.mem_append_right _ (List.mem_of_getElem? (i := 645) (by decide +kernel)), by decide +kernel⟩
set_option maxRecDepth 100000 in
theorem mw_646 : Cond.code yX10_isDigit cX10_isDigit 1 (some .boolean) ∈ gx_TB := List.mem_filter.mpr ⟨List.mem_append_right _ (List.mem_of_getElem? (i := 646) rfl), by decide +kernel⟩
theorem mw_647 : Cond.constantLong RX10 129 (20) ∈ gx_TB := List.mem_filter.mpr ⟨List.mem_append_right _ (List.mem_of_getElem? (i := 647) (by decide +kernel)), by decide +kernel⟩
theorem mw_648 : Cond.methodLink RX10 134 arraycopyName ∈ gx_TB := List.mem_filter.mpr ⟨List.mem_append_right _ (List.mem_of_getElem? (i := 648) (by decide +kernel)), by decide +kernel⟩
theorem mw_653 : Cond.methodLink RX10 169 yX10_bodyPlain ∈ gx_TB := List.mem_filter.mpr ⟨List.mem_append_right _ (List.mem_of_getElem? (i := 653) (by decide +kernel)), by decide +kernel⟩
theorem mw_655 : Cond.instanceMethod yX10_bodyPlain ∈ gx_TB := List.mem_filter.mpr ⟨List.mem_append_right _ (List.mem_of_getElem? (i := 655) (by decide +kernel)), by decide +kernel⟩
set_option maxRecDepth 100000 in
theorem mw_656 : Cond.code yX10_bodyPlain cX10_bodyPlain 9 none ∈ gx_TB := List.mem_filter.mpr ⟨List.mem_append_right _ (List.mem_of_getElem? (i := 656) rfl), by decide +kernel⟩
theorem mw_657 : Cond.methodLink RX10 153 yX9_add ∈ gx_TB := List.mem_filter.mpr ⟨List.mem_append_right _ (List.mem_of_getElem? (i := 657) (by decide +kernel)), by decide +kernel⟩
theorem mw_658 : Cond.instanceMethod yX9_add ∈ gx_TB := List.mem_filter.mpr ⟨List.mem_append_right _ (List.mem_of_getElem? (i := 658) (by decide +kernel)), by decide +kernel⟩
theorem mw_659 : Cond.selects RX9 yX9_add yX9_add ∈ gx_TB := List.mem_filter.mpr ⟨List.mem_append_right _ (List.mem_of_getElem? (i := 659) (by decide +kernel)), by decide +kernel⟩
set_option maxRecDepth 100000 in
theorem mw_660 : Cond.code yX9_add cX9_add 2 none ∈ gx_TB := List.mem_filter.mpr ⟨List.mem_append_right _ (List.mem_of_getElem? (i := 660) rfl), by decide +kernel⟩
theorem mw_661 : Cond.methodLink RX10 173 yX10_tell ∈ gx_TB := List.mem_filter.mpr ⟨List.mem_append_right _ (List.mem_of_getElem? (i := 661) (by decide +kernel)), by decide +kernel⟩
theorem mw_663 : Cond.instanceMethod yX10_tell ∈ gx_TB := List.mem_filter.mpr ⟨List.mem_append_right _ (List.mem_of_getElem? (i := 663) (by decide +kernel)), by decide +kernel⟩
set_option maxRecDepth 100000 in
theorem mw_664 : Cond.code yX10_tell cX10_tell 2 (some .int) ∈ gx_TB := List.mem_filter.mpr ⟨List.mem_append_right _ (List.mem_of_getElem? (i := 664) rfl), by decide +kernel⟩
theorem mw_669 : Cond.methodLink RX10 177 yX10_fieldPlain ∈ gx_TB := List.mem_filter.mpr ⟨List.mem_append_right _ (List.mem_of_getElem? (i := 669) (by decide +kernel)), by decide +kernel⟩
theorem mw_671 : Cond.instanceMethod yX10_fieldPlain ∈ gx_TB := List.mem_filter.mpr ⟨List.mem_append_right _ (List.mem_of_getElem? (i := 671) (by decide +kernel)), by decide +kernel⟩
set_option maxRecDepth 100000 in
theorem mw_672 : Cond.code yX10_fieldPlain cX10_fieldPlain 9 none ∈ gx_TB := List.mem_filter.mpr ⟨List.mem_append_right _ (List.mem_of_getElem? (i := 672) rfl), by decide +kernel⟩
theorem mw_673 : Cond.methodLink RX10 156 yX10_valueEnd ∈ gx_TB := List.mem_filter.mpr ⟨List.mem_append_right _ (List.mem_of_getElem? (i := 673) (by decide +kernel)), by decide +kernel⟩
theorem mw_675 : Cond.instanceMethod yX10_valueEnd ∈ gx_TB := List.mem_filter.mpr ⟨List.mem_append_right _ (List.mem_of_getElem? (i := 675) (by decide +kernel)), by decide +kernel⟩
set_option maxRecDepth 100000 in
theorem mw_676 : Cond.code yX10_valueEnd cX10_valueEnd 2 (some .int) ∈ gx_TB := List.mem_filter.mpr ⟨List.mem_append_right _ (List.mem_of_getElem? (i := 676) rfl), by decide +kernel⟩
theorem mw_677 : Cond.methodLink RX10 160 yX10_small ∈ gx_TB := List.mem_filter.mpr ⟨List.mem_append_right _ (List.mem_of_getElem? (i := 677) (by decide +kernel)), by decide +kernel⟩
theorem mw_678 : Cond.static yX10_small ∈ gx_TB := List.mem_filter.mpr ⟨List.mem_append_right _ (List.mem_of_getElem? (i := 678) (by decide +kernel)), by decide +kernel⟩
set_option maxRecDepth 100000 in
theorem mw_679 : Cond.code yX10_small cX10_small 1 (some .int) ∈ gx_TB := List.mem_filter.mpr ⟨List.mem_append_right _ (List.mem_of_getElem? (i := 679) rfl), by decide +kernel⟩
theorem mw_688 : Cond.methodLink RX10 184 yX8_read ∈ gx_TB := List.mem_filter.mpr ⟨List.mem_append_right _ (List.mem_of_getElem? (i := 688) (by decide +kernel)), by decide +kernel⟩
theorem mw_689 : Cond.instanceMethod yX8_read ∈ gx_TB := List.mem_filter.mpr ⟨List.mem_append_right _ (List.mem_of_getElem? (i := 689) (by decide +kernel)), by decide +kernel⟩
theorem mw_690 : Cond.selects RX8 yX8_read yX8_read ∈ gx_TB := List.mem_filter.mpr ⟨List.mem_append_right _ (List.mem_of_getElem? (i := 690) (by decide +kernel)), by decide +kernel⟩
set_option maxRecDepth 100000 in
theorem mw_691 : Cond.code yX8_read cX8_read 6 (some .boolean) ∈ gx_TB := List.mem_filter.mpr ⟨List.mem_append_right _ (List.mem_of_getElem? (i := 691) rfl), by decide +kernel⟩
theorem mw_694 : Cond.methodLink RX8 49 yX8_isSame ∈ gx_TB := List.mem_filter.mpr ⟨List.mem_append_right _ (List.mem_of_getElem? (i := 694) (by decide +kernel)), by decide +kernel⟩
theorem mw_696 : Cond.instanceMethod yX8_isSame ∈ gx_TB := List.mem_filter.mpr ⟨List.mem_append_right _ (List.mem_of_getElem? (i := 696) (by decide +kernel)), by decide +kernel⟩
set_option maxRecDepth 100000 in
theorem mw_697 : Cond.code yX8_isSame cX8_isSame 5 (some .boolean) ∈ gx_TB := List.mem_filter.mpr ⟨List.mem_append_right _ (List.mem_of_getElem? (i := 697) rfl), by decide +kernel⟩
theorem mw_702 : Cond.methodLink RX10 190 yX8_find ∈ gx_TB := List.mem_filter.mpr ⟨List.mem_append_right _ (List.mem_of_getElem? (i := 702) (by decide +kernel)), by decide +kernel⟩
theorem mw_703 : Cond.instanceMethod yX8_find ∈ gx_TB := List.mem_filter.mpr ⟨List.mem_append_right _ (List.mem_of_getElem? (i := 703) (by decide +kernel)), by decide +kernel⟩
theorem mw_704 : Cond.selects RX8 yX8_find yX8_find ∈ gx_TB := List.mem_filter.mpr ⟨List.mem_append_right _ (List.mem_of_getElem? (i := 704) (by decide +kernel)), by decide +kernel⟩
set_option maxRecDepth 100000 in
theorem mw_705 : Cond.code yX8_find cX8_find 6 (some .int) ∈ gx_TB := List.mem_filter.mpr ⟨List.mem_append_right _ (List.mem_of_getElem? (i := 705) rfl), by decide +kernel⟩
theorem mw_710 : Cond.constantLong RX10 200 (900) ∈ gx_TB := List.mem_filter.mpr ⟨List.mem_append_right _ (List.mem_of_getElem? (i := 710) (by decide +kernel)), by decide +kernel⟩
theorem mw_711 : Cond.methodLink RX10 202 yX10_digitOf ∈ gx_TB := List.mem_filter.mpr ⟨List.mem_append_right _ (List.mem_of_getElem? (i := 711) (by decide +kernel)), by decide +kernel⟩
theorem mw_712 : Cond.static yX10_digitOf ∈ gx_TB := List.mem_filter.mpr ⟨List.mem_append_right _ (List.mem_of_getElem? (i := 712) (by decide +kernel)), by decide +kernel⟩
set_option maxRecDepth 100000 in
theorem mw_713 : Cond.code yX10_digitOf cX10_digitOf 1 (some .int) ∈ gx_TB := List.mem_filter.mpr ⟨List.mem_append_right _ (List.mem_of_getElem? (i := 713) rfl), by decide +kernel⟩
theorem mw_718 : Cond.methodLink RX10 231 yX10_digest ∈ gx_TB := List.mem_filter.mpr ⟨List.mem_append_right _ (List.mem_of_getElem? (i := 718) (by decide +kernel)), by decide +kernel⟩
theorem mw_720 : Cond.instanceMethod yX10_digest ∈ gx_TB := List.mem_filter.mpr ⟨List.mem_append_right _ (List.mem_of_getElem? (i := 720) (by decide +kernel)), by decide +kernel⟩
set_option maxRecDepth 100000 in
theorem mw_721 : Cond.code yX10_digest cX10_digest 4 none ∈ gx_TB := List.mem_filter.mpr ⟨List.mem_append_right _ (List.mem_of_getElem? (i := 721) rfl), by decide +kernel⟩
theorem mw_722 : Cond.methodLink RX10 205 yX7_begin ∈ gx_TB := List.mem_filter.mpr ⟨List.mem_append_right _ (List.mem_of_getElem? (i := 722) (by decide +kernel)), by decide +kernel⟩
theorem mw_723 : Cond.instanceMethod yX7_begin ∈ gx_TB := List.mem_filter.mpr ⟨List.mem_append_right _ (List.mem_of_getElem? (i := 723) (by decide +kernel)), by decide +kernel⟩
theorem mw_724 : Cond.selects RX7 yX7_begin yX7_begin ∈ gx_TB := List.mem_filter.mpr ⟨List.mem_append_right _ (List.mem_of_getElem? (i := 724) (by decide +kernel)), by decide +kernel⟩
set_option maxRecDepth 100000 in
theorem mw_725 : Cond.code yX7_begin cX7_begin 1 none ∈ gx_TB := List.mem_filter.mpr ⟨List.mem_append_right _ (List.mem_of_getElem? (i := 725) rfl), by decide +kernel⟩
theorem mw_726 : Cond.methodLink RX7 48 arraycopyName ∈ gx_TB := List.mem_filter.mpr ⟨List.mem_append_right _ (List.mem_of_getElem? (i := 726) (by decide +kernel)), by decide +kernel⟩
theorem mw_727 : Cond.methodLink RX10 207 yX7_add ∈ gx_TB := List.mem_filter.mpr ⟨List.mem_append_right _ (List.mem_of_getElem? (i := 727) (by decide +kernel)), by decide +kernel⟩
theorem mw_728 : Cond.instanceMethod yX7_add ∈ gx_TB := List.mem_filter.mpr ⟨List.mem_append_right _ (List.mem_of_getElem? (i := 728) (by decide +kernel)), by decide +kernel⟩
theorem mw_729 : Cond.selects RX7 yX7_add yX7_add ∈ gx_TB := List.mem_filter.mpr ⟨List.mem_append_right _ (List.mem_of_getElem? (i := 729) (by decide +kernel)), by decide +kernel⟩
set_option maxRecDepth 100000 in
theorem mw_730 : Cond.code yX7_add cX7_add 5 none ∈ gx_TB := List.mem_filter.mpr ⟨List.mem_append_right _ (List.mem_of_getElem? (i := 730) rfl), by decide +kernel⟩
theorem mw_731 : Cond.methodLink RX7 65 yX7_one ∈ gx_TB := List.mem_filter.mpr ⟨List.mem_append_right _ (List.mem_of_getElem? (i := 731) (by decide +kernel)), by decide +kernel⟩
theorem mw_732 : Cond.instanceMethod yX7_one ∈ gx_TB := List.mem_filter.mpr ⟨List.mem_append_right _ (List.mem_of_getElem? (i := 732) (by decide +kernel)), by decide +kernel⟩
theorem mw_733 : Cond.selects RX7 yX7_one yX7_one ∈ gx_TB := List.mem_filter.mpr ⟨List.mem_append_right _ (List.mem_of_getElem? (i := 733) (by decide +kernel)), by decide +kernel⟩
set_option maxRecDepth 100000 in
theorem mw_734 : Cond.code yX7_one cX7_one 2 none ∈ gx_TB := List.mem_filter.mpr ⟨List.mem_append_right _ (List.mem_of_getElem? (i := 734) rfl), by decide +kernel⟩
theorem mw_735 : Cond.methodLink RX7 62 yX7_round ∈ gx_TB := List.mem_filter.mpr ⟨List.mem_append_right _ (List.mem_of_getElem? (i := 735) (by decide +kernel)), by decide +kernel⟩
theorem mw_737 : Cond.instanceMethod yX7_round ∈ gx_TB := List.mem_filter.mpr ⟨List.mem_append_right _ (List.mem_of_getElem? (i := 737) (by decide +kernel)), by decide +kernel⟩
set_option maxRecDepth 100000 in
theorem mw_738 : Cond.code yX7_round cX7_round 12 none ∈ gx_TB := List.mem_filter.mpr ⟨List.mem_append_right _ (List.mem_of_getElem? (i := 738) rfl), by decide +kernel⟩
theorem mw_739 : Cond.methodLink RX7 74 yJ6_rotateRight_7cf53 ∈ gx_TB := List.mem_filter.mpr ⟨List.mem_append_right _ (List.mem_of_getElem? (i := 739) (by decide +kernel)), by decide +kernel⟩
theorem mw_740 : Cond.static yJ6_rotateRight_7cf53 ∈ gx_TB := List.mem_filter.mpr ⟨List.mem_append_right _ (List.mem_of_getElem? (i := 740) (by decide +kernel)), by decide +kernel⟩
set_option maxRecDepth 100000 in
theorem mw_741 : Cond.code yJ6_rotateRight_7cf53 cJ6_rotateRight_7cf53 2 (some .int) ∈ gx_TB := List.mem_filter.mpr ⟨List.mem_append_right _ (List.mem_of_getElem? (i := 741) rfl), by decide +kernel⟩
theorem mw_742 : Cond.methodLink RX10 210 yX7_finish ∈ gx_TB := List.mem_filter.mpr ⟨List.mem_append_right _ (List.mem_of_getElem? (i := 742) (by decide +kernel)), by decide +kernel⟩
theorem mw_743 : Cond.instanceMethod yX7_finish ∈ gx_TB := List.mem_filter.mpr ⟨List.mem_append_right _ (List.mem_of_getElem? (i := 743) (by decide +kernel)), by decide +kernel⟩
theorem mw_744 : Cond.selects RX7 yX7_finish yX7_finish ∈ gx_TB := List.mem_filter.mpr ⟨List.mem_append_right _ (List.mem_of_getElem? (i := 744) (by decide +kernel)), by decide +kernel⟩
set_option maxRecDepth 100000 in
theorem mw_745 : Cond.code yX7_finish cX7_finish 6 none ∈ gx_TB := List.mem_filter.mpr ⟨List.mem_append_right _ (List.mem_of_getElem? (i := 745) rfl), by decide +kernel⟩
theorem mw_746 : Cond.constantLong RX7 69 (8) ∈ gx_TB := List.mem_filter.mpr ⟨List.mem_append_right _ (List.mem_of_getElem? (i := 746) (by decide +kernel)), by decide +kernel⟩
theorem mw_747 : Cond.methodLink RX7 71 yX7_four ∈ gx_TB := List.mem_filter.mpr ⟨List.mem_append_right _ (List.mem_of_getElem? (i := 747) (by decide +kernel)), by decide +kernel⟩
theorem mw_748 : Cond.instanceMethod yX7_four ∈ gx_TB := List.mem_filter.mpr ⟨List.mem_append_right _ (List.mem_of_getElem? (i := 748) (by decide +kernel)), by decide +kernel⟩
theorem mw_749 : Cond.selects RX7 yX7_four yX7_four ∈ gx_TB := List.mem_filter.mpr ⟨List.mem_append_right _ (List.mem_of_getElem? (i := 749) (by decide +kernel)), by decide +kernel⟩
set_option maxRecDepth 100000 in
theorem mw_750 : Cond.code yX7_four cX7_four 3 none ∈ gx_TB := List.mem_filter.mpr ⟨List.mem_append_right _ (List.mem_of_getElem? (i := 750) rfl), by decide +kernel⟩
theorem mw_755 : Cond.methodLink RX10 235 yX10_digits ∈ gx_TB := List.mem_filter.mpr ⟨List.mem_append_right _ (List.mem_of_getElem? (i := 755) (by decide +kernel)), by decide +kernel⟩
theorem mw_756 : Cond.static yX10_digits ∈ gx_TB := List.mem_filter.mpr ⟨List.mem_append_right _ (List.mem_of_getElem? (i := 756) (by decide +kernel)), by decide +kernel⟩
set_option maxRecDepth 100000 in
theorem mw_757 : Cond.code yX10_digits cX10_digits 3 none ∈ gx_TB := List.mem_filter.mpr ⟨List.mem_append_right _ (List.mem_of_getElem? (i := 757) rfl), by decide +kernel⟩
theorem mw_758 : Cond.methodLink RX10 214 yJ7_fill_53178 ∈ gx_TB := List.mem_filter.mpr ⟨List.mem_append_right _ (List.mem_of_getElem? (i := 758) (by decide +kernel)), by decide +kernel⟩
theorem mw_759 : Cond.static yJ7_fill_53178 ∈ gx_TB := List.mem_filter.mpr ⟨List.mem_append_right _ (List.mem_of_getElem? (i := 759) (by decide +kernel)), by decide +kernel⟩
set_option maxRecDepth 100000 in
theorem mw_760 : Cond.code yJ7_fill_53178 cJ7_fill_53178 4 none ∈ gx_TB := List.mem_filter.mpr ⟨List.mem_append_right _ (List.mem_of_getElem? (i := 760) rfl), by decide +kernel⟩
theorem mw_761 : Cond.methodLink RX10 227 yX10_remainder ∈ gx_TB := List.mem_filter.mpr ⟨List.mem_append_right _ (List.mem_of_getElem? (i := 761) (by decide +kernel)), by decide +kernel⟩
theorem mw_763 : Cond.instanceMethod yX10_remainder ∈ gx_TB := List.mem_filter.mpr ⟨List.mem_append_right _ (List.mem_of_getElem? (i := 763) (by decide +kernel)), by decide +kernel⟩
set_option maxRecDepth 100000 in
theorem mw_764 : Cond.code yX10_remainder cX10_remainder 9 none ∈ gx_TB := List.mem_filter.mpr ⟨List.mem_append_right _ (List.mem_of_getElem? (i := 764) rfl), by decide +kernel⟩
theorem mw_765 : Cond.constant RX10 220 (65535) ∈ gx_TB := List.mem_filter.mpr ⟨List.mem_append_right _ (List.mem_of_getElem? (i := 765) (by decide +kernel)), by decide +kernel⟩
theorem mw_766 : Cond.methodLink RX10 221 yX10_isBelow ∈ gx_TB := List.mem_filter.mpr ⟨List.mem_append_right _ (List.mem_of_getElem? (i := 766) (by decide +kernel)), by decide +kernel⟩
theorem mw_767 : Cond.static yX10_isBelow ∈ gx_TB := List.mem_filter.mpr ⟨List.mem_append_right _ (List.mem_of_getElem? (i := 767) (by decide +kernel)), by decide +kernel⟩
set_option maxRecDepth 100000 in
theorem mw_768 : Cond.code yX10_isBelow cX10_isBelow 3 (some .boolean) ∈ gx_TB := List.mem_filter.mpr ⟨List.mem_append_right _ (List.mem_of_getElem? (i := 768) rfl), by decide +kernel⟩
theorem mw_769 : Cond.methodLink RX10 239 yX10_times ∈ gx_TB := List.mem_filter.mpr ⟨List.mem_append_right _ (List.mem_of_getElem? (i := 769) (by decide +kernel)), by decide +kernel⟩
theorem mw_771 : Cond.instanceMethod yX10_times ∈ gx_TB := List.mem_filter.mpr ⟨List.mem_append_right _ (List.mem_of_getElem? (i := 771) (by decide +kernel)), by decide +kernel⟩
set_option maxRecDepth 100000 in
theorem mw_772 : Cond.code yX10_times cX10_times 6 none ∈ gx_TB := List.mem_filter.mpr ⟨List.mem_append_right _ (List.mem_of_getElem? (i := 772) rfl), by decide +kernel⟩
theorem mw_773 : Cond.constantLong RX10 225 (65535) ∈ gx_TB := List.mem_filter.mpr ⟨List.mem_append_right _ (List.mem_of_getElem? (i := 773) (by decide +kernel)), by decide +kernel⟩
theorem mw_778 : Cond.constantLong RX10 243 (-1) ∈ gx_TB := List.mem_filter.mpr ⟨List.mem_append_right _ (List.mem_of_getElem? (i := 778) (by decide +kernel)), by decide +kernel⟩
