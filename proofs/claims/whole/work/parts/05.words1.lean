set_option maxRecDepth 20000 in
theorem ke_X7_idle : Cond.selects RX7 yX7_idle yX7_idle ∈ zTbl := zmem 1069 rfl rfl
set_option maxRecDepth 20000 in
theorem kc_X7_facts : Cond.code yX7_facts cX7_facts 3 (some .int) ∈ zTbl := zmem 1078 rfl rfl
abbrev wsX7_facts : List Cond := Cond.code yX7_facts cX7_facts 3 (some .int) :: zTbl
set_option maxRecDepth 20000 in
theorem ki_X7_facts : Cond.instanceMethod yX7_facts ∈ zTbl := zmem 1077 rfl rfl
set_option maxRecDepth 20000 in
theorem ke_X7_facts : Cond.selects RX7 yX7_facts yX7_facts ∈ zTbl := zmem 50 rfl rfl
set_option maxRecDepth 20000 in
theorem kc_X7_enough : Cond.code yX7_enough cX7_enough 3 (some .int) ∈ zTbl := zmem 1074 rfl rfl
abbrev wsX7_enough : List Cond := Cond.code yX7_enough cX7_enough 3 (some .int) :: zTbl
set_option maxRecDepth 20000 in
theorem ki_X7_enough : Cond.instanceMethod yX7_enough ∈ zTbl := zmem 1072 rfl rfl
set_option maxRecDepth 20000 in
theorem ke_X7_enough : Cond.selects RX7 yX7_enough yX7_enough ∈ zTbl := zmem 1073 rfl rfl
set_option maxRecDepth 20000 in
theorem kc_X7_lacking : Cond.code yX7_lacking cX7_lacking 4 (some .int) ∈ zTbl := zmem 1083 rfl rfl
abbrev wsX7_lacking : List Cond := Cond.code yX7_lacking cX7_lacking 4 (some .int) :: zTbl
set_option maxRecDepth 20000 in
theorem ki_X7_lacking : Cond.instanceMethod yX7_lacking ∈ zTbl := zmem 1081 rfl rfl
set_option maxRecDepth 20000 in
theorem ke_X7_lacking : Cond.selects RX7 yX7_lacking yX7_lacking ∈ zTbl := zmem 1082 rfl rfl
set_option maxRecDepth 20000 in
theorem kc_X7_strange : Cond.code yX7_strange cX7_strange 5 (some .int) ∈ zTbl := zmem 1087 rfl rfl
abbrev wsX7_strange : List Cond := Cond.code yX7_strange cX7_strange 5 (some .int) :: zTbl
set_option maxRecDepth 20000 in
theorem ki_X7_strange : Cond.instanceMethod yX7_strange ∈ zTbl := zmem 1085 rfl rfl
set_option maxRecDepth 20000 in
theorem ke_X7_strange : Cond.selects RX7 yX7_strange yX7_strange ∈ zTbl := zmem 1086 rfl rfl
set_option maxRecDepth 20000 in
theorem kc_X7_put : Cond.code yX7_put cX7_put 4 (some .boolean) ∈ zTbl := zmem 1091 rfl rfl
abbrev wsX7_put : List Cond := Cond.code yX7_put cX7_put 4 (some .boolean) :: zTbl
set_option maxRecDepth 20000 in
theorem ki_X7_put : Cond.instanceMethod yX7_put ∈ zTbl := zmem 1089 rfl rfl
set_option maxRecDepth 20000 in
theorem ke_X7_put : Cond.selects RX7 yX7_put yX7_put ∈ zTbl := zmem 1090 rfl rfl
set_option maxRecDepth 20000 in
theorem kc_X7_undo : Cond.code yX7_undo cX7_undo 1 (some .int) ∈ zTbl := zmem 1095 rfl rfl
abbrev wsX7_undo : List Cond := Cond.code yX7_undo cX7_undo 1 (some .int) :: zTbl
set_option maxRecDepth 20000 in
theorem ki_X7_undo : Cond.instanceMethod yX7_undo ∈ zTbl := zmem 1093 rfl rfl
set_option maxRecDepth 20000 in
theorem ke_X7_undo : Cond.selects RX7 yX7_undo yX7_undo ∈ zTbl := zmem 1094 rfl rfl
set_option maxRecDepth 20000 in
theorem kc_X7_count : Cond.code yX7_count cX7_count 5 (some .int) ∈ zTbl := zmem 1099 rfl rfl
abbrev wsX7_count : List Cond := Cond.code yX7_count cX7_count 5 (some .int) :: zTbl
set_option maxRecDepth 20000 in
theorem ki_X7_count : Cond.instanceMethod yX7_count ∈ zTbl := zmem 1097 rfl rfl
set_option maxRecDepth 20000 in
theorem ke_X7_count : Cond.selects RX7 yX7_count yX7_count ∈ zTbl := zmem 1098 rfl rfl
set_option maxRecDepth 20000 in
theorem kc_J6_bitCount_0f7a4 : Cond.code yJ6_bitCount_0f7a4 cJ6_bitCount_0f7a4 1 (some .int) ∈ zTbl := zmem 619 rfl rfl
abbrev wsJ6_bitCount_0f7a4 : List Cond := Cond.code yJ6_bitCount_0f7a4 cJ6_bitCount_0f7a4 1 (some .int) :: zTbl
set_option maxRecDepth 20000 in
theorem ks_J6_bitCount_0f7a4 : Cond.static yJ6_bitCount_0f7a4 ∈ zTbl := zmem 618 rfl rfl
set_option maxRecDepth 20000 in
theorem kc_J9_abs_067f4 : Cond.code yJ9_abs_067f4 cJ9_abs_067f4 2 (some .long) ∈ zTbl := zmem 1029 rfl rfl
abbrev wsJ9_abs_067f4 : List Cond := Cond.code yJ9_abs_067f4 cJ9_abs_067f4 2 (some .long) :: zTbl
set_option maxRecDepth 20000 in
theorem ks_J9_abs_067f4 : Cond.static yJ9_abs_067f4 ∈ zTbl := zmem 1028 rfl rfl
set_option maxRecDepth 20000 in
theorem kc_J0_length_8abf5 : Cond.code yJ0_length_8abf5 cJ0_length_8abf5 1 (some .int) ∈ zTbl := zmem 298 rfl rfl
abbrev wsJ0_length_8abf5 : List Cond := Cond.code yJ0_length_8abf5 cJ0_length_8abf5 1 (some .int) :: zTbl
set_option maxRecDepth 20000 in
theorem ki_J0_length_8abf5 : Cond.instanceMethod yJ0_length_8abf5 ∈ zTbl := zmem 296 rfl rfl
set_option maxRecDepth 20000 in
theorem ke_J0_length_8abf5 : Cond.selects RJ0 yJ0_length_8abf5 yJ0_length_8abf5 ∈ zTbl := zmem 297 rfl rfl
set_option maxRecDepth 20000 in
theorem kc_J0_charAt_5068e : Cond.code yJ0_charAt_5068e cJ0_charAt_5068e 2 (some .char) ∈ zTbl := zmem 312 rfl rfl
abbrev wsJ0_charAt_5068e : List Cond := Cond.code yJ0_charAt_5068e cJ0_charAt_5068e 2 (some .char) :: zTbl
set_option maxRecDepth 20000 in
theorem ki_J0_charAt_5068e : Cond.instanceMethod yJ0_charAt_5068e ∈ zTbl := zmem 310 rfl rfl
set_option maxRecDepth 20000 in
theorem ke_J0_charAt_5068e : Cond.selects RJ0 yJ0_charAt_5068e yJ0_charAt_5068e ∈ zTbl := zmem 311 rfl rfl
set_option maxRecDepth 20000 in
theorem kc_J0_coder_7d493 : Cond.code yJ0_coder_7d493 cJ0_coder_7d493 1 (some .byte) ∈ zTbl := zmem 302 rfl rfl
abbrev wsJ0_coder_7d493 : List Cond := Cond.code yJ0_coder_7d493 cJ0_coder_7d493 1 (some .byte) :: zTbl
set_option maxRecDepth 20000 in
theorem ki_J0_coder_7d493 : Cond.instanceMethod yJ0_coder_7d493 ∈ zTbl := zmem 300 rfl rfl
set_option maxRecDepth 20000 in
theorem ke_J0_coder_7d493 : Cond.selects RJ0 yJ0_coder_7d493 yJ0_coder_7d493 ∈ zTbl := zmem 301 rfl rfl
set_option maxRecDepth 20000 in
theorem kc_J0_isLatin1_aae02 : Cond.code yJ0_isLatin1_aae02 cJ0_isLatin1_aae02 1 (some .boolean) ∈ zTbl := zmem 316 rfl rfl
abbrev wsJ0_isLatin1_aae02 : List Cond := Cond.code yJ0_isLatin1_aae02 cJ0_isLatin1_aae02 1 (some .boolean) :: zTbl
set_option maxRecDepth 20000 in
theorem ki_J0_isLatin1_aae02 : Cond.instanceMethod yJ0_isLatin1_aae02 ∈ zTbl := zmem 314 rfl rfl
set_option maxRecDepth 20000 in
theorem ke_J0_isLatin1_aae02 : Cond.selects RJ0 yJ0_isLatin1_aae02 yJ0_isLatin1_aae02 ∈ zTbl := zmem 315 rfl rfl
set_option maxRecDepth 20000 in
theorem kc_J0_checkIndex_df160 : Cond.code yJ0_checkIndex_df160 cJ0_checkIndex_df160 2 none ∈ zTbl := zmem 322 rfl rfl
abbrev wsJ0_checkIndex_df160 : List Cond := Cond.code yJ0_checkIndex_df160 cJ0_checkIndex_df160 2 none :: zTbl
set_option maxRecDepth 20000 in
theorem ks_J0_checkIndex_df160 : Cond.static yJ0_checkIndex_df160 ∈ zTbl := zmem 321 rfl rfl
set_option maxRecDepth 20000 in
theorem kc_J1_charAt_3b067 : Cond.code yJ1_charAt_3b067 cJ1_charAt_3b067 2 (some .char) ∈ zTbl := zmem 319 rfl rfl
abbrev wsJ1_charAt_3b067 : List Cond := Cond.code yJ1_charAt_3b067 cJ1_charAt_3b067 2 (some .char) :: zTbl
set_option maxRecDepth 20000 in
theorem ks_J1_charAt_3b067 : Cond.static yJ1_charAt_3b067 ∈ zTbl := zmem 318 rfl rfl
set_option maxRecDepth 20000 in
theorem kc_J2_getChar_3b067 : Cond.code yJ2_getChar_3b067 cJ2_getChar_3b067 2 (some .char) ∈ zTbl := zmem 340 rfl rfl
abbrev wsJ2_getChar_3b067 : List Cond := Cond.code yJ2_getChar_3b067 cJ2_getChar_3b067 2 (some .char) :: zTbl
set_option maxRecDepth 20000 in
theorem ks_J2_getChar_3b067 : Cond.static yJ2_getChar_3b067 ∈ zTbl := zmem 339 rfl rfl
set_option maxRecDepth 20000 in
theorem kc_J2_length_9d52b : Cond.code yJ2_length_9d52b cJ2_length_9d52b 1 (some .int) ∈ zTbl := zmem 336 rfl rfl
abbrev wsJ2_length_9d52b : List Cond := Cond.code yJ2_length_9d52b cJ2_length_9d52b 1 (some .int) :: zTbl
set_option maxRecDepth 20000 in
theorem ks_J2_length_9d52b : Cond.static yJ2_length_9d52b ∈ zTbl := zmem 335 rfl rfl
set_option maxRecDepth 20000 in
theorem kc_J2_charAt_3b067 : Cond.code yJ2_charAt_3b067 cJ2_charAt_3b067 2 (some .char) ∈ zTbl := zmem 330 rfl rfl
abbrev wsJ2_charAt_3b067 : List Cond := Cond.code yJ2_charAt_3b067 cJ2_charAt_3b067 2 (some .char) :: zTbl
set_option maxRecDepth 20000 in
theorem ks_J2_charAt_3b067 : Cond.static yJ2_charAt_3b067 ∈ zTbl := zmem 329 rfl rfl
set_option maxRecDepth 20000 in
theorem kc_J2_checkIndex_2214a : Cond.code yJ2_checkIndex_2214a cJ2_checkIndex_2214a 2 none ∈ zTbl := zmem 333 rfl rfl
abbrev wsJ2_checkIndex_2214a : List Cond := Cond.code yJ2_checkIndex_2214a cJ2_checkIndex_2214a 2 none :: zTbl
set_option maxRecDepth 20000 in
theorem ks_J2_checkIndex_2214a : Cond.static yJ2_checkIndex_2214a ∈ zTbl := zmem 332 rfl rfl
set_option maxRecDepth 20000 in
theorem kc_J7_fill_d0a16 : Cond.code yJ7_fill_d0a16 cJ7_fill_d0a16 5 none ∈ zTbl := zmem 449 rfl rfl
abbrev wsJ7_fill_d0a16 : List Cond := Cond.code yJ7_fill_d0a16 cJ7_fill_d0a16 5 none :: zTbl
set_option maxRecDepth 20000 in
theorem ks_J7_fill_d0a16 : Cond.static yJ7_fill_d0a16 ∈ zTbl := zmem 448 rfl rfl
set_option maxRecDepth 20000 in
theorem kc_J3_checkIndex_8e157 : Cond.code yJ3_checkIndex_8e157 cJ3_checkIndex_8e157 3 (some .int) ∈ zTbl := zmem 327 rfl rfl
abbrev wsJ3_checkIndex_8e157 : List Cond := Cond.code yJ3_checkIndex_8e157 cJ3_checkIndex_8e157 3 (some .int) :: zTbl
set_option maxRecDepth 20000 in
theorem ks_J3_checkIndex_8e157 : Cond.static yJ3_checkIndex_8e157 ∈ zTbl := zmem 326 rfl rfl
set_option maxRecDepth 20000 in
theorem kf_RJ0_9 : Cond.fieldLink RJ0 9 "java/lang/String" "value" "[B" ∈ zTbl := zmem 1112 rfl rfl
set_option maxRecDepth 20000 in
theorem kf_RJ0_15 : Cond.fieldLink RJ0 15 "java/lang/String" "coder" "B" ∈ zTbl := zmem 1113 rfl rfl
set_option maxRecDepth 20000 in
theorem kf_RJ0_38 : Cond.fieldLink RJ0 38 "java/lang/String" "COMPACT_STRINGS" "Z" ∈ zTbl := zmem 303 rfl rfl
set_option maxRecDepth 20000 in
theorem kf_RJ0_1053 : Cond.fieldLink RJ0 1053 "jdk/internal/util/Preconditions" "SIOOBE_FORMATTER" "Ljava/util/function/BiFunction;" ∈ zTbl := zmem 323 rfl rfl
set_option maxRecDepth 20000 in
theorem kf_RJ2_44 : Cond.fieldLink RJ2 44 "java/lang/StringUTF16" "$assertionsDisabled" "Z" ∈ zTbl := zmem 341 rfl rfl
set_option maxRecDepth 20000 in
theorem kf_RJ2_59 : Cond.fieldLink RJ2 59 "java/lang/StringUTF16" "HI_BYTE_SHIFT" "I" ∈ zTbl := zmem 343 rfl rfl
set_option maxRecDepth 20000 in
theorem kf_RJ2_63 : Cond.fieldLink RJ2 63 "java/lang/StringUTF16" "LO_BYTE_SHIFT" "I" ∈ zTbl := zmem 345 rfl rfl
set_option maxRecDepth 20000 in
theorem kf_RX0_9 : Cond.fieldLink RX0 9 (TX0 0).1 (TX0 0).2.1 (TX0 0).2.2.1 ∈ zTbl := zmem 116 rfl rfl
set_option maxRecDepth 20000 in
theorem kf_RX0_15 : Cond.fieldLink RX0 15 (TX0 1).1 (TX0 1).2.1 (TX0 1).2.2.1 ∈ zTbl := zmem 117 rfl rfl
set_option maxRecDepth 20000 in
theorem kf_RX0_18 : Cond.fieldLink RX0 18 (TX0 2).1 (TX0 2).2.1 (TX0 2).2.2.1 ∈ zTbl := zmem 118 rfl rfl
set_option maxRecDepth 20000 in
theorem kf_RX1_11 : Cond.fieldLink RX1 11 (TX1 0).1 (TX1 0).2.1 (TX1 0).2.2.1 ∈ zTbl := zmem 168 rfl rfl
set_option maxRecDepth 20000 in
theorem kf_RX1_16 : Cond.fieldLink RX1 16 (TX1 1).1 (TX1 1).2.1 (TX1 1).2.2.1 ∈ zTbl := zmem 169 rfl rfl
set_option maxRecDepth 20000 in
theorem kf_RX2_9 : Cond.fieldLink RX2 9 (TX2 0).1 (TX2 0).2.1 (TX2 0).2.2.1 ∈ zTbl := zmem 106 rfl rfl
set_option maxRecDepth 20000 in
theorem kf_RX3_11 : Cond.fieldLink RX3 11 (TX3 0).1 (TX3 0).2.1 (TX3 0).2.2.1 ∈ zTbl := zmem 134 rfl rfl
set_option maxRecDepth 20000 in
theorem kf_RX3_16 : Cond.fieldLink RX3 16 (TX3 1).1 (TX3 1).2.1 (TX3 1).2.2.1 ∈ zTbl := zmem 135 rfl rfl
set_option maxRecDepth 20000 in
theorem kf_RX3_20 : Cond.fieldLink RX3 20 (TX3 2).1 (TX3 2).2.1 (TX3 2).2.2.1 ∈ zTbl := zmem 136 rfl rfl
set_option maxRecDepth 20000 in
theorem kf_RX3_24 : Cond.fieldLink RX3 24 (TX3 3).1 (TX3 3).2.1 (TX3 3).2.2.1 ∈ zTbl := zmem 137 rfl rfl
set_option maxRecDepth 20000 in
theorem kf_RX3_27 : Cond.fieldLink RX3 27 (TX3 4).1 (TX3 4).2.1 (TX3 4).2.2.1 ∈ zTbl := zmem 138 rfl rfl
set_option maxRecDepth 20000 in
theorem kf_RX3_30 : Cond.fieldLink RX3 30 (TX3 5).1 (TX3 5).2.1 (TX3 5).2.2.1 ∈ zTbl := zmem 139 rfl rfl
set_option maxRecDepth 20000 in
theorem kf_RX4_11 : Cond.fieldLink RX4 11 (TX4 0).1 (TX4 0).2.1 (TX4 0).2.2.1 ∈ zTbl := zmem 178 rfl rfl
set_option maxRecDepth 20000 in
theorem kf_RX4_18 : Cond.fieldLink RX4 18 (TX4 1).1 (TX4 1).2.1 (TX4 1).2.2.1 ∈ zTbl := zmem 179 rfl rfl
set_option maxRecDepth 20000 in
theorem kf_RX4_24 : Cond.fieldLink RX4 24 (TX4 2).1 (TX4 2).2.1 (TX4 2).2.2.1 ∈ zTbl := zmem 180 rfl rfl
set_option maxRecDepth 20000 in
theorem kf_RX4_27 : Cond.fieldLink RX4 27 (TX4 3).1 (TX4 3).2.1 (TX4 3).2.2.1 ∈ zTbl := zmem 181 rfl rfl
set_option maxRecDepth 20000 in
theorem kf_RX4_31 : Cond.fieldLink RX4 31 (TX4 4).1 (TX4 4).2.1 (TX4 4).2.2.1 ∈ zTbl := zmem 182 rfl rfl
set_option maxRecDepth 20000 in
theorem kf_RX4_34 : Cond.fieldLink RX4 34 (TX4 5).1 (TX4 5).2.1 (TX4 5).2.2.1 ∈ zTbl := zmem 183 rfl rfl
set_option maxRecDepth 20000 in
theorem kf_RX4_37 : Cond.fieldLink RX4 37 (TX4 6).1 (TX4 6).2.1 (TX4 6).2.2.1 ∈ zTbl := zmem 184 rfl rfl
set_option maxRecDepth 20000 in
theorem kf_RX4_40 : Cond.fieldLink RX4 40 (TX4 7).1 (TX4 7).2.1 (TX4 7).2.2.1 ∈ zTbl := zmem 185 rfl rfl
set_option maxRecDepth 20000 in
theorem kf_RX4_43 : Cond.fieldLink RX4 43 (TX4 9).1 (TX4 9).2.1 (TX4 9).2.2.1 ∈ zTbl := zmem 187 rfl rfl
set_option maxRecDepth 20000 in
theorem kf_RX4_47 : Cond.fieldLink RX4 47 (TX4 10).1 (TX4 10).2.1 (TX4 10).2.2.1 ∈ zTbl := zmem 188 rfl rfl
set_option maxRecDepth 20000 in
theorem kf_RX4_51 : Cond.fieldLink RX4 51 (TX4 11).1 (TX4 11).2.1 (TX4 11).2.2.1 ∈ zTbl := zmem 189 rfl rfl
set_option maxRecDepth 20000 in
theorem kf_RX4_54 : Cond.fieldLink RX4 54 (TX4 12).1 (TX4 12).2.1 (TX4 12).2.2.1 ∈ zTbl := zmem 190 rfl rfl
set_option maxRecDepth 20000 in
theorem kf_RX4_57 : Cond.fieldLink RX4 57 (TX4 13).1 (TX4 13).2.1 (TX4 13).2.2.1 ∈ zTbl := zmem 191 rfl rfl
set_option maxRecDepth 20000 in
theorem kf_RX4_60 : Cond.fieldLink RX4 60 (TX4 8).1 (TX4 8).2.1 (TX4 8).2.2.1 ∈ zTbl := zmem 186 rfl rfl
set_option maxRecDepth 20000 in
theorem kf_RX5_9 : Cond.fieldLink RX5 9 (TX5 0).1 (TX5 0).2.1 (TX5 0).2.2.1 ∈ zTbl := zmem 86 rfl rfl
set_option maxRecDepth 20000 in
theorem kf_RX5_15 : Cond.fieldLink RX5 15 (TX5 1).1 (TX5 1).2.1 (TX5 1).2.2.1 ∈ zTbl := zmem 87 rfl rfl
set_option maxRecDepth 20000 in
theorem kf_RX5_19 : Cond.fieldLink RX5 19 (TX5 2).1 (TX5 2).2.1 (TX5 2).2.2.1 ∈ zTbl := zmem 88 rfl rfl
set_option maxRecDepth 20000 in
theorem kf_RX5_22 : Cond.fieldLink RX5 22 (TX5 3).1 (TX5 3).2.1 (TX5 3).2.2.1 ∈ zTbl := zmem 89 rfl rfl
set_option maxRecDepth 20000 in
theorem kf_RX6_12 : Cond.fieldLink RX6 12 (TX6 0).1 (TX6 0).2.1 (TX6 0).2.2.1 ∈ zTbl := zmem 221 rfl rfl
set_option maxRecDepth 20000 in
theorem kf_RX6_21 : Cond.fieldLink RX6 21 (TX6 1).1 (TX6 1).2.1 (TX6 1).2.2.1 ∈ zTbl := zmem 222 rfl rfl
set_option maxRecDepth 20000 in
theorem kf_RX6_28 : Cond.fieldLink RX6 28 (TX6 2).1 (TX6 2).2.1 (TX6 2).2.2.1 ∈ zTbl := zmem 223 rfl rfl
set_option maxRecDepth 20000 in
theorem kf_RX6_35 : Cond.fieldLink RX6 35 (TX6 4).1 (TX6 4).2.1 (TX6 4).2.2.1 ∈ zTbl := zmem 225 rfl rfl
set_option maxRecDepth 20000 in
theorem kf_RX6_39 : Cond.fieldLink RX6 39 (TX6 5).1 (TX6 5).2.1 (TX6 5).2.2.1 ∈ zTbl := zmem 226 rfl rfl
set_option maxRecDepth 20000 in
theorem kf_RX6_47 : Cond.fieldLink RX6 47 (TX6 3).1 (TX6 3).2.1 (TX6 3).2.2.1 ∈ zTbl := zmem 224 rfl rfl
set_option maxRecDepth 20000 in
theorem kf_RX7_9 : Cond.fieldLink RX7 9 (TX7 1).1 (TX7 1).2.1 (TX7 1).2.2.1 ∈ zTbl := zmem 780 rfl rfl
set_option maxRecDepth 20000 in
theorem kf_RX7_13 : Cond.fieldLink RX7 13 (TX7 3).1 (TX7 3).2.1 (TX7 3).2.2.1 ∈ zTbl := zmem 782 rfl rfl
set_option maxRecDepth 20000 in
theorem kf_RX7_17 : Cond.fieldLink RX7 17 (TX7 4).1 (TX7 4).2.1 (TX7 4).2.2.1 ∈ zTbl := zmem 783 rfl rfl
set_option maxRecDepth 20000 in
theorem kf_RX7_20 : Cond.fieldLink RX7 20 (TX7 5).1 (TX7 5).2.1 (TX7 5).2.2.1 ∈ zTbl := zmem 784 rfl rfl
set_option maxRecDepth 20000 in
theorem kf_RX7_23 : Cond.fieldLink RX7 23 (TX7 6).1 (TX7 6).2.1 (TX7 6).2.2.1 ∈ zTbl := zmem 785 rfl rfl
set_option maxRecDepth 20000 in
theorem kf_RX7_26 : Cond.fieldLink RX7 26 (TX7 10).1 (TX7 10).2.1 (TX7 10).2.2.1 ∈ zTbl := zmem 789 rfl rfl
set_option maxRecDepth 20000 in
theorem kf_RX7_29 : Cond.fieldLink RX7 29 (TX7 11).1 (TX7 11).2.1 (TX7 11).2.2.1 ∈ zTbl := zmem 790 rfl rfl
set_option maxRecDepth 20000 in
theorem kf_RX7_32 : Cond.fieldLink RX7 32 (TX7 21).1 (TX7 21).2.1 (TX7 21).2.2.1 ∈ zTbl := zmem 800 rfl rfl
set_option maxRecDepth 20000 in
theorem kf_RX7_36 : Cond.fieldLink RX7 36 (TX7 22).1 (TX7 22).2.1 (TX7 22).2.2.1 ∈ zTbl := zmem 801 rfl rfl
set_option maxRecDepth 20000 in
theorem kf_RX7_39 : Cond.fieldLink RX7 39 (TX7 23).1 (TX7 23).2.1 (TX7 23).2.2.1 ∈ zTbl := zmem 802 rfl rfl
set_option maxRecDepth 20000 in
theorem kf_RX7_42 : Cond.fieldLink RX7 42 (TX7 0).1 (TX7 0).2.1 (TX7 0).2.2.1 ∈ zTbl := zmem 779 rfl rfl
set_option maxRecDepth 20000 in
theorem kf_RX7_46 : Cond.fieldLink RX7 46 (TX7 2).1 (TX7 2).2.1 (TX7 2).2.2.1 ∈ zTbl := zmem 781 rfl rfl
set_option maxRecDepth 20000 in
theorem kf_RX7_57 : Cond.fieldLink RX7 57 (TX7 14).1 (TX7 14).2.1 (TX7 14).2.2.1 ∈ zTbl := zmem 793 rfl rfl
set_option maxRecDepth 20000 in
theorem kf_RX7_60 : Cond.fieldLink RX7 60 (TX7 13).1 (TX7 13).2.1 (TX7 13).2.2.1 ∈ zTbl := zmem 792 rfl rfl
set_option maxRecDepth 20000 in
theorem kf_RX7_117 : Cond.fieldLink RX7 117 (TX7 16).1 (TX7 16).2.1 (TX7 16).2.2.1 ∈ zTbl := zmem 795 rfl rfl
set_option maxRecDepth 20000 in
theorem kf_RX7_120 : Cond.fieldLink RX7 120 (TX7 17).1 (TX7 17).2.1 (TX7 17).2.2.1 ∈ zTbl := zmem 796 rfl rfl
set_option maxRecDepth 20000 in
theorem kf_RX7_126 : Cond.fieldLink RX7 126 (TX7 18).1 (TX7 18).2.1 (TX7 18).2.2.1 ∈ zTbl := zmem 797 rfl rfl
set_option maxRecDepth 20000 in
theorem kf_RX7_132 : Cond.fieldLink RX7 132 (TX7 19).1 (TX7 19).2.1 (TX7 19).2.2.1 ∈ zTbl := zmem 798 rfl rfl
set_option maxRecDepth 20000 in
theorem kf_RX7_144 : Cond.fieldLink RX7 144 (TX7 15).1 (TX7 15).2.1 (TX7 15).2.2.1 ∈ zTbl := zmem 794 rfl rfl
set_option maxRecDepth 20000 in
theorem kf_RX7_190 : Cond.fieldLink RX7 190 (TX7 20).1 (TX7 20).2.1 (TX7 20).2.2.1 ∈ zTbl := zmem 799 rfl rfl
set_option maxRecDepth 20000 in
theorem kf_RX7_193 : Cond.fieldLink RX7 193 (TX7 8).1 (TX7 8).2.1 (TX7 8).2.2.1 ∈ zTbl := zmem 787 rfl rfl
set_option maxRecDepth 20000 in
theorem kf_RX7_205 : Cond.fieldLink RX7 205 (TX7 7).1 (TX7 7).2.1 (TX7 7).2.2.1 ∈ zTbl := zmem 786 rfl rfl
set_option maxRecDepth 20000 in
theorem kf_RX7_207 : Cond.fieldLink RX7 207 (TX7 9).1 (TX7 9).2.1 (TX7 9).2.2.1 ∈ zTbl := zmem 788 rfl rfl
set_option maxRecDepth 20000 in
theorem kf_RX7_211 : Cond.fieldLink RX7 211 (TX7 12).1 (TX7 12).2.1 (TX7 12).2.2.1 ∈ zTbl := zmem 791 rfl rfl
set_option maxRecDepth 20000 in
theorem kf_RX7_228 : Cond.fieldLink RX7 228 (TX7 24).1 (TX7 24).2.1 (TX7 24).2.2.1 ∈ zTbl := zmem 803 rfl rfl
set_option maxRecDepth 20000 in
theorem kf_RX7_244 : Cond.fieldLink RX7 244 (TX7 25).1 (TX7 25).2.1 (TX7 25).2.2.1 ∈ zTbl := zmem 804 rfl rfl
set_option maxRecDepth 20000 in
theorem kf_RX7_248 : Cond.fieldLink RX7 248 (TX7 26).1 (TX7 26).2.1 (TX7 26).2.2.1 ∈ zTbl := zmem 805 rfl rfl
set_option maxRecDepth 20000 in
theorem kl0_0 : u_lay RX0 TX0 0 ∈ zTbl := zmem 119 rfl rfl
set_option maxRecDepth 20000 in
theorem kl0_1 : u_lay RX0 TX0 1 ∈ zTbl := zmem 121 rfl rfl
set_option maxRecDepth 20000 in
theorem kl0_2 : u_lay RX0 TX0 2 ∈ zTbl := zmem 123 rfl rfl
theorem kw0 : ∀ w ∈ u_ws RX0 TX0 3, w ∈ zTbl := zws fun k hk => match k, hk with
  | 0, _ => kl0_0
  | 1, _ => kl0_1
  | 2, _ => kl0_2
  | k + 3, hk => absurd hk (by omega)
set_option maxRecDepth 20000 in
theorem kl1_0 : u_lay RX1 TX1 0 ∈ zTbl := zmem 170 rfl rfl
set_option maxRecDepth 20000 in
theorem kl1_1 : u_lay RX1 TX1 1 ∈ zTbl := zmem 172 rfl rfl
theorem kw1 : ∀ w ∈ u_ws RX1 TX1 2, w ∈ zTbl := zws fun k hk => match k, hk with
  | 0, _ => kl1_0
  | 1, _ => kl1_1
  | k + 2, hk => absurd hk (by omega)
set_option maxRecDepth 20000 in
theorem kl2_0 : u_lay RX2 TX2 0 ∈ zTbl := zmem 107 rfl rfl
theorem kw2 : ∀ w ∈ u_ws RX2 TX2 1, w ∈ zTbl := zws fun k hk => match k, hk with
  | 0, _ => kl2_0
  | k + 1, hk => absurd hk (by omega)
set_option maxRecDepth 20000 in
theorem kl3_0 : u_lay RX3 TX3 0 ∈ zTbl := zmem 140 rfl rfl
set_option maxRecDepth 20000 in
theorem kl3_1 : u_lay RX3 TX3 1 ∈ zTbl := zmem 142 rfl rfl
set_option maxRecDepth 20000 in
theorem kl3_2 : u_lay RX3 TX3 2 ∈ zTbl := zmem 144 rfl rfl
set_option maxRecDepth 20000 in
theorem kl3_3 : u_lay RX3 TX3 3 ∈ zTbl := zmem 146 rfl rfl
set_option maxRecDepth 20000 in
theorem kl3_4 : u_lay RX3 TX3 4 ∈ zTbl := zmem 148 rfl rfl
set_option maxRecDepth 20000 in
theorem kl3_5 : u_lay RX3 TX3 5 ∈ zTbl := zmem 150 rfl rfl
theorem kw3 : ∀ w ∈ u_ws RX3 TX3 6, w ∈ zTbl := zws fun k hk => match k, hk with
  | 0, _ => kl3_0
  | 1, _ => kl3_1
  | 2, _ => kl3_2
  | 3, _ => kl3_3
  | 4, _ => kl3_4
  | 5, _ => kl3_5
  | k + 6, hk => absurd hk (by omega)
set_option maxRecDepth 20000 in
theorem kl4_0 : u_lay RX4 TX4 0 ∈ zTbl := zmem 192 rfl rfl
set_option maxRecDepth 20000 in
theorem kl4_1 : u_lay RX4 TX4 1 ∈ zTbl := zmem 194 rfl rfl
set_option maxRecDepth 20000 in
theorem kl4_2 : u_lay RX4 TX4 2 ∈ zTbl := zmem 196 rfl rfl
set_option maxRecDepth 20000 in
theorem kl4_3 : u_lay RX4 TX4 3 ∈ zTbl := zmem 198 rfl rfl
set_option maxRecDepth 20000 in
theorem kl4_4 : u_lay RX4 TX4 4 ∈ zTbl := zmem 200 rfl rfl
set_option maxRecDepth 20000 in
theorem kl4_5 : u_lay RX4 TX4 5 ∈ zTbl := zmem 202 rfl rfl
set_option maxRecDepth 20000 in
theorem kl4_6 : u_lay RX4 TX4 6 ∈ zTbl := zmem 204 rfl rfl
set_option maxRecDepth 20000 in
theorem kl4_7 : u_lay RX4 TX4 7 ∈ zTbl := zmem 206 rfl rfl
set_option maxRecDepth 20000 in
theorem kl4_8 : u_lay RX4 TX4 8 ∈ zTbl := zmem 208 rfl rfl
set_option maxRecDepth 20000 in
theorem kl4_9 : u_lay RX4 TX4 9 ∈ zTbl := zmem 210 rfl rfl
set_option maxRecDepth 20000 in
theorem kl4_10 : u_lay RX4 TX4 10 ∈ zTbl := zmem 212 rfl rfl
set_option maxRecDepth 20000 in
theorem kl4_11 : u_lay RX4 TX4 11 ∈ zTbl := zmem 214 rfl rfl
set_option maxRecDepth 20000 in
theorem kl4_12 : u_lay RX4 TX4 12 ∈ zTbl := zmem 216 rfl rfl
set_option maxRecDepth 20000 in
theorem kl4_13 : u_lay RX4 TX4 13 ∈ zTbl := zmem 218 rfl rfl
theorem kw4 : ∀ w ∈ u_ws RX4 TX4 14, w ∈ zTbl := zws fun k hk => match k, hk with
  | 0, _ => kl4_0
  | 1, _ => kl4_1
  | 2, _ => kl4_2
  | 3, _ => kl4_3
  | 4, _ => kl4_4
  | 5, _ => kl4_5
  | 6, _ => kl4_6
  | 7, _ => kl4_7
  | 8, _ => kl4_8
  | 9, _ => kl4_9
  | 10, _ => kl4_10
  | 11, _ => kl4_11
  | 12, _ => kl4_12
  | 13, _ => kl4_13
  | k + 14, hk => absurd hk (by omega)
set_option maxRecDepth 20000 in
theorem kl5_0 : u_lay RX5 TX5 0 ∈ zTbl := zmem 90 rfl rfl
set_option maxRecDepth 20000 in
theorem kl5_1 : u_lay RX5 TX5 1 ∈ zTbl := zmem 92 rfl rfl
set_option maxRecDepth 20000 in
theorem kl5_2 : u_lay RX5 TX5 2 ∈ zTbl := zmem 94 rfl rfl
set_option maxRecDepth 20000 in
theorem kl5_3 : u_lay RX5 TX5 3 ∈ zTbl := zmem 96 rfl rfl
theorem kw5 : ∀ w ∈ u_ws RX5 TX5 4, w ∈ zTbl := zws fun k hk => match k, hk with
  | 0, _ => kl5_0
  | 1, _ => kl5_1
  | 2, _ => kl5_2
  | 3, _ => kl5_3
  | k + 4, hk => absurd hk (by omega)
set_option maxRecDepth 20000 in
theorem kl6_0 : u_lay RX6 TX6 0 ∈ zTbl := zmem 227 rfl rfl
set_option maxRecDepth 20000 in
theorem kl6_1 : u_lay RX6 TX6 1 ∈ zTbl := zmem 229 rfl rfl
set_option maxRecDepth 20000 in
theorem kl6_2 : u_lay RX6 TX6 2 ∈ zTbl := zmem 231 rfl rfl
set_option maxRecDepth 20000 in
theorem kl6_3 : u_lay RX6 TX6 3 ∈ zTbl := zmem 233 rfl rfl
set_option maxRecDepth 20000 in
theorem kl6_4 : u_lay RX6 TX6 4 ∈ zTbl := zmem 235 rfl rfl
set_option maxRecDepth 20000 in
theorem kl6_5 : u_lay RX6 TX6 5 ∈ zTbl := zmem 237 rfl rfl
theorem kw6 : ∀ w ∈ u_ws RX6 TX6 6, w ∈ zTbl := zws fun k hk => match k, hk with
  | 0, _ => kl6_0
  | 1, _ => kl6_1
  | 2, _ => kl6_2
  | 3, _ => kl6_3
  | 4, _ => kl6_4
  | 5, _ => kl6_5
  | k + 6, hk => absurd hk (by omega)
set_option maxRecDepth 20000 in
theorem kl7_0 : u_lay RX7 TX7 0 ∈ zTbl := zmem 806 rfl rfl
set_option maxRecDepth 20000 in
theorem kl7_1 : u_lay RX7 TX7 1 ∈ zTbl := zmem 808 rfl rfl
set_option maxRecDepth 20000 in
theorem kl7_2 : u_lay RX7 TX7 2 ∈ zTbl := zmem 810 rfl rfl
set_option maxRecDepth 20000 in
theorem kl7_3 : u_lay RX7 TX7 3 ∈ zTbl := zmem 812 rfl rfl
set_option maxRecDepth 20000 in
theorem kl7_4 : u_lay RX7 TX7 4 ∈ zTbl := zmem 814 rfl rfl
set_option maxRecDepth 20000 in
theorem kl7_5 : u_lay RX7 TX7 5 ∈ zTbl := zmem 816 rfl rfl
set_option maxRecDepth 20000 in
theorem kl7_6 : u_lay RX7 TX7 6 ∈ zTbl := zmem 818 rfl rfl
set_option maxRecDepth 20000 in
theorem kl7_7 : u_lay RX7 TX7 7 ∈ zTbl := zmem 820 rfl rfl
set_option maxRecDepth 20000 in
theorem kl7_8 : u_lay RX7 TX7 8 ∈ zTbl := zmem 822 rfl rfl
set_option maxRecDepth 20000 in
theorem kl7_9 : u_lay RX7 TX7 9 ∈ zTbl := zmem 824 rfl rfl
set_option maxRecDepth 20000 in
theorem kl7_10 : u_lay RX7 TX7 10 ∈ zTbl := zmem 826 rfl rfl
set_option maxRecDepth 20000 in
theorem kl7_11 : u_lay RX7 TX7 11 ∈ zTbl := zmem 828 rfl rfl
set_option maxRecDepth 20000 in
theorem kl7_12 : u_lay RX7 TX7 12 ∈ zTbl := zmem 830 rfl rfl
set_option maxRecDepth 20000 in
theorem kl7_13 : u_lay RX7 TX7 13 ∈ zTbl := zmem 832 rfl rfl
set_option maxRecDepth 20000 in
theorem kl7_14 : u_lay RX7 TX7 14 ∈ zTbl := zmem 834 rfl rfl
set_option maxRecDepth 20000 in
theorem kl7_15 : u_lay RX7 TX7 15 ∈ zTbl := zmem 836 rfl rfl
set_option maxRecDepth 20000 in
theorem kl7_16 : u_lay RX7 TX7 16 ∈ zTbl := zmem 838 rfl rfl
set_option maxRecDepth 20000 in
theorem kl7_17 : u_lay RX7 TX7 17 ∈ zTbl := zmem 840 rfl rfl
set_option maxRecDepth 20000 in
theorem kl7_18 : u_lay RX7 TX7 18 ∈ zTbl := zmem 842 rfl rfl
set_option maxRecDepth 20000 in
theorem kl7_19 : u_lay RX7 TX7 19 ∈ zTbl := zmem 844 rfl rfl
set_option maxRecDepth 20000 in
theorem kl7_20 : u_lay RX7 TX7 20 ∈ zTbl := zmem 846 rfl rfl
set_option maxRecDepth 20000 in
theorem kl7_21 : u_lay RX7 TX7 21 ∈ zTbl := zmem 848 rfl rfl
set_option maxRecDepth 20000 in
theorem kl7_22 : u_lay RX7 TX7 22 ∈ zTbl := zmem 850 rfl rfl
set_option maxRecDepth 20000 in
theorem kl7_23 : u_lay RX7 TX7 23 ∈ zTbl := zmem 852 rfl rfl
set_option maxRecDepth 20000 in
theorem kl7_24 : u_lay RX7 TX7 24 ∈ zTbl := zmem 854 rfl rfl
set_option maxRecDepth 20000 in
theorem kl7_25 : u_lay RX7 TX7 25 ∈ zTbl := zmem 856 rfl rfl
set_option maxRecDepth 20000 in
theorem kl7_26 : u_lay RX7 TX7 26 ∈ zTbl := zmem 858 rfl rfl
theorem kw7 : ∀ w ∈ u_ws RX7 TX7 27, w ∈ zTbl := zws fun k hk => match k, hk with
  | 0, _ => kl7_0
  | 1, _ => kl7_1
  | 2, _ => kl7_2
  | 3, _ => kl7_3
  | 4, _ => kl7_4
  | 5, _ => kl7_5
  | 6, _ => kl7_6
  | 7, _ => kl7_7
  | 8, _ => kl7_8
  | 9, _ => kl7_9
  | 10, _ => kl7_10
  | 11, _ => kl7_11
  | 12, _ => kl7_12
  | 13, _ => kl7_13
  | 14, _ => kl7_14
  | 15, _ => kl7_15
  | 16, _ => kl7_16
  | 17, _ => kl7_17
  | 18, _ => kl7_18
  | 19, _ => kl7_19
  | 20, _ => kl7_20
  | 21, _ => kl7_21
  | 22, _ => kl7_22
  | 23, _ => kl7_23
  | 24, _ => kl7_24
  | 25, _ => kl7_25
  | 26, _ => kl7_26
  | k + 27, hk => absurd hk (by omega)
set_option maxRecDepth 20000 in
theorem km_RL_15 : Cond.methodLink RL 15 yX6_init ∈ zTbl := zmem 74 rfl rfl
theorem gm_RL_15 : GoodIn zTbl wsX6_init := zgI kc_X6_init
set_option maxRecDepth 20000 in
theorem km_RX6_18 : Cond.methodLink RX6 18 yX2_init ∈ zTbl := zmem 102 rfl rfl
theorem gm_RX6_18 : GoodIn zTbl wsX2_init := zgI kc_X2_init
set_option maxRecDepth 20000 in
theorem km_RX6_44 : Cond.methodLink RX6 44 yX4_init ∈ zTbl := zmem 155 rfl rfl
theorem gm_RX6_44 : GoodIn zTbl wsX4_init := zgI kc_X4_init
set_option maxRecDepth 20000 in
theorem km_RL_19 : Cond.methodLink RL 19 yX6_feed ∈ zTbl := zmem 240 rfl rfl
theorem gm_RL_19 : GoodIn zTbl (wsV RL 19 RX6 yX6_feed wsX6_feed) := zgV km_RL_19 ki_X6_feed ke_X6_feed kn_RX6 kc_X6_feed
set_option maxRecDepth 20000 in
theorem km_RX6_51 : Cond.methodLink RX6 51 yX5_filledBytes ∈ zTbl := zmem 244 rfl rfl
theorem gm_RX6_51 : GoodIn zTbl (va_wsS RX6 51 yX5_filledBytes wsX5_filledBytes) := zgS km_RX6_51 ks_X5_filledBytes kn_RX5 kc_X5_filledBytes
set_option maxRecDepth 20000 in
theorem km_RX6_55 : Cond.methodLink RX6 55 yX5_size ∈ zTbl := zmem 247 rfl rfl
theorem gm_RX6_55 : GoodIn zTbl (wsV RX6 55 RX5 yX5_size wsX5_size) := zgV km_RX6_55 ki_X5_size ke_X5_size kn_RX5 kc_X5_size
set_option maxRecDepth 20000 in
theorem km_RX6_59 : Cond.methodLink RX6 59 yX5_append ∈ zTbl := zmem 251 rfl rfl
theorem gm_RX6_59 : GoodIn zTbl (wsV RX6 59 RX5 yX5_append wsX5_append) := zgV km_RX6_59 ki_X5_append ke_X5_append kn_RX5 kc_X5_append
set_option maxRecDepth 20000 in
theorem km_RL_24 : Cond.methodLink RL 24 yX6_end ∈ zTbl := zmem 255 rfl rfl
theorem gm_RL_24 : GoodIn zTbl (wsV RL 24 RX6 yX6_end wsX6_end) := zgV km_RL_24 ki_X6_end ke_X6_end kn_RX6 kc_X6_end
set_option maxRecDepth 20000 in
theorem km_RX6_63 : Cond.methodLink RX6 63 yX5_cut ∈ zTbl := zmem 259 rfl rfl
theorem gm_RX6_63 : GoodIn zTbl (wsV RX6 63 RX5 yX5_cut wsX5_cut) := zgV km_RX6_63 ki_X5_cut ke_X5_cut kn_RX5 kc_X5_cut
set_option maxRecDepth 20000 in
theorem km_RX5_25 : Cond.methodLink RX5 25 yX5_rewind ∈ zTbl := zmem 263 rfl rfl
theorem gm_RX5_25 : GoodIn zTbl (wsV RX5 25 RX5 yX5_rewind wsX5_rewind) := zgV km_RX5_25 ki_X5_rewind ke_X5_rewind kn_RX5 kc_X5_rewind
set_option maxRecDepth 20000 in
theorem km_RX5_28 : Cond.methodLink RX5 28 yX5_advance ∈ zTbl := zmem 267 rfl rfl
theorem gm_RX5_28 : GoodIn zTbl (wsV RX5 28 RX5 yX5_advance wsX5_advance) := zgV km_RX5_28 ki_X5_advance ke_X5_advance kn_RX5 kc_X5_advance
set_option maxRecDepth 20000 in
theorem km_RX5_31 : Cond.methodLink RX5 31 yX5_isDigit ∈ zTbl := zmem 271 rfl rfl
theorem gm_RX5_31 : GoodIn zTbl (va_wsS RX5 31 yX5_isDigit wsX5_isDigit) := zgS km_RX5_31 ks_X5_isDigit kn_RX5 kc_X5_isDigit
set_option maxRecDepth 20000 in
theorem km_RX5_35 : Cond.methodLink RX5 35 yX5_isLetter ∈ zTbl := zmem 274 rfl rfl
theorem gm_RX5_35 : GoodIn zTbl (va_wsS RX5 35 yX5_isLetter wsX5_isLetter) := zgS km_RX5_35 ks_X5_isLetter kn_RX5 kc_X5_isLetter
set_option maxRecDepth 20000 in
theorem km_RL_29 : Cond.methodLink RL 29 yX6_fault ∈ zTbl := zmem 277 rfl rfl
theorem gm_RL_29 : GoodIn zTbl (wsV RL 29 RX6 yX6_fault wsX6_fault) := zgV km_RL_29 ki_X6_fault ke_X6_fault kn_RX6 kc_X6_fault
set_option maxRecDepth 20000 in
theorem km_RX6_67 : Cond.methodLink RX6 67 yX2_read ∈ zTbl := zmem 281 rfl rfl
theorem gm_RX6_67 : GoodIn zTbl (wsV RX6 67 RX2 yX2_read wsX2_read) := zgV km_RX6_67 ki_X2_read ke_X2_read kn_RX2 kc_X2_read
set_option maxRecDepth 20000 in
theorem km_RX2_15 : Cond.methodLink RX2 15 yX3_clear ∈ zTbl := zmem 285 rfl rfl
theorem gm_RX2_15 : GoodIn zTbl (wsV RX2 15 RX3 yX3_clear wsX3_clear) := zgV km_RX2_15 ki_X3_clear ke_X3_clear kn_RX3 kc_X3_clear
set_option maxRecDepth 20000 in
theorem km_RX2_20 : Cond.methodLink RX2 20 yX5_rewind ∈ zTbl := zmem 289 rfl rfl
theorem gm_RX2_20 : GoodIn zTbl (wsV RX2 20 RX5 yX5_rewind wsX5_rewind) := zgV km_RX2_20 ki_X5_rewind ke_X5_rewind kn_RX5 kc_X5_rewind
set_option maxRecDepth 20000 in
theorem km_RX2_27 : Cond.methodLink RX2 27 yX5_take ∈ zTbl := zmem 291 rfl rfl
theorem gm_RX2_27 : GoodIn zTbl (wsV RX2 27 RX5 yX5_take wsX5_take) := zgV km_RX2_27 ki_X5_take ke_X5_take kn_RX5 kc_X5_take
set_option maxRecDepth 20000 in
theorem km_RX5_38 : Cond.methodLink RX5 38 yJ0_length_8abf5 ∈ zTbl := zmem 295 rfl rfl
theorem gm_RX5_38 : GoodIn zTbl (wsV RX5 38 RJ0 yJ0_length_8abf5 wsJ0_length_8abf5) := zgV km_RX5_38 ki_J0_length_8abf5 ke_J0_length_8abf5 kn_RJ0 kc_J0_length_8abf5
set_option maxRecDepth 20000 in
theorem km_RJ0_335 : Cond.methodLink RJ0 335 yJ0_coder_7d493 ∈ zTbl := zmem 299 rfl rfl
theorem gm_RJ0_335 : GoodIn zTbl (wsV RJ0 335 RJ0 yJ0_coder_7d493 wsJ0_coder_7d493) := zgV km_RJ0_335 ki_J0_coder_7d493 ke_J0_coder_7d493 kn_RJ0 kc_J0_coder_7d493
set_option maxRecDepth 20000 in
theorem km_RX5_43 : Cond.methodLink RX5 43 yX5_find ∈ zTbl := zmem 305 rfl rfl
theorem gm_RX5_43 : GoodIn zTbl (wsV RX5 43 RX5 yX5_find wsX5_find) := zgV km_RX5_43 ki_X5_find ke_X5_find kn_RX5 kc_X5_find
set_option maxRecDepth 20000 in
theorem km_RX5_51 : Cond.methodLink RX5 51 yJ0_charAt_5068e ∈ zTbl := zmem 309 rfl rfl
theorem gm_RX5_51 : GoodIn zTbl (wsV RX5 51 RJ0 yJ0_charAt_5068e wsJ0_charAt_5068e) := zgV km_RX5_51 ki_J0_charAt_5068e ke_J0_charAt_5068e kn_RJ0 kc_J0_charAt_5068e
set_option maxRecDepth 20000 in
theorem km_RJ0_492 : Cond.methodLink RJ0 492 yJ0_isLatin1_aae02 ∈ zTbl := zmem 313 rfl rfl
theorem gm_RJ0_492 : GoodIn zTbl (wsV RJ0 492 RJ0 yJ0_isLatin1_aae02 wsJ0_isLatin1_aae02) := zgV km_RJ0_492 ki_J0_isLatin1_aae02 ke_J0_isLatin1_aae02 kn_RJ0 kc_J0_isLatin1_aae02
set_option maxRecDepth 20000 in
theorem km_RJ0_495 : Cond.methodLink RJ0 495 yJ1_charAt_3b067 ∈ zTbl := zmem 317 rfl rfl
theorem gm_RJ0_495 : GoodIn zTbl (va_wsS RJ0 495 yJ1_charAt_3b067 wsJ1_charAt_3b067) := zgS km_RJ0_495 ks_J1_charAt_3b067 kn_RJ1 kc_J1_charAt_3b067
set_option maxRecDepth 20000 in
theorem km_RJ1_9 : Cond.methodLink RJ1 9 yJ0_checkIndex_df160 ∈ zTbl := zmem 320 rfl rfl
theorem gm_RJ1_9 : GoodIn zTbl (va_wsS RJ1 9 yJ0_checkIndex_df160 wsJ0_checkIndex_df160) := zgS km_RJ1_9 ks_J0_checkIndex_df160 kn_RJ0 kc_J0_checkIndex_df160
set_option maxRecDepth 20000 in
theorem km_RJ0_1059 : Cond.methodLink RJ0 1059 yJ3_checkIndex_8e157 ∈ zTbl := zmem 325 rfl rfl
theorem gm_RJ0_1059 : GoodIn zTbl (va_wsS RJ0 1059 yJ3_checkIndex_8e157 wsJ3_checkIndex_8e157) := zgS km_RJ0_1059 ks_J3_checkIndex_8e157 kn_RJ3 kc_J3_checkIndex_8e157
set_option maxRecDepth 20000 in
theorem km_RJ0_498 : Cond.methodLink RJ0 498 yJ2_charAt_3b067 ∈ zTbl := zmem 328 rfl rfl
theorem gm_RJ0_498 : GoodIn zTbl (va_wsS RJ0 498 yJ2_charAt_3b067 wsJ2_charAt_3b067) := zgS km_RJ0_498 ks_J2_charAt_3b067 kn_RJ2 kc_J2_charAt_3b067
set_option maxRecDepth 20000 in
theorem km_RJ2_67 : Cond.methodLink RJ2 67 yJ2_checkIndex_2214a ∈ zTbl := zmem 331 rfl rfl
theorem gm_RJ2_67 : GoodIn zTbl (va_wsS RJ2 67 yJ2_checkIndex_2214a wsJ2_checkIndex_2214a) := zgS km_RJ2_67 ks_J2_checkIndex_2214a kn_RJ2 kc_J2_checkIndex_2214a
set_option maxRecDepth 20000 in
theorem km_RJ2_48 : Cond.methodLink RJ2 48 yJ2_length_9d52b ∈ zTbl := zmem 334 rfl rfl
theorem gm_RJ2_48 : GoodIn zTbl (va_wsS RJ2 48 yJ2_length_9d52b wsJ2_length_9d52b) := zgS km_RJ2_48 ks_J2_length_9d52b kn_RJ2 kc_J2_length_9d52b
set_option maxRecDepth 20000 in
theorem km_RJ2_414 : Cond.methodLink RJ2 414 yJ0_checkIndex_df160 ∈ zTbl := zmem 337 rfl rfl
theorem gm_RJ2_414 : GoodIn zTbl (va_wsS RJ2 414 yJ0_checkIndex_df160 wsJ0_checkIndex_df160) := zgS km_RJ2_414 ks_J0_checkIndex_df160 kn_RJ0 kc_J0_checkIndex_df160
set_option maxRecDepth 20000 in
theorem km_RJ2_71 : Cond.methodLink RJ2 71 yJ2_getChar_3b067 ∈ zTbl := zmem 338 rfl rfl
theorem gm_RJ2_71 : GoodIn zTbl (va_wsS RJ2 71 yJ2_getChar_3b067 wsJ2_getChar_3b067) := zgS km_RJ2_71 ks_J2_getChar_3b067 kn_RJ2 kc_J2_getChar_3b067
set_option maxRecDepth 20000 in
theorem km_RX2_31 : Cond.methodLink RX2 31 yX2_readQuestion ∈ zTbl := zmem 347 rfl rfl
theorem gm_RX2_31 : GoodIn zTbl (wsV RX2 31 RX2 yX2_readQuestion wsX2_readQuestion) := zgV km_RX2_31 ki_X2_readQuestion ke_X2_readQuestion kn_RX2 kc_X2_readQuestion
set_option maxRecDepth 20000 in
theorem km_RX2_104 : Cond.methodLink RX2 104 yX5_takeUnit ∈ zTbl := zmem 352 rfl rfl
theorem gm_RX2_104 : GoodIn zTbl (wsV RX2 104 RX5 yX5_takeUnit wsX5_takeUnit) := zgV km_RX2_104 ki_X5_takeUnit ke_X5_takeUnit kn_RX5 kc_X5_takeUnit
set_option maxRecDepth 20000 in
theorem km_RX2_107 : Cond.methodLink RX2 107 yX2_takeAskedSort ∈ zTbl := zmem 357 rfl rfl
theorem gm_RX2_107 : GoodIn zTbl (wsV RX2 107 RX2 yX2_takeAskedSort wsX2_takeAskedSort) := zgV km_RX2_107 ki_X2_takeAskedSort ke_X2_takeAskedSort kn_RX2 kc_X2_takeAskedSort
set_option maxRecDepth 20000 in
theorem km_RX2_46 : Cond.methodLink RX2 46 yX5_takeName ∈ zTbl := zmem 364 rfl rfl
theorem gm_RX2_46 : GoodIn zTbl (wsV RX2 46 RX5 yX5_takeName wsX5_takeName) := zgV km_RX2_46 ki_X5_takeName ke_X5_takeName kn_RX5 kc_X5_takeName
set_option maxRecDepth 20000 in
theorem km_RX2_112 : Cond.methodLink RX2 112 yX3_ask ∈ zTbl := zmem 371 rfl rfl
theorem gm_RX2_112 : GoodIn zTbl (wsV RX2 112 RX3 yX3_ask wsX3_ask) := zgV km_RX2_112 ki_X3_ask ke_X3_ask kn_RX3 kc_X3_ask
set_option maxRecDepth 20000 in
theorem km_RX2_35 : Cond.methodLink RX2 35 yX5_isOver ∈ zTbl := zmem 375 rfl rfl
theorem gm_RX2_35 : GoodIn zTbl (wsV RX2 35 RX5 yX5_isOver wsX5_isOver) := zgV km_RX2_35 ki_X5_isOver ke_X5_isOver kn_RX5 kc_X5_isOver
set_option maxRecDepth 20000 in
theorem km_RX2_39 : Cond.methodLink RX2 39 yX5_start ∈ zTbl := zmem 379 rfl rfl
theorem gm_RX2_39 : GoodIn zTbl (wsV RX2 39 RX5 yX5_start wsX5_start) := zgV km_RX2_39 ki_X5_start ke_X5_start kn_RX5 kc_X5_start
set_option maxRecDepth 20000 in
theorem km_RX2_43 : Cond.methodLink RX2 43 yX2_readSentence ∈ zTbl := zmem 383 rfl rfl
theorem gm_RX2_43 : GoodIn zTbl (wsV RX2 43 RX2 yX2_readSentence wsX2_readSentence) := zgV km_RX2_43 ki_X2_readSentence ke_X2_readSentence kn_RX2 kc_X2_readSentence
set_option maxRecDepth 20000 in
theorem km_RX2_50 : Cond.methodLink RX2 50 yX3_open ∈ zTbl := zmem 387 rfl rfl
theorem gm_RX2_50 : GoodIn zTbl (wsV RX2 50 RX3 yX3_open wsX3_open) := zgV km_RX2_50 ki_X3_open ke_X3_open kn_RX3 kc_X3_open
set_option maxRecDepth 20000 in
theorem km_RX3_34 : Cond.methodLink RX3 34 yX3_tell ∈ zTbl := zmem 391 rfl rfl
theorem gm_RX3_34 : GoodIn zTbl (wsV RX3 34 RX3 yX3_tell wsX3_tell) := zgV km_RX3_34 ki_X3_tell ke_X3_tell kn_RX3 kc_X3_tell
set_option maxRecDepth 20000 in
theorem km_RX2_56 : Cond.methodLink RX2 56 yX2_readHas ∈ zTbl := zmem 395 rfl rfl
theorem gm_RX2_56 : GoodIn zTbl (wsV RX2 56 RX2 yX2_readHas wsX2_readHas) := zgV km_RX2_56 ki_X2_readHas ke_X2_readHas kn_RX2 kc_X2_readHas
set_option maxRecDepth 20000 in
theorem km_RX2_83 : Cond.methodLink RX2 83 yX5_takeNumber ∈ zTbl := zmem 399 rfl rfl
theorem gm_RX2_83 : GoodIn zTbl (wsV RX2 83 RX5 yX5_takeNumber wsX5_takeNumber) := zgV km_RX2_83 ki_X5_takeNumber ke_X5_takeNumber kn_RX5 kc_X5_takeNumber
set_option maxRecDepth 20000 in
theorem km_RX2_86 : Cond.methodLink RX2 86 yX3_tell ∈ zTbl := zmem 403 rfl rfl
theorem gm_RX2_86 : GoodIn zTbl (wsV RX2 86 RX3 yX3_tell wsX3_tell) := zgV km_RX2_86 ki_X3_tell ke_X3_tell kn_RX3 kc_X3_tell
set_option maxRecDepth 20000 in
theorem km_RX2_91 : Cond.methodLink RX2 91 yX2_readUnit ∈ zTbl := zmem 405 rfl rfl
theorem gm_RX2_91 : GoodIn zTbl (wsV RX2 91 RX2 yX2_readUnit wsX2_readUnit) := zgV km_RX2_91 ki_X2_readUnit ke_X2_readUnit kn_RX2 kc_X2_readUnit
set_option maxRecDepth 20000 in
theorem km_RX2_62 : Cond.methodLink RX2 62 yX2_readSecond ∈ zTbl := zmem 410 rfl rfl
theorem gm_RX2_62 : GoodIn zTbl (wsV RX2 62 RX2 yX2_readSecond wsX2_readSecond) := zgV km_RX2_62 ki_X2_readSecond ke_X2_readSecond kn_RX2 kc_X2_readSecond
set_option maxRecDepth 20000 in
theorem km_RX2_67 : Cond.methodLink RX2 67 yX2_readPlain ∈ zTbl := zmem 417 rfl rfl
theorem gm_RX2_67 : GoodIn zTbl (wsV RX2 67 RX2 yX2_readPlain wsX2_readPlain) := zgV km_RX2_67 ki_X2_readPlain ke_X2_readPlain kn_RX2 kc_X2_readPlain
set_option maxRecDepth 20000 in
theorem km_RX2_80 : Cond.methodLink RX2 80 yX3_close ∈ zTbl := zmem 426 rfl rfl
theorem gm_RX2_80 : GoodIn zTbl (wsV RX2 80 RX3 yX3_close wsX3_close) := zgV km_RX2_80 ki_X3_close ke_X3_close kn_RX3 kc_X3_close
set_option maxRecDepth 20000 in
theorem km_RL_34 : Cond.methodLink RL 34 yX6_tale ∈ zTbl := zmem 431 rfl rfl
theorem gm_RL_34 : GoodIn zTbl (wsV RL 34 RX6 yX6_tale wsX6_tale) := zgV km_RL_34 ki_X6_tale ke_X6_tale kn_RX6 kc_X6_tale
set_option maxRecDepth 20000 in
theorem km_RX6_71 : Cond.methodLink RX6 71 yX0_clear ∈ zTbl := zmem 435 rfl rfl
theorem gm_RX6_71 : GoodIn zTbl (wsV RX6 71 RX0 yX0_clear wsX0_clear) := zgV km_RX6_71 ki_X0_clear ke_X0_clear kn_RX0 kc_X0_clear
set_option maxRecDepth 20000 in
theorem km_RX6_74 : Cond.methodLink RX6 74 yX4_begin ∈ zTbl := zmem 439 rfl rfl
theorem gm_RX6_74 : GoodIn zTbl (wsV RX6 74 RX4 yX4_begin wsX4_begin) := zgV km_RX6_74 ki_X4_begin ke_X4_begin kn_RX4 kc_X4_begin
set_option maxRecDepth 20000 in
theorem km_RX4_64 : Cond.methodLink RX4 64 yX4_solve ∈ zTbl := zmem 443 rfl rfl
theorem gm_RX4_64 : GoodIn zTbl (wsV RX4 64 RX4 yX4_solve wsX4_solve) := zgV km_RX4_64 ki_X4_solve ke_X4_solve kn_RX4 kc_X4_solve
set_option maxRecDepth 20000 in
theorem km_RX4_67 : Cond.methodLink RX4 67 yJ7_fill_d0a16 ∈ zTbl := zmem 447 rfl rfl
theorem gm_RX4_67 : GoodIn zTbl (va_wsS RX4 67 yJ7_fill_d0a16 wsJ7_fill_d0a16) := zgS km_RX4_67 ks_J7_fill_d0a16 kn_RJ7 kc_J7_fill_d0a16
set_option maxRecDepth 20000 in
theorem km_RX4_73 : Cond.methodLink RX4 73 yX4_makeLaws ∈ zTbl := zmem 450 rfl rfl
theorem gm_RX4_73 : GoodIn zTbl (wsV RX4 73 RX4 yX4_makeLaws wsX4_makeLaws) := zgV km_RX4_73 ki_X4_makeLaws ke_X4_makeLaws kn_RX4 kc_X4_makeLaws
set_option maxRecDepth 20000 in
theorem km_RX4_85 : Cond.methodLink RX4 85 yX3_size ∈ zTbl := zmem 454 rfl rfl
theorem gm_RX4_85 : GoodIn zTbl (wsV RX4 85 RX3 yX3_size wsX3_size) := zgV km_RX4_85 ki_X3_size ke_X3_size kn_RX3 kc_X3_size
set_option maxRecDepth 20000 in
theorem km_RX4_91 : Cond.methodLink RX4 91 yX3_part ∈ zTbl := zmem 458 rfl rfl
theorem gm_RX4_91 : GoodIn zTbl (wsV RX4 91 RX3 yX3_part wsX3_part) := zgV km_RX4_91 ki_X3_part ke_X3_part kn_RX3 kc_X3_part
set_option maxRecDepth 20000 in
theorem km_RX3_38 : Cond.methodLink RX3 38 yX3_has ∈ zTbl := zmem 462 rfl rfl
theorem gm_RX3_38 : GoodIn zTbl (wsV RX3 38 RX3 yX3_has wsX3_has) := zgV km_RX3_38 ki_X3_has ke_X3_has kn_RX3 kc_X3_has
set_option maxRecDepth 20000 in
theorem km_RX4_95 : Cond.methodLink RX4 95 yX4_madeBy ∈ zTbl := zmem 466 rfl rfl
theorem gm_RX4_95 : GoodIn zTbl (va_wsS RX4 95 yX4_madeBy wsX4_madeBy) := zgS km_RX4_95 ks_X4_madeBy kn_RX4 kc_X4_madeBy
set_option maxRecDepth 20000 in
theorem km_RX4_98 : Cond.methodLink RX4 98 yX4_weigh ∈ zTbl := zmem 469 rfl rfl
theorem gm_RX4_98 : GoodIn zTbl (wsV RX4 98 RX4 yX4_weigh wsX4_weigh) := zgV km_RX4_98 ki_X4_weigh ke_X4_weigh kn_RX4 kc_X4_weigh
set_option maxRecDepth 20000 in
theorem km_RX4_113 : Cond.methodLink RX4 113 yX3_gain ∈ zTbl := zmem 473 rfl rfl
theorem gm_RX4_113 : GoodIn zTbl (wsV RX4 113 RX3 yX3_gain wsX3_gain) := zgV km_RX4_113 ki_X3_gain ke_X3_gain kn_RX3 kc_X3_gain
set_option maxRecDepth 20000 in
theorem km_RX3_46 : Cond.methodLink RX3 46 yX3_gainBy ∈ zTbl := zmem 477 rfl rfl
theorem gm_RX3_46 : GoodIn zTbl (va_wsS RX3 46 yX3_gainBy wsX3_gainBy) := zgS km_RX3_46 ks_X3_gainBy kn_RX3 kc_X3_gainBy
set_option maxRecDepth 20000 in
theorem km_RX4_102 : Cond.methodLink RX4 102 yX4_secondWeight ∈ zTbl := zmem 480 rfl rfl
theorem gm_RX4_102 : GoodIn zTbl (va_wsS RX4 102 yX4_secondWeight wsX4_secondWeight) := zgS km_RX4_102 ks_X4_secondWeight kn_RX4 kc_X4_secondWeight
set_option maxRecDepth 20000 in
theorem km_RX4_105 : Cond.methodLink RX4 105 yX3_asked ∈ zTbl := zmem 483 rfl rfl
theorem gm_RX4_105 : GoodIn zTbl (wsV RX4 105 RX3 yX3_asked wsX3_asked) := zgV km_RX4_105 ki_X3_asked ke_X3_asked kn_RX3 kc_X3_asked
set_option maxRecDepth 20000 in
theorem km_RX4_109 : Cond.methodLink RX4 109 yX4_startSought ∈ zTbl := zmem 487 rfl rfl
theorem gm_RX4_109 : GoodIn zTbl (va_wsS RX4 109 yX4_startSought wsX4_startSought) := zgS km_RX4_109 ks_X4_startSought kn_RX4 kc_X4_startSought
set_option maxRecDepth 20000 in
theorem km_RX4_76 : Cond.methodLink RX4 76 yX4_addFacts ∈ zTbl := zmem 490 rfl rfl
theorem gm_RX4_76 : GoodIn zTbl (wsV RX4 76 RX4 yX4_addFacts wsX4_addFacts) := zgV km_RX4_76 ki_X4_addFacts ke_X4_addFacts kn_RX4 kc_X4_addFacts
set_option maxRecDepth 20000 in
theorem km_RX4_117 : Cond.methodLink RX4 117 yX1_clear ∈ zTbl := zmem 494 rfl rfl
theorem gm_RX4_117 : GoodIn zTbl (wsV RX4 117 RX1 yX1_clear wsX1_clear) := zgV km_RX4_117 ki_X1_clear ke_X1_clear kn_RX1 kc_X1_clear
set_option maxRecDepth 20000 in
theorem km_RX4_120 : Cond.methodLink RX4 120 yX4_isFact ∈ zTbl := zmem 498 rfl rfl
theorem gm_RX4_120 : GoodIn zTbl (wsV RX4 120 RX4 yX4_isFact wsX4_isFact) := zgV km_RX4_120 ki_X4_isFact ke_X4_isFact kn_RX4 kc_X4_isFact
set_option maxRecDepth 20000 in
theorem km_RX4_134 : Cond.methodLink RX4 134 yX3_facts ∈ zTbl := zmem 502 rfl rfl
theorem gm_RX4_134 : GoodIn zTbl (wsV RX4 134 RX3 yX3_facts wsX3_facts) := zgV km_RX4_134 ki_X3_facts ke_X3_facts kn_RX3 kc_X3_facts
set_option maxRecDepth 20000 in
theorem km_RX4_130 : Cond.methodLink RX4 130 yX1_add ∈ zTbl := zmem 509 rfl rfl
theorem gm_RX4_130 : GoodIn zTbl (wsV RX4 130 RX1 yX1_add wsX1_add) := zgV km_RX4_130 ki_X1_add ke_X1_add kn_RX1 kc_X1_add
set_option maxRecDepth 20000 in
theorem km_RX1_20 : Cond.methodLink RX1 20 yX1_reduce ∈ zTbl := zmem 513 rfl rfl
theorem gm_RX1_20 : GoodIn zTbl (wsV RX1 20 RX1 yX1_reduce wsX1_reduce) := zgV km_RX1_20 ki_X1_reduce ke_X1_reduce kn_RX1 kc_X1_reduce
set_option maxRecDepth 20000 in
theorem km_RX1_31 : Cond.methodLink RX1 31 yX1_eliminate ∈ zTbl := zmem 517 rfl rfl
theorem gm_RX1_31 : GoodIn zTbl (va_wsS RX1 31 yX1_eliminate wsX1_eliminate) := zgS km_RX1_31 ks_X1_eliminate kn_RX1 kc_X1_eliminate
set_option maxRecDepth 20000 in
theorem km_RX1_41 : Cond.methodLink RX1 41 yX1_gcd ∈ zTbl := zmem 520 rfl rfl
theorem gm_RX1_41 : GoodIn zTbl (va_wsS RX1 41 yX1_gcd wsX1_gcd) := zgS km_RX1_41 ks_X1_gcd kn_RX1 kc_X1_gcd
set_option maxRecDepth 20000 in
theorem km_RX1_24 : Cond.methodLink RX1 24 yX1_firstName ∈ zTbl := zmem 523 rfl rfl
theorem gm_RX1_24 : GoodIn zTbl (va_wsS RX1 24 yX1_firstName wsX1_firstName) := zgS km_RX1_24 ks_X1_firstName kn_RX1 kc_X1_firstName
set_option maxRecDepth 20000 in
theorem km_RX1_28 : Cond.methodLink RX1 28 yX1_negate ∈ zTbl := zmem 526 rfl rfl
theorem gm_RX1_28 : GoodIn zTbl (va_wsS RX1 28 yX1_negate wsX1_negate) := zgS km_RX1_28 ks_X1_negate kn_RX1 kc_X1_negate
set_option maxRecDepth 20000 in
theorem km_RX4_79 : Cond.methodLink RX4 79 yX4_settleAmounts ∈ zTbl := zmem 530 rfl rfl
theorem gm_RX4_79 : GoodIn zTbl (wsV RX4 79 RX4 yX4_settleAmounts wsX4_settleAmounts) := zgV km_RX4_79 ki_X4_settleAmounts ke_X4_settleAmounts kn_RX4 kc_X4_settleAmounts
set_option maxRecDepth 20000 in
theorem km_RX4_139 : Cond.methodLink RX4 139 yX1_reduce ∈ zTbl := zmem 535 rfl rfl
theorem gm_RX4_139 : GoodIn zTbl (wsV RX4 139 RX1 yX1_reduce wsX1_reduce) := zgV km_RX4_139 ki_X1_reduce ke_X1_reduce kn_RX1 kc_X1_reduce
set_option maxRecDepth 20000 in
theorem km_RX4_142 : Cond.methodLink RX4 142 yX1_firstName ∈ zTbl := zmem 536 rfl rfl
theorem gm_RX4_142 : GoodIn zTbl (va_wsS RX4 142 yX1_firstName wsX1_firstName) := zgS km_RX4_142 ks_X1_firstName kn_RX1 kc_X1_firstName
set_option maxRecDepth 20000 in
theorem km_RX4_82 : Cond.methodLink RX4 82 yX4_settleAnswer ∈ zTbl := zmem 537 rfl rfl
theorem gm_RX4_82 : GoodIn zTbl (wsV RX4 82 RX4 yX4_settleAnswer wsX4_settleAnswer) := zgV km_RX4_82 ki_X4_settleAnswer ke_X4_settleAnswer kn_RX4 kc_X4_settleAnswer
set_option maxRecDepth 20000 in
theorem km_RL_39 : Cond.methodLink RL 39 yX6_sentences ∈ zTbl := zmem 541 rfl rfl
theorem gm_RL_39 : GoodIn zTbl (wsV RL 39 RX6 yX6_sentences wsX6_sentences) := zgV km_RL_39 ki_X6_sentences ke_X6_sentences kn_RX6 kc_X6_sentences
set_option maxRecDepth 20000 in
theorem km_RX6_77 : Cond.methodLink RX6 77 yX3_size ∈ zTbl := zmem 545 rfl rfl
theorem gm_RX6_77 : GoodIn zTbl (wsV RX6 77 RX3 yX3_size wsX3_size) := zgV km_RX6_77 ki_X3_size ke_X3_size kn_RX3 kc_X3_size
set_option maxRecDepth 20000 in
theorem km_RL_52 : Cond.methodLink RL 52 yX6_question ∈ zTbl := zmem 546 rfl rfl
theorem gm_RL_52 : GoodIn zTbl (wsV RL 52 RX6 yX6_question wsX6_question) := zgV km_RL_52 ki_X6_question ke_X6_question kn_RX6 kc_X6_question
set_option maxRecDepth 20000 in
theorem km_RX6_88 : Cond.methodLink RX6 88 yX3_asked ∈ zTbl := zmem 550 rfl rfl
theorem gm_RX6_88 : GoodIn zTbl (wsV RX6 88 RX3 yX3_asked wsX3_asked) := zgV km_RX6_88 ki_X3_asked ke_X3_asked kn_RX3 kc_X3_asked
set_option maxRecDepth 20000 in
theorem km_RL_57 : Cond.methodLink RL 57 yX6_quarrel ∈ zTbl := zmem 551 rfl rfl
theorem gm_RL_57 : GoodIn zTbl (wsV RL 57 RX6 yX6_quarrel wsX6_quarrel) := zgV km_RL_57 ki_X6_quarrel ke_X6_quarrel kn_RX6 kc_X6_quarrel
set_option maxRecDepth 20000 in
theorem km_RX6_91 : Cond.methodLink RX6 91 yX4_quarrelAt ∈ zTbl := zmem 555 rfl rfl
theorem gm_RX6_91 : GoodIn zTbl (wsV RX6 91 RX4 yX4_quarrelAt wsX4_quarrelAt) := zgV km_RX6_91 ki_X4_quarrelAt ke_X4_quarrelAt kn_RX4 kc_X4_quarrelAt
set_option maxRecDepth 20000 in
theorem km_RL_61 : Cond.methodLink RL 61 yX6_answer ∈ zTbl := zmem 559 rfl rfl
theorem gm_RL_61 : GoodIn zTbl (wsV RL 61 RX6 yX6_answer wsX6_answer) := zgV km_RL_61 ki_X6_answer ke_X6_answer kn_RX6 kc_X6_answer
set_option maxRecDepth 20000 in
theorem km_RX6_94 : Cond.methodLink RX6 94 yX4_answerPart ∈ zTbl := zmem 563 rfl rfl
theorem gm_RX6_94 : GoodIn zTbl (wsV RX6 94 RX4 yX4_answerPart wsX4_answerPart) := zgV km_RX6_94 ki_X4_answerPart ke_X4_answerPart kn_RX4 kc_X4_answerPart
set_option maxRecDepth 20000 in
theorem km_RX4_146 : Cond.methodLink RX4 146 yX4_hasAnswer ∈ zTbl := zmem 567 rfl rfl
theorem gm_RX4_146 : GoodIn zTbl (wsV RX4 146 RX4 yX4_hasAnswer wsX4_hasAnswer) := zgV km_RX4_146 ki_X4_hasAnswer ke_X4_hasAnswer kn_RX4 kc_X4_hasAnswer
set_option maxRecDepth 20000 in
theorem km_RL_66 : Cond.methodLink RL 66 yX6_amount ∈ zTbl := zmem 572 rfl rfl
theorem gm_RL_66 : GoodIn zTbl (wsV RL 66 RX6 yX6_amount wsX6_amount) := zgV km_RL_66 ki_X6_amount ke_X6_amount kn_RX6 kc_X6_amount
set_option maxRecDepth 20000 in
theorem km_RX6_98 : Cond.methodLink RX6 98 yX4_amountPart ∈ zTbl := zmem 576 rfl rfl
theorem gm_RX6_98 : GoodIn zTbl (wsV RX6 98 RX4 yX4_amountPart wsX4_amountPart) := zgV km_RX6_98 ki_X4_amountPart ke_X4_amountPart kn_RX4 kc_X4_amountPart
set_option maxRecDepth 20000 in
theorem km_RX4_152 : Cond.methodLink RX4 152 yX3_stages ∈ zTbl := zmem 580 rfl rfl
theorem gm_RX4_152 : GoodIn zTbl (wsV RX4 152 RX3 yX3_stages wsX3_stages) := zgV km_RX4_152 ki_X3_stages ke_X3_stages kn_RX3 kc_X3_stages
set_option maxRecDepth 20000 in
theorem km_RX4_155 : Cond.methodLink RX4 155 yX4_topAt ∈ zTbl := zmem 584 rfl rfl
theorem gm_RX4_155 : GoodIn zTbl (wsV RX4 155 RX4 yX4_topAt wsX4_topAt) := zgV km_RX4_155 ki_X4_topAt ke_X4_topAt kn_RX4 kc_X4_topAt
set_option maxRecDepth 20000 in
theorem km_RL_71 : Cond.methodLink RL 71 yX6_idle ∈ zTbl := zmem 588 rfl rfl
theorem gm_RL_71 : GoodIn zTbl (wsV RL 71 RX6 yX6_idle wsX6_idle) := zgV km_RL_71 ki_X6_idle ke_X6_idle kn_RX6 kc_X6_idle
set_option maxRecDepth 20000 in
theorem km_RX6_102 : Cond.methodLink RX6 102 yX4_idleFacts ∈ zTbl := zmem 592 rfl rfl
theorem gm_RX6_102 : GoodIn zTbl (wsV RX6 102 RX4 yX4_idleFacts wsX4_idleFacts) := zgV km_RX6_102 ki_X4_idleFacts ke_X4_idleFacts kn_RX4 kc_X4_idleFacts
set_option maxRecDepth 20000 in
theorem km_RX4_170 : Cond.methodLink RX4 170 yX4_isSettledBy ∈ zTbl := zmem 596 rfl rfl
theorem gm_RX4_170 : GoodIn zTbl (wsV RX4 170 RX4 yX4_isSettledBy wsX4_isSettledBy) := zgV km_RX4_170 ki_X4_isSettledBy ke_X4_isSettledBy kn_RX4 kc_X4_isSettledBy
set_option maxRecDepth 20000 in
theorem km_RX4_176 : Cond.methodLink RX4 176 yX4_factsOf ∈ zTbl := zmem 600 rfl rfl
theorem gm_RX4_176 : GoodIn zTbl (wsV RX4 176 RX4 yX4_factsOf wsX4_factsOf) := zgV km_RX4_176 ki_X4_factsOf ke_X4_factsOf kn_RX4 kc_X4_factsOf
set_option maxRecDepth 20000 in
theorem km_RL_75 : Cond.methodLink RL 75 yX6_enough ∈ zTbl := zmem 604 rfl rfl
theorem gm_RL_75 : GoodIn zTbl (wsV RL 75 RX6 yX6_enough wsX6_enough) := zgV km_RL_75 ki_X6_enough ke_X6_enough kn_RX6 kc_X6_enough
set_option maxRecDepth 20000 in
theorem km_RX6_105 : Cond.methodLink RX6 105 yX4_fewestFacts ∈ zTbl := zmem 608 rfl rfl
theorem gm_RX6_105 : GoodIn zTbl (wsV RX6 105 RX4 yX4_fewestFacts wsX4_fewestFacts) := zgV km_RX6_105 ki_X4_fewestFacts ke_X4_fewestFacts kn_RX4 kc_X4_fewestFacts
set_option maxRecDepth 20000 in
theorem km_RX4_173 : Cond.methodLink RX4 173 yX4_idleFacts ∈ zTbl := zmem 612 rfl rfl
theorem gm_RX4_173 : GoodIn zTbl (wsV RX4 173 RX4 yX4_idleFacts wsX4_idleFacts) := zgV km_RX4_173 ki_X4_idleFacts ke_X4_idleFacts kn_RX4 kc_X4_idleFacts
set_option maxRecDepth 20000 in
theorem km_RX4_179 : Cond.methodLink RX4 179 yX4_seekFewest ∈ zTbl := zmem 613 rfl rfl
theorem gm_RX4_179 : GoodIn zTbl (wsV RX4 179 RX4 yX4_seekFewest wsX4_seekFewest) := zgV km_RX4_179 ki_X4_seekFewest ke_X4_seekFewest kn_RX4 kc_X4_seekFewest
set_option maxRecDepth 20000 in
theorem km_RX4_182 : Cond.methodLink RX4 182 yJ6_bitCount_0f7a4 ∈ zTbl := zmem 617 rfl rfl
theorem gm_RX4_182 : GoodIn zTbl (va_wsS RX4 182 yJ6_bitCount_0f7a4 wsJ6_bitCount_0f7a4) := zgS km_RX4_182 ks_J6_bitCount_0f7a4 kn_RJ6 kc_J6_bitCount_0f7a4
set_option maxRecDepth 20000 in
theorem km_RL_79 : Cond.methodLink RL 79 yX6_lacking ∈ zTbl := zmem 623 rfl rfl
theorem gm_RL_79 : GoodIn zTbl (wsV RL 79 RX6 yX6_lacking wsX6_lacking) := zgV km_RL_79 ki_X6_lacking ke_X6_lacking kn_RX6 kc_X6_lacking
set_option maxRecDepth 20000 in
theorem km_RX6_108 : Cond.methodLink RX6 108 yX4_lackingName ∈ zTbl := zmem 627 rfl rfl
theorem gm_RX6_108 : GoodIn zTbl (wsV RX6 108 RX4 yX4_lackingName wsX4_lackingName) := zgV km_RX6_108 ki_X4_lackingName ke_X4_lackingName kn_RX4 kc_X4_lackingName
set_option maxRecDepth 20000 in
theorem km_RX4_166 : Cond.methodLink RX4 166 yX4_areAlongside ∈ zTbl := zmem 631 rfl rfl
theorem gm_RX4_166 : GoodIn zTbl (va_wsS RX4 166 yX4_areAlongside wsX4_areAlongside) := zgS km_RX4_166 ks_X4_areAlongside kn_RX4 kc_X4_areAlongside
set_option maxRecDepth 20000 in
theorem km_RL_83 : Cond.methodLink RL 83 yX6_strange ∈ zTbl := zmem 634 rfl rfl
theorem gm_RL_83 : GoodIn zTbl (wsV RL 83 RX6 yX6_strange wsX6_strange) := zgV km_RL_83 ki_X6_strange ke_X6_strange kn_RX6 kc_X6_strange
set_option maxRecDepth 20000 in
theorem km_RX6_111 : Cond.methodLink RX6 111 yX4_strangePart ∈ zTbl := zmem 638 rfl rfl
theorem gm_RX6_111 : GoodIn zTbl (wsV RX6 111 RX4 yX4_strangePart wsX4_strangePart) := zgV km_RX6_111 ki_X4_strangePart ke_X4_strangePart kn_RX4 kc_X4_strangePart
set_option maxRecDepth 20000 in
theorem km_RX4_158 : Cond.methodLink RX4 158 yX4_isStrange ∈ zTbl := zmem 642 rfl rfl
theorem gm_RX4_158 : GoodIn zTbl (wsV RX4 158 RX4 yX4_isStrange wsX4_isStrange) := zgV km_RX4_158 ki_X4_isStrange ke_X4_isStrange kn_RX4 kc_X4_isStrange
set_option maxRecDepth 20000 in
theorem km_RX4_162 : Cond.methodLink RX4 162 yX4_choose ∈ zTbl := zmem 646 rfl rfl
theorem gm_RX4_162 : GoodIn zTbl (va_wsS RX4 162 yX4_choose wsX4_choose) := zgS km_RX4_162 ks_X4_choose kn_RX4 kc_X4_choose
set_option maxRecDepth 20000 in
theorem km_RL_87 : Cond.methodLink RL 87 yX6_put ∈ zTbl := zmem 649 rfl rfl
theorem gm_RL_87 : GoodIn zTbl (wsV RL 87 RX6 yX6_put wsX6_put) := zgV km_RL_87 ki_X6_put ke_X6_put kn_RX6 kc_X6_put
set_option maxRecDepth 20000 in
theorem km_RX6_114 : Cond.methodLink RX6 114 yX3_allows ∈ zTbl := zmem 653 rfl rfl
theorem gm_RX6_114 : GoodIn zTbl (wsV RX6 114 RX3 yX3_allows wsX3_allows) := zgV km_RX6_114 ki_X3_allows ke_X3_allows kn_RX3 kc_X3_allows
set_option maxRecDepth 20000 in
theorem km_RX3_42 : Cond.methodLink RX3 42 yX3_part ∈ zTbl := zmem 657 rfl rfl
theorem gm_RX3_42 : GoodIn zTbl (wsV RX3 42 RX3 yX3_part wsX3_part) := zgV km_RX3_42 ki_X3_part ke_X3_part kn_RX3 kc_X3_part
set_option maxRecDepth 20000 in
theorem km_RX6_84 : Cond.methodLink RX6 84 yX3_part ∈ zTbl := zmem 658 rfl rfl
theorem gm_RX6_84 : GoodIn zTbl (wsV RX6 84 RX3 yX3_part wsX3_part) := zgV km_RX6_84 ki_X3_part ke_X3_part kn_RX3 kc_X3_part
set_option maxRecDepth 20000 in
theorem km_RX6_118 : Cond.methodLink RX6 118 yX0_keep ∈ zTbl := zmem 659 rfl rfl
theorem gm_RX6_118 : GoodIn zTbl (wsV RX6 118 RX0 yX0_keep wsX0_keep) := zgV km_RX6_118 ki_X0_keep ke_X0_keep kn_RX0 kc_X0_keep
set_option maxRecDepth 20000 in
theorem km_RX0_22 : Cond.methodLink RX0 22 yX0_dropFirst ∈ zTbl := zmem 663 rfl rfl
theorem gm_RX0_22 : GoodIn zTbl (wsV RX0 22 RX0 yX0_dropFirst wsX0_dropFirst) := zgV km_RX0_22 ki_X0_dropFirst ke_X0_dropFirst kn_RX0 kc_X0_dropFirst
set_option maxRecDepth 20000 in
theorem km_RX6_122 : Cond.methodLink RX6 122 yX3_setNumber ∈ zTbl := zmem 667 rfl rfl
theorem gm_RX6_122 : GoodIn zTbl (wsV RX6 122 RX3 yX3_setNumber wsX3_setNumber) := zgV km_RX6_122 ki_X3_setNumber ke_X3_setNumber kn_RX3 kc_X3_setNumber
set_option maxRecDepth 20000 in
theorem km_RX6_125 : Cond.methodLink RX6 125 yX4_solve ∈ zTbl := zmem 671 rfl rfl
theorem gm_RX6_125 : GoodIn zTbl (wsV RX6 125 RX4 yX4_solve wsX4_solve) := zgV km_RX6_125 ki_X4_solve ke_X4_solve kn_RX4 kc_X4_solve
set_option maxRecDepth 20000 in
theorem km_RL_92 : Cond.methodLink RL 92 yX6_undo ∈ zTbl := zmem 672 rfl rfl
theorem gm_RL_92 : GoodIn zTbl (wsV RL 92 RX6 yX6_undo wsX6_undo) := zgV km_RL_92 ki_X6_undo ke_X6_undo kn_RX6 kc_X6_undo
set_option maxRecDepth 20000 in
theorem km_RX6_128 : Cond.methodLink RX6 128 yX0_size ∈ zTbl := zmem 676 rfl rfl
theorem gm_RX6_128 : GoodIn zTbl (wsV RX6 128 RX0 yX0_size wsX0_size) := zgV km_RX6_128 ki_X0_size ke_X0_size kn_RX0 kc_X0_size
set_option maxRecDepth 20000 in
theorem km_RX6_129 : Cond.methodLink RX6 129 yX0_lastSentence ∈ zTbl := zmem 680 rfl rfl
theorem gm_RX6_129 : GoodIn zTbl (wsV RX6 129 RX0 yX0_lastSentence wsX0_lastSentence) := zgV km_RX6_129 ki_X0_lastSentence ke_X0_lastSentence kn_RX0 kc_X0_lastSentence
set_option maxRecDepth 20000 in
theorem km_RX6_132 : Cond.methodLink RX6 132 yX0_lastNumber ∈ zTbl := zmem 684 rfl rfl
theorem gm_RX6_132 : GoodIn zTbl (wsV RX6 132 RX0 yX0_lastNumber wsX0_lastNumber) := zgV km_RX6_132 ki_X0_lastNumber ke_X0_lastNumber kn_RX0 kc_X0_lastNumber
set_option maxRecDepth 20000 in
theorem km_RX6_135 : Cond.methodLink RX6 135 yX0_dropLast ∈ zTbl := zmem 688 rfl rfl
theorem gm_RX6_135 : GoodIn zTbl (wsV RX6 135 RX0 yX0_dropLast wsX0_dropLast) := zgV km_RX6_135 ki_X0_dropLast ke_X0_dropLast kn_RX0 kc_X0_dropLast
set_option maxRecDepth 20000 in
theorem km_RL_96 : Cond.methodLink RL 96 yX6_count ∈ zTbl := zmem 692 rfl rfl
theorem gm_RL_96 : GoodIn zTbl (wsV RL 96 RX6 yX6_count wsX6_count) := zgV km_RL_96 ki_X6_count ke_X6_count kn_RX6 kc_X6_count
set_option maxRecDepth 20000 in
theorem km_RX6_138 : Cond.methodLink RX6 138 yX3_facts ∈ zTbl := zmem 696 rfl rfl
theorem gm_RX6_138 : GoodIn zTbl (wsV RX6 138 RX3 yX3_facts wsX3_facts) := zgV km_RX6_138 ki_X3_facts ke_X3_facts kn_RX3 kc_X3_facts
set_option maxRecDepth 20000 in
theorem km_RX6_141 : Cond.methodLink RX6 141 yJ6_bitCount_0f7a4 ∈ zTbl := zmem 697 rfl rfl
theorem gm_RX6_141 : GoodIn zTbl (va_wsS RX6 141 yJ6_bitCount_0f7a4 wsJ6_bitCount_0f7a4) := zgS km_RX6_141 ks_J6_bitCount_0f7a4 kn_RJ6 kc_J6_bitCount_0f7a4
set_option maxRecDepth 20000 in
theorem km_RX6_146 : Cond.methodLink RX6 146 yX3_stages ∈ zTbl := zmem 698 rfl rfl
theorem gm_RX6_146 : GoodIn zTbl (wsV RX6 146 RX3 yX3_stages wsX3_stages) := zgV km_RX6_146 ki_X3_stages ke_X3_stages kn_RX3 kc_X3_stages
set_option maxRecDepth 20000 in
theorem km_RX6_149 : Cond.methodLink RX6 149 yX4_settledAtFirst ∈ zTbl := zmem 699 rfl rfl
theorem gm_RX6_149 : GoodIn zTbl (wsV RX6 149 RX4 yX4_settledAtFirst wsX4_settledAtFirst) := zgV km_RX6_149 ki_X4_settledAtFirst ke_X4_settledAtFirst kn_RX4 kc_X4_settledAtFirst
set_option maxRecDepth 20000 in
theorem km_RL_7 : Cond.methodLink RL 7 yX6_sentence ∈ zTbl := zmem 707 rfl rfl
theorem gm_RL_7 : GoodIn zTbl (wsV RL 7 RX6 yX6_sentence wsX6_sentence) := zgV km_RL_7 ki_X6_sentence ke_X6_sentence kn_RX6 kc_X6_sentence
set_option maxRecDepth 20000 in
theorem km_RX6_78 : Cond.methodLink RX6 78 yX3_has ∈ zTbl := zmem 711 rfl rfl
theorem gm_RX6_78 : GoodIn zTbl (wsV RX6 78 RX3 yX3_has wsX3_has) := zgV km_RX6_78 ki_X3_has ke_X3_has kn_RX3 kc_X3_has
set_option maxRecDepth 20000 in
theorem km_RL_18 : Cond.methodLink RL 18 yX7_init ∈ zTbl := zmem 775 rfl rfl
theorem gm_RL_18 : GoodIn zTbl wsX7_init := zgI kc_X7_init
set_option maxRecDepth 20000 in
theorem km_RL_49 : Cond.methodLink RL 49 yX7_thrown ∈ zTbl := zmem 861 rfl rfl
theorem gm_RL_49 : GoodIn zTbl (wsV RL 49 RX7 yX7_thrown wsX7_thrown) := zgV km_RL_49 ki_X7_thrown ke_X7_thrown kn_RX7 kc_X7_thrown
set_option maxRecDepth 20000 in
theorem km_RL_23 : Cond.methodLink RL 23 yX7_feed ∈ zTbl := zmem 865 rfl rfl
theorem gm_RL_23 : GoodIn zTbl (wsV RL 23 RX7 yX7_feed wsX7_feed) := zgV km_RL_23 ki_X7_feed ke_X7_feed kn_RX7 kc_X7_feed
set_option maxRecDepth 20000 in
theorem km_RX7_49 : Cond.methodLink RX7 49 yX7_bytesIn ∈ zTbl := zmem 869 rfl rfl
theorem gm_RX7_49 : GoodIn zTbl (va_wsS RX7 49 yX7_bytesIn wsX7_bytesIn) := zgS km_RX7_49 ks_X7_bytesIn kn_RX7 kc_X7_bytesIn
set_option maxRecDepth 20000 in
theorem km_RX7_53 : Cond.methodLink RX7 53 yX7_put4 ∈ zTbl := zmem 872 rfl rfl
theorem gm_RX7_53 : GoodIn zTbl (wsV RX7 53 RX7 yX7_put4 wsX7_put4) := zgV km_RX7_53 ki_X7_put4 ke_X7_put4 kn_RX7 kc_X7_put4
set_option maxRecDepth 20000 in
theorem km_RL_28 : Cond.methodLink RL 28 yX7_end ∈ zTbl := zmem 876 rfl rfl
theorem gm_RL_28 : GoodIn zTbl (wsV RL 28 RX7 yX7_end wsX7_end) := zgV km_RL_28 ki_X7_end ke_X7_end kn_RX7 kc_X7_end
set_option maxRecDepth 20000 in
theorem km_RL_33 : Cond.methodLink RL 33 yX7_fault ∈ zTbl := zmem 880 rfl rfl
theorem gm_RL_33 : GoodIn zTbl (wsV RL 33 RX7 yX7_fault wsX7_fault) := zgV km_RL_33 ki_X7_fault ke_X7_fault kn_RX7 kc_X7_fault
set_option maxRecDepth 20000 in
theorem km_RX7_202 : Cond.methodLink RX7 202 yX7_reads ∈ zTbl := zmem 884 rfl rfl
theorem gm_RX7_202 : GoodIn zTbl (wsV RX7 202 RX7 yX7_reads wsX7_reads) := zgV km_RX7_202 ki_X7_reads ke_X7_reads kn_RX7 kc_X7_reads
set_option maxRecDepth 20000 in
theorem km_RX7_83 : Cond.methodLink RX7 83 yX7_next ∈ zTbl := zmem 888 rfl rfl
theorem gm_RX7_83 : GoodIn zTbl (wsV RX7 83 RX7 yX7_next wsX7_next) := zgV km_RX7_83 ki_X7_next ke_X7_next kn_RX7 kc_X7_next
set_option maxRecDepth 20000 in
theorem km_RX7_63 : Cond.methodLink RX7 63 yX7_isSmall ∈ zTbl := zmem 892 rfl rfl
theorem gm_RX7_63 : GoodIn zTbl (va_wsS RX7 63 yX7_isSmall wsX7_isSmall) := zgS km_RX7_63 ks_X7_isSmall kn_RX7 kc_X7_isSmall
set_option maxRecDepth 20000 in
theorem km_RX7_67 : Cond.methodLink RX7 67 yX7_isDigit ∈ zTbl := zmem 895 rfl rfl
theorem gm_RX7_67 : GoodIn zTbl (va_wsS RX7 67 yX7_isDigit wsX7_isDigit) := zgS km_RX7_67 ks_X7_isDigit kn_RX7 kc_X7_isDigit
set_option maxRecDepth 20000 in
theorem km_RX7_79 : Cond.methodLink RX7 79 yX7_is ∈ zTbl := zmem 899 rfl rfl
theorem gm_RX7_79 : GoodIn zTbl (wsV RX7 79 RX7 yX7_is wsX7_is) := zgV km_RX7_79 ki_X7_is ke_X7_is kn_RX7 kc_X7_is
set_option maxRecDepth 20000 in
theorem km_RX7_70 : Cond.methodLink RX7 70 yJ0_length_8abf5 ∈ zTbl := zmem 903 rfl rfl
theorem gm_RX7_70 : GoodIn zTbl (wsV RX7 70 RJ0 yJ0_length_8abf5 wsJ0_length_8abf5) := zgV km_RX7_70 ki_J0_length_8abf5 ke_J0_length_8abf5 kn_RJ0 kc_J0_length_8abf5
set_option maxRecDepth 20000 in
theorem km_RX7_75 : Cond.methodLink RX7 75 yJ0_charAt_5068e ∈ zTbl := zmem 904 rfl rfl
theorem gm_RX7_75 : GoodIn zTbl (wsV RX7 75 RJ0 yJ0_charAt_5068e wsJ0_charAt_5068e) := zgV km_RX7_75 ki_J0_charAt_5068e ke_J0_charAt_5068e kn_RJ0 kc_J0_charAt_5068e
set_option maxRecDepth 20000 in
theorem km_RX7_114 : Cond.methodLink RX7 114 yX7_name ∈ zTbl := zmem 905 rfl rfl
theorem gm_RX7_114 : GoodIn zTbl (wsV RX7 114 RX7 yX7_name wsX7_name) := zgV km_RX7_114 ki_X7_name ke_X7_name kn_RX7 kc_X7_name
set_option maxRecDepth 20000 in
theorem km_RX7_94 : Cond.methodLink RX7 94 yX7_one ∈ zTbl := zmem 913 rfl rfl
theorem gm_RX7_94 : GoodIn zTbl (va_wsS RX7 94 yX7_one wsX7_one) := zgS km_RX7_94 ks_X7_one kn_RX7 kc_X7_one
set_option maxRecDepth 20000 in
theorem km_RX7_196 : Cond.methodLink RX7 196 yX7_sentence ∈ zTbl := zmem 920 rfl rfl
theorem gm_RX7_196 : GoodIn zTbl (wsV RX7 196 RX7 yX7_sentence wsX7_sentence) := zgV km_RX7_196 ki_X7_sentence ke_X7_sentence kn_RX7 kc_X7_sentence
set_option maxRecDepth 20000 in
theorem km_RX7_135 : Cond.methodLink RX7 135 yX7_takesName ∈ zTbl := zmem 924 rfl rfl
theorem gm_RX7_135 : GoodIn zTbl (wsV RX7 135 RX7 yX7_takesName wsX7_takesName) := zgV km_RX7_135 ki_X7_takesName ke_X7_takesName kn_RX7 kc_X7_takesName
set_option maxRecDepth 20000 in
theorem km_RX7_141 : Cond.methodLink RX7 141 yX7_takes ∈ zTbl := zmem 929 rfl rfl
theorem gm_RX7_141 : GoodIn zTbl (wsV RX7 141 RX7 yX7_takes wsX7_takes) := zgV km_RX7_141 ki_X7_takes ke_X7_takes kn_RX7 kc_X7_takes
set_option maxRecDepth 20000 in
theorem km_RX7_149 : Cond.methodLink RX7 149 yX7_takesNumber ∈ zTbl := zmem 934 rfl rfl
theorem gm_RX7_149 : GoodIn zTbl (wsV RX7 149 RX7 yX7_takesNumber wsX7_takesNumber) := zgV km_RX7_149 ki_X7_takesNumber ke_X7_takesNumber kn_RX7 kc_X7_takesNumber
set_option maxRecDepth 20000 in
theorem km_RX7_129 : Cond.methodLink RX7 129 yX7_number ∈ zTbl := zmem 938 rfl rfl
theorem gm_RX7_129 : GoodIn zTbl (wsV RX7 129 RX7 yX7_number wsX7_number) := zgV km_RX7_129 ki_X7_number ke_X7_number kn_RX7 kc_X7_number
set_option maxRecDepth 20000 in
theorem km_RX7_153 : Cond.methodLink RX7 153 yX7_takesUnit ∈ zTbl := zmem 942 rfl rfl
theorem gm_RX7_153 : GoodIn zTbl (wsV RX7 153 RX7 yX7_takesUnit wsX7_takesUnit) := zgV km_RX7_153 ki_X7_takesUnit ke_X7_takesUnit kn_RX7 kc_X7_takesUnit
set_option maxRecDepth 20000 in
theorem km_RX7_123 : Cond.methodLink RX7 123 yX7_unit ∈ zTbl := zmem 946 rfl rfl
theorem gm_RX7_123 : GoodIn zTbl (wsV RX7 123 RX7 yX7_unit wsX7_unit) := zgV km_RX7_123 ki_X7_unit ke_X7_unit kn_RX7 kc_X7_unit
set_option maxRecDepth 20000 in
theorem km_RX7_176 : Cond.methodLink RX7 176 yX7_isIn ∈ zTbl := zmem 964 rfl rfl
theorem gm_RX7_176 : GoodIn zTbl (va_wsS RX7 176 yX7_isIn wsX7_isIn) := zgS km_RX7_176 ks_X7_isIn kn_RX7 kc_X7_isIn
set_option maxRecDepth 20000 in
theorem km_RX7_199 : Cond.methodLink RX7 199 yX7_asks ∈ zTbl := zmem 969 rfl rfl
theorem gm_RX7_199 : GoodIn zTbl (wsV RX7 199 RX7 yX7_asks wsX7_asks) := zgV km_RX7_199 ki_X7_asks ke_X7_asks kn_RX7 kc_X7_asks
set_option maxRecDepth 20000 in
theorem km_RL_38 : Cond.methodLink RL 38 yX7_tale ∈ zTbl := zmem 975 rfl rfl
theorem gm_RL_38 : GoodIn zTbl (wsV RL 38 RX7 yX7_tale wsX7_tale) := zgV km_RL_38 ki_X7_tale ke_X7_tale kn_RX7 kc_X7_tale
set_option maxRecDepth 20000 in
theorem km_RL_42 : Cond.methodLink RL 42 yX7_sentences ∈ zTbl := zmem 979 rfl rfl
theorem gm_RL_42 : GoodIn zTbl (wsV RL 42 RX7 yX7_sentences wsX7_sentences) := zgV km_RL_42 ki_X7_sentences ke_X7_sentences kn_RX7 kc_X7_sentences
set_option maxRecDepth 20000 in
theorem km_RL_48 : Cond.methodLink RL 48 yX7_sentence_ ∈ zTbl := zmem 983 rfl rfl
theorem gm_RL_48 : GoodIn zTbl (wsV RL 48 RX7 yX7_sentence_ wsX7_sentence_) := zgV km_RL_48 ki_X7_sentence_ ke_X7_sentence_ kn_RX7 kc_X7_sentence_
set_option maxRecDepth 20000 in
theorem km_RX7_214 : Cond.methodLink RX7 214 yX7_of ∈ zTbl := zmem 987 rfl rfl
theorem gm_RX7_214 : GoodIn zTbl (wsV RX7 214 RX7 yX7_of wsX7_of) := zgV km_RX7_214 ki_X7_of ke_X7_of kn_RX7 kc_X7_of
set_option maxRecDepth 20000 in
theorem km_RL_56 : Cond.methodLink RL 56 yX7_question ∈ zTbl := zmem 991 rfl rfl
theorem gm_RL_56 : GoodIn zTbl (wsV RL 56 RX7 yX7_question wsX7_question) := zgV km_RL_56 ki_X7_question ke_X7_question kn_RX7 kc_X7_question
set_option maxRecDepth 20000 in
theorem km_RL_60 : Cond.methodLink RL 60 yX7_quarrel ∈ zTbl := zmem 995 rfl rfl
theorem gm_RL_60 : GoodIn zTbl (wsV RL 60 RX7 yX7_quarrel wsX7_quarrel) := zgV km_RL_60 ki_X7_quarrel ke_X7_quarrel kn_RX7 kc_X7_quarrel
set_option maxRecDepth 20000 in
theorem km_RX7_255 : Cond.methodLink RX7 255 yX7_quarrelAt ∈ zTbl := zmem 999 rfl rfl
theorem gm_RX7_255 : GoodIn zTbl (wsV RX7 255 RX7 yX7_quarrelAt wsX7_quarrelAt) := zgV km_RX7_255 ki_X7_quarrelAt ke_X7_quarrelAt kn_RX7 kc_X7_quarrelAt
set_option maxRecDepth 20000 in
theorem km_RX7_235 : Cond.methodLink RX7 235 yX7_isFact ∈ zTbl := zmem 1003 rfl rfl
theorem gm_RX7_235 : GoodIn zTbl (wsV RX7 235 RX7 yX7_isFact wsX7_isFact) := zgV km_RX7_235 ki_X7_isFact ke_X7_isFact kn_RX7 kc_X7_isFact
set_option maxRecDepth 20000 in
theorem km_RX7_251 : Cond.methodLink RX7 251 yX7_gather ∈ zTbl := zmem 1007 rfl rfl
theorem gm_RX7_251 : GoodIn zTbl (wsV RX7 251 RX7 yX7_gather wsX7_gather) := zgV km_RX7_251 ki_X7_gather ke_X7_gather kn_RX7 kc_X7_gather
set_option maxRecDepth 20000 in
theorem km_RX7_238 : Cond.methodLink RX7 238 yX7_law ∈ zTbl := zmem 1011 rfl rfl
theorem gm_RX7_238 : GoodIn zTbl (wsV RX7 238 RX7 yX7_law wsX7_law) := zgV km_RX7_238 ki_X7_law ke_X7_law kn_RX7 kc_X7_law
set_option maxRecDepth 20000 in
theorem km_RX7_223 : Cond.methodLink RX7 223 yX7_more ∈ zTbl := zmem 1015 rfl rfl
theorem gm_RX7_223 : GoodIn zTbl (wsV RX7 223 RX7 yX7_more wsX7_more) := zgV km_RX7_223 ki_X7_more ke_X7_more kn_RX7 kc_X7_more
set_option maxRecDepth 20000 in
theorem km_RX7_241 : Cond.methodLink RX7 241 yX7_adds ∈ zTbl := zmem 1020 rfl rfl
theorem gm_RX7_241 : GoodIn zTbl (wsV RX7 241 RX7 yX7_adds wsX7_adds) := zgV km_RX7_241 ki_X7_adds ke_X7_adds kn_RX7 kc_X7_adds
set_option maxRecDepth 20000 in
theorem km_RX7_231 : Cond.methodLink RX7 231 yX7_common ∈ zTbl := zmem 1024 rfl rfl
theorem gm_RX7_231 : GoodIn zTbl (va_wsS RX7 231 yX7_common wsX7_common) := zgS km_RX7_231 ks_X7_common kn_RX7 kc_X7_common
set_option maxRecDepth 20000 in
theorem km_RX7_217 : Cond.methodLink RX7 217 yJ9_abs_067f4 ∈ zTbl := zmem 1027 rfl rfl
theorem gm_RX7_217 : GoodIn zTbl (va_wsS RX7 217 yJ9_abs_067f4 wsJ9_abs_067f4) := zgS km_RX7_217 ks_J9_abs_067f4 kn_RJ9 kc_J9_abs_067f4
set_option maxRecDepth 20000 in
theorem km_RL_65 : Cond.methodLink RL 65 yX7_answer ∈ zTbl := zmem 1030 rfl rfl
theorem gm_RL_65 : GoodIn zTbl (wsV RL 65 RX7 yX7_answer wsX7_answer) := zgV km_RL_65 ki_X7_answer ke_X7_answer kn_RX7 kc_X7_answer
set_option maxRecDepth 20000 in
theorem km_RX7_267 : Cond.methodLink RX7 267 yX7_hasAnswer ∈ zTbl := zmem 1034 rfl rfl
theorem gm_RX7_267 : GoodIn zTbl (wsV RX7 267 RX7 yX7_hasAnswer wsX7_hasAnswer) := zgV km_RX7_267 ki_X7_hasAnswer ke_X7_hasAnswer kn_RX7 kc_X7_hasAnswer
set_option maxRecDepth 20000 in
theorem km_RX7_261 : Cond.methodLink RX7 261 yX7_all ∈ zTbl := zmem 1038 rfl rfl
theorem gm_RX7_261 : GoodIn zTbl (wsV RX7 261 RX7 yX7_all wsX7_all) := zgV km_RX7_261 ki_X7_all ke_X7_all kn_RX7 kc_X7_all
set_option maxRecDepth 20000 in
theorem km_RX7_264 : Cond.methodLink RX7 264 yX7_answersBy ∈ zTbl := zmem 1042 rfl rfl
theorem gm_RX7_264 : GoodIn zTbl (wsV RX7 264 RX7 yX7_answersBy wsX7_answersBy) := zgV km_RX7_264 ki_X7_answersBy ke_X7_answersBy kn_RX7 kc_X7_answersBy
set_option maxRecDepth 20000 in
theorem km_RX7_258 : Cond.methodLink RX7 258 yX7_settles ∈ zTbl := zmem 1046 rfl rfl
theorem gm_RX7_258 : GoodIn zTbl (wsV RX7 258 RX7 yX7_settles wsX7_settles) := zgV km_RX7_258 ki_X7_settles ke_X7_settles kn_RX7 kc_X7_settles
set_option maxRecDepth 20000 in
theorem km_RX7_272 : Cond.methodLink RX7 272 yX7_part ∈ zTbl := zmem 1051 rfl rfl
theorem gm_RX7_272 : GoodIn zTbl (wsV RX7 272 RX7 yX7_part wsX7_part) := zgV km_RX7_272 ki_X7_part ke_X7_part kn_RX7 kc_X7_part
set_option maxRecDepth 20000 in
theorem km_RL_70 : Cond.methodLink RL 70 yX7_amount ∈ zTbl := zmem 1055 rfl rfl
theorem gm_RL_70 : GoodIn zTbl (wsV RL 70 RX7 yX7_amount wsX7_amount) := zgV km_RL_70 ki_X7_amount ke_X7_amount kn_RX7 kc_X7_amount
set_option maxRecDepth 20000 in
theorem km_RX7_276 : Cond.methodLink RX7 276 yX7_stages ∈ zTbl := zmem 1059 rfl rfl
theorem gm_RX7_276 : GoodIn zTbl (wsV RX7 276 RX7 yX7_stages wsX7_stages) := zgV km_RX7_276 ki_X7_stages ke_X7_stages kn_RX7 kc_X7_stages
set_option maxRecDepth 20000 in
theorem km_RX7_279 : Cond.methodLink RX7 279 yX7_amounts ∈ zTbl := zmem 1063 rfl rfl
theorem gm_RX7_279 : GoodIn zTbl (wsV RX7 279 RX7 yX7_amounts wsX7_amounts) := zgV km_RX7_279 ki_X7_amounts ke_X7_amounts kn_RX7 kc_X7_amounts
set_option maxRecDepth 20000 in
theorem km_RL_74 : Cond.methodLink RL 74 yX7_idle ∈ zTbl := zmem 1067 rfl rfl
theorem gm_RL_74 : GoodIn zTbl (wsV RL 74 RX7 yX7_idle wsX7_idle) := zgV km_RL_74 ki_X7_idle ke_X7_idle kn_RX7 kc_X7_idle
set_option maxRecDepth 20000 in
theorem km_RL_78 : Cond.methodLink RL 78 yX7_enough ∈ zTbl := zmem 1071 rfl rfl
theorem gm_RL_78 : GoodIn zTbl (wsV RL 78 RX7 yX7_enough wsX7_enough) := zgV km_RL_78 ki_X7_enough ke_X7_enough kn_RX7 kc_X7_enough
set_option maxRecDepth 20000 in
theorem km_RX7_282 : Cond.methodLink RX7 282 yX7_facts ∈ zTbl := zmem 1075 rfl rfl
theorem gm_RX7_282 : GoodIn zTbl (wsV RX7 282 RX7 yX7_facts wsX7_facts) := zgV km_RX7_282 ki_X7_facts ke_X7_facts kn_RX7 kc_X7_facts
set_option maxRecDepth 20000 in
theorem km_RX7_285 : Cond.methodLink RX7 285 yJ6_bitCount_0f7a4 ∈ zTbl := zmem 1079 rfl rfl
theorem gm_RX7_285 : GoodIn zTbl (va_wsS RX7 285 yJ6_bitCount_0f7a4 wsJ6_bitCount_0f7a4) := zgS km_RX7_285 ks_J6_bitCount_0f7a4 kn_RJ6 kc_J6_bitCount_0f7a4
set_option maxRecDepth 20000 in
theorem km_RL_82 : Cond.methodLink RL 82 yX7_lacking ∈ zTbl := zmem 1080 rfl rfl
theorem gm_RL_82 : GoodIn zTbl (wsV RL 82 RX7 yX7_lacking wsX7_lacking) := zgV km_RL_82 ki_X7_lacking ke_X7_lacking kn_RX7 kc_X7_lacking
set_option maxRecDepth 20000 in
theorem km_RL_86 : Cond.methodLink RL 86 yX7_strange ∈ zTbl := zmem 1084 rfl rfl
theorem gm_RL_86 : GoodIn zTbl (wsV RL 86 RX7 yX7_strange wsX7_strange) := zgV km_RL_86 ki_X7_strange ke_X7_strange kn_RX7 kc_X7_strange
set_option maxRecDepth 20000 in
theorem km_RL_91 : Cond.methodLink RL 91 yX7_put ∈ zTbl := zmem 1088 rfl rfl
theorem gm_RL_91 : GoodIn zTbl (wsV RL 91 RX7 yX7_put wsX7_put) := zgV km_RL_91 ki_X7_put ke_X7_put kn_RX7 kc_X7_put
set_option maxRecDepth 20000 in
theorem km_RL_95 : Cond.methodLink RL 95 yX7_undo ∈ zTbl := zmem 1092 rfl rfl
theorem gm_RL_95 : GoodIn zTbl (wsV RL 95 RX7 yX7_undo wsX7_undo) := zgV km_RL_95 ki_X7_undo ke_X7_undo kn_RX7 kc_X7_undo
set_option maxRecDepth 20000 in
theorem km_RL_99 : Cond.methodLink RL 99 yX7_count ∈ zTbl := zmem 1096 rfl rfl
theorem gm_RL_99 : GoodIn zTbl (wsV RL 99 RX7 yX7_count wsX7_count) := zgV km_RL_99 ki_X7_count ke_X7_count kn_RX7 kc_X7_count
