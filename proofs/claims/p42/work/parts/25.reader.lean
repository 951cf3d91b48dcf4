theorem dJ0_coder_7d493_0 : decode cJ0_coder_7d493 0 = .ok (.getstatic 38, 3) := by decide +kernel
theorem mw_199 : Cond.fieldLink RJ0 38 "java/lang/String" "COMPACT_STRINGS" "Z" ∈ wsL_law := List.mem_of_getElem? (i := 199) (by decide +kernel)
theorem dJ0_coder_7d493_3 : decode cJ0_coder_7d493 3 = .ok (.ifCond .eq 10, 3) := by decide +kernel
theorem dJ0_coder_7d493_6 : decode cJ0_coder_7d493 6 = .ok (.aload_n 0, 1) := by decide +kernel
theorem dJ0_coder_7d493_7 : decode cJ0_coder_7d493 7 = .ok (.getfield 15, 3) := by decide +kernel
theorem mw_200 : Cond.fieldLink RJ0 15 "java/lang/String" "coder" "B" ∈ wsL_law := List.mem_of_getElem? (i := 200) (by decide +kernel)
theorem dJ0_coder_7d493_10 : decode cJ0_coder_7d493 10 = .ok (.goto 4, 3) := by decide +kernel
theorem dJ0_coder_7d493_14 : decode cJ0_coder_7d493 14 = .ok (.ireturn, 1) := by decide +kernel
theorem dJ0_length_8abf5_0 : decode cJ0_length_8abf5 0 = .ok (.aload_n 0, 1) := by decide +kernel
theorem dJ0_length_8abf5_1 : decode cJ0_length_8abf5 1 = .ok (.getfield 9, 3) := by decide +kernel
theorem mw_194 : Cond.fieldLink RJ0 9 "java/lang/String" "value" "[B" ∈ wsL_law := List.mem_of_getElem? (i := 194) (by decide +kernel)
theorem dJ0_length_8abf5_4 : decode cJ0_length_8abf5 4 = .ok (.arraylength, 1) := by decide +kernel
theorem dJ0_length_8abf5_5 : decode cJ0_length_8abf5 5 = .ok (.aload_n 0, 1) := by decide +kernel
theorem dJ0_length_8abf5_6 : decode cJ0_length_8abf5 6 = .ok (.invokevirtual 335, 3) := by decide +kernel
theorem hd_yJ0_coder_7d493 : HD yJ0_coder_7d493 RJ0 0 := by decide +kernel
theorem mw_195 : Cond.methodLink RJ0 335 yJ0_coder_7d493 ∈ wsL_law := List.mem_of_getElem? (i := 195) (by decide +kernel)
theorem mw_196 : Cond.instanceMethod yJ0_coder_7d493 ∈ wsL_law := List.mem_of_getElem? (i := 196) (by decide +kernel)
theorem mw_197 : Cond.selects RJ0 yJ0_coder_7d493 yJ0_coder_7d493 ∈ wsL_law := List.mem_of_getElem? (i := 197) (by decide +kernel)
theorem mw_192 : Cond.initialized RJ0 ∈ wsL_law := List.mem_of_getElem? (i := 192) (by decide +kernel)
theorem mw_198 : Cond.code yJ0_coder_7d493 cJ0_coder_7d493 1 (some .byte) ∈ wsL_law := List.mem_of_getElem? (i := 198) (by decide +kernel)
theorem dJ0_length_8abf5_9 : decode cJ0_length_8abf5 9 = .ok (.ishr, 1) := by decide +kernel
theorem dJ0_length_8abf5_10 : decode cJ0_length_8abf5 10 = .ok (.ireturn, 1) := by decide +kernel
theorem dJ0_isLatin1_aae02_0 : decode cJ0_isLatin1_aae02 0 = .ok (.getstatic 38, 3) := by decide +kernel
theorem dJ0_isLatin1_aae02_3 : decode cJ0_isLatin1_aae02 3 = .ok (.ifCond .eq 14, 3) := by decide +kernel
theorem dJ0_isLatin1_aae02_6 : decode cJ0_isLatin1_aae02 6 = .ok (.aload_n 0, 1) := by decide +kernel
theorem dJ0_isLatin1_aae02_7 : decode cJ0_isLatin1_aae02 7 = .ok (.getfield 15, 3) := by decide +kernel
theorem dJ0_isLatin1_aae02_10 : decode cJ0_isLatin1_aae02 10 = .ok (.ifCond .ne 7, 3) := by decide +kernel
theorem dJ0_isLatin1_aae02_13 : decode cJ0_isLatin1_aae02 13 = .ok (.iconst 1, 1) := by decide +kernel
theorem dJ0_isLatin1_aae02_14 : decode cJ0_isLatin1_aae02 14 = .ok (.goto 4, 3) := by decide +kernel
theorem dJ0_isLatin1_aae02_18 : decode cJ0_isLatin1_aae02 18 = .ok (.ireturn, 1) := by decide +kernel
theorem dJ3_checkIndex_8e157_0 : decode cJ3_checkIndex_8e157 0 = .ok (.iload_n 0, 1) := by decide +kernel
theorem dJ3_checkIndex_8e157_1 : decode cJ3_checkIndex_8e157 1 = .ok (.ifCond .lt 8, 3) := by decide +kernel
theorem dJ3_checkIndex_8e157_4 : decode cJ3_checkIndex_8e157 4 = .ok (.iload_n 0, 1) := by decide +kernel
theorem dJ3_checkIndex_8e157_5 : decode cJ3_checkIndex_8e157 5 = .ok (.iload_n 1, 1) := by decide +kernel
theorem dJ3_checkIndex_8e157_6 : decode cJ3_checkIndex_8e157 6 = .ok (.if_icmp .lt 10, 3) := by decide +kernel
theorem dJ3_checkIndex_8e157_16 : decode cJ3_checkIndex_8e157 16 = .ok (.iload_n 0, 1) := by decide +kernel
theorem dJ3_checkIndex_8e157_17 : decode cJ3_checkIndex_8e157 17 = .ok (.ireturn, 1) := by decide +kernel
theorem dJ0_checkIndex_df160_0 : decode cJ0_checkIndex_df160 0 = .ok (.iload_n 0, 1) := by decide +kernel
theorem dJ0_checkIndex_df160_1 : decode cJ0_checkIndex_df160 1 = .ok (.iload_n 1, 1) := by decide +kernel
theorem dJ0_checkIndex_df160_2 : decode cJ0_checkIndex_df160 2 = .ok (.getstatic 1053, 3) := by decide +kernel
theorem mw_216 : Cond.fieldLink RJ0 1053 "jdk/internal/util/Preconditions" "SIOOBE_FORMATTER" "Ljava/util/function/BiFunction;" ∈ wsL_law := List.mem_of_getElem? (i := 216) (by decide +kernel)
theorem dJ0_checkIndex_df160_5 : decode cJ0_checkIndex_df160 5 = .ok (.invokestatic 1059, 3) := by decide +kernel
theorem hd_yJ3_checkIndex_8e157 : HD yJ3_checkIndex_8e157 RJ3 3 := by decide +kernel
theorem mw_217 : Cond.methodLink RJ0 1059 yJ3_checkIndex_8e157 ∈ wsL_law := List.mem_of_getElem? (i := 217) (by decide +kernel)
theorem mw_218 : Cond.static yJ3_checkIndex_8e157 ∈ wsL_law := List.mem_of_getElem? (i := 218) (by decide +kernel)
theorem mw_219 : Cond.initialized RJ3 ∈ wsL_law := List.mem_of_getElem? (i := 219) (by decide +kernel)
theorem mw_220 : Cond.code yJ3_checkIndex_8e157 cJ3_checkIndex_8e157 3 (some .int) ∈ wsL_law := List.mem_of_getElem? (i := 220) (by decide +kernel)
theorem dJ0_checkIndex_df160_8 : decode cJ0_checkIndex_df160 8 = .ok (.pop, 1) := by decide +kernel
theorem dJ0_checkIndex_df160_9 : decode cJ0_checkIndex_df160 9 = .ok (.return_, 1) := by decide +kernel
theorem dJ1_charAt_3b067_0 : decode cJ1_charAt_3b067 0 = .ok (.iload_n 1, 1) := by decide +kernel
theorem dJ1_charAt_3b067_1 : decode cJ1_charAt_3b067 1 = .ok (.aload_n 0, 1) := by decide +kernel
theorem dJ1_charAt_3b067_2 : decode cJ1_charAt_3b067 2 = .ok (.arraylength, 1) := by decide +kernel
theorem dJ1_charAt_3b067_3 : decode cJ1_charAt_3b067 3 = .ok (.invokestatic 9, 3) := by decide +kernel
theorem hd_yJ0_checkIndex_df160 : HD yJ0_checkIndex_df160 RJ0 2 := by decide +kernel
theorem mw_213 : Cond.methodLink RJ1 9 yJ0_checkIndex_df160 ∈ wsL_law := List.mem_of_getElem? (i := 213) (by decide +kernel)
theorem mw_214 : Cond.static yJ0_checkIndex_df160 ∈ wsL_law := List.mem_of_getElem? (i := 214) (by decide +kernel)
theorem mw_215 : Cond.code yJ0_checkIndex_df160 cJ0_checkIndex_df160 2 none ∈ wsL_law := List.mem_of_getElem? (i := 215) (by decide +kernel)
theorem dJ1_charAt_3b067_6 : decode cJ1_charAt_3b067 6 = .ok (.aload_n 0, 1) := by decide +kernel
theorem dJ1_charAt_3b067_7 : decode cJ1_charAt_3b067 7 = .ok (.iload_n 1, 1) := by decide +kernel
theorem dJ1_charAt_3b067_8 : decode cJ1_charAt_3b067 8 = .ok (.baload, 1) := by decide +kernel
theorem dJ1_charAt_3b067_9 : decode cJ1_charAt_3b067 9 = .ok (.sipush 255, 3) := by decide +kernel
theorem dJ1_charAt_3b067_12 : decode cJ1_charAt_3b067 12 = .ok (.iand, 1) := by decide +kernel
theorem dJ1_charAt_3b067_13 : decode cJ1_charAt_3b067 13 = .ok (.i2c, 1) := by decide +kernel
theorem dJ1_charAt_3b067_14 : decode cJ1_charAt_3b067 14 = .ok (.ireturn, 1) := by decide +kernel
theorem dJ0_charAt_5068e_0 : decode cJ0_charAt_5068e 0 = .ok (.aload_n 0, 1) := by decide +kernel
theorem dJ0_charAt_5068e_1 : decode cJ0_charAt_5068e 1 = .ok (.invokevirtual 492, 3) := by decide +kernel
theorem hd_yJ0_isLatin1_aae02 : HD yJ0_isLatin1_aae02 RJ0 0 := by decide +kernel
theorem mw_205 : Cond.methodLink RJ0 492 yJ0_isLatin1_aae02 ∈ wsL_law := List.mem_of_getElem? (i := 205) (by decide +kernel)
theorem mw_206 : Cond.instanceMethod yJ0_isLatin1_aae02 ∈ wsL_law := List.mem_of_getElem? (i := 206) (by decide +kernel)
theorem mw_207 : Cond.selects RJ0 yJ0_isLatin1_aae02 yJ0_isLatin1_aae02 ∈ wsL_law := List.mem_of_getElem? (i := 207) (by decide +kernel)
theorem mw_208 : Cond.code yJ0_isLatin1_aae02 cJ0_isLatin1_aae02 1 (some .boolean) ∈ wsL_law := List.mem_of_getElem? (i := 208) (by decide +kernel)
theorem dJ0_charAt_5068e_4 : decode cJ0_charAt_5068e 4 = .ok (.ifCond .eq 12, 3) := by decide +kernel
theorem dJ0_charAt_5068e_7 : decode cJ0_charAt_5068e 7 = .ok (.aload_n 0, 1) := by decide +kernel
theorem dJ0_charAt_5068e_8 : decode cJ0_charAt_5068e 8 = .ok (.getfield 9, 3) := by decide +kernel
theorem dJ0_charAt_5068e_11 : decode cJ0_charAt_5068e 11 = .ok (.iload_n 1, 1) := by decide +kernel
theorem dJ0_charAt_5068e_12 : decode cJ0_charAt_5068e 12 = .ok (.invokestatic 495, 3) := by decide +kernel
theorem hd_yJ1_charAt_3b067 : HD yJ1_charAt_3b067 RJ1 2 := by decide +kernel
theorem mw_209 : Cond.methodLink RJ0 495 yJ1_charAt_3b067 ∈ wsL_law := List.mem_of_getElem? (i := 209) (by decide +kernel)
theorem mw_210 : Cond.static yJ1_charAt_3b067 ∈ wsL_law := List.mem_of_getElem? (i := 210) (by decide +kernel)
theorem mw_211 : Cond.initialized RJ1 ∈ wsL_law := List.mem_of_getElem? (i := 211) (by decide +kernel)
theorem mw_212 : Cond.code yJ1_charAt_3b067 cJ1_charAt_3b067 2 (some .char) ∈ wsL_law := List.mem_of_getElem? (i := 212) (by decide +kernel)
theorem dJ0_charAt_5068e_15 : decode cJ0_charAt_5068e 15 = .ok (.ireturn, 1) := by decide +kernel
theorem dX5_isLetter_0 : decode cX5_isLetter 0 = .ok (.iload_n 0, 1) := by decide +kernel
theorem dX5_isLetter_1 : decode cX5_isLetter 1 = .ok (.bipush 97, 2) := by decide +kernel
theorem dX5_isLetter_3 : decode cX5_isLetter 3 = .ok (.if_icmp .lt 13, 3) := by decide +kernel
theorem dX5_isLetter_16 : decode cX5_isLetter 16 = .ok (.iconst 0, 1) := by decide +kernel
theorem dX5_isLetter_17 : decode cX5_isLetter 17 = .ok (.ireturn, 1) := by decide +kernel
theorem dX5_isLetter_6 : decode cX5_isLetter 6 = .ok (.iload_n 0, 1) := by decide +kernel
theorem dX5_isLetter_7 : decode cX5_isLetter 7 = .ok (.bipush 122, 2) := by decide +kernel
theorem dX5_isLetter_9 : decode cX5_isLetter 9 = .ok (.if_icmp .gt 7, 3) := by decide +kernel
theorem dX5_isLetter_12 : decode cX5_isLetter 12 = .ok (.iconst 1, 1) := by decide +kernel
theorem dX5_isLetter_13 : decode cX5_isLetter 13 = .ok (.goto 4, 3) := by decide +kernel
theorem dX5_isDigit_0 : decode cX5_isDigit 0 = .ok (.iload_n 0, 1) := by decide +kernel
theorem dX5_isDigit_1 : decode cX5_isDigit 1 = .ok (.bipush 48, 2) := by decide +kernel
theorem dX5_isDigit_3 : decode cX5_isDigit 3 = .ok (.if_icmp .lt 13, 3) := by decide +kernel
theorem dX5_isDigit_16 : decode cX5_isDigit 16 = .ok (.iconst 0, 1) := by decide +kernel
theorem dX5_isDigit_17 : decode cX5_isDigit 17 = .ok (.ireturn, 1) := by decide +kernel
theorem dX5_isDigit_6 : decode cX5_isDigit 6 = .ok (.iload_n 0, 1) := by decide +kernel
theorem dX5_isDigit_7 : decode cX5_isDigit 7 = .ok (.bipush 57, 2) := by decide +kernel
theorem dX5_isDigit_9 : decode cX5_isDigit 9 = .ok (.if_icmp .gt 7, 3) := by decide +kernel
theorem dX5_isDigit_12 : decode cX5_isDigit 12 = .ok (.iconst 1, 1) := by decide +kernel
theorem dX5_isDigit_13 : decode cX5_isDigit 13 = .ok (.goto 4, 3) := by decide +kernel
theorem dX5_takeInt_0 : decode cX5_takeInt 0 = .ok (.bipush 24, 2) := by decide +kernel
theorem dX5_takeInt_2 : decode cX5_takeInt 2 = .ok (.istore_n 2, 1) := by decide +kernel
theorem dX5_takeInt_3 : decode cX5_takeInt 3 = .ok (.iload_n 2, 1) := by decide +kernel
theorem dX5_takeInt_4 : decode cX5_takeInt 4 = .ok (.ifCond .lt 42, 3) := by decide +kernel
theorem dX5_takeInt_46 : decode cX5_takeInt 46 = .ok (.return_, 1) := by decide +kernel
theorem dX5_takeInt_7 : decode cX5_takeInt 7 = .ok (.aload_n 0, 1) := by decide +kernel
theorem dX5_takeInt_8 : decode cX5_takeInt 8 = .ok (.getfield 26, 3) := by decide +kernel
theorem mw_120 : Cond.fieldLink RX5 26 "ThatchNext$Reader" "taped" "I" ∈ wsL_law := List.mem_of_getElem? (i := 120) (by decide +kernel)
theorem dX5_takeInt_11 : decode cX5_takeInt 11 = .ok (.sipush 900, 3) := by decide +kernel
theorem dX5_takeInt_14 : decode cX5_takeInt 14 = .ok (.if_icmp .ge 32, 3) := by decide +kernel
theorem dX5_takeInt_17 : decode cX5_takeInt 17 = .ok (.aload_n 0, 1) := by decide +kernel
theorem dX5_takeInt_18 : decode cX5_takeInt 18 = .ok (.getfield 22, 3) := by decide +kernel
theorem mw_50 : Cond.fieldLink RX5 22 "ThatchNext$Reader" "text" "[B" ∈ wsL_law := List.mem_of_getElem? (i := 50) (by decide +kernel)
theorem dX5_takeInt_21 : decode cX5_takeInt 21 = .ok (.aload_n 0, 1) := by decide +kernel
theorem dX5_takeInt_22 : decode cX5_takeInt 22 = .ok (.getfield 26, 3) := by decide +kernel
theorem dX5_takeInt_25 : decode cX5_takeInt 25 = .ok (.iload_n 1, 1) := by decide +kernel
theorem dX5_takeInt_26 : decode cX5_takeInt 26 = .ok (.iload_n 2, 1) := by decide +kernel
theorem dX5_takeInt_27 : decode cX5_takeInt 27 = .ok (.iushr, 1) := by decide +kernel
theorem dX5_takeInt_28 : decode cX5_takeInt 28 = .ok (.i2b, 1) := by decide +kernel
theorem dX5_takeInt_29 : decode cX5_takeInt 29 = .ok (.bastore, 1) := by decide +kernel
theorem dX5_takeInt_30 : decode cX5_takeInt 30 = .ok (.aload_n 0, 1) := by decide +kernel
theorem dX5_takeInt_31 : decode cX5_takeInt 31 = .ok (.dup, 1) := by decide +kernel
theorem dX5_takeInt_32 : decode cX5_takeInt 32 = .ok (.getfield 26, 3) := by decide +kernel
theorem dX5_takeInt_35 : decode cX5_takeInt 35 = .ok (.iconst 1, 1) := by decide +kernel
theorem dX5_takeInt_36 : decode cX5_takeInt 36 = .ok (.iadd, 1) := by decide +kernel
theorem dX5_takeInt_37 : decode cX5_takeInt 37 = .ok (.putfield 26, 3) := by decide +kernel
theorem dX5_takeInt_40 : decode cX5_takeInt 40 = .ok (.iinc 2 (-8), 3) := by decide +kernel
theorem dX5_takeInt_43 : decode cX5_takeInt 43 = .ok (.goto (-40), 3) := by decide +kernel
theorem dX5_fail_0 : decode cX5_fail 0 = .ok (.aload_n 0, 1) := by decide +kernel
theorem dX5_fail_1 : decode cX5_fail 1 = .ok (.getfield 41, 3) := by decide +kernel
theorem mw_145 : Cond.fieldLink RX5 41 "ThatchNext$Reader" "fault" "I" ∈ wsL_law := List.mem_of_getElem? (i := 145) (by decide +kernel)
theorem dX5_fail_4 : decode cX5_fail 4 = .ok (.ifCond .ne 16, 3) := by decide +kernel
theorem dX5_fail_20 : decode cX5_fail 20 = .ok (.aload_n 0, 1) := by decide +kernel
theorem dX5_fail_21 : decode cX5_fail 21 = .ok (.iconst 0, 1) := by decide +kernel
theorem dX5_fail_22 : decode cX5_fail 22 = .ok (.putfield 50, 3) := by decide +kernel
theorem mw_147 : Cond.fieldLink RX5 50 "ThatchNext$Reader" "token" "I" ∈ wsL_law := List.mem_of_getElem? (i := 147) (by decide +kernel)
theorem dX5_fail_25 : decode cX5_fail 25 = .ok (.return_, 1) := by decide +kernel
theorem dX5_fail_7 : decode cX5_fail 7 = .ok (.aload_n 0, 1) := by decide +kernel
theorem dX5_fail_8 : decode cX5_fail 8 = .ok (.iload_n 1, 1) := by decide +kernel
theorem dX5_fail_9 : decode cX5_fail 9 = .ok (.putfield 41, 3) := by decide +kernel
theorem dX5_fail_12 : decode cX5_fail 12 = .ok (.aload_n 0, 1) := by decide +kernel
theorem dX5_fail_13 : decode cX5_fail 13 = .ok (.aload_n 0, 1) := by decide +kernel
theorem dX5_fail_14 : decode cX5_fail 14 = .ok (.getfield 56, 3) := by decide +kernel
theorem mw_163 : Cond.fieldLink RX5 56 "ThatchNext$Reader" "start" "I" ∈ wsL_law := List.mem_of_getElem? (i := 163) (by decide +kernel)
theorem dX5_fail_17 : decode cX5_fail 17 = .ok (.putfield 18, 3) := by decide +kernel
theorem mw_48 : Cond.fieldLink RX5 18 "ThatchNext$Reader" "faultPlace" "I" ∈ wsL_law := List.mem_of_getElem? (i := 48) (by decide +kernel)
theorem dX5_advance_0 : decode cX5_advance 0 = .ok (.aload_n 0, 1) := by decide +kernel
theorem dX5_advance_1 : decode cX5_advance 1 = .ok (.getfield 44, 3) := by decide +kernel
theorem mw_146 : Cond.fieldLink RX5 44 "ThatchNext$Reader" "next" "I" ∈ wsL_law := List.mem_of_getElem? (i := 146) (by decide +kernel)
theorem dX5_advance_4 : decode cX5_advance 4 = .ok (.aload_n 0, 1) := by decide +kernel
theorem dX5_advance_5 : decode cX5_advance 5 = .ok (.getfield 35, 3) := by decide +kernel
theorem mw_144 : Cond.fieldLink RX5 35 "ThatchNext$Reader" "length" "I" ∈ wsL_law := List.mem_of_getElem? (i := 144) (by decide +kernel)
theorem dX5_advance_8 : decode cX5_advance 8 = .ok (.if_icmp .ge 44, 3) := by decide +kernel
theorem dX5_advance_52 : decode cX5_advance 52 = .ok (.aload_n 0, 1) := by decide +kernel
theorem dX5_advance_53 : decode cX5_advance 53 = .ok (.aload_n 0, 1) := by decide +kernel
theorem dX5_advance_54 : decode cX5_advance 54 = .ok (.getfield 44, 3) := by decide +kernel
theorem dX5_advance_57 : decode cX5_advance 57 = .ok (.putfield 56, 3) := by decide +kernel
theorem dX5_advance_60 : decode cX5_advance 60 = .ok (.aload_n 0, 1) := by decide +kernel
theorem dX5_advance_61 : decode cX5_advance 61 = .ok (.getfield 44, 3) := by decide +kernel
theorem dX5_advance_64 : decode cX5_advance 64 = .ok (.aload_n 0, 1) := by decide +kernel
theorem dX5_advance_65 : decode cX5_advance 65 = .ok (.getfield 35, 3) := by decide +kernel
theorem dX5_advance_68 : decode cX5_advance 68 = .ok (.if_icmp .lt 11, 3) := by decide +kernel
theorem dX5_advance_79 : decode cX5_advance 79 = .ok (.aload_n 0, 1) := by decide +kernel
theorem dX5_advance_80 : decode cX5_advance 80 = .ok (.getfield 22, 3) := by decide +kernel
theorem dX5_advance_83 : decode cX5_advance 83 = .ok (.aload_n 0, 1) := by decide +kernel
theorem dX5_advance_84 : decode cX5_advance 84 = .ok (.getfield 44, 3) := by decide +kernel
theorem dX5_advance_87 : decode cX5_advance 87 = .ok (.baload, 1) := by decide +kernel
theorem dX5_advance_88 : decode cX5_advance 88 = .ok (.invokestatic 159, 3) := by decide +kernel
theorem hd_yX5_isLetter : HD yX5_isLetter RX5 1 := by decide +kernel
theorem mw_165 : Cond.methodLink RX5 159 yX5_isLetter ∈ wsL_law := List.mem_of_getElem? (i := 165) (by decide +kernel)
theorem mw_166 : Cond.static yX5_isLetter ∈ wsL_law := List.mem_of_getElem? (i := 166) (by decide +kernel)
theorem mw_15 : Cond.initialized RX5 ∈ wsL_law := List.mem_of_getElem? (i := 15) (by decide +kernel)
theorem mw_167 : Cond.code yX5_isLetter cX5_isLetter 1 (some .boolean) ∈ wsL_law := List.mem_of_getElem? (i := 167) (by decide +kernel)
theorem dX5_advance_91 : decode cX5_advance 91 = .ok (.ifCond .eq 47, 3) := by decide +kernel
theorem dX5_advance_138 : decode cX5_advance 138 = .ok (.aload_n 0, 1) := by decide +kernel
theorem dX5_advance_139 : decode cX5_advance 139 = .ok (.getfield 22, 3) := by decide +kernel
theorem dX5_advance_142 : decode cX5_advance 142 = .ok (.aload_n 0, 1) := by decide +kernel
theorem dX5_advance_143 : decode cX5_advance 143 = .ok (.getfield 44, 3) := by decide +kernel
theorem dX5_advance_146 : decode cX5_advance 146 = .ok (.baload, 1) := by decide +kernel
theorem dX5_advance_147 : decode cX5_advance 147 = .ok (.invokestatic 163, 3) := by decide +kernel
theorem hd_yX5_isDigit : HD yX5_isDigit RX5 1 := by decide +kernel
theorem mw_168 : Cond.methodLink RX5 163 yX5_isDigit ∈ wsL_law := List.mem_of_getElem? (i := 168) (by decide +kernel)
theorem mw_169 : Cond.static yX5_isDigit ∈ wsL_law := List.mem_of_getElem? (i := 169) (by decide +kernel)
theorem mw_170 : Cond.code yX5_isDigit cX5_isDigit 1 (some .boolean) ∈ wsL_law := List.mem_of_getElem? (i := 170) (by decide +kernel)
theorem dX5_advance_150 : decode cX5_advance 150 = .ok (.ifCond .eq 76, 3) := by decide +kernel
theorem dX5_advance_226 : decode cX5_advance 226 = .ok (.aload_n 0, 1) := by decide +kernel
theorem dX5_advance_227 : decode cX5_advance 227 = .ok (.getfield 22, 3) := by decide +kernel
theorem dX5_advance_230 : decode cX5_advance 230 = .ok (.aload_n 0, 1) := by decide +kernel
theorem dX5_advance_231 : decode cX5_advance 231 = .ok (.getfield 44, 3) := by decide +kernel
theorem dX5_advance_234 : decode cX5_advance 234 = .ok (.baload, 1) := by decide +kernel
theorem dX5_advance_235 : decode cX5_advance 235 = .ok (.bipush 59, 2) := by decide +kernel
theorem dX5_advance_237 : decode cX5_advance 237 = .ok (.if_icmp .ne 21, 3) := by decide +kernel
theorem dX5_advance_258 : decode cX5_advance 258 = .ok (.aload_n 0, 1) := by decide +kernel
theorem dX5_advance_259 : decode cX5_advance 259 = .ok (.iconst 1, 1) := by decide +kernel
theorem dX5_advance_260 : decode cX5_advance 260 = .ok (.invokevirtual 96, 3) := by decide +kernel
theorem hd_yX5_fail : HD yX5_fail RX5 1 := by decide +kernel
theorem mw_171 : Cond.methodLink RX5 96 yX5_fail ∈ wsL_law := List.mem_of_getElem? (i := 171) (by decide +kernel)
theorem mw_172 : Cond.instanceMethod yX5_fail ∈ wsL_law := List.mem_of_getElem? (i := 172) (by decide +kernel)
theorem mw_173 : Cond.selects RX5 yX5_fail yX5_fail ∈ wsL_law := List.mem_of_getElem? (i := 173) (by decide +kernel)
theorem mw_174 : Cond.code yX5_fail cX5_fail 2 none ∈ wsL_law := List.mem_of_getElem? (i := 174) (by decide +kernel)
theorem dX5_advance_263 : decode cX5_advance 263 = .ok (.aload_n 0, 1) := by decide +kernel
theorem dX5_advance_264 : decode cX5_advance 264 = .ok (.getfield 50, 3) := by decide +kernel
theorem dX5_advance_267 : decode cX5_advance 267 = .ok (.iconst 3, 1) := by decide +kernel
theorem dX5_advance_268 : decode cX5_advance 268 = .ok (.if_icmp .ne 21, 3) := by decide +kernel
theorem dX5_advance_289 : decode cX5_advance 289 = .ok (.return_, 1) := by decide +kernel
theorem dX5_advance_240 : decode cX5_advance 240 = .ok (.aload_n 0, 1) := by decide +kernel
theorem dX5_advance_241 : decode cX5_advance 241 = .ok (.iconst 2, 1) := by decide +kernel
theorem dX5_advance_242 : decode cX5_advance 242 = .ok (.putfield 50, 3) := by decide +kernel
theorem dX5_advance_245 : decode cX5_advance 245 = .ok (.aload_n 0, 1) := by decide +kernel
theorem dX5_advance_246 : decode cX5_advance 246 = .ok (.dup, 1) := by decide +kernel
theorem dX5_advance_247 : decode cX5_advance 247 = .ok (.getfield 44, 3) := by decide +kernel
theorem dX5_advance_250 : decode cX5_advance 250 = .ok (.iconst 1, 1) := by decide +kernel
theorem dX5_advance_251 : decode cX5_advance 251 = .ok (.iadd, 1) := by decide +kernel
theorem dX5_advance_252 : decode cX5_advance 252 = .ok (.putfield 44, 3) := by decide +kernel
theorem dX5_advance_255 : decode cX5_advance 255 = .ok (.goto 8, 3) := by decide +kernel
theorem dX5_advance_153 : decode cX5_advance 153 = .ok (.aload_n 0, 1) := by decide +kernel
theorem dX5_advance_154 : decode cX5_advance 154 = .ok (.iconst 3, 1) := by decide +kernel
theorem dX5_advance_155 : decode cX5_advance 155 = .ok (.putfield 50, 3) := by decide +kernel
theorem dX5_advance_158 : decode cX5_advance 158 = .ok (.aload_n 0, 1) := by decide +kernel
theorem dX5_advance_159 : decode cX5_advance 159 = .ok (.iconst 0, 1) := by decide +kernel
theorem dX5_advance_160 : decode cX5_advance 160 = .ok (.putfield 147, 3) := by decide +kernel
theorem mw_164 : Cond.fieldLink RX5 147 "ThatchNext$Reader" "value" "I" ∈ wsL_law := List.mem_of_getElem? (i := 164) (by decide +kernel)
theorem dX5_advance_163 : decode cX5_advance 163 = .ok (.aload_n 0, 1) := by decide +kernel
theorem dX5_advance_164 : decode cX5_advance 164 = .ok (.getfield 44, 3) := by decide +kernel
theorem dX5_advance_167 : decode cX5_advance 167 = .ok (.aload_n 0, 1) := by decide +kernel
theorem dX5_advance_168 : decode cX5_advance 168 = .ok (.getfield 35, 3) := by decide +kernel
theorem dX5_advance_171 : decode cX5_advance 171 = .ok (.if_icmp .ge 92, 3) := by decide +kernel
theorem dX5_advance_271 : decode cX5_advance 271 = .ok (.aload_n 0, 1) := by decide +kernel
theorem dX5_advance_272 : decode cX5_advance 272 = .ok (.getfield 44, 3) := by decide +kernel
theorem dX5_advance_275 : decode cX5_advance 275 = .ok (.aload_n 0, 1) := by decide +kernel
theorem dX5_advance_276 : decode cX5_advance 276 = .ok (.getfield 56, 3) := by decide +kernel
theorem dX5_advance_279 : decode cX5_advance 279 = .ok (.isub, 1) := by decide +kernel
theorem dX5_advance_280 : decode cX5_advance 280 = .ok (.iconst 3, 1) := by decide +kernel
theorem dX5_advance_281 : decode cX5_advance 281 = .ok (.if_icmp .le 8, 3) := by decide +kernel
theorem dX5_advance_284 : decode cX5_advance 284 = .ok (.aload_n 0, 1) := by decide +kernel
theorem dX5_advance_285 : decode cX5_advance 285 = .ok (.iconst 1, 1) := by decide +kernel
theorem dX5_advance_286 : decode cX5_advance 286 = .ok (.invokevirtual 96, 3) := by decide +kernel
theorem dX5_advance_174 : decode cX5_advance 174 = .ok (.aload_n 0, 1) := by decide +kernel
theorem dX5_advance_175 : decode cX5_advance 175 = .ok (.getfield 22, 3) := by decide +kernel
theorem dX5_advance_178 : decode cX5_advance 178 = .ok (.aload_n 0, 1) := by decide +kernel
theorem dX5_advance_179 : decode cX5_advance 179 = .ok (.getfield 44, 3) := by decide +kernel
theorem dX5_advance_182 : decode cX5_advance 182 = .ok (.baload, 1) := by decide +kernel
theorem dX5_advance_183 : decode cX5_advance 183 = .ok (.invokestatic 163, 3) := by decide +kernel
theorem dX5_advance_186 : decode cX5_advance 186 = .ok (.ifCond .eq 77, 3) := by decide +kernel
theorem dX5_advance_189 : decode cX5_advance 189 = .ok (.aload_n 0, 1) := by decide +kernel
theorem dX5_advance_190 : decode cX5_advance 190 = .ok (.bipush 10, 2) := by decide +kernel
theorem dX5_advance_192 : decode cX5_advance 192 = .ok (.aload_n 0, 1) := by decide +kernel
theorem dX5_advance_193 : decode cX5_advance 193 = .ok (.getfield 147, 3) := by decide +kernel
theorem dX5_advance_196 : decode cX5_advance 196 = .ok (.imul, 1) := by decide +kernel
theorem dX5_advance_197 : decode cX5_advance 197 = .ok (.aload_n 0, 1) := by decide +kernel
theorem dX5_advance_198 : decode cX5_advance 198 = .ok (.getfield 22, 3) := by decide +kernel
theorem dX5_advance_201 : decode cX5_advance 201 = .ok (.aload_n 0, 1) := by decide +kernel
theorem dX5_advance_202 : decode cX5_advance 202 = .ok (.getfield 44, 3) := by decide +kernel
theorem dX5_advance_205 : decode cX5_advance 205 = .ok (.baload, 1) := by decide +kernel
theorem dX5_advance_206 : decode cX5_advance 206 = .ok (.iadd, 1) := by decide +kernel
theorem dX5_advance_207 : decode cX5_advance 207 = .ok (.bipush 48, 2) := by decide +kernel
theorem dX5_advance_209 : decode cX5_advance 209 = .ok (.isub, 1) := by decide +kernel
theorem dX5_advance_210 : decode cX5_advance 210 = .ok (.putfield 147, 3) := by decide +kernel
theorem dX5_advance_213 : decode cX5_advance 213 = .ok (.aload_n 0, 1) := by decide +kernel
theorem dX5_advance_214 : decode cX5_advance 214 = .ok (.dup, 1) := by decide +kernel
theorem dX5_advance_215 : decode cX5_advance 215 = .ok (.getfield 44, 3) := by decide +kernel
theorem dX5_advance_218 : decode cX5_advance 218 = .ok (.iconst 1, 1) := by decide +kernel
theorem dX5_advance_219 : decode cX5_advance 219 = .ok (.iadd, 1) := by decide +kernel
theorem dX5_advance_220 : decode cX5_advance 220 = .ok (.putfield 44, 3) := by decide +kernel
theorem dX5_advance_223 : decode cX5_advance 223 = .ok (.goto (-60), 3) := by decide +kernel
theorem dX5_advance_94 : decode cX5_advance 94 = .ok (.aload_n 0, 1) := by decide +kernel
theorem dX5_advance_95 : decode cX5_advance 95 = .ok (.iconst 4, 1) := by decide +kernel
theorem dX5_advance_96 : decode cX5_advance 96 = .ok (.putfield 50, 3) := by decide +kernel
theorem dX5_advance_99 : decode cX5_advance 99 = .ok (.aload_n 0, 1) := by decide +kernel
theorem dX5_advance_100 : decode cX5_advance 100 = .ok (.getfield 44, 3) := by decide +kernel
theorem dX5_advance_103 : decode cX5_advance 103 = .ok (.aload_n 0, 1) := by decide +kernel
theorem dX5_advance_104 : decode cX5_advance 104 = .ok (.getfield 35, 3) := by decide +kernel
theorem dX5_advance_107 : decode cX5_advance 107 = .ok (.if_icmp .ge 156, 3) := by decide +kernel
theorem dX5_advance_110 : decode cX5_advance 110 = .ok (.aload_n 0, 1) := by decide +kernel
theorem dX5_advance_111 : decode cX5_advance 111 = .ok (.getfield 22, 3) := by decide +kernel
theorem dX5_advance_114 : decode cX5_advance 114 = .ok (.aload_n 0, 1) := by decide +kernel
theorem dX5_advance_115 : decode cX5_advance 115 = .ok (.getfield 44, 3) := by decide +kernel
theorem dX5_advance_118 : decode cX5_advance 118 = .ok (.baload, 1) := by decide +kernel
theorem dX5_advance_119 : decode cX5_advance 119 = .ok (.invokestatic 159, 3) := by decide +kernel
theorem dX5_advance_122 : decode cX5_advance 122 = .ok (.ifCond .eq 141, 3) := by decide +kernel
theorem dX5_advance_125 : decode cX5_advance 125 = .ok (.aload_n 0, 1) := by decide +kernel
theorem dX5_advance_126 : decode cX5_advance 126 = .ok (.dup, 1) := by decide +kernel
theorem dX5_advance_127 : decode cX5_advance 127 = .ok (.getfield 44, 3) := by decide +kernel
theorem dX5_advance_130 : decode cX5_advance 130 = .ok (.iconst 1, 1) := by decide +kernel
theorem dX5_advance_131 : decode cX5_advance 131 = .ok (.iadd, 1) := by decide +kernel
theorem dX5_advance_132 : decode cX5_advance 132 = .ok (.putfield 44, 3) := by decide +kernel
theorem dX5_advance_135 : decode cX5_advance 135 = .ok (.goto (-36), 3) := by decide +kernel
theorem dX5_advance_71 : decode cX5_advance 71 = .ok (.aload_n 0, 1) := by decide +kernel
theorem dX5_advance_72 : decode cX5_advance 72 = .ok (.iconst 1, 1) := by decide +kernel
theorem dX5_advance_73 : decode cX5_advance 73 = .ok (.putfield 50, 3) := by decide +kernel
theorem dX5_advance_76 : decode cX5_advance 76 = .ok (.goto 187, 3) := by decide +kernel
theorem dX5_advance_11 : decode cX5_advance 11 = .ok (.aload_n 0, 1) := by decide +kernel
theorem dX5_advance_12 : decode cX5_advance 12 = .ok (.getfield 22, 3) := by decide +kernel
theorem dX5_advance_15 : decode cX5_advance 15 = .ok (.aload_n 0, 1) := by decide +kernel
theorem dX5_advance_16 : decode cX5_advance 16 = .ok (.getfield 44, 3) := by decide +kernel
theorem dX5_advance_19 : decode cX5_advance 19 = .ok (.baload, 1) := by decide +kernel
theorem dX5_advance_20 : decode cX5_advance 20 = .ok (.bipush 10, 2) := by decide +kernel
theorem dX5_advance_22 : decode cX5_advance 22 = .ok (.if_icmp .eq 17, 3) := by decide +kernel
theorem dX5_advance_39 : decode cX5_advance 39 = .ok (.aload_n 0, 1) := by decide +kernel
theorem dX5_advance_40 : decode cX5_advance 40 = .ok (.dup, 1) := by decide +kernel
theorem dX5_advance_41 : decode cX5_advance 41 = .ok (.getfield 44, 3) := by decide +kernel
theorem dX5_advance_44 : decode cX5_advance 44 = .ok (.iconst 1, 1) := by decide +kernel
theorem dX5_advance_45 : decode cX5_advance 45 = .ok (.iadd, 1) := by decide +kernel
theorem dX5_advance_46 : decode cX5_advance 46 = .ok (.putfield 44, 3) := by decide +kernel
theorem dX5_advance_49 : decode cX5_advance 49 = .ok (.goto (-49), 3) := by decide +kernel
theorem dX5_advance_25 : decode cX5_advance 25 = .ok (.aload_n 0, 1) := by decide +kernel
theorem dX5_advance_26 : decode cX5_advance 26 = .ok (.getfield 22, 3) := by decide +kernel
theorem dX5_advance_29 : decode cX5_advance 29 = .ok (.aload_n 0, 1) := by decide +kernel
theorem dX5_advance_30 : decode cX5_advance 30 = .ok (.getfield 44, 3) := by decide +kernel
theorem dX5_advance_33 : decode cX5_advance 33 = .ok (.baload, 1) := by decide +kernel
theorem dX5_advance_34 : decode cX5_advance 34 = .ok (.bipush 32, 2) := by decide +kernel
theorem dX5_advance_36 : decode cX5_advance 36 = .ok (.if_icmp .ne 16, 3) := by decide +kernel
theorem dX5_isWord_0 : decode cX5_isWord 0 = .ok (.aload_n 0, 1) := by decide +kernel
theorem dX5_isWord_1 : decode cX5_isWord 1 = .ok (.getfield 50, 3) := by decide +kernel
theorem dX5_isWord_4 : decode cX5_isWord 4 = .ok (.iconst 4, 1) := by decide +kernel
theorem dX5_isWord_5 : decode cX5_isWord 5 = .ok (.if_icmp .ne 19, 3) := by decide +kernel
theorem dX5_isWord_24 : decode cX5_isWord 24 = .ok (.iconst 0, 1) := by decide +kernel
theorem dX5_isWord_25 : decode cX5_isWord 25 = .ok (.ireturn, 1) := by decide +kernel
theorem dX5_isWord_8 : decode cX5_isWord 8 = .ok (.aload_n 0, 1) := by decide +kernel
theorem dX5_isWord_9 : decode cX5_isWord 9 = .ok (.getfield 44, 3) := by decide +kernel
theorem dX5_isWord_12 : decode cX5_isWord 12 = .ok (.aload_n 0, 1) := by decide +kernel
theorem dX5_isWord_13 : decode cX5_isWord 13 = .ok (.getfield 56, 3) := by decide +kernel
theorem dX5_isWord_16 : decode cX5_isWord 16 = .ok (.isub, 1) := by decide +kernel
theorem dX5_isWord_17 : decode cX5_isWord 17 = .ok (.aload_n 1, 1) := by decide +kernel
theorem dX5_isWord_18 : decode cX5_isWord 18 = .ok (.invokevirtual 150, 3) := by decide +kernel
theorem hd_yJ0_length_8abf5 : HD yJ0_length_8abf5 RJ0 0 := by decide +kernel
theorem mw_189 : Cond.methodLink RX5 150 yJ0_length_8abf5 ∈ wsL_law := List.mem_of_getElem? (i := 189) (by decide +kernel)
theorem mw_190 : Cond.instanceMethod yJ0_length_8abf5 ∈ wsL_law := List.mem_of_getElem? (i := 190) (by decide +kernel)
theorem mw_191 : Cond.selects RJ0 yJ0_length_8abf5 yJ0_length_8abf5 ∈ wsL_law := List.mem_of_getElem? (i := 191) (by decide +kernel)
theorem mw_193 : Cond.code yJ0_length_8abf5 cJ0_length_8abf5 1 (some .int) ∈ wsL_law := List.mem_of_getElem? (i := 193) (by decide +kernel)
theorem dX5_isWord_21 : decode cX5_isWord 21 = .ok (.if_icmp .eq 5, 3) := by decide +kernel
theorem dX5_isWord_26 : decode cX5_isWord 26 = .ok (.iconst 0, 1) := by decide +kernel
theorem dX5_isWord_27 : decode cX5_isWord 27 = .ok (.istore_n 2, 1) := by decide +kernel
theorem dX5_isWord_28 : decode cX5_isWord 28 = .ok (.iload_n 2, 1) := by decide +kernel
theorem dX5_isWord_29 : decode cX5_isWord 29 = .ok (.aload_n 1, 1) := by decide +kernel
theorem dX5_isWord_30 : decode cX5_isWord 30 = .ok (.invokevirtual 150, 3) := by decide +kernel
theorem dX5_isWord_33 : decode cX5_isWord 33 = .ok (.if_icmp .ge 30, 3) := by decide +kernel
theorem dX5_isWord_63 : decode cX5_isWord 63 = .ok (.iconst 1, 1) := by decide +kernel
theorem dX5_isWord_64 : decode cX5_isWord 64 = .ok (.ireturn, 1) := by decide +kernel
theorem dX5_isWord_36 : decode cX5_isWord 36 = .ok (.aload_n 0, 1) := by decide +kernel
theorem dX5_isWord_37 : decode cX5_isWord 37 = .ok (.getfield 22, 3) := by decide +kernel
theorem dX5_isWord_40 : decode cX5_isWord 40 = .ok (.aload_n 0, 1) := by decide +kernel
theorem dX5_isWord_41 : decode cX5_isWord 41 = .ok (.getfield 56, 3) := by decide +kernel
theorem dX5_isWord_44 : decode cX5_isWord 44 = .ok (.iload_n 2, 1) := by decide +kernel
theorem dX5_isWord_45 : decode cX5_isWord 45 = .ok (.iadd, 1) := by decide +kernel
theorem dX5_isWord_46 : decode cX5_isWord 46 = .ok (.baload, 1) := by decide +kernel
theorem dX5_isWord_47 : decode cX5_isWord 47 = .ok (.aload_n 1, 1) := by decide +kernel
theorem dX5_isWord_48 : decode cX5_isWord 48 = .ok (.iload_n 2, 1) := by decide +kernel
theorem dX5_isWord_49 : decode cX5_isWord 49 = .ok (.invokevirtual 155, 3) := by decide +kernel
theorem hd_yJ0_charAt_5068e : HD yJ0_charAt_5068e RJ0 1 := by decide +kernel
theorem mw_201 : Cond.methodLink RX5 155 yJ0_charAt_5068e ∈ wsL_law := List.mem_of_getElem? (i := 201) (by decide +kernel)
theorem mw_202 : Cond.instanceMethod yJ0_charAt_5068e ∈ wsL_law := List.mem_of_getElem? (i := 202) (by decide +kernel)
theorem mw_203 : Cond.selects RJ0 yJ0_charAt_5068e yJ0_charAt_5068e ∈ wsL_law := List.mem_of_getElem? (i := 203) (by decide +kernel)
theorem mw_204 : Cond.code yJ0_charAt_5068e cJ0_charAt_5068e 2 (some .char) ∈ wsL_law := List.mem_of_getElem? (i := 204) (by decide +kernel)
theorem dX5_isWord_52 : decode cX5_isWord 52 = .ok (.if_icmp .eq 5, 3) := by decide +kernel
theorem dX5_isWord_57 : decode cX5_isWord 57 = .ok (.iinc 2 1, 3) := by decide +kernel
theorem dX5_isWord_60 : decode cX5_isWord 60 = .ok (.goto (-32), 3) := by decide +kernel
theorem dX5_isWord_55 : decode cX5_isWord 55 = .ok (.iconst 0, 1) := by decide +kernel
theorem dX5_isWord_56 : decode cX5_isWord 56 = .ok (.ireturn, 1) := by decide +kernel
theorem dX5_readNumber_0 : decode cX5_readNumber 0 = .ok (.aload_n 0, 1) := by decide +kernel
theorem dX5_readNumber_1 : decode cX5_readNumber 1 = .ok (.getfield 50, 3) := by decide +kernel
theorem dX5_readNumber_4 : decode cX5_readNumber 4 = .ok (.iconst 3, 1) := by decide +kernel
theorem dX5_readNumber_5 : decode cX5_readNumber 5 = .ok (.if_icmp .eq 10, 3) := by decide +kernel
theorem dX5_readNumber_15 : decode cX5_readNumber 15 = .ok (.aload_n 0, 1) := by decide +kernel
theorem dX5_readNumber_16 : decode cX5_readNumber 16 = .ok (.getfield 147, 3) := by decide +kernel
theorem dX5_readNumber_19 : decode cX5_readNumber 19 = .ok (.iload_n 1, 1) := by decide +kernel
theorem dX5_readNumber_20 : decode cX5_readNumber 20 = .ok (.if_icmp .lt 11, 3) := by decide +kernel
theorem dX5_readNumber_31 : decode cX5_readNumber 31 = .ok (.aload_n 0, 1) := by decide +kernel
theorem dX5_readNumber_32 : decode cX5_readNumber 32 = .ok (.iconst 3, 1) := by decide +kernel
theorem dX5_readNumber_33 : decode cX5_readNumber 33 = .ok (.invokevirtual 96, 3) := by decide +kernel
theorem dX5_readNumber_36 : decode cX5_readNumber 36 = .ok (.iload_n 1, 1) := by decide +kernel
theorem dX5_readNumber_37 : decode cX5_readNumber 37 = .ok (.ireturn, 1) := by decide +kernel
theorem dX5_readNumber_23 : decode cX5_readNumber 23 = .ok (.aload_n 0, 1) := by decide +kernel
theorem dX5_readNumber_24 : decode cX5_readNumber 24 = .ok (.getfield 147, 3) := by decide +kernel
theorem dX5_readNumber_27 : decode cX5_readNumber 27 = .ok (.iload_n 2, 1) := by decide +kernel
theorem dX5_readNumber_28 : decode cX5_readNumber 28 = .ok (.if_icmp .le 10, 3) := by decide +kernel
theorem dX5_readNumber_38 : decode cX5_readNumber 38 = .ok (.aload_n 0, 1) := by decide +kernel
theorem dX5_readNumber_39 : decode cX5_readNumber 39 = .ok (.getfield 147, 3) := by decide +kernel
theorem dX5_readNumber_42 : decode cX5_readNumber 42 = .ok (.istore_n 3, 1) := by decide +kernel
theorem dX5_readNumber_43 : decode cX5_readNumber 43 = .ok (.aload_n 0, 1) := by decide +kernel
theorem dX5_readNumber_44 : decode cX5_readNumber 44 = .ok (.invokevirtual 47, 3) := by decide +kernel
theorem hd_yX5_advance : HD yX5_advance RX5 0 := by decide +kernel
theorem mw_159 : Cond.methodLink RX5 47 yX5_advance ∈ wsL_law := List.mem_of_getElem? (i := 159) (by decide +kernel)
theorem mw_160 : Cond.instanceMethod yX5_advance ∈ wsL_law := List.mem_of_getElem? (i := 160) (by decide +kernel)
theorem mw_161 : Cond.selects RX5 yX5_advance yX5_advance ∈ wsL_law := List.mem_of_getElem? (i := 161) (by decide +kernel)
theorem mw_162 : Cond.code yX5_advance cX5_advance 1 none ∈ wsL_law := List.mem_of_getElem? (i := 162) (by decide +kernel)
theorem dX5_readNumber_47 : decode cX5_readNumber 47 = .ok (.iload_n 3, 1) := by decide +kernel
theorem dX5_readNumber_48 : decode cX5_readNumber 48 = .ok (.ireturn, 1) := by decide +kernel
theorem dX5_readNumber_8 : decode cX5_readNumber 8 = .ok (.aload_n 0, 1) := by decide +kernel
theorem dX5_readNumber_9 : decode cX5_readNumber 9 = .ok (.iconst 2, 1) := by decide +kernel
theorem dX5_readNumber_10 : decode cX5_readNumber 10 = .ok (.invokevirtual 96, 3) := by decide +kernel
theorem dX5_readNumber_13 : decode cX5_readNumber 13 = .ok (.iload_n 1, 1) := by decide +kernel
theorem dX5_readNumber_14 : decode cX5_readNumber 14 = .ok (.ireturn, 1) := by decide +kernel
theorem dX5_endLine_0 : decode cX5_endLine 0 = .ok (.aload_n 0, 1) := by decide +kernel
theorem dX5_endLine_1 : decode cX5_endLine 1 = .ok (.getfield 50, 3) := by decide +kernel
theorem dX5_endLine_4 : decode cX5_endLine 4 = .ok (.iconst 2, 1) := by decide +kernel
theorem dX5_endLine_5 : decode cX5_endLine 5 = .ok (.if_icmp .eq 9, 3) := by decide +kernel
theorem dX5_endLine_14 : decode cX5_endLine 14 = .ok (.aload_n 0, 1) := by decide +kernel
theorem dX5_endLine_15 : decode cX5_endLine 15 = .ok (.getfield 12, 3) := by decide +kernel
theorem mw_47 : Cond.fieldLink RX5 12 "ThatchNext$Reader" "world" "LThatchNext$World;" ∈ wsL_law := List.mem_of_getElem? (i := 47) (by decide +kernel)
theorem dX5_endLine_18 : decode cX5_endLine 18 = .ok (.dup, 1) := by decide +kernel
theorem dX5_endLine_19 : decode cX5_endLine 19 = .ok (.getfield 103, 3) := by decide +kernel
theorem mw_274 : Cond.fieldLink RX5 103 "ThatchNext$World" "lines" "I" ∈ wsL_law := List.mem_of_getElem? (i := 274) (by decide +kernel)
theorem dX5_endLine_22 : decode cX5_endLine 22 = .ok (.iconst 1, 1) := by decide +kernel
theorem dX5_endLine_23 : decode cX5_endLine 23 = .ok (.iadd, 1) := by decide +kernel
theorem dX5_endLine_24 : decode cX5_endLine 24 = .ok (.putfield 103, 3) := by decide +kernel
theorem dX5_endLine_27 : decode cX5_endLine 27 = .ok (.aload_n 0, 1) := by decide +kernel
theorem dX5_endLine_28 : decode cX5_endLine 28 = .ok (.invokevirtual 47, 3) := by decide +kernel
theorem dX5_endLine_31 : decode cX5_endLine 31 = .ok (.return_, 1) := by decide +kernel
theorem dX5_endLine_8 : decode cX5_endLine 8 = .ok (.aload_n 0, 1) := by decide +kernel
theorem dX5_endLine_9 : decode cX5_endLine 9 = .ok (.iconst 2, 1) := by decide +kernel
theorem dX5_endLine_10 : decode cX5_endLine 10 = .ok (.invokevirtual 96, 3) := by decide +kernel
theorem dX5_endLine_13 : decode cX5_endLine 13 = .ok (.return_, 1) := by decide +kernel
theorem dX5_readLayer_0 : decode cX5_readLayer 0 = .ok (.iload_n 2, 1) := by decide +kernel
theorem dX5_readLayer_1 : decode cX5_readLayer 1 = .ok (.aload_n 0, 1) := by decide +kernel
theorem dX5_readLayer_2 : decode cX5_readLayer 2 = .ok (.getfield 12, 3) := by decide +kernel
theorem dX5_readLayer_5 : decode cX5_readLayer 5 = .ok (.getfield 82, 3) := by decide +kernel
theorem mw_181 : Cond.fieldLink RX5 82 "ThatchNext$World" "deep" "I" ∈ wsL_law := List.mem_of_getElem? (i := 181) (by decide +kernel)
theorem dX5_readLayer_8 : decode cX5_readLayer 8 = .ok (.if_icmp .lt 9, 3) := by decide +kernel
theorem dX5_readLayer_17 : decode cX5_readLayer 17 = .ok (.aload_n 0, 1) := by decide +kernel
theorem dX5_readLayer_18 : decode cX5_readLayer 18 = .ok (.ldc 111, 2) := by decide +kernel
theorem dX5_readLayer_20 : decode cX5_readLayer 20 = .ok (.invokevirtual 61, 3) := by decide +kernel
theorem hd_yX5_isWord : HD yX5_isWord RX5 1 := by decide +kernel
theorem mw_185 : Cond.methodLink RX5 61 yX5_isWord ∈ wsL_law := List.mem_of_getElem? (i := 185) (by decide +kernel)
theorem mw_186 : Cond.instanceMethod yX5_isWord ∈ wsL_law := List.mem_of_getElem? (i := 186) (by decide +kernel)
theorem mw_187 : Cond.selects RX5 yX5_isWord yX5_isWord ∈ wsL_law := List.mem_of_getElem? (i := 187) (by decide +kernel)
theorem mw_188 : Cond.code yX5_isWord cX5_isWord 3 (some .boolean) ∈ wsL_law := List.mem_of_getElem? (i := 188) (by decide +kernel)
theorem dX5_readLayer_23 : decode cX5_readLayer 23 = .ok (.ifCond .eq 7, 3) := by decide +kernel
theorem dX5_readLayer_30 : decode cX5_readLayer 30 = .ok (.iconst 0, 1) := by decide +kernel
theorem dX5_readLayer_31 : decode cX5_readLayer 31 = .ok (.istore_n 3, 1) := by decide +kernel
theorem dX5_readLayer_32 : decode cX5_readLayer 32 = .ok (.aload_n 0, 1) := by decide +kernel
theorem dX5_readLayer_33 : decode cX5_readLayer 33 = .ok (.invokevirtual 47, 3) := by decide +kernel
theorem dX5_readLayer_36 : decode cX5_readLayer 36 = .ok (.iload_n 3, 1) := by decide +kernel
theorem dX5_readLayer_37 : decode cX5_readLayer 37 = .ok (.aload_n 0, 1) := by decide +kernel
theorem dX5_readLayer_38 : decode cX5_readLayer 38 = .ok (.iconst 0, 1) := by decide +kernel
theorem dX5_readLayer_39 : decode cX5_readLayer 39 = .ok (.bipush 99, 2) := by decide +kernel
theorem dX5_readLayer_41 : decode cX5_readLayer 41 = .ok (.invokevirtual 79, 3) := by decide +kernel
theorem hd_yX5_readNumber : HD yX5_readNumber RX5 2 := by decide +kernel
theorem mw_248 : Cond.methodLink RX5 79 yX5_readNumber ∈ wsL_law := List.mem_of_getElem? (i := 248) (by decide +kernel)
theorem mw_249 : Cond.instanceMethod yX5_readNumber ∈ wsL_law := List.mem_of_getElem? (i := 249) (by decide +kernel)
theorem mw_250 : Cond.selects RX5 yX5_readNumber yX5_readNumber ∈ wsL_law := List.mem_of_getElem? (i := 250) (by decide +kernel)
theorem mw_251 : Cond.code yX5_readNumber cX5_readNumber 4 (some .int) ∈ wsL_law := List.mem_of_getElem? (i := 251) (by decide +kernel)
theorem dX5_readLayer_44 : decode cX5_readLayer 44 = .ok (.iconst (-1), 1) := by decide +kernel
theorem dX5_readLayer_45 : decode cX5_readLayer 45 = .ok (.invokestatic 119, 3) := by decide +kernel
theorem mw_252 : Cond.methodLink RX5 119 yX1_made ∈ wsL_law := List.mem_of_getElem? (i := 252) (by decide +kernel)
theorem dX5_readLayer_48 : decode cX5_readLayer 48 = .ok (.istore 4, 2) := by decide +kernel
theorem dX5_readLayer_50 : decode cX5_readLayer 50 = .ok (.aload_n 0, 1) := by decide +kernel
theorem dX5_readLayer_51 : decode cX5_readLayer 51 = .ok (.ldc 123, 2) := by decide +kernel
theorem dX5_readLayer_53 : decode cX5_readLayer 53 = .ok (.invokevirtual 61, 3) := by decide +kernel
theorem dX5_readLayer_56 : decode cX5_readLayer 56 = .ok (.ifCond .eq 14, 3) := by decide +kernel
theorem dX5_readLayer_70 : decode cX5_readLayer 70 = .ok (.aload_n 0, 1) := by decide +kernel
theorem dX5_readLayer_71 : decode cX5_readLayer 71 = .ok (.ldc 129, 2) := by decide +kernel
theorem dX5_readLayer_73 : decode cX5_readLayer 73 = .ok (.invokevirtual 61, 3) := by decide +kernel
theorem dX5_readLayer_76 : decode cX5_readLayer 76 = .ok (.ifCond .eq 21, 3) := by decide +kernel
theorem dX5_readLayer_97 : decode cX5_readLayer 97 = .ok (.aload_n 0, 1) := by decide +kernel
theorem dX5_readLayer_98 : decode cX5_readLayer 98 = .ok (.ldc 134, 2) := by decide +kernel
theorem dX5_readLayer_100 : decode cX5_readLayer 100 = .ok (.invokevirtual 61, 3) := by decide +kernel
theorem dX5_readLayer_103 : decode cX5_readLayer 103 = .ok (.ifCond .eq 14, 3) := by decide +kernel
theorem dX5_readLayer_117 : decode cX5_readLayer 117 = .ok (.aload_n 0, 1) := by decide +kernel
theorem dX5_readLayer_118 : decode cX5_readLayer 118 = .ok (.getfield 12, 3) := by decide +kernel
theorem dX5_readLayer_121 : decode cX5_readLayer 121 = .ok (.iload_n 1, 1) := by decide +kernel
theorem dX5_readLayer_122 : decode cX5_readLayer 122 = .ok (.iload_n 2, 1) := by decide +kernel
theorem dX5_readLayer_123 : decode cX5_readLayer 123 = .ok (.iload 4, 2) := by decide +kernel
theorem dX5_readLayer_125 : decode cX5_readLayer 125 = .ok (.invokevirtual 139, 3) := by decide +kernel
theorem mw_266 : Cond.methodLink RX5 139 yX6_setLayer ∈ wsL_law := List.mem_of_getElem? (i := 266) (by decide +kernel)
theorem dX5_readLayer_128 : decode cX5_readLayer 128 = .ok (.aload_n 0, 1) := by decide +kernel
theorem dX5_readLayer_129 : decode cX5_readLayer 129 = .ok (.getfield 12, 3) := by decide +kernel
theorem dX5_readLayer_132 : decode cX5_readLayer 132 = .ok (.getfield 143, 3) := by decide +kernel
theorem mw_247 : Cond.fieldLink RX5 143 "ThatchNext$World" "depths" "[I" ∈ wsL_law := List.mem_of_getElem? (i := 247) (by decide +kernel)
theorem dX5_readLayer_135 : decode cX5_readLayer 135 = .ok (.iload_n 1, 1) := by decide +kernel
theorem dX5_readLayer_136 : decode cX5_readLayer 136 = .ok (.iload_n 2, 1) := by decide +kernel
theorem dX5_readLayer_137 : decode cX5_readLayer 137 = .ok (.iconst 1, 1) := by decide +kernel
theorem dX5_readLayer_138 : decode cX5_readLayer 138 = .ok (.iadd, 1) := by decide +kernel
theorem dX5_readLayer_139 : decode cX5_readLayer 139 = .ok (.iastore, 1) := by decide +kernel
theorem dX5_readLayer_140 : decode cX5_readLayer 140 = .ok (.return_, 1) := by decide +kernel
theorem dX5_readLayer_106 : decode cX5_readLayer 106 = .ok (.iload 4, 2) := by decide +kernel
theorem dX5_readLayer_108 : decode cX5_readLayer 108 = .ok (.invokestatic 136, 3) := by decide +kernel
theorem hd_yX1_withSpark : HD yX1_withSpark RX1 1 := by decide +kernel
theorem mw_263 : Cond.methodLink RX5 136 yX1_withSpark ∈ wsL_law := List.mem_of_getElem? (i := 263) (by decide +kernel)
theorem mw_264 : Cond.static yX1_withSpark ∈ wsL_law := List.mem_of_getElem? (i := 264) (by decide +kernel)
theorem mw_265 : Cond.code yX1_withSpark cX1_withSpark 1 (some .int) ∈ wsL_law := List.mem_of_getElem? (i := 265) (by decide +kernel)
theorem dX5_readLayer_111 : decode cX5_readLayer 111 = .ok (.istore 4, 2) := by decide +kernel
theorem dX5_readLayer_113 : decode cX5_readLayer 113 = .ok (.aload_n 0, 1) := by decide +kernel
theorem dX5_readLayer_114 : decode cX5_readLayer 114 = .ok (.invokevirtual 47, 3) := by decide +kernel
theorem dX5_readLayer_79 : decode cX5_readLayer 79 = .ok (.aload_n 0, 1) := by decide +kernel
theorem dX5_readLayer_80 : decode cX5_readLayer 80 = .ok (.invokevirtual 47, 3) := by decide +kernel
theorem dX5_readLayer_83 : decode cX5_readLayer 83 = .ok (.iload 4, 2) := by decide +kernel
theorem dX5_readLayer_85 : decode cX5_readLayer 85 = .ok (.aload_n 0, 1) := by decide +kernel
theorem dX5_readLayer_86 : decode cX5_readLayer 86 = .ok (.iconst 1, 1) := by decide +kernel
theorem dX5_readLayer_87 : decode cX5_readLayer 87 = .ok (.bipush 99, 2) := by decide +kernel
theorem dX5_readLayer_89 : decode cX5_readLayer 89 = .ok (.invokevirtual 79, 3) := by decide +kernel
theorem dX5_readLayer_92 : decode cX5_readLayer 92 = .ok (.invokestatic 131, 3) := by decide +kernel
theorem mw_259 : Cond.methodLink RX5 131 yX1_withMice ∈ wsL_law := List.mem_of_getElem? (i := 259) (by decide +kernel)
theorem dX5_readLayer_95 : decode cX5_readLayer 95 = .ok (.istore 4, 2) := by decide +kernel
theorem dX5_readLayer_59 : decode cX5_readLayer 59 = .ok (.iload 4, 2) := by decide +kernel
theorem dX5_readLayer_61 : decode cX5_readLayer 61 = .ok (.invokestatic 125, 3) := by decide +kernel
theorem mw_256 : Cond.methodLink RX5 125 yX1_madeWet ∈ wsL_law := List.mem_of_getElem? (i := 256) (by decide +kernel)
theorem dX5_readLayer_64 : decode cX5_readLayer 64 = .ok (.istore 4, 2) := by decide +kernel
theorem dX5_readLayer_66 : decode cX5_readLayer 66 = .ok (.aload_n 0, 1) := by decide +kernel
theorem dX5_readLayer_67 : decode cX5_readLayer 67 = .ok (.invokevirtual 47, 3) := by decide +kernel
theorem dX5_readLayer_26 : decode cX5_readLayer 26 = .ok (.iconst 1, 1) := by decide +kernel
theorem dX5_readLayer_27 : decode cX5_readLayer 27 = .ok (.goto 4, 3) := by decide +kernel
theorem dX5_readLayer_11 : decode cX5_readLayer 11 = .ok (.aload_n 0, 1) := by decide +kernel
theorem dX5_readLayer_12 : decode cX5_readLayer 12 = .ok (.iconst 4, 1) := by decide +kernel
theorem dX5_readLayer_13 : decode cX5_readLayer 13 = .ok (.invokevirtual 96, 3) := by decide +kernel
theorem dX5_readLayer_16 : decode cX5_readLayer 16 = .ok (.return_, 1) := by decide +kernel
theorem dX5_readRoof_0 : decode cX5_readRoof 0 = .ok (.aload_n 0, 1) := by decide +kernel
theorem dX5_readRoof_1 : decode cX5_readRoof 1 = .ok (.getfield 12, 3) := by decide +kernel
theorem dX5_readRoof_4 : decode cX5_readRoof 4 = .ok (.getfield 76, 3) := by decide +kernel
theorem mw_180 : Cond.fieldLink RX5 76 "ThatchNext$World" "roofs" "I" ∈ wsL_law := List.mem_of_getElem? (i := 180) (by decide +kernel)
theorem dX5_readRoof_7 : decode cX5_readRoof 7 = .ok (.bipush 10, 2) := by decide +kernel
theorem dX5_readRoof_9 : decode cX5_readRoof 9 = .ok (.if_icmp .lt 9, 3) := by decide +kernel
theorem dX5_readRoof_18 : decode cX5_readRoof 18 = .ok (.aload_n 0, 1) := by decide +kernel
theorem dX5_readRoof_19 : decode cX5_readRoof 19 = .ok (.getfield 12, 3) := by decide +kernel
theorem dX5_readRoof_22 : decode cX5_readRoof 22 = .ok (.getfield 76, 3) := by decide +kernel
theorem dX5_readRoof_25 : decode cX5_readRoof 25 = .ok (.istore_n 1, 1) := by decide +kernel
theorem dX5_readRoof_26 : decode cX5_readRoof 26 = .ok (.aload_n 0, 1) := by decide +kernel
theorem dX5_readRoof_27 : decode cX5_readRoof 27 = .ok (.getfield 12, 3) := by decide +kernel
theorem dX5_readRoof_30 : decode cX5_readRoof 30 = .ok (.dup, 1) := by decide +kernel
theorem dX5_readRoof_31 : decode cX5_readRoof 31 = .ok (.getfield 76, 3) := by decide +kernel
theorem dX5_readRoof_34 : decode cX5_readRoof 34 = .ok (.iconst 1, 1) := by decide +kernel
theorem dX5_readRoof_35 : decode cX5_readRoof 35 = .ok (.iadd, 1) := by decide +kernel
theorem dX5_readRoof_36 : decode cX5_readRoof 36 = .ok (.putfield 76, 3) := by decide +kernel
theorem dX5_readRoof_39 : decode cX5_readRoof 39 = .ok (.aload_n 0, 1) := by decide +kernel
theorem dX5_readRoof_40 : decode cX5_readRoof 40 = .ok (.invokevirtual 47, 3) := by decide +kernel
theorem dX5_readRoof_43 : decode cX5_readRoof 43 = .ok (.aload_n 0, 1) := by decide +kernel
theorem dX5_readRoof_44 : decode cX5_readRoof 44 = .ok (.ldc 106, 2) := by decide +kernel
theorem dX5_readRoof_46 : decode cX5_readRoof 46 = .ok (.invokevirtual 61, 3) := by decide +kernel
theorem dX5_readRoof_49 : decode cX5_readRoof 49 = .ok (.ifCond .eq 23, 3) := by decide +kernel
theorem dX5_readRoof_72 : decode cX5_readRoof 72 = .ok (.iconst 0, 1) := by decide +kernel
theorem dX5_readRoof_73 : decode cX5_readRoof 73 = .ok (.istore_n 2, 1) := by decide +kernel
theorem dX5_readRoof_74 : decode cX5_readRoof 74 = .ok (.iload_n 2, 1) := by decide +kernel
theorem dX5_readRoof_75 : decode cX5_readRoof 75 = .ok (.bipush 6, 2) := by decide +kernel
theorem dX5_readRoof_77 : decode cX5_readRoof 77 = .ok (.if_icmp .gt 33, 3) := by decide +kernel
theorem dX5_readRoof_110 : decode cX5_readRoof 110 = .ok (.return_, 1) := by decide +kernel
theorem dX5_readRoof_80 : decode cX5_readRoof 80 = .ok (.aload_n 0, 1) := by decide +kernel
theorem dX5_readRoof_81 : decode cX5_readRoof 81 = .ok (.ldc 84, 2) := by decide +kernel
theorem dX5_readRoof_83 : decode cX5_readRoof 83 = .ok (.invokevirtual 61, 3) := by decide +kernel
theorem dX5_readRoof_86 : decode cX5_readRoof 86 = .ok (.ifCond .ne 12, 3) := by decide +kernel
theorem dX5_readRoof_98 : decode cX5_readRoof 98 = .ok (.aload_n 0, 1) := by decide +kernel
theorem dX5_readRoof_99 : decode cX5_readRoof 99 = .ok (.iload_n 1, 1) := by decide +kernel
theorem dX5_readRoof_100 : decode cX5_readRoof 100 = .ok (.iload_n 2, 1) := by decide +kernel
theorem dX5_readRoof_101 : decode cX5_readRoof 101 = .ok (.invokevirtual 113, 3) := by decide +kernel
theorem hd_yX5_readLayer : HD yX5_readLayer RX5 2 := by decide +kernel
theorem mw_243 : Cond.methodLink RX5 113 yX5_readLayer ∈ wsL_law := List.mem_of_getElem? (i := 243) (by decide +kernel)
theorem mw_244 : Cond.instanceMethod yX5_readLayer ∈ wsL_law := List.mem_of_getElem? (i := 244) (by decide +kernel)
theorem mw_245 : Cond.selects RX5 yX5_readLayer yX5_readLayer ∈ wsL_law := List.mem_of_getElem? (i := 245) (by decide +kernel)
theorem mw_246 : Cond.code yX5_readLayer cX5_readLayer 5 none ∈ wsL_law := List.mem_of_getElem? (i := 246) (by decide +kernel)
theorem dX5_readRoof_104 : decode cX5_readRoof 104 = .ok (.iinc 2 1, 3) := by decide +kernel
theorem dX5_readRoof_107 : decode cX5_readRoof 107 = .ok (.goto (-33), 3) := by decide +kernel
theorem dX5_readRoof_89 : decode cX5_readRoof 89 = .ok (.aload_n 0, 1) := by decide +kernel
theorem dX5_readRoof_90 : decode cX5_readRoof 90 = .ok (.ldc 111, 2) := by decide +kernel
theorem dX5_readRoof_92 : decode cX5_readRoof 92 = .ok (.invokevirtual 61, 3) := by decide +kernel
theorem dX5_readRoof_95 : decode cX5_readRoof 95 = .ok (.ifCond .eq 15, 3) := by decide +kernel
theorem dX5_readRoof_52 : decode cX5_readRoof 52 = .ok (.aload_n 0, 1) := by decide +kernel
theorem dX5_readRoof_53 : decode cX5_readRoof 53 = .ok (.getfield 12, 3) := by decide +kernel
theorem dX5_readRoof_56 : decode cX5_readRoof 56 = .ok (.dup, 1) := by decide +kernel
theorem dX5_readRoof_57 : decode cX5_readRoof 57 = .ok (.getfield 108, 3) := by decide +kernel
theorem mw_242 : Cond.fieldLink RX5 108 "ThatchNext$World" "slates" "I" ∈ wsL_law := List.mem_of_getElem? (i := 242) (by decide +kernel)
theorem dX5_readRoof_60 : decode cX5_readRoof 60 = .ok (.iconst 1, 1) := by decide +kernel
theorem dX5_readRoof_61 : decode cX5_readRoof 61 = .ok (.iload_n 1, 1) := by decide +kernel
theorem dX5_readRoof_62 : decode cX5_readRoof 62 = .ok (.ishl, 1) := by decide +kernel
theorem dX5_readRoof_63 : decode cX5_readRoof 63 = .ok (.ior, 1) := by decide +kernel
theorem dX5_readRoof_64 : decode cX5_readRoof 64 = .ok (.putfield 108, 3) := by decide +kernel
theorem dX5_readRoof_67 : decode cX5_readRoof 67 = .ok (.aload_n 0, 1) := by decide +kernel
theorem dX5_readRoof_68 : decode cX5_readRoof 68 = .ok (.invokevirtual 47, 3) := by decide +kernel
theorem dX5_readRoof_71 : decode cX5_readRoof 71 = .ok (.return_, 1) := by decide +kernel
theorem dX5_readRoof_12 : decode cX5_readRoof 12 = .ok (.aload_n 0, 1) := by decide +kernel
theorem dX5_readRoof_13 : decode cX5_readRoof 13 = .ok (.iconst 4, 1) := by decide +kernel
theorem dX5_readRoof_14 : decode cX5_readRoof 14 = .ok (.invokevirtual 96, 3) := by decide +kernel
theorem dX5_readRoof_17 : decode cX5_readRoof 17 = .ok (.return_, 1) := by decide +kernel
theorem dX5_readLine_0 : decode cX5_readLine 0 = .ok (.aload_n 0, 1) := by decide +kernel
theorem dX5_readLine_1 : decode cX5_readLine 1 = .ok (.ldc 59, 2) := by decide +kernel
theorem dX5_readLine_3 : decode cX5_readLine 3 = .ok (.invokevirtual 61, 3) := by decide +kernel
theorem dX5_readLine_6 : decode cX5_readLine 6 = .ok (.ifCond .eq 10, 3) := by decide +kernel
theorem dX5_readLine_16 : decode cX5_readLine 16 = .ok (.aload_n 0, 1) := by decide +kernel
theorem dX5_readLine_17 : decode cX5_readLine 17 = .ok (.ldc 68, 2) := by decide +kernel
theorem dX5_readLine_19 : decode cX5_readLine 19 = .ok (.invokevirtual 61, 3) := by decide +kernel
theorem dX5_readLine_22 : decode cX5_readLine 22 = .ok (.ifCond .eq 18, 3) := by decide +kernel
theorem dX5_readLine_40 : decode cX5_readLine 40 = .ok (.aload_n 0, 1) := by decide +kernel
theorem dX5_readLine_41 : decode cX5_readLine 41 = .ok (.ldc 74, 2) := by decide +kernel
theorem dX5_readLine_43 : decode cX5_readLine 43 = .ok (.invokevirtual 61, 3) := by decide +kernel
theorem dX5_readLine_46 : decode cX5_readLine 46 = .ok (.ifCond .eq 34, 3) := by decide +kernel
theorem dX5_readLine_80 : decode cX5_readLine 80 = .ok (.aload_n 0, 1) := by decide +kernel
theorem dX5_readLine_81 : decode cX5_readLine 81 = .ok (.ldc 84, 2) := by decide +kernel
theorem dX5_readLine_83 : decode cX5_readLine 83 = .ok (.invokevirtual 61, 3) := by decide +kernel
theorem dX5_readLine_86 : decode cX5_readLine 86 = .ok (.ifCond .eq 38, 3) := by decide +kernel
theorem dX5_readLine_124 : decode cX5_readLine 124 = .ok (.aload_n 0, 1) := by decide +kernel
theorem dX5_readLine_125 : decode cX5_readLine 125 = .ok (.ldc 92, 2) := by decide +kernel
theorem dX5_readLine_127 : decode cX5_readLine 127 = .ok (.invokevirtual 61, 3) := by decide +kernel
theorem dX5_readLine_130 : decode cX5_readLine 130 = .ok (.ifCond .eq 24, 3) := by decide +kernel
theorem dX5_readLine_154 : decode cX5_readLine 154 = .ok (.aload_n 0, 1) := by decide +kernel
theorem dX5_readLine_155 : decode cX5_readLine 155 = .ok (.iconst 2, 1) := by decide +kernel
theorem dX5_readLine_156 : decode cX5_readLine 156 = .ok (.invokevirtual 96, 3) := by decide +kernel
theorem dX5_readLine_159 : decode cX5_readLine 159 = .ok (.aload_n 0, 1) := by decide +kernel
theorem dX5_readLine_160 : decode cX5_readLine 160 = .ok (.invokevirtual 100, 3) := by decide +kernel
theorem hd_yX5_endLine : HD yX5_endLine RX5 0 := by decide +kernel
theorem mw_270 : Cond.methodLink RX5 100 yX5_endLine ∈ wsL_law := List.mem_of_getElem? (i := 270) (by decide +kernel)
theorem mw_271 : Cond.instanceMethod yX5_endLine ∈ wsL_law := List.mem_of_getElem? (i := 271) (by decide +kernel)
theorem mw_272 : Cond.selects RX5 yX5_endLine yX5_endLine ∈ wsL_law := List.mem_of_getElem? (i := 272) (by decide +kernel)
theorem mw_273 : Cond.code yX5_endLine cX5_endLine 1 none ∈ wsL_law := List.mem_of_getElem? (i := 273) (by decide +kernel)
theorem dX5_readLine_163 : decode cX5_readLine 163 = .ok (.return_, 1) := by decide +kernel
theorem dX5_readLine_133 : decode cX5_readLine 133 = .ok (.aload_n 0, 1) := by decide +kernel
theorem dX5_readLine_134 : decode cX5_readLine 134 = .ok (.invokevirtual 47, 3) := by decide +kernel
theorem dX5_readLine_137 : decode cX5_readLine 137 = .ok (.aload_n 0, 1) := by decide +kernel
theorem dX5_readLine_138 : decode cX5_readLine 138 = .ok (.getfield 12, 3) := by decide +kernel
theorem dX5_readLine_141 : decode cX5_readLine 141 = .ok (.aload_n 0, 1) := by decide +kernel
theorem dX5_readLine_142 : decode cX5_readLine 142 = .ok (.iconst 2, 1) := by decide +kernel
theorem dX5_readLine_143 : decode cX5_readLine 143 = .ok (.bipush 6, 2) := by decide +kernel
theorem dX5_readLine_145 : decode cX5_readLine 145 = .ok (.invokevirtual 79, 3) := by decide +kernel
theorem dX5_readLine_148 : decode cX5_readLine 148 = .ok (.putfield 94, 3) := by decide +kernel
theorem mw_184 : Cond.fieldLink RX5 94 "ThatchNext$World" "odds" "I" ∈ wsL_law := List.mem_of_getElem? (i := 184) (by decide +kernel)
theorem dX5_readLine_151 : decode cX5_readLine 151 = .ok (.goto 8, 3) := by decide +kernel
theorem dX5_readLine_89 : decode cX5_readLine 89 = .ok (.aload_n 0, 1) := by decide +kernel
theorem dX5_readLine_90 : decode cX5_readLine 90 = .ok (.invokevirtual 47, 3) := by decide +kernel
theorem dX5_readLine_93 : decode cX5_readLine 93 = .ok (.aload_n 0, 1) := by decide +kernel
theorem dX5_readLine_94 : decode cX5_readLine 94 = .ok (.getfield 12, 3) := by decide +kernel
theorem dX5_readLine_97 : decode cX5_readLine 97 = .ok (.aload_n 0, 1) := by decide +kernel
theorem dX5_readLine_98 : decode cX5_readLine 98 = .ok (.iconst 1, 1) := by decide +kernel
theorem dX5_readLine_99 : decode cX5_readLine 99 = .ok (.bipush 30, 2) := by decide +kernel
theorem dX5_readLine_101 : decode cX5_readLine 101 = .ok (.invokevirtual 79, 3) := by decide +kernel
theorem dX5_readLine_104 : decode cX5_readLine 104 = .ok (.putfield 86, 3) := by decide +kernel
theorem mw_182 : Cond.fieldLink RX5 86 "ThatchNext$World" "reedYears" "I" ∈ wsL_law := List.mem_of_getElem? (i := 182) (by decide +kernel)
theorem dX5_readLine_107 : decode cX5_readLine 107 = .ok (.aload_n 0, 1) := by decide +kernel
theorem dX5_readLine_108 : decode cX5_readLine 108 = .ok (.getfield 12, 3) := by decide +kernel
theorem dX5_readLine_111 : decode cX5_readLine 111 = .ok (.aload_n 0, 1) := by decide +kernel
theorem dX5_readLine_112 : decode cX5_readLine 112 = .ok (.iconst 1, 1) := by decide +kernel
theorem dX5_readLine_113 : decode cX5_readLine 113 = .ok (.bipush 30, 2) := by decide +kernel
theorem dX5_readLine_115 : decode cX5_readLine 115 = .ok (.invokevirtual 79, 3) := by decide +kernel
theorem dX5_readLine_118 : decode cX5_readLine 118 = .ok (.putfield 89, 3) := by decide +kernel
theorem mw_183 : Cond.fieldLink RX5 89 "ThatchNext$World" "strawYears" "I" ∈ wsL_law := List.mem_of_getElem? (i := 183) (by decide +kernel)
theorem dX5_readLine_121 : decode cX5_readLine 121 = .ok (.goto 38, 3) := by decide +kernel
theorem dX5_readLine_49 : decode cX5_readLine 49 = .ok (.aload_n 0, 1) := by decide +kernel
theorem dX5_readLine_50 : decode cX5_readLine 50 = .ok (.getfield 12, 3) := by decide +kernel
theorem dX5_readLine_53 : decode cX5_readLine 53 = .ok (.getfield 76, 3) := by decide +kernel
theorem dX5_readLine_56 : decode cX5_readLine 56 = .ok (.ifCond .ne 24, 3) := by decide +kernel
theorem dX5_readLine_59 : decode cX5_readLine 59 = .ok (.aload_n 0, 1) := by decide +kernel
theorem dX5_readLine_60 : decode cX5_readLine 60 = .ok (.invokevirtual 47, 3) := by decide +kernel
theorem dX5_readLine_63 : decode cX5_readLine 63 = .ok (.aload_n 0, 1) := by decide +kernel
theorem dX5_readLine_64 : decode cX5_readLine 64 = .ok (.getfield 12, 3) := by decide +kernel
theorem dX5_readLine_67 : decode cX5_readLine 67 = .ok (.aload_n 0, 1) := by decide +kernel
theorem dX5_readLine_68 : decode cX5_readLine 68 = .ok (.iconst 1, 1) := by decide +kernel
theorem dX5_readLine_69 : decode cX5_readLine 69 = .ok (.bipush 6, 2) := by decide +kernel
theorem dX5_readLine_71 : decode cX5_readLine 71 = .ok (.invokevirtual 79, 3) := by decide +kernel
theorem dX5_readLine_74 : decode cX5_readLine 74 = .ok (.putfield 82, 3) := by decide +kernel
theorem dX5_readLine_77 : decode cX5_readLine 77 = .ok (.goto 82, 3) := by decide +kernel
theorem dX5_readLine_25 : decode cX5_readLine 25 = .ok (.aload_n 0, 1) := by decide +kernel
theorem dX5_readLine_26 : decode cX5_readLine 26 = .ok (.getfield 12, 3) := by decide +kernel
theorem dX5_readLine_29 : decode cX5_readLine 29 = .ok (.iconst 1, 1) := by decide +kernel
theorem dX5_readLine_30 : decode cX5_readLine 30 = .ok (.putfield 70, 3) := by decide +kernel
theorem mw_179 : Cond.fieldLink RX5 70 "ThatchNext$World" "isRing" "Z" ∈ wsL_law := List.mem_of_getElem? (i := 179) (by decide +kernel)
theorem dX5_readLine_33 : decode cX5_readLine 33 = .ok (.aload_n 0, 1) := by decide +kernel
theorem dX5_readLine_34 : decode cX5_readLine 34 = .ok (.invokevirtual 47, 3) := by decide +kernel
theorem dX5_readLine_37 : decode cX5_readLine 37 = .ok (.goto 122, 3) := by decide +kernel
theorem dX5_readLine_9 : decode cX5_readLine 9 = .ok (.aload_n 0, 1) := by decide +kernel
theorem dX5_readLine_10 : decode cX5_readLine 10 = .ok (.invokevirtual 65, 3) := by decide +kernel
theorem hd_yX5_readRoof : HD yX5_readRoof RX5 0 := by decide +kernel
theorem mw_238 : Cond.methodLink RX5 65 yX5_readRoof ∈ wsL_law := List.mem_of_getElem? (i := 238) (by decide +kernel)
theorem mw_239 : Cond.instanceMethod yX5_readRoof ∈ wsL_law := List.mem_of_getElem? (i := 239) (by decide +kernel)
theorem mw_240 : Cond.selects RX5 yX5_readRoof yX5_readRoof ∈ wsL_law := List.mem_of_getElem? (i := 240) (by decide +kernel)
theorem mw_241 : Cond.code yX5_readRoof cX5_readRoof 3 none ∈ wsL_law := List.mem_of_getElem? (i := 241) (by decide +kernel)
theorem dX5_readLine_13 : decode cX5_readLine 13 = .ok (.goto 146, 3) := by decide +kernel
theorem dX5_read_0 : decode cX5_read 0 = .ok (.aload_n 0, 1) := by decide +kernel
theorem dX5_read_1 : decode cX5_read 1 = .ok (.iload_n 1, 1) := by decide +kernel
theorem dX5_read_2 : decode cX5_read 2 = .ok (.sipush 900, 3) := by decide +kernel
theorem dX5_read_5 : decode cX5_read 5 = .ok (.invokestatic 29, 3) := by decide +kernel
theorem mw_140 : Cond.methodLink RX5 29 Lib.Math.min.name ∈ wsL_law := List.mem_of_getElem? (i := 140) (by decide +kernel)
theorem dX5_read_8 : decode cX5_read 8 = .ok (.putfield 35, 3) := by decide +kernel
theorem dX5_read_11 : decode cX5_read 11 = .ok (.aload_n 0, 1) := by decide +kernel
theorem dX5_read_12 : decode cX5_read 12 = .ok (.iconst 0, 1) := by decide +kernel
theorem dX5_read_13 : decode cX5_read 13 = .ok (.putfield 26, 3) := by decide +kernel
theorem dX5_read_16 : decode cX5_read 16 = .ok (.aload_n 0, 1) := by decide +kernel
theorem dX5_read_17 : decode cX5_read 17 = .ok (.getfield 12, 3) := by decide +kernel
theorem dX5_read_20 : decode cX5_read 20 = .ok (.invokevirtual 38, 3) := by decide +kernel
theorem hd_yX6_clear : HD yX6_clear RX6 0 := by decide +kernel
theorem mw_148 : Cond.methodLink RX5 38 yX6_clear ∈ wsL_law := List.mem_of_getElem? (i := 148) (by decide +kernel)
theorem mw_149 : Cond.instanceMethod yX6_clear ∈ wsL_law := List.mem_of_getElem? (i := 149) (by decide +kernel)
theorem mw_150 : Cond.selects RX6 yX6_clear yX6_clear ∈ wsL_law := List.mem_of_getElem? (i := 150) (by decide +kernel)
theorem mw_151 : Cond.code yX6_clear cX6_clear 2 none ∈ wsL_law := List.mem_of_getElem? (i := 151) (by decide +kernel)
theorem dX5_read_23 : decode cX5_read 23 = .ok (.aload_n 0, 1) := by decide +kernel
theorem dX5_read_24 : decode cX5_read 24 = .ok (.iconst 0, 1) := by decide +kernel
theorem dX5_read_25 : decode cX5_read 25 = .ok (.putfield 41, 3) := by decide +kernel
theorem dX5_read_28 : decode cX5_read 28 = .ok (.aload_n 0, 1) := by decide +kernel
theorem dX5_read_29 : decode cX5_read 29 = .ok (.iconst (-1), 1) := by decide +kernel
theorem dX5_read_30 : decode cX5_read 30 = .ok (.putfield 18, 3) := by decide +kernel
theorem dX5_read_33 : decode cX5_read 33 = .ok (.aload_n 0, 1) := by decide +kernel
theorem dX5_read_34 : decode cX5_read 34 = .ok (.iconst 0, 1) := by decide +kernel
theorem dX5_read_35 : decode cX5_read 35 = .ok (.putfield 44, 3) := by decide +kernel
theorem dX5_read_38 : decode cX5_read 38 = .ok (.aload_n 0, 1) := by decide +kernel
theorem dX5_read_39 : decode cX5_read 39 = .ok (.invokevirtual 47, 3) := by decide +kernel
theorem dX5_read_42 : decode cX5_read 42 = .ok (.iconst 0, 1) := by decide +kernel
theorem dX5_read_43 : decode cX5_read 43 = .ok (.istore_n 2, 1) := by decide +kernel
theorem dX5_read_44 : decode cX5_read 44 = .ok (.iload_n 2, 1) := by decide +kernel
theorem dX5_read_45 : decode cX5_read 45 = .ok (.aload_n 0, 1) := by decide +kernel
theorem dX5_read_46 : decode cX5_read 46 = .ok (.getfield 35, 3) := by decide +kernel
theorem dX5_read_49 : decode cX5_read 49 = .ok (.if_icmp .gt 28, 3) := by decide +kernel
theorem dX5_read_77 : decode cX5_read 77 = .ok (.return_, 1) := by decide +kernel
theorem dX5_read_52 : decode cX5_read 52 = .ok (.aload_n 0, 1) := by decide +kernel
theorem dX5_read_53 : decode cX5_read 53 = .ok (.getfield 41, 3) := by decide +kernel
theorem dX5_read_56 : decode cX5_read 56 = .ok (.ifCond .ne 21, 3) := by decide +kernel
theorem dX5_read_59 : decode cX5_read 59 = .ok (.aload_n 0, 1) := by decide +kernel
theorem dX5_read_60 : decode cX5_read 60 = .ok (.getfield 50, 3) := by decide +kernel
theorem dX5_read_63 : decode cX5_read 63 = .ok (.iconst 1, 1) := by decide +kernel
theorem dX5_read_64 : decode cX5_read 64 = .ok (.if_icmp .eq 13, 3) := by decide +kernel
theorem dX5_read_67 : decode cX5_read 67 = .ok (.aload_n 0, 1) := by decide +kernel
theorem dX5_read_68 : decode cX5_read 68 = .ok (.invokevirtual 53, 3) := by decide +kernel
theorem hd_yX5_readLine : HD yX5_readLine RX5 0 := by decide +kernel
theorem mw_175 : Cond.methodLink RX5 53 yX5_readLine ∈ wsL_law := List.mem_of_getElem? (i := 175) (by decide +kernel)
theorem mw_176 : Cond.instanceMethod yX5_readLine ∈ wsL_law := List.mem_of_getElem? (i := 176) (by decide +kernel)
theorem mw_177 : Cond.selects RX5 yX5_readLine yX5_readLine ∈ wsL_law := List.mem_of_getElem? (i := 177) (by decide +kernel)
theorem mw_178 : Cond.code yX5_readLine cX5_readLine 1 none ∈ wsL_law := List.mem_of_getElem? (i := 178) (by decide +kernel)
theorem dX5_read_71 : decode cX5_read 71 = .ok (.iinc 2 1, 3) := by decide +kernel
theorem dX5_read_74 : decode cX5_read 74 = .ok (.goto (-30), 3) := by decide +kernel
set_option maxHeartbeats 4000000 in
set_option maxRecDepth 100000 in
theorem s_S_coder (l : Launch) (D : va_G) (k : Nat → ClassId) (ak : Nat → Nat) (av : Nat → Nat) (wi : Nat) (hwi : wi < 11) : Met l yJ0_coder_7d493 (Cond.code yJ0_coder_7d493 cJ0_coder_7d493 1 (some .byte) :: wsL_law) ({ frames := 0, cells := 0, slots := 0, locals := 0 } : Room) (va_Pc [.ref (ak wi)] (prs ak av D k [])) (vp_Si (fun rr => rr = 0)) 0 0 (fun _ => False) := by
  refine Met.ofW (cc := cJ0_coder_7d493) (maxL := 1) (ret := (some .byte)) (by decide) rfl ?_
  intro p e s m args below meth c s₁ B hml hv
  obtain ⟨rfl, hP, hK, hN0, hW0⟩ := hv
  have hS : va_S (fun _ => False) s.heap s.heap [] := va_S.rf
  have hx := B.exec
  have hb := B.bytes
  have hr := B.returns
  have hts : ∀ w ∈ wsL_law, w.before _ s = true := fun w h => atoms_spec (ws := Cond.code yJ0_coder_7d493 cJ0_coder_7d493 1 (some .byte) :: wsL_law) B.pre w (List.mem_cons_of_mem _ h)
  have hown : s.vm.findClass RJ0 = some m.cls := findClass_of_methodNamed B.named
  have hlocks := B.notSynchronized
  have hP : va_P D vwCl [] s.heap := hP
  have hl := lv_entry ([.ref (ak wi)]) (n := 1) (Nat.le_of_ble_eq_true rfl)
  rw [lg_entry_eq]
  generalize (lg_sl ([.ref (ak wi)]) ++ List.replicate (1 - (lg_sl ([.ref (ak wi)])).length) Slot.unset).toArray = ls at hl ⊢
  have hl : lv_has ls 1 [(0, .ref (ak wi))] := hl
  refine va_gets (v := .int 1) hx hb hW0.1 hS hown (hts _ mw_199) (fun _ h9 => h9) dJ0_coder_7d493_0 ?_
  refine lv_if_eq (tgt := 13) hx hb dJ0_coder_7d493_3 (by decide) (fun c9 => absurd c9 (by decide)) (fun _ => ?_)
  refine lv_aload_n hx hb dJ0_coder_7d493_6 rfl (lv_at hl 0 rfl) ?_
  refine vk_getf (v := .int 0) hx hb (hW0.2.2.1.1 wi (by omega)).2.1 hS hown (hts _ mw_200) (fun _ h9 => h9) dJ0_coder_7d493_7 ?_
  refine lv_goto (tgt := 14) hx hb dJ0_coder_7d493_10 (by decide) ?_
  exact W.zret (v := 0) hx hb hr rfl (fun t ht hW => ⟨0, rfl, rfl, ht⟩) (fun q h => by cases h) dJ0_coder_7d493_14
set_option maxHeartbeats 4000000 in
set_option maxRecDepth 100000 in
theorem s_S_length (l : Launch) (D : va_G) (k : Nat → ClassId) (ak : Nat → Nat) (av : Nat → Nat) (wi : Nat) (hwi : wi < 11) : Met l yJ0_length_8abf5 (Cond.code yJ0_length_8abf5 cJ0_length_8abf5 1 (some .int) :: wsL_law) ({ frames := 1, cells := 0, slots := 0, locals := 60 } : Room) (va_Pc [.ref (ak wi)] (prs ak av D k [])) (vp_Si (fun rr => rr = (LN wi))) 0 0 (fun _ => False) := by
  refine Met.ofW (cc := cJ0_length_8abf5) (maxL := 1) (ret := (some .int)) (by decide) rfl ?_
  intro p e s m args below meth c s₁ B hml hv
  obtain ⟨rfl, hP, hK, hN0, hW0⟩ := hv
  have hS : va_S (fun _ => False) s.heap s.heap [] := va_S.rf
  have hx := B.exec
  have hb := B.bytes
  have hr := B.returns
  have hts : ∀ w ∈ wsL_law, w.before _ s = true := fun w h => atoms_spec (ws := Cond.code yJ0_length_8abf5 cJ0_length_8abf5 1 (some .int) :: wsL_law) B.pre w (List.mem_cons_of_mem _ h)
  have hown : s.vm.findClass RJ0 = some m.cls := findClass_of_methodNamed B.named
  have hlocks := B.notSynchronized
  have hP : va_P D vwCl [] s.heap := hP
  have hl := lv_entry ([.ref (ak wi)]) (n := 1) (Nat.le_of_ble_eq_true rfl)
  rw [lg_entry_eq]
  generalize (lg_sl ([.ref (ak wi)]) ++ List.replicate (1 - (lg_sl ([.ref (ak wi)])).length) Slot.unset).toArray = ls at hl ⊢
  have hl : lv_has ls 1 [(0, .ref (ak wi))] := hl
  refine lv_aload_n hx hb dJ0_length_8abf5_0 rfl (lv_at hl 0 rfl) ?_
  refine vk_getf (v := .ref (av wi)) hx hb (hW0.2.2.1.1 wi (by omega)).2.2.1 hS hown (hts _ mw_194) (fun _ h9 => h9) dJ0_length_8abf5_1 ?_
  refine va_tlen (v := LN wi) hx hb (hW0.2.2.1.1 wi (by omega)).2.2.2 hS rfl dJ0_length_8abf5_4 ?_
  refine lv_aload_n hx hb dJ0_length_8abf5_5 rfl (lv_at hl 0 rfl) ?_
  refine kT_is (As := []) (rest := [.int (LN wi)]) ⟨hx, hb, hml, hown, hts⟩ (s_S_coder l D k ak av _ (by omega)) (gV mw_195 mw_196 mw_197 mw_192 mw_198) hd_yJ0_coder_7d493 rfl rfl ⟨Nat.le_of_ble_eq_true rfl, Nat.le_of_ble_eq_true rfl⟩ hK hN0 hW0 hS (hP.sub [] rfl) (by omega) rfl rfl hl.1 rfl (Nat.le_of_ble_eq_true rfl) dJ0_length_8abf5_6 ⟨Nat.le_of_ble_eq_true rfl, Nat.le_of_ble_eq_true rfl⟩ (fun r_1 hr_1 => ?_)
  obtain rfl : r_1 = 0 := hr_1
  refine lv_ishr hx hb dJ0_length_8abf5_9 ?_
  refine lv_ni (v := (LN wi)) (shr_0 _) ?_
  exact W.iret (v := (LN wi)) hx hb hr (fun t ht hW => ⟨(LN wi), rfl, rfl, ht⟩) (fun q h => by cases h) dJ0_length_8abf5_10
set_option maxHeartbeats 4000000 in
set_option maxRecDepth 100000 in
theorem s_S_isLatin1 (l : Launch) (D : va_G) (k : Nat → ClassId) (ak : Nat → Nat) (av : Nat → Nat) (wi : Nat) (hwi : wi < 11) : Met l yJ0_isLatin1_aae02 (Cond.code yJ0_isLatin1_aae02 cJ0_isLatin1_aae02 1 (some .boolean) :: wsL_law) ({ frames := 0, cells := 0, slots := 0, locals := 0 } : Room) (va_Pc [.ref (ak wi)] (prs ak av D k [])) (vp_Si (fun rr => rr = 1)) 0 0 (fun _ => False) := by
  refine Met.ofW (cc := cJ0_isLatin1_aae02) (maxL := 1) (ret := (some .boolean)) (by decide) rfl ?_
  intro p e s m args below meth c s₁ B hml hv
  obtain ⟨rfl, hP, hK, hN0, hW0⟩ := hv
  have hS : va_S (fun _ => False) s.heap s.heap [] := va_S.rf
  have hx := B.exec
  have hb := B.bytes
  have hr := B.returns
  have hts : ∀ w ∈ wsL_law, w.before _ s = true := fun w h => atoms_spec (ws := Cond.code yJ0_isLatin1_aae02 cJ0_isLatin1_aae02 1 (some .boolean) :: wsL_law) B.pre w (List.mem_cons_of_mem _ h)
  have hown : s.vm.findClass RJ0 = some m.cls := findClass_of_methodNamed B.named
  have hlocks := B.notSynchronized
  have hP : va_P D vwCl [] s.heap := hP
  have hl := lv_entry ([.ref (ak wi)]) (n := 1) (Nat.le_of_ble_eq_true rfl)
  rw [lg_entry_eq]
  generalize (lg_sl ([.ref (ak wi)]) ++ List.replicate (1 - (lg_sl ([.ref (ak wi)])).length) Slot.unset).toArray = ls at hl ⊢
  have hl : lv_has ls 1 [(0, .ref (ak wi))] := hl
  refine va_gets (v := .int 1) hx hb hW0.1 hS hown (hts _ mw_199) (fun _ h9 => h9) dJ0_isLatin1_aae02_0 ?_
  refine lv_if_eq (tgt := 17) hx hb dJ0_isLatin1_aae02_3 (by decide) (fun c9 => absurd c9 (by decide)) (fun _ => ?_)
  refine lv_aload_n hx hb dJ0_isLatin1_aae02_6 rfl (lv_at hl 0 rfl) ?_
  refine vk_getf (v := .int 0) hx hb (hW0.2.2.1.1 wi (by omega)).2.1 hS hown (hts _ mw_200) (fun _ h9 => h9) dJ0_isLatin1_aae02_7 ?_
  refine lv_if_ne (tgt := 17) hx hb dJ0_isLatin1_aae02_10 (by decide) (fun c9 => absurd c9 (by decide)) (fun _ => ?_)
  refine lv_iconst (v := 1) hx hb dJ0_isLatin1_aae02_13 (by decide) ?_
  refine lv_goto (tgt := 18) hx hb dJ0_isLatin1_aae02_14 (by decide) ?_
  exact W.zret (v := 1) hx hb hr rfl (fun t ht hW => ⟨1, rfl, rfl, ht⟩) (fun q h => by cases h) dJ0_isLatin1_aae02_18
set_option maxHeartbeats 4000000 in
set_option maxRecDepth 100000 in
theorem s_S_ck3R (l : Launch) (D : va_G) (k : Nat → ClassId) (x : Int32) (z : Int32) (qa : Nat) (hx0 : 0 ≤ x.toInt) (hx1 : x.toInt < z.toInt) : Met l yJ3_checkIndex_8e157 (Cond.code yJ3_checkIndex_8e157 cJ3_checkIndex_8e157 3 (some .int) :: wsL_law) ({ frames := 0, cells := 0, slots := 0, locals := 0 } : Room) (va_Pc [.int x, .int z, .ref qa] (pr D k [])) (vp_Si (fun rr => True)) 0 0 (fun _ => False) := by
  refine Met.ofW (cc := cJ3_checkIndex_8e157) (maxL := 3) (ret := (some .int)) (by decide) rfl ?_
  intro p e s m args below meth c s₁ B hml hv
  obtain ⟨rfl, hP, hK, hN0⟩ := hv
  have hx := B.exec
  have hb := B.bytes
  have hr := B.returns
  have hts : ∀ w ∈ wsL_law, w.before _ s = true := fun w h => atoms_spec (ws := Cond.code yJ3_checkIndex_8e157 cJ3_checkIndex_8e157 3 (some .int) :: wsL_law) B.pre w (List.mem_cons_of_mem _ h)
  have hown : s.vm.findClass RJ3 = some m.cls := findClass_of_methodNamed B.named
  have hlocks := B.notSynchronized
  have hP : va_P D vwCl [] s.heap := hP
  have hl := lv_entry ([.int x, .int z, .ref qa]) (n := 3) (Nat.le_of_ble_eq_true rfl)
  rw [lg_entry_eq]
  generalize (lg_sl ([.int x, .int z, .ref qa]) ++ List.replicate (3 - (lg_sl ([.int x, .int z, .ref qa])).length) Slot.unset).toArray = ls at hl ⊢
  have hl : lv_has ls 3 [(0, .int x), (1, .int z), (2, .ref qa)] := hl
  refine lv_iload_n hx hb dJ3_checkIndex_8e157_0 rfl (lv_at hl 0 rfl) ?_
  refine lv_if_lt (tgt := 9) hx hb dJ3_checkIndex_8e157_1 (by decide) (fun c_1 => by have q := ti_lt c_1; have q : x.toInt < 0 := q; exfalso; omega) (fun c_1 => ?_)
  have c_1 : 0 ≤ x.toInt := ti_nlt c_1
  refine lv_iload_n hx hb dJ3_checkIndex_8e157_4 rfl (lv_at hl 0 rfl) ?_
  refine lv_iload_n hx hb dJ3_checkIndex_8e157_5 rfl (lv_at hl 1 rfl) ?_
  refine lv_icmp_lt (tgt := 16) hx hb dJ3_checkIndex_8e157_6 (by decide) (fun c_2 => ?_) (fun c_2 => by have q := ti_nlt c_2; have q : z.toInt ≤ x.toInt := q; exfalso; omega)
  have c_2 : x.toInt < z.toInt := ti_lt c_2
  refine lv_iload_n hx hb dJ3_checkIndex_8e157_16 rfl (lv_at hl 0 rfl) ?_
  exact W.iret (v := x) hx hb hr (fun t ht hW => ⟨x, rfl, trivial, ht⟩) (fun q h => by cases h) dJ3_checkIndex_8e157_17
set_option maxHeartbeats 4000000 in
set_option maxRecDepth 100000 in
theorem s_S_ck3N (l : Launch) (D : va_G) (k : Nat → ClassId) (x : Int32) (z : Int32) (hx0 : 0 ≤ x.toInt) (hx1 : x.toInt < z.toInt) : Met l yJ3_checkIndex_8e157 (Cond.code yJ3_checkIndex_8e157 cJ3_checkIndex_8e157 3 (some .int) :: wsL_law) ({ frames := 0, cells := 0, slots := 0, locals := 0 } : Room) (va_Pc [.int x, .int z, .null] (pr D k [])) (vp_Si (fun rr => True)) 0 0 (fun _ => False) := by
  refine Met.ofW (cc := cJ3_checkIndex_8e157) (maxL := 3) (ret := (some .int)) (by decide) rfl ?_
  intro p e s m args below meth c s₁ B hml hv
  obtain ⟨rfl, hP, hK, hN0⟩ := hv
  have hx := B.exec
  have hb := B.bytes
  have hr := B.returns
  have hts : ∀ w ∈ wsL_law, w.before _ s = true := fun w h => atoms_spec (ws := Cond.code yJ3_checkIndex_8e157 cJ3_checkIndex_8e157 3 (some .int) :: wsL_law) B.pre w (List.mem_cons_of_mem _ h)
  have hown : s.vm.findClass RJ3 = some m.cls := findClass_of_methodNamed B.named
  have hlocks := B.notSynchronized
  have hP : va_P D vwCl [] s.heap := hP
  have hl := lv_entry ([.int x, .int z, .null]) (n := 3) (Nat.le_of_ble_eq_true rfl)
  rw [lg_entry_eq]
  generalize (lg_sl ([.int x, .int z, .null]) ++ List.replicate (3 - (lg_sl ([.int x, .int z, .null])).length) Slot.unset).toArray = ls at hl ⊢
  have hl : lv_has ls 3 [(0, .int x), (1, .int z), (2, .null)] := hl
  refine lv_iload_n hx hb dJ3_checkIndex_8e157_0 rfl (lv_at hl 0 rfl) ?_
  refine lv_if_lt (tgt := 9) hx hb dJ3_checkIndex_8e157_1 (by decide) (fun c_1 => by have q := ti_lt c_1; have q : x.toInt < 0 := q; exfalso; omega) (fun c_1 => ?_)
  have c_1 : 0 ≤ x.toInt := ti_nlt c_1
  refine lv_iload_n hx hb dJ3_checkIndex_8e157_4 rfl (lv_at hl 0 rfl) ?_
  refine lv_iload_n hx hb dJ3_checkIndex_8e157_5 rfl (lv_at hl 1 rfl) ?_
  refine lv_icmp_lt (tgt := 16) hx hb dJ3_checkIndex_8e157_6 (by decide) (fun c_2 => ?_) (fun c_2 => by have q := ti_nlt c_2; have q : z.toInt ≤ x.toInt := q; exfalso; omega)
  have c_2 : x.toInt < z.toInt := ti_lt c_2
  refine lv_iload_n hx hb dJ3_checkIndex_8e157_16 rfl (lv_at hl 0 rfl) ?_
  exact W.iret (v := x) hx hb hr (fun t ht hW => ⟨x, rfl, trivial, ht⟩) (fun q h => by cases h) dJ3_checkIndex_8e157_17
set_option maxHeartbeats 4000000 in
set_option maxRecDepth 100000 in
theorem s_S_ck0 (l : Launch) (D : va_G) (k : Nat → ClassId) (ak : Nat → Nat) (av : Nat → Nat) (x : Int32) (z : Int32) (hx0 : 0 ≤ x.toInt) (hx1 : x.toInt < z.toInt) : Met l yJ0_checkIndex_df160 (Cond.code yJ0_checkIndex_df160 cJ0_checkIndex_df160 2 none :: wsL_law) ({ frames := 1, cells := 0, slots := 0, locals := 60 } : Room) (va_Pc [.int x, .int z] (prs ak av D k [])) vp_Sn 0 0 (fun _ => False) := by
  refine Met.ofW (cc := cJ0_checkIndex_df160) (maxL := 2) (ret := none) (by decide) rfl ?_
  intro p e s m args below meth c s₁ B hml hv
  obtain ⟨rfl, hP, hK, hN0, hW0⟩ := hv
  have hS : va_S (fun _ => False) s.heap s.heap [] := va_S.rf
  have hx := B.exec
  have hb := B.bytes
  have hr := B.returns
  have hts : ∀ w ∈ wsL_law, w.before _ s = true := fun w h => atoms_spec (ws := Cond.code yJ0_checkIndex_df160 cJ0_checkIndex_df160 2 none :: wsL_law) B.pre w (List.mem_cons_of_mem _ h)
  have hown : s.vm.findClass RJ0 = some m.cls := findClass_of_methodNamed B.named
  have hlocks := B.notSynchronized
  have hP : va_P D vwCl [] s.heap := hP
  have hl := lv_entry ([.int x, .int z]) (n := 2) (Nat.le_of_ble_eq_true rfl)
  rw [lg_entry_eq]
  generalize (lg_sl ([.int x, .int z]) ++ List.replicate (2 - (lg_sl ([.int x, .int z])).length) Slot.unset).toArray = ls at hl ⊢
  have hl : lv_has ls 2 [(0, .int x), (1, .int z)] := hl
  refine lv_iload_n hx hb dJ0_checkIndex_df160_0 rfl (lv_at hl 0 rfl) ?_
  refine lv_iload_n hx hb dJ0_checkIndex_df160_1 rfl (lv_at hl 1 rfl) ?_
  rcases hW0.2.1 with hz_1 | ⟨t_2, hz_1⟩
  · refine va_gets (v := .null) hx hb hz_1 hS hown (hts _ mw_216) (fun _ h9 => h9) dJ0_checkIndex_df160_2 ?_
    refine kS_i (As := [.int x, .int z, .null]) (rest := []) ⟨hx, hb, hml, hown, hts⟩ (s_S_ck3N l D k x z (show 0 ≤ x.toInt from by omega) (show x.toInt < z.toInt from by omega)) (gS mw_217 mw_218 mw_219 mw_220) hd_yJ3_checkIndex_8e157 rfl rfl ⟨Nat.le_of_ble_eq_true rfl, Nat.le_of_ble_eq_true rfl⟩ hK hN0 (hP.sub [] rfl) rfl hl.1 rfl (Nat.le_of_ble_eq_true rfl) dJ0_checkIndex_df160_5 ⟨Nat.le_of_ble_eq_true rfl, Nat.le_of_ble_eq_true rfl⟩ (fun r_3 hr_3 => ?_)
    refine lv_pop hx hb dJ0_checkIndex_df160_8 rfl ?_
    exact W.vret hx hb hr (fun t ht hW => ⟨rfl, ht⟩) (fun q h => by cases h) dJ0_checkIndex_df160_9
  · refine va_gets (v := .ref t_2) hx hb hz_1 hS hown (hts _ mw_216) (fun _ h9 => h9) dJ0_checkIndex_df160_2 ?_
    refine kS_i (As := [.int x, .int z, .ref t_2]) (rest := []) ⟨hx, hb, hml, hown, hts⟩ (s_S_ck3R l D k x z t_2 (show 0 ≤ x.toInt from by omega) (show x.toInt < z.toInt from by omega)) (gS mw_217 mw_218 mw_219 mw_220) hd_yJ3_checkIndex_8e157 rfl rfl ⟨Nat.le_of_ble_eq_true rfl, Nat.le_of_ble_eq_true rfl⟩ hK hN0 (hP.sub [] rfl) rfl hl.1 rfl (Nat.le_of_ble_eq_true rfl) dJ0_checkIndex_df160_5 ⟨Nat.le_of_ble_eq_true rfl, Nat.le_of_ble_eq_true rfl⟩ (fun r_4 hr_4 => ?_)
    refine lv_pop hx hb dJ0_checkIndex_df160_8 rfl ?_
    exact W.vret hx hb hr (fun t ht hW => ⟨rfl, ht⟩) (fun q h => by cases h) dJ0_checkIndex_df160_9
set_option maxHeartbeats 4000000 in
set_option maxRecDepth 100000 in
theorem s_S_charAt1 (l : Launch) (D : va_G) (k : Nat → ClassId) (ak : Nat → Nat) (av : Nat → Nat) (wi : Nat) (x : Int32) (hwi : wi < 11) (hx0 : 0 ≤ x.toInt) (hx1 : x.toInt < (LN wi).toInt) : Met l yJ1_charAt_3b067 (Cond.code yJ1_charAt_3b067 cJ1_charAt_3b067 2 (some .char) :: wsL_law) ({ frames := 2, cells := 0, slots := 0, locals := 120 } : Room) (va_Pc [.ref (av wi), .int x] (prs ak av D k [])) (vp_Si (fun rr => rr = (SC wi x))) 0 0 (fun _ => False) := by
  refine Met.ofW (cc := cJ1_charAt_3b067) (maxL := 2) (ret := (some .char)) (by decide) rfl ?_
  intro p e s m args below meth c s₁ B hml hv
  obtain ⟨rfl, hP, hK, hN0, hW0⟩ := hv
  have hS : va_S (fun _ => False) s.heap s.heap [] := va_S.rf
  have hx := B.exec
  have hb := B.bytes
  have hr := B.returns
  have hts : ∀ w ∈ wsL_law, w.before _ s = true := fun w h => atoms_spec (ws := Cond.code yJ1_charAt_3b067 cJ1_charAt_3b067 2 (some .char) :: wsL_law) B.pre w (List.mem_cons_of_mem _ h)
  have hown : s.vm.findClass RJ1 = some m.cls := findClass_of_methodNamed B.named
  have hlocks := B.notSynchronized
  have hP : va_P D vwCl [] s.heap := hP
  have hl := lv_entry ([.ref (av wi), .int x]) (n := 2) (Nat.le_of_ble_eq_true rfl)
  rw [lg_entry_eq]
  generalize (lg_sl ([.ref (av wi), .int x]) ++ List.replicate (2 - (lg_sl ([.ref (av wi), .int x])).length) Slot.unset).toArray = ls at hl ⊢
  have hl : lv_has ls 2 [(0, .ref (av wi)), (1, .int x)] := hl
  refine lv_iload_n hx hb dJ1_charAt_3b067_0 rfl (lv_at hl 1 rfl) ?_
  refine lv_aload_n hx hb dJ1_charAt_3b067_1 rfl (lv_at hl 0 rfl) ?_
  refine va_tlen (v := LN wi) hx hb (hW0.2.2.1.1 wi (by omega)).2.2.2 hS rfl dJ1_charAt_3b067_2 ?_
  refine kS_ns (As := [.int x, .int (LN wi)]) (rest := []) ⟨hx, hb, hml, hown, hts⟩ (s_S_ck0 l D k ak av x (LN wi) (show 0 ≤ x.toInt from by omega) (show x.toInt < (LN wi).toInt from by omega)) (gS mw_213 mw_214 mw_192 mw_215) hd_yJ0_checkIndex_df160 rfl rfl ⟨Nat.le_of_ble_eq_true rfl, Nat.le_of_ble_eq_true rfl⟩ hK hN0 hW0 hS (hP.sub [] rfl) rfl hl.1 rfl (Nat.le_of_ble_eq_true rfl) dJ1_charAt_3b067_3 ⟨Nat.le_of_ble_eq_true rfl, Nat.le_of_ble_eq_true rfl⟩ (?_)
  refine lv_aload_n hx hb dJ1_charAt_3b067_6 rfl (lv_at hl 0 rfl) ?_
  refine lv_iload_n hx hb dJ1_charAt_3b067_7 rfl (lv_at hl 1 rfl) ?_
  refine va_tb (v := .int ((bytS.getD wi []).getD x.toNatClampNeg 0)) hx hb (hW0.2.2.1.1 wi (by omega)).2.2.2 hS (vp_in_o (by omega) (by have q := LN_N (i := wi) (by omega); omega)) rfl dJ1_charAt_3b067_8 ?_
  refine lv_topi (fun z_2 ez_2 => ?_)
  refine lv_sipush (v := 255) hx hb dJ1_charAt_3b067_9 (by decide) ?_
  refine lv_iand hx hb dJ1_charAt_3b067_12 ?_
  refine lv_topi (fun z_3 ez_3 => ?_)
  have tz_3 : 0 ≤ z_3.toInt ∧ z_3.toInt ≤ 255 := by rw [ez_3]; exact and_br (by decide) (by decide)
  refine lv_i2c hx hb dJ1_charAt_3b067_13 rfl ?_
  refine lv_topi (fun z_4 ez_4 => ?_)
  exact W.zret (v := z_4) hx hb hr (by subst_vars; exact SC_nar) (fun t ht hW => ⟨z_4, rfl, (by subst_vars; rfl), ht⟩) (fun q h => by cases h) dJ1_charAt_3b067_14
set_option maxHeartbeats 4000000 in
set_option maxRecDepth 100000 in
theorem s_S_charAtK (l : Launch) (D : va_G) (k : Nat → ClassId) (ak : Nat → Nat) (av : Nat → Nat) (x : Int32) (hx0 : 0 ≤ x.toInt) (hx1 : x.toInt < 53) : Met l yJ0_charAt_5068e (Cond.code yJ0_charAt_5068e cJ0_charAt_5068e 2 (some .char) :: wsL_law) ({ frames := 3, cells := 0, slots := 0, locals := 180 } : Room) (va_Pc [.ref (ak 10), .int x] (prs ak av D k [])) (vp_Si (fun rr => rr.toInt = 32 ∨ x.toInt < 52)) 0 0 (fun _ => False) := by
  refine Met.ofW (cc := cJ0_charAt_5068e) (maxL := 2) (ret := (some .char)) (by decide) rfl ?_
  intro p e s m args below meth c s₁ B hml hv
  obtain ⟨rfl, hP, hK, hN0, hW0⟩ := hv
  have hS : va_S (fun _ => False) s.heap s.heap [] := va_S.rf
  have hx := B.exec
  have hb := B.bytes
  have hr := B.returns
  have hts : ∀ w ∈ wsL_law, w.before _ s = true := fun w h => atoms_spec (ws := Cond.code yJ0_charAt_5068e cJ0_charAt_5068e 2 (some .char) :: wsL_law) B.pre w (List.mem_cons_of_mem _ h)
  have hown : s.vm.findClass RJ0 = some m.cls := findClass_of_methodNamed B.named
  have hlocks := B.notSynchronized
  have hP : va_P D vwCl [] s.heap := hP
  have hl := lv_entry ([.ref (ak 10), .int x]) (n := 2) (Nat.le_of_ble_eq_true rfl)
  rw [lg_entry_eq]
  generalize (lg_sl ([.ref (ak 10), .int x]) ++ List.replicate (2 - (lg_sl ([.ref (ak 10), .int x])).length) Slot.unset).toArray = ls at hl ⊢
  have hl : lv_has ls 2 [(0, .ref (ak 10)), (1, .int x)] := hl
  have hLN : (LN 10).toInt = 53 := by decide +kernel
  refine lv_aload_n hx hb dJ0_charAt_5068e_0 rfl (lv_at hl 0 rfl) ?_
  refine kT_is (As := []) (rest := []) ⟨hx, hb, hml, hown, hts⟩ (s_S_isLatin1 l D k ak av 10 (by omega)) (gV mw_205 mw_206 mw_207 mw_192 mw_208) hd_yJ0_isLatin1_aae02 rfl rfl ⟨Nat.le_of_ble_eq_true rfl, Nat.le_of_ble_eq_true rfl⟩ hK hN0 hW0 hS (hP.sub [] rfl) (by omega) rfl rfl hl.1 rfl (Nat.le_of_ble_eq_true rfl) dJ0_charAt_5068e_1 ⟨Nat.le_of_ble_eq_true rfl, Nat.le_of_ble_eq_true rfl⟩ (fun r_1 hr_1 => ?_)
  obtain rfl : r_1 = 1 := hr_1
  refine lv_if_eq (tgt := 16) hx hb dJ0_charAt_5068e_4 (by decide) (fun c9 => absurd c9 (by decide)) (fun _ => ?_)
  refine lv_aload_n hx hb dJ0_charAt_5068e_7 rfl (lv_at hl 0 rfl) ?_
  refine vk_getf (v := .ref (av 10)) hx hb (hW0.2.2.1.1 10 (by omega)).2.2.1 hS hown (hts _ mw_194) (fun _ h9 => h9) dJ0_charAt_5068e_8 ?_
  refine lv_iload_n hx hb dJ0_charAt_5068e_11 rfl (lv_at hl 1 rfl) ?_
  refine kS_is (As := [.ref (av 10), .int x]) (rest := []) ⟨hx, hb, hml, hown, hts⟩ (s_S_charAt1 l D k ak av 10 x (by omega) (show 0 ≤ x.toInt from by omega) (show x.toInt < (LN 10).toInt from by omega)) (gS mw_209 mw_210 mw_211 mw_212) hd_yJ1_charAt_3b067 rfl rfl ⟨Nat.le_of_ble_eq_true rfl, Nat.le_of_ble_eq_true rfl⟩ hK hN0 hW0 hS (hP.sub [] rfl) rfl hl.1 rfl (Nat.le_of_ble_eq_true rfl) dJ0_charAt_5068e_12 ⟨Nat.le_of_ble_eq_true rfl, Nat.le_of_ble_eq_true rfl⟩ (fun r_2 hr_2 => ?_)
  obtain rfl : r_2 = (SC 10 x) := hr_2
  exact W.zret (v := (SC 10 x)) hx hb hr (by subst_vars; exact SC_nar) (fun t ht hW => ⟨(SC 10 x), rfl, (SC_52 hx0 hx1), ht⟩) (fun q h => by cases h) dJ0_charAt_5068e_15
set_option maxHeartbeats 4000000 in
set_option maxRecDepth 100000 in
theorem s_S_charAt (l : Launch) (D : va_G) (k : Nat → ClassId) (ak : Nat → Nat) (av : Nat → Nat) (wi : Nat) (x : Int32) (hwi : wi < 11) (hx0 : 0 ≤ x.toInt) (hx1 : x.toInt < (LN wi).toInt) : Met l yJ0_charAt_5068e (Cond.code yJ0_charAt_5068e cJ0_charAt_5068e 2 (some .char) :: wsL_law) ({ frames := 3, cells := 0, slots := 0, locals := 180 } : Room) (va_Pc [.ref (ak wi), .int x] (prs ak av D k [])) (vp_Si (fun rr => True)) 0 0 (fun _ => False) := by
  refine Met.ofW (cc := cJ0_charAt_5068e) (maxL := 2) (ret := (some .char)) (by decide) rfl ?_
  intro p e s m args below meth c s₁ B hml hv
  obtain ⟨rfl, hP, hK, hN0, hW0⟩ := hv
  have hS : va_S (fun _ => False) s.heap s.heap [] := va_S.rf
  have hx := B.exec
  have hb := B.bytes
  have hr := B.returns
  have hts : ∀ w ∈ wsL_law, w.before _ s = true := fun w h => atoms_spec (ws := Cond.code yJ0_charAt_5068e cJ0_charAt_5068e 2 (some .char) :: wsL_law) B.pre w (List.mem_cons_of_mem _ h)
  have hown : s.vm.findClass RJ0 = some m.cls := findClass_of_methodNamed B.named
  have hlocks := B.notSynchronized
  have hP : va_P D vwCl [] s.heap := hP
  have hl := lv_entry ([.ref (ak wi), .int x]) (n := 2) (Nat.le_of_ble_eq_true rfl)
  rw [lg_entry_eq]
  generalize (lg_sl ([.ref (ak wi), .int x]) ++ List.replicate (2 - (lg_sl ([.ref (ak wi), .int x])).length) Slot.unset).toArray = ls at hl ⊢
  have hl : lv_has ls 2 [(0, .ref (ak wi)), (1, .int x)] := hl
  refine lv_aload_n hx hb dJ0_charAt_5068e_0 rfl (lv_at hl 0 rfl) ?_
  refine kT_is (As := []) (rest := []) ⟨hx, hb, hml, hown, hts⟩ (s_S_isLatin1 l D k ak av _ (by omega)) (gV mw_205 mw_206 mw_207 mw_192 mw_208) hd_yJ0_isLatin1_aae02 rfl rfl ⟨Nat.le_of_ble_eq_true rfl, Nat.le_of_ble_eq_true rfl⟩ hK hN0 hW0 hS (hP.sub [] rfl) (by omega) rfl rfl hl.1 rfl (Nat.le_of_ble_eq_true rfl) dJ0_charAt_5068e_1 ⟨Nat.le_of_ble_eq_true rfl, Nat.le_of_ble_eq_true rfl⟩ (fun r_1 hr_1 => ?_)
  obtain rfl : r_1 = 1 := hr_1
  refine lv_if_eq (tgt := 16) hx hb dJ0_charAt_5068e_4 (by decide) (fun c9 => absurd c9 (by decide)) (fun _ => ?_)
  refine lv_aload_n hx hb dJ0_charAt_5068e_7 rfl (lv_at hl 0 rfl) ?_
  refine vk_getf (v := .ref (av wi)) hx hb (hW0.2.2.1.1 wi (by omega)).2.2.1 hS hown (hts _ mw_194) (fun _ h9 => h9) dJ0_charAt_5068e_8 ?_
  refine lv_iload_n hx hb dJ0_charAt_5068e_11 rfl (lv_at hl 1 rfl) ?_
  refine kS_is (As := [.ref (av wi), .int x]) (rest := []) ⟨hx, hb, hml, hown, hts⟩ (s_S_charAt1 l D k ak av _ x (by omega) (show 0 ≤ x.toInt from by omega) (show x.toInt < (LN wi).toInt from by omega)) (gS mw_209 mw_210 mw_211 mw_212) hd_yJ1_charAt_3b067 rfl rfl ⟨Nat.le_of_ble_eq_true rfl, Nat.le_of_ble_eq_true rfl⟩ hK hN0 hW0 hS (hP.sub [] rfl) rfl hl.1 rfl (Nat.le_of_ble_eq_true rfl) dJ0_charAt_5068e_12 ⟨Nat.le_of_ble_eq_true rfl, Nat.le_of_ble_eq_true rfl⟩ (fun r_2 hr_2 => ?_)
  obtain rfl : r_2 = (SC wi x) := hr_2
  exact W.zret (v := (SC wi x)) hx hb hr (by subst_vars; exact SC_nar) (fun t ht hW => ⟨(SC wi x), rfl, trivial, ht⟩) (fun q h => by cases h) dJ0_charAt_5068e_15
set_option maxHeartbeats 4000000 in
set_option maxRecDepth 100000 in
theorem s_R_isLetter (l : Launch) (D : va_G) (k : Nat → ClassId) (x : Int32) : Met l yX5_isLetter (Cond.code yX5_isLetter cX5_isLetter 1 (some .boolean) :: wsL_law) ({ frames := 0, cells := 0, slots := 0, locals := 0 } : Room) (va_Pc [.int x] (pr D k [])) (vp_Si (fun rr => 0 ≤ rr.toInt ∧ rr.toInt ≤ 1)) 0 0 (fun _ => False) := by
  refine Met.ofW (cc := cX5_isLetter) (maxL := 1) (ret := (some .boolean)) (by decide) rfl ?_
  intro p e s m args below meth c s₁ B hml hv
  obtain ⟨rfl, hP, hK, hN0⟩ := hv
  have hx := B.exec
  have hb := B.bytes
  have hr := B.returns
  have hts : ∀ w ∈ wsL_law, w.before _ s = true := fun w h => atoms_spec (ws := Cond.code yX5_isLetter cX5_isLetter 1 (some .boolean) :: wsL_law) B.pre w (List.mem_cons_of_mem _ h)
  have hown : s.vm.findClass RX5 = some m.cls := findClass_of_methodNamed B.named
  have hlocks := B.notSynchronized
  have hP : va_P D vwCl [] s.heap := hP
  have hl := lv_entry ([.int x]) (n := 1) (Nat.le_of_ble_eq_true rfl)
  rw [lg_entry_eq]
  generalize (lg_sl ([.int x]) ++ List.replicate (1 - (lg_sl ([.int x])).length) Slot.unset).toArray = ls at hl ⊢
  have hl : lv_has ls 1 [(0, .int x)] := hl
  refine lv_iload_n hx hb dX5_isLetter_0 rfl (lv_at hl 0 rfl) ?_
  refine lv_bipush (v := 97) hx hb dX5_isLetter_1 (by decide) ?_
  refine lv_icmp_lt (tgt := 16) hx hb dX5_isLetter_3 (by decide) (fun c_1 => ?_) (fun c_1 => ?_)
  · have c_1 : x.toInt < 97 := ti_lt c_1
    refine lv_iconst (v := 0) hx hb dX5_isLetter_16 (by decide) ?_
    exact W.zret (v := 0) hx hb hr rfl (fun t ht hW => ⟨0, rfl, ⟨by decide, by decide⟩, ht⟩) (fun q h => by cases h) dX5_isLetter_17
  · have c_1 : 97 ≤ x.toInt := ti_nlt c_1
    refine lv_iload_n hx hb dX5_isLetter_6 rfl (lv_at hl 0 rfl) ?_
    refine lv_bipush (v := 122) hx hb dX5_isLetter_7 (by decide) ?_
    refine lv_icmp_gt (tgt := 16) hx hb dX5_isLetter_9 (by decide) (fun c_2 => ?_) (fun c_2 => ?_)
    · have c_2 : 122 < x.toInt := ti_lt c_2
      refine lv_iconst (v := 0) hx hb dX5_isLetter_16 (by decide) ?_
      exact W.zret (v := 0) hx hb hr rfl (fun t ht hW => ⟨0, rfl, ⟨by decide, by decide⟩, ht⟩) (fun q h => by cases h) dX5_isLetter_17
    · have c_2 : x.toInt ≤ 122 := ti_nlt c_2
      refine lv_iconst (v := 1) hx hb dX5_isLetter_12 (by decide) ?_
      refine lv_goto (tgt := 17) hx hb dX5_isLetter_13 (by decide) ?_
      exact W.zret (v := 1) hx hb hr rfl (fun t ht hW => ⟨1, rfl, ⟨by decide, by decide⟩, ht⟩) (fun q h => by cases h) dX5_isLetter_17
set_option maxHeartbeats 4000000 in
set_option maxRecDepth 100000 in
theorem s_R_isDigit (l : Launch) (D : va_G) (k : Nat → ClassId) (x : Int32) : Met l yX5_isDigit (Cond.code yX5_isDigit cX5_isDigit 1 (some .boolean) :: wsL_law) ({ frames := 0, cells := 0, slots := 0, locals := 0 } : Room) (va_Pc [.int x] (pr D k [])) (vp_Si (fun rr => 0 ≤ rr.toInt ∧ rr.toInt ≤ 1)) 0 0 (fun _ => False) := by
  refine Met.ofW (cc := cX5_isDigit) (maxL := 1) (ret := (some .boolean)) (by decide) rfl ?_
  intro p e s m args below meth c s₁ B hml hv
  obtain ⟨rfl, hP, hK, hN0⟩ := hv
  have hx := B.exec
  have hb := B.bytes
  have hr := B.returns
  have hts : ∀ w ∈ wsL_law, w.before _ s = true := fun w h => atoms_spec (ws := Cond.code yX5_isDigit cX5_isDigit 1 (some .boolean) :: wsL_law) B.pre w (List.mem_cons_of_mem _ h)
  have hown : s.vm.findClass RX5 = some m.cls := findClass_of_methodNamed B.named
  have hlocks := B.notSynchronized
  have hP : va_P D vwCl [] s.heap := hP
  have hl := lv_entry ([.int x]) (n := 1) (Nat.le_of_ble_eq_true rfl)
  rw [lg_entry_eq]
  generalize (lg_sl ([.int x]) ++ List.replicate (1 - (lg_sl ([.int x])).length) Slot.unset).toArray = ls at hl ⊢
  have hl : lv_has ls 1 [(0, .int x)] := hl
  refine lv_iload_n hx hb dX5_isDigit_0 rfl (lv_at hl 0 rfl) ?_
  refine lv_bipush (v := 48) hx hb dX5_isDigit_1 (by decide) ?_
  refine lv_icmp_lt (tgt := 16) hx hb dX5_isDigit_3 (by decide) (fun c_1 => ?_) (fun c_1 => ?_)
  · have c_1 : x.toInt < 48 := ti_lt c_1
    refine lv_iconst (v := 0) hx hb dX5_isDigit_16 (by decide) ?_
    exact W.zret (v := 0) hx hb hr rfl (fun t ht hW => ⟨0, rfl, ⟨by decide, by decide⟩, ht⟩) (fun q h => by cases h) dX5_isDigit_17
  · have c_1 : 48 ≤ x.toInt := ti_nlt c_1
    refine lv_iload_n hx hb dX5_isDigit_6 rfl (lv_at hl 0 rfl) ?_
    refine lv_bipush (v := 57) hx hb dX5_isDigit_7 (by decide) ?_
    refine lv_icmp_gt (tgt := 16) hx hb dX5_isDigit_9 (by decide) (fun c_2 => ?_) (fun c_2 => ?_)
    · have c_2 : 57 < x.toInt := ti_lt c_2
      refine lv_iconst (v := 0) hx hb dX5_isDigit_16 (by decide) ?_
      exact W.zret (v := 0) hx hb hr rfl (fun t ht hW => ⟨0, rfl, ⟨by decide, by decide⟩, ht⟩) (fun q h => by cases h) dX5_isDigit_17
    · have c_2 : x.toInt ≤ 57 := ti_nlt c_2
      refine lv_iconst (v := 1) hx hb dX5_isDigit_12 (by decide) ?_
      refine lv_goto (tgt := 17) hx hb dX5_isDigit_13 (by decide) ?_
      exact W.zret (v := 1) hx hb hr rfl (fun t ht hW => ⟨1, rfl, ⟨by decide, by decide⟩, ht⟩) (fun q h => by cases h) dX5_isDigit_17
set_option maxHeartbeats 4000000 in
set_option maxRecDepth 100000 in
theorem s_R_takeInt (l : Launch) (D : va_G) (k : Nat → ClassId) (rd : Nat → Nat) (rw : Nat → Nat) (rf : Nat → Int32) (tf : Nat → Int32) (x : Int32) (sz : Nat) (w_r3 : 0 ≤ (rf 3).toInt ∧ (rf 3).toInt ≤ 896) : Met l yX5_takeInt (Cond.code yX5_takeInt cX5_takeInt 3 none :: wsL_law) ({ frames := 0, cells := 0, slots := 0, locals := 0 } : Room) (va_Pc [.ref (rd 0), .int x] (pu D k sz [((rd 0), .inr (4, [.ref (rw 0), .int (rf 1), .int (rf 2), .int (rf 3), .ref (rd 1), .int (rf 5), .int (rf 6), .int (rf 7), .int (rf 8), .int (rf 9)])), ((rd 1), .inl (k 2, 900, .inl tf))])) (va_Qv (fun uu : Int32 × (Nat → Int32) => (0 ≤ uu.1.toInt ∧ uu.1.toInt ≤ 900) ∧ (uu.1.toInt = (rf 3).toInt + 4)) (qu D (va_A [((rd 0), .inr (4, [.ref (rw 0), .int (rf 1), .int (rf 2), .int (rf 3), .ref (rd 1), .int (rf 5), .int (rf 6), .int (rf 7), .int (rf 8), .int (rf 9)])), ((rd 1), .inl (k 2, 900, .inl tf))] sz) (fun uu : Int32 × (Nat → Int32) => [((rd 0), .inr (4, [.ref (rw 0), .int (rf 1), .int (rf 2), .int uu.1, .ref (rd 1), .int (rf 5), .int (rf 6), .int (rf 7), .int (rf 8), .int (rf 9)])), ((rd 1), .inl (k 2, 900, .inl uu.2))])) (va_A [((rd 0), .inr (4, [.ref (rw 0), .int (rf 1), .int (rf 2), .int (rf 3), .ref (rd 1), .int (rf 5), .int (rf 6), .int (rf 7), .int (rf 8), .int (rf 9)])), ((rd 1), .inl (k 2, 900, .inl tf))] sz)) 0 0 (va_A [((rd 0), .inr (4, [.ref (rw 0), .int (rf 1), .int (rf 2), .int (rf 3), .ref (rd 1), .int (rf 5), .int (rf 6), .int (rf 7), .int (rf 8), .int (rf 9)])), ((rd 1), .inl (k 2, 900, .inl tf))] sz) := by
  refine Met.ofW (cc := cX5_takeInt) (maxL := 3) (ret := none) (by decide) rfl ?_
  intro p e s m args below meth c s₁ B hml hv
  obtain ⟨rfl, hsz, hP, hK, hD0, hN0⟩ := hv
  have hx := B.exec
  have hb := B.bytes
  have hr := B.returns
  have hts : ∀ w ∈ wsL_law, w.before _ s = true := fun w h => atoms_spec (ws := Cond.code yX5_takeInt cX5_takeInt 3 none :: wsL_law) B.pre w (List.mem_cons_of_mem _ h)
  have hown : s.vm.findClass RX5 = some m.cls := findClass_of_methodNamed B.named
  have hlocks := B.notSynchronized
  subst hsz
  have hD := hD0.self (sz := s.heap.size)
  generalize hAe : va_A [((rd 0), .inr (4, [.ref (rw 0), .int (rf 1), .int (rf 2), .int (rf 3), .ref (rd 1), .int (rf 5), .int (rf 6), .int (rf 7), .int (rf 8), .int (rf 9)])), ((rd 1), .inl (k 2, 900, .inl tf))] s.heap.size = A at hD ⊢
  have hA : ∀ q : Nat, s.heap.size ≤ q → A q := fun q h => by rw [← hAe]; exact Or.inr h
  have hS : va_S A s.heap s.heap [] := va_S.rf
  have hP : va_P D vwCl [((rd 0), .inr (4, [.ref (rw 0), .int (rf 1), .int (rf 2), .int (rf 3), .ref (rd 1), .int (rf 5), .int (rf 6), .int (rf 7), .int (rf 8), .int (rf 9)])), ((rd 1), .inl (k 2, 900, .inl tf))] s.heap := hP
  have hl := lv_entry ([.ref (rd 0), .int x]) (n := 3) (Nat.le_of_ble_eq_true rfl)
  rw [lg_entry_eq]
  generalize (lg_sl ([.ref (rd 0), .int x]) ++ List.replicate (3 - (lg_sl ([.ref (rd 0), .int x])).length) Slot.unset).toArray = ls at hl ⊢
  have hl : lv_has ls 3 [(0, .ref (rd 0)), (1, .int x)] := hl
  refine lv_bipush (v := 24) hx hb dX5_takeInt_0 (by decide) ?_
  refine lv_istore_n (lv' := [(2, .int 24), (0, .ref (rd 0)), (1, .int x)]) hx hb dX5_takeInt_2 rfl hl (by decide) rfl (fun ls hl => ?_)
  refine W_loop (σ := Int32 × (Nat → Int32) × Int32) (fun xx H locs ls => (0 ≤ xx.1.toInt ∧ xx.1.toInt ≤ 900) ∧ (-8 ≤ xx.2.2.toInt ∧ xx.2.2.toInt ≤ 24) ∧ (xx.2.2.toInt = 24 - 8 * (xx.1.toInt - (rf 3).toInt)) ∧ va_P D vwCl [((rd 0), .inr (4, [.ref (rw 0), .int (rf 1), .int (rf 2), .int xx.1, .ref (rd 1), .int (rf 5), .int (rf 6), .int (rf 7), .int (rf 8), .int (rf 9)])), ((rd 1), .inl (k 2, 900, .inl xx.2.1))] H ∧ va_D A [((rd 0), .inr (4, [.ref (rw 0), .int (rf 1), .int (rf 2), .int xx.1, .ref (rd 1), .int (rf 5), .int (rf 6), .int (rf 7), .int (rf 8), .int (rf 9)])), ((rd 1), .inl (k 2, 900, .inl xx.2.1))] ∧ va_S A s.heap H locs ∧ lv_has ls 3 [(2, .int xx.2.2), (0, .ref (rd 0)), (1, .int x)]) (fun xx => (900 - xx.1.toInt).toNat) ?_ ((rf 3), tf, 24) _ _ ls ⟨(show 0 ≤ (rf 3).toInt ∧ (rf 3).toInt ≤ 900 from ⟨by omega, by omega⟩), (show -8 ≤ (24 : Int32).toInt ∧ (24 : Int32).toInt ≤ 24 from ⟨by decide, by decide⟩), (show 24 = 24 - 8 * ((rf 3).toInt - (rf 3).toInt) from by omega), hP.sub [0, 1] rfl, hD.sub [0, 1] (by decide) rfl, hS, lv_sub hl [0, 1, 2] rfl⟩
  intro xx H locs ls hI ih3
  obtain ⟨i_1, f_2, y_3⟩ := xx
  obtain ⟨h_4, h_5, h_6, hP, hD, hS, hl⟩ := hI
  have h_4 : 0 ≤ i_1.toInt ∧ i_1.toInt ≤ 900 := h_4
  have h_5 : -8 ≤ y_3.toInt ∧ y_3.toInt ≤ 24 := h_5
  have h_6 : y_3.toInt = 24 - 8 * (i_1.toInt - (rf 3).toInt) := h_6
  obtain ⟨h_4a, h_4b⟩ := h_4
  have hP : va_P D vwCl [((rd 0), .inr (4, [.ref (rw 0), .int (rf 1), .int (rf 2), .int i_1, .ref (rd 1), .int (rf 5), .int (rf 6), .int (rf 7), .int (rf 8), .int (rf 9)])), ((rd 1), .inl (k 2, 900, .inl f_2))] H := hP
  have hD : va_D A [((rd 0), .inr (4, [.ref (rw 0), .int (rf 1), .int (rf 2), .int i_1, .ref (rd 1), .int (rf 5), .int (rf 6), .int (rf 7), .int (rf 8), .int (rf 9)])), ((rd 1), .inl (k 2, 900, .inl f_2))] := hD
  have hl : lv_has ls 3 [(2, .int y_3), (0, .ref (rd 0)), (1, .int x)] := hl
  refine lv_iload_n hx hb dX5_takeInt_3 rfl (lv_at hl 0 rfl) ?_
  refine lv_if_lt (tgt := 46) hx hb dX5_takeInt_4 (by decide) (fun c_7 => ?_) (fun c_7 => ?_)
  · have c_7 : y_3.toInt < 0 := ti_lt c_7
    exact W.vret hx hb hr (fun t ht hW => ⟨⟨(i_1, f_2), rfl, ⟨(show 0 ≤ i_1.toInt ∧ i_1.toInt ≤ 900 from ⟨by omega, by omega⟩), (show i_1.toInt = (rf 3).toInt + 4 from by omega)⟩, by rw [ht]; exact hP.sub [0, 1] rfl, hD.sub [0, 1] (by decide) rfl⟩, hS.F ht⟩) hS.2.2 dX5_takeInt_46
  · have c_7 : 0 ≤ y_3.toInt := ti_nlt c_7
    refine lv_aload_n hx hb dX5_takeInt_7 rfl (lv_at hl 1 rfl) ?_
    refine va_get (D := D) (ci := 4) (v := .int i_1) (C := RX5) (T := TX5) (N := 10) hx hb hts inlX5 hown hK hP 0 rfl rfl 3 (by decide) (hts _ mw_120) (fun _ h9 => h9) rfl dX5_takeInt_8 ?_
    refine lv_sipush (v := 900) hx hb dX5_takeInt_11 (by decide) ?_
    refine lv_icmp_ge (tgt := 46) hx hb dX5_takeInt_14 (by decide) (fun c_8 => ?_) (fun c_8 => ?_)
    · have c_8 : 900 ≤ i_1.toInt := ti_le c_8
      have qc_8 : i_1 = 900 := ti_of (show i_1.toInt = 900 from by omega)
      exact W.vret hx hb hr (fun t ht hW => ⟨⟨(i_1, f_2), rfl, ⟨(show 0 ≤ i_1.toInt ∧ i_1.toInt ≤ 900 from ⟨by omega, by omega⟩), (show i_1.toInt = (rf 3).toInt + 4 from by omega)⟩, by rw [ht]; exact hP.sub [0, 1] rfl, hD.sub [0, 1] (by decide) rfl⟩, hS.F ht⟩) hS.2.2 dX5_takeInt_46
    · have c_8 : i_1.toInt < 900 := ti_nle c_8
      refine lv_aload_n hx hb dX5_takeInt_17 rfl (lv_at hl 1 rfl) ?_
      refine va_get (D := D) (ci := 4) (v := .ref (rd 1)) (C := RX5) (T := TX5) (N := 10) hx hb hts inlX5 hown hK hP 0 rfl rfl 4 (by decide) (hts _ mw_50) (fun _ h9 => h9) rfl dX5_takeInt_18 ?_
      refine lv_aload_n hx hb dX5_takeInt_21 rfl (lv_at hl 1 rfl) ?_
      refine va_get (D := D) (ci := 4) (v := .int i_1) (C := RX5) (T := TX5) (N := 10) hx hb hts inlX5 hown hK hP 0 rfl rfl 3 (by decide) (hts _ mw_120) (fun _ h9 => h9) rfl dX5_takeInt_22 ?_
      refine lv_iload_n hx hb dX5_takeInt_25 rfl (lv_at hl 2 rfl) ?_
      refine lv_iload_n hx hb dX5_takeInt_26 rfl (lv_at hl 0 rfl) ?_
      refine lv_iushr hx hb dX5_takeInt_27 rfl ?_
      refine lv_topi (fun z_9 ez_9 => ?_)
      refine lv_i2b hx hb dX5_takeInt_28 rfl ?_
      refine lv_topi (fun z_10 ez_10 => ?_)
      refine va_bast hx hb hK hP hD hS 1 2 rfl rfl (vp_in_o (by omega) (by omega)) dX5_takeInt_29 (fun H locs hP hD hS => ?_)
      have hP : va_P D vwCl [((rd 0), .inr (4, [.ref (rw 0), .int (rf 1), .int (rf 2), .int i_1, .ref (rd 1), .int (rf 5), .int (rf 6), .int (rf 7), .int (rf 8), .int (rf 9)])), ((rd 1), .inl (k 2, 900, .inl (upd f_2 i_1.toNatClampNeg (vp_nar .byte z_10))))] H := hP
      have hD : va_D A [((rd 0), .inr (4, [.ref (rw 0), .int (rf 1), .int (rf 2), .int i_1, .ref (rd 1), .int (rf 5), .int (rf 6), .int (rf 7), .int (rf 8), .int (rf 9)])), ((rd 1), .inl (k 2, 900, .inl (upd f_2 i_1.toNatClampNeg (vp_nar .byte z_10))))] := hD
      generalize ef_11 : (upd f_2 i_1.toNatClampNeg (vp_nar .byte z_10)) = f_11 at hP hD
      refine lv_aload_n hx hb dX5_takeInt_30 rfl (lv_at hl 1 rfl) ?_
      refine lv_dup hx hb dX5_takeInt_31 rfl ?_
      refine va_get (D := D) (ci := 4) (v := .int i_1) (C := RX5) (T := TX5) (N := 10) hx hb hts inlX5 hown hK hP 0 rfl rfl 3 (by decide) (hts _ mw_120) (fun _ h9 => h9) rfl dX5_takeInt_32 ?_
      refine lv_iconst (v := 1) hx hb dX5_takeInt_35 (by decide) ?_
      refine lv_iadd hx hb dX5_takeInt_36 ?_
      refine lv_topi (fun z_12 ez_12 => ?_)
      have tz_12 : z_12.toInt = i_1.toInt + 1 := by rw [ez_12]; exact ti_addc (by decide) (by omega) (by omega)
      refine va_put (D := D) (ci := 4) (v := .int z_12) (ty := .int) (C := RX5) (T := TX5) (N := 10) hx hb hts inlX5 tyX5 tyX5_ok nmX5 hown hK hP hD hS 0 rfl rfl 3 (by decide) (hts _ mw_120) (fun _ h9 => h9) rfl (by decide +kernel) rfl rfl (Nat.le_of_ble_eq_true rfl) dX5_takeInt_37 (fun H locs hP hD hS => ?_)
      have hP : va_P D vwCl [((rd 0), .inr (4, [.ref (rw 0), .int (rf 1), .int (rf 2), .int z_12, .ref (rd 1), .int (rf 5), .int (rf 6), .int (rf 7), .int (rf 8), .int (rf 9)])), ((rd 1), .inl (k 2, 900, .inl f_11))] H := hP
      have hD : va_D A [((rd 0), .inr (4, [.ref (rw 0), .int (rf 1), .int (rf 2), .int z_12, .ref (rd 1), .int (rf 5), .int (rf 6), .int (rf 7), .int (rf 8), .int (rf 9)])), ((rd 1), .inl (k 2, 900, .inl f_11))] := hD
      obtain ⟨z_13, ez_13⟩ : ∃ y : Int32, y = y_3 + (-8) := ⟨_, rfl⟩
      have tz_13 : z_13.toInt = y_3.toInt + (-8) := by rw [ez_13]; exact ti_addc (by decide) (by omega) (by omega)
      refine lv_iinc (v := z_13) (lv' := [(2, .int z_13), (0, .ref (rd 0)), (1, .int x)]) hx hb dX5_takeInt_40 hl (k := 0) rfl (ez_13.symm) (by decide) rfl (fun ls hl => ?_)
      refine lv_goto (tgt := 3) hx hb dX5_takeInt_43 (by decide) ?_
      exact ih3 (z_12, f_11, z_13) _ _ ls (by show (900 - z_12.toInt).toNat < (900 - i_1.toInt).toNat; omega) ⟨(show 0 ≤ z_12.toInt ∧ z_12.toInt ≤ 900 from ⟨by omega, by omega⟩), (show -8 ≤ z_13.toInt ∧ z_13.toInt ≤ 24 from ⟨by omega, by omega⟩), (show z_13.toInt = 24 - 8 * (z_12.toInt - (rf 3).toInt) from by omega), hP.sub [0, 1] rfl, hD.sub [0, 1] (by decide) rfl, hS, lv_sub hl [0, 1, 2] rfl⟩
set_option maxHeartbeats 4000000 in
set_option maxRecDepth 100000 in
theorem s_R_fail (l : Launch) (D : va_G) (k : Nat → ClassId) (rd : Nat → Nat) (rw : Nat → Nat) (rf : Nat → Int32) (x : Int32) (sz : Nat) : Met l yX5_fail (Cond.code yX5_fail cX5_fail 2 none :: wsL_law) ({ frames := 0, cells := 0, slots := 0, locals := 0 } : Room) (va_Pc [.ref (rd 0), .int x] (pu D k sz [((rd 0), .inr (4, [.ref (rw 0), .int (rf 1), .int (rf 2), .int (rf 3), .ref (rd 1), .int (rf 5), .int (rf 6), .int (rf 7), .int (rf 8), .int (rf 9)]))])) (va_Qv (fun uu : Int32 × Int32 => True) (qu D (va_A [((rd 0), .inr (4, [.ref (rw 0), .int (rf 1), .int (rf 2), .int (rf 3), .ref (rd 1), .int (rf 5), .int (rf 6), .int (rf 7), .int (rf 8), .int (rf 9)]))] sz) (fun uu : Int32 × Int32 => [((rd 0), .inr (4, [.ref (rw 0), .int uu.1, .int uu.2, .int (rf 3), .ref (rd 1), .int (rf 5), .int (rf 6), .int (rf 7), .int 0, .int (rf 9)]))])) (va_A [((rd 0), .inr (4, [.ref (rw 0), .int (rf 1), .int (rf 2), .int (rf 3), .ref (rd 1), .int (rf 5), .int (rf 6), .int (rf 7), .int (rf 8), .int (rf 9)]))] sz)) 0 0 (va_A [((rd 0), .inr (4, [.ref (rw 0), .int (rf 1), .int (rf 2), .int (rf 3), .ref (rd 1), .int (rf 5), .int (rf 6), .int (rf 7), .int (rf 8), .int (rf 9)]))] sz) := by
  refine Met.ofW (cc := cX5_fail) (maxL := 2) (ret := none) (by decide) rfl ?_
  intro p e s m args below meth c s₁ B hml hv
  obtain ⟨rfl, hsz, hP, hK, hD0, hN0⟩ := hv
  have hx := B.exec
  have hb := B.bytes
  have hr := B.returns
  have hts : ∀ w ∈ wsL_law, w.before _ s = true := fun w h => atoms_spec (ws := Cond.code yX5_fail cX5_fail 2 none :: wsL_law) B.pre w (List.mem_cons_of_mem _ h)
  have hown : s.vm.findClass RX5 = some m.cls := findClass_of_methodNamed B.named
  have hlocks := B.notSynchronized
  subst hsz
  have hD := hD0.self (sz := s.heap.size)
  generalize hAe : va_A [((rd 0), .inr (4, [.ref (rw 0), .int (rf 1), .int (rf 2), .int (rf 3), .ref (rd 1), .int (rf 5), .int (rf 6), .int (rf 7), .int (rf 8), .int (rf 9)]))] s.heap.size = A at hD ⊢
  have hA : ∀ q : Nat, s.heap.size ≤ q → A q := fun q h => by rw [← hAe]; exact Or.inr h
  have hS : va_S A s.heap s.heap [] := va_S.rf
  have hP : va_P D vwCl [((rd 0), .inr (4, [.ref (rw 0), .int (rf 1), .int (rf 2), .int (rf 3), .ref (rd 1), .int (rf 5), .int (rf 6), .int (rf 7), .int (rf 8), .int (rf 9)]))] s.heap := hP
  have hl := lv_entry ([.ref (rd 0), .int x]) (n := 2) (Nat.le_of_ble_eq_true rfl)
  rw [lg_entry_eq]
  generalize (lg_sl ([.ref (rd 0), .int x]) ++ List.replicate (2 - (lg_sl ([.ref (rd 0), .int x])).length) Slot.unset).toArray = ls at hl ⊢
  have hl : lv_has ls 2 [(0, .ref (rd 0)), (1, .int x)] := hl
  refine lv_aload_n hx hb dX5_fail_0 rfl (lv_at hl 0 rfl) ?_
  refine va_get (D := D) (ci := 4) (v := .int (rf 1)) (C := RX5) (T := TX5) (N := 10) hx hb hts inlX5 hown hK hP 0 rfl rfl 1 (by decide) (hts _ mw_145) (fun _ h9 => h9) rfl dX5_fail_1 ?_
  refine lv_if_ne (tgt := 20) hx hb dX5_fail_4 (by decide) (fun c_1 => ?_) (fun c_1 => ?_)
  · have c_1 : (rf 1).toInt ≠ 0 := ti_ne c_1
    refine lv_aload_n hx hb dX5_fail_20 rfl (lv_at hl 0 rfl) ?_
    refine lv_iconst (v := 0) hx hb dX5_fail_21 (by decide) ?_
    refine va_put (D := D) (ci := 4) (v := .int 0) (ty := .int) (C := RX5) (T := TX5) (N := 10) hx hb hts inlX5 tyX5 tyX5_ok nmX5 hown hK hP hD hS 0 rfl rfl 8 (by decide) (hts _ mw_147) (fun _ h9 => h9) rfl (by decide +kernel) rfl rfl (Nat.le_of_ble_eq_true rfl) dX5_fail_22 (fun H locs hP hD hS => ?_)
    have hP : va_P D vwCl [((rd 0), .inr (4, [.ref (rw 0), .int (rf 1), .int (rf 2), .int (rf 3), .ref (rd 1), .int (rf 5), .int (rf 6), .int (rf 7), .int 0, .int (rf 9)]))] H := hP
    have hD : va_D A [((rd 0), .inr (4, [.ref (rw 0), .int (rf 1), .int (rf 2), .int (rf 3), .ref (rd 1), .int (rf 5), .int (rf 6), .int (rf 7), .int 0, .int (rf 9)]))] := hD
    exact W.vret hx hb hr (fun t ht hW => ⟨⟨((rf 1), (rf 2)), rfl, trivial, by rw [ht]; exact hP.sub [0] rfl, hD.sub [0] (by decide) rfl⟩, hS.F ht⟩) hS.2.2 dX5_fail_25
  · have c_1 : (rf 1).toInt = 0 := ti_eq c_1
    have qc_1 : (rf 1) = 0 := ti_of (show (rf 1).toInt = 0 from by omega)
    refine lv_aload_n hx hb dX5_fail_7 rfl (lv_at hl 0 rfl) ?_
    refine lv_iload_n hx hb dX5_fail_8 rfl (lv_at hl 1 rfl) ?_
    refine va_put (D := D) (ci := 4) (v := .int x) (ty := .int) (C := RX5) (T := TX5) (N := 10) hx hb hts inlX5 tyX5 tyX5_ok nmX5 hown hK hP hD hS 0 rfl rfl 1 (by decide) (hts _ mw_145) (fun _ h9 => h9) rfl (by decide +kernel) rfl rfl (Nat.le_of_ble_eq_true rfl) dX5_fail_9 (fun H locs hP hD hS => ?_)
    have hP : va_P D vwCl [((rd 0), .inr (4, [.ref (rw 0), .int x, .int (rf 2), .int (rf 3), .ref (rd 1), .int (rf 5), .int (rf 6), .int (rf 7), .int (rf 8), .int (rf 9)]))] H := hP
    have hD : va_D A [((rd 0), .inr (4, [.ref (rw 0), .int x, .int (rf 2), .int (rf 3), .ref (rd 1), .int (rf 5), .int (rf 6), .int (rf 7), .int (rf 8), .int (rf 9)]))] := hD
    refine lv_aload_n hx hb dX5_fail_12 rfl (lv_at hl 0 rfl) ?_
    refine lv_aload_n hx hb dX5_fail_13 rfl (lv_at hl 0 rfl) ?_
    refine va_get (D := D) (ci := 4) (v := .int (rf 6)) (C := RX5) (T := TX5) (N := 10) hx hb hts inlX5 hown hK hP 0 rfl rfl 6 (by decide) (hts _ mw_163) (fun _ h9 => h9) rfl dX5_fail_14 ?_
    refine va_put (D := D) (ci := 4) (v := .int (rf 6)) (ty := .int) (C := RX5) (T := TX5) (N := 10) hx hb hts inlX5 tyX5 tyX5_ok nmX5 hown hK hP hD hS 0 rfl rfl 2 (by decide) (hts _ mw_48) (fun _ h9 => h9) rfl (by decide +kernel) rfl rfl (Nat.le_of_ble_eq_true rfl) dX5_fail_17 (fun H locs hP hD hS => ?_)
    have hP : va_P D vwCl [((rd 0), .inr (4, [.ref (rw 0), .int x, .int (rf 6), .int (rf 3), .ref (rd 1), .int (rf 5), .int (rf 6), .int (rf 7), .int (rf 8), .int (rf 9)]))] H := hP
    have hD : va_D A [((rd 0), .inr (4, [.ref (rw 0), .int x, .int (rf 6), .int (rf 3), .ref (rd 1), .int (rf 5), .int (rf 6), .int (rf 7), .int (rf 8), .int (rf 9)]))] := hD
    refine lv_aload_n hx hb dX5_fail_20 rfl (lv_at hl 0 rfl) ?_
    refine lv_iconst (v := 0) hx hb dX5_fail_21 (by decide) ?_
    refine va_put (D := D) (ci := 4) (v := .int 0) (ty := .int) (C := RX5) (T := TX5) (N := 10) hx hb hts inlX5 tyX5 tyX5_ok nmX5 hown hK hP hD hS 0 rfl rfl 8 (by decide) (hts _ mw_147) (fun _ h9 => h9) rfl (by decide +kernel) rfl rfl (Nat.le_of_ble_eq_true rfl) dX5_fail_22 (fun H locs hP hD hS => ?_)
    have hP : va_P D vwCl [((rd 0), .inr (4, [.ref (rw 0), .int x, .int (rf 6), .int (rf 3), .ref (rd 1), .int (rf 5), .int (rf 6), .int (rf 7), .int 0, .int (rf 9)]))] H := hP
    have hD : va_D A [((rd 0), .inr (4, [.ref (rw 0), .int x, .int (rf 6), .int (rf 3), .ref (rd 1), .int (rf 5), .int (rf 6), .int (rf 7), .int 0, .int (rf 9)]))] := hD
    exact W.vret hx hb hr (fun t ht hW => ⟨⟨(x, (rf 6)), rfl, trivial, by rw [ht]; exact hP.sub [0] rfl, hD.sub [0] (by decide) rfl⟩, hS.F ht⟩) hS.2.2 dX5_fail_25
set_option maxHeartbeats 4000000 in
set_option maxRecDepth 100000 in
theorem s_R_advance (l : Launch) (D : va_G) (k : Nat → ClassId) (rd : Nat → Nat) (rw : Nat → Nat) (rf : Nat → Int32) (tf : Nat → Int32) (sz : Nat) (w_r3 : 0 ≤ (rf 3).toInt ∧ (rf 3).toInt ≤ 900) (w_r5 : 0 ≤ (rf 5).toInt ∧ (rf 5).toInt ≤ 900) (w_r7 : 0 ≤ (rf 7).toInt ∧ (rf 7).toInt ≤ 900) (w_rl1 : (rf 7).toInt ≤ (rf 5).toInt) : Met l yX5_advance (Cond.code yX5_advance cX5_advance 1 none :: wsL_law) ({ frames := 1, cells := 0, slots := 0, locals := 60 } : Room) (va_Pc [.ref (rd 0)] (pu D k sz [((rd 0), .inr (4, [.ref (rw 0), .int (rf 1), .int (rf 2), .int (rf 3), .ref (rd 1), .int (rf 5), .int (rf 6), .int (rf 7), .int (rf 8), .int (rf 9)])), ((rd 1), .inl (k 2, 900, .inl tf))])) (va_Qv (fun uu : Nat → Int32 => (0 ≤ (uu 3).toInt ∧ (uu 3).toInt ≤ 900) ∧ (0 ≤ (uu 5).toInt ∧ (uu 5).toInt ≤ 900) ∧ (0 ≤ (uu 6).toInt ∧ (uu 6).toInt ≤ 900) ∧ (0 ≤ (uu 7).toInt ∧ (uu 7).toInt ≤ 900) ∧ ((uu 6).toInt ≤ (uu 7).toInt) ∧ ((uu 7).toInt ≤ (uu 5).toInt) ∧ ((uu 3).toInt = (rf 3).toInt)) (qu D (va_A [((rd 0), .inr (4, [.ref (rw 0), .int (rf 1), .int (rf 2), .int (rf 3), .ref (rd 1), .int (rf 5), .int (rf 6), .int (rf 7), .int (rf 8), .int (rf 9)])), ((rd 1), .inl (k 2, 900, .inl tf))] sz) (fun uu : Nat → Int32 => [((rd 0), .inr (4, [.ref (rw 0), .int (uu 1), .int (uu 2), .int (uu 3), .ref (rd 1), .int (uu 5), .int (uu 6), .int (uu 7), .int (uu 8), .int (uu 9)])), ((rd 1), .inl (k 2, 900, .inl tf))])) (va_A [((rd 0), .inr (4, [.ref (rw 0), .int (rf 1), .int (rf 2), .int (rf 3), .ref (rd 1), .int (rf 5), .int (rf 6), .int (rf 7), .int (rf 8), .int (rf 9)])), ((rd 1), .inl (k 2, 900, .inl tf))] sz)) 0 0 (va_A [((rd 0), .inr (4, [.ref (rw 0), .int (rf 1), .int (rf 2), .int (rf 3), .ref (rd 1), .int (rf 5), .int (rf 6), .int (rf 7), .int (rf 8), .int (rf 9)])), ((rd 1), .inl (k 2, 900, .inl tf))] sz) := by
  refine Met.ofW (cc := cX5_advance) (maxL := 1) (ret := none) (by decide) rfl ?_
  intro p e s m args below meth c s₁ B hml hv
  obtain ⟨rfl, hsz, hP, hK, hD0, hN0⟩ := hv
  have hx := B.exec
  have hb := B.bytes
  have hr := B.returns
  have hts : ∀ w ∈ wsL_law, w.before _ s = true := fun w h => atoms_spec (ws := Cond.code yX5_advance cX5_advance 1 none :: wsL_law) B.pre w (List.mem_cons_of_mem _ h)
  have hown : s.vm.findClass RX5 = some m.cls := findClass_of_methodNamed B.named
  have hlocks := B.notSynchronized
  subst hsz
  have hD := hD0.self (sz := s.heap.size)
  generalize hAe : va_A [((rd 0), .inr (4, [.ref (rw 0), .int (rf 1), .int (rf 2), .int (rf 3), .ref (rd 1), .int (rf 5), .int (rf 6), .int (rf 7), .int (rf 8), .int (rf 9)])), ((rd 1), .inl (k 2, 900, .inl tf))] s.heap.size = A at hD ⊢
  have hA : ∀ q : Nat, s.heap.size ≤ q → A q := fun q h => by rw [← hAe]; exact Or.inr h
  have hS : va_S A s.heap s.heap [] := va_S.rf
  have hP : va_P D vwCl [((rd 0), .inr (4, [.ref (rw 0), .int (rf 1), .int (rf 2), .int (rf 3), .ref (rd 1), .int (rf 5), .int (rf 6), .int (rf 7), .int (rf 8), .int (rf 9)])), ((rd 1), .inl (k 2, 900, .inl tf))] s.heap := hP
  have hl := lv_entry ([.ref (rd 0)]) (n := 1) (Nat.le_of_ble_eq_true rfl)
  rw [lg_entry_eq]
  generalize (lg_sl ([.ref (rd 0)]) ++ List.replicate (1 - (lg_sl ([.ref (rd 0)])).length) Slot.unset).toArray = ls at hl ⊢
  have hl : lv_has ls 1 [(0, .ref (rd 0))] := hl
  refine W_loop (σ := Int32) (fun xx H locs ls => (0 ≤ xx.toInt ∧ xx.toInt ≤ (rf 5).toInt) ∧ va_P D vwCl [((rd 0), .inr (4, [.ref (rw 0), .int (rf 1), .int (rf 2), .int (rf 3), .ref (rd 1), .int (rf 5), .int (rf 6), .int xx, .int (rf 8), .int (rf 9)])), ((rd 1), .inl (k 2, 900, .inl tf))] H ∧ va_D A [((rd 0), .inr (4, [.ref (rw 0), .int (rf 1), .int (rf 2), .int (rf 3), .ref (rd 1), .int (rf 5), .int (rf 6), .int xx, .int (rf 8), .int (rf 9)])), ((rd 1), .inl (k 2, 900, .inl tf))] ∧ va_S A s.heap H locs ∧ lv_has ls 1 [(0, .ref (rd 0))]) (fun xx => ((rf 5).toInt - xx.toInt).toNat) ?_ ((rf 7)) _ _ ls ⟨(show 0 ≤ (rf 7).toInt ∧ (rf 7).toInt ≤ (rf 5).toInt from ⟨by omega, by omega⟩), hP.sub [0, 1] rfl, hD.sub [0, 1] (by decide) rfl, hS, lv_sub hl [0] rfl⟩
  intro xx H locs ls hI ih0
  obtain ⟨i_1, rfl⟩ : ∃ z, z = xx := ⟨_, rfl⟩
  obtain ⟨h_2, hP, hD, hS, hl⟩ := hI
  have h_2 : 0 ≤ i_1.toInt ∧ i_1.toInt ≤ (rf 5).toInt := h_2
  obtain ⟨h_2a, h_2b⟩ := h_2
  have hP : va_P D vwCl [((rd 0), .inr (4, [.ref (rw 0), .int (rf 1), .int (rf 2), .int (rf 3), .ref (rd 1), .int (rf 5), .int (rf 6), .int i_1, .int (rf 8), .int (rf 9)])), ((rd 1), .inl (k 2, 900, .inl tf))] H := hP
  have hD : va_D A [((rd 0), .inr (4, [.ref (rw 0), .int (rf 1), .int (rf 2), .int (rf 3), .ref (rd 1), .int (rf 5), .int (rf 6), .int i_1, .int (rf 8), .int (rf 9)])), ((rd 1), .inl (k 2, 900, .inl tf))] := hD
  have hl : lv_has ls 1 [(0, .ref (rd 0))] := hl
  refine lv_aload_n hx hb dX5_advance_0 rfl (lv_at hl 0 rfl) ?_
  refine va_get (D := D) (ci := 4) (v := .int i_1) (C := RX5) (T := TX5) (N := 10) hx hb hts inlX5 hown hK hP 0 rfl rfl 7 (by decide) (hts _ mw_146) (fun _ h9 => h9) rfl dX5_advance_1 ?_
  refine lv_aload_n hx hb dX5_advance_4 rfl (lv_at hl 0 rfl) ?_
  refine va_get (D := D) (ci := 4) (v := .int (rf 5)) (C := RX5) (T := TX5) (N := 10) hx hb hts inlX5 hown hK hP 0 rfl rfl 5 (by decide) (hts _ mw_144) (fun _ h9 => h9) rfl dX5_advance_5 ?_
  refine lv_icmp_ge (tgt := 52) hx hb dX5_advance_8 (by decide) (fun c_3 => ?_) (fun c_3 => ?_)
  · have c_3 : (rf 5).toInt ≤ i_1.toInt := ti_le c_3
    refine lv_aload_n hx hb dX5_advance_52 rfl (lv_at hl 0 rfl) ?_
    refine lv_aload_n hx hb dX5_advance_53 rfl (lv_at hl 0 rfl) ?_
    refine va_get (D := D) (ci := 4) (v := .int i_1) (C := RX5) (T := TX5) (N := 10) hx hb hts inlX5 hown hK hP 0 rfl rfl 7 (by decide) (hts _ mw_146) (fun _ h9 => h9) rfl dX5_advance_54 ?_
    refine va_put (D := D) (ci := 4) (v := .int i_1) (ty := .int) (C := RX5) (T := TX5) (N := 10) hx hb hts inlX5 tyX5 tyX5_ok nmX5 hown hK hP hD hS 0 rfl rfl 6 (by decide) (hts _ mw_163) (fun _ h9 => h9) rfl (by decide +kernel) rfl rfl (Nat.le_of_ble_eq_true rfl) dX5_advance_57 (fun H locs hP hD hS => ?_)
    have hP : va_P D vwCl [((rd 0), .inr (4, [.ref (rw 0), .int (rf 1), .int (rf 2), .int (rf 3), .ref (rd 1), .int (rf 5), .int i_1, .int i_1, .int (rf 8), .int (rf 9)])), ((rd 1), .inl (k 2, 900, .inl tf))] H := hP
    have hD : va_D A [((rd 0), .inr (4, [.ref (rw 0), .int (rf 1), .int (rf 2), .int (rf 3), .ref (rd 1), .int (rf 5), .int i_1, .int i_1, .int (rf 8), .int (rf 9)])), ((rd 1), .inl (k 2, 900, .inl tf))] := hD
    refine lv_aload_n hx hb dX5_advance_60 rfl (lv_at hl 0 rfl) ?_
    refine va_get (D := D) (ci := 4) (v := .int i_1) (C := RX5) (T := TX5) (N := 10) hx hb hts inlX5 hown hK hP 0 rfl rfl 7 (by decide) (hts _ mw_146) (fun _ h9 => h9) rfl dX5_advance_61 ?_
    refine lv_aload_n hx hb dX5_advance_64 rfl (lv_at hl 0 rfl) ?_
    refine va_get (D := D) (ci := 4) (v := .int (rf 5)) (C := RX5) (T := TX5) (N := 10) hx hb hts inlX5 hown hK hP 0 rfl rfl 5 (by decide) (hts _ mw_144) (fun _ h9 => h9) rfl dX5_advance_65 ?_
    refine lv_icmp_lt (tgt := 79) hx hb dX5_advance_68 (by decide) (fun c_4 => ?_) (fun c_4 => ?_)
    · have c_4 : i_1.toInt < (rf 5).toInt := ti_lt c_4
      refine lv_aload_n hx hb dX5_advance_79 rfl (lv_at hl 0 rfl) ?_
      refine va_get (D := D) (ci := 4) (v := .ref (rd 1)) (C := RX5) (T := TX5) (N := 10) hx hb hts inlX5 hown hK hP 0 rfl rfl 4 (by decide) (hts _ mw_50) (fun _ h9 => h9) rfl dX5_advance_80 ?_
      refine lv_aload_n hx hb dX5_advance_83 rfl (lv_at hl 0 rfl) ?_
      refine va_get (D := D) (ci := 4) (v := .int i_1) (C := RX5) (T := TX5) (N := 10) hx hb hts inlX5 hown hK hP 0 rfl rfl 7 (by decide) (hts _ mw_146) (fun _ h9 => h9) rfl dX5_advance_84 ?_
      refine va_bald hx hb hK hP 1 2 rfl rfl (vp_in_o (by omega) (by omega)) dX5_advance_87 ?_
      refine lv_topi (fun z_5 ez_5 => ?_)
      refine kS_i (As := [.int z_5]) (rest := []) ⟨hx, hb, hml, hown, hts⟩ (s_R_isLetter l D k z_5) (gS mw_165 mw_166 mw_15 mw_167) hd_yX5_isLetter rfl rfl ⟨Nat.le_of_ble_eq_true rfl, Nat.le_of_ble_eq_true rfl⟩ hK hN0 (hP.sub [] rfl) rfl hl.1 rfl (Nat.le_of_ble_eq_true rfl) dX5_advance_88 ⟨Nat.le_of_ble_eq_true rfl, Nat.le_of_ble_eq_true rfl⟩ (fun r_6 hr_6 => ?_)
      have hr_6 : 0 ≤ r_6.toInt ∧ r_6.toInt ≤ 1 := hr_6
      refine lv_if_eq (tgt := 138) hx hb dX5_advance_91 (by decide) (fun c_7 => ?_) (fun c_7 => ?_)
      · have c_7 : r_6.toInt = 0 := ti_eq c_7
        have qc_7 : r_6 = 0 := ti_of (show r_6.toInt = 0 from by omega)
        refine lv_aload_n hx hb dX5_advance_138 rfl (lv_at hl 0 rfl) ?_
        refine va_get (D := D) (ci := 4) (v := .ref (rd 1)) (C := RX5) (T := TX5) (N := 10) hx hb hts inlX5 hown hK hP 0 rfl rfl 4 (by decide) (hts _ mw_50) (fun _ h9 => h9) rfl dX5_advance_139 ?_
        refine lv_aload_n hx hb dX5_advance_142 rfl (lv_at hl 0 rfl) ?_
        refine va_get (D := D) (ci := 4) (v := .int i_1) (C := RX5) (T := TX5) (N := 10) hx hb hts inlX5 hown hK hP 0 rfl rfl 7 (by decide) (hts _ mw_146) (fun _ h9 => h9) rfl dX5_advance_143 ?_
        refine va_bald hx hb hK hP 1 2 rfl rfl (vp_in_o (by omega) (by omega)) dX5_advance_146 ?_
        refine lv_topi (fun z_8 ez_8 => ?_)
        refine kS_i (As := [.int z_8]) (rest := []) ⟨hx, hb, hml, hown, hts⟩ (s_R_isDigit l D k z_8) (gS mw_168 mw_169 mw_15 mw_170) hd_yX5_isDigit rfl rfl ⟨Nat.le_of_ble_eq_true rfl, Nat.le_of_ble_eq_true rfl⟩ hK hN0 (hP.sub [] rfl) rfl hl.1 rfl (Nat.le_of_ble_eq_true rfl) dX5_advance_147 ⟨Nat.le_of_ble_eq_true rfl, Nat.le_of_ble_eq_true rfl⟩ (fun r_9 hr_9 => ?_)
        have hr_9 : 0 ≤ r_9.toInt ∧ r_9.toInt ≤ 1 := hr_9
        refine lv_if_eq (tgt := 226) hx hb dX5_advance_150 (by decide) (fun c_10 => ?_) (fun c_10 => ?_)
        · have c_10 : r_9.toInt = 0 := ti_eq c_10
          have qc_10 : r_9 = 0 := ti_of (show r_9.toInt = 0 from by omega)
          refine lv_aload_n hx hb dX5_advance_226 rfl (lv_at hl 0 rfl) ?_
          refine va_get (D := D) (ci := 4) (v := .ref (rd 1)) (C := RX5) (T := TX5) (N := 10) hx hb hts inlX5 hown hK hP 0 rfl rfl 4 (by decide) (hts _ mw_50) (fun _ h9 => h9) rfl dX5_advance_227 ?_
          refine lv_aload_n hx hb dX5_advance_230 rfl (lv_at hl 0 rfl) ?_
          refine va_get (D := D) (ci := 4) (v := .int i_1) (C := RX5) (T := TX5) (N := 10) hx hb hts inlX5 hown hK hP 0 rfl rfl 7 (by decide) (hts _ mw_146) (fun _ h9 => h9) rfl dX5_advance_231 ?_
          refine va_bald hx hb hK hP 1 2 rfl rfl (vp_in_o (by omega) (by omega)) dX5_advance_234 ?_
          refine lv_topi (fun z_11 ez_11 => ?_)
          refine lv_bipush (v := 59) hx hb dX5_advance_235 (by decide) ?_
          refine lv_icmp_ne (tgt := 258) hx hb dX5_advance_237 (by decide) (fun c_12 => ?_) (fun c_12 => ?_)
          · have c_12 : z_11.toInt ≠ 59 := ti_ne c_12
            refine lv_aload_n hx hb dX5_advance_258 rfl (lv_at hl 0 rfl) ?_
            refine lv_iconst (v := 1) hx hb dX5_advance_259 (by decide) ?_
            refine kV_uv (q0 := 0) (As := [.int 1]) (rest := []) (wr := [((rd 1), .inl (k 2, 900, .inl tf))]) ⟨hx, hb, hml, hown, hts⟩ (s_R_fail l D k _ _ (va_seli [0, (rf 1), (rf 2), (rf 3), 0, (rf 5), i_1, i_1, (rf 8), (rf 9)]) 1 _) (gV mw_171 mw_172 mw_173 mw_15 mw_174) hd_yX5_fail rfl rfl ⟨Nat.le_of_ble_eq_true rfl, Nat.le_of_ble_eq_true rfl⟩ hK hN0 hP hD hS hA [0] [1] rfl rfl (by decide) (by decide) (by decide) rfl rfl rfl rfl hl.1 rfl (Nat.le_of_ble_eq_true rfl) dX5_advance_260 ⟨Nat.le_of_ble_eq_true rfl, Nat.le_of_ble_eq_true rfl⟩ (fun u_14 H locs hw hP hD hS => ?_)
            obtain ⟨v_15, v_16⟩ := u_14
            have hP : va_P D vwCl [((rd 1), .inl (k 2, 900, .inl tf)), ((rd 0), .inr (4, [.ref (rw 0), .int v_15, .int v_16, .int (rf 3), .ref (rd 1), .int (rf 5), .int i_1, .int i_1, .int 0, .int (rf 9)]))] H := hP
            have hD : va_D A [((rd 1), .inl (k 2, 900, .inl tf)), ((rd 0), .inr (4, [.ref (rw 0), .int v_15, .int v_16, .int (rf 3), .ref (rd 1), .int (rf 5), .int i_1, .int i_1, .int 0, .int (rf 9)]))] := hD
            refine lv_aload_n hx hb dX5_advance_263 rfl (lv_at hl 0 rfl) ?_
            refine va_get (D := D) (ci := 4) (v := .int 0) (C := RX5) (T := TX5) (N := 10) hx hb hts inlX5 hown hK hP 1 rfl rfl 8 (by decide) (hts _ mw_147) (fun _ h9 => h9) rfl dX5_advance_264 ?_
            refine lv_iconst (v := 3) hx hb dX5_advance_267 (by decide) ?_
            refine lv_icmp_ne (tgt := 289) hx hb dX5_advance_268 (by decide) (fun _ => ?_) (fun c9 => absurd c9 (by decide))
            exact W.vret hx hb hr (fun t ht hW => ⟨⟨((va_seli [0, v_15, v_16, (rf 3), 0, (rf 5), i_1, i_1, 0, (rf 9)])), rfl, ⟨(show 0 ≤ (rf 3).toInt ∧ (rf 3).toInt ≤ 900 from ⟨by omega, by omega⟩), (show 0 ≤ (rf 5).toInt ∧ (rf 5).toInt ≤ 900 from ⟨by omega, by omega⟩), (show 0 ≤ i_1.toInt ∧ i_1.toInt ≤ 900 from ⟨by omega, by omega⟩), (show 0 ≤ i_1.toInt ∧ i_1.toInt ≤ 900 from ⟨by omega, by omega⟩), (show i_1.toInt ≤ i_1.toInt from by omega), (show i_1.toInt ≤ (rf 5).toInt from by omega), (show (rf 3).toInt = (rf 3).toInt from by omega)⟩, by rw [ht]; exact hP.sub [1, 0] rfl, hD.sub [1, 0] (by decide) rfl⟩, hS.F ht⟩) hS.2.2 dX5_advance_289
          · have c_12 : z_11.toInt = 59 := ti_eq c_12
            have qc_12 : z_11 = 59 := ti_of (show z_11.toInt = 59 from by omega)
            refine lv_aload_n hx hb dX5_advance_240 rfl (lv_at hl 0 rfl) ?_
            refine lv_iconst (v := 2) hx hb dX5_advance_241 (by decide) ?_
            refine va_put (D := D) (ci := 4) (v := .int 2) (ty := .int) (C := RX5) (T := TX5) (N := 10) hx hb hts inlX5 tyX5 tyX5_ok nmX5 hown hK hP hD hS 0 rfl rfl 8 (by decide) (hts _ mw_147) (fun _ h9 => h9) rfl (by decide +kernel) rfl rfl (Nat.le_of_ble_eq_true rfl) dX5_advance_242 (fun H locs hP hD hS => ?_)
            have hP : va_P D vwCl [((rd 0), .inr (4, [.ref (rw 0), .int (rf 1), .int (rf 2), .int (rf 3), .ref (rd 1), .int (rf 5), .int i_1, .int i_1, .int 2, .int (rf 9)])), ((rd 1), .inl (k 2, 900, .inl tf))] H := hP
            have hD : va_D A [((rd 0), .inr (4, [.ref (rw 0), .int (rf 1), .int (rf 2), .int (rf 3), .ref (rd 1), .int (rf 5), .int i_1, .int i_1, .int 2, .int (rf 9)])), ((rd 1), .inl (k 2, 900, .inl tf))] := hD
            refine lv_aload_n hx hb dX5_advance_245 rfl (lv_at hl 0 rfl) ?_
            refine lv_dup hx hb dX5_advance_246 rfl ?_
            refine va_get (D := D) (ci := 4) (v := .int i_1) (C := RX5) (T := TX5) (N := 10) hx hb hts inlX5 hown hK hP 0 rfl rfl 7 (by decide) (hts _ mw_146) (fun _ h9 => h9) rfl dX5_advance_247 ?_
            refine lv_iconst (v := 1) hx hb dX5_advance_250 (by decide) ?_
            refine lv_iadd hx hb dX5_advance_251 ?_
            refine lv_topi (fun z_17 ez_17 => ?_)
            have tz_17 : z_17.toInt = i_1.toInt + 1 := by rw [ez_17]; exact ti_addc (by decide) (by omega) (by omega)
            refine va_put (D := D) (ci := 4) (v := .int z_17) (ty := .int) (C := RX5) (T := TX5) (N := 10) hx hb hts inlX5 tyX5 tyX5_ok nmX5 hown hK hP hD hS 0 rfl rfl 7 (by decide) (hts _ mw_146) (fun _ h9 => h9) rfl (by decide +kernel) rfl rfl (Nat.le_of_ble_eq_true rfl) dX5_advance_252 (fun H locs hP hD hS => ?_)
            have hP : va_P D vwCl [((rd 0), .inr (4, [.ref (rw 0), .int (rf 1), .int (rf 2), .int (rf 3), .ref (rd 1), .int (rf 5), .int i_1, .int z_17, .int 2, .int (rf 9)])), ((rd 1), .inl (k 2, 900, .inl tf))] H := hP
            have hD : va_D A [((rd 0), .inr (4, [.ref (rw 0), .int (rf 1), .int (rf 2), .int (rf 3), .ref (rd 1), .int (rf 5), .int i_1, .int z_17, .int 2, .int (rf 9)])), ((rd 1), .inl (k 2, 900, .inl tf))] := hD
            refine lv_goto (tgt := 263) hx hb dX5_advance_255 (by decide) ?_
            refine lv_aload_n hx hb dX5_advance_263 rfl (lv_at hl 0 rfl) ?_
            refine va_get (D := D) (ci := 4) (v := .int 2) (C := RX5) (T := TX5) (N := 10) hx hb hts inlX5 hown hK hP 0 rfl rfl 8 (by decide) (hts _ mw_147) (fun _ h9 => h9) rfl dX5_advance_264 ?_
            refine lv_iconst (v := 3) hx hb dX5_advance_267 (by decide) ?_
            refine lv_icmp_ne (tgt := 289) hx hb dX5_advance_268 (by decide) (fun _ => ?_) (fun c9 => absurd c9 (by decide))
            exact W.vret hx hb hr (fun t ht hW => ⟨⟨((va_seli [0, (rf 1), (rf 2), (rf 3), 0, (rf 5), i_1, z_17, 2, (rf 9)])), rfl, ⟨(show 0 ≤ (rf 3).toInt ∧ (rf 3).toInt ≤ 900 from ⟨by omega, by omega⟩), (show 0 ≤ (rf 5).toInt ∧ (rf 5).toInt ≤ 900 from ⟨by omega, by omega⟩), (show 0 ≤ i_1.toInt ∧ i_1.toInt ≤ 900 from ⟨by omega, by omega⟩), (show 0 ≤ z_17.toInt ∧ z_17.toInt ≤ 900 from ⟨by omega, by omega⟩), (show i_1.toInt ≤ z_17.toInt from by omega), (show z_17.toInt ≤ (rf 5).toInt from by omega), (show (rf 3).toInt = (rf 3).toInt from by omega)⟩, by rw [ht]; exact hP.sub [0, 1] rfl, hD.sub [0, 1] (by decide) rfl⟩, hS.F ht⟩) hS.2.2 dX5_advance_289
        · have c_10 : r_9.toInt ≠ 0 := ti_ne c_10
          have qc_10 : r_9 = 1 := ti_of (show r_9.toInt = 1 from by omega)
          refine lv_aload_n hx hb dX5_advance_153 rfl (lv_at hl 0 rfl) ?_
          refine lv_iconst (v := 3) hx hb dX5_advance_154 (by decide) ?_
          refine va_put (D := D) (ci := 4) (v := .int 3) (ty := .int) (C := RX5) (T := TX5) (N := 10) hx hb hts inlX5 tyX5 tyX5_ok nmX5 hown hK hP hD hS 0 rfl rfl 8 (by decide) (hts _ mw_147) (fun _ h9 => h9) rfl (by decide +kernel) rfl rfl (Nat.le_of_ble_eq_true rfl) dX5_advance_155 (fun H locs hP hD hS => ?_)
          have hP : va_P D vwCl [((rd 0), .inr (4, [.ref (rw 0), .int (rf 1), .int (rf 2), .int (rf 3), .ref (rd 1), .int (rf 5), .int i_1, .int i_1, .int 3, .int (rf 9)])), ((rd 1), .inl (k 2, 900, .inl tf))] H := hP
          have hD : va_D A [((rd 0), .inr (4, [.ref (rw 0), .int (rf 1), .int (rf 2), .int (rf 3), .ref (rd 1), .int (rf 5), .int i_1, .int i_1, .int 3, .int (rf 9)])), ((rd 1), .inl (k 2, 900, .inl tf))] := hD
          refine lv_aload_n hx hb dX5_advance_158 rfl (lv_at hl 0 rfl) ?_
          refine lv_iconst (v := 0) hx hb dX5_advance_159 (by decide) ?_
          refine va_put (D := D) (ci := 4) (v := .int 0) (ty := .int) (C := RX5) (T := TX5) (N := 10) hx hb hts inlX5 tyX5 tyX5_ok nmX5 hown hK hP hD hS 0 rfl rfl 9 (by decide) (hts _ mw_164) (fun _ h9 => h9) rfl (by decide +kernel) rfl rfl (Nat.le_of_ble_eq_true rfl) dX5_advance_160 (fun H locs hP hD hS => ?_)
          have hP : va_P D vwCl [((rd 0), .inr (4, [.ref (rw 0), .int (rf 1), .int (rf 2), .int (rf 3), .ref (rd 1), .int (rf 5), .int i_1, .int i_1, .int 3, .int 0])), ((rd 1), .inl (k 2, 900, .inl tf))] H := hP
          have hD : va_D A [((rd 0), .inr (4, [.ref (rw 0), .int (rf 1), .int (rf 2), .int (rf 3), .ref (rd 1), .int (rf 5), .int i_1, .int i_1, .int 3, .int 0])), ((rd 1), .inl (k 2, 900, .inl tf))] := hD
          refine W_loop (σ := Int32 × Int32) (fun xx H locs ls => (i_1.toInt ≤ xx.1.toInt ∧ xx.1.toInt ≤ (rf 5).toInt) ∧ va_P D vwCl [((rd 0), .inr (4, [.ref (rw 0), .int (rf 1), .int (rf 2), .int (rf 3), .ref (rd 1), .int (rf 5), .int i_1, .int xx.1, .int 3, .int xx.2])), ((rd 1), .inl (k 2, 900, .inl tf))] H ∧ va_D A [((rd 0), .inr (4, [.ref (rw 0), .int (rf 1), .int (rf 2), .int (rf 3), .ref (rd 1), .int (rf 5), .int i_1, .int xx.1, .int 3, .int xx.2])), ((rd 1), .inl (k 2, 900, .inl tf))] ∧ va_S A s.heap H locs ∧ lv_has ls 1 [(0, .ref (rd 0))]) (fun xx => ((rf 5).toInt - xx.1.toInt).toNat) ?_ (i_1, 0) _ _ ls ⟨(show i_1.toInt ≤ i_1.toInt ∧ i_1.toInt ≤ (rf 5).toInt from ⟨by omega, by omega⟩), hP.sub [0, 1] rfl, hD.sub [0, 1] (by decide) rfl, hS, lv_sub hl [0] rfl⟩
          intro xx H locs ls hI ih163
          obtain ⟨i_18, y_19⟩ := xx
          obtain ⟨h_20, hP, hD, hS, hl⟩ := hI
          have h_20 : i_1.toInt ≤ i_18.toInt ∧ i_18.toInt ≤ (rf 5).toInt := h_20
          obtain ⟨h_20a, h_20b⟩ := h_20
          have hP : va_P D vwCl [((rd 0), .inr (4, [.ref (rw 0), .int (rf 1), .int (rf 2), .int (rf 3), .ref (rd 1), .int (rf 5), .int i_1, .int i_18, .int 3, .int y_19])), ((rd 1), .inl (k 2, 900, .inl tf))] H := hP
          have hD : va_D A [((rd 0), .inr (4, [.ref (rw 0), .int (rf 1), .int (rf 2), .int (rf 3), .ref (rd 1), .int (rf 5), .int i_1, .int i_18, .int 3, .int y_19])), ((rd 1), .inl (k 2, 900, .inl tf))] := hD
          have hl : lv_has ls 1 [(0, .ref (rd 0))] := hl
          refine lv_aload_n hx hb dX5_advance_163 rfl (lv_at hl 0 rfl) ?_
          refine va_get (D := D) (ci := 4) (v := .int i_18) (C := RX5) (T := TX5) (N := 10) hx hb hts inlX5 hown hK hP 0 rfl rfl 7 (by decide) (hts _ mw_146) (fun _ h9 => h9) rfl dX5_advance_164 ?_
          refine lv_aload_n hx hb dX5_advance_167 rfl (lv_at hl 0 rfl) ?_
          refine va_get (D := D) (ci := 4) (v := .int (rf 5)) (C := RX5) (T := TX5) (N := 10) hx hb hts inlX5 hown hK hP 0 rfl rfl 5 (by decide) (hts _ mw_144) (fun _ h9 => h9) rfl dX5_advance_168 ?_
          refine lv_icmp_ge (tgt := 263) hx hb dX5_advance_171 (by decide) (fun c_21 => ?_) (fun c_21 => ?_)
          · have c_21 : (rf 5).toInt ≤ i_18.toInt := ti_le c_21
            refine lv_aload_n hx hb dX5_advance_263 rfl (lv_at hl 0 rfl) ?_
            refine va_get (D := D) (ci := 4) (v := .int 3) (C := RX5) (T := TX5) (N := 10) hx hb hts inlX5 hown hK hP 0 rfl rfl 8 (by decide) (hts _ mw_147) (fun _ h9 => h9) rfl dX5_advance_264 ?_
            refine lv_iconst (v := 3) hx hb dX5_advance_267 (by decide) ?_
            refine lv_icmp_ne (tgt := 289) hx hb dX5_advance_268 (by decide) (fun c9 => absurd c9 (by decide)) (fun _ => ?_)
            refine lv_aload_n hx hb dX5_advance_271 rfl (lv_at hl 0 rfl) ?_
            refine va_get (D := D) (ci := 4) (v := .int i_18) (C := RX5) (T := TX5) (N := 10) hx hb hts inlX5 hown hK hP 0 rfl rfl 7 (by decide) (hts _ mw_146) (fun _ h9 => h9) rfl dX5_advance_272 ?_
            refine lv_aload_n hx hb dX5_advance_275 rfl (lv_at hl 0 rfl) ?_
            refine va_get (D := D) (ci := 4) (v := .int i_1) (C := RX5) (T := TX5) (N := 10) hx hb hts inlX5 hown hK hP 0 rfl rfl 6 (by decide) (hts _ mw_163) (fun _ h9 => h9) rfl dX5_advance_276 ?_
            refine lv_isub hx hb dX5_advance_279 ?_
            refine lv_topi (fun z_22 ez_22 => ?_)
            have tz_22 : z_22.toInt = i_18.toInt - i_1.toInt := by rw [ez_22]; exact ti_subc rfl (by omega) (by omega)
            refine lv_iconst (v := 3) hx hb dX5_advance_280 (by decide) ?_
            refine lv_icmp_le (tgt := 289) hx hb dX5_advance_281 (by decide) (fun c_23 => ?_) (fun c_23 => ?_)
            · have c_23 : z_22.toInt ≤ 3 := ti_le c_23
              exact W.vret hx hb hr (fun t ht hW => ⟨⟨((va_seli [0, (rf 1), (rf 2), (rf 3), 0, (rf 5), i_1, i_18, 3, y_19])), rfl, ⟨(show 0 ≤ (rf 3).toInt ∧ (rf 3).toInt ≤ 900 from ⟨by omega, by omega⟩), (show 0 ≤ (rf 5).toInt ∧ (rf 5).toInt ≤ 900 from ⟨by omega, by omega⟩), (show 0 ≤ i_1.toInt ∧ i_1.toInt ≤ 900 from ⟨by omega, by omega⟩), (show 0 ≤ i_18.toInt ∧ i_18.toInt ≤ 900 from ⟨by omega, by omega⟩), (show i_1.toInt ≤ i_18.toInt from by omega), (show i_18.toInt ≤ (rf 5).toInt from by omega), (show (rf 3).toInt = (rf 3).toInt from by omega)⟩, by rw [ht]; exact hP.sub [0, 1] rfl, hD.sub [0, 1] (by decide) rfl⟩, hS.F ht⟩) hS.2.2 dX5_advance_289
            · have c_23 : 3 < z_22.toInt := ti_nle c_23
              refine lv_aload_n hx hb dX5_advance_284 rfl (lv_at hl 0 rfl) ?_
              refine lv_iconst (v := 1) hx hb dX5_advance_285 (by decide) ?_
              refine kV_uv (q0 := 0) (As := [.int 1]) (rest := []) (wr := [((rd 1), .inl (k 2, 900, .inl tf))]) ⟨hx, hb, hml, hown, hts⟩ (s_R_fail l D k _ _ (va_seli [0, (rf 1), (rf 2), (rf 3), 0, (rf 5), i_1, i_18, 3, y_19]) 1 _) (gV mw_171 mw_172 mw_173 mw_15 mw_174) hd_yX5_fail rfl rfl ⟨Nat.le_of_ble_eq_true rfl, Nat.le_of_ble_eq_true rfl⟩ hK hN0 hP hD hS hA [0] [1] rfl rfl (by decide) (by decide) (by decide) rfl rfl rfl rfl hl.1 rfl (Nat.le_of_ble_eq_true rfl) dX5_advance_286 ⟨Nat.le_of_ble_eq_true rfl, Nat.le_of_ble_eq_true rfl⟩ (fun u_25 H locs hw hP hD hS => ?_)
              obtain ⟨v_26, v_27⟩ := u_25
              have hP : va_P D vwCl [((rd 1), .inl (k 2, 900, .inl tf)), ((rd 0), .inr (4, [.ref (rw 0), .int v_26, .int v_27, .int (rf 3), .ref (rd 1), .int (rf 5), .int i_1, .int i_18, .int 0, .int y_19]))] H := hP
              have hD : va_D A [((rd 1), .inl (k 2, 900, .inl tf)), ((rd 0), .inr (4, [.ref (rw 0), .int v_26, .int v_27, .int (rf 3), .ref (rd 1), .int (rf 5), .int i_1, .int i_18, .int 0, .int y_19]))] := hD
              exact W.vret hx hb hr (fun t ht hW => ⟨⟨((va_seli [0, v_26, v_27, (rf 3), 0, (rf 5), i_1, i_18, 0, y_19])), rfl, ⟨(show 0 ≤ (rf 3).toInt ∧ (rf 3).toInt ≤ 900 from ⟨by omega, by omega⟩), (show 0 ≤ (rf 5).toInt ∧ (rf 5).toInt ≤ 900 from ⟨by omega, by omega⟩), (show 0 ≤ i_1.toInt ∧ i_1.toInt ≤ 900 from ⟨by omega, by omega⟩), (show 0 ≤ i_18.toInt ∧ i_18.toInt ≤ 900 from ⟨by omega, by omega⟩), (show i_1.toInt ≤ i_18.toInt from by omega), (show i_18.toInt ≤ (rf 5).toInt from by omega), (show (rf 3).toInt = (rf 3).toInt from by omega)⟩, by rw [ht]; exact hP.sub [1, 0] rfl, hD.sub [1, 0] (by decide) rfl⟩, hS.F ht⟩) hS.2.2 dX5_advance_289
          · have c_21 : i_18.toInt < (rf 5).toInt := ti_nle c_21
            refine lv_aload_n hx hb dX5_advance_174 rfl (lv_at hl 0 rfl) ?_
            refine va_get (D := D) (ci := 4) (v := .ref (rd 1)) (C := RX5) (T := TX5) (N := 10) hx hb hts inlX5 hown hK hP 0 rfl rfl 4 (by decide) (hts _ mw_50) (fun _ h9 => h9) rfl dX5_advance_175 ?_
            refine lv_aload_n hx hb dX5_advance_178 rfl (lv_at hl 0 rfl) ?_
            refine va_get (D := D) (ci := 4) (v := .int i_18) (C := RX5) (T := TX5) (N := 10) hx hb hts inlX5 hown hK hP 0 rfl rfl 7 (by decide) (hts _ mw_146) (fun _ h9 => h9) rfl dX5_advance_179 ?_
            refine va_bald hx hb hK hP 1 2 rfl rfl (vp_in_o (by omega) (by omega)) dX5_advance_182 ?_
            refine lv_topi (fun z_28 ez_28 => ?_)
            refine kS_i (As := [.int z_28]) (rest := []) ⟨hx, hb, hml, hown, hts⟩ (s_R_isDigit l D k z_28) (gS mw_168 mw_169 mw_15 mw_170) hd_yX5_isDigit rfl rfl ⟨Nat.le_of_ble_eq_true rfl, Nat.le_of_ble_eq_true rfl⟩ hK hN0 (hP.sub [] rfl) rfl hl.1 rfl (Nat.le_of_ble_eq_true rfl) dX5_advance_183 ⟨Nat.le_of_ble_eq_true rfl, Nat.le_of_ble_eq_true rfl⟩ (fun r_29 hr_29 => ?_)
            have hr_29 : 0 ≤ r_29.toInt ∧ r_29.toInt ≤ 1 := hr_29
            refine lv_if_eq (tgt := 263) hx hb dX5_advance_186 (by decide) (fun c_30 => ?_) (fun c_30 => ?_)
            · have c_30 : r_29.toInt = 0 := ti_eq c_30
              have qc_30 : r_29 = 0 := ti_of (show r_29.toInt = 0 from by omega)
              refine lv_aload_n hx hb dX5_advance_263 rfl (lv_at hl 0 rfl) ?_
              refine va_get (D := D) (ci := 4) (v := .int 3) (C := RX5) (T := TX5) (N := 10) hx hb hts inlX5 hown hK hP 0 rfl rfl 8 (by decide) (hts _ mw_147) (fun _ h9 => h9) rfl dX5_advance_264 ?_
              refine lv_iconst (v := 3) hx hb dX5_advance_267 (by decide) ?_
              refine lv_icmp_ne (tgt := 289) hx hb dX5_advance_268 (by decide) (fun c9 => absurd c9 (by decide)) (fun _ => ?_)
              refine lv_aload_n hx hb dX5_advance_271 rfl (lv_at hl 0 rfl) ?_
              refine va_get (D := D) (ci := 4) (v := .int i_18) (C := RX5) (T := TX5) (N := 10) hx hb hts inlX5 hown hK hP 0 rfl rfl 7 (by decide) (hts _ mw_146) (fun _ h9 => h9) rfl dX5_advance_272 ?_
              refine lv_aload_n hx hb dX5_advance_275 rfl (lv_at hl 0 rfl) ?_
              refine va_get (D := D) (ci := 4) (v := .int i_1) (C := RX5) (T := TX5) (N := 10) hx hb hts inlX5 hown hK hP 0 rfl rfl 6 (by decide) (hts _ mw_163) (fun _ h9 => h9) rfl dX5_advance_276 ?_
              refine lv_isub hx hb dX5_advance_279 ?_
              refine lv_topi (fun z_31 ez_31 => ?_)
              have tz_31 : z_31.toInt = i_18.toInt - i_1.toInt := by rw [ez_31]; exact ti_subc rfl (by omega) (by omega)
              refine lv_iconst (v := 3) hx hb dX5_advance_280 (by decide) ?_
              refine lv_icmp_le (tgt := 289) hx hb dX5_advance_281 (by decide) (fun c_32 => ?_) (fun c_32 => ?_)
              · have c_32 : z_31.toInt ≤ 3 := ti_le c_32
                exact W.vret hx hb hr (fun t ht hW => ⟨⟨((va_seli [0, (rf 1), (rf 2), (rf 3), 0, (rf 5), i_1, i_18, 3, y_19])), rfl, ⟨(show 0 ≤ (rf 3).toInt ∧ (rf 3).toInt ≤ 900 from ⟨by omega, by omega⟩), (show 0 ≤ (rf 5).toInt ∧ (rf 5).toInt ≤ 900 from ⟨by omega, by omega⟩), (show 0 ≤ i_1.toInt ∧ i_1.toInt ≤ 900 from ⟨by omega, by omega⟩), (show 0 ≤ i_18.toInt ∧ i_18.toInt ≤ 900 from ⟨by omega, by omega⟩), (show i_1.toInt ≤ i_18.toInt from by omega), (show i_18.toInt ≤ (rf 5).toInt from by omega), (show (rf 3).toInt = (rf 3).toInt from by omega)⟩, by rw [ht]; exact hP.sub [0, 1] rfl, hD.sub [0, 1] (by decide) rfl⟩, hS.F ht⟩) hS.2.2 dX5_advance_289
              · have c_32 : 3 < z_31.toInt := ti_nle c_32
                refine lv_aload_n hx hb dX5_advance_284 rfl (lv_at hl 0 rfl) ?_
                refine lv_iconst (v := 1) hx hb dX5_advance_285 (by decide) ?_
                refine kV_uv (q0 := 0) (As := [.int 1]) (rest := []) (wr := [((rd 1), .inl (k 2, 900, .inl tf))]) ⟨hx, hb, hml, hown, hts⟩ (s_R_fail l D k _ _ (va_seli [0, (rf 1), (rf 2), (rf 3), 0, (rf 5), i_1, i_18, 3, y_19]) 1 _) (gV mw_171 mw_172 mw_173 mw_15 mw_174) hd_yX5_fail rfl rfl ⟨Nat.le_of_ble_eq_true rfl, Nat.le_of_ble_eq_true rfl⟩ hK hN0 hP hD hS hA [0] [1] rfl rfl (by decide) (by decide) (by decide) rfl rfl rfl rfl hl.1 rfl (Nat.le_of_ble_eq_true rfl) dX5_advance_286 ⟨Nat.le_of_ble_eq_true rfl, Nat.le_of_ble_eq_true rfl⟩ (fun u_34 H locs hw hP hD hS => ?_)
                obtain ⟨v_35, v_36⟩ := u_34
                have hP : va_P D vwCl [((rd 1), .inl (k 2, 900, .inl tf)), ((rd 0), .inr (4, [.ref (rw 0), .int v_35, .int v_36, .int (rf 3), .ref (rd 1), .int (rf 5), .int i_1, .int i_18, .int 0, .int y_19]))] H := hP
                have hD : va_D A [((rd 1), .inl (k 2, 900, .inl tf)), ((rd 0), .inr (4, [.ref (rw 0), .int v_35, .int v_36, .int (rf 3), .ref (rd 1), .int (rf 5), .int i_1, .int i_18, .int 0, .int y_19]))] := hD
                exact W.vret hx hb hr (fun t ht hW => ⟨⟨((va_seli [0, v_35, v_36, (rf 3), 0, (rf 5), i_1, i_18, 0, y_19])), rfl, ⟨(show 0 ≤ (rf 3).toInt ∧ (rf 3).toInt ≤ 900 from ⟨by omega, by omega⟩), (show 0 ≤ (rf 5).toInt ∧ (rf 5).toInt ≤ 900 from ⟨by omega, by omega⟩), (show 0 ≤ i_1.toInt ∧ i_1.toInt ≤ 900 from ⟨by omega, by omega⟩), (show 0 ≤ i_18.toInt ∧ i_18.toInt ≤ 900 from ⟨by omega, by omega⟩), (show i_1.toInt ≤ i_18.toInt from by omega), (show i_18.toInt ≤ (rf 5).toInt from by omega), (show (rf 3).toInt = (rf 3).toInt from by omega)⟩, by rw [ht]; exact hP.sub [1, 0] rfl, hD.sub [1, 0] (by decide) rfl⟩, hS.F ht⟩) hS.2.2 dX5_advance_289
            · have c_30 : r_29.toInt ≠ 0 := ti_ne c_30
              have qc_30 : r_29 = 1 := ti_of (show r_29.toInt = 1 from by omega)
              refine lv_aload_n hx hb dX5_advance_189 rfl (lv_at hl 0 rfl) ?_
              refine lv_bipush (v := 10) hx hb dX5_advance_190 (by decide) ?_
              refine lv_aload_n hx hb dX5_advance_192 rfl (lv_at hl 0 rfl) ?_
              refine va_get (D := D) (ci := 4) (v := .int y_19) (C := RX5) (T := TX5) (N := 10) hx hb hts inlX5 hown hK hP 0 rfl rfl 9 (by decide) (hts _ mw_164) (fun _ h9 => h9) rfl dX5_advance_193 ?_
              refine lv_imul hx hb dX5_advance_196 ?_
              refine lv_topi (fun z_37 ez_37 => ?_)
              refine lv_aload_n hx hb dX5_advance_197 rfl (lv_at hl 0 rfl) ?_
              refine va_get (D := D) (ci := 4) (v := .ref (rd 1)) (C := RX5) (T := TX5) (N := 10) hx hb hts inlX5 hown hK hP 0 rfl rfl 4 (by decide) (hts _ mw_50) (fun _ h9 => h9) rfl dX5_advance_198 ?_
              refine lv_aload_n hx hb dX5_advance_201 rfl (lv_at hl 0 rfl) ?_
              refine va_get (D := D) (ci := 4) (v := .int i_18) (C := RX5) (T := TX5) (N := 10) hx hb hts inlX5 hown hK hP 0 rfl rfl 7 (by decide) (hts _ mw_146) (fun _ h9 => h9) rfl dX5_advance_202 ?_
              refine va_bald hx hb hK hP 1 2 rfl rfl (vp_in_o (by omega) (by omega)) dX5_advance_205 ?_
              refine lv_topi (fun z_38 ez_38 => ?_)
              refine lv_iadd hx hb dX5_advance_206 ?_
              refine lv_topi (fun z_39 ez_39 => ?_)
              refine lv_bipush (v := 48) hx hb dX5_advance_207 (by decide) ?_
              refine lv_isub hx hb dX5_advance_209 ?_
              refine lv_topi (fun z_40 ez_40 => ?_)
              refine va_put (D := D) (ci := 4) (v := .int z_40) (ty := .int) (C := RX5) (T := TX5) (N := 10) hx hb hts inlX5 tyX5 tyX5_ok nmX5 hown hK hP hD hS 0 rfl rfl 9 (by decide) (hts _ mw_164) (fun _ h9 => h9) rfl (by decide +kernel) rfl rfl (Nat.le_of_ble_eq_true rfl) dX5_advance_210 (fun H locs hP hD hS => ?_)
              have hP : va_P D vwCl [((rd 0), .inr (4, [.ref (rw 0), .int (rf 1), .int (rf 2), .int (rf 3), .ref (rd 1), .int (rf 5), .int i_1, .int i_18, .int 3, .int z_40])), ((rd 1), .inl (k 2, 900, .inl tf))] H := hP
              have hD : va_D A [((rd 0), .inr (4, [.ref (rw 0), .int (rf 1), .int (rf 2), .int (rf 3), .ref (rd 1), .int (rf 5), .int i_1, .int i_18, .int 3, .int z_40])), ((rd 1), .inl (k 2, 900, .inl tf))] := hD
              refine lv_aload_n hx hb dX5_advance_213 rfl (lv_at hl 0 rfl) ?_
              refine lv_dup hx hb dX5_advance_214 rfl ?_
              refine va_get (D := D) (ci := 4) (v := .int i_18) (C := RX5) (T := TX5) (N := 10) hx hb hts inlX5 hown hK hP 0 rfl rfl 7 (by decide) (hts _ mw_146) (fun _ h9 => h9) rfl dX5_advance_215 ?_
              refine lv_iconst (v := 1) hx hb dX5_advance_218 (by decide) ?_
              refine lv_iadd hx hb dX5_advance_219 ?_
              refine lv_topi (fun z_41 ez_41 => ?_)
              have tz_41 : z_41.toInt = i_18.toInt + 1 := by rw [ez_41]; exact ti_addc (by decide) (by omega) (by omega)
              refine va_put (D := D) (ci := 4) (v := .int z_41) (ty := .int) (C := RX5) (T := TX5) (N := 10) hx hb hts inlX5 tyX5 tyX5_ok nmX5 hown hK hP hD hS 0 rfl rfl 7 (by decide) (hts _ mw_146) (fun _ h9 => h9) rfl (by decide +kernel) rfl rfl (Nat.le_of_ble_eq_true rfl) dX5_advance_220 (fun H locs hP hD hS => ?_)
              have hP : va_P D vwCl [((rd 0), .inr (4, [.ref (rw 0), .int (rf 1), .int (rf 2), .int (rf 3), .ref (rd 1), .int (rf 5), .int i_1, .int z_41, .int 3, .int z_40])), ((rd 1), .inl (k 2, 900, .inl tf))] H := hP
              have hD : va_D A [((rd 0), .inr (4, [.ref (rw 0), .int (rf 1), .int (rf 2), .int (rf 3), .ref (rd 1), .int (rf 5), .int i_1, .int z_41, .int 3, .int z_40])), ((rd 1), .inl (k 2, 900, .inl tf))] := hD
              refine lv_goto (tgt := 163) hx hb dX5_advance_223 (by decide) ?_
              exact ih163 (z_41, z_40) _ _ ls (by show ((rf 5).toInt - z_41.toInt).toNat < ((rf 5).toInt - i_18.toInt).toNat; omega) ⟨(show i_1.toInt ≤ z_41.toInt ∧ z_41.toInt ≤ (rf 5).toInt from ⟨by omega, by omega⟩), hP.sub [0, 1] rfl, hD.sub [0, 1] (by decide) rfl, hS, lv_sub hl [0] rfl⟩
      · have c_7 : r_6.toInt ≠ 0 := ti_ne c_7
        have qc_7 : r_6 = 1 := ti_of (show r_6.toInt = 1 from by omega)
        refine lv_aload_n hx hb dX5_advance_94 rfl (lv_at hl 0 rfl) ?_
        refine lv_iconst (v := 4) hx hb dX5_advance_95 (by decide) ?_
        refine va_put (D := D) (ci := 4) (v := .int 4) (ty := .int) (C := RX5) (T := TX5) (N := 10) hx hb hts inlX5 tyX5 tyX5_ok nmX5 hown hK hP hD hS 0 rfl rfl 8 (by decide) (hts _ mw_147) (fun _ h9 => h9) rfl (by decide +kernel) rfl rfl (Nat.le_of_ble_eq_true rfl) dX5_advance_96 (fun H locs hP hD hS => ?_)
        have hP : va_P D vwCl [((rd 0), .inr (4, [.ref (rw 0), .int (rf 1), .int (rf 2), .int (rf 3), .ref (rd 1), .int (rf 5), .int i_1, .int i_1, .int 4, .int (rf 9)])), ((rd 1), .inl (k 2, 900, .inl tf))] H := hP
        have hD : va_D A [((rd 0), .inr (4, [.ref (rw 0), .int (rf 1), .int (rf 2), .int (rf 3), .ref (rd 1), .int (rf 5), .int i_1, .int i_1, .int 4, .int (rf 9)])), ((rd 1), .inl (k 2, 900, .inl tf))] := hD
        refine W_loop (σ := Int32) (fun xx H locs ls => (i_1.toInt ≤ xx.toInt ∧ xx.toInt ≤ (rf 5).toInt) ∧ va_P D vwCl [((rd 0), .inr (4, [.ref (rw 0), .int (rf 1), .int (rf 2), .int (rf 3), .ref (rd 1), .int (rf 5), .int i_1, .int xx, .int 4, .int (rf 9)])), ((rd 1), .inl (k 2, 900, .inl tf))] H ∧ va_D A [((rd 0), .inr (4, [.ref (rw 0), .int (rf 1), .int (rf 2), .int (rf 3), .ref (rd 1), .int (rf 5), .int i_1, .int xx, .int 4, .int (rf 9)])), ((rd 1), .inl (k 2, 900, .inl tf))] ∧ va_S A s.heap H locs ∧ lv_has ls 1 [(0, .ref (rd 0))]) (fun xx => ((rf 5).toInt - xx.toInt).toNat) ?_ (i_1) _ _ ls ⟨(show i_1.toInt ≤ i_1.toInt ∧ i_1.toInt ≤ (rf 5).toInt from ⟨by omega, by omega⟩), hP.sub [0, 1] rfl, hD.sub [0, 1] (by decide) rfl, hS, lv_sub hl [0] rfl⟩
        intro xx H locs ls hI ih99
        obtain ⟨i_42, rfl⟩ : ∃ z, z = xx := ⟨_, rfl⟩
        obtain ⟨h_43, hP, hD, hS, hl⟩ := hI
        have h_43 : i_1.toInt ≤ i_42.toInt ∧ i_42.toInt ≤ (rf 5).toInt := h_43
        obtain ⟨h_43a, h_43b⟩ := h_43
        have hP : va_P D vwCl [((rd 0), .inr (4, [.ref (rw 0), .int (rf 1), .int (rf 2), .int (rf 3), .ref (rd 1), .int (rf 5), .int i_1, .int i_42, .int 4, .int (rf 9)])), ((rd 1), .inl (k 2, 900, .inl tf))] H := hP
        have hD : va_D A [((rd 0), .inr (4, [.ref (rw 0), .int (rf 1), .int (rf 2), .int (rf 3), .ref (rd 1), .int (rf 5), .int i_1, .int i_42, .int 4, .int (rf 9)])), ((rd 1), .inl (k 2, 900, .inl tf))] := hD
        have hl : lv_has ls 1 [(0, .ref (rd 0))] := hl
        refine lv_aload_n hx hb dX5_advance_99 rfl (lv_at hl 0 rfl) ?_
        refine va_get (D := D) (ci := 4) (v := .int i_42) (C := RX5) (T := TX5) (N := 10) hx hb hts inlX5 hown hK hP 0 rfl rfl 7 (by decide) (hts _ mw_146) (fun _ h9 => h9) rfl dX5_advance_100 ?_
        refine lv_aload_n hx hb dX5_advance_103 rfl (lv_at hl 0 rfl) ?_
        refine va_get (D := D) (ci := 4) (v := .int (rf 5)) (C := RX5) (T := TX5) (N := 10) hx hb hts inlX5 hown hK hP 0 rfl rfl 5 (by decide) (hts _ mw_144) (fun _ h9 => h9) rfl dX5_advance_104 ?_
        refine lv_icmp_ge (tgt := 263) hx hb dX5_advance_107 (by decide) (fun c_44 => ?_) (fun c_44 => ?_)
        · have c_44 : (rf 5).toInt ≤ i_42.toInt := ti_le c_44
          refine lv_aload_n hx hb dX5_advance_263 rfl (lv_at hl 0 rfl) ?_
          refine va_get (D := D) (ci := 4) (v := .int 4) (C := RX5) (T := TX5) (N := 10) hx hb hts inlX5 hown hK hP 0 rfl rfl 8 (by decide) (hts _ mw_147) (fun _ h9 => h9) rfl dX5_advance_264 ?_
          refine lv_iconst (v := 3) hx hb dX5_advance_267 (by decide) ?_
          refine lv_icmp_ne (tgt := 289) hx hb dX5_advance_268 (by decide) (fun _ => ?_) (fun c9 => absurd c9 (by decide))
          exact W.vret hx hb hr (fun t ht hW => ⟨⟨((va_seli [0, (rf 1), (rf 2), (rf 3), 0, (rf 5), i_1, i_42, 4, (rf 9)])), rfl, ⟨(show 0 ≤ (rf 3).toInt ∧ (rf 3).toInt ≤ 900 from ⟨by omega, by omega⟩), (show 0 ≤ (rf 5).toInt ∧ (rf 5).toInt ≤ 900 from ⟨by omega, by omega⟩), (show 0 ≤ i_1.toInt ∧ i_1.toInt ≤ 900 from ⟨by omega, by omega⟩), (show 0 ≤ i_42.toInt ∧ i_42.toInt ≤ 900 from ⟨by omega, by omega⟩), (show i_1.toInt ≤ i_42.toInt from by omega), (show i_42.toInt ≤ (rf 5).toInt from by omega), (show (rf 3).toInt = (rf 3).toInt from by omega)⟩, by rw [ht]; exact hP.sub [0, 1] rfl, hD.sub [0, 1] (by decide) rfl⟩, hS.F ht⟩) hS.2.2 dX5_advance_289
        · have c_44 : i_42.toInt < (rf 5).toInt := ti_nle c_44
          refine lv_aload_n hx hb dX5_advance_110 rfl (lv_at hl 0 rfl) ?_
          refine va_get (D := D) (ci := 4) (v := .ref (rd 1)) (C := RX5) (T := TX5) (N := 10) hx hb hts inlX5 hown hK hP 0 rfl rfl 4 (by decide) (hts _ mw_50) (fun _ h9 => h9) rfl dX5_advance_111 ?_
          refine lv_aload_n hx hb dX5_advance_114 rfl (lv_at hl 0 rfl) ?_
          refine va_get (D := D) (ci := 4) (v := .int i_42) (C := RX5) (T := TX5) (N := 10) hx hb hts inlX5 hown hK hP 0 rfl rfl 7 (by decide) (hts _ mw_146) (fun _ h9 => h9) rfl dX5_advance_115 ?_
          refine va_bald hx hb hK hP 1 2 rfl rfl (vp_in_o (by omega) (by omega)) dX5_advance_118 ?_
          refine lv_topi (fun z_45 ez_45 => ?_)
          refine kS_i (As := [.int z_45]) (rest := []) ⟨hx, hb, hml, hown, hts⟩ (s_R_isLetter l D k z_45) (gS mw_165 mw_166 mw_15 mw_167) hd_yX5_isLetter rfl rfl ⟨Nat.le_of_ble_eq_true rfl, Nat.le_of_ble_eq_true rfl⟩ hK hN0 (hP.sub [] rfl) rfl hl.1 rfl (Nat.le_of_ble_eq_true rfl) dX5_advance_119 ⟨Nat.le_of_ble_eq_true rfl, Nat.le_of_ble_eq_true rfl⟩ (fun r_46 hr_46 => ?_)
          have hr_46 : 0 ≤ r_46.toInt ∧ r_46.toInt ≤ 1 := hr_46
          refine lv_if_eq (tgt := 263) hx hb dX5_advance_122 (by decide) (fun c_47 => ?_) (fun c_47 => ?_)
          · have c_47 : r_46.toInt = 0 := ti_eq c_47
            have qc_47 : r_46 = 0 := ti_of (show r_46.toInt = 0 from by omega)
            refine lv_aload_n hx hb dX5_advance_263 rfl (lv_at hl 0 rfl) ?_
            refine va_get (D := D) (ci := 4) (v := .int 4) (C := RX5) (T := TX5) (N := 10) hx hb hts inlX5 hown hK hP 0 rfl rfl 8 (by decide) (hts _ mw_147) (fun _ h9 => h9) rfl dX5_advance_264 ?_
            refine lv_iconst (v := 3) hx hb dX5_advance_267 (by decide) ?_
            refine lv_icmp_ne (tgt := 289) hx hb dX5_advance_268 (by decide) (fun _ => ?_) (fun c9 => absurd c9 (by decide))
            exact W.vret hx hb hr (fun t ht hW => ⟨⟨((va_seli [0, (rf 1), (rf 2), (rf 3), 0, (rf 5), i_1, i_42, 4, (rf 9)])), rfl, ⟨(show 0 ≤ (rf 3).toInt ∧ (rf 3).toInt ≤ 900 from ⟨by omega, by omega⟩), (show 0 ≤ (rf 5).toInt ∧ (rf 5).toInt ≤ 900 from ⟨by omega, by omega⟩), (show 0 ≤ i_1.toInt ∧ i_1.toInt ≤ 900 from ⟨by omega, by omega⟩), (show 0 ≤ i_42.toInt ∧ i_42.toInt ≤ 900 from ⟨by omega, by omega⟩), (show i_1.toInt ≤ i_42.toInt from by omega), (show i_42.toInt ≤ (rf 5).toInt from by omega), (show (rf 3).toInt = (rf 3).toInt from by omega)⟩, by rw [ht]; exact hP.sub [0, 1] rfl, hD.sub [0, 1] (by decide) rfl⟩, hS.F ht⟩) hS.2.2 dX5_advance_289
          · have c_47 : r_46.toInt ≠ 0 := ti_ne c_47
            have qc_47 : r_46 = 1 := ti_of (show r_46.toInt = 1 from by omega)
            refine lv_aload_n hx hb dX5_advance_125 rfl (lv_at hl 0 rfl) ?_
            refine lv_dup hx hb dX5_advance_126 rfl ?_
            refine va_get (D := D) (ci := 4) (v := .int i_42) (C := RX5) (T := TX5) (N := 10) hx hb hts inlX5 hown hK hP 0 rfl rfl 7 (by decide) (hts _ mw_146) (fun _ h9 => h9) rfl dX5_advance_127 ?_
            refine lv_iconst (v := 1) hx hb dX5_advance_130 (by decide) ?_
            refine lv_iadd hx hb dX5_advance_131 ?_
            refine lv_topi (fun z_48 ez_48 => ?_)
            have tz_48 : z_48.toInt = i_42.toInt + 1 := by rw [ez_48]; exact ti_addc (by decide) (by omega) (by omega)
            refine va_put (D := D) (ci := 4) (v := .int z_48) (ty := .int) (C := RX5) (T := TX5) (N := 10) hx hb hts inlX5 tyX5 tyX5_ok nmX5 hown hK hP hD hS 0 rfl rfl 7 (by decide) (hts _ mw_146) (fun _ h9 => h9) rfl (by decide +kernel) rfl rfl (Nat.le_of_ble_eq_true rfl) dX5_advance_132 (fun H locs hP hD hS => ?_)
            have hP : va_P D vwCl [((rd 0), .inr (4, [.ref (rw 0), .int (rf 1), .int (rf 2), .int (rf 3), .ref (rd 1), .int (rf 5), .int i_1, .int z_48, .int 4, .int (rf 9)])), ((rd 1), .inl (k 2, 900, .inl tf))] H := hP
            have hD : va_D A [((rd 0), .inr (4, [.ref (rw 0), .int (rf 1), .int (rf 2), .int (rf 3), .ref (rd 1), .int (rf 5), .int i_1, .int z_48, .int 4, .int (rf 9)])), ((rd 1), .inl (k 2, 900, .inl tf))] := hD
            refine lv_goto (tgt := 99) hx hb dX5_advance_135 (by decide) ?_
            exact ih99 (z_48) _ _ ls (by show ((rf 5).toInt - z_48.toInt).toNat < ((rf 5).toInt - i_42.toInt).toNat; omega) ⟨(show i_1.toInt ≤ z_48.toInt ∧ z_48.toInt ≤ (rf 5).toInt from ⟨by omega, by omega⟩), hP.sub [0, 1] rfl, hD.sub [0, 1] (by decide) rfl, hS, lv_sub hl [0] rfl⟩
    · have c_4 : (rf 5).toInt ≤ i_1.toInt := ti_nlt c_4
      refine lv_aload_n hx hb dX5_advance_71 rfl (lv_at hl 0 rfl) ?_
      refine lv_iconst (v := 1) hx hb dX5_advance_72 (by decide) ?_
      refine va_put (D := D) (ci := 4) (v := .int 1) (ty := .int) (C := RX5) (T := TX5) (N := 10) hx hb hts inlX5 tyX5 tyX5_ok nmX5 hown hK hP hD hS 0 rfl rfl 8 (by decide) (hts _ mw_147) (fun _ h9 => h9) rfl (by decide +kernel) rfl rfl (Nat.le_of_ble_eq_true rfl) dX5_advance_73 (fun H locs hP hD hS => ?_)
      have hP : va_P D vwCl [((rd 0), .inr (4, [.ref (rw 0), .int (rf 1), .int (rf 2), .int (rf 3), .ref (rd 1), .int (rf 5), .int i_1, .int i_1, .int 1, .int (rf 9)])), ((rd 1), .inl (k 2, 900, .inl tf))] H := hP
      have hD : va_D A [((rd 0), .inr (4, [.ref (rw 0), .int (rf 1), .int (rf 2), .int (rf 3), .ref (rd 1), .int (rf 5), .int i_1, .int i_1, .int 1, .int (rf 9)])), ((rd 1), .inl (k 2, 900, .inl tf))] := hD
      refine lv_goto (tgt := 263) hx hb dX5_advance_76 (by decide) ?_
      refine lv_aload_n hx hb dX5_advance_263 rfl (lv_at hl 0 rfl) ?_
      refine va_get (D := D) (ci := 4) (v := .int 1) (C := RX5) (T := TX5) (N := 10) hx hb hts inlX5 hown hK hP 0 rfl rfl 8 (by decide) (hts _ mw_147) (fun _ h9 => h9) rfl dX5_advance_264 ?_
      refine lv_iconst (v := 3) hx hb dX5_advance_267 (by decide) ?_
      refine lv_icmp_ne (tgt := 289) hx hb dX5_advance_268 (by decide) (fun _ => ?_) (fun c9 => absurd c9 (by decide))
      exact W.vret hx hb hr (fun t ht hW => ⟨⟨((va_seli [0, (rf 1), (rf 2), (rf 3), 0, (rf 5), i_1, i_1, 1, (rf 9)])), rfl, ⟨(show 0 ≤ (rf 3).toInt ∧ (rf 3).toInt ≤ 900 from ⟨by omega, by omega⟩), (show 0 ≤ (rf 5).toInt ∧ (rf 5).toInt ≤ 900 from ⟨by omega, by omega⟩), (show 0 ≤ i_1.toInt ∧ i_1.toInt ≤ 900 from ⟨by omega, by omega⟩), (show 0 ≤ i_1.toInt ∧ i_1.toInt ≤ 900 from ⟨by omega, by omega⟩), (show i_1.toInt ≤ i_1.toInt from by omega), (show i_1.toInt ≤ (rf 5).toInt from by omega), (show (rf 3).toInt = (rf 3).toInt from by omega)⟩, by rw [ht]; exact hP.sub [0, 1] rfl, hD.sub [0, 1] (by decide) rfl⟩, hS.F ht⟩) hS.2.2 dX5_advance_289
  · have c_3 : i_1.toInt < (rf 5).toInt := ti_nle c_3
    refine lv_aload_n hx hb dX5_advance_11 rfl (lv_at hl 0 rfl) ?_
    refine va_get (D := D) (ci := 4) (v := .ref (rd 1)) (C := RX5) (T := TX5) (N := 10) hx hb hts inlX5 hown hK hP 0 rfl rfl 4 (by decide) (hts _ mw_50) (fun _ h9 => h9) rfl dX5_advance_12 ?_
    refine lv_aload_n hx hb dX5_advance_15 rfl (lv_at hl 0 rfl) ?_
    refine va_get (D := D) (ci := 4) (v := .int i_1) (C := RX5) (T := TX5) (N := 10) hx hb hts inlX5 hown hK hP 0 rfl rfl 7 (by decide) (hts _ mw_146) (fun _ h9 => h9) rfl dX5_advance_16 ?_
    refine va_bald hx hb hK hP 1 2 rfl rfl (vp_in_o (by omega) (by omega)) dX5_advance_19 ?_
    refine lv_topi (fun z_49 ez_49 => ?_)
    refine lv_bipush (v := 10) hx hb dX5_advance_20 (by decide) ?_
    refine lv_icmp_eq (tgt := 39) hx hb dX5_advance_22 (by decide) (fun c_50 => ?_) (fun c_50 => ?_)
    · have c_50 : z_49.toInt = 10 := ti_eq c_50
      have qc_50 : z_49 = 10 := ti_of (show z_49.toInt = 10 from by omega)
      refine lv_aload_n hx hb dX5_advance_39 rfl (lv_at hl 0 rfl) ?_
      refine lv_dup hx hb dX5_advance_40 rfl ?_
      refine va_get (D := D) (ci := 4) (v := .int i_1) (C := RX5) (T := TX5) (N := 10) hx hb hts inlX5 hown hK hP 0 rfl rfl 7 (by decide) (hts _ mw_146) (fun _ h9 => h9) rfl dX5_advance_41 ?_
      refine lv_iconst (v := 1) hx hb dX5_advance_44 (by decide) ?_
      refine lv_iadd hx hb dX5_advance_45 ?_
      refine lv_topi (fun z_51 ez_51 => ?_)
      have tz_51 : z_51.toInt = i_1.toInt + 1 := by rw [ez_51]; exact ti_addc (by decide) (by omega) (by omega)
      refine va_put (D := D) (ci := 4) (v := .int z_51) (ty := .int) (C := RX5) (T := TX5) (N := 10) hx hb hts inlX5 tyX5 tyX5_ok nmX5 hown hK hP hD hS 0 rfl rfl 7 (by decide) (hts _ mw_146) (fun _ h9 => h9) rfl (by decide +kernel) rfl rfl (Nat.le_of_ble_eq_true rfl) dX5_advance_46 (fun H locs hP hD hS => ?_)
      have hP : va_P D vwCl [((rd 0), .inr (4, [.ref (rw 0), .int (rf 1), .int (rf 2), .int (rf 3), .ref (rd 1), .int (rf 5), .int (rf 6), .int z_51, .int (rf 8), .int (rf 9)])), ((rd 1), .inl (k 2, 900, .inl tf))] H := hP
      have hD : va_D A [((rd 0), .inr (4, [.ref (rw 0), .int (rf 1), .int (rf 2), .int (rf 3), .ref (rd 1), .int (rf 5), .int (rf 6), .int z_51, .int (rf 8), .int (rf 9)])), ((rd 1), .inl (k 2, 900, .inl tf))] := hD
      refine lv_goto (tgt := 0) hx hb dX5_advance_49 (by decide) ?_
      exact ih0 (z_51) _ _ ls (by show ((rf 5).toInt - z_51.toInt).toNat < ((rf 5).toInt - i_1.toInt).toNat; omega) ⟨(show 0 ≤ z_51.toInt ∧ z_51.toInt ≤ (rf 5).toInt from ⟨by omega, by omega⟩), hP.sub [0, 1] rfl, hD.sub [0, 1] (by decide) rfl, hS, lv_sub hl [0] rfl⟩
    · have c_50 : z_49.toInt ≠ 10 := ti_ne c_50
      refine lv_aload_n hx hb dX5_advance_25 rfl (lv_at hl 0 rfl) ?_
      refine va_get (D := D) (ci := 4) (v := .ref (rd 1)) (C := RX5) (T := TX5) (N := 10) hx hb hts inlX5 hown hK hP 0 rfl rfl 4 (by decide) (hts _ mw_50) (fun _ h9 => h9) rfl dX5_advance_26 ?_
      refine lv_aload_n hx hb dX5_advance_29 rfl (lv_at hl 0 rfl) ?_
      refine va_get (D := D) (ci := 4) (v := .int i_1) (C := RX5) (T := TX5) (N := 10) hx hb hts inlX5 hown hK hP 0 rfl rfl 7 (by decide) (hts _ mw_146) (fun _ h9 => h9) rfl dX5_advance_30 ?_
      refine va_bald hx hb hK hP 1 2 rfl rfl (vp_in_o (by omega) (by omega)) dX5_advance_33 ?_
      refine lv_topi (fun z_52 ez_52 => ?_)
      refine lv_bipush (v := 32) hx hb dX5_advance_34 (by decide) ?_
      refine lv_icmp_ne (tgt := 52) hx hb dX5_advance_36 (by decide) (fun c_53 => ?_) (fun c_53 => ?_)
      · have c_53 : z_52.toInt ≠ 32 := ti_ne c_53
        refine lv_aload_n hx hb dX5_advance_52 rfl (lv_at hl 0 rfl) ?_
        refine lv_aload_n hx hb dX5_advance_53 rfl (lv_at hl 0 rfl) ?_
        refine va_get (D := D) (ci := 4) (v := .int i_1) (C := RX5) (T := TX5) (N := 10) hx hb hts inlX5 hown hK hP 0 rfl rfl 7 (by decide) (hts _ mw_146) (fun _ h9 => h9) rfl dX5_advance_54 ?_
        refine va_put (D := D) (ci := 4) (v := .int i_1) (ty := .int) (C := RX5) (T := TX5) (N := 10) hx hb hts inlX5 tyX5 tyX5_ok nmX5 hown hK hP hD hS 0 rfl rfl 6 (by decide) (hts _ mw_163) (fun _ h9 => h9) rfl (by decide +kernel) rfl rfl (Nat.le_of_ble_eq_true rfl) dX5_advance_57 (fun H locs hP hD hS => ?_)
        have hP : va_P D vwCl [((rd 0), .inr (4, [.ref (rw 0), .int (rf 1), .int (rf 2), .int (rf 3), .ref (rd 1), .int (rf 5), .int i_1, .int i_1, .int (rf 8), .int (rf 9)])), ((rd 1), .inl (k 2, 900, .inl tf))] H := hP
        have hD : va_D A [((rd 0), .inr (4, [.ref (rw 0), .int (rf 1), .int (rf 2), .int (rf 3), .ref (rd 1), .int (rf 5), .int i_1, .int i_1, .int (rf 8), .int (rf 9)])), ((rd 1), .inl (k 2, 900, .inl tf))] := hD
        refine lv_aload_n hx hb dX5_advance_60 rfl (lv_at hl 0 rfl) ?_
        refine va_get (D := D) (ci := 4) (v := .int i_1) (C := RX5) (T := TX5) (N := 10) hx hb hts inlX5 hown hK hP 0 rfl rfl 7 (by decide) (hts _ mw_146) (fun _ h9 => h9) rfl dX5_advance_61 ?_
        refine lv_aload_n hx hb dX5_advance_64 rfl (lv_at hl 0 rfl) ?_
        refine va_get (D := D) (ci := 4) (v := .int (rf 5)) (C := RX5) (T := TX5) (N := 10) hx hb hts inlX5 hown hK hP 0 rfl rfl 5 (by decide) (hts _ mw_144) (fun _ h9 => h9) rfl dX5_advance_65 ?_
        refine lv_icmp_lt (tgt := 79) hx hb dX5_advance_68 (by decide) (fun c_54 => ?_) (fun c_54 => ?_)
        · have c_54 : i_1.toInt < (rf 5).toInt := ti_lt c_54
          refine lv_aload_n hx hb dX5_advance_79 rfl (lv_at hl 0 rfl) ?_
          refine va_get (D := D) (ci := 4) (v := .ref (rd 1)) (C := RX5) (T := TX5) (N := 10) hx hb hts inlX5 hown hK hP 0 rfl rfl 4 (by decide) (hts _ mw_50) (fun _ h9 => h9) rfl dX5_advance_80 ?_
          refine lv_aload_n hx hb dX5_advance_83 rfl (lv_at hl 0 rfl) ?_
          refine va_get (D := D) (ci := 4) (v := .int i_1) (C := RX5) (T := TX5) (N := 10) hx hb hts inlX5 hown hK hP 0 rfl rfl 7 (by decide) (hts _ mw_146) (fun _ h9 => h9) rfl dX5_advance_84 ?_
          refine va_bald hx hb hK hP 1 2 rfl rfl (vp_in_o (by omega) (by omega)) dX5_advance_87 ?_
          refine lv_topi (fun z_55 ez_55 => ?_)
          refine kS_i (As := [.int z_55]) (rest := []) ⟨hx, hb, hml, hown, hts⟩ (s_R_isLetter l D k z_55) (gS mw_165 mw_166 mw_15 mw_167) hd_yX5_isLetter rfl rfl ⟨Nat.le_of_ble_eq_true rfl, Nat.le_of_ble_eq_true rfl⟩ hK hN0 (hP.sub [] rfl) rfl hl.1 rfl (Nat.le_of_ble_eq_true rfl) dX5_advance_88 ⟨Nat.le_of_ble_eq_true rfl, Nat.le_of_ble_eq_true rfl⟩ (fun r_56 hr_56 => ?_)
          have hr_56 : 0 ≤ r_56.toInt ∧ r_56.toInt ≤ 1 := hr_56
          refine lv_if_eq (tgt := 138) hx hb dX5_advance_91 (by decide) (fun c_57 => ?_) (fun c_57 => ?_)
          · have c_57 : r_56.toInt = 0 := ti_eq c_57
            have qc_57 : r_56 = 0 := ti_of (show r_56.toInt = 0 from by omega)
            refine lv_aload_n hx hb dX5_advance_138 rfl (lv_at hl 0 rfl) ?_
            refine va_get (D := D) (ci := 4) (v := .ref (rd 1)) (C := RX5) (T := TX5) (N := 10) hx hb hts inlX5 hown hK hP 0 rfl rfl 4 (by decide) (hts _ mw_50) (fun _ h9 => h9) rfl dX5_advance_139 ?_
            refine lv_aload_n hx hb dX5_advance_142 rfl (lv_at hl 0 rfl) ?_
            refine va_get (D := D) (ci := 4) (v := .int i_1) (C := RX5) (T := TX5) (N := 10) hx hb hts inlX5 hown hK hP 0 rfl rfl 7 (by decide) (hts _ mw_146) (fun _ h9 => h9) rfl dX5_advance_143 ?_
            refine va_bald hx hb hK hP 1 2 rfl rfl (vp_in_o (by omega) (by omega)) dX5_advance_146 ?_
            refine lv_topi (fun z_58 ez_58 => ?_)
            refine kS_i (As := [.int z_58]) (rest := []) ⟨hx, hb, hml, hown, hts⟩ (s_R_isDigit l D k z_58) (gS mw_168 mw_169 mw_15 mw_170) hd_yX5_isDigit rfl rfl ⟨Nat.le_of_ble_eq_true rfl, Nat.le_of_ble_eq_true rfl⟩ hK hN0 (hP.sub [] rfl) rfl hl.1 rfl (Nat.le_of_ble_eq_true rfl) dX5_advance_147 ⟨Nat.le_of_ble_eq_true rfl, Nat.le_of_ble_eq_true rfl⟩ (fun r_59 hr_59 => ?_)
            have hr_59 : 0 ≤ r_59.toInt ∧ r_59.toInt ≤ 1 := hr_59
            refine lv_if_eq (tgt := 226) hx hb dX5_advance_150 (by decide) (fun c_60 => ?_) (fun c_60 => ?_)
            · have c_60 : r_59.toInt = 0 := ti_eq c_60
              have qc_60 : r_59 = 0 := ti_of (show r_59.toInt = 0 from by omega)
              refine lv_aload_n hx hb dX5_advance_226 rfl (lv_at hl 0 rfl) ?_
              refine va_get (D := D) (ci := 4) (v := .ref (rd 1)) (C := RX5) (T := TX5) (N := 10) hx hb hts inlX5 hown hK hP 0 rfl rfl 4 (by decide) (hts _ mw_50) (fun _ h9 => h9) rfl dX5_advance_227 ?_
              refine lv_aload_n hx hb dX5_advance_230 rfl (lv_at hl 0 rfl) ?_
              refine va_get (D := D) (ci := 4) (v := .int i_1) (C := RX5) (T := TX5) (N := 10) hx hb hts inlX5 hown hK hP 0 rfl rfl 7 (by decide) (hts _ mw_146) (fun _ h9 => h9) rfl dX5_advance_231 ?_
              refine va_bald hx hb hK hP 1 2 rfl rfl (vp_in_o (by omega) (by omega)) dX5_advance_234 ?_
              refine lv_topi (fun z_61 ez_61 => ?_)
              refine lv_bipush (v := 59) hx hb dX5_advance_235 (by decide) ?_
              refine lv_icmp_ne (tgt := 258) hx hb dX5_advance_237 (by decide) (fun c_62 => ?_) (fun c_62 => ?_)
              · have c_62 : z_61.toInt ≠ 59 := ti_ne c_62
                refine lv_aload_n hx hb dX5_advance_258 rfl (lv_at hl 0 rfl) ?_
                refine lv_iconst (v := 1) hx hb dX5_advance_259 (by decide) ?_
                refine kV_uv (q0 := 0) (As := [.int 1]) (rest := []) (wr := [((rd 1), .inl (k 2, 900, .inl tf))]) ⟨hx, hb, hml, hown, hts⟩ (s_R_fail l D k _ _ (va_seli [0, (rf 1), (rf 2), (rf 3), 0, (rf 5), i_1, i_1, (rf 8), (rf 9)]) 1 _) (gV mw_171 mw_172 mw_173 mw_15 mw_174) hd_yX5_fail rfl rfl ⟨Nat.le_of_ble_eq_true rfl, Nat.le_of_ble_eq_true rfl⟩ hK hN0 hP hD hS hA [0] [1] rfl rfl (by decide) (by decide) (by decide) rfl rfl rfl rfl hl.1 rfl (Nat.le_of_ble_eq_true rfl) dX5_advance_260 ⟨Nat.le_of_ble_eq_true rfl, Nat.le_of_ble_eq_true rfl⟩ (fun u_64 H locs hw hP hD hS => ?_)
                obtain ⟨v_65, v_66⟩ := u_64
                have hP : va_P D vwCl [((rd 1), .inl (k 2, 900, .inl tf)), ((rd 0), .inr (4, [.ref (rw 0), .int v_65, .int v_66, .int (rf 3), .ref (rd 1), .int (rf 5), .int i_1, .int i_1, .int 0, .int (rf 9)]))] H := hP
                have hD : va_D A [((rd 1), .inl (k 2, 900, .inl tf)), ((rd 0), .inr (4, [.ref (rw 0), .int v_65, .int v_66, .int (rf 3), .ref (rd 1), .int (rf 5), .int i_1, .int i_1, .int 0, .int (rf 9)]))] := hD
                refine lv_aload_n hx hb dX5_advance_263 rfl (lv_at hl 0 rfl) ?_
                refine va_get (D := D) (ci := 4) (v := .int 0) (C := RX5) (T := TX5) (N := 10) hx hb hts inlX5 hown hK hP 1 rfl rfl 8 (by decide) (hts _ mw_147) (fun _ h9 => h9) rfl dX5_advance_264 ?_
                refine lv_iconst (v := 3) hx hb dX5_advance_267 (by decide) ?_
                refine lv_icmp_ne (tgt := 289) hx hb dX5_advance_268 (by decide) (fun _ => ?_) (fun c9 => absurd c9 (by decide))
                exact W.vret hx hb hr (fun t ht hW => ⟨⟨((va_seli [0, v_65, v_66, (rf 3), 0, (rf 5), i_1, i_1, 0, (rf 9)])), rfl, ⟨(show 0 ≤ (rf 3).toInt ∧ (rf 3).toInt ≤ 900 from ⟨by omega, by omega⟩), (show 0 ≤ (rf 5).toInt ∧ (rf 5).toInt ≤ 900 from ⟨by omega, by omega⟩), (show 0 ≤ i_1.toInt ∧ i_1.toInt ≤ 900 from ⟨by omega, by omega⟩), (show 0 ≤ i_1.toInt ∧ i_1.toInt ≤ 900 from ⟨by omega, by omega⟩), (show i_1.toInt ≤ i_1.toInt from by omega), (show i_1.toInt ≤ (rf 5).toInt from by omega), (show (rf 3).toInt = (rf 3).toInt from by omega)⟩, by rw [ht]; exact hP.sub [1, 0] rfl, hD.sub [1, 0] (by decide) rfl⟩, hS.F ht⟩) hS.2.2 dX5_advance_289
              · have c_62 : z_61.toInt = 59 := ti_eq c_62
                have qc_62 : z_61 = 59 := ti_of (show z_61.toInt = 59 from by omega)
                refine lv_aload_n hx hb dX5_advance_240 rfl (lv_at hl 0 rfl) ?_
                refine lv_iconst (v := 2) hx hb dX5_advance_241 (by decide) ?_
                refine va_put (D := D) (ci := 4) (v := .int 2) (ty := .int) (C := RX5) (T := TX5) (N := 10) hx hb hts inlX5 tyX5 tyX5_ok nmX5 hown hK hP hD hS 0 rfl rfl 8 (by decide) (hts _ mw_147) (fun _ h9 => h9) rfl (by decide +kernel) rfl rfl (Nat.le_of_ble_eq_true rfl) dX5_advance_242 (fun H locs hP hD hS => ?_)
                have hP : va_P D vwCl [((rd 0), .inr (4, [.ref (rw 0), .int (rf 1), .int (rf 2), .int (rf 3), .ref (rd 1), .int (rf 5), .int i_1, .int i_1, .int 2, .int (rf 9)])), ((rd 1), .inl (k 2, 900, .inl tf))] H := hP
                have hD : va_D A [((rd 0), .inr (4, [.ref (rw 0), .int (rf 1), .int (rf 2), .int (rf 3), .ref (rd 1), .int (rf 5), .int i_1, .int i_1, .int 2, .int (rf 9)])), ((rd 1), .inl (k 2, 900, .inl tf))] := hD
                refine lv_aload_n hx hb dX5_advance_245 rfl (lv_at hl 0 rfl) ?_
                refine lv_dup hx hb dX5_advance_246 rfl ?_
                refine va_get (D := D) (ci := 4) (v := .int i_1) (C := RX5) (T := TX5) (N := 10) hx hb hts inlX5 hown hK hP 0 rfl rfl 7 (by decide) (hts _ mw_146) (fun _ h9 => h9) rfl dX5_advance_247 ?_
                refine lv_iconst (v := 1) hx hb dX5_advance_250 (by decide) ?_
                refine lv_iadd hx hb dX5_advance_251 ?_
                refine lv_topi (fun z_67 ez_67 => ?_)
                have tz_67 : z_67.toInt = i_1.toInt + 1 := by rw [ez_67]; exact ti_addc (by decide) (by omega) (by omega)
                refine va_put (D := D) (ci := 4) (v := .int z_67) (ty := .int) (C := RX5) (T := TX5) (N := 10) hx hb hts inlX5 tyX5 tyX5_ok nmX5 hown hK hP hD hS 0 rfl rfl 7 (by decide) (hts _ mw_146) (fun _ h9 => h9) rfl (by decide +kernel) rfl rfl (Nat.le_of_ble_eq_true rfl) dX5_advance_252 (fun H locs hP hD hS => ?_)
                have hP : va_P D vwCl [((rd 0), .inr (4, [.ref (rw 0), .int (rf 1), .int (rf 2), .int (rf 3), .ref (rd 1), .int (rf 5), .int i_1, .int z_67, .int 2, .int (rf 9)])), ((rd 1), .inl (k 2, 900, .inl tf))] H := hP
                have hD : va_D A [((rd 0), .inr (4, [.ref (rw 0), .int (rf 1), .int (rf 2), .int (rf 3), .ref (rd 1), .int (rf 5), .int i_1, .int z_67, .int 2, .int (rf 9)])), ((rd 1), .inl (k 2, 900, .inl tf))] := hD
                refine lv_goto (tgt := 263) hx hb dX5_advance_255 (by decide) ?_
                refine lv_aload_n hx hb dX5_advance_263 rfl (lv_at hl 0 rfl) ?_
                refine va_get (D := D) (ci := 4) (v := .int 2) (C := RX5) (T := TX5) (N := 10) hx hb hts inlX5 hown hK hP 0 rfl rfl 8 (by decide) (hts _ mw_147) (fun _ h9 => h9) rfl dX5_advance_264 ?_
                refine lv_iconst (v := 3) hx hb dX5_advance_267 (by decide) ?_
                refine lv_icmp_ne (tgt := 289) hx hb dX5_advance_268 (by decide) (fun _ => ?_) (fun c9 => absurd c9 (by decide))
                exact W.vret hx hb hr (fun t ht hW => ⟨⟨((va_seli [0, (rf 1), (rf 2), (rf 3), 0, (rf 5), i_1, z_67, 2, (rf 9)])), rfl, ⟨(show 0 ≤ (rf 3).toInt ∧ (rf 3).toInt ≤ 900 from ⟨by omega, by omega⟩), (show 0 ≤ (rf 5).toInt ∧ (rf 5).toInt ≤ 900 from ⟨by omega, by omega⟩), (show 0 ≤ i_1.toInt ∧ i_1.toInt ≤ 900 from ⟨by omega, by omega⟩), (show 0 ≤ z_67.toInt ∧ z_67.toInt ≤ 900 from ⟨by omega, by omega⟩), (show i_1.toInt ≤ z_67.toInt from by omega), (show z_67.toInt ≤ (rf 5).toInt from by omega), (show (rf 3).toInt = (rf 3).toInt from by omega)⟩, by rw [ht]; exact hP.sub [0, 1] rfl, hD.sub [0, 1] (by decide) rfl⟩, hS.F ht⟩) hS.2.2 dX5_advance_289
            · have c_60 : r_59.toInt ≠ 0 := ti_ne c_60
              have qc_60 : r_59 = 1 := ti_of (show r_59.toInt = 1 from by omega)
              refine lv_aload_n hx hb dX5_advance_153 rfl (lv_at hl 0 rfl) ?_
              refine lv_iconst (v := 3) hx hb dX5_advance_154 (by decide) ?_
              refine va_put (D := D) (ci := 4) (v := .int 3) (ty := .int) (C := RX5) (T := TX5) (N := 10) hx hb hts inlX5 tyX5 tyX5_ok nmX5 hown hK hP hD hS 0 rfl rfl 8 (by decide) (hts _ mw_147) (fun _ h9 => h9) rfl (by decide +kernel) rfl rfl (Nat.le_of_ble_eq_true rfl) dX5_advance_155 (fun H locs hP hD hS => ?_)
              have hP : va_P D vwCl [((rd 0), .inr (4, [.ref (rw 0), .int (rf 1), .int (rf 2), .int (rf 3), .ref (rd 1), .int (rf 5), .int i_1, .int i_1, .int 3, .int (rf 9)])), ((rd 1), .inl (k 2, 900, .inl tf))] H := hP
              have hD : va_D A [((rd 0), .inr (4, [.ref (rw 0), .int (rf 1), .int (rf 2), .int (rf 3), .ref (rd 1), .int (rf 5), .int i_1, .int i_1, .int 3, .int (rf 9)])), ((rd 1), .inl (k 2, 900, .inl tf))] := hD
              refine lv_aload_n hx hb dX5_advance_158 rfl (lv_at hl 0 rfl) ?_
              refine lv_iconst (v := 0) hx hb dX5_advance_159 (by decide) ?_
              refine va_put (D := D) (ci := 4) (v := .int 0) (ty := .int) (C := RX5) (T := TX5) (N := 10) hx hb hts inlX5 tyX5 tyX5_ok nmX5 hown hK hP hD hS 0 rfl rfl 9 (by decide) (hts _ mw_164) (fun _ h9 => h9) rfl (by decide +kernel) rfl rfl (Nat.le_of_ble_eq_true rfl) dX5_advance_160 (fun H locs hP hD hS => ?_)
              have hP : va_P D vwCl [((rd 0), .inr (4, [.ref (rw 0), .int (rf 1), .int (rf 2), .int (rf 3), .ref (rd 1), .int (rf 5), .int i_1, .int i_1, .int 3, .int 0])), ((rd 1), .inl (k 2, 900, .inl tf))] H := hP
              have hD : va_D A [((rd 0), .inr (4, [.ref (rw 0), .int (rf 1), .int (rf 2), .int (rf 3), .ref (rd 1), .int (rf 5), .int i_1, .int i_1, .int 3, .int 0])), ((rd 1), .inl (k 2, 900, .inl tf))] := hD
              refine W_loop (σ := Int32 × Int32) (fun xx H locs ls => (i_1.toInt ≤ xx.1.toInt ∧ xx.1.toInt ≤ (rf 5).toInt) ∧ va_P D vwCl [((rd 0), .inr (4, [.ref (rw 0), .int (rf 1), .int (rf 2), .int (rf 3), .ref (rd 1), .int (rf 5), .int i_1, .int xx.1, .int 3, .int xx.2])), ((rd 1), .inl (k 2, 900, .inl tf))] H ∧ va_D A [((rd 0), .inr (4, [.ref (rw 0), .int (rf 1), .int (rf 2), .int (rf 3), .ref (rd 1), .int (rf 5), .int i_1, .int xx.1, .int 3, .int xx.2])), ((rd 1), .inl (k 2, 900, .inl tf))] ∧ va_S A s.heap H locs ∧ lv_has ls 1 [(0, .ref (rd 0))]) (fun xx => ((rf 5).toInt - xx.1.toInt).toNat) ?_ (i_1, 0) _ _ ls ⟨(show i_1.toInt ≤ i_1.toInt ∧ i_1.toInt ≤ (rf 5).toInt from ⟨by omega, by omega⟩), hP.sub [0, 1] rfl, hD.sub [0, 1] (by decide) rfl, hS, lv_sub hl [0] rfl⟩
              intro xx H locs ls hI ih163
              obtain ⟨i_68, y_69⟩ := xx
              obtain ⟨h_70, hP, hD, hS, hl⟩ := hI
              have h_70 : i_1.toInt ≤ i_68.toInt ∧ i_68.toInt ≤ (rf 5).toInt := h_70
              obtain ⟨h_70a, h_70b⟩ := h_70
              have hP : va_P D vwCl [((rd 0), .inr (4, [.ref (rw 0), .int (rf 1), .int (rf 2), .int (rf 3), .ref (rd 1), .int (rf 5), .int i_1, .int i_68, .int 3, .int y_69])), ((rd 1), .inl (k 2, 900, .inl tf))] H := hP
              have hD : va_D A [((rd 0), .inr (4, [.ref (rw 0), .int (rf 1), .int (rf 2), .int (rf 3), .ref (rd 1), .int (rf 5), .int i_1, .int i_68, .int 3, .int y_69])), ((rd 1), .inl (k 2, 900, .inl tf))] := hD
              have hl : lv_has ls 1 [(0, .ref (rd 0))] := hl
              refine lv_aload_n hx hb dX5_advance_163 rfl (lv_at hl 0 rfl) ?_
              refine va_get (D := D) (ci := 4) (v := .int i_68) (C := RX5) (T := TX5) (N := 10) hx hb hts inlX5 hown hK hP 0 rfl rfl 7 (by decide) (hts _ mw_146) (fun _ h9 => h9) rfl dX5_advance_164 ?_
              refine lv_aload_n hx hb dX5_advance_167 rfl (lv_at hl 0 rfl) ?_
              refine va_get (D := D) (ci := 4) (v := .int (rf 5)) (C := RX5) (T := TX5) (N := 10) hx hb hts inlX5 hown hK hP 0 rfl rfl 5 (by decide) (hts _ mw_144) (fun _ h9 => h9) rfl dX5_advance_168 ?_
              refine lv_icmp_ge (tgt := 263) hx hb dX5_advance_171 (by decide) (fun c_71 => ?_) (fun c_71 => ?_)
              · have c_71 : (rf 5).toInt ≤ i_68.toInt := ti_le c_71
                refine lv_aload_n hx hb dX5_advance_263 rfl (lv_at hl 0 rfl) ?_
                refine va_get (D := D) (ci := 4) (v := .int 3) (C := RX5) (T := TX5) (N := 10) hx hb hts inlX5 hown hK hP 0 rfl rfl 8 (by decide) (hts _ mw_147) (fun _ h9 => h9) rfl dX5_advance_264 ?_
                refine lv_iconst (v := 3) hx hb dX5_advance_267 (by decide) ?_
                refine lv_icmp_ne (tgt := 289) hx hb dX5_advance_268 (by decide) (fun c9 => absurd c9 (by decide)) (fun _ => ?_)
                refine lv_aload_n hx hb dX5_advance_271 rfl (lv_at hl 0 rfl) ?_
                refine va_get (D := D) (ci := 4) (v := .int i_68) (C := RX5) (T := TX5) (N := 10) hx hb hts inlX5 hown hK hP 0 rfl rfl 7 (by decide) (hts _ mw_146) (fun _ h9 => h9) rfl dX5_advance_272 ?_
                refine lv_aload_n hx hb dX5_advance_275 rfl (lv_at hl 0 rfl) ?_
                refine va_get (D := D) (ci := 4) (v := .int i_1) (C := RX5) (T := TX5) (N := 10) hx hb hts inlX5 hown hK hP 0 rfl rfl 6 (by decide) (hts _ mw_163) (fun _ h9 => h9) rfl dX5_advance_276 ?_
                refine lv_isub hx hb dX5_advance_279 ?_
                refine lv_topi (fun z_72 ez_72 => ?_)
                have tz_72 : z_72.toInt = i_68.toInt - i_1.toInt := by rw [ez_72]; exact ti_subc rfl (by omega) (by omega)
                refine lv_iconst (v := 3) hx hb dX5_advance_280 (by decide) ?_
                refine lv_icmp_le (tgt := 289) hx hb dX5_advance_281 (by decide) (fun c_73 => ?_) (fun c_73 => ?_)
                · have c_73 : z_72.toInt ≤ 3 := ti_le c_73
                  exact W.vret hx hb hr (fun t ht hW => ⟨⟨((va_seli [0, (rf 1), (rf 2), (rf 3), 0, (rf 5), i_1, i_68, 3, y_69])), rfl, ⟨(show 0 ≤ (rf 3).toInt ∧ (rf 3).toInt ≤ 900 from ⟨by omega, by omega⟩), (show 0 ≤ (rf 5).toInt ∧ (rf 5).toInt ≤ 900 from ⟨by omega, by omega⟩), (show 0 ≤ i_1.toInt ∧ i_1.toInt ≤ 900 from ⟨by omega, by omega⟩), (show 0 ≤ i_68.toInt ∧ i_68.toInt ≤ 900 from ⟨by omega, by omega⟩), (show i_1.toInt ≤ i_68.toInt from by omega), (show i_68.toInt ≤ (rf 5).toInt from by omega), (show (rf 3).toInt = (rf 3).toInt from by omega)⟩, by rw [ht]; exact hP.sub [0, 1] rfl, hD.sub [0, 1] (by decide) rfl⟩, hS.F ht⟩) hS.2.2 dX5_advance_289
                · have c_73 : 3 < z_72.toInt := ti_nle c_73
                  refine lv_aload_n hx hb dX5_advance_284 rfl (lv_at hl 0 rfl) ?_
                  refine lv_iconst (v := 1) hx hb dX5_advance_285 (by decide) ?_
                  refine kV_uv (q0 := 0) (As := [.int 1]) (rest := []) (wr := [((rd 1), .inl (k 2, 900, .inl tf))]) ⟨hx, hb, hml, hown, hts⟩ (s_R_fail l D k _ _ (va_seli [0, (rf 1), (rf 2), (rf 3), 0, (rf 5), i_1, i_68, 3, y_69]) 1 _) (gV mw_171 mw_172 mw_173 mw_15 mw_174) hd_yX5_fail rfl rfl ⟨Nat.le_of_ble_eq_true rfl, Nat.le_of_ble_eq_true rfl⟩ hK hN0 hP hD hS hA [0] [1] rfl rfl (by decide) (by decide) (by decide) rfl rfl rfl rfl hl.1 rfl (Nat.le_of_ble_eq_true rfl) dX5_advance_286 ⟨Nat.le_of_ble_eq_true rfl, Nat.le_of_ble_eq_true rfl⟩ (fun u_75 H locs hw hP hD hS => ?_)
                  obtain ⟨v_76, v_77⟩ := u_75
                  have hP : va_P D vwCl [((rd 1), .inl (k 2, 900, .inl tf)), ((rd 0), .inr (4, [.ref (rw 0), .int v_76, .int v_77, .int (rf 3), .ref (rd 1), .int (rf 5), .int i_1, .int i_68, .int 0, .int y_69]))] H := hP
                  have hD : va_D A [((rd 1), .inl (k 2, 900, .inl tf)), ((rd 0), .inr (4, [.ref (rw 0), .int v_76, .int v_77, .int (rf 3), .ref (rd 1), .int (rf 5), .int i_1, .int i_68, .int 0, .int y_69]))] := hD
                  exact W.vret hx hb hr (fun t ht hW => ⟨⟨((va_seli [0, v_76, v_77, (rf 3), 0, (rf 5), i_1, i_68, 0, y_69])), rfl, ⟨(show 0 ≤ (rf 3).toInt ∧ (rf 3).toInt ≤ 900 from ⟨by omega, by omega⟩), (show 0 ≤ (rf 5).toInt ∧ (rf 5).toInt ≤ 900 from ⟨by omega, by omega⟩), (show 0 ≤ i_1.toInt ∧ i_1.toInt ≤ 900 from ⟨by omega, by omega⟩), (show 0 ≤ i_68.toInt ∧ i_68.toInt ≤ 900 from ⟨by omega, by omega⟩), (show i_1.toInt ≤ i_68.toInt from by omega), (show i_68.toInt ≤ (rf 5).toInt from by omega), (show (rf 3).toInt = (rf 3).toInt from by omega)⟩, by rw [ht]; exact hP.sub [1, 0] rfl, hD.sub [1, 0] (by decide) rfl⟩, hS.F ht⟩) hS.2.2 dX5_advance_289
              · have c_71 : i_68.toInt < (rf 5).toInt := ti_nle c_71
                refine lv_aload_n hx hb dX5_advance_174 rfl (lv_at hl 0 rfl) ?_
                refine va_get (D := D) (ci := 4) (v := .ref (rd 1)) (C := RX5) (T := TX5) (N := 10) hx hb hts inlX5 hown hK hP 0 rfl rfl 4 (by decide) (hts _ mw_50) (fun _ h9 => h9) rfl dX5_advance_175 ?_
                refine lv_aload_n hx hb dX5_advance_178 rfl (lv_at hl 0 rfl) ?_
                refine va_get (D := D) (ci := 4) (v := .int i_68) (C := RX5) (T := TX5) (N := 10) hx hb hts inlX5 hown hK hP 0 rfl rfl 7 (by decide) (hts _ mw_146) (fun _ h9 => h9) rfl dX5_advance_179 ?_
                refine va_bald hx hb hK hP 1 2 rfl rfl (vp_in_o (by omega) (by omega)) dX5_advance_182 ?_
                refine lv_topi (fun z_78 ez_78 => ?_)
                refine kS_i (As := [.int z_78]) (rest := []) ⟨hx, hb, hml, hown, hts⟩ (s_R_isDigit l D k z_78) (gS mw_168 mw_169 mw_15 mw_170) hd_yX5_isDigit rfl rfl ⟨Nat.le_of_ble_eq_true rfl, Nat.le_of_ble_eq_true rfl⟩ hK hN0 (hP.sub [] rfl) rfl hl.1 rfl (Nat.le_of_ble_eq_true rfl) dX5_advance_183 ⟨Nat.le_of_ble_eq_true rfl, Nat.le_of_ble_eq_true rfl⟩ (fun r_79 hr_79 => ?_)
                have hr_79 : 0 ≤ r_79.toInt ∧ r_79.toInt ≤ 1 := hr_79
                refine lv_if_eq (tgt := 263) hx hb dX5_advance_186 (by decide) (fun c_80 => ?_) (fun c_80 => ?_)
                · have c_80 : r_79.toInt = 0 := ti_eq c_80
                  have qc_80 : r_79 = 0 := ti_of (show r_79.toInt = 0 from by omega)
                  refine lv_aload_n hx hb dX5_advance_263 rfl (lv_at hl 0 rfl) ?_
                  refine va_get (D := D) (ci := 4) (v := .int 3) (C := RX5) (T := TX5) (N := 10) hx hb hts inlX5 hown hK hP 0 rfl rfl 8 (by decide) (hts _ mw_147) (fun _ h9 => h9) rfl dX5_advance_264 ?_
                  refine lv_iconst (v := 3) hx hb dX5_advance_267 (by decide) ?_
                  refine lv_icmp_ne (tgt := 289) hx hb dX5_advance_268 (by decide) (fun c9 => absurd c9 (by decide)) (fun _ => ?_)
                  refine lv_aload_n hx hb dX5_advance_271 rfl (lv_at hl 0 rfl) ?_
                  refine va_get (D := D) (ci := 4) (v := .int i_68) (C := RX5) (T := TX5) (N := 10) hx hb hts inlX5 hown hK hP 0 rfl rfl 7 (by decide) (hts _ mw_146) (fun _ h9 => h9) rfl dX5_advance_272 ?_
                  refine lv_aload_n hx hb dX5_advance_275 rfl (lv_at hl 0 rfl) ?_
                  refine va_get (D := D) (ci := 4) (v := .int i_1) (C := RX5) (T := TX5) (N := 10) hx hb hts inlX5 hown hK hP 0 rfl rfl 6 (by decide) (hts _ mw_163) (fun _ h9 => h9) rfl dX5_advance_276 ?_
                  refine lv_isub hx hb dX5_advance_279 ?_
                  refine lv_topi (fun z_81 ez_81 => ?_)
                  have tz_81 : z_81.toInt = i_68.toInt - i_1.toInt := by rw [ez_81]; exact ti_subc rfl (by omega) (by omega)
                  refine lv_iconst (v := 3) hx hb dX5_advance_280 (by decide) ?_
                  refine lv_icmp_le (tgt := 289) hx hb dX5_advance_281 (by decide) (fun c_82 => ?_) (fun c_82 => ?_)
                  · have c_82 : z_81.toInt ≤ 3 := ti_le c_82
                    exact W.vret hx hb hr (fun t ht hW => ⟨⟨((va_seli [0, (rf 1), (rf 2), (rf 3), 0, (rf 5), i_1, i_68, 3, y_69])), rfl, ⟨(show 0 ≤ (rf 3).toInt ∧ (rf 3).toInt ≤ 900 from ⟨by omega, by omega⟩), (show 0 ≤ (rf 5).toInt ∧ (rf 5).toInt ≤ 900 from ⟨by omega, by omega⟩), (show 0 ≤ i_1.toInt ∧ i_1.toInt ≤ 900 from ⟨by omega, by omega⟩), (show 0 ≤ i_68.toInt ∧ i_68.toInt ≤ 900 from ⟨by omega, by omega⟩), (show i_1.toInt ≤ i_68.toInt from by omega), (show i_68.toInt ≤ (rf 5).toInt from by omega), (show (rf 3).toInt = (rf 3).toInt from by omega)⟩, by rw [ht]; exact hP.sub [0, 1] rfl, hD.sub [0, 1] (by decide) rfl⟩, hS.F ht⟩) hS.2.2 dX5_advance_289
                  · have c_82 : 3 < z_81.toInt := ti_nle c_82
                    refine lv_aload_n hx hb dX5_advance_284 rfl (lv_at hl 0 rfl) ?_
                    refine lv_iconst (v := 1) hx hb dX5_advance_285 (by decide) ?_
                    refine kV_uv (q0 := 0) (As := [.int 1]) (rest := []) (wr := [((rd 1), .inl (k 2, 900, .inl tf))]) ⟨hx, hb, hml, hown, hts⟩ (s_R_fail l D k _ _ (va_seli [0, (rf 1), (rf 2), (rf 3), 0, (rf 5), i_1, i_68, 3, y_69]) 1 _) (gV mw_171 mw_172 mw_173 mw_15 mw_174) hd_yX5_fail rfl rfl ⟨Nat.le_of_ble_eq_true rfl, Nat.le_of_ble_eq_true rfl⟩ hK hN0 hP hD hS hA [0] [1] rfl rfl (by decide) (by decide) (by decide) rfl rfl rfl rfl hl.1 rfl (Nat.le_of_ble_eq_true rfl) dX5_advance_286 ⟨Nat.le_of_ble_eq_true rfl, Nat.le_of_ble_eq_true rfl⟩ (fun u_84 H locs hw hP hD hS => ?_)
                    obtain ⟨v_85, v_86⟩ := u_84
                    have hP : va_P D vwCl [((rd 1), .inl (k 2, 900, .inl tf)), ((rd 0), .inr (4, [.ref (rw 0), .int v_85, .int v_86, .int (rf 3), .ref (rd 1), .int (rf 5), .int i_1, .int i_68, .int 0, .int y_69]))] H := hP
                    have hD : va_D A [((rd 1), .inl (k 2, 900, .inl tf)), ((rd 0), .inr (4, [.ref (rw 0), .int v_85, .int v_86, .int (rf 3), .ref (rd 1), .int (rf 5), .int i_1, .int i_68, .int 0, .int y_69]))] := hD
                    exact W.vret hx hb hr (fun t ht hW => ⟨⟨((va_seli [0, v_85, v_86, (rf 3), 0, (rf 5), i_1, i_68, 0, y_69])), rfl, ⟨(show 0 ≤ (rf 3).toInt ∧ (rf 3).toInt ≤ 900 from ⟨by omega, by omega⟩), (show 0 ≤ (rf 5).toInt ∧ (rf 5).toInt ≤ 900 from ⟨by omega, by omega⟩), (show 0 ≤ i_1.toInt ∧ i_1.toInt ≤ 900 from ⟨by omega, by omega⟩), (show 0 ≤ i_68.toInt ∧ i_68.toInt ≤ 900 from ⟨by omega, by omega⟩), (show i_1.toInt ≤ i_68.toInt from by omega), (show i_68.toInt ≤ (rf 5).toInt from by omega), (show (rf 3).toInt = (rf 3).toInt from by omega)⟩, by rw [ht]; exact hP.sub [1, 0] rfl, hD.sub [1, 0] (by decide) rfl⟩, hS.F ht⟩) hS.2.2 dX5_advance_289
                · have c_80 : r_79.toInt ≠ 0 := ti_ne c_80
                  have qc_80 : r_79 = 1 := ti_of (show r_79.toInt = 1 from by omega)
                  refine lv_aload_n hx hb dX5_advance_189 rfl (lv_at hl 0 rfl) ?_
                  refine lv_bipush (v := 10) hx hb dX5_advance_190 (by decide) ?_
                  refine lv_aload_n hx hb dX5_advance_192 rfl (lv_at hl 0 rfl) ?_
                  refine va_get (D := D) (ci := 4) (v := .int y_69) (C := RX5) (T := TX5) (N := 10) hx hb hts inlX5 hown hK hP 0 rfl rfl 9 (by decide) (hts _ mw_164) (fun _ h9 => h9) rfl dX5_advance_193 ?_
                  refine lv_imul hx hb dX5_advance_196 ?_
                  refine lv_topi (fun z_87 ez_87 => ?_)
                  refine lv_aload_n hx hb dX5_advance_197 rfl (lv_at hl 0 rfl) ?_
                  refine va_get (D := D) (ci := 4) (v := .ref (rd 1)) (C := RX5) (T := TX5) (N := 10) hx hb hts inlX5 hown hK hP 0 rfl rfl 4 (by decide) (hts _ mw_50) (fun _ h9 => h9) rfl dX5_advance_198 ?_
                  refine lv_aload_n hx hb dX5_advance_201 rfl (lv_at hl 0 rfl) ?_
                  refine va_get (D := D) (ci := 4) (v := .int i_68) (C := RX5) (T := TX5) (N := 10) hx hb hts inlX5 hown hK hP 0 rfl rfl 7 (by decide) (hts _ mw_146) (fun _ h9 => h9) rfl dX5_advance_202 ?_
                  refine va_bald hx hb hK hP 1 2 rfl rfl (vp_in_o (by omega) (by omega)) dX5_advance_205 ?_
                  refine lv_topi (fun z_88 ez_88 => ?_)
                  refine lv_iadd hx hb dX5_advance_206 ?_
                  refine lv_topi (fun z_89 ez_89 => ?_)
                  refine lv_bipush (v := 48) hx hb dX5_advance_207 (by decide) ?_
                  refine lv_isub hx hb dX5_advance_209 ?_
                  refine lv_topi (fun z_90 ez_90 => ?_)
                  refine va_put (D := D) (ci := 4) (v := .int z_90) (ty := .int) (C := RX5) (T := TX5) (N := 10) hx hb hts inlX5 tyX5 tyX5_ok nmX5 hown hK hP hD hS 0 rfl rfl 9 (by decide) (hts _ mw_164) (fun _ h9 => h9) rfl (by decide +kernel) rfl rfl (Nat.le_of_ble_eq_true rfl) dX5_advance_210 (fun H locs hP hD hS => ?_)
                  have hP : va_P D vwCl [((rd 0), .inr (4, [.ref (rw 0), .int (rf 1), .int (rf 2), .int (rf 3), .ref (rd 1), .int (rf 5), .int i_1, .int i_68, .int 3, .int z_90])), ((rd 1), .inl (k 2, 900, .inl tf))] H := hP
                  have hD : va_D A [((rd 0), .inr (4, [.ref (rw 0), .int (rf 1), .int (rf 2), .int (rf 3), .ref (rd 1), .int (rf 5), .int i_1, .int i_68, .int 3, .int z_90])), ((rd 1), .inl (k 2, 900, .inl tf))] := hD
                  refine lv_aload_n hx hb dX5_advance_213 rfl (lv_at hl 0 rfl) ?_
                  refine lv_dup hx hb dX5_advance_214 rfl ?_
                  refine va_get (D := D) (ci := 4) (v := .int i_68) (C := RX5) (T := TX5) (N := 10) hx hb hts inlX5 hown hK hP 0 rfl rfl 7 (by decide) (hts _ mw_146) (fun _ h9 => h9) rfl dX5_advance_215 ?_
                  refine lv_iconst (v := 1) hx hb dX5_advance_218 (by decide) ?_
                  refine lv_iadd hx hb dX5_advance_219 ?_
                  refine lv_topi (fun z_91 ez_91 => ?_)
                  have tz_91 : z_91.toInt = i_68.toInt + 1 := by rw [ez_91]; exact ti_addc (by decide) (by omega) (by omega)
                  refine va_put (D := D) (ci := 4) (v := .int z_91) (ty := .int) (C := RX5) (T := TX5) (N := 10) hx hb hts inlX5 tyX5 tyX5_ok nmX5 hown hK hP hD hS 0 rfl rfl 7 (by decide) (hts _ mw_146) (fun _ h9 => h9) rfl (by decide +kernel) rfl rfl (Nat.le_of_ble_eq_true rfl) dX5_advance_220 (fun H locs hP hD hS => ?_)
                  have hP : va_P D vwCl [((rd 0), .inr (4, [.ref (rw 0), .int (rf 1), .int (rf 2), .int (rf 3), .ref (rd 1), .int (rf 5), .int i_1, .int z_91, .int 3, .int z_90])), ((rd 1), .inl (k 2, 900, .inl tf))] H := hP
                  have hD : va_D A [((rd 0), .inr (4, [.ref (rw 0), .int (rf 1), .int (rf 2), .int (rf 3), .ref (rd 1), .int (rf 5), .int i_1, .int z_91, .int 3, .int z_90])), ((rd 1), .inl (k 2, 900, .inl tf))] := hD
                  refine lv_goto (tgt := 163) hx hb dX5_advance_223 (by decide) ?_
                  exact ih163 (z_91, z_90) _ _ ls (by show ((rf 5).toInt - z_91.toInt).toNat < ((rf 5).toInt - i_68.toInt).toNat; omega) ⟨(show i_1.toInt ≤ z_91.toInt ∧ z_91.toInt ≤ (rf 5).toInt from ⟨by omega, by omega⟩), hP.sub [0, 1] rfl, hD.sub [0, 1] (by decide) rfl, hS, lv_sub hl [0] rfl⟩
          · have c_57 : r_56.toInt ≠ 0 := ti_ne c_57
            have qc_57 : r_56 = 1 := ti_of (show r_56.toInt = 1 from by omega)
            refine lv_aload_n hx hb dX5_advance_94 rfl (lv_at hl 0 rfl) ?_
            refine lv_iconst (v := 4) hx hb dX5_advance_95 (by decide) ?_
            refine va_put (D := D) (ci := 4) (v := .int 4) (ty := .int) (C := RX5) (T := TX5) (N := 10) hx hb hts inlX5 tyX5 tyX5_ok nmX5 hown hK hP hD hS 0 rfl rfl 8 (by decide) (hts _ mw_147) (fun _ h9 => h9) rfl (by decide +kernel) rfl rfl (Nat.le_of_ble_eq_true rfl) dX5_advance_96 (fun H locs hP hD hS => ?_)
            have hP : va_P D vwCl [((rd 0), .inr (4, [.ref (rw 0), .int (rf 1), .int (rf 2), .int (rf 3), .ref (rd 1), .int (rf 5), .int i_1, .int i_1, .int 4, .int (rf 9)])), ((rd 1), .inl (k 2, 900, .inl tf))] H := hP
            have hD : va_D A [((rd 0), .inr (4, [.ref (rw 0), .int (rf 1), .int (rf 2), .int (rf 3), .ref (rd 1), .int (rf 5), .int i_1, .int i_1, .int 4, .int (rf 9)])), ((rd 1), .inl (k 2, 900, .inl tf))] := hD
            refine W_loop (σ := Int32) (fun xx H locs ls => (i_1.toInt ≤ xx.toInt ∧ xx.toInt ≤ (rf 5).toInt) ∧ va_P D vwCl [((rd 0), .inr (4, [.ref (rw 0), .int (rf 1), .int (rf 2), .int (rf 3), .ref (rd 1), .int (rf 5), .int i_1, .int xx, .int 4, .int (rf 9)])), ((rd 1), .inl (k 2, 900, .inl tf))] H ∧ va_D A [((rd 0), .inr (4, [.ref (rw 0), .int (rf 1), .int (rf 2), .int (rf 3), .ref (rd 1), .int (rf 5), .int i_1, .int xx, .int 4, .int (rf 9)])), ((rd 1), .inl (k 2, 900, .inl tf))] ∧ va_S A s.heap H locs ∧ lv_has ls 1 [(0, .ref (rd 0))]) (fun xx => ((rf 5).toInt - xx.toInt).toNat) ?_ (i_1) _ _ ls ⟨(show i_1.toInt ≤ i_1.toInt ∧ i_1.toInt ≤ (rf 5).toInt from ⟨by omega, by omega⟩), hP.sub [0, 1] rfl, hD.sub [0, 1] (by decide) rfl, hS, lv_sub hl [0] rfl⟩
            intro xx H locs ls hI ih99
            obtain ⟨i_92, rfl⟩ : ∃ z, z = xx := ⟨_, rfl⟩
            obtain ⟨h_93, hP, hD, hS, hl⟩ := hI
            have h_93 : i_1.toInt ≤ i_92.toInt ∧ i_92.toInt ≤ (rf 5).toInt := h_93
            obtain ⟨h_93a, h_93b⟩ := h_93
            have hP : va_P D vwCl [((rd 0), .inr (4, [.ref (rw 0), .int (rf 1), .int (rf 2), .int (rf 3), .ref (rd 1), .int (rf 5), .int i_1, .int i_92, .int 4, .int (rf 9)])), ((rd 1), .inl (k 2, 900, .inl tf))] H := hP
            have hD : va_D A [((rd 0), .inr (4, [.ref (rw 0), .int (rf 1), .int (rf 2), .int (rf 3), .ref (rd 1), .int (rf 5), .int i_1, .int i_92, .int 4, .int (rf 9)])), ((rd 1), .inl (k 2, 900, .inl tf))] := hD
            have hl : lv_has ls 1 [(0, .ref (rd 0))] := hl
            refine lv_aload_n hx hb dX5_advance_99 rfl (lv_at hl 0 rfl) ?_
            refine va_get (D := D) (ci := 4) (v := .int i_92) (C := RX5) (T := TX5) (N := 10) hx hb hts inlX5 hown hK hP 0 rfl rfl 7 (by decide) (hts _ mw_146) (fun _ h9 => h9) rfl dX5_advance_100 ?_
            refine lv_aload_n hx hb dX5_advance_103 rfl (lv_at hl 0 rfl) ?_
            refine va_get (D := D) (ci := 4) (v := .int (rf 5)) (C := RX5) (T := TX5) (N := 10) hx hb hts inlX5 hown hK hP 0 rfl rfl 5 (by decide) (hts _ mw_144) (fun _ h9 => h9) rfl dX5_advance_104 ?_
            refine lv_icmp_ge (tgt := 263) hx hb dX5_advance_107 (by decide) (fun c_94 => ?_) (fun c_94 => ?_)
            · have c_94 : (rf 5).toInt ≤ i_92.toInt := ti_le c_94
              refine lv_aload_n hx hb dX5_advance_263 rfl (lv_at hl 0 rfl) ?_
              refine va_get (D := D) (ci := 4) (v := .int 4) (C := RX5) (T := TX5) (N := 10) hx hb hts inlX5 hown hK hP 0 rfl rfl 8 (by decide) (hts _ mw_147) (fun _ h9 => h9) rfl dX5_advance_264 ?_
              refine lv_iconst (v := 3) hx hb dX5_advance_267 (by decide) ?_
              refine lv_icmp_ne (tgt := 289) hx hb dX5_advance_268 (by decide) (fun _ => ?_) (fun c9 => absurd c9 (by decide))
              exact W.vret hx hb hr (fun t ht hW => ⟨⟨((va_seli [0, (rf 1), (rf 2), (rf 3), 0, (rf 5), i_1, i_92, 4, (rf 9)])), rfl, ⟨(show 0 ≤ (rf 3).toInt ∧ (rf 3).toInt ≤ 900 from ⟨by omega, by omega⟩), (show 0 ≤ (rf 5).toInt ∧ (rf 5).toInt ≤ 900 from ⟨by omega, by omega⟩), (show 0 ≤ i_1.toInt ∧ i_1.toInt ≤ 900 from ⟨by omega, by omega⟩), (show 0 ≤ i_92.toInt ∧ i_92.toInt ≤ 900 from ⟨by omega, by omega⟩), (show i_1.toInt ≤ i_92.toInt from by omega), (show i_92.toInt ≤ (rf 5).toInt from by omega), (show (rf 3).toInt = (rf 3).toInt from by omega)⟩, by rw [ht]; exact hP.sub [0, 1] rfl, hD.sub [0, 1] (by decide) rfl⟩, hS.F ht⟩) hS.2.2 dX5_advance_289
            · have c_94 : i_92.toInt < (rf 5).toInt := ti_nle c_94
              refine lv_aload_n hx hb dX5_advance_110 rfl (lv_at hl 0 rfl) ?_
              refine va_get (D := D) (ci := 4) (v := .ref (rd 1)) (C := RX5) (T := TX5) (N := 10) hx hb hts inlX5 hown hK hP 0 rfl rfl 4 (by decide) (hts _ mw_50) (fun _ h9 => h9) rfl dX5_advance_111 ?_
              refine lv_aload_n hx hb dX5_advance_114 rfl (lv_at hl 0 rfl) ?_
              refine va_get (D := D) (ci := 4) (v := .int i_92) (C := RX5) (T := TX5) (N := 10) hx hb hts inlX5 hown hK hP 0 rfl rfl 7 (by decide) (hts _ mw_146) (fun _ h9 => h9) rfl dX5_advance_115 ?_
              refine va_bald hx hb hK hP 1 2 rfl rfl (vp_in_o (by omega) (by omega)) dX5_advance_118 ?_
              refine lv_topi (fun z_95 ez_95 => ?_)
              refine kS_i (As := [.int z_95]) (rest := []) ⟨hx, hb, hml, hown, hts⟩ (s_R_isLetter l D k z_95) (gS mw_165 mw_166 mw_15 mw_167) hd_yX5_isLetter rfl rfl ⟨Nat.le_of_ble_eq_true rfl, Nat.le_of_ble_eq_true rfl⟩ hK hN0 (hP.sub [] rfl) rfl hl.1 rfl (Nat.le_of_ble_eq_true rfl) dX5_advance_119 ⟨Nat.le_of_ble_eq_true rfl, Nat.le_of_ble_eq_true rfl⟩ (fun r_96 hr_96 => ?_)
              have hr_96 : 0 ≤ r_96.toInt ∧ r_96.toInt ≤ 1 := hr_96
              refine lv_if_eq (tgt := 263) hx hb dX5_advance_122 (by decide) (fun c_97 => ?_) (fun c_97 => ?_)
              · have c_97 : r_96.toInt = 0 := ti_eq c_97
                have qc_97 : r_96 = 0 := ti_of (show r_96.toInt = 0 from by omega)
                refine lv_aload_n hx hb dX5_advance_263 rfl (lv_at hl 0 rfl) ?_
                refine va_get (D := D) (ci := 4) (v := .int 4) (C := RX5) (T := TX5) (N := 10) hx hb hts inlX5 hown hK hP 0 rfl rfl 8 (by decide) (hts _ mw_147) (fun _ h9 => h9) rfl dX5_advance_264 ?_
                refine lv_iconst (v := 3) hx hb dX5_advance_267 (by decide) ?_
                refine lv_icmp_ne (tgt := 289) hx hb dX5_advance_268 (by decide) (fun _ => ?_) (fun c9 => absurd c9 (by decide))
                exact W.vret hx hb hr (fun t ht hW => ⟨⟨((va_seli [0, (rf 1), (rf 2), (rf 3), 0, (rf 5), i_1, i_92, 4, (rf 9)])), rfl, ⟨(show 0 ≤ (rf 3).toInt ∧ (rf 3).toInt ≤ 900 from ⟨by omega, by omega⟩), (show 0 ≤ (rf 5).toInt ∧ (rf 5).toInt ≤ 900 from ⟨by omega, by omega⟩), (show 0 ≤ i_1.toInt ∧ i_1.toInt ≤ 900 from ⟨by omega, by omega⟩), (show 0 ≤ i_92.toInt ∧ i_92.toInt ≤ 900 from ⟨by omega, by omega⟩), (show i_1.toInt ≤ i_92.toInt from by omega), (show i_92.toInt ≤ (rf 5).toInt from by omega), (show (rf 3).toInt = (rf 3).toInt from by omega)⟩, by rw [ht]; exact hP.sub [0, 1] rfl, hD.sub [0, 1] (by decide) rfl⟩, hS.F ht⟩) hS.2.2 dX5_advance_289
              · have c_97 : r_96.toInt ≠ 0 := ti_ne c_97
                have qc_97 : r_96 = 1 := ti_of (show r_96.toInt = 1 from by omega)
                refine lv_aload_n hx hb dX5_advance_125 rfl (lv_at hl 0 rfl) ?_
                refine lv_dup hx hb dX5_advance_126 rfl ?_
                refine va_get (D := D) (ci := 4) (v := .int i_92) (C := RX5) (T := TX5) (N := 10) hx hb hts inlX5 hown hK hP 0 rfl rfl 7 (by decide) (hts _ mw_146) (fun _ h9 => h9) rfl dX5_advance_127 ?_
                refine lv_iconst (v := 1) hx hb dX5_advance_130 (by decide) ?_
                refine lv_iadd hx hb dX5_advance_131 ?_
                refine lv_topi (fun z_98 ez_98 => ?_)
                have tz_98 : z_98.toInt = i_92.toInt + 1 := by rw [ez_98]; exact ti_addc (by decide) (by omega) (by omega)
                refine va_put (D := D) (ci := 4) (v := .int z_98) (ty := .int) (C := RX5) (T := TX5) (N := 10) hx hb hts inlX5 tyX5 tyX5_ok nmX5 hown hK hP hD hS 0 rfl rfl 7 (by decide) (hts _ mw_146) (fun _ h9 => h9) rfl (by decide +kernel) rfl rfl (Nat.le_of_ble_eq_true rfl) dX5_advance_132 (fun H locs hP hD hS => ?_)
                have hP : va_P D vwCl [((rd 0), .inr (4, [.ref (rw 0), .int (rf 1), .int (rf 2), .int (rf 3), .ref (rd 1), .int (rf 5), .int i_1, .int z_98, .int 4, .int (rf 9)])), ((rd 1), .inl (k 2, 900, .inl tf))] H := hP
                have hD : va_D A [((rd 0), .inr (4, [.ref (rw 0), .int (rf 1), .int (rf 2), .int (rf 3), .ref (rd 1), .int (rf 5), .int i_1, .int z_98, .int 4, .int (rf 9)])), ((rd 1), .inl (k 2, 900, .inl tf))] := hD
                refine lv_goto (tgt := 99) hx hb dX5_advance_135 (by decide) ?_
                exact ih99 (z_98) _ _ ls (by show ((rf 5).toInt - z_98.toInt).toNat < ((rf 5).toInt - i_92.toInt).toNat; omega) ⟨(show i_1.toInt ≤ z_98.toInt ∧ z_98.toInt ≤ (rf 5).toInt from ⟨by omega, by omega⟩), hP.sub [0, 1] rfl, hD.sub [0, 1] (by decide) rfl, hS, lv_sub hl [0] rfl⟩
        · have c_54 : (rf 5).toInt ≤ i_1.toInt := ti_nlt c_54
          refine lv_aload_n hx hb dX5_advance_71 rfl (lv_at hl 0 rfl) ?_
          refine lv_iconst (v := 1) hx hb dX5_advance_72 (by decide) ?_
          refine va_put (D := D) (ci := 4) (v := .int 1) (ty := .int) (C := RX5) (T := TX5) (N := 10) hx hb hts inlX5 tyX5 tyX5_ok nmX5 hown hK hP hD hS 0 rfl rfl 8 (by decide) (hts _ mw_147) (fun _ h9 => h9) rfl (by decide +kernel) rfl rfl (Nat.le_of_ble_eq_true rfl) dX5_advance_73 (fun H locs hP hD hS => ?_)
          have hP : va_P D vwCl [((rd 0), .inr (4, [.ref (rw 0), .int (rf 1), .int (rf 2), .int (rf 3), .ref (rd 1), .int (rf 5), .int i_1, .int i_1, .int 1, .int (rf 9)])), ((rd 1), .inl (k 2, 900, .inl tf))] H := hP
          have hD : va_D A [((rd 0), .inr (4, [.ref (rw 0), .int (rf 1), .int (rf 2), .int (rf 3), .ref (rd 1), .int (rf 5), .int i_1, .int i_1, .int 1, .int (rf 9)])), ((rd 1), .inl (k 2, 900, .inl tf))] := hD
          refine lv_goto (tgt := 263) hx hb dX5_advance_76 (by decide) ?_
          refine lv_aload_n hx hb dX5_advance_263 rfl (lv_at hl 0 rfl) ?_
          refine va_get (D := D) (ci := 4) (v := .int 1) (C := RX5) (T := TX5) (N := 10) hx hb hts inlX5 hown hK hP 0 rfl rfl 8 (by decide) (hts _ mw_147) (fun _ h9 => h9) rfl dX5_advance_264 ?_
          refine lv_iconst (v := 3) hx hb dX5_advance_267 (by decide) ?_
          refine lv_icmp_ne (tgt := 289) hx hb dX5_advance_268 (by decide) (fun _ => ?_) (fun c9 => absurd c9 (by decide))
          exact W.vret hx hb hr (fun t ht hW => ⟨⟨((va_seli [0, (rf 1), (rf 2), (rf 3), 0, (rf 5), i_1, i_1, 1, (rf 9)])), rfl, ⟨(show 0 ≤ (rf 3).toInt ∧ (rf 3).toInt ≤ 900 from ⟨by omega, by omega⟩), (show 0 ≤ (rf 5).toInt ∧ (rf 5).toInt ≤ 900 from ⟨by omega, by omega⟩), (show 0 ≤ i_1.toInt ∧ i_1.toInt ≤ 900 from ⟨by omega, by omega⟩), (show 0 ≤ i_1.toInt ∧ i_1.toInt ≤ 900 from ⟨by omega, by omega⟩), (show i_1.toInt ≤ i_1.toInt from by omega), (show i_1.toInt ≤ (rf 5).toInt from by omega), (show (rf 3).toInt = (rf 3).toInt from by omega)⟩, by rw [ht]; exact hP.sub [0, 1] rfl, hD.sub [0, 1] (by decide) rfl⟩, hS.F ht⟩) hS.2.2 dX5_advance_289
      · have c_53 : z_52.toInt = 32 := ti_eq c_53
        have qc_53 : z_52 = 32 := ti_of (show z_52.toInt = 32 from by omega)
        refine lv_aload_n hx hb dX5_advance_39 rfl (lv_at hl 0 rfl) ?_
        refine lv_dup hx hb dX5_advance_40 rfl ?_
        refine va_get (D := D) (ci := 4) (v := .int i_1) (C := RX5) (T := TX5) (N := 10) hx hb hts inlX5 hown hK hP 0 rfl rfl 7 (by decide) (hts _ mw_146) (fun _ h9 => h9) rfl dX5_advance_41 ?_
        refine lv_iconst (v := 1) hx hb dX5_advance_44 (by decide) ?_
        refine lv_iadd hx hb dX5_advance_45 ?_
        refine lv_topi (fun z_99 ez_99 => ?_)
        have tz_99 : z_99.toInt = i_1.toInt + 1 := by rw [ez_99]; exact ti_addc (by decide) (by omega) (by omega)
        refine va_put (D := D) (ci := 4) (v := .int z_99) (ty := .int) (C := RX5) (T := TX5) (N := 10) hx hb hts inlX5 tyX5 tyX5_ok nmX5 hown hK hP hD hS 0 rfl rfl 7 (by decide) (hts _ mw_146) (fun _ h9 => h9) rfl (by decide +kernel) rfl rfl (Nat.le_of_ble_eq_true rfl) dX5_advance_46 (fun H locs hP hD hS => ?_)
        have hP : va_P D vwCl [((rd 0), .inr (4, [.ref (rw 0), .int (rf 1), .int (rf 2), .int (rf 3), .ref (rd 1), .int (rf 5), .int (rf 6), .int z_99, .int (rf 8), .int (rf 9)])), ((rd 1), .inl (k 2, 900, .inl tf))] H := hP
        have hD : va_D A [((rd 0), .inr (4, [.ref (rw 0), .int (rf 1), .int (rf 2), .int (rf 3), .ref (rd 1), .int (rf 5), .int (rf 6), .int z_99, .int (rf 8), .int (rf 9)])), ((rd 1), .inl (k 2, 900, .inl tf))] := hD
        refine lv_goto (tgt := 0) hx hb dX5_advance_49 (by decide) ?_
        exact ih0 (z_99) _ _ ls (by show ((rf 5).toInt - z_99.toInt).toNat < ((rf 5).toInt - i_1.toInt).toNat; omega) ⟨(show 0 ≤ z_99.toInt ∧ z_99.toInt ≤ (rf 5).toInt from ⟨by omega, by omega⟩), hP.sub [0, 1] rfl, hD.sub [0, 1] (by decide) rfl, hS, lv_sub hl [0] rfl⟩
set_option maxHeartbeats 4000000 in
set_option maxRecDepth 100000 in
theorem s_R_isWord (l : Launch) (D : va_G) (k : Nat → ClassId) (ak : Nat → Nat) (av : Nat → Nat) (rd : Nat → Nat) (rw : Nat → Nat) (rf : Nat → Int32) (tf : Nat → Int32) (wi : Nat) (w_r3 : 0 ≤ (rf 3).toInt ∧ (rf 3).toInt ≤ 900) (w_r5 : 0 ≤ (rf 5).toInt ∧ (rf 5).toInt ≤ 900) (w_r6 : 0 ≤ (rf 6).toInt ∧ (rf 6).toInt ≤ 900) (w_r7 : 0 ≤ (rf 7).toInt ∧ (rf 7).toInt ≤ 900) (w_rl0 : (rf 6).toInt ≤ (rf 7).toInt) (w_rl1 : (rf 7).toInt ≤ (rf 5).toInt) (hwi : wi < 10) : Met l yX5_isWord (Cond.code yX5_isWord cX5_isWord 3 (some .boolean) :: wsL_law) ({ frames := 4, cells := 0, slots := 0, locals := 240 } : Room) (va_Pc [.ref (rd 0), .ref (ak wi)] (prs ak av D k [((rd 0), .inr (4, [.ref (rw 0), .int (rf 1), .int (rf 2), .int (rf 3), .ref (rd 1), .int (rf 5), .int (rf 6), .int (rf 7), .int (rf 8), .int (rf 9)])), ((rd 1), .inl (k 2, 900, .inl tf))])) (vp_Si (fun rr => 0 ≤ rr.toInt ∧ rr.toInt ≤ 1)) 0 0 (fun _ => False) := by
  refine Met.ofW (cc := cX5_isWord) (maxL := 3) (ret := (some .boolean)) (by decide) rfl ?_
  intro p e s m args below meth c s₁ B hml hv
  obtain ⟨rfl, hP, hK, hN0, hW0⟩ := hv
  have hS : va_S (fun _ => False) s.heap s.heap [] := va_S.rf
  have hx := B.exec
  have hb := B.bytes
  have hr := B.returns
  have hts : ∀ w ∈ wsL_law, w.before _ s = true := fun w h => atoms_spec (ws := Cond.code yX5_isWord cX5_isWord 3 (some .boolean) :: wsL_law) B.pre w (List.mem_cons_of_mem _ h)
  have hown : s.vm.findClass RX5 = some m.cls := findClass_of_methodNamed B.named
  have hlocks := B.notSynchronized
  have hP : va_P D vwCl [((rd 0), .inr (4, [.ref (rw 0), .int (rf 1), .int (rf 2), .int (rf 3), .ref (rd 1), .int (rf 5), .int (rf 6), .int (rf 7), .int (rf 8), .int (rf 9)])), ((rd 1), .inl (k 2, 900, .inl tf))] s.heap := hP
  have hl := lv_entry ([.ref (rd 0), .ref (ak wi)]) (n := 3) (Nat.le_of_ble_eq_true rfl)
  rw [lg_entry_eq]
  generalize (lg_sl ([.ref (rd 0), .ref (ak wi)]) ++ List.replicate (3 - (lg_sl ([.ref (rd 0), .ref (ak wi)])).length) Slot.unset).toArray = ls at hl ⊢
  have hl : lv_has ls 3 [(0, .ref (rd 0)), (1, .ref (ak wi))] := hl
  have hLN := LN_b hwi
  refine lv_aload_n hx hb dX5_isWord_0 rfl (lv_at hl 0 rfl) ?_
  refine va_get (D := D) (ci := 4) (v := .int (rf 8)) (C := RX5) (T := TX5) (N := 10) hx hb hts inlX5 hown hK hP 0 rfl rfl 8 (by decide) (hts _ mw_147) (fun _ h9 => h9) rfl dX5_isWord_1 ?_
  refine lv_iconst (v := 4) hx hb dX5_isWord_4 (by decide) ?_
  refine lv_icmp_ne (tgt := 24) hx hb dX5_isWord_5 (by decide) (fun c_1 => ?_) (fun c_1 => ?_)
  · have c_1 : (rf 8).toInt ≠ 4 := ti_ne c_1
    refine lv_iconst (v := 0) hx hb dX5_isWord_24 (by decide) ?_
    exact W.zret (v := 0) hx hb hr rfl (fun t ht hW => ⟨0, rfl, ⟨by decide, by decide⟩, ht⟩) (fun q h => by cases h) dX5_isWord_25
  · have c_1 : (rf 8).toInt = 4 := ti_eq c_1
    have qc_1 : (rf 8) = 4 := ti_of (show (rf 8).toInt = 4 from by omega)
    refine lv_aload_n hx hb dX5_isWord_8 rfl (lv_at hl 0 rfl) ?_
    refine va_get (D := D) (ci := 4) (v := .int (rf 7)) (C := RX5) (T := TX5) (N := 10) hx hb hts inlX5 hown hK hP 0 rfl rfl 7 (by decide) (hts _ mw_146) (fun _ h9 => h9) rfl dX5_isWord_9 ?_
    refine lv_aload_n hx hb dX5_isWord_12 rfl (lv_at hl 0 rfl) ?_
    refine va_get (D := D) (ci := 4) (v := .int (rf 6)) (C := RX5) (T := TX5) (N := 10) hx hb hts inlX5 hown hK hP 0 rfl rfl 6 (by decide) (hts _ mw_163) (fun _ h9 => h9) rfl dX5_isWord_13 ?_
    refine lv_isub hx hb dX5_isWord_16 ?_
    refine lv_topi (fun z_2 ez_2 => ?_)
    have tz_2 : z_2.toInt = (rf 7).toInt - (rf 6).toInt := by rw [ez_2]; exact ti_subc rfl (by omega) (by omega)
    refine lv_aload_n hx hb dX5_isWord_17 rfl (lv_at hl 1 rfl) ?_
    refine kT_is (As := []) (rest := [.int z_2]) ⟨hx, hb, hml, hown, hts⟩ (s_S_length l D k ak av _ (by omega)) (gV mw_189 mw_190 mw_191 mw_192 mw_193) hd_yJ0_length_8abf5 rfl rfl ⟨Nat.le_of_ble_eq_true rfl, Nat.le_of_ble_eq_true rfl⟩ hK hN0 hW0 hS (hP.sub [] rfl) (by omega) rfl rfl hl.1 rfl (Nat.le_of_ble_eq_true rfl) dX5_isWord_18 ⟨Nat.le_of_ble_eq_true rfl, Nat.le_of_ble_eq_true rfl⟩ (fun r_3 hr_3 => ?_)
    obtain rfl : r_3 = (LN wi) := hr_3
    refine lv_icmp_eq (tgt := 26) hx hb dX5_isWord_21 (by decide) (fun c_4 => ?_) (fun c_4 => ?_)
    · have c_4 : z_2.toInt = (LN wi).toInt := ti_eq c_4
      refine lv_iconst (v := 0) hx hb dX5_isWord_26 (by decide) ?_
      refine lv_istore_n (lv' := [(2, .int 0), (0, .ref (rd 0)), (1, .ref (ak wi))]) hx hb dX5_isWord_27 rfl hl (by decide) rfl (fun ls hl => ?_)
      refine W_loop (σ := Int32) (fun xx H locs ls => (0 ≤ xx.toInt ∧ xx.toInt ≤ (LN wi).toInt) ∧ va_P D vwCl [((rd 0), .inr (4, [.ref (rw 0), .int (rf 1), .int (rf 2), .int (rf 3), .ref (rd 1), .int (rf 5), .int (rf 6), .int (rf 7), .int (rf 8), .int (rf 9)])), ((rd 1), .inl (k 2, 900, .inl tf))] H ∧ H = s.heap ∧ locs = [] ∧ lv_has ls 3 [(2, .int xx), (0, .ref (rd 0)), (1, .ref (ak wi))]) (fun xx => ((LN wi).toInt - xx.toInt).toNat) ?_ (0) _ _ ls ⟨(show 0 ≤ (0 : Int32).toInt ∧ (0 : Int32).toInt ≤ (LN wi).toInt from ⟨by decide, by rw [show (0 : Int32).toInt = 0 from by decide]; omega⟩), hP.sub [0, 1] rfl, rfl, rfl, lv_sub hl [0, 1, 2] rfl⟩
      intro xx H locs ls hI ih28
      obtain ⟨i_5, rfl⟩ : ∃ z, z = xx := ⟨_, rfl⟩
      obtain ⟨h_6, hP, rfl, rfl, hl⟩ := hI
      have h_6 : 0 ≤ i_5.toInt ∧ i_5.toInt ≤ (LN wi).toInt := h_6
      obtain ⟨h_6a, h_6b⟩ := h_6
      have hP : va_P D vwCl [((rd 0), .inr (4, [.ref (rw 0), .int (rf 1), .int (rf 2), .int (rf 3), .ref (rd 1), .int (rf 5), .int (rf 6), .int (rf 7), .int (rf 8), .int (rf 9)])), ((rd 1), .inl (k 2, 900, .inl tf))] s.heap := hP
      have hl : lv_has ls 3 [(2, .int i_5), (0, .ref (rd 0)), (1, .ref (ak wi))] := hl
      refine lv_iload_n hx hb dX5_isWord_28 rfl (lv_at hl 0 rfl) ?_
      refine lv_aload_n hx hb dX5_isWord_29 rfl (lv_at hl 2 rfl) ?_
      refine kT_is (As := []) (rest := [.int i_5]) ⟨hx, hb, hml, hown, hts⟩ (s_S_length l D k ak av _ (by omega)) (gV mw_189 mw_190 mw_191 mw_192 mw_193) hd_yJ0_length_8abf5 rfl rfl ⟨Nat.le_of_ble_eq_true rfl, Nat.le_of_ble_eq_true rfl⟩ hK hN0 hW0 hS (hP.sub [] rfl) (by omega) rfl rfl hl.1 rfl (Nat.le_of_ble_eq_true rfl) dX5_isWord_30 ⟨Nat.le_of_ble_eq_true rfl, Nat.le_of_ble_eq_true rfl⟩ (fun r_7 hr_7 => ?_)
      obtain rfl : r_7 = (LN wi) := hr_7
      refine lv_icmp_ge (tgt := 63) hx hb dX5_isWord_33 (by decide) (fun c_8 => ?_) (fun c_8 => ?_)
      · have c_8 : (LN wi).toInt ≤ i_5.toInt := ti_le c_8
        refine lv_iconst (v := 1) hx hb dX5_isWord_63 (by decide) ?_
        exact W.zret (v := 1) hx hb hr rfl (fun t ht hW => ⟨1, rfl, ⟨by decide, by decide⟩, ht⟩) (fun q h => by cases h) dX5_isWord_64
      · have c_8 : i_5.toInt < (LN wi).toInt := ti_nle c_8
        refine lv_aload_n hx hb dX5_isWord_36 rfl (lv_at hl 1 rfl) ?_
        refine va_get (D := D) (ci := 4) (v := .ref (rd 1)) (C := RX5) (T := TX5) (N := 10) hx hb hts inlX5 hown hK hP 0 rfl rfl 4 (by decide) (hts _ mw_50) (fun _ h9 => h9) rfl dX5_isWord_37 ?_
        refine lv_aload_n hx hb dX5_isWord_40 rfl (lv_at hl 1 rfl) ?_
        refine va_get (D := D) (ci := 4) (v := .int (rf 6)) (C := RX5) (T := TX5) (N := 10) hx hb hts inlX5 hown hK hP 0 rfl rfl 6 (by decide) (hts _ mw_163) (fun _ h9 => h9) rfl dX5_isWord_41 ?_
        refine lv_iload_n hx hb dX5_isWord_44 rfl (lv_at hl 0 rfl) ?_
        refine lv_iadd hx hb dX5_isWord_45 ?_
        refine lv_topi (fun z_9 ez_9 => ?_)
        have tz_9 : z_9.toInt = (rf 6).toInt + i_5.toInt := by rw [ez_9]; exact ti_add (by omega) (by omega)
        refine va_bald hx hb hK hP 1 2 rfl rfl (vp_in_o (by omega) (by omega)) dX5_isWord_46 ?_
        refine lv_topi (fun z_10 ez_10 => ?_)
        refine lv_aload_n hx hb dX5_isWord_47 rfl (lv_at hl 2 rfl) ?_
        refine lv_iload_n hx hb dX5_isWord_48 rfl (lv_at hl 0 rfl) ?_
        refine kT_is (As := [.int i_5]) (rest := [.int z_10]) ⟨hx, hb, hml, hown, hts⟩ (s_S_charAt l D k ak av _ i_5 (by omega) (show 0 ≤ i_5.toInt from by omega) (show i_5.toInt < (LN wi).toInt from by omega)) (gV mw_201 mw_202 mw_203 mw_192 mw_204) hd_yJ0_charAt_5068e rfl rfl ⟨Nat.le_of_ble_eq_true rfl, Nat.le_of_ble_eq_true rfl⟩ hK hN0 hW0 hS (hP.sub [] rfl) (by omega) rfl rfl hl.1 rfl (Nat.le_of_ble_eq_true rfl) dX5_isWord_49 ⟨Nat.le_of_ble_eq_true rfl, Nat.le_of_ble_eq_true rfl⟩ (fun r_11 hr_11 => ?_)
        refine lv_icmp_eq (tgt := 57) hx hb dX5_isWord_52 (by decide) (fun c_12 => ?_) (fun c_12 => ?_)
        · have c_12 : z_10.toInt = r_11.toInt := ti_eq c_12
          obtain ⟨z_13, ez_13⟩ : ∃ y : Int32, y = i_5 + 1 := ⟨_, rfl⟩
          have tz_13 : z_13.toInt = i_5.toInt + 1 := by rw [ez_13]; exact ti_addc (by decide) (by omega) (by omega)
          refine lv_iinc (v := z_13) (lv' := [(2, .int z_13), (0, .ref (rd 0)), (1, .ref (ak wi))]) hx hb dX5_isWord_57 hl (k := 0) rfl (ez_13.symm) (by decide) rfl (fun ls hl => ?_)
          refine lv_goto (tgt := 28) hx hb dX5_isWord_60 (by decide) ?_
          exact ih28 (z_13) _ _ ls (by show ((LN wi).toInt - z_13.toInt).toNat < ((LN wi).toInt - i_5.toInt).toNat; omega) ⟨(show 0 ≤ z_13.toInt ∧ z_13.toInt ≤ (LN wi).toInt from ⟨by omega, by omega⟩), hP.sub [0, 1] rfl, rfl, rfl, lv_sub hl [0, 1, 2] rfl⟩
        · have c_12 : z_10.toInt ≠ r_11.toInt := ti_ne c_12
          refine lv_iconst (v := 0) hx hb dX5_isWord_55 (by decide) ?_
          exact W.zret (v := 0) hx hb hr rfl (fun t ht hW => ⟨0, rfl, ⟨by decide, by decide⟩, ht⟩) (fun q h => by cases h) dX5_isWord_56
    · have c_4 : z_2.toInt ≠ (LN wi).toInt := ti_ne c_4
      refine lv_iconst (v := 0) hx hb dX5_isWord_24 (by decide) ?_
      exact W.zret (v := 0) hx hb hr rfl (fun t ht hW => ⟨0, rfl, ⟨by decide, by decide⟩, ht⟩) (fun q h => by cases h) dX5_isWord_25
set_option maxHeartbeats 4000000 in
set_option maxRecDepth 100000 in
theorem s_R_readNumber6 (l : Launch) (D : va_G) (k : Nat → ClassId) (rd : Nat → Nat) (rw : Nat → Nat) (rf : Nat → Int32) (tf : Nat → Int32) (sz : Nat) (w_r3 : 0 ≤ (rf 3).toInt ∧ (rf 3).toInt ≤ 900) (w_r5 : 0 ≤ (rf 5).toInt ∧ (rf 5).toInt ≤ 900) (w_r6 : 0 ≤ (rf 6).toInt ∧ (rf 6).toInt ≤ 900) (w_r7 : 0 ≤ (rf 7).toInt ∧ (rf 7).toInt ≤ 900) (w_rl0 : (rf 6).toInt ≤ (rf 7).toInt) (w_rl1 : (rf 7).toInt ≤ (rf 5).toInt) : Met l yX5_readNumber (Cond.code yX5_readNumber cX5_readNumber 4 (some .int) :: wsL_law) ({ frames := 2, cells := 0, slots := 0, locals := 120 } : Room) (va_Pc [.ref (rd 0), .int 1, .int 6] (pu D k sz [((rd 0), .inr (4, [.ref (rw 0), .int (rf 1), .int (rf 2), .int (rf 3), .ref (rd 1), .int (rf 5), .int (rf 6), .int (rf 7), .int (rf 8), .int (rf 9)])), ((rd 1), .inl (k 2, 900, .inl tf))])) (va_Qi (fun rr (uu : Nat → Int32) => (1 ≤ rr.toInt ∧ rr.toInt ≤ 6) ∧ (0 ≤ (uu 3).toInt ∧ (uu 3).toInt ≤ 900) ∧ (0 ≤ (uu 5).toInt ∧ (uu 5).toInt ≤ 900) ∧ (0 ≤ (uu 6).toInt ∧ (uu 6).toInt ≤ 900) ∧ (0 ≤ (uu 7).toInt ∧ (uu 7).toInt ≤ 900) ∧ ((uu 6).toInt ≤ (uu 7).toInt) ∧ ((uu 7).toInt ≤ (uu 5).toInt) ∧ ((uu 3).toInt = (rf 3).toInt)) (qu D (va_A [((rd 0), .inr (4, [.ref (rw 0), .int (rf 1), .int (rf 2), .int (rf 3), .ref (rd 1), .int (rf 5), .int (rf 6), .int (rf 7), .int (rf 8), .int (rf 9)])), ((rd 1), .inl (k 2, 900, .inl tf))] sz) (fun uu : Nat → Int32 => [((rd 0), .inr (4, [.ref (rw 0), .int (uu 1), .int (uu 2), .int (uu 3), .ref (rd 1), .int (uu 5), .int (uu 6), .int (uu 7), .int (uu 8), .int (uu 9)])), ((rd 1), .inl (k 2, 900, .inl tf))])) (va_A [((rd 0), .inr (4, [.ref (rw 0), .int (rf 1), .int (rf 2), .int (rf 3), .ref (rd 1), .int (rf 5), .int (rf 6), .int (rf 7), .int (rf 8), .int (rf 9)])), ((rd 1), .inl (k 2, 900, .inl tf))] sz)) 0 0 (va_A [((rd 0), .inr (4, [.ref (rw 0), .int (rf 1), .int (rf 2), .int (rf 3), .ref (rd 1), .int (rf 5), .int (rf 6), .int (rf 7), .int (rf 8), .int (rf 9)])), ((rd 1), .inl (k 2, 900, .inl tf))] sz) := by
  refine Met.ofW (cc := cX5_readNumber) (maxL := 4) (ret := (some .int)) (by decide) rfl ?_
  intro p e s m args below meth c s₁ B hml hv
  obtain ⟨rfl, hsz, hP, hK, hD0, hN0⟩ := hv
  have hx := B.exec
  have hb := B.bytes
  have hr := B.returns
  have hts : ∀ w ∈ wsL_law, w.before _ s = true := fun w h => atoms_spec (ws := Cond.code yX5_readNumber cX5_readNumber 4 (some .int) :: wsL_law) B.pre w (List.mem_cons_of_mem _ h)
  have hown : s.vm.findClass RX5 = some m.cls := findClass_of_methodNamed B.named
  have hlocks := B.notSynchronized
  subst hsz
  have hD := hD0.self (sz := s.heap.size)
  generalize hAe : va_A [((rd 0), .inr (4, [.ref (rw 0), .int (rf 1), .int (rf 2), .int (rf 3), .ref (rd 1), .int (rf 5), .int (rf 6), .int (rf 7), .int (rf 8), .int (rf 9)])), ((rd 1), .inl (k 2, 900, .inl tf))] s.heap.size = A at hD ⊢
  have hA : ∀ q : Nat, s.heap.size ≤ q → A q := fun q h => by rw [← hAe]; exact Or.inr h
  have hS : va_S A s.heap s.heap [] := va_S.rf
  have hP : va_P D vwCl [((rd 0), .inr (4, [.ref (rw 0), .int (rf 1), .int (rf 2), .int (rf 3), .ref (rd 1), .int (rf 5), .int (rf 6), .int (rf 7), .int (rf 8), .int (rf 9)])), ((rd 1), .inl (k 2, 900, .inl tf))] s.heap := hP
  have hl := lv_entry ([.ref (rd 0), .int 1, .int 6]) (n := 4) (Nat.le_of_ble_eq_true rfl)
  rw [lg_entry_eq]
  generalize (lg_sl ([.ref (rd 0), .int 1, .int 6]) ++ List.replicate (4 - (lg_sl ([.ref (rd 0), .int 1, .int 6])).length) Slot.unset).toArray = ls at hl ⊢
  have hl : lv_has ls 4 [(0, .ref (rd 0)), (1, .int 1), (2, .int 6)] := hl
  refine lv_aload_n hx hb dX5_readNumber_0 rfl (lv_at hl 0 rfl) ?_
  refine va_get (D := D) (ci := 4) (v := .int (rf 8)) (C := RX5) (T := TX5) (N := 10) hx hb hts inlX5 hown hK hP 0 rfl rfl 8 (by decide) (hts _ mw_147) (fun _ h9 => h9) rfl dX5_readNumber_1 ?_
  refine lv_iconst (v := 3) hx hb dX5_readNumber_4 (by decide) ?_
  refine lv_icmp_eq (tgt := 15) hx hb dX5_readNumber_5 (by decide) (fun c_1 => ?_) (fun c_1 => ?_)
  · have c_1 : (rf 8).toInt = 3 := ti_eq c_1
    have qc_1 : (rf 8) = 3 := ti_of (show (rf 8).toInt = 3 from by omega)
    refine lv_aload_n hx hb dX5_readNumber_15 rfl (lv_at hl 0 rfl) ?_
    refine va_get (D := D) (ci := 4) (v := .int (rf 9)) (C := RX5) (T := TX5) (N := 10) hx hb hts inlX5 hown hK hP 0 rfl rfl 9 (by decide) (hts _ mw_164) (fun _ h9 => h9) rfl dX5_readNumber_16 ?_
    refine lv_iload_n hx hb dX5_readNumber_19 rfl (lv_at hl 1 rfl) ?_
    refine lv_icmp_lt (tgt := 31) hx hb dX5_readNumber_20 (by decide) (fun c_2 => ?_) (fun c_2 => ?_)
    · have c_2 : (rf 9).toInt < 1 := ti_lt c_2
      refine lv_aload_n hx hb dX5_readNumber_31 rfl (lv_at hl 0 rfl) ?_
      refine lv_iconst (v := 3) hx hb dX5_readNumber_32 (by decide) ?_
      refine kV_uv (q0 := 0) (As := [.int 3]) (rest := []) (wr := [((rd 1), .inl (k 2, 900, .inl tf))]) ⟨hx, hb, hml, hown, hts⟩ (s_R_fail l D k _ _ rf 3 _) (gV mw_171 mw_172 mw_173 mw_15 mw_174) hd_yX5_fail rfl rfl ⟨Nat.le_of_ble_eq_true rfl, Nat.le_of_ble_eq_true rfl⟩ hK hN0 hP hD hS hA [0] [1] rfl rfl (by decide) (by decide) (by decide) rfl rfl rfl rfl hl.1 rfl (Nat.le_of_ble_eq_true rfl) dX5_readNumber_33 ⟨Nat.le_of_ble_eq_true rfl, Nat.le_of_ble_eq_true rfl⟩ (fun u_4 H locs hw hP hD hS => ?_)
      obtain ⟨v_5, v_6⟩ := u_4
      have hP : va_P D vwCl [((rd 1), .inl (k 2, 900, .inl tf)), ((rd 0), .inr (4, [.ref (rw 0), .int v_5, .int v_6, .int (rf 3), .ref (rd 1), .int (rf 5), .int (rf 6), .int (rf 7), .int 0, .int (rf 9)]))] H := hP
      have hD : va_D A [((rd 1), .inl (k 2, 900, .inl tf)), ((rd 0), .inr (4, [.ref (rw 0), .int v_5, .int v_6, .int (rf 3), .ref (rd 1), .int (rf 5), .int (rf 6), .int (rf 7), .int 0, .int (rf 9)]))] := hD
      refine lv_iload_n hx hb dX5_readNumber_36 rfl (lv_at hl 1 rfl) ?_
      exact W.iret (v := 1) hx hb hr (fun t ht hW => ⟨⟨1, ((va_seli [0, v_5, v_6, (rf 3), 0, (rf 5), (rf 6), (rf 7), 0, (rf 9)])), rfl, ⟨⟨by decide, by decide⟩, (show 0 ≤ (rf 3).toInt ∧ (rf 3).toInt ≤ 900 from ⟨by omega, by omega⟩), (show 0 ≤ (rf 5).toInt ∧ (rf 5).toInt ≤ 900 from ⟨by omega, by omega⟩), (show 0 ≤ (rf 6).toInt ∧ (rf 6).toInt ≤ 900 from ⟨by omega, by omega⟩), (show 0 ≤ (rf 7).toInt ∧ (rf 7).toInt ≤ 900 from ⟨by omega, by omega⟩), (show (rf 6).toInt ≤ (rf 7).toInt from by omega), (show (rf 7).toInt ≤ (rf 5).toInt from by omega), (show (rf 3).toInt = (rf 3).toInt from by omega)⟩, by rw [ht]; exact hP.sub [1, 0] rfl, hD.sub [1, 0] (by decide) rfl⟩, hS.F ht⟩) hS.2.2 dX5_readNumber_37
    · have c_2 : 1 ≤ (rf 9).toInt := ti_nlt c_2
      refine lv_aload_n hx hb dX5_readNumber_23 rfl (lv_at hl 0 rfl) ?_
      refine va_get (D := D) (ci := 4) (v := .int (rf 9)) (C := RX5) (T := TX5) (N := 10) hx hb hts inlX5 hown hK hP 0 rfl rfl 9 (by decide) (hts _ mw_164) (fun _ h9 => h9) rfl dX5_readNumber_24 ?_
      refine lv_iload_n hx hb dX5_readNumber_27 rfl (lv_at hl 2 rfl) ?_
      refine lv_icmp_le (tgt := 38) hx hb dX5_readNumber_28 (by decide) (fun c_7 => ?_) (fun c_7 => ?_)
      · have c_7 : (rf 9).toInt ≤ 6 := ti_le c_7
        refine lv_aload_n hx hb dX5_readNumber_38 rfl (lv_at hl 0 rfl) ?_
        refine va_get (D := D) (ci := 4) (v := .int (rf 9)) (C := RX5) (T := TX5) (N := 10) hx hb hts inlX5 hown hK hP 0 rfl rfl 9 (by decide) (hts _ mw_164) (fun _ h9 => h9) rfl dX5_readNumber_39 ?_
        refine lv_istore_n (lv' := [(3, .int (rf 9)), (0, .ref (rd 0)), (1, .int 1), (2, .int 6)]) hx hb dX5_readNumber_42 rfl hl (by decide) rfl (fun ls hl => ?_)
        refine lv_aload_n hx hb dX5_readNumber_43 rfl (lv_at hl 1 rfl) ?_
        refine kV_uv (q0 := 0) (As := []) (rest := []) (wr := []) ⟨hx, hb, hml, hown, hts⟩ (s_R_advance l D k _ _ rf tf _ (show 0 ≤ (rf 3).toInt ∧ (rf 3).toInt ≤ 900 from ⟨by omega, by omega⟩) (show 0 ≤ (rf 5).toInt ∧ (rf 5).toInt ≤ 900 from ⟨by omega, by omega⟩) (show 0 ≤ (rf 7).toInt ∧ (rf 7).toInt ≤ 900 from ⟨by omega, by omega⟩) (show (rf 7).toInt ≤ (rf 5).toInt from by omega)) (gV mw_159 mw_160 mw_161 mw_15 mw_162) hd_yX5_advance rfl rfl ⟨Nat.le_of_ble_eq_true rfl, Nat.le_of_ble_eq_true rfl⟩ hK hN0 hP hD hS hA [0, 1] [] rfl rfl (by decide) (by decide) (by decide) rfl rfl rfl rfl hl.1 rfl (Nat.le_of_ble_eq_true rfl) dX5_readNumber_44 ⟨Nat.le_of_ble_eq_true rfl, Nat.le_of_ble_eq_true rfl⟩ (fun u_9 H locs hw hP hD hS => ?_)
        obtain ⟨v_10, rfl⟩ : ∃ z, z = u_9 := ⟨_, rfl⟩
        obtain ⟨h_11, h_12, h_13, h_14, h_15, h_16, h_17⟩ := hw
        have h_11 : 0 ≤ (v_10 3).toInt ∧ (v_10 3).toInt ≤ 900 := h_11
        have h_12 : 0 ≤ (v_10 5).toInt ∧ (v_10 5).toInt ≤ 900 := h_12
        have h_13 : 0 ≤ (v_10 6).toInt ∧ (v_10 6).toInt ≤ 900 := h_13
        have h_14 : 0 ≤ (v_10 7).toInt ∧ (v_10 7).toInt ≤ 900 := h_14
        have h_15 : (v_10 6).toInt ≤ (v_10 7).toInt := h_15
        have h_16 : (v_10 7).toInt ≤ (v_10 5).toInt := h_16
        have h_17 : (v_10 3).toInt = (rf 3).toInt := h_17
        have hP : va_P D vwCl [((rd 0), .inr (4, [.ref (rw 0), .int (v_10 1), .int (v_10 2), .int (v_10 3), .ref (rd 1), .int (v_10 5), .int (v_10 6), .int (v_10 7), .int (v_10 8), .int (v_10 9)])), ((rd 1), .inl (k 2, 900, .inl tf))] H := hP
        have hD : va_D A [((rd 0), .inr (4, [.ref (rw 0), .int (v_10 1), .int (v_10 2), .int (v_10 3), .ref (rd 1), .int (v_10 5), .int (v_10 6), .int (v_10 7), .int (v_10 8), .int (v_10 9)])), ((rd 1), .inl (k 2, 900, .inl tf))] := hD
        refine lv_iload_n hx hb dX5_readNumber_47 rfl (lv_at hl 0 rfl) ?_
        exact W.iret (v := (rf 9)) hx hb hr (fun t ht hW => ⟨⟨(rf 9), ((va_seli [0, (v_10 1), (v_10 2), (v_10 3), 0, (v_10 5), (v_10 6), (v_10 7), (v_10 8), (v_10 9)])), rfl, ⟨⟨by omega, by omega⟩, (show 0 ≤ (v_10 3).toInt ∧ (v_10 3).toInt ≤ 900 from ⟨by omega, by omega⟩), (show 0 ≤ (v_10 5).toInt ∧ (v_10 5).toInt ≤ 900 from ⟨by omega, by omega⟩), (show 0 ≤ (v_10 6).toInt ∧ (v_10 6).toInt ≤ 900 from ⟨by omega, by omega⟩), (show 0 ≤ (v_10 7).toInt ∧ (v_10 7).toInt ≤ 900 from ⟨by omega, by omega⟩), (show (v_10 6).toInt ≤ (v_10 7).toInt from by omega), (show (v_10 7).toInt ≤ (v_10 5).toInt from by omega), (show (v_10 3).toInt = (rf 3).toInt from by omega)⟩, by rw [ht]; exact hP.sub [0, 1] rfl, hD.sub [0, 1] (by decide) rfl⟩, hS.F ht⟩) hS.2.2 dX5_readNumber_48
      · have c_7 : 6 < (rf 9).toInt := ti_nle c_7
        refine lv_aload_n hx hb dX5_readNumber_31 rfl (lv_at hl 0 rfl) ?_
        refine lv_iconst (v := 3) hx hb dX5_readNumber_32 (by decide) ?_
        refine kV_uv (q0 := 0) (As := [.int 3]) (rest := []) (wr := [((rd 1), .inl (k 2, 900, .inl tf))]) ⟨hx, hb, hml, hown, hts⟩ (s_R_fail l D k _ _ rf 3 _) (gV mw_171 mw_172 mw_173 mw_15 mw_174) hd_yX5_fail rfl rfl ⟨Nat.le_of_ble_eq_true rfl, Nat.le_of_ble_eq_true rfl⟩ hK hN0 hP hD hS hA [0] [1] rfl rfl (by decide) (by decide) (by decide) rfl rfl rfl rfl hl.1 rfl (Nat.le_of_ble_eq_true rfl) dX5_readNumber_33 ⟨Nat.le_of_ble_eq_true rfl, Nat.le_of_ble_eq_true rfl⟩ (fun u_19 H locs hw hP hD hS => ?_)
        obtain ⟨v_20, v_21⟩ := u_19
        have hP : va_P D vwCl [((rd 1), .inl (k 2, 900, .inl tf)), ((rd 0), .inr (4, [.ref (rw 0), .int v_20, .int v_21, .int (rf 3), .ref (rd 1), .int (rf 5), .int (rf 6), .int (rf 7), .int 0, .int (rf 9)]))] H := hP
        have hD : va_D A [((rd 1), .inl (k 2, 900, .inl tf)), ((rd 0), .inr (4, [.ref (rw 0), .int v_20, .int v_21, .int (rf 3), .ref (rd 1), .int (rf 5), .int (rf 6), .int (rf 7), .int 0, .int (rf 9)]))] := hD
        refine lv_iload_n hx hb dX5_readNumber_36 rfl (lv_at hl 1 rfl) ?_
        exact W.iret (v := 1) hx hb hr (fun t ht hW => ⟨⟨1, ((va_seli [0, v_20, v_21, (rf 3), 0, (rf 5), (rf 6), (rf 7), 0, (rf 9)])), rfl, ⟨⟨by decide, by decide⟩, (show 0 ≤ (rf 3).toInt ∧ (rf 3).toInt ≤ 900 from ⟨by omega, by omega⟩), (show 0 ≤ (rf 5).toInt ∧ (rf 5).toInt ≤ 900 from ⟨by omega, by omega⟩), (show 0 ≤ (rf 6).toInt ∧ (rf 6).toInt ≤ 900 from ⟨by omega, by omega⟩), (show 0 ≤ (rf 7).toInt ∧ (rf 7).toInt ≤ 900 from ⟨by omega, by omega⟩), (show (rf 6).toInt ≤ (rf 7).toInt from by omega), (show (rf 7).toInt ≤ (rf 5).toInt from by omega), (show (rf 3).toInt = (rf 3).toInt from by omega)⟩, by rw [ht]; exact hP.sub [1, 0] rfl, hD.sub [1, 0] (by decide) rfl⟩, hS.F ht⟩) hS.2.2 dX5_readNumber_37
  · have c_1 : (rf 8).toInt ≠ 3 := ti_ne c_1
    refine lv_aload_n hx hb dX5_readNumber_8 rfl (lv_at hl 0 rfl) ?_
    refine lv_iconst (v := 2) hx hb dX5_readNumber_9 (by decide) ?_
    refine kV_uv (q0 := 0) (As := [.int 2]) (rest := []) (wr := [((rd 1), .inl (k 2, 900, .inl tf))]) ⟨hx, hb, hml, hown, hts⟩ (s_R_fail l D k _ _ rf 2 _) (gV mw_171 mw_172 mw_173 mw_15 mw_174) hd_yX5_fail rfl rfl ⟨Nat.le_of_ble_eq_true rfl, Nat.le_of_ble_eq_true rfl⟩ hK hN0 hP hD hS hA [0] [1] rfl rfl (by decide) (by decide) (by decide) rfl rfl rfl rfl hl.1 rfl (Nat.le_of_ble_eq_true rfl) dX5_readNumber_10 ⟨Nat.le_of_ble_eq_true rfl, Nat.le_of_ble_eq_true rfl⟩ (fun u_23 H locs hw hP hD hS => ?_)
    obtain ⟨v_24, v_25⟩ := u_23
    have hP : va_P D vwCl [((rd 1), .inl (k 2, 900, .inl tf)), ((rd 0), .inr (4, [.ref (rw 0), .int v_24, .int v_25, .int (rf 3), .ref (rd 1), .int (rf 5), .int (rf 6), .int (rf 7), .int 0, .int (rf 9)]))] H := hP
    have hD : va_D A [((rd 1), .inl (k 2, 900, .inl tf)), ((rd 0), .inr (4, [.ref (rw 0), .int v_24, .int v_25, .int (rf 3), .ref (rd 1), .int (rf 5), .int (rf 6), .int (rf 7), .int 0, .int (rf 9)]))] := hD
    refine lv_iload_n hx hb dX5_readNumber_13 rfl (lv_at hl 1 rfl) ?_
    exact W.iret (v := 1) hx hb hr (fun t ht hW => ⟨⟨1, ((va_seli [0, v_24, v_25, (rf 3), 0, (rf 5), (rf 6), (rf 7), 0, (rf 9)])), rfl, ⟨⟨by decide, by decide⟩, (show 0 ≤ (rf 3).toInt ∧ (rf 3).toInt ≤ 900 from ⟨by omega, by omega⟩), (show 0 ≤ (rf 5).toInt ∧ (rf 5).toInt ≤ 900 from ⟨by omega, by omega⟩), (show 0 ≤ (rf 6).toInt ∧ (rf 6).toInt ≤ 900 from ⟨by omega, by omega⟩), (show 0 ≤ (rf 7).toInt ∧ (rf 7).toInt ≤ 900 from ⟨by omega, by omega⟩), (show (rf 6).toInt ≤ (rf 7).toInt from by omega), (show (rf 7).toInt ≤ (rf 5).toInt from by omega), (show (rf 3).toInt = (rf 3).toInt from by omega)⟩, by rw [ht]; exact hP.sub [1, 0] rfl, hD.sub [1, 0] (by decide) rfl⟩, hS.F ht⟩) hS.2.2 dX5_readNumber_14
set_option maxHeartbeats 4000000 in
set_option maxRecDepth 100000 in
theorem s_R_readNumber (l : Launch) (D : va_G) (k : Nat → ClassId) (rd : Nat → Nat) (rw : Nat → Nat) (rf : Nat → Int32) (tf : Nat → Int32) (x : Int32) (z : Int32) (sz : Nat) (w_r3 : 0 ≤ (rf 3).toInt ∧ (rf 3).toInt ≤ 900) (w_r5 : 0 ≤ (rf 5).toInt ∧ (rf 5).toInt ≤ 900) (w_r6 : 0 ≤ (rf 6).toInt ∧ (rf 6).toInt ≤ 900) (w_r7 : 0 ≤ (rf 7).toInt ∧ (rf 7).toInt ≤ 900) (w_rl0 : (rf 6).toInt ≤ (rf 7).toInt) (w_rl1 : (rf 7).toInt ≤ (rf 5).toInt) : Met l yX5_readNumber (Cond.code yX5_readNumber cX5_readNumber 4 (some .int) :: wsL_law) ({ frames := 2, cells := 0, slots := 0, locals := 120 } : Room) (va_Pc [.ref (rd 0), .int x, .int z] (pu D k sz [((rd 0), .inr (4, [.ref (rw 0), .int (rf 1), .int (rf 2), .int (rf 3), .ref (rd 1), .int (rf 5), .int (rf 6), .int (rf 7), .int (rf 8), .int (rf 9)])), ((rd 1), .inl (k 2, 900, .inl tf))])) (va_Qi (fun rr (uu : Nat → Int32) => (True) ∧ (0 ≤ (uu 3).toInt ∧ (uu 3).toInt ≤ 900) ∧ (0 ≤ (uu 5).toInt ∧ (uu 5).toInt ≤ 900) ∧ (0 ≤ (uu 6).toInt ∧ (uu 6).toInt ≤ 900) ∧ (0 ≤ (uu 7).toInt ∧ (uu 7).toInt ≤ 900) ∧ ((uu 6).toInt ≤ (uu 7).toInt) ∧ ((uu 7).toInt ≤ (uu 5).toInt) ∧ ((uu 3).toInt = (rf 3).toInt)) (qu D (va_A [((rd 0), .inr (4, [.ref (rw 0), .int (rf 1), .int (rf 2), .int (rf 3), .ref (rd 1), .int (rf 5), .int (rf 6), .int (rf 7), .int (rf 8), .int (rf 9)])), ((rd 1), .inl (k 2, 900, .inl tf))] sz) (fun uu : Nat → Int32 => [((rd 0), .inr (4, [.ref (rw 0), .int (uu 1), .int (uu 2), .int (uu 3), .ref (rd 1), .int (uu 5), .int (uu 6), .int (uu 7), .int (uu 8), .int (uu 9)])), ((rd 1), .inl (k 2, 900, .inl tf))])) (va_A [((rd 0), .inr (4, [.ref (rw 0), .int (rf 1), .int (rf 2), .int (rf 3), .ref (rd 1), .int (rf 5), .int (rf 6), .int (rf 7), .int (rf 8), .int (rf 9)])), ((rd 1), .inl (k 2, 900, .inl tf))] sz)) 0 0 (va_A [((rd 0), .inr (4, [.ref (rw 0), .int (rf 1), .int (rf 2), .int (rf 3), .ref (rd 1), .int (rf 5), .int (rf 6), .int (rf 7), .int (rf 8), .int (rf 9)])), ((rd 1), .inl (k 2, 900, .inl tf))] sz) := by
  refine Met.ofW (cc := cX5_readNumber) (maxL := 4) (ret := (some .int)) (by decide) rfl ?_
  intro p e s m args below meth c s₁ B hml hv
  obtain ⟨rfl, hsz, hP, hK, hD0, hN0⟩ := hv
  have hx := B.exec
  have hb := B.bytes
  have hr := B.returns
  have hts : ∀ w ∈ wsL_law, w.before _ s = true := fun w h => atoms_spec (ws := Cond.code yX5_readNumber cX5_readNumber 4 (some .int) :: wsL_law) B.pre w (List.mem_cons_of_mem _ h)
  have hown : s.vm.findClass RX5 = some m.cls := findClass_of_methodNamed B.named
  have hlocks := B.notSynchronized
  subst hsz
  have hD := hD0.self (sz := s.heap.size)
  generalize hAe : va_A [((rd 0), .inr (4, [.ref (rw 0), .int (rf 1), .int (rf 2), .int (rf 3), .ref (rd 1), .int (rf 5), .int (rf 6), .int (rf 7), .int (rf 8), .int (rf 9)])), ((rd 1), .inl (k 2, 900, .inl tf))] s.heap.size = A at hD ⊢
  have hA : ∀ q : Nat, s.heap.size ≤ q → A q := fun q h => by rw [← hAe]; exact Or.inr h
  have hS : va_S A s.heap s.heap [] := va_S.rf
  have hP : va_P D vwCl [((rd 0), .inr (4, [.ref (rw 0), .int (rf 1), .int (rf 2), .int (rf 3), .ref (rd 1), .int (rf 5), .int (rf 6), .int (rf 7), .int (rf 8), .int (rf 9)])), ((rd 1), .inl (k 2, 900, .inl tf))] s.heap := hP
  have hl := lv_entry ([.ref (rd 0), .int x, .int z]) (n := 4) (Nat.le_of_ble_eq_true rfl)
  rw [lg_entry_eq]
  generalize (lg_sl ([.ref (rd 0), .int x, .int z]) ++ List.replicate (4 - (lg_sl ([.ref (rd 0), .int x, .int z])).length) Slot.unset).toArray = ls at hl ⊢
  have hl : lv_has ls 4 [(0, .ref (rd 0)), (1, .int x), (2, .int z)] := hl
  refine lv_aload_n hx hb dX5_readNumber_0 rfl (lv_at hl 0 rfl) ?_
  refine va_get (D := D) (ci := 4) (v := .int (rf 8)) (C := RX5) (T := TX5) (N := 10) hx hb hts inlX5 hown hK hP 0 rfl rfl 8 (by decide) (hts _ mw_147) (fun _ h9 => h9) rfl dX5_readNumber_1 ?_
  refine lv_iconst (v := 3) hx hb dX5_readNumber_4 (by decide) ?_
  refine lv_icmp_eq (tgt := 15) hx hb dX5_readNumber_5 (by decide) (fun c_1 => ?_) (fun c_1 => ?_)
  · have c_1 : (rf 8).toInt = 3 := ti_eq c_1
    have qc_1 : (rf 8) = 3 := ti_of (show (rf 8).toInt = 3 from by omega)
    refine lv_aload_n hx hb dX5_readNumber_15 rfl (lv_at hl 0 rfl) ?_
    refine va_get (D := D) (ci := 4) (v := .int (rf 9)) (C := RX5) (T := TX5) (N := 10) hx hb hts inlX5 hown hK hP 0 rfl rfl 9 (by decide) (hts _ mw_164) (fun _ h9 => h9) rfl dX5_readNumber_16 ?_
    refine lv_iload_n hx hb dX5_readNumber_19 rfl (lv_at hl 1 rfl) ?_
    refine lv_icmp_lt (tgt := 31) hx hb dX5_readNumber_20 (by decide) (fun c_2 => ?_) (fun c_2 => ?_)
    · have c_2 : (rf 9).toInt < x.toInt := ti_lt c_2
      refine lv_aload_n hx hb dX5_readNumber_31 rfl (lv_at hl 0 rfl) ?_
      refine lv_iconst (v := 3) hx hb dX5_readNumber_32 (by decide) ?_
      refine kV_uv (q0 := 0) (As := [.int 3]) (rest := []) (wr := [((rd 1), .inl (k 2, 900, .inl tf))]) ⟨hx, hb, hml, hown, hts⟩ (s_R_fail l D k _ _ rf 3 _) (gV mw_171 mw_172 mw_173 mw_15 mw_174) hd_yX5_fail rfl rfl ⟨Nat.le_of_ble_eq_true rfl, Nat.le_of_ble_eq_true rfl⟩ hK hN0 hP hD hS hA [0] [1] rfl rfl (by decide) (by decide) (by decide) rfl rfl rfl rfl hl.1 rfl (Nat.le_of_ble_eq_true rfl) dX5_readNumber_33 ⟨Nat.le_of_ble_eq_true rfl, Nat.le_of_ble_eq_true rfl⟩ (fun u_4 H locs hw hP hD hS => ?_)
      obtain ⟨v_5, v_6⟩ := u_4
      have hP : va_P D vwCl [((rd 1), .inl (k 2, 900, .inl tf)), ((rd 0), .inr (4, [.ref (rw 0), .int v_5, .int v_6, .int (rf 3), .ref (rd 1), .int (rf 5), .int (rf 6), .int (rf 7), .int 0, .int (rf 9)]))] H := hP
      have hD : va_D A [((rd 1), .inl (k 2, 900, .inl tf)), ((rd 0), .inr (4, [.ref (rw 0), .int v_5, .int v_6, .int (rf 3), .ref (rd 1), .int (rf 5), .int (rf 6), .int (rf 7), .int 0, .int (rf 9)]))] := hD
      refine lv_iload_n hx hb dX5_readNumber_36 rfl (lv_at hl 1 rfl) ?_
      exact W.iret (v := x) hx hb hr (fun t ht hW => ⟨⟨x, ((va_seli [0, v_5, v_6, (rf 3), 0, (rf 5), (rf 6), (rf 7), 0, (rf 9)])), rfl, ⟨trivial, (show 0 ≤ (rf 3).toInt ∧ (rf 3).toInt ≤ 900 from ⟨by omega, by omega⟩), (show 0 ≤ (rf 5).toInt ∧ (rf 5).toInt ≤ 900 from ⟨by omega, by omega⟩), (show 0 ≤ (rf 6).toInt ∧ (rf 6).toInt ≤ 900 from ⟨by omega, by omega⟩), (show 0 ≤ (rf 7).toInt ∧ (rf 7).toInt ≤ 900 from ⟨by omega, by omega⟩), (show (rf 6).toInt ≤ (rf 7).toInt from by omega), (show (rf 7).toInt ≤ (rf 5).toInt from by omega), (show (rf 3).toInt = (rf 3).toInt from by omega)⟩, by rw [ht]; exact hP.sub [1, 0] rfl, hD.sub [1, 0] (by decide) rfl⟩, hS.F ht⟩) hS.2.2 dX5_readNumber_37
    · have c_2 : x.toInt ≤ (rf 9).toInt := ti_nlt c_2
      refine lv_aload_n hx hb dX5_readNumber_23 rfl (lv_at hl 0 rfl) ?_
      refine va_get (D := D) (ci := 4) (v := .int (rf 9)) (C := RX5) (T := TX5) (N := 10) hx hb hts inlX5 hown hK hP 0 rfl rfl 9 (by decide) (hts _ mw_164) (fun _ h9 => h9) rfl dX5_readNumber_24 ?_
      refine lv_iload_n hx hb dX5_readNumber_27 rfl (lv_at hl 2 rfl) ?_
      refine lv_icmp_le (tgt := 38) hx hb dX5_readNumber_28 (by decide) (fun c_7 => ?_) (fun c_7 => ?_)
      · have c_7 : (rf 9).toInt ≤ z.toInt := ti_le c_7
        refine lv_aload_n hx hb dX5_readNumber_38 rfl (lv_at hl 0 rfl) ?_
        refine va_get (D := D) (ci := 4) (v := .int (rf 9)) (C := RX5) (T := TX5) (N := 10) hx hb hts inlX5 hown hK hP 0 rfl rfl 9 (by decide) (hts _ mw_164) (fun _ h9 => h9) rfl dX5_readNumber_39 ?_
        refine lv_istore_n (lv' := [(3, .int (rf 9)), (0, .ref (rd 0)), (1, .int x), (2, .int z)]) hx hb dX5_readNumber_42 rfl hl (by decide) rfl (fun ls hl => ?_)
        refine lv_aload_n hx hb dX5_readNumber_43 rfl (lv_at hl 1 rfl) ?_
        refine kV_uv (q0 := 0) (As := []) (rest := []) (wr := []) ⟨hx, hb, hml, hown, hts⟩ (s_R_advance l D k _ _ rf tf _ (show 0 ≤ (rf 3).toInt ∧ (rf 3).toInt ≤ 900 from ⟨by omega, by omega⟩) (show 0 ≤ (rf 5).toInt ∧ (rf 5).toInt ≤ 900 from ⟨by omega, by omega⟩) (show 0 ≤ (rf 7).toInt ∧ (rf 7).toInt ≤ 900 from ⟨by omega, by omega⟩) (show (rf 7).toInt ≤ (rf 5).toInt from by omega)) (gV mw_159 mw_160 mw_161 mw_15 mw_162) hd_yX5_advance rfl rfl ⟨Nat.le_of_ble_eq_true rfl, Nat.le_of_ble_eq_true rfl⟩ hK hN0 hP hD hS hA [0, 1] [] rfl rfl (by decide) (by decide) (by decide) rfl rfl rfl rfl hl.1 rfl (Nat.le_of_ble_eq_true rfl) dX5_readNumber_44 ⟨Nat.le_of_ble_eq_true rfl, Nat.le_of_ble_eq_true rfl⟩ (fun u_9 H locs hw hP hD hS => ?_)
        obtain ⟨v_10, rfl⟩ : ∃ z, z = u_9 := ⟨_, rfl⟩
        obtain ⟨h_11, h_12, h_13, h_14, h_15, h_16, h_17⟩ := hw
        have h_11 : 0 ≤ (v_10 3).toInt ∧ (v_10 3).toInt ≤ 900 := h_11
        have h_12 : 0 ≤ (v_10 5).toInt ∧ (v_10 5).toInt ≤ 900 := h_12
        have h_13 : 0 ≤ (v_10 6).toInt ∧ (v_10 6).toInt ≤ 900 := h_13
        have h_14 : 0 ≤ (v_10 7).toInt ∧ (v_10 7).toInt ≤ 900 := h_14
        have h_15 : (v_10 6).toInt ≤ (v_10 7).toInt := h_15
        have h_16 : (v_10 7).toInt ≤ (v_10 5).toInt := h_16
        have h_17 : (v_10 3).toInt = (rf 3).toInt := h_17
        have hP : va_P D vwCl [((rd 0), .inr (4, [.ref (rw 0), .int (v_10 1), .int (v_10 2), .int (v_10 3), .ref (rd 1), .int (v_10 5), .int (v_10 6), .int (v_10 7), .int (v_10 8), .int (v_10 9)])), ((rd 1), .inl (k 2, 900, .inl tf))] H := hP
        have hD : va_D A [((rd 0), .inr (4, [.ref (rw 0), .int (v_10 1), .int (v_10 2), .int (v_10 3), .ref (rd 1), .int (v_10 5), .int (v_10 6), .int (v_10 7), .int (v_10 8), .int (v_10 9)])), ((rd 1), .inl (k 2, 900, .inl tf))] := hD
        refine lv_iload_n hx hb dX5_readNumber_47 rfl (lv_at hl 0 rfl) ?_
        exact W.iret (v := (rf 9)) hx hb hr (fun t ht hW => ⟨⟨(rf 9), ((va_seli [0, (v_10 1), (v_10 2), (v_10 3), 0, (v_10 5), (v_10 6), (v_10 7), (v_10 8), (v_10 9)])), rfl, ⟨trivial, (show 0 ≤ (v_10 3).toInt ∧ (v_10 3).toInt ≤ 900 from ⟨by omega, by omega⟩), (show 0 ≤ (v_10 5).toInt ∧ (v_10 5).toInt ≤ 900 from ⟨by omega, by omega⟩), (show 0 ≤ (v_10 6).toInt ∧ (v_10 6).toInt ≤ 900 from ⟨by omega, by omega⟩), (show 0 ≤ (v_10 7).toInt ∧ (v_10 7).toInt ≤ 900 from ⟨by omega, by omega⟩), (show (v_10 6).toInt ≤ (v_10 7).toInt from by omega), (show (v_10 7).toInt ≤ (v_10 5).toInt from by omega), (show (v_10 3).toInt = (rf 3).toInt from by omega)⟩, by rw [ht]; exact hP.sub [0, 1] rfl, hD.sub [0, 1] (by decide) rfl⟩, hS.F ht⟩) hS.2.2 dX5_readNumber_48
      · have c_7 : z.toInt < (rf 9).toInt := ti_nle c_7
        refine lv_aload_n hx hb dX5_readNumber_31 rfl (lv_at hl 0 rfl) ?_
        refine lv_iconst (v := 3) hx hb dX5_readNumber_32 (by decide) ?_
        refine kV_uv (q0 := 0) (As := [.int 3]) (rest := []) (wr := [((rd 1), .inl (k 2, 900, .inl tf))]) ⟨hx, hb, hml, hown, hts⟩ (s_R_fail l D k _ _ rf 3 _) (gV mw_171 mw_172 mw_173 mw_15 mw_174) hd_yX5_fail rfl rfl ⟨Nat.le_of_ble_eq_true rfl, Nat.le_of_ble_eq_true rfl⟩ hK hN0 hP hD hS hA [0] [1] rfl rfl (by decide) (by decide) (by decide) rfl rfl rfl rfl hl.1 rfl (Nat.le_of_ble_eq_true rfl) dX5_readNumber_33 ⟨Nat.le_of_ble_eq_true rfl, Nat.le_of_ble_eq_true rfl⟩ (fun u_19 H locs hw hP hD hS => ?_)
        obtain ⟨v_20, v_21⟩ := u_19
        have hP : va_P D vwCl [((rd 1), .inl (k 2, 900, .inl tf)), ((rd 0), .inr (4, [.ref (rw 0), .int v_20, .int v_21, .int (rf 3), .ref (rd 1), .int (rf 5), .int (rf 6), .int (rf 7), .int 0, .int (rf 9)]))] H := hP
        have hD : va_D A [((rd 1), .inl (k 2, 900, .inl tf)), ((rd 0), .inr (4, [.ref (rw 0), .int v_20, .int v_21, .int (rf 3), .ref (rd 1), .int (rf 5), .int (rf 6), .int (rf 7), .int 0, .int (rf 9)]))] := hD
        refine lv_iload_n hx hb dX5_readNumber_36 rfl (lv_at hl 1 rfl) ?_
        exact W.iret (v := x) hx hb hr (fun t ht hW => ⟨⟨x, ((va_seli [0, v_20, v_21, (rf 3), 0, (rf 5), (rf 6), (rf 7), 0, (rf 9)])), rfl, ⟨trivial, (show 0 ≤ (rf 3).toInt ∧ (rf 3).toInt ≤ 900 from ⟨by omega, by omega⟩), (show 0 ≤ (rf 5).toInt ∧ (rf 5).toInt ≤ 900 from ⟨by omega, by omega⟩), (show 0 ≤ (rf 6).toInt ∧ (rf 6).toInt ≤ 900 from ⟨by omega, by omega⟩), (show 0 ≤ (rf 7).toInt ∧ (rf 7).toInt ≤ 900 from ⟨by omega, by omega⟩), (show (rf 6).toInt ≤ (rf 7).toInt from by omega), (show (rf 7).toInt ≤ (rf 5).toInt from by omega), (show (rf 3).toInt = (rf 3).toInt from by omega)⟩, by rw [ht]; exact hP.sub [1, 0] rfl, hD.sub [1, 0] (by decide) rfl⟩, hS.F ht⟩) hS.2.2 dX5_readNumber_37
  · have c_1 : (rf 8).toInt ≠ 3 := ti_ne c_1
    refine lv_aload_n hx hb dX5_readNumber_8 rfl (lv_at hl 0 rfl) ?_
    refine lv_iconst (v := 2) hx hb dX5_readNumber_9 (by decide) ?_
    refine kV_uv (q0 := 0) (As := [.int 2]) (rest := []) (wr := [((rd 1), .inl (k 2, 900, .inl tf))]) ⟨hx, hb, hml, hown, hts⟩ (s_R_fail l D k _ _ rf 2 _) (gV mw_171 mw_172 mw_173 mw_15 mw_174) hd_yX5_fail rfl rfl ⟨Nat.le_of_ble_eq_true rfl, Nat.le_of_ble_eq_true rfl⟩ hK hN0 hP hD hS hA [0] [1] rfl rfl (by decide) (by decide) (by decide) rfl rfl rfl rfl hl.1 rfl (Nat.le_of_ble_eq_true rfl) dX5_readNumber_10 ⟨Nat.le_of_ble_eq_true rfl, Nat.le_of_ble_eq_true rfl⟩ (fun u_23 H locs hw hP hD hS => ?_)
    obtain ⟨v_24, v_25⟩ := u_23
    have hP : va_P D vwCl [((rd 1), .inl (k 2, 900, .inl tf)), ((rd 0), .inr (4, [.ref (rw 0), .int v_24, .int v_25, .int (rf 3), .ref (rd 1), .int (rf 5), .int (rf 6), .int (rf 7), .int 0, .int (rf 9)]))] H := hP
    have hD : va_D A [((rd 1), .inl (k 2, 900, .inl tf)), ((rd 0), .inr (4, [.ref (rw 0), .int v_24, .int v_25, .int (rf 3), .ref (rd 1), .int (rf 5), .int (rf 6), .int (rf 7), .int 0, .int (rf 9)]))] := hD
    refine lv_iload_n hx hb dX5_readNumber_13 rfl (lv_at hl 1 rfl) ?_
    exact W.iret (v := x) hx hb hr (fun t ht hW => ⟨⟨x, ((va_seli [0, v_24, v_25, (rf 3), 0, (rf 5), (rf 6), (rf 7), 0, (rf 9)])), rfl, ⟨trivial, (show 0 ≤ (rf 3).toInt ∧ (rf 3).toInt ≤ 900 from ⟨by omega, by omega⟩), (show 0 ≤ (rf 5).toInt ∧ (rf 5).toInt ≤ 900 from ⟨by omega, by omega⟩), (show 0 ≤ (rf 6).toInt ∧ (rf 6).toInt ≤ 900 from ⟨by omega, by omega⟩), (show 0 ≤ (rf 7).toInt ∧ (rf 7).toInt ≤ 900 from ⟨by omega, by omega⟩), (show (rf 6).toInt ≤ (rf 7).toInt from by omega), (show (rf 7).toInt ≤ (rf 5).toInt from by omega), (show (rf 3).toInt = (rf 3).toInt from by omega)⟩, by rw [ht]; exact hP.sub [1, 0] rfl, hD.sub [1, 0] (by decide) rfl⟩, hS.F ht⟩) hS.2.2 dX5_readNumber_14
set_option maxHeartbeats 4000000 in
set_option maxRecDepth 100000 in
theorem s_R_endLine (l : Launch) (D : va_G) (k : Nat → ClassId) (rd : Nat → Nat) (rw : Nat → Nat) (rf : Nat → Int32) (tf : Nat → Int32) (y : Nat → Int32) (sz : Nat) (w_r3 : 0 ≤ (rf 3).toInt ∧ (rf 3).toInt ≤ 900) (w_r5 : 0 ≤ (rf 5).toInt ∧ (rf 5).toInt ≤ 900) (w_r6 : 0 ≤ (rf 6).toInt ∧ (rf 6).toInt ≤ 900) (w_r7 : 0 ≤ (rf 7).toInt ∧ (rf 7).toInt ≤ 900) (w_rl0 : (rf 6).toInt ≤ (rf 7).toInt) (w_rl1 : (rf 7).toInt ≤ (rf 5).toInt) (w_h0 : 0 ≤ (y 0).toInt ∧ (y 0).toInt ≤ 10) (w_h2 : 0 ≤ (y 2).toInt ∧ (y 2).toInt ≤ 6) (w_h6 : 0 ≤ (y 6).toInt ∧ (y 6).toInt ≤ 1) : Met l yX5_endLine (Cond.code yX5_endLine cX5_endLine 1 none :: wsL_law) ({ frames := 2, cells := 0, slots := 0, locals := 120 } : Room) (va_Pc [.ref (rd 0)] (pu D k sz [((rd 0), .inr (4, [.ref (rw 0), .int (rf 1), .int (rf 2), .int (rf 3), .ref (rd 1), .int (rf 5), .int (rf 6), .int (rf 7), .int (rf 8), .int (rf 9)])), ((rd 1), .inl (k 2, 900, .inl tf)), ((rw 0), .inr (5, [.int (y 0), .int (y 1), .int (y 2), .int (y 3), .int (y 4), .int (y 5), .int (y 6), .int (y 7), .int (y 8), .int (y 9), .int (y 10), .ref (rw 1), .ref (rw 2), .ref (rw 3), .ref (rw 4), .ref (rw 5)]))])) (va_Qv (fun uu : (Nat → Int32) × (Nat → Int32) => (0 ≤ (uu.1 3).toInt ∧ (uu.1 3).toInt ≤ 900) ∧ (0 ≤ (uu.1 5).toInt ∧ (uu.1 5).toInt ≤ 900) ∧ (0 ≤ (uu.1 6).toInt ∧ (uu.1 6).toInt ≤ 900) ∧ (0 ≤ (uu.1 7).toInt ∧ (uu.1 7).toInt ≤ 900) ∧ ((uu.1 6).toInt ≤ (uu.1 7).toInt) ∧ ((uu.1 7).toInt ≤ (uu.1 5).toInt) ∧ ((uu.1 3).toInt = (rf 3).toInt) ∧ (0 ≤ (uu.2 0).toInt ∧ (uu.2 0).toInt ≤ 10) ∧ (0 ≤ (uu.2 2).toInt ∧ (uu.2 2).toInt ≤ 6) ∧ (0 ≤ (uu.2 6).toInt ∧ (uu.2 6).toInt ≤ 1)) (qu D (va_A [((rd 0), .inr (4, [.ref (rw 0), .int (rf 1), .int (rf 2), .int (rf 3), .ref (rd 1), .int (rf 5), .int (rf 6), .int (rf 7), .int (rf 8), .int (rf 9)])), ((rd 1), .inl (k 2, 900, .inl tf)), ((rw 0), .inr (5, [.int (y 0), .int (y 1), .int (y 2), .int (y 3), .int (y 4), .int (y 5), .int (y 6), .int (y 7), .int (y 8), .int (y 9), .int (y 10), .ref (rw 1), .ref (rw 2), .ref (rw 3), .ref (rw 4), .ref (rw 5)]))] sz) (fun uu : (Nat → Int32) × (Nat → Int32) => [((rd 0), .inr (4, [.ref (rw 0), .int (uu.1 1), .int (uu.1 2), .int (uu.1 3), .ref (rd 1), .int (uu.1 5), .int (uu.1 6), .int (uu.1 7), .int (uu.1 8), .int (uu.1 9)])), ((rd 1), .inl (k 2, 900, .inl tf)), ((rw 0), .inr (5, [.int (uu.2 0), .int (uu.2 1), .int (uu.2 2), .int (uu.2 3), .int (uu.2 4), .int (uu.2 5), .int (uu.2 6), .int (uu.2 7), .int (uu.2 8), .int (uu.2 9), .int (uu.2 10), .ref (rw 1), .ref (rw 2), .ref (rw 3), .ref (rw 4), .ref (rw 5)]))])) (va_A [((rd 0), .inr (4, [.ref (rw 0), .int (rf 1), .int (rf 2), .int (rf 3), .ref (rd 1), .int (rf 5), .int (rf 6), .int (rf 7), .int (rf 8), .int (rf 9)])), ((rd 1), .inl (k 2, 900, .inl tf)), ((rw 0), .inr (5, [.int (y 0), .int (y 1), .int (y 2), .int (y 3), .int (y 4), .int (y 5), .int (y 6), .int (y 7), .int (y 8), .int (y 9), .int (y 10), .ref (rw 1), .ref (rw 2), .ref (rw 3), .ref (rw 4), .ref (rw 5)]))] sz)) 0 0 (va_A [((rd 0), .inr (4, [.ref (rw 0), .int (rf 1), .int (rf 2), .int (rf 3), .ref (rd 1), .int (rf 5), .int (rf 6), .int (rf 7), .int (rf 8), .int (rf 9)])), ((rd 1), .inl (k 2, 900, .inl tf)), ((rw 0), .inr (5, [.int (y 0), .int (y 1), .int (y 2), .int (y 3), .int (y 4), .int (y 5), .int (y 6), .int (y 7), .int (y 8), .int (y 9), .int (y 10), .ref (rw 1), .ref (rw 2), .ref (rw 3), .ref (rw 4), .ref (rw 5)]))] sz) := by
  refine Met.ofW (cc := cX5_endLine) (maxL := 1) (ret := none) (by decide) rfl ?_
  intro p e s m args below meth c s₁ B hml hv
  obtain ⟨rfl, hsz, hP, hK, hD0, hN0⟩ := hv
  have hx := B.exec
  have hb := B.bytes
  have hr := B.returns
  have hts : ∀ w ∈ wsL_law, w.before _ s = true := fun w h => atoms_spec (ws := Cond.code yX5_endLine cX5_endLine 1 none :: wsL_law) B.pre w (List.mem_cons_of_mem _ h)
  have hown : s.vm.findClass RX5 = some m.cls := findClass_of_methodNamed B.named
  have hlocks := B.notSynchronized
  subst hsz
  have hD := hD0.self (sz := s.heap.size)
  generalize hAe : va_A [((rd 0), .inr (4, [.ref (rw 0), .int (rf 1), .int (rf 2), .int (rf 3), .ref (rd 1), .int (rf 5), .int (rf 6), .int (rf 7), .int (rf 8), .int (rf 9)])), ((rd 1), .inl (k 2, 900, .inl tf)), ((rw 0), .inr (5, [.int (y 0), .int (y 1), .int (y 2), .int (y 3), .int (y 4), .int (y 5), .int (y 6), .int (y 7), .int (y 8), .int (y 9), .int (y 10), .ref (rw 1), .ref (rw 2), .ref (rw 3), .ref (rw 4), .ref (rw 5)]))] s.heap.size = A at hD ⊢
  have hA : ∀ q : Nat, s.heap.size ≤ q → A q := fun q h => by rw [← hAe]; exact Or.inr h
  have hS : va_S A s.heap s.heap [] := va_S.rf
  have hP : va_P D vwCl [((rd 0), .inr (4, [.ref (rw 0), .int (rf 1), .int (rf 2), .int (rf 3), .ref (rd 1), .int (rf 5), .int (rf 6), .int (rf 7), .int (rf 8), .int (rf 9)])), ((rd 1), .inl (k 2, 900, .inl tf)), ((rw 0), .inr (5, [.int (y 0), .int (y 1), .int (y 2), .int (y 3), .int (y 4), .int (y 5), .int (y 6), .int (y 7), .int (y 8), .int (y 9), .int (y 10), .ref (rw 1), .ref (rw 2), .ref (rw 3), .ref (rw 4), .ref (rw 5)]))] s.heap := hP
  have hl := lv_entry ([.ref (rd 0)]) (n := 1) (Nat.le_of_ble_eq_true rfl)
  rw [lg_entry_eq]
  generalize (lg_sl ([.ref (rd 0)]) ++ List.replicate (1 - (lg_sl ([.ref (rd 0)])).length) Slot.unset).toArray = ls at hl ⊢
  have hl : lv_has ls 1 [(0, .ref (rd 0))] := hl
  refine lv_aload_n hx hb dX5_endLine_0 rfl (lv_at hl 0 rfl) ?_
  refine va_get (D := D) (ci := 4) (v := .int (rf 8)) (C := RX5) (T := TX5) (N := 10) hx hb hts inlX5 hown hK hP 0 rfl rfl 8 (by decide) (hts _ mw_147) (fun _ h9 => h9) rfl dX5_endLine_1 ?_
  refine lv_iconst (v := 2) hx hb dX5_endLine_4 (by decide) ?_
  refine lv_icmp_eq (tgt := 14) hx hb dX5_endLine_5 (by decide) (fun c_1 => ?_) (fun c_1 => ?_)
  · have c_1 : (rf 8).toInt = 2 := ti_eq c_1
    have qc_1 : (rf 8) = 2 := ti_of (show (rf 8).toInt = 2 from by omega)
    refine lv_aload_n hx hb dX5_endLine_14 rfl (lv_at hl 0 rfl) ?_
    refine va_get (D := D) (ci := 4) (v := .ref (rw 0)) (C := RX5) (T := TX5) (N := 10) hx hb hts inlX5 hown hK hP 0 rfl rfl 0 (by decide) (hts _ mw_47) (fun _ h9 => h9) rfl dX5_endLine_15 ?_
    refine lv_dup hx hb dX5_endLine_18 rfl ?_
    refine va_get (D := D) (ci := 5) (v := .int (y 9)) (C := RX6) (T := TX6) (N := 16) hx hb hts inlX6 hown hK hP 2 rfl rfl 9 (by decide) (hts _ mw_274) (fun _ h9 => h9) rfl dX5_endLine_19 ?_
    refine lv_iconst (v := 1) hx hb dX5_endLine_22 (by decide) ?_
    refine lv_iadd hx hb dX5_endLine_23 ?_
    refine lv_topi (fun z_2 ez_2 => ?_)
    refine va_put (D := D) (ci := 5) (v := .int z_2) (ty := .int) (C := RX6) (T := TX6) (N := 16) hx hb hts inlX6 tyX6 tyX6_ok nmX6 hown hK hP hD hS 2 rfl rfl 9 (by decide) (hts _ mw_274) (fun _ h9 => h9) rfl (by decide +kernel) rfl rfl (Nat.le_of_ble_eq_true rfl) dX5_endLine_24 (fun H locs hP hD hS => ?_)
    have hP : va_P D vwCl [((rd 0), .inr (4, [.ref (rw 0), .int (rf 1), .int (rf 2), .int (rf 3), .ref (rd 1), .int (rf 5), .int (rf 6), .int (rf 7), .int (rf 8), .int (rf 9)])), ((rd 1), .inl (k 2, 900, .inl tf)), ((rw 0), .inr (5, [.int (y 0), .int (y 1), .int (y 2), .int (y 3), .int (y 4), .int (y 5), .int (y 6), .int (y 7), .int (y 8), .int z_2, .int (y 10), .ref (rw 1), .ref (rw 2), .ref (rw 3), .ref (rw 4), .ref (rw 5)]))] H := hP
    have hD : va_D A [((rd 0), .inr (4, [.ref (rw 0), .int (rf 1), .int (rf 2), .int (rf 3), .ref (rd 1), .int (rf 5), .int (rf 6), .int (rf 7), .int (rf 8), .int (rf 9)])), ((rd 1), .inl (k 2, 900, .inl tf)), ((rw 0), .inr (5, [.int (y 0), .int (y 1), .int (y 2), .int (y 3), .int (y 4), .int (y 5), .int (y 6), .int (y 7), .int (y 8), .int z_2, .int (y 10), .ref (rw 1), .ref (rw 2), .ref (rw 3), .ref (rw 4), .ref (rw 5)]))] := hD
    refine lv_aload_n hx hb dX5_endLine_27 rfl (lv_at hl 0 rfl) ?_
    refine kV_uv (q0 := 0) (As := []) (rest := []) (wr := [((rw 0), .inr (5, [.int (y 0), .int (y 1), .int (y 2), .int (y 3), .int (y 4), .int (y 5), .int (y 6), .int (y 7), .int (y 8), .int z_2, .int (y 10), .ref (rw 1), .ref (rw 2), .ref (rw 3), .ref (rw 4), .ref (rw 5)]))]) ⟨hx, hb, hml, hown, hts⟩ (s_R_advance l D k _ _ rf tf _ (show 0 ≤ (rf 3).toInt ∧ (rf 3).toInt ≤ 900 from ⟨by omega, by omega⟩) (show 0 ≤ (rf 5).toInt ∧ (rf 5).toInt ≤ 900 from ⟨by omega, by omega⟩) (show 0 ≤ (rf 7).toInt ∧ (rf 7).toInt ≤ 900 from ⟨by omega, by omega⟩) (show (rf 7).toInt ≤ (rf 5).toInt from by omega)) (gV mw_159 mw_160 mw_161 mw_15 mw_162) hd_yX5_advance rfl rfl ⟨Nat.le_of_ble_eq_true rfl, Nat.le_of_ble_eq_true rfl⟩ hK hN0 hP hD hS hA [0, 1] [2] rfl rfl (by decide) (by decide) (by decide) rfl rfl rfl rfl hl.1 rfl (Nat.le_of_ble_eq_true rfl) dX5_endLine_28 ⟨Nat.le_of_ble_eq_true rfl, Nat.le_of_ble_eq_true rfl⟩ (fun u_4 H locs hw hP hD hS => ?_)
    obtain ⟨v_5, rfl⟩ : ∃ z, z = u_4 := ⟨_, rfl⟩
    obtain ⟨h_6, h_7, h_8, h_9, h_10, h_11, h_12⟩ := hw
    have h_6 : 0 ≤ (v_5 3).toInt ∧ (v_5 3).toInt ≤ 900 := h_6
    have h_7 : 0 ≤ (v_5 5).toInt ∧ (v_5 5).toInt ≤ 900 := h_7
    have h_8 : 0 ≤ (v_5 6).toInt ∧ (v_5 6).toInt ≤ 900 := h_8
    have h_9 : 0 ≤ (v_5 7).toInt ∧ (v_5 7).toInt ≤ 900 := h_9
    have h_10 : (v_5 6).toInt ≤ (v_5 7).toInt := h_10
    have h_11 : (v_5 7).toInt ≤ (v_5 5).toInt := h_11
    have h_12 : (v_5 3).toInt = (rf 3).toInt := h_12
    have hP : va_P D vwCl [((rw 0), .inr (5, [.int (y 0), .int (y 1), .int (y 2), .int (y 3), .int (y 4), .int (y 5), .int (y 6), .int (y 7), .int (y 8), .int z_2, .int (y 10), .ref (rw 1), .ref (rw 2), .ref (rw 3), .ref (rw 4), .ref (rw 5)])), ((rd 0), .inr (4, [.ref (rw 0), .int (v_5 1), .int (v_5 2), .int (v_5 3), .ref (rd 1), .int (v_5 5), .int (v_5 6), .int (v_5 7), .int (v_5 8), .int (v_5 9)])), ((rd 1), .inl (k 2, 900, .inl tf))] H := hP
    have hD : va_D A [((rw 0), .inr (5, [.int (y 0), .int (y 1), .int (y 2), .int (y 3), .int (y 4), .int (y 5), .int (y 6), .int (y 7), .int (y 8), .int z_2, .int (y 10), .ref (rw 1), .ref (rw 2), .ref (rw 3), .ref (rw 4), .ref (rw 5)])), ((rd 0), .inr (4, [.ref (rw 0), .int (v_5 1), .int (v_5 2), .int (v_5 3), .ref (rd 1), .int (v_5 5), .int (v_5 6), .int (v_5 7), .int (v_5 8), .int (v_5 9)])), ((rd 1), .inl (k 2, 900, .inl tf))] := hD
    exact W.vret hx hb hr (fun t ht hW => ⟨⟨((va_seli [0, (v_5 1), (v_5 2), (v_5 3), 0, (v_5 5), (v_5 6), (v_5 7), (v_5 8), (v_5 9)]), (va_seli [(y 0), (y 1), (y 2), (y 3), (y 4), (y 5), (y 6), (y 7), (y 8), z_2, (y 10)])), rfl, ⟨(show 0 ≤ (v_5 3).toInt ∧ (v_5 3).toInt ≤ 900 from ⟨by omega, by omega⟩), (show 0 ≤ (v_5 5).toInt ∧ (v_5 5).toInt ≤ 900 from ⟨by omega, by omega⟩), (show 0 ≤ (v_5 6).toInt ∧ (v_5 6).toInt ≤ 900 from ⟨by omega, by omega⟩), (show 0 ≤ (v_5 7).toInt ∧ (v_5 7).toInt ≤ 900 from ⟨by omega, by omega⟩), (show (v_5 6).toInt ≤ (v_5 7).toInt from by omega), (show (v_5 7).toInt ≤ (v_5 5).toInt from by omega), (show (v_5 3).toInt = (rf 3).toInt from by omega), (show 0 ≤ (y 0).toInt ∧ (y 0).toInt ≤ 10 from ⟨by omega, by omega⟩), (show 0 ≤ (y 2).toInt ∧ (y 2).toInt ≤ 6 from ⟨by omega, by omega⟩), (show 0 ≤ (y 6).toInt ∧ (y 6).toInt ≤ 1 from ⟨by omega, by omega⟩)⟩, by rw [ht]; exact hP.sub [1, 2, 0] rfl, hD.sub [1, 2, 0] (by decide) rfl⟩, hS.F ht⟩) hS.2.2 dX5_endLine_31
  · have c_1 : (rf 8).toInt ≠ 2 := ti_ne c_1
    refine lv_aload_n hx hb dX5_endLine_8 rfl (lv_at hl 0 rfl) ?_
    refine lv_iconst (v := 2) hx hb dX5_endLine_9 (by decide) ?_
    refine kV_uv (q0 := 0) (As := [.int 2]) (rest := []) (wr := [((rd 1), .inl (k 2, 900, .inl tf)), ((rw 0), .inr (5, [.int (y 0), .int (y 1), .int (y 2), .int (y 3), .int (y 4), .int (y 5), .int (y 6), .int (y 7), .int (y 8), .int (y 9), .int (y 10), .ref (rw 1), .ref (rw 2), .ref (rw 3), .ref (rw 4), .ref (rw 5)]))]) ⟨hx, hb, hml, hown, hts⟩ (s_R_fail l D k _ _ rf 2 _) (gV mw_171 mw_172 mw_173 mw_15 mw_174) hd_yX5_fail rfl rfl ⟨Nat.le_of_ble_eq_true rfl, Nat.le_of_ble_eq_true rfl⟩ hK hN0 hP hD hS hA [0] [1, 2] rfl rfl (by decide) (by decide) (by decide) rfl rfl rfl rfl hl.1 rfl (Nat.le_of_ble_eq_true rfl) dX5_endLine_10 ⟨Nat.le_of_ble_eq_true rfl, Nat.le_of_ble_eq_true rfl⟩ (fun u_14 H locs hw hP hD hS => ?_)
    obtain ⟨v_15, v_16⟩ := u_14
    have hP : va_P D vwCl [((rd 1), .inl (k 2, 900, .inl tf)), ((rw 0), .inr (5, [.int (y 0), .int (y 1), .int (y 2), .int (y 3), .int (y 4), .int (y 5), .int (y 6), .int (y 7), .int (y 8), .int (y 9), .int (y 10), .ref (rw 1), .ref (rw 2), .ref (rw 3), .ref (rw 4), .ref (rw 5)])), ((rd 0), .inr (4, [.ref (rw 0), .int v_15, .int v_16, .int (rf 3), .ref (rd 1), .int (rf 5), .int (rf 6), .int (rf 7), .int 0, .int (rf 9)]))] H := hP
    have hD : va_D A [((rd 1), .inl (k 2, 900, .inl tf)), ((rw 0), .inr (5, [.int (y 0), .int (y 1), .int (y 2), .int (y 3), .int (y 4), .int (y 5), .int (y 6), .int (y 7), .int (y 8), .int (y 9), .int (y 10), .ref (rw 1), .ref (rw 2), .ref (rw 3), .ref (rw 4), .ref (rw 5)])), ((rd 0), .inr (4, [.ref (rw 0), .int v_15, .int v_16, .int (rf 3), .ref (rd 1), .int (rf 5), .int (rf 6), .int (rf 7), .int 0, .int (rf 9)]))] := hD
    exact W.vret hx hb hr (fun t ht hW => ⟨⟨((va_seli [0, v_15, v_16, (rf 3), 0, (rf 5), (rf 6), (rf 7), 0, (rf 9)]), (va_seli [(y 0), (y 1), (y 2), (y 3), (y 4), (y 5), (y 6), (y 7), (y 8), (y 9), (y 10)])), rfl, ⟨(show 0 ≤ (rf 3).toInt ∧ (rf 3).toInt ≤ 900 from ⟨by omega, by omega⟩), (show 0 ≤ (rf 5).toInt ∧ (rf 5).toInt ≤ 900 from ⟨by omega, by omega⟩), (show 0 ≤ (rf 6).toInt ∧ (rf 6).toInt ≤ 900 from ⟨by omega, by omega⟩), (show 0 ≤ (rf 7).toInt ∧ (rf 7).toInt ≤ 900 from ⟨by omega, by omega⟩), (show (rf 6).toInt ≤ (rf 7).toInt from by omega), (show (rf 7).toInt ≤ (rf 5).toInt from by omega), (show (rf 3).toInt = (rf 3).toInt from by omega), (show 0 ≤ (y 0).toInt ∧ (y 0).toInt ≤ 10 from ⟨by omega, by omega⟩), (show 0 ≤ (y 2).toInt ∧ (y 2).toInt ≤ 6 from ⟨by omega, by omega⟩), (show 0 ≤ (y 6).toInt ∧ (y 6).toInt ≤ 1 from ⟨by omega, by omega⟩)⟩, by rw [ht]; exact hP.sub [2, 0, 1] rfl, hD.sub [2, 0, 1] (by decide) rfl⟩, hS.F ht⟩) hS.2.2 dX5_endLine_13
set_option maxHeartbeats 4000000 in
set_option maxRecDepth 100000 in
theorem s_R_readLayer (l : Launch) (D : va_G) (k : Nat → ClassId) (ak : Nat → Nat) (av : Nat → Nat) (rd : Nat → Nat) (rw : Nat → Nat) (rf : Nat → Int32) (tf : Nat → Int32) (y : Nat → Int32) (g : Nat → Nat → Int32) (r : Int32) (d : Int32) (sz : Nat) (w_r3 : 0 ≤ (rf 3).toInt ∧ (rf 3).toInt ≤ 900) (w_r5 : 0 ≤ (rf 5).toInt ∧ (rf 5).toInt ≤ 900) (w_r6 : 0 ≤ (rf 6).toInt ∧ (rf 6).toInt ≤ 900) (w_r7 : 0 ≤ (rf 7).toInt ∧ (rf 7).toInt ≤ 900) (w_rl0 : (rf 6).toInt ≤ (rf 7).toInt) (w_rl1 : (rf 7).toInt ≤ (rf 5).toInt) (w_h0 : 0 ≤ (y 0).toInt ∧ (y 0).toInt ≤ 10) (w_h2 : 0 ≤ (y 2).toInt ∧ (y 2).toInt ≤ 6) (w_h6 : 0 ≤ (y 6).toInt ∧ (y 6).toInt ≤ 1) (w_hd : ∀ j : Nat, 0 ≤ ((g 1) j).toInt ∧ ((g 1) j).toInt ≤ 6) (w_hr : 0 ≤ r.toInt ∧ r.toInt ≤ 9) (w_hdd : 0 ≤ d.toInt ∧ d.toInt ≤ 6) : Met l yX5_readLayer (Cond.code yX5_readLayer cX5_readLayer 5 none :: wsL_law) ({ frames := 5, cells := 0, slots := 0, locals := 300 } : Room) (va_Pc [.ref (rd 0), .int r, .int d] (pus ak av D k sz [((rd 0), .inr (4, [.ref (rw 0), .int (rf 1), .int (rf 2), .int (rf 3), .ref (rd 1), .int (rf 5), .int (rf 6), .int (rf 7), .int (rf 8), .int (rf 9)])), ((rd 1), .inl (k 2, 900, .inl tf)), ((rw 0), .inr (5, [.int (y 0), .int (y 1), .int (y 2), .int (y 3), .int (y 4), .int (y 5), .int (y 6), .int (y 7), .int (y 8), .int (y 9), .int (y 10), .ref (rw 1), .ref (rw 2), .ref (rw 3), .ref (rw 4), .ref (rw 5)])), ((rw 1), .inl (k 0, 10, .inl (g 1))), ((rw 3), .inl (k 0, 60, .inl (g 3)))])) (va_Qv (fun uu : (Nat → Int32) × (Nat → Nat → Int32) => (0 ≤ (uu.1 3).toInt ∧ (uu.1 3).toInt ≤ 900) ∧ (0 ≤ (uu.1 5).toInt ∧ (uu.1 5).toInt ≤ 900) ∧ (0 ≤ (uu.1 6).toInt ∧ (uu.1 6).toInt ≤ 900) ∧ (0 ≤ (uu.1 7).toInt ∧ (uu.1 7).toInt ≤ 900) ∧ ((uu.1 6).toInt ≤ (uu.1 7).toInt) ∧ ((uu.1 7).toInt ≤ (uu.1 5).toInt) ∧ ((uu.1 3).toInt = (rf 3).toInt) ∧ (∀ j : Nat, 0 ≤ ((uu.2 1) j).toInt ∧ ((uu.2 1) j).toInt ≤ 6)) (qu D (va_A [((rd 0), .inr (4, [.ref (rw 0), .int (rf 1), .int (rf 2), .int (rf 3), .ref (rd 1), .int (rf 5), .int (rf 6), .int (rf 7), .int (rf 8), .int (rf 9)])), ((rd 1), .inl (k 2, 900, .inl tf)), ((rw 0), .inr (5, [.int (y 0), .int (y 1), .int (y 2), .int (y 3), .int (y 4), .int (y 5), .int (y 6), .int (y 7), .int (y 8), .int (y 9), .int (y 10), .ref (rw 1), .ref (rw 2), .ref (rw 3), .ref (rw 4), .ref (rw 5)])), ((rw 1), .inl (k 0, 10, .inl (g 1))), ((rw 3), .inl (k 0, 60, .inl (g 3)))] sz) (fun uu : (Nat → Int32) × (Nat → Nat → Int32) => [((rd 0), .inr (4, [.ref (rw 0), .int (uu.1 1), .int (uu.1 2), .int (uu.1 3), .ref (rd 1), .int (uu.1 5), .int (uu.1 6), .int (uu.1 7), .int (uu.1 8), .int (uu.1 9)])), ((rd 1), .inl (k 2, 900, .inl tf)), ((rw 0), .inr (5, [.int (y 0), .int (y 1), .int (y 2), .int (y 3), .int (y 4), .int (y 5), .int (y 6), .int (y 7), .int (y 8), .int (y 9), .int (y 10), .ref (rw 1), .ref (rw 2), .ref (rw 3), .ref (rw 4), .ref (rw 5)])), ((rw 1), .inl (k 0, 10, .inl (uu.2 1))), ((rw 3), .inl (k 0, 60, .inl (uu.2 3)))])) (va_A [((rd 0), .inr (4, [.ref (rw 0), .int (rf 1), .int (rf 2), .int (rf 3), .ref (rd 1), .int (rf 5), .int (rf 6), .int (rf 7), .int (rf 8), .int (rf 9)])), ((rd 1), .inl (k 2, 900, .inl tf)), ((rw 0), .inr (5, [.int (y 0), .int (y 1), .int (y 2), .int (y 3), .int (y 4), .int (y 5), .int (y 6), .int (y 7), .int (y 8), .int (y 9), .int (y 10), .ref (rw 1), .ref (rw 2), .ref (rw 3), .ref (rw 4), .ref (rw 5)])), ((rw 1), .inl (k 0, 10, .inl (g 1))), ((rw 3), .inl (k 0, 60, .inl (g 3)))] sz)) 0 0 (va_A [((rd 0), .inr (4, [.ref (rw 0), .int (rf 1), .int (rf 2), .int (rf 3), .ref (rd 1), .int (rf 5), .int (rf 6), .int (rf 7), .int (rf 8), .int (rf 9)])), ((rd 1), .inl (k 2, 900, .inl tf)), ((rw 0), .inr (5, [.int (y 0), .int (y 1), .int (y 2), .int (y 3), .int (y 4), .int (y 5), .int (y 6), .int (y 7), .int (y 8), .int (y 9), .int (y 10), .ref (rw 1), .ref (rw 2), .ref (rw 3), .ref (rw 4), .ref (rw 5)])), ((rw 1), .inl (k 0, 10, .inl (g 1))), ((rw 3), .inl (k 0, 60, .inl (g 3)))] sz) := by
  refine Met.ofW (cc := cX5_readLayer) (maxL := 5) (ret := none) (by decide) rfl ?_
  intro p e s m args below meth c s₁ B hml hv
  obtain ⟨rfl, hsz, hP, hK, hD0, hN0, hW0⟩ := hv
  have hx := B.exec
  have hb := B.bytes
  have hr := B.returns
  have hts : ∀ w ∈ wsL_law, w.before _ s = true := fun w h => atoms_spec (ws := Cond.code yX5_readLayer cX5_readLayer 5 none :: wsL_law) B.pre w (List.mem_cons_of_mem _ h)
  have hown : s.vm.findClass RX5 = some m.cls := findClass_of_methodNamed B.named
  have hlocks := B.notSynchronized
  subst hsz
  have hD := hD0.self (sz := s.heap.size)
  generalize hAe : va_A [((rd 0), .inr (4, [.ref (rw 0), .int (rf 1), .int (rf 2), .int (rf 3), .ref (rd 1), .int (rf 5), .int (rf 6), .int (rf 7), .int (rf 8), .int (rf 9)])), ((rd 1), .inl (k 2, 900, .inl tf)), ((rw 0), .inr (5, [.int (y 0), .int (y 1), .int (y 2), .int (y 3), .int (y 4), .int (y 5), .int (y 6), .int (y 7), .int (y 8), .int (y 9), .int (y 10), .ref (rw 1), .ref (rw 2), .ref (rw 3), .ref (rw 4), .ref (rw 5)])), ((rw 1), .inl (k 0, 10, .inl (g 1))), ((rw 3), .inl (k 0, 60, .inl (g 3)))] s.heap.size = A at hD hW0 ⊢
  have hA : ∀ q : Nat, s.heap.size ≤ q → A q := fun q h => by rw [← hAe]; exact Or.inr h
  have hS : va_S A s.heap s.heap [] := va_S.rf
  have hP : va_P D vwCl [((rd 0), .inr (4, [.ref (rw 0), .int (rf 1), .int (rf 2), .int (rf 3), .ref (rd 1), .int (rf 5), .int (rf 6), .int (rf 7), .int (rf 8), .int (rf 9)])), ((rd 1), .inl (k 2, 900, .inl tf)), ((rw 0), .inr (5, [.int (y 0), .int (y 1), .int (y 2), .int (y 3), .int (y 4), .int (y 5), .int (y 6), .int (y 7), .int (y 8), .int (y 9), .int (y 10), .ref (rw 1), .ref (rw 2), .ref (rw 3), .ref (rw 4), .ref (rw 5)])), ((rw 1), .inl (k 0, 10, .inl (g 1))), ((rw 3), .inl (k 0, 60, .inl (g 3)))] s.heap := hP
  have hl := lv_entry ([.ref (rd 0), .int r, .int d]) (n := 5) (Nat.le_of_ble_eq_true rfl)
  rw [lg_entry_eq]
  generalize (lg_sl ([.ref (rd 0), .int r, .int d]) ++ List.replicate (5 - (lg_sl ([.ref (rd 0), .int r, .int d])).length) Slot.unset).toArray = ls at hl ⊢
  have hl : lv_has ls 5 [(0, .ref (rd 0)), (1, .int r), (2, .int d)] := hl
  refine lv_iload_n hx hb dX5_readLayer_0 rfl (lv_at hl 2 rfl) ?_
  refine lv_aload_n hx hb dX5_readLayer_1 rfl (lv_at hl 0 rfl) ?_
  refine va_get (D := D) (ci := 4) (v := .ref (rw 0)) (C := RX5) (T := TX5) (N := 10) hx hb hts inlX5 hown hK hP 0 rfl rfl 0 (by decide) (hts _ mw_47) (fun _ h9 => h9) rfl dX5_readLayer_2 ?_
  refine va_get (D := D) (ci := 5) (v := .int (y 2)) (C := RX6) (T := TX6) (N := 16) hx hb hts inlX6 hown hK hP 2 rfl rfl 2 (by decide) (hts _ mw_181) (fun _ h9 => h9) rfl dX5_readLayer_5 ?_
  refine lv_icmp_lt (tgt := 17) hx hb dX5_readLayer_8 (by decide) (fun c_1 => ?_) (fun c_1 => ?_)
  · have c_1 : d.toInt < (y 2).toInt := ti_lt c_1
    refine lv_aload_n hx hb dX5_readLayer_17 rfl (lv_at hl 0 rfl) ?_
    refine va_ldcS (own := RX5) (index := 111) (tx := "straw") (q := ak 3) hx hb hown (hW0.2.2.2 3 (by decide)) dX5_readLayer_18 ?_
    refine kV_is (q0 := 0) (As := [.ref (ak 3)]) (rest := []) ⟨hx, hb, hml, hown, hts⟩ (s_R_isWord l D k ak av _ _ rf tf 3 (show 0 ≤ (rf 3).toInt ∧ (rf 3).toInt ≤ 900 from ⟨by omega, by omega⟩) (show 0 ≤ (rf 5).toInt ∧ (rf 5).toInt ≤ 900 from ⟨by omega, by omega⟩) (show 0 ≤ (rf 6).toInt ∧ (rf 6).toInt ≤ 900 from ⟨by omega, by omega⟩) (show 0 ≤ (rf 7).toInt ∧ (rf 7).toInt ≤ 900 from ⟨by omega, by omega⟩) (show (rf 6).toInt ≤ (rf 7).toInt from by omega) (show (rf 7).toInt ≤ (rf 5).toInt from by omega) (by omega)) (gV mw_185 mw_186 mw_187 mw_15 mw_188) hd_yX5_isWord rfl rfl ⟨Nat.le_of_ble_eq_true rfl, Nat.le_of_ble_eq_true rfl⟩ hK hN0 hW0 hS (hP.sub [0, 1] rfl) rfl rfl rfl rfl hl.1 rfl (Nat.le_of_ble_eq_true rfl) dX5_readLayer_20 ⟨Nat.le_of_ble_eq_true rfl, Nat.le_of_ble_eq_true rfl⟩ (fun r_2 hr_2 => ?_)
    have hr_2 : 0 ≤ r_2.toInt ∧ r_2.toInt ≤ 1 := hr_2
    refine lv_if_eq (tgt := 30) hx hb dX5_readLayer_23 (by decide) (fun c_3 => ?_) (fun c_3 => ?_)
    · have c_3 : r_2.toInt = 0 := ti_eq c_3
      have qc_3 : r_2 = 0 := ti_of (show r_2.toInt = 0 from by omega)
      refine lv_iconst (v := 0) hx hb dX5_readLayer_30 (by decide) ?_
      refine lv_istore_n (lv' := [(3, .int 0), (0, .ref (rd 0)), (1, .int r), (2, .int d)]) hx hb dX5_readLayer_31 rfl hl (by decide) rfl (fun ls hl => ?_)
      refine lv_aload_n hx hb dX5_readLayer_32 rfl (lv_at hl 1 rfl) ?_
      refine kV_uv (q0 := 0) (As := []) (rest := []) (wr := [((rw 0), .inr (5, [.int (y 0), .int (y 1), .int (y 2), .int (y 3), .int (y 4), .int (y 5), .int (y 6), .int (y 7), .int (y 8), .int (y 9), .int (y 10), .ref (rw 1), .ref (rw 2), .ref (rw 3), .ref (rw 4), .ref (rw 5)])), ((rw 1), .inl (k 0, 10, .inl (g 1))), ((rw 3), .inl (k 0, 60, .inl (g 3)))]) ⟨hx, hb, hml, hown, hts⟩ (s_R_advance l D k _ _ rf tf _ (show 0 ≤ (rf 3).toInt ∧ (rf 3).toInt ≤ 900 from ⟨by omega, by omega⟩) (show 0 ≤ (rf 5).toInt ∧ (rf 5).toInt ≤ 900 from ⟨by omega, by omega⟩) (show 0 ≤ (rf 7).toInt ∧ (rf 7).toInt ≤ 900 from ⟨by omega, by omega⟩) (show (rf 7).toInt ≤ (rf 5).toInt from by omega)) (gV mw_159 mw_160 mw_161 mw_15 mw_162) hd_yX5_advance rfl rfl ⟨Nat.le_of_ble_eq_true rfl, Nat.le_of_ble_eq_true rfl⟩ hK hN0 hP hD hS hA [0, 1] [2, 3, 4] rfl rfl (by decide) (by decide) (by decide) rfl rfl rfl rfl hl.1 rfl (Nat.le_of_ble_eq_true rfl) dX5_readLayer_33 ⟨Nat.le_of_ble_eq_true rfl, Nat.le_of_ble_eq_true rfl⟩ (fun u_5 H locs hw hP hD hS => ?_)
      obtain ⟨v_6, rfl⟩ : ∃ z, z = u_5 := ⟨_, rfl⟩
      obtain ⟨h_7, h_8, h_9, h_10, h_11, h_12, h_13⟩ := hw
      have h_7 : 0 ≤ (v_6 3).toInt ∧ (v_6 3).toInt ≤ 900 := h_7
      have h_8 : 0 ≤ (v_6 5).toInt ∧ (v_6 5).toInt ≤ 900 := h_8
      have h_9 : 0 ≤ (v_6 6).toInt ∧ (v_6 6).toInt ≤ 900 := h_9
      have h_10 : 0 ≤ (v_6 7).toInt ∧ (v_6 7).toInt ≤ 900 := h_10
      have h_11 : (v_6 6).toInt ≤ (v_6 7).toInt := h_11
      have h_12 : (v_6 7).toInt ≤ (v_6 5).toInt := h_12
      have h_13 : (v_6 3).toInt = (rf 3).toInt := h_13
      have hP : va_P D vwCl [((rw 0), .inr (5, [.int (y 0), .int (y 1), .int (y 2), .int (y 3), .int (y 4), .int (y 5), .int (y 6), .int (y 7), .int (y 8), .int (y 9), .int (y 10), .ref (rw 1), .ref (rw 2), .ref (rw 3), .ref (rw 4), .ref (rw 5)])), ((rw 1), .inl (k 0, 10, .inl (g 1))), ((rw 3), .inl (k 0, 60, .inl (g 3))), ((rd 0), .inr (4, [.ref (rw 0), .int (v_6 1), .int (v_6 2), .int (v_6 3), .ref (rd 1), .int (v_6 5), .int (v_6 6), .int (v_6 7), .int (v_6 8), .int (v_6 9)])), ((rd 1), .inl (k 2, 900, .inl tf))] H := hP
      have hD : va_D A [((rw 0), .inr (5, [.int (y 0), .int (y 1), .int (y 2), .int (y 3), .int (y 4), .int (y 5), .int (y 6), .int (y 7), .int (y 8), .int (y 9), .int (y 10), .ref (rw 1), .ref (rw 2), .ref (rw 3), .ref (rw 4), .ref (rw 5)])), ((rw 1), .inl (k 0, 10, .inl (g 1))), ((rw 3), .inl (k 0, 60, .inl (g 3))), ((rd 0), .inr (4, [.ref (rw 0), .int (v_6 1), .int (v_6 2), .int (v_6 3), .ref (rd 1), .int (v_6 5), .int (v_6 6), .int (v_6 7), .int (v_6 8), .int (v_6 9)])), ((rd 1), .inl (k 2, 900, .inl tf))] := hD
      refine lv_iload_n hx hb dX5_readLayer_36 rfl (lv_at hl 0 rfl) ?_
      refine lv_aload_n hx hb dX5_readLayer_37 rfl (lv_at hl 1 rfl) ?_
      refine lv_iconst (v := 0) hx hb dX5_readLayer_38 (by decide) ?_
      refine lv_bipush (v := 99) hx hb dX5_readLayer_39 (by decide) ?_
      refine kV_ui (q0 := 0) (As := [.int 0, .int 99]) (rest := [.int 0]) (wr := [((rw 0), .inr (5, [.int (y 0), .int (y 1), .int (y 2), .int (y 3), .int (y 4), .int (y 5), .int (y 6), .int (y 7), .int (y 8), .int (y 9), .int (y 10), .ref (rw 1), .ref (rw 2), .ref (rw 3), .ref (rw 4), .ref (rw 5)])), ((rw 1), .inl (k 0, 10, .inl (g 1))), ((rw 3), .inl (k 0, 60, .inl (g 3)))]) ⟨hx, hb, hml, hown, hts⟩ (s_R_readNumber l D k _ _ v_6 tf 0 99 _ (show 0 ≤ (v_6 3).toInt ∧ (v_6 3).toInt ≤ 900 from ⟨by omega, by omega⟩) (show 0 ≤ (v_6 5).toInt ∧ (v_6 5).toInt ≤ 900 from ⟨by omega, by omega⟩) (show 0 ≤ (v_6 6).toInt ∧ (v_6 6).toInt ≤ 900 from ⟨by omega, by omega⟩) (show 0 ≤ (v_6 7).toInt ∧ (v_6 7).toInt ≤ 900 from ⟨by omega, by omega⟩) (show (v_6 6).toInt ≤ (v_6 7).toInt from by omega) (show (v_6 7).toInt ≤ (v_6 5).toInt from by omega)) (gV mw_248 mw_249 mw_250 mw_15 mw_251) hd_yX5_readNumber rfl rfl ⟨Nat.le_of_ble_eq_true rfl, Nat.le_of_ble_eq_true rfl⟩ hK hN0 hP hD hS hA [3, 4] [0, 1, 2] rfl rfl (by decide) (by decide) (by decide) rfl rfl rfl rfl hl.1 rfl (Nat.le_of_ble_eq_true rfl) dX5_readLayer_41 ⟨Nat.le_of_ble_eq_true rfl, Nat.le_of_ble_eq_true rfl⟩ (fun r_14 u_15 H locs hw hP hD hS => ?_)
      obtain ⟨v_16, rfl⟩ : ∃ z, z = u_15 := ⟨_, rfl⟩
      obtain ⟨hr_14, h_17, h_18, h_19, h_20, h_21, h_22, h_23⟩ := hw
      have h_17 : 0 ≤ (v_16 3).toInt ∧ (v_16 3).toInt ≤ 900 := h_17
      have h_18 : 0 ≤ (v_16 5).toInt ∧ (v_16 5).toInt ≤ 900 := h_18
      have h_19 : 0 ≤ (v_16 6).toInt ∧ (v_16 6).toInt ≤ 900 := h_19
      have h_20 : 0 ≤ (v_16 7).toInt ∧ (v_16 7).toInt ≤ 900 := h_20
      have h_21 : (v_16 6).toInt ≤ (v_16 7).toInt := h_21
      have h_22 : (v_16 7).toInt ≤ (v_16 5).toInt := h_22
      have h_23 : (v_16 3).toInt = (v_6 3).toInt := h_23
      have hP : va_P D vwCl [((rw 0), .inr (5, [.int (y 0), .int (y 1), .int (y 2), .int (y 3), .int (y 4), .int (y 5), .int (y 6), .int (y 7), .int (y 8), .int (y 9), .int (y 10), .ref (rw 1), .ref (rw 2), .ref (rw 3), .ref (rw 4), .ref (rw 5)])), ((rw 1), .inl (k 0, 10, .inl (g 1))), ((rw 3), .inl (k 0, 60, .inl (g 3))), ((rd 0), .inr (4, [.ref (rw 0), .int (v_16 1), .int (v_16 2), .int (v_16 3), .ref (rd 1), .int (v_16 5), .int (v_16 6), .int (v_16 7), .int (v_16 8), .int (v_16 9)])), ((rd 1), .inl (k 2, 900, .inl tf))] H := hP
      have hD : va_D A [((rw 0), .inr (5, [.int (y 0), .int (y 1), .int (y 2), .int (y 3), .int (y 4), .int (y 5), .int (y 6), .int (y 7), .int (y 8), .int (y 9), .int (y 10), .ref (rw 1), .ref (rw 2), .ref (rw 3), .ref (rw 4), .ref (rw 5)])), ((rw 1), .inl (k 0, 10, .inl (g 1))), ((rw 3), .inl (k 0, 60, .inl (g 3))), ((rd 0), .inr (4, [.ref (rw 0), .int (v_16 1), .int (v_16 2), .int (v_16 3), .ref (rd 1), .int (v_16 5), .int (v_16 6), .int (v_16 7), .int (v_16 8), .int (v_16 9)])), ((rd 1), .inl (k 2, 900, .inl tf))] := hD
      refine lv_iconst (v := (-1)) hx hb dX5_readLayer_44 (by decide) ?_
      refine kS_i (As := [.int 0, .int r_14, .int (-1)]) (rest := []) ⟨hx, hb, hml, hown, hts⟩ (s_L_made l D k 0 r_14 (-1)) (gS mw_252 mw_253 mw_254 mw_255) hd_yX1_made rfl rfl ⟨Nat.le_of_ble_eq_true rfl, Nat.le_of_ble_eq_true rfl⟩ hK hN0 (hP.sub [] rfl) rfl hl.1 rfl (Nat.le_of_ble_eq_true rfl) dX5_readLayer_45 ⟨Nat.le_of_ble_eq_true rfl, Nat.le_of_ble_eq_true rfl⟩ (fun r_24 hr_24 => ?_)
      refine lv_istore (lv' := [(4, .int r_24), (3, .int 0), (0, .ref (rd 0)), (1, .int r), (2, .int d)]) hx hb dX5_readLayer_48 hl (by decide) rfl (fun ls hl => ?_)
      refine lv_aload_n hx hb dX5_readLayer_50 rfl (lv_at hl 2 rfl) ?_
      refine va_ldcS (own := RX5) (index := 123) (tx := "wet") (q := ak 4) hx hb hown (hW0.2.2.2 4 (by decide)) dX5_readLayer_51 ?_
      refine kV_is (q0 := 0) (As := [.ref (ak 4)]) (rest := []) ⟨hx, hb, hml, hown, hts⟩ (s_R_isWord l D k ak av _ _ v_16 tf 4 (show 0 ≤ (v_16 3).toInt ∧ (v_16 3).toInt ≤ 900 from ⟨by omega, by omega⟩) (show 0 ≤ (v_16 5).toInt ∧ (v_16 5).toInt ≤ 900 from ⟨by omega, by omega⟩) (show 0 ≤ (v_16 6).toInt ∧ (v_16 6).toInt ≤ 900 from ⟨by omega, by omega⟩) (show 0 ≤ (v_16 7).toInt ∧ (v_16 7).toInt ≤ 900 from ⟨by omega, by omega⟩) (show (v_16 6).toInt ≤ (v_16 7).toInt from by omega) (show (v_16 7).toInt ≤ (v_16 5).toInt from by omega) (by omega)) (gV mw_185 mw_186 mw_187 mw_15 mw_188) hd_yX5_isWord rfl rfl ⟨Nat.le_of_ble_eq_true rfl, Nat.le_of_ble_eq_true rfl⟩ hK hN0 hW0 hS (hP.sub [3, 4] rfl) rfl rfl rfl rfl hl.1 rfl (Nat.le_of_ble_eq_true rfl) dX5_readLayer_53 ⟨Nat.le_of_ble_eq_true rfl, Nat.le_of_ble_eq_true rfl⟩ (fun r_25 hr_25 => ?_)
      have hr_25 : 0 ≤ r_25.toInt ∧ r_25.toInt ≤ 1 := hr_25
      refine lv_if_eq (tgt := 70) hx hb dX5_readLayer_56 (by decide) (fun c_26 => ?_) (fun c_26 => ?_)
      · have c_26 : r_25.toInt = 0 := ti_eq c_26
        have qc_26 : r_25 = 0 := ti_of (show r_25.toInt = 0 from by omega)
        refine lv_aload_n hx hb dX5_readLayer_70 rfl (lv_at hl 2 rfl) ?_
        refine va_ldcS (own := RX5) (index := 129) (tx := "mice") (q := ak 5) hx hb hown (hW0.2.2.2 5 (by decide)) dX5_readLayer_71 ?_
        refine kV_is (q0 := 0) (As := [.ref (ak 5)]) (rest := []) ⟨hx, hb, hml, hown, hts⟩ (s_R_isWord l D k ak av _ _ v_16 tf 5 (show 0 ≤ (v_16 3).toInt ∧ (v_16 3).toInt ≤ 900 from ⟨by omega, by omega⟩) (show 0 ≤ (v_16 5).toInt ∧ (v_16 5).toInt ≤ 900 from ⟨by omega, by omega⟩) (show 0 ≤ (v_16 6).toInt ∧ (v_16 6).toInt ≤ 900 from ⟨by omega, by omega⟩) (show 0 ≤ (v_16 7).toInt ∧ (v_16 7).toInt ≤ 900 from ⟨by omega, by omega⟩) (show (v_16 6).toInt ≤ (v_16 7).toInt from by omega) (show (v_16 7).toInt ≤ (v_16 5).toInt from by omega) (by omega)) (gV mw_185 mw_186 mw_187 mw_15 mw_188) hd_yX5_isWord rfl rfl ⟨Nat.le_of_ble_eq_true rfl, Nat.le_of_ble_eq_true rfl⟩ hK hN0 hW0 hS (hP.sub [3, 4] rfl) rfl rfl rfl rfl hl.1 rfl (Nat.le_of_ble_eq_true rfl) dX5_readLayer_73 ⟨Nat.le_of_ble_eq_true rfl, Nat.le_of_ble_eq_true rfl⟩ (fun r_27 hr_27 => ?_)
        have hr_27 : 0 ≤ r_27.toInt ∧ r_27.toInt ≤ 1 := hr_27
        refine lv_if_eq (tgt := 97) hx hb dX5_readLayer_76 (by decide) (fun c_28 => ?_) (fun c_28 => ?_)
        · have c_28 : r_27.toInt = 0 := ti_eq c_28
          have qc_28 : r_27 = 0 := ti_of (show r_27.toInt = 0 from by omega)
          refine lv_aload_n hx hb dX5_readLayer_97 rfl (lv_at hl 2 rfl) ?_
          refine va_ldcS (own := RX5) (index := 134) (tx := "spark") (q := ak 6) hx hb hown (hW0.2.2.2 6 (by decide)) dX5_readLayer_98 ?_
          refine kV_is (q0 := 0) (As := [.ref (ak 6)]) (rest := []) ⟨hx, hb, hml, hown, hts⟩ (s_R_isWord l D k ak av _ _ v_16 tf 6 (show 0 ≤ (v_16 3).toInt ∧ (v_16 3).toInt ≤ 900 from ⟨by omega, by omega⟩) (show 0 ≤ (v_16 5).toInt ∧ (v_16 5).toInt ≤ 900 from ⟨by omega, by omega⟩) (show 0 ≤ (v_16 6).toInt ∧ (v_16 6).toInt ≤ 900 from ⟨by omega, by omega⟩) (show 0 ≤ (v_16 7).toInt ∧ (v_16 7).toInt ≤ 900 from ⟨by omega, by omega⟩) (show (v_16 6).toInt ≤ (v_16 7).toInt from by omega) (show (v_16 7).toInt ≤ (v_16 5).toInt from by omega) (by omega)) (gV mw_185 mw_186 mw_187 mw_15 mw_188) hd_yX5_isWord rfl rfl ⟨Nat.le_of_ble_eq_true rfl, Nat.le_of_ble_eq_true rfl⟩ hK hN0 hW0 hS (hP.sub [3, 4] rfl) rfl rfl rfl rfl hl.1 rfl (Nat.le_of_ble_eq_true rfl) dX5_readLayer_100 ⟨Nat.le_of_ble_eq_true rfl, Nat.le_of_ble_eq_true rfl⟩ (fun r_29 hr_29 => ?_)
          have hr_29 : 0 ≤ r_29.toInt ∧ r_29.toInt ≤ 1 := hr_29
          refine lv_if_eq (tgt := 117) hx hb dX5_readLayer_103 (by decide) (fun c_30 => ?_) (fun c_30 => ?_)
          · have c_30 : r_29.toInt = 0 := ti_eq c_30
            have qc_30 : r_29 = 0 := ti_of (show r_29.toInt = 0 from by omega)
            refine lv_aload_n hx hb dX5_readLayer_117 rfl (lv_at hl 2 rfl) ?_
            refine va_get (D := D) (ci := 4) (v := .ref (rw 0)) (C := RX5) (T := TX5) (N := 10) hx hb hts inlX5 hown hK hP 3 rfl rfl 0 (by decide) (hts _ mw_47) (fun _ h9 => h9) rfl dX5_readLayer_118 ?_
            refine lv_iload_n hx hb dX5_readLayer_121 rfl (lv_at hl 3 rfl) ?_
            refine lv_iload_n hx hb dX5_readLayer_122 rfl (lv_at hl 4 rfl) ?_
            refine lv_iload hx hb dX5_readLayer_123 (lv_at hl 0 rfl) ?_
            refine kV_uv (q0 := 0) (As := [.int r, .int d, .int r_24]) (rest := []) (wr := [((rw 1), .inl (k 0, 10, .inl (g 1))), ((rd 0), .inr (4, [.ref (rw 0), .int (v_16 1), .int (v_16 2), .int (v_16 3), .ref (rd 1), .int (v_16 5), .int (v_16 6), .int (v_16 7), .int (v_16 8), .int (v_16 9)])), ((rd 1), .inl (k 2, 900, .inl tf))]) ⟨hx, hb, hml, hown, hts⟩ (s_W_setLayer l D k rw y g r d r_24 _ (show 0 ≤ (y 0).toInt ∧ (y 0).toInt ≤ 10 from ⟨by omega, by omega⟩) (show 0 ≤ (y 2).toInt ∧ (y 2).toInt ≤ 6 from ⟨by omega, by omega⟩) (show 0 ≤ (y 6).toInt ∧ (y 6).toInt ≤ 1 from ⟨by omega, by omega⟩) (show 0 ≤ r.toInt ∧ r.toInt ≤ 9 from ⟨by omega, by omega⟩) (show 0 ≤ d.toInt ∧ d.toInt ≤ 5 from ⟨by omega, by omega⟩)) (gV mw_266 mw_267 mw_268 mw_19 mw_269) hd_yX6_setLayer rfl rfl ⟨Nat.le_of_ble_eq_true rfl, Nat.le_of_ble_eq_true rfl⟩ hK hN0 hP hD hS hA [0, 2] [1, 3, 4] rfl rfl (by decide) (by decide) (by decide) rfl rfl rfl rfl hl.1 rfl (Nat.le_of_ble_eq_true rfl) dX5_readLayer_125 ⟨Nat.le_of_ble_eq_true rfl, Nat.le_of_ble_eq_true rfl⟩ (fun u_32 H locs hw hP hD hS => ?_)
            obtain ⟨v_33, rfl⟩ : ∃ z, z = u_32 := ⟨_, rfl⟩
            have hP : va_P D vwCl [((rw 1), .inl (k 0, 10, .inl (g 1))), ((rd 0), .inr (4, [.ref (rw 0), .int (v_16 1), .int (v_16 2), .int (v_16 3), .ref (rd 1), .int (v_16 5), .int (v_16 6), .int (v_16 7), .int (v_16 8), .int (v_16 9)])), ((rd 1), .inl (k 2, 900, .inl tf)), ((rw 0), .inr (5, [.int (y 0), .int (y 1), .int (y 2), .int (y 3), .int (y 4), .int (y 5), .int (y 6), .int (y 7), .int (y 8), .int (y 9), .int (y 10), .ref (rw 1), .ref (rw 2), .ref (rw 3), .ref (rw 4), .ref (rw 5)])), ((rw 3), .inl (k 0, 60, .inl (v_33 3)))] H := hP
            have hD : va_D A [((rw 1), .inl (k 0, 10, .inl (g 1))), ((rd 0), .inr (4, [.ref (rw 0), .int (v_16 1), .int (v_16 2), .int (v_16 3), .ref (rd 1), .int (v_16 5), .int (v_16 6), .int (v_16 7), .int (v_16 8), .int (v_16 9)])), ((rd 1), .inl (k 2, 900, .inl tf)), ((rw 0), .inr (5, [.int (y 0), .int (y 1), .int (y 2), .int (y 3), .int (y 4), .int (y 5), .int (y 6), .int (y 7), .int (y 8), .int (y 9), .int (y 10), .ref (rw 1), .ref (rw 2), .ref (rw 3), .ref (rw 4), .ref (rw 5)])), ((rw 3), .inl (k 0, 60, .inl (v_33 3)))] := hD
            refine lv_aload_n hx hb dX5_readLayer_128 rfl (lv_at hl 2 rfl) ?_
            refine va_get (D := D) (ci := 4) (v := .ref (rw 0)) (C := RX5) (T := TX5) (N := 10) hx hb hts inlX5 hown hK hP 1 rfl rfl 0 (by decide) (hts _ mw_47) (fun _ h9 => h9) rfl dX5_readLayer_129 ?_
            refine va_get (D := D) (ci := 5) (v := .ref (rw 1)) (C := RX6) (T := TX6) (N := 16) hx hb hts inlX6 hown hK hP 3 rfl rfl 11 (by decide) (hts _ mw_247) (fun _ h9 => h9) rfl dX5_readLayer_132 ?_
            refine lv_iload_n hx hb dX5_readLayer_135 rfl (lv_at hl 3 rfl) ?_
            refine lv_iload_n hx hb dX5_readLayer_136 rfl (lv_at hl 4 rfl) ?_
            refine lv_iconst (v := 1) hx hb dX5_readLayer_137 (by decide) ?_
            refine lv_iadd hx hb dX5_readLayer_138 ?_
            refine lv_topi (fun z_34 ez_34 => ?_)
            have tz_34 : z_34.toInt = d.toInt + 1 := by rw [ez_34]; exact ti_addc (by decide) (by omega) (by omega)
            refine va_iast hx hb hK hP hD hS 0 0 rfl rfl (vp_in_o (by omega) (by omega)) dX5_readLayer_139 (fun H locs hP hD hS => ?_)
            have hP : va_P D vwCl [((rw 1), .inl (k 0, 10, .inl (upd (g 1) r.toNatClampNeg z_34))), ((rd 0), .inr (4, [.ref (rw 0), .int (v_16 1), .int (v_16 2), .int (v_16 3), .ref (rd 1), .int (v_16 5), .int (v_16 6), .int (v_16 7), .int (v_16 8), .int (v_16 9)])), ((rd 1), .inl (k 2, 900, .inl tf)), ((rw 0), .inr (5, [.int (y 0), .int (y 1), .int (y 2), .int (y 3), .int (y 4), .int (y 5), .int (y 6), .int (y 7), .int (y 8), .int (y 9), .int (y 10), .ref (rw 1), .ref (rw 2), .ref (rw 3), .ref (rw 4), .ref (rw 5)])), ((rw 3), .inl (k 0, 60, .inl (v_33 3)))] H := hP
            have hD : va_D A [((rw 1), .inl (k 0, 10, .inl (upd (g 1) r.toNatClampNeg z_34))), ((rd 0), .inr (4, [.ref (rw 0), .int (v_16 1), .int (v_16 2), .int (v_16 3), .ref (rd 1), .int (v_16 5), .int (v_16 6), .int (v_16 7), .int (v_16 8), .int (v_16 9)])), ((rd 1), .inl (k 2, 900, .inl tf)), ((rw 0), .inr (5, [.int (y 0), .int (y 1), .int (y 2), .int (y 3), .int (y 4), .int (y 5), .int (y 6), .int (y 7), .int (y 8), .int (y 9), .int (y 10), .ref (rw 1), .ref (rw 2), .ref (rw 3), .ref (rw 4), .ref (rw 5)])), ((rw 3), .inl (k 0, 60, .inl (v_33 3)))] := hD
            generalize ef_35 : (upd (g 1) r.toNatClampNeg z_34) = f_35 at hP hD
            have hf_35 : ∀ j : Nat, 0 ≤ (f_35 j).toInt ∧ (f_35 j).toInt ≤ 6 := by rw [← ef_35]; exact upd_rng w_hd ⟨by omega, by omega⟩
            exact W.vret hx hb hr (fun t ht hW => ⟨⟨((va_seli [0, (v_16 1), (v_16 2), (v_16 3), 0, (v_16 5), (v_16 6), (v_16 7), (v_16 8), (v_16 9)]), (va_selg [(fun _ => 0), f_35, (fun _ => 0), (v_33 3)])), rfl, ⟨(show 0 ≤ (v_16 3).toInt ∧ (v_16 3).toInt ≤ 900 from ⟨by omega, by omega⟩), (show 0 ≤ (v_16 5).toInt ∧ (v_16 5).toInt ≤ 900 from ⟨by omega, by omega⟩), (show 0 ≤ (v_16 6).toInt ∧ (v_16 6).toInt ≤ 900 from ⟨by omega, by omega⟩), (show 0 ≤ (v_16 7).toInt ∧ (v_16 7).toInt ≤ 900 from ⟨by omega, by omega⟩), (show (v_16 6).toInt ≤ (v_16 7).toInt from by omega), (show (v_16 7).toInt ≤ (v_16 5).toInt from by omega), (show (v_16 3).toInt = (rf 3).toInt from by omega), (show ∀ j : Nat, 0 ≤ (f_35 j).toInt ∧ (f_35 j).toInt ≤ 6 from hf_35)⟩, by rw [ht]; exact hP.sub [1, 2, 3, 0, 4] rfl, hD.sub [1, 2, 3, 0, 4] (by decide) rfl⟩, hS.F ht⟩) hS.2.2 dX5_readLayer_140
          · have c_30 : r_29.toInt ≠ 0 := ti_ne c_30
            have qc_30 : r_29 = 1 := ti_of (show r_29.toInt = 1 from by omega)
            refine lv_iload hx hb dX5_readLayer_106 (lv_at hl 0 rfl) ?_
            refine kS_i (As := [.int r_24]) (rest := []) ⟨hx, hb, hml, hown, hts⟩ (s_L_withSpark l D k r_24) (gS mw_263 mw_264 mw_254 mw_265) hd_yX1_withSpark rfl rfl ⟨Nat.le_of_ble_eq_true rfl, Nat.le_of_ble_eq_true rfl⟩ hK hN0 (hP.sub [] rfl) rfl hl.1 rfl (Nat.le_of_ble_eq_true rfl) dX5_readLayer_108 ⟨Nat.le_of_ble_eq_true rfl, Nat.le_of_ble_eq_true rfl⟩ (fun r_36 hr_36 => ?_)
            refine lv_istore (lv' := [(4, .int r_36), (3, .int 0), (0, .ref (rd 0)), (1, .int r), (2, .int d)]) hx hb dX5_readLayer_111 hl (by decide) rfl (fun ls hl => ?_)
            refine lv_aload_n hx hb dX5_readLayer_113 rfl (lv_at hl 2 rfl) ?_
            refine kV_uv (q0 := 0) (As := []) (rest := []) (wr := [((rw 0), .inr (5, [.int (y 0), .int (y 1), .int (y 2), .int (y 3), .int (y 4), .int (y 5), .int (y 6), .int (y 7), .int (y 8), .int (y 9), .int (y 10), .ref (rw 1), .ref (rw 2), .ref (rw 3), .ref (rw 4), .ref (rw 5)])), ((rw 1), .inl (k 0, 10, .inl (g 1))), ((rw 3), .inl (k 0, 60, .inl (g 3)))]) ⟨hx, hb, hml, hown, hts⟩ (s_R_advance l D k _ _ v_16 tf _ (show 0 ≤ (v_16 3).toInt ∧ (v_16 3).toInt ≤ 900 from ⟨by omega, by omega⟩) (show 0 ≤ (v_16 5).toInt ∧ (v_16 5).toInt ≤ 900 from ⟨by omega, by omega⟩) (show 0 ≤ (v_16 7).toInt ∧ (v_16 7).toInt ≤ 900 from ⟨by omega, by omega⟩) (show (v_16 7).toInt ≤ (v_16 5).toInt from by omega)) (gV mw_159 mw_160 mw_161 mw_15 mw_162) hd_yX5_advance rfl rfl ⟨Nat.le_of_ble_eq_true rfl, Nat.le_of_ble_eq_true rfl⟩ hK hN0 hP hD hS hA [3, 4] [0, 1, 2] rfl rfl (by decide) (by decide) (by decide) rfl rfl rfl rfl hl.1 rfl (Nat.le_of_ble_eq_true rfl) dX5_readLayer_114 ⟨Nat.le_of_ble_eq_true rfl, Nat.le_of_ble_eq_true rfl⟩ (fun u_38 H locs hw hP hD hS => ?_)
            obtain ⟨v_39, rfl⟩ : ∃ z, z = u_38 := ⟨_, rfl⟩
            obtain ⟨h_40, h_41, h_42, h_43, h_44, h_45, h_46⟩ := hw
            have h_40 : 0 ≤ (v_39 3).toInt ∧ (v_39 3).toInt ≤ 900 := h_40
            have h_41 : 0 ≤ (v_39 5).toInt ∧ (v_39 5).toInt ≤ 900 := h_41
            have h_42 : 0 ≤ (v_39 6).toInt ∧ (v_39 6).toInt ≤ 900 := h_42
            have h_43 : 0 ≤ (v_39 7).toInt ∧ (v_39 7).toInt ≤ 900 := h_43
            have h_44 : (v_39 6).toInt ≤ (v_39 7).toInt := h_44
            have h_45 : (v_39 7).toInt ≤ (v_39 5).toInt := h_45
            have h_46 : (v_39 3).toInt = (v_16 3).toInt := h_46
            have hP : va_P D vwCl [((rw 0), .inr (5, [.int (y 0), .int (y 1), .int (y 2), .int (y 3), .int (y 4), .int (y 5), .int (y 6), .int (y 7), .int (y 8), .int (y 9), .int (y 10), .ref (rw 1), .ref (rw 2), .ref (rw 3), .ref (rw 4), .ref (rw 5)])), ((rw 1), .inl (k 0, 10, .inl (g 1))), ((rw 3), .inl (k 0, 60, .inl (g 3))), ((rd 0), .inr (4, [.ref (rw 0), .int (v_39 1), .int (v_39 2), .int (v_39 3), .ref (rd 1), .int (v_39 5), .int (v_39 6), .int (v_39 7), .int (v_39 8), .int (v_39 9)])), ((rd 1), .inl (k 2, 900, .inl tf))] H := hP
            have hD : va_D A [((rw 0), .inr (5, [.int (y 0), .int (y 1), .int (y 2), .int (y 3), .int (y 4), .int (y 5), .int (y 6), .int (y 7), .int (y 8), .int (y 9), .int (y 10), .ref (rw 1), .ref (rw 2), .ref (rw 3), .ref (rw 4), .ref (rw 5)])), ((rw 1), .inl (k 0, 10, .inl (g 1))), ((rw 3), .inl (k 0, 60, .inl (g 3))), ((rd 0), .inr (4, [.ref (rw 0), .int (v_39 1), .int (v_39 2), .int (v_39 3), .ref (rd 1), .int (v_39 5), .int (v_39 6), .int (v_39 7), .int (v_39 8), .int (v_39 9)])), ((rd 1), .inl (k 2, 900, .inl tf))] := hD
            refine lv_aload_n hx hb dX5_readLayer_117 rfl (lv_at hl 2 rfl) ?_
            refine va_get (D := D) (ci := 4) (v := .ref (rw 0)) (C := RX5) (T := TX5) (N := 10) hx hb hts inlX5 hown hK hP 3 rfl rfl 0 (by decide) (hts _ mw_47) (fun _ h9 => h9) rfl dX5_readLayer_118 ?_
            refine lv_iload_n hx hb dX5_readLayer_121 rfl (lv_at hl 3 rfl) ?_
            refine lv_iload_n hx hb dX5_readLayer_122 rfl (lv_at hl 4 rfl) ?_
            refine lv_iload hx hb dX5_readLayer_123 (lv_at hl 0 rfl) ?_
            refine kV_uv (q0 := 0) (As := [.int r, .int d, .int r_36]) (rest := []) (wr := [((rw 1), .inl (k 0, 10, .inl (g 1))), ((rd 0), .inr (4, [.ref (rw 0), .int (v_39 1), .int (v_39 2), .int (v_39 3), .ref (rd 1), .int (v_39 5), .int (v_39 6), .int (v_39 7), .int (v_39 8), .int (v_39 9)])), ((rd 1), .inl (k 2, 900, .inl tf))]) ⟨hx, hb, hml, hown, hts⟩ (s_W_setLayer l D k rw y g r d r_36 _ (show 0 ≤ (y 0).toInt ∧ (y 0).toInt ≤ 10 from ⟨by omega, by omega⟩) (show 0 ≤ (y 2).toInt ∧ (y 2).toInt ≤ 6 from ⟨by omega, by omega⟩) (show 0 ≤ (y 6).toInt ∧ (y 6).toInt ≤ 1 from ⟨by omega, by omega⟩) (show 0 ≤ r.toInt ∧ r.toInt ≤ 9 from ⟨by omega, by omega⟩) (show 0 ≤ d.toInt ∧ d.toInt ≤ 5 from ⟨by omega, by omega⟩)) (gV mw_266 mw_267 mw_268 mw_19 mw_269) hd_yX6_setLayer rfl rfl ⟨Nat.le_of_ble_eq_true rfl, Nat.le_of_ble_eq_true rfl⟩ hK hN0 hP hD hS hA [0, 2] [1, 3, 4] rfl rfl (by decide) (by decide) (by decide) rfl rfl rfl rfl hl.1 rfl (Nat.le_of_ble_eq_true rfl) dX5_readLayer_125 ⟨Nat.le_of_ble_eq_true rfl, Nat.le_of_ble_eq_true rfl⟩ (fun u_48 H locs hw hP hD hS => ?_)
            obtain ⟨v_49, rfl⟩ : ∃ z, z = u_48 := ⟨_, rfl⟩
            have hP : va_P D vwCl [((rw 1), .inl (k 0, 10, .inl (g 1))), ((rd 0), .inr (4, [.ref (rw 0), .int (v_39 1), .int (v_39 2), .int (v_39 3), .ref (rd 1), .int (v_39 5), .int (v_39 6), .int (v_39 7), .int (v_39 8), .int (v_39 9)])), ((rd 1), .inl (k 2, 900, .inl tf)), ((rw 0), .inr (5, [.int (y 0), .int (y 1), .int (y 2), .int (y 3), .int (y 4), .int (y 5), .int (y 6), .int (y 7), .int (y 8), .int (y 9), .int (y 10), .ref (rw 1), .ref (rw 2), .ref (rw 3), .ref (rw 4), .ref (rw 5)])), ((rw 3), .inl (k 0, 60, .inl (v_49 3)))] H := hP
            have hD : va_D A [((rw 1), .inl (k 0, 10, .inl (g 1))), ((rd 0), .inr (4, [.ref (rw 0), .int (v_39 1), .int (v_39 2), .int (v_39 3), .ref (rd 1), .int (v_39 5), .int (v_39 6), .int (v_39 7), .int (v_39 8), .int (v_39 9)])), ((rd 1), .inl (k 2, 900, .inl tf)), ((rw 0), .inr (5, [.int (y 0), .int (y 1), .int (y 2), .int (y 3), .int (y 4), .int (y 5), .int (y 6), .int (y 7), .int (y 8), .int (y 9), .int (y 10), .ref (rw 1), .ref (rw 2), .ref (rw 3), .ref (rw 4), .ref (rw 5)])), ((rw 3), .inl (k 0, 60, .inl (v_49 3)))] := hD
            refine lv_aload_n hx hb dX5_readLayer_128 rfl (lv_at hl 2 rfl) ?_
            refine va_get (D := D) (ci := 4) (v := .ref (rw 0)) (C := RX5) (T := TX5) (N := 10) hx hb hts inlX5 hown hK hP 1 rfl rfl 0 (by decide) (hts _ mw_47) (fun _ h9 => h9) rfl dX5_readLayer_129 ?_
            refine va_get (D := D) (ci := 5) (v := .ref (rw 1)) (C := RX6) (T := TX6) (N := 16) hx hb hts inlX6 hown hK hP 3 rfl rfl 11 (by decide) (hts _ mw_247) (fun _ h9 => h9) rfl dX5_readLayer_132 ?_
            refine lv_iload_n hx hb dX5_readLayer_135 rfl (lv_at hl 3 rfl) ?_
            refine lv_iload_n hx hb dX5_readLayer_136 rfl (lv_at hl 4 rfl) ?_
            refine lv_iconst (v := 1) hx hb dX5_readLayer_137 (by decide) ?_
            refine lv_iadd hx hb dX5_readLayer_138 ?_
            refine lv_topi (fun z_50 ez_50 => ?_)
            have tz_50 : z_50.toInt = d.toInt + 1 := by rw [ez_50]; exact ti_addc (by decide) (by omega) (by omega)
            refine va_iast hx hb hK hP hD hS 0 0 rfl rfl (vp_in_o (by omega) (by omega)) dX5_readLayer_139 (fun H locs hP hD hS => ?_)
            have hP : va_P D vwCl [((rw 1), .inl (k 0, 10, .inl (upd (g 1) r.toNatClampNeg z_50))), ((rd 0), .inr (4, [.ref (rw 0), .int (v_39 1), .int (v_39 2), .int (v_39 3), .ref (rd 1), .int (v_39 5), .int (v_39 6), .int (v_39 7), .int (v_39 8), .int (v_39 9)])), ((rd 1), .inl (k 2, 900, .inl tf)), ((rw 0), .inr (5, [.int (y 0), .int (y 1), .int (y 2), .int (y 3), .int (y 4), .int (y 5), .int (y 6), .int (y 7), .int (y 8), .int (y 9), .int (y 10), .ref (rw 1), .ref (rw 2), .ref (rw 3), .ref (rw 4), .ref (rw 5)])), ((rw 3), .inl (k 0, 60, .inl (v_49 3)))] H := hP
            have hD : va_D A [((rw 1), .inl (k 0, 10, .inl (upd (g 1) r.toNatClampNeg z_50))), ((rd 0), .inr (4, [.ref (rw 0), .int (v_39 1), .int (v_39 2), .int (v_39 3), .ref (rd 1), .int (v_39 5), .int (v_39 6), .int (v_39 7), .int (v_39 8), .int (v_39 9)])), ((rd 1), .inl (k 2, 900, .inl tf)), ((rw 0), .inr (5, [.int (y 0), .int (y 1), .int (y 2), .int (y 3), .int (y 4), .int (y 5), .int (y 6), .int (y 7), .int (y 8), .int (y 9), .int (y 10), .ref (rw 1), .ref (rw 2), .ref (rw 3), .ref (rw 4), .ref (rw 5)])), ((rw 3), .inl (k 0, 60, .inl (v_49 3)))] := hD
            generalize ef_51 : (upd (g 1) r.toNatClampNeg z_50) = f_51 at hP hD
            have hf_51 : ∀ j : Nat, 0 ≤ (f_51 j).toInt ∧ (f_51 j).toInt ≤ 6 := by rw [← ef_51]; exact upd_rng w_hd ⟨by omega, by omega⟩
            exact W.vret hx hb hr (fun t ht hW => ⟨⟨((va_seli [0, (v_39 1), (v_39 2), (v_39 3), 0, (v_39 5), (v_39 6), (v_39 7), (v_39 8), (v_39 9)]), (va_selg [(fun _ => 0), f_51, (fun _ => 0), (v_49 3)])), rfl, ⟨(show 0 ≤ (v_39 3).toInt ∧ (v_39 3).toInt ≤ 900 from ⟨by omega, by omega⟩), (show 0 ≤ (v_39 5).toInt ∧ (v_39 5).toInt ≤ 900 from ⟨by omega, by omega⟩), (show 0 ≤ (v_39 6).toInt ∧ (v_39 6).toInt ≤ 900 from ⟨by omega, by omega⟩), (show 0 ≤ (v_39 7).toInt ∧ (v_39 7).toInt ≤ 900 from ⟨by omega, by omega⟩), (show (v_39 6).toInt ≤ (v_39 7).toInt from by omega), (show (v_39 7).toInt ≤ (v_39 5).toInt from by omega), (show (v_39 3).toInt = (rf 3).toInt from by omega), (show ∀ j : Nat, 0 ≤ (f_51 j).toInt ∧ (f_51 j).toInt ≤ 6 from hf_51)⟩, by rw [ht]; exact hP.sub [1, 2, 3, 0, 4] rfl, hD.sub [1, 2, 3, 0, 4] (by decide) rfl⟩, hS.F ht⟩) hS.2.2 dX5_readLayer_140
        · have c_28 : r_27.toInt ≠ 0 := ti_ne c_28
          have qc_28 : r_27 = 1 := ti_of (show r_27.toInt = 1 from by omega)
          refine lv_aload_n hx hb dX5_readLayer_79 rfl (lv_at hl 2 rfl) ?_
          refine kV_uv (q0 := 0) (As := []) (rest := []) (wr := [((rw 0), .inr (5, [.int (y 0), .int (y 1), .int (y 2), .int (y 3), .int (y 4), .int (y 5), .int (y 6), .int (y 7), .int (y 8), .int (y 9), .int (y 10), .ref (rw 1), .ref (rw 2), .ref (rw 3), .ref (rw 4), .ref (rw 5)])), ((rw 1), .inl (k 0, 10, .inl (g 1))), ((rw 3), .inl (k 0, 60, .inl (g 3)))]) ⟨hx, hb, hml, hown, hts⟩ (s_R_advance l D k _ _ v_16 tf _ (show 0 ≤ (v_16 3).toInt ∧ (v_16 3).toInt ≤ 900 from ⟨by omega, by omega⟩) (show 0 ≤ (v_16 5).toInt ∧ (v_16 5).toInt ≤ 900 from ⟨by omega, by omega⟩) (show 0 ≤ (v_16 7).toInt ∧ (v_16 7).toInt ≤ 900 from ⟨by omega, by omega⟩) (show (v_16 7).toInt ≤ (v_16 5).toInt from by omega)) (gV mw_159 mw_160 mw_161 mw_15 mw_162) hd_yX5_advance rfl rfl ⟨Nat.le_of_ble_eq_true rfl, Nat.le_of_ble_eq_true rfl⟩ hK hN0 hP hD hS hA [3, 4] [0, 1, 2] rfl rfl (by decide) (by decide) (by decide) rfl rfl rfl rfl hl.1 rfl (Nat.le_of_ble_eq_true rfl) dX5_readLayer_80 ⟨Nat.le_of_ble_eq_true rfl, Nat.le_of_ble_eq_true rfl⟩ (fun u_53 H locs hw hP hD hS => ?_)
          obtain ⟨v_54, rfl⟩ : ∃ z, z = u_53 := ⟨_, rfl⟩
          obtain ⟨h_55, h_56, h_57, h_58, h_59, h_60, h_61⟩ := hw
          have h_55 : 0 ≤ (v_54 3).toInt ∧ (v_54 3).toInt ≤ 900 := h_55
          have h_56 : 0 ≤ (v_54 5).toInt ∧ (v_54 5).toInt ≤ 900 := h_56
          have h_57 : 0 ≤ (v_54 6).toInt ∧ (v_54 6).toInt ≤ 900 := h_57
          have h_58 : 0 ≤ (v_54 7).toInt ∧ (v_54 7).toInt ≤ 900 := h_58
          have h_59 : (v_54 6).toInt ≤ (v_54 7).toInt := h_59
          have h_60 : (v_54 7).toInt ≤ (v_54 5).toInt := h_60
          have h_61 : (v_54 3).toInt = (v_16 3).toInt := h_61
          have hP : va_P D vwCl [((rw 0), .inr (5, [.int (y 0), .int (y 1), .int (y 2), .int (y 3), .int (y 4), .int (y 5), .int (y 6), .int (y 7), .int (y 8), .int (y 9), .int (y 10), .ref (rw 1), .ref (rw 2), .ref (rw 3), .ref (rw 4), .ref (rw 5)])), ((rw 1), .inl (k 0, 10, .inl (g 1))), ((rw 3), .inl (k 0, 60, .inl (g 3))), ((rd 0), .inr (4, [.ref (rw 0), .int (v_54 1), .int (v_54 2), .int (v_54 3), .ref (rd 1), .int (v_54 5), .int (v_54 6), .int (v_54 7), .int (v_54 8), .int (v_54 9)])), ((rd 1), .inl (k 2, 900, .inl tf))] H := hP
          have hD : va_D A [((rw 0), .inr (5, [.int (y 0), .int (y 1), .int (y 2), .int (y 3), .int (y 4), .int (y 5), .int (y 6), .int (y 7), .int (y 8), .int (y 9), .int (y 10), .ref (rw 1), .ref (rw 2), .ref (rw 3), .ref (rw 4), .ref (rw 5)])), ((rw 1), .inl (k 0, 10, .inl (g 1))), ((rw 3), .inl (k 0, 60, .inl (g 3))), ((rd 0), .inr (4, [.ref (rw 0), .int (v_54 1), .int (v_54 2), .int (v_54 3), .ref (rd 1), .int (v_54 5), .int (v_54 6), .int (v_54 7), .int (v_54 8), .int (v_54 9)])), ((rd 1), .inl (k 2, 900, .inl tf))] := hD
          refine lv_iload hx hb dX5_readLayer_83 (lv_at hl 0 rfl) ?_
          refine lv_aload_n hx hb dX5_readLayer_85 rfl (lv_at hl 2 rfl) ?_
          refine lv_iconst (v := 1) hx hb dX5_readLayer_86 (by decide) ?_
          refine lv_bipush (v := 99) hx hb dX5_readLayer_87 (by decide) ?_
          refine kV_ui (q0 := 0) (As := [.int 1, .int 99]) (rest := [.int r_24]) (wr := [((rw 0), .inr (5, [.int (y 0), .int (y 1), .int (y 2), .int (y 3), .int (y 4), .int (y 5), .int (y 6), .int (y 7), .int (y 8), .int (y 9), .int (y 10), .ref (rw 1), .ref (rw 2), .ref (rw 3), .ref (rw 4), .ref (rw 5)])), ((rw 1), .inl (k 0, 10, .inl (g 1))), ((rw 3), .inl (k 0, 60, .inl (g 3)))]) ⟨hx, hb, hml, hown, hts⟩ (s_R_readNumber l D k _ _ v_54 tf 1 99 _ (show 0 ≤ (v_54 3).toInt ∧ (v_54 3).toInt ≤ 900 from ⟨by omega, by omega⟩) (show 0 ≤ (v_54 5).toInt ∧ (v_54 5).toInt ≤ 900 from ⟨by omega, by omega⟩) (show 0 ≤ (v_54 6).toInt ∧ (v_54 6).toInt ≤ 900 from ⟨by omega, by omega⟩) (show 0 ≤ (v_54 7).toInt ∧ (v_54 7).toInt ≤ 900 from ⟨by omega, by omega⟩) (show (v_54 6).toInt ≤ (v_54 7).toInt from by omega) (show (v_54 7).toInt ≤ (v_54 5).toInt from by omega)) (gV mw_248 mw_249 mw_250 mw_15 mw_251) hd_yX5_readNumber rfl rfl ⟨Nat.le_of_ble_eq_true rfl, Nat.le_of_ble_eq_true rfl⟩ hK hN0 hP hD hS hA [3, 4] [0, 1, 2] rfl rfl (by decide) (by decide) (by decide) rfl rfl rfl rfl hl.1 rfl (Nat.le_of_ble_eq_true rfl) dX5_readLayer_89 ⟨Nat.le_of_ble_eq_true rfl, Nat.le_of_ble_eq_true rfl⟩ (fun r_62 u_63 H locs hw hP hD hS => ?_)
          obtain ⟨v_64, rfl⟩ : ∃ z, z = u_63 := ⟨_, rfl⟩
          obtain ⟨hr_62, h_65, h_66, h_67, h_68, h_69, h_70, h_71⟩ := hw
          have h_65 : 0 ≤ (v_64 3).toInt ∧ (v_64 3).toInt ≤ 900 := h_65
          have h_66 : 0 ≤ (v_64 5).toInt ∧ (v_64 5).toInt ≤ 900 := h_66
          have h_67 : 0 ≤ (v_64 6).toInt ∧ (v_64 6).toInt ≤ 900 := h_67
          have h_68 : 0 ≤ (v_64 7).toInt ∧ (v_64 7).toInt ≤ 900 := h_68
          have h_69 : (v_64 6).toInt ≤ (v_64 7).toInt := h_69
          have h_70 : (v_64 7).toInt ≤ (v_64 5).toInt := h_70
          have h_71 : (v_64 3).toInt = (v_54 3).toInt := h_71
          have hP : va_P D vwCl [((rw 0), .inr (5, [.int (y 0), .int (y 1), .int (y 2), .int (y 3), .int (y 4), .int (y 5), .int (y 6), .int (y 7), .int (y 8), .int (y 9), .int (y 10), .ref (rw 1), .ref (rw 2), .ref (rw 3), .ref (rw 4), .ref (rw 5)])), ((rw 1), .inl (k 0, 10, .inl (g 1))), ((rw 3), .inl (k 0, 60, .inl (g 3))), ((rd 0), .inr (4, [.ref (rw 0), .int (v_64 1), .int (v_64 2), .int (v_64 3), .ref (rd 1), .int (v_64 5), .int (v_64 6), .int (v_64 7), .int (v_64 8), .int (v_64 9)])), ((rd 1), .inl (k 2, 900, .inl tf))] H := hP
          have hD : va_D A [((rw 0), .inr (5, [.int (y 0), .int (y 1), .int (y 2), .int (y 3), .int (y 4), .int (y 5), .int (y 6), .int (y 7), .int (y 8), .int (y 9), .int (y 10), .ref (rw 1), .ref (rw 2), .ref (rw 3), .ref (rw 4), .ref (rw 5)])), ((rw 1), .inl (k 0, 10, .inl (g 1))), ((rw 3), .inl (k 0, 60, .inl (g 3))), ((rd 0), .inr (4, [.ref (rw 0), .int (v_64 1), .int (v_64 2), .int (v_64 3), .ref (rd 1), .int (v_64 5), .int (v_64 6), .int (v_64 7), .int (v_64 8), .int (v_64 9)])), ((rd 1), .inl (k 2, 900, .inl tf))] := hD
          refine kS_i (As := [.int r_24, .int r_62]) (rest := []) ⟨hx, hb, hml, hown, hts⟩ (s_L_withMice l D k r_24 r_62) (gS mw_259 mw_260 mw_254 mw_261) hd_yX1_withMice rfl rfl ⟨Nat.le_of_ble_eq_true rfl, Nat.le_of_ble_eq_true rfl⟩ hK hN0 (hP.sub [] rfl) rfl hl.1 rfl (Nat.le_of_ble_eq_true rfl) dX5_readLayer_92 ⟨Nat.le_of_ble_eq_true rfl, Nat.le_of_ble_eq_true rfl⟩ (fun r_72 hr_72 => ?_)
          refine lv_istore (lv' := [(4, .int r_72), (3, .int 0), (0, .ref (rd 0)), (1, .int r), (2, .int d)]) hx hb dX5_readLayer_95 hl (by decide) rfl (fun ls hl => ?_)
          refine lv_aload_n hx hb dX5_readLayer_97 rfl (lv_at hl 2 rfl) ?_
          refine va_ldcS (own := RX5) (index := 134) (tx := "spark") (q := ak 6) hx hb hown (hW0.2.2.2 6 (by decide)) dX5_readLayer_98 ?_
          refine kV_is (q0 := 0) (As := [.ref (ak 6)]) (rest := []) ⟨hx, hb, hml, hown, hts⟩ (s_R_isWord l D k ak av _ _ v_64 tf 6 (show 0 ≤ (v_64 3).toInt ∧ (v_64 3).toInt ≤ 900 from ⟨by omega, by omega⟩) (show 0 ≤ (v_64 5).toInt ∧ (v_64 5).toInt ≤ 900 from ⟨by omega, by omega⟩) (show 0 ≤ (v_64 6).toInt ∧ (v_64 6).toInt ≤ 900 from ⟨by omega, by omega⟩) (show 0 ≤ (v_64 7).toInt ∧ (v_64 7).toInt ≤ 900 from ⟨by omega, by omega⟩) (show (v_64 6).toInt ≤ (v_64 7).toInt from by omega) (show (v_64 7).toInt ≤ (v_64 5).toInt from by omega) (by omega)) (gV mw_185 mw_186 mw_187 mw_15 mw_188) hd_yX5_isWord rfl rfl ⟨Nat.le_of_ble_eq_true rfl, Nat.le_of_ble_eq_true rfl⟩ hK hN0 hW0 hS (hP.sub [3, 4] rfl) rfl rfl rfl rfl hl.1 rfl (Nat.le_of_ble_eq_true rfl) dX5_readLayer_100 ⟨Nat.le_of_ble_eq_true rfl, Nat.le_of_ble_eq_true rfl⟩ (fun r_73 hr_73 => ?_)
          have hr_73 : 0 ≤ r_73.toInt ∧ r_73.toInt ≤ 1 := hr_73
          refine lv_if_eq (tgt := 117) hx hb dX5_readLayer_103 (by decide) (fun c_74 => ?_) (fun c_74 => ?_)
          · have c_74 : r_73.toInt = 0 := ti_eq c_74
            have qc_74 : r_73 = 0 := ti_of (show r_73.toInt = 0 from by omega)
            refine lv_aload_n hx hb dX5_readLayer_117 rfl (lv_at hl 2 rfl) ?_
            refine va_get (D := D) (ci := 4) (v := .ref (rw 0)) (C := RX5) (T := TX5) (N := 10) hx hb hts inlX5 hown hK hP 3 rfl rfl 0 (by decide) (hts _ mw_47) (fun _ h9 => h9) rfl dX5_readLayer_118 ?_
            refine lv_iload_n hx hb dX5_readLayer_121 rfl (lv_at hl 3 rfl) ?_
            refine lv_iload_n hx hb dX5_readLayer_122 rfl (lv_at hl 4 rfl) ?_
            refine lv_iload hx hb dX5_readLayer_123 (lv_at hl 0 rfl) ?_
            refine kV_uv (q0 := 0) (As := [.int r, .int d, .int r_72]) (rest := []) (wr := [((rw 1), .inl (k 0, 10, .inl (g 1))), ((rd 0), .inr (4, [.ref (rw 0), .int (v_64 1), .int (v_64 2), .int (v_64 3), .ref (rd 1), .int (v_64 5), .int (v_64 6), .int (v_64 7), .int (v_64 8), .int (v_64 9)])), ((rd 1), .inl (k 2, 900, .inl tf))]) ⟨hx, hb, hml, hown, hts⟩ (s_W_setLayer l D k rw y g r d r_72 _ (show 0 ≤ (y 0).toInt ∧ (y 0).toInt ≤ 10 from ⟨by omega, by omega⟩) (show 0 ≤ (y 2).toInt ∧ (y 2).toInt ≤ 6 from ⟨by omega, by omega⟩) (show 0 ≤ (y 6).toInt ∧ (y 6).toInt ≤ 1 from ⟨by omega, by omega⟩) (show 0 ≤ r.toInt ∧ r.toInt ≤ 9 from ⟨by omega, by omega⟩) (show 0 ≤ d.toInt ∧ d.toInt ≤ 5 from ⟨by omega, by omega⟩)) (gV mw_266 mw_267 mw_268 mw_19 mw_269) hd_yX6_setLayer rfl rfl ⟨Nat.le_of_ble_eq_true rfl, Nat.le_of_ble_eq_true rfl⟩ hK hN0 hP hD hS hA [0, 2] [1, 3, 4] rfl rfl (by decide) (by decide) (by decide) rfl rfl rfl rfl hl.1 rfl (Nat.le_of_ble_eq_true rfl) dX5_readLayer_125 ⟨Nat.le_of_ble_eq_true rfl, Nat.le_of_ble_eq_true rfl⟩ (fun u_76 H locs hw hP hD hS => ?_)
            obtain ⟨v_77, rfl⟩ : ∃ z, z = u_76 := ⟨_, rfl⟩
            have hP : va_P D vwCl [((rw 1), .inl (k 0, 10, .inl (g 1))), ((rd 0), .inr (4, [.ref (rw 0), .int (v_64 1), .int (v_64 2), .int (v_64 3), .ref (rd 1), .int (v_64 5), .int (v_64 6), .int (v_64 7), .int (v_64 8), .int (v_64 9)])), ((rd 1), .inl (k 2, 900, .inl tf)), ((rw 0), .inr (5, [.int (y 0), .int (y 1), .int (y 2), .int (y 3), .int (y 4), .int (y 5), .int (y 6), .int (y 7), .int (y 8), .int (y 9), .int (y 10), .ref (rw 1), .ref (rw 2), .ref (rw 3), .ref (rw 4), .ref (rw 5)])), ((rw 3), .inl (k 0, 60, .inl (v_77 3)))] H := hP
            have hD : va_D A [((rw 1), .inl (k 0, 10, .inl (g 1))), ((rd 0), .inr (4, [.ref (rw 0), .int (v_64 1), .int (v_64 2), .int (v_64 3), .ref (rd 1), .int (v_64 5), .int (v_64 6), .int (v_64 7), .int (v_64 8), .int (v_64 9)])), ((rd 1), .inl (k 2, 900, .inl tf)), ((rw 0), .inr (5, [.int (y 0), .int (y 1), .int (y 2), .int (y 3), .int (y 4), .int (y 5), .int (y 6), .int (y 7), .int (y 8), .int (y 9), .int (y 10), .ref (rw 1), .ref (rw 2), .ref (rw 3), .ref (rw 4), .ref (rw 5)])), ((rw 3), .inl (k 0, 60, .inl (v_77 3)))] := hD
            refine lv_aload_n hx hb dX5_readLayer_128 rfl (lv_at hl 2 rfl) ?_
            refine va_get (D := D) (ci := 4) (v := .ref (rw 0)) (C := RX5) (T := TX5) (N := 10) hx hb hts inlX5 hown hK hP 1 rfl rfl 0 (by decide) (hts _ mw_47) (fun _ h9 => h9) rfl dX5_readLayer_129 ?_
            refine va_get (D := D) (ci := 5) (v := .ref (rw 1)) (C := RX6) (T := TX6) (N := 16) hx hb hts inlX6 hown hK hP 3 rfl rfl 11 (by decide) (hts _ mw_247) (fun _ h9 => h9) rfl dX5_readLayer_132 ?_
            refine lv_iload_n hx hb dX5_readLayer_135 rfl (lv_at hl 3 rfl) ?_
            refine lv_iload_n hx hb dX5_readLayer_136 rfl (lv_at hl 4 rfl) ?_
            refine lv_iconst (v := 1) hx hb dX5_readLayer_137 (by decide) ?_
            refine lv_iadd hx hb dX5_readLayer_138 ?_
            refine lv_topi (fun z_78 ez_78 => ?_)
            have tz_78 : z_78.toInt = d.toInt + 1 := by rw [ez_78]; exact ti_addc (by decide) (by omega) (by omega)
            refine va_iast hx hb hK hP hD hS 0 0 rfl rfl (vp_in_o (by omega) (by omega)) dX5_readLayer_139 (fun H locs hP hD hS => ?_)
            have hP : va_P D vwCl [((rw 1), .inl (k 0, 10, .inl (upd (g 1) r.toNatClampNeg z_78))), ((rd 0), .inr (4, [.ref (rw 0), .int (v_64 1), .int (v_64 2), .int (v_64 3), .ref (rd 1), .int (v_64 5), .int (v_64 6), .int (v_64 7), .int (v_64 8), .int (v_64 9)])), ((rd 1), .inl (k 2, 900, .inl tf)), ((rw 0), .inr (5, [.int (y 0), .int (y 1), .int (y 2), .int (y 3), .int (y 4), .int (y 5), .int (y 6), .int (y 7), .int (y 8), .int (y 9), .int (y 10), .ref (rw 1), .ref (rw 2), .ref (rw 3), .ref (rw 4), .ref (rw 5)])), ((rw 3), .inl (k 0, 60, .inl (v_77 3)))] H := hP
            have hD : va_D A [((rw 1), .inl (k 0, 10, .inl (upd (g 1) r.toNatClampNeg z_78))), ((rd 0), .inr (4, [.ref (rw 0), .int (v_64 1), .int (v_64 2), .int (v_64 3), .ref (rd 1), .int (v_64 5), .int (v_64 6), .int (v_64 7), .int (v_64 8), .int (v_64 9)])), ((rd 1), .inl (k 2, 900, .inl tf)), ((rw 0), .inr (5, [.int (y 0), .int (y 1), .int (y 2), .int (y 3), .int (y 4), .int (y 5), .int (y 6), .int (y 7), .int (y 8), .int (y 9), .int (y 10), .ref (rw 1), .ref (rw 2), .ref (rw 3), .ref (rw 4), .ref (rw 5)])), ((rw 3), .inl (k 0, 60, .inl (v_77 3)))] := hD
            generalize ef_79 : (upd (g 1) r.toNatClampNeg z_78) = f_79 at hP hD
            have hf_79 : ∀ j : Nat, 0 ≤ (f_79 j).toInt ∧ (f_79 j).toInt ≤ 6 := by rw [← ef_79]; exact upd_rng w_hd ⟨by omega, by omega⟩
            exact W.vret hx hb hr (fun t ht hW => ⟨⟨((va_seli [0, (v_64 1), (v_64 2), (v_64 3), 0, (v_64 5), (v_64 6), (v_64 7), (v_64 8), (v_64 9)]), (va_selg [(fun _ => 0), f_79, (fun _ => 0), (v_77 3)])), rfl, ⟨(show 0 ≤ (v_64 3).toInt ∧ (v_64 3).toInt ≤ 900 from ⟨by omega, by omega⟩), (show 0 ≤ (v_64 5).toInt ∧ (v_64 5).toInt ≤ 900 from ⟨by omega, by omega⟩), (show 0 ≤ (v_64 6).toInt ∧ (v_64 6).toInt ≤ 900 from ⟨by omega, by omega⟩), (show 0 ≤ (v_64 7).toInt ∧ (v_64 7).toInt ≤ 900 from ⟨by omega, by omega⟩), (show (v_64 6).toInt ≤ (v_64 7).toInt from by omega), (show (v_64 7).toInt ≤ (v_64 5).toInt from by omega), (show (v_64 3).toInt = (rf 3).toInt from by omega), (show ∀ j : Nat, 0 ≤ (f_79 j).toInt ∧ (f_79 j).toInt ≤ 6 from hf_79)⟩, by rw [ht]; exact hP.sub [1, 2, 3, 0, 4] rfl, hD.sub [1, 2, 3, 0, 4] (by decide) rfl⟩, hS.F ht⟩) hS.2.2 dX5_readLayer_140
          · have c_74 : r_73.toInt ≠ 0 := ti_ne c_74
            have qc_74 : r_73 = 1 := ti_of (show r_73.toInt = 1 from by omega)
            refine lv_iload hx hb dX5_readLayer_106 (lv_at hl 0 rfl) ?_
            refine kS_i (As := [.int r_72]) (rest := []) ⟨hx, hb, hml, hown, hts⟩ (s_L_withSpark l D k r_72) (gS mw_263 mw_264 mw_254 mw_265) hd_yX1_withSpark rfl rfl ⟨Nat.le_of_ble_eq_true rfl, Nat.le_of_ble_eq_true rfl⟩ hK hN0 (hP.sub [] rfl) rfl hl.1 rfl (Nat.le_of_ble_eq_true rfl) dX5_readLayer_108 ⟨Nat.le_of_ble_eq_true rfl, Nat.le_of_ble_eq_true rfl⟩ (fun r_80 hr_80 => ?_)
            refine lv_istore (lv' := [(4, .int r_80), (3, .int 0), (0, .ref (rd 0)), (1, .int r), (2, .int d)]) hx hb dX5_readLayer_111 hl (by decide) rfl (fun ls hl => ?_)
            refine lv_aload_n hx hb dX5_readLayer_113 rfl (lv_at hl 2 rfl) ?_
            refine kV_uv (q0 := 0) (As := []) (rest := []) (wr := [((rw 0), .inr (5, [.int (y 0), .int (y 1), .int (y 2), .int (y 3), .int (y 4), .int (y 5), .int (y 6), .int (y 7), .int (y 8), .int (y 9), .int (y 10), .ref (rw 1), .ref (rw 2), .ref (rw 3), .ref (rw 4), .ref (rw 5)])), ((rw 1), .inl (k 0, 10, .inl (g 1))), ((rw 3), .inl (k 0, 60, .inl (g 3)))]) ⟨hx, hb, hml, hown, hts⟩ (s_R_advance l D k _ _ v_64 tf _ (show 0 ≤ (v_64 3).toInt ∧ (v_64 3).toInt ≤ 900 from ⟨by omega, by omega⟩) (show 0 ≤ (v_64 5).toInt ∧ (v_64 5).toInt ≤ 900 from ⟨by omega, by omega⟩) (show 0 ≤ (v_64 7).toInt ∧ (v_64 7).toInt ≤ 900 from ⟨by omega, by omega⟩) (show (v_64 7).toInt ≤ (v_64 5).toInt from by omega)) (gV mw_159 mw_160 mw_161 mw_15 mw_162) hd_yX5_advance rfl rfl ⟨Nat.le_of_ble_eq_true rfl, Nat.le_of_ble_eq_true rfl⟩ hK hN0 hP hD hS hA [3, 4] [0, 1, 2] rfl rfl (by decide) (by decide) (by decide) rfl rfl rfl rfl hl.1 rfl (Nat.le_of_ble_eq_true rfl) dX5_readLayer_114 ⟨Nat.le_of_ble_eq_true rfl, Nat.le_of_ble_eq_true rfl⟩ (fun u_82 H locs hw hP hD hS => ?_)
            obtain ⟨v_83, rfl⟩ : ∃ z, z = u_82 := ⟨_, rfl⟩
            obtain ⟨h_84, h_85, h_86, h_87, h_88, h_89, h_90⟩ := hw
            have h_84 : 0 ≤ (v_83 3).toInt ∧ (v_83 3).toInt ≤ 900 := h_84
            have h_85 : 0 ≤ (v_83 5).toInt ∧ (v_83 5).toInt ≤ 900 := h_85
            have h_86 : 0 ≤ (v_83 6).toInt ∧ (v_83 6).toInt ≤ 900 := h_86
            have h_87 : 0 ≤ (v_83 7).toInt ∧ (v_83 7).toInt ≤ 900 := h_87
            have h_88 : (v_83 6).toInt ≤ (v_83 7).toInt := h_88
            have h_89 : (v_83 7).toInt ≤ (v_83 5).toInt := h_89
            have h_90 : (v_83 3).toInt = (v_64 3).toInt := h_90
            have hP : va_P D vwCl [((rw 0), .inr (5, [.int (y 0), .int (y 1), .int (y 2), .int (y 3), .int (y 4), .int (y 5), .int (y 6), .int (y 7), .int (y 8), .int (y 9), .int (y 10), .ref (rw 1), .ref (rw 2), .ref (rw 3), .ref (rw 4), .ref (rw 5)])), ((rw 1), .inl (k 0, 10, .inl (g 1))), ((rw 3), .inl (k 0, 60, .inl (g 3))), ((rd 0), .inr (4, [.ref (rw 0), .int (v_83 1), .int (v_83 2), .int (v_83 3), .ref (rd 1), .int (v_83 5), .int (v_83 6), .int (v_83 7), .int (v_83 8), .int (v_83 9)])), ((rd 1), .inl (k 2, 900, .inl tf))] H := hP
            have hD : va_D A [((rw 0), .inr (5, [.int (y 0), .int (y 1), .int (y 2), .int (y 3), .int (y 4), .int (y 5), .int (y 6), .int (y 7), .int (y 8), .int (y 9), .int (y 10), .ref (rw 1), .ref (rw 2), .ref (rw 3), .ref (rw 4), .ref (rw 5)])), ((rw 1), .inl (k 0, 10, .inl (g 1))), ((rw 3), .inl (k 0, 60, .inl (g 3))), ((rd 0), .inr (4, [.ref (rw 0), .int (v_83 1), .int (v_83 2), .int (v_83 3), .ref (rd 1), .int (v_83 5), .int (v_83 6), .int (v_83 7), .int (v_83 8), .int (v_83 9)])), ((rd 1), .inl (k 2, 900, .inl tf))] := hD
            refine lv_aload_n hx hb dX5_readLayer_117 rfl (lv_at hl 2 rfl) ?_
            refine va_get (D := D) (ci := 4) (v := .ref (rw 0)) (C := RX5) (T := TX5) (N := 10) hx hb hts inlX5 hown hK hP 3 rfl rfl 0 (by decide) (hts _ mw_47) (fun _ h9 => h9) rfl dX5_readLayer_118 ?_
            refine lv_iload_n hx hb dX5_readLayer_121 rfl (lv_at hl 3 rfl) ?_
            refine lv_iload_n hx hb dX5_readLayer_122 rfl (lv_at hl 4 rfl) ?_
            refine lv_iload hx hb dX5_readLayer_123 (lv_at hl 0 rfl) ?_
            refine kV_uv (q0 := 0) (As := [.int r, .int d, .int r_80]) (rest := []) (wr := [((rw 1), .inl (k 0, 10, .inl (g 1))), ((rd 0), .inr (4, [.ref (rw 0), .int (v_83 1), .int (v_83 2), .int (v_83 3), .ref (rd 1), .int (v_83 5), .int (v_83 6), .int (v_83 7), .int (v_83 8), .int (v_83 9)])), ((rd 1), .inl (k 2, 900, .inl tf))]) ⟨hx, hb, hml, hown, hts⟩ (s_W_setLayer l D k rw y g r d r_80 _ (show 0 ≤ (y 0).toInt ∧ (y 0).toInt ≤ 10 from ⟨by omega, by omega⟩) (show 0 ≤ (y 2).toInt ∧ (y 2).toInt ≤ 6 from ⟨by omega, by omega⟩) (show 0 ≤ (y 6).toInt ∧ (y 6).toInt ≤ 1 from ⟨by omega, by omega⟩) (show 0 ≤ r.toInt ∧ r.toInt ≤ 9 from ⟨by omega, by omega⟩) (show 0 ≤ d.toInt ∧ d.toInt ≤ 5 from ⟨by omega, by omega⟩)) (gV mw_266 mw_267 mw_268 mw_19 mw_269) hd_yX6_setLayer rfl rfl ⟨Nat.le_of_ble_eq_true rfl, Nat.le_of_ble_eq_true rfl⟩ hK hN0 hP hD hS hA [0, 2] [1, 3, 4] rfl rfl (by decide) (by decide) (by decide) rfl rfl rfl rfl hl.1 rfl (Nat.le_of_ble_eq_true rfl) dX5_readLayer_125 ⟨Nat.le_of_ble_eq_true rfl, Nat.le_of_ble_eq_true rfl⟩ (fun u_92 H locs hw hP hD hS => ?_)
            obtain ⟨v_93, rfl⟩ : ∃ z, z = u_92 := ⟨_, rfl⟩
            have hP : va_P D vwCl [((rw 1), .inl (k 0, 10, .inl (g 1))), ((rd 0), .inr (4, [.ref (rw 0), .int (v_83 1), .int (v_83 2), .int (v_83 3), .ref (rd 1), .int (v_83 5), .int (v_83 6), .int (v_83 7), .int (v_83 8), .int (v_83 9)])), ((rd 1), .inl (k 2, 900, .inl tf)), ((rw 0), .inr (5, [.int (y 0), .int (y 1), .int (y 2), .int (y 3), .int (y 4), .int (y 5), .int (y 6), .int (y 7), .int (y 8), .int (y 9), .int (y 10), .ref (rw 1), .ref (rw 2), .ref (rw 3), .ref (rw 4), .ref (rw 5)])), ((rw 3), .inl (k 0, 60, .inl (v_93 3)))] H := hP
            have hD : va_D A [((rw 1), .inl (k 0, 10, .inl (g 1))), ((rd 0), .inr (4, [.ref (rw 0), .int (v_83 1), .int (v_83 2), .int (v_83 3), .ref (rd 1), .int (v_83 5), .int (v_83 6), .int (v_83 7), .int (v_83 8), .int (v_83 9)])), ((rd 1), .inl (k 2, 900, .inl tf)), ((rw 0), .inr (5, [.int (y 0), .int (y 1), .int (y 2), .int (y 3), .int (y 4), .int (y 5), .int (y 6), .int (y 7), .int (y 8), .int (y 9), .int (y 10), .ref (rw 1), .ref (rw 2), .ref (rw 3), .ref (rw 4), .ref (rw 5)])), ((rw 3), .inl (k 0, 60, .inl (v_93 3)))] := hD
            refine lv_aload_n hx hb dX5_readLayer_128 rfl (lv_at hl 2 rfl) ?_
            refine va_get (D := D) (ci := 4) (v := .ref (rw 0)) (C := RX5) (T := TX5) (N := 10) hx hb hts inlX5 hown hK hP 1 rfl rfl 0 (by decide) (hts _ mw_47) (fun _ h9 => h9) rfl dX5_readLayer_129 ?_
            refine va_get (D := D) (ci := 5) (v := .ref (rw 1)) (C := RX6) (T := TX6) (N := 16) hx hb hts inlX6 hown hK hP 3 rfl rfl 11 (by decide) (hts _ mw_247) (fun _ h9 => h9) rfl dX5_readLayer_132 ?_
            refine lv_iload_n hx hb dX5_readLayer_135 rfl (lv_at hl 3 rfl) ?_
            refine lv_iload_n hx hb dX5_readLayer_136 rfl (lv_at hl 4 rfl) ?_
            refine lv_iconst (v := 1) hx hb dX5_readLayer_137 (by decide) ?_
            refine lv_iadd hx hb dX5_readLayer_138 ?_
            refine lv_topi (fun z_94 ez_94 => ?_)
            have tz_94 : z_94.toInt = d.toInt + 1 := by rw [ez_94]; exact ti_addc (by decide) (by omega) (by omega)
            refine va_iast hx hb hK hP hD hS 0 0 rfl rfl (vp_in_o (by omega) (by omega)) dX5_readLayer_139 (fun H locs hP hD hS => ?_)
            have hP : va_P D vwCl [((rw 1), .inl (k 0, 10, .inl (upd (g 1) r.toNatClampNeg z_94))), ((rd 0), .inr (4, [.ref (rw 0), .int (v_83 1), .int (v_83 2), .int (v_83 3), .ref (rd 1), .int (v_83 5), .int (v_83 6), .int (v_83 7), .int (v_83 8), .int (v_83 9)])), ((rd 1), .inl (k 2, 900, .inl tf)), ((rw 0), .inr (5, [.int (y 0), .int (y 1), .int (y 2), .int (y 3), .int (y 4), .int (y 5), .int (y 6), .int (y 7), .int (y 8), .int (y 9), .int (y 10), .ref (rw 1), .ref (rw 2), .ref (rw 3), .ref (rw 4), .ref (rw 5)])), ((rw 3), .inl (k 0, 60, .inl (v_93 3)))] H := hP
            have hD : va_D A [((rw 1), .inl (k 0, 10, .inl (upd (g 1) r.toNatClampNeg z_94))), ((rd 0), .inr (4, [.ref (rw 0), .int (v_83 1), .int (v_83 2), .int (v_83 3), .ref (rd 1), .int (v_83 5), .int (v_83 6), .int (v_83 7), .int (v_83 8), .int (v_83 9)])), ((rd 1), .inl (k 2, 900, .inl tf)), ((rw 0), .inr (5, [.int (y 0), .int (y 1), .int (y 2), .int (y 3), .int (y 4), .int (y 5), .int (y 6), .int (y 7), .int (y 8), .int (y 9), .int (y 10), .ref (rw 1), .ref (rw 2), .ref (rw 3), .ref (rw 4), .ref (rw 5)])), ((rw 3), .inl (k 0, 60, .inl (v_93 3)))] := hD
            generalize ef_95 : (upd (g 1) r.toNatClampNeg z_94) = f_95 at hP hD
            have hf_95 : ∀ j : Nat, 0 ≤ (f_95 j).toInt ∧ (f_95 j).toInt ≤ 6 := by rw [← ef_95]; exact upd_rng w_hd ⟨by omega, by omega⟩
            exact W.vret hx hb hr (fun t ht hW => ⟨⟨((va_seli [0, (v_83 1), (v_83 2), (v_83 3), 0, (v_83 5), (v_83 6), (v_83 7), (v_83 8), (v_83 9)]), (va_selg [(fun _ => 0), f_95, (fun _ => 0), (v_93 3)])), rfl, ⟨(show 0 ≤ (v_83 3).toInt ∧ (v_83 3).toInt ≤ 900 from ⟨by omega, by omega⟩), (show 0 ≤ (v_83 5).toInt ∧ (v_83 5).toInt ≤ 900 from ⟨by omega, by omega⟩), (show 0 ≤ (v_83 6).toInt ∧ (v_83 6).toInt ≤ 900 from ⟨by omega, by omega⟩), (show 0 ≤ (v_83 7).toInt ∧ (v_83 7).toInt ≤ 900 from ⟨by omega, by omega⟩), (show (v_83 6).toInt ≤ (v_83 7).toInt from by omega), (show (v_83 7).toInt ≤ (v_83 5).toInt from by omega), (show (v_83 3).toInt = (rf 3).toInt from by omega), (show ∀ j : Nat, 0 ≤ (f_95 j).toInt ∧ (f_95 j).toInt ≤ 6 from hf_95)⟩, by rw [ht]; exact hP.sub [1, 2, 3, 0, 4] rfl, hD.sub [1, 2, 3, 0, 4] (by decide) rfl⟩, hS.F ht⟩) hS.2.2 dX5_readLayer_140
      · have c_26 : r_25.toInt ≠ 0 := ti_ne c_26
        have qc_26 : r_25 = 1 := ti_of (show r_25.toInt = 1 from by omega)
        refine lv_iload hx hb dX5_readLayer_59 (lv_at hl 0 rfl) ?_
        refine kS_i (As := [.int r_24]) (rest := []) ⟨hx, hb, hml, hown, hts⟩ (s_L_madeWet l D k r_24) (gS mw_256 mw_257 mw_254 mw_258) hd_yX1_madeWet rfl rfl ⟨Nat.le_of_ble_eq_true rfl, Nat.le_of_ble_eq_true rfl⟩ hK hN0 (hP.sub [] rfl) rfl hl.1 rfl (Nat.le_of_ble_eq_true rfl) dX5_readLayer_61 ⟨Nat.le_of_ble_eq_true rfl, Nat.le_of_ble_eq_true rfl⟩ (fun r_96 hr_96 => ?_)
        refine lv_istore (lv' := [(4, .int r_96), (3, .int 0), (0, .ref (rd 0)), (1, .int r), (2, .int d)]) hx hb dX5_readLayer_64 hl (by decide) rfl (fun ls hl => ?_)
        refine lv_aload_n hx hb dX5_readLayer_66 rfl (lv_at hl 2 rfl) ?_
        refine kV_uv (q0 := 0) (As := []) (rest := []) (wr := [((rw 0), .inr (5, [.int (y 0), .int (y 1), .int (y 2), .int (y 3), .int (y 4), .int (y 5), .int (y 6), .int (y 7), .int (y 8), .int (y 9), .int (y 10), .ref (rw 1), .ref (rw 2), .ref (rw 3), .ref (rw 4), .ref (rw 5)])), ((rw 1), .inl (k 0, 10, .inl (g 1))), ((rw 3), .inl (k 0, 60, .inl (g 3)))]) ⟨hx, hb, hml, hown, hts⟩ (s_R_advance l D k _ _ v_16 tf _ (show 0 ≤ (v_16 3).toInt ∧ (v_16 3).toInt ≤ 900 from ⟨by omega, by omega⟩) (show 0 ≤ (v_16 5).toInt ∧ (v_16 5).toInt ≤ 900 from ⟨by omega, by omega⟩) (show 0 ≤ (v_16 7).toInt ∧ (v_16 7).toInt ≤ 900 from ⟨by omega, by omega⟩) (show (v_16 7).toInt ≤ (v_16 5).toInt from by omega)) (gV mw_159 mw_160 mw_161 mw_15 mw_162) hd_yX5_advance rfl rfl ⟨Nat.le_of_ble_eq_true rfl, Nat.le_of_ble_eq_true rfl⟩ hK hN0 hP hD hS hA [3, 4] [0, 1, 2] rfl rfl (by decide) (by decide) (by decide) rfl rfl rfl rfl hl.1 rfl (Nat.le_of_ble_eq_true rfl) dX5_readLayer_67 ⟨Nat.le_of_ble_eq_true rfl, Nat.le_of_ble_eq_true rfl⟩ (fun u_98 H locs hw hP hD hS => ?_)
        obtain ⟨v_99, rfl⟩ : ∃ z, z = u_98 := ⟨_, rfl⟩
        obtain ⟨h_100, h_101, h_102, h_103, h_104, h_105, h_106⟩ := hw
        have h_100 : 0 ≤ (v_99 3).toInt ∧ (v_99 3).toInt ≤ 900 := h_100
        have h_101 : 0 ≤ (v_99 5).toInt ∧ (v_99 5).toInt ≤ 900 := h_101
        have h_102 : 0 ≤ (v_99 6).toInt ∧ (v_99 6).toInt ≤ 900 := h_102
        have h_103 : 0 ≤ (v_99 7).toInt ∧ (v_99 7).toInt ≤ 900 := h_103
        have h_104 : (v_99 6).toInt ≤ (v_99 7).toInt := h_104
        have h_105 : (v_99 7).toInt ≤ (v_99 5).toInt := h_105
        have h_106 : (v_99 3).toInt = (v_16 3).toInt := h_106
        have hP : va_P D vwCl [((rw 0), .inr (5, [.int (y 0), .int (y 1), .int (y 2), .int (y 3), .int (y 4), .int (y 5), .int (y 6), .int (y 7), .int (y 8), .int (y 9), .int (y 10), .ref (rw 1), .ref (rw 2), .ref (rw 3), .ref (rw 4), .ref (rw 5)])), ((rw 1), .inl (k 0, 10, .inl (g 1))), ((rw 3), .inl (k 0, 60, .inl (g 3))), ((rd 0), .inr (4, [.ref (rw 0), .int (v_99 1), .int (v_99 2), .int (v_99 3), .ref (rd 1), .int (v_99 5), .int (v_99 6), .int (v_99 7), .int (v_99 8), .int (v_99 9)])), ((rd 1), .inl (k 2, 900, .inl tf))] H := hP
        have hD : va_D A [((rw 0), .inr (5, [.int (y 0), .int (y 1), .int (y 2), .int (y 3), .int (y 4), .int (y 5), .int (y 6), .int (y 7), .int (y 8), .int (y 9), .int (y 10), .ref (rw 1), .ref (rw 2), .ref (rw 3), .ref (rw 4), .ref (rw 5)])), ((rw 1), .inl (k 0, 10, .inl (g 1))), ((rw 3), .inl (k 0, 60, .inl (g 3))), ((rd 0), .inr (4, [.ref (rw 0), .int (v_99 1), .int (v_99 2), .int (v_99 3), .ref (rd 1), .int (v_99 5), .int (v_99 6), .int (v_99 7), .int (v_99 8), .int (v_99 9)])), ((rd 1), .inl (k 2, 900, .inl tf))] := hD
        refine lv_aload_n hx hb dX5_readLayer_70 rfl (lv_at hl 2 rfl) ?_
        refine va_ldcS (own := RX5) (index := 129) (tx := "mice") (q := ak 5) hx hb hown (hW0.2.2.2 5 (by decide)) dX5_readLayer_71 ?_
        refine kV_is (q0 := 0) (As := [.ref (ak 5)]) (rest := []) ⟨hx, hb, hml, hown, hts⟩ (s_R_isWord l D k ak av _ _ v_99 tf 5 (show 0 ≤ (v_99 3).toInt ∧ (v_99 3).toInt ≤ 900 from ⟨by omega, by omega⟩) (show 0 ≤ (v_99 5).toInt ∧ (v_99 5).toInt ≤ 900 from ⟨by omega, by omega⟩) (show 0 ≤ (v_99 6).toInt ∧ (v_99 6).toInt ≤ 900 from ⟨by omega, by omega⟩) (show 0 ≤ (v_99 7).toInt ∧ (v_99 7).toInt ≤ 900 from ⟨by omega, by omega⟩) (show (v_99 6).toInt ≤ (v_99 7).toInt from by omega) (show (v_99 7).toInt ≤ (v_99 5).toInt from by omega) (by omega)) (gV mw_185 mw_186 mw_187 mw_15 mw_188) hd_yX5_isWord rfl rfl ⟨Nat.le_of_ble_eq_true rfl, Nat.le_of_ble_eq_true rfl⟩ hK hN0 hW0 hS (hP.sub [3, 4] rfl) rfl rfl rfl rfl hl.1 rfl (Nat.le_of_ble_eq_true rfl) dX5_readLayer_73 ⟨Nat.le_of_ble_eq_true rfl, Nat.le_of_ble_eq_true rfl⟩ (fun r_107 hr_107 => ?_)
        have hr_107 : 0 ≤ r_107.toInt ∧ r_107.toInt ≤ 1 := hr_107
        refine lv_if_eq (tgt := 97) hx hb dX5_readLayer_76 (by decide) (fun c_108 => ?_) (fun c_108 => ?_)
        · have c_108 : r_107.toInt = 0 := ti_eq c_108
          have qc_108 : r_107 = 0 := ti_of (show r_107.toInt = 0 from by omega)
          refine lv_aload_n hx hb dX5_readLayer_97 rfl (lv_at hl 2 rfl) ?_
          refine va_ldcS (own := RX5) (index := 134) (tx := "spark") (q := ak 6) hx hb hown (hW0.2.2.2 6 (by decide)) dX5_readLayer_98 ?_
          refine kV_is (q0 := 0) (As := [.ref (ak 6)]) (rest := []) ⟨hx, hb, hml, hown, hts⟩ (s_R_isWord l D k ak av _ _ v_99 tf 6 (show 0 ≤ (v_99 3).toInt ∧ (v_99 3).toInt ≤ 900 from ⟨by omega, by omega⟩) (show 0 ≤ (v_99 5).toInt ∧ (v_99 5).toInt ≤ 900 from ⟨by omega, by omega⟩) (show 0 ≤ (v_99 6).toInt ∧ (v_99 6).toInt ≤ 900 from ⟨by omega, by omega⟩) (show 0 ≤ (v_99 7).toInt ∧ (v_99 7).toInt ≤ 900 from ⟨by omega, by omega⟩) (show (v_99 6).toInt ≤ (v_99 7).toInt from by omega) (show (v_99 7).toInt ≤ (v_99 5).toInt from by omega) (by omega)) (gV mw_185 mw_186 mw_187 mw_15 mw_188) hd_yX5_isWord rfl rfl ⟨Nat.le_of_ble_eq_true rfl, Nat.le_of_ble_eq_true rfl⟩ hK hN0 hW0 hS (hP.sub [3, 4] rfl) rfl rfl rfl rfl hl.1 rfl (Nat.le_of_ble_eq_true rfl) dX5_readLayer_100 ⟨Nat.le_of_ble_eq_true rfl, Nat.le_of_ble_eq_true rfl⟩ (fun r_109 hr_109 => ?_)
          have hr_109 : 0 ≤ r_109.toInt ∧ r_109.toInt ≤ 1 := hr_109
          refine lv_if_eq (tgt := 117) hx hb dX5_readLayer_103 (by decide) (fun c_110 => ?_) (fun c_110 => ?_)
          · have c_110 : r_109.toInt = 0 := ti_eq c_110
            have qc_110 : r_109 = 0 := ti_of (show r_109.toInt = 0 from by omega)
            refine lv_aload_n hx hb dX5_readLayer_117 rfl (lv_at hl 2 rfl) ?_
            refine va_get (D := D) (ci := 4) (v := .ref (rw 0)) (C := RX5) (T := TX5) (N := 10) hx hb hts inlX5 hown hK hP 3 rfl rfl 0 (by decide) (hts _ mw_47) (fun _ h9 => h9) rfl dX5_readLayer_118 ?_
            refine lv_iload_n hx hb dX5_readLayer_121 rfl (lv_at hl 3 rfl) ?_
            refine lv_iload_n hx hb dX5_readLayer_122 rfl (lv_at hl 4 rfl) ?_
            refine lv_iload hx hb dX5_readLayer_123 (lv_at hl 0 rfl) ?_
            refine kV_uv (q0 := 0) (As := [.int r, .int d, .int r_96]) (rest := []) (wr := [((rw 1), .inl (k 0, 10, .inl (g 1))), ((rd 0), .inr (4, [.ref (rw 0), .int (v_99 1), .int (v_99 2), .int (v_99 3), .ref (rd 1), .int (v_99 5), .int (v_99 6), .int (v_99 7), .int (v_99 8), .int (v_99 9)])), ((rd 1), .inl (k 2, 900, .inl tf))]) ⟨hx, hb, hml, hown, hts⟩ (s_W_setLayer l D k rw y g r d r_96 _ (show 0 ≤ (y 0).toInt ∧ (y 0).toInt ≤ 10 from ⟨by omega, by omega⟩) (show 0 ≤ (y 2).toInt ∧ (y 2).toInt ≤ 6 from ⟨by omega, by omega⟩) (show 0 ≤ (y 6).toInt ∧ (y 6).toInt ≤ 1 from ⟨by omega, by omega⟩) (show 0 ≤ r.toInt ∧ r.toInt ≤ 9 from ⟨by omega, by omega⟩) (show 0 ≤ d.toInt ∧ d.toInt ≤ 5 from ⟨by omega, by omega⟩)) (gV mw_266 mw_267 mw_268 mw_19 mw_269) hd_yX6_setLayer rfl rfl ⟨Nat.le_of_ble_eq_true rfl, Nat.le_of_ble_eq_true rfl⟩ hK hN0 hP hD hS hA [0, 2] [1, 3, 4] rfl rfl (by decide) (by decide) (by decide) rfl rfl rfl rfl hl.1 rfl (Nat.le_of_ble_eq_true rfl) dX5_readLayer_125 ⟨Nat.le_of_ble_eq_true rfl, Nat.le_of_ble_eq_true rfl⟩ (fun u_112 H locs hw hP hD hS => ?_)
            obtain ⟨v_113, rfl⟩ : ∃ z, z = u_112 := ⟨_, rfl⟩
            have hP : va_P D vwCl [((rw 1), .inl (k 0, 10, .inl (g 1))), ((rd 0), .inr (4, [.ref (rw 0), .int (v_99 1), .int (v_99 2), .int (v_99 3), .ref (rd 1), .int (v_99 5), .int (v_99 6), .int (v_99 7), .int (v_99 8), .int (v_99 9)])), ((rd 1), .inl (k 2, 900, .inl tf)), ((rw 0), .inr (5, [.int (y 0), .int (y 1), .int (y 2), .int (y 3), .int (y 4), .int (y 5), .int (y 6), .int (y 7), .int (y 8), .int (y 9), .int (y 10), .ref (rw 1), .ref (rw 2), .ref (rw 3), .ref (rw 4), .ref (rw 5)])), ((rw 3), .inl (k 0, 60, .inl (v_113 3)))] H := hP
            have hD : va_D A [((rw 1), .inl (k 0, 10, .inl (g 1))), ((rd 0), .inr (4, [.ref (rw 0), .int (v_99 1), .int (v_99 2), .int (v_99 3), .ref (rd 1), .int (v_99 5), .int (v_99 6), .int (v_99 7), .int (v_99 8), .int (v_99 9)])), ((rd 1), .inl (k 2, 900, .inl tf)), ((rw 0), .inr (5, [.int (y 0), .int (y 1), .int (y 2), .int (y 3), .int (y 4), .int (y 5), .int (y 6), .int (y 7), .int (y 8), .int (y 9), .int (y 10), .ref (rw 1), .ref (rw 2), .ref (rw 3), .ref (rw 4), .ref (rw 5)])), ((rw 3), .inl (k 0, 60, .inl (v_113 3)))] := hD
            refine lv_aload_n hx hb dX5_readLayer_128 rfl (lv_at hl 2 rfl) ?_
            refine va_get (D := D) (ci := 4) (v := .ref (rw 0)) (C := RX5) (T := TX5) (N := 10) hx hb hts inlX5 hown hK hP 1 rfl rfl 0 (by decide) (hts _ mw_47) (fun _ h9 => h9) rfl dX5_readLayer_129 ?_
            refine va_get (D := D) (ci := 5) (v := .ref (rw 1)) (C := RX6) (T := TX6) (N := 16) hx hb hts inlX6 hown hK hP 3 rfl rfl 11 (by decide) (hts _ mw_247) (fun _ h9 => h9) rfl dX5_readLayer_132 ?_
            refine lv_iload_n hx hb dX5_readLayer_135 rfl (lv_at hl 3 rfl) ?_
            refine lv_iload_n hx hb dX5_readLayer_136 rfl (lv_at hl 4 rfl) ?_
            refine lv_iconst (v := 1) hx hb dX5_readLayer_137 (by decide) ?_
            refine lv_iadd hx hb dX5_readLayer_138 ?_
            refine lv_topi (fun z_114 ez_114 => ?_)
            have tz_114 : z_114.toInt = d.toInt + 1 := by rw [ez_114]; exact ti_addc (by decide) (by omega) (by omega)
            refine va_iast hx hb hK hP hD hS 0 0 rfl rfl (vp_in_o (by omega) (by omega)) dX5_readLayer_139 (fun H locs hP hD hS => ?_)
            have hP : va_P D vwCl [((rw 1), .inl (k 0, 10, .inl (upd (g 1) r.toNatClampNeg z_114))), ((rd 0), .inr (4, [.ref (rw 0), .int (v_99 1), .int (v_99 2), .int (v_99 3), .ref (rd 1), .int (v_99 5), .int (v_99 6), .int (v_99 7), .int (v_99 8), .int (v_99 9)])), ((rd 1), .inl (k 2, 900, .inl tf)), ((rw 0), .inr (5, [.int (y 0), .int (y 1), .int (y 2), .int (y 3), .int (y 4), .int (y 5), .int (y 6), .int (y 7), .int (y 8), .int (y 9), .int (y 10), .ref (rw 1), .ref (rw 2), .ref (rw 3), .ref (rw 4), .ref (rw 5)])), ((rw 3), .inl (k 0, 60, .inl (v_113 3)))] H := hP
            have hD : va_D A [((rw 1), .inl (k 0, 10, .inl (upd (g 1) r.toNatClampNeg z_114))), ((rd 0), .inr (4, [.ref (rw 0), .int (v_99 1), .int (v_99 2), .int (v_99 3), .ref (rd 1), .int (v_99 5), .int (v_99 6), .int (v_99 7), .int (v_99 8), .int (v_99 9)])), ((rd 1), .inl (k 2, 900, .inl tf)), ((rw 0), .inr (5, [.int (y 0), .int (y 1), .int (y 2), .int (y 3), .int (y 4), .int (y 5), .int (y 6), .int (y 7), .int (y 8), .int (y 9), .int (y 10), .ref (rw 1), .ref (rw 2), .ref (rw 3), .ref (rw 4), .ref (rw 5)])), ((rw 3), .inl (k 0, 60, .inl (v_113 3)))] := hD
            generalize ef_115 : (upd (g 1) r.toNatClampNeg z_114) = f_115 at hP hD
            have hf_115 : ∀ j : Nat, 0 ≤ (f_115 j).toInt ∧ (f_115 j).toInt ≤ 6 := by rw [← ef_115]; exact upd_rng w_hd ⟨by omega, by omega⟩
            exact W.vret hx hb hr (fun t ht hW => ⟨⟨((va_seli [0, (v_99 1), (v_99 2), (v_99 3), 0, (v_99 5), (v_99 6), (v_99 7), (v_99 8), (v_99 9)]), (va_selg [(fun _ => 0), f_115, (fun _ => 0), (v_113 3)])), rfl, ⟨(show 0 ≤ (v_99 3).toInt ∧ (v_99 3).toInt ≤ 900 from ⟨by omega, by omega⟩), (show 0 ≤ (v_99 5).toInt ∧ (v_99 5).toInt ≤ 900 from ⟨by omega, by omega⟩), (show 0 ≤ (v_99 6).toInt ∧ (v_99 6).toInt ≤ 900 from ⟨by omega, by omega⟩), (show 0 ≤ (v_99 7).toInt ∧ (v_99 7).toInt ≤ 900 from ⟨by omega, by omega⟩), (show (v_99 6).toInt ≤ (v_99 7).toInt from by omega), (show (v_99 7).toInt ≤ (v_99 5).toInt from by omega), (show (v_99 3).toInt = (rf 3).toInt from by omega), (show ∀ j : Nat, 0 ≤ (f_115 j).toInt ∧ (f_115 j).toInt ≤ 6 from hf_115)⟩, by rw [ht]; exact hP.sub [1, 2, 3, 0, 4] rfl, hD.sub [1, 2, 3, 0, 4] (by decide) rfl⟩, hS.F ht⟩) hS.2.2 dX5_readLayer_140
          · have c_110 : r_109.toInt ≠ 0 := ti_ne c_110
            have qc_110 : r_109 = 1 := ti_of (show r_109.toInt = 1 from by omega)
            refine lv_iload hx hb dX5_readLayer_106 (lv_at hl 0 rfl) ?_
            refine kS_i (As := [.int r_96]) (rest := []) ⟨hx, hb, hml, hown, hts⟩ (s_L_withSpark l D k r_96) (gS mw_263 mw_264 mw_254 mw_265) hd_yX1_withSpark rfl rfl ⟨Nat.le_of_ble_eq_true rfl, Nat.le_of_ble_eq_true rfl⟩ hK hN0 (hP.sub [] rfl) rfl hl.1 rfl (Nat.le_of_ble_eq_true rfl) dX5_readLayer_108 ⟨Nat.le_of_ble_eq_true rfl, Nat.le_of_ble_eq_true rfl⟩ (fun r_116 hr_116 => ?_)
            refine lv_istore (lv' := [(4, .int r_116), (3, .int 0), (0, .ref (rd 0)), (1, .int r), (2, .int d)]) hx hb dX5_readLayer_111 hl (by decide) rfl (fun ls hl => ?_)
            refine lv_aload_n hx hb dX5_readLayer_113 rfl (lv_at hl 2 rfl) ?_
            refine kV_uv (q0 := 0) (As := []) (rest := []) (wr := [((rw 0), .inr (5, [.int (y 0), .int (y 1), .int (y 2), .int (y 3), .int (y 4), .int (y 5), .int (y 6), .int (y 7), .int (y 8), .int (y 9), .int (y 10), .ref (rw 1), .ref (rw 2), .ref (rw 3), .ref (rw 4), .ref (rw 5)])), ((rw 1), .inl (k 0, 10, .inl (g 1))), ((rw 3), .inl (k 0, 60, .inl (g 3)))]) ⟨hx, hb, hml, hown, hts⟩ (s_R_advance l D k _ _ v_99 tf _ (show 0 ≤ (v_99 3).toInt ∧ (v_99 3).toInt ≤ 900 from ⟨by omega, by omega⟩) (show 0 ≤ (v_99 5).toInt ∧ (v_99 5).toInt ≤ 900 from ⟨by omega, by omega⟩) (show 0 ≤ (v_99 7).toInt ∧ (v_99 7).toInt ≤ 900 from ⟨by omega, by omega⟩) (show (v_99 7).toInt ≤ (v_99 5).toInt from by omega)) (gV mw_159 mw_160 mw_161 mw_15 mw_162) hd_yX5_advance rfl rfl ⟨Nat.le_of_ble_eq_true rfl, Nat.le_of_ble_eq_true rfl⟩ hK hN0 hP hD hS hA [3, 4] [0, 1, 2] rfl rfl (by decide) (by decide) (by decide) rfl rfl rfl rfl hl.1 rfl (Nat.le_of_ble_eq_true rfl) dX5_readLayer_114 ⟨Nat.le_of_ble_eq_true rfl, Nat.le_of_ble_eq_true rfl⟩ (fun u_118 H locs hw hP hD hS => ?_)
            obtain ⟨v_119, rfl⟩ : ∃ z, z = u_118 := ⟨_, rfl⟩
            obtain ⟨h_120, h_121, h_122, h_123, h_124, h_125, h_126⟩ := hw
            have h_120 : 0 ≤ (v_119 3).toInt ∧ (v_119 3).toInt ≤ 900 := h_120
            have h_121 : 0 ≤ (v_119 5).toInt ∧ (v_119 5).toInt ≤ 900 := h_121
            have h_122 : 0 ≤ (v_119 6).toInt ∧ (v_119 6).toInt ≤ 900 := h_122
            have h_123 : 0 ≤ (v_119 7).toInt ∧ (v_119 7).toInt ≤ 900 := h_123
            have h_124 : (v_119 6).toInt ≤ (v_119 7).toInt := h_124
            have h_125 : (v_119 7).toInt ≤ (v_119 5).toInt := h_125
            have h_126 : (v_119 3).toInt = (v_99 3).toInt := h_126
            have hP : va_P D vwCl [((rw 0), .inr (5, [.int (y 0), .int (y 1), .int (y 2), .int (y 3), .int (y 4), .int (y 5), .int (y 6), .int (y 7), .int (y 8), .int (y 9), .int (y 10), .ref (rw 1), .ref (rw 2), .ref (rw 3), .ref (rw 4), .ref (rw 5)])), ((rw 1), .inl (k 0, 10, .inl (g 1))), ((rw 3), .inl (k 0, 60, .inl (g 3))), ((rd 0), .inr (4, [.ref (rw 0), .int (v_119 1), .int (v_119 2), .int (v_119 3), .ref (rd 1), .int (v_119 5), .int (v_119 6), .int (v_119 7), .int (v_119 8), .int (v_119 9)])), ((rd 1), .inl (k 2, 900, .inl tf))] H := hP
            have hD : va_D A [((rw 0), .inr (5, [.int (y 0), .int (y 1), .int (y 2), .int (y 3), .int (y 4), .int (y 5), .int (y 6), .int (y 7), .int (y 8), .int (y 9), .int (y 10), .ref (rw 1), .ref (rw 2), .ref (rw 3), .ref (rw 4), .ref (rw 5)])), ((rw 1), .inl (k 0, 10, .inl (g 1))), ((rw 3), .inl (k 0, 60, .inl (g 3))), ((rd 0), .inr (4, [.ref (rw 0), .int (v_119 1), .int (v_119 2), .int (v_119 3), .ref (rd 1), .int (v_119 5), .int (v_119 6), .int (v_119 7), .int (v_119 8), .int (v_119 9)])), ((rd 1), .inl (k 2, 900, .inl tf))] := hD
            refine lv_aload_n hx hb dX5_readLayer_117 rfl (lv_at hl 2 rfl) ?_
            refine va_get (D := D) (ci := 4) (v := .ref (rw 0)) (C := RX5) (T := TX5) (N := 10) hx hb hts inlX5 hown hK hP 3 rfl rfl 0 (by decide) (hts _ mw_47) (fun _ h9 => h9) rfl dX5_readLayer_118 ?_
            refine lv_iload_n hx hb dX5_readLayer_121 rfl (lv_at hl 3 rfl) ?_
            refine lv_iload_n hx hb dX5_readLayer_122 rfl (lv_at hl 4 rfl) ?_
            refine lv_iload hx hb dX5_readLayer_123 (lv_at hl 0 rfl) ?_
            refine kV_uv (q0 := 0) (As := [.int r, .int d, .int r_116]) (rest := []) (wr := [((rw 1), .inl (k 0, 10, .inl (g 1))), ((rd 0), .inr (4, [.ref (rw 0), .int (v_119 1), .int (v_119 2), .int (v_119 3), .ref (rd 1), .int (v_119 5), .int (v_119 6), .int (v_119 7), .int (v_119 8), .int (v_119 9)])), ((rd 1), .inl (k 2, 900, .inl tf))]) ⟨hx, hb, hml, hown, hts⟩ (s_W_setLayer l D k rw y g r d r_116 _ (show 0 ≤ (y 0).toInt ∧ (y 0).toInt ≤ 10 from ⟨by omega, by omega⟩) (show 0 ≤ (y 2).toInt ∧ (y 2).toInt ≤ 6 from ⟨by omega, by omega⟩) (show 0 ≤ (y 6).toInt ∧ (y 6).toInt ≤ 1 from ⟨by omega, by omega⟩) (show 0 ≤ r.toInt ∧ r.toInt ≤ 9 from ⟨by omega, by omega⟩) (show 0 ≤ d.toInt ∧ d.toInt ≤ 5 from ⟨by omega, by omega⟩)) (gV mw_266 mw_267 mw_268 mw_19 mw_269) hd_yX6_setLayer rfl rfl ⟨Nat.le_of_ble_eq_true rfl, Nat.le_of_ble_eq_true rfl⟩ hK hN0 hP hD hS hA [0, 2] [1, 3, 4] rfl rfl (by decide) (by decide) (by decide) rfl rfl rfl rfl hl.1 rfl (Nat.le_of_ble_eq_true rfl) dX5_readLayer_125 ⟨Nat.le_of_ble_eq_true rfl, Nat.le_of_ble_eq_true rfl⟩ (fun u_128 H locs hw hP hD hS => ?_)
            obtain ⟨v_129, rfl⟩ : ∃ z, z = u_128 := ⟨_, rfl⟩
            have hP : va_P D vwCl [((rw 1), .inl (k 0, 10, .inl (g 1))), ((rd 0), .inr (4, [.ref (rw 0), .int (v_119 1), .int (v_119 2), .int (v_119 3), .ref (rd 1), .int (v_119 5), .int (v_119 6), .int (v_119 7), .int (v_119 8), .int (v_119 9)])), ((rd 1), .inl (k 2, 900, .inl tf)), ((rw 0), .inr (5, [.int (y 0), .int (y 1), .int (y 2), .int (y 3), .int (y 4), .int (y 5), .int (y 6), .int (y 7), .int (y 8), .int (y 9), .int (y 10), .ref (rw 1), .ref (rw 2), .ref (rw 3), .ref (rw 4), .ref (rw 5)])), ((rw 3), .inl (k 0, 60, .inl (v_129 3)))] H := hP
            have hD : va_D A [((rw 1), .inl (k 0, 10, .inl (g 1))), ((rd 0), .inr (4, [.ref (rw 0), .int (v_119 1), .int (v_119 2), .int (v_119 3), .ref (rd 1), .int (v_119 5), .int (v_119 6), .int (v_119 7), .int (v_119 8), .int (v_119 9)])), ((rd 1), .inl (k 2, 900, .inl tf)), ((rw 0), .inr (5, [.int (y 0), .int (y 1), .int (y 2), .int (y 3), .int (y 4), .int (y 5), .int (y 6), .int (y 7), .int (y 8), .int (y 9), .int (y 10), .ref (rw 1), .ref (rw 2), .ref (rw 3), .ref (rw 4), .ref (rw 5)])), ((rw 3), .inl (k 0, 60, .inl (v_129 3)))] := hD
            refine lv_aload_n hx hb dX5_readLayer_128 rfl (lv_at hl 2 rfl) ?_
            refine va_get (D := D) (ci := 4) (v := .ref (rw 0)) (C := RX5) (T := TX5) (N := 10) hx hb hts inlX5 hown hK hP 1 rfl rfl 0 (by decide) (hts _ mw_47) (fun _ h9 => h9) rfl dX5_readLayer_129 ?_
            refine va_get (D := D) (ci := 5) (v := .ref (rw 1)) (C := RX6) (T := TX6) (N := 16) hx hb hts inlX6 hown hK hP 3 rfl rfl 11 (by decide) (hts _ mw_247) (fun _ h9 => h9) rfl dX5_readLayer_132 ?_
            refine lv_iload_n hx hb dX5_readLayer_135 rfl (lv_at hl 3 rfl) ?_
            refine lv_iload_n hx hb dX5_readLayer_136 rfl (lv_at hl 4 rfl) ?_
            refine lv_iconst (v := 1) hx hb dX5_readLayer_137 (by decide) ?_
            refine lv_iadd hx hb dX5_readLayer_138 ?_
            refine lv_topi (fun z_130 ez_130 => ?_)
            have tz_130 : z_130.toInt = d.toInt + 1 := by rw [ez_130]; exact ti_addc (by decide) (by omega) (by omega)
            refine va_iast hx hb hK hP hD hS 0 0 rfl rfl (vp_in_o (by omega) (by omega)) dX5_readLayer_139 (fun H locs hP hD hS => ?_)
            have hP : va_P D vwCl [((rw 1), .inl (k 0, 10, .inl (upd (g 1) r.toNatClampNeg z_130))), ((rd 0), .inr (4, [.ref (rw 0), .int (v_119 1), .int (v_119 2), .int (v_119 3), .ref (rd 1), .int (v_119 5), .int (v_119 6), .int (v_119 7), .int (v_119 8), .int (v_119 9)])), ((rd 1), .inl (k 2, 900, .inl tf)), ((rw 0), .inr (5, [.int (y 0), .int (y 1), .int (y 2), .int (y 3), .int (y 4), .int (y 5), .int (y 6), .int (y 7), .int (y 8), .int (y 9), .int (y 10), .ref (rw 1), .ref (rw 2), .ref (rw 3), .ref (rw 4), .ref (rw 5)])), ((rw 3), .inl (k 0, 60, .inl (v_129 3)))] H := hP
            have hD : va_D A [((rw 1), .inl (k 0, 10, .inl (upd (g 1) r.toNatClampNeg z_130))), ((rd 0), .inr (4, [.ref (rw 0), .int (v_119 1), .int (v_119 2), .int (v_119 3), .ref (rd 1), .int (v_119 5), .int (v_119 6), .int (v_119 7), .int (v_119 8), .int (v_119 9)])), ((rd 1), .inl (k 2, 900, .inl tf)), ((rw 0), .inr (5, [.int (y 0), .int (y 1), .int (y 2), .int (y 3), .int (y 4), .int (y 5), .int (y 6), .int (y 7), .int (y 8), .int (y 9), .int (y 10), .ref (rw 1), .ref (rw 2), .ref (rw 3), .ref (rw 4), .ref (rw 5)])), ((rw 3), .inl (k 0, 60, .inl (v_129 3)))] := hD
            generalize ef_131 : (upd (g 1) r.toNatClampNeg z_130) = f_131 at hP hD
            have hf_131 : ∀ j : Nat, 0 ≤ (f_131 j).toInt ∧ (f_131 j).toInt ≤ 6 := by rw [← ef_131]; exact upd_rng w_hd ⟨by omega, by omega⟩
            exact W.vret hx hb hr (fun t ht hW => ⟨⟨((va_seli [0, (v_119 1), (v_119 2), (v_119 3), 0, (v_119 5), (v_119 6), (v_119 7), (v_119 8), (v_119 9)]), (va_selg [(fun _ => 0), f_131, (fun _ => 0), (v_129 3)])), rfl, ⟨(show 0 ≤ (v_119 3).toInt ∧ (v_119 3).toInt ≤ 900 from ⟨by omega, by omega⟩), (show 0 ≤ (v_119 5).toInt ∧ (v_119 5).toInt ≤ 900 from ⟨by omega, by omega⟩), (show 0 ≤ (v_119 6).toInt ∧ (v_119 6).toInt ≤ 900 from ⟨by omega, by omega⟩), (show 0 ≤ (v_119 7).toInt ∧ (v_119 7).toInt ≤ 900 from ⟨by omega, by omega⟩), (show (v_119 6).toInt ≤ (v_119 7).toInt from by omega), (show (v_119 7).toInt ≤ (v_119 5).toInt from by omega), (show (v_119 3).toInt = (rf 3).toInt from by omega), (show ∀ j : Nat, 0 ≤ (f_131 j).toInt ∧ (f_131 j).toInt ≤ 6 from hf_131)⟩, by rw [ht]; exact hP.sub [1, 2, 3, 0, 4] rfl, hD.sub [1, 2, 3, 0, 4] (by decide) rfl⟩, hS.F ht⟩) hS.2.2 dX5_readLayer_140
        · have c_108 : r_107.toInt ≠ 0 := ti_ne c_108
          have qc_108 : r_107 = 1 := ti_of (show r_107.toInt = 1 from by omega)
          refine lv_aload_n hx hb dX5_readLayer_79 rfl (lv_at hl 2 rfl) ?_
          refine kV_uv (q0 := 0) (As := []) (rest := []) (wr := [((rw 0), .inr (5, [.int (y 0), .int (y 1), .int (y 2), .int (y 3), .int (y 4), .int (y 5), .int (y 6), .int (y 7), .int (y 8), .int (y 9), .int (y 10), .ref (rw 1), .ref (rw 2), .ref (rw 3), .ref (rw 4), .ref (rw 5)])), ((rw 1), .inl (k 0, 10, .inl (g 1))), ((rw 3), .inl (k 0, 60, .inl (g 3)))]) ⟨hx, hb, hml, hown, hts⟩ (s_R_advance l D k _ _ v_99 tf _ (show 0 ≤ (v_99 3).toInt ∧ (v_99 3).toInt ≤ 900 from ⟨by omega, by omega⟩) (show 0 ≤ (v_99 5).toInt ∧ (v_99 5).toInt ≤ 900 from ⟨by omega, by omega⟩) (show 0 ≤ (v_99 7).toInt ∧ (v_99 7).toInt ≤ 900 from ⟨by omega, by omega⟩) (show (v_99 7).toInt ≤ (v_99 5).toInt from by omega)) (gV mw_159 mw_160 mw_161 mw_15 mw_162) hd_yX5_advance rfl rfl ⟨Nat.le_of_ble_eq_true rfl, Nat.le_of_ble_eq_true rfl⟩ hK hN0 hP hD hS hA [3, 4] [0, 1, 2] rfl rfl (by decide) (by decide) (by decide) rfl rfl rfl rfl hl.1 rfl (Nat.le_of_ble_eq_true rfl) dX5_readLayer_80 ⟨Nat.le_of_ble_eq_true rfl, Nat.le_of_ble_eq_true rfl⟩ (fun u_133 H locs hw hP hD hS => ?_)
          obtain ⟨v_134, rfl⟩ : ∃ z, z = u_133 := ⟨_, rfl⟩
          obtain ⟨h_135, h_136, h_137, h_138, h_139, h_140, h_141⟩ := hw
          have h_135 : 0 ≤ (v_134 3).toInt ∧ (v_134 3).toInt ≤ 900 := h_135
          have h_136 : 0 ≤ (v_134 5).toInt ∧ (v_134 5).toInt ≤ 900 := h_136
          have h_137 : 0 ≤ (v_134 6).toInt ∧ (v_134 6).toInt ≤ 900 := h_137
          have h_138 : 0 ≤ (v_134 7).toInt ∧ (v_134 7).toInt ≤ 900 := h_138
          have h_139 : (v_134 6).toInt ≤ (v_134 7).toInt := h_139
          have h_140 : (v_134 7).toInt ≤ (v_134 5).toInt := h_140
          have h_141 : (v_134 3).toInt = (v_99 3).toInt := h_141
          have hP : va_P D vwCl [((rw 0), .inr (5, [.int (y 0), .int (y 1), .int (y 2), .int (y 3), .int (y 4), .int (y 5), .int (y 6), .int (y 7), .int (y 8), .int (y 9), .int (y 10), .ref (rw 1), .ref (rw 2), .ref (rw 3), .ref (rw 4), .ref (rw 5)])), ((rw 1), .inl (k 0, 10, .inl (g 1))), ((rw 3), .inl (k 0, 60, .inl (g 3))), ((rd 0), .inr (4, [.ref (rw 0), .int (v_134 1), .int (v_134 2), .int (v_134 3), .ref (rd 1), .int (v_134 5), .int (v_134 6), .int (v_134 7), .int (v_134 8), .int (v_134 9)])), ((rd 1), .inl (k 2, 900, .inl tf))] H := hP
          have hD : va_D A [((rw 0), .inr (5, [.int (y 0), .int (y 1), .int (y 2), .int (y 3), .int (y 4), .int (y 5), .int (y 6), .int (y 7), .int (y 8), .int (y 9), .int (y 10), .ref (rw 1), .ref (rw 2), .ref (rw 3), .ref (rw 4), .ref (rw 5)])), ((rw 1), .inl (k 0, 10, .inl (g 1))), ((rw 3), .inl (k 0, 60, .inl (g 3))), ((rd 0), .inr (4, [.ref (rw 0), .int (v_134 1), .int (v_134 2), .int (v_134 3), .ref (rd 1), .int (v_134 5), .int (v_134 6), .int (v_134 7), .int (v_134 8), .int (v_134 9)])), ((rd 1), .inl (k 2, 900, .inl tf))] := hD
          refine lv_iload hx hb dX5_readLayer_83 (lv_at hl 0 rfl) ?_
          refine lv_aload_n hx hb dX5_readLayer_85 rfl (lv_at hl 2 rfl) ?_
          refine lv_iconst (v := 1) hx hb dX5_readLayer_86 (by decide) ?_
          refine lv_bipush (v := 99) hx hb dX5_readLayer_87 (by decide) ?_
          refine kV_ui (q0 := 0) (As := [.int 1, .int 99]) (rest := [.int r_96]) (wr := [((rw 0), .inr (5, [.int (y 0), .int (y 1), .int (y 2), .int (y 3), .int (y 4), .int (y 5), .int (y 6), .int (y 7), .int (y 8), .int (y 9), .int (y 10), .ref (rw 1), .ref (rw 2), .ref (rw 3), .ref (rw 4), .ref (rw 5)])), ((rw 1), .inl (k 0, 10, .inl (g 1))), ((rw 3), .inl (k 0, 60, .inl (g 3)))]) ⟨hx, hb, hml, hown, hts⟩ (s_R_readNumber l D k _ _ v_134 tf 1 99 _ (show 0 ≤ (v_134 3).toInt ∧ (v_134 3).toInt ≤ 900 from ⟨by omega, by omega⟩) (show 0 ≤ (v_134 5).toInt ∧ (v_134 5).toInt ≤ 900 from ⟨by omega, by omega⟩) (show 0 ≤ (v_134 6).toInt ∧ (v_134 6).toInt ≤ 900 from ⟨by omega, by omega⟩) (show 0 ≤ (v_134 7).toInt ∧ (v_134 7).toInt ≤ 900 from ⟨by omega, by omega⟩) (show (v_134 6).toInt ≤ (v_134 7).toInt from by omega) (show (v_134 7).toInt ≤ (v_134 5).toInt from by omega)) (gV mw_248 mw_249 mw_250 mw_15 mw_251) hd_yX5_readNumber rfl rfl ⟨Nat.le_of_ble_eq_true rfl, Nat.le_of_ble_eq_true rfl⟩ hK hN0 hP hD hS hA [3, 4] [0, 1, 2] rfl rfl (by decide) (by decide) (by decide) rfl rfl rfl rfl hl.1 rfl (Nat.le_of_ble_eq_true rfl) dX5_readLayer_89 ⟨Nat.le_of_ble_eq_true rfl, Nat.le_of_ble_eq_true rfl⟩ (fun r_142 u_143 H locs hw hP hD hS => ?_)
          obtain ⟨v_144, rfl⟩ : ∃ z, z = u_143 := ⟨_, rfl⟩
          obtain ⟨hr_142, h_145, h_146, h_147, h_148, h_149, h_150, h_151⟩ := hw
          have h_145 : 0 ≤ (v_144 3).toInt ∧ (v_144 3).toInt ≤ 900 := h_145
          have h_146 : 0 ≤ (v_144 5).toInt ∧ (v_144 5).toInt ≤ 900 := h_146
          have h_147 : 0 ≤ (v_144 6).toInt ∧ (v_144 6).toInt ≤ 900 := h_147
          have h_148 : 0 ≤ (v_144 7).toInt ∧ (v_144 7).toInt ≤ 900 := h_148
          have h_149 : (v_144 6).toInt ≤ (v_144 7).toInt := h_149
          have h_150 : (v_144 7).toInt ≤ (v_144 5).toInt := h_150
          have h_151 : (v_144 3).toInt = (v_134 3).toInt := h_151
          have hP : va_P D vwCl [((rw 0), .inr (5, [.int (y 0), .int (y 1), .int (y 2), .int (y 3), .int (y 4), .int (y 5), .int (y 6), .int (y 7), .int (y 8), .int (y 9), .int (y 10), .ref (rw 1), .ref (rw 2), .ref (rw 3), .ref (rw 4), .ref (rw 5)])), ((rw 1), .inl (k 0, 10, .inl (g 1))), ((rw 3), .inl (k 0, 60, .inl (g 3))), ((rd 0), .inr (4, [.ref (rw 0), .int (v_144 1), .int (v_144 2), .int (v_144 3), .ref (rd 1), .int (v_144 5), .int (v_144 6), .int (v_144 7), .int (v_144 8), .int (v_144 9)])), ((rd 1), .inl (k 2, 900, .inl tf))] H := hP
          have hD : va_D A [((rw 0), .inr (5, [.int (y 0), .int (y 1), .int (y 2), .int (y 3), .int (y 4), .int (y 5), .int (y 6), .int (y 7), .int (y 8), .int (y 9), .int (y 10), .ref (rw 1), .ref (rw 2), .ref (rw 3), .ref (rw 4), .ref (rw 5)])), ((rw 1), .inl (k 0, 10, .inl (g 1))), ((rw 3), .inl (k 0, 60, .inl (g 3))), ((rd 0), .inr (4, [.ref (rw 0), .int (v_144 1), .int (v_144 2), .int (v_144 3), .ref (rd 1), .int (v_144 5), .int (v_144 6), .int (v_144 7), .int (v_144 8), .int (v_144 9)])), ((rd 1), .inl (k 2, 900, .inl tf))] := hD
          refine kS_i (As := [.int r_96, .int r_142]) (rest := []) ⟨hx, hb, hml, hown, hts⟩ (s_L_withMice l D k r_96 r_142) (gS mw_259 mw_260 mw_254 mw_261) hd_yX1_withMice rfl rfl ⟨Nat.le_of_ble_eq_true rfl, Nat.le_of_ble_eq_true rfl⟩ hK hN0 (hP.sub [] rfl) rfl hl.1 rfl (Nat.le_of_ble_eq_true rfl) dX5_readLayer_92 ⟨Nat.le_of_ble_eq_true rfl, Nat.le_of_ble_eq_true rfl⟩ (fun r_152 hr_152 => ?_)
          refine lv_istore (lv' := [(4, .int r_152), (3, .int 0), (0, .ref (rd 0)), (1, .int r), (2, .int d)]) hx hb dX5_readLayer_95 hl (by decide) rfl (fun ls hl => ?_)
          refine lv_aload_n hx hb dX5_readLayer_97 rfl (lv_at hl 2 rfl) ?_
          refine va_ldcS (own := RX5) (index := 134) (tx := "spark") (q := ak 6) hx hb hown (hW0.2.2.2 6 (by decide)) dX5_readLayer_98 ?_
          refine kV_is (q0 := 0) (As := [.ref (ak 6)]) (rest := []) ⟨hx, hb, hml, hown, hts⟩ (s_R_isWord l D k ak av _ _ v_144 tf 6 (show 0 ≤ (v_144 3).toInt ∧ (v_144 3).toInt ≤ 900 from ⟨by omega, by omega⟩) (show 0 ≤ (v_144 5).toInt ∧ (v_144 5).toInt ≤ 900 from ⟨by omega, by omega⟩) (show 0 ≤ (v_144 6).toInt ∧ (v_144 6).toInt ≤ 900 from ⟨by omega, by omega⟩) (show 0 ≤ (v_144 7).toInt ∧ (v_144 7).toInt ≤ 900 from ⟨by omega, by omega⟩) (show (v_144 6).toInt ≤ (v_144 7).toInt from by omega) (show (v_144 7).toInt ≤ (v_144 5).toInt from by omega) (by omega)) (gV mw_185 mw_186 mw_187 mw_15 mw_188) hd_yX5_isWord rfl rfl ⟨Nat.le_of_ble_eq_true rfl, Nat.le_of_ble_eq_true rfl⟩ hK hN0 hW0 hS (hP.sub [3, 4] rfl) rfl rfl rfl rfl hl.1 rfl (Nat.le_of_ble_eq_true rfl) dX5_readLayer_100 ⟨Nat.le_of_ble_eq_true rfl, Nat.le_of_ble_eq_true rfl⟩ (fun r_153 hr_153 => ?_)
          have hr_153 : 0 ≤ r_153.toInt ∧ r_153.toInt ≤ 1 := hr_153
          refine lv_if_eq (tgt := 117) hx hb dX5_readLayer_103 (by decide) (fun c_154 => ?_) (fun c_154 => ?_)
          · have c_154 : r_153.toInt = 0 := ti_eq c_154
            have qc_154 : r_153 = 0 := ti_of (show r_153.toInt = 0 from by omega)
            refine lv_aload_n hx hb dX5_readLayer_117 rfl (lv_at hl 2 rfl) ?_
            refine va_get (D := D) (ci := 4) (v := .ref (rw 0)) (C := RX5) (T := TX5) (N := 10) hx hb hts inlX5 hown hK hP 3 rfl rfl 0 (by decide) (hts _ mw_47) (fun _ h9 => h9) rfl dX5_readLayer_118 ?_
            refine lv_iload_n hx hb dX5_readLayer_121 rfl (lv_at hl 3 rfl) ?_
            refine lv_iload_n hx hb dX5_readLayer_122 rfl (lv_at hl 4 rfl) ?_
            refine lv_iload hx hb dX5_readLayer_123 (lv_at hl 0 rfl) ?_
            refine kV_uv (q0 := 0) (As := [.int r, .int d, .int r_152]) (rest := []) (wr := [((rw 1), .inl (k 0, 10, .inl (g 1))), ((rd 0), .inr (4, [.ref (rw 0), .int (v_144 1), .int (v_144 2), .int (v_144 3), .ref (rd 1), .int (v_144 5), .int (v_144 6), .int (v_144 7), .int (v_144 8), .int (v_144 9)])), ((rd 1), .inl (k 2, 900, .inl tf))]) ⟨hx, hb, hml, hown, hts⟩ (s_W_setLayer l D k rw y g r d r_152 _ (show 0 ≤ (y 0).toInt ∧ (y 0).toInt ≤ 10 from ⟨by omega, by omega⟩) (show 0 ≤ (y 2).toInt ∧ (y 2).toInt ≤ 6 from ⟨by omega, by omega⟩) (show 0 ≤ (y 6).toInt ∧ (y 6).toInt ≤ 1 from ⟨by omega, by omega⟩) (show 0 ≤ r.toInt ∧ r.toInt ≤ 9 from ⟨by omega, by omega⟩) (show 0 ≤ d.toInt ∧ d.toInt ≤ 5 from ⟨by omega, by omega⟩)) (gV mw_266 mw_267 mw_268 mw_19 mw_269) hd_yX6_setLayer rfl rfl ⟨Nat.le_of_ble_eq_true rfl, Nat.le_of_ble_eq_true rfl⟩ hK hN0 hP hD hS hA [0, 2] [1, 3, 4] rfl rfl (by decide) (by decide) (by decide) rfl rfl rfl rfl hl.1 rfl (Nat.le_of_ble_eq_true rfl) dX5_readLayer_125 ⟨Nat.le_of_ble_eq_true rfl, Nat.le_of_ble_eq_true rfl⟩ (fun u_156 H locs hw hP hD hS => ?_)
            obtain ⟨v_157, rfl⟩ : ∃ z, z = u_156 := ⟨_, rfl⟩
            have hP : va_P D vwCl [((rw 1), .inl (k 0, 10, .inl (g 1))), ((rd 0), .inr (4, [.ref (rw 0), .int (v_144 1), .int (v_144 2), .int (v_144 3), .ref (rd 1), .int (v_144 5), .int (v_144 6), .int (v_144 7), .int (v_144 8), .int (v_144 9)])), ((rd 1), .inl (k 2, 900, .inl tf)), ((rw 0), .inr (5, [.int (y 0), .int (y 1), .int (y 2), .int (y 3), .int (y 4), .int (y 5), .int (y 6), .int (y 7), .int (y 8), .int (y 9), .int (y 10), .ref (rw 1), .ref (rw 2), .ref (rw 3), .ref (rw 4), .ref (rw 5)])), ((rw 3), .inl (k 0, 60, .inl (v_157 3)))] H := hP
            have hD : va_D A [((rw 1), .inl (k 0, 10, .inl (g 1))), ((rd 0), .inr (4, [.ref (rw 0), .int (v_144 1), .int (v_144 2), .int (v_144 3), .ref (rd 1), .int (v_144 5), .int (v_144 6), .int (v_144 7), .int (v_144 8), .int (v_144 9)])), ((rd 1), .inl (k 2, 900, .inl tf)), ((rw 0), .inr (5, [.int (y 0), .int (y 1), .int (y 2), .int (y 3), .int (y 4), .int (y 5), .int (y 6), .int (y 7), .int (y 8), .int (y 9), .int (y 10), .ref (rw 1), .ref (rw 2), .ref (rw 3), .ref (rw 4), .ref (rw 5)])), ((rw 3), .inl (k 0, 60, .inl (v_157 3)))] := hD
            refine lv_aload_n hx hb dX5_readLayer_128 rfl (lv_at hl 2 rfl) ?_
            refine va_get (D := D) (ci := 4) (v := .ref (rw 0)) (C := RX5) (T := TX5) (N := 10) hx hb hts inlX5 hown hK hP 1 rfl rfl 0 (by decide) (hts _ mw_47) (fun _ h9 => h9) rfl dX5_readLayer_129 ?_
            refine va_get (D := D) (ci := 5) (v := .ref (rw 1)) (C := RX6) (T := TX6) (N := 16) hx hb hts inlX6 hown hK hP 3 rfl rfl 11 (by decide) (hts _ mw_247) (fun _ h9 => h9) rfl dX5_readLayer_132 ?_
            refine lv_iload_n hx hb dX5_readLayer_135 rfl (lv_at hl 3 rfl) ?_
            refine lv_iload_n hx hb dX5_readLayer_136 rfl (lv_at hl 4 rfl) ?_
            refine lv_iconst (v := 1) hx hb dX5_readLayer_137 (by decide) ?_
            refine lv_iadd hx hb dX5_readLayer_138 ?_
            refine lv_topi (fun z_158 ez_158 => ?_)
            have tz_158 : z_158.toInt = d.toInt + 1 := by rw [ez_158]; exact ti_addc (by decide) (by omega) (by omega)
            refine va_iast hx hb hK hP hD hS 0 0 rfl rfl (vp_in_o (by omega) (by omega)) dX5_readLayer_139 (fun H locs hP hD hS => ?_)
            have hP : va_P D vwCl [((rw 1), .inl (k 0, 10, .inl (upd (g 1) r.toNatClampNeg z_158))), ((rd 0), .inr (4, [.ref (rw 0), .int (v_144 1), .int (v_144 2), .int (v_144 3), .ref (rd 1), .int (v_144 5), .int (v_144 6), .int (v_144 7), .int (v_144 8), .int (v_144 9)])), ((rd 1), .inl (k 2, 900, .inl tf)), ((rw 0), .inr (5, [.int (y 0), .int (y 1), .int (y 2), .int (y 3), .int (y 4), .int (y 5), .int (y 6), .int (y 7), .int (y 8), .int (y 9), .int (y 10), .ref (rw 1), .ref (rw 2), .ref (rw 3), .ref (rw 4), .ref (rw 5)])), ((rw 3), .inl (k 0, 60, .inl (v_157 3)))] H := hP
            have hD : va_D A [((rw 1), .inl (k 0, 10, .inl (upd (g 1) r.toNatClampNeg z_158))), ((rd 0), .inr (4, [.ref (rw 0), .int (v_144 1), .int (v_144 2), .int (v_144 3), .ref (rd 1), .int (v_144 5), .int (v_144 6), .int (v_144 7), .int (v_144 8), .int (v_144 9)])), ((rd 1), .inl (k 2, 900, .inl tf)), ((rw 0), .inr (5, [.int (y 0), .int (y 1), .int (y 2), .int (y 3), .int (y 4), .int (y 5), .int (y 6), .int (y 7), .int (y 8), .int (y 9), .int (y 10), .ref (rw 1), .ref (rw 2), .ref (rw 3), .ref (rw 4), .ref (rw 5)])), ((rw 3), .inl (k 0, 60, .inl (v_157 3)))] := hD
            generalize ef_159 : (upd (g 1) r.toNatClampNeg z_158) = f_159 at hP hD
            have hf_159 : ∀ j : Nat, 0 ≤ (f_159 j).toInt ∧ (f_159 j).toInt ≤ 6 := by rw [← ef_159]; exact upd_rng w_hd ⟨by omega, by omega⟩
            exact W.vret hx hb hr (fun t ht hW => ⟨⟨((va_seli [0, (v_144 1), (v_144 2), (v_144 3), 0, (v_144 5), (v_144 6), (v_144 7), (v_144 8), (v_144 9)]), (va_selg [(fun _ => 0), f_159, (fun _ => 0), (v_157 3)])), rfl, ⟨(show 0 ≤ (v_144 3).toInt ∧ (v_144 3).toInt ≤ 900 from ⟨by omega, by omega⟩), (show 0 ≤ (v_144 5).toInt ∧ (v_144 5).toInt ≤ 900 from ⟨by omega, by omega⟩), (show 0 ≤ (v_144 6).toInt ∧ (v_144 6).toInt ≤ 900 from ⟨by omega, by omega⟩), (show 0 ≤ (v_144 7).toInt ∧ (v_144 7).toInt ≤ 900 from ⟨by omega, by omega⟩), (show (v_144 6).toInt ≤ (v_144 7).toInt from by omega), (show (v_144 7).toInt ≤ (v_144 5).toInt from by omega), (show (v_144 3).toInt = (rf 3).toInt from by omega), (show ∀ j : Nat, 0 ≤ (f_159 j).toInt ∧ (f_159 j).toInt ≤ 6 from hf_159)⟩, by rw [ht]; exact hP.sub [1, 2, 3, 0, 4] rfl, hD.sub [1, 2, 3, 0, 4] (by decide) rfl⟩, hS.F ht⟩) hS.2.2 dX5_readLayer_140
          · have c_154 : r_153.toInt ≠ 0 := ti_ne c_154
            have qc_154 : r_153 = 1 := ti_of (show r_153.toInt = 1 from by omega)
            refine lv_iload hx hb dX5_readLayer_106 (lv_at hl 0 rfl) ?_
            refine kS_i (As := [.int r_152]) (rest := []) ⟨hx, hb, hml, hown, hts⟩ (s_L_withSpark l D k r_152) (gS mw_263 mw_264 mw_254 mw_265) hd_yX1_withSpark rfl rfl ⟨Nat.le_of_ble_eq_true rfl, Nat.le_of_ble_eq_true rfl⟩ hK hN0 (hP.sub [] rfl) rfl hl.1 rfl (Nat.le_of_ble_eq_true rfl) dX5_readLayer_108 ⟨Nat.le_of_ble_eq_true rfl, Nat.le_of_ble_eq_true rfl⟩ (fun r_160 hr_160 => ?_)
            refine lv_istore (lv' := [(4, .int r_160), (3, .int 0), (0, .ref (rd 0)), (1, .int r), (2, .int d)]) hx hb dX5_readLayer_111 hl (by decide) rfl (fun ls hl => ?_)
            refine lv_aload_n hx hb dX5_readLayer_113 rfl (lv_at hl 2 rfl) ?_
            refine kV_uv (q0 := 0) (As := []) (rest := []) (wr := [((rw 0), .inr (5, [.int (y 0), .int (y 1), .int (y 2), .int (y 3), .int (y 4), .int (y 5), .int (y 6), .int (y 7), .int (y 8), .int (y 9), .int (y 10), .ref (rw 1), .ref (rw 2), .ref (rw 3), .ref (rw 4), .ref (rw 5)])), ((rw 1), .inl (k 0, 10, .inl (g 1))), ((rw 3), .inl (k 0, 60, .inl (g 3)))]) ⟨hx, hb, hml, hown, hts⟩ (s_R_advance l D k _ _ v_144 tf _ (show 0 ≤ (v_144 3).toInt ∧ (v_144 3).toInt ≤ 900 from ⟨by omega, by omega⟩) (show 0 ≤ (v_144 5).toInt ∧ (v_144 5).toInt ≤ 900 from ⟨by omega, by omega⟩) (show 0 ≤ (v_144 7).toInt ∧ (v_144 7).toInt ≤ 900 from ⟨by omega, by omega⟩) (show (v_144 7).toInt ≤ (v_144 5).toInt from by omega)) (gV mw_159 mw_160 mw_161 mw_15 mw_162) hd_yX5_advance rfl rfl ⟨Nat.le_of_ble_eq_true rfl, Nat.le_of_ble_eq_true rfl⟩ hK hN0 hP hD hS hA [3, 4] [0, 1, 2] rfl rfl (by decide) (by decide) (by decide) rfl rfl rfl rfl hl.1 rfl (Nat.le_of_ble_eq_true rfl) dX5_readLayer_114 ⟨Nat.le_of_ble_eq_true rfl, Nat.le_of_ble_eq_true rfl⟩ (fun u_162 H locs hw hP hD hS => ?_)
            obtain ⟨v_163, rfl⟩ : ∃ z, z = u_162 := ⟨_, rfl⟩
            obtain ⟨h_164, h_165, h_166, h_167, h_168, h_169, h_170⟩ := hw
            have h_164 : 0 ≤ (v_163 3).toInt ∧ (v_163 3).toInt ≤ 900 := h_164
            have h_165 : 0 ≤ (v_163 5).toInt ∧ (v_163 5).toInt ≤ 900 := h_165
            have h_166 : 0 ≤ (v_163 6).toInt ∧ (v_163 6).toInt ≤ 900 := h_166
            have h_167 : 0 ≤ (v_163 7).toInt ∧ (v_163 7).toInt ≤ 900 := h_167
            have h_168 : (v_163 6).toInt ≤ (v_163 7).toInt := h_168
            have h_169 : (v_163 7).toInt ≤ (v_163 5).toInt := h_169
            have h_170 : (v_163 3).toInt = (v_144 3).toInt := h_170
            have hP : va_P D vwCl [((rw 0), .inr (5, [.int (y 0), .int (y 1), .int (y 2), .int (y 3), .int (y 4), .int (y 5), .int (y 6), .int (y 7), .int (y 8), .int (y 9), .int (y 10), .ref (rw 1), .ref (rw 2), .ref (rw 3), .ref (rw 4), .ref (rw 5)])), ((rw 1), .inl (k 0, 10, .inl (g 1))), ((rw 3), .inl (k 0, 60, .inl (g 3))), ((rd 0), .inr (4, [.ref (rw 0), .int (v_163 1), .int (v_163 2), .int (v_163 3), .ref (rd 1), .int (v_163 5), .int (v_163 6), .int (v_163 7), .int (v_163 8), .int (v_163 9)])), ((rd 1), .inl (k 2, 900, .inl tf))] H := hP
            have hD : va_D A [((rw 0), .inr (5, [.int (y 0), .int (y 1), .int (y 2), .int (y 3), .int (y 4), .int (y 5), .int (y 6), .int (y 7), .int (y 8), .int (y 9), .int (y 10), .ref (rw 1), .ref (rw 2), .ref (rw 3), .ref (rw 4), .ref (rw 5)])), ((rw 1), .inl (k 0, 10, .inl (g 1))), ((rw 3), .inl (k 0, 60, .inl (g 3))), ((rd 0), .inr (4, [.ref (rw 0), .int (v_163 1), .int (v_163 2), .int (v_163 3), .ref (rd 1), .int (v_163 5), .int (v_163 6), .int (v_163 7), .int (v_163 8), .int (v_163 9)])), ((rd 1), .inl (k 2, 900, .inl tf))] := hD
            refine lv_aload_n hx hb dX5_readLayer_117 rfl (lv_at hl 2 rfl) ?_
            refine va_get (D := D) (ci := 4) (v := .ref (rw 0)) (C := RX5) (T := TX5) (N := 10) hx hb hts inlX5 hown hK hP 3 rfl rfl 0 (by decide) (hts _ mw_47) (fun _ h9 => h9) rfl dX5_readLayer_118 ?_
            refine lv_iload_n hx hb dX5_readLayer_121 rfl (lv_at hl 3 rfl) ?_
            refine lv_iload_n hx hb dX5_readLayer_122 rfl (lv_at hl 4 rfl) ?_
            refine lv_iload hx hb dX5_readLayer_123 (lv_at hl 0 rfl) ?_
            refine kV_uv (q0 := 0) (As := [.int r, .int d, .int r_160]) (rest := []) (wr := [((rw 1), .inl (k 0, 10, .inl (g 1))), ((rd 0), .inr (4, [.ref (rw 0), .int (v_163 1), .int (v_163 2), .int (v_163 3), .ref (rd 1), .int (v_163 5), .int (v_163 6), .int (v_163 7), .int (v_163 8), .int (v_163 9)])), ((rd 1), .inl (k 2, 900, .inl tf))]) ⟨hx, hb, hml, hown, hts⟩ (s_W_setLayer l D k rw y g r d r_160 _ (show 0 ≤ (y 0).toInt ∧ (y 0).toInt ≤ 10 from ⟨by omega, by omega⟩) (show 0 ≤ (y 2).toInt ∧ (y 2).toInt ≤ 6 from ⟨by omega, by omega⟩) (show 0 ≤ (y 6).toInt ∧ (y 6).toInt ≤ 1 from ⟨by omega, by omega⟩) (show 0 ≤ r.toInt ∧ r.toInt ≤ 9 from ⟨by omega, by omega⟩) (show 0 ≤ d.toInt ∧ d.toInt ≤ 5 from ⟨by omega, by omega⟩)) (gV mw_266 mw_267 mw_268 mw_19 mw_269) hd_yX6_setLayer rfl rfl ⟨Nat.le_of_ble_eq_true rfl, Nat.le_of_ble_eq_true rfl⟩ hK hN0 hP hD hS hA [0, 2] [1, 3, 4] rfl rfl (by decide) (by decide) (by decide) rfl rfl rfl rfl hl.1 rfl (Nat.le_of_ble_eq_true rfl) dX5_readLayer_125 ⟨Nat.le_of_ble_eq_true rfl, Nat.le_of_ble_eq_true rfl⟩ (fun u_172 H locs hw hP hD hS => ?_)
            obtain ⟨v_173, rfl⟩ : ∃ z, z = u_172 := ⟨_, rfl⟩
            have hP : va_P D vwCl [((rw 1), .inl (k 0, 10, .inl (g 1))), ((rd 0), .inr (4, [.ref (rw 0), .int (v_163 1), .int (v_163 2), .int (v_163 3), .ref (rd 1), .int (v_163 5), .int (v_163 6), .int (v_163 7), .int (v_163 8), .int (v_163 9)])), ((rd 1), .inl (k 2, 900, .inl tf)), ((rw 0), .inr (5, [.int (y 0), .int (y 1), .int (y 2), .int (y 3), .int (y 4), .int (y 5), .int (y 6), .int (y 7), .int (y 8), .int (y 9), .int (y 10), .ref (rw 1), .ref (rw 2), .ref (rw 3), .ref (rw 4), .ref (rw 5)])), ((rw 3), .inl (k 0, 60, .inl (v_173 3)))] H := hP
            have hD : va_D A [((rw 1), .inl (k 0, 10, .inl (g 1))), ((rd 0), .inr (4, [.ref (rw 0), .int (v_163 1), .int (v_163 2), .int (v_163 3), .ref (rd 1), .int (v_163 5), .int (v_163 6), .int (v_163 7), .int (v_163 8), .int (v_163 9)])), ((rd 1), .inl (k 2, 900, .inl tf)), ((rw 0), .inr (5, [.int (y 0), .int (y 1), .int (y 2), .int (y 3), .int (y 4), .int (y 5), .int (y 6), .int (y 7), .int (y 8), .int (y 9), .int (y 10), .ref (rw 1), .ref (rw 2), .ref (rw 3), .ref (rw 4), .ref (rw 5)])), ((rw 3), .inl (k 0, 60, .inl (v_173 3)))] := hD
            refine lv_aload_n hx hb dX5_readLayer_128 rfl (lv_at hl 2 rfl) ?_
            refine va_get (D := D) (ci := 4) (v := .ref (rw 0)) (C := RX5) (T := TX5) (N := 10) hx hb hts inlX5 hown hK hP 1 rfl rfl 0 (by decide) (hts _ mw_47) (fun _ h9 => h9) rfl dX5_readLayer_129 ?_
            refine va_get (D := D) (ci := 5) (v := .ref (rw 1)) (C := RX6) (T := TX6) (N := 16) hx hb hts inlX6 hown hK hP 3 rfl rfl 11 (by decide) (hts _ mw_247) (fun _ h9 => h9) rfl dX5_readLayer_132 ?_
            refine lv_iload_n hx hb dX5_readLayer_135 rfl (lv_at hl 3 rfl) ?_
            refine lv_iload_n hx hb dX5_readLayer_136 rfl (lv_at hl 4 rfl) ?_
            refine lv_iconst (v := 1) hx hb dX5_readLayer_137 (by decide) ?_
            refine lv_iadd hx hb dX5_readLayer_138 ?_
            refine lv_topi (fun z_174 ez_174 => ?_)
            have tz_174 : z_174.toInt = d.toInt + 1 := by rw [ez_174]; exact ti_addc (by decide) (by omega) (by omega)
            refine va_iast hx hb hK hP hD hS 0 0 rfl rfl (vp_in_o (by omega) (by omega)) dX5_readLayer_139 (fun H locs hP hD hS => ?_)
            have hP : va_P D vwCl [((rw 1), .inl (k 0, 10, .inl (upd (g 1) r.toNatClampNeg z_174))), ((rd 0), .inr (4, [.ref (rw 0), .int (v_163 1), .int (v_163 2), .int (v_163 3), .ref (rd 1), .int (v_163 5), .int (v_163 6), .int (v_163 7), .int (v_163 8), .int (v_163 9)])), ((rd 1), .inl (k 2, 900, .inl tf)), ((rw 0), .inr (5, [.int (y 0), .int (y 1), .int (y 2), .int (y 3), .int (y 4), .int (y 5), .int (y 6), .int (y 7), .int (y 8), .int (y 9), .int (y 10), .ref (rw 1), .ref (rw 2), .ref (rw 3), .ref (rw 4), .ref (rw 5)])), ((rw 3), .inl (k 0, 60, .inl (v_173 3)))] H := hP
            have hD : va_D A [((rw 1), .inl (k 0, 10, .inl (upd (g 1) r.toNatClampNeg z_174))), ((rd 0), .inr (4, [.ref (rw 0), .int (v_163 1), .int (v_163 2), .int (v_163 3), .ref (rd 1), .int (v_163 5), .int (v_163 6), .int (v_163 7), .int (v_163 8), .int (v_163 9)])), ((rd 1), .inl (k 2, 900, .inl tf)), ((rw 0), .inr (5, [.int (y 0), .int (y 1), .int (y 2), .int (y 3), .int (y 4), .int (y 5), .int (y 6), .int (y 7), .int (y 8), .int (y 9), .int (y 10), .ref (rw 1), .ref (rw 2), .ref (rw 3), .ref (rw 4), .ref (rw 5)])), ((rw 3), .inl (k 0, 60, .inl (v_173 3)))] := hD
            generalize ef_175 : (upd (g 1) r.toNatClampNeg z_174) = f_175 at hP hD
            have hf_175 : ∀ j : Nat, 0 ≤ (f_175 j).toInt ∧ (f_175 j).toInt ≤ 6 := by rw [← ef_175]; exact upd_rng w_hd ⟨by omega, by omega⟩
            exact W.vret hx hb hr (fun t ht hW => ⟨⟨((va_seli [0, (v_163 1), (v_163 2), (v_163 3), 0, (v_163 5), (v_163 6), (v_163 7), (v_163 8), (v_163 9)]), (va_selg [(fun _ => 0), f_175, (fun _ => 0), (v_173 3)])), rfl, ⟨(show 0 ≤ (v_163 3).toInt ∧ (v_163 3).toInt ≤ 900 from ⟨by omega, by omega⟩), (show 0 ≤ (v_163 5).toInt ∧ (v_163 5).toInt ≤ 900 from ⟨by omega, by omega⟩), (show 0 ≤ (v_163 6).toInt ∧ (v_163 6).toInt ≤ 900 from ⟨by omega, by omega⟩), (show 0 ≤ (v_163 7).toInt ∧ (v_163 7).toInt ≤ 900 from ⟨by omega, by omega⟩), (show (v_163 6).toInt ≤ (v_163 7).toInt from by omega), (show (v_163 7).toInt ≤ (v_163 5).toInt from by omega), (show (v_163 3).toInt = (rf 3).toInt from by omega), (show ∀ j : Nat, 0 ≤ (f_175 j).toInt ∧ (f_175 j).toInt ≤ 6 from hf_175)⟩, by rw [ht]; exact hP.sub [1, 2, 3, 0, 4] rfl, hD.sub [1, 2, 3, 0, 4] (by decide) rfl⟩, hS.F ht⟩) hS.2.2 dX5_readLayer_140
    · have c_3 : r_2.toInt ≠ 0 := ti_ne c_3
      have qc_3 : r_2 = 1 := ti_of (show r_2.toInt = 1 from by omega)
      refine lv_iconst (v := 1) hx hb dX5_readLayer_26 (by decide) ?_
      refine lv_goto (tgt := 31) hx hb dX5_readLayer_27 (by decide) ?_
      refine lv_istore_n (lv' := [(3, .int 1), (0, .ref (rd 0)), (1, .int r), (2, .int d)]) hx hb dX5_readLayer_31 rfl hl (by decide) rfl (fun ls hl => ?_)
      refine lv_aload_n hx hb dX5_readLayer_32 rfl (lv_at hl 1 rfl) ?_
      refine kV_uv (q0 := 0) (As := []) (rest := []) (wr := [((rw 0), .inr (5, [.int (y 0), .int (y 1), .int (y 2), .int (y 3), .int (y 4), .int (y 5), .int (y 6), .int (y 7), .int (y 8), .int (y 9), .int (y 10), .ref (rw 1), .ref (rw 2), .ref (rw 3), .ref (rw 4), .ref (rw 5)])), ((rw 1), .inl (k 0, 10, .inl (g 1))), ((rw 3), .inl (k 0, 60, .inl (g 3)))]) ⟨hx, hb, hml, hown, hts⟩ (s_R_advance l D k _ _ rf tf _ (show 0 ≤ (rf 3).toInt ∧ (rf 3).toInt ≤ 900 from ⟨by omega, by omega⟩) (show 0 ≤ (rf 5).toInt ∧ (rf 5).toInt ≤ 900 from ⟨by omega, by omega⟩) (show 0 ≤ (rf 7).toInt ∧ (rf 7).toInt ≤ 900 from ⟨by omega, by omega⟩) (show (rf 7).toInt ≤ (rf 5).toInt from by omega)) (gV mw_159 mw_160 mw_161 mw_15 mw_162) hd_yX5_advance rfl rfl ⟨Nat.le_of_ble_eq_true rfl, Nat.le_of_ble_eq_true rfl⟩ hK hN0 hP hD hS hA [0, 1] [2, 3, 4] rfl rfl (by decide) (by decide) (by decide) rfl rfl rfl rfl hl.1 rfl (Nat.le_of_ble_eq_true rfl) dX5_readLayer_33 ⟨Nat.le_of_ble_eq_true rfl, Nat.le_of_ble_eq_true rfl⟩ (fun u_177 H locs hw hP hD hS => ?_)
      obtain ⟨v_178, rfl⟩ : ∃ z, z = u_177 := ⟨_, rfl⟩
      obtain ⟨h_179, h_180, h_181, h_182, h_183, h_184, h_185⟩ := hw
      have h_179 : 0 ≤ (v_178 3).toInt ∧ (v_178 3).toInt ≤ 900 := h_179
      have h_180 : 0 ≤ (v_178 5).toInt ∧ (v_178 5).toInt ≤ 900 := h_180
      have h_181 : 0 ≤ (v_178 6).toInt ∧ (v_178 6).toInt ≤ 900 := h_181
      have h_182 : 0 ≤ (v_178 7).toInt ∧ (v_178 7).toInt ≤ 900 := h_182
      have h_183 : (v_178 6).toInt ≤ (v_178 7).toInt := h_183
      have h_184 : (v_178 7).toInt ≤ (v_178 5).toInt := h_184
      have h_185 : (v_178 3).toInt = (rf 3).toInt := h_185
      have hP : va_P D vwCl [((rw 0), .inr (5, [.int (y 0), .int (y 1), .int (y 2), .int (y 3), .int (y 4), .int (y 5), .int (y 6), .int (y 7), .int (y 8), .int (y 9), .int (y 10), .ref (rw 1), .ref (rw 2), .ref (rw 3), .ref (rw 4), .ref (rw 5)])), ((rw 1), .inl (k 0, 10, .inl (g 1))), ((rw 3), .inl (k 0, 60, .inl (g 3))), ((rd 0), .inr (4, [.ref (rw 0), .int (v_178 1), .int (v_178 2), .int (v_178 3), .ref (rd 1), .int (v_178 5), .int (v_178 6), .int (v_178 7), .int (v_178 8), .int (v_178 9)])), ((rd 1), .inl (k 2, 900, .inl tf))] H := hP
      have hD : va_D A [((rw 0), .inr (5, [.int (y 0), .int (y 1), .int (y 2), .int (y 3), .int (y 4), .int (y 5), .int (y 6), .int (y 7), .int (y 8), .int (y 9), .int (y 10), .ref (rw 1), .ref (rw 2), .ref (rw 3), .ref (rw 4), .ref (rw 5)])), ((rw 1), .inl (k 0, 10, .inl (g 1))), ((rw 3), .inl (k 0, 60, .inl (g 3))), ((rd 0), .inr (4, [.ref (rw 0), .int (v_178 1), .int (v_178 2), .int (v_178 3), .ref (rd 1), .int (v_178 5), .int (v_178 6), .int (v_178 7), .int (v_178 8), .int (v_178 9)])), ((rd 1), .inl (k 2, 900, .inl tf))] := hD
      refine lv_iload_n hx hb dX5_readLayer_36 rfl (lv_at hl 0 rfl) ?_
      refine lv_aload_n hx hb dX5_readLayer_37 rfl (lv_at hl 1 rfl) ?_
      refine lv_iconst (v := 0) hx hb dX5_readLayer_38 (by decide) ?_
      refine lv_bipush (v := 99) hx hb dX5_readLayer_39 (by decide) ?_
      refine kV_ui (q0 := 0) (As := [.int 0, .int 99]) (rest := [.int 1]) (wr := [((rw 0), .inr (5, [.int (y 0), .int (y 1), .int (y 2), .int (y 3), .int (y 4), .int (y 5), .int (y 6), .int (y 7), .int (y 8), .int (y 9), .int (y 10), .ref (rw 1), .ref (rw 2), .ref (rw 3), .ref (rw 4), .ref (rw 5)])), ((rw 1), .inl (k 0, 10, .inl (g 1))), ((rw 3), .inl (k 0, 60, .inl (g 3)))]) ⟨hx, hb, hml, hown, hts⟩ (s_R_readNumber l D k _ _ v_178 tf 0 99 _ (show 0 ≤ (v_178 3).toInt ∧ (v_178 3).toInt ≤ 900 from ⟨by omega, by omega⟩) (show 0 ≤ (v_178 5).toInt ∧ (v_178 5).toInt ≤ 900 from ⟨by omega, by omega⟩) (show 0 ≤ (v_178 6).toInt ∧ (v_178 6).toInt ≤ 900 from ⟨by omega, by omega⟩) (show 0 ≤ (v_178 7).toInt ∧ (v_178 7).toInt ≤ 900 from ⟨by omega, by omega⟩) (show (v_178 6).toInt ≤ (v_178 7).toInt from by omega) (show (v_178 7).toInt ≤ (v_178 5).toInt from by omega)) (gV mw_248 mw_249 mw_250 mw_15 mw_251) hd_yX5_readNumber rfl rfl ⟨Nat.le_of_ble_eq_true rfl, Nat.le_of_ble_eq_true rfl⟩ hK hN0 hP hD hS hA [3, 4] [0, 1, 2] rfl rfl (by decide) (by decide) (by decide) rfl rfl rfl rfl hl.1 rfl (Nat.le_of_ble_eq_true rfl) dX5_readLayer_41 ⟨Nat.le_of_ble_eq_true rfl, Nat.le_of_ble_eq_true rfl⟩ (fun r_186 u_187 H locs hw hP hD hS => ?_)
      obtain ⟨v_188, rfl⟩ : ∃ z, z = u_187 := ⟨_, rfl⟩
      obtain ⟨hr_186, h_189, h_190, h_191, h_192, h_193, h_194, h_195⟩ := hw
      have h_189 : 0 ≤ (v_188 3).toInt ∧ (v_188 3).toInt ≤ 900 := h_189
      have h_190 : 0 ≤ (v_188 5).toInt ∧ (v_188 5).toInt ≤ 900 := h_190
      have h_191 : 0 ≤ (v_188 6).toInt ∧ (v_188 6).toInt ≤ 900 := h_191
      have h_192 : 0 ≤ (v_188 7).toInt ∧ (v_188 7).toInt ≤ 900 := h_192
      have h_193 : (v_188 6).toInt ≤ (v_188 7).toInt := h_193
      have h_194 : (v_188 7).toInt ≤ (v_188 5).toInt := h_194
      have h_195 : (v_188 3).toInt = (v_178 3).toInt := h_195
      have hP : va_P D vwCl [((rw 0), .inr (5, [.int (y 0), .int (y 1), .int (y 2), .int (y 3), .int (y 4), .int (y 5), .int (y 6), .int (y 7), .int (y 8), .int (y 9), .int (y 10), .ref (rw 1), .ref (rw 2), .ref (rw 3), .ref (rw 4), .ref (rw 5)])), ((rw 1), .inl (k 0, 10, .inl (g 1))), ((rw 3), .inl (k 0, 60, .inl (g 3))), ((rd 0), .inr (4, [.ref (rw 0), .int (v_188 1), .int (v_188 2), .int (v_188 3), .ref (rd 1), .int (v_188 5), .int (v_188 6), .int (v_188 7), .int (v_188 8), .int (v_188 9)])), ((rd 1), .inl (k 2, 900, .inl tf))] H := hP
      have hD : va_D A [((rw 0), .inr (5, [.int (y 0), .int (y 1), .int (y 2), .int (y 3), .int (y 4), .int (y 5), .int (y 6), .int (y 7), .int (y 8), .int (y 9), .int (y 10), .ref (rw 1), .ref (rw 2), .ref (rw 3), .ref (rw 4), .ref (rw 5)])), ((rw 1), .inl (k 0, 10, .inl (g 1))), ((rw 3), .inl (k 0, 60, .inl (g 3))), ((rd 0), .inr (4, [.ref (rw 0), .int (v_188 1), .int (v_188 2), .int (v_188 3), .ref (rd 1), .int (v_188 5), .int (v_188 6), .int (v_188 7), .int (v_188 8), .int (v_188 9)])), ((rd 1), .inl (k 2, 900, .inl tf))] := hD
      refine lv_iconst (v := (-1)) hx hb dX5_readLayer_44 (by decide) ?_
      refine kS_i (As := [.int 1, .int r_186, .int (-1)]) (rest := []) ⟨hx, hb, hml, hown, hts⟩ (s_L_made l D k 1 r_186 (-1)) (gS mw_252 mw_253 mw_254 mw_255) hd_yX1_made rfl rfl ⟨Nat.le_of_ble_eq_true rfl, Nat.le_of_ble_eq_true rfl⟩ hK hN0 (hP.sub [] rfl) rfl hl.1 rfl (Nat.le_of_ble_eq_true rfl) dX5_readLayer_45 ⟨Nat.le_of_ble_eq_true rfl, Nat.le_of_ble_eq_true rfl⟩ (fun r_196 hr_196 => ?_)
      refine lv_istore (lv' := [(4, .int r_196), (3, .int 1), (0, .ref (rd 0)), (1, .int r), (2, .int d)]) hx hb dX5_readLayer_48 hl (by decide) rfl (fun ls hl => ?_)
      refine lv_aload_n hx hb dX5_readLayer_50 rfl (lv_at hl 2 rfl) ?_
      refine va_ldcS (own := RX5) (index := 123) (tx := "wet") (q := ak 4) hx hb hown (hW0.2.2.2 4 (by decide)) dX5_readLayer_51 ?_
      refine kV_is (q0 := 0) (As := [.ref (ak 4)]) (rest := []) ⟨hx, hb, hml, hown, hts⟩ (s_R_isWord l D k ak av _ _ v_188 tf 4 (show 0 ≤ (v_188 3).toInt ∧ (v_188 3).toInt ≤ 900 from ⟨by omega, by omega⟩) (show 0 ≤ (v_188 5).toInt ∧ (v_188 5).toInt ≤ 900 from ⟨by omega, by omega⟩) (show 0 ≤ (v_188 6).toInt ∧ (v_188 6).toInt ≤ 900 from ⟨by omega, by omega⟩) (show 0 ≤ (v_188 7).toInt ∧ (v_188 7).toInt ≤ 900 from ⟨by omega, by omega⟩) (show (v_188 6).toInt ≤ (v_188 7).toInt from by omega) (show (v_188 7).toInt ≤ (v_188 5).toInt from by omega) (by omega)) (gV mw_185 mw_186 mw_187 mw_15 mw_188) hd_yX5_isWord rfl rfl ⟨Nat.le_of_ble_eq_true rfl, Nat.le_of_ble_eq_true rfl⟩ hK hN0 hW0 hS (hP.sub [3, 4] rfl) rfl rfl rfl rfl hl.1 rfl (Nat.le_of_ble_eq_true rfl) dX5_readLayer_53 ⟨Nat.le_of_ble_eq_true rfl, Nat.le_of_ble_eq_true rfl⟩ (fun r_197 hr_197 => ?_)
      have hr_197 : 0 ≤ r_197.toInt ∧ r_197.toInt ≤ 1 := hr_197
      refine lv_if_eq (tgt := 70) hx hb dX5_readLayer_56 (by decide) (fun c_198 => ?_) (fun c_198 => ?_)
      · have c_198 : r_197.toInt = 0 := ti_eq c_198
        have qc_198 : r_197 = 0 := ti_of (show r_197.toInt = 0 from by omega)
        refine lv_aload_n hx hb dX5_readLayer_70 rfl (lv_at hl 2 rfl) ?_
        refine va_ldcS (own := RX5) (index := 129) (tx := "mice") (q := ak 5) hx hb hown (hW0.2.2.2 5 (by decide)) dX5_readLayer_71 ?_
        refine kV_is (q0 := 0) (As := [.ref (ak 5)]) (rest := []) ⟨hx, hb, hml, hown, hts⟩ (s_R_isWord l D k ak av _ _ v_188 tf 5 (show 0 ≤ (v_188 3).toInt ∧ (v_188 3).toInt ≤ 900 from ⟨by omega, by omega⟩) (show 0 ≤ (v_188 5).toInt ∧ (v_188 5).toInt ≤ 900 from ⟨by omega, by omega⟩) (show 0 ≤ (v_188 6).toInt ∧ (v_188 6).toInt ≤ 900 from ⟨by omega, by omega⟩) (show 0 ≤ (v_188 7).toInt ∧ (v_188 7).toInt ≤ 900 from ⟨by omega, by omega⟩) (show (v_188 6).toInt ≤ (v_188 7).toInt from by omega) (show (v_188 7).toInt ≤ (v_188 5).toInt from by omega) (by omega)) (gV mw_185 mw_186 mw_187 mw_15 mw_188) hd_yX5_isWord rfl rfl ⟨Nat.le_of_ble_eq_true rfl, Nat.le_of_ble_eq_true rfl⟩ hK hN0 hW0 hS (hP.sub [3, 4] rfl) rfl rfl rfl rfl hl.1 rfl (Nat.le_of_ble_eq_true rfl) dX5_readLayer_73 ⟨Nat.le_of_ble_eq_true rfl, Nat.le_of_ble_eq_true rfl⟩ (fun r_199 hr_199 => ?_)
        have hr_199 : 0 ≤ r_199.toInt ∧ r_199.toInt ≤ 1 := hr_199
        refine lv_if_eq (tgt := 97) hx hb dX5_readLayer_76 (by decide) (fun c_200 => ?_) (fun c_200 => ?_)
        · have c_200 : r_199.toInt = 0 := ti_eq c_200
          have qc_200 : r_199 = 0 := ti_of (show r_199.toInt = 0 from by omega)
          refine lv_aload_n hx hb dX5_readLayer_97 rfl (lv_at hl 2 rfl) ?_
          refine va_ldcS (own := RX5) (index := 134) (tx := "spark") (q := ak 6) hx hb hown (hW0.2.2.2 6 (by decide)) dX5_readLayer_98 ?_
          refine kV_is (q0 := 0) (As := [.ref (ak 6)]) (rest := []) ⟨hx, hb, hml, hown, hts⟩ (s_R_isWord l D k ak av _ _ v_188 tf 6 (show 0 ≤ (v_188 3).toInt ∧ (v_188 3).toInt ≤ 900 from ⟨by omega, by omega⟩) (show 0 ≤ (v_188 5).toInt ∧ (v_188 5).toInt ≤ 900 from ⟨by omega, by omega⟩) (show 0 ≤ (v_188 6).toInt ∧ (v_188 6).toInt ≤ 900 from ⟨by omega, by omega⟩) (show 0 ≤ (v_188 7).toInt ∧ (v_188 7).toInt ≤ 900 from ⟨by omega, by omega⟩) (show (v_188 6).toInt ≤ (v_188 7).toInt from by omega) (show (v_188 7).toInt ≤ (v_188 5).toInt from by omega) (by omega)) (gV mw_185 mw_186 mw_187 mw_15 mw_188) hd_yX5_isWord rfl rfl ⟨Nat.le_of_ble_eq_true rfl, Nat.le_of_ble_eq_true rfl⟩ hK hN0 hW0 hS (hP.sub [3, 4] rfl) rfl rfl rfl rfl hl.1 rfl (Nat.le_of_ble_eq_true rfl) dX5_readLayer_100 ⟨Nat.le_of_ble_eq_true rfl, Nat.le_of_ble_eq_true rfl⟩ (fun r_201 hr_201 => ?_)
          have hr_201 : 0 ≤ r_201.toInt ∧ r_201.toInt ≤ 1 := hr_201
          refine lv_if_eq (tgt := 117) hx hb dX5_readLayer_103 (by decide) (fun c_202 => ?_) (fun c_202 => ?_)
          · have c_202 : r_201.toInt = 0 := ti_eq c_202
            have qc_202 : r_201 = 0 := ti_of (show r_201.toInt = 0 from by omega)
            refine lv_aload_n hx hb dX5_readLayer_117 rfl (lv_at hl 2 rfl) ?_
            refine va_get (D := D) (ci := 4) (v := .ref (rw 0)) (C := RX5) (T := TX5) (N := 10) hx hb hts inlX5 hown hK hP 3 rfl rfl 0 (by decide) (hts _ mw_47) (fun _ h9 => h9) rfl dX5_readLayer_118 ?_
            refine lv_iload_n hx hb dX5_readLayer_121 rfl (lv_at hl 3 rfl) ?_
            refine lv_iload_n hx hb dX5_readLayer_122 rfl (lv_at hl 4 rfl) ?_
            refine lv_iload hx hb dX5_readLayer_123 (lv_at hl 0 rfl) ?_
            refine kV_uv (q0 := 0) (As := [.int r, .int d, .int r_196]) (rest := []) (wr := [((rw 1), .inl (k 0, 10, .inl (g 1))), ((rd 0), .inr (4, [.ref (rw 0), .int (v_188 1), .int (v_188 2), .int (v_188 3), .ref (rd 1), .int (v_188 5), .int (v_188 6), .int (v_188 7), .int (v_188 8), .int (v_188 9)])), ((rd 1), .inl (k 2, 900, .inl tf))]) ⟨hx, hb, hml, hown, hts⟩ (s_W_setLayer l D k rw y g r d r_196 _ (show 0 ≤ (y 0).toInt ∧ (y 0).toInt ≤ 10 from ⟨by omega, by omega⟩) (show 0 ≤ (y 2).toInt ∧ (y 2).toInt ≤ 6 from ⟨by omega, by omega⟩) (show 0 ≤ (y 6).toInt ∧ (y 6).toInt ≤ 1 from ⟨by omega, by omega⟩) (show 0 ≤ r.toInt ∧ r.toInt ≤ 9 from ⟨by omega, by omega⟩) (show 0 ≤ d.toInt ∧ d.toInt ≤ 5 from ⟨by omega, by omega⟩)) (gV mw_266 mw_267 mw_268 mw_19 mw_269) hd_yX6_setLayer rfl rfl ⟨Nat.le_of_ble_eq_true rfl, Nat.le_of_ble_eq_true rfl⟩ hK hN0 hP hD hS hA [0, 2] [1, 3, 4] rfl rfl (by decide) (by decide) (by decide) rfl rfl rfl rfl hl.1 rfl (Nat.le_of_ble_eq_true rfl) dX5_readLayer_125 ⟨Nat.le_of_ble_eq_true rfl, Nat.le_of_ble_eq_true rfl⟩ (fun u_204 H locs hw hP hD hS => ?_)
            obtain ⟨v_205, rfl⟩ : ∃ z, z = u_204 := ⟨_, rfl⟩
            have hP : va_P D vwCl [((rw 1), .inl (k 0, 10, .inl (g 1))), ((rd 0), .inr (4, [.ref (rw 0), .int (v_188 1), .int (v_188 2), .int (v_188 3), .ref (rd 1), .int (v_188 5), .int (v_188 6), .int (v_188 7), .int (v_188 8), .int (v_188 9)])), ((rd 1), .inl (k 2, 900, .inl tf)), ((rw 0), .inr (5, [.int (y 0), .int (y 1), .int (y 2), .int (y 3), .int (y 4), .int (y 5), .int (y 6), .int (y 7), .int (y 8), .int (y 9), .int (y 10), .ref (rw 1), .ref (rw 2), .ref (rw 3), .ref (rw 4), .ref (rw 5)])), ((rw 3), .inl (k 0, 60, .inl (v_205 3)))] H := hP
            have hD : va_D A [((rw 1), .inl (k 0, 10, .inl (g 1))), ((rd 0), .inr (4, [.ref (rw 0), .int (v_188 1), .int (v_188 2), .int (v_188 3), .ref (rd 1), .int (v_188 5), .int (v_188 6), .int (v_188 7), .int (v_188 8), .int (v_188 9)])), ((rd 1), .inl (k 2, 900, .inl tf)), ((rw 0), .inr (5, [.int (y 0), .int (y 1), .int (y 2), .int (y 3), .int (y 4), .int (y 5), .int (y 6), .int (y 7), .int (y 8), .int (y 9), .int (y 10), .ref (rw 1), .ref (rw 2), .ref (rw 3), .ref (rw 4), .ref (rw 5)])), ((rw 3), .inl (k 0, 60, .inl (v_205 3)))] := hD
            refine lv_aload_n hx hb dX5_readLayer_128 rfl (lv_at hl 2 rfl) ?_
            refine va_get (D := D) (ci := 4) (v := .ref (rw 0)) (C := RX5) (T := TX5) (N := 10) hx hb hts inlX5 hown hK hP 1 rfl rfl 0 (by decide) (hts _ mw_47) (fun _ h9 => h9) rfl dX5_readLayer_129 ?_
            refine va_get (D := D) (ci := 5) (v := .ref (rw 1)) (C := RX6) (T := TX6) (N := 16) hx hb hts inlX6 hown hK hP 3 rfl rfl 11 (by decide) (hts _ mw_247) (fun _ h9 => h9) rfl dX5_readLayer_132 ?_
            refine lv_iload_n hx hb dX5_readLayer_135 rfl (lv_at hl 3 rfl) ?_
            refine lv_iload_n hx hb dX5_readLayer_136 rfl (lv_at hl 4 rfl) ?_
            refine lv_iconst (v := 1) hx hb dX5_readLayer_137 (by decide) ?_
            refine lv_iadd hx hb dX5_readLayer_138 ?_
            refine lv_topi (fun z_206 ez_206 => ?_)
            have tz_206 : z_206.toInt = d.toInt + 1 := by rw [ez_206]; exact ti_addc (by decide) (by omega) (by omega)
            refine va_iast hx hb hK hP hD hS 0 0 rfl rfl (vp_in_o (by omega) (by omega)) dX5_readLayer_139 (fun H locs hP hD hS => ?_)
            have hP : va_P D vwCl [((rw 1), .inl (k 0, 10, .inl (upd (g 1) r.toNatClampNeg z_206))), ((rd 0), .inr (4, [.ref (rw 0), .int (v_188 1), .int (v_188 2), .int (v_188 3), .ref (rd 1), .int (v_188 5), .int (v_188 6), .int (v_188 7), .int (v_188 8), .int (v_188 9)])), ((rd 1), .inl (k 2, 900, .inl tf)), ((rw 0), .inr (5, [.int (y 0), .int (y 1), .int (y 2), .int (y 3), .int (y 4), .int (y 5), .int (y 6), .int (y 7), .int (y 8), .int (y 9), .int (y 10), .ref (rw 1), .ref (rw 2), .ref (rw 3), .ref (rw 4), .ref (rw 5)])), ((rw 3), .inl (k 0, 60, .inl (v_205 3)))] H := hP
            have hD : va_D A [((rw 1), .inl (k 0, 10, .inl (upd (g 1) r.toNatClampNeg z_206))), ((rd 0), .inr (4, [.ref (rw 0), .int (v_188 1), .int (v_188 2), .int (v_188 3), .ref (rd 1), .int (v_188 5), .int (v_188 6), .int (v_188 7), .int (v_188 8), .int (v_188 9)])), ((rd 1), .inl (k 2, 900, .inl tf)), ((rw 0), .inr (5, [.int (y 0), .int (y 1), .int (y 2), .int (y 3), .int (y 4), .int (y 5), .int (y 6), .int (y 7), .int (y 8), .int (y 9), .int (y 10), .ref (rw 1), .ref (rw 2), .ref (rw 3), .ref (rw 4), .ref (rw 5)])), ((rw 3), .inl (k 0, 60, .inl (v_205 3)))] := hD
            generalize ef_207 : (upd (g 1) r.toNatClampNeg z_206) = f_207 at hP hD
            have hf_207 : ∀ j : Nat, 0 ≤ (f_207 j).toInt ∧ (f_207 j).toInt ≤ 6 := by rw [← ef_207]; exact upd_rng w_hd ⟨by omega, by omega⟩
            exact W.vret hx hb hr (fun t ht hW => ⟨⟨((va_seli [0, (v_188 1), (v_188 2), (v_188 3), 0, (v_188 5), (v_188 6), (v_188 7), (v_188 8), (v_188 9)]), (va_selg [(fun _ => 0), f_207, (fun _ => 0), (v_205 3)])), rfl, ⟨(show 0 ≤ (v_188 3).toInt ∧ (v_188 3).toInt ≤ 900 from ⟨by omega, by omega⟩), (show 0 ≤ (v_188 5).toInt ∧ (v_188 5).toInt ≤ 900 from ⟨by omega, by omega⟩), (show 0 ≤ (v_188 6).toInt ∧ (v_188 6).toInt ≤ 900 from ⟨by omega, by omega⟩), (show 0 ≤ (v_188 7).toInt ∧ (v_188 7).toInt ≤ 900 from ⟨by omega, by omega⟩), (show (v_188 6).toInt ≤ (v_188 7).toInt from by omega), (show (v_188 7).toInt ≤ (v_188 5).toInt from by omega), (show (v_188 3).toInt = (rf 3).toInt from by omega), (show ∀ j : Nat, 0 ≤ (f_207 j).toInt ∧ (f_207 j).toInt ≤ 6 from hf_207)⟩, by rw [ht]; exact hP.sub [1, 2, 3, 0, 4] rfl, hD.sub [1, 2, 3, 0, 4] (by decide) rfl⟩, hS.F ht⟩) hS.2.2 dX5_readLayer_140
          · have c_202 : r_201.toInt ≠ 0 := ti_ne c_202
            have qc_202 : r_201 = 1 := ti_of (show r_201.toInt = 1 from by omega)
            refine lv_iload hx hb dX5_readLayer_106 (lv_at hl 0 rfl) ?_
            refine kS_i (As := [.int r_196]) (rest := []) ⟨hx, hb, hml, hown, hts⟩ (s_L_withSpark l D k r_196) (gS mw_263 mw_264 mw_254 mw_265) hd_yX1_withSpark rfl rfl ⟨Nat.le_of_ble_eq_true rfl, Nat.le_of_ble_eq_true rfl⟩ hK hN0 (hP.sub [] rfl) rfl hl.1 rfl (Nat.le_of_ble_eq_true rfl) dX5_readLayer_108 ⟨Nat.le_of_ble_eq_true rfl, Nat.le_of_ble_eq_true rfl⟩ (fun r_208 hr_208 => ?_)
            refine lv_istore (lv' := [(4, .int r_208), (3, .int 1), (0, .ref (rd 0)), (1, .int r), (2, .int d)]) hx hb dX5_readLayer_111 hl (by decide) rfl (fun ls hl => ?_)
            refine lv_aload_n hx hb dX5_readLayer_113 rfl (lv_at hl 2 rfl) ?_
            refine kV_uv (q0 := 0) (As := []) (rest := []) (wr := [((rw 0), .inr (5, [.int (y 0), .int (y 1), .int (y 2), .int (y 3), .int (y 4), .int (y 5), .int (y 6), .int (y 7), .int (y 8), .int (y 9), .int (y 10), .ref (rw 1), .ref (rw 2), .ref (rw 3), .ref (rw 4), .ref (rw 5)])), ((rw 1), .inl (k 0, 10, .inl (g 1))), ((rw 3), .inl (k 0, 60, .inl (g 3)))]) ⟨hx, hb, hml, hown, hts⟩ (s_R_advance l D k _ _ v_188 tf _ (show 0 ≤ (v_188 3).toInt ∧ (v_188 3).toInt ≤ 900 from ⟨by omega, by omega⟩) (show 0 ≤ (v_188 5).toInt ∧ (v_188 5).toInt ≤ 900 from ⟨by omega, by omega⟩) (show 0 ≤ (v_188 7).toInt ∧ (v_188 7).toInt ≤ 900 from ⟨by omega, by omega⟩) (show (v_188 7).toInt ≤ (v_188 5).toInt from by omega)) (gV mw_159 mw_160 mw_161 mw_15 mw_162) hd_yX5_advance rfl rfl ⟨Nat.le_of_ble_eq_true rfl, Nat.le_of_ble_eq_true rfl⟩ hK hN0 hP hD hS hA [3, 4] [0, 1, 2] rfl rfl (by decide) (by decide) (by decide) rfl rfl rfl rfl hl.1 rfl (Nat.le_of_ble_eq_true rfl) dX5_readLayer_114 ⟨Nat.le_of_ble_eq_true rfl, Nat.le_of_ble_eq_true rfl⟩ (fun u_210 H locs hw hP hD hS => ?_)
            obtain ⟨v_211, rfl⟩ : ∃ z, z = u_210 := ⟨_, rfl⟩
            obtain ⟨h_212, h_213, h_214, h_215, h_216, h_217, h_218⟩ := hw
            have h_212 : 0 ≤ (v_211 3).toInt ∧ (v_211 3).toInt ≤ 900 := h_212
            have h_213 : 0 ≤ (v_211 5).toInt ∧ (v_211 5).toInt ≤ 900 := h_213
            have h_214 : 0 ≤ (v_211 6).toInt ∧ (v_211 6).toInt ≤ 900 := h_214
            have h_215 : 0 ≤ (v_211 7).toInt ∧ (v_211 7).toInt ≤ 900 := h_215
            have h_216 : (v_211 6).toInt ≤ (v_211 7).toInt := h_216
            have h_217 : (v_211 7).toInt ≤ (v_211 5).toInt := h_217
            have h_218 : (v_211 3).toInt = (v_188 3).toInt := h_218
            have hP : va_P D vwCl [((rw 0), .inr (5, [.int (y 0), .int (y 1), .int (y 2), .int (y 3), .int (y 4), .int (y 5), .int (y 6), .int (y 7), .int (y 8), .int (y 9), .int (y 10), .ref (rw 1), .ref (rw 2), .ref (rw 3), .ref (rw 4), .ref (rw 5)])), ((rw 1), .inl (k 0, 10, .inl (g 1))), ((rw 3), .inl (k 0, 60, .inl (g 3))), ((rd 0), .inr (4, [.ref (rw 0), .int (v_211 1), .int (v_211 2), .int (v_211 3), .ref (rd 1), .int (v_211 5), .int (v_211 6), .int (v_211 7), .int (v_211 8), .int (v_211 9)])), ((rd 1), .inl (k 2, 900, .inl tf))] H := hP
            have hD : va_D A [((rw 0), .inr (5, [.int (y 0), .int (y 1), .int (y 2), .int (y 3), .int (y 4), .int (y 5), .int (y 6), .int (y 7), .int (y 8), .int (y 9), .int (y 10), .ref (rw 1), .ref (rw 2), .ref (rw 3), .ref (rw 4), .ref (rw 5)])), ((rw 1), .inl (k 0, 10, .inl (g 1))), ((rw 3), .inl (k 0, 60, .inl (g 3))), ((rd 0), .inr (4, [.ref (rw 0), .int (v_211 1), .int (v_211 2), .int (v_211 3), .ref (rd 1), .int (v_211 5), .int (v_211 6), .int (v_211 7), .int (v_211 8), .int (v_211 9)])), ((rd 1), .inl (k 2, 900, .inl tf))] := hD
            refine lv_aload_n hx hb dX5_readLayer_117 rfl (lv_at hl 2 rfl) ?_
            refine va_get (D := D) (ci := 4) (v := .ref (rw 0)) (C := RX5) (T := TX5) (N := 10) hx hb hts inlX5 hown hK hP 3 rfl rfl 0 (by decide) (hts _ mw_47) (fun _ h9 => h9) rfl dX5_readLayer_118 ?_
            refine lv_iload_n hx hb dX5_readLayer_121 rfl (lv_at hl 3 rfl) ?_
            refine lv_iload_n hx hb dX5_readLayer_122 rfl (lv_at hl 4 rfl) ?_
            refine lv_iload hx hb dX5_readLayer_123 (lv_at hl 0 rfl) ?_
            refine kV_uv (q0 := 0) (As := [.int r, .int d, .int r_208]) (rest := []) (wr := [((rw 1), .inl (k 0, 10, .inl (g 1))), ((rd 0), .inr (4, [.ref (rw 0), .int (v_211 1), .int (v_211 2), .int (v_211 3), .ref (rd 1), .int (v_211 5), .int (v_211 6), .int (v_211 7), .int (v_211 8), .int (v_211 9)])), ((rd 1), .inl (k 2, 900, .inl tf))]) ⟨hx, hb, hml, hown, hts⟩ (s_W_setLayer l D k rw y g r d r_208 _ (show 0 ≤ (y 0).toInt ∧ (y 0).toInt ≤ 10 from ⟨by omega, by omega⟩) (show 0 ≤ (y 2).toInt ∧ (y 2).toInt ≤ 6 from ⟨by omega, by omega⟩) (show 0 ≤ (y 6).toInt ∧ (y 6).toInt ≤ 1 from ⟨by omega, by omega⟩) (show 0 ≤ r.toInt ∧ r.toInt ≤ 9 from ⟨by omega, by omega⟩) (show 0 ≤ d.toInt ∧ d.toInt ≤ 5 from ⟨by omega, by omega⟩)) (gV mw_266 mw_267 mw_268 mw_19 mw_269) hd_yX6_setLayer rfl rfl ⟨Nat.le_of_ble_eq_true rfl, Nat.le_of_ble_eq_true rfl⟩ hK hN0 hP hD hS hA [0, 2] [1, 3, 4] rfl rfl (by decide) (by decide) (by decide) rfl rfl rfl rfl hl.1 rfl (Nat.le_of_ble_eq_true rfl) dX5_readLayer_125 ⟨Nat.le_of_ble_eq_true rfl, Nat.le_of_ble_eq_true rfl⟩ (fun u_220 H locs hw hP hD hS => ?_)
            obtain ⟨v_221, rfl⟩ : ∃ z, z = u_220 := ⟨_, rfl⟩
            have hP : va_P D vwCl [((rw 1), .inl (k 0, 10, .inl (g 1))), ((rd 0), .inr (4, [.ref (rw 0), .int (v_211 1), .int (v_211 2), .int (v_211 3), .ref (rd 1), .int (v_211 5), .int (v_211 6), .int (v_211 7), .int (v_211 8), .int (v_211 9)])), ((rd 1), .inl (k 2, 900, .inl tf)), ((rw 0), .inr (5, [.int (y 0), .int (y 1), .int (y 2), .int (y 3), .int (y 4), .int (y 5), .int (y 6), .int (y 7), .int (y 8), .int (y 9), .int (y 10), .ref (rw 1), .ref (rw 2), .ref (rw 3), .ref (rw 4), .ref (rw 5)])), ((rw 3), .inl (k 0, 60, .inl (v_221 3)))] H := hP
            have hD : va_D A [((rw 1), .inl (k 0, 10, .inl (g 1))), ((rd 0), .inr (4, [.ref (rw 0), .int (v_211 1), .int (v_211 2), .int (v_211 3), .ref (rd 1), .int (v_211 5), .int (v_211 6), .int (v_211 7), .int (v_211 8), .int (v_211 9)])), ((rd 1), .inl (k 2, 900, .inl tf)), ((rw 0), .inr (5, [.int (y 0), .int (y 1), .int (y 2), .int (y 3), .int (y 4), .int (y 5), .int (y 6), .int (y 7), .int (y 8), .int (y 9), .int (y 10), .ref (rw 1), .ref (rw 2), .ref (rw 3), .ref (rw 4), .ref (rw 5)])), ((rw 3), .inl (k 0, 60, .inl (v_221 3)))] := hD
            refine lv_aload_n hx hb dX5_readLayer_128 rfl (lv_at hl 2 rfl) ?_
            refine va_get (D := D) (ci := 4) (v := .ref (rw 0)) (C := RX5) (T := TX5) (N := 10) hx hb hts inlX5 hown hK hP 1 rfl rfl 0 (by decide) (hts _ mw_47) (fun _ h9 => h9) rfl dX5_readLayer_129 ?_
            refine va_get (D := D) (ci := 5) (v := .ref (rw 1)) (C := RX6) (T := TX6) (N := 16) hx hb hts inlX6 hown hK hP 3 rfl rfl 11 (by decide) (hts _ mw_247) (fun _ h9 => h9) rfl dX5_readLayer_132 ?_
            refine lv_iload_n hx hb dX5_readLayer_135 rfl (lv_at hl 3 rfl) ?_
            refine lv_iload_n hx hb dX5_readLayer_136 rfl (lv_at hl 4 rfl) ?_
            refine lv_iconst (v := 1) hx hb dX5_readLayer_137 (by decide) ?_
            refine lv_iadd hx hb dX5_readLayer_138 ?_
            refine lv_topi (fun z_222 ez_222 => ?_)
            have tz_222 : z_222.toInt = d.toInt + 1 := by rw [ez_222]; exact ti_addc (by decide) (by omega) (by omega)
            refine va_iast hx hb hK hP hD hS 0 0 rfl rfl (vp_in_o (by omega) (by omega)) dX5_readLayer_139 (fun H locs hP hD hS => ?_)
            have hP : va_P D vwCl [((rw 1), .inl (k 0, 10, .inl (upd (g 1) r.toNatClampNeg z_222))), ((rd 0), .inr (4, [.ref (rw 0), .int (v_211 1), .int (v_211 2), .int (v_211 3), .ref (rd 1), .int (v_211 5), .int (v_211 6), .int (v_211 7), .int (v_211 8), .int (v_211 9)])), ((rd 1), .inl (k 2, 900, .inl tf)), ((rw 0), .inr (5, [.int (y 0), .int (y 1), .int (y 2), .int (y 3), .int (y 4), .int (y 5), .int (y 6), .int (y 7), .int (y 8), .int (y 9), .int (y 10), .ref (rw 1), .ref (rw 2), .ref (rw 3), .ref (rw 4), .ref (rw 5)])), ((rw 3), .inl (k 0, 60, .inl (v_221 3)))] H := hP
            have hD : va_D A [((rw 1), .inl (k 0, 10, .inl (upd (g 1) r.toNatClampNeg z_222))), ((rd 0), .inr (4, [.ref (rw 0), .int (v_211 1), .int (v_211 2), .int (v_211 3), .ref (rd 1), .int (v_211 5), .int (v_211 6), .int (v_211 7), .int (v_211 8), .int (v_211 9)])), ((rd 1), .inl (k 2, 900, .inl tf)), ((rw 0), .inr (5, [.int (y 0), .int (y 1), .int (y 2), .int (y 3), .int (y 4), .int (y 5), .int (y 6), .int (y 7), .int (y 8), .int (y 9), .int (y 10), .ref (rw 1), .ref (rw 2), .ref (rw 3), .ref (rw 4), .ref (rw 5)])), ((rw 3), .inl (k 0, 60, .inl (v_221 3)))] := hD
            generalize ef_223 : (upd (g 1) r.toNatClampNeg z_222) = f_223 at hP hD
            have hf_223 : ∀ j : Nat, 0 ≤ (f_223 j).toInt ∧ (f_223 j).toInt ≤ 6 := by rw [← ef_223]; exact upd_rng w_hd ⟨by omega, by omega⟩
            exact W.vret hx hb hr (fun t ht hW => ⟨⟨((va_seli [0, (v_211 1), (v_211 2), (v_211 3), 0, (v_211 5), (v_211 6), (v_211 7), (v_211 8), (v_211 9)]), (va_selg [(fun _ => 0), f_223, (fun _ => 0), (v_221 3)])), rfl, ⟨(show 0 ≤ (v_211 3).toInt ∧ (v_211 3).toInt ≤ 900 from ⟨by omega, by omega⟩), (show 0 ≤ (v_211 5).toInt ∧ (v_211 5).toInt ≤ 900 from ⟨by omega, by omega⟩), (show 0 ≤ (v_211 6).toInt ∧ (v_211 6).toInt ≤ 900 from ⟨by omega, by omega⟩), (show 0 ≤ (v_211 7).toInt ∧ (v_211 7).toInt ≤ 900 from ⟨by omega, by omega⟩), (show (v_211 6).toInt ≤ (v_211 7).toInt from by omega), (show (v_211 7).toInt ≤ (v_211 5).toInt from by omega), (show (v_211 3).toInt = (rf 3).toInt from by omega), (show ∀ j : Nat, 0 ≤ (f_223 j).toInt ∧ (f_223 j).toInt ≤ 6 from hf_223)⟩, by rw [ht]; exact hP.sub [1, 2, 3, 0, 4] rfl, hD.sub [1, 2, 3, 0, 4] (by decide) rfl⟩, hS.F ht⟩) hS.2.2 dX5_readLayer_140
        · have c_200 : r_199.toInt ≠ 0 := ti_ne c_200
          have qc_200 : r_199 = 1 := ti_of (show r_199.toInt = 1 from by omega)
          refine lv_aload_n hx hb dX5_readLayer_79 rfl (lv_at hl 2 rfl) ?_
          refine kV_uv (q0 := 0) (As := []) (rest := []) (wr := [((rw 0), .inr (5, [.int (y 0), .int (y 1), .int (y 2), .int (y 3), .int (y 4), .int (y 5), .int (y 6), .int (y 7), .int (y 8), .int (y 9), .int (y 10), .ref (rw 1), .ref (rw 2), .ref (rw 3), .ref (rw 4), .ref (rw 5)])), ((rw 1), .inl (k 0, 10, .inl (g 1))), ((rw 3), .inl (k 0, 60, .inl (g 3)))]) ⟨hx, hb, hml, hown, hts⟩ (s_R_advance l D k _ _ v_188 tf _ (show 0 ≤ (v_188 3).toInt ∧ (v_188 3).toInt ≤ 900 from ⟨by omega, by omega⟩) (show 0 ≤ (v_188 5).toInt ∧ (v_188 5).toInt ≤ 900 from ⟨by omega, by omega⟩) (show 0 ≤ (v_188 7).toInt ∧ (v_188 7).toInt ≤ 900 from ⟨by omega, by omega⟩) (show (v_188 7).toInt ≤ (v_188 5).toInt from by omega)) (gV mw_159 mw_160 mw_161 mw_15 mw_162) hd_yX5_advance rfl rfl ⟨Nat.le_of_ble_eq_true rfl, Nat.le_of_ble_eq_true rfl⟩ hK hN0 hP hD hS hA [3, 4] [0, 1, 2] rfl rfl (by decide) (by decide) (by decide) rfl rfl rfl rfl hl.1 rfl (Nat.le_of_ble_eq_true rfl) dX5_readLayer_80 ⟨Nat.le_of_ble_eq_true rfl, Nat.le_of_ble_eq_true rfl⟩ (fun u_225 H locs hw hP hD hS => ?_)
          obtain ⟨v_226, rfl⟩ : ∃ z, z = u_225 := ⟨_, rfl⟩
          obtain ⟨h_227, h_228, h_229, h_230, h_231, h_232, h_233⟩ := hw
          have h_227 : 0 ≤ (v_226 3).toInt ∧ (v_226 3).toInt ≤ 900 := h_227
          have h_228 : 0 ≤ (v_226 5).toInt ∧ (v_226 5).toInt ≤ 900 := h_228
          have h_229 : 0 ≤ (v_226 6).toInt ∧ (v_226 6).toInt ≤ 900 := h_229
          have h_230 : 0 ≤ (v_226 7).toInt ∧ (v_226 7).toInt ≤ 900 := h_230
          have h_231 : (v_226 6).toInt ≤ (v_226 7).toInt := h_231
          have h_232 : (v_226 7).toInt ≤ (v_226 5).toInt := h_232
          have h_233 : (v_226 3).toInt = (v_188 3).toInt := h_233
          have hP : va_P D vwCl [((rw 0), .inr (5, [.int (y 0), .int (y 1), .int (y 2), .int (y 3), .int (y 4), .int (y 5), .int (y 6), .int (y 7), .int (y 8), .int (y 9), .int (y 10), .ref (rw 1), .ref (rw 2), .ref (rw 3), .ref (rw 4), .ref (rw 5)])), ((rw 1), .inl (k 0, 10, .inl (g 1))), ((rw 3), .inl (k 0, 60, .inl (g 3))), ((rd 0), .inr (4, [.ref (rw 0), .int (v_226 1), .int (v_226 2), .int (v_226 3), .ref (rd 1), .int (v_226 5), .int (v_226 6), .int (v_226 7), .int (v_226 8), .int (v_226 9)])), ((rd 1), .inl (k 2, 900, .inl tf))] H := hP
          have hD : va_D A [((rw 0), .inr (5, [.int (y 0), .int (y 1), .int (y 2), .int (y 3), .int (y 4), .int (y 5), .int (y 6), .int (y 7), .int (y 8), .int (y 9), .int (y 10), .ref (rw 1), .ref (rw 2), .ref (rw 3), .ref (rw 4), .ref (rw 5)])), ((rw 1), .inl (k 0, 10, .inl (g 1))), ((rw 3), .inl (k 0, 60, .inl (g 3))), ((rd 0), .inr (4, [.ref (rw 0), .int (v_226 1), .int (v_226 2), .int (v_226 3), .ref (rd 1), .int (v_226 5), .int (v_226 6), .int (v_226 7), .int (v_226 8), .int (v_226 9)])), ((rd 1), .inl (k 2, 900, .inl tf))] := hD
          refine lv_iload hx hb dX5_readLayer_83 (lv_at hl 0 rfl) ?_
          refine lv_aload_n hx hb dX5_readLayer_85 rfl (lv_at hl 2 rfl) ?_
          refine lv_iconst (v := 1) hx hb dX5_readLayer_86 (by decide) ?_
          refine lv_bipush (v := 99) hx hb dX5_readLayer_87 (by decide) ?_
          refine kV_ui (q0 := 0) (As := [.int 1, .int 99]) (rest := [.int r_196]) (wr := [((rw 0), .inr (5, [.int (y 0), .int (y 1), .int (y 2), .int (y 3), .int (y 4), .int (y 5), .int (y 6), .int (y 7), .int (y 8), .int (y 9), .int (y 10), .ref (rw 1), .ref (rw 2), .ref (rw 3), .ref (rw 4), .ref (rw 5)])), ((rw 1), .inl (k 0, 10, .inl (g 1))), ((rw 3), .inl (k 0, 60, .inl (g 3)))]) ⟨hx, hb, hml, hown, hts⟩ (s_R_readNumber l D k _ _ v_226 tf 1 99 _ (show 0 ≤ (v_226 3).toInt ∧ (v_226 3).toInt ≤ 900 from ⟨by omega, by omega⟩) (show 0 ≤ (v_226 5).toInt ∧ (v_226 5).toInt ≤ 900 from ⟨by omega, by omega⟩) (show 0 ≤ (v_226 6).toInt ∧ (v_226 6).toInt ≤ 900 from ⟨by omega, by omega⟩) (show 0 ≤ (v_226 7).toInt ∧ (v_226 7).toInt ≤ 900 from ⟨by omega, by omega⟩) (show (v_226 6).toInt ≤ (v_226 7).toInt from by omega) (show (v_226 7).toInt ≤ (v_226 5).toInt from by omega)) (gV mw_248 mw_249 mw_250 mw_15 mw_251) hd_yX5_readNumber rfl rfl ⟨Nat.le_of_ble_eq_true rfl, Nat.le_of_ble_eq_true rfl⟩ hK hN0 hP hD hS hA [3, 4] [0, 1, 2] rfl rfl (by decide) (by decide) (by decide) rfl rfl rfl rfl hl.1 rfl (Nat.le_of_ble_eq_true rfl) dX5_readLayer_89 ⟨Nat.le_of_ble_eq_true rfl, Nat.le_of_ble_eq_true rfl⟩ (fun r_234 u_235 H locs hw hP hD hS => ?_)
          obtain ⟨v_236, rfl⟩ : ∃ z, z = u_235 := ⟨_, rfl⟩
          obtain ⟨hr_234, h_237, h_238, h_239, h_240, h_241, h_242, h_243⟩ := hw
          have h_237 : 0 ≤ (v_236 3).toInt ∧ (v_236 3).toInt ≤ 900 := h_237
          have h_238 : 0 ≤ (v_236 5).toInt ∧ (v_236 5).toInt ≤ 900 := h_238
          have h_239 : 0 ≤ (v_236 6).toInt ∧ (v_236 6).toInt ≤ 900 := h_239
          have h_240 : 0 ≤ (v_236 7).toInt ∧ (v_236 7).toInt ≤ 900 := h_240
          have h_241 : (v_236 6).toInt ≤ (v_236 7).toInt := h_241
          have h_242 : (v_236 7).toInt ≤ (v_236 5).toInt := h_242
          have h_243 : (v_236 3).toInt = (v_226 3).toInt := h_243
          have hP : va_P D vwCl [((rw 0), .inr (5, [.int (y 0), .int (y 1), .int (y 2), .int (y 3), .int (y 4), .int (y 5), .int (y 6), .int (y 7), .int (y 8), .int (y 9), .int (y 10), .ref (rw 1), .ref (rw 2), .ref (rw 3), .ref (rw 4), .ref (rw 5)])), ((rw 1), .inl (k 0, 10, .inl (g 1))), ((rw 3), .inl (k 0, 60, .inl (g 3))), ((rd 0), .inr (4, [.ref (rw 0), .int (v_236 1), .int (v_236 2), .int (v_236 3), .ref (rd 1), .int (v_236 5), .int (v_236 6), .int (v_236 7), .int (v_236 8), .int (v_236 9)])), ((rd 1), .inl (k 2, 900, .inl tf))] H := hP
          have hD : va_D A [((rw 0), .inr (5, [.int (y 0), .int (y 1), .int (y 2), .int (y 3), .int (y 4), .int (y 5), .int (y 6), .int (y 7), .int (y 8), .int (y 9), .int (y 10), .ref (rw 1), .ref (rw 2), .ref (rw 3), .ref (rw 4), .ref (rw 5)])), ((rw 1), .inl (k 0, 10, .inl (g 1))), ((rw 3), .inl (k 0, 60, .inl (g 3))), ((rd 0), .inr (4, [.ref (rw 0), .int (v_236 1), .int (v_236 2), .int (v_236 3), .ref (rd 1), .int (v_236 5), .int (v_236 6), .int (v_236 7), .int (v_236 8), .int (v_236 9)])), ((rd 1), .inl (k 2, 900, .inl tf))] := hD
          refine kS_i (As := [.int r_196, .int r_234]) (rest := []) ⟨hx, hb, hml, hown, hts⟩ (s_L_withMice l D k r_196 r_234) (gS mw_259 mw_260 mw_254 mw_261) hd_yX1_withMice rfl rfl ⟨Nat.le_of_ble_eq_true rfl, Nat.le_of_ble_eq_true rfl⟩ hK hN0 (hP.sub [] rfl) rfl hl.1 rfl (Nat.le_of_ble_eq_true rfl) dX5_readLayer_92 ⟨Nat.le_of_ble_eq_true rfl, Nat.le_of_ble_eq_true rfl⟩ (fun r_244 hr_244 => ?_)
          refine lv_istore (lv' := [(4, .int r_244), (3, .int 1), (0, .ref (rd 0)), (1, .int r), (2, .int d)]) hx hb dX5_readLayer_95 hl (by decide) rfl (fun ls hl => ?_)
          refine lv_aload_n hx hb dX5_readLayer_97 rfl (lv_at hl 2 rfl) ?_
          refine va_ldcS (own := RX5) (index := 134) (tx := "spark") (q := ak 6) hx hb hown (hW0.2.2.2 6 (by decide)) dX5_readLayer_98 ?_
          refine kV_is (q0 := 0) (As := [.ref (ak 6)]) (rest := []) ⟨hx, hb, hml, hown, hts⟩ (s_R_isWord l D k ak av _ _ v_236 tf 6 (show 0 ≤ (v_236 3).toInt ∧ (v_236 3).toInt ≤ 900 from ⟨by omega, by omega⟩) (show 0 ≤ (v_236 5).toInt ∧ (v_236 5).toInt ≤ 900 from ⟨by omega, by omega⟩) (show 0 ≤ (v_236 6).toInt ∧ (v_236 6).toInt ≤ 900 from ⟨by omega, by omega⟩) (show 0 ≤ (v_236 7).toInt ∧ (v_236 7).toInt ≤ 900 from ⟨by omega, by omega⟩) (show (v_236 6).toInt ≤ (v_236 7).toInt from by omega) (show (v_236 7).toInt ≤ (v_236 5).toInt from by omega) (by omega)) (gV mw_185 mw_186 mw_187 mw_15 mw_188) hd_yX5_isWord rfl rfl ⟨Nat.le_of_ble_eq_true rfl, Nat.le_of_ble_eq_true rfl⟩ hK hN0 hW0 hS (hP.sub [3, 4] rfl) rfl rfl rfl rfl hl.1 rfl (Nat.le_of_ble_eq_true rfl) dX5_readLayer_100 ⟨Nat.le_of_ble_eq_true rfl, Nat.le_of_ble_eq_true rfl⟩ (fun r_245 hr_245 => ?_)
          have hr_245 : 0 ≤ r_245.toInt ∧ r_245.toInt ≤ 1 := hr_245
          refine lv_if_eq (tgt := 117) hx hb dX5_readLayer_103 (by decide) (fun c_246 => ?_) (fun c_246 => ?_)
          · have c_246 : r_245.toInt = 0 := ti_eq c_246
            have qc_246 : r_245 = 0 := ti_of (show r_245.toInt = 0 from by omega)
            refine lv_aload_n hx hb dX5_readLayer_117 rfl (lv_at hl 2 rfl) ?_
            refine va_get (D := D) (ci := 4) (v := .ref (rw 0)) (C := RX5) (T := TX5) (N := 10) hx hb hts inlX5 hown hK hP 3 rfl rfl 0 (by decide) (hts _ mw_47) (fun _ h9 => h9) rfl dX5_readLayer_118 ?_
            refine lv_iload_n hx hb dX5_readLayer_121 rfl (lv_at hl 3 rfl) ?_
            refine lv_iload_n hx hb dX5_readLayer_122 rfl (lv_at hl 4 rfl) ?_
            refine lv_iload hx hb dX5_readLayer_123 (lv_at hl 0 rfl) ?_
            refine kV_uv (q0 := 0) (As := [.int r, .int d, .int r_244]) (rest := []) (wr := [((rw 1), .inl (k 0, 10, .inl (g 1))), ((rd 0), .inr (4, [.ref (rw 0), .int (v_236 1), .int (v_236 2), .int (v_236 3), .ref (rd 1), .int (v_236 5), .int (v_236 6), .int (v_236 7), .int (v_236 8), .int (v_236 9)])), ((rd 1), .inl (k 2, 900, .inl tf))]) ⟨hx, hb, hml, hown, hts⟩ (s_W_setLayer l D k rw y g r d r_244 _ (show 0 ≤ (y 0).toInt ∧ (y 0).toInt ≤ 10 from ⟨by omega, by omega⟩) (show 0 ≤ (y 2).toInt ∧ (y 2).toInt ≤ 6 from ⟨by omega, by omega⟩) (show 0 ≤ (y 6).toInt ∧ (y 6).toInt ≤ 1 from ⟨by omega, by omega⟩) (show 0 ≤ r.toInt ∧ r.toInt ≤ 9 from ⟨by omega, by omega⟩) (show 0 ≤ d.toInt ∧ d.toInt ≤ 5 from ⟨by omega, by omega⟩)) (gV mw_266 mw_267 mw_268 mw_19 mw_269) hd_yX6_setLayer rfl rfl ⟨Nat.le_of_ble_eq_true rfl, Nat.le_of_ble_eq_true rfl⟩ hK hN0 hP hD hS hA [0, 2] [1, 3, 4] rfl rfl (by decide) (by decide) (by decide) rfl rfl rfl rfl hl.1 rfl (Nat.le_of_ble_eq_true rfl) dX5_readLayer_125 ⟨Nat.le_of_ble_eq_true rfl, Nat.le_of_ble_eq_true rfl⟩ (fun u_248 H locs hw hP hD hS => ?_)
            obtain ⟨v_249, rfl⟩ : ∃ z, z = u_248 := ⟨_, rfl⟩
            have hP : va_P D vwCl [((rw 1), .inl (k 0, 10, .inl (g 1))), ((rd 0), .inr (4, [.ref (rw 0), .int (v_236 1), .int (v_236 2), .int (v_236 3), .ref (rd 1), .int (v_236 5), .int (v_236 6), .int (v_236 7), .int (v_236 8), .int (v_236 9)])), ((rd 1), .inl (k 2, 900, .inl tf)), ((rw 0), .inr (5, [.int (y 0), .int (y 1), .int (y 2), .int (y 3), .int (y 4), .int (y 5), .int (y 6), .int (y 7), .int (y 8), .int (y 9), .int (y 10), .ref (rw 1), .ref (rw 2), .ref (rw 3), .ref (rw 4), .ref (rw 5)])), ((rw 3), .inl (k 0, 60, .inl (v_249 3)))] H := hP
            have hD : va_D A [((rw 1), .inl (k 0, 10, .inl (g 1))), ((rd 0), .inr (4, [.ref (rw 0), .int (v_236 1), .int (v_236 2), .int (v_236 3), .ref (rd 1), .int (v_236 5), .int (v_236 6), .int (v_236 7), .int (v_236 8), .int (v_236 9)])), ((rd 1), .inl (k 2, 900, .inl tf)), ((rw 0), .inr (5, [.int (y 0), .int (y 1), .int (y 2), .int (y 3), .int (y 4), .int (y 5), .int (y 6), .int (y 7), .int (y 8), .int (y 9), .int (y 10), .ref (rw 1), .ref (rw 2), .ref (rw 3), .ref (rw 4), .ref (rw 5)])), ((rw 3), .inl (k 0, 60, .inl (v_249 3)))] := hD
            refine lv_aload_n hx hb dX5_readLayer_128 rfl (lv_at hl 2 rfl) ?_
            refine va_get (D := D) (ci := 4) (v := .ref (rw 0)) (C := RX5) (T := TX5) (N := 10) hx hb hts inlX5 hown hK hP 1 rfl rfl 0 (by decide) (hts _ mw_47) (fun _ h9 => h9) rfl dX5_readLayer_129 ?_
            refine va_get (D := D) (ci := 5) (v := .ref (rw 1)) (C := RX6) (T := TX6) (N := 16) hx hb hts inlX6 hown hK hP 3 rfl rfl 11 (by decide) (hts _ mw_247) (fun _ h9 => h9) rfl dX5_readLayer_132 ?_
            refine lv_iload_n hx hb dX5_readLayer_135 rfl (lv_at hl 3 rfl) ?_
            refine lv_iload_n hx hb dX5_readLayer_136 rfl (lv_at hl 4 rfl) ?_
            refine lv_iconst (v := 1) hx hb dX5_readLayer_137 (by decide) ?_
            refine lv_iadd hx hb dX5_readLayer_138 ?_
            refine lv_topi (fun z_250 ez_250 => ?_)
            have tz_250 : z_250.toInt = d.toInt + 1 := by rw [ez_250]; exact ti_addc (by decide) (by omega) (by omega)
            refine va_iast hx hb hK hP hD hS 0 0 rfl rfl (vp_in_o (by omega) (by omega)) dX5_readLayer_139 (fun H locs hP hD hS => ?_)
            have hP : va_P D vwCl [((rw 1), .inl (k 0, 10, .inl (upd (g 1) r.toNatClampNeg z_250))), ((rd 0), .inr (4, [.ref (rw 0), .int (v_236 1), .int (v_236 2), .int (v_236 3), .ref (rd 1), .int (v_236 5), .int (v_236 6), .int (v_236 7), .int (v_236 8), .int (v_236 9)])), ((rd 1), .inl (k 2, 900, .inl tf)), ((rw 0), .inr (5, [.int (y 0), .int (y 1), .int (y 2), .int (y 3), .int (y 4), .int (y 5), .int (y 6), .int (y 7), .int (y 8), .int (y 9), .int (y 10), .ref (rw 1), .ref (rw 2), .ref (rw 3), .ref (rw 4), .ref (rw 5)])), ((rw 3), .inl (k 0, 60, .inl (v_249 3)))] H := hP
            have hD : va_D A [((rw 1), .inl (k 0, 10, .inl (upd (g 1) r.toNatClampNeg z_250))), ((rd 0), .inr (4, [.ref (rw 0), .int (v_236 1), .int (v_236 2), .int (v_236 3), .ref (rd 1), .int (v_236 5), .int (v_236 6), .int (v_236 7), .int (v_236 8), .int (v_236 9)])), ((rd 1), .inl (k 2, 900, .inl tf)), ((rw 0), .inr (5, [.int (y 0), .int (y 1), .int (y 2), .int (y 3), .int (y 4), .int (y 5), .int (y 6), .int (y 7), .int (y 8), .int (y 9), .int (y 10), .ref (rw 1), .ref (rw 2), .ref (rw 3), .ref (rw 4), .ref (rw 5)])), ((rw 3), .inl (k 0, 60, .inl (v_249 3)))] := hD
            generalize ef_251 : (upd (g 1) r.toNatClampNeg z_250) = f_251 at hP hD
            have hf_251 : ∀ j : Nat, 0 ≤ (f_251 j).toInt ∧ (f_251 j).toInt ≤ 6 := by rw [← ef_251]; exact upd_rng w_hd ⟨by omega, by omega⟩
            exact W.vret hx hb hr (fun t ht hW => ⟨⟨((va_seli [0, (v_236 1), (v_236 2), (v_236 3), 0, (v_236 5), (v_236 6), (v_236 7), (v_236 8), (v_236 9)]), (va_selg [(fun _ => 0), f_251, (fun _ => 0), (v_249 3)])), rfl, ⟨(show 0 ≤ (v_236 3).toInt ∧ (v_236 3).toInt ≤ 900 from ⟨by omega, by omega⟩), (show 0 ≤ (v_236 5).toInt ∧ (v_236 5).toInt ≤ 900 from ⟨by omega, by omega⟩), (show 0 ≤ (v_236 6).toInt ∧ (v_236 6).toInt ≤ 900 from ⟨by omega, by omega⟩), (show 0 ≤ (v_236 7).toInt ∧ (v_236 7).toInt ≤ 900 from ⟨by omega, by omega⟩), (show (v_236 6).toInt ≤ (v_236 7).toInt from by omega), (show (v_236 7).toInt ≤ (v_236 5).toInt from by omega), (show (v_236 3).toInt = (rf 3).toInt from by omega), (show ∀ j : Nat, 0 ≤ (f_251 j).toInt ∧ (f_251 j).toInt ≤ 6 from hf_251)⟩, by rw [ht]; exact hP.sub [1, 2, 3, 0, 4] rfl, hD.sub [1, 2, 3, 0, 4] (by decide) rfl⟩, hS.F ht⟩) hS.2.2 dX5_readLayer_140
          · have c_246 : r_245.toInt ≠ 0 := ti_ne c_246
            have qc_246 : r_245 = 1 := ti_of (show r_245.toInt = 1 from by omega)
            refine lv_iload hx hb dX5_readLayer_106 (lv_at hl 0 rfl) ?_
            refine kS_i (As := [.int r_244]) (rest := []) ⟨hx, hb, hml, hown, hts⟩ (s_L_withSpark l D k r_244) (gS mw_263 mw_264 mw_254 mw_265) hd_yX1_withSpark rfl rfl ⟨Nat.le_of_ble_eq_true rfl, Nat.le_of_ble_eq_true rfl⟩ hK hN0 (hP.sub [] rfl) rfl hl.1 rfl (Nat.le_of_ble_eq_true rfl) dX5_readLayer_108 ⟨Nat.le_of_ble_eq_true rfl, Nat.le_of_ble_eq_true rfl⟩ (fun r_252 hr_252 => ?_)
            refine lv_istore (lv' := [(4, .int r_252), (3, .int 1), (0, .ref (rd 0)), (1, .int r), (2, .int d)]) hx hb dX5_readLayer_111 hl (by decide) rfl (fun ls hl => ?_)
            refine lv_aload_n hx hb dX5_readLayer_113 rfl (lv_at hl 2 rfl) ?_
            refine kV_uv (q0 := 0) (As := []) (rest := []) (wr := [((rw 0), .inr (5, [.int (y 0), .int (y 1), .int (y 2), .int (y 3), .int (y 4), .int (y 5), .int (y 6), .int (y 7), .int (y 8), .int (y 9), .int (y 10), .ref (rw 1), .ref (rw 2), .ref (rw 3), .ref (rw 4), .ref (rw 5)])), ((rw 1), .inl (k 0, 10, .inl (g 1))), ((rw 3), .inl (k 0, 60, .inl (g 3)))]) ⟨hx, hb, hml, hown, hts⟩ (s_R_advance l D k _ _ v_236 tf _ (show 0 ≤ (v_236 3).toInt ∧ (v_236 3).toInt ≤ 900 from ⟨by omega, by omega⟩) (show 0 ≤ (v_236 5).toInt ∧ (v_236 5).toInt ≤ 900 from ⟨by omega, by omega⟩) (show 0 ≤ (v_236 7).toInt ∧ (v_236 7).toInt ≤ 900 from ⟨by omega, by omega⟩) (show (v_236 7).toInt ≤ (v_236 5).toInt from by omega)) (gV mw_159 mw_160 mw_161 mw_15 mw_162) hd_yX5_advance rfl rfl ⟨Nat.le_of_ble_eq_true rfl, Nat.le_of_ble_eq_true rfl⟩ hK hN0 hP hD hS hA [3, 4] [0, 1, 2] rfl rfl (by decide) (by decide) (by decide) rfl rfl rfl rfl hl.1 rfl (Nat.le_of_ble_eq_true rfl) dX5_readLayer_114 ⟨Nat.le_of_ble_eq_true rfl, Nat.le_of_ble_eq_true rfl⟩ (fun u_254 H locs hw hP hD hS => ?_)
            obtain ⟨v_255, rfl⟩ : ∃ z, z = u_254 := ⟨_, rfl⟩
            obtain ⟨h_256, h_257, h_258, h_259, h_260, h_261, h_262⟩ := hw
            have h_256 : 0 ≤ (v_255 3).toInt ∧ (v_255 3).toInt ≤ 900 := h_256
            have h_257 : 0 ≤ (v_255 5).toInt ∧ (v_255 5).toInt ≤ 900 := h_257
            have h_258 : 0 ≤ (v_255 6).toInt ∧ (v_255 6).toInt ≤ 900 := h_258
            have h_259 : 0 ≤ (v_255 7).toInt ∧ (v_255 7).toInt ≤ 900 := h_259
            have h_260 : (v_255 6).toInt ≤ (v_255 7).toInt := h_260
            have h_261 : (v_255 7).toInt ≤ (v_255 5).toInt := h_261
            have h_262 : (v_255 3).toInt = (v_236 3).toInt := h_262
            have hP : va_P D vwCl [((rw 0), .inr (5, [.int (y 0), .int (y 1), .int (y 2), .int (y 3), .int (y 4), .int (y 5), .int (y 6), .int (y 7), .int (y 8), .int (y 9), .int (y 10), .ref (rw 1), .ref (rw 2), .ref (rw 3), .ref (rw 4), .ref (rw 5)])), ((rw 1), .inl (k 0, 10, .inl (g 1))), ((rw 3), .inl (k 0, 60, .inl (g 3))), ((rd 0), .inr (4, [.ref (rw 0), .int (v_255 1), .int (v_255 2), .int (v_255 3), .ref (rd 1), .int (v_255 5), .int (v_255 6), .int (v_255 7), .int (v_255 8), .int (v_255 9)])), ((rd 1), .inl (k 2, 900, .inl tf))] H := hP
            have hD : va_D A [((rw 0), .inr (5, [.int (y 0), .int (y 1), .int (y 2), .int (y 3), .int (y 4), .int (y 5), .int (y 6), .int (y 7), .int (y 8), .int (y 9), .int (y 10), .ref (rw 1), .ref (rw 2), .ref (rw 3), .ref (rw 4), .ref (rw 5)])), ((rw 1), .inl (k 0, 10, .inl (g 1))), ((rw 3), .inl (k 0, 60, .inl (g 3))), ((rd 0), .inr (4, [.ref (rw 0), .int (v_255 1), .int (v_255 2), .int (v_255 3), .ref (rd 1), .int (v_255 5), .int (v_255 6), .int (v_255 7), .int (v_255 8), .int (v_255 9)])), ((rd 1), .inl (k 2, 900, .inl tf))] := hD
            refine lv_aload_n hx hb dX5_readLayer_117 rfl (lv_at hl 2 rfl) ?_
            refine va_get (D := D) (ci := 4) (v := .ref (rw 0)) (C := RX5) (T := TX5) (N := 10) hx hb hts inlX5 hown hK hP 3 rfl rfl 0 (by decide) (hts _ mw_47) (fun _ h9 => h9) rfl dX5_readLayer_118 ?_
            refine lv_iload_n hx hb dX5_readLayer_121 rfl (lv_at hl 3 rfl) ?_
            refine lv_iload_n hx hb dX5_readLayer_122 rfl (lv_at hl 4 rfl) ?_
            refine lv_iload hx hb dX5_readLayer_123 (lv_at hl 0 rfl) ?_
            refine kV_uv (q0 := 0) (As := [.int r, .int d, .int r_252]) (rest := []) (wr := [((rw 1), .inl (k 0, 10, .inl (g 1))), ((rd 0), .inr (4, [.ref (rw 0), .int (v_255 1), .int (v_255 2), .int (v_255 3), .ref (rd 1), .int (v_255 5), .int (v_255 6), .int (v_255 7), .int (v_255 8), .int (v_255 9)])), ((rd 1), .inl (k 2, 900, .inl tf))]) ⟨hx, hb, hml, hown, hts⟩ (s_W_setLayer l D k rw y g r d r_252 _ (show 0 ≤ (y 0).toInt ∧ (y 0).toInt ≤ 10 from ⟨by omega, by omega⟩) (show 0 ≤ (y 2).toInt ∧ (y 2).toInt ≤ 6 from ⟨by omega, by omega⟩) (show 0 ≤ (y 6).toInt ∧ (y 6).toInt ≤ 1 from ⟨by omega, by omega⟩) (show 0 ≤ r.toInt ∧ r.toInt ≤ 9 from ⟨by omega, by omega⟩) (show 0 ≤ d.toInt ∧ d.toInt ≤ 5 from ⟨by omega, by omega⟩)) (gV mw_266 mw_267 mw_268 mw_19 mw_269) hd_yX6_setLayer rfl rfl ⟨Nat.le_of_ble_eq_true rfl, Nat.le_of_ble_eq_true rfl⟩ hK hN0 hP hD hS hA [0, 2] [1, 3, 4] rfl rfl (by decide) (by decide) (by decide) rfl rfl rfl rfl hl.1 rfl (Nat.le_of_ble_eq_true rfl) dX5_readLayer_125 ⟨Nat.le_of_ble_eq_true rfl, Nat.le_of_ble_eq_true rfl⟩ (fun u_264 H locs hw hP hD hS => ?_)
            obtain ⟨v_265, rfl⟩ : ∃ z, z = u_264 := ⟨_, rfl⟩
            have hP : va_P D vwCl [((rw 1), .inl (k 0, 10, .inl (g 1))), ((rd 0), .inr (4, [.ref (rw 0), .int (v_255 1), .int (v_255 2), .int (v_255 3), .ref (rd 1), .int (v_255 5), .int (v_255 6), .int (v_255 7), .int (v_255 8), .int (v_255 9)])), ((rd 1), .inl (k 2, 900, .inl tf)), ((rw 0), .inr (5, [.int (y 0), .int (y 1), .int (y 2), .int (y 3), .int (y 4), .int (y 5), .int (y 6), .int (y 7), .int (y 8), .int (y 9), .int (y 10), .ref (rw 1), .ref (rw 2), .ref (rw 3), .ref (rw 4), .ref (rw 5)])), ((rw 3), .inl (k 0, 60, .inl (v_265 3)))] H := hP
            have hD : va_D A [((rw 1), .inl (k 0, 10, .inl (g 1))), ((rd 0), .inr (4, [.ref (rw 0), .int (v_255 1), .int (v_255 2), .int (v_255 3), .ref (rd 1), .int (v_255 5), .int (v_255 6), .int (v_255 7), .int (v_255 8), .int (v_255 9)])), ((rd 1), .inl (k 2, 900, .inl tf)), ((rw 0), .inr (5, [.int (y 0), .int (y 1), .int (y 2), .int (y 3), .int (y 4), .int (y 5), .int (y 6), .int (y 7), .int (y 8), .int (y 9), .int (y 10), .ref (rw 1), .ref (rw 2), .ref (rw 3), .ref (rw 4), .ref (rw 5)])), ((rw 3), .inl (k 0, 60, .inl (v_265 3)))] := hD
            refine lv_aload_n hx hb dX5_readLayer_128 rfl (lv_at hl 2 rfl) ?_
            refine va_get (D := D) (ci := 4) (v := .ref (rw 0)) (C := RX5) (T := TX5) (N := 10) hx hb hts inlX5 hown hK hP 1 rfl rfl 0 (by decide) (hts _ mw_47) (fun _ h9 => h9) rfl dX5_readLayer_129 ?_
            refine va_get (D := D) (ci := 5) (v := .ref (rw 1)) (C := RX6) (T := TX6) (N := 16) hx hb hts inlX6 hown hK hP 3 rfl rfl 11 (by decide) (hts _ mw_247) (fun _ h9 => h9) rfl dX5_readLayer_132 ?_
            refine lv_iload_n hx hb dX5_readLayer_135 rfl (lv_at hl 3 rfl) ?_
            refine lv_iload_n hx hb dX5_readLayer_136 rfl (lv_at hl 4 rfl) ?_
            refine lv_iconst (v := 1) hx hb dX5_readLayer_137 (by decide) ?_
            refine lv_iadd hx hb dX5_readLayer_138 ?_
            refine lv_topi (fun z_266 ez_266 => ?_)
            have tz_266 : z_266.toInt = d.toInt + 1 := by rw [ez_266]; exact ti_addc (by decide) (by omega) (by omega)
            refine va_iast hx hb hK hP hD hS 0 0 rfl rfl (vp_in_o (by omega) (by omega)) dX5_readLayer_139 (fun H locs hP hD hS => ?_)
            have hP : va_P D vwCl [((rw 1), .inl (k 0, 10, .inl (upd (g 1) r.toNatClampNeg z_266))), ((rd 0), .inr (4, [.ref (rw 0), .int (v_255 1), .int (v_255 2), .int (v_255 3), .ref (rd 1), .int (v_255 5), .int (v_255 6), .int (v_255 7), .int (v_255 8), .int (v_255 9)])), ((rd 1), .inl (k 2, 900, .inl tf)), ((rw 0), .inr (5, [.int (y 0), .int (y 1), .int (y 2), .int (y 3), .int (y 4), .int (y 5), .int (y 6), .int (y 7), .int (y 8), .int (y 9), .int (y 10), .ref (rw 1), .ref (rw 2), .ref (rw 3), .ref (rw 4), .ref (rw 5)])), ((rw 3), .inl (k 0, 60, .inl (v_265 3)))] H := hP
            have hD : va_D A [((rw 1), .inl (k 0, 10, .inl (upd (g 1) r.toNatClampNeg z_266))), ((rd 0), .inr (4, [.ref (rw 0), .int (v_255 1), .int (v_255 2), .int (v_255 3), .ref (rd 1), .int (v_255 5), .int (v_255 6), .int (v_255 7), .int (v_255 8), .int (v_255 9)])), ((rd 1), .inl (k 2, 900, .inl tf)), ((rw 0), .inr (5, [.int (y 0), .int (y 1), .int (y 2), .int (y 3), .int (y 4), .int (y 5), .int (y 6), .int (y 7), .int (y 8), .int (y 9), .int (y 10), .ref (rw 1), .ref (rw 2), .ref (rw 3), .ref (rw 4), .ref (rw 5)])), ((rw 3), .inl (k 0, 60, .inl (v_265 3)))] := hD
            generalize ef_267 : (upd (g 1) r.toNatClampNeg z_266) = f_267 at hP hD
            have hf_267 : ∀ j : Nat, 0 ≤ (f_267 j).toInt ∧ (f_267 j).toInt ≤ 6 := by rw [← ef_267]; exact upd_rng w_hd ⟨by omega, by omega⟩
            exact W.vret hx hb hr (fun t ht hW => ⟨⟨((va_seli [0, (v_255 1), (v_255 2), (v_255 3), 0, (v_255 5), (v_255 6), (v_255 7), (v_255 8), (v_255 9)]), (va_selg [(fun _ => 0), f_267, (fun _ => 0), (v_265 3)])), rfl, ⟨(show 0 ≤ (v_255 3).toInt ∧ (v_255 3).toInt ≤ 900 from ⟨by omega, by omega⟩), (show 0 ≤ (v_255 5).toInt ∧ (v_255 5).toInt ≤ 900 from ⟨by omega, by omega⟩), (show 0 ≤ (v_255 6).toInt ∧ (v_255 6).toInt ≤ 900 from ⟨by omega, by omega⟩), (show 0 ≤ (v_255 7).toInt ∧ (v_255 7).toInt ≤ 900 from ⟨by omega, by omega⟩), (show (v_255 6).toInt ≤ (v_255 7).toInt from by omega), (show (v_255 7).toInt ≤ (v_255 5).toInt from by omega), (show (v_255 3).toInt = (rf 3).toInt from by omega), (show ∀ j : Nat, 0 ≤ (f_267 j).toInt ∧ (f_267 j).toInt ≤ 6 from hf_267)⟩, by rw [ht]; exact hP.sub [1, 2, 3, 0, 4] rfl, hD.sub [1, 2, 3, 0, 4] (by decide) rfl⟩, hS.F ht⟩) hS.2.2 dX5_readLayer_140
      · have c_198 : r_197.toInt ≠ 0 := ti_ne c_198
        have qc_198 : r_197 = 1 := ti_of (show r_197.toInt = 1 from by omega)
        refine lv_iload hx hb dX5_readLayer_59 (lv_at hl 0 rfl) ?_
        refine kS_i (As := [.int r_196]) (rest := []) ⟨hx, hb, hml, hown, hts⟩ (s_L_madeWet l D k r_196) (gS mw_256 mw_257 mw_254 mw_258) hd_yX1_madeWet rfl rfl ⟨Nat.le_of_ble_eq_true rfl, Nat.le_of_ble_eq_true rfl⟩ hK hN0 (hP.sub [] rfl) rfl hl.1 rfl (Nat.le_of_ble_eq_true rfl) dX5_readLayer_61 ⟨Nat.le_of_ble_eq_true rfl, Nat.le_of_ble_eq_true rfl⟩ (fun r_268 hr_268 => ?_)
        refine lv_istore (lv' := [(4, .int r_268), (3, .int 1), (0, .ref (rd 0)), (1, .int r), (2, .int d)]) hx hb dX5_readLayer_64 hl (by decide) rfl (fun ls hl => ?_)
        refine lv_aload_n hx hb dX5_readLayer_66 rfl (lv_at hl 2 rfl) ?_
        refine kV_uv (q0 := 0) (As := []) (rest := []) (wr := [((rw 0), .inr (5, [.int (y 0), .int (y 1), .int (y 2), .int (y 3), .int (y 4), .int (y 5), .int (y 6), .int (y 7), .int (y 8), .int (y 9), .int (y 10), .ref (rw 1), .ref (rw 2), .ref (rw 3), .ref (rw 4), .ref (rw 5)])), ((rw 1), .inl (k 0, 10, .inl (g 1))), ((rw 3), .inl (k 0, 60, .inl (g 3)))]) ⟨hx, hb, hml, hown, hts⟩ (s_R_advance l D k _ _ v_188 tf _ (show 0 ≤ (v_188 3).toInt ∧ (v_188 3).toInt ≤ 900 from ⟨by omega, by omega⟩) (show 0 ≤ (v_188 5).toInt ∧ (v_188 5).toInt ≤ 900 from ⟨by omega, by omega⟩) (show 0 ≤ (v_188 7).toInt ∧ (v_188 7).toInt ≤ 900 from ⟨by omega, by omega⟩) (show (v_188 7).toInt ≤ (v_188 5).toInt from by omega)) (gV mw_159 mw_160 mw_161 mw_15 mw_162) hd_yX5_advance rfl rfl ⟨Nat.le_of_ble_eq_true rfl, Nat.le_of_ble_eq_true rfl⟩ hK hN0 hP hD hS hA [3, 4] [0, 1, 2] rfl rfl (by decide) (by decide) (by decide) rfl rfl rfl rfl hl.1 rfl (Nat.le_of_ble_eq_true rfl) dX5_readLayer_67 ⟨Nat.le_of_ble_eq_true rfl, Nat.le_of_ble_eq_true rfl⟩ (fun u_270 H locs hw hP hD hS => ?_)
        obtain ⟨v_271, rfl⟩ : ∃ z, z = u_270 := ⟨_, rfl⟩
        obtain ⟨h_272, h_273, h_274, h_275, h_276, h_277, h_278⟩ := hw
        have h_272 : 0 ≤ (v_271 3).toInt ∧ (v_271 3).toInt ≤ 900 := h_272
        have h_273 : 0 ≤ (v_271 5).toInt ∧ (v_271 5).toInt ≤ 900 := h_273
        have h_274 : 0 ≤ (v_271 6).toInt ∧ (v_271 6).toInt ≤ 900 := h_274
        have h_275 : 0 ≤ (v_271 7).toInt ∧ (v_271 7).toInt ≤ 900 := h_275
        have h_276 : (v_271 6).toInt ≤ (v_271 7).toInt := h_276
        have h_277 : (v_271 7).toInt ≤ (v_271 5).toInt := h_277
        have h_278 : (v_271 3).toInt = (v_188 3).toInt := h_278
        have hP : va_P D vwCl [((rw 0), .inr (5, [.int (y 0), .int (y 1), .int (y 2), .int (y 3), .int (y 4), .int (y 5), .int (y 6), .int (y 7), .int (y 8), .int (y 9), .int (y 10), .ref (rw 1), .ref (rw 2), .ref (rw 3), .ref (rw 4), .ref (rw 5)])), ((rw 1), .inl (k 0, 10, .inl (g 1))), ((rw 3), .inl (k 0, 60, .inl (g 3))), ((rd 0), .inr (4, [.ref (rw 0), .int (v_271 1), .int (v_271 2), .int (v_271 3), .ref (rd 1), .int (v_271 5), .int (v_271 6), .int (v_271 7), .int (v_271 8), .int (v_271 9)])), ((rd 1), .inl (k 2, 900, .inl tf))] H := hP
        have hD : va_D A [((rw 0), .inr (5, [.int (y 0), .int (y 1), .int (y 2), .int (y 3), .int (y 4), .int (y 5), .int (y 6), .int (y 7), .int (y 8), .int (y 9), .int (y 10), .ref (rw 1), .ref (rw 2), .ref (rw 3), .ref (rw 4), .ref (rw 5)])), ((rw 1), .inl (k 0, 10, .inl (g 1))), ((rw 3), .inl (k 0, 60, .inl (g 3))), ((rd 0), .inr (4, [.ref (rw 0), .int (v_271 1), .int (v_271 2), .int (v_271 3), .ref (rd 1), .int (v_271 5), .int (v_271 6), .int (v_271 7), .int (v_271 8), .int (v_271 9)])), ((rd 1), .inl (k 2, 900, .inl tf))] := hD
        refine lv_aload_n hx hb dX5_readLayer_70 rfl (lv_at hl 2 rfl) ?_
        refine va_ldcS (own := RX5) (index := 129) (tx := "mice") (q := ak 5) hx hb hown (hW0.2.2.2 5 (by decide)) dX5_readLayer_71 ?_
        refine kV_is (q0 := 0) (As := [.ref (ak 5)]) (rest := []) ⟨hx, hb, hml, hown, hts⟩ (s_R_isWord l D k ak av _ _ v_271 tf 5 (show 0 ≤ (v_271 3).toInt ∧ (v_271 3).toInt ≤ 900 from ⟨by omega, by omega⟩) (show 0 ≤ (v_271 5).toInt ∧ (v_271 5).toInt ≤ 900 from ⟨by omega, by omega⟩) (show 0 ≤ (v_271 6).toInt ∧ (v_271 6).toInt ≤ 900 from ⟨by omega, by omega⟩) (show 0 ≤ (v_271 7).toInt ∧ (v_271 7).toInt ≤ 900 from ⟨by omega, by omega⟩) (show (v_271 6).toInt ≤ (v_271 7).toInt from by omega) (show (v_271 7).toInt ≤ (v_271 5).toInt from by omega) (by omega)) (gV mw_185 mw_186 mw_187 mw_15 mw_188) hd_yX5_isWord rfl rfl ⟨Nat.le_of_ble_eq_true rfl, Nat.le_of_ble_eq_true rfl⟩ hK hN0 hW0 hS (hP.sub [3, 4] rfl) rfl rfl rfl rfl hl.1 rfl (Nat.le_of_ble_eq_true rfl) dX5_readLayer_73 ⟨Nat.le_of_ble_eq_true rfl, Nat.le_of_ble_eq_true rfl⟩ (fun r_279 hr_279 => ?_)
        have hr_279 : 0 ≤ r_279.toInt ∧ r_279.toInt ≤ 1 := hr_279
        refine lv_if_eq (tgt := 97) hx hb dX5_readLayer_76 (by decide) (fun c_280 => ?_) (fun c_280 => ?_)
        · have c_280 : r_279.toInt = 0 := ti_eq c_280
          have qc_280 : r_279 = 0 := ti_of (show r_279.toInt = 0 from by omega)
          refine lv_aload_n hx hb dX5_readLayer_97 rfl (lv_at hl 2 rfl) ?_
          refine va_ldcS (own := RX5) (index := 134) (tx := "spark") (q := ak 6) hx hb hown (hW0.2.2.2 6 (by decide)) dX5_readLayer_98 ?_
          refine kV_is (q0 := 0) (As := [.ref (ak 6)]) (rest := []) ⟨hx, hb, hml, hown, hts⟩ (s_R_isWord l D k ak av _ _ v_271 tf 6 (show 0 ≤ (v_271 3).toInt ∧ (v_271 3).toInt ≤ 900 from ⟨by omega, by omega⟩) (show 0 ≤ (v_271 5).toInt ∧ (v_271 5).toInt ≤ 900 from ⟨by omega, by omega⟩) (show 0 ≤ (v_271 6).toInt ∧ (v_271 6).toInt ≤ 900 from ⟨by omega, by omega⟩) (show 0 ≤ (v_271 7).toInt ∧ (v_271 7).toInt ≤ 900 from ⟨by omega, by omega⟩) (show (v_271 6).toInt ≤ (v_271 7).toInt from by omega) (show (v_271 7).toInt ≤ (v_271 5).toInt from by omega) (by omega)) (gV mw_185 mw_186 mw_187 mw_15 mw_188) hd_yX5_isWord rfl rfl ⟨Nat.le_of_ble_eq_true rfl, Nat.le_of_ble_eq_true rfl⟩ hK hN0 hW0 hS (hP.sub [3, 4] rfl) rfl rfl rfl rfl hl.1 rfl (Nat.le_of_ble_eq_true rfl) dX5_readLayer_100 ⟨Nat.le_of_ble_eq_true rfl, Nat.le_of_ble_eq_true rfl⟩ (fun r_281 hr_281 => ?_)
          have hr_281 : 0 ≤ r_281.toInt ∧ r_281.toInt ≤ 1 := hr_281
          refine lv_if_eq (tgt := 117) hx hb dX5_readLayer_103 (by decide) (fun c_282 => ?_) (fun c_282 => ?_)
          · have c_282 : r_281.toInt = 0 := ti_eq c_282
            have qc_282 : r_281 = 0 := ti_of (show r_281.toInt = 0 from by omega)
            refine lv_aload_n hx hb dX5_readLayer_117 rfl (lv_at hl 2 rfl) ?_
            refine va_get (D := D) (ci := 4) (v := .ref (rw 0)) (C := RX5) (T := TX5) (N := 10) hx hb hts inlX5 hown hK hP 3 rfl rfl 0 (by decide) (hts _ mw_47) (fun _ h9 => h9) rfl dX5_readLayer_118 ?_
            refine lv_iload_n hx hb dX5_readLayer_121 rfl (lv_at hl 3 rfl) ?_
            refine lv_iload_n hx hb dX5_readLayer_122 rfl (lv_at hl 4 rfl) ?_
            refine lv_iload hx hb dX5_readLayer_123 (lv_at hl 0 rfl) ?_
            refine kV_uv (q0 := 0) (As := [.int r, .int d, .int r_268]) (rest := []) (wr := [((rw 1), .inl (k 0, 10, .inl (g 1))), ((rd 0), .inr (4, [.ref (rw 0), .int (v_271 1), .int (v_271 2), .int (v_271 3), .ref (rd 1), .int (v_271 5), .int (v_271 6), .int (v_271 7), .int (v_271 8), .int (v_271 9)])), ((rd 1), .inl (k 2, 900, .inl tf))]) ⟨hx, hb, hml, hown, hts⟩ (s_W_setLayer l D k rw y g r d r_268 _ (show 0 ≤ (y 0).toInt ∧ (y 0).toInt ≤ 10 from ⟨by omega, by omega⟩) (show 0 ≤ (y 2).toInt ∧ (y 2).toInt ≤ 6 from ⟨by omega, by omega⟩) (show 0 ≤ (y 6).toInt ∧ (y 6).toInt ≤ 1 from ⟨by omega, by omega⟩) (show 0 ≤ r.toInt ∧ r.toInt ≤ 9 from ⟨by omega, by omega⟩) (show 0 ≤ d.toInt ∧ d.toInt ≤ 5 from ⟨by omega, by omega⟩)) (gV mw_266 mw_267 mw_268 mw_19 mw_269) hd_yX6_setLayer rfl rfl ⟨Nat.le_of_ble_eq_true rfl, Nat.le_of_ble_eq_true rfl⟩ hK hN0 hP hD hS hA [0, 2] [1, 3, 4] rfl rfl (by decide) (by decide) (by decide) rfl rfl rfl rfl hl.1 rfl (Nat.le_of_ble_eq_true rfl) dX5_readLayer_125 ⟨Nat.le_of_ble_eq_true rfl, Nat.le_of_ble_eq_true rfl⟩ (fun u_284 H locs hw hP hD hS => ?_)
            obtain ⟨v_285, rfl⟩ : ∃ z, z = u_284 := ⟨_, rfl⟩
            have hP : va_P D vwCl [((rw 1), .inl (k 0, 10, .inl (g 1))), ((rd 0), .inr (4, [.ref (rw 0), .int (v_271 1), .int (v_271 2), .int (v_271 3), .ref (rd 1), .int (v_271 5), .int (v_271 6), .int (v_271 7), .int (v_271 8), .int (v_271 9)])), ((rd 1), .inl (k 2, 900, .inl tf)), ((rw 0), .inr (5, [.int (y 0), .int (y 1), .int (y 2), .int (y 3), .int (y 4), .int (y 5), .int (y 6), .int (y 7), .int (y 8), .int (y 9), .int (y 10), .ref (rw 1), .ref (rw 2), .ref (rw 3), .ref (rw 4), .ref (rw 5)])), ((rw 3), .inl (k 0, 60, .inl (v_285 3)))] H := hP
            have hD : va_D A [((rw 1), .inl (k 0, 10, .inl (g 1))), ((rd 0), .inr (4, [.ref (rw 0), .int (v_271 1), .int (v_271 2), .int (v_271 3), .ref (rd 1), .int (v_271 5), .int (v_271 6), .int (v_271 7), .int (v_271 8), .int (v_271 9)])), ((rd 1), .inl (k 2, 900, .inl tf)), ((rw 0), .inr (5, [.int (y 0), .int (y 1), .int (y 2), .int (y 3), .int (y 4), .int (y 5), .int (y 6), .int (y 7), .int (y 8), .int (y 9), .int (y 10), .ref (rw 1), .ref (rw 2), .ref (rw 3), .ref (rw 4), .ref (rw 5)])), ((rw 3), .inl (k 0, 60, .inl (v_285 3)))] := hD
            refine lv_aload_n hx hb dX5_readLayer_128 rfl (lv_at hl 2 rfl) ?_
            refine va_get (D := D) (ci := 4) (v := .ref (rw 0)) (C := RX5) (T := TX5) (N := 10) hx hb hts inlX5 hown hK hP 1 rfl rfl 0 (by decide) (hts _ mw_47) (fun _ h9 => h9) rfl dX5_readLayer_129 ?_
            refine va_get (D := D) (ci := 5) (v := .ref (rw 1)) (C := RX6) (T := TX6) (N := 16) hx hb hts inlX6 hown hK hP 3 rfl rfl 11 (by decide) (hts _ mw_247) (fun _ h9 => h9) rfl dX5_readLayer_132 ?_
            refine lv_iload_n hx hb dX5_readLayer_135 rfl (lv_at hl 3 rfl) ?_
            refine lv_iload_n hx hb dX5_readLayer_136 rfl (lv_at hl 4 rfl) ?_
            refine lv_iconst (v := 1) hx hb dX5_readLayer_137 (by decide) ?_
            refine lv_iadd hx hb dX5_readLayer_138 ?_
            refine lv_topi (fun z_286 ez_286 => ?_)
            have tz_286 : z_286.toInt = d.toInt + 1 := by rw [ez_286]; exact ti_addc (by decide) (by omega) (by omega)
            refine va_iast hx hb hK hP hD hS 0 0 rfl rfl (vp_in_o (by omega) (by omega)) dX5_readLayer_139 (fun H locs hP hD hS => ?_)
            have hP : va_P D vwCl [((rw 1), .inl (k 0, 10, .inl (upd (g 1) r.toNatClampNeg z_286))), ((rd 0), .inr (4, [.ref (rw 0), .int (v_271 1), .int (v_271 2), .int (v_271 3), .ref (rd 1), .int (v_271 5), .int (v_271 6), .int (v_271 7), .int (v_271 8), .int (v_271 9)])), ((rd 1), .inl (k 2, 900, .inl tf)), ((rw 0), .inr (5, [.int (y 0), .int (y 1), .int (y 2), .int (y 3), .int (y 4), .int (y 5), .int (y 6), .int (y 7), .int (y 8), .int (y 9), .int (y 10), .ref (rw 1), .ref (rw 2), .ref (rw 3), .ref (rw 4), .ref (rw 5)])), ((rw 3), .inl (k 0, 60, .inl (v_285 3)))] H := hP
            have hD : va_D A [((rw 1), .inl (k 0, 10, .inl (upd (g 1) r.toNatClampNeg z_286))), ((rd 0), .inr (4, [.ref (rw 0), .int (v_271 1), .int (v_271 2), .int (v_271 3), .ref (rd 1), .int (v_271 5), .int (v_271 6), .int (v_271 7), .int (v_271 8), .int (v_271 9)])), ((rd 1), .inl (k 2, 900, .inl tf)), ((rw 0), .inr (5, [.int (y 0), .int (y 1), .int (y 2), .int (y 3), .int (y 4), .int (y 5), .int (y 6), .int (y 7), .int (y 8), .int (y 9), .int (y 10), .ref (rw 1), .ref (rw 2), .ref (rw 3), .ref (rw 4), .ref (rw 5)])), ((rw 3), .inl (k 0, 60, .inl (v_285 3)))] := hD
            generalize ef_287 : (upd (g 1) r.toNatClampNeg z_286) = f_287 at hP hD
            have hf_287 : ∀ j : Nat, 0 ≤ (f_287 j).toInt ∧ (f_287 j).toInt ≤ 6 := by rw [← ef_287]; exact upd_rng w_hd ⟨by omega, by omega⟩
            exact W.vret hx hb hr (fun t ht hW => ⟨⟨((va_seli [0, (v_271 1), (v_271 2), (v_271 3), 0, (v_271 5), (v_271 6), (v_271 7), (v_271 8), (v_271 9)]), (va_selg [(fun _ => 0), f_287, (fun _ => 0), (v_285 3)])), rfl, ⟨(show 0 ≤ (v_271 3).toInt ∧ (v_271 3).toInt ≤ 900 from ⟨by omega, by omega⟩), (show 0 ≤ (v_271 5).toInt ∧ (v_271 5).toInt ≤ 900 from ⟨by omega, by omega⟩), (show 0 ≤ (v_271 6).toInt ∧ (v_271 6).toInt ≤ 900 from ⟨by omega, by omega⟩), (show 0 ≤ (v_271 7).toInt ∧ (v_271 7).toInt ≤ 900 from ⟨by omega, by omega⟩), (show (v_271 6).toInt ≤ (v_271 7).toInt from by omega), (show (v_271 7).toInt ≤ (v_271 5).toInt from by omega), (show (v_271 3).toInt = (rf 3).toInt from by omega), (show ∀ j : Nat, 0 ≤ (f_287 j).toInt ∧ (f_287 j).toInt ≤ 6 from hf_287)⟩, by rw [ht]; exact hP.sub [1, 2, 3, 0, 4] rfl, hD.sub [1, 2, 3, 0, 4] (by decide) rfl⟩, hS.F ht⟩) hS.2.2 dX5_readLayer_140
          · have c_282 : r_281.toInt ≠ 0 := ti_ne c_282
            have qc_282 : r_281 = 1 := ti_of (show r_281.toInt = 1 from by omega)
            refine lv_iload hx hb dX5_readLayer_106 (lv_at hl 0 rfl) ?_
            refine kS_i (As := [.int r_268]) (rest := []) ⟨hx, hb, hml, hown, hts⟩ (s_L_withSpark l D k r_268) (gS mw_263 mw_264 mw_254 mw_265) hd_yX1_withSpark rfl rfl ⟨Nat.le_of_ble_eq_true rfl, Nat.le_of_ble_eq_true rfl⟩ hK hN0 (hP.sub [] rfl) rfl hl.1 rfl (Nat.le_of_ble_eq_true rfl) dX5_readLayer_108 ⟨Nat.le_of_ble_eq_true rfl, Nat.le_of_ble_eq_true rfl⟩ (fun r_288 hr_288 => ?_)
            refine lv_istore (lv' := [(4, .int r_288), (3, .int 1), (0, .ref (rd 0)), (1, .int r), (2, .int d)]) hx hb dX5_readLayer_111 hl (by decide) rfl (fun ls hl => ?_)
            refine lv_aload_n hx hb dX5_readLayer_113 rfl (lv_at hl 2 rfl) ?_
            refine kV_uv (q0 := 0) (As := []) (rest := []) (wr := [((rw 0), .inr (5, [.int (y 0), .int (y 1), .int (y 2), .int (y 3), .int (y 4), .int (y 5), .int (y 6), .int (y 7), .int (y 8), .int (y 9), .int (y 10), .ref (rw 1), .ref (rw 2), .ref (rw 3), .ref (rw 4), .ref (rw 5)])), ((rw 1), .inl (k 0, 10, .inl (g 1))), ((rw 3), .inl (k 0, 60, .inl (g 3)))]) ⟨hx, hb, hml, hown, hts⟩ (s_R_advance l D k _ _ v_271 tf _ (show 0 ≤ (v_271 3).toInt ∧ (v_271 3).toInt ≤ 900 from ⟨by omega, by omega⟩) (show 0 ≤ (v_271 5).toInt ∧ (v_271 5).toInt ≤ 900 from ⟨by omega, by omega⟩) (show 0 ≤ (v_271 7).toInt ∧ (v_271 7).toInt ≤ 900 from ⟨by omega, by omega⟩) (show (v_271 7).toInt ≤ (v_271 5).toInt from by omega)) (gV mw_159 mw_160 mw_161 mw_15 mw_162) hd_yX5_advance rfl rfl ⟨Nat.le_of_ble_eq_true rfl, Nat.le_of_ble_eq_true rfl⟩ hK hN0 hP hD hS hA [3, 4] [0, 1, 2] rfl rfl (by decide) (by decide) (by decide) rfl rfl rfl rfl hl.1 rfl (Nat.le_of_ble_eq_true rfl) dX5_readLayer_114 ⟨Nat.le_of_ble_eq_true rfl, Nat.le_of_ble_eq_true rfl⟩ (fun u_290 H locs hw hP hD hS => ?_)
            obtain ⟨v_291, rfl⟩ : ∃ z, z = u_290 := ⟨_, rfl⟩
            obtain ⟨h_292, h_293, h_294, h_295, h_296, h_297, h_298⟩ := hw
            have h_292 : 0 ≤ (v_291 3).toInt ∧ (v_291 3).toInt ≤ 900 := h_292
            have h_293 : 0 ≤ (v_291 5).toInt ∧ (v_291 5).toInt ≤ 900 := h_293
            have h_294 : 0 ≤ (v_291 6).toInt ∧ (v_291 6).toInt ≤ 900 := h_294
            have h_295 : 0 ≤ (v_291 7).toInt ∧ (v_291 7).toInt ≤ 900 := h_295
            have h_296 : (v_291 6).toInt ≤ (v_291 7).toInt := h_296
            have h_297 : (v_291 7).toInt ≤ (v_291 5).toInt := h_297
            have h_298 : (v_291 3).toInt = (v_271 3).toInt := h_298
            have hP : va_P D vwCl [((rw 0), .inr (5, [.int (y 0), .int (y 1), .int (y 2), .int (y 3), .int (y 4), .int (y 5), .int (y 6), .int (y 7), .int (y 8), .int (y 9), .int (y 10), .ref (rw 1), .ref (rw 2), .ref (rw 3), .ref (rw 4), .ref (rw 5)])), ((rw 1), .inl (k 0, 10, .inl (g 1))), ((rw 3), .inl (k 0, 60, .inl (g 3))), ((rd 0), .inr (4, [.ref (rw 0), .int (v_291 1), .int (v_291 2), .int (v_291 3), .ref (rd 1), .int (v_291 5), .int (v_291 6), .int (v_291 7), .int (v_291 8), .int (v_291 9)])), ((rd 1), .inl (k 2, 900, .inl tf))] H := hP
            have hD : va_D A [((rw 0), .inr (5, [.int (y 0), .int (y 1), .int (y 2), .int (y 3), .int (y 4), .int (y 5), .int (y 6), .int (y 7), .int (y 8), .int (y 9), .int (y 10), .ref (rw 1), .ref (rw 2), .ref (rw 3), .ref (rw 4), .ref (rw 5)])), ((rw 1), .inl (k 0, 10, .inl (g 1))), ((rw 3), .inl (k 0, 60, .inl (g 3))), ((rd 0), .inr (4, [.ref (rw 0), .int (v_291 1), .int (v_291 2), .int (v_291 3), .ref (rd 1), .int (v_291 5), .int (v_291 6), .int (v_291 7), .int (v_291 8), .int (v_291 9)])), ((rd 1), .inl (k 2, 900, .inl tf))] := hD
            refine lv_aload_n hx hb dX5_readLayer_117 rfl (lv_at hl 2 rfl) ?_
            refine va_get (D := D) (ci := 4) (v := .ref (rw 0)) (C := RX5) (T := TX5) (N := 10) hx hb hts inlX5 hown hK hP 3 rfl rfl 0 (by decide) (hts _ mw_47) (fun _ h9 => h9) rfl dX5_readLayer_118 ?_
            refine lv_iload_n hx hb dX5_readLayer_121 rfl (lv_at hl 3 rfl) ?_
            refine lv_iload_n hx hb dX5_readLayer_122 rfl (lv_at hl 4 rfl) ?_
            refine lv_iload hx hb dX5_readLayer_123 (lv_at hl 0 rfl) ?_
            refine kV_uv (q0 := 0) (As := [.int r, .int d, .int r_288]) (rest := []) (wr := [((rw 1), .inl (k 0, 10, .inl (g 1))), ((rd 0), .inr (4, [.ref (rw 0), .int (v_291 1), .int (v_291 2), .int (v_291 3), .ref (rd 1), .int (v_291 5), .int (v_291 6), .int (v_291 7), .int (v_291 8), .int (v_291 9)])), ((rd 1), .inl (k 2, 900, .inl tf))]) ⟨hx, hb, hml, hown, hts⟩ (s_W_setLayer l D k rw y g r d r_288 _ (show 0 ≤ (y 0).toInt ∧ (y 0).toInt ≤ 10 from ⟨by omega, by omega⟩) (show 0 ≤ (y 2).toInt ∧ (y 2).toInt ≤ 6 from ⟨by omega, by omega⟩) (show 0 ≤ (y 6).toInt ∧ (y 6).toInt ≤ 1 from ⟨by omega, by omega⟩) (show 0 ≤ r.toInt ∧ r.toInt ≤ 9 from ⟨by omega, by omega⟩) (show 0 ≤ d.toInt ∧ d.toInt ≤ 5 from ⟨by omega, by omega⟩)) (gV mw_266 mw_267 mw_268 mw_19 mw_269) hd_yX6_setLayer rfl rfl ⟨Nat.le_of_ble_eq_true rfl, Nat.le_of_ble_eq_true rfl⟩ hK hN0 hP hD hS hA [0, 2] [1, 3, 4] rfl rfl (by decide) (by decide) (by decide) rfl rfl rfl rfl hl.1 rfl (Nat.le_of_ble_eq_true rfl) dX5_readLayer_125 ⟨Nat.le_of_ble_eq_true rfl, Nat.le_of_ble_eq_true rfl⟩ (fun u_300 H locs hw hP hD hS => ?_)
            obtain ⟨v_301, rfl⟩ : ∃ z, z = u_300 := ⟨_, rfl⟩
            have hP : va_P D vwCl [((rw 1), .inl (k 0, 10, .inl (g 1))), ((rd 0), .inr (4, [.ref (rw 0), .int (v_291 1), .int (v_291 2), .int (v_291 3), .ref (rd 1), .int (v_291 5), .int (v_291 6), .int (v_291 7), .int (v_291 8), .int (v_291 9)])), ((rd 1), .inl (k 2, 900, .inl tf)), ((rw 0), .inr (5, [.int (y 0), .int (y 1), .int (y 2), .int (y 3), .int (y 4), .int (y 5), .int (y 6), .int (y 7), .int (y 8), .int (y 9), .int (y 10), .ref (rw 1), .ref (rw 2), .ref (rw 3), .ref (rw 4), .ref (rw 5)])), ((rw 3), .inl (k 0, 60, .inl (v_301 3)))] H := hP
            have hD : va_D A [((rw 1), .inl (k 0, 10, .inl (g 1))), ((rd 0), .inr (4, [.ref (rw 0), .int (v_291 1), .int (v_291 2), .int (v_291 3), .ref (rd 1), .int (v_291 5), .int (v_291 6), .int (v_291 7), .int (v_291 8), .int (v_291 9)])), ((rd 1), .inl (k 2, 900, .inl tf)), ((rw 0), .inr (5, [.int (y 0), .int (y 1), .int (y 2), .int (y 3), .int (y 4), .int (y 5), .int (y 6), .int (y 7), .int (y 8), .int (y 9), .int (y 10), .ref (rw 1), .ref (rw 2), .ref (rw 3), .ref (rw 4), .ref (rw 5)])), ((rw 3), .inl (k 0, 60, .inl (v_301 3)))] := hD
            refine lv_aload_n hx hb dX5_readLayer_128 rfl (lv_at hl 2 rfl) ?_
            refine va_get (D := D) (ci := 4) (v := .ref (rw 0)) (C := RX5) (T := TX5) (N := 10) hx hb hts inlX5 hown hK hP 1 rfl rfl 0 (by decide) (hts _ mw_47) (fun _ h9 => h9) rfl dX5_readLayer_129 ?_
            refine va_get (D := D) (ci := 5) (v := .ref (rw 1)) (C := RX6) (T := TX6) (N := 16) hx hb hts inlX6 hown hK hP 3 rfl rfl 11 (by decide) (hts _ mw_247) (fun _ h9 => h9) rfl dX5_readLayer_132 ?_
            refine lv_iload_n hx hb dX5_readLayer_135 rfl (lv_at hl 3 rfl) ?_
            refine lv_iload_n hx hb dX5_readLayer_136 rfl (lv_at hl 4 rfl) ?_
            refine lv_iconst (v := 1) hx hb dX5_readLayer_137 (by decide) ?_
            refine lv_iadd hx hb dX5_readLayer_138 ?_
            refine lv_topi (fun z_302 ez_302 => ?_)
            have tz_302 : z_302.toInt = d.toInt + 1 := by rw [ez_302]; exact ti_addc (by decide) (by omega) (by omega)
            refine va_iast hx hb hK hP hD hS 0 0 rfl rfl (vp_in_o (by omega) (by omega)) dX5_readLayer_139 (fun H locs hP hD hS => ?_)
            have hP : va_P D vwCl [((rw 1), .inl (k 0, 10, .inl (upd (g 1) r.toNatClampNeg z_302))), ((rd 0), .inr (4, [.ref (rw 0), .int (v_291 1), .int (v_291 2), .int (v_291 3), .ref (rd 1), .int (v_291 5), .int (v_291 6), .int (v_291 7), .int (v_291 8), .int (v_291 9)])), ((rd 1), .inl (k 2, 900, .inl tf)), ((rw 0), .inr (5, [.int (y 0), .int (y 1), .int (y 2), .int (y 3), .int (y 4), .int (y 5), .int (y 6), .int (y 7), .int (y 8), .int (y 9), .int (y 10), .ref (rw 1), .ref (rw 2), .ref (rw 3), .ref (rw 4), .ref (rw 5)])), ((rw 3), .inl (k 0, 60, .inl (v_301 3)))] H := hP
            have hD : va_D A [((rw 1), .inl (k 0, 10, .inl (upd (g 1) r.toNatClampNeg z_302))), ((rd 0), .inr (4, [.ref (rw 0), .int (v_291 1), .int (v_291 2), .int (v_291 3), .ref (rd 1), .int (v_291 5), .int (v_291 6), .int (v_291 7), .int (v_291 8), .int (v_291 9)])), ((rd 1), .inl (k 2, 900, .inl tf)), ((rw 0), .inr (5, [.int (y 0), .int (y 1), .int (y 2), .int (y 3), .int (y 4), .int (y 5), .int (y 6), .int (y 7), .int (y 8), .int (y 9), .int (y 10), .ref (rw 1), .ref (rw 2), .ref (rw 3), .ref (rw 4), .ref (rw 5)])), ((rw 3), .inl (k 0, 60, .inl (v_301 3)))] := hD
            generalize ef_303 : (upd (g 1) r.toNatClampNeg z_302) = f_303 at hP hD
            have hf_303 : ∀ j : Nat, 0 ≤ (f_303 j).toInt ∧ (f_303 j).toInt ≤ 6 := by rw [← ef_303]; exact upd_rng w_hd ⟨by omega, by omega⟩
            exact W.vret hx hb hr (fun t ht hW => ⟨⟨((va_seli [0, (v_291 1), (v_291 2), (v_291 3), 0, (v_291 5), (v_291 6), (v_291 7), (v_291 8), (v_291 9)]), (va_selg [(fun _ => 0), f_303, (fun _ => 0), (v_301 3)])), rfl, ⟨(show 0 ≤ (v_291 3).toInt ∧ (v_291 3).toInt ≤ 900 from ⟨by omega, by omega⟩), (show 0 ≤ (v_291 5).toInt ∧ (v_291 5).toInt ≤ 900 from ⟨by omega, by omega⟩), (show 0 ≤ (v_291 6).toInt ∧ (v_291 6).toInt ≤ 900 from ⟨by omega, by omega⟩), (show 0 ≤ (v_291 7).toInt ∧ (v_291 7).toInt ≤ 900 from ⟨by omega, by omega⟩), (show (v_291 6).toInt ≤ (v_291 7).toInt from by omega), (show (v_291 7).toInt ≤ (v_291 5).toInt from by omega), (show (v_291 3).toInt = (rf 3).toInt from by omega), (show ∀ j : Nat, 0 ≤ (f_303 j).toInt ∧ (f_303 j).toInt ≤ 6 from hf_303)⟩, by rw [ht]; exact hP.sub [1, 2, 3, 0, 4] rfl, hD.sub [1, 2, 3, 0, 4] (by decide) rfl⟩, hS.F ht⟩) hS.2.2 dX5_readLayer_140
        · have c_280 : r_279.toInt ≠ 0 := ti_ne c_280
          have qc_280 : r_279 = 1 := ti_of (show r_279.toInt = 1 from by omega)
          refine lv_aload_n hx hb dX5_readLayer_79 rfl (lv_at hl 2 rfl) ?_
          refine kV_uv (q0 := 0) (As := []) (rest := []) (wr := [((rw 0), .inr (5, [.int (y 0), .int (y 1), .int (y 2), .int (y 3), .int (y 4), .int (y 5), .int (y 6), .int (y 7), .int (y 8), .int (y 9), .int (y 10), .ref (rw 1), .ref (rw 2), .ref (rw 3), .ref (rw 4), .ref (rw 5)])), ((rw 1), .inl (k 0, 10, .inl (g 1))), ((rw 3), .inl (k 0, 60, .inl (g 3)))]) ⟨hx, hb, hml, hown, hts⟩ (s_R_advance l D k _ _ v_271 tf _ (show 0 ≤ (v_271 3).toInt ∧ (v_271 3).toInt ≤ 900 from ⟨by omega, by omega⟩) (show 0 ≤ (v_271 5).toInt ∧ (v_271 5).toInt ≤ 900 from ⟨by omega, by omega⟩) (show 0 ≤ (v_271 7).toInt ∧ (v_271 7).toInt ≤ 900 from ⟨by omega, by omega⟩) (show (v_271 7).toInt ≤ (v_271 5).toInt from by omega)) (gV mw_159 mw_160 mw_161 mw_15 mw_162) hd_yX5_advance rfl rfl ⟨Nat.le_of_ble_eq_true rfl, Nat.le_of_ble_eq_true rfl⟩ hK hN0 hP hD hS hA [3, 4] [0, 1, 2] rfl rfl (by decide) (by decide) (by decide) rfl rfl rfl rfl hl.1 rfl (Nat.le_of_ble_eq_true rfl) dX5_readLayer_80 ⟨Nat.le_of_ble_eq_true rfl, Nat.le_of_ble_eq_true rfl⟩ (fun u_305 H locs hw hP hD hS => ?_)
          obtain ⟨v_306, rfl⟩ : ∃ z, z = u_305 := ⟨_, rfl⟩
          obtain ⟨h_307, h_308, h_309, h_310, h_311, h_312, h_313⟩ := hw
          have h_307 : 0 ≤ (v_306 3).toInt ∧ (v_306 3).toInt ≤ 900 := h_307
          have h_308 : 0 ≤ (v_306 5).toInt ∧ (v_306 5).toInt ≤ 900 := h_308
          have h_309 : 0 ≤ (v_306 6).toInt ∧ (v_306 6).toInt ≤ 900 := h_309
          have h_310 : 0 ≤ (v_306 7).toInt ∧ (v_306 7).toInt ≤ 900 := h_310
          have h_311 : (v_306 6).toInt ≤ (v_306 7).toInt := h_311
          have h_312 : (v_306 7).toInt ≤ (v_306 5).toInt := h_312
          have h_313 : (v_306 3).toInt = (v_271 3).toInt := h_313
          have hP : va_P D vwCl [((rw 0), .inr (5, [.int (y 0), .int (y 1), .int (y 2), .int (y 3), .int (y 4), .int (y 5), .int (y 6), .int (y 7), .int (y 8), .int (y 9), .int (y 10), .ref (rw 1), .ref (rw 2), .ref (rw 3), .ref (rw 4), .ref (rw 5)])), ((rw 1), .inl (k 0, 10, .inl (g 1))), ((rw 3), .inl (k 0, 60, .inl (g 3))), ((rd 0), .inr (4, [.ref (rw 0), .int (v_306 1), .int (v_306 2), .int (v_306 3), .ref (rd 1), .int (v_306 5), .int (v_306 6), .int (v_306 7), .int (v_306 8), .int (v_306 9)])), ((rd 1), .inl (k 2, 900, .inl tf))] H := hP
          have hD : va_D A [((rw 0), .inr (5, [.int (y 0), .int (y 1), .int (y 2), .int (y 3), .int (y 4), .int (y 5), .int (y 6), .int (y 7), .int (y 8), .int (y 9), .int (y 10), .ref (rw 1), .ref (rw 2), .ref (rw 3), .ref (rw 4), .ref (rw 5)])), ((rw 1), .inl (k 0, 10, .inl (g 1))), ((rw 3), .inl (k 0, 60, .inl (g 3))), ((rd 0), .inr (4, [.ref (rw 0), .int (v_306 1), .int (v_306 2), .int (v_306 3), .ref (rd 1), .int (v_306 5), .int (v_306 6), .int (v_306 7), .int (v_306 8), .int (v_306 9)])), ((rd 1), .inl (k 2, 900, .inl tf))] := hD
          refine lv_iload hx hb dX5_readLayer_83 (lv_at hl 0 rfl) ?_
          refine lv_aload_n hx hb dX5_readLayer_85 rfl (lv_at hl 2 rfl) ?_
          refine lv_iconst (v := 1) hx hb dX5_readLayer_86 (by decide) ?_
          refine lv_bipush (v := 99) hx hb dX5_readLayer_87 (by decide) ?_
          refine kV_ui (q0 := 0) (As := [.int 1, .int 99]) (rest := [.int r_268]) (wr := [((rw 0), .inr (5, [.int (y 0), .int (y 1), .int (y 2), .int (y 3), .int (y 4), .int (y 5), .int (y 6), .int (y 7), .int (y 8), .int (y 9), .int (y 10), .ref (rw 1), .ref (rw 2), .ref (rw 3), .ref (rw 4), .ref (rw 5)])), ((rw 1), .inl (k 0, 10, .inl (g 1))), ((rw 3), .inl (k 0, 60, .inl (g 3)))]) ⟨hx, hb, hml, hown, hts⟩ (s_R_readNumber l D k _ _ v_306 tf 1 99 _ (show 0 ≤ (v_306 3).toInt ∧ (v_306 3).toInt ≤ 900 from ⟨by omega, by omega⟩) (show 0 ≤ (v_306 5).toInt ∧ (v_306 5).toInt ≤ 900 from ⟨by omega, by omega⟩) (show 0 ≤ (v_306 6).toInt ∧ (v_306 6).toInt ≤ 900 from ⟨by omega, by omega⟩) (show 0 ≤ (v_306 7).toInt ∧ (v_306 7).toInt ≤ 900 from ⟨by omega, by omega⟩) (show (v_306 6).toInt ≤ (v_306 7).toInt from by omega) (show (v_306 7).toInt ≤ (v_306 5).toInt from by omega)) (gV mw_248 mw_249 mw_250 mw_15 mw_251) hd_yX5_readNumber rfl rfl ⟨Nat.le_of_ble_eq_true rfl, Nat.le_of_ble_eq_true rfl⟩ hK hN0 hP hD hS hA [3, 4] [0, 1, 2] rfl rfl (by decide) (by decide) (by decide) rfl rfl rfl rfl hl.1 rfl (Nat.le_of_ble_eq_true rfl) dX5_readLayer_89 ⟨Nat.le_of_ble_eq_true rfl, Nat.le_of_ble_eq_true rfl⟩ (fun r_314 u_315 H locs hw hP hD hS => ?_)
          obtain ⟨v_316, rfl⟩ : ∃ z, z = u_315 := ⟨_, rfl⟩
          obtain ⟨hr_314, h_317, h_318, h_319, h_320, h_321, h_322, h_323⟩ := hw
          have h_317 : 0 ≤ (v_316 3).toInt ∧ (v_316 3).toInt ≤ 900 := h_317
          have h_318 : 0 ≤ (v_316 5).toInt ∧ (v_316 5).toInt ≤ 900 := h_318
          have h_319 : 0 ≤ (v_316 6).toInt ∧ (v_316 6).toInt ≤ 900 := h_319
          have h_320 : 0 ≤ (v_316 7).toInt ∧ (v_316 7).toInt ≤ 900 := h_320
          have h_321 : (v_316 6).toInt ≤ (v_316 7).toInt := h_321
          have h_322 : (v_316 7).toInt ≤ (v_316 5).toInt := h_322
          have h_323 : (v_316 3).toInt = (v_306 3).toInt := h_323
          have hP : va_P D vwCl [((rw 0), .inr (5, [.int (y 0), .int (y 1), .int (y 2), .int (y 3), .int (y 4), .int (y 5), .int (y 6), .int (y 7), .int (y 8), .int (y 9), .int (y 10), .ref (rw 1), .ref (rw 2), .ref (rw 3), .ref (rw 4), .ref (rw 5)])), ((rw 1), .inl (k 0, 10, .inl (g 1))), ((rw 3), .inl (k 0, 60, .inl (g 3))), ((rd 0), .inr (4, [.ref (rw 0), .int (v_316 1), .int (v_316 2), .int (v_316 3), .ref (rd 1), .int (v_316 5), .int (v_316 6), .int (v_316 7), .int (v_316 8), .int (v_316 9)])), ((rd 1), .inl (k 2, 900, .inl tf))] H := hP
          have hD : va_D A [((rw 0), .inr (5, [.int (y 0), .int (y 1), .int (y 2), .int (y 3), .int (y 4), .int (y 5), .int (y 6), .int (y 7), .int (y 8), .int (y 9), .int (y 10), .ref (rw 1), .ref (rw 2), .ref (rw 3), .ref (rw 4), .ref (rw 5)])), ((rw 1), .inl (k 0, 10, .inl (g 1))), ((rw 3), .inl (k 0, 60, .inl (g 3))), ((rd 0), .inr (4, [.ref (rw 0), .int (v_316 1), .int (v_316 2), .int (v_316 3), .ref (rd 1), .int (v_316 5), .int (v_316 6), .int (v_316 7), .int (v_316 8), .int (v_316 9)])), ((rd 1), .inl (k 2, 900, .inl tf))] := hD
          refine kS_i (As := [.int r_268, .int r_314]) (rest := []) ⟨hx, hb, hml, hown, hts⟩ (s_L_withMice l D k r_268 r_314) (gS mw_259 mw_260 mw_254 mw_261) hd_yX1_withMice rfl rfl ⟨Nat.le_of_ble_eq_true rfl, Nat.le_of_ble_eq_true rfl⟩ hK hN0 (hP.sub [] rfl) rfl hl.1 rfl (Nat.le_of_ble_eq_true rfl) dX5_readLayer_92 ⟨Nat.le_of_ble_eq_true rfl, Nat.le_of_ble_eq_true rfl⟩ (fun r_324 hr_324 => ?_)
          refine lv_istore (lv' := [(4, .int r_324), (3, .int 1), (0, .ref (rd 0)), (1, .int r), (2, .int d)]) hx hb dX5_readLayer_95 hl (by decide) rfl (fun ls hl => ?_)
          refine lv_aload_n hx hb dX5_readLayer_97 rfl (lv_at hl 2 rfl) ?_
          refine va_ldcS (own := RX5) (index := 134) (tx := "spark") (q := ak 6) hx hb hown (hW0.2.2.2 6 (by decide)) dX5_readLayer_98 ?_
          refine kV_is (q0 := 0) (As := [.ref (ak 6)]) (rest := []) ⟨hx, hb, hml, hown, hts⟩ (s_R_isWord l D k ak av _ _ v_316 tf 6 (show 0 ≤ (v_316 3).toInt ∧ (v_316 3).toInt ≤ 900 from ⟨by omega, by omega⟩) (show 0 ≤ (v_316 5).toInt ∧ (v_316 5).toInt ≤ 900 from ⟨by omega, by omega⟩) (show 0 ≤ (v_316 6).toInt ∧ (v_316 6).toInt ≤ 900 from ⟨by omega, by omega⟩) (show 0 ≤ (v_316 7).toInt ∧ (v_316 7).toInt ≤ 900 from ⟨by omega, by omega⟩) (show (v_316 6).toInt ≤ (v_316 7).toInt from by omega) (show (v_316 7).toInt ≤ (v_316 5).toInt from by omega) (by omega)) (gV mw_185 mw_186 mw_187 mw_15 mw_188) hd_yX5_isWord rfl rfl ⟨Nat.le_of_ble_eq_true rfl, Nat.le_of_ble_eq_true rfl⟩ hK hN0 hW0 hS (hP.sub [3, 4] rfl) rfl rfl rfl rfl hl.1 rfl (Nat.le_of_ble_eq_true rfl) dX5_readLayer_100 ⟨Nat.le_of_ble_eq_true rfl, Nat.le_of_ble_eq_true rfl⟩ (fun r_325 hr_325 => ?_)
          have hr_325 : 0 ≤ r_325.toInt ∧ r_325.toInt ≤ 1 := hr_325
          refine lv_if_eq (tgt := 117) hx hb dX5_readLayer_103 (by decide) (fun c_326 => ?_) (fun c_326 => ?_)
          · have c_326 : r_325.toInt = 0 := ti_eq c_326
            have qc_326 : r_325 = 0 := ti_of (show r_325.toInt = 0 from by omega)
            refine lv_aload_n hx hb dX5_readLayer_117 rfl (lv_at hl 2 rfl) ?_
            refine va_get (D := D) (ci := 4) (v := .ref (rw 0)) (C := RX5) (T := TX5) (N := 10) hx hb hts inlX5 hown hK hP 3 rfl rfl 0 (by decide) (hts _ mw_47) (fun _ h9 => h9) rfl dX5_readLayer_118 ?_
            refine lv_iload_n hx hb dX5_readLayer_121 rfl (lv_at hl 3 rfl) ?_
            refine lv_iload_n hx hb dX5_readLayer_122 rfl (lv_at hl 4 rfl) ?_
            refine lv_iload hx hb dX5_readLayer_123 (lv_at hl 0 rfl) ?_
            refine kV_uv (q0 := 0) (As := [.int r, .int d, .int r_324]) (rest := []) (wr := [((rw 1), .inl (k 0, 10, .inl (g 1))), ((rd 0), .inr (4, [.ref (rw 0), .int (v_316 1), .int (v_316 2), .int (v_316 3), .ref (rd 1), .int (v_316 5), .int (v_316 6), .int (v_316 7), .int (v_316 8), .int (v_316 9)])), ((rd 1), .inl (k 2, 900, .inl tf))]) ⟨hx, hb, hml, hown, hts⟩ (s_W_setLayer l D k rw y g r d r_324 _ (show 0 ≤ (y 0).toInt ∧ (y 0).toInt ≤ 10 from ⟨by omega, by omega⟩) (show 0 ≤ (y 2).toInt ∧ (y 2).toInt ≤ 6 from ⟨by omega, by omega⟩) (show 0 ≤ (y 6).toInt ∧ (y 6).toInt ≤ 1 from ⟨by omega, by omega⟩) (show 0 ≤ r.toInt ∧ r.toInt ≤ 9 from ⟨by omega, by omega⟩) (show 0 ≤ d.toInt ∧ d.toInt ≤ 5 from ⟨by omega, by omega⟩)) (gV mw_266 mw_267 mw_268 mw_19 mw_269) hd_yX6_setLayer rfl rfl ⟨Nat.le_of_ble_eq_true rfl, Nat.le_of_ble_eq_true rfl⟩ hK hN0 hP hD hS hA [0, 2] [1, 3, 4] rfl rfl (by decide) (by decide) (by decide) rfl rfl rfl rfl hl.1 rfl (Nat.le_of_ble_eq_true rfl) dX5_readLayer_125 ⟨Nat.le_of_ble_eq_true rfl, Nat.le_of_ble_eq_true rfl⟩ (fun u_328 H locs hw hP hD hS => ?_)
            obtain ⟨v_329, rfl⟩ : ∃ z, z = u_328 := ⟨_, rfl⟩
            have hP : va_P D vwCl [((rw 1), .inl (k 0, 10, .inl (g 1))), ((rd 0), .inr (4, [.ref (rw 0), .int (v_316 1), .int (v_316 2), .int (v_316 3), .ref (rd 1), .int (v_316 5), .int (v_316 6), .int (v_316 7), .int (v_316 8), .int (v_316 9)])), ((rd 1), .inl (k 2, 900, .inl tf)), ((rw 0), .inr (5, [.int (y 0), .int (y 1), .int (y 2), .int (y 3), .int (y 4), .int (y 5), .int (y 6), .int (y 7), .int (y 8), .int (y 9), .int (y 10), .ref (rw 1), .ref (rw 2), .ref (rw 3), .ref (rw 4), .ref (rw 5)])), ((rw 3), .inl (k 0, 60, .inl (v_329 3)))] H := hP
            have hD : va_D A [((rw 1), .inl (k 0, 10, .inl (g 1))), ((rd 0), .inr (4, [.ref (rw 0), .int (v_316 1), .int (v_316 2), .int (v_316 3), .ref (rd 1), .int (v_316 5), .int (v_316 6), .int (v_316 7), .int (v_316 8), .int (v_316 9)])), ((rd 1), .inl (k 2, 900, .inl tf)), ((rw 0), .inr (5, [.int (y 0), .int (y 1), .int (y 2), .int (y 3), .int (y 4), .int (y 5), .int (y 6), .int (y 7), .int (y 8), .int (y 9), .int (y 10), .ref (rw 1), .ref (rw 2), .ref (rw 3), .ref (rw 4), .ref (rw 5)])), ((rw 3), .inl (k 0, 60, .inl (v_329 3)))] := hD
            refine lv_aload_n hx hb dX5_readLayer_128 rfl (lv_at hl 2 rfl) ?_
            refine va_get (D := D) (ci := 4) (v := .ref (rw 0)) (C := RX5) (T := TX5) (N := 10) hx hb hts inlX5 hown hK hP 1 rfl rfl 0 (by decide) (hts _ mw_47) (fun _ h9 => h9) rfl dX5_readLayer_129 ?_
            refine va_get (D := D) (ci := 5) (v := .ref (rw 1)) (C := RX6) (T := TX6) (N := 16) hx hb hts inlX6 hown hK hP 3 rfl rfl 11 (by decide) (hts _ mw_247) (fun _ h9 => h9) rfl dX5_readLayer_132 ?_
            refine lv_iload_n hx hb dX5_readLayer_135 rfl (lv_at hl 3 rfl) ?_
            refine lv_iload_n hx hb dX5_readLayer_136 rfl (lv_at hl 4 rfl) ?_
            refine lv_iconst (v := 1) hx hb dX5_readLayer_137 (by decide) ?_
            refine lv_iadd hx hb dX5_readLayer_138 ?_
            refine lv_topi (fun z_330 ez_330 => ?_)
            have tz_330 : z_330.toInt = d.toInt + 1 := by rw [ez_330]; exact ti_addc (by decide) (by omega) (by omega)
            refine va_iast hx hb hK hP hD hS 0 0 rfl rfl (vp_in_o (by omega) (by omega)) dX5_readLayer_139 (fun H locs hP hD hS => ?_)
            have hP : va_P D vwCl [((rw 1), .inl (k 0, 10, .inl (upd (g 1) r.toNatClampNeg z_330))), ((rd 0), .inr (4, [.ref (rw 0), .int (v_316 1), .int (v_316 2), .int (v_316 3), .ref (rd 1), .int (v_316 5), .int (v_316 6), .int (v_316 7), .int (v_316 8), .int (v_316 9)])), ((rd 1), .inl (k 2, 900, .inl tf)), ((rw 0), .inr (5, [.int (y 0), .int (y 1), .int (y 2), .int (y 3), .int (y 4), .int (y 5), .int (y 6), .int (y 7), .int (y 8), .int (y 9), .int (y 10), .ref (rw 1), .ref (rw 2), .ref (rw 3), .ref (rw 4), .ref (rw 5)])), ((rw 3), .inl (k 0, 60, .inl (v_329 3)))] H := hP
            have hD : va_D A [((rw 1), .inl (k 0, 10, .inl (upd (g 1) r.toNatClampNeg z_330))), ((rd 0), .inr (4, [.ref (rw 0), .int (v_316 1), .int (v_316 2), .int (v_316 3), .ref (rd 1), .int (v_316 5), .int (v_316 6), .int (v_316 7), .int (v_316 8), .int (v_316 9)])), ((rd 1), .inl (k 2, 900, .inl tf)), ((rw 0), .inr (5, [.int (y 0), .int (y 1), .int (y 2), .int (y 3), .int (y 4), .int (y 5), .int (y 6), .int (y 7), .int (y 8), .int (y 9), .int (y 10), .ref (rw 1), .ref (rw 2), .ref (rw 3), .ref (rw 4), .ref (rw 5)])), ((rw 3), .inl (k 0, 60, .inl (v_329 3)))] := hD
            generalize ef_331 : (upd (g 1) r.toNatClampNeg z_330) = f_331 at hP hD
            have hf_331 : ∀ j : Nat, 0 ≤ (f_331 j).toInt ∧ (f_331 j).toInt ≤ 6 := by rw [← ef_331]; exact upd_rng w_hd ⟨by omega, by omega⟩
            exact W.vret hx hb hr (fun t ht hW => ⟨⟨((va_seli [0, (v_316 1), (v_316 2), (v_316 3), 0, (v_316 5), (v_316 6), (v_316 7), (v_316 8), (v_316 9)]), (va_selg [(fun _ => 0), f_331, (fun _ => 0), (v_329 3)])), rfl, ⟨(show 0 ≤ (v_316 3).toInt ∧ (v_316 3).toInt ≤ 900 from ⟨by omega, by omega⟩), (show 0 ≤ (v_316 5).toInt ∧ (v_316 5).toInt ≤ 900 from ⟨by omega, by omega⟩), (show 0 ≤ (v_316 6).toInt ∧ (v_316 6).toInt ≤ 900 from ⟨by omega, by omega⟩), (show 0 ≤ (v_316 7).toInt ∧ (v_316 7).toInt ≤ 900 from ⟨by omega, by omega⟩), (show (v_316 6).toInt ≤ (v_316 7).toInt from by omega), (show (v_316 7).toInt ≤ (v_316 5).toInt from by omega), (show (v_316 3).toInt = (rf 3).toInt from by omega), (show ∀ j : Nat, 0 ≤ (f_331 j).toInt ∧ (f_331 j).toInt ≤ 6 from hf_331)⟩, by rw [ht]; exact hP.sub [1, 2, 3, 0, 4] rfl, hD.sub [1, 2, 3, 0, 4] (by decide) rfl⟩, hS.F ht⟩) hS.2.2 dX5_readLayer_140
          · have c_326 : r_325.toInt ≠ 0 := ti_ne c_326
            have qc_326 : r_325 = 1 := ti_of (show r_325.toInt = 1 from by omega)
            refine lv_iload hx hb dX5_readLayer_106 (lv_at hl 0 rfl) ?_
            refine kS_i (As := [.int r_324]) (rest := []) ⟨hx, hb, hml, hown, hts⟩ (s_L_withSpark l D k r_324) (gS mw_263 mw_264 mw_254 mw_265) hd_yX1_withSpark rfl rfl ⟨Nat.le_of_ble_eq_true rfl, Nat.le_of_ble_eq_true rfl⟩ hK hN0 (hP.sub [] rfl) rfl hl.1 rfl (Nat.le_of_ble_eq_true rfl) dX5_readLayer_108 ⟨Nat.le_of_ble_eq_true rfl, Nat.le_of_ble_eq_true rfl⟩ (fun r_332 hr_332 => ?_)
            refine lv_istore (lv' := [(4, .int r_332), (3, .int 1), (0, .ref (rd 0)), (1, .int r), (2, .int d)]) hx hb dX5_readLayer_111 hl (by decide) rfl (fun ls hl => ?_)
            refine lv_aload_n hx hb dX5_readLayer_113 rfl (lv_at hl 2 rfl) ?_
            refine kV_uv (q0 := 0) (As := []) (rest := []) (wr := [((rw 0), .inr (5, [.int (y 0), .int (y 1), .int (y 2), .int (y 3), .int (y 4), .int (y 5), .int (y 6), .int (y 7), .int (y 8), .int (y 9), .int (y 10), .ref (rw 1), .ref (rw 2), .ref (rw 3), .ref (rw 4), .ref (rw 5)])), ((rw 1), .inl (k 0, 10, .inl (g 1))), ((rw 3), .inl (k 0, 60, .inl (g 3)))]) ⟨hx, hb, hml, hown, hts⟩ (s_R_advance l D k _ _ v_316 tf _ (show 0 ≤ (v_316 3).toInt ∧ (v_316 3).toInt ≤ 900 from ⟨by omega, by omega⟩) (show 0 ≤ (v_316 5).toInt ∧ (v_316 5).toInt ≤ 900 from ⟨by omega, by omega⟩) (show 0 ≤ (v_316 7).toInt ∧ (v_316 7).toInt ≤ 900 from ⟨by omega, by omega⟩) (show (v_316 7).toInt ≤ (v_316 5).toInt from by omega)) (gV mw_159 mw_160 mw_161 mw_15 mw_162) hd_yX5_advance rfl rfl ⟨Nat.le_of_ble_eq_true rfl, Nat.le_of_ble_eq_true rfl⟩ hK hN0 hP hD hS hA [3, 4] [0, 1, 2] rfl rfl (by decide) (by decide) (by decide) rfl rfl rfl rfl hl.1 rfl (Nat.le_of_ble_eq_true rfl) dX5_readLayer_114 ⟨Nat.le_of_ble_eq_true rfl, Nat.le_of_ble_eq_true rfl⟩ (fun u_334 H locs hw hP hD hS => ?_)
            obtain ⟨v_335, rfl⟩ : ∃ z, z = u_334 := ⟨_, rfl⟩
            obtain ⟨h_336, h_337, h_338, h_339, h_340, h_341, h_342⟩ := hw
            have h_336 : 0 ≤ (v_335 3).toInt ∧ (v_335 3).toInt ≤ 900 := h_336
            have h_337 : 0 ≤ (v_335 5).toInt ∧ (v_335 5).toInt ≤ 900 := h_337
            have h_338 : 0 ≤ (v_335 6).toInt ∧ (v_335 6).toInt ≤ 900 := h_338
            have h_339 : 0 ≤ (v_335 7).toInt ∧ (v_335 7).toInt ≤ 900 := h_339
            have h_340 : (v_335 6).toInt ≤ (v_335 7).toInt := h_340
            have h_341 : (v_335 7).toInt ≤ (v_335 5).toInt := h_341
            have h_342 : (v_335 3).toInt = (v_316 3).toInt := h_342
            have hP : va_P D vwCl [((rw 0), .inr (5, [.int (y 0), .int (y 1), .int (y 2), .int (y 3), .int (y 4), .int (y 5), .int (y 6), .int (y 7), .int (y 8), .int (y 9), .int (y 10), .ref (rw 1), .ref (rw 2), .ref (rw 3), .ref (rw 4), .ref (rw 5)])), ((rw 1), .inl (k 0, 10, .inl (g 1))), ((rw 3), .inl (k 0, 60, .inl (g 3))), ((rd 0), .inr (4, [.ref (rw 0), .int (v_335 1), .int (v_335 2), .int (v_335 3), .ref (rd 1), .int (v_335 5), .int (v_335 6), .int (v_335 7), .int (v_335 8), .int (v_335 9)])), ((rd 1), .inl (k 2, 900, .inl tf))] H := hP
            have hD : va_D A [((rw 0), .inr (5, [.int (y 0), .int (y 1), .int (y 2), .int (y 3), .int (y 4), .int (y 5), .int (y 6), .int (y 7), .int (y 8), .int (y 9), .int (y 10), .ref (rw 1), .ref (rw 2), .ref (rw 3), .ref (rw 4), .ref (rw 5)])), ((rw 1), .inl (k 0, 10, .inl (g 1))), ((rw 3), .inl (k 0, 60, .inl (g 3))), ((rd 0), .inr (4, [.ref (rw 0), .int (v_335 1), .int (v_335 2), .int (v_335 3), .ref (rd 1), .int (v_335 5), .int (v_335 6), .int (v_335 7), .int (v_335 8), .int (v_335 9)])), ((rd 1), .inl (k 2, 900, .inl tf))] := hD
            refine lv_aload_n hx hb dX5_readLayer_117 rfl (lv_at hl 2 rfl) ?_
            refine va_get (D := D) (ci := 4) (v := .ref (rw 0)) (C := RX5) (T := TX5) (N := 10) hx hb hts inlX5 hown hK hP 3 rfl rfl 0 (by decide) (hts _ mw_47) (fun _ h9 => h9) rfl dX5_readLayer_118 ?_
            refine lv_iload_n hx hb dX5_readLayer_121 rfl (lv_at hl 3 rfl) ?_
            refine lv_iload_n hx hb dX5_readLayer_122 rfl (lv_at hl 4 rfl) ?_
            refine lv_iload hx hb dX5_readLayer_123 (lv_at hl 0 rfl) ?_
            refine kV_uv (q0 := 0) (As := [.int r, .int d, .int r_332]) (rest := []) (wr := [((rw 1), .inl (k 0, 10, .inl (g 1))), ((rd 0), .inr (4, [.ref (rw 0), .int (v_335 1), .int (v_335 2), .int (v_335 3), .ref (rd 1), .int (v_335 5), .int (v_335 6), .int (v_335 7), .int (v_335 8), .int (v_335 9)])), ((rd 1), .inl (k 2, 900, .inl tf))]) ⟨hx, hb, hml, hown, hts⟩ (s_W_setLayer l D k rw y g r d r_332 _ (show 0 ≤ (y 0).toInt ∧ (y 0).toInt ≤ 10 from ⟨by omega, by omega⟩) (show 0 ≤ (y 2).toInt ∧ (y 2).toInt ≤ 6 from ⟨by omega, by omega⟩) (show 0 ≤ (y 6).toInt ∧ (y 6).toInt ≤ 1 from ⟨by omega, by omega⟩) (show 0 ≤ r.toInt ∧ r.toInt ≤ 9 from ⟨by omega, by omega⟩) (show 0 ≤ d.toInt ∧ d.toInt ≤ 5 from ⟨by omega, by omega⟩)) (gV mw_266 mw_267 mw_268 mw_19 mw_269) hd_yX6_setLayer rfl rfl ⟨Nat.le_of_ble_eq_true rfl, Nat.le_of_ble_eq_true rfl⟩ hK hN0 hP hD hS hA [0, 2] [1, 3, 4] rfl rfl (by decide) (by decide) (by decide) rfl rfl rfl rfl hl.1 rfl (Nat.le_of_ble_eq_true rfl) dX5_readLayer_125 ⟨Nat.le_of_ble_eq_true rfl, Nat.le_of_ble_eq_true rfl⟩ (fun u_344 H locs hw hP hD hS => ?_)
            obtain ⟨v_345, rfl⟩ : ∃ z, z = u_344 := ⟨_, rfl⟩
            have hP : va_P D vwCl [((rw 1), .inl (k 0, 10, .inl (g 1))), ((rd 0), .inr (4, [.ref (rw 0), .int (v_335 1), .int (v_335 2), .int (v_335 3), .ref (rd 1), .int (v_335 5), .int (v_335 6), .int (v_335 7), .int (v_335 8), .int (v_335 9)])), ((rd 1), .inl (k 2, 900, .inl tf)), ((rw 0), .inr (5, [.int (y 0), .int (y 1), .int (y 2), .int (y 3), .int (y 4), .int (y 5), .int (y 6), .int (y 7), .int (y 8), .int (y 9), .int (y 10), .ref (rw 1), .ref (rw 2), .ref (rw 3), .ref (rw 4), .ref (rw 5)])), ((rw 3), .inl (k 0, 60, .inl (v_345 3)))] H := hP
            have hD : va_D A [((rw 1), .inl (k 0, 10, .inl (g 1))), ((rd 0), .inr (4, [.ref (rw 0), .int (v_335 1), .int (v_335 2), .int (v_335 3), .ref (rd 1), .int (v_335 5), .int (v_335 6), .int (v_335 7), .int (v_335 8), .int (v_335 9)])), ((rd 1), .inl (k 2, 900, .inl tf)), ((rw 0), .inr (5, [.int (y 0), .int (y 1), .int (y 2), .int (y 3), .int (y 4), .int (y 5), .int (y 6), .int (y 7), .int (y 8), .int (y 9), .int (y 10), .ref (rw 1), .ref (rw 2), .ref (rw 3), .ref (rw 4), .ref (rw 5)])), ((rw 3), .inl (k 0, 60, .inl (v_345 3)))] := hD
            refine lv_aload_n hx hb dX5_readLayer_128 rfl (lv_at hl 2 rfl) ?_
            refine va_get (D := D) (ci := 4) (v := .ref (rw 0)) (C := RX5) (T := TX5) (N := 10) hx hb hts inlX5 hown hK hP 1 rfl rfl 0 (by decide) (hts _ mw_47) (fun _ h9 => h9) rfl dX5_readLayer_129 ?_
            refine va_get (D := D) (ci := 5) (v := .ref (rw 1)) (C := RX6) (T := TX6) (N := 16) hx hb hts inlX6 hown hK hP 3 rfl rfl 11 (by decide) (hts _ mw_247) (fun _ h9 => h9) rfl dX5_readLayer_132 ?_
            refine lv_iload_n hx hb dX5_readLayer_135 rfl (lv_at hl 3 rfl) ?_
            refine lv_iload_n hx hb dX5_readLayer_136 rfl (lv_at hl 4 rfl) ?_
            refine lv_iconst (v := 1) hx hb dX5_readLayer_137 (by decide) ?_
            refine lv_iadd hx hb dX5_readLayer_138 ?_
            refine lv_topi (fun z_346 ez_346 => ?_)
            have tz_346 : z_346.toInt = d.toInt + 1 := by rw [ez_346]; exact ti_addc (by decide) (by omega) (by omega)
            refine va_iast hx hb hK hP hD hS 0 0 rfl rfl (vp_in_o (by omega) (by omega)) dX5_readLayer_139 (fun H locs hP hD hS => ?_)
            have hP : va_P D vwCl [((rw 1), .inl (k 0, 10, .inl (upd (g 1) r.toNatClampNeg z_346))), ((rd 0), .inr (4, [.ref (rw 0), .int (v_335 1), .int (v_335 2), .int (v_335 3), .ref (rd 1), .int (v_335 5), .int (v_335 6), .int (v_335 7), .int (v_335 8), .int (v_335 9)])), ((rd 1), .inl (k 2, 900, .inl tf)), ((rw 0), .inr (5, [.int (y 0), .int (y 1), .int (y 2), .int (y 3), .int (y 4), .int (y 5), .int (y 6), .int (y 7), .int (y 8), .int (y 9), .int (y 10), .ref (rw 1), .ref (rw 2), .ref (rw 3), .ref (rw 4), .ref (rw 5)])), ((rw 3), .inl (k 0, 60, .inl (v_345 3)))] H := hP
            have hD : va_D A [((rw 1), .inl (k 0, 10, .inl (upd (g 1) r.toNatClampNeg z_346))), ((rd 0), .inr (4, [.ref (rw 0), .int (v_335 1), .int (v_335 2), .int (v_335 3), .ref (rd 1), .int (v_335 5), .int (v_335 6), .int (v_335 7), .int (v_335 8), .int (v_335 9)])), ((rd 1), .inl (k 2, 900, .inl tf)), ((rw 0), .inr (5, [.int (y 0), .int (y 1), .int (y 2), .int (y 3), .int (y 4), .int (y 5), .int (y 6), .int (y 7), .int (y 8), .int (y 9), .int (y 10), .ref (rw 1), .ref (rw 2), .ref (rw 3), .ref (rw 4), .ref (rw 5)])), ((rw 3), .inl (k 0, 60, .inl (v_345 3)))] := hD
            generalize ef_347 : (upd (g 1) r.toNatClampNeg z_346) = f_347 at hP hD
            have hf_347 : ∀ j : Nat, 0 ≤ (f_347 j).toInt ∧ (f_347 j).toInt ≤ 6 := by rw [← ef_347]; exact upd_rng w_hd ⟨by omega, by omega⟩
            exact W.vret hx hb hr (fun t ht hW => ⟨⟨((va_seli [0, (v_335 1), (v_335 2), (v_335 3), 0, (v_335 5), (v_335 6), (v_335 7), (v_335 8), (v_335 9)]), (va_selg [(fun _ => 0), f_347, (fun _ => 0), (v_345 3)])), rfl, ⟨(show 0 ≤ (v_335 3).toInt ∧ (v_335 3).toInt ≤ 900 from ⟨by omega, by omega⟩), (show 0 ≤ (v_335 5).toInt ∧ (v_335 5).toInt ≤ 900 from ⟨by omega, by omega⟩), (show 0 ≤ (v_335 6).toInt ∧ (v_335 6).toInt ≤ 900 from ⟨by omega, by omega⟩), (show 0 ≤ (v_335 7).toInt ∧ (v_335 7).toInt ≤ 900 from ⟨by omega, by omega⟩), (show (v_335 6).toInt ≤ (v_335 7).toInt from by omega), (show (v_335 7).toInt ≤ (v_335 5).toInt from by omega), (show (v_335 3).toInt = (rf 3).toInt from by omega), (show ∀ j : Nat, 0 ≤ (f_347 j).toInt ∧ (f_347 j).toInt ≤ 6 from hf_347)⟩, by rw [ht]; exact hP.sub [1, 2, 3, 0, 4] rfl, hD.sub [1, 2, 3, 0, 4] (by decide) rfl⟩, hS.F ht⟩) hS.2.2 dX5_readLayer_140
  · have c_1 : (y 2).toInt ≤ d.toInt := ti_nlt c_1
    refine lv_aload_n hx hb dX5_readLayer_11 rfl (lv_at hl 0 rfl) ?_
    refine lv_iconst (v := 4) hx hb dX5_readLayer_12 (by decide) ?_
    refine kV_uv (q0 := 0) (As := [.int 4]) (rest := []) (wr := [((rd 1), .inl (k 2, 900, .inl tf)), ((rw 0), .inr (5, [.int (y 0), .int (y 1), .int (y 2), .int (y 3), .int (y 4), .int (y 5), .int (y 6), .int (y 7), .int (y 8), .int (y 9), .int (y 10), .ref (rw 1), .ref (rw 2), .ref (rw 3), .ref (rw 4), .ref (rw 5)])), ((rw 1), .inl (k 0, 10, .inl (g 1))), ((rw 3), .inl (k 0, 60, .inl (g 3)))]) ⟨hx, hb, hml, hown, hts⟩ (s_R_fail l D k _ _ rf 4 _) (gV mw_171 mw_172 mw_173 mw_15 mw_174) hd_yX5_fail rfl rfl ⟨Nat.le_of_ble_eq_true rfl, Nat.le_of_ble_eq_true rfl⟩ hK hN0 hP hD hS hA [0] [1, 2, 3, 4] rfl rfl (by decide) (by decide) (by decide) rfl rfl rfl rfl hl.1 rfl (Nat.le_of_ble_eq_true rfl) dX5_readLayer_13 ⟨Nat.le_of_ble_eq_true rfl, Nat.le_of_ble_eq_true rfl⟩ (fun u_349 H locs hw hP hD hS => ?_)
    obtain ⟨v_350, v_351⟩ := u_349
    have hP : va_P D vwCl [((rd 1), .inl (k 2, 900, .inl tf)), ((rw 0), .inr (5, [.int (y 0), .int (y 1), .int (y 2), .int (y 3), .int (y 4), .int (y 5), .int (y 6), .int (y 7), .int (y 8), .int (y 9), .int (y 10), .ref (rw 1), .ref (rw 2), .ref (rw 3), .ref (rw 4), .ref (rw 5)])), ((rw 1), .inl (k 0, 10, .inl (g 1))), ((rw 3), .inl (k 0, 60, .inl (g 3))), ((rd 0), .inr (4, [.ref (rw 0), .int v_350, .int v_351, .int (rf 3), .ref (rd 1), .int (rf 5), .int (rf 6), .int (rf 7), .int 0, .int (rf 9)]))] H := hP
    have hD : va_D A [((rd 1), .inl (k 2, 900, .inl tf)), ((rw 0), .inr (5, [.int (y 0), .int (y 1), .int (y 2), .int (y 3), .int (y 4), .int (y 5), .int (y 6), .int (y 7), .int (y 8), .int (y 9), .int (y 10), .ref (rw 1), .ref (rw 2), .ref (rw 3), .ref (rw 4), .ref (rw 5)])), ((rw 1), .inl (k 0, 10, .inl (g 1))), ((rw 3), .inl (k 0, 60, .inl (g 3))), ((rd 0), .inr (4, [.ref (rw 0), .int v_350, .int v_351, .int (rf 3), .ref (rd 1), .int (rf 5), .int (rf 6), .int (rf 7), .int 0, .int (rf 9)]))] := hD
    exact W.vret hx hb hr (fun t ht hW => ⟨⟨((va_seli [0, v_350, v_351, (rf 3), 0, (rf 5), (rf 6), (rf 7), 0, (rf 9)]), (va_selg [(fun _ => 0), (g 1), (fun _ => 0), (g 3)])), rfl, ⟨(show 0 ≤ (rf 3).toInt ∧ (rf 3).toInt ≤ 900 from ⟨by omega, by omega⟩), (show 0 ≤ (rf 5).toInt ∧ (rf 5).toInt ≤ 900 from ⟨by omega, by omega⟩), (show 0 ≤ (rf 6).toInt ∧ (rf 6).toInt ≤ 900 from ⟨by omega, by omega⟩), (show 0 ≤ (rf 7).toInt ∧ (rf 7).toInt ≤ 900 from ⟨by omega, by omega⟩), (show (rf 6).toInt ≤ (rf 7).toInt from by omega), (show (rf 7).toInt ≤ (rf 5).toInt from by omega), (show (rf 3).toInt = (rf 3).toInt from by omega), (show ∀ j : Nat, 0 ≤ ((g 1) j).toInt ∧ ((g 1) j).toInt ≤ 6 from w_hd)⟩, by rw [ht]; exact hP.sub [4, 0, 1, 2, 3] rfl, hD.sub [4, 0, 1, 2, 3] (by decide) rfl⟩, hS.F ht⟩) hS.2.2 dX5_readLayer_16
set_option maxHeartbeats 4000000 in
set_option maxRecDepth 100000 in
theorem s_R_readRoof (l : Launch) (D : va_G) (k : Nat → ClassId) (ak : Nat → Nat) (av : Nat → Nat) (rd : Nat → Nat) (rw : Nat → Nat) (rf : Nat → Int32) (tf : Nat → Int32) (y : Nat → Int32) (g : Nat → Nat → Int32) (sz : Nat) (w_r3 : 0 ≤ (rf 3).toInt ∧ (rf 3).toInt ≤ 900) (w_r5 : 0 ≤ (rf 5).toInt ∧ (rf 5).toInt ≤ 900) (w_r6 : 0 ≤ (rf 6).toInt ∧ (rf 6).toInt ≤ 900) (w_r7 : 0 ≤ (rf 7).toInt ∧ (rf 7).toInt ≤ 900) (w_rl0 : (rf 6).toInt ≤ (rf 7).toInt) (w_rl1 : (rf 7).toInt ≤ (rf 5).toInt) (w_h0 : 0 ≤ (y 0).toInt ∧ (y 0).toInt ≤ 10) (w_h2 : 0 ≤ (y 2).toInt ∧ (y 2).toInt ≤ 6) (w_h6 : 0 ≤ (y 6).toInt ∧ (y 6).toInt ≤ 1) (w_hd : ∀ j : Nat, 0 ≤ ((g 1) j).toInt ∧ ((g 1) j).toInt ≤ 6) : Met l yX5_readRoof (Cond.code yX5_readRoof cX5_readRoof 3 none :: wsL_law) ({ frames := 6, cells := 0, slots := 0, locals := 360 } : Room) (va_Pc [.ref (rd 0)] (pus ak av D k sz [((rd 0), .inr (4, [.ref (rw 0), .int (rf 1), .int (rf 2), .int (rf 3), .ref (rd 1), .int (rf 5), .int (rf 6), .int (rf 7), .int (rf 8), .int (rf 9)])), ((rd 1), .inl (k 2, 900, .inl tf)), ((rw 0), .inr (5, [.int (y 0), .int (y 1), .int (y 2), .int (y 3), .int (y 4), .int (y 5), .int (y 6), .int (y 7), .int (y 8), .int (y 9), .int (y 10), .ref (rw 1), .ref (rw 2), .ref (rw 3), .ref (rw 4), .ref (rw 5)])), ((rw 1), .inl (k 0, 10, .inl (g 1))), ((rw 3), .inl (k 0, 60, .inl (g 3)))])) (va_Qv (fun uu : (Nat → Int32) × (Nat → Int32) × (Nat → Nat → Int32) => (0 ≤ (uu.1 3).toInt ∧ (uu.1 3).toInt ≤ 900) ∧ (0 ≤ (uu.1 5).toInt ∧ (uu.1 5).toInt ≤ 900) ∧ (0 ≤ (uu.1 6).toInt ∧ (uu.1 6).toInt ≤ 900) ∧ (0 ≤ (uu.1 7).toInt ∧ (uu.1 7).toInt ≤ 900) ∧ ((uu.1 6).toInt ≤ (uu.1 7).toInt) ∧ ((uu.1 7).toInt ≤ (uu.1 5).toInt) ∧ ((uu.1 3).toInt = (rf 3).toInt) ∧ (0 ≤ (uu.2.1 0).toInt ∧ (uu.2.1 0).toInt ≤ 10) ∧ (0 ≤ (uu.2.1 2).toInt ∧ (uu.2.1 2).toInt ≤ 6) ∧ (0 ≤ (uu.2.1 6).toInt ∧ (uu.2.1 6).toInt ≤ 1) ∧ (∀ j : Nat, 0 ≤ ((uu.2.2 1) j).toInt ∧ ((uu.2.2 1) j).toInt ≤ 6)) (qu D (va_A [((rd 0), .inr (4, [.ref (rw 0), .int (rf 1), .int (rf 2), .int (rf 3), .ref (rd 1), .int (rf 5), .int (rf 6), .int (rf 7), .int (rf 8), .int (rf 9)])), ((rd 1), .inl (k 2, 900, .inl tf)), ((rw 0), .inr (5, [.int (y 0), .int (y 1), .int (y 2), .int (y 3), .int (y 4), .int (y 5), .int (y 6), .int (y 7), .int (y 8), .int (y 9), .int (y 10), .ref (rw 1), .ref (rw 2), .ref (rw 3), .ref (rw 4), .ref (rw 5)])), ((rw 1), .inl (k 0, 10, .inl (g 1))), ((rw 3), .inl (k 0, 60, .inl (g 3)))] sz) (fun uu : (Nat → Int32) × (Nat → Int32) × (Nat → Nat → Int32) => [((rd 0), .inr (4, [.ref (rw 0), .int (uu.1 1), .int (uu.1 2), .int (uu.1 3), .ref (rd 1), .int (uu.1 5), .int (uu.1 6), .int (uu.1 7), .int (uu.1 8), .int (uu.1 9)])), ((rd 1), .inl (k 2, 900, .inl tf)), ((rw 0), .inr (5, [.int (uu.2.1 0), .int (uu.2.1 1), .int (uu.2.1 2), .int (uu.2.1 3), .int (uu.2.1 4), .int (uu.2.1 5), .int (uu.2.1 6), .int (uu.2.1 7), .int (uu.2.1 8), .int (uu.2.1 9), .int (uu.2.1 10), .ref (rw 1), .ref (rw 2), .ref (rw 3), .ref (rw 4), .ref (rw 5)])), ((rw 1), .inl (k 0, 10, .inl (uu.2.2 1))), ((rw 3), .inl (k 0, 60, .inl (uu.2.2 3)))])) (va_A [((rd 0), .inr (4, [.ref (rw 0), .int (rf 1), .int (rf 2), .int (rf 3), .ref (rd 1), .int (rf 5), .int (rf 6), .int (rf 7), .int (rf 8), .int (rf 9)])), ((rd 1), .inl (k 2, 900, .inl tf)), ((rw 0), .inr (5, [.int (y 0), .int (y 1), .int (y 2), .int (y 3), .int (y 4), .int (y 5), .int (y 6), .int (y 7), .int (y 8), .int (y 9), .int (y 10), .ref (rw 1), .ref (rw 2), .ref (rw 3), .ref (rw 4), .ref (rw 5)])), ((rw 1), .inl (k 0, 10, .inl (g 1))), ((rw 3), .inl (k 0, 60, .inl (g 3)))] sz)) 0 0 (va_A [((rd 0), .inr (4, [.ref (rw 0), .int (rf 1), .int (rf 2), .int (rf 3), .ref (rd 1), .int (rf 5), .int (rf 6), .int (rf 7), .int (rf 8), .int (rf 9)])), ((rd 1), .inl (k 2, 900, .inl tf)), ((rw 0), .inr (5, [.int (y 0), .int (y 1), .int (y 2), .int (y 3), .int (y 4), .int (y 5), .int (y 6), .int (y 7), .int (y 8), .int (y 9), .int (y 10), .ref (rw 1), .ref (rw 2), .ref (rw 3), .ref (rw 4), .ref (rw 5)])), ((rw 1), .inl (k 0, 10, .inl (g 1))), ((rw 3), .inl (k 0, 60, .inl (g 3)))] sz) := by
  refine Met.ofW (cc := cX5_readRoof) (maxL := 3) (ret := none) (by decide) rfl ?_
  intro p e s m args below meth c s₁ B hml hv
  obtain ⟨rfl, hsz, hP, hK, hD0, hN0, hW0⟩ := hv
  have hx := B.exec
  have hb := B.bytes
  have hr := B.returns
  have hts : ∀ w ∈ wsL_law, w.before _ s = true := fun w h => atoms_spec (ws := Cond.code yX5_readRoof cX5_readRoof 3 none :: wsL_law) B.pre w (List.mem_cons_of_mem _ h)
  have hown : s.vm.findClass RX5 = some m.cls := findClass_of_methodNamed B.named
  have hlocks := B.notSynchronized
  subst hsz
  have hD := hD0.self (sz := s.heap.size)
  generalize hAe : va_A [((rd 0), .inr (4, [.ref (rw 0), .int (rf 1), .int (rf 2), .int (rf 3), .ref (rd 1), .int (rf 5), .int (rf 6), .int (rf 7), .int (rf 8), .int (rf 9)])), ((rd 1), .inl (k 2, 900, .inl tf)), ((rw 0), .inr (5, [.int (y 0), .int (y 1), .int (y 2), .int (y 3), .int (y 4), .int (y 5), .int (y 6), .int (y 7), .int (y 8), .int (y 9), .int (y 10), .ref (rw 1), .ref (rw 2), .ref (rw 3), .ref (rw 4), .ref (rw 5)])), ((rw 1), .inl (k 0, 10, .inl (g 1))), ((rw 3), .inl (k 0, 60, .inl (g 3)))] s.heap.size = A at hD hW0 ⊢
  have hA : ∀ q : Nat, s.heap.size ≤ q → A q := fun q h => by rw [← hAe]; exact Or.inr h
  have hS : va_S A s.heap s.heap [] := va_S.rf
  have hP : va_P D vwCl [((rd 0), .inr (4, [.ref (rw 0), .int (rf 1), .int (rf 2), .int (rf 3), .ref (rd 1), .int (rf 5), .int (rf 6), .int (rf 7), .int (rf 8), .int (rf 9)])), ((rd 1), .inl (k 2, 900, .inl tf)), ((rw 0), .inr (5, [.int (y 0), .int (y 1), .int (y 2), .int (y 3), .int (y 4), .int (y 5), .int (y 6), .int (y 7), .int (y 8), .int (y 9), .int (y 10), .ref (rw 1), .ref (rw 2), .ref (rw 3), .ref (rw 4), .ref (rw 5)])), ((rw 1), .inl (k 0, 10, .inl (g 1))), ((rw 3), .inl (k 0, 60, .inl (g 3)))] s.heap := hP
  have hl := lv_entry ([.ref (rd 0)]) (n := 3) (Nat.le_of_ble_eq_true rfl)
  rw [lg_entry_eq]
  generalize (lg_sl ([.ref (rd 0)]) ++ List.replicate (3 - (lg_sl ([.ref (rd 0)])).length) Slot.unset).toArray = ls at hl ⊢
  have hl : lv_has ls 3 [(0, .ref (rd 0))] := hl
  refine lv_aload_n hx hb dX5_readRoof_0 rfl (lv_at hl 0 rfl) ?_
  refine va_get (D := D) (ci := 4) (v := .ref (rw 0)) (C := RX5) (T := TX5) (N := 10) hx hb hts inlX5 hown hK hP 0 rfl rfl 0 (by decide) (hts _ mw_47) (fun _ h9 => h9) rfl dX5_readRoof_1 ?_
  refine va_get (D := D) (ci := 5) (v := .int (y 0)) (C := RX6) (T := TX6) (N := 16) hx hb hts inlX6 hown hK hP 2 rfl rfl 0 (by decide) (hts _ mw_180) (fun _ h9 => h9) rfl dX5_readRoof_4 ?_
  refine lv_bipush (v := 10) hx hb dX5_readRoof_7 (by decide) ?_
  refine lv_icmp_lt (tgt := 18) hx hb dX5_readRoof_9 (by decide) (fun c_1 => ?_) (fun c_1 => ?_)
  · have c_1 : (y 0).toInt < 10 := ti_lt c_1
    refine lv_aload_n hx hb dX5_readRoof_18 rfl (lv_at hl 0 rfl) ?_
    refine va_get (D := D) (ci := 4) (v := .ref (rw 0)) (C := RX5) (T := TX5) (N := 10) hx hb hts inlX5 hown hK hP 0 rfl rfl 0 (by decide) (hts _ mw_47) (fun _ h9 => h9) rfl dX5_readRoof_19 ?_
    refine va_get (D := D) (ci := 5) (v := .int (y 0)) (C := RX6) (T := TX6) (N := 16) hx hb hts inlX6 hown hK hP 2 rfl rfl 0 (by decide) (hts _ mw_180) (fun _ h9 => h9) rfl dX5_readRoof_22 ?_
    refine lv_istore_n (lv' := [(1, .int (y 0)), (0, .ref (rd 0))]) hx hb dX5_readRoof_25 rfl hl (by decide) rfl (fun ls hl => ?_)
    refine lv_aload_n hx hb dX5_readRoof_26 rfl (lv_at hl 1 rfl) ?_
    refine va_get (D := D) (ci := 4) (v := .ref (rw 0)) (C := RX5) (T := TX5) (N := 10) hx hb hts inlX5 hown hK hP 0 rfl rfl 0 (by decide) (hts _ mw_47) (fun _ h9 => h9) rfl dX5_readRoof_27 ?_
    refine lv_dup hx hb dX5_readRoof_30 rfl ?_
    refine va_get (D := D) (ci := 5) (v := .int (y 0)) (C := RX6) (T := TX6) (N := 16) hx hb hts inlX6 hown hK hP 2 rfl rfl 0 (by decide) (hts _ mw_180) (fun _ h9 => h9) rfl dX5_readRoof_31 ?_
    refine lv_iconst (v := 1) hx hb dX5_readRoof_34 (by decide) ?_
    refine lv_iadd hx hb dX5_readRoof_35 ?_
    refine lv_topi (fun z_2 ez_2 => ?_)
    have tz_2 : z_2.toInt = (y 0).toInt + 1 := by rw [ez_2]; exact ti_addc (by decide) (by omega) (by omega)
    refine va_put (D := D) (ci := 5) (v := .int z_2) (ty := .int) (C := RX6) (T := TX6) (N := 16) hx hb hts inlX6 tyX6 tyX6_ok nmX6 hown hK hP hD hS 2 rfl rfl 0 (by decide) (hts _ mw_180) (fun _ h9 => h9) rfl (by decide +kernel) rfl rfl (Nat.le_of_ble_eq_true rfl) dX5_readRoof_36 (fun H locs hP hD hS => ?_)
    have hP : va_P D vwCl [((rd 0), .inr (4, [.ref (rw 0), .int (rf 1), .int (rf 2), .int (rf 3), .ref (rd 1), .int (rf 5), .int (rf 6), .int (rf 7), .int (rf 8), .int (rf 9)])), ((rd 1), .inl (k 2, 900, .inl tf)), ((rw 0), .inr (5, [.int z_2, .int (y 1), .int (y 2), .int (y 3), .int (y 4), .int (y 5), .int (y 6), .int (y 7), .int (y 8), .int (y 9), .int (y 10), .ref (rw 1), .ref (rw 2), .ref (rw 3), .ref (rw 4), .ref (rw 5)])), ((rw 1), .inl (k 0, 10, .inl (g 1))), ((rw 3), .inl (k 0, 60, .inl (g 3)))] H := hP
    have hD : va_D A [((rd 0), .inr (4, [.ref (rw 0), .int (rf 1), .int (rf 2), .int (rf 3), .ref (rd 1), .int (rf 5), .int (rf 6), .int (rf 7), .int (rf 8), .int (rf 9)])), ((rd 1), .inl (k 2, 900, .inl tf)), ((rw 0), .inr (5, [.int z_2, .int (y 1), .int (y 2), .int (y 3), .int (y 4), .int (y 5), .int (y 6), .int (y 7), .int (y 8), .int (y 9), .int (y 10), .ref (rw 1), .ref (rw 2), .ref (rw 3), .ref (rw 4), .ref (rw 5)])), ((rw 1), .inl (k 0, 10, .inl (g 1))), ((rw 3), .inl (k 0, 60, .inl (g 3)))] := hD
    refine lv_aload_n hx hb dX5_readRoof_39 rfl (lv_at hl 1 rfl) ?_
    refine kV_uv (q0 := 0) (As := []) (rest := []) (wr := [((rw 0), .inr (5, [.int z_2, .int (y 1), .int (y 2), .int (y 3), .int (y 4), .int (y 5), .int (y 6), .int (y 7), .int (y 8), .int (y 9), .int (y 10), .ref (rw 1), .ref (rw 2), .ref (rw 3), .ref (rw 4), .ref (rw 5)])), ((rw 1), .inl (k 0, 10, .inl (g 1))), ((rw 3), .inl (k 0, 60, .inl (g 3)))]) ⟨hx, hb, hml, hown, hts⟩ (s_R_advance l D k _ _ rf tf _ (show 0 ≤ (rf 3).toInt ∧ (rf 3).toInt ≤ 900 from ⟨by omega, by omega⟩) (show 0 ≤ (rf 5).toInt ∧ (rf 5).toInt ≤ 900 from ⟨by omega, by omega⟩) (show 0 ≤ (rf 7).toInt ∧ (rf 7).toInt ≤ 900 from ⟨by omega, by omega⟩) (show (rf 7).toInt ≤ (rf 5).toInt from by omega)) (gV mw_159 mw_160 mw_161 mw_15 mw_162) hd_yX5_advance rfl rfl ⟨Nat.le_of_ble_eq_true rfl, Nat.le_of_ble_eq_true rfl⟩ hK hN0 hP hD hS hA [0, 1] [2, 3, 4] rfl rfl (by decide) (by decide) (by decide) rfl rfl rfl rfl hl.1 rfl (Nat.le_of_ble_eq_true rfl) dX5_readRoof_40 ⟨Nat.le_of_ble_eq_true rfl, Nat.le_of_ble_eq_true rfl⟩ (fun u_4 H locs hw hP hD hS => ?_)
    obtain ⟨v_5, rfl⟩ : ∃ z, z = u_4 := ⟨_, rfl⟩
    obtain ⟨h_6, h_7, h_8, h_9, h_10, h_11, h_12⟩ := hw
    have h_6 : 0 ≤ (v_5 3).toInt ∧ (v_5 3).toInt ≤ 900 := h_6
    have h_7 : 0 ≤ (v_5 5).toInt ∧ (v_5 5).toInt ≤ 900 := h_7
    have h_8 : 0 ≤ (v_5 6).toInt ∧ (v_5 6).toInt ≤ 900 := h_8
    have h_9 : 0 ≤ (v_5 7).toInt ∧ (v_5 7).toInt ≤ 900 := h_9
    have h_10 : (v_5 6).toInt ≤ (v_5 7).toInt := h_10
    have h_11 : (v_5 7).toInt ≤ (v_5 5).toInt := h_11
    have h_12 : (v_5 3).toInt = (rf 3).toInt := h_12
    have hP : va_P D vwCl [((rw 0), .inr (5, [.int z_2, .int (y 1), .int (y 2), .int (y 3), .int (y 4), .int (y 5), .int (y 6), .int (y 7), .int (y 8), .int (y 9), .int (y 10), .ref (rw 1), .ref (rw 2), .ref (rw 3), .ref (rw 4), .ref (rw 5)])), ((rw 1), .inl (k 0, 10, .inl (g 1))), ((rw 3), .inl (k 0, 60, .inl (g 3))), ((rd 0), .inr (4, [.ref (rw 0), .int (v_5 1), .int (v_5 2), .int (v_5 3), .ref (rd 1), .int (v_5 5), .int (v_5 6), .int (v_5 7), .int (v_5 8), .int (v_5 9)])), ((rd 1), .inl (k 2, 900, .inl tf))] H := hP
    have hD : va_D A [((rw 0), .inr (5, [.int z_2, .int (y 1), .int (y 2), .int (y 3), .int (y 4), .int (y 5), .int (y 6), .int (y 7), .int (y 8), .int (y 9), .int (y 10), .ref (rw 1), .ref (rw 2), .ref (rw 3), .ref (rw 4), .ref (rw 5)])), ((rw 1), .inl (k 0, 10, .inl (g 1))), ((rw 3), .inl (k 0, 60, .inl (g 3))), ((rd 0), .inr (4, [.ref (rw 0), .int (v_5 1), .int (v_5 2), .int (v_5 3), .ref (rd 1), .int (v_5 5), .int (v_5 6), .int (v_5 7), .int (v_5 8), .int (v_5 9)])), ((rd 1), .inl (k 2, 900, .inl tf))] := hD
    refine lv_aload_n hx hb dX5_readRoof_43 rfl (lv_at hl 1 rfl) ?_
    refine va_ldcS (own := RX5) (index := 106) (tx := "slate") (q := ak 1) hx hb hown (hW0.2.2.2 1 (by decide)) dX5_readRoof_44 ?_
    refine kV_is (q0 := 0) (As := [.ref (ak 1)]) (rest := []) ⟨hx, hb, hml, hown, hts⟩ (s_R_isWord l D k ak av _ _ v_5 tf 1 (show 0 ≤ (v_5 3).toInt ∧ (v_5 3).toInt ≤ 900 from ⟨by omega, by omega⟩) (show 0 ≤ (v_5 5).toInt ∧ (v_5 5).toInt ≤ 900 from ⟨by omega, by omega⟩) (show 0 ≤ (v_5 6).toInt ∧ (v_5 6).toInt ≤ 900 from ⟨by omega, by omega⟩) (show 0 ≤ (v_5 7).toInt ∧ (v_5 7).toInt ≤ 900 from ⟨by omega, by omega⟩) (show (v_5 6).toInt ≤ (v_5 7).toInt from by omega) (show (v_5 7).toInt ≤ (v_5 5).toInt from by omega) (by omega)) (gV mw_185 mw_186 mw_187 mw_15 mw_188) hd_yX5_isWord rfl rfl ⟨Nat.le_of_ble_eq_true rfl, Nat.le_of_ble_eq_true rfl⟩ hK hN0 hW0 hS (hP.sub [3, 4] rfl) rfl rfl rfl rfl hl.1 rfl (Nat.le_of_ble_eq_true rfl) dX5_readRoof_46 ⟨Nat.le_of_ble_eq_true rfl, Nat.le_of_ble_eq_true rfl⟩ (fun r_13 hr_13 => ?_)
    have hr_13 : 0 ≤ r_13.toInt ∧ r_13.toInt ≤ 1 := hr_13
    refine lv_if_eq (tgt := 72) hx hb dX5_readRoof_49 (by decide) (fun c_14 => ?_) (fun c_14 => ?_)
    · have c_14 : r_13.toInt = 0 := ti_eq c_14
      have qc_14 : r_13 = 0 := ti_of (show r_13.toInt = 0 from by omega)
      refine lv_iconst (v := 0) hx hb dX5_readRoof_72 (by decide) ?_
      refine lv_istore_n (lv' := [(2, .int 0), (1, .int (y 0)), (0, .ref (rd 0))]) hx hb dX5_readRoof_73 rfl hl (by decide) rfl (fun ls hl => ?_)
      refine W_loop (σ := Int32 × (Nat → Int32) × (Nat → Int32) × (Nat → Int32)) (fun xx H locs ls => (0 ≤ xx.1.toInt ∧ xx.1.toInt ≤ 7) ∧ (∀ j : Nat, 0 ≤ (xx.2.1 j).toInt ∧ (xx.2.1 j).toInt ≤ 6) ∧ (0 ≤ (xx.2.2.2 3).toInt ∧ (xx.2.2.2 3).toInt ≤ 900) ∧ (0 ≤ (xx.2.2.2 5).toInt ∧ (xx.2.2.2 5).toInt ≤ 900) ∧ (0 ≤ (xx.2.2.2 6).toInt ∧ (xx.2.2.2 6).toInt ≤ 900) ∧ (0 ≤ (xx.2.2.2 7).toInt ∧ (xx.2.2.2 7).toInt ≤ 900) ∧ ((xx.2.2.2 6).toInt ≤ (xx.2.2.2 7).toInt) ∧ ((xx.2.2.2 7).toInt ≤ (xx.2.2.2 5).toInt) ∧ ((xx.2.2.2 3).toInt = (rf 3).toInt) ∧ va_P D vwCl [((rw 0), .inr (5, [.int z_2, .int (y 1), .int (y 2), .int (y 3), .int (y 4), .int (y 5), .int (y 6), .int (y 7), .int (y 8), .int (y 9), .int (y 10), .ref (rw 1), .ref (rw 2), .ref (rw 3), .ref (rw 4), .ref (rw 5)])), ((rw 1), .inl (k 0, 10, .inl xx.2.1)), ((rw 3), .inl (k 0, 60, .inl xx.2.2.1)), ((rd 0), .inr (4, [.ref (rw 0), .int (xx.2.2.2 1), .int (xx.2.2.2 2), .int (xx.2.2.2 3), .ref (rd 1), .int (xx.2.2.2 5), .int (xx.2.2.2 6), .int (xx.2.2.2 7), .int (xx.2.2.2 8), .int (xx.2.2.2 9)])), ((rd 1), .inl (k 2, 900, .inl tf))] H ∧ va_D A [((rw 0), .inr (5, [.int z_2, .int (y 1), .int (y 2), .int (y 3), .int (y 4), .int (y 5), .int (y 6), .int (y 7), .int (y 8), .int (y 9), .int (y 10), .ref (rw 1), .ref (rw 2), .ref (rw 3), .ref (rw 4), .ref (rw 5)])), ((rw 1), .inl (k 0, 10, .inl xx.2.1)), ((rw 3), .inl (k 0, 60, .inl xx.2.2.1)), ((rd 0), .inr (4, [.ref (rw 0), .int (xx.2.2.2 1), .int (xx.2.2.2 2), .int (xx.2.2.2 3), .ref (rd 1), .int (xx.2.2.2 5), .int (xx.2.2.2 6), .int (xx.2.2.2 7), .int (xx.2.2.2 8), .int (xx.2.2.2 9)])), ((rd 1), .inl (k 2, 900, .inl tf))] ∧ va_S A s.heap H locs ∧ lv_has ls 3 [(2, .int xx.1), (1, .int (y 0)), (0, .ref (rd 0))]) (fun xx => (7 - xx.1.toInt).toNat) ?_ (0, (g 1), (g 3), v_5) _ _ ls ⟨(show 0 ≤ (0 : Int32).toInt ∧ (0 : Int32).toInt ≤ 7 from ⟨by decide, by decide⟩), w_hd, (show 0 ≤ (v_5 3).toInt ∧ (v_5 3).toInt ≤ 900 from ⟨by omega, by omega⟩), (show 0 ≤ (v_5 5).toInt ∧ (v_5 5).toInt ≤ 900 from ⟨by omega, by omega⟩), (show 0 ≤ (v_5 6).toInt ∧ (v_5 6).toInt ≤ 900 from ⟨by omega, by omega⟩), (show 0 ≤ (v_5 7).toInt ∧ (v_5 7).toInt ≤ 900 from ⟨by omega, by omega⟩), (show (v_5 6).toInt ≤ (v_5 7).toInt from by omega), (show (v_5 7).toInt ≤ (v_5 5).toInt from by omega), (show (v_5 3).toInt = (rf 3).toInt from by omega), hP.sub [0, 1, 2, 3, 4] rfl, hD.sub [0, 1, 2, 3, 4] (by decide) rfl, hS, lv_sub hl [0, 1, 2] rfl⟩
      intro xx H locs ls hI ih74
      obtain ⟨i_15, f_16, f_17, o_18⟩ := xx
      obtain ⟨h_19, h_20, h_21, h_22, h_23, h_24, h_25, h_26, h_27, hP, hD, hS, hl⟩ := hI
      have h_19 : 0 ≤ i_15.toInt ∧ i_15.toInt ≤ 7 := h_19
      have h_20 : ∀ j : Nat, 0 ≤ (f_16 j).toInt ∧ (f_16 j).toInt ≤ 6 := h_20
      have h_21 : 0 ≤ (o_18 3).toInt ∧ (o_18 3).toInt ≤ 900 := h_21
      have h_22 : 0 ≤ (o_18 5).toInt ∧ (o_18 5).toInt ≤ 900 := h_22
      have h_23 : 0 ≤ (o_18 6).toInt ∧ (o_18 6).toInt ≤ 900 := h_23
      have h_24 : 0 ≤ (o_18 7).toInt ∧ (o_18 7).toInt ≤ 900 := h_24
      have h_25 : (o_18 6).toInt ≤ (o_18 7).toInt := h_25
      have h_26 : (o_18 7).toInt ≤ (o_18 5).toInt := h_26
      have h_27 : (o_18 3).toInt = (rf 3).toInt := h_27
      obtain ⟨h_19a, h_19b⟩ := h_19
      have hP : va_P D vwCl [((rw 0), .inr (5, [.int z_2, .int (y 1), .int (y 2), .int (y 3), .int (y 4), .int (y 5), .int (y 6), .int (y 7), .int (y 8), .int (y 9), .int (y 10), .ref (rw 1), .ref (rw 2), .ref (rw 3), .ref (rw 4), .ref (rw 5)])), ((rw 1), .inl (k 0, 10, .inl f_16)), ((rw 3), .inl (k 0, 60, .inl f_17)), ((rd 0), .inr (4, [.ref (rw 0), .int (o_18 1), .int (o_18 2), .int (o_18 3), .ref (rd 1), .int (o_18 5), .int (o_18 6), .int (o_18 7), .int (o_18 8), .int (o_18 9)])), ((rd 1), .inl (k 2, 900, .inl tf))] H := hP
      have hD : va_D A [((rw 0), .inr (5, [.int z_2, .int (y 1), .int (y 2), .int (y 3), .int (y 4), .int (y 5), .int (y 6), .int (y 7), .int (y 8), .int (y 9), .int (y 10), .ref (rw 1), .ref (rw 2), .ref (rw 3), .ref (rw 4), .ref (rw 5)])), ((rw 1), .inl (k 0, 10, .inl f_16)), ((rw 3), .inl (k 0, 60, .inl f_17)), ((rd 0), .inr (4, [.ref (rw 0), .int (o_18 1), .int (o_18 2), .int (o_18 3), .ref (rd 1), .int (o_18 5), .int (o_18 6), .int (o_18 7), .int (o_18 8), .int (o_18 9)])), ((rd 1), .inl (k 2, 900, .inl tf))] := hD
      have hl : lv_has ls 3 [(2, .int i_15), (1, .int (y 0)), (0, .ref (rd 0))] := hl
      refine lv_iload_n hx hb dX5_readRoof_74 rfl (lv_at hl 0 rfl) ?_
      refine lv_bipush (v := 6) hx hb dX5_readRoof_75 (by decide) ?_
      refine lv_icmp_gt (tgt := 110) hx hb dX5_readRoof_77 (by decide) (fun c_28 => ?_) (fun c_28 => ?_)
      · have c_28 : 6 < i_15.toInt := ti_lt c_28
        have qc_28 : i_15 = 7 := ti_of (show i_15.toInt = 7 from by omega)
        exact W.vret hx hb hr (fun t ht hW => ⟨⟨((va_seli [0, (o_18 1), (o_18 2), (o_18 3), 0, (o_18 5), (o_18 6), (o_18 7), (o_18 8), (o_18 9)]), (va_seli [z_2, (y 1), (y 2), (y 3), (y 4), (y 5), (y 6), (y 7), (y 8), (y 9), (y 10)]), (va_selg [(fun _ => 0), f_16, (fun _ => 0), f_17])), rfl, ⟨(show 0 ≤ (o_18 3).toInt ∧ (o_18 3).toInt ≤ 900 from ⟨by omega, by omega⟩), (show 0 ≤ (o_18 5).toInt ∧ (o_18 5).toInt ≤ 900 from ⟨by omega, by omega⟩), (show 0 ≤ (o_18 6).toInt ∧ (o_18 6).toInt ≤ 900 from ⟨by omega, by omega⟩), (show 0 ≤ (o_18 7).toInt ∧ (o_18 7).toInt ≤ 900 from ⟨by omega, by omega⟩), (show (o_18 6).toInt ≤ (o_18 7).toInt from by omega), (show (o_18 7).toInt ≤ (o_18 5).toInt from by omega), (show (o_18 3).toInt = (rf 3).toInt from by omega), (show 0 ≤ z_2.toInt ∧ z_2.toInt ≤ 10 from ⟨by omega, by omega⟩), (show 0 ≤ (y 2).toInt ∧ (y 2).toInt ≤ 6 from ⟨by omega, by omega⟩), (show 0 ≤ (y 6).toInt ∧ (y 6).toInt ≤ 1 from ⟨by omega, by omega⟩), (show ∀ j : Nat, 0 ≤ (f_16 j).toInt ∧ (f_16 j).toInt ≤ 6 from h_20)⟩, by rw [ht]; exact hP.sub [3, 4, 0, 1, 2] rfl, hD.sub [3, 4, 0, 1, 2] (by decide) rfl⟩, hS.F ht⟩) hS.2.2 dX5_readRoof_110
      · have c_28 : i_15.toInt ≤ 6 := ti_nlt c_28
        refine lv_aload_n hx hb dX5_readRoof_80 rfl (lv_at hl 2 rfl) ?_
        refine va_ldcS (own := RX5) (index := 84) (tx := "reed") (q := ak 2) hx hb hown (hW0.2.2.2 2 (by decide)) dX5_readRoof_81 ?_
        refine kV_is (q0 := 0) (As := [.ref (ak 2)]) (rest := []) ⟨hx, hb, hml, hown, hts⟩ (s_R_isWord l D k ak av _ _ o_18 tf 2 (show 0 ≤ (o_18 3).toInt ∧ (o_18 3).toInt ≤ 900 from ⟨by omega, by omega⟩) (show 0 ≤ (o_18 5).toInt ∧ (o_18 5).toInt ≤ 900 from ⟨by omega, by omega⟩) (show 0 ≤ (o_18 6).toInt ∧ (o_18 6).toInt ≤ 900 from ⟨by omega, by omega⟩) (show 0 ≤ (o_18 7).toInt ∧ (o_18 7).toInt ≤ 900 from ⟨by omega, by omega⟩) (show (o_18 6).toInt ≤ (o_18 7).toInt from by omega) (show (o_18 7).toInt ≤ (o_18 5).toInt from by omega) (by omega)) (gV mw_185 mw_186 mw_187 mw_15 mw_188) hd_yX5_isWord rfl rfl ⟨Nat.le_of_ble_eq_true rfl, Nat.le_of_ble_eq_true rfl⟩ hK hN0 hW0 hS (hP.sub [3, 4] rfl) rfl rfl rfl rfl hl.1 rfl (Nat.le_of_ble_eq_true rfl) dX5_readRoof_83 ⟨Nat.le_of_ble_eq_true rfl, Nat.le_of_ble_eq_true rfl⟩ (fun r_29 hr_29 => ?_)
        have hr_29 : 0 ≤ r_29.toInt ∧ r_29.toInt ≤ 1 := hr_29
        refine lv_if_ne (tgt := 98) hx hb dX5_readRoof_86 (by decide) (fun c_30 => ?_) (fun c_30 => ?_)
        · have c_30 : r_29.toInt ≠ 0 := ti_ne c_30
          have qc_30 : r_29 = 1 := ti_of (show r_29.toInt = 1 from by omega)
          refine lv_aload_n hx hb dX5_readRoof_98 rfl (lv_at hl 2 rfl) ?_
          refine lv_iload_n hx hb dX5_readRoof_99 rfl (lv_at hl 1 rfl) ?_
          refine lv_iload_n hx hb dX5_readRoof_100 rfl (lv_at hl 0 rfl) ?_
          refine kV_uvs (q0 := 0) (As := [.int (y 0), .int i_15]) (rest := []) (wr := []) ⟨hx, hb, hml, hown, hts⟩ (s_R_readLayer l D k ak av _ _ o_18 tf (va_seli [z_2, (y 1), (y 2), (y 3), (y 4), (y 5), (y 6), (y 7), (y 8), (y 9), (y 10)]) (va_selg [(fun _ => 0), f_16, (fun _ => 0), f_17]) (y 0) i_15 _ (show 0 ≤ (o_18 3).toInt ∧ (o_18 3).toInt ≤ 900 from ⟨by omega, by omega⟩) (show 0 ≤ (o_18 5).toInt ∧ (o_18 5).toInt ≤ 900 from ⟨by omega, by omega⟩) (show 0 ≤ (o_18 6).toInt ∧ (o_18 6).toInt ≤ 900 from ⟨by omega, by omega⟩) (show 0 ≤ (o_18 7).toInt ∧ (o_18 7).toInt ≤ 900 from ⟨by omega, by omega⟩) (show (o_18 6).toInt ≤ (o_18 7).toInt from by omega) (show (o_18 7).toInt ≤ (o_18 5).toInt from by omega) (show 0 ≤ z_2.toInt ∧ z_2.toInt ≤ 10 from ⟨by omega, by omega⟩) (show 0 ≤ (y 2).toInt ∧ (y 2).toInt ≤ 6 from ⟨by omega, by omega⟩) (show 0 ≤ (y 6).toInt ∧ (y 6).toInt ≤ 1 from ⟨by omega, by omega⟩) (show ∀ j : Nat, 0 ≤ (f_16 j).toInt ∧ (f_16 j).toInt ≤ 6 from h_20) (show 0 ≤ (y 0).toInt ∧ (y 0).toInt ≤ 9 from ⟨by omega, by omega⟩) (show 0 ≤ i_15.toInt ∧ i_15.toInt ≤ 6 from ⟨by omega, by omega⟩)) (gV mw_243 mw_244 mw_245 mw_15 mw_246) hd_yX5_readLayer rfl rfl ⟨Nat.le_of_ble_eq_true rfl, Nat.le_of_ble_eq_true rfl⟩ hK hN0 hW0 hS hP hD hS hA [3, 4, 0, 1, 2] [] rfl rfl (by decide) (by decide) (by decide) rfl rfl rfl rfl hl.1 rfl (Nat.le_of_ble_eq_true rfl) dX5_readRoof_101 ⟨Nat.le_of_ble_eq_true rfl, Nat.le_of_ble_eq_true rfl⟩ (fun u_32 H locs hw hP hD hS => ?_)
          obtain ⟨v_33, v_34⟩ := u_32
          obtain ⟨h_35, h_36, h_37, h_38, h_39, h_40, h_41, h_42⟩ := hw
          have h_35 : 0 ≤ (v_33 3).toInt ∧ (v_33 3).toInt ≤ 900 := h_35
          have h_36 : 0 ≤ (v_33 5).toInt ∧ (v_33 5).toInt ≤ 900 := h_36
          have h_37 : 0 ≤ (v_33 6).toInt ∧ (v_33 6).toInt ≤ 900 := h_37
          have h_38 : 0 ≤ (v_33 7).toInt ∧ (v_33 7).toInt ≤ 900 := h_38
          have h_39 : (v_33 6).toInt ≤ (v_33 7).toInt := h_39
          have h_40 : (v_33 7).toInt ≤ (v_33 5).toInt := h_40
          have h_41 : (v_33 3).toInt = (o_18 3).toInt := h_41
          have h_42 : ∀ j : Nat, 0 ≤ ((v_34 1) j).toInt ∧ ((v_34 1) j).toInt ≤ 6 := h_42
          have hP : va_P D vwCl [((rd 0), .inr (4, [.ref (rw 0), .int (v_33 1), .int (v_33 2), .int (v_33 3), .ref (rd 1), .int (v_33 5), .int (v_33 6), .int (v_33 7), .int (v_33 8), .int (v_33 9)])), ((rd 1), .inl (k 2, 900, .inl tf)), ((rw 0), .inr (5, [.int z_2, .int (y 1), .int (y 2), .int (y 3), .int (y 4), .int (y 5), .int (y 6), .int (y 7), .int (y 8), .int (y 9), .int (y 10), .ref (rw 1), .ref (rw 2), .ref (rw 3), .ref (rw 4), .ref (rw 5)])), ((rw 1), .inl (k 0, 10, .inl (v_34 1))), ((rw 3), .inl (k 0, 60, .inl (v_34 3)))] H := hP
          have hD : va_D A [((rd 0), .inr (4, [.ref (rw 0), .int (v_33 1), .int (v_33 2), .int (v_33 3), .ref (rd 1), .int (v_33 5), .int (v_33 6), .int (v_33 7), .int (v_33 8), .int (v_33 9)])), ((rd 1), .inl (k 2, 900, .inl tf)), ((rw 0), .inr (5, [.int z_2, .int (y 1), .int (y 2), .int (y 3), .int (y 4), .int (y 5), .int (y 6), .int (y 7), .int (y 8), .int (y 9), .int (y 10), .ref (rw 1), .ref (rw 2), .ref (rw 3), .ref (rw 4), .ref (rw 5)])), ((rw 1), .inl (k 0, 10, .inl (v_34 1))), ((rw 3), .inl (k 0, 60, .inl (v_34 3)))] := hD
          obtain ⟨z_43, ez_43⟩ : ∃ y : Int32, y = i_15 + 1 := ⟨_, rfl⟩
          have tz_43 : z_43.toInt = i_15.toInt + 1 := by rw [ez_43]; exact ti_addc (by decide) (by omega) (by omega)
          refine lv_iinc (v := z_43) (lv' := [(2, .int z_43), (1, .int (y 0)), (0, .ref (rd 0))]) hx hb dX5_readRoof_104 hl (k := 0) rfl (ez_43.symm) (by decide) rfl (fun ls hl => ?_)
          refine lv_goto (tgt := 74) hx hb dX5_readRoof_107 (by decide) ?_
          exact ih74 (z_43, (v_34 1), (v_34 3), v_33) _ _ ls (by show (7 - z_43.toInt).toNat < (7 - i_15.toInt).toNat; omega) ⟨(show 0 ≤ z_43.toInt ∧ z_43.toInt ≤ 7 from ⟨by omega, by omega⟩), h_42, (show 0 ≤ (v_33 3).toInt ∧ (v_33 3).toInt ≤ 900 from ⟨by omega, by omega⟩), (show 0 ≤ (v_33 5).toInt ∧ (v_33 5).toInt ≤ 900 from ⟨by omega, by omega⟩), (show 0 ≤ (v_33 6).toInt ∧ (v_33 6).toInt ≤ 900 from ⟨by omega, by omega⟩), (show 0 ≤ (v_33 7).toInt ∧ (v_33 7).toInt ≤ 900 from ⟨by omega, by omega⟩), (show (v_33 6).toInt ≤ (v_33 7).toInt from by omega), (show (v_33 7).toInt ≤ (v_33 5).toInt from by omega), (show (v_33 3).toInt = (rf 3).toInt from by omega), hP.sub [2, 3, 4, 0, 1] rfl, hD.sub [2, 3, 4, 0, 1] (by decide) rfl, hS, lv_sub hl [0, 1, 2] rfl⟩
        · have c_30 : r_29.toInt = 0 := ti_eq c_30
          have qc_30 : r_29 = 0 := ti_of (show r_29.toInt = 0 from by omega)
          refine lv_aload_n hx hb dX5_readRoof_89 rfl (lv_at hl 2 rfl) ?_
          refine va_ldcS (own := RX5) (index := 111) (tx := "straw") (q := ak 3) hx hb hown (hW0.2.2.2 3 (by decide)) dX5_readRoof_90 ?_
          refine kV_is (q0 := 0) (As := [.ref (ak 3)]) (rest := []) ⟨hx, hb, hml, hown, hts⟩ (s_R_isWord l D k ak av _ _ o_18 tf 3 (show 0 ≤ (o_18 3).toInt ∧ (o_18 3).toInt ≤ 900 from ⟨by omega, by omega⟩) (show 0 ≤ (o_18 5).toInt ∧ (o_18 5).toInt ≤ 900 from ⟨by omega, by omega⟩) (show 0 ≤ (o_18 6).toInt ∧ (o_18 6).toInt ≤ 900 from ⟨by omega, by omega⟩) (show 0 ≤ (o_18 7).toInt ∧ (o_18 7).toInt ≤ 900 from ⟨by omega, by omega⟩) (show (o_18 6).toInt ≤ (o_18 7).toInt from by omega) (show (o_18 7).toInt ≤ (o_18 5).toInt from by omega) (by omega)) (gV mw_185 mw_186 mw_187 mw_15 mw_188) hd_yX5_isWord rfl rfl ⟨Nat.le_of_ble_eq_true rfl, Nat.le_of_ble_eq_true rfl⟩ hK hN0 hW0 hS (hP.sub [3, 4] rfl) rfl rfl rfl rfl hl.1 rfl (Nat.le_of_ble_eq_true rfl) dX5_readRoof_92 ⟨Nat.le_of_ble_eq_true rfl, Nat.le_of_ble_eq_true rfl⟩ (fun r_44 hr_44 => ?_)
          have hr_44 : 0 ≤ r_44.toInt ∧ r_44.toInt ≤ 1 := hr_44
          refine lv_if_eq (tgt := 110) hx hb dX5_readRoof_95 (by decide) (fun c_45 => ?_) (fun c_45 => ?_)
          · have c_45 : r_44.toInt = 0 := ti_eq c_45
            have qc_45 : r_44 = 0 := ti_of (show r_44.toInt = 0 from by omega)
            exact W.vret hx hb hr (fun t ht hW => ⟨⟨((va_seli [0, (o_18 1), (o_18 2), (o_18 3), 0, (o_18 5), (o_18 6), (o_18 7), (o_18 8), (o_18 9)]), (va_seli [z_2, (y 1), (y 2), (y 3), (y 4), (y 5), (y 6), (y 7), (y 8), (y 9), (y 10)]), (va_selg [(fun _ => 0), f_16, (fun _ => 0), f_17])), rfl, ⟨(show 0 ≤ (o_18 3).toInt ∧ (o_18 3).toInt ≤ 900 from ⟨by omega, by omega⟩), (show 0 ≤ (o_18 5).toInt ∧ (o_18 5).toInt ≤ 900 from ⟨by omega, by omega⟩), (show 0 ≤ (o_18 6).toInt ∧ (o_18 6).toInt ≤ 900 from ⟨by omega, by omega⟩), (show 0 ≤ (o_18 7).toInt ∧ (o_18 7).toInt ≤ 900 from ⟨by omega, by omega⟩), (show (o_18 6).toInt ≤ (o_18 7).toInt from by omega), (show (o_18 7).toInt ≤ (o_18 5).toInt from by omega), (show (o_18 3).toInt = (rf 3).toInt from by omega), (show 0 ≤ z_2.toInt ∧ z_2.toInt ≤ 10 from ⟨by omega, by omega⟩), (show 0 ≤ (y 2).toInt ∧ (y 2).toInt ≤ 6 from ⟨by omega, by omega⟩), (show 0 ≤ (y 6).toInt ∧ (y 6).toInt ≤ 1 from ⟨by omega, by omega⟩), (show ∀ j : Nat, 0 ≤ (f_16 j).toInt ∧ (f_16 j).toInt ≤ 6 from h_20)⟩, by rw [ht]; exact hP.sub [3, 4, 0, 1, 2] rfl, hD.sub [3, 4, 0, 1, 2] (by decide) rfl⟩, hS.F ht⟩) hS.2.2 dX5_readRoof_110
          · have c_45 : r_44.toInt ≠ 0 := ti_ne c_45
            have qc_45 : r_44 = 1 := ti_of (show r_44.toInt = 1 from by omega)
            refine lv_aload_n hx hb dX5_readRoof_98 rfl (lv_at hl 2 rfl) ?_
            refine lv_iload_n hx hb dX5_readRoof_99 rfl (lv_at hl 1 rfl) ?_
            refine lv_iload_n hx hb dX5_readRoof_100 rfl (lv_at hl 0 rfl) ?_
            refine kV_uvs (q0 := 0) (As := [.int (y 0), .int i_15]) (rest := []) (wr := []) ⟨hx, hb, hml, hown, hts⟩ (s_R_readLayer l D k ak av _ _ o_18 tf (va_seli [z_2, (y 1), (y 2), (y 3), (y 4), (y 5), (y 6), (y 7), (y 8), (y 9), (y 10)]) (va_selg [(fun _ => 0), f_16, (fun _ => 0), f_17]) (y 0) i_15 _ (show 0 ≤ (o_18 3).toInt ∧ (o_18 3).toInt ≤ 900 from ⟨by omega, by omega⟩) (show 0 ≤ (o_18 5).toInt ∧ (o_18 5).toInt ≤ 900 from ⟨by omega, by omega⟩) (show 0 ≤ (o_18 6).toInt ∧ (o_18 6).toInt ≤ 900 from ⟨by omega, by omega⟩) (show 0 ≤ (o_18 7).toInt ∧ (o_18 7).toInt ≤ 900 from ⟨by omega, by omega⟩) (show (o_18 6).toInt ≤ (o_18 7).toInt from by omega) (show (o_18 7).toInt ≤ (o_18 5).toInt from by omega) (show 0 ≤ z_2.toInt ∧ z_2.toInt ≤ 10 from ⟨by omega, by omega⟩) (show 0 ≤ (y 2).toInt ∧ (y 2).toInt ≤ 6 from ⟨by omega, by omega⟩) (show 0 ≤ (y 6).toInt ∧ (y 6).toInt ≤ 1 from ⟨by omega, by omega⟩) (show ∀ j : Nat, 0 ≤ (f_16 j).toInt ∧ (f_16 j).toInt ≤ 6 from h_20) (show 0 ≤ (y 0).toInt ∧ (y 0).toInt ≤ 9 from ⟨by omega, by omega⟩) (show 0 ≤ i_15.toInt ∧ i_15.toInt ≤ 6 from ⟨by omega, by omega⟩)) (gV mw_243 mw_244 mw_245 mw_15 mw_246) hd_yX5_readLayer rfl rfl ⟨Nat.le_of_ble_eq_true rfl, Nat.le_of_ble_eq_true rfl⟩ hK hN0 hW0 hS hP hD hS hA [3, 4, 0, 1, 2] [] rfl rfl (by decide) (by decide) (by decide) rfl rfl rfl rfl hl.1 rfl (Nat.le_of_ble_eq_true rfl) dX5_readRoof_101 ⟨Nat.le_of_ble_eq_true rfl, Nat.le_of_ble_eq_true rfl⟩ (fun u_47 H locs hw hP hD hS => ?_)
            obtain ⟨v_48, v_49⟩ := u_47
            obtain ⟨h_50, h_51, h_52, h_53, h_54, h_55, h_56, h_57⟩ := hw
            have h_50 : 0 ≤ (v_48 3).toInt ∧ (v_48 3).toInt ≤ 900 := h_50
            have h_51 : 0 ≤ (v_48 5).toInt ∧ (v_48 5).toInt ≤ 900 := h_51
            have h_52 : 0 ≤ (v_48 6).toInt ∧ (v_48 6).toInt ≤ 900 := h_52
            have h_53 : 0 ≤ (v_48 7).toInt ∧ (v_48 7).toInt ≤ 900 := h_53
            have h_54 : (v_48 6).toInt ≤ (v_48 7).toInt := h_54
            have h_55 : (v_48 7).toInt ≤ (v_48 5).toInt := h_55
            have h_56 : (v_48 3).toInt = (o_18 3).toInt := h_56
            have h_57 : ∀ j : Nat, 0 ≤ ((v_49 1) j).toInt ∧ ((v_49 1) j).toInt ≤ 6 := h_57
            have hP : va_P D vwCl [((rd 0), .inr (4, [.ref (rw 0), .int (v_48 1), .int (v_48 2), .int (v_48 3), .ref (rd 1), .int (v_48 5), .int (v_48 6), .int (v_48 7), .int (v_48 8), .int (v_48 9)])), ((rd 1), .inl (k 2, 900, .inl tf)), ((rw 0), .inr (5, [.int z_2, .int (y 1), .int (y 2), .int (y 3), .int (y 4), .int (y 5), .int (y 6), .int (y 7), .int (y 8), .int (y 9), .int (y 10), .ref (rw 1), .ref (rw 2), .ref (rw 3), .ref (rw 4), .ref (rw 5)])), ((rw 1), .inl (k 0, 10, .inl (v_49 1))), ((rw 3), .inl (k 0, 60, .inl (v_49 3)))] H := hP
            have hD : va_D A [((rd 0), .inr (4, [.ref (rw 0), .int (v_48 1), .int (v_48 2), .int (v_48 3), .ref (rd 1), .int (v_48 5), .int (v_48 6), .int (v_48 7), .int (v_48 8), .int (v_48 9)])), ((rd 1), .inl (k 2, 900, .inl tf)), ((rw 0), .inr (5, [.int z_2, .int (y 1), .int (y 2), .int (y 3), .int (y 4), .int (y 5), .int (y 6), .int (y 7), .int (y 8), .int (y 9), .int (y 10), .ref (rw 1), .ref (rw 2), .ref (rw 3), .ref (rw 4), .ref (rw 5)])), ((rw 1), .inl (k 0, 10, .inl (v_49 1))), ((rw 3), .inl (k 0, 60, .inl (v_49 3)))] := hD
            obtain ⟨z_58, ez_58⟩ : ∃ y : Int32, y = i_15 + 1 := ⟨_, rfl⟩
            have tz_58 : z_58.toInt = i_15.toInt + 1 := by rw [ez_58]; exact ti_addc (by decide) (by omega) (by omega)
            refine lv_iinc (v := z_58) (lv' := [(2, .int z_58), (1, .int (y 0)), (0, .ref (rd 0))]) hx hb dX5_readRoof_104 hl (k := 0) rfl (ez_58.symm) (by decide) rfl (fun ls hl => ?_)
            refine lv_goto (tgt := 74) hx hb dX5_readRoof_107 (by decide) ?_
            exact ih74 (z_58, (v_49 1), (v_49 3), v_48) _ _ ls (by show (7 - z_58.toInt).toNat < (7 - i_15.toInt).toNat; omega) ⟨(show 0 ≤ z_58.toInt ∧ z_58.toInt ≤ 7 from ⟨by omega, by omega⟩), h_57, (show 0 ≤ (v_48 3).toInt ∧ (v_48 3).toInt ≤ 900 from ⟨by omega, by omega⟩), (show 0 ≤ (v_48 5).toInt ∧ (v_48 5).toInt ≤ 900 from ⟨by omega, by omega⟩), (show 0 ≤ (v_48 6).toInt ∧ (v_48 6).toInt ≤ 900 from ⟨by omega, by omega⟩), (show 0 ≤ (v_48 7).toInt ∧ (v_48 7).toInt ≤ 900 from ⟨by omega, by omega⟩), (show (v_48 6).toInt ≤ (v_48 7).toInt from by omega), (show (v_48 7).toInt ≤ (v_48 5).toInt from by omega), (show (v_48 3).toInt = (rf 3).toInt from by omega), hP.sub [2, 3, 4, 0, 1] rfl, hD.sub [2, 3, 4, 0, 1] (by decide) rfl, hS, lv_sub hl [0, 1, 2] rfl⟩
    · have c_14 : r_13.toInt ≠ 0 := ti_ne c_14
      have qc_14 : r_13 = 1 := ti_of (show r_13.toInt = 1 from by omega)
      refine lv_aload_n hx hb dX5_readRoof_52 rfl (lv_at hl 1 rfl) ?_
      refine va_get (D := D) (ci := 4) (v := .ref (rw 0)) (C := RX5) (T := TX5) (N := 10) hx hb hts inlX5 hown hK hP 3 rfl rfl 0 (by decide) (hts _ mw_47) (fun _ h9 => h9) rfl dX5_readRoof_53 ?_
      refine lv_dup hx hb dX5_readRoof_56 rfl ?_
      refine va_get (D := D) (ci := 5) (v := .int (y 7)) (C := RX6) (T := TX6) (N := 16) hx hb hts inlX6 hown hK hP 0 rfl rfl 7 (by decide) (hts _ mw_242) (fun _ h9 => h9) rfl dX5_readRoof_57 ?_
      refine lv_iconst (v := 1) hx hb dX5_readRoof_60 (by decide) ?_
      refine lv_iload_n hx hb dX5_readRoof_61 rfl (lv_at hl 0 rfl) ?_
      refine lv_ishl hx hb dX5_readRoof_62 ?_
      refine lv_topi (fun z_59 ez_59 => ?_)
      refine lv_ior hx hb dX5_readRoof_63 ?_
      refine lv_topi (fun z_60 ez_60 => ?_)
      refine va_put (D := D) (ci := 5) (v := .int z_60) (ty := .int) (C := RX6) (T := TX6) (N := 16) hx hb hts inlX6 tyX6 tyX6_ok nmX6 hown hK hP hD hS 0 rfl rfl 7 (by decide) (hts _ mw_242) (fun _ h9 => h9) rfl (by decide +kernel) rfl rfl (Nat.le_of_ble_eq_true rfl) dX5_readRoof_64 (fun H locs hP hD hS => ?_)
      have hP : va_P D vwCl [((rw 0), .inr (5, [.int z_2, .int (y 1), .int (y 2), .int (y 3), .int (y 4), .int (y 5), .int (y 6), .int z_60, .int (y 8), .int (y 9), .int (y 10), .ref (rw 1), .ref (rw 2), .ref (rw 3), .ref (rw 4), .ref (rw 5)])), ((rw 1), .inl (k 0, 10, .inl (g 1))), ((rw 3), .inl (k 0, 60, .inl (g 3))), ((rd 0), .inr (4, [.ref (rw 0), .int (v_5 1), .int (v_5 2), .int (v_5 3), .ref (rd 1), .int (v_5 5), .int (v_5 6), .int (v_5 7), .int (v_5 8), .int (v_5 9)])), ((rd 1), .inl (k 2, 900, .inl tf))] H := hP
      have hD : va_D A [((rw 0), .inr (5, [.int z_2, .int (y 1), .int (y 2), .int (y 3), .int (y 4), .int (y 5), .int (y 6), .int z_60, .int (y 8), .int (y 9), .int (y 10), .ref (rw 1), .ref (rw 2), .ref (rw 3), .ref (rw 4), .ref (rw 5)])), ((rw 1), .inl (k 0, 10, .inl (g 1))), ((rw 3), .inl (k 0, 60, .inl (g 3))), ((rd 0), .inr (4, [.ref (rw 0), .int (v_5 1), .int (v_5 2), .int (v_5 3), .ref (rd 1), .int (v_5 5), .int (v_5 6), .int (v_5 7), .int (v_5 8), .int (v_5 9)])), ((rd 1), .inl (k 2, 900, .inl tf))] := hD
      refine lv_aload_n hx hb dX5_readRoof_67 rfl (lv_at hl 1 rfl) ?_
      refine kV_uv (q0 := 0) (As := []) (rest := []) (wr := [((rw 0), .inr (5, [.int z_2, .int (y 1), .int (y 2), .int (y 3), .int (y 4), .int (y 5), .int (y 6), .int z_60, .int (y 8), .int (y 9), .int (y 10), .ref (rw 1), .ref (rw 2), .ref (rw 3), .ref (rw 4), .ref (rw 5)])), ((rw 1), .inl (k 0, 10, .inl (g 1))), ((rw 3), .inl (k 0, 60, .inl (g 3)))]) ⟨hx, hb, hml, hown, hts⟩ (s_R_advance l D k _ _ v_5 tf _ (show 0 ≤ (v_5 3).toInt ∧ (v_5 3).toInt ≤ 900 from ⟨by omega, by omega⟩) (show 0 ≤ (v_5 5).toInt ∧ (v_5 5).toInt ≤ 900 from ⟨by omega, by omega⟩) (show 0 ≤ (v_5 7).toInt ∧ (v_5 7).toInt ≤ 900 from ⟨by omega, by omega⟩) (show (v_5 7).toInt ≤ (v_5 5).toInt from by omega)) (gV mw_159 mw_160 mw_161 mw_15 mw_162) hd_yX5_advance rfl rfl ⟨Nat.le_of_ble_eq_true rfl, Nat.le_of_ble_eq_true rfl⟩ hK hN0 hP hD hS hA [3, 4] [0, 1, 2] rfl rfl (by decide) (by decide) (by decide) rfl rfl rfl rfl hl.1 rfl (Nat.le_of_ble_eq_true rfl) dX5_readRoof_68 ⟨Nat.le_of_ble_eq_true rfl, Nat.le_of_ble_eq_true rfl⟩ (fun u_62 H locs hw hP hD hS => ?_)
      obtain ⟨v_63, rfl⟩ : ∃ z, z = u_62 := ⟨_, rfl⟩
      obtain ⟨h_64, h_65, h_66, h_67, h_68, h_69, h_70⟩ := hw
      have h_64 : 0 ≤ (v_63 3).toInt ∧ (v_63 3).toInt ≤ 900 := h_64
      have h_65 : 0 ≤ (v_63 5).toInt ∧ (v_63 5).toInt ≤ 900 := h_65
      have h_66 : 0 ≤ (v_63 6).toInt ∧ (v_63 6).toInt ≤ 900 := h_66
      have h_67 : 0 ≤ (v_63 7).toInt ∧ (v_63 7).toInt ≤ 900 := h_67
      have h_68 : (v_63 6).toInt ≤ (v_63 7).toInt := h_68
      have h_69 : (v_63 7).toInt ≤ (v_63 5).toInt := h_69
      have h_70 : (v_63 3).toInt = (v_5 3).toInt := h_70
      have hP : va_P D vwCl [((rw 0), .inr (5, [.int z_2, .int (y 1), .int (y 2), .int (y 3), .int (y 4), .int (y 5), .int (y 6), .int z_60, .int (y 8), .int (y 9), .int (y 10), .ref (rw 1), .ref (rw 2), .ref (rw 3), .ref (rw 4), .ref (rw 5)])), ((rw 1), .inl (k 0, 10, .inl (g 1))), ((rw 3), .inl (k 0, 60, .inl (g 3))), ((rd 0), .inr (4, [.ref (rw 0), .int (v_63 1), .int (v_63 2), .int (v_63 3), .ref (rd 1), .int (v_63 5), .int (v_63 6), .int (v_63 7), .int (v_63 8), .int (v_63 9)])), ((rd 1), .inl (k 2, 900, .inl tf))] H := hP
      have hD : va_D A [((rw 0), .inr (5, [.int z_2, .int (y 1), .int (y 2), .int (y 3), .int (y 4), .int (y 5), .int (y 6), .int z_60, .int (y 8), .int (y 9), .int (y 10), .ref (rw 1), .ref (rw 2), .ref (rw 3), .ref (rw 4), .ref (rw 5)])), ((rw 1), .inl (k 0, 10, .inl (g 1))), ((rw 3), .inl (k 0, 60, .inl (g 3))), ((rd 0), .inr (4, [.ref (rw 0), .int (v_63 1), .int (v_63 2), .int (v_63 3), .ref (rd 1), .int (v_63 5), .int (v_63 6), .int (v_63 7), .int (v_63 8), .int (v_63 9)])), ((rd 1), .inl (k 2, 900, .inl tf))] := hD
      exact W.vret hx hb hr (fun t ht hW => ⟨⟨((va_seli [0, (v_63 1), (v_63 2), (v_63 3), 0, (v_63 5), (v_63 6), (v_63 7), (v_63 8), (v_63 9)]), (va_seli [z_2, (y 1), (y 2), (y 3), (y 4), (y 5), (y 6), z_60, (y 8), (y 9), (y 10)]), (va_selg [(fun _ => 0), (g 1), (fun _ => 0), (g 3)])), rfl, ⟨(show 0 ≤ (v_63 3).toInt ∧ (v_63 3).toInt ≤ 900 from ⟨by omega, by omega⟩), (show 0 ≤ (v_63 5).toInt ∧ (v_63 5).toInt ≤ 900 from ⟨by omega, by omega⟩), (show 0 ≤ (v_63 6).toInt ∧ (v_63 6).toInt ≤ 900 from ⟨by omega, by omega⟩), (show 0 ≤ (v_63 7).toInt ∧ (v_63 7).toInt ≤ 900 from ⟨by omega, by omega⟩), (show (v_63 6).toInt ≤ (v_63 7).toInt from by omega), (show (v_63 7).toInt ≤ (v_63 5).toInt from by omega), (show (v_63 3).toInt = (rf 3).toInt from by omega), (show 0 ≤ z_2.toInt ∧ z_2.toInt ≤ 10 from ⟨by omega, by omega⟩), (show 0 ≤ (y 2).toInt ∧ (y 2).toInt ≤ 6 from ⟨by omega, by omega⟩), (show 0 ≤ (y 6).toInt ∧ (y 6).toInt ≤ 1 from ⟨by omega, by omega⟩), (show ∀ j : Nat, 0 ≤ ((g 1) j).toInt ∧ ((g 1) j).toInt ≤ 6 from w_hd)⟩, by rw [ht]; exact hP.sub [3, 4, 0, 1, 2] rfl, hD.sub [3, 4, 0, 1, 2] (by decide) rfl⟩, hS.F ht⟩) hS.2.2 dX5_readRoof_71
  · have c_1 : 10 ≤ (y 0).toInt := ti_nlt c_1
    have qc_1 : (y 0) = 10 := ti_of (show (y 0).toInt = 10 from by omega)
    refine lv_aload_n hx hb dX5_readRoof_12 rfl (lv_at hl 0 rfl) ?_
    refine lv_iconst (v := 4) hx hb dX5_readRoof_13 (by decide) ?_
    refine kV_uv (q0 := 0) (As := [.int 4]) (rest := []) (wr := [((rd 1), .inl (k 2, 900, .inl tf)), ((rw 0), .inr (5, [.int (y 0), .int (y 1), .int (y 2), .int (y 3), .int (y 4), .int (y 5), .int (y 6), .int (y 7), .int (y 8), .int (y 9), .int (y 10), .ref (rw 1), .ref (rw 2), .ref (rw 3), .ref (rw 4), .ref (rw 5)])), ((rw 1), .inl (k 0, 10, .inl (g 1))), ((rw 3), .inl (k 0, 60, .inl (g 3)))]) ⟨hx, hb, hml, hown, hts⟩ (s_R_fail l D k _ _ rf 4 _) (gV mw_171 mw_172 mw_173 mw_15 mw_174) hd_yX5_fail rfl rfl ⟨Nat.le_of_ble_eq_true rfl, Nat.le_of_ble_eq_true rfl⟩ hK hN0 hP hD hS hA [0] [1, 2, 3, 4] rfl rfl (by decide) (by decide) (by decide) rfl rfl rfl rfl hl.1 rfl (Nat.le_of_ble_eq_true rfl) dX5_readRoof_14 ⟨Nat.le_of_ble_eq_true rfl, Nat.le_of_ble_eq_true rfl⟩ (fun u_72 H locs hw hP hD hS => ?_)
    obtain ⟨v_73, v_74⟩ := u_72
    have hP : va_P D vwCl [((rd 1), .inl (k 2, 900, .inl tf)), ((rw 0), .inr (5, [.int (y 0), .int (y 1), .int (y 2), .int (y 3), .int (y 4), .int (y 5), .int (y 6), .int (y 7), .int (y 8), .int (y 9), .int (y 10), .ref (rw 1), .ref (rw 2), .ref (rw 3), .ref (rw 4), .ref (rw 5)])), ((rw 1), .inl (k 0, 10, .inl (g 1))), ((rw 3), .inl (k 0, 60, .inl (g 3))), ((rd 0), .inr (4, [.ref (rw 0), .int v_73, .int v_74, .int (rf 3), .ref (rd 1), .int (rf 5), .int (rf 6), .int (rf 7), .int 0, .int (rf 9)]))] H := hP
    have hD : va_D A [((rd 1), .inl (k 2, 900, .inl tf)), ((rw 0), .inr (5, [.int (y 0), .int (y 1), .int (y 2), .int (y 3), .int (y 4), .int (y 5), .int (y 6), .int (y 7), .int (y 8), .int (y 9), .int (y 10), .ref (rw 1), .ref (rw 2), .ref (rw 3), .ref (rw 4), .ref (rw 5)])), ((rw 1), .inl (k 0, 10, .inl (g 1))), ((rw 3), .inl (k 0, 60, .inl (g 3))), ((rd 0), .inr (4, [.ref (rw 0), .int v_73, .int v_74, .int (rf 3), .ref (rd 1), .int (rf 5), .int (rf 6), .int (rf 7), .int 0, .int (rf 9)]))] := hD
    exact W.vret hx hb hr (fun t ht hW => ⟨⟨((va_seli [0, v_73, v_74, (rf 3), 0, (rf 5), (rf 6), (rf 7), 0, (rf 9)]), (va_seli [(y 0), (y 1), (y 2), (y 3), (y 4), (y 5), (y 6), (y 7), (y 8), (y 9), (y 10)]), (va_selg [(fun _ => 0), (g 1), (fun _ => 0), (g 3)])), rfl, ⟨(show 0 ≤ (rf 3).toInt ∧ (rf 3).toInt ≤ 900 from ⟨by omega, by omega⟩), (show 0 ≤ (rf 5).toInt ∧ (rf 5).toInt ≤ 900 from ⟨by omega, by omega⟩), (show 0 ≤ (rf 6).toInt ∧ (rf 6).toInt ≤ 900 from ⟨by omega, by omega⟩), (show 0 ≤ (rf 7).toInt ∧ (rf 7).toInt ≤ 900 from ⟨by omega, by omega⟩), (show (rf 6).toInt ≤ (rf 7).toInt from by omega), (show (rf 7).toInt ≤ (rf 5).toInt from by omega), (show (rf 3).toInt = (rf 3).toInt from by omega), (show 0 ≤ (y 0).toInt ∧ (y 0).toInt ≤ 10 from ⟨by omega, by omega⟩), (show 0 ≤ (y 2).toInt ∧ (y 2).toInt ≤ 6 from ⟨by omega, by omega⟩), (show 0 ≤ (y 6).toInt ∧ (y 6).toInt ≤ 1 from ⟨by omega, by omega⟩), (show ∀ j : Nat, 0 ≤ ((g 1) j).toInt ∧ ((g 1) j).toInt ≤ 6 from w_hd)⟩, by rw [ht]; exact hP.sub [4, 0, 1, 2, 3] rfl, hD.sub [4, 0, 1, 2, 3] (by decide) rfl⟩, hS.F ht⟩) hS.2.2 dX5_readRoof_17
set_option maxHeartbeats 4000000 in
set_option maxRecDepth 100000 in
theorem s_R_readLine (l : Launch) (D : va_G) (k : Nat → ClassId) (ak : Nat → Nat) (av : Nat → Nat) (rd : Nat → Nat) (rw : Nat → Nat) (rf : Nat → Int32) (tf : Nat → Int32) (y : Nat → Int32) (g : Nat → Nat → Int32) (sz : Nat) (w_r3 : 0 ≤ (rf 3).toInt ∧ (rf 3).toInt ≤ 900) (w_r5 : 0 ≤ (rf 5).toInt ∧ (rf 5).toInt ≤ 900) (w_r6 : 0 ≤ (rf 6).toInt ∧ (rf 6).toInt ≤ 900) (w_r7 : 0 ≤ (rf 7).toInt ∧ (rf 7).toInt ≤ 900) (w_rl0 : (rf 6).toInt ≤ (rf 7).toInt) (w_rl1 : (rf 7).toInt ≤ (rf 5).toInt) (w_h0 : 0 ≤ (y 0).toInt ∧ (y 0).toInt ≤ 10) (w_h2 : 0 ≤ (y 2).toInt ∧ (y 2).toInt ≤ 6) (w_h6 : 0 ≤ (y 6).toInt ∧ (y 6).toInt ≤ 1) (w_hd : ∀ j : Nat, 0 ≤ ((g 1) j).toInt ∧ ((g 1) j).toInt ≤ 6) : Met l yX5_readLine (Cond.code yX5_readLine cX5_readLine 1 none :: wsL_law) ({ frames := 7, cells := 0, slots := 0, locals := 420 } : Room) (va_Pc [.ref (rd 0)] (pus ak av D k sz [((rd 0), .inr (4, [.ref (rw 0), .int (rf 1), .int (rf 2), .int (rf 3), .ref (rd 1), .int (rf 5), .int (rf 6), .int (rf 7), .int (rf 8), .int (rf 9)])), ((rd 1), .inl (k 2, 900, .inl tf)), ((rw 0), .inr (5, [.int (y 0), .int (y 1), .int (y 2), .int (y 3), .int (y 4), .int (y 5), .int (y 6), .int (y 7), .int (y 8), .int (y 9), .int (y 10), .ref (rw 1), .ref (rw 2), .ref (rw 3), .ref (rw 4), .ref (rw 5)])), ((rw 1), .inl (k 0, 10, .inl (g 1))), ((rw 3), .inl (k 0, 60, .inl (g 3)))])) (va_Qv (fun uu : (Nat → Int32) × (Nat → Int32) × (Nat → Nat → Int32) => (0 ≤ (uu.1 3).toInt ∧ (uu.1 3).toInt ≤ 900) ∧ (0 ≤ (uu.1 5).toInt ∧ (uu.1 5).toInt ≤ 900) ∧ (0 ≤ (uu.1 6).toInt ∧ (uu.1 6).toInt ≤ 900) ∧ (0 ≤ (uu.1 7).toInt ∧ (uu.1 7).toInt ≤ 900) ∧ ((uu.1 6).toInt ≤ (uu.1 7).toInt) ∧ ((uu.1 7).toInt ≤ (uu.1 5).toInt) ∧ ((uu.1 3).toInt = (rf 3).toInt) ∧ (0 ≤ (uu.2.1 0).toInt ∧ (uu.2.1 0).toInt ≤ 10) ∧ (0 ≤ (uu.2.1 2).toInt ∧ (uu.2.1 2).toInt ≤ 6) ∧ (0 ≤ (uu.2.1 6).toInt ∧ (uu.2.1 6).toInt ≤ 1) ∧ (∀ j : Nat, 0 ≤ ((uu.2.2 1) j).toInt ∧ ((uu.2.2 1) j).toInt ≤ 6)) (qu D (va_A [((rd 0), .inr (4, [.ref (rw 0), .int (rf 1), .int (rf 2), .int (rf 3), .ref (rd 1), .int (rf 5), .int (rf 6), .int (rf 7), .int (rf 8), .int (rf 9)])), ((rd 1), .inl (k 2, 900, .inl tf)), ((rw 0), .inr (5, [.int (y 0), .int (y 1), .int (y 2), .int (y 3), .int (y 4), .int (y 5), .int (y 6), .int (y 7), .int (y 8), .int (y 9), .int (y 10), .ref (rw 1), .ref (rw 2), .ref (rw 3), .ref (rw 4), .ref (rw 5)])), ((rw 1), .inl (k 0, 10, .inl (g 1))), ((rw 3), .inl (k 0, 60, .inl (g 3)))] sz) (fun uu : (Nat → Int32) × (Nat → Int32) × (Nat → Nat → Int32) => [((rd 0), .inr (4, [.ref (rw 0), .int (uu.1 1), .int (uu.1 2), .int (uu.1 3), .ref (rd 1), .int (uu.1 5), .int (uu.1 6), .int (uu.1 7), .int (uu.1 8), .int (uu.1 9)])), ((rd 1), .inl (k 2, 900, .inl tf)), ((rw 0), .inr (5, [.int (uu.2.1 0), .int (uu.2.1 1), .int (uu.2.1 2), .int (uu.2.1 3), .int (uu.2.1 4), .int (uu.2.1 5), .int (uu.2.1 6), .int (uu.2.1 7), .int (uu.2.1 8), .int (uu.2.1 9), .int (uu.2.1 10), .ref (rw 1), .ref (rw 2), .ref (rw 3), .ref (rw 4), .ref (rw 5)])), ((rw 1), .inl (k 0, 10, .inl (uu.2.2 1))), ((rw 3), .inl (k 0, 60, .inl (uu.2.2 3)))])) (va_A [((rd 0), .inr (4, [.ref (rw 0), .int (rf 1), .int (rf 2), .int (rf 3), .ref (rd 1), .int (rf 5), .int (rf 6), .int (rf 7), .int (rf 8), .int (rf 9)])), ((rd 1), .inl (k 2, 900, .inl tf)), ((rw 0), .inr (5, [.int (y 0), .int (y 1), .int (y 2), .int (y 3), .int (y 4), .int (y 5), .int (y 6), .int (y 7), .int (y 8), .int (y 9), .int (y 10), .ref (rw 1), .ref (rw 2), .ref (rw 3), .ref (rw 4), .ref (rw 5)])), ((rw 1), .inl (k 0, 10, .inl (g 1))), ((rw 3), .inl (k 0, 60, .inl (g 3)))] sz)) 0 0 (va_A [((rd 0), .inr (4, [.ref (rw 0), .int (rf 1), .int (rf 2), .int (rf 3), .ref (rd 1), .int (rf 5), .int (rf 6), .int (rf 7), .int (rf 8), .int (rf 9)])), ((rd 1), .inl (k 2, 900, .inl tf)), ((rw 0), .inr (5, [.int (y 0), .int (y 1), .int (y 2), .int (y 3), .int (y 4), .int (y 5), .int (y 6), .int (y 7), .int (y 8), .int (y 9), .int (y 10), .ref (rw 1), .ref (rw 2), .ref (rw 3), .ref (rw 4), .ref (rw 5)])), ((rw 1), .inl (k 0, 10, .inl (g 1))), ((rw 3), .inl (k 0, 60, .inl (g 3)))] sz) := by
  refine Met.ofW (cc := cX5_readLine) (maxL := 1) (ret := none) (by decide) rfl ?_
  intro p e s m args below meth c s₁ B hml hv
  obtain ⟨rfl, hsz, hP, hK, hD0, hN0, hW0⟩ := hv
  have hx := B.exec
  have hb := B.bytes
  have hr := B.returns
  have hts : ∀ w ∈ wsL_law, w.before _ s = true := fun w h => atoms_spec (ws := Cond.code yX5_readLine cX5_readLine 1 none :: wsL_law) B.pre w (List.mem_cons_of_mem _ h)
  have hown : s.vm.findClass RX5 = some m.cls := findClass_of_methodNamed B.named
  have hlocks := B.notSynchronized
  subst hsz
  have hD := hD0.self (sz := s.heap.size)
  generalize hAe : va_A [((rd 0), .inr (4, [.ref (rw 0), .int (rf 1), .int (rf 2), .int (rf 3), .ref (rd 1), .int (rf 5), .int (rf 6), .int (rf 7), .int (rf 8), .int (rf 9)])), ((rd 1), .inl (k 2, 900, .inl tf)), ((rw 0), .inr (5, [.int (y 0), .int (y 1), .int (y 2), .int (y 3), .int (y 4), .int (y 5), .int (y 6), .int (y 7), .int (y 8), .int (y 9), .int (y 10), .ref (rw 1), .ref (rw 2), .ref (rw 3), .ref (rw 4), .ref (rw 5)])), ((rw 1), .inl (k 0, 10, .inl (g 1))), ((rw 3), .inl (k 0, 60, .inl (g 3)))] s.heap.size = A at hD hW0 ⊢
  have hA : ∀ q : Nat, s.heap.size ≤ q → A q := fun q h => by rw [← hAe]; exact Or.inr h
  have hS : va_S A s.heap s.heap [] := va_S.rf
  have hP : va_P D vwCl [((rd 0), .inr (4, [.ref (rw 0), .int (rf 1), .int (rf 2), .int (rf 3), .ref (rd 1), .int (rf 5), .int (rf 6), .int (rf 7), .int (rf 8), .int (rf 9)])), ((rd 1), .inl (k 2, 900, .inl tf)), ((rw 0), .inr (5, [.int (y 0), .int (y 1), .int (y 2), .int (y 3), .int (y 4), .int (y 5), .int (y 6), .int (y 7), .int (y 8), .int (y 9), .int (y 10), .ref (rw 1), .ref (rw 2), .ref (rw 3), .ref (rw 4), .ref (rw 5)])), ((rw 1), .inl (k 0, 10, .inl (g 1))), ((rw 3), .inl (k 0, 60, .inl (g 3)))] s.heap := hP
  have hl := lv_entry ([.ref (rd 0)]) (n := 1) (Nat.le_of_ble_eq_true rfl)
  rw [lg_entry_eq]
  generalize (lg_sl ([.ref (rd 0)]) ++ List.replicate (1 - (lg_sl ([.ref (rd 0)])).length) Slot.unset).toArray = ls at hl ⊢
  have hl : lv_has ls 1 [(0, .ref (rd 0))] := hl
  refine lv_aload_n hx hb dX5_readLine_0 rfl (lv_at hl 0 rfl) ?_
  refine va_ldcS (own := RX5) (index := 59) (tx := "roof") (q := ak 0) hx hb hown (hW0.2.2.2 0 (by decide)) dX5_readLine_1 ?_
  refine kV_is (q0 := 0) (As := [.ref (ak 0)]) (rest := []) ⟨hx, hb, hml, hown, hts⟩ (s_R_isWord l D k ak av _ _ rf tf 0 (show 0 ≤ (rf 3).toInt ∧ (rf 3).toInt ≤ 900 from ⟨by omega, by omega⟩) (show 0 ≤ (rf 5).toInt ∧ (rf 5).toInt ≤ 900 from ⟨by omega, by omega⟩) (show 0 ≤ (rf 6).toInt ∧ (rf 6).toInt ≤ 900 from ⟨by omega, by omega⟩) (show 0 ≤ (rf 7).toInt ∧ (rf 7).toInt ≤ 900 from ⟨by omega, by omega⟩) (show (rf 6).toInt ≤ (rf 7).toInt from by omega) (show (rf 7).toInt ≤ (rf 5).toInt from by omega) (by omega)) (gV mw_185 mw_186 mw_187 mw_15 mw_188) hd_yX5_isWord rfl rfl ⟨Nat.le_of_ble_eq_true rfl, Nat.le_of_ble_eq_true rfl⟩ hK hN0 hW0 hS (hP.sub [0, 1] rfl) rfl rfl rfl rfl hl.1 rfl (Nat.le_of_ble_eq_true rfl) dX5_readLine_3 ⟨Nat.le_of_ble_eq_true rfl, Nat.le_of_ble_eq_true rfl⟩ (fun r_1 hr_1 => ?_)
  have hr_1 : 0 ≤ r_1.toInt ∧ r_1.toInt ≤ 1 := hr_1
  refine lv_if_eq (tgt := 16) hx hb dX5_readLine_6 (by decide) (fun c_2 => ?_) (fun c_2 => ?_)
  · have c_2 : r_1.toInt = 0 := ti_eq c_2
    have qc_2 : r_1 = 0 := ti_of (show r_1.toInt = 0 from by omega)
    refine lv_aload_n hx hb dX5_readLine_16 rfl (lv_at hl 0 rfl) ?_
    refine va_ldcS (own := RX5) (index := 68) (tx := "ring") (q := ak 7) hx hb hown (hW0.2.2.2 7 (by decide)) dX5_readLine_17 ?_
    refine kV_is (q0 := 0) (As := [.ref (ak 7)]) (rest := []) ⟨hx, hb, hml, hown, hts⟩ (s_R_isWord l D k ak av _ _ rf tf 7 (show 0 ≤ (rf 3).toInt ∧ (rf 3).toInt ≤ 900 from ⟨by omega, by omega⟩) (show 0 ≤ (rf 5).toInt ∧ (rf 5).toInt ≤ 900 from ⟨by omega, by omega⟩) (show 0 ≤ (rf 6).toInt ∧ (rf 6).toInt ≤ 900 from ⟨by omega, by omega⟩) (show 0 ≤ (rf 7).toInt ∧ (rf 7).toInt ≤ 900 from ⟨by omega, by omega⟩) (show (rf 6).toInt ≤ (rf 7).toInt from by omega) (show (rf 7).toInt ≤ (rf 5).toInt from by omega) (by omega)) (gV mw_185 mw_186 mw_187 mw_15 mw_188) hd_yX5_isWord rfl rfl ⟨Nat.le_of_ble_eq_true rfl, Nat.le_of_ble_eq_true rfl⟩ hK hN0 hW0 hS (hP.sub [0, 1] rfl) rfl rfl rfl rfl hl.1 rfl (Nat.le_of_ble_eq_true rfl) dX5_readLine_19 ⟨Nat.le_of_ble_eq_true rfl, Nat.le_of_ble_eq_true rfl⟩ (fun r_3 hr_3 => ?_)
    have hr_3 : 0 ≤ r_3.toInt ∧ r_3.toInt ≤ 1 := hr_3
    refine lv_if_eq (tgt := 40) hx hb dX5_readLine_22 (by decide) (fun c_4 => ?_) (fun c_4 => ?_)
    · have c_4 : r_3.toInt = 0 := ti_eq c_4
      have qc_4 : r_3 = 0 := ti_of (show r_3.toInt = 0 from by omega)
      refine lv_aload_n hx hb dX5_readLine_40 rfl (lv_at hl 0 rfl) ?_
      refine va_ldcS (own := RX5) (index := 74) (tx := "deep") (q := ak 8) hx hb hown (hW0.2.2.2 8 (by decide)) dX5_readLine_41 ?_
      refine kV_is (q0 := 0) (As := [.ref (ak 8)]) (rest := []) ⟨hx, hb, hml, hown, hts⟩ (s_R_isWord l D k ak av _ _ rf tf 8 (show 0 ≤ (rf 3).toInt ∧ (rf 3).toInt ≤ 900 from ⟨by omega, by omega⟩) (show 0 ≤ (rf 5).toInt ∧ (rf 5).toInt ≤ 900 from ⟨by omega, by omega⟩) (show 0 ≤ (rf 6).toInt ∧ (rf 6).toInt ≤ 900 from ⟨by omega, by omega⟩) (show 0 ≤ (rf 7).toInt ∧ (rf 7).toInt ≤ 900 from ⟨by omega, by omega⟩) (show (rf 6).toInt ≤ (rf 7).toInt from by omega) (show (rf 7).toInt ≤ (rf 5).toInt from by omega) (by omega)) (gV mw_185 mw_186 mw_187 mw_15 mw_188) hd_yX5_isWord rfl rfl ⟨Nat.le_of_ble_eq_true rfl, Nat.le_of_ble_eq_true rfl⟩ hK hN0 hW0 hS (hP.sub [0, 1] rfl) rfl rfl rfl rfl hl.1 rfl (Nat.le_of_ble_eq_true rfl) dX5_readLine_43 ⟨Nat.le_of_ble_eq_true rfl, Nat.le_of_ble_eq_true rfl⟩ (fun r_5 hr_5 => ?_)
      have hr_5 : 0 ≤ r_5.toInt ∧ r_5.toInt ≤ 1 := hr_5
      refine lv_if_eq (tgt := 80) hx hb dX5_readLine_46 (by decide) (fun c_6 => ?_) (fun c_6 => ?_)
      · have c_6 : r_5.toInt = 0 := ti_eq c_6
        have qc_6 : r_5 = 0 := ti_of (show r_5.toInt = 0 from by omega)
        refine lv_aload_n hx hb dX5_readLine_80 rfl (lv_at hl 0 rfl) ?_
        refine va_ldcS (own := RX5) (index := 84) (tx := "reed") (q := ak 2) hx hb hown (hW0.2.2.2 2 (by decide)) dX5_readLine_81 ?_
        refine kV_is (q0 := 0) (As := [.ref (ak 2)]) (rest := []) ⟨hx, hb, hml, hown, hts⟩ (s_R_isWord l D k ak av _ _ rf tf 2 (show 0 ≤ (rf 3).toInt ∧ (rf 3).toInt ≤ 900 from ⟨by omega, by omega⟩) (show 0 ≤ (rf 5).toInt ∧ (rf 5).toInt ≤ 900 from ⟨by omega, by omega⟩) (show 0 ≤ (rf 6).toInt ∧ (rf 6).toInt ≤ 900 from ⟨by omega, by omega⟩) (show 0 ≤ (rf 7).toInt ∧ (rf 7).toInt ≤ 900 from ⟨by omega, by omega⟩) (show (rf 6).toInt ≤ (rf 7).toInt from by omega) (show (rf 7).toInt ≤ (rf 5).toInt from by omega) (by omega)) (gV mw_185 mw_186 mw_187 mw_15 mw_188) hd_yX5_isWord rfl rfl ⟨Nat.le_of_ble_eq_true rfl, Nat.le_of_ble_eq_true rfl⟩ hK hN0 hW0 hS (hP.sub [0, 1] rfl) rfl rfl rfl rfl hl.1 rfl (Nat.le_of_ble_eq_true rfl) dX5_readLine_83 ⟨Nat.le_of_ble_eq_true rfl, Nat.le_of_ble_eq_true rfl⟩ (fun r_7 hr_7 => ?_)
        have hr_7 : 0 ≤ r_7.toInt ∧ r_7.toInt ≤ 1 := hr_7
        refine lv_if_eq (tgt := 124) hx hb dX5_readLine_86 (by decide) (fun c_8 => ?_) (fun c_8 => ?_)
        · have c_8 : r_7.toInt = 0 := ti_eq c_8
          have qc_8 : r_7 = 0 := ti_of (show r_7.toInt = 0 from by omega)
          refine lv_aload_n hx hb dX5_readLine_124 rfl (lv_at hl 0 rfl) ?_
          refine va_ldcS (own := RX5) (index := 92) (tx := "odds") (q := ak 9) hx hb hown (hW0.2.2.2 9 (by decide)) dX5_readLine_125 ?_
          refine kV_is (q0 := 0) (As := [.ref (ak 9)]) (rest := []) ⟨hx, hb, hml, hown, hts⟩ (s_R_isWord l D k ak av _ _ rf tf 9 (show 0 ≤ (rf 3).toInt ∧ (rf 3).toInt ≤ 900 from ⟨by omega, by omega⟩) (show 0 ≤ (rf 5).toInt ∧ (rf 5).toInt ≤ 900 from ⟨by omega, by omega⟩) (show 0 ≤ (rf 6).toInt ∧ (rf 6).toInt ≤ 900 from ⟨by omega, by omega⟩) (show 0 ≤ (rf 7).toInt ∧ (rf 7).toInt ≤ 900 from ⟨by omega, by omega⟩) (show (rf 6).toInt ≤ (rf 7).toInt from by omega) (show (rf 7).toInt ≤ (rf 5).toInt from by omega) (by omega)) (gV mw_185 mw_186 mw_187 mw_15 mw_188) hd_yX5_isWord rfl rfl ⟨Nat.le_of_ble_eq_true rfl, Nat.le_of_ble_eq_true rfl⟩ hK hN0 hW0 hS (hP.sub [0, 1] rfl) rfl rfl rfl rfl hl.1 rfl (Nat.le_of_ble_eq_true rfl) dX5_readLine_127 ⟨Nat.le_of_ble_eq_true rfl, Nat.le_of_ble_eq_true rfl⟩ (fun r_9 hr_9 => ?_)
          have hr_9 : 0 ≤ r_9.toInt ∧ r_9.toInt ≤ 1 := hr_9
          refine lv_if_eq (tgt := 154) hx hb dX5_readLine_130 (by decide) (fun c_10 => ?_) (fun c_10 => ?_)
          · have c_10 : r_9.toInt = 0 := ti_eq c_10
            have qc_10 : r_9 = 0 := ti_of (show r_9.toInt = 0 from by omega)
            refine lv_aload_n hx hb dX5_readLine_154 rfl (lv_at hl 0 rfl) ?_
            refine lv_iconst (v := 2) hx hb dX5_readLine_155 (by decide) ?_
            refine kV_uv (q0 := 0) (As := [.int 2]) (rest := []) (wr := [((rd 1), .inl (k 2, 900, .inl tf)), ((rw 0), .inr (5, [.int (y 0), .int (y 1), .int (y 2), .int (y 3), .int (y 4), .int (y 5), .int (y 6), .int (y 7), .int (y 8), .int (y 9), .int (y 10), .ref (rw 1), .ref (rw 2), .ref (rw 3), .ref (rw 4), .ref (rw 5)])), ((rw 1), .inl (k 0, 10, .inl (g 1))), ((rw 3), .inl (k 0, 60, .inl (g 3)))]) ⟨hx, hb, hml, hown, hts⟩ (s_R_fail l D k _ _ rf 2 _) (gV mw_171 mw_172 mw_173 mw_15 mw_174) hd_yX5_fail rfl rfl ⟨Nat.le_of_ble_eq_true rfl, Nat.le_of_ble_eq_true rfl⟩ hK hN0 hP hD hS hA [0] [1, 2, 3, 4] rfl rfl (by decide) (by decide) (by decide) rfl rfl rfl rfl hl.1 rfl (Nat.le_of_ble_eq_true rfl) dX5_readLine_156 ⟨Nat.le_of_ble_eq_true rfl, Nat.le_of_ble_eq_true rfl⟩ (fun u_12 H locs hw hP hD hS => ?_)
            obtain ⟨v_13, v_14⟩ := u_12
            have hP : va_P D vwCl [((rd 1), .inl (k 2, 900, .inl tf)), ((rw 0), .inr (5, [.int (y 0), .int (y 1), .int (y 2), .int (y 3), .int (y 4), .int (y 5), .int (y 6), .int (y 7), .int (y 8), .int (y 9), .int (y 10), .ref (rw 1), .ref (rw 2), .ref (rw 3), .ref (rw 4), .ref (rw 5)])), ((rw 1), .inl (k 0, 10, .inl (g 1))), ((rw 3), .inl (k 0, 60, .inl (g 3))), ((rd 0), .inr (4, [.ref (rw 0), .int v_13, .int v_14, .int (rf 3), .ref (rd 1), .int (rf 5), .int (rf 6), .int (rf 7), .int 0, .int (rf 9)]))] H := hP
            have hD : va_D A [((rd 1), .inl (k 2, 900, .inl tf)), ((rw 0), .inr (5, [.int (y 0), .int (y 1), .int (y 2), .int (y 3), .int (y 4), .int (y 5), .int (y 6), .int (y 7), .int (y 8), .int (y 9), .int (y 10), .ref (rw 1), .ref (rw 2), .ref (rw 3), .ref (rw 4), .ref (rw 5)])), ((rw 1), .inl (k 0, 10, .inl (g 1))), ((rw 3), .inl (k 0, 60, .inl (g 3))), ((rd 0), .inr (4, [.ref (rw 0), .int v_13, .int v_14, .int (rf 3), .ref (rd 1), .int (rf 5), .int (rf 6), .int (rf 7), .int 0, .int (rf 9)]))] := hD
            refine lv_aload_n hx hb dX5_readLine_159 rfl (lv_at hl 0 rfl) ?_
            refine kV_uv (q0 := 0) (As := []) (rest := []) (wr := [((rw 1), .inl (k 0, 10, .inl (g 1))), ((rw 3), .inl (k 0, 60, .inl (g 3)))]) ⟨hx, hb, hml, hown, hts⟩ (s_R_endLine l D k _ _ (va_seli [0, v_13, v_14, (rf 3), 0, (rf 5), (rf 6), (rf 7), 0, (rf 9)]) tf y _ (show 0 ≤ (rf 3).toInt ∧ (rf 3).toInt ≤ 900 from ⟨by omega, by omega⟩) (show 0 ≤ (rf 5).toInt ∧ (rf 5).toInt ≤ 900 from ⟨by omega, by omega⟩) (show 0 ≤ (rf 6).toInt ∧ (rf 6).toInt ≤ 900 from ⟨by omega, by omega⟩) (show 0 ≤ (rf 7).toInt ∧ (rf 7).toInt ≤ 900 from ⟨by omega, by omega⟩) (show (rf 6).toInt ≤ (rf 7).toInt from by omega) (show (rf 7).toInt ≤ (rf 5).toInt from by omega) (show 0 ≤ (y 0).toInt ∧ (y 0).toInt ≤ 10 from ⟨by omega, by omega⟩) (show 0 ≤ (y 2).toInt ∧ (y 2).toInt ≤ 6 from ⟨by omega, by omega⟩) (show 0 ≤ (y 6).toInt ∧ (y 6).toInt ≤ 1 from ⟨by omega, by omega⟩)) (gV mw_270 mw_271 mw_272 mw_15 mw_273) hd_yX5_endLine rfl rfl ⟨Nat.le_of_ble_eq_true rfl, Nat.le_of_ble_eq_true rfl⟩ hK hN0 hP hD hS hA [4, 0, 1] [2, 3] rfl rfl (by decide) (by decide) (by decide) rfl rfl rfl rfl hl.1 rfl (Nat.le_of_ble_eq_true rfl) dX5_readLine_160 ⟨Nat.le_of_ble_eq_true rfl, Nat.le_of_ble_eq_true rfl⟩ (fun u_16 H locs hw hP hD hS => ?_)
            obtain ⟨v_17, v_18⟩ := u_16
            obtain ⟨h_19, h_20, h_21, h_22, h_23, h_24, h_25, h_26, h_27, h_28⟩ := hw
            have h_19 : 0 ≤ (v_17 3).toInt ∧ (v_17 3).toInt ≤ 900 := h_19
            have h_20 : 0 ≤ (v_17 5).toInt ∧ (v_17 5).toInt ≤ 900 := h_20
            have h_21 : 0 ≤ (v_17 6).toInt ∧ (v_17 6).toInt ≤ 900 := h_21
            have h_22 : 0 ≤ (v_17 7).toInt ∧ (v_17 7).toInt ≤ 900 := h_22
            have h_23 : (v_17 6).toInt ≤ (v_17 7).toInt := h_23
            have h_24 : (v_17 7).toInt ≤ (v_17 5).toInt := h_24
            have h_25 : (v_17 3).toInt = (rf 3).toInt := h_25
            have h_26 : 0 ≤ (v_18 0).toInt ∧ (v_18 0).toInt ≤ 10 := h_26
            have h_27 : 0 ≤ (v_18 2).toInt ∧ (v_18 2).toInt ≤ 6 := h_27
            have h_28 : 0 ≤ (v_18 6).toInt ∧ (v_18 6).toInt ≤ 1 := h_28
            have hP : va_P D vwCl [((rw 1), .inl (k 0, 10, .inl (g 1))), ((rw 3), .inl (k 0, 60, .inl (g 3))), ((rd 0), .inr (4, [.ref (rw 0), .int (v_17 1), .int (v_17 2), .int (v_17 3), .ref (rd 1), .int (v_17 5), .int (v_17 6), .int (v_17 7), .int (v_17 8), .int (v_17 9)])), ((rd 1), .inl (k 2, 900, .inl tf)), ((rw 0), .inr (5, [.int (v_18 0), .int (v_18 1), .int (v_18 2), .int (v_18 3), .int (v_18 4), .int (v_18 5), .int (v_18 6), .int (v_18 7), .int (v_18 8), .int (v_18 9), .int (v_18 10), .ref (rw 1), .ref (rw 2), .ref (rw 3), .ref (rw 4), .ref (rw 5)]))] H := hP
            have hD : va_D A [((rw 1), .inl (k 0, 10, .inl (g 1))), ((rw 3), .inl (k 0, 60, .inl (g 3))), ((rd 0), .inr (4, [.ref (rw 0), .int (v_17 1), .int (v_17 2), .int (v_17 3), .ref (rd 1), .int (v_17 5), .int (v_17 6), .int (v_17 7), .int (v_17 8), .int (v_17 9)])), ((rd 1), .inl (k 2, 900, .inl tf)), ((rw 0), .inr (5, [.int (v_18 0), .int (v_18 1), .int (v_18 2), .int (v_18 3), .int (v_18 4), .int (v_18 5), .int (v_18 6), .int (v_18 7), .int (v_18 8), .int (v_18 9), .int (v_18 10), .ref (rw 1), .ref (rw 2), .ref (rw 3), .ref (rw 4), .ref (rw 5)]))] := hD
            exact W.vret hx hb hr (fun t ht hW => ⟨⟨((va_seli [0, (v_17 1), (v_17 2), (v_17 3), 0, (v_17 5), (v_17 6), (v_17 7), (v_17 8), (v_17 9)]), (va_seli [(v_18 0), (v_18 1), (v_18 2), (v_18 3), (v_18 4), (v_18 5), (v_18 6), (v_18 7), (v_18 8), (v_18 9), (v_18 10)]), (va_selg [(fun _ => 0), (g 1), (fun _ => 0), (g 3)])), rfl, ⟨(show 0 ≤ (v_17 3).toInt ∧ (v_17 3).toInt ≤ 900 from ⟨by omega, by omega⟩), (show 0 ≤ (v_17 5).toInt ∧ (v_17 5).toInt ≤ 900 from ⟨by omega, by omega⟩), (show 0 ≤ (v_17 6).toInt ∧ (v_17 6).toInt ≤ 900 from ⟨by omega, by omega⟩), (show 0 ≤ (v_17 7).toInt ∧ (v_17 7).toInt ≤ 900 from ⟨by omega, by omega⟩), (show (v_17 6).toInt ≤ (v_17 7).toInt from by omega), (show (v_17 7).toInt ≤ (v_17 5).toInt from by omega), (show (v_17 3).toInt = (rf 3).toInt from by omega), (show 0 ≤ (v_18 0).toInt ∧ (v_18 0).toInt ≤ 10 from ⟨by omega, by omega⟩), (show 0 ≤ (v_18 2).toInt ∧ (v_18 2).toInt ≤ 6 from ⟨by omega, by omega⟩), (show 0 ≤ (v_18 6).toInt ∧ (v_18 6).toInt ≤ 1 from ⟨by omega, by omega⟩), (show ∀ j : Nat, 0 ≤ ((g 1) j).toInt ∧ ((g 1) j).toInt ≤ 6 from w_hd)⟩, by rw [ht]; exact hP.sub [2, 3, 4, 0, 1] rfl, hD.sub [2, 3, 4, 0, 1] (by decide) rfl⟩, hS.F ht⟩) hS.2.2 dX5_readLine_163
          · have c_10 : r_9.toInt ≠ 0 := ti_ne c_10
            have qc_10 : r_9 = 1 := ti_of (show r_9.toInt = 1 from by omega)
            refine lv_aload_n hx hb dX5_readLine_133 rfl (lv_at hl 0 rfl) ?_
            refine kV_uv (q0 := 0) (As := []) (rest := []) (wr := [((rw 0), .inr (5, [.int (y 0), .int (y 1), .int (y 2), .int (y 3), .int (y 4), .int (y 5), .int (y 6), .int (y 7), .int (y 8), .int (y 9), .int (y 10), .ref (rw 1), .ref (rw 2), .ref (rw 3), .ref (rw 4), .ref (rw 5)])), ((rw 1), .inl (k 0, 10, .inl (g 1))), ((rw 3), .inl (k 0, 60, .inl (g 3)))]) ⟨hx, hb, hml, hown, hts⟩ (s_R_advance l D k _ _ rf tf _ (show 0 ≤ (rf 3).toInt ∧ (rf 3).toInt ≤ 900 from ⟨by omega, by omega⟩) (show 0 ≤ (rf 5).toInt ∧ (rf 5).toInt ≤ 900 from ⟨by omega, by omega⟩) (show 0 ≤ (rf 7).toInt ∧ (rf 7).toInt ≤ 900 from ⟨by omega, by omega⟩) (show (rf 7).toInt ≤ (rf 5).toInt from by omega)) (gV mw_159 mw_160 mw_161 mw_15 mw_162) hd_yX5_advance rfl rfl ⟨Nat.le_of_ble_eq_true rfl, Nat.le_of_ble_eq_true rfl⟩ hK hN0 hP hD hS hA [0, 1] [2, 3, 4] rfl rfl (by decide) (by decide) (by decide) rfl rfl rfl rfl hl.1 rfl (Nat.le_of_ble_eq_true rfl) dX5_readLine_134 ⟨Nat.le_of_ble_eq_true rfl, Nat.le_of_ble_eq_true rfl⟩ (fun u_30 H locs hw hP hD hS => ?_)
            obtain ⟨v_31, rfl⟩ : ∃ z, z = u_30 := ⟨_, rfl⟩
            obtain ⟨h_32, h_33, h_34, h_35, h_36, h_37, h_38⟩ := hw
            have h_32 : 0 ≤ (v_31 3).toInt ∧ (v_31 3).toInt ≤ 900 := h_32
            have h_33 : 0 ≤ (v_31 5).toInt ∧ (v_31 5).toInt ≤ 900 := h_33
            have h_34 : 0 ≤ (v_31 6).toInt ∧ (v_31 6).toInt ≤ 900 := h_34
            have h_35 : 0 ≤ (v_31 7).toInt ∧ (v_31 7).toInt ≤ 900 := h_35
            have h_36 : (v_31 6).toInt ≤ (v_31 7).toInt := h_36
            have h_37 : (v_31 7).toInt ≤ (v_31 5).toInt := h_37
            have h_38 : (v_31 3).toInt = (rf 3).toInt := h_38
            have hP : va_P D vwCl [((rw 0), .inr (5, [.int (y 0), .int (y 1), .int (y 2), .int (y 3), .int (y 4), .int (y 5), .int (y 6), .int (y 7), .int (y 8), .int (y 9), .int (y 10), .ref (rw 1), .ref (rw 2), .ref (rw 3), .ref (rw 4), .ref (rw 5)])), ((rw 1), .inl (k 0, 10, .inl (g 1))), ((rw 3), .inl (k 0, 60, .inl (g 3))), ((rd 0), .inr (4, [.ref (rw 0), .int (v_31 1), .int (v_31 2), .int (v_31 3), .ref (rd 1), .int (v_31 5), .int (v_31 6), .int (v_31 7), .int (v_31 8), .int (v_31 9)])), ((rd 1), .inl (k 2, 900, .inl tf))] H := hP
            have hD : va_D A [((rw 0), .inr (5, [.int (y 0), .int (y 1), .int (y 2), .int (y 3), .int (y 4), .int (y 5), .int (y 6), .int (y 7), .int (y 8), .int (y 9), .int (y 10), .ref (rw 1), .ref (rw 2), .ref (rw 3), .ref (rw 4), .ref (rw 5)])), ((rw 1), .inl (k 0, 10, .inl (g 1))), ((rw 3), .inl (k 0, 60, .inl (g 3))), ((rd 0), .inr (4, [.ref (rw 0), .int (v_31 1), .int (v_31 2), .int (v_31 3), .ref (rd 1), .int (v_31 5), .int (v_31 6), .int (v_31 7), .int (v_31 8), .int (v_31 9)])), ((rd 1), .inl (k 2, 900, .inl tf))] := hD
            refine lv_aload_n hx hb dX5_readLine_137 rfl (lv_at hl 0 rfl) ?_
            refine va_get (D := D) (ci := 4) (v := .ref (rw 0)) (C := RX5) (T := TX5) (N := 10) hx hb hts inlX5 hown hK hP 3 rfl rfl 0 (by decide) (hts _ mw_47) (fun _ h9 => h9) rfl dX5_readLine_138 ?_
            refine lv_aload_n hx hb dX5_readLine_141 rfl (lv_at hl 0 rfl) ?_
            refine lv_iconst (v := 2) hx hb dX5_readLine_142 (by decide) ?_
            refine lv_bipush (v := 6) hx hb dX5_readLine_143 (by decide) ?_
            refine kV_ui (q0 := 0) (As := [.int 2, .int 6]) (rest := [.ref (rw 0)]) (wr := [((rw 0), .inr (5, [.int (y 0), .int (y 1), .int (y 2), .int (y 3), .int (y 4), .int (y 5), .int (y 6), .int (y 7), .int (y 8), .int (y 9), .int (y 10), .ref (rw 1), .ref (rw 2), .ref (rw 3), .ref (rw 4), .ref (rw 5)])), ((rw 1), .inl (k 0, 10, .inl (g 1))), ((rw 3), .inl (k 0, 60, .inl (g 3)))]) ⟨hx, hb, hml, hown, hts⟩ (s_R_readNumber l D k _ _ v_31 tf 2 6 _ (show 0 ≤ (v_31 3).toInt ∧ (v_31 3).toInt ≤ 900 from ⟨by omega, by omega⟩) (show 0 ≤ (v_31 5).toInt ∧ (v_31 5).toInt ≤ 900 from ⟨by omega, by omega⟩) (show 0 ≤ (v_31 6).toInt ∧ (v_31 6).toInt ≤ 900 from ⟨by omega, by omega⟩) (show 0 ≤ (v_31 7).toInt ∧ (v_31 7).toInt ≤ 900 from ⟨by omega, by omega⟩) (show (v_31 6).toInt ≤ (v_31 7).toInt from by omega) (show (v_31 7).toInt ≤ (v_31 5).toInt from by omega)) (gV mw_248 mw_249 mw_250 mw_15 mw_251) hd_yX5_readNumber rfl rfl ⟨Nat.le_of_ble_eq_true rfl, Nat.le_of_ble_eq_true rfl⟩ hK hN0 hP hD hS hA [3, 4] [0, 1, 2] rfl rfl (by decide) (by decide) (by decide) rfl rfl rfl rfl hl.1 rfl (Nat.le_of_ble_eq_true rfl) dX5_readLine_145 ⟨Nat.le_of_ble_eq_true rfl, Nat.le_of_ble_eq_true rfl⟩ (fun r_39 u_40 H locs hw hP hD hS => ?_)
            obtain ⟨v_41, rfl⟩ : ∃ z, z = u_40 := ⟨_, rfl⟩
            obtain ⟨hr_39, h_42, h_43, h_44, h_45, h_46, h_47, h_48⟩ := hw
            have h_42 : 0 ≤ (v_41 3).toInt ∧ (v_41 3).toInt ≤ 900 := h_42
            have h_43 : 0 ≤ (v_41 5).toInt ∧ (v_41 5).toInt ≤ 900 := h_43
            have h_44 : 0 ≤ (v_41 6).toInt ∧ (v_41 6).toInt ≤ 900 := h_44
            have h_45 : 0 ≤ (v_41 7).toInt ∧ (v_41 7).toInt ≤ 900 := h_45
            have h_46 : (v_41 6).toInt ≤ (v_41 7).toInt := h_46
            have h_47 : (v_41 7).toInt ≤ (v_41 5).toInt := h_47
            have h_48 : (v_41 3).toInt = (v_31 3).toInt := h_48
            have hP : va_P D vwCl [((rw 0), .inr (5, [.int (y 0), .int (y 1), .int (y 2), .int (y 3), .int (y 4), .int (y 5), .int (y 6), .int (y 7), .int (y 8), .int (y 9), .int (y 10), .ref (rw 1), .ref (rw 2), .ref (rw 3), .ref (rw 4), .ref (rw 5)])), ((rw 1), .inl (k 0, 10, .inl (g 1))), ((rw 3), .inl (k 0, 60, .inl (g 3))), ((rd 0), .inr (4, [.ref (rw 0), .int (v_41 1), .int (v_41 2), .int (v_41 3), .ref (rd 1), .int (v_41 5), .int (v_41 6), .int (v_41 7), .int (v_41 8), .int (v_41 9)])), ((rd 1), .inl (k 2, 900, .inl tf))] H := hP
            have hD : va_D A [((rw 0), .inr (5, [.int (y 0), .int (y 1), .int (y 2), .int (y 3), .int (y 4), .int (y 5), .int (y 6), .int (y 7), .int (y 8), .int (y 9), .int (y 10), .ref (rw 1), .ref (rw 2), .ref (rw 3), .ref (rw 4), .ref (rw 5)])), ((rw 1), .inl (k 0, 10, .inl (g 1))), ((rw 3), .inl (k 0, 60, .inl (g 3))), ((rd 0), .inr (4, [.ref (rw 0), .int (v_41 1), .int (v_41 2), .int (v_41 3), .ref (rd 1), .int (v_41 5), .int (v_41 6), .int (v_41 7), .int (v_41 8), .int (v_41 9)])), ((rd 1), .inl (k 2, 900, .inl tf))] := hD
            refine va_put (D := D) (ci := 5) (v := .int r_39) (ty := .int) (C := RX6) (T := TX6) (N := 16) hx hb hts inlX6 tyX6 tyX6_ok nmX6 hown hK hP hD hS 0 rfl rfl 5 (by decide) (hts _ mw_184) (fun _ h9 => h9) rfl (by decide +kernel) rfl rfl (Nat.le_of_ble_eq_true rfl) dX5_readLine_148 (fun H locs hP hD hS => ?_)
            have hP : va_P D vwCl [((rw 0), .inr (5, [.int (y 0), .int (y 1), .int (y 2), .int (y 3), .int (y 4), .int r_39, .int (y 6), .int (y 7), .int (y 8), .int (y 9), .int (y 10), .ref (rw 1), .ref (rw 2), .ref (rw 3), .ref (rw 4), .ref (rw 5)])), ((rw 1), .inl (k 0, 10, .inl (g 1))), ((rw 3), .inl (k 0, 60, .inl (g 3))), ((rd 0), .inr (4, [.ref (rw 0), .int (v_41 1), .int (v_41 2), .int (v_41 3), .ref (rd 1), .int (v_41 5), .int (v_41 6), .int (v_41 7), .int (v_41 8), .int (v_41 9)])), ((rd 1), .inl (k 2, 900, .inl tf))] H := hP
            have hD : va_D A [((rw 0), .inr (5, [.int (y 0), .int (y 1), .int (y 2), .int (y 3), .int (y 4), .int r_39, .int (y 6), .int (y 7), .int (y 8), .int (y 9), .int (y 10), .ref (rw 1), .ref (rw 2), .ref (rw 3), .ref (rw 4), .ref (rw 5)])), ((rw 1), .inl (k 0, 10, .inl (g 1))), ((rw 3), .inl (k 0, 60, .inl (g 3))), ((rd 0), .inr (4, [.ref (rw 0), .int (v_41 1), .int (v_41 2), .int (v_41 3), .ref (rd 1), .int (v_41 5), .int (v_41 6), .int (v_41 7), .int (v_41 8), .int (v_41 9)])), ((rd 1), .inl (k 2, 900, .inl tf))] := hD
            refine lv_goto (tgt := 159) hx hb dX5_readLine_151 (by decide) ?_
            refine lv_aload_n hx hb dX5_readLine_159 rfl (lv_at hl 0 rfl) ?_
            refine kV_uv (q0 := 0) (As := []) (rest := []) (wr := [((rw 1), .inl (k 0, 10, .inl (g 1))), ((rw 3), .inl (k 0, 60, .inl (g 3)))]) ⟨hx, hb, hml, hown, hts⟩ (s_R_endLine l D k _ _ v_41 tf (va_seli [(y 0), (y 1), (y 2), (y 3), (y 4), r_39, (y 6), (y 7), (y 8), (y 9), (y 10)]) _ (show 0 ≤ (v_41 3).toInt ∧ (v_41 3).toInt ≤ 900 from ⟨by omega, by omega⟩) (show 0 ≤ (v_41 5).toInt ∧ (v_41 5).toInt ≤ 900 from ⟨by omega, by omega⟩) (show 0 ≤ (v_41 6).toInt ∧ (v_41 6).toInt ≤ 900 from ⟨by omega, by omega⟩) (show 0 ≤ (v_41 7).toInt ∧ (v_41 7).toInt ≤ 900 from ⟨by omega, by omega⟩) (show (v_41 6).toInt ≤ (v_41 7).toInt from by omega) (show (v_41 7).toInt ≤ (v_41 5).toInt from by omega) (show 0 ≤ (y 0).toInt ∧ (y 0).toInt ≤ 10 from ⟨by omega, by omega⟩) (show 0 ≤ (y 2).toInt ∧ (y 2).toInt ≤ 6 from ⟨by omega, by omega⟩) (show 0 ≤ (y 6).toInt ∧ (y 6).toInt ≤ 1 from ⟨by omega, by omega⟩)) (gV mw_270 mw_271 mw_272 mw_15 mw_273) hd_yX5_endLine rfl rfl ⟨Nat.le_of_ble_eq_true rfl, Nat.le_of_ble_eq_true rfl⟩ hK hN0 hP hD hS hA [3, 4, 0] [1, 2] rfl rfl (by decide) (by decide) (by decide) rfl rfl rfl rfl hl.1 rfl (Nat.le_of_ble_eq_true rfl) dX5_readLine_160 ⟨Nat.le_of_ble_eq_true rfl, Nat.le_of_ble_eq_true rfl⟩ (fun u_50 H locs hw hP hD hS => ?_)
            obtain ⟨v_51, v_52⟩ := u_50
            obtain ⟨h_53, h_54, h_55, h_56, h_57, h_58, h_59, h_60, h_61, h_62⟩ := hw
            have h_53 : 0 ≤ (v_51 3).toInt ∧ (v_51 3).toInt ≤ 900 := h_53
            have h_54 : 0 ≤ (v_51 5).toInt ∧ (v_51 5).toInt ≤ 900 := h_54
            have h_55 : 0 ≤ (v_51 6).toInt ∧ (v_51 6).toInt ≤ 900 := h_55
            have h_56 : 0 ≤ (v_51 7).toInt ∧ (v_51 7).toInt ≤ 900 := h_56
            have h_57 : (v_51 6).toInt ≤ (v_51 7).toInt := h_57
            have h_58 : (v_51 7).toInt ≤ (v_51 5).toInt := h_58
            have h_59 : (v_51 3).toInt = (v_41 3).toInt := h_59
            have h_60 : 0 ≤ (v_52 0).toInt ∧ (v_52 0).toInt ≤ 10 := h_60
            have h_61 : 0 ≤ (v_52 2).toInt ∧ (v_52 2).toInt ≤ 6 := h_61
            have h_62 : 0 ≤ (v_52 6).toInt ∧ (v_52 6).toInt ≤ 1 := h_62
            have hP : va_P D vwCl [((rw 1), .inl (k 0, 10, .inl (g 1))), ((rw 3), .inl (k 0, 60, .inl (g 3))), ((rd 0), .inr (4, [.ref (rw 0), .int (v_51 1), .int (v_51 2), .int (v_51 3), .ref (rd 1), .int (v_51 5), .int (v_51 6), .int (v_51 7), .int (v_51 8), .int (v_51 9)])), ((rd 1), .inl (k 2, 900, .inl tf)), ((rw 0), .inr (5, [.int (v_52 0), .int (v_52 1), .int (v_52 2), .int (v_52 3), .int (v_52 4), .int (v_52 5), .int (v_52 6), .int (v_52 7), .int (v_52 8), .int (v_52 9), .int (v_52 10), .ref (rw 1), .ref (rw 2), .ref (rw 3), .ref (rw 4), .ref (rw 5)]))] H := hP
            have hD : va_D A [((rw 1), .inl (k 0, 10, .inl (g 1))), ((rw 3), .inl (k 0, 60, .inl (g 3))), ((rd 0), .inr (4, [.ref (rw 0), .int (v_51 1), .int (v_51 2), .int (v_51 3), .ref (rd 1), .int (v_51 5), .int (v_51 6), .int (v_51 7), .int (v_51 8), .int (v_51 9)])), ((rd 1), .inl (k 2, 900, .inl tf)), ((rw 0), .inr (5, [.int (v_52 0), .int (v_52 1), .int (v_52 2), .int (v_52 3), .int (v_52 4), .int (v_52 5), .int (v_52 6), .int (v_52 7), .int (v_52 8), .int (v_52 9), .int (v_52 10), .ref (rw 1), .ref (rw 2), .ref (rw 3), .ref (rw 4), .ref (rw 5)]))] := hD
            exact W.vret hx hb hr (fun t ht hW => ⟨⟨((va_seli [0, (v_51 1), (v_51 2), (v_51 3), 0, (v_51 5), (v_51 6), (v_51 7), (v_51 8), (v_51 9)]), (va_seli [(v_52 0), (v_52 1), (v_52 2), (v_52 3), (v_52 4), (v_52 5), (v_52 6), (v_52 7), (v_52 8), (v_52 9), (v_52 10)]), (va_selg [(fun _ => 0), (g 1), (fun _ => 0), (g 3)])), rfl, ⟨(show 0 ≤ (v_51 3).toInt ∧ (v_51 3).toInt ≤ 900 from ⟨by omega, by omega⟩), (show 0 ≤ (v_51 5).toInt ∧ (v_51 5).toInt ≤ 900 from ⟨by omega, by omega⟩), (show 0 ≤ (v_51 6).toInt ∧ (v_51 6).toInt ≤ 900 from ⟨by omega, by omega⟩), (show 0 ≤ (v_51 7).toInt ∧ (v_51 7).toInt ≤ 900 from ⟨by omega, by omega⟩), (show (v_51 6).toInt ≤ (v_51 7).toInt from by omega), (show (v_51 7).toInt ≤ (v_51 5).toInt from by omega), (show (v_51 3).toInt = (rf 3).toInt from by omega), (show 0 ≤ (v_52 0).toInt ∧ (v_52 0).toInt ≤ 10 from ⟨by omega, by omega⟩), (show 0 ≤ (v_52 2).toInt ∧ (v_52 2).toInt ≤ 6 from ⟨by omega, by omega⟩), (show 0 ≤ (v_52 6).toInt ∧ (v_52 6).toInt ≤ 1 from ⟨by omega, by omega⟩), (show ∀ j : Nat, 0 ≤ ((g 1) j).toInt ∧ ((g 1) j).toInt ≤ 6 from w_hd)⟩, by rw [ht]; exact hP.sub [2, 3, 4, 0, 1] rfl, hD.sub [2, 3, 4, 0, 1] (by decide) rfl⟩, hS.F ht⟩) hS.2.2 dX5_readLine_163
        · have c_8 : r_7.toInt ≠ 0 := ti_ne c_8
          have qc_8 : r_7 = 1 := ti_of (show r_7.toInt = 1 from by omega)
          refine lv_aload_n hx hb dX5_readLine_89 rfl (lv_at hl 0 rfl) ?_
          refine kV_uv (q0 := 0) (As := []) (rest := []) (wr := [((rw 0), .inr (5, [.int (y 0), .int (y 1), .int (y 2), .int (y 3), .int (y 4), .int (y 5), .int (y 6), .int (y 7), .int (y 8), .int (y 9), .int (y 10), .ref (rw 1), .ref (rw 2), .ref (rw 3), .ref (rw 4), .ref (rw 5)])), ((rw 1), .inl (k 0, 10, .inl (g 1))), ((rw 3), .inl (k 0, 60, .inl (g 3)))]) ⟨hx, hb, hml, hown, hts⟩ (s_R_advance l D k _ _ rf tf _ (show 0 ≤ (rf 3).toInt ∧ (rf 3).toInt ≤ 900 from ⟨by omega, by omega⟩) (show 0 ≤ (rf 5).toInt ∧ (rf 5).toInt ≤ 900 from ⟨by omega, by omega⟩) (show 0 ≤ (rf 7).toInt ∧ (rf 7).toInt ≤ 900 from ⟨by omega, by omega⟩) (show (rf 7).toInt ≤ (rf 5).toInt from by omega)) (gV mw_159 mw_160 mw_161 mw_15 mw_162) hd_yX5_advance rfl rfl ⟨Nat.le_of_ble_eq_true rfl, Nat.le_of_ble_eq_true rfl⟩ hK hN0 hP hD hS hA [0, 1] [2, 3, 4] rfl rfl (by decide) (by decide) (by decide) rfl rfl rfl rfl hl.1 rfl (Nat.le_of_ble_eq_true rfl) dX5_readLine_90 ⟨Nat.le_of_ble_eq_true rfl, Nat.le_of_ble_eq_true rfl⟩ (fun u_64 H locs hw hP hD hS => ?_)
          obtain ⟨v_65, rfl⟩ : ∃ z, z = u_64 := ⟨_, rfl⟩
          obtain ⟨h_66, h_67, h_68, h_69, h_70, h_71, h_72⟩ := hw
          have h_66 : 0 ≤ (v_65 3).toInt ∧ (v_65 3).toInt ≤ 900 := h_66
          have h_67 : 0 ≤ (v_65 5).toInt ∧ (v_65 5).toInt ≤ 900 := h_67
          have h_68 : 0 ≤ (v_65 6).toInt ∧ (v_65 6).toInt ≤ 900 := h_68
          have h_69 : 0 ≤ (v_65 7).toInt ∧ (v_65 7).toInt ≤ 900 := h_69
          have h_70 : (v_65 6).toInt ≤ (v_65 7).toInt := h_70
          have h_71 : (v_65 7).toInt ≤ (v_65 5).toInt := h_71
          have h_72 : (v_65 3).toInt = (rf 3).toInt := h_72
          have hP : va_P D vwCl [((rw 0), .inr (5, [.int (y 0), .int (y 1), .int (y 2), .int (y 3), .int (y 4), .int (y 5), .int (y 6), .int (y 7), .int (y 8), .int (y 9), .int (y 10), .ref (rw 1), .ref (rw 2), .ref (rw 3), .ref (rw 4), .ref (rw 5)])), ((rw 1), .inl (k 0, 10, .inl (g 1))), ((rw 3), .inl (k 0, 60, .inl (g 3))), ((rd 0), .inr (4, [.ref (rw 0), .int (v_65 1), .int (v_65 2), .int (v_65 3), .ref (rd 1), .int (v_65 5), .int (v_65 6), .int (v_65 7), .int (v_65 8), .int (v_65 9)])), ((rd 1), .inl (k 2, 900, .inl tf))] H := hP
          have hD : va_D A [((rw 0), .inr (5, [.int (y 0), .int (y 1), .int (y 2), .int (y 3), .int (y 4), .int (y 5), .int (y 6), .int (y 7), .int (y 8), .int (y 9), .int (y 10), .ref (rw 1), .ref (rw 2), .ref (rw 3), .ref (rw 4), .ref (rw 5)])), ((rw 1), .inl (k 0, 10, .inl (g 1))), ((rw 3), .inl (k 0, 60, .inl (g 3))), ((rd 0), .inr (4, [.ref (rw 0), .int (v_65 1), .int (v_65 2), .int (v_65 3), .ref (rd 1), .int (v_65 5), .int (v_65 6), .int (v_65 7), .int (v_65 8), .int (v_65 9)])), ((rd 1), .inl (k 2, 900, .inl tf))] := hD
          refine lv_aload_n hx hb dX5_readLine_93 rfl (lv_at hl 0 rfl) ?_
          refine va_get (D := D) (ci := 4) (v := .ref (rw 0)) (C := RX5) (T := TX5) (N := 10) hx hb hts inlX5 hown hK hP 3 rfl rfl 0 (by decide) (hts _ mw_47) (fun _ h9 => h9) rfl dX5_readLine_94 ?_
          refine lv_aload_n hx hb dX5_readLine_97 rfl (lv_at hl 0 rfl) ?_
          refine lv_iconst (v := 1) hx hb dX5_readLine_98 (by decide) ?_
          refine lv_bipush (v := 30) hx hb dX5_readLine_99 (by decide) ?_
          refine kV_ui (q0 := 0) (As := [.int 1, .int 30]) (rest := [.ref (rw 0)]) (wr := [((rw 0), .inr (5, [.int (y 0), .int (y 1), .int (y 2), .int (y 3), .int (y 4), .int (y 5), .int (y 6), .int (y 7), .int (y 8), .int (y 9), .int (y 10), .ref (rw 1), .ref (rw 2), .ref (rw 3), .ref (rw 4), .ref (rw 5)])), ((rw 1), .inl (k 0, 10, .inl (g 1))), ((rw 3), .inl (k 0, 60, .inl (g 3)))]) ⟨hx, hb, hml, hown, hts⟩ (s_R_readNumber l D k _ _ v_65 tf 1 30 _ (show 0 ≤ (v_65 3).toInt ∧ (v_65 3).toInt ≤ 900 from ⟨by omega, by omega⟩) (show 0 ≤ (v_65 5).toInt ∧ (v_65 5).toInt ≤ 900 from ⟨by omega, by omega⟩) (show 0 ≤ (v_65 6).toInt ∧ (v_65 6).toInt ≤ 900 from ⟨by omega, by omega⟩) (show 0 ≤ (v_65 7).toInt ∧ (v_65 7).toInt ≤ 900 from ⟨by omega, by omega⟩) (show (v_65 6).toInt ≤ (v_65 7).toInt from by omega) (show (v_65 7).toInt ≤ (v_65 5).toInt from by omega)) (gV mw_248 mw_249 mw_250 mw_15 mw_251) hd_yX5_readNumber rfl rfl ⟨Nat.le_of_ble_eq_true rfl, Nat.le_of_ble_eq_true rfl⟩ hK hN0 hP hD hS hA [3, 4] [0, 1, 2] rfl rfl (by decide) (by decide) (by decide) rfl rfl rfl rfl hl.1 rfl (Nat.le_of_ble_eq_true rfl) dX5_readLine_101 ⟨Nat.le_of_ble_eq_true rfl, Nat.le_of_ble_eq_true rfl⟩ (fun r_73 u_74 H locs hw hP hD hS => ?_)
          obtain ⟨v_75, rfl⟩ : ∃ z, z = u_74 := ⟨_, rfl⟩
          obtain ⟨hr_73, h_76, h_77, h_78, h_79, h_80, h_81, h_82⟩ := hw
          have h_76 : 0 ≤ (v_75 3).toInt ∧ (v_75 3).toInt ≤ 900 := h_76
          have h_77 : 0 ≤ (v_75 5).toInt ∧ (v_75 5).toInt ≤ 900 := h_77
          have h_78 : 0 ≤ (v_75 6).toInt ∧ (v_75 6).toInt ≤ 900 := h_78
          have h_79 : 0 ≤ (v_75 7).toInt ∧ (v_75 7).toInt ≤ 900 := h_79
          have h_80 : (v_75 6).toInt ≤ (v_75 7).toInt := h_80
          have h_81 : (v_75 7).toInt ≤ (v_75 5).toInt := h_81
          have h_82 : (v_75 3).toInt = (v_65 3).toInt := h_82
          have hP : va_P D vwCl [((rw 0), .inr (5, [.int (y 0), .int (y 1), .int (y 2), .int (y 3), .int (y 4), .int (y 5), .int (y 6), .int (y 7), .int (y 8), .int (y 9), .int (y 10), .ref (rw 1), .ref (rw 2), .ref (rw 3), .ref (rw 4), .ref (rw 5)])), ((rw 1), .inl (k 0, 10, .inl (g 1))), ((rw 3), .inl (k 0, 60, .inl (g 3))), ((rd 0), .inr (4, [.ref (rw 0), .int (v_75 1), .int (v_75 2), .int (v_75 3), .ref (rd 1), .int (v_75 5), .int (v_75 6), .int (v_75 7), .int (v_75 8), .int (v_75 9)])), ((rd 1), .inl (k 2, 900, .inl tf))] H := hP
          have hD : va_D A [((rw 0), .inr (5, [.int (y 0), .int (y 1), .int (y 2), .int (y 3), .int (y 4), .int (y 5), .int (y 6), .int (y 7), .int (y 8), .int (y 9), .int (y 10), .ref (rw 1), .ref (rw 2), .ref (rw 3), .ref (rw 4), .ref (rw 5)])), ((rw 1), .inl (k 0, 10, .inl (g 1))), ((rw 3), .inl (k 0, 60, .inl (g 3))), ((rd 0), .inr (4, [.ref (rw 0), .int (v_75 1), .int (v_75 2), .int (v_75 3), .ref (rd 1), .int (v_75 5), .int (v_75 6), .int (v_75 7), .int (v_75 8), .int (v_75 9)])), ((rd 1), .inl (k 2, 900, .inl tf))] := hD
          refine va_put (D := D) (ci := 5) (v := .int r_73) (ty := .int) (C := RX6) (T := TX6) (N := 16) hx hb hts inlX6 tyX6 tyX6_ok nmX6 hown hK hP hD hS 0 rfl rfl 3 (by decide) (hts _ mw_182) (fun _ h9 => h9) rfl (by decide +kernel) rfl rfl (Nat.le_of_ble_eq_true rfl) dX5_readLine_104 (fun H locs hP hD hS => ?_)
          have hP : va_P D vwCl [((rw 0), .inr (5, [.int (y 0), .int (y 1), .int (y 2), .int r_73, .int (y 4), .int (y 5), .int (y 6), .int (y 7), .int (y 8), .int (y 9), .int (y 10), .ref (rw 1), .ref (rw 2), .ref (rw 3), .ref (rw 4), .ref (rw 5)])), ((rw 1), .inl (k 0, 10, .inl (g 1))), ((rw 3), .inl (k 0, 60, .inl (g 3))), ((rd 0), .inr (4, [.ref (rw 0), .int (v_75 1), .int (v_75 2), .int (v_75 3), .ref (rd 1), .int (v_75 5), .int (v_75 6), .int (v_75 7), .int (v_75 8), .int (v_75 9)])), ((rd 1), .inl (k 2, 900, .inl tf))] H := hP
          have hD : va_D A [((rw 0), .inr (5, [.int (y 0), .int (y 1), .int (y 2), .int r_73, .int (y 4), .int (y 5), .int (y 6), .int (y 7), .int (y 8), .int (y 9), .int (y 10), .ref (rw 1), .ref (rw 2), .ref (rw 3), .ref (rw 4), .ref (rw 5)])), ((rw 1), .inl (k 0, 10, .inl (g 1))), ((rw 3), .inl (k 0, 60, .inl (g 3))), ((rd 0), .inr (4, [.ref (rw 0), .int (v_75 1), .int (v_75 2), .int (v_75 3), .ref (rd 1), .int (v_75 5), .int (v_75 6), .int (v_75 7), .int (v_75 8), .int (v_75 9)])), ((rd 1), .inl (k 2, 900, .inl tf))] := hD
          refine lv_aload_n hx hb dX5_readLine_107 rfl (lv_at hl 0 rfl) ?_
          refine va_get (D := D) (ci := 4) (v := .ref (rw 0)) (C := RX5) (T := TX5) (N := 10) hx hb hts inlX5 hown hK hP 3 rfl rfl 0 (by decide) (hts _ mw_47) (fun _ h9 => h9) rfl dX5_readLine_108 ?_
          refine lv_aload_n hx hb dX5_readLine_111 rfl (lv_at hl 0 rfl) ?_
          refine lv_iconst (v := 1) hx hb dX5_readLine_112 (by decide) ?_
          refine lv_bipush (v := 30) hx hb dX5_readLine_113 (by decide) ?_
          refine kV_ui (q0 := 0) (As := [.int 1, .int 30]) (rest := [.ref (rw 0)]) (wr := [((rw 0), .inr (5, [.int (y 0), .int (y 1), .int (y 2), .int r_73, .int (y 4), .int (y 5), .int (y 6), .int (y 7), .int (y 8), .int (y 9), .int (y 10), .ref (rw 1), .ref (rw 2), .ref (rw 3), .ref (rw 4), .ref (rw 5)])), ((rw 1), .inl (k 0, 10, .inl (g 1))), ((rw 3), .inl (k 0, 60, .inl (g 3)))]) ⟨hx, hb, hml, hown, hts⟩ (s_R_readNumber l D k _ _ v_75 tf 1 30 _ (show 0 ≤ (v_75 3).toInt ∧ (v_75 3).toInt ≤ 900 from ⟨by omega, by omega⟩) (show 0 ≤ (v_75 5).toInt ∧ (v_75 5).toInt ≤ 900 from ⟨by omega, by omega⟩) (show 0 ≤ (v_75 6).toInt ∧ (v_75 6).toInt ≤ 900 from ⟨by omega, by omega⟩) (show 0 ≤ (v_75 7).toInt ∧ (v_75 7).toInt ≤ 900 from ⟨by omega, by omega⟩) (show (v_75 6).toInt ≤ (v_75 7).toInt from by omega) (show (v_75 7).toInt ≤ (v_75 5).toInt from by omega)) (gV mw_248 mw_249 mw_250 mw_15 mw_251) hd_yX5_readNumber rfl rfl ⟨Nat.le_of_ble_eq_true rfl, Nat.le_of_ble_eq_true rfl⟩ hK hN0 hP hD hS hA [3, 4] [0, 1, 2] rfl rfl (by decide) (by decide) (by decide) rfl rfl rfl rfl hl.1 rfl (Nat.le_of_ble_eq_true rfl) dX5_readLine_115 ⟨Nat.le_of_ble_eq_true rfl, Nat.le_of_ble_eq_true rfl⟩ (fun r_83 u_84 H locs hw hP hD hS => ?_)
          obtain ⟨v_85, rfl⟩ : ∃ z, z = u_84 := ⟨_, rfl⟩
          obtain ⟨hr_83, h_86, h_87, h_88, h_89, h_90, h_91, h_92⟩ := hw
          have h_86 : 0 ≤ (v_85 3).toInt ∧ (v_85 3).toInt ≤ 900 := h_86
          have h_87 : 0 ≤ (v_85 5).toInt ∧ (v_85 5).toInt ≤ 900 := h_87
          have h_88 : 0 ≤ (v_85 6).toInt ∧ (v_85 6).toInt ≤ 900 := h_88
          have h_89 : 0 ≤ (v_85 7).toInt ∧ (v_85 7).toInt ≤ 900 := h_89
          have h_90 : (v_85 6).toInt ≤ (v_85 7).toInt := h_90
          have h_91 : (v_85 7).toInt ≤ (v_85 5).toInt := h_91
          have h_92 : (v_85 3).toInt = (v_75 3).toInt := h_92
          have hP : va_P D vwCl [((rw 0), .inr (5, [.int (y 0), .int (y 1), .int (y 2), .int r_73, .int (y 4), .int (y 5), .int (y 6), .int (y 7), .int (y 8), .int (y 9), .int (y 10), .ref (rw 1), .ref (rw 2), .ref (rw 3), .ref (rw 4), .ref (rw 5)])), ((rw 1), .inl (k 0, 10, .inl (g 1))), ((rw 3), .inl (k 0, 60, .inl (g 3))), ((rd 0), .inr (4, [.ref (rw 0), .int (v_85 1), .int (v_85 2), .int (v_85 3), .ref (rd 1), .int (v_85 5), .int (v_85 6), .int (v_85 7), .int (v_85 8), .int (v_85 9)])), ((rd 1), .inl (k 2, 900, .inl tf))] H := hP
          have hD : va_D A [((rw 0), .inr (5, [.int (y 0), .int (y 1), .int (y 2), .int r_73, .int (y 4), .int (y 5), .int (y 6), .int (y 7), .int (y 8), .int (y 9), .int (y 10), .ref (rw 1), .ref (rw 2), .ref (rw 3), .ref (rw 4), .ref (rw 5)])), ((rw 1), .inl (k 0, 10, .inl (g 1))), ((rw 3), .inl (k 0, 60, .inl (g 3))), ((rd 0), .inr (4, [.ref (rw 0), .int (v_85 1), .int (v_85 2), .int (v_85 3), .ref (rd 1), .int (v_85 5), .int (v_85 6), .int (v_85 7), .int (v_85 8), .int (v_85 9)])), ((rd 1), .inl (k 2, 900, .inl tf))] := hD
          refine va_put (D := D) (ci := 5) (v := .int r_83) (ty := .int) (C := RX6) (T := TX6) (N := 16) hx hb hts inlX6 tyX6 tyX6_ok nmX6 hown hK hP hD hS 0 rfl rfl 4 (by decide) (hts _ mw_183) (fun _ h9 => h9) rfl (by decide +kernel) rfl rfl (Nat.le_of_ble_eq_true rfl) dX5_readLine_118 (fun H locs hP hD hS => ?_)
          have hP : va_P D vwCl [((rw 0), .inr (5, [.int (y 0), .int (y 1), .int (y 2), .int r_73, .int r_83, .int (y 5), .int (y 6), .int (y 7), .int (y 8), .int (y 9), .int (y 10), .ref (rw 1), .ref (rw 2), .ref (rw 3), .ref (rw 4), .ref (rw 5)])), ((rw 1), .inl (k 0, 10, .inl (g 1))), ((rw 3), .inl (k 0, 60, .inl (g 3))), ((rd 0), .inr (4, [.ref (rw 0), .int (v_85 1), .int (v_85 2), .int (v_85 3), .ref (rd 1), .int (v_85 5), .int (v_85 6), .int (v_85 7), .int (v_85 8), .int (v_85 9)])), ((rd 1), .inl (k 2, 900, .inl tf))] H := hP
          have hD : va_D A [((rw 0), .inr (5, [.int (y 0), .int (y 1), .int (y 2), .int r_73, .int r_83, .int (y 5), .int (y 6), .int (y 7), .int (y 8), .int (y 9), .int (y 10), .ref (rw 1), .ref (rw 2), .ref (rw 3), .ref (rw 4), .ref (rw 5)])), ((rw 1), .inl (k 0, 10, .inl (g 1))), ((rw 3), .inl (k 0, 60, .inl (g 3))), ((rd 0), .inr (4, [.ref (rw 0), .int (v_85 1), .int (v_85 2), .int (v_85 3), .ref (rd 1), .int (v_85 5), .int (v_85 6), .int (v_85 7), .int (v_85 8), .int (v_85 9)])), ((rd 1), .inl (k 2, 900, .inl tf))] := hD
          refine lv_goto (tgt := 159) hx hb dX5_readLine_121 (by decide) ?_
          refine lv_aload_n hx hb dX5_readLine_159 rfl (lv_at hl 0 rfl) ?_
          refine kV_uv (q0 := 0) (As := []) (rest := []) (wr := [((rw 1), .inl (k 0, 10, .inl (g 1))), ((rw 3), .inl (k 0, 60, .inl (g 3)))]) ⟨hx, hb, hml, hown, hts⟩ (s_R_endLine l D k _ _ v_85 tf (va_seli [(y 0), (y 1), (y 2), r_73, r_83, (y 5), (y 6), (y 7), (y 8), (y 9), (y 10)]) _ (show 0 ≤ (v_85 3).toInt ∧ (v_85 3).toInt ≤ 900 from ⟨by omega, by omega⟩) (show 0 ≤ (v_85 5).toInt ∧ (v_85 5).toInt ≤ 900 from ⟨by omega, by omega⟩) (show 0 ≤ (v_85 6).toInt ∧ (v_85 6).toInt ≤ 900 from ⟨by omega, by omega⟩) (show 0 ≤ (v_85 7).toInt ∧ (v_85 7).toInt ≤ 900 from ⟨by omega, by omega⟩) (show (v_85 6).toInt ≤ (v_85 7).toInt from by omega) (show (v_85 7).toInt ≤ (v_85 5).toInt from by omega) (show 0 ≤ (y 0).toInt ∧ (y 0).toInt ≤ 10 from ⟨by omega, by omega⟩) (show 0 ≤ (y 2).toInt ∧ (y 2).toInt ≤ 6 from ⟨by omega, by omega⟩) (show 0 ≤ (y 6).toInt ∧ (y 6).toInt ≤ 1 from ⟨by omega, by omega⟩)) (gV mw_270 mw_271 mw_272 mw_15 mw_273) hd_yX5_endLine rfl rfl ⟨Nat.le_of_ble_eq_true rfl, Nat.le_of_ble_eq_true rfl⟩ hK hN0 hP hD hS hA [3, 4, 0] [1, 2] rfl rfl (by decide) (by decide) (by decide) rfl rfl rfl rfl hl.1 rfl (Nat.le_of_ble_eq_true rfl) dX5_readLine_160 ⟨Nat.le_of_ble_eq_true rfl, Nat.le_of_ble_eq_true rfl⟩ (fun u_94 H locs hw hP hD hS => ?_)
          obtain ⟨v_95, v_96⟩ := u_94
          obtain ⟨h_97, h_98, h_99, h_100, h_101, h_102, h_103, h_104, h_105, h_106⟩ := hw
          have h_97 : 0 ≤ (v_95 3).toInt ∧ (v_95 3).toInt ≤ 900 := h_97
          have h_98 : 0 ≤ (v_95 5).toInt ∧ (v_95 5).toInt ≤ 900 := h_98
          have h_99 : 0 ≤ (v_95 6).toInt ∧ (v_95 6).toInt ≤ 900 := h_99
          have h_100 : 0 ≤ (v_95 7).toInt ∧ (v_95 7).toInt ≤ 900 := h_100
          have h_101 : (v_95 6).toInt ≤ (v_95 7).toInt := h_101
          have h_102 : (v_95 7).toInt ≤ (v_95 5).toInt := h_102
          have h_103 : (v_95 3).toInt = (v_85 3).toInt := h_103
          have h_104 : 0 ≤ (v_96 0).toInt ∧ (v_96 0).toInt ≤ 10 := h_104
          have h_105 : 0 ≤ (v_96 2).toInt ∧ (v_96 2).toInt ≤ 6 := h_105
          have h_106 : 0 ≤ (v_96 6).toInt ∧ (v_96 6).toInt ≤ 1 := h_106
          have hP : va_P D vwCl [((rw 1), .inl (k 0, 10, .inl (g 1))), ((rw 3), .inl (k 0, 60, .inl (g 3))), ((rd 0), .inr (4, [.ref (rw 0), .int (v_95 1), .int (v_95 2), .int (v_95 3), .ref (rd 1), .int (v_95 5), .int (v_95 6), .int (v_95 7), .int (v_95 8), .int (v_95 9)])), ((rd 1), .inl (k 2, 900, .inl tf)), ((rw 0), .inr (5, [.int (v_96 0), .int (v_96 1), .int (v_96 2), .int (v_96 3), .int (v_96 4), .int (v_96 5), .int (v_96 6), .int (v_96 7), .int (v_96 8), .int (v_96 9), .int (v_96 10), .ref (rw 1), .ref (rw 2), .ref (rw 3), .ref (rw 4), .ref (rw 5)]))] H := hP
          have hD : va_D A [((rw 1), .inl (k 0, 10, .inl (g 1))), ((rw 3), .inl (k 0, 60, .inl (g 3))), ((rd 0), .inr (4, [.ref (rw 0), .int (v_95 1), .int (v_95 2), .int (v_95 3), .ref (rd 1), .int (v_95 5), .int (v_95 6), .int (v_95 7), .int (v_95 8), .int (v_95 9)])), ((rd 1), .inl (k 2, 900, .inl tf)), ((rw 0), .inr (5, [.int (v_96 0), .int (v_96 1), .int (v_96 2), .int (v_96 3), .int (v_96 4), .int (v_96 5), .int (v_96 6), .int (v_96 7), .int (v_96 8), .int (v_96 9), .int (v_96 10), .ref (rw 1), .ref (rw 2), .ref (rw 3), .ref (rw 4), .ref (rw 5)]))] := hD
          exact W.vret hx hb hr (fun t ht hW => ⟨⟨((va_seli [0, (v_95 1), (v_95 2), (v_95 3), 0, (v_95 5), (v_95 6), (v_95 7), (v_95 8), (v_95 9)]), (va_seli [(v_96 0), (v_96 1), (v_96 2), (v_96 3), (v_96 4), (v_96 5), (v_96 6), (v_96 7), (v_96 8), (v_96 9), (v_96 10)]), (va_selg [(fun _ => 0), (g 1), (fun _ => 0), (g 3)])), rfl, ⟨(show 0 ≤ (v_95 3).toInt ∧ (v_95 3).toInt ≤ 900 from ⟨by omega, by omega⟩), (show 0 ≤ (v_95 5).toInt ∧ (v_95 5).toInt ≤ 900 from ⟨by omega, by omega⟩), (show 0 ≤ (v_95 6).toInt ∧ (v_95 6).toInt ≤ 900 from ⟨by omega, by omega⟩), (show 0 ≤ (v_95 7).toInt ∧ (v_95 7).toInt ≤ 900 from ⟨by omega, by omega⟩), (show (v_95 6).toInt ≤ (v_95 7).toInt from by omega), (show (v_95 7).toInt ≤ (v_95 5).toInt from by omega), (show (v_95 3).toInt = (rf 3).toInt from by omega), (show 0 ≤ (v_96 0).toInt ∧ (v_96 0).toInt ≤ 10 from ⟨by omega, by omega⟩), (show 0 ≤ (v_96 2).toInt ∧ (v_96 2).toInt ≤ 6 from ⟨by omega, by omega⟩), (show 0 ≤ (v_96 6).toInt ∧ (v_96 6).toInt ≤ 1 from ⟨by omega, by omega⟩), (show ∀ j : Nat, 0 ≤ ((g 1) j).toInt ∧ ((g 1) j).toInt ≤ 6 from w_hd)⟩, by rw [ht]; exact hP.sub [2, 3, 4, 0, 1] rfl, hD.sub [2, 3, 4, 0, 1] (by decide) rfl⟩, hS.F ht⟩) hS.2.2 dX5_readLine_163
      · have c_6 : r_5.toInt ≠ 0 := ti_ne c_6
        have qc_6 : r_5 = 1 := ti_of (show r_5.toInt = 1 from by omega)
        refine lv_aload_n hx hb dX5_readLine_49 rfl (lv_at hl 0 rfl) ?_
        refine va_get (D := D) (ci := 4) (v := .ref (rw 0)) (C := RX5) (T := TX5) (N := 10) hx hb hts inlX5 hown hK hP 0 rfl rfl 0 (by decide) (hts _ mw_47) (fun _ h9 => h9) rfl dX5_readLine_50 ?_
        refine va_get (D := D) (ci := 5) (v := .int (y 0)) (C := RX6) (T := TX6) (N := 16) hx hb hts inlX6 hown hK hP 2 rfl rfl 0 (by decide) (hts _ mw_180) (fun _ h9 => h9) rfl dX5_readLine_53 ?_
        refine lv_if_ne (tgt := 80) hx hb dX5_readLine_56 (by decide) (fun c_107 => ?_) (fun c_107 => ?_)
        · have c_107 : (y 0).toInt ≠ 0 := ti_ne c_107
          refine lv_aload_n hx hb dX5_readLine_80 rfl (lv_at hl 0 rfl) ?_
          refine va_ldcS (own := RX5) (index := 84) (tx := "reed") (q := ak 2) hx hb hown (hW0.2.2.2 2 (by decide)) dX5_readLine_81 ?_
          refine kV_is (q0 := 0) (As := [.ref (ak 2)]) (rest := []) ⟨hx, hb, hml, hown, hts⟩ (s_R_isWord l D k ak av _ _ rf tf 2 (show 0 ≤ (rf 3).toInt ∧ (rf 3).toInt ≤ 900 from ⟨by omega, by omega⟩) (show 0 ≤ (rf 5).toInt ∧ (rf 5).toInt ≤ 900 from ⟨by omega, by omega⟩) (show 0 ≤ (rf 6).toInt ∧ (rf 6).toInt ≤ 900 from ⟨by omega, by omega⟩) (show 0 ≤ (rf 7).toInt ∧ (rf 7).toInt ≤ 900 from ⟨by omega, by omega⟩) (show (rf 6).toInt ≤ (rf 7).toInt from by omega) (show (rf 7).toInt ≤ (rf 5).toInt from by omega) (by omega)) (gV mw_185 mw_186 mw_187 mw_15 mw_188) hd_yX5_isWord rfl rfl ⟨Nat.le_of_ble_eq_true rfl, Nat.le_of_ble_eq_true rfl⟩ hK hN0 hW0 hS (hP.sub [0, 1] rfl) rfl rfl rfl rfl hl.1 rfl (Nat.le_of_ble_eq_true rfl) dX5_readLine_83 ⟨Nat.le_of_ble_eq_true rfl, Nat.le_of_ble_eq_true rfl⟩ (fun r_108 hr_108 => ?_)
          have hr_108 : 0 ≤ r_108.toInt ∧ r_108.toInt ≤ 1 := hr_108
          refine lv_if_eq (tgt := 124) hx hb dX5_readLine_86 (by decide) (fun c_109 => ?_) (fun c_109 => ?_)
          · have c_109 : r_108.toInt = 0 := ti_eq c_109
            have qc_109 : r_108 = 0 := ti_of (show r_108.toInt = 0 from by omega)
            refine lv_aload_n hx hb dX5_readLine_124 rfl (lv_at hl 0 rfl) ?_
            refine va_ldcS (own := RX5) (index := 92) (tx := "odds") (q := ak 9) hx hb hown (hW0.2.2.2 9 (by decide)) dX5_readLine_125 ?_
            refine kV_is (q0 := 0) (As := [.ref (ak 9)]) (rest := []) ⟨hx, hb, hml, hown, hts⟩ (s_R_isWord l D k ak av _ _ rf tf 9 (show 0 ≤ (rf 3).toInt ∧ (rf 3).toInt ≤ 900 from ⟨by omega, by omega⟩) (show 0 ≤ (rf 5).toInt ∧ (rf 5).toInt ≤ 900 from ⟨by omega, by omega⟩) (show 0 ≤ (rf 6).toInt ∧ (rf 6).toInt ≤ 900 from ⟨by omega, by omega⟩) (show 0 ≤ (rf 7).toInt ∧ (rf 7).toInt ≤ 900 from ⟨by omega, by omega⟩) (show (rf 6).toInt ≤ (rf 7).toInt from by omega) (show (rf 7).toInt ≤ (rf 5).toInt from by omega) (by omega)) (gV mw_185 mw_186 mw_187 mw_15 mw_188) hd_yX5_isWord rfl rfl ⟨Nat.le_of_ble_eq_true rfl, Nat.le_of_ble_eq_true rfl⟩ hK hN0 hW0 hS (hP.sub [0, 1] rfl) rfl rfl rfl rfl hl.1 rfl (Nat.le_of_ble_eq_true rfl) dX5_readLine_127 ⟨Nat.le_of_ble_eq_true rfl, Nat.le_of_ble_eq_true rfl⟩ (fun r_110 hr_110 => ?_)
            have hr_110 : 0 ≤ r_110.toInt ∧ r_110.toInt ≤ 1 := hr_110
            refine lv_if_eq (tgt := 154) hx hb dX5_readLine_130 (by decide) (fun c_111 => ?_) (fun c_111 => ?_)
            · have c_111 : r_110.toInt = 0 := ti_eq c_111
              have qc_111 : r_110 = 0 := ti_of (show r_110.toInt = 0 from by omega)
              refine lv_aload_n hx hb dX5_readLine_154 rfl (lv_at hl 0 rfl) ?_
              refine lv_iconst (v := 2) hx hb dX5_readLine_155 (by decide) ?_
              refine kV_uv (q0 := 0) (As := [.int 2]) (rest := []) (wr := [((rd 1), .inl (k 2, 900, .inl tf)), ((rw 0), .inr (5, [.int (y 0), .int (y 1), .int (y 2), .int (y 3), .int (y 4), .int (y 5), .int (y 6), .int (y 7), .int (y 8), .int (y 9), .int (y 10), .ref (rw 1), .ref (rw 2), .ref (rw 3), .ref (rw 4), .ref (rw 5)])), ((rw 1), .inl (k 0, 10, .inl (g 1))), ((rw 3), .inl (k 0, 60, .inl (g 3)))]) ⟨hx, hb, hml, hown, hts⟩ (s_R_fail l D k _ _ rf 2 _) (gV mw_171 mw_172 mw_173 mw_15 mw_174) hd_yX5_fail rfl rfl ⟨Nat.le_of_ble_eq_true rfl, Nat.le_of_ble_eq_true rfl⟩ hK hN0 hP hD hS hA [0] [1, 2, 3, 4] rfl rfl (by decide) (by decide) (by decide) rfl rfl rfl rfl hl.1 rfl (Nat.le_of_ble_eq_true rfl) dX5_readLine_156 ⟨Nat.le_of_ble_eq_true rfl, Nat.le_of_ble_eq_true rfl⟩ (fun u_113 H locs hw hP hD hS => ?_)
              obtain ⟨v_114, v_115⟩ := u_113
              have hP : va_P D vwCl [((rd 1), .inl (k 2, 900, .inl tf)), ((rw 0), .inr (5, [.int (y 0), .int (y 1), .int (y 2), .int (y 3), .int (y 4), .int (y 5), .int (y 6), .int (y 7), .int (y 8), .int (y 9), .int (y 10), .ref (rw 1), .ref (rw 2), .ref (rw 3), .ref (rw 4), .ref (rw 5)])), ((rw 1), .inl (k 0, 10, .inl (g 1))), ((rw 3), .inl (k 0, 60, .inl (g 3))), ((rd 0), .inr (4, [.ref (rw 0), .int v_114, .int v_115, .int (rf 3), .ref (rd 1), .int (rf 5), .int (rf 6), .int (rf 7), .int 0, .int (rf 9)]))] H := hP
              have hD : va_D A [((rd 1), .inl (k 2, 900, .inl tf)), ((rw 0), .inr (5, [.int (y 0), .int (y 1), .int (y 2), .int (y 3), .int (y 4), .int (y 5), .int (y 6), .int (y 7), .int (y 8), .int (y 9), .int (y 10), .ref (rw 1), .ref (rw 2), .ref (rw 3), .ref (rw 4), .ref (rw 5)])), ((rw 1), .inl (k 0, 10, .inl (g 1))), ((rw 3), .inl (k 0, 60, .inl (g 3))), ((rd 0), .inr (4, [.ref (rw 0), .int v_114, .int v_115, .int (rf 3), .ref (rd 1), .int (rf 5), .int (rf 6), .int (rf 7), .int 0, .int (rf 9)]))] := hD
              refine lv_aload_n hx hb dX5_readLine_159 rfl (lv_at hl 0 rfl) ?_
              refine kV_uv (q0 := 0) (As := []) (rest := []) (wr := [((rw 1), .inl (k 0, 10, .inl (g 1))), ((rw 3), .inl (k 0, 60, .inl (g 3)))]) ⟨hx, hb, hml, hown, hts⟩ (s_R_endLine l D k _ _ (va_seli [0, v_114, v_115, (rf 3), 0, (rf 5), (rf 6), (rf 7), 0, (rf 9)]) tf y _ (show 0 ≤ (rf 3).toInt ∧ (rf 3).toInt ≤ 900 from ⟨by omega, by omega⟩) (show 0 ≤ (rf 5).toInt ∧ (rf 5).toInt ≤ 900 from ⟨by omega, by omega⟩) (show 0 ≤ (rf 6).toInt ∧ (rf 6).toInt ≤ 900 from ⟨by omega, by omega⟩) (show 0 ≤ (rf 7).toInt ∧ (rf 7).toInt ≤ 900 from ⟨by omega, by omega⟩) (show (rf 6).toInt ≤ (rf 7).toInt from by omega) (show (rf 7).toInt ≤ (rf 5).toInt from by omega) (show 0 ≤ (y 0).toInt ∧ (y 0).toInt ≤ 10 from ⟨by omega, by omega⟩) (show 0 ≤ (y 2).toInt ∧ (y 2).toInt ≤ 6 from ⟨by omega, by omega⟩) (show 0 ≤ (y 6).toInt ∧ (y 6).toInt ≤ 1 from ⟨by omega, by omega⟩)) (gV mw_270 mw_271 mw_272 mw_15 mw_273) hd_yX5_endLine rfl rfl ⟨Nat.le_of_ble_eq_true rfl, Nat.le_of_ble_eq_true rfl⟩ hK hN0 hP hD hS hA [4, 0, 1] [2, 3] rfl rfl (by decide) (by decide) (by decide) rfl rfl rfl rfl hl.1 rfl (Nat.le_of_ble_eq_true rfl) dX5_readLine_160 ⟨Nat.le_of_ble_eq_true rfl, Nat.le_of_ble_eq_true rfl⟩ (fun u_117 H locs hw hP hD hS => ?_)
              obtain ⟨v_118, v_119⟩ := u_117
              obtain ⟨h_120, h_121, h_122, h_123, h_124, h_125, h_126, h_127, h_128, h_129⟩ := hw
              have h_120 : 0 ≤ (v_118 3).toInt ∧ (v_118 3).toInt ≤ 900 := h_120
              have h_121 : 0 ≤ (v_118 5).toInt ∧ (v_118 5).toInt ≤ 900 := h_121
              have h_122 : 0 ≤ (v_118 6).toInt ∧ (v_118 6).toInt ≤ 900 := h_122
              have h_123 : 0 ≤ (v_118 7).toInt ∧ (v_118 7).toInt ≤ 900 := h_123
              have h_124 : (v_118 6).toInt ≤ (v_118 7).toInt := h_124
              have h_125 : (v_118 7).toInt ≤ (v_118 5).toInt := h_125
              have h_126 : (v_118 3).toInt = (rf 3).toInt := h_126
              have h_127 : 0 ≤ (v_119 0).toInt ∧ (v_119 0).toInt ≤ 10 := h_127
              have h_128 : 0 ≤ (v_119 2).toInt ∧ (v_119 2).toInt ≤ 6 := h_128
              have h_129 : 0 ≤ (v_119 6).toInt ∧ (v_119 6).toInt ≤ 1 := h_129
              have hP : va_P D vwCl [((rw 1), .inl (k 0, 10, .inl (g 1))), ((rw 3), .inl (k 0, 60, .inl (g 3))), ((rd 0), .inr (4, [.ref (rw 0), .int (v_118 1), .int (v_118 2), .int (v_118 3), .ref (rd 1), .int (v_118 5), .int (v_118 6), .int (v_118 7), .int (v_118 8), .int (v_118 9)])), ((rd 1), .inl (k 2, 900, .inl tf)), ((rw 0), .inr (5, [.int (v_119 0), .int (v_119 1), .int (v_119 2), .int (v_119 3), .int (v_119 4), .int (v_119 5), .int (v_119 6), .int (v_119 7), .int (v_119 8), .int (v_119 9), .int (v_119 10), .ref (rw 1), .ref (rw 2), .ref (rw 3), .ref (rw 4), .ref (rw 5)]))] H := hP
              have hD : va_D A [((rw 1), .inl (k 0, 10, .inl (g 1))), ((rw 3), .inl (k 0, 60, .inl (g 3))), ((rd 0), .inr (4, [.ref (rw 0), .int (v_118 1), .int (v_118 2), .int (v_118 3), .ref (rd 1), .int (v_118 5), .int (v_118 6), .int (v_118 7), .int (v_118 8), .int (v_118 9)])), ((rd 1), .inl (k 2, 900, .inl tf)), ((rw 0), .inr (5, [.int (v_119 0), .int (v_119 1), .int (v_119 2), .int (v_119 3), .int (v_119 4), .int (v_119 5), .int (v_119 6), .int (v_119 7), .int (v_119 8), .int (v_119 9), .int (v_119 10), .ref (rw 1), .ref (rw 2), .ref (rw 3), .ref (rw 4), .ref (rw 5)]))] := hD
              exact W.vret hx hb hr (fun t ht hW => ⟨⟨((va_seli [0, (v_118 1), (v_118 2), (v_118 3), 0, (v_118 5), (v_118 6), (v_118 7), (v_118 8), (v_118 9)]), (va_seli [(v_119 0), (v_119 1), (v_119 2), (v_119 3), (v_119 4), (v_119 5), (v_119 6), (v_119 7), (v_119 8), (v_119 9), (v_119 10)]), (va_selg [(fun _ => 0), (g 1), (fun _ => 0), (g 3)])), rfl, ⟨(show 0 ≤ (v_118 3).toInt ∧ (v_118 3).toInt ≤ 900 from ⟨by omega, by omega⟩), (show 0 ≤ (v_118 5).toInt ∧ (v_118 5).toInt ≤ 900 from ⟨by omega, by omega⟩), (show 0 ≤ (v_118 6).toInt ∧ (v_118 6).toInt ≤ 900 from ⟨by omega, by omega⟩), (show 0 ≤ (v_118 7).toInt ∧ (v_118 7).toInt ≤ 900 from ⟨by omega, by omega⟩), (show (v_118 6).toInt ≤ (v_118 7).toInt from by omega), (show (v_118 7).toInt ≤ (v_118 5).toInt from by omega), (show (v_118 3).toInt = (rf 3).toInt from by omega), (show 0 ≤ (v_119 0).toInt ∧ (v_119 0).toInt ≤ 10 from ⟨by omega, by omega⟩), (show 0 ≤ (v_119 2).toInt ∧ (v_119 2).toInt ≤ 6 from ⟨by omega, by omega⟩), (show 0 ≤ (v_119 6).toInt ∧ (v_119 6).toInt ≤ 1 from ⟨by omega, by omega⟩), (show ∀ j : Nat, 0 ≤ ((g 1) j).toInt ∧ ((g 1) j).toInt ≤ 6 from w_hd)⟩, by rw [ht]; exact hP.sub [2, 3, 4, 0, 1] rfl, hD.sub [2, 3, 4, 0, 1] (by decide) rfl⟩, hS.F ht⟩) hS.2.2 dX5_readLine_163
            · have c_111 : r_110.toInt ≠ 0 := ti_ne c_111
              have qc_111 : r_110 = 1 := ti_of (show r_110.toInt = 1 from by omega)
              refine lv_aload_n hx hb dX5_readLine_133 rfl (lv_at hl 0 rfl) ?_
              refine kV_uv (q0 := 0) (As := []) (rest := []) (wr := [((rw 0), .inr (5, [.int (y 0), .int (y 1), .int (y 2), .int (y 3), .int (y 4), .int (y 5), .int (y 6), .int (y 7), .int (y 8), .int (y 9), .int (y 10), .ref (rw 1), .ref (rw 2), .ref (rw 3), .ref (rw 4), .ref (rw 5)])), ((rw 1), .inl (k 0, 10, .inl (g 1))), ((rw 3), .inl (k 0, 60, .inl (g 3)))]) ⟨hx, hb, hml, hown, hts⟩ (s_R_advance l D k _ _ rf tf _ (show 0 ≤ (rf 3).toInt ∧ (rf 3).toInt ≤ 900 from ⟨by omega, by omega⟩) (show 0 ≤ (rf 5).toInt ∧ (rf 5).toInt ≤ 900 from ⟨by omega, by omega⟩) (show 0 ≤ (rf 7).toInt ∧ (rf 7).toInt ≤ 900 from ⟨by omega, by omega⟩) (show (rf 7).toInt ≤ (rf 5).toInt from by omega)) (gV mw_159 mw_160 mw_161 mw_15 mw_162) hd_yX5_advance rfl rfl ⟨Nat.le_of_ble_eq_true rfl, Nat.le_of_ble_eq_true rfl⟩ hK hN0 hP hD hS hA [0, 1] [2, 3, 4] rfl rfl (by decide) (by decide) (by decide) rfl rfl rfl rfl hl.1 rfl (Nat.le_of_ble_eq_true rfl) dX5_readLine_134 ⟨Nat.le_of_ble_eq_true rfl, Nat.le_of_ble_eq_true rfl⟩ (fun u_131 H locs hw hP hD hS => ?_)
              obtain ⟨v_132, rfl⟩ : ∃ z, z = u_131 := ⟨_, rfl⟩
              obtain ⟨h_133, h_134, h_135, h_136, h_137, h_138, h_139⟩ := hw
              have h_133 : 0 ≤ (v_132 3).toInt ∧ (v_132 3).toInt ≤ 900 := h_133
              have h_134 : 0 ≤ (v_132 5).toInt ∧ (v_132 5).toInt ≤ 900 := h_134
              have h_135 : 0 ≤ (v_132 6).toInt ∧ (v_132 6).toInt ≤ 900 := h_135
              have h_136 : 0 ≤ (v_132 7).toInt ∧ (v_132 7).toInt ≤ 900 := h_136
              have h_137 : (v_132 6).toInt ≤ (v_132 7).toInt := h_137
              have h_138 : (v_132 7).toInt ≤ (v_132 5).toInt := h_138
              have h_139 : (v_132 3).toInt = (rf 3).toInt := h_139
              have hP : va_P D vwCl [((rw 0), .inr (5, [.int (y 0), .int (y 1), .int (y 2), .int (y 3), .int (y 4), .int (y 5), .int (y 6), .int (y 7), .int (y 8), .int (y 9), .int (y 10), .ref (rw 1), .ref (rw 2), .ref (rw 3), .ref (rw 4), .ref (rw 5)])), ((rw 1), .inl (k 0, 10, .inl (g 1))), ((rw 3), .inl (k 0, 60, .inl (g 3))), ((rd 0), .inr (4, [.ref (rw 0), .int (v_132 1), .int (v_132 2), .int (v_132 3), .ref (rd 1), .int (v_132 5), .int (v_132 6), .int (v_132 7), .int (v_132 8), .int (v_132 9)])), ((rd 1), .inl (k 2, 900, .inl tf))] H := hP
              have hD : va_D A [((rw 0), .inr (5, [.int (y 0), .int (y 1), .int (y 2), .int (y 3), .int (y 4), .int (y 5), .int (y 6), .int (y 7), .int (y 8), .int (y 9), .int (y 10), .ref (rw 1), .ref (rw 2), .ref (rw 3), .ref (rw 4), .ref (rw 5)])), ((rw 1), .inl (k 0, 10, .inl (g 1))), ((rw 3), .inl (k 0, 60, .inl (g 3))), ((rd 0), .inr (4, [.ref (rw 0), .int (v_132 1), .int (v_132 2), .int (v_132 3), .ref (rd 1), .int (v_132 5), .int (v_132 6), .int (v_132 7), .int (v_132 8), .int (v_132 9)])), ((rd 1), .inl (k 2, 900, .inl tf))] := hD
              refine lv_aload_n hx hb dX5_readLine_137 rfl (lv_at hl 0 rfl) ?_
              refine va_get (D := D) (ci := 4) (v := .ref (rw 0)) (C := RX5) (T := TX5) (N := 10) hx hb hts inlX5 hown hK hP 3 rfl rfl 0 (by decide) (hts _ mw_47) (fun _ h9 => h9) rfl dX5_readLine_138 ?_
              refine lv_aload_n hx hb dX5_readLine_141 rfl (lv_at hl 0 rfl) ?_
              refine lv_iconst (v := 2) hx hb dX5_readLine_142 (by decide) ?_
              refine lv_bipush (v := 6) hx hb dX5_readLine_143 (by decide) ?_
              refine kV_ui (q0 := 0) (As := [.int 2, .int 6]) (rest := [.ref (rw 0)]) (wr := [((rw 0), .inr (5, [.int (y 0), .int (y 1), .int (y 2), .int (y 3), .int (y 4), .int (y 5), .int (y 6), .int (y 7), .int (y 8), .int (y 9), .int (y 10), .ref (rw 1), .ref (rw 2), .ref (rw 3), .ref (rw 4), .ref (rw 5)])), ((rw 1), .inl (k 0, 10, .inl (g 1))), ((rw 3), .inl (k 0, 60, .inl (g 3)))]) ⟨hx, hb, hml, hown, hts⟩ (s_R_readNumber l D k _ _ v_132 tf 2 6 _ (show 0 ≤ (v_132 3).toInt ∧ (v_132 3).toInt ≤ 900 from ⟨by omega, by omega⟩) (show 0 ≤ (v_132 5).toInt ∧ (v_132 5).toInt ≤ 900 from ⟨by omega, by omega⟩) (show 0 ≤ (v_132 6).toInt ∧ (v_132 6).toInt ≤ 900 from ⟨by omega, by omega⟩) (show 0 ≤ (v_132 7).toInt ∧ (v_132 7).toInt ≤ 900 from ⟨by omega, by omega⟩) (show (v_132 6).toInt ≤ (v_132 7).toInt from by omega) (show (v_132 7).toInt ≤ (v_132 5).toInt from by omega)) (gV mw_248 mw_249 mw_250 mw_15 mw_251) hd_yX5_readNumber rfl rfl ⟨Nat.le_of_ble_eq_true rfl, Nat.le_of_ble_eq_true rfl⟩ hK hN0 hP hD hS hA [3, 4] [0, 1, 2] rfl rfl (by decide) (by decide) (by decide) rfl rfl rfl rfl hl.1 rfl (Nat.le_of_ble_eq_true rfl) dX5_readLine_145 ⟨Nat.le_of_ble_eq_true rfl, Nat.le_of_ble_eq_true rfl⟩ (fun r_140 u_141 H locs hw hP hD hS => ?_)
              obtain ⟨v_142, rfl⟩ : ∃ z, z = u_141 := ⟨_, rfl⟩
              obtain ⟨hr_140, h_143, h_144, h_145, h_146, h_147, h_148, h_149⟩ := hw
              have h_143 : 0 ≤ (v_142 3).toInt ∧ (v_142 3).toInt ≤ 900 := h_143
              have h_144 : 0 ≤ (v_142 5).toInt ∧ (v_142 5).toInt ≤ 900 := h_144
              have h_145 : 0 ≤ (v_142 6).toInt ∧ (v_142 6).toInt ≤ 900 := h_145
              have h_146 : 0 ≤ (v_142 7).toInt ∧ (v_142 7).toInt ≤ 900 := h_146
              have h_147 : (v_142 6).toInt ≤ (v_142 7).toInt := h_147
              have h_148 : (v_142 7).toInt ≤ (v_142 5).toInt := h_148
              have h_149 : (v_142 3).toInt = (v_132 3).toInt := h_149
              have hP : va_P D vwCl [((rw 0), .inr (5, [.int (y 0), .int (y 1), .int (y 2), .int (y 3), .int (y 4), .int (y 5), .int (y 6), .int (y 7), .int (y 8), .int (y 9), .int (y 10), .ref (rw 1), .ref (rw 2), .ref (rw 3), .ref (rw 4), .ref (rw 5)])), ((rw 1), .inl (k 0, 10, .inl (g 1))), ((rw 3), .inl (k 0, 60, .inl (g 3))), ((rd 0), .inr (4, [.ref (rw 0), .int (v_142 1), .int (v_142 2), .int (v_142 3), .ref (rd 1), .int (v_142 5), .int (v_142 6), .int (v_142 7), .int (v_142 8), .int (v_142 9)])), ((rd 1), .inl (k 2, 900, .inl tf))] H := hP
              have hD : va_D A [((rw 0), .inr (5, [.int (y 0), .int (y 1), .int (y 2), .int (y 3), .int (y 4), .int (y 5), .int (y 6), .int (y 7), .int (y 8), .int (y 9), .int (y 10), .ref (rw 1), .ref (rw 2), .ref (rw 3), .ref (rw 4), .ref (rw 5)])), ((rw 1), .inl (k 0, 10, .inl (g 1))), ((rw 3), .inl (k 0, 60, .inl (g 3))), ((rd 0), .inr (4, [.ref (rw 0), .int (v_142 1), .int (v_142 2), .int (v_142 3), .ref (rd 1), .int (v_142 5), .int (v_142 6), .int (v_142 7), .int (v_142 8), .int (v_142 9)])), ((rd 1), .inl (k 2, 900, .inl tf))] := hD
              refine va_put (D := D) (ci := 5) (v := .int r_140) (ty := .int) (C := RX6) (T := TX6) (N := 16) hx hb hts inlX6 tyX6 tyX6_ok nmX6 hown hK hP hD hS 0 rfl rfl 5 (by decide) (hts _ mw_184) (fun _ h9 => h9) rfl (by decide +kernel) rfl rfl (Nat.le_of_ble_eq_true rfl) dX5_readLine_148 (fun H locs hP hD hS => ?_)
              have hP : va_P D vwCl [((rw 0), .inr (5, [.int (y 0), .int (y 1), .int (y 2), .int (y 3), .int (y 4), .int r_140, .int (y 6), .int (y 7), .int (y 8), .int (y 9), .int (y 10), .ref (rw 1), .ref (rw 2), .ref (rw 3), .ref (rw 4), .ref (rw 5)])), ((rw 1), .inl (k 0, 10, .inl (g 1))), ((rw 3), .inl (k 0, 60, .inl (g 3))), ((rd 0), .inr (4, [.ref (rw 0), .int (v_142 1), .int (v_142 2), .int (v_142 3), .ref (rd 1), .int (v_142 5), .int (v_142 6), .int (v_142 7), .int (v_142 8), .int (v_142 9)])), ((rd 1), .inl (k 2, 900, .inl tf))] H := hP
              have hD : va_D A [((rw 0), .inr (5, [.int (y 0), .int (y 1), .int (y 2), .int (y 3), .int (y 4), .int r_140, .int (y 6), .int (y 7), .int (y 8), .int (y 9), .int (y 10), .ref (rw 1), .ref (rw 2), .ref (rw 3), .ref (rw 4), .ref (rw 5)])), ((rw 1), .inl (k 0, 10, .inl (g 1))), ((rw 3), .inl (k 0, 60, .inl (g 3))), ((rd 0), .inr (4, [.ref (rw 0), .int (v_142 1), .int (v_142 2), .int (v_142 3), .ref (rd 1), .int (v_142 5), .int (v_142 6), .int (v_142 7), .int (v_142 8), .int (v_142 9)])), ((rd 1), .inl (k 2, 900, .inl tf))] := hD
              refine lv_goto (tgt := 159) hx hb dX5_readLine_151 (by decide) ?_
              refine lv_aload_n hx hb dX5_readLine_159 rfl (lv_at hl 0 rfl) ?_
              refine kV_uv (q0 := 0) (As := []) (rest := []) (wr := [((rw 1), .inl (k 0, 10, .inl (g 1))), ((rw 3), .inl (k 0, 60, .inl (g 3)))]) ⟨hx, hb, hml, hown, hts⟩ (s_R_endLine l D k _ _ v_142 tf (va_seli [(y 0), (y 1), (y 2), (y 3), (y 4), r_140, (y 6), (y 7), (y 8), (y 9), (y 10)]) _ (show 0 ≤ (v_142 3).toInt ∧ (v_142 3).toInt ≤ 900 from ⟨by omega, by omega⟩) (show 0 ≤ (v_142 5).toInt ∧ (v_142 5).toInt ≤ 900 from ⟨by omega, by omega⟩) (show 0 ≤ (v_142 6).toInt ∧ (v_142 6).toInt ≤ 900 from ⟨by omega, by omega⟩) (show 0 ≤ (v_142 7).toInt ∧ (v_142 7).toInt ≤ 900 from ⟨by omega, by omega⟩) (show (v_142 6).toInt ≤ (v_142 7).toInt from by omega) (show (v_142 7).toInt ≤ (v_142 5).toInt from by omega) (show 0 ≤ (y 0).toInt ∧ (y 0).toInt ≤ 10 from ⟨by omega, by omega⟩) (show 0 ≤ (y 2).toInt ∧ (y 2).toInt ≤ 6 from ⟨by omega, by omega⟩) (show 0 ≤ (y 6).toInt ∧ (y 6).toInt ≤ 1 from ⟨by omega, by omega⟩)) (gV mw_270 mw_271 mw_272 mw_15 mw_273) hd_yX5_endLine rfl rfl ⟨Nat.le_of_ble_eq_true rfl, Nat.le_of_ble_eq_true rfl⟩ hK hN0 hP hD hS hA [3, 4, 0] [1, 2] rfl rfl (by decide) (by decide) (by decide) rfl rfl rfl rfl hl.1 rfl (Nat.le_of_ble_eq_true rfl) dX5_readLine_160 ⟨Nat.le_of_ble_eq_true rfl, Nat.le_of_ble_eq_true rfl⟩ (fun u_151 H locs hw hP hD hS => ?_)
              obtain ⟨v_152, v_153⟩ := u_151
              obtain ⟨h_154, h_155, h_156, h_157, h_158, h_159, h_160, h_161, h_162, h_163⟩ := hw
              have h_154 : 0 ≤ (v_152 3).toInt ∧ (v_152 3).toInt ≤ 900 := h_154
              have h_155 : 0 ≤ (v_152 5).toInt ∧ (v_152 5).toInt ≤ 900 := h_155
              have h_156 : 0 ≤ (v_152 6).toInt ∧ (v_152 6).toInt ≤ 900 := h_156
              have h_157 : 0 ≤ (v_152 7).toInt ∧ (v_152 7).toInt ≤ 900 := h_157
              have h_158 : (v_152 6).toInt ≤ (v_152 7).toInt := h_158
              have h_159 : (v_152 7).toInt ≤ (v_152 5).toInt := h_159
              have h_160 : (v_152 3).toInt = (v_142 3).toInt := h_160
              have h_161 : 0 ≤ (v_153 0).toInt ∧ (v_153 0).toInt ≤ 10 := h_161
              have h_162 : 0 ≤ (v_153 2).toInt ∧ (v_153 2).toInt ≤ 6 := h_162
              have h_163 : 0 ≤ (v_153 6).toInt ∧ (v_153 6).toInt ≤ 1 := h_163
              have hP : va_P D vwCl [((rw 1), .inl (k 0, 10, .inl (g 1))), ((rw 3), .inl (k 0, 60, .inl (g 3))), ((rd 0), .inr (4, [.ref (rw 0), .int (v_152 1), .int (v_152 2), .int (v_152 3), .ref (rd 1), .int (v_152 5), .int (v_152 6), .int (v_152 7), .int (v_152 8), .int (v_152 9)])), ((rd 1), .inl (k 2, 900, .inl tf)), ((rw 0), .inr (5, [.int (v_153 0), .int (v_153 1), .int (v_153 2), .int (v_153 3), .int (v_153 4), .int (v_153 5), .int (v_153 6), .int (v_153 7), .int (v_153 8), .int (v_153 9), .int (v_153 10), .ref (rw 1), .ref (rw 2), .ref (rw 3), .ref (rw 4), .ref (rw 5)]))] H := hP
              have hD : va_D A [((rw 1), .inl (k 0, 10, .inl (g 1))), ((rw 3), .inl (k 0, 60, .inl (g 3))), ((rd 0), .inr (4, [.ref (rw 0), .int (v_152 1), .int (v_152 2), .int (v_152 3), .ref (rd 1), .int (v_152 5), .int (v_152 6), .int (v_152 7), .int (v_152 8), .int (v_152 9)])), ((rd 1), .inl (k 2, 900, .inl tf)), ((rw 0), .inr (5, [.int (v_153 0), .int (v_153 1), .int (v_153 2), .int (v_153 3), .int (v_153 4), .int (v_153 5), .int (v_153 6), .int (v_153 7), .int (v_153 8), .int (v_153 9), .int (v_153 10), .ref (rw 1), .ref (rw 2), .ref (rw 3), .ref (rw 4), .ref (rw 5)]))] := hD
              exact W.vret hx hb hr (fun t ht hW => ⟨⟨((va_seli [0, (v_152 1), (v_152 2), (v_152 3), 0, (v_152 5), (v_152 6), (v_152 7), (v_152 8), (v_152 9)]), (va_seli [(v_153 0), (v_153 1), (v_153 2), (v_153 3), (v_153 4), (v_153 5), (v_153 6), (v_153 7), (v_153 8), (v_153 9), (v_153 10)]), (va_selg [(fun _ => 0), (g 1), (fun _ => 0), (g 3)])), rfl, ⟨(show 0 ≤ (v_152 3).toInt ∧ (v_152 3).toInt ≤ 900 from ⟨by omega, by omega⟩), (show 0 ≤ (v_152 5).toInt ∧ (v_152 5).toInt ≤ 900 from ⟨by omega, by omega⟩), (show 0 ≤ (v_152 6).toInt ∧ (v_152 6).toInt ≤ 900 from ⟨by omega, by omega⟩), (show 0 ≤ (v_152 7).toInt ∧ (v_152 7).toInt ≤ 900 from ⟨by omega, by omega⟩), (show (v_152 6).toInt ≤ (v_152 7).toInt from by omega), (show (v_152 7).toInt ≤ (v_152 5).toInt from by omega), (show (v_152 3).toInt = (rf 3).toInt from by omega), (show 0 ≤ (v_153 0).toInt ∧ (v_153 0).toInt ≤ 10 from ⟨by omega, by omega⟩), (show 0 ≤ (v_153 2).toInt ∧ (v_153 2).toInt ≤ 6 from ⟨by omega, by omega⟩), (show 0 ≤ (v_153 6).toInt ∧ (v_153 6).toInt ≤ 1 from ⟨by omega, by omega⟩), (show ∀ j : Nat, 0 ≤ ((g 1) j).toInt ∧ ((g 1) j).toInt ≤ 6 from w_hd)⟩, by rw [ht]; exact hP.sub [2, 3, 4, 0, 1] rfl, hD.sub [2, 3, 4, 0, 1] (by decide) rfl⟩, hS.F ht⟩) hS.2.2 dX5_readLine_163
          · have c_109 : r_108.toInt ≠ 0 := ti_ne c_109
            have qc_109 : r_108 = 1 := ti_of (show r_108.toInt = 1 from by omega)
            refine lv_aload_n hx hb dX5_readLine_89 rfl (lv_at hl 0 rfl) ?_
            refine kV_uv (q0 := 0) (As := []) (rest := []) (wr := [((rw 0), .inr (5, [.int (y 0), .int (y 1), .int (y 2), .int (y 3), .int (y 4), .int (y 5), .int (y 6), .int (y 7), .int (y 8), .int (y 9), .int (y 10), .ref (rw 1), .ref (rw 2), .ref (rw 3), .ref (rw 4), .ref (rw 5)])), ((rw 1), .inl (k 0, 10, .inl (g 1))), ((rw 3), .inl (k 0, 60, .inl (g 3)))]) ⟨hx, hb, hml, hown, hts⟩ (s_R_advance l D k _ _ rf tf _ (show 0 ≤ (rf 3).toInt ∧ (rf 3).toInt ≤ 900 from ⟨by omega, by omega⟩) (show 0 ≤ (rf 5).toInt ∧ (rf 5).toInt ≤ 900 from ⟨by omega, by omega⟩) (show 0 ≤ (rf 7).toInt ∧ (rf 7).toInt ≤ 900 from ⟨by omega, by omega⟩) (show (rf 7).toInt ≤ (rf 5).toInt from by omega)) (gV mw_159 mw_160 mw_161 mw_15 mw_162) hd_yX5_advance rfl rfl ⟨Nat.le_of_ble_eq_true rfl, Nat.le_of_ble_eq_true rfl⟩ hK hN0 hP hD hS hA [0, 1] [2, 3, 4] rfl rfl (by decide) (by decide) (by decide) rfl rfl rfl rfl hl.1 rfl (Nat.le_of_ble_eq_true rfl) dX5_readLine_90 ⟨Nat.le_of_ble_eq_true rfl, Nat.le_of_ble_eq_true rfl⟩ (fun u_165 H locs hw hP hD hS => ?_)
            obtain ⟨v_166, rfl⟩ : ∃ z, z = u_165 := ⟨_, rfl⟩
            obtain ⟨h_167, h_168, h_169, h_170, h_171, h_172, h_173⟩ := hw
            have h_167 : 0 ≤ (v_166 3).toInt ∧ (v_166 3).toInt ≤ 900 := h_167
            have h_168 : 0 ≤ (v_166 5).toInt ∧ (v_166 5).toInt ≤ 900 := h_168
            have h_169 : 0 ≤ (v_166 6).toInt ∧ (v_166 6).toInt ≤ 900 := h_169
            have h_170 : 0 ≤ (v_166 7).toInt ∧ (v_166 7).toInt ≤ 900 := h_170
            have h_171 : (v_166 6).toInt ≤ (v_166 7).toInt := h_171
            have h_172 : (v_166 7).toInt ≤ (v_166 5).toInt := h_172
            have h_173 : (v_166 3).toInt = (rf 3).toInt := h_173
            have hP : va_P D vwCl [((rw 0), .inr (5, [.int (y 0), .int (y 1), .int (y 2), .int (y 3), .int (y 4), .int (y 5), .int (y 6), .int (y 7), .int (y 8), .int (y 9), .int (y 10), .ref (rw 1), .ref (rw 2), .ref (rw 3), .ref (rw 4), .ref (rw 5)])), ((rw 1), .inl (k 0, 10, .inl (g 1))), ((rw 3), .inl (k 0, 60, .inl (g 3))), ((rd 0), .inr (4, [.ref (rw 0), .int (v_166 1), .int (v_166 2), .int (v_166 3), .ref (rd 1), .int (v_166 5), .int (v_166 6), .int (v_166 7), .int (v_166 8), .int (v_166 9)])), ((rd 1), .inl (k 2, 900, .inl tf))] H := hP
            have hD : va_D A [((rw 0), .inr (5, [.int (y 0), .int (y 1), .int (y 2), .int (y 3), .int (y 4), .int (y 5), .int (y 6), .int (y 7), .int (y 8), .int (y 9), .int (y 10), .ref (rw 1), .ref (rw 2), .ref (rw 3), .ref (rw 4), .ref (rw 5)])), ((rw 1), .inl (k 0, 10, .inl (g 1))), ((rw 3), .inl (k 0, 60, .inl (g 3))), ((rd 0), .inr (4, [.ref (rw 0), .int (v_166 1), .int (v_166 2), .int (v_166 3), .ref (rd 1), .int (v_166 5), .int (v_166 6), .int (v_166 7), .int (v_166 8), .int (v_166 9)])), ((rd 1), .inl (k 2, 900, .inl tf))] := hD
            refine lv_aload_n hx hb dX5_readLine_93 rfl (lv_at hl 0 rfl) ?_
            refine va_get (D := D) (ci := 4) (v := .ref (rw 0)) (C := RX5) (T := TX5) (N := 10) hx hb hts inlX5 hown hK hP 3 rfl rfl 0 (by decide) (hts _ mw_47) (fun _ h9 => h9) rfl dX5_readLine_94 ?_
            refine lv_aload_n hx hb dX5_readLine_97 rfl (lv_at hl 0 rfl) ?_
            refine lv_iconst (v := 1) hx hb dX5_readLine_98 (by decide) ?_
            refine lv_bipush (v := 30) hx hb dX5_readLine_99 (by decide) ?_
            refine kV_ui (q0 := 0) (As := [.int 1, .int 30]) (rest := [.ref (rw 0)]) (wr := [((rw 0), .inr (5, [.int (y 0), .int (y 1), .int (y 2), .int (y 3), .int (y 4), .int (y 5), .int (y 6), .int (y 7), .int (y 8), .int (y 9), .int (y 10), .ref (rw 1), .ref (rw 2), .ref (rw 3), .ref (rw 4), .ref (rw 5)])), ((rw 1), .inl (k 0, 10, .inl (g 1))), ((rw 3), .inl (k 0, 60, .inl (g 3)))]) ⟨hx, hb, hml, hown, hts⟩ (s_R_readNumber l D k _ _ v_166 tf 1 30 _ (show 0 ≤ (v_166 3).toInt ∧ (v_166 3).toInt ≤ 900 from ⟨by omega, by omega⟩) (show 0 ≤ (v_166 5).toInt ∧ (v_166 5).toInt ≤ 900 from ⟨by omega, by omega⟩) (show 0 ≤ (v_166 6).toInt ∧ (v_166 6).toInt ≤ 900 from ⟨by omega, by omega⟩) (show 0 ≤ (v_166 7).toInt ∧ (v_166 7).toInt ≤ 900 from ⟨by omega, by omega⟩) (show (v_166 6).toInt ≤ (v_166 7).toInt from by omega) (show (v_166 7).toInt ≤ (v_166 5).toInt from by omega)) (gV mw_248 mw_249 mw_250 mw_15 mw_251) hd_yX5_readNumber rfl rfl ⟨Nat.le_of_ble_eq_true rfl, Nat.le_of_ble_eq_true rfl⟩ hK hN0 hP hD hS hA [3, 4] [0, 1, 2] rfl rfl (by decide) (by decide) (by decide) rfl rfl rfl rfl hl.1 rfl (Nat.le_of_ble_eq_true rfl) dX5_readLine_101 ⟨Nat.le_of_ble_eq_true rfl, Nat.le_of_ble_eq_true rfl⟩ (fun r_174 u_175 H locs hw hP hD hS => ?_)
            obtain ⟨v_176, rfl⟩ : ∃ z, z = u_175 := ⟨_, rfl⟩
            obtain ⟨hr_174, h_177, h_178, h_179, h_180, h_181, h_182, h_183⟩ := hw
            have h_177 : 0 ≤ (v_176 3).toInt ∧ (v_176 3).toInt ≤ 900 := h_177
            have h_178 : 0 ≤ (v_176 5).toInt ∧ (v_176 5).toInt ≤ 900 := h_178
            have h_179 : 0 ≤ (v_176 6).toInt ∧ (v_176 6).toInt ≤ 900 := h_179
            have h_180 : 0 ≤ (v_176 7).toInt ∧ (v_176 7).toInt ≤ 900 := h_180
            have h_181 : (v_176 6).toInt ≤ (v_176 7).toInt := h_181
            have h_182 : (v_176 7).toInt ≤ (v_176 5).toInt := h_182
            have h_183 : (v_176 3).toInt = (v_166 3).toInt := h_183
            have hP : va_P D vwCl [((rw 0), .inr (5, [.int (y 0), .int (y 1), .int (y 2), .int (y 3), .int (y 4), .int (y 5), .int (y 6), .int (y 7), .int (y 8), .int (y 9), .int (y 10), .ref (rw 1), .ref (rw 2), .ref (rw 3), .ref (rw 4), .ref (rw 5)])), ((rw 1), .inl (k 0, 10, .inl (g 1))), ((rw 3), .inl (k 0, 60, .inl (g 3))), ((rd 0), .inr (4, [.ref (rw 0), .int (v_176 1), .int (v_176 2), .int (v_176 3), .ref (rd 1), .int (v_176 5), .int (v_176 6), .int (v_176 7), .int (v_176 8), .int (v_176 9)])), ((rd 1), .inl (k 2, 900, .inl tf))] H := hP
            have hD : va_D A [((rw 0), .inr (5, [.int (y 0), .int (y 1), .int (y 2), .int (y 3), .int (y 4), .int (y 5), .int (y 6), .int (y 7), .int (y 8), .int (y 9), .int (y 10), .ref (rw 1), .ref (rw 2), .ref (rw 3), .ref (rw 4), .ref (rw 5)])), ((rw 1), .inl (k 0, 10, .inl (g 1))), ((rw 3), .inl (k 0, 60, .inl (g 3))), ((rd 0), .inr (4, [.ref (rw 0), .int (v_176 1), .int (v_176 2), .int (v_176 3), .ref (rd 1), .int (v_176 5), .int (v_176 6), .int (v_176 7), .int (v_176 8), .int (v_176 9)])), ((rd 1), .inl (k 2, 900, .inl tf))] := hD
            refine va_put (D := D) (ci := 5) (v := .int r_174) (ty := .int) (C := RX6) (T := TX6) (N := 16) hx hb hts inlX6 tyX6 tyX6_ok nmX6 hown hK hP hD hS 0 rfl rfl 3 (by decide) (hts _ mw_182) (fun _ h9 => h9) rfl (by decide +kernel) rfl rfl (Nat.le_of_ble_eq_true rfl) dX5_readLine_104 (fun H locs hP hD hS => ?_)
            have hP : va_P D vwCl [((rw 0), .inr (5, [.int (y 0), .int (y 1), .int (y 2), .int r_174, .int (y 4), .int (y 5), .int (y 6), .int (y 7), .int (y 8), .int (y 9), .int (y 10), .ref (rw 1), .ref (rw 2), .ref (rw 3), .ref (rw 4), .ref (rw 5)])), ((rw 1), .inl (k 0, 10, .inl (g 1))), ((rw 3), .inl (k 0, 60, .inl (g 3))), ((rd 0), .inr (4, [.ref (rw 0), .int (v_176 1), .int (v_176 2), .int (v_176 3), .ref (rd 1), .int (v_176 5), .int (v_176 6), .int (v_176 7), .int (v_176 8), .int (v_176 9)])), ((rd 1), .inl (k 2, 900, .inl tf))] H := hP
            have hD : va_D A [((rw 0), .inr (5, [.int (y 0), .int (y 1), .int (y 2), .int r_174, .int (y 4), .int (y 5), .int (y 6), .int (y 7), .int (y 8), .int (y 9), .int (y 10), .ref (rw 1), .ref (rw 2), .ref (rw 3), .ref (rw 4), .ref (rw 5)])), ((rw 1), .inl (k 0, 10, .inl (g 1))), ((rw 3), .inl (k 0, 60, .inl (g 3))), ((rd 0), .inr (4, [.ref (rw 0), .int (v_176 1), .int (v_176 2), .int (v_176 3), .ref (rd 1), .int (v_176 5), .int (v_176 6), .int (v_176 7), .int (v_176 8), .int (v_176 9)])), ((rd 1), .inl (k 2, 900, .inl tf))] := hD
            refine lv_aload_n hx hb dX5_readLine_107 rfl (lv_at hl 0 rfl) ?_
            refine va_get (D := D) (ci := 4) (v := .ref (rw 0)) (C := RX5) (T := TX5) (N := 10) hx hb hts inlX5 hown hK hP 3 rfl rfl 0 (by decide) (hts _ mw_47) (fun _ h9 => h9) rfl dX5_readLine_108 ?_
            refine lv_aload_n hx hb dX5_readLine_111 rfl (lv_at hl 0 rfl) ?_
            refine lv_iconst (v := 1) hx hb dX5_readLine_112 (by decide) ?_
            refine lv_bipush (v := 30) hx hb dX5_readLine_113 (by decide) ?_
            refine kV_ui (q0 := 0) (As := [.int 1, .int 30]) (rest := [.ref (rw 0)]) (wr := [((rw 0), .inr (5, [.int (y 0), .int (y 1), .int (y 2), .int r_174, .int (y 4), .int (y 5), .int (y 6), .int (y 7), .int (y 8), .int (y 9), .int (y 10), .ref (rw 1), .ref (rw 2), .ref (rw 3), .ref (rw 4), .ref (rw 5)])), ((rw 1), .inl (k 0, 10, .inl (g 1))), ((rw 3), .inl (k 0, 60, .inl (g 3)))]) ⟨hx, hb, hml, hown, hts⟩ (s_R_readNumber l D k _ _ v_176 tf 1 30 _ (show 0 ≤ (v_176 3).toInt ∧ (v_176 3).toInt ≤ 900 from ⟨by omega, by omega⟩) (show 0 ≤ (v_176 5).toInt ∧ (v_176 5).toInt ≤ 900 from ⟨by omega, by omega⟩) (show 0 ≤ (v_176 6).toInt ∧ (v_176 6).toInt ≤ 900 from ⟨by omega, by omega⟩) (show 0 ≤ (v_176 7).toInt ∧ (v_176 7).toInt ≤ 900 from ⟨by omega, by omega⟩) (show (v_176 6).toInt ≤ (v_176 7).toInt from by omega) (show (v_176 7).toInt ≤ (v_176 5).toInt from by omega)) (gV mw_248 mw_249 mw_250 mw_15 mw_251) hd_yX5_readNumber rfl rfl ⟨Nat.le_of_ble_eq_true rfl, Nat.le_of_ble_eq_true rfl⟩ hK hN0 hP hD hS hA [3, 4] [0, 1, 2] rfl rfl (by decide) (by decide) (by decide) rfl rfl rfl rfl hl.1 rfl (Nat.le_of_ble_eq_true rfl) dX5_readLine_115 ⟨Nat.le_of_ble_eq_true rfl, Nat.le_of_ble_eq_true rfl⟩ (fun r_184 u_185 H locs hw hP hD hS => ?_)
            obtain ⟨v_186, rfl⟩ : ∃ z, z = u_185 := ⟨_, rfl⟩
            obtain ⟨hr_184, h_187, h_188, h_189, h_190, h_191, h_192, h_193⟩ := hw
            have h_187 : 0 ≤ (v_186 3).toInt ∧ (v_186 3).toInt ≤ 900 := h_187
            have h_188 : 0 ≤ (v_186 5).toInt ∧ (v_186 5).toInt ≤ 900 := h_188
            have h_189 : 0 ≤ (v_186 6).toInt ∧ (v_186 6).toInt ≤ 900 := h_189
            have h_190 : 0 ≤ (v_186 7).toInt ∧ (v_186 7).toInt ≤ 900 := h_190
            have h_191 : (v_186 6).toInt ≤ (v_186 7).toInt := h_191
            have h_192 : (v_186 7).toInt ≤ (v_186 5).toInt := h_192
            have h_193 : (v_186 3).toInt = (v_176 3).toInt := h_193
            have hP : va_P D vwCl [((rw 0), .inr (5, [.int (y 0), .int (y 1), .int (y 2), .int r_174, .int (y 4), .int (y 5), .int (y 6), .int (y 7), .int (y 8), .int (y 9), .int (y 10), .ref (rw 1), .ref (rw 2), .ref (rw 3), .ref (rw 4), .ref (rw 5)])), ((rw 1), .inl (k 0, 10, .inl (g 1))), ((rw 3), .inl (k 0, 60, .inl (g 3))), ((rd 0), .inr (4, [.ref (rw 0), .int (v_186 1), .int (v_186 2), .int (v_186 3), .ref (rd 1), .int (v_186 5), .int (v_186 6), .int (v_186 7), .int (v_186 8), .int (v_186 9)])), ((rd 1), .inl (k 2, 900, .inl tf))] H := hP
            have hD : va_D A [((rw 0), .inr (5, [.int (y 0), .int (y 1), .int (y 2), .int r_174, .int (y 4), .int (y 5), .int (y 6), .int (y 7), .int (y 8), .int (y 9), .int (y 10), .ref (rw 1), .ref (rw 2), .ref (rw 3), .ref (rw 4), .ref (rw 5)])), ((rw 1), .inl (k 0, 10, .inl (g 1))), ((rw 3), .inl (k 0, 60, .inl (g 3))), ((rd 0), .inr (4, [.ref (rw 0), .int (v_186 1), .int (v_186 2), .int (v_186 3), .ref (rd 1), .int (v_186 5), .int (v_186 6), .int (v_186 7), .int (v_186 8), .int (v_186 9)])), ((rd 1), .inl (k 2, 900, .inl tf))] := hD
            refine va_put (D := D) (ci := 5) (v := .int r_184) (ty := .int) (C := RX6) (T := TX6) (N := 16) hx hb hts inlX6 tyX6 tyX6_ok nmX6 hown hK hP hD hS 0 rfl rfl 4 (by decide) (hts _ mw_183) (fun _ h9 => h9) rfl (by decide +kernel) rfl rfl (Nat.le_of_ble_eq_true rfl) dX5_readLine_118 (fun H locs hP hD hS => ?_)
            have hP : va_P D vwCl [((rw 0), .inr (5, [.int (y 0), .int (y 1), .int (y 2), .int r_174, .int r_184, .int (y 5), .int (y 6), .int (y 7), .int (y 8), .int (y 9), .int (y 10), .ref (rw 1), .ref (rw 2), .ref (rw 3), .ref (rw 4), .ref (rw 5)])), ((rw 1), .inl (k 0, 10, .inl (g 1))), ((rw 3), .inl (k 0, 60, .inl (g 3))), ((rd 0), .inr (4, [.ref (rw 0), .int (v_186 1), .int (v_186 2), .int (v_186 3), .ref (rd 1), .int (v_186 5), .int (v_186 6), .int (v_186 7), .int (v_186 8), .int (v_186 9)])), ((rd 1), .inl (k 2, 900, .inl tf))] H := hP
            have hD : va_D A [((rw 0), .inr (5, [.int (y 0), .int (y 1), .int (y 2), .int r_174, .int r_184, .int (y 5), .int (y 6), .int (y 7), .int (y 8), .int (y 9), .int (y 10), .ref (rw 1), .ref (rw 2), .ref (rw 3), .ref (rw 4), .ref (rw 5)])), ((rw 1), .inl (k 0, 10, .inl (g 1))), ((rw 3), .inl (k 0, 60, .inl (g 3))), ((rd 0), .inr (4, [.ref (rw 0), .int (v_186 1), .int (v_186 2), .int (v_186 3), .ref (rd 1), .int (v_186 5), .int (v_186 6), .int (v_186 7), .int (v_186 8), .int (v_186 9)])), ((rd 1), .inl (k 2, 900, .inl tf))] := hD
            refine lv_goto (tgt := 159) hx hb dX5_readLine_121 (by decide) ?_
            refine lv_aload_n hx hb dX5_readLine_159 rfl (lv_at hl 0 rfl) ?_
            refine kV_uv (q0 := 0) (As := []) (rest := []) (wr := [((rw 1), .inl (k 0, 10, .inl (g 1))), ((rw 3), .inl (k 0, 60, .inl (g 3)))]) ⟨hx, hb, hml, hown, hts⟩ (s_R_endLine l D k _ _ v_186 tf (va_seli [(y 0), (y 1), (y 2), r_174, r_184, (y 5), (y 6), (y 7), (y 8), (y 9), (y 10)]) _ (show 0 ≤ (v_186 3).toInt ∧ (v_186 3).toInt ≤ 900 from ⟨by omega, by omega⟩) (show 0 ≤ (v_186 5).toInt ∧ (v_186 5).toInt ≤ 900 from ⟨by omega, by omega⟩) (show 0 ≤ (v_186 6).toInt ∧ (v_186 6).toInt ≤ 900 from ⟨by omega, by omega⟩) (show 0 ≤ (v_186 7).toInt ∧ (v_186 7).toInt ≤ 900 from ⟨by omega, by omega⟩) (show (v_186 6).toInt ≤ (v_186 7).toInt from by omega) (show (v_186 7).toInt ≤ (v_186 5).toInt from by omega) (show 0 ≤ (y 0).toInt ∧ (y 0).toInt ≤ 10 from ⟨by omega, by omega⟩) (show 0 ≤ (y 2).toInt ∧ (y 2).toInt ≤ 6 from ⟨by omega, by omega⟩) (show 0 ≤ (y 6).toInt ∧ (y 6).toInt ≤ 1 from ⟨by omega, by omega⟩)) (gV mw_270 mw_271 mw_272 mw_15 mw_273) hd_yX5_endLine rfl rfl ⟨Nat.le_of_ble_eq_true rfl, Nat.le_of_ble_eq_true rfl⟩ hK hN0 hP hD hS hA [3, 4, 0] [1, 2] rfl rfl (by decide) (by decide) (by decide) rfl rfl rfl rfl hl.1 rfl (Nat.le_of_ble_eq_true rfl) dX5_readLine_160 ⟨Nat.le_of_ble_eq_true rfl, Nat.le_of_ble_eq_true rfl⟩ (fun u_195 H locs hw hP hD hS => ?_)
            obtain ⟨v_196, v_197⟩ := u_195
            obtain ⟨h_198, h_199, h_200, h_201, h_202, h_203, h_204, h_205, h_206, h_207⟩ := hw
            have h_198 : 0 ≤ (v_196 3).toInt ∧ (v_196 3).toInt ≤ 900 := h_198
            have h_199 : 0 ≤ (v_196 5).toInt ∧ (v_196 5).toInt ≤ 900 := h_199
            have h_200 : 0 ≤ (v_196 6).toInt ∧ (v_196 6).toInt ≤ 900 := h_200
            have h_201 : 0 ≤ (v_196 7).toInt ∧ (v_196 7).toInt ≤ 900 := h_201
            have h_202 : (v_196 6).toInt ≤ (v_196 7).toInt := h_202
            have h_203 : (v_196 7).toInt ≤ (v_196 5).toInt := h_203
            have h_204 : (v_196 3).toInt = (v_186 3).toInt := h_204
            have h_205 : 0 ≤ (v_197 0).toInt ∧ (v_197 0).toInt ≤ 10 := h_205
            have h_206 : 0 ≤ (v_197 2).toInt ∧ (v_197 2).toInt ≤ 6 := h_206
            have h_207 : 0 ≤ (v_197 6).toInt ∧ (v_197 6).toInt ≤ 1 := h_207
            have hP : va_P D vwCl [((rw 1), .inl (k 0, 10, .inl (g 1))), ((rw 3), .inl (k 0, 60, .inl (g 3))), ((rd 0), .inr (4, [.ref (rw 0), .int (v_196 1), .int (v_196 2), .int (v_196 3), .ref (rd 1), .int (v_196 5), .int (v_196 6), .int (v_196 7), .int (v_196 8), .int (v_196 9)])), ((rd 1), .inl (k 2, 900, .inl tf)), ((rw 0), .inr (5, [.int (v_197 0), .int (v_197 1), .int (v_197 2), .int (v_197 3), .int (v_197 4), .int (v_197 5), .int (v_197 6), .int (v_197 7), .int (v_197 8), .int (v_197 9), .int (v_197 10), .ref (rw 1), .ref (rw 2), .ref (rw 3), .ref (rw 4), .ref (rw 5)]))] H := hP
            have hD : va_D A [((rw 1), .inl (k 0, 10, .inl (g 1))), ((rw 3), .inl (k 0, 60, .inl (g 3))), ((rd 0), .inr (4, [.ref (rw 0), .int (v_196 1), .int (v_196 2), .int (v_196 3), .ref (rd 1), .int (v_196 5), .int (v_196 6), .int (v_196 7), .int (v_196 8), .int (v_196 9)])), ((rd 1), .inl (k 2, 900, .inl tf)), ((rw 0), .inr (5, [.int (v_197 0), .int (v_197 1), .int (v_197 2), .int (v_197 3), .int (v_197 4), .int (v_197 5), .int (v_197 6), .int (v_197 7), .int (v_197 8), .int (v_197 9), .int (v_197 10), .ref (rw 1), .ref (rw 2), .ref (rw 3), .ref (rw 4), .ref (rw 5)]))] := hD
            exact W.vret hx hb hr (fun t ht hW => ⟨⟨((va_seli [0, (v_196 1), (v_196 2), (v_196 3), 0, (v_196 5), (v_196 6), (v_196 7), (v_196 8), (v_196 9)]), (va_seli [(v_197 0), (v_197 1), (v_197 2), (v_197 3), (v_197 4), (v_197 5), (v_197 6), (v_197 7), (v_197 8), (v_197 9), (v_197 10)]), (va_selg [(fun _ => 0), (g 1), (fun _ => 0), (g 3)])), rfl, ⟨(show 0 ≤ (v_196 3).toInt ∧ (v_196 3).toInt ≤ 900 from ⟨by omega, by omega⟩), (show 0 ≤ (v_196 5).toInt ∧ (v_196 5).toInt ≤ 900 from ⟨by omega, by omega⟩), (show 0 ≤ (v_196 6).toInt ∧ (v_196 6).toInt ≤ 900 from ⟨by omega, by omega⟩), (show 0 ≤ (v_196 7).toInt ∧ (v_196 7).toInt ≤ 900 from ⟨by omega, by omega⟩), (show (v_196 6).toInt ≤ (v_196 7).toInt from by omega), (show (v_196 7).toInt ≤ (v_196 5).toInt from by omega), (show (v_196 3).toInt = (rf 3).toInt from by omega), (show 0 ≤ (v_197 0).toInt ∧ (v_197 0).toInt ≤ 10 from ⟨by omega, by omega⟩), (show 0 ≤ (v_197 2).toInt ∧ (v_197 2).toInt ≤ 6 from ⟨by omega, by omega⟩), (show 0 ≤ (v_197 6).toInt ∧ (v_197 6).toInt ≤ 1 from ⟨by omega, by omega⟩), (show ∀ j : Nat, 0 ≤ ((g 1) j).toInt ∧ ((g 1) j).toInt ≤ 6 from w_hd)⟩, by rw [ht]; exact hP.sub [2, 3, 4, 0, 1] rfl, hD.sub [2, 3, 4, 0, 1] (by decide) rfl⟩, hS.F ht⟩) hS.2.2 dX5_readLine_163
        · have c_107 : (y 0).toInt = 0 := ti_eq c_107
          have qc_107 : (y 0) = 0 := ti_of (show (y 0).toInt = 0 from by omega)
          refine lv_aload_n hx hb dX5_readLine_59 rfl (lv_at hl 0 rfl) ?_
          refine kV_uv (q0 := 0) (As := []) (rest := []) (wr := [((rw 0), .inr (5, [.int (y 0), .int (y 1), .int (y 2), .int (y 3), .int (y 4), .int (y 5), .int (y 6), .int (y 7), .int (y 8), .int (y 9), .int (y 10), .ref (rw 1), .ref (rw 2), .ref (rw 3), .ref (rw 4), .ref (rw 5)])), ((rw 1), .inl (k 0, 10, .inl (g 1))), ((rw 3), .inl (k 0, 60, .inl (g 3)))]) ⟨hx, hb, hml, hown, hts⟩ (s_R_advance l D k _ _ rf tf _ (show 0 ≤ (rf 3).toInt ∧ (rf 3).toInt ≤ 900 from ⟨by omega, by omega⟩) (show 0 ≤ (rf 5).toInt ∧ (rf 5).toInt ≤ 900 from ⟨by omega, by omega⟩) (show 0 ≤ (rf 7).toInt ∧ (rf 7).toInt ≤ 900 from ⟨by omega, by omega⟩) (show (rf 7).toInt ≤ (rf 5).toInt from by omega)) (gV mw_159 mw_160 mw_161 mw_15 mw_162) hd_yX5_advance rfl rfl ⟨Nat.le_of_ble_eq_true rfl, Nat.le_of_ble_eq_true rfl⟩ hK hN0 hP hD hS hA [0, 1] [2, 3, 4] rfl rfl (by decide) (by decide) (by decide) rfl rfl rfl rfl hl.1 rfl (Nat.le_of_ble_eq_true rfl) dX5_readLine_60 ⟨Nat.le_of_ble_eq_true rfl, Nat.le_of_ble_eq_true rfl⟩ (fun u_209 H locs hw hP hD hS => ?_)
          obtain ⟨v_210, rfl⟩ : ∃ z, z = u_209 := ⟨_, rfl⟩
          obtain ⟨h_211, h_212, h_213, h_214, h_215, h_216, h_217⟩ := hw
          have h_211 : 0 ≤ (v_210 3).toInt ∧ (v_210 3).toInt ≤ 900 := h_211
          have h_212 : 0 ≤ (v_210 5).toInt ∧ (v_210 5).toInt ≤ 900 := h_212
          have h_213 : 0 ≤ (v_210 6).toInt ∧ (v_210 6).toInt ≤ 900 := h_213
          have h_214 : 0 ≤ (v_210 7).toInt ∧ (v_210 7).toInt ≤ 900 := h_214
          have h_215 : (v_210 6).toInt ≤ (v_210 7).toInt := h_215
          have h_216 : (v_210 7).toInt ≤ (v_210 5).toInt := h_216
          have h_217 : (v_210 3).toInt = (rf 3).toInt := h_217
          have hP : va_P D vwCl [((rw 0), .inr (5, [.int (y 0), .int (y 1), .int (y 2), .int (y 3), .int (y 4), .int (y 5), .int (y 6), .int (y 7), .int (y 8), .int (y 9), .int (y 10), .ref (rw 1), .ref (rw 2), .ref (rw 3), .ref (rw 4), .ref (rw 5)])), ((rw 1), .inl (k 0, 10, .inl (g 1))), ((rw 3), .inl (k 0, 60, .inl (g 3))), ((rd 0), .inr (4, [.ref (rw 0), .int (v_210 1), .int (v_210 2), .int (v_210 3), .ref (rd 1), .int (v_210 5), .int (v_210 6), .int (v_210 7), .int (v_210 8), .int (v_210 9)])), ((rd 1), .inl (k 2, 900, .inl tf))] H := hP
          have hD : va_D A [((rw 0), .inr (5, [.int (y 0), .int (y 1), .int (y 2), .int (y 3), .int (y 4), .int (y 5), .int (y 6), .int (y 7), .int (y 8), .int (y 9), .int (y 10), .ref (rw 1), .ref (rw 2), .ref (rw 3), .ref (rw 4), .ref (rw 5)])), ((rw 1), .inl (k 0, 10, .inl (g 1))), ((rw 3), .inl (k 0, 60, .inl (g 3))), ((rd 0), .inr (4, [.ref (rw 0), .int (v_210 1), .int (v_210 2), .int (v_210 3), .ref (rd 1), .int (v_210 5), .int (v_210 6), .int (v_210 7), .int (v_210 8), .int (v_210 9)])), ((rd 1), .inl (k 2, 900, .inl tf))] := hD
          refine lv_aload_n hx hb dX5_readLine_63 rfl (lv_at hl 0 rfl) ?_
          refine va_get (D := D) (ci := 4) (v := .ref (rw 0)) (C := RX5) (T := TX5) (N := 10) hx hb hts inlX5 hown hK hP 3 rfl rfl 0 (by decide) (hts _ mw_47) (fun _ h9 => h9) rfl dX5_readLine_64 ?_
          refine lv_aload_n hx hb dX5_readLine_67 rfl (lv_at hl 0 rfl) ?_
          refine lv_iconst (v := 1) hx hb dX5_readLine_68 (by decide) ?_
          refine lv_bipush (v := 6) hx hb dX5_readLine_69 (by decide) ?_
          refine kV_ui (q0 := 0) (As := [.int 1, .int 6]) (rest := [.ref (rw 0)]) (wr := [((rw 0), .inr (5, [.int (y 0), .int (y 1), .int (y 2), .int (y 3), .int (y 4), .int (y 5), .int (y 6), .int (y 7), .int (y 8), .int (y 9), .int (y 10), .ref (rw 1), .ref (rw 2), .ref (rw 3), .ref (rw 4), .ref (rw 5)])), ((rw 1), .inl (k 0, 10, .inl (g 1))), ((rw 3), .inl (k 0, 60, .inl (g 3)))]) ⟨hx, hb, hml, hown, hts⟩ (s_R_readNumber6 l D k _ _ v_210 tf _ (show 0 ≤ (v_210 3).toInt ∧ (v_210 3).toInt ≤ 900 from ⟨by omega, by omega⟩) (show 0 ≤ (v_210 5).toInt ∧ (v_210 5).toInt ≤ 900 from ⟨by omega, by omega⟩) (show 0 ≤ (v_210 6).toInt ∧ (v_210 6).toInt ≤ 900 from ⟨by omega, by omega⟩) (show 0 ≤ (v_210 7).toInt ∧ (v_210 7).toInt ≤ 900 from ⟨by omega, by omega⟩) (show (v_210 6).toInt ≤ (v_210 7).toInt from by omega) (show (v_210 7).toInt ≤ (v_210 5).toInt from by omega)) (gV mw_248 mw_249 mw_250 mw_15 mw_251) hd_yX5_readNumber rfl rfl ⟨Nat.le_of_ble_eq_true rfl, Nat.le_of_ble_eq_true rfl⟩ hK hN0 hP hD hS hA [3, 4] [0, 1, 2] rfl rfl (by decide) (by decide) (by decide) rfl rfl rfl rfl hl.1 rfl (Nat.le_of_ble_eq_true rfl) dX5_readLine_71 ⟨Nat.le_of_ble_eq_true rfl, Nat.le_of_ble_eq_true rfl⟩ (fun r_218 u_219 H locs hw hP hD hS => ?_)
          obtain ⟨v_220, rfl⟩ : ∃ z, z = u_219 := ⟨_, rfl⟩
          obtain ⟨hr_218, h_221, h_222, h_223, h_224, h_225, h_226, h_227⟩ := hw
          have h_221 : 0 ≤ (v_220 3).toInt ∧ (v_220 3).toInt ≤ 900 := h_221
          have h_222 : 0 ≤ (v_220 5).toInt ∧ (v_220 5).toInt ≤ 900 := h_222
          have h_223 : 0 ≤ (v_220 6).toInt ∧ (v_220 6).toInt ≤ 900 := h_223
          have h_224 : 0 ≤ (v_220 7).toInt ∧ (v_220 7).toInt ≤ 900 := h_224
          have h_225 : (v_220 6).toInt ≤ (v_220 7).toInt := h_225
          have h_226 : (v_220 7).toInt ≤ (v_220 5).toInt := h_226
          have h_227 : (v_220 3).toInt = (v_210 3).toInt := h_227
          have hP : va_P D vwCl [((rw 0), .inr (5, [.int (y 0), .int (y 1), .int (y 2), .int (y 3), .int (y 4), .int (y 5), .int (y 6), .int (y 7), .int (y 8), .int (y 9), .int (y 10), .ref (rw 1), .ref (rw 2), .ref (rw 3), .ref (rw 4), .ref (rw 5)])), ((rw 1), .inl (k 0, 10, .inl (g 1))), ((rw 3), .inl (k 0, 60, .inl (g 3))), ((rd 0), .inr (4, [.ref (rw 0), .int (v_220 1), .int (v_220 2), .int (v_220 3), .ref (rd 1), .int (v_220 5), .int (v_220 6), .int (v_220 7), .int (v_220 8), .int (v_220 9)])), ((rd 1), .inl (k 2, 900, .inl tf))] H := hP
          have hD : va_D A [((rw 0), .inr (5, [.int (y 0), .int (y 1), .int (y 2), .int (y 3), .int (y 4), .int (y 5), .int (y 6), .int (y 7), .int (y 8), .int (y 9), .int (y 10), .ref (rw 1), .ref (rw 2), .ref (rw 3), .ref (rw 4), .ref (rw 5)])), ((rw 1), .inl (k 0, 10, .inl (g 1))), ((rw 3), .inl (k 0, 60, .inl (g 3))), ((rd 0), .inr (4, [.ref (rw 0), .int (v_220 1), .int (v_220 2), .int (v_220 3), .ref (rd 1), .int (v_220 5), .int (v_220 6), .int (v_220 7), .int (v_220 8), .int (v_220 9)])), ((rd 1), .inl (k 2, 900, .inl tf))] := hD
          have hr_218 : 1 ≤ r_218.toInt ∧ r_218.toInt ≤ 6 := hr_218
          refine va_put (D := D) (ci := 5) (v := .int r_218) (ty := .int) (C := RX6) (T := TX6) (N := 16) hx hb hts inlX6 tyX6 tyX6_ok nmX6 hown hK hP hD hS 0 rfl rfl 2 (by decide) (hts _ mw_181) (fun _ h9 => h9) rfl (by decide +kernel) rfl rfl (Nat.le_of_ble_eq_true rfl) dX5_readLine_74 (fun H locs hP hD hS => ?_)
          have hP : va_P D vwCl [((rw 0), .inr (5, [.int (y 0), .int (y 1), .int r_218, .int (y 3), .int (y 4), .int (y 5), .int (y 6), .int (y 7), .int (y 8), .int (y 9), .int (y 10), .ref (rw 1), .ref (rw 2), .ref (rw 3), .ref (rw 4), .ref (rw 5)])), ((rw 1), .inl (k 0, 10, .inl (g 1))), ((rw 3), .inl (k 0, 60, .inl (g 3))), ((rd 0), .inr (4, [.ref (rw 0), .int (v_220 1), .int (v_220 2), .int (v_220 3), .ref (rd 1), .int (v_220 5), .int (v_220 6), .int (v_220 7), .int (v_220 8), .int (v_220 9)])), ((rd 1), .inl (k 2, 900, .inl tf))] H := hP
          have hD : va_D A [((rw 0), .inr (5, [.int (y 0), .int (y 1), .int r_218, .int (y 3), .int (y 4), .int (y 5), .int (y 6), .int (y 7), .int (y 8), .int (y 9), .int (y 10), .ref (rw 1), .ref (rw 2), .ref (rw 3), .ref (rw 4), .ref (rw 5)])), ((rw 1), .inl (k 0, 10, .inl (g 1))), ((rw 3), .inl (k 0, 60, .inl (g 3))), ((rd 0), .inr (4, [.ref (rw 0), .int (v_220 1), .int (v_220 2), .int (v_220 3), .ref (rd 1), .int (v_220 5), .int (v_220 6), .int (v_220 7), .int (v_220 8), .int (v_220 9)])), ((rd 1), .inl (k 2, 900, .inl tf))] := hD
          refine lv_goto (tgt := 159) hx hb dX5_readLine_77 (by decide) ?_
          refine lv_aload_n hx hb dX5_readLine_159 rfl (lv_at hl 0 rfl) ?_
          refine kV_uv (q0 := 0) (As := []) (rest := []) (wr := [((rw 1), .inl (k 0, 10, .inl (g 1))), ((rw 3), .inl (k 0, 60, .inl (g 3)))]) ⟨hx, hb, hml, hown, hts⟩ (s_R_endLine l D k _ _ v_220 tf (va_seli [(y 0), (y 1), r_218, (y 3), (y 4), (y 5), (y 6), (y 7), (y 8), (y 9), (y 10)]) _ (show 0 ≤ (v_220 3).toInt ∧ (v_220 3).toInt ≤ 900 from ⟨by omega, by omega⟩) (show 0 ≤ (v_220 5).toInt ∧ (v_220 5).toInt ≤ 900 from ⟨by omega, by omega⟩) (show 0 ≤ (v_220 6).toInt ∧ (v_220 6).toInt ≤ 900 from ⟨by omega, by omega⟩) (show 0 ≤ (v_220 7).toInt ∧ (v_220 7).toInt ≤ 900 from ⟨by omega, by omega⟩) (show (v_220 6).toInt ≤ (v_220 7).toInt from by omega) (show (v_220 7).toInt ≤ (v_220 5).toInt from by omega) (show 0 ≤ (y 0).toInt ∧ (y 0).toInt ≤ 10 from ⟨by omega, by omega⟩) (show 0 ≤ r_218.toInt ∧ r_218.toInt ≤ 6 from ⟨by omega, by omega⟩) (show 0 ≤ (y 6).toInt ∧ (y 6).toInt ≤ 1 from ⟨by omega, by omega⟩)) (gV mw_270 mw_271 mw_272 mw_15 mw_273) hd_yX5_endLine rfl rfl ⟨Nat.le_of_ble_eq_true rfl, Nat.le_of_ble_eq_true rfl⟩ hK hN0 hP hD hS hA [3, 4, 0] [1, 2] rfl rfl (by decide) (by decide) (by decide) rfl rfl rfl rfl hl.1 rfl (Nat.le_of_ble_eq_true rfl) dX5_readLine_160 ⟨Nat.le_of_ble_eq_true rfl, Nat.le_of_ble_eq_true rfl⟩ (fun u_229 H locs hw hP hD hS => ?_)
          obtain ⟨v_230, v_231⟩ := u_229
          obtain ⟨h_232, h_233, h_234, h_235, h_236, h_237, h_238, h_239, h_240, h_241⟩ := hw
          have h_232 : 0 ≤ (v_230 3).toInt ∧ (v_230 3).toInt ≤ 900 := h_232
          have h_233 : 0 ≤ (v_230 5).toInt ∧ (v_230 5).toInt ≤ 900 := h_233
          have h_234 : 0 ≤ (v_230 6).toInt ∧ (v_230 6).toInt ≤ 900 := h_234
          have h_235 : 0 ≤ (v_230 7).toInt ∧ (v_230 7).toInt ≤ 900 := h_235
          have h_236 : (v_230 6).toInt ≤ (v_230 7).toInt := h_236
          have h_237 : (v_230 7).toInt ≤ (v_230 5).toInt := h_237
          have h_238 : (v_230 3).toInt = (v_220 3).toInt := h_238
          have h_239 : 0 ≤ (v_231 0).toInt ∧ (v_231 0).toInt ≤ 10 := h_239
          have h_240 : 0 ≤ (v_231 2).toInt ∧ (v_231 2).toInt ≤ 6 := h_240
          have h_241 : 0 ≤ (v_231 6).toInt ∧ (v_231 6).toInt ≤ 1 := h_241
          have hP : va_P D vwCl [((rw 1), .inl (k 0, 10, .inl (g 1))), ((rw 3), .inl (k 0, 60, .inl (g 3))), ((rd 0), .inr (4, [.ref (rw 0), .int (v_230 1), .int (v_230 2), .int (v_230 3), .ref (rd 1), .int (v_230 5), .int (v_230 6), .int (v_230 7), .int (v_230 8), .int (v_230 9)])), ((rd 1), .inl (k 2, 900, .inl tf)), ((rw 0), .inr (5, [.int (v_231 0), .int (v_231 1), .int (v_231 2), .int (v_231 3), .int (v_231 4), .int (v_231 5), .int (v_231 6), .int (v_231 7), .int (v_231 8), .int (v_231 9), .int (v_231 10), .ref (rw 1), .ref (rw 2), .ref (rw 3), .ref (rw 4), .ref (rw 5)]))] H := hP
          have hD : va_D A [((rw 1), .inl (k 0, 10, .inl (g 1))), ((rw 3), .inl (k 0, 60, .inl (g 3))), ((rd 0), .inr (4, [.ref (rw 0), .int (v_230 1), .int (v_230 2), .int (v_230 3), .ref (rd 1), .int (v_230 5), .int (v_230 6), .int (v_230 7), .int (v_230 8), .int (v_230 9)])), ((rd 1), .inl (k 2, 900, .inl tf)), ((rw 0), .inr (5, [.int (v_231 0), .int (v_231 1), .int (v_231 2), .int (v_231 3), .int (v_231 4), .int (v_231 5), .int (v_231 6), .int (v_231 7), .int (v_231 8), .int (v_231 9), .int (v_231 10), .ref (rw 1), .ref (rw 2), .ref (rw 3), .ref (rw 4), .ref (rw 5)]))] := hD
          exact W.vret hx hb hr (fun t ht hW => ⟨⟨((va_seli [0, (v_230 1), (v_230 2), (v_230 3), 0, (v_230 5), (v_230 6), (v_230 7), (v_230 8), (v_230 9)]), (va_seli [(v_231 0), (v_231 1), (v_231 2), (v_231 3), (v_231 4), (v_231 5), (v_231 6), (v_231 7), (v_231 8), (v_231 9), (v_231 10)]), (va_selg [(fun _ => 0), (g 1), (fun _ => 0), (g 3)])), rfl, ⟨(show 0 ≤ (v_230 3).toInt ∧ (v_230 3).toInt ≤ 900 from ⟨by omega, by omega⟩), (show 0 ≤ (v_230 5).toInt ∧ (v_230 5).toInt ≤ 900 from ⟨by omega, by omega⟩), (show 0 ≤ (v_230 6).toInt ∧ (v_230 6).toInt ≤ 900 from ⟨by omega, by omega⟩), (show 0 ≤ (v_230 7).toInt ∧ (v_230 7).toInt ≤ 900 from ⟨by omega, by omega⟩), (show (v_230 6).toInt ≤ (v_230 7).toInt from by omega), (show (v_230 7).toInt ≤ (v_230 5).toInt from by omega), (show (v_230 3).toInt = (rf 3).toInt from by omega), (show 0 ≤ (v_231 0).toInt ∧ (v_231 0).toInt ≤ 10 from ⟨by omega, by omega⟩), (show 0 ≤ (v_231 2).toInt ∧ (v_231 2).toInt ≤ 6 from ⟨by omega, by omega⟩), (show 0 ≤ (v_231 6).toInt ∧ (v_231 6).toInt ≤ 1 from ⟨by omega, by omega⟩), (show ∀ j : Nat, 0 ≤ ((g 1) j).toInt ∧ ((g 1) j).toInt ≤ 6 from w_hd)⟩, by rw [ht]; exact hP.sub [2, 3, 4, 0, 1] rfl, hD.sub [2, 3, 4, 0, 1] (by decide) rfl⟩, hS.F ht⟩) hS.2.2 dX5_readLine_163
    · have c_4 : r_3.toInt ≠ 0 := ti_ne c_4
      have qc_4 : r_3 = 1 := ti_of (show r_3.toInt = 1 from by omega)
      refine lv_aload_n hx hb dX5_readLine_25 rfl (lv_at hl 0 rfl) ?_
      refine va_get (D := D) (ci := 4) (v := .ref (rw 0)) (C := RX5) (T := TX5) (N := 10) hx hb hts inlX5 hown hK hP 0 rfl rfl 0 (by decide) (hts _ mw_47) (fun _ h9 => h9) rfl dX5_readLine_26 ?_
      refine lv_iconst (v := 1) hx hb dX5_readLine_29 (by decide) ?_
      refine va_put (D := D) (ci := 5) (v := .int 1) (ty := .boolean) (C := RX6) (T := TX6) (N := 16) hx hb hts inlX6 tyX6 tyX6_ok nmX6 hown hK hP hD hS 2 rfl rfl 6 (by decide) (hts _ mw_179) (fun _ h9 => h9) rfl (by decide +kernel) rfl rfl (Nat.le_of_ble_eq_true rfl) dX5_readLine_30 (fun H locs hP hD hS => ?_)
      have hP : va_P D vwCl [((rd 0), .inr (4, [.ref (rw 0), .int (rf 1), .int (rf 2), .int (rf 3), .ref (rd 1), .int (rf 5), .int (rf 6), .int (rf 7), .int (rf 8), .int (rf 9)])), ((rd 1), .inl (k 2, 900, .inl tf)), ((rw 0), .inr (5, [.int (y 0), .int (y 1), .int (y 2), .int (y 3), .int (y 4), .int (y 5), .int 1, .int (y 7), .int (y 8), .int (y 9), .int (y 10), .ref (rw 1), .ref (rw 2), .ref (rw 3), .ref (rw 4), .ref (rw 5)])), ((rw 1), .inl (k 0, 10, .inl (g 1))), ((rw 3), .inl (k 0, 60, .inl (g 3)))] H := hP
      have hD : va_D A [((rd 0), .inr (4, [.ref (rw 0), .int (rf 1), .int (rf 2), .int (rf 3), .ref (rd 1), .int (rf 5), .int (rf 6), .int (rf 7), .int (rf 8), .int (rf 9)])), ((rd 1), .inl (k 2, 900, .inl tf)), ((rw 0), .inr (5, [.int (y 0), .int (y 1), .int (y 2), .int (y 3), .int (y 4), .int (y 5), .int 1, .int (y 7), .int (y 8), .int (y 9), .int (y 10), .ref (rw 1), .ref (rw 2), .ref (rw 3), .ref (rw 4), .ref (rw 5)])), ((rw 1), .inl (k 0, 10, .inl (g 1))), ((rw 3), .inl (k 0, 60, .inl (g 3)))] := hD
      refine lv_aload_n hx hb dX5_readLine_33 rfl (lv_at hl 0 rfl) ?_
      refine kV_uv (q0 := 0) (As := []) (rest := []) (wr := [((rw 0), .inr (5, [.int (y 0), .int (y 1), .int (y 2), .int (y 3), .int (y 4), .int (y 5), .int 1, .int (y 7), .int (y 8), .int (y 9), .int (y 10), .ref (rw 1), .ref (rw 2), .ref (rw 3), .ref (rw 4), .ref (rw 5)])), ((rw 1), .inl (k 0, 10, .inl (g 1))), ((rw 3), .inl (k 0, 60, .inl (g 3)))]) ⟨hx, hb, hml, hown, hts⟩ (s_R_advance l D k _ _ rf tf _ (show 0 ≤ (rf 3).toInt ∧ (rf 3).toInt ≤ 900 from ⟨by omega, by omega⟩) (show 0 ≤ (rf 5).toInt ∧ (rf 5).toInt ≤ 900 from ⟨by omega, by omega⟩) (show 0 ≤ (rf 7).toInt ∧ (rf 7).toInt ≤ 900 from ⟨by omega, by omega⟩) (show (rf 7).toInt ≤ (rf 5).toInt from by omega)) (gV mw_159 mw_160 mw_161 mw_15 mw_162) hd_yX5_advance rfl rfl ⟨Nat.le_of_ble_eq_true rfl, Nat.le_of_ble_eq_true rfl⟩ hK hN0 hP hD hS hA [0, 1] [2, 3, 4] rfl rfl (by decide) (by decide) (by decide) rfl rfl rfl rfl hl.1 rfl (Nat.le_of_ble_eq_true rfl) dX5_readLine_34 ⟨Nat.le_of_ble_eq_true rfl, Nat.le_of_ble_eq_true rfl⟩ (fun u_243 H locs hw hP hD hS => ?_)
      obtain ⟨v_244, rfl⟩ : ∃ z, z = u_243 := ⟨_, rfl⟩
      obtain ⟨h_245, h_246, h_247, h_248, h_249, h_250, h_251⟩ := hw
      have h_245 : 0 ≤ (v_244 3).toInt ∧ (v_244 3).toInt ≤ 900 := h_245
      have h_246 : 0 ≤ (v_244 5).toInt ∧ (v_244 5).toInt ≤ 900 := h_246
      have h_247 : 0 ≤ (v_244 6).toInt ∧ (v_244 6).toInt ≤ 900 := h_247
      have h_248 : 0 ≤ (v_244 7).toInt ∧ (v_244 7).toInt ≤ 900 := h_248
      have h_249 : (v_244 6).toInt ≤ (v_244 7).toInt := h_249
      have h_250 : (v_244 7).toInt ≤ (v_244 5).toInt := h_250
      have h_251 : (v_244 3).toInt = (rf 3).toInt := h_251
      have hP : va_P D vwCl [((rw 0), .inr (5, [.int (y 0), .int (y 1), .int (y 2), .int (y 3), .int (y 4), .int (y 5), .int 1, .int (y 7), .int (y 8), .int (y 9), .int (y 10), .ref (rw 1), .ref (rw 2), .ref (rw 3), .ref (rw 4), .ref (rw 5)])), ((rw 1), .inl (k 0, 10, .inl (g 1))), ((rw 3), .inl (k 0, 60, .inl (g 3))), ((rd 0), .inr (4, [.ref (rw 0), .int (v_244 1), .int (v_244 2), .int (v_244 3), .ref (rd 1), .int (v_244 5), .int (v_244 6), .int (v_244 7), .int (v_244 8), .int (v_244 9)])), ((rd 1), .inl (k 2, 900, .inl tf))] H := hP
      have hD : va_D A [((rw 0), .inr (5, [.int (y 0), .int (y 1), .int (y 2), .int (y 3), .int (y 4), .int (y 5), .int 1, .int (y 7), .int (y 8), .int (y 9), .int (y 10), .ref (rw 1), .ref (rw 2), .ref (rw 3), .ref (rw 4), .ref (rw 5)])), ((rw 1), .inl (k 0, 10, .inl (g 1))), ((rw 3), .inl (k 0, 60, .inl (g 3))), ((rd 0), .inr (4, [.ref (rw 0), .int (v_244 1), .int (v_244 2), .int (v_244 3), .ref (rd 1), .int (v_244 5), .int (v_244 6), .int (v_244 7), .int (v_244 8), .int (v_244 9)])), ((rd 1), .inl (k 2, 900, .inl tf))] := hD
      refine lv_goto (tgt := 159) hx hb dX5_readLine_37 (by decide) ?_
      refine lv_aload_n hx hb dX5_readLine_159 rfl (lv_at hl 0 rfl) ?_
      refine kV_uv (q0 := 0) (As := []) (rest := []) (wr := [((rw 1), .inl (k 0, 10, .inl (g 1))), ((rw 3), .inl (k 0, 60, .inl (g 3)))]) ⟨hx, hb, hml, hown, hts⟩ (s_R_endLine l D k _ _ v_244 tf (va_seli [(y 0), (y 1), (y 2), (y 3), (y 4), (y 5), 1, (y 7), (y 8), (y 9), (y 10)]) _ (show 0 ≤ (v_244 3).toInt ∧ (v_244 3).toInt ≤ 900 from ⟨by omega, by omega⟩) (show 0 ≤ (v_244 5).toInt ∧ (v_244 5).toInt ≤ 900 from ⟨by omega, by omega⟩) (show 0 ≤ (v_244 6).toInt ∧ (v_244 6).toInt ≤ 900 from ⟨by omega, by omega⟩) (show 0 ≤ (v_244 7).toInt ∧ (v_244 7).toInt ≤ 900 from ⟨by omega, by omega⟩) (show (v_244 6).toInt ≤ (v_244 7).toInt from by omega) (show (v_244 7).toInt ≤ (v_244 5).toInt from by omega) (show 0 ≤ (y 0).toInt ∧ (y 0).toInt ≤ 10 from ⟨by omega, by omega⟩) (show 0 ≤ (y 2).toInt ∧ (y 2).toInt ≤ 6 from ⟨by omega, by omega⟩) (show 0 ≤ (1 : Int32).toInt ∧ (1 : Int32).toInt ≤ 1 from ⟨by decide, by decide⟩)) (gV mw_270 mw_271 mw_272 mw_15 mw_273) hd_yX5_endLine rfl rfl ⟨Nat.le_of_ble_eq_true rfl, Nat.le_of_ble_eq_true rfl⟩ hK hN0 hP hD hS hA [3, 4, 0] [1, 2] rfl rfl (by decide) (by decide) (by decide) rfl rfl rfl rfl hl.1 rfl (Nat.le_of_ble_eq_true rfl) dX5_readLine_160 ⟨Nat.le_of_ble_eq_true rfl, Nat.le_of_ble_eq_true rfl⟩ (fun u_253 H locs hw hP hD hS => ?_)
      obtain ⟨v_254, v_255⟩ := u_253
      obtain ⟨h_256, h_257, h_258, h_259, h_260, h_261, h_262, h_263, h_264, h_265⟩ := hw
      have h_256 : 0 ≤ (v_254 3).toInt ∧ (v_254 3).toInt ≤ 900 := h_256
      have h_257 : 0 ≤ (v_254 5).toInt ∧ (v_254 5).toInt ≤ 900 := h_257
      have h_258 : 0 ≤ (v_254 6).toInt ∧ (v_254 6).toInt ≤ 900 := h_258
      have h_259 : 0 ≤ (v_254 7).toInt ∧ (v_254 7).toInt ≤ 900 := h_259
      have h_260 : (v_254 6).toInt ≤ (v_254 7).toInt := h_260
      have h_261 : (v_254 7).toInt ≤ (v_254 5).toInt := h_261
      have h_262 : (v_254 3).toInt = (v_244 3).toInt := h_262
      have h_263 : 0 ≤ (v_255 0).toInt ∧ (v_255 0).toInt ≤ 10 := h_263
      have h_264 : 0 ≤ (v_255 2).toInt ∧ (v_255 2).toInt ≤ 6 := h_264
      have h_265 : 0 ≤ (v_255 6).toInt ∧ (v_255 6).toInt ≤ 1 := h_265
      have hP : va_P D vwCl [((rw 1), .inl (k 0, 10, .inl (g 1))), ((rw 3), .inl (k 0, 60, .inl (g 3))), ((rd 0), .inr (4, [.ref (rw 0), .int (v_254 1), .int (v_254 2), .int (v_254 3), .ref (rd 1), .int (v_254 5), .int (v_254 6), .int (v_254 7), .int (v_254 8), .int (v_254 9)])), ((rd 1), .inl (k 2, 900, .inl tf)), ((rw 0), .inr (5, [.int (v_255 0), .int (v_255 1), .int (v_255 2), .int (v_255 3), .int (v_255 4), .int (v_255 5), .int (v_255 6), .int (v_255 7), .int (v_255 8), .int (v_255 9), .int (v_255 10), .ref (rw 1), .ref (rw 2), .ref (rw 3), .ref (rw 4), .ref (rw 5)]))] H := hP
      have hD : va_D A [((rw 1), .inl (k 0, 10, .inl (g 1))), ((rw 3), .inl (k 0, 60, .inl (g 3))), ((rd 0), .inr (4, [.ref (rw 0), .int (v_254 1), .int (v_254 2), .int (v_254 3), .ref (rd 1), .int (v_254 5), .int (v_254 6), .int (v_254 7), .int (v_254 8), .int (v_254 9)])), ((rd 1), .inl (k 2, 900, .inl tf)), ((rw 0), .inr (5, [.int (v_255 0), .int (v_255 1), .int (v_255 2), .int (v_255 3), .int (v_255 4), .int (v_255 5), .int (v_255 6), .int (v_255 7), .int (v_255 8), .int (v_255 9), .int (v_255 10), .ref (rw 1), .ref (rw 2), .ref (rw 3), .ref (rw 4), .ref (rw 5)]))] := hD
      exact W.vret hx hb hr (fun t ht hW => ⟨⟨((va_seli [0, (v_254 1), (v_254 2), (v_254 3), 0, (v_254 5), (v_254 6), (v_254 7), (v_254 8), (v_254 9)]), (va_seli [(v_255 0), (v_255 1), (v_255 2), (v_255 3), (v_255 4), (v_255 5), (v_255 6), (v_255 7), (v_255 8), (v_255 9), (v_255 10)]), (va_selg [(fun _ => 0), (g 1), (fun _ => 0), (g 3)])), rfl, ⟨(show 0 ≤ (v_254 3).toInt ∧ (v_254 3).toInt ≤ 900 from ⟨by omega, by omega⟩), (show 0 ≤ (v_254 5).toInt ∧ (v_254 5).toInt ≤ 900 from ⟨by omega, by omega⟩), (show 0 ≤ (v_254 6).toInt ∧ (v_254 6).toInt ≤ 900 from ⟨by omega, by omega⟩), (show 0 ≤ (v_254 7).toInt ∧ (v_254 7).toInt ≤ 900 from ⟨by omega, by omega⟩), (show (v_254 6).toInt ≤ (v_254 7).toInt from by omega), (show (v_254 7).toInt ≤ (v_254 5).toInt from by omega), (show (v_254 3).toInt = (rf 3).toInt from by omega), (show 0 ≤ (v_255 0).toInt ∧ (v_255 0).toInt ≤ 10 from ⟨by omega, by omega⟩), (show 0 ≤ (v_255 2).toInt ∧ (v_255 2).toInt ≤ 6 from ⟨by omega, by omega⟩), (show 0 ≤ (v_255 6).toInt ∧ (v_255 6).toInt ≤ 1 from ⟨by omega, by omega⟩), (show ∀ j : Nat, 0 ≤ ((g 1) j).toInt ∧ ((g 1) j).toInt ≤ 6 from w_hd)⟩, by rw [ht]; exact hP.sub [2, 3, 4, 0, 1] rfl, hD.sub [2, 3, 4, 0, 1] (by decide) rfl⟩, hS.F ht⟩) hS.2.2 dX5_readLine_163
  · have c_2 : r_1.toInt ≠ 0 := ti_ne c_2
    have qc_2 : r_1 = 1 := ti_of (show r_1.toInt = 1 from by omega)
    refine lv_aload_n hx hb dX5_readLine_9 rfl (lv_at hl 0 rfl) ?_
    refine kV_uvs (q0 := 0) (As := []) (rest := []) (wr := []) ⟨hx, hb, hml, hown, hts⟩ (s_R_readRoof l D k ak av _ _ rf tf y g _ (show 0 ≤ (rf 3).toInt ∧ (rf 3).toInt ≤ 900 from ⟨by omega, by omega⟩) (show 0 ≤ (rf 5).toInt ∧ (rf 5).toInt ≤ 900 from ⟨by omega, by omega⟩) (show 0 ≤ (rf 6).toInt ∧ (rf 6).toInt ≤ 900 from ⟨by omega, by omega⟩) (show 0 ≤ (rf 7).toInt ∧ (rf 7).toInt ≤ 900 from ⟨by omega, by omega⟩) (show (rf 6).toInt ≤ (rf 7).toInt from by omega) (show (rf 7).toInt ≤ (rf 5).toInt from by omega) (show 0 ≤ (y 0).toInt ∧ (y 0).toInt ≤ 10 from ⟨by omega, by omega⟩) (show 0 ≤ (y 2).toInt ∧ (y 2).toInt ≤ 6 from ⟨by omega, by omega⟩) (show 0 ≤ (y 6).toInt ∧ (y 6).toInt ≤ 1 from ⟨by omega, by omega⟩) (show ∀ j : Nat, 0 ≤ ((g 1) j).toInt ∧ ((g 1) j).toInt ≤ 6 from w_hd)) (gV mw_238 mw_239 mw_240 mw_15 mw_241) hd_yX5_readRoof rfl rfl ⟨Nat.le_of_ble_eq_true rfl, Nat.le_of_ble_eq_true rfl⟩ hK hN0 hW0 hS hP hD hS hA [0, 1, 2, 3, 4] [] rfl rfl (by decide) (by decide) (by decide) rfl rfl rfl rfl hl.1 rfl (Nat.le_of_ble_eq_true rfl) dX5_readLine_10 ⟨Nat.le_of_ble_eq_true rfl, Nat.le_of_ble_eq_true rfl⟩ (fun u_267 H locs hw hP hD hS => ?_)
    obtain ⟨v_268, v_269, v_270⟩ := u_267
    obtain ⟨h_271, h_272, h_273, h_274, h_275, h_276, h_277, h_278, h_279, h_280, h_281⟩ := hw
    have h_271 : 0 ≤ (v_268 3).toInt ∧ (v_268 3).toInt ≤ 900 := h_271
    have h_272 : 0 ≤ (v_268 5).toInt ∧ (v_268 5).toInt ≤ 900 := h_272
    have h_273 : 0 ≤ (v_268 6).toInt ∧ (v_268 6).toInt ≤ 900 := h_273
    have h_274 : 0 ≤ (v_268 7).toInt ∧ (v_268 7).toInt ≤ 900 := h_274
    have h_275 : (v_268 6).toInt ≤ (v_268 7).toInt := h_275
    have h_276 : (v_268 7).toInt ≤ (v_268 5).toInt := h_276
    have h_277 : (v_268 3).toInt = (rf 3).toInt := h_277
    have h_278 : 0 ≤ (v_269 0).toInt ∧ (v_269 0).toInt ≤ 10 := h_278
    have h_279 : 0 ≤ (v_269 2).toInt ∧ (v_269 2).toInt ≤ 6 := h_279
    have h_280 : 0 ≤ (v_269 6).toInt ∧ (v_269 6).toInt ≤ 1 := h_280
    have h_281 : ∀ j : Nat, 0 ≤ ((v_270 1) j).toInt ∧ ((v_270 1) j).toInt ≤ 6 := h_281
    have hP : va_P D vwCl [((rd 0), .inr (4, [.ref (rw 0), .int (v_268 1), .int (v_268 2), .int (v_268 3), .ref (rd 1), .int (v_268 5), .int (v_268 6), .int (v_268 7), .int (v_268 8), .int (v_268 9)])), ((rd 1), .inl (k 2, 900, .inl tf)), ((rw 0), .inr (5, [.int (v_269 0), .int (v_269 1), .int (v_269 2), .int (v_269 3), .int (v_269 4), .int (v_269 5), .int (v_269 6), .int (v_269 7), .int (v_269 8), .int (v_269 9), .int (v_269 10), .ref (rw 1), .ref (rw 2), .ref (rw 3), .ref (rw 4), .ref (rw 5)])), ((rw 1), .inl (k 0, 10, .inl (v_270 1))), ((rw 3), .inl (k 0, 60, .inl (v_270 3)))] H := hP
    have hD : va_D A [((rd 0), .inr (4, [.ref (rw 0), .int (v_268 1), .int (v_268 2), .int (v_268 3), .ref (rd 1), .int (v_268 5), .int (v_268 6), .int (v_268 7), .int (v_268 8), .int (v_268 9)])), ((rd 1), .inl (k 2, 900, .inl tf)), ((rw 0), .inr (5, [.int (v_269 0), .int (v_269 1), .int (v_269 2), .int (v_269 3), .int (v_269 4), .int (v_269 5), .int (v_269 6), .int (v_269 7), .int (v_269 8), .int (v_269 9), .int (v_269 10), .ref (rw 1), .ref (rw 2), .ref (rw 3), .ref (rw 4), .ref (rw 5)])), ((rw 1), .inl (k 0, 10, .inl (v_270 1))), ((rw 3), .inl (k 0, 60, .inl (v_270 3)))] := hD
    refine lv_goto (tgt := 159) hx hb dX5_readLine_13 (by decide) ?_
    refine lv_aload_n hx hb dX5_readLine_159 rfl (lv_at hl 0 rfl) ?_
    refine kV_uv (q0 := 0) (As := []) (rest := []) (wr := [((rw 1), .inl (k 0, 10, .inl (v_270 1))), ((rw 3), .inl (k 0, 60, .inl (v_270 3)))]) ⟨hx, hb, hml, hown, hts⟩ (s_R_endLine l D k _ _ v_268 tf v_269 _ (show 0 ≤ (v_268 3).toInt ∧ (v_268 3).toInt ≤ 900 from ⟨by omega, by omega⟩) (show 0 ≤ (v_268 5).toInt ∧ (v_268 5).toInt ≤ 900 from ⟨by omega, by omega⟩) (show 0 ≤ (v_268 6).toInt ∧ (v_268 6).toInt ≤ 900 from ⟨by omega, by omega⟩) (show 0 ≤ (v_268 7).toInt ∧ (v_268 7).toInt ≤ 900 from ⟨by omega, by omega⟩) (show (v_268 6).toInt ≤ (v_268 7).toInt from by omega) (show (v_268 7).toInt ≤ (v_268 5).toInt from by omega) (show 0 ≤ (v_269 0).toInt ∧ (v_269 0).toInt ≤ 10 from ⟨by omega, by omega⟩) (show 0 ≤ (v_269 2).toInt ∧ (v_269 2).toInt ≤ 6 from ⟨by omega, by omega⟩) (show 0 ≤ (v_269 6).toInt ∧ (v_269 6).toInt ≤ 1 from ⟨by omega, by omega⟩)) (gV mw_270 mw_271 mw_272 mw_15 mw_273) hd_yX5_endLine rfl rfl ⟨Nat.le_of_ble_eq_true rfl, Nat.le_of_ble_eq_true rfl⟩ hK hN0 hP hD hS hA [0, 1, 2] [3, 4] rfl rfl (by decide) (by decide) (by decide) rfl rfl rfl rfl hl.1 rfl (Nat.le_of_ble_eq_true rfl) dX5_readLine_160 ⟨Nat.le_of_ble_eq_true rfl, Nat.le_of_ble_eq_true rfl⟩ (fun u_283 H locs hw hP hD hS => ?_)
    obtain ⟨v_284, v_285⟩ := u_283
    obtain ⟨h_286, h_287, h_288, h_289, h_290, h_291, h_292, h_293, h_294, h_295⟩ := hw
    have h_286 : 0 ≤ (v_284 3).toInt ∧ (v_284 3).toInt ≤ 900 := h_286
    have h_287 : 0 ≤ (v_284 5).toInt ∧ (v_284 5).toInt ≤ 900 := h_287
    have h_288 : 0 ≤ (v_284 6).toInt ∧ (v_284 6).toInt ≤ 900 := h_288
    have h_289 : 0 ≤ (v_284 7).toInt ∧ (v_284 7).toInt ≤ 900 := h_289
    have h_290 : (v_284 6).toInt ≤ (v_284 7).toInt := h_290
    have h_291 : (v_284 7).toInt ≤ (v_284 5).toInt := h_291
    have h_292 : (v_284 3).toInt = (v_268 3).toInt := h_292
    have h_293 : 0 ≤ (v_285 0).toInt ∧ (v_285 0).toInt ≤ 10 := h_293
    have h_294 : 0 ≤ (v_285 2).toInt ∧ (v_285 2).toInt ≤ 6 := h_294
    have h_295 : 0 ≤ (v_285 6).toInt ∧ (v_285 6).toInt ≤ 1 := h_295
    have hP : va_P D vwCl [((rw 1), .inl (k 0, 10, .inl (v_270 1))), ((rw 3), .inl (k 0, 60, .inl (v_270 3))), ((rd 0), .inr (4, [.ref (rw 0), .int (v_284 1), .int (v_284 2), .int (v_284 3), .ref (rd 1), .int (v_284 5), .int (v_284 6), .int (v_284 7), .int (v_284 8), .int (v_284 9)])), ((rd 1), .inl (k 2, 900, .inl tf)), ((rw 0), .inr (5, [.int (v_285 0), .int (v_285 1), .int (v_285 2), .int (v_285 3), .int (v_285 4), .int (v_285 5), .int (v_285 6), .int (v_285 7), .int (v_285 8), .int (v_285 9), .int (v_285 10), .ref (rw 1), .ref (rw 2), .ref (rw 3), .ref (rw 4), .ref (rw 5)]))] H := hP
    have hD : va_D A [((rw 1), .inl (k 0, 10, .inl (v_270 1))), ((rw 3), .inl (k 0, 60, .inl (v_270 3))), ((rd 0), .inr (4, [.ref (rw 0), .int (v_284 1), .int (v_284 2), .int (v_284 3), .ref (rd 1), .int (v_284 5), .int (v_284 6), .int (v_284 7), .int (v_284 8), .int (v_284 9)])), ((rd 1), .inl (k 2, 900, .inl tf)), ((rw 0), .inr (5, [.int (v_285 0), .int (v_285 1), .int (v_285 2), .int (v_285 3), .int (v_285 4), .int (v_285 5), .int (v_285 6), .int (v_285 7), .int (v_285 8), .int (v_285 9), .int (v_285 10), .ref (rw 1), .ref (rw 2), .ref (rw 3), .ref (rw 4), .ref (rw 5)]))] := hD
    exact W.vret hx hb hr (fun t ht hW => ⟨⟨((va_seli [0, (v_284 1), (v_284 2), (v_284 3), 0, (v_284 5), (v_284 6), (v_284 7), (v_284 8), (v_284 9)]), (va_seli [(v_285 0), (v_285 1), (v_285 2), (v_285 3), (v_285 4), (v_285 5), (v_285 6), (v_285 7), (v_285 8), (v_285 9), (v_285 10)]), (va_selg [(fun _ => 0), (v_270 1), (fun _ => 0), (v_270 3)])), rfl, ⟨(show 0 ≤ (v_284 3).toInt ∧ (v_284 3).toInt ≤ 900 from ⟨by omega, by omega⟩), (show 0 ≤ (v_284 5).toInt ∧ (v_284 5).toInt ≤ 900 from ⟨by omega, by omega⟩), (show 0 ≤ (v_284 6).toInt ∧ (v_284 6).toInt ≤ 900 from ⟨by omega, by omega⟩), (show 0 ≤ (v_284 7).toInt ∧ (v_284 7).toInt ≤ 900 from ⟨by omega, by omega⟩), (show (v_284 6).toInt ≤ (v_284 7).toInt from by omega), (show (v_284 7).toInt ≤ (v_284 5).toInt from by omega), (show (v_284 3).toInt = (rf 3).toInt from by omega), (show 0 ≤ (v_285 0).toInt ∧ (v_285 0).toInt ≤ 10 from ⟨by omega, by omega⟩), (show 0 ≤ (v_285 2).toInt ∧ (v_285 2).toInt ≤ 6 from ⟨by omega, by omega⟩), (show 0 ≤ (v_285 6).toInt ∧ (v_285 6).toInt ≤ 1 from ⟨by omega, by omega⟩), (show ∀ j : Nat, 0 ≤ ((v_270 1) j).toInt ∧ ((v_270 1) j).toInt ≤ 6 from h_281)⟩, by rw [ht]; exact hP.sub [2, 3, 4, 0, 1] rfl, hD.sub [2, 3, 4, 0, 1] (by decide) rfl⟩, hS.F ht⟩) hS.2.2 dX5_readLine_163
set_option maxHeartbeats 4000000 in
set_option maxRecDepth 100000 in
theorem s_R_read (l : Launch) (D : va_G) (k : Nat → ClassId) (ak : Nat → Nat) (av : Nat → Nat) (rd : Nat → Nat) (rw : Nat → Nat) (rf : Nat → Int32) (tf : Nat → Int32) (y : Nat → Int32) (g : Nat → Nat → Int32) (x : Int32) (sz : Nat) (w_r3 : 0 ≤ (rf 3).toInt ∧ (rf 3).toInt ≤ 900) (w_hx : 0 ≤ x.toInt ∧ x.toInt ≤ 900) (w_h0 : 0 ≤ (y 0).toInt ∧ (y 0).toInt ≤ 10) (w_h2 : 0 ≤ (y 2).toInt ∧ (y 2).toInt ≤ 6) (w_h6 : 0 ≤ (y 6).toInt ∧ (y 6).toInt ≤ 1) (w_hd : ∀ j : Nat, 0 ≤ ((g 1) j).toInt ∧ ((g 1) j).toInt ≤ 6) : Met l yX5_read (Cond.code yX5_read cX5_read 3 none :: wsL_law) ({ frames := 8, cells := 0, slots := 0, locals := 480 } : Room) (va_Pc [.ref (rd 0), .int x] (pus ak av D k sz [((rd 0), .inr (4, [.ref (rw 0), .int (rf 1), .int (rf 2), .int (rf 3), .ref (rd 1), .int (rf 5), .int (rf 6), .int (rf 7), .int (rf 8), .int (rf 9)])), ((rd 1), .inl (k 2, 900, .inl tf)), ((rw 0), .inr (5, [.int (y 0), .int (y 1), .int (y 2), .int (y 3), .int (y 4), .int (y 5), .int (y 6), .int (y 7), .int (y 8), .int (y 9), .int (y 10), .ref (rw 1), .ref (rw 2), .ref (rw 3), .ref (rw 4), .ref (rw 5)])), ((rw 1), .inl (k 0, 10, .inl (g 1))), ((rw 2), .inl (k 0, 10, .inl (g 2))), ((rw 3), .inl (k 0, 60, .inl (g 3)))])) (va_Qv (fun uu : (Nat → Int32) × (Nat → Int32) × (Nat → Nat → Int32) => (0 ≤ (uu.1 3).toInt ∧ (uu.1 3).toInt ≤ 900) ∧ ((uu.1 3).toInt = 0) ∧ (0 ≤ (uu.2.1 0).toInt ∧ (uu.2.1 0).toInt ≤ 10) ∧ (0 ≤ (uu.2.1 2).toInt ∧ (uu.2.1 2).toInt ≤ 6) ∧ (0 ≤ (uu.2.1 6).toInt ∧ (uu.2.1 6).toInt ≤ 1) ∧ (∀ j : Nat, 0 ≤ ((uu.2.2 1) j).toInt ∧ ((uu.2.2 1) j).toInt ≤ 6)) (qu D (va_A [((rd 0), .inr (4, [.ref (rw 0), .int (rf 1), .int (rf 2), .int (rf 3), .ref (rd 1), .int (rf 5), .int (rf 6), .int (rf 7), .int (rf 8), .int (rf 9)])), ((rd 1), .inl (k 2, 900, .inl tf)), ((rw 0), .inr (5, [.int (y 0), .int (y 1), .int (y 2), .int (y 3), .int (y 4), .int (y 5), .int (y 6), .int (y 7), .int (y 8), .int (y 9), .int (y 10), .ref (rw 1), .ref (rw 2), .ref (rw 3), .ref (rw 4), .ref (rw 5)])), ((rw 1), .inl (k 0, 10, .inl (g 1))), ((rw 2), .inl (k 0, 10, .inl (g 2))), ((rw 3), .inl (k 0, 60, .inl (g 3)))] sz) (fun uu : (Nat → Int32) × (Nat → Int32) × (Nat → Nat → Int32) => [((rd 0), .inr (4, [.ref (rw 0), .int (uu.1 1), .int (uu.1 2), .int (uu.1 3), .ref (rd 1), .int (uu.1 5), .int (uu.1 6), .int (uu.1 7), .int (uu.1 8), .int (uu.1 9)])), ((rd 1), .inl (k 2, 900, .inl tf)), ((rw 0), .inr (5, [.int (uu.2.1 0), .int (uu.2.1 1), .int (uu.2.1 2), .int (uu.2.1 3), .int (uu.2.1 4), .int (uu.2.1 5), .int (uu.2.1 6), .int (uu.2.1 7), .int (uu.2.1 8), .int (uu.2.1 9), .int (uu.2.1 10), .ref (rw 1), .ref (rw 2), .ref (rw 3), .ref (rw 4), .ref (rw 5)])), ((rw 1), .inl (k 0, 10, .inl (uu.2.2 1))), ((rw 2), .inl (k 0, 10, .inl (uu.2.2 2))), ((rw 3), .inl (k 0, 60, .inl (uu.2.2 3)))])) (va_A [((rd 0), .inr (4, [.ref (rw 0), .int (rf 1), .int (rf 2), .int (rf 3), .ref (rd 1), .int (rf 5), .int (rf 6), .int (rf 7), .int (rf 8), .int (rf 9)])), ((rd 1), .inl (k 2, 900, .inl tf)), ((rw 0), .inr (5, [.int (y 0), .int (y 1), .int (y 2), .int (y 3), .int (y 4), .int (y 5), .int (y 6), .int (y 7), .int (y 8), .int (y 9), .int (y 10), .ref (rw 1), .ref (rw 2), .ref (rw 3), .ref (rw 4), .ref (rw 5)])), ((rw 1), .inl (k 0, 10, .inl (g 1))), ((rw 2), .inl (k 0, 10, .inl (g 2))), ((rw 3), .inl (k 0, 60, .inl (g 3)))] sz)) 0 0 (va_A [((rd 0), .inr (4, [.ref (rw 0), .int (rf 1), .int (rf 2), .int (rf 3), .ref (rd 1), .int (rf 5), .int (rf 6), .int (rf 7), .int (rf 8), .int (rf 9)])), ((rd 1), .inl (k 2, 900, .inl tf)), ((rw 0), .inr (5, [.int (y 0), .int (y 1), .int (y 2), .int (y 3), .int (y 4), .int (y 5), .int (y 6), .int (y 7), .int (y 8), .int (y 9), .int (y 10), .ref (rw 1), .ref (rw 2), .ref (rw 3), .ref (rw 4), .ref (rw 5)])), ((rw 1), .inl (k 0, 10, .inl (g 1))), ((rw 2), .inl (k 0, 10, .inl (g 2))), ((rw 3), .inl (k 0, 60, .inl (g 3)))] sz) := by
  refine Met.ofW (cc := cX5_read) (maxL := 3) (ret := none) (by decide) rfl ?_
  intro p e s m args below meth c s₁ B hml hv
  obtain ⟨rfl, hsz, hP, hK, hD0, hN0, hW0⟩ := hv
  have hx := B.exec
  have hb := B.bytes
  have hr := B.returns
  have hts : ∀ w ∈ wsL_law, w.before _ s = true := fun w h => atoms_spec (ws := Cond.code yX5_read cX5_read 3 none :: wsL_law) B.pre w (List.mem_cons_of_mem _ h)
  have hown : s.vm.findClass RX5 = some m.cls := findClass_of_methodNamed B.named
  have hlocks := B.notSynchronized
  subst hsz
  have hD := hD0.self (sz := s.heap.size)
  generalize hAe : va_A [((rd 0), .inr (4, [.ref (rw 0), .int (rf 1), .int (rf 2), .int (rf 3), .ref (rd 1), .int (rf 5), .int (rf 6), .int (rf 7), .int (rf 8), .int (rf 9)])), ((rd 1), .inl (k 2, 900, .inl tf)), ((rw 0), .inr (5, [.int (y 0), .int (y 1), .int (y 2), .int (y 3), .int (y 4), .int (y 5), .int (y 6), .int (y 7), .int (y 8), .int (y 9), .int (y 10), .ref (rw 1), .ref (rw 2), .ref (rw 3), .ref (rw 4), .ref (rw 5)])), ((rw 1), .inl (k 0, 10, .inl (g 1))), ((rw 2), .inl (k 0, 10, .inl (g 2))), ((rw 3), .inl (k 0, 60, .inl (g 3)))] s.heap.size = A at hD hW0 ⊢
  have hA : ∀ q : Nat, s.heap.size ≤ q → A q := fun q h => by rw [← hAe]; exact Or.inr h
  have hS : va_S A s.heap s.heap [] := va_S.rf
  have hP : va_P D vwCl [((rd 0), .inr (4, [.ref (rw 0), .int (rf 1), .int (rf 2), .int (rf 3), .ref (rd 1), .int (rf 5), .int (rf 6), .int (rf 7), .int (rf 8), .int (rf 9)])), ((rd 1), .inl (k 2, 900, .inl tf)), ((rw 0), .inr (5, [.int (y 0), .int (y 1), .int (y 2), .int (y 3), .int (y 4), .int (y 5), .int (y 6), .int (y 7), .int (y 8), .int (y 9), .int (y 10), .ref (rw 1), .ref (rw 2), .ref (rw 3), .ref (rw 4), .ref (rw 5)])), ((rw 1), .inl (k 0, 10, .inl (g 1))), ((rw 2), .inl (k 0, 10, .inl (g 2))), ((rw 3), .inl (k 0, 60, .inl (g 3)))] s.heap := hP
  have hl := lv_entry ([.ref (rd 0), .int x]) (n := 3) (Nat.le_of_ble_eq_true rfl)
  rw [lg_entry_eq]
  generalize (lg_sl ([.ref (rd 0), .int x]) ++ List.replicate (3 - (lg_sl ([.ref (rd 0), .int x])).length) Slot.unset).toArray = ls at hl ⊢
  have hl : lv_has ls 3 [(0, .ref (rd 0)), (1, .int x)] := hl
  refine lv_aload_n hx hb dX5_read_0 rfl (lv_at hl 0 rfl) ?_
  refine lv_iload_n hx hb dX5_read_1 rfl (lv_at hl 1 rfl) ?_
  refine lv_sipush (v := 900) hx hb dX5_read_2 (by decide) ?_
  refine va_mmin hx hb (by rw [hml, hl.1]) hown (hts _ mw_140) (hts _ mw_141) (hts _ mw_142) (hts _ mw_143) (Nat.le_of_ble_eq_true rfl) (Nat.le_of_ble_eq_true rfl) (Nat.zero_le _) (Nat.zero_le _) dX5_read_5 ?_
  refine lv_ni (v := x) (if_neg (fun q => by have q := ti_lt q; have q : 900 < x.toInt := q; omega)) ?_
  refine va_put (D := D) (ci := 4) (v := .int x) (ty := .int) (C := RX5) (T := TX5) (N := 10) hx hb hts inlX5 tyX5 tyX5_ok nmX5 hown hK hP hD hS 0 rfl rfl 5 (by decide) (hts _ mw_144) (fun _ h9 => h9) rfl (by decide +kernel) rfl rfl (Nat.le_of_ble_eq_true rfl) dX5_read_8 (fun H locs hP hD hS => ?_)
  have hP : va_P D vwCl [((rd 0), .inr (4, [.ref (rw 0), .int (rf 1), .int (rf 2), .int (rf 3), .ref (rd 1), .int x, .int (rf 6), .int (rf 7), .int (rf 8), .int (rf 9)])), ((rd 1), .inl (k 2, 900, .inl tf)), ((rw 0), .inr (5, [.int (y 0), .int (y 1), .int (y 2), .int (y 3), .int (y 4), .int (y 5), .int (y 6), .int (y 7), .int (y 8), .int (y 9), .int (y 10), .ref (rw 1), .ref (rw 2), .ref (rw 3), .ref (rw 4), .ref (rw 5)])), ((rw 1), .inl (k 0, 10, .inl (g 1))), ((rw 2), .inl (k 0, 10, .inl (g 2))), ((rw 3), .inl (k 0, 60, .inl (g 3)))] H := hP
  have hD : va_D A [((rd 0), .inr (4, [.ref (rw 0), .int (rf 1), .int (rf 2), .int (rf 3), .ref (rd 1), .int x, .int (rf 6), .int (rf 7), .int (rf 8), .int (rf 9)])), ((rd 1), .inl (k 2, 900, .inl tf)), ((rw 0), .inr (5, [.int (y 0), .int (y 1), .int (y 2), .int (y 3), .int (y 4), .int (y 5), .int (y 6), .int (y 7), .int (y 8), .int (y 9), .int (y 10), .ref (rw 1), .ref (rw 2), .ref (rw 3), .ref (rw 4), .ref (rw 5)])), ((rw 1), .inl (k 0, 10, .inl (g 1))), ((rw 2), .inl (k 0, 10, .inl (g 2))), ((rw 3), .inl (k 0, 60, .inl (g 3)))] := hD
  refine lv_aload_n hx hb dX5_read_11 rfl (lv_at hl 0 rfl) ?_
  refine lv_iconst (v := 0) hx hb dX5_read_12 (by decide) ?_
  refine va_put (D := D) (ci := 4) (v := .int 0) (ty := .int) (C := RX5) (T := TX5) (N := 10) hx hb hts inlX5 tyX5 tyX5_ok nmX5 hown hK hP hD hS 0 rfl rfl 3 (by decide) (hts _ mw_120) (fun _ h9 => h9) rfl (by decide +kernel) rfl rfl (Nat.le_of_ble_eq_true rfl) dX5_read_13 (fun H locs hP hD hS => ?_)
  have hP : va_P D vwCl [((rd 0), .inr (4, [.ref (rw 0), .int (rf 1), .int (rf 2), .int 0, .ref (rd 1), .int x, .int (rf 6), .int (rf 7), .int (rf 8), .int (rf 9)])), ((rd 1), .inl (k 2, 900, .inl tf)), ((rw 0), .inr (5, [.int (y 0), .int (y 1), .int (y 2), .int (y 3), .int (y 4), .int (y 5), .int (y 6), .int (y 7), .int (y 8), .int (y 9), .int (y 10), .ref (rw 1), .ref (rw 2), .ref (rw 3), .ref (rw 4), .ref (rw 5)])), ((rw 1), .inl (k 0, 10, .inl (g 1))), ((rw 2), .inl (k 0, 10, .inl (g 2))), ((rw 3), .inl (k 0, 60, .inl (g 3)))] H := hP
  have hD : va_D A [((rd 0), .inr (4, [.ref (rw 0), .int (rf 1), .int (rf 2), .int 0, .ref (rd 1), .int x, .int (rf 6), .int (rf 7), .int (rf 8), .int (rf 9)])), ((rd 1), .inl (k 2, 900, .inl tf)), ((rw 0), .inr (5, [.int (y 0), .int (y 1), .int (y 2), .int (y 3), .int (y 4), .int (y 5), .int (y 6), .int (y 7), .int (y 8), .int (y 9), .int (y 10), .ref (rw 1), .ref (rw 2), .ref (rw 3), .ref (rw 4), .ref (rw 5)])), ((rw 1), .inl (k 0, 10, .inl (g 1))), ((rw 2), .inl (k 0, 10, .inl (g 2))), ((rw 3), .inl (k 0, 60, .inl (g 3)))] := hD
  refine lv_aload_n hx hb dX5_read_16 rfl (lv_at hl 0 rfl) ?_
  refine va_get (D := D) (ci := 4) (v := .ref (rw 0)) (C := RX5) (T := TX5) (N := 10) hx hb hts inlX5 hown hK hP 0 rfl rfl 0 (by decide) (hts _ mw_47) (fun _ h9 => h9) rfl dX5_read_17 ?_
  refine kV_uv (q0 := 0) (As := []) (rest := []) (wr := [((rd 0), .inr (4, [.ref (rw 0), .int (rf 1), .int (rf 2), .int 0, .ref (rd 1), .int x, .int (rf 6), .int (rf 7), .int (rf 8), .int (rf 9)])), ((rd 1), .inl (k 2, 900, .inl tf)), ((rw 3), .inl (k 0, 60, .inl (g 3)))]) ⟨hx, hb, hml, hown, hts⟩ (s_W_clear l D k rw y g _ (show 0 ≤ (y 0).toInt ∧ (y 0).toInt ≤ 10 from ⟨by omega, by omega⟩) (show 0 ≤ (y 2).toInt ∧ (y 2).toInt ≤ 6 from ⟨by omega, by omega⟩) (show 0 ≤ (y 6).toInt ∧ (y 6).toInt ≤ 1 from ⟨by omega, by omega⟩) (show ∀ j : Nat, 0 ≤ ((g 1) j).toInt ∧ ((g 1) j).toInt ≤ 6 from w_hd)) (gV mw_148 mw_149 mw_150 mw_19 mw_151) hd_yX6_clear rfl rfl ⟨Nat.le_of_ble_eq_true rfl, Nat.le_of_ble_eq_true rfl⟩ hK hN0 hP hD hS hA [2, 3, 4] [0, 1, 5] rfl rfl (by decide) (by decide) (by decide) rfl rfl rfl rfl hl.1 rfl (Nat.le_of_ble_eq_true rfl) dX5_read_20 ⟨Nat.le_of_ble_eq_true rfl, Nat.le_of_ble_eq_true rfl⟩ (fun u_2 H locs hw hP hD hS => ?_)
  obtain ⟨v_3, v_4⟩ := u_2
  obtain ⟨h_5, h_6, h_7, h_8⟩ := hw
  have h_5 : 0 ≤ (v_3 0).toInt ∧ (v_3 0).toInt ≤ 10 := h_5
  have h_6 : 0 ≤ (v_3 2).toInt ∧ (v_3 2).toInt ≤ 6 := h_6
  have h_7 : 0 ≤ (v_3 6).toInt ∧ (v_3 6).toInt ≤ 1 := h_7
  have h_8 : ∀ j : Nat, 0 ≤ ((v_4 1) j).toInt ∧ ((v_4 1) j).toInt ≤ 6 := h_8
  have hP : va_P D vwCl [((rd 0), .inr (4, [.ref (rw 0), .int (rf 1), .int (rf 2), .int 0, .ref (rd 1), .int x, .int (rf 6), .int (rf 7), .int (rf 8), .int (rf 9)])), ((rd 1), .inl (k 2, 900, .inl tf)), ((rw 3), .inl (k 0, 60, .inl (g 3))), ((rw 0), .inr (5, [.int (v_3 0), .int (v_3 1), .int (v_3 2), .int (v_3 3), .int (v_3 4), .int (v_3 5), .int (v_3 6), .int (v_3 7), .int (v_3 8), .int (v_3 9), .int (v_3 10), .ref (rw 1), .ref (rw 2), .ref (rw 3), .ref (rw 4), .ref (rw 5)])), ((rw 1), .inl (k 0, 10, .inl (v_4 1))), ((rw 2), .inl (k 0, 10, .inl (v_4 2)))] H := hP
  have hD : va_D A [((rd 0), .inr (4, [.ref (rw 0), .int (rf 1), .int (rf 2), .int 0, .ref (rd 1), .int x, .int (rf 6), .int (rf 7), .int (rf 8), .int (rf 9)])), ((rd 1), .inl (k 2, 900, .inl tf)), ((rw 3), .inl (k 0, 60, .inl (g 3))), ((rw 0), .inr (5, [.int (v_3 0), .int (v_3 1), .int (v_3 2), .int (v_3 3), .int (v_3 4), .int (v_3 5), .int (v_3 6), .int (v_3 7), .int (v_3 8), .int (v_3 9), .int (v_3 10), .ref (rw 1), .ref (rw 2), .ref (rw 3), .ref (rw 4), .ref (rw 5)])), ((rw 1), .inl (k 0, 10, .inl (v_4 1))), ((rw 2), .inl (k 0, 10, .inl (v_4 2)))] := hD
  refine lv_aload_n hx hb dX5_read_23 rfl (lv_at hl 0 rfl) ?_
  refine lv_iconst (v := 0) hx hb dX5_read_24 (by decide) ?_
  refine va_put (D := D) (ci := 4) (v := .int 0) (ty := .int) (C := RX5) (T := TX5) (N := 10) hx hb hts inlX5 tyX5 tyX5_ok nmX5 hown hK hP hD hS 0 rfl rfl 1 (by decide) (hts _ mw_145) (fun _ h9 => h9) rfl (by decide +kernel) rfl rfl (Nat.le_of_ble_eq_true rfl) dX5_read_25 (fun H locs hP hD hS => ?_)
  have hP : va_P D vwCl [((rd 0), .inr (4, [.ref (rw 0), .int 0, .int (rf 2), .int 0, .ref (rd 1), .int x, .int (rf 6), .int (rf 7), .int (rf 8), .int (rf 9)])), ((rd 1), .inl (k 2, 900, .inl tf)), ((rw 3), .inl (k 0, 60, .inl (g 3))), ((rw 0), .inr (5, [.int (v_3 0), .int (v_3 1), .int (v_3 2), .int (v_3 3), .int (v_3 4), .int (v_3 5), .int (v_3 6), .int (v_3 7), .int (v_3 8), .int (v_3 9), .int (v_3 10), .ref (rw 1), .ref (rw 2), .ref (rw 3), .ref (rw 4), .ref (rw 5)])), ((rw 1), .inl (k 0, 10, .inl (v_4 1))), ((rw 2), .inl (k 0, 10, .inl (v_4 2)))] H := hP
  have hD : va_D A [((rd 0), .inr (4, [.ref (rw 0), .int 0, .int (rf 2), .int 0, .ref (rd 1), .int x, .int (rf 6), .int (rf 7), .int (rf 8), .int (rf 9)])), ((rd 1), .inl (k 2, 900, .inl tf)), ((rw 3), .inl (k 0, 60, .inl (g 3))), ((rw 0), .inr (5, [.int (v_3 0), .int (v_3 1), .int (v_3 2), .int (v_3 3), .int (v_3 4), .int (v_3 5), .int (v_3 6), .int (v_3 7), .int (v_3 8), .int (v_3 9), .int (v_3 10), .ref (rw 1), .ref (rw 2), .ref (rw 3), .ref (rw 4), .ref (rw 5)])), ((rw 1), .inl (k 0, 10, .inl (v_4 1))), ((rw 2), .inl (k 0, 10, .inl (v_4 2)))] := hD
  refine lv_aload_n hx hb dX5_read_28 rfl (lv_at hl 0 rfl) ?_
  refine lv_iconst (v := (-1)) hx hb dX5_read_29 (by decide) ?_
  refine va_put (D := D) (ci := 4) (v := .int (-1)) (ty := .int) (C := RX5) (T := TX5) (N := 10) hx hb hts inlX5 tyX5 tyX5_ok nmX5 hown hK hP hD hS 0 rfl rfl 2 (by decide) (hts _ mw_48) (fun _ h9 => h9) rfl (by decide +kernel) rfl rfl (Nat.le_of_ble_eq_true rfl) dX5_read_30 (fun H locs hP hD hS => ?_)
  have hP : va_P D vwCl [((rd 0), .inr (4, [.ref (rw 0), .int 0, .int (-1), .int 0, .ref (rd 1), .int x, .int (rf 6), .int (rf 7), .int (rf 8), .int (rf 9)])), ((rd 1), .inl (k 2, 900, .inl tf)), ((rw 3), .inl (k 0, 60, .inl (g 3))), ((rw 0), .inr (5, [.int (v_3 0), .int (v_3 1), .int (v_3 2), .int (v_3 3), .int (v_3 4), .int (v_3 5), .int (v_3 6), .int (v_3 7), .int (v_3 8), .int (v_3 9), .int (v_3 10), .ref (rw 1), .ref (rw 2), .ref (rw 3), .ref (rw 4), .ref (rw 5)])), ((rw 1), .inl (k 0, 10, .inl (v_4 1))), ((rw 2), .inl (k 0, 10, .inl (v_4 2)))] H := hP
  have hD : va_D A [((rd 0), .inr (4, [.ref (rw 0), .int 0, .int (-1), .int 0, .ref (rd 1), .int x, .int (rf 6), .int (rf 7), .int (rf 8), .int (rf 9)])), ((rd 1), .inl (k 2, 900, .inl tf)), ((rw 3), .inl (k 0, 60, .inl (g 3))), ((rw 0), .inr (5, [.int (v_3 0), .int (v_3 1), .int (v_3 2), .int (v_3 3), .int (v_3 4), .int (v_3 5), .int (v_3 6), .int (v_3 7), .int (v_3 8), .int (v_3 9), .int (v_3 10), .ref (rw 1), .ref (rw 2), .ref (rw 3), .ref (rw 4), .ref (rw 5)])), ((rw 1), .inl (k 0, 10, .inl (v_4 1))), ((rw 2), .inl (k 0, 10, .inl (v_4 2)))] := hD
  refine lv_aload_n hx hb dX5_read_33 rfl (lv_at hl 0 rfl) ?_
  refine lv_iconst (v := 0) hx hb dX5_read_34 (by decide) ?_
  refine va_put (D := D) (ci := 4) (v := .int 0) (ty := .int) (C := RX5) (T := TX5) (N := 10) hx hb hts inlX5 tyX5 tyX5_ok nmX5 hown hK hP hD hS 0 rfl rfl 7 (by decide) (hts _ mw_146) (fun _ h9 => h9) rfl (by decide +kernel) rfl rfl (Nat.le_of_ble_eq_true rfl) dX5_read_35 (fun H locs hP hD hS => ?_)
  have hP : va_P D vwCl [((rd 0), .inr (4, [.ref (rw 0), .int 0, .int (-1), .int 0, .ref (rd 1), .int x, .int (rf 6), .int 0, .int (rf 8), .int (rf 9)])), ((rd 1), .inl (k 2, 900, .inl tf)), ((rw 3), .inl (k 0, 60, .inl (g 3))), ((rw 0), .inr (5, [.int (v_3 0), .int (v_3 1), .int (v_3 2), .int (v_3 3), .int (v_3 4), .int (v_3 5), .int (v_3 6), .int (v_3 7), .int (v_3 8), .int (v_3 9), .int (v_3 10), .ref (rw 1), .ref (rw 2), .ref (rw 3), .ref (rw 4), .ref (rw 5)])), ((rw 1), .inl (k 0, 10, .inl (v_4 1))), ((rw 2), .inl (k 0, 10, .inl (v_4 2)))] H := hP
  have hD : va_D A [((rd 0), .inr (4, [.ref (rw 0), .int 0, .int (-1), .int 0, .ref (rd 1), .int x, .int (rf 6), .int 0, .int (rf 8), .int (rf 9)])), ((rd 1), .inl (k 2, 900, .inl tf)), ((rw 3), .inl (k 0, 60, .inl (g 3))), ((rw 0), .inr (5, [.int (v_3 0), .int (v_3 1), .int (v_3 2), .int (v_3 3), .int (v_3 4), .int (v_3 5), .int (v_3 6), .int (v_3 7), .int (v_3 8), .int (v_3 9), .int (v_3 10), .ref (rw 1), .ref (rw 2), .ref (rw 3), .ref (rw 4), .ref (rw 5)])), ((rw 1), .inl (k 0, 10, .inl (v_4 1))), ((rw 2), .inl (k 0, 10, .inl (v_4 2)))] := hD
  refine lv_aload_n hx hb dX5_read_38 rfl (lv_at hl 0 rfl) ?_
  refine kV_uv (q0 := 0) (As := []) (rest := []) (wr := [((rw 3), .inl (k 0, 60, .inl (g 3))), ((rw 0), .inr (5, [.int (v_3 0), .int (v_3 1), .int (v_3 2), .int (v_3 3), .int (v_3 4), .int (v_3 5), .int (v_3 6), .int (v_3 7), .int (v_3 8), .int (v_3 9), .int (v_3 10), .ref (rw 1), .ref (rw 2), .ref (rw 3), .ref (rw 4), .ref (rw 5)])), ((rw 1), .inl (k 0, 10, .inl (v_4 1))), ((rw 2), .inl (k 0, 10, .inl (v_4 2)))]) ⟨hx, hb, hml, hown, hts⟩ (s_R_advance l D k _ _ (va_seli [0, 0, (-1), 0, 0, x, (rf 6), 0, (rf 8), (rf 9)]) tf _ (show 0 ≤ (0 : Int32).toInt ∧ (0 : Int32).toInt ≤ 900 from ⟨by decide, by decide⟩) (show 0 ≤ x.toInt ∧ x.toInt ≤ 900 from ⟨by omega, by omega⟩) (show 0 ≤ (0 : Int32).toInt ∧ (0 : Int32).toInt ≤ 900 from ⟨by decide, by decide⟩) (show 0 ≤ x.toInt from by omega)) (gV mw_159 mw_160 mw_161 mw_15 mw_162) hd_yX5_advance rfl rfl ⟨Nat.le_of_ble_eq_true rfl, Nat.le_of_ble_eq_true rfl⟩ hK hN0 hP hD hS hA [0, 1] [2, 3, 4, 5] rfl rfl (by decide) (by decide) (by decide) rfl rfl rfl rfl hl.1 rfl (Nat.le_of_ble_eq_true rfl) dX5_read_39 ⟨Nat.le_of_ble_eq_true rfl, Nat.le_of_ble_eq_true rfl⟩ (fun u_10 H locs hw hP hD hS => ?_)
  obtain ⟨v_11, rfl⟩ : ∃ z, z = u_10 := ⟨_, rfl⟩
  obtain ⟨h_12, h_13, h_14, h_15, h_16, h_17, h_18⟩ := hw
  have h_12 : 0 ≤ (v_11 3).toInt ∧ (v_11 3).toInt ≤ 900 := h_12
  have h_13 : 0 ≤ (v_11 5).toInt ∧ (v_11 5).toInt ≤ 900 := h_13
  have h_14 : 0 ≤ (v_11 6).toInt ∧ (v_11 6).toInt ≤ 900 := h_14
  have h_15 : 0 ≤ (v_11 7).toInt ∧ (v_11 7).toInt ≤ 900 := h_15
  have h_16 : (v_11 6).toInt ≤ (v_11 7).toInt := h_16
  have h_17 : (v_11 7).toInt ≤ (v_11 5).toInt := h_17
  have h_18 : (v_11 3).toInt = 0 := h_18
  have hP : va_P D vwCl [((rw 3), .inl (k 0, 60, .inl (g 3))), ((rw 0), .inr (5, [.int (v_3 0), .int (v_3 1), .int (v_3 2), .int (v_3 3), .int (v_3 4), .int (v_3 5), .int (v_3 6), .int (v_3 7), .int (v_3 8), .int (v_3 9), .int (v_3 10), .ref (rw 1), .ref (rw 2), .ref (rw 3), .ref (rw 4), .ref (rw 5)])), ((rw 1), .inl (k 0, 10, .inl (v_4 1))), ((rw 2), .inl (k 0, 10, .inl (v_4 2))), ((rd 0), .inr (4, [.ref (rw 0), .int (v_11 1), .int (v_11 2), .int (v_11 3), .ref (rd 1), .int (v_11 5), .int (v_11 6), .int (v_11 7), .int (v_11 8), .int (v_11 9)])), ((rd 1), .inl (k 2, 900, .inl tf))] H := hP
  have hD : va_D A [((rw 3), .inl (k 0, 60, .inl (g 3))), ((rw 0), .inr (5, [.int (v_3 0), .int (v_3 1), .int (v_3 2), .int (v_3 3), .int (v_3 4), .int (v_3 5), .int (v_3 6), .int (v_3 7), .int (v_3 8), .int (v_3 9), .int (v_3 10), .ref (rw 1), .ref (rw 2), .ref (rw 3), .ref (rw 4), .ref (rw 5)])), ((rw 1), .inl (k 0, 10, .inl (v_4 1))), ((rw 2), .inl (k 0, 10, .inl (v_4 2))), ((rd 0), .inr (4, [.ref (rw 0), .int (v_11 1), .int (v_11 2), .int (v_11 3), .ref (rd 1), .int (v_11 5), .int (v_11 6), .int (v_11 7), .int (v_11 8), .int (v_11 9)])), ((rd 1), .inl (k 2, 900, .inl tf))] := hD
  refine lv_iconst (v := 0) hx hb dX5_read_42 (by decide) ?_
  refine lv_istore_n (lv' := [(2, .int 0), (0, .ref (rd 0)), (1, .int x)]) hx hb dX5_read_43 rfl hl (by decide) rfl (fun ls hl => ?_)
  refine W_loop (σ := Int32 × (Nat → Int32) × (Nat → Nat → Int32) × (Nat → Int32)) (fun xx H locs ls => (0 ≤ xx.1.toInt ∧ xx.1.toInt ≤ 901) ∧ (0 ≤ (xx.2.1 0).toInt ∧ (xx.2.1 0).toInt ≤ 10) ∧ (0 ≤ (xx.2.1 2).toInt ∧ (xx.2.1 2).toInt ≤ 6) ∧ (0 ≤ (xx.2.1 6).toInt ∧ (xx.2.1 6).toInt ≤ 1) ∧ (∀ j : Nat, 0 ≤ (xx.2.2.1 1 j).toInt ∧ (xx.2.2.1 1 j).toInt ≤ 6) ∧ (0 ≤ (xx.2.2.2 3).toInt ∧ (xx.2.2.2 3).toInt ≤ 900) ∧ (0 ≤ (xx.2.2.2 5).toInt ∧ (xx.2.2.2 5).toInt ≤ 900) ∧ (0 ≤ (xx.2.2.2 6).toInt ∧ (xx.2.2.2 6).toInt ≤ 900) ∧ (0 ≤ (xx.2.2.2 7).toInt ∧ (xx.2.2.2 7).toInt ≤ 900) ∧ ((xx.2.2.2 6).toInt ≤ (xx.2.2.2 7).toInt) ∧ ((xx.2.2.2 7).toInt ≤ (xx.2.2.2 5).toInt) ∧ ((xx.2.2.2 3).toInt = 0) ∧ va_P D vwCl [((rw 3), .inl (k 0, 60, .inl (xx.2.2.1 3))), ((rw 0), .inr (5, [.int (xx.2.1 0), .int (xx.2.1 1), .int (xx.2.1 2), .int (xx.2.1 3), .int (xx.2.1 4), .int (xx.2.1 5), .int (xx.2.1 6), .int (xx.2.1 7), .int (xx.2.1 8), .int (xx.2.1 9), .int (xx.2.1 10), .ref (rw 1), .ref (rw 2), .ref (rw 3), .ref (rw 4), .ref (rw 5)])), ((rw 1), .inl (k 0, 10, .inl (xx.2.2.1 1))), ((rw 2), .inl (k 0, 10, .inl (xx.2.2.1 2))), ((rd 0), .inr (4, [.ref (rw 0), .int (xx.2.2.2 1), .int (xx.2.2.2 2), .int (xx.2.2.2 3), .ref (rd 1), .int (xx.2.2.2 5), .int (xx.2.2.2 6), .int (xx.2.2.2 7), .int (xx.2.2.2 8), .int (xx.2.2.2 9)])), ((rd 1), .inl (k 2, 900, .inl tf))] H ∧ va_D A [((rw 3), .inl (k 0, 60, .inl (xx.2.2.1 3))), ((rw 0), .inr (5, [.int (xx.2.1 0), .int (xx.2.1 1), .int (xx.2.1 2), .int (xx.2.1 3), .int (xx.2.1 4), .int (xx.2.1 5), .int (xx.2.1 6), .int (xx.2.1 7), .int (xx.2.1 8), .int (xx.2.1 9), .int (xx.2.1 10), .ref (rw 1), .ref (rw 2), .ref (rw 3), .ref (rw 4), .ref (rw 5)])), ((rw 1), .inl (k 0, 10, .inl (xx.2.2.1 1))), ((rw 2), .inl (k 0, 10, .inl (xx.2.2.1 2))), ((rd 0), .inr (4, [.ref (rw 0), .int (xx.2.2.2 1), .int (xx.2.2.2 2), .int (xx.2.2.2 3), .ref (rd 1), .int (xx.2.2.2 5), .int (xx.2.2.2 6), .int (xx.2.2.2 7), .int (xx.2.2.2 8), .int (xx.2.2.2 9)])), ((rd 1), .inl (k 2, 900, .inl tf))] ∧ va_S A s.heap H locs ∧ lv_has ls 3 [(2, .int xx.1), (0, .ref (rd 0)), (1, .int x)]) (fun xx => (901 - xx.1.toInt).toNat) ?_ (0, v_3, (va_selg [(fun _ => 0), (v_4 1), (v_4 2), (g 3), (fun _ => 0), (fun _ => 0)]), v_11) _ _ ls ⟨(show 0 ≤ (0 : Int32).toInt ∧ (0 : Int32).toInt ≤ 901 from ⟨by decide, by decide⟩), (show 0 ≤ (v_3 0).toInt ∧ (v_3 0).toInt ≤ 10 from ⟨by omega, by omega⟩), (show 0 ≤ (v_3 2).toInt ∧ (v_3 2).toInt ≤ 6 from ⟨by omega, by omega⟩), (show 0 ≤ (v_3 6).toInt ∧ (v_3 6).toInt ≤ 1 from ⟨by omega, by omega⟩), (show ∀ j : Nat, 0 ≤ ((v_4 1) j).toInt ∧ ((v_4 1) j).toInt ≤ 6 from h_8), (show 0 ≤ (v_11 3).toInt ∧ (v_11 3).toInt ≤ 900 from ⟨by omega, by omega⟩), (show 0 ≤ (v_11 5).toInt ∧ (v_11 5).toInt ≤ 900 from ⟨by omega, by omega⟩), (show 0 ≤ (v_11 6).toInt ∧ (v_11 6).toInt ≤ 900 from ⟨by omega, by omega⟩), (show 0 ≤ (v_11 7).toInt ∧ (v_11 7).toInt ≤ 900 from ⟨by omega, by omega⟩), (show (v_11 6).toInt ≤ (v_11 7).toInt from by omega), (show (v_11 7).toInt ≤ (v_11 5).toInt from by omega), (show (v_11 3).toInt = 0 from by omega), hP.sub [0, 1, 2, 3, 4, 5] rfl, hD.sub [0, 1, 2, 3, 4, 5] (by decide) rfl, hS, lv_sub hl [0, 1, 2] rfl⟩
  intro xx H locs ls hI ih44
  obtain ⟨i_19, y_20, g_21, o_22⟩ := xx
  obtain ⟨h_23, h_24, h_25, h_26, h_27, h_28, h_29, h_30, h_31, h_32, h_33, h_34, hP, hD, hS, hl⟩ := hI
  have h_23 : 0 ≤ i_19.toInt ∧ i_19.toInt ≤ 901 := h_23
  have h_24 : 0 ≤ (y_20 0).toInt ∧ (y_20 0).toInt ≤ 10 := h_24
  have h_25 : 0 ≤ (y_20 2).toInt ∧ (y_20 2).toInt ≤ 6 := h_25
  have h_26 : 0 ≤ (y_20 6).toInt ∧ (y_20 6).toInt ≤ 1 := h_26
  have h_27 : ∀ j : Nat, 0 ≤ (g_21 1 j).toInt ∧ (g_21 1 j).toInt ≤ 6 := h_27
  have h_28 : 0 ≤ (o_22 3).toInt ∧ (o_22 3).toInt ≤ 900 := h_28
  have h_29 : 0 ≤ (o_22 5).toInt ∧ (o_22 5).toInt ≤ 900 := h_29
  have h_30 : 0 ≤ (o_22 6).toInt ∧ (o_22 6).toInt ≤ 900 := h_30
  have h_31 : 0 ≤ (o_22 7).toInt ∧ (o_22 7).toInt ≤ 900 := h_31
  have h_32 : (o_22 6).toInt ≤ (o_22 7).toInt := h_32
  have h_33 : (o_22 7).toInt ≤ (o_22 5).toInt := h_33
  have h_34 : (o_22 3).toInt = 0 := h_34
  obtain ⟨h_23a, h_23b⟩ := h_23
  have hP : va_P D vwCl [((rw 3), .inl (k 0, 60, .inl (g_21 3))), ((rw 0), .inr (5, [.int (y_20 0), .int (y_20 1), .int (y_20 2), .int (y_20 3), .int (y_20 4), .int (y_20 5), .int (y_20 6), .int (y_20 7), .int (y_20 8), .int (y_20 9), .int (y_20 10), .ref (rw 1), .ref (rw 2), .ref (rw 3), .ref (rw 4), .ref (rw 5)])), ((rw 1), .inl (k 0, 10, .inl (g_21 1))), ((rw 2), .inl (k 0, 10, .inl (g_21 2))), ((rd 0), .inr (4, [.ref (rw 0), .int (o_22 1), .int (o_22 2), .int (o_22 3), .ref (rd 1), .int (o_22 5), .int (o_22 6), .int (o_22 7), .int (o_22 8), .int (o_22 9)])), ((rd 1), .inl (k 2, 900, .inl tf))] H := hP
  have hD : va_D A [((rw 3), .inl (k 0, 60, .inl (g_21 3))), ((rw 0), .inr (5, [.int (y_20 0), .int (y_20 1), .int (y_20 2), .int (y_20 3), .int (y_20 4), .int (y_20 5), .int (y_20 6), .int (y_20 7), .int (y_20 8), .int (y_20 9), .int (y_20 10), .ref (rw 1), .ref (rw 2), .ref (rw 3), .ref (rw 4), .ref (rw 5)])), ((rw 1), .inl (k 0, 10, .inl (g_21 1))), ((rw 2), .inl (k 0, 10, .inl (g_21 2))), ((rd 0), .inr (4, [.ref (rw 0), .int (o_22 1), .int (o_22 2), .int (o_22 3), .ref (rd 1), .int (o_22 5), .int (o_22 6), .int (o_22 7), .int (o_22 8), .int (o_22 9)])), ((rd 1), .inl (k 2, 900, .inl tf))] := hD
  have hl : lv_has ls 3 [(2, .int i_19), (0, .ref (rd 0)), (1, .int x)] := hl
  refine lv_iload_n hx hb dX5_read_44 rfl (lv_at hl 0 rfl) ?_
  refine lv_aload_n hx hb dX5_read_45 rfl (lv_at hl 1 rfl) ?_
  refine va_get (D := D) (ci := 4) (v := .int (o_22 5)) (C := RX5) (T := TX5) (N := 10) hx hb hts inlX5 hown hK hP 4 rfl rfl 5 (by decide) (hts _ mw_144) (fun _ h9 => h9) rfl dX5_read_46 ?_
  refine lv_icmp_gt (tgt := 77) hx hb dX5_read_49 (by decide) (fun c_35 => ?_) (fun c_35 => ?_)
  · have c_35 : (o_22 5).toInt < i_19.toInt := ti_lt c_35
    exact W.vret hx hb hr (fun t ht hW => ⟨⟨((va_seli [0, (o_22 1), (o_22 2), (o_22 3), 0, (o_22 5), (o_22 6), (o_22 7), (o_22 8), (o_22 9)]), (va_seli [(y_20 0), (y_20 1), (y_20 2), (y_20 3), (y_20 4), (y_20 5), (y_20 6), (y_20 7), (y_20 8), (y_20 9), (y_20 10)]), (va_selg [(fun _ => 0), (g_21 1), (g_21 2), (g_21 3)])), rfl, ⟨(show 0 ≤ (o_22 3).toInt ∧ (o_22 3).toInt ≤ 900 from ⟨by omega, by omega⟩), (show (o_22 3).toInt = 0 from by omega), (show 0 ≤ (y_20 0).toInt ∧ (y_20 0).toInt ≤ 10 from ⟨by omega, by omega⟩), (show 0 ≤ (y_20 2).toInt ∧ (y_20 2).toInt ≤ 6 from ⟨by omega, by omega⟩), (show 0 ≤ (y_20 6).toInt ∧ (y_20 6).toInt ≤ 1 from ⟨by omega, by omega⟩), (show ∀ j : Nat, 0 ≤ ((g_21 1) j).toInt ∧ ((g_21 1) j).toInt ≤ 6 from h_27)⟩, by rw [ht]; exact hP.sub [4, 5, 1, 2, 3, 0] rfl, hD.sub [4, 5, 1, 2, 3, 0] (by decide) rfl⟩, hS.F ht⟩) hS.2.2 dX5_read_77
  · have c_35 : i_19.toInt ≤ (o_22 5).toInt := ti_nlt c_35
    refine lv_aload_n hx hb dX5_read_52 rfl (lv_at hl 1 rfl) ?_
    refine va_get (D := D) (ci := 4) (v := .int (o_22 1)) (C := RX5) (T := TX5) (N := 10) hx hb hts inlX5 hown hK hP 4 rfl rfl 1 (by decide) (hts _ mw_145) (fun _ h9 => h9) rfl dX5_read_53 ?_
    refine lv_if_ne (tgt := 77) hx hb dX5_read_56 (by decide) (fun c_36 => ?_) (fun c_36 => ?_)
    · have c_36 : (o_22 1).toInt ≠ 0 := ti_ne c_36
      exact W.vret hx hb hr (fun t ht hW => ⟨⟨((va_seli [0, (o_22 1), (o_22 2), (o_22 3), 0, (o_22 5), (o_22 6), (o_22 7), (o_22 8), (o_22 9)]), (va_seli [(y_20 0), (y_20 1), (y_20 2), (y_20 3), (y_20 4), (y_20 5), (y_20 6), (y_20 7), (y_20 8), (y_20 9), (y_20 10)]), (va_selg [(fun _ => 0), (g_21 1), (g_21 2), (g_21 3)])), rfl, ⟨(show 0 ≤ (o_22 3).toInt ∧ (o_22 3).toInt ≤ 900 from ⟨by omega, by omega⟩), (show (o_22 3).toInt = 0 from by omega), (show 0 ≤ (y_20 0).toInt ∧ (y_20 0).toInt ≤ 10 from ⟨by omega, by omega⟩), (show 0 ≤ (y_20 2).toInt ∧ (y_20 2).toInt ≤ 6 from ⟨by omega, by omega⟩), (show 0 ≤ (y_20 6).toInt ∧ (y_20 6).toInt ≤ 1 from ⟨by omega, by omega⟩), (show ∀ j : Nat, 0 ≤ ((g_21 1) j).toInt ∧ ((g_21 1) j).toInt ≤ 6 from h_27)⟩, by rw [ht]; exact hP.sub [4, 5, 1, 2, 3, 0] rfl, hD.sub [4, 5, 1, 2, 3, 0] (by decide) rfl⟩, hS.F ht⟩) hS.2.2 dX5_read_77
    · have c_36 : (o_22 1).toInt = 0 := ti_eq c_36
      have qc_36 : (o_22 1) = 0 := ti_of (show (o_22 1).toInt = 0 from by omega)
      refine lv_aload_n hx hb dX5_read_59 rfl (lv_at hl 1 rfl) ?_
      refine va_get (D := D) (ci := 4) (v := .int (o_22 8)) (C := RX5) (T := TX5) (N := 10) hx hb hts inlX5 hown hK hP 4 rfl rfl 8 (by decide) (hts _ mw_147) (fun _ h9 => h9) rfl dX5_read_60 ?_
      refine lv_iconst (v := 1) hx hb dX5_read_63 (by decide) ?_
      refine lv_icmp_eq (tgt := 77) hx hb dX5_read_64 (by decide) (fun c_37 => ?_) (fun c_37 => ?_)
      · have c_37 : (o_22 8).toInt = 1 := ti_eq c_37
        have qc_37 : (o_22 8) = 1 := ti_of (show (o_22 8).toInt = 1 from by omega)
        exact W.vret hx hb hr (fun t ht hW => ⟨⟨((va_seli [0, (o_22 1), (o_22 2), (o_22 3), 0, (o_22 5), (o_22 6), (o_22 7), (o_22 8), (o_22 9)]), (va_seli [(y_20 0), (y_20 1), (y_20 2), (y_20 3), (y_20 4), (y_20 5), (y_20 6), (y_20 7), (y_20 8), (y_20 9), (y_20 10)]), (va_selg [(fun _ => 0), (g_21 1), (g_21 2), (g_21 3)])), rfl, ⟨(show 0 ≤ (o_22 3).toInt ∧ (o_22 3).toInt ≤ 900 from ⟨by omega, by omega⟩), (show (o_22 3).toInt = 0 from by omega), (show 0 ≤ (y_20 0).toInt ∧ (y_20 0).toInt ≤ 10 from ⟨by omega, by omega⟩), (show 0 ≤ (y_20 2).toInt ∧ (y_20 2).toInt ≤ 6 from ⟨by omega, by omega⟩), (show 0 ≤ (y_20 6).toInt ∧ (y_20 6).toInt ≤ 1 from ⟨by omega, by omega⟩), (show ∀ j : Nat, 0 ≤ ((g_21 1) j).toInt ∧ ((g_21 1) j).toInt ≤ 6 from h_27)⟩, by rw [ht]; exact hP.sub [4, 5, 1, 2, 3, 0] rfl, hD.sub [4, 5, 1, 2, 3, 0] (by decide) rfl⟩, hS.F ht⟩) hS.2.2 dX5_read_77
      · have c_37 : (o_22 8).toInt ≠ 1 := ti_ne c_37
        refine lv_aload_n hx hb dX5_read_67 rfl (lv_at hl 1 rfl) ?_
        refine kV_uvs (q0 := 0) (As := []) (rest := []) (wr := [((rw 2), .inl (k 0, 10, .inl (g_21 2)))]) ⟨hx, hb, hml, hown, hts⟩ (s_R_readLine l D k ak av _ _ o_22 tf y_20 g_21 _ (show 0 ≤ (o_22 3).toInt ∧ (o_22 3).toInt ≤ 900 from ⟨by omega, by omega⟩) (show 0 ≤ (o_22 5).toInt ∧ (o_22 5).toInt ≤ 900 from ⟨by omega, by omega⟩) (show 0 ≤ (o_22 6).toInt ∧ (o_22 6).toInt ≤ 900 from ⟨by omega, by omega⟩) (show 0 ≤ (o_22 7).toInt ∧ (o_22 7).toInt ≤ 900 from ⟨by omega, by omega⟩) (show (o_22 6).toInt ≤ (o_22 7).toInt from by omega) (show (o_22 7).toInt ≤ (o_22 5).toInt from by omega) (show 0 ≤ (y_20 0).toInt ∧ (y_20 0).toInt ≤ 10 from ⟨by omega, by omega⟩) (show 0 ≤ (y_20 2).toInt ∧ (y_20 2).toInt ≤ 6 from ⟨by omega, by omega⟩) (show 0 ≤ (y_20 6).toInt ∧ (y_20 6).toInt ≤ 1 from ⟨by omega, by omega⟩) (show ∀ j : Nat, 0 ≤ ((g_21 1) j).toInt ∧ ((g_21 1) j).toInt ≤ 6 from h_27)) (gV mw_175 mw_176 mw_177 mw_15 mw_178) hd_yX5_readLine rfl rfl ⟨Nat.le_of_ble_eq_true rfl, Nat.le_of_ble_eq_true rfl⟩ hK hN0 hW0 hS hP hD hS hA [4, 5, 1, 2, 0] [3] rfl rfl (by decide) (by decide) (by decide) rfl rfl rfl rfl hl.1 rfl (Nat.le_of_ble_eq_true rfl) dX5_read_68 ⟨Nat.le_of_ble_eq_true rfl, Nat.le_of_ble_eq_true rfl⟩ (fun u_39 H locs hw hP hD hS => ?_)
        obtain ⟨v_40, v_41, v_42⟩ := u_39
        obtain ⟨h_43, h_44, h_45, h_46, h_47, h_48, h_49, h_50, h_51, h_52, h_53⟩ := hw
        have h_43 : 0 ≤ (v_40 3).toInt ∧ (v_40 3).toInt ≤ 900 := h_43
        have h_44 : 0 ≤ (v_40 5).toInt ∧ (v_40 5).toInt ≤ 900 := h_44
        have h_45 : 0 ≤ (v_40 6).toInt ∧ (v_40 6).toInt ≤ 900 := h_45
        have h_46 : 0 ≤ (v_40 7).toInt ∧ (v_40 7).toInt ≤ 900 := h_46
        have h_47 : (v_40 6).toInt ≤ (v_40 7).toInt := h_47
        have h_48 : (v_40 7).toInt ≤ (v_40 5).toInt := h_48
        have h_49 : (v_40 3).toInt = (o_22 3).toInt := h_49
        have h_50 : 0 ≤ (v_41 0).toInt ∧ (v_41 0).toInt ≤ 10 := h_50
        have h_51 : 0 ≤ (v_41 2).toInt ∧ (v_41 2).toInt ≤ 6 := h_51
        have h_52 : 0 ≤ (v_41 6).toInt ∧ (v_41 6).toInt ≤ 1 := h_52
        have h_53 : ∀ j : Nat, 0 ≤ ((v_42 1) j).toInt ∧ ((v_42 1) j).toInt ≤ 6 := h_53
        have hP : va_P D vwCl [((rw 2), .inl (k 0, 10, .inl (g_21 2))), ((rd 0), .inr (4, [.ref (rw 0), .int (v_40 1), .int (v_40 2), .int (v_40 3), .ref (rd 1), .int (v_40 5), .int (v_40 6), .int (v_40 7), .int (v_40 8), .int (v_40 9)])), ((rd 1), .inl (k 2, 900, .inl tf)), ((rw 0), .inr (5, [.int (v_41 0), .int (v_41 1), .int (v_41 2), .int (v_41 3), .int (v_41 4), .int (v_41 5), .int (v_41 6), .int (v_41 7), .int (v_41 8), .int (v_41 9), .int (v_41 10), .ref (rw 1), .ref (rw 2), .ref (rw 3), .ref (rw 4), .ref (rw 5)])), ((rw 1), .inl (k 0, 10, .inl (v_42 1))), ((rw 3), .inl (k 0, 60, .inl (v_42 3)))] H := hP
        have hD : va_D A [((rw 2), .inl (k 0, 10, .inl (g_21 2))), ((rd 0), .inr (4, [.ref (rw 0), .int (v_40 1), .int (v_40 2), .int (v_40 3), .ref (rd 1), .int (v_40 5), .int (v_40 6), .int (v_40 7), .int (v_40 8), .int (v_40 9)])), ((rd 1), .inl (k 2, 900, .inl tf)), ((rw 0), .inr (5, [.int (v_41 0), .int (v_41 1), .int (v_41 2), .int (v_41 3), .int (v_41 4), .int (v_41 5), .int (v_41 6), .int (v_41 7), .int (v_41 8), .int (v_41 9), .int (v_41 10), .ref (rw 1), .ref (rw 2), .ref (rw 3), .ref (rw 4), .ref (rw 5)])), ((rw 1), .inl (k 0, 10, .inl (v_42 1))), ((rw 3), .inl (k 0, 60, .inl (v_42 3)))] := hD
        obtain ⟨z_54, ez_54⟩ : ∃ y : Int32, y = i_19 + 1 := ⟨_, rfl⟩
        have tz_54 : z_54.toInt = i_19.toInt + 1 := by rw [ez_54]; exact ti_addc (by decide) (by omega) (by omega)
        refine lv_iinc (v := z_54) (lv' := [(2, .int z_54), (0, .ref (rd 0)), (1, .int x)]) hx hb dX5_read_71 hl (k := 0) rfl (ez_54.symm) (by decide) rfl (fun ls hl => ?_)
        refine lv_goto (tgt := 44) hx hb dX5_read_74 (by decide) ?_
        exact ih44 (z_54, v_41, (va_selg [(fun _ => 0), (v_42 1), (g_21 2), (v_42 3), (fun _ => 0), (fun _ => 0)]), v_40) _ _ ls (by show (901 - z_54.toInt).toNat < (901 - i_19.toInt).toNat; omega) ⟨(show 0 ≤ z_54.toInt ∧ z_54.toInt ≤ 901 from ⟨by omega, by omega⟩), (show 0 ≤ (v_41 0).toInt ∧ (v_41 0).toInt ≤ 10 from ⟨by omega, by omega⟩), (show 0 ≤ (v_41 2).toInt ∧ (v_41 2).toInt ≤ 6 from ⟨by omega, by omega⟩), (show 0 ≤ (v_41 6).toInt ∧ (v_41 6).toInt ≤ 1 from ⟨by omega, by omega⟩), (show ∀ j : Nat, 0 ≤ ((v_42 1) j).toInt ∧ ((v_42 1) j).toInt ≤ 6 from h_53), (show 0 ≤ (v_40 3).toInt ∧ (v_40 3).toInt ≤ 900 from ⟨by omega, by omega⟩), (show 0 ≤ (v_40 5).toInt ∧ (v_40 5).toInt ≤ 900 from ⟨by omega, by omega⟩), (show 0 ≤ (v_40 6).toInt ∧ (v_40 6).toInt ≤ 900 from ⟨by omega, by omega⟩), (show 0 ≤ (v_40 7).toInt ∧ (v_40 7).toInt ≤ 900 from ⟨by omega, by omega⟩), (show (v_40 6).toInt ≤ (v_40 7).toInt from by omega), (show (v_40 7).toInt ≤ (v_40 5).toInt from by omega), (show (v_40 3).toInt = 0 from by omega), hP.sub [5, 3, 4, 0, 1, 2] rfl, hD.sub [5, 3, 4, 0, 1, 2] (by decide) rfl, hS, lv_sub hl [0, 1, 2] rfl⟩
