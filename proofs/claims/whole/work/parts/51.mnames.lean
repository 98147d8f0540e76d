abbrev b_Model_refuse : ByteArray := prog_6_method_3_code
def y_Model_refuse : MethodName := ⟨R_Model, "refuse", "(I)I"⟩
abbrev b_Model_isFar : ByteArray := prog_6_method_5_code
def y_Model_isFar : MethodName := ⟨R_Model, "isFar", "(J)Z"⟩
abbrev b_Model_answer : ByteArray := prog_6_method_6_code
def y_Model_answer : MethodName := ⟨R_Model, "answer", "(IJ)I"⟩
abbrev b_Model_fails : ByteArray := prog_6_method_7_code
def y_Model_fails : MethodName := ⟨R_Model, "fails", "(II)I"⟩
abbrev b_Model_told : ByteArray := prog_6_method_21_code
def y_Model_told : MethodName := ⟨R_Model, "told", "(I)I"⟩
abbrev b_Model_latest : ByteArray := prog_6_method_8_code
def y_Model_latest : MethodName := ⟨R_Model, "latest", "(I)I"⟩
abbrev b_Model_numbers : ByteArray := prog_6_method_9_code
def y_Model_numbers : MethodName := ⟨R_Model, "numbers", "(I)I"⟩
abbrev b_Model_stateOfLetters : ByteArray := prog_6_method_10_code
def y_Model_stateOfLetters : MethodName := ⟨R_Model, "stateOfLetters", "()J"⟩
abbrev b_Model_stateOfBytes : ByteArray := prog_6_method_12_code
def y_Model_stateOfBytes : MethodName := ⟨R_Model, "stateOfBytes", "()J"⟩
abbrev b_Model_stateOfBits : ByteArray := prog_6_method_11_code
def y_Model_stateOfBits : MethodName := ⟨R_Model, "stateOfBits", "()J"⟩
abbrev b_Model_isUsed : ByteArray := prog_6_method_14_code
def y_Model_isUsed : MethodName := ⟨R_Model, "isUsed", "(I)Z"⟩
abbrev b_Model_isThere : ByteArray := prog_6_method_16_code
def y_Model_isThere : MethodName := ⟨R_Model, "isThere", "(JI)Z"⟩
abbrev b_Model_why : ByteArray := prog_6_method_17_code
def y_Model_why : MethodName := ⟨R_Model, "why", "(IIJ)I"⟩
abbrev b_Model_stepped : ByteArray := prog_6_method_18_code
def y_Model_stepped : MethodName := ⟨R_Model, "stepped", "(IIJ)J"⟩
abbrev b_Model_answerOf : ByteArray := prog_6_method_19_code
def y_Model_answerOf : MethodName := ⟨R_Model, "answerOf", "(IIJ)J"⟩
abbrev b_Model_collect : ByteArray := prog_6_method_4_code
def y_Model_collect : MethodName := ⟨R_Model, "collect", "(IJ)I"⟩
abbrev b_Model_drop : ByteArray := prog_6_method_15_code
def y_Model_drop : MethodName := ⟨R_Model, "drop", "(I)Z"⟩
abbrev b_Model_call : ByteArray := prog_6_method_20_code
def y_Model_call : MethodName := ⟨R_Model, "call", "(IIJ)J"⟩
abbrev b_Model_again : ByteArray := prog_6_method_22_code
def y_Model_again : MethodName := ⟨R_Model, "again", "(IIJ)J"⟩
abbrev b_Model_make : ByteArray := prog_6_method_13_code
def y_Model_make : MethodName := ⟨R_Model, "make", "(I)I"⟩
theorem mw_169 : (.fieldLink R_Model 49 "CarDeskModel" "refused" "I" : Cond) ∈ cd_WA := List.mem_filter.mpr ⟨List.mem_append_right _ (List.mem_of_getElem? (i := 326) (by decide +kernel)), by decide +kernel⟩
theorem mw_170 : (.constantLong R_Model 63 (-1000000000) : Cond) ∈ cd_WA := List.mem_filter.mpr ⟨List.mem_append_right _ (List.mem_of_getElem? (i := 393) (by decide +kernel)), by decide +kernel⟩
theorem mw_171 : (.constantLong R_Model 65 1000000000 : Cond) ∈ cd_WA := List.mem_filter.mpr ⟨List.mem_append_right _ (List.mem_of_getElem? (i := 394) (by decide +kernel)), by decide +kernel⟩
theorem mw_172 : (.fieldLink R_Model 45 "CarDeskModel" "code" "I" : Cond) ∈ cd_WA := List.mem_filter.mpr ⟨List.mem_append_right _ (List.mem_of_getElem? (i := 314) (by decide +kernel)), by decide +kernel⟩
theorem mw_173 : (.code y_Model_refuse b_Model_refuse 2 (some .int) : Cond) ∈ cd_WA := List.mem_filter.mpr ⟨List.mem_append_right _ (List.mem_of_getElem? (i := 383) (by decide +kernel)), by decide +kernel⟩
theorem mw_174 : (.initialized R_Model : Cond) ∈ cd_WA := List.mem_filter.mpr ⟨List.mem_append_right _ (List.mem_of_getElem? (i := 4) (by decide +kernel)), by decide +kernel⟩
theorem mw_175 : (.instanceMethod y_Model_refuse : Cond) ∈ cd_WA := List.mem_filter.mpr ⟨List.mem_append_right _ (List.mem_of_getElem? (i := 382) (by decide +kernel)), by decide +kernel⟩
theorem mw_176 : (.selects R_Model y_Model_refuse y_Model_refuse : Cond) ∈ cd_WA := List.mem_filter.mpr ⟨List.mem_append_left _ (List.mem_of_getElem? (i := 31) (by decide +kernel)), by decide +kernel⟩
theorem mw_177 : (.methodLink R_Model 52 y_Model_refuse : Cond) ∈ cd_WA := List.mem_filter.mpr ⟨List.mem_append_right _ (List.mem_of_getElem? (i := 380) (by decide +kernel)), by decide +kernel⟩
theorem mw_178 : (.code y_Model_isFar b_Model_isFar 2 (some .boolean) : Cond) ∈ cd_WA := List.mem_filter.mpr ⟨List.mem_append_right _ (List.mem_of_getElem? (i := 392) (by decide +kernel)), by decide +kernel⟩
theorem mw_179 : (.static y_Model_isFar : Cond) ∈ cd_WA := List.mem_filter.mpr ⟨List.mem_append_right _ (List.mem_of_getElem? (i := 391) (by decide +kernel)), by decide +kernel⟩
theorem mw_180 : (.methodLink R_Model 67 y_Model_isFar : Cond) ∈ cd_WA := List.mem_filter.mpr ⟨List.mem_append_right _ (List.mem_of_getElem? (i := 390) (by decide +kernel)), by decide +kernel⟩
theorem mw_181 : (.fieldLink R_Model 22 "CarDeskModel" "answers" "[J" : Cond) ∈ cd_WA := List.mem_filter.mpr ⟨List.mem_append_right _ (List.mem_of_getElem? (i := 319) (by decide +kernel)), by decide +kernel⟩
theorem mw_182 : (.fieldLink R_Model 60 "CarDeskModel" "noted" "I" : Cond) ∈ cd_WA := List.mem_filter.mpr ⟨List.mem_append_right _ (List.mem_of_getElem? (i := 333) (by decide +kernel)), by decide +kernel⟩
theorem mw_183 : (.fieldLink R_Model 26 "CarDeskModel" "failures" "[I" : Cond) ∈ cd_WA := List.mem_filter.mpr ⟨List.mem_append_right _ (List.mem_of_getElem? (i := 320) (by decide +kernel)), by decide +kernel⟩
theorem mw_184 : (.fieldLink R_Model 118 "CarDeskModel" "failed" "I" : Cond) ∈ cd_WA := List.mem_filter.mpr ⟨List.mem_append_right _ (List.mem_of_getElem? (i := 327) (by decide +kernel)), by decide +kernel⟩
theorem mw_185 : (.fieldLink R_Model 121 "CarDeskModel" "lastFailure" "I" : Cond) ∈ cd_WA := List.mem_filter.mpr ⟨List.mem_append_right _ (List.mem_of_getElem? (i := 328) (by decide +kernel)), by decide +kernel⟩
theorem mw_186 : (.fieldLink R_Model 124 "CarDeskModel" "lastCall" "I" : Cond) ∈ cd_WA := List.mem_filter.mpr ⟨List.mem_append_right _ (List.mem_of_getElem? (i := 329) (by decide +kernel)), by decide +kernel⟩
theorem mw_187 : (.fieldLink R_Model 127 "CarDeskModel" "lastNumber" "I" : Cond) ∈ cd_WA := List.mem_filter.mpr ⟨List.mem_append_right _ (List.mem_of_getElem? (i := 330) (by decide +kernel)), by decide +kernel⟩
theorem mw_188 : (.fieldLink R_Model 132 "CarDeskModel" "answered" "I" : Cond) ∈ cd_WA := List.mem_filter.mpr ⟨List.mem_append_right _ (List.mem_of_getElem? (i := 331) (by decide +kernel)), by decide +kernel⟩
theorem mw_189 : (.fieldLink R_Model 97 "CarDeskModel" "things" "I" : Cond) ∈ cd_WA := List.mem_filter.mpr ⟨List.mem_append_right _ (List.mem_of_getElem? (i := 332) (by decide +kernel)), by decide +kernel⟩
theorem mw_190 : (.fieldLink R_Model 19 "CarDeskModel" "collected" "[I" : Cond) ∈ cd_WA := List.mem_filter.mpr ⟨List.mem_append_right _ (List.mem_of_getElem? (i := 318) (by decide +kernel)), by decide +kernel⟩
theorem mw_191 : (.fieldLink R_Model 29 "CarDeskModel" "there" "[Z" : Cond) ∈ cd_WA := List.mem_filter.mpr ⟨List.mem_append_right _ (List.mem_of_getElem? (i := 321) (by decide +kernel)), by decide +kernel⟩
theorem mw_192 : (.constantLong R_Model 73 31 : Cond) ∈ cd_WA := List.mem_filter.mpr ⟨List.mem_append_right _ (List.mem_of_getElem? (i := 416) (by decide +kernel)), by decide +kernel⟩
theorem mw_193 : (.fieldLink R_Model 7 "CarDeskModel" "letters" "[I" : Cond) ∈ cd_WA := List.mem_filter.mpr ⟨List.mem_append_right _ (List.mem_of_getElem? (i := 315) (by decide +kernel)), by decide +kernel⟩
theorem mw_194 : (.constantLong R_Model 71 7 : Cond) ∈ cd_WA := List.mem_filter.mpr ⟨List.mem_append_right _ (List.mem_of_getElem? (i := 415) (by decide +kernel)), by decide +kernel⟩
theorem mw_195 : (.constantLong R_Model 79 65536 : Cond) ∈ cd_WA := List.mem_filter.mpr ⟨List.mem_append_right _ (List.mem_of_getElem? (i := 427) (by decide +kernel)), by decide +kernel⟩
theorem mw_196 : (.fieldLink R_Model 16 "CarDeskModel" "bytes" "[I" : Cond) ∈ cd_WA := List.mem_filter.mpr ⟨List.mem_append_right _ (List.mem_of_getElem? (i := 317) (by decide +kernel)), by decide +kernel⟩
theorem mw_197 : (.constantLong R_Model 77 65521 : Cond) ∈ cd_WA := List.mem_filter.mpr ⟨List.mem_append_right _ (List.mem_of_getElem? (i := 426) (by decide +kernel)), by decide +kernel⟩
theorem mw_198 : (.constantLong R_Model 75 1000 : Cond) ∈ cd_WA := List.mem_filter.mpr ⟨List.mem_append_right _ (List.mem_of_getElem? (i := 421) (by decide +kernel)), by decide +kernel⟩
theorem mw_199 : (.fieldLink R_Model 13 "CarDeskModel" "bits" "[I" : Cond) ∈ cd_WA := List.mem_filter.mpr ⟨List.mem_append_right _ (List.mem_of_getElem? (i := 316) (by decide +kernel)), by decide +kernel⟩
theorem mw_200 : (.fieldLink R_Model 39 "CarDeskModel" "of" "[I" : Cond) ∈ cd_WA := List.mem_filter.mpr ⟨List.mem_append_right _ (List.mem_of_getElem? (i := 324) (by decide +kernel)), by decide +kernel⟩
theorem mw_201 : (.constantLong R_Model 104 64 : Cond) ∈ cd_WA := List.mem_filter.mpr ⟨List.mem_append_right _ (List.mem_of_getElem? (i := 449) (by decide +kernel)), by decide +kernel⟩
theorem mw_202 : (.code y_Model_isThere b_Model_isThere 4 (some .boolean) : Cond) ∈ cd_WA := List.mem_filter.mpr ⟨List.mem_append_right _ (List.mem_of_getElem? (i := 448) (by decide +kernel)), by decide +kernel⟩
theorem mw_203 : (.instanceMethod y_Model_isThere : Cond) ∈ cd_WA := List.mem_filter.mpr ⟨List.mem_append_right _ (List.mem_of_getElem? (i := 447) (by decide +kernel)), by decide +kernel⟩
theorem mw_204 : (.selects R_Model y_Model_isThere y_Model_isThere : Cond) ∈ cd_WA := List.mem_filter.mpr ⟨List.mem_append_left _ (List.mem_of_getElem? (i := 38) (by decide +kernel)), by decide +kernel⟩
theorem mw_205 : (.methodLink R_Model 106 y_Model_isThere : Cond) ∈ cd_WA := List.mem_filter.mpr ⟨List.mem_append_right _ (List.mem_of_getElem? (i := 445) (by decide +kernel)), by decide +kernel⟩
theorem mw_206 : (.fieldLink R_Model 36 "CarDeskModel" "turns" "[I" : Cond) ∈ cd_WA := List.mem_filter.mpr ⟨List.mem_append_right _ (List.mem_of_getElem? (i := 323) (by decide +kernel)), by decide +kernel⟩
theorem mw_207 : (.code y_Model_isUsed b_Model_isUsed 4 (some .boolean) : Cond) ∈ cd_WA := List.mem_filter.mpr ⟨List.mem_append_right _ (List.mem_of_getElem? (i := 436) (by decide +kernel)), by decide +kernel⟩
theorem mw_208 : (.instanceMethod y_Model_isUsed : Cond) ∈ cd_WA := List.mem_filter.mpr ⟨List.mem_append_right _ (List.mem_of_getElem? (i := 435) (by decide +kernel)), by decide +kernel⟩
theorem mw_209 : (.selects R_Model y_Model_isUsed y_Model_isUsed : Cond) ∈ cd_WA := List.mem_filter.mpr ⟨List.mem_append_left _ (List.mem_of_getElem? (i := 36) (by decide +kernel)), by decide +kernel⟩
theorem mw_210 : (.methodLink R_Model 100 y_Model_isUsed : Cond) ∈ cd_WA := List.mem_filter.mpr ⟨List.mem_append_right _ (List.mem_of_getElem? (i := 433) (by decide +kernel)), by decide +kernel⟩
theorem mw_211 : (.fieldLink R_Model 33 "CarDeskModel" "state" "[J" : Cond) ∈ cd_WA := List.mem_filter.mpr ⟨List.mem_append_right _ (List.mem_of_getElem? (i := 322) (by decide +kernel)), by decide +kernel⟩
theorem mw_212 : (.constantLong R_Model 110 63 : Cond) ∈ cd_WA := List.mem_filter.mpr ⟨List.mem_append_right _ (List.mem_of_getElem? (i := 460) (by decide +kernel)), by decide +kernel⟩
theorem mw_213 : (.constantLong R_Model 112 2 : Cond) ∈ cd_WA := List.mem_filter.mpr ⟨List.mem_append_right _ (List.mem_of_getElem? (i := 455) (by decide +kernel)), by decide +kernel⟩
theorem mw_214 : (.constantLong R_Model 58 255 : Cond) ∈ cd_WA := List.mem_filter.mpr ⟨List.mem_append_right _ (List.mem_of_getElem? (i := 385) (by decide +kernel)), by decide +kernel⟩
theorem mw_215 : (.constantLong R_Model 56 127 : Cond) ∈ cd_WA := List.mem_filter.mpr ⟨List.mem_append_right _ (List.mem_of_getElem? (i := 384) (by decide +kernel)), by decide +kernel⟩
theorem mw_216 : (.code y_Model_why b_Model_why 6 (some .int) : Cond) ∈ cd_WA := List.mem_filter.mpr ⟨List.mem_append_right _ (List.mem_of_getElem? (i := 444) (by decide +kernel)), by decide +kernel⟩
theorem mw_217 : (.instanceMethod y_Model_why : Cond) ∈ cd_WA := List.mem_filter.mpr ⟨List.mem_append_right _ (List.mem_of_getElem? (i := 443) (by decide +kernel)), by decide +kernel⟩
theorem mw_218 : (.selects R_Model y_Model_why y_Model_why : Cond) ∈ cd_WA := List.mem_filter.mpr ⟨List.mem_append_left _ (List.mem_of_getElem? (i := 37) (by decide +kernel)), by decide +kernel⟩
theorem mw_219 : (.methodLink R_Model 114 y_Model_why : Cond) ∈ cd_WA := List.mem_filter.mpr ⟨List.mem_append_right _ (List.mem_of_getElem? (i := 441) (by decide +kernel)), by decide +kernel⟩
theorem mw_220 : (.code y_Model_answerOf b_Model_answerOf 7 (some .long) : Cond) ∈ cd_WA := List.mem_filter.mpr ⟨List.mem_append_right _ (List.mem_of_getElem? (i := 454) (by decide +kernel)), by decide +kernel⟩
theorem mw_221 : (.instanceMethod y_Model_answerOf : Cond) ∈ cd_WA := List.mem_filter.mpr ⟨List.mem_append_right _ (List.mem_of_getElem? (i := 453) (by decide +kernel)), by decide +kernel⟩
theorem mw_222 : (.selects R_Model y_Model_answerOf y_Model_answerOf : Cond) ∈ cd_WA := List.mem_filter.mpr ⟨List.mem_append_left _ (List.mem_of_getElem? (i := 39) (by decide +kernel)), by decide +kernel⟩
theorem mw_223 : (.methodLink R_Model 135 y_Model_answerOf : Cond) ∈ cd_WA := List.mem_filter.mpr ⟨List.mem_append_right _ (List.mem_of_getElem? (i := 451) (by decide +kernel)), by decide +kernel⟩
theorem mw_224 : (.code y_Model_stepped b_Model_stepped 10 (some .long) : Cond) ∈ cd_WA := List.mem_filter.mpr ⟨List.mem_append_right _ (List.mem_of_getElem? (i := 459) (by decide +kernel)), by decide +kernel⟩
theorem mw_225 : (.instanceMethod y_Model_stepped : Cond) ∈ cd_WA := List.mem_filter.mpr ⟨List.mem_append_right _ (List.mem_of_getElem? (i := 458) (by decide +kernel)), by decide +kernel⟩
theorem mw_226 : (.selects R_Model y_Model_stepped y_Model_stepped : Cond) ∈ cd_WA := List.mem_filter.mpr ⟨List.mem_append_left _ (List.mem_of_getElem? (i := 40) (by decide +kernel)), by decide +kernel⟩
theorem mw_227 : (.methodLink R_Model 139 y_Model_stepped : Cond) ∈ cd_WA := List.mem_filter.mpr ⟨List.mem_append_right _ (List.mem_of_getElem? (i := 456) (by decide +kernel)), by decide +kernel⟩
theorem mw_228 : (.constantLong R_Model 130 (-100) : Cond) ∈ cd_WA := List.mem_filter.mpr ⟨List.mem_append_right _ (List.mem_of_getElem? (i := 450) (by decide +kernel)), by decide +kernel⟩
theorem mw_229 : (.constantLong R_Model 142 (-4) : Cond) ∈ cd_WA := List.mem_filter.mpr ⟨List.mem_append_right _ (List.mem_of_getElem? (i := 469) (by decide +kernel)), by decide +kernel⟩
theorem mw_230 : (.fieldLink R_Model 42 "CarDeskModel" "made" "[I" : Cond) ∈ cd_WA := List.mem_filter.mpr ⟨List.mem_append_right _ (List.mem_of_getElem? (i := 325) (by decide +kernel)), by decide +kernel⟩
theorem mw_231 : (.code y_Model_stateOfLetters b_Model_stateOfLetters 4 (some .long) : Cond) ∈ cd_WA := List.mem_filter.mpr ⟨List.mem_append_right _ (List.mem_of_getElem? (i := 414) (by decide +kernel)), by decide +kernel⟩
theorem mw_232 : (.instanceMethod y_Model_stateOfLetters : Cond) ∈ cd_WA := List.mem_filter.mpr ⟨List.mem_append_right _ (List.mem_of_getElem? (i := 413) (by decide +kernel)), by decide +kernel⟩
theorem mw_233 : (.selects R_Model y_Model_stateOfLetters y_Model_stateOfLetters : Cond) ∈ cd_WA := List.mem_filter.mpr ⟨List.mem_append_left _ (List.mem_of_getElem? (i := 33) (by decide +kernel)), by decide +kernel⟩
theorem mw_234 : (.methodLink R_Model 84 y_Model_stateOfLetters : Cond) ∈ cd_WA := List.mem_filter.mpr ⟨List.mem_append_right _ (List.mem_of_getElem? (i := 411) (by decide +kernel)), by decide +kernel⟩
theorem mw_235 : (.code y_Model_latest b_Model_latest 4 (some .int) : Cond) ∈ cd_WA := List.mem_filter.mpr ⟨List.mem_append_right _ (List.mem_of_getElem? (i := 410) (by decide +kernel)), by decide +kernel⟩
theorem mw_236 : (.instanceMethod y_Model_latest : Cond) ∈ cd_WA := List.mem_filter.mpr ⟨List.mem_append_right _ (List.mem_of_getElem? (i := 409) (by decide +kernel)), by decide +kernel⟩
theorem mw_237 : (.selects R_Model y_Model_latest y_Model_latest : Cond) ∈ cd_WA := List.mem_filter.mpr ⟨List.mem_append_left _ (List.mem_of_getElem? (i := 32) (by decide +kernel)), by decide +kernel⟩
theorem mw_238 : (.methodLink R_Model 81 y_Model_latest : Cond) ∈ cd_WA := List.mem_filter.mpr ⟨List.mem_append_right _ (List.mem_of_getElem? (i := 407) (by decide +kernel)), by decide +kernel⟩
theorem mw_239 : (.code y_Model_stateOfBits b_Model_stateOfBits 4 (some .long) : Cond) ∈ cd_WA := List.mem_filter.mpr ⟨List.mem_append_right _ (List.mem_of_getElem? (i := 420) (by decide +kernel)), by decide +kernel⟩
theorem mw_240 : (.instanceMethod y_Model_stateOfBits : Cond) ∈ cd_WA := List.mem_filter.mpr ⟨List.mem_append_right _ (List.mem_of_getElem? (i := 419) (by decide +kernel)), by decide +kernel⟩
theorem mw_241 : (.selects R_Model y_Model_stateOfBits y_Model_stateOfBits : Cond) ∈ cd_WA := List.mem_filter.mpr ⟨List.mem_append_left _ (List.mem_of_getElem? (i := 34) (by decide +kernel)), by decide +kernel⟩
theorem mw_242 : (.methodLink R_Model 88 y_Model_stateOfBits : Cond) ∈ cd_WA := List.mem_filter.mpr ⟨List.mem_append_right _ (List.mem_of_getElem? (i := 417) (by decide +kernel)), by decide +kernel⟩
theorem mw_243 : (.code y_Model_stateOfBytes b_Model_stateOfBytes 6 (some .long) : Cond) ∈ cd_WA := List.mem_filter.mpr ⟨List.mem_append_right _ (List.mem_of_getElem? (i := 425) (by decide +kernel)), by decide +kernel⟩
theorem mw_244 : (.instanceMethod y_Model_stateOfBytes : Cond) ∈ cd_WA := List.mem_filter.mpr ⟨List.mem_append_right _ (List.mem_of_getElem? (i := 424) (by decide +kernel)), by decide +kernel⟩
theorem mw_245 : (.selects R_Model y_Model_stateOfBytes y_Model_stateOfBytes : Cond) ∈ cd_WA := List.mem_filter.mpr ⟨List.mem_append_left _ (List.mem_of_getElem? (i := 35) (by decide +kernel)), by decide +kernel⟩
theorem mw_246 : (.methodLink R_Model 91 y_Model_stateOfBytes : Cond) ∈ cd_WA := List.mem_filter.mpr ⟨List.mem_append_right _ (List.mem_of_getElem? (i := 422) (by decide +kernel)), by decide +kernel⟩
theorem mw_247 : (.code y_Model_numbers b_Model_numbers 4 (some .int) : Cond) ∈ cd_WA := List.mem_filter.mpr ⟨List.mem_append_right _ (List.mem_of_getElem? (i := 402) (by decide +kernel)), by decide +kernel⟩
theorem mw_248 : (.instanceMethod y_Model_numbers : Cond) ∈ cd_WA := List.mem_filter.mpr ⟨List.mem_append_right _ (List.mem_of_getElem? (i := 400) (by decide +kernel)), by decide +kernel⟩
theorem mw_249 : (.selects R_Model y_Model_numbers y_Model_numbers : Cond) ∈ cd_WA := List.mem_filter.mpr ⟨List.mem_append_right _ (List.mem_of_getElem? (i := 401) (by decide +kernel)), by decide +kernel⟩
theorem mw_250 : (.methodLink R_Model 94 y_Model_numbers : Cond) ∈ cd_WA := List.mem_filter.mpr ⟨List.mem_append_right _ (List.mem_of_getElem? (i := 428) (by decide +kernel)), by decide +kernel⟩
