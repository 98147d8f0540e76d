theorem mw_0 : (.fieldLink R_Tray 15 "CarDesk$Tray" "count" "I" : Cond) ∈ cd_WA := List.mem_filter.mpr ⟨List.mem_append_right _ (List.mem_of_getElem? (i := 23) (by decide +kernel)), by decide +kernel⟩
theorem mw_1 : (.fieldLink R_Tray 9 "CarDesk$Tray" "values" "[I" : Cond) ∈ cd_WA := List.mem_filter.mpr ⟨List.mem_append_right _ (List.mem_of_getElem? (i := 22) (by decide +kernel)), by decide +kernel⟩
theorem mw_2 : (.constantLong R_Tray 24 31 : Cond) ∈ cd_WA := List.mem_filter.mpr ⟨List.mem_append_right _ (List.mem_of_getElem? (i := 172) (by decide +kernel)), by decide +kernel⟩
theorem mw_3 : (.constantLong R_Tray 22 7 : Cond) ∈ cd_WA := List.mem_filter.mpr ⟨List.mem_append_right _ (List.mem_of_getElem? (i := 171) (by decide +kernel)), by decide +kernel⟩
theorem mw_4 : (.constantLong R_Tray 27 65536 : Cond) ∈ cd_WA := List.mem_filter.mpr ⟨List.mem_append_right _ (List.mem_of_getElem? (i := 187) (by decide +kernel)), by decide +kernel⟩
theorem mw_5 : (.constant R_Tray 26 65521 : Cond) ∈ cd_WA := List.mem_filter.mpr ⟨List.mem_append_right _ (List.mem_of_getElem? (i := 186) (by decide +kernel)), by decide +kernel⟩
theorem mw_6 : (.fieldLink R_Thing 13 "CarDesk$Thing" "users" "I" : Cond) ∈ cd_WA := List.mem_filter.mpr ⟨List.mem_append_right _ (List.mem_of_getElem? (i := 202) (by decide +kernel)), by decide +kernel⟩
theorem mw_7 : (.fieldLink R_Thing 24 "CarDesk$Thing" "source" "LCarDesk$Thing;" : Cond) ∈ cd_WA := List.mem_filter.mpr ⟨List.mem_append_right _ (List.mem_of_getElem? (i := 196) (by decide +kernel)), by decide +kernel⟩
theorem mw_8 : (.fieldLink R_Thing 20 "CarDesk$Thing" "state" "J" : Cond) ∈ cd_WA := List.mem_filter.mpr ⟨List.mem_append_right _ (List.mem_of_getElem? (i := 197) (by decide +kernel)), by decide +kernel⟩
theorem mw_9 : (.fieldLink R_Thing 16 "CarDesk$Thing" "there" "Z" : Cond) ∈ cd_WA := List.mem_filter.mpr ⟨List.mem_append_right _ (List.mem_of_getElem? (i := 203) (by decide +kernel)), by decide +kernel⟩
theorem mw_10 : (.fieldLink R_Shelf 17 "CarDesk$Shelf" "made" "I" : Cond) ∈ cd_WA := List.mem_filter.mpr ⟨List.mem_append_right _ (List.mem_of_getElem? (i := 43) (by decide +kernel)), by decide +kernel⟩
theorem mw_11 : (.fieldLink R_Shelf 11 "CarDesk$Shelf" "things" "[LCarDesk$Thing;" : Cond) ∈ cd_WA := List.mem_filter.mpr ⟨List.mem_append_right _ (List.mem_of_getElem? (i := 42) (by decide +kernel)), by decide +kernel⟩
theorem mw_12 : (.code y_Shelf_at b_Shelf_at 3 (some (.object "CarDesk$Thing")) : Cond) ∈ cd_WA := List.mem_filter.mpr ⟨List.mem_append_right _ (List.mem_of_getElem? (i := 152) (by decide +kernel)), by decide +kernel⟩
theorem mw_13 : (.initialized R_Shelf : Cond) ∈ cd_WA := List.mem_filter.mpr ⟨List.mem_append_right _ (List.mem_of_getElem? (i := 3) (by decide +kernel)), by decide +kernel⟩
theorem mw_14 : (.instanceMethod y_Shelf_at : Cond) ∈ cd_WA := List.mem_filter.mpr ⟨List.mem_append_right _ (List.mem_of_getElem? (i := 151) (by decide +kernel)), by decide +kernel⟩
theorem mw_15 : (.selects R_Shelf y_Shelf_at y_Shelf_at : Cond) ∈ cd_WA := List.mem_filter.mpr ⟨List.mem_append_left _ (List.mem_of_getElem? (i := 7) (by decide +kernel)), by decide +kernel⟩
theorem mw_16 : (.methodLink R_Shelf 25 y_Shelf_at : Cond) ∈ cd_WA := List.mem_filter.mpr ⟨List.mem_append_right _ (List.mem_of_getElem? (i := 149) (by decide +kernel)), by decide +kernel⟩
theorem mw_17 : (.methodLink R_Thing 1 objectInit : Cond) ∈ cd_WA := List.mem_filter.mpr ⟨List.mem_append_right _ (List.mem_of_getElem? (i := 195) (by decide +kernel)), by decide +kernel⟩
theorem mw_18 : (.instanceMethod objectInit : Cond) ∈ cd_WA := List.mem_filter.mpr ⟨List.mem_append_right _ (List.mem_of_getElem? (i := 12) (by decide +kernel)), by decide +kernel⟩
theorem mw_19 : (.code objectInit ⟨#[0xb1]⟩ 1 none : Cond) ∈ cd_WA := List.mem_filter.mpr ⟨List.mem_append_right _ (List.mem_of_getElem? (i := 13) (by decide +kernel)), by decide +kernel⟩
theorem mw_20 : (.fieldLink R_Thing 7 "CarDesk$Thing" "turns" "I" : Cond) ∈ cd_WA := List.mem_filter.mpr ⟨List.mem_append_right _ (List.mem_of_getElem? (i := 200) (by decide +kernel)), by decide +kernel⟩
theorem mw_21 : (.fieldLink R_CarDesk 38 "CarDesk" "refused" "I" : Cond) ∈ cd_WA := List.mem_filter.mpr ⟨List.mem_append_right _ (List.mem_of_getElem? (i := 57) (by decide +kernel)), by decide +kernel⟩
theorem mw_22 : (.fieldLink R_CarDesk 42 "CarDesk" "failed" "I" : Cond) ∈ cd_WA := List.mem_filter.mpr ⟨List.mem_append_right _ (List.mem_of_getElem? (i := 58) (by decide +kernel)), by decide +kernel⟩
theorem mw_23 : (.fieldLink R_CarDesk 45 "CarDesk" "lastFailure" "I" : Cond) ∈ cd_WA := List.mem_filter.mpr ⟨List.mem_append_right _ (List.mem_of_getElem? (i := 59) (by decide +kernel)), by decide +kernel⟩
theorem mw_24 : (.fieldLink R_CarDesk 48 "CarDesk" "lastFailedCall" "I" : Cond) ∈ cd_WA := List.mem_filter.mpr ⟨List.mem_append_right _ (List.mem_of_getElem? (i := 60) (by decide +kernel)), by decide +kernel⟩
theorem mw_25 : (.fieldLink R_CarDesk 51 "CarDesk" "lastFailedNumber" "I" : Cond) ∈ cd_WA := List.mem_filter.mpr ⟨List.mem_append_right _ (List.mem_of_getElem? (i := 61) (by decide +kernel)), by decide +kernel⟩
theorem mw_26 : (.constantLong R_CarDesk 158 (-1000000000) : Cond) ∈ cd_WA := List.mem_filter.mpr ⟨List.mem_append_right _ (List.mem_of_getElem? (i := 124) (by decide +kernel)), by decide +kernel⟩
theorem mw_27 : (.constantLong R_CarDesk 160 1000000000 : Cond) ∈ cd_WA := List.mem_filter.mpr ⟨List.mem_append_right _ (List.mem_of_getElem? (i := 125) (by decide +kernel)), by decide +kernel⟩
theorem mw_28 : (.fieldLink R_CarDesk 12 "CarDesk" "letters" "LCarDesk$Tray;" : Cond) ∈ cd_WA := List.mem_filter.mpr ⟨List.mem_append_right _ (List.mem_of_getElem? (i := 51) (by decide +kernel)), by decide +kernel⟩
theorem mw_29 : (.fieldLink R_CarDesk 18 "CarDesk" "bits" "LCarDesk$Tray;" : Cond) ∈ cd_WA := List.mem_filter.mpr ⟨List.mem_append_right _ (List.mem_of_getElem? (i := 52) (by decide +kernel)), by decide +kernel⟩
theorem mw_30 : (.fieldLink R_CarDesk 21 "CarDesk" "bytes" "LCarDesk$Tray;" : Cond) ∈ cd_WA := List.mem_filter.mpr ⟨List.mem_append_right _ (List.mem_of_getElem? (i := 53) (by decide +kernel)), by decide +kernel⟩
theorem mw_31 : (.code y_CarDesk_trayOfKind b_CarDesk_trayOfKind 2 (some (.object "CarDesk$Tray")) : Cond) ∈ cd_WA := List.mem_filter.mpr ⟨List.mem_append_right _ (List.mem_of_getElem? (i := 144) (by decide +kernel)), by decide +kernel⟩
theorem mw_32 : (.initialized R_CarDesk : Cond) ∈ cd_WA := List.mem_filter.mpr ⟨List.mem_append_right _ (List.mem_of_getElem? (i := 1) (by decide +kernel)), by decide +kernel⟩
theorem mw_33 : (.instanceMethod y_CarDesk_trayOfKind : Cond) ∈ cd_WA := List.mem_filter.mpr ⟨List.mem_append_right _ (List.mem_of_getElem? (i := 143) (by decide +kernel)), by decide +kernel⟩
theorem mw_34 : (.selects R_CarDesk y_CarDesk_trayOfKind y_CarDesk_trayOfKind : Cond) ∈ cd_WA := List.mem_filter.mpr ⟨List.mem_append_left _ (List.mem_of_getElem? (i := 5) (by decide +kernel)), by decide +kernel⟩
theorem mw_35 : (.methodLink R_CarDesk 162 y_CarDesk_trayOfKind : Cond) ∈ cd_WA := List.mem_filter.mpr ⟨List.mem_append_right _ (List.mem_of_getElem? (i := 141) (by decide +kernel)), by decide +kernel⟩
theorem mw_36 : (.fieldLink R_CarDesk 26 "CarDesk" "shelves" "[LCarDesk$Shelf;" : Cond) ∈ cd_WA := List.mem_filter.mpr ⟨List.mem_append_right _ (List.mem_of_getElem? (i := 54) (by decide +kernel)), by decide +kernel⟩
theorem mw_37 : (.code y_Shelf_newest b_Shelf_newest 3 (some (.object "CarDesk$Thing")) : Cond) ∈ cd_WA := List.mem_filter.mpr ⟨List.mem_append_right _ (List.mem_of_getElem? (i := 148) (by decide +kernel)), by decide +kernel⟩
theorem mw_38 : (.instanceMethod y_Shelf_newest : Cond) ∈ cd_WA := List.mem_filter.mpr ⟨List.mem_append_right _ (List.mem_of_getElem? (i := 147) (by decide +kernel)), by decide +kernel⟩
theorem mw_39 : (.selects R_Shelf y_Shelf_newest y_Shelf_newest : Cond) ∈ cd_WA := List.mem_filter.mpr ⟨List.mem_append_left _ (List.mem_of_getElem? (i := 6) (by decide +kernel)), by decide +kernel⟩
theorem mw_40 : (.code y_Tray_hash b_Tray_hash 4 (some .long) : Cond) ∈ cd_WA := List.mem_filter.mpr ⟨List.mem_append_right _ (List.mem_of_getElem? (i := 170) (by decide +kernel)), by decide +kernel⟩
theorem mw_41 : (.initialized R_Tray : Cond) ∈ cd_WA := List.mem_filter.mpr ⟨List.mem_append_right _ (List.mem_of_getElem? (i := 2) (by decide +kernel)), by decide +kernel⟩
theorem mw_42 : (.instanceMethod y_Tray_hash : Cond) ∈ cd_WA := List.mem_filter.mpr ⟨List.mem_append_right _ (List.mem_of_getElem? (i := 169) (by decide +kernel)), by decide +kernel⟩
theorem mw_43 : (.selects R_Tray y_Tray_hash y_Tray_hash : Cond) ∈ cd_WA := List.mem_filter.mpr ⟨List.mem_append_left _ (List.mem_of_getElem? (i := 11) (by decide +kernel)), by decide +kernel⟩
theorem mw_44 : (.constantLong R_CarDesk 177 1000 : Cond) ∈ cd_WA := List.mem_filter.mpr ⟨List.mem_append_right _ (List.mem_of_getElem? (i := 173) (by decide +kernel)), by decide +kernel⟩
theorem mw_45 : (.code y_Tray_sum b_Tray_sum 3 (some .int) : Cond) ∈ cd_WA := List.mem_filter.mpr ⟨List.mem_append_right _ (List.mem_of_getElem? (i := 177) (by decide +kernel)), by decide +kernel⟩
theorem mw_46 : (.instanceMethod y_Tray_sum : Cond) ∈ cd_WA := List.mem_filter.mpr ⟨List.mem_append_right _ (List.mem_of_getElem? (i := 176) (by decide +kernel)), by decide +kernel⟩
theorem mw_47 : (.selects R_Tray y_Tray_sum y_Tray_sum : Cond) ∈ cd_WA := List.mem_filter.mpr ⟨List.mem_append_left _ (List.mem_of_getElem? (i := 12) (by decide +kernel)), by decide +kernel⟩
theorem mw_48 : (.code y_Tray_changes b_Tray_changes 3 (some .int) : Cond) ∈ cd_WA := List.mem_filter.mpr ⟨List.mem_append_right _ (List.mem_of_getElem? (i := 181) (by decide +kernel)), by decide +kernel⟩
theorem mw_49 : (.instanceMethod y_Tray_changes : Cond) ∈ cd_WA := List.mem_filter.mpr ⟨List.mem_append_right _ (List.mem_of_getElem? (i := 180) (by decide +kernel)), by decide +kernel⟩
theorem mw_50 : (.selects R_Tray y_Tray_changes y_Tray_changes : Cond) ∈ cd_WA := List.mem_filter.mpr ⟨List.mem_append_left _ (List.mem_of_getElem? (i := 13) (by decide +kernel)), by decide +kernel⟩
theorem mw_51 : (.code y_Tray_checksum b_Tray_checksum 4 (some .long) : Cond) ∈ cd_WA := List.mem_filter.mpr ⟨List.mem_append_right _ (List.mem_of_getElem? (i := 185) (by decide +kernel)), by decide +kernel⟩
theorem mw_52 : (.instanceMethod y_Tray_checksum : Cond) ∈ cd_WA := List.mem_filter.mpr ⟨List.mem_append_right _ (List.mem_of_getElem? (i := 184) (by decide +kernel)), by decide +kernel⟩
theorem mw_53 : (.selects R_Tray y_Tray_checksum y_Tray_checksum : Cond) ∈ cd_WA := List.mem_filter.mpr ⟨List.mem_append_left _ (List.mem_of_getElem? (i := 14) (by decide +kernel)), by decide +kernel⟩
theorem mw_54 : (.code y_Shelf_countThere b_Shelf_countThere 3 (some .int) : Cond) ∈ cd_WA := List.mem_filter.mpr ⟨List.mem_append_right _ (List.mem_of_getElem? (i := 191) (by decide +kernel)), by decide +kernel⟩
theorem mw_55 : (.instanceMethod y_Shelf_countThere : Cond) ∈ cd_WA := List.mem_filter.mpr ⟨List.mem_append_right _ (List.mem_of_getElem? (i := 190) (by decide +kernel)), by decide +kernel⟩
theorem mw_56 : (.selects R_Shelf y_Shelf_countThere y_Shelf_countThere : Cond) ∈ cd_WA := List.mem_filter.mpr ⟨List.mem_append_left _ (List.mem_of_getElem? (i := 15) (by decide +kernel)), by decide +kernel⟩
theorem mw_57 : (.code y_Tray_empty b_Tray_empty 1 none : Cond) ∈ cd_WA := List.mem_filter.mpr ⟨List.mem_append_right _ (List.mem_of_getElem? (i := 227) (by decide +kernel)), by decide +kernel⟩
theorem mw_58 : (.instanceMethod y_Tray_empty : Cond) ∈ cd_WA := List.mem_filter.mpr ⟨List.mem_append_right _ (List.mem_of_getElem? (i := 226) (by decide +kernel)), by decide +kernel⟩
theorem mw_59 : (.selects R_Tray y_Tray_empty y_Tray_empty : Cond) ∈ cd_WA := List.mem_filter.mpr ⟨List.mem_append_left _ (List.mem_of_getElem? (i := 18) (by decide +kernel)), by decide +kernel⟩
theorem mw_60 : (.constantLong R_CarDesk 191 384 : Cond) ∈ cd_WA := List.mem_filter.mpr ⟨List.mem_append_right _ (List.mem_of_getElem? (i := 241) (by decide +kernel)), by decide +kernel⟩
theorem mw_61 : (.code y_CarDesk_isCall b_CarDesk_isCall 1 (some .boolean) : Cond) ∈ cd_WA := List.mem_filter.mpr ⟨List.mem_append_right _ (List.mem_of_getElem? (i := 120) (by decide +kernel)), by decide +kernel⟩
theorem mw_62 : (.static y_CarDesk_isCall : Cond) ∈ cd_WA := List.mem_filter.mpr ⟨List.mem_append_right _ (List.mem_of_getElem? (i := 119) (by decide +kernel)), by decide +kernel⟩
theorem mw_63 : (.methodLink R_CarDesk 85 y_CarDesk_isCall : Cond) ∈ cd_WA := List.mem_filter.mpr ⟨List.mem_append_right _ (List.mem_of_getElem? (i := 118) (by decide +kernel)), by decide +kernel⟩
theorem mw_64 : (.constantLong R_CarDesk 196 64 : Cond) ∈ cd_WA := List.mem_filter.mpr ⟨List.mem_append_right _ (List.mem_of_getElem? (i := 236) (by decide +kernel)), by decide +kernel⟩
theorem mw_65 : (.code y_CarDesk_thingOf b_CarDesk_thingOf 4 (some (.object "CarDesk$Thing")) : Cond) ∈ cd_WA := List.mem_filter.mpr ⟨List.mem_append_right _ (List.mem_of_getElem? (i := 240) (by decide +kernel)), by decide +kernel⟩
theorem mw_66 : (.instanceMethod y_CarDesk_thingOf : Cond) ∈ cd_WA := List.mem_filter.mpr ⟨List.mem_append_right _ (List.mem_of_getElem? (i := 239) (by decide +kernel)), by decide +kernel⟩
theorem mw_67 : (.selects R_CarDesk y_CarDesk_thingOf y_CarDesk_thingOf : Cond) ∈ cd_WA := List.mem_filter.mpr ⟨List.mem_append_left _ (List.mem_of_getElem? (i := 20) (by decide +kernel)), by decide +kernel⟩
theorem mw_68 : (.methodLink R_CarDesk 142 y_CarDesk_thingOf : Cond) ∈ cd_WA := List.mem_filter.mpr ⟨List.mem_append_right _ (List.mem_of_getElem? (i := 237) (by decide +kernel)), by decide +kernel⟩
theorem mw_69 : (.code y_Thing_isInUse b_Thing_isInUse 1 (some .boolean) : Cond) ∈ cd_WA := List.mem_filter.mpr ⟨List.mem_append_right _ (List.mem_of_getElem? (i := 253) (by decide +kernel)), by decide +kernel⟩
theorem mw_70 : (.initialized R_Thing : Cond) ∈ cd_WA := List.mem_filter.mpr ⟨List.mem_append_right _ (List.mem_of_getElem? (i := 5) (by decide +kernel)), by decide +kernel⟩
theorem mw_71 : (.instanceMethod y_Thing_isInUse : Cond) ∈ cd_WA := List.mem_filter.mpr ⟨List.mem_append_right _ (List.mem_of_getElem? (i := 252) (by decide +kernel)), by decide +kernel⟩
theorem mw_72 : (.selects R_Thing y_Thing_isInUse y_Thing_isInUse : Cond) ∈ cd_WA := List.mem_filter.mpr ⟨List.mem_append_left _ (List.mem_of_getElem? (i := 22) (by decide +kernel)), by decide +kernel⟩
theorem mw_73 : (.code y_CarDesk_isArgument b_CarDesk_isArgument 2 (some .boolean) : Cond) ∈ cd_WA := List.mem_filter.mpr ⟨List.mem_append_right _ (List.mem_of_getElem? (i := 123) (by decide +kernel)), by decide +kernel⟩
theorem mw_74 : (.static y_CarDesk_isArgument : Cond) ∈ cd_WA := List.mem_filter.mpr ⟨List.mem_append_right _ (List.mem_of_getElem? (i := 122) (by decide +kernel)), by decide +kernel⟩
theorem mw_75 : (.methodLink R_CarDesk 89 y_CarDesk_isArgument : Cond) ∈ cd_WA := List.mem_filter.mpr ⟨List.mem_append_right _ (List.mem_of_getElem? (i := 121) (by decide +kernel)), by decide +kernel⟩
theorem mw_76 : (.code y_CarDesk_refusalOfStep b_CarDesk_refusalOfStep 2 (some .int) : Cond) ∈ cd_WA := List.mem_filter.mpr ⟨List.mem_append_right _ (List.mem_of_getElem? (i := 249) (by decide +kernel)), by decide +kernel⟩
theorem mw_77 : (.static y_CarDesk_refusalOfStep : Cond) ∈ cd_WA := List.mem_filter.mpr ⟨List.mem_append_right _ (List.mem_of_getElem? (i := 248) (by decide +kernel)), by decide +kernel⟩
theorem mw_78 : (.methodLink R_CarDesk 198 y_CarDesk_refusalOfStep : Cond) ∈ cd_WA := List.mem_filter.mpr ⟨List.mem_append_right _ (List.mem_of_getElem? (i := 247) (by decide +kernel)), by decide +kernel⟩
theorem mw_79 : (.code y_CarDesk_thingForCall b_CarDesk_thingForCall 4 (some (.object "CarDesk$Thing")) : Cond) ∈ cd_WA := List.mem_filter.mpr ⟨List.mem_append_right _ (List.mem_of_getElem? (i := 235) (by decide +kernel)), by decide +kernel⟩
theorem mw_80 : (.instanceMethod y_CarDesk_thingForCall : Cond) ∈ cd_WA := List.mem_filter.mpr ⟨List.mem_append_right _ (List.mem_of_getElem? (i := 234) (by decide +kernel)), by decide +kernel⟩
theorem mw_81 : (.selects R_CarDesk y_CarDesk_thingForCall y_CarDesk_thingForCall : Cond) ∈ cd_WA := List.mem_filter.mpr ⟨List.mem_append_left _ (List.mem_of_getElem? (i := 19) (by decide +kernel)), by decide +kernel⟩
theorem mw_82 : (.methodLink R_CarDesk 122 y_CarDesk_thingForCall : Cond) ∈ cd_WA := List.mem_filter.mpr ⟨List.mem_append_right _ (List.mem_of_getElem? (i := 232) (by decide +kernel)), by decide +kernel⟩
theorem mw_83 : (.constantLong R_CarDesk 212 31 : Cond) ∈ cd_WA := List.mem_filter.mpr ⟨List.mem_append_right _ (List.mem_of_getElem? (i := 274) (by decide +kernel)), by decide +kernel⟩
theorem mw_84 : (.fieldLink R_CarDesk 30 "CarDesk" "answers" "[J" : Cond) ∈ cd_WA := List.mem_filter.mpr ⟨List.mem_append_right _ (List.mem_of_getElem? (i := 55) (by decide +kernel)), by decide +kernel⟩
theorem mw_85 : (.constantLong R_CarDesk 214 63 : Cond) ∈ cd_WA := List.mem_filter.mpr ⟨List.mem_append_right _ (List.mem_of_getElem? (i := 275) (by decide +kernel)), by decide +kernel⟩
theorem mw_86 : (.code y_CarDesk_turnedLeft b_CarDesk_turnedLeft 3 (some .long) : Cond) ∈ cd_WA := List.mem_filter.mpr ⟨List.mem_append_right _ (List.mem_of_getElem? (i := 278) (by decide +kernel)), by decide +kernel⟩
theorem mw_87 : (.static y_CarDesk_turnedLeft : Cond) ∈ cd_WA := List.mem_filter.mpr ⟨List.mem_append_right _ (List.mem_of_getElem? (i := 277) (by decide +kernel)), by decide +kernel⟩
theorem mw_88 : (.methodLink R_CarDesk 216 y_CarDesk_turnedLeft : Cond) ∈ cd_WA := List.mem_filter.mpr ⟨List.mem_append_right _ (List.mem_of_getElem? (i := 276) (by decide +kernel)), by decide +kernel⟩
theorem mw_89 : (.code y_Thing_stateOfSource b_Thing_stateOfSource 1 (some .long) : Cond) ∈ cd_WA := List.mem_filter.mpr ⟨List.mem_append_right _ (List.mem_of_getElem? (i := 282) (by decide +kernel)), by decide +kernel⟩
theorem mw_90 : (.instanceMethod y_Thing_stateOfSource : Cond) ∈ cd_WA := List.mem_filter.mpr ⟨List.mem_append_right _ (List.mem_of_getElem? (i := 281) (by decide +kernel)), by decide +kernel⟩
theorem mw_91 : (.selects R_Thing y_Thing_stateOfSource y_Thing_stateOfSource : Cond) ∈ cd_WA := List.mem_filter.mpr ⟨List.mem_append_left _ (List.mem_of_getElem? (i := 28) (by decide +kernel)), by decide +kernel⟩
theorem mw_92 : (.code y_Shelf_sumOfStates b_Shelf_sumOfStates 5 (some .long) : Cond) ∈ cd_WA := List.mem_filter.mpr ⟨List.mem_append_right _ (List.mem_of_getElem? (i := 286) (by decide +kernel)), by decide +kernel⟩
theorem mw_93 : (.instanceMethod y_Shelf_sumOfStates : Cond) ∈ cd_WA := List.mem_filter.mpr ⟨List.mem_append_right _ (List.mem_of_getElem? (i := 285) (by decide +kernel)), by decide +kernel⟩
theorem mw_94 : (.selects R_Shelf y_Shelf_sumOfStates y_Shelf_sumOfStates : Cond) ∈ cd_WA := List.mem_filter.mpr ⟨List.mem_append_left _ (List.mem_of_getElem? (i := 29) (by decide +kernel)), by decide +kernel⟩
theorem mw_95 : (.code y_Thing_comparedWith b_Thing_comparedWith 2 (some .int) : Cond) ∈ cd_WA := List.mem_filter.mpr ⟨List.mem_append_right _ (List.mem_of_getElem? (i := 265) (by decide +kernel)), by decide +kernel⟩
theorem mw_96 : (.instanceMethod y_Thing_comparedWith : Cond) ∈ cd_WA := List.mem_filter.mpr ⟨List.mem_append_right _ (List.mem_of_getElem? (i := 264) (by decide +kernel)), by decide +kernel⟩
theorem mw_97 : (.selects R_Thing y_Thing_comparedWith y_Thing_comparedWith : Cond) ∈ cd_WA := List.mem_filter.mpr ⟨List.mem_append_left _ (List.mem_of_getElem? (i := 25) (by decide +kernel)), by decide +kernel⟩
theorem mw_98 : (.code y_CarDesk_steppedState b_CarDesk_steppedState 5 (some .long) : Cond) ∈ cd_WA := List.mem_filter.mpr ⟨List.mem_append_right _ (List.mem_of_getElem? (i := 273) (by decide +kernel)), by decide +kernel⟩
theorem mw_99 : (.instanceMethod y_CarDesk_steppedState : Cond) ∈ cd_WA := List.mem_filter.mpr ⟨List.mem_append_right _ (List.mem_of_getElem? (i := 272) (by decide +kernel)), by decide +kernel⟩
theorem mw_100 : (.selects R_CarDesk y_CarDesk_steppedState y_CarDesk_steppedState : Cond) ∈ cd_WA := List.mem_filter.mpr ⟨List.mem_append_left _ (List.mem_of_getElem? (i := 27) (by decide +kernel)), by decide +kernel⟩
theorem mw_101 : (.methodLink R_CarDesk 209 y_CarDesk_steppedState : Cond) ∈ cd_WA := List.mem_filter.mpr ⟨List.mem_append_right _ (List.mem_of_getElem? (i := 270) (by decide +kernel)), by decide +kernel⟩
theorem mw_102 : (.code y_CarDesk_trayOfSort b_CarDesk_trayOfSort 2 (some (.object "CarDesk$Tray")) : Cond) ∈ cd_WA := List.mem_filter.mpr ⟨List.mem_append_right _ (List.mem_of_getElem? (i := 101) (by decide +kernel)), by decide +kernel⟩
theorem mw_103 : (.instanceMethod y_CarDesk_trayOfSort : Cond) ∈ cd_WA := List.mem_filter.mpr ⟨List.mem_append_right _ (List.mem_of_getElem? (i := 100) (by decide +kernel)), by decide +kernel⟩
theorem mw_104 : (.selects R_CarDesk y_CarDesk_trayOfSort y_CarDesk_trayOfSort : Cond) ∈ cd_WA := List.mem_filter.mpr ⟨List.mem_append_left _ (List.mem_of_getElem? (i := 0) (by decide +kernel)), by decide +kernel⟩
theorem mw_105 : (.methodLink R_CarDesk 64 y_CarDesk_trayOfSort : Cond) ∈ cd_WA := List.mem_filter.mpr ⟨List.mem_append_right _ (List.mem_of_getElem? (i := 98) (by decide +kernel)), by decide +kernel⟩
theorem mw_106 : (.code y_CarDesk_refuse b_CarDesk_refuse 2 (some .int) : Cond) ∈ cd_WA := List.mem_filter.mpr ⟨List.mem_append_right _ (List.mem_of_getElem? (i := 105) (by decide +kernel)), by decide +kernel⟩
theorem mw_107 : (.instanceMethod y_CarDesk_refuse : Cond) ∈ cd_WA := List.mem_filter.mpr ⟨List.mem_append_right _ (List.mem_of_getElem? (i := 104) (by decide +kernel)), by decide +kernel⟩
theorem mw_108 : (.selects R_CarDesk y_CarDesk_refuse y_CarDesk_refuse : Cond) ∈ cd_WA := List.mem_filter.mpr ⟨List.mem_append_left _ (List.mem_of_getElem? (i := 1) (by decide +kernel)), by decide +kernel⟩
theorem mw_109 : (.methodLink R_CarDesk 68 y_CarDesk_refuse : Cond) ∈ cd_WA := List.mem_filter.mpr ⟨List.mem_append_right _ (List.mem_of_getElem? (i := 102) (by decide +kernel)), by decide +kernel⟩
theorem mw_110 : (.code y_Tray_isFull b_Tray_isFull 1 (some .boolean) : Cond) ∈ cd_WA := List.mem_filter.mpr ⟨List.mem_append_right _ (List.mem_of_getElem? (i := 109) (by decide +kernel)), by decide +kernel⟩
theorem mw_111 : (.instanceMethod y_Tray_isFull : Cond) ∈ cd_WA := List.mem_filter.mpr ⟨List.mem_append_right _ (List.mem_of_getElem? (i := 108) (by decide +kernel)), by decide +kernel⟩
theorem mw_112 : (.selects R_Tray y_Tray_isFull y_Tray_isFull : Cond) ∈ cd_WA := List.mem_filter.mpr ⟨List.mem_append_left _ (List.mem_of_getElem? (i := 2) (by decide +kernel)), by decide +kernel⟩
theorem mw_113 : (.code y_Tray_put b_Tray_put 2 none : Cond) ∈ cd_WA := List.mem_filter.mpr ⟨List.mem_append_right _ (List.mem_of_getElem? (i := 113) (by decide +kernel)), by decide +kernel⟩
theorem mw_114 : (.instanceMethod y_Tray_put : Cond) ∈ cd_WA := List.mem_filter.mpr ⟨List.mem_append_right _ (List.mem_of_getElem? (i := 112) (by decide +kernel)), by decide +kernel⟩
theorem mw_115 : (.selects R_Tray y_Tray_put y_Tray_put : Cond) ∈ cd_WA := List.mem_filter.mpr ⟨List.mem_append_left _ (List.mem_of_getElem? (i := 3) (by decide +kernel)), by decide +kernel⟩
theorem mw_116 : (.fieldLink R_CarDesk 60 "CarDesk" "noted" "I" : Cond) ∈ cd_WA := List.mem_filter.mpr ⟨List.mem_append_right _ (List.mem_of_getElem? (i := 64) (by decide +kernel)), by decide +kernel⟩
theorem mw_117 : (.fieldLink R_CarDesk 34 "CarDesk" "failures" "[I" : Cond) ∈ cd_WA := List.mem_filter.mpr ⟨List.mem_append_right _ (List.mem_of_getElem? (i := 56) (by decide +kernel)), by decide +kernel⟩
theorem mw_118 : (.code y_CarDesk_refusalOfCall b_CarDesk_refusalOfCall 6 (some .int) : Cond) ∈ cd_WA := List.mem_filter.mpr ⟨List.mem_append_right _ (List.mem_of_getElem? (i := 246) (by decide +kernel)), by decide +kernel⟩
theorem mw_119 : (.instanceMethod y_CarDesk_refusalOfCall : Cond) ∈ cd_WA := List.mem_filter.mpr ⟨List.mem_append_right _ (List.mem_of_getElem? (i := 245) (by decide +kernel)), by decide +kernel⟩
theorem mw_120 : (.selects R_CarDesk y_CarDesk_refusalOfCall y_CarDesk_refusalOfCall : Cond) ∈ cd_WA := List.mem_filter.mpr ⟨List.mem_append_left _ (List.mem_of_getElem? (i := 21) (by decide +kernel)), by decide +kernel⟩
theorem mw_121 : (.methodLink R_CarDesk 126 y_CarDesk_refusalOfCall : Cond) ∈ cd_WA := List.mem_filter.mpr ⟨List.mem_append_right _ (List.mem_of_getElem? (i := 243) (by decide +kernel)), by decide +kernel⟩
theorem mw_122 : (.fieldLink R_CarDesk 54 "CarDesk" "answered" "I" : Cond) ∈ cd_WA := List.mem_filter.mpr ⟨List.mem_append_right _ (List.mem_of_getElem? (i := 62) (by decide +kernel)), by decide +kernel⟩
theorem mw_123 : (.code y_CarDesk_outcomeOfCall b_CarDesk_outcomeOfCall 5 (some .long) : Cond) ∈ cd_WA := List.mem_filter.mpr ⟨List.mem_append_right _ (List.mem_of_getElem? (i := 261) (by decide +kernel)), by decide +kernel⟩
theorem mw_124 : (.instanceMethod y_CarDesk_outcomeOfCall : Cond) ∈ cd_WA := List.mem_filter.mpr ⟨List.mem_append_right _ (List.mem_of_getElem? (i := 260) (by decide +kernel)), by decide +kernel⟩
theorem mw_125 : (.selects R_CarDesk y_CarDesk_outcomeOfCall y_CarDesk_outcomeOfCall : Cond) ∈ cd_WA := List.mem_filter.mpr ⟨List.mem_append_left _ (List.mem_of_getElem? (i := 24) (by decide +kernel)), by decide +kernel⟩
theorem mw_126 : (.methodLink R_CarDesk 134 y_CarDesk_outcomeOfCall : Cond) ∈ cd_WA := List.mem_filter.mpr ⟨List.mem_append_right _ (List.mem_of_getElem? (i := 258) (by decide +kernel)), by decide +kernel⟩
theorem mw_127 : (.code y_CarDesk_changeByCall b_CarDesk_changeByCall 6 none : Cond) ∈ cd_WA := List.mem_filter.mpr ⟨List.mem_append_right _ (List.mem_of_getElem? (i := 269) (by decide +kernel)), by decide +kernel⟩
theorem mw_128 : (.instanceMethod y_CarDesk_changeByCall : Cond) ∈ cd_WA := List.mem_filter.mpr ⟨List.mem_append_right _ (List.mem_of_getElem? (i := 268) (by decide +kernel)), by decide +kernel⟩
theorem mw_129 : (.selects R_CarDesk y_CarDesk_changeByCall y_CarDesk_changeByCall : Cond) ∈ cd_WA := List.mem_filter.mpr ⟨List.mem_append_left _ (List.mem_of_getElem? (i := 26) (by decide +kernel)), by decide +kernel⟩
theorem mw_130 : (.methodLink R_CarDesk 138 y_CarDesk_changeByCall : Cond) ∈ cd_WA := List.mem_filter.mpr ⟨List.mem_append_right _ (List.mem_of_getElem? (i := 266) (by decide +kernel)), by decide +kernel⟩
theorem mw_131 : (.code y_CarDesk_tellFailed b_CarDesk_tellFailed 4 none : Cond) ∈ cd_WA := List.mem_filter.mpr ⟨List.mem_append_right _ (List.mem_of_getElem? (i := 257) (by decide +kernel)), by decide +kernel⟩
theorem mw_132 : (.instanceMethod y_CarDesk_tellFailed : Cond) ∈ cd_WA := List.mem_filter.mpr ⟨List.mem_append_right _ (List.mem_of_getElem? (i := 256) (by decide +kernel)), by decide +kernel⟩
theorem mw_133 : (.selects R_CarDesk y_CarDesk_tellFailed y_CarDesk_tellFailed : Cond) ∈ cd_WA := List.mem_filter.mpr ⟨List.mem_append_left _ (List.mem_of_getElem? (i := 23) (by decide +kernel)), by decide +kernel⟩
theorem mw_134 : (.methodLink R_CarDesk 130 y_CarDesk_tellFailed : Cond) ∈ cd_WA := List.mem_filter.mpr ⟨List.mem_append_right _ (List.mem_of_getElem? (i := 254) (by decide +kernel)), by decide +kernel⟩
theorem mw_135 : (.fieldLink R_CarDesk 57 "CarDesk" "thingsMade" "I" : Cond) ∈ cd_WA := List.mem_filter.mpr ⟨List.mem_append_right _ (List.mem_of_getElem? (i := 63) (by decide +kernel)), by decide +kernel⟩
theorem mw_136 : (.code y_Thing_leave b_Thing_leave 1 none : Cond) ∈ cd_WA := List.mem_filter.mpr ⟨List.mem_append_right _ (List.mem_of_getElem? (i := 298) (by decide +kernel)), by decide +kernel⟩
theorem mw_137 : (.instanceMethod y_Thing_leave : Cond) ∈ cd_WA := List.mem_filter.mpr ⟨List.mem_append_right _ (List.mem_of_getElem? (i := 297) (by decide +kernel)), by decide +kernel⟩
theorem mw_138 : (.selects R_Thing y_Thing_leave y_Thing_leave : Cond) ∈ cd_WA := List.mem_filter.mpr ⟨List.mem_append_left _ (List.mem_of_getElem? (i := 30) (by decide +kernel)), by decide +kernel⟩
theorem mw_139 : (.code y_CarDesk_isKind b_CarDesk_isKind 1 (some .boolean) : Cond) ∈ cd_WA := List.mem_filter.mpr ⟨List.mem_append_right _ (List.mem_of_getElem? (i := 136) (by decide +kernel)), by decide +kernel⟩
theorem mw_140 : (.static y_CarDesk_isKind : Cond) ∈ cd_WA := List.mem_filter.mpr ⟨List.mem_append_right _ (List.mem_of_getElem? (i := 135) (by decide +kernel)), by decide +kernel⟩
theorem mw_141 : (.methodLink R_CarDesk 93 y_CarDesk_isKind : Cond) ∈ cd_WA := List.mem_filter.mpr ⟨List.mem_append_right _ (List.mem_of_getElem? (i := 134) (by decide +kernel)), by decide +kernel⟩
theorem mw_142 : (.constantLong R_CarDesk 156 (-4) : Cond) ∈ cd_WA := List.mem_filter.mpr ⟨List.mem_append_right _ (List.mem_of_getElem? (i := 307) (by decide +kernel)), by decide +kernel⟩
theorem mw_143 : (.code y_CarDesk_canBeMade b_CarDesk_canBeMade 4 (some .boolean) : Cond) ∈ cd_WA := List.mem_filter.mpr ⟨List.mem_append_right _ (List.mem_of_getElem? (i := 140) (by decide +kernel)), by decide +kernel⟩
theorem mw_144 : (.instanceMethod y_CarDesk_canBeMade : Cond) ∈ cd_WA := List.mem_filter.mpr ⟨List.mem_append_right _ (List.mem_of_getElem? (i := 139) (by decide +kernel)), by decide +kernel⟩
theorem mw_145 : (.selects R_CarDesk y_CarDesk_canBeMade y_CarDesk_canBeMade : Cond) ∈ cd_WA := List.mem_filter.mpr ⟨List.mem_append_left _ (List.mem_of_getElem? (i := 4) (by decide +kernel)), by decide +kernel⟩
theorem mw_146 : (.methodLink R_CarDesk 96 y_CarDesk_canBeMade : Cond) ∈ cd_WA := List.mem_filter.mpr ⟨List.mem_append_right _ (List.mem_of_getElem? (i := 137) (by decide +kernel)), by decide +kernel⟩
theorem mw_147 : (.code y_Shelf_isFull b_Shelf_isFull 1 (some .boolean) : Cond) ∈ cd_WA := List.mem_filter.mpr ⟨List.mem_append_right _ (List.mem_of_getElem? (i := 156) (by decide +kernel)), by decide +kernel⟩
theorem mw_148 : (.instanceMethod y_Shelf_isFull : Cond) ∈ cd_WA := List.mem_filter.mpr ⟨List.mem_append_right _ (List.mem_of_getElem? (i := 155) (by decide +kernel)), by decide +kernel⟩
theorem mw_149 : (.selects R_Shelf y_Shelf_isFull y_Shelf_isFull : Cond) ∈ cd_WA := List.mem_filter.mpr ⟨List.mem_append_left _ (List.mem_of_getElem? (i := 8) (by decide +kernel)), by decide +kernel⟩
theorem mw_150 : (.code y_CarDesk_sourceOf b_CarDesk_sourceOf 2 (some (.object "CarDesk$Thing")) : Cond) ∈ cd_WA := List.mem_filter.mpr ⟨List.mem_append_right _ (List.mem_of_getElem? (i := 160) (by decide +kernel)), by decide +kernel⟩
theorem mw_151 : (.instanceMethod y_CarDesk_sourceOf : Cond) ∈ cd_WA := List.mem_filter.mpr ⟨List.mem_append_right _ (List.mem_of_getElem? (i := 159) (by decide +kernel)), by decide +kernel⟩
theorem mw_152 : (.selects R_CarDesk y_CarDesk_sourceOf y_CarDesk_sourceOf : Cond) ∈ cd_WA := List.mem_filter.mpr ⟨List.mem_append_left _ (List.mem_of_getElem? (i := 9) (by decide +kernel)), by decide +kernel⟩
theorem mw_153 : (.methodLink R_CarDesk 100 y_CarDesk_sourceOf : Cond) ∈ cd_WA := List.mem_filter.mpr ⟨List.mem_append_right _ (List.mem_of_getElem? (i := 157) (by decide +kernel)), by decide +kernel⟩
theorem mw_154 : (.classLink R_CarDesk 104 R_Thing : Cond) ∈ cd_WA := List.mem_filter.mpr ⟨List.mem_append_right _ (List.mem_of_getElem? (i := 161) (by decide +kernel)), by decide +kernel⟩
theorem mw_155 : (.instantiable R_Thing 5 : Cond) ∈ cd_WA := List.mem_filter.mpr ⟨List.mem_append_right _ (List.mem_of_getElem? (i := 162) (by decide +kernel)), by decide +kernel⟩
theorem mw_156 : (.code y_CarDesk_firstState b_CarDesk_firstState 3 (some .long) : Cond) ∈ cd_WA := List.mem_filter.mpr ⟨List.mem_append_right _ (List.mem_of_getElem? (i := 166) (by decide +kernel)), by decide +kernel⟩
theorem mw_157 : (.instanceMethod y_CarDesk_firstState : Cond) ∈ cd_WA := List.mem_filter.mpr ⟨List.mem_append_right _ (List.mem_of_getElem? (i := 165) (by decide +kernel)), by decide +kernel⟩
theorem mw_158 : (.selects R_CarDesk y_CarDesk_firstState y_CarDesk_firstState : Cond) ∈ cd_WA := List.mem_filter.mpr ⟨List.mem_append_left _ (List.mem_of_getElem? (i := 10) (by decide +kernel)), by decide +kernel⟩
theorem mw_159 : (.methodLink R_CarDesk 106 y_CarDesk_firstState : Cond) ∈ cd_WA := List.mem_filter.mpr ⟨List.mem_append_right _ (List.mem_of_getElem? (i := 163) (by decide +kernel)), by decide +kernel⟩
theorem mw_160 : (.code y_Thing_init b_Thing_init 4 none : Cond) ∈ cd_WA := List.mem_filter.mpr ⟨List.mem_append_right _ (List.mem_of_getElem? (i := 194) (by decide +kernel)), by decide +kernel⟩
theorem mw_161 : (.instanceMethod y_Thing_init : Cond) ∈ cd_WA := List.mem_filter.mpr ⟨List.mem_append_right _ (List.mem_of_getElem? (i := 193) (by decide +kernel)), by decide +kernel⟩
theorem mw_162 : (.code y_Shelf_put b_Shelf_put 2 none : Cond) ∈ cd_WA := List.mem_filter.mpr ⟨List.mem_append_right _ (List.mem_of_getElem? (i := 219) (by decide +kernel)), by decide +kernel⟩
theorem mw_163 : (.instanceMethod y_Shelf_put : Cond) ∈ cd_WA := List.mem_filter.mpr ⟨List.mem_append_right _ (List.mem_of_getElem? (i := 218) (by decide +kernel)), by decide +kernel⟩
theorem mw_164 : (.selects R_Shelf y_Shelf_put y_Shelf_put : Cond) ∈ cd_WA := List.mem_filter.mpr ⟨List.mem_append_left _ (List.mem_of_getElem? (i := 16) (by decide +kernel)), by decide +kernel⟩
theorem mw_165 : (.code y_CarDesk_emptyTrayOf b_CarDesk_emptyTrayOf 3 none : Cond) ∈ cd_WA := List.mem_filter.mpr ⟨List.mem_append_right _ (List.mem_of_getElem? (i := 223) (by decide +kernel)), by decide +kernel⟩
theorem mw_166 : (.instanceMethod y_CarDesk_emptyTrayOf : Cond) ∈ cd_WA := List.mem_filter.mpr ⟨List.mem_append_right _ (List.mem_of_getElem? (i := 222) (by decide +kernel)), by decide +kernel⟩
theorem mw_167 : (.selects R_CarDesk y_CarDesk_emptyTrayOf y_CarDesk_emptyTrayOf : Cond) ∈ cd_WA := List.mem_filter.mpr ⟨List.mem_append_left _ (List.mem_of_getElem? (i := 17) (by decide +kernel)), by decide +kernel⟩
theorem mw_168 : (.methodLink R_CarDesk 116 y_CarDesk_emptyTrayOf : Cond) ∈ cd_WA := List.mem_filter.mpr ⟨List.mem_append_right _ (List.mem_of_getElem? (i := 220) (by decide +kernel)), by decide +kernel⟩
theorem nn_0 : (.fieldLinkNest R_Shelf 21 "CarDesk$Thing" "there" "Z" "CarDesk" : Cond) ∈ cd_nest := List.mem_of_getElem? (i := 0) (by decide +kernel)
theorem nn_1 : (.fieldLinkNest R_Shelf 29 "CarDesk$Thing" "state" "J" "CarDesk" : Cond) ∈ cd_nest := List.mem_of_getElem? (i := 1) (by decide +kernel)
theorem nn_2 : (.methodLinkNest R_CarDesk 165 y_Shelf_newest "CarDesk" : Cond) ∈ cd_nest := List.mem_of_getElem? (i := 2) (by decide +kernel)
theorem nn_3 : (.fieldLinkNest R_CarDesk 82 "CarDesk$Tray" "count" "I" "CarDesk" : Cond) ∈ cd_nest := List.mem_of_getElem? (i := 3) (by decide +kernel)
theorem nn_4 : (.methodLinkNest R_CarDesk 169 y_Tray_hash "CarDesk" : Cond) ∈ cd_nest := List.mem_of_getElem? (i := 4) (by decide +kernel)
theorem nn_5 : (.fieldLinkNest R_CarDesk 173 "CarDesk$Thing" "state" "J" "CarDesk" : Cond) ∈ cd_nest := List.mem_of_getElem? (i := 5) (by decide +kernel)
theorem nn_6 : (.methodLinkNest R_CarDesk 179 y_Tray_sum "CarDesk" : Cond) ∈ cd_nest := List.mem_of_getElem? (i := 6) (by decide +kernel)
theorem nn_7 : (.methodLinkNest R_CarDesk 182 y_Tray_changes "CarDesk" : Cond) ∈ cd_nest := List.mem_of_getElem? (i := 7) (by decide +kernel)
theorem nn_8 : (.methodLinkNest R_CarDesk 185 y_Tray_checksum "CarDesk" : Cond) ∈ cd_nest := List.mem_of_getElem? (i := 8) (by decide +kernel)
theorem nn_9 : (.methodLinkNest R_CarDesk 152 y_Shelf_countThere "CarDesk" : Cond) ∈ cd_nest := List.mem_of_getElem? (i := 9) (by decide +kernel)
theorem nn_10 : (.methodLinkNest R_CarDesk 188 y_Tray_empty "CarDesk" : Cond) ∈ cd_nest := List.mem_of_getElem? (i := 10) (by decide +kernel)
theorem nn_11 : (.methodLinkNest R_CarDesk 193 y_Shelf_at "CarDesk" : Cond) ∈ cd_nest := List.mem_of_getElem? (i := 11) (by decide +kernel)
theorem nn_12 : (.fieldLinkNest R_CarDesk 202 "CarDesk$Thing" "turns" "I" "CarDesk" : Cond) ∈ cd_nest := List.mem_of_getElem? (i := 12) (by decide +kernel)
theorem nn_13 : (.methodLinkNest R_CarDesk 146 y_Thing_isInUse "CarDesk" : Cond) ∈ cd_nest := List.mem_of_getElem? (i := 13) (by decide +kernel)
theorem nn_14 : (.methodLinkNest R_CarDesk 220 y_Thing_stateOfSource "CarDesk" : Cond) ∈ cd_nest := List.mem_of_getElem? (i := 14) (by decide +kernel)
theorem nn_15 : (.methodLinkNest R_CarDesk 223 y_Shelf_sumOfStates "CarDesk" : Cond) ∈ cd_nest := List.mem_of_getElem? (i := 15) (by decide +kernel)
theorem nn_16 : (.methodLinkNest R_CarDesk 205 y_Thing_comparedWith "CarDesk" : Cond) ∈ cd_nest := List.mem_of_getElem? (i := 16) (by decide +kernel)
theorem nn_17 : (.fieldLinkNest R_CarDesk 72 "CarDesk$Tray" "most" "I" "CarDesk" : Cond) ∈ cd_nest := List.mem_of_getElem? (i := 17) (by decide +kernel)
theorem nn_18 : (.methodLinkNest R_CarDesk 75 y_Tray_isFull "CarDesk" : Cond) ∈ cd_nest := List.mem_of_getElem? (i := 18) (by decide +kernel)
theorem nn_19 : (.methodLinkNest R_CarDesk 79 y_Tray_put "CarDesk" : Cond) ∈ cd_nest := List.mem_of_getElem? (i := 19) (by decide +kernel)
theorem nn_20 : (.methodLinkNest R_CarDesk 149 y_Thing_leave "CarDesk" : Cond) ∈ cd_nest := List.mem_of_getElem? (i := 20) (by decide +kernel)
theorem nn_21 : (.methodLinkNest R_CarDesk 99 y_Shelf_isFull "CarDesk" : Cond) ∈ cd_nest := List.mem_of_getElem? (i := 21) (by decide +kernel)
theorem nn_22 : (.methodLinkNest R_CarDesk 110 y_Thing_init "CarDesk" : Cond) ∈ cd_nest := List.mem_of_getElem? (i := 22) (by decide +kernel)
theorem nn_23 : (.methodLinkNest R_CarDesk 113 y_Shelf_put "CarDesk" : Cond) ∈ cd_nest := List.mem_of_getElem? (i := 23) (by decide +kernel)
theorem nn_24 : (.fieldLinkNest R_CarDesk 119 "CarDesk$Shelf" "made" "I" "CarDesk" : Cond) ∈ cd_nest := List.mem_of_getElem? (i := 24) (by decide +kernel)
theorem nn_25 : (.methodLinkNest R_CarDesk 9 y_Tray_init "CarDesk" : Cond) ∈ cd_nest := List.mem_of_getElem? (i := 25) (by decide +kernel)
theorem nn_26 : (.methodLinkNest R_CarDesk 63 y_Shelf_init "CarDesk" : Cond) ∈ cd_nest := List.mem_of_getElem? (i := 26) (by decide +kernel)
