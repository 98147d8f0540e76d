abbrev b_Model_init : ByteArray := prog_6_method_1_code
def y_Model_init : MethodName := ⟨R_Model, "<init>", "()V"⟩
theorem mw_251 : (.methodLink R_Tray 3 objectInit : Cond) ∈ cd_WA := List.mem_filter.mpr ⟨List.mem_append_right _ (List.mem_of_getElem? (i := 19) (by decide +kernel)), by decide +kernel⟩
theorem mw_252 : (.arrayClass .int : Cond) ∈ cd_WA := List.mem_filter.mpr ⟨List.mem_append_right _ (List.mem_of_getElem? (i := 32) (by decide +kernel)), by decide +kernel⟩
theorem mw_253 : (.fieldLink R_Tray 19 "CarDesk$Tray" "most" "I" : Cond) ∈ cd_WA := List.mem_filter.mpr ⟨List.mem_append_right _ (List.mem_of_getElem? (i := 20) (by decide +kernel)), by decide +kernel⟩
theorem mw_254 : (.methodLink R_Shelf 3 objectInit : Cond) ∈ cd_WA := List.mem_filter.mpr ⟨List.mem_append_right _ (List.mem_of_getElem? (i := 39) (by decide +kernel)), by decide +kernel⟩
theorem mw_255 : (.classLink R_Shelf 9 R_Thing : Cond) ∈ cd_WA := List.mem_filter.mpr ⟨List.mem_append_right _ (List.mem_of_getElem? (i := 40) (by decide +kernel)), by decide +kernel⟩
theorem mw_256 : (.methodLink R_CarDesk 1 objectInit : Cond) ∈ cd_WA := List.mem_filter.mpr ⟨List.mem_append_right _ (List.mem_of_getElem? (i := 11) (by decide +kernel)), by decide +kernel⟩
theorem mw_257 : (.classLink R_CarDesk 7 R_Tray : Cond) ∈ cd_WA := List.mem_filter.mpr ⟨List.mem_append_right _ (List.mem_of_getElem? (i := 14) (by decide +kernel)), by decide +kernel⟩
theorem mw_258 : (.instantiable R_Tray 3 : Cond) ∈ cd_WA := List.mem_filter.mpr ⟨List.mem_append_right _ (List.mem_of_getElem? (i := 15) (by decide +kernel)), by decide +kernel⟩
theorem mw_259 : (.code y_Tray_init b_Tray_init 2 none : Cond) ∈ cd_WA := List.mem_filter.mpr ⟨List.mem_append_right _ (List.mem_of_getElem? (i := 18) (by decide +kernel)), by decide +kernel⟩
theorem mw_260 : (.instanceMethod y_Tray_init : Cond) ∈ cd_WA := List.mem_filter.mpr ⟨List.mem_append_right _ (List.mem_of_getElem? (i := 17) (by decide +kernel)), by decide +kernel⟩
theorem mw_261 : (.classLink R_CarDesk 24 R_Shelf : Cond) ∈ cd_WA := List.mem_filter.mpr ⟨List.mem_append_right _ (List.mem_of_getElem? (i := 33) (by decide +kernel)), by decide +kernel⟩
theorem mw_262 : (.arrayClass .long : Cond) ∈ cd_WA := List.mem_filter.mpr ⟨List.mem_append_right _ (List.mem_of_getElem? (i := 50) (by decide +kernel)), by decide +kernel⟩
theorem mw_263 : (.instantiable R_Shelf 2 : Cond) ∈ cd_WA := List.mem_filter.mpr ⟨List.mem_append_right _ (List.mem_of_getElem? (i := 35) (by decide +kernel)), by decide +kernel⟩
theorem mw_264 : (.code y_Shelf_init b_Shelf_init 1 none : Cond) ∈ cd_WA := List.mem_filter.mpr ⟨List.mem_append_right _ (List.mem_of_getElem? (i := 38) (by decide +kernel)), by decide +kernel⟩
theorem mw_265 : (.instanceMethod y_Shelf_init : Cond) ∈ cd_WA := List.mem_filter.mpr ⟨List.mem_append_right _ (List.mem_of_getElem? (i := 37) (by decide +kernel)), by decide +kernel⟩
theorem mw_266 : (.methodLink R_Model 1 objectInit : Cond) ∈ cd_WA := List.mem_filter.mpr ⟨List.mem_append_right _ (List.mem_of_getElem? (i := 313) (by decide +kernel)), by decide +kernel⟩
theorem mw_267 : (.arrayClass .boolean : Cond) ∈ cd_WA := List.mem_filter.mpr ⟨List.mem_append_right _ (List.mem_of_getElem? (i := 375) (by decide +kernel)), by decide +kernel⟩
theorem d_Tray_init_0 : decode b_Tray_init 0 = .ok (.aload_n 0, 1) := by decide +kernel
theorem d_Tray_init_1 : decode b_Tray_init 1 = .ok (.invokespecial 3, 3) := by decide +kernel
theorem d_Tray_init_4 : decode b_Tray_init 4 = .ok (.aload_n 0, 1) := by decide +kernel
theorem d_Tray_init_5 : decode b_Tray_init 5 = .ok (.sipush 200, 3) := by decide +kernel
theorem d_Tray_init_8 : decode b_Tray_init 8 = .ok (.newarray .int, 2) := by decide +kernel
theorem d_Tray_init_10 : decode b_Tray_init 10 = .ok (.putfield 9, 3) := by decide +kernel
theorem d_Tray_init_13 : decode b_Tray_init 13 = .ok (.aload_n 0, 1) := by decide +kernel
theorem d_Tray_init_14 : decode b_Tray_init 14 = .ok (.iconst 0, 1) := by decide +kernel
theorem d_Tray_init_15 : decode b_Tray_init 15 = .ok (.putfield 15, 3) := by decide +kernel
theorem d_Tray_init_18 : decode b_Tray_init 18 = .ok (.aload_n 0, 1) := by decide +kernel
theorem d_Tray_init_19 : decode b_Tray_init 19 = .ok (.iload_n 1, 1) := by decide +kernel
theorem d_Tray_init_20 : decode b_Tray_init 20 = .ok (.putfield 19, 3) := by decide +kernel
theorem d_Tray_init_23 : decode b_Tray_init 23 = .ok (.return_, 1) := by decide +kernel

theorem d_Shelf_init_0 : decode b_Shelf_init 0 = .ok (.aload_n 0, 1) := by decide +kernel
theorem d_Shelf_init_1 : decode b_Shelf_init 1 = .ok (.invokespecial 3, 3) := by decide +kernel
theorem d_Shelf_init_4 : decode b_Shelf_init 4 = .ok (.aload_n 0, 1) := by decide +kernel
theorem d_Shelf_init_5 : decode b_Shelf_init 5 = .ok (.bipush 20, 2) := by decide +kernel
theorem d_Shelf_init_7 : decode b_Shelf_init 7 = .ok (.anewarray 9, 3) := by decide +kernel
theorem d_Shelf_init_10 : decode b_Shelf_init 10 = .ok (.putfield 11, 3) := by decide +kernel
theorem d_Shelf_init_13 : decode b_Shelf_init 13 = .ok (.aload_n 0, 1) := by decide +kernel
theorem d_Shelf_init_14 : decode b_Shelf_init 14 = .ok (.iconst 0, 1) := by decide +kernel
theorem d_Shelf_init_15 : decode b_Shelf_init 15 = .ok (.putfield 17, 3) := by decide +kernel
theorem d_Shelf_init_18 : decode b_Shelf_init 18 = .ok (.return_, 1) := by decide +kernel

theorem d_CarDesk_init_0 : decode b_CarDesk_init 0 = .ok (.aload_n 0, 1) := by decide +kernel
theorem d_CarDesk_init_1 : decode b_CarDesk_init 1 = .ok (.invokespecial 1, 3) := by decide +kernel
theorem d_CarDesk_init_4 : decode b_CarDesk_init 4 = .ok (.aload_n 0, 1) := by decide +kernel
theorem d_CarDesk_init_5 : decode b_CarDesk_init 5 = .ok (.new 7, 3) := by decide +kernel
theorem d_CarDesk_init_8 : decode b_CarDesk_init 8 = .ok (.dup, 1) := by decide +kernel
theorem d_CarDesk_init_9 : decode b_CarDesk_init 9 = .ok (.bipush 127, 2) := by decide +kernel
theorem d_CarDesk_init_11 : decode b_CarDesk_init 11 = .ok (.invokespecial 9, 3) := by decide +kernel
theorem d_CarDesk_init_14 : decode b_CarDesk_init 14 = .ok (.putfield 12, 3) := by decide +kernel
theorem d_CarDesk_init_17 : decode b_CarDesk_init 17 = .ok (.aload_n 0, 1) := by decide +kernel
theorem d_CarDesk_init_18 : decode b_CarDesk_init 18 = .ok (.new 7, 3) := by decide +kernel
theorem d_CarDesk_init_21 : decode b_CarDesk_init 21 = .ok (.dup, 1) := by decide +kernel
theorem d_CarDesk_init_22 : decode b_CarDesk_init 22 = .ok (.iconst 1, 1) := by decide +kernel
theorem d_CarDesk_init_23 : decode b_CarDesk_init 23 = .ok (.invokespecial 9, 3) := by decide +kernel
theorem d_CarDesk_init_26 : decode b_CarDesk_init 26 = .ok (.putfield 18, 3) := by decide +kernel
theorem d_CarDesk_init_29 : decode b_CarDesk_init 29 = .ok (.aload_n 0, 1) := by decide +kernel
theorem d_CarDesk_init_30 : decode b_CarDesk_init 30 = .ok (.new 7, 3) := by decide +kernel
theorem d_CarDesk_init_33 : decode b_CarDesk_init 33 = .ok (.dup, 1) := by decide +kernel
theorem d_CarDesk_init_34 : decode b_CarDesk_init 34 = .ok (.sipush 255, 3) := by decide +kernel
theorem d_CarDesk_init_37 : decode b_CarDesk_init 37 = .ok (.invokespecial 9, 3) := by decide +kernel
theorem d_CarDesk_init_40 : decode b_CarDesk_init 40 = .ok (.putfield 21, 3) := by decide +kernel
theorem d_CarDesk_init_43 : decode b_CarDesk_init 43 = .ok (.aload_n 0, 1) := by decide +kernel
theorem d_CarDesk_init_44 : decode b_CarDesk_init 44 = .ok (.bipush 6, 2) := by decide +kernel
theorem d_CarDesk_init_46 : decode b_CarDesk_init 46 = .ok (.anewarray 24, 3) := by decide +kernel
theorem d_CarDesk_init_49 : decode b_CarDesk_init 49 = .ok (.putfield 26, 3) := by decide +kernel
theorem d_CarDesk_init_52 : decode b_CarDesk_init 52 = .ok (.aload_n 0, 1) := by decide +kernel
theorem d_CarDesk_init_53 : decode b_CarDesk_init 53 = .ok (.bipush 24, 2) := by decide +kernel
theorem d_CarDesk_init_55 : decode b_CarDesk_init 55 = .ok (.newarray .long, 2) := by decide +kernel
theorem d_CarDesk_init_57 : decode b_CarDesk_init 57 = .ok (.putfield 30, 3) := by decide +kernel
theorem d_CarDesk_init_60 : decode b_CarDesk_init 60 = .ok (.aload_n 0, 1) := by decide +kernel
theorem d_CarDesk_init_61 : decode b_CarDesk_init 61 = .ok (.bipush 24, 2) := by decide +kernel
theorem d_CarDesk_init_63 : decode b_CarDesk_init 63 = .ok (.newarray .int, 2) := by decide +kernel
theorem d_CarDesk_init_65 : decode b_CarDesk_init 65 = .ok (.putfield 34, 3) := by decide +kernel
theorem d_CarDesk_init_68 : decode b_CarDesk_init 68 = .ok (.aload_n 0, 1) := by decide +kernel
theorem d_CarDesk_init_69 : decode b_CarDesk_init 69 = .ok (.iconst 0, 1) := by decide +kernel
theorem d_CarDesk_init_70 : decode b_CarDesk_init 70 = .ok (.putfield 38, 3) := by decide +kernel
theorem d_CarDesk_init_73 : decode b_CarDesk_init 73 = .ok (.aload_n 0, 1) := by decide +kernel
theorem d_CarDesk_init_74 : decode b_CarDesk_init 74 = .ok (.iconst 0, 1) := by decide +kernel
theorem d_CarDesk_init_75 : decode b_CarDesk_init 75 = .ok (.putfield 42, 3) := by decide +kernel
theorem d_CarDesk_init_78 : decode b_CarDesk_init 78 = .ok (.aload_n 0, 1) := by decide +kernel
theorem d_CarDesk_init_79 : decode b_CarDesk_init 79 = .ok (.iconst 0, 1) := by decide +kernel
theorem d_CarDesk_init_80 : decode b_CarDesk_init 80 = .ok (.putfield 45, 3) := by decide +kernel
theorem d_CarDesk_init_83 : decode b_CarDesk_init 83 = .ok (.aload_n 0, 1) := by decide +kernel
theorem d_CarDesk_init_84 : decode b_CarDesk_init 84 = .ok (.iconst 0, 1) := by decide +kernel
theorem d_CarDesk_init_85 : decode b_CarDesk_init 85 = .ok (.putfield 48, 3) := by decide +kernel
theorem d_CarDesk_init_88 : decode b_CarDesk_init 88 = .ok (.aload_n 0, 1) := by decide +kernel
theorem d_CarDesk_init_89 : decode b_CarDesk_init 89 = .ok (.iconst 0, 1) := by decide +kernel
theorem d_CarDesk_init_90 : decode b_CarDesk_init 90 = .ok (.putfield 51, 3) := by decide +kernel
theorem d_CarDesk_init_93 : decode b_CarDesk_init 93 = .ok (.aload_n 0, 1) := by decide +kernel
theorem d_CarDesk_init_94 : decode b_CarDesk_init 94 = .ok (.iconst 0, 1) := by decide +kernel
theorem d_CarDesk_init_95 : decode b_CarDesk_init 95 = .ok (.putfield 54, 3) := by decide +kernel
theorem d_CarDesk_init_98 : decode b_CarDesk_init 98 = .ok (.aload_n 0, 1) := by decide +kernel
theorem d_CarDesk_init_99 : decode b_CarDesk_init 99 = .ok (.iconst 0, 1) := by decide +kernel
theorem d_CarDesk_init_100 : decode b_CarDesk_init 100 = .ok (.putfield 57, 3) := by decide +kernel
theorem d_CarDesk_init_103 : decode b_CarDesk_init 103 = .ok (.aload_n 0, 1) := by decide +kernel
theorem d_CarDesk_init_104 : decode b_CarDesk_init 104 = .ok (.iconst 0, 1) := by decide +kernel
theorem d_CarDesk_init_105 : decode b_CarDesk_init 105 = .ok (.putfield 60, 3) := by decide +kernel
theorem d_CarDesk_init_108 : decode b_CarDesk_init 108 = .ok (.iconst 0, 1) := by decide +kernel
theorem d_CarDesk_init_109 : decode b_CarDesk_init 109 = .ok (.istore_n 1, 1) := by decide +kernel
theorem d_CarDesk_init_110 : decode b_CarDesk_init 110 = .ok (.iload_n 1, 1) := by decide +kernel
theorem d_CarDesk_init_111 : decode b_CarDesk_init 111 = .ok (.bipush 6, 2) := by decide +kernel
theorem d_CarDesk_init_113 : decode b_CarDesk_init 113 = .ok (.if_icmp .ge 22, 3) := by decide +kernel
theorem d_CarDesk_init_116 : decode b_CarDesk_init 116 = .ok (.aload_n 0, 1) := by decide +kernel
theorem d_CarDesk_init_117 : decode b_CarDesk_init 117 = .ok (.getfield 26, 3) := by decide +kernel
theorem d_CarDesk_init_120 : decode b_CarDesk_init 120 = .ok (.iload_n 1, 1) := by decide +kernel
theorem d_CarDesk_init_121 : decode b_CarDesk_init 121 = .ok (.new 24, 3) := by decide +kernel
theorem d_CarDesk_init_124 : decode b_CarDesk_init 124 = .ok (.dup, 1) := by decide +kernel
theorem d_CarDesk_init_125 : decode b_CarDesk_init 125 = .ok (.invokespecial 63, 3) := by decide +kernel
theorem d_CarDesk_init_128 : decode b_CarDesk_init 128 = .ok (.aastore, 1) := by decide +kernel
theorem d_CarDesk_init_129 : decode b_CarDesk_init 129 = .ok (.iinc 1 1, 3) := by decide +kernel
theorem d_CarDesk_init_132 : decode b_CarDesk_init 132 = .ok (.goto (-22), 3) := by decide +kernel
theorem d_CarDesk_init_135 : decode b_CarDesk_init 135 = .ok (.return_, 1) := by decide +kernel

theorem d_Model_init_0 : decode b_Model_init 0 = .ok (.aload_n 0, 1) := by decide +kernel
theorem d_Model_init_1 : decode b_Model_init 1 = .ok (.invokespecial 1, 3) := by decide +kernel
theorem d_Model_init_4 : decode b_Model_init 4 = .ok (.aload_n 0, 1) := by decide +kernel
theorem d_Model_init_5 : decode b_Model_init 5 = .ok (.sipush 200, 3) := by decide +kernel
theorem d_Model_init_8 : decode b_Model_init 8 = .ok (.newarray .int, 2) := by decide +kernel
theorem d_Model_init_10 : decode b_Model_init 10 = .ok (.putfield 7, 3) := by decide +kernel
theorem d_Model_init_13 : decode b_Model_init 13 = .ok (.aload_n 0, 1) := by decide +kernel
theorem d_Model_init_14 : decode b_Model_init 14 = .ok (.sipush 200, 3) := by decide +kernel
theorem d_Model_init_17 : decode b_Model_init 17 = .ok (.newarray .int, 2) := by decide +kernel
theorem d_Model_init_19 : decode b_Model_init 19 = .ok (.putfield 13, 3) := by decide +kernel
theorem d_Model_init_22 : decode b_Model_init 22 = .ok (.aload_n 0, 1) := by decide +kernel
theorem d_Model_init_23 : decode b_Model_init 23 = .ok (.sipush 200, 3) := by decide +kernel
theorem d_Model_init_26 : decode b_Model_init 26 = .ok (.newarray .int, 2) := by decide +kernel
theorem d_Model_init_28 : decode b_Model_init 28 = .ok (.putfield 16, 3) := by decide +kernel
theorem d_Model_init_31 : decode b_Model_init 31 = .ok (.aload_n 0, 1) := by decide +kernel
theorem d_Model_init_32 : decode b_Model_init 32 = .ok (.iconst 3, 1) := by decide +kernel
theorem d_Model_init_33 : decode b_Model_init 33 = .ok (.newarray .int, 2) := by decide +kernel
theorem d_Model_init_35 : decode b_Model_init 35 = .ok (.putfield 19, 3) := by decide +kernel
theorem d_Model_init_38 : decode b_Model_init 38 = .ok (.aload_n 0, 1) := by decide +kernel
theorem d_Model_init_39 : decode b_Model_init 39 = .ok (.bipush 24, 2) := by decide +kernel
theorem d_Model_init_41 : decode b_Model_init 41 = .ok (.newarray .long, 2) := by decide +kernel
theorem d_Model_init_43 : decode b_Model_init 43 = .ok (.putfield 22, 3) := by decide +kernel
theorem d_Model_init_46 : decode b_Model_init 46 = .ok (.aload_n 0, 1) := by decide +kernel
theorem d_Model_init_47 : decode b_Model_init 47 = .ok (.bipush 24, 2) := by decide +kernel
theorem d_Model_init_49 : decode b_Model_init 49 = .ok (.newarray .int, 2) := by decide +kernel
theorem d_Model_init_51 : decode b_Model_init 51 = .ok (.putfield 26, 3) := by decide +kernel
theorem d_Model_init_54 : decode b_Model_init 54 = .ok (.aload_n 0, 1) := by decide +kernel
theorem d_Model_init_55 : decode b_Model_init 55 = .ok (.sipush 384, 3) := by decide +kernel
theorem d_Model_init_58 : decode b_Model_init 58 = .ok (.newarray .boolean, 2) := by decide +kernel
theorem d_Model_init_60 : decode b_Model_init 60 = .ok (.putfield 29, 3) := by decide +kernel
theorem d_Model_init_63 : decode b_Model_init 63 = .ok (.aload_n 0, 1) := by decide +kernel
theorem d_Model_init_64 : decode b_Model_init 64 = .ok (.sipush 384, 3) := by decide +kernel
theorem d_Model_init_67 : decode b_Model_init 67 = .ok (.newarray .long, 2) := by decide +kernel
theorem d_Model_init_69 : decode b_Model_init 69 = .ok (.putfield 33, 3) := by decide +kernel
theorem d_Model_init_72 : decode b_Model_init 72 = .ok (.aload_n 0, 1) := by decide +kernel
theorem d_Model_init_73 : decode b_Model_init 73 = .ok (.sipush 384, 3) := by decide +kernel
theorem d_Model_init_76 : decode b_Model_init 76 = .ok (.newarray .int, 2) := by decide +kernel
theorem d_Model_init_78 : decode b_Model_init 78 = .ok (.putfield 36, 3) := by decide +kernel
theorem d_Model_init_81 : decode b_Model_init 81 = .ok (.aload_n 0, 1) := by decide +kernel
theorem d_Model_init_82 : decode b_Model_init 82 = .ok (.sipush 384, 3) := by decide +kernel
theorem d_Model_init_85 : decode b_Model_init 85 = .ok (.newarray .int, 2) := by decide +kernel
theorem d_Model_init_87 : decode b_Model_init 87 = .ok (.putfield 39, 3) := by decide +kernel
theorem d_Model_init_90 : decode b_Model_init 90 = .ok (.aload_n 0, 1) := by decide +kernel
theorem d_Model_init_91 : decode b_Model_init 91 = .ok (.bipush 6, 2) := by decide +kernel
theorem d_Model_init_93 : decode b_Model_init 93 = .ok (.newarray .int, 2) := by decide +kernel
theorem d_Model_init_95 : decode b_Model_init 95 = .ok (.putfield 42, 3) := by decide +kernel
theorem d_Model_init_98 : decode b_Model_init 98 = .ok (.return_, 1) := by decide +kernel

