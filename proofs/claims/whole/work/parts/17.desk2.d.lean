theorem d_CarDesk_firstState_0 : decode b_CarDesk_firstState 0 = .ok (.iload_n 1, 1) := by decide +kernel
theorem d_CarDesk_firstState_1 : decode b_CarDesk_firstState 1 = .ok (.tableswitch 88 0 4 #[35, 43, 56, 78, 80], 35) := by decide +kernel
theorem d_CarDesk_firstState_36 : decode b_CarDesk_firstState 36 = .ok (.aload_n 0, 1) := by decide +kernel
theorem d_CarDesk_firstState_37 : decode b_CarDesk_firstState 37 = .ok (.getfield 12, 3) := by decide +kernel
theorem d_CarDesk_firstState_40 : decode b_CarDesk_firstState 40 = .ok (.invokevirtual 169, 3) := by decide +kernel
theorem d_CarDesk_firstState_43 : decode b_CarDesk_firstState 43 = .ok (.lreturn, 1) := by decide +kernel
theorem d_CarDesk_firstState_44 : decode b_CarDesk_firstState 44 = .ok (.aload_n 2, 1) := by decide +kernel
theorem d_CarDesk_firstState_45 : decode b_CarDesk_firstState 45 = .ok (.ifnonnull 7, 3) := by decide +kernel
theorem d_CarDesk_firstState_48 : decode b_CarDesk_firstState 48 = .ok (.lconst 0, 1) := by decide +kernel
theorem d_CarDesk_firstState_49 : decode b_CarDesk_firstState 49 = .ok (.goto 7, 3) := by decide +kernel
theorem d_CarDesk_firstState_52 : decode b_CarDesk_firstState 52 = .ok (.aload_n 2, 1) := by decide +kernel
theorem d_CarDesk_firstState_53 : decode b_CarDesk_firstState 53 = .ok (.getfield 173, 3) := by decide +kernel
theorem d_CarDesk_firstState_56 : decode b_CarDesk_firstState 56 = .ok (.lreturn, 1) := by decide +kernel
theorem d_CarDesk_firstState_57 : decode b_CarDesk_firstState 57 = .ok (.ldc2_w 177, 3) := by decide +kernel
theorem d_CarDesk_firstState_60 : decode b_CarDesk_firstState 60 = .ok (.aload_n 0, 1) := by decide +kernel
theorem d_CarDesk_firstState_61 : decode b_CarDesk_firstState 61 = .ok (.getfield 18, 3) := by decide +kernel
theorem d_CarDesk_firstState_64 : decode b_CarDesk_firstState 64 = .ok (.invokevirtual 179, 3) := by decide +kernel
theorem d_CarDesk_firstState_67 : decode b_CarDesk_firstState 67 = .ok (.i2l, 1) := by decide +kernel
theorem d_CarDesk_firstState_68 : decode b_CarDesk_firstState 68 = .ok (.lmul, 1) := by decide +kernel
theorem d_CarDesk_firstState_69 : decode b_CarDesk_firstState 69 = .ok (.aload_n 0, 1) := by decide +kernel
theorem d_CarDesk_firstState_70 : decode b_CarDesk_firstState 70 = .ok (.getfield 18, 3) := by decide +kernel
theorem d_CarDesk_firstState_73 : decode b_CarDesk_firstState 73 = .ok (.invokevirtual 182, 3) := by decide +kernel
theorem d_CarDesk_firstState_76 : decode b_CarDesk_firstState 76 = .ok (.i2l, 1) := by decide +kernel
theorem d_CarDesk_firstState_77 : decode b_CarDesk_firstState 77 = .ok (.ladd, 1) := by decide +kernel
theorem d_CarDesk_firstState_78 : decode b_CarDesk_firstState 78 = .ok (.lreturn, 1) := by decide +kernel
theorem d_CarDesk_firstState_79 : decode b_CarDesk_firstState 79 = .ok (.lconst 0, 1) := by decide +kernel
theorem d_CarDesk_firstState_80 : decode b_CarDesk_firstState 80 = .ok (.lreturn, 1) := by decide +kernel
theorem d_CarDesk_firstState_81 : decode b_CarDesk_firstState 81 = .ok (.aload_n 0, 1) := by decide +kernel
theorem d_CarDesk_firstState_82 : decode b_CarDesk_firstState 82 = .ok (.getfield 21, 3) := by decide +kernel
theorem d_CarDesk_firstState_85 : decode b_CarDesk_firstState 85 = .ok (.invokevirtual 185, 3) := by decide +kernel
theorem d_CarDesk_firstState_88 : decode b_CarDesk_firstState 88 = .ok (.lreturn, 1) := by decide +kernel
theorem d_CarDesk_firstState_89 : decode b_CarDesk_firstState 89 = .ok (.aload_n 0, 1) := by decide +kernel
theorem d_CarDesk_firstState_90 : decode b_CarDesk_firstState 90 = .ok (.getfield 26, 3) := by decide +kernel
theorem d_CarDesk_firstState_93 : decode b_CarDesk_firstState 93 = .ok (.iconst 1, 1) := by decide +kernel
theorem d_CarDesk_firstState_94 : decode b_CarDesk_firstState 94 = .ok (.aaload, 1) := by decide +kernel
theorem d_CarDesk_firstState_95 : decode b_CarDesk_firstState 95 = .ok (.invokevirtual 152, 3) := by decide +kernel
theorem d_CarDesk_firstState_98 : decode b_CarDesk_firstState 98 = .ok (.i2l, 1) := by decide +kernel
theorem d_CarDesk_firstState_99 : decode b_CarDesk_firstState 99 = .ok (.lreturn, 1) := by decide +kernel

theorem d_CarDesk_emptyTrayOf_0 : decode b_CarDesk_emptyTrayOf 0 = .ok (.aload_n 0, 1) := by decide +kernel
theorem d_CarDesk_emptyTrayOf_1 : decode b_CarDesk_emptyTrayOf 1 = .ok (.iload_n 1, 1) := by decide +kernel
theorem d_CarDesk_emptyTrayOf_2 : decode b_CarDesk_emptyTrayOf 2 = .ok (.invokevirtual 162, 3) := by decide +kernel
theorem d_CarDesk_emptyTrayOf_5 : decode b_CarDesk_emptyTrayOf 5 = .ok (.astore_n 2, 1) := by decide +kernel
theorem d_CarDesk_emptyTrayOf_6 : decode b_CarDesk_emptyTrayOf 6 = .ok (.aload_n 2, 1) := by decide +kernel
theorem d_CarDesk_emptyTrayOf_7 : decode b_CarDesk_emptyTrayOf 7 = .ok (.ifnull 7, 3) := by decide +kernel
theorem d_CarDesk_emptyTrayOf_10 : decode b_CarDesk_emptyTrayOf 10 = .ok (.aload_n 2, 1) := by decide +kernel
theorem d_CarDesk_emptyTrayOf_11 : decode b_CarDesk_emptyTrayOf 11 = .ok (.invokevirtual 188, 3) := by decide +kernel
theorem d_CarDesk_emptyTrayOf_14 : decode b_CarDesk_emptyTrayOf 14 = .ok (.return_, 1) := by decide +kernel

theorem d_CarDesk_thingOf_0 : decode b_CarDesk_thingOf 0 = .ok (.lload_n 1, 1) := by decide +kernel
theorem d_CarDesk_thingOf_1 : decode b_CarDesk_thingOf 1 = .ok (.lconst 0, 1) := by decide +kernel
theorem d_CarDesk_thingOf_2 : decode b_CarDesk_thingOf 2 = .ok (.lcmp, 1) := by decide +kernel
theorem d_CarDesk_thingOf_3 : decode b_CarDesk_thingOf 3 = .ok (.ifCond .lt 11, 3) := by decide +kernel
theorem d_CarDesk_thingOf_6 : decode b_CarDesk_thingOf 6 = .ok (.lload_n 1, 1) := by decide +kernel
theorem d_CarDesk_thingOf_7 : decode b_CarDesk_thingOf 7 = .ok (.ldc2_w 191, 3) := by decide +kernel
theorem d_CarDesk_thingOf_10 : decode b_CarDesk_thingOf 10 = .ok (.lcmp, 1) := by decide +kernel
theorem d_CarDesk_thingOf_11 : decode b_CarDesk_thingOf 11 = .ok (.ifCond .lt 5, 3) := by decide +kernel
theorem d_CarDesk_thingOf_14 : decode b_CarDesk_thingOf 14 = .ok (.aconst_null, 1) := by decide +kernel
theorem d_CarDesk_thingOf_15 : decode b_CarDesk_thingOf 15 = .ok (.areturn, 1) := by decide +kernel
theorem d_CarDesk_thingOf_16 : decode b_CarDesk_thingOf 16 = .ok (.lload_n 1, 1) := by decide +kernel
theorem d_CarDesk_thingOf_17 : decode b_CarDesk_thingOf 17 = .ok (.l2i, 1) := by decide +kernel
theorem d_CarDesk_thingOf_18 : decode b_CarDesk_thingOf 18 = .ok (.istore_n 3, 1) := by decide +kernel
theorem d_CarDesk_thingOf_19 : decode b_CarDesk_thingOf 19 = .ok (.aload_n 0, 1) := by decide +kernel
theorem d_CarDesk_thingOf_20 : decode b_CarDesk_thingOf 20 = .ok (.getfield 26, 3) := by decide +kernel
theorem d_CarDesk_thingOf_23 : decode b_CarDesk_thingOf 23 = .ok (.iload_n 3, 1) := by decide +kernel
theorem d_CarDesk_thingOf_24 : decode b_CarDesk_thingOf 24 = .ok (.bipush 64, 2) := by decide +kernel
theorem d_CarDesk_thingOf_26 : decode b_CarDesk_thingOf 26 = .ok (.idiv, 1) := by decide +kernel
theorem d_CarDesk_thingOf_27 : decode b_CarDesk_thingOf 27 = .ok (.aaload, 1) := by decide +kernel
theorem d_CarDesk_thingOf_28 : decode b_CarDesk_thingOf 28 = .ok (.iload_n 3, 1) := by decide +kernel
theorem d_CarDesk_thingOf_29 : decode b_CarDesk_thingOf 29 = .ok (.bipush 64, 2) := by decide +kernel
theorem d_CarDesk_thingOf_31 : decode b_CarDesk_thingOf 31 = .ok (.irem, 1) := by decide +kernel
theorem d_CarDesk_thingOf_32 : decode b_CarDesk_thingOf 32 = .ok (.iconst 1, 1) := by decide +kernel
theorem d_CarDesk_thingOf_33 : decode b_CarDesk_thingOf 33 = .ok (.isub, 1) := by decide +kernel
theorem d_CarDesk_thingOf_34 : decode b_CarDesk_thingOf 34 = .ok (.invokevirtual 193, 3) := by decide +kernel
theorem d_CarDesk_thingOf_37 : decode b_CarDesk_thingOf 37 = .ok (.areturn, 1) := by decide +kernel

theorem d_CarDesk_thingForCall_0 : decode b_CarDesk_thingForCall 0 = .ok (.iload_n 1, 1) := by decide +kernel
theorem d_CarDesk_thingForCall_1 : decode b_CarDesk_thingForCall 1 = .ok (.invokestatic 85, 3) := by decide +kernel
theorem d_CarDesk_thingForCall_4 : decode b_CarDesk_thingForCall 4 = .ok (.ifCond .eq 17, 3) := by decide +kernel
theorem d_CarDesk_thingForCall_7 : decode b_CarDesk_thingForCall 7 = .ok (.lload_n 2, 1) := by decide +kernel
theorem d_CarDesk_thingForCall_8 : decode b_CarDesk_thingForCall 8 = .ok (.ldc2_w 196, 3) := by decide +kernel
theorem d_CarDesk_thingForCall_11 : decode b_CarDesk_thingForCall 11 = .ok (.ldiv, 1) := by decide +kernel
theorem d_CarDesk_thingForCall_12 : decode b_CarDesk_thingForCall 12 = .ok (.iload_n 1, 1) := by decide +kernel
theorem d_CarDesk_thingForCall_13 : decode b_CarDesk_thingForCall 13 = .ok (.bipush 6, 2) := by decide +kernel
theorem d_CarDesk_thingForCall_15 : decode b_CarDesk_thingForCall 15 = .ok (.irem, 1) := by decide +kernel
theorem d_CarDesk_thingForCall_16 : decode b_CarDesk_thingForCall 16 = .ok (.i2l, 1) := by decide +kernel
theorem d_CarDesk_thingForCall_17 : decode b_CarDesk_thingForCall 17 = .ok (.lcmp, 1) := by decide +kernel
theorem d_CarDesk_thingForCall_18 : decode b_CarDesk_thingForCall 18 = .ok (.ifCond .eq 5, 3) := by decide +kernel
theorem d_CarDesk_thingForCall_21 : decode b_CarDesk_thingForCall 21 = .ok (.aconst_null, 1) := by decide +kernel
theorem d_CarDesk_thingForCall_22 : decode b_CarDesk_thingForCall 22 = .ok (.areturn, 1) := by decide +kernel
theorem d_CarDesk_thingForCall_23 : decode b_CarDesk_thingForCall 23 = .ok (.aload_n 0, 1) := by decide +kernel
theorem d_CarDesk_thingForCall_24 : decode b_CarDesk_thingForCall 24 = .ok (.lload_n 2, 1) := by decide +kernel
theorem d_CarDesk_thingForCall_25 : decode b_CarDesk_thingForCall 25 = .ok (.invokevirtual 142, 3) := by decide +kernel
theorem d_CarDesk_thingForCall_28 : decode b_CarDesk_thingForCall 28 = .ok (.areturn, 1) := by decide +kernel

