theorem d_CarDesk_refuse_0 : decode b_CarDesk_refuse 0 = .ok (.aload_n 0, 1) := by decide +kernel
theorem d_CarDesk_refuse_1 : decode b_CarDesk_refuse 1 = .ok (.dup, 1) := by decide +kernel
theorem d_CarDesk_refuse_2 : decode b_CarDesk_refuse 2 = .ok (.getfield 38, 3) := by decide +kernel
theorem d_CarDesk_refuse_5 : decode b_CarDesk_refuse 5 = .ok (.iconst 1, 1) := by decide +kernel
theorem d_CarDesk_refuse_6 : decode b_CarDesk_refuse 6 = .ok (.iadd, 1) := by decide +kernel
theorem d_CarDesk_refuse_7 : decode b_CarDesk_refuse 7 = .ok (.putfield 38, 3) := by decide +kernel
theorem d_CarDesk_refuse_10 : decode b_CarDesk_refuse 10 = .ok (.iload_n 1, 1) := by decide +kernel
theorem d_CarDesk_refuse_11 : decode b_CarDesk_refuse 11 = .ok (.ireturn, 1) := by decide +kernel

theorem d_CarDesk_tellFailed_0 : decode b_CarDesk_tellFailed 0 = .ok (.aload_n 0, 1) := by decide +kernel
theorem d_CarDesk_tellFailed_1 : decode b_CarDesk_tellFailed 1 = .ok (.dup, 1) := by decide +kernel
theorem d_CarDesk_tellFailed_2 : decode b_CarDesk_tellFailed 2 = .ok (.getfield 42, 3) := by decide +kernel
theorem d_CarDesk_tellFailed_5 : decode b_CarDesk_tellFailed 5 = .ok (.iconst 1, 1) := by decide +kernel
theorem d_CarDesk_tellFailed_6 : decode b_CarDesk_tellFailed 6 = .ok (.iadd, 1) := by decide +kernel
theorem d_CarDesk_tellFailed_7 : decode b_CarDesk_tellFailed 7 = .ok (.putfield 42, 3) := by decide +kernel
theorem d_CarDesk_tellFailed_10 : decode b_CarDesk_tellFailed 10 = .ok (.aload_n 0, 1) := by decide +kernel
theorem d_CarDesk_tellFailed_11 : decode b_CarDesk_tellFailed 11 = .ok (.iload_n 1, 1) := by decide +kernel
theorem d_CarDesk_tellFailed_12 : decode b_CarDesk_tellFailed 12 = .ok (.putfield 45, 3) := by decide +kernel
theorem d_CarDesk_tellFailed_15 : decode b_CarDesk_tellFailed 15 = .ok (.aload_n 0, 1) := by decide +kernel
theorem d_CarDesk_tellFailed_16 : decode b_CarDesk_tellFailed 16 = .ok (.iload_n 2, 1) := by decide +kernel
theorem d_CarDesk_tellFailed_17 : decode b_CarDesk_tellFailed 17 = .ok (.putfield 48, 3) := by decide +kernel
theorem d_CarDesk_tellFailed_20 : decode b_CarDesk_tellFailed 20 = .ok (.aload_n 0, 1) := by decide +kernel
theorem d_CarDesk_tellFailed_21 : decode b_CarDesk_tellFailed 21 = .ok (.iload_n 3, 1) := by decide +kernel
theorem d_CarDesk_tellFailed_22 : decode b_CarDesk_tellFailed 22 = .ok (.putfield 51, 3) := by decide +kernel
theorem d_CarDesk_tellFailed_25 : decode b_CarDesk_tellFailed 25 = .ok (.return_, 1) := by decide +kernel

theorem d_CarDesk_isKind_0 : decode b_CarDesk_isKind 0 = .ok (.iload_n 0, 1) := by decide +kernel
theorem d_CarDesk_isKind_1 : decode b_CarDesk_isKind 1 = .ok (.ifCond .lt 13, 3) := by decide +kernel
theorem d_CarDesk_isKind_4 : decode b_CarDesk_isKind 4 = .ok (.iload_n 0, 1) := by decide +kernel
theorem d_CarDesk_isKind_5 : decode b_CarDesk_isKind 5 = .ok (.bipush 6, 2) := by decide +kernel
theorem d_CarDesk_isKind_7 : decode b_CarDesk_isKind 7 = .ok (.if_icmp .ge 7, 3) := by decide +kernel
theorem d_CarDesk_isKind_10 : decode b_CarDesk_isKind 10 = .ok (.iconst 1, 1) := by decide +kernel
theorem d_CarDesk_isKind_11 : decode b_CarDesk_isKind 11 = .ok (.goto 4, 3) := by decide +kernel
theorem d_CarDesk_isKind_14 : decode b_CarDesk_isKind 14 = .ok (.iconst 0, 1) := by decide +kernel
theorem d_CarDesk_isKind_15 : decode b_CarDesk_isKind 15 = .ok (.ireturn, 1) := by decide +kernel

theorem d_CarDesk_isCall_0 : decode b_CarDesk_isCall 0 = .ok (.iload_n 0, 1) := by decide +kernel
theorem d_CarDesk_isCall_1 : decode b_CarDesk_isCall 1 = .ok (.ifCond .lt 13, 3) := by decide +kernel
theorem d_CarDesk_isCall_4 : decode b_CarDesk_isCall 4 = .ok (.iload_n 0, 1) := by decide +kernel
theorem d_CarDesk_isCall_5 : decode b_CarDesk_isCall 5 = .ok (.bipush 24, 2) := by decide +kernel
theorem d_CarDesk_isCall_7 : decode b_CarDesk_isCall 7 = .ok (.if_icmp .ge 7, 3) := by decide +kernel
theorem d_CarDesk_isCall_10 : decode b_CarDesk_isCall 10 = .ok (.iconst 1, 1) := by decide +kernel
theorem d_CarDesk_isCall_11 : decode b_CarDesk_isCall 11 = .ok (.goto 4, 3) := by decide +kernel
theorem d_CarDesk_isCall_14 : decode b_CarDesk_isCall 14 = .ok (.iconst 0, 1) := by decide +kernel
theorem d_CarDesk_isCall_15 : decode b_CarDesk_isCall 15 = .ok (.ireturn, 1) := by decide +kernel

theorem d_CarDesk_isArgument_0 : decode b_CarDesk_isArgument 0 = .ok (.lload_n 0, 1) := by decide +kernel
theorem d_CarDesk_isArgument_1 : decode b_CarDesk_isArgument 1 = .ok (.ldc2_w 158, 3) := by decide +kernel
theorem d_CarDesk_isArgument_4 : decode b_CarDesk_isArgument 4 = .ok (.lcmp, 1) := by decide +kernel
theorem d_CarDesk_isArgument_5 : decode b_CarDesk_isArgument 5 = .ok (.ifCond .lt 15, 3) := by decide +kernel
theorem d_CarDesk_isArgument_8 : decode b_CarDesk_isArgument 8 = .ok (.lload_n 0, 1) := by decide +kernel
theorem d_CarDesk_isArgument_9 : decode b_CarDesk_isArgument 9 = .ok (.ldc2_w 160, 3) := by decide +kernel
theorem d_CarDesk_isArgument_12 : decode b_CarDesk_isArgument 12 = .ok (.lcmp, 1) := by decide +kernel
theorem d_CarDesk_isArgument_13 : decode b_CarDesk_isArgument 13 = .ok (.ifCond .gt 7, 3) := by decide +kernel
theorem d_CarDesk_isArgument_16 : decode b_CarDesk_isArgument 16 = .ok (.iconst 1, 1) := by decide +kernel
theorem d_CarDesk_isArgument_17 : decode b_CarDesk_isArgument 17 = .ok (.goto 4, 3) := by decide +kernel
theorem d_CarDesk_isArgument_20 : decode b_CarDesk_isArgument 20 = .ok (.iconst 0, 1) := by decide +kernel
theorem d_CarDesk_isArgument_21 : decode b_CarDesk_isArgument 21 = .ok (.ireturn, 1) := by decide +kernel

theorem d_CarDesk_turnedLeft_0 : decode b_CarDesk_turnedLeft 0 = .ok (.lload_n 0, 1) := by decide +kernel
theorem d_CarDesk_turnedLeft_1 : decode b_CarDesk_turnedLeft 1 = .ok (.iload_n 2, 1) := by decide +kernel
theorem d_CarDesk_turnedLeft_2 : decode b_CarDesk_turnedLeft 2 = .ok (.lshl, 1) := by decide +kernel
theorem d_CarDesk_turnedLeft_3 : decode b_CarDesk_turnedLeft 3 = .ok (.lload_n 0, 1) := by decide +kernel
theorem d_CarDesk_turnedLeft_4 : decode b_CarDesk_turnedLeft 4 = .ok (.bipush 64, 2) := by decide +kernel
theorem d_CarDesk_turnedLeft_6 : decode b_CarDesk_turnedLeft 6 = .ok (.iload_n 2, 1) := by decide +kernel
theorem d_CarDesk_turnedLeft_7 : decode b_CarDesk_turnedLeft 7 = .ok (.isub, 1) := by decide +kernel
theorem d_CarDesk_turnedLeft_8 : decode b_CarDesk_turnedLeft 8 = .ok (.lushr, 1) := by decide +kernel
theorem d_CarDesk_turnedLeft_9 : decode b_CarDesk_turnedLeft 9 = .ok (.lor, 1) := by decide +kernel
theorem d_CarDesk_turnedLeft_10 : decode b_CarDesk_turnedLeft 10 = .ok (.lreturn, 1) := by decide +kernel

theorem d_CarDesk_trayOfSort_0 : decode b_CarDesk_trayOfSort 0 = .ok (.iload_n 1, 1) := by decide +kernel
theorem d_CarDesk_trayOfSort_1 : decode b_CarDesk_trayOfSort 1 = .ok (.tableswitch 42 0 2 #[27, 32, 37], 27) := by decide +kernel
theorem d_CarDesk_trayOfSort_28 : decode b_CarDesk_trayOfSort 28 = .ok (.aload_n 0, 1) := by decide +kernel
theorem d_CarDesk_trayOfSort_29 : decode b_CarDesk_trayOfSort 29 = .ok (.getfield 12, 3) := by decide +kernel
theorem d_CarDesk_trayOfSort_32 : decode b_CarDesk_trayOfSort 32 = .ok (.areturn, 1) := by decide +kernel
theorem d_CarDesk_trayOfSort_33 : decode b_CarDesk_trayOfSort 33 = .ok (.aload_n 0, 1) := by decide +kernel
theorem d_CarDesk_trayOfSort_34 : decode b_CarDesk_trayOfSort 34 = .ok (.getfield 18, 3) := by decide +kernel
theorem d_CarDesk_trayOfSort_37 : decode b_CarDesk_trayOfSort 37 = .ok (.areturn, 1) := by decide +kernel
theorem d_CarDesk_trayOfSort_38 : decode b_CarDesk_trayOfSort 38 = .ok (.aload_n 0, 1) := by decide +kernel
theorem d_CarDesk_trayOfSort_39 : decode b_CarDesk_trayOfSort 39 = .ok (.getfield 21, 3) := by decide +kernel
theorem d_CarDesk_trayOfSort_42 : decode b_CarDesk_trayOfSort 42 = .ok (.areturn, 1) := by decide +kernel
theorem d_CarDesk_trayOfSort_43 : decode b_CarDesk_trayOfSort 43 = .ok (.aconst_null, 1) := by decide +kernel
theorem d_CarDesk_trayOfSort_44 : decode b_CarDesk_trayOfSort 44 = .ok (.areturn, 1) := by decide +kernel

theorem d_CarDesk_trayOfKind_0 : decode b_CarDesk_trayOfKind 0 = .ok (.iload_n 1, 1) := by decide +kernel
theorem d_CarDesk_trayOfKind_1 : decode b_CarDesk_trayOfKind 1 = .ok (.tableswitch 50 0 4 #[35, 50, 40, 50, 45], 35) := by decide +kernel
theorem d_CarDesk_trayOfKind_36 : decode b_CarDesk_trayOfKind 36 = .ok (.aload_n 0, 1) := by decide +kernel
theorem d_CarDesk_trayOfKind_37 : decode b_CarDesk_trayOfKind 37 = .ok (.getfield 12, 3) := by decide +kernel
theorem d_CarDesk_trayOfKind_40 : decode b_CarDesk_trayOfKind 40 = .ok (.areturn, 1) := by decide +kernel
theorem d_CarDesk_trayOfKind_41 : decode b_CarDesk_trayOfKind 41 = .ok (.aload_n 0, 1) := by decide +kernel
theorem d_CarDesk_trayOfKind_42 : decode b_CarDesk_trayOfKind 42 = .ok (.getfield 18, 3) := by decide +kernel
theorem d_CarDesk_trayOfKind_45 : decode b_CarDesk_trayOfKind 45 = .ok (.areturn, 1) := by decide +kernel
theorem d_CarDesk_trayOfKind_46 : decode b_CarDesk_trayOfKind 46 = .ok (.aload_n 0, 1) := by decide +kernel
theorem d_CarDesk_trayOfKind_47 : decode b_CarDesk_trayOfKind 47 = .ok (.getfield 21, 3) := by decide +kernel
theorem d_CarDesk_trayOfKind_50 : decode b_CarDesk_trayOfKind 50 = .ok (.areturn, 1) := by decide +kernel
theorem d_CarDesk_trayOfKind_51 : decode b_CarDesk_trayOfKind 51 = .ok (.aconst_null, 1) := by decide +kernel
theorem d_CarDesk_trayOfKind_52 : decode b_CarDesk_trayOfKind 52 = .ok (.areturn, 1) := by decide +kernel

theorem d_CarDesk_canBeMade_0 : decode b_CarDesk_canBeMade 0 = .ok (.aload_n 0, 1) := by decide +kernel
theorem d_CarDesk_canBeMade_1 : decode b_CarDesk_canBeMade 1 = .ok (.iload_n 1, 1) := by decide +kernel
theorem d_CarDesk_canBeMade_2 : decode b_CarDesk_canBeMade 2 = .ok (.invokevirtual 162, 3) := by decide +kernel
theorem d_CarDesk_canBeMade_5 : decode b_CarDesk_canBeMade 5 = .ok (.astore_n 2, 1) := by decide +kernel
theorem d_CarDesk_canBeMade_6 : decode b_CarDesk_canBeMade 6 = .ok (.aload_n 2, 1) := by decide +kernel
theorem d_CarDesk_canBeMade_7 : decode b_CarDesk_canBeMade 7 = .ok (.ifnull 16, 3) := by decide +kernel
theorem d_CarDesk_canBeMade_10 : decode b_CarDesk_canBeMade 10 = .ok (.aload_n 2, 1) := by decide +kernel
theorem d_CarDesk_canBeMade_11 : decode b_CarDesk_canBeMade 11 = .ok (.getfield 82, 3) := by decide +kernel
theorem d_CarDesk_canBeMade_14 : decode b_CarDesk_canBeMade 14 = .ok (.ifCond .le 7, 3) := by decide +kernel
theorem d_CarDesk_canBeMade_17 : decode b_CarDesk_canBeMade 17 = .ok (.iconst 1, 1) := by decide +kernel
theorem d_CarDesk_canBeMade_18 : decode b_CarDesk_canBeMade 18 = .ok (.goto 4, 3) := by decide +kernel
theorem d_CarDesk_canBeMade_21 : decode b_CarDesk_canBeMade 21 = .ok (.iconst 0, 1) := by decide +kernel
theorem d_CarDesk_canBeMade_22 : decode b_CarDesk_canBeMade 22 = .ok (.ireturn, 1) := by decide +kernel
theorem d_CarDesk_canBeMade_23 : decode b_CarDesk_canBeMade 23 = .ok (.iload_n 1, 1) := by decide +kernel
theorem d_CarDesk_canBeMade_24 : decode b_CarDesk_canBeMade 24 = .ok (.iconst 1, 1) := by decide +kernel
theorem d_CarDesk_canBeMade_25 : decode b_CarDesk_canBeMade 25 = .ok (.if_icmp .ne 7, 3) := by decide +kernel
theorem d_CarDesk_canBeMade_28 : decode b_CarDesk_canBeMade 28 = .ok (.iconst 0, 1) := by decide +kernel
theorem d_CarDesk_canBeMade_29 : decode b_CarDesk_canBeMade 29 = .ok (.goto 4, 3) := by decide +kernel
theorem d_CarDesk_canBeMade_32 : decode b_CarDesk_canBeMade 32 = .ok (.iconst 1, 1) := by decide +kernel
theorem d_CarDesk_canBeMade_33 : decode b_CarDesk_canBeMade 33 = .ok (.istore_n 3, 1) := by decide +kernel
theorem d_CarDesk_canBeMade_34 : decode b_CarDesk_canBeMade 34 = .ok (.aload_n 0, 1) := by decide +kernel
theorem d_CarDesk_canBeMade_35 : decode b_CarDesk_canBeMade 35 = .ok (.getfield 26, 3) := by decide +kernel
theorem d_CarDesk_canBeMade_38 : decode b_CarDesk_canBeMade 38 = .ok (.iload_n 3, 1) := by decide +kernel
theorem d_CarDesk_canBeMade_39 : decode b_CarDesk_canBeMade 39 = .ok (.aaload, 1) := by decide +kernel
theorem d_CarDesk_canBeMade_40 : decode b_CarDesk_canBeMade 40 = .ok (.invokevirtual 165, 3) := by decide +kernel
theorem d_CarDesk_canBeMade_43 : decode b_CarDesk_canBeMade 43 = .ok (.ifnull 7, 3) := by decide +kernel
theorem d_CarDesk_canBeMade_46 : decode b_CarDesk_canBeMade 46 = .ok (.iconst 1, 1) := by decide +kernel
theorem d_CarDesk_canBeMade_47 : decode b_CarDesk_canBeMade 47 = .ok (.goto 4, 3) := by decide +kernel
theorem d_CarDesk_canBeMade_50 : decode b_CarDesk_canBeMade 50 = .ok (.iconst 0, 1) := by decide +kernel
theorem d_CarDesk_canBeMade_51 : decode b_CarDesk_canBeMade 51 = .ok (.ireturn, 1) := by decide +kernel

theorem d_CarDesk_sourceOf_0 : decode b_CarDesk_sourceOf 0 = .ok (.iload_n 1, 1) := by decide +kernel
theorem d_CarDesk_sourceOf_1 : decode b_CarDesk_sourceOf 1 = .ok (.lookupswitch 47 #[(1, 27), (3, 37)], 27) := by decide +kernel
theorem d_CarDesk_sourceOf_28 : decode b_CarDesk_sourceOf 28 = .ok (.aload_n 0, 1) := by decide +kernel
theorem d_CarDesk_sourceOf_29 : decode b_CarDesk_sourceOf 29 = .ok (.getfield 26, 3) := by decide +kernel
theorem d_CarDesk_sourceOf_32 : decode b_CarDesk_sourceOf 32 = .ok (.iconst 0, 1) := by decide +kernel
theorem d_CarDesk_sourceOf_33 : decode b_CarDesk_sourceOf 33 = .ok (.aaload, 1) := by decide +kernel
theorem d_CarDesk_sourceOf_34 : decode b_CarDesk_sourceOf 34 = .ok (.invokevirtual 165, 3) := by decide +kernel
theorem d_CarDesk_sourceOf_37 : decode b_CarDesk_sourceOf 37 = .ok (.areturn, 1) := by decide +kernel
theorem d_CarDesk_sourceOf_38 : decode b_CarDesk_sourceOf 38 = .ok (.aload_n 0, 1) := by decide +kernel
theorem d_CarDesk_sourceOf_39 : decode b_CarDesk_sourceOf 39 = .ok (.getfield 26, 3) := by decide +kernel
theorem d_CarDesk_sourceOf_42 : decode b_CarDesk_sourceOf 42 = .ok (.iconst 1, 1) := by decide +kernel
theorem d_CarDesk_sourceOf_43 : decode b_CarDesk_sourceOf 43 = .ok (.aaload, 1) := by decide +kernel
theorem d_CarDesk_sourceOf_44 : decode b_CarDesk_sourceOf 44 = .ok (.invokevirtual 165, 3) := by decide +kernel
theorem d_CarDesk_sourceOf_47 : decode b_CarDesk_sourceOf 47 = .ok (.areturn, 1) := by decide +kernel
theorem d_CarDesk_sourceOf_48 : decode b_CarDesk_sourceOf 48 = .ok (.aconst_null, 1) := by decide +kernel
theorem d_CarDesk_sourceOf_49 : decode b_CarDesk_sourceOf 49 = .ok (.areturn, 1) := by decide +kernel

