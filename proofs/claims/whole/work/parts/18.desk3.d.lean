theorem d_CarDesk_refusalOfStep_0 : decode b_CarDesk_refusalOfStep 0 = .ok (.iload_n 0, 1) := by decide +kernel
theorem d_CarDesk_refusalOfStep_1 : decode b_CarDesk_refusalOfStep 1 = .ok (.ifCond .ne 13, 3) := by decide +kernel
theorem d_CarDesk_refusalOfStep_4 : decode b_CarDesk_refusalOfStep 4 = .ok (.aload_n 1, 1) := by decide +kernel
theorem d_CarDesk_refusalOfStep_5 : decode b_CarDesk_refusalOfStep 5 = .ok (.invokevirtual 146, 3) := by decide +kernel
theorem d_CarDesk_refusalOfStep_8 : decode b_CarDesk_refusalOfStep 8 = .ok (.ifCond .eq 6, 3) := by decide +kernel
theorem d_CarDesk_refusalOfStep_11 : decode b_CarDesk_refusalOfStep 11 = .ok (.bipush (-3), 2) := by decide +kernel
theorem d_CarDesk_refusalOfStep_13 : decode b_CarDesk_refusalOfStep 13 = .ok (.ireturn, 1) := by decide +kernel
theorem d_CarDesk_refusalOfStep_14 : decode b_CarDesk_refusalOfStep 14 = .ok (.aload_n 1, 1) := by decide +kernel
theorem d_CarDesk_refusalOfStep_15 : decode b_CarDesk_refusalOfStep 15 = .ok (.getfield 202, 3) := by decide +kernel
theorem d_CarDesk_refusalOfStep_18 : decode b_CarDesk_refusalOfStep 18 = .ok (.bipush 50, 2) := by decide +kernel
theorem d_CarDesk_refusalOfStep_20 : decode b_CarDesk_refusalOfStep 20 = .ok (.if_icmp .lt 8, 3) := by decide +kernel
theorem d_CarDesk_refusalOfStep_23 : decode b_CarDesk_refusalOfStep 23 = .ok (.bipush (-4), 2) := by decide +kernel
theorem d_CarDesk_refusalOfStep_25 : decode b_CarDesk_refusalOfStep 25 = .ok (.goto 4, 3) := by decide +kernel
theorem d_CarDesk_refusalOfStep_28 : decode b_CarDesk_refusalOfStep 28 = .ok (.iconst 0, 1) := by decide +kernel
theorem d_CarDesk_refusalOfStep_29 : decode b_CarDesk_refusalOfStep 29 = .ok (.ireturn, 1) := by decide +kernel

theorem d_CarDesk_refusalOfCall_0 : decode b_CarDesk_refusalOfCall 0 = .ok (.aload_n 2, 1) := by decide +kernel
theorem d_CarDesk_refusalOfCall_1 : decode b_CarDesk_refusalOfCall 1 = .ok (.ifnonnull 5, 3) := by decide +kernel
theorem d_CarDesk_refusalOfCall_4 : decode b_CarDesk_refusalOfCall 4 = .ok (.iconst (-1), 1) := by decide +kernel
theorem d_CarDesk_refusalOfCall_5 : decode b_CarDesk_refusalOfCall 5 = .ok (.ireturn, 1) := by decide +kernel
theorem d_CarDesk_refusalOfCall_6 : decode b_CarDesk_refusalOfCall 6 = .ok (.iload_n 1, 1) := by decide +kernel
theorem d_CarDesk_refusalOfCall_7 : decode b_CarDesk_refusalOfCall 7 = .ok (.bipush 6, 2) := by decide +kernel
theorem d_CarDesk_refusalOfCall_9 : decode b_CarDesk_refusalOfCall 9 = .ok (.idiv, 1) := by decide +kernel
theorem d_CarDesk_refusalOfCall_10 : decode b_CarDesk_refusalOfCall 10 = .ok (.istore 5, 2) := by decide +kernel
theorem d_CarDesk_refusalOfCall_12 : decode b_CarDesk_refusalOfCall 12 = .ok (.iload 5, 2) := by decide +kernel
theorem d_CarDesk_refusalOfCall_14 : decode b_CarDesk_refusalOfCall 14 = .ok (.iconst 3, 1) := by decide +kernel
theorem d_CarDesk_refusalOfCall_15 : decode b_CarDesk_refusalOfCall 15 = .ok (.if_icmp .ne 14, 3) := by decide +kernel
theorem d_CarDesk_refusalOfCall_18 : decode b_CarDesk_refusalOfCall 18 = .ok (.aload_n 0, 1) := by decide +kernel
theorem d_CarDesk_refusalOfCall_19 : decode b_CarDesk_refusalOfCall 19 = .ok (.iload_n 1, 1) := by decide +kernel
theorem d_CarDesk_refusalOfCall_20 : decode b_CarDesk_refusalOfCall 20 = .ok (.lload_n 3, 1) := by decide +kernel
theorem d_CarDesk_refusalOfCall_21 : decode b_CarDesk_refusalOfCall 21 = .ok (.invokevirtual 122, 3) := by decide +kernel
theorem d_CarDesk_refusalOfCall_24 : decode b_CarDesk_refusalOfCall 24 = .ok (.ifnonnull 5, 3) := by decide +kernel
theorem d_CarDesk_refusalOfCall_27 : decode b_CarDesk_refusalOfCall 27 = .ok (.iconst (-1), 1) := by decide +kernel
theorem d_CarDesk_refusalOfCall_28 : decode b_CarDesk_refusalOfCall 28 = .ok (.ireturn, 1) := by decide +kernel
theorem d_CarDesk_refusalOfCall_29 : decode b_CarDesk_refusalOfCall 29 = .ok (.lload_n 3, 1) := by decide +kernel
theorem d_CarDesk_refusalOfCall_30 : decode b_CarDesk_refusalOfCall 30 = .ok (.invokestatic 89, 3) := by decide +kernel
theorem d_CarDesk_refusalOfCall_33 : decode b_CarDesk_refusalOfCall 33 = .ok (.ifCond .ne 6, 3) := by decide +kernel
theorem d_CarDesk_refusalOfCall_36 : decode b_CarDesk_refusalOfCall 36 = .ok (.bipush (-2), 2) := by decide +kernel
theorem d_CarDesk_refusalOfCall_38 : decode b_CarDesk_refusalOfCall 38 = .ok (.ireturn, 1) := by decide +kernel
theorem d_CarDesk_refusalOfCall_39 : decode b_CarDesk_refusalOfCall 39 = .ok (.iload 5, 2) := by decide +kernel
theorem d_CarDesk_refusalOfCall_41 : decode b_CarDesk_refusalOfCall 41 = .ok (.iconst 2, 1) := by decide +kernel
theorem d_CarDesk_refusalOfCall_42 : decode b_CarDesk_refusalOfCall 42 = .ok (.if_icmp .ne 14, 3) := by decide +kernel
theorem d_CarDesk_refusalOfCall_45 : decode b_CarDesk_refusalOfCall 45 = .ok (.iload_n 1, 1) := by decide +kernel
theorem d_CarDesk_refusalOfCall_46 : decode b_CarDesk_refusalOfCall 46 = .ok (.bipush 6, 2) := by decide +kernel
theorem d_CarDesk_refusalOfCall_48 : decode b_CarDesk_refusalOfCall 48 = .ok (.irem, 1) := by decide +kernel
theorem d_CarDesk_refusalOfCall_49 : decode b_CarDesk_refusalOfCall 49 = .ok (.aload_n 2, 1) := by decide +kernel
theorem d_CarDesk_refusalOfCall_50 : decode b_CarDesk_refusalOfCall 50 = .ok (.invokestatic 198, 3) := by decide +kernel
theorem d_CarDesk_refusalOfCall_53 : decode b_CarDesk_refusalOfCall 53 = .ok (.goto 4, 3) := by decide +kernel
theorem d_CarDesk_refusalOfCall_56 : decode b_CarDesk_refusalOfCall 56 = .ok (.iconst 0, 1) := by decide +kernel
theorem d_CarDesk_refusalOfCall_57 : decode b_CarDesk_refusalOfCall 57 = .ok (.ireturn, 1) := by decide +kernel

theorem d_CarDesk_steppedState_0 : decode b_CarDesk_steppedState 0 = .ok (.iload_n 1, 1) := by decide +kernel
theorem d_CarDesk_steppedState_1 : decode b_CarDesk_steppedState 1 = .ok (.bipush 6, 2) := by decide +kernel
theorem d_CarDesk_steppedState_3 : decode b_CarDesk_steppedState 3 = .ok (.irem, 1) := by decide +kernel
theorem d_CarDesk_steppedState_4 : decode b_CarDesk_steppedState 4 = .ok (.tableswitch 101 0 4 #[36, 43, 61, 75, 87], 36) := by decide +kernel
theorem d_CarDesk_steppedState_40 : decode b_CarDesk_steppedState 40 = .ok (.aload_n 2, 1) := by decide +kernel
theorem d_CarDesk_steppedState_41 : decode b_CarDesk_steppedState 41 = .ok (.getfield 173, 3) := by decide +kernel
theorem d_CarDesk_steppedState_44 : decode b_CarDesk_steppedState 44 = .ok (.lload_n 3, 1) := by decide +kernel
theorem d_CarDesk_steppedState_45 : decode b_CarDesk_steppedState 45 = .ok (.lxor, 1) := by decide +kernel
theorem d_CarDesk_steppedState_46 : decode b_CarDesk_steppedState 46 = .ok (.lreturn, 1) := by decide +kernel
theorem d_CarDesk_steppedState_47 : decode b_CarDesk_steppedState 47 = .ok (.ldc2_w 212, 3) := by decide +kernel
theorem d_CarDesk_steppedState_50 : decode b_CarDesk_steppedState 50 = .ok (.aload_n 2, 1) := by decide +kernel
theorem d_CarDesk_steppedState_51 : decode b_CarDesk_steppedState 51 = .ok (.getfield 173, 3) := by decide +kernel
theorem d_CarDesk_steppedState_54 : decode b_CarDesk_steppedState 54 = .ok (.lmul, 1) := by decide +kernel
theorem d_CarDesk_steppedState_55 : decode b_CarDesk_steppedState 55 = .ok (.lload_n 3, 1) := by decide +kernel
theorem d_CarDesk_steppedState_56 : decode b_CarDesk_steppedState 56 = .ok (.ladd, 1) := by decide +kernel
theorem d_CarDesk_steppedState_57 : decode b_CarDesk_steppedState 57 = .ok (.aload_n 0, 1) := by decide +kernel
theorem d_CarDesk_steppedState_58 : decode b_CarDesk_steppedState 58 = .ok (.getfield 30, 3) := by decide +kernel
theorem d_CarDesk_steppedState_61 : decode b_CarDesk_steppedState 61 = .ok (.iload_n 1, 1) := by decide +kernel
theorem d_CarDesk_steppedState_62 : decode b_CarDesk_steppedState 62 = .ok (.laload, 1) := by decide +kernel
theorem d_CarDesk_steppedState_63 : decode b_CarDesk_steppedState 63 = .ok (.ladd, 1) := by decide +kernel
theorem d_CarDesk_steppedState_64 : decode b_CarDesk_steppedState 64 = .ok (.lreturn, 1) := by decide +kernel
theorem d_CarDesk_steppedState_65 : decode b_CarDesk_steppedState 65 = .ok (.aload_n 2, 1) := by decide +kernel
theorem d_CarDesk_steppedState_66 : decode b_CarDesk_steppedState 66 = .ok (.getfield 173, 3) := by decide +kernel
theorem d_CarDesk_steppedState_69 : decode b_CarDesk_steppedState 69 = .ok (.lload_n 3, 1) := by decide +kernel
theorem d_CarDesk_steppedState_70 : decode b_CarDesk_steppedState 70 = .ok (.ldc2_w 214, 3) := by decide +kernel
theorem d_CarDesk_steppedState_73 : decode b_CarDesk_steppedState 73 = .ok (.land, 1) := by decide +kernel
theorem d_CarDesk_steppedState_74 : decode b_CarDesk_steppedState 74 = .ok (.l2i, 1) := by decide +kernel
theorem d_CarDesk_steppedState_75 : decode b_CarDesk_steppedState 75 = .ok (.invokestatic 216, 3) := by decide +kernel
theorem d_CarDesk_steppedState_78 : decode b_CarDesk_steppedState 78 = .ok (.lreturn, 1) := by decide +kernel
theorem d_CarDesk_steppedState_79 : decode b_CarDesk_steppedState 79 = .ok (.aload_n 2, 1) := by decide +kernel
theorem d_CarDesk_steppedState_80 : decode b_CarDesk_steppedState 80 = .ok (.getfield 173, 3) := by decide +kernel
theorem d_CarDesk_steppedState_83 : decode b_CarDesk_steppedState 83 = .ok (.aload_n 2, 1) := by decide +kernel
theorem d_CarDesk_steppedState_84 : decode b_CarDesk_steppedState 84 = .ok (.invokevirtual 220, 3) := by decide +kernel
theorem d_CarDesk_steppedState_87 : decode b_CarDesk_steppedState 87 = .ok (.ladd, 1) := by decide +kernel
theorem d_CarDesk_steppedState_88 : decode b_CarDesk_steppedState 88 = .ok (.lload_n 3, 1) := by decide +kernel
theorem d_CarDesk_steppedState_89 : decode b_CarDesk_steppedState 89 = .ok (.ladd, 1) := by decide +kernel
theorem d_CarDesk_steppedState_90 : decode b_CarDesk_steppedState 90 = .ok (.lreturn, 1) := by decide +kernel
theorem d_CarDesk_steppedState_91 : decode b_CarDesk_steppedState 91 = .ok (.aload_n 2, 1) := by decide +kernel
theorem d_CarDesk_steppedState_92 : decode b_CarDesk_steppedState 92 = .ok (.getfield 173, 3) := by decide +kernel
theorem d_CarDesk_steppedState_95 : decode b_CarDesk_steppedState 95 = .ok (.lload_n 3, 1) := by decide +kernel
theorem d_CarDesk_steppedState_96 : decode b_CarDesk_steppedState 96 = .ok (.aload_n 0, 1) := by decide +kernel
theorem d_CarDesk_steppedState_97 : decode b_CarDesk_steppedState 97 = .ok (.getfield 30, 3) := by decide +kernel
theorem d_CarDesk_steppedState_100 : decode b_CarDesk_steppedState 100 = .ok (.iload_n 1, 1) := by decide +kernel
theorem d_CarDesk_steppedState_101 : decode b_CarDesk_steppedState 101 = .ok (.laload, 1) := by decide +kernel
theorem d_CarDesk_steppedState_102 : decode b_CarDesk_steppedState 102 = .ok (.lmul, 1) := by decide +kernel
theorem d_CarDesk_steppedState_103 : decode b_CarDesk_steppedState 103 = .ok (.ladd, 1) := by decide +kernel
theorem d_CarDesk_steppedState_104 : decode b_CarDesk_steppedState 104 = .ok (.lreturn, 1) := by decide +kernel
theorem d_CarDesk_steppedState_105 : decode b_CarDesk_steppedState 105 = .ok (.aload_n 0, 1) := by decide +kernel
theorem d_CarDesk_steppedState_106 : decode b_CarDesk_steppedState 106 = .ok (.getfield 26, 3) := by decide +kernel
theorem d_CarDesk_steppedState_109 : decode b_CarDesk_steppedState 109 = .ok (.iconst 1, 1) := by decide +kernel
theorem d_CarDesk_steppedState_110 : decode b_CarDesk_steppedState 110 = .ok (.aaload, 1) := by decide +kernel
theorem d_CarDesk_steppedState_111 : decode b_CarDesk_steppedState 111 = .ok (.invokevirtual 223, 3) := by decide +kernel
theorem d_CarDesk_steppedState_114 : decode b_CarDesk_steppedState 114 = .ok (.lload_n 3, 1) := by decide +kernel
theorem d_CarDesk_steppedState_115 : decode b_CarDesk_steppedState 115 = .ok (.ladd, 1) := by decide +kernel
theorem d_CarDesk_steppedState_116 : decode b_CarDesk_steppedState 116 = .ok (.lreturn, 1) := by decide +kernel

theorem d_CarDesk_outcomeOfCall_0 : decode b_CarDesk_outcomeOfCall 0 = .ok (.iload_n 1, 1) := by decide +kernel
theorem d_CarDesk_outcomeOfCall_1 : decode b_CarDesk_outcomeOfCall 1 = .ok (.bipush 6, 2) := by decide +kernel
theorem d_CarDesk_outcomeOfCall_3 : decode b_CarDesk_outcomeOfCall 3 = .ok (.idiv, 1) := by decide +kernel
theorem d_CarDesk_outcomeOfCall_4 : decode b_CarDesk_outcomeOfCall 4 = .ok (.tableswitch 53 0 2 #[28, 40, 45], 28) := by decide +kernel
theorem d_CarDesk_outcomeOfCall_32 : decode b_CarDesk_outcomeOfCall 32 = .ok (.aload_n 2, 1) := by decide +kernel
theorem d_CarDesk_outcomeOfCall_33 : decode b_CarDesk_outcomeOfCall 33 = .ok (.getfield 173, 3) := by decide +kernel
theorem d_CarDesk_outcomeOfCall_36 : decode b_CarDesk_outcomeOfCall 36 = .ok (.aload_n 0, 1) := by decide +kernel
theorem d_CarDesk_outcomeOfCall_37 : decode b_CarDesk_outcomeOfCall 37 = .ok (.getfield 30, 3) := by decide +kernel
theorem d_CarDesk_outcomeOfCall_40 : decode b_CarDesk_outcomeOfCall 40 = .ok (.iload_n 1, 1) := by decide +kernel
theorem d_CarDesk_outcomeOfCall_41 : decode b_CarDesk_outcomeOfCall 41 = .ok (.laload, 1) := by decide +kernel
theorem d_CarDesk_outcomeOfCall_42 : decode b_CarDesk_outcomeOfCall 42 = .ok (.ladd, 1) := by decide +kernel
theorem d_CarDesk_outcomeOfCall_43 : decode b_CarDesk_outcomeOfCall 43 = .ok (.lreturn, 1) := by decide +kernel
theorem d_CarDesk_outcomeOfCall_44 : decode b_CarDesk_outcomeOfCall 44 = .ok (.aload_n 2, 1) := by decide +kernel
theorem d_CarDesk_outcomeOfCall_45 : decode b_CarDesk_outcomeOfCall 45 = .ok (.getfield 173, 3) := by decide +kernel
theorem d_CarDesk_outcomeOfCall_48 : decode b_CarDesk_outcomeOfCall 48 = .ok (.lreturn, 1) := by decide +kernel
theorem d_CarDesk_outcomeOfCall_49 : decode b_CarDesk_outcomeOfCall 49 = .ok (.aload_n 2, 1) := by decide +kernel
theorem d_CarDesk_outcomeOfCall_50 : decode b_CarDesk_outcomeOfCall 50 = .ok (.getfield 202, 3) := by decide +kernel
theorem d_CarDesk_outcomeOfCall_53 : decode b_CarDesk_outcomeOfCall 53 = .ok (.iconst 1, 1) := by decide +kernel
theorem d_CarDesk_outcomeOfCall_54 : decode b_CarDesk_outcomeOfCall 54 = .ok (.iadd, 1) := by decide +kernel
theorem d_CarDesk_outcomeOfCall_55 : decode b_CarDesk_outcomeOfCall 55 = .ok (.i2l, 1) := by decide +kernel
theorem d_CarDesk_outcomeOfCall_56 : decode b_CarDesk_outcomeOfCall 56 = .ok (.lreturn, 1) := by decide +kernel
theorem d_CarDesk_outcomeOfCall_57 : decode b_CarDesk_outcomeOfCall 57 = .ok (.aload_n 2, 1) := by decide +kernel
theorem d_CarDesk_outcomeOfCall_58 : decode b_CarDesk_outcomeOfCall 58 = .ok (.aload_n 0, 1) := by decide +kernel
theorem d_CarDesk_outcomeOfCall_59 : decode b_CarDesk_outcomeOfCall 59 = .ok (.iload_n 1, 1) := by decide +kernel
theorem d_CarDesk_outcomeOfCall_60 : decode b_CarDesk_outcomeOfCall 60 = .ok (.lload_n 3, 1) := by decide +kernel
theorem d_CarDesk_outcomeOfCall_61 : decode b_CarDesk_outcomeOfCall 61 = .ok (.invokevirtual 122, 3) := by decide +kernel
theorem d_CarDesk_outcomeOfCall_64 : decode b_CarDesk_outcomeOfCall 64 = .ok (.invokevirtual 205, 3) := by decide +kernel
theorem d_CarDesk_outcomeOfCall_67 : decode b_CarDesk_outcomeOfCall 67 = .ok (.i2l, 1) := by decide +kernel
theorem d_CarDesk_outcomeOfCall_68 : decode b_CarDesk_outcomeOfCall 68 = .ok (.lreturn, 1) := by decide +kernel

theorem d_CarDesk_changeByCall_0 : decode b_CarDesk_changeByCall 0 = .ok (.iload_n 1, 1) := by decide +kernel
theorem d_CarDesk_changeByCall_1 : decode b_CarDesk_changeByCall 1 = .ok (.bipush 6, 2) := by decide +kernel
theorem d_CarDesk_changeByCall_3 : decode b_CarDesk_changeByCall 3 = .ok (.idiv, 1) := by decide +kernel
theorem d_CarDesk_changeByCall_4 : decode b_CarDesk_changeByCall 4 = .ok (.istore 5, 2) := by decide +kernel
theorem d_CarDesk_changeByCall_6 : decode b_CarDesk_changeByCall 6 = .ok (.iload 5, 2) := by decide +kernel
theorem d_CarDesk_changeByCall_8 : decode b_CarDesk_changeByCall 8 = .ok (.iconst 1, 1) := by decide +kernel
theorem d_CarDesk_changeByCall_9 : decode b_CarDesk_changeByCall 9 = .ok (.if_icmp .ne 8, 3) := by decide +kernel
theorem d_CarDesk_changeByCall_12 : decode b_CarDesk_changeByCall 12 = .ok (.aload_n 2, 1) := by decide +kernel
theorem d_CarDesk_changeByCall_13 : decode b_CarDesk_changeByCall 13 = .ok (.lload_n 3, 1) := by decide +kernel
theorem d_CarDesk_changeByCall_14 : decode b_CarDesk_changeByCall 14 = .ok (.putfield 173, 3) := by decide +kernel
theorem d_CarDesk_changeByCall_17 : decode b_CarDesk_changeByCall 17 = .ok (.iload 5, 2) := by decide +kernel
theorem d_CarDesk_changeByCall_19 : decode b_CarDesk_changeByCall 19 = .ok (.iconst 2, 1) := by decide +kernel
theorem d_CarDesk_changeByCall_20 : decode b_CarDesk_changeByCall 20 = .ok (.if_icmp .ne 24, 3) := by decide +kernel
theorem d_CarDesk_changeByCall_23 : decode b_CarDesk_changeByCall 23 = .ok (.aload_n 2, 1) := by decide +kernel
theorem d_CarDesk_changeByCall_24 : decode b_CarDesk_changeByCall 24 = .ok (.aload_n 0, 1) := by decide +kernel
theorem d_CarDesk_changeByCall_25 : decode b_CarDesk_changeByCall 25 = .ok (.iload_n 1, 1) := by decide +kernel
theorem d_CarDesk_changeByCall_26 : decode b_CarDesk_changeByCall 26 = .ok (.aload_n 2, 1) := by decide +kernel
theorem d_CarDesk_changeByCall_27 : decode b_CarDesk_changeByCall 27 = .ok (.lload_n 3, 1) := by decide +kernel
theorem d_CarDesk_changeByCall_28 : decode b_CarDesk_changeByCall 28 = .ok (.invokevirtual 209, 3) := by decide +kernel
theorem d_CarDesk_changeByCall_31 : decode b_CarDesk_changeByCall 31 = .ok (.putfield 173, 3) := by decide +kernel
theorem d_CarDesk_changeByCall_34 : decode b_CarDesk_changeByCall 34 = .ok (.aload_n 2, 1) := by decide +kernel
theorem d_CarDesk_changeByCall_35 : decode b_CarDesk_changeByCall 35 = .ok (.dup, 1) := by decide +kernel
theorem d_CarDesk_changeByCall_36 : decode b_CarDesk_changeByCall 36 = .ok (.getfield 202, 3) := by decide +kernel
theorem d_CarDesk_changeByCall_39 : decode b_CarDesk_changeByCall 39 = .ok (.iconst 1, 1) := by decide +kernel
theorem d_CarDesk_changeByCall_40 : decode b_CarDesk_changeByCall 40 = .ok (.iadd, 1) := by decide +kernel
theorem d_CarDesk_changeByCall_41 : decode b_CarDesk_changeByCall 41 = .ok (.putfield 202, 3) := by decide +kernel
theorem d_CarDesk_changeByCall_44 : decode b_CarDesk_changeByCall 44 = .ok (.return_, 1) := by decide +kernel

