theorem d_CarDesk_collect_0 : decode b_CarDesk_collect 0 = .ok (.aload_n 0, 1) := by decide +kernel
theorem d_CarDesk_collect_1 : decode b_CarDesk_collect 1 = .ok (.iload_n 1, 1) := by decide +kernel
theorem d_CarDesk_collect_2 : decode b_CarDesk_collect 2 = .ok (.invokevirtual 64, 3) := by decide +kernel
theorem d_CarDesk_collect_5 : decode b_CarDesk_collect 5 = .ok (.astore 4, 2) := by decide +kernel
theorem d_CarDesk_collect_7 : decode b_CarDesk_collect 7 = .ok (.aload 4, 2) := by decide +kernel
theorem d_CarDesk_collect_9 : decode b_CarDesk_collect 9 = .ok (.ifnonnull 9, 3) := by decide +kernel
theorem d_CarDesk_collect_12 : decode b_CarDesk_collect 12 = .ok (.aload_n 0, 1) := by decide +kernel
theorem d_CarDesk_collect_13 : decode b_CarDesk_collect 13 = .ok (.iconst (-1), 1) := by decide +kernel
theorem d_CarDesk_collect_14 : decode b_CarDesk_collect 14 = .ok (.invokevirtual 68, 3) := by decide +kernel
theorem d_CarDesk_collect_17 : decode b_CarDesk_collect 17 = .ok (.ireturn, 1) := by decide +kernel
theorem d_CarDesk_collect_18 : decode b_CarDesk_collect 18 = .ok (.lload_n 2, 1) := by decide +kernel
theorem d_CarDesk_collect_19 : decode b_CarDesk_collect 19 = .ok (.lconst 0, 1) := by decide +kernel
theorem d_CarDesk_collect_20 : decode b_CarDesk_collect 20 = .ok (.lcmp, 1) := by decide +kernel
theorem d_CarDesk_collect_21 : decode b_CarDesk_collect 21 = .ok (.ifCond .lt 14, 3) := by decide +kernel
theorem d_CarDesk_collect_24 : decode b_CarDesk_collect 24 = .ok (.lload_n 2, 1) := by decide +kernel
theorem d_CarDesk_collect_25 : decode b_CarDesk_collect 25 = .ok (.aload 4, 2) := by decide +kernel
theorem d_CarDesk_collect_27 : decode b_CarDesk_collect 27 = .ok (.getfield 72, 3) := by decide +kernel
theorem d_CarDesk_collect_30 : decode b_CarDesk_collect 30 = .ok (.i2l, 1) := by decide +kernel
theorem d_CarDesk_collect_31 : decode b_CarDesk_collect 31 = .ok (.lcmp, 1) := by decide +kernel
theorem d_CarDesk_collect_32 : decode b_CarDesk_collect 32 = .ok (.ifCond .le 10, 3) := by decide +kernel
theorem d_CarDesk_collect_35 : decode b_CarDesk_collect 35 = .ok (.aload_n 0, 1) := by decide +kernel
theorem d_CarDesk_collect_36 : decode b_CarDesk_collect 36 = .ok (.bipush (-2), 2) := by decide +kernel
theorem d_CarDesk_collect_38 : decode b_CarDesk_collect 38 = .ok (.invokevirtual 68, 3) := by decide +kernel
theorem d_CarDesk_collect_41 : decode b_CarDesk_collect 41 = .ok (.ireturn, 1) := by decide +kernel
theorem d_CarDesk_collect_42 : decode b_CarDesk_collect 42 = .ok (.aload 4, 2) := by decide +kernel
theorem d_CarDesk_collect_44 : decode b_CarDesk_collect 44 = .ok (.invokevirtual 75, 3) := by decide +kernel
theorem d_CarDesk_collect_47 : decode b_CarDesk_collect 47 = .ok (.ifCond .eq 10, 3) := by decide +kernel
theorem d_CarDesk_collect_50 : decode b_CarDesk_collect 50 = .ok (.aload_n 0, 1) := by decide +kernel
theorem d_CarDesk_collect_51 : decode b_CarDesk_collect 51 = .ok (.bipush (-4), 2) := by decide +kernel
theorem d_CarDesk_collect_53 : decode b_CarDesk_collect 53 = .ok (.invokevirtual 68, 3) := by decide +kernel
theorem d_CarDesk_collect_56 : decode b_CarDesk_collect 56 = .ok (.ireturn, 1) := by decide +kernel
theorem d_CarDesk_collect_57 : decode b_CarDesk_collect 57 = .ok (.aload 4, 2) := by decide +kernel
theorem d_CarDesk_collect_59 : decode b_CarDesk_collect 59 = .ok (.lload_n 2, 1) := by decide +kernel
theorem d_CarDesk_collect_60 : decode b_CarDesk_collect 60 = .ok (.l2i, 1) := by decide +kernel
theorem d_CarDesk_collect_61 : decode b_CarDesk_collect 61 = .ok (.invokevirtual 79, 3) := by decide +kernel
theorem d_CarDesk_collect_64 : decode b_CarDesk_collect 64 = .ok (.aload_n 0, 1) := by decide +kernel
theorem d_CarDesk_collect_65 : decode b_CarDesk_collect 65 = .ok (.dup, 1) := by decide +kernel
theorem d_CarDesk_collect_66 : decode b_CarDesk_collect 66 = .ok (.getfield 60, 3) := by decide +kernel
theorem d_CarDesk_collect_69 : decode b_CarDesk_collect 69 = .ok (.iconst 1, 1) := by decide +kernel
theorem d_CarDesk_collect_70 : decode b_CarDesk_collect 70 = .ok (.iadd, 1) := by decide +kernel
theorem d_CarDesk_collect_71 : decode b_CarDesk_collect 71 = .ok (.putfield 60, 3) := by decide +kernel
theorem d_CarDesk_collect_74 : decode b_CarDesk_collect 74 = .ok (.aload 4, 2) := by decide +kernel
theorem d_CarDesk_collect_76 : decode b_CarDesk_collect 76 = .ok (.getfield 82, 3) := by decide +kernel
theorem d_CarDesk_collect_79 : decode b_CarDesk_collect 79 = .ok (.ireturn, 1) := by decide +kernel

theorem d_CarDesk_answer_0 : decode b_CarDesk_answer 0 = .ok (.iload_n 1, 1) := by decide +kernel
theorem d_CarDesk_answer_1 : decode b_CarDesk_answer 1 = .ok (.invokestatic 85, 3) := by decide +kernel
theorem d_CarDesk_answer_4 : decode b_CarDesk_answer 4 = .ok (.ifCond .ne 9, 3) := by decide +kernel
theorem d_CarDesk_answer_7 : decode b_CarDesk_answer 7 = .ok (.aload_n 0, 1) := by decide +kernel
theorem d_CarDesk_answer_8 : decode b_CarDesk_answer 8 = .ok (.iconst (-1), 1) := by decide +kernel
theorem d_CarDesk_answer_9 : decode b_CarDesk_answer 9 = .ok (.invokevirtual 68, 3) := by decide +kernel
theorem d_CarDesk_answer_12 : decode b_CarDesk_answer 12 = .ok (.ireturn, 1) := by decide +kernel
theorem d_CarDesk_answer_13 : decode b_CarDesk_answer 13 = .ok (.lload_n 2, 1) := by decide +kernel
theorem d_CarDesk_answer_14 : decode b_CarDesk_answer 14 = .ok (.invokestatic 89, 3) := by decide +kernel
theorem d_CarDesk_answer_17 : decode b_CarDesk_answer 17 = .ok (.ifCond .ne 10, 3) := by decide +kernel
theorem d_CarDesk_answer_20 : decode b_CarDesk_answer 20 = .ok (.aload_n 0, 1) := by decide +kernel
theorem d_CarDesk_answer_21 : decode b_CarDesk_answer 21 = .ok (.bipush (-2), 2) := by decide +kernel
theorem d_CarDesk_answer_23 : decode b_CarDesk_answer 23 = .ok (.invokevirtual 68, 3) := by decide +kernel
theorem d_CarDesk_answer_26 : decode b_CarDesk_answer 26 = .ok (.ireturn, 1) := by decide +kernel
theorem d_CarDesk_answer_27 : decode b_CarDesk_answer 27 = .ok (.aload_n 0, 1) := by decide +kernel
theorem d_CarDesk_answer_28 : decode b_CarDesk_answer 28 = .ok (.getfield 30, 3) := by decide +kernel
theorem d_CarDesk_answer_31 : decode b_CarDesk_answer 31 = .ok (.iload_n 1, 1) := by decide +kernel
theorem d_CarDesk_answer_32 : decode b_CarDesk_answer 32 = .ok (.lload_n 2, 1) := by decide +kernel
theorem d_CarDesk_answer_33 : decode b_CarDesk_answer 33 = .ok (.lastore, 1) := by decide +kernel
theorem d_CarDesk_answer_34 : decode b_CarDesk_answer 34 = .ok (.aload_n 0, 1) := by decide +kernel
theorem d_CarDesk_answer_35 : decode b_CarDesk_answer 35 = .ok (.dup, 1) := by decide +kernel
theorem d_CarDesk_answer_36 : decode b_CarDesk_answer 36 = .ok (.getfield 60, 3) := by decide +kernel
theorem d_CarDesk_answer_39 : decode b_CarDesk_answer 39 = .ok (.iconst 1, 1) := by decide +kernel
theorem d_CarDesk_answer_40 : decode b_CarDesk_answer 40 = .ok (.iadd, 1) := by decide +kernel
theorem d_CarDesk_answer_41 : decode b_CarDesk_answer 41 = .ok (.putfield 60, 3) := by decide +kernel
theorem d_CarDesk_answer_44 : decode b_CarDesk_answer 44 = .ok (.iconst 1, 1) := by decide +kernel
theorem d_CarDesk_answer_45 : decode b_CarDesk_answer 45 = .ok (.ireturn, 1) := by decide +kernel

theorem d_CarDesk_fails_0 : decode b_CarDesk_fails 0 = .ok (.iload_n 1, 1) := by decide +kernel
theorem d_CarDesk_fails_1 : decode b_CarDesk_fails 1 = .ok (.invokestatic 85, 3) := by decide +kernel
theorem d_CarDesk_fails_4 : decode b_CarDesk_fails 4 = .ok (.ifCond .ne 9, 3) := by decide +kernel
theorem d_CarDesk_fails_7 : decode b_CarDesk_fails 7 = .ok (.aload_n 0, 1) := by decide +kernel
theorem d_CarDesk_fails_8 : decode b_CarDesk_fails 8 = .ok (.iconst (-1), 1) := by decide +kernel
theorem d_CarDesk_fails_9 : decode b_CarDesk_fails 9 = .ok (.invokevirtual 68, 3) := by decide +kernel
theorem d_CarDesk_fails_12 : decode b_CarDesk_fails 12 = .ok (.ireturn, 1) := by decide +kernel
theorem d_CarDesk_fails_13 : decode b_CarDesk_fails 13 = .ok (.iload_n 2, 1) := by decide +kernel
theorem d_CarDesk_fails_14 : decode b_CarDesk_fails 14 = .ok (.ifCond .lt 8, 3) := by decide +kernel
theorem d_CarDesk_fails_17 : decode b_CarDesk_fails 17 = .ok (.iload_n 2, 1) := by decide +kernel
theorem d_CarDesk_fails_18 : decode b_CarDesk_fails 18 = .ok (.iconst 4, 1) := by decide +kernel
theorem d_CarDesk_fails_19 : decode b_CarDesk_fails 19 = .ok (.if_icmp .le 10, 3) := by decide +kernel
theorem d_CarDesk_fails_22 : decode b_CarDesk_fails 22 = .ok (.aload_n 0, 1) := by decide +kernel
theorem d_CarDesk_fails_23 : decode b_CarDesk_fails 23 = .ok (.bipush (-2), 2) := by decide +kernel
theorem d_CarDesk_fails_25 : decode b_CarDesk_fails 25 = .ok (.invokevirtual 68, 3) := by decide +kernel
theorem d_CarDesk_fails_28 : decode b_CarDesk_fails 28 = .ok (.ireturn, 1) := by decide +kernel
theorem d_CarDesk_fails_29 : decode b_CarDesk_fails 29 = .ok (.aload_n 0, 1) := by decide +kernel
theorem d_CarDesk_fails_30 : decode b_CarDesk_fails 30 = .ok (.getfield 34, 3) := by decide +kernel
theorem d_CarDesk_fails_33 : decode b_CarDesk_fails 33 = .ok (.iload_n 1, 1) := by decide +kernel
theorem d_CarDesk_fails_34 : decode b_CarDesk_fails 34 = .ok (.iaload, 1) := by decide +kernel
theorem d_CarDesk_fails_35 : decode b_CarDesk_fails 35 = .ok (.istore_n 3, 1) := by decide +kernel
theorem d_CarDesk_fails_36 : decode b_CarDesk_fails 36 = .ok (.aload_n 0, 1) := by decide +kernel
theorem d_CarDesk_fails_37 : decode b_CarDesk_fails 37 = .ok (.getfield 34, 3) := by decide +kernel
theorem d_CarDesk_fails_40 : decode b_CarDesk_fails 40 = .ok (.iload_n 1, 1) := by decide +kernel
theorem d_CarDesk_fails_41 : decode b_CarDesk_fails 41 = .ok (.iload_n 2, 1) := by decide +kernel
theorem d_CarDesk_fails_42 : decode b_CarDesk_fails 42 = .ok (.iastore, 1) := by decide +kernel
theorem d_CarDesk_fails_43 : decode b_CarDesk_fails 43 = .ok (.aload_n 0, 1) := by decide +kernel
theorem d_CarDesk_fails_44 : decode b_CarDesk_fails 44 = .ok (.dup, 1) := by decide +kernel
theorem d_CarDesk_fails_45 : decode b_CarDesk_fails 45 = .ok (.getfield 60, 3) := by decide +kernel
theorem d_CarDesk_fails_48 : decode b_CarDesk_fails 48 = .ok (.iconst 1, 1) := by decide +kernel
theorem d_CarDesk_fails_49 : decode b_CarDesk_fails 49 = .ok (.iadd, 1) := by decide +kernel
theorem d_CarDesk_fails_50 : decode b_CarDesk_fails 50 = .ok (.putfield 60, 3) := by decide +kernel
theorem d_CarDesk_fails_53 : decode b_CarDesk_fails 53 = .ok (.iload_n 3, 1) := by decide +kernel
theorem d_CarDesk_fails_54 : decode b_CarDesk_fails 54 = .ok (.ireturn, 1) := by decide +kernel

theorem d_CarDesk_call_0 : decode b_CarDesk_call 0 = .ok (.aload_n 0, 1) := by decide +kernel
theorem d_CarDesk_call_1 : decode b_CarDesk_call 1 = .ok (.iload_n 1, 1) := by decide +kernel
theorem d_CarDesk_call_2 : decode b_CarDesk_call 2 = .ok (.iload_n 2, 1) := by decide +kernel
theorem d_CarDesk_call_3 : decode b_CarDesk_call 3 = .ok (.i2l, 1) := by decide +kernel
theorem d_CarDesk_call_4 : decode b_CarDesk_call 4 = .ok (.invokevirtual 122, 3) := by decide +kernel
theorem d_CarDesk_call_7 : decode b_CarDesk_call 7 = .ok (.astore 5, 2) := by decide +kernel
theorem d_CarDesk_call_9 : decode b_CarDesk_call 9 = .ok (.aload_n 0, 1) := by decide +kernel
theorem d_CarDesk_call_10 : decode b_CarDesk_call 10 = .ok (.iload_n 1, 1) := by decide +kernel
theorem d_CarDesk_call_11 : decode b_CarDesk_call 11 = .ok (.aload 5, 2) := by decide +kernel
theorem d_CarDesk_call_13 : decode b_CarDesk_call 13 = .ok (.lload_n 3, 1) := by decide +kernel
theorem d_CarDesk_call_14 : decode b_CarDesk_call 14 = .ok (.invokevirtual 126, 3) := by decide +kernel
theorem d_CarDesk_call_17 : decode b_CarDesk_call 17 = .ok (.istore 6, 2) := by decide +kernel
theorem d_CarDesk_call_19 : decode b_CarDesk_call 19 = .ok (.aload 5, 2) := by decide +kernel
theorem d_CarDesk_call_21 : decode b_CarDesk_call 21 = .ok (.ifnull 8, 3) := by decide +kernel
theorem d_CarDesk_call_24 : decode b_CarDesk_call 24 = .ok (.iload 6, 2) := by decide +kernel
theorem d_CarDesk_call_26 : decode b_CarDesk_call 26 = .ok (.ifCond .eq 11, 3) := by decide +kernel
theorem d_CarDesk_call_29 : decode b_CarDesk_call 29 = .ok (.aload_n 0, 1) := by decide +kernel
theorem d_CarDesk_call_30 : decode b_CarDesk_call 30 = .ok (.iload 6, 2) := by decide +kernel
theorem d_CarDesk_call_32 : decode b_CarDesk_call 32 = .ok (.invokevirtual 68, 3) := by decide +kernel
theorem d_CarDesk_call_35 : decode b_CarDesk_call 35 = .ok (.i2l, 1) := by decide +kernel
theorem d_CarDesk_call_36 : decode b_CarDesk_call 36 = .ok (.lreturn, 1) := by decide +kernel
theorem d_CarDesk_call_37 : decode b_CarDesk_call 37 = .ok (.aload_n 0, 1) := by decide +kernel
theorem d_CarDesk_call_38 : decode b_CarDesk_call 38 = .ok (.dup, 1) := by decide +kernel
theorem d_CarDesk_call_39 : decode b_CarDesk_call 39 = .ok (.getfield 60, 3) := by decide +kernel
theorem d_CarDesk_call_42 : decode b_CarDesk_call 42 = .ok (.iconst 1, 1) := by decide +kernel
theorem d_CarDesk_call_43 : decode b_CarDesk_call 43 = .ok (.iadd, 1) := by decide +kernel
theorem d_CarDesk_call_44 : decode b_CarDesk_call 44 = .ok (.putfield 60, 3) := by decide +kernel
theorem d_CarDesk_call_47 : decode b_CarDesk_call 47 = .ok (.aload_n 0, 1) := by decide +kernel
theorem d_CarDesk_call_48 : decode b_CarDesk_call 48 = .ok (.getfield 34, 3) := by decide +kernel
theorem d_CarDesk_call_51 : decode b_CarDesk_call 51 = .ok (.iload_n 1, 1) := by decide +kernel
theorem d_CarDesk_call_52 : decode b_CarDesk_call 52 = .ok (.iaload, 1) := by decide +kernel
theorem d_CarDesk_call_53 : decode b_CarDesk_call 53 = .ok (.istore 7, 2) := by decide +kernel
theorem d_CarDesk_call_55 : decode b_CarDesk_call 55 = .ok (.iload 7, 2) := by decide +kernel
theorem d_CarDesk_call_57 : decode b_CarDesk_call 57 = .ok (.ifCond .eq 18, 3) := by decide +kernel
theorem d_CarDesk_call_60 : decode b_CarDesk_call 60 = .ok (.aload_n 0, 1) := by decide +kernel
theorem d_CarDesk_call_61 : decode b_CarDesk_call 61 = .ok (.iload 7, 2) := by decide +kernel
theorem d_CarDesk_call_63 : decode b_CarDesk_call 63 = .ok (.iload_n 1, 1) := by decide +kernel
theorem d_CarDesk_call_64 : decode b_CarDesk_call 64 = .ok (.iload_n 2, 1) := by decide +kernel
theorem d_CarDesk_call_65 : decode b_CarDesk_call 65 = .ok (.invokevirtual 130, 3) := by decide +kernel
theorem d_CarDesk_call_68 : decode b_CarDesk_call 68 = .ok (.bipush (-100), 2) := by decide +kernel
theorem d_CarDesk_call_70 : decode b_CarDesk_call 70 = .ok (.iload 7, 2) := by decide +kernel
theorem d_CarDesk_call_72 : decode b_CarDesk_call 72 = .ok (.isub, 1) := by decide +kernel
theorem d_CarDesk_call_73 : decode b_CarDesk_call 73 = .ok (.i2l, 1) := by decide +kernel
theorem d_CarDesk_call_74 : decode b_CarDesk_call 74 = .ok (.lreturn, 1) := by decide +kernel
theorem d_CarDesk_call_75 : decode b_CarDesk_call 75 = .ok (.aload_n 0, 1) := by decide +kernel
theorem d_CarDesk_call_76 : decode b_CarDesk_call 76 = .ok (.dup, 1) := by decide +kernel
theorem d_CarDesk_call_77 : decode b_CarDesk_call 77 = .ok (.getfield 54, 3) := by decide +kernel
theorem d_CarDesk_call_80 : decode b_CarDesk_call 80 = .ok (.iconst 1, 1) := by decide +kernel
theorem d_CarDesk_call_81 : decode b_CarDesk_call 81 = .ok (.iadd, 1) := by decide +kernel
theorem d_CarDesk_call_82 : decode b_CarDesk_call 82 = .ok (.putfield 54, 3) := by decide +kernel
theorem d_CarDesk_call_85 : decode b_CarDesk_call 85 = .ok (.aload_n 0, 1) := by decide +kernel
theorem d_CarDesk_call_86 : decode b_CarDesk_call 86 = .ok (.iload_n 1, 1) := by decide +kernel
theorem d_CarDesk_call_87 : decode b_CarDesk_call 87 = .ok (.aload 5, 2) := by decide +kernel
theorem d_CarDesk_call_89 : decode b_CarDesk_call 89 = .ok (.lload_n 3, 1) := by decide +kernel
theorem d_CarDesk_call_90 : decode b_CarDesk_call 90 = .ok (.invokevirtual 134, 3) := by decide +kernel
theorem d_CarDesk_call_93 : decode b_CarDesk_call 93 = .ok (.lstore 8, 2) := by decide +kernel
theorem d_CarDesk_call_95 : decode b_CarDesk_call 95 = .ok (.aload_n 0, 1) := by decide +kernel
theorem d_CarDesk_call_96 : decode b_CarDesk_call 96 = .ok (.iload_n 1, 1) := by decide +kernel
theorem d_CarDesk_call_97 : decode b_CarDesk_call 97 = .ok (.aload 5, 2) := by decide +kernel
theorem d_CarDesk_call_99 : decode b_CarDesk_call 99 = .ok (.lload_n 3, 1) := by decide +kernel
theorem d_CarDesk_call_100 : decode b_CarDesk_call 100 = .ok (.invokevirtual 138, 3) := by decide +kernel
theorem d_CarDesk_call_103 : decode b_CarDesk_call 103 = .ok (.lload 8, 2) := by decide +kernel
theorem d_CarDesk_call_105 : decode b_CarDesk_call 105 = .ok (.lreturn, 1) := by decide +kernel

theorem d_CarDesk_told_0 : decode b_CarDesk_told 0 = .ok (.iload_n 1, 1) := by decide +kernel
theorem d_CarDesk_told_1 : decode b_CarDesk_told 1 = .ok (.tableswitch 123 0 10 #[59, 64, 69, 74, 79, 84, 89, 94, 99, 107, 115], 59) := by decide +kernel
theorem d_CarDesk_told_60 : decode b_CarDesk_told 60 = .ok (.aload_n 0, 1) := by decide +kernel
theorem d_CarDesk_told_61 : decode b_CarDesk_told 61 = .ok (.getfield 38, 3) := by decide +kernel
theorem d_CarDesk_told_64 : decode b_CarDesk_told 64 = .ok (.ireturn, 1) := by decide +kernel
theorem d_CarDesk_told_65 : decode b_CarDesk_told 65 = .ok (.aload_n 0, 1) := by decide +kernel
theorem d_CarDesk_told_66 : decode b_CarDesk_told 66 = .ok (.getfield 42, 3) := by decide +kernel
theorem d_CarDesk_told_69 : decode b_CarDesk_told 69 = .ok (.ireturn, 1) := by decide +kernel
theorem d_CarDesk_told_70 : decode b_CarDesk_told 70 = .ok (.aload_n 0, 1) := by decide +kernel
theorem d_CarDesk_told_71 : decode b_CarDesk_told 71 = .ok (.getfield 45, 3) := by decide +kernel
theorem d_CarDesk_told_74 : decode b_CarDesk_told 74 = .ok (.ireturn, 1) := by decide +kernel
theorem d_CarDesk_told_75 : decode b_CarDesk_told 75 = .ok (.aload_n 0, 1) := by decide +kernel
theorem d_CarDesk_told_76 : decode b_CarDesk_told 76 = .ok (.getfield 48, 3) := by decide +kernel
theorem d_CarDesk_told_79 : decode b_CarDesk_told 79 = .ok (.ireturn, 1) := by decide +kernel
theorem d_CarDesk_told_80 : decode b_CarDesk_told 80 = .ok (.aload_n 0, 1) := by decide +kernel
theorem d_CarDesk_told_81 : decode b_CarDesk_told 81 = .ok (.getfield 51, 3) := by decide +kernel
theorem d_CarDesk_told_84 : decode b_CarDesk_told 84 = .ok (.ireturn, 1) := by decide +kernel
theorem d_CarDesk_told_85 : decode b_CarDesk_told 85 = .ok (.aload_n 0, 1) := by decide +kernel
theorem d_CarDesk_told_86 : decode b_CarDesk_told 86 = .ok (.getfield 54, 3) := by decide +kernel
theorem d_CarDesk_told_89 : decode b_CarDesk_told 89 = .ok (.ireturn, 1) := by decide +kernel
theorem d_CarDesk_told_90 : decode b_CarDesk_told 90 = .ok (.aload_n 0, 1) := by decide +kernel
theorem d_CarDesk_told_91 : decode b_CarDesk_told 91 = .ok (.getfield 57, 3) := by decide +kernel
theorem d_CarDesk_told_94 : decode b_CarDesk_told 94 = .ok (.ireturn, 1) := by decide +kernel
theorem d_CarDesk_told_95 : decode b_CarDesk_told 95 = .ok (.aload_n 0, 1) := by decide +kernel
theorem d_CarDesk_told_96 : decode b_CarDesk_told 96 = .ok (.getfield 60, 3) := by decide +kernel
theorem d_CarDesk_told_99 : decode b_CarDesk_told 99 = .ok (.ireturn, 1) := by decide +kernel
theorem d_CarDesk_told_100 : decode b_CarDesk_told 100 = .ok (.aload_n 0, 1) := by decide +kernel
theorem d_CarDesk_told_101 : decode b_CarDesk_told 101 = .ok (.getfield 12, 3) := by decide +kernel
theorem d_CarDesk_told_104 : decode b_CarDesk_told 104 = .ok (.getfield 82, 3) := by decide +kernel
theorem d_CarDesk_told_107 : decode b_CarDesk_told 107 = .ok (.ireturn, 1) := by decide +kernel
theorem d_CarDesk_told_108 : decode b_CarDesk_told 108 = .ok (.aload_n 0, 1) := by decide +kernel
theorem d_CarDesk_told_109 : decode b_CarDesk_told 109 = .ok (.getfield 18, 3) := by decide +kernel
theorem d_CarDesk_told_112 : decode b_CarDesk_told 112 = .ok (.getfield 82, 3) := by decide +kernel
theorem d_CarDesk_told_115 : decode b_CarDesk_told 115 = .ok (.ireturn, 1) := by decide +kernel
theorem d_CarDesk_told_116 : decode b_CarDesk_told 116 = .ok (.aload_n 0, 1) := by decide +kernel
theorem d_CarDesk_told_117 : decode b_CarDesk_told 117 = .ok (.getfield 21, 3) := by decide +kernel
theorem d_CarDesk_told_120 : decode b_CarDesk_told 120 = .ok (.getfield 82, 3) := by decide +kernel
theorem d_CarDesk_told_123 : decode b_CarDesk_told 123 = .ok (.ireturn, 1) := by decide +kernel
theorem d_CarDesk_told_124 : decode b_CarDesk_told 124 = .ok (.bipush (-2), 2) := by decide +kernel
theorem d_CarDesk_told_126 : decode b_CarDesk_told 126 = .ok (.ireturn, 1) := by decide +kernel

theorem d_CarDesk_drop_0 : decode b_CarDesk_drop 0 = .ok (.aload_n 0, 1) := by decide +kernel
theorem d_CarDesk_drop_1 : decode b_CarDesk_drop 1 = .ok (.iload_n 1, 1) := by decide +kernel
theorem d_CarDesk_drop_2 : decode b_CarDesk_drop 2 = .ok (.i2l, 1) := by decide +kernel
theorem d_CarDesk_drop_3 : decode b_CarDesk_drop 3 = .ok (.invokevirtual 142, 3) := by decide +kernel
theorem d_CarDesk_drop_6 : decode b_CarDesk_drop 6 = .ok (.astore_n 2, 1) := by decide +kernel
theorem d_CarDesk_drop_7 : decode b_CarDesk_drop 7 = .ok (.aload_n 2, 1) := by decide +kernel
theorem d_CarDesk_drop_8 : decode b_CarDesk_drop 8 = .ok (.ifnull 10, 3) := by decide +kernel
theorem d_CarDesk_drop_11 : decode b_CarDesk_drop 11 = .ok (.aload_n 2, 1) := by decide +kernel
theorem d_CarDesk_drop_12 : decode b_CarDesk_drop 12 = .ok (.invokevirtual 146, 3) := by decide +kernel
theorem d_CarDesk_drop_15 : decode b_CarDesk_drop 15 = .ok (.ifCond .eq 15, 3) := by decide +kernel
theorem d_CarDesk_drop_18 : decode b_CarDesk_drop 18 = .ok (.aload_n 0, 1) := by decide +kernel
theorem d_CarDesk_drop_19 : decode b_CarDesk_drop 19 = .ok (.dup, 1) := by decide +kernel
theorem d_CarDesk_drop_20 : decode b_CarDesk_drop 20 = .ok (.getfield 38, 3) := by decide +kernel
theorem d_CarDesk_drop_23 : decode b_CarDesk_drop 23 = .ok (.iconst 1, 1) := by decide +kernel
theorem d_CarDesk_drop_24 : decode b_CarDesk_drop 24 = .ok (.iadd, 1) := by decide +kernel
theorem d_CarDesk_drop_25 : decode b_CarDesk_drop 25 = .ok (.putfield 38, 3) := by decide +kernel
theorem d_CarDesk_drop_28 : decode b_CarDesk_drop 28 = .ok (.iconst 0, 1) := by decide +kernel
theorem d_CarDesk_drop_29 : decode b_CarDesk_drop 29 = .ok (.ireturn, 1) := by decide +kernel
theorem d_CarDesk_drop_30 : decode b_CarDesk_drop 30 = .ok (.aload_n 2, 1) := by decide +kernel
theorem d_CarDesk_drop_31 : decode b_CarDesk_drop 31 = .ok (.invokevirtual 149, 3) := by decide +kernel
theorem d_CarDesk_drop_34 : decode b_CarDesk_drop 34 = .ok (.aload_n 0, 1) := by decide +kernel
theorem d_CarDesk_drop_35 : decode b_CarDesk_drop 35 = .ok (.dup, 1) := by decide +kernel
theorem d_CarDesk_drop_36 : decode b_CarDesk_drop 36 = .ok (.getfield 60, 3) := by decide +kernel
theorem d_CarDesk_drop_39 : decode b_CarDesk_drop 39 = .ok (.iconst 1, 1) := by decide +kernel
theorem d_CarDesk_drop_40 : decode b_CarDesk_drop 40 = .ok (.iadd, 1) := by decide +kernel
theorem d_CarDesk_drop_41 : decode b_CarDesk_drop 41 = .ok (.putfield 60, 3) := by decide +kernel
theorem d_CarDesk_drop_44 : decode b_CarDesk_drop 44 = .ok (.iconst 1, 1) := by decide +kernel
theorem d_CarDesk_drop_45 : decode b_CarDesk_drop 45 = .ok (.ireturn, 1) := by decide +kernel

theorem d_CarDesk_numbers_0 : decode b_CarDesk_numbers 0 = .ok (.iload_n 1, 1) := by decide +kernel
theorem d_CarDesk_numbers_1 : decode b_CarDesk_numbers 1 = .ok (.invokestatic 93, 3) := by decide +kernel
theorem d_CarDesk_numbers_4 : decode b_CarDesk_numbers 4 = .ok (.ifCond .eq 15, 3) := by decide +kernel
theorem d_CarDesk_numbers_7 : decode b_CarDesk_numbers 7 = .ok (.aload_n 0, 1) := by decide +kernel
theorem d_CarDesk_numbers_8 : decode b_CarDesk_numbers 8 = .ok (.getfield 26, 3) := by decide +kernel
theorem d_CarDesk_numbers_11 : decode b_CarDesk_numbers 11 = .ok (.iload_n 1, 1) := by decide +kernel
theorem d_CarDesk_numbers_12 : decode b_CarDesk_numbers 12 = .ok (.aaload, 1) := by decide +kernel
theorem d_CarDesk_numbers_13 : decode b_CarDesk_numbers 13 = .ok (.invokevirtual 152, 3) := by decide +kernel
theorem d_CarDesk_numbers_16 : decode b_CarDesk_numbers 16 = .ok (.goto 4, 3) := by decide +kernel
theorem d_CarDesk_numbers_19 : decode b_CarDesk_numbers 19 = .ok (.iconst 0, 1) := by decide +kernel
theorem d_CarDesk_numbers_20 : decode b_CarDesk_numbers 20 = .ok (.ireturn, 1) := by decide +kernel

theorem d_CarDesk_again_0 : decode b_CarDesk_again 0 = .ok (.aload_n 0, 1) := by decide +kernel
theorem d_CarDesk_again_1 : decode b_CarDesk_again 1 = .ok (.getfield 60, 3) := by decide +kernel
theorem d_CarDesk_again_4 : decode b_CarDesk_again 4 = .ok (.sipush 128, 3) := by decide +kernel
theorem d_CarDesk_again_7 : decode b_CarDesk_again 7 = .ok (.if_icmp .le 7, 3) := by decide +kernel
theorem d_CarDesk_again_10 : decode b_CarDesk_again 10 = .ok (.ldc2_w 156, 3) := by decide +kernel
theorem d_CarDesk_again_13 : decode b_CarDesk_again 13 = .ok (.lreturn, 1) := by decide +kernel
theorem d_CarDesk_again_14 : decode b_CarDesk_again 14 = .ok (.aload_n 0, 1) := by decide +kernel
theorem d_CarDesk_again_15 : decode b_CarDesk_again 15 = .ok (.iload_n 1, 1) := by decide +kernel
theorem d_CarDesk_again_16 : decode b_CarDesk_again 16 = .ok (.iload_n 2, 1) := by decide +kernel
theorem d_CarDesk_again_17 : decode b_CarDesk_again 17 = .ok (.i2l, 1) := by decide +kernel
theorem d_CarDesk_again_18 : decode b_CarDesk_again 18 = .ok (.invokevirtual 122, 3) := by decide +kernel
theorem d_CarDesk_again_21 : decode b_CarDesk_again 21 = .ok (.astore 5, 2) := by decide +kernel
theorem d_CarDesk_again_23 : decode b_CarDesk_again 23 = .ok (.aload_n 0, 1) := by decide +kernel
theorem d_CarDesk_again_24 : decode b_CarDesk_again 24 = .ok (.iload_n 1, 1) := by decide +kernel
theorem d_CarDesk_again_25 : decode b_CarDesk_again 25 = .ok (.aload 5, 2) := by decide +kernel
theorem d_CarDesk_again_27 : decode b_CarDesk_again 27 = .ok (.lload_n 3, 1) := by decide +kernel
theorem d_CarDesk_again_28 : decode b_CarDesk_again 28 = .ok (.invokevirtual 126, 3) := by decide +kernel
theorem d_CarDesk_again_31 : decode b_CarDesk_again 31 = .ok (.istore 6, 2) := by decide +kernel
theorem d_CarDesk_again_33 : decode b_CarDesk_again 33 = .ok (.aload 5, 2) := by decide +kernel
theorem d_CarDesk_again_35 : decode b_CarDesk_again 35 = .ok (.ifnull 8, 3) := by decide +kernel
theorem d_CarDesk_again_38 : decode b_CarDesk_again 38 = .ok (.iload 6, 2) := by decide +kernel
theorem d_CarDesk_again_40 : decode b_CarDesk_again 40 = .ok (.ifCond .eq 7, 3) := by decide +kernel
theorem d_CarDesk_again_43 : decode b_CarDesk_again 43 = .ok (.iload 6, 2) := by decide +kernel
theorem d_CarDesk_again_45 : decode b_CarDesk_again 45 = .ok (.i2l, 1) := by decide +kernel
theorem d_CarDesk_again_46 : decode b_CarDesk_again 46 = .ok (.lreturn, 1) := by decide +kernel
theorem d_CarDesk_again_47 : decode b_CarDesk_again 47 = .ok (.aload_n 0, 1) := by decide +kernel
theorem d_CarDesk_again_48 : decode b_CarDesk_again 48 = .ok (.getfield 34, 3) := by decide +kernel
theorem d_CarDesk_again_51 : decode b_CarDesk_again 51 = .ok (.iload_n 1, 1) := by decide +kernel
theorem d_CarDesk_again_52 : decode b_CarDesk_again 52 = .ok (.iaload, 1) := by decide +kernel
theorem d_CarDesk_again_53 : decode b_CarDesk_again 53 = .ok (.istore 7, 2) := by decide +kernel
theorem d_CarDesk_again_55 : decode b_CarDesk_again 55 = .ok (.iload 7, 2) := by decide +kernel
theorem d_CarDesk_again_57 : decode b_CarDesk_again 57 = .ok (.ifCond .eq 12, 3) := by decide +kernel
theorem d_CarDesk_again_60 : decode b_CarDesk_again 60 = .ok (.bipush (-100), 2) := by decide +kernel
theorem d_CarDesk_again_62 : decode b_CarDesk_again 62 = .ok (.iload 7, 2) := by decide +kernel
theorem d_CarDesk_again_64 : decode b_CarDesk_again 64 = .ok (.isub, 1) := by decide +kernel
theorem d_CarDesk_again_65 : decode b_CarDesk_again 65 = .ok (.i2l, 1) := by decide +kernel
theorem d_CarDesk_again_66 : decode b_CarDesk_again 66 = .ok (.goto 11, 3) := by decide +kernel
theorem d_CarDesk_again_69 : decode b_CarDesk_again 69 = .ok (.aload_n 0, 1) := by decide +kernel
theorem d_CarDesk_again_70 : decode b_CarDesk_again 70 = .ok (.iload_n 1, 1) := by decide +kernel
theorem d_CarDesk_again_71 : decode b_CarDesk_again 71 = .ok (.aload 5, 2) := by decide +kernel
theorem d_CarDesk_again_73 : decode b_CarDesk_again 73 = .ok (.lload_n 3, 1) := by decide +kernel
theorem d_CarDesk_again_74 : decode b_CarDesk_again 74 = .ok (.invokevirtual 134, 3) := by decide +kernel
theorem d_CarDesk_again_77 : decode b_CarDesk_again 77 = .ok (.lreturn, 1) := by decide +kernel

