theorem d_Model_refuse_0 : decode b_Model_refuse 0 = .ok (.aload_n 0, 1) := by decide +kernel
theorem d_Model_refuse_1 : decode b_Model_refuse 1 = .ok (.dup, 1) := by decide +kernel
theorem d_Model_refuse_2 : decode b_Model_refuse 2 = .ok (.getfield 49, 3) := by decide +kernel
theorem d_Model_refuse_5 : decode b_Model_refuse 5 = .ok (.iconst 1, 1) := by decide +kernel
theorem d_Model_refuse_6 : decode b_Model_refuse 6 = .ok (.iadd, 1) := by decide +kernel
theorem d_Model_refuse_7 : decode b_Model_refuse 7 = .ok (.putfield 49, 3) := by decide +kernel
theorem d_Model_refuse_10 : decode b_Model_refuse 10 = .ok (.iload_n 1, 1) := by decide +kernel
theorem d_Model_refuse_11 : decode b_Model_refuse 11 = .ok (.ireturn, 1) := by decide +kernel

theorem d_Model_isFar_0 : decode b_Model_isFar 0 = .ok (.lload_n 0, 1) := by decide +kernel
theorem d_Model_isFar_1 : decode b_Model_isFar 1 = .ok (.ldc2_w 63, 3) := by decide +kernel
theorem d_Model_isFar_4 : decode b_Model_isFar 4 = .ok (.lcmp, 1) := by decide +kernel
theorem d_Model_isFar_5 : decode b_Model_isFar 5 = .ok (.ifCond .lt 11, 3) := by decide +kernel
theorem d_Model_isFar_8 : decode b_Model_isFar 8 = .ok (.lload_n 0, 1) := by decide +kernel
theorem d_Model_isFar_9 : decode b_Model_isFar 9 = .ok (.ldc2_w 65, 3) := by decide +kernel
theorem d_Model_isFar_12 : decode b_Model_isFar 12 = .ok (.lcmp, 1) := by decide +kernel
theorem d_Model_isFar_13 : decode b_Model_isFar 13 = .ok (.ifCond .le 7, 3) := by decide +kernel
theorem d_Model_isFar_16 : decode b_Model_isFar 16 = .ok (.iconst 1, 1) := by decide +kernel
theorem d_Model_isFar_17 : decode b_Model_isFar 17 = .ok (.goto 4, 3) := by decide +kernel
theorem d_Model_isFar_20 : decode b_Model_isFar 20 = .ok (.iconst 0, 1) := by decide +kernel
theorem d_Model_isFar_21 : decode b_Model_isFar 21 = .ok (.ireturn, 1) := by decide +kernel

theorem d_Model_answer_0 : decode b_Model_answer 0 = .ok (.aload_n 0, 1) := by decide +kernel
theorem d_Model_answer_1 : decode b_Model_answer 1 = .ok (.iconst 0, 1) := by decide +kernel
theorem d_Model_answer_2 : decode b_Model_answer 2 = .ok (.putfield 45, 3) := by decide +kernel
theorem d_Model_answer_5 : decode b_Model_answer 5 = .ok (.iload_n 1, 1) := by decide +kernel
theorem d_Model_answer_6 : decode b_Model_answer 6 = .ok (.ifCond .lt 9, 3) := by decide +kernel
theorem d_Model_answer_9 : decode b_Model_answer 9 = .ok (.iload_n 1, 1) := by decide +kernel
theorem d_Model_answer_10 : decode b_Model_answer 10 = .ok (.bipush 23, 2) := by decide +kernel
theorem d_Model_answer_12 : decode b_Model_answer 12 = .ok (.if_icmp .le 9, 3) := by decide +kernel
theorem d_Model_answer_15 : decode b_Model_answer 15 = .ok (.aload_n 0, 1) := by decide +kernel
theorem d_Model_answer_16 : decode b_Model_answer 16 = .ok (.iconst (-1), 1) := by decide +kernel
theorem d_Model_answer_17 : decode b_Model_answer 17 = .ok (.invokevirtual 52, 3) := by decide +kernel
theorem d_Model_answer_20 : decode b_Model_answer 20 = .ok (.ireturn, 1) := by decide +kernel
theorem d_Model_answer_21 : decode b_Model_answer 21 = .ok (.lload_n 2, 1) := by decide +kernel
theorem d_Model_answer_22 : decode b_Model_answer 22 = .ok (.invokestatic 67, 3) := by decide +kernel
theorem d_Model_answer_25 : decode b_Model_answer 25 = .ok (.ifCond .eq 10, 3) := by decide +kernel
theorem d_Model_answer_28 : decode b_Model_answer 28 = .ok (.aload_n 0, 1) := by decide +kernel
theorem d_Model_answer_29 : decode b_Model_answer 29 = .ok (.bipush (-2), 2) := by decide +kernel
theorem d_Model_answer_31 : decode b_Model_answer 31 = .ok (.invokevirtual 52, 3) := by decide +kernel
theorem d_Model_answer_34 : decode b_Model_answer 34 = .ok (.ireturn, 1) := by decide +kernel
theorem d_Model_answer_35 : decode b_Model_answer 35 = .ok (.aload_n 0, 1) := by decide +kernel
theorem d_Model_answer_36 : decode b_Model_answer 36 = .ok (.getfield 22, 3) := by decide +kernel
theorem d_Model_answer_39 : decode b_Model_answer 39 = .ok (.iload_n 1, 1) := by decide +kernel
theorem d_Model_answer_40 : decode b_Model_answer 40 = .ok (.lload_n 2, 1) := by decide +kernel
theorem d_Model_answer_41 : decode b_Model_answer 41 = .ok (.lastore, 1) := by decide +kernel
theorem d_Model_answer_42 : decode b_Model_answer 42 = .ok (.aload_n 0, 1) := by decide +kernel
theorem d_Model_answer_43 : decode b_Model_answer 43 = .ok (.dup, 1) := by decide +kernel
theorem d_Model_answer_44 : decode b_Model_answer 44 = .ok (.getfield 60, 3) := by decide +kernel
theorem d_Model_answer_47 : decode b_Model_answer 47 = .ok (.iconst 1, 1) := by decide +kernel
theorem d_Model_answer_48 : decode b_Model_answer 48 = .ok (.iadd, 1) := by decide +kernel
theorem d_Model_answer_49 : decode b_Model_answer 49 = .ok (.putfield 60, 3) := by decide +kernel
theorem d_Model_answer_52 : decode b_Model_answer 52 = .ok (.iconst 1, 1) := by decide +kernel
theorem d_Model_answer_53 : decode b_Model_answer 53 = .ok (.ireturn, 1) := by decide +kernel

theorem d_Model_fails_0 : decode b_Model_fails 0 = .ok (.aload_n 0, 1) := by decide +kernel
theorem d_Model_fails_1 : decode b_Model_fails 1 = .ok (.iconst 0, 1) := by decide +kernel
theorem d_Model_fails_2 : decode b_Model_fails 2 = .ok (.putfield 45, 3) := by decide +kernel
theorem d_Model_fails_5 : decode b_Model_fails 5 = .ok (.iload_n 1, 1) := by decide +kernel
theorem d_Model_fails_6 : decode b_Model_fails 6 = .ok (.ifCond .lt 9, 3) := by decide +kernel
theorem d_Model_fails_9 : decode b_Model_fails 9 = .ok (.iload_n 1, 1) := by decide +kernel
theorem d_Model_fails_10 : decode b_Model_fails 10 = .ok (.bipush 23, 2) := by decide +kernel
theorem d_Model_fails_12 : decode b_Model_fails 12 = .ok (.if_icmp .le 9, 3) := by decide +kernel
theorem d_Model_fails_15 : decode b_Model_fails 15 = .ok (.aload_n 0, 1) := by decide +kernel
theorem d_Model_fails_16 : decode b_Model_fails 16 = .ok (.iconst (-1), 1) := by decide +kernel
theorem d_Model_fails_17 : decode b_Model_fails 17 = .ok (.invokevirtual 52, 3) := by decide +kernel
theorem d_Model_fails_20 : decode b_Model_fails 20 = .ok (.ireturn, 1) := by decide +kernel
theorem d_Model_fails_21 : decode b_Model_fails 21 = .ok (.iload_n 2, 1) := by decide +kernel
theorem d_Model_fails_22 : decode b_Model_fails 22 = .ok (.ifCond .lt 8, 3) := by decide +kernel
theorem d_Model_fails_25 : decode b_Model_fails 25 = .ok (.iload_n 2, 1) := by decide +kernel
theorem d_Model_fails_26 : decode b_Model_fails 26 = .ok (.iconst 4, 1) := by decide +kernel
theorem d_Model_fails_27 : decode b_Model_fails 27 = .ok (.if_icmp .le 10, 3) := by decide +kernel
theorem d_Model_fails_30 : decode b_Model_fails 30 = .ok (.aload_n 0, 1) := by decide +kernel
theorem d_Model_fails_31 : decode b_Model_fails 31 = .ok (.bipush (-2), 2) := by decide +kernel
theorem d_Model_fails_33 : decode b_Model_fails 33 = .ok (.invokevirtual 52, 3) := by decide +kernel
theorem d_Model_fails_36 : decode b_Model_fails 36 = .ok (.ireturn, 1) := by decide +kernel
theorem d_Model_fails_37 : decode b_Model_fails 37 = .ok (.aload_n 0, 1) := by decide +kernel
theorem d_Model_fails_38 : decode b_Model_fails 38 = .ok (.getfield 26, 3) := by decide +kernel
theorem d_Model_fails_41 : decode b_Model_fails 41 = .ok (.iload_n 1, 1) := by decide +kernel
theorem d_Model_fails_42 : decode b_Model_fails 42 = .ok (.iaload, 1) := by decide +kernel
theorem d_Model_fails_43 : decode b_Model_fails 43 = .ok (.istore_n 3, 1) := by decide +kernel
theorem d_Model_fails_44 : decode b_Model_fails 44 = .ok (.aload_n 0, 1) := by decide +kernel
theorem d_Model_fails_45 : decode b_Model_fails 45 = .ok (.getfield 26, 3) := by decide +kernel
theorem d_Model_fails_48 : decode b_Model_fails 48 = .ok (.iload_n 1, 1) := by decide +kernel
theorem d_Model_fails_49 : decode b_Model_fails 49 = .ok (.iload_n 2, 1) := by decide +kernel
theorem d_Model_fails_50 : decode b_Model_fails 50 = .ok (.iastore, 1) := by decide +kernel
theorem d_Model_fails_51 : decode b_Model_fails 51 = .ok (.aload_n 0, 1) := by decide +kernel
theorem d_Model_fails_52 : decode b_Model_fails 52 = .ok (.dup, 1) := by decide +kernel
theorem d_Model_fails_53 : decode b_Model_fails 53 = .ok (.getfield 60, 3) := by decide +kernel
theorem d_Model_fails_56 : decode b_Model_fails 56 = .ok (.iconst 1, 1) := by decide +kernel
theorem d_Model_fails_57 : decode b_Model_fails 57 = .ok (.iadd, 1) := by decide +kernel
theorem d_Model_fails_58 : decode b_Model_fails 58 = .ok (.putfield 60, 3) := by decide +kernel
theorem d_Model_fails_61 : decode b_Model_fails 61 = .ok (.iload_n 3, 1) := by decide +kernel
theorem d_Model_fails_62 : decode b_Model_fails 62 = .ok (.ireturn, 1) := by decide +kernel

theorem d_Model_told_0 : decode b_Model_told 0 = .ok (.aload_n 0, 1) := by decide +kernel
theorem d_Model_told_1 : decode b_Model_told 1 = .ok (.iconst 0, 1) := by decide +kernel
theorem d_Model_told_2 : decode b_Model_told 2 = .ok (.putfield 45, 3) := by decide +kernel
theorem d_Model_told_5 : decode b_Model_told 5 = .ok (.iload_n 1, 1) := by decide +kernel
theorem d_Model_told_6 : decode b_Model_told 6 = .ok (.tableswitch 119 0 10 #[58, 63, 68, 73, 78, 83, 88, 93, 98, 105, 112], 58) := by decide +kernel
theorem d_Model_told_64 : decode b_Model_told 64 = .ok (.aload_n 0, 1) := by decide +kernel
theorem d_Model_told_65 : decode b_Model_told 65 = .ok (.getfield 49, 3) := by decide +kernel
theorem d_Model_told_68 : decode b_Model_told 68 = .ok (.ireturn, 1) := by decide +kernel
theorem d_Model_told_69 : decode b_Model_told 69 = .ok (.aload_n 0, 1) := by decide +kernel
theorem d_Model_told_70 : decode b_Model_told 70 = .ok (.getfield 118, 3) := by decide +kernel
theorem d_Model_told_73 : decode b_Model_told 73 = .ok (.ireturn, 1) := by decide +kernel
theorem d_Model_told_74 : decode b_Model_told 74 = .ok (.aload_n 0, 1) := by decide +kernel
theorem d_Model_told_75 : decode b_Model_told 75 = .ok (.getfield 121, 3) := by decide +kernel
theorem d_Model_told_78 : decode b_Model_told 78 = .ok (.ireturn, 1) := by decide +kernel
theorem d_Model_told_79 : decode b_Model_told 79 = .ok (.aload_n 0, 1) := by decide +kernel
theorem d_Model_told_80 : decode b_Model_told 80 = .ok (.getfield 124, 3) := by decide +kernel
theorem d_Model_told_83 : decode b_Model_told 83 = .ok (.ireturn, 1) := by decide +kernel
theorem d_Model_told_84 : decode b_Model_told 84 = .ok (.aload_n 0, 1) := by decide +kernel
theorem d_Model_told_85 : decode b_Model_told 85 = .ok (.getfield 127, 3) := by decide +kernel
theorem d_Model_told_88 : decode b_Model_told 88 = .ok (.ireturn, 1) := by decide +kernel
theorem d_Model_told_89 : decode b_Model_told 89 = .ok (.aload_n 0, 1) := by decide +kernel
theorem d_Model_told_90 : decode b_Model_told 90 = .ok (.getfield 132, 3) := by decide +kernel
theorem d_Model_told_93 : decode b_Model_told 93 = .ok (.ireturn, 1) := by decide +kernel
theorem d_Model_told_94 : decode b_Model_told 94 = .ok (.aload_n 0, 1) := by decide +kernel
theorem d_Model_told_95 : decode b_Model_told 95 = .ok (.getfield 97, 3) := by decide +kernel
theorem d_Model_told_98 : decode b_Model_told 98 = .ok (.ireturn, 1) := by decide +kernel
theorem d_Model_told_99 : decode b_Model_told 99 = .ok (.aload_n 0, 1) := by decide +kernel
theorem d_Model_told_100 : decode b_Model_told 100 = .ok (.getfield 60, 3) := by decide +kernel
theorem d_Model_told_103 : decode b_Model_told 103 = .ok (.ireturn, 1) := by decide +kernel
theorem d_Model_told_104 : decode b_Model_told 104 = .ok (.aload_n 0, 1) := by decide +kernel
theorem d_Model_told_105 : decode b_Model_told 105 = .ok (.getfield 19, 3) := by decide +kernel
theorem d_Model_told_108 : decode b_Model_told 108 = .ok (.iconst 0, 1) := by decide +kernel
theorem d_Model_told_109 : decode b_Model_told 109 = .ok (.iaload, 1) := by decide +kernel
theorem d_Model_told_110 : decode b_Model_told 110 = .ok (.ireturn, 1) := by decide +kernel
theorem d_Model_told_111 : decode b_Model_told 111 = .ok (.aload_n 0, 1) := by decide +kernel
theorem d_Model_told_112 : decode b_Model_told 112 = .ok (.getfield 19, 3) := by decide +kernel
theorem d_Model_told_115 : decode b_Model_told 115 = .ok (.iconst 1, 1) := by decide +kernel
theorem d_Model_told_116 : decode b_Model_told 116 = .ok (.iaload, 1) := by decide +kernel
theorem d_Model_told_117 : decode b_Model_told 117 = .ok (.ireturn, 1) := by decide +kernel
theorem d_Model_told_118 : decode b_Model_told 118 = .ok (.aload_n 0, 1) := by decide +kernel
theorem d_Model_told_119 : decode b_Model_told 119 = .ok (.getfield 19, 3) := by decide +kernel
theorem d_Model_told_122 : decode b_Model_told 122 = .ok (.iconst 2, 1) := by decide +kernel
theorem d_Model_told_123 : decode b_Model_told 123 = .ok (.iaload, 1) := by decide +kernel
theorem d_Model_told_124 : decode b_Model_told 124 = .ok (.ireturn, 1) := by decide +kernel
theorem d_Model_told_125 : decode b_Model_told 125 = .ok (.bipush (-2), 2) := by decide +kernel
theorem d_Model_told_127 : decode b_Model_told 127 = .ok (.ireturn, 1) := by decide +kernel

theorem d_Model_latest_0 : decode b_Model_latest 0 = .ok (.iconst (-1), 1) := by decide +kernel
theorem d_Model_latest_1 : decode b_Model_latest 1 = .ok (.istore_n 2, 1) := by decide +kernel
theorem d_Model_latest_2 : decode b_Model_latest 2 = .ok (.bipush 64, 2) := by decide +kernel
theorem d_Model_latest_4 : decode b_Model_latest 4 = .ok (.iload_n 1, 1) := by decide +kernel
theorem d_Model_latest_5 : decode b_Model_latest 5 = .ok (.imul, 1) := by decide +kernel
theorem d_Model_latest_6 : decode b_Model_latest 6 = .ok (.iconst 1, 1) := by decide +kernel
theorem d_Model_latest_7 : decode b_Model_latest 7 = .ok (.iadd, 1) := by decide +kernel
theorem d_Model_latest_8 : decode b_Model_latest 8 = .ok (.istore_n 3, 1) := by decide +kernel
theorem d_Model_latest_9 : decode b_Model_latest 9 = .ok (.iload_n 3, 1) := by decide +kernel
theorem d_Model_latest_10 : decode b_Model_latest 10 = .ok (.bipush 64, 2) := by decide +kernel
theorem d_Model_latest_12 : decode b_Model_latest 12 = .ok (.iload_n 1, 1) := by decide +kernel
theorem d_Model_latest_13 : decode b_Model_latest 13 = .ok (.imul, 1) := by decide +kernel
theorem d_Model_latest_14 : decode b_Model_latest 14 = .ok (.bipush 20, 2) := by decide +kernel
theorem d_Model_latest_16 : decode b_Model_latest 16 = .ok (.iadd, 1) := by decide +kernel
theorem d_Model_latest_17 : decode b_Model_latest 17 = .ok (.if_icmp .gt 24, 3) := by decide +kernel
theorem d_Model_latest_20 : decode b_Model_latest 20 = .ok (.aload_n 0, 1) := by decide +kernel
theorem d_Model_latest_21 : decode b_Model_latest 21 = .ok (.getfield 29, 3) := by decide +kernel
theorem d_Model_latest_24 : decode b_Model_latest 24 = .ok (.iload_n 3, 1) := by decide +kernel
theorem d_Model_latest_25 : decode b_Model_latest 25 = .ok (.baload, 1) := by decide +kernel
theorem d_Model_latest_26 : decode b_Model_latest 26 = .ok (.ifCond .eq 7, 3) := by decide +kernel
theorem d_Model_latest_29 : decode b_Model_latest 29 = .ok (.iload_n 3, 1) := by decide +kernel
theorem d_Model_latest_30 : decode b_Model_latest 30 = .ok (.goto 4, 3) := by decide +kernel
theorem d_Model_latest_33 : decode b_Model_latest 33 = .ok (.iload_n 2, 1) := by decide +kernel
theorem d_Model_latest_34 : decode b_Model_latest 34 = .ok (.istore_n 2, 1) := by decide +kernel
theorem d_Model_latest_35 : decode b_Model_latest 35 = .ok (.iinc 3 1, 3) := by decide +kernel
theorem d_Model_latest_38 : decode b_Model_latest 38 = .ok (.goto (-29), 3) := by decide +kernel
theorem d_Model_latest_41 : decode b_Model_latest 41 = .ok (.iload_n 2, 1) := by decide +kernel
theorem d_Model_latest_42 : decode b_Model_latest 42 = .ok (.ireturn, 1) := by decide +kernel

theorem d_Model_numbers_0 : decode b_Model_numbers 0 = .ok (.aload_n 0, 1) := by decide +kernel
theorem d_Model_numbers_1 : decode b_Model_numbers 1 = .ok (.iconst 0, 1) := by decide +kernel
theorem d_Model_numbers_2 : decode b_Model_numbers 2 = .ok (.putfield 45, 3) := by decide +kernel
theorem d_Model_numbers_5 : decode b_Model_numbers 5 = .ok (.iconst 0, 1) := by decide +kernel
theorem d_Model_numbers_6 : decode b_Model_numbers 6 = .ok (.istore_n 2, 1) := by decide +kernel
theorem d_Model_numbers_7 : decode b_Model_numbers 7 = .ok (.bipush 64, 2) := by decide +kernel
theorem d_Model_numbers_9 : decode b_Model_numbers 9 = .ok (.iload_n 1, 1) := by decide +kernel
theorem d_Model_numbers_10 : decode b_Model_numbers 10 = .ok (.imul, 1) := by decide +kernel
theorem d_Model_numbers_11 : decode b_Model_numbers 11 = .ok (.iconst 1, 1) := by decide +kernel
theorem d_Model_numbers_12 : decode b_Model_numbers 12 = .ok (.iadd, 1) := by decide +kernel
theorem d_Model_numbers_13 : decode b_Model_numbers 13 = .ok (.istore_n 3, 1) := by decide +kernel
theorem d_Model_numbers_14 : decode b_Model_numbers 14 = .ok (.iload_n 3, 1) := by decide +kernel
theorem d_Model_numbers_15 : decode b_Model_numbers 15 = .ok (.bipush 64, 2) := by decide +kernel
theorem d_Model_numbers_17 : decode b_Model_numbers 17 = .ok (.iload_n 1, 1) := by decide +kernel
theorem d_Model_numbers_18 : decode b_Model_numbers 18 = .ok (.imul, 1) := by decide +kernel
theorem d_Model_numbers_19 : decode b_Model_numbers 19 = .ok (.bipush 20, 2) := by decide +kernel
theorem d_Model_numbers_21 : decode b_Model_numbers 21 = .ok (.iadd, 1) := by decide +kernel
theorem d_Model_numbers_22 : decode b_Model_numbers 22 = .ok (.if_icmp .gt 36, 3) := by decide +kernel
theorem d_Model_numbers_25 : decode b_Model_numbers 25 = .ok (.iload_n 1, 1) := by decide +kernel
theorem d_Model_numbers_26 : decode b_Model_numbers 26 = .ok (.ifCond .lt 32, 3) := by decide +kernel
theorem d_Model_numbers_29 : decode b_Model_numbers 29 = .ok (.iload_n 1, 1) := by decide +kernel
theorem d_Model_numbers_30 : decode b_Model_numbers 30 = .ok (.bipush 6, 2) := by decide +kernel
theorem d_Model_numbers_32 : decode b_Model_numbers 32 = .ok (.if_icmp .ge 26, 3) := by decide +kernel
theorem d_Model_numbers_35 : decode b_Model_numbers 35 = .ok (.iload_n 2, 1) := by decide +kernel
theorem d_Model_numbers_36 : decode b_Model_numbers 36 = .ok (.aload_n 0, 1) := by decide +kernel
theorem d_Model_numbers_37 : decode b_Model_numbers 37 = .ok (.getfield 29, 3) := by decide +kernel
theorem d_Model_numbers_40 : decode b_Model_numbers 40 = .ok (.iload_n 3, 1) := by decide +kernel
theorem d_Model_numbers_41 : decode b_Model_numbers 41 = .ok (.baload, 1) := by decide +kernel
theorem d_Model_numbers_42 : decode b_Model_numbers 42 = .ok (.ifCond .eq 7, 3) := by decide +kernel
theorem d_Model_numbers_45 : decode b_Model_numbers 45 = .ok (.iconst 1, 1) := by decide +kernel
theorem d_Model_numbers_46 : decode b_Model_numbers 46 = .ok (.goto 4, 3) := by decide +kernel
theorem d_Model_numbers_49 : decode b_Model_numbers 49 = .ok (.iconst 0, 1) := by decide +kernel
theorem d_Model_numbers_50 : decode b_Model_numbers 50 = .ok (.iadd, 1) := by decide +kernel
theorem d_Model_numbers_51 : decode b_Model_numbers 51 = .ok (.istore_n 2, 1) := by decide +kernel
theorem d_Model_numbers_52 : decode b_Model_numbers 52 = .ok (.iinc 3 1, 3) := by decide +kernel
theorem d_Model_numbers_55 : decode b_Model_numbers 55 = .ok (.goto (-41), 3) := by decide +kernel
theorem d_Model_numbers_58 : decode b_Model_numbers 58 = .ok (.iload_n 2, 1) := by decide +kernel
theorem d_Model_numbers_59 : decode b_Model_numbers 59 = .ok (.ireturn, 1) := by decide +kernel

