theorem d_Model_stepped_0 : decode b_Model_stepped 0 = .ok (.aload_n 0, 1) := by decide +kernel
theorem d_Model_stepped_1 : decode b_Model_stepped 1 = .ok (.getfield 33, 3) := by decide +kernel
theorem d_Model_stepped_4 : decode b_Model_stepped 4 = .ok (.iload_n 2, 1) := by decide +kernel
theorem d_Model_stepped_5 : decode b_Model_stepped 5 = .ok (.laload, 1) := by decide +kernel
theorem d_Model_stepped_6 : decode b_Model_stepped 6 = .ok (.lstore 5, 2) := by decide +kernel
theorem d_Model_stepped_8 : decode b_Model_stepped 8 = .ok (.iload_n 1, 1) := by decide +kernel
theorem d_Model_stepped_9 : decode b_Model_stepped 9 = .ok (.bipush 6, 2) := by decide +kernel
theorem d_Model_stepped_11 : decode b_Model_stepped 11 = .ok (.irem, 1) := by decide +kernel
theorem d_Model_stepped_12 : decode b_Model_stepped 12 = .ok (.tableswitch 119 0 4 #[36, 41, 57, 90, 107], 36) := by decide +kernel
theorem d_Model_stepped_48 : decode b_Model_stepped 48 = .ok (.lload 5, 2) := by decide +kernel
theorem d_Model_stepped_50 : decode b_Model_stepped 50 = .ok (.lload_n 3, 1) := by decide +kernel
theorem d_Model_stepped_51 : decode b_Model_stepped 51 = .ok (.lxor, 1) := by decide +kernel
theorem d_Model_stepped_52 : decode b_Model_stepped 52 = .ok (.lreturn, 1) := by decide +kernel
theorem d_Model_stepped_53 : decode b_Model_stepped 53 = .ok (.ldc2_w 73, 3) := by decide +kernel
theorem d_Model_stepped_56 : decode b_Model_stepped 56 = .ok (.lload 5, 2) := by decide +kernel
theorem d_Model_stepped_58 : decode b_Model_stepped 58 = .ok (.lmul, 1) := by decide +kernel
theorem d_Model_stepped_59 : decode b_Model_stepped 59 = .ok (.lload_n 3, 1) := by decide +kernel
theorem d_Model_stepped_60 : decode b_Model_stepped 60 = .ok (.ladd, 1) := by decide +kernel
theorem d_Model_stepped_61 : decode b_Model_stepped 61 = .ok (.aload_n 0, 1) := by decide +kernel
theorem d_Model_stepped_62 : decode b_Model_stepped 62 = .ok (.getfield 22, 3) := by decide +kernel
theorem d_Model_stepped_65 : decode b_Model_stepped 65 = .ok (.iload_n 1, 1) := by decide +kernel
theorem d_Model_stepped_66 : decode b_Model_stepped 66 = .ok (.laload, 1) := by decide +kernel
theorem d_Model_stepped_67 : decode b_Model_stepped 67 = .ok (.ladd, 1) := by decide +kernel
theorem d_Model_stepped_68 : decode b_Model_stepped 68 = .ok (.lreturn, 1) := by decide +kernel
theorem d_Model_stepped_69 : decode b_Model_stepped 69 = .ok (.lload_n 3, 1) := by decide +kernel
theorem d_Model_stepped_70 : decode b_Model_stepped 70 = .ok (.ldc2_w 110, 3) := by decide +kernel
theorem d_Model_stepped_73 : decode b_Model_stepped 73 = .ok (.land, 1) := by decide +kernel
theorem d_Model_stepped_74 : decode b_Model_stepped 74 = .ok (.l2i, 1) := by decide +kernel
theorem d_Model_stepped_75 : decode b_Model_stepped 75 = .ok (.istore 7, 2) := by decide +kernel
theorem d_Model_stepped_77 : decode b_Model_stepped 77 = .ok (.iload 7, 2) := by decide +kernel
theorem d_Model_stepped_79 : decode b_Model_stepped 79 = .ok (.ifCond .ne 8, 3) := by decide +kernel
theorem d_Model_stepped_82 : decode b_Model_stepped 82 = .ok (.lload 5, 2) := by decide +kernel
theorem d_Model_stepped_84 : decode b_Model_stepped 84 = .ok (.goto 17, 3) := by decide +kernel
theorem d_Model_stepped_87 : decode b_Model_stepped 87 = .ok (.lload 5, 2) := by decide +kernel
theorem d_Model_stepped_89 : decode b_Model_stepped 89 = .ok (.iload 7, 2) := by decide +kernel
theorem d_Model_stepped_91 : decode b_Model_stepped 91 = .ok (.lshl, 1) := by decide +kernel
theorem d_Model_stepped_92 : decode b_Model_stepped 92 = .ok (.lload 5, 2) := by decide +kernel
theorem d_Model_stepped_94 : decode b_Model_stepped 94 = .ok (.bipush 64, 2) := by decide +kernel
theorem d_Model_stepped_96 : decode b_Model_stepped 96 = .ok (.iload 7, 2) := by decide +kernel
theorem d_Model_stepped_98 : decode b_Model_stepped 98 = .ok (.isub, 1) := by decide +kernel
theorem d_Model_stepped_99 : decode b_Model_stepped 99 = .ok (.lushr, 1) := by decide +kernel
theorem d_Model_stepped_100 : decode b_Model_stepped 100 = .ok (.lor, 1) := by decide +kernel
theorem d_Model_stepped_101 : decode b_Model_stepped 101 = .ok (.lreturn, 1) := by decide +kernel
theorem d_Model_stepped_102 : decode b_Model_stepped 102 = .ok (.lload 5, 2) := by decide +kernel
theorem d_Model_stepped_104 : decode b_Model_stepped 104 = .ok (.aload_n 0, 1) := by decide +kernel
theorem d_Model_stepped_105 : decode b_Model_stepped 105 = .ok (.getfield 33, 3) := by decide +kernel
theorem d_Model_stepped_108 : decode b_Model_stepped 108 = .ok (.aload_n 0, 1) := by decide +kernel
theorem d_Model_stepped_109 : decode b_Model_stepped 109 = .ok (.getfield 39, 3) := by decide +kernel
theorem d_Model_stepped_112 : decode b_Model_stepped 112 = .ok (.iload_n 2, 1) := by decide +kernel
theorem d_Model_stepped_113 : decode b_Model_stepped 113 = .ok (.iaload, 1) := by decide +kernel
theorem d_Model_stepped_114 : decode b_Model_stepped 114 = .ok (.laload, 1) := by decide +kernel
theorem d_Model_stepped_115 : decode b_Model_stepped 115 = .ok (.ladd, 1) := by decide +kernel
theorem d_Model_stepped_116 : decode b_Model_stepped 116 = .ok (.lload_n 3, 1) := by decide +kernel
theorem d_Model_stepped_117 : decode b_Model_stepped 117 = .ok (.ladd, 1) := by decide +kernel
theorem d_Model_stepped_118 : decode b_Model_stepped 118 = .ok (.lreturn, 1) := by decide +kernel
theorem d_Model_stepped_119 : decode b_Model_stepped 119 = .ok (.lload 5, 2) := by decide +kernel
theorem d_Model_stepped_121 : decode b_Model_stepped 121 = .ok (.lload_n 3, 1) := by decide +kernel
theorem d_Model_stepped_122 : decode b_Model_stepped 122 = .ok (.aload_n 0, 1) := by decide +kernel
theorem d_Model_stepped_123 : decode b_Model_stepped 123 = .ok (.getfield 22, 3) := by decide +kernel
theorem d_Model_stepped_126 : decode b_Model_stepped 126 = .ok (.iload_n 1, 1) := by decide +kernel
theorem d_Model_stepped_127 : decode b_Model_stepped 127 = .ok (.laload, 1) := by decide +kernel
theorem d_Model_stepped_128 : decode b_Model_stepped 128 = .ok (.lmul, 1) := by decide +kernel
theorem d_Model_stepped_129 : decode b_Model_stepped 129 = .ok (.ladd, 1) := by decide +kernel
theorem d_Model_stepped_130 : decode b_Model_stepped 130 = .ok (.lreturn, 1) := by decide +kernel
theorem d_Model_stepped_131 : decode b_Model_stepped 131 = .ok (.lload_n 3, 1) := by decide +kernel
theorem d_Model_stepped_132 : decode b_Model_stepped 132 = .ok (.lstore 7, 2) := by decide +kernel
theorem d_Model_stepped_134 : decode b_Model_stepped 134 = .ok (.bipush 65, 2) := by decide +kernel
theorem d_Model_stepped_136 : decode b_Model_stepped 136 = .ok (.istore 9, 2) := by decide +kernel
theorem d_Model_stepped_138 : decode b_Model_stepped 138 = .ok (.iload 9, 2) := by decide +kernel
theorem d_Model_stepped_140 : decode b_Model_stepped 140 = .ok (.bipush 84, 2) := by decide +kernel
theorem d_Model_stepped_142 : decode b_Model_stepped 142 = .ok (.if_icmp .gt 35, 3) := by decide +kernel
theorem d_Model_stepped_145 : decode b_Model_stepped 145 = .ok (.lload 7, 2) := by decide +kernel
theorem d_Model_stepped_147 : decode b_Model_stepped 147 = .ok (.aload_n 0, 1) := by decide +kernel
theorem d_Model_stepped_148 : decode b_Model_stepped 148 = .ok (.getfield 29, 3) := by decide +kernel
theorem d_Model_stepped_151 : decode b_Model_stepped 151 = .ok (.iload 9, 2) := by decide +kernel
theorem d_Model_stepped_153 : decode b_Model_stepped 153 = .ok (.baload, 1) := by decide +kernel
theorem d_Model_stepped_154 : decode b_Model_stepped 154 = .ok (.ifCond .eq 13, 3) := by decide +kernel
theorem d_Model_stepped_157 : decode b_Model_stepped 157 = .ok (.aload_n 0, 1) := by decide +kernel
theorem d_Model_stepped_158 : decode b_Model_stepped 158 = .ok (.getfield 33, 3) := by decide +kernel
theorem d_Model_stepped_161 : decode b_Model_stepped 161 = .ok (.iload 9, 2) := by decide +kernel
theorem d_Model_stepped_163 : decode b_Model_stepped 163 = .ok (.laload, 1) := by decide +kernel
theorem d_Model_stepped_164 : decode b_Model_stepped 164 = .ok (.goto 4, 3) := by decide +kernel
theorem d_Model_stepped_167 : decode b_Model_stepped 167 = .ok (.lconst 0, 1) := by decide +kernel
theorem d_Model_stepped_168 : decode b_Model_stepped 168 = .ok (.ladd, 1) := by decide +kernel
theorem d_Model_stepped_169 : decode b_Model_stepped 169 = .ok (.lstore 7, 2) := by decide +kernel
theorem d_Model_stepped_171 : decode b_Model_stepped 171 = .ok (.iinc 9 1, 3) := by decide +kernel
theorem d_Model_stepped_174 : decode b_Model_stepped 174 = .ok (.goto (-36), 3) := by decide +kernel
theorem d_Model_stepped_177 : decode b_Model_stepped 177 = .ok (.lload 7, 2) := by decide +kernel
theorem d_Model_stepped_179 : decode b_Model_stepped 179 = .ok (.lreturn, 1) := by decide +kernel

theorem d_Model_answerOf_0 : decode b_Model_answerOf 0 = .ok (.iload_n 1, 1) := by decide +kernel
theorem d_Model_answerOf_1 : decode b_Model_answerOf 1 = .ok (.bipush 6, 2) := by decide +kernel
theorem d_Model_answerOf_3 : decode b_Model_answerOf 3 = .ok (.idiv, 1) := by decide +kernel
theorem d_Model_answerOf_4 : decode b_Model_answerOf 4 = .ok (.tableswitch 59 0 2 #[28, 42, 49], 28) := by decide +kernel
theorem d_Model_answerOf_32 : decode b_Model_answerOf 32 = .ok (.aload_n 0, 1) := by decide +kernel
theorem d_Model_answerOf_33 : decode b_Model_answerOf 33 = .ok (.getfield 33, 3) := by decide +kernel
theorem d_Model_answerOf_36 : decode b_Model_answerOf 36 = .ok (.iload_n 2, 1) := by decide +kernel
theorem d_Model_answerOf_37 : decode b_Model_answerOf 37 = .ok (.laload, 1) := by decide +kernel
theorem d_Model_answerOf_38 : decode b_Model_answerOf 38 = .ok (.aload_n 0, 1) := by decide +kernel
theorem d_Model_answerOf_39 : decode b_Model_answerOf 39 = .ok (.getfield 22, 3) := by decide +kernel
theorem d_Model_answerOf_42 : decode b_Model_answerOf 42 = .ok (.iload_n 1, 1) := by decide +kernel
theorem d_Model_answerOf_43 : decode b_Model_answerOf 43 = .ok (.laload, 1) := by decide +kernel
theorem d_Model_answerOf_44 : decode b_Model_answerOf 44 = .ok (.ladd, 1) := by decide +kernel
theorem d_Model_answerOf_45 : decode b_Model_answerOf 45 = .ok (.lreturn, 1) := by decide +kernel
theorem d_Model_answerOf_46 : decode b_Model_answerOf 46 = .ok (.aload_n 0, 1) := by decide +kernel
theorem d_Model_answerOf_47 : decode b_Model_answerOf 47 = .ok (.getfield 33, 3) := by decide +kernel
theorem d_Model_answerOf_50 : decode b_Model_answerOf 50 = .ok (.iload_n 2, 1) := by decide +kernel
theorem d_Model_answerOf_51 : decode b_Model_answerOf 51 = .ok (.laload, 1) := by decide +kernel
theorem d_Model_answerOf_52 : decode b_Model_answerOf 52 = .ok (.lreturn, 1) := by decide +kernel
theorem d_Model_answerOf_53 : decode b_Model_answerOf 53 = .ok (.aload_n 0, 1) := by decide +kernel
theorem d_Model_answerOf_54 : decode b_Model_answerOf 54 = .ok (.getfield 36, 3) := by decide +kernel
theorem d_Model_answerOf_57 : decode b_Model_answerOf 57 = .ok (.iload_n 2, 1) := by decide +kernel
theorem d_Model_answerOf_58 : decode b_Model_answerOf 58 = .ok (.iaload, 1) := by decide +kernel
theorem d_Model_answerOf_59 : decode b_Model_answerOf 59 = .ok (.iconst 1, 1) := by decide +kernel
theorem d_Model_answerOf_60 : decode b_Model_answerOf 60 = .ok (.iadd, 1) := by decide +kernel
theorem d_Model_answerOf_61 : decode b_Model_answerOf 61 = .ok (.i2l, 1) := by decide +kernel
theorem d_Model_answerOf_62 : decode b_Model_answerOf 62 = .ok (.lreturn, 1) := by decide +kernel
theorem d_Model_answerOf_63 : decode b_Model_answerOf 63 = .ok (.aload_n 0, 1) := by decide +kernel
theorem d_Model_answerOf_64 : decode b_Model_answerOf 64 = .ok (.getfield 33, 3) := by decide +kernel
theorem d_Model_answerOf_67 : decode b_Model_answerOf 67 = .ok (.lload_n 3, 1) := by decide +kernel
theorem d_Model_answerOf_68 : decode b_Model_answerOf 68 = .ok (.l2i, 1) := by decide +kernel
theorem d_Model_answerOf_69 : decode b_Model_answerOf 69 = .ok (.laload, 1) := by decide +kernel
theorem d_Model_answerOf_70 : decode b_Model_answerOf 70 = .ok (.lstore 5, 2) := by decide +kernel
theorem d_Model_answerOf_72 : decode b_Model_answerOf 72 = .ok (.aload_n 0, 1) := by decide +kernel
theorem d_Model_answerOf_73 : decode b_Model_answerOf 73 = .ok (.getfield 33, 3) := by decide +kernel
theorem d_Model_answerOf_76 : decode b_Model_answerOf 76 = .ok (.iload_n 2, 1) := by decide +kernel
theorem d_Model_answerOf_77 : decode b_Model_answerOf 77 = .ok (.laload, 1) := by decide +kernel
theorem d_Model_answerOf_78 : decode b_Model_answerOf 78 = .ok (.lload 5, 2) := by decide +kernel
theorem d_Model_answerOf_80 : decode b_Model_answerOf 80 = .ok (.lcmp, 1) := by decide +kernel
theorem d_Model_answerOf_81 : decode b_Model_answerOf 81 = .ok (.ifCond .ge 7, 3) := by decide +kernel
theorem d_Model_answerOf_84 : decode b_Model_answerOf 84 = .ok (.lconst 0, 1) := by decide +kernel
theorem d_Model_answerOf_85 : decode b_Model_answerOf 85 = .ok (.goto 22, 3) := by decide +kernel
theorem d_Model_answerOf_88 : decode b_Model_answerOf 88 = .ok (.aload_n 0, 1) := by decide +kernel
theorem d_Model_answerOf_89 : decode b_Model_answerOf 89 = .ok (.getfield 33, 3) := by decide +kernel
theorem d_Model_answerOf_92 : decode b_Model_answerOf 92 = .ok (.iload_n 2, 1) := by decide +kernel
theorem d_Model_answerOf_93 : decode b_Model_answerOf 93 = .ok (.laload, 1) := by decide +kernel
theorem d_Model_answerOf_94 : decode b_Model_answerOf 94 = .ok (.lload 5, 2) := by decide +kernel
theorem d_Model_answerOf_96 : decode b_Model_answerOf 96 = .ok (.lcmp, 1) := by decide +kernel
theorem d_Model_answerOf_97 : decode b_Model_answerOf 97 = .ok (.ifCond .ne 7, 3) := by decide +kernel
theorem d_Model_answerOf_100 : decode b_Model_answerOf 100 = .ok (.lconst 1, 1) := by decide +kernel
theorem d_Model_answerOf_101 : decode b_Model_answerOf 101 = .ok (.goto 6, 3) := by decide +kernel
theorem d_Model_answerOf_104 : decode b_Model_answerOf 104 = .ok (.ldc2_w 112, 3) := by decide +kernel
theorem d_Model_answerOf_107 : decode b_Model_answerOf 107 = .ok (.lreturn, 1) := by decide +kernel

theorem d_Model_collect_0 : decode b_Model_collect 0 = .ok (.aload_n 0, 1) := by decide +kernel
theorem d_Model_collect_1 : decode b_Model_collect 1 = .ok (.iconst 0, 1) := by decide +kernel
theorem d_Model_collect_2 : decode b_Model_collect 2 = .ok (.putfield 45, 3) := by decide +kernel
theorem d_Model_collect_5 : decode b_Model_collect 5 = .ok (.iload_n 1, 1) := by decide +kernel
theorem d_Model_collect_6 : decode b_Model_collect 6 = .ok (.ifCond .lt 8, 3) := by decide +kernel
theorem d_Model_collect_9 : decode b_Model_collect 9 = .ok (.iload_n 1, 1) := by decide +kernel
theorem d_Model_collect_10 : decode b_Model_collect 10 = .ok (.iconst 2, 1) := by decide +kernel
theorem d_Model_collect_11 : decode b_Model_collect 11 = .ok (.if_icmp .le 9, 3) := by decide +kernel
theorem d_Model_collect_14 : decode b_Model_collect 14 = .ok (.aload_n 0, 1) := by decide +kernel
theorem d_Model_collect_15 : decode b_Model_collect 15 = .ok (.iconst (-1), 1) := by decide +kernel
theorem d_Model_collect_16 : decode b_Model_collect 16 = .ok (.invokevirtual 52, 3) := by decide +kernel
theorem d_Model_collect_19 : decode b_Model_collect 19 = .ok (.ireturn, 1) := by decide +kernel
theorem d_Model_collect_20 : decode b_Model_collect 20 = .ok (.lload_n 2, 1) := by decide +kernel
theorem d_Model_collect_21 : decode b_Model_collect 21 = .ok (.lconst 0, 1) := by decide +kernel
theorem d_Model_collect_22 : decode b_Model_collect 22 = .ok (.lcmp, 1) := by decide +kernel
theorem d_Model_collect_23 : decode b_Model_collect 23 = .ok (.ifCond .lt 30, 3) := by decide +kernel
theorem d_Model_collect_26 : decode b_Model_collect 26 = .ok (.lload_n 2, 1) := by decide +kernel
theorem d_Model_collect_27 : decode b_Model_collect 27 = .ok (.iload_n 1, 1) := by decide +kernel
theorem d_Model_collect_28 : decode b_Model_collect 28 = .ok (.ifCond .ne 9, 3) := by decide +kernel
theorem d_Model_collect_31 : decode b_Model_collect 31 = .ok (.ldc2_w 56, 3) := by decide +kernel
theorem d_Model_collect_34 : decode b_Model_collect 34 = .ok (.goto 15, 3) := by decide +kernel
theorem d_Model_collect_37 : decode b_Model_collect 37 = .ok (.iload_n 1, 1) := by decide +kernel
theorem d_Model_collect_38 : decode b_Model_collect 38 = .ok (.iconst 1, 1) := by decide +kernel
theorem d_Model_collect_39 : decode b_Model_collect 39 = .ok (.if_icmp .ne 7, 3) := by decide +kernel
theorem d_Model_collect_42 : decode b_Model_collect 42 = .ok (.lconst 1, 1) := by decide +kernel
theorem d_Model_collect_43 : decode b_Model_collect 43 = .ok (.goto 6, 3) := by decide +kernel
theorem d_Model_collect_46 : decode b_Model_collect 46 = .ok (.ldc2_w 58, 3) := by decide +kernel
theorem d_Model_collect_49 : decode b_Model_collect 49 = .ok (.lcmp, 1) := by decide +kernel
theorem d_Model_collect_50 : decode b_Model_collect 50 = .ok (.ifCond .le 10, 3) := by decide +kernel
theorem d_Model_collect_53 : decode b_Model_collect 53 = .ok (.aload_n 0, 1) := by decide +kernel
theorem d_Model_collect_54 : decode b_Model_collect 54 = .ok (.bipush (-2), 2) := by decide +kernel
theorem d_Model_collect_56 : decode b_Model_collect 56 = .ok (.invokevirtual 52, 3) := by decide +kernel
theorem d_Model_collect_59 : decode b_Model_collect 59 = .ok (.ireturn, 1) := by decide +kernel
theorem d_Model_collect_60 : decode b_Model_collect 60 = .ok (.aload_n 0, 1) := by decide +kernel
theorem d_Model_collect_61 : decode b_Model_collect 61 = .ok (.getfield 19, 3) := by decide +kernel
theorem d_Model_collect_64 : decode b_Model_collect 64 = .ok (.iload_n 1, 1) := by decide +kernel
theorem d_Model_collect_65 : decode b_Model_collect 65 = .ok (.iaload, 1) := by decide +kernel
theorem d_Model_collect_66 : decode b_Model_collect 66 = .ok (.istore 4, 2) := by decide +kernel
theorem d_Model_collect_68 : decode b_Model_collect 68 = .ok (.iload 4, 2) := by decide +kernel
theorem d_Model_collect_70 : decode b_Model_collect 70 = .ok (.sipush 200, 3) := by decide +kernel
theorem d_Model_collect_73 : decode b_Model_collect 73 = .ok (.if_icmp .ne 10, 3) := by decide +kernel
theorem d_Model_collect_76 : decode b_Model_collect 76 = .ok (.aload_n 0, 1) := by decide +kernel
theorem d_Model_collect_77 : decode b_Model_collect 77 = .ok (.bipush (-4), 2) := by decide +kernel
theorem d_Model_collect_79 : decode b_Model_collect 79 = .ok (.invokevirtual 52, 3) := by decide +kernel
theorem d_Model_collect_82 : decode b_Model_collect 82 = .ok (.ireturn, 1) := by decide +kernel
theorem d_Model_collect_83 : decode b_Model_collect 83 = .ok (.iload_n 1, 1) := by decide +kernel
theorem d_Model_collect_84 : decode b_Model_collect 84 = .ok (.ifCond .ne 15, 3) := by decide +kernel
theorem d_Model_collect_87 : decode b_Model_collect 87 = .ok (.aload_n 0, 1) := by decide +kernel
theorem d_Model_collect_88 : decode b_Model_collect 88 = .ok (.getfield 7, 3) := by decide +kernel
theorem d_Model_collect_91 : decode b_Model_collect 91 = .ok (.iload 4, 2) := by decide +kernel
theorem d_Model_collect_93 : decode b_Model_collect 93 = .ok (.lload_n 2, 1) := by decide +kernel
theorem d_Model_collect_94 : decode b_Model_collect 94 = .ok (.l2i, 1) := by decide +kernel
theorem d_Model_collect_95 : decode b_Model_collect 95 = .ok (.iastore, 1) := by decide +kernel
theorem d_Model_collect_96 : decode b_Model_collect 96 = .ok (.goto 29, 3) := by decide +kernel
theorem d_Model_collect_99 : decode b_Model_collect 99 = .ok (.iload_n 1, 1) := by decide +kernel
theorem d_Model_collect_100 : decode b_Model_collect 100 = .ok (.iconst 1, 1) := by decide +kernel
theorem d_Model_collect_101 : decode b_Model_collect 101 = .ok (.if_icmp .ne 15, 3) := by decide +kernel
theorem d_Model_collect_104 : decode b_Model_collect 104 = .ok (.aload_n 0, 1) := by decide +kernel
theorem d_Model_collect_105 : decode b_Model_collect 105 = .ok (.getfield 13, 3) := by decide +kernel
theorem d_Model_collect_108 : decode b_Model_collect 108 = .ok (.iload 4, 2) := by decide +kernel
theorem d_Model_collect_110 : decode b_Model_collect 110 = .ok (.lload_n 2, 1) := by decide +kernel
theorem d_Model_collect_111 : decode b_Model_collect 111 = .ok (.l2i, 1) := by decide +kernel
theorem d_Model_collect_112 : decode b_Model_collect 112 = .ok (.iastore, 1) := by decide +kernel
theorem d_Model_collect_113 : decode b_Model_collect 113 = .ok (.goto 12, 3) := by decide +kernel
theorem d_Model_collect_116 : decode b_Model_collect 116 = .ok (.aload_n 0, 1) := by decide +kernel
theorem d_Model_collect_117 : decode b_Model_collect 117 = .ok (.getfield 16, 3) := by decide +kernel
theorem d_Model_collect_120 : decode b_Model_collect 120 = .ok (.iload 4, 2) := by decide +kernel
theorem d_Model_collect_122 : decode b_Model_collect 122 = .ok (.lload_n 2, 1) := by decide +kernel
theorem d_Model_collect_123 : decode b_Model_collect 123 = .ok (.l2i, 1) := by decide +kernel
theorem d_Model_collect_124 : decode b_Model_collect 124 = .ok (.iastore, 1) := by decide +kernel
theorem d_Model_collect_125 : decode b_Model_collect 125 = .ok (.aload_n 0, 1) := by decide +kernel
theorem d_Model_collect_126 : decode b_Model_collect 126 = .ok (.getfield 19, 3) := by decide +kernel
theorem d_Model_collect_129 : decode b_Model_collect 129 = .ok (.iload_n 1, 1) := by decide +kernel
theorem d_Model_collect_130 : decode b_Model_collect 130 = .ok (.dup2, 1) := by decide +kernel
theorem d_Model_collect_131 : decode b_Model_collect 131 = .ok (.iaload, 1) := by decide +kernel
theorem d_Model_collect_132 : decode b_Model_collect 132 = .ok (.iconst 1, 1) := by decide +kernel
theorem d_Model_collect_133 : decode b_Model_collect 133 = .ok (.iadd, 1) := by decide +kernel
theorem d_Model_collect_134 : decode b_Model_collect 134 = .ok (.iastore, 1) := by decide +kernel
theorem d_Model_collect_135 : decode b_Model_collect 135 = .ok (.aload_n 0, 1) := by decide +kernel
theorem d_Model_collect_136 : decode b_Model_collect 136 = .ok (.dup, 1) := by decide +kernel
theorem d_Model_collect_137 : decode b_Model_collect 137 = .ok (.getfield 60, 3) := by decide +kernel
theorem d_Model_collect_140 : decode b_Model_collect 140 = .ok (.iconst 1, 1) := by decide +kernel
theorem d_Model_collect_141 : decode b_Model_collect 141 = .ok (.iadd, 1) := by decide +kernel
theorem d_Model_collect_142 : decode b_Model_collect 142 = .ok (.putfield 60, 3) := by decide +kernel
theorem d_Model_collect_145 : decode b_Model_collect 145 = .ok (.iload 4, 2) := by decide +kernel
theorem d_Model_collect_147 : decode b_Model_collect 147 = .ok (.iconst 1, 1) := by decide +kernel
theorem d_Model_collect_148 : decode b_Model_collect 148 = .ok (.iadd, 1) := by decide +kernel
theorem d_Model_collect_149 : decode b_Model_collect 149 = .ok (.ireturn, 1) := by decide +kernel

theorem d_Model_drop_0 : decode b_Model_drop 0 = .ok (.aload_n 0, 1) := by decide +kernel
theorem d_Model_drop_1 : decode b_Model_drop 1 = .ok (.iconst 0, 1) := by decide +kernel
theorem d_Model_drop_2 : decode b_Model_drop 2 = .ok (.putfield 45, 3) := by decide +kernel
theorem d_Model_drop_5 : decode b_Model_drop 5 = .ok (.iload_n 1, 1) := by decide +kernel
theorem d_Model_drop_6 : decode b_Model_drop 6 = .ok (.ifCond .lt 31, 3) := by decide +kernel
theorem d_Model_drop_9 : decode b_Model_drop 9 = .ok (.iload_n 1, 1) := by decide +kernel
theorem d_Model_drop_10 : decode b_Model_drop 10 = .ok (.sipush 384, 3) := by decide +kernel
theorem d_Model_drop_13 : decode b_Model_drop 13 = .ok (.if_icmp .ge 24, 3) := by decide +kernel
theorem d_Model_drop_16 : decode b_Model_drop 16 = .ok (.aload_n 0, 1) := by decide +kernel
theorem d_Model_drop_17 : decode b_Model_drop 17 = .ok (.getfield 29, 3) := by decide +kernel
theorem d_Model_drop_20 : decode b_Model_drop 20 = .ok (.iload_n 1, 1) := by decide +kernel
theorem d_Model_drop_21 : decode b_Model_drop 21 = .ok (.baload, 1) := by decide +kernel
theorem d_Model_drop_22 : decode b_Model_drop 22 = .ok (.ifCond .eq 15, 3) := by decide +kernel
theorem d_Model_drop_25 : decode b_Model_drop 25 = .ok (.aload_n 0, 1) := by decide +kernel
theorem d_Model_drop_26 : decode b_Model_drop 26 = .ok (.iload_n 1, 1) := by decide +kernel
theorem d_Model_drop_27 : decode b_Model_drop 27 = .ok (.invokevirtual 100, 3) := by decide +kernel
theorem d_Model_drop_30 : decode b_Model_drop 30 = .ok (.ifCond .ne 7, 3) := by decide +kernel
theorem d_Model_drop_33 : decode b_Model_drop 33 = .ok (.iconst 1, 1) := by decide +kernel
theorem d_Model_drop_34 : decode b_Model_drop 34 = .ok (.goto 4, 3) := by decide +kernel
theorem d_Model_drop_37 : decode b_Model_drop 37 = .ok (.iconst 0, 1) := by decide +kernel
theorem d_Model_drop_38 : decode b_Model_drop 38 = .ok (.istore_n 2, 1) := by decide +kernel
theorem d_Model_drop_39 : decode b_Model_drop 39 = .ok (.iload_n 2, 1) := by decide +kernel
theorem d_Model_drop_40 : decode b_Model_drop 40 = .ok (.ifCond .ne 12, 3) := by decide +kernel
theorem d_Model_drop_43 : decode b_Model_drop 43 = .ok (.aload_n 0, 1) := by decide +kernel
theorem d_Model_drop_44 : decode b_Model_drop 44 = .ok (.bipush (-3), 2) := by decide +kernel
theorem d_Model_drop_46 : decode b_Model_drop 46 = .ok (.invokevirtual 52, 3) := by decide +kernel
theorem d_Model_drop_49 : decode b_Model_drop 49 = .ok (.istore_n 3, 1) := by decide +kernel
theorem d_Model_drop_50 : decode b_Model_drop 50 = .ok (.iconst 0, 1) := by decide +kernel
theorem d_Model_drop_51 : decode b_Model_drop 51 = .ok (.ireturn, 1) := by decide +kernel
theorem d_Model_drop_52 : decode b_Model_drop 52 = .ok (.aload_n 0, 1) := by decide +kernel
theorem d_Model_drop_53 : decode b_Model_drop 53 = .ok (.getfield 29, 3) := by decide +kernel
theorem d_Model_drop_56 : decode b_Model_drop 56 = .ok (.iload_n 1, 1) := by decide +kernel
theorem d_Model_drop_57 : decode b_Model_drop 57 = .ok (.iconst 0, 1) := by decide +kernel
theorem d_Model_drop_58 : decode b_Model_drop 58 = .ok (.bastore, 1) := by decide +kernel
theorem d_Model_drop_59 : decode b_Model_drop 59 = .ok (.aload_n 0, 1) := by decide +kernel
theorem d_Model_drop_60 : decode b_Model_drop 60 = .ok (.dup, 1) := by decide +kernel
theorem d_Model_drop_61 : decode b_Model_drop 61 = .ok (.getfield 60, 3) := by decide +kernel
theorem d_Model_drop_64 : decode b_Model_drop 64 = .ok (.iconst 1, 1) := by decide +kernel
theorem d_Model_drop_65 : decode b_Model_drop 65 = .ok (.iadd, 1) := by decide +kernel
theorem d_Model_drop_66 : decode b_Model_drop 66 = .ok (.putfield 60, 3) := by decide +kernel
theorem d_Model_drop_69 : decode b_Model_drop 69 = .ok (.iconst 1, 1) := by decide +kernel
theorem d_Model_drop_70 : decode b_Model_drop 70 = .ok (.ireturn, 1) := by decide +kernel

theorem d_Model_call_0 : decode b_Model_call 0 = .ok (.aload_n 0, 1) := by decide +kernel
theorem d_Model_call_1 : decode b_Model_call 1 = .ok (.iconst 0, 1) := by decide +kernel
theorem d_Model_call_2 : decode b_Model_call 2 = .ok (.putfield 45, 3) := by decide +kernel
theorem d_Model_call_5 : decode b_Model_call 5 = .ok (.aload_n 0, 1) := by decide +kernel
theorem d_Model_call_6 : decode b_Model_call 6 = .ok (.iload_n 1, 1) := by decide +kernel
theorem d_Model_call_7 : decode b_Model_call 7 = .ok (.iload_n 2, 1) := by decide +kernel
theorem d_Model_call_8 : decode b_Model_call 8 = .ok (.lload_n 3, 1) := by decide +kernel
theorem d_Model_call_9 : decode b_Model_call 9 = .ok (.invokevirtual 114, 3) := by decide +kernel
theorem d_Model_call_12 : decode b_Model_call 12 = .ok (.istore 5, 2) := by decide +kernel
theorem d_Model_call_14 : decode b_Model_call 14 = .ok (.iload 5, 2) := by decide +kernel
theorem d_Model_call_16 : decode b_Model_call 16 = .ok (.ifCond .eq 11, 3) := by decide +kernel
theorem d_Model_call_19 : decode b_Model_call 19 = .ok (.aload_n 0, 1) := by decide +kernel
theorem d_Model_call_20 : decode b_Model_call 20 = .ok (.iload 5, 2) := by decide +kernel
theorem d_Model_call_22 : decode b_Model_call 22 = .ok (.invokevirtual 52, 3) := by decide +kernel
theorem d_Model_call_25 : decode b_Model_call 25 = .ok (.i2l, 1) := by decide +kernel
theorem d_Model_call_26 : decode b_Model_call 26 = .ok (.lreturn, 1) := by decide +kernel
theorem d_Model_call_27 : decode b_Model_call 27 = .ok (.aload_n 0, 1) := by decide +kernel
theorem d_Model_call_28 : decode b_Model_call 28 = .ok (.dup, 1) := by decide +kernel
theorem d_Model_call_29 : decode b_Model_call 29 = .ok (.getfield 60, 3) := by decide +kernel
theorem d_Model_call_32 : decode b_Model_call 32 = .ok (.iconst 1, 1) := by decide +kernel
theorem d_Model_call_33 : decode b_Model_call 33 = .ok (.iadd, 1) := by decide +kernel
theorem d_Model_call_34 : decode b_Model_call 34 = .ok (.putfield 60, 3) := by decide +kernel
theorem d_Model_call_37 : decode b_Model_call 37 = .ok (.aload_n 0, 1) := by decide +kernel
theorem d_Model_call_38 : decode b_Model_call 38 = .ok (.getfield 26, 3) := by decide +kernel
theorem d_Model_call_41 : decode b_Model_call 41 = .ok (.iload_n 1, 1) := by decide +kernel
theorem d_Model_call_42 : decode b_Model_call 42 = .ok (.iaload, 1) := by decide +kernel
theorem d_Model_call_43 : decode b_Model_call 43 = .ok (.ifCond .le 45, 3) := by decide +kernel
theorem d_Model_call_46 : decode b_Model_call 46 = .ok (.aload_n 0, 1) := by decide +kernel
theorem d_Model_call_47 : decode b_Model_call 47 = .ok (.dup, 1) := by decide +kernel
theorem d_Model_call_48 : decode b_Model_call 48 = .ok (.getfield 118, 3) := by decide +kernel
theorem d_Model_call_51 : decode b_Model_call 51 = .ok (.iconst 1, 1) := by decide +kernel
theorem d_Model_call_52 : decode b_Model_call 52 = .ok (.iadd, 1) := by decide +kernel
theorem d_Model_call_53 : decode b_Model_call 53 = .ok (.putfield 118, 3) := by decide +kernel
theorem d_Model_call_56 : decode b_Model_call 56 = .ok (.aload_n 0, 1) := by decide +kernel
theorem d_Model_call_57 : decode b_Model_call 57 = .ok (.aload_n 0, 1) := by decide +kernel
theorem d_Model_call_58 : decode b_Model_call 58 = .ok (.getfield 26, 3) := by decide +kernel
theorem d_Model_call_61 : decode b_Model_call 61 = .ok (.iload_n 1, 1) := by decide +kernel
theorem d_Model_call_62 : decode b_Model_call 62 = .ok (.iaload, 1) := by decide +kernel
theorem d_Model_call_63 : decode b_Model_call 63 = .ok (.putfield 121, 3) := by decide +kernel
theorem d_Model_call_66 : decode b_Model_call 66 = .ok (.aload_n 0, 1) := by decide +kernel
theorem d_Model_call_67 : decode b_Model_call 67 = .ok (.iload_n 1, 1) := by decide +kernel
theorem d_Model_call_68 : decode b_Model_call 68 = .ok (.putfield 124, 3) := by decide +kernel
theorem d_Model_call_71 : decode b_Model_call 71 = .ok (.aload_n 0, 1) := by decide +kernel
theorem d_Model_call_72 : decode b_Model_call 72 = .ok (.iload_n 2, 1) := by decide +kernel
theorem d_Model_call_73 : decode b_Model_call 73 = .ok (.putfield 127, 3) := by decide +kernel
theorem d_Model_call_76 : decode b_Model_call 76 = .ok (.ldc2_w 130, 3) := by decide +kernel
theorem d_Model_call_79 : decode b_Model_call 79 = .ok (.aload_n 0, 1) := by decide +kernel
theorem d_Model_call_80 : decode b_Model_call 80 = .ok (.getfield 26, 3) := by decide +kernel
theorem d_Model_call_83 : decode b_Model_call 83 = .ok (.iload_n 1, 1) := by decide +kernel
theorem d_Model_call_84 : decode b_Model_call 84 = .ok (.iaload, 1) := by decide +kernel
theorem d_Model_call_85 : decode b_Model_call 85 = .ok (.i2l, 1) := by decide +kernel
theorem d_Model_call_86 : decode b_Model_call 86 = .ok (.lsub, 1) := by decide +kernel
theorem d_Model_call_87 : decode b_Model_call 87 = .ok (.lreturn, 1) := by decide +kernel
theorem d_Model_call_88 : decode b_Model_call 88 = .ok (.aload_n 0, 1) := by decide +kernel
theorem d_Model_call_89 : decode b_Model_call 89 = .ok (.dup, 1) := by decide +kernel
theorem d_Model_call_90 : decode b_Model_call 90 = .ok (.getfield 132, 3) := by decide +kernel
theorem d_Model_call_93 : decode b_Model_call 93 = .ok (.iconst 1, 1) := by decide +kernel
theorem d_Model_call_94 : decode b_Model_call 94 = .ok (.iadd, 1) := by decide +kernel
theorem d_Model_call_95 : decode b_Model_call 95 = .ok (.putfield 132, 3) := by decide +kernel
theorem d_Model_call_98 : decode b_Model_call 98 = .ok (.aload_n 0, 1) := by decide +kernel
theorem d_Model_call_99 : decode b_Model_call 99 = .ok (.iload_n 1, 1) := by decide +kernel
theorem d_Model_call_100 : decode b_Model_call 100 = .ok (.iload_n 2, 1) := by decide +kernel
theorem d_Model_call_101 : decode b_Model_call 101 = .ok (.lload_n 3, 1) := by decide +kernel
theorem d_Model_call_102 : decode b_Model_call 102 = .ok (.invokevirtual 135, 3) := by decide +kernel
theorem d_Model_call_105 : decode b_Model_call 105 = .ok (.lstore 6, 2) := by decide +kernel
theorem d_Model_call_107 : decode b_Model_call 107 = .ok (.iload_n 1, 1) := by decide +kernel
theorem d_Model_call_108 : decode b_Model_call 108 = .ok (.bipush 6, 2) := by decide +kernel
theorem d_Model_call_110 : decode b_Model_call 110 = .ok (.idiv, 1) := by decide +kernel
theorem d_Model_call_111 : decode b_Model_call 111 = .ok (.iconst 1, 1) := by decide +kernel
theorem d_Model_call_112 : decode b_Model_call 112 = .ok (.if_icmp .ne 13, 3) := by decide +kernel
theorem d_Model_call_115 : decode b_Model_call 115 = .ok (.aload_n 0, 1) := by decide +kernel
theorem d_Model_call_116 : decode b_Model_call 116 = .ok (.getfield 33, 3) := by decide +kernel
theorem d_Model_call_119 : decode b_Model_call 119 = .ok (.iload_n 2, 1) := by decide +kernel
theorem d_Model_call_120 : decode b_Model_call 120 = .ok (.lload_n 3, 1) := by decide +kernel
theorem d_Model_call_121 : decode b_Model_call 121 = .ok (.lastore, 1) := by decide +kernel
theorem d_Model_call_122 : decode b_Model_call 122 = .ok (.goto 34, 3) := by decide +kernel
theorem d_Model_call_125 : decode b_Model_call 125 = .ok (.iload_n 1, 1) := by decide +kernel
theorem d_Model_call_126 : decode b_Model_call 126 = .ok (.bipush 6, 2) := by decide +kernel
theorem d_Model_call_128 : decode b_Model_call 128 = .ok (.idiv, 1) := by decide +kernel
theorem d_Model_call_129 : decode b_Model_call 129 = .ok (.iconst 2, 1) := by decide +kernel
theorem d_Model_call_130 : decode b_Model_call 130 = .ok (.if_icmp .ne 26, 3) := by decide +kernel
theorem d_Model_call_133 : decode b_Model_call 133 = .ok (.aload_n 0, 1) := by decide +kernel
theorem d_Model_call_134 : decode b_Model_call 134 = .ok (.getfield 33, 3) := by decide +kernel
theorem d_Model_call_137 : decode b_Model_call 137 = .ok (.iload_n 2, 1) := by decide +kernel
theorem d_Model_call_138 : decode b_Model_call 138 = .ok (.aload_n 0, 1) := by decide +kernel
theorem d_Model_call_139 : decode b_Model_call 139 = .ok (.iload_n 1, 1) := by decide +kernel
theorem d_Model_call_140 : decode b_Model_call 140 = .ok (.iload_n 2, 1) := by decide +kernel
theorem d_Model_call_141 : decode b_Model_call 141 = .ok (.lload_n 3, 1) := by decide +kernel
theorem d_Model_call_142 : decode b_Model_call 142 = .ok (.invokevirtual 139, 3) := by decide +kernel
theorem d_Model_call_145 : decode b_Model_call 145 = .ok (.lastore, 1) := by decide +kernel
theorem d_Model_call_146 : decode b_Model_call 146 = .ok (.aload_n 0, 1) := by decide +kernel
theorem d_Model_call_147 : decode b_Model_call 147 = .ok (.getfield 36, 3) := by decide +kernel
theorem d_Model_call_150 : decode b_Model_call 150 = .ok (.iload_n 2, 1) := by decide +kernel
theorem d_Model_call_151 : decode b_Model_call 151 = .ok (.dup2, 1) := by decide +kernel
theorem d_Model_call_152 : decode b_Model_call 152 = .ok (.iaload, 1) := by decide +kernel
theorem d_Model_call_153 : decode b_Model_call 153 = .ok (.iconst 1, 1) := by decide +kernel
theorem d_Model_call_154 : decode b_Model_call 154 = .ok (.iadd, 1) := by decide +kernel
theorem d_Model_call_155 : decode b_Model_call 155 = .ok (.iastore, 1) := by decide +kernel
theorem d_Model_call_156 : decode b_Model_call 156 = .ok (.lload 6, 2) := by decide +kernel
theorem d_Model_call_158 : decode b_Model_call 158 = .ok (.lreturn, 1) := by decide +kernel

theorem d_Model_again_0 : decode b_Model_again 0 = .ok (.aload_n 0, 1) := by decide +kernel
theorem d_Model_again_1 : decode b_Model_again 1 = .ok (.iconst 0, 1) := by decide +kernel
theorem d_Model_again_2 : decode b_Model_again 2 = .ok (.putfield 45, 3) := by decide +kernel
theorem d_Model_again_5 : decode b_Model_again 5 = .ok (.aload_n 0, 1) := by decide +kernel
theorem d_Model_again_6 : decode b_Model_again 6 = .ok (.getfield 60, 3) := by decide +kernel
theorem d_Model_again_9 : decode b_Model_again 9 = .ok (.sipush 128, 3) := by decide +kernel
theorem d_Model_again_12 : decode b_Model_again 12 = .ok (.if_icmp .le 7, 3) := by decide +kernel
theorem d_Model_again_15 : decode b_Model_again 15 = .ok (.ldc2_w 142, 3) := by decide +kernel
theorem d_Model_again_18 : decode b_Model_again 18 = .ok (.lreturn, 1) := by decide +kernel
theorem d_Model_again_19 : decode b_Model_again 19 = .ok (.aload_n 0, 1) := by decide +kernel
theorem d_Model_again_20 : decode b_Model_again 20 = .ok (.iload_n 1, 1) := by decide +kernel
theorem d_Model_again_21 : decode b_Model_again 21 = .ok (.iload_n 2, 1) := by decide +kernel
theorem d_Model_again_22 : decode b_Model_again 22 = .ok (.lload_n 3, 1) := by decide +kernel
theorem d_Model_again_23 : decode b_Model_again 23 = .ok (.invokevirtual 114, 3) := by decide +kernel
theorem d_Model_again_26 : decode b_Model_again 26 = .ok (.istore 5, 2) := by decide +kernel
theorem d_Model_again_28 : decode b_Model_again 28 = .ok (.iload 5, 2) := by decide +kernel
theorem d_Model_again_30 : decode b_Model_again 30 = .ok (.ifCond .eq 9, 3) := by decide +kernel
theorem d_Model_again_33 : decode b_Model_again 33 = .ok (.iload 5, 2) := by decide +kernel
theorem d_Model_again_35 : decode b_Model_again 35 = .ok (.i2l, 1) := by decide +kernel
theorem d_Model_again_36 : decode b_Model_again 36 = .ok (.goto 33, 3) := by decide +kernel
theorem d_Model_again_39 : decode b_Model_again 39 = .ok (.aload_n 0, 1) := by decide +kernel
theorem d_Model_again_40 : decode b_Model_again 40 = .ok (.getfield 26, 3) := by decide +kernel
theorem d_Model_again_43 : decode b_Model_again 43 = .ok (.iload_n 1, 1) := by decide +kernel
theorem d_Model_again_44 : decode b_Model_again 44 = .ok (.iaload, 1) := by decide +kernel
theorem d_Model_again_45 : decode b_Model_again 45 = .ok (.ifCond .le 17, 3) := by decide +kernel
theorem d_Model_again_48 : decode b_Model_again 48 = .ok (.ldc2_w 130, 3) := by decide +kernel
theorem d_Model_again_51 : decode b_Model_again 51 = .ok (.aload_n 0, 1) := by decide +kernel
theorem d_Model_again_52 : decode b_Model_again 52 = .ok (.getfield 26, 3) := by decide +kernel
theorem d_Model_again_55 : decode b_Model_again 55 = .ok (.iload_n 1, 1) := by decide +kernel
theorem d_Model_again_56 : decode b_Model_again 56 = .ok (.iaload, 1) := by decide +kernel
theorem d_Model_again_57 : decode b_Model_again 57 = .ok (.i2l, 1) := by decide +kernel
theorem d_Model_again_58 : decode b_Model_again 58 = .ok (.lsub, 1) := by decide +kernel
theorem d_Model_again_59 : decode b_Model_again 59 = .ok (.goto 10, 3) := by decide +kernel
theorem d_Model_again_62 : decode b_Model_again 62 = .ok (.aload_n 0, 1) := by decide +kernel
theorem d_Model_again_63 : decode b_Model_again 63 = .ok (.iload_n 1, 1) := by decide +kernel
theorem d_Model_again_64 : decode b_Model_again 64 = .ok (.iload_n 2, 1) := by decide +kernel
theorem d_Model_again_65 : decode b_Model_again 65 = .ok (.lload_n 3, 1) := by decide +kernel
theorem d_Model_again_66 : decode b_Model_again 66 = .ok (.invokevirtual 135, 3) := by decide +kernel
theorem d_Model_again_69 : decode b_Model_again 69 = .ok (.lreturn, 1) := by decide +kernel

theorem d_Model_make_0 : decode b_Model_make 0 = .ok (.aload_n 0, 1) := by decide +kernel
theorem d_Model_make_1 : decode b_Model_make 1 = .ok (.iconst 0, 1) := by decide +kernel
theorem d_Model_make_2 : decode b_Model_make 2 = .ok (.putfield 45, 3) := by decide +kernel
theorem d_Model_make_5 : decode b_Model_make 5 = .ok (.iload_n 1, 1) := by decide +kernel
theorem d_Model_make_6 : decode b_Model_make 6 = .ok (.ifCond .lt 8, 3) := by decide +kernel
theorem d_Model_make_9 : decode b_Model_make 9 = .ok (.iload_n 1, 1) := by decide +kernel
theorem d_Model_make_10 : decode b_Model_make 10 = .ok (.iconst 5, 1) := by decide +kernel
theorem d_Model_make_11 : decode b_Model_make 11 = .ok (.if_icmp .le 9, 3) := by decide +kernel
theorem d_Model_make_14 : decode b_Model_make 14 = .ok (.aload_n 0, 1) := by decide +kernel
theorem d_Model_make_15 : decode b_Model_make 15 = .ok (.iconst (-1), 1) := by decide +kernel
theorem d_Model_make_16 : decode b_Model_make 16 = .ok (.invokevirtual 52, 3) := by decide +kernel
theorem d_Model_make_19 : decode b_Model_make 19 = .ok (.ireturn, 1) := by decide +kernel
theorem d_Model_make_20 : decode b_Model_make 20 = .ok (.iload_n 1, 1) := by decide +kernel
theorem d_Model_make_21 : decode b_Model_make 21 = .ok (.ifCond .ne 7, 3) := by decide +kernel
theorem d_Model_make_24 : decode b_Model_make 24 = .ok (.iconst 0, 1) := by decide +kernel
theorem d_Model_make_25 : decode b_Model_make 25 = .ok (.goto 22, 3) := by decide +kernel
theorem d_Model_make_28 : decode b_Model_make 28 = .ok (.iload_n 1, 1) := by decide +kernel
theorem d_Model_make_29 : decode b_Model_make 29 = .ok (.iconst 2, 1) := by decide +kernel
theorem d_Model_make_30 : decode b_Model_make 30 = .ok (.if_icmp .ne 7, 3) := by decide +kernel
theorem d_Model_make_33 : decode b_Model_make 33 = .ok (.iconst 1, 1) := by decide +kernel
theorem d_Model_make_34 : decode b_Model_make 34 = .ok (.goto 13, 3) := by decide +kernel
theorem d_Model_make_37 : decode b_Model_make 37 = .ok (.iload_n 1, 1) := by decide +kernel
theorem d_Model_make_38 : decode b_Model_make 38 = .ok (.iconst 4, 1) := by decide +kernel
theorem d_Model_make_39 : decode b_Model_make 39 = .ok (.if_icmp .ne 7, 3) := by decide +kernel
theorem d_Model_make_42 : decode b_Model_make 42 = .ok (.iconst 2, 1) := by decide +kernel
theorem d_Model_make_43 : decode b_Model_make 43 = .ok (.goto 4, 3) := by decide +kernel
theorem d_Model_make_46 : decode b_Model_make 46 = .ok (.iconst (-1), 1) := by decide +kernel
theorem d_Model_make_47 : decode b_Model_make 47 = .ok (.istore_n 2, 1) := by decide +kernel
theorem d_Model_make_48 : decode b_Model_make 48 = .ok (.iload_n 1, 1) := by decide +kernel
theorem d_Model_make_49 : decode b_Model_make 49 = .ok (.iconst 1, 1) := by decide +kernel
theorem d_Model_make_50 : decode b_Model_make 50 = .ok (.if_icmp .ne 11, 3) := by decide +kernel
theorem d_Model_make_53 : decode b_Model_make 53 = .ok (.aload_n 0, 1) := by decide +kernel
theorem d_Model_make_54 : decode b_Model_make 54 = .ok (.iconst 0, 1) := by decide +kernel
theorem d_Model_make_55 : decode b_Model_make 55 = .ok (.invokevirtual 81, 3) := by decide +kernel
theorem d_Model_make_58 : decode b_Model_make 58 = .ok (.goto 22, 3) := by decide +kernel
theorem d_Model_make_61 : decode b_Model_make 61 = .ok (.iload_n 1, 1) := by decide +kernel
theorem d_Model_make_62 : decode b_Model_make 62 = .ok (.iconst 3, 1) := by decide +kernel
theorem d_Model_make_63 : decode b_Model_make 63 = .ok (.if_icmp .eq 8, 3) := by decide +kernel
theorem d_Model_make_66 : decode b_Model_make 66 = .ok (.iload_n 1, 1) := by decide +kernel
theorem d_Model_make_67 : decode b_Model_make 67 = .ok (.iconst 5, 1) := by decide +kernel
theorem d_Model_make_68 : decode b_Model_make 68 = .ok (.if_icmp .ne 11, 3) := by decide +kernel
theorem d_Model_make_71 : decode b_Model_make 71 = .ok (.aload_n 0, 1) := by decide +kernel
theorem d_Model_make_72 : decode b_Model_make 72 = .ok (.iconst 1, 1) := by decide +kernel
theorem d_Model_make_73 : decode b_Model_make 73 = .ok (.invokevirtual 81, 3) := by decide +kernel
theorem d_Model_make_76 : decode b_Model_make 76 = .ok (.goto 4, 3) := by decide +kernel
theorem d_Model_make_79 : decode b_Model_make 79 = .ok (.iconst (-1), 1) := by decide +kernel
theorem d_Model_make_80 : decode b_Model_make 80 = .ok (.istore_n 3, 1) := by decide +kernel
theorem d_Model_make_81 : decode b_Model_make 81 = .ok (.iload_n 2, 1) := by decide +kernel
theorem d_Model_make_82 : decode b_Model_make 82 = .ok (.ifCond .lt 15, 3) := by decide +kernel
theorem d_Model_make_85 : decode b_Model_make 85 = .ok (.aload_n 0, 1) := by decide +kernel
theorem d_Model_make_86 : decode b_Model_make 86 = .ok (.getfield 19, 3) := by decide +kernel
theorem d_Model_make_89 : decode b_Model_make 89 = .ok (.iload_n 2, 1) := by decide +kernel
theorem d_Model_make_90 : decode b_Model_make 90 = .ok (.iaload, 1) := by decide +kernel
theorem d_Model_make_91 : decode b_Model_make 91 = .ok (.ifCond .ne 17, 3) := by decide +kernel
theorem d_Model_make_94 : decode b_Model_make 94 = .ok (.goto 7, 3) := by decide +kernel
theorem d_Model_make_97 : decode b_Model_make 97 = .ok (.iload_n 3, 1) := by decide +kernel
theorem d_Model_make_98 : decode b_Model_make 98 = .ok (.ifCond .ge 10, 3) := by decide +kernel
theorem d_Model_make_101 : decode b_Model_make 101 = .ok (.aload_n 0, 1) := by decide +kernel
theorem d_Model_make_102 : decode b_Model_make 102 = .ok (.bipush (-3), 2) := by decide +kernel
theorem d_Model_make_104 : decode b_Model_make 104 = .ok (.invokevirtual 52, 3) := by decide +kernel
theorem d_Model_make_107 : decode b_Model_make 107 = .ok (.ireturn, 1) := by decide +kernel
theorem d_Model_make_108 : decode b_Model_make 108 = .ok (.aload_n 0, 1) := by decide +kernel
theorem d_Model_make_109 : decode b_Model_make 109 = .ok (.getfield 42, 3) := by decide +kernel
theorem d_Model_make_112 : decode b_Model_make 112 = .ok (.iload_n 1, 1) := by decide +kernel
theorem d_Model_make_113 : decode b_Model_make 113 = .ok (.iaload, 1) := by decide +kernel
theorem d_Model_make_114 : decode b_Model_make 114 = .ok (.bipush 20, 2) := by decide +kernel
theorem d_Model_make_116 : decode b_Model_make 116 = .ok (.if_icmp .ne 10, 3) := by decide +kernel
theorem d_Model_make_119 : decode b_Model_make 119 = .ok (.aload_n 0, 1) := by decide +kernel
theorem d_Model_make_120 : decode b_Model_make 120 = .ok (.bipush (-4), 2) := by decide +kernel
theorem d_Model_make_122 : decode b_Model_make 122 = .ok (.invokevirtual 52, 3) := by decide +kernel
theorem d_Model_make_125 : decode b_Model_make 125 = .ok (.ireturn, 1) := by decide +kernel
theorem d_Model_make_126 : decode b_Model_make 126 = .ok (.iload_n 1, 1) := by decide +kernel
theorem d_Model_make_127 : decode b_Model_make 127 = .ok (.ifCond .ne 10, 3) := by decide +kernel
theorem d_Model_make_130 : decode b_Model_make 130 = .ok (.aload_n 0, 1) := by decide +kernel
theorem d_Model_make_131 : decode b_Model_make 131 = .ok (.invokevirtual 84, 3) := by decide +kernel
theorem d_Model_make_134 : decode b_Model_make 134 = .ok (.goto 56, 3) := by decide +kernel
theorem d_Model_make_137 : decode b_Model_make 137 = .ok (.iload_n 1, 1) := by decide +kernel
theorem d_Model_make_138 : decode b_Model_make 138 = .ok (.iconst 1, 1) := by decide +kernel
theorem d_Model_make_139 : decode b_Model_make 139 = .ok (.if_icmp .ne 12, 3) := by decide +kernel
theorem d_Model_make_142 : decode b_Model_make 142 = .ok (.aload_n 0, 1) := by decide +kernel
theorem d_Model_make_143 : decode b_Model_make 143 = .ok (.getfield 33, 3) := by decide +kernel
theorem d_Model_make_146 : decode b_Model_make 146 = .ok (.iload_n 3, 1) := by decide +kernel
theorem d_Model_make_147 : decode b_Model_make 147 = .ok (.laload, 1) := by decide +kernel
theorem d_Model_make_148 : decode b_Model_make 148 = .ok (.goto 42, 3) := by decide +kernel
theorem d_Model_make_151 : decode b_Model_make 151 = .ok (.iload_n 1, 1) := by decide +kernel
theorem d_Model_make_152 : decode b_Model_make 152 = .ok (.iconst 2, 1) := by decide +kernel
theorem d_Model_make_153 : decode b_Model_make 153 = .ok (.if_icmp .ne 10, 3) := by decide +kernel
theorem d_Model_make_156 : decode b_Model_make 156 = .ok (.aload_n 0, 1) := by decide +kernel
theorem d_Model_make_157 : decode b_Model_make 157 = .ok (.invokevirtual 88, 3) := by decide +kernel
theorem d_Model_make_160 : decode b_Model_make 160 = .ok (.goto 30, 3) := by decide +kernel
theorem d_Model_make_163 : decode b_Model_make 163 = .ok (.iload_n 1, 1) := by decide +kernel
theorem d_Model_make_164 : decode b_Model_make 164 = .ok (.iconst 3, 1) := by decide +kernel
theorem d_Model_make_165 : decode b_Model_make 165 = .ok (.if_icmp .ne 7, 3) := by decide +kernel
theorem d_Model_make_168 : decode b_Model_make 168 = .ok (.lconst 0, 1) := by decide +kernel
theorem d_Model_make_169 : decode b_Model_make 169 = .ok (.goto 21, 3) := by decide +kernel
theorem d_Model_make_172 : decode b_Model_make 172 = .ok (.iload_n 1, 1) := by decide +kernel
theorem d_Model_make_173 : decode b_Model_make 173 = .ok (.iconst 4, 1) := by decide +kernel
theorem d_Model_make_174 : decode b_Model_make 174 = .ok (.if_icmp .ne 10, 3) := by decide +kernel
theorem d_Model_make_177 : decode b_Model_make 177 = .ok (.aload_n 0, 1) := by decide +kernel
theorem d_Model_make_178 : decode b_Model_make 178 = .ok (.invokevirtual 91, 3) := by decide +kernel
theorem d_Model_make_181 : decode b_Model_make 181 = .ok (.goto 9, 3) := by decide +kernel
theorem d_Model_make_184 : decode b_Model_make 184 = .ok (.aload_n 0, 1) := by decide +kernel
theorem d_Model_make_185 : decode b_Model_make 185 = .ok (.iconst 1, 1) := by decide +kernel
theorem d_Model_make_186 : decode b_Model_make 186 = .ok (.invokevirtual 94, 3) := by decide +kernel
theorem d_Model_make_189 : decode b_Model_make 189 = .ok (.i2l, 1) := by decide +kernel
theorem d_Model_make_190 : decode b_Model_make 190 = .ok (.lstore 4, 2) := by decide +kernel
theorem d_Model_make_192 : decode b_Model_make 192 = .ok (.iload_n 2, 1) := by decide +kernel
theorem d_Model_make_193 : decode b_Model_make 193 = .ok (.ifCond .lt 10, 3) := by decide +kernel
theorem d_Model_make_196 : decode b_Model_make 196 = .ok (.aload_n 0, 1) := by decide +kernel
theorem d_Model_make_197 : decode b_Model_make 197 = .ok (.getfield 19, 3) := by decide +kernel
theorem d_Model_make_200 : decode b_Model_make 200 = .ok (.iload_n 2, 1) := by decide +kernel
theorem d_Model_make_201 : decode b_Model_make 201 = .ok (.iconst 0, 1) := by decide +kernel
theorem d_Model_make_202 : decode b_Model_make 202 = .ok (.iastore, 1) := by decide +kernel
theorem d_Model_make_203 : decode b_Model_make 203 = .ok (.aload_n 0, 1) := by decide +kernel
theorem d_Model_make_204 : decode b_Model_make 204 = .ok (.getfield 42, 3) := by decide +kernel
theorem d_Model_make_207 : decode b_Model_make 207 = .ok (.iload_n 1, 1) := by decide +kernel
theorem d_Model_make_208 : decode b_Model_make 208 = .ok (.dup2, 1) := by decide +kernel
theorem d_Model_make_209 : decode b_Model_make 209 = .ok (.iaload, 1) := by decide +kernel
theorem d_Model_make_210 : decode b_Model_make 210 = .ok (.iconst 1, 1) := by decide +kernel
theorem d_Model_make_211 : decode b_Model_make 211 = .ok (.iadd, 1) := by decide +kernel
theorem d_Model_make_212 : decode b_Model_make 212 = .ok (.iastore, 1) := by decide +kernel
theorem d_Model_make_213 : decode b_Model_make 213 = .ok (.bipush 64, 2) := by decide +kernel
theorem d_Model_make_215 : decode b_Model_make 215 = .ok (.iload_n 1, 1) := by decide +kernel
theorem d_Model_make_216 : decode b_Model_make 216 = .ok (.imul, 1) := by decide +kernel
theorem d_Model_make_217 : decode b_Model_make 217 = .ok (.aload_n 0, 1) := by decide +kernel
theorem d_Model_make_218 : decode b_Model_make 218 = .ok (.getfield 42, 3) := by decide +kernel
theorem d_Model_make_221 : decode b_Model_make 221 = .ok (.iload_n 1, 1) := by decide +kernel
theorem d_Model_make_222 : decode b_Model_make 222 = .ok (.iaload, 1) := by decide +kernel
theorem d_Model_make_223 : decode b_Model_make 223 = .ok (.iadd, 1) := by decide +kernel
theorem d_Model_make_224 : decode b_Model_make 224 = .ok (.istore 6, 2) := by decide +kernel
theorem d_Model_make_226 : decode b_Model_make 226 = .ok (.aload_n 0, 1) := by decide +kernel
theorem d_Model_make_227 : decode b_Model_make 227 = .ok (.getfield 29, 3) := by decide +kernel
theorem d_Model_make_230 : decode b_Model_make 230 = .ok (.iload 6, 2) := by decide +kernel
theorem d_Model_make_232 : decode b_Model_make 232 = .ok (.iconst 1, 1) := by decide +kernel
theorem d_Model_make_233 : decode b_Model_make 233 = .ok (.bastore, 1) := by decide +kernel
theorem d_Model_make_234 : decode b_Model_make 234 = .ok (.aload_n 0, 1) := by decide +kernel
theorem d_Model_make_235 : decode b_Model_make 235 = .ok (.getfield 33, 3) := by decide +kernel
theorem d_Model_make_238 : decode b_Model_make 238 = .ok (.iload 6, 2) := by decide +kernel
theorem d_Model_make_240 : decode b_Model_make 240 = .ok (.lload 4, 2) := by decide +kernel
theorem d_Model_make_242 : decode b_Model_make 242 = .ok (.lastore, 1) := by decide +kernel
theorem d_Model_make_243 : decode b_Model_make 243 = .ok (.aload_n 0, 1) := by decide +kernel
theorem d_Model_make_244 : decode b_Model_make 244 = .ok (.getfield 36, 3) := by decide +kernel
theorem d_Model_make_247 : decode b_Model_make 247 = .ok (.iload 6, 2) := by decide +kernel
theorem d_Model_make_249 : decode b_Model_make 249 = .ok (.iconst 0, 1) := by decide +kernel
theorem d_Model_make_250 : decode b_Model_make 250 = .ok (.iastore, 1) := by decide +kernel
theorem d_Model_make_251 : decode b_Model_make 251 = .ok (.aload_n 0, 1) := by decide +kernel
theorem d_Model_make_252 : decode b_Model_make 252 = .ok (.getfield 39, 3) := by decide +kernel
theorem d_Model_make_255 : decode b_Model_make 255 = .ok (.iload 6, 2) := by decide +kernel
theorem d_Model_make_257 : decode b_Model_make 257 = .ok (.iload_n 1, 1) := by decide +kernel
theorem d_Model_make_258 : decode b_Model_make 258 = .ok (.iconst 1, 1) := by decide +kernel
theorem d_Model_make_259 : decode b_Model_make 259 = .ok (.if_icmp .eq 8, 3) := by decide +kernel
theorem d_Model_make_262 : decode b_Model_make 262 = .ok (.iload_n 1, 1) := by decide +kernel
theorem d_Model_make_263 : decode b_Model_make 263 = .ok (.iconst 3, 1) := by decide +kernel
theorem d_Model_make_264 : decode b_Model_make 264 = .ok (.if_icmp .ne 7, 3) := by decide +kernel
theorem d_Model_make_267 : decode b_Model_make 267 = .ok (.iload_n 3, 1) := by decide +kernel
theorem d_Model_make_268 : decode b_Model_make 268 = .ok (.goto 4, 3) := by decide +kernel
theorem d_Model_make_271 : decode b_Model_make 271 = .ok (.iconst (-1), 1) := by decide +kernel
theorem d_Model_make_272 : decode b_Model_make 272 = .ok (.iastore, 1) := by decide +kernel
theorem d_Model_make_273 : decode b_Model_make 273 = .ok (.aload_n 0, 1) := by decide +kernel
theorem d_Model_make_274 : decode b_Model_make 274 = .ok (.dup, 1) := by decide +kernel
theorem d_Model_make_275 : decode b_Model_make 275 = .ok (.getfield 97, 3) := by decide +kernel
theorem d_Model_make_278 : decode b_Model_make 278 = .ok (.iconst 1, 1) := by decide +kernel
theorem d_Model_make_279 : decode b_Model_make 279 = .ok (.iadd, 1) := by decide +kernel
theorem d_Model_make_280 : decode b_Model_make 280 = .ok (.putfield 97, 3) := by decide +kernel
theorem d_Model_make_283 : decode b_Model_make 283 = .ok (.aload_n 0, 1) := by decide +kernel
theorem d_Model_make_284 : decode b_Model_make 284 = .ok (.dup, 1) := by decide +kernel
theorem d_Model_make_285 : decode b_Model_make 285 = .ok (.getfield 60, 3) := by decide +kernel
theorem d_Model_make_288 : decode b_Model_make 288 = .ok (.iconst 1, 1) := by decide +kernel
theorem d_Model_make_289 : decode b_Model_make 289 = .ok (.iadd, 1) := by decide +kernel
theorem d_Model_make_290 : decode b_Model_make 290 = .ok (.putfield 60, 3) := by decide +kernel
theorem d_Model_make_293 : decode b_Model_make 293 = .ok (.iload 6, 2) := by decide +kernel
theorem d_Model_make_295 : decode b_Model_make 295 = .ok (.ireturn, 1) := by decide +kernel

