theorem d_Model_stateOfLetters_0 : decode b_Model_stateOfLetters 0 = .ok (.ldc2_w 71, 3) := by decide +kernel
theorem d_Model_stateOfLetters_3 : decode b_Model_stateOfLetters 3 = .ok (.lstore_n 1, 1) := by decide +kernel
theorem d_Model_stateOfLetters_4 : decode b_Model_stateOfLetters 4 = .ok (.iconst 0, 1) := by decide +kernel
theorem d_Model_stateOfLetters_5 : decode b_Model_stateOfLetters 5 = .ok (.istore_n 3, 1) := by decide +kernel
theorem d_Model_stateOfLetters_6 : decode b_Model_stateOfLetters 6 = .ok (.iload_n 3, 1) := by decide +kernel
theorem d_Model_stateOfLetters_7 : decode b_Model_stateOfLetters 7 = .ok (.aload_n 0, 1) := by decide +kernel
theorem d_Model_stateOfLetters_8 : decode b_Model_stateOfLetters 8 = .ok (.getfield 19, 3) := by decide +kernel
theorem d_Model_stateOfLetters_11 : decode b_Model_stateOfLetters 11 = .ok (.iconst 0, 1) := by decide +kernel
theorem d_Model_stateOfLetters_12 : decode b_Model_stateOfLetters 12 = .ok (.iaload, 1) := by decide +kernel
theorem d_Model_stateOfLetters_13 : decode b_Model_stateOfLetters 13 = .ok (.if_icmp .ge 23, 3) := by decide +kernel
theorem d_Model_stateOfLetters_16 : decode b_Model_stateOfLetters 16 = .ok (.ldc2_w 73, 3) := by decide +kernel
theorem d_Model_stateOfLetters_19 : decode b_Model_stateOfLetters 19 = .ok (.lload_n 1, 1) := by decide +kernel
theorem d_Model_stateOfLetters_20 : decode b_Model_stateOfLetters 20 = .ok (.lmul, 1) := by decide +kernel
theorem d_Model_stateOfLetters_21 : decode b_Model_stateOfLetters 21 = .ok (.aload_n 0, 1) := by decide +kernel
theorem d_Model_stateOfLetters_22 : decode b_Model_stateOfLetters 22 = .ok (.getfield 7, 3) := by decide +kernel
theorem d_Model_stateOfLetters_25 : decode b_Model_stateOfLetters 25 = .ok (.iload_n 3, 1) := by decide +kernel
theorem d_Model_stateOfLetters_26 : decode b_Model_stateOfLetters 26 = .ok (.iaload, 1) := by decide +kernel
theorem d_Model_stateOfLetters_27 : decode b_Model_stateOfLetters 27 = .ok (.i2l, 1) := by decide +kernel
theorem d_Model_stateOfLetters_28 : decode b_Model_stateOfLetters 28 = .ok (.ladd, 1) := by decide +kernel
theorem d_Model_stateOfLetters_29 : decode b_Model_stateOfLetters 29 = .ok (.lstore_n 1, 1) := by decide +kernel
theorem d_Model_stateOfLetters_30 : decode b_Model_stateOfLetters 30 = .ok (.iinc 3 1, 3) := by decide +kernel
theorem d_Model_stateOfLetters_33 : decode b_Model_stateOfLetters 33 = .ok (.goto (-27), 3) := by decide +kernel
theorem d_Model_stateOfLetters_36 : decode b_Model_stateOfLetters 36 = .ok (.lload_n 1, 1) := by decide +kernel
theorem d_Model_stateOfLetters_37 : decode b_Model_stateOfLetters 37 = .ok (.lreturn, 1) := by decide +kernel

theorem d_Model_stateOfBytes_0 : decode b_Model_stateOfBytes 0 = .ok (.lconst 1, 1) := by decide +kernel
theorem d_Model_stateOfBytes_1 : decode b_Model_stateOfBytes 1 = .ok (.lstore_n 1, 1) := by decide +kernel
theorem d_Model_stateOfBytes_2 : decode b_Model_stateOfBytes 2 = .ok (.lconst 0, 1) := by decide +kernel
theorem d_Model_stateOfBytes_3 : decode b_Model_stateOfBytes 3 = .ok (.lstore_n 3, 1) := by decide +kernel
theorem d_Model_stateOfBytes_4 : decode b_Model_stateOfBytes 4 = .ok (.iconst 0, 1) := by decide +kernel
theorem d_Model_stateOfBytes_5 : decode b_Model_stateOfBytes 5 = .ok (.istore 5, 2) := by decide +kernel
theorem d_Model_stateOfBytes_7 : decode b_Model_stateOfBytes 7 = .ok (.iload 5, 2) := by decide +kernel
theorem d_Model_stateOfBytes_9 : decode b_Model_stateOfBytes 9 = .ok (.aload_n 0, 1) := by decide +kernel
theorem d_Model_stateOfBytes_10 : decode b_Model_stateOfBytes 10 = .ok (.getfield 19, 3) := by decide +kernel
theorem d_Model_stateOfBytes_13 : decode b_Model_stateOfBytes 13 = .ok (.iconst 2, 1) := by decide +kernel
theorem d_Model_stateOfBytes_14 : decode b_Model_stateOfBytes 14 = .ok (.iaload, 1) := by decide +kernel
theorem d_Model_stateOfBytes_15 : decode b_Model_stateOfBytes 15 = .ok (.if_icmp .ge 32, 3) := by decide +kernel
theorem d_Model_stateOfBytes_18 : decode b_Model_stateOfBytes 18 = .ok (.lload_n 1, 1) := by decide +kernel
theorem d_Model_stateOfBytes_19 : decode b_Model_stateOfBytes 19 = .ok (.aload_n 0, 1) := by decide +kernel
theorem d_Model_stateOfBytes_20 : decode b_Model_stateOfBytes 20 = .ok (.getfield 16, 3) := by decide +kernel
theorem d_Model_stateOfBytes_23 : decode b_Model_stateOfBytes 23 = .ok (.iload 5, 2) := by decide +kernel
theorem d_Model_stateOfBytes_25 : decode b_Model_stateOfBytes 25 = .ok (.iaload, 1) := by decide +kernel
theorem d_Model_stateOfBytes_26 : decode b_Model_stateOfBytes 26 = .ok (.i2l, 1) := by decide +kernel
theorem d_Model_stateOfBytes_27 : decode b_Model_stateOfBytes 27 = .ok (.ladd, 1) := by decide +kernel
theorem d_Model_stateOfBytes_28 : decode b_Model_stateOfBytes 28 = .ok (.ldc2_w 77, 3) := by decide +kernel
theorem d_Model_stateOfBytes_31 : decode b_Model_stateOfBytes 31 = .ok (.lrem, 1) := by decide +kernel
theorem d_Model_stateOfBytes_32 : decode b_Model_stateOfBytes 32 = .ok (.lstore_n 1, 1) := by decide +kernel
theorem d_Model_stateOfBytes_33 : decode b_Model_stateOfBytes 33 = .ok (.lload_n 3, 1) := by decide +kernel
theorem d_Model_stateOfBytes_34 : decode b_Model_stateOfBytes 34 = .ok (.lload_n 1, 1) := by decide +kernel
theorem d_Model_stateOfBytes_35 : decode b_Model_stateOfBytes 35 = .ok (.ladd, 1) := by decide +kernel
theorem d_Model_stateOfBytes_36 : decode b_Model_stateOfBytes 36 = .ok (.ldc2_w 77, 3) := by decide +kernel
theorem d_Model_stateOfBytes_39 : decode b_Model_stateOfBytes 39 = .ok (.lrem, 1) := by decide +kernel
theorem d_Model_stateOfBytes_40 : decode b_Model_stateOfBytes 40 = .ok (.lstore_n 3, 1) := by decide +kernel
theorem d_Model_stateOfBytes_41 : decode b_Model_stateOfBytes 41 = .ok (.iinc 5 1, 3) := by decide +kernel
theorem d_Model_stateOfBytes_44 : decode b_Model_stateOfBytes 44 = .ok (.goto (-37), 3) := by decide +kernel
theorem d_Model_stateOfBytes_47 : decode b_Model_stateOfBytes 47 = .ok (.ldc2_w 79, 3) := by decide +kernel
theorem d_Model_stateOfBytes_50 : decode b_Model_stateOfBytes 50 = .ok (.lload_n 3, 1) := by decide +kernel
theorem d_Model_stateOfBytes_51 : decode b_Model_stateOfBytes 51 = .ok (.lmul, 1) := by decide +kernel
theorem d_Model_stateOfBytes_52 : decode b_Model_stateOfBytes 52 = .ok (.lload_n 1, 1) := by decide +kernel
theorem d_Model_stateOfBytes_53 : decode b_Model_stateOfBytes 53 = .ok (.ladd, 1) := by decide +kernel
theorem d_Model_stateOfBytes_54 : decode b_Model_stateOfBytes 54 = .ok (.lreturn, 1) := by decide +kernel

theorem d_Model_stateOfBits_0 : decode b_Model_stateOfBits 0 = .ok (.lconst 0, 1) := by decide +kernel
theorem d_Model_stateOfBits_1 : decode b_Model_stateOfBits 1 = .ok (.lstore_n 1, 1) := by decide +kernel
theorem d_Model_stateOfBits_2 : decode b_Model_stateOfBits 2 = .ok (.iconst 0, 1) := by decide +kernel
theorem d_Model_stateOfBits_3 : decode b_Model_stateOfBits 3 = .ok (.istore_n 3, 1) := by decide +kernel
theorem d_Model_stateOfBits_4 : decode b_Model_stateOfBits 4 = .ok (.iload_n 3, 1) := by decide +kernel
theorem d_Model_stateOfBits_5 : decode b_Model_stateOfBits 5 = .ok (.aload_n 0, 1) := by decide +kernel
theorem d_Model_stateOfBits_6 : decode b_Model_stateOfBits 6 = .ok (.getfield 19, 3) := by decide +kernel
theorem d_Model_stateOfBits_9 : decode b_Model_stateOfBits 9 = .ok (.iconst 1, 1) := by decide +kernel
theorem d_Model_stateOfBits_10 : decode b_Model_stateOfBits 10 = .ok (.iaload, 1) := by decide +kernel
theorem d_Model_stateOfBits_11 : decode b_Model_stateOfBits 11 = .ok (.if_icmp .ge 50, 3) := by decide +kernel
theorem d_Model_stateOfBits_14 : decode b_Model_stateOfBits 14 = .ok (.lload_n 1, 1) := by decide +kernel
theorem d_Model_stateOfBits_15 : decode b_Model_stateOfBits 15 = .ok (.ldc2_w 75, 3) := by decide +kernel
theorem d_Model_stateOfBits_18 : decode b_Model_stateOfBits 18 = .ok (.aload_n 0, 1) := by decide +kernel
theorem d_Model_stateOfBits_19 : decode b_Model_stateOfBits 19 = .ok (.getfield 13, 3) := by decide +kernel
theorem d_Model_stateOfBits_22 : decode b_Model_stateOfBits 22 = .ok (.iload_n 3, 1) := by decide +kernel
theorem d_Model_stateOfBits_23 : decode b_Model_stateOfBits 23 = .ok (.iaload, 1) := by decide +kernel
theorem d_Model_stateOfBits_24 : decode b_Model_stateOfBits 24 = .ok (.i2l, 1) := by decide +kernel
theorem d_Model_stateOfBits_25 : decode b_Model_stateOfBits 25 = .ok (.lmul, 1) := by decide +kernel
theorem d_Model_stateOfBits_26 : decode b_Model_stateOfBits 26 = .ok (.iload_n 3, 1) := by decide +kernel
theorem d_Model_stateOfBits_27 : decode b_Model_stateOfBits 27 = .ok (.ifCond .le 24, 3) := by decide +kernel
theorem d_Model_stateOfBits_30 : decode b_Model_stateOfBits 30 = .ok (.aload_n 0, 1) := by decide +kernel
theorem d_Model_stateOfBits_31 : decode b_Model_stateOfBits 31 = .ok (.getfield 13, 3) := by decide +kernel
theorem d_Model_stateOfBits_34 : decode b_Model_stateOfBits 34 = .ok (.iload_n 3, 1) := by decide +kernel
theorem d_Model_stateOfBits_35 : decode b_Model_stateOfBits 35 = .ok (.iaload, 1) := by decide +kernel
theorem d_Model_stateOfBits_36 : decode b_Model_stateOfBits 36 = .ok (.aload_n 0, 1) := by decide +kernel
theorem d_Model_stateOfBits_37 : decode b_Model_stateOfBits 37 = .ok (.getfield 13, 3) := by decide +kernel
theorem d_Model_stateOfBits_40 : decode b_Model_stateOfBits 40 = .ok (.iload_n 3, 1) := by decide +kernel
theorem d_Model_stateOfBits_41 : decode b_Model_stateOfBits 41 = .ok (.iconst 1, 1) := by decide +kernel
theorem d_Model_stateOfBits_42 : decode b_Model_stateOfBits 42 = .ok (.isub, 1) := by decide +kernel
theorem d_Model_stateOfBits_43 : decode b_Model_stateOfBits 43 = .ok (.iaload, 1) := by decide +kernel
theorem d_Model_stateOfBits_44 : decode b_Model_stateOfBits 44 = .ok (.if_icmp .eq 7, 3) := by decide +kernel
theorem d_Model_stateOfBits_47 : decode b_Model_stateOfBits 47 = .ok (.lconst 1, 1) := by decide +kernel
theorem d_Model_stateOfBits_48 : decode b_Model_stateOfBits 48 = .ok (.goto 4, 3) := by decide +kernel
theorem d_Model_stateOfBits_51 : decode b_Model_stateOfBits 51 = .ok (.lconst 0, 1) := by decide +kernel
theorem d_Model_stateOfBits_52 : decode b_Model_stateOfBits 52 = .ok (.ladd, 1) := by decide +kernel
theorem d_Model_stateOfBits_53 : decode b_Model_stateOfBits 53 = .ok (.ladd, 1) := by decide +kernel
theorem d_Model_stateOfBits_54 : decode b_Model_stateOfBits 54 = .ok (.lstore_n 1, 1) := by decide +kernel
theorem d_Model_stateOfBits_55 : decode b_Model_stateOfBits 55 = .ok (.iinc 3 1, 3) := by decide +kernel
theorem d_Model_stateOfBits_58 : decode b_Model_stateOfBits 58 = .ok (.goto (-54), 3) := by decide +kernel
theorem d_Model_stateOfBits_61 : decode b_Model_stateOfBits 61 = .ok (.lload_n 1, 1) := by decide +kernel
theorem d_Model_stateOfBits_62 : decode b_Model_stateOfBits 62 = .ok (.lreturn, 1) := by decide +kernel

theorem d_Model_isUsed_0 : decode b_Model_isUsed 0 = .ok (.iconst 0, 1) := by decide +kernel
theorem d_Model_isUsed_1 : decode b_Model_isUsed 1 = .ok (.istore_n 2, 1) := by decide +kernel
theorem d_Model_isUsed_2 : decode b_Model_isUsed 2 = .ok (.iconst 0, 1) := by decide +kernel
theorem d_Model_isUsed_3 : decode b_Model_isUsed 3 = .ok (.istore_n 3, 1) := by decide +kernel
theorem d_Model_isUsed_4 : decode b_Model_isUsed 4 = .ok (.iload_n 3, 1) := by decide +kernel
theorem d_Model_isUsed_5 : decode b_Model_isUsed 5 = .ok (.sipush 384, 3) := by decide +kernel
theorem d_Model_isUsed_8 : decode b_Model_isUsed 8 = .ok (.if_icmp .ge 38, 3) := by decide +kernel
theorem d_Model_isUsed_11 : decode b_Model_isUsed 11 = .ok (.iload_n 2, 1) := by decide +kernel
theorem d_Model_isUsed_12 : decode b_Model_isUsed 12 = .ok (.ifCond .ne 22, 3) := by decide +kernel
theorem d_Model_isUsed_15 : decode b_Model_isUsed 15 = .ok (.aload_n 0, 1) := by decide +kernel
theorem d_Model_isUsed_16 : decode b_Model_isUsed 16 = .ok (.getfield 29, 3) := by decide +kernel
theorem d_Model_isUsed_19 : decode b_Model_isUsed 19 = .ok (.iload_n 3, 1) := by decide +kernel
theorem d_Model_isUsed_20 : decode b_Model_isUsed 20 = .ok (.baload, 1) := by decide +kernel
theorem d_Model_isUsed_21 : decode b_Model_isUsed 21 = .ok (.ifCond .eq 17, 3) := by decide +kernel
theorem d_Model_isUsed_24 : decode b_Model_isUsed 24 = .ok (.aload_n 0, 1) := by decide +kernel
theorem d_Model_isUsed_25 : decode b_Model_isUsed 25 = .ok (.getfield 39, 3) := by decide +kernel
theorem d_Model_isUsed_28 : decode b_Model_isUsed 28 = .ok (.iload_n 3, 1) := by decide +kernel
theorem d_Model_isUsed_29 : decode b_Model_isUsed 29 = .ok (.iaload, 1) := by decide +kernel
theorem d_Model_isUsed_30 : decode b_Model_isUsed 30 = .ok (.iload_n 1, 1) := by decide +kernel
theorem d_Model_isUsed_31 : decode b_Model_isUsed 31 = .ok (.if_icmp .ne 7, 3) := by decide +kernel
theorem d_Model_isUsed_34 : decode b_Model_isUsed 34 = .ok (.iconst 1, 1) := by decide +kernel
theorem d_Model_isUsed_35 : decode b_Model_isUsed 35 = .ok (.goto 4, 3) := by decide +kernel
theorem d_Model_isUsed_38 : decode b_Model_isUsed 38 = .ok (.iconst 0, 1) := by decide +kernel
theorem d_Model_isUsed_39 : decode b_Model_isUsed 39 = .ok (.istore_n 2, 1) := by decide +kernel
theorem d_Model_isUsed_40 : decode b_Model_isUsed 40 = .ok (.iinc 3 1, 3) := by decide +kernel
theorem d_Model_isUsed_43 : decode b_Model_isUsed 43 = .ok (.goto (-39), 3) := by decide +kernel
theorem d_Model_isUsed_46 : decode b_Model_isUsed 46 = .ok (.iload_n 2, 1) := by decide +kernel
theorem d_Model_isUsed_47 : decode b_Model_isUsed 47 = .ok (.ireturn, 1) := by decide +kernel

theorem d_Model_isThere_0 : decode b_Model_isThere 0 = .ok (.lload_n 1, 1) := by decide +kernel
theorem d_Model_isThere_1 : decode b_Model_isThere 1 = .ok (.ldc2_w 104, 3) := by decide +kernel
theorem d_Model_isThere_4 : decode b_Model_isThere 4 = .ok (.iload_n 3, 1) := by decide +kernel
theorem d_Model_isThere_5 : decode b_Model_isThere 5 = .ok (.i2l, 1) := by decide +kernel
theorem d_Model_isThere_6 : decode b_Model_isThere 6 = .ok (.lmul, 1) := by decide +kernel
theorem d_Model_isThere_7 : decode b_Model_isThere 7 = .ok (.lcmp, 1) := by decide +kernel
theorem d_Model_isThere_8 : decode b_Model_isThere 8 = .ok (.ifCond .le 32, 3) := by decide +kernel
theorem d_Model_isThere_11 : decode b_Model_isThere 11 = .ok (.lload_n 1, 1) := by decide +kernel
theorem d_Model_isThere_12 : decode b_Model_isThere 12 = .ok (.ldc2_w 104, 3) := by decide +kernel
theorem d_Model_isThere_15 : decode b_Model_isThere 15 = .ok (.iload_n 3, 1) := by decide +kernel
theorem d_Model_isThere_16 : decode b_Model_isThere 16 = .ok (.i2l, 1) := by decide +kernel
theorem d_Model_isThere_17 : decode b_Model_isThere 17 = .ok (.lmul, 1) := by decide +kernel
theorem d_Model_isThere_18 : decode b_Model_isThere 18 = .ok (.ldc2_w 104, 3) := by decide +kernel
theorem d_Model_isThere_21 : decode b_Model_isThere 21 = .ok (.ladd, 1) := by decide +kernel
theorem d_Model_isThere_22 : decode b_Model_isThere 22 = .ok (.lcmp, 1) := by decide +kernel
theorem d_Model_isThere_23 : decode b_Model_isThere 23 = .ok (.ifCond .ge 17, 3) := by decide +kernel
theorem d_Model_isThere_26 : decode b_Model_isThere 26 = .ok (.aload_n 0, 1) := by decide +kernel
theorem d_Model_isThere_27 : decode b_Model_isThere 27 = .ok (.getfield 29, 3) := by decide +kernel
theorem d_Model_isThere_30 : decode b_Model_isThere 30 = .ok (.lload_n 1, 1) := by decide +kernel
theorem d_Model_isThere_31 : decode b_Model_isThere 31 = .ok (.l2i, 1) := by decide +kernel
theorem d_Model_isThere_32 : decode b_Model_isThere 32 = .ok (.baload, 1) := by decide +kernel
theorem d_Model_isThere_33 : decode b_Model_isThere 33 = .ok (.ifCond .eq 7, 3) := by decide +kernel
theorem d_Model_isThere_36 : decode b_Model_isThere 36 = .ok (.iconst 1, 1) := by decide +kernel
theorem d_Model_isThere_37 : decode b_Model_isThere 37 = .ok (.goto 4, 3) := by decide +kernel
theorem d_Model_isThere_40 : decode b_Model_isThere 40 = .ok (.iconst 0, 1) := by decide +kernel
theorem d_Model_isThere_41 : decode b_Model_isThere 41 = .ok (.ireturn, 1) := by decide +kernel

theorem d_Model_why_0 : decode b_Model_why 0 = .ok (.iload_n 1, 1) := by decide +kernel
theorem d_Model_why_1 : decode b_Model_why 1 = .ok (.ifCond .lt 40, 3) := by decide +kernel
theorem d_Model_why_4 : decode b_Model_why 4 = .ok (.iload_n 1, 1) := by decide +kernel
theorem d_Model_why_5 : decode b_Model_why 5 = .ok (.bipush 23, 2) := by decide +kernel
theorem d_Model_why_7 : decode b_Model_why 7 = .ok (.if_icmp .gt 34, 3) := by decide +kernel
theorem d_Model_why_10 : decode b_Model_why 10 = .ok (.aload_n 0, 1) := by decide +kernel
theorem d_Model_why_11 : decode b_Model_why 11 = .ok (.iload_n 2, 1) := by decide +kernel
theorem d_Model_why_12 : decode b_Model_why 12 = .ok (.i2l, 1) := by decide +kernel
theorem d_Model_why_13 : decode b_Model_why 13 = .ok (.iload_n 1, 1) := by decide +kernel
theorem d_Model_why_14 : decode b_Model_why 14 = .ok (.bipush 6, 2) := by decide +kernel
theorem d_Model_why_16 : decode b_Model_why 16 = .ok (.irem, 1) := by decide +kernel
theorem d_Model_why_17 : decode b_Model_why 17 = .ok (.invokevirtual 106, 3) := by decide +kernel
theorem d_Model_why_20 : decode b_Model_why 20 = .ok (.ifCond .eq 21, 3) := by decide +kernel
theorem d_Model_why_23 : decode b_Model_why 23 = .ok (.iload_n 1, 1) := by decide +kernel
theorem d_Model_why_24 : decode b_Model_why 24 = .ok (.bipush 17, 2) := by decide +kernel
theorem d_Model_why_26 : decode b_Model_why 26 = .ok (.if_icmp .le 17, 3) := by decide +kernel
theorem d_Model_why_29 : decode b_Model_why 29 = .ok (.aload_n 0, 1) := by decide +kernel
theorem d_Model_why_30 : decode b_Model_why 30 = .ok (.lload_n 3, 1) := by decide +kernel
theorem d_Model_why_31 : decode b_Model_why 31 = .ok (.iload_n 1, 1) := by decide +kernel
theorem d_Model_why_32 : decode b_Model_why 32 = .ok (.bipush 6, 2) := by decide +kernel
theorem d_Model_why_34 : decode b_Model_why 34 = .ok (.irem, 1) := by decide +kernel
theorem d_Model_why_35 : decode b_Model_why 35 = .ok (.invokevirtual 106, 3) := by decide +kernel
theorem d_Model_why_38 : decode b_Model_why 38 = .ok (.ifCond .ne 5, 3) := by decide +kernel
theorem d_Model_why_41 : decode b_Model_why 41 = .ok (.iconst (-1), 1) := by decide +kernel
theorem d_Model_why_42 : decode b_Model_why 42 = .ok (.ireturn, 1) := by decide +kernel
theorem d_Model_why_43 : decode b_Model_why 43 = .ok (.lload_n 3, 1) := by decide +kernel
theorem d_Model_why_44 : decode b_Model_why 44 = .ok (.invokestatic 67, 3) := by decide +kernel
theorem d_Model_why_47 : decode b_Model_why 47 = .ok (.ifCond .eq 6, 3) := by decide +kernel
theorem d_Model_why_50 : decode b_Model_why 50 = .ok (.bipush (-2), 2) := by decide +kernel
theorem d_Model_why_52 : decode b_Model_why 52 = .ok (.ireturn, 1) := by decide +kernel
theorem d_Model_why_53 : decode b_Model_why 53 = .ok (.iload_n 1, 1) := by decide +kernel
theorem d_Model_why_54 : decode b_Model_why 54 = .ok (.bipush 6, 2) := by decide +kernel
theorem d_Model_why_56 : decode b_Model_why 56 = .ok (.idiv, 1) := by decide +kernel
theorem d_Model_why_57 : decode b_Model_why 57 = .ok (.iconst 2, 1) := by decide +kernel
theorem d_Model_why_58 : decode b_Model_why 58 = .ok (.if_icmp .ne 7, 3) := by decide +kernel
theorem d_Model_why_61 : decode b_Model_why 61 = .ok (.iconst 1, 1) := by decide +kernel
theorem d_Model_why_62 : decode b_Model_why 62 = .ok (.goto 4, 3) := by decide +kernel
theorem d_Model_why_65 : decode b_Model_why 65 = .ok (.iconst 0, 1) := by decide +kernel
theorem d_Model_why_66 : decode b_Model_why 66 = .ok (.istore 5, 2) := by decide +kernel
theorem d_Model_why_68 : decode b_Model_why 68 = .ok (.iload 5, 2) := by decide +kernel
theorem d_Model_why_70 : decode b_Model_why 70 = .ok (.ifCond .eq 21, 3) := by decide +kernel
theorem d_Model_why_73 : decode b_Model_why 73 = .ok (.iload_n 1, 1) := by decide +kernel
theorem d_Model_why_74 : decode b_Model_why 74 = .ok (.bipush 6, 2) := by decide +kernel
theorem d_Model_why_76 : decode b_Model_why 76 = .ok (.irem, 1) := by decide +kernel
theorem d_Model_why_77 : decode b_Model_why 77 = .ok (.ifCond .ne 14, 3) := by decide +kernel
theorem d_Model_why_80 : decode b_Model_why 80 = .ok (.aload_n 0, 1) := by decide +kernel
theorem d_Model_why_81 : decode b_Model_why 81 = .ok (.iload_n 2, 1) := by decide +kernel
theorem d_Model_why_82 : decode b_Model_why 82 = .ok (.invokevirtual 100, 3) := by decide +kernel
theorem d_Model_why_85 : decode b_Model_why 85 = .ok (.ifCond .eq 6, 3) := by decide +kernel
theorem d_Model_why_88 : decode b_Model_why 88 = .ok (.bipush (-3), 2) := by decide +kernel
theorem d_Model_why_90 : decode b_Model_why 90 = .ok (.ireturn, 1) := by decide +kernel
theorem d_Model_why_91 : decode b_Model_why 91 = .ok (.iload 5, 2) := by decide +kernel
theorem d_Model_why_93 : decode b_Model_why 93 = .ok (.ifCond .eq 19, 3) := by decide +kernel
theorem d_Model_why_96 : decode b_Model_why 96 = .ok (.aload_n 0, 1) := by decide +kernel
theorem d_Model_why_97 : decode b_Model_why 97 = .ok (.getfield 36, 3) := by decide +kernel
theorem d_Model_why_100 : decode b_Model_why 100 = .ok (.iload_n 2, 1) := by decide +kernel
theorem d_Model_why_101 : decode b_Model_why 101 = .ok (.iaload, 1) := by decide +kernel
theorem d_Model_why_102 : decode b_Model_why 102 = .ok (.bipush 50, 2) := by decide +kernel
theorem d_Model_why_104 : decode b_Model_why 104 = .ok (.if_icmp .ne 8, 3) := by decide +kernel
theorem d_Model_why_107 : decode b_Model_why 107 = .ok (.bipush (-4), 2) := by decide +kernel
theorem d_Model_why_109 : decode b_Model_why 109 = .ok (.goto 4, 3) := by decide +kernel
theorem d_Model_why_112 : decode b_Model_why 112 = .ok (.iconst 0, 1) := by decide +kernel
theorem d_Model_why_113 : decode b_Model_why 113 = .ok (.ireturn, 1) := by decide +kernel

