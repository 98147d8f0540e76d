theorem d_CarDesk_make_0 : decode b_CarDesk_make 0 = .ok (.iload_n 1, 1) := by decide +kernel
theorem d_CarDesk_make_1 : decode b_CarDesk_make 1 = .ok (.invokestatic 93, 3) := by decide +kernel
theorem d_CarDesk_make_4 : decode b_CarDesk_make 4 = .ok (.ifCond .ne 9, 3) := by decide +kernel
theorem d_CarDesk_make_7 : decode b_CarDesk_make 7 = .ok (.aload_n 0, 1) := by decide +kernel
theorem d_CarDesk_make_8 : decode b_CarDesk_make 8 = .ok (.iconst (-1), 1) := by decide +kernel
theorem d_CarDesk_make_9 : decode b_CarDesk_make 9 = .ok (.invokevirtual 68, 3) := by decide +kernel
theorem d_CarDesk_make_12 : decode b_CarDesk_make 12 = .ok (.ireturn, 1) := by decide +kernel
theorem d_CarDesk_make_13 : decode b_CarDesk_make 13 = .ok (.aload_n 0, 1) := by decide +kernel
theorem d_CarDesk_make_14 : decode b_CarDesk_make 14 = .ok (.iload_n 1, 1) := by decide +kernel
theorem d_CarDesk_make_15 : decode b_CarDesk_make 15 = .ok (.invokevirtual 96, 3) := by decide +kernel
theorem d_CarDesk_make_18 : decode b_CarDesk_make 18 = .ok (.ifCond .ne 10, 3) := by decide +kernel
theorem d_CarDesk_make_21 : decode b_CarDesk_make 21 = .ok (.aload_n 0, 1) := by decide +kernel
theorem d_CarDesk_make_22 : decode b_CarDesk_make 22 = .ok (.bipush (-3), 2) := by decide +kernel
theorem d_CarDesk_make_24 : decode b_CarDesk_make 24 = .ok (.invokevirtual 68, 3) := by decide +kernel
theorem d_CarDesk_make_27 : decode b_CarDesk_make 27 = .ok (.ireturn, 1) := by decide +kernel
theorem d_CarDesk_make_28 : decode b_CarDesk_make 28 = .ok (.aload_n 0, 1) := by decide +kernel
theorem d_CarDesk_make_29 : decode b_CarDesk_make 29 = .ok (.getfield 26, 3) := by decide +kernel
theorem d_CarDesk_make_32 : decode b_CarDesk_make 32 = .ok (.iload_n 1, 1) := by decide +kernel
theorem d_CarDesk_make_33 : decode b_CarDesk_make 33 = .ok (.aaload, 1) := by decide +kernel
theorem d_CarDesk_make_34 : decode b_CarDesk_make 34 = .ok (.astore_n 2, 1) := by decide +kernel
theorem d_CarDesk_make_35 : decode b_CarDesk_make 35 = .ok (.aload_n 2, 1) := by decide +kernel
theorem d_CarDesk_make_36 : decode b_CarDesk_make 36 = .ok (.invokevirtual 99, 3) := by decide +kernel
theorem d_CarDesk_make_39 : decode b_CarDesk_make 39 = .ok (.ifCond .eq 10, 3) := by decide +kernel
theorem d_CarDesk_make_42 : decode b_CarDesk_make 42 = .ok (.aload_n 0, 1) := by decide +kernel
theorem d_CarDesk_make_43 : decode b_CarDesk_make 43 = .ok (.bipush (-4), 2) := by decide +kernel
theorem d_CarDesk_make_45 : decode b_CarDesk_make 45 = .ok (.invokevirtual 68, 3) := by decide +kernel
theorem d_CarDesk_make_48 : decode b_CarDesk_make 48 = .ok (.ireturn, 1) := by decide +kernel
theorem d_CarDesk_make_49 : decode b_CarDesk_make 49 = .ok (.aload_n 0, 1) := by decide +kernel
theorem d_CarDesk_make_50 : decode b_CarDesk_make 50 = .ok (.iload_n 1, 1) := by decide +kernel
theorem d_CarDesk_make_51 : decode b_CarDesk_make 51 = .ok (.invokevirtual 100, 3) := by decide +kernel
theorem d_CarDesk_make_54 : decode b_CarDesk_make 54 = .ok (.astore_n 3, 1) := by decide +kernel
theorem d_CarDesk_make_55 : decode b_CarDesk_make 55 = .ok (.aload_n 2, 1) := by decide +kernel
theorem d_CarDesk_make_56 : decode b_CarDesk_make 56 = .ok (.new 104, 3) := by decide +kernel
theorem d_CarDesk_make_59 : decode b_CarDesk_make 59 = .ok (.dup, 1) := by decide +kernel
theorem d_CarDesk_make_60 : decode b_CarDesk_make 60 = .ok (.aload_n 0, 1) := by decide +kernel
theorem d_CarDesk_make_61 : decode b_CarDesk_make 61 = .ok (.iload_n 1, 1) := by decide +kernel
theorem d_CarDesk_make_62 : decode b_CarDesk_make 62 = .ok (.aload_n 3, 1) := by decide +kernel
theorem d_CarDesk_make_63 : decode b_CarDesk_make 63 = .ok (.invokevirtual 106, 3) := by decide +kernel
theorem d_CarDesk_make_66 : decode b_CarDesk_make 66 = .ok (.aload_n 3, 1) := by decide +kernel
theorem d_CarDesk_make_67 : decode b_CarDesk_make 67 = .ok (.invokespecial 110, 3) := by decide +kernel
theorem d_CarDesk_make_70 : decode b_CarDesk_make 70 = .ok (.invokevirtual 113, 3) := by decide +kernel
theorem d_CarDesk_make_73 : decode b_CarDesk_make 73 = .ok (.aload_n 0, 1) := by decide +kernel
theorem d_CarDesk_make_74 : decode b_CarDesk_make 74 = .ok (.iload_n 1, 1) := by decide +kernel
theorem d_CarDesk_make_75 : decode b_CarDesk_make 75 = .ok (.invokevirtual 116, 3) := by decide +kernel
theorem d_CarDesk_make_78 : decode b_CarDesk_make 78 = .ok (.aload_n 0, 1) := by decide +kernel
theorem d_CarDesk_make_79 : decode b_CarDesk_make 79 = .ok (.dup, 1) := by decide +kernel
theorem d_CarDesk_make_80 : decode b_CarDesk_make 80 = .ok (.getfield 57, 3) := by decide +kernel
theorem d_CarDesk_make_83 : decode b_CarDesk_make 83 = .ok (.iconst 1, 1) := by decide +kernel
theorem d_CarDesk_make_84 : decode b_CarDesk_make 84 = .ok (.iadd, 1) := by decide +kernel
theorem d_CarDesk_make_85 : decode b_CarDesk_make 85 = .ok (.putfield 57, 3) := by decide +kernel
theorem d_CarDesk_make_88 : decode b_CarDesk_make 88 = .ok (.aload_n 0, 1) := by decide +kernel
theorem d_CarDesk_make_89 : decode b_CarDesk_make 89 = .ok (.dup, 1) := by decide +kernel
theorem d_CarDesk_make_90 : decode b_CarDesk_make 90 = .ok (.getfield 60, 3) := by decide +kernel
theorem d_CarDesk_make_93 : decode b_CarDesk_make 93 = .ok (.iconst 1, 1) := by decide +kernel
theorem d_CarDesk_make_94 : decode b_CarDesk_make 94 = .ok (.iadd, 1) := by decide +kernel
theorem d_CarDesk_make_95 : decode b_CarDesk_make 95 = .ok (.putfield 60, 3) := by decide +kernel
theorem d_CarDesk_make_98 : decode b_CarDesk_make 98 = .ok (.bipush 64, 2) := by decide +kernel
theorem d_CarDesk_make_100 : decode b_CarDesk_make 100 = .ok (.iload_n 1, 1) := by decide +kernel
theorem d_CarDesk_make_101 : decode b_CarDesk_make 101 = .ok (.imul, 1) := by decide +kernel
theorem d_CarDesk_make_102 : decode b_CarDesk_make 102 = .ok (.aload_n 2, 1) := by decide +kernel
theorem d_CarDesk_make_103 : decode b_CarDesk_make 103 = .ok (.getfield 119, 3) := by decide +kernel
theorem d_CarDesk_make_106 : decode b_CarDesk_make 106 = .ok (.iadd, 1) := by decide +kernel
theorem d_CarDesk_make_107 : decode b_CarDesk_make 107 = .ok (.ireturn, 1) := by decide +kernel

