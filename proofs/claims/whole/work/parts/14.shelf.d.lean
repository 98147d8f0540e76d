theorem d_Shelf_isFull_0 : decode b_Shelf_isFull 0 = .ok (.aload_n 0, 1) := by decide +kernel
theorem d_Shelf_isFull_1 : decode b_Shelf_isFull 1 = .ok (.getfield 17, 3) := by decide +kernel
theorem d_Shelf_isFull_4 : decode b_Shelf_isFull 4 = .ok (.bipush 20, 2) := by decide +kernel
theorem d_Shelf_isFull_6 : decode b_Shelf_isFull 6 = .ok (.if_icmp .lt 7, 3) := by decide +kernel
theorem d_Shelf_isFull_9 : decode b_Shelf_isFull 9 = .ok (.iconst 1, 1) := by decide +kernel
theorem d_Shelf_isFull_10 : decode b_Shelf_isFull 10 = .ok (.goto 4, 3) := by decide +kernel
theorem d_Shelf_isFull_13 : decode b_Shelf_isFull 13 = .ok (.iconst 0, 1) := by decide +kernel
theorem d_Shelf_isFull_14 : decode b_Shelf_isFull 14 = .ok (.ireturn, 1) := by decide +kernel

theorem d_Shelf_put_0 : decode b_Shelf_put 0 = .ok (.aload_n 0, 1) := by decide +kernel
theorem d_Shelf_put_1 : decode b_Shelf_put 1 = .ok (.getfield 17, 3) := by decide +kernel
theorem d_Shelf_put_4 : decode b_Shelf_put 4 = .ok (.ifCond .lt 32, 3) := by decide +kernel
theorem d_Shelf_put_7 : decode b_Shelf_put 7 = .ok (.aload_n 0, 1) := by decide +kernel
theorem d_Shelf_put_8 : decode b_Shelf_put 8 = .ok (.getfield 17, 3) := by decide +kernel
theorem d_Shelf_put_11 : decode b_Shelf_put 11 = .ok (.bipush 20, 2) := by decide +kernel
theorem d_Shelf_put_13 : decode b_Shelf_put 13 = .ok (.if_icmp .ge 23, 3) := by decide +kernel
theorem d_Shelf_put_16 : decode b_Shelf_put 16 = .ok (.aload_n 0, 1) := by decide +kernel
theorem d_Shelf_put_17 : decode b_Shelf_put 17 = .ok (.getfield 11, 3) := by decide +kernel
theorem d_Shelf_put_20 : decode b_Shelf_put 20 = .ok (.aload_n 0, 1) := by decide +kernel
theorem d_Shelf_put_21 : decode b_Shelf_put 21 = .ok (.getfield 17, 3) := by decide +kernel
theorem d_Shelf_put_24 : decode b_Shelf_put 24 = .ok (.aload_n 1, 1) := by decide +kernel
theorem d_Shelf_put_25 : decode b_Shelf_put 25 = .ok (.aastore, 1) := by decide +kernel
theorem d_Shelf_put_26 : decode b_Shelf_put 26 = .ok (.aload_n 0, 1) := by decide +kernel
theorem d_Shelf_put_27 : decode b_Shelf_put 27 = .ok (.dup, 1) := by decide +kernel
theorem d_Shelf_put_28 : decode b_Shelf_put 28 = .ok (.getfield 17, 3) := by decide +kernel
theorem d_Shelf_put_31 : decode b_Shelf_put 31 = .ok (.iconst 1, 1) := by decide +kernel
theorem d_Shelf_put_32 : decode b_Shelf_put 32 = .ok (.iadd, 1) := by decide +kernel
theorem d_Shelf_put_33 : decode b_Shelf_put 33 = .ok (.putfield 17, 3) := by decide +kernel
theorem d_Shelf_put_36 : decode b_Shelf_put 36 = .ok (.return_, 1) := by decide +kernel

theorem d_Shelf_at_0 : decode b_Shelf_at 0 = .ok (.iload_n 1, 1) := by decide +kernel
theorem d_Shelf_at_1 : decode b_Shelf_at 1 = .ok (.ifCond .lt 9, 3) := by decide +kernel
theorem d_Shelf_at_4 : decode b_Shelf_at 4 = .ok (.iload_n 1, 1) := by decide +kernel
theorem d_Shelf_at_5 : decode b_Shelf_at 5 = .ok (.bipush 20, 2) := by decide +kernel
theorem d_Shelf_at_7 : decode b_Shelf_at 7 = .ok (.if_icmp .lt 5, 3) := by decide +kernel
theorem d_Shelf_at_10 : decode b_Shelf_at 10 = .ok (.aconst_null, 1) := by decide +kernel
theorem d_Shelf_at_11 : decode b_Shelf_at 11 = .ok (.areturn, 1) := by decide +kernel
theorem d_Shelf_at_12 : decode b_Shelf_at 12 = .ok (.aload_n 0, 1) := by decide +kernel
theorem d_Shelf_at_13 : decode b_Shelf_at 13 = .ok (.getfield 11, 3) := by decide +kernel
theorem d_Shelf_at_16 : decode b_Shelf_at 16 = .ok (.iload_n 1, 1) := by decide +kernel
theorem d_Shelf_at_17 : decode b_Shelf_at 17 = .ok (.aaload, 1) := by decide +kernel
theorem d_Shelf_at_18 : decode b_Shelf_at 18 = .ok (.astore_n 2, 1) := by decide +kernel
theorem d_Shelf_at_19 : decode b_Shelf_at 19 = .ok (.aload_n 2, 1) := by decide +kernel
theorem d_Shelf_at_20 : decode b_Shelf_at 20 = .ok (.ifnull 14, 3) := by decide +kernel
theorem d_Shelf_at_23 : decode b_Shelf_at 23 = .ok (.aload_n 2, 1) := by decide +kernel
theorem d_Shelf_at_24 : decode b_Shelf_at 24 = .ok (.getfield 21, 3) := by decide +kernel
theorem d_Shelf_at_27 : decode b_Shelf_at 27 = .ok (.ifCond .eq 7, 3) := by decide +kernel
theorem d_Shelf_at_30 : decode b_Shelf_at 30 = .ok (.aload_n 2, 1) := by decide +kernel
theorem d_Shelf_at_31 : decode b_Shelf_at 31 = .ok (.goto 4, 3) := by decide +kernel
theorem d_Shelf_at_34 : decode b_Shelf_at 34 = .ok (.aconst_null, 1) := by decide +kernel
theorem d_Shelf_at_35 : decode b_Shelf_at 35 = .ok (.areturn, 1) := by decide +kernel

theorem d_Shelf_countThere_0 : decode b_Shelf_countThere 0 = .ok (.iconst 0, 1) := by decide +kernel
theorem d_Shelf_countThere_1 : decode b_Shelf_countThere 1 = .ok (.istore_n 1, 1) := by decide +kernel
theorem d_Shelf_countThere_2 : decode b_Shelf_countThere 2 = .ok (.iconst 0, 1) := by decide +kernel
theorem d_Shelf_countThere_3 : decode b_Shelf_countThere 3 = .ok (.istore_n 2, 1) := by decide +kernel
theorem d_Shelf_countThere_4 : decode b_Shelf_countThere 4 = .ok (.iload_n 2, 1) := by decide +kernel
theorem d_Shelf_countThere_5 : decode b_Shelf_countThere 5 = .ok (.bipush 20, 2) := by decide +kernel
theorem d_Shelf_countThere_7 : decode b_Shelf_countThere 7 = .ok (.if_icmp .ge 20, 3) := by decide +kernel
theorem d_Shelf_countThere_10 : decode b_Shelf_countThere 10 = .ok (.aload_n 0, 1) := by decide +kernel
theorem d_Shelf_countThere_11 : decode b_Shelf_countThere 11 = .ok (.iload_n 2, 1) := by decide +kernel
theorem d_Shelf_countThere_12 : decode b_Shelf_countThere 12 = .ok (.invokevirtual 25, 3) := by decide +kernel
theorem d_Shelf_countThere_15 : decode b_Shelf_countThere 15 = .ok (.ifnull 6, 3) := by decide +kernel
theorem d_Shelf_countThere_18 : decode b_Shelf_countThere 18 = .ok (.iinc 1 1, 3) := by decide +kernel
theorem d_Shelf_countThere_21 : decode b_Shelf_countThere 21 = .ok (.iinc 2 1, 3) := by decide +kernel
theorem d_Shelf_countThere_24 : decode b_Shelf_countThere 24 = .ok (.goto (-20), 3) := by decide +kernel
theorem d_Shelf_countThere_27 : decode b_Shelf_countThere 27 = .ok (.iload_n 1, 1) := by decide +kernel
theorem d_Shelf_countThere_28 : decode b_Shelf_countThere 28 = .ok (.ireturn, 1) := by decide +kernel

theorem d_Shelf_sumOfStates_0 : decode b_Shelf_sumOfStates 0 = .ok (.lconst 0, 1) := by decide +kernel
theorem d_Shelf_sumOfStates_1 : decode b_Shelf_sumOfStates 1 = .ok (.lstore_n 1, 1) := by decide +kernel
theorem d_Shelf_sumOfStates_2 : decode b_Shelf_sumOfStates 2 = .ok (.iconst 0, 1) := by decide +kernel
theorem d_Shelf_sumOfStates_3 : decode b_Shelf_sumOfStates 3 = .ok (.istore_n 3, 1) := by decide +kernel
theorem d_Shelf_sumOfStates_4 : decode b_Shelf_sumOfStates 4 = .ok (.iload_n 3, 1) := by decide +kernel
theorem d_Shelf_sumOfStates_5 : decode b_Shelf_sumOfStates 5 = .ok (.bipush 20, 2) := by decide +kernel
theorem d_Shelf_sumOfStates_7 : decode b_Shelf_sumOfStates 7 = .ok (.if_icmp .ge 29, 3) := by decide +kernel
theorem d_Shelf_sumOfStates_10 : decode b_Shelf_sumOfStates 10 = .ok (.aload_n 0, 1) := by decide +kernel
theorem d_Shelf_sumOfStates_11 : decode b_Shelf_sumOfStates 11 = .ok (.iload_n 3, 1) := by decide +kernel
theorem d_Shelf_sumOfStates_12 : decode b_Shelf_sumOfStates 12 = .ok (.invokevirtual 25, 3) := by decide +kernel
theorem d_Shelf_sumOfStates_15 : decode b_Shelf_sumOfStates 15 = .ok (.astore 4, 2) := by decide +kernel
theorem d_Shelf_sumOfStates_17 : decode b_Shelf_sumOfStates 17 = .ok (.aload 4, 2) := by decide +kernel
theorem d_Shelf_sumOfStates_19 : decode b_Shelf_sumOfStates 19 = .ok (.ifnull 11, 3) := by decide +kernel
theorem d_Shelf_sumOfStates_22 : decode b_Shelf_sumOfStates 22 = .ok (.lload_n 1, 1) := by decide +kernel
theorem d_Shelf_sumOfStates_23 : decode b_Shelf_sumOfStates 23 = .ok (.aload 4, 2) := by decide +kernel
theorem d_Shelf_sumOfStates_25 : decode b_Shelf_sumOfStates 25 = .ok (.getfield 29, 3) := by decide +kernel
theorem d_Shelf_sumOfStates_28 : decode b_Shelf_sumOfStates 28 = .ok (.ladd, 1) := by decide +kernel
theorem d_Shelf_sumOfStates_29 : decode b_Shelf_sumOfStates 29 = .ok (.lstore_n 1, 1) := by decide +kernel
theorem d_Shelf_sumOfStates_30 : decode b_Shelf_sumOfStates 30 = .ok (.iinc 3 1, 3) := by decide +kernel
theorem d_Shelf_sumOfStates_33 : decode b_Shelf_sumOfStates 33 = .ok (.goto (-29), 3) := by decide +kernel
theorem d_Shelf_sumOfStates_36 : decode b_Shelf_sumOfStates 36 = .ok (.lload_n 1, 1) := by decide +kernel
theorem d_Shelf_sumOfStates_37 : decode b_Shelf_sumOfStates 37 = .ok (.lreturn, 1) := by decide +kernel

theorem d_Shelf_newest_0 : decode b_Shelf_newest 0 = .ok (.bipush 19, 2) := by decide +kernel
theorem d_Shelf_newest_2 : decode b_Shelf_newest 2 = .ok (.istore_n 1, 1) := by decide +kernel
theorem d_Shelf_newest_3 : decode b_Shelf_newest 3 = .ok (.iload_n 1, 1) := by decide +kernel
theorem d_Shelf_newest_4 : decode b_Shelf_newest 4 = .ok (.ifCond .lt 21, 3) := by decide +kernel
theorem d_Shelf_newest_7 : decode b_Shelf_newest 7 = .ok (.aload_n 0, 1) := by decide +kernel
theorem d_Shelf_newest_8 : decode b_Shelf_newest 8 = .ok (.iload_n 1, 1) := by decide +kernel
theorem d_Shelf_newest_9 : decode b_Shelf_newest 9 = .ok (.invokevirtual 25, 3) := by decide +kernel
theorem d_Shelf_newest_12 : decode b_Shelf_newest 12 = .ok (.astore_n 2, 1) := by decide +kernel
theorem d_Shelf_newest_13 : decode b_Shelf_newest 13 = .ok (.aload_n 2, 1) := by decide +kernel
theorem d_Shelf_newest_14 : decode b_Shelf_newest 14 = .ok (.ifnull 5, 3) := by decide +kernel
theorem d_Shelf_newest_17 : decode b_Shelf_newest 17 = .ok (.aload_n 2, 1) := by decide +kernel
theorem d_Shelf_newest_18 : decode b_Shelf_newest 18 = .ok (.areturn, 1) := by decide +kernel
theorem d_Shelf_newest_19 : decode b_Shelf_newest 19 = .ok (.iinc 1 (-1), 3) := by decide +kernel
theorem d_Shelf_newest_22 : decode b_Shelf_newest 22 = .ok (.goto (-19), 3) := by decide +kernel
theorem d_Shelf_newest_25 : decode b_Shelf_newest 25 = .ok (.aconst_null, 1) := by decide +kernel
theorem d_Shelf_newest_26 : decode b_Shelf_newest 26 = .ok (.areturn, 1) := by decide +kernel

