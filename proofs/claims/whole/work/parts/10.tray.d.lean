theorem d_Tray_isFull_0 : decode b_Tray_isFull 0 = .ok (.aload_n 0, 1) := by decide +kernel
theorem d_Tray_isFull_1 : decode b_Tray_isFull 1 = .ok (.getfield 15, 3) := by decide +kernel
theorem d_Tray_isFull_4 : decode b_Tray_isFull 4 = .ok (.sipush 200, 3) := by decide +kernel
theorem d_Tray_isFull_7 : decode b_Tray_isFull 7 = .ok (.if_icmp .lt 7, 3) := by decide +kernel
theorem d_Tray_isFull_10 : decode b_Tray_isFull 10 = .ok (.iconst 1, 1) := by decide +kernel
theorem d_Tray_isFull_11 : decode b_Tray_isFull 11 = .ok (.goto 4, 3) := by decide +kernel
theorem d_Tray_isFull_14 : decode b_Tray_isFull 14 = .ok (.iconst 0, 1) := by decide +kernel
theorem d_Tray_isFull_15 : decode b_Tray_isFull 15 = .ok (.ireturn, 1) := by decide +kernel

theorem d_Tray_put_0 : decode b_Tray_put 0 = .ok (.aload_n 0, 1) := by decide +kernel
theorem d_Tray_put_1 : decode b_Tray_put 1 = .ok (.getfield 15, 3) := by decide +kernel
theorem d_Tray_put_4 : decode b_Tray_put 4 = .ok (.ifCond .lt 33, 3) := by decide +kernel
theorem d_Tray_put_7 : decode b_Tray_put 7 = .ok (.aload_n 0, 1) := by decide +kernel
theorem d_Tray_put_8 : decode b_Tray_put 8 = .ok (.getfield 15, 3) := by decide +kernel
theorem d_Tray_put_11 : decode b_Tray_put 11 = .ok (.sipush 200, 3) := by decide +kernel
theorem d_Tray_put_14 : decode b_Tray_put 14 = .ok (.if_icmp .ge 23, 3) := by decide +kernel
theorem d_Tray_put_17 : decode b_Tray_put 17 = .ok (.aload_n 0, 1) := by decide +kernel
theorem d_Tray_put_18 : decode b_Tray_put 18 = .ok (.getfield 9, 3) := by decide +kernel
theorem d_Tray_put_21 : decode b_Tray_put 21 = .ok (.aload_n 0, 1) := by decide +kernel
theorem d_Tray_put_22 : decode b_Tray_put 22 = .ok (.getfield 15, 3) := by decide +kernel
theorem d_Tray_put_25 : decode b_Tray_put 25 = .ok (.iload_n 1, 1) := by decide +kernel
theorem d_Tray_put_26 : decode b_Tray_put 26 = .ok (.iastore, 1) := by decide +kernel
theorem d_Tray_put_27 : decode b_Tray_put 27 = .ok (.aload_n 0, 1) := by decide +kernel
theorem d_Tray_put_28 : decode b_Tray_put 28 = .ok (.dup, 1) := by decide +kernel
theorem d_Tray_put_29 : decode b_Tray_put 29 = .ok (.getfield 15, 3) := by decide +kernel
theorem d_Tray_put_32 : decode b_Tray_put 32 = .ok (.iconst 1, 1) := by decide +kernel
theorem d_Tray_put_33 : decode b_Tray_put 33 = .ok (.iadd, 1) := by decide +kernel
theorem d_Tray_put_34 : decode b_Tray_put 34 = .ok (.putfield 15, 3) := by decide +kernel
theorem d_Tray_put_37 : decode b_Tray_put 37 = .ok (.return_, 1) := by decide +kernel

theorem d_Tray_empty_0 : decode b_Tray_empty 0 = .ok (.aload_n 0, 1) := by decide +kernel
theorem d_Tray_empty_1 : decode b_Tray_empty 1 = .ok (.iconst 0, 1) := by decide +kernel
theorem d_Tray_empty_2 : decode b_Tray_empty 2 = .ok (.putfield 15, 3) := by decide +kernel
theorem d_Tray_empty_5 : decode b_Tray_empty 5 = .ok (.return_, 1) := by decide +kernel

theorem d_Tray_hash_0 : decode b_Tray_hash 0 = .ok (.ldc2_w 22, 3) := by decide +kernel
theorem d_Tray_hash_3 : decode b_Tray_hash 3 = .ok (.lstore_n 1, 1) := by decide +kernel
theorem d_Tray_hash_4 : decode b_Tray_hash 4 = .ok (.iconst 0, 1) := by decide +kernel
theorem d_Tray_hash_5 : decode b_Tray_hash 5 = .ok (.istore_n 3, 1) := by decide +kernel
theorem d_Tray_hash_6 : decode b_Tray_hash 6 = .ok (.iload_n 3, 1) := by decide +kernel
theorem d_Tray_hash_7 : decode b_Tray_hash 7 = .ok (.aload_n 0, 1) := by decide +kernel
theorem d_Tray_hash_8 : decode b_Tray_hash 8 = .ok (.getfield 15, 3) := by decide +kernel
theorem d_Tray_hash_11 : decode b_Tray_hash 11 = .ok (.if_icmp .ge 23, 3) := by decide +kernel
theorem d_Tray_hash_14 : decode b_Tray_hash 14 = .ok (.ldc2_w 24, 3) := by decide +kernel
theorem d_Tray_hash_17 : decode b_Tray_hash 17 = .ok (.lload_n 1, 1) := by decide +kernel
theorem d_Tray_hash_18 : decode b_Tray_hash 18 = .ok (.lmul, 1) := by decide +kernel
theorem d_Tray_hash_19 : decode b_Tray_hash 19 = .ok (.aload_n 0, 1) := by decide +kernel
theorem d_Tray_hash_20 : decode b_Tray_hash 20 = .ok (.getfield 9, 3) := by decide +kernel
theorem d_Tray_hash_23 : decode b_Tray_hash 23 = .ok (.iload_n 3, 1) := by decide +kernel
theorem d_Tray_hash_24 : decode b_Tray_hash 24 = .ok (.iaload, 1) := by decide +kernel
theorem d_Tray_hash_25 : decode b_Tray_hash 25 = .ok (.i2l, 1) := by decide +kernel
theorem d_Tray_hash_26 : decode b_Tray_hash 26 = .ok (.ladd, 1) := by decide +kernel
theorem d_Tray_hash_27 : decode b_Tray_hash 27 = .ok (.lstore_n 1, 1) := by decide +kernel
theorem d_Tray_hash_28 : decode b_Tray_hash 28 = .ok (.iinc 3 1, 3) := by decide +kernel
theorem d_Tray_hash_31 : decode b_Tray_hash 31 = .ok (.goto (-25), 3) := by decide +kernel
theorem d_Tray_hash_34 : decode b_Tray_hash 34 = .ok (.lload_n 1, 1) := by decide +kernel
theorem d_Tray_hash_35 : decode b_Tray_hash 35 = .ok (.lreturn, 1) := by decide +kernel

theorem d_Tray_sum_0 : decode b_Tray_sum 0 = .ok (.iconst 0, 1) := by decide +kernel
theorem d_Tray_sum_1 : decode b_Tray_sum 1 = .ok (.istore_n 1, 1) := by decide +kernel
theorem d_Tray_sum_2 : decode b_Tray_sum 2 = .ok (.iconst 0, 1) := by decide +kernel
theorem d_Tray_sum_3 : decode b_Tray_sum 3 = .ok (.istore_n 2, 1) := by decide +kernel
theorem d_Tray_sum_4 : decode b_Tray_sum 4 = .ok (.iload_n 2, 1) := by decide +kernel
theorem d_Tray_sum_5 : decode b_Tray_sum 5 = .ok (.aload_n 0, 1) := by decide +kernel
theorem d_Tray_sum_6 : decode b_Tray_sum 6 = .ok (.getfield 15, 3) := by decide +kernel
theorem d_Tray_sum_9 : decode b_Tray_sum 9 = .ok (.if_icmp .ge 18, 3) := by decide +kernel
theorem d_Tray_sum_12 : decode b_Tray_sum 12 = .ok (.iload_n 1, 1) := by decide +kernel
theorem d_Tray_sum_13 : decode b_Tray_sum 13 = .ok (.aload_n 0, 1) := by decide +kernel
theorem d_Tray_sum_14 : decode b_Tray_sum 14 = .ok (.getfield 9, 3) := by decide +kernel
theorem d_Tray_sum_17 : decode b_Tray_sum 17 = .ok (.iload_n 2, 1) := by decide +kernel
theorem d_Tray_sum_18 : decode b_Tray_sum 18 = .ok (.iaload, 1) := by decide +kernel
theorem d_Tray_sum_19 : decode b_Tray_sum 19 = .ok (.iadd, 1) := by decide +kernel
theorem d_Tray_sum_20 : decode b_Tray_sum 20 = .ok (.istore_n 1, 1) := by decide +kernel
theorem d_Tray_sum_21 : decode b_Tray_sum 21 = .ok (.iinc 2 1, 3) := by decide +kernel
theorem d_Tray_sum_24 : decode b_Tray_sum 24 = .ok (.goto (-20), 3) := by decide +kernel
theorem d_Tray_sum_27 : decode b_Tray_sum 27 = .ok (.iload_n 1, 1) := by decide +kernel
theorem d_Tray_sum_28 : decode b_Tray_sum 28 = .ok (.ireturn, 1) := by decide +kernel

theorem d_Tray_checksum_0 : decode b_Tray_checksum 0 = .ok (.iconst 1, 1) := by decide +kernel
theorem d_Tray_checksum_1 : decode b_Tray_checksum 1 = .ok (.istore_n 1, 1) := by decide +kernel
theorem d_Tray_checksum_2 : decode b_Tray_checksum 2 = .ok (.iconst 0, 1) := by decide +kernel
theorem d_Tray_checksum_3 : decode b_Tray_checksum 3 = .ok (.istore_n 2, 1) := by decide +kernel
theorem d_Tray_checksum_4 : decode b_Tray_checksum 4 = .ok (.iconst 0, 1) := by decide +kernel
theorem d_Tray_checksum_5 : decode b_Tray_checksum 5 = .ok (.istore_n 3, 1) := by decide +kernel
theorem d_Tray_checksum_6 : decode b_Tray_checksum 6 = .ok (.iload_n 3, 1) := by decide +kernel
theorem d_Tray_checksum_7 : decode b_Tray_checksum 7 = .ok (.aload_n 0, 1) := by decide +kernel
theorem d_Tray_checksum_8 : decode b_Tray_checksum 8 = .ok (.getfield 15, 3) := by decide +kernel
theorem d_Tray_checksum_11 : decode b_Tray_checksum 11 = .ok (.if_icmp .ge 28, 3) := by decide +kernel
theorem d_Tray_checksum_14 : decode b_Tray_checksum 14 = .ok (.iload_n 1, 1) := by decide +kernel
theorem d_Tray_checksum_15 : decode b_Tray_checksum 15 = .ok (.aload_n 0, 1) := by decide +kernel
theorem d_Tray_checksum_16 : decode b_Tray_checksum 16 = .ok (.getfield 9, 3) := by decide +kernel
theorem d_Tray_checksum_19 : decode b_Tray_checksum 19 = .ok (.iload_n 3, 1) := by decide +kernel
theorem d_Tray_checksum_20 : decode b_Tray_checksum 20 = .ok (.iaload, 1) := by decide +kernel
theorem d_Tray_checksum_21 : decode b_Tray_checksum 21 = .ok (.iadd, 1) := by decide +kernel
theorem d_Tray_checksum_22 : decode b_Tray_checksum 22 = .ok (.ldc 26, 2) := by decide +kernel
theorem d_Tray_checksum_24 : decode b_Tray_checksum 24 = .ok (.irem, 1) := by decide +kernel
theorem d_Tray_checksum_25 : decode b_Tray_checksum 25 = .ok (.istore_n 1, 1) := by decide +kernel
theorem d_Tray_checksum_26 : decode b_Tray_checksum 26 = .ok (.iload_n 2, 1) := by decide +kernel
theorem d_Tray_checksum_27 : decode b_Tray_checksum 27 = .ok (.iload_n 1, 1) := by decide +kernel
theorem d_Tray_checksum_28 : decode b_Tray_checksum 28 = .ok (.iadd, 1) := by decide +kernel
theorem d_Tray_checksum_29 : decode b_Tray_checksum 29 = .ok (.ldc 26, 2) := by decide +kernel
theorem d_Tray_checksum_31 : decode b_Tray_checksum 31 = .ok (.irem, 1) := by decide +kernel
theorem d_Tray_checksum_32 : decode b_Tray_checksum 32 = .ok (.istore_n 2, 1) := by decide +kernel
theorem d_Tray_checksum_33 : decode b_Tray_checksum 33 = .ok (.iinc 3 1, 3) := by decide +kernel
theorem d_Tray_checksum_36 : decode b_Tray_checksum 36 = .ok (.goto (-30), 3) := by decide +kernel
theorem d_Tray_checksum_39 : decode b_Tray_checksum 39 = .ok (.ldc2_w 27, 3) := by decide +kernel
theorem d_Tray_checksum_42 : decode b_Tray_checksum 42 = .ok (.iload_n 2, 1) := by decide +kernel
theorem d_Tray_checksum_43 : decode b_Tray_checksum 43 = .ok (.i2l, 1) := by decide +kernel
theorem d_Tray_checksum_44 : decode b_Tray_checksum 44 = .ok (.lmul, 1) := by decide +kernel
theorem d_Tray_checksum_45 : decode b_Tray_checksum 45 = .ok (.iload_n 1, 1) := by decide +kernel
theorem d_Tray_checksum_46 : decode b_Tray_checksum 46 = .ok (.i2l, 1) := by decide +kernel
theorem d_Tray_checksum_47 : decode b_Tray_checksum 47 = .ok (.ladd, 1) := by decide +kernel
theorem d_Tray_checksum_48 : decode b_Tray_checksum 48 = .ok (.lreturn, 1) := by decide +kernel

theorem d_Tray_changes_0 : decode b_Tray_changes 0 = .ok (.iconst 0, 1) := by decide +kernel
theorem d_Tray_changes_1 : decode b_Tray_changes 1 = .ok (.istore_n 1, 1) := by decide +kernel
theorem d_Tray_changes_2 : decode b_Tray_changes 2 = .ok (.iconst 1, 1) := by decide +kernel
theorem d_Tray_changes_3 : decode b_Tray_changes 3 = .ok (.istore_n 2, 1) := by decide +kernel
theorem d_Tray_changes_4 : decode b_Tray_changes 4 = .ok (.iload_n 2, 1) := by decide +kernel
theorem d_Tray_changes_5 : decode b_Tray_changes 5 = .ok (.aload_n 0, 1) := by decide +kernel
theorem d_Tray_changes_6 : decode b_Tray_changes 6 = .ok (.getfield 15, 3) := by decide +kernel
theorem d_Tray_changes_9 : decode b_Tray_changes 9 = .ok (.if_icmp .ge 29, 3) := by decide +kernel
theorem d_Tray_changes_12 : decode b_Tray_changes 12 = .ok (.aload_n 0, 1) := by decide +kernel
theorem d_Tray_changes_13 : decode b_Tray_changes 13 = .ok (.getfield 9, 3) := by decide +kernel
theorem d_Tray_changes_16 : decode b_Tray_changes 16 = .ok (.iload_n 2, 1) := by decide +kernel
theorem d_Tray_changes_17 : decode b_Tray_changes 17 = .ok (.iaload, 1) := by decide +kernel
theorem d_Tray_changes_18 : decode b_Tray_changes 18 = .ok (.aload_n 0, 1) := by decide +kernel
theorem d_Tray_changes_19 : decode b_Tray_changes 19 = .ok (.getfield 9, 3) := by decide +kernel
theorem d_Tray_changes_22 : decode b_Tray_changes 22 = .ok (.iload_n 2, 1) := by decide +kernel
theorem d_Tray_changes_23 : decode b_Tray_changes 23 = .ok (.iconst 1, 1) := by decide +kernel
theorem d_Tray_changes_24 : decode b_Tray_changes 24 = .ok (.isub, 1) := by decide +kernel
theorem d_Tray_changes_25 : decode b_Tray_changes 25 = .ok (.iaload, 1) := by decide +kernel
theorem d_Tray_changes_26 : decode b_Tray_changes 26 = .ok (.if_icmp .eq 6, 3) := by decide +kernel
theorem d_Tray_changes_29 : decode b_Tray_changes 29 = .ok (.iinc 1 1, 3) := by decide +kernel
theorem d_Tray_changes_32 : decode b_Tray_changes 32 = .ok (.iinc 2 1, 3) := by decide +kernel
theorem d_Tray_changes_35 : decode b_Tray_changes 35 = .ok (.goto (-31), 3) := by decide +kernel
theorem d_Tray_changes_38 : decode b_Tray_changes 38 = .ok (.iload_n 1, 1) := by decide +kernel
theorem d_Tray_changes_39 : decode b_Tray_changes 39 = .ok (.ireturn, 1) := by decide +kernel

