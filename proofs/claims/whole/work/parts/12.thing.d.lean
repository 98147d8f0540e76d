theorem d_Thing_isInUse_0 : decode b_Thing_isInUse 0 = .ok (.aload_n 0, 1) := by decide +kernel
theorem d_Thing_isInUse_1 : decode b_Thing_isInUse 1 = .ok (.getfield 13, 3) := by decide +kernel
theorem d_Thing_isInUse_4 : decode b_Thing_isInUse 4 = .ok (.ifCond .le 7, 3) := by decide +kernel
theorem d_Thing_isInUse_7 : decode b_Thing_isInUse 7 = .ok (.iconst 1, 1) := by decide +kernel
theorem d_Thing_isInUse_8 : decode b_Thing_isInUse 8 = .ok (.goto 4, 3) := by decide +kernel
theorem d_Thing_isInUse_11 : decode b_Thing_isInUse 11 = .ok (.iconst 0, 1) := by decide +kernel
theorem d_Thing_isInUse_12 : decode b_Thing_isInUse 12 = .ok (.ireturn, 1) := by decide +kernel

theorem d_Thing_stateOfSource_0 : decode b_Thing_stateOfSource 0 = .ok (.aload_n 0, 1) := by decide +kernel
theorem d_Thing_stateOfSource_1 : decode b_Thing_stateOfSource 1 = .ok (.getfield 24, 3) := by decide +kernel
theorem d_Thing_stateOfSource_4 : decode b_Thing_stateOfSource 4 = .ok (.ifnonnull 7, 3) := by decide +kernel
theorem d_Thing_stateOfSource_7 : decode b_Thing_stateOfSource 7 = .ok (.lconst 0, 1) := by decide +kernel
theorem d_Thing_stateOfSource_8 : decode b_Thing_stateOfSource 8 = .ok (.goto 10, 3) := by decide +kernel
theorem d_Thing_stateOfSource_11 : decode b_Thing_stateOfSource 11 = .ok (.aload_n 0, 1) := by decide +kernel
theorem d_Thing_stateOfSource_12 : decode b_Thing_stateOfSource 12 = .ok (.getfield 24, 3) := by decide +kernel
theorem d_Thing_stateOfSource_15 : decode b_Thing_stateOfSource 15 = .ok (.getfield 20, 3) := by decide +kernel
theorem d_Thing_stateOfSource_18 : decode b_Thing_stateOfSource 18 = .ok (.lreturn, 1) := by decide +kernel

theorem d_Thing_leave_0 : decode b_Thing_leave 0 = .ok (.aload_n 0, 1) := by decide +kernel
theorem d_Thing_leave_1 : decode b_Thing_leave 1 = .ok (.iconst 0, 1) := by decide +kernel
theorem d_Thing_leave_2 : decode b_Thing_leave 2 = .ok (.putfield 16, 3) := by decide +kernel
theorem d_Thing_leave_5 : decode b_Thing_leave 5 = .ok (.aload_n 0, 1) := by decide +kernel
theorem d_Thing_leave_6 : decode b_Thing_leave 6 = .ok (.getfield 24, 3) := by decide +kernel
theorem d_Thing_leave_9 : decode b_Thing_leave 9 = .ok (.ifnull 16, 3) := by decide +kernel
theorem d_Thing_leave_12 : decode b_Thing_leave 12 = .ok (.aload_n 0, 1) := by decide +kernel
theorem d_Thing_leave_13 : decode b_Thing_leave 13 = .ok (.getfield 24, 3) := by decide +kernel
theorem d_Thing_leave_16 : decode b_Thing_leave 16 = .ok (.dup, 1) := by decide +kernel
theorem d_Thing_leave_17 : decode b_Thing_leave 17 = .ok (.getfield 13, 3) := by decide +kernel
theorem d_Thing_leave_20 : decode b_Thing_leave 20 = .ok (.iconst 1, 1) := by decide +kernel
theorem d_Thing_leave_21 : decode b_Thing_leave 21 = .ok (.isub, 1) := by decide +kernel
theorem d_Thing_leave_22 : decode b_Thing_leave 22 = .ok (.putfield 13, 3) := by decide +kernel
theorem d_Thing_leave_25 : decode b_Thing_leave 25 = .ok (.return_, 1) := by decide +kernel

theorem d_Thing_comparedWith_0 : decode b_Thing_comparedWith 0 = .ok (.aload_n 1, 1) := by decide +kernel
theorem d_Thing_comparedWith_1 : decode b_Thing_comparedWith 1 = .ok (.ifnull 15, 3) := by decide +kernel
theorem d_Thing_comparedWith_4 : decode b_Thing_comparedWith 4 = .ok (.aload_n 0, 1) := by decide +kernel
theorem d_Thing_comparedWith_5 : decode b_Thing_comparedWith 5 = .ok (.getfield 20, 3) := by decide +kernel
theorem d_Thing_comparedWith_8 : decode b_Thing_comparedWith 8 = .ok (.aload_n 1, 1) := by decide +kernel
theorem d_Thing_comparedWith_9 : decode b_Thing_comparedWith 9 = .ok (.getfield 20, 3) := by decide +kernel
theorem d_Thing_comparedWith_12 : decode b_Thing_comparedWith 12 = .ok (.lcmp, 1) := by decide +kernel
theorem d_Thing_comparedWith_13 : decode b_Thing_comparedWith 13 = .ok (.ifCond .ge 5, 3) := by decide +kernel
theorem d_Thing_comparedWith_16 : decode b_Thing_comparedWith 16 = .ok (.iconst 0, 1) := by decide +kernel
theorem d_Thing_comparedWith_17 : decode b_Thing_comparedWith 17 = .ok (.ireturn, 1) := by decide +kernel
theorem d_Thing_comparedWith_18 : decode b_Thing_comparedWith 18 = .ok (.aload_n 0, 1) := by decide +kernel
theorem d_Thing_comparedWith_19 : decode b_Thing_comparedWith 19 = .ok (.getfield 20, 3) := by decide +kernel
theorem d_Thing_comparedWith_22 : decode b_Thing_comparedWith 22 = .ok (.aload_n 1, 1) := by decide +kernel
theorem d_Thing_comparedWith_23 : decode b_Thing_comparedWith 23 = .ok (.getfield 20, 3) := by decide +kernel
theorem d_Thing_comparedWith_26 : decode b_Thing_comparedWith 26 = .ok (.lcmp, 1) := by decide +kernel
theorem d_Thing_comparedWith_27 : decode b_Thing_comparedWith 27 = .ok (.ifCond .ne 7, 3) := by decide +kernel
theorem d_Thing_comparedWith_30 : decode b_Thing_comparedWith 30 = .ok (.iconst 1, 1) := by decide +kernel
theorem d_Thing_comparedWith_31 : decode b_Thing_comparedWith 31 = .ok (.goto 4, 3) := by decide +kernel
theorem d_Thing_comparedWith_34 : decode b_Thing_comparedWith 34 = .ok (.iconst 2, 1) := by decide +kernel
theorem d_Thing_comparedWith_35 : decode b_Thing_comparedWith 35 = .ok (.ireturn, 1) := by decide +kernel

theorem d_Thing_init_0 : decode b_Thing_init 0 = .ok (.aload_n 0, 1) := by decide +kernel
theorem d_Thing_init_1 : decode b_Thing_init 1 = .ok (.invokespecial 1, 3) := by decide +kernel
theorem d_Thing_init_4 : decode b_Thing_init 4 = .ok (.aload_n 0, 1) := by decide +kernel
theorem d_Thing_init_5 : decode b_Thing_init 5 = .ok (.iconst 0, 1) := by decide +kernel
theorem d_Thing_init_6 : decode b_Thing_init 6 = .ok (.putfield 7, 3) := by decide +kernel
theorem d_Thing_init_9 : decode b_Thing_init 9 = .ok (.aload_n 0, 1) := by decide +kernel
theorem d_Thing_init_10 : decode b_Thing_init 10 = .ok (.iconst 0, 1) := by decide +kernel
theorem d_Thing_init_11 : decode b_Thing_init 11 = .ok (.putfield 13, 3) := by decide +kernel
theorem d_Thing_init_14 : decode b_Thing_init 14 = .ok (.aload_n 0, 1) := by decide +kernel
theorem d_Thing_init_15 : decode b_Thing_init 15 = .ok (.iconst 1, 1) := by decide +kernel
theorem d_Thing_init_16 : decode b_Thing_init 16 = .ok (.putfield 16, 3) := by decide +kernel
theorem d_Thing_init_19 : decode b_Thing_init 19 = .ok (.aload_n 0, 1) := by decide +kernel
theorem d_Thing_init_20 : decode b_Thing_init 20 = .ok (.lload_n 1, 1) := by decide +kernel
theorem d_Thing_init_21 : decode b_Thing_init 21 = .ok (.putfield 20, 3) := by decide +kernel
theorem d_Thing_init_24 : decode b_Thing_init 24 = .ok (.aload_n 0, 1) := by decide +kernel
theorem d_Thing_init_25 : decode b_Thing_init 25 = .ok (.aload_n 3, 1) := by decide +kernel
theorem d_Thing_init_26 : decode b_Thing_init 26 = .ok (.putfield 24, 3) := by decide +kernel
theorem d_Thing_init_29 : decode b_Thing_init 29 = .ok (.aload_n 3, 1) := by decide +kernel
theorem d_Thing_init_30 : decode b_Thing_init 30 = .ok (.ifnull 13, 3) := by decide +kernel
theorem d_Thing_init_33 : decode b_Thing_init 33 = .ok (.aload_n 3, 1) := by decide +kernel
theorem d_Thing_init_34 : decode b_Thing_init 34 = .ok (.dup, 1) := by decide +kernel
theorem d_Thing_init_35 : decode b_Thing_init 35 = .ok (.getfield 13, 3) := by decide +kernel
theorem d_Thing_init_38 : decode b_Thing_init 38 = .ok (.iconst 1, 1) := by decide +kernel
theorem d_Thing_init_39 : decode b_Thing_init 39 = .ok (.iadd, 1) := by decide +kernel
theorem d_Thing_init_40 : decode b_Thing_init 40 = .ok (.putfield 13, 3) := by decide +kernel
theorem d_Thing_init_43 : decode b_Thing_init 43 = .ok (.return_, 1) := by decide +kernel

