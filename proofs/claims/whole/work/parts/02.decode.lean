theorem dX0_init_0 : decode cX0_init 0 = .ok (.aload_n 0, 1) := by decide +kernel
theorem dX0_init_1 : decode cX0_init 1 = .ok (.invokespecial 3, 3) := by decide +kernel
theorem dX0_init_4 : decode cX0_init 4 = .ok (.aload_n 0, 1) := by decide +kernel
theorem dX0_init_5 : decode cX0_init 5 = .ok (.iload_n 1, 1) := by decide +kernel
theorem dX0_init_6 : decode cX0_init 6 = .ok (.putfield 9, 3) := by decide +kernel
theorem dX0_init_9 : decode cX0_init 9 = .ok (.aload_n 0, 1) := by decide +kernel
theorem dX0_init_10 : decode cX0_init 10 = .ok (.iload_n 2, 1) := by decide +kernel
theorem dX0_init_11 : decode cX0_init 11 = .ok (.anewarray 15, 3) := by decide +kernel
theorem dX0_init_14 : decode cX0_init 14 = .ok (.putfield 17, 3) := by decide +kernel
theorem dX0_init_17 : decode cX0_init 17 = .ok (.iconst 0, 1) := by decide +kernel
theorem dX0_init_18 : decode cX0_init 18 = .ok (.istore 4, 2) := by decide +kernel
theorem dX0_init_20 : decode cX0_init 20 = .ok (.iload 4, 2) := by decide +kernel
theorem dX0_init_22 : decode cX0_init 22 = .ok (.iload_n 2, 1) := by decide +kernel
theorem dX0_init_23 : decode cX0_init 23 = .ok (.if_icmp .ge 24, 3) := by decide +kernel
theorem dX0_init_26 : decode cX0_init 26 = .ok (.aload_n 0, 1) := by decide +kernel
theorem dX0_init_27 : decode cX0_init 27 = .ok (.getfield 17, 3) := by decide +kernel
theorem dX0_init_30 : decode cX0_init 30 = .ok (.iload 4, 2) := by decide +kernel
theorem dX0_init_32 : decode cX0_init 32 = .ok (.new 15, 3) := by decide +kernel
theorem dX0_init_35 : decode cX0_init 35 = .ok (.dup, 1) := by decide +kernel
theorem dX0_init_36 : decode cX0_init 36 = .ok (.iload_n 3, 1) := by decide +kernel
theorem dX0_init_37 : decode cX0_init 37 = .ok (.invokespecial 21, 3) := by decide +kernel
theorem dX0_init_40 : decode cX0_init 40 = .ok (.aastore, 1) := by decide +kernel
theorem dX0_init_41 : decode cX0_init 41 = .ok (.iinc 4 1, 3) := by decide +kernel
theorem dX0_init_44 : decode cX0_init 44 = .ok (.goto (-24), 3) := by decide +kernel
theorem dX0_init_47 : decode cX0_init 47 = .ok (.return_, 1) := by decide +kernel
theorem dX0_hasRange_0 : decode cX0_hasRange 0 = .ok (.iload_n 1, 1) := by decide +kernel
theorem dX0_hasRange_1 : decode cX0_hasRange 1 = .ok (.ifCond .lt 32, 3) := by decide +kernel
theorem dX0_hasRange_4 : decode cX0_hasRange 4 = .ok (.iload_n 1, 1) := by decide +kernel
theorem dX0_hasRange_5 : decode cX0_hasRange 5 = .ok (.aload_n 0, 1) := by decide +kernel
theorem dX0_hasRange_6 : decode cX0_hasRange 6 = .ok (.getfield 17, 3) := by decide +kernel
theorem dX0_hasRange_9 : decode cX0_hasRange 9 = .ok (.arraylength, 1) := by decide +kernel
theorem dX0_hasRange_10 : decode cX0_hasRange 10 = .ok (.if_icmp .ge 23, 3) := by decide +kernel
theorem dX0_hasRange_13 : decode cX0_hasRange 13 = .ok (.iload_n 2, 1) := by decide +kernel
theorem dX0_hasRange_14 : decode cX0_hasRange 14 = .ok (.iconst 1, 1) := by decide +kernel
theorem dX0_hasRange_15 : decode cX0_hasRange 15 = .ok (.if_icmp .lt 18, 3) := by decide +kernel
theorem dX0_hasRange_18 : decode cX0_hasRange 18 = .ok (.iload_n 2, 1) := by decide +kernel
theorem dX0_hasRange_19 : decode cX0_hasRange 19 = .ok (.aload_n 0, 1) := by decide +kernel
theorem dX0_hasRange_20 : decode cX0_hasRange 20 = .ok (.getfield 17, 3) := by decide +kernel
theorem dX0_hasRange_23 : decode cX0_hasRange 23 = .ok (.arraylength, 1) := by decide +kernel
theorem dX0_hasRange_24 : decode cX0_hasRange 24 = .ok (.iload_n 1, 1) := by decide +kernel
theorem dX0_hasRange_25 : decode cX0_hasRange 25 = .ok (.isub, 1) := by decide +kernel
theorem dX0_hasRange_26 : decode cX0_hasRange 26 = .ok (.if_icmp .gt 7, 3) := by decide +kernel
theorem dX0_hasRange_29 : decode cX0_hasRange 29 = .ok (.iconst 1, 1) := by decide +kernel
theorem dX0_hasRange_30 : decode cX0_hasRange 30 = .ok (.goto 4, 3) := by decide +kernel
theorem dX0_hasRange_33 : decode cX0_hasRange 33 = .ok (.iconst 0, 1) := by decide +kernel
theorem dX0_hasRange_34 : decode cX0_hasRange 34 = .ok (.ireturn, 1) := by decide +kernel
theorem dX0_freeViolation_0 : decode cX0_freeViolation 0 = .ok (.iconst 0, 1) := by decide +kernel
theorem dX0_freeViolation_1 : decode cX0_freeViolation 1 = .ok (.istore_n 3, 1) := by decide +kernel
theorem dX0_freeViolation_2 : decode cX0_freeViolation 2 = .ok (.iload_n 3, 1) := by decide +kernel
theorem dX0_freeViolation_3 : decode cX0_freeViolation 3 = .ok (.aload_n 0, 1) := by decide +kernel
theorem dX0_freeViolation_4 : decode cX0_freeViolation 4 = .ok (.getfield 17, 3) := by decide +kernel
theorem dX0_freeViolation_7 : decode cX0_freeViolation 7 = .ok (.arraylength, 1) := by decide +kernel
theorem dX0_freeViolation_8 : decode cX0_freeViolation 8 = .ok (.if_icmp .ge 30, 3) := by decide +kernel
theorem dX0_freeViolation_11 : decode cX0_freeViolation 11 = .ok (.aload_n 0, 1) := by decide +kernel
theorem dX0_freeViolation_12 : decode cX0_freeViolation 12 = .ok (.getfield 17, 3) := by decide +kernel
theorem dX0_freeViolation_15 : decode cX0_freeViolation 15 = .ok (.iload_n 3, 1) := by decide +kernel
theorem dX0_freeViolation_16 : decode cX0_freeViolation 16 = .ok (.aaload, 1) := by decide +kernel
theorem dX0_freeViolation_17 : decode cX0_freeViolation 17 = .ok (.iload_n 1, 1) := by decide +kernel
theorem dX0_freeViolation_18 : decode cX0_freeViolation 18 = .ok (.aload_n 2, 1) := by decide +kernel
theorem dX0_freeViolation_19 : decode cX0_freeViolation 19 = .ok (.invokevirtual 24, 3) := by decide +kernel
theorem dX0_freeViolation_22 : decode cX0_freeViolation 22 = .ok (.istore 4, 2) := by decide +kernel
theorem dX0_freeViolation_24 : decode cX0_freeViolation 24 = .ok (.iload 4, 2) := by decide +kernel
theorem dX0_freeViolation_26 : decode cX0_freeViolation 26 = .ok (.ifCond .eq 6, 3) := by decide +kernel
theorem dX0_freeViolation_29 : decode cX0_freeViolation 29 = .ok (.iload 4, 2) := by decide +kernel
theorem dX0_freeViolation_31 : decode cX0_freeViolation 31 = .ok (.ireturn, 1) := by decide +kernel
theorem dX0_freeViolation_32 : decode cX0_freeViolation 32 = .ok (.iinc 3 1, 3) := by decide +kernel
theorem dX0_freeViolation_35 : decode cX0_freeViolation 35 = .ok (.goto (-33), 3) := by decide +kernel
theorem dX0_freeViolation_38 : decode cX0_freeViolation 38 = .ok (.iconst 0, 1) := by decide +kernel
theorem dX0_freeViolation_39 : decode cX0_freeViolation 39 = .ok (.ireturn, 1) := by decide +kernel
theorem dX0_firstCellAgainstFree_0 : decode cX0_firstCellAgainstFree 0 = .ok (.iconst 0, 1) := by decide +kernel
theorem dX0_firstCellAgainstFree_1 : decode cX0_firstCellAgainstFree 1 = .ok (.istore_n 3, 1) := by decide +kernel
theorem dX0_firstCellAgainstFree_2 : decode cX0_firstCellAgainstFree 2 = .ok (.iload_n 3, 1) := by decide +kernel
theorem dX0_firstCellAgainstFree_3 : decode cX0_firstCellAgainstFree 3 = .ok (.aload_n 0, 1) := by decide +kernel
theorem dX0_firstCellAgainstFree_4 : decode cX0_firstCellAgainstFree 4 = .ok (.getfield 17, 3) := by decide +kernel
theorem dX0_firstCellAgainstFree_7 : decode cX0_firstCellAgainstFree 7 = .ok (.arraylength, 1) := by decide +kernel
theorem dX0_firstCellAgainstFree_8 : decode cX0_firstCellAgainstFree 8 = .ok (.if_icmp .ge 25, 3) := by decide +kernel
theorem dX0_firstCellAgainstFree_11 : decode cX0_firstCellAgainstFree 11 = .ok (.aload_n 0, 1) := by decide +kernel
theorem dX0_firstCellAgainstFree_12 : decode cX0_firstCellAgainstFree 12 = .ok (.getfield 17, 3) := by decide +kernel
theorem dX0_firstCellAgainstFree_15 : decode cX0_firstCellAgainstFree 15 = .ok (.iload_n 3, 1) := by decide +kernel
theorem dX0_firstCellAgainstFree_16 : decode cX0_firstCellAgainstFree 16 = .ok (.aaload, 1) := by decide +kernel
theorem dX0_firstCellAgainstFree_17 : decode cX0_firstCellAgainstFree 17 = .ok (.iload_n 1, 1) := by decide +kernel
theorem dX0_firstCellAgainstFree_18 : decode cX0_firstCellAgainstFree 18 = .ok (.aload_n 2, 1) := by decide +kernel
theorem dX0_firstCellAgainstFree_19 : decode cX0_firstCellAgainstFree 19 = .ok (.invokevirtual 24, 3) := by decide +kernel
theorem dX0_firstCellAgainstFree_22 : decode cX0_firstCellAgainstFree 22 = .ok (.ifCond .eq 5, 3) := by decide +kernel
theorem dX0_firstCellAgainstFree_25 : decode cX0_firstCellAgainstFree 25 = .ok (.iload_n 3, 1) := by decide +kernel
theorem dX0_firstCellAgainstFree_26 : decode cX0_firstCellAgainstFree 26 = .ok (.ireturn, 1) := by decide +kernel
theorem dX0_firstCellAgainstFree_27 : decode cX0_firstCellAgainstFree 27 = .ok (.iinc 3 1, 3) := by decide +kernel
theorem dX0_firstCellAgainstFree_30 : decode cX0_firstCellAgainstFree 30 = .ok (.goto (-28), 3) := by decide +kernel
theorem dX0_firstCellAgainstFree_33 : decode cX0_firstCellAgainstFree 33 = .ok (.iconst (-1), 1) := by decide +kernel
theorem dX0_firstCellAgainstFree_34 : decode cX0_firstCellAgainstFree 34 = .ok (.ireturn, 1) := by decide +kernel
theorem dX0_cellsAliveFor_0 : decode cX0_cellsAliveFor 0 = .ok (.aload_n 0, 1) := by decide +kernel
theorem dX0_cellsAliveFor_1 : decode cX0_cellsAliveFor 1 = .ok (.getfield 28, 3) := by decide +kernel
theorem dX0_cellsAliveFor_4 : decode cX0_cellsAliveFor 4 = .ok (.ifCond .eq 5, 3) := by decide +kernel
theorem dX0_cellsAliveFor_7 : decode cX0_cellsAliveFor 7 = .ok (.iconst 0, 1) := by decide +kernel
theorem dX0_cellsAliveFor_8 : decode cX0_cellsAliveFor 8 = .ok (.ireturn, 1) := by decide +kernel
theorem dX0_cellsAliveFor_9 : decode cX0_cellsAliveFor 9 = .ok (.iconst 0, 1) := by decide +kernel
theorem dX0_cellsAliveFor_10 : decode cX0_cellsAliveFor 10 = .ok (.istore_n 2, 1) := by decide +kernel
theorem dX0_cellsAliveFor_11 : decode cX0_cellsAliveFor 11 = .ok (.iconst 0, 1) := by decide +kernel
theorem dX0_cellsAliveFor_12 : decode cX0_cellsAliveFor 12 = .ok (.istore_n 3, 1) := by decide +kernel
theorem dX0_cellsAliveFor_13 : decode cX0_cellsAliveFor 13 = .ok (.iload_n 3, 1) := by decide +kernel
theorem dX0_cellsAliveFor_14 : decode cX0_cellsAliveFor 14 = .ok (.aload_n 0, 1) := by decide +kernel
theorem dX0_cellsAliveFor_15 : decode cX0_cellsAliveFor 15 = .ok (.getfield 17, 3) := by decide +kernel
theorem dX0_cellsAliveFor_18 : decode cX0_cellsAliveFor 18 = .ok (.arraylength, 1) := by decide +kernel
theorem dX0_cellsAliveFor_19 : decode cX0_cellsAliveFor 19 = .ok (.if_icmp .ge 26, 3) := by decide +kernel
theorem dX0_cellsAliveFor_22 : decode cX0_cellsAliveFor 22 = .ok (.aload_n 0, 1) := by decide +kernel
theorem dX0_cellsAliveFor_23 : decode cX0_cellsAliveFor 23 = .ok (.getfield 17, 3) := by decide +kernel
theorem dX0_cellsAliveFor_26 : decode cX0_cellsAliveFor 26 = .ok (.iload_n 3, 1) := by decide +kernel
theorem dX0_cellsAliveFor_27 : decode cX0_cellsAliveFor 27 = .ok (.aaload, 1) := by decide +kernel
theorem dX0_cellsAliveFor_28 : decode cX0_cellsAliveFor 28 = .ok (.iload_n 1, 1) := by decide +kernel
theorem dX0_cellsAliveFor_29 : decode cX0_cellsAliveFor 29 = .ok (.invokevirtual 32, 3) := by decide +kernel
theorem dX0_cellsAliveFor_32 : decode cX0_cellsAliveFor 32 = .ok (.iconst (-1), 1) := by decide +kernel
theorem dX0_cellsAliveFor_33 : decode cX0_cellsAliveFor 33 = .ok (.if_icmp .eq 6, 3) := by decide +kernel
theorem dX0_cellsAliveFor_36 : decode cX0_cellsAliveFor 36 = .ok (.iinc 2 1, 3) := by decide +kernel
theorem dX0_cellsAliveFor_39 : decode cX0_cellsAliveFor 39 = .ok (.iinc 3 1, 3) := by decide +kernel
theorem dX0_cellsAliveFor_42 : decode cX0_cellsAliveFor 42 = .ok (.goto (-29), 3) := by decide +kernel
theorem dX0_cellsAliveFor_45 : decode cX0_cellsAliveFor 45 = .ok (.iload_n 2, 1) := by decide +kernel
theorem dX0_cellsAliveFor_46 : decode cX0_cellsAliveFor 46 = .ok (.ireturn, 1) := by decide +kernel
theorem dX0_mixedInto_0 : decode cX0_mixedInto 0 = .ok (.lload_n 1, 1) := by decide +kernel
theorem dX0_mixedInto_1 : decode cX0_mixedInto 1 = .ok (.aload_n 0, 1) := by decide +kernel
theorem dX0_mixedInto_2 : decode cX0_mixedInto 2 = .ok (.getfield 17, 3) := by decide +kernel
theorem dX0_mixedInto_5 : decode cX0_mixedInto 5 = .ok (.arraylength, 1) := by decide +kernel
theorem dX0_mixedInto_6 : decode cX0_mixedInto 6 = .ok (.i2l, 1) := by decide +kernel
theorem dX0_mixedInto_7 : decode cX0_mixedInto 7 = .ok (.invokestatic 36, 3) := by decide +kernel
theorem dX0_mixedInto_10 : decode cX0_mixedInto 10 = .ok (.lstore 4, 2) := by decide +kernel
theorem dX0_mixedInto_12 : decode cX0_mixedInto 12 = .ok (.lload 4, 2) := by decide +kernel
theorem dX0_mixedInto_14 : decode cX0_mixedInto 14 = .ok (.aload_n 0, 1) := by decide +kernel
theorem dX0_mixedInto_15 : decode cX0_mixedInto 15 = .ok (.getfield 28, 3) := by decide +kernel
theorem dX0_mixedInto_18 : decode cX0_mixedInto 18 = .ok (.invokestatic 40, 3) := by decide +kernel
theorem dX0_mixedInto_21 : decode cX0_mixedInto 21 = .ok (.i2l, 1) := by decide +kernel
theorem dX0_mixedInto_22 : decode cX0_mixedInto 22 = .ok (.invokestatic 36, 3) := by decide +kernel
theorem dX0_mixedInto_25 : decode cX0_mixedInto 25 = .ok (.lstore 4, 2) := by decide +kernel
theorem dX0_mixedInto_27 : decode cX0_mixedInto 27 = .ok (.iconst 0, 1) := by decide +kernel
theorem dX0_mixedInto_28 : decode cX0_mixedInto 28 = .ok (.istore 6, 2) := by decide +kernel
theorem dX0_mixedInto_30 : decode cX0_mixedInto 30 = .ok (.iload 6, 2) := by decide +kernel
theorem dX0_mixedInto_32 : decode cX0_mixedInto 32 = .ok (.aload_n 0, 1) := by decide +kernel
theorem dX0_mixedInto_33 : decode cX0_mixedInto 33 = .ok (.getfield 17, 3) := by decide +kernel
theorem dX0_mixedInto_36 : decode cX0_mixedInto 36 = .ok (.arraylength, 1) := by decide +kernel
theorem dX0_mixedInto_37 : decode cX0_mixedInto 37 = .ok (.if_icmp .ge 24, 3) := by decide +kernel
theorem dX0_mixedInto_40 : decode cX0_mixedInto 40 = .ok (.aload_n 0, 1) := by decide +kernel
theorem dX0_mixedInto_41 : decode cX0_mixedInto 41 = .ok (.getfield 17, 3) := by decide +kernel
theorem dX0_mixedInto_44 : decode cX0_mixedInto 44 = .ok (.iload 6, 2) := by decide +kernel
theorem dX0_mixedInto_46 : decode cX0_mixedInto 46 = .ok (.aaload, 1) := by decide +kernel
theorem dX0_mixedInto_47 : decode cX0_mixedInto 47 = .ok (.lload 4, 2) := by decide +kernel
theorem dX0_mixedInto_49 : decode cX0_mixedInto 49 = .ok (.aload_n 3, 1) := by decide +kernel
theorem dX0_mixedInto_50 : decode cX0_mixedInto 50 = .ok (.invokevirtual 44, 3) := by decide +kernel
theorem dX0_mixedInto_53 : decode cX0_mixedInto 53 = .ok (.lstore 4, 2) := by decide +kernel
theorem dX0_mixedInto_55 : decode cX0_mixedInto 55 = .ok (.iinc 6 1, 3) := by decide +kernel
theorem dX0_mixedInto_58 : decode cX0_mixedInto 58 = .ok (.goto (-28), 3) := by decide +kernel
theorem dX0_mixedInto_61 : decode cX0_mixedInto 61 = .ok (.lload 4, 2) := by decide +kernel
theorem dX0_mixedInto_63 : decode cX0_mixedInto 63 = .ok (.lreturn, 1) := by decide +kernel
theorem dX1_init_0 : decode cX1_init 0 = .ok (.aload_n 0, 1) := by decide +kernel
theorem dX1_init_1 : decode cX1_init 1 = .ok (.invokespecial 3, 3) := by decide +kernel
theorem dX1_init_4 : decode cX1_init 4 = .ok (.aload_n 0, 1) := by decide +kernel
theorem dX1_init_5 : decode cX1_init 5 = .ok (.iconst 5, 1) := by decide +kernel
theorem dX1_init_6 : decode cX1_init 6 = .ok (.newarray .int, 2) := by decide +kernel
theorem dX1_init_8 : decode cX1_init 8 = .ok (.putfield 9, 3) := by decide +kernel
theorem dX1_init_11 : decode cX1_init 11 = .ok (.aload_n 0, 1) := by decide +kernel
theorem dX1_init_12 : decode cX1_init 12 = .ok (.iconst 0, 1) := by decide +kernel
theorem dX1_init_13 : decode cX1_init 13 = .ok (.putfield 15, 3) := by decide +kernel
theorem dX1_init_16 : decode cX1_init 16 = .ok (.return_, 1) := by decide +kernel
theorem dX1_enter_0 : decode cX1_enter 0 = .ok (.aload_n 0, 1) := by decide +kernel
theorem dX1_enter_1 : decode cX1_enter 1 = .ok (.getfield 19, 3) := by decide +kernel
theorem dX1_enter_4 : decode cX1_enter 4 = .ok (.iconst 5, 1) := by decide +kernel
theorem dX1_enter_5 : decode cX1_enter 5 = .ok (.if_icmp .lt 5, 3) := by decide +kernel
theorem dX1_enter_8 : decode cX1_enter 8 = .ok (.iconst 0, 1) := by decide +kernel
theorem dX1_enter_9 : decode cX1_enter 9 = .ok (.ireturn, 1) := by decide +kernel
theorem dX1_enter_10 : decode cX1_enter 10 = .ok (.aload_n 0, 1) := by decide +kernel
theorem dX1_enter_11 : decode cX1_enter 11 = .ok (.dup, 1) := by decide +kernel
theorem dX1_enter_12 : decode cX1_enter 12 = .ok (.getfield 15, 3) := by decide +kernel
theorem dX1_enter_15 : decode cX1_enter 15 = .ok (.iconst 1, 1) := by decide +kernel
theorem dX1_enter_16 : decode cX1_enter 16 = .ok (.iadd, 1) := by decide +kernel
theorem dX1_enter_17 : decode cX1_enter 17 = .ok (.putfield 15, 3) := by decide +kernel
theorem dX1_enter_20 : decode cX1_enter 20 = .ok (.aload_n 0, 1) := by decide +kernel
theorem dX1_enter_21 : decode cX1_enter 21 = .ok (.getfield 9, 3) := by decide +kernel
theorem dX1_enter_24 : decode cX1_enter 24 = .ok (.aload_n 0, 1) := by decide +kernel
theorem dX1_enter_25 : decode cX1_enter 25 = .ok (.getfield 19, 3) := by decide +kernel
theorem dX1_enter_28 : decode cX1_enter 28 = .ok (.aload_n 0, 1) := by decide +kernel
theorem dX1_enter_29 : decode cX1_enter 29 = .ok (.getfield 15, 3) := by decide +kernel
theorem dX1_enter_32 : decode cX1_enter 32 = .ok (.iastore, 1) := by decide +kernel
theorem dX1_enter_33 : decode cX1_enter 33 = .ok (.aload_n 0, 1) := by decide +kernel
theorem dX1_enter_34 : decode cX1_enter 34 = .ok (.dup, 1) := by decide +kernel
theorem dX1_enter_35 : decode cX1_enter 35 = .ok (.getfield 19, 3) := by decide +kernel
theorem dX1_enter_38 : decode cX1_enter 38 = .ok (.iconst 1, 1) := by decide +kernel
theorem dX1_enter_39 : decode cX1_enter 39 = .ok (.iadd, 1) := by decide +kernel
theorem dX1_enter_40 : decode cX1_enter 40 = .ok (.putfield 19, 3) := by decide +kernel
theorem dX1_enter_43 : decode cX1_enter 43 = .ok (.iconst 1, 1) := by decide +kernel
theorem dX1_enter_44 : decode cX1_enter 44 = .ok (.ireturn, 1) := by decide +kernel
theorem dX1_leave_0 : decode cX1_leave 0 = .ok (.aload_n 0, 1) := by decide +kernel
theorem dX1_leave_1 : decode cX1_leave 1 = .ok (.getfield 19, 3) := by decide +kernel
theorem dX1_leave_4 : decode cX1_leave 4 = .ok (.ifCond .ne 5, 3) := by decide +kernel
theorem dX1_leave_7 : decode cX1_leave 7 = .ok (.iconst 0, 1) := by decide +kernel
theorem dX1_leave_8 : decode cX1_leave 8 = .ok (.ireturn, 1) := by decide +kernel
theorem dX1_leave_9 : decode cX1_leave 9 = .ok (.aload_n 0, 1) := by decide +kernel
theorem dX1_leave_10 : decode cX1_leave 10 = .ok (.dup, 1) := by decide +kernel
theorem dX1_leave_11 : decode cX1_leave 11 = .ok (.getfield 19, 3) := by decide +kernel
theorem dX1_leave_14 : decode cX1_leave 14 = .ok (.iconst 1, 1) := by decide +kernel
theorem dX1_leave_15 : decode cX1_leave 15 = .ok (.isub, 1) := by decide +kernel
theorem dX1_leave_16 : decode cX1_leave 16 = .ok (.putfield 19, 3) := by decide +kernel
theorem dX1_leave_19 : decode cX1_leave 19 = .ok (.iconst 1, 1) := by decide +kernel
theorem dX1_leave_20 : decode cX1_leave 20 = .ok (.ireturn, 1) := by decide +kernel
theorem dX1_innermost_0 : decode cX1_innermost 0 = .ok (.aload_n 0, 1) := by decide +kernel
theorem dX1_innermost_1 : decode cX1_innermost 1 = .ok (.getfield 19, 3) := by decide +kernel
theorem dX1_innermost_4 : decode cX1_innermost 4 = .ok (.ifCond .le 17, 3) := by decide +kernel
theorem dX1_innermost_7 : decode cX1_innermost 7 = .ok (.aload_n 0, 1) := by decide +kernel
theorem dX1_innermost_8 : decode cX1_innermost 8 = .ok (.getfield 9, 3) := by decide +kernel
theorem dX1_innermost_11 : decode cX1_innermost 11 = .ok (.aload_n 0, 1) := by decide +kernel
theorem dX1_innermost_12 : decode cX1_innermost 12 = .ok (.getfield 19, 3) := by decide +kernel
theorem dX1_innermost_15 : decode cX1_innermost 15 = .ok (.iconst 1, 1) := by decide +kernel
theorem dX1_innermost_16 : decode cX1_innermost 16 = .ok (.isub, 1) := by decide +kernel
theorem dX1_innermost_17 : decode cX1_innermost 17 = .ok (.iaload, 1) := by decide +kernel
theorem dX1_innermost_18 : decode cX1_innermost 18 = .ok (.goto 4, 3) := by decide +kernel
theorem dX1_innermost_21 : decode cX1_innermost 21 = .ok (.iconst 0, 1) := by decide +kernel
theorem dX1_innermost_22 : decode cX1_innermost 22 = .ok (.ireturn, 1) := by decide +kernel
theorem dX1_isActive_0 : decode cX1_isActive 0 = .ok (.iconst 0, 1) := by decide +kernel
theorem dX1_isActive_1 : decode cX1_isActive 1 = .ok (.istore_n 2, 1) := by decide +kernel
theorem dX1_isActive_2 : decode cX1_isActive 2 = .ok (.iload_n 2, 1) := by decide +kernel
theorem dX1_isActive_3 : decode cX1_isActive 3 = .ok (.aload_n 0, 1) := by decide +kernel
theorem dX1_isActive_4 : decode cX1_isActive 4 = .ok (.getfield 19, 3) := by decide +kernel
theorem dX1_isActive_7 : decode cX1_isActive 7 = .ok (.if_icmp .ge 21, 3) := by decide +kernel
theorem dX1_isActive_10 : decode cX1_isActive 10 = .ok (.aload_n 0, 1) := by decide +kernel
theorem dX1_isActive_11 : decode cX1_isActive 11 = .ok (.getfield 9, 3) := by decide +kernel
theorem dX1_isActive_14 : decode cX1_isActive 14 = .ok (.iload_n 2, 1) := by decide +kernel
theorem dX1_isActive_15 : decode cX1_isActive 15 = .ok (.iaload, 1) := by decide +kernel
theorem dX1_isActive_16 : decode cX1_isActive 16 = .ok (.iload_n 1, 1) := by decide +kernel
theorem dX1_isActive_17 : decode cX1_isActive 17 = .ok (.if_icmp .ne 5, 3) := by decide +kernel
theorem dX1_isActive_20 : decode cX1_isActive 20 = .ok (.iconst 1, 1) := by decide +kernel
theorem dX1_isActive_21 : decode cX1_isActive 21 = .ok (.ireturn, 1) := by decide +kernel
theorem dX1_isActive_22 : decode cX1_isActive 22 = .ok (.iinc 2 1, 3) := by decide +kernel
theorem dX1_isActive_25 : decode cX1_isActive 25 = .ok (.goto (-23), 3) := by decide +kernel
theorem dX1_isActive_28 : decode cX1_isActive 28 = .ok (.iconst 0, 1) := by decide +kernel
theorem dX1_isActive_29 : decode cX1_isActive 29 = .ok (.ireturn, 1) := by decide +kernel
theorem dX2_init_0 : decode cX2_init 0 = .ok (.aload_n 0, 1) := by decide +kernel
theorem dX2_init_1 : decode cX2_init 1 = .ok (.invokespecial 3, 3) := by decide +kernel
theorem dX2_init_4 : decode cX2_init 4 = .ok (.aload_n 0, 1) := by decide +kernel
theorem dX2_init_5 : decode cX2_init 5 = .ok (.bipush 12, 2) := by decide +kernel
theorem dX2_init_7 : decode cX2_init 7 = .ok (.newarray .int, 2) := by decide +kernel
theorem dX2_init_9 : decode cX2_init 9 = .ok (.putfield 9, 3) := by decide +kernel
theorem dX2_init_12 : decode cX2_init 12 = .ok (.aload_n 0, 1) := by decide +kernel
theorem dX2_init_13 : decode cX2_init 13 = .ok (.bipush 12, 2) := by decide +kernel
theorem dX2_init_15 : decode cX2_init 15 = .ok (.newarray .int, 2) := by decide +kernel
theorem dX2_init_17 : decode cX2_init 17 = .ok (.putfield 15, 3) := by decide +kernel
theorem dX2_init_20 : decode cX2_init 20 = .ok (.aload_n 0, 1) := by decide +kernel
theorem dX2_init_21 : decode cX2_init 21 = .ok (.bipush 12, 2) := by decide +kernel
theorem dX2_init_23 : decode cX2_init 23 = .ok (.newarray .int, 2) := by decide +kernel
theorem dX2_init_25 : decode cX2_init 25 = .ok (.putfield 18, 3) := by decide +kernel
theorem dX2_init_28 : decode cX2_init 28 = .ok (.aload_n 0, 1) := by decide +kernel
theorem dX2_init_29 : decode cX2_init 29 = .ok (.getfield 9, 3) := by decide +kernel
theorem dX2_init_32 : decode cX2_init 32 = .ok (.iconst 0, 1) := by decide +kernel
theorem dX2_init_33 : decode cX2_init 33 = .ok (.iload_n 1, 1) := by decide +kernel
theorem dX2_init_34 : decode cX2_init 34 = .ok (.iastore, 1) := by decide +kernel
theorem dX2_init_35 : decode cX2_init 35 = .ok (.aload_n 0, 1) := by decide +kernel
theorem dX2_init_36 : decode cX2_init 36 = .ok (.getfield 15, 3) := by decide +kernel
theorem dX2_init_39 : decode cX2_init 39 = .ok (.iconst 0, 1) := by decide +kernel
theorem dX2_init_40 : decode cX2_init 40 = .ok (.iconst 0, 1) := by decide +kernel
theorem dX2_init_41 : decode cX2_init 41 = .ok (.iastore, 1) := by decide +kernel
theorem dX2_init_42 : decode cX2_init 42 = .ok (.aload_n 0, 1) := by decide +kernel
theorem dX2_init_43 : decode cX2_init 43 = .ok (.getfield 18, 3) := by decide +kernel
theorem dX2_init_46 : decode cX2_init 46 = .ok (.iconst 0, 1) := by decide +kernel
theorem dX2_init_47 : decode cX2_init 47 = .ok (.iconst 0, 1) := by decide +kernel
theorem dX2_init_48 : decode cX2_init 48 = .ok (.iastore, 1) := by decide +kernel
theorem dX2_init_49 : decode cX2_init 49 = .ok (.aload_n 0, 1) := by decide +kernel
theorem dX2_init_50 : decode cX2_init 50 = .ok (.iconst 1, 1) := by decide +kernel
theorem dX2_init_51 : decode cX2_init 51 = .ok (.putfield 21, 3) := by decide +kernel
theorem dX2_init_54 : decode cX2_init 54 = .ok (.return_, 1) := by decide +kernel
theorem dX2_hasItem_0 : decode cX2_hasItem 0 = .ok (.iload_n 1, 1) := by decide +kernel
theorem dX2_hasItem_1 : decode cX2_hasItem 1 = .ok (.ifCond .lt 15, 3) := by decide +kernel
theorem dX2_hasItem_4 : decode cX2_hasItem 4 = .ok (.iload_n 1, 1) := by decide +kernel
theorem dX2_hasItem_5 : decode cX2_hasItem 5 = .ok (.aload_n 0, 1) := by decide +kernel
theorem dX2_hasItem_6 : decode cX2_hasItem 6 = .ok (.getfield 21, 3) := by decide +kernel
theorem dX2_hasItem_9 : decode cX2_hasItem 9 = .ok (.if_icmp .ge 7, 3) := by decide +kernel
theorem dX2_hasItem_12 : decode cX2_hasItem 12 = .ok (.iconst 1, 1) := by decide +kernel
theorem dX2_hasItem_13 : decode cX2_hasItem 13 = .ok (.goto 4, 3) := by decide +kernel
theorem dX2_hasItem_16 : decode cX2_hasItem 16 = .ok (.iconst 0, 1) := by decide +kernel
theorem dX2_hasItem_17 : decode cX2_hasItem 17 = .ok (.ireturn, 1) := by decide +kernel
theorem dX2_grantOfRead_0 : decode cX2_grantOfRead 0 = .ok (.aload_n 0, 1) := by decide +kernel
theorem dX2_grantOfRead_1 : decode cX2_grantOfRead 1 = .ok (.getfield 21, 3) := by decide +kernel
theorem dX2_grantOfRead_4 : decode cX2_grantOfRead 4 = .ok (.iconst 1, 1) := by decide +kernel
theorem dX2_grantOfRead_5 : decode cX2_grantOfRead 5 = .ok (.isub, 1) := by decide +kernel
theorem dX2_grantOfRead_6 : decode cX2_grantOfRead 6 = .ok (.istore_n 2, 1) := by decide +kernel
theorem dX2_grantOfRead_7 : decode cX2_grantOfRead 7 = .ok (.iload_n 2, 1) := by decide +kernel
theorem dX2_grantOfRead_8 : decode cX2_grantOfRead 8 = .ok (.ifCond .lt 31, 3) := by decide +kernel
theorem dX2_grantOfRead_11 : decode cX2_grantOfRead 11 = .ok (.aload_n 0, 1) := by decide +kernel
theorem dX2_grantOfRead_12 : decode cX2_grantOfRead 12 = .ok (.getfield 9, 3) := by decide +kernel
theorem dX2_grantOfRead_15 : decode cX2_grantOfRead 15 = .ok (.iload_n 2, 1) := by decide +kernel
theorem dX2_grantOfRead_16 : decode cX2_grantOfRead 16 = .ok (.iaload, 1) := by decide +kernel
theorem dX2_grantOfRead_17 : decode cX2_grantOfRead 17 = .ok (.iload_n 1, 1) := by decide +kernel
theorem dX2_grantOfRead_18 : decode cX2_grantOfRead 18 = .ok (.if_icmp .ne 15, 3) := by decide +kernel
theorem dX2_grantOfRead_21 : decode cX2_grantOfRead 21 = .ok (.aload_n 0, 1) := by decide +kernel
theorem dX2_grantOfRead_22 : decode cX2_grantOfRead 22 = .ok (.getfield 15, 3) := by decide +kernel
theorem dX2_grantOfRead_25 : decode cX2_grantOfRead 25 = .ok (.iload_n 2, 1) := by decide +kernel
theorem dX2_grantOfRead_26 : decode cX2_grantOfRead 26 = .ok (.iaload, 1) := by decide +kernel
theorem dX2_grantOfRead_27 : decode cX2_grantOfRead 27 = .ok (.iconst 3, 1) := by decide +kernel
theorem dX2_grantOfRead_28 : decode cX2_grantOfRead 28 = .ok (.if_icmp .eq 5, 3) := by decide +kernel
theorem dX2_grantOfRead_31 : decode cX2_grantOfRead 31 = .ok (.iload_n 2, 1) := by decide +kernel
theorem dX2_grantOfRead_32 : decode cX2_grantOfRead 32 = .ok (.ireturn, 1) := by decide +kernel
theorem dX2_grantOfRead_33 : decode cX2_grantOfRead 33 = .ok (.iinc 2 (-1), 3) := by decide +kernel
theorem dX2_grantOfRead_36 : decode cX2_grantOfRead 36 = .ok (.goto (-29), 3) := by decide +kernel
theorem dX2_grantOfRead_39 : decode cX2_grantOfRead 39 = .ok (.iconst (-1), 1) := by decide +kernel
theorem dX2_grantOfRead_40 : decode cX2_grantOfRead 40 = .ok (.ireturn, 1) := by decide +kernel
theorem dX2_grantOfWrite_0 : decode cX2_grantOfWrite 0 = .ok (.aload_n 0, 1) := by decide +kernel
theorem dX2_grantOfWrite_1 : decode cX2_grantOfWrite 1 = .ok (.getfield 21, 3) := by decide +kernel
theorem dX2_grantOfWrite_4 : decode cX2_grantOfWrite 4 = .ok (.iconst 1, 1) := by decide +kernel
theorem dX2_grantOfWrite_5 : decode cX2_grantOfWrite 5 = .ok (.isub, 1) := by decide +kernel
theorem dX2_grantOfWrite_6 : decode cX2_grantOfWrite 6 = .ok (.istore_n 2, 1) := by decide +kernel
theorem dX2_grantOfWrite_7 : decode cX2_grantOfWrite 7 = .ok (.iload_n 2, 1) := by decide +kernel
theorem dX2_grantOfWrite_8 : decode cX2_grantOfWrite 8 = .ok (.ifCond .lt 40, 3) := by decide +kernel
theorem dX2_grantOfWrite_11 : decode cX2_grantOfWrite 11 = .ok (.aload_n 0, 1) := by decide +kernel
theorem dX2_grantOfWrite_12 : decode cX2_grantOfWrite 12 = .ok (.getfield 9, 3) := by decide +kernel
theorem dX2_grantOfWrite_15 : decode cX2_grantOfWrite 15 = .ok (.iload_n 2, 1) := by decide +kernel
theorem dX2_grantOfWrite_16 : decode cX2_grantOfWrite 16 = .ok (.iaload, 1) := by decide +kernel
theorem dX2_grantOfWrite_17 : decode cX2_grantOfWrite 17 = .ok (.iload_n 1, 1) := by decide +kernel
theorem dX2_grantOfWrite_18 : decode cX2_grantOfWrite 18 = .ok (.if_icmp .ne 24, 3) := by decide +kernel
theorem dX2_grantOfWrite_21 : decode cX2_grantOfWrite 21 = .ok (.aload_n 0, 1) := by decide +kernel
theorem dX2_grantOfWrite_22 : decode cX2_grantOfWrite 22 = .ok (.getfield 15, 3) := by decide +kernel
theorem dX2_grantOfWrite_25 : decode cX2_grantOfWrite 25 = .ok (.iload_n 2, 1) := by decide +kernel
theorem dX2_grantOfWrite_26 : decode cX2_grantOfWrite 26 = .ok (.iaload, 1) := by decide +kernel
theorem dX2_grantOfWrite_27 : decode cX2_grantOfWrite 27 = .ok (.ifCond .eq 13, 3) := by decide +kernel
theorem dX2_grantOfWrite_30 : decode cX2_grantOfWrite 30 = .ok (.aload_n 0, 1) := by decide +kernel
theorem dX2_grantOfWrite_31 : decode cX2_grantOfWrite 31 = .ok (.getfield 15, 3) := by decide +kernel
theorem dX2_grantOfWrite_34 : decode cX2_grantOfWrite 34 = .ok (.iload_n 2, 1) := by decide +kernel
theorem dX2_grantOfWrite_35 : decode cX2_grantOfWrite 35 = .ok (.iaload, 1) := by decide +kernel
theorem dX2_grantOfWrite_36 : decode cX2_grantOfWrite 36 = .ok (.iconst 1, 1) := by decide +kernel
theorem dX2_grantOfWrite_37 : decode cX2_grantOfWrite 37 = .ok (.if_icmp .ne 5, 3) := by decide +kernel
theorem dX2_grantOfWrite_40 : decode cX2_grantOfWrite 40 = .ok (.iload_n 2, 1) := by decide +kernel
theorem dX2_grantOfWrite_41 : decode cX2_grantOfWrite 41 = .ok (.ireturn, 1) := by decide +kernel
theorem dX2_grantOfWrite_42 : decode cX2_grantOfWrite 42 = .ok (.iinc 2 (-1), 3) := by decide +kernel
theorem dX2_grantOfWrite_45 : decode cX2_grantOfWrite 45 = .ok (.goto (-38), 3) := by decide +kernel
theorem dX2_grantOfWrite_48 : decode cX2_grantOfWrite 48 = .ok (.iconst (-1), 1) := by decide +kernel
theorem dX2_grantOfWrite_49 : decode cX2_grantOfWrite 49 = .ok (.ireturn, 1) := by decide +kernel
theorem dX2_keptByWrite_0 : decode cX2_keptByWrite 0 = .ok (.aload_n 0, 1) := by decide +kernel
theorem dX2_keptByWrite_1 : decode cX2_keptByWrite 1 = .ok (.iload_n 1, 1) := by decide +kernel
theorem dX2_keptByWrite_2 : decode cX2_keptByWrite 2 = .ok (.invokevirtual 25, 3) := by decide +kernel
theorem dX2_keptByWrite_5 : decode cX2_keptByWrite 5 = .ok (.istore_n 2, 1) := by decide +kernel
theorem dX2_keptByWrite_6 : decode cX2_keptByWrite 6 = .ok (.iload_n 2, 1) := by decide +kernel
theorem dX2_keptByWrite_7 : decode cX2_keptByWrite 7 = .ok (.iconst (-1), 1) := by decide +kernel
theorem dX2_keptByWrite_8 : decode cX2_keptByWrite 8 = .ok (.if_icmp .ne 8, 3) := by decide +kernel
theorem dX2_keptByWrite_11 : decode cX2_keptByWrite 11 = .ok (.aload_n 0, 1) := by decide +kernel
theorem dX2_keptByWrite_12 : decode cX2_keptByWrite 12 = .ok (.getfield 21, 3) := by decide +kernel
theorem dX2_keptByWrite_15 : decode cX2_keptByWrite 15 = .ok (.ireturn, 1) := by decide +kernel
theorem dX2_keptByWrite_16 : decode cX2_keptByWrite 16 = .ok (.iload_n 2, 1) := by decide +kernel
theorem dX2_keptByWrite_17 : decode cX2_keptByWrite 17 = .ok (.iconst 1, 1) := by decide +kernel
theorem dX2_keptByWrite_18 : decode cX2_keptByWrite 18 = .ok (.iadd, 1) := by decide +kernel
theorem dX2_keptByWrite_19 : decode cX2_keptByWrite 19 = .ok (.istore_n 3, 1) := by decide +kernel
theorem dX2_keptByWrite_20 : decode cX2_keptByWrite 20 = .ok (.aload_n 0, 1) := by decide +kernel
theorem dX2_keptByWrite_21 : decode cX2_keptByWrite 21 = .ok (.getfield 15, 3) := by decide +kernel
theorem dX2_keptByWrite_24 : decode cX2_keptByWrite 24 = .ok (.iload_n 2, 1) := by decide +kernel
theorem dX2_keptByWrite_25 : decode cX2_keptByWrite 25 = .ok (.iaload, 1) := by decide +kernel
theorem dX2_keptByWrite_26 : decode cX2_keptByWrite 26 = .ok (.iconst 1, 1) := by decide +kernel
theorem dX2_keptByWrite_27 : decode cX2_keptByWrite 27 = .ok (.if_icmp .ne 27, 3) := by decide +kernel
theorem dX2_keptByWrite_30 : decode cX2_keptByWrite 30 = .ok (.iload_n 3, 1) := by decide +kernel
theorem dX2_keptByWrite_31 : decode cX2_keptByWrite 31 = .ok (.aload_n 0, 1) := by decide +kernel
theorem dX2_keptByWrite_32 : decode cX2_keptByWrite 32 = .ok (.getfield 21, 3) := by decide +kernel
theorem dX2_keptByWrite_35 : decode cX2_keptByWrite 35 = .ok (.if_icmp .ge 19, 3) := by decide +kernel
theorem dX2_keptByWrite_38 : decode cX2_keptByWrite 38 = .ok (.aload_n 0, 1) := by decide +kernel
theorem dX2_keptByWrite_39 : decode cX2_keptByWrite 39 = .ok (.getfield 15, 3) := by decide +kernel
theorem dX2_keptByWrite_42 : decode cX2_keptByWrite 42 = .ok (.iload_n 3, 1) := by decide +kernel
theorem dX2_keptByWrite_43 : decode cX2_keptByWrite 43 = .ok (.iaload, 1) := by decide +kernel
theorem dX2_keptByWrite_44 : decode cX2_keptByWrite 44 = .ok (.iconst 1, 1) := by decide +kernel
theorem dX2_keptByWrite_45 : decode cX2_keptByWrite 45 = .ok (.if_icmp .ne 9, 3) := by decide +kernel
theorem dX2_keptByWrite_48 : decode cX2_keptByWrite 48 = .ok (.iinc 3 1, 3) := by decide +kernel
theorem dX2_keptByWrite_51 : decode cX2_keptByWrite 51 = .ok (.goto (-21), 3) := by decide +kernel
theorem dX2_keptByWrite_54 : decode cX2_keptByWrite 54 = .ok (.iload_n 3, 1) := by decide +kernel
theorem dX2_keptByWrite_55 : decode cX2_keptByWrite 55 = .ok (.ireturn, 1) := by decide +kernel
theorem dX2_readViolation_0 : decode cX2_readViolation 0 = .ok (.aload_n 0, 1) := by decide +kernel
theorem dX2_readViolation_1 : decode cX2_readViolation 1 = .ok (.iload_n 1, 1) := by decide +kernel
theorem dX2_readViolation_2 : decode cX2_readViolation 2 = .ok (.invokevirtual 29, 3) := by decide +kernel
theorem dX2_readViolation_5 : decode cX2_readViolation 5 = .ok (.istore_n 3, 1) := by decide +kernel
theorem dX2_readViolation_6 : decode cX2_readViolation 6 = .ok (.iload_n 3, 1) := by decide +kernel
theorem dX2_readViolation_7 : decode cX2_readViolation 7 = .ok (.iconst (-1), 1) := by decide +kernel
theorem dX2_readViolation_8 : decode cX2_readViolation 8 = .ok (.if_icmp .ne 5, 3) := by decide +kernel
theorem dX2_readViolation_11 : decode cX2_readViolation 11 = .ok (.iconst 1, 1) := by decide +kernel
theorem dX2_readViolation_12 : decode cX2_readViolation 12 = .ok (.ireturn, 1) := by decide +kernel
theorem dX2_readViolation_13 : decode cX2_readViolation 13 = .ok (.iload_n 3, 1) := by decide +kernel
theorem dX2_readViolation_14 : decode cX2_readViolation 14 = .ok (.iconst 1, 1) := by decide +kernel
theorem dX2_readViolation_15 : decode cX2_readViolation 15 = .ok (.iadd, 1) := by decide +kernel
theorem dX2_readViolation_16 : decode cX2_readViolation 16 = .ok (.istore 4, 2) := by decide +kernel
theorem dX2_readViolation_18 : decode cX2_readViolation 18 = .ok (.iload 4, 2) := by decide +kernel
theorem dX2_readViolation_20 : decode cX2_readViolation 20 = .ok (.aload_n 0, 1) := by decide +kernel
theorem dX2_readViolation_21 : decode cX2_readViolation 21 = .ok (.getfield 21, 3) := by decide +kernel
theorem dX2_readViolation_24 : decode cX2_readViolation 24 = .ok (.if_icmp .ge 35, 3) := by decide +kernel
theorem dX2_readViolation_27 : decode cX2_readViolation 27 = .ok (.aload_n 0, 1) := by decide +kernel
theorem dX2_readViolation_28 : decode cX2_readViolation 28 = .ok (.getfield 15, 3) := by decide +kernel
theorem dX2_readViolation_31 : decode cX2_readViolation 31 = .ok (.iload 4, 2) := by decide +kernel
theorem dX2_readViolation_33 : decode cX2_readViolation 33 = .ok (.iaload, 1) := by decide +kernel
theorem dX2_readViolation_34 : decode cX2_readViolation 34 = .ok (.ifCond .ne 19, 3) := by decide +kernel
theorem dX2_readViolation_37 : decode cX2_readViolation 37 = .ok (.aload_n 2, 1) := by decide +kernel
theorem dX2_readViolation_38 : decode cX2_readViolation 38 = .ok (.aload_n 0, 1) := by decide +kernel
theorem dX2_readViolation_39 : decode cX2_readViolation 39 = .ok (.getfield 18, 3) := by decide +kernel
theorem dX2_readViolation_42 : decode cX2_readViolation 42 = .ok (.iload 4, 2) := by decide +kernel
theorem dX2_readViolation_44 : decode cX2_readViolation 44 = .ok (.iaload, 1) := by decide +kernel
theorem dX2_readViolation_45 : decode cX2_readViolation 45 = .ok (.invokevirtual 32, 3) := by decide +kernel
theorem dX2_readViolation_48 : decode cX2_readViolation 48 = .ok (.ifCond .eq 5, 3) := by decide +kernel
theorem dX2_readViolation_51 : decode cX2_readViolation 51 = .ok (.iconst 2, 1) := by decide +kernel
theorem dX2_readViolation_52 : decode cX2_readViolation 52 = .ok (.ireturn, 1) := by decide +kernel
theorem dX2_readViolation_53 : decode cX2_readViolation 53 = .ok (.iinc 4 1, 3) := by decide +kernel
theorem dX2_readViolation_56 : decode cX2_readViolation 56 = .ok (.goto (-38), 3) := by decide +kernel
theorem dX2_readViolation_59 : decode cX2_readViolation 59 = .ok (.iconst 0, 1) := by decide +kernel
theorem dX2_readViolation_60 : decode cX2_readViolation 60 = .ok (.ireturn, 1) := by decide +kernel
theorem dX2_writeViolation_0 : decode cX2_writeViolation 0 = .ok (.aload_n 0, 1) := by decide +kernel
theorem dX2_writeViolation_1 : decode cX2_writeViolation 1 = .ok (.iload_n 1, 1) := by decide +kernel
theorem dX2_writeViolation_2 : decode cX2_writeViolation 2 = .ok (.invokevirtual 25, 3) := by decide +kernel
theorem dX2_writeViolation_5 : decode cX2_writeViolation 5 = .ok (.iconst (-1), 1) := by decide +kernel
theorem dX2_writeViolation_6 : decode cX2_writeViolation 6 = .ok (.if_icmp .ne 5, 3) := by decide +kernel
theorem dX2_writeViolation_9 : decode cX2_writeViolation 9 = .ok (.iconst 1, 1) := by decide +kernel
theorem dX2_writeViolation_10 : decode cX2_writeViolation 10 = .ok (.ireturn, 1) := by decide +kernel
theorem dX2_writeViolation_11 : decode cX2_writeViolation 11 = .ok (.aload_n 0, 1) := by decide +kernel
theorem dX2_writeViolation_12 : decode cX2_writeViolation 12 = .ok (.aload_n 0, 1) := by decide +kernel
theorem dX2_writeViolation_13 : decode cX2_writeViolation 13 = .ok (.iload_n 1, 1) := by decide +kernel
theorem dX2_writeViolation_14 : decode cX2_writeViolation 14 = .ok (.invokevirtual 38, 3) := by decide +kernel
theorem dX2_writeViolation_17 : decode cX2_writeViolation 17 = .ok (.aload_n 2, 1) := by decide +kernel
theorem dX2_writeViolation_18 : decode cX2_writeViolation 18 = .ok (.invokevirtual 41, 3) := by decide +kernel
theorem dX2_writeViolation_21 : decode cX2_writeViolation 21 = .ok (.ifCond .eq 7, 3) := by decide +kernel
theorem dX2_writeViolation_24 : decode cX2_writeViolation 24 = .ok (.iconst 2, 1) := by decide +kernel
theorem dX2_writeViolation_25 : decode cX2_writeViolation 25 = .ok (.goto 4, 3) := by decide +kernel
theorem dX2_writeViolation_28 : decode cX2_writeViolation 28 = .ok (.iconst 0, 1) := by decide +kernel
theorem dX2_writeViolation_29 : decode cX2_writeViolation 29 = .ok (.ireturn, 1) := by decide +kernel
theorem dX2_freeViolation_0 : decode cX2_freeViolation 0 = .ok (.aload_n 0, 1) := by decide +kernel
theorem dX2_freeViolation_1 : decode cX2_freeViolation 1 = .ok (.iload_n 1, 1) := by decide +kernel
theorem dX2_freeViolation_2 : decode cX2_freeViolation 2 = .ok (.invokevirtual 25, 3) := by decide +kernel
theorem dX2_freeViolation_5 : decode cX2_freeViolation 5 = .ok (.iconst (-1), 1) := by decide +kernel
theorem dX2_freeViolation_6 : decode cX2_freeViolation 6 = .ok (.if_icmp .ne 5, 3) := by decide +kernel
theorem dX2_freeViolation_9 : decode cX2_freeViolation 9 = .ok (.iconst 1, 1) := by decide +kernel
theorem dX2_freeViolation_10 : decode cX2_freeViolation 10 = .ok (.ireturn, 1) := by decide +kernel
theorem dX2_freeViolation_11 : decode cX2_freeViolation 11 = .ok (.aload_n 0, 1) := by decide +kernel
theorem dX2_freeViolation_12 : decode cX2_freeViolation 12 = .ok (.iconst 0, 1) := by decide +kernel
theorem dX2_freeViolation_13 : decode cX2_freeViolation 13 = .ok (.aload_n 2, 1) := by decide +kernel
theorem dX2_freeViolation_14 : decode cX2_freeViolation 14 = .ok (.invokevirtual 41, 3) := by decide +kernel
theorem dX2_freeViolation_17 : decode cX2_freeViolation 17 = .ok (.ifCond .eq 7, 3) := by decide +kernel
theorem dX2_freeViolation_20 : decode cX2_freeViolation 20 = .ok (.iconst 2, 1) := by decide +kernel
theorem dX2_freeViolation_21 : decode cX2_freeViolation 21 = .ok (.goto 4, 3) := by decide +kernel
theorem dX2_freeViolation_24 : decode cX2_freeViolation 24 = .ok (.iconst 0, 1) := by decide +kernel
theorem dX2_freeViolation_25 : decode cX2_freeViolation 25 = .ok (.ireturn, 1) := by decide +kernel
theorem dX2_reborrowViolation_0 : decode cX2_reborrowViolation 0 = .ok (.iload_n 1, 1) := by decide +kernel
theorem dX2_reborrowViolation_1 : decode cX2_reborrowViolation 1 = .ok (.ifCond .ne 10, 3) := by decide +kernel
theorem dX2_reborrowViolation_4 : decode cX2_reborrowViolation 4 = .ok (.aload_n 0, 1) := by decide +kernel
theorem dX2_reborrowViolation_5 : decode cX2_reborrowViolation 5 = .ok (.iload_n 2, 1) := by decide +kernel
theorem dX2_reborrowViolation_6 : decode cX2_reborrowViolation 6 = .ok (.aload_n 3, 1) := by decide +kernel
theorem dX2_reborrowViolation_7 : decode cX2_reborrowViolation 7 = .ok (.invokevirtual 45, 3) := by decide +kernel
theorem dX2_reborrowViolation_10 : decode cX2_reborrowViolation 10 = .ok (.ireturn, 1) := by decide +kernel
theorem dX2_reborrowViolation_11 : decode cX2_reborrowViolation 11 = .ok (.iload_n 1, 1) := by decide +kernel
theorem dX2_reborrowViolation_12 : decode cX2_reborrowViolation 12 = .ok (.iconst 1, 1) := by decide +kernel
theorem dX2_reborrowViolation_13 : decode cX2_reborrowViolation 13 = .ok (.if_icmp .ne 10, 3) := by decide +kernel
theorem dX2_reborrowViolation_16 : decode cX2_reborrowViolation 16 = .ok (.aload_n 0, 1) := by decide +kernel
theorem dX2_reborrowViolation_17 : decode cX2_reborrowViolation 17 = .ok (.iload_n 2, 1) := by decide +kernel
theorem dX2_reborrowViolation_18 : decode cX2_reborrowViolation 18 = .ok (.aload_n 3, 1) := by decide +kernel
theorem dX2_reborrowViolation_19 : decode cX2_reborrowViolation 19 = .ok (.invokevirtual 49, 3) := by decide +kernel
theorem dX2_reborrowViolation_22 : decode cX2_reborrowViolation 22 = .ok (.ireturn, 1) := by decide +kernel
theorem dX2_reborrowViolation_23 : decode cX2_reborrowViolation 23 = .ok (.aload_n 0, 1) := by decide +kernel
theorem dX2_reborrowViolation_24 : decode cX2_reborrowViolation 24 = .ok (.iload_n 2, 1) := by decide +kernel
theorem dX2_reborrowViolation_25 : decode cX2_reborrowViolation 25 = .ok (.invokevirtual 25, 3) := by decide +kernel
theorem dX2_reborrowViolation_28 : decode cX2_reborrowViolation 28 = .ok (.iconst (-1), 1) := by decide +kernel
theorem dX2_reborrowViolation_29 : decode cX2_reborrowViolation 29 = .ok (.if_icmp .ne 7, 3) := by decide +kernel
theorem dX2_reborrowViolation_32 : decode cX2_reborrowViolation 32 = .ok (.iconst 1, 1) := by decide +kernel
theorem dX2_reborrowViolation_33 : decode cX2_reborrowViolation 33 = .ok (.goto 4, 3) := by decide +kernel
theorem dX2_reborrowViolation_36 : decode cX2_reborrowViolation 36 = .ok (.iconst 0, 1) := by decide +kernel
theorem dX2_reborrowViolation_37 : decode cX2_reborrowViolation 37 = .ok (.ireturn, 1) := by decide +kernel
theorem dX2_hasProtectedFrom_0 : decode cX2_hasProtectedFrom 0 = .ok (.iload_n 1, 1) := by decide +kernel
theorem dX2_hasProtectedFrom_1 : decode cX2_hasProtectedFrom 1 = .ok (.istore_n 3, 1) := by decide +kernel
theorem dX2_hasProtectedFrom_2 : decode cX2_hasProtectedFrom 2 = .ok (.iload_n 3, 1) := by decide +kernel
theorem dX2_hasProtectedFrom_3 : decode cX2_hasProtectedFrom 3 = .ok (.aload_n 0, 1) := by decide +kernel
theorem dX2_hasProtectedFrom_4 : decode cX2_hasProtectedFrom 4 = .ok (.getfield 21, 3) := by decide +kernel
theorem dX2_hasProtectedFrom_7 : decode cX2_hasProtectedFrom 7 = .ok (.if_icmp .ge 24, 3) := by decide +kernel
theorem dX2_hasProtectedFrom_10 : decode cX2_hasProtectedFrom 10 = .ok (.aload_n 2, 1) := by decide +kernel
theorem dX2_hasProtectedFrom_11 : decode cX2_hasProtectedFrom 11 = .ok (.aload_n 0, 1) := by decide +kernel
theorem dX2_hasProtectedFrom_12 : decode cX2_hasProtectedFrom 12 = .ok (.getfield 18, 3) := by decide +kernel
theorem dX2_hasProtectedFrom_15 : decode cX2_hasProtectedFrom 15 = .ok (.iload_n 3, 1) := by decide +kernel
theorem dX2_hasProtectedFrom_16 : decode cX2_hasProtectedFrom 16 = .ok (.iaload, 1) := by decide +kernel
theorem dX2_hasProtectedFrom_17 : decode cX2_hasProtectedFrom 17 = .ok (.invokevirtual 32, 3) := by decide +kernel
theorem dX2_hasProtectedFrom_20 : decode cX2_hasProtectedFrom 20 = .ok (.ifCond .eq 5, 3) := by decide +kernel
theorem dX2_hasProtectedFrom_23 : decode cX2_hasProtectedFrom 23 = .ok (.iconst 1, 1) := by decide +kernel
theorem dX2_hasProtectedFrom_24 : decode cX2_hasProtectedFrom 24 = .ok (.ireturn, 1) := by decide +kernel
theorem dX2_hasProtectedFrom_25 : decode cX2_hasProtectedFrom 25 = .ok (.iinc 3 1, 3) := by decide +kernel
theorem dX2_hasProtectedFrom_28 : decode cX2_hasProtectedFrom 28 = .ok (.goto (-26), 3) := by decide +kernel
theorem dX2_hasProtectedFrom_31 : decode cX2_hasProtectedFrom 31 = .ok (.iconst 0, 1) := by decide +kernel
theorem dX2_hasProtectedFrom_32 : decode cX2_hasProtectedFrom 32 = .ok (.ireturn, 1) := by decide +kernel
theorem dX2_hasRoomToReborrow_0 : decode cX2_hasRoomToReborrow 0 = .ok (.iload_n 1, 1) := by decide +kernel
theorem dX2_hasRoomToReborrow_1 : decode cX2_hasRoomToReborrow 1 = .ok (.ifCond .ne 11, 3) := by decide +kernel
theorem dX2_hasRoomToReborrow_4 : decode cX2_hasRoomToReborrow 4 = .ok (.aload_n 0, 1) := by decide +kernel
theorem dX2_hasRoomToReborrow_5 : decode cX2_hasRoomToReborrow 5 = .ok (.iload_n 2, 1) := by decide +kernel
theorem dX2_hasRoomToReborrow_6 : decode cX2_hasRoomToReborrow 6 = .ok (.invokevirtual 38, 3) := by decide +kernel
theorem dX2_hasRoomToReborrow_9 : decode cX2_hasRoomToReborrow 9 = .ok (.goto 7, 3) := by decide +kernel
theorem dX2_hasRoomToReborrow_12 : decode cX2_hasRoomToReborrow 12 = .ok (.aload_n 0, 1) := by decide +kernel
theorem dX2_hasRoomToReborrow_13 : decode cX2_hasRoomToReborrow 13 = .ok (.getfield 21, 3) := by decide +kernel
theorem dX2_hasRoomToReborrow_16 : decode cX2_hasRoomToReborrow 16 = .ok (.istore_n 3, 1) := by decide +kernel
theorem dX2_hasRoomToReborrow_17 : decode cX2_hasRoomToReborrow 17 = .ok (.iload_n 3, 1) := by decide +kernel
theorem dX2_hasRoomToReborrow_18 : decode cX2_hasRoomToReborrow 18 = .ok (.bipush 12, 2) := by decide +kernel
theorem dX2_hasRoomToReborrow_20 : decode cX2_hasRoomToReborrow 20 = .ok (.if_icmp .ge 7, 3) := by decide +kernel
theorem dX2_hasRoomToReborrow_23 : decode cX2_hasRoomToReborrow 23 = .ok (.iconst 1, 1) := by decide +kernel
theorem dX2_hasRoomToReborrow_24 : decode cX2_hasRoomToReborrow 24 = .ok (.goto 4, 3) := by decide +kernel
theorem dX2_hasRoomToReborrow_27 : decode cX2_hasRoomToReborrow 27 = .ok (.iconst 0, 1) := by decide +kernel
theorem dX2_hasRoomToReborrow_28 : decode cX2_hasRoomToReborrow 28 = .ok (.ireturn, 1) := by decide +kernel
theorem dX2_applyRead_0 : decode cX2_applyRead 0 = .ok (.aload_n 0, 1) := by decide +kernel
theorem dX2_applyRead_1 : decode cX2_applyRead 1 = .ok (.iload_n 1, 1) := by decide +kernel
theorem dX2_applyRead_2 : decode cX2_applyRead 2 = .ok (.invokevirtual 29, 3) := by decide +kernel
theorem dX2_applyRead_5 : decode cX2_applyRead 5 = .ok (.istore_n 2, 1) := by decide +kernel
theorem dX2_applyRead_6 : decode cX2_applyRead 6 = .ok (.iload_n 2, 1) := by decide +kernel
theorem dX2_applyRead_7 : decode cX2_applyRead 7 = .ok (.iconst (-1), 1) := by decide +kernel
theorem dX2_applyRead_8 : decode cX2_applyRead 8 = .ok (.if_icmp .ne 4, 3) := by decide +kernel
theorem dX2_applyRead_11 : decode cX2_applyRead 11 = .ok (.return_, 1) := by decide +kernel
theorem dX2_applyRead_12 : decode cX2_applyRead 12 = .ok (.iload_n 2, 1) := by decide +kernel
theorem dX2_applyRead_13 : decode cX2_applyRead 13 = .ok (.iconst 1, 1) := by decide +kernel
theorem dX2_applyRead_14 : decode cX2_applyRead 14 = .ok (.iadd, 1) := by decide +kernel
theorem dX2_applyRead_15 : decode cX2_applyRead 15 = .ok (.istore_n 3, 1) := by decide +kernel
theorem dX2_applyRead_16 : decode cX2_applyRead 16 = .ok (.iload_n 3, 1) := by decide +kernel
theorem dX2_applyRead_17 : decode cX2_applyRead 17 = .ok (.aload_n 0, 1) := by decide +kernel
theorem dX2_applyRead_18 : decode cX2_applyRead 18 = .ok (.getfield 21, 3) := by decide +kernel
theorem dX2_applyRead_21 : decode cX2_applyRead 21 = .ok (.if_icmp .ge 25, 3) := by decide +kernel
theorem dX2_applyRead_24 : decode cX2_applyRead 24 = .ok (.aload_n 0, 1) := by decide +kernel
theorem dX2_applyRead_25 : decode cX2_applyRead 25 = .ok (.getfield 15, 3) := by decide +kernel
theorem dX2_applyRead_28 : decode cX2_applyRead 28 = .ok (.iload_n 3, 1) := by decide +kernel
theorem dX2_applyRead_29 : decode cX2_applyRead 29 = .ok (.iaload, 1) := by decide +kernel
theorem dX2_applyRead_30 : decode cX2_applyRead 30 = .ok (.ifCond .ne 10, 3) := by decide +kernel
theorem dX2_applyRead_33 : decode cX2_applyRead 33 = .ok (.aload_n 0, 1) := by decide +kernel
theorem dX2_applyRead_34 : decode cX2_applyRead 34 = .ok (.getfield 15, 3) := by decide +kernel
theorem dX2_applyRead_37 : decode cX2_applyRead 37 = .ok (.iload_n 3, 1) := by decide +kernel
theorem dX2_applyRead_38 : decode cX2_applyRead 38 = .ok (.iconst 3, 1) := by decide +kernel
theorem dX2_applyRead_39 : decode cX2_applyRead 39 = .ok (.iastore, 1) := by decide +kernel
theorem dX2_applyRead_40 : decode cX2_applyRead 40 = .ok (.iinc 3 1, 3) := by decide +kernel
theorem dX2_applyRead_43 : decode cX2_applyRead 43 = .ok (.goto (-27), 3) := by decide +kernel
theorem dX2_applyRead_46 : decode cX2_applyRead 46 = .ok (.return_, 1) := by decide +kernel
theorem dX2_applyWrite_0 : decode cX2_applyWrite 0 = .ok (.aload_n 0, 1) := by decide +kernel
theorem dX2_applyWrite_1 : decode cX2_applyWrite 1 = .ok (.aload_n 0, 1) := by decide +kernel
theorem dX2_applyWrite_2 : decode cX2_applyWrite 2 = .ok (.iload_n 1, 1) := by decide +kernel
theorem dX2_applyWrite_3 : decode cX2_applyWrite 3 = .ok (.invokevirtual 38, 3) := by decide +kernel
theorem dX2_applyWrite_6 : decode cX2_applyWrite 6 = .ok (.putfield 21, 3) := by decide +kernel
theorem dX2_applyWrite_9 : decode cX2_applyWrite 9 = .ok (.return_, 1) := by decide +kernel
theorem dX2_applyReborrow_0 : decode cX2_applyReborrow 0 = .ok (.iload_n 1, 1) := by decide +kernel
theorem dX2_applyReborrow_1 : decode cX2_applyReborrow 1 = .ok (.ifCond .ne 23, 3) := by decide +kernel
theorem dX2_applyReborrow_4 : decode cX2_applyReborrow 4 = .ok (.aload_n 0, 1) := by decide +kernel
theorem dX2_applyReborrow_5 : decode cX2_applyReborrow 5 = .ok (.iload_n 2, 1) := by decide +kernel
theorem dX2_applyReborrow_6 : decode cX2_applyReborrow 6 = .ok (.invokevirtual 52, 3) := by decide +kernel
theorem dX2_applyReborrow_9 : decode cX2_applyReborrow 9 = .ok (.aload_n 0, 1) := by decide +kernel
theorem dX2_applyReborrow_10 : decode cX2_applyReborrow 10 = .ok (.aload_n 0, 1) := by decide +kernel
theorem dX2_applyReborrow_11 : decode cX2_applyReborrow 11 = .ok (.getfield 21, 3) := by decide +kernel
theorem dX2_applyReborrow_14 : decode cX2_applyReborrow 14 = .ok (.iload_n 3, 1) := by decide +kernel
theorem dX2_applyReborrow_15 : decode cX2_applyReborrow 15 = .ok (.iconst 0, 1) := by decide +kernel
theorem dX2_applyReborrow_16 : decode cX2_applyReborrow 16 = .ok (.iload 4, 2) := by decide +kernel
theorem dX2_applyReborrow_18 : decode cX2_applyReborrow 18 = .ok (.invokevirtual 56, 3) := by decide +kernel
theorem dX2_applyReborrow_21 : decode cX2_applyReborrow 21 = .ok (.goto 41, 3) := by decide +kernel
theorem dX2_applyReborrow_24 : decode cX2_applyReborrow 24 = .ok (.iload_n 1, 1) := by decide +kernel
theorem dX2_applyReborrow_25 : decode cX2_applyReborrow 25 = .ok (.iconst 1, 1) := by decide +kernel
theorem dX2_applyReborrow_26 : decode cX2_applyReborrow 26 = .ok (.if_icmp .ne 23, 3) := by decide +kernel
theorem dX2_applyReborrow_29 : decode cX2_applyReborrow 29 = .ok (.aload_n 0, 1) := by decide +kernel
theorem dX2_applyReborrow_30 : decode cX2_applyReborrow 30 = .ok (.iload_n 2, 1) := by decide +kernel
theorem dX2_applyReborrow_31 : decode cX2_applyReborrow 31 = .ok (.invokevirtual 60, 3) := by decide +kernel
theorem dX2_applyReborrow_34 : decode cX2_applyReborrow 34 = .ok (.aload_n 0, 1) := by decide +kernel
theorem dX2_applyReborrow_35 : decode cX2_applyReborrow 35 = .ok (.aload_n 0, 1) := by decide +kernel
theorem dX2_applyReborrow_36 : decode cX2_applyReborrow 36 = .ok (.getfield 21, 3) := by decide +kernel
theorem dX2_applyReborrow_39 : decode cX2_applyReborrow 39 = .ok (.iload_n 3, 1) := by decide +kernel
theorem dX2_applyReborrow_40 : decode cX2_applyReborrow 40 = .ok (.iconst 2, 1) := by decide +kernel
theorem dX2_applyReborrow_41 : decode cX2_applyReborrow 41 = .ok (.iload 4, 2) := by decide +kernel
theorem dX2_applyReborrow_43 : decode cX2_applyReborrow 43 = .ok (.invokevirtual 56, 3) := by decide +kernel
theorem dX2_applyReborrow_46 : decode cX2_applyReborrow 46 = .ok (.goto 16, 3) := by decide +kernel
theorem dX2_applyReborrow_49 : decode cX2_applyReborrow 49 = .ok (.aload_n 0, 1) := by decide +kernel
theorem dX2_applyReborrow_50 : decode cX2_applyReborrow 50 = .ok (.aload_n 0, 1) := by decide +kernel
theorem dX2_applyReborrow_51 : decode cX2_applyReborrow 51 = .ok (.iload_n 2, 1) := by decide +kernel
theorem dX2_applyReborrow_52 : decode cX2_applyReborrow 52 = .ok (.invokevirtual 38, 3) := by decide +kernel
theorem dX2_applyReborrow_55 : decode cX2_applyReborrow 55 = .ok (.iload_n 3, 1) := by decide +kernel
theorem dX2_applyReborrow_56 : decode cX2_applyReborrow 56 = .ok (.iconst 1, 1) := by decide +kernel
theorem dX2_applyReborrow_57 : decode cX2_applyReborrow 57 = .ok (.iload 4, 2) := by decide +kernel
theorem dX2_applyReborrow_59 : decode cX2_applyReborrow 59 = .ok (.invokevirtual 56, 3) := by decide +kernel
theorem dX2_applyReborrow_62 : decode cX2_applyReborrow 62 = .ok (.return_, 1) := by decide +kernel
theorem dX2_insertItem_0 : decode cX2_insertItem 0 = .ok (.iload_n 1, 1) := by decide +kernel
theorem dX2_insertItem_1 : decode cX2_insertItem 1 = .ok (.ifCond .lt 20, 3) := by decide +kernel
theorem dX2_insertItem_4 : decode cX2_insertItem 4 = .ok (.iload_n 1, 1) := by decide +kernel
theorem dX2_insertItem_5 : decode cX2_insertItem 5 = .ok (.aload_n 0, 1) := by decide +kernel
theorem dX2_insertItem_6 : decode cX2_insertItem 6 = .ok (.getfield 21, 3) := by decide +kernel
theorem dX2_insertItem_9 : decode cX2_insertItem 9 = .ok (.if_icmp .gt 12, 3) := by decide +kernel
theorem dX2_insertItem_12 : decode cX2_insertItem 12 = .ok (.aload_n 0, 1) := by decide +kernel
theorem dX2_insertItem_13 : decode cX2_insertItem 13 = .ok (.getfield 21, 3) := by decide +kernel
theorem dX2_insertItem_16 : decode cX2_insertItem 16 = .ok (.bipush 12, 2) := by decide +kernel
theorem dX2_insertItem_18 : decode cX2_insertItem 18 = .ok (.if_icmp .lt 4, 3) := by decide +kernel
theorem dX2_insertItem_21 : decode cX2_insertItem 21 = .ok (.return_, 1) := by decide +kernel
theorem dX2_insertItem_22 : decode cX2_insertItem 22 = .ok (.aload_n 0, 1) := by decide +kernel
theorem dX2_insertItem_23 : decode cX2_insertItem 23 = .ok (.getfield 21, 3) := by decide +kernel
theorem dX2_insertItem_26 : decode cX2_insertItem 26 = .ok (.istore 5, 2) := by decide +kernel
theorem dX2_insertItem_28 : decode cX2_insertItem 28 = .ok (.iload 5, 2) := by decide +kernel
theorem dX2_insertItem_30 : decode cX2_insertItem 30 = .ok (.iload_n 1, 1) := by decide +kernel
theorem dX2_insertItem_31 : decode cX2_insertItem 31 = .ok (.if_icmp .le 57, 3) := by decide +kernel
theorem dX2_insertItem_34 : decode cX2_insertItem 34 = .ok (.aload_n 0, 1) := by decide +kernel
theorem dX2_insertItem_35 : decode cX2_insertItem 35 = .ok (.getfield 9, 3) := by decide +kernel
theorem dX2_insertItem_38 : decode cX2_insertItem 38 = .ok (.iload 5, 2) := by decide +kernel
theorem dX2_insertItem_40 : decode cX2_insertItem 40 = .ok (.aload_n 0, 1) := by decide +kernel
theorem dX2_insertItem_41 : decode cX2_insertItem 41 = .ok (.getfield 9, 3) := by decide +kernel
theorem dX2_insertItem_44 : decode cX2_insertItem 44 = .ok (.iload 5, 2) := by decide +kernel
theorem dX2_insertItem_46 : decode cX2_insertItem 46 = .ok (.iconst 1, 1) := by decide +kernel
theorem dX2_insertItem_47 : decode cX2_insertItem 47 = .ok (.isub, 1) := by decide +kernel
theorem dX2_insertItem_48 : decode cX2_insertItem 48 = .ok (.iaload, 1) := by decide +kernel
theorem dX2_insertItem_49 : decode cX2_insertItem 49 = .ok (.iastore, 1) := by decide +kernel
theorem dX2_insertItem_50 : decode cX2_insertItem 50 = .ok (.aload_n 0, 1) := by decide +kernel
theorem dX2_insertItem_51 : decode cX2_insertItem 51 = .ok (.getfield 15, 3) := by decide +kernel
theorem dX2_insertItem_54 : decode cX2_insertItem 54 = .ok (.iload 5, 2) := by decide +kernel
theorem dX2_insertItem_56 : decode cX2_insertItem 56 = .ok (.aload_n 0, 1) := by decide +kernel
theorem dX2_insertItem_57 : decode cX2_insertItem 57 = .ok (.getfield 15, 3) := by decide +kernel
theorem dX2_insertItem_60 : decode cX2_insertItem 60 = .ok (.iload 5, 2) := by decide +kernel
theorem dX2_insertItem_62 : decode cX2_insertItem 62 = .ok (.iconst 1, 1) := by decide +kernel
theorem dX2_insertItem_63 : decode cX2_insertItem 63 = .ok (.isub, 1) := by decide +kernel
theorem dX2_insertItem_64 : decode cX2_insertItem 64 = .ok (.iaload, 1) := by decide +kernel
theorem dX2_insertItem_65 : decode cX2_insertItem 65 = .ok (.iastore, 1) := by decide +kernel
theorem dX2_insertItem_66 : decode cX2_insertItem 66 = .ok (.aload_n 0, 1) := by decide +kernel
theorem dX2_insertItem_67 : decode cX2_insertItem 67 = .ok (.getfield 18, 3) := by decide +kernel
theorem dX2_insertItem_70 : decode cX2_insertItem 70 = .ok (.iload 5, 2) := by decide +kernel
theorem dX2_insertItem_72 : decode cX2_insertItem 72 = .ok (.aload_n 0, 1) := by decide +kernel
theorem dX2_insertItem_73 : decode cX2_insertItem 73 = .ok (.getfield 18, 3) := by decide +kernel
theorem dX2_insertItem_76 : decode cX2_insertItem 76 = .ok (.iload 5, 2) := by decide +kernel
theorem dX2_insertItem_78 : decode cX2_insertItem 78 = .ok (.iconst 1, 1) := by decide +kernel
theorem dX2_insertItem_79 : decode cX2_insertItem 79 = .ok (.isub, 1) := by decide +kernel
theorem dX2_insertItem_80 : decode cX2_insertItem 80 = .ok (.iaload, 1) := by decide +kernel
theorem dX2_insertItem_81 : decode cX2_insertItem 81 = .ok (.iastore, 1) := by decide +kernel
theorem dX2_insertItem_82 : decode cX2_insertItem 82 = .ok (.iinc 5 (-1), 3) := by decide +kernel
theorem dX2_insertItem_85 : decode cX2_insertItem 85 = .ok (.goto (-57), 3) := by decide +kernel
theorem dX2_insertItem_88 : decode cX2_insertItem 88 = .ok (.aload_n 0, 1) := by decide +kernel
theorem dX2_insertItem_89 : decode cX2_insertItem 89 = .ok (.getfield 9, 3) := by decide +kernel
theorem dX2_insertItem_92 : decode cX2_insertItem 92 = .ok (.iload_n 1, 1) := by decide +kernel
theorem dX2_insertItem_93 : decode cX2_insertItem 93 = .ok (.iload_n 2, 1) := by decide +kernel
theorem dX2_insertItem_94 : decode cX2_insertItem 94 = .ok (.iastore, 1) := by decide +kernel
theorem dX2_insertItem_95 : decode cX2_insertItem 95 = .ok (.aload_n 0, 1) := by decide +kernel
theorem dX2_insertItem_96 : decode cX2_insertItem 96 = .ok (.getfield 15, 3) := by decide +kernel
theorem dX2_insertItem_99 : decode cX2_insertItem 99 = .ok (.iload_n 1, 1) := by decide +kernel
theorem dX2_insertItem_100 : decode cX2_insertItem 100 = .ok (.iload_n 3, 1) := by decide +kernel
theorem dX2_insertItem_101 : decode cX2_insertItem 101 = .ok (.iastore, 1) := by decide +kernel
theorem dX2_insertItem_102 : decode cX2_insertItem 102 = .ok (.aload_n 0, 1) := by decide +kernel
theorem dX2_insertItem_103 : decode cX2_insertItem 103 = .ok (.getfield 18, 3) := by decide +kernel
theorem dX2_insertItem_106 : decode cX2_insertItem 106 = .ok (.iload_n 1, 1) := by decide +kernel
theorem dX2_insertItem_107 : decode cX2_insertItem 107 = .ok (.iload 4, 2) := by decide +kernel
theorem dX2_insertItem_109 : decode cX2_insertItem 109 = .ok (.iastore, 1) := by decide +kernel
theorem dX2_insertItem_110 : decode cX2_insertItem 110 = .ok (.aload_n 0, 1) := by decide +kernel
theorem dX2_insertItem_111 : decode cX2_insertItem 111 = .ok (.dup, 1) := by decide +kernel
theorem dX2_insertItem_112 : decode cX2_insertItem 112 = .ok (.getfield 21, 3) := by decide +kernel
theorem dX2_insertItem_115 : decode cX2_insertItem 115 = .ok (.iconst 1, 1) := by decide +kernel
theorem dX2_insertItem_116 : decode cX2_insertItem 116 = .ok (.iadd, 1) := by decide +kernel
theorem dX2_insertItem_117 : decode cX2_insertItem 117 = .ok (.putfield 21, 3) := by decide +kernel
theorem dX2_insertItem_120 : decode cX2_insertItem 120 = .ok (.return_, 1) := by decide +kernel
theorem dX2_mixedInto_0 : decode cX2_mixedInto 0 = .ok (.lload_n 1, 1) := by decide +kernel
theorem dX2_mixedInto_1 : decode cX2_mixedInto 1 = .ok (.aload_n 0, 1) := by decide +kernel
theorem dX2_mixedInto_2 : decode cX2_mixedInto 2 = .ok (.getfield 63, 3) := by decide +kernel
theorem dX2_mixedInto_5 : decode cX2_mixedInto 5 = .ok (.i2l, 1) := by decide +kernel
theorem dX2_mixedInto_6 : decode cX2_mixedInto 6 = .ok (.invokestatic 66, 3) := by decide +kernel
theorem dX2_mixedInto_9 : decode cX2_mixedInto 9 = .ok (.lstore 4, 2) := by decide +kernel
theorem dX2_mixedInto_11 : decode cX2_mixedInto 11 = .ok (.lload 4, 2) := by decide +kernel
theorem dX2_mixedInto_13 : decode cX2_mixedInto 13 = .ok (.aload_n 0, 1) := by decide +kernel
theorem dX2_mixedInto_14 : decode cX2_mixedInto 14 = .ok (.getfield 21, 3) := by decide +kernel
theorem dX2_mixedInto_17 : decode cX2_mixedInto 17 = .ok (.i2l, 1) := by decide +kernel
theorem dX2_mixedInto_18 : decode cX2_mixedInto 18 = .ok (.invokestatic 66, 3) := by decide +kernel
theorem dX2_mixedInto_21 : decode cX2_mixedInto 21 = .ok (.lstore 4, 2) := by decide +kernel
theorem dX2_mixedInto_23 : decode cX2_mixedInto 23 = .ok (.iconst 0, 1) := by decide +kernel
theorem dX2_mixedInto_24 : decode cX2_mixedInto 24 = .ok (.istore 6, 2) := by decide +kernel
theorem dX2_mixedInto_26 : decode cX2_mixedInto 26 = .ok (.iload 6, 2) := by decide +kernel
theorem dX2_mixedInto_28 : decode cX2_mixedInto 28 = .ok (.aload_n 0, 1) := by decide +kernel
theorem dX2_mixedInto_29 : decode cX2_mixedInto 29 = .ok (.getfield 21, 3) := by decide +kernel
theorem dX2_mixedInto_32 : decode cX2_mixedInto 32 = .ok (.if_icmp .ge 61, 3) := by decide +kernel
theorem dX2_mixedInto_35 : decode cX2_mixedInto 35 = .ok (.lload 4, 2) := by decide +kernel
theorem dX2_mixedInto_37 : decode cX2_mixedInto 37 = .ok (.aload_n 0, 1) := by decide +kernel
theorem dX2_mixedInto_38 : decode cX2_mixedInto 38 = .ok (.getfield 9, 3) := by decide +kernel
theorem dX2_mixedInto_41 : decode cX2_mixedInto 41 = .ok (.iload 6, 2) := by decide +kernel
theorem dX2_mixedInto_43 : decode cX2_mixedInto 43 = .ok (.iaload, 1) := by decide +kernel
theorem dX2_mixedInto_44 : decode cX2_mixedInto 44 = .ok (.i2l, 1) := by decide +kernel
theorem dX2_mixedInto_45 : decode cX2_mixedInto 45 = .ok (.invokestatic 66, 3) := by decide +kernel
theorem dX2_mixedInto_48 : decode cX2_mixedInto 48 = .ok (.lstore 4, 2) := by decide +kernel
theorem dX2_mixedInto_50 : decode cX2_mixedInto 50 = .ok (.lload 4, 2) := by decide +kernel
theorem dX2_mixedInto_52 : decode cX2_mixedInto 52 = .ok (.aload_n 0, 1) := by decide +kernel
theorem dX2_mixedInto_53 : decode cX2_mixedInto 53 = .ok (.getfield 15, 3) := by decide +kernel
theorem dX2_mixedInto_56 : decode cX2_mixedInto 56 = .ok (.iload 6, 2) := by decide +kernel
theorem dX2_mixedInto_58 : decode cX2_mixedInto 58 = .ok (.iaload, 1) := by decide +kernel
theorem dX2_mixedInto_59 : decode cX2_mixedInto 59 = .ok (.i2l, 1) := by decide +kernel
theorem dX2_mixedInto_60 : decode cX2_mixedInto 60 = .ok (.invokestatic 66, 3) := by decide +kernel
theorem dX2_mixedInto_63 : decode cX2_mixedInto 63 = .ok (.lstore 4, 2) := by decide +kernel
theorem dX2_mixedInto_65 : decode cX2_mixedInto 65 = .ok (.lload 4, 2) := by decide +kernel
theorem dX2_mixedInto_67 : decode cX2_mixedInto 67 = .ok (.aload_n 3, 1) := by decide +kernel
theorem dX2_mixedInto_68 : decode cX2_mixedInto 68 = .ok (.aload_n 0, 1) := by decide +kernel
theorem dX2_mixedInto_69 : decode cX2_mixedInto 69 = .ok (.getfield 18, 3) := by decide +kernel
theorem dX2_mixedInto_72 : decode cX2_mixedInto 72 = .ok (.iload 6, 2) := by decide +kernel
theorem dX2_mixedInto_74 : decode cX2_mixedInto 74 = .ok (.iaload, 1) := by decide +kernel
theorem dX2_mixedInto_75 : decode cX2_mixedInto 75 = .ok (.invokevirtual 32, 3) := by decide +kernel
theorem dX2_mixedInto_78 : decode cX2_mixedInto 78 = .ok (.invokestatic 70, 3) := by decide +kernel
theorem dX2_mixedInto_81 : decode cX2_mixedInto 81 = .ok (.i2l, 1) := by decide +kernel
theorem dX2_mixedInto_82 : decode cX2_mixedInto 82 = .ok (.invokestatic 66, 3) := by decide +kernel
theorem dX2_mixedInto_85 : decode cX2_mixedInto 85 = .ok (.lstore 4, 2) := by decide +kernel
theorem dX2_mixedInto_87 : decode cX2_mixedInto 87 = .ok (.iinc 6 1, 3) := by decide +kernel
theorem dX2_mixedInto_90 : decode cX2_mixedInto 90 = .ok (.goto (-64), 3) := by decide +kernel
theorem dX2_mixedInto_93 : decode cX2_mixedInto 93 = .ok (.lload 4, 2) := by decide +kernel
theorem dX2_mixedInto_95 : decode cX2_mixedInto 95 = .ok (.lreturn, 1) := by decide +kernel
theorem dX3_init_0 : decode cX3_init 0 = .ok (.aload_n 0, 1) := by decide +kernel
theorem dX3_init_1 : decode cX3_init 1 = .ok (.invokespecial 1, 3) := by decide +kernel
theorem dX3_init_4 : decode cX3_init 4 = .ok (.aload_n 0, 1) := by decide +kernel
theorem dX3_init_5 : decode cX3_init 5 = .ok (.aload_n 1, 1) := by decide +kernel
theorem dX3_init_6 : decode cX3_init 6 = .ok (.putfield 7, 3) := by decide +kernel
theorem dX3_init_9 : decode cX3_init 9 = .ok (.aload_n 0, 1) := by decide +kernel
theorem dX3_init_10 : decode cX3_init 10 = .ok (.iload_n 2, 1) := by decide +kernel
theorem dX3_init_11 : decode cX3_init 11 = .ok (.putfield 13, 3) := by decide +kernel
theorem dX3_init_14 : decode cX3_init 14 = .ok (.return_, 1) := by decide +kernel
theorem dX4_init_0 : decode cX4_init 0 = .ok (.aload_n 0, 1) := by decide +kernel
theorem dX4_init_1 : decode cX4_init 1 = .ok (.invokespecial 3, 3) := by decide +kernel
theorem dX4_init_4 : decode cX4_init 4 = .ok (.aload_n 0, 1) := by decide +kernel
theorem dX4_init_5 : decode cX4_init 5 = .ok (.bipush 120, 2) := by decide +kernel
theorem dX4_init_7 : decode cX4_init 7 = .ok (.newarray .int, 2) := by decide +kernel
theorem dX4_init_9 : decode cX4_init 9 = .ok (.putfield 9, 3) := by decide +kernel
theorem dX4_init_12 : decode cX4_init 12 = .ok (.aload_n 0, 1) := by decide +kernel
theorem dX4_init_13 : decode cX4_init 13 = .ok (.bipush 60, 2) := by decide +kernel
theorem dX4_init_15 : decode cX4_init 15 = .ok (.newarray .int, 2) := by decide +kernel
theorem dX4_init_17 : decode cX4_init 17 = .ok (.putfield 15, 3) := by decide +kernel
theorem dX4_init_20 : decode cX4_init 20 = .ok (.aload_n 0, 1) := by decide +kernel
theorem dX4_init_21 : decode cX4_init 21 = .ok (.sipush 180, 3) := by decide +kernel
theorem dX4_init_24 : decode cX4_init 24 = .ok (.newarray .int, 2) := by decide +kernel
theorem dX4_init_26 : decode cX4_init 26 = .ok (.putfield 18, 3) := by decide +kernel
theorem dX4_init_29 : decode cX4_init 29 = .ok (.return_, 1) := by decide +kernel
theorem dX4_addByte_0 : decode cX4_addByte 0 = .ok (.aload_n 0, 1) := by decide +kernel
theorem dX4_addByte_1 : decode cX4_addByte 1 = .ok (.getfield 21, 3) := by decide +kernel
theorem dX4_addByte_4 : decode cX4_addByte 4 = .ok (.bipush 120, 2) := by decide +kernel
theorem dX4_addByte_6 : decode cX4_addByte 6 = .ok (.if_icmp .lt 5, 3) := by decide +kernel
theorem dX4_addByte_9 : decode cX4_addByte 9 = .ok (.iconst 0, 1) := by decide +kernel
theorem dX4_addByte_10 : decode cX4_addByte 10 = .ok (.ireturn, 1) := by decide +kernel
theorem dX4_addByte_11 : decode cX4_addByte 11 = .ok (.aload_n 0, 1) := by decide +kernel
theorem dX4_addByte_12 : decode cX4_addByte 12 = .ok (.getfield 9, 3) := by decide +kernel
theorem dX4_addByte_15 : decode cX4_addByte 15 = .ok (.aload_n 0, 1) := by decide +kernel
theorem dX4_addByte_16 : decode cX4_addByte 16 = .ok (.getfield 21, 3) := by decide +kernel
theorem dX4_addByte_19 : decode cX4_addByte 19 = .ok (.iload_n 1, 1) := by decide +kernel
theorem dX4_addByte_20 : decode cX4_addByte 20 = .ok (.iastore, 1) := by decide +kernel
theorem dX4_addByte_21 : decode cX4_addByte 21 = .ok (.aload_n 0, 1) := by decide +kernel
theorem dX4_addByte_22 : decode cX4_addByte 22 = .ok (.dup, 1) := by decide +kernel
theorem dX4_addByte_23 : decode cX4_addByte 23 = .ok (.getfield 21, 3) := by decide +kernel
theorem dX4_addByte_26 : decode cX4_addByte 26 = .ok (.iconst 1, 1) := by decide +kernel
theorem dX4_addByte_27 : decode cX4_addByte 27 = .ok (.iadd, 1) := by decide +kernel
theorem dX4_addByte_28 : decode cX4_addByte 28 = .ok (.putfield 21, 3) := by decide +kernel
theorem dX4_addByte_31 : decode cX4_addByte 31 = .ok (.iconst 1, 1) := by decide +kernel
theorem dX4_addByte_32 : decode cX4_addByte 32 = .ok (.ireturn, 1) := by decide +kernel
theorem dX4_letter_0 : decode cX4_letter 0 = .ok (.iload_n 1, 1) := by decide +kernel
theorem dX4_letter_1 : decode cX4_letter 1 = .ok (.ifCond .lt 20, 3) := by decide +kernel
theorem dX4_letter_4 : decode cX4_letter 4 = .ok (.iload_n 1, 1) := by decide +kernel
theorem dX4_letter_5 : decode cX4_letter 5 = .ok (.aload_n 0, 1) := by decide +kernel
theorem dX4_letter_6 : decode cX4_letter 6 = .ok (.getfield 25, 3) := by decide +kernel
theorem dX4_letter_9 : decode cX4_letter 9 = .ok (.if_icmp .ge 12, 3) := by decide +kernel
theorem dX4_letter_12 : decode cX4_letter 12 = .ok (.aload_n 0, 1) := by decide +kernel
theorem dX4_letter_13 : decode cX4_letter 13 = .ok (.getfield 15, 3) := by decide +kernel
theorem dX4_letter_16 : decode cX4_letter 16 = .ok (.iload_n 1, 1) := by decide +kernel
theorem dX4_letter_17 : decode cX4_letter 17 = .ok (.iaload, 1) := by decide +kernel
theorem dX4_letter_18 : decode cX4_letter 18 = .ok (.goto 4, 3) := by decide +kernel
theorem dX4_letter_21 : decode cX4_letter 21 = .ok (.iconst (-1), 1) := by decide +kernel
theorem dX4_letter_22 : decode cX4_letter 22 = .ok (.ireturn, 1) := by decide +kernel
theorem dX4_argument_0 : decode cX4_argument 0 = .ok (.iload_n 1, 1) := by decide +kernel
theorem dX4_argument_1 : decode cX4_argument 1 = .ok (.ifCond .lt 24, 3) := by decide +kernel
theorem dX4_argument_4 : decode cX4_argument 4 = .ok (.iload_n 1, 1) := by decide +kernel
theorem dX4_argument_5 : decode cX4_argument 5 = .ok (.aload_n 0, 1) := by decide +kernel
theorem dX4_argument_6 : decode cX4_argument 6 = .ok (.getfield 25, 3) := by decide +kernel
theorem dX4_argument_9 : decode cX4_argument 9 = .ok (.if_icmp .ge 16, 3) := by decide +kernel
theorem dX4_argument_12 : decode cX4_argument 12 = .ok (.iload_n 2, 1) := by decide +kernel
theorem dX4_argument_13 : decode cX4_argument 13 = .ok (.ifCond .lt 12, 3) := by decide +kernel
theorem dX4_argument_16 : decode cX4_argument 16 = .ok (.iload_n 2, 1) := by decide +kernel
theorem dX4_argument_17 : decode cX4_argument 17 = .ok (.iconst 3, 1) := by decide +kernel
theorem dX4_argument_18 : decode cX4_argument 18 = .ok (.if_icmp .ge 7, 3) := by decide +kernel
theorem dX4_argument_21 : decode cX4_argument 21 = .ok (.iconst 1, 1) := by decide +kernel
theorem dX4_argument_22 : decode cX4_argument 22 = .ok (.goto 4, 3) := by decide +kernel
theorem dX4_argument_25 : decode cX4_argument 25 = .ok (.iconst 0, 1) := by decide +kernel
theorem dX4_argument_26 : decode cX4_argument 26 = .ok (.istore_n 3, 1) := by decide +kernel
theorem dX4_argument_27 : decode cX4_argument 27 = .ok (.iload_n 3, 1) := by decide +kernel
theorem dX4_argument_28 : decode cX4_argument 28 = .ok (.ifCond .eq 16, 3) := by decide +kernel
theorem dX4_argument_31 : decode cX4_argument 31 = .ok (.aload_n 0, 1) := by decide +kernel
theorem dX4_argument_32 : decode cX4_argument 32 = .ok (.getfield 18, 3) := by decide +kernel
theorem dX4_argument_35 : decode cX4_argument 35 = .ok (.iload_n 1, 1) := by decide +kernel
theorem dX4_argument_36 : decode cX4_argument 36 = .ok (.iconst 3, 1) := by decide +kernel
theorem dX4_argument_37 : decode cX4_argument 37 = .ok (.imul, 1) := by decide +kernel
theorem dX4_argument_38 : decode cX4_argument 38 = .ok (.iload_n 2, 1) := by decide +kernel
theorem dX4_argument_39 : decode cX4_argument 39 = .ok (.iadd, 1) := by decide +kernel
theorem dX4_argument_40 : decode cX4_argument 40 = .ok (.iaload, 1) := by decide +kernel
theorem dX4_argument_41 : decode cX4_argument 41 = .ok (.goto 4, 3) := by decide +kernel
theorem dX4_argument_44 : decode cX4_argument 44 = .ok (.iconst (-1), 1) := by decide +kernel
theorem dX4_argument_45 : decode cX4_argument 45 = .ok (.ireturn, 1) := by decide +kernel
theorem dX4_parse_0 : decode cX4_parse 0 = .ok (.aload_n 0, 1) := by decide +kernel
theorem dX4_parse_1 : decode cX4_parse 1 = .ok (.iconst 0, 1) := by decide +kernel
theorem dX4_parse_2 : decode cX4_parse 2 = .ok (.putfield 25, 3) := by decide +kernel
theorem dX4_parse_5 : decode cX4_parse 5 = .ok (.aload_n 0, 1) := by decide +kernel
theorem dX4_parse_6 : decode cX4_parse 6 = .ok (.iconst 0, 1) := by decide +kernel
theorem dX4_parse_7 : decode cX4_parse 7 = .ok (.putfield 28, 3) := by decide +kernel
theorem dX4_parse_10 : decode cX4_parse 10 = .ok (.aload_n 0, 1) := by decide +kernel
theorem dX4_parse_11 : decode cX4_parse 11 = .ok (.invokevirtual 31, 3) := by decide +kernel
theorem dX4_parse_14 : decode cX4_parse 14 = .ok (.aload_n 0, 1) := by decide +kernel
theorem dX4_parse_15 : decode cX4_parse 15 = .ok (.invokevirtual 34, 3) := by decide +kernel
theorem dX4_parse_18 : decode cX4_parse 18 = .ok (.istore_n 1, 1) := by decide +kernel
theorem dX4_parse_19 : decode cX4_parse 19 = .ok (.iconst 1, 1) := by decide +kernel
theorem dX4_parse_20 : decode cX4_parse 20 = .ok (.istore_n 2, 1) := by decide +kernel
theorem dX4_parse_21 : decode cX4_parse 21 = .ok (.iload_n 2, 1) := by decide +kernel
theorem dX4_parse_22 : decode cX4_parse 22 = .ok (.bipush 60, 2) := by decide +kernel
theorem dX4_parse_24 : decode cX4_parse 24 = .ok (.if_icmp .ge 29, 3) := by decide +kernel
theorem dX4_parse_27 : decode cX4_parse 27 = .ok (.iload_n 1, 1) := by decide +kernel
theorem dX4_parse_28 : decode cX4_parse 28 = .ok (.ifCond .eq 25, 3) := by decide +kernel
theorem dX4_parse_31 : decode cX4_parse 31 = .ok (.aload_n 0, 1) := by decide +kernel
theorem dX4_parse_32 : decode cX4_parse 32 = .ok (.getfield 28, 3) := by decide +kernel
theorem dX4_parse_35 : decode cX4_parse 35 = .ok (.aload_n 0, 1) := by decide +kernel
theorem dX4_parse_36 : decode cX4_parse 36 = .ok (.getfield 21, 3) := by decide +kernel
theorem dX4_parse_39 : decode cX4_parse 39 = .ok (.if_icmp .ge 14, 3) := by decide +kernel
theorem dX4_parse_42 : decode cX4_parse 42 = .ok (.aload_n 0, 1) := by decide +kernel
theorem dX4_parse_43 : decode cX4_parse 43 = .ok (.invokevirtual 34, 3) := by decide +kernel
theorem dX4_parse_46 : decode cX4_parse 46 = .ok (.istore_n 1, 1) := by decide +kernel
theorem dX4_parse_47 : decode cX4_parse 47 = .ok (.iinc 2 1, 3) := by decide +kernel
theorem dX4_parse_50 : decode cX4_parse 50 = .ok (.goto (-29), 3) := by decide +kernel
theorem dX4_parse_53 : decode cX4_parse 53 = .ok (.iload_n 1, 1) := by decide +kernel
theorem dX4_parse_54 : decode cX4_parse 54 = .ok (.ifCond .eq 7, 3) := by decide +kernel
theorem dX4_parse_57 : decode cX4_parse 57 = .ok (.iconst (-1), 1) := by decide +kernel
theorem dX4_parse_58 : decode cX4_parse 58 = .ok (.goto 7, 3) := by decide +kernel
theorem dX4_parse_61 : decode cX4_parse 61 = .ok (.aload_n 0, 1) := by decide +kernel
theorem dX4_parse_62 : decode cX4_parse 62 = .ok (.getfield 28, 3) := by decide +kernel
theorem dX4_parse_65 : decode cX4_parse 65 = .ok (.ireturn, 1) := by decide +kernel
theorem dX4_parseCommand_0 : decode cX4_parseCommand 0 = .ok (.aload_n 0, 1) := by decide +kernel
theorem dX4_parseCommand_1 : decode cX4_parseCommand 1 = .ok (.invokevirtual 38, 3) := by decide +kernel
theorem dX4_parseCommand_4 : decode cX4_parseCommand 4 = .ok (.istore_n 1, 1) := by decide +kernel
theorem dX4_parseCommand_5 : decode cX4_parseCommand 5 = .ok (.iload_n 1, 1) := by decide +kernel
theorem dX4_parseCommand_6 : decode cX4_parseCommand 6 = .ok (.invokestatic 42, 3) := by decide +kernel
theorem dX4_parseCommand_9 : decode cX4_parseCommand 9 = .ok (.istore_n 2, 1) := by decide +kernel
theorem dX4_parseCommand_10 : decode cX4_parseCommand 10 = .ok (.iload_n 2, 1) := by decide +kernel
theorem dX4_parseCommand_11 : decode cX4_parseCommand 11 = .ok (.iconst (-1), 1) := by decide +kernel
theorem dX4_parseCommand_12 : decode cX4_parseCommand 12 = .ok (.if_icmp .eq 12, 3) := by decide +kernel
theorem dX4_parseCommand_15 : decode cX4_parseCommand 15 = .ok (.aload_n 0, 1) := by decide +kernel
theorem dX4_parseCommand_16 : decode cX4_parseCommand 16 = .ok (.getfield 25, 3) := by decide +kernel
theorem dX4_parseCommand_19 : decode cX4_parseCommand 19 = .ok (.bipush 60, 2) := by decide +kernel
theorem dX4_parseCommand_21 : decode cX4_parseCommand 21 = .ok (.if_icmp .lt 5, 3) := by decide +kernel
theorem dX4_parseCommand_24 : decode cX4_parseCommand 24 = .ok (.iconst 0, 1) := by decide +kernel
theorem dX4_parseCommand_25 : decode cX4_parseCommand 25 = .ok (.ireturn, 1) := by decide +kernel
theorem dX4_parseCommand_26 : decode cX4_parseCommand 26 = .ok (.aload_n 0, 1) := by decide +kernel
theorem dX4_parseCommand_27 : decode cX4_parseCommand 27 = .ok (.dup, 1) := by decide +kernel
theorem dX4_parseCommand_28 : decode cX4_parseCommand 28 = .ok (.getfield 28, 3) := by decide +kernel
theorem dX4_parseCommand_31 : decode cX4_parseCommand 31 = .ok (.iconst 1, 1) := by decide +kernel
theorem dX4_parseCommand_32 : decode cX4_parseCommand 32 = .ok (.iadd, 1) := by decide +kernel
theorem dX4_parseCommand_33 : decode cX4_parseCommand 33 = .ok (.putfield 28, 3) := by decide +kernel
theorem dX4_parseCommand_36 : decode cX4_parseCommand 36 = .ok (.aload_n 0, 1) := by decide +kernel
theorem dX4_parseCommand_37 : decode cX4_parseCommand 37 = .ok (.invokevirtual 31, 3) := by decide +kernel
theorem dX4_parseCommand_40 : decode cX4_parseCommand 40 = .ok (.iconst 0, 1) := by decide +kernel
theorem dX4_parseCommand_41 : decode cX4_parseCommand 41 = .ok (.istore_n 3, 1) := by decide +kernel
theorem dX4_parseCommand_42 : decode cX4_parseCommand 42 = .ok (.iload_n 3, 1) := by decide +kernel
theorem dX4_parseCommand_43 : decode cX4_parseCommand 43 = .ok (.iload_n 2, 1) := by decide +kernel
theorem dX4_parseCommand_44 : decode cX4_parseCommand 44 = .ok (.if_icmp .ge 26, 3) := by decide +kernel
theorem dX4_parseCommand_47 : decode cX4_parseCommand 47 = .ok (.aload_n 0, 1) := by decide +kernel
theorem dX4_parseCommand_48 : decode cX4_parseCommand 48 = .ok (.aload_n 0, 1) := by decide +kernel
theorem dX4_parseCommand_49 : decode cX4_parseCommand 49 = .ok (.getfield 25, 3) := by decide +kernel
theorem dX4_parseCommand_52 : decode cX4_parseCommand 52 = .ok (.iconst 3, 1) := by decide +kernel
theorem dX4_parseCommand_53 : decode cX4_parseCommand 53 = .ok (.imul, 1) := by decide +kernel
theorem dX4_parseCommand_54 : decode cX4_parseCommand 54 = .ok (.iload_n 3, 1) := by decide +kernel
theorem dX4_parseCommand_55 : decode cX4_parseCommand 55 = .ok (.iadd, 1) := by decide +kernel
theorem dX4_parseCommand_56 : decode cX4_parseCommand 56 = .ok (.invokevirtual 46, 3) := by decide +kernel
theorem dX4_parseCommand_59 : decode cX4_parseCommand 59 = .ok (.ifCond .ne 5, 3) := by decide +kernel
theorem dX4_parseCommand_62 : decode cX4_parseCommand 62 = .ok (.iconst 0, 1) := by decide +kernel
theorem dX4_parseCommand_63 : decode cX4_parseCommand 63 = .ok (.ireturn, 1) := by decide +kernel
theorem dX4_parseCommand_64 : decode cX4_parseCommand 64 = .ok (.iinc 3 1, 3) := by decide +kernel
theorem dX4_parseCommand_67 : decode cX4_parseCommand 67 = .ok (.goto (-25), 3) := by decide +kernel
theorem dX4_parseCommand_70 : decode cX4_parseCommand 70 = .ok (.aload_n 0, 1) := by decide +kernel
theorem dX4_parseCommand_71 : decode cX4_parseCommand 71 = .ok (.invokevirtual 38, 3) := by decide +kernel
theorem dX4_parseCommand_74 : decode cX4_parseCommand 74 = .ok (.bipush 59, 2) := by decide +kernel
theorem dX4_parseCommand_76 : decode cX4_parseCommand 76 = .ok (.if_icmp .eq 5, 3) := by decide +kernel
theorem dX4_parseCommand_79 : decode cX4_parseCommand 79 = .ok (.iconst 0, 1) := by decide +kernel
theorem dX4_parseCommand_80 : decode cX4_parseCommand 80 = .ok (.ireturn, 1) := by decide +kernel
theorem dX4_parseCommand_81 : decode cX4_parseCommand 81 = .ok (.aload_n 0, 1) := by decide +kernel
theorem dX4_parseCommand_82 : decode cX4_parseCommand 82 = .ok (.dup, 1) := by decide +kernel
theorem dX4_parseCommand_83 : decode cX4_parseCommand 83 = .ok (.getfield 28, 3) := by decide +kernel
theorem dX4_parseCommand_86 : decode cX4_parseCommand 86 = .ok (.iconst 1, 1) := by decide +kernel
theorem dX4_parseCommand_87 : decode cX4_parseCommand 87 = .ok (.iadd, 1) := by decide +kernel
theorem dX4_parseCommand_88 : decode cX4_parseCommand 88 = .ok (.putfield 28, 3) := by decide +kernel
theorem dX4_parseCommand_91 : decode cX4_parseCommand 91 = .ok (.aload_n 0, 1) := by decide +kernel
theorem dX4_parseCommand_92 : decode cX4_parseCommand 92 = .ok (.invokevirtual 31, 3) := by decide +kernel
theorem dX4_parseCommand_95 : decode cX4_parseCommand 95 = .ok (.aload_n 0, 1) := by decide +kernel
theorem dX4_parseCommand_96 : decode cX4_parseCommand 96 = .ok (.getfield 15, 3) := by decide +kernel
theorem dX4_parseCommand_99 : decode cX4_parseCommand 99 = .ok (.aload_n 0, 1) := by decide +kernel
theorem dX4_parseCommand_100 : decode cX4_parseCommand 100 = .ok (.getfield 25, 3) := by decide +kernel
theorem dX4_parseCommand_103 : decode cX4_parseCommand 103 = .ok (.iload_n 1, 1) := by decide +kernel
theorem dX4_parseCommand_104 : decode cX4_parseCommand 104 = .ok (.iastore, 1) := by decide +kernel
theorem dX4_parseCommand_105 : decode cX4_parseCommand 105 = .ok (.aload_n 0, 1) := by decide +kernel
theorem dX4_parseCommand_106 : decode cX4_parseCommand 106 = .ok (.dup, 1) := by decide +kernel
theorem dX4_parseCommand_107 : decode cX4_parseCommand 107 = .ok (.getfield 25, 3) := by decide +kernel
theorem dX4_parseCommand_110 : decode cX4_parseCommand 110 = .ok (.iconst 1, 1) := by decide +kernel
theorem dX4_parseCommand_111 : decode cX4_parseCommand 111 = .ok (.iadd, 1) := by decide +kernel
theorem dX4_parseCommand_112 : decode cX4_parseCommand 112 = .ok (.putfield 25, 3) := by decide +kernel
theorem dX4_parseCommand_115 : decode cX4_parseCommand 115 = .ok (.iconst 1, 1) := by decide +kernel
theorem dX4_parseCommand_116 : decode cX4_parseCommand 116 = .ok (.ireturn, 1) := by decide +kernel
theorem dX4_parseArgument_0 : decode cX4_parseArgument 0 = .ok (.aload_n 0, 1) := by decide +kernel
theorem dX4_parseArgument_1 : decode cX4_parseArgument 1 = .ok (.invokevirtual 50, 3) := by decide +kernel
theorem dX4_parseArgument_4 : decode cX4_parseArgument 4 = .ok (.ifCond .ne 5, 3) := by decide +kernel
theorem dX4_parseArgument_7 : decode cX4_parseArgument 7 = .ok (.iconst 0, 1) := by decide +kernel
theorem dX4_parseArgument_8 : decode cX4_parseArgument 8 = .ok (.ireturn, 1) := by decide +kernel
theorem dX4_parseArgument_9 : decode cX4_parseArgument 9 = .ok (.aload_n 0, 1) := by decide +kernel
theorem dX4_parseArgument_10 : decode cX4_parseArgument 10 = .ok (.invokevirtual 38, 3) := by decide +kernel
theorem dX4_parseArgument_13 : decode cX4_parseArgument 13 = .ok (.bipush 48, 2) := by decide +kernel
theorem dX4_parseArgument_15 : decode cX4_parseArgument 15 = .ok (.isub, 1) := by decide +kernel
theorem dX4_parseArgument_16 : decode cX4_parseArgument 16 = .ok (.istore_n 2, 1) := by decide +kernel
theorem dX4_parseArgument_17 : decode cX4_parseArgument 17 = .ok (.aload_n 0, 1) := by decide +kernel
theorem dX4_parseArgument_18 : decode cX4_parseArgument 18 = .ok (.dup, 1) := by decide +kernel
theorem dX4_parseArgument_19 : decode cX4_parseArgument 19 = .ok (.getfield 28, 3) := by decide +kernel
theorem dX4_parseArgument_22 : decode cX4_parseArgument 22 = .ok (.iconst 1, 1) := by decide +kernel
theorem dX4_parseArgument_23 : decode cX4_parseArgument 23 = .ok (.iadd, 1) := by decide +kernel
theorem dX4_parseArgument_24 : decode cX4_parseArgument 24 = .ok (.putfield 28, 3) := by decide +kernel
theorem dX4_parseArgument_27 : decode cX4_parseArgument 27 = .ok (.aload_n 0, 1) := by decide +kernel
theorem dX4_parseArgument_28 : decode cX4_parseArgument 28 = .ok (.invokevirtual 50, 3) := by decide +kernel
theorem dX4_parseArgument_31 : decode cX4_parseArgument 31 = .ok (.ifCond .eq 26, 3) := by decide +kernel
theorem dX4_parseArgument_34 : decode cX4_parseArgument 34 = .ok (.bipush 10, 2) := by decide +kernel
theorem dX4_parseArgument_36 : decode cX4_parseArgument 36 = .ok (.iload_n 2, 1) := by decide +kernel
theorem dX4_parseArgument_37 : decode cX4_parseArgument 37 = .ok (.imul, 1) := by decide +kernel
theorem dX4_parseArgument_38 : decode cX4_parseArgument 38 = .ok (.aload_n 0, 1) := by decide +kernel
theorem dX4_parseArgument_39 : decode cX4_parseArgument 39 = .ok (.invokevirtual 38, 3) := by decide +kernel
theorem dX4_parseArgument_42 : decode cX4_parseArgument 42 = .ok (.iadd, 1) := by decide +kernel
theorem dX4_parseArgument_43 : decode cX4_parseArgument 43 = .ok (.bipush 48, 2) := by decide +kernel
theorem dX4_parseArgument_45 : decode cX4_parseArgument 45 = .ok (.isub, 1) := by decide +kernel
theorem dX4_parseArgument_46 : decode cX4_parseArgument 46 = .ok (.istore_n 2, 1) := by decide +kernel
theorem dX4_parseArgument_47 : decode cX4_parseArgument 47 = .ok (.aload_n 0, 1) := by decide +kernel
theorem dX4_parseArgument_48 : decode cX4_parseArgument 48 = .ok (.dup, 1) := by decide +kernel
theorem dX4_parseArgument_49 : decode cX4_parseArgument 49 = .ok (.getfield 28, 3) := by decide +kernel
theorem dX4_parseArgument_52 : decode cX4_parseArgument 52 = .ok (.iconst 1, 1) := by decide +kernel
theorem dX4_parseArgument_53 : decode cX4_parseArgument 53 = .ok (.iadd, 1) := by decide +kernel
theorem dX4_parseArgument_54 : decode cX4_parseArgument 54 = .ok (.putfield 28, 3) := by decide +kernel
theorem dX4_parseArgument_57 : decode cX4_parseArgument 57 = .ok (.aload_n 0, 1) := by decide +kernel
theorem dX4_parseArgument_58 : decode cX4_parseArgument 58 = .ok (.invokevirtual 50, 3) := by decide +kernel
theorem dX4_parseArgument_61 : decode cX4_parseArgument 61 = .ok (.ifCond .eq 5, 3) := by decide +kernel
theorem dX4_parseArgument_64 : decode cX4_parseArgument 64 = .ok (.iconst 0, 1) := by decide +kernel
theorem dX4_parseArgument_65 : decode cX4_parseArgument 65 = .ok (.ireturn, 1) := by decide +kernel
theorem dX4_parseArgument_66 : decode cX4_parseArgument 66 = .ok (.aload_n 0, 1) := by decide +kernel
theorem dX4_parseArgument_67 : decode cX4_parseArgument 67 = .ok (.invokevirtual 31, 3) := by decide +kernel
theorem dX4_parseArgument_70 : decode cX4_parseArgument 70 = .ok (.aload_n 0, 1) := by decide +kernel
theorem dX4_parseArgument_71 : decode cX4_parseArgument 71 = .ok (.getfield 18, 3) := by decide +kernel
theorem dX4_parseArgument_74 : decode cX4_parseArgument 74 = .ok (.iload_n 1, 1) := by decide +kernel
theorem dX4_parseArgument_75 : decode cX4_parseArgument 75 = .ok (.iload_n 2, 1) := by decide +kernel
theorem dX4_parseArgument_76 : decode cX4_parseArgument 76 = .ok (.iastore, 1) := by decide +kernel
theorem dX4_parseArgument_77 : decode cX4_parseArgument 77 = .ok (.iconst 1, 1) := by decide +kernel
theorem dX4_parseArgument_78 : decode cX4_parseArgument 78 = .ok (.ireturn, 1) := by decide +kernel
theorem dX4_skipSpaces_0 : decode cX4_skipSpaces 0 = .ok (.aload_n 0, 1) := by decide +kernel
theorem dX4_skipSpaces_1 : decode cX4_skipSpaces 1 = .ok (.getfield 28, 3) := by decide +kernel
theorem dX4_skipSpaces_4 : decode cX4_skipSpaces 4 = .ok (.aload_n 0, 1) := by decide +kernel
theorem dX4_skipSpaces_5 : decode cX4_skipSpaces 5 = .ok (.getfield 21, 3) := by decide +kernel
theorem dX4_skipSpaces_8 : decode cX4_skipSpaces 8 = .ok (.if_icmp .ge 30, 3) := by decide +kernel
theorem dX4_skipSpaces_11 : decode cX4_skipSpaces 11 = .ok (.aload_n 0, 1) := by decide +kernel
theorem dX4_skipSpaces_12 : decode cX4_skipSpaces 12 = .ok (.getfield 9, 3) := by decide +kernel
theorem dX4_skipSpaces_15 : decode cX4_skipSpaces 15 = .ok (.aload_n 0, 1) := by decide +kernel
theorem dX4_skipSpaces_16 : decode cX4_skipSpaces 16 = .ok (.getfield 28, 3) := by decide +kernel
theorem dX4_skipSpaces_19 : decode cX4_skipSpaces 19 = .ok (.iaload, 1) := by decide +kernel
theorem dX4_skipSpaces_20 : decode cX4_skipSpaces 20 = .ok (.bipush 32, 2) := by decide +kernel
theorem dX4_skipSpaces_22 : decode cX4_skipSpaces 22 = .ok (.if_icmp .ne 16, 3) := by decide +kernel
theorem dX4_skipSpaces_25 : decode cX4_skipSpaces 25 = .ok (.aload_n 0, 1) := by decide +kernel
theorem dX4_skipSpaces_26 : decode cX4_skipSpaces 26 = .ok (.dup, 1) := by decide +kernel
theorem dX4_skipSpaces_27 : decode cX4_skipSpaces 27 = .ok (.getfield 28, 3) := by decide +kernel
theorem dX4_skipSpaces_30 : decode cX4_skipSpaces 30 = .ok (.iconst 1, 1) := by decide +kernel
theorem dX4_skipSpaces_31 : decode cX4_skipSpaces 31 = .ok (.iadd, 1) := by decide +kernel
theorem dX4_skipSpaces_32 : decode cX4_skipSpaces 32 = .ok (.putfield 28, 3) := by decide +kernel
theorem dX4_skipSpaces_35 : decode cX4_skipSpaces 35 = .ok (.goto (-35), 3) := by decide +kernel
theorem dX4_skipSpaces_38 : decode cX4_skipSpaces 38 = .ok (.return_, 1) := by decide +kernel
theorem dX4_byteHere_0 : decode cX4_byteHere 0 = .ok (.aload_n 0, 1) := by decide +kernel
theorem dX4_byteHere_1 : decode cX4_byteHere 1 = .ok (.getfield 28, 3) := by decide +kernel
theorem dX4_byteHere_4 : decode cX4_byteHere 4 = .ok (.aload_n 0, 1) := by decide +kernel
theorem dX4_byteHere_5 : decode cX4_byteHere 5 = .ok (.getfield 21, 3) := by decide +kernel
theorem dX4_byteHere_8 : decode cX4_byteHere 8 = .ok (.if_icmp .ge 15, 3) := by decide +kernel
theorem dX4_byteHere_11 : decode cX4_byteHere 11 = .ok (.aload_n 0, 1) := by decide +kernel
theorem dX4_byteHere_12 : decode cX4_byteHere 12 = .ok (.getfield 9, 3) := by decide +kernel
theorem dX4_byteHere_15 : decode cX4_byteHere 15 = .ok (.aload_n 0, 1) := by decide +kernel
theorem dX4_byteHere_16 : decode cX4_byteHere 16 = .ok (.getfield 28, 3) := by decide +kernel
theorem dX4_byteHere_19 : decode cX4_byteHere 19 = .ok (.iaload, 1) := by decide +kernel
theorem dX4_byteHere_20 : decode cX4_byteHere 20 = .ok (.goto 4, 3) := by decide +kernel
theorem dX4_byteHere_23 : decode cX4_byteHere 23 = .ok (.iconst (-1), 1) := by decide +kernel
theorem dX4_byteHere_24 : decode cX4_byteHere 24 = .ok (.ireturn, 1) := by decide +kernel
theorem dX4_isDigitHere_0 : decode cX4_isDigitHere 0 = .ok (.aload_n 0, 1) := by decide +kernel
theorem dX4_isDigitHere_1 : decode cX4_isDigitHere 1 = .ok (.invokevirtual 38, 3) := by decide +kernel
theorem dX4_isDigitHere_4 : decode cX4_isDigitHere 4 = .ok (.istore_n 1, 1) := by decide +kernel
theorem dX4_isDigitHere_5 : decode cX4_isDigitHere 5 = .ok (.iload_n 1, 1) := by decide +kernel
theorem dX4_isDigitHere_6 : decode cX4_isDigitHere 6 = .ok (.bipush 48, 2) := by decide +kernel
theorem dX4_isDigitHere_8 : decode cX4_isDigitHere 8 = .ok (.if_icmp .lt 13, 3) := by decide +kernel
theorem dX4_isDigitHere_11 : decode cX4_isDigitHere 11 = .ok (.iload_n 1, 1) := by decide +kernel
theorem dX4_isDigitHere_12 : decode cX4_isDigitHere 12 = .ok (.bipush 57, 2) := by decide +kernel
theorem dX4_isDigitHere_14 : decode cX4_isDigitHere 14 = .ok (.if_icmp .gt 7, 3) := by decide +kernel
theorem dX4_isDigitHere_17 : decode cX4_isDigitHere 17 = .ok (.iconst 1, 1) := by decide +kernel
theorem dX4_isDigitHere_18 : decode cX4_isDigitHere 18 = .ok (.goto 4, 3) := by decide +kernel
theorem dX4_isDigitHere_21 : decode cX4_isDigitHere 21 = .ok (.iconst 0, 1) := by decide +kernel
theorem dX4_isDigitHere_22 : decode cX4_isDigitHere 22 = .ok (.ireturn, 1) := by decide +kernel
theorem dX4_argumentsOf_0 : decode cX4_argumentsOf 0 = .ok (.iload_n 0, 1) := by decide +kernel
theorem dX4_argumentsOf_1 : decode cX4_argumentsOf 1 = .ok (.tableswitch 115 97 119 #[109, 115, 115, 115, 107, 109, 115, 115, 115, 115, 115, 107, 113, 115, 115, 113, 115, 111, 113, 115, 115, 115, 113], 107) := by decide +kernel
theorem dX4_argumentsOf_108 : decode cX4_argumentsOf 108 = .ok (.iconst 0, 1) := by decide +kernel
theorem dX4_argumentsOf_109 : decode cX4_argumentsOf 109 = .ok (.ireturn, 1) := by decide +kernel
theorem dX4_argumentsOf_110 : decode cX4_argumentsOf 110 = .ok (.iconst 1, 1) := by decide +kernel
theorem dX4_argumentsOf_111 : decode cX4_argumentsOf 111 = .ok (.ireturn, 1) := by decide +kernel
theorem dX4_argumentsOf_112 : decode cX4_argumentsOf 112 = .ok (.iconst 2, 1) := by decide +kernel
theorem dX4_argumentsOf_113 : decode cX4_argumentsOf 113 = .ok (.ireturn, 1) := by decide +kernel
theorem dX4_argumentsOf_114 : decode cX4_argumentsOf 114 = .ok (.iconst 3, 1) := by decide +kernel
theorem dX4_argumentsOf_115 : decode cX4_argumentsOf 115 = .ok (.ireturn, 1) := by decide +kernel
theorem dX4_argumentsOf_116 : decode cX4_argumentsOf 116 = .ok (.iconst (-1), 1) := by decide +kernel
theorem dX4_argumentsOf_117 : decode cX4_argumentsOf 117 = .ok (.ireturn, 1) := by decide +kernel
theorem dX5_init_0 : decode cX5_init 0 = .ok (.aload_n 0, 1) := by decide +kernel
theorem dX5_init_1 : decode cX5_init 1 = .ok (.invokespecial 3, 3) := by decide +kernel
theorem dX5_init_4 : decode cX5_init 4 = .ok (.aload_n 0, 1) := by decide +kernel
theorem dX5_init_5 : decode cX5_init 5 = .ok (.bipush 10, 2) := by decide +kernel
theorem dX5_init_7 : decode cX5_init 7 = .ok (.anewarray 9, 3) := by decide +kernel
theorem dX5_init_10 : decode cX5_init 10 = .ok (.putfield 11, 3) := by decide +kernel
theorem dX5_init_13 : decode cX5_init 13 = .ok (.aload_n 0, 1) := by decide +kernel
theorem dX5_init_14 : decode cX5_init 14 = .ok (.bipush 60, 2) := by decide +kernel
theorem dX5_init_16 : decode cX5_init 16 = .ok (.anewarray 15, 3) := by decide +kernel
theorem dX5_init_19 : decode cX5_init 19 = .ok (.putfield 17, 3) := by decide +kernel
theorem dX5_init_22 : decode cX5_init 22 = .ok (.aload_n 0, 1) := by decide +kernel
theorem dX5_init_23 : decode cX5_init 23 = .ok (.new 21, 3) := by decide +kernel
theorem dX5_init_26 : decode cX5_init 26 = .ok (.dup, 1) := by decide +kernel
theorem dX5_init_27 : decode cX5_init 27 = .ok (.invokespecial 23, 3) := by decide +kernel
theorem dX5_init_30 : decode cX5_init 30 = .ok (.putfield 24, 3) := by decide +kernel
theorem dX5_init_33 : decode cX5_init 33 = .ok (.aload_n 0, 1) := by decide +kernel
theorem dX5_init_34 : decode cX5_init 34 = .ok (.new 28, 3) := by decide +kernel
theorem dX5_init_37 : decode cX5_init 37 = .ok (.dup, 1) := by decide +kernel
theorem dX5_init_38 : decode cX5_init 38 = .ok (.invokespecial 30, 3) := by decide +kernel
theorem dX5_init_41 : decode cX5_init 41 = .ok (.putfield 31, 3) := by decide +kernel
theorem dX5_init_44 : decode cX5_init 44 = .ok (.aload_n 0, 1) := by decide +kernel
theorem dX5_init_45 : decode cX5_init 45 = .ok (.iconst 3, 1) := by decide +kernel
theorem dX5_init_46 : decode cX5_init 46 = .ok (.newarray .int, 2) := by decide +kernel
theorem dX5_init_48 : decode cX5_init 48 = .ok (.putfield 35, 3) := by decide +kernel
theorem dX5_init_51 : decode cX5_init 51 = .ok (.aload_n 0, 1) := by decide +kernel
theorem dX5_init_52 : decode cX5_init 52 = .ok (.iconst 0, 1) := by decide +kernel
theorem dX5_init_53 : decode cX5_init 53 = .ok (.putfield 39, 3) := by decide +kernel
theorem dX5_init_56 : decode cX5_init 56 = .ok (.aload_n 0, 1) := by decide +kernel
theorem dX5_init_57 : decode cX5_init 57 = .ok (.iconst (-1), 1) := by decide +kernel
theorem dX5_init_58 : decode cX5_init 58 = .ok (.putfield 43, 3) := by decide +kernel
theorem dX5_init_61 : decode cX5_init 61 = .ok (.return_, 1) := by decide +kernel
theorem dX5_allocate_0 : decode cX5_allocate 0 = .ok (.aload_n 0, 1) := by decide +kernel
theorem dX5_allocate_1 : decode cX5_allocate 1 = .ok (.aload_n 0, 1) := by decide +kernel
theorem dX5_allocate_2 : decode cX5_allocate 2 = .ok (.iload_n 1, 1) := by decide +kernel
theorem dX5_allocate_3 : decode cX5_allocate 3 = .ok (.invokevirtual 46, 3) := by decide +kernel
theorem dX5_allocate_6 : decode cX5_allocate 6 = .ok (.invokevirtual 50, 3) := by decide +kernel
theorem dX5_allocate_9 : decode cX5_allocate 9 = .ok (.ireturn, 1) := by decide +kernel
theorem dX5_read_0 : decode cX5_read 0 = .ok (.aload_n 0, 1) := by decide +kernel
theorem dX5_read_1 : decode cX5_read 1 = .ok (.aload_n 0, 1) := by decide +kernel
theorem dX5_read_2 : decode cX5_read 2 = .ok (.iload_n 1, 1) := by decide +kernel
theorem dX5_read_3 : decode cX5_read 3 = .ok (.iload_n 2, 1) := by decide +kernel
theorem dX5_read_4 : decode cX5_read 4 = .ok (.invokevirtual 53, 3) := by decide +kernel
theorem dX5_read_7 : decode cX5_read 7 = .ok (.invokevirtual 50, 3) := by decide +kernel
theorem dX5_read_10 : decode cX5_read 10 = .ok (.ireturn, 1) := by decide +kernel
theorem dX5_write_0 : decode cX5_write 0 = .ok (.aload_n 0, 1) := by decide +kernel
theorem dX5_write_1 : decode cX5_write 1 = .ok (.aload_n 0, 1) := by decide +kernel
theorem dX5_write_2 : decode cX5_write 2 = .ok (.iload_n 1, 1) := by decide +kernel
theorem dX5_write_3 : decode cX5_write 3 = .ok (.iload_n 2, 1) := by decide +kernel
theorem dX5_write_4 : decode cX5_write 4 = .ok (.iload_n 3, 1) := by decide +kernel
theorem dX5_write_5 : decode cX5_write 5 = .ok (.invokevirtual 57, 3) := by decide +kernel
theorem dX5_write_8 : decode cX5_write 8 = .ok (.invokevirtual 50, 3) := by decide +kernel
theorem dX5_write_11 : decode cX5_write 11 = .ok (.ireturn, 1) := by decide +kernel
theorem dX5_reborrow_0 : decode cX5_reborrow 0 = .ok (.aload_n 0, 1) := by decide +kernel
theorem dX5_reborrow_1 : decode cX5_reborrow 1 = .ok (.aload_n 0, 1) := by decide +kernel
theorem dX5_reborrow_2 : decode cX5_reborrow 2 = .ok (.iload_n 1, 1) := by decide +kernel
theorem dX5_reborrow_3 : decode cX5_reborrow 3 = .ok (.iload_n 2, 1) := by decide +kernel
theorem dX5_reborrow_4 : decode cX5_reborrow 4 = .ok (.iload_n 3, 1) := by decide +kernel
theorem dX5_reborrow_5 : decode cX5_reborrow 5 = .ok (.iload 4, 2) := by decide +kernel
theorem dX5_reborrow_7 : decode cX5_reborrow 7 = .ok (.iload 5, 2) := by decide +kernel
theorem dX5_reborrow_9 : decode cX5_reborrow 9 = .ok (.invokevirtual 61, 3) := by decide +kernel
theorem dX5_reborrow_12 : decode cX5_reborrow 12 = .ok (.invokevirtual 50, 3) := by decide +kernel
theorem dX5_reborrow_15 : decode cX5_reborrow 15 = .ok (.ireturn, 1) := by decide +kernel
theorem dX5_free_0 : decode cX5_free 0 = .ok (.aload_n 0, 1) := by decide +kernel
theorem dX5_free_1 : decode cX5_free 1 = .ok (.aload_n 0, 1) := by decide +kernel
theorem dX5_free_2 : decode cX5_free 2 = .ok (.iload_n 1, 1) := by decide +kernel
theorem dX5_free_3 : decode cX5_free 3 = .ok (.invokevirtual 65, 3) := by decide +kernel
theorem dX5_free_6 : decode cX5_free 6 = .ok (.invokevirtual 50, 3) := by decide +kernel
theorem dX5_free_9 : decode cX5_free 9 = .ok (.ireturn, 1) := by decide +kernel
theorem dX5_enterCall_0 : decode cX5_enterCall 0 = .ok (.aload_n 0, 1) := by decide +kernel
theorem dX5_enterCall_1 : decode cX5_enterCall 1 = .ok (.aload_n 0, 1) := by decide +kernel
theorem dX5_enterCall_2 : decode cX5_enterCall 2 = .ok (.invokevirtual 68, 3) := by decide +kernel
theorem dX5_enterCall_5 : decode cX5_enterCall 5 = .ok (.invokevirtual 50, 3) := by decide +kernel
theorem dX5_enterCall_8 : decode cX5_enterCall 8 = .ok (.ireturn, 1) := by decide +kernel
theorem dX5_leaveCall_0 : decode cX5_leaveCall 0 = .ok (.aload_n 0, 1) := by decide +kernel
theorem dX5_leaveCall_1 : decode cX5_leaveCall 1 = .ok (.aload_n 0, 1) := by decide +kernel
theorem dX5_leaveCall_2 : decode cX5_leaveCall 2 = .ok (.invokevirtual 72, 3) := by decide +kernel
theorem dX5_leaveCall_5 : decode cX5_leaveCall 5 = .ok (.invokevirtual 50, 3) := by decide +kernel
theorem dX5_leaveCall_8 : decode cX5_leaveCall 8 = .ok (.ireturn, 1) := by decide +kernel
theorem dX5_checkRead_0 : decode cX5_checkRead 0 = .ok (.aload_n 0, 1) := by decide +kernel
theorem dX5_checkRead_1 : decode cX5_checkRead 1 = .ok (.iload_n 1, 1) := by decide +kernel
theorem dX5_checkRead_2 : decode cX5_checkRead 2 = .ok (.invokevirtual 75, 3) := by decide +kernel
theorem dX5_checkRead_5 : decode cX5_checkRead 5 = .ok (.astore_n 3, 1) := by decide +kernel
theorem dX5_checkRead_6 : decode cX5_checkRead 6 = .ok (.aload_n 3, 1) := by decide +kernel
theorem dX5_checkRead_7 : decode cX5_checkRead 7 = .ok (.iload_n 2, 1) := by decide +kernel
theorem dX5_checkRead_8 : decode cX5_checkRead 8 = .ok (.invokestatic 79, 3) := by decide +kernel
theorem dX5_checkRead_11 : decode cX5_checkRead 11 = .ok (.astore 4, 2) := by decide +kernel
theorem dX5_checkRead_13 : decode cX5_checkRead 13 = .ok (.aload_n 3, 1) := by decide +kernel
theorem dX5_checkRead_14 : decode cX5_checkRead 14 = .ok (.ifnull 8, 3) := by decide +kernel
theorem dX5_checkRead_17 : decode cX5_checkRead 17 = .ok (.aload 4, 2) := by decide +kernel
theorem dX5_checkRead_19 : decode cX5_checkRead 19 = .ok (.ifnonnull 10, 3) := by decide +kernel
theorem dX5_checkRead_22 : decode cX5_checkRead 22 = .ok (.aload_n 0, 1) := by decide +kernel
theorem dX5_checkRead_23 : decode cX5_checkRead 23 = .ok (.bipush (-2), 2) := by decide +kernel
theorem dX5_checkRead_25 : decode cX5_checkRead 25 = .ok (.invokevirtual 50, 3) := by decide +kernel
theorem dX5_checkRead_28 : decode cX5_checkRead 28 = .ok (.ireturn, 1) := by decide +kernel
theorem dX5_checkRead_29 : decode cX5_checkRead 29 = .ok (.aload_n 3, 1) := by decide +kernel
theorem dX5_checkRead_30 : decode cX5_checkRead 30 = .ok (.getfield 83, 3) := by decide +kernel
theorem dX5_checkRead_33 : decode cX5_checkRead 33 = .ok (.getfield 87, 3) := by decide +kernel
theorem dX5_checkRead_36 : decode cX5_checkRead 36 = .ok (.ifCond .eq 7, 3) := by decide +kernel
theorem dX5_checkRead_39 : decode cX5_checkRead 39 = .ok (.iconst 3, 1) := by decide +kernel
theorem dX5_checkRead_40 : decode cX5_checkRead 40 = .ok (.goto 13, 3) := by decide +kernel
theorem dX5_checkRead_43 : decode cX5_checkRead 43 = .ok (.aload 4, 2) := by decide +kernel
theorem dX5_checkRead_45 : decode cX5_checkRead 45 = .ok (.iload_n 1, 1) := by decide +kernel
theorem dX5_checkRead_46 : decode cX5_checkRead 46 = .ok (.aload_n 0, 1) := by decide +kernel
theorem dX5_checkRead_47 : decode cX5_checkRead 47 = .ok (.getfield 24, 3) := by decide +kernel
theorem dX5_checkRead_50 : decode cX5_checkRead 50 = .ok (.invokevirtual 91, 3) := by decide +kernel
theorem dX5_checkRead_53 : decode cX5_checkRead 53 = .ok (.ireturn, 1) := by decide +kernel
theorem dX5_checkWrite_0 : decode cX5_checkWrite 0 = .ok (.aload_n 0, 1) := by decide +kernel
theorem dX5_checkWrite_1 : decode cX5_checkWrite 1 = .ok (.iload_n 1, 1) := by decide +kernel
theorem dX5_checkWrite_2 : decode cX5_checkWrite 2 = .ok (.invokevirtual 75, 3) := by decide +kernel
theorem dX5_checkWrite_5 : decode cX5_checkWrite 5 = .ok (.astore_n 3, 1) := by decide +kernel
theorem dX5_checkWrite_6 : decode cX5_checkWrite 6 = .ok (.aload_n 3, 1) := by decide +kernel
theorem dX5_checkWrite_7 : decode cX5_checkWrite 7 = .ok (.iload_n 2, 1) := by decide +kernel
theorem dX5_checkWrite_8 : decode cX5_checkWrite 8 = .ok (.invokestatic 79, 3) := by decide +kernel
theorem dX5_checkWrite_11 : decode cX5_checkWrite 11 = .ok (.astore 4, 2) := by decide +kernel
theorem dX5_checkWrite_13 : decode cX5_checkWrite 13 = .ok (.aload_n 3, 1) := by decide +kernel
theorem dX5_checkWrite_14 : decode cX5_checkWrite 14 = .ok (.ifnull 8, 3) := by decide +kernel
theorem dX5_checkWrite_17 : decode cX5_checkWrite 17 = .ok (.aload 4, 2) := by decide +kernel
theorem dX5_checkWrite_19 : decode cX5_checkWrite 19 = .ok (.ifnonnull 10, 3) := by decide +kernel
theorem dX5_checkWrite_22 : decode cX5_checkWrite 22 = .ok (.aload_n 0, 1) := by decide +kernel
theorem dX5_checkWrite_23 : decode cX5_checkWrite 23 = .ok (.bipush (-2), 2) := by decide +kernel
theorem dX5_checkWrite_25 : decode cX5_checkWrite 25 = .ok (.invokevirtual 50, 3) := by decide +kernel
theorem dX5_checkWrite_28 : decode cX5_checkWrite 28 = .ok (.ireturn, 1) := by decide +kernel
theorem dX5_checkWrite_29 : decode cX5_checkWrite 29 = .ok (.aload_n 3, 1) := by decide +kernel
theorem dX5_checkWrite_30 : decode cX5_checkWrite 30 = .ok (.getfield 83, 3) := by decide +kernel
theorem dX5_checkWrite_33 : decode cX5_checkWrite 33 = .ok (.getfield 87, 3) := by decide +kernel
theorem dX5_checkWrite_36 : decode cX5_checkWrite 36 = .ok (.ifCond .eq 7, 3) := by decide +kernel
theorem dX5_checkWrite_39 : decode cX5_checkWrite 39 = .ok (.iconst 3, 1) := by decide +kernel
theorem dX5_checkWrite_40 : decode cX5_checkWrite 40 = .ok (.goto 13, 3) := by decide +kernel
theorem dX5_checkWrite_43 : decode cX5_checkWrite 43 = .ok (.aload 4, 2) := by decide +kernel
theorem dX5_checkWrite_45 : decode cX5_checkWrite 45 = .ok (.iload_n 1, 1) := by decide +kernel
theorem dX5_checkWrite_46 : decode cX5_checkWrite 46 = .ok (.aload_n 0, 1) := by decide +kernel
theorem dX5_checkWrite_47 : decode cX5_checkWrite 47 = .ok (.getfield 24, 3) := by decide +kernel
theorem dX5_checkWrite_50 : decode cX5_checkWrite 50 = .ok (.invokevirtual 97, 3) := by decide +kernel
theorem dX5_checkWrite_53 : decode cX5_checkWrite 53 = .ok (.ireturn, 1) := by decide +kernel
theorem dX5_checkFree_0 : decode cX5_checkFree 0 = .ok (.aload_n 0, 1) := by decide +kernel
theorem dX5_checkFree_1 : decode cX5_checkFree 1 = .ok (.iload_n 1, 1) := by decide +kernel
theorem dX5_checkFree_2 : decode cX5_checkFree 2 = .ok (.invokevirtual 75, 3) := by decide +kernel
theorem dX5_checkFree_5 : decode cX5_checkFree 5 = .ok (.astore_n 2, 1) := by decide +kernel
theorem dX5_checkFree_6 : decode cX5_checkFree 6 = .ok (.aload_n 2, 1) := by decide +kernel
theorem dX5_checkFree_7 : decode cX5_checkFree 7 = .ok (.ifnonnull 10, 3) := by decide +kernel
theorem dX5_checkFree_10 : decode cX5_checkFree 10 = .ok (.aload_n 0, 1) := by decide +kernel
theorem dX5_checkFree_11 : decode cX5_checkFree 11 = .ok (.bipush (-2), 2) := by decide +kernel
theorem dX5_checkFree_13 : decode cX5_checkFree 13 = .ok (.invokevirtual 50, 3) := by decide +kernel
theorem dX5_checkFree_16 : decode cX5_checkFree 16 = .ok (.ireturn, 1) := by decide +kernel
theorem dX5_checkFree_17 : decode cX5_checkFree 17 = .ok (.aload_n 2, 1) := by decide +kernel
theorem dX5_checkFree_18 : decode cX5_checkFree 18 = .ok (.getfield 83, 3) := by decide +kernel
theorem dX5_checkFree_21 : decode cX5_checkFree 21 = .ok (.getfield 87, 3) := by decide +kernel
theorem dX5_checkFree_24 : decode cX5_checkFree 24 = .ok (.ifCond .eq 7, 3) := by decide +kernel
theorem dX5_checkFree_27 : decode cX5_checkFree 27 = .ok (.iconst 3, 1) := by decide +kernel
theorem dX5_checkFree_28 : decode cX5_checkFree 28 = .ok (.goto 15, 3) := by decide +kernel
theorem dX5_checkFree_31 : decode cX5_checkFree 31 = .ok (.aload_n 2, 1) := by decide +kernel
theorem dX5_checkFree_32 : decode cX5_checkFree 32 = .ok (.getfield 83, 3) := by decide +kernel
theorem dX5_checkFree_35 : decode cX5_checkFree 35 = .ok (.iload_n 1, 1) := by decide +kernel
theorem dX5_checkFree_36 : decode cX5_checkFree 36 = .ok (.aload_n 0, 1) := by decide +kernel
theorem dX5_checkFree_37 : decode cX5_checkFree 37 = .ok (.getfield 24, 3) := by decide +kernel
theorem dX5_checkFree_40 : decode cX5_checkFree 40 = .ok (.invokevirtual 100, 3) := by decide +kernel
theorem dX5_checkFree_43 : decode cX5_checkFree 43 = .ok (.ireturn, 1) := by decide +kernel
theorem dX5_removedByWrite_0 : decode cX5_removedByWrite 0 = .ok (.aload_n 0, 1) := by decide +kernel
theorem dX5_removedByWrite_1 : decode cX5_removedByWrite 1 = .ok (.iload_n 1, 1) := by decide +kernel
theorem dX5_removedByWrite_2 : decode cX5_removedByWrite 2 = .ok (.invokevirtual 75, 3) := by decide +kernel
theorem dX5_removedByWrite_5 : decode cX5_removedByWrite 5 = .ok (.astore_n 3, 1) := by decide +kernel
theorem dX5_removedByWrite_6 : decode cX5_removedByWrite 6 = .ok (.aload_n 3, 1) := by decide +kernel
theorem dX5_removedByWrite_7 : decode cX5_removedByWrite 7 = .ok (.iload_n 2, 1) := by decide +kernel
theorem dX5_removedByWrite_8 : decode cX5_removedByWrite 8 = .ok (.invokestatic 79, 3) := by decide +kernel
theorem dX5_removedByWrite_11 : decode cX5_removedByWrite 11 = .ok (.astore 4, 2) := by decide +kernel
theorem dX5_removedByWrite_13 : decode cX5_removedByWrite 13 = .ok (.aload_n 3, 1) := by decide +kernel
theorem dX5_removedByWrite_14 : decode cX5_removedByWrite 14 = .ok (.ifnull 8, 3) := by decide +kernel
theorem dX5_removedByWrite_17 : decode cX5_removedByWrite 17 = .ok (.aload 4, 2) := by decide +kernel
theorem dX5_removedByWrite_19 : decode cX5_removedByWrite 19 = .ok (.ifnonnull 10, 3) := by decide +kernel
theorem dX5_removedByWrite_22 : decode cX5_removedByWrite 22 = .ok (.aload_n 0, 1) := by decide +kernel
theorem dX5_removedByWrite_23 : decode cX5_removedByWrite 23 = .ok (.bipush (-2), 2) := by decide +kernel
theorem dX5_removedByWrite_25 : decode cX5_removedByWrite 25 = .ok (.invokevirtual 50, 3) := by decide +kernel
theorem dX5_removedByWrite_28 : decode cX5_removedByWrite 28 = .ok (.ireturn, 1) := by decide +kernel
theorem dX5_removedByWrite_29 : decode cX5_removedByWrite 29 = .ok (.aload_n 3, 1) := by decide +kernel
theorem dX5_removedByWrite_30 : decode cX5_removedByWrite 30 = .ok (.getfield 83, 3) := by decide +kernel
theorem dX5_removedByWrite_33 : decode cX5_removedByWrite 33 = .ok (.getfield 87, 3) := by decide +kernel
theorem dX5_removedByWrite_36 : decode cX5_removedByWrite 36 = .ok (.ifCond .ne 16, 3) := by decide +kernel
theorem dX5_removedByWrite_39 : decode cX5_removedByWrite 39 = .ok (.aload 4, 2) := by decide +kernel
theorem dX5_removedByWrite_41 : decode cX5_removedByWrite 41 = .ok (.iload_n 1, 1) := by decide +kernel
theorem dX5_removedByWrite_42 : decode cX5_removedByWrite 42 = .ok (.aload_n 0, 1) := by decide +kernel
theorem dX5_removedByWrite_43 : decode cX5_removedByWrite 43 = .ok (.getfield 24, 3) := by decide +kernel
theorem dX5_removedByWrite_46 : decode cX5_removedByWrite 46 = .ok (.invokevirtual 97, 3) := by decide +kernel
theorem dX5_removedByWrite_49 : decode cX5_removedByWrite 49 = .ok (.ifCond .eq 5, 3) := by decide +kernel
theorem dX5_removedByWrite_52 : decode cX5_removedByWrite 52 = .ok (.iconst (-1), 1) := by decide +kernel
theorem dX5_removedByWrite_53 : decode cX5_removedByWrite 53 = .ok (.ireturn, 1) := by decide +kernel
theorem dX5_removedByWrite_54 : decode cX5_removedByWrite 54 = .ok (.aload 4, 2) := by decide +kernel
theorem dX5_removedByWrite_56 : decode cX5_removedByWrite 56 = .ok (.getfield 103, 3) := by decide +kernel
theorem dX5_removedByWrite_59 : decode cX5_removedByWrite 59 = .ok (.aload 4, 2) := by decide +kernel
theorem dX5_removedByWrite_61 : decode cX5_removedByWrite 61 = .ok (.iload_n 1, 1) := by decide +kernel
theorem dX5_removedByWrite_62 : decode cX5_removedByWrite 62 = .ok (.invokevirtual 106, 3) := by decide +kernel
theorem dX5_removedByWrite_65 : decode cX5_removedByWrite 65 = .ok (.isub, 1) := by decide +kernel
theorem dX5_removedByWrite_66 : decode cX5_removedByWrite 66 = .ok (.ireturn, 1) := by decide +kernel
theorem dX5_stackSize_0 : decode cX5_stackSize 0 = .ok (.aload_n 0, 1) := by decide +kernel
theorem dX5_stackSize_1 : decode cX5_stackSize 1 = .ok (.iload_n 1, 1) := by decide +kernel
theorem dX5_stackSize_2 : decode cX5_stackSize 2 = .ok (.iload_n 2, 1) := by decide +kernel
theorem dX5_stackSize_3 : decode cX5_stackSize 3 = .ok (.invokevirtual 109, 3) := by decide +kernel
theorem dX5_stackSize_6 : decode cX5_stackSize 6 = .ok (.astore_n 3, 1) := by decide +kernel
theorem dX5_stackSize_7 : decode cX5_stackSize 7 = .ok (.aload_n 3, 1) := by decide +kernel
theorem dX5_stackSize_8 : decode cX5_stackSize 8 = .ok (.ifnonnull 12, 3) := by decide +kernel
theorem dX5_stackSize_11 : decode cX5_stackSize 11 = .ok (.aload_n 0, 1) := by decide +kernel
theorem dX5_stackSize_12 : decode cX5_stackSize 12 = .ok (.bipush (-2), 2) := by decide +kernel
theorem dX5_stackSize_14 : decode cX5_stackSize 14 = .ok (.invokevirtual 50, 3) := by decide +kernel
theorem dX5_stackSize_17 : decode cX5_stackSize 17 = .ok (.goto 7, 3) := by decide +kernel
theorem dX5_stackSize_20 : decode cX5_stackSize 20 = .ok (.aload_n 3, 1) := by decide +kernel
theorem dX5_stackSize_21 : decode cX5_stackSize 21 = .ok (.getfield 103, 3) := by decide +kernel
theorem dX5_stackSize_24 : decode cX5_stackSize 24 = .ok (.ireturn, 1) := by decide +kernel
theorem dX5_itemTag_0 : decode cX5_itemTag 0 = .ok (.aload_n 0, 1) := by decide +kernel
theorem dX5_itemTag_1 : decode cX5_itemTag 1 = .ok (.iload_n 1, 1) := by decide +kernel
theorem dX5_itemTag_2 : decode cX5_itemTag 2 = .ok (.iload_n 2, 1) := by decide +kernel
theorem dX5_itemTag_3 : decode cX5_itemTag 3 = .ok (.invokevirtual 109, 3) := by decide +kernel
theorem dX5_itemTag_6 : decode cX5_itemTag 6 = .ok (.astore 4, 2) := by decide +kernel
theorem dX5_itemTag_8 : decode cX5_itemTag 8 = .ok (.aload 4, 2) := by decide +kernel
theorem dX5_itemTag_10 : decode cX5_itemTag 10 = .ok (.ifnull 12, 3) := by decide +kernel
theorem dX5_itemTag_13 : decode cX5_itemTag 13 = .ok (.aload 4, 2) := by decide +kernel
theorem dX5_itemTag_15 : decode cX5_itemTag 15 = .ok (.iload_n 3, 1) := by decide +kernel
theorem dX5_itemTag_16 : decode cX5_itemTag 16 = .ok (.invokevirtual 113, 3) := by decide +kernel
theorem dX5_itemTag_19 : decode cX5_itemTag 19 = .ok (.ifCond .ne 10, 3) := by decide +kernel
theorem dX5_itemTag_22 : decode cX5_itemTag 22 = .ok (.aload_n 0, 1) := by decide +kernel
theorem dX5_itemTag_23 : decode cX5_itemTag 23 = .ok (.bipush (-2), 2) := by decide +kernel
theorem dX5_itemTag_25 : decode cX5_itemTag 25 = .ok (.invokevirtual 50, 3) := by decide +kernel
theorem dX5_itemTag_28 : decode cX5_itemTag 28 = .ok (.ireturn, 1) := by decide +kernel
theorem dX5_itemTag_29 : decode cX5_itemTag 29 = .ok (.aload 4, 2) := by decide +kernel
theorem dX5_itemTag_31 : decode cX5_itemTag 31 = .ok (.getfield 117, 3) := by decide +kernel
theorem dX5_itemTag_34 : decode cX5_itemTag 34 = .ok (.iload_n 3, 1) := by decide +kernel
theorem dX5_itemTag_35 : decode cX5_itemTag 35 = .ok (.iaload, 1) := by decide +kernel
theorem dX5_itemTag_36 : decode cX5_itemTag 36 = .ok (.ireturn, 1) := by decide +kernel
theorem dX5_itemPermission_0 : decode cX5_itemPermission 0 = .ok (.aload_n 0, 1) := by decide +kernel
theorem dX5_itemPermission_1 : decode cX5_itemPermission 1 = .ok (.iload_n 1, 1) := by decide +kernel
theorem dX5_itemPermission_2 : decode cX5_itemPermission 2 = .ok (.iload_n 2, 1) := by decide +kernel
theorem dX5_itemPermission_3 : decode cX5_itemPermission 3 = .ok (.invokevirtual 109, 3) := by decide +kernel
theorem dX5_itemPermission_6 : decode cX5_itemPermission 6 = .ok (.astore 4, 2) := by decide +kernel
theorem dX5_itemPermission_8 : decode cX5_itemPermission 8 = .ok (.aload 4, 2) := by decide +kernel
theorem dX5_itemPermission_10 : decode cX5_itemPermission 10 = .ok (.ifnull 12, 3) := by decide +kernel
theorem dX5_itemPermission_13 : decode cX5_itemPermission 13 = .ok (.aload 4, 2) := by decide +kernel
theorem dX5_itemPermission_15 : decode cX5_itemPermission 15 = .ok (.iload_n 3, 1) := by decide +kernel
theorem dX5_itemPermission_16 : decode cX5_itemPermission 16 = .ok (.invokevirtual 113, 3) := by decide +kernel
theorem dX5_itemPermission_19 : decode cX5_itemPermission 19 = .ok (.ifCond .ne 10, 3) := by decide +kernel
theorem dX5_itemPermission_22 : decode cX5_itemPermission 22 = .ok (.aload_n 0, 1) := by decide +kernel
theorem dX5_itemPermission_23 : decode cX5_itemPermission 23 = .ok (.bipush (-2), 2) := by decide +kernel
theorem dX5_itemPermission_25 : decode cX5_itemPermission 25 = .ok (.invokevirtual 50, 3) := by decide +kernel
theorem dX5_itemPermission_28 : decode cX5_itemPermission 28 = .ok (.ireturn, 1) := by decide +kernel
theorem dX5_itemPermission_29 : decode cX5_itemPermission 29 = .ok (.aload 4, 2) := by decide +kernel
theorem dX5_itemPermission_31 : decode cX5_itemPermission 31 = .ok (.getfield 120, 3) := by decide +kernel
theorem dX5_itemPermission_34 : decode cX5_itemPermission 34 = .ok (.iload_n 3, 1) := by decide +kernel
theorem dX5_itemPermission_35 : decode cX5_itemPermission 35 = .ok (.iaload, 1) := by decide +kernel
theorem dX5_itemPermission_36 : decode cX5_itemPermission 36 = .ok (.ireturn, 1) := by decide +kernel
theorem dX5_itemProtected_0 : decode cX5_itemProtected 0 = .ok (.aload_n 0, 1) := by decide +kernel
theorem dX5_itemProtected_1 : decode cX5_itemProtected 1 = .ok (.iload_n 1, 1) := by decide +kernel
theorem dX5_itemProtected_2 : decode cX5_itemProtected 2 = .ok (.iload_n 2, 1) := by decide +kernel
theorem dX5_itemProtected_3 : decode cX5_itemProtected 3 = .ok (.invokevirtual 109, 3) := by decide +kernel
theorem dX5_itemProtected_6 : decode cX5_itemProtected 6 = .ok (.astore 4, 2) := by decide +kernel
theorem dX5_itemProtected_8 : decode cX5_itemProtected 8 = .ok (.aload 4, 2) := by decide +kernel
theorem dX5_itemProtected_10 : decode cX5_itemProtected 10 = .ok (.ifnull 12, 3) := by decide +kernel
theorem dX5_itemProtected_13 : decode cX5_itemProtected 13 = .ok (.aload 4, 2) := by decide +kernel
theorem dX5_itemProtected_15 : decode cX5_itemProtected 15 = .ok (.iload_n 3, 1) := by decide +kernel
theorem dX5_itemProtected_16 : decode cX5_itemProtected 16 = .ok (.invokevirtual 113, 3) := by decide +kernel
theorem dX5_itemProtected_19 : decode cX5_itemProtected 19 = .ok (.ifCond .ne 10, 3) := by decide +kernel
theorem dX5_itemProtected_22 : decode cX5_itemProtected 22 = .ok (.aload_n 0, 1) := by decide +kernel
theorem dX5_itemProtected_23 : decode cX5_itemProtected 23 = .ok (.bipush (-2), 2) := by decide +kernel
theorem dX5_itemProtected_25 : decode cX5_itemProtected 25 = .ok (.invokevirtual 50, 3) := by decide +kernel
theorem dX5_itemProtected_28 : decode cX5_itemProtected 28 = .ok (.ireturn, 1) := by decide +kernel
theorem dX5_itemProtected_29 : decode cX5_itemProtected 29 = .ok (.aload_n 0, 1) := by decide +kernel
theorem dX5_itemProtected_30 : decode cX5_itemProtected 30 = .ok (.getfield 24, 3) := by decide +kernel
theorem dX5_itemProtected_33 : decode cX5_itemProtected 33 = .ok (.aload 4, 2) := by decide +kernel
theorem dX5_itemProtected_35 : decode cX5_itemProtected 35 = .ok (.getfield 123, 3) := by decide +kernel
theorem dX5_itemProtected_38 : decode cX5_itemProtected 38 = .ok (.iload_n 3, 1) := by decide +kernel
theorem dX5_itemProtected_39 : decode cX5_itemProtected 39 = .ok (.iaload, 1) := by decide +kernel
theorem dX5_itemProtected_40 : decode cX5_itemProtected 40 = .ok (.invokevirtual 126, 3) := by decide +kernel
theorem dX5_itemProtected_43 : decode cX5_itemProtected 43 = .ok (.invokestatic 129, 3) := by decide +kernel
theorem dX5_itemProtected_46 : decode cX5_itemProtected 46 = .ok (.ireturn, 1) := by decide +kernel
theorem dX5_allocationOf_0 : decode cX5_allocationOf 0 = .ok (.aload_n 0, 1) := by decide +kernel
theorem dX5_allocationOf_1 : decode cX5_allocationOf 1 = .ok (.iload_n 1, 1) := by decide +kernel
theorem dX5_allocationOf_2 : decode cX5_allocationOf 2 = .ok (.invokevirtual 75, 3) := by decide +kernel
theorem dX5_allocationOf_5 : decode cX5_allocationOf 5 = .ok (.astore_n 2, 1) := by decide +kernel
theorem dX5_allocationOf_6 : decode cX5_allocationOf 6 = .ok (.aload_n 2, 1) := by decide +kernel
theorem dX5_allocationOf_7 : decode cX5_allocationOf 7 = .ok (.ifnonnull 12, 3) := by decide +kernel
theorem dX5_allocationOf_10 : decode cX5_allocationOf 10 = .ok (.aload_n 0, 1) := by decide +kernel
theorem dX5_allocationOf_11 : decode cX5_allocationOf 11 = .ok (.bipush (-2), 2) := by decide +kernel
theorem dX5_allocationOf_13 : decode cX5_allocationOf 13 = .ok (.invokevirtual 50, 3) := by decide +kernel
theorem dX5_allocationOf_16 : decode cX5_allocationOf 16 = .ok (.goto 10, 3) := by decide +kernel
theorem dX5_allocationOf_19 : decode cX5_allocationOf 19 = .ok (.aload_n 2, 1) := by decide +kernel
theorem dX5_allocationOf_20 : decode cX5_allocationOf 20 = .ok (.getfield 83, 3) := by decide +kernel
theorem dX5_allocationOf_23 : decode cX5_allocationOf 23 = .ok (.getfield 133, 3) := by decide +kernel
theorem dX5_allocationOf_26 : decode cX5_allocationOf 26 = .ok (.ireturn, 1) := by decide +kernel
theorem dX5_parent_0 : decode cX5_parent 0 = .ok (.aload_n 0, 1) := by decide +kernel
theorem dX5_parent_1 : decode cX5_parent 1 = .ok (.iload_n 1, 1) := by decide +kernel
theorem dX5_parent_2 : decode cX5_parent 2 = .ok (.invokevirtual 75, 3) := by decide +kernel
theorem dX5_parent_5 : decode cX5_parent 5 = .ok (.astore_n 2, 1) := by decide +kernel
theorem dX5_parent_6 : decode cX5_parent 6 = .ok (.aload_n 2, 1) := by decide +kernel
theorem dX5_parent_7 : decode cX5_parent 7 = .ok (.ifnonnull 12, 3) := by decide +kernel
theorem dX5_parent_10 : decode cX5_parent 10 = .ok (.aload_n 0, 1) := by decide +kernel
theorem dX5_parent_11 : decode cX5_parent 11 = .ok (.bipush (-2), 2) := by decide +kernel
theorem dX5_parent_13 : decode cX5_parent 13 = .ok (.invokevirtual 50, 3) := by decide +kernel
theorem dX5_parent_16 : decode cX5_parent 16 = .ok (.goto 7, 3) := by decide +kernel
theorem dX5_parent_19 : decode cX5_parent 19 = .ok (.aload_n 2, 1) := by decide +kernel
theorem dX5_parent_20 : decode cX5_parent 20 = .ok (.getfield 136, 3) := by decide +kernel
theorem dX5_parent_23 : decode cX5_parent 23 = .ok (.ireturn, 1) := by decide +kernel
theorem dX5_liveCells_0 : decode cX5_liveCells 0 = .ok (.aload_n 0, 1) := by decide +kernel
theorem dX5_liveCells_1 : decode cX5_liveCells 1 = .ok (.iload_n 1, 1) := by decide +kernel
theorem dX5_liveCells_2 : decode cX5_liveCells 2 = .ok (.invokevirtual 75, 3) := by decide +kernel
theorem dX5_liveCells_5 : decode cX5_liveCells 5 = .ok (.astore_n 2, 1) := by decide +kernel
theorem dX5_liveCells_6 : decode cX5_liveCells 6 = .ok (.aload_n 2, 1) := by decide +kernel
theorem dX5_liveCells_7 : decode cX5_liveCells 7 = .ok (.ifnonnull 12, 3) := by decide +kernel
theorem dX5_liveCells_10 : decode cX5_liveCells 10 = .ok (.aload_n 0, 1) := by decide +kernel
theorem dX5_liveCells_11 : decode cX5_liveCells 11 = .ok (.bipush (-2), 2) := by decide +kernel
theorem dX5_liveCells_13 : decode cX5_liveCells 13 = .ok (.invokevirtual 50, 3) := by decide +kernel
theorem dX5_liveCells_16 : decode cX5_liveCells 16 = .ok (.goto 11, 3) := by decide +kernel
theorem dX5_liveCells_19 : decode cX5_liveCells 19 = .ok (.aload_n 2, 1) := by decide +kernel
theorem dX5_liveCells_20 : decode cX5_liveCells 20 = .ok (.getfield 83, 3) := by decide +kernel
theorem dX5_liveCells_23 : decode cX5_liveCells 23 = .ok (.iload_n 1, 1) := by decide +kernel
theorem dX5_liveCells_24 : decode cX5_liveCells 24 = .ok (.invokevirtual 139, 3) := by decide +kernel
theorem dX5_liveCells_27 : decode cX5_liveCells 27 = .ok (.ireturn, 1) := by decide +kernel
theorem dX5_isFreed_0 : decode cX5_isFreed 0 = .ok (.aload_n 0, 1) := by decide +kernel
theorem dX5_isFreed_1 : decode cX5_isFreed 1 = .ok (.iload_n 1, 1) := by decide +kernel
theorem dX5_isFreed_2 : decode cX5_isFreed 2 = .ok (.invokevirtual 142, 3) := by decide +kernel
theorem dX5_isFreed_5 : decode cX5_isFreed 5 = .ok (.astore_n 2, 1) := by decide +kernel
theorem dX5_isFreed_6 : decode cX5_isFreed 6 = .ok (.aload_n 2, 1) := by decide +kernel
theorem dX5_isFreed_7 : decode cX5_isFreed 7 = .ok (.ifnonnull 12, 3) := by decide +kernel
theorem dX5_isFreed_10 : decode cX5_isFreed 10 = .ok (.aload_n 0, 1) := by decide +kernel
theorem dX5_isFreed_11 : decode cX5_isFreed 11 = .ok (.bipush (-2), 2) := by decide +kernel
theorem dX5_isFreed_13 : decode cX5_isFreed 13 = .ok (.invokevirtual 50, 3) := by decide +kernel
theorem dX5_isFreed_16 : decode cX5_isFreed 16 = .ok (.goto 10, 3) := by decide +kernel
theorem dX5_isFreed_19 : decode cX5_isFreed 19 = .ok (.aload_n 2, 1) := by decide +kernel
theorem dX5_isFreed_20 : decode cX5_isFreed 20 = .ok (.getfield 87, 3) := by decide +kernel
theorem dX5_isFreed_23 : decode cX5_isFreed 23 = .ok (.invokestatic 129, 3) := by decide +kernel
theorem dX5_isFreed_26 : decode cX5_isFreed 26 = .ok (.ireturn, 1) := by decide +kernel
theorem dX5_pointerCount_0 : decode cX5_pointerCount 0 = .ok (.aload_n 0, 1) := by decide +kernel
theorem dX5_pointerCount_1 : decode cX5_pointerCount 1 = .ok (.getfield 146, 3) := by decide +kernel
theorem dX5_pointerCount_4 : decode cX5_pointerCount 4 = .ok (.ireturn, 1) := by decide +kernel
theorem dX5_callDepth_0 : decode cX5_callDepth 0 = .ok (.aload_n 0, 1) := by decide +kernel
theorem dX5_callDepth_1 : decode cX5_callDepth 1 = .ok (.getfield 24, 3) := by decide +kernel
theorem dX5_callDepth_4 : decode cX5_callDepth 4 = .ok (.getfield 149, 3) := by decide +kernel
theorem dX5_callDepth_7 : decode cX5_callDepth 7 = .ok (.ireturn, 1) := by decide +kernel
theorem dX5_violationCount_0 : decode cX5_violationCount 0 = .ok (.aload_n 0, 1) := by decide +kernel
theorem dX5_violationCount_1 : decode cX5_violationCount 1 = .ok (.getfield 152, 3) := by decide +kernel
theorem dX5_violationCount_4 : decode cX5_violationCount 4 = .ok (.ireturn, 1) := by decide +kernel
theorem dX5_violationKind_0 : decode cX5_violationKind 0 = .ok (.aload_n 0, 1) := by decide +kernel
theorem dX5_violationKind_1 : decode cX5_violationKind 1 = .ok (.getfield 39, 3) := by decide +kernel
theorem dX5_violationKind_4 : decode cX5_violationKind 4 = .ok (.ireturn, 1) := by decide +kernel
theorem dX5_violationCell_0 : decode cX5_violationCell 0 = .ok (.aload_n 0, 1) := by decide +kernel
theorem dX5_violationCell_1 : decode cX5_violationCell 1 = .ok (.getfield 43, 3) := by decide +kernel
theorem dX5_violationCell_4 : decode cX5_violationCell 4 = .ok (.ireturn, 1) := by decide +kernel
theorem dX5_errorCount_0 : decode cX5_errorCount 0 = .ok (.iload_n 1, 1) := by decide +kernel
theorem dX5_errorCount_1 : decode cX5_errorCount 1 = .ok (.ifCond .lt 8, 3) := by decide +kernel
theorem dX5_errorCount_4 : decode cX5_errorCount 4 = .ok (.iload_n 1, 1) := by decide +kernel
theorem dX5_errorCount_5 : decode cX5_errorCount 5 = .ok (.iconst 3, 1) := by decide +kernel
theorem dX5_errorCount_6 : decode cX5_errorCount 6 = .ok (.if_icmp .lt 10, 3) := by decide +kernel
theorem dX5_errorCount_9 : decode cX5_errorCount 9 = .ok (.aload_n 0, 1) := by decide +kernel
theorem dX5_errorCount_10 : decode cX5_errorCount 10 = .ok (.bipush (-2), 2) := by decide +kernel
theorem dX5_errorCount_12 : decode cX5_errorCount 12 = .ok (.invokevirtual 50, 3) := by decide +kernel
theorem dX5_errorCount_15 : decode cX5_errorCount 15 = .ok (.ireturn, 1) := by decide +kernel
theorem dX5_errorCount_16 : decode cX5_errorCount 16 = .ok (.aload_n 0, 1) := by decide +kernel
theorem dX5_errorCount_17 : decode cX5_errorCount 17 = .ok (.getfield 35, 3) := by decide +kernel
theorem dX5_errorCount_20 : decode cX5_errorCount 20 = .ok (.iload_n 1, 1) := by decide +kernel
theorem dX5_errorCount_21 : decode cX5_errorCount 21 = .ok (.iaload, 1) := by decide +kernel
theorem dX5_errorCount_22 : decode cX5_errorCount 22 = .ok (.ireturn, 1) := by decide +kernel
theorem dX5_append_0 : decode cX5_append 0 = .ok (.iload_n 1, 1) := by decide +kernel
theorem dX5_append_1 : decode cX5_append 1 = .ok (.ifCond .lt 9, 3) := by decide +kernel
theorem dX5_append_4 : decode cX5_append 4 = .ok (.iload_n 1, 1) := by decide +kernel
theorem dX5_append_5 : decode cX5_append 5 = .ok (.bipush 127, 2) := by decide +kernel
theorem dX5_append_7 : decode cX5_append 7 = .ok (.if_icmp .le 10, 3) := by decide +kernel
theorem dX5_append_10 : decode cX5_append 10 = .ok (.aload_n 0, 1) := by decide +kernel
theorem dX5_append_11 : decode cX5_append 11 = .ok (.bipush (-2), 2) := by decide +kernel
theorem dX5_append_13 : decode cX5_append 13 = .ok (.invokevirtual 50, 3) := by decide +kernel
theorem dX5_append_16 : decode cX5_append 16 = .ok (.ireturn, 1) := by decide +kernel
theorem dX5_append_17 : decode cX5_append 17 = .ok (.aload_n 0, 1) := by decide +kernel
theorem dX5_append_18 : decode cX5_append 18 = .ok (.getfield 31, 3) := by decide +kernel
theorem dX5_append_21 : decode cX5_append 21 = .ok (.iload_n 1, 1) := by decide +kernel
theorem dX5_append_22 : decode cX5_append 22 = .ok (.invokevirtual 155, 3) := by decide +kernel
theorem dX5_append_25 : decode cX5_append 25 = .ok (.ifCond .eq 13, 3) := by decide +kernel
theorem dX5_append_28 : decode cX5_append 28 = .ok (.aload_n 0, 1) := by decide +kernel
theorem dX5_append_29 : decode cX5_append 29 = .ok (.getfield 31, 3) := by decide +kernel
theorem dX5_append_32 : decode cX5_append 32 = .ok (.getfield 158, 3) := by decide +kernel
theorem dX5_append_35 : decode cX5_append 35 = .ok (.goto 9, 3) := by decide +kernel
theorem dX5_append_38 : decode cX5_append 38 = .ok (.aload_n 0, 1) := by decide +kernel
theorem dX5_append_39 : decode cX5_append 39 = .ok (.bipush (-4), 2) := by decide +kernel
theorem dX5_append_41 : decode cX5_append 41 = .ok (.invokevirtual 50, 3) := by decide +kernel
theorem dX5_append_44 : decode cX5_append 44 = .ok (.ireturn, 1) := by decide +kernel
theorem dX5_clearText_0 : decode cX5_clearText 0 = .ok (.aload_n 0, 1) := by decide +kernel
theorem dX5_clearText_1 : decode cX5_clearText 1 = .ok (.getfield 31, 3) := by decide +kernel
theorem dX5_clearText_4 : decode cX5_clearText 4 = .ok (.getfield 158, 3) := by decide +kernel
theorem dX5_clearText_7 : decode cX5_clearText 7 = .ok (.istore_n 1, 1) := by decide +kernel
theorem dX5_clearText_8 : decode cX5_clearText 8 = .ok (.aload_n 0, 1) := by decide +kernel
theorem dX5_clearText_9 : decode cX5_clearText 9 = .ok (.getfield 31, 3) := by decide +kernel
theorem dX5_clearText_12 : decode cX5_clearText 12 = .ok (.iconst 0, 1) := by decide +kernel
theorem dX5_clearText_13 : decode cX5_clearText 13 = .ok (.putfield 158, 3) := by decide +kernel
theorem dX5_clearText_16 : decode cX5_clearText 16 = .ok (.iload_n 1, 1) := by decide +kernel
theorem dX5_clearText_17 : decode cX5_clearText 17 = .ok (.ireturn, 1) := by decide +kernel
theorem dX5_runScript_0 : decode cX5_runScript 0 = .ok (.aload_n 0, 1) := by decide +kernel
theorem dX5_runScript_1 : decode cX5_runScript 1 = .ok (.getfield 31, 3) := by decide +kernel
theorem dX5_runScript_4 : decode cX5_runScript 4 = .ok (.invokevirtual 161, 3) := by decide +kernel
theorem dX5_runScript_7 : decode cX5_runScript 7 = .ok (.istore_n 1, 1) := by decide +kernel
theorem dX5_runScript_8 : decode cX5_runScript 8 = .ok (.iload_n 1, 1) := by decide +kernel
theorem dX5_runScript_9 : decode cX5_runScript 9 = .ok (.iconst (-1), 1) := by decide +kernel
theorem dX5_runScript_10 : decode cX5_runScript 10 = .ok (.if_icmp .eq 8, 3) := by decide +kernel
theorem dX5_runScript_13 : decode cX5_runScript 13 = .ok (.bipush (-10), 2) := by decide +kernel
theorem dX5_runScript_15 : decode cX5_runScript 15 = .ok (.iload_n 1, 1) := by decide +kernel
theorem dX5_runScript_16 : decode cX5_runScript 16 = .ok (.isub, 1) := by decide +kernel
theorem dX5_runScript_17 : decode cX5_runScript 17 = .ok (.ireturn, 1) := by decide +kernel
theorem dX5_runScript_18 : decode cX5_runScript 18 = .ok (.iconst 0, 1) := by decide +kernel
theorem dX5_runScript_19 : decode cX5_runScript 19 = .ok (.istore_n 2, 1) := by decide +kernel
theorem dX5_runScript_20 : decode cX5_runScript 20 = .ok (.iload_n 2, 1) := by decide +kernel
theorem dX5_runScript_21 : decode cX5_runScript 21 = .ok (.aload_n 0, 1) := by decide +kernel
theorem dX5_runScript_22 : decode cX5_runScript 22 = .ok (.getfield 31, 3) := by decide +kernel
theorem dX5_runScript_25 : decode cX5_runScript 25 = .ok (.getfield 164, 3) := by decide +kernel
theorem dX5_runScript_28 : decode cX5_runScript 28 = .ok (.if_icmp .ge 26, 3) := by decide +kernel
theorem dX5_runScript_31 : decode cX5_runScript 31 = .ok (.aload_n 0, 1) := by decide +kernel
theorem dX5_runScript_32 : decode cX5_runScript 32 = .ok (.iload_n 2, 1) := by decide +kernel
theorem dX5_runScript_33 : decode cX5_runScript 33 = .ok (.invokevirtual 167, 3) := by decide +kernel
theorem dX5_runScript_36 : decode cX5_runScript 36 = .ok (.invokestatic 170, 3) := by decide +kernel
theorem dX5_runScript_39 : decode cX5_runScript 39 = .ok (.ifCond .eq 9, 3) := by decide +kernel
theorem dX5_runScript_42 : decode cX5_runScript 42 = .ok (.sipush (-1000), 3) := by decide +kernel
theorem dX5_runScript_45 : decode cX5_runScript 45 = .ok (.iload_n 2, 1) := by decide +kernel
theorem dX5_runScript_46 : decode cX5_runScript 46 = .ok (.isub, 1) := by decide +kernel
theorem dX5_runScript_47 : decode cX5_runScript 47 = .ok (.ireturn, 1) := by decide +kernel
theorem dX5_runScript_48 : decode cX5_runScript 48 = .ok (.iinc 2 1, 3) := by decide +kernel
theorem dX5_runScript_51 : decode cX5_runScript 51 = .ok (.goto (-31), 3) := by decide +kernel
theorem dX5_runScript_54 : decode cX5_runScript 54 = .ok (.aload_n 0, 1) := by decide +kernel
theorem dX5_runScript_55 : decode cX5_runScript 55 = .ok (.getfield 31, 3) := by decide +kernel
theorem dX5_runScript_58 : decode cX5_runScript 58 = .ok (.getfield 164, 3) := by decide +kernel
theorem dX5_runScript_61 : decode cX5_runScript 61 = .ok (.ireturn, 1) := by decide +kernel
theorem dX5_digest_0 : decode cX5_digest 0 = .ok (.ldc2_w 173, 3) := by decide +kernel
theorem dX5_digest_3 : decode cX5_digest 3 = .ok (.lstore_n 1, 1) := by decide +kernel
theorem dX5_digest_4 : decode cX5_digest 4 = .ok (.iconst 0, 1) := by decide +kernel
theorem dX5_digest_5 : decode cX5_digest 5 = .ok (.istore_n 3, 1) := by decide +kernel
theorem dX5_digest_6 : decode cX5_digest 6 = .ok (.iload_n 3, 1) := by decide +kernel
theorem dX5_digest_7 : decode cX5_digest 7 = .ok (.iconst 3, 1) := by decide +kernel
theorem dX5_digest_8 : decode cX5_digest 8 = .ok (.if_icmp .ge 21, 3) := by decide +kernel
theorem dX5_digest_11 : decode cX5_digest 11 = .ok (.lload_n 1, 1) := by decide +kernel
theorem dX5_digest_12 : decode cX5_digest 12 = .ok (.aload_n 0, 1) := by decide +kernel
theorem dX5_digest_13 : decode cX5_digest 13 = .ok (.getfield 35, 3) := by decide +kernel
theorem dX5_digest_16 : decode cX5_digest 16 = .ok (.iload_n 3, 1) := by decide +kernel
theorem dX5_digest_17 : decode cX5_digest 17 = .ok (.iaload, 1) := by decide +kernel
theorem dX5_digest_18 : decode cX5_digest 18 = .ok (.i2l, 1) := by decide +kernel
theorem dX5_digest_19 : decode cX5_digest 19 = .ok (.invokestatic 175, 3) := by decide +kernel
theorem dX5_digest_22 : decode cX5_digest 22 = .ok (.lstore_n 1, 1) := by decide +kernel
theorem dX5_digest_23 : decode cX5_digest 23 = .ok (.iinc 3 1, 3) := by decide +kernel
theorem dX5_digest_26 : decode cX5_digest 26 = .ok (.goto (-20), 3) := by decide +kernel
theorem dX5_digest_29 : decode cX5_digest 29 = .ok (.lload_n 1, 1) := by decide +kernel
theorem dX5_digest_30 : decode cX5_digest 30 = .ok (.aload_n 0, 1) := by decide +kernel
theorem dX5_digest_31 : decode cX5_digest 31 = .ok (.getfield 31, 3) := by decide +kernel
theorem dX5_digest_34 : decode cX5_digest 34 = .ok (.getfield 158, 3) := by decide +kernel
theorem dX5_digest_37 : decode cX5_digest 37 = .ok (.i2l, 1) := by decide +kernel
theorem dX5_digest_38 : decode cX5_digest 38 = .ok (.invokestatic 175, 3) := by decide +kernel
theorem dX5_digest_41 : decode cX5_digest 41 = .ok (.lstore_n 1, 1) := by decide +kernel
theorem dX5_digest_42 : decode cX5_digest 42 = .ok (.lload_n 1, 1) := by decide +kernel
theorem dX5_digest_43 : decode cX5_digest 43 = .ok (.aload_n 0, 1) := by decide +kernel
theorem dX5_digest_44 : decode cX5_digest 44 = .ok (.getfield 152, 3) := by decide +kernel
theorem dX5_digest_47 : decode cX5_digest 47 = .ok (.i2l, 1) := by decide +kernel
theorem dX5_digest_48 : decode cX5_digest 48 = .ok (.invokestatic 175, 3) := by decide +kernel
theorem dX5_digest_51 : decode cX5_digest 51 = .ok (.lstore_n 1, 1) := by decide +kernel
theorem dX5_digest_52 : decode cX5_digest 52 = .ok (.lload_n 1, 1) := by decide +kernel
theorem dX5_digest_53 : decode cX5_digest 53 = .ok (.aload_n 0, 1) := by decide +kernel
theorem dX5_digest_54 : decode cX5_digest 54 = .ok (.getfield 39, 3) := by decide +kernel
theorem dX5_digest_57 : decode cX5_digest 57 = .ok (.i2l, 1) := by decide +kernel
theorem dX5_digest_58 : decode cX5_digest 58 = .ok (.invokestatic 175, 3) := by decide +kernel
theorem dX5_digest_61 : decode cX5_digest 61 = .ok (.lstore_n 1, 1) := by decide +kernel
theorem dX5_digest_62 : decode cX5_digest 62 = .ok (.lload_n 1, 1) := by decide +kernel
theorem dX5_digest_63 : decode cX5_digest 63 = .ok (.aload_n 0, 1) := by decide +kernel
theorem dX5_digest_64 : decode cX5_digest 64 = .ok (.getfield 43, 3) := by decide +kernel
theorem dX5_digest_67 : decode cX5_digest 67 = .ok (.i2l, 1) := by decide +kernel
theorem dX5_digest_68 : decode cX5_digest 68 = .ok (.invokestatic 175, 3) := by decide +kernel
theorem dX5_digest_71 : decode cX5_digest 71 = .ok (.lstore_n 1, 1) := by decide +kernel
theorem dX5_digest_72 : decode cX5_digest 72 = .ok (.lload_n 1, 1) := by decide +kernel
theorem dX5_digest_73 : decode cX5_digest 73 = .ok (.aload_n 0, 1) := by decide +kernel
theorem dX5_digest_74 : decode cX5_digest 74 = .ok (.getfield 24, 3) := by decide +kernel
theorem dX5_digest_77 : decode cX5_digest 77 = .ok (.getfield 149, 3) := by decide +kernel
theorem dX5_digest_80 : decode cX5_digest 80 = .ok (.i2l, 1) := by decide +kernel
theorem dX5_digest_81 : decode cX5_digest 81 = .ok (.invokestatic 175, 3) := by decide +kernel
theorem dX5_digest_84 : decode cX5_digest 84 = .ok (.lstore_n 1, 1) := by decide +kernel
theorem dX5_digest_85 : decode cX5_digest 85 = .ok (.lload_n 1, 1) := by decide +kernel
theorem dX5_digest_86 : decode cX5_digest 86 = .ok (.aload_n 0, 1) := by decide +kernel
theorem dX5_digest_87 : decode cX5_digest 87 = .ok (.getfield 179, 3) := by decide +kernel
theorem dX5_digest_90 : decode cX5_digest 90 = .ok (.i2l, 1) := by decide +kernel
theorem dX5_digest_91 : decode cX5_digest 91 = .ok (.invokestatic 175, 3) := by decide +kernel
theorem dX5_digest_94 : decode cX5_digest 94 = .ok (.lstore_n 1, 1) := by decide +kernel
theorem dX5_digest_95 : decode cX5_digest 95 = .ok (.iconst 0, 1) := by decide +kernel
theorem dX5_digest_96 : decode cX5_digest 96 = .ok (.istore_n 3, 1) := by decide +kernel
theorem dX5_digest_97 : decode cX5_digest 97 = .ok (.iload_n 3, 1) := by decide +kernel
theorem dX5_digest_98 : decode cX5_digest 98 = .ok (.aload_n 0, 1) := by decide +kernel
theorem dX5_digest_99 : decode cX5_digest 99 = .ok (.getfield 179, 3) := by decide +kernel
theorem dX5_digest_102 : decode cX5_digest 102 = .ok (.if_icmp .ge 36, 3) := by decide +kernel
theorem dX5_digest_105 : decode cX5_digest 105 = .ok (.aload_n 0, 1) := by decide +kernel
theorem dX5_digest_106 : decode cX5_digest 106 = .ok (.iload_n 3, 1) := by decide +kernel
theorem dX5_digest_107 : decode cX5_digest 107 = .ok (.invokevirtual 142, 3) := by decide +kernel
theorem dX5_digest_110 : decode cX5_digest 110 = .ok (.astore 4, 2) := by decide +kernel
theorem dX5_digest_112 : decode cX5_digest 112 = .ok (.aload 4, 2) := by decide +kernel
theorem dX5_digest_114 : decode cX5_digest 114 = .ok (.ifnonnull 7, 3) := by decide +kernel
theorem dX5_digest_117 : decode cX5_digest 117 = .ok (.lload_n 1, 1) := by decide +kernel
theorem dX5_digest_118 : decode cX5_digest 118 = .ok (.goto 13, 3) := by decide +kernel
theorem dX5_digest_121 : decode cX5_digest 121 = .ok (.aload 4, 2) := by decide +kernel
theorem dX5_digest_123 : decode cX5_digest 123 = .ok (.lload_n 1, 1) := by decide +kernel
theorem dX5_digest_124 : decode cX5_digest 124 = .ok (.aload_n 0, 1) := by decide +kernel
theorem dX5_digest_125 : decode cX5_digest 125 = .ok (.getfield 24, 3) := by decide +kernel
theorem dX5_digest_128 : decode cX5_digest 128 = .ok (.invokevirtual 182, 3) := by decide +kernel
theorem dX5_digest_131 : decode cX5_digest 131 = .ok (.lstore_n 1, 1) := by decide +kernel
theorem dX5_digest_132 : decode cX5_digest 132 = .ok (.iinc 3 1, 3) := by decide +kernel
theorem dX5_digest_135 : decode cX5_digest 135 = .ok (.goto (-38), 3) := by decide +kernel
theorem dX5_digest_138 : decode cX5_digest 138 = .ok (.lload_n 1, 1) := by decide +kernel
theorem dX5_digest_139 : decode cX5_digest 139 = .ok (.aload_n 0, 1) := by decide +kernel
theorem dX5_digest_140 : decode cX5_digest 140 = .ok (.getfield 146, 3) := by decide +kernel
theorem dX5_digest_143 : decode cX5_digest 143 = .ok (.i2l, 1) := by decide +kernel
theorem dX5_digest_144 : decode cX5_digest 144 = .ok (.invokestatic 175, 3) := by decide +kernel
theorem dX5_digest_147 : decode cX5_digest 147 = .ok (.lstore_n 1, 1) := by decide +kernel
theorem dX5_digest_148 : decode cX5_digest 148 = .ok (.iconst 0, 1) := by decide +kernel
theorem dX5_digest_149 : decode cX5_digest 149 = .ok (.istore_n 3, 1) := by decide +kernel
theorem dX5_digest_150 : decode cX5_digest 150 = .ok (.iload_n 3, 1) := by decide +kernel
theorem dX5_digest_151 : decode cX5_digest 151 = .ok (.aload_n 0, 1) := by decide +kernel
theorem dX5_digest_152 : decode cX5_digest 152 = .ok (.getfield 146, 3) := by decide +kernel
theorem dX5_digest_155 : decode cX5_digest 155 = .ok (.if_icmp .ge 42, 3) := by decide +kernel
theorem dX5_digest_158 : decode cX5_digest 158 = .ok (.lload_n 1, 1) := by decide +kernel
theorem dX5_digest_159 : decode cX5_digest 159 = .ok (.aload_n 0, 1) := by decide +kernel
theorem dX5_digest_160 : decode cX5_digest 160 = .ok (.iload_n 3, 1) := by decide +kernel
theorem dX5_digest_161 : decode cX5_digest 161 = .ok (.invokevirtual 186, 3) := by decide +kernel
theorem dX5_digest_164 : decode cX5_digest 164 = .ok (.i2l, 1) := by decide +kernel
theorem dX5_digest_165 : decode cX5_digest 165 = .ok (.invokestatic 175, 3) := by decide +kernel
theorem dX5_digest_168 : decode cX5_digest 168 = .ok (.lstore_n 1, 1) := by decide +kernel
theorem dX5_digest_169 : decode cX5_digest 169 = .ok (.lload_n 1, 1) := by decide +kernel
theorem dX5_digest_170 : decode cX5_digest 170 = .ok (.aload_n 0, 1) := by decide +kernel
theorem dX5_digest_171 : decode cX5_digest 171 = .ok (.iload_n 3, 1) := by decide +kernel
theorem dX5_digest_172 : decode cX5_digest 172 = .ok (.invokevirtual 189, 3) := by decide +kernel
theorem dX5_digest_175 : decode cX5_digest 175 = .ok (.i2l, 1) := by decide +kernel
theorem dX5_digest_176 : decode cX5_digest 176 = .ok (.invokestatic 175, 3) := by decide +kernel
theorem dX5_digest_179 : decode cX5_digest 179 = .ok (.lstore_n 1, 1) := by decide +kernel
theorem dX5_digest_180 : decode cX5_digest 180 = .ok (.lload_n 1, 1) := by decide +kernel
theorem dX5_digest_181 : decode cX5_digest 181 = .ok (.aload_n 0, 1) := by decide +kernel
theorem dX5_digest_182 : decode cX5_digest 182 = .ok (.iload_n 3, 1) := by decide +kernel
theorem dX5_digest_183 : decode cX5_digest 183 = .ok (.invokevirtual 192, 3) := by decide +kernel
theorem dX5_digest_186 : decode cX5_digest 186 = .ok (.i2l, 1) := by decide +kernel
theorem dX5_digest_187 : decode cX5_digest 187 = .ok (.invokestatic 175, 3) := by decide +kernel
theorem dX5_digest_190 : decode cX5_digest 190 = .ok (.lstore_n 1, 1) := by decide +kernel
theorem dX5_digest_191 : decode cX5_digest 191 = .ok (.iinc 3 1, 3) := by decide +kernel
theorem dX5_digest_194 : decode cX5_digest 194 = .ok (.goto (-44), 3) := by decide +kernel
theorem dX5_digest_197 : decode cX5_digest 197 = .ok (.lload_n 1, 1) := by decide +kernel
theorem dX5_digest_198 : decode cX5_digest 198 = .ok (.lreturn, 1) := by decide +kernel
theorem dX5_performAllocate_0 : decode cX5_performAllocate 0 = .ok (.iload_n 1, 1) := by decide +kernel
theorem dX5_performAllocate_1 : decode cX5_performAllocate 1 = .ok (.iconst 1, 1) := by decide +kernel
theorem dX5_performAllocate_2 : decode cX5_performAllocate 2 = .ok (.if_icmp .lt 9, 3) := by decide +kernel
theorem dX5_performAllocate_5 : decode cX5_performAllocate 5 = .ok (.iload_n 1, 1) := by decide +kernel
theorem dX5_performAllocate_6 : decode cX5_performAllocate 6 = .ok (.bipush 8, 2) := by decide +kernel
theorem dX5_performAllocate_8 : decode cX5_performAllocate 8 = .ok (.if_icmp .le 6, 3) := by decide +kernel
theorem dX5_performAllocate_11 : decode cX5_performAllocate 11 = .ok (.bipush (-2), 2) := by decide +kernel
theorem dX5_performAllocate_13 : decode cX5_performAllocate 13 = .ok (.ireturn, 1) := by decide +kernel
theorem dX5_performAllocate_14 : decode cX5_performAllocate 14 = .ok (.aload_n 0, 1) := by decide +kernel
theorem dX5_performAllocate_15 : decode cX5_performAllocate 15 = .ok (.getfield 179, 3) := by decide +kernel
theorem dX5_performAllocate_18 : decode cX5_performAllocate 18 = .ok (.bipush 10, 2) := by decide +kernel
theorem dX5_performAllocate_20 : decode cX5_performAllocate 20 = .ok (.if_icmp .ge 12, 3) := by decide +kernel
theorem dX5_performAllocate_23 : decode cX5_performAllocate 23 = .ok (.aload_n 0, 1) := by decide +kernel
theorem dX5_performAllocate_24 : decode cX5_performAllocate 24 = .ok (.getfield 146, 3) := by decide +kernel
theorem dX5_performAllocate_27 : decode cX5_performAllocate 27 = .ok (.bipush 60, 2) := by decide +kernel
theorem dX5_performAllocate_29 : decode cX5_performAllocate 29 = .ok (.if_icmp .lt 6, 3) := by decide +kernel
theorem dX5_performAllocate_32 : decode cX5_performAllocate 32 = .ok (.bipush (-4), 2) := by decide +kernel
theorem dX5_performAllocate_34 : decode cX5_performAllocate 34 = .ok (.ireturn, 1) := by decide +kernel
theorem dX5_performAllocate_35 : decode cX5_performAllocate 35 = .ok (.new 9, 3) := by decide +kernel
theorem dX5_performAllocate_38 : decode cX5_performAllocate 38 = .ok (.dup, 1) := by decide +kernel
theorem dX5_performAllocate_39 : decode cX5_performAllocate 39 = .ok (.aload_n 0, 1) := by decide +kernel
theorem dX5_performAllocate_40 : decode cX5_performAllocate 40 = .ok (.getfield 179, 3) := by decide +kernel
theorem dX5_performAllocate_43 : decode cX5_performAllocate 43 = .ok (.iload_n 1, 1) := by decide +kernel
theorem dX5_performAllocate_44 : decode cX5_performAllocate 44 = .ok (.aload_n 0, 1) := by decide +kernel
theorem dX5_performAllocate_45 : decode cX5_performAllocate 45 = .ok (.getfield 146, 3) := by decide +kernel
theorem dX5_performAllocate_48 : decode cX5_performAllocate 48 = .ok (.invokespecial 195, 3) := by decide +kernel
theorem dX5_performAllocate_51 : decode cX5_performAllocate 51 = .ok (.astore_n 2, 1) := by decide +kernel
theorem dX5_performAllocate_52 : decode cX5_performAllocate 52 = .ok (.aload_n 0, 1) := by decide +kernel
theorem dX5_performAllocate_53 : decode cX5_performAllocate 53 = .ok (.getfield 11, 3) := by decide +kernel
theorem dX5_performAllocate_56 : decode cX5_performAllocate 56 = .ok (.aload_n 0, 1) := by decide +kernel
theorem dX5_performAllocate_57 : decode cX5_performAllocate 57 = .ok (.getfield 179, 3) := by decide +kernel
theorem dX5_performAllocate_60 : decode cX5_performAllocate 60 = .ok (.aload_n 2, 1) := by decide +kernel
theorem dX5_performAllocate_61 : decode cX5_performAllocate 61 = .ok (.aastore, 1) := by decide +kernel
theorem dX5_performAllocate_62 : decode cX5_performAllocate 62 = .ok (.aload_n 0, 1) := by decide +kernel
theorem dX5_performAllocate_63 : decode cX5_performAllocate 63 = .ok (.dup, 1) := by decide +kernel
theorem dX5_performAllocate_64 : decode cX5_performAllocate 64 = .ok (.getfield 179, 3) := by decide +kernel
theorem dX5_performAllocate_67 : decode cX5_performAllocate 67 = .ok (.iconst 1, 1) := by decide +kernel
theorem dX5_performAllocate_68 : decode cX5_performAllocate 68 = .ok (.iadd, 1) := by decide +kernel
theorem dX5_performAllocate_69 : decode cX5_performAllocate 69 = .ok (.putfield 179, 3) := by decide +kernel
theorem dX5_performAllocate_72 : decode cX5_performAllocate 72 = .ok (.aload_n 0, 1) := by decide +kernel
theorem dX5_performAllocate_73 : decode cX5_performAllocate 73 = .ok (.aload_n 2, 1) := by decide +kernel
theorem dX5_performAllocate_74 : decode cX5_performAllocate 74 = .ok (.iconst (-1), 1) := by decide +kernel
theorem dX5_performAllocate_75 : decode cX5_performAllocate 75 = .ok (.invokevirtual 198, 3) := by decide +kernel
theorem dX5_performAllocate_78 : decode cX5_performAllocate 78 = .ok (.ireturn, 1) := by decide +kernel
theorem dX5_performRead_0 : decode cX5_performRead 0 = .ok (.aload_n 0, 1) := by decide +kernel
theorem dX5_performRead_1 : decode cX5_performRead 1 = .ok (.iload_n 1, 1) := by decide +kernel
theorem dX5_performRead_2 : decode cX5_performRead 2 = .ok (.invokevirtual 75, 3) := by decide +kernel
theorem dX5_performRead_5 : decode cX5_performRead 5 = .ok (.astore_n 3, 1) := by decide +kernel
theorem dX5_performRead_6 : decode cX5_performRead 6 = .ok (.aload_n 3, 1) := by decide +kernel
theorem dX5_performRead_7 : decode cX5_performRead 7 = .ok (.iload_n 2, 1) := by decide +kernel
theorem dX5_performRead_8 : decode cX5_performRead 8 = .ok (.invokestatic 79, 3) := by decide +kernel
theorem dX5_performRead_11 : decode cX5_performRead 11 = .ok (.astore 4, 2) := by decide +kernel
theorem dX5_performRead_13 : decode cX5_performRead 13 = .ok (.aload_n 3, 1) := by decide +kernel
theorem dX5_performRead_14 : decode cX5_performRead 14 = .ok (.ifnull 8, 3) := by decide +kernel
theorem dX5_performRead_17 : decode cX5_performRead 17 = .ok (.aload 4, 2) := by decide +kernel
theorem dX5_performRead_19 : decode cX5_performRead 19 = .ok (.ifnonnull 6, 3) := by decide +kernel
theorem dX5_performRead_22 : decode cX5_performRead 22 = .ok (.bipush (-2), 2) := by decide +kernel
theorem dX5_performRead_24 : decode cX5_performRead 24 = .ok (.ireturn, 1) := by decide +kernel
theorem dX5_performRead_25 : decode cX5_performRead 25 = .ok (.aload_n 3, 1) := by decide +kernel
theorem dX5_performRead_26 : decode cX5_performRead 26 = .ok (.getfield 83, 3) := by decide +kernel
theorem dX5_performRead_29 : decode cX5_performRead 29 = .ok (.getfield 87, 3) := by decide +kernel
theorem dX5_performRead_32 : decode cX5_performRead 32 = .ok (.ifCond .eq 10, 3) := by decide +kernel
theorem dX5_performRead_35 : decode cX5_performRead 35 = .ok (.aload_n 0, 1) := by decide +kernel
theorem dX5_performRead_36 : decode cX5_performRead 36 = .ok (.iconst 3, 1) := by decide +kernel
theorem dX5_performRead_37 : decode cX5_performRead 37 = .ok (.iload_n 2, 1) := by decide +kernel
theorem dX5_performRead_38 : decode cX5_performRead 38 = .ok (.invokevirtual 202, 3) := by decide +kernel
theorem dX5_performRead_41 : decode cX5_performRead 41 = .ok (.ireturn, 1) := by decide +kernel
theorem dX5_performRead_42 : decode cX5_performRead 42 = .ok (.aload 4, 2) := by decide +kernel
theorem dX5_performRead_44 : decode cX5_performRead 44 = .ok (.iload_n 1, 1) := by decide +kernel
theorem dX5_performRead_45 : decode cX5_performRead 45 = .ok (.aload_n 0, 1) := by decide +kernel
theorem dX5_performRead_46 : decode cX5_performRead 46 = .ok (.getfield 24, 3) := by decide +kernel
theorem dX5_performRead_49 : decode cX5_performRead 49 = .ok (.invokevirtual 91, 3) := by decide +kernel
theorem dX5_performRead_52 : decode cX5_performRead 52 = .ok (.istore 5, 2) := by decide +kernel
theorem dX5_performRead_54 : decode cX5_performRead 54 = .ok (.iload 5, 2) := by decide +kernel
theorem dX5_performRead_56 : decode cX5_performRead 56 = .ok (.ifCond .eq 11, 3) := by decide +kernel
theorem dX5_performRead_59 : decode cX5_performRead 59 = .ok (.aload_n 0, 1) := by decide +kernel
theorem dX5_performRead_60 : decode cX5_performRead 60 = .ok (.iload 5, 2) := by decide +kernel
theorem dX5_performRead_62 : decode cX5_performRead 62 = .ok (.iload_n 2, 1) := by decide +kernel
theorem dX5_performRead_63 : decode cX5_performRead 63 = .ok (.invokevirtual 202, 3) := by decide +kernel
theorem dX5_performRead_66 : decode cX5_performRead 66 = .ok (.ireturn, 1) := by decide +kernel
theorem dX5_performRead_67 : decode cX5_performRead 67 = .ok (.aload 4, 2) := by decide +kernel
theorem dX5_performRead_69 : decode cX5_performRead 69 = .ok (.iload_n 1, 1) := by decide +kernel
theorem dX5_performRead_70 : decode cX5_performRead 70 = .ok (.invokevirtual 205, 3) := by decide +kernel
theorem dX5_performRead_73 : decode cX5_performRead 73 = .ok (.aload 4, 2) := by decide +kernel
theorem dX5_performRead_75 : decode cX5_performRead 75 = .ok (.getfield 209, 3) := by decide +kernel
theorem dX5_performRead_78 : decode cX5_performRead 78 = .ok (.ireturn, 1) := by decide +kernel
theorem dX5_performWrite_0 : decode cX5_performWrite 0 = .ok (.aload_n 0, 1) := by decide +kernel
theorem dX5_performWrite_1 : decode cX5_performWrite 1 = .ok (.iload_n 1, 1) := by decide +kernel
theorem dX5_performWrite_2 : decode cX5_performWrite 2 = .ok (.invokevirtual 75, 3) := by decide +kernel
theorem dX5_performWrite_5 : decode cX5_performWrite 5 = .ok (.astore 4, 2) := by decide +kernel
theorem dX5_performWrite_7 : decode cX5_performWrite 7 = .ok (.aload 4, 2) := by decide +kernel
theorem dX5_performWrite_9 : decode cX5_performWrite 9 = .ok (.iload_n 2, 1) := by decide +kernel
theorem dX5_performWrite_10 : decode cX5_performWrite 10 = .ok (.invokestatic 79, 3) := by decide +kernel
theorem dX5_performWrite_13 : decode cX5_performWrite 13 = .ok (.astore 5, 2) := by decide +kernel
theorem dX5_performWrite_15 : decode cX5_performWrite 15 = .ok (.aload 4, 2) := by decide +kernel
theorem dX5_performWrite_17 : decode cX5_performWrite 17 = .ok (.ifnull 18, 3) := by decide +kernel
theorem dX5_performWrite_20 : decode cX5_performWrite 20 = .ok (.aload 5, 2) := by decide +kernel
theorem dX5_performWrite_22 : decode cX5_performWrite 22 = .ok (.ifnull 13, 3) := by decide +kernel
theorem dX5_performWrite_25 : decode cX5_performWrite 25 = .ok (.iload_n 3, 1) := by decide +kernel
theorem dX5_performWrite_26 : decode cX5_performWrite 26 = .ok (.ifCond .lt 9, 3) := by decide +kernel
theorem dX5_performWrite_29 : decode cX5_performWrite 29 = .ok (.iload_n 3, 1) := by decide +kernel
theorem dX5_performWrite_30 : decode cX5_performWrite 30 = .ok (.bipush 99, 2) := by decide +kernel
theorem dX5_performWrite_32 : decode cX5_performWrite 32 = .ok (.if_icmp .le 6, 3) := by decide +kernel
theorem dX5_performWrite_35 : decode cX5_performWrite 35 = .ok (.bipush (-2), 2) := by decide +kernel
theorem dX5_performWrite_37 : decode cX5_performWrite 37 = .ok (.ireturn, 1) := by decide +kernel
theorem dX5_performWrite_38 : decode cX5_performWrite 38 = .ok (.aload 4, 2) := by decide +kernel
theorem dX5_performWrite_40 : decode cX5_performWrite 40 = .ok (.getfield 83, 3) := by decide +kernel
theorem dX5_performWrite_43 : decode cX5_performWrite 43 = .ok (.getfield 87, 3) := by decide +kernel
theorem dX5_performWrite_46 : decode cX5_performWrite 46 = .ok (.ifCond .eq 10, 3) := by decide +kernel
theorem dX5_performWrite_49 : decode cX5_performWrite 49 = .ok (.aload_n 0, 1) := by decide +kernel
theorem dX5_performWrite_50 : decode cX5_performWrite 50 = .ok (.iconst 3, 1) := by decide +kernel
theorem dX5_performWrite_51 : decode cX5_performWrite 51 = .ok (.iload_n 2, 1) := by decide +kernel
theorem dX5_performWrite_52 : decode cX5_performWrite 52 = .ok (.invokevirtual 202, 3) := by decide +kernel
theorem dX5_performWrite_55 : decode cX5_performWrite 55 = .ok (.ireturn, 1) := by decide +kernel
theorem dX5_performWrite_56 : decode cX5_performWrite 56 = .ok (.aload 5, 2) := by decide +kernel
theorem dX5_performWrite_58 : decode cX5_performWrite 58 = .ok (.iload_n 1, 1) := by decide +kernel
theorem dX5_performWrite_59 : decode cX5_performWrite 59 = .ok (.aload_n 0, 1) := by decide +kernel
theorem dX5_performWrite_60 : decode cX5_performWrite 60 = .ok (.getfield 24, 3) := by decide +kernel
theorem dX5_performWrite_63 : decode cX5_performWrite 63 = .ok (.invokevirtual 97, 3) := by decide +kernel
theorem dX5_performWrite_66 : decode cX5_performWrite 66 = .ok (.istore 6, 2) := by decide +kernel
theorem dX5_performWrite_68 : decode cX5_performWrite 68 = .ok (.iload 6, 2) := by decide +kernel
theorem dX5_performWrite_70 : decode cX5_performWrite 70 = .ok (.ifCond .eq 11, 3) := by decide +kernel
theorem dX5_performWrite_73 : decode cX5_performWrite 73 = .ok (.aload_n 0, 1) := by decide +kernel
theorem dX5_performWrite_74 : decode cX5_performWrite 74 = .ok (.iload 6, 2) := by decide +kernel
theorem dX5_performWrite_76 : decode cX5_performWrite 76 = .ok (.iload_n 2, 1) := by decide +kernel
theorem dX5_performWrite_77 : decode cX5_performWrite 77 = .ok (.invokevirtual 202, 3) := by decide +kernel
theorem dX5_performWrite_80 : decode cX5_performWrite 80 = .ok (.ireturn, 1) := by decide +kernel
theorem dX5_performWrite_81 : decode cX5_performWrite 81 = .ok (.aload 5, 2) := by decide +kernel
theorem dX5_performWrite_83 : decode cX5_performWrite 83 = .ok (.iload_n 1, 1) := by decide +kernel
theorem dX5_performWrite_84 : decode cX5_performWrite 84 = .ok (.invokevirtual 212, 3) := by decide +kernel
theorem dX5_performWrite_87 : decode cX5_performWrite 87 = .ok (.aload 5, 2) := by decide +kernel
theorem dX5_performWrite_89 : decode cX5_performWrite 89 = .ok (.getfield 209, 3) := by decide +kernel
theorem dX5_performWrite_92 : decode cX5_performWrite 92 = .ok (.istore 7, 2) := by decide +kernel
theorem dX5_performWrite_94 : decode cX5_performWrite 94 = .ok (.aload 5, 2) := by decide +kernel
theorem dX5_performWrite_96 : decode cX5_performWrite 96 = .ok (.iload_n 3, 1) := by decide +kernel
theorem dX5_performWrite_97 : decode cX5_performWrite 97 = .ok (.putfield 209, 3) := by decide +kernel
theorem dX5_performWrite_100 : decode cX5_performWrite 100 = .ok (.iload 7, 2) := by decide +kernel
theorem dX5_performWrite_102 : decode cX5_performWrite 102 = .ok (.ireturn, 1) := by decide +kernel
theorem dX5_performReborrow_0 : decode cX5_performReborrow 0 = .ok (.aload_n 0, 1) := by decide +kernel
theorem dX5_performReborrow_1 : decode cX5_performReborrow 1 = .ok (.iload_n 1, 1) := by decide +kernel
theorem dX5_performReborrow_2 : decode cX5_performReborrow 2 = .ok (.invokevirtual 75, 3) := by decide +kernel
theorem dX5_performReborrow_5 : decode cX5_performReborrow 5 = .ok (.astore 6, 2) := by decide +kernel
theorem dX5_performReborrow_7 : decode cX5_performReborrow 7 = .ok (.aload 6, 2) := by decide +kernel
theorem dX5_performReborrow_9 : decode cX5_performReborrow 9 = .ok (.ifnull 23, 3) := by decide +kernel
theorem dX5_performReborrow_12 : decode cX5_performReborrow 12 = .ok (.iload_n 2, 1) := by decide +kernel
theorem dX5_performReborrow_13 : decode cX5_performReborrow 13 = .ok (.ifCond .lt 19, 3) := by decide +kernel
theorem dX5_performReborrow_16 : decode cX5_performReborrow 16 = .ok (.iload_n 2, 1) := by decide +kernel
theorem dX5_performReborrow_17 : decode cX5_performReborrow 17 = .ok (.iconst 2, 1) := by decide +kernel
theorem dX5_performReborrow_18 : decode cX5_performReborrow 18 = .ok (.if_icmp .gt 14, 3) := by decide +kernel
theorem dX5_performReborrow_21 : decode cX5_performReborrow 21 = .ok (.iload 5, 2) := by decide +kernel
theorem dX5_performReborrow_23 : decode cX5_performReborrow 23 = .ok (.ifCond .lt 9, 3) := by decide +kernel
theorem dX5_performReborrow_26 : decode cX5_performReborrow 26 = .ok (.iload 5, 2) := by decide +kernel
theorem dX5_performReborrow_28 : decode cX5_performReborrow 28 = .ok (.iconst 1, 1) := by decide +kernel
theorem dX5_performReborrow_29 : decode cX5_performReborrow 29 = .ok (.if_icmp .le 6, 3) := by decide +kernel
theorem dX5_performReborrow_32 : decode cX5_performReborrow 32 = .ok (.bipush (-2), 2) := by decide +kernel
theorem dX5_performReborrow_34 : decode cX5_performReborrow 34 = .ok (.ireturn, 1) := by decide +kernel
theorem dX5_performReborrow_35 : decode cX5_performReborrow 35 = .ok (.aload 6, 2) := by decide +kernel
theorem dX5_performReborrow_37 : decode cX5_performReborrow 37 = .ok (.getfield 83, 3) := by decide +kernel
theorem dX5_performReborrow_40 : decode cX5_performReborrow 40 = .ok (.astore 7, 2) := by decide +kernel
theorem dX5_performReborrow_42 : decode cX5_performReborrow 42 = .ok (.aload 7, 2) := by decide +kernel
theorem dX5_performReborrow_44 : decode cX5_performReborrow 44 = .ok (.iload_n 3, 1) := by decide +kernel
theorem dX5_performReborrow_45 : decode cX5_performReborrow 45 = .ok (.iload 4, 2) := by decide +kernel
theorem dX5_performReborrow_47 : decode cX5_performReborrow 47 = .ok (.invokevirtual 215, 3) := by decide +kernel
theorem dX5_performReborrow_50 : decode cX5_performReborrow 50 = .ok (.ifCond .ne 6, 3) := by decide +kernel
theorem dX5_performReborrow_53 : decode cX5_performReborrow 53 = .ok (.bipush (-2), 2) := by decide +kernel
theorem dX5_performReborrow_55 : decode cX5_performReborrow 55 = .ok (.ireturn, 1) := by decide +kernel
theorem dX5_performReborrow_56 : decode cX5_performReborrow 56 = .ok (.iload 5, 2) := by decide +kernel
theorem dX5_performReborrow_58 : decode cX5_performReborrow 58 = .ok (.iconst 1, 1) := by decide +kernel
theorem dX5_performReborrow_59 : decode cX5_performReborrow 59 = .ok (.if_icmp .ne 16, 3) := by decide +kernel
theorem dX5_performReborrow_62 : decode cX5_performReborrow 62 = .ok (.aload_n 0, 1) := by decide +kernel
theorem dX5_performReborrow_63 : decode cX5_performReborrow 63 = .ok (.getfield 24, 3) := by decide +kernel
theorem dX5_performReborrow_66 : decode cX5_performReborrow 66 = .ok (.getfield 149, 3) := by decide +kernel
theorem dX5_performReborrow_69 : decode cX5_performReborrow 69 = .ok (.ifCond .ne 6, 3) := by decide +kernel
theorem dX5_performReborrow_72 : decode cX5_performReborrow 72 = .ok (.bipush (-3), 2) := by decide +kernel
theorem dX5_performReborrow_74 : decode cX5_performReborrow 74 = .ok (.ireturn, 1) := by decide +kernel
theorem dX5_performReborrow_75 : decode cX5_performReborrow 75 = .ok (.aload 7, 2) := by decide +kernel
theorem dX5_performReborrow_77 : decode cX5_performReborrow 77 = .ok (.getfield 87, 3) := by decide +kernel
theorem dX5_performReborrow_80 : decode cX5_performReborrow 80 = .ok (.ifCond .eq 10, 3) := by decide +kernel
theorem dX5_performReborrow_83 : decode cX5_performReborrow 83 = .ok (.aload_n 0, 1) := by decide +kernel
theorem dX5_performReborrow_84 : decode cX5_performReborrow 84 = .ok (.iconst 3, 1) := by decide +kernel
theorem dX5_performReborrow_85 : decode cX5_performReborrow 85 = .ok (.iload_n 3, 1) := by decide +kernel
theorem dX5_performReborrow_86 : decode cX5_performReborrow 86 = .ok (.invokevirtual 202, 3) := by decide +kernel
theorem dX5_performReborrow_89 : decode cX5_performReborrow 89 = .ok (.ireturn, 1) := by decide +kernel
theorem dX5_performReborrow_90 : decode cX5_performReborrow 90 = .ok (.aload_n 0, 1) := by decide +kernel
theorem dX5_performReborrow_91 : decode cX5_performReborrow 91 = .ok (.getfield 146, 3) := by decide +kernel
theorem dX5_performReborrow_94 : decode cX5_performReborrow 94 = .ok (.bipush 60, 2) := by decide +kernel
theorem dX5_performReborrow_96 : decode cX5_performReborrow 96 = .ok (.if_icmp .ge 7, 3) := by decide +kernel
theorem dX5_performReborrow_99 : decode cX5_performReborrow 99 = .ok (.iconst 1, 1) := by decide +kernel
theorem dX5_performReborrow_100 : decode cX5_performReborrow 100 = .ok (.goto 4, 3) := by decide +kernel
theorem dX5_performReborrow_103 : decode cX5_performReborrow 103 = .ok (.iconst 0, 1) := by decide +kernel
theorem dX5_performReborrow_104 : decode cX5_performReborrow 104 = .ok (.istore 8, 2) := by decide +kernel
theorem dX5_performReborrow_106 : decode cX5_performReborrow 106 = .ok (.iload_n 3, 1) := by decide +kernel
theorem dX5_performReborrow_107 : decode cX5_performReborrow 107 = .ok (.istore 9, 2) := by decide +kernel
theorem dX5_performReborrow_109 : decode cX5_performReborrow 109 = .ok (.iload 9, 2) := by decide +kernel
theorem dX5_performReborrow_111 : decode cX5_performReborrow 111 = .ok (.iload_n 3, 1) := by decide +kernel
theorem dX5_performReborrow_112 : decode cX5_performReborrow 112 = .ok (.iload 4, 2) := by decide +kernel
theorem dX5_performReborrow_114 : decode cX5_performReborrow 114 = .ok (.iadd, 1) := by decide +kernel
theorem dX5_performReborrow_115 : decode cX5_performReborrow 115 = .ok (.if_icmp .ge 70, 3) := by decide +kernel
theorem dX5_performReborrow_118 : decode cX5_performReborrow 118 = .ok (.aload 7, 2) := by decide +kernel
theorem dX5_performReborrow_120 : decode cX5_performReborrow 120 = .ok (.getfield 219, 3) := by decide +kernel
theorem dX5_performReborrow_123 : decode cX5_performReborrow 123 = .ok (.iload 9, 2) := by decide +kernel
theorem dX5_performReborrow_125 : decode cX5_performReborrow 125 = .ok (.aaload, 1) := by decide +kernel
theorem dX5_performReborrow_126 : decode cX5_performReborrow 126 = .ok (.iload_n 2, 1) := by decide +kernel
theorem dX5_performReborrow_127 : decode cX5_performReborrow 127 = .ok (.iload_n 1, 1) := by decide +kernel
theorem dX5_performReborrow_128 : decode cX5_performReborrow 128 = .ok (.aload_n 0, 1) := by decide +kernel
theorem dX5_performReborrow_129 : decode cX5_performReborrow 129 = .ok (.getfield 24, 3) := by decide +kernel
theorem dX5_performReborrow_132 : decode cX5_performReborrow 132 = .ok (.invokevirtual 223, 3) := by decide +kernel
theorem dX5_performReborrow_135 : decode cX5_performReborrow 135 = .ok (.istore 10, 2) := by decide +kernel
theorem dX5_performReborrow_137 : decode cX5_performReborrow 137 = .ok (.iload 10, 2) := by decide +kernel
theorem dX5_performReborrow_139 : decode cX5_performReborrow 139 = .ok (.ifCond .eq 12, 3) := by decide +kernel
theorem dX5_performReborrow_142 : decode cX5_performReborrow 142 = .ok (.aload_n 0, 1) := by decide +kernel
theorem dX5_performReborrow_143 : decode cX5_performReborrow 143 = .ok (.iload 10, 2) := by decide +kernel
theorem dX5_performReborrow_145 : decode cX5_performReborrow 145 = .ok (.iload 9, 2) := by decide +kernel
theorem dX5_performReborrow_147 : decode cX5_performReborrow 147 = .ok (.invokevirtual 202, 3) := by decide +kernel
theorem dX5_performReborrow_150 : decode cX5_performReborrow 150 = .ok (.ireturn, 1) := by decide +kernel
theorem dX5_performReborrow_151 : decode cX5_performReborrow 151 = .ok (.iload 8, 2) := by decide +kernel
theorem dX5_performReborrow_153 : decode cX5_performReborrow 153 = .ok (.ifCond .eq 23, 3) := by decide +kernel
theorem dX5_performReborrow_156 : decode cX5_performReborrow 156 = .ok (.aload 7, 2) := by decide +kernel
theorem dX5_performReborrow_158 : decode cX5_performReborrow 158 = .ok (.getfield 219, 3) := by decide +kernel
theorem dX5_performReborrow_161 : decode cX5_performReborrow 161 = .ok (.iload 9, 2) := by decide +kernel
theorem dX5_performReborrow_163 : decode cX5_performReborrow 163 = .ok (.aaload, 1) := by decide +kernel
theorem dX5_performReborrow_164 : decode cX5_performReborrow 164 = .ok (.iload_n 2, 1) := by decide +kernel
theorem dX5_performReborrow_165 : decode cX5_performReborrow 165 = .ok (.iload_n 1, 1) := by decide +kernel
theorem dX5_performReborrow_166 : decode cX5_performReborrow 166 = .ok (.invokevirtual 227, 3) := by decide +kernel
theorem dX5_performReborrow_169 : decode cX5_performReborrow 169 = .ok (.ifCond .eq 7, 3) := by decide +kernel
theorem dX5_performReborrow_172 : decode cX5_performReborrow 172 = .ok (.iconst 1, 1) := by decide +kernel
theorem dX5_performReborrow_173 : decode cX5_performReborrow 173 = .ok (.goto 4, 3) := by decide +kernel
theorem dX5_performReborrow_176 : decode cX5_performReborrow 176 = .ok (.iconst 0, 1) := by decide +kernel
theorem dX5_performReborrow_177 : decode cX5_performReborrow 177 = .ok (.istore 8, 2) := by decide +kernel
theorem dX5_performReborrow_179 : decode cX5_performReborrow 179 = .ok (.iinc 9 1, 3) := by decide +kernel
theorem dX5_performReborrow_182 : decode cX5_performReborrow 182 = .ok (.goto (-73), 3) := by decide +kernel
theorem dX5_performReborrow_185 : decode cX5_performReborrow 185 = .ok (.iload 8, 2) := by decide +kernel
theorem dX5_performReborrow_187 : decode cX5_performReborrow 187 = .ok (.ifCond .ne 6, 3) := by decide +kernel
theorem dX5_performReborrow_190 : decode cX5_performReborrow 190 = .ok (.bipush (-4), 2) := by decide +kernel
theorem dX5_performReborrow_192 : decode cX5_performReborrow 192 = .ok (.ireturn, 1) := by decide +kernel
theorem dX5_performReborrow_193 : decode cX5_performReborrow 193 = .ok (.iload 5, 2) := by decide +kernel
theorem dX5_performReborrow_195 : decode cX5_performReborrow 195 = .ok (.iconst 1, 1) := by decide +kernel
theorem dX5_performReborrow_196 : decode cX5_performReborrow 196 = .ok (.if_icmp .ne 13, 3) := by decide +kernel
theorem dX5_performReborrow_199 : decode cX5_performReborrow 199 = .ok (.aload_n 0, 1) := by decide +kernel
theorem dX5_performReborrow_200 : decode cX5_performReborrow 200 = .ok (.getfield 24, 3) := by decide +kernel
theorem dX5_performReborrow_203 : decode cX5_performReborrow 203 = .ok (.invokevirtual 230, 3) := by decide +kernel
theorem dX5_performReborrow_206 : decode cX5_performReborrow 206 = .ok (.goto 4, 3) := by decide +kernel
theorem dX5_performReborrow_209 : decode cX5_performReborrow 209 = .ok (.iconst 0, 1) := by decide +kernel
theorem dX5_performReborrow_210 : decode cX5_performReborrow 210 = .ok (.istore 9, 2) := by decide +kernel
theorem dX5_performReborrow_212 : decode cX5_performReborrow 212 = .ok (.iload_n 3, 1) := by decide +kernel
theorem dX5_performReborrow_213 : decode cX5_performReborrow 213 = .ok (.istore 10, 2) := by decide +kernel
theorem dX5_performReborrow_215 : decode cX5_performReborrow 215 = .ok (.iload 10, 2) := by decide +kernel
theorem dX5_performReborrow_217 : decode cX5_performReborrow 217 = .ok (.iload_n 3, 1) := by decide +kernel
theorem dX5_performReborrow_218 : decode cX5_performReborrow 218 = .ok (.iload 4, 2) := by decide +kernel
theorem dX5_performReborrow_220 : decode cX5_performReborrow 220 = .ok (.iadd, 1) := by decide +kernel
theorem dX5_performReborrow_221 : decode cX5_performReborrow 221 = .ok (.if_icmp .ge 28, 3) := by decide +kernel
theorem dX5_performReborrow_224 : decode cX5_performReborrow 224 = .ok (.aload 7, 2) := by decide +kernel
theorem dX5_performReborrow_226 : decode cX5_performReborrow 226 = .ok (.getfield 219, 3) := by decide +kernel
theorem dX5_performReborrow_229 : decode cX5_performReborrow 229 = .ok (.iload 10, 2) := by decide +kernel
theorem dX5_performReborrow_231 : decode cX5_performReborrow 231 = .ok (.aaload, 1) := by decide +kernel
theorem dX5_performReborrow_232 : decode cX5_performReborrow 232 = .ok (.iload_n 2, 1) := by decide +kernel
theorem dX5_performReborrow_233 : decode cX5_performReborrow 233 = .ok (.iload_n 1, 1) := by decide +kernel
theorem dX5_performReborrow_234 : decode cX5_performReborrow 234 = .ok (.aload_n 0, 1) := by decide +kernel
theorem dX5_performReborrow_235 : decode cX5_performReborrow 235 = .ok (.getfield 146, 3) := by decide +kernel
theorem dX5_performReborrow_238 : decode cX5_performReborrow 238 = .ok (.iload 9, 2) := by decide +kernel
theorem dX5_performReborrow_240 : decode cX5_performReborrow 240 = .ok (.invokevirtual 233, 3) := by decide +kernel
theorem dX5_performReborrow_243 : decode cX5_performReborrow 243 = .ok (.iinc 10 1, 3) := by decide +kernel
theorem dX5_performReborrow_246 : decode cX5_performReborrow 246 = .ok (.goto (-31), 3) := by decide +kernel
theorem dX5_performReborrow_249 : decode cX5_performReborrow 249 = .ok (.aload_n 0, 1) := by decide +kernel
theorem dX5_performReborrow_250 : decode cX5_performReborrow 250 = .ok (.aload 7, 2) := by decide +kernel
theorem dX5_performReborrow_252 : decode cX5_performReborrow 252 = .ok (.iload_n 1, 1) := by decide +kernel
theorem dX5_performReborrow_253 : decode cX5_performReborrow 253 = .ok (.invokevirtual 198, 3) := by decide +kernel
theorem dX5_performReborrow_256 : decode cX5_performReborrow 256 = .ok (.ireturn, 1) := by decide +kernel
theorem dX5_performFree_0 : decode cX5_performFree 0 = .ok (.aload_n 0, 1) := by decide +kernel
theorem dX5_performFree_1 : decode cX5_performFree 1 = .ok (.iload_n 1, 1) := by decide +kernel
theorem dX5_performFree_2 : decode cX5_performFree 2 = .ok (.invokevirtual 75, 3) := by decide +kernel
theorem dX5_performFree_5 : decode cX5_performFree 5 = .ok (.astore_n 2, 1) := by decide +kernel
theorem dX5_performFree_6 : decode cX5_performFree 6 = .ok (.aload_n 2, 1) := by decide +kernel
theorem dX5_performFree_7 : decode cX5_performFree 7 = .ok (.ifnonnull 6, 3) := by decide +kernel
theorem dX5_performFree_10 : decode cX5_performFree 10 = .ok (.bipush (-2), 2) := by decide +kernel
theorem dX5_performFree_12 : decode cX5_performFree 12 = .ok (.ireturn, 1) := by decide +kernel
theorem dX5_performFree_13 : decode cX5_performFree 13 = .ok (.aload_n 2, 1) := by decide +kernel
theorem dX5_performFree_14 : decode cX5_performFree 14 = .ok (.getfield 83, 3) := by decide +kernel
theorem dX5_performFree_17 : decode cX5_performFree 17 = .ok (.astore_n 3, 1) := by decide +kernel
theorem dX5_performFree_18 : decode cX5_performFree 18 = .ok (.aload_n 3, 1) := by decide +kernel
theorem dX5_performFree_19 : decode cX5_performFree 19 = .ok (.getfield 87, 3) := by decide +kernel
theorem dX5_performFree_22 : decode cX5_performFree 22 = .ok (.ifCond .eq 10, 3) := by decide +kernel
theorem dX5_performFree_25 : decode cX5_performFree 25 = .ok (.aload_n 0, 1) := by decide +kernel
theorem dX5_performFree_26 : decode cX5_performFree 26 = .ok (.iconst 3, 1) := by decide +kernel
theorem dX5_performFree_27 : decode cX5_performFree 27 = .ok (.iconst 0, 1) := by decide +kernel
theorem dX5_performFree_28 : decode cX5_performFree 28 = .ok (.invokevirtual 202, 3) := by decide +kernel
theorem dX5_performFree_31 : decode cX5_performFree 31 = .ok (.ireturn, 1) := by decide +kernel
theorem dX5_performFree_32 : decode cX5_performFree 32 = .ok (.aload_n 3, 1) := by decide +kernel
theorem dX5_performFree_33 : decode cX5_performFree 33 = .ok (.iload_n 1, 1) := by decide +kernel
theorem dX5_performFree_34 : decode cX5_performFree 34 = .ok (.aload_n 0, 1) := by decide +kernel
theorem dX5_performFree_35 : decode cX5_performFree 35 = .ok (.getfield 24, 3) := by decide +kernel
theorem dX5_performFree_38 : decode cX5_performFree 38 = .ok (.invokevirtual 100, 3) := by decide +kernel
theorem dX5_performFree_41 : decode cX5_performFree 41 = .ok (.istore 4, 2) := by decide +kernel
theorem dX5_performFree_43 : decode cX5_performFree 43 = .ok (.iload 4, 2) := by decide +kernel
theorem dX5_performFree_45 : decode cX5_performFree 45 = .ok (.ifCond .eq 19, 3) := by decide +kernel
theorem dX5_performFree_48 : decode cX5_performFree 48 = .ok (.aload_n 0, 1) := by decide +kernel
theorem dX5_performFree_49 : decode cX5_performFree 49 = .ok (.iload 4, 2) := by decide +kernel
theorem dX5_performFree_51 : decode cX5_performFree 51 = .ok (.aload_n 3, 1) := by decide +kernel
theorem dX5_performFree_52 : decode cX5_performFree 52 = .ok (.iload_n 1, 1) := by decide +kernel
theorem dX5_performFree_53 : decode cX5_performFree 53 = .ok (.aload_n 0, 1) := by decide +kernel
theorem dX5_performFree_54 : decode cX5_performFree 54 = .ok (.getfield 24, 3) := by decide +kernel
theorem dX5_performFree_57 : decode cX5_performFree 57 = .ok (.invokevirtual 237, 3) := by decide +kernel
theorem dX5_performFree_60 : decode cX5_performFree 60 = .ok (.invokevirtual 202, 3) := by decide +kernel
theorem dX5_performFree_63 : decode cX5_performFree 63 = .ok (.ireturn, 1) := by decide +kernel
theorem dX5_performFree_64 : decode cX5_performFree 64 = .ok (.aload_n 3, 1) := by decide +kernel
theorem dX5_performFree_65 : decode cX5_performFree 65 = .ok (.iconst 1, 1) := by decide +kernel
theorem dX5_performFree_66 : decode cX5_performFree 66 = .ok (.putfield 87, 3) := by decide +kernel
theorem dX5_performFree_69 : decode cX5_performFree 69 = .ok (.aload_n 3, 1) := by decide +kernel
theorem dX5_performFree_70 : decode cX5_performFree 70 = .ok (.getfield 219, 3) := by decide +kernel
theorem dX5_performFree_73 : decode cX5_performFree 73 = .ok (.arraylength, 1) := by decide +kernel
theorem dX5_performFree_74 : decode cX5_performFree 74 = .ok (.ireturn, 1) := by decide +kernel
theorem dX5_performEnter_0 : decode cX5_performEnter 0 = .ok (.aload_n 0, 1) := by decide +kernel
theorem dX5_performEnter_1 : decode cX5_performEnter 1 = .ok (.getfield 24, 3) := by decide +kernel
theorem dX5_performEnter_4 : decode cX5_performEnter 4 = .ok (.invokevirtual 240, 3) := by decide +kernel
theorem dX5_performEnter_7 : decode cX5_performEnter 7 = .ok (.ifCond .eq 13, 3) := by decide +kernel
theorem dX5_performEnter_10 : decode cX5_performEnter 10 = .ok (.aload_n 0, 1) := by decide +kernel
theorem dX5_performEnter_11 : decode cX5_performEnter 11 = .ok (.getfield 24, 3) := by decide +kernel
theorem dX5_performEnter_14 : decode cX5_performEnter 14 = .ok (.getfield 149, 3) := by decide +kernel
theorem dX5_performEnter_17 : decode cX5_performEnter 17 = .ok (.goto 5, 3) := by decide +kernel
theorem dX5_performEnter_20 : decode cX5_performEnter 20 = .ok (.bipush (-4), 2) := by decide +kernel
theorem dX5_performEnter_22 : decode cX5_performEnter 22 = .ok (.ireturn, 1) := by decide +kernel
theorem dX5_performLeave_0 : decode cX5_performLeave 0 = .ok (.aload_n 0, 1) := by decide +kernel
theorem dX5_performLeave_1 : decode cX5_performLeave 1 = .ok (.getfield 24, 3) := by decide +kernel
theorem dX5_performLeave_4 : decode cX5_performLeave 4 = .ok (.invokevirtual 244, 3) := by decide +kernel
theorem dX5_performLeave_7 : decode cX5_performLeave 7 = .ok (.ifCond .eq 13, 3) := by decide +kernel
theorem dX5_performLeave_10 : decode cX5_performLeave 10 = .ok (.aload_n 0, 1) := by decide +kernel
theorem dX5_performLeave_11 : decode cX5_performLeave 11 = .ok (.getfield 24, 3) := by decide +kernel
theorem dX5_performLeave_14 : decode cX5_performLeave 14 = .ok (.getfield 149, 3) := by decide +kernel
theorem dX5_performLeave_17 : decode cX5_performLeave 17 = .ok (.goto 5, 3) := by decide +kernel
theorem dX5_performLeave_20 : decode cX5_performLeave 20 = .ok (.bipush (-3), 2) := by decide +kernel
theorem dX5_performLeave_22 : decode cX5_performLeave 22 = .ok (.ireturn, 1) := by decide +kernel
theorem dX5_performCommand_0 : decode cX5_performCommand 0 = .ok (.aload_n 0, 1) := by decide +kernel
theorem dX5_performCommand_1 : decode cX5_performCommand 1 = .ok (.getfield 31, 3) := by decide +kernel
theorem dX5_performCommand_4 : decode cX5_performCommand 4 = .ok (.iload_n 1, 1) := by decide +kernel
theorem dX5_performCommand_5 : decode cX5_performCommand 5 = .ok (.iconst 0, 1) := by decide +kernel
theorem dX5_performCommand_6 : decode cX5_performCommand 6 = .ok (.invokevirtual 247, 3) := by decide +kernel
theorem dX5_performCommand_9 : decode cX5_performCommand 9 = .ok (.istore_n 2, 1) := by decide +kernel
theorem dX5_performCommand_10 : decode cX5_performCommand 10 = .ok (.aload_n 0, 1) := by decide +kernel
theorem dX5_performCommand_11 : decode cX5_performCommand 11 = .ok (.getfield 31, 3) := by decide +kernel
theorem dX5_performCommand_14 : decode cX5_performCommand 14 = .ok (.iload_n 1, 1) := by decide +kernel
theorem dX5_performCommand_15 : decode cX5_performCommand 15 = .ok (.iconst 1, 1) := by decide +kernel
theorem dX5_performCommand_16 : decode cX5_performCommand 16 = .ok (.invokevirtual 247, 3) := by decide +kernel
theorem dX5_performCommand_19 : decode cX5_performCommand 19 = .ok (.istore_n 3, 1) := by decide +kernel
theorem dX5_performCommand_20 : decode cX5_performCommand 20 = .ok (.aload_n 0, 1) := by decide +kernel
theorem dX5_performCommand_21 : decode cX5_performCommand 21 = .ok (.getfield 31, 3) := by decide +kernel
theorem dX5_performCommand_24 : decode cX5_performCommand 24 = .ok (.iload_n 1, 1) := by decide +kernel
theorem dX5_performCommand_25 : decode cX5_performCommand 25 = .ok (.iconst 2, 1) := by decide +kernel
theorem dX5_performCommand_26 : decode cX5_performCommand 26 = .ok (.invokevirtual 247, 3) := by decide +kernel
theorem dX5_performCommand_29 : decode cX5_performCommand 29 = .ok (.istore 4, 2) := by decide +kernel
theorem dX5_performCommand_31 : decode cX5_performCommand 31 = .ok (.aload_n 0, 1) := by decide +kernel
theorem dX5_performCommand_32 : decode cX5_performCommand 32 = .ok (.getfield 31, 3) := by decide +kernel
theorem dX5_performCommand_35 : decode cX5_performCommand 35 = .ok (.iload_n 1, 1) := by decide +kernel
theorem dX5_performCommand_36 : decode cX5_performCommand 36 = .ok (.invokevirtual 250, 3) := by decide +kernel
theorem dX5_performCommand_39 : decode cX5_performCommand 39 = .ok (.tableswitch 176 97 119 #[105, 176, 176, 176, 166, 160, 176, 176, 176, 176, 176, 171, 127, 176, 176, 149, 176, 111, 138, 176, 176, 176, 118], 105) := by decide +kernel
theorem dX5_performCommand_144 : decode cX5_performCommand 144 = .ok (.aload_n 0, 1) := by decide +kernel
theorem dX5_performCommand_145 : decode cX5_performCommand 145 = .ok (.iload_n 2, 1) := by decide +kernel
theorem dX5_performCommand_146 : decode cX5_performCommand 146 = .ok (.invokevirtual 46, 3) := by decide +kernel
theorem dX5_performCommand_149 : decode cX5_performCommand 149 = .ok (.ireturn, 1) := by decide +kernel
theorem dX5_performCommand_150 : decode cX5_performCommand 150 = .ok (.aload_n 0, 1) := by decide +kernel
theorem dX5_performCommand_151 : decode cX5_performCommand 151 = .ok (.iload_n 2, 1) := by decide +kernel
theorem dX5_performCommand_152 : decode cX5_performCommand 152 = .ok (.iload_n 3, 1) := by decide +kernel
theorem dX5_performCommand_153 : decode cX5_performCommand 153 = .ok (.invokevirtual 53, 3) := by decide +kernel
theorem dX5_performCommand_156 : decode cX5_performCommand 156 = .ok (.ireturn, 1) := by decide +kernel
theorem dX5_performCommand_157 : decode cX5_performCommand 157 = .ok (.aload_n 0, 1) := by decide +kernel
theorem dX5_performCommand_158 : decode cX5_performCommand 158 = .ok (.iload_n 2, 1) := by decide +kernel
theorem dX5_performCommand_159 : decode cX5_performCommand 159 = .ok (.iload_n 3, 1) := by decide +kernel
theorem dX5_performCommand_160 : decode cX5_performCommand 160 = .ok (.iload 4, 2) := by decide +kernel
theorem dX5_performCommand_162 : decode cX5_performCommand 162 = .ok (.invokevirtual 57, 3) := by decide +kernel
theorem dX5_performCommand_165 : decode cX5_performCommand 165 = .ok (.ireturn, 1) := by decide +kernel
theorem dX5_performCommand_166 : decode cX5_performCommand 166 = .ok (.aload_n 0, 1) := by decide +kernel
theorem dX5_performCommand_167 : decode cX5_performCommand 167 = .ok (.iload_n 2, 1) := by decide +kernel
theorem dX5_performCommand_168 : decode cX5_performCommand 168 = .ok (.iconst 0, 1) := by decide +kernel
theorem dX5_performCommand_169 : decode cX5_performCommand 169 = .ok (.iload_n 3, 1) := by decide +kernel
theorem dX5_performCommand_170 : decode cX5_performCommand 170 = .ok (.iload 4, 2) := by decide +kernel
theorem dX5_performCommand_172 : decode cX5_performCommand 172 = .ok (.iconst 0, 1) := by decide +kernel
theorem dX5_performCommand_173 : decode cX5_performCommand 173 = .ok (.invokevirtual 61, 3) := by decide +kernel
theorem dX5_performCommand_176 : decode cX5_performCommand 176 = .ok (.ireturn, 1) := by decide +kernel
theorem dX5_performCommand_177 : decode cX5_performCommand 177 = .ok (.aload_n 0, 1) := by decide +kernel
theorem dX5_performCommand_178 : decode cX5_performCommand 178 = .ok (.iload_n 2, 1) := by decide +kernel
theorem dX5_performCommand_179 : decode cX5_performCommand 179 = .ok (.iconst 1, 1) := by decide +kernel
theorem dX5_performCommand_180 : decode cX5_performCommand 180 = .ok (.iload_n 3, 1) := by decide +kernel
theorem dX5_performCommand_181 : decode cX5_performCommand 181 = .ok (.iload 4, 2) := by decide +kernel
theorem dX5_performCommand_183 : decode cX5_performCommand 183 = .ok (.iconst 0, 1) := by decide +kernel
theorem dX5_performCommand_184 : decode cX5_performCommand 184 = .ok (.invokevirtual 61, 3) := by decide +kernel
theorem dX5_performCommand_187 : decode cX5_performCommand 187 = .ok (.ireturn, 1) := by decide +kernel
theorem dX5_performCommand_188 : decode cX5_performCommand 188 = .ok (.aload_n 0, 1) := by decide +kernel
theorem dX5_performCommand_189 : decode cX5_performCommand 189 = .ok (.iload_n 2, 1) := by decide +kernel
theorem dX5_performCommand_190 : decode cX5_performCommand 190 = .ok (.iconst 2, 1) := by decide +kernel
theorem dX5_performCommand_191 : decode cX5_performCommand 191 = .ok (.iload_n 3, 1) := by decide +kernel
theorem dX5_performCommand_192 : decode cX5_performCommand 192 = .ok (.iload 4, 2) := by decide +kernel
theorem dX5_performCommand_194 : decode cX5_performCommand 194 = .ok (.iconst 0, 1) := by decide +kernel
theorem dX5_performCommand_195 : decode cX5_performCommand 195 = .ok (.invokevirtual 61, 3) := by decide +kernel
theorem dX5_performCommand_198 : decode cX5_performCommand 198 = .ok (.ireturn, 1) := by decide +kernel
theorem dX5_performCommand_199 : decode cX5_performCommand 199 = .ok (.aload_n 0, 1) := by decide +kernel
theorem dX5_performCommand_200 : decode cX5_performCommand 200 = .ok (.iload_n 2, 1) := by decide +kernel
theorem dX5_performCommand_201 : decode cX5_performCommand 201 = .ok (.invokevirtual 65, 3) := by decide +kernel
theorem dX5_performCommand_204 : decode cX5_performCommand 204 = .ok (.ireturn, 1) := by decide +kernel
theorem dX5_performCommand_205 : decode cX5_performCommand 205 = .ok (.aload_n 0, 1) := by decide +kernel
theorem dX5_performCommand_206 : decode cX5_performCommand 206 = .ok (.invokevirtual 68, 3) := by decide +kernel
theorem dX5_performCommand_209 : decode cX5_performCommand 209 = .ok (.ireturn, 1) := by decide +kernel
theorem dX5_performCommand_210 : decode cX5_performCommand 210 = .ok (.aload_n 0, 1) := by decide +kernel
theorem dX5_performCommand_211 : decode cX5_performCommand 211 = .ok (.invokevirtual 72, 3) := by decide +kernel
theorem dX5_performCommand_214 : decode cX5_performCommand 214 = .ok (.ireturn, 1) := by decide +kernel
theorem dX5_performCommand_215 : decode cX5_performCommand 215 = .ok (.bipush (-2), 2) := by decide +kernel
theorem dX5_performCommand_217 : decode cX5_performCommand 217 = .ok (.ireturn, 1) := by decide +kernel
theorem dX5_counted_0 : decode cX5_counted 0 = .ok (.bipush (-2), 2) := by decide +kernel
theorem dX5_counted_2 : decode cX5_counted 2 = .ok (.iload_n 1, 1) := by decide +kernel
theorem dX5_counted_3 : decode cX5_counted 3 = .ok (.isub, 1) := by decide +kernel
theorem dX5_counted_4 : decode cX5_counted 4 = .ok (.istore_n 2, 1) := by decide +kernel
theorem dX5_counted_5 : decode cX5_counted 5 = .ok (.iload_n 2, 1) := by decide +kernel
theorem dX5_counted_6 : decode cX5_counted 6 = .ok (.ifCond .lt 18, 3) := by decide +kernel
theorem dX5_counted_9 : decode cX5_counted 9 = .ok (.iload_n 2, 1) := by decide +kernel
theorem dX5_counted_10 : decode cX5_counted 10 = .ok (.iconst 3, 1) := by decide +kernel
theorem dX5_counted_11 : decode cX5_counted 11 = .ok (.if_icmp .ge 13, 3) := by decide +kernel
theorem dX5_counted_14 : decode cX5_counted 14 = .ok (.aload_n 0, 1) := by decide +kernel
theorem dX5_counted_15 : decode cX5_counted 15 = .ok (.getfield 35, 3) := by decide +kernel
theorem dX5_counted_18 : decode cX5_counted 18 = .ok (.iload_n 2, 1) := by decide +kernel
theorem dX5_counted_19 : decode cX5_counted 19 = .ok (.dup2, 1) := by decide +kernel
theorem dX5_counted_20 : decode cX5_counted 20 = .ok (.iaload, 1) := by decide +kernel
theorem dX5_counted_21 : decode cX5_counted 21 = .ok (.iconst 1, 1) := by decide +kernel
theorem dX5_counted_22 : decode cX5_counted 22 = .ok (.iadd, 1) := by decide +kernel
theorem dX5_counted_23 : decode cX5_counted 23 = .ok (.iastore, 1) := by decide +kernel
theorem dX5_counted_24 : decode cX5_counted 24 = .ok (.iload_n 1, 1) := by decide +kernel
theorem dX5_counted_25 : decode cX5_counted 25 = .ok (.ireturn, 1) := by decide +kernel
theorem dX5_violated_0 : decode cX5_violated 0 = .ok (.aload_n 0, 1) := by decide +kernel
theorem dX5_violated_1 : decode cX5_violated 1 = .ok (.dup, 1) := by decide +kernel
theorem dX5_violated_2 : decode cX5_violated 2 = .ok (.getfield 152, 3) := by decide +kernel
theorem dX5_violated_5 : decode cX5_violated 5 = .ok (.iconst 1, 1) := by decide +kernel
theorem dX5_violated_6 : decode cX5_violated 6 = .ok (.iadd, 1) := by decide +kernel
theorem dX5_violated_7 : decode cX5_violated 7 = .ok (.putfield 152, 3) := by decide +kernel
theorem dX5_violated_10 : decode cX5_violated 10 = .ok (.aload_n 0, 1) := by decide +kernel
theorem dX5_violated_11 : decode cX5_violated 11 = .ok (.iload_n 1, 1) := by decide +kernel
theorem dX5_violated_12 : decode cX5_violated 12 = .ok (.putfield 39, 3) := by decide +kernel
theorem dX5_violated_15 : decode cX5_violated 15 = .ok (.aload_n 0, 1) := by decide +kernel
theorem dX5_violated_16 : decode cX5_violated 16 = .ok (.iload_n 2, 1) := by decide +kernel
theorem dX5_violated_17 : decode cX5_violated 17 = .ok (.putfield 43, 3) := by decide +kernel
theorem dX5_violated_20 : decode cX5_violated 20 = .ok (.bipush (-5), 2) := by decide +kernel
theorem dX5_violated_22 : decode cX5_violated 22 = .ok (.ireturn, 1) := by decide +kernel
theorem dX5_addPointer_0 : decode cX5_addPointer 0 = .ok (.aload_n 0, 1) := by decide +kernel
theorem dX5_addPointer_1 : decode cX5_addPointer 1 = .ok (.getfield 146, 3) := by decide +kernel
theorem dX5_addPointer_4 : decode cX5_addPointer 4 = .ok (.istore_n 3, 1) := by decide +kernel
theorem dX5_addPointer_5 : decode cX5_addPointer 5 = .ok (.iload_n 3, 1) := by decide +kernel
theorem dX5_addPointer_6 : decode cX5_addPointer 6 = .ok (.bipush 60, 2) := by decide +kernel
theorem dX5_addPointer_8 : decode cX5_addPointer 8 = .ok (.if_icmp .lt 6, 3) := by decide +kernel
theorem dX5_addPointer_11 : decode cX5_addPointer 11 = .ok (.bipush (-4), 2) := by decide +kernel
theorem dX5_addPointer_13 : decode cX5_addPointer 13 = .ok (.ireturn, 1) := by decide +kernel
theorem dX5_addPointer_14 : decode cX5_addPointer 14 = .ok (.aload_n 0, 1) := by decide +kernel
theorem dX5_addPointer_15 : decode cX5_addPointer 15 = .ok (.getfield 17, 3) := by decide +kernel
theorem dX5_addPointer_18 : decode cX5_addPointer 18 = .ok (.iload_n 3, 1) := by decide +kernel
theorem dX5_addPointer_19 : decode cX5_addPointer 19 = .ok (.new 15, 3) := by decide +kernel
theorem dX5_addPointer_22 : decode cX5_addPointer 22 = .ok (.dup, 1) := by decide +kernel
theorem dX5_addPointer_23 : decode cX5_addPointer 23 = .ok (.aload_n 1, 1) := by decide +kernel
theorem dX5_addPointer_24 : decode cX5_addPointer 24 = .ok (.iload_n 2, 1) := by decide +kernel
theorem dX5_addPointer_25 : decode cX5_addPointer 25 = .ok (.invokespecial 253, 3) := by decide +kernel
theorem dX5_addPointer_28 : decode cX5_addPointer 28 = .ok (.aastore, 1) := by decide +kernel
theorem dX5_addPointer_29 : decode cX5_addPointer 29 = .ok (.aload_n 0, 1) := by decide +kernel
theorem dX5_addPointer_30 : decode cX5_addPointer 30 = .ok (.dup, 1) := by decide +kernel
theorem dX5_addPointer_31 : decode cX5_addPointer 31 = .ok (.getfield 146, 3) := by decide +kernel
theorem dX5_addPointer_34 : decode cX5_addPointer 34 = .ok (.iconst 1, 1) := by decide +kernel
theorem dX5_addPointer_35 : decode cX5_addPointer 35 = .ok (.iadd, 1) := by decide +kernel
theorem dX5_addPointer_36 : decode cX5_addPointer 36 = .ok (.putfield 146, 3) := by decide +kernel
theorem dX5_addPointer_39 : decode cX5_addPointer 39 = .ok (.iload_n 3, 1) := by decide +kernel
theorem dX5_addPointer_40 : decode cX5_addPointer 40 = .ok (.ireturn, 1) := by decide +kernel
theorem dX5_pointerAt_0 : decode cX5_pointerAt 0 = .ok (.iload_n 1, 1) := by decide +kernel
theorem dX5_pointerAt_1 : decode cX5_pointerAt 1 = .ok (.ifCond .lt 20, 3) := by decide +kernel
theorem dX5_pointerAt_4 : decode cX5_pointerAt 4 = .ok (.iload_n 1, 1) := by decide +kernel
theorem dX5_pointerAt_5 : decode cX5_pointerAt 5 = .ok (.aload_n 0, 1) := by decide +kernel
theorem dX5_pointerAt_6 : decode cX5_pointerAt 6 = .ok (.getfield 146, 3) := by decide +kernel
theorem dX5_pointerAt_9 : decode cX5_pointerAt 9 = .ok (.if_icmp .ge 12, 3) := by decide +kernel
theorem dX5_pointerAt_12 : decode cX5_pointerAt 12 = .ok (.aload_n 0, 1) := by decide +kernel
theorem dX5_pointerAt_13 : decode cX5_pointerAt 13 = .ok (.getfield 17, 3) := by decide +kernel
theorem dX5_pointerAt_16 : decode cX5_pointerAt 16 = .ok (.iload_n 1, 1) := by decide +kernel
theorem dX5_pointerAt_17 : decode cX5_pointerAt 17 = .ok (.aaload, 1) := by decide +kernel
theorem dX5_pointerAt_18 : decode cX5_pointerAt 18 = .ok (.goto 4, 3) := by decide +kernel
theorem dX5_pointerAt_21 : decode cX5_pointerAt 21 = .ok (.aconst_null, 1) := by decide +kernel
theorem dX5_pointerAt_22 : decode cX5_pointerAt 22 = .ok (.areturn, 1) := by decide +kernel
theorem dX5_allocationAt_0 : decode cX5_allocationAt 0 = .ok (.iload_n 1, 1) := by decide +kernel
theorem dX5_allocationAt_1 : decode cX5_allocationAt 1 = .ok (.ifCond .lt 20, 3) := by decide +kernel
theorem dX5_allocationAt_4 : decode cX5_allocationAt 4 = .ok (.iload_n 1, 1) := by decide +kernel
theorem dX5_allocationAt_5 : decode cX5_allocationAt 5 = .ok (.aload_n 0, 1) := by decide +kernel
theorem dX5_allocationAt_6 : decode cX5_allocationAt 6 = .ok (.getfield 179, 3) := by decide +kernel
theorem dX5_allocationAt_9 : decode cX5_allocationAt 9 = .ok (.if_icmp .ge 12, 3) := by decide +kernel
theorem dX5_allocationAt_12 : decode cX5_allocationAt 12 = .ok (.aload_n 0, 1) := by decide +kernel
theorem dX5_allocationAt_13 : decode cX5_allocationAt 13 = .ok (.getfield 11, 3) := by decide +kernel
theorem dX5_allocationAt_16 : decode cX5_allocationAt 16 = .ok (.iload_n 1, 1) := by decide +kernel
theorem dX5_allocationAt_17 : decode cX5_allocationAt 17 = .ok (.aaload, 1) := by decide +kernel
theorem dX5_allocationAt_18 : decode cX5_allocationAt 18 = .ok (.goto 4, 3) := by decide +kernel
theorem dX5_allocationAt_21 : decode cX5_allocationAt 21 = .ok (.aconst_null, 1) := by decide +kernel
theorem dX5_allocationAt_22 : decode cX5_allocationAt 22 = .ok (.areturn, 1) := by decide +kernel
theorem dX5_cellAt_0 : decode cX5_cellAt 0 = .ok (.aload_n 0, 1) := by decide +kernel
theorem dX5_cellAt_1 : decode cX5_cellAt 1 = .ok (.iload_n 1, 1) := by decide +kernel
theorem dX5_cellAt_2 : decode cX5_cellAt 2 = .ok (.invokevirtual 142, 3) := by decide +kernel
theorem dX5_cellAt_5 : decode cX5_cellAt 5 = .ok (.astore_n 3, 1) := by decide +kernel
theorem dX5_cellAt_6 : decode cX5_cellAt 6 = .ok (.aload_n 3, 1) := by decide +kernel
theorem dX5_cellAt_7 : decode cX5_cellAt 7 = .ok (.ifnull 21, 3) := by decide +kernel
theorem dX5_cellAt_10 : decode cX5_cellAt 10 = .ok (.aload_n 3, 1) := by decide +kernel
theorem dX5_cellAt_11 : decode cX5_cellAt 11 = .ok (.iload_n 2, 1) := by decide +kernel
theorem dX5_cellAt_12 : decode cX5_cellAt 12 = .ok (.iconst 1, 1) := by decide +kernel
theorem dX5_cellAt_13 : decode cX5_cellAt 13 = .ok (.invokevirtual 215, 3) := by decide +kernel
theorem dX5_cellAt_16 : decode cX5_cellAt 16 = .ok (.ifCond .eq 12, 3) := by decide +kernel
theorem dX5_cellAt_19 : decode cX5_cellAt 19 = .ok (.aload_n 3, 1) := by decide +kernel
theorem dX5_cellAt_20 : decode cX5_cellAt 20 = .ok (.getfield 219, 3) := by decide +kernel
theorem dX5_cellAt_23 : decode cX5_cellAt 23 = .ok (.iload_n 2, 1) := by decide +kernel
theorem dX5_cellAt_24 : decode cX5_cellAt 24 = .ok (.aaload, 1) := by decide +kernel
theorem dX5_cellAt_25 : decode cX5_cellAt 25 = .ok (.goto 4, 3) := by decide +kernel
theorem dX5_cellAt_28 : decode cX5_cellAt 28 = .ok (.aconst_null, 1) := by decide +kernel
theorem dX5_cellAt_29 : decode cX5_cellAt 29 = .ok (.areturn, 1) := by decide +kernel
theorem dX5_cellThrough_0 : decode cX5_cellThrough 0 = .ok (.aload_n 0, 1) := by decide +kernel
theorem dX5_cellThrough_1 : decode cX5_cellThrough 1 = .ok (.ifnull 27, 3) := by decide +kernel
theorem dX5_cellThrough_4 : decode cX5_cellThrough 4 = .ok (.aload_n 0, 1) := by decide +kernel
theorem dX5_cellThrough_5 : decode cX5_cellThrough 5 = .ok (.getfield 83, 3) := by decide +kernel
theorem dX5_cellThrough_8 : decode cX5_cellThrough 8 = .ok (.iload_n 1, 1) := by decide +kernel
theorem dX5_cellThrough_9 : decode cX5_cellThrough 9 = .ok (.iconst 1, 1) := by decide +kernel
theorem dX5_cellThrough_10 : decode cX5_cellThrough 10 = .ok (.invokevirtual 215, 3) := by decide +kernel
theorem dX5_cellThrough_13 : decode cX5_cellThrough 13 = .ok (.ifCond .eq 15, 3) := by decide +kernel
theorem dX5_cellThrough_16 : decode cX5_cellThrough 16 = .ok (.aload_n 0, 1) := by decide +kernel
theorem dX5_cellThrough_17 : decode cX5_cellThrough 17 = .ok (.getfield 83, 3) := by decide +kernel
theorem dX5_cellThrough_20 : decode cX5_cellThrough 20 = .ok (.getfield 219, 3) := by decide +kernel
theorem dX5_cellThrough_23 : decode cX5_cellThrough 23 = .ok (.iload_n 1, 1) := by decide +kernel
theorem dX5_cellThrough_24 : decode cX5_cellThrough 24 = .ok (.aaload, 1) := by decide +kernel
theorem dX5_cellThrough_25 : decode cX5_cellThrough 25 = .ok (.goto 4, 3) := by decide +kernel
theorem dX5_cellThrough_28 : decode cX5_cellThrough 28 = .ok (.aconst_null, 1) := by decide +kernel
theorem dX5_cellThrough_29 : decode cX5_cellThrough 29 = .ok (.areturn, 1) := by decide +kernel
theorem dX5_isFailure_0 : decode cX5_isFailure 0 = .ok (.iload_n 0, 1) := by decide +kernel
theorem dX5_isFailure_1 : decode cX5_isFailure 1 = .ok (.bipush (-2), 2) := by decide +kernel
theorem dX5_isFailure_3 : decode cX5_isFailure 3 = .ok (.if_icmp .eq 21, 3) := by decide +kernel
theorem dX5_isFailure_6 : decode cX5_isFailure 6 = .ok (.iload_n 0, 1) := by decide +kernel
theorem dX5_isFailure_7 : decode cX5_isFailure 7 = .ok (.bipush (-3), 2) := by decide +kernel
theorem dX5_isFailure_9 : decode cX5_isFailure 9 = .ok (.if_icmp .eq 15, 3) := by decide +kernel
theorem dX5_isFailure_12 : decode cX5_isFailure 12 = .ok (.iload_n 0, 1) := by decide +kernel
theorem dX5_isFailure_13 : decode cX5_isFailure 13 = .ok (.bipush (-4), 2) := by decide +kernel
theorem dX5_isFailure_15 : decode cX5_isFailure 15 = .ok (.if_icmp .eq 9, 3) := by decide +kernel
theorem dX5_isFailure_18 : decode cX5_isFailure 18 = .ok (.iload_n 0, 1) := by decide +kernel
theorem dX5_isFailure_19 : decode cX5_isFailure 19 = .ok (.bipush (-5), 2) := by decide +kernel
theorem dX5_isFailure_21 : decode cX5_isFailure 21 = .ok (.if_icmp .ne 7, 3) := by decide +kernel
theorem dX5_isFailure_24 : decode cX5_isFailure 24 = .ok (.iconst 1, 1) := by decide +kernel
theorem dX5_isFailure_25 : decode cX5_isFailure 25 = .ok (.goto 4, 3) := by decide +kernel
theorem dX5_isFailure_28 : decode cX5_isFailure 28 = .ok (.iconst 0, 1) := by decide +kernel
theorem dX5_isFailure_29 : decode cX5_isFailure 29 = .ok (.ireturn, 1) := by decide +kernel
theorem dX5_asNumber_0 : decode cX5_asNumber 0 = .ok (.iload_n 0, 1) := by decide +kernel
theorem dX5_asNumber_1 : decode cX5_asNumber 1 = .ok (.ifCond .eq 7, 3) := by decide +kernel
theorem dX5_asNumber_4 : decode cX5_asNumber 4 = .ok (.iconst 1, 1) := by decide +kernel
theorem dX5_asNumber_5 : decode cX5_asNumber 5 = .ok (.goto 4, 3) := by decide +kernel
theorem dX5_asNumber_8 : decode cX5_asNumber 8 = .ok (.iconst 0, 1) := by decide +kernel
theorem dX5_asNumber_9 : decode cX5_asNumber 9 = .ok (.ireturn, 1) := by decide +kernel
theorem dX5_mixed_0 : decode cX5_mixed 0 = .ok (.ldc2_w 256, 3) := by decide +kernel
theorem dX5_mixed_3 : decode cX5_mixed 3 = .ok (.lload_n 0, 1) := by decide +kernel
theorem dX5_mixed_4 : decode cX5_mixed 4 = .ok (.lmul, 1) := by decide +kernel
theorem dX5_mixed_5 : decode cX5_mixed 5 = .ok (.lload_n 2, 1) := by decide +kernel
theorem dX5_mixed_6 : decode cX5_mixed 6 = .ok (.ladd, 1) := by decide +kernel
theorem dX5_mixed_7 : decode cX5_mixed 7 = .ok (.lreturn, 1) := by decide +kernel
theorem dX6_init_0 : decode cX6_init 0 = .ok (.aload_n 0, 1) := by decide +kernel
theorem dX6_init_1 : decode cX6_init 1 = .ok (.invokespecial 1, 3) := by decide +kernel
theorem dX6_init_4 : decode cX6_init 4 = .ok (.aload_n 0, 1) := by decide +kernel
theorem dX6_init_5 : decode cX6_init 5 = .ok (.bipush 10, 2) := by decide +kernel
theorem dX6_init_7 : decode cX6_init 7 = .ok (.newarray .int, 2) := by decide +kernel
theorem dX6_init_9 : decode cX6_init 9 = .ok (.putfield 7, 3) := by decide +kernel
theorem dX6_init_12 : decode cX6_init 12 = .ok (.aload_n 0, 1) := by decide +kernel
theorem dX6_init_13 : decode cX6_init 13 = .ok (.bipush 10, 2) := by decide +kernel
theorem dX6_init_15 : decode cX6_init 15 = .ok (.newarray .boolean, 2) := by decide +kernel
theorem dX6_init_17 : decode cX6_init 17 = .ok (.putfield 13, 3) := by decide +kernel
theorem dX6_init_20 : decode cX6_init 20 = .ok (.aload_n 0, 1) := by decide +kernel
theorem dX6_init_21 : decode cX6_init 21 = .ok (.bipush 80, 2) := by decide +kernel
theorem dX6_init_23 : decode cX6_init 23 = .ok (.newarray .int, 2) := by decide +kernel
theorem dX6_init_25 : decode cX6_init 25 = .ok (.putfield 17, 3) := by decide +kernel
theorem dX6_init_28 : decode cX6_init 28 = .ok (.aload_n 0, 1) := by decide +kernel
theorem dX6_init_29 : decode cX6_init 29 = .ok (.bipush 80, 2) := by decide +kernel
theorem dX6_init_31 : decode cX6_init 31 = .ok (.newarray .int, 2) := by decide +kernel
theorem dX6_init_33 : decode cX6_init 33 = .ok (.putfield 20, 3) := by decide +kernel
theorem dX6_init_36 : decode cX6_init 36 = .ok (.aload_n 0, 1) := by decide +kernel
theorem dX6_init_37 : decode cX6_init 37 = .ok (.sipush 960, 3) := by decide +kernel
theorem dX6_init_40 : decode cX6_init 40 = .ok (.newarray .int, 2) := by decide +kernel
theorem dX6_init_42 : decode cX6_init 42 = .ok (.putfield 23, 3) := by decide +kernel
theorem dX6_init_45 : decode cX6_init 45 = .ok (.aload_n 0, 1) := by decide +kernel
theorem dX6_init_46 : decode cX6_init 46 = .ok (.sipush 960, 3) := by decide +kernel
theorem dX6_init_49 : decode cX6_init 49 = .ok (.newarray .int, 2) := by decide +kernel
theorem dX6_init_51 : decode cX6_init 51 = .ok (.putfield 26, 3) := by decide +kernel
theorem dX6_init_54 : decode cX6_init 54 = .ok (.aload_n 0, 1) := by decide +kernel
theorem dX6_init_55 : decode cX6_init 55 = .ok (.sipush 960, 3) := by decide +kernel
theorem dX6_init_58 : decode cX6_init 58 = .ok (.newarray .int, 2) := by decide +kernel
theorem dX6_init_60 : decode cX6_init 60 = .ok (.putfield 29, 3) := by decide +kernel
theorem dX6_init_63 : decode cX6_init 63 = .ok (.aload_n 0, 1) := by decide +kernel
theorem dX6_init_64 : decode cX6_init 64 = .ok (.bipush 60, 2) := by decide +kernel
theorem dX6_init_66 : decode cX6_init 66 = .ok (.newarray .int, 2) := by decide +kernel
theorem dX6_init_68 : decode cX6_init 68 = .ok (.putfield 32, 3) := by decide +kernel
theorem dX6_init_71 : decode cX6_init 71 = .ok (.aload_n 0, 1) := by decide +kernel
theorem dX6_init_72 : decode cX6_init 72 = .ok (.bipush 60, 2) := by decide +kernel
theorem dX6_init_74 : decode cX6_init 74 = .ok (.newarray .int, 2) := by decide +kernel
theorem dX6_init_76 : decode cX6_init 76 = .ok (.putfield 35, 3) := by decide +kernel
theorem dX6_init_79 : decode cX6_init 79 = .ok (.aload_n 0, 1) := by decide +kernel
theorem dX6_init_80 : decode cX6_init 80 = .ok (.iconst (-1), 1) := by decide +kernel
theorem dX6_init_81 : decode cX6_init 81 = .ok (.putfield 38, 3) := by decide +kernel
theorem dX6_init_84 : decode cX6_init 84 = .ok (.aload_n 0, 1) := by decide +kernel
theorem dX6_init_85 : decode cX6_init 85 = .ok (.iconst 3, 1) := by decide +kernel
theorem dX6_init_86 : decode cX6_init 86 = .ok (.newarray .int, 2) := by decide +kernel
theorem dX6_init_88 : decode cX6_init 88 = .ok (.putfield 42, 3) := by decide +kernel
theorem dX6_init_91 : decode cX6_init 91 = .ok (.aload_n 0, 1) := by decide +kernel
theorem dX6_init_92 : decode cX6_init 92 = .ok (.bipush 120, 2) := by decide +kernel
theorem dX6_init_94 : decode cX6_init 94 = .ok (.newarray .int, 2) := by decide +kernel
theorem dX6_init_96 : decode cX6_init 96 = .ok (.putfield 45, 3) := by decide +kernel
theorem dX6_init_99 : decode cX6_init 99 = .ok (.aload_n 0, 1) := by decide +kernel
theorem dX6_init_100 : decode cX6_init 100 = .ok (.bipush 60, 2) := by decide +kernel
theorem dX6_init_102 : decode cX6_init 102 = .ok (.newarray .int, 2) := by decide +kernel
theorem dX6_init_104 : decode cX6_init 104 = .ok (.putfield 48, 3) := by decide +kernel
theorem dX6_init_107 : decode cX6_init 107 = .ok (.aload_n 0, 1) := by decide +kernel
theorem dX6_init_108 : decode cX6_init 108 = .ok (.sipush 180, 3) := by decide +kernel
theorem dX6_init_111 : decode cX6_init 111 = .ok (.newarray .int, 2) := by decide +kernel
theorem dX6_init_113 : decode cX6_init 113 = .ok (.putfield 51, 3) := by decide +kernel
theorem dX6_init_116 : decode cX6_init 116 = .ok (.return_, 1) := by decide +kernel
theorem dX6_in_0 : decode cX6_in 0 = .ok (.iload_n 0, 1) := by decide +kernel
theorem dX6_in_1 : decode cX6_in 1 = .ok (.iload_n 1, 1) := by decide +kernel
theorem dX6_in_2 : decode cX6_in 2 = .ok (.if_icmp .lt 12, 3) := by decide +kernel
theorem dX6_in_5 : decode cX6_in 5 = .ok (.iload_n 0, 1) := by decide +kernel
theorem dX6_in_6 : decode cX6_in 6 = .ok (.iload_n 2, 1) := by decide +kernel
theorem dX6_in_7 : decode cX6_in 7 = .ok (.if_icmp .gt 7, 3) := by decide +kernel
theorem dX6_in_10 : decode cX6_in 10 = .ok (.iconst 1, 1) := by decide +kernel
theorem dX6_in_11 : decode cX6_in 11 = .ok (.goto 4, 3) := by decide +kernel
theorem dX6_in_14 : decode cX6_in 14 = .ok (.iconst 0, 1) := by decide +kernel
theorem dX6_in_15 : decode cX6_in 15 = .ok (.ireturn, 1) := by decide +kernel
theorem dX6_error_0 : decode cX6_error 0 = .ok (.aload_n 0, 1) := by decide +kernel
theorem dX6_error_1 : decode cX6_error 1 = .ok (.getfield 42, 3) := by decide +kernel
theorem dX6_error_4 : decode cX6_error 4 = .ok (.bipush (-2), 2) := by decide +kernel
theorem dX6_error_6 : decode cX6_error 6 = .ok (.iload_n 1, 1) := by decide +kernel
theorem dX6_error_7 : decode cX6_error 7 = .ok (.isub, 1) := by decide +kernel
theorem dX6_error_8 : decode cX6_error 8 = .ok (.dup2, 1) := by decide +kernel
theorem dX6_error_9 : decode cX6_error 9 = .ok (.iaload, 1) := by decide +kernel
theorem dX6_error_10 : decode cX6_error 10 = .ok (.aload_n 0, 1) := by decide +kernel
theorem dX6_error_11 : decode cX6_error 11 = .ok (.getfield 54, 3) := by decide +kernel
theorem dX6_error_14 : decode cX6_error 14 = .ok (.ifCond .eq 7, 3) := by decide +kernel
theorem dX6_error_17 : decode cX6_error 17 = .ok (.iconst 0, 1) := by decide +kernel
theorem dX6_error_18 : decode cX6_error 18 = .ok (.goto 4, 3) := by decide +kernel
theorem dX6_error_21 : decode cX6_error 21 = .ok (.iconst 1, 1) := by decide +kernel
theorem dX6_error_22 : decode cX6_error 22 = .ok (.iadd, 1) := by decide +kernel
theorem dX6_error_23 : decode cX6_error 23 = .ok (.iastore, 1) := by decide +kernel
theorem dX6_error_24 : decode cX6_error 24 = .ok (.iload_n 1, 1) := by decide +kernel
theorem dX6_error_25 : decode cX6_error 25 = .ok (.ireturn, 1) := by decide +kernel
theorem dX6_violate_0 : decode cX6_violate 0 = .ok (.aload_n 0, 1) := by decide +kernel
theorem dX6_violate_1 : decode cX6_violate 1 = .ok (.dup, 1) := by decide +kernel
theorem dX6_violate_2 : decode cX6_violate 2 = .ok (.getfield 58, 3) := by decide +kernel
theorem dX6_violate_5 : decode cX6_violate 5 = .ok (.iconst 1, 1) := by decide +kernel
theorem dX6_violate_6 : decode cX6_violate 6 = .ok (.iadd, 1) := by decide +kernel
theorem dX6_violate_7 : decode cX6_violate 7 = .ok (.putfield 58, 3) := by decide +kernel
theorem dX6_violate_10 : decode cX6_violate 10 = .ok (.aload_n 0, 1) := by decide +kernel
theorem dX6_violate_11 : decode cX6_violate 11 = .ok (.iload_n 1, 1) := by decide +kernel
theorem dX6_violate_12 : decode cX6_violate 12 = .ok (.putfield 61, 3) := by decide +kernel
theorem dX6_violate_15 : decode cX6_violate 15 = .ok (.aload_n 0, 1) := by decide +kernel
theorem dX6_violate_16 : decode cX6_violate 16 = .ok (.iload_n 2, 1) := by decide +kernel
theorem dX6_violate_17 : decode cX6_violate 17 = .ok (.putfield 38, 3) := by decide +kernel
theorem dX6_violate_20 : decode cX6_violate 20 = .ok (.bipush (-5), 2) := by decide +kernel
theorem dX6_violate_22 : decode cX6_violate 22 = .ok (.ireturn, 1) := by decide +kernel
theorem dX6_isPointer_0 : decode cX6_isPointer 0 = .ok (.iload_n 1, 1) := by decide +kernel
theorem dX6_isPointer_1 : decode cX6_isPointer 1 = .ok (.iconst 0, 1) := by decide +kernel
theorem dX6_isPointer_2 : decode cX6_isPointer 2 = .ok (.aload_n 0, 1) := by decide +kernel
theorem dX6_isPointer_3 : decode cX6_isPointer 3 = .ok (.getfield 64, 3) := by decide +kernel
theorem dX6_isPointer_6 : decode cX6_isPointer 6 = .ok (.iconst 1, 1) := by decide +kernel
theorem dX6_isPointer_7 : decode cX6_isPointer 7 = .ok (.isub, 1) := by decide +kernel
theorem dX6_isPointer_8 : decode cX6_isPointer 8 = .ok (.invokestatic 67, 3) := by decide +kernel
theorem dX6_isPointer_11 : decode cX6_isPointer 11 = .ok (.ireturn, 1) := by decide +kernel
theorem dX6_isCell_0 : decode cX6_isCell 0 = .ok (.aload_n 0, 1) := by decide +kernel
theorem dX6_isCell_1 : decode cX6_isCell 1 = .ok (.iload_n 1, 1) := by decide +kernel
theorem dX6_isCell_2 : decode cX6_isCell 2 = .ok (.invokevirtual 71, 3) := by decide +kernel
theorem dX6_isCell_5 : decode cX6_isCell 5 = .ok (.ifCond .eq 28, 3) := by decide +kernel
theorem dX6_isCell_8 : decode cX6_isCell 8 = .ok (.iload_n 2, 1) := by decide +kernel
theorem dX6_isCell_9 : decode cX6_isCell 9 = .ok (.iconst 0, 1) := by decide +kernel
theorem dX6_isCell_10 : decode cX6_isCell 10 = .ok (.aload_n 0, 1) := by decide +kernel
theorem dX6_isCell_11 : decode cX6_isCell 11 = .ok (.getfield 7, 3) := by decide +kernel
theorem dX6_isCell_14 : decode cX6_isCell 14 = .ok (.aload_n 0, 1) := by decide +kernel
theorem dX6_isCell_15 : decode cX6_isCell 15 = .ok (.getfield 32, 3) := by decide +kernel
theorem dX6_isCell_18 : decode cX6_isCell 18 = .ok (.iload_n 1, 1) := by decide +kernel
theorem dX6_isCell_19 : decode cX6_isCell 19 = .ok (.iaload, 1) := by decide +kernel
theorem dX6_isCell_20 : decode cX6_isCell 20 = .ok (.iaload, 1) := by decide +kernel
theorem dX6_isCell_21 : decode cX6_isCell 21 = .ok (.iconst 1, 1) := by decide +kernel
theorem dX6_isCell_22 : decode cX6_isCell 22 = .ok (.isub, 1) := by decide +kernel
theorem dX6_isCell_23 : decode cX6_isCell 23 = .ok (.invokestatic 67, 3) := by decide +kernel
theorem dX6_isCell_26 : decode cX6_isCell 26 = .ok (.ifCond .eq 7, 3) := by decide +kernel
theorem dX6_isCell_29 : decode cX6_isCell 29 = .ok (.iconst 1, 1) := by decide +kernel
theorem dX6_isCell_30 : decode cX6_isCell 30 = .ok (.goto 4, 3) := by decide +kernel
theorem dX6_isCell_33 : decode cX6_isCell 33 = .ok (.iconst 0, 1) := by decide +kernel
theorem dX6_isCell_34 : decode cX6_isCell 34 = .ok (.ireturn, 1) := by decide +kernel
theorem dX6_cellOf_0 : decode cX6_cellOf 0 = .ok (.bipush 8, 2) := by decide +kernel
theorem dX6_cellOf_2 : decode cX6_cellOf 2 = .ok (.aload_n 0, 1) := by decide +kernel
theorem dX6_cellOf_3 : decode cX6_cellOf 3 = .ok (.getfield 32, 3) := by decide +kernel
theorem dX6_cellOf_6 : decode cX6_cellOf 6 = .ok (.iload_n 1, 1) := by decide +kernel
theorem dX6_cellOf_7 : decode cX6_cellOf 7 = .ok (.iaload, 1) := by decide +kernel
theorem dX6_cellOf_8 : decode cX6_cellOf 8 = .ok (.imul, 1) := by decide +kernel
theorem dX6_cellOf_9 : decode cX6_cellOf 9 = .ok (.iload_n 2, 1) := by decide +kernel
theorem dX6_cellOf_10 : decode cX6_cellOf 10 = .ok (.iadd, 1) := by decide +kernel
theorem dX6_cellOf_11 : decode cX6_cellOf 11 = .ok (.ireturn, 1) := by decide +kernel
theorem dX6_granting_0 : decode cX6_granting 0 = .ok (.aload_n 0, 1) := by decide +kernel
theorem dX6_granting_1 : decode cX6_granting 1 = .ok (.getfield 20, 3) := by decide +kernel
theorem dX6_granting_4 : decode cX6_granting 4 = .ok (.iload_n 1, 1) := by decide +kernel
theorem dX6_granting_5 : decode cX6_granting 5 = .ok (.iaload, 1) := by decide +kernel
theorem dX6_granting_6 : decode cX6_granting 6 = .ok (.iconst 1, 1) := by decide +kernel
theorem dX6_granting_7 : decode cX6_granting 7 = .ok (.isub, 1) := by decide +kernel
theorem dX6_granting_8 : decode cX6_granting 8 = .ok (.istore 4, 2) := by decide +kernel
theorem dX6_granting_10 : decode cX6_granting 10 = .ok (.iload 4, 2) := by decide +kernel
theorem dX6_granting_12 : decode cX6_granting 12 = .ok (.ifCond .lt 78, 3) := by decide +kernel
theorem dX6_granting_15 : decode cX6_granting 15 = .ok (.aload_n 0, 1) := by decide +kernel
theorem dX6_granting_16 : decode cX6_granting 16 = .ok (.getfield 26, 3) := by decide +kernel
theorem dX6_granting_19 : decode cX6_granting 19 = .ok (.bipush 12, 2) := by decide +kernel
theorem dX6_granting_21 : decode cX6_granting 21 = .ok (.iload_n 1, 1) := by decide +kernel
theorem dX6_granting_22 : decode cX6_granting 22 = .ok (.imul, 1) := by decide +kernel
theorem dX6_granting_23 : decode cX6_granting 23 = .ok (.iload 4, 2) := by decide +kernel
theorem dX6_granting_25 : decode cX6_granting 25 = .ok (.iadd, 1) := by decide +kernel
theorem dX6_granting_26 : decode cX6_granting 26 = .ok (.iaload, 1) := by decide +kernel
theorem dX6_granting_27 : decode cX6_granting 27 = .ok (.istore 5, 2) := by decide +kernel
theorem dX6_granting_29 : decode cX6_granting 29 = .ok (.iload_n 3, 1) := by decide +kernel
theorem dX6_granting_30 : decode cX6_granting 30 = .ok (.ifCond .eq 17, 3) := by decide +kernel
theorem dX6_granting_33 : decode cX6_granting 33 = .ok (.iload 5, 2) := by decide +kernel
theorem dX6_granting_35 : decode cX6_granting 35 = .ok (.iconst 2, 1) := by decide +kernel
theorem dX6_granting_36 : decode cX6_granting 36 = .ok (.if_icmp .ge 7, 3) := by decide +kernel
theorem dX6_granting_39 : decode cX6_granting 39 = .ok (.iconst 1, 1) := by decide +kernel
theorem dX6_granting_40 : decode cX6_granting 40 = .ok (.goto 18, 3) := by decide +kernel
theorem dX6_granting_43 : decode cX6_granting 43 = .ok (.iconst 0, 1) := by decide +kernel
theorem dX6_granting_44 : decode cX6_granting 44 = .ok (.goto 14, 3) := by decide +kernel
theorem dX6_granting_47 : decode cX6_granting 47 = .ok (.iload 5, 2) := by decide +kernel
theorem dX6_granting_49 : decode cX6_granting 49 = .ok (.iconst 3, 1) := by decide +kernel
theorem dX6_granting_50 : decode cX6_granting 50 = .ok (.if_icmp .eq 7, 3) := by decide +kernel
theorem dX6_granting_53 : decode cX6_granting 53 = .ok (.iconst 1, 1) := by decide +kernel
theorem dX6_granting_54 : decode cX6_granting 54 = .ok (.goto 4, 3) := by decide +kernel
theorem dX6_granting_57 : decode cX6_granting 57 = .ok (.iconst 0, 1) := by decide +kernel
theorem dX6_granting_58 : decode cX6_granting 58 = .ok (.istore 6, 2) := by decide +kernel
theorem dX6_granting_60 : decode cX6_granting 60 = .ok (.aload_n 0, 1) := by decide +kernel
theorem dX6_granting_61 : decode cX6_granting 61 = .ok (.getfield 23, 3) := by decide +kernel
theorem dX6_granting_64 : decode cX6_granting 64 = .ok (.bipush 12, 2) := by decide +kernel
theorem dX6_granting_66 : decode cX6_granting 66 = .ok (.iload_n 1, 1) := by decide +kernel
theorem dX6_granting_67 : decode cX6_granting 67 = .ok (.imul, 1) := by decide +kernel
theorem dX6_granting_68 : decode cX6_granting 68 = .ok (.iload 4, 2) := by decide +kernel
theorem dX6_granting_70 : decode cX6_granting 70 = .ok (.iadd, 1) := by decide +kernel
theorem dX6_granting_71 : decode cX6_granting 71 = .ok (.iaload, 1) := by decide +kernel
theorem dX6_granting_72 : decode cX6_granting 72 = .ok (.iload_n 2, 1) := by decide +kernel
theorem dX6_granting_73 : decode cX6_granting 73 = .ok (.if_icmp .ne 11, 3) := by decide +kernel
theorem dX6_granting_76 : decode cX6_granting 76 = .ok (.iload 6, 2) := by decide +kernel
theorem dX6_granting_78 : decode cX6_granting 78 = .ok (.ifCond .eq 6, 3) := by decide +kernel
theorem dX6_granting_81 : decode cX6_granting 81 = .ok (.iload 4, 2) := by decide +kernel
theorem dX6_granting_83 : decode cX6_granting 83 = .ok (.ireturn, 1) := by decide +kernel
theorem dX6_granting_84 : decode cX6_granting 84 = .ok (.iinc 4 (-1), 3) := by decide +kernel
theorem dX6_granting_87 : decode cX6_granting 87 = .ok (.goto (-77), 3) := by decide +kernel
theorem dX6_granting_90 : decode cX6_granting 90 = .ok (.iconst (-1), 1) := by decide +kernel
theorem dX6_granting_91 : decode cX6_granting 91 = .ok (.ireturn, 1) := by decide +kernel
theorem dX6_above_0 : decode cX6_above 0 = .ok (.iload_n 2, 1) := by decide +kernel
theorem dX6_above_1 : decode cX6_above 1 = .ok (.iconst 1, 1) := by decide +kernel
theorem dX6_above_2 : decode cX6_above 2 = .ok (.iadd, 1) := by decide +kernel
theorem dX6_above_3 : decode cX6_above 3 = .ok (.istore_n 3, 1) := by decide +kernel
theorem dX6_above_4 : decode cX6_above 4 = .ok (.aload_n 0, 1) := by decide +kernel
theorem dX6_above_5 : decode cX6_above 5 = .ok (.getfield 26, 3) := by decide +kernel
theorem dX6_above_8 : decode cX6_above 8 = .ok (.bipush 12, 2) := by decide +kernel
theorem dX6_above_10 : decode cX6_above 10 = .ok (.iload_n 1, 1) := by decide +kernel
theorem dX6_above_11 : decode cX6_above 11 = .ok (.imul, 1) := by decide +kernel
theorem dX6_above_12 : decode cX6_above 12 = .ok (.iload_n 2, 1) := by decide +kernel
theorem dX6_above_13 : decode cX6_above 13 = .ok (.iadd, 1) := by decide +kernel
theorem dX6_above_14 : decode cX6_above 14 = .ok (.iaload, 1) := by decide +kernel
theorem dX6_above_15 : decode cX6_above 15 = .ok (.iconst 1, 1) := by decide +kernel
theorem dX6_above_16 : decode cX6_above 16 = .ok (.if_icmp .ne 34, 3) := by decide +kernel
theorem dX6_above_19 : decode cX6_above 19 = .ok (.iload_n 3, 1) := by decide +kernel
theorem dX6_above_20 : decode cX6_above 20 = .ok (.aload_n 0, 1) := by decide +kernel
theorem dX6_above_21 : decode cX6_above 21 = .ok (.getfield 20, 3) := by decide +kernel
theorem dX6_above_24 : decode cX6_above 24 = .ok (.iload_n 1, 1) := by decide +kernel
theorem dX6_above_25 : decode cX6_above 25 = .ok (.iaload, 1) := by decide +kernel
theorem dX6_above_26 : decode cX6_above 26 = .ok (.if_icmp .ge 24, 3) := by decide +kernel
theorem dX6_above_29 : decode cX6_above 29 = .ok (.aload_n 0, 1) := by decide +kernel
theorem dX6_above_30 : decode cX6_above 30 = .ok (.getfield 26, 3) := by decide +kernel
theorem dX6_above_33 : decode cX6_above 33 = .ok (.bipush 12, 2) := by decide +kernel
theorem dX6_above_35 : decode cX6_above 35 = .ok (.iload_n 1, 1) := by decide +kernel
theorem dX6_above_36 : decode cX6_above 36 = .ok (.imul, 1) := by decide +kernel
theorem dX6_above_37 : decode cX6_above 37 = .ok (.iload_n 3, 1) := by decide +kernel
theorem dX6_above_38 : decode cX6_above 38 = .ok (.iadd, 1) := by decide +kernel
theorem dX6_above_39 : decode cX6_above 39 = .ok (.iaload, 1) := by decide +kernel
theorem dX6_above_40 : decode cX6_above 40 = .ok (.iconst 1, 1) := by decide +kernel
theorem dX6_above_41 : decode cX6_above 41 = .ok (.if_icmp .ne 9, 3) := by decide +kernel
theorem dX6_above_44 : decode cX6_above 44 = .ok (.iinc 3 1, 3) := by decide +kernel
theorem dX6_above_47 : decode cX6_above 47 = .ok (.goto (-28), 3) := by decide +kernel
theorem dX6_above_50 : decode cX6_above 50 = .ok (.iload_n 3, 1) := by decide +kernel
theorem dX6_above_51 : decode cX6_above 51 = .ok (.ireturn, 1) := by decide +kernel
theorem dX6_isGuarded_0 : decode cX6_isGuarded 0 = .ok (.iconst 0, 1) := by decide +kernel
theorem dX6_isGuarded_1 : decode cX6_isGuarded 1 = .ok (.istore 4, 2) := by decide +kernel
theorem dX6_isGuarded_3 : decode cX6_isGuarded 3 = .ok (.iload_n 2, 1) := by decide +kernel
theorem dX6_isGuarded_4 : decode cX6_isGuarded 4 = .ok (.istore 5, 2) := by decide +kernel
theorem dX6_isGuarded_6 : decode cX6_isGuarded 6 = .ok (.iload 5, 2) := by decide +kernel
theorem dX6_isGuarded_8 : decode cX6_isGuarded 8 = .ok (.aload_n 0, 1) := by decide +kernel
theorem dX6_isGuarded_9 : decode cX6_isGuarded 9 = .ok (.getfield 20, 3) := by decide +kernel
theorem dX6_isGuarded_12 : decode cX6_isGuarded 12 = .ok (.iload_n 1, 1) := by decide +kernel
theorem dX6_isGuarded_13 : decode cX6_isGuarded 13 = .ok (.iaload, 1) := by decide +kernel
theorem dX6_isGuarded_14 : decode cX6_isGuarded 14 = .ok (.if_icmp .ge 67, 3) := by decide +kernel
theorem dX6_isGuarded_17 : decode cX6_isGuarded 17 = .ok (.iload_n 3, 1) := by decide +kernel
theorem dX6_isGuarded_18 : decode cX6_isGuarded 18 = .ok (.ifCond .ne 18, 3) := by decide +kernel
theorem dX6_isGuarded_21 : decode cX6_isGuarded 21 = .ok (.aload_n 0, 1) := by decide +kernel
theorem dX6_isGuarded_22 : decode cX6_isGuarded 22 = .ok (.getfield 26, 3) := by decide +kernel
theorem dX6_isGuarded_25 : decode cX6_isGuarded 25 = .ok (.bipush 12, 2) := by decide +kernel
theorem dX6_isGuarded_27 : decode cX6_isGuarded 27 = .ok (.iload_n 1, 1) := by decide +kernel
theorem dX6_isGuarded_28 : decode cX6_isGuarded 28 = .ok (.imul, 1) := by decide +kernel
theorem dX6_isGuarded_29 : decode cX6_isGuarded 29 = .ok (.iload 5, 2) := by decide +kernel
theorem dX6_isGuarded_31 : decode cX6_isGuarded 31 = .ok (.iadd, 1) := by decide +kernel
theorem dX6_isGuarded_32 : decode cX6_isGuarded 32 = .ok (.iaload, 1) := by decide +kernel
theorem dX6_isGuarded_33 : decode cX6_isGuarded 33 = .ok (.ifCond .ne 7, 3) := by decide +kernel
theorem dX6_isGuarded_36 : decode cX6_isGuarded 36 = .ok (.iconst 1, 1) := by decide +kernel
theorem dX6_isGuarded_37 : decode cX6_isGuarded 37 = .ok (.goto 4, 3) := by decide +kernel
theorem dX6_isGuarded_40 : decode cX6_isGuarded 40 = .ok (.iconst 0, 1) := by decide +kernel
theorem dX6_isGuarded_41 : decode cX6_isGuarded 41 = .ok (.istore 6, 2) := by decide +kernel
theorem dX6_isGuarded_43 : decode cX6_isGuarded 43 = .ok (.iload 4, 2) := by decide +kernel
theorem dX6_isGuarded_45 : decode cX6_isGuarded 45 = .ok (.ifCond .ne 23, 3) := by decide +kernel
theorem dX6_isGuarded_48 : decode cX6_isGuarded 48 = .ok (.iload 6, 2) := by decide +kernel
theorem dX6_isGuarded_50 : decode cX6_isGuarded 50 = .ok (.ifCond .eq 22, 3) := by decide +kernel
theorem dX6_isGuarded_53 : decode cX6_isGuarded 53 = .ok (.aload_n 0, 1) := by decide +kernel
theorem dX6_isGuarded_54 : decode cX6_isGuarded 54 = .ok (.getfield 29, 3) := by decide +kernel
theorem dX6_isGuarded_57 : decode cX6_isGuarded 57 = .ok (.bipush 12, 2) := by decide +kernel
theorem dX6_isGuarded_59 : decode cX6_isGuarded 59 = .ok (.iload_n 1, 1) := by decide +kernel
theorem dX6_isGuarded_60 : decode cX6_isGuarded 60 = .ok (.imul, 1) := by decide +kernel
theorem dX6_isGuarded_61 : decode cX6_isGuarded 61 = .ok (.iload 5, 2) := by decide +kernel
theorem dX6_isGuarded_63 : decode cX6_isGuarded 63 = .ok (.iadd, 1) := by decide +kernel
theorem dX6_isGuarded_64 : decode cX6_isGuarded 64 = .ok (.iaload, 1) := by decide +kernel
theorem dX6_isGuarded_65 : decode cX6_isGuarded 65 = .ok (.ifCond .le 7, 3) := by decide +kernel
theorem dX6_isGuarded_68 : decode cX6_isGuarded 68 = .ok (.iconst 1, 1) := by decide +kernel
theorem dX6_isGuarded_69 : decode cX6_isGuarded 69 = .ok (.goto 4, 3) := by decide +kernel
theorem dX6_isGuarded_72 : decode cX6_isGuarded 72 = .ok (.iconst 0, 1) := by decide +kernel
theorem dX6_isGuarded_73 : decode cX6_isGuarded 73 = .ok (.istore 4, 2) := by decide +kernel
theorem dX6_isGuarded_75 : decode cX6_isGuarded 75 = .ok (.iinc 5 1, 3) := by decide +kernel
theorem dX6_isGuarded_78 : decode cX6_isGuarded 78 = .ok (.goto (-72), 3) := by decide +kernel
theorem dX6_isGuarded_81 : decode cX6_isGuarded 81 = .ok (.iload 4, 2) := by decide +kernel
theorem dX6_isGuarded_83 : decode cX6_isGuarded 83 = .ok (.ireturn, 1) := by decide +kernel
theorem dX6_readKind_0 : decode cX6_readKind 0 = .ok (.aload_n 0, 1) := by decide +kernel
theorem dX6_readKind_1 : decode cX6_readKind 1 = .ok (.iload_n 1, 1) := by decide +kernel
theorem dX6_readKind_2 : decode cX6_readKind 2 = .ok (.iload_n 2, 1) := by decide +kernel
theorem dX6_readKind_3 : decode cX6_readKind 3 = .ok (.invokevirtual 75, 3) := by decide +kernel
theorem dX6_readKind_6 : decode cX6_readKind 6 = .ok (.istore_n 3, 1) := by decide +kernel
theorem dX6_readKind_7 : decode cX6_readKind 7 = .ok (.aload_n 0, 1) := by decide +kernel
theorem dX6_readKind_8 : decode cX6_readKind 8 = .ok (.getfield 13, 3) := by decide +kernel
theorem dX6_readKind_11 : decode cX6_readKind 11 = .ok (.aload_n 0, 1) := by decide +kernel
theorem dX6_readKind_12 : decode cX6_readKind 12 = .ok (.getfield 32, 3) := by decide +kernel
theorem dX6_readKind_15 : decode cX6_readKind 15 = .ok (.iload_n 1, 1) := by decide +kernel
theorem dX6_readKind_16 : decode cX6_readKind 16 = .ok (.iaload, 1) := by decide +kernel
theorem dX6_readKind_17 : decode cX6_readKind 17 = .ok (.baload, 1) := by decide +kernel
theorem dX6_readKind_18 : decode cX6_readKind 18 = .ok (.ifCond .eq 5, 3) := by decide +kernel
theorem dX6_readKind_21 : decode cX6_readKind 21 = .ok (.iconst 3, 1) := by decide +kernel
theorem dX6_readKind_22 : decode cX6_readKind 22 = .ok (.ireturn, 1) := by decide +kernel
theorem dX6_readKind_23 : decode cX6_readKind 23 = .ok (.aload_n 0, 1) := by decide +kernel
theorem dX6_readKind_24 : decode cX6_readKind 24 = .ok (.iload_n 3, 1) := by decide +kernel
theorem dX6_readKind_25 : decode cX6_readKind 25 = .ok (.iload_n 1, 1) := by decide +kernel
theorem dX6_readKind_26 : decode cX6_readKind 26 = .ok (.iconst 0, 1) := by decide +kernel
theorem dX6_readKind_27 : decode cX6_readKind 27 = .ok (.invokevirtual 79, 3) := by decide +kernel
theorem dX6_readKind_30 : decode cX6_readKind 30 = .ok (.istore 4, 2) := by decide +kernel
theorem dX6_readKind_32 : decode cX6_readKind 32 = .ok (.iload 4, 2) := by decide +kernel
theorem dX6_readKind_34 : decode cX6_readKind 34 = .ok (.iconst (-1), 1) := by decide +kernel
theorem dX6_readKind_35 : decode cX6_readKind 35 = .ok (.if_icmp .ne 7, 3) := by decide +kernel
theorem dX6_readKind_38 : decode cX6_readKind 38 = .ok (.iconst 1, 1) := by decide +kernel
theorem dX6_readKind_39 : decode cX6_readKind 39 = .ok (.goto 21, 3) := by decide +kernel
theorem dX6_readKind_42 : decode cX6_readKind 42 = .ok (.aload_n 0, 1) := by decide +kernel
theorem dX6_readKind_43 : decode cX6_readKind 43 = .ok (.iload_n 3, 1) := by decide +kernel
theorem dX6_readKind_44 : decode cX6_readKind 44 = .ok (.iload 4, 2) := by decide +kernel
theorem dX6_readKind_46 : decode cX6_readKind 46 = .ok (.iconst 1, 1) := by decide +kernel
theorem dX6_readKind_47 : decode cX6_readKind 47 = .ok (.iadd, 1) := by decide +kernel
theorem dX6_readKind_48 : decode cX6_readKind 48 = .ok (.iconst 0, 1) := by decide +kernel
theorem dX6_readKind_49 : decode cX6_readKind 49 = .ok (.invokevirtual 83, 3) := by decide +kernel
theorem dX6_readKind_52 : decode cX6_readKind 52 = .ok (.ifCond .eq 7, 3) := by decide +kernel
theorem dX6_readKind_55 : decode cX6_readKind 55 = .ok (.iconst 2, 1) := by decide +kernel
theorem dX6_readKind_56 : decode cX6_readKind 56 = .ok (.goto 4, 3) := by decide +kernel
theorem dX6_readKind_59 : decode cX6_readKind 59 = .ok (.iconst 0, 1) := by decide +kernel
theorem dX6_readKind_60 : decode cX6_readKind 60 = .ok (.ireturn, 1) := by decide +kernel
theorem dX6_writeKind_0 : decode cX6_writeKind 0 = .ok (.aload_n 0, 1) := by decide +kernel
theorem dX6_writeKind_1 : decode cX6_writeKind 1 = .ok (.iload_n 1, 1) := by decide +kernel
theorem dX6_writeKind_2 : decode cX6_writeKind 2 = .ok (.iload_n 2, 1) := by decide +kernel
theorem dX6_writeKind_3 : decode cX6_writeKind 3 = .ok (.invokevirtual 75, 3) := by decide +kernel
theorem dX6_writeKind_6 : decode cX6_writeKind 6 = .ok (.istore_n 3, 1) := by decide +kernel
theorem dX6_writeKind_7 : decode cX6_writeKind 7 = .ok (.aload_n 0, 1) := by decide +kernel
theorem dX6_writeKind_8 : decode cX6_writeKind 8 = .ok (.getfield 13, 3) := by decide +kernel
theorem dX6_writeKind_11 : decode cX6_writeKind 11 = .ok (.aload_n 0, 1) := by decide +kernel
theorem dX6_writeKind_12 : decode cX6_writeKind 12 = .ok (.getfield 32, 3) := by decide +kernel
theorem dX6_writeKind_15 : decode cX6_writeKind 15 = .ok (.iload_n 1, 1) := by decide +kernel
theorem dX6_writeKind_16 : decode cX6_writeKind 16 = .ok (.iaload, 1) := by decide +kernel
theorem dX6_writeKind_17 : decode cX6_writeKind 17 = .ok (.baload, 1) := by decide +kernel
theorem dX6_writeKind_18 : decode cX6_writeKind 18 = .ok (.ifCond .eq 5, 3) := by decide +kernel
theorem dX6_writeKind_21 : decode cX6_writeKind 21 = .ok (.iconst 3, 1) := by decide +kernel
theorem dX6_writeKind_22 : decode cX6_writeKind 22 = .ok (.ireturn, 1) := by decide +kernel
theorem dX6_writeKind_23 : decode cX6_writeKind 23 = .ok (.aload_n 0, 1) := by decide +kernel
theorem dX6_writeKind_24 : decode cX6_writeKind 24 = .ok (.iload_n 3, 1) := by decide +kernel
theorem dX6_writeKind_25 : decode cX6_writeKind 25 = .ok (.iload_n 1, 1) := by decide +kernel
theorem dX6_writeKind_26 : decode cX6_writeKind 26 = .ok (.iconst 1, 1) := by decide +kernel
theorem dX6_writeKind_27 : decode cX6_writeKind 27 = .ok (.invokevirtual 79, 3) := by decide +kernel
theorem dX6_writeKind_30 : decode cX6_writeKind 30 = .ok (.istore 4, 2) := by decide +kernel
theorem dX6_writeKind_32 : decode cX6_writeKind 32 = .ok (.iload 4, 2) := by decide +kernel
theorem dX6_writeKind_34 : decode cX6_writeKind 34 = .ok (.iconst (-1), 1) := by decide +kernel
theorem dX6_writeKind_35 : decode cX6_writeKind 35 = .ok (.if_icmp .ne 7, 3) := by decide +kernel
theorem dX6_writeKind_38 : decode cX6_writeKind 38 = .ok (.iconst 1, 1) := by decide +kernel
theorem dX6_writeKind_39 : decode cX6_writeKind 39 = .ok (.goto 24, 3) := by decide +kernel
theorem dX6_writeKind_42 : decode cX6_writeKind 42 = .ok (.aload_n 0, 1) := by decide +kernel
theorem dX6_writeKind_43 : decode cX6_writeKind 43 = .ok (.iload_n 3, 1) := by decide +kernel
theorem dX6_writeKind_44 : decode cX6_writeKind 44 = .ok (.aload_n 0, 1) := by decide +kernel
theorem dX6_writeKind_45 : decode cX6_writeKind 45 = .ok (.iload_n 3, 1) := by decide +kernel
theorem dX6_writeKind_46 : decode cX6_writeKind 46 = .ok (.iload 4, 2) := by decide +kernel
theorem dX6_writeKind_48 : decode cX6_writeKind 48 = .ok (.invokevirtual 87, 3) := by decide +kernel
theorem dX6_writeKind_51 : decode cX6_writeKind 51 = .ok (.iconst 1, 1) := by decide +kernel
theorem dX6_writeKind_52 : decode cX6_writeKind 52 = .ok (.invokevirtual 83, 3) := by decide +kernel
theorem dX6_writeKind_55 : decode cX6_writeKind 55 = .ok (.ifCond .eq 7, 3) := by decide +kernel
theorem dX6_writeKind_58 : decode cX6_writeKind 58 = .ok (.iconst 2, 1) := by decide +kernel
theorem dX6_writeKind_59 : decode cX6_writeKind 59 = .ok (.goto 4, 3) := by decide +kernel
theorem dX6_writeKind_62 : decode cX6_writeKind 62 = .ok (.iconst 0, 1) := by decide +kernel
theorem dX6_writeKind_63 : decode cX6_writeKind 63 = .ok (.ireturn, 1) := by decide +kernel
theorem dX6_rawKind_0 : decode cX6_rawKind 0 = .ok (.aload_n 0, 1) := by decide +kernel
theorem dX6_rawKind_1 : decode cX6_rawKind 1 = .ok (.getfield 13, 3) := by decide +kernel
theorem dX6_rawKind_4 : decode cX6_rawKind 4 = .ok (.aload_n 0, 1) := by decide +kernel
theorem dX6_rawKind_5 : decode cX6_rawKind 5 = .ok (.getfield 32, 3) := by decide +kernel
theorem dX6_rawKind_8 : decode cX6_rawKind 8 = .ok (.iload_n 1, 1) := by decide +kernel
theorem dX6_rawKind_9 : decode cX6_rawKind 9 = .ok (.iaload, 1) := by decide +kernel
theorem dX6_rawKind_10 : decode cX6_rawKind 10 = .ok (.baload, 1) := by decide +kernel
theorem dX6_rawKind_11 : decode cX6_rawKind 11 = .ok (.ifCond .eq 5, 3) := by decide +kernel
theorem dX6_rawKind_14 : decode cX6_rawKind 14 = .ok (.iconst 3, 1) := by decide +kernel
theorem dX6_rawKind_15 : decode cX6_rawKind 15 = .ok (.ireturn, 1) := by decide +kernel
theorem dX6_rawKind_16 : decode cX6_rawKind 16 = .ok (.aload_n 0, 1) := by decide +kernel
theorem dX6_rawKind_17 : decode cX6_rawKind 17 = .ok (.aload_n 0, 1) := by decide +kernel
theorem dX6_rawKind_18 : decode cX6_rawKind 18 = .ok (.iload_n 1, 1) := by decide +kernel
theorem dX6_rawKind_19 : decode cX6_rawKind 19 = .ok (.iload_n 2, 1) := by decide +kernel
theorem dX6_rawKind_20 : decode cX6_rawKind 20 = .ok (.invokevirtual 75, 3) := by decide +kernel
theorem dX6_rawKind_23 : decode cX6_rawKind 23 = .ok (.iload_n 1, 1) := by decide +kernel
theorem dX6_rawKind_24 : decode cX6_rawKind 24 = .ok (.iconst 1, 1) := by decide +kernel
theorem dX6_rawKind_25 : decode cX6_rawKind 25 = .ok (.invokevirtual 79, 3) := by decide +kernel
theorem dX6_rawKind_28 : decode cX6_rawKind 28 = .ok (.iconst (-1), 1) := by decide +kernel
theorem dX6_rawKind_29 : decode cX6_rawKind 29 = .ok (.if_icmp .ne 7, 3) := by decide +kernel
theorem dX6_rawKind_32 : decode cX6_rawKind 32 = .ok (.iconst 1, 1) := by decide +kernel
theorem dX6_rawKind_33 : decode cX6_rawKind 33 = .ok (.goto 4, 3) := by decide +kernel
theorem dX6_rawKind_36 : decode cX6_rawKind 36 = .ok (.iconst 0, 1) := by decide +kernel
theorem dX6_rawKind_37 : decode cX6_rawKind 37 = .ok (.ireturn, 1) := by decide +kernel
theorem dX6_freeKind_0 : decode cX6_freeKind 0 = .ok (.aload_n 0, 1) := by decide +kernel
theorem dX6_freeKind_1 : decode cX6_freeKind 1 = .ok (.iload_n 1, 1) := by decide +kernel
theorem dX6_freeKind_2 : decode cX6_freeKind 2 = .ok (.iload_n 2, 1) := by decide +kernel
theorem dX6_freeKind_3 : decode cX6_freeKind 3 = .ok (.invokevirtual 90, 3) := by decide +kernel
theorem dX6_freeKind_6 : decode cX6_freeKind 6 = .ok (.istore_n 3, 1) := by decide +kernel
theorem dX6_freeKind_7 : decode cX6_freeKind 7 = .ok (.iload_n 3, 1) := by decide +kernel
theorem dX6_freeKind_8 : decode cX6_freeKind 8 = .ok (.ifCond .eq 7, 3) := by decide +kernel
theorem dX6_freeKind_11 : decode cX6_freeKind 11 = .ok (.iload_n 3, 1) := by decide +kernel
theorem dX6_freeKind_12 : decode cX6_freeKind 12 = .ok (.goto 23, 3) := by decide +kernel
theorem dX6_freeKind_15 : decode cX6_freeKind 15 = .ok (.aload_n 0, 1) := by decide +kernel
theorem dX6_freeKind_16 : decode cX6_freeKind 16 = .ok (.aload_n 0, 1) := by decide +kernel
theorem dX6_freeKind_17 : decode cX6_freeKind 17 = .ok (.iload_n 1, 1) := by decide +kernel
theorem dX6_freeKind_18 : decode cX6_freeKind 18 = .ok (.iload_n 2, 1) := by decide +kernel
theorem dX6_freeKind_19 : decode cX6_freeKind 19 = .ok (.invokevirtual 75, 3) := by decide +kernel
theorem dX6_freeKind_22 : decode cX6_freeKind 22 = .ok (.iconst 0, 1) := by decide +kernel
theorem dX6_freeKind_23 : decode cX6_freeKind 23 = .ok (.iconst 1, 1) := by decide +kernel
theorem dX6_freeKind_24 : decode cX6_freeKind 24 = .ok (.invokevirtual 83, 3) := by decide +kernel
theorem dX6_freeKind_27 : decode cX6_freeKind 27 = .ok (.ifCond .eq 7, 3) := by decide +kernel
theorem dX6_freeKind_30 : decode cX6_freeKind 30 = .ok (.iconst 2, 1) := by decide +kernel
theorem dX6_freeKind_31 : decode cX6_freeKind 31 = .ok (.goto 4, 3) := by decide +kernel
theorem dX6_freeKind_34 : decode cX6_freeKind 34 = .ok (.iconst 0, 1) := by decide +kernel
theorem dX6_freeKind_35 : decode cX6_freeKind 35 = .ok (.ireturn, 1) := by decide +kernel
theorem dX6_doRead_0 : decode cX6_doRead 0 = .ok (.aload_n 0, 1) := by decide +kernel
theorem dX6_doRead_1 : decode cX6_doRead 1 = .ok (.iload_n 1, 1) := by decide +kernel
theorem dX6_doRead_2 : decode cX6_doRead 2 = .ok (.iload_n 2, 1) := by decide +kernel
theorem dX6_doRead_3 : decode cX6_doRead 3 = .ok (.invokevirtual 75, 3) := by decide +kernel
theorem dX6_doRead_6 : decode cX6_doRead 6 = .ok (.istore_n 3, 1) := by decide +kernel
theorem dX6_doRead_7 : decode cX6_doRead 7 = .ok (.aload_n 0, 1) := by decide +kernel
theorem dX6_doRead_8 : decode cX6_doRead 8 = .ok (.iload_n 3, 1) := by decide +kernel
theorem dX6_doRead_9 : decode cX6_doRead 9 = .ok (.iload_n 1, 1) := by decide +kernel
theorem dX6_doRead_10 : decode cX6_doRead 10 = .ok (.iconst 0, 1) := by decide +kernel
theorem dX6_doRead_11 : decode cX6_doRead 11 = .ok (.invokevirtual 79, 3) := by decide +kernel
theorem dX6_doRead_14 : decode cX6_doRead 14 = .ok (.iconst 1, 1) := by decide +kernel
theorem dX6_doRead_15 : decode cX6_doRead 15 = .ok (.iadd, 1) := by decide +kernel
theorem dX6_doRead_16 : decode cX6_doRead 16 = .ok (.istore 4, 2) := by decide +kernel
theorem dX6_doRead_18 : decode cX6_doRead 18 = .ok (.iload 4, 2) := by decide +kernel
theorem dX6_doRead_20 : decode cX6_doRead 20 = .ok (.aload_n 0, 1) := by decide +kernel
theorem dX6_doRead_21 : decode cX6_doRead 21 = .ok (.getfield 20, 3) := by decide +kernel
theorem dX6_doRead_24 : decode cX6_doRead 24 = .ok (.iload_n 3, 1) := by decide +kernel
theorem dX6_doRead_25 : decode cX6_doRead 25 = .ok (.iaload, 1) := by decide +kernel
theorem dX6_doRead_26 : decode cX6_doRead 26 = .ok (.if_icmp .ge 37, 3) := by decide +kernel
theorem dX6_doRead_29 : decode cX6_doRead 29 = .ok (.aload_n 0, 1) := by decide +kernel
theorem dX6_doRead_30 : decode cX6_doRead 30 = .ok (.getfield 26, 3) := by decide +kernel
theorem dX6_doRead_33 : decode cX6_doRead 33 = .ok (.bipush 12, 2) := by decide +kernel
theorem dX6_doRead_35 : decode cX6_doRead 35 = .ok (.iload_n 3, 1) := by decide +kernel
theorem dX6_doRead_36 : decode cX6_doRead 36 = .ok (.imul, 1) := by decide +kernel
theorem dX6_doRead_37 : decode cX6_doRead 37 = .ok (.iload 4, 2) := by decide +kernel
theorem dX6_doRead_39 : decode cX6_doRead 39 = .ok (.iadd, 1) := by decide +kernel
theorem dX6_doRead_40 : decode cX6_doRead 40 = .ok (.iaload, 1) := by decide +kernel
theorem dX6_doRead_41 : decode cX6_doRead 41 = .ok (.ifCond .ne 16, 3) := by decide +kernel
theorem dX6_doRead_44 : decode cX6_doRead 44 = .ok (.aload_n 0, 1) := by decide +kernel
theorem dX6_doRead_45 : decode cX6_doRead 45 = .ok (.getfield 26, 3) := by decide +kernel
theorem dX6_doRead_48 : decode cX6_doRead 48 = .ok (.bipush 12, 2) := by decide +kernel
theorem dX6_doRead_50 : decode cX6_doRead 50 = .ok (.iload_n 3, 1) := by decide +kernel
theorem dX6_doRead_51 : decode cX6_doRead 51 = .ok (.imul, 1) := by decide +kernel
theorem dX6_doRead_52 : decode cX6_doRead 52 = .ok (.iload 4, 2) := by decide +kernel
theorem dX6_doRead_54 : decode cX6_doRead 54 = .ok (.iadd, 1) := by decide +kernel
theorem dX6_doRead_55 : decode cX6_doRead 55 = .ok (.iconst 3, 1) := by decide +kernel
theorem dX6_doRead_56 : decode cX6_doRead 56 = .ok (.iastore, 1) := by decide +kernel
theorem dX6_doRead_57 : decode cX6_doRead 57 = .ok (.iinc 4 1, 3) := by decide +kernel
theorem dX6_doRead_60 : decode cX6_doRead 60 = .ok (.goto (-42), 3) := by decide +kernel
theorem dX6_doRead_63 : decode cX6_doRead 63 = .ok (.return_, 1) := by decide +kernel
theorem dX6_doWrite_0 : decode cX6_doWrite 0 = .ok (.aload_n 0, 1) := by decide +kernel
theorem dX6_doWrite_1 : decode cX6_doWrite 1 = .ok (.iload_n 1, 1) := by decide +kernel
theorem dX6_doWrite_2 : decode cX6_doWrite 2 = .ok (.iload_n 2, 1) := by decide +kernel
theorem dX6_doWrite_3 : decode cX6_doWrite 3 = .ok (.invokevirtual 75, 3) := by decide +kernel
theorem dX6_doWrite_6 : decode cX6_doWrite 6 = .ok (.istore_n 3, 1) := by decide +kernel
theorem dX6_doWrite_7 : decode cX6_doWrite 7 = .ok (.aload_n 0, 1) := by decide +kernel
theorem dX6_doWrite_8 : decode cX6_doWrite 8 = .ok (.getfield 20, 3) := by decide +kernel
theorem dX6_doWrite_11 : decode cX6_doWrite 11 = .ok (.iload_n 3, 1) := by decide +kernel
theorem dX6_doWrite_12 : decode cX6_doWrite 12 = .ok (.aload_n 0, 1) := by decide +kernel
theorem dX6_doWrite_13 : decode cX6_doWrite 13 = .ok (.iload_n 3, 1) := by decide +kernel
theorem dX6_doWrite_14 : decode cX6_doWrite 14 = .ok (.aload_n 0, 1) := by decide +kernel
theorem dX6_doWrite_15 : decode cX6_doWrite 15 = .ok (.iload_n 3, 1) := by decide +kernel
theorem dX6_doWrite_16 : decode cX6_doWrite 16 = .ok (.iload_n 1, 1) := by decide +kernel
theorem dX6_doWrite_17 : decode cX6_doWrite 17 = .ok (.iconst 1, 1) := by decide +kernel
theorem dX6_doWrite_18 : decode cX6_doWrite 18 = .ok (.invokevirtual 79, 3) := by decide +kernel
theorem dX6_doWrite_21 : decode cX6_doWrite 21 = .ok (.invokevirtual 87, 3) := by decide +kernel
theorem dX6_doWrite_24 : decode cX6_doWrite 24 = .ok (.iastore, 1) := by decide +kernel
theorem dX6_doWrite_25 : decode cX6_doWrite 25 = .ok (.return_, 1) := by decide +kernel
theorem dX6_insert_0 : decode cX6_insert 0 = .ok (.bipush 12, 2) := by decide +kernel
theorem dX6_insert_2 : decode cX6_insert 2 = .ok (.iload_n 1, 1) := by decide +kernel
theorem dX6_insert_3 : decode cX6_insert 3 = .ok (.imul, 1) := by decide +kernel
theorem dX6_insert_4 : decode cX6_insert 4 = .ok (.aload_n 0, 1) := by decide +kernel
theorem dX6_insert_5 : decode cX6_insert 5 = .ok (.getfield 20, 3) := by decide +kernel
theorem dX6_insert_8 : decode cX6_insert 8 = .ok (.iload_n 1, 1) := by decide +kernel
theorem dX6_insert_9 : decode cX6_insert 9 = .ok (.iaload, 1) := by decide +kernel
theorem dX6_insert_10 : decode cX6_insert 10 = .ok (.iadd, 1) := by decide +kernel
theorem dX6_insert_11 : decode cX6_insert 11 = .ok (.istore 6, 2) := by decide +kernel
theorem dX6_insert_13 : decode cX6_insert 13 = .ok (.iload 6, 2) := by decide +kernel
theorem dX6_insert_15 : decode cX6_insert 15 = .ok (.bipush 12, 2) := by decide +kernel
theorem dX6_insert_17 : decode cX6_insert 17 = .ok (.iload_n 1, 1) := by decide +kernel
theorem dX6_insert_18 : decode cX6_insert 18 = .ok (.imul, 1) := by decide +kernel
theorem dX6_insert_19 : decode cX6_insert 19 = .ok (.iload_n 2, 1) := by decide +kernel
theorem dX6_insert_20 : decode cX6_insert 20 = .ok (.iadd, 1) := by decide +kernel
theorem dX6_insert_21 : decode cX6_insert 21 = .ok (.if_icmp .le 57, 3) := by decide +kernel
theorem dX6_insert_24 : decode cX6_insert 24 = .ok (.aload_n 0, 1) := by decide +kernel
theorem dX6_insert_25 : decode cX6_insert 25 = .ok (.getfield 23, 3) := by decide +kernel
theorem dX6_insert_28 : decode cX6_insert 28 = .ok (.iload 6, 2) := by decide +kernel
theorem dX6_insert_30 : decode cX6_insert 30 = .ok (.aload_n 0, 1) := by decide +kernel
theorem dX6_insert_31 : decode cX6_insert 31 = .ok (.getfield 23, 3) := by decide +kernel
theorem dX6_insert_34 : decode cX6_insert 34 = .ok (.iload 6, 2) := by decide +kernel
theorem dX6_insert_36 : decode cX6_insert 36 = .ok (.iconst 1, 1) := by decide +kernel
theorem dX6_insert_37 : decode cX6_insert 37 = .ok (.isub, 1) := by decide +kernel
theorem dX6_insert_38 : decode cX6_insert 38 = .ok (.iaload, 1) := by decide +kernel
theorem dX6_insert_39 : decode cX6_insert 39 = .ok (.iastore, 1) := by decide +kernel
theorem dX6_insert_40 : decode cX6_insert 40 = .ok (.aload_n 0, 1) := by decide +kernel
theorem dX6_insert_41 : decode cX6_insert 41 = .ok (.getfield 26, 3) := by decide +kernel
theorem dX6_insert_44 : decode cX6_insert 44 = .ok (.iload 6, 2) := by decide +kernel
theorem dX6_insert_46 : decode cX6_insert 46 = .ok (.aload_n 0, 1) := by decide +kernel
theorem dX6_insert_47 : decode cX6_insert 47 = .ok (.getfield 26, 3) := by decide +kernel
theorem dX6_insert_50 : decode cX6_insert 50 = .ok (.iload 6, 2) := by decide +kernel
theorem dX6_insert_52 : decode cX6_insert 52 = .ok (.iconst 1, 1) := by decide +kernel
theorem dX6_insert_53 : decode cX6_insert 53 = .ok (.isub, 1) := by decide +kernel
theorem dX6_insert_54 : decode cX6_insert 54 = .ok (.iaload, 1) := by decide +kernel
theorem dX6_insert_55 : decode cX6_insert 55 = .ok (.iastore, 1) := by decide +kernel
theorem dX6_insert_56 : decode cX6_insert 56 = .ok (.aload_n 0, 1) := by decide +kernel
theorem dX6_insert_57 : decode cX6_insert 57 = .ok (.getfield 29, 3) := by decide +kernel
theorem dX6_insert_60 : decode cX6_insert 60 = .ok (.iload 6, 2) := by decide +kernel
theorem dX6_insert_62 : decode cX6_insert 62 = .ok (.aload_n 0, 1) := by decide +kernel
theorem dX6_insert_63 : decode cX6_insert 63 = .ok (.getfield 29, 3) := by decide +kernel
theorem dX6_insert_66 : decode cX6_insert 66 = .ok (.iload 6, 2) := by decide +kernel
theorem dX6_insert_68 : decode cX6_insert 68 = .ok (.iconst 1, 1) := by decide +kernel
theorem dX6_insert_69 : decode cX6_insert 69 = .ok (.isub, 1) := by decide +kernel
theorem dX6_insert_70 : decode cX6_insert 70 = .ok (.iaload, 1) := by decide +kernel
theorem dX6_insert_71 : decode cX6_insert 71 = .ok (.iastore, 1) := by decide +kernel
theorem dX6_insert_72 : decode cX6_insert 72 = .ok (.iinc 6 (-1), 3) := by decide +kernel
theorem dX6_insert_75 : decode cX6_insert 75 = .ok (.goto (-62), 3) := by decide +kernel
theorem dX6_insert_78 : decode cX6_insert 78 = .ok (.aload_n 0, 1) := by decide +kernel
theorem dX6_insert_79 : decode cX6_insert 79 = .ok (.getfield 23, 3) := by decide +kernel
theorem dX6_insert_82 : decode cX6_insert 82 = .ok (.bipush 12, 2) := by decide +kernel
theorem dX6_insert_84 : decode cX6_insert 84 = .ok (.iload_n 1, 1) := by decide +kernel
theorem dX6_insert_85 : decode cX6_insert 85 = .ok (.imul, 1) := by decide +kernel
theorem dX6_insert_86 : decode cX6_insert 86 = .ok (.iload_n 2, 1) := by decide +kernel
theorem dX6_insert_87 : decode cX6_insert 87 = .ok (.iadd, 1) := by decide +kernel
theorem dX6_insert_88 : decode cX6_insert 88 = .ok (.iload_n 3, 1) := by decide +kernel
theorem dX6_insert_89 : decode cX6_insert 89 = .ok (.iastore, 1) := by decide +kernel
theorem dX6_insert_90 : decode cX6_insert 90 = .ok (.aload_n 0, 1) := by decide +kernel
theorem dX6_insert_91 : decode cX6_insert 91 = .ok (.getfield 26, 3) := by decide +kernel
theorem dX6_insert_94 : decode cX6_insert 94 = .ok (.bipush 12, 2) := by decide +kernel
theorem dX6_insert_96 : decode cX6_insert 96 = .ok (.iload_n 1, 1) := by decide +kernel
theorem dX6_insert_97 : decode cX6_insert 97 = .ok (.imul, 1) := by decide +kernel
theorem dX6_insert_98 : decode cX6_insert 98 = .ok (.iload_n 2, 1) := by decide +kernel
theorem dX6_insert_99 : decode cX6_insert 99 = .ok (.iadd, 1) := by decide +kernel
theorem dX6_insert_100 : decode cX6_insert 100 = .ok (.iload 4, 2) := by decide +kernel
theorem dX6_insert_102 : decode cX6_insert 102 = .ok (.iastore, 1) := by decide +kernel
theorem dX6_insert_103 : decode cX6_insert 103 = .ok (.aload_n 0, 1) := by decide +kernel
theorem dX6_insert_104 : decode cX6_insert 104 = .ok (.getfield 29, 3) := by decide +kernel
theorem dX6_insert_107 : decode cX6_insert 107 = .ok (.bipush 12, 2) := by decide +kernel
theorem dX6_insert_109 : decode cX6_insert 109 = .ok (.iload_n 1, 1) := by decide +kernel
theorem dX6_insert_110 : decode cX6_insert 110 = .ok (.imul, 1) := by decide +kernel
theorem dX6_insert_111 : decode cX6_insert 111 = .ok (.iload_n 2, 1) := by decide +kernel
theorem dX6_insert_112 : decode cX6_insert 112 = .ok (.iadd, 1) := by decide +kernel
theorem dX6_insert_113 : decode cX6_insert 113 = .ok (.iload 5, 2) := by decide +kernel
theorem dX6_insert_115 : decode cX6_insert 115 = .ok (.iastore, 1) := by decide +kernel
theorem dX6_insert_116 : decode cX6_insert 116 = .ok (.aload_n 0, 1) := by decide +kernel
theorem dX6_insert_117 : decode cX6_insert 117 = .ok (.getfield 20, 3) := by decide +kernel
theorem dX6_insert_120 : decode cX6_insert 120 = .ok (.iload_n 1, 1) := by decide +kernel
theorem dX6_insert_121 : decode cX6_insert 121 = .ok (.dup2, 1) := by decide +kernel
theorem dX6_insert_122 : decode cX6_insert 122 = .ok (.iaload, 1) := by decide +kernel
theorem dX6_insert_123 : decode cX6_insert 123 = .ok (.iconst 1, 1) := by decide +kernel
theorem dX6_insert_124 : decode cX6_insert 124 = .ok (.iadd, 1) := by decide +kernel
theorem dX6_insert_125 : decode cX6_insert 125 = .ok (.iastore, 1) := by decide +kernel
theorem dX6_insert_126 : decode cX6_insert 126 = .ok (.return_, 1) := by decide +kernel
theorem dX6_newPointer_0 : decode cX6_newPointer 0 = .ok (.aload_n 0, 1) := by decide +kernel
theorem dX6_newPointer_1 : decode cX6_newPointer 1 = .ok (.getfield 32, 3) := by decide +kernel
theorem dX6_newPointer_4 : decode cX6_newPointer 4 = .ok (.aload_n 0, 1) := by decide +kernel
theorem dX6_newPointer_5 : decode cX6_newPointer 5 = .ok (.getfield 64, 3) := by decide +kernel
theorem dX6_newPointer_8 : decode cX6_newPointer 8 = .ok (.iload_n 1, 1) := by decide +kernel
theorem dX6_newPointer_9 : decode cX6_newPointer 9 = .ok (.iastore, 1) := by decide +kernel
theorem dX6_newPointer_10 : decode cX6_newPointer 10 = .ok (.aload_n 0, 1) := by decide +kernel
theorem dX6_newPointer_11 : decode cX6_newPointer 11 = .ok (.getfield 35, 3) := by decide +kernel
theorem dX6_newPointer_14 : decode cX6_newPointer 14 = .ok (.aload_n 0, 1) := by decide +kernel
theorem dX6_newPointer_15 : decode cX6_newPointer 15 = .ok (.getfield 64, 3) := by decide +kernel
theorem dX6_newPointer_18 : decode cX6_newPointer 18 = .ok (.iload_n 2, 1) := by decide +kernel
theorem dX6_newPointer_19 : decode cX6_newPointer 19 = .ok (.iastore, 1) := by decide +kernel
theorem dX6_newPointer_20 : decode cX6_newPointer 20 = .ok (.aload_n 0, 1) := by decide +kernel
theorem dX6_newPointer_21 : decode cX6_newPointer 21 = .ok (.dup, 1) := by decide +kernel
theorem dX6_newPointer_22 : decode cX6_newPointer 22 = .ok (.getfield 64, 3) := by decide +kernel
theorem dX6_newPointer_25 : decode cX6_newPointer 25 = .ok (.iconst 1, 1) := by decide +kernel
theorem dX6_newPointer_26 : decode cX6_newPointer 26 = .ok (.iadd, 1) := by decide +kernel
theorem dX6_newPointer_27 : decode cX6_newPointer 27 = .ok (.putfield 64, 3) := by decide +kernel
theorem dX6_newPointer_30 : decode cX6_newPointer 30 = .ok (.aload_n 0, 1) := by decide +kernel
theorem dX6_newPointer_31 : decode cX6_newPointer 31 = .ok (.getfield 64, 3) := by decide +kernel
theorem dX6_newPointer_34 : decode cX6_newPointer 34 = .ok (.iconst 1, 1) := by decide +kernel
theorem dX6_newPointer_35 : decode cX6_newPointer 35 = .ok (.isub, 1) := by decide +kernel
theorem dX6_newPointer_36 : decode cX6_newPointer 36 = .ok (.ireturn, 1) := by decide +kernel
theorem dX6_allocate_0 : decode cX6_allocate 0 = .ok (.iload_n 1, 1) := by decide +kernel
theorem dX6_allocate_1 : decode cX6_allocate 1 = .ok (.iconst 1, 1) := by decide +kernel
theorem dX6_allocate_2 : decode cX6_allocate 2 = .ok (.bipush 8, 2) := by decide +kernel
theorem dX6_allocate_4 : decode cX6_allocate 4 = .ok (.invokestatic 67, 3) := by decide +kernel
theorem dX6_allocate_7 : decode cX6_allocate 7 = .ok (.ifCond .ne 10, 3) := by decide +kernel
theorem dX6_allocate_10 : decode cX6_allocate 10 = .ok (.aload_n 0, 1) := by decide +kernel
theorem dX6_allocate_11 : decode cX6_allocate 11 = .ok (.bipush (-2), 2) := by decide +kernel
theorem dX6_allocate_13 : decode cX6_allocate 13 = .ok (.invokevirtual 93, 3) := by decide +kernel
theorem dX6_allocate_16 : decode cX6_allocate 16 = .ok (.ireturn, 1) := by decide +kernel
theorem dX6_allocate_17 : decode cX6_allocate 17 = .ok (.aload_n 0, 1) := by decide +kernel
theorem dX6_allocate_18 : decode cX6_allocate 18 = .ok (.getfield 97, 3) := by decide +kernel
theorem dX6_allocate_21 : decode cX6_allocate 21 = .ok (.bipush 10, 2) := by decide +kernel
theorem dX6_allocate_23 : decode cX6_allocate 23 = .ok (.if_icmp .eq 12, 3) := by decide +kernel
theorem dX6_allocate_26 : decode cX6_allocate 26 = .ok (.aload_n 0, 1) := by decide +kernel
theorem dX6_allocate_27 : decode cX6_allocate 27 = .ok (.getfield 64, 3) := by decide +kernel
theorem dX6_allocate_30 : decode cX6_allocate 30 = .ok (.bipush 60, 2) := by decide +kernel
theorem dX6_allocate_32 : decode cX6_allocate 32 = .ok (.if_icmp .ne 10, 3) := by decide +kernel
theorem dX6_allocate_35 : decode cX6_allocate 35 = .ok (.aload_n 0, 1) := by decide +kernel
theorem dX6_allocate_36 : decode cX6_allocate 36 = .ok (.bipush (-4), 2) := by decide +kernel
theorem dX6_allocate_38 : decode cX6_allocate 38 = .ok (.invokevirtual 93, 3) := by decide +kernel
theorem dX6_allocate_41 : decode cX6_allocate 41 = .ok (.ireturn, 1) := by decide +kernel
theorem dX6_allocate_42 : decode cX6_allocate 42 = .ok (.aload_n 0, 1) := by decide +kernel
theorem dX6_allocate_43 : decode cX6_allocate 43 = .ok (.getfield 97, 3) := by decide +kernel
theorem dX6_allocate_46 : decode cX6_allocate 46 = .ok (.istore_n 2, 1) := by decide +kernel
theorem dX6_allocate_47 : decode cX6_allocate 47 = .ok (.aload_n 0, 1) := by decide +kernel
theorem dX6_allocate_48 : decode cX6_allocate 48 = .ok (.dup, 1) := by decide +kernel
theorem dX6_allocate_49 : decode cX6_allocate 49 = .ok (.getfield 97, 3) := by decide +kernel
theorem dX6_allocate_52 : decode cX6_allocate 52 = .ok (.iconst 1, 1) := by decide +kernel
theorem dX6_allocate_53 : decode cX6_allocate 53 = .ok (.iadd, 1) := by decide +kernel
theorem dX6_allocate_54 : decode cX6_allocate 54 = .ok (.putfield 97, 3) := by decide +kernel
theorem dX6_allocate_57 : decode cX6_allocate 57 = .ok (.aload_n 0, 1) := by decide +kernel
theorem dX6_allocate_58 : decode cX6_allocate 58 = .ok (.getfield 7, 3) := by decide +kernel
theorem dX6_allocate_61 : decode cX6_allocate 61 = .ok (.iload_n 2, 1) := by decide +kernel
theorem dX6_allocate_62 : decode cX6_allocate 62 = .ok (.iload_n 1, 1) := by decide +kernel
theorem dX6_allocate_63 : decode cX6_allocate 63 = .ok (.iastore, 1) := by decide +kernel
theorem dX6_allocate_64 : decode cX6_allocate 64 = .ok (.aload_n 0, 1) := by decide +kernel
theorem dX6_allocate_65 : decode cX6_allocate 65 = .ok (.iload_n 2, 1) := by decide +kernel
theorem dX6_allocate_66 : decode cX6_allocate 66 = .ok (.iconst (-1), 1) := by decide +kernel
theorem dX6_allocate_67 : decode cX6_allocate 67 = .ok (.invokevirtual 100, 3) := by decide +kernel
theorem dX6_allocate_70 : decode cX6_allocate 70 = .ok (.istore_n 3, 1) := by decide +kernel
theorem dX6_allocate_71 : decode cX6_allocate 71 = .ok (.iconst 0, 1) := by decide +kernel
theorem dX6_allocate_72 : decode cX6_allocate 72 = .ok (.istore 4, 2) := by decide +kernel
theorem dX6_allocate_74 : decode cX6_allocate 74 = .ok (.iload 4, 2) := by decide +kernel
theorem dX6_allocate_76 : decode cX6_allocate 76 = .ok (.iload_n 1, 1) := by decide +kernel
theorem dX6_allocate_77 : decode cX6_allocate 77 = .ok (.if_icmp .ge 24, 3) := by decide +kernel
theorem dX6_allocate_80 : decode cX6_allocate 80 = .ok (.aload_n 0, 1) := by decide +kernel
theorem dX6_allocate_81 : decode cX6_allocate 81 = .ok (.bipush 8, 2) := by decide +kernel
theorem dX6_allocate_83 : decode cX6_allocate 83 = .ok (.iload_n 2, 1) := by decide +kernel
theorem dX6_allocate_84 : decode cX6_allocate 84 = .ok (.imul, 1) := by decide +kernel
theorem dX6_allocate_85 : decode cX6_allocate 85 = .ok (.iload 4, 2) := by decide +kernel
theorem dX6_allocate_87 : decode cX6_allocate 87 = .ok (.iadd, 1) := by decide +kernel
theorem dX6_allocate_88 : decode cX6_allocate 88 = .ok (.iconst 0, 1) := by decide +kernel
theorem dX6_allocate_89 : decode cX6_allocate 89 = .ok (.iload_n 3, 1) := by decide +kernel
theorem dX6_allocate_90 : decode cX6_allocate 90 = .ok (.iconst 0, 1) := by decide +kernel
theorem dX6_allocate_91 : decode cX6_allocate 91 = .ok (.iconst 0, 1) := by decide +kernel
theorem dX6_allocate_92 : decode cX6_allocate 92 = .ok (.invokevirtual 103, 3) := by decide +kernel
theorem dX6_allocate_95 : decode cX6_allocate 95 = .ok (.iinc 4 1, 3) := by decide +kernel
theorem dX6_allocate_98 : decode cX6_allocate 98 = .ok (.goto (-24), 3) := by decide +kernel
theorem dX6_allocate_101 : decode cX6_allocate 101 = .ok (.iload_n 3, 1) := by decide +kernel
theorem dX6_allocate_102 : decode cX6_allocate 102 = .ok (.ireturn, 1) := by decide +kernel
theorem dX6_read_0 : decode cX6_read 0 = .ok (.aload_n 0, 1) := by decide +kernel
theorem dX6_read_1 : decode cX6_read 1 = .ok (.iload_n 1, 1) := by decide +kernel
theorem dX6_read_2 : decode cX6_read 2 = .ok (.iload_n 2, 1) := by decide +kernel
theorem dX6_read_3 : decode cX6_read 3 = .ok (.invokevirtual 107, 3) := by decide +kernel
theorem dX6_read_6 : decode cX6_read 6 = .ok (.ifCond .ne 10, 3) := by decide +kernel
theorem dX6_read_9 : decode cX6_read 9 = .ok (.aload_n 0, 1) := by decide +kernel
theorem dX6_read_10 : decode cX6_read 10 = .ok (.bipush (-2), 2) := by decide +kernel
theorem dX6_read_12 : decode cX6_read 12 = .ok (.invokevirtual 93, 3) := by decide +kernel
theorem dX6_read_15 : decode cX6_read 15 = .ok (.ireturn, 1) := by decide +kernel
theorem dX6_read_16 : decode cX6_read 16 = .ok (.aload_n 0, 1) := by decide +kernel
theorem dX6_read_17 : decode cX6_read 17 = .ok (.iload_n 1, 1) := by decide +kernel
theorem dX6_read_18 : decode cX6_read 18 = .ok (.iload_n 2, 1) := by decide +kernel
theorem dX6_read_19 : decode cX6_read 19 = .ok (.invokevirtual 111, 3) := by decide +kernel
theorem dX6_read_22 : decode cX6_read 22 = .ok (.istore_n 3, 1) := by decide +kernel
theorem dX6_read_23 : decode cX6_read 23 = .ok (.iload_n 3, 1) := by decide +kernel
theorem dX6_read_24 : decode cX6_read 24 = .ok (.ifCond .eq 10, 3) := by decide +kernel
theorem dX6_read_27 : decode cX6_read 27 = .ok (.aload_n 0, 1) := by decide +kernel
theorem dX6_read_28 : decode cX6_read 28 = .ok (.iload_n 3, 1) := by decide +kernel
theorem dX6_read_29 : decode cX6_read 29 = .ok (.iload_n 2, 1) := by decide +kernel
theorem dX6_read_30 : decode cX6_read 30 = .ok (.invokevirtual 114, 3) := by decide +kernel
theorem dX6_read_33 : decode cX6_read 33 = .ok (.ireturn, 1) := by decide +kernel
theorem dX6_read_34 : decode cX6_read 34 = .ok (.aload_n 0, 1) := by decide +kernel
theorem dX6_read_35 : decode cX6_read 35 = .ok (.iload_n 1, 1) := by decide +kernel
theorem dX6_read_36 : decode cX6_read 36 = .ok (.iload_n 2, 1) := by decide +kernel
theorem dX6_read_37 : decode cX6_read 37 = .ok (.invokevirtual 117, 3) := by decide +kernel
theorem dX6_read_40 : decode cX6_read 40 = .ok (.aload_n 0, 1) := by decide +kernel
theorem dX6_read_41 : decode cX6_read 41 = .ok (.getfield 17, 3) := by decide +kernel
theorem dX6_read_44 : decode cX6_read 44 = .ok (.aload_n 0, 1) := by decide +kernel
theorem dX6_read_45 : decode cX6_read 45 = .ok (.iload_n 1, 1) := by decide +kernel
theorem dX6_read_46 : decode cX6_read 46 = .ok (.iload_n 2, 1) := by decide +kernel
theorem dX6_read_47 : decode cX6_read 47 = .ok (.invokevirtual 75, 3) := by decide +kernel
theorem dX6_read_50 : decode cX6_read 50 = .ok (.iaload, 1) := by decide +kernel
theorem dX6_read_51 : decode cX6_read 51 = .ok (.ireturn, 1) := by decide +kernel
theorem dX6_write_0 : decode cX6_write 0 = .ok (.aload_n 0, 1) := by decide +kernel
theorem dX6_write_1 : decode cX6_write 1 = .ok (.iload_n 1, 1) := by decide +kernel
theorem dX6_write_2 : decode cX6_write 2 = .ok (.iload_n 2, 1) := by decide +kernel
theorem dX6_write_3 : decode cX6_write 3 = .ok (.invokevirtual 107, 3) := by decide +kernel
theorem dX6_write_6 : decode cX6_write 6 = .ok (.ifCond .eq 13, 3) := by decide +kernel
theorem dX6_write_9 : decode cX6_write 9 = .ok (.iload_n 3, 1) := by decide +kernel
theorem dX6_write_10 : decode cX6_write 10 = .ok (.iconst 0, 1) := by decide +kernel
theorem dX6_write_11 : decode cX6_write 11 = .ok (.bipush 99, 2) := by decide +kernel
theorem dX6_write_13 : decode cX6_write 13 = .ok (.invokestatic 67, 3) := by decide +kernel
theorem dX6_write_16 : decode cX6_write 16 = .ok (.ifCond .ne 10, 3) := by decide +kernel
theorem dX6_write_19 : decode cX6_write 19 = .ok (.aload_n 0, 1) := by decide +kernel
theorem dX6_write_20 : decode cX6_write 20 = .ok (.bipush (-2), 2) := by decide +kernel
theorem dX6_write_22 : decode cX6_write 22 = .ok (.invokevirtual 93, 3) := by decide +kernel
theorem dX6_write_25 : decode cX6_write 25 = .ok (.ireturn, 1) := by decide +kernel
theorem dX6_write_26 : decode cX6_write 26 = .ok (.aload_n 0, 1) := by decide +kernel
theorem dX6_write_27 : decode cX6_write 27 = .ok (.iload_n 1, 1) := by decide +kernel
theorem dX6_write_28 : decode cX6_write 28 = .ok (.iload_n 2, 1) := by decide +kernel
theorem dX6_write_29 : decode cX6_write 29 = .ok (.invokevirtual 90, 3) := by decide +kernel
theorem dX6_write_32 : decode cX6_write 32 = .ok (.istore 4, 2) := by decide +kernel
theorem dX6_write_34 : decode cX6_write 34 = .ok (.iload 4, 2) := by decide +kernel
theorem dX6_write_36 : decode cX6_write 36 = .ok (.ifCond .eq 11, 3) := by decide +kernel
theorem dX6_write_39 : decode cX6_write 39 = .ok (.aload_n 0, 1) := by decide +kernel
theorem dX6_write_40 : decode cX6_write 40 = .ok (.iload 4, 2) := by decide +kernel
theorem dX6_write_42 : decode cX6_write 42 = .ok (.iload_n 2, 1) := by decide +kernel
theorem dX6_write_43 : decode cX6_write 43 = .ok (.invokevirtual 114, 3) := by decide +kernel
theorem dX6_write_46 : decode cX6_write 46 = .ok (.ireturn, 1) := by decide +kernel
theorem dX6_write_47 : decode cX6_write 47 = .ok (.aload_n 0, 1) := by decide +kernel
theorem dX6_write_48 : decode cX6_write 48 = .ok (.iload_n 1, 1) := by decide +kernel
theorem dX6_write_49 : decode cX6_write 49 = .ok (.iload_n 2, 1) := by decide +kernel
theorem dX6_write_50 : decode cX6_write 50 = .ok (.invokevirtual 121, 3) := by decide +kernel
theorem dX6_write_53 : decode cX6_write 53 = .ok (.aload_n 0, 1) := by decide +kernel
theorem dX6_write_54 : decode cX6_write 54 = .ok (.iload_n 1, 1) := by decide +kernel
theorem dX6_write_55 : decode cX6_write 55 = .ok (.iload_n 2, 1) := by decide +kernel
theorem dX6_write_56 : decode cX6_write 56 = .ok (.invokevirtual 75, 3) := by decide +kernel
theorem dX6_write_59 : decode cX6_write 59 = .ok (.istore 5, 2) := by decide +kernel
theorem dX6_write_61 : decode cX6_write 61 = .ok (.aload_n 0, 1) := by decide +kernel
theorem dX6_write_62 : decode cX6_write 62 = .ok (.getfield 17, 3) := by decide +kernel
theorem dX6_write_65 : decode cX6_write 65 = .ok (.iload 5, 2) := by decide +kernel
theorem dX6_write_67 : decode cX6_write 67 = .ok (.iaload, 1) := by decide +kernel
theorem dX6_write_68 : decode cX6_write 68 = .ok (.istore 6, 2) := by decide +kernel
theorem dX6_write_70 : decode cX6_write 70 = .ok (.aload_n 0, 1) := by decide +kernel
theorem dX6_write_71 : decode cX6_write 71 = .ok (.getfield 17, 3) := by decide +kernel
theorem dX6_write_74 : decode cX6_write 74 = .ok (.iload 5, 2) := by decide +kernel
theorem dX6_write_76 : decode cX6_write 76 = .ok (.iload_n 3, 1) := by decide +kernel
theorem dX6_write_77 : decode cX6_write 77 = .ok (.iastore, 1) := by decide +kernel
theorem dX6_write_78 : decode cX6_write 78 = .ok (.iload 6, 2) := by decide +kernel
theorem dX6_write_80 : decode cX6_write 80 = .ok (.ireturn, 1) := by decide +kernel
theorem dX6_reborrowKind_0 : decode cX6_reborrowKind 0 = .ok (.iload_n 2, 1) := by decide +kernel
theorem dX6_reborrowKind_1 : decode cX6_reborrowKind 1 = .ok (.ifCond .ne 12, 3) := by decide +kernel
theorem dX6_reborrowKind_4 : decode cX6_reborrowKind 4 = .ok (.aload_n 0, 1) := by decide +kernel
theorem dX6_reborrowKind_5 : decode cX6_reborrowKind 5 = .ok (.iload_n 1, 1) := by decide +kernel
theorem dX6_reborrowKind_6 : decode cX6_reborrowKind 6 = .ok (.iload_n 3, 1) := by decide +kernel
theorem dX6_reborrowKind_7 : decode cX6_reborrowKind 7 = .ok (.invokevirtual 90, 3) := by decide +kernel
theorem dX6_reborrowKind_10 : decode cX6_reborrowKind 10 = .ok (.goto 23, 3) := by decide +kernel
theorem dX6_reborrowKind_13 : decode cX6_reborrowKind 13 = .ok (.iload_n 2, 1) := by decide +kernel
theorem dX6_reborrowKind_14 : decode cX6_reborrowKind 14 = .ok (.iconst 1, 1) := by decide +kernel
theorem dX6_reborrowKind_15 : decode cX6_reborrowKind 15 = .ok (.if_icmp .ne 12, 3) := by decide +kernel
theorem dX6_reborrowKind_18 : decode cX6_reborrowKind 18 = .ok (.aload_n 0, 1) := by decide +kernel
theorem dX6_reborrowKind_19 : decode cX6_reborrowKind 19 = .ok (.iload_n 1, 1) := by decide +kernel
theorem dX6_reborrowKind_20 : decode cX6_reborrowKind 20 = .ok (.iload_n 3, 1) := by decide +kernel
theorem dX6_reborrowKind_21 : decode cX6_reborrowKind 21 = .ok (.invokevirtual 111, 3) := by decide +kernel
theorem dX6_reborrowKind_24 : decode cX6_reborrowKind 24 = .ok (.goto 9, 3) := by decide +kernel
theorem dX6_reborrowKind_27 : decode cX6_reborrowKind 27 = .ok (.aload_n 0, 1) := by decide +kernel
theorem dX6_reborrowKind_28 : decode cX6_reborrowKind 28 = .ok (.iload_n 1, 1) := by decide +kernel
theorem dX6_reborrowKind_29 : decode cX6_reborrowKind 29 = .ok (.iload_n 3, 1) := by decide +kernel
theorem dX6_reborrowKind_30 : decode cX6_reborrowKind 30 = .ok (.invokevirtual 124, 3) := by decide +kernel
theorem dX6_reborrowKind_33 : decode cX6_reborrowKind 33 = .ok (.ireturn, 1) := by decide +kernel
theorem dX6_sizeBy_0 : decode cX6_sizeBy 0 = .ok (.aload_n 0, 1) := by decide +kernel
theorem dX6_sizeBy_1 : decode cX6_sizeBy 1 = .ok (.iload_n 1, 1) := by decide +kernel
theorem dX6_sizeBy_2 : decode cX6_sizeBy 2 = .ok (.iload_n 3, 1) := by decide +kernel
theorem dX6_sizeBy_3 : decode cX6_sizeBy 3 = .ok (.invokevirtual 75, 3) := by decide +kernel
theorem dX6_sizeBy_6 : decode cX6_sizeBy 6 = .ok (.istore 4, 2) := by decide +kernel
theorem dX6_sizeBy_8 : decode cX6_sizeBy 8 = .ok (.iconst 1, 1) := by decide +kernel
theorem dX6_sizeBy_9 : decode cX6_sizeBy 9 = .ok (.iload_n 2, 1) := by decide +kernel
theorem dX6_sizeBy_10 : decode cX6_sizeBy 10 = .ok (.ifCond .ne 20, 3) := by decide +kernel
theorem dX6_sizeBy_13 : decode cX6_sizeBy 13 = .ok (.aload_n 0, 1) := by decide +kernel
theorem dX6_sizeBy_14 : decode cX6_sizeBy 14 = .ok (.iload 4, 2) := by decide +kernel
theorem dX6_sizeBy_16 : decode cX6_sizeBy 16 = .ok (.aload_n 0, 1) := by decide +kernel
theorem dX6_sizeBy_17 : decode cX6_sizeBy 17 = .ok (.iload 4, 2) := by decide +kernel
theorem dX6_sizeBy_19 : decode cX6_sizeBy 19 = .ok (.iload_n 1, 1) := by decide +kernel
theorem dX6_sizeBy_20 : decode cX6_sizeBy 20 = .ok (.iconst 1, 1) := by decide +kernel
theorem dX6_sizeBy_21 : decode cX6_sizeBy 21 = .ok (.invokevirtual 79, 3) := by decide +kernel
theorem dX6_sizeBy_24 : decode cX6_sizeBy 24 = .ok (.invokevirtual 87, 3) := by decide +kernel
theorem dX6_sizeBy_27 : decode cX6_sizeBy 27 = .ok (.goto 10, 3) := by decide +kernel
theorem dX6_sizeBy_30 : decode cX6_sizeBy 30 = .ok (.aload_n 0, 1) := by decide +kernel
theorem dX6_sizeBy_31 : decode cX6_sizeBy 31 = .ok (.getfield 20, 3) := by decide +kernel
theorem dX6_sizeBy_34 : decode cX6_sizeBy 34 = .ok (.iload 4, 2) := by decide +kernel
theorem dX6_sizeBy_36 : decode cX6_sizeBy 36 = .ok (.iaload, 1) := by decide +kernel
theorem dX6_sizeBy_37 : decode cX6_sizeBy 37 = .ok (.iadd, 1) := by decide +kernel
theorem dX6_sizeBy_38 : decode cX6_sizeBy 38 = .ok (.ireturn, 1) := by decide +kernel
theorem dX6_put_0 : decode cX6_put 0 = .ok (.aload_n 0, 1) := by decide +kernel
theorem dX6_put_1 : decode cX6_put 1 = .ok (.iload_n 1, 1) := by decide +kernel
theorem dX6_put_2 : decode cX6_put 2 = .ok (.iload_n 3, 1) := by decide +kernel
theorem dX6_put_3 : decode cX6_put 3 = .ok (.invokevirtual 75, 3) := by decide +kernel
theorem dX6_put_6 : decode cX6_put 6 = .ok (.istore 5, 2) := by decide +kernel
theorem dX6_put_8 : decode cX6_put 8 = .ok (.aload_n 0, 1) := by decide +kernel
theorem dX6_put_9 : decode cX6_put 9 = .ok (.getfield 64, 3) := by decide +kernel
theorem dX6_put_12 : decode cX6_put 12 = .ok (.istore 6, 2) := by decide +kernel
theorem dX6_put_14 : decode cX6_put 14 = .ok (.iload_n 2, 1) := by decide +kernel
theorem dX6_put_15 : decode cX6_put 15 = .ok (.ifCond .ne 30, 3) := by decide +kernel
theorem dX6_put_18 : decode cX6_put 18 = .ok (.aload_n 0, 1) := by decide +kernel
theorem dX6_put_19 : decode cX6_put 19 = .ok (.iload_n 1, 1) := by decide +kernel
theorem dX6_put_20 : decode cX6_put 20 = .ok (.iload_n 3, 1) := by decide +kernel
theorem dX6_put_21 : decode cX6_put 21 = .ok (.invokevirtual 121, 3) := by decide +kernel
theorem dX6_put_24 : decode cX6_put 24 = .ok (.aload_n 0, 1) := by decide +kernel
theorem dX6_put_25 : decode cX6_put 25 = .ok (.iload 5, 2) := by decide +kernel
theorem dX6_put_27 : decode cX6_put 27 = .ok (.aload_n 0, 1) := by decide +kernel
theorem dX6_put_28 : decode cX6_put 28 = .ok (.getfield 20, 3) := by decide +kernel
theorem dX6_put_31 : decode cX6_put 31 = .ok (.iload 5, 2) := by decide +kernel
theorem dX6_put_33 : decode cX6_put 33 = .ok (.iaload, 1) := by decide +kernel
theorem dX6_put_34 : decode cX6_put 34 = .ok (.iload 6, 2) := by decide +kernel
theorem dX6_put_36 : decode cX6_put 36 = .ok (.iconst 0, 1) := by decide +kernel
theorem dX6_put_37 : decode cX6_put 37 = .ok (.iload 4, 2) := by decide +kernel
theorem dX6_put_39 : decode cX6_put 39 = .ok (.invokevirtual 103, 3) := by decide +kernel
theorem dX6_put_42 : decode cX6_put 42 = .ok (.goto 60, 3) := by decide +kernel
theorem dX6_put_45 : decode cX6_put 45 = .ok (.iload_n 2, 1) := by decide +kernel
theorem dX6_put_46 : decode cX6_put 46 = .ok (.iconst 1, 1) := by decide +kernel
theorem dX6_put_47 : decode cX6_put 47 = .ok (.if_icmp .ne 30, 3) := by decide +kernel
theorem dX6_put_50 : decode cX6_put 50 = .ok (.aload_n 0, 1) := by decide +kernel
theorem dX6_put_51 : decode cX6_put 51 = .ok (.iload_n 1, 1) := by decide +kernel
theorem dX6_put_52 : decode cX6_put 52 = .ok (.iload_n 3, 1) := by decide +kernel
theorem dX6_put_53 : decode cX6_put 53 = .ok (.invokevirtual 117, 3) := by decide +kernel
theorem dX6_put_56 : decode cX6_put 56 = .ok (.aload_n 0, 1) := by decide +kernel
theorem dX6_put_57 : decode cX6_put 57 = .ok (.iload 5, 2) := by decide +kernel
theorem dX6_put_59 : decode cX6_put 59 = .ok (.aload_n 0, 1) := by decide +kernel
theorem dX6_put_60 : decode cX6_put 60 = .ok (.getfield 20, 3) := by decide +kernel
theorem dX6_put_63 : decode cX6_put 63 = .ok (.iload 5, 2) := by decide +kernel
theorem dX6_put_65 : decode cX6_put 65 = .ok (.iaload, 1) := by decide +kernel
theorem dX6_put_66 : decode cX6_put 66 = .ok (.iload 6, 2) := by decide +kernel
theorem dX6_put_68 : decode cX6_put 68 = .ok (.iconst 2, 1) := by decide +kernel
theorem dX6_put_69 : decode cX6_put 69 = .ok (.iload 4, 2) := by decide +kernel
theorem dX6_put_71 : decode cX6_put 71 = .ok (.invokevirtual 103, 3) := by decide +kernel
theorem dX6_put_74 : decode cX6_put 74 = .ok (.goto 28, 3) := by decide +kernel
theorem dX6_put_77 : decode cX6_put 77 = .ok (.aload_n 0, 1) := by decide +kernel
theorem dX6_put_78 : decode cX6_put 78 = .ok (.iload 5, 2) := by decide +kernel
theorem dX6_put_80 : decode cX6_put 80 = .ok (.aload_n 0, 1) := by decide +kernel
theorem dX6_put_81 : decode cX6_put 81 = .ok (.iload 5, 2) := by decide +kernel
theorem dX6_put_83 : decode cX6_put 83 = .ok (.aload_n 0, 1) := by decide +kernel
theorem dX6_put_84 : decode cX6_put 84 = .ok (.iload 5, 2) := by decide +kernel
theorem dX6_put_86 : decode cX6_put 86 = .ok (.iload_n 1, 1) := by decide +kernel
theorem dX6_put_87 : decode cX6_put 87 = .ok (.iconst 1, 1) := by decide +kernel
theorem dX6_put_88 : decode cX6_put 88 = .ok (.invokevirtual 79, 3) := by decide +kernel
theorem dX6_put_91 : decode cX6_put 91 = .ok (.invokevirtual 87, 3) := by decide +kernel
theorem dX6_put_94 : decode cX6_put 94 = .ok (.iload 6, 2) := by decide +kernel
theorem dX6_put_96 : decode cX6_put 96 = .ok (.iconst 1, 1) := by decide +kernel
theorem dX6_put_97 : decode cX6_put 97 = .ok (.iload 4, 2) := by decide +kernel
theorem dX6_put_99 : decode cX6_put 99 = .ok (.invokevirtual 103, 3) := by decide +kernel
theorem dX6_put_102 : decode cX6_put 102 = .ok (.return_, 1) := by decide +kernel
theorem dX6_reborrow_0 : decode cX6_reborrow 0 = .ok (.aload_n 0, 1) := by decide +kernel
theorem dX6_reborrow_1 : decode cX6_reborrow 1 = .ok (.iload_n 1, 1) := by decide +kernel
theorem dX6_reborrow_2 : decode cX6_reborrow 2 = .ok (.iload_n 3, 1) := by decide +kernel
theorem dX6_reborrow_3 : decode cX6_reborrow 3 = .ok (.invokevirtual 107, 3) := by decide +kernel
theorem dX6_reborrow_6 : decode cX6_reborrow 6 = .ok (.ifCond .eq 22, 3) := by decide +kernel
theorem dX6_reborrow_9 : decode cX6_reborrow 9 = .ok (.iload_n 2, 1) := by decide +kernel
theorem dX6_reborrow_10 : decode cX6_reborrow 10 = .ok (.iconst 0, 1) := by decide +kernel
theorem dX6_reborrow_11 : decode cX6_reborrow 11 = .ok (.iconst 2, 1) := by decide +kernel
theorem dX6_reborrow_12 : decode cX6_reborrow 12 = .ok (.invokestatic 67, 3) := by decide +kernel
theorem dX6_reborrow_15 : decode cX6_reborrow 15 = .ok (.ifCond .eq 13, 3) := by decide +kernel
theorem dX6_reborrow_18 : decode cX6_reborrow 18 = .ok (.iload 5, 2) := by decide +kernel
theorem dX6_reborrow_20 : decode cX6_reborrow 20 = .ok (.iconst 0, 1) := by decide +kernel
theorem dX6_reborrow_21 : decode cX6_reborrow 21 = .ok (.iconst 1, 1) := by decide +kernel
theorem dX6_reborrow_22 : decode cX6_reborrow 22 = .ok (.invokestatic 67, 3) := by decide +kernel
theorem dX6_reborrow_25 : decode cX6_reborrow 25 = .ok (.ifCond .ne 10, 3) := by decide +kernel
theorem dX6_reborrow_28 : decode cX6_reborrow 28 = .ok (.aload_n 0, 1) := by decide +kernel
theorem dX6_reborrow_29 : decode cX6_reborrow 29 = .ok (.bipush (-2), 2) := by decide +kernel
theorem dX6_reborrow_31 : decode cX6_reborrow 31 = .ok (.invokevirtual 93, 3) := by decide +kernel
theorem dX6_reborrow_34 : decode cX6_reborrow 34 = .ok (.ireturn, 1) := by decide +kernel
theorem dX6_reborrow_35 : decode cX6_reborrow 35 = .ok (.iload 4, 2) := by decide +kernel
theorem dX6_reborrow_37 : decode cX6_reborrow 37 = .ok (.iconst 1, 1) := by decide +kernel
theorem dX6_reborrow_38 : decode cX6_reborrow 38 = .ok (.aload_n 0, 1) := by decide +kernel
theorem dX6_reborrow_39 : decode cX6_reborrow 39 = .ok (.getfield 7, 3) := by decide +kernel
theorem dX6_reborrow_42 : decode cX6_reborrow 42 = .ok (.aload_n 0, 1) := by decide +kernel
theorem dX6_reborrow_43 : decode cX6_reborrow 43 = .ok (.getfield 32, 3) := by decide +kernel
theorem dX6_reborrow_46 : decode cX6_reborrow 46 = .ok (.iload_n 1, 1) := by decide +kernel
theorem dX6_reborrow_47 : decode cX6_reborrow 47 = .ok (.iaload, 1) := by decide +kernel
theorem dX6_reborrow_48 : decode cX6_reborrow 48 = .ok (.iaload, 1) := by decide +kernel
theorem dX6_reborrow_49 : decode cX6_reborrow 49 = .ok (.iload_n 3, 1) := by decide +kernel
theorem dX6_reborrow_50 : decode cX6_reborrow 50 = .ok (.isub, 1) := by decide +kernel
theorem dX6_reborrow_51 : decode cX6_reborrow 51 = .ok (.invokestatic 67, 3) := by decide +kernel
theorem dX6_reborrow_54 : decode cX6_reborrow 54 = .ok (.ifCond .ne 10, 3) := by decide +kernel
theorem dX6_reborrow_57 : decode cX6_reborrow 57 = .ok (.aload_n 0, 1) := by decide +kernel
theorem dX6_reborrow_58 : decode cX6_reborrow 58 = .ok (.bipush (-2), 2) := by decide +kernel
theorem dX6_reborrow_60 : decode cX6_reborrow 60 = .ok (.invokevirtual 93, 3) := by decide +kernel
theorem dX6_reborrow_63 : decode cX6_reborrow 63 = .ok (.ireturn, 1) := by decide +kernel
theorem dX6_reborrow_64 : decode cX6_reborrow 64 = .ok (.iload 5, 2) := by decide +kernel
theorem dX6_reborrow_66 : decode cX6_reborrow 66 = .ok (.iconst 1, 1) := by decide +kernel
theorem dX6_reborrow_67 : decode cX6_reborrow 67 = .ok (.if_icmp .ne 17, 3) := by decide +kernel
theorem dX6_reborrow_70 : decode cX6_reborrow 70 = .ok (.aload_n 0, 1) := by decide +kernel
theorem dX6_reborrow_71 : decode cX6_reborrow 71 = .ok (.getfield 127, 3) := by decide +kernel
theorem dX6_reborrow_74 : decode cX6_reborrow 74 = .ok (.ifCond .ne 10, 3) := by decide +kernel
theorem dX6_reborrow_77 : decode cX6_reborrow 77 = .ok (.aload_n 0, 1) := by decide +kernel
theorem dX6_reborrow_78 : decode cX6_reborrow 78 = .ok (.bipush (-3), 2) := by decide +kernel
theorem dX6_reborrow_80 : decode cX6_reborrow 80 = .ok (.invokevirtual 93, 3) := by decide +kernel
theorem dX6_reborrow_83 : decode cX6_reborrow 83 = .ok (.ireturn, 1) := by decide +kernel
theorem dX6_reborrow_84 : decode cX6_reborrow 84 = .ok (.iload_n 3, 1) := by decide +kernel
theorem dX6_reborrow_85 : decode cX6_reborrow 85 = .ok (.istore 6, 2) := by decide +kernel
theorem dX6_reborrow_87 : decode cX6_reborrow 87 = .ok (.iload 6, 2) := by decide +kernel
theorem dX6_reborrow_89 : decode cX6_reborrow 89 = .ok (.iload_n 3, 1) := by decide +kernel
theorem dX6_reborrow_90 : decode cX6_reborrow 90 = .ok (.iload 4, 2) := by decide +kernel
theorem dX6_reborrow_92 : decode cX6_reborrow 92 = .ok (.iadd, 1) := by decide +kernel
theorem dX6_reborrow_93 : decode cX6_reborrow 93 = .ok (.if_icmp .ge 33, 3) := by decide +kernel
theorem dX6_reborrow_96 : decode cX6_reborrow 96 = .ok (.aload_n 0, 1) := by decide +kernel
theorem dX6_reborrow_97 : decode cX6_reborrow 97 = .ok (.iload_n 1, 1) := by decide +kernel
theorem dX6_reborrow_98 : decode cX6_reborrow 98 = .ok (.iload_n 2, 1) := by decide +kernel
theorem dX6_reborrow_99 : decode cX6_reborrow 99 = .ok (.iload 6, 2) := by decide +kernel
theorem dX6_reborrow_101 : decode cX6_reborrow 101 = .ok (.invokevirtual 130, 3) := by decide +kernel
theorem dX6_reborrow_104 : decode cX6_reborrow 104 = .ok (.istore 7, 2) := by decide +kernel
theorem dX6_reborrow_106 : decode cX6_reborrow 106 = .ok (.iload 7, 2) := by decide +kernel
theorem dX6_reborrow_108 : decode cX6_reborrow 108 = .ok (.ifCond .eq 12, 3) := by decide +kernel
theorem dX6_reborrow_111 : decode cX6_reborrow 111 = .ok (.aload_n 0, 1) := by decide +kernel
theorem dX6_reborrow_112 : decode cX6_reborrow 112 = .ok (.iload 7, 2) := by decide +kernel
theorem dX6_reborrow_114 : decode cX6_reborrow 114 = .ok (.iload 6, 2) := by decide +kernel
theorem dX6_reborrow_116 : decode cX6_reborrow 116 = .ok (.invokevirtual 114, 3) := by decide +kernel
theorem dX6_reborrow_119 : decode cX6_reborrow 119 = .ok (.ireturn, 1) := by decide +kernel
theorem dX6_reborrow_120 : decode cX6_reborrow 120 = .ok (.iinc 6 1, 3) := by decide +kernel
theorem dX6_reborrow_123 : decode cX6_reborrow 123 = .ok (.goto (-36), 3) := by decide +kernel
theorem dX6_reborrow_126 : decode cX6_reborrow 126 = .ok (.aload_n 0, 1) := by decide +kernel
theorem dX6_reborrow_127 : decode cX6_reborrow 127 = .ok (.getfield 64, 3) := by decide +kernel
theorem dX6_reborrow_130 : decode cX6_reborrow 130 = .ok (.bipush 60, 2) := by decide +kernel
theorem dX6_reborrow_132 : decode cX6_reborrow 132 = .ok (.if_icmp .ge 7, 3) := by decide +kernel
theorem dX6_reborrow_135 : decode cX6_reborrow 135 = .ok (.iconst 1, 1) := by decide +kernel
theorem dX6_reborrow_136 : decode cX6_reborrow 136 = .ok (.goto 4, 3) := by decide +kernel
theorem dX6_reborrow_139 : decode cX6_reborrow 139 = .ok (.iconst 0, 1) := by decide +kernel
theorem dX6_reborrow_140 : decode cX6_reborrow 140 = .ok (.istore 6, 2) := by decide +kernel
theorem dX6_reborrow_142 : decode cX6_reborrow 142 = .ok (.iload_n 3, 1) := by decide +kernel
theorem dX6_reborrow_143 : decode cX6_reborrow 143 = .ok (.istore 7, 2) := by decide +kernel
theorem dX6_reborrow_145 : decode cX6_reborrow 145 = .ok (.iload 7, 2) := by decide +kernel
theorem dX6_reborrow_147 : decode cX6_reborrow 147 = .ok (.iload_n 3, 1) := by decide +kernel
theorem dX6_reborrow_148 : decode cX6_reborrow 148 = .ok (.iload 4, 2) := by decide +kernel
theorem dX6_reborrow_150 : decode cX6_reborrow 150 = .ok (.iadd, 1) := by decide +kernel
theorem dX6_reborrow_151 : decode cX6_reborrow 151 = .ok (.if_icmp .ge 34, 3) := by decide +kernel
theorem dX6_reborrow_154 : decode cX6_reborrow 154 = .ok (.iload 6, 2) := by decide +kernel
theorem dX6_reborrow_156 : decode cX6_reborrow 156 = .ok (.ifCond .eq 20, 3) := by decide +kernel
theorem dX6_reborrow_159 : decode cX6_reborrow 159 = .ok (.aload_n 0, 1) := by decide +kernel
theorem dX6_reborrow_160 : decode cX6_reborrow 160 = .ok (.iload_n 1, 1) := by decide +kernel
theorem dX6_reborrow_161 : decode cX6_reborrow 161 = .ok (.iload_n 2, 1) := by decide +kernel
theorem dX6_reborrow_162 : decode cX6_reborrow 162 = .ok (.iload 7, 2) := by decide +kernel
theorem dX6_reborrow_164 : decode cX6_reborrow 164 = .ok (.invokevirtual 134, 3) := by decide +kernel
theorem dX6_reborrow_167 : decode cX6_reborrow 167 = .ok (.bipush 12, 2) := by decide +kernel
theorem dX6_reborrow_169 : decode cX6_reborrow 169 = .ok (.if_icmp .gt 7, 3) := by decide +kernel
theorem dX6_reborrow_172 : decode cX6_reborrow 172 = .ok (.iconst 1, 1) := by decide +kernel
theorem dX6_reborrow_173 : decode cX6_reborrow 173 = .ok (.goto 4, 3) := by decide +kernel
theorem dX6_reborrow_176 : decode cX6_reborrow 176 = .ok (.iconst 0, 1) := by decide +kernel
theorem dX6_reborrow_177 : decode cX6_reborrow 177 = .ok (.istore 6, 2) := by decide +kernel
theorem dX6_reborrow_179 : decode cX6_reborrow 179 = .ok (.iinc 7 1, 3) := by decide +kernel
theorem dX6_reborrow_182 : decode cX6_reborrow 182 = .ok (.goto (-37), 3) := by decide +kernel
theorem dX6_reborrow_185 : decode cX6_reborrow 185 = .ok (.iload 6, 2) := by decide +kernel
theorem dX6_reborrow_187 : decode cX6_reborrow 187 = .ok (.ifCond .ne 10, 3) := by decide +kernel
theorem dX6_reborrow_190 : decode cX6_reborrow 190 = .ok (.aload_n 0, 1) := by decide +kernel
theorem dX6_reborrow_191 : decode cX6_reborrow 191 = .ok (.bipush (-4), 2) := by decide +kernel
theorem dX6_reborrow_193 : decode cX6_reborrow 193 = .ok (.invokevirtual 93, 3) := by decide +kernel
theorem dX6_reborrow_196 : decode cX6_reborrow 196 = .ok (.ireturn, 1) := by decide +kernel
theorem dX6_reborrow_197 : decode cX6_reborrow 197 = .ok (.iload_n 3, 1) := by decide +kernel
theorem dX6_reborrow_198 : decode cX6_reborrow 198 = .ok (.istore 7, 2) := by decide +kernel
theorem dX6_reborrow_200 : decode cX6_reborrow 200 = .ok (.iload 7, 2) := by decide +kernel
theorem dX6_reborrow_202 : decode cX6_reborrow 202 = .ok (.iload_n 3, 1) := by decide +kernel
theorem dX6_reborrow_203 : decode cX6_reborrow 203 = .ok (.iload 4, 2) := by decide +kernel
theorem dX6_reborrow_205 : decode cX6_reborrow 205 = .ok (.iadd, 1) := by decide +kernel
theorem dX6_reborrow_206 : decode cX6_reborrow 206 = .ok (.if_icmp .ge 31, 3) := by decide +kernel
theorem dX6_reborrow_209 : decode cX6_reborrow 209 = .ok (.aload_n 0, 1) := by decide +kernel
theorem dX6_reborrow_210 : decode cX6_reborrow 210 = .ok (.iload_n 1, 1) := by decide +kernel
theorem dX6_reborrow_211 : decode cX6_reborrow 211 = .ok (.iload_n 2, 1) := by decide +kernel
theorem dX6_reborrow_212 : decode cX6_reborrow 212 = .ok (.iload 7, 2) := by decide +kernel
theorem dX6_reborrow_214 : decode cX6_reborrow 214 = .ok (.iload 5, 2) := by decide +kernel
theorem dX6_reborrow_216 : decode cX6_reborrow 216 = .ok (.iconst 1, 1) := by decide +kernel
theorem dX6_reborrow_217 : decode cX6_reborrow 217 = .ok (.if_icmp .ne 10, 3) := by decide +kernel
theorem dX6_reborrow_220 : decode cX6_reborrow 220 = .ok (.aload_n 0, 1) := by decide +kernel
theorem dX6_reborrow_221 : decode cX6_reborrow 221 = .ok (.getfield 127, 3) := by decide +kernel
theorem dX6_reborrow_224 : decode cX6_reborrow 224 = .ok (.goto 4, 3) := by decide +kernel
theorem dX6_reborrow_227 : decode cX6_reborrow 227 = .ok (.iconst 0, 1) := by decide +kernel
theorem dX6_reborrow_228 : decode cX6_reborrow 228 = .ok (.invokevirtual 137, 3) := by decide +kernel
theorem dX6_reborrow_231 : decode cX6_reborrow 231 = .ok (.iinc 7 1, 3) := by decide +kernel
theorem dX6_reborrow_234 : decode cX6_reborrow 234 = .ok (.goto (-34), 3) := by decide +kernel
theorem dX6_reborrow_237 : decode cX6_reborrow 237 = .ok (.aload_n 0, 1) := by decide +kernel
theorem dX6_reborrow_238 : decode cX6_reborrow 238 = .ok (.aload_n 0, 1) := by decide +kernel
theorem dX6_reborrow_239 : decode cX6_reborrow 239 = .ok (.getfield 32, 3) := by decide +kernel
theorem dX6_reborrow_242 : decode cX6_reborrow 242 = .ok (.iload_n 1, 1) := by decide +kernel
theorem dX6_reborrow_243 : decode cX6_reborrow 243 = .ok (.iaload, 1) := by decide +kernel
theorem dX6_reborrow_244 : decode cX6_reborrow 244 = .ok (.iload_n 1, 1) := by decide +kernel
theorem dX6_reborrow_245 : decode cX6_reborrow 245 = .ok (.invokevirtual 100, 3) := by decide +kernel
theorem dX6_reborrow_248 : decode cX6_reborrow 248 = .ok (.ireturn, 1) := by decide +kernel
theorem dX6_free_0 : decode cX6_free 0 = .ok (.aload_n 0, 1) := by decide +kernel
theorem dX6_free_1 : decode cX6_free 1 = .ok (.iload_n 1, 1) := by decide +kernel
theorem dX6_free_2 : decode cX6_free 2 = .ok (.invokevirtual 71, 3) := by decide +kernel
theorem dX6_free_5 : decode cX6_free 5 = .ok (.ifCond .ne 10, 3) := by decide +kernel
theorem dX6_free_8 : decode cX6_free 8 = .ok (.aload_n 0, 1) := by decide +kernel
theorem dX6_free_9 : decode cX6_free 9 = .ok (.bipush (-2), 2) := by decide +kernel
theorem dX6_free_11 : decode cX6_free 11 = .ok (.invokevirtual 93, 3) := by decide +kernel
theorem dX6_free_14 : decode cX6_free 14 = .ok (.ireturn, 1) := by decide +kernel
theorem dX6_free_15 : decode cX6_free 15 = .ok (.aload_n 0, 1) := by decide +kernel
theorem dX6_free_16 : decode cX6_free 16 = .ok (.getfield 32, 3) := by decide +kernel
theorem dX6_free_19 : decode cX6_free 19 = .ok (.iload_n 1, 1) := by decide +kernel
theorem dX6_free_20 : decode cX6_free 20 = .ok (.iaload, 1) := by decide +kernel
theorem dX6_free_21 : decode cX6_free 21 = .ok (.istore_n 2, 1) := by decide +kernel
theorem dX6_free_22 : decode cX6_free 22 = .ok (.iconst 0, 1) := by decide +kernel
theorem dX6_free_23 : decode cX6_free 23 = .ok (.istore_n 3, 1) := by decide +kernel
theorem dX6_free_24 : decode cX6_free 24 = .ok (.iload_n 3, 1) := by decide +kernel
theorem dX6_free_25 : decode cX6_free 25 = .ok (.aload_n 0, 1) := by decide +kernel
theorem dX6_free_26 : decode cX6_free 26 = .ok (.getfield 7, 3) := by decide +kernel
theorem dX6_free_29 : decode cX6_free 29 = .ok (.iload_n 2, 1) := by decide +kernel
theorem dX6_free_30 : decode cX6_free 30 = .ok (.iaload, 1) := by decide +kernel
theorem dX6_free_31 : decode cX6_free 31 = .ok (.if_icmp .ge 30, 3) := by decide +kernel
theorem dX6_free_34 : decode cX6_free 34 = .ok (.aload_n 0, 1) := by decide +kernel
theorem dX6_free_35 : decode cX6_free 35 = .ok (.iload_n 1, 1) := by decide +kernel
theorem dX6_free_36 : decode cX6_free 36 = .ok (.iload_n 3, 1) := by decide +kernel
theorem dX6_free_37 : decode cX6_free 37 = .ok (.invokevirtual 141, 3) := by decide +kernel
theorem dX6_free_40 : decode cX6_free 40 = .ok (.istore 4, 2) := by decide +kernel
theorem dX6_free_42 : decode cX6_free 42 = .ok (.iload 4, 2) := by decide +kernel
theorem dX6_free_44 : decode cX6_free 44 = .ok (.ifCond .eq 11, 3) := by decide +kernel
theorem dX6_free_47 : decode cX6_free 47 = .ok (.aload_n 0, 1) := by decide +kernel
theorem dX6_free_48 : decode cX6_free 48 = .ok (.iload 4, 2) := by decide +kernel
theorem dX6_free_50 : decode cX6_free 50 = .ok (.iload_n 3, 1) := by decide +kernel
theorem dX6_free_51 : decode cX6_free 51 = .ok (.invokevirtual 114, 3) := by decide +kernel
theorem dX6_free_54 : decode cX6_free 54 = .ok (.ireturn, 1) := by decide +kernel
theorem dX6_free_55 : decode cX6_free 55 = .ok (.iinc 3 1, 3) := by decide +kernel
theorem dX6_free_58 : decode cX6_free 58 = .ok (.goto (-34), 3) := by decide +kernel
theorem dX6_free_61 : decode cX6_free 61 = .ok (.aload_n 0, 1) := by decide +kernel
theorem dX6_free_62 : decode cX6_free 62 = .ok (.getfield 13, 3) := by decide +kernel
theorem dX6_free_65 : decode cX6_free 65 = .ok (.iload_n 2, 1) := by decide +kernel
theorem dX6_free_66 : decode cX6_free 66 = .ok (.iconst 1, 1) := by decide +kernel
theorem dX6_free_67 : decode cX6_free 67 = .ok (.bastore, 1) := by decide +kernel
theorem dX6_free_68 : decode cX6_free 68 = .ok (.aload_n 0, 1) := by decide +kernel
theorem dX6_free_69 : decode cX6_free 69 = .ok (.getfield 7, 3) := by decide +kernel
theorem dX6_free_72 : decode cX6_free 72 = .ok (.iload_n 2, 1) := by decide +kernel
theorem dX6_free_73 : decode cX6_free 73 = .ok (.iaload, 1) := by decide +kernel
theorem dX6_free_74 : decode cX6_free 74 = .ok (.ireturn, 1) := by decide +kernel
theorem dX6_enterCall_0 : decode cX6_enterCall 0 = .ok (.aload_n 0, 1) := by decide +kernel
theorem dX6_enterCall_1 : decode cX6_enterCall 1 = .ok (.getfield 127, 3) := by decide +kernel
theorem dX6_enterCall_4 : decode cX6_enterCall 4 = .ok (.iconst 5, 1) := by decide +kernel
theorem dX6_enterCall_5 : decode cX6_enterCall 5 = .ok (.if_icmp .ne 10, 3) := by decide +kernel
theorem dX6_enterCall_8 : decode cX6_enterCall 8 = .ok (.aload_n 0, 1) := by decide +kernel
theorem dX6_enterCall_9 : decode cX6_enterCall 9 = .ok (.bipush (-4), 2) := by decide +kernel
theorem dX6_enterCall_11 : decode cX6_enterCall 11 = .ok (.invokevirtual 93, 3) := by decide +kernel
theorem dX6_enterCall_14 : decode cX6_enterCall 14 = .ok (.ireturn, 1) := by decide +kernel
theorem dX6_enterCall_15 : decode cX6_enterCall 15 = .ok (.aload_n 0, 1) := by decide +kernel
theorem dX6_enterCall_16 : decode cX6_enterCall 16 = .ok (.dup, 1) := by decide +kernel
theorem dX6_enterCall_17 : decode cX6_enterCall 17 = .ok (.getfield 127, 3) := by decide +kernel
theorem dX6_enterCall_20 : decode cX6_enterCall 20 = .ok (.iconst 1, 1) := by decide +kernel
theorem dX6_enterCall_21 : decode cX6_enterCall 21 = .ok (.iadd, 1) := by decide +kernel
theorem dX6_enterCall_22 : decode cX6_enterCall 22 = .ok (.putfield 127, 3) := by decide +kernel
theorem dX6_enterCall_25 : decode cX6_enterCall 25 = .ok (.aload_n 0, 1) := by decide +kernel
theorem dX6_enterCall_26 : decode cX6_enterCall 26 = .ok (.getfield 127, 3) := by decide +kernel
theorem dX6_enterCall_29 : decode cX6_enterCall 29 = .ok (.ireturn, 1) := by decide +kernel
theorem dX6_leaveCall_0 : decode cX6_leaveCall 0 = .ok (.aload_n 0, 1) := by decide +kernel
theorem dX6_leaveCall_1 : decode cX6_leaveCall 1 = .ok (.getfield 127, 3) := by decide +kernel
theorem dX6_leaveCall_4 : decode cX6_leaveCall 4 = .ok (.ifCond .ne 10, 3) := by decide +kernel
theorem dX6_leaveCall_7 : decode cX6_leaveCall 7 = .ok (.aload_n 0, 1) := by decide +kernel
theorem dX6_leaveCall_8 : decode cX6_leaveCall 8 = .ok (.bipush (-3), 2) := by decide +kernel
theorem dX6_leaveCall_10 : decode cX6_leaveCall 10 = .ok (.invokevirtual 93, 3) := by decide +kernel
theorem dX6_leaveCall_13 : decode cX6_leaveCall 13 = .ok (.ireturn, 1) := by decide +kernel
theorem dX6_leaveCall_14 : decode cX6_leaveCall 14 = .ok (.iconst 0, 1) := by decide +kernel
theorem dX6_leaveCall_15 : decode cX6_leaveCall 15 = .ok (.istore_n 1, 1) := by decide +kernel
theorem dX6_leaveCall_16 : decode cX6_leaveCall 16 = .ok (.iload_n 1, 1) := by decide +kernel
theorem dX6_leaveCall_17 : decode cX6_leaveCall 17 = .ok (.sipush 960, 3) := by decide +kernel
theorem dX6_leaveCall_20 : decode cX6_leaveCall 20 = .ok (.if_icmp .ge 38, 3) := by decide +kernel
theorem dX6_leaveCall_23 : decode cX6_leaveCall 23 = .ok (.aload_n 0, 1) := by decide +kernel
theorem dX6_leaveCall_24 : decode cX6_leaveCall 24 = .ok (.getfield 29, 3) := by decide +kernel
theorem dX6_leaveCall_27 : decode cX6_leaveCall 27 = .ok (.iload_n 1, 1) := by decide +kernel
theorem dX6_leaveCall_28 : decode cX6_leaveCall 28 = .ok (.aload_n 0, 1) := by decide +kernel
theorem dX6_leaveCall_29 : decode cX6_leaveCall 29 = .ok (.getfield 29, 3) := by decide +kernel
theorem dX6_leaveCall_32 : decode cX6_leaveCall 32 = .ok (.iload_n 1, 1) := by decide +kernel
theorem dX6_leaveCall_33 : decode cX6_leaveCall 33 = .ok (.iaload, 1) := by decide +kernel
theorem dX6_leaveCall_34 : decode cX6_leaveCall 34 = .ok (.aload_n 0, 1) := by decide +kernel
theorem dX6_leaveCall_35 : decode cX6_leaveCall 35 = .ok (.getfield 127, 3) := by decide +kernel
theorem dX6_leaveCall_38 : decode cX6_leaveCall 38 = .ok (.if_icmp .ne 7, 3) := by decide +kernel
theorem dX6_leaveCall_41 : decode cX6_leaveCall 41 = .ok (.iconst 0, 1) := by decide +kernel
theorem dX6_leaveCall_42 : decode cX6_leaveCall 42 = .ok (.goto 9, 3) := by decide +kernel
theorem dX6_leaveCall_45 : decode cX6_leaveCall 45 = .ok (.aload_n 0, 1) := by decide +kernel
theorem dX6_leaveCall_46 : decode cX6_leaveCall 46 = .ok (.getfield 29, 3) := by decide +kernel
theorem dX6_leaveCall_49 : decode cX6_leaveCall 49 = .ok (.iload_n 1, 1) := by decide +kernel
theorem dX6_leaveCall_50 : decode cX6_leaveCall 50 = .ok (.iaload, 1) := by decide +kernel
theorem dX6_leaveCall_51 : decode cX6_leaveCall 51 = .ok (.iastore, 1) := by decide +kernel
theorem dX6_leaveCall_52 : decode cX6_leaveCall 52 = .ok (.iinc 1 1, 3) := by decide +kernel
theorem dX6_leaveCall_55 : decode cX6_leaveCall 55 = .ok (.goto (-39), 3) := by decide +kernel
theorem dX6_leaveCall_58 : decode cX6_leaveCall 58 = .ok (.aload_n 0, 1) := by decide +kernel
theorem dX6_leaveCall_59 : decode cX6_leaveCall 59 = .ok (.dup, 1) := by decide +kernel
theorem dX6_leaveCall_60 : decode cX6_leaveCall 60 = .ok (.getfield 127, 3) := by decide +kernel
theorem dX6_leaveCall_63 : decode cX6_leaveCall 63 = .ok (.iconst 1, 1) := by decide +kernel
theorem dX6_leaveCall_64 : decode cX6_leaveCall 64 = .ok (.isub, 1) := by decide +kernel
theorem dX6_leaveCall_65 : decode cX6_leaveCall 65 = .ok (.putfield 127, 3) := by decide +kernel
theorem dX6_leaveCall_68 : decode cX6_leaveCall 68 = .ok (.aload_n 0, 1) := by decide +kernel
theorem dX6_leaveCall_69 : decode cX6_leaveCall 69 = .ok (.getfield 127, 3) := by decide +kernel
theorem dX6_leaveCall_72 : decode cX6_leaveCall 72 = .ok (.ireturn, 1) := by decide +kernel
theorem dX6_checkRead_0 : decode cX6_checkRead 0 = .ok (.aload_n 0, 1) := by decide +kernel
theorem dX6_checkRead_1 : decode cX6_checkRead 1 = .ok (.iload_n 1, 1) := by decide +kernel
theorem dX6_checkRead_2 : decode cX6_checkRead 2 = .ok (.iload_n 2, 1) := by decide +kernel
theorem dX6_checkRead_3 : decode cX6_checkRead 3 = .ok (.invokevirtual 107, 3) := by decide +kernel
theorem dX6_checkRead_6 : decode cX6_checkRead 6 = .ok (.ifCond .eq 12, 3) := by decide +kernel
theorem dX6_checkRead_9 : decode cX6_checkRead 9 = .ok (.aload_n 0, 1) := by decide +kernel
theorem dX6_checkRead_10 : decode cX6_checkRead 10 = .ok (.iload_n 1, 1) := by decide +kernel
theorem dX6_checkRead_11 : decode cX6_checkRead 11 = .ok (.iload_n 2, 1) := by decide +kernel
theorem dX6_checkRead_12 : decode cX6_checkRead 12 = .ok (.invokevirtual 111, 3) := by decide +kernel
theorem dX6_checkRead_15 : decode cX6_checkRead 15 = .ok (.goto 9, 3) := by decide +kernel
theorem dX6_checkRead_18 : decode cX6_checkRead 18 = .ok (.aload_n 0, 1) := by decide +kernel
theorem dX6_checkRead_19 : decode cX6_checkRead 19 = .ok (.bipush (-2), 2) := by decide +kernel
theorem dX6_checkRead_21 : decode cX6_checkRead 21 = .ok (.invokevirtual 93, 3) := by decide +kernel
theorem dX6_checkRead_24 : decode cX6_checkRead 24 = .ok (.ireturn, 1) := by decide +kernel
theorem dX6_checkWrite_0 : decode cX6_checkWrite 0 = .ok (.aload_n 0, 1) := by decide +kernel
theorem dX6_checkWrite_1 : decode cX6_checkWrite 1 = .ok (.iload_n 1, 1) := by decide +kernel
theorem dX6_checkWrite_2 : decode cX6_checkWrite 2 = .ok (.iload_n 2, 1) := by decide +kernel
theorem dX6_checkWrite_3 : decode cX6_checkWrite 3 = .ok (.invokevirtual 107, 3) := by decide +kernel
theorem dX6_checkWrite_6 : decode cX6_checkWrite 6 = .ok (.ifCond .eq 12, 3) := by decide +kernel
theorem dX6_checkWrite_9 : decode cX6_checkWrite 9 = .ok (.aload_n 0, 1) := by decide +kernel
theorem dX6_checkWrite_10 : decode cX6_checkWrite 10 = .ok (.iload_n 1, 1) := by decide +kernel
theorem dX6_checkWrite_11 : decode cX6_checkWrite 11 = .ok (.iload_n 2, 1) := by decide +kernel
theorem dX6_checkWrite_12 : decode cX6_checkWrite 12 = .ok (.invokevirtual 90, 3) := by decide +kernel
theorem dX6_checkWrite_15 : decode cX6_checkWrite 15 = .ok (.goto 9, 3) := by decide +kernel
theorem dX6_checkWrite_18 : decode cX6_checkWrite 18 = .ok (.aload_n 0, 1) := by decide +kernel
theorem dX6_checkWrite_19 : decode cX6_checkWrite 19 = .ok (.bipush (-2), 2) := by decide +kernel
theorem dX6_checkWrite_21 : decode cX6_checkWrite 21 = .ok (.invokevirtual 93, 3) := by decide +kernel
theorem dX6_checkWrite_24 : decode cX6_checkWrite 24 = .ok (.ireturn, 1) := by decide +kernel
theorem dX6_checkFree_0 : decode cX6_checkFree 0 = .ok (.aload_n 0, 1) := by decide +kernel
theorem dX6_checkFree_1 : decode cX6_checkFree 1 = .ok (.iload_n 1, 1) := by decide +kernel
theorem dX6_checkFree_2 : decode cX6_checkFree 2 = .ok (.invokevirtual 71, 3) := by decide +kernel
theorem dX6_checkFree_5 : decode cX6_checkFree 5 = .ok (.ifCond .ne 10, 3) := by decide +kernel
theorem dX6_checkFree_8 : decode cX6_checkFree 8 = .ok (.aload_n 0, 1) := by decide +kernel
theorem dX6_checkFree_9 : decode cX6_checkFree 9 = .ok (.bipush (-2), 2) := by decide +kernel
theorem dX6_checkFree_11 : decode cX6_checkFree 11 = .ok (.invokevirtual 93, 3) := by decide +kernel
theorem dX6_checkFree_14 : decode cX6_checkFree 14 = .ok (.ireturn, 1) := by decide +kernel
theorem dX6_checkFree_15 : decode cX6_checkFree 15 = .ok (.iconst 0, 1) := by decide +kernel
theorem dX6_checkFree_16 : decode cX6_checkFree 16 = .ok (.istore_n 2, 1) := by decide +kernel
theorem dX6_checkFree_17 : decode cX6_checkFree 17 = .ok (.iload_n 2, 1) := by decide +kernel
theorem dX6_checkFree_18 : decode cX6_checkFree 18 = .ok (.aload_n 0, 1) := by decide +kernel
theorem dX6_checkFree_19 : decode cX6_checkFree 19 = .ok (.getfield 7, 3) := by decide +kernel
theorem dX6_checkFree_22 : decode cX6_checkFree 22 = .ok (.aload_n 0, 1) := by decide +kernel
theorem dX6_checkFree_23 : decode cX6_checkFree 23 = .ok (.getfield 32, 3) := by decide +kernel
theorem dX6_checkFree_26 : decode cX6_checkFree 26 = .ok (.iload_n 1, 1) := by decide +kernel
theorem dX6_checkFree_27 : decode cX6_checkFree 27 = .ok (.iaload, 1) := by decide +kernel
theorem dX6_checkFree_28 : decode cX6_checkFree 28 = .ok (.iaload, 1) := by decide +kernel
theorem dX6_checkFree_29 : decode cX6_checkFree 29 = .ok (.if_icmp .ge 22, 3) := by decide +kernel
theorem dX6_checkFree_32 : decode cX6_checkFree 32 = .ok (.aload_n 0, 1) := by decide +kernel
theorem dX6_checkFree_33 : decode cX6_checkFree 33 = .ok (.iload_n 1, 1) := by decide +kernel
theorem dX6_checkFree_34 : decode cX6_checkFree 34 = .ok (.iload_n 2, 1) := by decide +kernel
theorem dX6_checkFree_35 : decode cX6_checkFree 35 = .ok (.invokevirtual 141, 3) := by decide +kernel
theorem dX6_checkFree_38 : decode cX6_checkFree 38 = .ok (.istore_n 3, 1) := by decide +kernel
theorem dX6_checkFree_39 : decode cX6_checkFree 39 = .ok (.iload_n 3, 1) := by decide +kernel
theorem dX6_checkFree_40 : decode cX6_checkFree 40 = .ok (.ifCond .eq 5, 3) := by decide +kernel
theorem dX6_checkFree_43 : decode cX6_checkFree 43 = .ok (.iload_n 3, 1) := by decide +kernel
theorem dX6_checkFree_44 : decode cX6_checkFree 44 = .ok (.ireturn, 1) := by decide +kernel
theorem dX6_checkFree_45 : decode cX6_checkFree 45 = .ok (.iinc 2 1, 3) := by decide +kernel
theorem dX6_checkFree_48 : decode cX6_checkFree 48 = .ok (.goto (-31), 3) := by decide +kernel
theorem dX6_checkFree_51 : decode cX6_checkFree 51 = .ok (.iconst 0, 1) := by decide +kernel
theorem dX6_checkFree_52 : decode cX6_checkFree 52 = .ok (.ireturn, 1) := by decide +kernel
theorem dX6_removedByWrite_0 : decode cX6_removedByWrite 0 = .ok (.aload_n 0, 1) := by decide +kernel
theorem dX6_removedByWrite_1 : decode cX6_removedByWrite 1 = .ok (.iload_n 1, 1) := by decide +kernel
theorem dX6_removedByWrite_2 : decode cX6_removedByWrite 2 = .ok (.iload_n 2, 1) := by decide +kernel
theorem dX6_removedByWrite_3 : decode cX6_removedByWrite 3 = .ok (.invokevirtual 107, 3) := by decide +kernel
theorem dX6_removedByWrite_6 : decode cX6_removedByWrite 6 = .ok (.ifCond .ne 10, 3) := by decide +kernel
theorem dX6_removedByWrite_9 : decode cX6_removedByWrite 9 = .ok (.aload_n 0, 1) := by decide +kernel
theorem dX6_removedByWrite_10 : decode cX6_removedByWrite 10 = .ok (.bipush (-2), 2) := by decide +kernel
theorem dX6_removedByWrite_12 : decode cX6_removedByWrite 12 = .ok (.invokevirtual 93, 3) := by decide +kernel
theorem dX6_removedByWrite_15 : decode cX6_removedByWrite 15 = .ok (.ireturn, 1) := by decide +kernel
theorem dX6_removedByWrite_16 : decode cX6_removedByWrite 16 = .ok (.aload_n 0, 1) := by decide +kernel
theorem dX6_removedByWrite_17 : decode cX6_removedByWrite 17 = .ok (.iload_n 1, 1) := by decide +kernel
theorem dX6_removedByWrite_18 : decode cX6_removedByWrite 18 = .ok (.iload_n 2, 1) := by decide +kernel
theorem dX6_removedByWrite_19 : decode cX6_removedByWrite 19 = .ok (.invokevirtual 90, 3) := by decide +kernel
theorem dX6_removedByWrite_22 : decode cX6_removedByWrite 22 = .ok (.ifCond .eq 5, 3) := by decide +kernel
theorem dX6_removedByWrite_25 : decode cX6_removedByWrite 25 = .ok (.iconst (-1), 1) := by decide +kernel
theorem dX6_removedByWrite_26 : decode cX6_removedByWrite 26 = .ok (.ireturn, 1) := by decide +kernel
theorem dX6_removedByWrite_27 : decode cX6_removedByWrite 27 = .ok (.aload_n 0, 1) := by decide +kernel
theorem dX6_removedByWrite_28 : decode cX6_removedByWrite 28 = .ok (.iload_n 1, 1) := by decide +kernel
theorem dX6_removedByWrite_29 : decode cX6_removedByWrite 29 = .ok (.iload_n 2, 1) := by decide +kernel
theorem dX6_removedByWrite_30 : decode cX6_removedByWrite 30 = .ok (.invokevirtual 75, 3) := by decide +kernel
theorem dX6_removedByWrite_33 : decode cX6_removedByWrite 33 = .ok (.istore_n 3, 1) := by decide +kernel
theorem dX6_removedByWrite_34 : decode cX6_removedByWrite 34 = .ok (.aload_n 0, 1) := by decide +kernel
theorem dX6_removedByWrite_35 : decode cX6_removedByWrite 35 = .ok (.getfield 20, 3) := by decide +kernel
theorem dX6_removedByWrite_38 : decode cX6_removedByWrite 38 = .ok (.iload_n 3, 1) := by decide +kernel
theorem dX6_removedByWrite_39 : decode cX6_removedByWrite 39 = .ok (.iaload, 1) := by decide +kernel
theorem dX6_removedByWrite_40 : decode cX6_removedByWrite 40 = .ok (.aload_n 0, 1) := by decide +kernel
theorem dX6_removedByWrite_41 : decode cX6_removedByWrite 41 = .ok (.iload_n 3, 1) := by decide +kernel
theorem dX6_removedByWrite_42 : decode cX6_removedByWrite 42 = .ok (.aload_n 0, 1) := by decide +kernel
theorem dX6_removedByWrite_43 : decode cX6_removedByWrite 43 = .ok (.iload_n 3, 1) := by decide +kernel
theorem dX6_removedByWrite_44 : decode cX6_removedByWrite 44 = .ok (.iload_n 1, 1) := by decide +kernel
theorem dX6_removedByWrite_45 : decode cX6_removedByWrite 45 = .ok (.iconst 1, 1) := by decide +kernel
theorem dX6_removedByWrite_46 : decode cX6_removedByWrite 46 = .ok (.invokevirtual 79, 3) := by decide +kernel
theorem dX6_removedByWrite_49 : decode cX6_removedByWrite 49 = .ok (.invokevirtual 87, 3) := by decide +kernel
theorem dX6_removedByWrite_52 : decode cX6_removedByWrite 52 = .ok (.isub, 1) := by decide +kernel
theorem dX6_removedByWrite_53 : decode cX6_removedByWrite 53 = .ok (.ireturn, 1) := by decide +kernel
theorem dX6_isAllocation_0 : decode cX6_isAllocation 0 = .ok (.iload_n 1, 1) := by decide +kernel
theorem dX6_isAllocation_1 : decode cX6_isAllocation 1 = .ok (.iconst 0, 1) := by decide +kernel
theorem dX6_isAllocation_2 : decode cX6_isAllocation 2 = .ok (.aload_n 0, 1) := by decide +kernel
theorem dX6_isAllocation_3 : decode cX6_isAllocation 3 = .ok (.getfield 97, 3) := by decide +kernel
theorem dX6_isAllocation_6 : decode cX6_isAllocation 6 = .ok (.iconst 1, 1) := by decide +kernel
theorem dX6_isAllocation_7 : decode cX6_isAllocation 7 = .ok (.isub, 1) := by decide +kernel
theorem dX6_isAllocation_8 : decode cX6_isAllocation 8 = .ok (.invokestatic 67, 3) := by decide +kernel
theorem dX6_isAllocation_11 : decode cX6_isAllocation 11 = .ok (.ireturn, 1) := by decide +kernel
theorem dX6_isCellOf_0 : decode cX6_isCellOf 0 = .ok (.aload_n 0, 1) := by decide +kernel
theorem dX6_isCellOf_1 : decode cX6_isCellOf 1 = .ok (.iload_n 1, 1) := by decide +kernel
theorem dX6_isCellOf_2 : decode cX6_isCellOf 2 = .ok (.invokevirtual 144, 3) := by decide +kernel
theorem dX6_isCellOf_5 : decode cX6_isCellOf 5 = .ok (.ifCond .eq 23, 3) := by decide +kernel
theorem dX6_isCellOf_8 : decode cX6_isCellOf 8 = .ok (.iload_n 2, 1) := by decide +kernel
theorem dX6_isCellOf_9 : decode cX6_isCellOf 9 = .ok (.iconst 0, 1) := by decide +kernel
theorem dX6_isCellOf_10 : decode cX6_isCellOf 10 = .ok (.aload_n 0, 1) := by decide +kernel
theorem dX6_isCellOf_11 : decode cX6_isCellOf 11 = .ok (.getfield 7, 3) := by decide +kernel
theorem dX6_isCellOf_14 : decode cX6_isCellOf 14 = .ok (.iload_n 1, 1) := by decide +kernel
theorem dX6_isCellOf_15 : decode cX6_isCellOf 15 = .ok (.iaload, 1) := by decide +kernel
theorem dX6_isCellOf_16 : decode cX6_isCellOf 16 = .ok (.iconst 1, 1) := by decide +kernel
theorem dX6_isCellOf_17 : decode cX6_isCellOf 17 = .ok (.isub, 1) := by decide +kernel
theorem dX6_isCellOf_18 : decode cX6_isCellOf 18 = .ok (.invokestatic 67, 3) := by decide +kernel
theorem dX6_isCellOf_21 : decode cX6_isCellOf 21 = .ok (.ifCond .eq 7, 3) := by decide +kernel
theorem dX6_isCellOf_24 : decode cX6_isCellOf 24 = .ok (.iconst 1, 1) := by decide +kernel
theorem dX6_isCellOf_25 : decode cX6_isCellOf 25 = .ok (.goto 4, 3) := by decide +kernel
theorem dX6_isCellOf_28 : decode cX6_isCellOf 28 = .ok (.iconst 0, 1) := by decide +kernel
theorem dX6_isCellOf_29 : decode cX6_isCellOf 29 = .ok (.ireturn, 1) := by decide +kernel
theorem dX6_placeOf_0 : decode cX6_placeOf 0 = .ok (.aload_n 0, 1) := by decide +kernel
theorem dX6_placeOf_1 : decode cX6_placeOf 1 = .ok (.iload_n 1, 1) := by decide +kernel
theorem dX6_placeOf_2 : decode cX6_placeOf 2 = .ok (.iload_n 2, 1) := by decide +kernel
theorem dX6_placeOf_3 : decode cX6_placeOf 3 = .ok (.invokevirtual 147, 3) := by decide +kernel
theorem dX6_placeOf_6 : decode cX6_placeOf 6 = .ok (.ifCond .eq 28, 3) := by decide +kernel
theorem dX6_placeOf_9 : decode cX6_placeOf 9 = .ok (.iload_n 3, 1) := by decide +kernel
theorem dX6_placeOf_10 : decode cX6_placeOf 10 = .ok (.iconst 0, 1) := by decide +kernel
theorem dX6_placeOf_11 : decode cX6_placeOf 11 = .ok (.aload_n 0, 1) := by decide +kernel
theorem dX6_placeOf_12 : decode cX6_placeOf 12 = .ok (.getfield 20, 3) := by decide +kernel
theorem dX6_placeOf_15 : decode cX6_placeOf 15 = .ok (.bipush 8, 2) := by decide +kernel
theorem dX6_placeOf_17 : decode cX6_placeOf 17 = .ok (.iload_n 1, 1) := by decide +kernel
theorem dX6_placeOf_18 : decode cX6_placeOf 18 = .ok (.imul, 1) := by decide +kernel
theorem dX6_placeOf_19 : decode cX6_placeOf 19 = .ok (.iload_n 2, 1) := by decide +kernel
theorem dX6_placeOf_20 : decode cX6_placeOf 20 = .ok (.iadd, 1) := by decide +kernel
theorem dX6_placeOf_21 : decode cX6_placeOf 21 = .ok (.iaload, 1) := by decide +kernel
theorem dX6_placeOf_22 : decode cX6_placeOf 22 = .ok (.iconst 1, 1) := by decide +kernel
theorem dX6_placeOf_23 : decode cX6_placeOf 23 = .ok (.isub, 1) := by decide +kernel
theorem dX6_placeOf_24 : decode cX6_placeOf 24 = .ok (.invokestatic 67, 3) := by decide +kernel
theorem dX6_placeOf_27 : decode cX6_placeOf 27 = .ok (.ifCond .eq 7, 3) := by decide +kernel
theorem dX6_placeOf_30 : decode cX6_placeOf 30 = .ok (.iconst 1, 1) := by decide +kernel
theorem dX6_placeOf_31 : decode cX6_placeOf 31 = .ok (.goto 4, 3) := by decide +kernel
theorem dX6_placeOf_34 : decode cX6_placeOf 34 = .ok (.iconst 0, 1) := by decide +kernel
theorem dX6_placeOf_35 : decode cX6_placeOf 35 = .ok (.istore 4, 2) := by decide +kernel
theorem dX6_placeOf_37 : decode cX6_placeOf 37 = .ok (.iload 4, 2) := by decide +kernel
theorem dX6_placeOf_39 : decode cX6_placeOf 39 = .ok (.ifCond .eq 17, 3) := by decide +kernel
theorem dX6_placeOf_42 : decode cX6_placeOf 42 = .ok (.bipush 12, 2) := by decide +kernel
theorem dX6_placeOf_44 : decode cX6_placeOf 44 = .ok (.bipush 8, 2) := by decide +kernel
theorem dX6_placeOf_46 : decode cX6_placeOf 46 = .ok (.iload_n 1, 1) := by decide +kernel
theorem dX6_placeOf_47 : decode cX6_placeOf 47 = .ok (.imul, 1) := by decide +kernel
theorem dX6_placeOf_48 : decode cX6_placeOf 48 = .ok (.iload_n 2, 1) := by decide +kernel
theorem dX6_placeOf_49 : decode cX6_placeOf 49 = .ok (.iadd, 1) := by decide +kernel
theorem dX6_placeOf_50 : decode cX6_placeOf 50 = .ok (.imul, 1) := by decide +kernel
theorem dX6_placeOf_51 : decode cX6_placeOf 51 = .ok (.iload_n 3, 1) := by decide +kernel
theorem dX6_placeOf_52 : decode cX6_placeOf 52 = .ok (.iadd, 1) := by decide +kernel
theorem dX6_placeOf_53 : decode cX6_placeOf 53 = .ok (.goto 4, 3) := by decide +kernel
theorem dX6_placeOf_56 : decode cX6_placeOf 56 = .ok (.iconst (-1), 1) := by decide +kernel
theorem dX6_placeOf_57 : decode cX6_placeOf 57 = .ok (.ireturn, 1) := by decide +kernel
theorem dX6_stackSize_0 : decode cX6_stackSize 0 = .ok (.aload_n 0, 1) := by decide +kernel
theorem dX6_stackSize_1 : decode cX6_stackSize 1 = .ok (.iload_n 1, 1) := by decide +kernel
theorem dX6_stackSize_2 : decode cX6_stackSize 2 = .ok (.iload_n 2, 1) := by decide +kernel
theorem dX6_stackSize_3 : decode cX6_stackSize 3 = .ok (.invokevirtual 147, 3) := by decide +kernel
theorem dX6_stackSize_6 : decode cX6_stackSize 6 = .ok (.ifCond .eq 17, 3) := by decide +kernel
theorem dX6_stackSize_9 : decode cX6_stackSize 9 = .ok (.aload_n 0, 1) := by decide +kernel
theorem dX6_stackSize_10 : decode cX6_stackSize 10 = .ok (.getfield 20, 3) := by decide +kernel
theorem dX6_stackSize_13 : decode cX6_stackSize 13 = .ok (.bipush 8, 2) := by decide +kernel
theorem dX6_stackSize_15 : decode cX6_stackSize 15 = .ok (.iload_n 1, 1) := by decide +kernel
theorem dX6_stackSize_16 : decode cX6_stackSize 16 = .ok (.imul, 1) := by decide +kernel
theorem dX6_stackSize_17 : decode cX6_stackSize 17 = .ok (.iload_n 2, 1) := by decide +kernel
theorem dX6_stackSize_18 : decode cX6_stackSize 18 = .ok (.iadd, 1) := by decide +kernel
theorem dX6_stackSize_19 : decode cX6_stackSize 19 = .ok (.iaload, 1) := by decide +kernel
theorem dX6_stackSize_20 : decode cX6_stackSize 20 = .ok (.goto 9, 3) := by decide +kernel
theorem dX6_stackSize_23 : decode cX6_stackSize 23 = .ok (.aload_n 0, 1) := by decide +kernel
theorem dX6_stackSize_24 : decode cX6_stackSize 24 = .ok (.bipush (-2), 2) := by decide +kernel
theorem dX6_stackSize_26 : decode cX6_stackSize 26 = .ok (.invokevirtual 93, 3) := by decide +kernel
theorem dX6_stackSize_29 : decode cX6_stackSize 29 = .ok (.ireturn, 1) := by decide +kernel
theorem dX6_itemTag_0 : decode cX6_itemTag 0 = .ok (.aload_n 0, 1) := by decide +kernel
theorem dX6_itemTag_1 : decode cX6_itemTag 1 = .ok (.iload_n 1, 1) := by decide +kernel
theorem dX6_itemTag_2 : decode cX6_itemTag 2 = .ok (.iload_n 2, 1) := by decide +kernel
theorem dX6_itemTag_3 : decode cX6_itemTag 3 = .ok (.iload_n 3, 1) := by decide +kernel
theorem dX6_itemTag_4 : decode cX6_itemTag 4 = .ok (.invokevirtual 150, 3) := by decide +kernel
theorem dX6_itemTag_7 : decode cX6_itemTag 7 = .ok (.istore 4, 2) := by decide +kernel
theorem dX6_itemTag_9 : decode cX6_itemTag 9 = .ok (.iload 4, 2) := by decide +kernel
theorem dX6_itemTag_11 : decode cX6_itemTag 11 = .ok (.iconst (-1), 1) := by decide +kernel
theorem dX6_itemTag_12 : decode cX6_itemTag 12 = .ok (.if_icmp .ne 12, 3) := by decide +kernel
theorem dX6_itemTag_15 : decode cX6_itemTag 15 = .ok (.aload_n 0, 1) := by decide +kernel
theorem dX6_itemTag_16 : decode cX6_itemTag 16 = .ok (.bipush (-2), 2) := by decide +kernel
theorem dX6_itemTag_18 : decode cX6_itemTag 18 = .ok (.invokevirtual 93, 3) := by decide +kernel
theorem dX6_itemTag_21 : decode cX6_itemTag 21 = .ok (.goto 10, 3) := by decide +kernel
theorem dX6_itemTag_24 : decode cX6_itemTag 24 = .ok (.aload_n 0, 1) := by decide +kernel
theorem dX6_itemTag_25 : decode cX6_itemTag 25 = .ok (.getfield 23, 3) := by decide +kernel
theorem dX6_itemTag_28 : decode cX6_itemTag 28 = .ok (.iload 4, 2) := by decide +kernel
theorem dX6_itemTag_30 : decode cX6_itemTag 30 = .ok (.iaload, 1) := by decide +kernel
theorem dX6_itemTag_31 : decode cX6_itemTag 31 = .ok (.ireturn, 1) := by decide +kernel
theorem dX6_itemPermission_0 : decode cX6_itemPermission 0 = .ok (.aload_n 0, 1) := by decide +kernel
theorem dX6_itemPermission_1 : decode cX6_itemPermission 1 = .ok (.iload_n 1, 1) := by decide +kernel
theorem dX6_itemPermission_2 : decode cX6_itemPermission 2 = .ok (.iload_n 2, 1) := by decide +kernel
theorem dX6_itemPermission_3 : decode cX6_itemPermission 3 = .ok (.iload_n 3, 1) := by decide +kernel
theorem dX6_itemPermission_4 : decode cX6_itemPermission 4 = .ok (.invokevirtual 150, 3) := by decide +kernel
theorem dX6_itemPermission_7 : decode cX6_itemPermission 7 = .ok (.istore 4, 2) := by decide +kernel
theorem dX6_itemPermission_9 : decode cX6_itemPermission 9 = .ok (.iload 4, 2) := by decide +kernel
theorem dX6_itemPermission_11 : decode cX6_itemPermission 11 = .ok (.iconst (-1), 1) := by decide +kernel
theorem dX6_itemPermission_12 : decode cX6_itemPermission 12 = .ok (.if_icmp .ne 12, 3) := by decide +kernel
theorem dX6_itemPermission_15 : decode cX6_itemPermission 15 = .ok (.aload_n 0, 1) := by decide +kernel
theorem dX6_itemPermission_16 : decode cX6_itemPermission 16 = .ok (.bipush (-2), 2) := by decide +kernel
theorem dX6_itemPermission_18 : decode cX6_itemPermission 18 = .ok (.invokevirtual 93, 3) := by decide +kernel
theorem dX6_itemPermission_21 : decode cX6_itemPermission 21 = .ok (.goto 10, 3) := by decide +kernel
theorem dX6_itemPermission_24 : decode cX6_itemPermission 24 = .ok (.aload_n 0, 1) := by decide +kernel
theorem dX6_itemPermission_25 : decode cX6_itemPermission 25 = .ok (.getfield 26, 3) := by decide +kernel
theorem dX6_itemPermission_28 : decode cX6_itemPermission 28 = .ok (.iload 4, 2) := by decide +kernel
theorem dX6_itemPermission_30 : decode cX6_itemPermission 30 = .ok (.iaload, 1) := by decide +kernel
theorem dX6_itemPermission_31 : decode cX6_itemPermission 31 = .ok (.ireturn, 1) := by decide +kernel
theorem dX6_itemProtected_0 : decode cX6_itemProtected 0 = .ok (.aload_n 0, 1) := by decide +kernel
theorem dX6_itemProtected_1 : decode cX6_itemProtected 1 = .ok (.iload_n 1, 1) := by decide +kernel
theorem dX6_itemProtected_2 : decode cX6_itemProtected 2 = .ok (.iload_n 2, 1) := by decide +kernel
theorem dX6_itemProtected_3 : decode cX6_itemProtected 3 = .ok (.iload_n 3, 1) := by decide +kernel
theorem dX6_itemProtected_4 : decode cX6_itemProtected 4 = .ok (.invokevirtual 150, 3) := by decide +kernel
theorem dX6_itemProtected_7 : decode cX6_itemProtected 7 = .ok (.istore 4, 2) := by decide +kernel
theorem dX6_itemProtected_9 : decode cX6_itemProtected 9 = .ok (.iload 4, 2) := by decide +kernel
theorem dX6_itemProtected_11 : decode cX6_itemProtected 11 = .ok (.iconst (-1), 1) := by decide +kernel
theorem dX6_itemProtected_12 : decode cX6_itemProtected 12 = .ok (.if_icmp .ne 12, 3) := by decide +kernel
theorem dX6_itemProtected_15 : decode cX6_itemProtected 15 = .ok (.aload_n 0, 1) := by decide +kernel
theorem dX6_itemProtected_16 : decode cX6_itemProtected 16 = .ok (.bipush (-2), 2) := by decide +kernel
theorem dX6_itemProtected_18 : decode cX6_itemProtected 18 = .ok (.invokevirtual 93, 3) := by decide +kernel
theorem dX6_itemProtected_21 : decode cX6_itemProtected 21 = .ok (.goto 18, 3) := by decide +kernel
theorem dX6_itemProtected_24 : decode cX6_itemProtected 24 = .ok (.aload_n 0, 1) := by decide +kernel
theorem dX6_itemProtected_25 : decode cX6_itemProtected 25 = .ok (.getfield 29, 3) := by decide +kernel
theorem dX6_itemProtected_28 : decode cX6_itemProtected 28 = .ok (.iload 4, 2) := by decide +kernel
theorem dX6_itemProtected_30 : decode cX6_itemProtected 30 = .ok (.iaload, 1) := by decide +kernel
theorem dX6_itemProtected_31 : decode cX6_itemProtected 31 = .ok (.ifCond .le 7, 3) := by decide +kernel
theorem dX6_itemProtected_34 : decode cX6_itemProtected 34 = .ok (.iconst 1, 1) := by decide +kernel
theorem dX6_itemProtected_35 : decode cX6_itemProtected 35 = .ok (.goto 4, 3) := by decide +kernel
theorem dX6_itemProtected_38 : decode cX6_itemProtected 38 = .ok (.iconst 0, 1) := by decide +kernel
theorem dX6_itemProtected_39 : decode cX6_itemProtected 39 = .ok (.ireturn, 1) := by decide +kernel
theorem dX6_allocationOf_0 : decode cX6_allocationOf 0 = .ok (.aload_n 0, 1) := by decide +kernel
theorem dX6_allocationOf_1 : decode cX6_allocationOf 1 = .ok (.iload_n 1, 1) := by decide +kernel
theorem dX6_allocationOf_2 : decode cX6_allocationOf 2 = .ok (.invokevirtual 71, 3) := by decide +kernel
theorem dX6_allocationOf_5 : decode cX6_allocationOf 5 = .ok (.ifCond .eq 12, 3) := by decide +kernel
theorem dX6_allocationOf_8 : decode cX6_allocationOf 8 = .ok (.aload_n 0, 1) := by decide +kernel
theorem dX6_allocationOf_9 : decode cX6_allocationOf 9 = .ok (.getfield 32, 3) := by decide +kernel
theorem dX6_allocationOf_12 : decode cX6_allocationOf 12 = .ok (.iload_n 1, 1) := by decide +kernel
theorem dX6_allocationOf_13 : decode cX6_allocationOf 13 = .ok (.iaload, 1) := by decide +kernel
theorem dX6_allocationOf_14 : decode cX6_allocationOf 14 = .ok (.goto 9, 3) := by decide +kernel
theorem dX6_allocationOf_17 : decode cX6_allocationOf 17 = .ok (.aload_n 0, 1) := by decide +kernel
theorem dX6_allocationOf_18 : decode cX6_allocationOf 18 = .ok (.bipush (-2), 2) := by decide +kernel
theorem dX6_allocationOf_20 : decode cX6_allocationOf 20 = .ok (.invokevirtual 93, 3) := by decide +kernel
theorem dX6_allocationOf_23 : decode cX6_allocationOf 23 = .ok (.ireturn, 1) := by decide +kernel
theorem dX6_parent_0 : decode cX6_parent 0 = .ok (.aload_n 0, 1) := by decide +kernel
theorem dX6_parent_1 : decode cX6_parent 1 = .ok (.iload_n 1, 1) := by decide +kernel
theorem dX6_parent_2 : decode cX6_parent 2 = .ok (.invokevirtual 71, 3) := by decide +kernel
theorem dX6_parent_5 : decode cX6_parent 5 = .ok (.ifCond .eq 12, 3) := by decide +kernel
theorem dX6_parent_8 : decode cX6_parent 8 = .ok (.aload_n 0, 1) := by decide +kernel
theorem dX6_parent_9 : decode cX6_parent 9 = .ok (.getfield 35, 3) := by decide +kernel
theorem dX6_parent_12 : decode cX6_parent 12 = .ok (.iload_n 1, 1) := by decide +kernel
theorem dX6_parent_13 : decode cX6_parent 13 = .ok (.iaload, 1) := by decide +kernel
theorem dX6_parent_14 : decode cX6_parent 14 = .ok (.goto 9, 3) := by decide +kernel
theorem dX6_parent_17 : decode cX6_parent 17 = .ok (.aload_n 0, 1) := by decide +kernel
theorem dX6_parent_18 : decode cX6_parent 18 = .ok (.bipush (-2), 2) := by decide +kernel
theorem dX6_parent_20 : decode cX6_parent 20 = .ok (.invokevirtual 93, 3) := by decide +kernel
theorem dX6_parent_23 : decode cX6_parent 23 = .ok (.ireturn, 1) := by decide +kernel
theorem dX6_liveOf_0 : decode cX6_liveOf 0 = .ok (.iconst 0, 1) := by decide +kernel
theorem dX6_liveOf_1 : decode cX6_liveOf 1 = .ok (.istore_n 2, 1) := by decide +kernel
theorem dX6_liveOf_2 : decode cX6_liveOf 2 = .ok (.iconst 0, 1) := by decide +kernel
theorem dX6_liveOf_3 : decode cX6_liveOf 3 = .ok (.istore_n 3, 1) := by decide +kernel
theorem dX6_liveOf_4 : decode cX6_liveOf 4 = .ok (.iload_n 3, 1) := by decide +kernel
theorem dX6_liveOf_5 : decode cX6_liveOf 5 = .ok (.aload_n 0, 1) := by decide +kernel
theorem dX6_liveOf_6 : decode cX6_liveOf 6 = .ok (.getfield 7, 3) := by decide +kernel
theorem dX6_liveOf_9 : decode cX6_liveOf 9 = .ok (.aload_n 0, 1) := by decide +kernel
theorem dX6_liveOf_10 : decode cX6_liveOf 10 = .ok (.getfield 32, 3) := by decide +kernel
theorem dX6_liveOf_13 : decode cX6_liveOf 13 = .ok (.iload_n 1, 1) := by decide +kernel
theorem dX6_liveOf_14 : decode cX6_liveOf 14 = .ok (.iaload, 1) := by decide +kernel
theorem dX6_liveOf_15 : decode cX6_liveOf 15 = .ok (.iaload, 1) := by decide +kernel
theorem dX6_liveOf_16 : decode cX6_liveOf 16 = .ok (.if_icmp .ge 47, 3) := by decide +kernel
theorem dX6_liveOf_19 : decode cX6_liveOf 19 = .ok (.aload_n 0, 1) := by decide +kernel
theorem dX6_liveOf_20 : decode cX6_liveOf 20 = .ok (.getfield 13, 3) := by decide +kernel
theorem dX6_liveOf_23 : decode cX6_liveOf 23 = .ok (.aload_n 0, 1) := by decide +kernel
theorem dX6_liveOf_24 : decode cX6_liveOf 24 = .ok (.getfield 32, 3) := by decide +kernel
theorem dX6_liveOf_27 : decode cX6_liveOf 27 = .ok (.iload_n 1, 1) := by decide +kernel
theorem dX6_liveOf_28 : decode cX6_liveOf 28 = .ok (.iaload, 1) := by decide +kernel
theorem dX6_liveOf_29 : decode cX6_liveOf 29 = .ok (.baload, 1) := by decide +kernel
theorem dX6_liveOf_30 : decode cX6_liveOf 30 = .ok (.ifCond .ne 33, 3) := by decide +kernel
theorem dX6_liveOf_33 : decode cX6_liveOf 33 = .ok (.iload_n 2, 1) := by decide +kernel
theorem dX6_liveOf_34 : decode cX6_liveOf 34 = .ok (.aload_n 0, 1) := by decide +kernel
theorem dX6_liveOf_35 : decode cX6_liveOf 35 = .ok (.aload_n 0, 1) := by decide +kernel
theorem dX6_liveOf_36 : decode cX6_liveOf 36 = .ok (.iload_n 1, 1) := by decide +kernel
theorem dX6_liveOf_37 : decode cX6_liveOf 37 = .ok (.iload_n 3, 1) := by decide +kernel
theorem dX6_liveOf_38 : decode cX6_liveOf 38 = .ok (.invokevirtual 75, 3) := by decide +kernel
theorem dX6_liveOf_41 : decode cX6_liveOf 41 = .ok (.iload_n 1, 1) := by decide +kernel
theorem dX6_liveOf_42 : decode cX6_liveOf 42 = .ok (.iconst 0, 1) := by decide +kernel
theorem dX6_liveOf_43 : decode cX6_liveOf 43 = .ok (.invokevirtual 79, 3) := by decide +kernel
theorem dX6_liveOf_46 : decode cX6_liveOf 46 = .ok (.iconst (-1), 1) := by decide +kernel
theorem dX6_liveOf_47 : decode cX6_liveOf 47 = .ok (.if_icmp .eq 7, 3) := by decide +kernel
theorem dX6_liveOf_50 : decode cX6_liveOf 50 = .ok (.iconst 1, 1) := by decide +kernel
theorem dX6_liveOf_51 : decode cX6_liveOf 51 = .ok (.goto 4, 3) := by decide +kernel
theorem dX6_liveOf_54 : decode cX6_liveOf 54 = .ok (.iconst 0, 1) := by decide +kernel
theorem dX6_liveOf_55 : decode cX6_liveOf 55 = .ok (.iadd, 1) := by decide +kernel
theorem dX6_liveOf_56 : decode cX6_liveOf 56 = .ok (.istore_n 2, 1) := by decide +kernel
theorem dX6_liveOf_57 : decode cX6_liveOf 57 = .ok (.iinc 3 1, 3) := by decide +kernel
theorem dX6_liveOf_60 : decode cX6_liveOf 60 = .ok (.goto (-56), 3) := by decide +kernel
theorem dX6_liveOf_63 : decode cX6_liveOf 63 = .ok (.iload_n 2, 1) := by decide +kernel
theorem dX6_liveOf_64 : decode cX6_liveOf 64 = .ok (.ireturn, 1) := by decide +kernel
theorem dX6_liveCells_0 : decode cX6_liveCells 0 = .ok (.aload_n 0, 1) := by decide +kernel
theorem dX6_liveCells_1 : decode cX6_liveCells 1 = .ok (.iload_n 1, 1) := by decide +kernel
theorem dX6_liveCells_2 : decode cX6_liveCells 2 = .ok (.invokevirtual 71, 3) := by decide +kernel
theorem dX6_liveCells_5 : decode cX6_liveCells 5 = .ok (.ifCond .eq 11, 3) := by decide +kernel
theorem dX6_liveCells_8 : decode cX6_liveCells 8 = .ok (.aload_n 0, 1) := by decide +kernel
theorem dX6_liveCells_9 : decode cX6_liveCells 9 = .ok (.iload_n 1, 1) := by decide +kernel
theorem dX6_liveCells_10 : decode cX6_liveCells 10 = .ok (.invokevirtual 153, 3) := by decide +kernel
theorem dX6_liveCells_13 : decode cX6_liveCells 13 = .ok (.goto 9, 3) := by decide +kernel
theorem dX6_liveCells_16 : decode cX6_liveCells 16 = .ok (.aload_n 0, 1) := by decide +kernel
theorem dX6_liveCells_17 : decode cX6_liveCells 17 = .ok (.bipush (-2), 2) := by decide +kernel
theorem dX6_liveCells_19 : decode cX6_liveCells 19 = .ok (.invokevirtual 93, 3) := by decide +kernel
theorem dX6_liveCells_22 : decode cX6_liveCells 22 = .ok (.ireturn, 1) := by decide +kernel
theorem dX6_isFreed_0 : decode cX6_isFreed 0 = .ok (.aload_n 0, 1) := by decide +kernel
theorem dX6_isFreed_1 : decode cX6_isFreed 1 = .ok (.iload_n 1, 1) := by decide +kernel
theorem dX6_isFreed_2 : decode cX6_isFreed 2 = .ok (.invokevirtual 144, 3) := by decide +kernel
theorem dX6_isFreed_5 : decode cX6_isFreed 5 = .ok (.ifCond .ne 12, 3) := by decide +kernel
theorem dX6_isFreed_8 : decode cX6_isFreed 8 = .ok (.aload_n 0, 1) := by decide +kernel
theorem dX6_isFreed_9 : decode cX6_isFreed 9 = .ok (.bipush (-2), 2) := by decide +kernel
theorem dX6_isFreed_11 : decode cX6_isFreed 11 = .ok (.invokevirtual 93, 3) := by decide +kernel
theorem dX6_isFreed_14 : decode cX6_isFreed 14 = .ok (.goto 17, 3) := by decide +kernel
theorem dX6_isFreed_17 : decode cX6_isFreed 17 = .ok (.aload_n 0, 1) := by decide +kernel
theorem dX6_isFreed_18 : decode cX6_isFreed 18 = .ok (.getfield 13, 3) := by decide +kernel
theorem dX6_isFreed_21 : decode cX6_isFreed 21 = .ok (.iload_n 1, 1) := by decide +kernel
theorem dX6_isFreed_22 : decode cX6_isFreed 22 = .ok (.baload, 1) := by decide +kernel
theorem dX6_isFreed_23 : decode cX6_isFreed 23 = .ok (.ifCond .eq 7, 3) := by decide +kernel
theorem dX6_isFreed_26 : decode cX6_isFreed 26 = .ok (.iconst 1, 1) := by decide +kernel
theorem dX6_isFreed_27 : decode cX6_isFreed 27 = .ok (.goto 4, 3) := by decide +kernel
theorem dX6_isFreed_30 : decode cX6_isFreed 30 = .ok (.iconst 0, 1) := by decide +kernel
theorem dX6_isFreed_31 : decode cX6_isFreed 31 = .ok (.ireturn, 1) := by decide +kernel
theorem dX6_pointerCount_0 : decode cX6_pointerCount 0 = .ok (.aload_n 0, 1) := by decide +kernel
theorem dX6_pointerCount_1 : decode cX6_pointerCount 1 = .ok (.getfield 64, 3) := by decide +kernel
theorem dX6_pointerCount_4 : decode cX6_pointerCount 4 = .ok (.ireturn, 1) := by decide +kernel
theorem dX6_callDepth_0 : decode cX6_callDepth 0 = .ok (.aload_n 0, 1) := by decide +kernel
theorem dX6_callDepth_1 : decode cX6_callDepth 1 = .ok (.getfield 127, 3) := by decide +kernel
theorem dX6_callDepth_4 : decode cX6_callDepth 4 = .ok (.ireturn, 1) := by decide +kernel
theorem dX6_violationCount_0 : decode cX6_violationCount 0 = .ok (.aload_n 0, 1) := by decide +kernel
theorem dX6_violationCount_1 : decode cX6_violationCount 1 = .ok (.getfield 58, 3) := by decide +kernel
theorem dX6_violationCount_4 : decode cX6_violationCount 4 = .ok (.ireturn, 1) := by decide +kernel
theorem dX6_violationKind_0 : decode cX6_violationKind 0 = .ok (.aload_n 0, 1) := by decide +kernel
theorem dX6_violationKind_1 : decode cX6_violationKind 1 = .ok (.getfield 61, 3) := by decide +kernel
theorem dX6_violationKind_4 : decode cX6_violationKind 4 = .ok (.ireturn, 1) := by decide +kernel
theorem dX6_violationCell_0 : decode cX6_violationCell 0 = .ok (.aload_n 0, 1) := by decide +kernel
theorem dX6_violationCell_1 : decode cX6_violationCell 1 = .ok (.getfield 38, 3) := by decide +kernel
theorem dX6_violationCell_4 : decode cX6_violationCell 4 = .ok (.ireturn, 1) := by decide +kernel
theorem dX6_errorCount_0 : decode cX6_errorCount 0 = .ok (.iload_n 1, 1) := by decide +kernel
theorem dX6_errorCount_1 : decode cX6_errorCount 1 = .ok (.iconst 0, 1) := by decide +kernel
theorem dX6_errorCount_2 : decode cX6_errorCount 2 = .ok (.iconst 2, 1) := by decide +kernel
theorem dX6_errorCount_3 : decode cX6_errorCount 3 = .ok (.invokestatic 67, 3) := by decide +kernel
theorem dX6_errorCount_6 : decode cX6_errorCount 6 = .ok (.ifCond .eq 12, 3) := by decide +kernel
theorem dX6_errorCount_9 : decode cX6_errorCount 9 = .ok (.aload_n 0, 1) := by decide +kernel
theorem dX6_errorCount_10 : decode cX6_errorCount 10 = .ok (.getfield 42, 3) := by decide +kernel
theorem dX6_errorCount_13 : decode cX6_errorCount 13 = .ok (.iload_n 1, 1) := by decide +kernel
theorem dX6_errorCount_14 : decode cX6_errorCount 14 = .ok (.iaload, 1) := by decide +kernel
theorem dX6_errorCount_15 : decode cX6_errorCount 15 = .ok (.goto 9, 3) := by decide +kernel
theorem dX6_errorCount_18 : decode cX6_errorCount 18 = .ok (.aload_n 0, 1) := by decide +kernel
theorem dX6_errorCount_19 : decode cX6_errorCount 19 = .ok (.bipush (-2), 2) := by decide +kernel
theorem dX6_errorCount_21 : decode cX6_errorCount 21 = .ok (.invokevirtual 93, 3) := by decide +kernel
theorem dX6_errorCount_24 : decode cX6_errorCount 24 = .ok (.ireturn, 1) := by decide +kernel
theorem dX6_append_0 : decode cX6_append 0 = .ok (.iload_n 1, 1) := by decide +kernel
theorem dX6_append_1 : decode cX6_append 1 = .ok (.iconst 0, 1) := by decide +kernel
theorem dX6_append_2 : decode cX6_append 2 = .ok (.bipush 127, 2) := by decide +kernel
theorem dX6_append_4 : decode cX6_append 4 = .ok (.invokestatic 67, 3) := by decide +kernel
theorem dX6_append_7 : decode cX6_append 7 = .ok (.ifCond .ne 10, 3) := by decide +kernel
theorem dX6_append_10 : decode cX6_append 10 = .ok (.aload_n 0, 1) := by decide +kernel
theorem dX6_append_11 : decode cX6_append 11 = .ok (.bipush (-2), 2) := by decide +kernel
theorem dX6_append_13 : decode cX6_append 13 = .ok (.invokevirtual 93, 3) := by decide +kernel
theorem dX6_append_16 : decode cX6_append 16 = .ok (.ireturn, 1) := by decide +kernel
theorem dX6_append_17 : decode cX6_append 17 = .ok (.aload_n 0, 1) := by decide +kernel
theorem dX6_append_18 : decode cX6_append 18 = .ok (.getfield 156, 3) := by decide +kernel
theorem dX6_append_21 : decode cX6_append 21 = .ok (.bipush 120, 2) := by decide +kernel
theorem dX6_append_23 : decode cX6_append 23 = .ok (.if_icmp .ne 10, 3) := by decide +kernel
theorem dX6_append_26 : decode cX6_append 26 = .ok (.aload_n 0, 1) := by decide +kernel
theorem dX6_append_27 : decode cX6_append 27 = .ok (.bipush (-4), 2) := by decide +kernel
theorem dX6_append_29 : decode cX6_append 29 = .ok (.invokevirtual 93, 3) := by decide +kernel
theorem dX6_append_32 : decode cX6_append 32 = .ok (.ireturn, 1) := by decide +kernel
theorem dX6_append_33 : decode cX6_append 33 = .ok (.aload_n 0, 1) := by decide +kernel
theorem dX6_append_34 : decode cX6_append 34 = .ok (.getfield 45, 3) := by decide +kernel
theorem dX6_append_37 : decode cX6_append 37 = .ok (.aload_n 0, 1) := by decide +kernel
theorem dX6_append_38 : decode cX6_append 38 = .ok (.getfield 156, 3) := by decide +kernel
theorem dX6_append_41 : decode cX6_append 41 = .ok (.iload_n 1, 1) := by decide +kernel
theorem dX6_append_42 : decode cX6_append 42 = .ok (.iastore, 1) := by decide +kernel
theorem dX6_append_43 : decode cX6_append 43 = .ok (.aload_n 0, 1) := by decide +kernel
theorem dX6_append_44 : decode cX6_append 44 = .ok (.dup, 1) := by decide +kernel
theorem dX6_append_45 : decode cX6_append 45 = .ok (.getfield 156, 3) := by decide +kernel
theorem dX6_append_48 : decode cX6_append 48 = .ok (.iconst 1, 1) := by decide +kernel
theorem dX6_append_49 : decode cX6_append 49 = .ok (.iadd, 1) := by decide +kernel
theorem dX6_append_50 : decode cX6_append 50 = .ok (.putfield 156, 3) := by decide +kernel
theorem dX6_append_53 : decode cX6_append 53 = .ok (.aload_n 0, 1) := by decide +kernel
theorem dX6_append_54 : decode cX6_append 54 = .ok (.getfield 156, 3) := by decide +kernel
theorem dX6_append_57 : decode cX6_append 57 = .ok (.ireturn, 1) := by decide +kernel
theorem dX6_clearText_0 : decode cX6_clearText 0 = .ok (.aload_n 0, 1) := by decide +kernel
theorem dX6_clearText_1 : decode cX6_clearText 1 = .ok (.getfield 156, 3) := by decide +kernel
theorem dX6_clearText_4 : decode cX6_clearText 4 = .ok (.istore_n 1, 1) := by decide +kernel
theorem dX6_clearText_5 : decode cX6_clearText 5 = .ok (.aload_n 0, 1) := by decide +kernel
theorem dX6_clearText_6 : decode cX6_clearText 6 = .ok (.iconst 0, 1) := by decide +kernel
theorem dX6_clearText_7 : decode cX6_clearText 7 = .ok (.putfield 156, 3) := by decide +kernel
theorem dX6_clearText_10 : decode cX6_clearText 10 = .ok (.iload_n 1, 1) := by decide +kernel
theorem dX6_clearText_11 : decode cX6_clearText 11 = .ok (.ireturn, 1) := by decide +kernel
theorem dX6_isAt_0 : decode cX6_isAt 0 = .ok (.aload_n 0, 1) := by decide +kernel
theorem dX6_isAt_1 : decode cX6_isAt 1 = .ok (.getfield 159, 3) := by decide +kernel
theorem dX6_isAt_4 : decode cX6_isAt 4 = .ok (.aload_n 0, 1) := by decide +kernel
theorem dX6_isAt_5 : decode cX6_isAt 5 = .ok (.getfield 156, 3) := by decide +kernel
theorem dX6_isAt_8 : decode cX6_isAt 8 = .ok (.if_icmp .ge 24, 3) := by decide +kernel
theorem dX6_isAt_11 : decode cX6_isAt 11 = .ok (.aload_n 0, 1) := by decide +kernel
theorem dX6_isAt_12 : decode cX6_isAt 12 = .ok (.getfield 45, 3) := by decide +kernel
theorem dX6_isAt_15 : decode cX6_isAt 15 = .ok (.aload_n 0, 1) := by decide +kernel
theorem dX6_isAt_16 : decode cX6_isAt 16 = .ok (.getfield 159, 3) := by decide +kernel
theorem dX6_isAt_19 : decode cX6_isAt 19 = .ok (.iaload, 1) := by decide +kernel
theorem dX6_isAt_20 : decode cX6_isAt 20 = .ok (.iload_n 1, 1) := by decide +kernel
theorem dX6_isAt_21 : decode cX6_isAt 21 = .ok (.iload_n 2, 1) := by decide +kernel
theorem dX6_isAt_22 : decode cX6_isAt 22 = .ok (.invokestatic 67, 3) := by decide +kernel
theorem dX6_isAt_25 : decode cX6_isAt 25 = .ok (.ifCond .eq 7, 3) := by decide +kernel
theorem dX6_isAt_28 : decode cX6_isAt 28 = .ok (.iconst 1, 1) := by decide +kernel
theorem dX6_isAt_29 : decode cX6_isAt 29 = .ok (.goto 4, 3) := by decide +kernel
theorem dX6_isAt_32 : decode cX6_isAt 32 = .ok (.iconst 0, 1) := by decide +kernel
theorem dX6_isAt_33 : decode cX6_isAt 33 = .ok (.ireturn, 1) := by decide +kernel
theorem dX6_blanks_0 : decode cX6_blanks 0 = .ok (.aload_n 0, 1) := by decide +kernel
theorem dX6_blanks_1 : decode cX6_blanks 1 = .ok (.bipush 32, 2) := by decide +kernel
theorem dX6_blanks_3 : decode cX6_blanks 3 = .ok (.bipush 32, 2) := by decide +kernel
theorem dX6_blanks_5 : decode cX6_blanks 5 = .ok (.invokevirtual 162, 3) := by decide +kernel
theorem dX6_blanks_8 : decode cX6_blanks 8 = .ok (.ifCond .eq 16, 3) := by decide +kernel
theorem dX6_blanks_11 : decode cX6_blanks 11 = .ok (.aload_n 0, 1) := by decide +kernel
theorem dX6_blanks_12 : decode cX6_blanks 12 = .ok (.dup, 1) := by decide +kernel
theorem dX6_blanks_13 : decode cX6_blanks 13 = .ok (.getfield 159, 3) := by decide +kernel
theorem dX6_blanks_16 : decode cX6_blanks 16 = .ok (.iconst 1, 1) := by decide +kernel
theorem dX6_blanks_17 : decode cX6_blanks 17 = .ok (.iadd, 1) := by decide +kernel
theorem dX6_blanks_18 : decode cX6_blanks 18 = .ok (.putfield 159, 3) := by decide +kernel
theorem dX6_blanks_21 : decode cX6_blanks 21 = .ok (.goto (-21), 3) := by decide +kernel
theorem dX6_blanks_24 : decode cX6_blanks 24 = .ok (.return_, 1) := by decide +kernel
theorem dX6_manyOf_0 : decode cX6_manyOf 0 = .ok (.iload_n 0, 1) := by decide +kernel
theorem dX6_manyOf_1 : decode cX6_manyOf 1 = .ok (.tableswitch 115 97 119 #[111, 115, 115, 115, 113, 111, 115, 115, 115, 115, 115, 113, 107, 115, 115, 107, 115, 109, 107, 115, 115, 115, 107], 107) := by decide +kernel
theorem dX6_manyOf_108 : decode cX6_manyOf 108 = .ok (.iconst 3, 1) := by decide +kernel
theorem dX6_manyOf_109 : decode cX6_manyOf 109 = .ok (.ireturn, 1) := by decide +kernel
theorem dX6_manyOf_110 : decode cX6_manyOf 110 = .ok (.iconst 2, 1) := by decide +kernel
theorem dX6_manyOf_111 : decode cX6_manyOf 111 = .ok (.ireturn, 1) := by decide +kernel
theorem dX6_manyOf_112 : decode cX6_manyOf 112 = .ok (.iconst 1, 1) := by decide +kernel
theorem dX6_manyOf_113 : decode cX6_manyOf 113 = .ok (.ireturn, 1) := by decide +kernel
theorem dX6_manyOf_114 : decode cX6_manyOf 114 = .ok (.iconst 0, 1) := by decide +kernel
theorem dX6_manyOf_115 : decode cX6_manyOf 115 = .ok (.ireturn, 1) := by decide +kernel
theorem dX6_manyOf_116 : decode cX6_manyOf 116 = .ok (.iconst (-1), 1) := by decide +kernel
theorem dX6_manyOf_117 : decode cX6_manyOf 117 = .ok (.ireturn, 1) := by decide +kernel
theorem dX6_takesNumber_0 : decode cX6_takesNumber 0 = .ok (.aload_n 0, 1) := by decide +kernel
theorem dX6_takesNumber_1 : decode cX6_takesNumber 1 = .ok (.invokevirtual 165, 3) := by decide +kernel
theorem dX6_takesNumber_4 : decode cX6_takesNumber 4 = .ok (.aload_n 0, 1) := by decide +kernel
theorem dX6_takesNumber_5 : decode cX6_takesNumber 5 = .ok (.getfield 159, 3) := by decide +kernel
theorem dX6_takesNumber_8 : decode cX6_takesNumber 8 = .ok (.istore_n 2, 1) := by decide +kernel
theorem dX6_takesNumber_9 : decode cX6_takesNumber 9 = .ok (.iconst 0, 1) := by decide +kernel
theorem dX6_takesNumber_10 : decode cX6_takesNumber 10 = .ok (.istore_n 3, 1) := by decide +kernel
theorem dX6_takesNumber_11 : decode cX6_takesNumber 11 = .ok (.aload_n 0, 1) := by decide +kernel
theorem dX6_takesNumber_12 : decode cX6_takesNumber 12 = .ok (.getfield 159, 3) := by decide +kernel
theorem dX6_takesNumber_15 : decode cX6_takesNumber 15 = .ok (.iload_n 2, 1) := by decide +kernel
theorem dX6_takesNumber_16 : decode cX6_takesNumber 16 = .ok (.iconst 2, 1) := by decide +kernel
theorem dX6_takesNumber_17 : decode cX6_takesNumber 17 = .ok (.iadd, 1) := by decide +kernel
theorem dX6_takesNumber_18 : decode cX6_takesNumber 18 = .ok (.if_icmp .ge 45, 3) := by decide +kernel
theorem dX6_takesNumber_21 : decode cX6_takesNumber 21 = .ok (.aload_n 0, 1) := by decide +kernel
theorem dX6_takesNumber_22 : decode cX6_takesNumber 22 = .ok (.bipush 48, 2) := by decide +kernel
theorem dX6_takesNumber_24 : decode cX6_takesNumber 24 = .ok (.bipush 57, 2) := by decide +kernel
theorem dX6_takesNumber_26 : decode cX6_takesNumber 26 = .ok (.invokevirtual 162, 3) := by decide +kernel
theorem dX6_takesNumber_29 : decode cX6_takesNumber 29 = .ok (.ifCond .eq 34, 3) := by decide +kernel
theorem dX6_takesNumber_32 : decode cX6_takesNumber 32 = .ok (.bipush 10, 2) := by decide +kernel
theorem dX6_takesNumber_34 : decode cX6_takesNumber 34 = .ok (.iload_n 3, 1) := by decide +kernel
theorem dX6_takesNumber_35 : decode cX6_takesNumber 35 = .ok (.imul, 1) := by decide +kernel
theorem dX6_takesNumber_36 : decode cX6_takesNumber 36 = .ok (.aload_n 0, 1) := by decide +kernel
theorem dX6_takesNumber_37 : decode cX6_takesNumber 37 = .ok (.getfield 45, 3) := by decide +kernel
theorem dX6_takesNumber_40 : decode cX6_takesNumber 40 = .ok (.aload_n 0, 1) := by decide +kernel
theorem dX6_takesNumber_41 : decode cX6_takesNumber 41 = .ok (.getfield 159, 3) := by decide +kernel
theorem dX6_takesNumber_44 : decode cX6_takesNumber 44 = .ok (.iaload, 1) := by decide +kernel
theorem dX6_takesNumber_45 : decode cX6_takesNumber 45 = .ok (.iadd, 1) := by decide +kernel
theorem dX6_takesNumber_46 : decode cX6_takesNumber 46 = .ok (.bipush 48, 2) := by decide +kernel
theorem dX6_takesNumber_48 : decode cX6_takesNumber 48 = .ok (.isub, 1) := by decide +kernel
theorem dX6_takesNumber_49 : decode cX6_takesNumber 49 = .ok (.istore_n 3, 1) := by decide +kernel
theorem dX6_takesNumber_50 : decode cX6_takesNumber 50 = .ok (.aload_n 0, 1) := by decide +kernel
theorem dX6_takesNumber_51 : decode cX6_takesNumber 51 = .ok (.dup, 1) := by decide +kernel
theorem dX6_takesNumber_52 : decode cX6_takesNumber 52 = .ok (.getfield 159, 3) := by decide +kernel
theorem dX6_takesNumber_55 : decode cX6_takesNumber 55 = .ok (.iconst 1, 1) := by decide +kernel
theorem dX6_takesNumber_56 : decode cX6_takesNumber 56 = .ok (.iadd, 1) := by decide +kernel
theorem dX6_takesNumber_57 : decode cX6_takesNumber 57 = .ok (.putfield 159, 3) := by decide +kernel
theorem dX6_takesNumber_60 : decode cX6_takesNumber 60 = .ok (.goto (-49), 3) := by decide +kernel
theorem dX6_takesNumber_63 : decode cX6_takesNumber 63 = .ok (.aload_n 0, 1) := by decide +kernel
theorem dX6_takesNumber_64 : decode cX6_takesNumber 64 = .ok (.getfield 51, 3) := by decide +kernel
theorem dX6_takesNumber_67 : decode cX6_takesNumber 67 = .ok (.iload_n 1, 1) := by decide +kernel
theorem dX6_takesNumber_68 : decode cX6_takesNumber 68 = .ok (.iload_n 3, 1) := by decide +kernel
theorem dX6_takesNumber_69 : decode cX6_takesNumber 69 = .ok (.iastore, 1) := by decide +kernel
theorem dX6_takesNumber_70 : decode cX6_takesNumber 70 = .ok (.aload_n 0, 1) := by decide +kernel
theorem dX6_takesNumber_71 : decode cX6_takesNumber 71 = .ok (.getfield 159, 3) := by decide +kernel
theorem dX6_takesNumber_74 : decode cX6_takesNumber 74 = .ok (.iload_n 2, 1) := by decide +kernel
theorem dX6_takesNumber_75 : decode cX6_takesNumber 75 = .ok (.if_icmp .le 18, 3) := by decide +kernel
theorem dX6_takesNumber_78 : decode cX6_takesNumber 78 = .ok (.aload_n 0, 1) := by decide +kernel
theorem dX6_takesNumber_79 : decode cX6_takesNumber 79 = .ok (.bipush 48, 2) := by decide +kernel
theorem dX6_takesNumber_81 : decode cX6_takesNumber 81 = .ok (.bipush 57, 2) := by decide +kernel
theorem dX6_takesNumber_83 : decode cX6_takesNumber 83 = .ok (.invokevirtual 162, 3) := by decide +kernel
theorem dX6_takesNumber_86 : decode cX6_takesNumber 86 = .ok (.ifCond .ne 7, 3) := by decide +kernel
theorem dX6_takesNumber_89 : decode cX6_takesNumber 89 = .ok (.iconst 1, 1) := by decide +kernel
theorem dX6_takesNumber_90 : decode cX6_takesNumber 90 = .ok (.goto 4, 3) := by decide +kernel
theorem dX6_takesNumber_93 : decode cX6_takesNumber 93 = .ok (.iconst 0, 1) := by decide +kernel
theorem dX6_takesNumber_94 : decode cX6_takesNumber 94 = .ok (.ireturn, 1) := by decide +kernel
theorem dX6_takesCommand_0 : decode cX6_takesCommand 0 = .ok (.aload_n 0, 1) := by decide +kernel
theorem dX6_takesCommand_1 : decode cX6_takesCommand 1 = .ok (.getfield 45, 3) := by decide +kernel
theorem dX6_takesCommand_4 : decode cX6_takesCommand 4 = .ok (.aload_n 0, 1) := by decide +kernel
theorem dX6_takesCommand_5 : decode cX6_takesCommand 5 = .ok (.getfield 159, 3) := by decide +kernel
theorem dX6_takesCommand_8 : decode cX6_takesCommand 8 = .ok (.iaload, 1) := by decide +kernel
theorem dX6_takesCommand_9 : decode cX6_takesCommand 9 = .ok (.invokestatic 168, 3) := by decide +kernel
theorem dX6_takesCommand_12 : decode cX6_takesCommand 12 = .ok (.istore_n 1, 1) := by decide +kernel
theorem dX6_takesCommand_13 : decode cX6_takesCommand 13 = .ok (.iload_n 1, 1) := by decide +kernel
theorem dX6_takesCommand_14 : decode cX6_takesCommand 14 = .ok (.iconst (-1), 1) := by decide +kernel
theorem dX6_takesCommand_15 : decode cX6_takesCommand 15 = .ok (.if_icmp .ne 5, 3) := by decide +kernel
theorem dX6_takesCommand_18 : decode cX6_takesCommand 18 = .ok (.iconst 0, 1) := by decide +kernel
theorem dX6_takesCommand_19 : decode cX6_takesCommand 19 = .ok (.ireturn, 1) := by decide +kernel
theorem dX6_takesCommand_20 : decode cX6_takesCommand 20 = .ok (.aload_n 0, 1) := by decide +kernel
theorem dX6_takesCommand_21 : decode cX6_takesCommand 21 = .ok (.getfield 48, 3) := by decide +kernel
theorem dX6_takesCommand_24 : decode cX6_takesCommand 24 = .ok (.aload_n 0, 1) := by decide +kernel
theorem dX6_takesCommand_25 : decode cX6_takesCommand 25 = .ok (.getfield 171, 3) := by decide +kernel
theorem dX6_takesCommand_28 : decode cX6_takesCommand 28 = .ok (.aload_n 0, 1) := by decide +kernel
theorem dX6_takesCommand_29 : decode cX6_takesCommand 29 = .ok (.getfield 45, 3) := by decide +kernel
theorem dX6_takesCommand_32 : decode cX6_takesCommand 32 = .ok (.aload_n 0, 1) := by decide +kernel
theorem dX6_takesCommand_33 : decode cX6_takesCommand 33 = .ok (.getfield 159, 3) := by decide +kernel
theorem dX6_takesCommand_36 : decode cX6_takesCommand 36 = .ok (.iaload, 1) := by decide +kernel
theorem dX6_takesCommand_37 : decode cX6_takesCommand 37 = .ok (.iastore, 1) := by decide +kernel
theorem dX6_takesCommand_38 : decode cX6_takesCommand 38 = .ok (.aload_n 0, 1) := by decide +kernel
theorem dX6_takesCommand_39 : decode cX6_takesCommand 39 = .ok (.dup, 1) := by decide +kernel
theorem dX6_takesCommand_40 : decode cX6_takesCommand 40 = .ok (.getfield 159, 3) := by decide +kernel
theorem dX6_takesCommand_43 : decode cX6_takesCommand 43 = .ok (.iconst 1, 1) := by decide +kernel
theorem dX6_takesCommand_44 : decode cX6_takesCommand 44 = .ok (.iadd, 1) := by decide +kernel
theorem dX6_takesCommand_45 : decode cX6_takesCommand 45 = .ok (.putfield 159, 3) := by decide +kernel
theorem dX6_takesCommand_48 : decode cX6_takesCommand 48 = .ok (.iconst 0, 1) := by decide +kernel
theorem dX6_takesCommand_49 : decode cX6_takesCommand 49 = .ok (.istore_n 2, 1) := by decide +kernel
theorem dX6_takesCommand_50 : decode cX6_takesCommand 50 = .ok (.iload_n 2, 1) := by decide +kernel
theorem dX6_takesCommand_51 : decode cX6_takesCommand 51 = .ok (.iload_n 1, 1) := by decide +kernel
theorem dX6_takesCommand_52 : decode cX6_takesCommand 52 = .ok (.if_icmp .ge 26, 3) := by decide +kernel
theorem dX6_takesCommand_55 : decode cX6_takesCommand 55 = .ok (.aload_n 0, 1) := by decide +kernel
theorem dX6_takesCommand_56 : decode cX6_takesCommand 56 = .ok (.iconst 3, 1) := by decide +kernel
theorem dX6_takesCommand_57 : decode cX6_takesCommand 57 = .ok (.aload_n 0, 1) := by decide +kernel
theorem dX6_takesCommand_58 : decode cX6_takesCommand 58 = .ok (.getfield 171, 3) := by decide +kernel
theorem dX6_takesCommand_61 : decode cX6_takesCommand 61 = .ok (.imul, 1) := by decide +kernel
theorem dX6_takesCommand_62 : decode cX6_takesCommand 62 = .ok (.iload_n 2, 1) := by decide +kernel
theorem dX6_takesCommand_63 : decode cX6_takesCommand 63 = .ok (.iadd, 1) := by decide +kernel
theorem dX6_takesCommand_64 : decode cX6_takesCommand 64 = .ok (.invokevirtual 174, 3) := by decide +kernel
theorem dX6_takesCommand_67 : decode cX6_takesCommand 67 = .ok (.ifCond .ne 5, 3) := by decide +kernel
theorem dX6_takesCommand_70 : decode cX6_takesCommand 70 = .ok (.iconst 0, 1) := by decide +kernel
theorem dX6_takesCommand_71 : decode cX6_takesCommand 71 = .ok (.ireturn, 1) := by decide +kernel
theorem dX6_takesCommand_72 : decode cX6_takesCommand 72 = .ok (.iinc 2 1, 3) := by decide +kernel
theorem dX6_takesCommand_75 : decode cX6_takesCommand 75 = .ok (.goto (-25), 3) := by decide +kernel
theorem dX6_takesCommand_78 : decode cX6_takesCommand 78 = .ok (.aload_n 0, 1) := by decide +kernel
theorem dX6_takesCommand_79 : decode cX6_takesCommand 79 = .ok (.invokevirtual 165, 3) := by decide +kernel
theorem dX6_takesCommand_82 : decode cX6_takesCommand 82 = .ok (.aload_n 0, 1) := by decide +kernel
theorem dX6_takesCommand_83 : decode cX6_takesCommand 83 = .ok (.bipush 59, 2) := by decide +kernel
theorem dX6_takesCommand_85 : decode cX6_takesCommand 85 = .ok (.bipush 59, 2) := by decide +kernel
theorem dX6_takesCommand_87 : decode cX6_takesCommand 87 = .ok (.invokevirtual 162, 3) := by decide +kernel
theorem dX6_takesCommand_90 : decode cX6_takesCommand 90 = .ok (.ifCond .ne 5, 3) := by decide +kernel
theorem dX6_takesCommand_93 : decode cX6_takesCommand 93 = .ok (.iconst 0, 1) := by decide +kernel
theorem dX6_takesCommand_94 : decode cX6_takesCommand 94 = .ok (.ireturn, 1) := by decide +kernel
theorem dX6_takesCommand_95 : decode cX6_takesCommand 95 = .ok (.aload_n 0, 1) := by decide +kernel
theorem dX6_takesCommand_96 : decode cX6_takesCommand 96 = .ok (.dup, 1) := by decide +kernel
theorem dX6_takesCommand_97 : decode cX6_takesCommand 97 = .ok (.getfield 159, 3) := by decide +kernel
theorem dX6_takesCommand_100 : decode cX6_takesCommand 100 = .ok (.iconst 1, 1) := by decide +kernel
theorem dX6_takesCommand_101 : decode cX6_takesCommand 101 = .ok (.iadd, 1) := by decide +kernel
theorem dX6_takesCommand_102 : decode cX6_takesCommand 102 = .ok (.putfield 159, 3) := by decide +kernel
theorem dX6_takesCommand_105 : decode cX6_takesCommand 105 = .ok (.aload_n 0, 1) := by decide +kernel
theorem dX6_takesCommand_106 : decode cX6_takesCommand 106 = .ok (.dup, 1) := by decide +kernel
theorem dX6_takesCommand_107 : decode cX6_takesCommand 107 = .ok (.getfield 171, 3) := by decide +kernel
theorem dX6_takesCommand_110 : decode cX6_takesCommand 110 = .ok (.iconst 1, 1) := by decide +kernel
theorem dX6_takesCommand_111 : decode cX6_takesCommand 111 = .ok (.iadd, 1) := by decide +kernel
theorem dX6_takesCommand_112 : decode cX6_takesCommand 112 = .ok (.putfield 171, 3) := by decide +kernel
theorem dX6_takesCommand_115 : decode cX6_takesCommand 115 = .ok (.aload_n 0, 1) := by decide +kernel
theorem dX6_takesCommand_116 : decode cX6_takesCommand 116 = .ok (.invokevirtual 165, 3) := by decide +kernel
theorem dX6_takesCommand_119 : decode cX6_takesCommand 119 = .ok (.iconst 1, 1) := by decide +kernel
theorem dX6_takesCommand_120 : decode cX6_takesCommand 120 = .ok (.ireturn, 1) := by decide +kernel
theorem dX6_isRead_0 : decode cX6_isRead 0 = .ok (.aload_n 0, 1) := by decide +kernel
theorem dX6_isRead_1 : decode cX6_isRead 1 = .ok (.iconst 0, 1) := by decide +kernel
theorem dX6_isRead_2 : decode cX6_isRead 2 = .ok (.putfield 159, 3) := by decide +kernel
theorem dX6_isRead_5 : decode cX6_isRead 5 = .ok (.aload_n 0, 1) := by decide +kernel
theorem dX6_isRead_6 : decode cX6_isRead 6 = .ok (.iconst 0, 1) := by decide +kernel
theorem dX6_isRead_7 : decode cX6_isRead 7 = .ok (.putfield 171, 3) := by decide +kernel
theorem dX6_isRead_10 : decode cX6_isRead 10 = .ok (.aload_n 0, 1) := by decide +kernel
theorem dX6_isRead_11 : decode cX6_isRead 11 = .ok (.invokevirtual 165, 3) := by decide +kernel
theorem dX6_isRead_14 : decode cX6_isRead 14 = .ok (.aload_n 0, 1) := by decide +kernel
theorem dX6_isRead_15 : decode cX6_isRead 15 = .ok (.getfield 159, 3) := by decide +kernel
theorem dX6_isRead_18 : decode cX6_isRead 18 = .ok (.aload_n 0, 1) := by decide +kernel
theorem dX6_isRead_19 : decode cX6_isRead 19 = .ok (.getfield 156, 3) := by decide +kernel
theorem dX6_isRead_22 : decode cX6_isRead 22 = .ok (.if_icmp .ge 7, 3) := by decide +kernel
theorem dX6_isRead_25 : decode cX6_isRead 25 = .ok (.iconst 1, 1) := by decide +kernel
theorem dX6_isRead_26 : decode cX6_isRead 26 = .ok (.goto 4, 3) := by decide +kernel
theorem dX6_isRead_29 : decode cX6_isRead 29 = .ok (.iconst 0, 1) := by decide +kernel
theorem dX6_isRead_30 : decode cX6_isRead 30 = .ok (.istore_n 1, 1) := by decide +kernel
theorem dX6_isRead_31 : decode cX6_isRead 31 = .ok (.iload_n 1, 1) := by decide +kernel
theorem dX6_isRead_32 : decode cX6_isRead 32 = .ok (.ifCond .eq 22, 3) := by decide +kernel
theorem dX6_isRead_35 : decode cX6_isRead 35 = .ok (.aload_n 0, 1) := by decide +kernel
theorem dX6_isRead_36 : decode cX6_isRead 36 = .ok (.getfield 159, 3) := by decide +kernel
theorem dX6_isRead_39 : decode cX6_isRead 39 = .ok (.aload_n 0, 1) := by decide +kernel
theorem dX6_isRead_40 : decode cX6_isRead 40 = .ok (.getfield 156, 3) := by decide +kernel
theorem dX6_isRead_43 : decode cX6_isRead 43 = .ok (.if_icmp .ge 11, 3) := by decide +kernel
theorem dX6_isRead_46 : decode cX6_isRead 46 = .ok (.aload_n 0, 1) := by decide +kernel
theorem dX6_isRead_47 : decode cX6_isRead 47 = .ok (.invokevirtual 177, 3) := by decide +kernel
theorem dX6_isRead_50 : decode cX6_isRead 50 = .ok (.istore_n 1, 1) := by decide +kernel
theorem dX6_isRead_51 : decode cX6_isRead 51 = .ok (.goto (-20), 3) := by decide +kernel
theorem dX6_isRead_54 : decode cX6_isRead 54 = .ok (.iload_n 1, 1) := by decide +kernel
theorem dX6_isRead_55 : decode cX6_isRead 55 = .ok (.ireturn, 1) := by decide +kernel
theorem dX6_execute_0 : decode cX6_execute 0 = .ok (.aload_n 0, 1) := by decide +kernel
theorem dX6_execute_1 : decode cX6_execute 1 = .ok (.getfield 51, 3) := by decide +kernel
theorem dX6_execute_4 : decode cX6_execute 4 = .ok (.iconst 3, 1) := by decide +kernel
theorem dX6_execute_5 : decode cX6_execute 5 = .ok (.iload_n 1, 1) := by decide +kernel
theorem dX6_execute_6 : decode cX6_execute 6 = .ok (.imul, 1) := by decide +kernel
theorem dX6_execute_7 : decode cX6_execute 7 = .ok (.iaload, 1) := by decide +kernel
theorem dX6_execute_8 : decode cX6_execute 8 = .ok (.istore_n 2, 1) := by decide +kernel
theorem dX6_execute_9 : decode cX6_execute 9 = .ok (.aload_n 0, 1) := by decide +kernel
theorem dX6_execute_10 : decode cX6_execute 10 = .ok (.getfield 51, 3) := by decide +kernel
theorem dX6_execute_13 : decode cX6_execute 13 = .ok (.iconst 3, 1) := by decide +kernel
theorem dX6_execute_14 : decode cX6_execute 14 = .ok (.iload_n 1, 1) := by decide +kernel
theorem dX6_execute_15 : decode cX6_execute 15 = .ok (.imul, 1) := by decide +kernel
theorem dX6_execute_16 : decode cX6_execute 16 = .ok (.iconst 1, 1) := by decide +kernel
theorem dX6_execute_17 : decode cX6_execute 17 = .ok (.iadd, 1) := by decide +kernel
theorem dX6_execute_18 : decode cX6_execute 18 = .ok (.iaload, 1) := by decide +kernel
theorem dX6_execute_19 : decode cX6_execute 19 = .ok (.istore_n 3, 1) := by decide +kernel
theorem dX6_execute_20 : decode cX6_execute 20 = .ok (.aload_n 0, 1) := by decide +kernel
theorem dX6_execute_21 : decode cX6_execute 21 = .ok (.getfield 51, 3) := by decide +kernel
theorem dX6_execute_24 : decode cX6_execute 24 = .ok (.iconst 3, 1) := by decide +kernel
theorem dX6_execute_25 : decode cX6_execute 25 = .ok (.iload_n 1, 1) := by decide +kernel
theorem dX6_execute_26 : decode cX6_execute 26 = .ok (.imul, 1) := by decide +kernel
theorem dX6_execute_27 : decode cX6_execute 27 = .ok (.iconst 2, 1) := by decide +kernel
theorem dX6_execute_28 : decode cX6_execute 28 = .ok (.iadd, 1) := by decide +kernel
theorem dX6_execute_29 : decode cX6_execute 29 = .ok (.iaload, 1) := by decide +kernel
theorem dX6_execute_30 : decode cX6_execute 30 = .ok (.istore 4, 2) := by decide +kernel
theorem dX6_execute_32 : decode cX6_execute 32 = .ok (.aload_n 0, 1) := by decide +kernel
theorem dX6_execute_33 : decode cX6_execute 33 = .ok (.getfield 48, 3) := by decide +kernel
theorem dX6_execute_36 : decode cX6_execute 36 = .ok (.iload_n 1, 1) := by decide +kernel
theorem dX6_execute_37 : decode cX6_execute 37 = .ok (.iaload, 1) := by decide +kernel
theorem dX6_execute_38 : decode cX6_execute 38 = .ok (.tableswitch 172 97 119 #[106, 172, 172, 172, 167, 161, 172, 172, 172, 172, 172, 172, 128, 172, 172, 150, 172, 112, 139, 172, 172, 172, 119], 106) := by decide +kernel
theorem dX6_execute_144 : decode cX6_execute 144 = .ok (.aload_n 0, 1) := by decide +kernel
theorem dX6_execute_145 : decode cX6_execute 145 = .ok (.iload_n 2, 1) := by decide +kernel
theorem dX6_execute_146 : decode cX6_execute 146 = .ok (.invokevirtual 181, 3) := by decide +kernel
theorem dX6_execute_149 : decode cX6_execute 149 = .ok (.ireturn, 1) := by decide +kernel
theorem dX6_execute_150 : decode cX6_execute 150 = .ok (.aload_n 0, 1) := by decide +kernel
theorem dX6_execute_151 : decode cX6_execute 151 = .ok (.iload_n 2, 1) := by decide +kernel
theorem dX6_execute_152 : decode cX6_execute 152 = .ok (.iload_n 3, 1) := by decide +kernel
theorem dX6_execute_153 : decode cX6_execute 153 = .ok (.invokevirtual 184, 3) := by decide +kernel
theorem dX6_execute_156 : decode cX6_execute 156 = .ok (.ireturn, 1) := by decide +kernel
theorem dX6_execute_157 : decode cX6_execute 157 = .ok (.aload_n 0, 1) := by decide +kernel
theorem dX6_execute_158 : decode cX6_execute 158 = .ok (.iload_n 2, 1) := by decide +kernel
theorem dX6_execute_159 : decode cX6_execute 159 = .ok (.iload_n 3, 1) := by decide +kernel
theorem dX6_execute_160 : decode cX6_execute 160 = .ok (.iload 4, 2) := by decide +kernel
theorem dX6_execute_162 : decode cX6_execute 162 = .ok (.invokevirtual 187, 3) := by decide +kernel
theorem dX6_execute_165 : decode cX6_execute 165 = .ok (.ireturn, 1) := by decide +kernel
theorem dX6_execute_166 : decode cX6_execute 166 = .ok (.aload_n 0, 1) := by decide +kernel
theorem dX6_execute_167 : decode cX6_execute 167 = .ok (.iload_n 2, 1) := by decide +kernel
theorem dX6_execute_168 : decode cX6_execute 168 = .ok (.iconst 0, 1) := by decide +kernel
theorem dX6_execute_169 : decode cX6_execute 169 = .ok (.iload_n 3, 1) := by decide +kernel
theorem dX6_execute_170 : decode cX6_execute 170 = .ok (.iload 4, 2) := by decide +kernel
theorem dX6_execute_172 : decode cX6_execute 172 = .ok (.iconst 0, 1) := by decide +kernel
theorem dX6_execute_173 : decode cX6_execute 173 = .ok (.invokevirtual 190, 3) := by decide +kernel
theorem dX6_execute_176 : decode cX6_execute 176 = .ok (.ireturn, 1) := by decide +kernel
theorem dX6_execute_177 : decode cX6_execute 177 = .ok (.aload_n 0, 1) := by decide +kernel
theorem dX6_execute_178 : decode cX6_execute 178 = .ok (.iload_n 2, 1) := by decide +kernel
theorem dX6_execute_179 : decode cX6_execute 179 = .ok (.iconst 1, 1) := by decide +kernel
theorem dX6_execute_180 : decode cX6_execute 180 = .ok (.iload_n 3, 1) := by decide +kernel
theorem dX6_execute_181 : decode cX6_execute 181 = .ok (.iload 4, 2) := by decide +kernel
theorem dX6_execute_183 : decode cX6_execute 183 = .ok (.iconst 0, 1) := by decide +kernel
theorem dX6_execute_184 : decode cX6_execute 184 = .ok (.invokevirtual 190, 3) := by decide +kernel
theorem dX6_execute_187 : decode cX6_execute 187 = .ok (.ireturn, 1) := by decide +kernel
theorem dX6_execute_188 : decode cX6_execute 188 = .ok (.aload_n 0, 1) := by decide +kernel
theorem dX6_execute_189 : decode cX6_execute 189 = .ok (.iload_n 2, 1) := by decide +kernel
theorem dX6_execute_190 : decode cX6_execute 190 = .ok (.iconst 2, 1) := by decide +kernel
theorem dX6_execute_191 : decode cX6_execute 191 = .ok (.iload_n 3, 1) := by decide +kernel
theorem dX6_execute_192 : decode cX6_execute 192 = .ok (.iload 4, 2) := by decide +kernel
theorem dX6_execute_194 : decode cX6_execute 194 = .ok (.iconst 0, 1) := by decide +kernel
theorem dX6_execute_195 : decode cX6_execute 195 = .ok (.invokevirtual 190, 3) := by decide +kernel
theorem dX6_execute_198 : decode cX6_execute 198 = .ok (.ireturn, 1) := by decide +kernel
theorem dX6_execute_199 : decode cX6_execute 199 = .ok (.aload_n 0, 1) := by decide +kernel
theorem dX6_execute_200 : decode cX6_execute 200 = .ok (.iload_n 2, 1) := by decide +kernel
theorem dX6_execute_201 : decode cX6_execute 201 = .ok (.invokevirtual 194, 3) := by decide +kernel
theorem dX6_execute_204 : decode cX6_execute 204 = .ok (.ireturn, 1) := by decide +kernel
theorem dX6_execute_205 : decode cX6_execute 205 = .ok (.aload_n 0, 1) := by decide +kernel
theorem dX6_execute_206 : decode cX6_execute 206 = .ok (.invokevirtual 197, 3) := by decide +kernel
theorem dX6_execute_209 : decode cX6_execute 209 = .ok (.ireturn, 1) := by decide +kernel
theorem dX6_execute_210 : decode cX6_execute 210 = .ok (.aload_n 0, 1) := by decide +kernel
theorem dX6_execute_211 : decode cX6_execute 211 = .ok (.invokevirtual 201, 3) := by decide +kernel
theorem dX6_execute_214 : decode cX6_execute 214 = .ok (.ireturn, 1) := by decide +kernel
theorem dX6_executeAll_0 : decode cX6_executeAll 0 = .ok (.iconst 0, 1) := by decide +kernel
theorem dX6_executeAll_1 : decode cX6_executeAll 1 = .ok (.istore_n 1, 1) := by decide +kernel
theorem dX6_executeAll_2 : decode cX6_executeAll 2 = .ok (.iload_n 1, 1) := by decide +kernel
theorem dX6_executeAll_3 : decode cX6_executeAll 3 = .ok (.aload_n 0, 1) := by decide +kernel
theorem dX6_executeAll_4 : decode cX6_executeAll 4 = .ok (.getfield 171, 3) := by decide +kernel
theorem dX6_executeAll_7 : decode cX6_executeAll 7 = .ok (.if_icmp .ge 25, 3) := by decide +kernel
theorem dX6_executeAll_10 : decode cX6_executeAll 10 = .ok (.aload_n 0, 1) := by decide +kernel
theorem dX6_executeAll_11 : decode cX6_executeAll 11 = .ok (.iload_n 1, 1) := by decide +kernel
theorem dX6_executeAll_12 : decode cX6_executeAll 12 = .ok (.invokevirtual 204, 3) := by decide +kernel
theorem dX6_executeAll_15 : decode cX6_executeAll 15 = .ok (.bipush (-2), 2) := by decide +kernel
theorem dX6_executeAll_17 : decode cX6_executeAll 17 = .ok (.if_icmp .gt 9, 3) := by decide +kernel
theorem dX6_executeAll_20 : decode cX6_executeAll 20 = .ok (.sipush (-1000), 3) := by decide +kernel
theorem dX6_executeAll_23 : decode cX6_executeAll 23 = .ok (.iload_n 1, 1) := by decide +kernel
theorem dX6_executeAll_24 : decode cX6_executeAll 24 = .ok (.isub, 1) := by decide +kernel
theorem dX6_executeAll_25 : decode cX6_executeAll 25 = .ok (.ireturn, 1) := by decide +kernel
theorem dX6_executeAll_26 : decode cX6_executeAll 26 = .ok (.iinc 1 1, 3) := by decide +kernel
theorem dX6_executeAll_29 : decode cX6_executeAll 29 = .ok (.goto (-27), 3) := by decide +kernel
theorem dX6_executeAll_32 : decode cX6_executeAll 32 = .ok (.aload_n 0, 1) := by decide +kernel
theorem dX6_executeAll_33 : decode cX6_executeAll 33 = .ok (.getfield 171, 3) := by decide +kernel
theorem dX6_executeAll_36 : decode cX6_executeAll 36 = .ok (.ireturn, 1) := by decide +kernel
theorem dX6_runScript_0 : decode cX6_runScript 0 = .ok (.aload_n 0, 1) := by decide +kernel
theorem dX6_runScript_1 : decode cX6_runScript 1 = .ok (.invokevirtual 207, 3) := by decide +kernel
theorem dX6_runScript_4 : decode cX6_runScript 4 = .ok (.ifCond .ne 11, 3) := by decide +kernel
theorem dX6_runScript_7 : decode cX6_runScript 7 = .ok (.bipush (-10), 2) := by decide +kernel
theorem dX6_runScript_9 : decode cX6_runScript 9 = .ok (.aload_n 0, 1) := by decide +kernel
theorem dX6_runScript_10 : decode cX6_runScript 10 = .ok (.getfield 159, 3) := by decide +kernel
theorem dX6_runScript_13 : decode cX6_runScript 13 = .ok (.isub, 1) := by decide +kernel
theorem dX6_runScript_14 : decode cX6_runScript 14 = .ok (.ireturn, 1) := by decide +kernel
theorem dX6_runScript_15 : decode cX6_runScript 15 = .ok (.aload_n 0, 1) := by decide +kernel
theorem dX6_runScript_16 : decode cX6_runScript 16 = .ok (.iconst 1, 1) := by decide +kernel
theorem dX6_runScript_17 : decode cX6_runScript 17 = .ok (.putfield 54, 3) := by decide +kernel
theorem dX6_runScript_20 : decode cX6_runScript 20 = .ok (.aload_n 0, 1) := by decide +kernel
theorem dX6_runScript_21 : decode cX6_runScript 21 = .ok (.invokevirtual 210, 3) := by decide +kernel
theorem dX6_runScript_24 : decode cX6_runScript 24 = .ok (.istore_n 1, 1) := by decide +kernel
theorem dX6_runScript_25 : decode cX6_runScript 25 = .ok (.aload_n 0, 1) := by decide +kernel
theorem dX6_runScript_26 : decode cX6_runScript 26 = .ok (.iconst 0, 1) := by decide +kernel
theorem dX6_runScript_27 : decode cX6_runScript 27 = .ok (.putfield 54, 3) := by decide +kernel
theorem dX6_runScript_30 : decode cX6_runScript 30 = .ok (.iload_n 1, 1) := by decide +kernel
theorem dX6_runScript_31 : decode cX6_runScript 31 = .ok (.ireturn, 1) := by decide +kernel
theorem dX6_mix_0 : decode cX6_mix 0 = .ok (.aload_n 0, 1) := by decide +kernel
theorem dX6_mix_1 : decode cX6_mix 1 = .ok (.ldc2_w 213, 3) := by decide +kernel
theorem dX6_mix_4 : decode cX6_mix 4 = .ok (.aload_n 0, 1) := by decide +kernel
theorem dX6_mix_5 : decode cX6_mix 5 = .ok (.getfield 215, 3) := by decide +kernel
theorem dX6_mix_8 : decode cX6_mix 8 = .ok (.lmul, 1) := by decide +kernel
theorem dX6_mix_9 : decode cX6_mix 9 = .ok (.lload_n 1, 1) := by decide +kernel
theorem dX6_mix_10 : decode cX6_mix 10 = .ok (.ladd, 1) := by decide +kernel
theorem dX6_mix_11 : decode cX6_mix 11 = .ok (.putfield 215, 3) := by decide +kernel
theorem dX6_mix_14 : decode cX6_mix 14 = .ok (.return_, 1) := by decide +kernel
theorem dX6_mixCell_0 : decode cX6_mixCell 0 = .ok (.aload_n 0, 1) := by decide +kernel
theorem dX6_mixCell_1 : decode cX6_mixCell 1 = .ok (.aload_n 0, 1) := by decide +kernel
theorem dX6_mixCell_2 : decode cX6_mixCell 2 = .ok (.getfield 17, 3) := by decide +kernel
theorem dX6_mixCell_5 : decode cX6_mixCell 5 = .ok (.iload_n 1, 1) := by decide +kernel
theorem dX6_mixCell_6 : decode cX6_mixCell 6 = .ok (.iaload, 1) := by decide +kernel
theorem dX6_mixCell_7 : decode cX6_mixCell 7 = .ok (.i2l, 1) := by decide +kernel
theorem dX6_mixCell_8 : decode cX6_mixCell 8 = .ok (.invokevirtual 219, 3) := by decide +kernel
theorem dX6_mixCell_11 : decode cX6_mixCell 11 = .ok (.aload_n 0, 1) := by decide +kernel
theorem dX6_mixCell_12 : decode cX6_mixCell 12 = .ok (.aload_n 0, 1) := by decide +kernel
theorem dX6_mixCell_13 : decode cX6_mixCell 13 = .ok (.getfield 20, 3) := by decide +kernel
theorem dX6_mixCell_16 : decode cX6_mixCell 16 = .ok (.iload_n 1, 1) := by decide +kernel
theorem dX6_mixCell_17 : decode cX6_mixCell 17 = .ok (.iaload, 1) := by decide +kernel
theorem dX6_mixCell_18 : decode cX6_mixCell 18 = .ok (.i2l, 1) := by decide +kernel
theorem dX6_mixCell_19 : decode cX6_mixCell 19 = .ok (.invokevirtual 219, 3) := by decide +kernel
theorem dX6_mixCell_22 : decode cX6_mixCell 22 = .ok (.bipush 12, 2) := by decide +kernel
theorem dX6_mixCell_24 : decode cX6_mixCell 24 = .ok (.iload_n 1, 1) := by decide +kernel
theorem dX6_mixCell_25 : decode cX6_mixCell 25 = .ok (.imul, 1) := by decide +kernel
theorem dX6_mixCell_26 : decode cX6_mixCell 26 = .ok (.istore_n 2, 1) := by decide +kernel
theorem dX6_mixCell_27 : decode cX6_mixCell 27 = .ok (.iload_n 2, 1) := by decide +kernel
theorem dX6_mixCell_28 : decode cX6_mixCell 28 = .ok (.bipush 12, 2) := by decide +kernel
theorem dX6_mixCell_30 : decode cX6_mixCell 30 = .ok (.iload_n 1, 1) := by decide +kernel
theorem dX6_mixCell_31 : decode cX6_mixCell 31 = .ok (.imul, 1) := by decide +kernel
theorem dX6_mixCell_32 : decode cX6_mixCell 32 = .ok (.aload_n 0, 1) := by decide +kernel
theorem dX6_mixCell_33 : decode cX6_mixCell 33 = .ok (.getfield 20, 3) := by decide +kernel
theorem dX6_mixCell_36 : decode cX6_mixCell 36 = .ok (.iload_n 1, 1) := by decide +kernel
theorem dX6_mixCell_37 : decode cX6_mixCell 37 = .ok (.iaload, 1) := by decide +kernel
theorem dX6_mixCell_38 : decode cX6_mixCell 38 = .ok (.iadd, 1) := by decide +kernel
theorem dX6_mixCell_39 : decode cX6_mixCell 39 = .ok (.if_icmp .ge 49, 3) := by decide +kernel
theorem dX6_mixCell_42 : decode cX6_mixCell 42 = .ok (.aload_n 0, 1) := by decide +kernel
theorem dX6_mixCell_43 : decode cX6_mixCell 43 = .ok (.aload_n 0, 1) := by decide +kernel
theorem dX6_mixCell_44 : decode cX6_mixCell 44 = .ok (.getfield 23, 3) := by decide +kernel
theorem dX6_mixCell_47 : decode cX6_mixCell 47 = .ok (.iload_n 2, 1) := by decide +kernel
theorem dX6_mixCell_48 : decode cX6_mixCell 48 = .ok (.iaload, 1) := by decide +kernel
theorem dX6_mixCell_49 : decode cX6_mixCell 49 = .ok (.i2l, 1) := by decide +kernel
theorem dX6_mixCell_50 : decode cX6_mixCell 50 = .ok (.invokevirtual 219, 3) := by decide +kernel
theorem dX6_mixCell_53 : decode cX6_mixCell 53 = .ok (.aload_n 0, 1) := by decide +kernel
theorem dX6_mixCell_54 : decode cX6_mixCell 54 = .ok (.aload_n 0, 1) := by decide +kernel
theorem dX6_mixCell_55 : decode cX6_mixCell 55 = .ok (.getfield 26, 3) := by decide +kernel
theorem dX6_mixCell_58 : decode cX6_mixCell 58 = .ok (.iload_n 2, 1) := by decide +kernel
theorem dX6_mixCell_59 : decode cX6_mixCell 59 = .ok (.iaload, 1) := by decide +kernel
theorem dX6_mixCell_60 : decode cX6_mixCell 60 = .ok (.i2l, 1) := by decide +kernel
theorem dX6_mixCell_61 : decode cX6_mixCell 61 = .ok (.invokevirtual 219, 3) := by decide +kernel
theorem dX6_mixCell_64 : decode cX6_mixCell 64 = .ok (.aload_n 0, 1) := by decide +kernel
theorem dX6_mixCell_65 : decode cX6_mixCell 65 = .ok (.aload_n 0, 1) := by decide +kernel
theorem dX6_mixCell_66 : decode cX6_mixCell 66 = .ok (.getfield 29, 3) := by decide +kernel
theorem dX6_mixCell_69 : decode cX6_mixCell 69 = .ok (.iload_n 2, 1) := by decide +kernel
theorem dX6_mixCell_70 : decode cX6_mixCell 70 = .ok (.iaload, 1) := by decide +kernel
theorem dX6_mixCell_71 : decode cX6_mixCell 71 = .ok (.ifCond .le 7, 3) := by decide +kernel
theorem dX6_mixCell_74 : decode cX6_mixCell 74 = .ok (.lconst 1, 1) := by decide +kernel
theorem dX6_mixCell_75 : decode cX6_mixCell 75 = .ok (.goto 4, 3) := by decide +kernel
theorem dX6_mixCell_78 : decode cX6_mixCell 78 = .ok (.lconst 0, 1) := by decide +kernel
theorem dX6_mixCell_79 : decode cX6_mixCell 79 = .ok (.invokevirtual 219, 3) := by decide +kernel
theorem dX6_mixCell_82 : decode cX6_mixCell 82 = .ok (.iinc 2 1, 3) := by decide +kernel
theorem dX6_mixCell_85 : decode cX6_mixCell 85 = .ok (.goto (-58), 3) := by decide +kernel
theorem dX6_mixCell_88 : decode cX6_mixCell 88 = .ok (.return_, 1) := by decide +kernel
theorem dX6_digest_0 : decode cX6_digest 0 = .ok (.aload_n 0, 1) := by decide +kernel
theorem dX6_digest_1 : decode cX6_digest 1 = .ok (.ldc2_w 223, 3) := by decide +kernel
theorem dX6_digest_4 : decode cX6_digest 4 = .ok (.putfield 215, 3) := by decide +kernel
theorem dX6_digest_7 : decode cX6_digest 7 = .ok (.iconst 0, 1) := by decide +kernel
theorem dX6_digest_8 : decode cX6_digest 8 = .ok (.istore_n 1, 1) := by decide +kernel
theorem dX6_digest_9 : decode cX6_digest 9 = .ok (.iload_n 1, 1) := by decide +kernel
theorem dX6_digest_10 : decode cX6_digest 10 = .ok (.iconst 3, 1) := by decide +kernel
theorem dX6_digest_11 : decode cX6_digest 11 = .ok (.if_icmp .ge 20, 3) := by decide +kernel
theorem dX6_digest_14 : decode cX6_digest 14 = .ok (.aload_n 0, 1) := by decide +kernel
theorem dX6_digest_15 : decode cX6_digest 15 = .ok (.aload_n 0, 1) := by decide +kernel
theorem dX6_digest_16 : decode cX6_digest 16 = .ok (.getfield 42, 3) := by decide +kernel
theorem dX6_digest_19 : decode cX6_digest 19 = .ok (.iload_n 1, 1) := by decide +kernel
theorem dX6_digest_20 : decode cX6_digest 20 = .ok (.iaload, 1) := by decide +kernel
theorem dX6_digest_21 : decode cX6_digest 21 = .ok (.i2l, 1) := by decide +kernel
theorem dX6_digest_22 : decode cX6_digest 22 = .ok (.invokevirtual 219, 3) := by decide +kernel
theorem dX6_digest_25 : decode cX6_digest 25 = .ok (.iinc 1 1, 3) := by decide +kernel
theorem dX6_digest_28 : decode cX6_digest 28 = .ok (.goto (-19), 3) := by decide +kernel
theorem dX6_digest_31 : decode cX6_digest 31 = .ok (.aload_n 0, 1) := by decide +kernel
theorem dX6_digest_32 : decode cX6_digest 32 = .ok (.aload_n 0, 1) := by decide +kernel
theorem dX6_digest_33 : decode cX6_digest 33 = .ok (.getfield 156, 3) := by decide +kernel
theorem dX6_digest_36 : decode cX6_digest 36 = .ok (.i2l, 1) := by decide +kernel
theorem dX6_digest_37 : decode cX6_digest 37 = .ok (.invokevirtual 219, 3) := by decide +kernel
theorem dX6_digest_40 : decode cX6_digest 40 = .ok (.aload_n 0, 1) := by decide +kernel
theorem dX6_digest_41 : decode cX6_digest 41 = .ok (.aload_n 0, 1) := by decide +kernel
theorem dX6_digest_42 : decode cX6_digest 42 = .ok (.getfield 58, 3) := by decide +kernel
theorem dX6_digest_45 : decode cX6_digest 45 = .ok (.i2l, 1) := by decide +kernel
theorem dX6_digest_46 : decode cX6_digest 46 = .ok (.invokevirtual 219, 3) := by decide +kernel
theorem dX6_digest_49 : decode cX6_digest 49 = .ok (.aload_n 0, 1) := by decide +kernel
theorem dX6_digest_50 : decode cX6_digest 50 = .ok (.aload_n 0, 1) := by decide +kernel
theorem dX6_digest_51 : decode cX6_digest 51 = .ok (.getfield 61, 3) := by decide +kernel
theorem dX6_digest_54 : decode cX6_digest 54 = .ok (.i2l, 1) := by decide +kernel
theorem dX6_digest_55 : decode cX6_digest 55 = .ok (.invokevirtual 219, 3) := by decide +kernel
theorem dX6_digest_58 : decode cX6_digest 58 = .ok (.aload_n 0, 1) := by decide +kernel
theorem dX6_digest_59 : decode cX6_digest 59 = .ok (.aload_n 0, 1) := by decide +kernel
theorem dX6_digest_60 : decode cX6_digest 60 = .ok (.getfield 38, 3) := by decide +kernel
theorem dX6_digest_63 : decode cX6_digest 63 = .ok (.i2l, 1) := by decide +kernel
theorem dX6_digest_64 : decode cX6_digest 64 = .ok (.invokevirtual 219, 3) := by decide +kernel
theorem dX6_digest_67 : decode cX6_digest 67 = .ok (.aload_n 0, 1) := by decide +kernel
theorem dX6_digest_68 : decode cX6_digest 68 = .ok (.aload_n 0, 1) := by decide +kernel
theorem dX6_digest_69 : decode cX6_digest 69 = .ok (.getfield 127, 3) := by decide +kernel
theorem dX6_digest_72 : decode cX6_digest 72 = .ok (.i2l, 1) := by decide +kernel
theorem dX6_digest_73 : decode cX6_digest 73 = .ok (.invokevirtual 219, 3) := by decide +kernel
theorem dX6_digest_76 : decode cX6_digest 76 = .ok (.aload_n 0, 1) := by decide +kernel
theorem dX6_digest_77 : decode cX6_digest 77 = .ok (.aload_n 0, 1) := by decide +kernel
theorem dX6_digest_78 : decode cX6_digest 78 = .ok (.getfield 97, 3) := by decide +kernel
theorem dX6_digest_81 : decode cX6_digest 81 = .ok (.i2l, 1) := by decide +kernel
theorem dX6_digest_82 : decode cX6_digest 82 = .ok (.invokevirtual 219, 3) := by decide +kernel
theorem dX6_digest_85 : decode cX6_digest 85 = .ok (.iconst 0, 1) := by decide +kernel
theorem dX6_digest_86 : decode cX6_digest 86 = .ok (.istore_n 1, 1) := by decide +kernel
theorem dX6_digest_87 : decode cX6_digest 87 = .ok (.iload_n 1, 1) := by decide +kernel
theorem dX6_digest_88 : decode cX6_digest 88 = .ok (.aload_n 0, 1) := by decide +kernel
theorem dX6_digest_89 : decode cX6_digest 89 = .ok (.getfield 97, 3) := by decide +kernel
theorem dX6_digest_92 : decode cX6_digest 92 = .ok (.if_icmp .ge 66, 3) := by decide +kernel
theorem dX6_digest_95 : decode cX6_digest 95 = .ok (.aload_n 0, 1) := by decide +kernel
theorem dX6_digest_96 : decode cX6_digest 96 = .ok (.aload_n 0, 1) := by decide +kernel
theorem dX6_digest_97 : decode cX6_digest 97 = .ok (.getfield 7, 3) := by decide +kernel
theorem dX6_digest_100 : decode cX6_digest 100 = .ok (.iload_n 1, 1) := by decide +kernel
theorem dX6_digest_101 : decode cX6_digest 101 = .ok (.iaload, 1) := by decide +kernel
theorem dX6_digest_102 : decode cX6_digest 102 = .ok (.i2l, 1) := by decide +kernel
theorem dX6_digest_103 : decode cX6_digest 103 = .ok (.invokevirtual 219, 3) := by decide +kernel
theorem dX6_digest_106 : decode cX6_digest 106 = .ok (.aload_n 0, 1) := by decide +kernel
theorem dX6_digest_107 : decode cX6_digest 107 = .ok (.aload_n 0, 1) := by decide +kernel
theorem dX6_digest_108 : decode cX6_digest 108 = .ok (.getfield 13, 3) := by decide +kernel
theorem dX6_digest_111 : decode cX6_digest 111 = .ok (.iload_n 1, 1) := by decide +kernel
theorem dX6_digest_112 : decode cX6_digest 112 = .ok (.baload, 1) := by decide +kernel
theorem dX6_digest_113 : decode cX6_digest 113 = .ok (.ifCond .eq 7, 3) := by decide +kernel
theorem dX6_digest_116 : decode cX6_digest 116 = .ok (.lconst 1, 1) := by decide +kernel
theorem dX6_digest_117 : decode cX6_digest 117 = .ok (.goto 4, 3) := by decide +kernel
theorem dX6_digest_120 : decode cX6_digest 120 = .ok (.lconst 0, 1) := by decide +kernel
theorem dX6_digest_121 : decode cX6_digest 121 = .ok (.invokevirtual 219, 3) := by decide +kernel
theorem dX6_digest_124 : decode cX6_digest 124 = .ok (.iconst 0, 1) := by decide +kernel
theorem dX6_digest_125 : decode cX6_digest 125 = .ok (.istore_n 2, 1) := by decide +kernel
theorem dX6_digest_126 : decode cX6_digest 126 = .ok (.iload_n 2, 1) := by decide +kernel
theorem dX6_digest_127 : decode cX6_digest 127 = .ok (.aload_n 0, 1) := by decide +kernel
theorem dX6_digest_128 : decode cX6_digest 128 = .ok (.getfield 7, 3) := by decide +kernel
theorem dX6_digest_131 : decode cX6_digest 131 = .ok (.iload_n 1, 1) := by decide +kernel
theorem dX6_digest_132 : decode cX6_digest 132 = .ok (.iaload, 1) := by decide +kernel
theorem dX6_digest_133 : decode cX6_digest 133 = .ok (.if_icmp .ge 19, 3) := by decide +kernel
theorem dX6_digest_136 : decode cX6_digest 136 = .ok (.aload_n 0, 1) := by decide +kernel
theorem dX6_digest_137 : decode cX6_digest 137 = .ok (.bipush 8, 2) := by decide +kernel
theorem dX6_digest_139 : decode cX6_digest 139 = .ok (.iload_n 1, 1) := by decide +kernel
theorem dX6_digest_140 : decode cX6_digest 140 = .ok (.imul, 1) := by decide +kernel
theorem dX6_digest_141 : decode cX6_digest 141 = .ok (.iload_n 2, 1) := by decide +kernel
theorem dX6_digest_142 : decode cX6_digest 142 = .ok (.iadd, 1) := by decide +kernel
theorem dX6_digest_143 : decode cX6_digest 143 = .ok (.invokevirtual 225, 3) := by decide +kernel
theorem dX6_digest_146 : decode cX6_digest 146 = .ok (.iinc 2 1, 3) := by decide +kernel
theorem dX6_digest_149 : decode cX6_digest 149 = .ok (.goto (-23), 3) := by decide +kernel
theorem dX6_digest_152 : decode cX6_digest 152 = .ok (.iinc 1 1, 3) := by decide +kernel
theorem dX6_digest_155 : decode cX6_digest 155 = .ok (.goto (-68), 3) := by decide +kernel
theorem dX6_digest_158 : decode cX6_digest 158 = .ok (.aload_n 0, 1) := by decide +kernel
theorem dX6_digest_159 : decode cX6_digest 159 = .ok (.aload_n 0, 1) := by decide +kernel
theorem dX6_digest_160 : decode cX6_digest 160 = .ok (.getfield 64, 3) := by decide +kernel
theorem dX6_digest_163 : decode cX6_digest 163 = .ok (.i2l, 1) := by decide +kernel
theorem dX6_digest_164 : decode cX6_digest 164 = .ok (.invokevirtual 219, 3) := by decide +kernel
theorem dX6_digest_167 : decode cX6_digest 167 = .ok (.iconst 0, 1) := by decide +kernel
theorem dX6_digest_168 : decode cX6_digest 168 = .ok (.istore_n 1, 1) := by decide +kernel
theorem dX6_digest_169 : decode cX6_digest 169 = .ok (.iload_n 1, 1) := by decide +kernel
theorem dX6_digest_170 : decode cX6_digest 170 = .ok (.aload_n 0, 1) := by decide +kernel
theorem dX6_digest_171 : decode cX6_digest 171 = .ok (.getfield 64, 3) := by decide +kernel
theorem dX6_digest_174 : decode cX6_digest 174 = .ok (.if_icmp .ge 41, 3) := by decide +kernel
theorem dX6_digest_177 : decode cX6_digest 177 = .ok (.aload_n 0, 1) := by decide +kernel
theorem dX6_digest_178 : decode cX6_digest 178 = .ok (.aload_n 0, 1) := by decide +kernel
theorem dX6_digest_179 : decode cX6_digest 179 = .ok (.getfield 32, 3) := by decide +kernel
theorem dX6_digest_182 : decode cX6_digest 182 = .ok (.iload_n 1, 1) := by decide +kernel
theorem dX6_digest_183 : decode cX6_digest 183 = .ok (.iaload, 1) := by decide +kernel
theorem dX6_digest_184 : decode cX6_digest 184 = .ok (.i2l, 1) := by decide +kernel
theorem dX6_digest_185 : decode cX6_digest 185 = .ok (.invokevirtual 219, 3) := by decide +kernel
theorem dX6_digest_188 : decode cX6_digest 188 = .ok (.aload_n 0, 1) := by decide +kernel
theorem dX6_digest_189 : decode cX6_digest 189 = .ok (.aload_n 0, 1) := by decide +kernel
theorem dX6_digest_190 : decode cX6_digest 190 = .ok (.getfield 35, 3) := by decide +kernel
theorem dX6_digest_193 : decode cX6_digest 193 = .ok (.iload_n 1, 1) := by decide +kernel
theorem dX6_digest_194 : decode cX6_digest 194 = .ok (.iaload, 1) := by decide +kernel
theorem dX6_digest_195 : decode cX6_digest 195 = .ok (.i2l, 1) := by decide +kernel
theorem dX6_digest_196 : decode cX6_digest 196 = .ok (.invokevirtual 219, 3) := by decide +kernel
theorem dX6_digest_199 : decode cX6_digest 199 = .ok (.aload_n 0, 1) := by decide +kernel
theorem dX6_digest_200 : decode cX6_digest 200 = .ok (.aload_n 0, 1) := by decide +kernel
theorem dX6_digest_201 : decode cX6_digest 201 = .ok (.iload_n 1, 1) := by decide +kernel
theorem dX6_digest_202 : decode cX6_digest 202 = .ok (.invokevirtual 153, 3) := by decide +kernel
theorem dX6_digest_205 : decode cX6_digest 205 = .ok (.i2l, 1) := by decide +kernel
theorem dX6_digest_206 : decode cX6_digest 206 = .ok (.invokevirtual 219, 3) := by decide +kernel
theorem dX6_digest_209 : decode cX6_digest 209 = .ok (.iinc 1 1, 3) := by decide +kernel
theorem dX6_digest_212 : decode cX6_digest 212 = .ok (.goto (-43), 3) := by decide +kernel
theorem dX6_digest_215 : decode cX6_digest 215 = .ok (.aload_n 0, 1) := by decide +kernel
theorem dX6_digest_216 : decode cX6_digest 216 = .ok (.getfield 215, 3) := by decide +kernel
theorem dX6_digest_219 : decode cX6_digest 219 = .ok (.lreturn, 1) := by decide +kernel
theorem dL_law_0 : decode cL_law 0 = .ok (.new 7, 3) := by decide +kernel
theorem dL_law_3 : decode cL_law 3 = .ok (.dup, 1) := by decide +kernel
theorem dL_law_4 : decode cL_law 4 = .ok (.invokespecial 9, 3) := by decide +kernel
theorem dL_law_7 : decode cL_law 7 = .ok (.astore_n 1, 1) := by decide +kernel
theorem dL_law_8 : decode cL_law 8 = .ok (.new 10, 3) := by decide +kernel
theorem dL_law_11 : decode cL_law 11 = .ok (.dup, 1) := by decide +kernel
theorem dL_law_12 : decode cL_law 12 = .ok (.invokespecial 12, 3) := by decide +kernel
theorem dL_law_15 : decode cL_law 15 = .ok (.astore_n 2, 1) := by decide +kernel
theorem dL_law_16 : decode cL_law 16 = .ok (.iconst 0, 1) := by decide +kernel
theorem dL_law_17 : decode cL_law 17 = .ok (.istore_n 3, 1) := by decide +kernel
theorem dL_law_18 : decode cL_law 18 = .ok (.iload_n 3, 1) := by decide +kernel
theorem dL_law_19 : decode cL_law 19 = .ok (.aload_n 0, 1) := by decide +kernel
theorem dL_law_20 : decode cL_law 20 = .ok (.arraylength, 1) := by decide +kernel
theorem dL_law_21 : decode cL_law 21 = .ok (.bipush 6, 2) := by decide +kernel
theorem dL_law_23 : decode cL_law 23 = .ok (.isub, 1) := by decide +kernel
theorem dL_law_24 : decode cL_law 24 = .ok (.if_icmp .gt 884, 3) := by decide +kernel
theorem dL_law_27 : decode cL_law 27 = .ok (.aload_n 0, 1) := by decide +kernel
theorem dL_law_28 : decode cL_law 28 = .ok (.iload_n 3, 1) := by decide +kernel
theorem dL_law_29 : decode cL_law 29 = .ok (.iaload, 1) := by decide +kernel
theorem dL_law_30 : decode cL_law 30 = .ok (.bipush 31, 2) := by decide +kernel
theorem dL_law_32 : decode cL_law 32 = .ok (.iand, 1) := by decide +kernel
theorem dL_law_33 : decode cL_law 33 = .ok (.tableswitch 869 0 28 #[131, 154, 187, 230, 293, 316, 329, 342, 375, 408, 431, 464, 497, 540, 583, 626, 649, 672, 695, 718, 731, 744, 757, 770, 783, 806, 829, 842, 855], 131) := by decide +kernel
theorem dL_law_164 : decode cL_law 164 = .ok (.aload_n 1, 1) := by decide +kernel
theorem dL_law_165 : decode cL_law 165 = .ok (.aload_n 0, 1) := by decide +kernel
theorem dL_law_166 : decode cL_law 166 = .ok (.iload_n 3, 1) := by decide +kernel
theorem dL_law_167 : decode cL_law 167 = .ok (.iconst 1, 1) := by decide +kernel
theorem dL_law_168 : decode cL_law 168 = .ok (.iadd, 1) := by decide +kernel
theorem dL_law_169 : decode cL_law 169 = .ok (.iaload, 1) := by decide +kernel
theorem dL_law_170 : decode cL_law 170 = .ok (.invokevirtual 13, 3) := by decide +kernel
theorem dL_law_173 : decode cL_law 173 = .ok (.aload_n 2, 1) := by decide +kernel
theorem dL_law_174 : decode cL_law 174 = .ok (.aload_n 0, 1) := by decide +kernel
theorem dL_law_175 : decode cL_law 175 = .ok (.iload_n 3, 1) := by decide +kernel
theorem dL_law_176 : decode cL_law 176 = .ok (.iconst 1, 1) := by decide +kernel
theorem dL_law_177 : decode cL_law 177 = .ok (.iadd, 1) := by decide +kernel
theorem dL_law_178 : decode cL_law 178 = .ok (.iaload, 1) := by decide +kernel
theorem dL_law_179 : decode cL_law 179 = .ok (.invokevirtual 17, 3) := by decide +kernel
theorem dL_law_182 : decode cL_law 182 = .ok (.if_icmp .eq 720, 3) := by decide +kernel
theorem dL_law_185 : decode cL_law 185 = .ok (.iconst 0, 1) := by decide +kernel
theorem dL_law_186 : decode cL_law 186 = .ok (.ireturn, 1) := by decide +kernel
theorem dL_law_187 : decode cL_law 187 = .ok (.aload_n 1, 1) := by decide +kernel
theorem dL_law_188 : decode cL_law 188 = .ok (.aload_n 0, 1) := by decide +kernel
theorem dL_law_189 : decode cL_law 189 = .ok (.iload_n 3, 1) := by decide +kernel
theorem dL_law_190 : decode cL_law 190 = .ok (.iconst 1, 1) := by decide +kernel
theorem dL_law_191 : decode cL_law 191 = .ok (.iadd, 1) := by decide +kernel
theorem dL_law_192 : decode cL_law 192 = .ok (.iaload, 1) := by decide +kernel
theorem dL_law_193 : decode cL_law 193 = .ok (.aload_n 0, 1) := by decide +kernel
theorem dL_law_194 : decode cL_law 194 = .ok (.iload_n 3, 1) := by decide +kernel
theorem dL_law_195 : decode cL_law 195 = .ok (.iconst 2, 1) := by decide +kernel
theorem dL_law_196 : decode cL_law 196 = .ok (.iadd, 1) := by decide +kernel
theorem dL_law_197 : decode cL_law 197 = .ok (.iaload, 1) := by decide +kernel
theorem dL_law_198 : decode cL_law 198 = .ok (.invokevirtual 18, 3) := by decide +kernel
theorem dL_law_201 : decode cL_law 201 = .ok (.aload_n 2, 1) := by decide +kernel
theorem dL_law_202 : decode cL_law 202 = .ok (.aload_n 0, 1) := by decide +kernel
theorem dL_law_203 : decode cL_law 203 = .ok (.iload_n 3, 1) := by decide +kernel
theorem dL_law_204 : decode cL_law 204 = .ok (.iconst 1, 1) := by decide +kernel
theorem dL_law_205 : decode cL_law 205 = .ok (.iadd, 1) := by decide +kernel
theorem dL_law_206 : decode cL_law 206 = .ok (.iaload, 1) := by decide +kernel
theorem dL_law_207 : decode cL_law 207 = .ok (.aload_n 0, 1) := by decide +kernel
theorem dL_law_208 : decode cL_law 208 = .ok (.iload_n 3, 1) := by decide +kernel
theorem dL_law_209 : decode cL_law 209 = .ok (.iconst 2, 1) := by decide +kernel
theorem dL_law_210 : decode cL_law 210 = .ok (.iadd, 1) := by decide +kernel
theorem dL_law_211 : decode cL_law 211 = .ok (.iaload, 1) := by decide +kernel
theorem dL_law_212 : decode cL_law 212 = .ok (.invokevirtual 22, 3) := by decide +kernel
theorem dL_law_215 : decode cL_law 215 = .ok (.if_icmp .eq 687, 3) := by decide +kernel
theorem dL_law_218 : decode cL_law 218 = .ok (.iconst 0, 1) := by decide +kernel
theorem dL_law_219 : decode cL_law 219 = .ok (.ireturn, 1) := by decide +kernel
theorem dL_law_220 : decode cL_law 220 = .ok (.aload_n 1, 1) := by decide +kernel
theorem dL_law_221 : decode cL_law 221 = .ok (.aload_n 0, 1) := by decide +kernel
theorem dL_law_222 : decode cL_law 222 = .ok (.iload_n 3, 1) := by decide +kernel
theorem dL_law_223 : decode cL_law 223 = .ok (.iconst 1, 1) := by decide +kernel
theorem dL_law_224 : decode cL_law 224 = .ok (.iadd, 1) := by decide +kernel
theorem dL_law_225 : decode cL_law 225 = .ok (.iaload, 1) := by decide +kernel
theorem dL_law_226 : decode cL_law 226 = .ok (.aload_n 0, 1) := by decide +kernel
theorem dL_law_227 : decode cL_law 227 = .ok (.iload_n 3, 1) := by decide +kernel
theorem dL_law_228 : decode cL_law 228 = .ok (.iconst 2, 1) := by decide +kernel
theorem dL_law_229 : decode cL_law 229 = .ok (.iadd, 1) := by decide +kernel
theorem dL_law_230 : decode cL_law 230 = .ok (.iaload, 1) := by decide +kernel
theorem dL_law_231 : decode cL_law 231 = .ok (.aload_n 0, 1) := by decide +kernel
theorem dL_law_232 : decode cL_law 232 = .ok (.iload_n 3, 1) := by decide +kernel
theorem dL_law_233 : decode cL_law 233 = .ok (.iconst 3, 1) := by decide +kernel
theorem dL_law_234 : decode cL_law 234 = .ok (.iadd, 1) := by decide +kernel
theorem dL_law_235 : decode cL_law 235 = .ok (.iaload, 1) := by decide +kernel
theorem dL_law_236 : decode cL_law 236 = .ok (.invokevirtual 23, 3) := by decide +kernel
theorem dL_law_239 : decode cL_law 239 = .ok (.aload_n 2, 1) := by decide +kernel
theorem dL_law_240 : decode cL_law 240 = .ok (.aload_n 0, 1) := by decide +kernel
theorem dL_law_241 : decode cL_law 241 = .ok (.iload_n 3, 1) := by decide +kernel
theorem dL_law_242 : decode cL_law 242 = .ok (.iconst 1, 1) := by decide +kernel
theorem dL_law_243 : decode cL_law 243 = .ok (.iadd, 1) := by decide +kernel
theorem dL_law_244 : decode cL_law 244 = .ok (.iaload, 1) := by decide +kernel
theorem dL_law_245 : decode cL_law 245 = .ok (.aload_n 0, 1) := by decide +kernel
theorem dL_law_246 : decode cL_law 246 = .ok (.iload_n 3, 1) := by decide +kernel
theorem dL_law_247 : decode cL_law 247 = .ok (.iconst 2, 1) := by decide +kernel
theorem dL_law_248 : decode cL_law 248 = .ok (.iadd, 1) := by decide +kernel
theorem dL_law_249 : decode cL_law 249 = .ok (.iaload, 1) := by decide +kernel
theorem dL_law_250 : decode cL_law 250 = .ok (.aload_n 0, 1) := by decide +kernel
theorem dL_law_251 : decode cL_law 251 = .ok (.iload_n 3, 1) := by decide +kernel
theorem dL_law_252 : decode cL_law 252 = .ok (.iconst 3, 1) := by decide +kernel
theorem dL_law_253 : decode cL_law 253 = .ok (.iadd, 1) := by decide +kernel
theorem dL_law_254 : decode cL_law 254 = .ok (.iaload, 1) := by decide +kernel
theorem dL_law_255 : decode cL_law 255 = .ok (.invokevirtual 27, 3) := by decide +kernel
theorem dL_law_258 : decode cL_law 258 = .ok (.if_icmp .eq 644, 3) := by decide +kernel
theorem dL_law_261 : decode cL_law 261 = .ok (.iconst 0, 1) := by decide +kernel
theorem dL_law_262 : decode cL_law 262 = .ok (.ireturn, 1) := by decide +kernel
theorem dL_law_263 : decode cL_law 263 = .ok (.aload_n 1, 1) := by decide +kernel
theorem dL_law_264 : decode cL_law 264 = .ok (.aload_n 0, 1) := by decide +kernel
theorem dL_law_265 : decode cL_law 265 = .ok (.iload_n 3, 1) := by decide +kernel
theorem dL_law_266 : decode cL_law 266 = .ok (.iconst 1, 1) := by decide +kernel
theorem dL_law_267 : decode cL_law 267 = .ok (.iadd, 1) := by decide +kernel
theorem dL_law_268 : decode cL_law 268 = .ok (.iaload, 1) := by decide +kernel
theorem dL_law_269 : decode cL_law 269 = .ok (.aload_n 0, 1) := by decide +kernel
theorem dL_law_270 : decode cL_law 270 = .ok (.iload_n 3, 1) := by decide +kernel
theorem dL_law_271 : decode cL_law 271 = .ok (.iconst 2, 1) := by decide +kernel
theorem dL_law_272 : decode cL_law 272 = .ok (.iadd, 1) := by decide +kernel
theorem dL_law_273 : decode cL_law 273 = .ok (.iaload, 1) := by decide +kernel
theorem dL_law_274 : decode cL_law 274 = .ok (.aload_n 0, 1) := by decide +kernel
theorem dL_law_275 : decode cL_law 275 = .ok (.iload_n 3, 1) := by decide +kernel
theorem dL_law_276 : decode cL_law 276 = .ok (.iconst 3, 1) := by decide +kernel
theorem dL_law_277 : decode cL_law 277 = .ok (.iadd, 1) := by decide +kernel
theorem dL_law_278 : decode cL_law 278 = .ok (.iaload, 1) := by decide +kernel
theorem dL_law_279 : decode cL_law 279 = .ok (.aload_n 0, 1) := by decide +kernel
theorem dL_law_280 : decode cL_law 280 = .ok (.iload_n 3, 1) := by decide +kernel
theorem dL_law_281 : decode cL_law 281 = .ok (.iconst 4, 1) := by decide +kernel
theorem dL_law_282 : decode cL_law 282 = .ok (.iadd, 1) := by decide +kernel
theorem dL_law_283 : decode cL_law 283 = .ok (.iaload, 1) := by decide +kernel
theorem dL_law_284 : decode cL_law 284 = .ok (.aload_n 0, 1) := by decide +kernel
theorem dL_law_285 : decode cL_law 285 = .ok (.iload_n 3, 1) := by decide +kernel
theorem dL_law_286 : decode cL_law 286 = .ok (.iconst 5, 1) := by decide +kernel
theorem dL_law_287 : decode cL_law 287 = .ok (.iadd, 1) := by decide +kernel
theorem dL_law_288 : decode cL_law 288 = .ok (.iaload, 1) := by decide +kernel
theorem dL_law_289 : decode cL_law 289 = .ok (.invokevirtual 28, 3) := by decide +kernel
theorem dL_law_292 : decode cL_law 292 = .ok (.aload_n 2, 1) := by decide +kernel
theorem dL_law_293 : decode cL_law 293 = .ok (.aload_n 0, 1) := by decide +kernel
theorem dL_law_294 : decode cL_law 294 = .ok (.iload_n 3, 1) := by decide +kernel
theorem dL_law_295 : decode cL_law 295 = .ok (.iconst 1, 1) := by decide +kernel
theorem dL_law_296 : decode cL_law 296 = .ok (.iadd, 1) := by decide +kernel
theorem dL_law_297 : decode cL_law 297 = .ok (.iaload, 1) := by decide +kernel
theorem dL_law_298 : decode cL_law 298 = .ok (.aload_n 0, 1) := by decide +kernel
theorem dL_law_299 : decode cL_law 299 = .ok (.iload_n 3, 1) := by decide +kernel
theorem dL_law_300 : decode cL_law 300 = .ok (.iconst 2, 1) := by decide +kernel
theorem dL_law_301 : decode cL_law 301 = .ok (.iadd, 1) := by decide +kernel
theorem dL_law_302 : decode cL_law 302 = .ok (.iaload, 1) := by decide +kernel
theorem dL_law_303 : decode cL_law 303 = .ok (.aload_n 0, 1) := by decide +kernel
theorem dL_law_304 : decode cL_law 304 = .ok (.iload_n 3, 1) := by decide +kernel
theorem dL_law_305 : decode cL_law 305 = .ok (.iconst 3, 1) := by decide +kernel
theorem dL_law_306 : decode cL_law 306 = .ok (.iadd, 1) := by decide +kernel
theorem dL_law_307 : decode cL_law 307 = .ok (.iaload, 1) := by decide +kernel
theorem dL_law_308 : decode cL_law 308 = .ok (.aload_n 0, 1) := by decide +kernel
theorem dL_law_309 : decode cL_law 309 = .ok (.iload_n 3, 1) := by decide +kernel
theorem dL_law_310 : decode cL_law 310 = .ok (.iconst 4, 1) := by decide +kernel
theorem dL_law_311 : decode cL_law 311 = .ok (.iadd, 1) := by decide +kernel
theorem dL_law_312 : decode cL_law 312 = .ok (.iaload, 1) := by decide +kernel
theorem dL_law_313 : decode cL_law 313 = .ok (.aload_n 0, 1) := by decide +kernel
theorem dL_law_314 : decode cL_law 314 = .ok (.iload_n 3, 1) := by decide +kernel
theorem dL_law_315 : decode cL_law 315 = .ok (.iconst 5, 1) := by decide +kernel
theorem dL_law_316 : decode cL_law 316 = .ok (.iadd, 1) := by decide +kernel
theorem dL_law_317 : decode cL_law 317 = .ok (.iaload, 1) := by decide +kernel
theorem dL_law_318 : decode cL_law 318 = .ok (.invokevirtual 32, 3) := by decide +kernel
theorem dL_law_321 : decode cL_law 321 = .ok (.if_icmp .eq 581, 3) := by decide +kernel
theorem dL_law_324 : decode cL_law 324 = .ok (.iconst 0, 1) := by decide +kernel
theorem dL_law_325 : decode cL_law 325 = .ok (.ireturn, 1) := by decide +kernel
theorem dL_law_326 : decode cL_law 326 = .ok (.aload_n 1, 1) := by decide +kernel
theorem dL_law_327 : decode cL_law 327 = .ok (.aload_n 0, 1) := by decide +kernel
theorem dL_law_328 : decode cL_law 328 = .ok (.iload_n 3, 1) := by decide +kernel
theorem dL_law_329 : decode cL_law 329 = .ok (.iconst 1, 1) := by decide +kernel
theorem dL_law_330 : decode cL_law 330 = .ok (.iadd, 1) := by decide +kernel
theorem dL_law_331 : decode cL_law 331 = .ok (.iaload, 1) := by decide +kernel
theorem dL_law_332 : decode cL_law 332 = .ok (.invokevirtual 33, 3) := by decide +kernel
theorem dL_law_335 : decode cL_law 335 = .ok (.aload_n 2, 1) := by decide +kernel
theorem dL_law_336 : decode cL_law 336 = .ok (.aload_n 0, 1) := by decide +kernel
theorem dL_law_337 : decode cL_law 337 = .ok (.iload_n 3, 1) := by decide +kernel
theorem dL_law_338 : decode cL_law 338 = .ok (.iconst 1, 1) := by decide +kernel
theorem dL_law_339 : decode cL_law 339 = .ok (.iadd, 1) := by decide +kernel
theorem dL_law_340 : decode cL_law 340 = .ok (.iaload, 1) := by decide +kernel
theorem dL_law_341 : decode cL_law 341 = .ok (.invokevirtual 36, 3) := by decide +kernel
theorem dL_law_344 : decode cL_law 344 = .ok (.if_icmp .eq 558, 3) := by decide +kernel
theorem dL_law_347 : decode cL_law 347 = .ok (.iconst 0, 1) := by decide +kernel
theorem dL_law_348 : decode cL_law 348 = .ok (.ireturn, 1) := by decide +kernel
theorem dL_law_349 : decode cL_law 349 = .ok (.aload_n 1, 1) := by decide +kernel
theorem dL_law_350 : decode cL_law 350 = .ok (.invokevirtual 37, 3) := by decide +kernel
theorem dL_law_353 : decode cL_law 353 = .ok (.aload_n 2, 1) := by decide +kernel
theorem dL_law_354 : decode cL_law 354 = .ok (.invokevirtual 41, 3) := by decide +kernel
theorem dL_law_357 : decode cL_law 357 = .ok (.if_icmp .eq 545, 3) := by decide +kernel
theorem dL_law_360 : decode cL_law 360 = .ok (.iconst 0, 1) := by decide +kernel
theorem dL_law_361 : decode cL_law 361 = .ok (.ireturn, 1) := by decide +kernel
theorem dL_law_362 : decode cL_law 362 = .ok (.aload_n 1, 1) := by decide +kernel
theorem dL_law_363 : decode cL_law 363 = .ok (.invokevirtual 42, 3) := by decide +kernel
theorem dL_law_366 : decode cL_law 366 = .ok (.aload_n 2, 1) := by decide +kernel
theorem dL_law_367 : decode cL_law 367 = .ok (.invokevirtual 45, 3) := by decide +kernel
theorem dL_law_370 : decode cL_law 370 = .ok (.if_icmp .eq 532, 3) := by decide +kernel
theorem dL_law_373 : decode cL_law 373 = .ok (.iconst 0, 1) := by decide +kernel
theorem dL_law_374 : decode cL_law 374 = .ok (.ireturn, 1) := by decide +kernel
theorem dL_law_375 : decode cL_law 375 = .ok (.aload_n 1, 1) := by decide +kernel
theorem dL_law_376 : decode cL_law 376 = .ok (.aload_n 0, 1) := by decide +kernel
theorem dL_law_377 : decode cL_law 377 = .ok (.iload_n 3, 1) := by decide +kernel
theorem dL_law_378 : decode cL_law 378 = .ok (.iconst 1, 1) := by decide +kernel
theorem dL_law_379 : decode cL_law 379 = .ok (.iadd, 1) := by decide +kernel
theorem dL_law_380 : decode cL_law 380 = .ok (.iaload, 1) := by decide +kernel
theorem dL_law_381 : decode cL_law 381 = .ok (.aload_n 0, 1) := by decide +kernel
theorem dL_law_382 : decode cL_law 382 = .ok (.iload_n 3, 1) := by decide +kernel
theorem dL_law_383 : decode cL_law 383 = .ok (.iconst 2, 1) := by decide +kernel
theorem dL_law_384 : decode cL_law 384 = .ok (.iadd, 1) := by decide +kernel
theorem dL_law_385 : decode cL_law 385 = .ok (.iaload, 1) := by decide +kernel
theorem dL_law_386 : decode cL_law 386 = .ok (.invokevirtual 46, 3) := by decide +kernel
theorem dL_law_389 : decode cL_law 389 = .ok (.aload_n 2, 1) := by decide +kernel
theorem dL_law_390 : decode cL_law 390 = .ok (.aload_n 0, 1) := by decide +kernel
theorem dL_law_391 : decode cL_law 391 = .ok (.iload_n 3, 1) := by decide +kernel
theorem dL_law_392 : decode cL_law 392 = .ok (.iconst 1, 1) := by decide +kernel
theorem dL_law_393 : decode cL_law 393 = .ok (.iadd, 1) := by decide +kernel
theorem dL_law_394 : decode cL_law 394 = .ok (.iaload, 1) := by decide +kernel
theorem dL_law_395 : decode cL_law 395 = .ok (.aload_n 0, 1) := by decide +kernel
theorem dL_law_396 : decode cL_law 396 = .ok (.iload_n 3, 1) := by decide +kernel
theorem dL_law_397 : decode cL_law 397 = .ok (.iconst 2, 1) := by decide +kernel
theorem dL_law_398 : decode cL_law 398 = .ok (.iadd, 1) := by decide +kernel
theorem dL_law_399 : decode cL_law 399 = .ok (.iaload, 1) := by decide +kernel
theorem dL_law_400 : decode cL_law 400 = .ok (.invokevirtual 49, 3) := by decide +kernel
theorem dL_law_403 : decode cL_law 403 = .ok (.if_icmp .eq 499, 3) := by decide +kernel
theorem dL_law_406 : decode cL_law 406 = .ok (.iconst 0, 1) := by decide +kernel
theorem dL_law_407 : decode cL_law 407 = .ok (.ireturn, 1) := by decide +kernel
theorem dL_law_408 : decode cL_law 408 = .ok (.aload_n 1, 1) := by decide +kernel
theorem dL_law_409 : decode cL_law 409 = .ok (.aload_n 0, 1) := by decide +kernel
theorem dL_law_410 : decode cL_law 410 = .ok (.iload_n 3, 1) := by decide +kernel
theorem dL_law_411 : decode cL_law 411 = .ok (.iconst 1, 1) := by decide +kernel
theorem dL_law_412 : decode cL_law 412 = .ok (.iadd, 1) := by decide +kernel
theorem dL_law_413 : decode cL_law 413 = .ok (.iaload, 1) := by decide +kernel
theorem dL_law_414 : decode cL_law 414 = .ok (.aload_n 0, 1) := by decide +kernel
theorem dL_law_415 : decode cL_law 415 = .ok (.iload_n 3, 1) := by decide +kernel
theorem dL_law_416 : decode cL_law 416 = .ok (.iconst 2, 1) := by decide +kernel
theorem dL_law_417 : decode cL_law 417 = .ok (.iadd, 1) := by decide +kernel
theorem dL_law_418 : decode cL_law 418 = .ok (.iaload, 1) := by decide +kernel
theorem dL_law_419 : decode cL_law 419 = .ok (.invokevirtual 50, 3) := by decide +kernel
theorem dL_law_422 : decode cL_law 422 = .ok (.aload_n 2, 1) := by decide +kernel
theorem dL_law_423 : decode cL_law 423 = .ok (.aload_n 0, 1) := by decide +kernel
theorem dL_law_424 : decode cL_law 424 = .ok (.iload_n 3, 1) := by decide +kernel
theorem dL_law_425 : decode cL_law 425 = .ok (.iconst 1, 1) := by decide +kernel
theorem dL_law_426 : decode cL_law 426 = .ok (.iadd, 1) := by decide +kernel
theorem dL_law_427 : decode cL_law 427 = .ok (.iaload, 1) := by decide +kernel
theorem dL_law_428 : decode cL_law 428 = .ok (.aload_n 0, 1) := by decide +kernel
theorem dL_law_429 : decode cL_law 429 = .ok (.iload_n 3, 1) := by decide +kernel
theorem dL_law_430 : decode cL_law 430 = .ok (.iconst 2, 1) := by decide +kernel
theorem dL_law_431 : decode cL_law 431 = .ok (.iadd, 1) := by decide +kernel
theorem dL_law_432 : decode cL_law 432 = .ok (.iaload, 1) := by decide +kernel
theorem dL_law_433 : decode cL_law 433 = .ok (.invokevirtual 53, 3) := by decide +kernel
theorem dL_law_436 : decode cL_law 436 = .ok (.if_icmp .eq 466, 3) := by decide +kernel
theorem dL_law_439 : decode cL_law 439 = .ok (.iconst 0, 1) := by decide +kernel
theorem dL_law_440 : decode cL_law 440 = .ok (.ireturn, 1) := by decide +kernel
theorem dL_law_441 : decode cL_law 441 = .ok (.aload_n 1, 1) := by decide +kernel
theorem dL_law_442 : decode cL_law 442 = .ok (.aload_n 0, 1) := by decide +kernel
theorem dL_law_443 : decode cL_law 443 = .ok (.iload_n 3, 1) := by decide +kernel
theorem dL_law_444 : decode cL_law 444 = .ok (.iconst 1, 1) := by decide +kernel
theorem dL_law_445 : decode cL_law 445 = .ok (.iadd, 1) := by decide +kernel
theorem dL_law_446 : decode cL_law 446 = .ok (.iaload, 1) := by decide +kernel
theorem dL_law_447 : decode cL_law 447 = .ok (.invokevirtual 54, 3) := by decide +kernel
theorem dL_law_450 : decode cL_law 450 = .ok (.aload_n 2, 1) := by decide +kernel
theorem dL_law_451 : decode cL_law 451 = .ok (.aload_n 0, 1) := by decide +kernel
theorem dL_law_452 : decode cL_law 452 = .ok (.iload_n 3, 1) := by decide +kernel
theorem dL_law_453 : decode cL_law 453 = .ok (.iconst 1, 1) := by decide +kernel
theorem dL_law_454 : decode cL_law 454 = .ok (.iadd, 1) := by decide +kernel
theorem dL_law_455 : decode cL_law 455 = .ok (.iaload, 1) := by decide +kernel
theorem dL_law_456 : decode cL_law 456 = .ok (.invokevirtual 57, 3) := by decide +kernel
theorem dL_law_459 : decode cL_law 459 = .ok (.if_icmp .eq 443, 3) := by decide +kernel
theorem dL_law_462 : decode cL_law 462 = .ok (.iconst 0, 1) := by decide +kernel
theorem dL_law_463 : decode cL_law 463 = .ok (.ireturn, 1) := by decide +kernel
theorem dL_law_464 : decode cL_law 464 = .ok (.aload_n 1, 1) := by decide +kernel
theorem dL_law_465 : decode cL_law 465 = .ok (.aload_n 0, 1) := by decide +kernel
theorem dL_law_466 : decode cL_law 466 = .ok (.iload_n 3, 1) := by decide +kernel
theorem dL_law_467 : decode cL_law 467 = .ok (.iconst 1, 1) := by decide +kernel
theorem dL_law_468 : decode cL_law 468 = .ok (.iadd, 1) := by decide +kernel
theorem dL_law_469 : decode cL_law 469 = .ok (.iaload, 1) := by decide +kernel
theorem dL_law_470 : decode cL_law 470 = .ok (.aload_n 0, 1) := by decide +kernel
theorem dL_law_471 : decode cL_law 471 = .ok (.iload_n 3, 1) := by decide +kernel
theorem dL_law_472 : decode cL_law 472 = .ok (.iconst 2, 1) := by decide +kernel
theorem dL_law_473 : decode cL_law 473 = .ok (.iadd, 1) := by decide +kernel
theorem dL_law_474 : decode cL_law 474 = .ok (.iaload, 1) := by decide +kernel
theorem dL_law_475 : decode cL_law 475 = .ok (.invokevirtual 58, 3) := by decide +kernel
theorem dL_law_478 : decode cL_law 478 = .ok (.aload_n 2, 1) := by decide +kernel
theorem dL_law_479 : decode cL_law 479 = .ok (.aload_n 0, 1) := by decide +kernel
theorem dL_law_480 : decode cL_law 480 = .ok (.iload_n 3, 1) := by decide +kernel
theorem dL_law_481 : decode cL_law 481 = .ok (.iconst 1, 1) := by decide +kernel
theorem dL_law_482 : decode cL_law 482 = .ok (.iadd, 1) := by decide +kernel
theorem dL_law_483 : decode cL_law 483 = .ok (.iaload, 1) := by decide +kernel
theorem dL_law_484 : decode cL_law 484 = .ok (.aload_n 0, 1) := by decide +kernel
theorem dL_law_485 : decode cL_law 485 = .ok (.iload_n 3, 1) := by decide +kernel
theorem dL_law_486 : decode cL_law 486 = .ok (.iconst 2, 1) := by decide +kernel
theorem dL_law_487 : decode cL_law 487 = .ok (.iadd, 1) := by decide +kernel
theorem dL_law_488 : decode cL_law 488 = .ok (.iaload, 1) := by decide +kernel
theorem dL_law_489 : decode cL_law 489 = .ok (.invokevirtual 61, 3) := by decide +kernel
theorem dL_law_492 : decode cL_law 492 = .ok (.if_icmp .eq 410, 3) := by decide +kernel
theorem dL_law_495 : decode cL_law 495 = .ok (.iconst 0, 1) := by decide +kernel
theorem dL_law_496 : decode cL_law 496 = .ok (.ireturn, 1) := by decide +kernel
theorem dL_law_497 : decode cL_law 497 = .ok (.aload_n 1, 1) := by decide +kernel
theorem dL_law_498 : decode cL_law 498 = .ok (.aload_n 0, 1) := by decide +kernel
theorem dL_law_499 : decode cL_law 499 = .ok (.iload_n 3, 1) := by decide +kernel
theorem dL_law_500 : decode cL_law 500 = .ok (.iconst 1, 1) := by decide +kernel
theorem dL_law_501 : decode cL_law 501 = .ok (.iadd, 1) := by decide +kernel
theorem dL_law_502 : decode cL_law 502 = .ok (.iaload, 1) := by decide +kernel
theorem dL_law_503 : decode cL_law 503 = .ok (.aload_n 0, 1) := by decide +kernel
theorem dL_law_504 : decode cL_law 504 = .ok (.iload_n 3, 1) := by decide +kernel
theorem dL_law_505 : decode cL_law 505 = .ok (.iconst 2, 1) := by decide +kernel
theorem dL_law_506 : decode cL_law 506 = .ok (.iadd, 1) := by decide +kernel
theorem dL_law_507 : decode cL_law 507 = .ok (.iaload, 1) := by decide +kernel
theorem dL_law_508 : decode cL_law 508 = .ok (.invokevirtual 62, 3) := by decide +kernel
theorem dL_law_511 : decode cL_law 511 = .ok (.aload_n 2, 1) := by decide +kernel
theorem dL_law_512 : decode cL_law 512 = .ok (.aload_n 0, 1) := by decide +kernel
theorem dL_law_513 : decode cL_law 513 = .ok (.iload_n 3, 1) := by decide +kernel
theorem dL_law_514 : decode cL_law 514 = .ok (.iconst 1, 1) := by decide +kernel
theorem dL_law_515 : decode cL_law 515 = .ok (.iadd, 1) := by decide +kernel
theorem dL_law_516 : decode cL_law 516 = .ok (.iaload, 1) := by decide +kernel
theorem dL_law_517 : decode cL_law 517 = .ok (.aload_n 0, 1) := by decide +kernel
theorem dL_law_518 : decode cL_law 518 = .ok (.iload_n 3, 1) := by decide +kernel
theorem dL_law_519 : decode cL_law 519 = .ok (.iconst 2, 1) := by decide +kernel
theorem dL_law_520 : decode cL_law 520 = .ok (.iadd, 1) := by decide +kernel
theorem dL_law_521 : decode cL_law 521 = .ok (.iaload, 1) := by decide +kernel
theorem dL_law_522 : decode cL_law 522 = .ok (.invokevirtual 65, 3) := by decide +kernel
theorem dL_law_525 : decode cL_law 525 = .ok (.if_icmp .eq 377, 3) := by decide +kernel
theorem dL_law_528 : decode cL_law 528 = .ok (.iconst 0, 1) := by decide +kernel
theorem dL_law_529 : decode cL_law 529 = .ok (.ireturn, 1) := by decide +kernel
theorem dL_law_530 : decode cL_law 530 = .ok (.aload_n 1, 1) := by decide +kernel
theorem dL_law_531 : decode cL_law 531 = .ok (.aload_n 0, 1) := by decide +kernel
theorem dL_law_532 : decode cL_law 532 = .ok (.iload_n 3, 1) := by decide +kernel
theorem dL_law_533 : decode cL_law 533 = .ok (.iconst 1, 1) := by decide +kernel
theorem dL_law_534 : decode cL_law 534 = .ok (.iadd, 1) := by decide +kernel
theorem dL_law_535 : decode cL_law 535 = .ok (.iaload, 1) := by decide +kernel
theorem dL_law_536 : decode cL_law 536 = .ok (.aload_n 0, 1) := by decide +kernel
theorem dL_law_537 : decode cL_law 537 = .ok (.iload_n 3, 1) := by decide +kernel
theorem dL_law_538 : decode cL_law 538 = .ok (.iconst 2, 1) := by decide +kernel
theorem dL_law_539 : decode cL_law 539 = .ok (.iadd, 1) := by decide +kernel
theorem dL_law_540 : decode cL_law 540 = .ok (.iaload, 1) := by decide +kernel
theorem dL_law_541 : decode cL_law 541 = .ok (.aload_n 0, 1) := by decide +kernel
theorem dL_law_542 : decode cL_law 542 = .ok (.iload_n 3, 1) := by decide +kernel
theorem dL_law_543 : decode cL_law 543 = .ok (.iconst 3, 1) := by decide +kernel
theorem dL_law_544 : decode cL_law 544 = .ok (.iadd, 1) := by decide +kernel
theorem dL_law_545 : decode cL_law 545 = .ok (.iaload, 1) := by decide +kernel
theorem dL_law_546 : decode cL_law 546 = .ok (.invokevirtual 66, 3) := by decide +kernel
theorem dL_law_549 : decode cL_law 549 = .ok (.aload_n 2, 1) := by decide +kernel
theorem dL_law_550 : decode cL_law 550 = .ok (.aload_n 0, 1) := by decide +kernel
theorem dL_law_551 : decode cL_law 551 = .ok (.iload_n 3, 1) := by decide +kernel
theorem dL_law_552 : decode cL_law 552 = .ok (.iconst 1, 1) := by decide +kernel
theorem dL_law_553 : decode cL_law 553 = .ok (.iadd, 1) := by decide +kernel
theorem dL_law_554 : decode cL_law 554 = .ok (.iaload, 1) := by decide +kernel
theorem dL_law_555 : decode cL_law 555 = .ok (.aload_n 0, 1) := by decide +kernel
theorem dL_law_556 : decode cL_law 556 = .ok (.iload_n 3, 1) := by decide +kernel
theorem dL_law_557 : decode cL_law 557 = .ok (.iconst 2, 1) := by decide +kernel
theorem dL_law_558 : decode cL_law 558 = .ok (.iadd, 1) := by decide +kernel
theorem dL_law_559 : decode cL_law 559 = .ok (.iaload, 1) := by decide +kernel
theorem dL_law_560 : decode cL_law 560 = .ok (.aload_n 0, 1) := by decide +kernel
theorem dL_law_561 : decode cL_law 561 = .ok (.iload_n 3, 1) := by decide +kernel
theorem dL_law_562 : decode cL_law 562 = .ok (.iconst 3, 1) := by decide +kernel
theorem dL_law_563 : decode cL_law 563 = .ok (.iadd, 1) := by decide +kernel
theorem dL_law_564 : decode cL_law 564 = .ok (.iaload, 1) := by decide +kernel
theorem dL_law_565 : decode cL_law 565 = .ok (.invokevirtual 69, 3) := by decide +kernel
theorem dL_law_568 : decode cL_law 568 = .ok (.if_icmp .eq 334, 3) := by decide +kernel
theorem dL_law_571 : decode cL_law 571 = .ok (.iconst 0, 1) := by decide +kernel
theorem dL_law_572 : decode cL_law 572 = .ok (.ireturn, 1) := by decide +kernel
theorem dL_law_573 : decode cL_law 573 = .ok (.aload_n 1, 1) := by decide +kernel
theorem dL_law_574 : decode cL_law 574 = .ok (.aload_n 0, 1) := by decide +kernel
theorem dL_law_575 : decode cL_law 575 = .ok (.iload_n 3, 1) := by decide +kernel
theorem dL_law_576 : decode cL_law 576 = .ok (.iconst 1, 1) := by decide +kernel
theorem dL_law_577 : decode cL_law 577 = .ok (.iadd, 1) := by decide +kernel
theorem dL_law_578 : decode cL_law 578 = .ok (.iaload, 1) := by decide +kernel
theorem dL_law_579 : decode cL_law 579 = .ok (.aload_n 0, 1) := by decide +kernel
theorem dL_law_580 : decode cL_law 580 = .ok (.iload_n 3, 1) := by decide +kernel
theorem dL_law_581 : decode cL_law 581 = .ok (.iconst 2, 1) := by decide +kernel
theorem dL_law_582 : decode cL_law 582 = .ok (.iadd, 1) := by decide +kernel
theorem dL_law_583 : decode cL_law 583 = .ok (.iaload, 1) := by decide +kernel
theorem dL_law_584 : decode cL_law 584 = .ok (.aload_n 0, 1) := by decide +kernel
theorem dL_law_585 : decode cL_law 585 = .ok (.iload_n 3, 1) := by decide +kernel
theorem dL_law_586 : decode cL_law 586 = .ok (.iconst 3, 1) := by decide +kernel
theorem dL_law_587 : decode cL_law 587 = .ok (.iadd, 1) := by decide +kernel
theorem dL_law_588 : decode cL_law 588 = .ok (.iaload, 1) := by decide +kernel
theorem dL_law_589 : decode cL_law 589 = .ok (.invokevirtual 70, 3) := by decide +kernel
theorem dL_law_592 : decode cL_law 592 = .ok (.aload_n 2, 1) := by decide +kernel
theorem dL_law_593 : decode cL_law 593 = .ok (.aload_n 0, 1) := by decide +kernel
theorem dL_law_594 : decode cL_law 594 = .ok (.iload_n 3, 1) := by decide +kernel
theorem dL_law_595 : decode cL_law 595 = .ok (.iconst 1, 1) := by decide +kernel
theorem dL_law_596 : decode cL_law 596 = .ok (.iadd, 1) := by decide +kernel
theorem dL_law_597 : decode cL_law 597 = .ok (.iaload, 1) := by decide +kernel
theorem dL_law_598 : decode cL_law 598 = .ok (.aload_n 0, 1) := by decide +kernel
theorem dL_law_599 : decode cL_law 599 = .ok (.iload_n 3, 1) := by decide +kernel
theorem dL_law_600 : decode cL_law 600 = .ok (.iconst 2, 1) := by decide +kernel
theorem dL_law_601 : decode cL_law 601 = .ok (.iadd, 1) := by decide +kernel
theorem dL_law_602 : decode cL_law 602 = .ok (.iaload, 1) := by decide +kernel
theorem dL_law_603 : decode cL_law 603 = .ok (.aload_n 0, 1) := by decide +kernel
theorem dL_law_604 : decode cL_law 604 = .ok (.iload_n 3, 1) := by decide +kernel
theorem dL_law_605 : decode cL_law 605 = .ok (.iconst 3, 1) := by decide +kernel
theorem dL_law_606 : decode cL_law 606 = .ok (.iadd, 1) := by decide +kernel
theorem dL_law_607 : decode cL_law 607 = .ok (.iaload, 1) := by decide +kernel
theorem dL_law_608 : decode cL_law 608 = .ok (.invokevirtual 73, 3) := by decide +kernel
theorem dL_law_611 : decode cL_law 611 = .ok (.if_icmp .eq 291, 3) := by decide +kernel
theorem dL_law_614 : decode cL_law 614 = .ok (.iconst 0, 1) := by decide +kernel
theorem dL_law_615 : decode cL_law 615 = .ok (.ireturn, 1) := by decide +kernel
theorem dL_law_616 : decode cL_law 616 = .ok (.aload_n 1, 1) := by decide +kernel
theorem dL_law_617 : decode cL_law 617 = .ok (.aload_n 0, 1) := by decide +kernel
theorem dL_law_618 : decode cL_law 618 = .ok (.iload_n 3, 1) := by decide +kernel
theorem dL_law_619 : decode cL_law 619 = .ok (.iconst 1, 1) := by decide +kernel
theorem dL_law_620 : decode cL_law 620 = .ok (.iadd, 1) := by decide +kernel
theorem dL_law_621 : decode cL_law 621 = .ok (.iaload, 1) := by decide +kernel
theorem dL_law_622 : decode cL_law 622 = .ok (.aload_n 0, 1) := by decide +kernel
theorem dL_law_623 : decode cL_law 623 = .ok (.iload_n 3, 1) := by decide +kernel
theorem dL_law_624 : decode cL_law 624 = .ok (.iconst 2, 1) := by decide +kernel
theorem dL_law_625 : decode cL_law 625 = .ok (.iadd, 1) := by decide +kernel
theorem dL_law_626 : decode cL_law 626 = .ok (.iaload, 1) := by decide +kernel
theorem dL_law_627 : decode cL_law 627 = .ok (.aload_n 0, 1) := by decide +kernel
theorem dL_law_628 : decode cL_law 628 = .ok (.iload_n 3, 1) := by decide +kernel
theorem dL_law_629 : decode cL_law 629 = .ok (.iconst 3, 1) := by decide +kernel
theorem dL_law_630 : decode cL_law 630 = .ok (.iadd, 1) := by decide +kernel
theorem dL_law_631 : decode cL_law 631 = .ok (.iaload, 1) := by decide +kernel
theorem dL_law_632 : decode cL_law 632 = .ok (.invokevirtual 74, 3) := by decide +kernel
theorem dL_law_635 : decode cL_law 635 = .ok (.aload_n 2, 1) := by decide +kernel
theorem dL_law_636 : decode cL_law 636 = .ok (.aload_n 0, 1) := by decide +kernel
theorem dL_law_637 : decode cL_law 637 = .ok (.iload_n 3, 1) := by decide +kernel
theorem dL_law_638 : decode cL_law 638 = .ok (.iconst 1, 1) := by decide +kernel
theorem dL_law_639 : decode cL_law 639 = .ok (.iadd, 1) := by decide +kernel
theorem dL_law_640 : decode cL_law 640 = .ok (.iaload, 1) := by decide +kernel
theorem dL_law_641 : decode cL_law 641 = .ok (.aload_n 0, 1) := by decide +kernel
theorem dL_law_642 : decode cL_law 642 = .ok (.iload_n 3, 1) := by decide +kernel
theorem dL_law_643 : decode cL_law 643 = .ok (.iconst 2, 1) := by decide +kernel
theorem dL_law_644 : decode cL_law 644 = .ok (.iadd, 1) := by decide +kernel
theorem dL_law_645 : decode cL_law 645 = .ok (.iaload, 1) := by decide +kernel
theorem dL_law_646 : decode cL_law 646 = .ok (.aload_n 0, 1) := by decide +kernel
theorem dL_law_647 : decode cL_law 647 = .ok (.iload_n 3, 1) := by decide +kernel
theorem dL_law_648 : decode cL_law 648 = .ok (.iconst 3, 1) := by decide +kernel
theorem dL_law_649 : decode cL_law 649 = .ok (.iadd, 1) := by decide +kernel
theorem dL_law_650 : decode cL_law 650 = .ok (.iaload, 1) := by decide +kernel
theorem dL_law_651 : decode cL_law 651 = .ok (.invokevirtual 77, 3) := by decide +kernel
theorem dL_law_654 : decode cL_law 654 = .ok (.if_icmp .eq 248, 3) := by decide +kernel
theorem dL_law_657 : decode cL_law 657 = .ok (.iconst 0, 1) := by decide +kernel
theorem dL_law_658 : decode cL_law 658 = .ok (.ireturn, 1) := by decide +kernel
theorem dL_law_659 : decode cL_law 659 = .ok (.aload_n 1, 1) := by decide +kernel
theorem dL_law_660 : decode cL_law 660 = .ok (.aload_n 0, 1) := by decide +kernel
theorem dL_law_661 : decode cL_law 661 = .ok (.iload_n 3, 1) := by decide +kernel
theorem dL_law_662 : decode cL_law 662 = .ok (.iconst 1, 1) := by decide +kernel
theorem dL_law_663 : decode cL_law 663 = .ok (.iadd, 1) := by decide +kernel
theorem dL_law_664 : decode cL_law 664 = .ok (.iaload, 1) := by decide +kernel
theorem dL_law_665 : decode cL_law 665 = .ok (.invokevirtual 78, 3) := by decide +kernel
theorem dL_law_668 : decode cL_law 668 = .ok (.aload_n 2, 1) := by decide +kernel
theorem dL_law_669 : decode cL_law 669 = .ok (.aload_n 0, 1) := by decide +kernel
theorem dL_law_670 : decode cL_law 670 = .ok (.iload_n 3, 1) := by decide +kernel
theorem dL_law_671 : decode cL_law 671 = .ok (.iconst 1, 1) := by decide +kernel
theorem dL_law_672 : decode cL_law 672 = .ok (.iadd, 1) := by decide +kernel
theorem dL_law_673 : decode cL_law 673 = .ok (.iaload, 1) := by decide +kernel
theorem dL_law_674 : decode cL_law 674 = .ok (.invokevirtual 81, 3) := by decide +kernel
theorem dL_law_677 : decode cL_law 677 = .ok (.if_icmp .eq 225, 3) := by decide +kernel
theorem dL_law_680 : decode cL_law 680 = .ok (.iconst 0, 1) := by decide +kernel
theorem dL_law_681 : decode cL_law 681 = .ok (.ireturn, 1) := by decide +kernel
theorem dL_law_682 : decode cL_law 682 = .ok (.aload_n 1, 1) := by decide +kernel
theorem dL_law_683 : decode cL_law 683 = .ok (.aload_n 0, 1) := by decide +kernel
theorem dL_law_684 : decode cL_law 684 = .ok (.iload_n 3, 1) := by decide +kernel
theorem dL_law_685 : decode cL_law 685 = .ok (.iconst 1, 1) := by decide +kernel
theorem dL_law_686 : decode cL_law 686 = .ok (.iadd, 1) := by decide +kernel
theorem dL_law_687 : decode cL_law 687 = .ok (.iaload, 1) := by decide +kernel
theorem dL_law_688 : decode cL_law 688 = .ok (.invokevirtual 82, 3) := by decide +kernel
theorem dL_law_691 : decode cL_law 691 = .ok (.aload_n 2, 1) := by decide +kernel
theorem dL_law_692 : decode cL_law 692 = .ok (.aload_n 0, 1) := by decide +kernel
theorem dL_law_693 : decode cL_law 693 = .ok (.iload_n 3, 1) := by decide +kernel
theorem dL_law_694 : decode cL_law 694 = .ok (.iconst 1, 1) := by decide +kernel
theorem dL_law_695 : decode cL_law 695 = .ok (.iadd, 1) := by decide +kernel
theorem dL_law_696 : decode cL_law 696 = .ok (.iaload, 1) := by decide +kernel
theorem dL_law_697 : decode cL_law 697 = .ok (.invokevirtual 85, 3) := by decide +kernel
theorem dL_law_700 : decode cL_law 700 = .ok (.if_icmp .eq 202, 3) := by decide +kernel
theorem dL_law_703 : decode cL_law 703 = .ok (.iconst 0, 1) := by decide +kernel
theorem dL_law_704 : decode cL_law 704 = .ok (.ireturn, 1) := by decide +kernel
theorem dL_law_705 : decode cL_law 705 = .ok (.aload_n 1, 1) := by decide +kernel
theorem dL_law_706 : decode cL_law 706 = .ok (.aload_n 0, 1) := by decide +kernel
theorem dL_law_707 : decode cL_law 707 = .ok (.iload_n 3, 1) := by decide +kernel
theorem dL_law_708 : decode cL_law 708 = .ok (.iconst 1, 1) := by decide +kernel
theorem dL_law_709 : decode cL_law 709 = .ok (.iadd, 1) := by decide +kernel
theorem dL_law_710 : decode cL_law 710 = .ok (.iaload, 1) := by decide +kernel
theorem dL_law_711 : decode cL_law 711 = .ok (.invokevirtual 86, 3) := by decide +kernel
theorem dL_law_714 : decode cL_law 714 = .ok (.aload_n 2, 1) := by decide +kernel
theorem dL_law_715 : decode cL_law 715 = .ok (.aload_n 0, 1) := by decide +kernel
theorem dL_law_716 : decode cL_law 716 = .ok (.iload_n 3, 1) := by decide +kernel
theorem dL_law_717 : decode cL_law 717 = .ok (.iconst 1, 1) := by decide +kernel
theorem dL_law_718 : decode cL_law 718 = .ok (.iadd, 1) := by decide +kernel
theorem dL_law_719 : decode cL_law 719 = .ok (.iaload, 1) := by decide +kernel
theorem dL_law_720 : decode cL_law 720 = .ok (.invokevirtual 89, 3) := by decide +kernel
theorem dL_law_723 : decode cL_law 723 = .ok (.if_icmp .eq 179, 3) := by decide +kernel
theorem dL_law_726 : decode cL_law 726 = .ok (.iconst 0, 1) := by decide +kernel
theorem dL_law_727 : decode cL_law 727 = .ok (.ireturn, 1) := by decide +kernel
theorem dL_law_728 : decode cL_law 728 = .ok (.aload_n 1, 1) := by decide +kernel
theorem dL_law_729 : decode cL_law 729 = .ok (.aload_n 0, 1) := by decide +kernel
theorem dL_law_730 : decode cL_law 730 = .ok (.iload_n 3, 1) := by decide +kernel
theorem dL_law_731 : decode cL_law 731 = .ok (.iconst 1, 1) := by decide +kernel
theorem dL_law_732 : decode cL_law 732 = .ok (.iadd, 1) := by decide +kernel
theorem dL_law_733 : decode cL_law 733 = .ok (.iaload, 1) := by decide +kernel
theorem dL_law_734 : decode cL_law 734 = .ok (.invokevirtual 90, 3) := by decide +kernel
theorem dL_law_737 : decode cL_law 737 = .ok (.aload_n 2, 1) := by decide +kernel
theorem dL_law_738 : decode cL_law 738 = .ok (.aload_n 0, 1) := by decide +kernel
theorem dL_law_739 : decode cL_law 739 = .ok (.iload_n 3, 1) := by decide +kernel
theorem dL_law_740 : decode cL_law 740 = .ok (.iconst 1, 1) := by decide +kernel
theorem dL_law_741 : decode cL_law 741 = .ok (.iadd, 1) := by decide +kernel
theorem dL_law_742 : decode cL_law 742 = .ok (.iaload, 1) := by decide +kernel
theorem dL_law_743 : decode cL_law 743 = .ok (.invokevirtual 93, 3) := by decide +kernel
theorem dL_law_746 : decode cL_law 746 = .ok (.if_icmp .eq 156, 3) := by decide +kernel
theorem dL_law_749 : decode cL_law 749 = .ok (.iconst 0, 1) := by decide +kernel
theorem dL_law_750 : decode cL_law 750 = .ok (.ireturn, 1) := by decide +kernel
theorem dL_law_751 : decode cL_law 751 = .ok (.aload_n 1, 1) := by decide +kernel
theorem dL_law_752 : decode cL_law 752 = .ok (.invokevirtual 94, 3) := by decide +kernel
theorem dL_law_755 : decode cL_law 755 = .ok (.aload_n 2, 1) := by decide +kernel
theorem dL_law_756 : decode cL_law 756 = .ok (.invokevirtual 97, 3) := by decide +kernel
theorem dL_law_759 : decode cL_law 759 = .ok (.if_icmp .eq 143, 3) := by decide +kernel
theorem dL_law_762 : decode cL_law 762 = .ok (.iconst 0, 1) := by decide +kernel
theorem dL_law_763 : decode cL_law 763 = .ok (.ireturn, 1) := by decide +kernel
theorem dL_law_764 : decode cL_law 764 = .ok (.aload_n 1, 1) := by decide +kernel
theorem dL_law_765 : decode cL_law 765 = .ok (.invokevirtual 98, 3) := by decide +kernel
theorem dL_law_768 : decode cL_law 768 = .ok (.aload_n 2, 1) := by decide +kernel
theorem dL_law_769 : decode cL_law 769 = .ok (.invokevirtual 101, 3) := by decide +kernel
theorem dL_law_772 : decode cL_law 772 = .ok (.if_icmp .eq 130, 3) := by decide +kernel
theorem dL_law_775 : decode cL_law 775 = .ok (.iconst 0, 1) := by decide +kernel
theorem dL_law_776 : decode cL_law 776 = .ok (.ireturn, 1) := by decide +kernel
theorem dL_law_777 : decode cL_law 777 = .ok (.aload_n 1, 1) := by decide +kernel
theorem dL_law_778 : decode cL_law 778 = .ok (.invokevirtual 102, 3) := by decide +kernel
theorem dL_law_781 : decode cL_law 781 = .ok (.aload_n 2, 1) := by decide +kernel
theorem dL_law_782 : decode cL_law 782 = .ok (.invokevirtual 105, 3) := by decide +kernel
theorem dL_law_785 : decode cL_law 785 = .ok (.if_icmp .eq 117, 3) := by decide +kernel
theorem dL_law_788 : decode cL_law 788 = .ok (.iconst 0, 1) := by decide +kernel
theorem dL_law_789 : decode cL_law 789 = .ok (.ireturn, 1) := by decide +kernel
theorem dL_law_790 : decode cL_law 790 = .ok (.aload_n 1, 1) := by decide +kernel
theorem dL_law_791 : decode cL_law 791 = .ok (.invokevirtual 106, 3) := by decide +kernel
theorem dL_law_794 : decode cL_law 794 = .ok (.aload_n 2, 1) := by decide +kernel
theorem dL_law_795 : decode cL_law 795 = .ok (.invokevirtual 109, 3) := by decide +kernel
theorem dL_law_798 : decode cL_law 798 = .ok (.if_icmp .eq 104, 3) := by decide +kernel
theorem dL_law_801 : decode cL_law 801 = .ok (.iconst 0, 1) := by decide +kernel
theorem dL_law_802 : decode cL_law 802 = .ok (.ireturn, 1) := by decide +kernel
theorem dL_law_803 : decode cL_law 803 = .ok (.aload_n 1, 1) := by decide +kernel
theorem dL_law_804 : decode cL_law 804 = .ok (.invokevirtual 110, 3) := by decide +kernel
theorem dL_law_807 : decode cL_law 807 = .ok (.aload_n 2, 1) := by decide +kernel
theorem dL_law_808 : decode cL_law 808 = .ok (.invokevirtual 113, 3) := by decide +kernel
theorem dL_law_811 : decode cL_law 811 = .ok (.if_icmp .eq 91, 3) := by decide +kernel
theorem dL_law_814 : decode cL_law 814 = .ok (.iconst 0, 1) := by decide +kernel
theorem dL_law_815 : decode cL_law 815 = .ok (.ireturn, 1) := by decide +kernel
theorem dL_law_816 : decode cL_law 816 = .ok (.aload_n 1, 1) := by decide +kernel
theorem dL_law_817 : decode cL_law 817 = .ok (.aload_n 0, 1) := by decide +kernel
theorem dL_law_818 : decode cL_law 818 = .ok (.iload_n 3, 1) := by decide +kernel
theorem dL_law_819 : decode cL_law 819 = .ok (.iconst 1, 1) := by decide +kernel
theorem dL_law_820 : decode cL_law 820 = .ok (.iadd, 1) := by decide +kernel
theorem dL_law_821 : decode cL_law 821 = .ok (.iaload, 1) := by decide +kernel
theorem dL_law_822 : decode cL_law 822 = .ok (.invokevirtual 114, 3) := by decide +kernel
theorem dL_law_825 : decode cL_law 825 = .ok (.aload_n 2, 1) := by decide +kernel
theorem dL_law_826 : decode cL_law 826 = .ok (.aload_n 0, 1) := by decide +kernel
theorem dL_law_827 : decode cL_law 827 = .ok (.iload_n 3, 1) := by decide +kernel
theorem dL_law_828 : decode cL_law 828 = .ok (.iconst 1, 1) := by decide +kernel
theorem dL_law_829 : decode cL_law 829 = .ok (.iadd, 1) := by decide +kernel
theorem dL_law_830 : decode cL_law 830 = .ok (.iaload, 1) := by decide +kernel
theorem dL_law_831 : decode cL_law 831 = .ok (.invokevirtual 117, 3) := by decide +kernel
theorem dL_law_834 : decode cL_law 834 = .ok (.if_icmp .eq 68, 3) := by decide +kernel
theorem dL_law_837 : decode cL_law 837 = .ok (.iconst 0, 1) := by decide +kernel
theorem dL_law_838 : decode cL_law 838 = .ok (.ireturn, 1) := by decide +kernel
theorem dL_law_839 : decode cL_law 839 = .ok (.aload_n 1, 1) := by decide +kernel
theorem dL_law_840 : decode cL_law 840 = .ok (.aload_n 0, 1) := by decide +kernel
theorem dL_law_841 : decode cL_law 841 = .ok (.iload_n 3, 1) := by decide +kernel
theorem dL_law_842 : decode cL_law 842 = .ok (.iconst 1, 1) := by decide +kernel
theorem dL_law_843 : decode cL_law 843 = .ok (.iadd, 1) := by decide +kernel
theorem dL_law_844 : decode cL_law 844 = .ok (.iaload, 1) := by decide +kernel
theorem dL_law_845 : decode cL_law 845 = .ok (.invokevirtual 118, 3) := by decide +kernel
theorem dL_law_848 : decode cL_law 848 = .ok (.aload_n 2, 1) := by decide +kernel
theorem dL_law_849 : decode cL_law 849 = .ok (.aload_n 0, 1) := by decide +kernel
theorem dL_law_850 : decode cL_law 850 = .ok (.iload_n 3, 1) := by decide +kernel
theorem dL_law_851 : decode cL_law 851 = .ok (.iconst 1, 1) := by decide +kernel
theorem dL_law_852 : decode cL_law 852 = .ok (.iadd, 1) := by decide +kernel
theorem dL_law_853 : decode cL_law 853 = .ok (.iaload, 1) := by decide +kernel
theorem dL_law_854 : decode cL_law 854 = .ok (.invokevirtual 121, 3) := by decide +kernel
theorem dL_law_857 : decode cL_law 857 = .ok (.if_icmp .eq 45, 3) := by decide +kernel
theorem dL_law_860 : decode cL_law 860 = .ok (.iconst 0, 1) := by decide +kernel
theorem dL_law_861 : decode cL_law 861 = .ok (.ireturn, 1) := by decide +kernel
theorem dL_law_862 : decode cL_law 862 = .ok (.aload_n 1, 1) := by decide +kernel
theorem dL_law_863 : decode cL_law 863 = .ok (.invokevirtual 122, 3) := by decide +kernel
theorem dL_law_866 : decode cL_law 866 = .ok (.aload_n 2, 1) := by decide +kernel
theorem dL_law_867 : decode cL_law 867 = .ok (.invokevirtual 125, 3) := by decide +kernel
theorem dL_law_870 : decode cL_law 870 = .ok (.if_icmp .eq 32, 3) := by decide +kernel
theorem dL_law_873 : decode cL_law 873 = .ok (.iconst 0, 1) := by decide +kernel
theorem dL_law_874 : decode cL_law 874 = .ok (.ireturn, 1) := by decide +kernel
theorem dL_law_875 : decode cL_law 875 = .ok (.aload_n 1, 1) := by decide +kernel
theorem dL_law_876 : decode cL_law 876 = .ok (.invokevirtual 126, 3) := by decide +kernel
theorem dL_law_879 : decode cL_law 879 = .ok (.aload_n 2, 1) := by decide +kernel
theorem dL_law_880 : decode cL_law 880 = .ok (.invokevirtual 129, 3) := by decide +kernel
theorem dL_law_883 : decode cL_law 883 = .ok (.if_icmp .eq 19, 3) := by decide +kernel
theorem dL_law_886 : decode cL_law 886 = .ok (.iconst 0, 1) := by decide +kernel
theorem dL_law_887 : decode cL_law 887 = .ok (.ireturn, 1) := by decide +kernel
theorem dL_law_888 : decode cL_law 888 = .ok (.aload_n 1, 1) := by decide +kernel
theorem dL_law_889 : decode cL_law 889 = .ok (.invokevirtual 130, 3) := by decide +kernel
theorem dL_law_892 : decode cL_law 892 = .ok (.aload_n 2, 1) := by decide +kernel
theorem dL_law_893 : decode cL_law 893 = .ok (.invokevirtual 134, 3) := by decide +kernel
theorem dL_law_896 : decode cL_law 896 = .ok (.lcmp, 1) := by decide +kernel
theorem dL_law_897 : decode cL_law 897 = .ok (.ifCond .eq 5, 3) := by decide +kernel
theorem dL_law_900 : decode cL_law 900 = .ok (.iconst 0, 1) := by decide +kernel
theorem dL_law_901 : decode cL_law 901 = .ok (.ireturn, 1) := by decide +kernel
theorem dL_law_902 : decode cL_law 902 = .ok (.iinc 3 6, 3) := by decide +kernel
theorem dL_law_905 : decode cL_law 905 = .ok (.goto (-887), 3) := by decide +kernel
theorem dL_law_908 : decode cL_law 908 = .ok (.iconst 1, 1) := by decide +kernel
theorem dL_law_909 : decode cL_law 909 = .ok (.ireturn, 1) := by decide +kernel
