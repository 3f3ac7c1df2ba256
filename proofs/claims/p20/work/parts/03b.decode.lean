theorem dX0_init_0 : decode cX0_init 0 = .ok (.aload_n 0, 1) := by decide +kernel
theorem dX0_init_1 : decode cX0_init 1 = .ok (.invokespecial 1, 3) := by decide +kernel
theorem dX0_init_4 : decode cX0_init 4 = .ok (.return_, 1) := by decide +kernel
theorem dX0_read_0 : decode cX0_read 0 = .ok (.aload_n 0, 1) := by decide +kernel
theorem dX0_read_1 : decode cX0_read 1 = .ok (.getfield 7, 3) := by decide +kernel
theorem dX0_read_4 : decode cX0_read 4 = .ok (.istore_n 3, 1) := by decide +kernel
theorem dX0_read_5 : decode cX0_read 5 = .ok (.iload_n 1, 1) := by decide +kernel
theorem dX0_read_6 : decode cX0_read 6 = .ok (.iload_n 3, 1) := by decide +kernel
theorem dX0_read_7 : decode cX0_read 7 = .ok (.isub, 1) := by decide +kernel
theorem dX0_read_8 : decode cX0_read 8 = .ok (.iconst 4, 1) := by decide +kernel
theorem dX0_read_9 : decode cX0_read 9 = .ok (.iadd, 1) := by decide +kernel
theorem dX0_read_10 : decode cX0_read 10 = .ok (.iconst 4, 1) := by decide +kernel
theorem dX0_read_11 : decode cX0_read 11 = .ok (.irem, 1) := by decide +kernel
theorem dX0_read_12 : decode cX0_read 12 = .ok (.istore 4, 2) := by decide +kernel
theorem dX0_read_14 : decode cX0_read 14 = .ok (.aload_n 0, 1) := by decide +kernel
theorem dX0_read_15 : decode cX0_read 15 = .ok (.iload_n 1, 1) := by decide +kernel
theorem dX0_read_16 : decode cX0_read 16 = .ok (.putfield 7, 3) := by decide +kernel
theorem dX0_read_19 : decode cX0_read 19 = .ok (.iload 4, 2) := by decide +kernel
theorem dX0_read_21 : decode cX0_read 21 = .ok (.iconst 1, 1) := by decide +kernel
theorem dX0_read_22 : decode cX0_read 22 = .ok (.if_icmp .ne 21, 3) := by decide +kernel
theorem dX0_read_25 : decode cX0_read 25 = .ok (.iload_n 1, 1) := by decide +kernel
theorem dX0_read_26 : decode cX0_read 26 = .ok (.iload_n 2, 1) := by decide +kernel
theorem dX0_read_27 : decode cX0_read 27 = .ok (.invokestatic 13, 3) := by decide +kernel
theorem dX0_read_30 : decode cX0_read 30 = .ok (.ifCond .eq 13, 3) := by decide +kernel
theorem dX0_read_33 : decode cX0_read 33 = .ok (.aload_n 0, 1) := by decide +kernel
theorem dX0_read_34 : decode cX0_read 34 = .ok (.dup, 1) := by decide +kernel
theorem dX0_read_35 : decode cX0_read 35 = .ok (.getfield 17, 3) := by decide +kernel
theorem dX0_read_38 : decode cX0_read 38 = .ok (.lconst 1, 1) := by decide +kernel
theorem dX0_read_39 : decode cX0_read 39 = .ok (.ladd, 1) := by decide +kernel
theorem dX0_read_40 : decode cX0_read 40 = .ok (.putfield 17, 3) := by decide +kernel
theorem dX0_read_43 : decode cX0_read 43 = .ok (.iload 4, 2) := by decide +kernel
theorem dX0_read_45 : decode cX0_read 45 = .ok (.iconst 3, 1) := by decide +kernel
theorem dX0_read_46 : decode cX0_read 46 = .ok (.if_icmp .ne 21, 3) := by decide +kernel
theorem dX0_read_49 : decode cX0_read 49 = .ok (.iload_n 3, 1) := by decide +kernel
theorem dX0_read_50 : decode cX0_read 50 = .ok (.iload_n 2, 1) := by decide +kernel
theorem dX0_read_51 : decode cX0_read 51 = .ok (.invokestatic 13, 3) := by decide +kernel
theorem dX0_read_54 : decode cX0_read 54 = .ok (.ifCond .eq 13, 3) := by decide +kernel
theorem dX0_read_57 : decode cX0_read 57 = .ok (.aload_n 0, 1) := by decide +kernel
theorem dX0_read_58 : decode cX0_read 58 = .ok (.dup, 1) := by decide +kernel
theorem dX0_read_59 : decode cX0_read 59 = .ok (.getfield 17, 3) := by decide +kernel
theorem dX0_read_62 : decode cX0_read 62 = .ok (.lconst 1, 1) := by decide +kernel
theorem dX0_read_63 : decode cX0_read 63 = .ok (.lsub, 1) := by decide +kernel
theorem dX0_read_64 : decode cX0_read 64 = .ok (.putfield 17, 3) := by decide +kernel
theorem dX0_read_67 : decode cX0_read 67 = .ok (.iload 4, 2) := by decide +kernel
theorem dX0_read_69 : decode cX0_read 69 = .ok (.iconst 2, 1) := by decide +kernel
theorem dX0_read_70 : decode cX0_read 70 = .ok (.if_icmp .ne 13, 3) := by decide +kernel
theorem dX0_read_73 : decode cX0_read 73 = .ok (.aload_n 0, 1) := by decide +kernel
theorem dX0_read_74 : decode cX0_read 74 = .ok (.dup, 1) := by decide +kernel
theorem dX0_read_75 : decode cX0_read 75 = .ok (.getfield 21, 3) := by decide +kernel
theorem dX0_read_78 : decode cX0_read 78 = .ok (.iconst 1, 1) := by decide +kernel
theorem dX0_read_79 : decode cX0_read 79 = .ok (.iadd, 1) := by decide +kernel
theorem dX0_read_80 : decode cX0_read 80 = .ok (.putfield 21, 3) := by decide +kernel
theorem dX0_read_83 : decode cX0_read 83 = .ok (.iload 4, 2) := by decide +kernel
theorem dX0_read_85 : decode cX0_read 85 = .ok (.iconst 2, 1) := by decide +kernel
theorem dX0_read_86 : decode cX0_read 86 = .ok (.if_icmp .ne 7, 3) := by decide +kernel
theorem dX0_read_89 : decode cX0_read 89 = .ok (.iconst 1, 1) := by decide +kernel
theorem dX0_read_90 : decode cX0_read 90 = .ok (.goto 4, 3) := by decide +kernel
theorem dX0_read_93 : decode cX0_read 93 = .ok (.iconst 0, 1) := by decide +kernel
theorem dX0_read_94 : decode cX0_read 94 = .ok (.ireturn, 1) := by decide +kernel
theorem dX0_counts_0 : decode cX0_counts 0 = .ok (.iload_n 1, 1) := by decide +kernel
theorem dX0_counts_1 : decode cX0_counts 1 = .ok (.iconst 4, 1) := by decide +kernel
theorem dX0_counts_2 : decode cX0_counts 2 = .ok (.if_icmp .eq 17, 3) := by decide +kernel
theorem dX0_counts_5 : decode cX0_counts 5 = .ok (.iload_n 0, 1) := by decide +kernel
theorem dX0_counts_6 : decode cX0_counts 6 = .ok (.ifCond .eq 13, 3) := by decide +kernel
theorem dX0_counts_9 : decode cX0_counts 9 = .ok (.iload_n 1, 1) := by decide +kernel
theorem dX0_counts_10 : decode cX0_counts 10 = .ok (.iconst 2, 1) := by decide +kernel
theorem dX0_counts_11 : decode cX0_counts 11 = .ok (.if_icmp .ne 12, 3) := by decide +kernel
theorem dX0_counts_14 : decode cX0_counts 14 = .ok (.iload_n 0, 1) := by decide +kernel
theorem dX0_counts_15 : decode cX0_counts 15 = .ok (.iconst 2, 1) := by decide +kernel
theorem dX0_counts_16 : decode cX0_counts 16 = .ok (.if_icmp .ne 7, 3) := by decide +kernel
theorem dX0_counts_19 : decode cX0_counts 19 = .ok (.iconst 1, 1) := by decide +kernel
theorem dX0_counts_20 : decode cX0_counts 20 = .ok (.goto 4, 3) := by decide +kernel
theorem dX0_counts_23 : decode cX0_counts 23 = .ok (.iconst 0, 1) := by decide +kernel
theorem dX0_counts_24 : decode cX0_counts 24 = .ok (.ireturn, 1) := by decide +kernel
theorem dX0_reset_0 : decode cX0_reset 0 = .ok (.aload_n 0, 1) := by decide +kernel
theorem dX0_reset_1 : decode cX0_reset 1 = .ok (.iconst 0, 1) := by decide +kernel
theorem dX0_reset_2 : decode cX0_reset 2 = .ok (.putfield 7, 3) := by decide +kernel
theorem dX0_reset_5 : decode cX0_reset 5 = .ok (.aload_n 0, 1) := by decide +kernel
theorem dX0_reset_6 : decode cX0_reset 6 = .ok (.lconst 0, 1) := by decide +kernel
theorem dX0_reset_7 : decode cX0_reset 7 = .ok (.putfield 17, 3) := by decide +kernel
theorem dX0_reset_10 : decode cX0_reset 10 = .ok (.aload_n 0, 1) := by decide +kernel
theorem dX0_reset_11 : decode cX0_reset 11 = .ok (.iconst 0, 1) := by decide +kernel
theorem dX0_reset_12 : decode cX0_reset 12 = .ok (.putfield 21, 3) := by decide +kernel
theorem dX0_reset_15 : decode cX0_reset 15 = .ok (.return_, 1) := by decide +kernel
theorem dX0_copyFrom_0 : decode cX0_copyFrom 0 = .ok (.aload_n 0, 1) := by decide +kernel
theorem dX0_copyFrom_1 : decode cX0_copyFrom 1 = .ok (.aload_n 1, 1) := by decide +kernel
theorem dX0_copyFrom_2 : decode cX0_copyFrom 2 = .ok (.getfield 7, 3) := by decide +kernel
theorem dX0_copyFrom_5 : decode cX0_copyFrom 5 = .ok (.putfield 7, 3) := by decide +kernel
theorem dX0_copyFrom_8 : decode cX0_copyFrom 8 = .ok (.aload_n 0, 1) := by decide +kernel
theorem dX0_copyFrom_9 : decode cX0_copyFrom 9 = .ok (.aload_n 1, 1) := by decide +kernel
theorem dX0_copyFrom_10 : decode cX0_copyFrom 10 = .ok (.getfield 17, 3) := by decide +kernel
theorem dX0_copyFrom_13 : decode cX0_copyFrom 13 = .ok (.putfield 17, 3) := by decide +kernel
theorem dX0_copyFrom_16 : decode cX0_copyFrom 16 = .ok (.aload_n 0, 1) := by decide +kernel
theorem dX0_copyFrom_17 : decode cX0_copyFrom 17 = .ok (.aload_n 1, 1) := by decide +kernel
theorem dX0_copyFrom_18 : decode cX0_copyFrom 18 = .ok (.getfield 21, 3) := by decide +kernel
theorem dX0_copyFrom_21 : decode cX0_copyFrom 21 = .ok (.putfield 21, 3) := by decide +kernel
theorem dX0_copyFrom_24 : decode cX0_copyFrom 24 = .ok (.return_, 1) := by decide +kernel
theorem dX1_init_0 : decode cX1_init 0 = .ok (.aload_n 0, 1) := by decide +kernel
theorem dX1_init_1 : decode cX1_init 1 = .ok (.invokespecial 3, 3) := by decide +kernel
theorem dX1_init_4 : decode cX1_init 4 = .ok (.aload_n 0, 1) := by decide +kernel
theorem dX1_init_5 : decode cX1_init 5 = .ok (.new 9, 3) := by decide +kernel
theorem dX1_init_8 : decode cX1_init 8 = .ok (.dup, 1) := by decide +kernel
theorem dX1_init_9 : decode cX1_init 9 = .ok (.iconst 4, 1) := by decide +kernel
theorem dX1_init_10 : decode cX1_init 10 = .ok (.invokespecial 11, 3) := by decide +kernel
theorem dX1_init_13 : decode cX1_init 13 = .ok (.putfield 14, 3) := by decide +kernel
theorem dX1_init_16 : decode cX1_init 16 = .ok (.aload_n 0, 1) := by decide +kernel
theorem dX1_init_17 : decode cX1_init 17 = .ok (.new 9, 3) := by decide +kernel
theorem dX1_init_20 : decode cX1_init 20 = .ok (.dup, 1) := by decide +kernel
theorem dX1_init_21 : decode cX1_init 21 = .ok (.iconst 4, 1) := by decide +kernel
theorem dX1_init_22 : decode cX1_init 22 = .ok (.invokespecial 11, 3) := by decide +kernel
theorem dX1_init_25 : decode cX1_init 25 = .ok (.putfield 20, 3) := by decide +kernel
theorem dX1_init_28 : decode cX1_init 28 = .ok (.return_, 1) := by decide +kernel
theorem dX1_isFull_0 : decode cX1_isFull 0 = .ok (.aload_n 0, 1) := by decide +kernel
theorem dX1_isFull_1 : decode cX1_isFull 1 = .ok (.getfield 14, 3) := by decide +kernel
theorem dX1_isFull_4 : decode cX1_isFull 4 = .ok (.invokevirtual 23, 3) := by decide +kernel
theorem dX1_isFull_7 : decode cX1_isFull 7 = .ok (.ireturn, 1) := by decide +kernel
theorem dX1_add_0 : decode cX1_add 0 = .ok (.aload_n 0, 1) := by decide +kernel
theorem dX1_add_1 : decode cX1_add 1 = .ok (.getfield 14, 3) := by decide +kernel
theorem dX1_add_4 : decode cX1_add 4 = .ok (.iload_n 1, 1) := by decide +kernel
theorem dX1_add_5 : decode cX1_add 5 = .ok (.i2l, 1) := by decide +kernel
theorem dX1_add_6 : decode cX1_add 6 = .ok (.invokevirtual 27, 3) := by decide +kernel
theorem dX1_add_9 : decode cX1_add 9 = .ok (.aload_n 0, 1) := by decide +kernel
theorem dX1_add_10 : decode cX1_add 10 = .ok (.getfield 20, 3) := by decide +kernel
theorem dX1_add_13 : decode cX1_add 13 = .ok (.iload_n 2, 1) := by decide +kernel
theorem dX1_add_14 : decode cX1_add 14 = .ok (.i2l, 1) := by decide +kernel
theorem dX1_add_15 : decode cX1_add 15 = .ok (.invokevirtual 27, 3) := by decide +kernel
theorem dX1_add_18 : decode cX1_add 18 = .ok (.return_, 1) := by decide +kernel
theorem dX1_removeAt_0 : decode cX1_removeAt 0 = .ok (.aload_n 0, 1) := by decide +kernel
theorem dX1_removeAt_1 : decode cX1_removeAt 1 = .ok (.getfield 14, 3) := by decide +kernel
theorem dX1_removeAt_4 : decode cX1_removeAt 4 = .ok (.iload_n 1, 1) := by decide +kernel
theorem dX1_removeAt_5 : decode cX1_removeAt 5 = .ok (.invokevirtual 31, 3) := by decide +kernel
theorem dX1_removeAt_8 : decode cX1_removeAt 8 = .ok (.aload_n 0, 1) := by decide +kernel
theorem dX1_removeAt_9 : decode cX1_removeAt 9 = .ok (.getfield 20, 3) := by decide +kernel
theorem dX1_removeAt_12 : decode cX1_removeAt 12 = .ok (.iload_n 1, 1) := by decide +kernel
theorem dX1_removeAt_13 : decode cX1_removeAt 13 = .ok (.invokevirtual 31, 3) := by decide +kernel
theorem dX1_removeAt_16 : decode cX1_removeAt 16 = .ok (.return_, 1) := by decide +kernel
theorem dX1_covers_0 : decode cX1_covers 0 = .ok (.iconst 0, 1) := by decide +kernel
theorem dX1_covers_1 : decode cX1_covers 1 = .ok (.istore_n 2, 1) := by decide +kernel
theorem dX1_covers_2 : decode cX1_covers 2 = .ok (.iload_n 2, 1) := by decide +kernel
theorem dX1_covers_3 : decode cX1_covers 3 = .ok (.aload_n 0, 1) := by decide +kernel
theorem dX1_covers_4 : decode cX1_covers 4 = .ok (.getfield 14, 3) := by decide +kernel
theorem dX1_covers_7 : decode cX1_covers 7 = .ok (.invokevirtual 34, 3) := by decide +kernel
theorem dX1_covers_10 : decode cX1_covers 10 = .ok (.if_icmp .ge 39, 3) := by decide +kernel
theorem dX1_covers_13 : decode cX1_covers 13 = .ok (.aload_n 0, 1) := by decide +kernel
theorem dX1_covers_14 : decode cX1_covers 14 = .ok (.getfield 14, 3) := by decide +kernel
theorem dX1_covers_17 : decode cX1_covers 17 = .ok (.iload_n 2, 1) := by decide +kernel
theorem dX1_covers_18 : decode cX1_covers 18 = .ok (.invokevirtual 38, 3) := by decide +kernel
theorem dX1_covers_21 : decode cX1_covers 21 = .ok (.istore_n 3, 1) := by decide +kernel
theorem dX1_covers_22 : decode cX1_covers 22 = .ok (.iload_n 1, 1) := by decide +kernel
theorem dX1_covers_23 : decode cX1_covers 23 = .ok (.iload_n 3, 1) := by decide +kernel
theorem dX1_covers_24 : decode cX1_covers 24 = .ok (.if_icmp .lt 19, 3) := by decide +kernel
theorem dX1_covers_27 : decode cX1_covers 27 = .ok (.iload_n 1, 1) := by decide +kernel
theorem dX1_covers_28 : decode cX1_covers 28 = .ok (.iload_n 3, 1) := by decide +kernel
theorem dX1_covers_29 : decode cX1_covers 29 = .ok (.aload_n 0, 1) := by decide +kernel
theorem dX1_covers_30 : decode cX1_covers 30 = .ok (.getfield 20, 3) := by decide +kernel
theorem dX1_covers_33 : decode cX1_covers 33 = .ok (.iload_n 2, 1) := by decide +kernel
theorem dX1_covers_34 : decode cX1_covers 34 = .ok (.invokevirtual 38, 3) := by decide +kernel
theorem dX1_covers_37 : decode cX1_covers 37 = .ok (.iadd, 1) := by decide +kernel
theorem dX1_covers_38 : decode cX1_covers 38 = .ok (.if_icmp .ge 5, 3) := by decide +kernel
theorem dX1_covers_41 : decode cX1_covers 41 = .ok (.iconst 1, 1) := by decide +kernel
theorem dX1_covers_42 : decode cX1_covers 42 = .ok (.ireturn, 1) := by decide +kernel
theorem dX1_covers_43 : decode cX1_covers 43 = .ok (.iinc 2 1, 3) := by decide +kernel
theorem dX1_covers_46 : decode cX1_covers 46 = .ok (.goto (-44), 3) := by decide +kernel
theorem dX1_covers_49 : decode cX1_covers 49 = .ok (.iconst 0, 1) := by decide +kernel
theorem dX1_covers_50 : decode cX1_covers 50 = .ok (.ireturn, 1) := by decide +kernel
theorem dX1_clear_0 : decode cX1_clear 0 = .ok (.aload_n 0, 1) := by decide +kernel
theorem dX1_clear_1 : decode cX1_clear 1 = .ok (.getfield 14, 3) := by decide +kernel
theorem dX1_clear_4 : decode cX1_clear 4 = .ok (.invokevirtual 42, 3) := by decide +kernel
theorem dX1_clear_7 : decode cX1_clear 7 = .ok (.aload_n 0, 1) := by decide +kernel
theorem dX1_clear_8 : decode cX1_clear 8 = .ok (.getfield 20, 3) := by decide +kernel
theorem dX1_clear_11 : decode cX1_clear 11 = .ok (.invokevirtual 42, 3) := by decide +kernel
theorem dX1_clear_14 : decode cX1_clear 14 = .ok (.return_, 1) := by decide +kernel
theorem dX1_copyFrom_0 : decode cX1_copyFrom 0 = .ok (.aload_n 0, 1) := by decide +kernel
theorem dX1_copyFrom_1 : decode cX1_copyFrom 1 = .ok (.getfield 14, 3) := by decide +kernel
theorem dX1_copyFrom_4 : decode cX1_copyFrom 4 = .ok (.aload_n 1, 1) := by decide +kernel
theorem dX1_copyFrom_5 : decode cX1_copyFrom 5 = .ok (.getfield 14, 3) := by decide +kernel
theorem dX1_copyFrom_8 : decode cX1_copyFrom 8 = .ok (.invokevirtual 45, 3) := by decide +kernel
theorem dX1_copyFrom_11 : decode cX1_copyFrom 11 = .ok (.aload_n 0, 1) := by decide +kernel
theorem dX1_copyFrom_12 : decode cX1_copyFrom 12 = .ok (.getfield 20, 3) := by decide +kernel
theorem dX1_copyFrom_15 : decode cX1_copyFrom 15 = .ok (.aload_n 1, 1) := by decide +kernel
theorem dX1_copyFrom_16 : decode cX1_copyFrom 16 = .ok (.getfield 20, 3) := by decide +kernel
theorem dX1_copyFrom_19 : decode cX1_copyFrom 19 = .ok (.invokevirtual 45, 3) := by decide +kernel
theorem dX1_copyFrom_22 : decode cX1_copyFrom 22 = .ok (.return_, 1) := by decide +kernel
theorem dX2_init_0 : decode cX2_init 0 = .ok (.aload_n 0, 1) := by decide +kernel
theorem dX2_init_1 : decode cX2_init 1 = .ok (.invokespecial 3, 3) := by decide +kernel
theorem dX2_init_4 : decode cX2_init 4 = .ok (.aload_n 0, 1) := by decide +kernel
theorem dX2_init_5 : decode cX2_init 5 = .ok (.bipush 6, 2) := by decide +kernel
theorem dX2_init_7 : decode cX2_init 7 = .ok (.anewarray 9, 3) := by decide +kernel
theorem dX2_init_10 : decode cX2_init 10 = .ok (.putfield 11, 3) := by decide +kernel
theorem dX2_init_13 : decode cX2_init 13 = .ok (.iconst 0, 1) := by decide +kernel
theorem dX2_init_14 : decode cX2_init 14 = .ok (.istore_n 1, 1) := by decide +kernel
theorem dX2_init_15 : decode cX2_init 15 = .ok (.iload_n 1, 1) := by decide +kernel
theorem dX2_init_16 : decode cX2_init 16 = .ok (.aload_n 0, 1) := by decide +kernel
theorem dX2_init_17 : decode cX2_init 17 = .ok (.getfield 11, 3) := by decide +kernel
theorem dX2_init_20 : decode cX2_init 20 = .ok (.arraylength, 1) := by decide +kernel
theorem dX2_init_21 : decode cX2_init 21 = .ok (.if_icmp .ge 22, 3) := by decide +kernel
theorem dX2_init_24 : decode cX2_init 24 = .ok (.aload_n 0, 1) := by decide +kernel
theorem dX2_init_25 : decode cX2_init 25 = .ok (.getfield 11, 3) := by decide +kernel
theorem dX2_init_28 : decode cX2_init 28 = .ok (.iload_n 1, 1) := by decide +kernel
theorem dX2_init_29 : decode cX2_init 29 = .ok (.new 9, 3) := by decide +kernel
theorem dX2_init_32 : decode cX2_init 32 = .ok (.dup, 1) := by decide +kernel
theorem dX2_init_33 : decode cX2_init 33 = .ok (.invokespecial 17, 3) := by decide +kernel
theorem dX2_init_36 : decode cX2_init 36 = .ok (.aastore, 1) := by decide +kernel
theorem dX2_init_37 : decode cX2_init 37 = .ok (.iinc 1 1, 3) := by decide +kernel
theorem dX2_init_40 : decode cX2_init 40 = .ok (.goto (-25), 3) := by decide +kernel
theorem dX2_init_43 : decode cX2_init 43 = .ok (.return_, 1) := by decide +kernel
theorem dX2_remember_0 : decode cX2_remember 0 = .ok (.aload_n 0, 1) := by decide +kernel
theorem dX2_remember_1 : decode cX2_remember 1 = .ok (.getfield 18, 3) := by decide +kernel
theorem dX2_remember_4 : decode cX2_remember 4 = .ok (.aload_n 0, 1) := by decide +kernel
theorem dX2_remember_5 : decode cX2_remember 5 = .ok (.getfield 11, 3) := by decide +kernel
theorem dX2_remember_8 : decode cX2_remember 8 = .ok (.arraylength, 1) := by decide +kernel
theorem dX2_remember_9 : decode cX2_remember 9 = .ok (.if_icmp .lt 7, 3) := by decide +kernel
theorem dX2_remember_12 : decode cX2_remember 12 = .ok (.aload_n 0, 1) := by decide +kernel
theorem dX2_remember_13 : decode cX2_remember 13 = .ok (.invokevirtual 22, 3) := by decide +kernel
theorem dX2_remember_16 : decode cX2_remember 16 = .ok (.aload_n 0, 1) := by decide +kernel
theorem dX2_remember_17 : decode cX2_remember 17 = .ok (.getfield 18, 3) := by decide +kernel
theorem dX2_remember_20 : decode cX2_remember 20 = .ok (.ifCond .lt 50, 3) := by decide +kernel
theorem dX2_remember_23 : decode cX2_remember 23 = .ok (.aload_n 0, 1) := by decide +kernel
theorem dX2_remember_24 : decode cX2_remember 24 = .ok (.getfield 18, 3) := by decide +kernel
theorem dX2_remember_27 : decode cX2_remember 27 = .ok (.aload_n 0, 1) := by decide +kernel
theorem dX2_remember_28 : decode cX2_remember 28 = .ok (.getfield 11, 3) := by decide +kernel
theorem dX2_remember_31 : decode cX2_remember 31 = .ok (.arraylength, 1) := by decide +kernel
theorem dX2_remember_32 : decode cX2_remember 32 = .ok (.if_icmp .ge 38, 3) := by decide +kernel
theorem dX2_remember_35 : decode cX2_remember 35 = .ok (.aload_n 0, 1) := by decide +kernel
theorem dX2_remember_36 : decode cX2_remember 36 = .ok (.getfield 11, 3) := by decide +kernel
theorem dX2_remember_39 : decode cX2_remember 39 = .ok (.aload_n 0, 1) := by decide +kernel
theorem dX2_remember_40 : decode cX2_remember 40 = .ok (.getfield 18, 3) := by decide +kernel
theorem dX2_remember_43 : decode cX2_remember 43 = .ok (.aaload, 1) := by decide +kernel
theorem dX2_remember_44 : decode cX2_remember 44 = .ok (.ifnull 26, 3) := by decide +kernel
theorem dX2_remember_47 : decode cX2_remember 47 = .ok (.aload_n 0, 1) := by decide +kernel
theorem dX2_remember_48 : decode cX2_remember 48 = .ok (.getfield 11, 3) := by decide +kernel
theorem dX2_remember_51 : decode cX2_remember 51 = .ok (.aload_n 0, 1) := by decide +kernel
theorem dX2_remember_52 : decode cX2_remember 52 = .ok (.getfield 18, 3) := by decide +kernel
theorem dX2_remember_55 : decode cX2_remember 55 = .ok (.aaload, 1) := by decide +kernel
theorem dX2_remember_56 : decode cX2_remember 56 = .ok (.aload_n 1, 1) := by decide +kernel
theorem dX2_remember_57 : decode cX2_remember 57 = .ok (.invokevirtual 25, 3) := by decide +kernel
theorem dX2_remember_60 : decode cX2_remember 60 = .ok (.aload_n 0, 1) := by decide +kernel
theorem dX2_remember_61 : decode cX2_remember 61 = .ok (.dup, 1) := by decide +kernel
theorem dX2_remember_62 : decode cX2_remember 62 = .ok (.getfield 18, 3) := by decide +kernel
theorem dX2_remember_65 : decode cX2_remember 65 = .ok (.iconst 1, 1) := by decide +kernel
theorem dX2_remember_66 : decode cX2_remember 66 = .ok (.iadd, 1) := by decide +kernel
theorem dX2_remember_67 : decode cX2_remember 67 = .ok (.putfield 18, 3) := by decide +kernel
theorem dX2_remember_70 : decode cX2_remember 70 = .ok (.return_, 1) := by decide +kernel
theorem dX2_takeBack_0 : decode cX2_takeBack 0 = .ok (.aload_n 0, 1) := by decide +kernel
theorem dX2_takeBack_1 : decode cX2_takeBack 1 = .ok (.getfield 18, 3) := by decide +kernel
theorem dX2_takeBack_4 : decode cX2_takeBack 4 = .ok (.iconst 1, 1) := by decide +kernel
theorem dX2_takeBack_5 : decode cX2_takeBack 5 = .ok (.isub, 1) := by decide +kernel
theorem dX2_takeBack_6 : decode cX2_takeBack 6 = .ok (.istore_n 2, 1) := by decide +kernel
theorem dX2_takeBack_7 : decode cX2_takeBack 7 = .ok (.iload_n 2, 1) := by decide +kernel
theorem dX2_takeBack_8 : decode cX2_takeBack 8 = .ok (.ifCond .lt 21, 3) := by decide +kernel
theorem dX2_takeBack_11 : decode cX2_takeBack 11 = .ok (.iload_n 2, 1) := by decide +kernel
theorem dX2_takeBack_12 : decode cX2_takeBack 12 = .ok (.aload_n 0, 1) := by decide +kernel
theorem dX2_takeBack_13 : decode cX2_takeBack 13 = .ok (.getfield 11, 3) := by decide +kernel
theorem dX2_takeBack_16 : decode cX2_takeBack 16 = .ok (.arraylength, 1) := by decide +kernel
theorem dX2_takeBack_17 : decode cX2_takeBack 17 = .ok (.if_icmp .ge 12, 3) := by decide +kernel
theorem dX2_takeBack_20 : decode cX2_takeBack 20 = .ok (.aload_n 0, 1) := by decide +kernel
theorem dX2_takeBack_21 : decode cX2_takeBack 21 = .ok (.getfield 11, 3) := by decide +kernel
theorem dX2_takeBack_24 : decode cX2_takeBack 24 = .ok (.iload_n 2, 1) := by decide +kernel
theorem dX2_takeBack_25 : decode cX2_takeBack 25 = .ok (.aaload, 1) := by decide +kernel
theorem dX2_takeBack_26 : decode cX2_takeBack 26 = .ok (.ifnonnull 5, 3) := by decide +kernel
theorem dX2_takeBack_29 : decode cX2_takeBack 29 = .ok (.aload_n 1, 1) := by decide +kernel
theorem dX2_takeBack_30 : decode cX2_takeBack 30 = .ok (.areturn, 1) := by decide +kernel
theorem dX2_takeBack_31 : decode cX2_takeBack 31 = .ok (.aload_n 0, 1) := by decide +kernel
theorem dX2_takeBack_32 : decode cX2_takeBack 32 = .ok (.getfield 11, 3) := by decide +kernel
theorem dX2_takeBack_35 : decode cX2_takeBack 35 = .ok (.iload_n 2, 1) := by decide +kernel
theorem dX2_takeBack_36 : decode cX2_takeBack 36 = .ok (.aaload, 1) := by decide +kernel
theorem dX2_takeBack_37 : decode cX2_takeBack 37 = .ok (.astore_n 3, 1) := by decide +kernel
theorem dX2_takeBack_38 : decode cX2_takeBack 38 = .ok (.aload_n 0, 1) := by decide +kernel
theorem dX2_takeBack_39 : decode cX2_takeBack 39 = .ok (.getfield 11, 3) := by decide +kernel
theorem dX2_takeBack_42 : decode cX2_takeBack 42 = .ok (.iload_n 2, 1) := by decide +kernel
theorem dX2_takeBack_43 : decode cX2_takeBack 43 = .ok (.aload_n 1, 1) := by decide +kernel
theorem dX2_takeBack_44 : decode cX2_takeBack 44 = .ok (.aastore, 1) := by decide +kernel
theorem dX2_takeBack_45 : decode cX2_takeBack 45 = .ok (.aload_n 0, 1) := by decide +kernel
theorem dX2_takeBack_46 : decode cX2_takeBack 46 = .ok (.iload_n 2, 1) := by decide +kernel
theorem dX2_takeBack_47 : decode cX2_takeBack 47 = .ok (.putfield 18, 3) := by decide +kernel
theorem dX2_takeBack_50 : decode cX2_takeBack 50 = .ok (.aload_n 3, 1) := by decide +kernel
theorem dX2_takeBack_51 : decode cX2_takeBack 51 = .ok (.areturn, 1) := by decide +kernel
theorem dX2_forgetAll_0 : decode cX2_forgetAll 0 = .ok (.aload_n 0, 1) := by decide +kernel
theorem dX2_forgetAll_1 : decode cX2_forgetAll 1 = .ok (.iconst 0, 1) := by decide +kernel
theorem dX2_forgetAll_2 : decode cX2_forgetAll 2 = .ok (.putfield 18, 3) := by decide +kernel
theorem dX2_forgetAll_5 : decode cX2_forgetAll 5 = .ok (.return_, 1) := by decide +kernel
theorem dX2_dropOldest_0 : decode cX2_dropOldest 0 = .ok (.aload_n 0, 1) := by decide +kernel
theorem dX2_dropOldest_1 : decode cX2_dropOldest 1 = .ok (.getfield 11, 3) := by decide +kernel
theorem dX2_dropOldest_4 : decode cX2_dropOldest 4 = .ok (.arraylength, 1) := by decide +kernel
theorem dX2_dropOldest_5 : decode cX2_dropOldest 5 = .ok (.ifCond .le 67, 3) := by decide +kernel
theorem dX2_dropOldest_8 : decode cX2_dropOldest 8 = .ok (.aload_n 0, 1) := by decide +kernel
theorem dX2_dropOldest_9 : decode cX2_dropOldest 9 = .ok (.getfield 11, 3) := by decide +kernel
theorem dX2_dropOldest_12 : decode cX2_dropOldest 12 = .ok (.iconst 0, 1) := by decide +kernel
theorem dX2_dropOldest_13 : decode cX2_dropOldest 13 = .ok (.aaload, 1) := by decide +kernel
theorem dX2_dropOldest_14 : decode cX2_dropOldest 14 = .ok (.astore_n 1, 1) := by decide +kernel
theorem dX2_dropOldest_15 : decode cX2_dropOldest 15 = .ok (.iconst 0, 1) := by decide +kernel
theorem dX2_dropOldest_16 : decode cX2_dropOldest 16 = .ok (.istore_n 2, 1) := by decide +kernel
theorem dX2_dropOldest_17 : decode cX2_dropOldest 17 = .ok (.iload_n 2, 1) := by decide +kernel
theorem dX2_dropOldest_18 : decode cX2_dropOldest 18 = .ok (.iconst 1, 1) := by decide +kernel
theorem dX2_dropOldest_19 : decode cX2_dropOldest 19 = .ok (.iadd, 1) := by decide +kernel
theorem dX2_dropOldest_20 : decode cX2_dropOldest 20 = .ok (.aload_n 0, 1) := by decide +kernel
theorem dX2_dropOldest_21 : decode cX2_dropOldest 21 = .ok (.getfield 11, 3) := by decide +kernel
theorem dX2_dropOldest_24 : decode cX2_dropOldest 24 = .ok (.arraylength, 1) := by decide +kernel
theorem dX2_dropOldest_25 : decode cX2_dropOldest 25 = .ok (.if_icmp .ge 23, 3) := by decide +kernel
theorem dX2_dropOldest_28 : decode cX2_dropOldest 28 = .ok (.aload_n 0, 1) := by decide +kernel
theorem dX2_dropOldest_29 : decode cX2_dropOldest 29 = .ok (.getfield 11, 3) := by decide +kernel
theorem dX2_dropOldest_32 : decode cX2_dropOldest 32 = .ok (.iload_n 2, 1) := by decide +kernel
theorem dX2_dropOldest_33 : decode cX2_dropOldest 33 = .ok (.aload_n 0, 1) := by decide +kernel
theorem dX2_dropOldest_34 : decode cX2_dropOldest 34 = .ok (.getfield 11, 3) := by decide +kernel
theorem dX2_dropOldest_37 : decode cX2_dropOldest 37 = .ok (.iload_n 2, 1) := by decide +kernel
theorem dX2_dropOldest_38 : decode cX2_dropOldest 38 = .ok (.iconst 1, 1) := by decide +kernel
theorem dX2_dropOldest_39 : decode cX2_dropOldest 39 = .ok (.iadd, 1) := by decide +kernel
theorem dX2_dropOldest_40 : decode cX2_dropOldest 40 = .ok (.aaload, 1) := by decide +kernel
theorem dX2_dropOldest_41 : decode cX2_dropOldest 41 = .ok (.aastore, 1) := by decide +kernel
theorem dX2_dropOldest_42 : decode cX2_dropOldest 42 = .ok (.iinc 2 1, 3) := by decide +kernel
theorem dX2_dropOldest_45 : decode cX2_dropOldest 45 = .ok (.goto (-28), 3) := by decide +kernel
theorem dX2_dropOldest_48 : decode cX2_dropOldest 48 = .ok (.aload_n 0, 1) := by decide +kernel
theorem dX2_dropOldest_49 : decode cX2_dropOldest 49 = .ok (.getfield 11, 3) := by decide +kernel
theorem dX2_dropOldest_52 : decode cX2_dropOldest 52 = .ok (.aload_n 0, 1) := by decide +kernel
theorem dX2_dropOldest_53 : decode cX2_dropOldest 53 = .ok (.getfield 11, 3) := by decide +kernel
theorem dX2_dropOldest_56 : decode cX2_dropOldest 56 = .ok (.arraylength, 1) := by decide +kernel
theorem dX2_dropOldest_57 : decode cX2_dropOldest 57 = .ok (.iconst 1, 1) := by decide +kernel
theorem dX2_dropOldest_58 : decode cX2_dropOldest 58 = .ok (.isub, 1) := by decide +kernel
theorem dX2_dropOldest_59 : decode cX2_dropOldest 59 = .ok (.aload_n 1, 1) := by decide +kernel
theorem dX2_dropOldest_60 : decode cX2_dropOldest 60 = .ok (.aastore, 1) := by decide +kernel
theorem dX2_dropOldest_61 : decode cX2_dropOldest 61 = .ok (.aload_n 0, 1) := by decide +kernel
theorem dX2_dropOldest_62 : decode cX2_dropOldest 62 = .ok (.aload_n 0, 1) := by decide +kernel
theorem dX2_dropOldest_63 : decode cX2_dropOldest 63 = .ok (.getfield 11, 3) := by decide +kernel
theorem dX2_dropOldest_66 : decode cX2_dropOldest 66 = .ok (.arraylength, 1) := by decide +kernel
theorem dX2_dropOldest_67 : decode cX2_dropOldest 67 = .ok (.iconst 1, 1) := by decide +kernel
theorem dX2_dropOldest_68 : decode cX2_dropOldest 68 = .ok (.isub, 1) := by decide +kernel
theorem dX2_dropOldest_69 : decode cX2_dropOldest 69 = .ok (.putfield 18, 3) := by decide +kernel
theorem dX2_dropOldest_72 : decode cX2_dropOldest 72 = .ok (.return_, 1) := by decide +kernel
theorem dX3_init_0 : decode cX3_init 0 = .ok (.aload_n 0, 1) := by decide +kernel
theorem dX3_init_1 : decode cX3_init 1 = .ok (.invokespecial 3, 3) := by decide +kernel
theorem dX3_init_4 : decode cX3_init 4 = .ok (.aload_n 0, 1) := by decide +kernel
theorem dX3_init_5 : decode cX3_init 5 = .ok (.new 9, 3) := by decide +kernel
theorem dX3_init_8 : decode cX3_init 8 = .ok (.dup, 1) := by decide +kernel
theorem dX3_init_9 : decode cX3_init 9 = .ok (.bipush 8, 2) := by decide +kernel
theorem dX3_init_11 : decode cX3_init 11 = .ok (.invokespecial 11, 3) := by decide +kernel
theorem dX3_init_14 : decode cX3_init 14 = .ok (.putfield 14, 3) := by decide +kernel
theorem dX3_init_17 : decode cX3_init 17 = .ok (.aload_n 0, 1) := by decide +kernel
theorem dX3_init_18 : decode cX3_init 18 = .ok (.new 9, 3) := by decide +kernel
theorem dX3_init_21 : decode cX3_init 21 = .ok (.dup, 1) := by decide +kernel
theorem dX3_init_22 : decode cX3_init 22 = .ok (.bipush 8, 2) := by decide +kernel
theorem dX3_init_24 : decode cX3_init 24 = .ok (.invokespecial 11, 3) := by decide +kernel
theorem dX3_init_27 : decode cX3_init 27 = .ok (.putfield 20, 3) := by decide +kernel
theorem dX3_init_30 : decode cX3_init 30 = .ok (.aload_n 0, 1) := by decide +kernel
theorem dX3_init_31 : decode cX3_init 31 = .ok (.new 9, 3) := by decide +kernel
theorem dX3_init_34 : decode cX3_init 34 = .ok (.dup, 1) := by decide +kernel
theorem dX3_init_35 : decode cX3_init 35 = .ok (.bipush 8, 2) := by decide +kernel
theorem dX3_init_37 : decode cX3_init 37 = .ok (.invokespecial 11, 3) := by decide +kernel
theorem dX3_init_40 : decode cX3_init 40 = .ok (.putfield 23, 3) := by decide +kernel
theorem dX3_init_43 : decode cX3_init 43 = .ok (.return_, 1) := by decide +kernel
theorem dX3_add_0 : decode cX3_add 0 = .ok (.aload_n 0, 1) := by decide +kernel
theorem dX3_add_1 : decode cX3_add 1 = .ok (.getfield 14, 3) := by decide +kernel
theorem dX3_add_4 : decode cX3_add 4 = .ok (.iload_n 1, 1) := by decide +kernel
theorem dX3_add_5 : decode cX3_add 5 = .ok (.i2l, 1) := by decide +kernel
theorem dX3_add_6 : decode cX3_add 6 = .ok (.invokevirtual 26, 3) := by decide +kernel
theorem dX3_add_9 : decode cX3_add 9 = .ok (.aload_n 0, 1) := by decide +kernel
theorem dX3_add_10 : decode cX3_add 10 = .ok (.getfield 20, 3) := by decide +kernel
theorem dX3_add_13 : decode cX3_add 13 = .ok (.iload_n 2, 1) := by decide +kernel
theorem dX3_add_14 : decode cX3_add 14 = .ok (.i2l, 1) := by decide +kernel
theorem dX3_add_15 : decode cX3_add 15 = .ok (.invokevirtual 26, 3) := by decide +kernel
theorem dX3_add_18 : decode cX3_add 18 = .ok (.aload_n 0, 1) := by decide +kernel
theorem dX3_add_19 : decode cX3_add 19 = .ok (.getfield 23, 3) := by decide +kernel
theorem dX3_add_22 : decode cX3_add 22 = .ok (.lload_n 3, 1) := by decide +kernel
theorem dX3_add_23 : decode cX3_add 23 = .ok (.invokevirtual 26, 3) := by decide +kernel
theorem dX3_add_26 : decode cX3_add 26 = .ok (.return_, 1) := by decide +kernel
theorem dX3_wantsMiss_0 : decode cX3_wantsMiss 0 = .ok (.aload_n 0, 1) := by decide +kernel
theorem dX3_wantsMiss_1 : decode cX3_wantsMiss 1 = .ok (.getfield 14, 3) := by decide +kernel
theorem dX3_wantsMiss_4 : decode cX3_wantsMiss 4 = .ok (.invokevirtual 30, 3) := by decide +kernel
theorem dX3_wantsMiss_7 : decode cX3_wantsMiss 7 = .ok (.ifCond .eq 14, 3) := by decide +kernel
theorem dX3_wantsMiss_10 : decode cX3_wantsMiss 10 = .ok (.aload_n 0, 1) := by decide +kernel
theorem dX3_wantsMiss_11 : decode cX3_wantsMiss 11 = .ok (.getfield 14, 3) := by decide +kernel
theorem dX3_wantsMiss_14 : decode cX3_wantsMiss 14 = .ok (.iconst 0, 1) := by decide +kernel
theorem dX3_wantsMiss_15 : decode cX3_wantsMiss 15 = .ok (.invokevirtual 34, 3) := by decide +kernel
theorem dX3_wantsMiss_18 : decode cX3_wantsMiss 18 = .ok (.ifCond .ne 7, 3) := by decide +kernel
theorem dX3_wantsMiss_21 : decode cX3_wantsMiss 21 = .ok (.iconst 1, 1) := by decide +kernel
theorem dX3_wantsMiss_22 : decode cX3_wantsMiss 22 = .ok (.goto 4, 3) := by decide +kernel
theorem dX3_wantsMiss_25 : decode cX3_wantsMiss 25 = .ok (.iconst 0, 1) := by decide +kernel
theorem dX3_wantsMiss_26 : decode cX3_wantsMiss 26 = .ok (.ireturn, 1) := by decide +kernel
theorem dX3_markEventFrom_0 : decode cX3_markEventFrom 0 = .ok (.iload_n 1, 1) := by decide +kernel
theorem dX3_markEventFrom_1 : decode cX3_markEventFrom 1 = .ok (.istore_n 2, 1) := by decide +kernel
theorem dX3_markEventFrom_2 : decode cX3_markEventFrom 2 = .ok (.iload_n 2, 1) := by decide +kernel
theorem dX3_markEventFrom_3 : decode cX3_markEventFrom 3 = .ok (.aload_n 0, 1) := by decide +kernel
theorem dX3_markEventFrom_4 : decode cX3_markEventFrom 4 = .ok (.getfield 14, 3) := by decide +kernel
theorem dX3_markEventFrom_7 : decode cX3_markEventFrom 7 = .ok (.invokevirtual 30, 3) := by decide +kernel
theorem dX3_markEventFrom_10 : decode cX3_markEventFrom 10 = .ok (.if_icmp .ge 22, 3) := by decide +kernel
theorem dX3_markEventFrom_13 : decode cX3_markEventFrom 13 = .ok (.aload_n 0, 1) := by decide +kernel
theorem dX3_markEventFrom_14 : decode cX3_markEventFrom 14 = .ok (.getfield 14, 3) := by decide +kernel
theorem dX3_markEventFrom_17 : decode cX3_markEventFrom 17 = .ok (.iload_n 2, 1) := by decide +kernel
theorem dX3_markEventFrom_18 : decode cX3_markEventFrom 18 = .ok (.invokevirtual 34, 3) := by decide +kernel
theorem dX3_markEventFrom_21 : decode cX3_markEventFrom 21 = .ok (.ifCond .ne 5, 3) := by decide +kernel
theorem dX3_markEventFrom_24 : decode cX3_markEventFrom 24 = .ok (.iload_n 2, 1) := by decide +kernel
theorem dX3_markEventFrom_25 : decode cX3_markEventFrom 25 = .ok (.ireturn, 1) := by decide +kernel
theorem dX3_markEventFrom_26 : decode cX3_markEventFrom 26 = .ok (.iinc 2 1, 3) := by decide +kernel
theorem dX3_markEventFrom_29 : decode cX3_markEventFrom 29 = .ok (.goto (-27), 3) := by decide +kernel
theorem dX3_markEventFrom_32 : decode cX3_markEventFrom 32 = .ok (.bipush (-4), 2) := by decide +kernel
theorem dX3_markEventFrom_34 : decode cX3_markEventFrom 34 = .ok (.ireturn, 1) := by decide +kernel
theorem dX3_clear_0 : decode cX3_clear 0 = .ok (.aload_n 0, 1) := by decide +kernel
theorem dX3_clear_1 : decode cX3_clear 1 = .ok (.getfield 14, 3) := by decide +kernel
theorem dX3_clear_4 : decode cX3_clear 4 = .ok (.invokevirtual 38, 3) := by decide +kernel
theorem dX3_clear_7 : decode cX3_clear 7 = .ok (.aload_n 0, 1) := by decide +kernel
theorem dX3_clear_8 : decode cX3_clear 8 = .ok (.getfield 20, 3) := by decide +kernel
theorem dX3_clear_11 : decode cX3_clear 11 = .ok (.invokevirtual 38, 3) := by decide +kernel
theorem dX3_clear_14 : decode cX3_clear 14 = .ok (.aload_n 0, 1) := by decide +kernel
theorem dX3_clear_15 : decode cX3_clear 15 = .ok (.getfield 23, 3) := by decide +kernel
theorem dX3_clear_18 : decode cX3_clear 18 = .ok (.invokevirtual 38, 3) := by decide +kernel
theorem dX3_clear_21 : decode cX3_clear 21 = .ok (.return_, 1) := by decide +kernel
theorem dX3_copyFrom_0 : decode cX3_copyFrom 0 = .ok (.aload_n 0, 1) := by decide +kernel
theorem dX3_copyFrom_1 : decode cX3_copyFrom 1 = .ok (.getfield 14, 3) := by decide +kernel
theorem dX3_copyFrom_4 : decode cX3_copyFrom 4 = .ok (.aload_n 1, 1) := by decide +kernel
theorem dX3_copyFrom_5 : decode cX3_copyFrom 5 = .ok (.getfield 14, 3) := by decide +kernel
theorem dX3_copyFrom_8 : decode cX3_copyFrom 8 = .ok (.invokevirtual 41, 3) := by decide +kernel
theorem dX3_copyFrom_11 : decode cX3_copyFrom 11 = .ok (.aload_n 0, 1) := by decide +kernel
theorem dX3_copyFrom_12 : decode cX3_copyFrom 12 = .ok (.getfield 20, 3) := by decide +kernel
theorem dX3_copyFrom_15 : decode cX3_copyFrom 15 = .ok (.aload_n 1, 1) := by decide +kernel
theorem dX3_copyFrom_16 : decode cX3_copyFrom 16 = .ok (.getfield 20, 3) := by decide +kernel
theorem dX3_copyFrom_19 : decode cX3_copyFrom 19 = .ok (.invokevirtual 41, 3) := by decide +kernel
theorem dX3_copyFrom_22 : decode cX3_copyFrom 22 = .ok (.aload_n 0, 1) := by decide +kernel
theorem dX3_copyFrom_23 : decode cX3_copyFrom 23 = .ok (.getfield 23, 3) := by decide +kernel
theorem dX3_copyFrom_26 : decode cX3_copyFrom 26 = .ok (.aload_n 1, 1) := by decide +kernel
theorem dX3_copyFrom_27 : decode cX3_copyFrom 27 = .ok (.getfield 23, 3) := by decide +kernel
theorem dX3_copyFrom_30 : decode cX3_copyFrom 30 = .ok (.invokevirtual 41, 3) := by decide +kernel
theorem dX3_copyFrom_33 : decode cX3_copyFrom 33 = .ok (.return_, 1) := by decide +kernel
theorem dX4_init_0 : decode cX4_init 0 = .ok (.aload_n 0, 1) := by decide +kernel
theorem dX4_init_1 : decode cX4_init 1 = .ok (.invokespecial 1, 3) := by decide +kernel
theorem dX4_init_4 : decode cX4_init 4 = .ok (.aload_n 0, 1) := by decide +kernel
theorem dX4_init_5 : decode cX4_init 5 = .ok (.iload_n 1, 1) := by decide +kernel
theorem dX4_init_6 : decode cX4_init 6 = .ok (.iconst 1, 1) := by decide +kernel
theorem dX4_init_7 : decode cX4_init 7 = .ok (.invokestatic 7, 3) := by decide +kernel
theorem dX4_init_10 : decode cX4_init 10 = .ok (.newarray .long, 2) := by decide +kernel
theorem dX4_init_12 : decode cX4_init 12 = .ok (.putfield 13, 3) := by decide +kernel
theorem dX4_init_15 : decode cX4_init 15 = .ok (.return_, 1) := by decide +kernel
theorem dX4_size_0 : decode cX4_size 0 = .ok (.aload_n 0, 1) := by decide +kernel
theorem dX4_size_1 : decode cX4_size 1 = .ok (.getfield 19, 3) := by decide +kernel
theorem dX4_size_4 : decode cX4_size 4 = .ok (.ireturn, 1) := by decide +kernel
theorem dX4_isFull_0 : decode cX4_isFull 0 = .ok (.aload_n 0, 1) := by decide +kernel
theorem dX4_isFull_1 : decode cX4_isFull 1 = .ok (.getfield 19, 3) := by decide +kernel
theorem dX4_isFull_4 : decode cX4_isFull 4 = .ok (.aload_n 0, 1) := by decide +kernel
theorem dX4_isFull_5 : decode cX4_isFull 5 = .ok (.getfield 13, 3) := by decide +kernel
theorem dX4_isFull_8 : decode cX4_isFull 8 = .ok (.arraylength, 1) := by decide +kernel
theorem dX4_isFull_9 : decode cX4_isFull 9 = .ok (.if_icmp .lt 7, 3) := by decide +kernel
theorem dX4_isFull_12 : decode cX4_isFull 12 = .ok (.iconst 1, 1) := by decide +kernel
theorem dX4_isFull_13 : decode cX4_isFull 13 = .ok (.goto 4, 3) := by decide +kernel
theorem dX4_isFull_16 : decode cX4_isFull 16 = .ok (.iconst 0, 1) := by decide +kernel
theorem dX4_isFull_17 : decode cX4_isFull 17 = .ok (.ireturn, 1) := by decide +kernel
theorem dX4_has_0 : decode cX4_has 0 = .ok (.iload_n 1, 1) := by decide +kernel
theorem dX4_has_1 : decode cX4_has 1 = .ok (.ifCond .lt 24, 3) := by decide +kernel
theorem dX4_has_4 : decode cX4_has 4 = .ok (.iload_n 1, 1) := by decide +kernel
theorem dX4_has_5 : decode cX4_has 5 = .ok (.aload_n 0, 1) := by decide +kernel
theorem dX4_has_6 : decode cX4_has 6 = .ok (.getfield 19, 3) := by decide +kernel
theorem dX4_has_9 : decode cX4_has 9 = .ok (.if_icmp .ge 16, 3) := by decide +kernel
theorem dX4_has_12 : decode cX4_has 12 = .ok (.iload_n 1, 1) := by decide +kernel
theorem dX4_has_13 : decode cX4_has 13 = .ok (.aload_n 0, 1) := by decide +kernel
theorem dX4_has_14 : decode cX4_has 14 = .ok (.getfield 13, 3) := by decide +kernel
theorem dX4_has_17 : decode cX4_has 17 = .ok (.arraylength, 1) := by decide +kernel
theorem dX4_has_18 : decode cX4_has 18 = .ok (.if_icmp .ge 7, 3) := by decide +kernel
theorem dX4_has_21 : decode cX4_has 21 = .ok (.iconst 1, 1) := by decide +kernel
theorem dX4_has_22 : decode cX4_has 22 = .ok (.goto 4, 3) := by decide +kernel
theorem dX4_has_25 : decode cX4_has 25 = .ok (.iconst 0, 1) := by decide +kernel
theorem dX4_has_26 : decode cX4_has 26 = .ok (.ireturn, 1) := by decide +kernel
theorem dX4_longAt_0 : decode cX4_longAt 0 = .ok (.aload_n 0, 1) := by decide +kernel
theorem dX4_longAt_1 : decode cX4_longAt 1 = .ok (.iload_n 1, 1) := by decide +kernel
theorem dX4_longAt_2 : decode cX4_longAt 2 = .ok (.invokevirtual 23, 3) := by decide +kernel
theorem dX4_longAt_5 : decode cX4_longAt 5 = .ok (.ifCond .eq 12, 3) := by decide +kernel
theorem dX4_longAt_8 : decode cX4_longAt 8 = .ok (.aload_n 0, 1) := by decide +kernel
theorem dX4_longAt_9 : decode cX4_longAt 9 = .ok (.getfield 13, 3) := by decide +kernel
theorem dX4_longAt_12 : decode cX4_longAt 12 = .ok (.iload_n 1, 1) := by decide +kernel
theorem dX4_longAt_13 : decode cX4_longAt 13 = .ok (.laload, 1) := by decide +kernel
theorem dX4_longAt_14 : decode cX4_longAt 14 = .ok (.goto 4, 3) := by decide +kernel
theorem dX4_longAt_17 : decode cX4_longAt 17 = .ok (.lconst 0, 1) := by decide +kernel
theorem dX4_longAt_18 : decode cX4_longAt 18 = .ok (.lreturn, 1) := by decide +kernel
theorem dX4_intAt_0 : decode cX4_intAt 0 = .ok (.aload_n 0, 1) := by decide +kernel
theorem dX4_intAt_1 : decode cX4_intAt 1 = .ok (.iload_n 1, 1) := by decide +kernel
theorem dX4_intAt_2 : decode cX4_intAt 2 = .ok (.invokevirtual 27, 3) := by decide +kernel
theorem dX4_intAt_5 : decode cX4_intAt 5 = .ok (.l2i, 1) := by decide +kernel
theorem dX4_intAt_6 : decode cX4_intAt 6 = .ok (.ireturn, 1) := by decide +kernel
theorem dX4_add_0 : decode cX4_add 0 = .ok (.aload_n 0, 1) := by decide +kernel
theorem dX4_add_1 : decode cX4_add 1 = .ok (.getfield 19, 3) := by decide +kernel
theorem dX4_add_4 : decode cX4_add 4 = .ok (.ifCond .lt 35, 3) := by decide +kernel
theorem dX4_add_7 : decode cX4_add 7 = .ok (.aload_n 0, 1) := by decide +kernel
theorem dX4_add_8 : decode cX4_add 8 = .ok (.getfield 19, 3) := by decide +kernel
theorem dX4_add_11 : decode cX4_add 11 = .ok (.aload_n 0, 1) := by decide +kernel
theorem dX4_add_12 : decode cX4_add 12 = .ok (.getfield 13, 3) := by decide +kernel
theorem dX4_add_15 : decode cX4_add 15 = .ok (.arraylength, 1) := by decide +kernel
theorem dX4_add_16 : decode cX4_add 16 = .ok (.if_icmp .ge 23, 3) := by decide +kernel
theorem dX4_add_19 : decode cX4_add 19 = .ok (.aload_n 0, 1) := by decide +kernel
theorem dX4_add_20 : decode cX4_add 20 = .ok (.getfield 13, 3) := by decide +kernel
theorem dX4_add_23 : decode cX4_add 23 = .ok (.aload_n 0, 1) := by decide +kernel
theorem dX4_add_24 : decode cX4_add 24 = .ok (.getfield 19, 3) := by decide +kernel
theorem dX4_add_27 : decode cX4_add 27 = .ok (.lload_n 1, 1) := by decide +kernel
theorem dX4_add_28 : decode cX4_add 28 = .ok (.lastore, 1) := by decide +kernel
theorem dX4_add_29 : decode cX4_add 29 = .ok (.aload_n 0, 1) := by decide +kernel
theorem dX4_add_30 : decode cX4_add 30 = .ok (.dup, 1) := by decide +kernel
theorem dX4_add_31 : decode cX4_add 31 = .ok (.getfield 19, 3) := by decide +kernel
theorem dX4_add_34 : decode cX4_add 34 = .ok (.iconst 1, 1) := by decide +kernel
theorem dX4_add_35 : decode cX4_add 35 = .ok (.iadd, 1) := by decide +kernel
theorem dX4_add_36 : decode cX4_add 36 = .ok (.putfield 19, 3) := by decide +kernel
theorem dX4_add_39 : decode cX4_add 39 = .ok (.return_, 1) := by decide +kernel
theorem dX4_addFirst_0 : decode cX4_addFirst 0 = .ok (.aload_n 0, 1) := by decide +kernel
theorem dX4_addFirst_1 : decode cX4_addFirst 1 = .ok (.getfield 19, 3) := by decide +kernel
theorem dX4_addFirst_4 : decode cX4_addFirst 4 = .ok (.aload_n 0, 1) := by decide +kernel
theorem dX4_addFirst_5 : decode cX4_addFirst 5 = .ok (.getfield 13, 3) := by decide +kernel
theorem dX4_addFirst_8 : decode cX4_addFirst 8 = .ok (.arraylength, 1) := by decide +kernel
theorem dX4_addFirst_9 : decode cX4_addFirst 9 = .ok (.if_icmp .ge 13, 3) := by decide +kernel
theorem dX4_addFirst_12 : decode cX4_addFirst 12 = .ok (.aload_n 0, 1) := by decide +kernel
theorem dX4_addFirst_13 : decode cX4_addFirst 13 = .ok (.dup, 1) := by decide +kernel
theorem dX4_addFirst_14 : decode cX4_addFirst 14 = .ok (.getfield 19, 3) := by decide +kernel
theorem dX4_addFirst_17 : decode cX4_addFirst 17 = .ok (.iconst 1, 1) := by decide +kernel
theorem dX4_addFirst_18 : decode cX4_addFirst 18 = .ok (.iadd, 1) := by decide +kernel
theorem dX4_addFirst_19 : decode cX4_addFirst 19 = .ok (.putfield 19, 3) := by decide +kernel
theorem dX4_addFirst_22 : decode cX4_addFirst 22 = .ok (.aload_n 0, 1) := by decide +kernel
theorem dX4_addFirst_23 : decode cX4_addFirst 23 = .ok (.getfield 13, 3) := by decide +kernel
theorem dX4_addFirst_26 : decode cX4_addFirst 26 = .ok (.arraylength, 1) := by decide +kernel
theorem dX4_addFirst_27 : decode cX4_addFirst 27 = .ok (.iconst 1, 1) := by decide +kernel
theorem dX4_addFirst_28 : decode cX4_addFirst 28 = .ok (.isub, 1) := by decide +kernel
theorem dX4_addFirst_29 : decode cX4_addFirst 29 = .ok (.istore_n 3, 1) := by decide +kernel
theorem dX4_addFirst_30 : decode cX4_addFirst 30 = .ok (.iload_n 3, 1) := by decide +kernel
theorem dX4_addFirst_31 : decode cX4_addFirst 31 = .ok (.ifCond .le 23, 3) := by decide +kernel
theorem dX4_addFirst_34 : decode cX4_addFirst 34 = .ok (.aload_n 0, 1) := by decide +kernel
theorem dX4_addFirst_35 : decode cX4_addFirst 35 = .ok (.getfield 13, 3) := by decide +kernel
theorem dX4_addFirst_38 : decode cX4_addFirst 38 = .ok (.iload_n 3, 1) := by decide +kernel
theorem dX4_addFirst_39 : decode cX4_addFirst 39 = .ok (.aload_n 0, 1) := by decide +kernel
theorem dX4_addFirst_40 : decode cX4_addFirst 40 = .ok (.getfield 13, 3) := by decide +kernel
theorem dX4_addFirst_43 : decode cX4_addFirst 43 = .ok (.iload_n 3, 1) := by decide +kernel
theorem dX4_addFirst_44 : decode cX4_addFirst 44 = .ok (.iconst 1, 1) := by decide +kernel
theorem dX4_addFirst_45 : decode cX4_addFirst 45 = .ok (.isub, 1) := by decide +kernel
theorem dX4_addFirst_46 : decode cX4_addFirst 46 = .ok (.laload, 1) := by decide +kernel
theorem dX4_addFirst_47 : decode cX4_addFirst 47 = .ok (.lastore, 1) := by decide +kernel
theorem dX4_addFirst_48 : decode cX4_addFirst 48 = .ok (.iinc 3 (-1), 3) := by decide +kernel
theorem dX4_addFirst_51 : decode cX4_addFirst 51 = .ok (.goto (-21), 3) := by decide +kernel
theorem dX4_addFirst_54 : decode cX4_addFirst 54 = .ok (.aload_n 0, 1) := by decide +kernel
theorem dX4_addFirst_55 : decode cX4_addFirst 55 = .ok (.getfield 13, 3) := by decide +kernel
theorem dX4_addFirst_58 : decode cX4_addFirst 58 = .ok (.arraylength, 1) := by decide +kernel
theorem dX4_addFirst_59 : decode cX4_addFirst 59 = .ok (.ifCond .le 10, 3) := by decide +kernel
theorem dX4_addFirst_62 : decode cX4_addFirst 62 = .ok (.aload_n 0, 1) := by decide +kernel
theorem dX4_addFirst_63 : decode cX4_addFirst 63 = .ok (.getfield 13, 3) := by decide +kernel
theorem dX4_addFirst_66 : decode cX4_addFirst 66 = .ok (.iconst 0, 1) := by decide +kernel
theorem dX4_addFirst_67 : decode cX4_addFirst 67 = .ok (.lload_n 1, 1) := by decide +kernel
theorem dX4_addFirst_68 : decode cX4_addFirst 68 = .ok (.lastore, 1) := by decide +kernel
theorem dX4_addFirst_69 : decode cX4_addFirst 69 = .ok (.return_, 1) := by decide +kernel
theorem dX4_removeAt_0 : decode cX4_removeAt 0 = .ok (.aload_n 0, 1) := by decide +kernel
theorem dX4_removeAt_1 : decode cX4_removeAt 1 = .ok (.iload_n 1, 1) := by decide +kernel
theorem dX4_removeAt_2 : decode cX4_removeAt 2 = .ok (.invokevirtual 23, 3) := by decide +kernel
theorem dX4_removeAt_5 : decode cX4_removeAt 5 = .ok (.ifCond .eq 46, 3) := by decide +kernel
theorem dX4_removeAt_8 : decode cX4_removeAt 8 = .ok (.iload_n 1, 1) := by decide +kernel
theorem dX4_removeAt_9 : decode cX4_removeAt 9 = .ok (.istore_n 2, 1) := by decide +kernel
theorem dX4_removeAt_10 : decode cX4_removeAt 10 = .ok (.iload_n 2, 1) := by decide +kernel
theorem dX4_removeAt_11 : decode cX4_removeAt 11 = .ok (.iconst 1, 1) := by decide +kernel
theorem dX4_removeAt_12 : decode cX4_removeAt 12 = .ok (.iadd, 1) := by decide +kernel
theorem dX4_removeAt_13 : decode cX4_removeAt 13 = .ok (.aload_n 0, 1) := by decide +kernel
theorem dX4_removeAt_14 : decode cX4_removeAt 14 = .ok (.getfield 13, 3) := by decide +kernel
theorem dX4_removeAt_17 : decode cX4_removeAt 17 = .ok (.arraylength, 1) := by decide +kernel
theorem dX4_removeAt_18 : decode cX4_removeAt 18 = .ok (.if_icmp .ge 23, 3) := by decide +kernel
theorem dX4_removeAt_21 : decode cX4_removeAt 21 = .ok (.aload_n 0, 1) := by decide +kernel
theorem dX4_removeAt_22 : decode cX4_removeAt 22 = .ok (.getfield 13, 3) := by decide +kernel
theorem dX4_removeAt_25 : decode cX4_removeAt 25 = .ok (.iload_n 2, 1) := by decide +kernel
theorem dX4_removeAt_26 : decode cX4_removeAt 26 = .ok (.aload_n 0, 1) := by decide +kernel
theorem dX4_removeAt_27 : decode cX4_removeAt 27 = .ok (.getfield 13, 3) := by decide +kernel
theorem dX4_removeAt_30 : decode cX4_removeAt 30 = .ok (.iload_n 2, 1) := by decide +kernel
theorem dX4_removeAt_31 : decode cX4_removeAt 31 = .ok (.iconst 1, 1) := by decide +kernel
theorem dX4_removeAt_32 : decode cX4_removeAt 32 = .ok (.iadd, 1) := by decide +kernel
theorem dX4_removeAt_33 : decode cX4_removeAt 33 = .ok (.laload, 1) := by decide +kernel
theorem dX4_removeAt_34 : decode cX4_removeAt 34 = .ok (.lastore, 1) := by decide +kernel
theorem dX4_removeAt_35 : decode cX4_removeAt 35 = .ok (.iinc 2 1, 3) := by decide +kernel
theorem dX4_removeAt_38 : decode cX4_removeAt 38 = .ok (.goto (-28), 3) := by decide +kernel
theorem dX4_removeAt_41 : decode cX4_removeAt 41 = .ok (.aload_n 0, 1) := by decide +kernel
theorem dX4_removeAt_42 : decode cX4_removeAt 42 = .ok (.dup, 1) := by decide +kernel
theorem dX4_removeAt_43 : decode cX4_removeAt 43 = .ok (.getfield 19, 3) := by decide +kernel
theorem dX4_removeAt_46 : decode cX4_removeAt 46 = .ok (.iconst 1, 1) := by decide +kernel
theorem dX4_removeAt_47 : decode cX4_removeAt 47 = .ok (.isub, 1) := by decide +kernel
theorem dX4_removeAt_48 : decode cX4_removeAt 48 = .ok (.putfield 19, 3) := by decide +kernel
theorem dX4_removeAt_51 : decode cX4_removeAt 51 = .ok (.return_, 1) := by decide +kernel
theorem dX4_clear_0 : decode cX4_clear 0 = .ok (.aload_n 0, 1) := by decide +kernel
theorem dX4_clear_1 : decode cX4_clear 1 = .ok (.iconst 0, 1) := by decide +kernel
theorem dX4_clear_2 : decode cX4_clear 2 = .ok (.putfield 19, 3) := by decide +kernel
theorem dX4_clear_5 : decode cX4_clear 5 = .ok (.return_, 1) := by decide +kernel
theorem dX4_copyFrom_0 : decode cX4_copyFrom 0 = .ok (.aload_n 0, 1) := by decide +kernel
theorem dX4_copyFrom_1 : decode cX4_copyFrom 1 = .ok (.iconst 0, 1) := by decide +kernel
theorem dX4_copyFrom_2 : decode cX4_copyFrom 2 = .ok (.putfield 19, 3) := by decide +kernel
theorem dX4_copyFrom_5 : decode cX4_copyFrom 5 = .ok (.iconst 0, 1) := by decide +kernel
theorem dX4_copyFrom_6 : decode cX4_copyFrom 6 = .ok (.istore_n 2, 1) := by decide +kernel
theorem dX4_copyFrom_7 : decode cX4_copyFrom 7 = .ok (.iload_n 2, 1) := by decide +kernel
theorem dX4_copyFrom_8 : decode cX4_copyFrom 8 = .ok (.aload_n 1, 1) := by decide +kernel
theorem dX4_copyFrom_9 : decode cX4_copyFrom 9 = .ok (.getfield 19, 3) := by decide +kernel
theorem dX4_copyFrom_12 : decode cX4_copyFrom 12 = .ok (.if_icmp .ge 18, 3) := by decide +kernel
theorem dX4_copyFrom_15 : decode cX4_copyFrom 15 = .ok (.aload_n 0, 1) := by decide +kernel
theorem dX4_copyFrom_16 : decode cX4_copyFrom 16 = .ok (.aload_n 1, 1) := by decide +kernel
theorem dX4_copyFrom_17 : decode cX4_copyFrom 17 = .ok (.iload_n 2, 1) := by decide +kernel
theorem dX4_copyFrom_18 : decode cX4_copyFrom 18 = .ok (.invokevirtual 27, 3) := by decide +kernel
theorem dX4_copyFrom_21 : decode cX4_copyFrom 21 = .ok (.invokevirtual 31, 3) := by decide +kernel
theorem dX4_copyFrom_24 : decode cX4_copyFrom 24 = .ok (.iinc 2 1, 3) := by decide +kernel
theorem dX4_copyFrom_27 : decode cX4_copyFrom 27 = .ok (.goto (-20), 3) := by decide +kernel
theorem dX4_copyFrom_30 : decode cX4_copyFrom 30 = .ok (.return_, 1) := by decide +kernel
theorem dX5_init_0 : decode cX5_init 0 = .ok (.aload_n 0, 1) := by decide +kernel
theorem dX5_init_1 : decode cX5_init 1 = .ok (.invokespecial 3, 3) := by decide +kernel
theorem dX5_init_4 : decode cX5_init 4 = .ok (.aload_n 0, 1) := by decide +kernel
theorem dX5_init_5 : decode cX5_init 5 = .ok (.new 9, 3) := by decide +kernel
theorem dX5_init_8 : decode cX5_init 8 = .ok (.dup, 1) := by decide +kernel
theorem dX5_init_9 : decode cX5_init 9 = .ok (.bipush 6, 2) := by decide +kernel
theorem dX5_init_11 : decode cX5_init 11 = .ok (.invokespecial 11, 3) := by decide +kernel
theorem dX5_init_14 : decode cX5_init 14 = .ok (.putfield 14, 3) := by decide +kernel
theorem dX5_init_17 : decode cX5_init 17 = .ok (.aload_n 0, 1) := by decide +kernel
theorem dX5_init_18 : decode cX5_init 18 = .ok (.new 20, 3) := by decide +kernel
theorem dX5_init_21 : decode cX5_init 21 = .ok (.dup, 1) := by decide +kernel
theorem dX5_init_22 : decode cX5_init 22 = .ok (.invokespecial 22, 3) := by decide +kernel
theorem dX5_init_25 : decode cX5_init 25 = .ok (.putfield 23, 3) := by decide +kernel
theorem dX5_init_28 : decode cX5_init 28 = .ok (.return_, 1) := by decide +kernel
theorem dX5_reset_0 : decode cX5_reset 0 = .ok (.aload_n 0, 1) := by decide +kernel
theorem dX5_reset_1 : decode cX5_reset 1 = .ok (.getfield 14, 3) := by decide +kernel
theorem dX5_reset_4 : decode cX5_reset 4 = .ok (.invokevirtual 27, 3) := by decide +kernel
theorem dX5_reset_7 : decode cX5_reset 7 = .ok (.aload_n 0, 1) := by decide +kernel
theorem dX5_reset_8 : decode cX5_reset 8 = .ok (.getfield 23, 3) := by decide +kernel
theorem dX5_reset_11 : decode cX5_reset 11 = .ok (.invokevirtual 30, 3) := by decide +kernel
theorem dX5_reset_14 : decode cX5_reset 14 = .ok (.aload_n 0, 1) := by decide +kernel
theorem dX5_reset_15 : decode cX5_reset 15 = .ok (.iconst 0, 1) := by decide +kernel
theorem dX5_reset_16 : decode cX5_reset 16 = .ok (.putfield 31, 3) := by decide +kernel
theorem dX5_reset_19 : decode cX5_reset 19 = .ok (.aload_n 0, 1) := by decide +kernel
theorem dX5_reset_20 : decode cX5_reset 20 = .ok (.bipush 22, 2) := by decide +kernel
theorem dX5_reset_22 : decode cX5_reset 22 = .ok (.putfield 35, 3) := by decide +kernel
theorem dX5_reset_25 : decode cX5_reset 25 = .ok (.aload_n 0, 1) := by decide +kernel
theorem dX5_reset_26 : decode cX5_reset 26 = .ok (.iconst 0, 1) := by decide +kernel
theorem dX5_reset_27 : decode cX5_reset 27 = .ok (.putfield 38, 3) := by decide +kernel
theorem dX5_reset_30 : decode cX5_reset 30 = .ok (.aload_n 0, 1) := by decide +kernel
theorem dX5_reset_31 : decode cX5_reset 31 = .ok (.iconst 4, 1) := by decide +kernel
theorem dX5_reset_32 : decode cX5_reset 32 = .ok (.putfield 41, 3) := by decide +kernel
theorem dX5_reset_35 : decode cX5_reset 35 = .ok (.return_, 1) := by decide +kernel
theorem dX5_take_0 : decode cX5_take 0 = .ok (.iload_n 1, 1) := by decide +kernel
theorem dX5_take_1 : decode cX5_take 1 = .ok (.tableswitch 124 100 114 #[117, 124, 124, 124, 124, 85, 124, 124, 124, 101, 124, 124, 75, 124, 111], 75) := by decide +kernel
theorem dX5_take_76 : decode cX5_take 76 = .ok (.aload_n 0, 1) := by decide +kernel
theorem dX5_take_77 : decode cX5_take 77 = .ok (.iload_n 2, 1) := by decide +kernel
theorem dX5_take_78 : decode cX5_take 78 = .ok (.putfield 31, 3) := by decide +kernel
theorem dX5_take_81 : decode cX5_take 81 = .ok (.iload_n 2, 1) := by decide +kernel
theorem dX5_take_82 : decode cX5_take 82 = .ok (.invokestatic 44, 3) := by decide +kernel
theorem dX5_take_85 : decode cX5_take 85 = .ok (.ireturn, 1) := by decide +kernel
theorem dX5_take_86 : decode cX5_take 86 = .ok (.aload_n 0, 1) := by decide +kernel
theorem dX5_take_87 : decode cX5_take 87 = .ok (.iload_n 2, 1) := by decide +kernel
theorem dX5_take_88 : decode cX5_take 88 = .ok (.putfield 35, 3) := by decide +kernel
theorem dX5_take_91 : decode cX5_take 91 = .ok (.aload_n 0, 1) := by decide +kernel
theorem dX5_take_92 : decode cX5_take 92 = .ok (.iload_n 3, 1) := by decide +kernel
theorem dX5_take_93 : decode cX5_take 93 = .ok (.putfield 38, 3) := by decide +kernel
theorem dX5_take_96 : decode cX5_take 96 = .ok (.iload_n 2, 1) := by decide +kernel
theorem dX5_take_97 : decode cX5_take 97 = .ok (.iload_n 3, 1) := by decide +kernel
theorem dX5_take_98 : decode cX5_take 98 = .ok (.invokestatic 48, 3) := by decide +kernel
theorem dX5_take_101 : decode cX5_take 101 = .ok (.ireturn, 1) := by decide +kernel
theorem dX5_take_102 : decode cX5_take 102 = .ok (.aload_n 0, 1) := by decide +kernel
theorem dX5_take_103 : decode cX5_take 103 = .ok (.iload_n 2, 1) := by decide +kernel
theorem dX5_take_104 : decode cX5_take 104 = .ok (.putfield 41, 3) := by decide +kernel
theorem dX5_take_107 : decode cX5_take 107 = .ok (.iload_n 2, 1) := by decide +kernel
theorem dX5_take_108 : decode cX5_take 108 = .ok (.invokestatic 52, 3) := by decide +kernel
theorem dX5_take_111 : decode cX5_take 111 = .ok (.ireturn, 1) := by decide +kernel
theorem dX5_take_112 : decode cX5_take 112 = .ok (.aload_n 0, 1) := by decide +kernel
theorem dX5_take_113 : decode cX5_take 113 = .ok (.iload_n 2, 1) := by decide +kernel
theorem dX5_take_114 : decode cX5_take 114 = .ok (.invokevirtual 55, 3) := by decide +kernel
theorem dX5_take_117 : decode cX5_take 117 = .ok (.ireturn, 1) := by decide +kernel
theorem dX5_take_118 : decode cX5_take 118 = .ok (.aload_n 0, 1) := by decide +kernel
theorem dX5_take_119 : decode cX5_take 119 = .ok (.iload_n 2, 1) := by decide +kernel
theorem dX5_take_120 : decode cX5_take 120 = .ok (.iload_n 3, 1) := by decide +kernel
theorem dX5_take_121 : decode cX5_take 121 = .ok (.invokevirtual 58, 3) := by decide +kernel
theorem dX5_take_124 : decode cX5_take 124 = .ok (.ireturn, 1) := by decide +kernel
theorem dX5_take_125 : decode cX5_take 125 = .ok (.iconst 0, 1) := by decide +kernel
theorem dX5_take_126 : decode cX5_take 126 = .ok (.ireturn, 1) := by decide +kernel
theorem dX5_takeMark_0 : decode cX5_takeMark 0 = .ok (.aload_n 0, 1) := by decide +kernel
theorem dX5_takeMark_1 : decode cX5_takeMark 1 = .ok (.getfield 14, 3) := by decide +kernel
theorem dX5_takeMark_4 : decode cX5_takeMark 4 = .ok (.invokevirtual 61, 3) := by decide +kernel
theorem dX5_takeMark_7 : decode cX5_takeMark 7 = .ok (.ifCond .eq 23, 3) := by decide +kernel
theorem dX5_takeMark_10 : decode cX5_takeMark 10 = .ok (.iload_n 1, 1) := by decide +kernel
theorem dX5_takeMark_11 : decode cX5_takeMark 11 = .ok (.aload_n 0, 1) := by decide +kernel
theorem dX5_takeMark_12 : decode cX5_takeMark 12 = .ok (.getfield 14, 3) := by decide +kernel
theorem dX5_takeMark_15 : decode cX5_takeMark 15 = .ok (.aload_n 0, 1) := by decide +kernel
theorem dX5_takeMark_16 : decode cX5_takeMark 16 = .ok (.getfield 14, 3) := by decide +kernel
theorem dX5_takeMark_19 : decode cX5_takeMark 19 = .ok (.invokevirtual 61, 3) := by decide +kernel
theorem dX5_takeMark_22 : decode cX5_takeMark 22 = .ok (.iconst 1, 1) := by decide +kernel
theorem dX5_takeMark_23 : decode cX5_takeMark 23 = .ok (.isub, 1) := by decide +kernel
theorem dX5_takeMark_24 : decode cX5_takeMark 24 = .ok (.invokevirtual 65, 3) := by decide +kernel
theorem dX5_takeMark_27 : decode cX5_takeMark 27 = .ok (.if_icmp .le 7, 3) := by decide +kernel
theorem dX5_takeMark_30 : decode cX5_takeMark 30 = .ok (.iconst 1, 1) := by decide +kernel
theorem dX5_takeMark_31 : decode cX5_takeMark 31 = .ok (.goto 4, 3) := by decide +kernel
theorem dX5_takeMark_34 : decode cX5_takeMark 34 = .ok (.iconst 0, 1) := by decide +kernel
theorem dX5_takeMark_35 : decode cX5_takeMark 35 = .ok (.istore_n 2, 1) := by decide +kernel
theorem dX5_takeMark_36 : decode cX5_takeMark 36 = .ok (.aload_n 0, 1) := by decide +kernel
theorem dX5_takeMark_37 : decode cX5_takeMark 37 = .ok (.getfield 14, 3) := by decide +kernel
theorem dX5_takeMark_40 : decode cX5_takeMark 40 = .ok (.invokevirtual 69, 3) := by decide +kernel
theorem dX5_takeMark_43 : decode cX5_takeMark 43 = .ok (.ifCond .ne 14, 3) := by decide +kernel
theorem dX5_takeMark_46 : decode cX5_takeMark 46 = .ok (.iload_n 2, 1) := by decide +kernel
theorem dX5_takeMark_47 : decode cX5_takeMark 47 = .ok (.ifCond .eq 10, 3) := by decide +kernel
theorem dX5_takeMark_50 : decode cX5_takeMark 50 = .ok (.iload_n 1, 1) := by decide +kernel
theorem dX5_takeMark_51 : decode cX5_takeMark 51 = .ok (.invokestatic 73, 3) := by decide +kernel
theorem dX5_takeMark_54 : decode cX5_takeMark 54 = .ok (.ifCond .ne 5, 3) := by decide +kernel
theorem dX5_takeMark_57 : decode cX5_takeMark 57 = .ok (.iconst 0, 1) := by decide +kernel
theorem dX5_takeMark_58 : decode cX5_takeMark 58 = .ok (.ireturn, 1) := by decide +kernel
theorem dX5_takeMark_59 : decode cX5_takeMark 59 = .ok (.aload_n 0, 1) := by decide +kernel
theorem dX5_takeMark_60 : decode cX5_takeMark 60 = .ok (.getfield 14, 3) := by decide +kernel
theorem dX5_takeMark_63 : decode cX5_takeMark 63 = .ok (.iload_n 1, 1) := by decide +kernel
theorem dX5_takeMark_64 : decode cX5_takeMark 64 = .ok (.i2l, 1) := by decide +kernel
theorem dX5_takeMark_65 : decode cX5_takeMark 65 = .ok (.invokevirtual 76, 3) := by decide +kernel
theorem dX5_takeMark_68 : decode cX5_takeMark 68 = .ok (.iconst 1, 1) := by decide +kernel
theorem dX5_takeMark_69 : decode cX5_takeMark 69 = .ok (.ireturn, 1) := by decide +kernel
theorem dX5_takeDirt_0 : decode cX5_takeDirt 0 = .ok (.aload_n 0, 1) := by decide +kernel
theorem dX5_takeDirt_1 : decode cX5_takeDirt 1 = .ok (.getfield 23, 3) := by decide +kernel
theorem dX5_takeDirt_4 : decode cX5_takeDirt 4 = .ok (.invokevirtual 80, 3) := by decide +kernel
theorem dX5_takeDirt_7 : decode cX5_takeDirt 7 = .ok (.ifCond .ne 11, 3) := by decide +kernel
theorem dX5_takeDirt_10 : decode cX5_takeDirt 10 = .ok (.iload_n 1, 1) := by decide +kernel
theorem dX5_takeDirt_11 : decode cX5_takeDirt 11 = .ok (.iload_n 2, 1) := by decide +kernel
theorem dX5_takeDirt_12 : decode cX5_takeDirt 12 = .ok (.invokestatic 81, 3) := by decide +kernel
theorem dX5_takeDirt_15 : decode cX5_takeDirt 15 = .ok (.ifCond .ne 5, 3) := by decide +kernel
theorem dX5_takeDirt_18 : decode cX5_takeDirt 18 = .ok (.iconst 0, 1) := by decide +kernel
theorem dX5_takeDirt_19 : decode cX5_takeDirt 19 = .ok (.ireturn, 1) := by decide +kernel
theorem dX5_takeDirt_20 : decode cX5_takeDirt 20 = .ok (.aload_n 0, 1) := by decide +kernel
theorem dX5_takeDirt_21 : decode cX5_takeDirt 21 = .ok (.getfield 23, 3) := by decide +kernel
theorem dX5_takeDirt_24 : decode cX5_takeDirt 24 = .ok (.iload_n 1, 1) := by decide +kernel
theorem dX5_takeDirt_25 : decode cX5_takeDirt 25 = .ok (.iload_n 2, 1) := by decide +kernel
theorem dX5_takeDirt_26 : decode cX5_takeDirt 26 = .ok (.invokevirtual 84, 3) := by decide +kernel
theorem dX5_takeDirt_29 : decode cX5_takeDirt 29 = .ok (.iconst 1, 1) := by decide +kernel
theorem dX5_takeDirt_30 : decode cX5_takeDirt 30 = .ok (.ireturn, 1) := by decide +kernel
theorem dX6_init_0 : decode cX6_init 0 = .ok (.aload_n 0, 1) := by decide +kernel
theorem dX6_init_1 : decode cX6_init 1 = .ok (.invokespecial 1, 3) := by decide +kernel
theorem dX6_init_4 : decode cX6_init 4 = .ok (.aload_n 0, 1) := by decide +kernel
theorem dX6_init_5 : decode cX6_init 5 = .ok (.new 7, 3) := by decide +kernel
theorem dX6_init_8 : decode cX6_init 8 = .ok (.dup, 1) := by decide +kernel
theorem dX6_init_9 : decode cX6_init 9 = .ok (.invokespecial 9, 3) := by decide +kernel
theorem dX6_init_12 : decode cX6_init 12 = .ok (.putfield 10, 3) := by decide +kernel
theorem dX6_init_15 : decode cX6_init 15 = .ok (.aload_n 0, 1) := by decide +kernel
theorem dX6_init_16 : decode cX6_init 16 = .ok (.new 16, 3) := by decide +kernel
theorem dX6_init_19 : decode cX6_init 19 = .ok (.dup, 1) := by decide +kernel
theorem dX6_init_20 : decode cX6_init 20 = .ok (.invokespecial 18, 3) := by decide +kernel
theorem dX6_init_23 : decode cX6_init 23 = .ok (.putfield 19, 3) := by decide +kernel
theorem dX6_init_26 : decode cX6_init 26 = .ok (.aload_n 0, 1) := by decide +kernel
theorem dX6_init_27 : decode cX6_init 27 = .ok (.new 23, 3) := by decide +kernel
theorem dX6_init_30 : decode cX6_init 30 = .ok (.dup, 1) := by decide +kernel
theorem dX6_init_31 : decode cX6_init 31 = .ok (.invokespecial 25, 3) := by decide +kernel
theorem dX6_init_34 : decode cX6_init 34 = .ok (.putfield 26, 3) := by decide +kernel
theorem dX6_init_37 : decode cX6_init 37 = .ok (.return_, 1) := by decide +kernel
theorem dX6_startFrom_0 : decode cX6_startFrom 0 = .ok (.aload_n 0, 1) := by decide +kernel
theorem dX6_startFrom_1 : decode cX6_startFrom 1 = .ok (.getfield 10, 3) := by decide +kernel
theorem dX6_startFrom_4 : decode cX6_startFrom 4 = .ok (.invokevirtual 30, 3) := by decide +kernel
theorem dX6_startFrom_7 : decode cX6_startFrom 7 = .ok (.aload_n 0, 1) := by decide +kernel
theorem dX6_startFrom_8 : decode cX6_startFrom 8 = .ok (.getfield 19, 3) := by decide +kernel
theorem dX6_startFrom_11 : decode cX6_startFrom 11 = .ok (.invokevirtual 33, 3) := by decide +kernel
theorem dX6_startFrom_14 : decode cX6_startFrom 14 = .ok (.aload_n 0, 1) := by decide +kernel
theorem dX6_startFrom_15 : decode cX6_startFrom 15 = .ok (.getfield 26, 3) := by decide +kernel
theorem dX6_startFrom_18 : decode cX6_startFrom 18 = .ok (.aload_n 1, 1) := by decide +kernel
theorem dX6_startFrom_19 : decode cX6_startFrom 19 = .ok (.getfield 36, 3) := by decide +kernel
theorem dX6_startFrom_22 : decode cX6_startFrom 22 = .ok (.invokevirtual 39, 3) := by decide +kernel
theorem dX6_startFrom_25 : decode cX6_startFrom 25 = .ok (.aload_n 0, 1) := by decide +kernel
theorem dX6_startFrom_26 : decode cX6_startFrom 26 = .ok (.iconst 0, 1) := by decide +kernel
theorem dX6_startFrom_27 : decode cX6_startFrom 27 = .ok (.putfield 43, 3) := by decide +kernel
theorem dX6_startFrom_30 : decode cX6_startFrom 30 = .ok (.aload_n 0, 1) := by decide +kernel
theorem dX6_startFrom_31 : decode cX6_startFrom 31 = .ok (.iconst 0, 1) := by decide +kernel
theorem dX6_startFrom_32 : decode cX6_startFrom 32 = .ok (.putfield 47, 3) := by decide +kernel
theorem dX6_startFrom_35 : decode cX6_startFrom 35 = .ok (.aload_n 0, 1) := by decide +kernel
theorem dX6_startFrom_36 : decode cX6_startFrom 36 = .ok (.aload_n 1, 1) := by decide +kernel
theorem dX6_startFrom_37 : decode cX6_startFrom 37 = .ok (.getfield 50, 3) := by decide +kernel
theorem dX6_startFrom_40 : decode cX6_startFrom 40 = .ok (.putfield 53, 3) := by decide +kernel
theorem dX6_startFrom_43 : decode cX6_startFrom 43 = .ok (.aload_n 0, 1) := by decide +kernel
theorem dX6_startFrom_44 : decode cX6_startFrom 44 = .ok (.aload_n 1, 1) := by decide +kernel
theorem dX6_startFrom_45 : decode cX6_startFrom 45 = .ok (.getfield 54, 3) := by decide +kernel
theorem dX6_startFrom_48 : decode cX6_startFrom 48 = .ok (.putfield 57, 3) := by decide +kernel
theorem dX6_startFrom_51 : decode cX6_startFrom 51 = .ok (.aload_n 0, 1) := by decide +kernel
theorem dX6_startFrom_52 : decode cX6_startFrom 52 = .ok (.aload_n 1, 1) := by decide +kernel
theorem dX6_startFrom_53 : decode cX6_startFrom 53 = .ok (.getfield 58, 3) := by decide +kernel
theorem dX6_startFrom_56 : decode cX6_startFrom 56 = .ok (.putfield 61, 3) := by decide +kernel
theorem dX6_startFrom_59 : decode cX6_startFrom 59 = .ok (.return_, 1) := by decide +kernel
theorem dX6_copyFrom_0 : decode cX6_copyFrom 0 = .ok (.aload_n 0, 1) := by decide +kernel
theorem dX6_copyFrom_1 : decode cX6_copyFrom 1 = .ok (.getfield 10, 3) := by decide +kernel
theorem dX6_copyFrom_4 : decode cX6_copyFrom 4 = .ok (.aload_n 1, 1) := by decide +kernel
theorem dX6_copyFrom_5 : decode cX6_copyFrom 5 = .ok (.getfield 10, 3) := by decide +kernel
theorem dX6_copyFrom_8 : decode cX6_copyFrom 8 = .ok (.invokevirtual 62, 3) := by decide +kernel
theorem dX6_copyFrom_11 : decode cX6_copyFrom 11 = .ok (.aload_n 0, 1) := by decide +kernel
theorem dX6_copyFrom_12 : decode cX6_copyFrom 12 = .ok (.getfield 19, 3) := by decide +kernel
theorem dX6_copyFrom_15 : decode cX6_copyFrom 15 = .ok (.aload_n 1, 1) := by decide +kernel
theorem dX6_copyFrom_16 : decode cX6_copyFrom 16 = .ok (.getfield 19, 3) := by decide +kernel
theorem dX6_copyFrom_19 : decode cX6_copyFrom 19 = .ok (.invokevirtual 65, 3) := by decide +kernel
theorem dX6_copyFrom_22 : decode cX6_copyFrom 22 = .ok (.aload_n 0, 1) := by decide +kernel
theorem dX6_copyFrom_23 : decode cX6_copyFrom 23 = .ok (.getfield 26, 3) := by decide +kernel
theorem dX6_copyFrom_26 : decode cX6_copyFrom 26 = .ok (.aload_n 1, 1) := by decide +kernel
theorem dX6_copyFrom_27 : decode cX6_copyFrom 27 = .ok (.getfield 26, 3) := by decide +kernel
theorem dX6_copyFrom_30 : decode cX6_copyFrom 30 = .ok (.invokevirtual 39, 3) := by decide +kernel
theorem dX6_copyFrom_33 : decode cX6_copyFrom 33 = .ok (.aload_n 0, 1) := by decide +kernel
theorem dX6_copyFrom_34 : decode cX6_copyFrom 34 = .ok (.aload_n 1, 1) := by decide +kernel
theorem dX6_copyFrom_35 : decode cX6_copyFrom 35 = .ok (.getfield 43, 3) := by decide +kernel
theorem dX6_copyFrom_38 : decode cX6_copyFrom 38 = .ok (.putfield 43, 3) := by decide +kernel
theorem dX6_copyFrom_41 : decode cX6_copyFrom 41 = .ok (.aload_n 0, 1) := by decide +kernel
theorem dX6_copyFrom_42 : decode cX6_copyFrom 42 = .ok (.aload_n 1, 1) := by decide +kernel
theorem dX6_copyFrom_43 : decode cX6_copyFrom 43 = .ok (.getfield 47, 3) := by decide +kernel
theorem dX6_copyFrom_46 : decode cX6_copyFrom 46 = .ok (.putfield 47, 3) := by decide +kernel
theorem dX6_copyFrom_49 : decode cX6_copyFrom 49 = .ok (.aload_n 0, 1) := by decide +kernel
theorem dX6_copyFrom_50 : decode cX6_copyFrom 50 = .ok (.aload_n 1, 1) := by decide +kernel
theorem dX6_copyFrom_51 : decode cX6_copyFrom 51 = .ok (.getfield 53, 3) := by decide +kernel
theorem dX6_copyFrom_54 : decode cX6_copyFrom 54 = .ok (.putfield 53, 3) := by decide +kernel
theorem dX6_copyFrom_57 : decode cX6_copyFrom 57 = .ok (.aload_n 0, 1) := by decide +kernel
theorem dX6_copyFrom_58 : decode cX6_copyFrom 58 = .ok (.aload_n 1, 1) := by decide +kernel
theorem dX6_copyFrom_59 : decode cX6_copyFrom 59 = .ok (.getfield 57, 3) := by decide +kernel
theorem dX6_copyFrom_62 : decode cX6_copyFrom 62 = .ok (.putfield 57, 3) := by decide +kernel
theorem dX6_copyFrom_65 : decode cX6_copyFrom 65 = .ok (.aload_n 0, 1) := by decide +kernel
theorem dX6_copyFrom_66 : decode cX6_copyFrom 66 = .ok (.aload_n 1, 1) := by decide +kernel
theorem dX6_copyFrom_67 : decode cX6_copyFrom 67 = .ok (.getfield 61, 3) := by decide +kernel
theorem dX6_copyFrom_70 : decode cX6_copyFrom 70 = .ok (.putfield 61, 3) := by decide +kernel
theorem dX6_copyFrom_73 : decode cX6_copyFrom 73 = .ok (.return_, 1) := by decide +kernel
theorem dX7_init_0 : decode cX7_init 0 = .ok (.aload_n 0, 1) := by decide +kernel
theorem dX7_init_1 : decode cX7_init 1 = .ok (.invokespecial 1, 3) := by decide +kernel
theorem dX7_init_4 : decode cX7_init 4 = .ok (.aload_n 0, 1) := by decide +kernel
theorem dX7_init_5 : decode cX7_init 5 = .ok (.new 7, 3) := by decide +kernel
theorem dX7_init_8 : decode cX7_init 8 = .ok (.dup, 1) := by decide +kernel
theorem dX7_init_9 : decode cX7_init 9 = .ok (.sipush 200, 3) := by decide +kernel
theorem dX7_init_12 : decode cX7_init 12 = .ok (.invokespecial 11, 3) := by decide +kernel
theorem dX7_init_15 : decode cX7_init 15 = .ok (.putfield 14, 3) := by decide +kernel
theorem dX7_init_18 : decode cX7_init 18 = .ok (.aload_n 0, 1) := by decide +kernel
theorem dX7_init_19 : decode cX7_init 19 = .ok (.new 18, 3) := by decide +kernel
theorem dX7_init_22 : decode cX7_init 22 = .ok (.dup, 1) := by decide +kernel
theorem dX7_init_23 : decode cX7_init 23 = .ok (.invokespecial 20, 3) := by decide +kernel
theorem dX7_init_26 : decode cX7_init 26 = .ok (.putfield 21, 3) := by decide +kernel
theorem dX7_init_29 : decode cX7_init 29 = .ok (.aload_n 0, 1) := by decide +kernel
theorem dX7_init_30 : decode cX7_init 30 = .ok (.new 7, 3) := by decide +kernel
theorem dX7_init_33 : decode cX7_init 33 = .ok (.dup, 1) := by decide +kernel
theorem dX7_init_34 : decode cX7_init 34 = .ok (.bipush 6, 2) := by decide +kernel
theorem dX7_init_36 : decode cX7_init 36 = .ok (.invokespecial 11, 3) := by decide +kernel
theorem dX7_init_39 : decode cX7_init 39 = .ok (.putfield 25, 3) := by decide +kernel
theorem dX7_init_42 : decode cX7_init 42 = .ok (.aload_n 0, 1) := by decide +kernel
theorem dX7_init_43 : decode cX7_init 43 = .ok (.new 28, 3) := by decide +kernel
theorem dX7_init_46 : decode cX7_init 46 = .ok (.dup, 1) := by decide +kernel
theorem dX7_init_47 : decode cX7_init 47 = .ok (.invokespecial 30, 3) := by decide +kernel
theorem dX7_init_50 : decode cX7_init 50 = .ok (.putfield 31, 3) := by decide +kernel
theorem dX7_init_53 : decode cX7_init 53 = .ok (.aload_n 0, 1) := by decide +kernel
theorem dX7_init_54 : decode cX7_init 54 = .ok (.new 35, 3) := by decide +kernel
theorem dX7_init_57 : decode cX7_init 57 = .ok (.dup, 1) := by decide +kernel
theorem dX7_init_58 : decode cX7_init 58 = .ok (.invokespecial 37, 3) := by decide +kernel
theorem dX7_init_61 : decode cX7_init 61 = .ok (.putfield 38, 3) := by decide +kernel
theorem dX7_init_64 : decode cX7_init 64 = .ok (.aload_n 0, 1) := by decide +kernel
theorem dX7_init_65 : decode cX7_init 65 = .ok (.new 42, 3) := by decide +kernel
theorem dX7_init_68 : decode cX7_init 68 = .ok (.dup, 1) := by decide +kernel
theorem dX7_init_69 : decode cX7_init 69 = .ok (.invokespecial 44, 3) := by decide +kernel
theorem dX7_init_72 : decode cX7_init 72 = .ok (.putfield 45, 3) := by decide +kernel
theorem dX7_init_75 : decode cX7_init 75 = .ok (.iconst 0, 1) := by decide +kernel
theorem dX7_init_76 : decode cX7_init 76 = .ok (.istore_n 1, 1) := by decide +kernel
theorem dX7_init_77 : decode cX7_init 77 = .ok (.iload_n 1, 1) := by decide +kernel
theorem dX7_init_78 : decode cX7_init 78 = .ok (.ldc 49, 2) := by decide +kernel
theorem dX7_init_80 : decode cX7_init 80 = .ok (.invokevirtual 51, 3) := by decide +kernel
theorem dX7_init_83 : decode cX7_init 83 = .ok (.if_icmp .ge 23, 3) := by decide +kernel
theorem dX7_init_86 : decode cX7_init 86 = .ok (.aload_n 0, 1) := by decide +kernel
theorem dX7_init_87 : decode cX7_init 87 = .ok (.getfield 14, 3) := by decide +kernel
theorem dX7_init_90 : decode cX7_init 90 = .ok (.ldc 49, 2) := by decide +kernel
theorem dX7_init_92 : decode cX7_init 92 = .ok (.iload_n 1, 1) := by decide +kernel
theorem dX7_init_93 : decode cX7_init 93 = .ok (.invokevirtual 57, 3) := by decide +kernel
theorem dX7_init_96 : decode cX7_init 96 = .ok (.i2l, 1) := by decide +kernel
theorem dX7_init_97 : decode cX7_init 97 = .ok (.invokevirtual 61, 3) := by decide +kernel
theorem dX7_init_100 : decode cX7_init 100 = .ok (.iinc 1 1, 3) := by decide +kernel
theorem dX7_init_103 : decode cX7_init 103 = .ok (.goto (-26), 3) := by decide +kernel
theorem dX7_init_106 : decode cX7_init 106 = .ok (.aload_n 0, 1) := by decide +kernel
theorem dX7_init_107 : decode cX7_init 107 = .ok (.invokevirtual 65, 3) := by decide +kernel
theorem dX7_init_110 : decode cX7_init 110 = .ok (.pop, 1) := by decide +kernel
theorem dX7_init_111 : decode cX7_init 111 = .ok (.aload_n 0, 1) := by decide +kernel
theorem dX7_init_112 : decode cX7_init 112 = .ok (.invokevirtual 68, 3) := by decide +kernel
theorem dX7_init_115 : decode cX7_init 115 = .ok (.aload_n 0, 1) := by decide +kernel
theorem dX7_init_116 : decode cX7_init 116 = .ok (.getfield 14, 3) := by decide +kernel
theorem dX7_init_119 : decode cX7_init 119 = .ok (.invokevirtual 71, 3) := by decide +kernel
theorem dX7_init_122 : decode cX7_init 122 = .ok (.return_, 1) := by decide +kernel
theorem dX7_append_0 : decode cX7_append 0 = .ok (.iload_n 1, 1) := by decide +kernel
theorem dX7_append_1 : decode cX7_append 1 = .ok (.bipush 32, 2) := by decide +kernel
theorem dX7_append_3 : decode cX7_append 3 = .ok (.bipush 126, 2) := by decide +kernel
theorem dX7_append_5 : decode cX7_append 5 = .ok (.invokestatic 74, 3) := by decide +kernel
theorem dX7_append_8 : decode cX7_append 8 = .ok (.ifCond .ne 5, 3) := by decide +kernel
theorem dX7_append_11 : decode cX7_append 11 = .ok (.iconst (-1), 1) := by decide +kernel
theorem dX7_append_12 : decode cX7_append 12 = .ok (.ireturn, 1) := by decide +kernel
theorem dX7_append_13 : decode cX7_append 13 = .ok (.aload_n 0, 1) := by decide +kernel
theorem dX7_append_14 : decode cX7_append 14 = .ok (.getfield 14, 3) := by decide +kernel
theorem dX7_append_17 : decode cX7_append 17 = .ok (.invokevirtual 78, 3) := by decide +kernel
theorem dX7_append_20 : decode cX7_append 20 = .ok (.ifCond .eq 6, 3) := by decide +kernel
theorem dX7_append_23 : decode cX7_append 23 = .ok (.bipush (-3), 2) := by decide +kernel
theorem dX7_append_25 : decode cX7_append 25 = .ok (.ireturn, 1) := by decide +kernel
theorem dX7_append_26 : decode cX7_append 26 = .ok (.aload_n 0, 1) := by decide +kernel
theorem dX7_append_27 : decode cX7_append 27 = .ok (.getfield 14, 3) := by decide +kernel
theorem dX7_append_30 : decode cX7_append 30 = .ok (.iload_n 1, 1) := by decide +kernel
theorem dX7_append_31 : decode cX7_append 31 = .ok (.i2l, 1) := by decide +kernel
theorem dX7_append_32 : decode cX7_append 32 = .ok (.invokevirtual 61, 3) := by decide +kernel
theorem dX7_append_35 : decode cX7_append 35 = .ok (.aload_n 0, 1) := by decide +kernel
theorem dX7_append_36 : decode cX7_append 36 = .ok (.getfield 14, 3) := by decide +kernel
theorem dX7_append_39 : decode cX7_append 39 = .ok (.invokevirtual 82, 3) := by decide +kernel
theorem dX7_append_42 : decode cX7_append 42 = .ok (.ireturn, 1) := by decide +kernel
theorem dX7_clearText_0 : decode cX7_clearText 0 = .ok (.aload_n 0, 1) := by decide +kernel
theorem dX7_clearText_1 : decode cX7_clearText 1 = .ok (.getfield 14, 3) := by decide +kernel
theorem dX7_clearText_4 : decode cX7_clearText 4 = .ok (.invokevirtual 82, 3) := by decide +kernel
theorem dX7_clearText_7 : decode cX7_clearText 7 = .ok (.istore_n 1, 1) := by decide +kernel
theorem dX7_clearText_8 : decode cX7_clearText 8 = .ok (.aload_n 0, 1) := by decide +kernel
theorem dX7_clearText_9 : decode cX7_clearText 9 = .ok (.getfield 14, 3) := by decide +kernel
theorem dX7_clearText_12 : decode cX7_clearText 12 = .ok (.invokevirtual 71, 3) := by decide +kernel
theorem dX7_clearText_15 : decode cX7_clearText 15 = .ok (.iload_n 1, 1) := by decide +kernel
theorem dX7_clearText_16 : decode cX7_clearText 16 = .ok (.ireturn, 1) := by decide +kernel
theorem dX7_firstError_0 : decode cX7_firstError 0 = .ok (.aload_n 0, 1) := by decide +kernel
theorem dX7_firstError_1 : decode cX7_firstError 1 = .ok (.invokevirtual 65, 3) := by decide +kernel
theorem dX7_firstError_4 : decode cX7_firstError 4 = .ok (.ireturn, 1) := by decide +kernel
theorem dX7_configure_0 : decode cX7_configure 0 = .ok (.aload_n 0, 1) := by decide +kernel
theorem dX7_configure_1 : decode cX7_configure 1 = .ok (.invokevirtual 65, 3) := by decide +kernel
theorem dX7_configure_4 : decode cX7_configure 4 = .ok (.bipush (-4), 2) := by decide +kernel
theorem dX7_configure_6 : decode cX7_configure 6 = .ok (.if_icmp .ne 13, 3) := by decide +kernel
theorem dX7_configure_9 : decode cX7_configure 9 = .ok (.aload_n 0, 1) := by decide +kernel
theorem dX7_configure_10 : decode cX7_configure 10 = .ok (.getfield 21, 3) := by decide +kernel
theorem dX7_configure_13 : decode cX7_configure 13 = .ok (.getfield 85, 3) := by decide +kernel
theorem dX7_configure_16 : decode cX7_configure 16 = .ok (.ifCond .ne 6, 3) := by decide +kernel
theorem dX7_configure_19 : decode cX7_configure 19 = .ok (.bipush (-2), 2) := by decide +kernel
theorem dX7_configure_21 : decode cX7_configure 21 = .ok (.ireturn, 1) := by decide +kernel
theorem dX7_configure_22 : decode cX7_configure 22 = .ok (.aload_n 0, 1) := by decide +kernel
theorem dX7_configure_23 : decode cX7_configure 23 = .ok (.invokevirtual 68, 3) := by decide +kernel
theorem dX7_configure_26 : decode cX7_configure 26 = .ok (.aload_n 0, 1) := by decide +kernel
theorem dX7_configure_27 : decode cX7_configure 27 = .ok (.getfield 25, 3) := by decide +kernel
theorem dX7_configure_30 : decode cX7_configure 30 = .ok (.invokevirtual 82, 3) := by decide +kernel
theorem dX7_configure_33 : decode cX7_configure 33 = .ok (.ireturn, 1) := by decide +kernel
theorem dX7_readSetup_0 : decode cX7_readSetup 0 = .ok (.aload_n 0, 1) := by decide +kernel
theorem dX7_readSetup_1 : decode cX7_readSetup 1 = .ok (.getfield 21, 3) := by decide +kernel
theorem dX7_readSetup_4 : decode cX7_readSetup 4 = .ok (.invokevirtual 89, 3) := by decide +kernel
theorem dX7_readSetup_7 : decode cX7_readSetup 7 = .ok (.iconst 0, 1) := by decide +kernel
theorem dX7_readSetup_8 : decode cX7_readSetup 8 = .ok (.istore_n 1, 1) := by decide +kernel
theorem dX7_readSetup_9 : decode cX7_readSetup 9 = .ok (.iconst 0, 1) := by decide +kernel
theorem dX7_readSetup_10 : decode cX7_readSetup 10 = .ok (.istore_n 2, 1) := by decide +kernel
theorem dX7_readSetup_11 : decode cX7_readSetup 11 = .ok (.iload_n 2, 1) := by decide +kernel
theorem dX7_readSetup_12 : decode cX7_readSetup 12 = .ok (.sipush 200, 3) := by decide +kernel
theorem dX7_readSetup_15 : decode cX7_readSetup 15 = .ok (.if_icmp .ge 34, 3) := by decide +kernel
theorem dX7_readSetup_18 : decode cX7_readSetup 18 = .ok (.iload_n 1, 1) := by decide +kernel
theorem dX7_readSetup_19 : decode cX7_readSetup 19 = .ok (.aload_n 0, 1) := by decide +kernel
theorem dX7_readSetup_20 : decode cX7_readSetup 20 = .ok (.getfield 14, 3) := by decide +kernel
theorem dX7_readSetup_23 : decode cX7_readSetup 23 = .ok (.invokevirtual 82, 3) := by decide +kernel
theorem dX7_readSetup_26 : decode cX7_readSetup 26 = .ok (.if_icmp .ge 23, 3) := by decide +kernel
theorem dX7_readSetup_29 : decode cX7_readSetup 29 = .ok (.aload_n 0, 1) := by decide +kernel
theorem dX7_readSetup_30 : decode cX7_readSetup 30 = .ok (.iload_n 1, 1) := by decide +kernel
theorem dX7_readSetup_31 : decode cX7_readSetup 31 = .ok (.invokevirtual 92, 3) := by decide +kernel
theorem dX7_readSetup_34 : decode cX7_readSetup 34 = .ok (.istore_n 3, 1) := by decide +kernel
theorem dX7_readSetup_35 : decode cX7_readSetup 35 = .ok (.iload_n 3, 1) := by decide +kernel
theorem dX7_readSetup_36 : decode cX7_readSetup 36 = .ok (.ifCond .ge 5, 3) := by decide +kernel
theorem dX7_readSetup_39 : decode cX7_readSetup 39 = .ok (.iload_n 1, 1) := by decide +kernel
theorem dX7_readSetup_40 : decode cX7_readSetup 40 = .ok (.ireturn, 1) := by decide +kernel
theorem dX7_readSetup_41 : decode cX7_readSetup 41 = .ok (.iload_n 3, 1) := by decide +kernel
theorem dX7_readSetup_42 : decode cX7_readSetup 42 = .ok (.istore_n 1, 1) := by decide +kernel
theorem dX7_readSetup_43 : decode cX7_readSetup 43 = .ok (.iinc 2 1, 3) := by decide +kernel
theorem dX7_readSetup_46 : decode cX7_readSetup 46 = .ok (.goto (-35), 3) := by decide +kernel
theorem dX7_readSetup_49 : decode cX7_readSetup 49 = .ok (.bipush (-4), 2) := by decide +kernel
theorem dX7_readSetup_51 : decode cX7_readSetup 51 = .ok (.ireturn, 1) := by decide +kernel
theorem dX7_readStatement_0 : decode cX7_readStatement 0 = .ok (.aload_n 0, 1) := by decide +kernel
theorem dX7_readStatement_1 : decode cX7_readStatement 1 = .ok (.getfield 14, 3) := by decide +kernel
theorem dX7_readStatement_4 : decode cX7_readStatement 4 = .ok (.iload_n 1, 1) := by decide +kernel
theorem dX7_readStatement_5 : decode cX7_readStatement 5 = .ok (.invokevirtual 96, 3) := by decide +kernel
theorem dX7_readStatement_8 : decode cX7_readStatement 8 = .ok (.istore_n 2, 1) := by decide +kernel
theorem dX7_readStatement_9 : decode cX7_readStatement 9 = .ok (.aload_n 0, 1) := by decide +kernel
theorem dX7_readStatement_10 : decode cX7_readStatement 10 = .ok (.iload_n 1, 1) := by decide +kernel
theorem dX7_readStatement_11 : decode cX7_readStatement 11 = .ok (.iconst 1, 1) := by decide +kernel
theorem dX7_readStatement_12 : decode cX7_readStatement 12 = .ok (.iadd, 1) := by decide +kernel
theorem dX7_readStatement_13 : decode cX7_readStatement 13 = .ok (.invokevirtual 99, 3) := by decide +kernel
theorem dX7_readStatement_16 : decode cX7_readStatement 16 = .ok (.istore_n 3, 1) := by decide +kernel
theorem dX7_readStatement_17 : decode cX7_readStatement 17 = .ok (.iload_n 1, 1) := by decide +kernel
theorem dX7_readStatement_18 : decode cX7_readStatement 18 = .ok (.iconst 1, 1) := by decide +kernel
theorem dX7_readStatement_19 : decode cX7_readStatement 19 = .ok (.iadd, 1) := by decide +kernel
theorem dX7_readStatement_20 : decode cX7_readStatement 20 = .ok (.aload_n 0, 1) := by decide +kernel
theorem dX7_readStatement_21 : decode cX7_readStatement 21 = .ok (.iload_n 1, 1) := by decide +kernel
theorem dX7_readStatement_22 : decode cX7_readStatement 22 = .ok (.iconst 1, 1) := by decide +kernel
theorem dX7_readStatement_23 : decode cX7_readStatement 23 = .ok (.iadd, 1) := by decide +kernel
theorem dX7_readStatement_24 : decode cX7_readStatement 24 = .ok (.invokevirtual 102, 3) := by decide +kernel
theorem dX7_readStatement_27 : decode cX7_readStatement 27 = .ok (.iadd, 1) := by decide +kernel
theorem dX7_readStatement_28 : decode cX7_readStatement 28 = .ok (.istore 4, 2) := by decide +kernel
theorem dX7_readStatement_30 : decode cX7_readStatement 30 = .ok (.iconst 0, 1) := by decide +kernel
theorem dX7_readStatement_31 : decode cX7_readStatement 31 = .ok (.istore 5, 2) := by decide +kernel
theorem dX7_readStatement_33 : decode cX7_readStatement 33 = .ok (.iload_n 2, 1) := by decide +kernel
theorem dX7_readStatement_34 : decode cX7_readStatement 34 = .ok (.bipush 105, 2) := by decide +kernel
theorem dX7_readStatement_36 : decode cX7_readStatement 36 = .ok (.if_icmp .eq 9, 3) := by decide +kernel
theorem dX7_readStatement_39 : decode cX7_readStatement 39 = .ok (.iload_n 2, 1) := by decide +kernel
theorem dX7_readStatement_40 : decode cX7_readStatement 40 = .ok (.bipush 100, 2) := by decide +kernel
theorem dX7_readStatement_42 : decode cX7_readStatement 42 = .ok (.if_icmp .ne 44, 3) := by decide +kernel
theorem dX7_readStatement_45 : decode cX7_readStatement 45 = .ok (.aload_n 0, 1) := by decide +kernel
theorem dX7_readStatement_46 : decode cX7_readStatement 46 = .ok (.getfield 14, 3) := by decide +kernel
theorem dX7_readStatement_49 : decode cX7_readStatement 49 = .ok (.iload 4, 2) := by decide +kernel
theorem dX7_readStatement_51 : decode cX7_readStatement 51 = .ok (.invokevirtual 96, 3) := by decide +kernel
theorem dX7_readStatement_54 : decode cX7_readStatement 54 = .ok (.bipush 44, 2) := by decide +kernel
theorem dX7_readStatement_56 : decode cX7_readStatement 56 = .ok (.if_icmp .eq 5, 3) := by decide +kernel
theorem dX7_readStatement_59 : decode cX7_readStatement 59 = .ok (.iconst (-1), 1) := by decide +kernel
theorem dX7_readStatement_60 : decode cX7_readStatement 60 = .ok (.ireturn, 1) := by decide +kernel
theorem dX7_readStatement_61 : decode cX7_readStatement 61 = .ok (.aload_n 0, 1) := by decide +kernel
theorem dX7_readStatement_62 : decode cX7_readStatement 62 = .ok (.iload 4, 2) := by decide +kernel
theorem dX7_readStatement_64 : decode cX7_readStatement 64 = .ok (.iconst 1, 1) := by decide +kernel
theorem dX7_readStatement_65 : decode cX7_readStatement 65 = .ok (.iadd, 1) := by decide +kernel
theorem dX7_readStatement_66 : decode cX7_readStatement 66 = .ok (.invokevirtual 99, 3) := by decide +kernel
theorem dX7_readStatement_69 : decode cX7_readStatement 69 = .ok (.istore 5, 2) := by decide +kernel
theorem dX7_readStatement_71 : decode cX7_readStatement 71 = .ok (.iload 4, 2) := by decide +kernel
theorem dX7_readStatement_73 : decode cX7_readStatement 73 = .ok (.iconst 1, 1) := by decide +kernel
theorem dX7_readStatement_74 : decode cX7_readStatement 74 = .ok (.iadd, 1) := by decide +kernel
theorem dX7_readStatement_75 : decode cX7_readStatement 75 = .ok (.aload_n 0, 1) := by decide +kernel
theorem dX7_readStatement_76 : decode cX7_readStatement 76 = .ok (.iload 4, 2) := by decide +kernel
theorem dX7_readStatement_78 : decode cX7_readStatement 78 = .ok (.iconst 1, 1) := by decide +kernel
theorem dX7_readStatement_79 : decode cX7_readStatement 79 = .ok (.iadd, 1) := by decide +kernel
theorem dX7_readStatement_80 : decode cX7_readStatement 80 = .ok (.invokevirtual 102, 3) := by decide +kernel
theorem dX7_readStatement_83 : decode cX7_readStatement 83 = .ok (.iadd, 1) := by decide +kernel
theorem dX7_readStatement_84 : decode cX7_readStatement 84 = .ok (.istore 4, 2) := by decide +kernel
theorem dX7_readStatement_86 : decode cX7_readStatement 86 = .ok (.iload_n 3, 1) := by decide +kernel
theorem dX7_readStatement_87 : decode cX7_readStatement 87 = .ok (.ifCond .lt 26, 3) := by decide +kernel
theorem dX7_readStatement_90 : decode cX7_readStatement 90 = .ok (.iload 5, 2) := by decide +kernel
theorem dX7_readStatement_92 : decode cX7_readStatement 92 = .ok (.ifCond .lt 21, 3) := by decide +kernel
theorem dX7_readStatement_95 : decode cX7_readStatement 95 = .ok (.aload_n 0, 1) := by decide +kernel
theorem dX7_readStatement_96 : decode cX7_readStatement 96 = .ok (.getfield 14, 3) := by decide +kernel
theorem dX7_readStatement_99 : decode cX7_readStatement 99 = .ok (.iload 4, 2) := by decide +kernel
theorem dX7_readStatement_101 : decode cX7_readStatement 101 = .ok (.invokevirtual 96, 3) := by decide +kernel
theorem dX7_readStatement_104 : decode cX7_readStatement 104 = .ok (.bipush 59, 2) := by decide +kernel
theorem dX7_readStatement_106 : decode cX7_readStatement 106 = .ok (.if_icmp .ne 7, 3) := by decide +kernel
theorem dX7_readStatement_109 : decode cX7_readStatement 109 = .ok (.iconst 1, 1) := by decide +kernel
theorem dX7_readStatement_110 : decode cX7_readStatement 110 = .ok (.goto 4, 3) := by decide +kernel
theorem dX7_readStatement_113 : decode cX7_readStatement 113 = .ok (.iconst 0, 1) := by decide +kernel
theorem dX7_readStatement_114 : decode cX7_readStatement 114 = .ok (.istore 6, 2) := by decide +kernel
theorem dX7_readStatement_116 : decode cX7_readStatement 116 = .ok (.iload 6, 2) := by decide +kernel
theorem dX7_readStatement_118 : decode cX7_readStatement 118 = .ok (.ifCond .eq 24, 3) := by decide +kernel
theorem dX7_readStatement_121 : decode cX7_readStatement 121 = .ok (.aload_n 0, 1) := by decide +kernel
theorem dX7_readStatement_122 : decode cX7_readStatement 122 = .ok (.getfield 21, 3) := by decide +kernel
theorem dX7_readStatement_125 : decode cX7_readStatement 125 = .ok (.iload_n 2, 1) := by decide +kernel
theorem dX7_readStatement_126 : decode cX7_readStatement 126 = .ok (.iload_n 3, 1) := by decide +kernel
theorem dX7_readStatement_127 : decode cX7_readStatement 127 = .ok (.iload 5, 2) := by decide +kernel
theorem dX7_readStatement_129 : decode cX7_readStatement 129 = .ok (.invokevirtual 105, 3) := by decide +kernel
theorem dX7_readStatement_132 : decode cX7_readStatement 132 = .ok (.ifCond .eq 10, 3) := by decide +kernel
theorem dX7_readStatement_135 : decode cX7_readStatement 135 = .ok (.iload 4, 2) := by decide +kernel
theorem dX7_readStatement_137 : decode cX7_readStatement 137 = .ok (.iconst 1, 1) := by decide +kernel
theorem dX7_readStatement_138 : decode cX7_readStatement 138 = .ok (.iadd, 1) := by decide +kernel
theorem dX7_readStatement_139 : decode cX7_readStatement 139 = .ok (.goto 4, 3) := by decide +kernel
theorem dX7_readStatement_142 : decode cX7_readStatement 142 = .ok (.iconst (-1), 1) := by decide +kernel
theorem dX7_readStatement_143 : decode cX7_readStatement 143 = .ok (.ireturn, 1) := by decide +kernel
theorem dX7_digitsFrom_0 : decode cX7_digitsFrom 0 = .ok (.iconst 0, 1) := by decide +kernel
theorem dX7_digitsFrom_1 : decode cX7_digitsFrom 1 = .ok (.istore_n 2, 1) := by decide +kernel
theorem dX7_digitsFrom_2 : decode cX7_digitsFrom 2 = .ok (.iload_n 2, 1) := by decide +kernel
theorem dX7_digitsFrom_3 : decode cX7_digitsFrom 3 = .ok (.sipush 200, 3) := by decide +kernel
theorem dX7_digitsFrom_6 : decode cX7_digitsFrom 6 = .ok (.if_icmp .ge 29, 3) := by decide +kernel
theorem dX7_digitsFrom_9 : decode cX7_digitsFrom 9 = .ok (.aload_n 0, 1) := by decide +kernel
theorem dX7_digitsFrom_10 : decode cX7_digitsFrom 10 = .ok (.getfield 14, 3) := by decide +kernel
theorem dX7_digitsFrom_13 : decode cX7_digitsFrom 13 = .ok (.iload_n 1, 1) := by decide +kernel
theorem dX7_digitsFrom_14 : decode cX7_digitsFrom 14 = .ok (.iload_n 2, 1) := by decide +kernel
theorem dX7_digitsFrom_15 : decode cX7_digitsFrom 15 = .ok (.iadd, 1) := by decide +kernel
theorem dX7_digitsFrom_16 : decode cX7_digitsFrom 16 = .ok (.invokevirtual 96, 3) := by decide +kernel
theorem dX7_digitsFrom_19 : decode cX7_digitsFrom 19 = .ok (.bipush 48, 2) := by decide +kernel
theorem dX7_digitsFrom_21 : decode cX7_digitsFrom 21 = .ok (.bipush 57, 2) := by decide +kernel
theorem dX7_digitsFrom_23 : decode cX7_digitsFrom 23 = .ok (.invokestatic 74, 3) := by decide +kernel
theorem dX7_digitsFrom_26 : decode cX7_digitsFrom 26 = .ok (.ifCond .eq 9, 3) := by decide +kernel
theorem dX7_digitsFrom_29 : decode cX7_digitsFrom 29 = .ok (.iinc 2 1, 3) := by decide +kernel
theorem dX7_digitsFrom_32 : decode cX7_digitsFrom 32 = .ok (.goto (-30), 3) := by decide +kernel
theorem dX7_digitsFrom_35 : decode cX7_digitsFrom 35 = .ok (.iload_n 2, 1) := by decide +kernel
theorem dX7_digitsFrom_36 : decode cX7_digitsFrom 36 = .ok (.ireturn, 1) := by decide +kernel
theorem dX7_numberAt_0 : decode cX7_numberAt 0 = .ok (.aload_n 0, 1) := by decide +kernel
theorem dX7_numberAt_1 : decode cX7_numberAt 1 = .ok (.iload_n 1, 1) := by decide +kernel
theorem dX7_numberAt_2 : decode cX7_numberAt 2 = .ok (.invokevirtual 102, 3) := by decide +kernel
theorem dX7_numberAt_5 : decode cX7_numberAt 5 = .ok (.istore_n 2, 1) := by decide +kernel
theorem dX7_numberAt_6 : decode cX7_numberAt 6 = .ok (.iload_n 2, 1) := by decide +kernel
theorem dX7_numberAt_7 : decode cX7_numberAt 7 = .ok (.iconst 1, 1) := by decide +kernel
theorem dX7_numberAt_8 : decode cX7_numberAt 8 = .ok (.iconst 4, 1) := by decide +kernel
theorem dX7_numberAt_9 : decode cX7_numberAt 9 = .ok (.invokestatic 74, 3) := by decide +kernel
theorem dX7_numberAt_12 : decode cX7_numberAt 12 = .ok (.ifCond .ne 5, 3) := by decide +kernel
theorem dX7_numberAt_15 : decode cX7_numberAt 15 = .ok (.iconst (-1), 1) := by decide +kernel
theorem dX7_numberAt_16 : decode cX7_numberAt 16 = .ok (.ireturn, 1) := by decide +kernel
theorem dX7_numberAt_17 : decode cX7_numberAt 17 = .ok (.iconst 0, 1) := by decide +kernel
theorem dX7_numberAt_18 : decode cX7_numberAt 18 = .ok (.istore_n 3, 1) := by decide +kernel
theorem dX7_numberAt_19 : decode cX7_numberAt 19 = .ok (.iconst 0, 1) := by decide +kernel
theorem dX7_numberAt_20 : decode cX7_numberAt 20 = .ok (.istore 4, 2) := by decide +kernel
theorem dX7_numberAt_22 : decode cX7_numberAt 22 = .ok (.iload 4, 2) := by decide +kernel
theorem dX7_numberAt_24 : decode cX7_numberAt 24 = .ok (.iload_n 2, 1) := by decide +kernel
theorem dX7_numberAt_25 : decode cX7_numberAt 25 = .ok (.if_icmp .ge 29, 3) := by decide +kernel
theorem dX7_numberAt_28 : decode cX7_numberAt 28 = .ok (.iload_n 3, 1) := by decide +kernel
theorem dX7_numberAt_29 : decode cX7_numberAt 29 = .ok (.bipush 10, 2) := by decide +kernel
theorem dX7_numberAt_31 : decode cX7_numberAt 31 = .ok (.imul, 1) := by decide +kernel
theorem dX7_numberAt_32 : decode cX7_numberAt 32 = .ok (.aload_n 0, 1) := by decide +kernel
theorem dX7_numberAt_33 : decode cX7_numberAt 33 = .ok (.getfield 14, 3) := by decide +kernel
theorem dX7_numberAt_36 : decode cX7_numberAt 36 = .ok (.iload_n 1, 1) := by decide +kernel
theorem dX7_numberAt_37 : decode cX7_numberAt 37 = .ok (.iload 4, 2) := by decide +kernel
theorem dX7_numberAt_39 : decode cX7_numberAt 39 = .ok (.iadd, 1) := by decide +kernel
theorem dX7_numberAt_40 : decode cX7_numberAt 40 = .ok (.invokevirtual 96, 3) := by decide +kernel
theorem dX7_numberAt_43 : decode cX7_numberAt 43 = .ok (.iadd, 1) := by decide +kernel
theorem dX7_numberAt_44 : decode cX7_numberAt 44 = .ok (.bipush 48, 2) := by decide +kernel
theorem dX7_numberAt_46 : decode cX7_numberAt 46 = .ok (.isub, 1) := by decide +kernel
theorem dX7_numberAt_47 : decode cX7_numberAt 47 = .ok (.istore_n 3, 1) := by decide +kernel
theorem dX7_numberAt_48 : decode cX7_numberAt 48 = .ok (.iinc 4 1, 3) := by decide +kernel
theorem dX7_numberAt_51 : decode cX7_numberAt 51 = .ok (.goto (-29), 3) := by decide +kernel
theorem dX7_numberAt_54 : decode cX7_numberAt 54 = .ok (.iload_n 3, 1) := by decide +kernel
theorem dX7_numberAt_55 : decode cX7_numberAt 55 = .ok (.ireturn, 1) := by decide +kernel
theorem dX7_startFromDraft_0 : decode cX7_startFromDraft 0 = .ok (.aload_n 0, 1) := by decide +kernel
theorem dX7_startFromDraft_1 : decode cX7_startFromDraft 1 = .ok (.aload_n 0, 1) := by decide +kernel
theorem dX7_startFromDraft_2 : decode cX7_startFromDraft 2 = .ok (.getfield 21, 3) := by decide +kernel
theorem dX7_startFromDraft_5 : decode cX7_startFromDraft 5 = .ok (.getfield 85, 3) := by decide +kernel
theorem dX7_startFromDraft_8 : decode cX7_startFromDraft 8 = .ok (.putfield 108, 3) := by decide +kernel
theorem dX7_startFromDraft_11 : decode cX7_startFromDraft 11 = .ok (.aload_n 0, 1) := by decide +kernel
theorem dX7_startFromDraft_12 : decode cX7_startFromDraft 12 = .ok (.getfield 25, 3) := by decide +kernel
theorem dX7_startFromDraft_15 : decode cX7_startFromDraft 15 = .ok (.aload_n 0, 1) := by decide +kernel
theorem dX7_startFromDraft_16 : decode cX7_startFromDraft 16 = .ok (.getfield 21, 3) := by decide +kernel
theorem dX7_startFromDraft_19 : decode cX7_startFromDraft 19 = .ok (.getfield 109, 3) := by decide +kernel
theorem dX7_startFromDraft_22 : decode cX7_startFromDraft 22 = .ok (.invokevirtual 110, 3) := by decide +kernel
theorem dX7_startFromDraft_25 : decode cX7_startFromDraft 25 = .ok (.aload_n 0, 1) := by decide +kernel
theorem dX7_startFromDraft_26 : decode cX7_startFromDraft 26 = .ok (.getfield 45, 3) := by decide +kernel
theorem dX7_startFromDraft_29 : decode cX7_startFromDraft 29 = .ok (.aload_n 0, 1) := by decide +kernel
theorem dX7_startFromDraft_30 : decode cX7_startFromDraft 30 = .ok (.getfield 21, 3) := by decide +kernel
theorem dX7_startFromDraft_33 : decode cX7_startFromDraft 33 = .ok (.invokevirtual 114, 3) := by decide +kernel
theorem dX7_startFromDraft_36 : decode cX7_startFromDraft 36 = .ok (.aload_n 0, 1) := by decide +kernel
theorem dX7_startFromDraft_37 : decode cX7_startFromDraft 37 = .ok (.getfield 31, 3) := by decide +kernel
theorem dX7_startFromDraft_40 : decode cX7_startFromDraft 40 = .ok (.invokevirtual 118, 3) := by decide +kernel
theorem dX7_startFromDraft_43 : decode cX7_startFromDraft 43 = .ok (.return_, 1) := by decide +kernel
theorem dX7_moveTo_0 : decode cX7_moveTo 0 = .ok (.iload_n 1, 1) := by decide +kernel
theorem dX7_moveTo_1 : decode cX7_moveTo 1 = .ok (.iload_n 2, 1) := by decide +kernel
theorem dX7_moveTo_2 : decode cX7_moveTo 2 = .ok (.invokestatic 121, 3) := by decide +kernel
theorem dX7_moveTo_5 : decode cX7_moveTo 5 = .ok (.ifCond .ne 5, 3) := by decide +kernel
theorem dX7_moveTo_8 : decode cX7_moveTo 8 = .ok (.iconst (-1), 1) := by decide +kernel
theorem dX7_moveTo_9 : decode cX7_moveTo 9 = .ok (.ireturn, 1) := by decide +kernel
theorem dX7_moveTo_10 : decode cX7_moveTo 10 = .ok (.aload_n 0, 1) := by decide +kernel
theorem dX7_moveTo_11 : decode cX7_moveTo 11 = .ok (.getfield 31, 3) := by decide +kernel
theorem dX7_moveTo_14 : decode cX7_moveTo 14 = .ok (.aload_n 0, 1) := by decide +kernel
theorem dX7_moveTo_15 : decode cX7_moveTo 15 = .ok (.getfield 45, 3) := by decide +kernel
theorem dX7_moveTo_18 : decode cX7_moveTo 18 = .ok (.invokevirtual 125, 3) := by decide +kernel
theorem dX7_moveTo_21 : decode cX7_moveTo 21 = .ok (.aload_n 0, 1) := by decide +kernel
theorem dX7_moveTo_22 : decode cX7_moveTo 22 = .ok (.getfield 45, 3) := by decide +kernel
theorem dX7_moveTo_25 : decode cX7_moveTo 25 = .ok (.getfield 129, 3) := by decide +kernel
theorem dX7_moveTo_28 : decode cX7_moveTo 28 = .ok (.getfield 132, 3) := by decide +kernel
theorem dX7_moveTo_31 : decode cX7_moveTo 31 = .ok (.istore_n 3, 1) := by decide +kernel
theorem dX7_moveTo_32 : decode cX7_moveTo 32 = .ok (.aload_n 0, 1) := by decide +kernel
theorem dX7_moveTo_33 : decode cX7_moveTo 33 = .ok (.getfield 45, 3) := by decide +kernel
theorem dX7_moveTo_36 : decode cX7_moveTo 36 = .ok (.getfield 135, 3) := by decide +kernel
theorem dX7_moveTo_39 : decode cX7_moveTo 39 = .ok (.istore 4, 2) := by decide +kernel
theorem dX7_moveTo_41 : decode cX7_moveTo 41 = .ok (.iload 4, 2) := by decide +kernel
theorem dX7_moveTo_43 : decode cX7_moveTo 43 = .ok (.iload_n 1, 1) := by decide +kernel
theorem dX7_moveTo_44 : decode cX7_moveTo 44 = .ok (.iload_n 2, 1) := by decide +kernel
theorem dX7_moveTo_45 : decode cX7_moveTo 45 = .ok (.invokestatic 138, 3) := by decide +kernel
theorem dX7_moveTo_48 : decode cX7_moveTo 48 = .ok (.istore 5, 2) := by decide +kernel
theorem dX7_moveTo_50 : decode cX7_moveTo 50 = .ok (.iconst 1, 1) := by decide +kernel
theorem dX7_moveTo_51 : decode cX7_moveTo 51 = .ok (.istore 6, 2) := by decide +kernel
theorem dX7_moveTo_53 : decode cX7_moveTo 53 = .ok (.iload 6, 2) := by decide +kernel
theorem dX7_moveTo_55 : decode cX7_moveTo 55 = .ok (.iload 5, 2) := by decide +kernel
theorem dX7_moveTo_57 : decode cX7_moveTo 57 = .ok (.if_icmp .gt 23, 3) := by decide +kernel
theorem dX7_moveTo_60 : decode cX7_moveTo 60 = .ok (.aload_n 0, 1) := by decide +kernel
theorem dX7_moveTo_61 : decode cX7_moveTo 61 = .ok (.iload 4, 2) := by decide +kernel
theorem dX7_moveTo_63 : decode cX7_moveTo 63 = .ok (.iload_n 1, 1) := by decide +kernel
theorem dX7_moveTo_64 : decode cX7_moveTo 64 = .ok (.iload 6, 2) := by decide +kernel
theorem dX7_moveTo_66 : decode cX7_moveTo 66 = .ok (.iload_n 2, 1) := by decide +kernel
theorem dX7_moveTo_67 : decode cX7_moveTo 67 = .ok (.imul, 1) := by decide +kernel
theorem dX7_moveTo_68 : decode cX7_moveTo 68 = .ok (.invokestatic 142, 3) := by decide +kernel
theorem dX7_moveTo_71 : decode cX7_moveTo 71 = .ok (.invokevirtual 145, 3) := by decide +kernel
theorem dX7_moveTo_74 : decode cX7_moveTo 74 = .ok (.iinc 6 1, 3) := by decide +kernel
theorem dX7_moveTo_77 : decode cX7_moveTo 77 = .ok (.goto (-24), 3) := by decide +kernel
theorem dX7_moveTo_80 : decode cX7_moveTo 80 = .ok (.aload_n 0, 1) := by decide +kernel
theorem dX7_moveTo_81 : decode cX7_moveTo 81 = .ok (.getfield 45, 3) := by decide +kernel
theorem dX7_moveTo_84 : decode cX7_moveTo 84 = .ok (.getfield 129, 3) := by decide +kernel
theorem dX7_moveTo_87 : decode cX7_moveTo 87 = .ok (.getfield 132, 3) := by decide +kernel
theorem dX7_moveTo_90 : decode cX7_moveTo 90 = .ok (.iload_n 3, 1) := by decide +kernel
theorem dX7_moveTo_91 : decode cX7_moveTo 91 = .ok (.isub, 1) := by decide +kernel
theorem dX7_moveTo_92 : decode cX7_moveTo 92 = .ok (.ireturn, 1) := by decide +kernel
theorem dX7_setMode_0 : decode cX7_setMode 0 = .ok (.iload_n 1, 1) := by decide +kernel
theorem dX7_setMode_1 : decode cX7_setMode 1 = .ok (.invokestatic 148, 3) := by decide +kernel
theorem dX7_setMode_4 : decode cX7_setMode 4 = .ok (.ifCond .ne 5, 3) := by decide +kernel
theorem dX7_setMode_7 : decode cX7_setMode 7 = .ok (.iconst (-1), 1) := by decide +kernel
theorem dX7_setMode_8 : decode cX7_setMode 8 = .ok (.ireturn, 1) := by decide +kernel
theorem dX7_setMode_9 : decode cX7_setMode 9 = .ok (.aload_n 0, 1) := by decide +kernel
theorem dX7_setMode_10 : decode cX7_setMode 10 = .ok (.getfield 31, 3) := by decide +kernel
theorem dX7_setMode_13 : decode cX7_setMode 13 = .ok (.aload_n 0, 1) := by decide +kernel
theorem dX7_setMode_14 : decode cX7_setMode 14 = .ok (.getfield 45, 3) := by decide +kernel
theorem dX7_setMode_17 : decode cX7_setMode 17 = .ok (.invokevirtual 125, 3) := by decide +kernel
theorem dX7_setMode_20 : decode cX7_setMode 20 = .ok (.aload_n 0, 1) := by decide +kernel
theorem dX7_setMode_21 : decode cX7_setMode 21 = .ok (.getfield 45, 3) := by decide +kernel
theorem dX7_setMode_24 : decode cX7_setMode 24 = .ok (.getfield 152, 3) := by decide +kernel
theorem dX7_setMode_27 : decode cX7_setMode 27 = .ok (.istore_n 2, 1) := by decide +kernel
theorem dX7_setMode_28 : decode cX7_setMode 28 = .ok (.aload_n 0, 1) := by decide +kernel
theorem dX7_setMode_29 : decode cX7_setMode 29 = .ok (.getfield 45, 3) := by decide +kernel
theorem dX7_setMode_32 : decode cX7_setMode 32 = .ok (.iload_n 1, 1) := by decide +kernel
theorem dX7_setMode_33 : decode cX7_setMode 33 = .ok (.putfield 152, 3) := by decide +kernel
theorem dX7_setMode_36 : decode cX7_setMode 36 = .ok (.aload_n 0, 1) := by decide +kernel
theorem dX7_setMode_37 : decode cX7_setMode 37 = .ok (.getfield 45, 3) := by decide +kernel
theorem dX7_setMode_40 : decode cX7_setMode 40 = .ok (.getfield 129, 3) := by decide +kernel
theorem dX7_setMode_43 : decode cX7_setMode 43 = .ok (.aload_n 0, 1) := by decide +kernel
theorem dX7_setMode_44 : decode cX7_setMode 44 = .ok (.aload_n 0, 1) := by decide +kernel
theorem dX7_setMode_45 : decode cX7_setMode 45 = .ok (.getfield 45, 3) := by decide +kernel
theorem dX7_setMode_48 : decode cX7_setMode 48 = .ok (.getfield 135, 3) := by decide +kernel
theorem dX7_setMode_51 : decode cX7_setMode 51 = .ok (.invokevirtual 155, 3) := by decide +kernel
theorem dX7_setMode_54 : decode cX7_setMode 54 = .ok (.i2l, 1) := by decide +kernel
theorem dX7_setMode_55 : decode cX7_setMode 55 = .ok (.putfield 158, 3) := by decide +kernel
theorem dX7_setMode_58 : decode cX7_setMode 58 = .ok (.aload_n 0, 1) := by decide +kernel
theorem dX7_setMode_59 : decode cX7_setMode 59 = .ok (.getfield 45, 3) := by decide +kernel
theorem dX7_setMode_62 : decode cX7_setMode 62 = .ok (.getfield 162, 3) := by decide +kernel
theorem dX7_setMode_65 : decode cX7_setMode 65 = .ok (.invokevirtual 166, 3) := by decide +kernel
theorem dX7_setMode_68 : decode cX7_setMode 68 = .ok (.iload_n 2, 1) := by decide +kernel
theorem dX7_setMode_69 : decode cX7_setMode 69 = .ok (.ireturn, 1) := by decide +kernel
theorem dX7_setIndexGrating_0 : decode cX7_setIndexGrating 0 = .ok (.iload_n 1, 1) := by decide +kernel
theorem dX7_setIndexGrating_1 : decode cX7_setIndexGrating 1 = .ok (.iload_n 2, 1) := by decide +kernel
theorem dX7_setIndexGrating_2 : decode cX7_setIndexGrating 2 = .ok (.invokestatic 169, 3) := by decide +kernel
theorem dX7_setIndexGrating_5 : decode cX7_setIndexGrating 5 = .ok (.ifCond .ne 5, 3) := by decide +kernel
theorem dX7_setIndexGrating_8 : decode cX7_setIndexGrating 8 = .ok (.iconst (-1), 1) := by decide +kernel
theorem dX7_setIndexGrating_9 : decode cX7_setIndexGrating 9 = .ok (.ireturn, 1) := by decide +kernel
theorem dX7_setIndexGrating_10 : decode cX7_setIndexGrating 10 = .ok (.aload_n 0, 1) := by decide +kernel
theorem dX7_setIndexGrating_11 : decode cX7_setIndexGrating 11 = .ok (.getfield 31, 3) := by decide +kernel
theorem dX7_setIndexGrating_14 : decode cX7_setIndexGrating 14 = .ok (.aload_n 0, 1) := by decide +kernel
theorem dX7_setIndexGrating_15 : decode cX7_setIndexGrating 15 = .ok (.getfield 45, 3) := by decide +kernel
theorem dX7_setIndexGrating_18 : decode cX7_setIndexGrating 18 = .ok (.invokevirtual 125, 3) := by decide +kernel
theorem dX7_setIndexGrating_21 : decode cX7_setIndexGrating 21 = .ok (.aload_n 0, 1) := by decide +kernel
theorem dX7_setIndexGrating_22 : decode cX7_setIndexGrating 22 = .ok (.getfield 45, 3) := by decide +kernel
theorem dX7_setIndexGrating_25 : decode cX7_setIndexGrating 25 = .ok (.getfield 172, 3) := by decide +kernel
theorem dX7_setIndexGrating_28 : decode cX7_setIndexGrating 28 = .ok (.istore_n 3, 1) := by decide +kernel
theorem dX7_setIndexGrating_29 : decode cX7_setIndexGrating 29 = .ok (.aload_n 0, 1) := by decide +kernel
theorem dX7_setIndexGrating_30 : decode cX7_setIndexGrating 30 = .ok (.getfield 45, 3) := by decide +kernel
theorem dX7_setIndexGrating_33 : decode cX7_setIndexGrating 33 = .ok (.iload_n 1, 1) := by decide +kernel
theorem dX7_setIndexGrating_34 : decode cX7_setIndexGrating 34 = .ok (.putfield 172, 3) := by decide +kernel
theorem dX7_setIndexGrating_37 : decode cX7_setIndexGrating 37 = .ok (.aload_n 0, 1) := by decide +kernel
theorem dX7_setIndexGrating_38 : decode cX7_setIndexGrating 38 = .ok (.getfield 45, 3) := by decide +kernel
theorem dX7_setIndexGrating_41 : decode cX7_setIndexGrating 41 = .ok (.iload_n 2, 1) := by decide +kernel
theorem dX7_setIndexGrating_42 : decode cX7_setIndexGrating 42 = .ok (.putfield 175, 3) := by decide +kernel
theorem dX7_setIndexGrating_45 : decode cX7_setIndexGrating 45 = .ok (.iload_n 3, 1) := by decide +kernel
theorem dX7_setIndexGrating_46 : decode cX7_setIndexGrating 46 = .ok (.ireturn, 1) := by decide +kernel
theorem dX7_addDirt_0 : decode cX7_addDirt 0 = .ok (.iload_n 1, 1) := by decide +kernel
theorem dX7_addDirt_1 : decode cX7_addDirt 1 = .ok (.iload_n 2, 1) := by decide +kernel
theorem dX7_addDirt_2 : decode cX7_addDirt 2 = .ok (.invokestatic 178, 3) := by decide +kernel
theorem dX7_addDirt_5 : decode cX7_addDirt 5 = .ok (.ifCond .ne 5, 3) := by decide +kernel
theorem dX7_addDirt_8 : decode cX7_addDirt 8 = .ok (.iconst (-1), 1) := by decide +kernel
theorem dX7_addDirt_9 : decode cX7_addDirt 9 = .ok (.ireturn, 1) := by decide +kernel
theorem dX7_addDirt_10 : decode cX7_addDirt 10 = .ok (.aload_n 0, 1) := by decide +kernel
theorem dX7_addDirt_11 : decode cX7_addDirt 11 = .ok (.getfield 45, 3) := by decide +kernel
theorem dX7_addDirt_14 : decode cX7_addDirt 14 = .ok (.getfield 181, 3) := by decide +kernel
theorem dX7_addDirt_17 : decode cX7_addDirt 17 = .ok (.invokevirtual 185, 3) := by decide +kernel
theorem dX7_addDirt_20 : decode cX7_addDirt 20 = .ok (.ifCond .eq 6, 3) := by decide +kernel
theorem dX7_addDirt_23 : decode cX7_addDirt 23 = .ok (.bipush (-3), 2) := by decide +kernel
theorem dX7_addDirt_25 : decode cX7_addDirt 25 = .ok (.ireturn, 1) := by decide +kernel
theorem dX7_addDirt_26 : decode cX7_addDirt 26 = .ok (.aload_n 0, 1) := by decide +kernel
theorem dX7_addDirt_27 : decode cX7_addDirt 27 = .ok (.getfield 31, 3) := by decide +kernel
theorem dX7_addDirt_30 : decode cX7_addDirt 30 = .ok (.aload_n 0, 1) := by decide +kernel
theorem dX7_addDirt_31 : decode cX7_addDirt 31 = .ok (.getfield 45, 3) := by decide +kernel
theorem dX7_addDirt_34 : decode cX7_addDirt 34 = .ok (.invokevirtual 125, 3) := by decide +kernel
theorem dX7_addDirt_37 : decode cX7_addDirt 37 = .ok (.aload_n 0, 1) := by decide +kernel
theorem dX7_addDirt_38 : decode cX7_addDirt 38 = .ok (.getfield 45, 3) := by decide +kernel
theorem dX7_addDirt_41 : decode cX7_addDirt 41 = .ok (.getfield 181, 3) := by decide +kernel
theorem dX7_addDirt_44 : decode cX7_addDirt 44 = .ok (.iload_n 1, 1) := by decide +kernel
theorem dX7_addDirt_45 : decode cX7_addDirt 45 = .ok (.iload_n 2, 1) := by decide +kernel
theorem dX7_addDirt_46 : decode cX7_addDirt 46 = .ok (.invokevirtual 188, 3) := by decide +kernel
theorem dX7_addDirt_49 : decode cX7_addDirt 49 = .ok (.aload_n 0, 1) := by decide +kernel
theorem dX7_addDirt_50 : decode cX7_addDirt 50 = .ok (.getfield 45, 3) := by decide +kernel
theorem dX7_addDirt_53 : decode cX7_addDirt 53 = .ok (.getfield 181, 3) := by decide +kernel
theorem dX7_addDirt_56 : decode cX7_addDirt 56 = .ok (.getfield 191, 3) := by decide +kernel
theorem dX7_addDirt_59 : decode cX7_addDirt 59 = .ok (.invokevirtual 82, 3) := by decide +kernel
theorem dX7_addDirt_62 : decode cX7_addDirt 62 = .ok (.ireturn, 1) := by decide +kernel
theorem dX7_removeDirt_0 : decode cX7_removeDirt 0 = .ok (.aload_n 0, 1) := by decide +kernel
theorem dX7_removeDirt_1 : decode cX7_removeDirt 1 = .ok (.getfield 45, 3) := by decide +kernel
theorem dX7_removeDirt_4 : decode cX7_removeDirt 4 = .ok (.getfield 181, 3) := by decide +kernel
theorem dX7_removeDirt_7 : decode cX7_removeDirt 7 = .ok (.getfield 191, 3) := by decide +kernel
theorem dX7_removeDirt_10 : decode cX7_removeDirt 10 = .ok (.iload_n 1, 1) := by decide +kernel
theorem dX7_removeDirt_11 : decode cX7_removeDirt 11 = .ok (.invokevirtual 194, 3) := by decide +kernel
theorem dX7_removeDirt_14 : decode cX7_removeDirt 14 = .ok (.ifCond .ne 5, 3) := by decide +kernel
theorem dX7_removeDirt_17 : decode cX7_removeDirt 17 = .ok (.iconst (-1), 1) := by decide +kernel
theorem dX7_removeDirt_18 : decode cX7_removeDirt 18 = .ok (.ireturn, 1) := by decide +kernel
theorem dX7_removeDirt_19 : decode cX7_removeDirt 19 = .ok (.aload_n 0, 1) := by decide +kernel
theorem dX7_removeDirt_20 : decode cX7_removeDirt 20 = .ok (.getfield 31, 3) := by decide +kernel
theorem dX7_removeDirt_23 : decode cX7_removeDirt 23 = .ok (.aload_n 0, 1) := by decide +kernel
theorem dX7_removeDirt_24 : decode cX7_removeDirt 24 = .ok (.getfield 45, 3) := by decide +kernel
theorem dX7_removeDirt_27 : decode cX7_removeDirt 27 = .ok (.invokevirtual 125, 3) := by decide +kernel
theorem dX7_removeDirt_30 : decode cX7_removeDirt 30 = .ok (.aload_n 0, 1) := by decide +kernel
theorem dX7_removeDirt_31 : decode cX7_removeDirt 31 = .ok (.getfield 45, 3) := by decide +kernel
theorem dX7_removeDirt_34 : decode cX7_removeDirt 34 = .ok (.getfield 181, 3) := by decide +kernel
theorem dX7_removeDirt_37 : decode cX7_removeDirt 37 = .ok (.getfield 197, 3) := by decide +kernel
theorem dX7_removeDirt_40 : decode cX7_removeDirt 40 = .ok (.iload_n 1, 1) := by decide +kernel
theorem dX7_removeDirt_41 : decode cX7_removeDirt 41 = .ok (.invokevirtual 96, 3) := by decide +kernel
theorem dX7_removeDirt_44 : decode cX7_removeDirt 44 = .ok (.istore_n 2, 1) := by decide +kernel
theorem dX7_removeDirt_45 : decode cX7_removeDirt 45 = .ok (.aload_n 0, 1) := by decide +kernel
theorem dX7_removeDirt_46 : decode cX7_removeDirt 46 = .ok (.getfield 45, 3) := by decide +kernel
theorem dX7_removeDirt_49 : decode cX7_removeDirt 49 = .ok (.getfield 181, 3) := by decide +kernel
theorem dX7_removeDirt_52 : decode cX7_removeDirt 52 = .ok (.iload_n 1, 1) := by decide +kernel
theorem dX7_removeDirt_53 : decode cX7_removeDirt 53 = .ok (.invokevirtual 200, 3) := by decide +kernel
theorem dX7_removeDirt_56 : decode cX7_removeDirt 56 = .ok (.iload_n 2, 1) := by decide +kernel
theorem dX7_removeDirt_57 : decode cX7_removeDirt 57 = .ok (.ireturn, 1) := by decide +kernel
theorem dX7_zeroSlip_0 : decode cX7_zeroSlip 0 = .ok (.aload_n 0, 1) := by decide +kernel
theorem dX7_zeroSlip_1 : decode cX7_zeroSlip 1 = .ok (.getfield 31, 3) := by decide +kernel
theorem dX7_zeroSlip_4 : decode cX7_zeroSlip 4 = .ok (.aload_n 0, 1) := by decide +kernel
theorem dX7_zeroSlip_5 : decode cX7_zeroSlip 5 = .ok (.getfield 45, 3) := by decide +kernel
theorem dX7_zeroSlip_8 : decode cX7_zeroSlip 8 = .ok (.invokevirtual 125, 3) := by decide +kernel
theorem dX7_zeroSlip_11 : decode cX7_zeroSlip 11 = .ok (.aload_n 0, 1) := by decide +kernel
theorem dX7_zeroSlip_12 : decode cX7_zeroSlip 12 = .ok (.getfield 45, 3) := by decide +kernel
theorem dX7_zeroSlip_15 : decode cX7_zeroSlip 15 = .ok (.getfield 129, 3) := by decide +kernel
theorem dX7_zeroSlip_18 : decode cX7_zeroSlip 18 = .ok (.getfield 158, 3) := by decide +kernel
theorem dX7_zeroSlip_21 : decode cX7_zeroSlip 21 = .ok (.lstore_n 1, 1) := by decide +kernel
theorem dX7_zeroSlip_22 : decode cX7_zeroSlip 22 = .ok (.aload_n 0, 1) := by decide +kernel
theorem dX7_zeroSlip_23 : decode cX7_zeroSlip 23 = .ok (.getfield 45, 3) := by decide +kernel
theorem dX7_zeroSlip_26 : decode cX7_zeroSlip 26 = .ok (.getfield 129, 3) := by decide +kernel
theorem dX7_zeroSlip_29 : decode cX7_zeroSlip 29 = .ok (.aload_n 0, 1) := by decide +kernel
theorem dX7_zeroSlip_30 : decode cX7_zeroSlip 30 = .ok (.aload_n 0, 1) := by decide +kernel
theorem dX7_zeroSlip_31 : decode cX7_zeroSlip 31 = .ok (.getfield 45, 3) := by decide +kernel
theorem dX7_zeroSlip_34 : decode cX7_zeroSlip 34 = .ok (.getfield 135, 3) := by decide +kernel
theorem dX7_zeroSlip_37 : decode cX7_zeroSlip 37 = .ok (.invokevirtual 155, 3) := by decide +kernel
theorem dX7_zeroSlip_40 : decode cX7_zeroSlip 40 = .ok (.i2l, 1) := by decide +kernel
theorem dX7_zeroSlip_41 : decode cX7_zeroSlip 41 = .ok (.putfield 158, 3) := by decide +kernel
theorem dX7_zeroSlip_44 : decode cX7_zeroSlip 44 = .ok (.aload_n 0, 1) := by decide +kernel
theorem dX7_zeroSlip_45 : decode cX7_zeroSlip 45 = .ok (.getfield 45, 3) := by decide +kernel
theorem dX7_zeroSlip_48 : decode cX7_zeroSlip 48 = .ok (.getfield 129, 3) := by decide +kernel
theorem dX7_zeroSlip_51 : decode cX7_zeroSlip 51 = .ok (.getfield 158, 3) := by decide +kernel
theorem dX7_zeroSlip_54 : decode cX7_zeroSlip 54 = .ok (.lload_n 1, 1) := by decide +kernel
theorem dX7_zeroSlip_55 : decode cX7_zeroSlip 55 = .ok (.lcmp, 1) := by decide +kernel
theorem dX7_zeroSlip_56 : decode cX7_zeroSlip 56 = .ok (.ifCond .eq 7, 3) := by decide +kernel
theorem dX7_zeroSlip_59 : decode cX7_zeroSlip 59 = .ok (.iconst 1, 1) := by decide +kernel
theorem dX7_zeroSlip_60 : decode cX7_zeroSlip 60 = .ok (.goto 4, 3) := by decide +kernel
theorem dX7_zeroSlip_63 : decode cX7_zeroSlip 63 = .ok (.iconst 0, 1) := by decide +kernel
theorem dX7_zeroSlip_64 : decode cX7_zeroSlip 64 = .ok (.ireturn, 1) := by decide +kernel
theorem dX7_recover_0 : decode cX7_recover 0 = .ok (.iload_n 1, 1) := by decide +kernel
theorem dX7_recover_1 : decode cX7_recover 1 = .ok (.iconst 0, 1) := by decide +kernel
theorem dX7_recover_2 : decode cX7_recover 2 = .ok (.bipush 9, 2) := by decide +kernel
theorem dX7_recover_4 : decode cX7_recover 4 = .ok (.invokestatic 74, 3) := by decide +kernel
theorem dX7_recover_7 : decode cX7_recover 7 = .ok (.ifCond .ne 5, 3) := by decide +kernel
theorem dX7_recover_10 : decode cX7_recover 10 = .ok (.iconst (-1), 1) := by decide +kernel
theorem dX7_recover_11 : decode cX7_recover 11 = .ok (.ireturn, 1) := by decide +kernel
theorem dX7_recover_12 : decode cX7_recover 12 = .ok (.aload_n 0, 1) := by decide +kernel
theorem dX7_recover_13 : decode cX7_recover 13 = .ok (.getfield 45, 3) := by decide +kernel
theorem dX7_recover_16 : decode cX7_recover 16 = .ok (.getfield 162, 3) := by decide +kernel
theorem dX7_recover_19 : decode cX7_recover 19 = .ok (.iconst 0, 1) := by decide +kernel
theorem dX7_recover_20 : decode cX7_recover 20 = .ok (.invokevirtual 203, 3) := by decide +kernel
theorem dX7_recover_23 : decode cX7_recover 23 = .ok (.istore_n 2, 1) := by decide +kernel
theorem dX7_recover_24 : decode cX7_recover 24 = .ok (.iload_n 2, 1) := by decide +kernel
theorem dX7_recover_25 : decode cX7_recover 25 = .ok (.ifCond .ge 8, 3) := by decide +kernel
theorem dX7_recover_28 : decode cX7_recover 28 = .ok (.bipush (-4), 2) := by decide +kernel
theorem dX7_recover_30 : decode cX7_recover 30 = .ok (.goto 16, 3) := by decide +kernel
theorem dX7_recover_33 : decode cX7_recover 33 = .ok (.aload_n 0, 1) := by decide +kernel
theorem dX7_recover_34 : decode cX7_recover 34 = .ok (.getfield 45, 3) := by decide +kernel
theorem dX7_recover_37 : decode cX7_recover 37 = .ok (.getfield 162, 3) := by decide +kernel
theorem dX7_recover_40 : decode cX7_recover 40 = .ok (.iload_n 2, 1) := by decide +kernel
theorem dX7_recover_41 : decode cX7_recover 41 = .ok (.iconst 1, 1) := by decide +kernel
theorem dX7_recover_42 : decode cX7_recover 42 = .ok (.iadd, 1) := by decide +kernel
theorem dX7_recover_43 : decode cX7_recover 43 = .ok (.invokevirtual 203, 3) := by decide +kernel
theorem dX7_recover_46 : decode cX7_recover 46 = .ok (.istore_n 3, 1) := by decide +kernel
theorem dX7_recover_47 : decode cX7_recover 47 = .ok (.iload_n 3, 1) := by decide +kernel
theorem dX7_recover_48 : decode cX7_recover 48 = .ok (.ifCond .ge 6, 3) := by decide +kernel
theorem dX7_recover_51 : decode cX7_recover 51 = .ok (.bipush (-2), 2) := by decide +kernel
theorem dX7_recover_53 : decode cX7_recover 53 = .ok (.ireturn, 1) := by decide +kernel
theorem dX7_recover_54 : decode cX7_recover 54 = .ok (.aload_n 0, 1) := by decide +kernel
theorem dX7_recover_55 : decode cX7_recover 55 = .ok (.getfield 45, 3) := by decide +kernel
theorem dX7_recover_58 : decode cX7_recover 58 = .ok (.getfield 162, 3) := by decide +kernel
theorem dX7_recover_61 : decode cX7_recover 61 = .ok (.getfield 206, 3) := by decide +kernel
theorem dX7_recover_64 : decode cX7_recover 64 = .ok (.iload_n 2, 1) := by decide +kernel
theorem dX7_recover_65 : decode cX7_recover 65 = .ok (.invokevirtual 209, 3) := by decide +kernel
theorem dX7_recover_68 : decode cX7_recover 68 = .ok (.lstore 4, 2) := by decide +kernel
theorem dX7_recover_70 : decode cX7_recover 70 = .ok (.aload_n 0, 1) := by decide +kernel
theorem dX7_recover_71 : decode cX7_recover 71 = .ok (.getfield 45, 3) := by decide +kernel
theorem dX7_recover_74 : decode cX7_recover 74 = .ok (.getfield 162, 3) := by decide +kernel
theorem dX7_recover_77 : decode cX7_recover 77 = .ok (.getfield 206, 3) := by decide +kernel
theorem dX7_recover_80 : decode cX7_recover 80 = .ok (.iload_n 3, 1) := by decide +kernel
theorem dX7_recover_81 : decode cX7_recover 81 = .ok (.invokevirtual 209, 3) := by decide +kernel
theorem dX7_recover_84 : decode cX7_recover 84 = .ok (.lstore 6, 2) := by decide +kernel
theorem dX7_recover_86 : decode cX7_recover 86 = .ok (.aload_n 0, 1) := by decide +kernel
theorem dX7_recover_87 : decode cX7_recover 87 = .ok (.lload 4, 2) := by decide +kernel
theorem dX7_recover_89 : decode cX7_recover 89 = .ok (.lload 6, 2) := by decide +kernel
theorem dX7_recover_91 : decode cX7_recover 91 = .ok (.lsub, 1) := by decide +kernel
theorem dX7_recover_92 : decode cX7_recover 92 = .ok (.invokestatic 213, 3) := by decide +kernel
theorem dX7_recover_95 : decode cX7_recover 95 = .ok (.iload_n 1, 1) := by decide +kernel
theorem dX7_recover_96 : decode cX7_recover 96 = .ok (.invokevirtual 219, 3) := by decide +kernel
theorem dX7_recover_99 : decode cX7_recover 99 = .ok (.istore 8, 2) := by decide +kernel
theorem dX7_recover_101 : decode cX7_recover 101 = .ok (.iload 8, 2) := by decide +kernel
theorem dX7_recover_103 : decode cX7_recover 103 = .ok (.ifCond .ge 6, 3) := by decide +kernel
theorem dX7_recover_106 : decode cX7_recover 106 = .ok (.iload 8, 2) := by decide +kernel
theorem dX7_recover_108 : decode cX7_recover 108 = .ok (.ireturn, 1) := by decide +kernel
theorem dX7_recover_109 : decode cX7_recover 109 = .ok (.lload 4, 2) := by decide +kernel
theorem dX7_recover_111 : decode cX7_recover 111 = .ok (.lload 6, 2) := by decide +kernel
theorem dX7_recover_113 : decode cX7_recover 113 = .ok (.lcmp, 1) := by decide +kernel
theorem dX7_recover_114 : decode cX7_recover 114 = .ok (.ifCond .le 10, 3) := by decide +kernel
theorem dX7_recover_117 : decode cX7_recover 117 = .ok (.iload 8, 2) := by decide +kernel
theorem dX7_recover_119 : decode cX7_recover 119 = .ok (.iconst 1, 1) := by decide +kernel
theorem dX7_recover_120 : decode cX7_recover 120 = .ok (.iadd, 1) := by decide +kernel
theorem dX7_recover_121 : decode cX7_recover 121 = .ok (.goto 5, 3) := by decide +kernel
theorem dX7_recover_124 : decode cX7_recover 124 = .ok (.iload 8, 2) := by decide +kernel
theorem dX7_recover_126 : decode cX7_recover 126 = .ok (.istore 9, 2) := by decide +kernel
theorem dX7_recover_128 : decode cX7_recover 128 = .ok (.aload_n 0, 1) := by decide +kernel
theorem dX7_recover_129 : decode cX7_recover 129 = .ok (.getfield 31, 3) := by decide +kernel
theorem dX7_recover_132 : decode cX7_recover 132 = .ok (.aload_n 0, 1) := by decide +kernel
theorem dX7_recover_133 : decode cX7_recover 133 = .ok (.getfield 45, 3) := by decide +kernel
theorem dX7_recover_136 : decode cX7_recover 136 = .ok (.invokevirtual 125, 3) := by decide +kernel
theorem dX7_recover_139 : decode cX7_recover 139 = .ok (.aload_n 0, 1) := by decide +kernel
theorem dX7_recover_140 : decode cX7_recover 140 = .ok (.getfield 45, 3) := by decide +kernel
theorem dX7_recover_143 : decode cX7_recover 143 = .ok (.getfield 129, 3) := by decide +kernel
theorem dX7_recover_146 : decode cX7_recover 146 = .ok (.dup, 1) := by decide +kernel
theorem dX7_recover_147 : decode cX7_recover 147 = .ok (.getfield 158, 3) := by decide +kernel
theorem dX7_recover_150 : decode cX7_recover 150 = .ok (.aload_n 0, 1) := by decide +kernel
theorem dX7_recover_151 : decode cX7_recover 151 = .ok (.aload_n 0, 1) := by decide +kernel
theorem dX7_recover_152 : decode cX7_recover 152 = .ok (.getfield 25, 3) := by decide +kernel
theorem dX7_recover_155 : decode cX7_recover 155 = .ok (.iload 9, 2) := by decide +kernel
theorem dX7_recover_157 : decode cX7_recover 157 = .ok (.invokevirtual 96, 3) := by decide +kernel
theorem dX7_recover_160 : decode cX7_recover 160 = .ok (.invokevirtual 155, 3) := by decide +kernel
theorem dX7_recover_163 : decode cX7_recover 163 = .ok (.i2l, 1) := by decide +kernel
theorem dX7_recover_164 : decode cX7_recover 164 = .ok (.lload 4, 2) := by decide +kernel
theorem dX7_recover_166 : decode cX7_recover 166 = .ok (.lsub, 1) := by decide +kernel
theorem dX7_recover_167 : decode cX7_recover 167 = .ok (.ladd, 1) := by decide +kernel
theorem dX7_recover_168 : decode cX7_recover 168 = .ok (.putfield 158, 3) := by decide +kernel
theorem dX7_recover_171 : decode cX7_recover 171 = .ok (.iload 9, 2) := by decide +kernel
theorem dX7_recover_173 : decode cX7_recover 173 = .ok (.ireturn, 1) := by decide +kernel
theorem dX7_undo_0 : decode cX7_undo 0 = .ok (.aload_n 0, 1) := by decide +kernel
theorem dX7_undo_1 : decode cX7_undo 1 = .ok (.getfield 31, 3) := by decide +kernel
theorem dX7_undo_4 : decode cX7_undo 4 = .ok (.getfield 223, 3) := by decide +kernel
theorem dX7_undo_7 : decode cX7_undo 7 = .ok (.ifCond .ne 6, 3) := by decide +kernel
theorem dX7_undo_10 : decode cX7_undo 10 = .ok (.bipush (-2), 2) := by decide +kernel
theorem dX7_undo_12 : decode cX7_undo 12 = .ok (.ireturn, 1) := by decide +kernel
theorem dX7_undo_13 : decode cX7_undo 13 = .ok (.aload_n 0, 1) := by decide +kernel
theorem dX7_undo_14 : decode cX7_undo 14 = .ok (.aload_n 0, 1) := by decide +kernel
theorem dX7_undo_15 : decode cX7_undo 15 = .ok (.getfield 31, 3) := by decide +kernel
theorem dX7_undo_18 : decode cX7_undo 18 = .ok (.aload_n 0, 1) := by decide +kernel
theorem dX7_undo_19 : decode cX7_undo 19 = .ok (.getfield 45, 3) := by decide +kernel
theorem dX7_undo_22 : decode cX7_undo 22 = .ok (.invokevirtual 225, 3) := by decide +kernel
theorem dX7_undo_25 : decode cX7_undo 25 = .ok (.putfield 45, 3) := by decide +kernel
theorem dX7_undo_28 : decode cX7_undo 28 = .ok (.aload_n 0, 1) := by decide +kernel
theorem dX7_undo_29 : decode cX7_undo 29 = .ok (.getfield 31, 3) := by decide +kernel
theorem dX7_undo_32 : decode cX7_undo 32 = .ok (.getfield 223, 3) := by decide +kernel
theorem dX7_undo_35 : decode cX7_undo 35 = .ok (.ireturn, 1) := by decide +kernel
theorem dX7_matchingPair_0 : decode cX7_matchingPair 0 = .ok (.bipush (-4), 2) := by decide +kernel
theorem dX7_matchingPair_2 : decode cX7_matchingPair 2 = .ok (.istore 4, 2) := by decide +kernel
theorem dX7_matchingPair_4 : decode cX7_matchingPair 4 = .ok (.iconst 0, 1) := by decide +kernel
theorem dX7_matchingPair_5 : decode cX7_matchingPair 5 = .ok (.istore 5, 2) := by decide +kernel
theorem dX7_matchingPair_7 : decode cX7_matchingPair 7 = .ok (.iload 5, 2) := by decide +kernel
theorem dX7_matchingPair_9 : decode cX7_matchingPair 9 = .ok (.iconst 1, 1) := by decide +kernel
theorem dX7_matchingPair_10 : decode cX7_matchingPair 10 = .ok (.iadd, 1) := by decide +kernel
theorem dX7_matchingPair_11 : decode cX7_matchingPair 11 = .ok (.aload_n 0, 1) := by decide +kernel
theorem dX7_matchingPair_12 : decode cX7_matchingPair 12 = .ok (.getfield 25, 3) := by decide +kernel
theorem dX7_matchingPair_15 : decode cX7_matchingPair 15 = .ok (.invokevirtual 82, 3) := by decide +kernel
theorem dX7_matchingPair_18 : decode cX7_matchingPair 18 = .ok (.if_icmp .ge 74, 3) := by decide +kernel
theorem dX7_matchingPair_21 : decode cX7_matchingPair 21 = .ok (.aload_n 0, 1) := by decide +kernel
theorem dX7_matchingPair_22 : decode cX7_matchingPair 22 = .ok (.aload_n 0, 1) := by decide +kernel
theorem dX7_matchingPair_23 : decode cX7_matchingPair 23 = .ok (.getfield 25, 3) := by decide +kernel
theorem dX7_matchingPair_26 : decode cX7_matchingPair 26 = .ok (.iload 5, 2) := by decide +kernel
theorem dX7_matchingPair_28 : decode cX7_matchingPair 28 = .ok (.iconst 1, 1) := by decide +kernel
theorem dX7_matchingPair_29 : decode cX7_matchingPair 29 = .ok (.iadd, 1) := by decide +kernel
theorem dX7_matchingPair_30 : decode cX7_matchingPair 30 = .ok (.invokevirtual 96, 3) := by decide +kernel
theorem dX7_matchingPair_33 : decode cX7_matchingPair 33 = .ok (.invokevirtual 155, 3) := by decide +kernel
theorem dX7_matchingPair_36 : decode cX7_matchingPair 36 = .ok (.aload_n 0, 1) := by decide +kernel
theorem dX7_matchingPair_37 : decode cX7_matchingPair 37 = .ok (.aload_n 0, 1) := by decide +kernel
theorem dX7_matchingPair_38 : decode cX7_matchingPair 38 = .ok (.getfield 25, 3) := by decide +kernel
theorem dX7_matchingPair_41 : decode cX7_matchingPair 41 = .ok (.iload 5, 2) := by decide +kernel
theorem dX7_matchingPair_43 : decode cX7_matchingPair 43 = .ok (.invokevirtual 96, 3) := by decide +kernel
theorem dX7_matchingPair_46 : decode cX7_matchingPair 46 = .ok (.invokevirtual 155, 3) := by decide +kernel
theorem dX7_matchingPair_49 : decode cX7_matchingPair 49 = .ok (.isub, 1) := by decide +kernel
theorem dX7_matchingPair_50 : decode cX7_matchingPair 50 = .ok (.istore 6, 2) := by decide +kernel
theorem dX7_matchingPair_52 : decode cX7_matchingPair 52 = .ok (.lload_n 1, 1) := by decide +kernel
theorem dX7_matchingPair_53 : decode cX7_matchingPair 53 = .ok (.iload 6, 2) := by decide +kernel
theorem dX7_matchingPair_55 : decode cX7_matchingPair 55 = .ok (.iload_n 3, 1) := by decide +kernel
theorem dX7_matchingPair_56 : decode cX7_matchingPair 56 = .ok (.isub, 1) := by decide +kernel
theorem dX7_matchingPair_57 : decode cX7_matchingPair 57 = .ok (.i2l, 1) := by decide +kernel
theorem dX7_matchingPair_58 : decode cX7_matchingPair 58 = .ok (.lcmp, 1) := by decide +kernel
theorem dX7_matchingPair_59 : decode cX7_matchingPair 59 = .ok (.ifCond .lt 27, 3) := by decide +kernel
theorem dX7_matchingPair_62 : decode cX7_matchingPair 62 = .ok (.lload_n 1, 1) := by decide +kernel
theorem dX7_matchingPair_63 : decode cX7_matchingPair 63 = .ok (.iload 6, 2) := by decide +kernel
theorem dX7_matchingPair_65 : decode cX7_matchingPair 65 = .ok (.iload_n 3, 1) := by decide +kernel
theorem dX7_matchingPair_66 : decode cX7_matchingPair 66 = .ok (.iadd, 1) := by decide +kernel
theorem dX7_matchingPair_67 : decode cX7_matchingPair 67 = .ok (.i2l, 1) := by decide +kernel
theorem dX7_matchingPair_68 : decode cX7_matchingPair 68 = .ok (.lcmp, 1) := by decide +kernel
theorem dX7_matchingPair_69 : decode cX7_matchingPair 69 = .ok (.ifCond .gt 17, 3) := by decide +kernel
theorem dX7_matchingPair_72 : decode cX7_matchingPair 72 = .ok (.iload 4, 2) := by decide +kernel
theorem dX7_matchingPair_74 : decode cX7_matchingPair 74 = .ok (.bipush (-4), 2) := by decide +kernel
theorem dX7_matchingPair_76 : decode cX7_matchingPair 76 = .ok (.if_icmp .eq 6, 3) := by decide +kernel
theorem dX7_matchingPair_79 : decode cX7_matchingPair 79 = .ok (.bipush (-5), 2) := by decide +kernel
theorem dX7_matchingPair_81 : decode cX7_matchingPair 81 = .ok (.ireturn, 1) := by decide +kernel
theorem dX7_matchingPair_82 : decode cX7_matchingPair 82 = .ok (.iload 5, 2) := by decide +kernel
theorem dX7_matchingPair_84 : decode cX7_matchingPair 84 = .ok (.istore 4, 2) := by decide +kernel
theorem dX7_matchingPair_86 : decode cX7_matchingPair 86 = .ok (.iinc 5 1, 3) := by decide +kernel
theorem dX7_matchingPair_89 : decode cX7_matchingPair 89 = .ok (.goto (-82), 3) := by decide +kernel
theorem dX7_matchingPair_92 : decode cX7_matchingPair 92 = .ok (.iload 4, 2) := by decide +kernel
theorem dX7_matchingPair_94 : decode cX7_matchingPair 94 = .ok (.ireturn, 1) := by decide +kernel
theorem dX7_sampleCount_0 : decode cX7_sampleCount 0 = .ok (.iload_n 1, 1) := by decide +kernel
theorem dX7_sampleCount_1 : decode cX7_sampleCount 1 = .ok (.iload_n 0, 1) := by decide +kernel
theorem dX7_sampleCount_2 : decode cX7_sampleCount 2 = .ok (.isub, 1) := by decide +kernel
theorem dX7_sampleCount_3 : decode cX7_sampleCount 3 = .ok (.invokestatic 229, 3) := by decide +kernel
theorem dX7_sampleCount_6 : decode cX7_sampleCount 6 = .ok (.iload_n 2, 1) := by decide +kernel
theorem dX7_sampleCount_7 : decode cX7_sampleCount 7 = .ok (.iadd, 1) := by decide +kernel
theorem dX7_sampleCount_8 : decode cX7_sampleCount 8 = .ok (.iconst 1, 1) := by decide +kernel
theorem dX7_sampleCount_9 : decode cX7_sampleCount 9 = .ok (.isub, 1) := by decide +kernel
theorem dX7_sampleCount_10 : decode cX7_sampleCount 10 = .ok (.iload_n 2, 1) := by decide +kernel
theorem dX7_sampleCount_11 : decode cX7_sampleCount 11 = .ok (.invokestatic 231, 3) := by decide +kernel
theorem dX7_sampleCount_14 : decode cX7_sampleCount 14 = .ok (.ireturn, 1) := by decide +kernel
theorem dX7_samplePosition_0 : decode cX7_samplePosition 0 = .ok (.iload_n 2, 1) := by decide +kernel
theorem dX7_samplePosition_1 : decode cX7_samplePosition 1 = .ok (.iload_n 1, 1) := by decide +kernel
theorem dX7_samplePosition_2 : decode cX7_samplePosition 2 = .ok (.iload_n 0, 1) := by decide +kernel
theorem dX7_samplePosition_3 : decode cX7_samplePosition 3 = .ok (.isub, 1) := by decide +kernel
theorem dX7_samplePosition_4 : decode cX7_samplePosition 4 = .ok (.invokestatic 229, 3) := by decide +kernel
theorem dX7_samplePosition_7 : decode cX7_samplePosition 7 = .ok (.if_icmp .lt 5, 3) := by decide +kernel
theorem dX7_samplePosition_10 : decode cX7_samplePosition 10 = .ok (.iload_n 1, 1) := by decide +kernel
theorem dX7_samplePosition_11 : decode cX7_samplePosition 11 = .ok (.ireturn, 1) := by decide +kernel
theorem dX7_samplePosition_12 : decode cX7_samplePosition 12 = .ok (.iload_n 0, 1) := by decide +kernel
theorem dX7_samplePosition_13 : decode cX7_samplePosition 13 = .ok (.iload_n 1, 1) := by decide +kernel
theorem dX7_samplePosition_14 : decode cX7_samplePosition 14 = .ok (.if_icmp .ge 9, 3) := by decide +kernel
theorem dX7_samplePosition_17 : decode cX7_samplePosition 17 = .ok (.iload_n 0, 1) := by decide +kernel
theorem dX7_samplePosition_18 : decode cX7_samplePosition 18 = .ok (.iload_n 2, 1) := by decide +kernel
theorem dX7_samplePosition_19 : decode cX7_samplePosition 19 = .ok (.iadd, 1) := by decide +kernel
theorem dX7_samplePosition_20 : decode cX7_samplePosition 20 = .ok (.goto 6, 3) := by decide +kernel
theorem dX7_samplePosition_23 : decode cX7_samplePosition 23 = .ok (.iload_n 0, 1) := by decide +kernel
theorem dX7_samplePosition_24 : decode cX7_samplePosition 24 = .ok (.iload_n 2, 1) := by decide +kernel
theorem dX7_samplePosition_25 : decode cX7_samplePosition 25 = .ok (.isub, 1) := by decide +kernel
theorem dX7_samplePosition_26 : decode cX7_samplePosition 26 = .ok (.ireturn, 1) := by decide +kernel
theorem dX7_takeSample_0 : decode cX7_takeSample 0 = .ok (.aload_n 0, 1) := by decide +kernel
theorem dX7_takeSample_1 : decode cX7_takeSample 1 = .ok (.getfield 45, 3) := by decide +kernel
theorem dX7_takeSample_4 : decode cX7_takeSample 4 = .ok (.dup, 1) := by decide +kernel
theorem dX7_takeSample_5 : decode cX7_takeSample 5 = .ok (.getfield 235, 3) := by decide +kernel
theorem dX7_takeSample_8 : decode cX7_takeSample 8 = .ok (.iconst 1, 1) := by decide +kernel
theorem dX7_takeSample_9 : decode cX7_takeSample 9 = .ok (.iadd, 1) := by decide +kernel
theorem dX7_takeSample_10 : decode cX7_takeSample 10 = .ok (.putfield 235, 3) := by decide +kernel
theorem dX7_takeSample_13 : decode cX7_takeSample 13 = .ok (.aload_n 0, 1) := by decide +kernel
theorem dX7_takeSample_14 : decode cX7_takeSample 14 = .ok (.aload_n 0, 1) := by decide +kernel
theorem dX7_takeSample_15 : decode cX7_takeSample 15 = .ok (.getfield 45, 3) := by decide +kernel
theorem dX7_takeSample_18 : decode cX7_takeSample 18 = .ok (.getfield 129, 3) := by decide +kernel
theorem dX7_takeSample_21 : decode cX7_takeSample 21 = .ok (.iload_n 1, 1) := by decide +kernel
theorem dX7_takeSample_22 : decode cX7_takeSample 22 = .ok (.invokevirtual 238, 3) := by decide +kernel
theorem dX7_takeSample_25 : decode cX7_takeSample 25 = .ok (.ifCond .eq 38, 3) := by decide +kernel
theorem dX7_takeSample_28 : decode cX7_takeSample 28 = .ok (.aload_n 0, 1) := by decide +kernel
theorem dX7_takeSample_29 : decode cX7_takeSample 29 = .ok (.getfield 45, 3) := by decide +kernel
theorem dX7_takeSample_32 : decode cX7_takeSample 32 = .ok (.getfield 162, 3) := by decide +kernel
theorem dX7_takeSample_35 : decode cX7_takeSample 35 = .ok (.invokevirtual 242, 3) := by decide +kernel
theorem dX7_takeSample_38 : decode cX7_takeSample 38 = .ok (.ifCond .eq 25, 3) := by decide +kernel
theorem dX7_takeSample_41 : decode cX7_takeSample 41 = .ok (.aload_n 0, 1) := by decide +kernel
theorem dX7_takeSample_42 : decode cX7_takeSample 42 = .ok (.getfield 45, 3) := by decide +kernel
theorem dX7_takeSample_45 : decode cX7_takeSample 45 = .ok (.getfield 162, 3) := by decide +kernel
theorem dX7_takeSample_48 : decode cX7_takeSample 48 = .ok (.iconst 1, 1) := by decide +kernel
theorem dX7_takeSample_49 : decode cX7_takeSample 49 = .ok (.iload_n 1, 1) := by decide +kernel
theorem dX7_takeSample_50 : decode cX7_takeSample 50 = .ok (.aload_n 0, 1) := by decide +kernel
theorem dX7_takeSample_51 : decode cX7_takeSample 51 = .ok (.getfield 45, 3) := by decide +kernel
theorem dX7_takeSample_54 : decode cX7_takeSample 54 = .ok (.getfield 129, 3) := by decide +kernel
theorem dX7_takeSample_57 : decode cX7_takeSample 57 = .ok (.getfield 158, 3) := by decide +kernel
theorem dX7_takeSample_60 : decode cX7_takeSample 60 = .ok (.invokevirtual 245, 3) := by decide +kernel
theorem dX7_takeSample_63 : decode cX7_takeSample 63 = .ok (.aload_n 0, 1) := by decide +kernel
theorem dX7_takeSample_64 : decode cX7_takeSample 64 = .ok (.aload_n 0, 1) := by decide +kernel
theorem dX7_takeSample_65 : decode cX7_takeSample 65 = .ok (.getfield 45, 3) := by decide +kernel
theorem dX7_takeSample_68 : decode cX7_takeSample 68 = .ok (.getfield 135, 3) := by decide +kernel
theorem dX7_takeSample_71 : decode cX7_takeSample 71 = .ok (.iload_n 1, 1) := by decide +kernel
theorem dX7_takeSample_72 : decode cX7_takeSample 72 = .ok (.invokevirtual 248, 3) := by decide +kernel
theorem dX7_takeSample_75 : decode cX7_takeSample 75 = .ok (.aload_n 0, 1) := by decide +kernel
theorem dX7_takeSample_76 : decode cX7_takeSample 76 = .ok (.getfield 45, 3) := by decide +kernel
theorem dX7_takeSample_79 : decode cX7_takeSample 79 = .ok (.iload_n 1, 1) := by decide +kernel
theorem dX7_takeSample_80 : decode cX7_takeSample 80 = .ok (.putfield 135, 3) := by decide +kernel
theorem dX7_takeSample_83 : decode cX7_takeSample 83 = .ok (.return_, 1) := by decide +kernel
theorem dX7_readSample_0 : decode cX7_readSample 0 = .ok (.aload_n 0, 1) := by decide +kernel
theorem dX7_readSample_1 : decode cX7_readSample 1 = .ok (.getfield 45, 3) := by decide +kernel
theorem dX7_readSample_4 : decode cX7_readSample 4 = .ok (.getfield 181, 3) := by decide +kernel
theorem dX7_readSample_7 : decode cX7_readSample 7 = .ok (.iload_n 2, 1) := by decide +kernel
theorem dX7_readSample_8 : decode cX7_readSample 8 = .ok (.invokevirtual 251, 3) := by decide +kernel
theorem dX7_readSample_11 : decode cX7_readSample 11 = .ok (.ifCond .ne 26, 3) := by decide +kernel
theorem dX7_readSample_14 : decode cX7_readSample 14 = .ok (.aload_n 1, 1) := by decide +kernel
theorem dX7_readSample_15 : decode cX7_readSample 15 = .ok (.aload_n 0, 1) := by decide +kernel
theorem dX7_readSample_16 : decode cX7_readSample 16 = .ok (.iload_n 2, 1) := by decide +kernel
theorem dX7_readSample_17 : decode cX7_readSample 17 = .ok (.invokevirtual 254, 3) := by decide +kernel
theorem dX7_readSample_20 : decode cX7_readSample 20 = .ok (.aload_n 0, 1) := by decide +kernel
theorem dX7_readSample_21 : decode cX7_readSample 21 = .ok (.getfield 45, 3) := by decide +kernel
theorem dX7_readSample_24 : decode cX7_readSample 24 = .ok (.getfield 152, 3) := by decide +kernel
theorem dX7_readSample_27 : decode cX7_readSample 27 = .ok (.invokevirtual 257, 3) := by decide +kernel
theorem dX7_readSample_30 : decode cX7_readSample 30 = .ok (.ifCond .eq 7, 3) := by decide +kernel
theorem dX7_readSample_33 : decode cX7_readSample 33 = .ok (.iconst 1, 1) := by decide +kernel
theorem dX7_readSample_34 : decode cX7_readSample 34 = .ok (.goto 4, 3) := by decide +kernel
theorem dX7_readSample_37 : decode cX7_readSample 37 = .ok (.iconst 0, 1) := by decide +kernel
theorem dX7_readSample_38 : decode cX7_readSample 38 = .ok (.ireturn, 1) := by decide +kernel
theorem dX7_logPassedMarks_0 : decode cX7_logPassedMarks 0 = .ok (.iload_n 1, 1) := by decide +kernel
theorem dX7_logPassedMarks_1 : decode cX7_logPassedMarks 1 = .ok (.iload_n 2, 1) := by decide +kernel
theorem dX7_logPassedMarks_2 : decode cX7_logPassedMarks 2 = .ok (.if_icmp .ge 7, 3) := by decide +kernel
theorem dX7_logPassedMarks_5 : decode cX7_logPassedMarks 5 = .ok (.iconst 1, 1) := by decide +kernel
theorem dX7_logPassedMarks_6 : decode cX7_logPassedMarks 6 = .ok (.goto 4, 3) := by decide +kernel
theorem dX7_logPassedMarks_9 : decode cX7_logPassedMarks 9 = .ok (.iconst 0, 1) := by decide +kernel
theorem dX7_logPassedMarks_10 : decode cX7_logPassedMarks 10 = .ok (.istore_n 3, 1) := by decide +kernel
theorem dX7_logPassedMarks_11 : decode cX7_logPassedMarks 11 = .ok (.aload_n 0, 1) := by decide +kernel
theorem dX7_logPassedMarks_12 : decode cX7_logPassedMarks 12 = .ok (.getfield 25, 3) := by decide +kernel
theorem dX7_logPassedMarks_15 : decode cX7_logPassedMarks 15 = .ok (.invokevirtual 82, 3) := by decide +kernel
theorem dX7_logPassedMarks_18 : decode cX7_logPassedMarks 18 = .ok (.istore 4, 2) := by decide +kernel
theorem dX7_logPassedMarks_20 : decode cX7_logPassedMarks 20 = .ok (.iconst 0, 1) := by decide +kernel
theorem dX7_logPassedMarks_21 : decode cX7_logPassedMarks 21 = .ok (.istore 5, 2) := by decide +kernel
theorem dX7_logPassedMarks_23 : decode cX7_logPassedMarks 23 = .ok (.iload 5, 2) := by decide +kernel
theorem dX7_logPassedMarks_25 : decode cX7_logPassedMarks 25 = .ok (.iload 4, 2) := by decide +kernel
theorem dX7_logPassedMarks_27 : decode cX7_logPassedMarks 27 = .ok (.if_icmp .ge 104, 3) := by decide +kernel
theorem dX7_logPassedMarks_30 : decode cX7_logPassedMarks 30 = .ok (.aload_n 0, 1) := by decide +kernel
theorem dX7_logPassedMarks_31 : decode cX7_logPassedMarks 31 = .ok (.getfield 25, 3) := by decide +kernel
theorem dX7_logPassedMarks_34 : decode cX7_logPassedMarks 34 = .ok (.iload_n 3, 1) := by decide +kernel
theorem dX7_logPassedMarks_35 : decode cX7_logPassedMarks 35 = .ok (.ifCond .eq 8, 3) := by decide +kernel
theorem dX7_logPassedMarks_38 : decode cX7_logPassedMarks 38 = .ok (.iload 5, 2) := by decide +kernel
theorem dX7_logPassedMarks_40 : decode cX7_logPassedMarks 40 = .ok (.goto 10, 3) := by decide +kernel
theorem dX7_logPassedMarks_43 : decode cX7_logPassedMarks 43 = .ok (.iload 4, 2) := by decide +kernel
theorem dX7_logPassedMarks_45 : decode cX7_logPassedMarks 45 = .ok (.iconst 1, 1) := by decide +kernel
theorem dX7_logPassedMarks_46 : decode cX7_logPassedMarks 46 = .ok (.isub, 1) := by decide +kernel
theorem dX7_logPassedMarks_47 : decode cX7_logPassedMarks 47 = .ok (.iload 5, 2) := by decide +kernel
theorem dX7_logPassedMarks_49 : decode cX7_logPassedMarks 49 = .ok (.isub, 1) := by decide +kernel
theorem dX7_logPassedMarks_50 : decode cX7_logPassedMarks 50 = .ok (.invokevirtual 96, 3) := by decide +kernel
theorem dX7_logPassedMarks_53 : decode cX7_logPassedMarks 53 = .ok (.istore 6, 2) := by decide +kernel
theorem dX7_logPassedMarks_55 : decode cX7_logPassedMarks 55 = .ok (.iload_n 3, 1) := by decide +kernel
theorem dX7_logPassedMarks_56 : decode cX7_logPassedMarks 56 = .ok (.ifCond .eq 23, 3) := by decide +kernel
theorem dX7_logPassedMarks_59 : decode cX7_logPassedMarks 59 = .ok (.iload 6, 2) := by decide +kernel
theorem dX7_logPassedMarks_61 : decode cX7_logPassedMarks 61 = .ok (.iload_n 1, 1) := by decide +kernel
theorem dX7_logPassedMarks_62 : decode cX7_logPassedMarks 62 = .ok (.if_icmp .le 13, 3) := by decide +kernel
theorem dX7_logPassedMarks_65 : decode cX7_logPassedMarks 65 = .ok (.iload 6, 2) := by decide +kernel
theorem dX7_logPassedMarks_67 : decode cX7_logPassedMarks 67 = .ok (.iload_n 2, 1) := by decide +kernel
theorem dX7_logPassedMarks_68 : decode cX7_logPassedMarks 68 = .ok (.if_icmp .gt 7, 3) := by decide +kernel
theorem dX7_logPassedMarks_71 : decode cX7_logPassedMarks 71 = .ok (.iconst 1, 1) := by decide +kernel
theorem dX7_logPassedMarks_72 : decode cX7_logPassedMarks 72 = .ok (.goto 24, 3) := by decide +kernel
theorem dX7_logPassedMarks_75 : decode cX7_logPassedMarks 75 = .ok (.iconst 0, 1) := by decide +kernel
theorem dX7_logPassedMarks_76 : decode cX7_logPassedMarks 76 = .ok (.goto 20, 3) := by decide +kernel
theorem dX7_logPassedMarks_79 : decode cX7_logPassedMarks 79 = .ok (.iload 6, 2) := by decide +kernel
theorem dX7_logPassedMarks_81 : decode cX7_logPassedMarks 81 = .ok (.iload_n 1, 1) := by decide +kernel
theorem dX7_logPassedMarks_82 : decode cX7_logPassedMarks 82 = .ok (.if_icmp .ge 13, 3) := by decide +kernel
theorem dX7_logPassedMarks_85 : decode cX7_logPassedMarks 85 = .ok (.iload 6, 2) := by decide +kernel
theorem dX7_logPassedMarks_87 : decode cX7_logPassedMarks 87 = .ok (.iload_n 2, 1) := by decide +kernel
theorem dX7_logPassedMarks_88 : decode cX7_logPassedMarks 88 = .ok (.if_icmp .lt 7, 3) := by decide +kernel
theorem dX7_logPassedMarks_91 : decode cX7_logPassedMarks 91 = .ok (.iconst 1, 1) := by decide +kernel
theorem dX7_logPassedMarks_92 : decode cX7_logPassedMarks 92 = .ok (.goto 4, 3) := by decide +kernel
theorem dX7_logPassedMarks_95 : decode cX7_logPassedMarks 95 = .ok (.iconst 0, 1) := by decide +kernel
theorem dX7_logPassedMarks_96 : decode cX7_logPassedMarks 96 = .ok (.istore 7, 2) := by decide +kernel
theorem dX7_logPassedMarks_98 : decode cX7_logPassedMarks 98 = .ok (.iload 7, 2) := by decide +kernel
theorem dX7_logPassedMarks_100 : decode cX7_logPassedMarks 100 = .ok (.ifCond .eq 25, 3) := by decide +kernel
theorem dX7_logPassedMarks_103 : decode cX7_logPassedMarks 103 = .ok (.aload_n 0, 1) := by decide +kernel
theorem dX7_logPassedMarks_104 : decode cX7_logPassedMarks 104 = .ok (.getfield 45, 3) := by decide +kernel
theorem dX7_logPassedMarks_107 : decode cX7_logPassedMarks 107 = .ok (.getfield 162, 3) := by decide +kernel
theorem dX7_logPassedMarks_110 : decode cX7_logPassedMarks 110 = .ok (.iconst 0, 1) := by decide +kernel
theorem dX7_logPassedMarks_111 : decode cX7_logPassedMarks 111 = .ok (.iload_n 2, 1) := by decide +kernel
theorem dX7_logPassedMarks_112 : decode cX7_logPassedMarks 112 = .ok (.aload_n 0, 1) := by decide +kernel
theorem dX7_logPassedMarks_113 : decode cX7_logPassedMarks 113 = .ok (.getfield 45, 3) := by decide +kernel
theorem dX7_logPassedMarks_116 : decode cX7_logPassedMarks 116 = .ok (.getfield 129, 3) := by decide +kernel
theorem dX7_logPassedMarks_119 : decode cX7_logPassedMarks 119 = .ok (.getfield 158, 3) := by decide +kernel
theorem dX7_logPassedMarks_122 : decode cX7_logPassedMarks 122 = .ok (.invokevirtual 245, 3) := by decide +kernel
theorem dX7_logPassedMarks_125 : decode cX7_logPassedMarks 125 = .ok (.iinc 5 1, 3) := by decide +kernel
theorem dX7_logPassedMarks_128 : decode cX7_logPassedMarks 128 = .ok (.goto (-105), 3) := by decide +kernel
theorem dX7_logPassedMarks_131 : decode cX7_logPassedMarks 131 = .ok (.return_, 1) := by decide +kernel
theorem dX7_position_0 : decode cX7_position 0 = .ok (.aload_n 0, 1) := by decide +kernel
theorem dX7_position_1 : decode cX7_position 1 = .ok (.getfield 45, 3) := by decide +kernel
theorem dX7_position_4 : decode cX7_position 4 = .ok (.getfield 135, 3) := by decide +kernel
theorem dX7_position_7 : decode cX7_position 7 = .ok (.ireturn, 1) := by decide +kernel
theorem dX7_counter_0 : decode cX7_counter 0 = .ok (.aload_n 0, 1) := by decide +kernel
theorem dX7_counter_1 : decode cX7_counter 1 = .ok (.getfield 45, 3) := by decide +kernel
theorem dX7_counter_4 : decode cX7_counter 4 = .ok (.getfield 129, 3) := by decide +kernel
theorem dX7_counter_7 : decode cX7_counter 7 = .ok (.getfield 158, 3) := by decide +kernel
theorem dX7_counter_10 : decode cX7_counter 10 = .ok (.lreturn, 1) := by decide +kernel
theorem dX7_slip_0 : decode cX7_slip 0 = .ok (.aload_n 0, 1) := by decide +kernel
theorem dX7_slip_1 : decode cX7_slip 1 = .ok (.getfield 45, 3) := by decide +kernel
theorem dX7_slip_4 : decode cX7_slip 4 = .ok (.getfield 129, 3) := by decide +kernel
theorem dX7_slip_7 : decode cX7_slip 7 = .ok (.getfield 158, 3) := by decide +kernel
theorem dX7_slip_10 : decode cX7_slip 10 = .ok (.aload_n 0, 1) := by decide +kernel
theorem dX7_slip_11 : decode cX7_slip 11 = .ok (.aload_n 0, 1) := by decide +kernel
theorem dX7_slip_12 : decode cX7_slip 12 = .ok (.getfield 45, 3) := by decide +kernel
theorem dX7_slip_15 : decode cX7_slip 15 = .ok (.getfield 135, 3) := by decide +kernel
theorem dX7_slip_18 : decode cX7_slip 18 = .ok (.invokevirtual 155, 3) := by decide +kernel
theorem dX7_slip_21 : decode cX7_slip 21 = .ok (.i2l, 1) := by decide +kernel
theorem dX7_slip_22 : decode cX7_slip 22 = .ok (.lsub, 1) := by decide +kernel
theorem dX7_slip_23 : decode cX7_slip 23 = .ok (.lreturn, 1) := by decide +kernel
theorem dX7_misses_0 : decode cX7_misses 0 = .ok (.aload_n 0, 1) := by decide +kernel
theorem dX7_misses_1 : decode cX7_misses 1 = .ok (.getfield 45, 3) := by decide +kernel
theorem dX7_misses_4 : decode cX7_misses 4 = .ok (.getfield 129, 3) := by decide +kernel
theorem dX7_misses_7 : decode cX7_misses 7 = .ok (.getfield 132, 3) := by decide +kernel
theorem dX7_misses_10 : decode cX7_misses 10 = .ok (.ireturn, 1) := by decide +kernel
theorem dX7_samples_0 : decode cX7_samples 0 = .ok (.aload_n 0, 1) := by decide +kernel
theorem dX7_samples_1 : decode cX7_samples 1 = .ok (.getfield 45, 3) := by decide +kernel
theorem dX7_samples_4 : decode cX7_samples 4 = .ok (.getfield 235, 3) := by decide +kernel
theorem dX7_samples_7 : decode cX7_samples 7 = .ok (.ireturn, 1) := by decide +kernel
theorem dX7_missRateBits_0 : decode cX7_missRateBits 0 = .ok (.aload_n 0, 1) := by decide +kernel
theorem dX7_missRateBits_1 : decode cX7_missRateBits 1 = .ok (.getfield 45, 3) := by decide +kernel
theorem dX7_missRateBits_4 : decode cX7_missRateBits 4 = .ok (.getfield 235, 3) := by decide +kernel
theorem dX7_missRateBits_7 : decode cX7_missRateBits 7 = .ok (.ifCond .gt 6, 3) := by decide +kernel
theorem dX7_missRateBits_10 : decode cX7_missRateBits 10 = .ok (.bipush (-4), 2) := by decide +kernel
theorem dX7_missRateBits_12 : decode cX7_missRateBits 12 = .ok (.ireturn, 1) := by decide +kernel
theorem dX7_missRateBits_13 : decode cX7_missRateBits 13 = .ok (.aload_n 0, 1) := by decide +kernel
theorem dX7_missRateBits_14 : decode cX7_missRateBits 14 = .ok (.getfield 45, 3) := by decide +kernel
theorem dX7_missRateBits_17 : decode cX7_missRateBits 17 = .ok (.getfield 129, 3) := by decide +kernel
theorem dX7_missRateBits_20 : decode cX7_missRateBits 20 = .ok (.getfield 132, 3) := by decide +kernel
theorem dX7_missRateBits_23 : decode cX7_missRateBits 23 = .ok (.i2f, 1) := by decide +kernel
theorem dX7_missRateBits_24 : decode cX7_missRateBits 24 = .ok (.aload_n 0, 1) := by decide +kernel
theorem dX7_missRateBits_25 : decode cX7_missRateBits 25 = .ok (.getfield 45, 3) := by decide +kernel
theorem dX7_missRateBits_28 : decode cX7_missRateBits 28 = .ok (.getfield 235, 3) := by decide +kernel
theorem dX7_missRateBits_31 : decode cX7_missRateBits 31 = .ok (.i2f, 1) := by decide +kernel
theorem dX7_missRateBits_32 : decode cX7_missRateBits 32 = .ok (.fdiv, 1) := by decide +kernel
theorem dX7_missRateBits_33 : decode cX7_missRateBits 33 = .ok (.invokestatic 260, 3) := by decide +kernel
theorem dX7_missRateBits_36 : decode cX7_missRateBits 36 = .ok (.ireturn, 1) := by decide +kernel
theorem dX7_markPosition_0 : decode cX7_markPosition 0 = .ok (.aload_n 0, 1) := by decide +kernel
theorem dX7_markPosition_1 : decode cX7_markPosition 1 = .ok (.getfield 25, 3) := by decide +kernel
theorem dX7_markPosition_4 : decode cX7_markPosition 4 = .ok (.iload_n 1, 1) := by decide +kernel
theorem dX7_markPosition_5 : decode cX7_markPosition 5 = .ok (.invokevirtual 194, 3) := by decide +kernel
theorem dX7_markPosition_8 : decode cX7_markPosition 8 = .ok (.ifCond .eq 14, 3) := by decide +kernel
theorem dX7_markPosition_11 : decode cX7_markPosition 11 = .ok (.aload_n 0, 1) := by decide +kernel
theorem dX7_markPosition_12 : decode cX7_markPosition 12 = .ok (.getfield 25, 3) := by decide +kernel
theorem dX7_markPosition_15 : decode cX7_markPosition 15 = .ok (.iload_n 1, 1) := by decide +kernel
theorem dX7_markPosition_16 : decode cX7_markPosition 16 = .ok (.invokevirtual 96, 3) := by decide +kernel
theorem dX7_markPosition_19 : decode cX7_markPosition 19 = .ok (.goto 4, 3) := by decide +kernel
theorem dX7_markPosition_22 : decode cX7_markPosition 22 = .ok (.iconst (-1), 1) := by decide +kernel
theorem dX7_markPosition_23 : decode cX7_markPosition 23 = .ok (.ireturn, 1) := by decide +kernel
theorem dX7_expectedCount_0 : decode cX7_expectedCount 0 = .ok (.iload_n 1, 1) := by decide +kernel
theorem dX7_expectedCount_1 : decode cX7_expectedCount 1 = .ok (.invokestatic 264, 3) := by decide +kernel
theorem dX7_expectedCount_4 : decode cX7_expectedCount 4 = .ok (.ifCond .eq 11, 3) := by decide +kernel
theorem dX7_expectedCount_7 : decode cX7_expectedCount 7 = .ok (.aload_n 0, 1) := by decide +kernel
theorem dX7_expectedCount_8 : decode cX7_expectedCount 8 = .ok (.iload_n 1, 1) := by decide +kernel
theorem dX7_expectedCount_9 : decode cX7_expectedCount 9 = .ok (.invokevirtual 155, 3) := by decide +kernel
theorem dX7_expectedCount_12 : decode cX7_expectedCount 12 = .ok (.goto 4, 3) := by decide +kernel
theorem dX7_expectedCount_15 : decode cX7_expectedCount 15 = .ok (.iconst (-1), 1) := by decide +kernel
theorem dX7_expectedCount_16 : decode cX7_expectedCount 16 = .ok (.ireturn, 1) := by decide +kernel
theorem dX7_eventKind_0 : decode cX7_eventKind 0 = .ok (.aload_n 0, 1) := by decide +kernel
theorem dX7_eventKind_1 : decode cX7_eventKind 1 = .ok (.getfield 45, 3) := by decide +kernel
theorem dX7_eventKind_4 : decode cX7_eventKind 4 = .ok (.getfield 162, 3) := by decide +kernel
theorem dX7_eventKind_7 : decode cX7_eventKind 7 = .ok (.getfield 267, 3) := by decide +kernel
theorem dX7_eventKind_10 : decode cX7_eventKind 10 = .ok (.iload_n 1, 1) := by decide +kernel
theorem dX7_eventKind_11 : decode cX7_eventKind 11 = .ok (.invokevirtual 194, 3) := by decide +kernel
theorem dX7_eventKind_14 : decode cX7_eventKind 14 = .ok (.ifCond .eq 20, 3) := by decide +kernel
theorem dX7_eventKind_17 : decode cX7_eventKind 17 = .ok (.aload_n 0, 1) := by decide +kernel
theorem dX7_eventKind_18 : decode cX7_eventKind 18 = .ok (.getfield 45, 3) := by decide +kernel
theorem dX7_eventKind_21 : decode cX7_eventKind 21 = .ok (.getfield 162, 3) := by decide +kernel
theorem dX7_eventKind_24 : decode cX7_eventKind 24 = .ok (.getfield 267, 3) := by decide +kernel
theorem dX7_eventKind_27 : decode cX7_eventKind 27 = .ok (.iload_n 1, 1) := by decide +kernel
theorem dX7_eventKind_28 : decode cX7_eventKind 28 = .ok (.invokevirtual 96, 3) := by decide +kernel
theorem dX7_eventKind_31 : decode cX7_eventKind 31 = .ok (.goto 4, 3) := by decide +kernel
theorem dX7_eventKind_34 : decode cX7_eventKind 34 = .ok (.iconst (-1), 1) := by decide +kernel
theorem dX7_eventKind_35 : decode cX7_eventKind 35 = .ok (.ireturn, 1) := by decide +kernel
theorem dX7_eventPosition_0 : decode cX7_eventPosition 0 = .ok (.aload_n 0, 1) := by decide +kernel
theorem dX7_eventPosition_1 : decode cX7_eventPosition 1 = .ok (.getfield 45, 3) := by decide +kernel
theorem dX7_eventPosition_4 : decode cX7_eventPosition 4 = .ok (.getfield 162, 3) := by decide +kernel
theorem dX7_eventPosition_7 : decode cX7_eventPosition 7 = .ok (.getfield 270, 3) := by decide +kernel
theorem dX7_eventPosition_10 : decode cX7_eventPosition 10 = .ok (.iload_n 1, 1) := by decide +kernel
theorem dX7_eventPosition_11 : decode cX7_eventPosition 11 = .ok (.invokevirtual 194, 3) := by decide +kernel
theorem dX7_eventPosition_14 : decode cX7_eventPosition 14 = .ok (.ifCond .eq 20, 3) := by decide +kernel
theorem dX7_eventPosition_17 : decode cX7_eventPosition 17 = .ok (.aload_n 0, 1) := by decide +kernel
theorem dX7_eventPosition_18 : decode cX7_eventPosition 18 = .ok (.getfield 45, 3) := by decide +kernel
theorem dX7_eventPosition_21 : decode cX7_eventPosition 21 = .ok (.getfield 162, 3) := by decide +kernel
theorem dX7_eventPosition_24 : decode cX7_eventPosition 24 = .ok (.getfield 270, 3) := by decide +kernel
theorem dX7_eventPosition_27 : decode cX7_eventPosition 27 = .ok (.iload_n 1, 1) := by decide +kernel
theorem dX7_eventPosition_28 : decode cX7_eventPosition 28 = .ok (.invokevirtual 96, 3) := by decide +kernel
theorem dX7_eventPosition_31 : decode cX7_eventPosition 31 = .ok (.goto 4, 3) := by decide +kernel
theorem dX7_eventPosition_34 : decode cX7_eventPosition 34 = .ok (.iconst (-1), 1) := by decide +kernel
theorem dX7_eventPosition_35 : decode cX7_eventPosition 35 = .ok (.ireturn, 1) := by decide +kernel
theorem dX7_eventCounter_0 : decode cX7_eventCounter 0 = .ok (.aload_n 0, 1) := by decide +kernel
theorem dX7_eventCounter_1 : decode cX7_eventCounter 1 = .ok (.getfield 45, 3) := by decide +kernel
theorem dX7_eventCounter_4 : decode cX7_eventCounter 4 = .ok (.getfield 162, 3) := by decide +kernel
theorem dX7_eventCounter_7 : decode cX7_eventCounter 7 = .ok (.getfield 206, 3) := by decide +kernel
theorem dX7_eventCounter_10 : decode cX7_eventCounter 10 = .ok (.iload_n 1, 1) := by decide +kernel
theorem dX7_eventCounter_11 : decode cX7_eventCounter 11 = .ok (.invokevirtual 194, 3) := by decide +kernel
theorem dX7_eventCounter_14 : decode cX7_eventCounter 14 = .ok (.ifCond .eq 20, 3) := by decide +kernel
theorem dX7_eventCounter_17 : decode cX7_eventCounter 17 = .ok (.aload_n 0, 1) := by decide +kernel
theorem dX7_eventCounter_18 : decode cX7_eventCounter 18 = .ok (.getfield 45, 3) := by decide +kernel
theorem dX7_eventCounter_21 : decode cX7_eventCounter 21 = .ok (.getfield 162, 3) := by decide +kernel
theorem dX7_eventCounter_24 : decode cX7_eventCounter 24 = .ok (.getfield 206, 3) := by decide +kernel
theorem dX7_eventCounter_27 : decode cX7_eventCounter 27 = .ok (.iload_n 1, 1) := by decide +kernel
theorem dX7_eventCounter_28 : decode cX7_eventCounter 28 = .ok (.invokevirtual 209, 3) := by decide +kernel
theorem dX7_eventCounter_31 : decode cX7_eventCounter 31 = .ok (.goto 6, 3) := by decide +kernel
theorem dX7_eventCounter_34 : decode cX7_eventCounter 34 = .ok (.ldc2_w 275, 3) := by decide +kernel
theorem dX7_eventCounter_37 : decode cX7_eventCounter 37 = .ok (.lreturn, 1) := by decide +kernel
theorem dX7_countAt_0 : decode cX7_countAt 0 = .ok (.aload_n 0, 1) := by decide +kernel
theorem dX7_countAt_1 : decode cX7_countAt 1 = .ok (.getfield 45, 3) := by decide +kernel
theorem dX7_countAt_4 : decode cX7_countAt 4 = .ok (.getfield 152, 3) := by decide +kernel
theorem dX7_countAt_7 : decode cX7_countAt 7 = .ok (.iload_n 1, 1) := by decide +kernel
theorem dX7_countAt_8 : decode cX7_countAt 8 = .ok (.imul, 1) := by decide +kernel
theorem dX7_countAt_9 : decode cX7_countAt 9 = .ok (.aload_n 0, 1) := by decide +kernel
theorem dX7_countAt_10 : decode cX7_countAt 10 = .ok (.getfield 108, 3) := by decide +kernel
theorem dX7_countAt_13 : decode cX7_countAt 13 = .ok (.invokestatic 231, 3) := by decide +kernel
theorem dX7_countAt_16 : decode cX7_countAt 16 = .ok (.ireturn, 1) := by decide +kernel
theorem dX7_quadrantAt_0 : decode cX7_quadrantAt 0 = .ok (.iconst 4, 1) := by decide +kernel
theorem dX7_quadrantAt_1 : decode cX7_quadrantAt 1 = .ok (.iload_n 1, 1) := by decide +kernel
theorem dX7_quadrantAt_2 : decode cX7_quadrantAt 2 = .ok (.aload_n 0, 1) := by decide +kernel
theorem dX7_quadrantAt_3 : decode cX7_quadrantAt 3 = .ok (.getfield 108, 3) := by decide +kernel
theorem dX7_quadrantAt_6 : decode cX7_quadrantAt 6 = .ok (.invokestatic 277, 3) := by decide +kernel
theorem dX7_quadrantAt_9 : decode cX7_quadrantAt 9 = .ok (.imul, 1) := by decide +kernel
theorem dX7_quadrantAt_10 : decode cX7_quadrantAt 10 = .ok (.aload_n 0, 1) := by decide +kernel
theorem dX7_quadrantAt_11 : decode cX7_quadrantAt 11 = .ok (.getfield 108, 3) := by decide +kernel
theorem dX7_quadrantAt_14 : decode cX7_quadrantAt 14 = .ok (.invokestatic 231, 3) := by decide +kernel
theorem dX7_quadrantAt_17 : decode cX7_quadrantAt 17 = .ok (.ireturn, 1) := by decide +kernel
theorem dX7_predictSlip_0 : decode cX7_predictSlip 0 = .ok (.iload_n 1, 1) := by decide +kernel
theorem dX7_predictSlip_1 : decode cX7_predictSlip 1 = .ok (.iload_n 2, 1) := by decide +kernel
theorem dX7_predictSlip_2 : decode cX7_predictSlip 2 = .ok (.invokestatic 121, 3) := by decide +kernel
theorem dX7_predictSlip_5 : decode cX7_predictSlip 5 = .ok (.ifCond .ne 7, 3) := by decide +kernel
theorem dX7_predictSlip_8 : decode cX7_predictSlip 8 = .ok (.ldc2_w 275, 3) := by decide +kernel
theorem dX7_predictSlip_11 : decode cX7_predictSlip 11 = .ok (.lreturn, 1) := by decide +kernel
theorem dX7_predictSlip_12 : decode cX7_predictSlip 12 = .ok (.aload_n 0, 1) := by decide +kernel
theorem dX7_predictSlip_13 : decode cX7_predictSlip 13 = .ok (.getfield 38, 3) := by decide +kernel
theorem dX7_predictSlip_16 : decode cX7_predictSlip 16 = .ok (.aload_n 0, 1) := by decide +kernel
theorem dX7_predictSlip_17 : decode cX7_predictSlip 17 = .ok (.getfield 45, 3) := by decide +kernel
theorem dX7_predictSlip_20 : decode cX7_predictSlip 20 = .ok (.getfield 129, 3) := by decide +kernel
theorem dX7_predictSlip_23 : decode cX7_predictSlip 23 = .ok (.invokevirtual 280, 3) := by decide +kernel
theorem dX7_predictSlip_26 : decode cX7_predictSlip 26 = .ok (.aload_n 0, 1) := by decide +kernel
theorem dX7_predictSlip_27 : decode cX7_predictSlip 27 = .ok (.getfield 45, 3) := by decide +kernel
theorem dX7_predictSlip_30 : decode cX7_predictSlip 30 = .ok (.getfield 135, 3) := by decide +kernel
theorem dX7_predictSlip_33 : decode cX7_predictSlip 33 = .ok (.iload_n 1, 1) := by decide +kernel
theorem dX7_predictSlip_34 : decode cX7_predictSlip 34 = .ok (.iload_n 2, 1) := by decide +kernel
theorem dX7_predictSlip_35 : decode cX7_predictSlip 35 = .ok (.invokestatic 138, 3) := by decide +kernel
theorem dX7_predictSlip_38 : decode cX7_predictSlip 38 = .ok (.istore_n 3, 1) := by decide +kernel
theorem dX7_predictSlip_39 : decode cX7_predictSlip 39 = .ok (.iconst 1, 1) := by decide +kernel
theorem dX7_predictSlip_40 : decode cX7_predictSlip 40 = .ok (.istore 4, 2) := by decide +kernel
theorem dX7_predictSlip_42 : decode cX7_predictSlip 42 = .ok (.iload 4, 2) := by decide +kernel
theorem dX7_predictSlip_44 : decode cX7_predictSlip 44 = .ok (.iload_n 3, 1) := by decide +kernel
theorem dX7_predictSlip_45 : decode cX7_predictSlip 45 = .ok (.if_icmp .gt 33, 3) := by decide +kernel
theorem dX7_predictSlip_48 : decode cX7_predictSlip 48 = .ok (.aload_n 0, 1) := by decide +kernel
theorem dX7_predictSlip_49 : decode cX7_predictSlip 49 = .ok (.aload_n 0, 1) := by decide +kernel
theorem dX7_predictSlip_50 : decode cX7_predictSlip 50 = .ok (.getfield 38, 3) := by decide +kernel
theorem dX7_predictSlip_53 : decode cX7_predictSlip 53 = .ok (.aload_n 0, 1) := by decide +kernel
theorem dX7_predictSlip_54 : decode cX7_predictSlip 54 = .ok (.getfield 45, 3) := by decide +kernel
theorem dX7_predictSlip_57 : decode cX7_predictSlip 57 = .ok (.getfield 135, 3) := by decide +kernel
theorem dX7_predictSlip_60 : decode cX7_predictSlip 60 = .ok (.iload_n 1, 1) := by decide +kernel
theorem dX7_predictSlip_61 : decode cX7_predictSlip 61 = .ok (.iload 4, 2) := by decide +kernel
theorem dX7_predictSlip_63 : decode cX7_predictSlip 63 = .ok (.iload_n 2, 1) := by decide +kernel
theorem dX7_predictSlip_64 : decode cX7_predictSlip 64 = .ok (.imul, 1) := by decide +kernel
theorem dX7_predictSlip_65 : decode cX7_predictSlip 65 = .ok (.invokestatic 142, 3) := by decide +kernel
theorem dX7_predictSlip_68 : decode cX7_predictSlip 68 = .ok (.invokevirtual 238, 3) := by decide +kernel
theorem dX7_predictSlip_71 : decode cX7_predictSlip 71 = .ok (.pop, 1) := by decide +kernel
theorem dX7_predictSlip_72 : decode cX7_predictSlip 72 = .ok (.iinc 4 1, 3) := by decide +kernel
theorem dX7_predictSlip_75 : decode cX7_predictSlip 75 = .ok (.goto (-33), 3) := by decide +kernel
theorem dX7_predictSlip_78 : decode cX7_predictSlip 78 = .ok (.aload_n 0, 1) := by decide +kernel
theorem dX7_predictSlip_79 : decode cX7_predictSlip 79 = .ok (.getfield 38, 3) := by decide +kernel
theorem dX7_predictSlip_82 : decode cX7_predictSlip 82 = .ok (.getfield 158, 3) := by decide +kernel
theorem dX7_predictSlip_85 : decode cX7_predictSlip 85 = .ok (.aload_n 0, 1) := by decide +kernel
theorem dX7_predictSlip_86 : decode cX7_predictSlip 86 = .ok (.iload_n 1, 1) := by decide +kernel
theorem dX7_predictSlip_87 : decode cX7_predictSlip 87 = .ok (.invokevirtual 155, 3) := by decide +kernel
theorem dX7_predictSlip_90 : decode cX7_predictSlip 90 = .ok (.i2l, 1) := by decide +kernel
theorem dX7_predictSlip_91 : decode cX7_predictSlip 91 = .ok (.lsub, 1) := by decide +kernel
theorem dX7_predictSlip_92 : decode cX7_predictSlip 92 = .ok (.lreturn, 1) := by decide +kernel
theorem dX7_fastestSafeSpeed_0 : decode cX7_fastestSafeSpeed 0 = .ok (.iload_n 1, 1) := by decide +kernel
theorem dX7_fastestSafeSpeed_1 : decode cX7_fastestSafeSpeed 1 = .ok (.invokestatic 264, 3) := by decide +kernel
theorem dX7_fastestSafeSpeed_4 : decode cX7_fastestSafeSpeed 4 = .ok (.ifCond .ne 5, 3) := by decide +kernel
theorem dX7_fastestSafeSpeed_7 : decode cX7_fastestSafeSpeed 7 = .ok (.iconst (-1), 1) := by decide +kernel
theorem dX7_fastestSafeSpeed_8 : decode cX7_fastestSafeSpeed 8 = .ok (.ireturn, 1) := by decide +kernel
theorem dX7_fastestSafeSpeed_9 : decode cX7_fastestSafeSpeed 9 = .ok (.bipush 99, 2) := by decide +kernel
theorem dX7_fastestSafeSpeed_11 : decode cX7_fastestSafeSpeed 11 = .ok (.istore_n 2, 1) := by decide +kernel
theorem dX7_fastestSafeSpeed_12 : decode cX7_fastestSafeSpeed 12 = .ok (.iload_n 2, 1) := by decide +kernel
theorem dX7_fastestSafeSpeed_13 : decode cX7_fastestSafeSpeed 13 = .ok (.iconst 1, 1) := by decide +kernel
theorem dX7_fastestSafeSpeed_14 : decode cX7_fastestSafeSpeed 14 = .ok (.if_icmp .lt 20, 3) := by decide +kernel
theorem dX7_fastestSafeSpeed_17 : decode cX7_fastestSafeSpeed 17 = .ok (.aload_n 0, 1) := by decide +kernel
theorem dX7_fastestSafeSpeed_18 : decode cX7_fastestSafeSpeed 18 = .ok (.iload_n 1, 1) := by decide +kernel
theorem dX7_fastestSafeSpeed_19 : decode cX7_fastestSafeSpeed 19 = .ok (.iload_n 2, 1) := by decide +kernel
theorem dX7_fastestSafeSpeed_20 : decode cX7_fastestSafeSpeed 20 = .ok (.invokevirtual 283, 3) := by decide +kernel
theorem dX7_fastestSafeSpeed_23 : decode cX7_fastestSafeSpeed 23 = .ok (.ifCond .eq 5, 3) := by decide +kernel
theorem dX7_fastestSafeSpeed_26 : decode cX7_fastestSafeSpeed 26 = .ok (.iload_n 2, 1) := by decide +kernel
theorem dX7_fastestSafeSpeed_27 : decode cX7_fastestSafeSpeed 27 = .ok (.ireturn, 1) := by decide +kernel
theorem dX7_fastestSafeSpeed_28 : decode cX7_fastestSafeSpeed 28 = .ok (.iinc 2 (-1), 3) := by decide +kernel
theorem dX7_fastestSafeSpeed_31 : decode cX7_fastestSafeSpeed 31 = .ok (.goto (-19), 3) := by decide +kernel
theorem dX7_fastestSafeSpeed_34 : decode cX7_fastestSafeSpeed 34 = .ok (.bipush (-4), 2) := by decide +kernel
theorem dX7_fastestSafeSpeed_36 : decode cX7_fastestSafeSpeed 36 = .ok (.ireturn, 1) := by decide +kernel
theorem dX7_isSafe_0 : decode cX7_isSafe 0 = .ok (.aload_n 0, 1) := by decide +kernel
theorem dX7_isSafe_1 : decode cX7_isSafe 1 = .ok (.getfield 38, 3) := by decide +kernel
theorem dX7_isSafe_4 : decode cX7_isSafe 4 = .ok (.aload_n 0, 1) := by decide +kernel
theorem dX7_isSafe_5 : decode cX7_isSafe 5 = .ok (.getfield 45, 3) := by decide +kernel
theorem dX7_isSafe_8 : decode cX7_isSafe 8 = .ok (.getfield 129, 3) := by decide +kernel
theorem dX7_isSafe_11 : decode cX7_isSafe 11 = .ok (.invokevirtual 280, 3) := by decide +kernel
theorem dX7_isSafe_14 : decode cX7_isSafe 14 = .ok (.aload_n 0, 1) := by decide +kernel
theorem dX7_isSafe_15 : decode cX7_isSafe 15 = .ok (.getfield 45, 3) := by decide +kernel
theorem dX7_isSafe_18 : decode cX7_isSafe 18 = .ok (.getfield 135, 3) := by decide +kernel
theorem dX7_isSafe_21 : decode cX7_isSafe 21 = .ok (.iload_n 1, 1) := by decide +kernel
theorem dX7_isSafe_22 : decode cX7_isSafe 22 = .ok (.iload_n 2, 1) := by decide +kernel
theorem dX7_isSafe_23 : decode cX7_isSafe 23 = .ok (.invokestatic 138, 3) := by decide +kernel
theorem dX7_isSafe_26 : decode cX7_isSafe 26 = .ok (.istore_n 3, 1) := by decide +kernel
theorem dX7_isSafe_27 : decode cX7_isSafe 27 = .ok (.iconst 1, 1) := by decide +kernel
theorem dX7_isSafe_28 : decode cX7_isSafe 28 = .ok (.istore 4, 2) := by decide +kernel
theorem dX7_isSafe_30 : decode cX7_isSafe 30 = .ok (.iload 4, 2) := by decide +kernel
theorem dX7_isSafe_32 : decode cX7_isSafe 32 = .ok (.iload_n 3, 1) := by decide +kernel
theorem dX7_isSafe_33 : decode cX7_isSafe 33 = .ok (.if_icmp .gt 37, 3) := by decide +kernel
theorem dX7_isSafe_36 : decode cX7_isSafe 36 = .ok (.aload_n 0, 1) := by decide +kernel
theorem dX7_isSafe_37 : decode cX7_isSafe 37 = .ok (.aload_n 0, 1) := by decide +kernel
theorem dX7_isSafe_38 : decode cX7_isSafe 38 = .ok (.getfield 38, 3) := by decide +kernel
theorem dX7_isSafe_41 : decode cX7_isSafe 41 = .ok (.aload_n 0, 1) := by decide +kernel
theorem dX7_isSafe_42 : decode cX7_isSafe 42 = .ok (.getfield 45, 3) := by decide +kernel
theorem dX7_isSafe_45 : decode cX7_isSafe 45 = .ok (.getfield 135, 3) := by decide +kernel
theorem dX7_isSafe_48 : decode cX7_isSafe 48 = .ok (.iload_n 1, 1) := by decide +kernel
theorem dX7_isSafe_49 : decode cX7_isSafe 49 = .ok (.iload 4, 2) := by decide +kernel
theorem dX7_isSafe_51 : decode cX7_isSafe 51 = .ok (.iload_n 2, 1) := by decide +kernel
theorem dX7_isSafe_52 : decode cX7_isSafe 52 = .ok (.imul, 1) := by decide +kernel
theorem dX7_isSafe_53 : decode cX7_isSafe 53 = .ok (.invokestatic 142, 3) := by decide +kernel
theorem dX7_isSafe_56 : decode cX7_isSafe 56 = .ok (.invokevirtual 238, 3) := by decide +kernel
theorem dX7_isSafe_59 : decode cX7_isSafe 59 = .ok (.ifCond .eq 5, 3) := by decide +kernel
theorem dX7_isSafe_62 : decode cX7_isSafe 62 = .ok (.iconst 0, 1) := by decide +kernel
theorem dX7_isSafe_63 : decode cX7_isSafe 63 = .ok (.ireturn, 1) := by decide +kernel
theorem dX7_isSafe_64 : decode cX7_isSafe 64 = .ok (.iinc 4 1, 3) := by decide +kernel
theorem dX7_isSafe_67 : decode cX7_isSafe 67 = .ok (.goto (-37), 3) := by decide +kernel
theorem dX7_isSafe_70 : decode cX7_isSafe 70 = .ok (.aload_n 0, 1) := by decide +kernel
theorem dX7_isSafe_71 : decode cX7_isSafe 71 = .ok (.getfield 38, 3) := by decide +kernel
theorem dX7_isSafe_74 : decode cX7_isSafe 74 = .ok (.getfield 158, 3) := by decide +kernel
theorem dX7_isSafe_77 : decode cX7_isSafe 77 = .ok (.aload_n 0, 1) := by decide +kernel
theorem dX7_isSafe_78 : decode cX7_isSafe 78 = .ok (.iload_n 1, 1) := by decide +kernel
theorem dX7_isSafe_79 : decode cX7_isSafe 79 = .ok (.invokevirtual 155, 3) := by decide +kernel
theorem dX7_isSafe_82 : decode cX7_isSafe 82 = .ok (.i2l, 1) := by decide +kernel
theorem dX7_isSafe_83 : decode cX7_isSafe 83 = .ok (.lsub, 1) := by decide +kernel
theorem dX7_isSafe_84 : decode cX7_isSafe 84 = .ok (.aload_n 0, 1) := by decide +kernel
theorem dX7_isSafe_85 : decode cX7_isSafe 85 = .ok (.getfield 45, 3) := by decide +kernel
theorem dX7_isSafe_88 : decode cX7_isSafe 88 = .ok (.getfield 129, 3) := by decide +kernel
theorem dX7_isSafe_91 : decode cX7_isSafe 91 = .ok (.getfield 158, 3) := by decide +kernel
theorem dX7_isSafe_94 : decode cX7_isSafe 94 = .ok (.aload_n 0, 1) := by decide +kernel
theorem dX7_isSafe_95 : decode cX7_isSafe 95 = .ok (.aload_n 0, 1) := by decide +kernel
theorem dX7_isSafe_96 : decode cX7_isSafe 96 = .ok (.getfield 45, 3) := by decide +kernel
theorem dX7_isSafe_99 : decode cX7_isSafe 99 = .ok (.getfield 135, 3) := by decide +kernel
theorem dX7_isSafe_102 : decode cX7_isSafe 102 = .ok (.invokevirtual 155, 3) := by decide +kernel
theorem dX7_isSafe_105 : decode cX7_isSafe 105 = .ok (.i2l, 1) := by decide +kernel
theorem dX7_isSafe_106 : decode cX7_isSafe 106 = .ok (.lsub, 1) := by decide +kernel
theorem dX7_isSafe_107 : decode cX7_isSafe 107 = .ok (.lcmp, 1) := by decide +kernel
theorem dX7_isSafe_108 : decode cX7_isSafe 108 = .ok (.ifCond .ne 7, 3) := by decide +kernel
theorem dX7_isSafe_111 : decode cX7_isSafe 111 = .ok (.iconst 1, 1) := by decide +kernel
theorem dX7_isSafe_112 : decode cX7_isSafe 112 = .ok (.goto 4, 3) := by decide +kernel
theorem dX7_isSafe_115 : decode cX7_isSafe 115 = .ok (.iconst 0, 1) := by decide +kernel
theorem dX7_isSafe_116 : decode cX7_isSafe 116 = .ok (.ireturn, 1) := by decide +kernel
theorem dX7_brightness_0 : decode cX7_brightness 0 = .ok (.iload_n 1, 1) := by decide +kernel
theorem dX7_brightness_1 : decode cX7_brightness 1 = .ok (.iconst 0, 1) := by decide +kernel
theorem dX7_brightness_2 : decode cX7_brightness 2 = .ok (.sipush 999, 3) := by decide +kernel
theorem dX7_brightness_5 : decode cX7_brightness 5 = .ok (.invokestatic 74, 3) := by decide +kernel
theorem dX7_brightness_8 : decode cX7_brightness 8 = .ok (.ifCond .eq 14, 3) := by decide +kernel
theorem dX7_brightness_11 : decode cX7_brightness 11 = .ok (.iload_n 2, 1) := by decide +kernel
theorem dX7_brightness_12 : decode cX7_brightness 12 = .ok (.iconst 1, 1) := by decide +kernel
theorem dX7_brightness_13 : decode cX7_brightness 13 = .ok (.sipush 200, 3) := by decide +kernel
theorem dX7_brightness_16 : decode cX7_brightness 16 = .ok (.invokestatic 74, 3) := by decide +kernel
theorem dX7_brightness_19 : decode cX7_brightness 19 = .ok (.ifCond .ne 5, 3) := by decide +kernel
theorem dX7_brightness_22 : decode cX7_brightness 22 = .ok (.iconst (-1), 1) := by decide +kernel
theorem dX7_brightness_23 : decode cX7_brightness 23 = .ok (.ireturn, 1) := by decide +kernel
theorem dX7_brightness_24 : decode cX7_brightness 24 = .ok (.aload_n 0, 1) := by decide +kernel
theorem dX7_brightness_25 : decode cX7_brightness 25 = .ok (.iload_n 1, 1) := by decide +kernel
theorem dX7_brightness_26 : decode cX7_brightness 26 = .ok (.iload_n 2, 1) := by decide +kernel
theorem dX7_brightness_27 : decode cX7_brightness 27 = .ok (.invokevirtual 286, 3) := by decide +kernel
theorem dX7_brightness_30 : decode cX7_brightness 30 = .ok (.ireturn, 1) := by decide +kernel
theorem dX7_brightestStart_0 : decode cX7_brightestStart 0 = .ok (.iload_n 1, 1) := by decide +kernel
theorem dX7_brightestStart_1 : decode cX7_brightestStart 1 = .ok (.iconst 1, 1) := by decide +kernel
theorem dX7_brightestStart_2 : decode cX7_brightestStart 2 = .ok (.sipush 200, 3) := by decide +kernel
theorem dX7_brightestStart_5 : decode cX7_brightestStart 5 = .ok (.invokestatic 74, 3) := by decide +kernel
theorem dX7_brightestStart_8 : decode cX7_brightestStart 8 = .ok (.ifCond .ne 5, 3) := by decide +kernel
theorem dX7_brightestStart_11 : decode cX7_brightestStart 11 = .ok (.iconst (-1), 1) := by decide +kernel
theorem dX7_brightestStart_12 : decode cX7_brightestStart 12 = .ok (.ireturn, 1) := by decide +kernel
theorem dX7_brightestStart_13 : decode cX7_brightestStart 13 = .ok (.aload_n 0, 1) := by decide +kernel
theorem dX7_brightestStart_14 : decode cX7_brightestStart 14 = .ok (.iconst 0, 1) := by decide +kernel
theorem dX7_brightestStart_15 : decode cX7_brightestStart 15 = .ok (.iload_n 1, 1) := by decide +kernel
theorem dX7_brightestStart_16 : decode cX7_brightestStart 16 = .ok (.invokevirtual 286, 3) := by decide +kernel
theorem dX7_brightestStart_19 : decode cX7_brightestStart 19 = .ok (.istore_n 2, 1) := by decide +kernel
theorem dX7_brightestStart_20 : decode cX7_brightestStart 20 = .ok (.iload_n 2, 1) := by decide +kernel
theorem dX7_brightestStart_21 : decode cX7_brightestStart 21 = .ok (.istore_n 3, 1) := by decide +kernel
theorem dX7_brightestStart_22 : decode cX7_brightestStart 22 = .ok (.iconst 0, 1) := by decide +kernel
theorem dX7_brightestStart_23 : decode cX7_brightestStart 23 = .ok (.istore 4, 2) := by decide +kernel
theorem dX7_brightestStart_25 : decode cX7_brightestStart 25 = .ok (.iconst 1, 1) := by decide +kernel
theorem dX7_brightestStart_26 : decode cX7_brightestStart 26 = .ok (.istore 5, 2) := by decide +kernel
theorem dX7_brightestStart_28 : decode cX7_brightestStart 28 = .ok (.iload 5, 2) := by decide +kernel
theorem dX7_brightestStart_30 : decode cX7_brightestStart 30 = .ok (.sipush 199, 3) := by decide +kernel
theorem dX7_brightestStart_33 : decode cX7_brightestStart 33 = .ok (.if_icmp .gt 44, 3) := by decide +kernel
theorem dX7_brightestStart_36 : decode cX7_brightestStart 36 = .ok (.iload_n 2, 1) := by decide +kernel
theorem dX7_brightestStart_37 : decode cX7_brightestStart 37 = .ok (.aload_n 0, 1) := by decide +kernel
theorem dX7_brightestStart_38 : decode cX7_brightestStart 38 = .ok (.iload 5, 2) := by decide +kernel
theorem dX7_brightestStart_40 : decode cX7_brightestStart 40 = .ok (.iload_n 1, 1) := by decide +kernel
theorem dX7_brightestStart_41 : decode cX7_brightestStart 41 = .ok (.iadd, 1) := by decide +kernel
theorem dX7_brightestStart_42 : decode cX7_brightestStart 42 = .ok (.iconst 1, 1) := by decide +kernel
theorem dX7_brightestStart_43 : decode cX7_brightestStart 43 = .ok (.isub, 1) := by decide +kernel
theorem dX7_brightestStart_44 : decode cX7_brightestStart 44 = .ok (.iconst 1, 1) := by decide +kernel
theorem dX7_brightestStart_45 : decode cX7_brightestStart 45 = .ok (.invokevirtual 286, 3) := by decide +kernel
theorem dX7_brightestStart_48 : decode cX7_brightestStart 48 = .ok (.aload_n 0, 1) := by decide +kernel
theorem dX7_brightestStart_49 : decode cX7_brightestStart 49 = .ok (.iload 5, 2) := by decide +kernel
theorem dX7_brightestStart_51 : decode cX7_brightestStart 51 = .ok (.iconst 1, 1) := by decide +kernel
theorem dX7_brightestStart_52 : decode cX7_brightestStart 52 = .ok (.isub, 1) := by decide +kernel
theorem dX7_brightestStart_53 : decode cX7_brightestStart 53 = .ok (.iconst 1, 1) := by decide +kernel
theorem dX7_brightestStart_54 : decode cX7_brightestStart 54 = .ok (.invokevirtual 286, 3) := by decide +kernel
theorem dX7_brightestStart_57 : decode cX7_brightestStart 57 = .ok (.isub, 1) := by decide +kernel
theorem dX7_brightestStart_58 : decode cX7_brightestStart 58 = .ok (.iadd, 1) := by decide +kernel
theorem dX7_brightestStart_59 : decode cX7_brightestStart 59 = .ok (.istore_n 2, 1) := by decide +kernel
theorem dX7_brightestStart_60 : decode cX7_brightestStart 60 = .ok (.iload_n 2, 1) := by decide +kernel
theorem dX7_brightestStart_61 : decode cX7_brightestStart 61 = .ok (.iload_n 3, 1) := by decide +kernel
theorem dX7_brightestStart_62 : decode cX7_brightestStart 62 = .ok (.if_icmp .le 9, 3) := by decide +kernel
theorem dX7_brightestStart_65 : decode cX7_brightestStart 65 = .ok (.iload_n 2, 1) := by decide +kernel
theorem dX7_brightestStart_66 : decode cX7_brightestStart 66 = .ok (.istore_n 3, 1) := by decide +kernel
theorem dX7_brightestStart_67 : decode cX7_brightestStart 67 = .ok (.iload 5, 2) := by decide +kernel
theorem dX7_brightestStart_69 : decode cX7_brightestStart 69 = .ok (.istore 4, 2) := by decide +kernel
theorem dX7_brightestStart_71 : decode cX7_brightestStart 71 = .ok (.iinc 5 1, 3) := by decide +kernel
theorem dX7_brightestStart_74 : decode cX7_brightestStart 74 = .ok (.goto (-46), 3) := by decide +kernel
theorem dX7_brightestStart_77 : decode cX7_brightestStart 77 = .ok (.iload 4, 2) := by decide +kernel
theorem dX7_brightestStart_79 : decode cX7_brightestStart 79 = .ok (.ireturn, 1) := by decide +kernel
theorem dX7_overlayPeriod_0 : decode cX7_overlayPeriod 0 = .ok (.aload_n 0, 1) := by decide +kernel
theorem dX7_overlayPeriod_1 : decode cX7_overlayPeriod 1 = .ok (.getfield 108, 3) := by decide +kernel
theorem dX7_overlayPeriod_4 : decode cX7_overlayPeriod 4 = .ok (.aload_n 0, 1) := by decide +kernel
theorem dX7_overlayPeriod_5 : decode cX7_overlayPeriod 5 = .ok (.getfield 45, 3) := by decide +kernel
theorem dX7_overlayPeriod_8 : decode cX7_overlayPeriod 8 = .ok (.getfield 172, 3) := by decide +kernel
theorem dX7_overlayPeriod_11 : decode cX7_overlayPeriod 11 = .ok (.imul, 1) := by decide +kernel
theorem dX7_overlayPeriod_12 : decode cX7_overlayPeriod 12 = .ok (.aload_n 0, 1) := by decide +kernel
theorem dX7_overlayPeriod_13 : decode cX7_overlayPeriod 13 = .ok (.getfield 108, 3) := by decide +kernel
theorem dX7_overlayPeriod_16 : decode cX7_overlayPeriod 16 = .ok (.aload_n 0, 1) := by decide +kernel
theorem dX7_overlayPeriod_17 : decode cX7_overlayPeriod 17 = .ok (.getfield 45, 3) := by decide +kernel
theorem dX7_overlayPeriod_20 : decode cX7_overlayPeriod 20 = .ok (.getfield 172, 3) := by decide +kernel
theorem dX7_overlayPeriod_23 : decode cX7_overlayPeriod 23 = .ok (.invokestatic 289, 3) := by decide +kernel
theorem dX7_overlayPeriod_26 : decode cX7_overlayPeriod 26 = .ok (.invokestatic 231, 3) := by decide +kernel
theorem dX7_overlayPeriod_29 : decode cX7_overlayPeriod 29 = .ok (.ireturn, 1) := by decide +kernel
theorem dX7_fringePeriodNumerator_0 : decode cX7_fringePeriodNumerator 0 = .ok (.aload_n 0, 1) := by decide +kernel
theorem dX7_fringePeriodNumerator_1 : decode cX7_fringePeriodNumerator 1 = .ok (.aload_n 0, 1) := by decide +kernel
theorem dX7_fringePeriodNumerator_2 : decode cX7_fringePeriodNumerator 2 = .ok (.getfield 108, 3) := by decide +kernel
theorem dX7_fringePeriodNumerator_5 : decode cX7_fringePeriodNumerator 5 = .ok (.aload_n 0, 1) := by decide +kernel
theorem dX7_fringePeriodNumerator_6 : decode cX7_fringePeriodNumerator 6 = .ok (.getfield 45, 3) := by decide +kernel
theorem dX7_fringePeriodNumerator_9 : decode cX7_fringePeriodNumerator 9 = .ok (.getfield 172, 3) := by decide +kernel
theorem dX7_fringePeriodNumerator_12 : decode cX7_fringePeriodNumerator 12 = .ok (.imul, 1) := by decide +kernel
theorem dX7_fringePeriodNumerator_13 : decode cX7_fringePeriodNumerator 13 = .ok (.invokevirtual 292, 3) := by decide +kernel
theorem dX7_fringePeriodNumerator_16 : decode cX7_fringePeriodNumerator 16 = .ok (.ireturn, 1) := by decide +kernel
theorem dX7_fringePeriodDenominator_0 : decode cX7_fringePeriodDenominator 0 = .ok (.aload_n 0, 1) := by decide +kernel
theorem dX7_fringePeriodDenominator_1 : decode cX7_fringePeriodDenominator 1 = .ok (.aload_n 0, 1) := by decide +kernel
theorem dX7_fringePeriodDenominator_2 : decode cX7_fringePeriodDenominator 2 = .ok (.invokevirtual 295, 3) := by decide +kernel
theorem dX7_fringePeriodDenominator_5 : decode cX7_fringePeriodDenominator 5 = .ok (.invokevirtual 292, 3) := by decide +kernel
theorem dX7_fringePeriodDenominator_8 : decode cX7_fringePeriodDenominator 8 = .ok (.ireturn, 1) := by decide +kernel
theorem dX7_magnificationBits_0 : decode cX7_magnificationBits 0 = .ok (.aload_n 0, 1) := by decide +kernel
theorem dX7_magnificationBits_1 : decode cX7_magnificationBits 1 = .ok (.invokevirtual 295, 3) := by decide +kernel
theorem dX7_magnificationBits_4 : decode cX7_magnificationBits 4 = .ok (.istore_n 1, 1) := by decide +kernel
theorem dX7_magnificationBits_5 : decode cX7_magnificationBits 5 = .ok (.iload_n 1, 1) := by decide +kernel
theorem dX7_magnificationBits_6 : decode cX7_magnificationBits 6 = .ok (.ifCond .ne 6, 3) := by decide +kernel
theorem dX7_magnificationBits_9 : decode cX7_magnificationBits 9 = .ok (.bipush (-4), 2) := by decide +kernel
theorem dX7_magnificationBits_11 : decode cX7_magnificationBits 11 = .ok (.ireturn, 1) := by decide +kernel
theorem dX7_magnificationBits_12 : decode cX7_magnificationBits 12 = .ok (.aload_n 0, 1) := by decide +kernel
theorem dX7_magnificationBits_13 : decode cX7_magnificationBits 13 = .ok (.getfield 45, 3) := by decide +kernel
theorem dX7_magnificationBits_16 : decode cX7_magnificationBits 16 = .ok (.getfield 172, 3) := by decide +kernel
theorem dX7_magnificationBits_19 : decode cX7_magnificationBits 19 = .ok (.i2f, 1) := by decide +kernel
theorem dX7_magnificationBits_20 : decode cX7_magnificationBits 20 = .ok (.iload_n 1, 1) := by decide +kernel
theorem dX7_magnificationBits_21 : decode cX7_magnificationBits 21 = .ok (.i2f, 1) := by decide +kernel
theorem dX7_magnificationBits_22 : decode cX7_magnificationBits 22 = .ok (.fdiv, 1) := by decide +kernel
theorem dX7_magnificationBits_23 : decode cX7_magnificationBits 23 = .ok (.invokestatic 260, 3) := by decide +kernel
theorem dX7_magnificationBits_26 : decode cX7_magnificationBits 26 = .ok (.ireturn, 1) := by decide +kernel
theorem dX7_crossedSpacingBits_0 : decode cX7_crossedSpacingBits 0 = .ok (.iload_n 1, 1) := by decide +kernel
theorem dX7_crossedSpacingBits_1 : decode cX7_crossedSpacingBits 1 = .ok (.iconst 1, 1) := by decide +kernel
theorem dX7_crossedSpacingBits_2 : decode cX7_crossedSpacingBits 2 = .ok (.bipush 99, 2) := by decide +kernel
theorem dX7_crossedSpacingBits_4 : decode cX7_crossedSpacingBits 4 = .ok (.invokestatic 74, 3) := by decide +kernel
theorem dX7_crossedSpacingBits_7 : decode cX7_crossedSpacingBits 7 = .ok (.ifCond .eq 14, 3) := by decide +kernel
theorem dX7_crossedSpacingBits_10 : decode cX7_crossedSpacingBits 10 = .ok (.iload_n 2, 1) := by decide +kernel
theorem dX7_crossedSpacingBits_11 : decode cX7_crossedSpacingBits 11 = .ok (.iconst 1, 1) := by decide +kernel
theorem dX7_crossedSpacingBits_12 : decode cX7_crossedSpacingBits 12 = .ok (.sipush 999, 3) := by decide +kernel
theorem dX7_crossedSpacingBits_15 : decode cX7_crossedSpacingBits 15 = .ok (.invokestatic 74, 3) := by decide +kernel
theorem dX7_crossedSpacingBits_18 : decode cX7_crossedSpacingBits 18 = .ok (.ifCond .ne 5, 3) := by decide +kernel
theorem dX7_crossedSpacingBits_21 : decode cX7_crossedSpacingBits 21 = .ok (.iconst (-1), 1) := by decide +kernel
theorem dX7_crossedSpacingBits_22 : decode cX7_crossedSpacingBits 22 = .ok (.ireturn, 1) := by decide +kernel
theorem dX7_crossedSpacingBits_23 : decode cX7_crossedSpacingBits 23 = .ok (.aload_n 0, 1) := by decide +kernel
theorem dX7_crossedSpacingBits_24 : decode cX7_crossedSpacingBits 24 = .ok (.getfield 108, 3) := by decide +kernel
theorem dX7_crossedSpacingBits_27 : decode cX7_crossedSpacingBits 27 = .ok (.i2f, 1) := by decide +kernel
theorem dX7_crossedSpacingBits_28 : decode cX7_crossedSpacingBits 28 = .ok (.iload_n 2, 1) := by decide +kernel
theorem dX7_crossedSpacingBits_29 : decode cX7_crossedSpacingBits 29 = .ok (.i2f, 1) := by decide +kernel
theorem dX7_crossedSpacingBits_30 : decode cX7_crossedSpacingBits 30 = .ok (.fmul, 1) := by decide +kernel
theorem dX7_crossedSpacingBits_31 : decode cX7_crossedSpacingBits 31 = .ok (.iload_n 1, 1) := by decide +kernel
theorem dX7_crossedSpacingBits_32 : decode cX7_crossedSpacingBits 32 = .ok (.i2f, 1) := by decide +kernel
theorem dX7_crossedSpacingBits_33 : decode cX7_crossedSpacingBits 33 = .ok (.fdiv, 1) := by decide +kernel
theorem dX7_crossedSpacingBits_34 : decode cX7_crossedSpacingBits 34 = .ok (.invokestatic 260, 3) := by decide +kernel
theorem dX7_crossedSpacingBits_37 : decode cX7_crossedSpacingBits 37 = .ok (.ireturn, 1) := by decide +kernel
theorem dX7_brightCells_0 : decode cX7_brightCells 0 = .ok (.iconst 0, 1) := by decide +kernel
theorem dX7_brightCells_1 : decode cX7_brightCells 1 = .ok (.istore_n 3, 1) := by decide +kernel
theorem dX7_brightCells_2 : decode cX7_brightCells 2 = .ok (.iload_n 1, 1) := by decide +kernel
theorem dX7_brightCells_3 : decode cX7_brightCells 3 = .ok (.istore 4, 2) := by decide +kernel
theorem dX7_brightCells_5 : decode cX7_brightCells 5 = .ok (.iload 4, 2) := by decide +kernel
theorem dX7_brightCells_7 : decode cX7_brightCells 7 = .ok (.iload_n 1, 1) := by decide +kernel
theorem dX7_brightCells_8 : decode cX7_brightCells 8 = .ok (.iload_n 2, 1) := by decide +kernel
theorem dX7_brightCells_9 : decode cX7_brightCells 9 = .ok (.iadd, 1) := by decide +kernel
theorem dX7_brightCells_10 : decode cX7_brightCells 10 = .ok (.if_icmp .ge 55, 3) := by decide +kernel
theorem dX7_brightCells_13 : decode cX7_brightCells 13 = .ok (.aload_n 0, 1) := by decide +kernel
theorem dX7_brightCells_14 : decode cX7_brightCells 14 = .ok (.getfield 45, 3) := by decide +kernel
theorem dX7_brightCells_17 : decode cX7_brightCells 17 = .ok (.getfield 135, 3) := by decide +kernel
theorem dX7_brightCells_20 : decode cX7_brightCells 20 = .ok (.iload 4, 2) := by decide +kernel
theorem dX7_brightCells_22 : decode cX7_brightCells 22 = .ok (.iadd, 1) := by decide +kernel
theorem dX7_brightCells_23 : decode cX7_brightCells 23 = .ok (.aload_n 0, 1) := by decide +kernel
theorem dX7_brightCells_24 : decode cX7_brightCells 24 = .ok (.getfield 108, 3) := by decide +kernel
theorem dX7_brightCells_27 : decode cX7_brightCells 27 = .ok (.invokestatic 298, 3) := by decide +kernel
theorem dX7_brightCells_30 : decode cX7_brightCells 30 = .ok (.ifCond .eq 29, 3) := by decide +kernel
theorem dX7_brightCells_33 : decode cX7_brightCells 33 = .ok (.iload 4, 2) := by decide +kernel
theorem dX7_brightCells_35 : decode cX7_brightCells 35 = .ok (.aload_n 0, 1) := by decide +kernel
theorem dX7_brightCells_36 : decode cX7_brightCells 36 = .ok (.getfield 45, 3) := by decide +kernel
theorem dX7_brightCells_39 : decode cX7_brightCells 39 = .ok (.getfield 175, 3) := by decide +kernel
theorem dX7_brightCells_42 : decode cX7_brightCells 42 = .ok (.iadd, 1) := by decide +kernel
theorem dX7_brightCells_43 : decode cX7_brightCells 43 = .ok (.aload_n 0, 1) := by decide +kernel
theorem dX7_brightCells_44 : decode cX7_brightCells 44 = .ok (.getfield 45, 3) := by decide +kernel
theorem dX7_brightCells_47 : decode cX7_brightCells 47 = .ok (.getfield 172, 3) := by decide +kernel
theorem dX7_brightCells_50 : decode cX7_brightCells 50 = .ok (.invokestatic 298, 3) := by decide +kernel
theorem dX7_brightCells_53 : decode cX7_brightCells 53 = .ok (.ifCond .eq 6, 3) := by decide +kernel
theorem dX7_brightCells_56 : decode cX7_brightCells 56 = .ok (.iinc 3 1, 3) := by decide +kernel
theorem dX7_brightCells_59 : decode cX7_brightCells 59 = .ok (.iinc 4 1, 3) := by decide +kernel
theorem dX7_brightCells_62 : decode cX7_brightCells 62 = .ok (.goto (-57), 3) := by decide +kernel
theorem dX7_brightCells_65 : decode cX7_brightCells 65 = .ok (.iload_n 3, 1) := by decide +kernel
theorem dX7_brightCells_66 : decode cX7_brightCells 66 = .ok (.ireturn, 1) := by decide +kernel
theorem dX7_isClear_0 : decode cX7_isClear 0 = .ok (.iload_n 0, 1) := by decide +kernel
theorem dX7_isClear_1 : decode cX7_isClear 1 = .ok (.iload_n 1, 1) := by decide +kernel
theorem dX7_isClear_2 : decode cX7_isClear 2 = .ok (.invokestatic 277, 3) := by decide +kernel
theorem dX7_isClear_5 : decode cX7_isClear 5 = .ok (.iload_n 1, 1) := by decide +kernel
theorem dX7_isClear_6 : decode cX7_isClear 6 = .ok (.iconst 2, 1) := by decide +kernel
theorem dX7_isClear_7 : decode cX7_isClear 7 = .ok (.idiv, 1) := by decide +kernel
theorem dX7_isClear_8 : decode cX7_isClear 8 = .ok (.if_icmp .lt 7, 3) := by decide +kernel
theorem dX7_isClear_11 : decode cX7_isClear 11 = .ok (.iconst 1, 1) := by decide +kernel
theorem dX7_isClear_12 : decode cX7_isClear 12 = .ok (.goto 4, 3) := by decide +kernel
theorem dX7_isClear_15 : decode cX7_isClear 15 = .ok (.iconst 0, 1) := by decide +kernel
theorem dX7_isClear_16 : decode cX7_isClear 16 = .ok (.ireturn, 1) := by decide +kernel
theorem dX7_pitchDifference_0 : decode cX7_pitchDifference 0 = .ok (.aload_n 0, 1) := by decide +kernel
theorem dX7_pitchDifference_1 : decode cX7_pitchDifference 1 = .ok (.getfield 108, 3) := by decide +kernel
theorem dX7_pitchDifference_4 : decode cX7_pitchDifference 4 = .ok (.aload_n 0, 1) := by decide +kernel
theorem dX7_pitchDifference_5 : decode cX7_pitchDifference 5 = .ok (.getfield 45, 3) := by decide +kernel
theorem dX7_pitchDifference_8 : decode cX7_pitchDifference 8 = .ok (.getfield 172, 3) := by decide +kernel
theorem dX7_pitchDifference_11 : decode cX7_pitchDifference 11 = .ok (.isub, 1) := by decide +kernel
theorem dX7_pitchDifference_12 : decode cX7_pitchDifference 12 = .ok (.invokestatic 229, 3) := by decide +kernel
theorem dX7_pitchDifference_15 : decode cX7_pitchDifference 15 = .ok (.ireturn, 1) := by decide +kernel
theorem dX7_inLowestTerms_0 : decode cX7_inLowestTerms 0 = .ok (.aload_n 0, 1) := by decide +kernel
theorem dX7_inLowestTerms_1 : decode cX7_inLowestTerms 1 = .ok (.invokevirtual 295, 3) := by decide +kernel
theorem dX7_inLowestTerms_4 : decode cX7_inLowestTerms 4 = .ok (.istore_n 2, 1) := by decide +kernel
theorem dX7_inLowestTerms_5 : decode cX7_inLowestTerms 5 = .ok (.iload_n 2, 1) := by decide +kernel
theorem dX7_inLowestTerms_6 : decode cX7_inLowestTerms 6 = .ok (.ifCond .ne 6, 3) := by decide +kernel
theorem dX7_inLowestTerms_9 : decode cX7_inLowestTerms 9 = .ok (.bipush (-4), 2) := by decide +kernel
theorem dX7_inLowestTerms_11 : decode cX7_inLowestTerms 11 = .ok (.ireturn, 1) := by decide +kernel
theorem dX7_inLowestTerms_12 : decode cX7_inLowestTerms 12 = .ok (.iload_n 1, 1) := by decide +kernel
theorem dX7_inLowestTerms_13 : decode cX7_inLowestTerms 13 = .ok (.aload_n 0, 1) := by decide +kernel
theorem dX7_inLowestTerms_14 : decode cX7_inLowestTerms 14 = .ok (.getfield 108, 3) := by decide +kernel
theorem dX7_inLowestTerms_17 : decode cX7_inLowestTerms 17 = .ok (.aload_n 0, 1) := by decide +kernel
theorem dX7_inLowestTerms_18 : decode cX7_inLowestTerms 18 = .ok (.getfield 45, 3) := by decide +kernel
theorem dX7_inLowestTerms_21 : decode cX7_inLowestTerms 21 = .ok (.getfield 172, 3) := by decide +kernel
theorem dX7_inLowestTerms_24 : decode cX7_inLowestTerms 24 = .ok (.imul, 1) := by decide +kernel
theorem dX7_inLowestTerms_25 : decode cX7_inLowestTerms 25 = .ok (.iload_n 2, 1) := by decide +kernel
theorem dX7_inLowestTerms_26 : decode cX7_inLowestTerms 26 = .ok (.invokestatic 289, 3) := by decide +kernel
theorem dX7_inLowestTerms_29 : decode cX7_inLowestTerms 29 = .ok (.invokestatic 231, 3) := by decide +kernel
theorem dX7_inLowestTerms_32 : decode cX7_inLowestTerms 32 = .ok (.ireturn, 1) := by decide +kernel
theorem dX7_within_0 : decode cX7_within 0 = .ok (.iload_n 0, 1) := by decide +kernel
theorem dX7_within_1 : decode cX7_within 1 = .ok (.iload_n 1, 1) := by decide +kernel
theorem dX7_within_2 : decode cX7_within 2 = .ok (.if_icmp .lt 12, 3) := by decide +kernel
theorem dX7_within_5 : decode cX7_within 5 = .ok (.iload_n 0, 1) := by decide +kernel
theorem dX7_within_6 : decode cX7_within 6 = .ok (.iload_n 2, 1) := by decide +kernel
theorem dX7_within_7 : decode cX7_within 7 = .ok (.if_icmp .gt 7, 3) := by decide +kernel
theorem dX7_within_10 : decode cX7_within 10 = .ok (.iconst 1, 1) := by decide +kernel
theorem dX7_within_11 : decode cX7_within 11 = .ok (.goto 4, 3) := by decide +kernel
theorem dX7_within_14 : decode cX7_within 14 = .ok (.iconst 0, 1) := by decide +kernel
theorem dX7_within_15 : decode cX7_within 15 = .ok (.ireturn, 1) := by decide +kernel
theorem dX7_isPosition_0 : decode cX7_isPosition 0 = .ok (.iload_n 0, 1) := by decide +kernel
theorem dX7_isPosition_1 : decode cX7_isPosition 1 = .ok (.iconst 0, 1) := by decide +kernel
theorem dX7_isPosition_2 : decode cX7_isPosition 2 = .ok (.sipush 9999, 3) := by decide +kernel
theorem dX7_isPosition_5 : decode cX7_isPosition 5 = .ok (.invokestatic 74, 3) := by decide +kernel
theorem dX7_isPosition_8 : decode cX7_isPosition 8 = .ok (.ireturn, 1) := by decide +kernel
theorem dX7_isMove_0 : decode cX7_isMove 0 = .ok (.iload_n 0, 1) := by decide +kernel
theorem dX7_isMove_1 : decode cX7_isMove 1 = .ok (.invokestatic 264, 3) := by decide +kernel
theorem dX7_isMove_4 : decode cX7_isMove 4 = .ok (.ifCond .eq 17, 3) := by decide +kernel
theorem dX7_isMove_7 : decode cX7_isMove 7 = .ok (.iload_n 1, 1) := by decide +kernel
theorem dX7_isMove_8 : decode cX7_isMove 8 = .ok (.iconst 1, 1) := by decide +kernel
theorem dX7_isMove_9 : decode cX7_isMove 9 = .ok (.bipush 99, 2) := by decide +kernel
theorem dX7_isMove_11 : decode cX7_isMove 11 = .ok (.invokestatic 74, 3) := by decide +kernel
theorem dX7_isMove_14 : decode cX7_isMove 14 = .ok (.ifCond .eq 7, 3) := by decide +kernel
theorem dX7_isMove_17 : decode cX7_isMove 17 = .ok (.iconst 1, 1) := by decide +kernel
theorem dX7_isMove_18 : decode cX7_isMove 18 = .ok (.goto 4, 3) := by decide +kernel
theorem dX7_isMove_21 : decode cX7_isMove 21 = .ok (.iconst 0, 1) := by decide +kernel
theorem dX7_isMove_22 : decode cX7_isMove 22 = .ok (.ireturn, 1) := by decide +kernel
theorem dX7_isMode_0 : decode cX7_isMode 0 = .ok (.iload_n 0, 1) := by decide +kernel
theorem dX7_isMode_1 : decode cX7_isMode 1 = .ok (.iconst 1, 1) := by decide +kernel
theorem dX7_isMode_2 : decode cX7_isMode 2 = .ok (.if_icmp .eq 13, 3) := by decide +kernel
theorem dX7_isMode_5 : decode cX7_isMode 5 = .ok (.iload_n 0, 1) := by decide +kernel
theorem dX7_isMode_6 : decode cX7_isMode 6 = .ok (.iconst 2, 1) := by decide +kernel
theorem dX7_isMode_7 : decode cX7_isMode 7 = .ok (.if_icmp .eq 8, 3) := by decide +kernel
theorem dX7_isMode_10 : decode cX7_isMode 10 = .ok (.iload_n 0, 1) := by decide +kernel
theorem dX7_isMode_11 : decode cX7_isMode 11 = .ok (.iconst 4, 1) := by decide +kernel
theorem dX7_isMode_12 : decode cX7_isMode 12 = .ok (.if_icmp .ne 7, 3) := by decide +kernel
theorem dX7_isMode_15 : decode cX7_isMode 15 = .ok (.iconst 1, 1) := by decide +kernel
theorem dX7_isMode_16 : decode cX7_isMode 16 = .ok (.goto 4, 3) := by decide +kernel
theorem dX7_isMode_19 : decode cX7_isMode 19 = .ok (.iconst 0, 1) := by decide +kernel
theorem dX7_isMode_20 : decode cX7_isMode 20 = .ok (.ireturn, 1) := by decide +kernel
theorem dX7_isScalePitch_0 : decode cX7_isScalePitch 0 = .ok (.iload_n 0, 1) := by decide +kernel
theorem dX7_isScalePitch_1 : decode cX7_isScalePitch 1 = .ok (.bipush 8, 2) := by decide +kernel
theorem dX7_isScalePitch_3 : decode cX7_isScalePitch 3 = .ok (.bipush 80, 2) := by decide +kernel
theorem dX7_isScalePitch_5 : decode cX7_isScalePitch 5 = .ok (.invokestatic 74, 3) := by decide +kernel
theorem dX7_isScalePitch_8 : decode cX7_isScalePitch 8 = .ok (.ifCond .eq 13, 3) := by decide +kernel
theorem dX7_isScalePitch_11 : decode cX7_isScalePitch 11 = .ok (.iload_n 0, 1) := by decide +kernel
theorem dX7_isScalePitch_12 : decode cX7_isScalePitch 12 = .ok (.iconst 4, 1) := by decide +kernel
theorem dX7_isScalePitch_13 : decode cX7_isScalePitch 13 = .ok (.irem, 1) := by decide +kernel
theorem dX7_isScalePitch_14 : decode cX7_isScalePitch 14 = .ok (.ifCond .ne 7, 3) := by decide +kernel
theorem dX7_isScalePitch_17 : decode cX7_isScalePitch 17 = .ok (.iconst 1, 1) := by decide +kernel
theorem dX7_isScalePitch_18 : decode cX7_isScalePitch 18 = .ok (.goto 4, 3) := by decide +kernel
theorem dX7_isScalePitch_21 : decode cX7_isScalePitch 21 = .ok (.iconst 0, 1) := by decide +kernel
theorem dX7_isScalePitch_22 : decode cX7_isScalePitch 22 = .ok (.ireturn, 1) := by decide +kernel
theorem dX7_isIndexGrating_0 : decode cX7_isIndexGrating 0 = .ok (.iload_n 0, 1) := by decide +kernel
theorem dX7_isIndexGrating_1 : decode cX7_isIndexGrating 1 = .ok (.bipush 8, 2) := by decide +kernel
theorem dX7_isIndexGrating_3 : decode cX7_isIndexGrating 3 = .ok (.bipush 80, 2) := by decide +kernel
theorem dX7_isIndexGrating_5 : decode cX7_isIndexGrating 5 = .ok (.invokestatic 74, 3) := by decide +kernel
theorem dX7_isIndexGrating_8 : decode cX7_isIndexGrating 8 = .ok (.ifCond .eq 17, 3) := by decide +kernel
theorem dX7_isIndexGrating_11 : decode cX7_isIndexGrating 11 = .ok (.iload_n 1, 1) := by decide +kernel
theorem dX7_isIndexGrating_12 : decode cX7_isIndexGrating 12 = .ok (.iconst 0, 1) := by decide +kernel
theorem dX7_isIndexGrating_13 : decode cX7_isIndexGrating 13 = .ok (.bipush 79, 2) := by decide +kernel
theorem dX7_isIndexGrating_15 : decode cX7_isIndexGrating 15 = .ok (.invokestatic 74, 3) := by decide +kernel
theorem dX7_isIndexGrating_18 : decode cX7_isIndexGrating 18 = .ok (.ifCond .eq 7, 3) := by decide +kernel
theorem dX7_isIndexGrating_21 : decode cX7_isIndexGrating 21 = .ok (.iconst 1, 1) := by decide +kernel
theorem dX7_isIndexGrating_22 : decode cX7_isIndexGrating 22 = .ok (.goto 4, 3) := by decide +kernel
theorem dX7_isIndexGrating_25 : decode cX7_isIndexGrating 25 = .ok (.iconst 0, 1) := by decide +kernel
theorem dX7_isIndexGrating_26 : decode cX7_isIndexGrating 26 = .ok (.ireturn, 1) := by decide +kernel
theorem dX7_isDirt_0 : decode cX7_isDirt 0 = .ok (.iload_n 0, 1) := by decide +kernel
theorem dX7_isDirt_1 : decode cX7_isDirt 1 = .ok (.invokestatic 264, 3) := by decide +kernel
theorem dX7_isDirt_4 : decode cX7_isDirt 4 = .ok (.ifCond .eq 17, 3) := by decide +kernel
theorem dX7_isDirt_7 : decode cX7_isDirt 7 = .ok (.iload_n 1, 1) := by decide +kernel
theorem dX7_isDirt_8 : decode cX7_isDirt 8 = .ok (.iconst 1, 1) := by decide +kernel
theorem dX7_isDirt_9 : decode cX7_isDirt 9 = .ok (.bipush 99, 2) := by decide +kernel
theorem dX7_isDirt_11 : decode cX7_isDirt 11 = .ok (.invokestatic 74, 3) := by decide +kernel
theorem dX7_isDirt_14 : decode cX7_isDirt 14 = .ok (.ifCond .eq 7, 3) := by decide +kernel
theorem dX7_isDirt_17 : decode cX7_isDirt 17 = .ok (.iconst 1, 1) := by decide +kernel
theorem dX7_isDirt_18 : decode cX7_isDirt 18 = .ok (.goto 4, 3) := by decide +kernel
theorem dX7_isDirt_21 : decode cX7_isDirt 21 = .ok (.iconst 0, 1) := by decide +kernel
theorem dX7_isDirt_22 : decode cX7_isDirt 22 = .ok (.ireturn, 1) := by decide +kernel
theorem dX7_quotient_0 : decode cX7_quotient 0 = .ok (.iload_n 1, 1) := by decide +kernel
theorem dX7_quotient_1 : decode cX7_quotient 1 = .ok (.ifCond .le 9, 3) := by decide +kernel
theorem dX7_quotient_4 : decode cX7_quotient 4 = .ok (.iload_n 0, 1) := by decide +kernel
theorem dX7_quotient_5 : decode cX7_quotient 5 = .ok (.iload_n 1, 1) := by decide +kernel
theorem dX7_quotient_6 : decode cX7_quotient 6 = .ok (.idiv, 1) := by decide +kernel
theorem dX7_quotient_7 : decode cX7_quotient 7 = .ok (.goto 4, 3) := by decide +kernel
theorem dX7_quotient_10 : decode cX7_quotient 10 = .ok (.iconst 0, 1) := by decide +kernel
theorem dX7_quotient_11 : decode cX7_quotient 11 = .ok (.ireturn, 1) := by decide +kernel
theorem dX7_remainder_0 : decode cX7_remainder 0 = .ok (.iload_n 1, 1) := by decide +kernel
theorem dX7_remainder_1 : decode cX7_remainder 1 = .ok (.ifCond .le 9, 3) := by decide +kernel
theorem dX7_remainder_4 : decode cX7_remainder 4 = .ok (.iload_n 0, 1) := by decide +kernel
theorem dX7_remainder_5 : decode cX7_remainder 5 = .ok (.iload_n 1, 1) := by decide +kernel
theorem dX7_remainder_6 : decode cX7_remainder 6 = .ok (.irem, 1) := by decide +kernel
theorem dX7_remainder_7 : decode cX7_remainder 7 = .ok (.goto 4, 3) := by decide +kernel
theorem dX7_remainder_10 : decode cX7_remainder 10 = .ok (.iconst 0, 1) := by decide +kernel
theorem dX7_remainder_11 : decode cX7_remainder 11 = .ok (.ireturn, 1) := by decide +kernel
theorem dX7_commonDivisor_0 : decode cX7_commonDivisor 0 = .ok (.iload_n 0, 1) := by decide +kernel
theorem dX7_commonDivisor_1 : decode cX7_commonDivisor 1 = .ok (.istore_n 2, 1) := by decide +kernel
theorem dX7_commonDivisor_2 : decode cX7_commonDivisor 2 = .ok (.iload_n 1, 1) := by decide +kernel
theorem dX7_commonDivisor_3 : decode cX7_commonDivisor 3 = .ok (.istore_n 3, 1) := by decide +kernel
theorem dX7_commonDivisor_4 : decode cX7_commonDivisor 4 = .ok (.iconst 0, 1) := by decide +kernel
theorem dX7_commonDivisor_5 : decode cX7_commonDivisor 5 = .ok (.istore 4, 2) := by decide +kernel
theorem dX7_commonDivisor_7 : decode cX7_commonDivisor 7 = .ok (.iload 4, 2) := by decide +kernel
theorem dX7_commonDivisor_9 : decode cX7_commonDivisor 9 = .ok (.bipush 64, 2) := by decide +kernel
theorem dX7_commonDivisor_11 : decode cX7_commonDivisor 11 = .ok (.if_icmp .ge 23, 3) := by decide +kernel
theorem dX7_commonDivisor_14 : decode cX7_commonDivisor 14 = .ok (.iload_n 3, 1) := by decide +kernel
theorem dX7_commonDivisor_15 : decode cX7_commonDivisor 15 = .ok (.ifCond .le 19, 3) := by decide +kernel
theorem dX7_commonDivisor_18 : decode cX7_commonDivisor 18 = .ok (.iload_n 2, 1) := by decide +kernel
theorem dX7_commonDivisor_19 : decode cX7_commonDivisor 19 = .ok (.iload_n 3, 1) := by decide +kernel
theorem dX7_commonDivisor_20 : decode cX7_commonDivisor 20 = .ok (.irem, 1) := by decide +kernel
theorem dX7_commonDivisor_21 : decode cX7_commonDivisor 21 = .ok (.istore 5, 2) := by decide +kernel
theorem dX7_commonDivisor_23 : decode cX7_commonDivisor 23 = .ok (.iload_n 3, 1) := by decide +kernel
theorem dX7_commonDivisor_24 : decode cX7_commonDivisor 24 = .ok (.istore_n 2, 1) := by decide +kernel
theorem dX7_commonDivisor_25 : decode cX7_commonDivisor 25 = .ok (.iload 5, 2) := by decide +kernel
theorem dX7_commonDivisor_27 : decode cX7_commonDivisor 27 = .ok (.istore_n 3, 1) := by decide +kernel
theorem dX7_commonDivisor_28 : decode cX7_commonDivisor 28 = .ok (.iinc 4 1, 3) := by decide +kernel
theorem dX7_commonDivisor_31 : decode cX7_commonDivisor 31 = .ok (.goto (-24), 3) := by decide +kernel
theorem dX7_commonDivisor_34 : decode cX7_commonDivisor 34 = .ok (.iload_n 2, 1) := by decide +kernel
theorem dX7_commonDivisor_35 : decode cX7_commonDivisor 35 = .ok (.ireturn, 1) := by decide +kernel
theorem dX7_bitsOf_0 : decode cX7_bitsOf 0 = .ok (.fload_n 0, 1) := by decide +kernel
theorem dX7_bitsOf_1 : decode cX7_bitsOf 1 = .ok (.fconst 0, 1) := by decide +kernel
theorem dX7_bitsOf_2 : decode cX7_bitsOf 2 = .ok (.fcmp .g, 1) := by decide +kernel
theorem dX7_bitsOf_3 : decode cX7_bitsOf 3 = .ok (.ifCond .gt 5, 3) := by decide +kernel
theorem dX7_bitsOf_6 : decode cX7_bitsOf 6 = .ok (.iconst 0, 1) := by decide +kernel
theorem dX7_bitsOf_7 : decode cX7_bitsOf 7 = .ok (.ireturn, 1) := by decide +kernel
theorem dX7_bitsOf_8 : decode cX7_bitsOf 8 = .ok (.fload_n 0, 1) := by decide +kernel
theorem dX7_bitsOf_9 : decode cX7_bitsOf 9 = .ok (.fstore_n 1, 1) := by decide +kernel
theorem dX7_bitsOf_10 : decode cX7_bitsOf 10 = .ok (.bipush 127, 2) := by decide +kernel
theorem dX7_bitsOf_12 : decode cX7_bitsOf 12 = .ok (.istore_n 2, 1) := by decide +kernel
theorem dX7_bitsOf_13 : decode cX7_bitsOf 13 = .ok (.iconst 0, 1) := by decide +kernel
theorem dX7_bitsOf_14 : decode cX7_bitsOf 14 = .ok (.istore_n 3, 1) := by decide +kernel
theorem dX7_bitsOf_15 : decode cX7_bitsOf 15 = .ok (.iload_n 3, 1) := by decide +kernel
theorem dX7_bitsOf_16 : decode cX7_bitsOf 16 = .ok (.bipush 127, 2) := by decide +kernel
theorem dX7_bitsOf_18 : decode cX7_bitsOf 18 = .ok (.if_icmp .ge 22, 3) := by decide +kernel
theorem dX7_bitsOf_21 : decode cX7_bitsOf 21 = .ok (.fload_n 1, 1) := by decide +kernel
theorem dX7_bitsOf_22 : decode cX7_bitsOf 22 = .ok (.fconst 2, 1) := by decide +kernel
theorem dX7_bitsOf_23 : decode cX7_bitsOf 23 = .ok (.fcmp .l, 1) := by decide +kernel
theorem dX7_bitsOf_24 : decode cX7_bitsOf 24 = .ok (.ifCond .lt 16, 3) := by decide +kernel
theorem dX7_bitsOf_27 : decode cX7_bitsOf 27 = .ok (.fload_n 1, 1) := by decide +kernel
theorem dX7_bitsOf_28 : decode cX7_bitsOf 28 = .ok (.fconst 2, 1) := by decide +kernel
theorem dX7_bitsOf_29 : decode cX7_bitsOf 29 = .ok (.fdiv, 1) := by decide +kernel
theorem dX7_bitsOf_30 : decode cX7_bitsOf 30 = .ok (.fstore_n 1, 1) := by decide +kernel
theorem dX7_bitsOf_31 : decode cX7_bitsOf 31 = .ok (.iinc 2 1, 3) := by decide +kernel
theorem dX7_bitsOf_34 : decode cX7_bitsOf 34 = .ok (.iinc 3 1, 3) := by decide +kernel
theorem dX7_bitsOf_37 : decode cX7_bitsOf 37 = .ok (.goto (-22), 3) := by decide +kernel
theorem dX7_bitsOf_40 : decode cX7_bitsOf 40 = .ok (.iconst 0, 1) := by decide +kernel
theorem dX7_bitsOf_41 : decode cX7_bitsOf 41 = .ok (.istore_n 3, 1) := by decide +kernel
theorem dX7_bitsOf_42 : decode cX7_bitsOf 42 = .ok (.iload_n 3, 1) := by decide +kernel
theorem dX7_bitsOf_43 : decode cX7_bitsOf 43 = .ok (.bipush 127, 2) := by decide +kernel
theorem dX7_bitsOf_45 : decode cX7_bitsOf 45 = .ok (.if_icmp .ge 22, 3) := by decide +kernel
theorem dX7_bitsOf_48 : decode cX7_bitsOf 48 = .ok (.fload_n 1, 1) := by decide +kernel
theorem dX7_bitsOf_49 : decode cX7_bitsOf 49 = .ok (.fconst 1, 1) := by decide +kernel
theorem dX7_bitsOf_50 : decode cX7_bitsOf 50 = .ok (.fcmp .g, 1) := by decide +kernel
theorem dX7_bitsOf_51 : decode cX7_bitsOf 51 = .ok (.ifCond .ge 16, 3) := by decide +kernel
theorem dX7_bitsOf_54 : decode cX7_bitsOf 54 = .ok (.fload_n 1, 1) := by decide +kernel
theorem dX7_bitsOf_55 : decode cX7_bitsOf 55 = .ok (.fconst 2, 1) := by decide +kernel
theorem dX7_bitsOf_56 : decode cX7_bitsOf 56 = .ok (.fmul, 1) := by decide +kernel
theorem dX7_bitsOf_57 : decode cX7_bitsOf 57 = .ok (.fstore_n 1, 1) := by decide +kernel
theorem dX7_bitsOf_58 : decode cX7_bitsOf 58 = .ok (.iinc 2 (-1), 3) := by decide +kernel
theorem dX7_bitsOf_61 : decode cX7_bitsOf 61 = .ok (.iinc 3 1, 3) := by decide +kernel
theorem dX7_bitsOf_64 : decode cX7_bitsOf 64 = .ok (.goto (-22), 3) := by decide +kernel
theorem dX7_bitsOf_67 : decode cX7_bitsOf 67 = .ok (.iload_n 2, 1) := by decide +kernel
theorem dX7_bitsOf_68 : decode cX7_bitsOf 68 = .ok (.bipush 23, 2) := by decide +kernel
theorem dX7_bitsOf_70 : decode cX7_bitsOf 70 = .ok (.ishl, 1) := by decide +kernel
theorem dX7_bitsOf_71 : decode cX7_bitsOf 71 = .ok (.fload_n 1, 1) := by decide +kernel
theorem dX7_bitsOf_72 : decode cX7_bitsOf 72 = .ok (.fconst 1, 1) := by decide +kernel
theorem dX7_bitsOf_73 : decode cX7_bitsOf 73 = .ok (.fsub, 1) := by decide +kernel
theorem dX7_bitsOf_74 : decode cX7_bitsOf 74 = .ok (.ldc_w 301, 3) := by decide +kernel
theorem dX7_bitsOf_77 : decode cX7_bitsOf 77 = .ok (.fmul, 1) := by decide +kernel
theorem dX7_bitsOf_78 : decode cX7_bitsOf 78 = .ok (.f2i, 1) := by decide +kernel
theorem dX7_bitsOf_79 : decode cX7_bitsOf 79 = .ok (.iadd, 1) := by decide +kernel
theorem dX7_bitsOf_80 : decode cX7_bitsOf 80 = .ok (.ireturn, 1) := by decide +kernel
