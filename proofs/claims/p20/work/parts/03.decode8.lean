theorem dX8_init_0 : decode cX8_init 0 = .ok (.aload_n 0, 1) := by decide +kernel
theorem dX8_init_1 : decode cX8_init 1 = .ok (.invokespecial 1, 3) := by decide +kernel
theorem dX8_init_4 : decode cX8_init 4 = .ok (.aload_n 0, 1) := by decide +kernel
theorem dX8_init_5 : decode cX8_init 5 = .ok (.sipush 200, 3) := by decide +kernel
theorem dX8_init_8 : decode cX8_init 8 = .ok (.newarray .int, 2) := by decide +kernel
theorem dX8_init_10 : decode cX8_init 10 = .ok (.putfield 7, 3) := by decide +kernel
theorem dX8_init_13 : decode cX8_init 13 = .ok (.aload_n 0, 1) := by decide +kernel
theorem dX8_init_14 : decode cX8_init 14 = .ok (.bipush 6, 2) := by decide +kernel
theorem dX8_init_16 : decode cX8_init 16 = .ok (.newarray .int, 2) := by decide +kernel
theorem dX8_init_18 : decode cX8_init 18 = .ok (.putfield 13, 3) := by decide +kernel
theorem dX8_init_21 : decode cX8_init 21 = .ok (.aload_n 0, 1) := by decide +kernel
theorem dX8_init_22 : decode cX8_init 22 = .ok (.bipush 42, 2) := by decide +kernel
theorem dX8_init_24 : decode cX8_init 24 = .ok (.newarray .int, 2) := by decide +kernel
theorem dX8_init_26 : decode cX8_init 26 = .ok (.putfield 16, 3) := by decide +kernel
theorem dX8_init_29 : decode cX8_init 29 = .ok (.aload_n 0, 1) := by decide +kernel
theorem dX8_init_30 : decode cX8_init 30 = .ok (.bipush 6, 2) := by decide +kernel
theorem dX8_init_32 : decode cX8_init 32 = .ok (.newarray .int, 2) := by decide +kernel
theorem dX8_init_34 : decode cX8_init 34 = .ok (.putfield 19, 3) := by decide +kernel
theorem dX8_init_37 : decode cX8_init 37 = .ok (.aload_n 0, 1) := by decide +kernel
theorem dX8_init_38 : decode cX8_init 38 = .ok (.bipush 42, 2) := by decide +kernel
theorem dX8_init_40 : decode cX8_init 40 = .ok (.newarray .int, 2) := by decide +kernel
theorem dX8_init_42 : decode cX8_init 42 = .ok (.putfield 22, 3) := by decide +kernel
theorem dX8_init_45 : decode cX8_init 45 = .ok (.aload_n 0, 1) := by decide +kernel
theorem dX8_init_46 : decode cX8_init 46 = .ok (.bipush 42, 2) := by decide +kernel
theorem dX8_init_48 : decode cX8_init 48 = .ok (.newarray .int, 2) := by decide +kernel
theorem dX8_init_50 : decode cX8_init 50 = .ok (.putfield 25, 3) := by decide +kernel
theorem dX8_init_53 : decode cX8_init 53 = .ok (.aload_n 0, 1) := by decide +kernel
theorem dX8_init_54 : decode cX8_init 54 = .ok (.sipush 252, 3) := by decide +kernel
theorem dX8_init_57 : decode cX8_init 57 = .ok (.newarray .int, 2) := by decide +kernel
theorem dX8_init_59 : decode cX8_init 59 = .ok (.putfield 28, 3) := by decide +kernel
theorem dX8_init_62 : decode cX8_init 62 = .ok (.aload_n 0, 1) := by decide +kernel
theorem dX8_init_63 : decode cX8_init 63 = .ok (.invokevirtual 31, 3) := by decide +kernel
theorem dX8_init_66 : decode cX8_init 66 = .ok (.aload_n 0, 1) := by decide +kernel
theorem dX8_init_67 : decode cX8_init 67 = .ok (.bipush 20, 2) := by decide +kernel
theorem dX8_init_69 : decode cX8_init 69 = .ok (.putfield 34, 3) := by decide +kernel
theorem dX8_init_72 : decode cX8_init 72 = .ok (.aload_n 0, 1) := by decide +kernel
theorem dX8_init_73 : decode cX8_init 73 = .ok (.iconst 3, 1) := by decide +kernel
theorem dX8_init_74 : decode cX8_init 74 = .ok (.putfield 38, 3) := by decide +kernel
theorem dX8_init_77 : decode cX8_init 77 = .ok (.aload_n 0, 1) := by decide +kernel
theorem dX8_init_78 : decode cX8_init 78 = .ok (.getfield 13, 3) := by decide +kernel
theorem dX8_init_81 : decode cX8_init 81 = .ok (.iconst 0, 1) := by decide +kernel
theorem dX8_init_82 : decode cX8_init 82 = .ok (.sipush 400, 3) := by decide +kernel
theorem dX8_init_85 : decode cX8_init 85 = .ok (.iastore, 1) := by decide +kernel
theorem dX8_init_86 : decode cX8_init 86 = .ok (.aload_n 0, 1) := by decide +kernel
theorem dX8_init_87 : decode cX8_init 87 = .ok (.getfield 13, 3) := by decide +kernel
theorem dX8_init_90 : decode cX8_init 90 = .ok (.iconst 1, 1) := by decide +kernel
theorem dX8_init_91 : decode cX8_init 91 = .ok (.sipush 1000, 3) := by decide +kernel
theorem dX8_init_94 : decode cX8_init 94 = .ok (.iastore, 1) := by decide +kernel
theorem dX8_init_95 : decode cX8_init 95 = .ok (.aload_n 0, 1) := by decide +kernel
theorem dX8_init_96 : decode cX8_init 96 = .ok (.getfield 13, 3) := by decide +kernel
theorem dX8_init_99 : decode cX8_init 99 = .ok (.iconst 2, 1) := by decide +kernel
theorem dX8_init_100 : decode cX8_init 100 = .ok (.sipush 1740, 3) := by decide +kernel
theorem dX8_init_103 : decode cX8_init 103 = .ok (.iastore, 1) := by decide +kernel
theorem dX8_init_104 : decode cX8_init 104 = .ok (.aload_n 0, 1) := by decide +kernel
theorem dX8_init_105 : decode cX8_init 105 = .ok (.getfield 16, 3) := by decide +kernel
theorem dX8_init_108 : decode cX8_init 108 = .ok (.bipush 7, 2) := by decide +kernel
theorem dX8_init_110 : decode cX8_init 110 = .ok (.iconst 3, 1) := by decide +kernel
theorem dX8_init_111 : decode cX8_init 111 = .ok (.iastore, 1) := by decide +kernel
theorem dX8_init_112 : decode cX8_init 112 = .ok (.aload_n 0, 1) := by decide +kernel
theorem dX8_init_113 : decode cX8_init 113 = .ok (.getfield 16, 3) := by decide +kernel
theorem dX8_init_116 : decode cX8_init 116 = .ok (.bipush 8, 2) := by decide +kernel
theorem dX8_init_118 : decode cX8_init 118 = .ok (.iconst 1, 1) := by decide +kernel
theorem dX8_init_119 : decode cX8_init 119 = .ok (.iastore, 1) := by decide +kernel
theorem dX8_init_120 : decode cX8_init 120 = .ok (.aload_n 0, 1) := by decide +kernel
theorem dX8_init_121 : decode cX8_init 121 = .ok (.getfield 16, 3) := by decide +kernel
theorem dX8_init_124 : decode cX8_init 124 = .ok (.bipush 9, 2) := by decide +kernel
theorem dX8_init_126 : decode cX8_init 126 = .ok (.sipush 660, 3) := by decide +kernel
theorem dX8_init_129 : decode cX8_init 129 = .ok (.iastore, 1) := by decide +kernel
theorem dX8_init_130 : decode cX8_init 130 = .ok (.aload_n 0, 1) := by decide +kernel
theorem dX8_init_131 : decode cX8_init 131 = .ok (.getfield 16, 3) := by decide +kernel
theorem dX8_init_134 : decode cX8_init 134 = .ok (.bipush 10, 2) := by decide +kernel
theorem dX8_init_136 : decode cX8_init 136 = .ok (.bipush 9, 2) := by decide +kernel
theorem dX8_init_138 : decode cX8_init 138 = .ok (.iastore, 1) := by decide +kernel
theorem dX8_init_139 : decode cX8_init 139 = .ok (.aload_n 0, 1) := by decide +kernel
theorem dX8_init_140 : decode cX8_init 140 = .ok (.invokevirtual 41, 3) := by decide +kernel
theorem dX8_init_143 : decode cX8_init 143 = .ok (.return_, 1) := by decide +kernel
theorem dX8_in_0 : decode cX8_in 0 = .ok (.lload_n 0, 1) := by decide +kernel
theorem dX8_in_1 : decode cX8_in 1 = .ok (.lload_n 2, 1) := by decide +kernel
theorem dX8_in_2 : decode cX8_in 2 = .ok (.lcmp, 1) := by decide +kernel
theorem dX8_in_3 : decode cX8_in 3 = .ok (.ifCond .lt 14, 3) := by decide +kernel
theorem dX8_in_6 : decode cX8_in 6 = .ok (.lload_n 0, 1) := by decide +kernel
theorem dX8_in_7 : decode cX8_in 7 = .ok (.lload 4, 2) := by decide +kernel
theorem dX8_in_9 : decode cX8_in 9 = .ok (.lcmp, 1) := by decide +kernel
theorem dX8_in_10 : decode cX8_in 10 = .ok (.ifCond .gt 7, 3) := by decide +kernel
theorem dX8_in_13 : decode cX8_in 13 = .ok (.iconst 1, 1) := by decide +kernel
theorem dX8_in_14 : decode cX8_in 14 = .ok (.goto 4, 3) := by decide +kernel
theorem dX8_in_17 : decode cX8_in 17 = .ok (.iconst 0, 1) := by decide +kernel
theorem dX8_in_18 : decode cX8_in 18 = .ok (.ireturn, 1) := by decide +kernel
theorem dX8_beginRead_0 : decode cX8_beginRead 0 = .ok (.aload_n 0, 1) := by decide +kernel
theorem dX8_beginRead_1 : decode cX8_beginRead 1 = .ok (.iconst 0, 1) := by decide +kernel
theorem dX8_beginRead_2 : decode cX8_beginRead 2 = .ok (.putfield 34, 3) := by decide +kernel
theorem dX8_beginRead_5 : decode cX8_beginRead 5 = .ok (.aload_n 0, 1) := by decide +kernel
theorem dX8_beginRead_6 : decode cX8_beginRead 6 = .ok (.iconst 0, 1) := by decide +kernel
theorem dX8_beginRead_7 : decode cX8_beginRead 7 = .ok (.putfield 38, 3) := by decide +kernel
theorem dX8_beginRead_10 : decode cX8_beginRead 10 = .ok (.iconst 0, 1) := by decide +kernel
theorem dX8_beginRead_11 : decode cX8_beginRead 11 = .ok (.istore_n 1, 1) := by decide +kernel
theorem dX8_beginRead_12 : decode cX8_beginRead 12 = .ok (.iload_n 1, 1) := by decide +kernel
theorem dX8_beginRead_13 : decode cX8_beginRead 13 = .ok (.bipush 42, 2) := by decide +kernel
theorem dX8_beginRead_15 : decode cX8_beginRead 15 = .ok (.if_icmp .ge 16, 3) := by decide +kernel
theorem dX8_beginRead_18 : decode cX8_beginRead 18 = .ok (.aload_n 0, 1) := by decide +kernel
theorem dX8_beginRead_19 : decode cX8_beginRead 19 = .ok (.getfield 16, 3) := by decide +kernel
theorem dX8_beginRead_22 : decode cX8_beginRead 22 = .ok (.iload_n 1, 1) := by decide +kernel
theorem dX8_beginRead_23 : decode cX8_beginRead 23 = .ok (.iconst 0, 1) := by decide +kernel
theorem dX8_beginRead_24 : decode cX8_beginRead 24 = .ok (.iastore, 1) := by decide +kernel
theorem dX8_beginRead_25 : decode cX8_beginRead 25 = .ok (.iinc 1 1, 3) := by decide +kernel
theorem dX8_beginRead_28 : decode cX8_beginRead 28 = .ok (.goto (-16), 3) := by decide +kernel
theorem dX8_beginRead_31 : decode cX8_beginRead 31 = .ok (.aload_n 0, 1) := by decide +kernel
theorem dX8_beginRead_32 : decode cX8_beginRead 32 = .ok (.getfield 16, 3) := by decide +kernel
theorem dX8_beginRead_35 : decode cX8_beginRead 35 = .ok (.iconst 5, 1) := by decide +kernel
theorem dX8_beginRead_36 : decode cX8_beginRead 36 = .ok (.iconst 4, 1) := by decide +kernel
theorem dX8_beginRead_37 : decode cX8_beginRead 37 = .ok (.iastore, 1) := by decide +kernel
theorem dX8_beginRead_38 : decode cX8_beginRead 38 = .ok (.aload_n 0, 1) := by decide +kernel
theorem dX8_beginRead_39 : decode cX8_beginRead 39 = .ok (.getfield 16, 3) := by decide +kernel
theorem dX8_beginRead_42 : decode cX8_beginRead 42 = .ok (.bipush 6, 2) := by decide +kernel
theorem dX8_beginRead_44 : decode cX8_beginRead 44 = .ok (.bipush 22, 2) := by decide +kernel
theorem dX8_beginRead_46 : decode cX8_beginRead 46 = .ok (.iastore, 1) := by decide +kernel
theorem dX8_beginRead_47 : decode cX8_beginRead 47 = .ok (.return_, 1) := by decide +kernel
theorem dX8_takeRead_0 : decode cX8_takeRead 0 = .ok (.aload_n 0, 1) := by decide +kernel
theorem dX8_takeRead_1 : decode cX8_takeRead 1 = .ok (.aload_n 0, 1) := by decide +kernel
theorem dX8_takeRead_2 : decode cX8_takeRead 2 = .ok (.getfield 34, 3) := by decide +kernel
theorem dX8_takeRead_5 : decode cX8_takeRead 5 = .ok (.putfield 44, 3) := by decide +kernel
theorem dX8_takeRead_8 : decode cX8_takeRead 8 = .ok (.aload_n 0, 1) := by decide +kernel
theorem dX8_takeRead_9 : decode cX8_takeRead 9 = .ok (.aload_n 0, 1) := by decide +kernel
theorem dX8_takeRead_10 : decode cX8_takeRead 10 = .ok (.getfield 38, 3) := by decide +kernel
theorem dX8_takeRead_13 : decode cX8_takeRead 13 = .ok (.putfield 47, 3) := by decide +kernel
theorem dX8_takeRead_16 : decode cX8_takeRead 16 = .ok (.iconst 0, 1) := by decide +kernel
theorem dX8_takeRead_17 : decode cX8_takeRead 17 = .ok (.istore_n 1, 1) := by decide +kernel
theorem dX8_takeRead_18 : decode cX8_takeRead 18 = .ok (.iload_n 1, 1) := by decide +kernel
theorem dX8_takeRead_19 : decode cX8_takeRead 19 = .ok (.bipush 6, 2) := by decide +kernel
theorem dX8_takeRead_21 : decode cX8_takeRead 21 = .ok (.if_icmp .ge 21, 3) := by decide +kernel
theorem dX8_takeRead_24 : decode cX8_takeRead 24 = .ok (.aload_n 0, 1) := by decide +kernel
theorem dX8_takeRead_25 : decode cX8_takeRead 25 = .ok (.getfield 19, 3) := by decide +kernel
theorem dX8_takeRead_28 : decode cX8_takeRead 28 = .ok (.iload_n 1, 1) := by decide +kernel
theorem dX8_takeRead_29 : decode cX8_takeRead 29 = .ok (.aload_n 0, 1) := by decide +kernel
theorem dX8_takeRead_30 : decode cX8_takeRead 30 = .ok (.getfield 13, 3) := by decide +kernel
theorem dX8_takeRead_33 : decode cX8_takeRead 33 = .ok (.iload_n 1, 1) := by decide +kernel
theorem dX8_takeRead_34 : decode cX8_takeRead 34 = .ok (.iaload, 1) := by decide +kernel
theorem dX8_takeRead_35 : decode cX8_takeRead 35 = .ok (.iastore, 1) := by decide +kernel
theorem dX8_takeRead_36 : decode cX8_takeRead 36 = .ok (.iinc 1 1, 3) := by decide +kernel
theorem dX8_takeRead_39 : decode cX8_takeRead 39 = .ok (.goto (-21), 3) := by decide +kernel
theorem dX8_takeRead_42 : decode cX8_takeRead 42 = .ok (.iconst 0, 1) := by decide +kernel
theorem dX8_takeRead_43 : decode cX8_takeRead 43 = .ok (.istore_n 1, 1) := by decide +kernel
theorem dX8_takeRead_44 : decode cX8_takeRead 44 = .ok (.iload_n 1, 1) := by decide +kernel
theorem dX8_takeRead_45 : decode cX8_takeRead 45 = .ok (.bipush 42, 2) := by decide +kernel
theorem dX8_takeRead_47 : decode cX8_takeRead 47 = .ok (.if_icmp .ge 21, 3) := by decide +kernel
theorem dX8_takeRead_50 : decode cX8_takeRead 50 = .ok (.aload_n 0, 1) := by decide +kernel
theorem dX8_takeRead_51 : decode cX8_takeRead 51 = .ok (.getfield 22, 3) := by decide +kernel
theorem dX8_takeRead_54 : decode cX8_takeRead 54 = .ok (.iload_n 1, 1) := by decide +kernel
theorem dX8_takeRead_55 : decode cX8_takeRead 55 = .ok (.aload_n 0, 1) := by decide +kernel
theorem dX8_takeRead_56 : decode cX8_takeRead 56 = .ok (.getfield 16, 3) := by decide +kernel
theorem dX8_takeRead_59 : decode cX8_takeRead 59 = .ok (.iload_n 1, 1) := by decide +kernel
theorem dX8_takeRead_60 : decode cX8_takeRead 60 = .ok (.iaload, 1) := by decide +kernel
theorem dX8_takeRead_61 : decode cX8_takeRead 61 = .ok (.iastore, 1) := by decide +kernel
theorem dX8_takeRead_62 : decode cX8_takeRead 62 = .ok (.iinc 1 1, 3) := by decide +kernel
theorem dX8_takeRead_65 : decode cX8_takeRead 65 = .ok (.goto (-21), 3) := by decide +kernel
theorem dX8_takeRead_68 : decode cX8_takeRead 68 = .ok (.aload_n 0, 1) := by decide +kernel
theorem dX8_takeRead_69 : decode cX8_takeRead 69 = .ok (.iconst 0, 1) := by decide +kernel
theorem dX8_takeRead_70 : decode cX8_takeRead 70 = .ok (.putfield 50, 3) := by decide +kernel
theorem dX8_takeRead_73 : decode cX8_takeRead 73 = .ok (.return_, 1) := by decide +kernel
theorem dX8_append_0 : decode cX8_append 0 = .ok (.iload_n 1, 1) := by decide +kernel
theorem dX8_append_1 : decode cX8_append 1 = .ok (.i2l, 1) := by decide +kernel
theorem dX8_append_2 : decode cX8_append 2 = .ok (.ldc2_w 53, 3) := by decide +kernel
theorem dX8_append_5 : decode cX8_append 5 = .ok (.ldc2_w 55, 3) := by decide +kernel
theorem dX8_append_8 : decode cX8_append 8 = .ok (.invokestatic 57, 3) := by decide +kernel
theorem dX8_append_11 : decode cX8_append 11 = .ok (.ifCond .ne 5, 3) := by decide +kernel
theorem dX8_append_14 : decode cX8_append 14 = .ok (.iconst (-1), 1) := by decide +kernel
theorem dX8_append_15 : decode cX8_append 15 = .ok (.ireturn, 1) := by decide +kernel
theorem dX8_append_16 : decode cX8_append 16 = .ok (.aload_n 0, 1) := by decide +kernel
theorem dX8_append_17 : decode cX8_append 17 = .ok (.getfield 61, 3) := by decide +kernel
theorem dX8_append_20 : decode cX8_append 20 = .ok (.sipush 200, 3) := by decide +kernel
theorem dX8_append_23 : decode cX8_append 23 = .ok (.if_icmp .ne 6, 3) := by decide +kernel
theorem dX8_append_26 : decode cX8_append 26 = .ok (.bipush (-3), 2) := by decide +kernel
theorem dX8_append_28 : decode cX8_append 28 = .ok (.ireturn, 1) := by decide +kernel
theorem dX8_append_29 : decode cX8_append 29 = .ok (.aload_n 0, 1) := by decide +kernel
theorem dX8_append_30 : decode cX8_append 30 = .ok (.getfield 7, 3) := by decide +kernel
theorem dX8_append_33 : decode cX8_append 33 = .ok (.aload_n 0, 1) := by decide +kernel
theorem dX8_append_34 : decode cX8_append 34 = .ok (.getfield 61, 3) := by decide +kernel
theorem dX8_append_37 : decode cX8_append 37 = .ok (.iload_n 1, 1) := by decide +kernel
theorem dX8_append_38 : decode cX8_append 38 = .ok (.iastore, 1) := by decide +kernel
theorem dX8_append_39 : decode cX8_append 39 = .ok (.aload_n 0, 1) := by decide +kernel
theorem dX8_append_40 : decode cX8_append 40 = .ok (.dup, 1) := by decide +kernel
theorem dX8_append_41 : decode cX8_append 41 = .ok (.getfield 61, 3) := by decide +kernel
theorem dX8_append_44 : decode cX8_append 44 = .ok (.iconst 1, 1) := by decide +kernel
theorem dX8_append_45 : decode cX8_append 45 = .ok (.iadd, 1) := by decide +kernel
theorem dX8_append_46 : decode cX8_append 46 = .ok (.putfield 61, 3) := by decide +kernel
theorem dX8_append_49 : decode cX8_append 49 = .ok (.aload_n 0, 1) := by decide +kernel
theorem dX8_append_50 : decode cX8_append 50 = .ok (.getfield 61, 3) := by decide +kernel
theorem dX8_append_53 : decode cX8_append 53 = .ok (.ireturn, 1) := by decide +kernel
theorem dX8_clearText_0 : decode cX8_clearText 0 = .ok (.aload_n 0, 1) := by decide +kernel
theorem dX8_clearText_1 : decode cX8_clearText 1 = .ok (.getfield 61, 3) := by decide +kernel
theorem dX8_clearText_4 : decode cX8_clearText 4 = .ok (.istore_n 1, 1) := by decide +kernel
theorem dX8_clearText_5 : decode cX8_clearText 5 = .ok (.aload_n 0, 1) := by decide +kernel
theorem dX8_clearText_6 : decode cX8_clearText 6 = .ok (.iconst 0, 1) := by decide +kernel
theorem dX8_clearText_7 : decode cX8_clearText 7 = .ok (.putfield 61, 3) := by decide +kernel
theorem dX8_clearText_10 : decode cX8_clearText 10 = .ok (.iload_n 1, 1) := by decide +kernel
theorem dX8_clearText_11 : decode cX8_clearText 11 = .ok (.ireturn, 1) := by decide +kernel
theorem dX8_letterHere_0 : decode cX8_letterHere 0 = .ok (.aload_n 0, 1) := by decide +kernel
theorem dX8_letterHere_1 : decode cX8_letterHere 1 = .ok (.getfield 64, 3) := by decide +kernel
theorem dX8_letterHere_4 : decode cX8_letterHere 4 = .ok (.aload_n 0, 1) := by decide +kernel
theorem dX8_letterHere_5 : decode cX8_letterHere 5 = .ok (.getfield 61, 3) := by decide +kernel
theorem dX8_letterHere_8 : decode cX8_letterHere 8 = .ok (.if_icmp .ge 15, 3) := by decide +kernel
theorem dX8_letterHere_11 : decode cX8_letterHere 11 = .ok (.aload_n 0, 1) := by decide +kernel
theorem dX8_letterHere_12 : decode cX8_letterHere 12 = .ok (.getfield 7, 3) := by decide +kernel
theorem dX8_letterHere_15 : decode cX8_letterHere 15 = .ok (.aload_n 0, 1) := by decide +kernel
theorem dX8_letterHere_16 : decode cX8_letterHere 16 = .ok (.getfield 64, 3) := by decide +kernel
theorem dX8_letterHere_19 : decode cX8_letterHere 19 = .ok (.iaload, 1) := by decide +kernel
theorem dX8_letterHere_20 : decode cX8_letterHere 20 = .ok (.goto 4, 3) := by decide +kernel
theorem dX8_letterHere_23 : decode cX8_letterHere 23 = .ok (.iconst 0, 1) := by decide +kernel
theorem dX8_letterHere_24 : decode cX8_letterHere 24 = .ok (.ireturn, 1) := by decide +kernel
theorem dX8_isNumber_0 : decode cX8_isNumber 0 = .ok (.aload_n 0, 1) := by decide +kernel
theorem dX8_isNumber_1 : decode cX8_isNumber 1 = .ok (.iconst 0, 1) := by decide +kernel
theorem dX8_isNumber_2 : decode cX8_isNumber 2 = .ok (.putfield 67, 3) := by decide +kernel
theorem dX8_isNumber_5 : decode cX8_isNumber 5 = .ok (.iconst 0, 1) := by decide +kernel
theorem dX8_isNumber_6 : decode cX8_isNumber 6 = .ok (.istore 4, 2) := by decide +kernel
theorem dX8_isNumber_8 : decode cX8_isNumber 8 = .ok (.aload_n 0, 1) := by decide +kernel
theorem dX8_isNumber_9 : decode cX8_isNumber 9 = .ok (.invokevirtual 70, 3) := by decide +kernel
theorem dX8_isNumber_12 : decode cX8_isNumber 12 = .ok (.i2l, 1) := by decide +kernel
theorem dX8_isNumber_13 : decode cX8_isNumber 13 = .ok (.ldc2_w 74, 3) := by decide +kernel
theorem dX8_isNumber_16 : decode cX8_isNumber 16 = .ok (.ldc2_w 76, 3) := by decide +kernel
theorem dX8_isNumber_19 : decode cX8_isNumber 19 = .ok (.invokestatic 57, 3) := by decide +kernel
theorem dX8_isNumber_22 : decode cX8_isNumber 22 = .ok (.ifCond .eq 44, 3) := by decide +kernel
theorem dX8_isNumber_25 : decode cX8_isNumber 25 = .ok (.iload 4, 2) := by decide +kernel
theorem dX8_isNumber_27 : decode cX8_isNumber 27 = .ok (.iconst 4, 1) := by decide +kernel
theorem dX8_isNumber_28 : decode cX8_isNumber 28 = .ok (.if_icmp .ge 38, 3) := by decide +kernel
theorem dX8_isNumber_31 : decode cX8_isNumber 31 = .ok (.aload_n 0, 1) := by decide +kernel
theorem dX8_isNumber_32 : decode cX8_isNumber 32 = .ok (.bipush 10, 2) := by decide +kernel
theorem dX8_isNumber_34 : decode cX8_isNumber 34 = .ok (.aload_n 0, 1) := by decide +kernel
theorem dX8_isNumber_35 : decode cX8_isNumber 35 = .ok (.getfield 67, 3) := by decide +kernel
theorem dX8_isNumber_38 : decode cX8_isNumber 38 = .ok (.imul, 1) := by decide +kernel
theorem dX8_isNumber_39 : decode cX8_isNumber 39 = .ok (.aload_n 0, 1) := by decide +kernel
theorem dX8_isNumber_40 : decode cX8_isNumber 40 = .ok (.invokevirtual 70, 3) := by decide +kernel
theorem dX8_isNumber_43 : decode cX8_isNumber 43 = .ok (.iadd, 1) := by decide +kernel
theorem dX8_isNumber_44 : decode cX8_isNumber 44 = .ok (.bipush 48, 2) := by decide +kernel
theorem dX8_isNumber_46 : decode cX8_isNumber 46 = .ok (.isub, 1) := by decide +kernel
theorem dX8_isNumber_47 : decode cX8_isNumber 47 = .ok (.putfield 67, 3) := by decide +kernel
theorem dX8_isNumber_50 : decode cX8_isNumber 50 = .ok (.iinc 4 1, 3) := by decide +kernel
theorem dX8_isNumber_53 : decode cX8_isNumber 53 = .ok (.aload_n 0, 1) := by decide +kernel
theorem dX8_isNumber_54 : decode cX8_isNumber 54 = .ok (.dup, 1) := by decide +kernel
theorem dX8_isNumber_55 : decode cX8_isNumber 55 = .ok (.getfield 64, 3) := by decide +kernel
theorem dX8_isNumber_58 : decode cX8_isNumber 58 = .ok (.iconst 1, 1) := by decide +kernel
theorem dX8_isNumber_59 : decode cX8_isNumber 59 = .ok (.iadd, 1) := by decide +kernel
theorem dX8_isNumber_60 : decode cX8_isNumber 60 = .ok (.putfield 64, 3) := by decide +kernel
theorem dX8_isNumber_63 : decode cX8_isNumber 63 = .ok (.goto (-55), 3) := by decide +kernel
theorem dX8_isNumber_66 : decode cX8_isNumber 66 = .ok (.iload 4, 2) := by decide +kernel
theorem dX8_isNumber_68 : decode cX8_isNumber 68 = .ok (.ifCond .le 30, 3) := by decide +kernel
theorem dX8_isNumber_71 : decode cX8_isNumber 71 = .ok (.aload_n 0, 1) := by decide +kernel
theorem dX8_isNumber_72 : decode cX8_isNumber 72 = .ok (.getfield 67, 3) := by decide +kernel
theorem dX8_isNumber_75 : decode cX8_isNumber 75 = .ok (.i2l, 1) := by decide +kernel
theorem dX8_isNumber_76 : decode cX8_isNumber 76 = .ok (.iload_n 1, 1) := by decide +kernel
theorem dX8_isNumber_77 : decode cX8_isNumber 77 = .ok (.i2l, 1) := by decide +kernel
theorem dX8_isNumber_78 : decode cX8_isNumber 78 = .ok (.iload_n 2, 1) := by decide +kernel
theorem dX8_isNumber_79 : decode cX8_isNumber 79 = .ok (.i2l, 1) := by decide +kernel
theorem dX8_isNumber_80 : decode cX8_isNumber 80 = .ok (.invokestatic 57, 3) := by decide +kernel
theorem dX8_isNumber_83 : decode cX8_isNumber 83 = .ok (.ifCond .eq 15, 3) := by decide +kernel
theorem dX8_isNumber_86 : decode cX8_isNumber 86 = .ok (.aload_n 0, 1) := by decide +kernel
theorem dX8_isNumber_87 : decode cX8_isNumber 87 = .ok (.invokevirtual 70, 3) := by decide +kernel
theorem dX8_isNumber_90 : decode cX8_isNumber 90 = .ok (.iload_n 3, 1) := by decide +kernel
theorem dX8_isNumber_91 : decode cX8_isNumber 91 = .ok (.if_icmp .ne 7, 3) := by decide +kernel
theorem dX8_isNumber_94 : decode cX8_isNumber 94 = .ok (.iconst 1, 1) := by decide +kernel
theorem dX8_isNumber_95 : decode cX8_isNumber 95 = .ok (.goto 4, 3) := by decide +kernel
theorem dX8_isNumber_98 : decode cX8_isNumber 98 = .ok (.iconst 0, 1) := by decide +kernel
theorem dX8_isNumber_99 : decode cX8_isNumber 99 = .ok (.istore 5, 2) := by decide +kernel
theorem dX8_isNumber_101 : decode cX8_isNumber 101 = .ok (.aload_n 0, 1) := by decide +kernel
theorem dX8_isNumber_102 : decode cX8_isNumber 102 = .ok (.dup, 1) := by decide +kernel
theorem dX8_isNumber_103 : decode cX8_isNumber 103 = .ok (.getfield 64, 3) := by decide +kernel
theorem dX8_isNumber_106 : decode cX8_isNumber 106 = .ok (.iconst 1, 1) := by decide +kernel
theorem dX8_isNumber_107 : decode cX8_isNumber 107 = .ok (.iadd, 1) := by decide +kernel
theorem dX8_isNumber_108 : decode cX8_isNumber 108 = .ok (.putfield 64, 3) := by decide +kernel
theorem dX8_isNumber_111 : decode cX8_isNumber 111 = .ok (.iload 5, 2) := by decide +kernel
theorem dX8_isNumber_113 : decode cX8_isNumber 113 = .ok (.ireturn, 1) := by decide +kernel
theorem dX8_statement_0 : decode cX8_statement 0 = .ok (.aload_n 0, 1) := by decide +kernel
theorem dX8_statement_1 : decode cX8_statement 1 = .ok (.invokevirtual 70, 3) := by decide +kernel
theorem dX8_statement_4 : decode cX8_statement 4 = .ok (.istore_n 1, 1) := by decide +kernel
theorem dX8_statement_5 : decode cX8_statement 5 = .ok (.aload_n 0, 1) := by decide +kernel
theorem dX8_statement_6 : decode cX8_statement 6 = .ok (.dup, 1) := by decide +kernel
theorem dX8_statement_7 : decode cX8_statement 7 = .ok (.getfield 64, 3) := by decide +kernel
theorem dX8_statement_10 : decode cX8_statement 10 = .ok (.iconst 1, 1) := by decide +kernel
theorem dX8_statement_11 : decode cX8_statement 11 = .ok (.iadd, 1) := by decide +kernel
theorem dX8_statement_12 : decode cX8_statement 12 = .ok (.putfield 64, 3) := by decide +kernel
theorem dX8_statement_15 : decode cX8_statement 15 = .ok (.iload_n 1, 1) := by decide +kernel
theorem dX8_statement_16 : decode cX8_statement 16 = .ok (.tableswitch 275 100 114 #[270, 275, 275, 275, 275, 110, 275, 275, 275, 163, 275, 275, 76, 275, 196], 76) := by decide +kernel
theorem dX8_statement_92 : decode cX8_statement 92 = .ok (.aload_n 0, 1) := by decide +kernel
theorem dX8_statement_93 : decode cX8_statement 93 = .ok (.bipush 8, 2) := by decide +kernel
theorem dX8_statement_95 : decode cX8_statement 95 = .ok (.bipush 80, 2) := by decide +kernel
theorem dX8_statement_97 : decode cX8_statement 97 = .ok (.bipush 59, 2) := by decide +kernel
theorem dX8_statement_99 : decode cX8_statement 99 = .ok (.invokevirtual 78, 3) := by decide +kernel
theorem dX8_statement_102 : decode cX8_statement 102 = .ok (.ifCond .eq 12, 3) := by decide +kernel
theorem dX8_statement_105 : decode cX8_statement 105 = .ok (.aload_n 0, 1) := by decide +kernel
theorem dX8_statement_106 : decode cX8_statement 106 = .ok (.getfield 67, 3) := by decide +kernel
theorem dX8_statement_109 : decode cX8_statement 109 = .ok (.iconst 4, 1) := by decide +kernel
theorem dX8_statement_110 : decode cX8_statement 110 = .ok (.irem, 1) := by decide +kernel
theorem dX8_statement_111 : decode cX8_statement 111 = .ok (.ifCond .eq 5, 3) := by decide +kernel
theorem dX8_statement_114 : decode cX8_statement 114 = .ok (.iconst 0, 1) := by decide +kernel
theorem dX8_statement_115 : decode cX8_statement 115 = .ok (.ireturn, 1) := by decide +kernel
theorem dX8_statement_116 : decode cX8_statement 116 = .ok (.aload_n 0, 1) := by decide +kernel
theorem dX8_statement_117 : decode cX8_statement 117 = .ok (.aload_n 0, 1) := by decide +kernel
theorem dX8_statement_118 : decode cX8_statement 118 = .ok (.getfield 67, 3) := by decide +kernel
theorem dX8_statement_121 : decode cX8_statement 121 = .ok (.putfield 34, 3) := by decide +kernel
theorem dX8_statement_124 : decode cX8_statement 124 = .ok (.iconst 1, 1) := by decide +kernel
theorem dX8_statement_125 : decode cX8_statement 125 = .ok (.ireturn, 1) := by decide +kernel
theorem dX8_statement_126 : decode cX8_statement 126 = .ok (.aload_n 0, 1) := by decide +kernel
theorem dX8_statement_127 : decode cX8_statement 127 = .ok (.bipush 8, 2) := by decide +kernel
theorem dX8_statement_129 : decode cX8_statement 129 = .ok (.bipush 80, 2) := by decide +kernel
theorem dX8_statement_131 : decode cX8_statement 131 = .ok (.bipush 44, 2) := by decide +kernel
theorem dX8_statement_133 : decode cX8_statement 133 = .ok (.invokevirtual 78, 3) := by decide +kernel
theorem dX8_statement_136 : decode cX8_statement 136 = .ok (.ifCond .ne 5, 3) := by decide +kernel
theorem dX8_statement_139 : decode cX8_statement 139 = .ok (.iconst 0, 1) := by decide +kernel
theorem dX8_statement_140 : decode cX8_statement 140 = .ok (.ireturn, 1) := by decide +kernel
theorem dX8_statement_141 : decode cX8_statement 141 = .ok (.aload_n 0, 1) := by decide +kernel
theorem dX8_statement_142 : decode cX8_statement 142 = .ok (.getfield 16, 3) := by decide +kernel
theorem dX8_statement_145 : decode cX8_statement 145 = .ok (.bipush 6, 2) := by decide +kernel
theorem dX8_statement_147 : decode cX8_statement 147 = .ok (.aload_n 0, 1) := by decide +kernel
theorem dX8_statement_148 : decode cX8_statement 148 = .ok (.getfield 67, 3) := by decide +kernel
theorem dX8_statement_151 : decode cX8_statement 151 = .ok (.iastore, 1) := by decide +kernel
theorem dX8_statement_152 : decode cX8_statement 152 = .ok (.aload_n 0, 1) := by decide +kernel
theorem dX8_statement_153 : decode cX8_statement 153 = .ok (.iconst 0, 1) := by decide +kernel
theorem dX8_statement_154 : decode cX8_statement 154 = .ok (.bipush 79, 2) := by decide +kernel
theorem dX8_statement_156 : decode cX8_statement 156 = .ok (.bipush 59, 2) := by decide +kernel
theorem dX8_statement_158 : decode cX8_statement 158 = .ok (.invokevirtual 78, 3) := by decide +kernel
theorem dX8_statement_161 : decode cX8_statement 161 = .ok (.ifCond .ne 5, 3) := by decide +kernel
theorem dX8_statement_164 : decode cX8_statement 164 = .ok (.iconst 0, 1) := by decide +kernel
theorem dX8_statement_165 : decode cX8_statement 165 = .ok (.ireturn, 1) := by decide +kernel
theorem dX8_statement_166 : decode cX8_statement 166 = .ok (.aload_n 0, 1) := by decide +kernel
theorem dX8_statement_167 : decode cX8_statement 167 = .ok (.getfield 16, 3) := by decide +kernel
theorem dX8_statement_170 : decode cX8_statement 170 = .ok (.bipush 7, 2) := by decide +kernel
theorem dX8_statement_172 : decode cX8_statement 172 = .ok (.aload_n 0, 1) := by decide +kernel
theorem dX8_statement_173 : decode cX8_statement 173 = .ok (.getfield 67, 3) := by decide +kernel
theorem dX8_statement_176 : decode cX8_statement 176 = .ok (.iastore, 1) := by decide +kernel
theorem dX8_statement_177 : decode cX8_statement 177 = .ok (.iconst 1, 1) := by decide +kernel
theorem dX8_statement_178 : decode cX8_statement 178 = .ok (.ireturn, 1) := by decide +kernel
theorem dX8_statement_179 : decode cX8_statement 179 = .ok (.aload_n 0, 1) := by decide +kernel
theorem dX8_statement_180 : decode cX8_statement 180 = .ok (.iconst 1, 1) := by decide +kernel
theorem dX8_statement_181 : decode cX8_statement 181 = .ok (.iconst 4, 1) := by decide +kernel
theorem dX8_statement_182 : decode cX8_statement 182 = .ok (.bipush 59, 2) := by decide +kernel
theorem dX8_statement_184 : decode cX8_statement 184 = .ok (.invokevirtual 78, 3) := by decide +kernel
theorem dX8_statement_187 : decode cX8_statement 187 = .ok (.ifCond .eq 11, 3) := by decide +kernel
theorem dX8_statement_190 : decode cX8_statement 190 = .ok (.aload_n 0, 1) := by decide +kernel
theorem dX8_statement_191 : decode cX8_statement 191 = .ok (.getfield 67, 3) := by decide +kernel
theorem dX8_statement_194 : decode cX8_statement 194 = .ok (.iconst 3, 1) := by decide +kernel
theorem dX8_statement_195 : decode cX8_statement 195 = .ok (.if_icmp .ne 5, 3) := by decide +kernel
theorem dX8_statement_198 : decode cX8_statement 198 = .ok (.iconst 0, 1) := by decide +kernel
theorem dX8_statement_199 : decode cX8_statement 199 = .ok (.ireturn, 1) := by decide +kernel
theorem dX8_statement_200 : decode cX8_statement 200 = .ok (.aload_n 0, 1) := by decide +kernel
theorem dX8_statement_201 : decode cX8_statement 201 = .ok (.getfield 16, 3) := by decide +kernel
theorem dX8_statement_204 : decode cX8_statement 204 = .ok (.iconst 5, 1) := by decide +kernel
theorem dX8_statement_205 : decode cX8_statement 205 = .ok (.aload_n 0, 1) := by decide +kernel
theorem dX8_statement_206 : decode cX8_statement 206 = .ok (.getfield 67, 3) := by decide +kernel
theorem dX8_statement_209 : decode cX8_statement 209 = .ok (.iastore, 1) := by decide +kernel
theorem dX8_statement_210 : decode cX8_statement 210 = .ok (.iconst 1, 1) := by decide +kernel
theorem dX8_statement_211 : decode cX8_statement 211 = .ok (.ireturn, 1) := by decide +kernel
theorem dX8_statement_212 : decode cX8_statement 212 = .ok (.aload_n 0, 1) := by decide +kernel
theorem dX8_statement_213 : decode cX8_statement 213 = .ok (.iconst 0, 1) := by decide +kernel
theorem dX8_statement_214 : decode cX8_statement 214 = .ok (.sipush 9999, 3) := by decide +kernel
theorem dX8_statement_217 : decode cX8_statement 217 = .ok (.bipush 59, 2) := by decide +kernel
theorem dX8_statement_219 : decode cX8_statement 219 = .ok (.invokevirtual 78, 3) := by decide +kernel
theorem dX8_statement_222 : decode cX8_statement 222 = .ok (.ifCond .eq 37, 3) := by decide +kernel
theorem dX8_statement_225 : decode cX8_statement 225 = .ok (.aload_n 0, 1) := by decide +kernel
theorem dX8_statement_226 : decode cX8_statement 226 = .ok (.getfield 38, 3) := by decide +kernel
theorem dX8_statement_229 : decode cX8_statement 229 = .ok (.bipush 6, 2) := by decide +kernel
theorem dX8_statement_231 : decode cX8_statement 231 = .ok (.if_icmp .eq 28, 3) := by decide +kernel
theorem dX8_statement_234 : decode cX8_statement 234 = .ok (.aload_n 0, 1) := by decide +kernel
theorem dX8_statement_235 : decode cX8_statement 235 = .ok (.getfield 38, 3) := by decide +kernel
theorem dX8_statement_238 : decode cX8_statement 238 = .ok (.ifCond .le 23, 3) := by decide +kernel
theorem dX8_statement_241 : decode cX8_statement 241 = .ok (.aload_n 0, 1) := by decide +kernel
theorem dX8_statement_242 : decode cX8_statement 242 = .ok (.getfield 67, 3) := by decide +kernel
theorem dX8_statement_245 : decode cX8_statement 245 = .ok (.aload_n 0, 1) := by decide +kernel
theorem dX8_statement_246 : decode cX8_statement 246 = .ok (.getfield 13, 3) := by decide +kernel
theorem dX8_statement_249 : decode cX8_statement 249 = .ok (.aload_n 0, 1) := by decide +kernel
theorem dX8_statement_250 : decode cX8_statement 250 = .ok (.getfield 38, 3) := by decide +kernel
theorem dX8_statement_253 : decode cX8_statement 253 = .ok (.iconst 1, 1) := by decide +kernel
theorem dX8_statement_254 : decode cX8_statement 254 = .ok (.isub, 1) := by decide +kernel
theorem dX8_statement_255 : decode cX8_statement 255 = .ok (.iaload, 1) := by decide +kernel
theorem dX8_statement_256 : decode cX8_statement 256 = .ok (.if_icmp .gt 5, 3) := by decide +kernel
theorem dX8_statement_259 : decode cX8_statement 259 = .ok (.iconst 0, 1) := by decide +kernel
theorem dX8_statement_260 : decode cX8_statement 260 = .ok (.ireturn, 1) := by decide +kernel
theorem dX8_statement_261 : decode cX8_statement 261 = .ok (.aload_n 0, 1) := by decide +kernel
theorem dX8_statement_262 : decode cX8_statement 262 = .ok (.getfield 13, 3) := by decide +kernel
theorem dX8_statement_265 : decode cX8_statement 265 = .ok (.aload_n 0, 1) := by decide +kernel
theorem dX8_statement_266 : decode cX8_statement 266 = .ok (.getfield 38, 3) := by decide +kernel
theorem dX8_statement_269 : decode cX8_statement 269 = .ok (.aload_n 0, 1) := by decide +kernel
theorem dX8_statement_270 : decode cX8_statement 270 = .ok (.getfield 67, 3) := by decide +kernel
theorem dX8_statement_273 : decode cX8_statement 273 = .ok (.iastore, 1) := by decide +kernel
theorem dX8_statement_274 : decode cX8_statement 274 = .ok (.aload_n 0, 1) := by decide +kernel
theorem dX8_statement_275 : decode cX8_statement 275 = .ok (.dup, 1) := by decide +kernel
theorem dX8_statement_276 : decode cX8_statement 276 = .ok (.getfield 38, 3) := by decide +kernel
theorem dX8_statement_279 : decode cX8_statement 279 = .ok (.iconst 1, 1) := by decide +kernel
theorem dX8_statement_280 : decode cX8_statement 280 = .ok (.iadd, 1) := by decide +kernel
theorem dX8_statement_281 : decode cX8_statement 281 = .ok (.putfield 38, 3) := by decide +kernel
theorem dX8_statement_284 : decode cX8_statement 284 = .ok (.iconst 1, 1) := by decide +kernel
theorem dX8_statement_285 : decode cX8_statement 285 = .ok (.ireturn, 1) := by decide +kernel
theorem dX8_statement_286 : decode cX8_statement 286 = .ok (.aload_n 0, 1) := by decide +kernel
theorem dX8_statement_287 : decode cX8_statement 287 = .ok (.invokevirtual 82, 3) := by decide +kernel
theorem dX8_statement_290 : decode cX8_statement 290 = .ok (.ireturn, 1) := by decide +kernel
theorem dX8_statement_291 : decode cX8_statement 291 = .ok (.iconst 0, 1) := by decide +kernel
theorem dX8_statement_292 : decode cX8_statement 292 = .ok (.ireturn, 1) := by decide +kernel
theorem dX8_dirtStatement_0 : decode cX8_dirtStatement 0 = .ok (.aload_n 0, 1) := by decide +kernel
theorem dX8_dirtStatement_1 : decode cX8_dirtStatement 1 = .ok (.iconst 0, 1) := by decide +kernel
theorem dX8_dirtStatement_2 : decode cX8_dirtStatement 2 = .ok (.sipush 9999, 3) := by decide +kernel
theorem dX8_dirtStatement_5 : decode cX8_dirtStatement 5 = .ok (.bipush 44, 2) := by decide +kernel
theorem dX8_dirtStatement_7 : decode cX8_dirtStatement 7 = .ok (.invokevirtual 78, 3) := by decide +kernel
theorem dX8_dirtStatement_10 : decode cX8_dirtStatement 10 = .ok (.ifCond .eq 14, 3) := by decide +kernel
theorem dX8_dirtStatement_13 : decode cX8_dirtStatement 13 = .ok (.aload_n 0, 1) := by decide +kernel
theorem dX8_dirtStatement_14 : decode cX8_dirtStatement 14 = .ok (.getfield 16, 3) := by decide +kernel
theorem dX8_dirtStatement_17 : decode cX8_dirtStatement 17 = .ok (.bipush 8, 2) := by decide +kernel
theorem dX8_dirtStatement_19 : decode cX8_dirtStatement 19 = .ok (.iaload, 1) := by decide +kernel
theorem dX8_dirtStatement_20 : decode cX8_dirtStatement 20 = .ok (.iconst 4, 1) := by decide +kernel
theorem dX8_dirtStatement_21 : decode cX8_dirtStatement 21 = .ok (.if_icmp .ne 5, 3) := by decide +kernel
theorem dX8_dirtStatement_24 : decode cX8_dirtStatement 24 = .ok (.iconst 0, 1) := by decide +kernel
theorem dX8_dirtStatement_25 : decode cX8_dirtStatement 25 = .ok (.ireturn, 1) := by decide +kernel
theorem dX8_dirtStatement_26 : decode cX8_dirtStatement 26 = .ok (.bipush 9, 2) := by decide +kernel
theorem dX8_dirtStatement_28 : decode cX8_dirtStatement 28 = .ok (.iconst 2, 1) := by decide +kernel
theorem dX8_dirtStatement_29 : decode cX8_dirtStatement 29 = .ok (.aload_n 0, 1) := by decide +kernel
theorem dX8_dirtStatement_30 : decode cX8_dirtStatement 30 = .ok (.getfield 16, 3) := by decide +kernel
theorem dX8_dirtStatement_33 : decode cX8_dirtStatement 33 = .ok (.bipush 8, 2) := by decide +kernel
theorem dX8_dirtStatement_35 : decode cX8_dirtStatement 35 = .ok (.iaload, 1) := by decide +kernel
theorem dX8_dirtStatement_36 : decode cX8_dirtStatement 36 = .ok (.imul, 1) := by decide +kernel
theorem dX8_dirtStatement_37 : decode cX8_dirtStatement 37 = .ok (.iadd, 1) := by decide +kernel
theorem dX8_dirtStatement_38 : decode cX8_dirtStatement 38 = .ok (.istore_n 1, 1) := by decide +kernel
theorem dX8_dirtStatement_39 : decode cX8_dirtStatement 39 = .ok (.aload_n 0, 1) := by decide +kernel
theorem dX8_dirtStatement_40 : decode cX8_dirtStatement 40 = .ok (.getfield 16, 3) := by decide +kernel
theorem dX8_dirtStatement_43 : decode cX8_dirtStatement 43 = .ok (.iload_n 1, 1) := by decide +kernel
theorem dX8_dirtStatement_44 : decode cX8_dirtStatement 44 = .ok (.aload_n 0, 1) := by decide +kernel
theorem dX8_dirtStatement_45 : decode cX8_dirtStatement 45 = .ok (.getfield 67, 3) := by decide +kernel
theorem dX8_dirtStatement_48 : decode cX8_dirtStatement 48 = .ok (.iastore, 1) := by decide +kernel
theorem dX8_dirtStatement_49 : decode cX8_dirtStatement 49 = .ok (.aload_n 0, 1) := by decide +kernel
theorem dX8_dirtStatement_50 : decode cX8_dirtStatement 50 = .ok (.iconst 1, 1) := by decide +kernel
theorem dX8_dirtStatement_51 : decode cX8_dirtStatement 51 = .ok (.bipush 99, 2) := by decide +kernel
theorem dX8_dirtStatement_53 : decode cX8_dirtStatement 53 = .ok (.bipush 59, 2) := by decide +kernel
theorem dX8_dirtStatement_55 : decode cX8_dirtStatement 55 = .ok (.invokevirtual 78, 3) := by decide +kernel
theorem dX8_dirtStatement_58 : decode cX8_dirtStatement 58 = .ok (.ifCond .ne 5, 3) := by decide +kernel
theorem dX8_dirtStatement_61 : decode cX8_dirtStatement 61 = .ok (.iconst 0, 1) := by decide +kernel
theorem dX8_dirtStatement_62 : decode cX8_dirtStatement 62 = .ok (.ireturn, 1) := by decide +kernel
theorem dX8_dirtStatement_63 : decode cX8_dirtStatement 63 = .ok (.aload_n 0, 1) := by decide +kernel
theorem dX8_dirtStatement_64 : decode cX8_dirtStatement 64 = .ok (.getfield 16, 3) := by decide +kernel
theorem dX8_dirtStatement_67 : decode cX8_dirtStatement 67 = .ok (.iload_n 1, 1) := by decide +kernel
theorem dX8_dirtStatement_68 : decode cX8_dirtStatement 68 = .ok (.iconst 1, 1) := by decide +kernel
theorem dX8_dirtStatement_69 : decode cX8_dirtStatement 69 = .ok (.iadd, 1) := by decide +kernel
theorem dX8_dirtStatement_70 : decode cX8_dirtStatement 70 = .ok (.aload_n 0, 1) := by decide +kernel
theorem dX8_dirtStatement_71 : decode cX8_dirtStatement 71 = .ok (.getfield 67, 3) := by decide +kernel
theorem dX8_dirtStatement_74 : decode cX8_dirtStatement 74 = .ok (.iastore, 1) := by decide +kernel
theorem dX8_dirtStatement_75 : decode cX8_dirtStatement 75 = .ok (.aload_n 0, 1) := by decide +kernel
theorem dX8_dirtStatement_76 : decode cX8_dirtStatement 76 = .ok (.getfield 16, 3) := by decide +kernel
theorem dX8_dirtStatement_79 : decode cX8_dirtStatement 79 = .ok (.bipush 8, 2) := by decide +kernel
theorem dX8_dirtStatement_81 : decode cX8_dirtStatement 81 = .ok (.dup2, 1) := by decide +kernel
theorem dX8_dirtStatement_82 : decode cX8_dirtStatement 82 = .ok (.iaload, 1) := by decide +kernel
theorem dX8_dirtStatement_83 : decode cX8_dirtStatement 83 = .ok (.iconst 1, 1) := by decide +kernel
theorem dX8_dirtStatement_84 : decode cX8_dirtStatement 84 = .ok (.iadd, 1) := by decide +kernel
theorem dX8_dirtStatement_85 : decode cX8_dirtStatement 85 = .ok (.iastore, 1) := by decide +kernel
theorem dX8_dirtStatement_86 : decode cX8_dirtStatement 86 = .ok (.iconst 1, 1) := by decide +kernel
theorem dX8_dirtStatement_87 : decode cX8_dirtStatement 87 = .ok (.ireturn, 1) := by decide +kernel
theorem dX8_readAll_0 : decode cX8_readAll 0 = .ok (.aload_n 0, 1) := by decide +kernel
theorem dX8_readAll_1 : decode cX8_readAll 1 = .ok (.invokevirtual 31, 3) := by decide +kernel
theorem dX8_readAll_4 : decode cX8_readAll 4 = .ok (.aload_n 0, 1) := by decide +kernel
theorem dX8_readAll_5 : decode cX8_readAll 5 = .ok (.iconst 0, 1) := by decide +kernel
theorem dX8_readAll_6 : decode cX8_readAll 6 = .ok (.putfield 64, 3) := by decide +kernel
theorem dX8_readAll_9 : decode cX8_readAll 9 = .ok (.aload_n 0, 1) := by decide +kernel
theorem dX8_readAll_10 : decode cX8_readAll 10 = .ok (.getfield 64, 3) := by decide +kernel
theorem dX8_readAll_13 : decode cX8_readAll 13 = .ok (.aload_n 0, 1) := by decide +kernel
theorem dX8_readAll_14 : decode cX8_readAll 14 = .ok (.getfield 61, 3) := by decide +kernel
theorem dX8_readAll_17 : decode cX8_readAll 17 = .ok (.if_icmp .ge 20, 3) := by decide +kernel
theorem dX8_readAll_20 : decode cX8_readAll 20 = .ok (.aload_n 0, 1) := by decide +kernel
theorem dX8_readAll_21 : decode cX8_readAll 21 = .ok (.getfield 64, 3) := by decide +kernel
theorem dX8_readAll_24 : decode cX8_readAll 24 = .ok (.istore_n 1, 1) := by decide +kernel
theorem dX8_readAll_25 : decode cX8_readAll 25 = .ok (.aload_n 0, 1) := by decide +kernel
theorem dX8_readAll_26 : decode cX8_readAll 26 = .ok (.invokevirtual 86, 3) := by decide +kernel
theorem dX8_readAll_29 : decode cX8_readAll 29 = .ok (.ifCond .ne 5, 3) := by decide +kernel
theorem dX8_readAll_32 : decode cX8_readAll 32 = .ok (.iload_n 1, 1) := by decide +kernel
theorem dX8_readAll_33 : decode cX8_readAll 33 = .ok (.ireturn, 1) := by decide +kernel
theorem dX8_readAll_34 : decode cX8_readAll 34 = .ok (.goto (-25), 3) := by decide +kernel
theorem dX8_readAll_37 : decode cX8_readAll 37 = .ok (.bipush (-4), 2) := by decide +kernel
theorem dX8_readAll_39 : decode cX8_readAll 39 = .ok (.ireturn, 1) := by decide +kernel
theorem dX8_firstError_0 : decode cX8_firstError 0 = .ok (.aload_n 0, 1) := by decide +kernel
theorem dX8_firstError_1 : decode cX8_firstError 1 = .ok (.invokevirtual 89, 3) := by decide +kernel
theorem dX8_firstError_4 : decode cX8_firstError 4 = .ok (.ireturn, 1) := by decide +kernel
theorem dX8_configure_0 : decode cX8_configure 0 = .ok (.aload_n 0, 1) := by decide +kernel
theorem dX8_configure_1 : decode cX8_configure 1 = .ok (.invokevirtual 89, 3) := by decide +kernel
theorem dX8_configure_4 : decode cX8_configure 4 = .ok (.bipush (-4), 2) := by decide +kernel
theorem dX8_configure_6 : decode cX8_configure 6 = .ok (.if_icmp .ne 10, 3) := by decide +kernel
theorem dX8_configure_9 : decode cX8_configure 9 = .ok (.aload_n 0, 1) := by decide +kernel
theorem dX8_configure_10 : decode cX8_configure 10 = .ok (.getfield 34, 3) := by decide +kernel
theorem dX8_configure_13 : decode cX8_configure 13 = .ok (.ifCond .ne 6, 3) := by decide +kernel
theorem dX8_configure_16 : decode cX8_configure 16 = .ok (.bipush (-2), 2) := by decide +kernel
theorem dX8_configure_18 : decode cX8_configure 18 = .ok (.ireturn, 1) := by decide +kernel
theorem dX8_configure_19 : decode cX8_configure 19 = .ok (.aload_n 0, 1) := by decide +kernel
theorem dX8_configure_20 : decode cX8_configure 20 = .ok (.invokevirtual 41, 3) := by decide +kernel
theorem dX8_configure_23 : decode cX8_configure 23 = .ok (.aload_n 0, 1) := by decide +kernel
theorem dX8_configure_24 : decode cX8_configure 24 = .ok (.getfield 47, 3) := by decide +kernel
theorem dX8_configure_27 : decode cX8_configure 27 = .ok (.ireturn, 1) := by decide +kernel
theorem dX8_keeps_0 : decode cX8_keeps 0 = .ok (.aload_n 0, 1) := by decide +kernel
theorem dX8_keeps_1 : decode cX8_keeps 1 = .ok (.getfield 50, 3) := by decide +kernel
theorem dX8_keeps_4 : decode cX8_keeps 4 = .ok (.bipush 6, 2) := by decide +kernel
theorem dX8_keeps_6 : decode cX8_keeps 6 = .ok (.if_icmp .ne 43, 3) := by decide +kernel
theorem dX8_keeps_9 : decode cX8_keeps 9 = .ok (.iconst 0, 1) := by decide +kernel
theorem dX8_keeps_10 : decode cX8_keeps 10 = .ok (.istore_n 1, 1) := by decide +kernel
theorem dX8_keeps_11 : decode cX8_keeps 11 = .ok (.iload_n 1, 1) := by decide +kernel
theorem dX8_keeps_12 : decode cX8_keeps 12 = .ok (.sipush 210, 3) := by decide +kernel
theorem dX8_keeps_15 : decode cX8_keeps 15 = .ok (.if_icmp .ge 24, 3) := by decide +kernel
theorem dX8_keeps_18 : decode cX8_keeps 18 = .ok (.aload_n 0, 1) := by decide +kernel
theorem dX8_keeps_19 : decode cX8_keeps 19 = .ok (.getfield 28, 3) := by decide +kernel
theorem dX8_keeps_22 : decode cX8_keeps 22 = .ok (.iload_n 1, 1) := by decide +kernel
theorem dX8_keeps_23 : decode cX8_keeps 23 = .ok (.aload_n 0, 1) := by decide +kernel
theorem dX8_keeps_24 : decode cX8_keeps 24 = .ok (.getfield 28, 3) := by decide +kernel
theorem dX8_keeps_27 : decode cX8_keeps 27 = .ok (.bipush 42, 2) := by decide +kernel
theorem dX8_keeps_29 : decode cX8_keeps 29 = .ok (.iload_n 1, 1) := by decide +kernel
theorem dX8_keeps_30 : decode cX8_keeps 30 = .ok (.iadd, 1) := by decide +kernel
theorem dX8_keeps_31 : decode cX8_keeps 31 = .ok (.iaload, 1) := by decide +kernel
theorem dX8_keeps_32 : decode cX8_keeps 32 = .ok (.iastore, 1) := by decide +kernel
theorem dX8_keeps_33 : decode cX8_keeps 33 = .ok (.iinc 1 1, 3) := by decide +kernel
theorem dX8_keeps_36 : decode cX8_keeps 36 = .ok (.goto (-25), 3) := by decide +kernel
theorem dX8_keeps_39 : decode cX8_keeps 39 = .ok (.aload_n 0, 1) := by decide +kernel
theorem dX8_keeps_40 : decode cX8_keeps 40 = .ok (.dup, 1) := by decide +kernel
theorem dX8_keeps_41 : decode cX8_keeps 41 = .ok (.getfield 50, 3) := by decide +kernel
theorem dX8_keeps_44 : decode cX8_keeps 44 = .ok (.iconst 1, 1) := by decide +kernel
theorem dX8_keeps_45 : decode cX8_keeps 45 = .ok (.isub, 1) := by decide +kernel
theorem dX8_keeps_46 : decode cX8_keeps 46 = .ok (.putfield 50, 3) := by decide +kernel
theorem dX8_keeps_49 : decode cX8_keeps 49 = .ok (.iconst 0, 1) := by decide +kernel
theorem dX8_keeps_50 : decode cX8_keeps 50 = .ok (.istore_n 1, 1) := by decide +kernel
theorem dX8_keeps_51 : decode cX8_keeps 51 = .ok (.iload_n 1, 1) := by decide +kernel
theorem dX8_keeps_52 : decode cX8_keeps 52 = .ok (.bipush 42, 2) := by decide +kernel
theorem dX8_keeps_54 : decode cX8_keeps 54 = .ok (.if_icmp .ge 29, 3) := by decide +kernel
theorem dX8_keeps_57 : decode cX8_keeps 57 = .ok (.aload_n 0, 1) := by decide +kernel
theorem dX8_keeps_58 : decode cX8_keeps 58 = .ok (.getfield 28, 3) := by decide +kernel
theorem dX8_keeps_61 : decode cX8_keeps 61 = .ok (.bipush 42, 2) := by decide +kernel
theorem dX8_keeps_63 : decode cX8_keeps 63 = .ok (.aload_n 0, 1) := by decide +kernel
theorem dX8_keeps_64 : decode cX8_keeps 64 = .ok (.getfield 50, 3) := by decide +kernel
theorem dX8_keeps_67 : decode cX8_keeps 67 = .ok (.imul, 1) := by decide +kernel
theorem dX8_keeps_68 : decode cX8_keeps 68 = .ok (.iload_n 1, 1) := by decide +kernel
theorem dX8_keeps_69 : decode cX8_keeps 69 = .ok (.iadd, 1) := by decide +kernel
theorem dX8_keeps_70 : decode cX8_keeps 70 = .ok (.aload_n 0, 1) := by decide +kernel
theorem dX8_keeps_71 : decode cX8_keeps 71 = .ok (.getfield 22, 3) := by decide +kernel
theorem dX8_keeps_74 : decode cX8_keeps 74 = .ok (.iload_n 1, 1) := by decide +kernel
theorem dX8_keeps_75 : decode cX8_keeps 75 = .ok (.iaload, 1) := by decide +kernel
theorem dX8_keeps_76 : decode cX8_keeps 76 = .ok (.iastore, 1) := by decide +kernel
theorem dX8_keeps_77 : decode cX8_keeps 77 = .ok (.iinc 1 1, 3) := by decide +kernel
theorem dX8_keeps_80 : decode cX8_keeps 80 = .ok (.goto (-29), 3) := by decide +kernel
theorem dX8_keeps_83 : decode cX8_keeps 83 = .ok (.aload_n 0, 1) := by decide +kernel
theorem dX8_keeps_84 : decode cX8_keeps 84 = .ok (.dup, 1) := by decide +kernel
theorem dX8_keeps_85 : decode cX8_keeps 85 = .ok (.getfield 50, 3) := by decide +kernel
theorem dX8_keeps_88 : decode cX8_keeps 88 = .ok (.iconst 1, 1) := by decide +kernel
theorem dX8_keeps_89 : decode cX8_keeps 89 = .ok (.iadd, 1) := by decide +kernel
theorem dX8_keeps_90 : decode cX8_keeps 90 = .ok (.putfield 50, 3) := by decide +kernel
theorem dX8_keeps_93 : decode cX8_keeps 93 = .ok (.return_, 1) := by decide +kernel
theorem dX8_undo_0 : decode cX8_undo 0 = .ok (.aload_n 0, 1) := by decide +kernel
theorem dX8_undo_1 : decode cX8_undo 1 = .ok (.getfield 50, 3) := by decide +kernel
theorem dX8_undo_4 : decode cX8_undo 4 = .ok (.ifCond .ne 6, 3) := by decide +kernel
theorem dX8_undo_7 : decode cX8_undo 7 = .ok (.bipush (-2), 2) := by decide +kernel
theorem dX8_undo_9 : decode cX8_undo 9 = .ok (.ireturn, 1) := by decide +kernel
theorem dX8_undo_10 : decode cX8_undo 10 = .ok (.aload_n 0, 1) := by decide +kernel
theorem dX8_undo_11 : decode cX8_undo 11 = .ok (.dup, 1) := by decide +kernel
theorem dX8_undo_12 : decode cX8_undo 12 = .ok (.getfield 50, 3) := by decide +kernel
theorem dX8_undo_15 : decode cX8_undo 15 = .ok (.iconst 1, 1) := by decide +kernel
theorem dX8_undo_16 : decode cX8_undo 16 = .ok (.isub, 1) := by decide +kernel
theorem dX8_undo_17 : decode cX8_undo 17 = .ok (.putfield 50, 3) := by decide +kernel
theorem dX8_undo_20 : decode cX8_undo 20 = .ok (.iconst 0, 1) := by decide +kernel
theorem dX8_undo_21 : decode cX8_undo 21 = .ok (.istore_n 1, 1) := by decide +kernel
theorem dX8_undo_22 : decode cX8_undo 22 = .ok (.iload_n 1, 1) := by decide +kernel
theorem dX8_undo_23 : decode cX8_undo 23 = .ok (.bipush 42, 2) := by decide +kernel
theorem dX8_undo_25 : decode cX8_undo 25 = .ok (.if_icmp .ge 29, 3) := by decide +kernel
theorem dX8_undo_28 : decode cX8_undo 28 = .ok (.aload_n 0, 1) := by decide +kernel
theorem dX8_undo_29 : decode cX8_undo 29 = .ok (.getfield 22, 3) := by decide +kernel
theorem dX8_undo_32 : decode cX8_undo 32 = .ok (.iload_n 1, 1) := by decide +kernel
theorem dX8_undo_33 : decode cX8_undo 33 = .ok (.aload_n 0, 1) := by decide +kernel
theorem dX8_undo_34 : decode cX8_undo 34 = .ok (.getfield 28, 3) := by decide +kernel
theorem dX8_undo_37 : decode cX8_undo 37 = .ok (.bipush 42, 2) := by decide +kernel
theorem dX8_undo_39 : decode cX8_undo 39 = .ok (.aload_n 0, 1) := by decide +kernel
theorem dX8_undo_40 : decode cX8_undo 40 = .ok (.getfield 50, 3) := by decide +kernel
theorem dX8_undo_43 : decode cX8_undo 43 = .ok (.imul, 1) := by decide +kernel
theorem dX8_undo_44 : decode cX8_undo 44 = .ok (.iload_n 1, 1) := by decide +kernel
theorem dX8_undo_45 : decode cX8_undo 45 = .ok (.iadd, 1) := by decide +kernel
theorem dX8_undo_46 : decode cX8_undo 46 = .ok (.iaload, 1) := by decide +kernel
theorem dX8_undo_47 : decode cX8_undo 47 = .ok (.iastore, 1) := by decide +kernel
theorem dX8_undo_48 : decode cX8_undo 48 = .ok (.iinc 1 1, 3) := by decide +kernel
theorem dX8_undo_51 : decode cX8_undo 51 = .ok (.goto (-29), 3) := by decide +kernel
theorem dX8_undo_54 : decode cX8_undo 54 = .ok (.aload_n 0, 1) := by decide +kernel
theorem dX8_undo_55 : decode cX8_undo 55 = .ok (.getfield 50, 3) := by decide +kernel
theorem dX8_undo_58 : decode cX8_undo 58 = .ok (.ireturn, 1) := by decide +kernel
theorem dX8_aside_0 : decode cX8_aside 0 = .ok (.iconst 0, 1) := by decide +kernel
theorem dX8_aside_1 : decode cX8_aside 1 = .ok (.istore_n 1, 1) := by decide +kernel
theorem dX8_aside_2 : decode cX8_aside 2 = .ok (.iload_n 1, 1) := by decide +kernel
theorem dX8_aside_3 : decode cX8_aside 3 = .ok (.bipush 42, 2) := by decide +kernel
theorem dX8_aside_5 : decode cX8_aside 5 = .ok (.if_icmp .ge 21, 3) := by decide +kernel
theorem dX8_aside_8 : decode cX8_aside 8 = .ok (.aload_n 0, 1) := by decide +kernel
theorem dX8_aside_9 : decode cX8_aside 9 = .ok (.getfield 25, 3) := by decide +kernel
theorem dX8_aside_12 : decode cX8_aside 12 = .ok (.iload_n 1, 1) := by decide +kernel
theorem dX8_aside_13 : decode cX8_aside 13 = .ok (.aload_n 0, 1) := by decide +kernel
theorem dX8_aside_14 : decode cX8_aside 14 = .ok (.getfield 22, 3) := by decide +kernel
theorem dX8_aside_17 : decode cX8_aside 17 = .ok (.iload_n 1, 1) := by decide +kernel
theorem dX8_aside_18 : decode cX8_aside 18 = .ok (.iaload, 1) := by decide +kernel
theorem dX8_aside_19 : decode cX8_aside 19 = .ok (.iastore, 1) := by decide +kernel
theorem dX8_aside_20 : decode cX8_aside 20 = .ok (.iinc 1 1, 3) := by decide +kernel
theorem dX8_aside_23 : decode cX8_aside 23 = .ok (.goto (-21), 3) := by decide +kernel
theorem dX8_aside_26 : decode cX8_aside 26 = .ok (.return_, 1) := by decide +kernel
theorem dX8_isDirty_0 : decode cX8_isDirty 0 = .ok (.iconst 0, 1) := by decide +kernel
theorem dX8_isDirty_1 : decode cX8_isDirty 1 = .ok (.istore_n 2, 1) := by decide +kernel
theorem dX8_isDirty_2 : decode cX8_isDirty 2 = .ok (.iconst 0, 1) := by decide +kernel
theorem dX8_isDirty_3 : decode cX8_isDirty 3 = .ok (.istore_n 3, 1) := by decide +kernel
theorem dX8_isDirty_4 : decode cX8_isDirty 4 = .ok (.iload_n 3, 1) := by decide +kernel
theorem dX8_isDirty_5 : decode cX8_isDirty 5 = .ok (.aload_n 0, 1) := by decide +kernel
theorem dX8_isDirty_6 : decode cX8_isDirty 6 = .ok (.getfield 25, 3) := by decide +kernel
theorem dX8_isDirty_9 : decode cX8_isDirty 9 = .ok (.bipush 8, 2) := by decide +kernel
theorem dX8_isDirty_11 : decode cX8_isDirty 11 = .ok (.iaload, 1) := by decide +kernel
theorem dX8_isDirty_12 : decode cX8_isDirty 12 = .ok (.if_icmp .ge 62, 3) := by decide +kernel
theorem dX8_isDirty_15 : decode cX8_isDirty 15 = .ok (.aload_n 0, 1) := by decide +kernel
theorem dX8_isDirty_16 : decode cX8_isDirty 16 = .ok (.getfield 25, 3) := by decide +kernel
theorem dX8_isDirty_19 : decode cX8_isDirty 19 = .ok (.bipush 9, 2) := by decide +kernel
theorem dX8_isDirty_21 : decode cX8_isDirty 21 = .ok (.iconst 2, 1) := by decide +kernel
theorem dX8_isDirty_22 : decode cX8_isDirty 22 = .ok (.iload_n 3, 1) := by decide +kernel
theorem dX8_isDirty_23 : decode cX8_isDirty 23 = .ok (.imul, 1) := by decide +kernel
theorem dX8_isDirty_24 : decode cX8_isDirty 24 = .ok (.iadd, 1) := by decide +kernel
theorem dX8_isDirty_25 : decode cX8_isDirty 25 = .ok (.iaload, 1) := by decide +kernel
theorem dX8_isDirty_26 : decode cX8_isDirty 26 = .ok (.istore 4, 2) := by decide +kernel
theorem dX8_isDirty_28 : decode cX8_isDirty 28 = .ok (.iload_n 2, 1) := by decide +kernel
theorem dX8_isDirty_29 : decode cX8_isDirty 29 = .ok (.ifCond .ne 33, 3) := by decide +kernel
theorem dX8_isDirty_32 : decode cX8_isDirty 32 = .ok (.iload_n 1, 1) := by decide +kernel
theorem dX8_isDirty_33 : decode cX8_isDirty 33 = .ok (.i2l, 1) := by decide +kernel
theorem dX8_isDirty_34 : decode cX8_isDirty 34 = .ok (.iload 4, 2) := by decide +kernel
theorem dX8_isDirty_36 : decode cX8_isDirty 36 = .ok (.i2l, 1) := by decide +kernel
theorem dX8_isDirty_37 : decode cX8_isDirty 37 = .ok (.iload 4, 2) := by decide +kernel
theorem dX8_isDirty_39 : decode cX8_isDirty 39 = .ok (.aload_n 0, 1) := by decide +kernel
theorem dX8_isDirty_40 : decode cX8_isDirty 40 = .ok (.getfield 25, 3) := by decide +kernel
theorem dX8_isDirty_43 : decode cX8_isDirty 43 = .ok (.bipush 9, 2) := by decide +kernel
theorem dX8_isDirty_45 : decode cX8_isDirty 45 = .ok (.iconst 2, 1) := by decide +kernel
theorem dX8_isDirty_46 : decode cX8_isDirty 46 = .ok (.iload_n 3, 1) := by decide +kernel
theorem dX8_isDirty_47 : decode cX8_isDirty 47 = .ok (.imul, 1) := by decide +kernel
theorem dX8_isDirty_48 : decode cX8_isDirty 48 = .ok (.iadd, 1) := by decide +kernel
theorem dX8_isDirty_49 : decode cX8_isDirty 49 = .ok (.iconst 1, 1) := by decide +kernel
theorem dX8_isDirty_50 : decode cX8_isDirty 50 = .ok (.iadd, 1) := by decide +kernel
theorem dX8_isDirty_51 : decode cX8_isDirty 51 = .ok (.iaload, 1) := by decide +kernel
theorem dX8_isDirty_52 : decode cX8_isDirty 52 = .ok (.iadd, 1) := by decide +kernel
theorem dX8_isDirty_53 : decode cX8_isDirty 53 = .ok (.iconst 1, 1) := by decide +kernel
theorem dX8_isDirty_54 : decode cX8_isDirty 54 = .ok (.isub, 1) := by decide +kernel
theorem dX8_isDirty_55 : decode cX8_isDirty 55 = .ok (.i2l, 1) := by decide +kernel
theorem dX8_isDirty_56 : decode cX8_isDirty 56 = .ok (.invokestatic 57, 3) := by decide +kernel
theorem dX8_isDirty_59 : decode cX8_isDirty 59 = .ok (.ifCond .eq 7, 3) := by decide +kernel
theorem dX8_isDirty_62 : decode cX8_isDirty 62 = .ok (.iconst 1, 1) := by decide +kernel
theorem dX8_isDirty_63 : decode cX8_isDirty 63 = .ok (.goto 4, 3) := by decide +kernel
theorem dX8_isDirty_66 : decode cX8_isDirty 66 = .ok (.iconst 0, 1) := by decide +kernel
theorem dX8_isDirty_67 : decode cX8_isDirty 67 = .ok (.istore_n 2, 1) := by decide +kernel
theorem dX8_isDirty_68 : decode cX8_isDirty 68 = .ok (.iinc 3 1, 3) := by decide +kernel
theorem dX8_isDirty_71 : decode cX8_isDirty 71 = .ok (.goto (-67), 3) := by decide +kernel
theorem dX8_isDirty_74 : decode cX8_isDirty 74 = .ok (.iload_n 2, 1) := by decide +kernel
theorem dX8_isDirty_75 : decode cX8_isDirty 75 = .ok (.ireturn, 1) := by decide +kernel
theorem dX8_logs_0 : decode cX8_logs 0 = .ok (.aload_n 0, 1) := by decide +kernel
theorem dX8_logs_1 : decode cX8_logs 1 = .ok (.getfield 25, 3) := by decide +kernel
theorem dX8_logs_4 : decode cX8_logs 4 = .ok (.bipush 17, 2) := by decide +kernel
theorem dX8_logs_6 : decode cX8_logs 6 = .ok (.iaload, 1) := by decide +kernel
theorem dX8_logs_7 : decode cX8_logs 7 = .ok (.bipush 8, 2) := by decide +kernel
theorem dX8_logs_9 : decode cX8_logs 9 = .ok (.if_icmp .ne 46, 3) := by decide +kernel
theorem dX8_logs_12 : decode cX8_logs 12 = .ok (.iconst 0, 1) := by decide +kernel
theorem dX8_logs_13 : decode cX8_logs 13 = .ok (.istore_n 3, 1) := by decide +kernel
theorem dX8_logs_14 : decode cX8_logs 14 = .ok (.iload_n 3, 1) := by decide +kernel
theorem dX8_logs_15 : decode cX8_logs 15 = .ok (.bipush 21, 2) := by decide +kernel
theorem dX8_logs_17 : decode cX8_logs 17 = .ok (.if_icmp .ge 27, 3) := by decide +kernel
theorem dX8_logs_20 : decode cX8_logs 20 = .ok (.aload_n 0, 1) := by decide +kernel
theorem dX8_logs_21 : decode cX8_logs 21 = .ok (.getfield 25, 3) := by decide +kernel
theorem dX8_logs_24 : decode cX8_logs 24 = .ok (.bipush 18, 2) := by decide +kernel
theorem dX8_logs_26 : decode cX8_logs 26 = .ok (.iload_n 3, 1) := by decide +kernel
theorem dX8_logs_27 : decode cX8_logs 27 = .ok (.iadd, 1) := by decide +kernel
theorem dX8_logs_28 : decode cX8_logs 28 = .ok (.aload_n 0, 1) := by decide +kernel
theorem dX8_logs_29 : decode cX8_logs 29 = .ok (.getfield 25, 3) := by decide +kernel
theorem dX8_logs_32 : decode cX8_logs 32 = .ok (.bipush 21, 2) := by decide +kernel
theorem dX8_logs_34 : decode cX8_logs 34 = .ok (.iload_n 3, 1) := by decide +kernel
theorem dX8_logs_35 : decode cX8_logs 35 = .ok (.iadd, 1) := by decide +kernel
theorem dX8_logs_36 : decode cX8_logs 36 = .ok (.iaload, 1) := by decide +kernel
theorem dX8_logs_37 : decode cX8_logs 37 = .ok (.iastore, 1) := by decide +kernel
theorem dX8_logs_38 : decode cX8_logs 38 = .ok (.iinc 3 1, 3) := by decide +kernel
theorem dX8_logs_41 : decode cX8_logs 41 = .ok (.goto (-27), 3) := by decide +kernel
theorem dX8_logs_44 : decode cX8_logs 44 = .ok (.aload_n 0, 1) := by decide +kernel
theorem dX8_logs_45 : decode cX8_logs 45 = .ok (.getfield 25, 3) := by decide +kernel
theorem dX8_logs_48 : decode cX8_logs 48 = .ok (.bipush 17, 2) := by decide +kernel
theorem dX8_logs_50 : decode cX8_logs 50 = .ok (.dup2, 1) := by decide +kernel
theorem dX8_logs_51 : decode cX8_logs 51 = .ok (.iaload, 1) := by decide +kernel
theorem dX8_logs_52 : decode cX8_logs 52 = .ok (.iconst 1, 1) := by decide +kernel
theorem dX8_logs_53 : decode cX8_logs 53 = .ok (.isub, 1) := by decide +kernel
theorem dX8_logs_54 : decode cX8_logs 54 = .ok (.iastore, 1) := by decide +kernel
theorem dX8_logs_55 : decode cX8_logs 55 = .ok (.bipush 18, 2) := by decide +kernel
theorem dX8_logs_57 : decode cX8_logs 57 = .ok (.iconst 3, 1) := by decide +kernel
theorem dX8_logs_58 : decode cX8_logs 58 = .ok (.aload_n 0, 1) := by decide +kernel
theorem dX8_logs_59 : decode cX8_logs 59 = .ok (.getfield 25, 3) := by decide +kernel
theorem dX8_logs_62 : decode cX8_logs 62 = .ok (.bipush 17, 2) := by decide +kernel
theorem dX8_logs_64 : decode cX8_logs 64 = .ok (.iaload, 1) := by decide +kernel
theorem dX8_logs_65 : decode cX8_logs 65 = .ok (.imul, 1) := by decide +kernel
theorem dX8_logs_66 : decode cX8_logs 66 = .ok (.iadd, 1) := by decide +kernel
theorem dX8_logs_67 : decode cX8_logs 67 = .ok (.istore_n 3, 1) := by decide +kernel
theorem dX8_logs_68 : decode cX8_logs 68 = .ok (.aload_n 0, 1) := by decide +kernel
theorem dX8_logs_69 : decode cX8_logs 69 = .ok (.getfield 25, 3) := by decide +kernel
theorem dX8_logs_72 : decode cX8_logs 72 = .ok (.iload_n 3, 1) := by decide +kernel
theorem dX8_logs_73 : decode cX8_logs 73 = .ok (.iload_n 1, 1) := by decide +kernel
theorem dX8_logs_74 : decode cX8_logs 74 = .ok (.iastore, 1) := by decide +kernel
theorem dX8_logs_75 : decode cX8_logs 75 = .ok (.aload_n 0, 1) := by decide +kernel
theorem dX8_logs_76 : decode cX8_logs 76 = .ok (.getfield 25, 3) := by decide +kernel
theorem dX8_logs_79 : decode cX8_logs 79 = .ok (.iload_n 3, 1) := by decide +kernel
theorem dX8_logs_80 : decode cX8_logs 80 = .ok (.iconst 1, 1) := by decide +kernel
theorem dX8_logs_81 : decode cX8_logs 81 = .ok (.iadd, 1) := by decide +kernel
theorem dX8_logs_82 : decode cX8_logs 82 = .ok (.iload_n 2, 1) := by decide +kernel
theorem dX8_logs_83 : decode cX8_logs 83 = .ok (.iastore, 1) := by decide +kernel
theorem dX8_logs_84 : decode cX8_logs 84 = .ok (.aload_n 0, 1) := by decide +kernel
theorem dX8_logs_85 : decode cX8_logs 85 = .ok (.getfield 25, 3) := by decide +kernel
theorem dX8_logs_88 : decode cX8_logs 88 = .ok (.iload_n 3, 1) := by decide +kernel
theorem dX8_logs_89 : decode cX8_logs 89 = .ok (.iconst 2, 1) := by decide +kernel
theorem dX8_logs_90 : decode cX8_logs 90 = .ok (.iadd, 1) := by decide +kernel
theorem dX8_logs_91 : decode cX8_logs 91 = .ok (.aload_n 0, 1) := by decide +kernel
theorem dX8_logs_92 : decode cX8_logs 92 = .ok (.getfield 25, 3) := by decide +kernel
theorem dX8_logs_95 : decode cX8_logs 95 = .ok (.iconst 1, 1) := by decide +kernel
theorem dX8_logs_96 : decode cX8_logs 96 = .ok (.iaload, 1) := by decide +kernel
theorem dX8_logs_97 : decode cX8_logs 97 = .ok (.iastore, 1) := by decide +kernel
theorem dX8_logs_98 : decode cX8_logs 98 = .ok (.aload_n 0, 1) := by decide +kernel
theorem dX8_logs_99 : decode cX8_logs 99 = .ok (.getfield 25, 3) := by decide +kernel
theorem dX8_logs_102 : decode cX8_logs 102 = .ok (.bipush 17, 2) := by decide +kernel
theorem dX8_logs_104 : decode cX8_logs 104 = .ok (.dup2, 1) := by decide +kernel
theorem dX8_logs_105 : decode cX8_logs 105 = .ok (.iaload, 1) := by decide +kernel
theorem dX8_logs_106 : decode cX8_logs 106 = .ok (.iconst 1, 1) := by decide +kernel
theorem dX8_logs_107 : decode cX8_logs 107 = .ok (.iadd, 1) := by decide +kernel
theorem dX8_logs_108 : decode cX8_logs 108 = .ok (.iastore, 1) := by decide +kernel
theorem dX8_logs_109 : decode cX8_logs 109 = .ok (.return_, 1) := by decide +kernel
theorem dX8_isCounted_0 : decode cX8_isCounted 0 = .ok (.aload_n 0, 1) := by decide +kernel
theorem dX8_isCounted_1 : decode cX8_isCounted 1 = .ok (.getfield 25, 3) := by decide +kernel
theorem dX8_isCounted_4 : decode cX8_isCounted 4 = .ok (.iconst 5, 1) := by decide +kernel
theorem dX8_isCounted_5 : decode cX8_isCounted 5 = .ok (.iaload, 1) := by decide +kernel
theorem dX8_isCounted_6 : decode cX8_isCounted 6 = .ok (.iconst 4, 1) := by decide +kernel
theorem dX8_isCounted_7 : decode cX8_isCounted 7 = .ok (.if_icmp .eq 23, 3) := by decide +kernel
theorem dX8_isCounted_10 : decode cX8_isCounted 10 = .ok (.iload_n 1, 1) := by decide +kernel
theorem dX8_isCounted_11 : decode cX8_isCounted 11 = .ok (.iconst 3, 1) := by decide +kernel
theorem dX8_isCounted_12 : decode cX8_isCounted 12 = .ok (.if_icmp .eq 18, 3) := by decide +kernel
theorem dX8_isCounted_15 : decode cX8_isCounted 15 = .ok (.aload_n 0, 1) := by decide +kernel
theorem dX8_isCounted_16 : decode cX8_isCounted 16 = .ok (.getfield 25, 3) := by decide +kernel
theorem dX8_isCounted_19 : decode cX8_isCounted 19 = .ok (.iconst 5, 1) := by decide +kernel
theorem dX8_isCounted_20 : decode cX8_isCounted 20 = .ok (.iaload, 1) := by decide +kernel
theorem dX8_isCounted_21 : decode cX8_isCounted 21 = .ok (.iconst 2, 1) := by decide +kernel
theorem dX8_isCounted_22 : decode cX8_isCounted 22 = .ok (.if_icmp .ne 12, 3) := by decide +kernel
theorem dX8_isCounted_25 : decode cX8_isCounted 25 = .ok (.iload_n 1, 1) := by decide +kernel
theorem dX8_isCounted_26 : decode cX8_isCounted 26 = .ok (.iconst 1, 1) := by decide +kernel
theorem dX8_isCounted_27 : decode cX8_isCounted 27 = .ok (.if_icmp .ne 7, 3) := by decide +kernel
theorem dX8_isCounted_30 : decode cX8_isCounted 30 = .ok (.iconst 1, 1) := by decide +kernel
theorem dX8_isCounted_31 : decode cX8_isCounted 31 = .ok (.goto 4, 3) := by decide +kernel
theorem dX8_isCounted_34 : decode cX8_isCounted 34 = .ok (.iconst 0, 1) := by decide +kernel
theorem dX8_isCounted_35 : decode cX8_isCounted 35 = .ok (.ireturn, 1) := by decide +kernel
theorem dX8_decodes_0 : decode cX8_decodes 0 = .ok (.iconst 4, 1) := by decide +kernel
theorem dX8_decodes_1 : decode cX8_decodes 1 = .ok (.iload_n 1, 1) := by decide +kernel
theorem dX8_decodes_2 : decode cX8_decodes 2 = .ok (.aload_n 0, 1) := by decide +kernel
theorem dX8_decodes_3 : decode cX8_decodes 3 = .ok (.getfield 44, 3) := by decide +kernel
theorem dX8_decodes_6 : decode cX8_decodes 6 = .ok (.irem, 1) := by decide +kernel
theorem dX8_decodes_7 : decode cX8_decodes 7 = .ok (.imul, 1) := by decide +kernel
theorem dX8_decodes_8 : decode cX8_decodes 8 = .ok (.aload_n 0, 1) := by decide +kernel
theorem dX8_decodes_9 : decode cX8_decodes 9 = .ok (.getfield 44, 3) := by decide +kernel
theorem dX8_decodes_12 : decode cX8_decodes 12 = .ok (.idiv, 1) := by decide +kernel
theorem dX8_decodes_13 : decode cX8_decodes 13 = .ok (.istore_n 2, 1) := by decide +kernel
theorem dX8_decodes_14 : decode cX8_decodes 14 = .ok (.iload_n 2, 1) := by decide +kernel
theorem dX8_decodes_15 : decode cX8_decodes 15 = .ok (.aload_n 0, 1) := by decide +kernel
theorem dX8_decodes_16 : decode cX8_decodes 16 = .ok (.getfield 25, 3) := by decide +kernel
theorem dX8_decodes_19 : decode cX8_decodes 19 = .ok (.iconst 2, 1) := by decide +kernel
theorem dX8_decodes_20 : decode cX8_decodes 20 = .ok (.iaload, 1) := by decide +kernel
theorem dX8_decodes_21 : decode cX8_decodes 21 = .ok (.isub, 1) := by decide +kernel
theorem dX8_decodes_22 : decode cX8_decodes 22 = .ok (.iconst 4, 1) := by decide +kernel
theorem dX8_decodes_23 : decode cX8_decodes 23 = .ok (.iadd, 1) := by decide +kernel
theorem dX8_decodes_24 : decode cX8_decodes 24 = .ok (.iconst 4, 1) := by decide +kernel
theorem dX8_decodes_25 : decode cX8_decodes 25 = .ok (.irem, 1) := by decide +kernel
theorem dX8_decodes_26 : decode cX8_decodes 26 = .ok (.istore_n 3, 1) := by decide +kernel
theorem dX8_decodes_27 : decode cX8_decodes 27 = .ok (.iload_n 3, 1) := by decide +kernel
theorem dX8_decodes_28 : decode cX8_decodes 28 = .ok (.iconst 2, 1) := by decide +kernel
theorem dX8_decodes_29 : decode cX8_decodes 29 = .ok (.if_icmp .ne 54, 3) := by decide +kernel
theorem dX8_decodes_32 : decode cX8_decodes 32 = .ok (.aload_n 0, 1) := by decide +kernel
theorem dX8_decodes_33 : decode cX8_decodes 33 = .ok (.getfield 25, 3) := by decide +kernel
theorem dX8_decodes_36 : decode cX8_decodes 36 = .ok (.iconst 3, 1) := by decide +kernel
theorem dX8_decodes_37 : decode cX8_decodes 37 = .ok (.dup2, 1) := by decide +kernel
theorem dX8_decodes_38 : decode cX8_decodes 38 = .ok (.iaload, 1) := by decide +kernel
theorem dX8_decodes_39 : decode cX8_decodes 39 = .ok (.iconst 1, 1) := by decide +kernel
theorem dX8_decodes_40 : decode cX8_decodes 40 = .ok (.iadd, 1) := by decide +kernel
theorem dX8_decodes_41 : decode cX8_decodes 41 = .ok (.iastore, 1) := by decide +kernel
theorem dX8_decodes_42 : decode cX8_decodes 42 = .ok (.aload_n 0, 1) := by decide +kernel
theorem dX8_decodes_43 : decode cX8_decodes 43 = .ok (.getfield 25, 3) := by decide +kernel
theorem dX8_decodes_46 : decode cX8_decodes 46 = .ok (.bipush 17, 2) := by decide +kernel
theorem dX8_decodes_48 : decode cX8_decodes 48 = .ok (.iaload, 1) := by decide +kernel
theorem dX8_decodes_49 : decode cX8_decodes 49 = .ok (.ifCond .eq 25, 3) := by decide +kernel
theorem dX8_decodes_52 : decode cX8_decodes 52 = .ok (.aload_n 0, 1) := by decide +kernel
theorem dX8_decodes_53 : decode cX8_decodes 53 = .ok (.getfield 25, 3) := by decide +kernel
theorem dX8_decodes_56 : decode cX8_decodes 56 = .ok (.bipush 18, 2) := by decide +kernel
theorem dX8_decodes_58 : decode cX8_decodes 58 = .ok (.iconst 3, 1) := by decide +kernel
theorem dX8_decodes_59 : decode cX8_decodes 59 = .ok (.aload_n 0, 1) := by decide +kernel
theorem dX8_decodes_60 : decode cX8_decodes 60 = .ok (.getfield 25, 3) := by decide +kernel
theorem dX8_decodes_63 : decode cX8_decodes 63 = .ok (.bipush 17, 2) := by decide +kernel
theorem dX8_decodes_65 : decode cX8_decodes 65 = .ok (.iaload, 1) := by decide +kernel
theorem dX8_decodes_66 : decode cX8_decodes 66 = .ok (.imul, 1) := by decide +kernel
theorem dX8_decodes_67 : decode cX8_decodes 67 = .ok (.iadd, 1) := by decide +kernel
theorem dX8_decodes_68 : decode cX8_decodes 68 = .ok (.iconst 3, 1) := by decide +kernel
theorem dX8_decodes_69 : decode cX8_decodes 69 = .ok (.isub, 1) := by decide +kernel
theorem dX8_decodes_70 : decode cX8_decodes 70 = .ok (.iaload, 1) := by decide +kernel
theorem dX8_decodes_71 : decode cX8_decodes 71 = .ok (.ifCond .ne 74, 3) := by decide +kernel
theorem dX8_decodes_74 : decode cX8_decodes 74 = .ok (.aload_n 0, 1) := by decide +kernel
theorem dX8_decodes_75 : decode cX8_decodes 75 = .ok (.iconst 1, 1) := by decide +kernel
theorem dX8_decodes_76 : decode cX8_decodes 76 = .ok (.iload_n 1, 1) := by decide +kernel
theorem dX8_decodes_77 : decode cX8_decodes 77 = .ok (.invokevirtual 92, 3) := by decide +kernel
theorem dX8_decodes_80 : decode cX8_decodes 80 = .ok (.goto 65, 3) := by decide +kernel
theorem dX8_decodes_83 : decode cX8_decodes 83 = .ok (.iload_n 3, 1) := by decide +kernel
theorem dX8_decodes_84 : decode cX8_decodes 84 = .ok (.iconst 1, 1) := by decide +kernel
theorem dX8_decodes_85 : decode cX8_decodes 85 = .ok (.if_icmp .ne 33, 3) := by decide +kernel
theorem dX8_decodes_88 : decode cX8_decodes 88 = .ok (.aload_n 0, 1) := by decide +kernel
theorem dX8_decodes_89 : decode cX8_decodes 89 = .ok (.getfield 25, 3) := by decide +kernel
theorem dX8_decodes_92 : decode cX8_decodes 92 = .ok (.iconst 1, 1) := by decide +kernel
theorem dX8_decodes_93 : decode cX8_decodes 93 = .ok (.dup2, 1) := by decide +kernel
theorem dX8_decodes_94 : decode cX8_decodes 94 = .ok (.iaload, 1) := by decide +kernel
theorem dX8_decodes_95 : decode cX8_decodes 95 = .ok (.aload_n 0, 1) := by decide +kernel
theorem dX8_decodes_96 : decode cX8_decodes 96 = .ok (.aload_n 0, 1) := by decide +kernel
theorem dX8_decodes_97 : decode cX8_decodes 97 = .ok (.getfield 25, 3) := by decide +kernel
theorem dX8_decodes_100 : decode cX8_decodes 100 = .ok (.iconst 2, 1) := by decide +kernel
theorem dX8_decodes_101 : decode cX8_decodes 101 = .ok (.iaload, 1) := by decide +kernel
theorem dX8_decodes_102 : decode cX8_decodes 102 = .ok (.invokevirtual 96, 3) := by decide +kernel
theorem dX8_decodes_105 : decode cX8_decodes 105 = .ok (.ifCond .eq 7, 3) := by decide +kernel
theorem dX8_decodes_108 : decode cX8_decodes 108 = .ok (.iconst 1, 1) := by decide +kernel
theorem dX8_decodes_109 : decode cX8_decodes 109 = .ok (.goto 4, 3) := by decide +kernel
theorem dX8_decodes_112 : decode cX8_decodes 112 = .ok (.iconst 0, 1) := by decide +kernel
theorem dX8_decodes_113 : decode cX8_decodes 113 = .ok (.iadd, 1) := by decide +kernel
theorem dX8_decodes_114 : decode cX8_decodes 114 = .ok (.iastore, 1) := by decide +kernel
theorem dX8_decodes_115 : decode cX8_decodes 115 = .ok (.goto 30, 3) := by decide +kernel
theorem dX8_decodes_118 : decode cX8_decodes 118 = .ok (.iload_n 3, 1) := by decide +kernel
theorem dX8_decodes_119 : decode cX8_decodes 119 = .ok (.iconst 3, 1) := by decide +kernel
theorem dX8_decodes_120 : decode cX8_decodes 120 = .ok (.if_icmp .ne 25, 3) := by decide +kernel
theorem dX8_decodes_123 : decode cX8_decodes 123 = .ok (.aload_n 0, 1) := by decide +kernel
theorem dX8_decodes_124 : decode cX8_decodes 124 = .ok (.getfield 25, 3) := by decide +kernel
theorem dX8_decodes_127 : decode cX8_decodes 127 = .ok (.iconst 1, 1) := by decide +kernel
theorem dX8_decodes_128 : decode cX8_decodes 128 = .ok (.dup2, 1) := by decide +kernel
theorem dX8_decodes_129 : decode cX8_decodes 129 = .ok (.iaload, 1) := by decide +kernel
theorem dX8_decodes_130 : decode cX8_decodes 130 = .ok (.aload_n 0, 1) := by decide +kernel
theorem dX8_decodes_131 : decode cX8_decodes 131 = .ok (.iload_n 2, 1) := by decide +kernel
theorem dX8_decodes_132 : decode cX8_decodes 132 = .ok (.invokevirtual 96, 3) := by decide +kernel
theorem dX8_decodes_135 : decode cX8_decodes 135 = .ok (.ifCond .eq 7, 3) := by decide +kernel
theorem dX8_decodes_138 : decode cX8_decodes 138 = .ok (.iconst 1, 1) := by decide +kernel
theorem dX8_decodes_139 : decode cX8_decodes 139 = .ok (.goto 4, 3) := by decide +kernel
theorem dX8_decodes_142 : decode cX8_decodes 142 = .ok (.iconst 0, 1) := by decide +kernel
theorem dX8_decodes_143 : decode cX8_decodes 143 = .ok (.isub, 1) := by decide +kernel
theorem dX8_decodes_144 : decode cX8_decodes 144 = .ok (.iastore, 1) := by decide +kernel
theorem dX8_decodes_145 : decode cX8_decodes 145 = .ok (.aload_n 0, 1) := by decide +kernel
theorem dX8_decodes_146 : decode cX8_decodes 146 = .ok (.getfield 25, 3) := by decide +kernel
theorem dX8_decodes_149 : decode cX8_decodes 149 = .ok (.iconst 2, 1) := by decide +kernel
theorem dX8_decodes_150 : decode cX8_decodes 150 = .ok (.iload_n 2, 1) := by decide +kernel
theorem dX8_decodes_151 : decode cX8_decodes 151 = .ok (.iastore, 1) := by decide +kernel
theorem dX8_decodes_152 : decode cX8_decodes 152 = .ok (.return_, 1) := by decide +kernel
theorem dX8_sampleAt_0 : decode cX8_sampleAt 0 = .ok (.aload_n 0, 1) := by decide +kernel
theorem dX8_sampleAt_1 : decode cX8_sampleAt 1 = .ok (.getfield 25, 3) := by decide +kernel
theorem dX8_sampleAt_4 : decode cX8_sampleAt 4 = .ok (.iconst 4, 1) := by decide +kernel
theorem dX8_sampleAt_5 : decode cX8_sampleAt 5 = .ok (.dup2, 1) := by decide +kernel
theorem dX8_sampleAt_6 : decode cX8_sampleAt 6 = .ok (.iaload, 1) := by decide +kernel
theorem dX8_sampleAt_7 : decode cX8_sampleAt 7 = .ok (.iconst 1, 1) := by decide +kernel
theorem dX8_sampleAt_8 : decode cX8_sampleAt 8 = .ok (.iadd, 1) := by decide +kernel
theorem dX8_sampleAt_9 : decode cX8_sampleAt 9 = .ok (.iastore, 1) := by decide +kernel
theorem dX8_sampleAt_10 : decode cX8_sampleAt 10 = .ok (.aload_n 0, 1) := by decide +kernel
theorem dX8_sampleAt_11 : decode cX8_sampleAt 11 = .ok (.iload_n 2, 1) := by decide +kernel
theorem dX8_sampleAt_12 : decode cX8_sampleAt 12 = .ok (.invokevirtual 100, 3) := by decide +kernel
theorem dX8_sampleAt_15 : decode cX8_sampleAt 15 = .ok (.ifCond .ne 8, 3) := by decide +kernel
theorem dX8_sampleAt_18 : decode cX8_sampleAt 18 = .ok (.aload_n 0, 1) := by decide +kernel
theorem dX8_sampleAt_19 : decode cX8_sampleAt 19 = .ok (.iload_n 2, 1) := by decide +kernel
theorem dX8_sampleAt_20 : decode cX8_sampleAt 20 = .ok (.invokevirtual 103, 3) := by decide +kernel
theorem dX8_sampleAt_23 : decode cX8_sampleAt 23 = .ok (.iconst 0, 1) := by decide +kernel
theorem dX8_sampleAt_24 : decode cX8_sampleAt 24 = .ok (.istore_n 3, 1) := by decide +kernel
theorem dX8_sampleAt_25 : decode cX8_sampleAt 25 = .ok (.iload_n 3, 1) := by decide +kernel
theorem dX8_sampleAt_26 : decode cX8_sampleAt 26 = .ok (.aload_n 0, 1) := by decide +kernel
theorem dX8_sampleAt_27 : decode cX8_sampleAt 27 = .ok (.getfield 47, 3) := by decide +kernel
theorem dX8_sampleAt_30 : decode cX8_sampleAt 30 = .ok (.if_icmp .ge 76, 3) := by decide +kernel
theorem dX8_sampleAt_33 : decode cX8_sampleAt 33 = .ok (.iload_n 1, 1) := by decide +kernel
theorem dX8_sampleAt_34 : decode cX8_sampleAt 34 = .ok (.iload_n 2, 1) := by decide +kernel
theorem dX8_sampleAt_35 : decode cX8_sampleAt 35 = .ok (.if_icmp .ge 12, 3) := by decide +kernel
theorem dX8_sampleAt_38 : decode cX8_sampleAt 38 = .ok (.aload_n 0, 1) := by decide +kernel
theorem dX8_sampleAt_39 : decode cX8_sampleAt 39 = .ok (.getfield 19, 3) := by decide +kernel
theorem dX8_sampleAt_42 : decode cX8_sampleAt 42 = .ok (.iload_n 3, 1) := by decide +kernel
theorem dX8_sampleAt_43 : decode cX8_sampleAt 43 = .ok (.iaload, 1) := by decide +kernel
theorem dX8_sampleAt_44 : decode cX8_sampleAt 44 = .ok (.goto 16, 3) := by decide +kernel
theorem dX8_sampleAt_47 : decode cX8_sampleAt 47 = .ok (.aload_n 0, 1) := by decide +kernel
theorem dX8_sampleAt_48 : decode cX8_sampleAt 48 = .ok (.getfield 19, 3) := by decide +kernel
theorem dX8_sampleAt_51 : decode cX8_sampleAt 51 = .ok (.aload_n 0, 1) := by decide +kernel
theorem dX8_sampleAt_52 : decode cX8_sampleAt 52 = .ok (.getfield 47, 3) := by decide +kernel
theorem dX8_sampleAt_55 : decode cX8_sampleAt 55 = .ok (.iconst 1, 1) := by decide +kernel
theorem dX8_sampleAt_56 : decode cX8_sampleAt 56 = .ok (.isub, 1) := by decide +kernel
theorem dX8_sampleAt_57 : decode cX8_sampleAt 57 = .ok (.iload_n 3, 1) := by decide +kernel
theorem dX8_sampleAt_58 : decode cX8_sampleAt 58 = .ok (.isub, 1) := by decide +kernel
theorem dX8_sampleAt_59 : decode cX8_sampleAt 59 = .ok (.iaload, 1) := by decide +kernel
theorem dX8_sampleAt_60 : decode cX8_sampleAt 60 = .ok (.istore 4, 2) := by decide +kernel
theorem dX8_sampleAt_62 : decode cX8_sampleAt 62 = .ok (.iload_n 1, 1) := by decide +kernel
theorem dX8_sampleAt_63 : decode cX8_sampleAt 63 = .ok (.iload_n 2, 1) := by decide +kernel
theorem dX8_sampleAt_64 : decode cX8_sampleAt 64 = .ok (.if_icmp .ge 18, 3) := by decide +kernel
theorem dX8_sampleAt_67 : decode cX8_sampleAt 67 = .ok (.iload_n 1, 1) := by decide +kernel
theorem dX8_sampleAt_68 : decode cX8_sampleAt 68 = .ok (.iload 4, 2) := by decide +kernel
theorem dX8_sampleAt_70 : decode cX8_sampleAt 70 = .ok (.if_icmp .ge 30, 3) := by decide +kernel
theorem dX8_sampleAt_73 : decode cX8_sampleAt 73 = .ok (.iload 4, 2) := by decide +kernel
theorem dX8_sampleAt_75 : decode cX8_sampleAt 75 = .ok (.iload_n 2, 1) := by decide +kernel
theorem dX8_sampleAt_76 : decode cX8_sampleAt 76 = .ok (.if_icmp .gt 24, 3) := by decide +kernel
theorem dX8_sampleAt_79 : decode cX8_sampleAt 79 = .ok (.goto 15, 3) := by decide +kernel
theorem dX8_sampleAt_82 : decode cX8_sampleAt 82 = .ok (.iload_n 2, 1) := by decide +kernel
theorem dX8_sampleAt_83 : decode cX8_sampleAt 83 = .ok (.iload 4, 2) := by decide +kernel
theorem dX8_sampleAt_85 : decode cX8_sampleAt 85 = .ok (.if_icmp .gt 15, 3) := by decide +kernel
theorem dX8_sampleAt_88 : decode cX8_sampleAt 88 = .ok (.iload 4, 2) := by decide +kernel
theorem dX8_sampleAt_90 : decode cX8_sampleAt 90 = .ok (.iload_n 1, 1) := by decide +kernel
theorem dX8_sampleAt_91 : decode cX8_sampleAt 91 = .ok (.if_icmp .ge 9, 3) := by decide +kernel
theorem dX8_sampleAt_94 : decode cX8_sampleAt 94 = .ok (.aload_n 0, 1) := by decide +kernel
theorem dX8_sampleAt_95 : decode cX8_sampleAt 95 = .ok (.iconst 0, 1) := by decide +kernel
theorem dX8_sampleAt_96 : decode cX8_sampleAt 96 = .ok (.iload_n 2, 1) := by decide +kernel
theorem dX8_sampleAt_97 : decode cX8_sampleAt 97 = .ok (.invokevirtual 92, 3) := by decide +kernel
theorem dX8_sampleAt_100 : decode cX8_sampleAt 100 = .ok (.iinc 3 1, 3) := by decide +kernel
theorem dX8_sampleAt_103 : decode cX8_sampleAt 103 = .ok (.goto (-78), 3) := by decide +kernel
theorem dX8_sampleAt_106 : decode cX8_sampleAt 106 = .ok (.aload_n 0, 1) := by decide +kernel
theorem dX8_sampleAt_107 : decode cX8_sampleAt 107 = .ok (.getfield 25, 3) := by decide +kernel
theorem dX8_sampleAt_110 : decode cX8_sampleAt 110 = .ok (.iconst 0, 1) := by decide +kernel
theorem dX8_sampleAt_111 : decode cX8_sampleAt 111 = .ok (.iload_n 2, 1) := by decide +kernel
theorem dX8_sampleAt_112 : decode cX8_sampleAt 112 = .ok (.iastore, 1) := by decide +kernel
theorem dX8_sampleAt_113 : decode cX8_sampleAt 113 = .ok (.return_, 1) := by decide +kernel
theorem dX8_moves_0 : decode cX8_moves 0 = .ok (.aload_n 0, 1) := by decide +kernel
theorem dX8_moves_1 : decode cX8_moves 1 = .ok (.getfield 25, 3) := by decide +kernel
theorem dX8_moves_4 : decode cX8_moves 4 = .ok (.iconst 0, 1) := by decide +kernel
theorem dX8_moves_5 : decode cX8_moves 5 = .ok (.iaload, 1) := by decide +kernel
theorem dX8_moves_6 : decode cX8_moves 6 = .ok (.iload_n 1, 1) := by decide +kernel
theorem dX8_moves_7 : decode cX8_moves 7 = .ok (.if_icmp .eq 64, 3) := by decide +kernel
theorem dX8_moves_10 : decode cX8_moves 10 = .ok (.aload_n 0, 1) := by decide +kernel
theorem dX8_moves_11 : decode cX8_moves 11 = .ok (.getfield 25, 3) := by decide +kernel
theorem dX8_moves_14 : decode cX8_moves 14 = .ok (.iconst 0, 1) := by decide +kernel
theorem dX8_moves_15 : decode cX8_moves 15 = .ok (.iaload, 1) := by decide +kernel
theorem dX8_moves_16 : decode cX8_moves 16 = .ok (.istore_n 3, 1) := by decide +kernel
theorem dX8_moves_17 : decode cX8_moves 17 = .ok (.iload_n 1, 1) := by decide +kernel
theorem dX8_moves_18 : decode cX8_moves 18 = .ok (.iload_n 3, 1) := by decide +kernel
theorem dX8_moves_19 : decode cX8_moves 19 = .ok (.if_icmp .le 9, 3) := by decide +kernel
theorem dX8_moves_22 : decode cX8_moves 22 = .ok (.iload_n 1, 1) := by decide +kernel
theorem dX8_moves_23 : decode cX8_moves 23 = .ok (.iload_n 3, 1) := by decide +kernel
theorem dX8_moves_24 : decode cX8_moves 24 = .ok (.isub, 1) := by decide +kernel
theorem dX8_moves_25 : decode cX8_moves 25 = .ok (.goto 6, 3) := by decide +kernel
theorem dX8_moves_28 : decode cX8_moves 28 = .ok (.iload_n 3, 1) := by decide +kernel
theorem dX8_moves_29 : decode cX8_moves 29 = .ok (.iload_n 1, 1) := by decide +kernel
theorem dX8_moves_30 : decode cX8_moves 30 = .ok (.isub, 1) := by decide +kernel
theorem dX8_moves_31 : decode cX8_moves 31 = .ok (.istore 4, 2) := by decide +kernel
theorem dX8_moves_33 : decode cX8_moves 33 = .ok (.iload 4, 2) := by decide +kernel
theorem dX8_moves_35 : decode cX8_moves 35 = .ok (.iload_n 2, 1) := by decide +kernel
theorem dX8_moves_36 : decode cX8_moves 36 = .ok (.if_icmp .ge 8, 3) := by decide +kernel
theorem dX8_moves_39 : decode cX8_moves 39 = .ok (.iload 4, 2) := by decide +kernel
theorem dX8_moves_41 : decode cX8_moves 41 = .ok (.goto 4, 3) := by decide +kernel
theorem dX8_moves_44 : decode cX8_moves 44 = .ok (.iload_n 2, 1) := by decide +kernel
theorem dX8_moves_45 : decode cX8_moves 45 = .ok (.istore 5, 2) := by decide +kernel
theorem dX8_moves_47 : decode cX8_moves 47 = .ok (.aload_n 0, 1) := by decide +kernel
theorem dX8_moves_48 : decode cX8_moves 48 = .ok (.iload_n 3, 1) := by decide +kernel
theorem dX8_moves_49 : decode cX8_moves 49 = .ok (.iload_n 1, 1) := by decide +kernel
theorem dX8_moves_50 : decode cX8_moves 50 = .ok (.iload_n 3, 1) := by decide +kernel
theorem dX8_moves_51 : decode cX8_moves 51 = .ok (.if_icmp .le 10, 3) := by decide +kernel
theorem dX8_moves_54 : decode cX8_moves 54 = .ok (.iload_n 3, 1) := by decide +kernel
theorem dX8_moves_55 : decode cX8_moves 55 = .ok (.iload 5, 2) := by decide +kernel
theorem dX8_moves_57 : decode cX8_moves 57 = .ok (.iadd, 1) := by decide +kernel
theorem dX8_moves_58 : decode cX8_moves 58 = .ok (.goto 7, 3) := by decide +kernel
theorem dX8_moves_61 : decode cX8_moves 61 = .ok (.iload_n 3, 1) := by decide +kernel
theorem dX8_moves_62 : decode cX8_moves 62 = .ok (.iload 5, 2) := by decide +kernel
theorem dX8_moves_64 : decode cX8_moves 64 = .ok (.isub, 1) := by decide +kernel
theorem dX8_moves_65 : decode cX8_moves 65 = .ok (.invokevirtual 107, 3) := by decide +kernel
theorem dX8_moves_68 : decode cX8_moves 68 = .ok (.goto (-68), 3) := by decide +kernel
theorem dX8_moves_71 : decode cX8_moves 71 = .ok (.return_, 1) := by decide +kernel
theorem dX8_isMove_0 : decode cX8_isMove 0 = .ok (.iload_n 0, 1) := by decide +kernel
theorem dX8_isMove_1 : decode cX8_isMove 1 = .ok (.i2l, 1) := by decide +kernel
theorem dX8_isMove_2 : decode cX8_isMove 2 = .ok (.lconst 0, 1) := by decide +kernel
theorem dX8_isMove_3 : decode cX8_isMove 3 = .ok (.ldc2_w 110, 3) := by decide +kernel
theorem dX8_isMove_6 : decode cX8_isMove 6 = .ok (.invokestatic 57, 3) := by decide +kernel
theorem dX8_isMove_9 : decode cX8_isMove 9 = .ok (.ifCond .eq 19, 3) := by decide +kernel
theorem dX8_isMove_12 : decode cX8_isMove 12 = .ok (.iload_n 1, 1) := by decide +kernel
theorem dX8_isMove_13 : decode cX8_isMove 13 = .ok (.i2l, 1) := by decide +kernel
theorem dX8_isMove_14 : decode cX8_isMove 14 = .ok (.lconst 1, 1) := by decide +kernel
theorem dX8_isMove_15 : decode cX8_isMove 15 = .ok (.ldc2_w 112, 3) := by decide +kernel
theorem dX8_isMove_18 : decode cX8_isMove 18 = .ok (.invokestatic 57, 3) := by decide +kernel
theorem dX8_isMove_21 : decode cX8_isMove 21 = .ok (.ifCond .eq 7, 3) := by decide +kernel
theorem dX8_isMove_24 : decode cX8_isMove 24 = .ok (.iconst 1, 1) := by decide +kernel
theorem dX8_isMove_25 : decode cX8_isMove 25 = .ok (.goto 4, 3) := by decide +kernel
theorem dX8_isMove_28 : decode cX8_isMove 28 = .ok (.iconst 0, 1) := by decide +kernel
theorem dX8_isMove_29 : decode cX8_isMove 29 = .ok (.ireturn, 1) := by decide +kernel
theorem dX8_expects_0 : decode cX8_expects 0 = .ok (.iload_n 2, 1) := by decide +kernel
theorem dX8_expects_1 : decode cX8_expects 1 = .ok (.iload_n 1, 1) := by decide +kernel
theorem dX8_expects_2 : decode cX8_expects 2 = .ok (.imul, 1) := by decide +kernel
theorem dX8_expects_3 : decode cX8_expects 3 = .ok (.aload_n 0, 1) := by decide +kernel
theorem dX8_expects_4 : decode cX8_expects 4 = .ok (.getfield 44, 3) := by decide +kernel
theorem dX8_expects_7 : decode cX8_expects 7 = .ok (.idiv, 1) := by decide +kernel
theorem dX8_expects_8 : decode cX8_expects 8 = .ok (.ireturn, 1) := by decide +kernel
theorem dX8_slipOf_0 : decode cX8_slipOf 0 = .ok (.aload_n 1, 1) := by decide +kernel
theorem dX8_slipOf_1 : decode cX8_slipOf 1 = .ok (.iconst 1, 1) := by decide +kernel
theorem dX8_slipOf_2 : decode cX8_slipOf 2 = .ok (.iaload, 1) := by decide +kernel
theorem dX8_slipOf_3 : decode cX8_slipOf 3 = .ok (.aload_n 0, 1) := by decide +kernel
theorem dX8_slipOf_4 : decode cX8_slipOf 4 = .ok (.aload_n 1, 1) := by decide +kernel
theorem dX8_slipOf_5 : decode cX8_slipOf 5 = .ok (.iconst 0, 1) := by decide +kernel
theorem dX8_slipOf_6 : decode cX8_slipOf 6 = .ok (.iaload, 1) := by decide +kernel
theorem dX8_slipOf_7 : decode cX8_slipOf 7 = .ok (.aload_n 1, 1) := by decide +kernel
theorem dX8_slipOf_8 : decode cX8_slipOf 8 = .ok (.iconst 5, 1) := by decide +kernel
theorem dX8_slipOf_9 : decode cX8_slipOf 9 = .ok (.iaload, 1) := by decide +kernel
theorem dX8_slipOf_10 : decode cX8_slipOf 10 = .ok (.invokevirtual 114, 3) := by decide +kernel
theorem dX8_slipOf_13 : decode cX8_slipOf 13 = .ok (.isub, 1) := by decide +kernel
theorem dX8_slipOf_14 : decode cX8_slipOf 14 = .ok (.i2l, 1) := by decide +kernel
theorem dX8_slipOf_15 : decode cX8_slipOf 15 = .ok (.lreturn, 1) := by decide +kernel
theorem dX8_moveTo_0 : decode cX8_moveTo 0 = .ok (.iload_n 1, 1) := by decide +kernel
theorem dX8_moveTo_1 : decode cX8_moveTo 1 = .ok (.iload_n 2, 1) := by decide +kernel
theorem dX8_moveTo_2 : decode cX8_moveTo 2 = .ok (.invokestatic 118, 3) := by decide +kernel
theorem dX8_moveTo_5 : decode cX8_moveTo 5 = .ok (.ifCond .ne 5, 3) := by decide +kernel
theorem dX8_moveTo_8 : decode cX8_moveTo 8 = .ok (.iconst (-1), 1) := by decide +kernel
theorem dX8_moveTo_9 : decode cX8_moveTo 9 = .ok (.ireturn, 1) := by decide +kernel
theorem dX8_moveTo_10 : decode cX8_moveTo 10 = .ok (.aload_n 0, 1) := by decide +kernel
theorem dX8_moveTo_11 : decode cX8_moveTo 11 = .ok (.invokevirtual 122, 3) := by decide +kernel
theorem dX8_moveTo_14 : decode cX8_moveTo 14 = .ok (.aload_n 0, 1) := by decide +kernel
theorem dX8_moveTo_15 : decode cX8_moveTo 15 = .ok (.invokevirtual 125, 3) := by decide +kernel
theorem dX8_moveTo_18 : decode cX8_moveTo 18 = .ok (.aload_n 0, 1) := by decide +kernel
theorem dX8_moveTo_19 : decode cX8_moveTo 19 = .ok (.iload_n 1, 1) := by decide +kernel
theorem dX8_moveTo_20 : decode cX8_moveTo 20 = .ok (.iload_n 2, 1) := by decide +kernel
theorem dX8_moveTo_21 : decode cX8_moveTo 21 = .ok (.invokevirtual 128, 3) := by decide +kernel
theorem dX8_moveTo_24 : decode cX8_moveTo 24 = .ok (.aload_n 0, 1) := by decide +kernel
theorem dX8_moveTo_25 : decode cX8_moveTo 25 = .ok (.getfield 25, 3) := by decide +kernel
theorem dX8_moveTo_28 : decode cX8_moveTo 28 = .ok (.iconst 3, 1) := by decide +kernel
theorem dX8_moveTo_29 : decode cX8_moveTo 29 = .ok (.iaload, 1) := by decide +kernel
theorem dX8_moveTo_30 : decode cX8_moveTo 30 = .ok (.aload_n 0, 1) := by decide +kernel
theorem dX8_moveTo_31 : decode cX8_moveTo 31 = .ok (.getfield 22, 3) := by decide +kernel
theorem dX8_moveTo_34 : decode cX8_moveTo 34 = .ok (.iconst 3, 1) := by decide +kernel
theorem dX8_moveTo_35 : decode cX8_moveTo 35 = .ok (.iaload, 1) := by decide +kernel
theorem dX8_moveTo_36 : decode cX8_moveTo 36 = .ok (.isub, 1) := by decide +kernel
theorem dX8_moveTo_37 : decode cX8_moveTo 37 = .ok (.istore_n 3, 1) := by decide +kernel
theorem dX8_moveTo_38 : decode cX8_moveTo 38 = .ok (.aload_n 0, 1) := by decide +kernel
theorem dX8_moveTo_39 : decode cX8_moveTo 39 = .ok (.getfield 22, 3) := by decide +kernel
theorem dX8_moveTo_42 : decode cX8_moveTo 42 = .ok (.astore 4, 2) := by decide +kernel
theorem dX8_moveTo_44 : decode cX8_moveTo 44 = .ok (.aload_n 0, 1) := by decide +kernel
theorem dX8_moveTo_45 : decode cX8_moveTo 45 = .ok (.aload_n 0, 1) := by decide +kernel
theorem dX8_moveTo_46 : decode cX8_moveTo 46 = .ok (.getfield 25, 3) := by decide +kernel
theorem dX8_moveTo_49 : decode cX8_moveTo 49 = .ok (.putfield 22, 3) := by decide +kernel
theorem dX8_moveTo_52 : decode cX8_moveTo 52 = .ok (.aload_n 0, 1) := by decide +kernel
theorem dX8_moveTo_53 : decode cX8_moveTo 53 = .ok (.aload 4, 2) := by decide +kernel
theorem dX8_moveTo_55 : decode cX8_moveTo 55 = .ok (.putfield 25, 3) := by decide +kernel
theorem dX8_moveTo_58 : decode cX8_moveTo 58 = .ok (.iload_n 3, 1) := by decide +kernel
theorem dX8_moveTo_59 : decode cX8_moveTo 59 = .ok (.ireturn, 1) := by decide +kernel
theorem dX8_predictSlip_0 : decode cX8_predictSlip 0 = .ok (.iload_n 1, 1) := by decide +kernel
theorem dX8_predictSlip_1 : decode cX8_predictSlip 1 = .ok (.iload_n 2, 1) := by decide +kernel
theorem dX8_predictSlip_2 : decode cX8_predictSlip 2 = .ok (.invokestatic 118, 3) := by decide +kernel
theorem dX8_predictSlip_5 : decode cX8_predictSlip 5 = .ok (.ifCond .ne 7, 3) := by decide +kernel
theorem dX8_predictSlip_8 : decode cX8_predictSlip 8 = .ok (.ldc2_w 131, 3) := by decide +kernel
theorem dX8_predictSlip_11 : decode cX8_predictSlip 11 = .ok (.lreturn, 1) := by decide +kernel
theorem dX8_predictSlip_12 : decode cX8_predictSlip 12 = .ok (.aload_n 0, 1) := by decide +kernel
theorem dX8_predictSlip_13 : decode cX8_predictSlip 13 = .ok (.invokevirtual 125, 3) := by decide +kernel
theorem dX8_predictSlip_16 : decode cX8_predictSlip 16 = .ok (.aload_n 0, 1) := by decide +kernel
theorem dX8_predictSlip_17 : decode cX8_predictSlip 17 = .ok (.iload_n 1, 1) := by decide +kernel
theorem dX8_predictSlip_18 : decode cX8_predictSlip 18 = .ok (.iload_n 2, 1) := by decide +kernel
theorem dX8_predictSlip_19 : decode cX8_predictSlip 19 = .ok (.invokevirtual 128, 3) := by decide +kernel
theorem dX8_predictSlip_22 : decode cX8_predictSlip 22 = .ok (.aload_n 0, 1) := by decide +kernel
theorem dX8_predictSlip_23 : decode cX8_predictSlip 23 = .ok (.aload_n 0, 1) := by decide +kernel
theorem dX8_predictSlip_24 : decode cX8_predictSlip 24 = .ok (.getfield 25, 3) := by decide +kernel
theorem dX8_predictSlip_27 : decode cX8_predictSlip 27 = .ok (.invokevirtual 133, 3) := by decide +kernel
theorem dX8_predictSlip_30 : decode cX8_predictSlip 30 = .ok (.lreturn, 1) := by decide +kernel
theorem dX8_fastestSafeSpeed_0 : decode cX8_fastestSafeSpeed 0 = .ok (.iload_n 1, 1) := by decide +kernel
theorem dX8_fastestSafeSpeed_1 : decode cX8_fastestSafeSpeed 1 = .ok (.i2l, 1) := by decide +kernel
theorem dX8_fastestSafeSpeed_2 : decode cX8_fastestSafeSpeed 2 = .ok (.lconst 0, 1) := by decide +kernel
theorem dX8_fastestSafeSpeed_3 : decode cX8_fastestSafeSpeed 3 = .ok (.ldc2_w 110, 3) := by decide +kernel
theorem dX8_fastestSafeSpeed_6 : decode cX8_fastestSafeSpeed 6 = .ok (.invokestatic 57, 3) := by decide +kernel
theorem dX8_fastestSafeSpeed_9 : decode cX8_fastestSafeSpeed 9 = .ok (.ifCond .ne 5, 3) := by decide +kernel
theorem dX8_fastestSafeSpeed_12 : decode cX8_fastestSafeSpeed 12 = .ok (.iconst (-1), 1) := by decide +kernel
theorem dX8_fastestSafeSpeed_13 : decode cX8_fastestSafeSpeed 13 = .ok (.ireturn, 1) := by decide +kernel
theorem dX8_fastestSafeSpeed_14 : decode cX8_fastestSafeSpeed 14 = .ok (.bipush 99, 2) := by decide +kernel
theorem dX8_fastestSafeSpeed_16 : decode cX8_fastestSafeSpeed 16 = .ok (.istore_n 2, 1) := by decide +kernel
theorem dX8_fastestSafeSpeed_17 : decode cX8_fastestSafeSpeed 17 = .ok (.iload_n 2, 1) := by decide +kernel
theorem dX8_fastestSafeSpeed_18 : decode cX8_fastestSafeSpeed 18 = .ok (.ifCond .le 56, 3) := by decide +kernel
theorem dX8_fastestSafeSpeed_21 : decode cX8_fastestSafeSpeed 21 = .ok (.aload_n 0, 1) := by decide +kernel
theorem dX8_fastestSafeSpeed_22 : decode cX8_fastestSafeSpeed 22 = .ok (.invokevirtual 125, 3) := by decide +kernel
theorem dX8_fastestSafeSpeed_25 : decode cX8_fastestSafeSpeed 25 = .ok (.aload_n 0, 1) := by decide +kernel
theorem dX8_fastestSafeSpeed_26 : decode cX8_fastestSafeSpeed 26 = .ok (.iload_n 1, 1) := by decide +kernel
theorem dX8_fastestSafeSpeed_27 : decode cX8_fastestSafeSpeed 27 = .ok (.iload_n 2, 1) := by decide +kernel
theorem dX8_fastestSafeSpeed_28 : decode cX8_fastestSafeSpeed 28 = .ok (.invokevirtual 128, 3) := by decide +kernel
theorem dX8_fastestSafeSpeed_31 : decode cX8_fastestSafeSpeed 31 = .ok (.aload_n 0, 1) := by decide +kernel
theorem dX8_fastestSafeSpeed_32 : decode cX8_fastestSafeSpeed 32 = .ok (.getfield 25, 3) := by decide +kernel
theorem dX8_fastestSafeSpeed_35 : decode cX8_fastestSafeSpeed 35 = .ok (.iconst 3, 1) := by decide +kernel
theorem dX8_fastestSafeSpeed_36 : decode cX8_fastestSafeSpeed 36 = .ok (.iaload, 1) := by decide +kernel
theorem dX8_fastestSafeSpeed_37 : decode cX8_fastestSafeSpeed 37 = .ok (.aload_n 0, 1) := by decide +kernel
theorem dX8_fastestSafeSpeed_38 : decode cX8_fastestSafeSpeed 38 = .ok (.getfield 22, 3) := by decide +kernel
theorem dX8_fastestSafeSpeed_41 : decode cX8_fastestSafeSpeed 41 = .ok (.iconst 3, 1) := by decide +kernel
theorem dX8_fastestSafeSpeed_42 : decode cX8_fastestSafeSpeed 42 = .ok (.iaload, 1) := by decide +kernel
theorem dX8_fastestSafeSpeed_43 : decode cX8_fastestSafeSpeed 43 = .ok (.if_icmp .ne 25, 3) := by decide +kernel
theorem dX8_fastestSafeSpeed_46 : decode cX8_fastestSafeSpeed 46 = .ok (.aload_n 0, 1) := by decide +kernel
theorem dX8_fastestSafeSpeed_47 : decode cX8_fastestSafeSpeed 47 = .ok (.aload_n 0, 1) := by decide +kernel
theorem dX8_fastestSafeSpeed_48 : decode cX8_fastestSafeSpeed 48 = .ok (.getfield 25, 3) := by decide +kernel
theorem dX8_fastestSafeSpeed_51 : decode cX8_fastestSafeSpeed 51 = .ok (.invokevirtual 133, 3) := by decide +kernel
theorem dX8_fastestSafeSpeed_54 : decode cX8_fastestSafeSpeed 54 = .ok (.aload_n 0, 1) := by decide +kernel
theorem dX8_fastestSafeSpeed_55 : decode cX8_fastestSafeSpeed 55 = .ok (.aload_n 0, 1) := by decide +kernel
theorem dX8_fastestSafeSpeed_56 : decode cX8_fastestSafeSpeed 56 = .ok (.getfield 22, 3) := by decide +kernel
theorem dX8_fastestSafeSpeed_59 : decode cX8_fastestSafeSpeed 59 = .ok (.invokevirtual 133, 3) := by decide +kernel
theorem dX8_fastestSafeSpeed_62 : decode cX8_fastestSafeSpeed 62 = .ok (.lcmp, 1) := by decide +kernel
theorem dX8_fastestSafeSpeed_63 : decode cX8_fastestSafeSpeed 63 = .ok (.ifCond .ne 5, 3) := by decide +kernel
theorem dX8_fastestSafeSpeed_66 : decode cX8_fastestSafeSpeed 66 = .ok (.iload_n 2, 1) := by decide +kernel
theorem dX8_fastestSafeSpeed_67 : decode cX8_fastestSafeSpeed 67 = .ok (.ireturn, 1) := by decide +kernel
theorem dX8_fastestSafeSpeed_68 : decode cX8_fastestSafeSpeed 68 = .ok (.iinc 2 (-1), 3) := by decide +kernel
theorem dX8_fastestSafeSpeed_71 : decode cX8_fastestSafeSpeed 71 = .ok (.goto (-54), 3) := by decide +kernel
theorem dX8_fastestSafeSpeed_74 : decode cX8_fastestSafeSpeed 74 = .ok (.bipush (-4), 2) := by decide +kernel
theorem dX8_fastestSafeSpeed_76 : decode cX8_fastestSafeSpeed 76 = .ok (.ireturn, 1) := by decide +kernel
theorem dX8_setMode_0 : decode cX8_setMode 0 = .ok (.iload_n 1, 1) := by decide +kernel
theorem dX8_setMode_1 : decode cX8_setMode 1 = .ok (.iconst 1, 1) := by decide +kernel
theorem dX8_setMode_2 : decode cX8_setMode 2 = .ok (.if_icmp .eq 15, 3) := by decide +kernel
theorem dX8_setMode_5 : decode cX8_setMode 5 = .ok (.iload_n 1, 1) := by decide +kernel
theorem dX8_setMode_6 : decode cX8_setMode 6 = .ok (.iconst 2, 1) := by decide +kernel
theorem dX8_setMode_7 : decode cX8_setMode 7 = .ok (.if_icmp .eq 10, 3) := by decide +kernel
theorem dX8_setMode_10 : decode cX8_setMode 10 = .ok (.iload_n 1, 1) := by decide +kernel
theorem dX8_setMode_11 : decode cX8_setMode 11 = .ok (.iconst 4, 1) := by decide +kernel
theorem dX8_setMode_12 : decode cX8_setMode 12 = .ok (.if_icmp .eq 5, 3) := by decide +kernel
theorem dX8_setMode_15 : decode cX8_setMode 15 = .ok (.iconst (-1), 1) := by decide +kernel
theorem dX8_setMode_16 : decode cX8_setMode 16 = .ok (.ireturn, 1) := by decide +kernel
theorem dX8_setMode_17 : decode cX8_setMode 17 = .ok (.aload_n 0, 1) := by decide +kernel
theorem dX8_setMode_18 : decode cX8_setMode 18 = .ok (.invokevirtual 122, 3) := by decide +kernel
theorem dX8_setMode_21 : decode cX8_setMode 21 = .ok (.aload_n 0, 1) := by decide +kernel
theorem dX8_setMode_22 : decode cX8_setMode 22 = .ok (.getfield 22, 3) := by decide +kernel
theorem dX8_setMode_25 : decode cX8_setMode 25 = .ok (.iconst 5, 1) := by decide +kernel
theorem dX8_setMode_26 : decode cX8_setMode 26 = .ok (.iaload, 1) := by decide +kernel
theorem dX8_setMode_27 : decode cX8_setMode 27 = .ok (.istore_n 2, 1) := by decide +kernel
theorem dX8_setMode_28 : decode cX8_setMode 28 = .ok (.aload_n 0, 1) := by decide +kernel
theorem dX8_setMode_29 : decode cX8_setMode 29 = .ok (.getfield 22, 3) := by decide +kernel
theorem dX8_setMode_32 : decode cX8_setMode 32 = .ok (.iconst 5, 1) := by decide +kernel
theorem dX8_setMode_33 : decode cX8_setMode 33 = .ok (.iload_n 1, 1) := by decide +kernel
theorem dX8_setMode_34 : decode cX8_setMode 34 = .ok (.iastore, 1) := by decide +kernel
theorem dX8_setMode_35 : decode cX8_setMode 35 = .ok (.aload_n 0, 1) := by decide +kernel
theorem dX8_setMode_36 : decode cX8_setMode 36 = .ok (.getfield 22, 3) := by decide +kernel
theorem dX8_setMode_39 : decode cX8_setMode 39 = .ok (.iconst 1, 1) := by decide +kernel
theorem dX8_setMode_40 : decode cX8_setMode 40 = .ok (.aload_n 0, 1) := by decide +kernel
theorem dX8_setMode_41 : decode cX8_setMode 41 = .ok (.aload_n 0, 1) := by decide +kernel
theorem dX8_setMode_42 : decode cX8_setMode 42 = .ok (.getfield 22, 3) := by decide +kernel
theorem dX8_setMode_45 : decode cX8_setMode 45 = .ok (.iconst 0, 1) := by decide +kernel
theorem dX8_setMode_46 : decode cX8_setMode 46 = .ok (.iaload, 1) := by decide +kernel
theorem dX8_setMode_47 : decode cX8_setMode 47 = .ok (.iload_n 1, 1) := by decide +kernel
theorem dX8_setMode_48 : decode cX8_setMode 48 = .ok (.invokevirtual 114, 3) := by decide +kernel
theorem dX8_setMode_51 : decode cX8_setMode 51 = .ok (.iastore, 1) := by decide +kernel
theorem dX8_setMode_52 : decode cX8_setMode 52 = .ok (.aload_n 0, 1) := by decide +kernel
theorem dX8_setMode_53 : decode cX8_setMode 53 = .ok (.getfield 22, 3) := by decide +kernel
theorem dX8_setMode_56 : decode cX8_setMode 56 = .ok (.bipush 17, 2) := by decide +kernel
theorem dX8_setMode_58 : decode cX8_setMode 58 = .ok (.iconst 0, 1) := by decide +kernel
theorem dX8_setMode_59 : decode cX8_setMode 59 = .ok (.iastore, 1) := by decide +kernel
theorem dX8_setMode_60 : decode cX8_setMode 60 = .ok (.iload_n 2, 1) := by decide +kernel
theorem dX8_setMode_61 : decode cX8_setMode 61 = .ok (.ireturn, 1) := by decide +kernel
theorem dX8_setIndexGrating_0 : decode cX8_setIndexGrating 0 = .ok (.iload_n 1, 1) := by decide +kernel
theorem dX8_setIndexGrating_1 : decode cX8_setIndexGrating 1 = .ok (.i2l, 1) := by decide +kernel
theorem dX8_setIndexGrating_2 : decode cX8_setIndexGrating 2 = .ok (.ldc2_w 137, 3) := by decide +kernel
theorem dX8_setIndexGrating_5 : decode cX8_setIndexGrating 5 = .ok (.ldc2_w 139, 3) := by decide +kernel
theorem dX8_setIndexGrating_8 : decode cX8_setIndexGrating 8 = .ok (.invokestatic 57, 3) := by decide +kernel
theorem dX8_setIndexGrating_11 : decode cX8_setIndexGrating 11 = .ok (.ifCond .eq 15, 3) := by decide +kernel
theorem dX8_setIndexGrating_14 : decode cX8_setIndexGrating 14 = .ok (.iload_n 2, 1) := by decide +kernel
theorem dX8_setIndexGrating_15 : decode cX8_setIndexGrating 15 = .ok (.i2l, 1) := by decide +kernel
theorem dX8_setIndexGrating_16 : decode cX8_setIndexGrating 16 = .ok (.lconst 0, 1) := by decide +kernel
theorem dX8_setIndexGrating_17 : decode cX8_setIndexGrating 17 = .ok (.ldc2_w 141, 3) := by decide +kernel
theorem dX8_setIndexGrating_20 : decode cX8_setIndexGrating 20 = .ok (.invokestatic 57, 3) := by decide +kernel
theorem dX8_setIndexGrating_23 : decode cX8_setIndexGrating 23 = .ok (.ifCond .ne 5, 3) := by decide +kernel
theorem dX8_setIndexGrating_26 : decode cX8_setIndexGrating 26 = .ok (.iconst (-1), 1) := by decide +kernel
theorem dX8_setIndexGrating_27 : decode cX8_setIndexGrating 27 = .ok (.ireturn, 1) := by decide +kernel
theorem dX8_setIndexGrating_28 : decode cX8_setIndexGrating 28 = .ok (.aload_n 0, 1) := by decide +kernel
theorem dX8_setIndexGrating_29 : decode cX8_setIndexGrating 29 = .ok (.invokevirtual 122, 3) := by decide +kernel
theorem dX8_setIndexGrating_32 : decode cX8_setIndexGrating 32 = .ok (.aload_n 0, 1) := by decide +kernel
theorem dX8_setIndexGrating_33 : decode cX8_setIndexGrating 33 = .ok (.getfield 22, 3) := by decide +kernel
theorem dX8_setIndexGrating_36 : decode cX8_setIndexGrating 36 = .ok (.bipush 6, 2) := by decide +kernel
theorem dX8_setIndexGrating_38 : decode cX8_setIndexGrating 38 = .ok (.iaload, 1) := by decide +kernel
theorem dX8_setIndexGrating_39 : decode cX8_setIndexGrating 39 = .ok (.istore_n 3, 1) := by decide +kernel
theorem dX8_setIndexGrating_40 : decode cX8_setIndexGrating 40 = .ok (.aload_n 0, 1) := by decide +kernel
theorem dX8_setIndexGrating_41 : decode cX8_setIndexGrating 41 = .ok (.getfield 22, 3) := by decide +kernel
theorem dX8_setIndexGrating_44 : decode cX8_setIndexGrating 44 = .ok (.bipush 6, 2) := by decide +kernel
theorem dX8_setIndexGrating_46 : decode cX8_setIndexGrating 46 = .ok (.iload_n 1, 1) := by decide +kernel
theorem dX8_setIndexGrating_47 : decode cX8_setIndexGrating 47 = .ok (.iastore, 1) := by decide +kernel
theorem dX8_setIndexGrating_48 : decode cX8_setIndexGrating 48 = .ok (.aload_n 0, 1) := by decide +kernel
theorem dX8_setIndexGrating_49 : decode cX8_setIndexGrating 49 = .ok (.getfield 22, 3) := by decide +kernel
theorem dX8_setIndexGrating_52 : decode cX8_setIndexGrating 52 = .ok (.bipush 7, 2) := by decide +kernel
theorem dX8_setIndexGrating_54 : decode cX8_setIndexGrating 54 = .ok (.iload_n 2, 1) := by decide +kernel
theorem dX8_setIndexGrating_55 : decode cX8_setIndexGrating 55 = .ok (.iastore, 1) := by decide +kernel
theorem dX8_setIndexGrating_56 : decode cX8_setIndexGrating 56 = .ok (.iload_n 3, 1) := by decide +kernel
theorem dX8_setIndexGrating_57 : decode cX8_setIndexGrating 57 = .ok (.ireturn, 1) := by decide +kernel
theorem dX8_addDirt_0 : decode cX8_addDirt 0 = .ok (.iload_n 1, 1) := by decide +kernel
theorem dX8_addDirt_1 : decode cX8_addDirt 1 = .ok (.i2l, 1) := by decide +kernel
theorem dX8_addDirt_2 : decode cX8_addDirt 2 = .ok (.lconst 0, 1) := by decide +kernel
theorem dX8_addDirt_3 : decode cX8_addDirt 3 = .ok (.ldc2_w 110, 3) := by decide +kernel
theorem dX8_addDirt_6 : decode cX8_addDirt 6 = .ok (.invokestatic 57, 3) := by decide +kernel
theorem dX8_addDirt_9 : decode cX8_addDirt 9 = .ok (.ifCond .eq 15, 3) := by decide +kernel
theorem dX8_addDirt_12 : decode cX8_addDirt 12 = .ok (.iload_n 2, 1) := by decide +kernel
theorem dX8_addDirt_13 : decode cX8_addDirt 13 = .ok (.i2l, 1) := by decide +kernel
theorem dX8_addDirt_14 : decode cX8_addDirt 14 = .ok (.lconst 1, 1) := by decide +kernel
theorem dX8_addDirt_15 : decode cX8_addDirt 15 = .ok (.ldc2_w 112, 3) := by decide +kernel
theorem dX8_addDirt_18 : decode cX8_addDirt 18 = .ok (.invokestatic 57, 3) := by decide +kernel
theorem dX8_addDirt_21 : decode cX8_addDirt 21 = .ok (.ifCond .ne 5, 3) := by decide +kernel
theorem dX8_addDirt_24 : decode cX8_addDirt 24 = .ok (.iconst (-1), 1) := by decide +kernel
theorem dX8_addDirt_25 : decode cX8_addDirt 25 = .ok (.ireturn, 1) := by decide +kernel
theorem dX8_addDirt_26 : decode cX8_addDirt 26 = .ok (.aload_n 0, 1) := by decide +kernel
theorem dX8_addDirt_27 : decode cX8_addDirt 27 = .ok (.getfield 22, 3) := by decide +kernel
theorem dX8_addDirt_30 : decode cX8_addDirt 30 = .ok (.bipush 8, 2) := by decide +kernel
theorem dX8_addDirt_32 : decode cX8_addDirt 32 = .ok (.iaload, 1) := by decide +kernel
theorem dX8_addDirt_33 : decode cX8_addDirt 33 = .ok (.iconst 4, 1) := by decide +kernel
theorem dX8_addDirt_34 : decode cX8_addDirt 34 = .ok (.if_icmp .ne 6, 3) := by decide +kernel
theorem dX8_addDirt_37 : decode cX8_addDirt 37 = .ok (.bipush (-3), 2) := by decide +kernel
theorem dX8_addDirt_39 : decode cX8_addDirt 39 = .ok (.ireturn, 1) := by decide +kernel
theorem dX8_addDirt_40 : decode cX8_addDirt 40 = .ok (.aload_n 0, 1) := by decide +kernel
theorem dX8_addDirt_41 : decode cX8_addDirt 41 = .ok (.invokevirtual 122, 3) := by decide +kernel
theorem dX8_addDirt_44 : decode cX8_addDirt 44 = .ok (.aload_n 0, 1) := by decide +kernel
theorem dX8_addDirt_45 : decode cX8_addDirt 45 = .ok (.getfield 22, 3) := by decide +kernel
theorem dX8_addDirt_48 : decode cX8_addDirt 48 = .ok (.bipush 9, 2) := by decide +kernel
theorem dX8_addDirt_50 : decode cX8_addDirt 50 = .ok (.iconst 2, 1) := by decide +kernel
theorem dX8_addDirt_51 : decode cX8_addDirt 51 = .ok (.aload_n 0, 1) := by decide +kernel
theorem dX8_addDirt_52 : decode cX8_addDirt 52 = .ok (.getfield 22, 3) := by decide +kernel
theorem dX8_addDirt_55 : decode cX8_addDirt 55 = .ok (.bipush 8, 2) := by decide +kernel
theorem dX8_addDirt_57 : decode cX8_addDirt 57 = .ok (.iaload, 1) := by decide +kernel
theorem dX8_addDirt_58 : decode cX8_addDirt 58 = .ok (.imul, 1) := by decide +kernel
theorem dX8_addDirt_59 : decode cX8_addDirt 59 = .ok (.iadd, 1) := by decide +kernel
theorem dX8_addDirt_60 : decode cX8_addDirt 60 = .ok (.iload_n 1, 1) := by decide +kernel
theorem dX8_addDirt_61 : decode cX8_addDirt 61 = .ok (.iastore, 1) := by decide +kernel
theorem dX8_addDirt_62 : decode cX8_addDirt 62 = .ok (.aload_n 0, 1) := by decide +kernel
theorem dX8_addDirt_63 : decode cX8_addDirt 63 = .ok (.getfield 22, 3) := by decide +kernel
theorem dX8_addDirt_66 : decode cX8_addDirt 66 = .ok (.bipush 9, 2) := by decide +kernel
theorem dX8_addDirt_68 : decode cX8_addDirt 68 = .ok (.iconst 2, 1) := by decide +kernel
theorem dX8_addDirt_69 : decode cX8_addDirt 69 = .ok (.aload_n 0, 1) := by decide +kernel
theorem dX8_addDirt_70 : decode cX8_addDirt 70 = .ok (.getfield 22, 3) := by decide +kernel
theorem dX8_addDirt_73 : decode cX8_addDirt 73 = .ok (.bipush 8, 2) := by decide +kernel
theorem dX8_addDirt_75 : decode cX8_addDirt 75 = .ok (.iaload, 1) := by decide +kernel
theorem dX8_addDirt_76 : decode cX8_addDirt 76 = .ok (.imul, 1) := by decide +kernel
theorem dX8_addDirt_77 : decode cX8_addDirt 77 = .ok (.iadd, 1) := by decide +kernel
theorem dX8_addDirt_78 : decode cX8_addDirt 78 = .ok (.iconst 1, 1) := by decide +kernel
theorem dX8_addDirt_79 : decode cX8_addDirt 79 = .ok (.iadd, 1) := by decide +kernel
theorem dX8_addDirt_80 : decode cX8_addDirt 80 = .ok (.iload_n 2, 1) := by decide +kernel
theorem dX8_addDirt_81 : decode cX8_addDirt 81 = .ok (.iastore, 1) := by decide +kernel
theorem dX8_addDirt_82 : decode cX8_addDirt 82 = .ok (.aload_n 0, 1) := by decide +kernel
theorem dX8_addDirt_83 : decode cX8_addDirt 83 = .ok (.getfield 22, 3) := by decide +kernel
theorem dX8_addDirt_86 : decode cX8_addDirt 86 = .ok (.bipush 8, 2) := by decide +kernel
theorem dX8_addDirt_88 : decode cX8_addDirt 88 = .ok (.dup2, 1) := by decide +kernel
theorem dX8_addDirt_89 : decode cX8_addDirt 89 = .ok (.iaload, 1) := by decide +kernel
theorem dX8_addDirt_90 : decode cX8_addDirt 90 = .ok (.iconst 1, 1) := by decide +kernel
theorem dX8_addDirt_91 : decode cX8_addDirt 91 = .ok (.iadd, 1) := by decide +kernel
theorem dX8_addDirt_92 : decode cX8_addDirt 92 = .ok (.iastore, 1) := by decide +kernel
theorem dX8_addDirt_93 : decode cX8_addDirt 93 = .ok (.aload_n 0, 1) := by decide +kernel
theorem dX8_addDirt_94 : decode cX8_addDirt 94 = .ok (.getfield 22, 3) := by decide +kernel
theorem dX8_addDirt_97 : decode cX8_addDirt 97 = .ok (.bipush 8, 2) := by decide +kernel
theorem dX8_addDirt_99 : decode cX8_addDirt 99 = .ok (.iaload, 1) := by decide +kernel
theorem dX8_addDirt_100 : decode cX8_addDirt 100 = .ok (.ireturn, 1) := by decide +kernel
theorem dX8_removeDirt_0 : decode cX8_removeDirt 0 = .ok (.iload_n 1, 1) := by decide +kernel
theorem dX8_removeDirt_1 : decode cX8_removeDirt 1 = .ok (.i2l, 1) := by decide +kernel
theorem dX8_removeDirt_2 : decode cX8_removeDirt 2 = .ok (.lconst 0, 1) := by decide +kernel
theorem dX8_removeDirt_3 : decode cX8_removeDirt 3 = .ok (.aload_n 0, 1) := by decide +kernel
theorem dX8_removeDirt_4 : decode cX8_removeDirt 4 = .ok (.getfield 22, 3) := by decide +kernel
theorem dX8_removeDirt_7 : decode cX8_removeDirt 7 = .ok (.bipush 8, 2) := by decide +kernel
theorem dX8_removeDirt_9 : decode cX8_removeDirt 9 = .ok (.iaload, 1) := by decide +kernel
theorem dX8_removeDirt_10 : decode cX8_removeDirt 10 = .ok (.iconst 1, 1) := by decide +kernel
theorem dX8_removeDirt_11 : decode cX8_removeDirt 11 = .ok (.isub, 1) := by decide +kernel
theorem dX8_removeDirt_12 : decode cX8_removeDirt 12 = .ok (.i2l, 1) := by decide +kernel
theorem dX8_removeDirt_13 : decode cX8_removeDirt 13 = .ok (.invokestatic 57, 3) := by decide +kernel
theorem dX8_removeDirt_16 : decode cX8_removeDirt 16 = .ok (.ifCond .ne 5, 3) := by decide +kernel
theorem dX8_removeDirt_19 : decode cX8_removeDirt 19 = .ok (.iconst (-1), 1) := by decide +kernel
theorem dX8_removeDirt_20 : decode cX8_removeDirt 20 = .ok (.ireturn, 1) := by decide +kernel
theorem dX8_removeDirt_21 : decode cX8_removeDirt 21 = .ok (.aload_n 0, 1) := by decide +kernel
theorem dX8_removeDirt_22 : decode cX8_removeDirt 22 = .ok (.invokevirtual 122, 3) := by decide +kernel
theorem dX8_removeDirt_25 : decode cX8_removeDirt 25 = .ok (.aload_n 0, 1) := by decide +kernel
theorem dX8_removeDirt_26 : decode cX8_removeDirt 26 = .ok (.getfield 22, 3) := by decide +kernel
theorem dX8_removeDirt_29 : decode cX8_removeDirt 29 = .ok (.bipush 9, 2) := by decide +kernel
theorem dX8_removeDirt_31 : decode cX8_removeDirt 31 = .ok (.iconst 2, 1) := by decide +kernel
theorem dX8_removeDirt_32 : decode cX8_removeDirt 32 = .ok (.iload_n 1, 1) := by decide +kernel
theorem dX8_removeDirt_33 : decode cX8_removeDirt 33 = .ok (.imul, 1) := by decide +kernel
theorem dX8_removeDirt_34 : decode cX8_removeDirt 34 = .ok (.iadd, 1) := by decide +kernel
theorem dX8_removeDirt_35 : decode cX8_removeDirt 35 = .ok (.iconst 1, 1) := by decide +kernel
theorem dX8_removeDirt_36 : decode cX8_removeDirt 36 = .ok (.iadd, 1) := by decide +kernel
theorem dX8_removeDirt_37 : decode cX8_removeDirt 37 = .ok (.iaload, 1) := by decide +kernel
theorem dX8_removeDirt_38 : decode cX8_removeDirt 38 = .ok (.istore_n 2, 1) := by decide +kernel
theorem dX8_removeDirt_39 : decode cX8_removeDirt 39 = .ok (.iconst 2, 1) := by decide +kernel
theorem dX8_removeDirt_40 : decode cX8_removeDirt 40 = .ok (.iload_n 1, 1) := by decide +kernel
theorem dX8_removeDirt_41 : decode cX8_removeDirt 41 = .ok (.imul, 1) := by decide +kernel
theorem dX8_removeDirt_42 : decode cX8_removeDirt 42 = .ok (.istore_n 3, 1) := by decide +kernel
theorem dX8_removeDirt_43 : decode cX8_removeDirt 43 = .ok (.iload_n 3, 1) := by decide +kernel
theorem dX8_removeDirt_44 : decode cX8_removeDirt 44 = .ok (.bipush 6, 2) := by decide +kernel
theorem dX8_removeDirt_46 : decode cX8_removeDirt 46 = .ok (.if_icmp .ge 29, 3) := by decide +kernel
theorem dX8_removeDirt_49 : decode cX8_removeDirt 49 = .ok (.aload_n 0, 1) := by decide +kernel
theorem dX8_removeDirt_50 : decode cX8_removeDirt 50 = .ok (.getfield 22, 3) := by decide +kernel
theorem dX8_removeDirt_53 : decode cX8_removeDirt 53 = .ok (.bipush 9, 2) := by decide +kernel
theorem dX8_removeDirt_55 : decode cX8_removeDirt 55 = .ok (.iload_n 3, 1) := by decide +kernel
theorem dX8_removeDirt_56 : decode cX8_removeDirt 56 = .ok (.iadd, 1) := by decide +kernel
theorem dX8_removeDirt_57 : decode cX8_removeDirt 57 = .ok (.aload_n 0, 1) := by decide +kernel
theorem dX8_removeDirt_58 : decode cX8_removeDirt 58 = .ok (.getfield 22, 3) := by decide +kernel
theorem dX8_removeDirt_61 : decode cX8_removeDirt 61 = .ok (.bipush 9, 2) := by decide +kernel
theorem dX8_removeDirt_63 : decode cX8_removeDirt 63 = .ok (.iload_n 3, 1) := by decide +kernel
theorem dX8_removeDirt_64 : decode cX8_removeDirt 64 = .ok (.iadd, 1) := by decide +kernel
theorem dX8_removeDirt_65 : decode cX8_removeDirt 65 = .ok (.iconst 2, 1) := by decide +kernel
theorem dX8_removeDirt_66 : decode cX8_removeDirt 66 = .ok (.iadd, 1) := by decide +kernel
theorem dX8_removeDirt_67 : decode cX8_removeDirt 67 = .ok (.iaload, 1) := by decide +kernel
theorem dX8_removeDirt_68 : decode cX8_removeDirt 68 = .ok (.iastore, 1) := by decide +kernel
theorem dX8_removeDirt_69 : decode cX8_removeDirt 69 = .ok (.iinc 3 1, 3) := by decide +kernel
theorem dX8_removeDirt_72 : decode cX8_removeDirt 72 = .ok (.goto (-29), 3) := by decide +kernel
theorem dX8_removeDirt_75 : decode cX8_removeDirt 75 = .ok (.aload_n 0, 1) := by decide +kernel
theorem dX8_removeDirt_76 : decode cX8_removeDirt 76 = .ok (.getfield 22, 3) := by decide +kernel
theorem dX8_removeDirt_79 : decode cX8_removeDirt 79 = .ok (.bipush 8, 2) := by decide +kernel
theorem dX8_removeDirt_81 : decode cX8_removeDirt 81 = .ok (.dup2, 1) := by decide +kernel
theorem dX8_removeDirt_82 : decode cX8_removeDirt 82 = .ok (.iaload, 1) := by decide +kernel
theorem dX8_removeDirt_83 : decode cX8_removeDirt 83 = .ok (.iconst 1, 1) := by decide +kernel
theorem dX8_removeDirt_84 : decode cX8_removeDirt 84 = .ok (.isub, 1) := by decide +kernel
theorem dX8_removeDirt_85 : decode cX8_removeDirt 85 = .ok (.iastore, 1) := by decide +kernel
theorem dX8_removeDirt_86 : decode cX8_removeDirt 86 = .ok (.iload_n 2, 1) := by decide +kernel
theorem dX8_removeDirt_87 : decode cX8_removeDirt 87 = .ok (.ireturn, 1) := by decide +kernel
theorem dX8_zeroSlip_0 : decode cX8_zeroSlip 0 = .ok (.aload_n 0, 1) := by decide +kernel
theorem dX8_zeroSlip_1 : decode cX8_zeroSlip 1 = .ok (.invokevirtual 122, 3) := by decide +kernel
theorem dX8_zeroSlip_4 : decode cX8_zeroSlip 4 = .ok (.aload_n 0, 1) := by decide +kernel
theorem dX8_zeroSlip_5 : decode cX8_zeroSlip 5 = .ok (.aload_n 0, 1) := by decide +kernel
theorem dX8_zeroSlip_6 : decode cX8_zeroSlip 6 = .ok (.getfield 22, 3) := by decide +kernel
theorem dX8_zeroSlip_9 : decode cX8_zeroSlip 9 = .ok (.iconst 0, 1) := by decide +kernel
theorem dX8_zeroSlip_10 : decode cX8_zeroSlip 10 = .ok (.iaload, 1) := by decide +kernel
theorem dX8_zeroSlip_11 : decode cX8_zeroSlip 11 = .ok (.aload_n 0, 1) := by decide +kernel
theorem dX8_zeroSlip_12 : decode cX8_zeroSlip 12 = .ok (.getfield 22, 3) := by decide +kernel
theorem dX8_zeroSlip_15 : decode cX8_zeroSlip 15 = .ok (.iconst 5, 1) := by decide +kernel
theorem dX8_zeroSlip_16 : decode cX8_zeroSlip 16 = .ok (.iaload, 1) := by decide +kernel
theorem dX8_zeroSlip_17 : decode cX8_zeroSlip 17 = .ok (.invokevirtual 114, 3) := by decide +kernel
theorem dX8_zeroSlip_20 : decode cX8_zeroSlip 20 = .ok (.istore_n 1, 1) := by decide +kernel
theorem dX8_zeroSlip_21 : decode cX8_zeroSlip 21 = .ok (.aload_n 0, 1) := by decide +kernel
theorem dX8_zeroSlip_22 : decode cX8_zeroSlip 22 = .ok (.getfield 22, 3) := by decide +kernel
theorem dX8_zeroSlip_25 : decode cX8_zeroSlip 25 = .ok (.iconst 1, 1) := by decide +kernel
theorem dX8_zeroSlip_26 : decode cX8_zeroSlip 26 = .ok (.iaload, 1) := by decide +kernel
theorem dX8_zeroSlip_27 : decode cX8_zeroSlip 27 = .ok (.iload_n 1, 1) := by decide +kernel
theorem dX8_zeroSlip_28 : decode cX8_zeroSlip 28 = .ok (.if_icmp .ne 7, 3) := by decide +kernel
theorem dX8_zeroSlip_31 : decode cX8_zeroSlip 31 = .ok (.iconst 0, 1) := by decide +kernel
theorem dX8_zeroSlip_32 : decode cX8_zeroSlip 32 = .ok (.goto 4, 3) := by decide +kernel
theorem dX8_zeroSlip_35 : decode cX8_zeroSlip 35 = .ok (.iconst 1, 1) := by decide +kernel
theorem dX8_zeroSlip_36 : decode cX8_zeroSlip 36 = .ok (.istore_n 2, 1) := by decide +kernel
theorem dX8_zeroSlip_37 : decode cX8_zeroSlip 37 = .ok (.aload_n 0, 1) := by decide +kernel
theorem dX8_zeroSlip_38 : decode cX8_zeroSlip 38 = .ok (.getfield 22, 3) := by decide +kernel
theorem dX8_zeroSlip_41 : decode cX8_zeroSlip 41 = .ok (.iconst 1, 1) := by decide +kernel
theorem dX8_zeroSlip_42 : decode cX8_zeroSlip 42 = .ok (.iload_n 1, 1) := by decide +kernel
theorem dX8_zeroSlip_43 : decode cX8_zeroSlip 43 = .ok (.iastore, 1) := by decide +kernel
theorem dX8_zeroSlip_44 : decode cX8_zeroSlip 44 = .ok (.iload_n 2, 1) := by decide +kernel
theorem dX8_zeroSlip_45 : decode cX8_zeroSlip 45 = .ok (.ireturn, 1) := by decide +kernel
theorem dX8_markEvent_0 : decode cX8_markEvent 0 = .ok (.iload_n 1, 1) := by decide +kernel
theorem dX8_markEvent_1 : decode cX8_markEvent 1 = .ok (.istore_n 2, 1) := by decide +kernel
theorem dX8_markEvent_2 : decode cX8_markEvent 2 = .ok (.aload_n 0, 1) := by decide +kernel
theorem dX8_markEvent_3 : decode cX8_markEvent 3 = .ok (.getfield 22, 3) := by decide +kernel
theorem dX8_markEvent_6 : decode cX8_markEvent 6 = .ok (.bipush 17, 2) := by decide +kernel
theorem dX8_markEvent_8 : decode cX8_markEvent 8 = .ok (.iaload, 1) := by decide +kernel
theorem dX8_markEvent_9 : decode cX8_markEvent 9 = .ok (.iconst 1, 1) := by decide +kernel
theorem dX8_markEvent_10 : decode cX8_markEvent 10 = .ok (.isub, 1) := by decide +kernel
theorem dX8_markEvent_11 : decode cX8_markEvent 11 = .ok (.istore_n 3, 1) := by decide +kernel
theorem dX8_markEvent_12 : decode cX8_markEvent 12 = .ok (.iload_n 3, 1) := by decide +kernel
theorem dX8_markEvent_13 : decode cX8_markEvent 13 = .ok (.ifCond .lt 37, 3) := by decide +kernel
theorem dX8_markEvent_16 : decode cX8_markEvent 16 = .ok (.aload_n 0, 1) := by decide +kernel
theorem dX8_markEvent_17 : decode cX8_markEvent 17 = .ok (.getfield 22, 3) := by decide +kernel
theorem dX8_markEvent_20 : decode cX8_markEvent 20 = .ok (.bipush 18, 2) := by decide +kernel
theorem dX8_markEvent_22 : decode cX8_markEvent 22 = .ok (.iconst 3, 1) := by decide +kernel
theorem dX8_markEvent_23 : decode cX8_markEvent 23 = .ok (.iload_n 3, 1) := by decide +kernel
theorem dX8_markEvent_24 : decode cX8_markEvent 24 = .ok (.imul, 1) := by decide +kernel
theorem dX8_markEvent_25 : decode cX8_markEvent 25 = .ok (.iadd, 1) := by decide +kernel
theorem dX8_markEvent_26 : decode cX8_markEvent 26 = .ok (.iaload, 1) := by decide +kernel
theorem dX8_markEvent_27 : decode cX8_markEvent 27 = .ok (.ifCond .ne 17, 3) := by decide +kernel
theorem dX8_markEvent_30 : decode cX8_markEvent 30 = .ok (.iload_n 2, 1) := by decide +kernel
theorem dX8_markEvent_31 : decode cX8_markEvent 31 = .ok (.ifCond .ne 10, 3) := by decide +kernel
theorem dX8_markEvent_34 : decode cX8_markEvent 34 = .ok (.bipush 18, 2) := by decide +kernel
theorem dX8_markEvent_36 : decode cX8_markEvent 36 = .ok (.iconst 3, 1) := by decide +kernel
theorem dX8_markEvent_37 : decode cX8_markEvent 37 = .ok (.iload_n 3, 1) := by decide +kernel
theorem dX8_markEvent_38 : decode cX8_markEvent 38 = .ok (.imul, 1) := by decide +kernel
theorem dX8_markEvent_39 : decode cX8_markEvent 39 = .ok (.iadd, 1) := by decide +kernel
theorem dX8_markEvent_40 : decode cX8_markEvent 40 = .ok (.ireturn, 1) := by decide +kernel
theorem dX8_markEvent_41 : decode cX8_markEvent 41 = .ok (.iinc 2 (-1), 3) := by decide +kernel
theorem dX8_markEvent_44 : decode cX8_markEvent 44 = .ok (.iinc 3 (-1), 3) := by decide +kernel
theorem dX8_markEvent_47 : decode cX8_markEvent 47 = .ok (.goto (-35), 3) := by decide +kernel
theorem dX8_markEvent_50 : decode cX8_markEvent 50 = .ok (.bipush (-4), 2) := by decide +kernel
theorem dX8_markEvent_52 : decode cX8_markEvent 52 = .ok (.ireturn, 1) := by decide +kernel
theorem dX8_apart_0 : decode cX8_apart 0 = .ok (.iload_n 0, 1) := by decide +kernel
theorem dX8_apart_1 : decode cX8_apart 1 = .ok (.iload_n 1, 1) := by decide +kernel
theorem dX8_apart_2 : decode cX8_apart 2 = .ok (.if_icmp .le 9, 3) := by decide +kernel
theorem dX8_apart_5 : decode cX8_apart 5 = .ok (.iload_n 0, 1) := by decide +kernel
theorem dX8_apart_6 : decode cX8_apart 6 = .ok (.iload_n 1, 1) := by decide +kernel
theorem dX8_apart_7 : decode cX8_apart 7 = .ok (.isub, 1) := by decide +kernel
theorem dX8_apart_8 : decode cX8_apart 8 = .ok (.goto 6, 3) := by decide +kernel
theorem dX8_apart_11 : decode cX8_apart 11 = .ok (.iload_n 1, 1) := by decide +kernel
theorem dX8_apart_12 : decode cX8_apart 12 = .ok (.iload_n 0, 1) := by decide +kernel
theorem dX8_apart_13 : decode cX8_apart 13 = .ok (.isub, 1) := by decide +kernel
theorem dX8_apart_14 : decode cX8_apart 14 = .ok (.ireturn, 1) := by decide +kernel
theorem dX8_recover_0 : decode cX8_recover 0 = .ok (.iload_n 1, 1) := by decide +kernel
theorem dX8_recover_1 : decode cX8_recover 1 = .ok (.i2l, 1) := by decide +kernel
theorem dX8_recover_2 : decode cX8_recover 2 = .ok (.lconst 0, 1) := by decide +kernel
theorem dX8_recover_3 : decode cX8_recover 3 = .ok (.ldc2_w 143, 3) := by decide +kernel
theorem dX8_recover_6 : decode cX8_recover 6 = .ok (.invokestatic 57, 3) := by decide +kernel
theorem dX8_recover_9 : decode cX8_recover 9 = .ok (.ifCond .ne 5, 3) := by decide +kernel
theorem dX8_recover_12 : decode cX8_recover 12 = .ok (.iconst (-1), 1) := by decide +kernel
theorem dX8_recover_13 : decode cX8_recover 13 = .ok (.ireturn, 1) := by decide +kernel
theorem dX8_recover_14 : decode cX8_recover 14 = .ok (.aload_n 0, 1) := by decide +kernel
theorem dX8_recover_15 : decode cX8_recover 15 = .ok (.iconst 1, 1) := by decide +kernel
theorem dX8_recover_16 : decode cX8_recover 16 = .ok (.invokevirtual 145, 3) := by decide +kernel
theorem dX8_recover_19 : decode cX8_recover 19 = .ok (.bipush (-4), 2) := by decide +kernel
theorem dX8_recover_21 : decode cX8_recover 21 = .ok (.if_icmp .ne 6, 3) := by decide +kernel
theorem dX8_recover_24 : decode cX8_recover 24 = .ok (.bipush (-2), 2) := by decide +kernel
theorem dX8_recover_26 : decode cX8_recover 26 = .ok (.ireturn, 1) := by decide +kernel
theorem dX8_recover_27 : decode cX8_recover 27 = .ok (.aload_n 0, 1) := by decide +kernel
theorem dX8_recover_28 : decode cX8_recover 28 = .ok (.getfield 22, 3) := by decide +kernel
theorem dX8_recover_31 : decode cX8_recover 31 = .ok (.aload_n 0, 1) := by decide +kernel
theorem dX8_recover_32 : decode cX8_recover 32 = .ok (.iconst 0, 1) := by decide +kernel
theorem dX8_recover_33 : decode cX8_recover 33 = .ok (.invokevirtual 145, 3) := by decide +kernel
theorem dX8_recover_36 : decode cX8_recover 36 = .ok (.iconst 2, 1) := by decide +kernel
theorem dX8_recover_37 : decode cX8_recover 37 = .ok (.iadd, 1) := by decide +kernel
theorem dX8_recover_38 : decode cX8_recover 38 = .ok (.iaload, 1) := by decide +kernel
theorem dX8_recover_39 : decode cX8_recover 39 = .ok (.istore_n 2, 1) := by decide +kernel
theorem dX8_recover_40 : decode cX8_recover 40 = .ok (.aload_n 0, 1) := by decide +kernel
theorem dX8_recover_41 : decode cX8_recover 41 = .ok (.getfield 22, 3) := by decide +kernel
theorem dX8_recover_44 : decode cX8_recover 44 = .ok (.aload_n 0, 1) := by decide +kernel
theorem dX8_recover_45 : decode cX8_recover 45 = .ok (.iconst 1, 1) := by decide +kernel
theorem dX8_recover_46 : decode cX8_recover 46 = .ok (.invokevirtual 145, 3) := by decide +kernel
theorem dX8_recover_49 : decode cX8_recover 49 = .ok (.iconst 2, 1) := by decide +kernel
theorem dX8_recover_50 : decode cX8_recover 50 = .ok (.iadd, 1) := by decide +kernel
theorem dX8_recover_51 : decode cX8_recover 51 = .ok (.iaload, 1) := by decide +kernel
theorem dX8_recover_52 : decode cX8_recover 52 = .ok (.istore_n 3, 1) := by decide +kernel
theorem dX8_recover_53 : decode cX8_recover 53 = .ok (.bipush (-4), 2) := by decide +kernel
theorem dX8_recover_55 : decode cX8_recover 55 = .ok (.istore 4, 2) := by decide +kernel
theorem dX8_recover_57 : decode cX8_recover 57 = .ok (.iconst 0, 1) := by decide +kernel
theorem dX8_recover_58 : decode cX8_recover 58 = .ok (.istore 5, 2) := by decide +kernel
theorem dX8_recover_60 : decode cX8_recover 60 = .ok (.iconst 0, 1) := by decide +kernel
theorem dX8_recover_61 : decode cX8_recover 61 = .ok (.istore 6, 2) := by decide +kernel
theorem dX8_recover_63 : decode cX8_recover 63 = .ok (.iload 6, 2) := by decide +kernel
theorem dX8_recover_65 : decode cX8_recover 65 = .ok (.iconst 1, 1) := by decide +kernel
theorem dX8_recover_66 : decode cX8_recover 66 = .ok (.iadd, 1) := by decide +kernel
theorem dX8_recover_67 : decode cX8_recover 67 = .ok (.aload_n 0, 1) := by decide +kernel
theorem dX8_recover_68 : decode cX8_recover 68 = .ok (.getfield 47, 3) := by decide +kernel
theorem dX8_recover_71 : decode cX8_recover 71 = .ok (.if_icmp .ge 69, 3) := by decide +kernel
theorem dX8_recover_74 : decode cX8_recover 74 = .ok (.aload_n 0, 1) := by decide +kernel
theorem dX8_recover_75 : decode cX8_recover 75 = .ok (.aload_n 0, 1) := by decide +kernel
theorem dX8_recover_76 : decode cX8_recover 76 = .ok (.getfield 19, 3) := by decide +kernel
theorem dX8_recover_79 : decode cX8_recover 79 = .ok (.iload 6, 2) := by decide +kernel
theorem dX8_recover_81 : decode cX8_recover 81 = .ok (.iconst 1, 1) := by decide +kernel
theorem dX8_recover_82 : decode cX8_recover 82 = .ok (.iadd, 1) := by decide +kernel
theorem dX8_recover_83 : decode cX8_recover 83 = .ok (.iaload, 1) := by decide +kernel
theorem dX8_recover_84 : decode cX8_recover 84 = .ok (.aload_n 0, 1) := by decide +kernel
theorem dX8_recover_85 : decode cX8_recover 85 = .ok (.getfield 22, 3) := by decide +kernel
theorem dX8_recover_88 : decode cX8_recover 88 = .ok (.iconst 5, 1) := by decide +kernel
theorem dX8_recover_89 : decode cX8_recover 89 = .ok (.iaload, 1) := by decide +kernel
theorem dX8_recover_90 : decode cX8_recover 90 = .ok (.invokevirtual 114, 3) := by decide +kernel
theorem dX8_recover_93 : decode cX8_recover 93 = .ok (.aload_n 0, 1) := by decide +kernel
theorem dX8_recover_94 : decode cX8_recover 94 = .ok (.aload_n 0, 1) := by decide +kernel
theorem dX8_recover_95 : decode cX8_recover 95 = .ok (.getfield 19, 3) := by decide +kernel
theorem dX8_recover_98 : decode cX8_recover 98 = .ok (.iload 6, 2) := by decide +kernel
theorem dX8_recover_100 : decode cX8_recover 100 = .ok (.iaload, 1) := by decide +kernel
theorem dX8_recover_101 : decode cX8_recover 101 = .ok (.aload_n 0, 1) := by decide +kernel
theorem dX8_recover_102 : decode cX8_recover 102 = .ok (.getfield 22, 3) := by decide +kernel
theorem dX8_recover_105 : decode cX8_recover 105 = .ok (.iconst 5, 1) := by decide +kernel
theorem dX8_recover_106 : decode cX8_recover 106 = .ok (.iaload, 1) := by decide +kernel
theorem dX8_recover_107 : decode cX8_recover 107 = .ok (.invokevirtual 114, 3) := by decide +kernel
theorem dX8_recover_110 : decode cX8_recover 110 = .ok (.isub, 1) := by decide +kernel
theorem dX8_recover_111 : decode cX8_recover 111 = .ok (.istore 7, 2) := by decide +kernel
theorem dX8_recover_113 : decode cX8_recover 113 = .ok (.iload_n 2, 1) := by decide +kernel
theorem dX8_recover_114 : decode cX8_recover 114 = .ok (.iload_n 3, 1) := by decide +kernel
theorem dX8_recover_115 : decode cX8_recover 115 = .ok (.invokestatic 149, 3) := by decide +kernel
theorem dX8_recover_118 : decode cX8_recover 118 = .ok (.iload 7, 2) := by decide +kernel
theorem dX8_recover_120 : decode cX8_recover 120 = .ok (.invokestatic 149, 3) := by decide +kernel
theorem dX8_recover_123 : decode cX8_recover 123 = .ok (.iload_n 1, 1) := by decide +kernel
theorem dX8_recover_124 : decode cX8_recover 124 = .ok (.if_icmp .gt 10, 3) := by decide +kernel
theorem dX8_recover_127 : decode cX8_recover 127 = .ok (.iload 6, 2) := by decide +kernel
theorem dX8_recover_129 : decode cX8_recover 129 = .ok (.istore 4, 2) := by decide +kernel
theorem dX8_recover_131 : decode cX8_recover 131 = .ok (.iinc 5 1, 3) := by decide +kernel
theorem dX8_recover_134 : decode cX8_recover 134 = .ok (.iinc 6 1, 3) := by decide +kernel
theorem dX8_recover_137 : decode cX8_recover 137 = .ok (.goto (-74), 3) := by decide +kernel
theorem dX8_recover_140 : decode cX8_recover 140 = .ok (.iload 5, 2) := by decide +kernel
theorem dX8_recover_142 : decode cX8_recover 142 = .ok (.iconst 1, 1) := by decide +kernel
theorem dX8_recover_143 : decode cX8_recover 143 = .ok (.if_icmp .eq 16, 3) := by decide +kernel
theorem dX8_recover_146 : decode cX8_recover 146 = .ok (.iload 5, 2) := by decide +kernel
theorem dX8_recover_148 : decode cX8_recover 148 = .ok (.ifCond .ne 8, 3) := by decide +kernel
theorem dX8_recover_151 : decode cX8_recover 151 = .ok (.bipush (-4), 2) := by decide +kernel
theorem dX8_recover_153 : decode cX8_recover 153 = .ok (.goto 5, 3) := by decide +kernel
theorem dX8_recover_156 : decode cX8_recover 156 = .ok (.bipush (-5), 2) := by decide +kernel
theorem dX8_recover_158 : decode cX8_recover 158 = .ok (.ireturn, 1) := by decide +kernel
theorem dX8_recover_159 : decode cX8_recover 159 = .ok (.aload_n 0, 1) := by decide +kernel
theorem dX8_recover_160 : decode cX8_recover 160 = .ok (.invokevirtual 122, 3) := by decide +kernel
theorem dX8_recover_163 : decode cX8_recover 163 = .ok (.iload_n 2, 1) := by decide +kernel
theorem dX8_recover_164 : decode cX8_recover 164 = .ok (.iload_n 3, 1) := by decide +kernel
theorem dX8_recover_165 : decode cX8_recover 165 = .ok (.if_icmp .le 10, 3) := by decide +kernel
theorem dX8_recover_168 : decode cX8_recover 168 = .ok (.iload 4, 2) := by decide +kernel
theorem dX8_recover_170 : decode cX8_recover 170 = .ok (.iconst 1, 1) := by decide +kernel
theorem dX8_recover_171 : decode cX8_recover 171 = .ok (.iadd, 1) := by decide +kernel
theorem dX8_recover_172 : decode cX8_recover 172 = .ok (.goto 5, 3) := by decide +kernel
theorem dX8_recover_175 : decode cX8_recover 175 = .ok (.iload 4, 2) := by decide +kernel
theorem dX8_recover_177 : decode cX8_recover 177 = .ok (.istore 6, 2) := by decide +kernel
theorem dX8_recover_179 : decode cX8_recover 179 = .ok (.aload_n 0, 1) := by decide +kernel
theorem dX8_recover_180 : decode cX8_recover 180 = .ok (.getfield 22, 3) := by decide +kernel
theorem dX8_recover_183 : decode cX8_recover 183 = .ok (.iconst 1, 1) := by decide +kernel
theorem dX8_recover_184 : decode cX8_recover 184 = .ok (.dup2, 1) := by decide +kernel
theorem dX8_recover_185 : decode cX8_recover 185 = .ok (.iaload, 1) := by decide +kernel
theorem dX8_recover_186 : decode cX8_recover 186 = .ok (.aload_n 0, 1) := by decide +kernel
theorem dX8_recover_187 : decode cX8_recover 187 = .ok (.aload_n 0, 1) := by decide +kernel
theorem dX8_recover_188 : decode cX8_recover 188 = .ok (.getfield 19, 3) := by decide +kernel
theorem dX8_recover_191 : decode cX8_recover 191 = .ok (.iload 6, 2) := by decide +kernel
theorem dX8_recover_193 : decode cX8_recover 193 = .ok (.iaload, 1) := by decide +kernel
theorem dX8_recover_194 : decode cX8_recover 194 = .ok (.aload_n 0, 1) := by decide +kernel
theorem dX8_recover_195 : decode cX8_recover 195 = .ok (.getfield 22, 3) := by decide +kernel
theorem dX8_recover_198 : decode cX8_recover 198 = .ok (.iconst 5, 1) := by decide +kernel
theorem dX8_recover_199 : decode cX8_recover 199 = .ok (.iaload, 1) := by decide +kernel
theorem dX8_recover_200 : decode cX8_recover 200 = .ok (.invokevirtual 114, 3) := by decide +kernel
theorem dX8_recover_203 : decode cX8_recover 203 = .ok (.iload_n 2, 1) := by decide +kernel
theorem dX8_recover_204 : decode cX8_recover 204 = .ok (.isub, 1) := by decide +kernel
theorem dX8_recover_205 : decode cX8_recover 205 = .ok (.iadd, 1) := by decide +kernel
theorem dX8_recover_206 : decode cX8_recover 206 = .ok (.iastore, 1) := by decide +kernel
theorem dX8_recover_207 : decode cX8_recover 207 = .ok (.iload 6, 2) := by decide +kernel
theorem dX8_recover_209 : decode cX8_recover 209 = .ok (.ireturn, 1) := by decide +kernel
theorem dX8_position_0 : decode cX8_position 0 = .ok (.aload_n 0, 1) := by decide +kernel
theorem dX8_position_1 : decode cX8_position 1 = .ok (.getfield 22, 3) := by decide +kernel
theorem dX8_position_4 : decode cX8_position 4 = .ok (.iconst 0, 1) := by decide +kernel
theorem dX8_position_5 : decode cX8_position 5 = .ok (.iaload, 1) := by decide +kernel
theorem dX8_position_6 : decode cX8_position 6 = .ok (.ireturn, 1) := by decide +kernel
theorem dX8_counter_0 : decode cX8_counter 0 = .ok (.aload_n 0, 1) := by decide +kernel
theorem dX8_counter_1 : decode cX8_counter 1 = .ok (.getfield 22, 3) := by decide +kernel
theorem dX8_counter_4 : decode cX8_counter 4 = .ok (.iconst 1, 1) := by decide +kernel
theorem dX8_counter_5 : decode cX8_counter 5 = .ok (.iaload, 1) := by decide +kernel
theorem dX8_counter_6 : decode cX8_counter 6 = .ok (.i2l, 1) := by decide +kernel
theorem dX8_counter_7 : decode cX8_counter 7 = .ok (.lreturn, 1) := by decide +kernel
theorem dX8_slip_0 : decode cX8_slip 0 = .ok (.aload_n 0, 1) := by decide +kernel
theorem dX8_slip_1 : decode cX8_slip 1 = .ok (.aload_n 0, 1) := by decide +kernel
theorem dX8_slip_2 : decode cX8_slip 2 = .ok (.getfield 22, 3) := by decide +kernel
theorem dX8_slip_5 : decode cX8_slip 5 = .ok (.invokevirtual 133, 3) := by decide +kernel
theorem dX8_slip_8 : decode cX8_slip 8 = .ok (.lreturn, 1) := by decide +kernel
theorem dX8_misses_0 : decode cX8_misses 0 = .ok (.aload_n 0, 1) := by decide +kernel
theorem dX8_misses_1 : decode cX8_misses 1 = .ok (.getfield 22, 3) := by decide +kernel
theorem dX8_misses_4 : decode cX8_misses 4 = .ok (.iconst 3, 1) := by decide +kernel
theorem dX8_misses_5 : decode cX8_misses 5 = .ok (.iaload, 1) := by decide +kernel
theorem dX8_misses_6 : decode cX8_misses 6 = .ok (.ireturn, 1) := by decide +kernel
theorem dX8_samples_0 : decode cX8_samples 0 = .ok (.aload_n 0, 1) := by decide +kernel
theorem dX8_samples_1 : decode cX8_samples 1 = .ok (.getfield 22, 3) := by decide +kernel
theorem dX8_samples_4 : decode cX8_samples 4 = .ok (.iconst 4, 1) := by decide +kernel
theorem dX8_samples_5 : decode cX8_samples 5 = .ok (.iaload, 1) := by decide +kernel
theorem dX8_samples_6 : decode cX8_samples 6 = .ok (.ireturn, 1) := by decide +kernel
theorem dX8_missRateBits_0 : decode cX8_missRateBits 0 = .ok (.aload_n 0, 1) := by decide +kernel
theorem dX8_missRateBits_1 : decode cX8_missRateBits 1 = .ok (.getfield 22, 3) := by decide +kernel
theorem dX8_missRateBits_4 : decode cX8_missRateBits 4 = .ok (.iconst 4, 1) := by decide +kernel
theorem dX8_missRateBits_5 : decode cX8_missRateBits 5 = .ok (.iaload, 1) := by decide +kernel
theorem dX8_missRateBits_6 : decode cX8_missRateBits 6 = .ok (.ifCond .ne 8, 3) := by decide +kernel
theorem dX8_missRateBits_9 : decode cX8_missRateBits 9 = .ok (.bipush (-4), 2) := by decide +kernel
theorem dX8_missRateBits_11 : decode cX8_missRateBits 11 = .ok (.goto 21, 3) := by decide +kernel
theorem dX8_missRateBits_14 : decode cX8_missRateBits 14 = .ok (.aload_n 0, 1) := by decide +kernel
theorem dX8_missRateBits_15 : decode cX8_missRateBits 15 = .ok (.getfield 22, 3) := by decide +kernel
theorem dX8_missRateBits_18 : decode cX8_missRateBits 18 = .ok (.iconst 3, 1) := by decide +kernel
theorem dX8_missRateBits_19 : decode cX8_missRateBits 19 = .ok (.iaload, 1) := by decide +kernel
theorem dX8_missRateBits_20 : decode cX8_missRateBits 20 = .ok (.i2f, 1) := by decide +kernel
theorem dX8_missRateBits_21 : decode cX8_missRateBits 21 = .ok (.aload_n 0, 1) := by decide +kernel
theorem dX8_missRateBits_22 : decode cX8_missRateBits 22 = .ok (.getfield 22, 3) := by decide +kernel
theorem dX8_missRateBits_25 : decode cX8_missRateBits 25 = .ok (.iconst 4, 1) := by decide +kernel
theorem dX8_missRateBits_26 : decode cX8_missRateBits 26 = .ok (.iaload, 1) := by decide +kernel
theorem dX8_missRateBits_27 : decode cX8_missRateBits 27 = .ok (.i2f, 1) := by decide +kernel
theorem dX8_missRateBits_28 : decode cX8_missRateBits 28 = .ok (.fdiv, 1) := by decide +kernel
theorem dX8_missRateBits_29 : decode cX8_missRateBits 29 = .ok (.invokestatic 152, 3) := by decide +kernel
theorem dX8_missRateBits_32 : decode cX8_missRateBits 32 = .ok (.ireturn, 1) := by decide +kernel
theorem dX8_markPosition_0 : decode cX8_markPosition 0 = .ok (.iload_n 1, 1) := by decide +kernel
theorem dX8_markPosition_1 : decode cX8_markPosition 1 = .ok (.i2l, 1) := by decide +kernel
theorem dX8_markPosition_2 : decode cX8_markPosition 2 = .ok (.lconst 0, 1) := by decide +kernel
theorem dX8_markPosition_3 : decode cX8_markPosition 3 = .ok (.aload_n 0, 1) := by decide +kernel
theorem dX8_markPosition_4 : decode cX8_markPosition 4 = .ok (.getfield 47, 3) := by decide +kernel
theorem dX8_markPosition_7 : decode cX8_markPosition 7 = .ok (.iconst 1, 1) := by decide +kernel
theorem dX8_markPosition_8 : decode cX8_markPosition 8 = .ok (.isub, 1) := by decide +kernel
theorem dX8_markPosition_9 : decode cX8_markPosition 9 = .ok (.i2l, 1) := by decide +kernel
theorem dX8_markPosition_10 : decode cX8_markPosition 10 = .ok (.invokestatic 57, 3) := by decide +kernel
theorem dX8_markPosition_13 : decode cX8_markPosition 13 = .ok (.ifCond .eq 12, 3) := by decide +kernel
theorem dX8_markPosition_16 : decode cX8_markPosition 16 = .ok (.aload_n 0, 1) := by decide +kernel
theorem dX8_markPosition_17 : decode cX8_markPosition 17 = .ok (.getfield 19, 3) := by decide +kernel
theorem dX8_markPosition_20 : decode cX8_markPosition 20 = .ok (.iload_n 1, 1) := by decide +kernel
theorem dX8_markPosition_21 : decode cX8_markPosition 21 = .ok (.iaload, 1) := by decide +kernel
theorem dX8_markPosition_22 : decode cX8_markPosition 22 = .ok (.goto 4, 3) := by decide +kernel
theorem dX8_markPosition_25 : decode cX8_markPosition 25 = .ok (.iconst (-1), 1) := by decide +kernel
theorem dX8_markPosition_26 : decode cX8_markPosition 26 = .ok (.ireturn, 1) := by decide +kernel
theorem dX8_expectedCount_0 : decode cX8_expectedCount 0 = .ok (.iload_n 1, 1) := by decide +kernel
theorem dX8_expectedCount_1 : decode cX8_expectedCount 1 = .ok (.i2l, 1) := by decide +kernel
theorem dX8_expectedCount_2 : decode cX8_expectedCount 2 = .ok (.lconst 0, 1) := by decide +kernel
theorem dX8_expectedCount_3 : decode cX8_expectedCount 3 = .ok (.ldc2_w 110, 3) := by decide +kernel
theorem dX8_expectedCount_6 : decode cX8_expectedCount 6 = .ok (.invokestatic 57, 3) := by decide +kernel
theorem dX8_expectedCount_9 : decode cX8_expectedCount 9 = .ok (.ifCond .eq 17, 3) := by decide +kernel
theorem dX8_expectedCount_12 : decode cX8_expectedCount 12 = .ok (.aload_n 0, 1) := by decide +kernel
theorem dX8_expectedCount_13 : decode cX8_expectedCount 13 = .ok (.iload_n 1, 1) := by decide +kernel
theorem dX8_expectedCount_14 : decode cX8_expectedCount 14 = .ok (.aload_n 0, 1) := by decide +kernel
theorem dX8_expectedCount_15 : decode cX8_expectedCount 15 = .ok (.getfield 22, 3) := by decide +kernel
theorem dX8_expectedCount_18 : decode cX8_expectedCount 18 = .ok (.iconst 5, 1) := by decide +kernel
theorem dX8_expectedCount_19 : decode cX8_expectedCount 19 = .ok (.iaload, 1) := by decide +kernel
theorem dX8_expectedCount_20 : decode cX8_expectedCount 20 = .ok (.invokevirtual 114, 3) := by decide +kernel
theorem dX8_expectedCount_23 : decode cX8_expectedCount 23 = .ok (.goto 4, 3) := by decide +kernel
theorem dX8_expectedCount_26 : decode cX8_expectedCount 26 = .ok (.iconst (-1), 1) := by decide +kernel
theorem dX8_expectedCount_27 : decode cX8_expectedCount 27 = .ok (.ireturn, 1) := by decide +kernel
theorem dX8_isEvent_0 : decode cX8_isEvent 0 = .ok (.iload_n 1, 1) := by decide +kernel
theorem dX8_isEvent_1 : decode cX8_isEvent 1 = .ok (.i2l, 1) := by decide +kernel
theorem dX8_isEvent_2 : decode cX8_isEvent 2 = .ok (.lconst 0, 1) := by decide +kernel
theorem dX8_isEvent_3 : decode cX8_isEvent 3 = .ok (.aload_n 0, 1) := by decide +kernel
theorem dX8_isEvent_4 : decode cX8_isEvent 4 = .ok (.getfield 22, 3) := by decide +kernel
theorem dX8_isEvent_7 : decode cX8_isEvent 7 = .ok (.bipush 17, 2) := by decide +kernel
theorem dX8_isEvent_9 : decode cX8_isEvent 9 = .ok (.iaload, 1) := by decide +kernel
theorem dX8_isEvent_10 : decode cX8_isEvent 10 = .ok (.iconst 1, 1) := by decide +kernel
theorem dX8_isEvent_11 : decode cX8_isEvent 11 = .ok (.isub, 1) := by decide +kernel
theorem dX8_isEvent_12 : decode cX8_isEvent 12 = .ok (.i2l, 1) := by decide +kernel
theorem dX8_isEvent_13 : decode cX8_isEvent 13 = .ok (.invokestatic 57, 3) := by decide +kernel
theorem dX8_isEvent_16 : decode cX8_isEvent 16 = .ok (.ireturn, 1) := by decide +kernel
theorem dX8_ofEvent_0 : decode cX8_ofEvent 0 = .ok (.aload_n 0, 1) := by decide +kernel
theorem dX8_ofEvent_1 : decode cX8_ofEvent 1 = .ok (.getfield 22, 3) := by decide +kernel
theorem dX8_ofEvent_4 : decode cX8_ofEvent 4 = .ok (.bipush 18, 2) := by decide +kernel
theorem dX8_ofEvent_6 : decode cX8_ofEvent 6 = .ok (.iconst 3, 1) := by decide +kernel
theorem dX8_ofEvent_7 : decode cX8_ofEvent 7 = .ok (.aload_n 0, 1) := by decide +kernel
theorem dX8_ofEvent_8 : decode cX8_ofEvent 8 = .ok (.getfield 22, 3) := by decide +kernel
theorem dX8_ofEvent_11 : decode cX8_ofEvent 11 = .ok (.bipush 17, 2) := by decide +kernel
theorem dX8_ofEvent_13 : decode cX8_ofEvent 13 = .ok (.iaload, 1) := by decide +kernel
theorem dX8_ofEvent_14 : decode cX8_ofEvent 14 = .ok (.iconst 1, 1) := by decide +kernel
theorem dX8_ofEvent_15 : decode cX8_ofEvent 15 = .ok (.isub, 1) := by decide +kernel
theorem dX8_ofEvent_16 : decode cX8_ofEvent 16 = .ok (.iload_n 1, 1) := by decide +kernel
theorem dX8_ofEvent_17 : decode cX8_ofEvent 17 = .ok (.isub, 1) := by decide +kernel
theorem dX8_ofEvent_18 : decode cX8_ofEvent 18 = .ok (.imul, 1) := by decide +kernel
theorem dX8_ofEvent_19 : decode cX8_ofEvent 19 = .ok (.iadd, 1) := by decide +kernel
theorem dX8_ofEvent_20 : decode cX8_ofEvent 20 = .ok (.iload_n 2, 1) := by decide +kernel
theorem dX8_ofEvent_21 : decode cX8_ofEvent 21 = .ok (.iadd, 1) := by decide +kernel
theorem dX8_ofEvent_22 : decode cX8_ofEvent 22 = .ok (.iaload, 1) := by decide +kernel
theorem dX8_ofEvent_23 : decode cX8_ofEvent 23 = .ok (.ireturn, 1) := by decide +kernel
theorem dX8_eventKind_0 : decode cX8_eventKind 0 = .ok (.aload_n 0, 1) := by decide +kernel
theorem dX8_eventKind_1 : decode cX8_eventKind 1 = .ok (.iload_n 1, 1) := by decide +kernel
theorem dX8_eventKind_2 : decode cX8_eventKind 2 = .ok (.invokevirtual 158, 3) := by decide +kernel
theorem dX8_eventKind_5 : decode cX8_eventKind 5 = .ok (.ifCond .eq 12, 3) := by decide +kernel
theorem dX8_eventKind_8 : decode cX8_eventKind 8 = .ok (.aload_n 0, 1) := by decide +kernel
theorem dX8_eventKind_9 : decode cX8_eventKind 9 = .ok (.iload_n 1, 1) := by decide +kernel
theorem dX8_eventKind_10 : decode cX8_eventKind 10 = .ok (.iconst 0, 1) := by decide +kernel
theorem dX8_eventKind_11 : decode cX8_eventKind 11 = .ok (.invokevirtual 161, 3) := by decide +kernel
theorem dX8_eventKind_14 : decode cX8_eventKind 14 = .ok (.goto 4, 3) := by decide +kernel
theorem dX8_eventKind_17 : decode cX8_eventKind 17 = .ok (.iconst (-1), 1) := by decide +kernel
theorem dX8_eventKind_18 : decode cX8_eventKind 18 = .ok (.ireturn, 1) := by decide +kernel
theorem dX8_eventPosition_0 : decode cX8_eventPosition 0 = .ok (.aload_n 0, 1) := by decide +kernel
theorem dX8_eventPosition_1 : decode cX8_eventPosition 1 = .ok (.iload_n 1, 1) := by decide +kernel
theorem dX8_eventPosition_2 : decode cX8_eventPosition 2 = .ok (.invokevirtual 158, 3) := by decide +kernel
theorem dX8_eventPosition_5 : decode cX8_eventPosition 5 = .ok (.ifCond .eq 12, 3) := by decide +kernel
theorem dX8_eventPosition_8 : decode cX8_eventPosition 8 = .ok (.aload_n 0, 1) := by decide +kernel
theorem dX8_eventPosition_9 : decode cX8_eventPosition 9 = .ok (.iload_n 1, 1) := by decide +kernel
theorem dX8_eventPosition_10 : decode cX8_eventPosition 10 = .ok (.iconst 1, 1) := by decide +kernel
theorem dX8_eventPosition_11 : decode cX8_eventPosition 11 = .ok (.invokevirtual 161, 3) := by decide +kernel
theorem dX8_eventPosition_14 : decode cX8_eventPosition 14 = .ok (.goto 4, 3) := by decide +kernel
theorem dX8_eventPosition_17 : decode cX8_eventPosition 17 = .ok (.iconst (-1), 1) := by decide +kernel
theorem dX8_eventPosition_18 : decode cX8_eventPosition 18 = .ok (.ireturn, 1) := by decide +kernel
theorem dX8_eventCounter_0 : decode cX8_eventCounter 0 = .ok (.aload_n 0, 1) := by decide +kernel
theorem dX8_eventCounter_1 : decode cX8_eventCounter 1 = .ok (.iload_n 1, 1) := by decide +kernel
theorem dX8_eventCounter_2 : decode cX8_eventCounter 2 = .ok (.invokevirtual 158, 3) := by decide +kernel
theorem dX8_eventCounter_5 : decode cX8_eventCounter 5 = .ok (.ifCond .eq 13, 3) := by decide +kernel
theorem dX8_eventCounter_8 : decode cX8_eventCounter 8 = .ok (.aload_n 0, 1) := by decide +kernel
theorem dX8_eventCounter_9 : decode cX8_eventCounter 9 = .ok (.iload_n 1, 1) := by decide +kernel
theorem dX8_eventCounter_10 : decode cX8_eventCounter 10 = .ok (.iconst 2, 1) := by decide +kernel
theorem dX8_eventCounter_11 : decode cX8_eventCounter 11 = .ok (.invokevirtual 161, 3) := by decide +kernel
theorem dX8_eventCounter_14 : decode cX8_eventCounter 14 = .ok (.i2l, 1) := by decide +kernel
theorem dX8_eventCounter_15 : decode cX8_eventCounter 15 = .ok (.goto 6, 3) := by decide +kernel
theorem dX8_eventCounter_18 : decode cX8_eventCounter 18 = .ok (.ldc2_w 131, 3) := by decide +kernel
theorem dX8_eventCounter_21 : decode cX8_eventCounter 21 = .ok (.lreturn, 1) := by decide +kernel
theorem dX8_brightIn_0 : decode cX8_brightIn 0 = .ok (.iconst 0, 1) := by decide +kernel
theorem dX8_brightIn_1 : decode cX8_brightIn 1 = .ok (.istore_n 3, 1) := by decide +kernel
theorem dX8_brightIn_2 : decode cX8_brightIn 2 = .ok (.iload_n 1, 1) := by decide +kernel
theorem dX8_brightIn_3 : decode cX8_brightIn 3 = .ok (.istore 4, 2) := by decide +kernel
theorem dX8_brightIn_5 : decode cX8_brightIn 5 = .ok (.iload 4, 2) := by decide +kernel
theorem dX8_brightIn_7 : decode cX8_brightIn 7 = .ok (.iload_n 1, 1) := by decide +kernel
theorem dX8_brightIn_8 : decode cX8_brightIn 8 = .ok (.iload_n 2, 1) := by decide +kernel
theorem dX8_brightIn_9 : decode cX8_brightIn 9 = .ok (.iadd, 1) := by decide +kernel
theorem dX8_brightIn_10 : decode cX8_brightIn 10 = .ok (.if_icmp .ge 82, 3) := by decide +kernel
theorem dX8_brightIn_13 : decode cX8_brightIn 13 = .ok (.aload_n 0, 1) := by decide +kernel
theorem dX8_brightIn_14 : decode cX8_brightIn 14 = .ok (.getfield 22, 3) := by decide +kernel
theorem dX8_brightIn_17 : decode cX8_brightIn 17 = .ok (.iconst 0, 1) := by decide +kernel
theorem dX8_brightIn_18 : decode cX8_brightIn 18 = .ok (.iaload, 1) := by decide +kernel
theorem dX8_brightIn_19 : decode cX8_brightIn 19 = .ok (.iload 4, 2) := by decide +kernel
theorem dX8_brightIn_21 : decode cX8_brightIn 21 = .ok (.iadd, 1) := by decide +kernel
theorem dX8_brightIn_22 : decode cX8_brightIn 22 = .ok (.aload_n 0, 1) := by decide +kernel
theorem dX8_brightIn_23 : decode cX8_brightIn 23 = .ok (.getfield 44, 3) := by decide +kernel
theorem dX8_brightIn_26 : decode cX8_brightIn 26 = .ok (.irem, 1) := by decide +kernel
theorem dX8_brightIn_27 : decode cX8_brightIn 27 = .ok (.aload_n 0, 1) := by decide +kernel
theorem dX8_brightIn_28 : decode cX8_brightIn 28 = .ok (.getfield 44, 3) := by decide +kernel
theorem dX8_brightIn_31 : decode cX8_brightIn 31 = .ok (.iconst 2, 1) := by decide +kernel
theorem dX8_brightIn_32 : decode cX8_brightIn 32 = .ok (.idiv, 1) := by decide +kernel
theorem dX8_brightIn_33 : decode cX8_brightIn 33 = .ok (.if_icmp .lt 37, 3) := by decide +kernel
theorem dX8_brightIn_36 : decode cX8_brightIn 36 = .ok (.iload 4, 2) := by decide +kernel
theorem dX8_brightIn_38 : decode cX8_brightIn 38 = .ok (.aload_n 0, 1) := by decide +kernel
theorem dX8_brightIn_39 : decode cX8_brightIn 39 = .ok (.getfield 22, 3) := by decide +kernel
theorem dX8_brightIn_42 : decode cX8_brightIn 42 = .ok (.bipush 7, 2) := by decide +kernel
theorem dX8_brightIn_44 : decode cX8_brightIn 44 = .ok (.iaload, 1) := by decide +kernel
theorem dX8_brightIn_45 : decode cX8_brightIn 45 = .ok (.iadd, 1) := by decide +kernel
theorem dX8_brightIn_46 : decode cX8_brightIn 46 = .ok (.aload_n 0, 1) := by decide +kernel
theorem dX8_brightIn_47 : decode cX8_brightIn 47 = .ok (.getfield 22, 3) := by decide +kernel
theorem dX8_brightIn_50 : decode cX8_brightIn 50 = .ok (.bipush 6, 2) := by decide +kernel
theorem dX8_brightIn_52 : decode cX8_brightIn 52 = .ok (.iaload, 1) := by decide +kernel
theorem dX8_brightIn_53 : decode cX8_brightIn 53 = .ok (.irem, 1) := by decide +kernel
theorem dX8_brightIn_54 : decode cX8_brightIn 54 = .ok (.aload_n 0, 1) := by decide +kernel
theorem dX8_brightIn_55 : decode cX8_brightIn 55 = .ok (.getfield 22, 3) := by decide +kernel
theorem dX8_brightIn_58 : decode cX8_brightIn 58 = .ok (.bipush 6, 2) := by decide +kernel
theorem dX8_brightIn_60 : decode cX8_brightIn 60 = .ok (.iaload, 1) := by decide +kernel
theorem dX8_brightIn_61 : decode cX8_brightIn 61 = .ok (.iconst 2, 1) := by decide +kernel
theorem dX8_brightIn_62 : decode cX8_brightIn 62 = .ok (.idiv, 1) := by decide +kernel
theorem dX8_brightIn_63 : decode cX8_brightIn 63 = .ok (.if_icmp .lt 7, 3) := by decide +kernel
theorem dX8_brightIn_66 : decode cX8_brightIn 66 = .ok (.iconst 1, 1) := by decide +kernel
theorem dX8_brightIn_67 : decode cX8_brightIn 67 = .ok (.goto 4, 3) := by decide +kernel
theorem dX8_brightIn_70 : decode cX8_brightIn 70 = .ok (.iconst 0, 1) := by decide +kernel
theorem dX8_brightIn_71 : decode cX8_brightIn 71 = .ok (.istore 5, 2) := by decide +kernel
theorem dX8_brightIn_73 : decode cX8_brightIn 73 = .ok (.iload_n 3, 1) := by decide +kernel
theorem dX8_brightIn_74 : decode cX8_brightIn 74 = .ok (.iload 5, 2) := by decide +kernel
theorem dX8_brightIn_76 : decode cX8_brightIn 76 = .ok (.ifCond .eq 7, 3) := by decide +kernel
theorem dX8_brightIn_79 : decode cX8_brightIn 79 = .ok (.iconst 1, 1) := by decide +kernel
theorem dX8_brightIn_80 : decode cX8_brightIn 80 = .ok (.goto 4, 3) := by decide +kernel
theorem dX8_brightIn_83 : decode cX8_brightIn 83 = .ok (.iconst 0, 1) := by decide +kernel
theorem dX8_brightIn_84 : decode cX8_brightIn 84 = .ok (.iadd, 1) := by decide +kernel
theorem dX8_brightIn_85 : decode cX8_brightIn 85 = .ok (.istore_n 3, 1) := by decide +kernel
theorem dX8_brightIn_86 : decode cX8_brightIn 86 = .ok (.iinc 4 1, 3) := by decide +kernel
theorem dX8_brightIn_89 : decode cX8_brightIn 89 = .ok (.goto (-84), 3) := by decide +kernel
theorem dX8_brightIn_92 : decode cX8_brightIn 92 = .ok (.iload_n 3, 1) := by decide +kernel
theorem dX8_brightIn_93 : decode cX8_brightIn 93 = .ok (.ireturn, 1) := by decide +kernel
theorem dX8_brightness_0 : decode cX8_brightness 0 = .ok (.iload_n 1, 1) := by decide +kernel
theorem dX8_brightness_1 : decode cX8_brightness 1 = .ok (.i2l, 1) := by decide +kernel
theorem dX8_brightness_2 : decode cX8_brightness 2 = .ok (.lconst 0, 1) := by decide +kernel
theorem dX8_brightness_3 : decode cX8_brightness 3 = .ok (.ldc2_w 164, 3) := by decide +kernel
theorem dX8_brightness_6 : decode cX8_brightness 6 = .ok (.invokestatic 57, 3) := by decide +kernel
theorem dX8_brightness_9 : decode cX8_brightness 9 = .ok (.ifCond .eq 24, 3) := by decide +kernel
theorem dX8_brightness_12 : decode cX8_brightness 12 = .ok (.iload_n 2, 1) := by decide +kernel
theorem dX8_brightness_13 : decode cX8_brightness 13 = .ok (.i2l, 1) := by decide +kernel
theorem dX8_brightness_14 : decode cX8_brightness 14 = .ok (.lconst 1, 1) := by decide +kernel
theorem dX8_brightness_15 : decode cX8_brightness 15 = .ok (.ldc2_w 166, 3) := by decide +kernel
theorem dX8_brightness_18 : decode cX8_brightness 18 = .ok (.invokestatic 57, 3) := by decide +kernel
theorem dX8_brightness_21 : decode cX8_brightness 21 = .ok (.ifCond .eq 12, 3) := by decide +kernel
theorem dX8_brightness_24 : decode cX8_brightness 24 = .ok (.aload_n 0, 1) := by decide +kernel
theorem dX8_brightness_25 : decode cX8_brightness 25 = .ok (.iload_n 1, 1) := by decide +kernel
theorem dX8_brightness_26 : decode cX8_brightness 26 = .ok (.iload_n 2, 1) := by decide +kernel
theorem dX8_brightness_27 : decode cX8_brightness 27 = .ok (.invokevirtual 168, 3) := by decide +kernel
theorem dX8_brightness_30 : decode cX8_brightness 30 = .ok (.goto 4, 3) := by decide +kernel
theorem dX8_brightness_33 : decode cX8_brightness 33 = .ok (.iconst (-1), 1) := by decide +kernel
theorem dX8_brightness_34 : decode cX8_brightness 34 = .ok (.ireturn, 1) := by decide +kernel
theorem dX8_brightestStart_0 : decode cX8_brightestStart 0 = .ok (.iload_n 1, 1) := by decide +kernel
theorem dX8_brightestStart_1 : decode cX8_brightestStart 1 = .ok (.i2l, 1) := by decide +kernel
theorem dX8_brightestStart_2 : decode cX8_brightestStart 2 = .ok (.lconst 1, 1) := by decide +kernel
theorem dX8_brightestStart_3 : decode cX8_brightestStart 3 = .ok (.ldc2_w 166, 3) := by decide +kernel
theorem dX8_brightestStart_6 : decode cX8_brightestStart 6 = .ok (.invokestatic 57, 3) := by decide +kernel
theorem dX8_brightestStart_9 : decode cX8_brightestStart 9 = .ok (.ifCond .ne 5, 3) := by decide +kernel
theorem dX8_brightestStart_12 : decode cX8_brightestStart 12 = .ok (.iconst (-1), 1) := by decide +kernel
theorem dX8_brightestStart_13 : decode cX8_brightestStart 13 = .ok (.ireturn, 1) := by decide +kernel
theorem dX8_brightestStart_14 : decode cX8_brightestStart 14 = .ok (.iconst 0, 1) := by decide +kernel
theorem dX8_brightestStart_15 : decode cX8_brightestStart 15 = .ok (.istore_n 2, 1) := by decide +kernel
theorem dX8_brightestStart_16 : decode cX8_brightestStart 16 = .ok (.iconst (-1), 1) := by decide +kernel
theorem dX8_brightestStart_17 : decode cX8_brightestStart 17 = .ok (.istore_n 3, 1) := by decide +kernel
theorem dX8_brightestStart_18 : decode cX8_brightestStart 18 = .ok (.iconst 0, 1) := by decide +kernel
theorem dX8_brightestStart_19 : decode cX8_brightestStart 19 = .ok (.istore 4, 2) := by decide +kernel
theorem dX8_brightestStart_21 : decode cX8_brightestStart 21 = .ok (.iload 4, 2) := by decide +kernel
theorem dX8_brightestStart_23 : decode cX8_brightestStart 23 = .ok (.sipush 200, 3) := by decide +kernel
theorem dX8_brightestStart_26 : decode cX8_brightestStart 26 = .ok (.if_icmp .ge 44, 3) := by decide +kernel
theorem dX8_brightestStart_29 : decode cX8_brightestStart 29 = .ok (.aload_n 0, 1) := by decide +kernel
theorem dX8_brightestStart_30 : decode cX8_brightestStart 30 = .ok (.iload 4, 2) := by decide +kernel
theorem dX8_brightestStart_32 : decode cX8_brightestStart 32 = .ok (.iload_n 1, 1) := by decide +kernel
theorem dX8_brightestStart_33 : decode cX8_brightestStart 33 = .ok (.invokevirtual 168, 3) := by decide +kernel
theorem dX8_brightestStart_36 : decode cX8_brightestStart 36 = .ok (.istore 5, 2) := by decide +kernel
theorem dX8_brightestStart_38 : decode cX8_brightestStart 38 = .ok (.iload 5, 2) := by decide +kernel
theorem dX8_brightestStart_40 : decode cX8_brightestStart 40 = .ok (.iload_n 3, 1) := by decide +kernel
theorem dX8_brightestStart_41 : decode cX8_brightestStart 41 = .ok (.if_icmp .le 8, 3) := by decide +kernel
theorem dX8_brightestStart_44 : decode cX8_brightestStart 44 = .ok (.iload 4, 2) := by decide +kernel
theorem dX8_brightestStart_46 : decode cX8_brightestStart 46 = .ok (.goto 4, 3) := by decide +kernel
theorem dX8_brightestStart_49 : decode cX8_brightestStart 49 = .ok (.iload_n 2, 1) := by decide +kernel
theorem dX8_brightestStart_50 : decode cX8_brightestStart 50 = .ok (.istore_n 2, 1) := by decide +kernel
theorem dX8_brightestStart_51 : decode cX8_brightestStart 51 = .ok (.iload 5, 2) := by decide +kernel
theorem dX8_brightestStart_53 : decode cX8_brightestStart 53 = .ok (.iload_n 3, 1) := by decide +kernel
theorem dX8_brightestStart_54 : decode cX8_brightestStart 54 = .ok (.if_icmp .le 8, 3) := by decide +kernel
theorem dX8_brightestStart_57 : decode cX8_brightestStart 57 = .ok (.iload 5, 2) := by decide +kernel
theorem dX8_brightestStart_59 : decode cX8_brightestStart 59 = .ok (.goto 4, 3) := by decide +kernel
theorem dX8_brightestStart_62 : decode cX8_brightestStart 62 = .ok (.iload_n 3, 1) := by decide +kernel
theorem dX8_brightestStart_63 : decode cX8_brightestStart 63 = .ok (.istore_n 3, 1) := by decide +kernel
theorem dX8_brightestStart_64 : decode cX8_brightestStart 64 = .ok (.iinc 4 1, 3) := by decide +kernel
theorem dX8_brightestStart_67 : decode cX8_brightestStart 67 = .ok (.goto (-46), 3) := by decide +kernel
theorem dX8_brightestStart_70 : decode cX8_brightestStart 70 = .ok (.iload_n 2, 1) := by decide +kernel
theorem dX8_brightestStart_71 : decode cX8_brightestStart 71 = .ok (.ireturn, 1) := by decide +kernel
theorem dX8_common_0 : decode cX8_common 0 = .ok (.iload_n 0, 1) := by decide +kernel
theorem dX8_common_1 : decode cX8_common 1 = .ok (.istore_n 2, 1) := by decide +kernel
theorem dX8_common_2 : decode cX8_common 2 = .ok (.iload_n 1, 1) := by decide +kernel
theorem dX8_common_3 : decode cX8_common 3 = .ok (.istore_n 3, 1) := by decide +kernel
theorem dX8_common_4 : decode cX8_common 4 = .ok (.iload_n 3, 1) := by decide +kernel
theorem dX8_common_5 : decode cX8_common 5 = .ok (.ifCond .eq 16, 3) := by decide +kernel
theorem dX8_common_8 : decode cX8_common 8 = .ok (.iload_n 2, 1) := by decide +kernel
theorem dX8_common_9 : decode cX8_common 9 = .ok (.iload_n 3, 1) := by decide +kernel
theorem dX8_common_10 : decode cX8_common 10 = .ok (.irem, 1) := by decide +kernel
theorem dX8_common_11 : decode cX8_common 11 = .ok (.istore 4, 2) := by decide +kernel
theorem dX8_common_13 : decode cX8_common 13 = .ok (.iload_n 3, 1) := by decide +kernel
theorem dX8_common_14 : decode cX8_common 14 = .ok (.istore_n 2, 1) := by decide +kernel
theorem dX8_common_15 : decode cX8_common 15 = .ok (.iload 4, 2) := by decide +kernel
theorem dX8_common_17 : decode cX8_common 17 = .ok (.istore_n 3, 1) := by decide +kernel
theorem dX8_common_18 : decode cX8_common 18 = .ok (.goto (-14), 3) := by decide +kernel
theorem dX8_common_21 : decode cX8_common 21 = .ok (.iload_n 2, 1) := by decide +kernel
theorem dX8_common_22 : decode cX8_common 22 = .ok (.ireturn, 1) := by decide +kernel
theorem dX8_overlayPeriod_0 : decode cX8_overlayPeriod 0 = .ok (.aload_n 0, 1) := by decide +kernel
theorem dX8_overlayPeriod_1 : decode cX8_overlayPeriod 1 = .ok (.getfield 44, 3) := by decide +kernel
theorem dX8_overlayPeriod_4 : decode cX8_overlayPeriod 4 = .ok (.aload_n 0, 1) := by decide +kernel
theorem dX8_overlayPeriod_5 : decode cX8_overlayPeriod 5 = .ok (.getfield 44, 3) := by decide +kernel
theorem dX8_overlayPeriod_8 : decode cX8_overlayPeriod 8 = .ok (.aload_n 0, 1) := by decide +kernel
theorem dX8_overlayPeriod_9 : decode cX8_overlayPeriod 9 = .ok (.getfield 22, 3) := by decide +kernel
theorem dX8_overlayPeriod_12 : decode cX8_overlayPeriod 12 = .ok (.bipush 6, 2) := by decide +kernel
theorem dX8_overlayPeriod_14 : decode cX8_overlayPeriod 14 = .ok (.iaload, 1) := by decide +kernel
theorem dX8_overlayPeriod_15 : decode cX8_overlayPeriod 15 = .ok (.invokestatic 171, 3) := by decide +kernel
theorem dX8_overlayPeriod_18 : decode cX8_overlayPeriod 18 = .ok (.idiv, 1) := by decide +kernel
theorem dX8_overlayPeriod_19 : decode cX8_overlayPeriod 19 = .ok (.aload_n 0, 1) := by decide +kernel
theorem dX8_overlayPeriod_20 : decode cX8_overlayPeriod 20 = .ok (.getfield 22, 3) := by decide +kernel
theorem dX8_overlayPeriod_23 : decode cX8_overlayPeriod 23 = .ok (.bipush 6, 2) := by decide +kernel
theorem dX8_overlayPeriod_25 : decode cX8_overlayPeriod 25 = .ok (.iaload, 1) := by decide +kernel
theorem dX8_overlayPeriod_26 : decode cX8_overlayPeriod 26 = .ok (.imul, 1) := by decide +kernel
theorem dX8_overlayPeriod_27 : decode cX8_overlayPeriod 27 = .ok (.ireturn, 1) := by decide +kernel
theorem dX8_fringe_0 : decode cX8_fringe 0 = .ok (.aload_n 0, 1) := by decide +kernel
theorem dX8_fringe_1 : decode cX8_fringe 1 = .ok (.getfield 44, 3) := by decide +kernel
theorem dX8_fringe_4 : decode cX8_fringe 4 = .ok (.aload_n 0, 1) := by decide +kernel
theorem dX8_fringe_5 : decode cX8_fringe 5 = .ok (.getfield 22, 3) := by decide +kernel
theorem dX8_fringe_8 : decode cX8_fringe 8 = .ok (.bipush 6, 2) := by decide +kernel
theorem dX8_fringe_10 : decode cX8_fringe 10 = .ok (.iaload, 1) := by decide +kernel
theorem dX8_fringe_11 : decode cX8_fringe 11 = .ok (.imul, 1) := by decide +kernel
theorem dX8_fringe_12 : decode cX8_fringe 12 = .ok (.istore_n 2, 1) := by decide +kernel
theorem dX8_fringe_13 : decode cX8_fringe 13 = .ok (.aload_n 0, 1) := by decide +kernel
theorem dX8_fringe_14 : decode cX8_fringe 14 = .ok (.getfield 44, 3) := by decide +kernel
theorem dX8_fringe_17 : decode cX8_fringe 17 = .ok (.aload_n 0, 1) := by decide +kernel
theorem dX8_fringe_18 : decode cX8_fringe 18 = .ok (.getfield 22, 3) := by decide +kernel
theorem dX8_fringe_21 : decode cX8_fringe 21 = .ok (.bipush 6, 2) := by decide +kernel
theorem dX8_fringe_23 : decode cX8_fringe 23 = .ok (.iaload, 1) := by decide +kernel
theorem dX8_fringe_24 : decode cX8_fringe 24 = .ok (.invokestatic 149, 3) := by decide +kernel
theorem dX8_fringe_27 : decode cX8_fringe 27 = .ok (.istore_n 3, 1) := by decide +kernel
theorem dX8_fringe_28 : decode cX8_fringe 28 = .ok (.iload_n 3, 1) := by decide +kernel
theorem dX8_fringe_29 : decode cX8_fringe 29 = .ok (.ifCond .ne 6, 3) := by decide +kernel
theorem dX8_fringe_32 : decode cX8_fringe 32 = .ok (.bipush (-4), 2) := by decide +kernel
theorem dX8_fringe_34 : decode cX8_fringe 34 = .ok (.ireturn, 1) := by decide +kernel
theorem dX8_fringe_35 : decode cX8_fringe 35 = .ok (.iload_n 2, 1) := by decide +kernel
theorem dX8_fringe_36 : decode cX8_fringe 36 = .ok (.iload_n 3, 1) := by decide +kernel
theorem dX8_fringe_37 : decode cX8_fringe 37 = .ok (.invokestatic 171, 3) := by decide +kernel
theorem dX8_fringe_40 : decode cX8_fringe 40 = .ok (.istore 4, 2) := by decide +kernel
theorem dX8_fringe_42 : decode cX8_fringe 42 = .ok (.iload_n 1, 1) := by decide +kernel
theorem dX8_fringe_43 : decode cX8_fringe 43 = .ok (.ifCond .eq 10, 3) := by decide +kernel
theorem dX8_fringe_46 : decode cX8_fringe 46 = .ok (.iload_n 2, 1) := by decide +kernel
theorem dX8_fringe_47 : decode cX8_fringe 47 = .ok (.iload 4, 2) := by decide +kernel
theorem dX8_fringe_49 : decode cX8_fringe 49 = .ok (.idiv, 1) := by decide +kernel
theorem dX8_fringe_50 : decode cX8_fringe 50 = .ok (.goto 7, 3) := by decide +kernel
theorem dX8_fringe_53 : decode cX8_fringe 53 = .ok (.iload_n 3, 1) := by decide +kernel
theorem dX8_fringe_54 : decode cX8_fringe 54 = .ok (.iload 4, 2) := by decide +kernel
theorem dX8_fringe_56 : decode cX8_fringe 56 = .ok (.idiv, 1) := by decide +kernel
theorem dX8_fringe_57 : decode cX8_fringe 57 = .ok (.ireturn, 1) := by decide +kernel
theorem dX8_fringePeriodNumerator_0 : decode cX8_fringePeriodNumerator 0 = .ok (.aload_n 0, 1) := by decide +kernel
theorem dX8_fringePeriodNumerator_1 : decode cX8_fringePeriodNumerator 1 = .ok (.iconst 1, 1) := by decide +kernel
theorem dX8_fringePeriodNumerator_2 : decode cX8_fringePeriodNumerator 2 = .ok (.invokevirtual 174, 3) := by decide +kernel
theorem dX8_fringePeriodNumerator_5 : decode cX8_fringePeriodNumerator 5 = .ok (.ireturn, 1) := by decide +kernel
theorem dX8_fringePeriodDenominator_0 : decode cX8_fringePeriodDenominator 0 = .ok (.aload_n 0, 1) := by decide +kernel
theorem dX8_fringePeriodDenominator_1 : decode cX8_fringePeriodDenominator 1 = .ok (.iconst 0, 1) := by decide +kernel
theorem dX8_fringePeriodDenominator_2 : decode cX8_fringePeriodDenominator 2 = .ok (.invokevirtual 174, 3) := by decide +kernel
theorem dX8_fringePeriodDenominator_5 : decode cX8_fringePeriodDenominator 5 = .ok (.ireturn, 1) := by decide +kernel
theorem dX8_magnificationBits_0 : decode cX8_magnificationBits 0 = .ok (.aload_n 0, 1) := by decide +kernel
theorem dX8_magnificationBits_1 : decode cX8_magnificationBits 1 = .ok (.getfield 44, 3) := by decide +kernel
theorem dX8_magnificationBits_4 : decode cX8_magnificationBits 4 = .ok (.aload_n 0, 1) := by decide +kernel
theorem dX8_magnificationBits_5 : decode cX8_magnificationBits 5 = .ok (.getfield 22, 3) := by decide +kernel
theorem dX8_magnificationBits_8 : decode cX8_magnificationBits 8 = .ok (.bipush 6, 2) := by decide +kernel
theorem dX8_magnificationBits_10 : decode cX8_magnificationBits 10 = .ok (.iaload, 1) := by decide +kernel
theorem dX8_magnificationBits_11 : decode cX8_magnificationBits 11 = .ok (.invokestatic 149, 3) := by decide +kernel
theorem dX8_magnificationBits_14 : decode cX8_magnificationBits 14 = .ok (.istore_n 1, 1) := by decide +kernel
theorem dX8_magnificationBits_15 : decode cX8_magnificationBits 15 = .ok (.iload_n 1, 1) := by decide +kernel
theorem dX8_magnificationBits_16 : decode cX8_magnificationBits 16 = .ok (.ifCond .ne 8, 3) := by decide +kernel
theorem dX8_magnificationBits_19 : decode cX8_magnificationBits 19 = .ok (.bipush (-4), 2) := by decide +kernel
theorem dX8_magnificationBits_21 : decode cX8_magnificationBits 21 = .ok (.goto 17, 3) := by decide +kernel
theorem dX8_magnificationBits_24 : decode cX8_magnificationBits 24 = .ok (.aload_n 0, 1) := by decide +kernel
theorem dX8_magnificationBits_25 : decode cX8_magnificationBits 25 = .ok (.getfield 22, 3) := by decide +kernel
theorem dX8_magnificationBits_28 : decode cX8_magnificationBits 28 = .ok (.bipush 6, 2) := by decide +kernel
theorem dX8_magnificationBits_30 : decode cX8_magnificationBits 30 = .ok (.iaload, 1) := by decide +kernel
theorem dX8_magnificationBits_31 : decode cX8_magnificationBits 31 = .ok (.i2f, 1) := by decide +kernel
theorem dX8_magnificationBits_32 : decode cX8_magnificationBits 32 = .ok (.iload_n 1, 1) := by decide +kernel
theorem dX8_magnificationBits_33 : decode cX8_magnificationBits 33 = .ok (.i2f, 1) := by decide +kernel
theorem dX8_magnificationBits_34 : decode cX8_magnificationBits 34 = .ok (.fdiv, 1) := by decide +kernel
theorem dX8_magnificationBits_35 : decode cX8_magnificationBits 35 = .ok (.invokestatic 152, 3) := by decide +kernel
theorem dX8_magnificationBits_38 : decode cX8_magnificationBits 38 = .ok (.ireturn, 1) := by decide +kernel
theorem dX8_crossedSpacingBits_0 : decode cX8_crossedSpacingBits 0 = .ok (.iload_n 1, 1) := by decide +kernel
theorem dX8_crossedSpacingBits_1 : decode cX8_crossedSpacingBits 1 = .ok (.i2l, 1) := by decide +kernel
theorem dX8_crossedSpacingBits_2 : decode cX8_crossedSpacingBits 2 = .ok (.lconst 1, 1) := by decide +kernel
theorem dX8_crossedSpacingBits_3 : decode cX8_crossedSpacingBits 3 = .ok (.ldc2_w 112, 3) := by decide +kernel
theorem dX8_crossedSpacingBits_6 : decode cX8_crossedSpacingBits 6 = .ok (.invokestatic 57, 3) := by decide +kernel
theorem dX8_crossedSpacingBits_9 : decode cX8_crossedSpacingBits 9 = .ok (.ifCond .eq 15, 3) := by decide +kernel
theorem dX8_crossedSpacingBits_12 : decode cX8_crossedSpacingBits 12 = .ok (.iload_n 2, 1) := by decide +kernel
theorem dX8_crossedSpacingBits_13 : decode cX8_crossedSpacingBits 13 = .ok (.i2l, 1) := by decide +kernel
theorem dX8_crossedSpacingBits_14 : decode cX8_crossedSpacingBits 14 = .ok (.lconst 1, 1) := by decide +kernel
theorem dX8_crossedSpacingBits_15 : decode cX8_crossedSpacingBits 15 = .ok (.ldc2_w 164, 3) := by decide +kernel
theorem dX8_crossedSpacingBits_18 : decode cX8_crossedSpacingBits 18 = .ok (.invokestatic 57, 3) := by decide +kernel
theorem dX8_crossedSpacingBits_21 : decode cX8_crossedSpacingBits 21 = .ok (.ifCond .ne 5, 3) := by decide +kernel
theorem dX8_crossedSpacingBits_24 : decode cX8_crossedSpacingBits 24 = .ok (.iconst (-1), 1) := by decide +kernel
theorem dX8_crossedSpacingBits_25 : decode cX8_crossedSpacingBits 25 = .ok (.ireturn, 1) := by decide +kernel
theorem dX8_crossedSpacingBits_26 : decode cX8_crossedSpacingBits 26 = .ok (.aload_n 0, 1) := by decide +kernel
theorem dX8_crossedSpacingBits_27 : decode cX8_crossedSpacingBits 27 = .ok (.getfield 44, 3) := by decide +kernel
theorem dX8_crossedSpacingBits_30 : decode cX8_crossedSpacingBits 30 = .ok (.i2f, 1) := by decide +kernel
theorem dX8_crossedSpacingBits_31 : decode cX8_crossedSpacingBits 31 = .ok (.iload_n 2, 1) := by decide +kernel
theorem dX8_crossedSpacingBits_32 : decode cX8_crossedSpacingBits 32 = .ok (.i2f, 1) := by decide +kernel
theorem dX8_crossedSpacingBits_33 : decode cX8_crossedSpacingBits 33 = .ok (.fmul, 1) := by decide +kernel
theorem dX8_crossedSpacingBits_34 : decode cX8_crossedSpacingBits 34 = .ok (.fstore_n 3, 1) := by decide +kernel
theorem dX8_crossedSpacingBits_35 : decode cX8_crossedSpacingBits 35 = .ok (.fload_n 3, 1) := by decide +kernel
theorem dX8_crossedSpacingBits_36 : decode cX8_crossedSpacingBits 36 = .ok (.iload_n 1, 1) := by decide +kernel
theorem dX8_crossedSpacingBits_37 : decode cX8_crossedSpacingBits 37 = .ok (.i2f, 1) := by decide +kernel
theorem dX8_crossedSpacingBits_38 : decode cX8_crossedSpacingBits 38 = .ok (.fdiv, 1) := by decide +kernel
theorem dX8_crossedSpacingBits_39 : decode cX8_crossedSpacingBits 39 = .ok (.invokestatic 152, 3) := by decide +kernel
theorem dX8_crossedSpacingBits_42 : decode cX8_crossedSpacingBits 42 = .ok (.ireturn, 1) := by decide +kernel
