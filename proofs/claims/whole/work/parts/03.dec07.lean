theorem zd_W_init_0 : decode zc_W_init 0 = .ok (.aload_n 0, 1) := by decide +kernel
theorem zd_W_init_1 : decode zc_W_init 1 = .ok (.invokespecial 3, 3) := by decide +kernel
theorem zd_W_init_4 : decode zc_W_init 4 = .ok (.aload_n 0, 1) := by decide +kernel
theorem zd_W_init_5 : decode zc_W_init 5 = .ok (.bipush 9, 2) := by decide +kernel
theorem zd_W_init_7 : decode zc_W_init 7 = .ok (.newarray .boolean, 2) := by decide +kernel
theorem zd_W_init_9 : decode zc_W_init 9 = .ok (.putfield 9, 3) := by decide +kernel
theorem zd_W_init_12 : decode zc_W_init 12 = .ok (.aload_n 0, 1) := by decide +kernel
theorem zd_W_init_13 : decode zc_W_init 13 = .ok (.aload_n 1, 1) := by decide +kernel
theorem zd_W_init_14 : decode zc_W_init 14 = .ok (.putfield 15, 3) := by decide +kernel
theorem zd_W_init_17 : decode zc_W_init 17 = .ok (.return_, 1) := by decide +kernel
theorem zd_W_begin_0 : decode zc_W_begin 0 = .ok (.aload_n 0, 1) := by decide +kernel
theorem zd_W_begin_1 : decode zc_W_begin 1 = .ok (.new 19, 3) := by decide +kernel
theorem zd_W_begin_4 : decode zc_W_begin 4 = .ok (.dup, 1) := by decide +kernel
theorem zd_W_begin_5 : decode zc_W_begin 5 = .ok (.aload_n 0, 1) := by decide +kernel
theorem zd_W_begin_6 : decode zc_W_begin 6 = .ok (.getfield 15, 3) := by decide +kernel
theorem zd_W_begin_9 : decode zc_W_begin 9 = .ok (.getfield 21, 3) := by decide +kernel
theorem zd_W_begin_12 : decode zc_W_begin 12 = .ok (.iconst 1, 1) := by decide +kernel
theorem zd_W_begin_13 : decode zc_W_begin 13 = .ok (.iadd, 1) := by decide +kernel
theorem zd_W_begin_14 : decode zc_W_begin 14 = .ok (.iload_n 1, 1) := by decide +kernel
theorem zd_W_begin_15 : decode zc_W_begin 15 = .ok (.iload_n 2, 1) := by decide +kernel
theorem zd_W_begin_16 : decode zc_W_begin 16 = .ok (.invokespecial 25, 3) := by decide +kernel
theorem zd_W_begin_19 : decode zc_W_begin 19 = .ok (.putfield 15, 3) := by decide +kernel
theorem zd_W_begin_22 : decode zc_W_begin 22 = .ok (.aload_n 0, 1) := by decide +kernel
theorem zd_W_begin_23 : decode zc_W_begin 23 = .ok (.iconst 1, 1) := by decide +kernel
theorem zd_W_begin_24 : decode zc_W_begin 24 = .ok (.putfield 28, 3) := by decide +kernel
theorem zd_W_begin_27 : decode zc_W_begin 27 = .ok (.aload_n 0, 1) := by decide +kernel
theorem zd_W_begin_28 : decode zc_W_begin 28 = .ok (.invokevirtual 32, 3) := by decide +kernel
theorem zd_W_begin_31 : decode zc_W_begin 31 = .ok (.return_, 1) := by decide +kernel
theorem zd_W_clearReceipts_0 : decode zc_W_clearReceipts 0 = .ok (.iconst 0, 1) := by decide +kernel
theorem zd_W_clearReceipts_1 : decode zc_W_clearReceipts 1 = .ok (.istore_n 1, 1) := by decide +kernel
theorem zd_W_clearReceipts_2 : decode zc_W_clearReceipts 2 = .ok (.iload_n 1, 1) := by decide +kernel
theorem zd_W_clearReceipts_3 : decode zc_W_clearReceipts 3 = .ok (.bipush 9, 2) := by decide +kernel
theorem zd_W_clearReceipts_5 : decode zc_W_clearReceipts 5 = .ok (.if_icmp .ge 16, 3) := by decide +kernel
theorem zd_W_clearReceipts_8 : decode zc_W_clearReceipts 8 = .ok (.aload_n 0, 1) := by decide +kernel
theorem zd_W_clearReceipts_9 : decode zc_W_clearReceipts 9 = .ok (.getfield 9, 3) := by decide +kernel
theorem zd_W_clearReceipts_12 : decode zc_W_clearReceipts 12 = .ok (.iload_n 1, 1) := by decide +kernel
theorem zd_W_clearReceipts_13 : decode zc_W_clearReceipts 13 = .ok (.iconst 0, 1) := by decide +kernel
theorem zd_W_clearReceipts_14 : decode zc_W_clearReceipts 14 = .ok (.bastore, 1) := by decide +kernel
theorem zd_W_clearReceipts_15 : decode zc_W_clearReceipts 15 = .ok (.iinc 1 1, 3) := by decide +kernel
theorem zd_W_clearReceipts_18 : decode zc_W_clearReceipts 18 = .ok (.goto (-16), 3) := by decide +kernel
theorem zd_W_clearReceipts_21 : decode zc_W_clearReceipts 21 = .ok (.aload_n 0, 1) := by decide +kernel
theorem zd_W_clearReceipts_22 : decode zc_W_clearReceipts 22 = .ok (.iconst 0, 1) := by decide +kernel
theorem zd_W_clearReceipts_23 : decode zc_W_clearReceipts 23 = .ok (.putfield 35, 3) := by decide +kernel
theorem zd_W_clearReceipts_26 : decode zc_W_clearReceipts 26 = .ok (.return_, 1) := by decide +kernel
theorem zd_W_hear_0 : decode zc_W_hear 0 = .ok (.aload_n 0, 1) := by decide +kernel
theorem zd_W_hear_1 : decode zc_W_hear 1 = .ok (.getfield 28, 3) := by decide +kernel
theorem zd_W_hear_4 : decode zc_W_hear 4 = .ok (.ifCond .eq 23, 3) := by decide +kernel
theorem zd_W_hear_7 : decode zc_W_hear 7 = .ok (.iload_n 2, 1) := by decide +kernel
theorem zd_W_hear_8 : decode zc_W_hear 8 = .ok (.aload_n 0, 1) := by decide +kernel
theorem zd_W_hear_9 : decode zc_W_hear 9 = .ok (.getfield 15, 3) := by decide +kernel
theorem zd_W_hear_12 : decode zc_W_hear 12 = .ok (.getfield 21, 3) := by decide +kernel
theorem zd_W_hear_15 : decode zc_W_hear 15 = .ok (.if_icmp .ne 12, 3) := by decide +kernel
theorem zd_W_hear_18 : decode zc_W_hear 18 = .ok (.aload_n 0, 1) := by decide +kernel
theorem zd_W_hear_19 : decode zc_W_hear 19 = .ok (.getfield 9, 3) := by decide +kernel
theorem zd_W_hear_22 : decode zc_W_hear 22 = .ok (.iload_n 1, 1) := by decide +kernel
theorem zd_W_hear_23 : decode zc_W_hear 23 = .ok (.baload, 1) := by decide +kernel
theorem zd_W_hear_24 : decode zc_W_hear 24 = .ok (.ifCond .eq 4, 3) := by decide +kernel
theorem zd_W_hear_27 : decode zc_W_hear 27 = .ok (.return_, 1) := by decide +kernel
theorem zd_W_hear_28 : decode zc_W_hear 28 = .ok (.aload_n 0, 1) := by decide +kernel
theorem zd_W_hear_29 : decode zc_W_hear 29 = .ok (.getfield 9, 3) := by decide +kernel
theorem zd_W_hear_32 : decode zc_W_hear 32 = .ok (.iload_n 1, 1) := by decide +kernel
theorem zd_W_hear_33 : decode zc_W_hear 33 = .ok (.iconst 1, 1) := by decide +kernel
theorem zd_W_hear_34 : decode zc_W_hear 34 = .ok (.bastore, 1) := by decide +kernel
theorem zd_W_hear_35 : decode zc_W_hear 35 = .ok (.aload_n 0, 1) := by decide +kernel
theorem zd_W_hear_36 : decode zc_W_hear 36 = .ok (.dup, 1) := by decide +kernel
theorem zd_W_hear_37 : decode zc_W_hear 37 = .ok (.getfield 35, 3) := by decide +kernel
theorem zd_W_hear_40 : decode zc_W_hear 40 = .ok (.iconst 1, 1) := by decide +kernel
theorem zd_W_hear_41 : decode zc_W_hear 41 = .ok (.iadd, 1) := by decide +kernel
theorem zd_W_hear_42 : decode zc_W_hear 42 = .ok (.putfield 35, 3) := by decide +kernel
theorem zd_W_hear_45 : decode zc_W_hear 45 = .ok (.aload_n 0, 1) := by decide +kernel
theorem zd_W_hear_46 : decode zc_W_hear 46 = .ok (.getfield 35, 3) := by decide +kernel
theorem zd_W_hear_49 : decode zc_W_hear 49 = .ok (.bipush 7, 2) := by decide +kernel
theorem zd_W_hear_51 : decode zc_W_hear 51 = .ok (.if_icmp .lt 13, 3) := by decide +kernel
theorem zd_W_hear_54 : decode zc_W_hear 54 = .ok (.aload_n 0, 1) := by decide +kernel
theorem zd_W_hear_55 : decode zc_W_hear 55 = .ok (.iconst 0, 1) := by decide +kernel
theorem zd_W_hear_56 : decode zc_W_hear 56 = .ok (.putfield 28, 3) := by decide +kernel
theorem zd_W_hear_59 : decode zc_W_hear 59 = .ok (.aload_n 0, 1) := by decide +kernel
theorem zd_W_hear_60 : decode zc_W_hear 60 = .ok (.iload_n 2, 1) := by decide +kernel
theorem zd_W_hear_61 : decode zc_W_hear 61 = .ok (.putfield 38, 3) := by decide +kernel
theorem zd_W_hear_64 : decode zc_W_hear 64 = .ok (.return_, 1) := by decide +kernel
theorem zd_X_init_0 : decode zc_X_init 0 = .ok (.aload_n 0, 1) := by decide +kernel
theorem zd_X_init_1 : decode zc_X_init 1 = .ok (.invokespecial 1, 3) := by decide +kernel
theorem zd_X_init_4 : decode zc_X_init 4 = .ok (.aload_n 0, 1) := by decide +kernel
theorem zd_X_init_5 : decode zc_X_init 5 = .ok (.iconst 1, 1) := by decide +kernel
theorem zd_X_init_6 : decode zc_X_init 6 = .ok (.bipush 9, 2) := by decide +kernel
theorem zd_X_init_8 : decode zc_X_init 8 = .ok (.iload_n 1, 1) := by decide +kernel
theorem zd_X_init_9 : decode zc_X_init 9 = .ok (.invokestatic 9, 3) := by decide +kernel
theorem zd_X_init_12 : decode zc_X_init 12 = .ok (.invokestatic 15, 3) := by decide +kernel
theorem zd_X_init_15 : decode zc_X_init 15 = .ok (.putfield 18, 3) := by decide +kernel
theorem zd_X_init_18 : decode zc_X_init 18 = .ok (.new 22, 3) := by decide +kernel
theorem zd_X_init_21 : decode zc_X_init 21 = .ok (.dup, 1) := by decide +kernel
theorem zd_X_init_22 : decode zc_X_init 22 = .ok (.iconst 0, 1) := by decide +kernel
theorem zd_X_init_23 : decode zc_X_init 23 = .ok (.iconst 0, 1) := by decide +kernel
theorem zd_X_init_24 : decode zc_X_init 24 = .ok (.iconst 0, 1) := by decide +kernel
theorem zd_X_init_25 : decode zc_X_init 25 = .ok (.invokespecial 24, 3) := by decide +kernel
theorem zd_X_init_28 : decode zc_X_init 28 = .ok (.astore_n 2, 1) := by decide +kernel
theorem zd_X_init_29 : decode zc_X_init 29 = .ok (.aload_n 0, 1) := by decide +kernel
theorem zd_X_init_30 : decode zc_X_init 30 = .ok (.bipush 9, 2) := by decide +kernel
theorem zd_X_init_32 : decode zc_X_init 32 = .ok (.anewarray 27, 3) := by decide +kernel
theorem zd_X_init_35 : decode zc_X_init 35 = .ok (.putfield 29, 3) := by decide +kernel
theorem zd_X_init_38 : decode zc_X_init 38 = .ok (.iconst 0, 1) := by decide +kernel
theorem zd_X_init_39 : decode zc_X_init 39 = .ok (.istore_n 3, 1) := by decide +kernel
theorem zd_X_init_40 : decode zc_X_init 40 = .ok (.iload_n 3, 1) := by decide +kernel
theorem zd_X_init_41 : decode zc_X_init 41 = .ok (.bipush 9, 2) := by decide +kernel
theorem zd_X_init_43 : decode zc_X_init 43 = .ok (.if_icmp .ge 23, 3) := by decide +kernel
theorem zd_X_init_46 : decode zc_X_init 46 = .ok (.aload_n 0, 1) := by decide +kernel
theorem zd_X_init_47 : decode zc_X_init 47 = .ok (.getfield 29, 3) := by decide +kernel
theorem zd_X_init_50 : decode zc_X_init 50 = .ok (.iload_n 3, 1) := by decide +kernel
theorem zd_X_init_51 : decode zc_X_init 51 = .ok (.new 27, 3) := by decide +kernel
theorem zd_X_init_54 : decode zc_X_init 54 = .ok (.dup, 1) := by decide +kernel
theorem zd_X_init_55 : decode zc_X_init 55 = .ok (.aload_n 2, 1) := by decide +kernel
theorem zd_X_init_56 : decode zc_X_init 56 = .ok (.invokespecial 33, 3) := by decide +kernel
theorem zd_X_init_59 : decode zc_X_init 59 = .ok (.aastore, 1) := by decide +kernel
theorem zd_X_init_60 : decode zc_X_init 60 = .ok (.iinc 3 1, 3) := by decide +kernel
theorem zd_X_init_63 : decode zc_X_init 63 = .ok (.goto (-23), 3) := by decide +kernel
theorem zd_X_init_66 : decode zc_X_init 66 = .ok (.aload_n 0, 1) := by decide +kernel
theorem zd_X_init_67 : decode zc_X_init 67 = .ok (.iconst 4, 1) := by decide +kernel
theorem zd_X_init_68 : decode zc_X_init 68 = .ok (.anewarray 36, 3) := by decide +kernel
theorem zd_X_init_71 : decode zc_X_init 71 = .ok (.putfield 38, 3) := by decide +kernel
theorem zd_X_init_74 : decode zc_X_init 74 = .ok (.iconst 0, 1) := by decide +kernel
theorem zd_X_init_75 : decode zc_X_init 75 = .ok (.istore_n 3, 1) := by decide +kernel
theorem zd_X_init_76 : decode zc_X_init 76 = .ok (.iload_n 3, 1) := by decide +kernel
theorem zd_X_init_77 : decode zc_X_init 77 = .ok (.iconst 4, 1) := by decide +kernel
theorem zd_X_init_78 : decode zc_X_init 78 = .ok (.if_icmp .ge 23, 3) := by decide +kernel
theorem zd_X_init_81 : decode zc_X_init 81 = .ok (.aload_n 0, 1) := by decide +kernel
theorem zd_X_init_82 : decode zc_X_init 82 = .ok (.getfield 38, 3) := by decide +kernel
theorem zd_X_init_85 : decode zc_X_init 85 = .ok (.iload_n 3, 1) := by decide +kernel
theorem zd_X_init_86 : decode zc_X_init 86 = .ok (.new 36, 3) := by decide +kernel
theorem zd_X_init_89 : decode zc_X_init 89 = .ok (.dup, 1) := by decide +kernel
theorem zd_X_init_90 : decode zc_X_init 90 = .ok (.aload_n 2, 1) := by decide +kernel
theorem zd_X_init_91 : decode zc_X_init 91 = .ok (.invokespecial 42, 3) := by decide +kernel
theorem zd_X_init_94 : decode zc_X_init 94 = .ok (.aastore, 1) := by decide +kernel
theorem zd_X_init_95 : decode zc_X_init 95 = .ok (.iinc 3 1, 3) := by decide +kernel
theorem zd_X_init_98 : decode zc_X_init 98 = .ok (.goto (-22), 3) := by decide +kernel
theorem zd_X_init_101 : decode zc_X_init 101 = .ok (.aload_n 0, 1) := by decide +kernel
theorem zd_X_init_102 : decode zc_X_init 102 = .ok (.iconst 3, 1) := by decide +kernel
theorem zd_X_init_103 : decode zc_X_init 103 = .ok (.anewarray 43, 3) := by decide +kernel
theorem zd_X_init_106 : decode zc_X_init 106 = .ok (.putfield 45, 3) := by decide +kernel
theorem zd_X_init_109 : decode zc_X_init 109 = .ok (.iconst 0, 1) := by decide +kernel
theorem zd_X_init_110 : decode zc_X_init 110 = .ok (.istore_n 3, 1) := by decide +kernel
theorem zd_X_init_111 : decode zc_X_init 111 = .ok (.iload_n 3, 1) := by decide +kernel
theorem zd_X_init_112 : decode zc_X_init 112 = .ok (.iconst 3, 1) := by decide +kernel
theorem zd_X_init_113 : decode zc_X_init 113 = .ok (.if_icmp .ge 23, 3) := by decide +kernel
theorem zd_X_init_116 : decode zc_X_init 116 = .ok (.aload_n 0, 1) := by decide +kernel
theorem zd_X_init_117 : decode zc_X_init 117 = .ok (.getfield 45, 3) := by decide +kernel
theorem zd_X_init_120 : decode zc_X_init 120 = .ok (.iload_n 3, 1) := by decide +kernel
theorem zd_X_init_121 : decode zc_X_init 121 = .ok (.new 43, 3) := by decide +kernel
theorem zd_X_init_124 : decode zc_X_init 124 = .ok (.dup, 1) := by decide +kernel
theorem zd_X_init_125 : decode zc_X_init 125 = .ok (.aload_n 2, 1) := by decide +kernel
theorem zd_X_init_126 : decode zc_X_init 126 = .ok (.invokespecial 49, 3) := by decide +kernel
theorem zd_X_init_129 : decode zc_X_init 129 = .ok (.aastore, 1) := by decide +kernel
theorem zd_X_init_130 : decode zc_X_init 130 = .ok (.iinc 3 1, 3) := by decide +kernel
theorem zd_X_init_133 : decode zc_X_init 133 = .ok (.goto (-22), 3) := by decide +kernel
theorem zd_X_init_136 : decode zc_X_init 136 = .ok (.aload_n 0, 1) := by decide +kernel
theorem zd_X_init_137 : decode zc_X_init 137 = .ok (.new 50, 3) := by decide +kernel
theorem zd_X_init_140 : decode zc_X_init 140 = .ok (.dup, 1) := by decide +kernel
theorem zd_X_init_141 : decode zc_X_init 141 = .ok (.invokespecial 52, 3) := by decide +kernel
theorem zd_X_init_144 : decode zc_X_init 144 = .ok (.putfield 53, 3) := by decide +kernel
theorem zd_X_init_147 : decode zc_X_init 147 = .ok (.aload_n 0, 1) := by decide +kernel
theorem zd_X_init_148 : decode zc_X_init 148 = .ok (.iconst 4, 1) := by decide +kernel
theorem zd_X_init_149 : decode zc_X_init 149 = .ok (.newarray .int, 2) := by decide +kernel
theorem zd_X_init_151 : decode zc_X_init 151 = .ok (.putfield 57, 3) := by decide +kernel
theorem zd_X_init_154 : decode zc_X_init 154 = .ok (.aload_n 0, 1) := by decide +kernel
theorem zd_X_init_155 : decode zc_X_init 155 = .ok (.iconst 4, 1) := by decide +kernel
theorem zd_X_init_156 : decode zc_X_init 156 = .ok (.anewarray 22, 3) := by decide +kernel
theorem zd_X_init_159 : decode zc_X_init 159 = .ok (.putfield 61, 3) := by decide +kernel
theorem zd_X_init_162 : decode zc_X_init 162 = .ok (.aload_n 0, 1) := by decide +kernel
theorem zd_X_init_163 : decode zc_X_init 163 = .ok (.iconst 3, 1) := by decide +kernel
theorem zd_X_init_164 : decode zc_X_init 164 = .ok (.newarray .boolean, 2) := by decide +kernel
theorem zd_X_init_166 : decode zc_X_init 166 = .ok (.putfield 65, 3) := by decide +kernel
theorem zd_X_init_169 : decode zc_X_init 169 = .ok (.aload_n 0, 1) := by decide +kernel
theorem zd_X_init_170 : decode zc_X_init 170 = .ok (.iconst 3, 1) := by decide +kernel
theorem zd_X_init_171 : decode zc_X_init 171 = .ok (.newarray .int, 2) := by decide +kernel
theorem zd_X_init_173 : decode zc_X_init 173 = .ok (.putfield 69, 3) := by decide +kernel
theorem zd_X_init_176 : decode zc_X_init 176 = .ok (.return_, 1) := by decide +kernel
theorem zd_X_hall_0 : decode zc_X_hall 0 = .ok (.iload_n 1, 1) := by decide +kernel
theorem zd_X_hall_1 : decode zc_X_hall 1 = .ok (.invokestatic 72, 3) := by decide +kernel
theorem zd_X_hall_4 : decode zc_X_hall 4 = .ok (.ifCond .eq 10, 3) := by decide +kernel
theorem zd_X_hall_7 : decode zc_X_hall 7 = .ok (.iload_n 2, 1) := by decide +kernel
theorem zd_X_hall_8 : decode zc_X_hall 8 = .ok (.invokestatic 76, 3) := by decide +kernel
theorem zd_X_hall_11 : decode zc_X_hall 11 = .ok (.ifCond .ne 5, 3) := by decide +kernel
theorem zd_X_hall_14 : decode zc_X_hall 14 = .ok (.iconst 0, 1) := by decide +kernel
theorem zd_X_hall_15 : decode zc_X_hall 15 = .ok (.ireturn, 1) := by decide +kernel
theorem zd_X_hall_16 : decode zc_X_hall 16 = .ok (.aload_n 0, 1) := by decide +kernel
theorem zd_X_hall_17 : decode zc_X_hall 17 = .ok (.getfield 57, 3) := by decide +kernel
theorem zd_X_hall_20 : decode zc_X_hall 20 = .ok (.iload_n 1, 1) := by decide +kernel
theorem zd_X_hall_21 : decode zc_X_hall 21 = .ok (.iload_n 2, 1) := by decide +kernel
theorem zd_X_hall_22 : decode zc_X_hall 22 = .ok (.iastore, 1) := by decide +kernel
theorem zd_X_hall_23 : decode zc_X_hall 23 = .ok (.iconst 1, 1) := by decide +kernel
theorem zd_X_hall_24 : decode zc_X_hall 24 = .ok (.ireturn, 1) := by decide +kernel
theorem zd_X_write_0 : decode zc_X_write 0 = .ok (.iload_n 1, 1) := by decide +kernel
theorem zd_X_write_1 : decode zc_X_write 1 = .ok (.invokestatic 72, 3) := by decide +kernel
theorem zd_X_write_4 : decode zc_X_write 4 = .ok (.ifCond .eq 20, 3) := by decide +kernel
theorem zd_X_write_7 : decode zc_X_write 7 = .ok (.iload_n 2, 1) := by decide +kernel
theorem zd_X_write_8 : decode zc_X_write 8 = .ok (.iload_n 3, 1) := by decide +kernel
theorem zd_X_write_9 : decode zc_X_write 9 = .ok (.if_icmp .gt 15, 3) := by decide +kernel
theorem zd_X_write_12 : decode zc_X_write 12 = .ok (.aload_n 0, 1) := by decide +kernel
theorem zd_X_write_13 : decode zc_X_write 13 = .ok (.getfield 38, 3) := by decide +kernel
theorem zd_X_write_16 : decode zc_X_write 16 = .ok (.iload_n 1, 1) := by decide +kernel
theorem zd_X_write_17 : decode zc_X_write 17 = .ok (.aaload, 1) := by decide +kernel
theorem zd_X_write_18 : decode zc_X_write 18 = .ok (.getfield 79, 3) := by decide +kernel
theorem zd_X_write_21 : decode zc_X_write 21 = .ok (.ifCond .eq 5, 3) := by decide +kernel
theorem zd_X_write_24 : decode zc_X_write 24 = .ok (.iconst (-1), 1) := by decide +kernel
theorem zd_X_write_25 : decode zc_X_write 25 = .ok (.ireturn, 1) := by decide +kernel
theorem zd_X_write_26 : decode zc_X_write 26 = .ok (.aload_n 0, 1) := by decide +kernel
theorem zd_X_write_27 : decode zc_X_write 27 = .ok (.getfield 38, 3) := by decide +kernel
theorem zd_X_write_30 : decode zc_X_write 30 = .ok (.iload_n 1, 1) := by decide +kernel
theorem zd_X_write_31 : decode zc_X_write 31 = .ok (.aaload, 1) := by decide +kernel
theorem zd_X_write_32 : decode zc_X_write 32 = .ok (.iload_n 2, 1) := by decide +kernel
theorem zd_X_write_33 : decode zc_X_write 33 = .ok (.iload_n 3, 1) := by decide +kernel
theorem zd_X_write_34 : decode zc_X_write 34 = .ok (.invokevirtual 83, 3) := by decide +kernel
theorem zd_X_write_37 : decode zc_X_write 37 = .ok (.aload_n 0, 1) := by decide +kernel
theorem zd_X_write_38 : decode zc_X_write 38 = .ok (.iload_n 1, 1) := by decide +kernel
theorem zd_X_write_39 : decode zc_X_write 39 = .ok (.invokevirtual 87, 3) := by decide +kernel
theorem zd_X_write_42 : decode zc_X_write 42 = .ok (.pop, 1) := by decide +kernel
theorem zd_X_write_43 : decode zc_X_write 43 = .ok (.aload_n 0, 1) := by decide +kernel
theorem zd_X_write_44 : decode zc_X_write 44 = .ok (.getfield 38, 3) := by decide +kernel
theorem zd_X_write_47 : decode zc_X_write 47 = .ok (.iload_n 1, 1) := by decide +kernel
theorem zd_X_write_48 : decode zc_X_write 48 = .ok (.aaload, 1) := by decide +kernel
theorem zd_X_write_49 : decode zc_X_write 49 = .ok (.getfield 91, 3) := by decide +kernel
theorem zd_X_write_52 : decode zc_X_write 52 = .ok (.getfield 95, 3) := by decide +kernel
theorem zd_X_write_55 : decode zc_X_write 55 = .ok (.ireturn, 1) := by decide +kernel
theorem zd_X_read_0 : decode zc_X_read 0 = .ok (.iload_n 1, 1) := by decide +kernel
theorem zd_X_read_1 : decode zc_X_read 1 = .ok (.invokestatic 98, 3) := by decide +kernel
theorem zd_X_read_4 : decode zc_X_read 4 = .ok (.ifCond .eq 22, 3) := by decide +kernel
theorem zd_X_read_7 : decode zc_X_read 7 = .ok (.iload_n 2, 1) := by decide +kernel
theorem zd_X_read_8 : decode zc_X_read 8 = .ok (.invokestatic 72, 3) := by decide +kernel
theorem zd_X_read_11 : decode zc_X_read 11 = .ok (.ifCond .eq 15, 3) := by decide +kernel
theorem zd_X_read_14 : decode zc_X_read 14 = .ok (.aload_n 0, 1) := by decide +kernel
theorem zd_X_read_15 : decode zc_X_read 15 = .ok (.getfield 45, 3) := by decide +kernel
theorem zd_X_read_18 : decode zc_X_read 18 = .ok (.iload_n 1, 1) := by decide +kernel
theorem zd_X_read_19 : decode zc_X_read 19 = .ok (.aaload, 1) := by decide +kernel
theorem zd_X_read_20 : decode zc_X_read 20 = .ok (.invokevirtual 101, 3) := by decide +kernel
theorem zd_X_read_23 : decode zc_X_read 23 = .ok (.ifCond .eq 5, 3) := by decide +kernel
theorem zd_X_read_26 : decode zc_X_read 26 = .ok (.iconst (-1), 1) := by decide +kernel
theorem zd_X_read_27 : decode zc_X_read 27 = .ok (.ireturn, 1) := by decide +kernel
theorem zd_X_read_28 : decode zc_X_read 28 = .ok (.aload_n 0, 1) := by decide +kernel
theorem zd_X_read_29 : decode zc_X_read 29 = .ok (.getfield 45, 3) := by decide +kernel
theorem zd_X_read_32 : decode zc_X_read 32 = .ok (.iload_n 1, 1) := by decide +kernel
theorem zd_X_read_33 : decode zc_X_read 33 = .ok (.aaload, 1) := by decide +kernel
theorem zd_X_read_34 : decode zc_X_read 34 = .ok (.iload_n 2, 1) := by decide +kernel
theorem zd_X_read_35 : decode zc_X_read 35 = .ok (.invokevirtual 105, 3) := by decide +kernel
theorem zd_X_read_38 : decode zc_X_read 38 = .ok (.aload_n 0, 1) := by decide +kernel
theorem zd_X_read_39 : decode zc_X_read 39 = .ok (.iload_n 1, 1) := by decide +kernel
theorem zd_X_read_40 : decode zc_X_read 40 = .ok (.invokevirtual 108, 3) := by decide +kernel
theorem zd_X_read_43 : decode zc_X_read 43 = .ok (.pop, 1) := by decide +kernel
theorem zd_X_read_44 : decode zc_X_read 44 = .ok (.aload_n 0, 1) := by decide +kernel
theorem zd_X_read_45 : decode zc_X_read 45 = .ok (.getfield 45, 3) := by decide +kernel
theorem zd_X_read_48 : decode zc_X_read 48 = .ok (.iload_n 1, 1) := by decide +kernel
theorem zd_X_read_49 : decode zc_X_read 49 = .ok (.aaload, 1) := by decide +kernel
theorem zd_X_read_50 : decode zc_X_read 50 = .ok (.getfield 111, 3) := by decide +kernel
theorem zd_X_read_53 : decode zc_X_read 53 = .ok (.ireturn, 1) := by decide +kernel
theorem zd_X_storeAgain_0 : decode zc_X_storeAgain 0 = .ok (.iload_n 1, 1) := by decide +kernel
theorem zd_X_storeAgain_1 : decode zc_X_storeAgain 1 = .ok (.invokestatic 72, 3) := by decide +kernel
theorem zd_X_storeAgain_4 : decode zc_X_storeAgain 4 = .ok (.ifCond .eq 15, 3) := by decide +kernel
theorem zd_X_storeAgain_7 : decode zc_X_storeAgain 7 = .ok (.aload_n 0, 1) := by decide +kernel
theorem zd_X_storeAgain_8 : decode zc_X_storeAgain 8 = .ok (.getfield 38, 3) := by decide +kernel
theorem zd_X_storeAgain_11 : decode zc_X_storeAgain 11 = .ok (.iload_n 1, 1) := by decide +kernel
theorem zd_X_storeAgain_12 : decode zc_X_storeAgain 12 = .ok (.aaload, 1) := by decide +kernel
theorem zd_X_storeAgain_13 : decode zc_X_storeAgain 13 = .ok (.getfield 79, 3) := by decide +kernel
theorem zd_X_storeAgain_16 : decode zc_X_storeAgain 16 = .ok (.ifCond .ne 5, 3) := by decide +kernel
theorem zd_X_storeAgain_19 : decode zc_X_storeAgain 19 = .ok (.iconst (-1), 1) := by decide +kernel
theorem zd_X_storeAgain_20 : decode zc_X_storeAgain 20 = .ok (.ireturn, 1) := by decide +kernel
theorem zd_X_storeAgain_21 : decode zc_X_storeAgain 21 = .ok (.aload_n 0, 1) := by decide +kernel
theorem zd_X_storeAgain_22 : decode zc_X_storeAgain 22 = .ok (.iload_n 1, 1) := by decide +kernel
theorem zd_X_storeAgain_23 : decode zc_X_storeAgain 23 = .ok (.invokevirtual 87, 3) := by decide +kernel
theorem zd_X_storeAgain_26 : decode zc_X_storeAgain 26 = .ok (.ireturn, 1) := by decide +kernel
theorem zd_X_askAgain_0 : decode zc_X_askAgain 0 = .ok (.iload_n 1, 1) := by decide +kernel
theorem zd_X_askAgain_1 : decode zc_X_askAgain 1 = .ok (.invokestatic 98, 3) := by decide +kernel
theorem zd_X_askAgain_4 : decode zc_X_askAgain 4 = .ok (.ifCond .eq 15, 3) := by decide +kernel
theorem zd_X_askAgain_7 : decode zc_X_askAgain 7 = .ok (.aload_n 0, 1) := by decide +kernel
theorem zd_X_askAgain_8 : decode zc_X_askAgain 8 = .ok (.getfield 45, 3) := by decide +kernel
theorem zd_X_askAgain_11 : decode zc_X_askAgain 11 = .ok (.iload_n 1, 1) := by decide +kernel
theorem zd_X_askAgain_12 : decode zc_X_askAgain 12 = .ok (.aaload, 1) := by decide +kernel
theorem zd_X_askAgain_13 : decode zc_X_askAgain 13 = .ok (.invokevirtual 101, 3) := by decide +kernel
theorem zd_X_askAgain_16 : decode zc_X_askAgain 16 = .ok (.ifCond .ne 5, 3) := by decide +kernel
theorem zd_X_askAgain_19 : decode zc_X_askAgain 19 = .ok (.iconst (-1), 1) := by decide +kernel
theorem zd_X_askAgain_20 : decode zc_X_askAgain 20 = .ok (.ireturn, 1) := by decide +kernel
theorem zd_X_askAgain_21 : decode zc_X_askAgain 21 = .ok (.aload_n 0, 1) := by decide +kernel
theorem zd_X_askAgain_22 : decode zc_X_askAgain 22 = .ok (.iload_n 1, 1) := by decide +kernel
theorem zd_X_askAgain_23 : decode zc_X_askAgain 23 = .ok (.invokevirtual 108, 3) := by decide +kernel
theorem zd_X_askAgain_26 : decode zc_X_askAgain 26 = .ok (.ireturn, 1) := by decide +kernel
theorem zd_X_letters_0 : decode zc_X_letters 0 = .ok (.aload_n 0, 1) := by decide +kernel
theorem zd_X_letters_1 : decode zc_X_letters 1 = .ok (.getfield 53, 3) := by decide +kernel
theorem zd_X_letters_4 : decode zc_X_letters 4 = .ok (.getfield 114, 3) := by decide +kernel
theorem zd_X_letters_7 : decode zc_X_letters 7 = .ok (.ireturn, 1) := by decide +kernel
theorem zd_X_letter_0 : decode zc_X_letter 0 = .ok (.aload_n 0, 1) := by decide +kernel
theorem zd_X_letter_1 : decode zc_X_letter 1 = .ok (.getfield 53, 3) := by decide +kernel
theorem zd_X_letter_4 : decode zc_X_letter 4 = .ok (.iload_n 1, 1) := by decide +kernel
theorem zd_X_letter_5 : decode zc_X_letter 5 = .ok (.invokevirtual 117, 3) := by decide +kernel
theorem zd_X_letter_8 : decode zc_X_letter 8 = .ok (.ifCond .ne 5, 3) := by decide +kernel
theorem zd_X_letter_11 : decode zc_X_letter 11 = .ok (.iconst (-1), 1) := by decide +kernel
theorem zd_X_letter_12 : decode zc_X_letter 12 = .ok (.ireturn, 1) := by decide +kernel
theorem zd_X_letter_13 : decode zc_X_letter 13 = .ok (.aload_n 0, 1) := by decide +kernel
theorem zd_X_letter_14 : decode zc_X_letter 14 = .ok (.getfield 53, 3) := by decide +kernel
theorem zd_X_letter_17 : decode zc_X_letter 17 = .ok (.getfield 120, 3) := by decide +kernel
theorem zd_X_letter_20 : decode zc_X_letter 20 = .ok (.iload_n 1, 1) := by decide +kernel
theorem zd_X_letter_21 : decode zc_X_letter 21 = .ok (.aaload, 1) := by decide +kernel
theorem zd_X_letter_22 : decode zc_X_letter 22 = .ok (.astore_n 3, 1) := by decide +kernel
theorem zd_X_letter_23 : decode zc_X_letter 23 = .ok (.iload_n 2, 1) := by decide +kernel
theorem zd_X_letter_24 : decode zc_X_letter 24 = .ok (.tableswitch 61 0 4 #[36, 41, 46, 51, 56], 36) := by decide +kernel
theorem zd_X_letter_60 : decode zc_X_letter 60 = .ok (.aload_n 3, 1) := by decide +kernel
theorem zd_X_letter_61 : decode zc_X_letter 61 = .ok (.getfield 124, 3) := by decide +kernel
theorem zd_X_letter_64 : decode zc_X_letter 64 = .ok (.ireturn, 1) := by decide +kernel
theorem zd_X_letter_65 : decode zc_X_letter 65 = .ok (.aload_n 3, 1) := by decide +kernel
theorem zd_X_letter_66 : decode zc_X_letter 66 = .ok (.getfield 129, 3) := by decide +kernel
theorem zd_X_letter_69 : decode zc_X_letter 69 = .ok (.ireturn, 1) := by decide +kernel
theorem zd_X_letter_70 : decode zc_X_letter 70 = .ok (.aload_n 3, 1) := by decide +kernel
theorem zd_X_letter_71 : decode zc_X_letter 71 = .ok (.getfield 132, 3) := by decide +kernel
theorem zd_X_letter_74 : decode zc_X_letter 74 = .ok (.ireturn, 1) := by decide +kernel
theorem zd_X_letter_75 : decode zc_X_letter 75 = .ok (.aload_n 3, 1) := by decide +kernel
theorem zd_X_letter_76 : decode zc_X_letter 76 = .ok (.getfield 135, 3) := by decide +kernel
theorem zd_X_letter_79 : decode zc_X_letter 79 = .ok (.ireturn, 1) := by decide +kernel
theorem zd_X_letter_80 : decode zc_X_letter 80 = .ok (.aload_n 3, 1) := by decide +kernel
theorem zd_X_letter_81 : decode zc_X_letter 81 = .ok (.getfield 138, 3) := by decide +kernel
theorem zd_X_letter_84 : decode zc_X_letter 84 = .ok (.ireturn, 1) := by decide +kernel
theorem zd_X_letter_85 : decode zc_X_letter 85 = .ok (.iconst (-1), 1) := by decide +kernel
theorem zd_X_letter_86 : decode zc_X_letter 86 = .ok (.ireturn, 1) := by decide +kernel
theorem zd_X_deliver_0 : decode zc_X_deliver 0 = .ok (.aload_n 0, 1) := by decide +kernel
theorem zd_X_deliver_1 : decode zc_X_deliver 1 = .ok (.getfield 53, 3) := by decide +kernel
theorem zd_X_deliver_4 : decode zc_X_deliver 4 = .ok (.iload_n 1, 1) := by decide +kernel
theorem zd_X_deliver_5 : decode zc_X_deliver 5 = .ok (.invokevirtual 117, 3) := by decide +kernel
theorem zd_X_deliver_8 : decode zc_X_deliver 8 = .ok (.ifCond .ne 5, 3) := by decide +kernel
theorem zd_X_deliver_11 : decode zc_X_deliver 11 = .ok (.iconst 0, 1) := by decide +kernel
theorem zd_X_deliver_12 : decode zc_X_deliver 12 = .ok (.ireturn, 1) := by decide +kernel
theorem zd_X_deliver_13 : decode zc_X_deliver 13 = .ok (.aload_n 0, 1) := by decide +kernel
theorem zd_X_deliver_14 : decode zc_X_deliver 14 = .ok (.aload_n 0, 1) := by decide +kernel
theorem zd_X_deliver_15 : decode zc_X_deliver 15 = .ok (.getfield 53, 3) := by decide +kernel
theorem zd_X_deliver_18 : decode zc_X_deliver 18 = .ok (.iload_n 1, 1) := by decide +kernel
theorem zd_X_deliver_19 : decode zc_X_deliver 19 = .ok (.invokevirtual 139, 3) := by decide +kernel
theorem zd_X_deliver_22 : decode zc_X_deliver 22 = .ok (.invokevirtual 143, 3) := by decide +kernel
theorem zd_X_deliver_25 : decode zc_X_deliver 25 = .ok (.iconst 1, 1) := by decide +kernel
theorem zd_X_deliver_26 : decode zc_X_deliver 26 = .ok (.ireturn, 1) := by decide +kernel
theorem zd_X_deliverAll_0 : decode zc_X_deliverAll 0 = .ok (.iconst 0, 1) := by decide +kernel
theorem zd_X_deliverAll_1 : decode zc_X_deliverAll 1 = .ok (.istore_n 2, 1) := by decide +kernel
theorem zd_X_deliverAll_2 : decode zc_X_deliverAll 2 = .ok (.iload_n 2, 1) := by decide +kernel
theorem zd_X_deliverAll_3 : decode zc_X_deliverAll 3 = .ok (.iload_n 1, 1) := by decide +kernel
theorem zd_X_deliverAll_4 : decode zc_X_deliverAll 4 = .ok (.if_icmp .ge 31, 3) := by decide +kernel
theorem zd_X_deliverAll_7 : decode zc_X_deliverAll 7 = .ok (.aload_n 0, 1) := by decide +kernel
theorem zd_X_deliverAll_8 : decode zc_X_deliverAll 8 = .ok (.getfield 53, 3) := by decide +kernel
theorem zd_X_deliverAll_11 : decode zc_X_deliverAll 11 = .ok (.getfield 114, 3) := by decide +kernel
theorem zd_X_deliverAll_14 : decode zc_X_deliverAll 14 = .ok (.ifCond .le 21, 3) := by decide +kernel
theorem zd_X_deliverAll_17 : decode zc_X_deliverAll 17 = .ok (.aload_n 0, 1) := by decide +kernel
theorem zd_X_deliverAll_18 : decode zc_X_deliverAll 18 = .ok (.aload_n 0, 1) := by decide +kernel
theorem zd_X_deliverAll_19 : decode zc_X_deliverAll 19 = .ok (.getfield 53, 3) := by decide +kernel
theorem zd_X_deliverAll_22 : decode zc_X_deliverAll 22 = .ok (.iconst 0, 1) := by decide +kernel
theorem zd_X_deliverAll_23 : decode zc_X_deliverAll 23 = .ok (.invokevirtual 139, 3) := by decide +kernel
theorem zd_X_deliverAll_26 : decode zc_X_deliverAll 26 = .ok (.invokevirtual 143, 3) := by decide +kernel
theorem zd_X_deliverAll_29 : decode zc_X_deliverAll 29 = .ok (.iinc 2 1, 3) := by decide +kernel
theorem zd_X_deliverAll_32 : decode zc_X_deliverAll 32 = .ok (.goto (-30), 3) := by decide +kernel
theorem zd_X_deliverAll_35 : decode zc_X_deliverAll 35 = .ok (.iload_n 2, 1) := by decide +kernel
theorem zd_X_deliverAll_36 : decode zc_X_deliverAll 36 = .ok (.ireturn, 1) := by decide +kernel
theorem zd_X_lose_0 : decode zc_X_lose 0 = .ok (.aload_n 0, 1) := by decide +kernel
theorem zd_X_lose_1 : decode zc_X_lose 1 = .ok (.getfield 53, 3) := by decide +kernel
theorem zd_X_lose_4 : decode zc_X_lose 4 = .ok (.iload_n 1, 1) := by decide +kernel
theorem zd_X_lose_5 : decode zc_X_lose 5 = .ok (.invokevirtual 117, 3) := by decide +kernel
theorem zd_X_lose_8 : decode zc_X_lose 8 = .ok (.ifCond .ne 5, 3) := by decide +kernel
theorem zd_X_lose_11 : decode zc_X_lose 11 = .ok (.iconst 0, 1) := by decide +kernel
theorem zd_X_lose_12 : decode zc_X_lose 12 = .ok (.ireturn, 1) := by decide +kernel
theorem zd_X_lose_13 : decode zc_X_lose 13 = .ok (.aload_n 0, 1) := by decide +kernel
theorem zd_X_lose_14 : decode zc_X_lose 14 = .ok (.getfield 53, 3) := by decide +kernel
theorem zd_X_lose_17 : decode zc_X_lose 17 = .ok (.iload_n 1, 1) := by decide +kernel
theorem zd_X_lose_18 : decode zc_X_lose 18 = .ok (.invokevirtual 139, 3) := by decide +kernel
theorem zd_X_lose_21 : decode zc_X_lose 21 = .ok (.pop, 1) := by decide +kernel
theorem zd_X_lose_22 : decode zc_X_lose 22 = .ok (.iconst 1, 1) := by decide +kernel
theorem zd_X_lose_23 : decode zc_X_lose 23 = .ok (.ireturn, 1) := by decide +kernel
theorem zd_X_twin_0 : decode zc_X_twin 0 = .ok (.aload_n 0, 1) := by decide +kernel
theorem zd_X_twin_1 : decode zc_X_twin 1 = .ok (.getfield 53, 3) := by decide +kernel
theorem zd_X_twin_4 : decode zc_X_twin 4 = .ok (.iload_n 1, 1) := by decide +kernel
theorem zd_X_twin_5 : decode zc_X_twin 5 = .ok (.invokevirtual 117, 3) := by decide +kernel
theorem zd_X_twin_8 : decode zc_X_twin 8 = .ok (.ifCond .eq 13, 3) := by decide +kernel
theorem zd_X_twin_11 : decode zc_X_twin 11 = .ok (.aload_n 0, 1) := by decide +kernel
theorem zd_X_twin_12 : decode zc_X_twin 12 = .ok (.getfield 53, 3) := by decide +kernel
theorem zd_X_twin_15 : decode zc_X_twin 15 = .ok (.invokevirtual 147, 3) := by decide +kernel
theorem zd_X_twin_18 : decode zc_X_twin 18 = .ok (.ifCond .eq 5, 3) := by decide +kernel
theorem zd_X_twin_21 : decode zc_X_twin 21 = .ok (.iconst 0, 1) := by decide +kernel
theorem zd_X_twin_22 : decode zc_X_twin 22 = .ok (.ireturn, 1) := by decide +kernel
theorem zd_X_twin_23 : decode zc_X_twin 23 = .ok (.aload_n 0, 1) := by decide +kernel
theorem zd_X_twin_24 : decode zc_X_twin 24 = .ok (.getfield 53, 3) := by decide +kernel
theorem zd_X_twin_27 : decode zc_X_twin 27 = .ok (.getfield 120, 3) := by decide +kernel
theorem zd_X_twin_30 : decode zc_X_twin 30 = .ok (.iload_n 1, 1) := by decide +kernel
theorem zd_X_twin_31 : decode zc_X_twin 31 = .ok (.aaload, 1) := by decide +kernel
theorem zd_X_twin_32 : decode zc_X_twin 32 = .ok (.astore_n 2, 1) := by decide +kernel
theorem zd_X_twin_33 : decode zc_X_twin 33 = .ok (.aload_n 0, 1) := by decide +kernel
theorem zd_X_twin_34 : decode zc_X_twin 34 = .ok (.getfield 53, 3) := by decide +kernel
theorem zd_X_twin_37 : decode zc_X_twin 37 = .ok (.aload_n 2, 1) := by decide +kernel
theorem zd_X_twin_38 : decode zc_X_twin 38 = .ok (.getfield 124, 3) := by decide +kernel
theorem zd_X_twin_41 : decode zc_X_twin 41 = .ok (.aload_n 2, 1) := by decide +kernel
theorem zd_X_twin_42 : decode zc_X_twin 42 = .ok (.getfield 129, 3) := by decide +kernel
theorem zd_X_twin_45 : decode zc_X_twin 45 = .ok (.aload_n 2, 1) := by decide +kernel
theorem zd_X_twin_46 : decode zc_X_twin 46 = .ok (.getfield 132, 3) := by decide +kernel
theorem zd_X_twin_49 : decode zc_X_twin 49 = .ok (.aload_n 2, 1) := by decide +kernel
theorem zd_X_twin_50 : decode zc_X_twin 50 = .ok (.getfield 135, 3) := by decide +kernel
theorem zd_X_twin_53 : decode zc_X_twin 53 = .ok (.aload_n 2, 1) := by decide +kernel
theorem zd_X_twin_54 : decode zc_X_twin 54 = .ok (.getfield 138, 3) := by decide +kernel
theorem zd_X_twin_57 : decode zc_X_twin 57 = .ok (.aload_n 2, 1) := by decide +kernel
theorem zd_X_twin_58 : decode zc_X_twin 58 = .ok (.getfield 150, 3) := by decide +kernel
theorem zd_X_twin_61 : decode zc_X_twin 61 = .ok (.invokevirtual 153, 3) := by decide +kernel
theorem zd_X_twin_64 : decode zc_X_twin 64 = .ok (.iconst 1, 1) := by decide +kernel
theorem zd_X_twin_65 : decode zc_X_twin 65 = .ok (.ireturn, 1) := by decide +kernel
