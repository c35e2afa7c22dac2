theorem zd_M_storeComes_0 : decode zc_M_storeComes 0 = .ok (.aload_n 0, 1) := by decide +kernel
theorem zd_M_storeComes_1 : decode zc_M_storeComes 1 = .ok (.getfield 113, 3) := by decide +kernel
theorem zd_M_storeComes_4 : decode zc_M_storeComes 4 = .ok (.sipush 300, 3) := by decide +kernel
theorem zd_M_storeComes_7 : decode zc_M_storeComes 7 = .ok (.iaload, 1) := by decide +kernel
theorem zd_M_storeComes_8 : decode zc_M_storeComes 8 = .ok (.aload_n 0, 1) := by decide +kernel
theorem zd_M_storeComes_9 : decode zc_M_storeComes 9 = .ok (.getfield 26, 3) := by decide +kernel
theorem zd_M_storeComes_12 : decode zc_M_storeComes 12 = .ok (.iload_n 1, 1) := by decide +kernel
theorem zd_M_storeComes_13 : decode zc_M_storeComes 13 = .ok (.iaload, 1) := by decide +kernel
theorem zd_M_storeComes_14 : decode zc_M_storeComes 14 = .ok (.if_icmp .le 45, 3) := by decide +kernel
theorem zd_M_storeComes_17 : decode zc_M_storeComes 17 = .ok (.aload_n 0, 1) := by decide +kernel
theorem zd_M_storeComes_18 : decode zc_M_storeComes 18 = .ok (.getfield 26, 3) := by decide +kernel
theorem zd_M_storeComes_21 : decode zc_M_storeComes 21 = .ok (.iload_n 1, 1) := by decide +kernel
theorem zd_M_storeComes_22 : decode zc_M_storeComes 22 = .ok (.aload_n 0, 1) := by decide +kernel
theorem zd_M_storeComes_23 : decode zc_M_storeComes 23 = .ok (.getfield 113, 3) := by decide +kernel
theorem zd_M_storeComes_26 : decode zc_M_storeComes 26 = .ok (.sipush 300, 3) := by decide +kernel
theorem zd_M_storeComes_29 : decode zc_M_storeComes 29 = .ok (.iaload, 1) := by decide +kernel
theorem zd_M_storeComes_30 : decode zc_M_storeComes 30 = .ok (.iastore, 1) := by decide +kernel
theorem zd_M_storeComes_31 : decode zc_M_storeComes 31 = .ok (.aload_n 0, 1) := by decide +kernel
theorem zd_M_storeComes_32 : decode zc_M_storeComes 32 = .ok (.getfield 29, 3) := by decide +kernel
theorem zd_M_storeComes_35 : decode zc_M_storeComes 35 = .ok (.iload_n 1, 1) := by decide +kernel
theorem zd_M_storeComes_36 : decode zc_M_storeComes 36 = .ok (.aload_n 0, 1) := by decide +kernel
theorem zd_M_storeComes_37 : decode zc_M_storeComes 37 = .ok (.getfield 119, 3) := by decide +kernel
theorem zd_M_storeComes_40 : decode zc_M_storeComes 40 = .ok (.sipush 300, 3) := by decide +kernel
theorem zd_M_storeComes_43 : decode zc_M_storeComes 43 = .ok (.iaload, 1) := by decide +kernel
theorem zd_M_storeComes_44 : decode zc_M_storeComes 44 = .ok (.iastore, 1) := by decide +kernel
theorem zd_M_storeComes_45 : decode zc_M_storeComes 45 = .ok (.aload_n 0, 1) := by decide +kernel
theorem zd_M_storeComes_46 : decode zc_M_storeComes 46 = .ok (.getfield 32, 3) := by decide +kernel
theorem zd_M_storeComes_49 : decode zc_M_storeComes 49 = .ok (.iload_n 1, 1) := by decide +kernel
theorem zd_M_storeComes_50 : decode zc_M_storeComes 50 = .ok (.aload_n 0, 1) := by decide +kernel
theorem zd_M_storeComes_51 : decode zc_M_storeComes 51 = .ok (.getfield 122, 3) := by decide +kernel
theorem zd_M_storeComes_54 : decode zc_M_storeComes 54 = .ok (.sipush 300, 3) := by decide +kernel
theorem zd_M_storeComes_57 : decode zc_M_storeComes 57 = .ok (.iaload, 1) := by decide +kernel
theorem zd_M_storeComes_58 : decode zc_M_storeComes 58 = .ok (.iastore, 1) := by decide +kernel
theorem zd_M_storeComes_59 : decode zc_M_storeComes 59 = .ok (.aload_n 0, 1) := by decide +kernel
theorem zd_M_storeComes_60 : decode zc_M_storeComes 60 = .ok (.iconst 2, 1) := by decide +kernel
theorem zd_M_storeComes_61 : decode zc_M_storeComes 61 = .ok (.aload_n 0, 1) := by decide +kernel
theorem zd_M_storeComes_62 : decode zc_M_storeComes 62 = .ok (.getfield 104, 3) := by decide +kernel
theorem zd_M_storeComes_65 : decode zc_M_storeComes 65 = .ok (.sipush 300, 3) := by decide +kernel
theorem zd_M_storeComes_68 : decode zc_M_storeComes 68 = .ok (.iaload, 1) := by decide +kernel
theorem zd_M_storeComes_69 : decode zc_M_storeComes 69 = .ok (.aload_n 0, 1) := by decide +kernel
theorem zd_M_storeComes_70 : decode zc_M_storeComes 70 = .ok (.getfield 107, 3) := by decide +kernel
theorem zd_M_storeComes_73 : decode zc_M_storeComes 73 = .ok (.sipush 300, 3) := by decide +kernel
theorem zd_M_storeComes_76 : decode zc_M_storeComes 76 = .ok (.iaload, 1) := by decide +kernel
theorem zd_M_storeComes_77 : decode zc_M_storeComes 77 = .ok (.iconst (-1), 1) := by decide +kernel
theorem zd_M_storeComes_78 : decode zc_M_storeComes 78 = .ok (.aload_n 0, 1) := by decide +kernel
theorem zd_M_storeComes_79 : decode zc_M_storeComes 79 = .ok (.getfield 113, 3) := by decide +kernel
theorem zd_M_storeComes_82 : decode zc_M_storeComes 82 = .ok (.sipush 300, 3) := by decide +kernel
theorem zd_M_storeComes_85 : decode zc_M_storeComes 85 = .ok (.iaload, 1) := by decide +kernel
theorem zd_M_storeComes_86 : decode zc_M_storeComes 86 = .ok (.iconst 0, 1) := by decide +kernel
theorem zd_M_storeComes_87 : decode zc_M_storeComes 87 = .ok (.iconst 0, 1) := by decide +kernel
theorem zd_M_storeComes_88 : decode zc_M_storeComes 88 = .ok (.invokevirtual 136, 3) := by decide +kernel
theorem zd_M_storeComes_91 : decode zc_M_storeComes 91 = .ok (.return_, 1) := by decide +kernel
theorem zd_M_comes_0 : decode zc_M_comes 0 = .ok (.aload_n 0, 1) := by decide +kernel
theorem zd_M_comes_1 : decode zc_M_comes 1 = .ok (.getfield 104, 3) := by decide +kernel
theorem zd_M_comes_4 : decode zc_M_comes 4 = .ok (.sipush 300, 3) := by decide +kernel
theorem zd_M_comes_7 : decode zc_M_comes 7 = .ok (.iaload, 1) := by decide +kernel
theorem zd_M_comes_8 : decode zc_M_comes 8 = .ok (.istore_n 1, 1) := by decide +kernel
theorem zd_M_comes_9 : decode zc_M_comes 9 = .ok (.iconst 4, 1) := by decide +kernel
theorem zd_M_comes_10 : decode zc_M_comes 10 = .ok (.iload_n 1, 1) := by decide +kernel
theorem zd_M_comes_11 : decode zc_M_comes 11 = .ok (.imul, 1) := by decide +kernel
theorem zd_M_comes_12 : decode zc_M_comes 12 = .ok (.aload_n 0, 1) := by decide +kernel
theorem zd_M_comes_13 : decode zc_M_comes 13 = .ok (.getfield 107, 3) := by decide +kernel
theorem zd_M_comes_16 : decode zc_M_comes 16 = .ok (.sipush 300, 3) := by decide +kernel
theorem zd_M_comes_19 : decode zc_M_comes 19 = .ok (.iaload, 1) := by decide +kernel
theorem zd_M_comes_20 : decode zc_M_comes 20 = .ok (.iadd, 1) := by decide +kernel
theorem zd_M_comes_21 : decode zc_M_comes 21 = .ok (.istore_n 2, 1) := by decide +kernel
theorem zd_M_comes_22 : decode zc_M_comes 22 = .ok (.aload_n 0, 1) := by decide +kernel
theorem zd_M_comes_23 : decode zc_M_comes 23 = .ok (.getfield 20, 3) := by decide +kernel
theorem zd_M_comes_26 : decode zc_M_comes 26 = .ok (.iload_n 1, 1) := by decide +kernel
theorem zd_M_comes_27 : decode zc_M_comes 27 = .ok (.baload, 1) := by decide +kernel
theorem zd_M_comes_28 : decode zc_M_comes 28 = .ok (.ifCond .ne 12, 3) := by decide +kernel
theorem zd_M_comes_31 : decode zc_M_comes 31 = .ok (.aload_n 0, 1) := by decide +kernel
theorem zd_M_comes_32 : decode zc_M_comes 32 = .ok (.getfield 23, 3) := by decide +kernel
theorem zd_M_comes_35 : decode zc_M_comes 35 = .ok (.iload_n 1, 1) := by decide +kernel
theorem zd_M_comes_36 : decode zc_M_comes 36 = .ok (.baload, 1) := by decide +kernel
theorem zd_M_comes_37 : decode zc_M_comes 37 = .ok (.ifCond .eq 7, 3) := by decide +kernel
theorem zd_M_comes_40 : decode zc_M_comes 40 = .ok (.iconst 1, 1) := by decide +kernel
theorem zd_M_comes_41 : decode zc_M_comes 41 = .ok (.goto 4, 3) := by decide +kernel
theorem zd_M_comes_44 : decode zc_M_comes 44 = .ok (.iconst 0, 1) := by decide +kernel
theorem zd_M_comes_45 : decode zc_M_comes 45 = .ok (.istore_n 3, 1) := by decide +kernel
theorem zd_M_comes_46 : decode zc_M_comes 46 = .ok (.aload_n 0, 1) := by decide +kernel
theorem zd_M_comes_47 : decode zc_M_comes 47 = .ok (.getfield 101, 3) := by decide +kernel
theorem zd_M_comes_50 : decode zc_M_comes 50 = .ok (.sipush 300, 3) := by decide +kernel
theorem zd_M_comes_53 : decode zc_M_comes 53 = .ok (.iaload, 1) := by decide +kernel
theorem zd_M_comes_54 : decode zc_M_comes 54 = .ok (.iconst 1, 1) := by decide +kernel
theorem zd_M_comes_55 : decode zc_M_comes 55 = .ok (.if_icmp .ne 12, 3) := by decide +kernel
theorem zd_M_comes_58 : decode zc_M_comes 58 = .ok (.iload_n 3, 1) := by decide +kernel
theorem zd_M_comes_59 : decode zc_M_comes 59 = .ok (.ifCond .ne 8, 3) := by decide +kernel
theorem zd_M_comes_62 : decode zc_M_comes 62 = .ok (.aload_n 0, 1) := by decide +kernel
theorem zd_M_comes_63 : decode zc_M_comes 63 = .ok (.iload_n 2, 1) := by decide +kernel
theorem zd_M_comes_64 : decode zc_M_comes 64 = .ok (.invokevirtual 177, 3) := by decide +kernel
theorem zd_M_comes_67 : decode zc_M_comes 67 = .ok (.aload_n 0, 1) := by decide +kernel
theorem zd_M_comes_68 : decode zc_M_comes 68 = .ok (.getfield 101, 3) := by decide +kernel
theorem zd_M_comes_71 : decode zc_M_comes 71 = .ok (.sipush 300, 3) := by decide +kernel
theorem zd_M_comes_74 : decode zc_M_comes 74 = .ok (.iaload, 1) := by decide +kernel
theorem zd_M_comes_75 : decode zc_M_comes 75 = .ok (.iconst 2, 1) := by decide +kernel
theorem zd_M_comes_76 : decode zc_M_comes 76 = .ok (.if_icmp .ne 24, 3) := by decide +kernel
theorem zd_M_comes_79 : decode zc_M_comes 79 = .ok (.aload_n 0, 1) := by decide +kernel
theorem zd_M_comes_80 : decode zc_M_comes 80 = .ok (.aload_n 0, 1) := by decide +kernel
theorem zd_M_comes_81 : decode zc_M_comes 81 = .ok (.getfield 107, 3) := by decide +kernel
theorem zd_M_comes_84 : decode zc_M_comes 84 = .ok (.sipush 300, 3) := by decide +kernel
theorem zd_M_comes_87 : decode zc_M_comes 87 = .ok (.iaload, 1) := by decide +kernel
theorem zd_M_comes_88 : decode zc_M_comes 88 = .ok (.iload_n 1, 1) := by decide +kernel
theorem zd_M_comes_89 : decode zc_M_comes 89 = .ok (.aload_n 0, 1) := by decide +kernel
theorem zd_M_comes_90 : decode zc_M_comes 90 = .ok (.getfield 113, 3) := by decide +kernel
theorem zd_M_comes_93 : decode zc_M_comes 93 = .ok (.sipush 300, 3) := by decide +kernel
theorem zd_M_comes_96 : decode zc_M_comes 96 = .ok (.iaload, 1) := by decide +kernel
theorem zd_M_comes_97 : decode zc_M_comes 97 = .ok (.invokevirtual 180, 3) := by decide +kernel
theorem zd_M_comes_100 : decode zc_M_comes 100 = .ok (.aload_n 0, 1) := by decide +kernel
theorem zd_M_comes_101 : decode zc_M_comes 101 = .ok (.getfield 101, 3) := by decide +kernel
theorem zd_M_comes_104 : decode zc_M_comes 104 = .ok (.sipush 300, 3) := by decide +kernel
theorem zd_M_comes_107 : decode zc_M_comes 107 = .ok (.iaload, 1) := by decide +kernel
theorem zd_M_comes_108 : decode zc_M_comes 108 = .ok (.iconst 3, 1) := by decide +kernel
theorem zd_M_comes_109 : decode zc_M_comes 109 = .ok (.if_icmp .ne 54, 3) := by decide +kernel
theorem zd_M_comes_112 : decode zc_M_comes 112 = .ok (.iload_n 3, 1) := by decide +kernel
theorem zd_M_comes_113 : decode zc_M_comes 113 = .ok (.ifCond .ne 50, 3) := by decide +kernel
theorem zd_M_comes_116 : decode zc_M_comes 116 = .ok (.aload_n 0, 1) := by decide +kernel
theorem zd_M_comes_117 : decode zc_M_comes 117 = .ok (.iload_n 1, 1) := by decide +kernel
theorem zd_M_comes_118 : decode zc_M_comes 118 = .ok (.aload_n 0, 1) := by decide +kernel
theorem zd_M_comes_119 : decode zc_M_comes 119 = .ok (.getfield 107, 3) := by decide +kernel
theorem zd_M_comes_122 : decode zc_M_comes 122 = .ok (.sipush 300, 3) := by decide +kernel
theorem zd_M_comes_125 : decode zc_M_comes 125 = .ok (.iaload, 1) := by decide +kernel
theorem zd_M_comes_126 : decode zc_M_comes 126 = .ok (.aload_n 0, 1) := by decide +kernel
theorem zd_M_comes_127 : decode zc_M_comes 127 = .ok (.getfield 110, 3) := by decide +kernel
theorem zd_M_comes_130 : decode zc_M_comes 130 = .ok (.sipush 300, 3) := by decide +kernel
theorem zd_M_comes_133 : decode zc_M_comes 133 = .ok (.iaload, 1) := by decide +kernel
theorem zd_M_comes_134 : decode zc_M_comes 134 = .ok (.aload_n 0, 1) := by decide +kernel
theorem zd_M_comes_135 : decode zc_M_comes 135 = .ok (.getfield 113, 3) := by decide +kernel
theorem zd_M_comes_138 : decode zc_M_comes 138 = .ok (.sipush 300, 3) := by decide +kernel
theorem zd_M_comes_141 : decode zc_M_comes 141 = .ok (.iaload, 1) := by decide +kernel
theorem zd_M_comes_142 : decode zc_M_comes 142 = .ok (.aload_n 0, 1) := by decide +kernel
theorem zd_M_comes_143 : decode zc_M_comes 143 = .ok (.getfield 26, 3) := by decide +kernel
theorem zd_M_comes_146 : decode zc_M_comes 146 = .ok (.iload_n 2, 1) := by decide +kernel
theorem zd_M_comes_147 : decode zc_M_comes 147 = .ok (.iaload, 1) := by decide +kernel
theorem zd_M_comes_148 : decode zc_M_comes 148 = .ok (.aload_n 0, 1) := by decide +kernel
theorem zd_M_comes_149 : decode zc_M_comes 149 = .ok (.getfield 29, 3) := by decide +kernel
theorem zd_M_comes_152 : decode zc_M_comes 152 = .ok (.iload_n 2, 1) := by decide +kernel
theorem zd_M_comes_153 : decode zc_M_comes 153 = .ok (.iaload, 1) := by decide +kernel
theorem zd_M_comes_154 : decode zc_M_comes 154 = .ok (.aload_n 0, 1) := by decide +kernel
theorem zd_M_comes_155 : decode zc_M_comes 155 = .ok (.getfield 32, 3) := by decide +kernel
theorem zd_M_comes_158 : decode zc_M_comes 158 = .ok (.iload_n 2, 1) := by decide +kernel
theorem zd_M_comes_159 : decode zc_M_comes 159 = .ok (.iaload, 1) := by decide +kernel
theorem zd_M_comes_160 : decode zc_M_comes 160 = .ok (.invokevirtual 184, 3) := by decide +kernel
theorem zd_M_comes_163 : decode zc_M_comes 163 = .ok (.aload_n 0, 1) := by decide +kernel
theorem zd_M_comes_164 : decode zc_M_comes 164 = .ok (.getfield 101, 3) := by decide +kernel
theorem zd_M_comes_167 : decode zc_M_comes 167 = .ok (.sipush 300, 3) := by decide +kernel
theorem zd_M_comes_170 : decode zc_M_comes 170 = .ok (.iaload, 1) := by decide +kernel
theorem zd_M_comes_171 : decode zc_M_comes 171 = .ok (.iconst 4, 1) := by decide +kernel
theorem zd_M_comes_172 : decode zc_M_comes 172 = .ok (.if_icmp .ne 7, 3) := by decide +kernel
theorem zd_M_comes_175 : decode zc_M_comes 175 = .ok (.aload_n 0, 1) := by decide +kernel
theorem zd_M_comes_176 : decode zc_M_comes 176 = .ok (.invokevirtual 187, 3) := by decide +kernel
theorem zd_M_comes_179 : decode zc_M_comes 179 = .ok (.return_, 1) := by decide +kernel
theorem zd_M_deliver_0 : decode zc_M_deliver 0 = .ok (.aload_n 0, 1) := by decide +kernel
theorem zd_M_deliver_1 : decode zc_M_deliver 1 = .ok (.iload_n 1, 1) := by decide +kernel
theorem zd_M_deliver_2 : decode zc_M_deliver 2 = .ok (.invokevirtual 144, 3) := by decide +kernel
theorem zd_M_deliver_5 : decode zc_M_deliver 5 = .ok (.ifCond .ne 5, 3) := by decide +kernel
theorem zd_M_deliver_8 : decode zc_M_deliver 8 = .ok (.iconst 0, 1) := by decide +kernel
theorem zd_M_deliver_9 : decode zc_M_deliver 9 = .ok (.ireturn, 1) := by decide +kernel
theorem zd_M_deliver_10 : decode zc_M_deliver 10 = .ok (.aload_n 0, 1) := by decide +kernel
theorem zd_M_deliver_11 : decode zc_M_deliver 11 = .ok (.invokevirtual 190, 3) := by decide +kernel
theorem zd_M_deliver_14 : decode zc_M_deliver 14 = .ok (.iconst 1, 1) := by decide +kernel
theorem zd_M_deliver_15 : decode zc_M_deliver 15 = .ok (.ireturn, 1) := by decide +kernel
theorem zd_M_deliverAll_0 : decode zc_M_deliverAll 0 = .ok (.iconst 0, 1) := by decide +kernel
theorem zd_M_deliverAll_1 : decode zc_M_deliverAll 1 = .ok (.istore_n 2, 1) := by decide +kernel
theorem zd_M_deliverAll_2 : decode zc_M_deliverAll 2 = .ok (.iload_n 2, 1) := by decide +kernel
theorem zd_M_deliverAll_3 : decode zc_M_deliverAll 3 = .ok (.iload_n 1, 1) := by decide +kernel
theorem zd_M_deliverAll_4 : decode zc_M_deliverAll 4 = .ok (.if_icmp .ge 17, 3) := by decide +kernel
theorem zd_M_deliverAll_7 : decode zc_M_deliverAll 7 = .ok (.aload_n 0, 1) := by decide +kernel
theorem zd_M_deliverAll_8 : decode zc_M_deliverAll 8 = .ok (.iconst 0, 1) := by decide +kernel
theorem zd_M_deliverAll_9 : decode zc_M_deliverAll 9 = .ok (.invokevirtual 193, 3) := by decide +kernel
theorem zd_M_deliverAll_12 : decode zc_M_deliverAll 12 = .ok (.ifCond .eq 9, 3) := by decide +kernel
theorem zd_M_deliverAll_15 : decode zc_M_deliverAll 15 = .ok (.iinc 2 1, 3) := by decide +kernel
theorem zd_M_deliverAll_18 : decode zc_M_deliverAll 18 = .ok (.goto (-16), 3) := by decide +kernel
theorem zd_M_deliverAll_21 : decode zc_M_deliverAll 21 = .ok (.iload_n 2, 1) := by decide +kernel
theorem zd_M_deliverAll_22 : decode zc_M_deliverAll 22 = .ok (.ireturn, 1) := by decide +kernel
theorem zd_M_lie_0 : decode zc_M_lie 0 = .ok (.iconst 0, 1) := by decide +kernel
theorem zd_M_lie_1 : decode zc_M_lie 1 = .ok (.istore_n 2, 1) := by decide +kernel
theorem zd_M_lie_2 : decode zc_M_lie 2 = .ok (.iconst 0, 1) := by decide +kernel
theorem zd_M_lie_3 : decode zc_M_lie 3 = .ok (.istore_n 3, 1) := by decide +kernel
theorem zd_M_lie_4 : decode zc_M_lie 4 = .ok (.iload_n 3, 1) := by decide +kernel
theorem zd_M_lie_5 : decode zc_M_lie 5 = .ok (.bipush 9, 2) := by decide +kernel
theorem zd_M_lie_7 : decode zc_M_lie 7 = .ok (.if_icmp .ge 21, 3) := by decide +kernel
theorem zd_M_lie_10 : decode zc_M_lie 10 = .ok (.aload_n 0, 1) := by decide +kernel
theorem zd_M_lie_11 : decode zc_M_lie 11 = .ok (.getfield 23, 3) := by decide +kernel
theorem zd_M_lie_14 : decode zc_M_lie 14 = .ok (.iload_n 3, 1) := by decide +kernel
theorem zd_M_lie_15 : decode zc_M_lie 15 = .ok (.baload, 1) := by decide +kernel
theorem zd_M_lie_16 : decode zc_M_lie 16 = .ok (.ifCond .eq 6, 3) := by decide +kernel
theorem zd_M_lie_19 : decode zc_M_lie 19 = .ok (.iinc 2 1, 3) := by decide +kernel
theorem zd_M_lie_22 : decode zc_M_lie 22 = .ok (.iinc 3 1, 3) := by decide +kernel
theorem zd_M_lie_25 : decode zc_M_lie 25 = .ok (.goto (-21), 3) := by decide +kernel
theorem zd_M_lie_28 : decode zc_M_lie 28 = .ok (.iload_n 1, 1) := by decide +kernel
theorem zd_M_lie_29 : decode zc_M_lie 29 = .ok (.bipush 9, 2) := by decide +kernel
theorem zd_M_lie_31 : decode zc_M_lie 31 = .ok (.invokestatic 129, 3) := by decide +kernel
theorem zd_M_lie_34 : decode zc_M_lie 34 = .ok (.ifCond .eq 17, 3) := by decide +kernel
theorem zd_M_lie_37 : decode zc_M_lie 37 = .ok (.aload_n 0, 1) := by decide +kernel
theorem zd_M_lie_38 : decode zc_M_lie 38 = .ok (.getfield 23, 3) := by decide +kernel
theorem zd_M_lie_41 : decode zc_M_lie 41 = .ok (.iload_n 1, 1) := by decide +kernel
theorem zd_M_lie_42 : decode zc_M_lie 42 = .ok (.baload, 1) := by decide +kernel
theorem zd_M_lie_43 : decode zc_M_lie 43 = .ok (.ifCond .ne 8, 3) := by decide +kernel
theorem zd_M_lie_46 : decode zc_M_lie 46 = .ok (.iload_n 2, 1) := by decide +kernel
theorem zd_M_lie_47 : decode zc_M_lie 47 = .ok (.iconst 2, 1) := by decide +kernel
theorem zd_M_lie_48 : decode zc_M_lie 48 = .ok (.if_icmp .ne 5, 3) := by decide +kernel
theorem zd_M_lie_51 : decode zc_M_lie 51 = .ok (.iconst 0, 1) := by decide +kernel
theorem zd_M_lie_52 : decode zc_M_lie 52 = .ok (.ireturn, 1) := by decide +kernel
theorem zd_M_lie_53 : decode zc_M_lie 53 = .ok (.aload_n 0, 1) := by decide +kernel
theorem zd_M_lie_54 : decode zc_M_lie 54 = .ok (.getfield 23, 3) := by decide +kernel
theorem zd_M_lie_57 : decode zc_M_lie 57 = .ok (.iload_n 1, 1) := by decide +kernel
theorem zd_M_lie_58 : decode zc_M_lie 58 = .ok (.iconst 1, 1) := by decide +kernel
theorem zd_M_lie_59 : decode zc_M_lie 59 = .ok (.bastore, 1) := by decide +kernel
theorem zd_M_lie_60 : decode zc_M_lie 60 = .ok (.iconst 1, 1) := by decide +kernel
theorem zd_M_lie_61 : decode zc_M_lie 61 = .ok (.ireturn, 1) := by decide +kernel
theorem zd_M_lies_0 : decode zc_M_lies 0 = .ok (.iload_n 1, 1) := by decide +kernel
theorem zd_M_lies_1 : decode zc_M_lies 1 = .ok (.bipush 9, 2) := by decide +kernel
theorem zd_M_lies_3 : decode zc_M_lies 3 = .ok (.invokestatic 129, 3) := by decide +kernel
theorem zd_M_lies_6 : decode zc_M_lies 6 = .ok (.ifCond .eq 25, 3) := by decide +kernel
theorem zd_M_lies_9 : decode zc_M_lies 9 = .ok (.aload_n 0, 1) := by decide +kernel
theorem zd_M_lies_10 : decode zc_M_lies 10 = .ok (.getfield 23, 3) := by decide +kernel
theorem zd_M_lies_13 : decode zc_M_lies 13 = .ok (.iload_n 1, 1) := by decide +kernel
theorem zd_M_lies_14 : decode zc_M_lies 14 = .ok (.baload, 1) := by decide +kernel
theorem zd_M_lies_15 : decode zc_M_lies 15 = .ok (.ifCond .eq 16, 3) := by decide +kernel
theorem zd_M_lies_18 : decode zc_M_lies 18 = .ok (.aload_n 0, 1) := by decide +kernel
theorem zd_M_lies_19 : decode zc_M_lies 19 = .ok (.getfield 20, 3) := by decide +kernel
theorem zd_M_lies_22 : decode zc_M_lies 22 = .ok (.iload_n 1, 1) := by decide +kernel
theorem zd_M_lies_23 : decode zc_M_lies 23 = .ok (.baload, 1) := by decide +kernel
theorem zd_M_lies_24 : decode zc_M_lies 24 = .ok (.ifCond .ne 7, 3) := by decide +kernel
theorem zd_M_lies_27 : decode zc_M_lies 27 = .ok (.iconst 1, 1) := by decide +kernel
theorem zd_M_lies_28 : decode zc_M_lies 28 = .ok (.goto 4, 3) := by decide +kernel
theorem zd_M_lies_31 : decode zc_M_lies 31 = .ok (.iconst 0, 1) := by decide +kernel
theorem zd_M_lies_32 : decode zc_M_lies 32 = .ok (.ireturn, 1) := by decide +kernel
theorem zd_M_tell_0 : decode zc_M_tell 0 = .ok (.aload_n 0, 1) := by decide +kernel
theorem zd_M_tell_1 : decode zc_M_tell 1 = .ok (.iload_n 1, 1) := by decide +kernel
theorem zd_M_tell_2 : decode zc_M_tell 2 = .ok (.invokevirtual 196, 3) := by decide +kernel
theorem zd_M_tell_5 : decode zc_M_tell 5 = .ok (.ifCond .eq 32, 3) := by decide +kernel
theorem zd_M_tell_8 : decode zc_M_tell 8 = .ok (.iload_n 2, 1) := by decide +kernel
theorem zd_M_tell_9 : decode zc_M_tell 9 = .ok (.iconst 3, 1) := by decide +kernel
theorem zd_M_tell_10 : decode zc_M_tell 10 = .ok (.invokestatic 129, 3) := by decide +kernel
theorem zd_M_tell_13 : decode zc_M_tell 13 = .ok (.ifCond .eq 24, 3) := by decide +kernel
theorem zd_M_tell_16 : decode zc_M_tell 16 = .ok (.aload_n 0, 1) := by decide +kernel
theorem zd_M_tell_17 : decode zc_M_tell 17 = .ok (.getfield 62, 3) := by decide +kernel
theorem zd_M_tell_20 : decode zc_M_tell 20 = .ok (.iload_n 2, 1) := by decide +kernel
theorem zd_M_tell_21 : decode zc_M_tell 21 = .ok (.iaload, 1) := by decide +kernel
theorem zd_M_tell_22 : decode zc_M_tell 22 = .ok (.iconst 1, 1) := by decide +kernel
theorem zd_M_tell_23 : decode zc_M_tell 23 = .ok (.if_icmp .ne 14, 3) := by decide +kernel
theorem zd_M_tell_26 : decode zc_M_tell 26 = .ok (.iload_n 3, 1) := by decide +kernel
theorem zd_M_tell_27 : decode zc_M_tell 27 = .ok (.ifCond .lt 10, 3) := by decide +kernel
theorem zd_M_tell_30 : decode zc_M_tell 30 = .ok (.iload 4, 2) := by decide +kernel
theorem zd_M_tell_32 : decode zc_M_tell 32 = .ok (.iload 5, 2) := by decide +kernel
theorem zd_M_tell_34 : decode zc_M_tell 34 = .ok (.if_icmp .le 5, 3) := by decide +kernel
theorem zd_M_tell_37 : decode zc_M_tell 37 = .ok (.iconst 0, 1) := by decide +kernel
theorem zd_M_tell_38 : decode zc_M_tell 38 = .ok (.ireturn, 1) := by decide +kernel
theorem zd_M_tell_39 : decode zc_M_tell 39 = .ok (.aload_n 0, 1) := by decide +kernel
theorem zd_M_tell_40 : decode zc_M_tell 40 = .ok (.iload_n 1, 1) := by decide +kernel
theorem zd_M_tell_41 : decode zc_M_tell 41 = .ok (.aload_n 0, 1) := by decide +kernel
theorem zd_M_tell_42 : decode zc_M_tell 42 = .ok (.getfield 56, 3) := by decide +kernel
theorem zd_M_tell_45 : decode zc_M_tell 45 = .ok (.iload_n 2, 1) := by decide +kernel
theorem zd_M_tell_46 : decode zc_M_tell 46 = .ok (.iaload, 1) := by decide +kernel
theorem zd_M_tell_47 : decode zc_M_tell 47 = .ok (.iload_n 2, 1) := by decide +kernel
theorem zd_M_tell_48 : decode zc_M_tell 48 = .ok (.aload_n 0, 1) := by decide +kernel
theorem zd_M_tell_49 : decode zc_M_tell 49 = .ok (.getfield 53, 3) := by decide +kernel
theorem zd_M_tell_52 : decode zc_M_tell 52 = .ok (.iload_n 2, 1) := by decide +kernel
theorem zd_M_tell_53 : decode zc_M_tell 53 = .ok (.iaload, 1) := by decide +kernel
theorem zd_M_tell_54 : decode zc_M_tell 54 = .ok (.iload_n 3, 1) := by decide +kernel
theorem zd_M_tell_55 : decode zc_M_tell 55 = .ok (.iload 4, 2) := by decide +kernel
theorem zd_M_tell_57 : decode zc_M_tell 57 = .ok (.iload 5, 2) := by decide +kernel
theorem zd_M_tell_59 : decode zc_M_tell 59 = .ok (.invokevirtual 184, 3) := by decide +kernel
theorem zd_M_tell_62 : decode zc_M_tell 62 = .ok (.iconst 1, 1) := by decide +kernel
theorem zd_M_tell_63 : decode zc_M_tell 63 = .ok (.ireturn, 1) := by decide +kernel
theorem zd_M_receipt_0 : decode zc_M_receipt 0 = .ok (.aload_n 0, 1) := by decide +kernel
theorem zd_M_receipt_1 : decode zc_M_receipt 1 = .ok (.iload_n 1, 1) := by decide +kernel
theorem zd_M_receipt_2 : decode zc_M_receipt 2 = .ok (.invokevirtual 196, 3) := by decide +kernel
theorem zd_M_receipt_5 : decode zc_M_receipt 5 = .ok (.ifCond .eq 20, 3) := by decide +kernel
theorem zd_M_receipt_8 : decode zc_M_receipt 8 = .ok (.iload_n 2, 1) := by decide +kernel
theorem zd_M_receipt_9 : decode zc_M_receipt 9 = .ok (.iconst 4, 1) := by decide +kernel
theorem zd_M_receipt_10 : decode zc_M_receipt 10 = .ok (.invokestatic 129, 3) := by decide +kernel
theorem zd_M_receipt_13 : decode zc_M_receipt 13 = .ok (.ifCond .eq 12, 3) := by decide +kernel
theorem zd_M_receipt_16 : decode zc_M_receipt 16 = .ok (.aload_n 0, 1) := by decide +kernel
theorem zd_M_receipt_17 : decode zc_M_receipt 17 = .ok (.getfield 35, 3) := by decide +kernel
theorem zd_M_receipt_20 : decode zc_M_receipt 20 = .ok (.iload_n 2, 1) := by decide +kernel
theorem zd_M_receipt_21 : decode zc_M_receipt 21 = .ok (.iaload, 1) := by decide +kernel
theorem zd_M_receipt_22 : decode zc_M_receipt 22 = .ok (.ifCond .ne 5, 3) := by decide +kernel
theorem zd_M_receipt_25 : decode zc_M_receipt 25 = .ok (.iconst 0, 1) := by decide +kernel
theorem zd_M_receipt_26 : decode zc_M_receipt 26 = .ok (.ireturn, 1) := by decide +kernel
theorem zd_M_receipt_27 : decode zc_M_receipt 27 = .ok (.aload_n 0, 1) := by decide +kernel
theorem zd_M_receipt_28 : decode zc_M_receipt 28 = .ok (.iconst 2, 1) := by decide +kernel
theorem zd_M_receipt_29 : decode zc_M_receipt 29 = .ok (.iload_n 1, 1) := by decide +kernel
theorem zd_M_receipt_30 : decode zc_M_receipt 30 = .ok (.iload_n 2, 1) := by decide +kernel
theorem zd_M_receipt_31 : decode zc_M_receipt 31 = .ok (.iconst (-1), 1) := by decide +kernel
theorem zd_M_receipt_32 : decode zc_M_receipt 32 = .ok (.aload_n 0, 1) := by decide +kernel
theorem zd_M_receipt_33 : decode zc_M_receipt 33 = .ok (.getfield 35, 3) := by decide +kernel
theorem zd_M_receipt_36 : decode zc_M_receipt 36 = .ok (.iload_n 2, 1) := by decide +kernel
theorem zd_M_receipt_37 : decode zc_M_receipt 37 = .ok (.iaload, 1) := by decide +kernel
theorem zd_M_receipt_38 : decode zc_M_receipt 38 = .ok (.iconst 0, 1) := by decide +kernel
theorem zd_M_receipt_39 : decode zc_M_receipt 39 = .ok (.iconst 0, 1) := by decide +kernel
theorem zd_M_receipt_40 : decode zc_M_receipt 40 = .ok (.invokevirtual 136, 3) := by decide +kernel
theorem zd_M_receipt_43 : decode zc_M_receipt 43 = .ok (.iconst 1, 1) := by decide +kernel
theorem zd_M_receipt_44 : decode zc_M_receipt 44 = .ok (.ireturn, 1) := by decide +kernel
theorem zd_M_crash_0 : decode zc_M_crash 0 = .ok (.iload_n 1, 1) := by decide +kernel
theorem zd_M_crash_1 : decode zc_M_crash 1 = .ok (.bipush 9, 2) := by decide +kernel
theorem zd_M_crash_3 : decode zc_M_crash 3 = .ok (.invokestatic 129, 3) := by decide +kernel
theorem zd_M_crash_6 : decode zc_M_crash 6 = .ok (.ifCond .eq 12, 3) := by decide +kernel
theorem zd_M_crash_9 : decode zc_M_crash 9 = .ok (.aload_n 0, 1) := by decide +kernel
theorem zd_M_crash_10 : decode zc_M_crash 10 = .ok (.getfield 20, 3) := by decide +kernel
theorem zd_M_crash_13 : decode zc_M_crash 13 = .ok (.iload_n 1, 1) := by decide +kernel
theorem zd_M_crash_14 : decode zc_M_crash 14 = .ok (.baload, 1) := by decide +kernel
theorem zd_M_crash_15 : decode zc_M_crash 15 = .ok (.ifCond .eq 5, 3) := by decide +kernel
theorem zd_M_crash_18 : decode zc_M_crash 18 = .ok (.iconst 0, 1) := by decide +kernel
theorem zd_M_crash_19 : decode zc_M_crash 19 = .ok (.ireturn, 1) := by decide +kernel
theorem zd_M_crash_20 : decode zc_M_crash 20 = .ok (.aload_n 0, 1) := by decide +kernel
theorem zd_M_crash_21 : decode zc_M_crash 21 = .ok (.getfield 20, 3) := by decide +kernel
theorem zd_M_crash_24 : decode zc_M_crash 24 = .ok (.iload_n 1, 1) := by decide +kernel
theorem zd_M_crash_25 : decode zc_M_crash 25 = .ok (.iconst 1, 1) := by decide +kernel
theorem zd_M_crash_26 : decode zc_M_crash 26 = .ok (.bastore, 1) := by decide +kernel
theorem zd_M_crash_27 : decode zc_M_crash 27 = .ok (.iconst 1, 1) := by decide +kernel
theorem zd_M_crash_28 : decode zc_M_crash 28 = .ok (.ireturn, 1) := by decide +kernel
theorem zd_M_restart_0 : decode zc_M_restart 0 = .ok (.iload_n 1, 1) := by decide +kernel
theorem zd_M_restart_1 : decode zc_M_restart 1 = .ok (.bipush 9, 2) := by decide +kernel
theorem zd_M_restart_3 : decode zc_M_restart 3 = .ok (.invokestatic 129, 3) := by decide +kernel
theorem zd_M_restart_6 : decode zc_M_restart 6 = .ok (.ifCond .eq 12, 3) := by decide +kernel
theorem zd_M_restart_9 : decode zc_M_restart 9 = .ok (.aload_n 0, 1) := by decide +kernel
theorem zd_M_restart_10 : decode zc_M_restart 10 = .ok (.getfield 20, 3) := by decide +kernel
theorem zd_M_restart_13 : decode zc_M_restart 13 = .ok (.iload_n 1, 1) := by decide +kernel
theorem zd_M_restart_14 : decode zc_M_restart 14 = .ok (.baload, 1) := by decide +kernel
theorem zd_M_restart_15 : decode zc_M_restart 15 = .ok (.ifCond .ne 5, 3) := by decide +kernel
theorem zd_M_restart_18 : decode zc_M_restart 18 = .ok (.iconst 0, 1) := by decide +kernel
theorem zd_M_restart_19 : decode zc_M_restart 19 = .ok (.ireturn, 1) := by decide +kernel
theorem zd_M_restart_20 : decode zc_M_restart 20 = .ok (.aload_n 0, 1) := by decide +kernel
theorem zd_M_restart_21 : decode zc_M_restart 21 = .ok (.getfield 20, 3) := by decide +kernel
theorem zd_M_restart_24 : decode zc_M_restart 24 = .ok (.iload_n 1, 1) := by decide +kernel
theorem zd_M_restart_25 : decode zc_M_restart 25 = .ok (.iconst 0, 1) := by decide +kernel
theorem zd_M_restart_26 : decode zc_M_restart 26 = .ok (.bastore, 1) := by decide +kernel
theorem zd_M_restart_27 : decode zc_M_restart 27 = .ok (.iconst 1, 1) := by decide +kernel
theorem zd_M_restart_28 : decode zc_M_restart 28 = .ok (.ireturn, 1) := by decide +kernel
theorem zd_M_outcome_0 : decode zc_M_outcome 0 = .ok (.iload_n 1, 1) := by decide +kernel
theorem zd_M_outcome_1 : decode zc_M_outcome 1 = .ok (.iconst 3, 1) := by decide +kernel
theorem zd_M_outcome_2 : decode zc_M_outcome 2 = .ok (.invokestatic 129, 3) := by decide +kernel
theorem zd_M_outcome_5 : decode zc_M_outcome 5 = .ok (.ifCond .eq 12, 3) := by decide +kernel
theorem zd_M_outcome_8 : decode zc_M_outcome 8 = .ok (.aload_n 0, 1) := by decide +kernel
theorem zd_M_outcome_9 : decode zc_M_outcome 9 = .ok (.getfield 62, 3) := by decide +kernel
theorem zd_M_outcome_12 : decode zc_M_outcome 12 = .ok (.iload_n 1, 1) := by decide +kernel
theorem zd_M_outcome_13 : decode zc_M_outcome 13 = .ok (.iaload, 1) := by decide +kernel
theorem zd_M_outcome_14 : decode zc_M_outcome 14 = .ok (.goto 4, 3) := by decide +kernel
theorem zd_M_outcome_17 : decode zc_M_outcome 17 = .ok (.iconst (-1), 1) := by decide +kernel
theorem zd_M_outcome_18 : decode zc_M_outcome 18 = .ok (.ireturn, 1) := by decide +kernel
theorem zd_M_answered_0 : decode zc_M_answered 0 = .ok (.iload_n 1, 1) := by decide +kernel
theorem zd_M_answered_1 : decode zc_M_answered 1 = .ok (.iconst 3, 1) := by decide +kernel
theorem zd_M_answered_2 : decode zc_M_answered 2 = .ok (.invokestatic 129, 3) := by decide +kernel
theorem zd_M_answered_5 : decode zc_M_answered 5 = .ok (.ifCond .eq 33, 3) := by decide +kernel
theorem zd_M_answered_8 : decode zc_M_answered 8 = .ok (.aload_n 0, 1) := by decide +kernel
theorem zd_M_answered_9 : decode zc_M_answered 9 = .ok (.getfield 86, 3) := by decide +kernel
theorem zd_M_answered_12 : decode zc_M_answered 12 = .ok (.iload_n 1, 1) := by decide +kernel
theorem zd_M_answered_13 : decode zc_M_answered 13 = .ok (.baload, 1) := by decide +kernel
theorem zd_M_answered_14 : decode zc_M_answered 14 = .ok (.ifCond .eq 24, 3) := by decide +kernel
theorem zd_M_answered_17 : decode zc_M_answered 17 = .ok (.iload_n 2, 1) := by decide +kernel
theorem zd_M_answered_18 : decode zc_M_answered 18 = .ok (.iconst 4, 1) := by decide +kernel
theorem zd_M_answered_19 : decode zc_M_answered 19 = .ok (.invokestatic 129, 3) := by decide +kernel
theorem zd_M_answered_22 : decode zc_M_answered 22 = .ok (.ifCond .eq 16, 3) := by decide +kernel
theorem zd_M_answered_25 : decode zc_M_answered 25 = .ok (.aload_n 0, 1) := by decide +kernel
theorem zd_M_answered_26 : decode zc_M_answered 26 = .ok (.getfield 89, 3) := by decide +kernel
theorem zd_M_answered_29 : decode zc_M_answered 29 = .ok (.iconst 4, 1) := by decide +kernel
theorem zd_M_answered_30 : decode zc_M_answered 30 = .ok (.iload_n 1, 1) := by decide +kernel
theorem zd_M_answered_31 : decode zc_M_answered 31 = .ok (.imul, 1) := by decide +kernel
theorem zd_M_answered_32 : decode zc_M_answered 32 = .ok (.iload_n 2, 1) := by decide +kernel
theorem zd_M_answered_33 : decode zc_M_answered 33 = .ok (.iadd, 1) := by decide +kernel
theorem zd_M_answered_34 : decode zc_M_answered 34 = .ok (.iaload, 1) := by decide +kernel
theorem zd_M_answered_35 : decode zc_M_answered 35 = .ok (.goto 4, 3) := by decide +kernel
theorem zd_M_answered_38 : decode zc_M_answered 38 = .ok (.iconst (-1), 1) := by decide +kernel
theorem zd_M_answered_39 : decode zc_M_answered 39 = .ok (.ireturn, 1) := by decide +kernel
theorem zd_M_reader_0 : decode zc_M_reader 0 = .ok (.iload_n 1, 1) := by decide +kernel
theorem zd_M_reader_1 : decode zc_M_reader 1 = .ok (.iconst 3, 1) := by decide +kernel
theorem zd_M_reader_2 : decode zc_M_reader 2 = .ok (.invokestatic 129, 3) := by decide +kernel
theorem zd_M_reader_5 : decode zc_M_reader 5 = .ok (.ifCond .eq 11, 3) := by decide +kernel
theorem zd_M_reader_8 : decode zc_M_reader 8 = .ok (.iload_n 2, 1) := by decide +kernel
theorem zd_M_reader_9 : decode zc_M_reader 9 = .ok (.iconst 3, 1) := by decide +kernel
theorem zd_M_reader_10 : decode zc_M_reader 10 = .ok (.invokestatic 129, 3) := by decide +kernel
theorem zd_M_reader_13 : decode zc_M_reader 13 = .ok (.ifCond .ne 5, 3) := by decide +kernel
theorem zd_M_reader_16 : decode zc_M_reader 16 = .ok (.iconst (-1), 1) := by decide +kernel
theorem zd_M_reader_17 : decode zc_M_reader 17 = .ok (.ireturn, 1) := by decide +kernel
theorem zd_M_reader_18 : decode zc_M_reader 18 = .ok (.iload_n 2, 1) := by decide +kernel
theorem zd_M_reader_19 : decode zc_M_reader 19 = .ok (.ifCond .ne 10, 3) := by decide +kernel
theorem zd_M_reader_22 : decode zc_M_reader 22 = .ok (.aload_n 0, 1) := by decide +kernel
theorem zd_M_reader_23 : decode zc_M_reader 23 = .ok (.getfield 53, 3) := by decide +kernel
theorem zd_M_reader_26 : decode zc_M_reader 26 = .ok (.iload_n 1, 1) := by decide +kernel
theorem zd_M_reader_27 : decode zc_M_reader 27 = .ok (.iaload, 1) := by decide +kernel
theorem zd_M_reader_28 : decode zc_M_reader 28 = .ok (.ireturn, 1) := by decide +kernel
theorem zd_M_reader_29 : decode zc_M_reader 29 = .ok (.aload_n 0, 1) := by decide +kernel
theorem zd_M_reader_30 : decode zc_M_reader 30 = .ok (.getfield 62, 3) := by decide +kernel
theorem zd_M_reader_33 : decode zc_M_reader 33 = .ok (.iload_n 1, 1) := by decide +kernel
theorem zd_M_reader_34 : decode zc_M_reader 34 = .ok (.iaload, 1) := by decide +kernel
theorem zd_M_reader_35 : decode zc_M_reader 35 = .ok (.iconst 1, 1) := by decide +kernel
theorem zd_M_reader_36 : decode zc_M_reader 36 = .ok (.if_icmp .eq 5, 3) := by decide +kernel
theorem zd_M_reader_39 : decode zc_M_reader 39 = .ok (.iconst 0, 1) := by decide +kernel
theorem zd_M_reader_40 : decode zc_M_reader 40 = .ok (.ireturn, 1) := by decide +kernel
theorem zd_M_reader_41 : decode zc_M_reader 41 = .ok (.iload_n 2, 1) := by decide +kernel
theorem zd_M_reader_42 : decode zc_M_reader 42 = .ok (.iconst 1, 1) := by decide +kernel
theorem zd_M_reader_43 : decode zc_M_reader 43 = .ok (.if_icmp .ne 12, 3) := by decide +kernel
theorem zd_M_reader_46 : decode zc_M_reader 46 = .ok (.aload_n 0, 1) := by decide +kernel
theorem zd_M_reader_47 : decode zc_M_reader 47 = .ok (.getfield 59, 3) := by decide +kernel
theorem zd_M_reader_50 : decode zc_M_reader 50 = .ok (.iload_n 1, 1) := by decide +kernel
theorem zd_M_reader_51 : decode zc_M_reader 51 = .ok (.iaload, 1) := by decide +kernel
theorem zd_M_reader_52 : decode zc_M_reader 52 = .ok (.goto 8, 3) := by decide +kernel
theorem zd_M_reader_55 : decode zc_M_reader 55 = .ok (.aload_n 0, 1) := by decide +kernel
theorem zd_M_reader_56 : decode zc_M_reader 56 = .ok (.iload_n 1, 1) := by decide +kernel
theorem zd_M_reader_57 : decode zc_M_reader 57 = .ok (.invokevirtual 171, 3) := by decide +kernel
theorem zd_M_reader_60 : decode zc_M_reader 60 = .ok (.ireturn, 1) := by decide +kernel
