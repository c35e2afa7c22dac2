theorem zd_M_answers_0 : decode zc_M_answers 0 = .ok (.iconst 0, 1) := by decide +kernel
theorem zd_M_answers_1 : decode zc_M_answers 1 = .ok (.istore_n 2, 1) := by decide +kernel
theorem zd_M_answers_2 : decode zc_M_answers 2 = .ok (.iconst 0, 1) := by decide +kernel
theorem zd_M_answers_3 : decode zc_M_answers 3 = .ok (.istore_n 3, 1) := by decide +kernel
theorem zd_M_answers_4 : decode zc_M_answers 4 = .ok (.iload_n 3, 1) := by decide +kernel
theorem zd_M_answers_5 : decode zc_M_answers 5 = .ok (.bipush 9, 2) := by decide +kernel
theorem zd_M_answers_7 : decode zc_M_answers 7 = .ok (.if_icmp .ge 26, 3) := by decide +kernel
theorem zd_M_answers_10 : decode zc_M_answers 10 = .ok (.aload_n 0, 1) := by decide +kernel
theorem zd_M_answers_11 : decode zc_M_answers 11 = .ok (.getfield 65, 3) := by decide +kernel
theorem zd_M_answers_14 : decode zc_M_answers 14 = .ok (.bipush 9, 2) := by decide +kernel
theorem zd_M_answers_16 : decode zc_M_answers 16 = .ok (.iload_n 1, 1) := by decide +kernel
theorem zd_M_answers_17 : decode zc_M_answers 17 = .ok (.imul, 1) := by decide +kernel
theorem zd_M_answers_18 : decode zc_M_answers 18 = .ok (.iload_n 3, 1) := by decide +kernel
theorem zd_M_answers_19 : decode zc_M_answers 19 = .ok (.iadd, 1) := by decide +kernel
theorem zd_M_answers_20 : decode zc_M_answers 20 = .ok (.baload, 1) := by decide +kernel
theorem zd_M_answers_21 : decode zc_M_answers 21 = .ok (.ifCond .eq 6, 3) := by decide +kernel
theorem zd_M_answers_24 : decode zc_M_answers 24 = .ok (.iinc 2 1, 3) := by decide +kernel
theorem zd_M_answers_27 : decode zc_M_answers 27 = .ok (.iinc 3 1, 3) := by decide +kernel
theorem zd_M_answers_30 : decode zc_M_answers 30 = .ok (.goto (-26), 3) := by decide +kernel
theorem zd_M_answers_33 : decode zc_M_answers 33 = .ok (.iload_n 2, 1) := by decide +kernel
theorem zd_M_answers_34 : decode zc_M_answers 34 = .ok (.ireturn, 1) := by decide +kernel
theorem zd_M_same_0 : decode zc_M_same 0 = .ok (.aload_n 0, 1) := by decide +kernel
theorem zd_M_same_1 : decode zc_M_same 1 = .ok (.getfield 68, 3) := by decide +kernel
theorem zd_M_same_4 : decode zc_M_same 4 = .ok (.iload_n 1, 1) := by decide +kernel
theorem zd_M_same_5 : decode zc_M_same 5 = .ok (.iaload, 1) := by decide +kernel
theorem zd_M_same_6 : decode zc_M_same 6 = .ok (.aload_n 0, 1) := by decide +kernel
theorem zd_M_same_7 : decode zc_M_same 7 = .ok (.getfield 68, 3) := by decide +kernel
theorem zd_M_same_10 : decode zc_M_same 10 = .ok (.iload_n 2, 1) := by decide +kernel
theorem zd_M_same_11 : decode zc_M_same 11 = .ok (.iaload, 1) := by decide +kernel
theorem zd_M_same_12 : decode zc_M_same 12 = .ok (.if_icmp .ne 37, 3) := by decide +kernel
theorem zd_M_same_15 : decode zc_M_same 15 = .ok (.aload_n 0, 1) := by decide +kernel
theorem zd_M_same_16 : decode zc_M_same 16 = .ok (.getfield 71, 3) := by decide +kernel
theorem zd_M_same_19 : decode zc_M_same 19 = .ok (.iload_n 1, 1) := by decide +kernel
theorem zd_M_same_20 : decode zc_M_same 20 = .ok (.iaload, 1) := by decide +kernel
theorem zd_M_same_21 : decode zc_M_same 21 = .ok (.aload_n 0, 1) := by decide +kernel
theorem zd_M_same_22 : decode zc_M_same 22 = .ok (.getfield 71, 3) := by decide +kernel
theorem zd_M_same_25 : decode zc_M_same 25 = .ok (.iload_n 2, 1) := by decide +kernel
theorem zd_M_same_26 : decode zc_M_same 26 = .ok (.iaload, 1) := by decide +kernel
theorem zd_M_same_27 : decode zc_M_same 27 = .ok (.if_icmp .ne 22, 3) := by decide +kernel
theorem zd_M_same_30 : decode zc_M_same 30 = .ok (.aload_n 0, 1) := by decide +kernel
theorem zd_M_same_31 : decode zc_M_same 31 = .ok (.getfield 74, 3) := by decide +kernel
theorem zd_M_same_34 : decode zc_M_same 34 = .ok (.iload_n 1, 1) := by decide +kernel
theorem zd_M_same_35 : decode zc_M_same 35 = .ok (.iaload, 1) := by decide +kernel
theorem zd_M_same_36 : decode zc_M_same 36 = .ok (.aload_n 0, 1) := by decide +kernel
theorem zd_M_same_37 : decode zc_M_same 37 = .ok (.getfield 74, 3) := by decide +kernel
theorem zd_M_same_40 : decode zc_M_same 40 = .ok (.iload_n 2, 1) := by decide +kernel
theorem zd_M_same_41 : decode zc_M_same 41 = .ok (.iaload, 1) := by decide +kernel
theorem zd_M_same_42 : decode zc_M_same 42 = .ok (.if_icmp .ne 7, 3) := by decide +kernel
theorem zd_M_same_45 : decode zc_M_same 45 = .ok (.iconst 1, 1) := by decide +kernel
theorem zd_M_same_46 : decode zc_M_same 46 = .ok (.goto 4, 3) := by decide +kernel
theorem zd_M_same_49 : decode zc_M_same 49 = .ok (.iconst 0, 1) := by decide +kernel
theorem zd_M_same_50 : decode zc_M_same 50 = .ok (.ireturn, 1) := by decide +kernel
theorem zd_M_believed_0 : decode zc_M_believed 0 = .ok (.iconst 0, 1) := by decide +kernel
theorem zd_M_believed_1 : decode zc_M_believed 1 = .ok (.istore_n 3, 1) := by decide +kernel
theorem zd_M_believed_2 : decode zc_M_believed 2 = .ok (.iconst 0, 1) := by decide +kernel
theorem zd_M_believed_3 : decode zc_M_believed 3 = .ok (.istore 4, 2) := by decide +kernel
theorem zd_M_believed_5 : decode zc_M_believed 5 = .ok (.iload 4, 2) := by decide +kernel
theorem zd_M_believed_7 : decode zc_M_believed 7 = .ok (.bipush 9, 2) := by decide +kernel
theorem zd_M_believed_9 : decode zc_M_believed 9 = .ok (.if_icmp .ge 47, 3) := by decide +kernel
theorem zd_M_believed_12 : decode zc_M_believed 12 = .ok (.aload_n 0, 1) := by decide +kernel
theorem zd_M_believed_13 : decode zc_M_believed 13 = .ok (.getfield 65, 3) := by decide +kernel
theorem zd_M_believed_16 : decode zc_M_believed 16 = .ok (.bipush 9, 2) := by decide +kernel
theorem zd_M_believed_18 : decode zc_M_believed 18 = .ok (.iload_n 1, 1) := by decide +kernel
theorem zd_M_believed_19 : decode zc_M_believed 19 = .ok (.imul, 1) := by decide +kernel
theorem zd_M_believed_20 : decode zc_M_believed 20 = .ok (.iload 4, 2) := by decide +kernel
theorem zd_M_believed_22 : decode zc_M_believed 22 = .ok (.iadd, 1) := by decide +kernel
theorem zd_M_believed_23 : decode zc_M_believed 23 = .ok (.baload, 1) := by decide +kernel
theorem zd_M_believed_24 : decode zc_M_believed 24 = .ok (.ifCond .eq 26, 3) := by decide +kernel
theorem zd_M_believed_27 : decode zc_M_believed 27 = .ok (.aload_n 0, 1) := by decide +kernel
theorem zd_M_believed_28 : decode zc_M_believed 28 = .ok (.bipush 9, 2) := by decide +kernel
theorem zd_M_believed_30 : decode zc_M_believed 30 = .ok (.iload_n 1, 1) := by decide +kernel
theorem zd_M_believed_31 : decode zc_M_believed 31 = .ok (.imul, 1) := by decide +kernel
theorem zd_M_believed_32 : decode zc_M_believed 32 = .ok (.iload_n 2, 1) := by decide +kernel
theorem zd_M_believed_33 : decode zc_M_believed 33 = .ok (.iadd, 1) := by decide +kernel
theorem zd_M_believed_34 : decode zc_M_believed 34 = .ok (.bipush 9, 2) := by decide +kernel
theorem zd_M_believed_36 : decode zc_M_believed 36 = .ok (.iload_n 1, 1) := by decide +kernel
theorem zd_M_believed_37 : decode zc_M_believed 37 = .ok (.imul, 1) := by decide +kernel
theorem zd_M_believed_38 : decode zc_M_believed 38 = .ok (.iload 4, 2) := by decide +kernel
theorem zd_M_believed_40 : decode zc_M_believed 40 = .ok (.iadd, 1) := by decide +kernel
theorem zd_M_believed_41 : decode zc_M_believed 41 = .ok (.invokevirtual 159, 3) := by decide +kernel
theorem zd_M_believed_44 : decode zc_M_believed 44 = .ok (.ifCond .eq 6, 3) := by decide +kernel
theorem zd_M_believed_47 : decode zc_M_believed 47 = .ok (.iinc 3 1, 3) := by decide +kernel
theorem zd_M_believed_50 : decode zc_M_believed 50 = .ok (.iinc 4 1, 3) := by decide +kernel
theorem zd_M_believed_53 : decode zc_M_believed 53 = .ok (.goto (-48), 3) := by decide +kernel
theorem zd_M_believed_56 : decode zc_M_believed 56 = .ok (.aload_n 0, 1) := by decide +kernel
theorem zd_M_believed_57 : decode zc_M_believed 57 = .ok (.getfield 65, 3) := by decide +kernel
theorem zd_M_believed_60 : decode zc_M_believed 60 = .ok (.bipush 9, 2) := by decide +kernel
theorem zd_M_believed_62 : decode zc_M_believed 62 = .ok (.iload_n 1, 1) := by decide +kernel
theorem zd_M_believed_63 : decode zc_M_believed 63 = .ok (.imul, 1) := by decide +kernel
theorem zd_M_believed_64 : decode zc_M_believed 64 = .ok (.iload_n 2, 1) := by decide +kernel
theorem zd_M_believed_65 : decode zc_M_believed 65 = .ok (.iadd, 1) := by decide +kernel
theorem zd_M_believed_66 : decode zc_M_believed 66 = .ok (.baload, 1) := by decide +kernel
theorem zd_M_believed_67 : decode zc_M_believed 67 = .ok (.ifCond .eq 12, 3) := by decide +kernel
theorem zd_M_believed_70 : decode zc_M_believed 70 = .ok (.iload_n 3, 1) := by decide +kernel
theorem zd_M_believed_71 : decode zc_M_believed 71 = .ok (.iconst 3, 1) := by decide +kernel
theorem zd_M_believed_72 : decode zc_M_believed 72 = .ok (.if_icmp .lt 7, 3) := by decide +kernel
theorem zd_M_believed_75 : decode zc_M_believed 75 = .ok (.iconst 1, 1) := by decide +kernel
theorem zd_M_believed_76 : decode zc_M_believed 76 = .ok (.goto 4, 3) := by decide +kernel
theorem zd_M_believed_79 : decode zc_M_believed 79 = .ok (.iconst 0, 1) := by decide +kernel
theorem zd_M_believed_80 : decode zc_M_believed 80 = .ok (.ireturn, 1) := by decide +kernel
theorem zd_M_better_0 : decode zc_M_better 0 = .ok (.aload_n 0, 1) := by decide +kernel
theorem zd_M_better_1 : decode zc_M_better 1 = .ok (.getfield 68, 3) := by decide +kernel
theorem zd_M_better_4 : decode zc_M_better 4 = .ok (.iload_n 1, 1) := by decide +kernel
theorem zd_M_better_5 : decode zc_M_better 5 = .ok (.iaload, 1) := by decide +kernel
theorem zd_M_better_6 : decode zc_M_better 6 = .ok (.aload_n 0, 1) := by decide +kernel
theorem zd_M_better_7 : decode zc_M_better 7 = .ok (.getfield 68, 3) := by decide +kernel
theorem zd_M_better_10 : decode zc_M_better 10 = .ok (.iload_n 2, 1) := by decide +kernel
theorem zd_M_better_11 : decode zc_M_better 11 = .ok (.iaload, 1) := by decide +kernel
theorem zd_M_better_12 : decode zc_M_better 12 = .ok (.if_icmp .eq 24, 3) := by decide +kernel
theorem zd_M_better_15 : decode zc_M_better 15 = .ok (.aload_n 0, 1) := by decide +kernel
theorem zd_M_better_16 : decode zc_M_better 16 = .ok (.getfield 68, 3) := by decide +kernel
theorem zd_M_better_19 : decode zc_M_better 19 = .ok (.iload_n 1, 1) := by decide +kernel
theorem zd_M_better_20 : decode zc_M_better 20 = .ok (.iaload, 1) := by decide +kernel
theorem zd_M_better_21 : decode zc_M_better 21 = .ok (.aload_n 0, 1) := by decide +kernel
theorem zd_M_better_22 : decode zc_M_better 22 = .ok (.getfield 68, 3) := by decide +kernel
theorem zd_M_better_25 : decode zc_M_better 25 = .ok (.iload_n 2, 1) := by decide +kernel
theorem zd_M_better_26 : decode zc_M_better 26 = .ok (.iaload, 1) := by decide +kernel
theorem zd_M_better_27 : decode zc_M_better 27 = .ok (.if_icmp .le 7, 3) := by decide +kernel
theorem zd_M_better_30 : decode zc_M_better 30 = .ok (.iconst 1, 1) := by decide +kernel
theorem zd_M_better_31 : decode zc_M_better 31 = .ok (.goto 4, 3) := by decide +kernel
theorem zd_M_better_34 : decode zc_M_better 34 = .ok (.iconst 0, 1) := by decide +kernel
theorem zd_M_better_35 : decode zc_M_better 35 = .ok (.ireturn, 1) := by decide +kernel
theorem zd_M_better_36 : decode zc_M_better 36 = .ok (.aload_n 0, 1) := by decide +kernel
theorem zd_M_better_37 : decode zc_M_better 37 = .ok (.getfield 71, 3) := by decide +kernel
theorem zd_M_better_40 : decode zc_M_better 40 = .ok (.iload_n 1, 1) := by decide +kernel
theorem zd_M_better_41 : decode zc_M_better 41 = .ok (.iaload, 1) := by decide +kernel
theorem zd_M_better_42 : decode zc_M_better 42 = .ok (.aload_n 0, 1) := by decide +kernel
theorem zd_M_better_43 : decode zc_M_better 43 = .ok (.getfield 71, 3) := by decide +kernel
theorem zd_M_better_46 : decode zc_M_better 46 = .ok (.iload_n 2, 1) := by decide +kernel
theorem zd_M_better_47 : decode zc_M_better 47 = .ok (.iaload, 1) := by decide +kernel
theorem zd_M_better_48 : decode zc_M_better 48 = .ok (.if_icmp .eq 26, 3) := by decide +kernel
theorem zd_M_better_51 : decode zc_M_better 51 = .ok (.aload_n 0, 1) := by decide +kernel
theorem zd_M_better_52 : decode zc_M_better 52 = .ok (.getfield 71, 3) := by decide +kernel
theorem zd_M_better_55 : decode zc_M_better 55 = .ok (.iload_n 1, 1) := by decide +kernel
theorem zd_M_better_56 : decode zc_M_better 56 = .ok (.iaload, 1) := by decide +kernel
theorem zd_M_better_57 : decode zc_M_better 57 = .ok (.aload_n 0, 1) := by decide +kernel
theorem zd_M_better_58 : decode zc_M_better 58 = .ok (.getfield 71, 3) := by decide +kernel
theorem zd_M_better_61 : decode zc_M_better 61 = .ok (.iload_n 2, 1) := by decide +kernel
theorem zd_M_better_62 : decode zc_M_better 62 = .ok (.iaload, 1) := by decide +kernel
theorem zd_M_better_63 : decode zc_M_better 63 = .ok (.if_icmp .ge 7, 3) := by decide +kernel
theorem zd_M_better_66 : decode zc_M_better 66 = .ok (.iconst 1, 1) := by decide +kernel
theorem zd_M_better_67 : decode zc_M_better 67 = .ok (.goto 27, 3) := by decide +kernel
theorem zd_M_better_70 : decode zc_M_better 70 = .ok (.iconst 0, 1) := by decide +kernel
theorem zd_M_better_71 : decode zc_M_better 71 = .ok (.goto 23, 3) := by decide +kernel
theorem zd_M_better_74 : decode zc_M_better 74 = .ok (.aload_n 0, 1) := by decide +kernel
theorem zd_M_better_75 : decode zc_M_better 75 = .ok (.getfield 74, 3) := by decide +kernel
theorem zd_M_better_78 : decode zc_M_better 78 = .ok (.iload_n 1, 1) := by decide +kernel
theorem zd_M_better_79 : decode zc_M_better 79 = .ok (.iaload, 1) := by decide +kernel
theorem zd_M_better_80 : decode zc_M_better 80 = .ok (.aload_n 0, 1) := by decide +kernel
theorem zd_M_better_81 : decode zc_M_better 81 = .ok (.getfield 74, 3) := by decide +kernel
theorem zd_M_better_84 : decode zc_M_better 84 = .ok (.iload_n 2, 1) := by decide +kernel
theorem zd_M_better_85 : decode zc_M_better 85 = .ok (.iaload, 1) := by decide +kernel
theorem zd_M_better_86 : decode zc_M_better 86 = .ok (.if_icmp .ge 7, 3) := by decide +kernel
theorem zd_M_better_89 : decode zc_M_better 89 = .ok (.iconst 1, 1) := by decide +kernel
theorem zd_M_better_90 : decode zc_M_better 90 = .ok (.goto 4, 3) := by decide +kernel
theorem zd_M_better_93 : decode zc_M_better 93 = .ok (.iconst 0, 1) := by decide +kernel
theorem zd_M_better_94 : decode zc_M_better 94 = .ok (.ireturn, 1) := by decide +kernel
theorem zd_M_answer_0 : decode zc_M_answer 0 = .ok (.aload_n 0, 1) := by decide +kernel
theorem zd_M_answer_1 : decode zc_M_answer 1 = .ok (.getfield 56, 3) := by decide +kernel
theorem zd_M_answer_4 : decode zc_M_answer 4 = .ok (.iload_n 1, 1) := by decide +kernel
theorem zd_M_answer_5 : decode zc_M_answer 5 = .ok (.iaload, 1) := by decide +kernel
theorem zd_M_answer_6 : decode zc_M_answer 6 = .ok (.istore_n 3, 1) := by decide +kernel
theorem zd_M_answer_7 : decode zc_M_answer 7 = .ok (.iconst 4, 1) := by decide +kernel
theorem zd_M_answer_8 : decode zc_M_answer 8 = .ok (.iload_n 1, 1) := by decide +kernel
theorem zd_M_answer_9 : decode zc_M_answer 9 = .ok (.imul, 1) := by decide +kernel
theorem zd_M_answer_10 : decode zc_M_answer 10 = .ok (.iload_n 3, 1) := by decide +kernel
theorem zd_M_answer_11 : decode zc_M_answer 11 = .ok (.iadd, 1) := by decide +kernel
theorem zd_M_answer_12 : decode zc_M_answer 12 = .ok (.istore 4, 2) := by decide +kernel
theorem zd_M_answer_14 : decode zc_M_answer 14 = .ok (.aload_n 0, 1) := by decide +kernel
theorem zd_M_answer_15 : decode zc_M_answer 15 = .ok (.getfield 68, 3) := by decide +kernel
theorem zd_M_answer_18 : decode zc_M_answer 18 = .ok (.iload_n 2, 1) := by decide +kernel
theorem zd_M_answer_19 : decode zc_M_answer 19 = .ok (.iaload, 1) := by decide +kernel
theorem zd_M_answer_20 : decode zc_M_answer 20 = .ok (.aload_n 0, 1) := by decide +kernel
theorem zd_M_answer_21 : decode zc_M_answer 21 = .ok (.getfield 77, 3) := by decide +kernel
theorem zd_M_answer_24 : decode zc_M_answer 24 = .ok (.iload 4, 2) := by decide +kernel
theorem zd_M_answer_26 : decode zc_M_answer 26 = .ok (.iaload, 1) := by decide +kernel
theorem zd_M_answer_27 : decode zc_M_answer 27 = .ok (.if_icmp .lt 42, 3) := by decide +kernel
theorem zd_M_answer_30 : decode zc_M_answer 30 = .ok (.aload_n 0, 1) := by decide +kernel
theorem zd_M_answer_31 : decode zc_M_answer 31 = .ok (.getfield 77, 3) := by decide +kernel
theorem zd_M_answer_34 : decode zc_M_answer 34 = .ok (.iload 4, 2) := by decide +kernel
theorem zd_M_answer_36 : decode zc_M_answer 36 = .ok (.aload_n 0, 1) := by decide +kernel
theorem zd_M_answer_37 : decode zc_M_answer 37 = .ok (.getfield 68, 3) := by decide +kernel
theorem zd_M_answer_40 : decode zc_M_answer 40 = .ok (.iload_n 2, 1) := by decide +kernel
theorem zd_M_answer_41 : decode zc_M_answer 41 = .ok (.iaload, 1) := by decide +kernel
theorem zd_M_answer_42 : decode zc_M_answer 42 = .ok (.iastore, 1) := by decide +kernel
theorem zd_M_answer_43 : decode zc_M_answer 43 = .ok (.aload_n 0, 1) := by decide +kernel
theorem zd_M_answer_44 : decode zc_M_answer 44 = .ok (.getfield 80, 3) := by decide +kernel
theorem zd_M_answer_47 : decode zc_M_answer 47 = .ok (.iload 4, 2) := by decide +kernel
theorem zd_M_answer_49 : decode zc_M_answer 49 = .ok (.aload_n 0, 1) := by decide +kernel
theorem zd_M_answer_50 : decode zc_M_answer 50 = .ok (.getfield 71, 3) := by decide +kernel
theorem zd_M_answer_53 : decode zc_M_answer 53 = .ok (.iload_n 2, 1) := by decide +kernel
theorem zd_M_answer_54 : decode zc_M_answer 54 = .ok (.iaload, 1) := by decide +kernel
theorem zd_M_answer_55 : decode zc_M_answer 55 = .ok (.iastore, 1) := by decide +kernel
theorem zd_M_answer_56 : decode zc_M_answer 56 = .ok (.aload_n 0, 1) := by decide +kernel
theorem zd_M_answer_57 : decode zc_M_answer 57 = .ok (.getfield 83, 3) := by decide +kernel
theorem zd_M_answer_60 : decode zc_M_answer 60 = .ok (.iload 4, 2) := by decide +kernel
theorem zd_M_answer_62 : decode zc_M_answer 62 = .ok (.aload_n 0, 1) := by decide +kernel
theorem zd_M_answer_63 : decode zc_M_answer 63 = .ok (.getfield 74, 3) := by decide +kernel
theorem zd_M_answer_66 : decode zc_M_answer 66 = .ok (.iload_n 2, 1) := by decide +kernel
theorem zd_M_answer_67 : decode zc_M_answer 67 = .ok (.iaload, 1) := by decide +kernel
theorem zd_M_answer_68 : decode zc_M_answer 68 = .ok (.iastore, 1) := by decide +kernel
theorem zd_M_answer_69 : decode zc_M_answer 69 = .ok (.aload_n 0, 1) := by decide +kernel
theorem zd_M_answer_70 : decode zc_M_answer 70 = .ok (.getfield 62, 3) := by decide +kernel
theorem zd_M_answer_73 : decode zc_M_answer 73 = .ok (.iload_n 1, 1) := by decide +kernel
theorem zd_M_answer_74 : decode zc_M_answer 74 = .ok (.iconst 2, 1) := by decide +kernel
theorem zd_M_answer_75 : decode zc_M_answer 75 = .ok (.iastore, 1) := by decide +kernel
theorem zd_M_answer_76 : decode zc_M_answer 76 = .ok (.aload_n 0, 1) := by decide +kernel
theorem zd_M_answer_77 : decode zc_M_answer 77 = .ok (.getfield 86, 3) := by decide +kernel
theorem zd_M_answer_80 : decode zc_M_answer 80 = .ok (.iload_n 1, 1) := by decide +kernel
theorem zd_M_answer_81 : decode zc_M_answer 81 = .ok (.iconst 1, 1) := by decide +kernel
theorem zd_M_answer_82 : decode zc_M_answer 82 = .ok (.bastore, 1) := by decide +kernel
theorem zd_M_answer_83 : decode zc_M_answer 83 = .ok (.aload_n 0, 1) := by decide +kernel
theorem zd_M_answer_84 : decode zc_M_answer 84 = .ok (.getfield 89, 3) := by decide +kernel
theorem zd_M_answer_87 : decode zc_M_answer 87 = .ok (.iconst 4, 1) := by decide +kernel
theorem zd_M_answer_88 : decode zc_M_answer 88 = .ok (.iload_n 1, 1) := by decide +kernel
theorem zd_M_answer_89 : decode zc_M_answer 89 = .ok (.imul, 1) := by decide +kernel
theorem zd_M_answer_90 : decode zc_M_answer 90 = .ok (.iload_n 3, 1) := by decide +kernel
theorem zd_M_answer_91 : decode zc_M_answer 91 = .ok (.iastore, 1) := by decide +kernel
theorem zd_M_answer_92 : decode zc_M_answer 92 = .ok (.aload_n 0, 1) := by decide +kernel
theorem zd_M_answer_93 : decode zc_M_answer 93 = .ok (.getfield 89, 3) := by decide +kernel
theorem zd_M_answer_96 : decode zc_M_answer 96 = .ok (.iconst 4, 1) := by decide +kernel
theorem zd_M_answer_97 : decode zc_M_answer 97 = .ok (.iload_n 1, 1) := by decide +kernel
theorem zd_M_answer_98 : decode zc_M_answer 98 = .ok (.imul, 1) := by decide +kernel
theorem zd_M_answer_99 : decode zc_M_answer 99 = .ok (.iconst 1, 1) := by decide +kernel
theorem zd_M_answer_100 : decode zc_M_answer 100 = .ok (.iadd, 1) := by decide +kernel
theorem zd_M_answer_101 : decode zc_M_answer 101 = .ok (.aload_n 0, 1) := by decide +kernel
theorem zd_M_answer_102 : decode zc_M_answer 102 = .ok (.getfield 77, 3) := by decide +kernel
theorem zd_M_answer_105 : decode zc_M_answer 105 = .ok (.iload 4, 2) := by decide +kernel
theorem zd_M_answer_107 : decode zc_M_answer 107 = .ok (.iaload, 1) := by decide +kernel
theorem zd_M_answer_108 : decode zc_M_answer 108 = .ok (.iastore, 1) := by decide +kernel
theorem zd_M_answer_109 : decode zc_M_answer 109 = .ok (.aload_n 0, 1) := by decide +kernel
theorem zd_M_answer_110 : decode zc_M_answer 110 = .ok (.getfield 89, 3) := by decide +kernel
theorem zd_M_answer_113 : decode zc_M_answer 113 = .ok (.iconst 4, 1) := by decide +kernel
theorem zd_M_answer_114 : decode zc_M_answer 114 = .ok (.iload_n 1, 1) := by decide +kernel
theorem zd_M_answer_115 : decode zc_M_answer 115 = .ok (.imul, 1) := by decide +kernel
theorem zd_M_answer_116 : decode zc_M_answer 116 = .ok (.iconst 2, 1) := by decide +kernel
theorem zd_M_answer_117 : decode zc_M_answer 117 = .ok (.iadd, 1) := by decide +kernel
theorem zd_M_answer_118 : decode zc_M_answer 118 = .ok (.aload_n 0, 1) := by decide +kernel
theorem zd_M_answer_119 : decode zc_M_answer 119 = .ok (.getfield 80, 3) := by decide +kernel
theorem zd_M_answer_122 : decode zc_M_answer 122 = .ok (.iload 4, 2) := by decide +kernel
theorem zd_M_answer_124 : decode zc_M_answer 124 = .ok (.iaload, 1) := by decide +kernel
theorem zd_M_answer_125 : decode zc_M_answer 125 = .ok (.iastore, 1) := by decide +kernel
theorem zd_M_answer_126 : decode zc_M_answer 126 = .ok (.aload_n 0, 1) := by decide +kernel
theorem zd_M_answer_127 : decode zc_M_answer 127 = .ok (.getfield 89, 3) := by decide +kernel
theorem zd_M_answer_130 : decode zc_M_answer 130 = .ok (.iconst 4, 1) := by decide +kernel
theorem zd_M_answer_131 : decode zc_M_answer 131 = .ok (.iload_n 1, 1) := by decide +kernel
theorem zd_M_answer_132 : decode zc_M_answer 132 = .ok (.imul, 1) := by decide +kernel
theorem zd_M_answer_133 : decode zc_M_answer 133 = .ok (.iconst 3, 1) := by decide +kernel
theorem zd_M_answer_134 : decode zc_M_answer 134 = .ok (.iadd, 1) := by decide +kernel
theorem zd_M_answer_135 : decode zc_M_answer 135 = .ok (.aload_n 0, 1) := by decide +kernel
theorem zd_M_answer_136 : decode zc_M_answer 136 = .ok (.getfield 83, 3) := by decide +kernel
theorem zd_M_answer_139 : decode zc_M_answer 139 = .ok (.iload 4, 2) := by decide +kernel
theorem zd_M_answer_141 : decode zc_M_answer 141 = .ok (.iaload, 1) := by decide +kernel
theorem zd_M_answer_142 : decode zc_M_answer 142 = .ok (.iastore, 1) := by decide +kernel
theorem zd_M_answer_143 : decode zc_M_answer 143 = .ok (.aload_n 0, 1) := by decide +kernel
theorem zd_M_answer_144 : decode zc_M_answer 144 = .ok (.getfield 92, 3) := by decide +kernel
theorem zd_M_answer_147 : decode zc_M_answer 147 = .ok (.iload_n 3, 1) := by decide +kernel
theorem zd_M_answer_148 : decode zc_M_answer 148 = .ok (.iconst 1, 1) := by decide +kernel
theorem zd_M_answer_149 : decode zc_M_answer 149 = .ok (.bastore, 1) := by decide +kernel
theorem zd_M_answer_150 : decode zc_M_answer 150 = .ok (.aload_n 0, 1) := by decide +kernel
theorem zd_M_answer_151 : decode zc_M_answer 151 = .ok (.getfield 95, 3) := by decide +kernel
theorem zd_M_answer_154 : decode zc_M_answer 154 = .ok (.iload_n 3, 1) := by decide +kernel
theorem zd_M_answer_155 : decode zc_M_answer 155 = .ok (.aload_n 0, 1) := by decide +kernel
theorem zd_M_answer_156 : decode zc_M_answer 156 = .ok (.getfield 80, 3) := by decide +kernel
theorem zd_M_answer_159 : decode zc_M_answer 159 = .ok (.iload 4, 2) := by decide +kernel
theorem zd_M_answer_161 : decode zc_M_answer 161 = .ok (.iaload, 1) := by decide +kernel
theorem zd_M_answer_162 : decode zc_M_answer 162 = .ok (.iastore, 1) := by decide +kernel
theorem zd_M_answer_163 : decode zc_M_answer 163 = .ok (.aload_n 0, 1) := by decide +kernel
theorem zd_M_answer_164 : decode zc_M_answer 164 = .ok (.getfield 98, 3) := by decide +kernel
theorem zd_M_answer_167 : decode zc_M_answer 167 = .ok (.iload_n 3, 1) := by decide +kernel
theorem zd_M_answer_168 : decode zc_M_answer 168 = .ok (.aload_n 0, 1) := by decide +kernel
theorem zd_M_answer_169 : decode zc_M_answer 169 = .ok (.getfield 83, 3) := by decide +kernel
theorem zd_M_answer_172 : decode zc_M_answer 172 = .ok (.iload 4, 2) := by decide +kernel
theorem zd_M_answer_174 : decode zc_M_answer 174 = .ok (.iaload, 1) := by decide +kernel
theorem zd_M_answer_175 : decode zc_M_answer 175 = .ok (.iastore, 1) := by decide +kernel
theorem zd_M_answer_176 : decode zc_M_answer 176 = .ok (.return_, 1) := by decide +kernel
theorem zd_M_looks_0 : decode zc_M_looks 0 = .ok (.iconst (-1), 1) := by decide +kernel
theorem zd_M_looks_1 : decode zc_M_looks 1 = .ok (.istore_n 2, 1) := by decide +kernel
theorem zd_M_looks_2 : decode zc_M_looks 2 = .ok (.iconst 0, 1) := by decide +kernel
theorem zd_M_looks_3 : decode zc_M_looks 3 = .ok (.istore_n 3, 1) := by decide +kernel
theorem zd_M_looks_4 : decode zc_M_looks 4 = .ok (.iload_n 3, 1) := by decide +kernel
theorem zd_M_looks_5 : decode zc_M_looks 5 = .ok (.bipush 9, 2) := by decide +kernel
theorem zd_M_looks_7 : decode zc_M_looks 7 = .ok (.if_icmp .ge 44, 3) := by decide +kernel
theorem zd_M_looks_10 : decode zc_M_looks 10 = .ok (.aload_n 0, 1) := by decide +kernel
theorem zd_M_looks_11 : decode zc_M_looks 11 = .ok (.iload_n 1, 1) := by decide +kernel
theorem zd_M_looks_12 : decode zc_M_looks 12 = .ok (.iload_n 3, 1) := by decide +kernel
theorem zd_M_looks_13 : decode zc_M_looks 13 = .ok (.invokevirtual 162, 3) := by decide +kernel
theorem zd_M_looks_16 : decode zc_M_looks 16 = .ok (.ifCond .eq 29, 3) := by decide +kernel
theorem zd_M_looks_19 : decode zc_M_looks 19 = .ok (.iload_n 2, 1) := by decide +kernel
theorem zd_M_looks_20 : decode zc_M_looks 20 = .ok (.iconst (-1), 1) := by decide +kernel
theorem zd_M_looks_21 : decode zc_M_looks 21 = .ok (.if_icmp .eq 17, 3) := by decide +kernel
theorem zd_M_looks_24 : decode zc_M_looks 24 = .ok (.aload_n 0, 1) := by decide +kernel
theorem zd_M_looks_25 : decode zc_M_looks 25 = .ok (.bipush 9, 2) := by decide +kernel
theorem zd_M_looks_27 : decode zc_M_looks 27 = .ok (.iload_n 1, 1) := by decide +kernel
theorem zd_M_looks_28 : decode zc_M_looks 28 = .ok (.imul, 1) := by decide +kernel
theorem zd_M_looks_29 : decode zc_M_looks 29 = .ok (.iload_n 3, 1) := by decide +kernel
theorem zd_M_looks_30 : decode zc_M_looks 30 = .ok (.iadd, 1) := by decide +kernel
theorem zd_M_looks_31 : decode zc_M_looks 31 = .ok (.iload_n 2, 1) := by decide +kernel
theorem zd_M_looks_32 : decode zc_M_looks 32 = .ok (.invokevirtual 165, 3) := by decide +kernel
theorem zd_M_looks_35 : decode zc_M_looks 35 = .ok (.ifCond .eq 10, 3) := by decide +kernel
theorem zd_M_looks_38 : decode zc_M_looks 38 = .ok (.bipush 9, 2) := by decide +kernel
theorem zd_M_looks_40 : decode zc_M_looks 40 = .ok (.iload_n 1, 1) := by decide +kernel
theorem zd_M_looks_41 : decode zc_M_looks 41 = .ok (.imul, 1) := by decide +kernel
theorem zd_M_looks_42 : decode zc_M_looks 42 = .ok (.iload_n 3, 1) := by decide +kernel
theorem zd_M_looks_43 : decode zc_M_looks 43 = .ok (.iadd, 1) := by decide +kernel
theorem zd_M_looks_44 : decode zc_M_looks 44 = .ok (.istore_n 2, 1) := by decide +kernel
theorem zd_M_looks_45 : decode zc_M_looks 45 = .ok (.iinc 3 1, 3) := by decide +kernel
theorem zd_M_looks_48 : decode zc_M_looks 48 = .ok (.goto (-44), 3) := by decide +kernel
theorem zd_M_looks_51 : decode zc_M_looks 51 = .ok (.iload_n 2, 1) := by decide +kernel
theorem zd_M_looks_52 : decode zc_M_looks 52 = .ok (.iconst (-1), 1) := by decide +kernel
theorem zd_M_looks_53 : decode zc_M_looks 53 = .ok (.if_icmp .eq 12, 3) := by decide +kernel
theorem zd_M_looks_56 : decode zc_M_looks 56 = .ok (.aload_n 0, 1) := by decide +kernel
theorem zd_M_looks_57 : decode zc_M_looks 57 = .ok (.iload_n 1, 1) := by decide +kernel
theorem zd_M_looks_58 : decode zc_M_looks 58 = .ok (.iload_n 2, 1) := by decide +kernel
theorem zd_M_looks_59 : decode zc_M_looks 59 = .ok (.invokevirtual 168, 3) := by decide +kernel
theorem zd_M_looks_62 : decode zc_M_looks 62 = .ok (.goto 41, 3) := by decide +kernel
theorem zd_M_looks_65 : decode zc_M_looks 65 = .ok (.aload_n 0, 1) := by decide +kernel
theorem zd_M_looks_66 : decode zc_M_looks 66 = .ok (.getfield 59, 3) := by decide +kernel
theorem zd_M_looks_69 : decode zc_M_looks 69 = .ok (.iload_n 1, 1) := by decide +kernel
theorem zd_M_looks_70 : decode zc_M_looks 70 = .ok (.iaload, 1) := by decide +kernel
theorem zd_M_looks_71 : decode zc_M_looks 71 = .ok (.aload_n 0, 1) := by decide +kernel
theorem zd_M_looks_72 : decode zc_M_looks 72 = .ok (.getfield 125, 3) := by decide +kernel
theorem zd_M_looks_75 : decode zc_M_looks 75 = .ok (.if_icmp .ne 13, 3) := by decide +kernel
theorem zd_M_looks_78 : decode zc_M_looks 78 = .ok (.aload_n 0, 1) := by decide +kernel
theorem zd_M_looks_79 : decode zc_M_looks 79 = .ok (.getfield 62, 3) := by decide +kernel
theorem zd_M_looks_82 : decode zc_M_looks 82 = .ok (.iload_n 1, 1) := by decide +kernel
theorem zd_M_looks_83 : decode zc_M_looks 83 = .ok (.iconst 3, 1) := by decide +kernel
theorem zd_M_looks_84 : decode zc_M_looks 84 = .ok (.iastore, 1) := by decide +kernel
theorem zd_M_looks_85 : decode zc_M_looks 85 = .ok (.goto 18, 3) := by decide +kernel
theorem zd_M_looks_88 : decode zc_M_looks 88 = .ok (.aload_n 0, 1) := by decide +kernel
theorem zd_M_looks_89 : decode zc_M_looks 89 = .ok (.getfield 59, 3) := by decide +kernel
theorem zd_M_looks_92 : decode zc_M_looks 92 = .ok (.iload_n 1, 1) := by decide +kernel
theorem zd_M_looks_93 : decode zc_M_looks 93 = .ok (.dup2, 1) := by decide +kernel
theorem zd_M_looks_94 : decode zc_M_looks 94 = .ok (.iaload, 1) := by decide +kernel
theorem zd_M_looks_95 : decode zc_M_looks 95 = .ok (.iconst 1, 1) := by decide +kernel
theorem zd_M_looks_96 : decode zc_M_looks 96 = .ok (.iadd, 1) := by decide +kernel
theorem zd_M_looks_97 : decode zc_M_looks 97 = .ok (.iastore, 1) := by decide +kernel
theorem zd_M_looks_98 : decode zc_M_looks 98 = .ok (.aload_n 0, 1) := by decide +kernel
theorem zd_M_looks_99 : decode zc_M_looks 99 = .ok (.iload_n 1, 1) := by decide +kernel
theorem zd_M_looks_100 : decode zc_M_looks 100 = .ok (.invokevirtual 155, 3) := by decide +kernel
theorem zd_M_looks_103 : decode zc_M_looks 103 = .ok (.return_, 1) := by decide +kernel
theorem zd_M_tellComes_0 : decode zc_M_tellComes 0 = .ok (.aload_n 0, 1) := by decide +kernel
theorem zd_M_tellComes_1 : decode zc_M_tellComes 1 = .ok (.getfield 110, 3) := by decide +kernel
theorem zd_M_tellComes_4 : decode zc_M_tellComes 4 = .ok (.sipush 300, 3) := by decide +kernel
theorem zd_M_tellComes_7 : decode zc_M_tellComes 7 = .ok (.iaload, 1) := by decide +kernel
theorem zd_M_tellComes_8 : decode zc_M_tellComes 8 = .ok (.istore_n 1, 1) := by decide +kernel
theorem zd_M_tellComes_9 : decode zc_M_tellComes 9 = .ok (.bipush 9, 2) := by decide +kernel
theorem zd_M_tellComes_11 : decode zc_M_tellComes 11 = .ok (.iload_n 1, 1) := by decide +kernel
theorem zd_M_tellComes_12 : decode zc_M_tellComes 12 = .ok (.imul, 1) := by decide +kernel
theorem zd_M_tellComes_13 : decode zc_M_tellComes 13 = .ok (.aload_n 0, 1) := by decide +kernel
theorem zd_M_tellComes_14 : decode zc_M_tellComes 14 = .ok (.getfield 104, 3) := by decide +kernel
theorem zd_M_tellComes_17 : decode zc_M_tellComes 17 = .ok (.sipush 300, 3) := by decide +kernel
theorem zd_M_tellComes_20 : decode zc_M_tellComes 20 = .ok (.iaload, 1) := by decide +kernel
theorem zd_M_tellComes_21 : decode zc_M_tellComes 21 = .ok (.iadd, 1) := by decide +kernel
theorem zd_M_tellComes_22 : decode zc_M_tellComes 22 = .ok (.istore_n 2, 1) := by decide +kernel
theorem zd_M_tellComes_23 : decode zc_M_tellComes 23 = .ok (.aload_n 0, 1) := by decide +kernel
theorem zd_M_tellComes_24 : decode zc_M_tellComes 24 = .ok (.getfield 62, 3) := by decide +kernel
theorem zd_M_tellComes_27 : decode zc_M_tellComes 27 = .ok (.iload_n 1, 1) := by decide +kernel
theorem zd_M_tellComes_28 : decode zc_M_tellComes 28 = .ok (.iaload, 1) := by decide +kernel
theorem zd_M_tellComes_29 : decode zc_M_tellComes 29 = .ok (.iconst 1, 1) := by decide +kernel
theorem zd_M_tellComes_30 : decode zc_M_tellComes 30 = .ok (.if_icmp .ne 29, 3) := by decide +kernel
theorem zd_M_tellComes_33 : decode zc_M_tellComes 33 = .ok (.aload_n 0, 1) := by decide +kernel
theorem zd_M_tellComes_34 : decode zc_M_tellComes 34 = .ok (.getfield 113, 3) := by decide +kernel
theorem zd_M_tellComes_37 : decode zc_M_tellComes 37 = .ok (.sipush 300, 3) := by decide +kernel
theorem zd_M_tellComes_40 : decode zc_M_tellComes 40 = .ok (.iaload, 1) := by decide +kernel
theorem zd_M_tellComes_41 : decode zc_M_tellComes 41 = .ok (.aload_n 0, 1) := by decide +kernel
theorem zd_M_tellComes_42 : decode zc_M_tellComes 42 = .ok (.getfield 53, 3) := by decide +kernel
theorem zd_M_tellComes_45 : decode zc_M_tellComes 45 = .ok (.iload_n 1, 1) := by decide +kernel
theorem zd_M_tellComes_46 : decode zc_M_tellComes 46 = .ok (.iaload, 1) := by decide +kernel
theorem zd_M_tellComes_47 : decode zc_M_tellComes 47 = .ok (.if_icmp .ne 12, 3) := by decide +kernel
theorem zd_M_tellComes_50 : decode zc_M_tellComes 50 = .ok (.aload_n 0, 1) := by decide +kernel
theorem zd_M_tellComes_51 : decode zc_M_tellComes 51 = .ok (.getfield 65, 3) := by decide +kernel
theorem zd_M_tellComes_54 : decode zc_M_tellComes 54 = .ok (.iload_n 2, 1) := by decide +kernel
theorem zd_M_tellComes_55 : decode zc_M_tellComes 55 = .ok (.baload, 1) := by decide +kernel
theorem zd_M_tellComes_56 : decode zc_M_tellComes 56 = .ok (.ifCond .eq 4, 3) := by decide +kernel
theorem zd_M_tellComes_59 : decode zc_M_tellComes 59 = .ok (.return_, 1) := by decide +kernel
theorem zd_M_tellComes_60 : decode zc_M_tellComes 60 = .ok (.aload_n 0, 1) := by decide +kernel
theorem zd_M_tellComes_61 : decode zc_M_tellComes 61 = .ok (.getfield 65, 3) := by decide +kernel
theorem zd_M_tellComes_64 : decode zc_M_tellComes 64 = .ok (.iload_n 2, 1) := by decide +kernel
theorem zd_M_tellComes_65 : decode zc_M_tellComes 65 = .ok (.iconst 1, 1) := by decide +kernel
theorem zd_M_tellComes_66 : decode zc_M_tellComes 66 = .ok (.bastore, 1) := by decide +kernel
theorem zd_M_tellComes_67 : decode zc_M_tellComes 67 = .ok (.aload_n 0, 1) := by decide +kernel
theorem zd_M_tellComes_68 : decode zc_M_tellComes 68 = .ok (.getfield 68, 3) := by decide +kernel
theorem zd_M_tellComes_71 : decode zc_M_tellComes 71 = .ok (.iload_n 2, 1) := by decide +kernel
theorem zd_M_tellComes_72 : decode zc_M_tellComes 72 = .ok (.aload_n 0, 1) := by decide +kernel
theorem zd_M_tellComes_73 : decode zc_M_tellComes 73 = .ok (.getfield 116, 3) := by decide +kernel
theorem zd_M_tellComes_76 : decode zc_M_tellComes 76 = .ok (.sipush 300, 3) := by decide +kernel
theorem zd_M_tellComes_79 : decode zc_M_tellComes 79 = .ok (.iaload, 1) := by decide +kernel
theorem zd_M_tellComes_80 : decode zc_M_tellComes 80 = .ok (.iastore, 1) := by decide +kernel
theorem zd_M_tellComes_81 : decode zc_M_tellComes 81 = .ok (.aload_n 0, 1) := by decide +kernel
theorem zd_M_tellComes_82 : decode zc_M_tellComes 82 = .ok (.getfield 71, 3) := by decide +kernel
theorem zd_M_tellComes_85 : decode zc_M_tellComes 85 = .ok (.iload_n 2, 1) := by decide +kernel
theorem zd_M_tellComes_86 : decode zc_M_tellComes 86 = .ok (.aload_n 0, 1) := by decide +kernel
theorem zd_M_tellComes_87 : decode zc_M_tellComes 87 = .ok (.getfield 119, 3) := by decide +kernel
theorem zd_M_tellComes_90 : decode zc_M_tellComes 90 = .ok (.sipush 300, 3) := by decide +kernel
theorem zd_M_tellComes_93 : decode zc_M_tellComes 93 = .ok (.iaload, 1) := by decide +kernel
theorem zd_M_tellComes_94 : decode zc_M_tellComes 94 = .ok (.iastore, 1) := by decide +kernel
theorem zd_M_tellComes_95 : decode zc_M_tellComes 95 = .ok (.aload_n 0, 1) := by decide +kernel
theorem zd_M_tellComes_96 : decode zc_M_tellComes 96 = .ok (.getfield 74, 3) := by decide +kernel
theorem zd_M_tellComes_99 : decode zc_M_tellComes 99 = .ok (.iload_n 2, 1) := by decide +kernel
theorem zd_M_tellComes_100 : decode zc_M_tellComes 100 = .ok (.aload_n 0, 1) := by decide +kernel
theorem zd_M_tellComes_101 : decode zc_M_tellComes 101 = .ok (.getfield 122, 3) := by decide +kernel
theorem zd_M_tellComes_104 : decode zc_M_tellComes 104 = .ok (.sipush 300, 3) := by decide +kernel
theorem zd_M_tellComes_107 : decode zc_M_tellComes 107 = .ok (.iaload, 1) := by decide +kernel
theorem zd_M_tellComes_108 : decode zc_M_tellComes 108 = .ok (.iastore, 1) := by decide +kernel
theorem zd_M_tellComes_109 : decode zc_M_tellComes 109 = .ok (.aload_n 0, 1) := by decide +kernel
theorem zd_M_tellComes_110 : decode zc_M_tellComes 110 = .ok (.iload_n 1, 1) := by decide +kernel
theorem zd_M_tellComes_111 : decode zc_M_tellComes 111 = .ok (.invokevirtual 171, 3) := by decide +kernel
theorem zd_M_tellComes_114 : decode zc_M_tellComes 114 = .ok (.bipush 7, 2) := by decide +kernel
theorem zd_M_tellComes_116 : decode zc_M_tellComes 116 = .ok (.if_icmp .ne 8, 3) := by decide +kernel
theorem zd_M_tellComes_119 : decode zc_M_tellComes 119 = .ok (.aload_n 0, 1) := by decide +kernel
theorem zd_M_tellComes_120 : decode zc_M_tellComes 120 = .ok (.iload_n 1, 1) := by decide +kernel
theorem zd_M_tellComes_121 : decode zc_M_tellComes 121 = .ok (.invokevirtual 174, 3) := by decide +kernel
theorem zd_M_tellComes_124 : decode zc_M_tellComes 124 = .ok (.return_, 1) := by decide +kernel
