theorem zd_M_letter_0 : decode zc_M_letter 0 = .ok (.iload_n 1, 1) := by decide +kernel
theorem zd_M_letter_1 : decode zc_M_letter 1 = .ok (.aload_n 0, 1) := by decide +kernel
theorem zd_M_letter_2 : decode zc_M_letter 2 = .ok (.getfield 133, 3) := by decide +kernel
theorem zd_M_letter_5 : decode zc_M_letter 5 = .ok (.invokestatic 129, 3) := by decide +kernel
theorem zd_M_letter_8 : decode zc_M_letter 8 = .ok (.ifCond .ne 5, 3) := by decide +kernel
theorem zd_M_letter_11 : decode zc_M_letter 11 = .ok (.iconst (-1), 1) := by decide +kernel
theorem zd_M_letter_12 : decode zc_M_letter 12 = .ok (.ireturn, 1) := by decide +kernel
theorem zd_M_letter_13 : decode zc_M_letter 13 = .ok (.iload_n 2, 1) := by decide +kernel
theorem zd_M_letter_14 : decode zc_M_letter 14 = .ok (.ifCond .ne 12, 3) := by decide +kernel
theorem zd_M_letter_17 : decode zc_M_letter 17 = .ok (.aload_n 0, 1) := by decide +kernel
theorem zd_M_letter_18 : decode zc_M_letter 18 = .ok (.getfield 101, 3) := by decide +kernel
theorem zd_M_letter_21 : decode zc_M_letter 21 = .ok (.iload_n 1, 1) := by decide +kernel
theorem zd_M_letter_22 : decode zc_M_letter 22 = .ok (.iaload, 1) := by decide +kernel
theorem zd_M_letter_23 : decode zc_M_letter 23 = .ok (.goto 60, 3) := by decide +kernel
theorem zd_M_letter_26 : decode zc_M_letter 26 = .ok (.iload_n 2, 1) := by decide +kernel
theorem zd_M_letter_27 : decode zc_M_letter 27 = .ok (.iconst 1, 1) := by decide +kernel
theorem zd_M_letter_28 : decode zc_M_letter 28 = .ok (.if_icmp .ne 12, 3) := by decide +kernel
theorem zd_M_letter_31 : decode zc_M_letter 31 = .ok (.aload_n 0, 1) := by decide +kernel
theorem zd_M_letter_32 : decode zc_M_letter 32 = .ok (.getfield 104, 3) := by decide +kernel
theorem zd_M_letter_35 : decode zc_M_letter 35 = .ok (.iload_n 1, 1) := by decide +kernel
theorem zd_M_letter_36 : decode zc_M_letter 36 = .ok (.iaload, 1) := by decide +kernel
theorem zd_M_letter_37 : decode zc_M_letter 37 = .ok (.goto 46, 3) := by decide +kernel
theorem zd_M_letter_40 : decode zc_M_letter 40 = .ok (.iload_n 2, 1) := by decide +kernel
theorem zd_M_letter_41 : decode zc_M_letter 41 = .ok (.iconst 2, 1) := by decide +kernel
theorem zd_M_letter_42 : decode zc_M_letter 42 = .ok (.if_icmp .ne 12, 3) := by decide +kernel
theorem zd_M_letter_45 : decode zc_M_letter 45 = .ok (.aload_n 0, 1) := by decide +kernel
theorem zd_M_letter_46 : decode zc_M_letter 46 = .ok (.getfield 107, 3) := by decide +kernel
theorem zd_M_letter_49 : decode zc_M_letter 49 = .ok (.iload_n 1, 1) := by decide +kernel
theorem zd_M_letter_50 : decode zc_M_letter 50 = .ok (.iaload, 1) := by decide +kernel
theorem zd_M_letter_51 : decode zc_M_letter 51 = .ok (.goto 32, 3) := by decide +kernel
theorem zd_M_letter_54 : decode zc_M_letter 54 = .ok (.iload_n 2, 1) := by decide +kernel
theorem zd_M_letter_55 : decode zc_M_letter 55 = .ok (.iconst 3, 1) := by decide +kernel
theorem zd_M_letter_56 : decode zc_M_letter 56 = .ok (.if_icmp .ne 12, 3) := by decide +kernel
theorem zd_M_letter_59 : decode zc_M_letter 59 = .ok (.aload_n 0, 1) := by decide +kernel
theorem zd_M_letter_60 : decode zc_M_letter 60 = .ok (.getfield 110, 3) := by decide +kernel
theorem zd_M_letter_63 : decode zc_M_letter 63 = .ok (.iload_n 1, 1) := by decide +kernel
theorem zd_M_letter_64 : decode zc_M_letter 64 = .ok (.iaload, 1) := by decide +kernel
theorem zd_M_letter_65 : decode zc_M_letter 65 = .ok (.goto 18, 3) := by decide +kernel
theorem zd_M_letter_68 : decode zc_M_letter 68 = .ok (.iload_n 2, 1) := by decide +kernel
theorem zd_M_letter_69 : decode zc_M_letter 69 = .ok (.iconst 4, 1) := by decide +kernel
theorem zd_M_letter_70 : decode zc_M_letter 70 = .ok (.if_icmp .ne 12, 3) := by decide +kernel
theorem zd_M_letter_73 : decode zc_M_letter 73 = .ok (.aload_n 0, 1) := by decide +kernel
theorem zd_M_letter_74 : decode zc_M_letter 74 = .ok (.getfield 113, 3) := by decide +kernel
theorem zd_M_letter_77 : decode zc_M_letter 77 = .ok (.iload_n 1, 1) := by decide +kernel
theorem zd_M_letter_78 : decode zc_M_letter 78 = .ok (.iaload, 1) := by decide +kernel
theorem zd_M_letter_79 : decode zc_M_letter 79 = .ok (.goto 4, 3) := by decide +kernel
theorem zd_M_letter_82 : decode zc_M_letter 82 = .ok (.iconst (-1), 1) := by decide +kernel
theorem zd_M_letter_83 : decode zc_M_letter 83 = .ok (.ireturn, 1) := by decide +kernel
theorem zd_M_lose_0 : decode zc_M_lose 0 = .ok (.aload_n 0, 1) := by decide +kernel
theorem zd_M_lose_1 : decode zc_M_lose 1 = .ok (.iload_n 1, 1) := by decide +kernel
theorem zd_M_lose_2 : decode zc_M_lose 2 = .ok (.invokevirtual 144, 3) := by decide +kernel
theorem zd_M_lose_5 : decode zc_M_lose 5 = .ok (.ireturn, 1) := by decide +kernel
theorem zd_M_twin_0 : decode zc_M_twin 0 = .ok (.iload_n 1, 1) := by decide +kernel
theorem zd_M_twin_1 : decode zc_M_twin 1 = .ok (.aload_n 0, 1) := by decide +kernel
theorem zd_M_twin_2 : decode zc_M_twin 2 = .ok (.getfield 133, 3) := by decide +kernel
theorem zd_M_twin_5 : decode zc_M_twin 5 = .ok (.invokestatic 129, 3) := by decide +kernel
theorem zd_M_twin_8 : decode zc_M_twin 8 = .ok (.ifCond .eq 13, 3) := by decide +kernel
theorem zd_M_twin_11 : decode zc_M_twin 11 = .ok (.aload_n 0, 1) := by decide +kernel
theorem zd_M_twin_12 : decode zc_M_twin 12 = .ok (.getfield 133, 3) := by decide +kernel
theorem zd_M_twin_15 : decode zc_M_twin 15 = .ok (.sipush 300, 3) := by decide +kernel
theorem zd_M_twin_18 : decode zc_M_twin 18 = .ok (.if_icmp .ne 5, 3) := by decide +kernel
theorem zd_M_twin_21 : decode zc_M_twin 21 = .ok (.iconst 0, 1) := by decide +kernel
theorem zd_M_twin_22 : decode zc_M_twin 22 = .ok (.ireturn, 1) := by decide +kernel
theorem zd_M_twin_23 : decode zc_M_twin 23 = .ok (.aload_n 0, 1) := by decide +kernel
theorem zd_M_twin_24 : decode zc_M_twin 24 = .ok (.iload_n 1, 1) := by decide +kernel
theorem zd_M_twin_25 : decode zc_M_twin 25 = .ok (.aload_n 0, 1) := by decide +kernel
theorem zd_M_twin_26 : decode zc_M_twin 26 = .ok (.getfield 133, 3) := by decide +kernel
theorem zd_M_twin_29 : decode zc_M_twin 29 = .ok (.invokevirtual 140, 3) := by decide +kernel
theorem zd_M_twin_32 : decode zc_M_twin 32 = .ok (.aload_n 0, 1) := by decide +kernel
theorem zd_M_twin_33 : decode zc_M_twin 33 = .ok (.dup, 1) := by decide +kernel
theorem zd_M_twin_34 : decode zc_M_twin 34 = .ok (.getfield 133, 3) := by decide +kernel
theorem zd_M_twin_37 : decode zc_M_twin 37 = .ok (.iconst 1, 1) := by decide +kernel
theorem zd_M_twin_38 : decode zc_M_twin 38 = .ok (.iadd, 1) := by decide +kernel
theorem zd_M_twin_39 : decode zc_M_twin 39 = .ok (.putfield 133, 3) := by decide +kernel
theorem zd_M_twin_42 : decode zc_M_twin 42 = .ok (.iconst 1, 1) := by decide +kernel
theorem zd_M_twin_43 : decode zc_M_twin 43 = .ok (.ireturn, 1) := by decide +kernel
theorem zd_M_storeTo_0 : decode zc_M_storeTo 0 = .ok (.aload_n 0, 1) := by decide +kernel
theorem zd_M_storeTo_1 : decode zc_M_storeTo 1 = .ok (.iconst 1, 1) := by decide +kernel
theorem zd_M_storeTo_2 : decode zc_M_storeTo 2 = .ok (.iload_n 2, 1) := by decide +kernel
theorem zd_M_storeTo_3 : decode zc_M_storeTo 3 = .ok (.iload_n 1, 1) := by decide +kernel
theorem zd_M_storeTo_4 : decode zc_M_storeTo 4 = .ok (.iconst (-1), 1) := by decide +kernel
theorem zd_M_storeTo_5 : decode zc_M_storeTo 5 = .ok (.aload_n 0, 1) := by decide +kernel
theorem zd_M_storeTo_6 : decode zc_M_storeTo 6 = .ok (.getfield 35, 3) := by decide +kernel
theorem zd_M_storeTo_9 : decode zc_M_storeTo 9 = .ok (.iload_n 1, 1) := by decide +kernel
theorem zd_M_storeTo_10 : decode zc_M_storeTo 10 = .ok (.iaload, 1) := by decide +kernel
theorem zd_M_storeTo_11 : decode zc_M_storeTo 11 = .ok (.aload_n 0, 1) := by decide +kernel
theorem zd_M_storeTo_12 : decode zc_M_storeTo 12 = .ok (.getfield 38, 3) := by decide +kernel
theorem zd_M_storeTo_15 : decode zc_M_storeTo 15 = .ok (.iload_n 1, 1) := by decide +kernel
theorem zd_M_storeTo_16 : decode zc_M_storeTo 16 = .ok (.iaload, 1) := by decide +kernel
theorem zd_M_storeTo_17 : decode zc_M_storeTo 17 = .ok (.aload_n 0, 1) := by decide +kernel
theorem zd_M_storeTo_18 : decode zc_M_storeTo 18 = .ok (.getfield 41, 3) := by decide +kernel
theorem zd_M_storeTo_21 : decode zc_M_storeTo 21 = .ok (.iload_n 1, 1) := by decide +kernel
theorem zd_M_storeTo_22 : decode zc_M_storeTo 22 = .ok (.iaload, 1) := by decide +kernel
theorem zd_M_storeTo_23 : decode zc_M_storeTo 23 = .ok (.invokevirtual 136, 3) := by decide +kernel
theorem zd_M_storeTo_26 : decode zc_M_storeTo 26 = .ok (.return_, 1) := by decide +kernel
theorem zd_M_write_0 : decode zc_M_write 0 = .ok (.iload_n 1, 1) := by decide +kernel
theorem zd_M_write_1 : decode zc_M_write 1 = .ok (.iconst 4, 1) := by decide +kernel
theorem zd_M_write_2 : decode zc_M_write 2 = .ok (.invokestatic 129, 3) := by decide +kernel
theorem zd_M_write_5 : decode zc_M_write 5 = .ok (.ifCond .eq 17, 3) := by decide +kernel
theorem zd_M_write_8 : decode zc_M_write 8 = .ok (.aload_n 0, 1) := by decide +kernel
theorem zd_M_write_9 : decode zc_M_write 9 = .ok (.getfield 44, 3) := by decide +kernel
theorem zd_M_write_12 : decode zc_M_write 12 = .ok (.iload_n 1, 1) := by decide +kernel
theorem zd_M_write_13 : decode zc_M_write 13 = .ok (.baload, 1) := by decide +kernel
theorem zd_M_write_14 : decode zc_M_write 14 = .ok (.ifCond .ne 8, 3) := by decide +kernel
theorem zd_M_write_17 : decode zc_M_write 17 = .ok (.iload_n 2, 1) := by decide +kernel
theorem zd_M_write_18 : decode zc_M_write 18 = .ok (.iload_n 3, 1) := by decide +kernel
theorem zd_M_write_19 : decode zc_M_write 19 = .ok (.if_icmp .le 5, 3) := by decide +kernel
theorem zd_M_write_22 : decode zc_M_write 22 = .ok (.iconst (-1), 1) := by decide +kernel
theorem zd_M_write_23 : decode zc_M_write 23 = .ok (.ireturn, 1) := by decide +kernel
theorem zd_M_write_24 : decode zc_M_write 24 = .ok (.aload_n 0, 1) := by decide +kernel
theorem zd_M_write_25 : decode zc_M_write 25 = .ok (.getfield 35, 3) := by decide +kernel
theorem zd_M_write_28 : decode zc_M_write 28 = .ok (.iload_n 1, 1) := by decide +kernel
theorem zd_M_write_29 : decode zc_M_write 29 = .ok (.dup2, 1) := by decide +kernel
theorem zd_M_write_30 : decode zc_M_write 30 = .ok (.iaload, 1) := by decide +kernel
theorem zd_M_write_31 : decode zc_M_write 31 = .ok (.iconst 1, 1) := by decide +kernel
theorem zd_M_write_32 : decode zc_M_write 32 = .ok (.iadd, 1) := by decide +kernel
theorem zd_M_write_33 : decode zc_M_write 33 = .ok (.iastore, 1) := by decide +kernel
theorem zd_M_write_34 : decode zc_M_write 34 = .ok (.aload_n 0, 1) := by decide +kernel
theorem zd_M_write_35 : decode zc_M_write 35 = .ok (.getfield 38, 3) := by decide +kernel
theorem zd_M_write_38 : decode zc_M_write 38 = .ok (.iload_n 1, 1) := by decide +kernel
theorem zd_M_write_39 : decode zc_M_write 39 = .ok (.iload_n 2, 1) := by decide +kernel
theorem zd_M_write_40 : decode zc_M_write 40 = .ok (.iastore, 1) := by decide +kernel
theorem zd_M_write_41 : decode zc_M_write 41 = .ok (.aload_n 0, 1) := by decide +kernel
theorem zd_M_write_42 : decode zc_M_write 42 = .ok (.getfield 41, 3) := by decide +kernel
theorem zd_M_write_45 : decode zc_M_write 45 = .ok (.iload_n 1, 1) := by decide +kernel
theorem zd_M_write_46 : decode zc_M_write 46 = .ok (.iload_n 3, 1) := by decide +kernel
theorem zd_M_write_47 : decode zc_M_write 47 = .ok (.iastore, 1) := by decide +kernel
theorem zd_M_write_48 : decode zc_M_write 48 = .ok (.aload_n 0, 1) := by decide +kernel
theorem zd_M_write_49 : decode zc_M_write 49 = .ok (.getfield 44, 3) := by decide +kernel
theorem zd_M_write_52 : decode zc_M_write 52 = .ok (.iload_n 1, 1) := by decide +kernel
theorem zd_M_write_53 : decode zc_M_write 53 = .ok (.iconst 1, 1) := by decide +kernel
theorem zd_M_write_54 : decode zc_M_write 54 = .ok (.bastore, 1) := by decide +kernel
theorem zd_M_write_55 : decode zc_M_write 55 = .ok (.iconst 0, 1) := by decide +kernel
theorem zd_M_write_56 : decode zc_M_write 56 = .ok (.istore 4, 2) := by decide +kernel
theorem zd_M_write_58 : decode zc_M_write 58 = .ok (.iload 4, 2) := by decide +kernel
theorem zd_M_write_60 : decode zc_M_write 60 = .ok (.bipush 9, 2) := by decide +kernel
theorem zd_M_write_62 : decode zc_M_write 62 = .ok (.if_icmp .ge 29, 3) := by decide +kernel
theorem zd_M_write_65 : decode zc_M_write 65 = .ok (.aload_n 0, 1) := by decide +kernel
theorem zd_M_write_66 : decode zc_M_write 66 = .ok (.getfield 50, 3) := by decide +kernel
theorem zd_M_write_69 : decode zc_M_write 69 = .ok (.bipush 9, 2) := by decide +kernel
theorem zd_M_write_71 : decode zc_M_write 71 = .ok (.iload_n 1, 1) := by decide +kernel
theorem zd_M_write_72 : decode zc_M_write 72 = .ok (.imul, 1) := by decide +kernel
theorem zd_M_write_73 : decode zc_M_write 73 = .ok (.iload 4, 2) := by decide +kernel
theorem zd_M_write_75 : decode zc_M_write 75 = .ok (.iadd, 1) := by decide +kernel
theorem zd_M_write_76 : decode zc_M_write 76 = .ok (.iconst 0, 1) := by decide +kernel
theorem zd_M_write_77 : decode zc_M_write 77 = .ok (.bastore, 1) := by decide +kernel
theorem zd_M_write_78 : decode zc_M_write 78 = .ok (.aload_n 0, 1) := by decide +kernel
theorem zd_M_write_79 : decode zc_M_write 79 = .ok (.iload_n 1, 1) := by decide +kernel
theorem zd_M_write_80 : decode zc_M_write 80 = .ok (.iload 4, 2) := by decide +kernel
theorem zd_M_write_82 : decode zc_M_write 82 = .ok (.invokevirtual 148, 3) := by decide +kernel
theorem zd_M_write_85 : decode zc_M_write 85 = .ok (.iinc 4 1, 3) := by decide +kernel
theorem zd_M_write_88 : decode zc_M_write 88 = .ok (.goto (-30), 3) := by decide +kernel
theorem zd_M_write_91 : decode zc_M_write 91 = .ok (.aload_n 0, 1) := by decide +kernel
theorem zd_M_write_92 : decode zc_M_write 92 = .ok (.getfield 35, 3) := by decide +kernel
theorem zd_M_write_95 : decode zc_M_write 95 = .ok (.iload_n 1, 1) := by decide +kernel
theorem zd_M_write_96 : decode zc_M_write 96 = .ok (.iaload, 1) := by decide +kernel
theorem zd_M_write_97 : decode zc_M_write 97 = .ok (.ireturn, 1) := by decide +kernel
theorem zd_M_storeAgain_0 : decode zc_M_storeAgain 0 = .ok (.iload_n 1, 1) := by decide +kernel
theorem zd_M_storeAgain_1 : decode zc_M_storeAgain 1 = .ok (.iconst 4, 1) := by decide +kernel
theorem zd_M_storeAgain_2 : decode zc_M_storeAgain 2 = .ok (.invokestatic 129, 3) := by decide +kernel
theorem zd_M_storeAgain_5 : decode zc_M_storeAgain 5 = .ok (.ifCond .eq 12, 3) := by decide +kernel
theorem zd_M_storeAgain_8 : decode zc_M_storeAgain 8 = .ok (.aload_n 0, 1) := by decide +kernel
theorem zd_M_storeAgain_9 : decode zc_M_storeAgain 9 = .ok (.getfield 44, 3) := by decide +kernel
theorem zd_M_storeAgain_12 : decode zc_M_storeAgain 12 = .ok (.iload_n 1, 1) := by decide +kernel
theorem zd_M_storeAgain_13 : decode zc_M_storeAgain 13 = .ok (.baload, 1) := by decide +kernel
theorem zd_M_storeAgain_14 : decode zc_M_storeAgain 14 = .ok (.ifCond .ne 5, 3) := by decide +kernel
theorem zd_M_storeAgain_17 : decode zc_M_storeAgain 17 = .ok (.iconst (-1), 1) := by decide +kernel
theorem zd_M_storeAgain_18 : decode zc_M_storeAgain 18 = .ok (.ireturn, 1) := by decide +kernel
theorem zd_M_storeAgain_19 : decode zc_M_storeAgain 19 = .ok (.iconst 0, 1) := by decide +kernel
theorem zd_M_storeAgain_20 : decode zc_M_storeAgain 20 = .ok (.istore_n 2, 1) := by decide +kernel
theorem zd_M_storeAgain_21 : decode zc_M_storeAgain 21 = .ok (.iconst 0, 1) := by decide +kernel
theorem zd_M_storeAgain_22 : decode zc_M_storeAgain 22 = .ok (.istore_n 3, 1) := by decide +kernel
theorem zd_M_storeAgain_23 : decode zc_M_storeAgain 23 = .ok (.iload_n 3, 1) := by decide +kernel
theorem zd_M_storeAgain_24 : decode zc_M_storeAgain 24 = .ok (.bipush 9, 2) := by decide +kernel
theorem zd_M_storeAgain_26 : decode zc_M_storeAgain 26 = .ok (.if_icmp .ge 32, 3) := by decide +kernel
theorem zd_M_storeAgain_29 : decode zc_M_storeAgain 29 = .ok (.aload_n 0, 1) := by decide +kernel
theorem zd_M_storeAgain_30 : decode zc_M_storeAgain 30 = .ok (.getfield 50, 3) := by decide +kernel
theorem zd_M_storeAgain_33 : decode zc_M_storeAgain 33 = .ok (.bipush 9, 2) := by decide +kernel
theorem zd_M_storeAgain_35 : decode zc_M_storeAgain 35 = .ok (.iload_n 1, 1) := by decide +kernel
theorem zd_M_storeAgain_36 : decode zc_M_storeAgain 36 = .ok (.imul, 1) := by decide +kernel
theorem zd_M_storeAgain_37 : decode zc_M_storeAgain 37 = .ok (.iload_n 3, 1) := by decide +kernel
theorem zd_M_storeAgain_38 : decode zc_M_storeAgain 38 = .ok (.iadd, 1) := by decide +kernel
theorem zd_M_storeAgain_39 : decode zc_M_storeAgain 39 = .ok (.baload, 1) := by decide +kernel
theorem zd_M_storeAgain_40 : decode zc_M_storeAgain 40 = .ok (.ifCond .ne 12, 3) := by decide +kernel
theorem zd_M_storeAgain_43 : decode zc_M_storeAgain 43 = .ok (.aload_n 0, 1) := by decide +kernel
theorem zd_M_storeAgain_44 : decode zc_M_storeAgain 44 = .ok (.iload_n 1, 1) := by decide +kernel
theorem zd_M_storeAgain_45 : decode zc_M_storeAgain 45 = .ok (.iload_n 3, 1) := by decide +kernel
theorem zd_M_storeAgain_46 : decode zc_M_storeAgain 46 = .ok (.invokevirtual 148, 3) := by decide +kernel
theorem zd_M_storeAgain_49 : decode zc_M_storeAgain 49 = .ok (.iinc 2 1, 3) := by decide +kernel
theorem zd_M_storeAgain_52 : decode zc_M_storeAgain 52 = .ok (.iinc 3 1, 3) := by decide +kernel
theorem zd_M_storeAgain_55 : decode zc_M_storeAgain 55 = .ok (.goto (-32), 3) := by decide +kernel
theorem zd_M_storeAgain_58 : decode zc_M_storeAgain 58 = .ok (.iload_n 2, 1) := by decide +kernel
theorem zd_M_storeAgain_59 : decode zc_M_storeAgain 59 = .ok (.ireturn, 1) := by decide +kernel
theorem zd_M_receipts_0 : decode zc_M_receipts 0 = .ok (.iconst 0, 1) := by decide +kernel
theorem zd_M_receipts_1 : decode zc_M_receipts 1 = .ok (.istore_n 2, 1) := by decide +kernel
theorem zd_M_receipts_2 : decode zc_M_receipts 2 = .ok (.iconst 0, 1) := by decide +kernel
theorem zd_M_receipts_3 : decode zc_M_receipts 3 = .ok (.istore_n 3, 1) := by decide +kernel
theorem zd_M_receipts_4 : decode zc_M_receipts 4 = .ok (.iload_n 3, 1) := by decide +kernel
theorem zd_M_receipts_5 : decode zc_M_receipts 5 = .ok (.bipush 9, 2) := by decide +kernel
theorem zd_M_receipts_7 : decode zc_M_receipts 7 = .ok (.if_icmp .ge 26, 3) := by decide +kernel
theorem zd_M_receipts_10 : decode zc_M_receipts 10 = .ok (.aload_n 0, 1) := by decide +kernel
theorem zd_M_receipts_11 : decode zc_M_receipts 11 = .ok (.getfield 50, 3) := by decide +kernel
theorem zd_M_receipts_14 : decode zc_M_receipts 14 = .ok (.bipush 9, 2) := by decide +kernel
theorem zd_M_receipts_16 : decode zc_M_receipts 16 = .ok (.iload_n 1, 1) := by decide +kernel
theorem zd_M_receipts_17 : decode zc_M_receipts 17 = .ok (.imul, 1) := by decide +kernel
theorem zd_M_receipts_18 : decode zc_M_receipts 18 = .ok (.iload_n 3, 1) := by decide +kernel
theorem zd_M_receipts_19 : decode zc_M_receipts 19 = .ok (.iadd, 1) := by decide +kernel
theorem zd_M_receipts_20 : decode zc_M_receipts 20 = .ok (.baload, 1) := by decide +kernel
theorem zd_M_receipts_21 : decode zc_M_receipts 21 = .ok (.ifCond .eq 6, 3) := by decide +kernel
theorem zd_M_receipts_24 : decode zc_M_receipts 24 = .ok (.iinc 2 1, 3) := by decide +kernel
theorem zd_M_receipts_27 : decode zc_M_receipts 27 = .ok (.iinc 3 1, 3) := by decide +kernel
theorem zd_M_receipts_30 : decode zc_M_receipts 30 = .ok (.goto (-26), 3) := by decide +kernel
theorem zd_M_receipts_33 : decode zc_M_receipts 33 = .ok (.iload_n 2, 1) := by decide +kernel
theorem zd_M_receipts_34 : decode zc_M_receipts 34 = .ok (.ireturn, 1) := by decide +kernel
theorem zd_M_receiptComes_0 : decode zc_M_receiptComes 0 = .ok (.aload_n 0, 1) := by decide +kernel
theorem zd_M_receiptComes_1 : decode zc_M_receiptComes 1 = .ok (.getfield 44, 3) := by decide +kernel
theorem zd_M_receiptComes_4 : decode zc_M_receiptComes 4 = .ok (.iload_n 1, 1) := by decide +kernel
theorem zd_M_receiptComes_5 : decode zc_M_receiptComes 5 = .ok (.baload, 1) := by decide +kernel
theorem zd_M_receiptComes_6 : decode zc_M_receiptComes 6 = .ok (.ifCond .eq 13, 3) := by decide +kernel
theorem zd_M_receiptComes_9 : decode zc_M_receiptComes 9 = .ok (.aload_n 0, 1) := by decide +kernel
theorem zd_M_receiptComes_10 : decode zc_M_receiptComes 10 = .ok (.getfield 35, 3) := by decide +kernel
theorem zd_M_receiptComes_13 : decode zc_M_receiptComes 13 = .ok (.iload_n 1, 1) := by decide +kernel
theorem zd_M_receiptComes_14 : decode zc_M_receiptComes 14 = .ok (.iaload, 1) := by decide +kernel
theorem zd_M_receiptComes_15 : decode zc_M_receiptComes 15 = .ok (.iload_n 3, 1) := by decide +kernel
theorem zd_M_receiptComes_16 : decode zc_M_receiptComes 16 = .ok (.if_icmp .eq 4, 3) := by decide +kernel
theorem zd_M_receiptComes_19 : decode zc_M_receiptComes 19 = .ok (.return_, 1) := by decide +kernel
theorem zd_M_receiptComes_20 : decode zc_M_receiptComes 20 = .ok (.aload_n 0, 1) := by decide +kernel
theorem zd_M_receiptComes_21 : decode zc_M_receiptComes 21 = .ok (.getfield 50, 3) := by decide +kernel
theorem zd_M_receiptComes_24 : decode zc_M_receiptComes 24 = .ok (.bipush 9, 2) := by decide +kernel
theorem zd_M_receiptComes_26 : decode zc_M_receiptComes 26 = .ok (.iload_n 1, 1) := by decide +kernel
theorem zd_M_receiptComes_27 : decode zc_M_receiptComes 27 = .ok (.imul, 1) := by decide +kernel
theorem zd_M_receiptComes_28 : decode zc_M_receiptComes 28 = .ok (.iload_n 2, 1) := by decide +kernel
theorem zd_M_receiptComes_29 : decode zc_M_receiptComes 29 = .ok (.iadd, 1) := by decide +kernel
theorem zd_M_receiptComes_30 : decode zc_M_receiptComes 30 = .ok (.iconst 1, 1) := by decide +kernel
theorem zd_M_receiptComes_31 : decode zc_M_receiptComes 31 = .ok (.bastore, 1) := by decide +kernel
theorem zd_M_receiptComes_32 : decode zc_M_receiptComes 32 = .ok (.aload_n 0, 1) := by decide +kernel
theorem zd_M_receiptComes_33 : decode zc_M_receiptComes 33 = .ok (.iload_n 1, 1) := by decide +kernel
theorem zd_M_receiptComes_34 : decode zc_M_receiptComes 34 = .ok (.invokevirtual 151, 3) := by decide +kernel
theorem zd_M_receiptComes_37 : decode zc_M_receiptComes 37 = .ok (.bipush 7, 2) := by decide +kernel
theorem zd_M_receiptComes_39 : decode zc_M_receiptComes 39 = .ok (.if_icmp .ge 4, 3) := by decide +kernel
theorem zd_M_receiptComes_42 : decode zc_M_receiptComes 42 = .ok (.return_, 1) := by decide +kernel
theorem zd_M_receiptComes_43 : decode zc_M_receiptComes 43 = .ok (.aload_n 0, 1) := by decide +kernel
theorem zd_M_receiptComes_44 : decode zc_M_receiptComes 44 = .ok (.getfield 44, 3) := by decide +kernel
theorem zd_M_receiptComes_47 : decode zc_M_receiptComes 47 = .ok (.iload_n 1, 1) := by decide +kernel
theorem zd_M_receiptComes_48 : decode zc_M_receiptComes 48 = .ok (.iconst 0, 1) := by decide +kernel
theorem zd_M_receiptComes_49 : decode zc_M_receiptComes 49 = .ok (.bastore, 1) := by decide +kernel
theorem zd_M_receiptComes_50 : decode zc_M_receiptComes 50 = .ok (.aload_n 0, 1) := by decide +kernel
theorem zd_M_receiptComes_51 : decode zc_M_receiptComes 51 = .ok (.getfield 47, 3) := by decide +kernel
theorem zd_M_receiptComes_54 : decode zc_M_receiptComes 54 = .ok (.iload_n 1, 1) := by decide +kernel
theorem zd_M_receiptComes_55 : decode zc_M_receiptComes 55 = .ok (.iload_n 3, 1) := by decide +kernel
theorem zd_M_receiptComes_56 : decode zc_M_receiptComes 56 = .ok (.iastore, 1) := by decide +kernel
theorem zd_M_receiptComes_57 : decode zc_M_receiptComes 57 = .ok (.return_, 1) := by decide +kernel
theorem zd_M_forget_0 : decode zc_M_forget 0 = .ok (.iload_n 1, 1) := by decide +kernel
theorem zd_M_forget_1 : decode zc_M_forget 1 = .ok (.iconst 4, 1) := by decide +kernel
theorem zd_M_forget_2 : decode zc_M_forget 2 = .ok (.invokestatic 129, 3) := by decide +kernel
theorem zd_M_forget_5 : decode zc_M_forget 5 = .ok (.ifCond .ne 5, 3) := by decide +kernel
theorem zd_M_forget_8 : decode zc_M_forget 8 = .ok (.iconst 0, 1) := by decide +kernel
theorem zd_M_forget_9 : decode zc_M_forget 9 = .ok (.ireturn, 1) := by decide +kernel
theorem zd_M_forget_10 : decode zc_M_forget 10 = .ok (.iconst 0, 1) := by decide +kernel
theorem zd_M_forget_11 : decode zc_M_forget 11 = .ok (.istore_n 2, 1) := by decide +kernel
theorem zd_M_forget_12 : decode zc_M_forget 12 = .ok (.iload_n 2, 1) := by decide +kernel
theorem zd_M_forget_13 : decode zc_M_forget 13 = .ok (.bipush 9, 2) := by decide +kernel
theorem zd_M_forget_15 : decode zc_M_forget 15 = .ok (.if_icmp .ge 21, 3) := by decide +kernel
theorem zd_M_forget_18 : decode zc_M_forget 18 = .ok (.aload_n 0, 1) := by decide +kernel
theorem zd_M_forget_19 : decode zc_M_forget 19 = .ok (.getfield 50, 3) := by decide +kernel
theorem zd_M_forget_22 : decode zc_M_forget 22 = .ok (.bipush 9, 2) := by decide +kernel
theorem zd_M_forget_24 : decode zc_M_forget 24 = .ok (.iload_n 1, 1) := by decide +kernel
theorem zd_M_forget_25 : decode zc_M_forget 25 = .ok (.imul, 1) := by decide +kernel
theorem zd_M_forget_26 : decode zc_M_forget 26 = .ok (.iload_n 2, 1) := by decide +kernel
theorem zd_M_forget_27 : decode zc_M_forget 27 = .ok (.iadd, 1) := by decide +kernel
theorem zd_M_forget_28 : decode zc_M_forget 28 = .ok (.iconst 0, 1) := by decide +kernel
theorem zd_M_forget_29 : decode zc_M_forget 29 = .ok (.bastore, 1) := by decide +kernel
theorem zd_M_forget_30 : decode zc_M_forget 30 = .ok (.iinc 2 1, 3) := by decide +kernel
theorem zd_M_forget_33 : decode zc_M_forget 33 = .ok (.goto (-21), 3) := by decide +kernel
theorem zd_M_forget_36 : decode zc_M_forget 36 = .ok (.iconst 1, 1) := by decide +kernel
theorem zd_M_forget_37 : decode zc_M_forget 37 = .ok (.ireturn, 1) := by decide +kernel
theorem zd_M_askAll_0 : decode zc_M_askAll 0 = .ok (.aload_n 0, 1) := by decide +kernel
theorem zd_M_askAll_1 : decode zc_M_askAll 1 = .ok (.getfield 53, 3) := by decide +kernel
theorem zd_M_askAll_4 : decode zc_M_askAll 4 = .ok (.iload_n 1, 1) := by decide +kernel
theorem zd_M_askAll_5 : decode zc_M_askAll 5 = .ok (.dup2, 1) := by decide +kernel
theorem zd_M_askAll_6 : decode zc_M_askAll 6 = .ok (.iaload, 1) := by decide +kernel
theorem zd_M_askAll_7 : decode zc_M_askAll 7 = .ok (.iconst 1, 1) := by decide +kernel
theorem zd_M_askAll_8 : decode zc_M_askAll 8 = .ok (.iadd, 1) := by decide +kernel
theorem zd_M_askAll_9 : decode zc_M_askAll 9 = .ok (.iastore, 1) := by decide +kernel
theorem zd_M_askAll_10 : decode zc_M_askAll 10 = .ok (.iconst 0, 1) := by decide +kernel
theorem zd_M_askAll_11 : decode zc_M_askAll 11 = .ok (.istore_n 2, 1) := by decide +kernel
theorem zd_M_askAll_12 : decode zc_M_askAll 12 = .ok (.iload_n 2, 1) := by decide +kernel
theorem zd_M_askAll_13 : decode zc_M_askAll 13 = .ok (.bipush 9, 2) := by decide +kernel
theorem zd_M_askAll_15 : decode zc_M_askAll 15 = .ok (.if_icmp .ge 42, 3) := by decide +kernel
theorem zd_M_askAll_18 : decode zc_M_askAll 18 = .ok (.aload_n 0, 1) := by decide +kernel
theorem zd_M_askAll_19 : decode zc_M_askAll 19 = .ok (.getfield 65, 3) := by decide +kernel
theorem zd_M_askAll_22 : decode zc_M_askAll 22 = .ok (.bipush 9, 2) := by decide +kernel
theorem zd_M_askAll_24 : decode zc_M_askAll 24 = .ok (.iload_n 1, 1) := by decide +kernel
theorem zd_M_askAll_25 : decode zc_M_askAll 25 = .ok (.imul, 1) := by decide +kernel
theorem zd_M_askAll_26 : decode zc_M_askAll 26 = .ok (.iload_n 2, 1) := by decide +kernel
theorem zd_M_askAll_27 : decode zc_M_askAll 27 = .ok (.iadd, 1) := by decide +kernel
theorem zd_M_askAll_28 : decode zc_M_askAll 28 = .ok (.iconst 0, 1) := by decide +kernel
theorem zd_M_askAll_29 : decode zc_M_askAll 29 = .ok (.bastore, 1) := by decide +kernel
theorem zd_M_askAll_30 : decode zc_M_askAll 30 = .ok (.aload_n 0, 1) := by decide +kernel
theorem zd_M_askAll_31 : decode zc_M_askAll 31 = .ok (.iconst 3, 1) := by decide +kernel
theorem zd_M_askAll_32 : decode zc_M_askAll 32 = .ok (.iload_n 2, 1) := by decide +kernel
theorem zd_M_askAll_33 : decode zc_M_askAll 33 = .ok (.aload_n 0, 1) := by decide +kernel
theorem zd_M_askAll_34 : decode zc_M_askAll 34 = .ok (.getfield 56, 3) := by decide +kernel
theorem zd_M_askAll_37 : decode zc_M_askAll 37 = .ok (.iload_n 1, 1) := by decide +kernel
theorem zd_M_askAll_38 : decode zc_M_askAll 38 = .ok (.iaload, 1) := by decide +kernel
theorem zd_M_askAll_39 : decode zc_M_askAll 39 = .ok (.iload_n 1, 1) := by decide +kernel
theorem zd_M_askAll_40 : decode zc_M_askAll 40 = .ok (.aload_n 0, 1) := by decide +kernel
theorem zd_M_askAll_41 : decode zc_M_askAll 41 = .ok (.getfield 53, 3) := by decide +kernel
theorem zd_M_askAll_44 : decode zc_M_askAll 44 = .ok (.iload_n 1, 1) := by decide +kernel
theorem zd_M_askAll_45 : decode zc_M_askAll 45 = .ok (.iaload, 1) := by decide +kernel
theorem zd_M_askAll_46 : decode zc_M_askAll 46 = .ok (.iconst 0, 1) := by decide +kernel
theorem zd_M_askAll_47 : decode zc_M_askAll 47 = .ok (.iconst 0, 1) := by decide +kernel
theorem zd_M_askAll_48 : decode zc_M_askAll 48 = .ok (.invokevirtual 136, 3) := by decide +kernel
theorem zd_M_askAll_51 : decode zc_M_askAll 51 = .ok (.iinc 2 1, 3) := by decide +kernel
theorem zd_M_askAll_54 : decode zc_M_askAll 54 = .ok (.goto (-42), 3) := by decide +kernel
theorem zd_M_askAll_57 : decode zc_M_askAll 57 = .ok (.return_, 1) := by decide +kernel
theorem zd_M_read_0 : decode zc_M_read 0 = .ok (.iload_n 1, 1) := by decide +kernel
theorem zd_M_read_1 : decode zc_M_read 1 = .ok (.iconst 3, 1) := by decide +kernel
theorem zd_M_read_2 : decode zc_M_read 2 = .ok (.invokestatic 129, 3) := by decide +kernel
theorem zd_M_read_5 : decode zc_M_read 5 = .ok (.ifCond .eq 21, 3) := by decide +kernel
theorem zd_M_read_8 : decode zc_M_read 8 = .ok (.iload_n 2, 1) := by decide +kernel
theorem zd_M_read_9 : decode zc_M_read 9 = .ok (.iconst 4, 1) := by decide +kernel
theorem zd_M_read_10 : decode zc_M_read 10 = .ok (.invokestatic 129, 3) := by decide +kernel
theorem zd_M_read_13 : decode zc_M_read 13 = .ok (.ifCond .eq 13, 3) := by decide +kernel
theorem zd_M_read_16 : decode zc_M_read 16 = .ok (.aload_n 0, 1) := by decide +kernel
theorem zd_M_read_17 : decode zc_M_read 17 = .ok (.getfield 62, 3) := by decide +kernel
theorem zd_M_read_20 : decode zc_M_read 20 = .ok (.iload_n 1, 1) := by decide +kernel
theorem zd_M_read_21 : decode zc_M_read 21 = .ok (.iaload, 1) := by decide +kernel
theorem zd_M_read_22 : decode zc_M_read 22 = .ok (.iconst 1, 1) := by decide +kernel
theorem zd_M_read_23 : decode zc_M_read 23 = .ok (.if_icmp .ne 5, 3) := by decide +kernel
theorem zd_M_read_26 : decode zc_M_read 26 = .ok (.iconst (-1), 1) := by decide +kernel
theorem zd_M_read_27 : decode zc_M_read 27 = .ok (.ireturn, 1) := by decide +kernel
theorem zd_M_read_28 : decode zc_M_read 28 = .ok (.aload_n 0, 1) := by decide +kernel
theorem zd_M_read_29 : decode zc_M_read 29 = .ok (.getfield 62, 3) := by decide +kernel
theorem zd_M_read_32 : decode zc_M_read 32 = .ok (.iload_n 1, 1) := by decide +kernel
theorem zd_M_read_33 : decode zc_M_read 33 = .ok (.iconst 1, 1) := by decide +kernel
theorem zd_M_read_34 : decode zc_M_read 34 = .ok (.iastore, 1) := by decide +kernel
theorem zd_M_read_35 : decode zc_M_read 35 = .ok (.aload_n 0, 1) := by decide +kernel
theorem zd_M_read_36 : decode zc_M_read 36 = .ok (.getfield 59, 3) := by decide +kernel
theorem zd_M_read_39 : decode zc_M_read 39 = .ok (.iload_n 1, 1) := by decide +kernel
theorem zd_M_read_40 : decode zc_M_read 40 = .ok (.iconst 1, 1) := by decide +kernel
theorem zd_M_read_41 : decode zc_M_read 41 = .ok (.iastore, 1) := by decide +kernel
theorem zd_M_read_42 : decode zc_M_read 42 = .ok (.aload_n 0, 1) := by decide +kernel
theorem zd_M_read_43 : decode zc_M_read 43 = .ok (.getfield 56, 3) := by decide +kernel
theorem zd_M_read_46 : decode zc_M_read 46 = .ok (.iload_n 1, 1) := by decide +kernel
theorem zd_M_read_47 : decode zc_M_read 47 = .ok (.iload_n 2, 1) := by decide +kernel
theorem zd_M_read_48 : decode zc_M_read 48 = .ok (.iastore, 1) := by decide +kernel
theorem zd_M_read_49 : decode zc_M_read 49 = .ok (.aload_n 0, 1) := by decide +kernel
theorem zd_M_read_50 : decode zc_M_read 50 = .ok (.iload_n 1, 1) := by decide +kernel
theorem zd_M_read_51 : decode zc_M_read 51 = .ok (.invokevirtual 155, 3) := by decide +kernel
theorem zd_M_read_54 : decode zc_M_read 54 = .ok (.aload_n 0, 1) := by decide +kernel
theorem zd_M_read_55 : decode zc_M_read 55 = .ok (.getfield 53, 3) := by decide +kernel
theorem zd_M_read_58 : decode zc_M_read 58 = .ok (.iload_n 1, 1) := by decide +kernel
theorem zd_M_read_59 : decode zc_M_read 59 = .ok (.iaload, 1) := by decide +kernel
theorem zd_M_read_60 : decode zc_M_read 60 = .ok (.ireturn, 1) := by decide +kernel
theorem zd_M_askAgain_0 : decode zc_M_askAgain 0 = .ok (.iload_n 1, 1) := by decide +kernel
theorem zd_M_askAgain_1 : decode zc_M_askAgain 1 = .ok (.iconst 3, 1) := by decide +kernel
theorem zd_M_askAgain_2 : decode zc_M_askAgain 2 = .ok (.invokestatic 129, 3) := by decide +kernel
theorem zd_M_askAgain_5 : decode zc_M_askAgain 5 = .ok (.ifCond .eq 13, 3) := by decide +kernel
theorem zd_M_askAgain_8 : decode zc_M_askAgain 8 = .ok (.aload_n 0, 1) := by decide +kernel
theorem zd_M_askAgain_9 : decode zc_M_askAgain 9 = .ok (.getfield 62, 3) := by decide +kernel
theorem zd_M_askAgain_12 : decode zc_M_askAgain 12 = .ok (.iload_n 1, 1) := by decide +kernel
theorem zd_M_askAgain_13 : decode zc_M_askAgain 13 = .ok (.iaload, 1) := by decide +kernel
theorem zd_M_askAgain_14 : decode zc_M_askAgain 14 = .ok (.iconst 1, 1) := by decide +kernel
theorem zd_M_askAgain_15 : decode zc_M_askAgain 15 = .ok (.if_icmp .eq 5, 3) := by decide +kernel
theorem zd_M_askAgain_18 : decode zc_M_askAgain 18 = .ok (.iconst (-1), 1) := by decide +kernel
theorem zd_M_askAgain_19 : decode zc_M_askAgain 19 = .ok (.ireturn, 1) := by decide +kernel
theorem zd_M_askAgain_20 : decode zc_M_askAgain 20 = .ok (.iconst 0, 1) := by decide +kernel
theorem zd_M_askAgain_21 : decode zc_M_askAgain 21 = .ok (.istore_n 2, 1) := by decide +kernel
theorem zd_M_askAgain_22 : decode zc_M_askAgain 22 = .ok (.iconst 0, 1) := by decide +kernel
theorem zd_M_askAgain_23 : decode zc_M_askAgain 23 = .ok (.istore_n 3, 1) := by decide +kernel
theorem zd_M_askAgain_24 : decode zc_M_askAgain 24 = .ok (.iload_n 3, 1) := by decide +kernel
theorem zd_M_askAgain_25 : decode zc_M_askAgain 25 = .ok (.bipush 9, 2) := by decide +kernel
theorem zd_M_askAgain_27 : decode zc_M_askAgain 27 = .ok (.if_icmp .ge 47, 3) := by decide +kernel
theorem zd_M_askAgain_30 : decode zc_M_askAgain 30 = .ok (.aload_n 0, 1) := by decide +kernel
theorem zd_M_askAgain_31 : decode zc_M_askAgain 31 = .ok (.getfield 65, 3) := by decide +kernel
theorem zd_M_askAgain_34 : decode zc_M_askAgain 34 = .ok (.bipush 9, 2) := by decide +kernel
theorem zd_M_askAgain_36 : decode zc_M_askAgain 36 = .ok (.iload_n 1, 1) := by decide +kernel
theorem zd_M_askAgain_37 : decode zc_M_askAgain 37 = .ok (.imul, 1) := by decide +kernel
theorem zd_M_askAgain_38 : decode zc_M_askAgain 38 = .ok (.iload_n 3, 1) := by decide +kernel
theorem zd_M_askAgain_39 : decode zc_M_askAgain 39 = .ok (.iadd, 1) := by decide +kernel
theorem zd_M_askAgain_40 : decode zc_M_askAgain 40 = .ok (.baload, 1) := by decide +kernel
theorem zd_M_askAgain_41 : decode zc_M_askAgain 41 = .ok (.ifCond .ne 27, 3) := by decide +kernel
theorem zd_M_askAgain_44 : decode zc_M_askAgain 44 = .ok (.aload_n 0, 1) := by decide +kernel
theorem zd_M_askAgain_45 : decode zc_M_askAgain 45 = .ok (.iconst 3, 1) := by decide +kernel
theorem zd_M_askAgain_46 : decode zc_M_askAgain 46 = .ok (.iload_n 3, 1) := by decide +kernel
theorem zd_M_askAgain_47 : decode zc_M_askAgain 47 = .ok (.aload_n 0, 1) := by decide +kernel
theorem zd_M_askAgain_48 : decode zc_M_askAgain 48 = .ok (.getfield 56, 3) := by decide +kernel
theorem zd_M_askAgain_51 : decode zc_M_askAgain 51 = .ok (.iload_n 1, 1) := by decide +kernel
theorem zd_M_askAgain_52 : decode zc_M_askAgain 52 = .ok (.iaload, 1) := by decide +kernel
theorem zd_M_askAgain_53 : decode zc_M_askAgain 53 = .ok (.iload_n 1, 1) := by decide +kernel
theorem zd_M_askAgain_54 : decode zc_M_askAgain 54 = .ok (.aload_n 0, 1) := by decide +kernel
theorem zd_M_askAgain_55 : decode zc_M_askAgain 55 = .ok (.getfield 53, 3) := by decide +kernel
theorem zd_M_askAgain_58 : decode zc_M_askAgain 58 = .ok (.iload_n 1, 1) := by decide +kernel
theorem zd_M_askAgain_59 : decode zc_M_askAgain 59 = .ok (.iaload, 1) := by decide +kernel
theorem zd_M_askAgain_60 : decode zc_M_askAgain 60 = .ok (.iconst 0, 1) := by decide +kernel
theorem zd_M_askAgain_61 : decode zc_M_askAgain 61 = .ok (.iconst 0, 1) := by decide +kernel
theorem zd_M_askAgain_62 : decode zc_M_askAgain 62 = .ok (.invokevirtual 136, 3) := by decide +kernel
theorem zd_M_askAgain_65 : decode zc_M_askAgain 65 = .ok (.iinc 2 1, 3) := by decide +kernel
theorem zd_M_askAgain_68 : decode zc_M_askAgain 68 = .ok (.iinc 3 1, 3) := by decide +kernel
theorem zd_M_askAgain_71 : decode zc_M_askAgain 71 = .ok (.goto (-47), 3) := by decide +kernel
theorem zd_M_askAgain_74 : decode zc_M_askAgain 74 = .ok (.iload_n 2, 1) := by decide +kernel
theorem zd_M_askAgain_75 : decode zc_M_askAgain 75 = .ok (.ireturn, 1) := by decide +kernel
