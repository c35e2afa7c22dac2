theorem zd_X_isAlarmed_0 : decode zc_X_isAlarmed 0 = .ok (.aload_n 0, 1) := by decide +kernel
theorem zd_X_isAlarmed_1 : decode zc_X_isAlarmed 1 = .ok (.getfield 65, 3) := by decide +kernel
theorem zd_X_isAlarmed_4 : decode zc_X_isAlarmed 4 = .ok (.iload_n 1, 1) := by decide +kernel
theorem zd_X_isAlarmed_5 : decode zc_X_isAlarmed 5 = .ok (.baload, 1) := by decide +kernel
theorem zd_X_isAlarmed_6 : decode zc_X_isAlarmed 6 = .ok (.ifCond .ne 5, 3) := by decide +kernel
theorem zd_X_isAlarmed_9 : decode zc_X_isAlarmed 9 = .ok (.iconst 0, 1) := by decide +kernel
theorem zd_X_isAlarmed_10 : decode zc_X_isAlarmed 10 = .ok (.ireturn, 1) := by decide +kernel
theorem zd_X_isAlarmed_11 : decode zc_X_isAlarmed 11 = .ok (.iconst 0, 1) := by decide +kernel
theorem zd_X_isAlarmed_12 : decode zc_X_isAlarmed 12 = .ok (.istore_n 2, 1) := by decide +kernel
theorem zd_X_isAlarmed_13 : decode zc_X_isAlarmed 13 = .ok (.iload_n 2, 1) := by decide +kernel
theorem zd_X_isAlarmed_14 : decode zc_X_isAlarmed 14 = .ok (.iconst 4, 1) := by decide +kernel
theorem zd_X_isAlarmed_15 : decode zc_X_isAlarmed 15 = .ok (.if_icmp .ge 45, 3) := by decide +kernel
theorem zd_X_isAlarmed_18 : decode zc_X_isAlarmed 18 = .ok (.aload_n 0, 1) := by decide +kernel
theorem zd_X_isAlarmed_19 : decode zc_X_isAlarmed 19 = .ok (.getfield 61, 3) := by decide +kernel
theorem zd_X_isAlarmed_22 : decode zc_X_isAlarmed 22 = .ok (.iload_n 2, 1) := by decide +kernel
theorem zd_X_isAlarmed_23 : decode zc_X_isAlarmed 23 = .ok (.aaload, 1) := by decide +kernel
theorem zd_X_isAlarmed_24 : decode zc_X_isAlarmed 24 = .ok (.astore_n 3, 1) := by decide +kernel
theorem zd_X_isAlarmed_25 : decode zc_X_isAlarmed 25 = .ok (.aload_n 0, 1) := by decide +kernel
theorem zd_X_isAlarmed_26 : decode zc_X_isAlarmed 26 = .ok (.getfield 57, 3) := by decide +kernel
theorem zd_X_isAlarmed_29 : decode zc_X_isAlarmed 29 = .ok (.iload_n 2, 1) := by decide +kernel
theorem zd_X_isAlarmed_30 : decode zc_X_isAlarmed 30 = .ok (.iaload, 1) := by decide +kernel
theorem zd_X_isAlarmed_31 : decode zc_X_isAlarmed 31 = .ok (.iload_n 1, 1) := by decide +kernel
theorem zd_X_isAlarmed_32 : decode zc_X_isAlarmed 32 = .ok (.if_icmp .ne 22, 3) := by decide +kernel
theorem zd_X_isAlarmed_35 : decode zc_X_isAlarmed 35 = .ok (.aload_n 3, 1) := by decide +kernel
theorem zd_X_isAlarmed_36 : decode zc_X_isAlarmed 36 = .ok (.ifnull 18, 3) := by decide +kernel
theorem zd_X_isAlarmed_39 : decode zc_X_isAlarmed 39 = .ok (.aload_n 3, 1) := by decide +kernel
theorem zd_X_isAlarmed_40 : decode zc_X_isAlarmed 40 = .ok (.aload_n 0, 1) := by decide +kernel
theorem zd_X_isAlarmed_41 : decode zc_X_isAlarmed 41 = .ok (.getfield 69, 3) := by decide +kernel
theorem zd_X_isAlarmed_44 : decode zc_X_isAlarmed 44 = .ok (.iload_n 1, 1) := by decide +kernel
theorem zd_X_isAlarmed_45 : decode zc_X_isAlarmed 45 = .ok (.iaload, 1) := by decide +kernel
theorem zd_X_isAlarmed_46 : decode zc_X_isAlarmed 46 = .ok (.invokevirtual 207, 3) := by decide +kernel
theorem zd_X_isAlarmed_49 : decode zc_X_isAlarmed 49 = .ok (.ifCond .ne 5, 3) := by decide +kernel
theorem zd_X_isAlarmed_52 : decode zc_X_isAlarmed 52 = .ok (.iconst 1, 1) := by decide +kernel
theorem zd_X_isAlarmed_53 : decode zc_X_isAlarmed 53 = .ok (.ireturn, 1) := by decide +kernel
theorem zd_X_isAlarmed_54 : decode zc_X_isAlarmed 54 = .ok (.iinc 2 1, 3) := by decide +kernel
theorem zd_X_isAlarmed_57 : decode zc_X_isAlarmed 57 = .ok (.goto (-44), 3) := by decide +kernel
theorem zd_X_isAlarmed_60 : decode zc_X_isAlarmed 60 = .ok (.iconst 0, 1) := by decide +kernel
theorem zd_X_isAlarmed_61 : decode zc_X_isAlarmed 61 = .ok (.ireturn, 1) := by decide +kernel
theorem zd_X_sendStores_0 : decode zc_X_sendStores 0 = .ok (.aload_n 0, 1) := by decide +kernel
theorem zd_X_sendStores_1 : decode zc_X_sendStores 1 = .ok (.getfield 38, 3) := by decide +kernel
theorem zd_X_sendStores_4 : decode zc_X_sendStores 4 = .ok (.iload_n 1, 1) := by decide +kernel
theorem zd_X_sendStores_5 : decode zc_X_sendStores 5 = .ok (.aaload, 1) := by decide +kernel
theorem zd_X_sendStores_6 : decode zc_X_sendStores 6 = .ok (.astore_n 2, 1) := by decide +kernel
theorem zd_X_sendStores_7 : decode zc_X_sendStores 7 = .ok (.iconst 0, 1) := by decide +kernel
theorem zd_X_sendStores_8 : decode zc_X_sendStores 8 = .ok (.istore_n 3, 1) := by decide +kernel
theorem zd_X_sendStores_9 : decode zc_X_sendStores 9 = .ok (.iconst 0, 1) := by decide +kernel
theorem zd_X_sendStores_10 : decode zc_X_sendStores 10 = .ok (.istore 4, 2) := by decide +kernel
theorem zd_X_sendStores_12 : decode zc_X_sendStores 12 = .ok (.iload 4, 2) := by decide +kernel
theorem zd_X_sendStores_14 : decode zc_X_sendStores 14 = .ok (.bipush 9, 2) := by decide +kernel
theorem zd_X_sendStores_16 : decode zc_X_sendStores 16 = .ok (.if_icmp .ge 45, 3) := by decide +kernel
theorem zd_X_sendStores_19 : decode zc_X_sendStores 19 = .ok (.aload_n 2, 1) := by decide +kernel
theorem zd_X_sendStores_20 : decode zc_X_sendStores 20 = .ok (.getfield 210, 3) := by decide +kernel
theorem zd_X_sendStores_23 : decode zc_X_sendStores 23 = .ok (.iload 4, 2) := by decide +kernel
theorem zd_X_sendStores_25 : decode zc_X_sendStores 25 = .ok (.baload, 1) := by decide +kernel
theorem zd_X_sendStores_26 : decode zc_X_sendStores 26 = .ok (.ifCond .ne 29, 3) := by decide +kernel
theorem zd_X_sendStores_29 : decode zc_X_sendStores 29 = .ok (.aload_n 0, 1) := by decide +kernel
theorem zd_X_sendStores_30 : decode zc_X_sendStores 30 = .ok (.getfield 53, 3) := by decide +kernel
theorem zd_X_sendStores_33 : decode zc_X_sendStores 33 = .ok (.iconst 1, 1) := by decide +kernel
theorem zd_X_sendStores_34 : decode zc_X_sendStores 34 = .ok (.iload 4, 2) := by decide +kernel
theorem zd_X_sendStores_36 : decode zc_X_sendStores 36 = .ok (.iload_n 1, 1) := by decide +kernel
theorem zd_X_sendStores_37 : decode zc_X_sendStores 37 = .ok (.iconst (-1), 1) := by decide +kernel
theorem zd_X_sendStores_38 : decode zc_X_sendStores 38 = .ok (.aload_n 2, 1) := by decide +kernel
theorem zd_X_sendStores_39 : decode zc_X_sendStores 39 = .ok (.getfield 91, 3) := by decide +kernel
theorem zd_X_sendStores_42 : decode zc_X_sendStores 42 = .ok (.getfield 95, 3) := by decide +kernel
theorem zd_X_sendStores_45 : decode zc_X_sendStores 45 = .ok (.aload_n 2, 1) := by decide +kernel
theorem zd_X_sendStores_46 : decode zc_X_sendStores 46 = .ok (.getfield 91, 3) := by decide +kernel
theorem zd_X_sendStores_49 : decode zc_X_sendStores 49 = .ok (.invokevirtual 153, 3) := by decide +kernel
theorem zd_X_sendStores_52 : decode zc_X_sendStores 52 = .ok (.iinc 3 1, 3) := by decide +kernel
theorem zd_X_sendStores_55 : decode zc_X_sendStores 55 = .ok (.iinc 4 1, 3) := by decide +kernel
theorem zd_X_sendStores_58 : decode zc_X_sendStores 58 = .ok (.goto (-46), 3) := by decide +kernel
theorem zd_X_sendStores_61 : decode zc_X_sendStores 61 = .ok (.iload_n 3, 1) := by decide +kernel
theorem zd_X_sendStores_62 : decode zc_X_sendStores 62 = .ok (.ireturn, 1) := by decide +kernel
theorem zd_X_sendAsks_0 : decode zc_X_sendAsks 0 = .ok (.aload_n 0, 1) := by decide +kernel
theorem zd_X_sendAsks_1 : decode zc_X_sendAsks 1 = .ok (.getfield 45, 3) := by decide +kernel
theorem zd_X_sendAsks_4 : decode zc_X_sendAsks 4 = .ok (.iload_n 1, 1) := by decide +kernel
theorem zd_X_sendAsks_5 : decode zc_X_sendAsks 5 = .ok (.aaload, 1) := by decide +kernel
theorem zd_X_sendAsks_6 : decode zc_X_sendAsks 6 = .ok (.astore_n 2, 1) := by decide +kernel
theorem zd_X_sendAsks_7 : decode zc_X_sendAsks 7 = .ok (.iconst 0, 1) := by decide +kernel
theorem zd_X_sendAsks_8 : decode zc_X_sendAsks 8 = .ok (.istore_n 3, 1) := by decide +kernel
theorem zd_X_sendAsks_9 : decode zc_X_sendAsks 9 = .ok (.iconst 0, 1) := by decide +kernel
theorem zd_X_sendAsks_10 : decode zc_X_sendAsks 10 = .ok (.istore 4, 2) := by decide +kernel
theorem zd_X_sendAsks_12 : decode zc_X_sendAsks 12 = .ok (.iload 4, 2) := by decide +kernel
theorem zd_X_sendAsks_14 : decode zc_X_sendAsks 14 = .ok (.bipush 9, 2) := by decide +kernel
theorem zd_X_sendAsks_16 : decode zc_X_sendAsks 16 = .ok (.if_icmp .ge 42, 3) := by decide +kernel
theorem zd_X_sendAsks_19 : decode zc_X_sendAsks 19 = .ok (.aload_n 2, 1) := by decide +kernel
theorem zd_X_sendAsks_20 : decode zc_X_sendAsks 20 = .ok (.getfield 213, 3) := by decide +kernel
theorem zd_X_sendAsks_23 : decode zc_X_sendAsks 23 = .ok (.iload 4, 2) := by decide +kernel
theorem zd_X_sendAsks_25 : decode zc_X_sendAsks 25 = .ok (.aaload, 1) := by decide +kernel
theorem zd_X_sendAsks_26 : decode zc_X_sendAsks 26 = .ok (.ifnonnull 26, 3) := by decide +kernel
theorem zd_X_sendAsks_29 : decode zc_X_sendAsks 29 = .ok (.aload_n 0, 1) := by decide +kernel
theorem zd_X_sendAsks_30 : decode zc_X_sendAsks 30 = .ok (.getfield 53, 3) := by decide +kernel
theorem zd_X_sendAsks_33 : decode zc_X_sendAsks 33 = .ok (.iconst 3, 1) := by decide +kernel
theorem zd_X_sendAsks_34 : decode zc_X_sendAsks 34 = .ok (.iload 4, 2) := by decide +kernel
theorem zd_X_sendAsks_36 : decode zc_X_sendAsks 36 = .ok (.aload_n 2, 1) := by decide +kernel
theorem zd_X_sendAsks_37 : decode zc_X_sendAsks 37 = .ok (.getfield 170, 3) := by decide +kernel
theorem zd_X_sendAsks_40 : decode zc_X_sendAsks 40 = .ok (.iload_n 1, 1) := by decide +kernel
theorem zd_X_sendAsks_41 : decode zc_X_sendAsks 41 = .ok (.aload_n 2, 1) := by decide +kernel
theorem zd_X_sendAsks_42 : decode zc_X_sendAsks 42 = .ok (.getfield 111, 3) := by decide +kernel
theorem zd_X_sendAsks_45 : decode zc_X_sendAsks 45 = .ok (.aconst_null, 1) := by decide +kernel
theorem zd_X_sendAsks_46 : decode zc_X_sendAsks 46 = .ok (.invokevirtual 153, 3) := by decide +kernel
theorem zd_X_sendAsks_49 : decode zc_X_sendAsks 49 = .ok (.iinc 3 1, 3) := by decide +kernel
theorem zd_X_sendAsks_52 : decode zc_X_sendAsks 52 = .ok (.iinc 4 1, 3) := by decide +kernel
theorem zd_X_sendAsks_55 : decode zc_X_sendAsks 55 = .ok (.goto (-43), 3) := by decide +kernel
theorem zd_X_sendAsks_58 : decode zc_X_sendAsks 58 = .ok (.iload_n 3, 1) := by decide +kernel
theorem zd_X_sendAsks_59 : decode zc_X_sendAsks 59 = .ok (.ireturn, 1) := by decide +kernel
theorem zd_X_bring_0 : decode zc_X_bring 0 = .ok (.aload_n 1, 1) := by decide +kernel
theorem zd_X_bring_1 : decode zc_X_bring 1 = .ok (.getfield 124, 3) := by decide +kernel
theorem zd_X_bring_4 : decode zc_X_bring 4 = .ok (.tableswitch 97 1 3 #[28, 51, 74], 28) := by decide +kernel
theorem zd_X_bring_32 : decode zc_X_bring 32 = .ok (.aload_n 0, 1) := by decide +kernel
theorem zd_X_bring_33 : decode zc_X_bring 33 = .ok (.aload_n 1, 1) := by decide +kernel
theorem zd_X_bring_34 : decode zc_X_bring 34 = .ok (.getfield 129, 3) := by decide +kernel
theorem zd_X_bring_37 : decode zc_X_bring 37 = .ok (.aload_n 1, 1) := by decide +kernel
theorem zd_X_bring_38 : decode zc_X_bring 38 = .ok (.getfield 132, 3) := by decide +kernel
theorem zd_X_bring_41 : decode zc_X_bring 41 = .ok (.aload_n 1, 1) := by decide +kernel
theorem zd_X_bring_42 : decode zc_X_bring 42 = .ok (.getfield 138, 3) := by decide +kernel
theorem zd_X_bring_45 : decode zc_X_bring 45 = .ok (.aload_n 1, 1) := by decide +kernel
theorem zd_X_bring_46 : decode zc_X_bring 46 = .ok (.getfield 150, 3) := by decide +kernel
theorem zd_X_bring_49 : decode zc_X_bring 49 = .ok (.invokevirtual 216, 3) := by decide +kernel
theorem zd_X_bring_52 : decode zc_X_bring 52 = .ok (.goto 69, 3) := by decide +kernel
theorem zd_X_bring_55 : decode zc_X_bring 55 = .ok (.aload_n 0, 1) := by decide +kernel
theorem zd_X_bring_56 : decode zc_X_bring 56 = .ok (.getfield 38, 3) := by decide +kernel
theorem zd_X_bring_59 : decode zc_X_bring 59 = .ok (.aload_n 1, 1) := by decide +kernel
theorem zd_X_bring_60 : decode zc_X_bring 60 = .ok (.getfield 132, 3) := by decide +kernel
theorem zd_X_bring_63 : decode zc_X_bring 63 = .ok (.aaload, 1) := by decide +kernel
theorem zd_X_bring_64 : decode zc_X_bring 64 = .ok (.aload_n 1, 1) := by decide +kernel
theorem zd_X_bring_65 : decode zc_X_bring 65 = .ok (.getfield 129, 3) := by decide +kernel
theorem zd_X_bring_68 : decode zc_X_bring 68 = .ok (.aload_n 1, 1) := by decide +kernel
theorem zd_X_bring_69 : decode zc_X_bring 69 = .ok (.getfield 138, 3) := by decide +kernel
theorem zd_X_bring_72 : decode zc_X_bring 72 = .ok (.invokevirtual 220, 3) := by decide +kernel
theorem zd_X_bring_75 : decode zc_X_bring 75 = .ok (.goto 46, 3) := by decide +kernel
theorem zd_X_bring_78 : decode zc_X_bring 78 = .ok (.aload_n 0, 1) := by decide +kernel
theorem zd_X_bring_79 : decode zc_X_bring 79 = .ok (.aload_n 1, 1) := by decide +kernel
theorem zd_X_bring_80 : decode zc_X_bring 80 = .ok (.getfield 129, 3) := by decide +kernel
theorem zd_X_bring_83 : decode zc_X_bring 83 = .ok (.aload_n 1, 1) := by decide +kernel
theorem zd_X_bring_84 : decode zc_X_bring 84 = .ok (.getfield 132, 3) := by decide +kernel
theorem zd_X_bring_87 : decode zc_X_bring 87 = .ok (.aload_n 1, 1) := by decide +kernel
theorem zd_X_bring_88 : decode zc_X_bring 88 = .ok (.getfield 135, 3) := by decide +kernel
theorem zd_X_bring_91 : decode zc_X_bring 91 = .ok (.aload_n 1, 1) := by decide +kernel
theorem zd_X_bring_92 : decode zc_X_bring 92 = .ok (.getfield 138, 3) := by decide +kernel
theorem zd_X_bring_95 : decode zc_X_bring 95 = .ok (.invokevirtual 223, 3) := by decide +kernel
theorem zd_X_bring_98 : decode zc_X_bring 98 = .ok (.goto 23, 3) := by decide +kernel
theorem zd_X_bring_101 : decode zc_X_bring 101 = .ok (.aload_n 0, 1) := by decide +kernel
theorem zd_X_bring_102 : decode zc_X_bring 102 = .ok (.aload_n 1, 1) := by decide +kernel
theorem zd_X_bring_103 : decode zc_X_bring 103 = .ok (.getfield 129, 3) := by decide +kernel
theorem zd_X_bring_106 : decode zc_X_bring 106 = .ok (.aload_n 1, 1) := by decide +kernel
theorem zd_X_bring_107 : decode zc_X_bring 107 = .ok (.getfield 135, 3) := by decide +kernel
theorem zd_X_bring_110 : decode zc_X_bring 110 = .ok (.aload_n 1, 1) := by decide +kernel
theorem zd_X_bring_111 : decode zc_X_bring 111 = .ok (.getfield 138, 3) := by decide +kernel
theorem zd_X_bring_114 : decode zc_X_bring 114 = .ok (.aload_n 1, 1) := by decide +kernel
theorem zd_X_bring_115 : decode zc_X_bring 115 = .ok (.getfield 150, 3) := by decide +kernel
theorem zd_X_bring_118 : decode zc_X_bring 118 = .ok (.invokevirtual 227, 3) := by decide +kernel
theorem zd_X_bring_121 : decode zc_X_bring 121 = .ok (.return_, 1) := by decide +kernel
theorem zd_X_bringStore_0 : decode zc_X_bringStore 0 = .ok (.aload_n 0, 1) := by decide +kernel
theorem zd_X_bringStore_1 : decode zc_X_bringStore 1 = .ok (.getfield 29, 3) := by decide +kernel
theorem zd_X_bringStore_4 : decode zc_X_bringStore 4 = .ok (.iload_n 1, 1) := by decide +kernel
theorem zd_X_bringStore_5 : decode zc_X_bringStore 5 = .ok (.aaload, 1) := by decide +kernel
theorem zd_X_bringStore_6 : decode zc_X_bringStore 6 = .ok (.invokevirtual 230, 3) := by decide +kernel
theorem zd_X_bringStore_9 : decode zc_X_bringStore 9 = .ok (.ifCond .ne 4, 3) := by decide +kernel
theorem zd_X_bringStore_12 : decode zc_X_bringStore 12 = .ok (.return_, 1) := by decide +kernel
theorem zd_X_bringStore_13 : decode zc_X_bringStore 13 = .ok (.iload_n 3, 1) := by decide +kernel
theorem zd_X_bringStore_14 : decode zc_X_bringStore 14 = .ok (.aload_n 0, 1) := by decide +kernel
theorem zd_X_bringStore_15 : decode zc_X_bringStore 15 = .ok (.getfield 29, 3) := by decide +kernel
theorem zd_X_bringStore_18 : decode zc_X_bringStore 18 = .ok (.iload_n 1, 1) := by decide +kernel
theorem zd_X_bringStore_19 : decode zc_X_bringStore 19 = .ok (.aaload, 1) := by decide +kernel
theorem zd_X_bringStore_20 : decode zc_X_bringStore 20 = .ok (.getfield 201, 3) := by decide +kernel
theorem zd_X_bringStore_23 : decode zc_X_bringStore 23 = .ok (.iload_n 2, 1) := by decide +kernel
theorem zd_X_bringStore_24 : decode zc_X_bringStore 24 = .ok (.aaload, 1) := by decide +kernel
theorem zd_X_bringStore_25 : decode zc_X_bringStore 25 = .ok (.getfield 95, 3) := by decide +kernel
theorem zd_X_bringStore_28 : decode zc_X_bringStore 28 = .ok (.if_icmp .le 16, 3) := by decide +kernel
theorem zd_X_bringStore_31 : decode zc_X_bringStore 31 = .ok (.aload_n 0, 1) := by decide +kernel
theorem zd_X_bringStore_32 : decode zc_X_bringStore 32 = .ok (.getfield 29, 3) := by decide +kernel
theorem zd_X_bringStore_35 : decode zc_X_bringStore 35 = .ok (.iload_n 1, 1) := by decide +kernel
theorem zd_X_bringStore_36 : decode zc_X_bringStore 36 = .ok (.aaload, 1) := by decide +kernel
theorem zd_X_bringStore_37 : decode zc_X_bringStore 37 = .ok (.getfield 201, 3) := by decide +kernel
theorem zd_X_bringStore_40 : decode zc_X_bringStore 40 = .ok (.iload_n 2, 1) := by decide +kernel
theorem zd_X_bringStore_41 : decode zc_X_bringStore 41 = .ok (.aload 4, 2) := by decide +kernel
theorem zd_X_bringStore_43 : decode zc_X_bringStore 43 = .ok (.aastore, 1) := by decide +kernel
theorem zd_X_bringStore_44 : decode zc_X_bringStore 44 = .ok (.aload_n 0, 1) := by decide +kernel
theorem zd_X_bringStore_45 : decode zc_X_bringStore 45 = .ok (.getfield 53, 3) := by decide +kernel
theorem zd_X_bringStore_48 : decode zc_X_bringStore 48 = .ok (.iconst 2, 1) := by decide +kernel
theorem zd_X_bringStore_49 : decode zc_X_bringStore 49 = .ok (.iload_n 1, 1) := by decide +kernel
theorem zd_X_bringStore_50 : decode zc_X_bringStore 50 = .ok (.iload_n 2, 1) := by decide +kernel
theorem zd_X_bringStore_51 : decode zc_X_bringStore 51 = .ok (.iconst (-1), 1) := by decide +kernel
theorem zd_X_bringStore_52 : decode zc_X_bringStore 52 = .ok (.iload_n 3, 1) := by decide +kernel
theorem zd_X_bringStore_53 : decode zc_X_bringStore 53 = .ok (.aconst_null, 1) := by decide +kernel
theorem zd_X_bringStore_54 : decode zc_X_bringStore 54 = .ok (.invokevirtual 153, 3) := by decide +kernel
theorem zd_X_bringStore_57 : decode zc_X_bringStore 57 = .ok (.return_, 1) := by decide +kernel
theorem zd_X_bringAsk_0 : decode zc_X_bringAsk 0 = .ok (.aload_n 0, 1) := by decide +kernel
theorem zd_X_bringAsk_1 : decode zc_X_bringAsk 1 = .ok (.getfield 29, 3) := by decide +kernel
theorem zd_X_bringAsk_4 : decode zc_X_bringAsk 4 = .ok (.iload_n 1, 1) := by decide +kernel
theorem zd_X_bringAsk_5 : decode zc_X_bringAsk 5 = .ok (.aaload, 1) := by decide +kernel
theorem zd_X_bringAsk_6 : decode zc_X_bringAsk 6 = .ok (.invokevirtual 230, 3) := by decide +kernel
theorem zd_X_bringAsk_9 : decode zc_X_bringAsk 9 = .ok (.ifCond .eq 31, 3) := by decide +kernel
theorem zd_X_bringAsk_12 : decode zc_X_bringAsk 12 = .ok (.aload_n 0, 1) := by decide +kernel
theorem zd_X_bringAsk_13 : decode zc_X_bringAsk 13 = .ok (.getfield 29, 3) := by decide +kernel
theorem zd_X_bringAsk_16 : decode zc_X_bringAsk 16 = .ok (.iload_n 1, 1) := by decide +kernel
theorem zd_X_bringAsk_17 : decode zc_X_bringAsk 17 = .ok (.aaload, 1) := by decide +kernel
theorem zd_X_bringAsk_18 : decode zc_X_bringAsk 18 = .ok (.getfield 201, 3) := by decide +kernel
theorem zd_X_bringAsk_21 : decode zc_X_bringAsk 21 = .ok (.iload_n 2, 1) := by decide +kernel
theorem zd_X_bringAsk_22 : decode zc_X_bringAsk 22 = .ok (.aaload, 1) := by decide +kernel
theorem zd_X_bringAsk_23 : decode zc_X_bringAsk 23 = .ok (.astore 5, 2) := by decide +kernel
theorem zd_X_bringAsk_25 : decode zc_X_bringAsk 25 = .ok (.aload_n 0, 1) := by decide +kernel
theorem zd_X_bringAsk_26 : decode zc_X_bringAsk 26 = .ok (.getfield 53, 3) := by decide +kernel
theorem zd_X_bringAsk_29 : decode zc_X_bringAsk 29 = .ok (.iconst 4, 1) := by decide +kernel
theorem zd_X_bringAsk_30 : decode zc_X_bringAsk 30 = .ok (.iload_n 1, 1) := by decide +kernel
theorem zd_X_bringAsk_31 : decode zc_X_bringAsk 31 = .ok (.iload_n 2, 1) := by decide +kernel
theorem zd_X_bringAsk_32 : decode zc_X_bringAsk 32 = .ok (.iload_n 3, 1) := by decide +kernel
theorem zd_X_bringAsk_33 : decode zc_X_bringAsk 33 = .ok (.iload 4, 2) := by decide +kernel
theorem zd_X_bringAsk_35 : decode zc_X_bringAsk 35 = .ok (.aload 5, 2) := by decide +kernel
theorem zd_X_bringAsk_37 : decode zc_X_bringAsk 37 = .ok (.invokevirtual 153, 3) := by decide +kernel
theorem zd_X_bringAsk_40 : decode zc_X_bringAsk 40 = .ok (.return_, 1) := by decide +kernel
theorem zd_X_bringTell_0 : decode zc_X_bringTell 0 = .ok (.aload_n 0, 1) := by decide +kernel
theorem zd_X_bringTell_1 : decode zc_X_bringTell 1 = .ok (.getfield 45, 3) := by decide +kernel
theorem zd_X_bringTell_4 : decode zc_X_bringTell 4 = .ok (.iload_n 2, 1) := by decide +kernel
theorem zd_X_bringTell_5 : decode zc_X_bringTell 5 = .ok (.aaload, 1) := by decide +kernel
theorem zd_X_bringTell_6 : decode zc_X_bringTell 6 = .ok (.astore 5, 2) := by decide +kernel
theorem zd_X_bringTell_8 : decode zc_X_bringTell 8 = .ok (.aload 5, 2) := by decide +kernel
theorem zd_X_bringTell_10 : decode zc_X_bringTell 10 = .ok (.iload_n 1, 1) := by decide +kernel
theorem zd_X_bringTell_11 : decode zc_X_bringTell 11 = .ok (.iload_n 3, 1) := by decide +kernel
theorem zd_X_bringTell_12 : decode zc_X_bringTell 12 = .ok (.aload 4, 2) := by decide +kernel
theorem zd_X_bringTell_14 : decode zc_X_bringTell 14 = .ok (.invokevirtual 233, 3) := by decide +kernel
theorem zd_X_bringTell_17 : decode zc_X_bringTell 17 = .ok (.aload 5, 2) := by decide +kernel
theorem zd_X_bringTell_19 : decode zc_X_bringTell 19 = .ok (.invokevirtual 101, 3) := by decide +kernel
theorem zd_X_bringTell_22 : decode zc_X_bringTell 22 = .ok (.ifCond .eq 13, 3) := by decide +kernel
theorem zd_X_bringTell_25 : decode zc_X_bringTell 25 = .ok (.aload 5, 2) := by decide +kernel
theorem zd_X_bringTell_27 : decode zc_X_bringTell 27 = .ok (.getfield 192, 3) := by decide +kernel
theorem zd_X_bringTell_30 : decode zc_X_bringTell 30 = .ok (.bipush 7, 2) := by decide +kernel
theorem zd_X_bringTell_32 : decode zc_X_bringTell 32 = .ok (.if_icmp .ge 4, 3) := by decide +kernel
theorem zd_X_bringTell_35 : decode zc_X_bringTell 35 = .ok (.return_, 1) := by decide +kernel
theorem zd_X_bringTell_36 : decode zc_X_bringTell 36 = .ok (.aload 5, 2) := by decide +kernel
theorem zd_X_bringTell_38 : decode zc_X_bringTell 38 = .ok (.invokevirtual 236, 3) := by decide +kernel
theorem zd_X_bringTell_41 : decode zc_X_bringTell 41 = .ok (.astore 6, 2) := by decide +kernel
theorem zd_X_bringTell_43 : decode zc_X_bringTell 43 = .ok (.aload 6, 2) := by decide +kernel
theorem zd_X_bringTell_45 : decode zc_X_bringTell 45 = .ok (.ifnull 28, 3) := by decide +kernel
theorem zd_X_bringTell_48 : decode zc_X_bringTell 48 = .ok (.aload 5, 2) := by decide +kernel
theorem zd_X_bringTell_50 : decode zc_X_bringTell 50 = .ok (.aload 6, 2) := by decide +kernel
theorem zd_X_bringTell_52 : decode zc_X_bringTell 52 = .ok (.invokevirtual 240, 3) := by decide +kernel
theorem zd_X_bringTell_55 : decode zc_X_bringTell 55 = .ok (.aload_n 0, 1) := by decide +kernel
theorem zd_X_bringTell_56 : decode zc_X_bringTell 56 = .ok (.getfield 61, 3) := by decide +kernel
theorem zd_X_bringTell_59 : decode zc_X_bringTell 59 = .ok (.aload 5, 2) := by decide +kernel
theorem zd_X_bringTell_61 : decode zc_X_bringTell 61 = .ok (.getfield 170, 3) := by decide +kernel
theorem zd_X_bringTell_64 : decode zc_X_bringTell 64 = .ok (.aload 5, 2) := by decide +kernel
theorem zd_X_bringTell_66 : decode zc_X_bringTell 66 = .ok (.getfield 180, 3) := by decide +kernel
theorem zd_X_bringTell_69 : decode zc_X_bringTell 69 = .ok (.aastore, 1) := by decide +kernel
theorem zd_X_bringTell_70 : decode zc_X_bringTell 70 = .ok (.goto 42, 3) := by decide +kernel
theorem zd_X_bringTell_73 : decode zc_X_bringTell 73 = .ok (.aload 5, 2) := by decide +kernel
theorem zd_X_bringTell_75 : decode zc_X_bringTell 75 = .ok (.getfield 189, 3) := by decide +kernel
theorem zd_X_bringTell_78 : decode zc_X_bringTell 78 = .ok (.aload_n 0, 1) := by decide +kernel
theorem zd_X_bringTell_79 : decode zc_X_bringTell 79 = .ok (.getfield 18, 3) := by decide +kernel
theorem zd_X_bringTell_82 : decode zc_X_bringTell 82 = .ok (.if_icmp .lt 12, 3) := by decide +kernel
theorem zd_X_bringTell_85 : decode zc_X_bringTell 85 = .ok (.aload 5, 2) := by decide +kernel
theorem zd_X_bringTell_87 : decode zc_X_bringTell 87 = .ok (.iconst 3, 1) := by decide +kernel
theorem zd_X_bringTell_88 : decode zc_X_bringTell 88 = .ok (.putfield 177, 3) := by decide +kernel
theorem zd_X_bringTell_91 : decode zc_X_bringTell 91 = .ok (.goto 21, 3) := by decide +kernel
theorem zd_X_bringTell_94 : decode zc_X_bringTell 94 = .ok (.aload 5, 2) := by decide +kernel
theorem zd_X_bringTell_96 : decode zc_X_bringTell 96 = .ok (.aload 5, 2) := by decide +kernel
theorem zd_X_bringTell_98 : decode zc_X_bringTell 98 = .ok (.getfield 189, 3) := by decide +kernel
theorem zd_X_bringTell_101 : decode zc_X_bringTell 101 = .ok (.iconst 1, 1) := by decide +kernel
theorem zd_X_bringTell_102 : decode zc_X_bringTell 102 = .ok (.iadd, 1) := by decide +kernel
theorem zd_X_bringTell_103 : decode zc_X_bringTell 103 = .ok (.invokevirtual 243, 3) := by decide +kernel
theorem zd_X_bringTell_106 : decode zc_X_bringTell 106 = .ok (.aload_n 0, 1) := by decide +kernel
theorem zd_X_bringTell_107 : decode zc_X_bringTell 107 = .ok (.iload_n 2, 1) := by decide +kernel
theorem zd_X_bringTell_108 : decode zc_X_bringTell 108 = .ok (.invokevirtual 108, 3) := by decide +kernel
theorem zd_X_bringTell_111 : decode zc_X_bringTell 111 = .ok (.pop, 1) := by decide +kernel
theorem zd_X_bringTell_112 : decode zc_X_bringTell 112 = .ok (.return_, 1) := by decide +kernel
