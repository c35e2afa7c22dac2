theorem zd_M_writer_0 : decode zc_M_writer 0 = .ok (.iload_n 1, 1) := by decide +kernel
theorem zd_M_writer_1 : decode zc_M_writer 1 = .ok (.iconst 4, 1) := by decide +kernel
theorem zd_M_writer_2 : decode zc_M_writer 2 = .ok (.invokestatic 129, 3) := by decide +kernel
theorem zd_M_writer_5 : decode zc_M_writer 5 = .ok (.ifCond .ne 5, 3) := by decide +kernel
theorem zd_M_writer_8 : decode zc_M_writer 8 = .ok (.iconst (-1), 1) := by decide +kernel
theorem zd_M_writer_9 : decode zc_M_writer 9 = .ok (.ireturn, 1) := by decide +kernel
theorem zd_M_writer_10 : decode zc_M_writer 10 = .ok (.iload_n 2, 1) := by decide +kernel
theorem zd_M_writer_11 : decode zc_M_writer 11 = .ok (.ifCond .ne 12, 3) := by decide +kernel
theorem zd_M_writer_14 : decode zc_M_writer 14 = .ok (.aload_n 0, 1) := by decide +kernel
theorem zd_M_writer_15 : decode zc_M_writer 15 = .ok (.getfield 35, 3) := by decide +kernel
theorem zd_M_writer_18 : decode zc_M_writer 18 = .ok (.iload_n 1, 1) := by decide +kernel
theorem zd_M_writer_19 : decode zc_M_writer 19 = .ok (.iaload, 1) := by decide +kernel
theorem zd_M_writer_20 : decode zc_M_writer 20 = .ok (.goto 53, 3) := by decide +kernel
theorem zd_M_writer_23 : decode zc_M_writer 23 = .ok (.iload_n 2, 1) := by decide +kernel
theorem zd_M_writer_24 : decode zc_M_writer 24 = .ok (.iconst 1, 1) := by decide +kernel
theorem zd_M_writer_25 : decode zc_M_writer 25 = .ok (.if_icmp .ne 20, 3) := by decide +kernel
theorem zd_M_writer_28 : decode zc_M_writer 28 = .ok (.aload_n 0, 1) := by decide +kernel
theorem zd_M_writer_29 : decode zc_M_writer 29 = .ok (.getfield 44, 3) := by decide +kernel
theorem zd_M_writer_32 : decode zc_M_writer 32 = .ok (.iload_n 1, 1) := by decide +kernel
theorem zd_M_writer_33 : decode zc_M_writer 33 = .ok (.baload, 1) := by decide +kernel
theorem zd_M_writer_34 : decode zc_M_writer 34 = .ok (.ifCond .eq 7, 3) := by decide +kernel
theorem zd_M_writer_37 : decode zc_M_writer 37 = .ok (.iconst 1, 1) := by decide +kernel
theorem zd_M_writer_38 : decode zc_M_writer 38 = .ok (.goto 35, 3) := by decide +kernel
theorem zd_M_writer_41 : decode zc_M_writer 41 = .ok (.iconst 0, 1) := by decide +kernel
theorem zd_M_writer_42 : decode zc_M_writer 42 = .ok (.goto 31, 3) := by decide +kernel
theorem zd_M_writer_45 : decode zc_M_writer 45 = .ok (.iload_n 2, 1) := by decide +kernel
theorem zd_M_writer_46 : decode zc_M_writer 46 = .ok (.iconst 2, 1) := by decide +kernel
theorem zd_M_writer_47 : decode zc_M_writer 47 = .ok (.if_icmp .ne 11, 3) := by decide +kernel
theorem zd_M_writer_50 : decode zc_M_writer 50 = .ok (.aload_n 0, 1) := by decide +kernel
theorem zd_M_writer_51 : decode zc_M_writer 51 = .ok (.iload_n 1, 1) := by decide +kernel
theorem zd_M_writer_52 : decode zc_M_writer 52 = .ok (.invokevirtual 151, 3) := by decide +kernel
theorem zd_M_writer_55 : decode zc_M_writer 55 = .ok (.goto 18, 3) := by decide +kernel
theorem zd_M_writer_58 : decode zc_M_writer 58 = .ok (.iload_n 2, 1) := by decide +kernel
theorem zd_M_writer_59 : decode zc_M_writer 59 = .ok (.iconst 3, 1) := by decide +kernel
theorem zd_M_writer_60 : decode zc_M_writer 60 = .ok (.if_icmp .ne 12, 3) := by decide +kernel
theorem zd_M_writer_63 : decode zc_M_writer 63 = .ok (.aload_n 0, 1) := by decide +kernel
theorem zd_M_writer_64 : decode zc_M_writer 64 = .ok (.getfield 47, 3) := by decide +kernel
theorem zd_M_writer_67 : decode zc_M_writer 67 = .ok (.iload_n 1, 1) := by decide +kernel
theorem zd_M_writer_68 : decode zc_M_writer 68 = .ok (.iaload, 1) := by decide +kernel
theorem zd_M_writer_69 : decode zc_M_writer 69 = .ok (.goto 4, 3) := by decide +kernel
theorem zd_M_writer_72 : decode zc_M_writer 72 = .ok (.iconst (-1), 1) := by decide +kernel
theorem zd_M_writer_73 : decode zc_M_writer 73 = .ok (.ireturn, 1) := by decide +kernel
theorem zd_M_held_0 : decode zc_M_held 0 = .ok (.iload_n 1, 1) := by decide +kernel
theorem zd_M_held_1 : decode zc_M_held 1 = .ok (.bipush 9, 2) := by decide +kernel
theorem zd_M_held_3 : decode zc_M_held 3 = .ok (.invokestatic 129, 3) := by decide +kernel
theorem zd_M_held_6 : decode zc_M_held 6 = .ok (.ifCond .eq 11, 3) := by decide +kernel
theorem zd_M_held_9 : decode zc_M_held 9 = .ok (.iload_n 2, 1) := by decide +kernel
theorem zd_M_held_10 : decode zc_M_held 10 = .ok (.iconst 4, 1) := by decide +kernel
theorem zd_M_held_11 : decode zc_M_held 11 = .ok (.invokestatic 129, 3) := by decide +kernel
theorem zd_M_held_14 : decode zc_M_held 14 = .ok (.ifCond .ne 5, 3) := by decide +kernel
theorem zd_M_held_17 : decode zc_M_held 17 = .ok (.iconst (-1), 1) := by decide +kernel
theorem zd_M_held_18 : decode zc_M_held 18 = .ok (.ireturn, 1) := by decide +kernel
theorem zd_M_held_19 : decode zc_M_held 19 = .ok (.iconst 4, 1) := by decide +kernel
theorem zd_M_held_20 : decode zc_M_held 20 = .ok (.iload_n 1, 1) := by decide +kernel
theorem zd_M_held_21 : decode zc_M_held 21 = .ok (.imul, 1) := by decide +kernel
theorem zd_M_held_22 : decode zc_M_held 22 = .ok (.iload_n 2, 1) := by decide +kernel
theorem zd_M_held_23 : decode zc_M_held 23 = .ok (.iadd, 1) := by decide +kernel
theorem zd_M_held_24 : decode zc_M_held 24 = .ok (.istore 4, 2) := by decide +kernel
theorem zd_M_held_26 : decode zc_M_held 26 = .ok (.iload_n 3, 1) := by decide +kernel
theorem zd_M_held_27 : decode zc_M_held 27 = .ok (.ifCond .ne 13, 3) := by decide +kernel
theorem zd_M_held_30 : decode zc_M_held 30 = .ok (.aload_n 0, 1) := by decide +kernel
theorem zd_M_held_31 : decode zc_M_held 31 = .ok (.getfield 26, 3) := by decide +kernel
theorem zd_M_held_34 : decode zc_M_held 34 = .ok (.iload 4, 2) := by decide +kernel
theorem zd_M_held_36 : decode zc_M_held 36 = .ok (.iaload, 1) := by decide +kernel
theorem zd_M_held_37 : decode zc_M_held 37 = .ok (.goto 34, 3) := by decide +kernel
theorem zd_M_held_40 : decode zc_M_held 40 = .ok (.iload_n 3, 1) := by decide +kernel
theorem zd_M_held_41 : decode zc_M_held 41 = .ok (.iconst 1, 1) := by decide +kernel
theorem zd_M_held_42 : decode zc_M_held 42 = .ok (.if_icmp .ne 13, 3) := by decide +kernel
theorem zd_M_held_45 : decode zc_M_held 45 = .ok (.aload_n 0, 1) := by decide +kernel
theorem zd_M_held_46 : decode zc_M_held 46 = .ok (.getfield 29, 3) := by decide +kernel
theorem zd_M_held_49 : decode zc_M_held 49 = .ok (.iload 4, 2) := by decide +kernel
theorem zd_M_held_51 : decode zc_M_held 51 = .ok (.iaload, 1) := by decide +kernel
theorem zd_M_held_52 : decode zc_M_held 52 = .ok (.goto 19, 3) := by decide +kernel
theorem zd_M_held_55 : decode zc_M_held 55 = .ok (.iload_n 3, 1) := by decide +kernel
theorem zd_M_held_56 : decode zc_M_held 56 = .ok (.iconst 2, 1) := by decide +kernel
theorem zd_M_held_57 : decode zc_M_held 57 = .ok (.if_icmp .ne 13, 3) := by decide +kernel
theorem zd_M_held_60 : decode zc_M_held 60 = .ok (.aload_n 0, 1) := by decide +kernel
theorem zd_M_held_61 : decode zc_M_held 61 = .ok (.getfield 32, 3) := by decide +kernel
theorem zd_M_held_64 : decode zc_M_held 64 = .ok (.iload 4, 2) := by decide +kernel
theorem zd_M_held_66 : decode zc_M_held 66 = .ok (.iaload, 1) := by decide +kernel
theorem zd_M_held_67 : decode zc_M_held 67 = .ok (.goto 4, 3) := by decide +kernel
theorem zd_M_held_70 : decode zc_M_held 70 = .ok (.iconst (-1), 1) := by decide +kernel
theorem zd_M_held_71 : decode zc_M_held 71 = .ok (.ireturn, 1) := by decide +kernel
theorem zd_M_measured_0 : decode zc_M_measured 0 = .ok (.iload_n 1, 1) := by decide +kernel
theorem zd_M_measured_1 : decode zc_M_measured 1 = .ok (.iconst 3, 1) := by decide +kernel
theorem zd_M_measured_2 : decode zc_M_measured 2 = .ok (.invokestatic 129, 3) := by decide +kernel
theorem zd_M_measured_5 : decode zc_M_measured 5 = .ok (.ifCond .ne 5, 3) := by decide +kernel
theorem zd_M_measured_8 : decode zc_M_measured 8 = .ok (.iconst 0, 1) := by decide +kernel
theorem zd_M_measured_9 : decode zc_M_measured 9 = .ok (.ireturn, 1) := by decide +kernel
theorem zd_M_measured_10 : decode zc_M_measured 10 = .ok (.aload_n 0, 1) := by decide +kernel
theorem zd_M_measured_11 : decode zc_M_measured 11 = .ok (.getfield 13, 3) := by decide +kernel
theorem zd_M_measured_14 : decode zc_M_measured 14 = .ok (.iload_n 1, 1) := by decide +kernel
theorem zd_M_measured_15 : decode zc_M_measured 15 = .ok (.iconst 1, 1) := by decide +kernel
theorem zd_M_measured_16 : decode zc_M_measured 16 = .ok (.bastore, 1) := by decide +kernel
theorem zd_M_measured_17 : decode zc_M_measured 17 = .ok (.aload_n 0, 1) := by decide +kernel
theorem zd_M_measured_18 : decode zc_M_measured 18 = .ok (.getfield 17, 3) := by decide +kernel
theorem zd_M_measured_21 : decode zc_M_measured 21 = .ok (.iload_n 1, 1) := by decide +kernel
theorem zd_M_measured_22 : decode zc_M_measured 22 = .ok (.iload_n 2, 1) := by decide +kernel
theorem zd_M_measured_23 : decode zc_M_measured 23 = .ok (.iastore, 1) := by decide +kernel
theorem zd_M_measured_24 : decode zc_M_measured 24 = .ok (.iconst 1, 1) := by decide +kernel
theorem zd_M_measured_25 : decode zc_M_measured 25 = .ok (.ireturn, 1) := by decide +kernel
theorem zd_M_alarming_0 : decode zc_M_alarming 0 = .ok (.iconst 0, 1) := by decide +kernel
theorem zd_M_alarming_1 : decode zc_M_alarming 1 = .ok (.istore_n 2, 1) := by decide +kernel
theorem zd_M_alarming_2 : decode zc_M_alarming 2 = .ok (.iload_n 2, 1) := by decide +kernel
theorem zd_M_alarming_3 : decode zc_M_alarming 3 = .ok (.iconst 4, 1) := by decide +kernel
theorem zd_M_alarming_4 : decode zc_M_alarming 4 = .ok (.if_icmp .ge 69, 3) := by decide +kernel
theorem zd_M_alarming_7 : decode zc_M_alarming 7 = .ok (.aload_n 0, 1) := by decide +kernel
theorem zd_M_alarming_8 : decode zc_M_alarming 8 = .ok (.getfield 13, 3) := by decide +kernel
theorem zd_M_alarming_11 : decode zc_M_alarming 11 = .ok (.iload_n 1, 1) := by decide +kernel
theorem zd_M_alarming_12 : decode zc_M_alarming 12 = .ok (.baload, 1) := by decide +kernel
theorem zd_M_alarming_13 : decode zc_M_alarming 13 = .ok (.ifCond .eq 54, 3) := by decide +kernel
theorem zd_M_alarming_16 : decode zc_M_alarming 16 = .ok (.aload_n 0, 1) := by decide +kernel
theorem zd_M_alarming_17 : decode zc_M_alarming 17 = .ok (.getfield 92, 3) := by decide +kernel
theorem zd_M_alarming_20 : decode zc_M_alarming 20 = .ok (.iload_n 2, 1) := by decide +kernel
theorem zd_M_alarming_21 : decode zc_M_alarming 21 = .ok (.baload, 1) := by decide +kernel
theorem zd_M_alarming_22 : decode zc_M_alarming 22 = .ok (.ifCond .eq 45, 3) := by decide +kernel
theorem zd_M_alarming_25 : decode zc_M_alarming 25 = .ok (.aload_n 0, 1) := by decide +kernel
theorem zd_M_alarming_26 : decode zc_M_alarming 26 = .ok (.getfield 7, 3) := by decide +kernel
theorem zd_M_alarming_29 : decode zc_M_alarming 29 = .ok (.iload_n 2, 1) := by decide +kernel
theorem zd_M_alarming_30 : decode zc_M_alarming 30 = .ok (.iaload, 1) := by decide +kernel
theorem zd_M_alarming_31 : decode zc_M_alarming 31 = .ok (.iload_n 1, 1) := by decide +kernel
theorem zd_M_alarming_32 : decode zc_M_alarming 32 = .ok (.if_icmp .ne 35, 3) := by decide +kernel
theorem zd_M_alarming_35 : decode zc_M_alarming 35 = .ok (.aload_n 0, 1) := by decide +kernel
theorem zd_M_alarming_36 : decode zc_M_alarming 36 = .ok (.getfield 17, 3) := by decide +kernel
theorem zd_M_alarming_39 : decode zc_M_alarming 39 = .ok (.iload_n 1, 1) := by decide +kernel
theorem zd_M_alarming_40 : decode zc_M_alarming 40 = .ok (.iaload, 1) := by decide +kernel
theorem zd_M_alarming_41 : decode zc_M_alarming 41 = .ok (.aload_n 0, 1) := by decide +kernel
theorem zd_M_alarming_42 : decode zc_M_alarming 42 = .ok (.getfield 95, 3) := by decide +kernel
theorem zd_M_alarming_45 : decode zc_M_alarming 45 = .ok (.iload_n 2, 1) := by decide +kernel
theorem zd_M_alarming_46 : decode zc_M_alarming 46 = .ok (.iaload, 1) := by decide +kernel
theorem zd_M_alarming_47 : decode zc_M_alarming 47 = .ok (.if_icmp .lt 18, 3) := by decide +kernel
theorem zd_M_alarming_50 : decode zc_M_alarming 50 = .ok (.aload_n 0, 1) := by decide +kernel
theorem zd_M_alarming_51 : decode zc_M_alarming 51 = .ok (.getfield 17, 3) := by decide +kernel
theorem zd_M_alarming_54 : decode zc_M_alarming 54 = .ok (.iload_n 1, 1) := by decide +kernel
theorem zd_M_alarming_55 : decode zc_M_alarming 55 = .ok (.iaload, 1) := by decide +kernel
theorem zd_M_alarming_56 : decode zc_M_alarming 56 = .ok (.aload_n 0, 1) := by decide +kernel
theorem zd_M_alarming_57 : decode zc_M_alarming 57 = .ok (.getfield 98, 3) := by decide +kernel
theorem zd_M_alarming_60 : decode zc_M_alarming 60 = .ok (.iload_n 2, 1) := by decide +kernel
theorem zd_M_alarming_61 : decode zc_M_alarming 61 = .ok (.iaload, 1) := by decide +kernel
theorem zd_M_alarming_62 : decode zc_M_alarming 62 = .ok (.if_icmp .le 5, 3) := by decide +kernel
theorem zd_M_alarming_65 : decode zc_M_alarming 65 = .ok (.iconst 1, 1) := by decide +kernel
theorem zd_M_alarming_66 : decode zc_M_alarming 66 = .ok (.ireturn, 1) := by decide +kernel
theorem zd_M_alarming_67 : decode zc_M_alarming 67 = .ok (.iinc 2 1, 3) := by decide +kernel
theorem zd_M_alarming_70 : decode zc_M_alarming 70 = .ok (.goto (-68), 3) := by decide +kernel
theorem zd_M_alarming_73 : decode zc_M_alarming 73 = .ok (.iconst 0, 1) := by decide +kernel
theorem zd_M_alarming_74 : decode zc_M_alarming 74 = .ok (.ireturn, 1) := by decide +kernel
theorem zd_M_alarm_0 : decode zc_M_alarm 0 = .ok (.iconst 0, 1) := by decide +kernel
theorem zd_M_alarm_1 : decode zc_M_alarm 1 = .ok (.istore_n 2, 1) := by decide +kernel
theorem zd_M_alarm_2 : decode zc_M_alarm 2 = .ok (.iconst 0, 1) := by decide +kernel
theorem zd_M_alarm_3 : decode zc_M_alarm 3 = .ok (.istore_n 3, 1) := by decide +kernel
theorem zd_M_alarm_4 : decode zc_M_alarm 4 = .ok (.iload_n 3, 1) := by decide +kernel
theorem zd_M_alarm_5 : decode zc_M_alarm 5 = .ok (.iconst 3, 1) := by decide +kernel
theorem zd_M_alarm_6 : decode zc_M_alarm 6 = .ok (.if_icmp .ge 27, 3) := by decide +kernel
theorem zd_M_alarm_9 : decode zc_M_alarm 9 = .ok (.aload_n 0, 1) := by decide +kernel
theorem zd_M_alarm_10 : decode zc_M_alarm 10 = .ok (.iload_n 3, 1) := by decide +kernel
theorem zd_M_alarm_11 : decode zc_M_alarm 11 = .ok (.invokevirtual 199, 3) := by decide +kernel
theorem zd_M_alarm_14 : decode zc_M_alarm 14 = .ok (.ifCond .eq 13, 3) := by decide +kernel
theorem zd_M_alarm_17 : decode zc_M_alarm 17 = .ok (.iload_n 2, 1) := by decide +kernel
theorem zd_M_alarm_18 : decode zc_M_alarm 18 = .ok (.iload_n 1, 1) := by decide +kernel
theorem zd_M_alarm_19 : decode zc_M_alarm 19 = .ok (.if_icmp .ne 5, 3) := by decide +kernel
theorem zd_M_alarm_22 : decode zc_M_alarm 22 = .ok (.iload_n 3, 1) := by decide +kernel
theorem zd_M_alarm_23 : decode zc_M_alarm 23 = .ok (.ireturn, 1) := by decide +kernel
theorem zd_M_alarm_24 : decode zc_M_alarm 24 = .ok (.iinc 2 1, 3) := by decide +kernel
theorem zd_M_alarm_27 : decode zc_M_alarm 27 = .ok (.iinc 3 1, 3) := by decide +kernel
theorem zd_M_alarm_30 : decode zc_M_alarm 30 = .ok (.goto (-26), 3) := by decide +kernel
theorem zd_M_alarm_33 : decode zc_M_alarm 33 = .ok (.iconst (-1), 1) := by decide +kernel
theorem zd_M_alarm_34 : decode zc_M_alarm 34 = .ok (.ireturn, 1) := by decide +kernel
