theorem zd_X_lie_0 : decode zc_X_lie 0 = .ok (.iload_n 1, 1) := by decide +kernel
theorem zd_X_lie_1 : decode zc_X_lie 1 = .ok (.invokestatic 157, 3) := by decide +kernel
theorem zd_X_lie_4 : decode zc_X_lie 4 = .ok (.ifCond .eq 23, 3) := by decide +kernel
theorem zd_X_lie_7 : decode zc_X_lie 7 = .ok (.aload_n 0, 1) := by decide +kernel
theorem zd_X_lie_8 : decode zc_X_lie 8 = .ok (.getfield 29, 3) := by decide +kernel
theorem zd_X_lie_11 : decode zc_X_lie 11 = .ok (.iload_n 1, 1) := by decide +kernel
theorem zd_X_lie_12 : decode zc_X_lie 12 = .ok (.aaload, 1) := by decide +kernel
theorem zd_X_lie_13 : decode zc_X_lie 13 = .ok (.getfield 160, 3) := by decide +kernel
theorem zd_X_lie_16 : decode zc_X_lie 16 = .ok (.ifCond .ne 11, 3) := by decide +kernel
theorem zd_X_lie_19 : decode zc_X_lie 19 = .ok (.aload_n 0, 1) := by decide +kernel
theorem zd_X_lie_20 : decode zc_X_lie 20 = .ok (.invokevirtual 163, 3) := by decide +kernel
theorem zd_X_lie_23 : decode zc_X_lie 23 = .ok (.iconst 2, 1) := by decide +kernel
theorem zd_X_lie_24 : decode zc_X_lie 24 = .ok (.if_icmp .lt 5, 3) := by decide +kernel
theorem zd_X_lie_27 : decode zc_X_lie 27 = .ok (.iconst 0, 1) := by decide +kernel
theorem zd_X_lie_28 : decode zc_X_lie 28 = .ok (.ireturn, 1) := by decide +kernel
theorem zd_X_lie_29 : decode zc_X_lie 29 = .ok (.aload_n 0, 1) := by decide +kernel
theorem zd_X_lie_30 : decode zc_X_lie 30 = .ok (.getfield 29, 3) := by decide +kernel
theorem zd_X_lie_33 : decode zc_X_lie 33 = .ok (.iload_n 1, 1) := by decide +kernel
theorem zd_X_lie_34 : decode zc_X_lie 34 = .ok (.aaload, 1) := by decide +kernel
theorem zd_X_lie_35 : decode zc_X_lie 35 = .ok (.iconst 1, 1) := by decide +kernel
theorem zd_X_lie_36 : decode zc_X_lie 36 = .ok (.putfield 160, 3) := by decide +kernel
theorem zd_X_lie_39 : decode zc_X_lie 39 = .ok (.iconst 1, 1) := by decide +kernel
theorem zd_X_lie_40 : decode zc_X_lie 40 = .ok (.ireturn, 1) := by decide +kernel
theorem zd_X_tell_0 : decode zc_X_tell 0 = .ok (.aload_n 0, 1) := by decide +kernel
theorem zd_X_tell_1 : decode zc_X_tell 1 = .ok (.iload_n 1, 1) := by decide +kernel
theorem zd_X_tell_2 : decode zc_X_tell 2 = .ok (.invokevirtual 167, 3) := by decide +kernel
theorem zd_X_tell_5 : decode zc_X_tell 5 = .ok (.ifCond .eq 22, 3) := by decide +kernel
theorem zd_X_tell_8 : decode zc_X_tell 8 = .ok (.iload_n 2, 1) := by decide +kernel
theorem zd_X_tell_9 : decode zc_X_tell 9 = .ok (.invokestatic 98, 3) := by decide +kernel
theorem zd_X_tell_12 : decode zc_X_tell 12 = .ok (.ifCond .eq 15, 3) := by decide +kernel
theorem zd_X_tell_15 : decode zc_X_tell 15 = .ok (.aload_n 0, 1) := by decide +kernel
theorem zd_X_tell_16 : decode zc_X_tell 16 = .ok (.getfield 45, 3) := by decide +kernel
theorem zd_X_tell_19 : decode zc_X_tell 19 = .ok (.iload_n 2, 1) := by decide +kernel
theorem zd_X_tell_20 : decode zc_X_tell 20 = .ok (.aaload, 1) := by decide +kernel
theorem zd_X_tell_21 : decode zc_X_tell 21 = .ok (.invokevirtual 101, 3) := by decide +kernel
theorem zd_X_tell_24 : decode zc_X_tell 24 = .ok (.ifCond .ne 5, 3) := by decide +kernel
theorem zd_X_tell_27 : decode zc_X_tell 27 = .ok (.iconst 0, 1) := by decide +kernel
theorem zd_X_tell_28 : decode zc_X_tell 28 = .ok (.ireturn, 1) := by decide +kernel
theorem zd_X_tell_29 : decode zc_X_tell 29 = .ok (.iload_n 3, 1) := by decide +kernel
theorem zd_X_tell_30 : decode zc_X_tell 30 = .ok (.ifCond .lt 10, 3) := by decide +kernel
theorem zd_X_tell_33 : decode zc_X_tell 33 = .ok (.iload 4, 2) := by decide +kernel
theorem zd_X_tell_35 : decode zc_X_tell 35 = .ok (.iload 5, 2) := by decide +kernel
theorem zd_X_tell_37 : decode zc_X_tell 37 = .ok (.if_icmp .le 5, 3) := by decide +kernel
theorem zd_X_tell_40 : decode zc_X_tell 40 = .ok (.iconst 0, 1) := by decide +kernel
theorem zd_X_tell_41 : decode zc_X_tell 41 = .ok (.ireturn, 1) := by decide +kernel
theorem zd_X_tell_42 : decode zc_X_tell 42 = .ok (.aload_n 0, 1) := by decide +kernel
theorem zd_X_tell_43 : decode zc_X_tell 43 = .ok (.getfield 45, 3) := by decide +kernel
theorem zd_X_tell_46 : decode zc_X_tell 46 = .ok (.iload_n 2, 1) := by decide +kernel
theorem zd_X_tell_47 : decode zc_X_tell 47 = .ok (.aaload, 1) := by decide +kernel
theorem zd_X_tell_48 : decode zc_X_tell 48 = .ok (.astore 6, 2) := by decide +kernel
theorem zd_X_tell_50 : decode zc_X_tell 50 = .ok (.aload_n 0, 1) := by decide +kernel
theorem zd_X_tell_51 : decode zc_X_tell 51 = .ok (.getfield 53, 3) := by decide +kernel
theorem zd_X_tell_54 : decode zc_X_tell 54 = .ok (.iconst 4, 1) := by decide +kernel
theorem zd_X_tell_55 : decode zc_X_tell 55 = .ok (.iload_n 1, 1) := by decide +kernel
theorem zd_X_tell_56 : decode zc_X_tell 56 = .ok (.aload 6, 2) := by decide +kernel
theorem zd_X_tell_58 : decode zc_X_tell 58 = .ok (.getfield 170, 3) := by decide +kernel
theorem zd_X_tell_61 : decode zc_X_tell 61 = .ok (.iload_n 2, 1) := by decide +kernel
theorem zd_X_tell_62 : decode zc_X_tell 62 = .ok (.aload 6, 2) := by decide +kernel
theorem zd_X_tell_64 : decode zc_X_tell 64 = .ok (.getfield 111, 3) := by decide +kernel
theorem zd_X_tell_67 : decode zc_X_tell 67 = .ok (.new 22, 3) := by decide +kernel
theorem zd_X_tell_70 : decode zc_X_tell 70 = .ok (.dup, 1) := by decide +kernel
theorem zd_X_tell_71 : decode zc_X_tell 71 = .ok (.iload_n 3, 1) := by decide +kernel
theorem zd_X_tell_72 : decode zc_X_tell 72 = .ok (.iload 4, 2) := by decide +kernel
theorem zd_X_tell_74 : decode zc_X_tell 74 = .ok (.iload 5, 2) := by decide +kernel
theorem zd_X_tell_76 : decode zc_X_tell 76 = .ok (.invokespecial 24, 3) := by decide +kernel
theorem zd_X_tell_79 : decode zc_X_tell 79 = .ok (.invokevirtual 153, 3) := by decide +kernel
theorem zd_X_tell_82 : decode zc_X_tell 82 = .ok (.iconst 1, 1) := by decide +kernel
theorem zd_X_tell_83 : decode zc_X_tell 83 = .ok (.ireturn, 1) := by decide +kernel
theorem zd_X_receipt_0 : decode zc_X_receipt 0 = .ok (.aload_n 0, 1) := by decide +kernel
theorem zd_X_receipt_1 : decode zc_X_receipt 1 = .ok (.iload_n 1, 1) := by decide +kernel
theorem zd_X_receipt_2 : decode zc_X_receipt 2 = .ok (.invokevirtual 167, 3) := by decide +kernel
theorem zd_X_receipt_5 : decode zc_X_receipt 5 = .ok (.ifCond .eq 25, 3) := by decide +kernel
theorem zd_X_receipt_8 : decode zc_X_receipt 8 = .ok (.iload_n 2, 1) := by decide +kernel
theorem zd_X_receipt_9 : decode zc_X_receipt 9 = .ok (.invokestatic 72, 3) := by decide +kernel
theorem zd_X_receipt_12 : decode zc_X_receipt 12 = .ok (.ifCond .eq 18, 3) := by decide +kernel
theorem zd_X_receipt_15 : decode zc_X_receipt 15 = .ok (.aload_n 0, 1) := by decide +kernel
theorem zd_X_receipt_16 : decode zc_X_receipt 16 = .ok (.getfield 38, 3) := by decide +kernel
theorem zd_X_receipt_19 : decode zc_X_receipt 19 = .ok (.iload_n 2, 1) := by decide +kernel
theorem zd_X_receipt_20 : decode zc_X_receipt 20 = .ok (.aaload, 1) := by decide +kernel
theorem zd_X_receipt_21 : decode zc_X_receipt 21 = .ok (.getfield 91, 3) := by decide +kernel
theorem zd_X_receipt_24 : decode zc_X_receipt 24 = .ok (.getfield 95, 3) := by decide +kernel
theorem zd_X_receipt_27 : decode zc_X_receipt 27 = .ok (.ifCond .ne 5, 3) := by decide +kernel
theorem zd_X_receipt_30 : decode zc_X_receipt 30 = .ok (.iconst 0, 1) := by decide +kernel
theorem zd_X_receipt_31 : decode zc_X_receipt 31 = .ok (.ireturn, 1) := by decide +kernel
theorem zd_X_receipt_32 : decode zc_X_receipt 32 = .ok (.aload_n 0, 1) := by decide +kernel
theorem zd_X_receipt_33 : decode zc_X_receipt 33 = .ok (.getfield 53, 3) := by decide +kernel
theorem zd_X_receipt_36 : decode zc_X_receipt 36 = .ok (.iconst 2, 1) := by decide +kernel
theorem zd_X_receipt_37 : decode zc_X_receipt 37 = .ok (.iload_n 1, 1) := by decide +kernel
theorem zd_X_receipt_38 : decode zc_X_receipt 38 = .ok (.iload_n 2, 1) := by decide +kernel
theorem zd_X_receipt_39 : decode zc_X_receipt 39 = .ok (.iconst (-1), 1) := by decide +kernel
theorem zd_X_receipt_40 : decode zc_X_receipt 40 = .ok (.aload_n 0, 1) := by decide +kernel
theorem zd_X_receipt_41 : decode zc_X_receipt 41 = .ok (.getfield 38, 3) := by decide +kernel
theorem zd_X_receipt_44 : decode zc_X_receipt 44 = .ok (.iload_n 2, 1) := by decide +kernel
theorem zd_X_receipt_45 : decode zc_X_receipt 45 = .ok (.aaload, 1) := by decide +kernel
theorem zd_X_receipt_46 : decode zc_X_receipt 46 = .ok (.getfield 91, 3) := by decide +kernel
theorem zd_X_receipt_49 : decode zc_X_receipt 49 = .ok (.getfield 95, 3) := by decide +kernel
theorem zd_X_receipt_52 : decode zc_X_receipt 52 = .ok (.aconst_null, 1) := by decide +kernel
theorem zd_X_receipt_53 : decode zc_X_receipt 53 = .ok (.invokevirtual 153, 3) := by decide +kernel
theorem zd_X_receipt_56 : decode zc_X_receipt 56 = .ok (.iconst 1, 1) := by decide +kernel
theorem zd_X_receipt_57 : decode zc_X_receipt 57 = .ok (.ireturn, 1) := by decide +kernel
theorem zd_X_crash_0 : decode zc_X_crash 0 = .ok (.iload_n 1, 1) := by decide +kernel
theorem zd_X_crash_1 : decode zc_X_crash 1 = .ok (.invokestatic 157, 3) := by decide +kernel
theorem zd_X_crash_4 : decode zc_X_crash 4 = .ok (.ifCond .eq 15, 3) := by decide +kernel
theorem zd_X_crash_7 : decode zc_X_crash 7 = .ok (.aload_n 0, 1) := by decide +kernel
theorem zd_X_crash_8 : decode zc_X_crash 8 = .ok (.getfield 29, 3) := by decide +kernel
theorem zd_X_crash_11 : decode zc_X_crash 11 = .ok (.iload_n 1, 1) := by decide +kernel
theorem zd_X_crash_12 : decode zc_X_crash 12 = .ok (.aaload, 1) := by decide +kernel
theorem zd_X_crash_13 : decode zc_X_crash 13 = .ok (.getfield 171, 3) := by decide +kernel
theorem zd_X_crash_16 : decode zc_X_crash 16 = .ok (.ifCond .ne 5, 3) := by decide +kernel
theorem zd_X_crash_19 : decode zc_X_crash 19 = .ok (.iconst 0, 1) := by decide +kernel
theorem zd_X_crash_20 : decode zc_X_crash 20 = .ok (.ireturn, 1) := by decide +kernel
theorem zd_X_crash_21 : decode zc_X_crash 21 = .ok (.aload_n 0, 1) := by decide +kernel
theorem zd_X_crash_22 : decode zc_X_crash 22 = .ok (.getfield 29, 3) := by decide +kernel
theorem zd_X_crash_25 : decode zc_X_crash 25 = .ok (.iload_n 1, 1) := by decide +kernel
theorem zd_X_crash_26 : decode zc_X_crash 26 = .ok (.aaload, 1) := by decide +kernel
theorem zd_X_crash_27 : decode zc_X_crash 27 = .ok (.iconst 0, 1) := by decide +kernel
theorem zd_X_crash_28 : decode zc_X_crash 28 = .ok (.putfield 171, 3) := by decide +kernel
theorem zd_X_crash_31 : decode zc_X_crash 31 = .ok (.iconst 1, 1) := by decide +kernel
theorem zd_X_crash_32 : decode zc_X_crash 32 = .ok (.ireturn, 1) := by decide +kernel
theorem zd_X_restart_0 : decode zc_X_restart 0 = .ok (.iload_n 1, 1) := by decide +kernel
theorem zd_X_restart_1 : decode zc_X_restart 1 = .ok (.invokestatic 157, 3) := by decide +kernel
theorem zd_X_restart_4 : decode zc_X_restart 4 = .ok (.ifCond .eq 15, 3) := by decide +kernel
theorem zd_X_restart_7 : decode zc_X_restart 7 = .ok (.aload_n 0, 1) := by decide +kernel
theorem zd_X_restart_8 : decode zc_X_restart 8 = .ok (.getfield 29, 3) := by decide +kernel
theorem zd_X_restart_11 : decode zc_X_restart 11 = .ok (.iload_n 1, 1) := by decide +kernel
theorem zd_X_restart_12 : decode zc_X_restart 12 = .ok (.aaload, 1) := by decide +kernel
theorem zd_X_restart_13 : decode zc_X_restart 13 = .ok (.getfield 171, 3) := by decide +kernel
theorem zd_X_restart_16 : decode zc_X_restart 16 = .ok (.ifCond .eq 5, 3) := by decide +kernel
theorem zd_X_restart_19 : decode zc_X_restart 19 = .ok (.iconst 0, 1) := by decide +kernel
theorem zd_X_restart_20 : decode zc_X_restart 20 = .ok (.ireturn, 1) := by decide +kernel
theorem zd_X_restart_21 : decode zc_X_restart 21 = .ok (.aload_n 0, 1) := by decide +kernel
theorem zd_X_restart_22 : decode zc_X_restart 22 = .ok (.getfield 29, 3) := by decide +kernel
theorem zd_X_restart_25 : decode zc_X_restart 25 = .ok (.iload_n 1, 1) := by decide +kernel
theorem zd_X_restart_26 : decode zc_X_restart 26 = .ok (.aaload, 1) := by decide +kernel
theorem zd_X_restart_27 : decode zc_X_restart 27 = .ok (.iconst 1, 1) := by decide +kernel
theorem zd_X_restart_28 : decode zc_X_restart 28 = .ok (.putfield 171, 3) := by decide +kernel
theorem zd_X_restart_31 : decode zc_X_restart 31 = .ok (.iconst 1, 1) := by decide +kernel
theorem zd_X_restart_32 : decode zc_X_restart 32 = .ok (.ireturn, 1) := by decide +kernel
theorem zd_X_forget_0 : decode zc_X_forget 0 = .ok (.iload_n 1, 1) := by decide +kernel
theorem zd_X_forget_1 : decode zc_X_forget 1 = .ok (.invokestatic 72, 3) := by decide +kernel
theorem zd_X_forget_4 : decode zc_X_forget 4 = .ok (.ifCond .ne 5, 3) := by decide +kernel
theorem zd_X_forget_7 : decode zc_X_forget 7 = .ok (.iconst 0, 1) := by decide +kernel
theorem zd_X_forget_8 : decode zc_X_forget 8 = .ok (.ireturn, 1) := by decide +kernel
theorem zd_X_forget_9 : decode zc_X_forget 9 = .ok (.aload_n 0, 1) := by decide +kernel
theorem zd_X_forget_10 : decode zc_X_forget 10 = .ok (.getfield 38, 3) := by decide +kernel
theorem zd_X_forget_13 : decode zc_X_forget 13 = .ok (.iload_n 1, 1) := by decide +kernel
theorem zd_X_forget_14 : decode zc_X_forget 14 = .ok (.aaload, 1) := by decide +kernel
theorem zd_X_forget_15 : decode zc_X_forget 15 = .ok (.invokevirtual 174, 3) := by decide +kernel
theorem zd_X_forget_18 : decode zc_X_forget 18 = .ok (.iconst 1, 1) := by decide +kernel
theorem zd_X_forget_19 : decode zc_X_forget 19 = .ok (.ireturn, 1) := by decide +kernel
theorem zd_X_outcome_0 : decode zc_X_outcome 0 = .ok (.iload_n 1, 1) := by decide +kernel
theorem zd_X_outcome_1 : decode zc_X_outcome 1 = .ok (.invokestatic 98, 3) := by decide +kernel
theorem zd_X_outcome_4 : decode zc_X_outcome 4 = .ok (.ifCond .eq 15, 3) := by decide +kernel
theorem zd_X_outcome_7 : decode zc_X_outcome 7 = .ok (.aload_n 0, 1) := by decide +kernel
theorem zd_X_outcome_8 : decode zc_X_outcome 8 = .ok (.getfield 45, 3) := by decide +kernel
theorem zd_X_outcome_11 : decode zc_X_outcome 11 = .ok (.iload_n 1, 1) := by decide +kernel
theorem zd_X_outcome_12 : decode zc_X_outcome 12 = .ok (.aaload, 1) := by decide +kernel
theorem zd_X_outcome_13 : decode zc_X_outcome 13 = .ok (.getfield 177, 3) := by decide +kernel
theorem zd_X_outcome_16 : decode zc_X_outcome 16 = .ok (.goto 4, 3) := by decide +kernel
theorem zd_X_outcome_19 : decode zc_X_outcome 19 = .ok (.iconst (-1), 1) := by decide +kernel
theorem zd_X_outcome_20 : decode zc_X_outcome 20 = .ok (.ireturn, 1) := by decide +kernel
theorem zd_X_answered_0 : decode zc_X_answered 0 = .ok (.iload_n 1, 1) := by decide +kernel
theorem zd_X_answered_1 : decode zc_X_answered 1 = .ok (.invokestatic 98, 3) := by decide +kernel
theorem zd_X_answered_4 : decode zc_X_answered 4 = .ok (.ifCond .eq 15, 3) := by decide +kernel
theorem zd_X_answered_7 : decode zc_X_answered 7 = .ok (.aload_n 0, 1) := by decide +kernel
theorem zd_X_answered_8 : decode zc_X_answered 8 = .ok (.getfield 45, 3) := by decide +kernel
theorem zd_X_answered_11 : decode zc_X_answered 11 = .ok (.iload_n 1, 1) := by decide +kernel
theorem zd_X_answered_12 : decode zc_X_answered 12 = .ok (.aaload, 1) := by decide +kernel
theorem zd_X_answered_13 : decode zc_X_answered 13 = .ok (.getfield 180, 3) := by decide +kernel
theorem zd_X_answered_16 : decode zc_X_answered 16 = .ok (.ifnonnull 5, 3) := by decide +kernel
theorem zd_X_answered_19 : decode zc_X_answered 19 = .ok (.iconst (-1), 1) := by decide +kernel
theorem zd_X_answered_20 : decode zc_X_answered 20 = .ok (.ireturn, 1) := by decide +kernel
theorem zd_X_answered_21 : decode zc_X_answered 21 = .ok (.iload_n 2, 1) := by decide +kernel
theorem zd_X_answered_22 : decode zc_X_answered 22 = .ok (.ifCond .ne 13, 3) := by decide +kernel
theorem zd_X_answered_25 : decode zc_X_answered 25 = .ok (.aload_n 0, 1) := by decide +kernel
theorem zd_X_answered_26 : decode zc_X_answered 26 = .ok (.getfield 45, 3) := by decide +kernel
theorem zd_X_answered_29 : decode zc_X_answered 29 = .ok (.iload_n 1, 1) := by decide +kernel
theorem zd_X_answered_30 : decode zc_X_answered 30 = .ok (.aaload, 1) := by decide +kernel
theorem zd_X_answered_31 : decode zc_X_answered 31 = .ok (.getfield 183, 3) := by decide +kernel
theorem zd_X_answered_34 : decode zc_X_answered 34 = .ok (.ireturn, 1) := by decide +kernel
theorem zd_X_answered_35 : decode zc_X_answered 35 = .ok (.aload_n 0, 1) := by decide +kernel
theorem zd_X_answered_36 : decode zc_X_answered 36 = .ok (.getfield 45, 3) := by decide +kernel
theorem zd_X_answered_39 : decode zc_X_answered 39 = .ok (.iload_n 1, 1) := by decide +kernel
theorem zd_X_answered_40 : decode zc_X_answered 40 = .ok (.aaload, 1) := by decide +kernel
theorem zd_X_answered_41 : decode zc_X_answered 41 = .ok (.getfield 180, 3) := by decide +kernel
theorem zd_X_answered_44 : decode zc_X_answered 44 = .ok (.iload_n 2, 1) := by decide +kernel
theorem zd_X_answered_45 : decode zc_X_answered 45 = .ok (.iconst 1, 1) := by decide +kernel
theorem zd_X_answered_46 : decode zc_X_answered 46 = .ok (.isub, 1) := by decide +kernel
theorem zd_X_answered_47 : decode zc_X_answered 47 = .ok (.invokevirtual 186, 3) := by decide +kernel
theorem zd_X_answered_50 : decode zc_X_answered 50 = .ok (.ireturn, 1) := by decide +kernel
theorem zd_X_reader_0 : decode zc_X_reader 0 = .ok (.iload_n 1, 1) := by decide +kernel
theorem zd_X_reader_1 : decode zc_X_reader 1 = .ok (.invokestatic 98, 3) := by decide +kernel
theorem zd_X_reader_4 : decode zc_X_reader 4 = .ok (.ifCond .ne 5, 3) := by decide +kernel
theorem zd_X_reader_7 : decode zc_X_reader 7 = .ok (.iconst (-1), 1) := by decide +kernel
theorem zd_X_reader_8 : decode zc_X_reader 8 = .ok (.ireturn, 1) := by decide +kernel
theorem zd_X_reader_9 : decode zc_X_reader 9 = .ok (.aload_n 0, 1) := by decide +kernel
theorem zd_X_reader_10 : decode zc_X_reader 10 = .ok (.getfield 45, 3) := by decide +kernel
theorem zd_X_reader_13 : decode zc_X_reader 13 = .ok (.iload_n 1, 1) := by decide +kernel
theorem zd_X_reader_14 : decode zc_X_reader 14 = .ok (.aaload, 1) := by decide +kernel
theorem zd_X_reader_15 : decode zc_X_reader 15 = .ok (.astore_n 3, 1) := by decide +kernel
theorem zd_X_reader_16 : decode zc_X_reader 16 = .ok (.iload_n 2, 1) := by decide +kernel
theorem zd_X_reader_17 : decode zc_X_reader 17 = .ok (.tableswitch 64 0 2 #[27, 32, 48], 27) := by decide +kernel
theorem zd_X_reader_44 : decode zc_X_reader 44 = .ok (.aload_n 3, 1) := by decide +kernel
theorem zd_X_reader_45 : decode zc_X_reader 45 = .ok (.getfield 111, 3) := by decide +kernel
theorem zd_X_reader_48 : decode zc_X_reader 48 = .ok (.ireturn, 1) := by decide +kernel
theorem zd_X_reader_49 : decode zc_X_reader 49 = .ok (.aload_n 3, 1) := by decide +kernel
theorem zd_X_reader_50 : decode zc_X_reader 50 = .ok (.invokevirtual 101, 3) := by decide +kernel
theorem zd_X_reader_53 : decode zc_X_reader 53 = .ok (.ifCond .eq 10, 3) := by decide +kernel
theorem zd_X_reader_56 : decode zc_X_reader 56 = .ok (.aload_n 3, 1) := by decide +kernel
theorem zd_X_reader_57 : decode zc_X_reader 57 = .ok (.getfield 189, 3) := by decide +kernel
theorem zd_X_reader_60 : decode zc_X_reader 60 = .ok (.goto 4, 3) := by decide +kernel
theorem zd_X_reader_63 : decode zc_X_reader 63 = .ok (.iconst 0, 1) := by decide +kernel
theorem zd_X_reader_64 : decode zc_X_reader 64 = .ok (.ireturn, 1) := by decide +kernel
theorem zd_X_reader_65 : decode zc_X_reader 65 = .ok (.aload_n 3, 1) := by decide +kernel
theorem zd_X_reader_66 : decode zc_X_reader 66 = .ok (.invokevirtual 101, 3) := by decide +kernel
theorem zd_X_reader_69 : decode zc_X_reader 69 = .ok (.ifCond .eq 10, 3) := by decide +kernel
theorem zd_X_reader_72 : decode zc_X_reader 72 = .ok (.aload_n 3, 1) := by decide +kernel
theorem zd_X_reader_73 : decode zc_X_reader 73 = .ok (.getfield 192, 3) := by decide +kernel
theorem zd_X_reader_76 : decode zc_X_reader 76 = .ok (.goto 4, 3) := by decide +kernel
theorem zd_X_reader_79 : decode zc_X_reader 79 = .ok (.iconst 0, 1) := by decide +kernel
theorem zd_X_reader_80 : decode zc_X_reader 80 = .ok (.ireturn, 1) := by decide +kernel
theorem zd_X_reader_81 : decode zc_X_reader 81 = .ok (.iconst (-1), 1) := by decide +kernel
theorem zd_X_reader_82 : decode zc_X_reader 82 = .ok (.ireturn, 1) := by decide +kernel
theorem zd_X_writer_0 : decode zc_X_writer 0 = .ok (.iload_n 1, 1) := by decide +kernel
theorem zd_X_writer_1 : decode zc_X_writer 1 = .ok (.invokestatic 72, 3) := by decide +kernel
theorem zd_X_writer_4 : decode zc_X_writer 4 = .ok (.ifCond .ne 5, 3) := by decide +kernel
theorem zd_X_writer_7 : decode zc_X_writer 7 = .ok (.iconst (-1), 1) := by decide +kernel
theorem zd_X_writer_8 : decode zc_X_writer 8 = .ok (.ireturn, 1) := by decide +kernel
theorem zd_X_writer_9 : decode zc_X_writer 9 = .ok (.aload_n 0, 1) := by decide +kernel
theorem zd_X_writer_10 : decode zc_X_writer 10 = .ok (.getfield 38, 3) := by decide +kernel
theorem zd_X_writer_13 : decode zc_X_writer 13 = .ok (.iload_n 1, 1) := by decide +kernel
theorem zd_X_writer_14 : decode zc_X_writer 14 = .ok (.aaload, 1) := by decide +kernel
theorem zd_X_writer_15 : decode zc_X_writer 15 = .ok (.astore_n 3, 1) := by decide +kernel
theorem zd_X_writer_16 : decode zc_X_writer 16 = .ok (.iload_n 2, 1) := by decide +kernel
theorem zd_X_writer_17 : decode zc_X_writer 17 = .ok (.tableswitch 62 0 3 #[31, 39, 52, 57], 31) := by decide +kernel
theorem zd_X_writer_48 : decode zc_X_writer 48 = .ok (.aload_n 3, 1) := by decide +kernel
theorem zd_X_writer_49 : decode zc_X_writer 49 = .ok (.getfield 91, 3) := by decide +kernel
theorem zd_X_writer_52 : decode zc_X_writer 52 = .ok (.getfield 95, 3) := by decide +kernel
theorem zd_X_writer_55 : decode zc_X_writer 55 = .ok (.ireturn, 1) := by decide +kernel
theorem zd_X_writer_56 : decode zc_X_writer 56 = .ok (.aload_n 3, 1) := by decide +kernel
theorem zd_X_writer_57 : decode zc_X_writer 57 = .ok (.getfield 79, 3) := by decide +kernel
theorem zd_X_writer_60 : decode zc_X_writer 60 = .ok (.ifCond .eq 7, 3) := by decide +kernel
theorem zd_X_writer_63 : decode zc_X_writer 63 = .ok (.iconst 1, 1) := by decide +kernel
theorem zd_X_writer_64 : decode zc_X_writer 64 = .ok (.goto 4, 3) := by decide +kernel
theorem zd_X_writer_67 : decode zc_X_writer 67 = .ok (.iconst 0, 1) := by decide +kernel
theorem zd_X_writer_68 : decode zc_X_writer 68 = .ok (.ireturn, 1) := by decide +kernel
theorem zd_X_writer_69 : decode zc_X_writer 69 = .ok (.aload_n 3, 1) := by decide +kernel
theorem zd_X_writer_70 : decode zc_X_writer 70 = .ok (.getfield 195, 3) := by decide +kernel
theorem zd_X_writer_73 : decode zc_X_writer 73 = .ok (.ireturn, 1) := by decide +kernel
theorem zd_X_writer_74 : decode zc_X_writer 74 = .ok (.aload_n 3, 1) := by decide +kernel
theorem zd_X_writer_75 : decode zc_X_writer 75 = .ok (.getfield 198, 3) := by decide +kernel
theorem zd_X_writer_78 : decode zc_X_writer 78 = .ok (.ireturn, 1) := by decide +kernel
theorem zd_X_writer_79 : decode zc_X_writer 79 = .ok (.iconst (-1), 1) := by decide +kernel
theorem zd_X_writer_80 : decode zc_X_writer 80 = .ok (.ireturn, 1) := by decide +kernel
theorem zd_X_held_0 : decode zc_X_held 0 = .ok (.iload_n 1, 1) := by decide +kernel
theorem zd_X_held_1 : decode zc_X_held 1 = .ok (.invokestatic 157, 3) := by decide +kernel
theorem zd_X_held_4 : decode zc_X_held 4 = .ok (.ifCond .eq 10, 3) := by decide +kernel
theorem zd_X_held_7 : decode zc_X_held 7 = .ok (.iload_n 2, 1) := by decide +kernel
theorem zd_X_held_8 : decode zc_X_held 8 = .ok (.invokestatic 72, 3) := by decide +kernel
theorem zd_X_held_11 : decode zc_X_held 11 = .ok (.ifCond .ne 5, 3) := by decide +kernel
theorem zd_X_held_14 : decode zc_X_held 14 = .ok (.iconst (-1), 1) := by decide +kernel
theorem zd_X_held_15 : decode zc_X_held 15 = .ok (.ireturn, 1) := by decide +kernel
theorem zd_X_held_16 : decode zc_X_held 16 = .ok (.aload_n 0, 1) := by decide +kernel
theorem zd_X_held_17 : decode zc_X_held 17 = .ok (.getfield 29, 3) := by decide +kernel
theorem zd_X_held_20 : decode zc_X_held 20 = .ok (.iload_n 1, 1) := by decide +kernel
theorem zd_X_held_21 : decode zc_X_held 21 = .ok (.aaload, 1) := by decide +kernel
theorem zd_X_held_22 : decode zc_X_held 22 = .ok (.getfield 201, 3) := by decide +kernel
theorem zd_X_held_25 : decode zc_X_held 25 = .ok (.iload_n 2, 1) := by decide +kernel
theorem zd_X_held_26 : decode zc_X_held 26 = .ok (.aaload, 1) := by decide +kernel
theorem zd_X_held_27 : decode zc_X_held 27 = .ok (.iload_n 3, 1) := by decide +kernel
theorem zd_X_held_28 : decode zc_X_held 28 = .ok (.invokevirtual 186, 3) := by decide +kernel
theorem zd_X_held_31 : decode zc_X_held 31 = .ok (.ireturn, 1) := by decide +kernel
theorem zd_X_measured_0 : decode zc_X_measured 0 = .ok (.iload_n 1, 1) := by decide +kernel
theorem zd_X_measured_1 : decode zc_X_measured 1 = .ok (.invokestatic 76, 3) := by decide +kernel
theorem zd_X_measured_4 : decode zc_X_measured 4 = .ok (.ifCond .ne 5, 3) := by decide +kernel
theorem zd_X_measured_7 : decode zc_X_measured 7 = .ok (.iconst 0, 1) := by decide +kernel
theorem zd_X_measured_8 : decode zc_X_measured 8 = .ok (.ireturn, 1) := by decide +kernel
theorem zd_X_measured_9 : decode zc_X_measured 9 = .ok (.aload_n 0, 1) := by decide +kernel
theorem zd_X_measured_10 : decode zc_X_measured 10 = .ok (.getfield 65, 3) := by decide +kernel
theorem zd_X_measured_13 : decode zc_X_measured 13 = .ok (.iload_n 1, 1) := by decide +kernel
theorem zd_X_measured_14 : decode zc_X_measured 14 = .ok (.iconst 1, 1) := by decide +kernel
theorem zd_X_measured_15 : decode zc_X_measured 15 = .ok (.bastore, 1) := by decide +kernel
theorem zd_X_measured_16 : decode zc_X_measured 16 = .ok (.aload_n 0, 1) := by decide +kernel
theorem zd_X_measured_17 : decode zc_X_measured 17 = .ok (.getfield 69, 3) := by decide +kernel
theorem zd_X_measured_20 : decode zc_X_measured 20 = .ok (.iload_n 1, 1) := by decide +kernel
theorem zd_X_measured_21 : decode zc_X_measured 21 = .ok (.iload_n 2, 1) := by decide +kernel
theorem zd_X_measured_22 : decode zc_X_measured 22 = .ok (.iastore, 1) := by decide +kernel
theorem zd_X_measured_23 : decode zc_X_measured 23 = .ok (.iconst 1, 1) := by decide +kernel
theorem zd_X_measured_24 : decode zc_X_measured 24 = .ok (.ireturn, 1) := by decide +kernel
theorem zd_X_alarm_0 : decode zc_X_alarm 0 = .ok (.iconst 0, 1) := by decide +kernel
theorem zd_X_alarm_1 : decode zc_X_alarm 1 = .ok (.istore_n 2, 1) := by decide +kernel
theorem zd_X_alarm_2 : decode zc_X_alarm 2 = .ok (.iconst 0, 1) := by decide +kernel
theorem zd_X_alarm_3 : decode zc_X_alarm 3 = .ok (.istore_n 3, 1) := by decide +kernel
theorem zd_X_alarm_4 : decode zc_X_alarm 4 = .ok (.iload_n 3, 1) := by decide +kernel
theorem zd_X_alarm_5 : decode zc_X_alarm 5 = .ok (.iconst 3, 1) := by decide +kernel
theorem zd_X_alarm_6 : decode zc_X_alarm 6 = .ok (.if_icmp .ge 27, 3) := by decide +kernel
theorem zd_X_alarm_9 : decode zc_X_alarm 9 = .ok (.aload_n 0, 1) := by decide +kernel
theorem zd_X_alarm_10 : decode zc_X_alarm 10 = .ok (.iload_n 3, 1) := by decide +kernel
theorem zd_X_alarm_11 : decode zc_X_alarm 11 = .ok (.invokevirtual 204, 3) := by decide +kernel
theorem zd_X_alarm_14 : decode zc_X_alarm 14 = .ok (.ifCond .eq 13, 3) := by decide +kernel
theorem zd_X_alarm_17 : decode zc_X_alarm 17 = .ok (.iload_n 2, 1) := by decide +kernel
theorem zd_X_alarm_18 : decode zc_X_alarm 18 = .ok (.iload_n 1, 1) := by decide +kernel
theorem zd_X_alarm_19 : decode zc_X_alarm 19 = .ok (.if_icmp .ne 5, 3) := by decide +kernel
theorem zd_X_alarm_22 : decode zc_X_alarm 22 = .ok (.iload_n 3, 1) := by decide +kernel
theorem zd_X_alarm_23 : decode zc_X_alarm 23 = .ok (.ireturn, 1) := by decide +kernel
theorem zd_X_alarm_24 : decode zc_X_alarm 24 = .ok (.iinc 2 1, 3) := by decide +kernel
theorem zd_X_alarm_27 : decode zc_X_alarm 27 = .ok (.iinc 3 1, 3) := by decide +kernel
theorem zd_X_alarm_30 : decode zc_X_alarm 30 = .ok (.goto (-26), 3) := by decide +kernel
theorem zd_X_alarm_33 : decode zc_X_alarm 33 = .ok (.iconst (-1), 1) := by decide +kernel
theorem zd_X_alarm_34 : decode zc_X_alarm 34 = .ok (.ireturn, 1) := by decide +kernel
theorem zd_X_isPoint_0 : decode zc_X_isPoint 0 = .ok (.iload_n 0, 1) := by decide +kernel
theorem zd_X_isPoint_1 : decode zc_X_isPoint 1 = .ok (.ifCond .lt 12, 3) := by decide +kernel
theorem zd_X_isPoint_4 : decode zc_X_isPoint 4 = .ok (.iload_n 0, 1) := by decide +kernel
theorem zd_X_isPoint_5 : decode zc_X_isPoint 5 = .ok (.iconst 4, 1) := by decide +kernel
theorem zd_X_isPoint_6 : decode zc_X_isPoint 6 = .ok (.if_icmp .ge 7, 3) := by decide +kernel
theorem zd_X_isPoint_9 : decode zc_X_isPoint 9 = .ok (.iconst 1, 1) := by decide +kernel
theorem zd_X_isPoint_10 : decode zc_X_isPoint 10 = .ok (.goto 4, 3) := by decide +kernel
theorem zd_X_isPoint_13 : decode zc_X_isPoint 13 = .ok (.iconst 0, 1) := by decide +kernel
theorem zd_X_isPoint_14 : decode zc_X_isPoint 14 = .ok (.ireturn, 1) := by decide +kernel
theorem zd_X_isRecorder_0 : decode zc_X_isRecorder 0 = .ok (.iload_n 0, 1) := by decide +kernel
theorem zd_X_isRecorder_1 : decode zc_X_isRecorder 1 = .ok (.ifCond .lt 13, 3) := by decide +kernel
theorem zd_X_isRecorder_4 : decode zc_X_isRecorder 4 = .ok (.iload_n 0, 1) := by decide +kernel
theorem zd_X_isRecorder_5 : decode zc_X_isRecorder 5 = .ok (.bipush 9, 2) := by decide +kernel
theorem zd_X_isRecorder_7 : decode zc_X_isRecorder 7 = .ok (.if_icmp .ge 7, 3) := by decide +kernel
theorem zd_X_isRecorder_10 : decode zc_X_isRecorder 10 = .ok (.iconst 1, 1) := by decide +kernel
theorem zd_X_isRecorder_11 : decode zc_X_isRecorder 11 = .ok (.goto 4, 3) := by decide +kernel
theorem zd_X_isRecorder_14 : decode zc_X_isRecorder 14 = .ok (.iconst 0, 1) := by decide +kernel
theorem zd_X_isRecorder_15 : decode zc_X_isRecorder 15 = .ok (.ireturn, 1) := by decide +kernel
theorem zd_X_isReader_0 : decode zc_X_isReader 0 = .ok (.iload_n 0, 1) := by decide +kernel
theorem zd_X_isReader_1 : decode zc_X_isReader 1 = .ok (.ifCond .lt 12, 3) := by decide +kernel
theorem zd_X_isReader_4 : decode zc_X_isReader 4 = .ok (.iload_n 0, 1) := by decide +kernel
theorem zd_X_isReader_5 : decode zc_X_isReader 5 = .ok (.iconst 3, 1) := by decide +kernel
theorem zd_X_isReader_6 : decode zc_X_isReader 6 = .ok (.if_icmp .ge 7, 3) := by decide +kernel
theorem zd_X_isReader_9 : decode zc_X_isReader 9 = .ok (.iconst 1, 1) := by decide +kernel
theorem zd_X_isReader_10 : decode zc_X_isReader 10 = .ok (.goto 4, 3) := by decide +kernel
theorem zd_X_isReader_13 : decode zc_X_isReader 13 = .ok (.iconst 0, 1) := by decide +kernel
theorem zd_X_isReader_14 : decode zc_X_isReader 14 = .ok (.ireturn, 1) := by decide +kernel
theorem zd_X_isHall_0 : decode zc_X_isHall 0 = .ok (.iload_n 0, 1) := by decide +kernel
theorem zd_X_isHall_1 : decode zc_X_isHall 1 = .ok (.ifCond .lt 12, 3) := by decide +kernel
theorem zd_X_isHall_4 : decode zc_X_isHall 4 = .ok (.iload_n 0, 1) := by decide +kernel
theorem zd_X_isHall_5 : decode zc_X_isHall 5 = .ok (.iconst 3, 1) := by decide +kernel
theorem zd_X_isHall_6 : decode zc_X_isHall 6 = .ok (.if_icmp .ge 7, 3) := by decide +kernel
theorem zd_X_isHall_9 : decode zc_X_isHall 9 = .ok (.iconst 1, 1) := by decide +kernel
theorem zd_X_isHall_10 : decode zc_X_isHall 10 = .ok (.goto 4, 3) := by decide +kernel
theorem zd_X_isHall_13 : decode zc_X_isHall 13 = .ok (.iconst 0, 1) := by decide +kernel
theorem zd_X_isHall_14 : decode zc_X_isHall 14 = .ok (.ireturn, 1) := by decide +kernel
theorem zd_X_canLie_0 : decode zc_X_canLie 0 = .ok (.iload_n 1, 1) := by decide +kernel
theorem zd_X_canLie_1 : decode zc_X_canLie 1 = .ok (.invokestatic 157, 3) := by decide +kernel
theorem zd_X_canLie_4 : decode zc_X_canLie 4 = .ok (.ifCond .eq 31, 3) := by decide +kernel
theorem zd_X_canLie_7 : decode zc_X_canLie 7 = .ok (.aload_n 0, 1) := by decide +kernel
theorem zd_X_canLie_8 : decode zc_X_canLie 8 = .ok (.getfield 29, 3) := by decide +kernel
theorem zd_X_canLie_11 : decode zc_X_canLie 11 = .ok (.iload_n 1, 1) := by decide +kernel
theorem zd_X_canLie_12 : decode zc_X_canLie 12 = .ok (.aaload, 1) := by decide +kernel
theorem zd_X_canLie_13 : decode zc_X_canLie 13 = .ok (.getfield 160, 3) := by decide +kernel
theorem zd_X_canLie_16 : decode zc_X_canLie 16 = .ok (.ifCond .eq 19, 3) := by decide +kernel
theorem zd_X_canLie_19 : decode zc_X_canLie 19 = .ok (.aload_n 0, 1) := by decide +kernel
theorem zd_X_canLie_20 : decode zc_X_canLie 20 = .ok (.getfield 29, 3) := by decide +kernel
theorem zd_X_canLie_23 : decode zc_X_canLie 23 = .ok (.iload_n 1, 1) := by decide +kernel
theorem zd_X_canLie_24 : decode zc_X_canLie 24 = .ok (.aaload, 1) := by decide +kernel
theorem zd_X_canLie_25 : decode zc_X_canLie 25 = .ok (.getfield 171, 3) := by decide +kernel
theorem zd_X_canLie_28 : decode zc_X_canLie 28 = .ok (.ifCond .eq 7, 3) := by decide +kernel
theorem zd_X_canLie_31 : decode zc_X_canLie 31 = .ok (.iconst 1, 1) := by decide +kernel
theorem zd_X_canLie_32 : decode zc_X_canLie 32 = .ok (.goto 4, 3) := by decide +kernel
theorem zd_X_canLie_35 : decode zc_X_canLie 35 = .ok (.iconst 0, 1) := by decide +kernel
theorem zd_X_canLie_36 : decode zc_X_canLie 36 = .ok (.ireturn, 1) := by decide +kernel
theorem zd_X_countLiars_0 : decode zc_X_countLiars 0 = .ok (.iconst 0, 1) := by decide +kernel
theorem zd_X_countLiars_1 : decode zc_X_countLiars 1 = .ok (.istore_n 1, 1) := by decide +kernel
theorem zd_X_countLiars_2 : decode zc_X_countLiars 2 = .ok (.iconst 0, 1) := by decide +kernel
theorem zd_X_countLiars_3 : decode zc_X_countLiars 3 = .ok (.istore_n 2, 1) := by decide +kernel
theorem zd_X_countLiars_4 : decode zc_X_countLiars 4 = .ok (.iload_n 2, 1) := by decide +kernel
theorem zd_X_countLiars_5 : decode zc_X_countLiars 5 = .ok (.bipush 9, 2) := by decide +kernel
theorem zd_X_countLiars_7 : decode zc_X_countLiars 7 = .ok (.if_icmp .ge 24, 3) := by decide +kernel
theorem zd_X_countLiars_10 : decode zc_X_countLiars 10 = .ok (.aload_n 0, 1) := by decide +kernel
theorem zd_X_countLiars_11 : decode zc_X_countLiars 11 = .ok (.getfield 29, 3) := by decide +kernel
theorem zd_X_countLiars_14 : decode zc_X_countLiars 14 = .ok (.iload_n 2, 1) := by decide +kernel
theorem zd_X_countLiars_15 : decode zc_X_countLiars 15 = .ok (.aaload, 1) := by decide +kernel
theorem zd_X_countLiars_16 : decode zc_X_countLiars 16 = .ok (.getfield 160, 3) := by decide +kernel
theorem zd_X_countLiars_19 : decode zc_X_countLiars 19 = .ok (.ifCond .eq 6, 3) := by decide +kernel
theorem zd_X_countLiars_22 : decode zc_X_countLiars 22 = .ok (.iinc 1 1, 3) := by decide +kernel
theorem zd_X_countLiars_25 : decode zc_X_countLiars 25 = .ok (.iinc 2 1, 3) := by decide +kernel
theorem zd_X_countLiars_28 : decode zc_X_countLiars 28 = .ok (.goto (-24), 3) := by decide +kernel
theorem zd_X_countLiars_31 : decode zc_X_countLiars 31 = .ok (.iload_n 1, 1) := by decide +kernel
theorem zd_X_countLiars_32 : decode zc_X_countLiars 32 = .ok (.ireturn, 1) := by decide +kernel
