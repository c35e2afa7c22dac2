theorem zd_L_init_0 : decode zc_L_init 0 = .ok (.aload_n 0, 1) := by decide +kernel
theorem zd_L_init_1 : decode zc_L_init 1 = .ok (.invokespecial 1, 3) := by decide +kernel
theorem zd_L_init_4 : decode zc_L_init 4 = .ok (.return_, 1) := by decide +kernel
theorem zd_P_init_0 : decode zc_P_init 0 = .ok (.aload_n 0, 1) := by decide +kernel
theorem zd_P_init_1 : decode zc_P_init 1 = .ok (.invokespecial 3, 3) := by decide +kernel
theorem zd_P_init_4 : decode zc_P_init 4 = .ok (.aload_n 0, 1) := by decide +kernel
theorem zd_P_init_5 : decode zc_P_init 5 = .ok (.iload_n 1, 1) := by decide +kernel
theorem zd_P_init_6 : decode zc_P_init 6 = .ok (.putfield 9, 3) := by decide +kernel
theorem zd_P_init_9 : decode zc_P_init 9 = .ok (.aload_n 0, 1) := by decide +kernel
theorem zd_P_init_10 : decode zc_P_init 10 = .ok (.iload_n 2, 1) := by decide +kernel
theorem zd_P_init_11 : decode zc_P_init 11 = .ok (.putfield 15, 3) := by decide +kernel
theorem zd_P_init_14 : decode zc_P_init 14 = .ok (.aload_n 0, 1) := by decide +kernel
theorem zd_P_init_15 : decode zc_P_init 15 = .ok (.iload_n 3, 1) := by decide +kernel
theorem zd_P_init_16 : decode zc_P_init 16 = .ok (.putfield 18, 3) := by decide +kernel
theorem zd_P_init_19 : decode zc_P_init 19 = .ok (.return_, 1) := by decide +kernel
theorem zd_P_part_0 : decode zc_P_part 0 = .ok (.iload_n 1, 1) := by decide +kernel
theorem zd_P_part_1 : decode zc_P_part 1 = .ok (.tableswitch 42 0 2 #[27, 32, 37], 27) := by decide +kernel
theorem zd_P_part_28 : decode zc_P_part 28 = .ok (.aload_n 0, 1) := by decide +kernel
theorem zd_P_part_29 : decode zc_P_part 29 = .ok (.getfield 9, 3) := by decide +kernel
theorem zd_P_part_32 : decode zc_P_part 32 = .ok (.ireturn, 1) := by decide +kernel
theorem zd_P_part_33 : decode zc_P_part 33 = .ok (.aload_n 0, 1) := by decide +kernel
theorem zd_P_part_34 : decode zc_P_part 34 = .ok (.getfield 15, 3) := by decide +kernel
theorem zd_P_part_37 : decode zc_P_part 37 = .ok (.ireturn, 1) := by decide +kernel
theorem zd_P_part_38 : decode zc_P_part 38 = .ok (.aload_n 0, 1) := by decide +kernel
theorem zd_P_part_39 : decode zc_P_part 39 = .ok (.getfield 18, 3) := by decide +kernel
theorem zd_P_part_42 : decode zc_P_part 42 = .ok (.ireturn, 1) := by decide +kernel
theorem zd_P_part_43 : decode zc_P_part 43 = .ok (.iconst (-1), 1) := by decide +kernel
theorem zd_P_part_44 : decode zc_P_part 44 = .ok (.ireturn, 1) := by decide +kernel
theorem zd_P_spans_0 : decode zc_P_spans 0 = .ok (.aload_n 0, 1) := by decide +kernel
theorem zd_P_spans_1 : decode zc_P_spans 1 = .ok (.getfield 15, 3) := by decide +kernel
theorem zd_P_spans_4 : decode zc_P_spans 4 = .ok (.iload_n 1, 1) := by decide +kernel
theorem zd_P_spans_5 : decode zc_P_spans 5 = .ok (.if_icmp .gt 15, 3) := by decide +kernel
theorem zd_P_spans_8 : decode zc_P_spans 8 = .ok (.iload_n 1, 1) := by decide +kernel
theorem zd_P_spans_9 : decode zc_P_spans 9 = .ok (.aload_n 0, 1) := by decide +kernel
theorem zd_P_spans_10 : decode zc_P_spans 10 = .ok (.getfield 18, 3) := by decide +kernel
theorem zd_P_spans_13 : decode zc_P_spans 13 = .ok (.if_icmp .gt 7, 3) := by decide +kernel
theorem zd_P_spans_16 : decode zc_P_spans 16 = .ok (.iconst 1, 1) := by decide +kernel
theorem zd_P_spans_17 : decode zc_P_spans 17 = .ok (.goto 4, 3) := by decide +kernel
theorem zd_P_spans_20 : decode zc_P_spans 20 = .ok (.iconst 0, 1) := by decide +kernel
theorem zd_P_spans_21 : decode zc_P_spans 21 = .ok (.ireturn, 1) := by decide +kernel
theorem zd_P_isLike_0 : decode zc_P_isLike 0 = .ok (.aload_n 0, 1) := by decide +kernel
theorem zd_P_isLike_1 : decode zc_P_isLike 1 = .ok (.getfield 9, 3) := by decide +kernel
theorem zd_P_isLike_4 : decode zc_P_isLike 4 = .ok (.aload_n 1, 1) := by decide +kernel
theorem zd_P_isLike_5 : decode zc_P_isLike 5 = .ok (.getfield 9, 3) := by decide +kernel
theorem zd_P_isLike_8 : decode zc_P_isLike 8 = .ok (.if_icmp .ne 29, 3) := by decide +kernel
theorem zd_P_isLike_11 : decode zc_P_isLike 11 = .ok (.aload_n 0, 1) := by decide +kernel
theorem zd_P_isLike_12 : decode zc_P_isLike 12 = .ok (.getfield 15, 3) := by decide +kernel
theorem zd_P_isLike_15 : decode zc_P_isLike 15 = .ok (.aload_n 1, 1) := by decide +kernel
theorem zd_P_isLike_16 : decode zc_P_isLike 16 = .ok (.getfield 15, 3) := by decide +kernel
theorem zd_P_isLike_19 : decode zc_P_isLike 19 = .ok (.if_icmp .ne 18, 3) := by decide +kernel
theorem zd_P_isLike_22 : decode zc_P_isLike 22 = .ok (.aload_n 0, 1) := by decide +kernel
theorem zd_P_isLike_23 : decode zc_P_isLike 23 = .ok (.getfield 18, 3) := by decide +kernel
theorem zd_P_isLike_26 : decode zc_P_isLike 26 = .ok (.aload_n 1, 1) := by decide +kernel
theorem zd_P_isLike_27 : decode zc_P_isLike 27 = .ok (.getfield 18, 3) := by decide +kernel
theorem zd_P_isLike_30 : decode zc_P_isLike 30 = .ok (.if_icmp .ne 7, 3) := by decide +kernel
theorem zd_P_isLike_33 : decode zc_P_isLike 33 = .ok (.iconst 1, 1) := by decide +kernel
theorem zd_P_isLike_34 : decode zc_P_isLike 34 = .ok (.goto 4, 3) := by decide +kernel
theorem zd_P_isLike_37 : decode zc_P_isLike 37 = .ok (.iconst 0, 1) := by decide +kernel
theorem zd_P_isLike_38 : decode zc_P_isLike 38 = .ok (.ireturn, 1) := by decide +kernel
theorem zd_P_isPreferredTo_0 : decode zc_P_isPreferredTo 0 = .ok (.aload_n 0, 1) := by decide +kernel
theorem zd_P_isPreferredTo_1 : decode zc_P_isPreferredTo 1 = .ok (.getfield 9, 3) := by decide +kernel
theorem zd_P_isPreferredTo_4 : decode zc_P_isPreferredTo 4 = .ok (.aload_n 1, 1) := by decide +kernel
theorem zd_P_isPreferredTo_5 : decode zc_P_isPreferredTo 5 = .ok (.getfield 9, 3) := by decide +kernel
theorem zd_P_isPreferredTo_8 : decode zc_P_isPreferredTo 8 = .ok (.if_icmp .eq 20, 3) := by decide +kernel
theorem zd_P_isPreferredTo_11 : decode zc_P_isPreferredTo 11 = .ok (.aload_n 0, 1) := by decide +kernel
theorem zd_P_isPreferredTo_12 : decode zc_P_isPreferredTo 12 = .ok (.getfield 9, 3) := by decide +kernel
theorem zd_P_isPreferredTo_15 : decode zc_P_isPreferredTo 15 = .ok (.aload_n 1, 1) := by decide +kernel
theorem zd_P_isPreferredTo_16 : decode zc_P_isPreferredTo 16 = .ok (.getfield 9, 3) := by decide +kernel
theorem zd_P_isPreferredTo_19 : decode zc_P_isPreferredTo 19 = .ok (.if_icmp .le 7, 3) := by decide +kernel
theorem zd_P_isPreferredTo_22 : decode zc_P_isPreferredTo 22 = .ok (.iconst 1, 1) := by decide +kernel
theorem zd_P_isPreferredTo_23 : decode zc_P_isPreferredTo 23 = .ok (.goto 4, 3) := by decide +kernel
theorem zd_P_isPreferredTo_26 : decode zc_P_isPreferredTo 26 = .ok (.iconst 0, 1) := by decide +kernel
theorem zd_P_isPreferredTo_27 : decode zc_P_isPreferredTo 27 = .ok (.ireturn, 1) := by decide +kernel
theorem zd_P_isPreferredTo_28 : decode zc_P_isPreferredTo 28 = .ok (.aload_n 0, 1) := by decide +kernel
theorem zd_P_isPreferredTo_29 : decode zc_P_isPreferredTo 29 = .ok (.getfield 15, 3) := by decide +kernel
theorem zd_P_isPreferredTo_32 : decode zc_P_isPreferredTo 32 = .ok (.aload_n 1, 1) := by decide +kernel
theorem zd_P_isPreferredTo_33 : decode zc_P_isPreferredTo 33 = .ok (.getfield 15, 3) := by decide +kernel
theorem zd_P_isPreferredTo_36 : decode zc_P_isPreferredTo 36 = .ok (.if_icmp .eq 22, 3) := by decide +kernel
theorem zd_P_isPreferredTo_39 : decode zc_P_isPreferredTo 39 = .ok (.aload_n 0, 1) := by decide +kernel
theorem zd_P_isPreferredTo_40 : decode zc_P_isPreferredTo 40 = .ok (.getfield 15, 3) := by decide +kernel
theorem zd_P_isPreferredTo_43 : decode zc_P_isPreferredTo 43 = .ok (.aload_n 1, 1) := by decide +kernel
theorem zd_P_isPreferredTo_44 : decode zc_P_isPreferredTo 44 = .ok (.getfield 15, 3) := by decide +kernel
theorem zd_P_isPreferredTo_47 : decode zc_P_isPreferredTo 47 = .ok (.if_icmp .ge 7, 3) := by decide +kernel
theorem zd_P_isPreferredTo_50 : decode zc_P_isPreferredTo 50 = .ok (.iconst 1, 1) := by decide +kernel
theorem zd_P_isPreferredTo_51 : decode zc_P_isPreferredTo 51 = .ok (.goto 23, 3) := by decide +kernel
theorem zd_P_isPreferredTo_54 : decode zc_P_isPreferredTo 54 = .ok (.iconst 0, 1) := by decide +kernel
theorem zd_P_isPreferredTo_55 : decode zc_P_isPreferredTo 55 = .ok (.goto 19, 3) := by decide +kernel
theorem zd_P_isPreferredTo_58 : decode zc_P_isPreferredTo 58 = .ok (.aload_n 0, 1) := by decide +kernel
theorem zd_P_isPreferredTo_59 : decode zc_P_isPreferredTo 59 = .ok (.getfield 18, 3) := by decide +kernel
theorem zd_P_isPreferredTo_62 : decode zc_P_isPreferredTo 62 = .ok (.aload_n 1, 1) := by decide +kernel
theorem zd_P_isPreferredTo_63 : decode zc_P_isPreferredTo 63 = .ok (.getfield 18, 3) := by decide +kernel
theorem zd_P_isPreferredTo_66 : decode zc_P_isPreferredTo 66 = .ok (.if_icmp .ge 7, 3) := by decide +kernel
theorem zd_P_isPreferredTo_69 : decode zc_P_isPreferredTo 69 = .ok (.iconst 1, 1) := by decide +kernel
theorem zd_P_isPreferredTo_70 : decode zc_P_isPreferredTo 70 = .ok (.goto 4, 3) := by decide +kernel
theorem zd_P_isPreferredTo_73 : decode zc_P_isPreferredTo 73 = .ok (.iconst 0, 1) := by decide +kernel
theorem zd_P_isPreferredTo_74 : decode zc_P_isPreferredTo 74 = .ok (.ireturn, 1) := by decide +kernel
theorem zd_O_init_0 : decode zc_O_init 0 = .ok (.aload_n 0, 1) := by decide +kernel
theorem zd_O_init_1 : decode zc_O_init 1 = .ok (.invokespecial 3, 3) := by decide +kernel
theorem zd_O_init_4 : decode zc_O_init 4 = .ok (.aload_n 0, 1) := by decide +kernel
theorem zd_O_init_5 : decode zc_O_init 5 = .ok (.sipush 300, 3) := by decide +kernel
theorem zd_O_init_8 : decode zc_O_init 8 = .ok (.anewarray 9, 3) := by decide +kernel
theorem zd_O_init_11 : decode zc_O_init 11 = .ok (.putfield 11, 3) := by decide +kernel
theorem zd_O_init_14 : decode zc_O_init 14 = .ok (.iconst 0, 1) := by decide +kernel
theorem zd_O_init_15 : decode zc_O_init 15 = .ok (.istore_n 1, 1) := by decide +kernel
theorem zd_O_init_16 : decode zc_O_init 16 = .ok (.iload_n 1, 1) := by decide +kernel
theorem zd_O_init_17 : decode zc_O_init 17 = .ok (.sipush 300, 3) := by decide +kernel
theorem zd_O_init_20 : decode zc_O_init 20 = .ok (.if_icmp .ge 22, 3) := by decide +kernel
theorem zd_O_init_23 : decode zc_O_init 23 = .ok (.aload_n 0, 1) := by decide +kernel
theorem zd_O_init_24 : decode zc_O_init 24 = .ok (.getfield 11, 3) := by decide +kernel
theorem zd_O_init_27 : decode zc_O_init 27 = .ok (.iload_n 1, 1) := by decide +kernel
theorem zd_O_init_28 : decode zc_O_init 28 = .ok (.new 9, 3) := by decide +kernel
theorem zd_O_init_31 : decode zc_O_init 31 = .ok (.dup, 1) := by decide +kernel
theorem zd_O_init_32 : decode zc_O_init 32 = .ok (.invokespecial 17, 3) := by decide +kernel
theorem zd_O_init_35 : decode zc_O_init 35 = .ok (.aastore, 1) := by decide +kernel
theorem zd_O_init_36 : decode zc_O_init 36 = .ok (.iinc 1 1, 3) := by decide +kernel
theorem zd_O_init_39 : decode zc_O_init 39 = .ok (.goto (-23), 3) := by decide +kernel
theorem zd_O_init_42 : decode zc_O_init 42 = .ok (.return_, 1) := by decide +kernel
theorem zd_O_has_0 : decode zc_O_has 0 = .ok (.iload_n 1, 1) := by decide +kernel
theorem zd_O_has_1 : decode zc_O_has 1 = .ok (.ifCond .lt 15, 3) := by decide +kernel
theorem zd_O_has_4 : decode zc_O_has 4 = .ok (.iload_n 1, 1) := by decide +kernel
theorem zd_O_has_5 : decode zc_O_has 5 = .ok (.aload_n 0, 1) := by decide +kernel
theorem zd_O_has_6 : decode zc_O_has 6 = .ok (.getfield 18, 3) := by decide +kernel
theorem zd_O_has_9 : decode zc_O_has 9 = .ok (.if_icmp .ge 7, 3) := by decide +kernel
theorem zd_O_has_12 : decode zc_O_has 12 = .ok (.iconst 1, 1) := by decide +kernel
theorem zd_O_has_13 : decode zc_O_has 13 = .ok (.goto 4, 3) := by decide +kernel
theorem zd_O_has_16 : decode zc_O_has 16 = .ok (.iconst 0, 1) := by decide +kernel
theorem zd_O_has_17 : decode zc_O_has 17 = .ok (.ireturn, 1) := by decide +kernel
theorem zd_O_isFull_0 : decode zc_O_isFull 0 = .ok (.aload_n 0, 1) := by decide +kernel
theorem zd_O_isFull_1 : decode zc_O_isFull 1 = .ok (.getfield 18, 3) := by decide +kernel
theorem zd_O_isFull_4 : decode zc_O_isFull 4 = .ok (.sipush 300, 3) := by decide +kernel
theorem zd_O_isFull_7 : decode zc_O_isFull 7 = .ok (.if_icmp .lt 7, 3) := by decide +kernel
theorem zd_O_isFull_10 : decode zc_O_isFull 10 = .ok (.iconst 1, 1) := by decide +kernel
theorem zd_O_isFull_11 : decode zc_O_isFull 11 = .ok (.goto 4, 3) := by decide +kernel
theorem zd_O_isFull_14 : decode zc_O_isFull 14 = .ok (.iconst 0, 1) := by decide +kernel
theorem zd_O_isFull_15 : decode zc_O_isFull 15 = .ok (.ireturn, 1) := by decide +kernel
theorem zd_O_send_0 : decode zc_O_send 0 = .ok (.aload_n 0, 1) := by decide +kernel
theorem zd_O_send_1 : decode zc_O_send 1 = .ok (.invokevirtual 22, 3) := by decide +kernel
theorem zd_O_send_4 : decode zc_O_send 4 = .ok (.ifCond .eq 4, 3) := by decide +kernel
theorem zd_O_send_7 : decode zc_O_send 7 = .ok (.return_, 1) := by decide +kernel
theorem zd_O_send_8 : decode zc_O_send 8 = .ok (.aload_n 0, 1) := by decide +kernel
theorem zd_O_send_9 : decode zc_O_send 9 = .ok (.getfield 11, 3) := by decide +kernel
theorem zd_O_send_12 : decode zc_O_send 12 = .ok (.aload_n 0, 1) := by decide +kernel
theorem zd_O_send_13 : decode zc_O_send 13 = .ok (.getfield 18, 3) := by decide +kernel
theorem zd_O_send_16 : decode zc_O_send 16 = .ok (.aaload, 1) := by decide +kernel
theorem zd_O_send_17 : decode zc_O_send 17 = .ok (.astore 7, 2) := by decide +kernel
theorem zd_O_send_19 : decode zc_O_send 19 = .ok (.aload 7, 2) := by decide +kernel
theorem zd_O_send_21 : decode zc_O_send 21 = .ok (.iload_n 1, 1) := by decide +kernel
theorem zd_O_send_22 : decode zc_O_send 22 = .ok (.putfield 26, 3) := by decide +kernel
theorem zd_O_send_25 : decode zc_O_send 25 = .ok (.aload 7, 2) := by decide +kernel
theorem zd_O_send_27 : decode zc_O_send 27 = .ok (.iload_n 2, 1) := by decide +kernel
theorem zd_O_send_28 : decode zc_O_send 28 = .ok (.putfield 29, 3) := by decide +kernel
theorem zd_O_send_31 : decode zc_O_send 31 = .ok (.aload 7, 2) := by decide +kernel
theorem zd_O_send_33 : decode zc_O_send 33 = .ok (.iload_n 3, 1) := by decide +kernel
theorem zd_O_send_34 : decode zc_O_send 34 = .ok (.putfield 32, 3) := by decide +kernel
theorem zd_O_send_37 : decode zc_O_send 37 = .ok (.aload 7, 2) := by decide +kernel
theorem zd_O_send_39 : decode zc_O_send 39 = .ok (.iload 4, 2) := by decide +kernel
theorem zd_O_send_41 : decode zc_O_send 41 = .ok (.putfield 35, 3) := by decide +kernel
theorem zd_O_send_44 : decode zc_O_send 44 = .ok (.aload 7, 2) := by decide +kernel
theorem zd_O_send_46 : decode zc_O_send 46 = .ok (.iload 5, 2) := by decide +kernel
theorem zd_O_send_48 : decode zc_O_send 48 = .ok (.putfield 38, 3) := by decide +kernel
theorem zd_O_send_51 : decode zc_O_send 51 = .ok (.aload 7, 2) := by decide +kernel
theorem zd_O_send_53 : decode zc_O_send 53 = .ok (.aload 6, 2) := by decide +kernel
theorem zd_O_send_55 : decode zc_O_send 55 = .ok (.putfield 41, 3) := by decide +kernel
theorem zd_O_send_58 : decode zc_O_send 58 = .ok (.aload_n 0, 1) := by decide +kernel
theorem zd_O_send_59 : decode zc_O_send 59 = .ok (.dup, 1) := by decide +kernel
theorem zd_O_send_60 : decode zc_O_send 60 = .ok (.getfield 18, 3) := by decide +kernel
theorem zd_O_send_63 : decode zc_O_send 63 = .ok (.iconst 1, 1) := by decide +kernel
theorem zd_O_send_64 : decode zc_O_send 64 = .ok (.iadd, 1) := by decide +kernel
theorem zd_O_send_65 : decode zc_O_send 65 = .ok (.putfield 18, 3) := by decide +kernel
theorem zd_O_send_68 : decode zc_O_send 68 = .ok (.return_, 1) := by decide +kernel
theorem zd_O_take_0 : decode zc_O_take 0 = .ok (.aload_n 0, 1) := by decide +kernel
theorem zd_O_take_1 : decode zc_O_take 1 = .ok (.getfield 11, 3) := by decide +kernel
theorem zd_O_take_4 : decode zc_O_take 4 = .ok (.iload_n 1, 1) := by decide +kernel
theorem zd_O_take_5 : decode zc_O_take 5 = .ok (.aaload, 1) := by decide +kernel
theorem zd_O_take_6 : decode zc_O_take 6 = .ok (.astore_n 2, 1) := by decide +kernel
theorem zd_O_take_7 : decode zc_O_take 7 = .ok (.aload_n 0, 1) := by decide +kernel
theorem zd_O_take_8 : decode zc_O_take 8 = .ok (.dup, 1) := by decide +kernel
theorem zd_O_take_9 : decode zc_O_take 9 = .ok (.getfield 18, 3) := by decide +kernel
theorem zd_O_take_12 : decode zc_O_take 12 = .ok (.iconst 1, 1) := by decide +kernel
theorem zd_O_take_13 : decode zc_O_take 13 = .ok (.isub, 1) := by decide +kernel
theorem zd_O_take_14 : decode zc_O_take 14 = .ok (.putfield 18, 3) := by decide +kernel
theorem zd_O_take_17 : decode zc_O_take 17 = .ok (.iload_n 1, 1) := by decide +kernel
theorem zd_O_take_18 : decode zc_O_take 18 = .ok (.istore_n 3, 1) := by decide +kernel
theorem zd_O_take_19 : decode zc_O_take 19 = .ok (.iload_n 3, 1) := by decide +kernel
theorem zd_O_take_20 : decode zc_O_take 20 = .ok (.aload_n 0, 1) := by decide +kernel
theorem zd_O_take_21 : decode zc_O_take 21 = .ok (.getfield 18, 3) := by decide +kernel
theorem zd_O_take_24 : decode zc_O_take 24 = .ok (.if_icmp .ge 23, 3) := by decide +kernel
theorem zd_O_take_27 : decode zc_O_take 27 = .ok (.aload_n 0, 1) := by decide +kernel
theorem zd_O_take_28 : decode zc_O_take 28 = .ok (.getfield 11, 3) := by decide +kernel
theorem zd_O_take_31 : decode zc_O_take 31 = .ok (.iload_n 3, 1) := by decide +kernel
theorem zd_O_take_32 : decode zc_O_take 32 = .ok (.aload_n 0, 1) := by decide +kernel
theorem zd_O_take_33 : decode zc_O_take 33 = .ok (.getfield 11, 3) := by decide +kernel
theorem zd_O_take_36 : decode zc_O_take 36 = .ok (.iload_n 3, 1) := by decide +kernel
theorem zd_O_take_37 : decode zc_O_take 37 = .ok (.iconst 1, 1) := by decide +kernel
theorem zd_O_take_38 : decode zc_O_take 38 = .ok (.iadd, 1) := by decide +kernel
theorem zd_O_take_39 : decode zc_O_take 39 = .ok (.aaload, 1) := by decide +kernel
theorem zd_O_take_40 : decode zc_O_take 40 = .ok (.aastore, 1) := by decide +kernel
theorem zd_O_take_41 : decode zc_O_take 41 = .ok (.iinc 3 1, 3) := by decide +kernel
theorem zd_O_take_44 : decode zc_O_take 44 = .ok (.goto (-25), 3) := by decide +kernel
theorem zd_O_take_47 : decode zc_O_take 47 = .ok (.aload_n 0, 1) := by decide +kernel
theorem zd_O_take_48 : decode zc_O_take 48 = .ok (.getfield 11, 3) := by decide +kernel
theorem zd_O_take_51 : decode zc_O_take 51 = .ok (.aload_n 0, 1) := by decide +kernel
theorem zd_O_take_52 : decode zc_O_take 52 = .ok (.getfield 18, 3) := by decide +kernel
theorem zd_O_take_55 : decode zc_O_take 55 = .ok (.aload_n 2, 1) := by decide +kernel
theorem zd_O_take_56 : decode zc_O_take 56 = .ok (.aastore, 1) := by decide +kernel
theorem zd_O_take_57 : decode zc_O_take 57 = .ok (.aload_n 2, 1) := by decide +kernel
theorem zd_O_take_58 : decode zc_O_take 58 = .ok (.areturn, 1) := by decide +kernel
theorem zd_D_init_0 : decode zc_D_init 0 = .ok (.aload_n 0, 1) := by decide +kernel
theorem zd_D_init_1 : decode zc_D_init 1 = .ok (.invokespecial 3, 3) := by decide +kernel
theorem zd_D_init_4 : decode zc_D_init 4 = .ok (.aload_n 0, 1) := by decide +kernel
theorem zd_D_init_5 : decode zc_D_init 5 = .ok (.bipush 9, 2) := by decide +kernel
theorem zd_D_init_7 : decode zc_D_init 7 = .ok (.anewarray 9, 3) := by decide +kernel
theorem zd_D_init_10 : decode zc_D_init 10 = .ok (.putfield 11, 3) := by decide +kernel
theorem zd_D_init_13 : decode zc_D_init 13 = .ok (.aload_n 0, 1) := by decide +kernel
theorem zd_D_init_14 : decode zc_D_init 14 = .ok (.iconst 4, 1) := by decide +kernel
theorem zd_D_init_15 : decode zc_D_init 15 = .ok (.anewarray 9, 3) := by decide +kernel
theorem zd_D_init_18 : decode zc_D_init 18 = .ok (.putfield 17, 3) := by decide +kernel
theorem zd_D_init_21 : decode zc_D_init 21 = .ok (.aload_n 0, 1) := by decide +kernel
theorem zd_D_init_22 : decode zc_D_init 22 = .ok (.iconst 0, 1) := by decide +kernel
theorem zd_D_init_23 : decode zc_D_init 23 = .ok (.putfield 20, 3) := by decide +kernel
theorem zd_D_init_26 : decode zc_D_init 26 = .ok (.iconst 0, 1) := by decide +kernel
theorem zd_D_init_27 : decode zc_D_init 27 = .ok (.istore_n 2, 1) := by decide +kernel
theorem zd_D_init_28 : decode zc_D_init 28 = .ok (.iload_n 2, 1) := by decide +kernel
theorem zd_D_init_29 : decode zc_D_init 29 = .ok (.iconst 4, 1) := by decide +kernel
theorem zd_D_init_30 : decode zc_D_init 30 = .ok (.if_icmp .ge 16, 3) := by decide +kernel
theorem zd_D_init_33 : decode zc_D_init 33 = .ok (.aload_n 0, 1) := by decide +kernel
theorem zd_D_init_34 : decode zc_D_init 34 = .ok (.getfield 17, 3) := by decide +kernel
theorem zd_D_init_37 : decode zc_D_init 37 = .ok (.iload_n 2, 1) := by decide +kernel
theorem zd_D_init_38 : decode zc_D_init 38 = .ok (.aload_n 1, 1) := by decide +kernel
theorem zd_D_init_39 : decode zc_D_init 39 = .ok (.aastore, 1) := by decide +kernel
theorem zd_D_init_40 : decode zc_D_init 40 = .ok (.iinc 2 1, 3) := by decide +kernel
theorem zd_D_init_43 : decode zc_D_init 43 = .ok (.goto (-15), 3) := by decide +kernel
theorem zd_D_init_46 : decode zc_D_init 46 = .ok (.return_, 1) := by decide +kernel
theorem zd_D_isReading_0 : decode zc_D_isReading 0 = .ok (.aload_n 0, 1) := by decide +kernel
theorem zd_D_isReading_1 : decode zc_D_isReading 1 = .ok (.getfield 20, 3) := by decide +kernel
theorem zd_D_isReading_4 : decode zc_D_isReading 4 = .ok (.iconst 1, 1) := by decide +kernel
theorem zd_D_isReading_5 : decode zc_D_isReading 5 = .ok (.if_icmp .ne 7, 3) := by decide +kernel
theorem zd_D_isReading_8 : decode zc_D_isReading 8 = .ok (.iconst 1, 1) := by decide +kernel
theorem zd_D_isReading_9 : decode zc_D_isReading 9 = .ok (.goto 4, 3) := by decide +kernel
theorem zd_D_isReading_12 : decode zc_D_isReading 12 = .ok (.iconst 0, 1) := by decide +kernel
theorem zd_D_isReading_13 : decode zc_D_isReading 13 = .ok (.ireturn, 1) := by decide +kernel
theorem zd_D_begin_0 : decode zc_D_begin 0 = .ok (.aload_n 0, 1) := by decide +kernel
theorem zd_D_begin_1 : decode zc_D_begin 1 = .ok (.iconst 1, 1) := by decide +kernel
theorem zd_D_begin_2 : decode zc_D_begin 2 = .ok (.putfield 20, 3) := by decide +kernel
theorem zd_D_begin_5 : decode zc_D_begin 5 = .ok (.aload_n 0, 1) := by decide +kernel
theorem zd_D_begin_6 : decode zc_D_begin 6 = .ok (.iload_n 1, 1) := by decide +kernel
theorem zd_D_begin_7 : decode zc_D_begin 7 = .ok (.putfield 24, 3) := by decide +kernel
theorem zd_D_begin_10 : decode zc_D_begin 10 = .ok (.aload_n 0, 1) := by decide +kernel
theorem zd_D_begin_11 : decode zc_D_begin 11 = .ok (.iconst 1, 1) := by decide +kernel
theorem zd_D_begin_12 : decode zc_D_begin 12 = .ok (.invokevirtual 27, 3) := by decide +kernel
theorem zd_D_begin_15 : decode zc_D_begin 15 = .ok (.return_, 1) := by decide +kernel
theorem zd_D_beginRound_0 : decode zc_D_beginRound 0 = .ok (.aload_n 0, 1) := by decide +kernel
theorem zd_D_beginRound_1 : decode zc_D_beginRound 1 = .ok (.iload_n 1, 1) := by decide +kernel
theorem zd_D_beginRound_2 : decode zc_D_beginRound 2 = .ok (.putfield 31, 3) := by decide +kernel
theorem zd_D_beginRound_5 : decode zc_D_beginRound 5 = .ok (.aload_n 0, 1) := by decide +kernel
theorem zd_D_beginRound_6 : decode zc_D_beginRound 6 = .ok (.dup, 1) := by decide +kernel
theorem zd_D_beginRound_7 : decode zc_D_beginRound 7 = .ok (.getfield 34, 3) := by decide +kernel
theorem zd_D_beginRound_10 : decode zc_D_beginRound 10 = .ok (.iconst 1, 1) := by decide +kernel
theorem zd_D_beginRound_11 : decode zc_D_beginRound 11 = .ok (.iadd, 1) := by decide +kernel
theorem zd_D_beginRound_12 : decode zc_D_beginRound 12 = .ok (.putfield 34, 3) := by decide +kernel
theorem zd_D_beginRound_15 : decode zc_D_beginRound 15 = .ok (.aload_n 0, 1) := by decide +kernel
theorem zd_D_beginRound_16 : decode zc_D_beginRound 16 = .ok (.iconst 0, 1) := by decide +kernel
theorem zd_D_beginRound_17 : decode zc_D_beginRound 17 = .ok (.putfield 37, 3) := by decide +kernel
theorem zd_D_beginRound_20 : decode zc_D_beginRound 20 = .ok (.iconst 0, 1) := by decide +kernel
theorem zd_D_beginRound_21 : decode zc_D_beginRound 21 = .ok (.istore_n 2, 1) := by decide +kernel
theorem zd_D_beginRound_22 : decode zc_D_beginRound 22 = .ok (.iload_n 2, 1) := by decide +kernel
theorem zd_D_beginRound_23 : decode zc_D_beginRound 23 = .ok (.bipush 9, 2) := by decide +kernel
theorem zd_D_beginRound_25 : decode zc_D_beginRound 25 = .ok (.if_icmp .ge 16, 3) := by decide +kernel
theorem zd_D_beginRound_28 : decode zc_D_beginRound 28 = .ok (.aload_n 0, 1) := by decide +kernel
theorem zd_D_beginRound_29 : decode zc_D_beginRound 29 = .ok (.getfield 11, 3) := by decide +kernel
theorem zd_D_beginRound_32 : decode zc_D_beginRound 32 = .ok (.iload_n 2, 1) := by decide +kernel
theorem zd_D_beginRound_33 : decode zc_D_beginRound 33 = .ok (.aconst_null, 1) := by decide +kernel
theorem zd_D_beginRound_34 : decode zc_D_beginRound 34 = .ok (.aastore, 1) := by decide +kernel
theorem zd_D_beginRound_35 : decode zc_D_beginRound 35 = .ok (.iinc 2 1, 3) := by decide +kernel
theorem zd_D_beginRound_38 : decode zc_D_beginRound 38 = .ok (.goto (-16), 3) := by decide +kernel
theorem zd_D_beginRound_41 : decode zc_D_beginRound 41 = .ok (.return_, 1) := by decide +kernel
theorem zd_D_hear_0 : decode zc_D_hear 0 = .ok (.aload_n 0, 1) := by decide +kernel
theorem zd_D_hear_1 : decode zc_D_hear 1 = .ok (.invokevirtual 40, 3) := by decide +kernel
theorem zd_D_hear_4 : decode zc_D_hear 4 = .ok (.ifCond .eq 37, 3) := by decide +kernel
theorem zd_D_hear_7 : decode zc_D_hear 7 = .ok (.iload_n 2, 1) := by decide +kernel
theorem zd_D_hear_8 : decode zc_D_hear 8 = .ok (.aload_n 0, 1) := by decide +kernel
theorem zd_D_hear_9 : decode zc_D_hear 9 = .ok (.getfield 34, 3) := by decide +kernel
theorem zd_D_hear_12 : decode zc_D_hear 12 = .ok (.if_icmp .ne 29, 3) := by decide +kernel
theorem zd_D_hear_15 : decode zc_D_hear 15 = .ok (.aload_n 0, 1) := by decide +kernel
theorem zd_D_hear_16 : decode zc_D_hear 16 = .ok (.getfield 11, 3) := by decide +kernel
theorem zd_D_hear_19 : decode zc_D_hear 19 = .ok (.iload_n 1, 1) := by decide +kernel
theorem zd_D_hear_20 : decode zc_D_hear 20 = .ok (.aaload, 1) := by decide +kernel
theorem zd_D_hear_21 : decode zc_D_hear 21 = .ok (.ifnonnull 20, 3) := by decide +kernel
theorem zd_D_hear_24 : decode zc_D_hear 24 = .ok (.aload_n 0, 1) := by decide +kernel
theorem zd_D_hear_25 : decode zc_D_hear 25 = .ok (.getfield 11, 3) := by decide +kernel
theorem zd_D_hear_28 : decode zc_D_hear 28 = .ok (.iload_n 1, 1) := by decide +kernel
theorem zd_D_hear_29 : decode zc_D_hear 29 = .ok (.aload_n 3, 1) := by decide +kernel
theorem zd_D_hear_30 : decode zc_D_hear 30 = .ok (.aastore, 1) := by decide +kernel
theorem zd_D_hear_31 : decode zc_D_hear 31 = .ok (.aload_n 0, 1) := by decide +kernel
theorem zd_D_hear_32 : decode zc_D_hear 32 = .ok (.dup, 1) := by decide +kernel
theorem zd_D_hear_33 : decode zc_D_hear 33 = .ok (.getfield 37, 3) := by decide +kernel
theorem zd_D_hear_36 : decode zc_D_hear 36 = .ok (.iconst 1, 1) := by decide +kernel
theorem zd_D_hear_37 : decode zc_D_hear 37 = .ok (.iadd, 1) := by decide +kernel
theorem zd_D_hear_38 : decode zc_D_hear 38 = .ok (.putfield 37, 3) := by decide +kernel
theorem zd_D_hear_41 : decode zc_D_hear 41 = .ok (.return_, 1) := by decide +kernel
theorem zd_D_findBelieved_0 : decode zc_D_findBelieved 0 = .ok (.aconst_null, 1) := by decide +kernel
theorem zd_D_findBelieved_1 : decode zc_D_findBelieved 1 = .ok (.astore_n 1, 1) := by decide +kernel
theorem zd_D_findBelieved_2 : decode zc_D_findBelieved 2 = .ok (.iconst 0, 1) := by decide +kernel
theorem zd_D_findBelieved_3 : decode zc_D_findBelieved 3 = .ok (.istore_n 2, 1) := by decide +kernel
theorem zd_D_findBelieved_4 : decode zc_D_findBelieved 4 = .ok (.iload_n 2, 1) := by decide +kernel
theorem zd_D_findBelieved_5 : decode zc_D_findBelieved 5 = .ok (.bipush 9, 2) := by decide +kernel
theorem zd_D_findBelieved_7 : decode zc_D_findBelieved 7 = .ok (.if_icmp .ge 43, 3) := by decide +kernel
theorem zd_D_findBelieved_10 : decode zc_D_findBelieved 10 = .ok (.aload_n 0, 1) := by decide +kernel
theorem zd_D_findBelieved_11 : decode zc_D_findBelieved 11 = .ok (.getfield 11, 3) := by decide +kernel
theorem zd_D_findBelieved_14 : decode zc_D_findBelieved 14 = .ok (.iload_n 2, 1) := by decide +kernel
theorem zd_D_findBelieved_15 : decode zc_D_findBelieved 15 = .ok (.aaload, 1) := by decide +kernel
theorem zd_D_findBelieved_16 : decode zc_D_findBelieved 16 = .ok (.astore_n 3, 1) := by decide +kernel
theorem zd_D_findBelieved_17 : decode zc_D_findBelieved 17 = .ok (.aload_n 3, 1) := by decide +kernel
theorem zd_D_findBelieved_18 : decode zc_D_findBelieved 18 = .ok (.ifnull 26, 3) := by decide +kernel
theorem zd_D_findBelieved_21 : decode zc_D_findBelieved 21 = .ok (.aload_n 0, 1) := by decide +kernel
theorem zd_D_findBelieved_22 : decode zc_D_findBelieved 22 = .ok (.aload_n 3, 1) := by decide +kernel
theorem zd_D_findBelieved_23 : decode zc_D_findBelieved 23 = .ok (.invokevirtual 44, 3) := by decide +kernel
theorem zd_D_findBelieved_26 : decode zc_D_findBelieved 26 = .ok (.iconst 3, 1) := by decide +kernel
theorem zd_D_findBelieved_27 : decode zc_D_findBelieved 27 = .ok (.if_icmp .lt 17, 3) := by decide +kernel
theorem zd_D_findBelieved_30 : decode zc_D_findBelieved 30 = .ok (.aload_n 1, 1) := by decide +kernel
theorem zd_D_findBelieved_31 : decode zc_D_findBelieved 31 = .ok (.ifnull 11, 3) := by decide +kernel
theorem zd_D_findBelieved_34 : decode zc_D_findBelieved 34 = .ok (.aload_n 3, 1) := by decide +kernel
theorem zd_D_findBelieved_35 : decode zc_D_findBelieved 35 = .ok (.aload_n 1, 1) := by decide +kernel
theorem zd_D_findBelieved_36 : decode zc_D_findBelieved 36 = .ok (.invokevirtual 48, 3) := by decide +kernel
theorem zd_D_findBelieved_39 : decode zc_D_findBelieved 39 = .ok (.ifCond .eq 5, 3) := by decide +kernel
theorem zd_D_findBelieved_42 : decode zc_D_findBelieved 42 = .ok (.aload_n 3, 1) := by decide +kernel
theorem zd_D_findBelieved_43 : decode zc_D_findBelieved 43 = .ok (.astore_n 1, 1) := by decide +kernel
theorem zd_D_findBelieved_44 : decode zc_D_findBelieved 44 = .ok (.iinc 2 1, 3) := by decide +kernel
theorem zd_D_findBelieved_47 : decode zc_D_findBelieved 47 = .ok (.goto (-43), 3) := by decide +kernel
theorem zd_D_findBelieved_50 : decode zc_D_findBelieved 50 = .ok (.aload_n 1, 1) := by decide +kernel
theorem zd_D_findBelieved_51 : decode zc_D_findBelieved 51 = .ok (.areturn, 1) := by decide +kernel
theorem zd_D_countAlike_0 : decode zc_D_countAlike 0 = .ok (.iconst 0, 1) := by decide +kernel
theorem zd_D_countAlike_1 : decode zc_D_countAlike 1 = .ok (.istore_n 2, 1) := by decide +kernel
theorem zd_D_countAlike_2 : decode zc_D_countAlike 2 = .ok (.iconst 0, 1) := by decide +kernel
theorem zd_D_countAlike_3 : decode zc_D_countAlike 3 = .ok (.istore_n 3, 1) := by decide +kernel
theorem zd_D_countAlike_4 : decode zc_D_countAlike 4 = .ok (.iload_n 3, 1) := by decide +kernel
theorem zd_D_countAlike_5 : decode zc_D_countAlike 5 = .ok (.bipush 9, 2) := by decide +kernel
theorem zd_D_countAlike_7 : decode zc_D_countAlike 7 = .ok (.if_icmp .ge 34, 3) := by decide +kernel
theorem zd_D_countAlike_10 : decode zc_D_countAlike 10 = .ok (.aload_n 0, 1) := by decide +kernel
theorem zd_D_countAlike_11 : decode zc_D_countAlike 11 = .ok (.getfield 11, 3) := by decide +kernel
theorem zd_D_countAlike_14 : decode zc_D_countAlike 14 = .ok (.iload_n 3, 1) := by decide +kernel
theorem zd_D_countAlike_15 : decode zc_D_countAlike 15 = .ok (.aaload, 1) := by decide +kernel
theorem zd_D_countAlike_16 : decode zc_D_countAlike 16 = .ok (.ifnull 19, 3) := by decide +kernel
theorem zd_D_countAlike_19 : decode zc_D_countAlike 19 = .ok (.aload_n 0, 1) := by decide +kernel
theorem zd_D_countAlike_20 : decode zc_D_countAlike 20 = .ok (.getfield 11, 3) := by decide +kernel
theorem zd_D_countAlike_23 : decode zc_D_countAlike 23 = .ok (.iload_n 3, 1) := by decide +kernel
theorem zd_D_countAlike_24 : decode zc_D_countAlike 24 = .ok (.aaload, 1) := by decide +kernel
theorem zd_D_countAlike_25 : decode zc_D_countAlike 25 = .ok (.aload_n 1, 1) := by decide +kernel
theorem zd_D_countAlike_26 : decode zc_D_countAlike 26 = .ok (.invokevirtual 52, 3) := by decide +kernel
theorem zd_D_countAlike_29 : decode zc_D_countAlike 29 = .ok (.ifCond .eq 6, 3) := by decide +kernel
theorem zd_D_countAlike_32 : decode zc_D_countAlike 32 = .ok (.iinc 2 1, 3) := by decide +kernel
theorem zd_D_countAlike_35 : decode zc_D_countAlike 35 = .ok (.iinc 3 1, 3) := by decide +kernel
theorem zd_D_countAlike_38 : decode zc_D_countAlike 38 = .ok (.goto (-34), 3) := by decide +kernel
theorem zd_D_countAlike_41 : decode zc_D_countAlike 41 = .ok (.iload_n 2, 1) := by decide +kernel
theorem zd_D_countAlike_42 : decode zc_D_countAlike 42 = .ok (.ireturn, 1) := by decide +kernel
theorem zd_D_settle_0 : decode zc_D_settle 0 = .ok (.aload_n 0, 1) := by decide +kernel
theorem zd_D_settle_1 : decode zc_D_settle 1 = .ok (.getfield 17, 3) := by decide +kernel
theorem zd_D_settle_4 : decode zc_D_settle 4 = .ok (.aload_n 0, 1) := by decide +kernel
theorem zd_D_settle_5 : decode zc_D_settle 5 = .ok (.getfield 24, 3) := by decide +kernel
theorem zd_D_settle_8 : decode zc_D_settle 8 = .ok (.aaload, 1) := by decide +kernel
theorem zd_D_settle_9 : decode zc_D_settle 9 = .ok (.astore_n 2, 1) := by decide +kernel
theorem zd_D_settle_10 : decode zc_D_settle 10 = .ok (.aload_n 0, 1) := by decide +kernel
theorem zd_D_settle_11 : decode zc_D_settle 11 = .ok (.aload_n 1, 1) := by decide +kernel
theorem zd_D_settle_12 : decode zc_D_settle 12 = .ok (.getfield 55, 3) := by decide +kernel
theorem zd_D_settle_15 : decode zc_D_settle 15 = .ok (.aload_n 2, 1) := by decide +kernel
theorem zd_D_settle_16 : decode zc_D_settle 16 = .ok (.getfield 55, 3) := by decide +kernel
theorem zd_D_settle_19 : decode zc_D_settle 19 = .ok (.if_icmp .ge 7, 3) := by decide +kernel
theorem zd_D_settle_22 : decode zc_D_settle 22 = .ok (.aload_n 2, 1) := by decide +kernel
theorem zd_D_settle_23 : decode zc_D_settle 23 = .ok (.goto 4, 3) := by decide +kernel
theorem zd_D_settle_26 : decode zc_D_settle 26 = .ok (.aload_n 1, 1) := by decide +kernel
theorem zd_D_settle_27 : decode zc_D_settle 27 = .ok (.putfield 58, 3) := by decide +kernel
theorem zd_D_settle_30 : decode zc_D_settle 30 = .ok (.aload_n 0, 1) := by decide +kernel
theorem zd_D_settle_31 : decode zc_D_settle 31 = .ok (.aload_n 0, 1) := by decide +kernel
theorem zd_D_settle_32 : decode zc_D_settle 32 = .ok (.getfield 24, 3) := by decide +kernel
theorem zd_D_settle_35 : decode zc_D_settle 35 = .ok (.putfield 62, 3) := by decide +kernel
theorem zd_D_settle_38 : decode zc_D_settle 38 = .ok (.aload_n 0, 1) := by decide +kernel
theorem zd_D_settle_39 : decode zc_D_settle 39 = .ok (.getfield 17, 3) := by decide +kernel
theorem zd_D_settle_42 : decode zc_D_settle 42 = .ok (.aload_n 0, 1) := by decide +kernel
theorem zd_D_settle_43 : decode zc_D_settle 43 = .ok (.getfield 24, 3) := by decide +kernel
theorem zd_D_settle_46 : decode zc_D_settle 46 = .ok (.aload_n 0, 1) := by decide +kernel
theorem zd_D_settle_47 : decode zc_D_settle 47 = .ok (.getfield 58, 3) := by decide +kernel
theorem zd_D_settle_50 : decode zc_D_settle 50 = .ok (.aastore, 1) := by decide +kernel
theorem zd_D_settle_51 : decode zc_D_settle 51 = .ok (.aload_n 0, 1) := by decide +kernel
theorem zd_D_settle_52 : decode zc_D_settle 52 = .ok (.iconst 2, 1) := by decide +kernel
theorem zd_D_settle_53 : decode zc_D_settle 53 = .ok (.putfield 20, 3) := by decide +kernel
theorem zd_D_settle_56 : decode zc_D_settle 56 = .ok (.return_, 1) := by decide +kernel
theorem zd_R_init_0 : decode zc_R_init 0 = .ok (.aload_n 0, 1) := by decide +kernel
theorem zd_R_init_1 : decode zc_R_init 1 = .ok (.invokespecial 3, 3) := by decide +kernel
theorem zd_R_init_4 : decode zc_R_init 4 = .ok (.aload_n 0, 1) := by decide +kernel
theorem zd_R_init_5 : decode zc_R_init 5 = .ok (.iconst 4, 1) := by decide +kernel
theorem zd_R_init_6 : decode zc_R_init 6 = .ok (.anewarray 9, 3) := by decide +kernel
theorem zd_R_init_9 : decode zc_R_init 9 = .ok (.putfield 11, 3) := by decide +kernel
theorem zd_R_init_12 : decode zc_R_init 12 = .ok (.aload_n 0, 1) := by decide +kernel
theorem zd_R_init_13 : decode zc_R_init 13 = .ok (.iconst 1, 1) := by decide +kernel
theorem zd_R_init_14 : decode zc_R_init 14 = .ok (.putfield 17, 3) := by decide +kernel
theorem zd_R_init_17 : decode zc_R_init 17 = .ok (.iconst 0, 1) := by decide +kernel
theorem zd_R_init_18 : decode zc_R_init 18 = .ok (.istore_n 2, 1) := by decide +kernel
theorem zd_R_init_19 : decode zc_R_init 19 = .ok (.iload_n 2, 1) := by decide +kernel
theorem zd_R_init_20 : decode zc_R_init 20 = .ok (.iconst 4, 1) := by decide +kernel
theorem zd_R_init_21 : decode zc_R_init 21 = .ok (.if_icmp .ge 16, 3) := by decide +kernel
theorem zd_R_init_24 : decode zc_R_init 24 = .ok (.aload_n 0, 1) := by decide +kernel
theorem zd_R_init_25 : decode zc_R_init 25 = .ok (.getfield 11, 3) := by decide +kernel
theorem zd_R_init_28 : decode zc_R_init 28 = .ok (.iload_n 2, 1) := by decide +kernel
theorem zd_R_init_29 : decode zc_R_init 29 = .ok (.aload_n 1, 1) := by decide +kernel
theorem zd_R_init_30 : decode zc_R_init 30 = .ok (.aastore, 1) := by decide +kernel
theorem zd_R_init_31 : decode zc_R_init 31 = .ok (.iinc 2 1, 3) := by decide +kernel
theorem zd_R_init_34 : decode zc_R_init 34 = .ok (.goto (-15), 3) := by decide +kernel
theorem zd_R_init_37 : decode zc_R_init 37 = .ok (.return_, 1) := by decide +kernel
theorem zd_R_heeds_0 : decode zc_R_heeds 0 = .ok (.aload_n 0, 1) := by decide +kernel
theorem zd_R_heeds_1 : decode zc_R_heeds 1 = .ok (.getfield 17, 3) := by decide +kernel
theorem zd_R_heeds_4 : decode zc_R_heeds 4 = .ok (.ifCond .eq 14, 3) := by decide +kernel
theorem zd_R_heeds_7 : decode zc_R_heeds 7 = .ok (.aload_n 0, 1) := by decide +kernel
theorem zd_R_heeds_8 : decode zc_R_heeds 8 = .ok (.getfield 21, 3) := by decide +kernel
theorem zd_R_heeds_11 : decode zc_R_heeds 11 = .ok (.ifCond .ne 7, 3) := by decide +kernel
theorem zd_R_heeds_14 : decode zc_R_heeds 14 = .ok (.iconst 1, 1) := by decide +kernel
theorem zd_R_heeds_15 : decode zc_R_heeds 15 = .ok (.goto 4, 3) := by decide +kernel
theorem zd_R_heeds_18 : decode zc_R_heeds 18 = .ok (.iconst 0, 1) := by decide +kernel
theorem zd_R_heeds_19 : decode zc_R_heeds 19 = .ok (.ireturn, 1) := by decide +kernel
