theorem dQ_init_0 : decode b_Q_init 0 = .ok (.aload_n 0, 1) := by decide +kernel
theorem dQ_init_1 : decode b_Q_init 1 = .ok (.invokespecial 3, 3) := by decide +kernel
theorem dQ_init_4 : decode b_Q_init 4 = .ok (.aload_n 0, 1) := by decide +kernel
theorem dQ_init_5 : decode b_Q_init 5 = .ok (.iload_n 1, 1) := by decide +kernel
theorem dQ_init_6 : decode b_Q_init 6 = .ok (.putfield 9, 3) := by decide +kernel
theorem dQ_init_9 : decode b_Q_init 9 = .ok (.aload_n 0, 1) := by decide +kernel
theorem dQ_init_10 : decode b_Q_init 10 = .ok (.iload_n 2, 1) := by decide +kernel
theorem dQ_init_11 : decode b_Q_init 11 = .ok (.putfield 15, 3) := by decide +kernel
theorem dQ_init_14 : decode b_Q_init 14 = .ok (.aload_n 0, 1) := by decide +kernel
theorem dQ_init_15 : decode b_Q_init 15 = .ok (.bipush 8, 2) := by decide +kernel
theorem dQ_init_17 : decode b_Q_init 17 = .ok (.anewarray 18, 3) := by decide +kernel
theorem dQ_init_20 : decode b_Q_init 20 = .ok (.putfield 20, 3) := by decide +kernel
theorem dQ_init_23 : decode b_Q_init 23 = .ok (.aload_n 0, 1) := by decide +kernel
theorem dQ_init_24 : decode b_Q_init 24 = .ok (.iconst 0, 1) := by decide +kernel
theorem dQ_init_25 : decode b_Q_init 25 = .ok (.putfield 24, 3) := by decide +kernel
theorem dQ_init_28 : decode b_Q_init 28 = .ok (.aload_n 0, 1) := by decide +kernel
theorem dQ_init_29 : decode b_Q_init 29 = .ok (.iconst 0, 1) := by decide +kernel
theorem dQ_init_30 : decode b_Q_init 30 = .ok (.putfield 27, 3) := by decide +kernel
theorem dQ_init_33 : decode b_Q_init 33 = .ok (.aload_n 0, 1) := by decide +kernel
theorem dQ_init_34 : decode b_Q_init 34 = .ok (.aconst_null, 1) := by decide +kernel
theorem dQ_init_35 : decode b_Q_init 35 = .ok (.putfield 30, 3) := by decide +kernel
theorem dQ_init_38 : decode b_Q_init 38 = .ok (.aload_n 0, 1) := by decide +kernel
theorem dQ_init_39 : decode b_Q_init 39 = .ok (.iconst 0, 1) := by decide +kernel
theorem dQ_init_40 : decode b_Q_init 40 = .ok (.putfield 34, 3) := by decide +kernel
theorem dQ_init_43 : decode b_Q_init 43 = .ok (.aload_n 0, 1) := by decide +kernel
theorem dQ_init_44 : decode b_Q_init 44 = .ok (.iconst (-1), 1) := by decide +kernel
theorem dQ_init_45 : decode b_Q_init 45 = .ok (.putfield 37, 3) := by decide +kernel
theorem dQ_init_48 : decode b_Q_init 48 = .ok (.aload_n 0, 1) := by decide +kernel
theorem dQ_init_49 : decode b_Q_init 49 = .ok (.iconst (-1), 1) := by decide +kernel
theorem dQ_init_50 : decode b_Q_init 50 = .ok (.putfield 40, 3) := by decide +kernel
theorem dQ_init_53 : decode b_Q_init 53 = .ok (.aload_n 0, 1) := by decide +kernel
theorem dQ_init_54 : decode b_Q_init 54 = .ok (.iconst (-1), 1) := by decide +kernel
theorem dQ_init_55 : decode b_Q_init 55 = .ok (.putfield 43, 3) := by decide +kernel
theorem dQ_init_58 : decode b_Q_init 58 = .ok (.return_, 1) := by decide +kernel
theorem dQ_append_0 : decode b_Q_append 0 = .ok (.aload_n 0, 1) := by decide +kernel
theorem dQ_append_1 : decode b_Q_append 1 = .ok (.getfield 24, 3) := by decide +kernel
theorem dQ_append_4 : decode b_Q_append 4 = .ok (.aload_n 0, 1) := by decide +kernel
theorem dQ_append_5 : decode b_Q_append 5 = .ok (.getfield 20, 3) := by decide +kernel
theorem dQ_append_8 : decode b_Q_append 8 = .ok (.arraylength, 1) := by decide +kernel
theorem dQ_append_9 : decode b_Q_append 9 = .ok (.if_icmp .ge 23, 3) := by decide +kernel
theorem dQ_append_12 : decode b_Q_append 12 = .ok (.aload_n 0, 1) := by decide +kernel
theorem dQ_append_13 : decode b_Q_append 13 = .ok (.getfield 20, 3) := by decide +kernel
theorem dQ_append_16 : decode b_Q_append 16 = .ok (.aload_n 0, 1) := by decide +kernel
theorem dQ_append_17 : decode b_Q_append 17 = .ok (.getfield 24, 3) := by decide +kernel
theorem dQ_append_20 : decode b_Q_append 20 = .ok (.aload_n 1, 1) := by decide +kernel
theorem dQ_append_21 : decode b_Q_append 21 = .ok (.aastore, 1) := by decide +kernel
theorem dQ_append_22 : decode b_Q_append 22 = .ok (.aload_n 0, 1) := by decide +kernel
theorem dQ_append_23 : decode b_Q_append 23 = .ok (.dup, 1) := by decide +kernel
theorem dQ_append_24 : decode b_Q_append 24 = .ok (.getfield 24, 3) := by decide +kernel
theorem dQ_append_27 : decode b_Q_append 27 = .ok (.iconst 1, 1) := by decide +kernel
theorem dQ_append_28 : decode b_Q_append 28 = .ok (.iadd, 1) := by decide +kernel
theorem dQ_append_29 : decode b_Q_append 29 = .ok (.putfield 24, 3) := by decide +kernel
theorem dQ_append_32 : decode b_Q_append 32 = .ok (.return_, 1) := by decide +kernel
theorem dQ_lenderAt_0 : decode b_Q_lenderAt 0 = .ok (.iload_n 1, 1) := by decide +kernel
theorem dQ_lenderAt_1 : decode b_Q_lenderAt 1 = .ok (.ifCond .lt 12, 3) := by decide +kernel
theorem dQ_lenderAt_4 : decode b_Q_lenderAt 4 = .ok (.iload_n 1, 1) := by decide +kernel
theorem dQ_lenderAt_5 : decode b_Q_lenderAt 5 = .ok (.aload_n 0, 1) := by decide +kernel
theorem dQ_lenderAt_6 : decode b_Q_lenderAt 6 = .ok (.getfield 20, 3) := by decide +kernel
theorem dQ_lenderAt_9 : decode b_Q_lenderAt 9 = .ok (.arraylength, 1) := by decide +kernel
theorem dQ_lenderAt_10 : decode b_Q_lenderAt 10 = .ok (.if_icmp .lt 7, 3) := by decide +kernel
theorem dQ_lenderAt_13 : decode b_Q_lenderAt 13 = .ok (.aconst_null, 1) := by decide +kernel
theorem dQ_lenderAt_14 : decode b_Q_lenderAt 14 = .ok (.goto 9, 3) := by decide +kernel
theorem dQ_lenderAt_17 : decode b_Q_lenderAt 17 = .ok (.aload_n 0, 1) := by decide +kernel
theorem dQ_lenderAt_18 : decode b_Q_lenderAt 18 = .ok (.getfield 20, 3) := by decide +kernel
theorem dQ_lenderAt_21 : decode b_Q_lenderAt 21 = .ok (.iload_n 1, 1) := by decide +kernel
theorem dQ_lenderAt_22 : decode b_Q_lenderAt 22 = .ok (.aaload, 1) := by decide +kernel
theorem dQ_lenderAt_23 : decode b_Q_lenderAt 23 = .ok (.areturn, 1) := by decide +kernel
theorem dQ_hasLender_0 : decode b_Q_hasLender 0 = .ok (.aload_n 0, 1) := by decide +kernel
theorem dQ_hasLender_1 : decode b_Q_hasLender 1 = .ok (.getfield 20, 3) := by decide +kernel
theorem dQ_hasLender_4 : decode b_Q_hasLender 4 = .ok (.astore_n 2, 1) := by decide +kernel
theorem dQ_hasLender_5 : decode b_Q_hasLender 5 = .ok (.aload_n 2, 1) := by decide +kernel
theorem dQ_hasLender_6 : decode b_Q_hasLender 6 = .ok (.arraylength, 1) := by decide +kernel
theorem dQ_hasLender_7 : decode b_Q_hasLender 7 = .ok (.istore_n 3, 1) := by decide +kernel
theorem dQ_hasLender_8 : decode b_Q_hasLender 8 = .ok (.iconst 0, 1) := by decide +kernel
theorem dQ_hasLender_9 : decode b_Q_hasLender 9 = .ok (.istore 4, 2) := by decide +kernel
theorem dQ_hasLender_11 : decode b_Q_hasLender 11 = .ok (.iload 4, 2) := by decide +kernel
theorem dQ_hasLender_13 : decode b_Q_hasLender 13 = .ok (.iload_n 3, 1) := by decide +kernel
theorem dQ_hasLender_14 : decode b_Q_hasLender 14 = .ok (.if_icmp .ge 31, 3) := by decide +kernel
theorem dQ_hasLender_17 : decode b_Q_hasLender 17 = .ok (.aload_n 2, 1) := by decide +kernel
theorem dQ_hasLender_18 : decode b_Q_hasLender 18 = .ok (.iload 4, 2) := by decide +kernel
theorem dQ_hasLender_20 : decode b_Q_hasLender 20 = .ok (.aaload, 1) := by decide +kernel
theorem dQ_hasLender_21 : decode b_Q_hasLender 21 = .ok (.astore 5, 2) := by decide +kernel
theorem dQ_hasLender_23 : decode b_Q_hasLender 23 = .ok (.aload 5, 2) := by decide +kernel
theorem dQ_hasLender_25 : decode b_Q_hasLender 25 = .ok (.ifnull 14, 3) := by decide +kernel
theorem dQ_hasLender_28 : decode b_Q_hasLender 28 = .ok (.aload 5, 2) := by decide +kernel
theorem dQ_hasLender_30 : decode b_Q_hasLender 30 = .ok (.getfield 46, 3) := by decide +kernel
theorem dQ_hasLender_33 : decode b_Q_hasLender 33 = .ok (.iload_n 1, 1) := by decide +kernel
theorem dQ_hasLender_34 : decode b_Q_hasLender 34 = .ok (.if_icmp .ne 5, 3) := by decide +kernel
theorem dQ_hasLender_37 : decode b_Q_hasLender 37 = .ok (.iconst 1, 1) := by decide +kernel
theorem dQ_hasLender_38 : decode b_Q_hasLender 38 = .ok (.ireturn, 1) := by decide +kernel
theorem dQ_hasLender_39 : decode b_Q_hasLender 39 = .ok (.iinc 4 1, 3) := by decide +kernel
theorem dQ_hasLender_42 : decode b_Q_hasLender 42 = .ok (.goto (-31), 3) := by decide +kernel
theorem dQ_hasLender_45 : decode b_Q_hasLender 45 = .ok (.iconst 0, 1) := by decide +kernel
theorem dQ_hasLender_46 : decode b_Q_hasLender 46 = .ok (.ireturn, 1) := by decide +kernel
theorem dQ_hasLenderIn_0 : decode b_Q_hasLenderIn 0 = .ok (.aload_n 0, 1) := by decide +kernel
theorem dQ_hasLenderIn_1 : decode b_Q_hasLenderIn 1 = .ok (.getfield 20, 3) := by decide +kernel
theorem dQ_hasLenderIn_4 : decode b_Q_hasLenderIn 4 = .ok (.astore_n 3, 1) := by decide +kernel
theorem dQ_hasLenderIn_5 : decode b_Q_hasLenderIn 5 = .ok (.aload_n 3, 1) := by decide +kernel
theorem dQ_hasLenderIn_6 : decode b_Q_hasLenderIn 6 = .ok (.arraylength, 1) := by decide +kernel
theorem dQ_hasLenderIn_7 : decode b_Q_hasLenderIn 7 = .ok (.istore 4, 2) := by decide +kernel
theorem dQ_hasLenderIn_9 : decode b_Q_hasLenderIn 9 = .ok (.iconst 0, 1) := by decide +kernel
theorem dQ_hasLenderIn_10 : decode b_Q_hasLenderIn 10 = .ok (.istore 5, 2) := by decide +kernel
theorem dQ_hasLenderIn_12 : decode b_Q_hasLenderIn 12 = .ok (.iload 5, 2) := by decide +kernel
theorem dQ_hasLenderIn_14 : decode b_Q_hasLenderIn 14 = .ok (.iload 4, 2) := by decide +kernel
theorem dQ_hasLenderIn_16 : decode b_Q_hasLenderIn 16 = .ok (.if_icmp .ge 40, 3) := by decide +kernel
theorem dQ_hasLenderIn_19 : decode b_Q_hasLenderIn 19 = .ok (.aload_n 3, 1) := by decide +kernel
theorem dQ_hasLenderIn_20 : decode b_Q_hasLenderIn 20 = .ok (.iload 5, 2) := by decide +kernel
theorem dQ_hasLenderIn_22 : decode b_Q_hasLenderIn 22 = .ok (.aaload, 1) := by decide +kernel
theorem dQ_hasLenderIn_23 : decode b_Q_hasLenderIn 23 = .ok (.astore 6, 2) := by decide +kernel
theorem dQ_hasLenderIn_25 : decode b_Q_hasLenderIn 25 = .ok (.aload 6, 2) := by decide +kernel
theorem dQ_hasLenderIn_27 : decode b_Q_hasLenderIn 27 = .ok (.ifnull 23, 3) := by decide +kernel
theorem dQ_hasLenderIn_30 : decode b_Q_hasLenderIn 30 = .ok (.aload 6, 2) := by decide +kernel
theorem dQ_hasLenderIn_32 : decode b_Q_hasLenderIn 32 = .ok (.getfield 46, 3) := by decide +kernel
theorem dQ_hasLenderIn_35 : decode b_Q_hasLenderIn 35 = .ok (.iload_n 1, 1) := by decide +kernel
theorem dQ_hasLenderIn_36 : decode b_Q_hasLenderIn 36 = .ok (.if_icmp .ne 14, 3) := by decide +kernel
theorem dQ_hasLenderIn_39 : decode b_Q_hasLenderIn 39 = .ok (.aload 6, 2) := by decide +kernel
theorem dQ_hasLenderIn_41 : decode b_Q_hasLenderIn 41 = .ok (.getfield 47, 3) := by decide +kernel
theorem dQ_hasLenderIn_44 : decode b_Q_hasLenderIn 44 = .ok (.iload_n 2, 1) := by decide +kernel
theorem dQ_hasLenderIn_45 : decode b_Q_hasLenderIn 45 = .ok (.if_icmp .ne 5, 3) := by decide +kernel
theorem dQ_hasLenderIn_48 : decode b_Q_hasLenderIn 48 = .ok (.iconst 1, 1) := by decide +kernel
theorem dQ_hasLenderIn_49 : decode b_Q_hasLenderIn 49 = .ok (.ireturn, 1) := by decide +kernel
theorem dQ_hasLenderIn_50 : decode b_Q_hasLenderIn 50 = .ok (.iinc 5 1, 3) := by decide +kernel
theorem dQ_hasLenderIn_53 : decode b_Q_hasLenderIn 53 = .ok (.goto (-41), 3) := by decide +kernel
theorem dQ_hasLenderIn_56 : decode b_Q_hasLenderIn 56 = .ok (.iconst 0, 1) := by decide +kernel
theorem dQ_hasLenderIn_57 : decode b_Q_hasLenderIn 57 = .ok (.ireturn, 1) := by decide +kernel
theorem dQ_mayBeCancelled_0 : decode b_Q_mayBeCancelled 0 = .ok (.aload_n 0, 1) := by decide +kernel
theorem dQ_mayBeCancelled_1 : decode b_Q_mayBeCancelled 1 = .ok (.getfield 27, 3) := by decide +kernel
theorem dQ_mayBeCancelled_4 : decode b_Q_mayBeCancelled 4 = .ok (.ifCond .eq 19, 3) := by decide +kernel
theorem dQ_mayBeCancelled_7 : decode b_Q_mayBeCancelled 7 = .ok (.aload_n 0, 1) := by decide +kernel
theorem dQ_mayBeCancelled_8 : decode b_Q_mayBeCancelled 8 = .ok (.getfield 27, 3) := by decide +kernel
theorem dQ_mayBeCancelled_11 : decode b_Q_mayBeCancelled 11 = .ok (.iconst 1, 1) := by decide +kernel
theorem dQ_mayBeCancelled_12 : decode b_Q_mayBeCancelled 12 = .ok (.if_icmp .eq 11, 3) := by decide +kernel
theorem dQ_mayBeCancelled_15 : decode b_Q_mayBeCancelled 15 = .ok (.aload_n 0, 1) := by decide +kernel
theorem dQ_mayBeCancelled_16 : decode b_Q_mayBeCancelled 16 = .ok (.getfield 27, 3) := by decide +kernel
theorem dQ_mayBeCancelled_19 : decode b_Q_mayBeCancelled 19 = .ok (.iconst 2, 1) := by decide +kernel
theorem dQ_mayBeCancelled_20 : decode b_Q_mayBeCancelled 20 = .ok (.if_icmp .ne 7, 3) := by decide +kernel
theorem dQ_mayBeCancelled_23 : decode b_Q_mayBeCancelled 23 = .ok (.iconst 1, 1) := by decide +kernel
theorem dQ_mayBeCancelled_24 : decode b_Q_mayBeCancelled 24 = .ok (.goto 4, 3) := by decide +kernel
theorem dQ_mayBeCancelled_27 : decode b_Q_mayBeCancelled 27 = .ok (.iconst 0, 1) := by decide +kernel
theorem dQ_mayBeCancelled_28 : decode b_Q_mayBeCancelled 28 = .ok (.ireturn, 1) := by decide +kernel
theorem dQ_askNext_0 : decode b_Q_askNext 0 = .ok (.aload_n 0, 1) := by decide +kernel
theorem dQ_askNext_1 : decode b_Q_askNext 1 = .ok (.aload_n 0, 1) := by decide +kernel
theorem dQ_askNext_2 : decode b_Q_askNext 2 = .ok (.invokevirtual 48, 3) := by decide +kernel
theorem dQ_askNext_5 : decode b_Q_askNext 5 = .ok (.putfield 30, 3) := by decide +kernel
theorem dQ_askNext_8 : decode b_Q_askNext 8 = .ok (.aload_n 0, 1) := by decide +kernel
theorem dQ_askNext_9 : decode b_Q_askNext 9 = .ok (.getfield 30, 3) := by decide +kernel
theorem dQ_askNext_12 : decode b_Q_askNext 12 = .ok (.ifnonnull 11, 3) := by decide +kernel
theorem dQ_askNext_15 : decode b_Q_askNext 15 = .ok (.aload_n 0, 1) := by decide +kernel
theorem dQ_askNext_16 : decode b_Q_askNext 16 = .ok (.bipush 7, 2) := by decide +kernel
theorem dQ_askNext_18 : decode b_Q_askNext 18 = .ok (.iload_n 1, 1) := by decide +kernel
theorem dQ_askNext_19 : decode b_Q_askNext 19 = .ok (.invokevirtual 52, 3) := by decide +kernel
theorem dQ_askNext_22 : decode b_Q_askNext 22 = .ok (.return_, 1) := by decide +kernel
theorem dQ_askNext_23 : decode b_Q_askNext 23 = .ok (.aload_n 0, 1) := by decide +kernel
theorem dQ_askNext_24 : decode b_Q_askNext 24 = .ok (.getfield 30, 3) := by decide +kernel
theorem dQ_askNext_27 : decode b_Q_askNext 27 = .ok (.iload_n 1, 1) := by decide +kernel
theorem dQ_askNext_28 : decode b_Q_askNext 28 = .ok (.invokevirtual 56, 3) := by decide +kernel
theorem dQ_askNext_31 : decode b_Q_askNext 31 = .ok (.aload_n 0, 1) := by decide +kernel
theorem dQ_askNext_32 : decode b_Q_askNext 32 = .ok (.iconst 1, 1) := by decide +kernel
theorem dQ_askNext_33 : decode b_Q_askNext 33 = .ok (.putfield 27, 3) := by decide +kernel
theorem dQ_askNext_36 : decode b_Q_askNext 36 = .ok (.aload_n 0, 1) := by decide +kernel
theorem dQ_askNext_37 : decode b_Q_askNext 37 = .ok (.getfield 40, 3) := by decide +kernel
theorem dQ_askNext_40 : decode b_Q_askNext 40 = .ok (.iconst (-1), 1) := by decide +kernel
theorem dQ_askNext_41 : decode b_Q_askNext 41 = .ok (.if_icmp .ne 8, 3) := by decide +kernel
theorem dQ_askNext_44 : decode b_Q_askNext 44 = .ok (.aload_n 0, 1) := by decide +kernel
theorem dQ_askNext_45 : decode b_Q_askNext 45 = .ok (.iload_n 1, 1) := by decide +kernel
theorem dQ_askNext_46 : decode b_Q_askNext 46 = .ok (.putfield 40, 3) := by decide +kernel
theorem dQ_askNext_49 : decode b_Q_askNext 49 = .ok (.return_, 1) := by decide +kernel
theorem dQ_nextUnasked_0 : decode b_Q_nextUnasked 0 = .ok (.aload_n 0, 1) := by decide +kernel
theorem dQ_nextUnasked_1 : decode b_Q_nextUnasked 1 = .ok (.getfield 20, 3) := by decide +kernel
theorem dQ_nextUnasked_4 : decode b_Q_nextUnasked 4 = .ok (.astore_n 1, 1) := by decide +kernel
theorem dQ_nextUnasked_5 : decode b_Q_nextUnasked 5 = .ok (.aload_n 1, 1) := by decide +kernel
theorem dQ_nextUnasked_6 : decode b_Q_nextUnasked 6 = .ok (.arraylength, 1) := by decide +kernel
theorem dQ_nextUnasked_7 : decode b_Q_nextUnasked 7 = .ok (.istore_n 2, 1) := by decide +kernel
theorem dQ_nextUnasked_8 : decode b_Q_nextUnasked 8 = .ok (.iconst 0, 1) := by decide +kernel
theorem dQ_nextUnasked_9 : decode b_Q_nextUnasked 9 = .ok (.istore_n 3, 1) := by decide +kernel
theorem dQ_nextUnasked_10 : decode b_Q_nextUnasked 10 = .ok (.iload_n 3, 1) := by decide +kernel
theorem dQ_nextUnasked_11 : decode b_Q_nextUnasked 11 = .ok (.iload_n 2, 1) := by decide +kernel
theorem dQ_nextUnasked_12 : decode b_Q_nextUnasked 12 = .ok (.if_icmp .ge 30, 3) := by decide +kernel
theorem dQ_nextUnasked_15 : decode b_Q_nextUnasked 15 = .ok (.aload_n 1, 1) := by decide +kernel
theorem dQ_nextUnasked_16 : decode b_Q_nextUnasked 16 = .ok (.iload_n 3, 1) := by decide +kernel
theorem dQ_nextUnasked_17 : decode b_Q_nextUnasked 17 = .ok (.aaload, 1) := by decide +kernel
theorem dQ_nextUnasked_18 : decode b_Q_nextUnasked 18 = .ok (.astore 4, 2) := by decide +kernel
theorem dQ_nextUnasked_20 : decode b_Q_nextUnasked 20 = .ok (.aload 4, 2) := by decide +kernel
theorem dQ_nextUnasked_22 : decode b_Q_nextUnasked 22 = .ok (.ifnull 14, 3) := by decide +kernel
theorem dQ_nextUnasked_25 : decode b_Q_nextUnasked 25 = .ok (.aload 4, 2) := by decide +kernel
theorem dQ_nextUnasked_27 : decode b_Q_nextUnasked 27 = .ok (.getfield 47, 3) := by decide +kernel
theorem dQ_nextUnasked_30 : decode b_Q_nextUnasked 30 = .ok (.ifCond .ne 6, 3) := by decide +kernel
theorem dQ_nextUnasked_33 : decode b_Q_nextUnasked 33 = .ok (.aload 4, 2) := by decide +kernel
theorem dQ_nextUnasked_35 : decode b_Q_nextUnasked 35 = .ok (.areturn, 1) := by decide +kernel
theorem dQ_nextUnasked_36 : decode b_Q_nextUnasked 36 = .ok (.iinc 3 1, 3) := by decide +kernel
theorem dQ_nextUnasked_39 : decode b_Q_nextUnasked 39 = .ok (.goto (-29), 3) := by decide +kernel
theorem dQ_nextUnasked_42 : decode b_Q_nextUnasked 42 = .ok (.aconst_null, 1) := by decide +kernel
theorem dQ_nextUnasked_43 : decode b_Q_nextUnasked 43 = .ok (.areturn, 1) := by decide +kernel
theorem dQ_end_0 : decode b_Q_end 0 = .ok (.aload_n 0, 1) := by decide +kernel
theorem dQ_end_1 : decode b_Q_end 1 = .ok (.iload_n 1, 1) := by decide +kernel
theorem dQ_end_2 : decode b_Q_end 2 = .ok (.putfield 27, 3) := by decide +kernel
theorem dQ_end_5 : decode b_Q_end 5 = .ok (.aload_n 0, 1) := by decide +kernel
theorem dQ_end_6 : decode b_Q_end 6 = .ok (.iload_n 2, 1) := by decide +kernel
theorem dQ_end_7 : decode b_Q_end 7 = .ok (.putfield 43, 3) := by decide +kernel
theorem dQ_end_10 : decode b_Q_end 10 = .ok (.return_, 1) := by decide +kernel
