theorem dL_init_0 : decode b_L_init 0 = .ok (.aload_n 0, 1) := by decide +kernel
theorem dL_init_1 : decode b_L_init 1 = .ok (.invokespecial 3, 3) := by decide +kernel
theorem dL_init_4 : decode b_L_init 4 = .ok (.aload_n 0, 1) := by decide +kernel
theorem dL_init_5 : decode b_L_init 5 = .ok (.iload_n 1, 1) := by decide +kernel
theorem dL_init_6 : decode b_L_init 6 = .ok (.putfield 9, 3) := by decide +kernel
theorem dL_init_9 : decode b_L_init 9 = .ok (.aload_n 0, 1) := by decide +kernel
theorem dL_init_10 : decode b_L_init 10 = .ok (.iconst 0, 1) := by decide +kernel
theorem dL_init_11 : decode b_L_init 11 = .ok (.putfield 15, 3) := by decide +kernel
theorem dL_init_14 : decode b_L_init 14 = .ok (.aload_n 0, 1) := by decide +kernel
theorem dL_init_15 : decode b_L_init 15 = .ok (.iconst (-1), 1) := by decide +kernel
theorem dL_init_16 : decode b_L_init 16 = .ok (.putfield 18, 3) := by decide +kernel
theorem dL_init_19 : decode b_L_init 19 = .ok (.aload_n 0, 1) := by decide +kernel
theorem dL_init_20 : decode b_L_init 20 = .ok (.iconst 0, 1) := by decide +kernel
theorem dL_init_21 : decode b_L_init 21 = .ok (.putfield 21, 3) := by decide +kernel
theorem dL_init_24 : decode b_L_init 24 = .ok (.return_, 1) := by decide +kernel
theorem dL_begin_0 : decode b_L_begin 0 = .ok (.aload_n 0, 1) := by decide +kernel
theorem dL_begin_1 : decode b_L_begin 1 = .ok (.iconst 1, 1) := by decide +kernel
theorem dL_begin_2 : decode b_L_begin 2 = .ok (.putfield 15, 3) := by decide +kernel
theorem dL_begin_5 : decode b_L_begin 5 = .ok (.aload_n 0, 1) := by decide +kernel
theorem dL_begin_6 : decode b_L_begin 6 = .ok (.iload_n 1, 1) := by decide +kernel
theorem dL_begin_7 : decode b_L_begin 7 = .ok (.putfield 21, 3) := by decide +kernel
theorem dL_begin_10 : decode b_L_begin 10 = .ok (.return_, 1) := by decide +kernel
theorem dL_holds_0 : decode b_L_holds 0 = .ok (.aload_n 0, 1) := by decide +kernel
theorem dL_holds_1 : decode b_L_holds 1 = .ok (.getfield 15, 3) := by decide +kernel
theorem dL_holds_4 : decode b_L_holds 4 = .ok (.iconst 1, 1) := by decide +kernel
theorem dL_holds_5 : decode b_L_holds 5 = .ok (.if_icmp .eq 27, 3) := by decide +kernel
theorem dL_holds_8 : decode b_L_holds 8 = .ok (.aload_n 0, 1) := by decide +kernel
theorem dL_holds_9 : decode b_L_holds 9 = .ok (.getfield 15, 3) := by decide +kernel
theorem dL_holds_12 : decode b_L_holds 12 = .ok (.iconst 2, 1) := by decide +kernel
theorem dL_holds_13 : decode b_L_holds 13 = .ok (.if_icmp .eq 19, 3) := by decide +kernel
theorem dL_holds_16 : decode b_L_holds 16 = .ok (.aload_n 0, 1) := by decide +kernel
theorem dL_holds_17 : decode b_L_holds 17 = .ok (.getfield 15, 3) := by decide +kernel
theorem dL_holds_20 : decode b_L_holds 20 = .ok (.iconst 3, 1) := by decide +kernel
theorem dL_holds_21 : decode b_L_holds 21 = .ok (.if_icmp .eq 11, 3) := by decide +kernel
theorem dL_holds_24 : decode b_L_holds 24 = .ok (.aload_n 0, 1) := by decide +kernel
theorem dL_holds_25 : decode b_L_holds 25 = .ok (.getfield 15, 3) := by decide +kernel
theorem dL_holds_28 : decode b_L_holds 28 = .ok (.iconst 4, 1) := by decide +kernel
theorem dL_holds_29 : decode b_L_holds 29 = .ok (.if_icmp .ne 7, 3) := by decide +kernel
theorem dL_holds_32 : decode b_L_holds 32 = .ok (.iconst 1, 1) := by decide +kernel
theorem dL_holds_33 : decode b_L_holds 33 = .ok (.goto 4, 3) := by decide +kernel
theorem dL_holds_36 : decode b_L_holds 36 = .ok (.iconst 0, 1) := by decide +kernel
theorem dL_holds_37 : decode b_L_holds 37 = .ok (.ireturn, 1) := by decide +kernel
theorem dL_isAwaited_0 : decode b_L_isAwaited 0 = .ok (.aload_n 0, 1) := by decide +kernel
theorem dL_isAwaited_1 : decode b_L_isAwaited 1 = .ok (.getfield 15, 3) := by decide +kernel
theorem dL_isAwaited_4 : decode b_L_isAwaited 4 = .ok (.iconst 1, 1) := by decide +kernel
theorem dL_isAwaited_5 : decode b_L_isAwaited 5 = .ok (.if_icmp .eq 11, 3) := by decide +kernel
theorem dL_isAwaited_8 : decode b_L_isAwaited 8 = .ok (.aload_n 0, 1) := by decide +kernel
theorem dL_isAwaited_9 : decode b_L_isAwaited 9 = .ok (.getfield 15, 3) := by decide +kernel
theorem dL_isAwaited_12 : decode b_L_isAwaited 12 = .ok (.iconst 3, 1) := by decide +kernel
theorem dL_isAwaited_13 : decode b_L_isAwaited 13 = .ok (.if_icmp .ne 7, 3) := by decide +kernel
theorem dL_isAwaited_16 : decode b_L_isAwaited 16 = .ok (.iconst 1, 1) := by decide +kernel
theorem dL_isAwaited_17 : decode b_L_isAwaited 17 = .ok (.goto 4, 3) := by decide +kernel
theorem dL_isAwaited_20 : decode b_L_isAwaited 20 = .ok (.iconst 0, 1) := by decide +kernel
theorem dL_isAwaited_21 : decode b_L_isAwaited 21 = .ok (.ireturn, 1) := by decide +kernel
