theorem dI_init_0 : decode b_I_init 0 = .ok (.aload_n 0, 1) := by decide +kernel
theorem dI_init_1 : decode b_I_init 1 = .ok (.invokespecial 1, 3) := by decide +kernel
theorem dI_init_4 : decode b_I_init 4 = .ok (.aload_n 0, 1) := by decide +kernel
theorem dI_init_5 : decode b_I_init 5 = .ok (.iconst 1, 1) := by decide +kernel
theorem dI_init_6 : decode b_I_init 6 = .ok (.bipush 30, 2) := by decide +kernel
theorem dI_init_8 : decode b_I_init 8 = .ok (.iload_n 1, 1) := by decide +kernel
theorem dI_init_9 : decode b_I_init 9 = .ok (.invokestatic 9, 3) := by decide +kernel
theorem dI_init_12 : decode b_I_init 12 = .ok (.invokestatic 15, 3) := by decide +kernel
theorem dI_init_15 : decode b_I_init 15 = .ok (.putfield 18, 3) := by decide +kernel
theorem dI_init_18 : decode b_I_init 18 = .ok (.aload_n 0, 1) := by decide +kernel
theorem dI_init_19 : decode b_I_init 19 = .ok (.bipush 100, 2) := by decide +kernel
theorem dI_init_21 : decode b_I_init 21 = .ok (.anewarray 22, 3) := by decide +kernel
theorem dI_init_24 : decode b_I_init 24 = .ok (.putfield 24, 3) := by decide +kernel
theorem dI_init_27 : decode b_I_init 27 = .ok (.aload_n 0, 1) := by decide +kernel
theorem dI_init_28 : decode b_I_init 28 = .ok (.iconst 0, 1) := by decide +kernel
theorem dI_init_29 : decode b_I_init 29 = .ok (.putfield 28, 3) := by decide +kernel
theorem dI_init_32 : decode b_I_init 32 = .ok (.aload_n 0, 1) := by decide +kernel
theorem dI_init_33 : decode b_I_init 33 = .ok (.iconst 0, 1) := by decide +kernel
theorem dI_init_34 : decode b_I_init 34 = .ok (.putfield 31, 3) := by decide +kernel
theorem dI_init_37 : decode b_I_init 37 = .ok (.aload_n 0, 1) := by decide +kernel
theorem dI_init_38 : decode b_I_init 38 = .ok (.ldc 34, 2) := by decide +kernel
theorem dI_init_40 : decode b_I_init 40 = .ok (.putfield 35, 3) := by decide +kernel
theorem dI_init_43 : decode b_I_init 43 = .ok (.return_, 1) := by decide +kernel
theorem dI_ask_0 : decode b_I_ask 0 = .ok (.aload_n 0, 1) := by decide +kernel
theorem dI_ask_1 : decode b_I_ask 1 = .ok (.iload_n 1, 1) := by decide +kernel
theorem dI_ask_2 : decode b_I_ask 2 = .ok (.invokevirtual 38, 3) := by decide +kernel
theorem dI_ask_5 : decode b_I_ask 5 = .ok (.ifCond .ne 5, 3) := by decide +kernel
theorem dI_ask_8 : decode b_I_ask 8 = .ok (.iconst (-1), 1) := by decide +kernel
theorem dI_ask_9 : decode b_I_ask 9 = .ok (.ireturn, 1) := by decide +kernel
theorem dI_ask_10 : decode b_I_ask 10 = .ok (.iload_n 2, 1) := by decide +kernel
theorem dI_ask_11 : decode b_I_ask 11 = .ok (.ifCond .lt 9, 3) := by decide +kernel
theorem dI_ask_14 : decode b_I_ask 14 = .ok (.iload_n 2, 1) := by decide +kernel
theorem dI_ask_15 : decode b_I_ask 15 = .ok (.ldc 42, 2) := by decide +kernel
theorem dI_ask_17 : decode b_I_ask 17 = .ok (.if_icmp .le 6, 3) := by decide +kernel
theorem dI_ask_20 : decode b_I_ask 20 = .ok (.bipush (-2), 2) := by decide +kernel
theorem dI_ask_22 : decode b_I_ask 22 = .ok (.ireturn, 1) := by decide +kernel
theorem dI_ask_23 : decode b_I_ask 23 = .ok (.aload_n 0, 1) := by decide +kernel
theorem dI_ask_24 : decode b_I_ask 24 = .ok (.getfield 28, 3) := by decide +kernel
theorem dI_ask_27 : decode b_I_ask 27 = .ok (.bipush 100, 2) := by decide +kernel
theorem dI_ask_29 : decode b_I_ask 29 = .ok (.if_icmp .lt 6, 3) := by decide +kernel
theorem dI_ask_32 : decode b_I_ask 32 = .ok (.bipush (-4), 2) := by decide +kernel
theorem dI_ask_34 : decode b_I_ask 34 = .ok (.ireturn, 1) := by decide +kernel
theorem dI_ask_35 : decode b_I_ask 35 = .ok (.aload_n 0, 1) := by decide +kernel
theorem dI_ask_36 : decode b_I_ask 36 = .ok (.getfield 24, 3) := by decide +kernel
theorem dI_ask_39 : decode b_I_ask 39 = .ok (.aload_n 0, 1) := by decide +kernel
theorem dI_ask_40 : decode b_I_ask 40 = .ok (.getfield 28, 3) := by decide +kernel
theorem dI_ask_43 : decode b_I_ask 43 = .ok (.new 22, 3) := by decide +kernel
theorem dI_ask_46 : decode b_I_ask 46 = .ok (.dup, 1) := by decide +kernel
theorem dI_ask_47 : decode b_I_ask 47 = .ok (.iload_n 1, 1) := by decide +kernel
theorem dI_ask_48 : decode b_I_ask 48 = .ok (.iload_n 2, 1) := by decide +kernel
theorem dI_ask_49 : decode b_I_ask 49 = .ok (.invokespecial 43, 3) := by decide +kernel
theorem dI_ask_52 : decode b_I_ask 52 = .ok (.aastore, 1) := by decide +kernel
theorem dI_ask_53 : decode b_I_ask 53 = .ok (.aload_n 0, 1) := by decide +kernel
theorem dI_ask_54 : decode b_I_ask 54 = .ok (.dup, 1) := by decide +kernel
theorem dI_ask_55 : decode b_I_ask 55 = .ok (.getfield 28, 3) := by decide +kernel
theorem dI_ask_58 : decode b_I_ask 58 = .ok (.iconst 1, 1) := by decide +kernel
theorem dI_ask_59 : decode b_I_ask 59 = .ok (.iadd, 1) := by decide +kernel
theorem dI_ask_60 : decode b_I_ask 60 = .ok (.putfield 28, 3) := by decide +kernel
theorem dI_ask_63 : decode b_I_ask 63 = .ok (.aload_n 0, 1) := by decide +kernel
theorem dI_ask_64 : decode b_I_ask 64 = .ok (.getfield 28, 3) := by decide +kernel
theorem dI_ask_67 : decode b_I_ask 67 = .ok (.iconst 1, 1) := by decide +kernel
theorem dI_ask_68 : decode b_I_ask 68 = .ok (.isub, 1) := by decide +kernel
theorem dI_ask_69 : decode b_I_ask 69 = .ok (.ireturn, 1) := by decide +kernel
theorem dI_lender_0 : decode b_I_lender 0 = .ok (.aload_n 0, 1) := by decide +kernel
theorem dI_lender_1 : decode b_I_lender 1 = .ok (.iload_n 1, 1) := by decide +kernel
theorem dI_lender_2 : decode b_I_lender 2 = .ok (.invokevirtual 46, 3) := by decide +kernel
theorem dI_lender_5 : decode b_I_lender 5 = .ok (.astore_n 3, 1) := by decide +kernel
theorem dI_lender_6 : decode b_I_lender 6 = .ok (.aload_n 3, 1) := by decide +kernel
theorem dI_lender_7 : decode b_I_lender 7 = .ok (.ifnull 11, 3) := by decide +kernel
theorem dI_lender_10 : decode b_I_lender 10 = .ok (.aload_n 0, 1) := by decide +kernel
theorem dI_lender_11 : decode b_I_lender 11 = .ok (.iload_n 2, 1) := by decide +kernel
theorem dI_lender_12 : decode b_I_lender 12 = .ok (.invokevirtual 38, 3) := by decide +kernel
theorem dI_lender_15 : decode b_I_lender 15 = .ok (.ifCond .ne 5, 3) := by decide +kernel
theorem dI_lender_18 : decode b_I_lender 18 = .ok (.iconst (-1), 1) := by decide +kernel
theorem dI_lender_19 : decode b_I_lender 19 = .ok (.ireturn, 1) := by decide +kernel
theorem dI_lender_20 : decode b_I_lender 20 = .ok (.aload_n 3, 1) := by decide +kernel
theorem dI_lender_21 : decode b_I_lender 21 = .ok (.getfield 50, 3) := by decide +kernel
theorem dI_lender_24 : decode b_I_lender 24 = .ok (.ifCond .ne 19, 3) := by decide +kernel
theorem dI_lender_27 : decode b_I_lender 27 = .ok (.iload_n 2, 1) := by decide +kernel
theorem dI_lender_28 : decode b_I_lender 28 = .ok (.aload_n 3, 1) := by decide +kernel
theorem dI_lender_29 : decode b_I_lender 29 = .ok (.getfield 53, 3) := by decide +kernel
theorem dI_lender_32 : decode b_I_lender 32 = .ok (.if_icmp .eq 11, 3) := by decide +kernel
theorem dI_lender_35 : decode b_I_lender 35 = .ok (.aload_n 3, 1) := by decide +kernel
theorem dI_lender_36 : decode b_I_lender 36 = .ok (.iload_n 2, 1) := by decide +kernel
theorem dI_lender_37 : decode b_I_lender 37 = .ok (.invokevirtual 56, 3) := by decide +kernel
theorem dI_lender_40 : decode b_I_lender 40 = .ok (.ifCond .eq 6, 3) := by decide +kernel
theorem dI_lender_43 : decode b_I_lender 43 = .ok (.bipush (-3), 2) := by decide +kernel
theorem dI_lender_45 : decode b_I_lender 45 = .ok (.ireturn, 1) := by decide +kernel
theorem dI_lender_46 : decode b_I_lender 46 = .ok (.aload_n 3, 1) := by decide +kernel
theorem dI_lender_47 : decode b_I_lender 47 = .ok (.getfield 59, 3) := by decide +kernel
theorem dI_lender_50 : decode b_I_lender 50 = .ok (.bipush 8, 2) := by decide +kernel
theorem dI_lender_52 : decode b_I_lender 52 = .ok (.if_icmp .lt 6, 3) := by decide +kernel
theorem dI_lender_55 : decode b_I_lender 55 = .ok (.bipush (-4), 2) := by decide +kernel
theorem dI_lender_57 : decode b_I_lender 57 = .ok (.ireturn, 1) := by decide +kernel
theorem dI_lender_58 : decode b_I_lender 58 = .ok (.aload_n 3, 1) := by decide +kernel
theorem dI_lender_59 : decode b_I_lender 59 = .ok (.new 62, 3) := by decide +kernel
theorem dI_lender_62 : decode b_I_lender 62 = .ok (.dup, 1) := by decide +kernel
theorem dI_lender_63 : decode b_I_lender 63 = .ok (.iload_n 2, 1) := by decide +kernel
theorem dI_lender_64 : decode b_I_lender 64 = .ok (.invokespecial 64, 3) := by decide +kernel
theorem dI_lender_67 : decode b_I_lender 67 = .ok (.invokevirtual 67, 3) := by decide +kernel
theorem dI_lender_70 : decode b_I_lender 70 = .ok (.aload_n 3, 1) := by decide +kernel
theorem dI_lender_71 : decode b_I_lender 71 = .ok (.getfield 59, 3) := by decide +kernel
theorem dI_lender_74 : decode b_I_lender 74 = .ok (.ireturn, 1) := by decide +kernel
theorem dI_send_0 : decode b_I_send 0 = .ok (.aload_n 0, 1) := by decide +kernel
theorem dI_send_1 : decode b_I_send 1 = .ok (.iload_n 1, 1) := by decide +kernel
theorem dI_send_2 : decode b_I_send 2 = .ok (.invokevirtual 46, 3) := by decide +kernel
theorem dI_send_5 : decode b_I_send 5 = .ok (.astore_n 3, 1) := by decide +kernel
theorem dI_send_6 : decode b_I_send 6 = .ok (.aload_n 3, 1) := by decide +kernel
theorem dI_send_7 : decode b_I_send 7 = .ok (.ifnonnull 5, 3) := by decide +kernel
theorem dI_send_10 : decode b_I_send 10 = .ok (.iconst (-1), 1) := by decide +kernel
theorem dI_send_11 : decode b_I_send 11 = .ok (.ireturn, 1) := by decide +kernel
theorem dI_send_12 : decode b_I_send 12 = .ok (.aload_n 0, 1) := by decide +kernel
theorem dI_send_13 : decode b_I_send 13 = .ok (.iload_n 2, 1) := by decide +kernel
theorem dI_send_14 : decode b_I_send 14 = .ok (.invokevirtual 71, 3) := by decide +kernel
theorem dI_send_17 : decode b_I_send 17 = .ok (.ifCond .ne 6, 3) := by decide +kernel
theorem dI_send_20 : decode b_I_send 20 = .ok (.bipush (-2), 2) := by decide +kernel
theorem dI_send_22 : decode b_I_send 22 = .ok (.ireturn, 1) := by decide +kernel
theorem dI_send_23 : decode b_I_send 23 = .ok (.aload_n 3, 1) := by decide +kernel
theorem dI_send_24 : decode b_I_send 24 = .ok (.getfield 50, 3) := by decide +kernel
theorem dI_send_27 : decode b_I_send 27 = .ok (.ifCond .eq 6, 3) := by decide +kernel
theorem dI_send_30 : decode b_I_send 30 = .ok (.bipush (-3), 2) := by decide +kernel
theorem dI_send_32 : decode b_I_send 32 = .ok (.ireturn, 1) := by decide +kernel
theorem dI_send_33 : decode b_I_send 33 = .ok (.aload_n 0, 1) := by decide +kernel
theorem dI_send_34 : decode b_I_send 34 = .ok (.iload_n 2, 1) := by decide +kernel
theorem dI_send_35 : decode b_I_send 35 = .ok (.putfield 31, 3) := by decide +kernel
theorem dI_send_38 : decode b_I_send 38 = .ok (.aload_n 3, 1) := by decide +kernel
theorem dI_send_39 : decode b_I_send 39 = .ok (.iload_n 2, 1) := by decide +kernel
theorem dI_send_40 : decode b_I_send 40 = .ok (.invokevirtual 74, 3) := by decide +kernel
theorem dI_send_43 : decode b_I_send 43 = .ok (.aload_n 3, 1) := by decide +kernel
theorem dI_send_44 : decode b_I_send 44 = .ok (.getfield 77, 3) := by decide +kernel
theorem dI_send_47 : decode b_I_send 47 = .ok (.ifnonnull 8, 3) := by decide +kernel
theorem dI_send_50 : decode b_I_send 50 = .ok (.bipush 100, 2) := by decide +kernel
theorem dI_send_52 : decode b_I_send 52 = .ok (.goto 10, 3) := by decide +kernel
theorem dI_send_55 : decode b_I_send 55 = .ok (.aload_n 3, 1) := by decide +kernel
theorem dI_send_56 : decode b_I_send 56 = .ok (.getfield 77, 3) := by decide +kernel
theorem dI_send_59 : decode b_I_send 59 = .ok (.getfield 81, 3) := by decide +kernel
theorem dI_send_62 : decode b_I_send 62 = .ok (.ireturn, 1) := by decide +kernel
theorem dI_message_0 : decode b_I_message 0 = .ok (.aload_n 0, 1) := by decide +kernel
theorem dI_message_1 : decode b_I_message 1 = .ok (.iload_n 1, 1) := by decide +kernel
theorem dI_message_2 : decode b_I_message 2 = .ok (.invokevirtual 46, 3) := by decide +kernel
theorem dI_message_5 : decode b_I_message 5 = .ok (.astore 7, 2) := by decide +kernel
theorem dI_message_7 : decode b_I_message 7 = .ok (.aload 7, 2) := by decide +kernel
theorem dI_message_9 : decode b_I_message 9 = .ok (.ifnull 11, 3) := by decide +kernel
theorem dI_message_12 : decode b_I_message 12 = .ok (.aload_n 0, 1) := by decide +kernel
theorem dI_message_13 : decode b_I_message 13 = .ok (.iload_n 2, 1) := by decide +kernel
theorem dI_message_14 : decode b_I_message 14 = .ok (.invokevirtual 38, 3) := by decide +kernel
theorem dI_message_17 : decode b_I_message 17 = .ok (.ifCond .ne 5, 3) := by decide +kernel
theorem dI_message_20 : decode b_I_message 20 = .ok (.iconst (-1), 1) := by decide +kernel
theorem dI_message_21 : decode b_I_message 21 = .ok (.ireturn, 1) := by decide +kernel
theorem dI_message_22 : decode b_I_message 22 = .ok (.aload_n 0, 1) := by decide +kernel
theorem dI_message_23 : decode b_I_message 23 = .ok (.iload 6, 2) := by decide +kernel
theorem dI_message_25 : decode b_I_message 25 = .ok (.invokevirtual 71, 3) := by decide +kernel
theorem dI_message_28 : decode b_I_message 28 = .ok (.ifCond .eq 16, 3) := by decide +kernel
theorem dI_message_31 : decode b_I_message 31 = .ok (.iload_n 3, 1) := by decide +kernel
theorem dI_message_32 : decode b_I_message 32 = .ok (.iload 4, 2) := by decide +kernel
theorem dI_message_34 : decode b_I_message 34 = .ok (.iload 5, 2) := by decide +kernel
theorem dI_message_36 : decode b_I_message 36 = .ok (.iload 6, 2) := by decide +kernel
theorem dI_message_38 : decode b_I_message 38 = .ok (.invokestatic 82, 3) := by decide +kernel
theorem dI_message_41 : decode b_I_message 41 = .ok (.ifCond .ne 6, 3) := by decide +kernel
theorem dI_message_44 : decode b_I_message 44 = .ok (.bipush (-2), 2) := by decide +kernel
theorem dI_message_46 : decode b_I_message 46 = .ok (.ireturn, 1) := by decide +kernel
theorem dI_message_47 : decode b_I_message 47 = .ok (.aload 7, 2) := by decide +kernel
theorem dI_message_49 : decode b_I_message 49 = .ok (.getfield 77, 3) := by decide +kernel
theorem dI_message_52 : decode b_I_message 52 = .ok (.astore 8, 2) := by decide +kernel
theorem dI_message_54 : decode b_I_message 54 = .ok (.aload 8, 2) := by decide +kernel
theorem dI_message_56 : decode b_I_message 56 = .ok (.ifnull 20, 3) := by decide +kernel
theorem dI_message_59 : decode b_I_message 59 = .ok (.aload 8, 2) := by decide +kernel
theorem dI_message_61 : decode b_I_message 61 = .ok (.getfield 81, 3) := by decide +kernel
theorem dI_message_64 : decode b_I_message 64 = .ok (.iload_n 2, 1) := by decide +kernel
theorem dI_message_65 : decode b_I_message 65 = .ok (.if_icmp .ne 11, 3) := by decide +kernel
theorem dI_message_68 : decode b_I_message 68 = .ok (.aload 8, 2) := by decide +kernel
theorem dI_message_70 : decode b_I_message 70 = .ok (.invokevirtual 86, 3) := by decide +kernel
theorem dI_message_73 : decode b_I_message 73 = .ok (.ifCond .ne 6, 3) := by decide +kernel
theorem dI_message_76 : decode b_I_message 76 = .ok (.bipush (-5), 2) := by decide +kernel
theorem dI_message_78 : decode b_I_message 78 = .ok (.ireturn, 1) := by decide +kernel
theorem dI_message_79 : decode b_I_message 79 = .ok (.iload_n 3, 1) := by decide +kernel
theorem dI_message_80 : decode b_I_message 80 = .ok (.aload 8, 2) := by decide +kernel
theorem dI_message_82 : decode b_I_message 82 = .ok (.getfield 90, 3) := by decide +kernel
theorem dI_message_85 : decode b_I_message 85 = .ok (.if_icmp .gt 17, 3) := by decide +kernel
theorem dI_message_88 : decode b_I_message 88 = .ok (.aload 7, 2) := by decide +kernel
theorem dI_message_90 : decode b_I_message 90 = .ok (.dup, 1) := by decide +kernel
theorem dI_message_91 : decode b_I_message 91 = .ok (.getfield 93, 3) := by decide +kernel
theorem dI_message_94 : decode b_I_message 94 = .ok (.iconst 1, 1) := by decide +kernel
theorem dI_message_95 : decode b_I_message 95 = .ok (.iadd, 1) := by decide +kernel
theorem dI_message_96 : decode b_I_message 96 = .ok (.putfield 93, 3) := by decide +kernel
theorem dI_message_99 : decode b_I_message 99 = .ok (.bipush (-6), 2) := by decide +kernel
theorem dI_message_101 : decode b_I_message 101 = .ok (.ireturn, 1) := by decide +kernel
theorem dI_message_102 : decode b_I_message 102 = .ok (.iload 4, 2) := by decide +kernel
theorem dI_message_104 : decode b_I_message 104 = .ok (.aload 7, 2) := by decide +kernel
theorem dI_message_106 : decode b_I_message 106 = .ok (.getfield 50, 3) := by decide +kernel
theorem dI_message_109 : decode b_I_message 109 = .ok (.aload 8, 2) := by decide +kernel
theorem dI_message_111 : decode b_I_message 111 = .ok (.getfield 96, 3) := by decide +kernel
theorem dI_message_114 : decode b_I_message 114 = .ok (.invokestatic 97, 3) := by decide +kernel
theorem dI_message_117 : decode b_I_message 117 = .ok (.ifCond .ne 6, 3) := by decide +kernel
theorem dI_message_120 : decode b_I_message 120 = .ok (.bipush (-3), 2) := by decide +kernel
theorem dI_message_122 : decode b_I_message 122 = .ok (.ireturn, 1) := by decide +kernel
theorem dI_message_123 : decode b_I_message 123 = .ok (.aload_n 0, 1) := by decide +kernel
theorem dI_message_124 : decode b_I_message 124 = .ok (.iload 6, 2) := by decide +kernel
theorem dI_message_126 : decode b_I_message 126 = .ok (.putfield 31, 3) := by decide +kernel
theorem dI_message_129 : decode b_I_message 129 = .ok (.aload 8, 2) := by decide +kernel
theorem dI_message_131 : decode b_I_message 131 = .ok (.iload_n 3, 1) := by decide +kernel
theorem dI_message_132 : decode b_I_message 132 = .ok (.putfield 90, 3) := by decide +kernel
theorem dI_message_135 : decode b_I_message 135 = .ok (.aload 8, 2) := by decide +kernel
theorem dI_message_137 : decode b_I_message 137 = .ok (.iload 6, 2) := by decide +kernel
theorem dI_message_139 : decode b_I_message 139 = .ok (.putfield 101, 3) := by decide +kernel
theorem dI_message_142 : decode b_I_message 142 = .ok (.aload 7, 2) := by decide +kernel
theorem dI_message_144 : decode b_I_message 144 = .ok (.aload 8, 2) := by decide +kernel
theorem dI_message_146 : decode b_I_message 146 = .ok (.iload 4, 2) := by decide +kernel
theorem dI_message_148 : decode b_I_message 148 = .ok (.iload 5, 2) := by decide +kernel
theorem dI_message_150 : decode b_I_message 150 = .ok (.iload 6, 2) := by decide +kernel
theorem dI_message_152 : decode b_I_message 152 = .ok (.invokestatic 104, 3) := by decide +kernel
theorem dI_message_155 : decode b_I_message 155 = .ok (.aload 7, 2) := by decide +kernel
theorem dI_message_157 : decode b_I_message 157 = .ok (.getfield 50, 3) := by decide +kernel
theorem dI_message_160 : decode b_I_message 160 = .ok (.ireturn, 1) := by decide +kernel
theorem dI_condition_0 : decode b_I_condition 0 = .ok (.aload_n 0, 1) := by decide +kernel
theorem dI_condition_1 : decode b_I_condition 1 = .ok (.iload_n 1, 1) := by decide +kernel
theorem dI_condition_2 : decode b_I_condition 2 = .ok (.invokevirtual 46, 3) := by decide +kernel
theorem dI_condition_5 : decode b_I_condition 5 = .ok (.astore 4, 2) := by decide +kernel
theorem dI_condition_7 : decode b_I_condition 7 = .ok (.aload 4, 2) := by decide +kernel
theorem dI_condition_9 : decode b_I_condition 9 = .ok (.ifnonnull 5, 3) := by decide +kernel
theorem dI_condition_12 : decode b_I_condition 12 = .ok (.iconst (-1), 1) := by decide +kernel
theorem dI_condition_13 : decode b_I_condition 13 = .ok (.ireturn, 1) := by decide +kernel
theorem dI_condition_14 : decode b_I_condition 14 = .ok (.aload_n 0, 1) := by decide +kernel
theorem dI_condition_15 : decode b_I_condition 15 = .ok (.iload_n 3, 1) := by decide +kernel
theorem dI_condition_16 : decode b_I_condition 16 = .ok (.invokevirtual 71, 3) := by decide +kernel
theorem dI_condition_19 : decode b_I_condition 19 = .ok (.ifCond .ne 6, 3) := by decide +kernel
theorem dI_condition_22 : decode b_I_condition 22 = .ok (.bipush (-2), 2) := by decide +kernel
theorem dI_condition_24 : decode b_I_condition 24 = .ok (.ireturn, 1) := by decide +kernel
theorem dI_condition_25 : decode b_I_condition 25 = .ok (.aload 4, 2) := by decide +kernel
theorem dI_condition_27 : decode b_I_condition 27 = .ok (.getfield 77, 3) := by decide +kernel
theorem dI_condition_30 : decode b_I_condition 30 = .ok (.astore 5, 2) := by decide +kernel
theorem dI_condition_32 : decode b_I_condition 32 = .ok (.aload 4, 2) := by decide +kernel
theorem dI_condition_34 : decode b_I_condition 34 = .ok (.getfield 50, 3) := by decide +kernel
theorem dI_condition_37 : decode b_I_condition 37 = .ok (.iconst 2, 1) := by decide +kernel
theorem dI_condition_38 : decode b_I_condition 38 = .ok (.if_icmp .ne 8, 3) := by decide +kernel
theorem dI_condition_41 : decode b_I_condition 41 = .ok (.aload 5, 2) := by decide +kernel
theorem dI_condition_43 : decode b_I_condition 43 = .ok (.ifnonnull 6, 3) := by decide +kernel
theorem dI_condition_46 : decode b_I_condition 46 = .ok (.bipush (-3), 2) := by decide +kernel
theorem dI_condition_48 : decode b_I_condition 48 = .ok (.ireturn, 1) := by decide +kernel
theorem dI_condition_49 : decode b_I_condition 49 = .ok (.aload_n 0, 1) := by decide +kernel
theorem dI_condition_50 : decode b_I_condition 50 = .ok (.iload_n 3, 1) := by decide +kernel
theorem dI_condition_51 : decode b_I_condition 51 = .ok (.putfield 31, 3) := by decide +kernel
theorem dI_condition_54 : decode b_I_condition 54 = .ok (.iload_n 2, 1) := by decide +kernel
theorem dI_condition_55 : decode b_I_condition 55 = .ok (.ifCond .eq 18, 3) := by decide +kernel
theorem dI_condition_58 : decode b_I_condition 58 = .ok (.aload 5, 2) := by decide +kernel
theorem dI_condition_60 : decode b_I_condition 60 = .ok (.iload_n 3, 1) := by decide +kernel
theorem dI_condition_61 : decode b_I_condition 61 = .ok (.invokevirtual 108, 3) := by decide +kernel
theorem dI_condition_64 : decode b_I_condition 64 = .ok (.aload 4, 2) := by decide +kernel
theorem dI_condition_66 : decode b_I_condition 66 = .ok (.iconst 1, 1) := by decide +kernel
theorem dI_condition_67 : decode b_I_condition 67 = .ok (.putfield 50, 3) := by decide +kernel
theorem dI_condition_70 : decode b_I_condition 70 = .ok (.goto 16, 3) := by decide +kernel
theorem dI_condition_73 : decode b_I_condition 73 = .ok (.aload 5, 2) := by decide +kernel
theorem dI_condition_75 : decode b_I_condition 75 = .ok (.bipush 6, 2) := by decide +kernel
theorem dI_condition_77 : decode b_I_condition 77 = .ok (.putfield 96, 3) := by decide +kernel
theorem dI_condition_80 : decode b_I_condition 80 = .ok (.aload 4, 2) := by decide +kernel
theorem dI_condition_82 : decode b_I_condition 82 = .ok (.iload_n 3, 1) := by decide +kernel
theorem dI_condition_83 : decode b_I_condition 83 = .ok (.invokevirtual 74, 3) := by decide +kernel
theorem dI_condition_86 : decode b_I_condition 86 = .ok (.aload 4, 2) := by decide +kernel
theorem dI_condition_88 : decode b_I_condition 88 = .ok (.getfield 50, 3) := by decide +kernel
theorem dI_condition_91 : decode b_I_condition 91 = .ok (.ireturn, 1) := by decide +kernel
theorem dI_received_0 : decode b_I_received 0 = .ok (.aload_n 0, 1) := by decide +kernel
theorem dI_received_1 : decode b_I_received 1 = .ok (.iload_n 1, 1) := by decide +kernel
theorem dI_received_2 : decode b_I_received 2 = .ok (.invokevirtual 46, 3) := by decide +kernel
theorem dI_received_5 : decode b_I_received 5 = .ok (.astore_n 3, 1) := by decide +kernel
theorem dI_received_6 : decode b_I_received 6 = .ok (.aload_n 3, 1) := by decide +kernel
theorem dI_received_7 : decode b_I_received 7 = .ok (.ifnonnull 5, 3) := by decide +kernel
theorem dI_received_10 : decode b_I_received 10 = .ok (.iconst (-1), 1) := by decide +kernel
theorem dI_received_11 : decode b_I_received 11 = .ok (.ireturn, 1) := by decide +kernel
theorem dI_received_12 : decode b_I_received 12 = .ok (.aload_n 0, 1) := by decide +kernel
theorem dI_received_13 : decode b_I_received 13 = .ok (.iload_n 2, 1) := by decide +kernel
theorem dI_received_14 : decode b_I_received 14 = .ok (.invokevirtual 71, 3) := by decide +kernel
theorem dI_received_17 : decode b_I_received 17 = .ok (.ifCond .ne 6, 3) := by decide +kernel
theorem dI_received_20 : decode b_I_received 20 = .ok (.bipush (-2), 2) := by decide +kernel
theorem dI_received_22 : decode b_I_received 22 = .ok (.ireturn, 1) := by decide +kernel
theorem dI_received_23 : decode b_I_received 23 = .ok (.aload_n 3, 1) := by decide +kernel
theorem dI_received_24 : decode b_I_received 24 = .ok (.getfield 50, 3) := by decide +kernel
theorem dI_received_27 : decode b_I_received 27 = .ok (.iconst 3, 1) := by decide +kernel
theorem dI_received_28 : decode b_I_received 28 = .ok (.if_icmp .eq 6, 3) := by decide +kernel
theorem dI_received_31 : decode b_I_received 31 = .ok (.bipush (-3), 2) := by decide +kernel
theorem dI_received_33 : decode b_I_received 33 = .ok (.ireturn, 1) := by decide +kernel
theorem dI_received_34 : decode b_I_received 34 = .ok (.aload_n 0, 1) := by decide +kernel
theorem dI_received_35 : decode b_I_received 35 = .ok (.iload_n 2, 1) := by decide +kernel
theorem dI_received_36 : decode b_I_received 36 = .ok (.putfield 31, 3) := by decide +kernel
theorem dI_received_39 : decode b_I_received 39 = .ok (.aload_n 3, 1) := by decide +kernel
theorem dI_received_40 : decode b_I_received 40 = .ok (.iconst 4, 1) := by decide +kernel
theorem dI_received_41 : decode b_I_received 41 = .ok (.putfield 50, 3) := by decide +kernel
theorem dI_received_44 : decode b_I_received 44 = .ok (.aload_n 3, 1) := by decide +kernel
theorem dI_received_45 : decode b_I_received 45 = .ok (.getfield 50, 3) := by decide +kernel
theorem dI_received_48 : decode b_I_received 48 = .ok (.ireturn, 1) := by decide +kernel
theorem dI_back_0 : decode b_I_back 0 = .ok (.aload_n 0, 1) := by decide +kernel
theorem dI_back_1 : decode b_I_back 1 = .ok (.iload_n 1, 1) := by decide +kernel
theorem dI_back_2 : decode b_I_back 2 = .ok (.invokevirtual 46, 3) := by decide +kernel
theorem dI_back_5 : decode b_I_back 5 = .ok (.astore_n 3, 1) := by decide +kernel
theorem dI_back_6 : decode b_I_back 6 = .ok (.aload_n 3, 1) := by decide +kernel
theorem dI_back_7 : decode b_I_back 7 = .ok (.ifnonnull 5, 3) := by decide +kernel
theorem dI_back_10 : decode b_I_back 10 = .ok (.iconst (-1), 1) := by decide +kernel
theorem dI_back_11 : decode b_I_back 11 = .ok (.ireturn, 1) := by decide +kernel
theorem dI_back_12 : decode b_I_back 12 = .ok (.aload_n 0, 1) := by decide +kernel
theorem dI_back_13 : decode b_I_back 13 = .ok (.iload_n 2, 1) := by decide +kernel
theorem dI_back_14 : decode b_I_back 14 = .ok (.invokevirtual 71, 3) := by decide +kernel
theorem dI_back_17 : decode b_I_back 17 = .ok (.ifCond .ne 6, 3) := by decide +kernel
theorem dI_back_20 : decode b_I_back 20 = .ok (.bipush (-2), 2) := by decide +kernel
theorem dI_back_22 : decode b_I_back 22 = .ok (.ireturn, 1) := by decide +kernel
theorem dI_back_23 : decode b_I_back 23 = .ok (.aload_n 3, 1) := by decide +kernel
theorem dI_back_24 : decode b_I_back 24 = .ok (.getfield 50, 3) := by decide +kernel
theorem dI_back_27 : decode b_I_back 27 = .ok (.iconst 4, 1) := by decide +kernel
theorem dI_back_28 : decode b_I_back 28 = .ok (.if_icmp .eq 6, 3) := by decide +kernel
theorem dI_back_31 : decode b_I_back 31 = .ok (.bipush (-3), 2) := by decide +kernel
theorem dI_back_33 : decode b_I_back 33 = .ok (.ireturn, 1) := by decide +kernel
theorem dI_back_34 : decode b_I_back 34 = .ok (.aload_n 0, 1) := by decide +kernel
theorem dI_back_35 : decode b_I_back 35 = .ok (.iload_n 2, 1) := by decide +kernel
theorem dI_back_36 : decode b_I_back 36 = .ok (.putfield 31, 3) := by decide +kernel
theorem dI_back_39 : decode b_I_back 39 = .ok (.aload_n 3, 1) := by decide +kernel
theorem dI_back_40 : decode b_I_back 40 = .ok (.iconst 5, 1) := by decide +kernel
theorem dI_back_41 : decode b_I_back 41 = .ok (.putfield 50, 3) := by decide +kernel
theorem dI_back_44 : decode b_I_back 44 = .ok (.iload_n 2, 1) := by decide +kernel
theorem dI_back_45 : decode b_I_back 45 = .ok (.aload_n 3, 1) := by decide +kernel
theorem dI_back_46 : decode b_I_back 46 = .ok (.getfield 111, 3) := by decide +kernel
theorem dI_back_49 : decode b_I_back 49 = .ok (.if_icmp .le 7, 3) := by decide +kernel
theorem dI_back_52 : decode b_I_back 52 = .ok (.iconst 0, 1) := by decide +kernel
theorem dI_back_53 : decode b_I_back 53 = .ok (.goto 4, 3) := by decide +kernel
theorem dI_back_56 : decode b_I_back 56 = .ok (.iconst 1, 1) := by decide +kernel
theorem dI_back_57 : decode b_I_back 57 = .ok (.ireturn, 1) := by decide +kernel
theorem dI_cancel_0 : decode b_I_cancel 0 = .ok (.aload_n 0, 1) := by decide +kernel
theorem dI_cancel_1 : decode b_I_cancel 1 = .ok (.iload_n 1, 1) := by decide +kernel
theorem dI_cancel_2 : decode b_I_cancel 2 = .ok (.invokevirtual 46, 3) := by decide +kernel
theorem dI_cancel_5 : decode b_I_cancel 5 = .ok (.astore_n 3, 1) := by decide +kernel
theorem dI_cancel_6 : decode b_I_cancel 6 = .ok (.aload_n 3, 1) := by decide +kernel
theorem dI_cancel_7 : decode b_I_cancel 7 = .ok (.ifnonnull 5, 3) := by decide +kernel
theorem dI_cancel_10 : decode b_I_cancel 10 = .ok (.iconst (-1), 1) := by decide +kernel
theorem dI_cancel_11 : decode b_I_cancel 11 = .ok (.ireturn, 1) := by decide +kernel
theorem dI_cancel_12 : decode b_I_cancel 12 = .ok (.aload_n 0, 1) := by decide +kernel
theorem dI_cancel_13 : decode b_I_cancel 13 = .ok (.iload_n 2, 1) := by decide +kernel
theorem dI_cancel_14 : decode b_I_cancel 14 = .ok (.invokevirtual 71, 3) := by decide +kernel
theorem dI_cancel_17 : decode b_I_cancel 17 = .ok (.ifCond .ne 6, 3) := by decide +kernel
theorem dI_cancel_20 : decode b_I_cancel 20 = .ok (.bipush (-2), 2) := by decide +kernel
theorem dI_cancel_22 : decode b_I_cancel 22 = .ok (.ireturn, 1) := by decide +kernel
theorem dI_cancel_23 : decode b_I_cancel 23 = .ok (.aload_n 3, 1) := by decide +kernel
theorem dI_cancel_24 : decode b_I_cancel 24 = .ok (.invokevirtual 114, 3) := by decide +kernel
theorem dI_cancel_27 : decode b_I_cancel 27 = .ok (.ifCond .ne 6, 3) := by decide +kernel
theorem dI_cancel_30 : decode b_I_cancel 30 = .ok (.bipush (-3), 2) := by decide +kernel
theorem dI_cancel_32 : decode b_I_cancel 32 = .ok (.ireturn, 1) := by decide +kernel
theorem dI_cancel_33 : decode b_I_cancel 33 = .ok (.aload_n 0, 1) := by decide +kernel
theorem dI_cancel_34 : decode b_I_cancel 34 = .ok (.iload_n 2, 1) := by decide +kernel
theorem dI_cancel_35 : decode b_I_cancel 35 = .ok (.putfield 31, 3) := by decide +kernel
theorem dI_cancel_38 : decode b_I_cancel 38 = .ok (.aload_n 3, 1) := by decide +kernel
theorem dI_cancel_39 : decode b_I_cancel 39 = .ok (.getfield 77, 3) := by decide +kernel
theorem dI_cancel_42 : decode b_I_cancel 42 = .ok (.ifnull 12, 3) := by decide +kernel
theorem dI_cancel_45 : decode b_I_cancel 45 = .ok (.aload_n 3, 1) := by decide +kernel
theorem dI_cancel_46 : decode b_I_cancel 46 = .ok (.getfield 77, 3) := by decide +kernel
theorem dI_cancel_49 : decode b_I_cancel 49 = .ok (.bipush 8, 2) := by decide +kernel
theorem dI_cancel_51 : decode b_I_cancel 51 = .ok (.putfield 96, 3) := by decide +kernel
theorem dI_cancel_54 : decode b_I_cancel 54 = .ok (.aload_n 3, 1) := by decide +kernel
theorem dI_cancel_55 : decode b_I_cancel 55 = .ok (.aconst_null, 1) := by decide +kernel
theorem dI_cancel_56 : decode b_I_cancel 56 = .ok (.putfield 77, 3) := by decide +kernel
theorem dI_cancel_59 : decode b_I_cancel 59 = .ok (.aload_n 3, 1) := by decide +kernel
theorem dI_cancel_60 : decode b_I_cancel 60 = .ok (.bipush 8, 2) := by decide +kernel
theorem dI_cancel_62 : decode b_I_cancel 62 = .ok (.iload_n 2, 1) := by decide +kernel
theorem dI_cancel_63 : decode b_I_cancel 63 = .ok (.invokevirtual 117, 3) := by decide +kernel
theorem dI_cancel_66 : decode b_I_cancel 66 = .ok (.iconst 1, 1) := by decide +kernel
theorem dI_cancel_67 : decode b_I_cancel 67 = .ok (.ireturn, 1) := by decide +kernel
theorem dI_waits_0 : decode b_I_waits 0 = .ok (.aload_n 0, 1) := by decide +kernel
theorem dI_waits_1 : decode b_I_waits 1 = .ok (.iload_n 1, 1) := by decide +kernel
theorem dI_waits_2 : decode b_I_waits 2 = .ok (.invokevirtual 71, 3) := by decide +kernel
theorem dI_waits_5 : decode b_I_waits 5 = .ok (.ifCond .ne 6, 3) := by decide +kernel
theorem dI_waits_8 : decode b_I_waits 8 = .ok (.bipush (-2), 2) := by decide +kernel
theorem dI_waits_10 : decode b_I_waits 10 = .ok (.ireturn, 1) := by decide +kernel
theorem dI_waits_11 : decode b_I_waits 11 = .ok (.aload_n 0, 1) := by decide +kernel
theorem dI_waits_12 : decode b_I_waits 12 = .ok (.iload_n 1, 1) := by decide +kernel
theorem dI_waits_13 : decode b_I_waits 13 = .ok (.putfield 31, 3) := by decide +kernel
theorem dI_waits_16 : decode b_I_waits 16 = .ok (.iconst 0, 1) := by decide +kernel
theorem dI_waits_17 : decode b_I_waits 17 = .ok (.istore_n 2, 1) := by decide +kernel
theorem dI_waits_18 : decode b_I_waits 18 = .ok (.aload_n 0, 1) := by decide +kernel
theorem dI_waits_19 : decode b_I_waits 19 = .ok (.getfield 24, 3) := by decide +kernel
theorem dI_waits_22 : decode b_I_waits 22 = .ok (.astore_n 3, 1) := by decide +kernel
theorem dI_waits_23 : decode b_I_waits 23 = .ok (.aload_n 3, 1) := by decide +kernel
theorem dI_waits_24 : decode b_I_waits 24 = .ok (.arraylength, 1) := by decide +kernel
theorem dI_waits_25 : decode b_I_waits 25 = .ok (.istore 4, 2) := by decide +kernel
theorem dI_waits_27 : decode b_I_waits 27 = .ok (.iconst 0, 1) := by decide +kernel
theorem dI_waits_28 : decode b_I_waits 28 = .ok (.istore 5, 2) := by decide +kernel
theorem dI_waits_30 : decode b_I_waits 30 = .ok (.iload 5, 2) := by decide +kernel
theorem dI_waits_32 : decode b_I_waits 32 = .ok (.iload 4, 2) := by decide +kernel
theorem dI_waits_34 : decode b_I_waits 34 = .ok (.if_icmp .ge 73, 3) := by decide +kernel
theorem dI_waits_37 : decode b_I_waits 37 = .ok (.aload_n 3, 1) := by decide +kernel
theorem dI_waits_38 : decode b_I_waits 38 = .ok (.iload 5, 2) := by decide +kernel
theorem dI_waits_40 : decode b_I_waits 40 = .ok (.aaload, 1) := by decide +kernel
theorem dI_waits_41 : decode b_I_waits 41 = .ok (.astore 6, 2) := by decide +kernel
theorem dI_waits_43 : decode b_I_waits 43 = .ok (.aload 6, 2) := by decide +kernel
theorem dI_waits_45 : decode b_I_waits 45 = .ok (.ifnonnull 6, 3) := by decide +kernel
theorem dI_waits_48 : decode b_I_waits 48 = .ok (.goto 59, 3) := by decide +kernel
theorem dI_waits_51 : decode b_I_waits 51 = .ok (.aload 6, 2) := by decide +kernel
theorem dI_waits_53 : decode b_I_waits 53 = .ok (.getfield 77, 3) := by decide +kernel
theorem dI_waits_56 : decode b_I_waits 56 = .ok (.astore 7, 2) := by decide +kernel
theorem dI_waits_58 : decode b_I_waits 58 = .ok (.aload 7, 2) := by decide +kernel
theorem dI_waits_60 : decode b_I_waits 60 = .ok (.ifnull 41, 3) := by decide +kernel
theorem dI_waits_63 : decode b_I_waits 63 = .ok (.aload 7, 2) := by decide +kernel
theorem dI_waits_65 : decode b_I_waits 65 = .ok (.invokevirtual 120, 3) := by decide +kernel
theorem dI_waits_68 : decode b_I_waits 68 = .ok (.ifCond .eq 33, 3) := by decide +kernel
theorem dI_waits_71 : decode b_I_waits 71 = .ok (.iload_n 1, 1) := by decide +kernel
theorem dI_waits_72 : decode b_I_waits 72 = .ok (.aload 7, 2) := by decide +kernel
theorem dI_waits_74 : decode b_I_waits 74 = .ok (.getfield 101, 3) := by decide +kernel
theorem dI_waits_77 : decode b_I_waits 77 = .ok (.isub, 1) := by decide +kernel
theorem dI_waits_78 : decode b_I_waits 78 = .ok (.aload_n 0, 1) := by decide +kernel
theorem dI_waits_79 : decode b_I_waits 79 = .ok (.getfield 35, 3) := by decide +kernel
theorem dI_waits_82 : decode b_I_waits 82 = .ok (.if_icmp .le 19, 3) := by decide +kernel
theorem dI_waits_85 : decode b_I_waits 85 = .ok (.aload 7, 2) := by decide +kernel
theorem dI_waits_87 : decode b_I_waits 87 = .ok (.bipush 7, 2) := by decide +kernel
theorem dI_waits_89 : decode b_I_waits 89 = .ok (.putfield 96, 3) := by decide +kernel
theorem dI_waits_92 : decode b_I_waits 92 = .ok (.aload 6, 2) := by decide +kernel
theorem dI_waits_94 : decode b_I_waits 94 = .ok (.iload_n 1, 1) := by decide +kernel
theorem dI_waits_95 : decode b_I_waits 95 = .ok (.invokevirtual 74, 3) := by decide +kernel
theorem dI_waits_98 : decode b_I_waits 98 = .ok (.iinc 2 1, 3) := by decide +kernel
theorem dI_waits_101 : decode b_I_waits 101 = .ok (.iinc 5 1, 3) := by decide +kernel
theorem dI_waits_104 : decode b_I_waits 104 = .ok (.goto (-74), 3) := by decide +kernel
theorem dI_waits_107 : decode b_I_waits 107 = .ok (.iload_n 2, 1) := by decide +kernel
theorem dI_waits_108 : decode b_I_waits 108 = .ok (.ireturn, 1) := by decide +kernel
theorem dI_span_0 : decode b_I_span 0 = .ok (.iload_n 1, 1) := by decide +kernel
theorem dI_span_1 : decode b_I_span 1 = .ok (.iconst 1, 1) := by decide +kernel
theorem dI_span_2 : decode b_I_span 2 = .ok (.if_icmp .lt 9, 3) := by decide +kernel
theorem dI_span_5 : decode b_I_span 5 = .ok (.iload_n 1, 1) := by decide +kernel
theorem dI_span_6 : decode b_I_span 6 = .ok (.ldc 123, 2) := by decide +kernel
theorem dI_span_8 : decode b_I_span 8 = .ok (.if_icmp .le 6, 3) := by decide +kernel
theorem dI_span_11 : decode b_I_span 11 = .ok (.bipush (-2), 2) := by decide +kernel
theorem dI_span_13 : decode b_I_span 13 = .ok (.ireturn, 1) := by decide +kernel
theorem dI_span_14 : decode b_I_span 14 = .ok (.aload_n 0, 1) := by decide +kernel
theorem dI_span_15 : decode b_I_span 15 = .ok (.iload_n 1, 1) := by decide +kernel
theorem dI_span_16 : decode b_I_span 16 = .ok (.putfield 35, 3) := by decide +kernel
theorem dI_span_19 : decode b_I_span 19 = .ok (.iconst 1, 1) := by decide +kernel
theorem dI_span_20 : decode b_I_span 20 = .ok (.ireturn, 1) := by decide +kernel
theorem dI_about_0 : decode b_I_about 0 = .ok (.aload_n 0, 1) := by decide +kernel
theorem dI_about_1 : decode b_I_about 1 = .ok (.iload_n 1, 1) := by decide +kernel
theorem dI_about_2 : decode b_I_about 2 = .ok (.invokevirtual 46, 3) := by decide +kernel
theorem dI_about_5 : decode b_I_about 5 = .ok (.astore_n 3, 1) := by decide +kernel
theorem dI_about_6 : decode b_I_about 6 = .ok (.aload_n 3, 1) := by decide +kernel
theorem dI_about_7 : decode b_I_about 7 = .ok (.ifnonnull 13, 3) := by decide +kernel
theorem dI_about_10 : decode b_I_about 10 = .ok (.new 124, 3) := by decide +kernel
theorem dI_about_13 : decode b_I_about 13 = .ok (.dup, 1) := by decide +kernel
theorem dI_about_14 : decode b_I_about 14 = .ok (.ldc 126, 2) := by decide +kernel
theorem dI_about_16 : decode b_I_about 16 = .ok (.invokespecial 128, 3) := by decide +kernel
theorem dI_about_19 : decode b_I_about 19 = .ok (.athrow, 1) := by decide +kernel
theorem dI_about_20 : decode b_I_about 20 = .ok (.iload_n 2, 1) := by decide +kernel
theorem dI_about_21 : decode b_I_about 21 = .ok (.tableswitch 110 0 8 #[51, 56, 75, 80, 85, 90, 95, 100, 105], 51) := by decide +kernel
theorem dI_about_72 : decode b_I_about 72 = .ok (.aload_n 3, 1) := by decide +kernel
theorem dI_about_73 : decode b_I_about 73 = .ok (.getfield 50, 3) := by decide +kernel
theorem dI_about_76 : decode b_I_about 76 = .ok (.ireturn, 1) := by decide +kernel
theorem dI_about_77 : decode b_I_about 77 = .ok (.aload_n 3, 1) := by decide +kernel
theorem dI_about_78 : decode b_I_about 78 = .ok (.getfield 77, 3) := by decide +kernel
theorem dI_about_81 : decode b_I_about 81 = .ok (.ifnonnull 7, 3) := by decide +kernel
theorem dI_about_84 : decode b_I_about 84 = .ok (.iconst (-1), 1) := by decide +kernel
theorem dI_about_85 : decode b_I_about 85 = .ok (.goto 10, 3) := by decide +kernel
theorem dI_about_88 : decode b_I_about 88 = .ok (.aload_n 3, 1) := by decide +kernel
theorem dI_about_89 : decode b_I_about 89 = .ok (.getfield 77, 3) := by decide +kernel
theorem dI_about_92 : decode b_I_about 92 = .ok (.getfield 81, 3) := by decide +kernel
theorem dI_about_95 : decode b_I_about 95 = .ok (.ireturn, 1) := by decide +kernel
theorem dI_about_96 : decode b_I_about 96 = .ok (.aload_n 3, 1) := by decide +kernel
theorem dI_about_97 : decode b_I_about 97 = .ok (.getfield 59, 3) := by decide +kernel
theorem dI_about_100 : decode b_I_about 100 = .ok (.ireturn, 1) := by decide +kernel
theorem dI_about_101 : decode b_I_about 101 = .ok (.aload_n 3, 1) := by decide +kernel
theorem dI_about_102 : decode b_I_about 102 = .ok (.getfield 131, 3) := by decide +kernel
theorem dI_about_105 : decode b_I_about 105 = .ok (.ireturn, 1) := by decide +kernel
theorem dI_about_106 : decode b_I_about 106 = .ok (.aload_n 3, 1) := by decide +kernel
theorem dI_about_107 : decode b_I_about 107 = .ok (.getfield 53, 3) := by decide +kernel
theorem dI_about_110 : decode b_I_about 110 = .ok (.ireturn, 1) := by decide +kernel
theorem dI_about_111 : decode b_I_about 111 = .ok (.aload_n 3, 1) := by decide +kernel
theorem dI_about_112 : decode b_I_about 112 = .ok (.getfield 93, 3) := by decide +kernel
theorem dI_about_115 : decode b_I_about 115 = .ok (.ireturn, 1) := by decide +kernel
theorem dI_about_116 : decode b_I_about 116 = .ok (.aload_n 3, 1) := by decide +kernel
theorem dI_about_117 : decode b_I_about 117 = .ok (.getfield 111, 3) := by decide +kernel
theorem dI_about_120 : decode b_I_about 120 = .ok (.ireturn, 1) := by decide +kernel
theorem dI_about_121 : decode b_I_about 121 = .ok (.aload_n 3, 1) := by decide +kernel
theorem dI_about_122 : decode b_I_about 122 = .ok (.getfield 134, 3) := by decide +kernel
theorem dI_about_125 : decode b_I_about 125 = .ok (.ireturn, 1) := by decide +kernel
theorem dI_about_126 : decode b_I_about 126 = .ok (.aload_n 3, 1) := by decide +kernel
theorem dI_about_127 : decode b_I_about 127 = .ok (.getfield 137, 3) := by decide +kernel
theorem dI_about_130 : decode b_I_about 130 = .ok (.ireturn, 1) := by decide +kernel
theorem dI_about_131 : decode b_I_about 131 = .ok (.new 124, 3) := by decide +kernel
theorem dI_about_134 : decode b_I_about 134 = .ok (.dup, 1) := by decide +kernel
theorem dI_about_135 : decode b_I_about 135 = .ok (.ldc 140, 2) := by decide +kernel
theorem dI_about_137 : decode b_I_about 137 = .ok (.invokespecial 128, 3) := by decide +kernel
theorem dI_about_140 : decode b_I_about 140 = .ok (.athrow, 1) := by decide +kernel
theorem dI_told_0 : decode b_I_told 0 = .ok (.aload_n 0, 1) := by decide +kernel
theorem dI_told_1 : decode b_I_told 1 = .ok (.iload_n 1, 1) := by decide +kernel
theorem dI_told_2 : decode b_I_told 2 = .ok (.invokevirtual 46, 3) := by decide +kernel
theorem dI_told_5 : decode b_I_told 5 = .ok (.astore 4, 2) := by decide +kernel
theorem dI_told_7 : decode b_I_told 7 = .ok (.aload 4, 2) := by decide +kernel
theorem dI_told_9 : decode b_I_told 9 = .ok (.ifnonnull 7, 3) := by decide +kernel
theorem dI_told_12 : decode b_I_told 12 = .ok (.aconst_null, 1) := by decide +kernel
theorem dI_told_13 : decode b_I_told 13 = .ok (.goto 9, 3) := by decide +kernel
theorem dI_told_16 : decode b_I_told 16 = .ok (.aload 4, 2) := by decide +kernel
theorem dI_told_18 : decode b_I_told 18 = .ok (.iload_n 2, 1) := by decide +kernel
theorem dI_told_19 : decode b_I_told 19 = .ok (.invokevirtual 142, 3) := by decide +kernel
theorem dI_told_22 : decode b_I_told 22 = .ok (.astore 5, 2) := by decide +kernel
theorem dI_told_24 : decode b_I_told 24 = .ok (.aload 5, 2) := by decide +kernel
theorem dI_told_26 : decode b_I_told 26 = .ok (.ifnonnull 13, 3) := by decide +kernel
theorem dI_told_29 : decode b_I_told 29 = .ok (.new 124, 3) := by decide +kernel
theorem dI_told_32 : decode b_I_told 32 = .ok (.dup, 1) := by decide +kernel
theorem dI_told_33 : decode b_I_told 33 = .ok (.ldc 146, 2) := by decide +kernel
theorem dI_told_35 : decode b_I_told 35 = .ok (.invokespecial 128, 3) := by decide +kernel
theorem dI_told_38 : decode b_I_told 38 = .ok (.athrow, 1) := by decide +kernel
theorem dI_told_39 : decode b_I_told 39 = .ok (.iload_n 3, 1) := by decide +kernel
theorem dI_told_40 : decode b_I_told 40 = .ok (.tableswitch 46 0 2 #[28, 34, 40], 28) := by decide +kernel
theorem dI_told_68 : decode b_I_told 68 = .ok (.aload 5, 2) := by decide +kernel
theorem dI_told_70 : decode b_I_told 70 = .ok (.getfield 81, 3) := by decide +kernel
theorem dI_told_73 : decode b_I_told 73 = .ok (.ireturn, 1) := by decide +kernel
theorem dI_told_74 : decode b_I_told 74 = .ok (.aload 5, 2) := by decide +kernel
theorem dI_told_76 : decode b_I_told 76 = .ok (.getfield 96, 3) := by decide +kernel
theorem dI_told_79 : decode b_I_told 79 = .ok (.ireturn, 1) := by decide +kernel
theorem dI_told_80 : decode b_I_told 80 = .ok (.aload 5, 2) := by decide +kernel
theorem dI_told_82 : decode b_I_told 82 = .ok (.getfield 90, 3) := by decide +kernel
theorem dI_told_85 : decode b_I_told 85 = .ok (.ireturn, 1) := by decide +kernel
theorem dI_told_86 : decode b_I_told 86 = .ok (.new 124, 3) := by decide +kernel
theorem dI_told_89 : decode b_I_told 89 = .ok (.dup, 1) := by decide +kernel
theorem dI_told_90 : decode b_I_told 90 = .ok (.ldc 140, 2) := by decide +kernel
theorem dI_told_92 : decode b_I_told 92 = .ok (.invokespecial 128, 3) := by decide +kernel
theorem dI_told_95 : decode b_I_told 95 = .ok (.athrow, 1) := by decide +kernel
theorem dI_statistics_0 : decode b_I_statistics 0 = .ok (.aload_n 0, 1) := by decide +kernel
theorem dI_statistics_1 : decode b_I_statistics 1 = .ok (.iload_n 1, 1) := by decide +kernel
theorem dI_statistics_2 : decode b_I_statistics 2 = .ok (.invokevirtual 38, 3) := by decide +kernel
theorem dI_statistics_5 : decode b_I_statistics 5 = .ok (.ifCond .ne 5, 3) := by decide +kernel
theorem dI_statistics_8 : decode b_I_statistics 8 = .ok (.iconst (-1), 1) := by decide +kernel
theorem dI_statistics_9 : decode b_I_statistics 9 = .ok (.ireturn, 1) := by decide +kernel
theorem dI_statistics_10 : decode b_I_statistics 10 = .ok (.iload_n 2, 1) := by decide +kernel
theorem dI_statistics_11 : decode b_I_statistics 11 = .ok (.tableswitch 89 0 5 #[37, 43, 51, 59, 73, 81], 37) := by decide +kernel
theorem dI_statistics_48 : decode b_I_statistics 48 = .ok (.aload_n 0, 1) := by decide +kernel
theorem dI_statistics_49 : decode b_I_statistics 49 = .ok (.iload_n 1, 1) := by decide +kernel
theorem dI_statistics_50 : decode b_I_statistics 50 = .ok (.invokevirtual 148, 3) := by decide +kernel
theorem dI_statistics_53 : decode b_I_statistics 53 = .ok (.ireturn, 1) := by decide +kernel
theorem dI_statistics_54 : decode b_I_statistics 54 = .ok (.aload_n 0, 1) := by decide +kernel
theorem dI_statistics_55 : decode b_I_statistics 55 = .ok (.iload_n 1, 1) := by decide +kernel
theorem dI_statistics_56 : decode b_I_statistics 56 = .ok (.bipush 6, 2) := by decide +kernel
theorem dI_statistics_58 : decode b_I_statistics 58 = .ok (.invokevirtual 152, 3) := by decide +kernel
theorem dI_statistics_61 : decode b_I_statistics 61 = .ok (.ireturn, 1) := by decide +kernel
theorem dI_statistics_62 : decode b_I_statistics 62 = .ok (.aload_n 0, 1) := by decide +kernel
theorem dI_statistics_63 : decode b_I_statistics 63 = .ok (.iload_n 1, 1) := by decide +kernel
theorem dI_statistics_64 : decode b_I_statistics 64 = .ok (.bipush 7, 2) := by decide +kernel
theorem dI_statistics_66 : decode b_I_statistics 66 = .ok (.invokevirtual 152, 3) := by decide +kernel
theorem dI_statistics_69 : decode b_I_statistics 69 = .ok (.ireturn, 1) := by decide +kernel
theorem dI_statistics_70 : decode b_I_statistics 70 = .ok (.aload_n 0, 1) := by decide +kernel
theorem dI_statistics_71 : decode b_I_statistics 71 = .ok (.iload_n 1, 1) := by decide +kernel
theorem dI_statistics_72 : decode b_I_statistics 72 = .ok (.iconst 4, 1) := by decide +kernel
theorem dI_statistics_73 : decode b_I_statistics 73 = .ok (.invokevirtual 155, 3) := by decide +kernel
theorem dI_statistics_76 : decode b_I_statistics 76 = .ok (.aload_n 0, 1) := by decide +kernel
theorem dI_statistics_77 : decode b_I_statistics 77 = .ok (.iload_n 1, 1) := by decide +kernel
theorem dI_statistics_78 : decode b_I_statistics 78 = .ok (.iconst 5, 1) := by decide +kernel
theorem dI_statistics_79 : decode b_I_statistics 79 = .ok (.invokevirtual 155, 3) := by decide +kernel
theorem dI_statistics_82 : decode b_I_statistics 82 = .ok (.iadd, 1) := by decide +kernel
theorem dI_statistics_83 : decode b_I_statistics 83 = .ok (.ireturn, 1) := by decide +kernel
theorem dI_statistics_84 : decode b_I_statistics 84 = .ok (.aload_n 0, 1) := by decide +kernel
theorem dI_statistics_85 : decode b_I_statistics 85 = .ok (.iload_n 1, 1) := by decide +kernel
theorem dI_statistics_86 : decode b_I_statistics 86 = .ok (.bipush 6, 2) := by decide +kernel
theorem dI_statistics_88 : decode b_I_statistics 88 = .ok (.invokevirtual 155, 3) := by decide +kernel
theorem dI_statistics_91 : decode b_I_statistics 91 = .ok (.ireturn, 1) := by decide +kernel
theorem dI_statistics_92 : decode b_I_statistics 92 = .ok (.aload_n 0, 1) := by decide +kernel
theorem dI_statistics_93 : decode b_I_statistics 93 = .ok (.iload_n 1, 1) := by decide +kernel
theorem dI_statistics_94 : decode b_I_statistics 94 = .ok (.bipush 7, 2) := by decide +kernel
theorem dI_statistics_96 : decode b_I_statistics 96 = .ok (.invokevirtual 155, 3) := by decide +kernel
theorem dI_statistics_99 : decode b_I_statistics 99 = .ok (.ireturn, 1) := by decide +kernel
theorem dI_statistics_100 : decode b_I_statistics 100 = .ok (.iconst (-1), 1) := by decide +kernel
theorem dI_statistics_101 : decode b_I_statistics 101 = .ok (.ireturn, 1) := by decide +kernel
theorem dI_overdue_0 : decode b_I_overdue 0 = .ok (.iconst 0, 1) := by decide +kernel
theorem dI_overdue_1 : decode b_I_overdue 1 = .ok (.istore_n 3, 1) := by decide +kernel
theorem dI_overdue_2 : decode b_I_overdue 2 = .ok (.iconst 0, 1) := by decide +kernel
theorem dI_overdue_3 : decode b_I_overdue 3 = .ok (.istore 4, 2) := by decide +kernel
theorem dI_overdue_5 : decode b_I_overdue 5 = .ok (.iload 4, 2) := by decide +kernel
theorem dI_overdue_7 : decode b_I_overdue 7 = .ok (.aload_n 0, 1) := by decide +kernel
theorem dI_overdue_8 : decode b_I_overdue 8 = .ok (.getfield 28, 3) := by decide +kernel
theorem dI_overdue_11 : decode b_I_overdue 11 = .ok (.if_icmp .ge 51, 3) := by decide +kernel
theorem dI_overdue_14 : decode b_I_overdue 14 = .ok (.aload_n 0, 1) := by decide +kernel
theorem dI_overdue_15 : decode b_I_overdue 15 = .ok (.iload 4, 2) := by decide +kernel
theorem dI_overdue_17 : decode b_I_overdue 17 = .ok (.invokevirtual 46, 3) := by decide +kernel
theorem dI_overdue_20 : decode b_I_overdue 20 = .ok (.astore 5, 2) := by decide +kernel
theorem dI_overdue_22 : decode b_I_overdue 22 = .ok (.aload 5, 2) := by decide +kernel
theorem dI_overdue_24 : decode b_I_overdue 24 = .ok (.ifnull 32, 3) := by decide +kernel
theorem dI_overdue_27 : decode b_I_overdue 27 = .ok (.aload 5, 2) := by decide +kernel
theorem dI_overdue_29 : decode b_I_overdue 29 = .ok (.getfield 50, 3) := by decide +kernel
theorem dI_overdue_32 : decode b_I_overdue 32 = .ok (.iconst 4, 1) := by decide +kernel
theorem dI_overdue_33 : decode b_I_overdue 33 = .ok (.if_icmp .ne 23, 3) := by decide +kernel
theorem dI_overdue_36 : decode b_I_overdue 36 = .ok (.iload_n 1, 1) := by decide +kernel
theorem dI_overdue_37 : decode b_I_overdue 37 = .ok (.aload 5, 2) := by decide +kernel
theorem dI_overdue_39 : decode b_I_overdue 39 = .ok (.getfield 111, 3) := by decide +kernel
theorem dI_overdue_42 : decode b_I_overdue 42 = .ok (.if_icmp .le 14, 3) := by decide +kernel
theorem dI_overdue_45 : decode b_I_overdue 45 = .ok (.iload_n 3, 1) := by decide +kernel
theorem dI_overdue_46 : decode b_I_overdue 46 = .ok (.iload_n 2, 1) := by decide +kernel
theorem dI_overdue_47 : decode b_I_overdue 47 = .ok (.if_icmp .ne 6, 3) := by decide +kernel
theorem dI_overdue_50 : decode b_I_overdue 50 = .ok (.iload 4, 2) := by decide +kernel
theorem dI_overdue_52 : decode b_I_overdue 52 = .ok (.ireturn, 1) := by decide +kernel
theorem dI_overdue_53 : decode b_I_overdue 53 = .ok (.iinc 3 1, 3) := by decide +kernel
theorem dI_overdue_56 : decode b_I_overdue 56 = .ok (.iinc 4 1, 3) := by decide +kernel
theorem dI_overdue_59 : decode b_I_overdue 59 = .ok (.goto (-54), 3) := by decide +kernel
theorem dI_overdue_62 : decode b_I_overdue 62 = .ok (.new 124, 3) := by decide +kernel
theorem dI_overdue_65 : decode b_I_overdue 65 = .ok (.dup, 1) := by decide +kernel
theorem dI_overdue_66 : decode b_I_overdue 66 = .ok (.ldc 158, 2) := by decide +kernel
theorem dI_overdue_68 : decode b_I_overdue 68 = .ok (.invokespecial 128, 3) := by decide +kernel
theorem dI_overdue_71 : decode b_I_overdue 71 = .ok (.athrow, 1) := by decide +kernel
theorem dI_isHouse_0 : decode b_I_isHouse 0 = .ok (.iload_n 1, 1) := by decide +kernel
theorem dI_isHouse_1 : decode b_I_isHouse 1 = .ok (.ifCond .lt 15, 3) := by decide +kernel
theorem dI_isHouse_4 : decode b_I_isHouse 4 = .ok (.iload_n 1, 1) := by decide +kernel
theorem dI_isHouse_5 : decode b_I_isHouse 5 = .ok (.aload_n 0, 1) := by decide +kernel
theorem dI_isHouse_6 : decode b_I_isHouse 6 = .ok (.getfield 18, 3) := by decide +kernel
theorem dI_isHouse_9 : decode b_I_isHouse 9 = .ok (.if_icmp .ge 7, 3) := by decide +kernel
theorem dI_isHouse_12 : decode b_I_isHouse 12 = .ok (.iconst 1, 1) := by decide +kernel
theorem dI_isHouse_13 : decode b_I_isHouse 13 = .ok (.goto 4, 3) := by decide +kernel
theorem dI_isHouse_16 : decode b_I_isHouse 16 = .ok (.iconst 0, 1) := by decide +kernel
theorem dI_isHouse_17 : decode b_I_isHouse 17 = .ok (.ireturn, 1) := by decide +kernel
theorem dI_isTime_0 : decode b_I_isTime 0 = .ok (.iload_n 1, 1) := by decide +kernel
theorem dI_isTime_1 : decode b_I_isTime 1 = .ok (.aload_n 0, 1) := by decide +kernel
theorem dI_isTime_2 : decode b_I_isTime 2 = .ok (.getfield 31, 3) := by decide +kernel
theorem dI_isTime_5 : decode b_I_isTime 5 = .ok (.if_icmp .lt 13, 3) := by decide +kernel
theorem dI_isTime_8 : decode b_I_isTime 8 = .ok (.iload_n 1, 1) := by decide +kernel
theorem dI_isTime_9 : decode b_I_isTime 9 = .ok (.ldc 160, 2) := by decide +kernel
theorem dI_isTime_11 : decode b_I_isTime 11 = .ok (.if_icmp .gt 7, 3) := by decide +kernel
theorem dI_isTime_14 : decode b_I_isTime 14 = .ok (.iconst 1, 1) := by decide +kernel
theorem dI_isTime_15 : decode b_I_isTime 15 = .ok (.goto 4, 3) := by decide +kernel
theorem dI_isTime_18 : decode b_I_isTime 18 = .ok (.iconst 0, 1) := by decide +kernel
theorem dI_isTime_19 : decode b_I_isTime 19 = .ok (.ireturn, 1) := by decide +kernel
theorem dI_find_0 : decode b_I_find 0 = .ok (.iload_n 1, 1) := by decide +kernel
theorem dI_find_1 : decode b_I_find 1 = .ok (.ifCond .lt 12, 3) := by decide +kernel
theorem dI_find_4 : decode b_I_find 4 = .ok (.iload_n 1, 1) := by decide +kernel
theorem dI_find_5 : decode b_I_find 5 = .ok (.aload_n 0, 1) := by decide +kernel
theorem dI_find_6 : decode b_I_find 6 = .ok (.getfield 24, 3) := by decide +kernel
theorem dI_find_9 : decode b_I_find 9 = .ok (.arraylength, 1) := by decide +kernel
theorem dI_find_10 : decode b_I_find 10 = .ok (.if_icmp .lt 7, 3) := by decide +kernel
theorem dI_find_13 : decode b_I_find 13 = .ok (.aconst_null, 1) := by decide +kernel
theorem dI_find_14 : decode b_I_find 14 = .ok (.goto 9, 3) := by decide +kernel
theorem dI_find_17 : decode b_I_find 17 = .ok (.aload_n 0, 1) := by decide +kernel
theorem dI_find_18 : decode b_I_find 18 = .ok (.getfield 24, 3) := by decide +kernel
theorem dI_find_21 : decode b_I_find 21 = .ok (.iload_n 1, 1) := by decide +kernel
theorem dI_find_22 : decode b_I_find 22 = .ok (.aaload, 1) := by decide +kernel
theorem dI_find_23 : decode b_I_find 23 = .ok (.areturn, 1) := by decide +kernel
theorem dI_isMessage_0 : decode b_I_isMessage 0 = .ok (.iload_n 0, 1) := by decide +kernel
theorem dI_isMessage_1 : decode b_I_isMessage 1 = .ok (.ifCond .lt 10, 3) := by decide +kernel
theorem dI_isMessage_4 : decode b_I_isMessage 4 = .ok (.iload_n 0, 1) := by decide +kernel
theorem dI_isMessage_5 : decode b_I_isMessage 5 = .ok (.sipush 1000, 3) := by decide +kernel
theorem dI_isMessage_8 : decode b_I_isMessage 8 = .ok (.if_icmp .le 5, 3) := by decide +kernel
theorem dI_isMessage_11 : decode b_I_isMessage 11 = .ok (.iconst 0, 1) := by decide +kernel
theorem dI_isMessage_12 : decode b_I_isMessage 12 = .ok (.ireturn, 1) := by decide +kernel
theorem dI_isMessage_13 : decode b_I_isMessage 13 = .ok (.iload_n 1, 1) := by decide +kernel
theorem dI_isMessage_14 : decode b_I_isMessage 14 = .ok (.iconst 1, 1) := by decide +kernel
theorem dI_isMessage_15 : decode b_I_isMessage 15 = .ok (.if_icmp .lt 8, 3) := by decide +kernel
theorem dI_isMessage_18 : decode b_I_isMessage 18 = .ok (.iload_n 1, 1) := by decide +kernel
theorem dI_isMessage_19 : decode b_I_isMessage 19 = .ok (.iconst 5, 1) := by decide +kernel
theorem dI_isMessage_20 : decode b_I_isMessage 20 = .ok (.if_icmp .le 5, 3) := by decide +kernel
theorem dI_isMessage_23 : decode b_I_isMessage 23 = .ok (.iconst 0, 1) := by decide +kernel
theorem dI_isMessage_24 : decode b_I_isMessage 24 = .ok (.ireturn, 1) := by decide +kernel
theorem dI_isMessage_25 : decode b_I_isMessage 25 = .ok (.iload_n 1, 1) := by decide +kernel
theorem dI_isMessage_26 : decode b_I_isMessage 26 = .ok (.iconst 4, 1) := by decide +kernel
theorem dI_isMessage_27 : decode b_I_isMessage 27 = .ok (.if_icmp .ne 14, 3) := by decide +kernel
theorem dI_isMessage_30 : decode b_I_isMessage 30 = .ok (.iload_n 2, 1) := by decide +kernel
theorem dI_isMessage_31 : decode b_I_isMessage 31 = .ok (.iload_n 3, 1) := by decide +kernel
theorem dI_isMessage_32 : decode b_I_isMessage 32 = .ok (.if_icmp .le 13, 3) := by decide +kernel
theorem dI_isMessage_35 : decode b_I_isMessage 35 = .ok (.iload_n 2, 1) := by decide +kernel
theorem dI_isMessage_36 : decode b_I_isMessage 36 = .ok (.ldc 160, 2) := by decide +kernel
theorem dI_isMessage_38 : decode b_I_isMessage 38 = .ok (.if_icmp .gt 7, 3) := by decide +kernel
theorem dI_isMessage_41 : decode b_I_isMessage 41 = .ok (.iconst 1, 1) := by decide +kernel
theorem dI_isMessage_42 : decode b_I_isMessage 42 = .ok (.goto 4, 3) := by decide +kernel
theorem dI_isMessage_45 : decode b_I_isMessage 45 = .ok (.iconst 0, 1) := by decide +kernel
theorem dI_isMessage_46 : decode b_I_isMessage 46 = .ok (.ireturn, 1) := by decide +kernel
theorem dI_fits_0 : decode b_I_fits 0 = .ok (.iload_n 2, 1) := by decide +kernel
theorem dI_fits_1 : decode b_I_fits 1 = .ok (.iconst 1, 1) := by decide +kernel
theorem dI_fits_2 : decode b_I_fits 2 = .ok (.if_icmp .ne 7, 3) := by decide +kernel
theorem dI_fits_5 : decode b_I_fits 5 = .ok (.iconst 1, 1) := by decide +kernel
theorem dI_fits_6 : decode b_I_fits 6 = .ok (.goto 4, 3) := by decide +kernel
theorem dI_fits_9 : decode b_I_fits 9 = .ok (.iconst 0, 1) := by decide +kernel
theorem dI_fits_10 : decode b_I_fits 10 = .ok (.istore_n 3, 1) := by decide +kernel
theorem dI_fits_11 : decode b_I_fits 11 = .ok (.iload_n 0, 1) := by decide +kernel
theorem dI_fits_12 : decode b_I_fits 12 = .ok (.tableswitch 69 1 5 #[36, 38, 36, 38, 53], 36) := by decide +kernel
theorem dI_fits_48 : decode b_I_fits 48 = .ok (.iload_n 3, 1) := by decide +kernel
theorem dI_fits_49 : decode b_I_fits 49 = .ok (.ireturn, 1) := by decide +kernel
theorem dI_fits_50 : decode b_I_fits 50 = .ok (.iload_n 3, 1) := by decide +kernel
theorem dI_fits_51 : decode b_I_fits 51 = .ok (.ifCond .ne 8, 3) := by decide +kernel
theorem dI_fits_54 : decode b_I_fits 54 = .ok (.iload_n 2, 1) := by decide +kernel
theorem dI_fits_55 : decode b_I_fits 55 = .ok (.iconst 3, 1) := by decide +kernel
theorem dI_fits_56 : decode b_I_fits 56 = .ok (.if_icmp .ne 7, 3) := by decide +kernel
theorem dI_fits_59 : decode b_I_fits 59 = .ok (.iconst 1, 1) := by decide +kernel
theorem dI_fits_60 : decode b_I_fits 60 = .ok (.goto 4, 3) := by decide +kernel
theorem dI_fits_63 : decode b_I_fits 63 = .ok (.iconst 0, 1) := by decide +kernel
theorem dI_fits_64 : decode b_I_fits 64 = .ok (.ireturn, 1) := by decide +kernel
theorem dI_fits_65 : decode b_I_fits 65 = .ok (.iload_n 2, 1) := by decide +kernel
theorem dI_fits_66 : decode b_I_fits 66 = .ok (.iconst 4, 1) := by decide +kernel
theorem dI_fits_67 : decode b_I_fits 67 = .ok (.if_icmp .ne 12, 3) := by decide +kernel
theorem dI_fits_70 : decode b_I_fits 70 = .ok (.iload_n 1, 1) := by decide +kernel
theorem dI_fits_71 : decode b_I_fits 71 = .ok (.iconst 5, 1) := by decide +kernel
theorem dI_fits_72 : decode b_I_fits 72 = .ok (.if_icmp .ne 7, 3) := by decide +kernel
theorem dI_fits_75 : decode b_I_fits 75 = .ok (.iconst 1, 1) := by decide +kernel
theorem dI_fits_76 : decode b_I_fits 76 = .ok (.goto 4, 3) := by decide +kernel
theorem dI_fits_79 : decode b_I_fits 79 = .ok (.iconst 0, 1) := by decide +kernel
theorem dI_fits_80 : decode b_I_fits 80 = .ok (.ireturn, 1) := by decide +kernel
theorem dI_fits_81 : decode b_I_fits 81 = .ok (.iconst 0, 1) := by decide +kernel
theorem dI_fits_82 : decode b_I_fits 82 = .ok (.ireturn, 1) := by decide +kernel
theorem dI_take_0 : decode b_I_take 0 = .ok (.iload_n 2, 1) := by decide +kernel
theorem dI_take_1 : decode b_I_take 1 = .ok (.tableswitch 105 1 5 #[35, 43, 58, 71, 89], 35) := by decide +kernel
theorem dI_take_36 : decode b_I_take 36 = .ok (.aload_n 1, 1) := by decide +kernel
theorem dI_take_37 : decode b_I_take 37 = .ok (.iconst 3, 1) := by decide +kernel
theorem dI_take_38 : decode b_I_take 38 = .ok (.putfield 96, 3) := by decide +kernel
theorem dI_take_41 : decode b_I_take 41 = .ok (.goto 65, 3) := by decide +kernel
theorem dI_take_44 : decode b_I_take 44 = .ok (.aload_n 1, 1) := by decide +kernel
theorem dI_take_45 : decode b_I_take 45 = .ok (.bipush 6, 2) := by decide +kernel
theorem dI_take_47 : decode b_I_take 47 = .ok (.putfield 96, 3) := by decide +kernel
theorem dI_take_50 : decode b_I_take 50 = .ok (.aload_n 0, 1) := by decide +kernel
theorem dI_take_51 : decode b_I_take 51 = .ok (.iload 4, 2) := by decide +kernel
theorem dI_take_53 : decode b_I_take 53 = .ok (.invokevirtual 74, 3) := by decide +kernel
theorem dI_take_56 : decode b_I_take 56 = .ok (.goto 50, 3) := by decide +kernel
theorem dI_take_59 : decode b_I_take 59 = .ok (.aload_n 1, 1) := by decide +kernel
theorem dI_take_60 : decode b_I_take 60 = .ok (.iconst 2, 1) := by decide +kernel
theorem dI_take_61 : decode b_I_take 61 = .ok (.putfield 96, 3) := by decide +kernel
theorem dI_take_64 : decode b_I_take 64 = .ok (.aload_n 0, 1) := by decide +kernel
theorem dI_take_65 : decode b_I_take 65 = .ok (.iconst 2, 1) := by decide +kernel
theorem dI_take_66 : decode b_I_take 66 = .ok (.putfield 50, 3) := by decide +kernel
theorem dI_take_69 : decode b_I_take 69 = .ok (.goto 37, 3) := by decide +kernel
theorem dI_take_72 : decode b_I_take 72 = .ok (.aload_n 1, 1) := by decide +kernel
theorem dI_take_73 : decode b_I_take 73 = .ok (.iconst 4, 1) := by decide +kernel
theorem dI_take_74 : decode b_I_take 74 = .ok (.putfield 96, 3) := by decide +kernel
theorem dI_take_77 : decode b_I_take 77 = .ok (.aload_n 0, 1) := by decide +kernel
theorem dI_take_78 : decode b_I_take 78 = .ok (.iconst 3, 1) := by decide +kernel
theorem dI_take_79 : decode b_I_take 79 = .ok (.putfield 50, 3) := by decide +kernel
theorem dI_take_82 : decode b_I_take 82 = .ok (.aload_n 0, 1) := by decide +kernel
theorem dI_take_83 : decode b_I_take 83 = .ok (.iload_n 3, 1) := by decide +kernel
theorem dI_take_84 : decode b_I_take 84 = .ok (.putfield 111, 3) := by decide +kernel
theorem dI_take_87 : decode b_I_take 87 = .ok (.goto 19, 3) := by decide +kernel
theorem dI_take_90 : decode b_I_take 90 = .ok (.aload_n 1, 1) := by decide +kernel
theorem dI_take_91 : decode b_I_take 91 = .ok (.iconst 5, 1) := by decide +kernel
theorem dI_take_92 : decode b_I_take 92 = .ok (.putfield 96, 3) := by decide +kernel
theorem dI_take_95 : decode b_I_take 95 = .ok (.aload_n 0, 1) := by decide +kernel
theorem dI_take_96 : decode b_I_take 96 = .ok (.bipush 6, 2) := by decide +kernel
theorem dI_take_98 : decode b_I_take 98 = .ok (.iload 4, 2) := by decide +kernel
theorem dI_take_100 : decode b_I_take 100 = .ok (.invokevirtual 117, 3) := by decide +kernel
theorem dI_take_103 : decode b_I_take 103 = .ok (.goto 3, 3) := by decide +kernel
theorem dI_take_106 : decode b_I_take 106 = .ok (.return_, 1) := by decide +kernel
theorem dI_requestsOf_0 : decode b_I_requestsOf 0 = .ok (.iconst 0, 1) := by decide +kernel
theorem dI_requestsOf_1 : decode b_I_requestsOf 1 = .ok (.istore_n 2, 1) := by decide +kernel
theorem dI_requestsOf_2 : decode b_I_requestsOf 2 = .ok (.aload_n 0, 1) := by decide +kernel
theorem dI_requestsOf_3 : decode b_I_requestsOf 3 = .ok (.getfield 24, 3) := by decide +kernel
theorem dI_requestsOf_6 : decode b_I_requestsOf 6 = .ok (.astore_n 3, 1) := by decide +kernel
theorem dI_requestsOf_7 : decode b_I_requestsOf 7 = .ok (.aload_n 3, 1) := by decide +kernel
theorem dI_requestsOf_8 : decode b_I_requestsOf 8 = .ok (.arraylength, 1) := by decide +kernel
theorem dI_requestsOf_9 : decode b_I_requestsOf 9 = .ok (.istore 4, 2) := by decide +kernel
theorem dI_requestsOf_11 : decode b_I_requestsOf 11 = .ok (.iconst 0, 1) := by decide +kernel
theorem dI_requestsOf_12 : decode b_I_requestsOf 12 = .ok (.istore 5, 2) := by decide +kernel
theorem dI_requestsOf_14 : decode b_I_requestsOf 14 = .ok (.iload 5, 2) := by decide +kernel
theorem dI_requestsOf_16 : decode b_I_requestsOf 16 = .ok (.iload 4, 2) := by decide +kernel
theorem dI_requestsOf_18 : decode b_I_requestsOf 18 = .ok (.if_icmp .ge 32, 3) := by decide +kernel
theorem dI_requestsOf_21 : decode b_I_requestsOf 21 = .ok (.aload_n 3, 1) := by decide +kernel
theorem dI_requestsOf_22 : decode b_I_requestsOf 22 = .ok (.iload 5, 2) := by decide +kernel
theorem dI_requestsOf_24 : decode b_I_requestsOf 24 = .ok (.aaload, 1) := by decide +kernel
theorem dI_requestsOf_25 : decode b_I_requestsOf 25 = .ok (.astore 6, 2) := by decide +kernel
theorem dI_requestsOf_27 : decode b_I_requestsOf 27 = .ok (.aload 6, 2) := by decide +kernel
theorem dI_requestsOf_29 : decode b_I_requestsOf 29 = .ok (.ifnull 15, 3) := by decide +kernel
theorem dI_requestsOf_32 : decode b_I_requestsOf 32 = .ok (.aload 6, 2) := by decide +kernel
theorem dI_requestsOf_34 : decode b_I_requestsOf 34 = .ok (.getfield 53, 3) := by decide +kernel
theorem dI_requestsOf_37 : decode b_I_requestsOf 37 = .ok (.iload_n 1, 1) := by decide +kernel
theorem dI_requestsOf_38 : decode b_I_requestsOf 38 = .ok (.if_icmp .ne 6, 3) := by decide +kernel
theorem dI_requestsOf_41 : decode b_I_requestsOf 41 = .ok (.iinc 2 1, 3) := by decide +kernel
theorem dI_requestsOf_44 : decode b_I_requestsOf 44 = .ok (.iinc 5 1, 3) := by decide +kernel
theorem dI_requestsOf_47 : decode b_I_requestsOf 47 = .ok (.goto (-33), 3) := by decide +kernel
theorem dI_requestsOf_50 : decode b_I_requestsOf 50 = .ok (.iload_n 2, 1) := by decide +kernel
theorem dI_requestsOf_51 : decode b_I_requestsOf 51 = .ok (.ireturn, 1) := by decide +kernel
theorem dI_requestsIn_0 : decode b_I_requestsIn 0 = .ok (.iconst 0, 1) := by decide +kernel
theorem dI_requestsIn_1 : decode b_I_requestsIn 1 = .ok (.istore_n 3, 1) := by decide +kernel
theorem dI_requestsIn_2 : decode b_I_requestsIn 2 = .ok (.aload_n 0, 1) := by decide +kernel
theorem dI_requestsIn_3 : decode b_I_requestsIn 3 = .ok (.getfield 24, 3) := by decide +kernel
theorem dI_requestsIn_6 : decode b_I_requestsIn 6 = .ok (.astore 4, 2) := by decide +kernel
theorem dI_requestsIn_8 : decode b_I_requestsIn 8 = .ok (.aload 4, 2) := by decide +kernel
theorem dI_requestsIn_10 : decode b_I_requestsIn 10 = .ok (.arraylength, 1) := by decide +kernel
theorem dI_requestsIn_11 : decode b_I_requestsIn 11 = .ok (.istore 5, 2) := by decide +kernel
theorem dI_requestsIn_13 : decode b_I_requestsIn 13 = .ok (.iconst 0, 1) := by decide +kernel
theorem dI_requestsIn_14 : decode b_I_requestsIn 14 = .ok (.istore 6, 2) := by decide +kernel
theorem dI_requestsIn_16 : decode b_I_requestsIn 16 = .ok (.iload 6, 2) := by decide +kernel
theorem dI_requestsIn_18 : decode b_I_requestsIn 18 = .ok (.iload 5, 2) := by decide +kernel
theorem dI_requestsIn_20 : decode b_I_requestsIn 20 = .ok (.if_icmp .ge 42, 3) := by decide +kernel
theorem dI_requestsIn_23 : decode b_I_requestsIn 23 = .ok (.aload 4, 2) := by decide +kernel
theorem dI_requestsIn_25 : decode b_I_requestsIn 25 = .ok (.iload 6, 2) := by decide +kernel
theorem dI_requestsIn_27 : decode b_I_requestsIn 27 = .ok (.aaload, 1) := by decide +kernel
theorem dI_requestsIn_28 : decode b_I_requestsIn 28 = .ok (.astore 7, 2) := by decide +kernel
theorem dI_requestsIn_30 : decode b_I_requestsIn 30 = .ok (.aload 7, 2) := by decide +kernel
theorem dI_requestsIn_32 : decode b_I_requestsIn 32 = .ok (.ifnull 24, 3) := by decide +kernel
theorem dI_requestsIn_35 : decode b_I_requestsIn 35 = .ok (.aload 7, 2) := by decide +kernel
theorem dI_requestsIn_37 : decode b_I_requestsIn 37 = .ok (.getfield 53, 3) := by decide +kernel
theorem dI_requestsIn_40 : decode b_I_requestsIn 40 = .ok (.iload_n 1, 1) := by decide +kernel
theorem dI_requestsIn_41 : decode b_I_requestsIn 41 = .ok (.if_icmp .ne 15, 3) := by decide +kernel
theorem dI_requestsIn_44 : decode b_I_requestsIn 44 = .ok (.aload 7, 2) := by decide +kernel
theorem dI_requestsIn_46 : decode b_I_requestsIn 46 = .ok (.getfield 50, 3) := by decide +kernel
theorem dI_requestsIn_49 : decode b_I_requestsIn 49 = .ok (.iload_n 2, 1) := by decide +kernel
theorem dI_requestsIn_50 : decode b_I_requestsIn 50 = .ok (.if_icmp .ne 6, 3) := by decide +kernel
theorem dI_requestsIn_53 : decode b_I_requestsIn 53 = .ok (.iinc 3 1, 3) := by decide +kernel
theorem dI_requestsIn_56 : decode b_I_requestsIn 56 = .ok (.iinc 6 1, 3) := by decide +kernel
theorem dI_requestsIn_59 : decode b_I_requestsIn 59 = .ok (.goto (-43), 3) := by decide +kernel
theorem dI_requestsIn_62 : decode b_I_requestsIn 62 = .ok (.iload_n 3, 1) := by decide +kernel
theorem dI_requestsIn_63 : decode b_I_requestsIn 63 = .ok (.ireturn, 1) := by decide +kernel
theorem dI_lentIn_0 : decode b_I_lentIn 0 = .ok (.iconst 0, 1) := by decide +kernel
theorem dI_lentIn_1 : decode b_I_lentIn 1 = .ok (.istore_n 3, 1) := by decide +kernel
theorem dI_lentIn_2 : decode b_I_lentIn 2 = .ok (.aload_n 0, 1) := by decide +kernel
theorem dI_lentIn_3 : decode b_I_lentIn 3 = .ok (.getfield 24, 3) := by decide +kernel
theorem dI_lentIn_6 : decode b_I_lentIn 6 = .ok (.astore 4, 2) := by decide +kernel
theorem dI_lentIn_8 : decode b_I_lentIn 8 = .ok (.aload 4, 2) := by decide +kernel
theorem dI_lentIn_10 : decode b_I_lentIn 10 = .ok (.arraylength, 1) := by decide +kernel
theorem dI_lentIn_11 : decode b_I_lentIn 11 = .ok (.istore 5, 2) := by decide +kernel
theorem dI_lentIn_13 : decode b_I_lentIn 13 = .ok (.iconst 0, 1) := by decide +kernel
theorem dI_lentIn_14 : decode b_I_lentIn 14 = .ok (.istore 6, 2) := by decide +kernel
theorem dI_lentIn_16 : decode b_I_lentIn 16 = .ok (.iload 6, 2) := by decide +kernel
theorem dI_lentIn_18 : decode b_I_lentIn 18 = .ok (.iload 5, 2) := by decide +kernel
theorem dI_lentIn_20 : decode b_I_lentIn 20 = .ok (.if_icmp .ge 34, 3) := by decide +kernel
theorem dI_lentIn_23 : decode b_I_lentIn 23 = .ok (.aload 4, 2) := by decide +kernel
theorem dI_lentIn_25 : decode b_I_lentIn 25 = .ok (.iload 6, 2) := by decide +kernel
theorem dI_lentIn_27 : decode b_I_lentIn 27 = .ok (.aaload, 1) := by decide +kernel
theorem dI_lentIn_28 : decode b_I_lentIn 28 = .ok (.astore 7, 2) := by decide +kernel
theorem dI_lentIn_30 : decode b_I_lentIn 30 = .ok (.aload 7, 2) := by decide +kernel
theorem dI_lentIn_32 : decode b_I_lentIn 32 = .ok (.ifnull 16, 3) := by decide +kernel
theorem dI_lentIn_35 : decode b_I_lentIn 35 = .ok (.aload 7, 2) := by decide +kernel
theorem dI_lentIn_37 : decode b_I_lentIn 37 = .ok (.iload_n 1, 1) := by decide +kernel
theorem dI_lentIn_38 : decode b_I_lentIn 38 = .ok (.iload_n 2, 1) := by decide +kernel
theorem dI_lentIn_39 : decode b_I_lentIn 39 = .ok (.invokevirtual 161, 3) := by decide +kernel
theorem dI_lentIn_42 : decode b_I_lentIn 42 = .ok (.ifCond .eq 6, 3) := by decide +kernel
theorem dI_lentIn_45 : decode b_I_lentIn 45 = .ok (.iinc 3 1, 3) := by decide +kernel
theorem dI_lentIn_48 : decode b_I_lentIn 48 = .ok (.iinc 6 1, 3) := by decide +kernel
theorem dI_lentIn_51 : decode b_I_lentIn 51 = .ok (.goto (-35), 3) := by decide +kernel
theorem dI_lentIn_54 : decode b_I_lentIn 54 = .ok (.iload_n 3, 1) := by decide +kernel
theorem dI_lentIn_55 : decode b_I_lentIn 55 = .ok (.ireturn, 1) := by decide +kernel
