theorem dM_init_0 : decode b_M_init 0 = .ok (.aload_n 0, 1) := by decide +kernel
theorem dM_init_1 : decode b_M_init 1 = .ok (.invokespecial 1, 3) := by decide +kernel
theorem dM_init_4 : decode b_M_init 4 = .ok (.aload_n 0, 1) := by decide +kernel
theorem dM_init_5 : decode b_M_init 5 = .ok (.ldc 7, 2) := by decide +kernel
theorem dM_init_7 : decode b_M_init 7 = .ok (.putfield 8, 3) := by decide +kernel
theorem dM_init_10 : decode b_M_init 10 = .ok (.aload_n 0, 1) := by decide +kernel
theorem dM_init_11 : decode b_M_init 11 = .ok (.bipush 100, 2) := by decide +kernel
theorem dM_init_13 : decode b_M_init 13 = .ok (.newarray .int, 2) := by decide +kernel
theorem dM_init_15 : decode b_M_init 15 = .ok (.putfield 14, 3) := by decide +kernel
theorem dM_init_18 : decode b_M_init 18 = .ok (.aload_n 0, 1) := by decide +kernel
theorem dM_init_19 : decode b_M_init 19 = .ok (.bipush 100, 2) := by decide +kernel
theorem dM_init_21 : decode b_M_init 21 = .ok (.newarray .int, 2) := by decide +kernel
theorem dM_init_23 : decode b_M_init 23 = .ok (.putfield 18, 3) := by decide +kernel
theorem dM_init_26 : decode b_M_init 26 = .ok (.aload_n 0, 1) := by decide +kernel
theorem dM_init_27 : decode b_M_init 27 = .ok (.bipush 100, 2) := by decide +kernel
theorem dM_init_29 : decode b_M_init 29 = .ok (.newarray .int, 2) := by decide +kernel
theorem dM_init_31 : decode b_M_init 31 = .ok (.putfield 21, 3) := by decide +kernel
theorem dM_init_34 : decode b_M_init 34 = .ok (.aload_n 0, 1) := by decide +kernel
theorem dM_init_35 : decode b_M_init 35 = .ok (.bipush 100, 2) := by decide +kernel
theorem dM_init_37 : decode b_M_init 37 = .ok (.newarray .int, 2) := by decide +kernel
theorem dM_init_39 : decode b_M_init 39 = .ok (.putfield 24, 3) := by decide +kernel
theorem dM_init_42 : decode b_M_init 42 = .ok (.aload_n 0, 1) := by decide +kernel
theorem dM_init_43 : decode b_M_init 43 = .ok (.bipush 100, 2) := by decide +kernel
theorem dM_init_45 : decode b_M_init 45 = .ok (.newarray .int, 2) := by decide +kernel
theorem dM_init_47 : decode b_M_init 47 = .ok (.putfield 27, 3) := by decide +kernel
theorem dM_init_50 : decode b_M_init 50 = .ok (.aload_n 0, 1) := by decide +kernel
theorem dM_init_51 : decode b_M_init 51 = .ok (.bipush 100, 2) := by decide +kernel
theorem dM_init_53 : decode b_M_init 53 = .ok (.newarray .int, 2) := by decide +kernel
theorem dM_init_55 : decode b_M_init 55 = .ok (.putfield 30, 3) := by decide +kernel
theorem dM_init_58 : decode b_M_init 58 = .ok (.aload_n 0, 1) := by decide +kernel
theorem dM_init_59 : decode b_M_init 59 = .ok (.bipush 100, 2) := by decide +kernel
theorem dM_init_61 : decode b_M_init 61 = .ok (.newarray .int, 2) := by decide +kernel
theorem dM_init_63 : decode b_M_init 63 = .ok (.putfield 33, 3) := by decide +kernel
theorem dM_init_66 : decode b_M_init 66 = .ok (.aload_n 0, 1) := by decide +kernel
theorem dM_init_67 : decode b_M_init 67 = .ok (.bipush 100, 2) := by decide +kernel
theorem dM_init_69 : decode b_M_init 69 = .ok (.newarray .int, 2) := by decide +kernel
theorem dM_init_71 : decode b_M_init 71 = .ok (.putfield 36, 3) := by decide +kernel
theorem dM_init_74 : decode b_M_init 74 = .ok (.aload_n 0, 1) := by decide +kernel
theorem dM_init_75 : decode b_M_init 75 = .ok (.sipush 800, 3) := by decide +kernel
theorem dM_init_78 : decode b_M_init 78 = .ok (.newarray .int, 2) := by decide +kernel
theorem dM_init_80 : decode b_M_init 80 = .ok (.putfield 39, 3) := by decide +kernel
theorem dM_init_83 : decode b_M_init 83 = .ok (.aload_n 0, 1) := by decide +kernel
theorem dM_init_84 : decode b_M_init 84 = .ok (.sipush 800, 3) := by decide +kernel
theorem dM_init_87 : decode b_M_init 87 = .ok (.newarray .int, 2) := by decide +kernel
theorem dM_init_89 : decode b_M_init 89 = .ok (.putfield 42, 3) := by decide +kernel
theorem dM_init_92 : decode b_M_init 92 = .ok (.aload_n 0, 1) := by decide +kernel
theorem dM_init_93 : decode b_M_init 93 = .ok (.sipush 800, 3) := by decide +kernel
theorem dM_init_96 : decode b_M_init 96 = .ok (.newarray .int, 2) := by decide +kernel
theorem dM_init_98 : decode b_M_init 98 = .ok (.putfield 45, 3) := by decide +kernel
theorem dM_init_101 : decode b_M_init 101 = .ok (.aload_n 0, 1) := by decide +kernel
theorem dM_init_102 : decode b_M_init 102 = .ok (.sipush 800, 3) := by decide +kernel
theorem dM_init_105 : decode b_M_init 105 = .ok (.newarray .int, 2) := by decide +kernel
theorem dM_init_107 : decode b_M_init 107 = .ok (.putfield 48, 3) := by decide +kernel
theorem dM_init_110 : decode b_M_init 110 = .ok (.aload_n 0, 1) := by decide +kernel
theorem dM_init_111 : decode b_M_init 111 = .ok (.iload_n 1, 1) := by decide +kernel
theorem dM_init_112 : decode b_M_init 112 = .ok (.iconst 1, 1) := by decide +kernel
theorem dM_init_113 : decode b_M_init 113 = .ok (.if_icmp .ge 7, 3) := by decide +kernel
theorem dM_init_116 : decode b_M_init 116 = .ok (.iconst 1, 1) := by decide +kernel
theorem dM_init_117 : decode b_M_init 117 = .ok (.goto 15, 3) := by decide +kernel
theorem dM_init_120 : decode b_M_init 120 = .ok (.iload_n 1, 1) := by decide +kernel
theorem dM_init_121 : decode b_M_init 121 = .ok (.bipush 30, 2) := by decide +kernel
theorem dM_init_123 : decode b_M_init 123 = .ok (.if_icmp .le 8, 3) := by decide +kernel
theorem dM_init_126 : decode b_M_init 126 = .ok (.bipush 30, 2) := by decide +kernel
theorem dM_init_128 : decode b_M_init 128 = .ok (.goto 4, 3) := by decide +kernel
theorem dM_init_131 : decode b_M_init 131 = .ok (.iload_n 1, 1) := by decide +kernel
theorem dM_init_132 : decode b_M_init 132 = .ok (.putfield 51, 3) := by decide +kernel
theorem dM_init_135 : decode b_M_init 135 = .ok (.return_, 1) := by decide +kernel
theorem dM_thrown_0 : decode b_M_thrown 0 = .ok (.aload_n 0, 1) := by decide +kernel
theorem dM_thrown_1 : decode b_M_thrown 1 = .ok (.getfield 54, 3) := by decide +kernel
theorem dM_thrown_4 : decode b_M_thrown 4 = .ok (.ireturn, 1) := by decide +kernel
theorem dM_in_0 : decode b_M_in 0 = .ok (.iload_n 0, 1) := by decide +kernel
theorem dM_in_1 : decode b_M_in 1 = .ok (.iload_n 1, 1) := by decide +kernel
theorem dM_in_2 : decode b_M_in 2 = .ok (.if_icmp .lt 12, 3) := by decide +kernel
theorem dM_in_5 : decode b_M_in 5 = .ok (.iload_n 0, 1) := by decide +kernel
theorem dM_in_6 : decode b_M_in 6 = .ok (.iload_n 2, 1) := by decide +kernel
theorem dM_in_7 : decode b_M_in 7 = .ok (.if_icmp .gt 7, 3) := by decide +kernel
theorem dM_in_10 : decode b_M_in 10 = .ok (.iconst 1, 1) := by decide +kernel
theorem dM_in_11 : decode b_M_in 11 = .ok (.goto 4, 3) := by decide +kernel
theorem dM_in_14 : decode b_M_in 14 = .ok (.iconst 0, 1) := by decide +kernel
theorem dM_in_15 : decode b_M_in 15 = .ok (.ireturn, 1) := by decide +kernel
theorem dM_isHouse_0 : decode b_M_isHouse 0 = .ok (.iload_n 1, 1) := by decide +kernel
theorem dM_isHouse_1 : decode b_M_isHouse 1 = .ok (.iconst 0, 1) := by decide +kernel
theorem dM_isHouse_2 : decode b_M_isHouse 2 = .ok (.aload_n 0, 1) := by decide +kernel
theorem dM_isHouse_3 : decode b_M_isHouse 3 = .ok (.getfield 51, 3) := by decide +kernel
theorem dM_isHouse_6 : decode b_M_isHouse 6 = .ok (.iconst 1, 1) := by decide +kernel
theorem dM_isHouse_7 : decode b_M_isHouse 7 = .ok (.isub, 1) := by decide +kernel
theorem dM_isHouse_8 : decode b_M_isHouse 8 = .ok (.invokestatic 57, 3) := by decide +kernel
theorem dM_isHouse_11 : decode b_M_isHouse 11 = .ok (.ireturn, 1) := by decide +kernel
theorem dM_isRequest_0 : decode b_M_isRequest 0 = .ok (.iload_n 1, 1) := by decide +kernel
theorem dM_isRequest_1 : decode b_M_isRequest 1 = .ok (.iconst 0, 1) := by decide +kernel
theorem dM_isRequest_2 : decode b_M_isRequest 2 = .ok (.aload_n 0, 1) := by decide +kernel
theorem dM_isRequest_3 : decode b_M_isRequest 3 = .ok (.getfield 61, 3) := by decide +kernel
theorem dM_isRequest_6 : decode b_M_isRequest 6 = .ok (.iconst 1, 1) := by decide +kernel
theorem dM_isRequest_7 : decode b_M_isRequest 7 = .ok (.isub, 1) := by decide +kernel
theorem dM_isRequest_8 : decode b_M_isRequest 8 = .ok (.invokestatic 57, 3) := by decide +kernel
theorem dM_isRequest_11 : decode b_M_isRequest 11 = .ok (.ireturn, 1) := by decide +kernel
theorem dM_isNow_0 : decode b_M_isNow 0 = .ok (.iload_n 1, 1) := by decide +kernel
theorem dM_isNow_1 : decode b_M_isNow 1 = .ok (.aload_n 0, 1) := by decide +kernel
theorem dM_isNow_2 : decode b_M_isNow 2 = .ok (.getfield 64, 3) := by decide +kernel
theorem dM_isNow_5 : decode b_M_isNow 5 = .ok (.ldc 67, 2) := by decide +kernel
theorem dM_isNow_7 : decode b_M_isNow 7 = .ok (.invokestatic 57, 3) := by decide +kernel
theorem dM_isNow_10 : decode b_M_isNow 10 = .ok (.ireturn, 1) := by decide +kernel
theorem dM_ask_0 : decode b_M_ask 0 = .ok (.aload_n 0, 1) := by decide +kernel
theorem dM_ask_1 : decode b_M_ask 1 = .ok (.iconst 0, 1) := by decide +kernel
theorem dM_ask_2 : decode b_M_ask 2 = .ok (.putfield 54, 3) := by decide +kernel
theorem dM_ask_5 : decode b_M_ask 5 = .ok (.aload_n 0, 1) := by decide +kernel
theorem dM_ask_6 : decode b_M_ask 6 = .ok (.iload_n 1, 1) := by decide +kernel
theorem dM_ask_7 : decode b_M_ask 7 = .ok (.invokevirtual 68, 3) := by decide +kernel
theorem dM_ask_10 : decode b_M_ask 10 = .ok (.ifCond .ne 5, 3) := by decide +kernel
theorem dM_ask_13 : decode b_M_ask 13 = .ok (.iconst (-1), 1) := by decide +kernel
theorem dM_ask_14 : decode b_M_ask 14 = .ok (.ireturn, 1) := by decide +kernel
theorem dM_ask_15 : decode b_M_ask 15 = .ok (.iload_n 2, 1) := by decide +kernel
theorem dM_ask_16 : decode b_M_ask 16 = .ok (.iconst 0, 1) := by decide +kernel
theorem dM_ask_17 : decode b_M_ask 17 = .ok (.ldc 72, 2) := by decide +kernel
theorem dM_ask_19 : decode b_M_ask 19 = .ok (.invokestatic 57, 3) := by decide +kernel
theorem dM_ask_22 : decode b_M_ask 22 = .ok (.ifCond .ne 6, 3) := by decide +kernel
theorem dM_ask_25 : decode b_M_ask 25 = .ok (.bipush (-2), 2) := by decide +kernel
theorem dM_ask_27 : decode b_M_ask 27 = .ok (.ireturn, 1) := by decide +kernel
theorem dM_ask_28 : decode b_M_ask 28 = .ok (.aload_n 0, 1) := by decide +kernel
theorem dM_ask_29 : decode b_M_ask 29 = .ok (.getfield 61, 3) := by decide +kernel
theorem dM_ask_32 : decode b_M_ask 32 = .ok (.bipush 100, 2) := by decide +kernel
theorem dM_ask_34 : decode b_M_ask 34 = .ok (.if_icmp .ne 6, 3) := by decide +kernel
theorem dM_ask_37 : decode b_M_ask 37 = .ok (.bipush (-4), 2) := by decide +kernel
theorem dM_ask_39 : decode b_M_ask 39 = .ok (.ireturn, 1) := by decide +kernel
theorem dM_ask_40 : decode b_M_ask 40 = .ok (.aload_n 0, 1) := by decide +kernel
theorem dM_ask_41 : decode b_M_ask 41 = .ok (.getfield 14, 3) := by decide +kernel
theorem dM_ask_44 : decode b_M_ask 44 = .ok (.aload_n 0, 1) := by decide +kernel
theorem dM_ask_45 : decode b_M_ask 45 = .ok (.getfield 61, 3) := by decide +kernel
theorem dM_ask_48 : decode b_M_ask 48 = .ok (.iload_n 1, 1) := by decide +kernel
theorem dM_ask_49 : decode b_M_ask 49 = .ok (.iastore, 1) := by decide +kernel
theorem dM_ask_50 : decode b_M_ask 50 = .ok (.aload_n 0, 1) := by decide +kernel
theorem dM_ask_51 : decode b_M_ask 51 = .ok (.getfield 18, 3) := by decide +kernel
theorem dM_ask_54 : decode b_M_ask 54 = .ok (.aload_n 0, 1) := by decide +kernel
theorem dM_ask_55 : decode b_M_ask 55 = .ok (.getfield 61, 3) := by decide +kernel
theorem dM_ask_58 : decode b_M_ask 58 = .ok (.iload_n 2, 1) := by decide +kernel
theorem dM_ask_59 : decode b_M_ask 59 = .ok (.iastore, 1) := by decide +kernel
theorem dM_ask_60 : decode b_M_ask 60 = .ok (.aload_n 0, 1) := by decide +kernel
theorem dM_ask_61 : decode b_M_ask 61 = .ok (.getfield 30, 3) := by decide +kernel
theorem dM_ask_64 : decode b_M_ask 64 = .ok (.aload_n 0, 1) := by decide +kernel
theorem dM_ask_65 : decode b_M_ask 65 = .ok (.getfield 61, 3) := by decide +kernel
theorem dM_ask_68 : decode b_M_ask 68 = .ok (.iconst (-1), 1) := by decide +kernel
theorem dM_ask_69 : decode b_M_ask 69 = .ok (.iastore, 1) := by decide +kernel
theorem dM_ask_70 : decode b_M_ask 70 = .ok (.aload_n 0, 1) := by decide +kernel
theorem dM_ask_71 : decode b_M_ask 71 = .ok (.getfield 33, 3) := by decide +kernel
theorem dM_ask_74 : decode b_M_ask 74 = .ok (.aload_n 0, 1) := by decide +kernel
theorem dM_ask_75 : decode b_M_ask 75 = .ok (.getfield 61, 3) := by decide +kernel
theorem dM_ask_78 : decode b_M_ask 78 = .ok (.iconst (-1), 1) := by decide +kernel
theorem dM_ask_79 : decode b_M_ask 79 = .ok (.iastore, 1) := by decide +kernel
theorem dM_ask_80 : decode b_M_ask 80 = .ok (.aload_n 0, 1) := by decide +kernel
theorem dM_ask_81 : decode b_M_ask 81 = .ok (.getfield 36, 3) := by decide +kernel
theorem dM_ask_84 : decode b_M_ask 84 = .ok (.aload_n 0, 1) := by decide +kernel
theorem dM_ask_85 : decode b_M_ask 85 = .ok (.getfield 61, 3) := by decide +kernel
theorem dM_ask_88 : decode b_M_ask 88 = .ok (.iconst (-1), 1) := by decide +kernel
theorem dM_ask_89 : decode b_M_ask 89 = .ok (.iastore, 1) := by decide +kernel
theorem dM_ask_90 : decode b_M_ask 90 = .ok (.aload_n 0, 1) := by decide +kernel
theorem dM_ask_91 : decode b_M_ask 91 = .ok (.dup, 1) := by decide +kernel
theorem dM_ask_92 : decode b_M_ask 92 = .ok (.getfield 61, 3) := by decide +kernel
theorem dM_ask_95 : decode b_M_ask 95 = .ok (.iconst 1, 1) := by decide +kernel
theorem dM_ask_96 : decode b_M_ask 96 = .ok (.iadd, 1) := by decide +kernel
theorem dM_ask_97 : decode b_M_ask 97 = .ok (.putfield 61, 3) := by decide +kernel
theorem dM_ask_100 : decode b_M_ask 100 = .ok (.aload_n 0, 1) := by decide +kernel
theorem dM_ask_101 : decode b_M_ask 101 = .ok (.getfield 61, 3) := by decide +kernel
theorem dM_ask_104 : decode b_M_ask 104 = .ok (.iconst 1, 1) := by decide +kernel
theorem dM_ask_105 : decode b_M_ask 105 = .ok (.isub, 1) := by decide +kernel
theorem dM_ask_106 : decode b_M_ask 106 = .ok (.ireturn, 1) := by decide +kernel
theorem dM_lender_0 : decode b_M_lender 0 = .ok (.aload_n 0, 1) := by decide +kernel
theorem dM_lender_1 : decode b_M_lender 1 = .ok (.iconst 0, 1) := by decide +kernel
theorem dM_lender_2 : decode b_M_lender 2 = .ok (.putfield 54, 3) := by decide +kernel
theorem dM_lender_5 : decode b_M_lender 5 = .ok (.aload_n 0, 1) := by decide +kernel
theorem dM_lender_6 : decode b_M_lender 6 = .ok (.iload_n 1, 1) := by decide +kernel
theorem dM_lender_7 : decode b_M_lender 7 = .ok (.invokevirtual 73, 3) := by decide +kernel
theorem dM_lender_10 : decode b_M_lender 10 = .ok (.ifCond .eq 11, 3) := by decide +kernel
theorem dM_lender_13 : decode b_M_lender 13 = .ok (.aload_n 0, 1) := by decide +kernel
theorem dM_lender_14 : decode b_M_lender 14 = .ok (.iload_n 2, 1) := by decide +kernel
theorem dM_lender_15 : decode b_M_lender 15 = .ok (.invokevirtual 68, 3) := by decide +kernel
theorem dM_lender_18 : decode b_M_lender 18 = .ok (.ifCond .ne 5, 3) := by decide +kernel
theorem dM_lender_21 : decode b_M_lender 21 = .ok (.iconst (-1), 1) := by decide +kernel
theorem dM_lender_22 : decode b_M_lender 22 = .ok (.ireturn, 1) := by decide +kernel
theorem dM_lender_23 : decode b_M_lender 23 = .ok (.aload_n 0, 1) := by decide +kernel
theorem dM_lender_24 : decode b_M_lender 24 = .ok (.getfield 21, 3) := by decide +kernel
theorem dM_lender_27 : decode b_M_lender 27 = .ok (.iload_n 1, 1) := by decide +kernel
theorem dM_lender_28 : decode b_M_lender 28 = .ok (.iaload, 1) := by decide +kernel
theorem dM_lender_29 : decode b_M_lender 29 = .ok (.ifCond .ne 13, 3) := by decide +kernel
theorem dM_lender_32 : decode b_M_lender 32 = .ok (.aload_n 0, 1) := by decide +kernel
theorem dM_lender_33 : decode b_M_lender 33 = .ok (.getfield 14, 3) := by decide +kernel
theorem dM_lender_36 : decode b_M_lender 36 = .ok (.iload_n 1, 1) := by decide +kernel
theorem dM_lender_37 : decode b_M_lender 37 = .ok (.iaload, 1) := by decide +kernel
theorem dM_lender_38 : decode b_M_lender 38 = .ok (.iload_n 2, 1) := by decide +kernel
theorem dM_lender_39 : decode b_M_lender 39 = .ok (.if_icmp .ne 7, 3) := by decide +kernel
theorem dM_lender_42 : decode b_M_lender 42 = .ok (.iconst 1, 1) := by decide +kernel
theorem dM_lender_43 : decode b_M_lender 43 = .ok (.goto 4, 3) := by decide +kernel
theorem dM_lender_46 : decode b_M_lender 46 = .ok (.iconst 0, 1) := by decide +kernel
theorem dM_lender_47 : decode b_M_lender 47 = .ok (.istore_n 3, 1) := by decide +kernel
theorem dM_lender_48 : decode b_M_lender 48 = .ok (.iconst 0, 1) := by decide +kernel
theorem dM_lender_49 : decode b_M_lender 49 = .ok (.istore 4, 2) := by decide +kernel
theorem dM_lender_51 : decode b_M_lender 51 = .ok (.iload 4, 2) := by decide +kernel
theorem dM_lender_53 : decode b_M_lender 53 = .ok (.aload_n 0, 1) := by decide +kernel
theorem dM_lender_54 : decode b_M_lender 54 = .ok (.getfield 24, 3) := by decide +kernel
theorem dM_lender_57 : decode b_M_lender 57 = .ok (.iload_n 1, 1) := by decide +kernel
theorem dM_lender_58 : decode b_M_lender 58 = .ok (.iaload, 1) := by decide +kernel
theorem dM_lender_59 : decode b_M_lender 59 = .ok (.if_icmp .ge 35, 3) := by decide +kernel
theorem dM_lender_62 : decode b_M_lender 62 = .ok (.iload_n 3, 1) := by decide +kernel
theorem dM_lender_63 : decode b_M_lender 63 = .ok (.ifCond .ne 19, 3) := by decide +kernel
theorem dM_lender_66 : decode b_M_lender 66 = .ok (.aload_n 0, 1) := by decide +kernel
theorem dM_lender_67 : decode b_M_lender 67 = .ok (.getfield 39, 3) := by decide +kernel
theorem dM_lender_70 : decode b_M_lender 70 = .ok (.bipush 8, 2) := by decide +kernel
theorem dM_lender_72 : decode b_M_lender 72 = .ok (.iload_n 1, 1) := by decide +kernel
theorem dM_lender_73 : decode b_M_lender 73 = .ok (.imul, 1) := by decide +kernel
theorem dM_lender_74 : decode b_M_lender 74 = .ok (.iload 4, 2) := by decide +kernel
theorem dM_lender_76 : decode b_M_lender 76 = .ok (.iadd, 1) := by decide +kernel
theorem dM_lender_77 : decode b_M_lender 77 = .ok (.iaload, 1) := by decide +kernel
theorem dM_lender_78 : decode b_M_lender 78 = .ok (.iload_n 2, 1) := by decide +kernel
theorem dM_lender_79 : decode b_M_lender 79 = .ok (.if_icmp .ne 7, 3) := by decide +kernel
theorem dM_lender_82 : decode b_M_lender 82 = .ok (.iconst 1, 1) := by decide +kernel
theorem dM_lender_83 : decode b_M_lender 83 = .ok (.goto 4, 3) := by decide +kernel
theorem dM_lender_86 : decode b_M_lender 86 = .ok (.iconst 0, 1) := by decide +kernel
theorem dM_lender_87 : decode b_M_lender 87 = .ok (.istore_n 3, 1) := by decide +kernel
theorem dM_lender_88 : decode b_M_lender 88 = .ok (.iinc 4 1, 3) := by decide +kernel
theorem dM_lender_91 : decode b_M_lender 91 = .ok (.goto (-40), 3) := by decide +kernel
theorem dM_lender_94 : decode b_M_lender 94 = .ok (.iload_n 3, 1) := by decide +kernel
theorem dM_lender_95 : decode b_M_lender 95 = .ok (.ifCond .eq 6, 3) := by decide +kernel
theorem dM_lender_98 : decode b_M_lender 98 = .ok (.bipush (-3), 2) := by decide +kernel
theorem dM_lender_100 : decode b_M_lender 100 = .ok (.ireturn, 1) := by decide +kernel
theorem dM_lender_101 : decode b_M_lender 101 = .ok (.aload_n 0, 1) := by decide +kernel
theorem dM_lender_102 : decode b_M_lender 102 = .ok (.getfield 24, 3) := by decide +kernel
theorem dM_lender_105 : decode b_M_lender 105 = .ok (.iload_n 1, 1) := by decide +kernel
theorem dM_lender_106 : decode b_M_lender 106 = .ok (.iaload, 1) := by decide +kernel
theorem dM_lender_107 : decode b_M_lender 107 = .ok (.bipush 8, 2) := by decide +kernel
theorem dM_lender_109 : decode b_M_lender 109 = .ok (.if_icmp .ne 6, 3) := by decide +kernel
theorem dM_lender_112 : decode b_M_lender 112 = .ok (.bipush (-4), 2) := by decide +kernel
theorem dM_lender_114 : decode b_M_lender 114 = .ok (.ireturn, 1) := by decide +kernel
theorem dM_lender_115 : decode b_M_lender 115 = .ok (.aload_n 0, 1) := by decide +kernel
theorem dM_lender_116 : decode b_M_lender 116 = .ok (.getfield 39, 3) := by decide +kernel
theorem dM_lender_119 : decode b_M_lender 119 = .ok (.bipush 8, 2) := by decide +kernel
theorem dM_lender_121 : decode b_M_lender 121 = .ok (.iload_n 1, 1) := by decide +kernel
theorem dM_lender_122 : decode b_M_lender 122 = .ok (.imul, 1) := by decide +kernel
theorem dM_lender_123 : decode b_M_lender 123 = .ok (.aload_n 0, 1) := by decide +kernel
theorem dM_lender_124 : decode b_M_lender 124 = .ok (.getfield 24, 3) := by decide +kernel
theorem dM_lender_127 : decode b_M_lender 127 = .ok (.iload_n 1, 1) := by decide +kernel
theorem dM_lender_128 : decode b_M_lender 128 = .ok (.iaload, 1) := by decide +kernel
theorem dM_lender_129 : decode b_M_lender 129 = .ok (.iadd, 1) := by decide +kernel
theorem dM_lender_130 : decode b_M_lender 130 = .ok (.iload_n 2, 1) := by decide +kernel
theorem dM_lender_131 : decode b_M_lender 131 = .ok (.iastore, 1) := by decide +kernel
theorem dM_lender_132 : decode b_M_lender 132 = .ok (.aload_n 0, 1) := by decide +kernel
theorem dM_lender_133 : decode b_M_lender 133 = .ok (.getfield 45, 3) := by decide +kernel
theorem dM_lender_136 : decode b_M_lender 136 = .ok (.bipush 8, 2) := by decide +kernel
theorem dM_lender_138 : decode b_M_lender 138 = .ok (.iload_n 1, 1) := by decide +kernel
theorem dM_lender_139 : decode b_M_lender 139 = .ok (.imul, 1) := by decide +kernel
theorem dM_lender_140 : decode b_M_lender 140 = .ok (.aload_n 0, 1) := by decide +kernel
theorem dM_lender_141 : decode b_M_lender 141 = .ok (.getfield 24, 3) := by decide +kernel
theorem dM_lender_144 : decode b_M_lender 144 = .ok (.iload_n 1, 1) := by decide +kernel
theorem dM_lender_145 : decode b_M_lender 145 = .ok (.iaload, 1) := by decide +kernel
theorem dM_lender_146 : decode b_M_lender 146 = .ok (.iadd, 1) := by decide +kernel
theorem dM_lender_147 : decode b_M_lender 147 = .ok (.iconst (-1), 1) := by decide +kernel
theorem dM_lender_148 : decode b_M_lender 148 = .ok (.iastore, 1) := by decide +kernel
theorem dM_lender_149 : decode b_M_lender 149 = .ok (.aload_n 0, 1) := by decide +kernel
theorem dM_lender_150 : decode b_M_lender 150 = .ok (.getfield 24, 3) := by decide +kernel
theorem dM_lender_153 : decode b_M_lender 153 = .ok (.iload_n 1, 1) := by decide +kernel
theorem dM_lender_154 : decode b_M_lender 154 = .ok (.dup2, 1) := by decide +kernel
theorem dM_lender_155 : decode b_M_lender 155 = .ok (.iaload, 1) := by decide +kernel
theorem dM_lender_156 : decode b_M_lender 156 = .ok (.iconst 1, 1) := by decide +kernel
theorem dM_lender_157 : decode b_M_lender 157 = .ok (.iadd, 1) := by decide +kernel
theorem dM_lender_158 : decode b_M_lender 158 = .ok (.iastore, 1) := by decide +kernel
theorem dM_lender_159 : decode b_M_lender 159 = .ok (.aload_n 0, 1) := by decide +kernel
theorem dM_lender_160 : decode b_M_lender 160 = .ok (.getfield 24, 3) := by decide +kernel
theorem dM_lender_163 : decode b_M_lender 163 = .ok (.iload_n 1, 1) := by decide +kernel
theorem dM_lender_164 : decode b_M_lender 164 = .ok (.iaload, 1) := by decide +kernel
theorem dM_lender_165 : decode b_M_lender 165 = .ok (.ireturn, 1) := by decide +kernel
theorem dM_holder_0 : decode b_M_holder 0 = .ok (.bipush 8, 2) := by decide +kernel
theorem dM_holder_2 : decode b_M_holder 2 = .ok (.iload_n 1, 1) := by decide +kernel
theorem dM_holder_3 : decode b_M_holder 3 = .ok (.imul, 1) := by decide +kernel
theorem dM_holder_4 : decode b_M_holder 4 = .ok (.istore_n 2, 1) := by decide +kernel
theorem dM_holder_5 : decode b_M_holder 5 = .ok (.iload_n 2, 1) := by decide +kernel
theorem dM_holder_6 : decode b_M_holder 6 = .ok (.bipush 8, 2) := by decide +kernel
theorem dM_holder_8 : decode b_M_holder 8 = .ok (.iload_n 1, 1) := by decide +kernel
theorem dM_holder_9 : decode b_M_holder 9 = .ok (.imul, 1) := by decide +kernel
theorem dM_holder_10 : decode b_M_holder 10 = .ok (.aload_n 0, 1) := by decide +kernel
theorem dM_holder_11 : decode b_M_holder 11 = .ok (.getfield 24, 3) := by decide +kernel
theorem dM_holder_14 : decode b_M_holder 14 = .ok (.iload_n 1, 1) := by decide +kernel
theorem dM_holder_15 : decode b_M_holder 15 = .ok (.iaload, 1) := by decide +kernel
theorem dM_holder_16 : decode b_M_holder 16 = .ok (.iadd, 1) := by decide +kernel
theorem dM_holder_17 : decode b_M_holder 17 = .ok (.if_icmp .ge 25, 3) := by decide +kernel
theorem dM_holder_20 : decode b_M_holder 20 = .ok (.aload_n 0, 1) := by decide +kernel
theorem dM_holder_21 : decode b_M_holder 21 = .ok (.getfield 42, 3) := by decide +kernel
theorem dM_holder_24 : decode b_M_holder 24 = .ok (.iload_n 2, 1) := by decide +kernel
theorem dM_holder_25 : decode b_M_holder 25 = .ok (.iaload, 1) := by decide +kernel
theorem dM_holder_26 : decode b_M_holder 26 = .ok (.iconst 1, 1) := by decide +kernel
theorem dM_holder_27 : decode b_M_holder 27 = .ok (.iconst 5, 1) := by decide +kernel
theorem dM_holder_28 : decode b_M_holder 28 = .ok (.invokestatic 57, 3) := by decide +kernel
theorem dM_holder_31 : decode b_M_holder 31 = .ok (.ifCond .eq 5, 3) := by decide +kernel
theorem dM_holder_34 : decode b_M_holder 34 = .ok (.iload_n 2, 1) := by decide +kernel
theorem dM_holder_35 : decode b_M_holder 35 = .ok (.ireturn, 1) := by decide +kernel
theorem dM_holder_36 : decode b_M_holder 36 = .ok (.iinc 2 1, 3) := by decide +kernel
theorem dM_holder_39 : decode b_M_holder 39 = .ok (.goto (-34), 3) := by decide +kernel
theorem dM_holder_42 : decode b_M_holder 42 = .ok (.iconst (-1), 1) := by decide +kernel
theorem dM_holder_43 : decode b_M_holder 43 = .ok (.ireturn, 1) := by decide +kernel
theorem dM_end_0 : decode b_M_end 0 = .ok (.aload_n 0, 1) := by decide +kernel
theorem dM_end_1 : decode b_M_end 1 = .ok (.getfield 21, 3) := by decide +kernel
theorem dM_end_4 : decode b_M_end 4 = .ok (.iload_n 1, 1) := by decide +kernel
theorem dM_end_5 : decode b_M_end 5 = .ok (.iload_n 2, 1) := by decide +kernel
theorem dM_end_6 : decode b_M_end 6 = .ok (.iastore, 1) := by decide +kernel
theorem dM_end_7 : decode b_M_end 7 = .ok (.aload_n 0, 1) := by decide +kernel
theorem dM_end_8 : decode b_M_end 8 = .ok (.getfield 36, 3) := by decide +kernel
theorem dM_end_11 : decode b_M_end 11 = .ok (.iload_n 1, 1) := by decide +kernel
theorem dM_end_12 : decode b_M_end 12 = .ok (.iload_n 3, 1) := by decide +kernel
theorem dM_end_13 : decode b_M_end 13 = .ok (.iastore, 1) := by decide +kernel
theorem dM_end_14 : decode b_M_end 14 = .ok (.return_, 1) := by decide +kernel
theorem dM_askNext_0 : decode b_M_askNext 0 = .ok (.bipush 8, 2) := by decide +kernel
theorem dM_askNext_2 : decode b_M_askNext 2 = .ok (.iload_n 1, 1) := by decide +kernel
theorem dM_askNext_3 : decode b_M_askNext 3 = .ok (.imul, 1) := by decide +kernel
theorem dM_askNext_4 : decode b_M_askNext 4 = .ok (.istore_n 3, 1) := by decide +kernel
theorem dM_askNext_5 : decode b_M_askNext 5 = .ok (.iload_n 3, 1) := by decide +kernel
theorem dM_askNext_6 : decode b_M_askNext 6 = .ok (.bipush 8, 2) := by decide +kernel
theorem dM_askNext_8 : decode b_M_askNext 8 = .ok (.iload_n 1, 1) := by decide +kernel
theorem dM_askNext_9 : decode b_M_askNext 9 = .ok (.imul, 1) := by decide +kernel
theorem dM_askNext_10 : decode b_M_askNext 10 = .ok (.aload_n 0, 1) := by decide +kernel
theorem dM_askNext_11 : decode b_M_askNext 11 = .ok (.getfield 24, 3) := by decide +kernel
theorem dM_askNext_14 : decode b_M_askNext 14 = .ok (.iload_n 1, 1) := by decide +kernel
theorem dM_askNext_15 : decode b_M_askNext 15 = .ok (.iaload, 1) := by decide +kernel
theorem dM_askNext_16 : decode b_M_askNext 16 = .ok (.iadd, 1) := by decide +kernel
theorem dM_askNext_17 : decode b_M_askNext 17 = .ok (.if_icmp .ge 18, 3) := by decide +kernel
theorem dM_askNext_20 : decode b_M_askNext 20 = .ok (.aload_n 0, 1) := by decide +kernel
theorem dM_askNext_21 : decode b_M_askNext 21 = .ok (.getfield 42, 3) := by decide +kernel
theorem dM_askNext_24 : decode b_M_askNext 24 = .ok (.iload_n 3, 1) := by decide +kernel
theorem dM_askNext_25 : decode b_M_askNext 25 = .ok (.iaload, 1) := by decide +kernel
theorem dM_askNext_26 : decode b_M_askNext 26 = .ok (.ifCond .eq 9, 3) := by decide +kernel
theorem dM_askNext_29 : decode b_M_askNext 29 = .ok (.iinc 3 1, 3) := by decide +kernel
theorem dM_askNext_32 : decode b_M_askNext 32 = .ok (.goto (-27), 3) := by decide +kernel
theorem dM_askNext_35 : decode b_M_askNext 35 = .ok (.iload_n 3, 1) := by decide +kernel
theorem dM_askNext_36 : decode b_M_askNext 36 = .ok (.bipush 8, 2) := by decide +kernel
theorem dM_askNext_38 : decode b_M_askNext 38 = .ok (.iload_n 1, 1) := by decide +kernel
theorem dM_askNext_39 : decode b_M_askNext 39 = .ok (.imul, 1) := by decide +kernel
theorem dM_askNext_40 : decode b_M_askNext 40 = .ok (.aload_n 0, 1) := by decide +kernel
theorem dM_askNext_41 : decode b_M_askNext 41 = .ok (.getfield 24, 3) := by decide +kernel
theorem dM_askNext_44 : decode b_M_askNext 44 = .ok (.iload_n 1, 1) := by decide +kernel
theorem dM_askNext_45 : decode b_M_askNext 45 = .ok (.iaload, 1) := by decide +kernel
theorem dM_askNext_46 : decode b_M_askNext 46 = .ok (.iadd, 1) := by decide +kernel
theorem dM_askNext_47 : decode b_M_askNext 47 = .ok (.if_icmp .ne 14, 3) := by decide +kernel
theorem dM_askNext_50 : decode b_M_askNext 50 = .ok (.aload_n 0, 1) := by decide +kernel
theorem dM_askNext_51 : decode b_M_askNext 51 = .ok (.iload_n 1, 1) := by decide +kernel
theorem dM_askNext_52 : decode b_M_askNext 52 = .ok (.bipush 7, 2) := by decide +kernel
theorem dM_askNext_54 : decode b_M_askNext 54 = .ok (.iload_n 2, 1) := by decide +kernel
theorem dM_askNext_55 : decode b_M_askNext 55 = .ok (.invokevirtual 76, 3) := by decide +kernel
theorem dM_askNext_58 : decode b_M_askNext 58 = .ok (.bipush 100, 2) := by decide +kernel
theorem dM_askNext_60 : decode b_M_askNext 60 = .ok (.ireturn, 1) := by decide +kernel
theorem dM_askNext_61 : decode b_M_askNext 61 = .ok (.aload_n 0, 1) := by decide +kernel
theorem dM_askNext_62 : decode b_M_askNext 62 = .ok (.getfield 42, 3) := by decide +kernel
theorem dM_askNext_65 : decode b_M_askNext 65 = .ok (.iload_n 3, 1) := by decide +kernel
theorem dM_askNext_66 : decode b_M_askNext 66 = .ok (.iconst 1, 1) := by decide +kernel
theorem dM_askNext_67 : decode b_M_askNext 67 = .ok (.iastore, 1) := by decide +kernel
theorem dM_askNext_68 : decode b_M_askNext 68 = .ok (.aload_n 0, 1) := by decide +kernel
theorem dM_askNext_69 : decode b_M_askNext 69 = .ok (.getfield 48, 3) := by decide +kernel
theorem dM_askNext_72 : decode b_M_askNext 72 = .ok (.iload_n 3, 1) := by decide +kernel
theorem dM_askNext_73 : decode b_M_askNext 73 = .ok (.iload_n 2, 1) := by decide +kernel
theorem dM_askNext_74 : decode b_M_askNext 74 = .ok (.iastore, 1) := by decide +kernel
theorem dM_askNext_75 : decode b_M_askNext 75 = .ok (.aload_n 0, 1) := by decide +kernel
theorem dM_askNext_76 : decode b_M_askNext 76 = .ok (.getfield 21, 3) := by decide +kernel
theorem dM_askNext_79 : decode b_M_askNext 79 = .ok (.iload_n 1, 1) := by decide +kernel
theorem dM_askNext_80 : decode b_M_askNext 80 = .ok (.iconst 1, 1) := by decide +kernel
theorem dM_askNext_81 : decode b_M_askNext 81 = .ok (.iastore, 1) := by decide +kernel
theorem dM_askNext_82 : decode b_M_askNext 82 = .ok (.aload_n 0, 1) := by decide +kernel
theorem dM_askNext_83 : decode b_M_askNext 83 = .ok (.getfield 33, 3) := by decide +kernel
theorem dM_askNext_86 : decode b_M_askNext 86 = .ok (.iload_n 1, 1) := by decide +kernel
theorem dM_askNext_87 : decode b_M_askNext 87 = .ok (.aload_n 0, 1) := by decide +kernel
theorem dM_askNext_88 : decode b_M_askNext 88 = .ok (.getfield 33, 3) := by decide +kernel
theorem dM_askNext_91 : decode b_M_askNext 91 = .ok (.iload_n 1, 1) := by decide +kernel
theorem dM_askNext_92 : decode b_M_askNext 92 = .ok (.iaload, 1) := by decide +kernel
theorem dM_askNext_93 : decode b_M_askNext 93 = .ok (.ifCond .ge 7, 3) := by decide +kernel
theorem dM_askNext_96 : decode b_M_askNext 96 = .ok (.iload_n 2, 1) := by decide +kernel
theorem dM_askNext_97 : decode b_M_askNext 97 = .ok (.goto 9, 3) := by decide +kernel
theorem dM_askNext_100 : decode b_M_askNext 100 = .ok (.aload_n 0, 1) := by decide +kernel
theorem dM_askNext_101 : decode b_M_askNext 101 = .ok (.getfield 33, 3) := by decide +kernel
theorem dM_askNext_104 : decode b_M_askNext 104 = .ok (.iload_n 1, 1) := by decide +kernel
theorem dM_askNext_105 : decode b_M_askNext 105 = .ok (.iaload, 1) := by decide +kernel
theorem dM_askNext_106 : decode b_M_askNext 106 = .ok (.iastore, 1) := by decide +kernel
theorem dM_askNext_107 : decode b_M_askNext 107 = .ok (.aload_n 0, 1) := by decide +kernel
theorem dM_askNext_108 : decode b_M_askNext 108 = .ok (.getfield 39, 3) := by decide +kernel
theorem dM_askNext_111 : decode b_M_askNext 111 = .ok (.iload_n 3, 1) := by decide +kernel
theorem dM_askNext_112 : decode b_M_askNext 112 = .ok (.iaload, 1) := by decide +kernel
theorem dM_askNext_113 : decode b_M_askNext 113 = .ok (.ireturn, 1) := by decide +kernel
theorem dM_send_0 : decode b_M_send 0 = .ok (.aload_n 0, 1) := by decide +kernel
theorem dM_send_1 : decode b_M_send 1 = .ok (.iconst 0, 1) := by decide +kernel
theorem dM_send_2 : decode b_M_send 2 = .ok (.putfield 54, 3) := by decide +kernel
theorem dM_send_5 : decode b_M_send 5 = .ok (.aload_n 0, 1) := by decide +kernel
theorem dM_send_6 : decode b_M_send 6 = .ok (.iload_n 1, 1) := by decide +kernel
theorem dM_send_7 : decode b_M_send 7 = .ok (.invokevirtual 73, 3) := by decide +kernel
theorem dM_send_10 : decode b_M_send 10 = .ok (.ifCond .ne 5, 3) := by decide +kernel
theorem dM_send_13 : decode b_M_send 13 = .ok (.iconst (-1), 1) := by decide +kernel
theorem dM_send_14 : decode b_M_send 14 = .ok (.ireturn, 1) := by decide +kernel
theorem dM_send_15 : decode b_M_send 15 = .ok (.aload_n 0, 1) := by decide +kernel
theorem dM_send_16 : decode b_M_send 16 = .ok (.iload_n 2, 1) := by decide +kernel
theorem dM_send_17 : decode b_M_send 17 = .ok (.invokevirtual 80, 3) := by decide +kernel
theorem dM_send_20 : decode b_M_send 20 = .ok (.ifCond .ne 6, 3) := by decide +kernel
theorem dM_send_23 : decode b_M_send 23 = .ok (.bipush (-2), 2) := by decide +kernel
theorem dM_send_25 : decode b_M_send 25 = .ok (.ireturn, 1) := by decide +kernel
theorem dM_send_26 : decode b_M_send 26 = .ok (.aload_n 0, 1) := by decide +kernel
theorem dM_send_27 : decode b_M_send 27 = .ok (.getfield 21, 3) := by decide +kernel
theorem dM_send_30 : decode b_M_send 30 = .ok (.iload_n 1, 1) := by decide +kernel
theorem dM_send_31 : decode b_M_send 31 = .ok (.iaload, 1) := by decide +kernel
theorem dM_send_32 : decode b_M_send 32 = .ok (.ifCond .eq 6, 3) := by decide +kernel
theorem dM_send_35 : decode b_M_send 35 = .ok (.bipush (-3), 2) := by decide +kernel
theorem dM_send_37 : decode b_M_send 37 = .ok (.ireturn, 1) := by decide +kernel
theorem dM_send_38 : decode b_M_send 38 = .ok (.aload_n 0, 1) := by decide +kernel
theorem dM_send_39 : decode b_M_send 39 = .ok (.iload_n 2, 1) := by decide +kernel
theorem dM_send_40 : decode b_M_send 40 = .ok (.putfield 64, 3) := by decide +kernel
theorem dM_send_43 : decode b_M_send 43 = .ok (.aload_n 0, 1) := by decide +kernel
theorem dM_send_44 : decode b_M_send 44 = .ok (.iload_n 1, 1) := by decide +kernel
theorem dM_send_45 : decode b_M_send 45 = .ok (.iload_n 2, 1) := by decide +kernel
theorem dM_send_46 : decode b_M_send 46 = .ok (.invokevirtual 83, 3) := by decide +kernel
theorem dM_send_49 : decode b_M_send 49 = .ok (.ireturn, 1) := by decide +kernel
theorem dM_may_0 : decode b_M_may 0 = .ok (.iload_n 3, 1) := by decide +kernel
theorem dM_may_1 : decode b_M_may 1 = .ok (.tableswitch 58 1 4 #[31, 42, 31, 42], 31) := by decide +kernel
theorem dM_may_32 : decode b_M_may 32 = .ok (.iload_n 2, 1) := by decide +kernel
theorem dM_may_33 : decode b_M_may 33 = .ok (.iconst 1, 1) := by decide +kernel
theorem dM_may_34 : decode b_M_may 34 = .ok (.if_icmp .ne 7, 3) := by decide +kernel
theorem dM_may_37 : decode b_M_may 37 = .ok (.iconst 1, 1) := by decide +kernel
theorem dM_may_38 : decode b_M_may 38 = .ok (.goto 4, 3) := by decide +kernel
theorem dM_may_41 : decode b_M_may 41 = .ok (.iconst 0, 1) := by decide +kernel
theorem dM_may_42 : decode b_M_may 42 = .ok (.ireturn, 1) := by decide +kernel
theorem dM_may_43 : decode b_M_may 43 = .ok (.iload_n 2, 1) := by decide +kernel
theorem dM_may_44 : decode b_M_may 44 = .ok (.iconst 1, 1) := by decide +kernel
theorem dM_may_45 : decode b_M_may 45 = .ok (.if_icmp .eq 8, 3) := by decide +kernel
theorem dM_may_48 : decode b_M_may 48 = .ok (.iload_n 2, 1) := by decide +kernel
theorem dM_may_49 : decode b_M_may 49 = .ok (.iconst 3, 1) := by decide +kernel
theorem dM_may_50 : decode b_M_may 50 = .ok (.if_icmp .ne 7, 3) := by decide +kernel
theorem dM_may_53 : decode b_M_may 53 = .ok (.iconst 1, 1) := by decide +kernel
theorem dM_may_54 : decode b_M_may 54 = .ok (.goto 4, 3) := by decide +kernel
theorem dM_may_57 : decode b_M_may 57 = .ok (.iconst 0, 1) := by decide +kernel
theorem dM_may_58 : decode b_M_may 58 = .ok (.ireturn, 1) := by decide +kernel
theorem dM_may_59 : decode b_M_may 59 = .ok (.iload_n 2, 1) := by decide +kernel
theorem dM_may_60 : decode b_M_may 60 = .ok (.iconst 4, 1) := by decide +kernel
theorem dM_may_61 : decode b_M_may 61 = .ok (.if_icmp .ne 17, 3) := by decide +kernel
theorem dM_may_64 : decode b_M_may 64 = .ok (.aload_n 0, 1) := by decide +kernel
theorem dM_may_65 : decode b_M_may 65 = .ok (.getfield 21, 3) := by decide +kernel
theorem dM_may_68 : decode b_M_may 68 = .ok (.iload_n 1, 1) := by decide +kernel
theorem dM_may_69 : decode b_M_may 69 = .ok (.iaload, 1) := by decide +kernel
theorem dM_may_70 : decode b_M_may 70 = .ok (.iconst 5, 1) := by decide +kernel
theorem dM_may_71 : decode b_M_may 71 = .ok (.if_icmp .ne 7, 3) := by decide +kernel
theorem dM_may_74 : decode b_M_may 74 = .ok (.iconst 1, 1) := by decide +kernel
theorem dM_may_75 : decode b_M_may 75 = .ok (.goto 4, 3) := by decide +kernel
theorem dM_may_78 : decode b_M_may 78 = .ok (.iconst 0, 1) := by decide +kernel
theorem dM_may_79 : decode b_M_may 79 = .ok (.ireturn, 1) := by decide +kernel
theorem dM_message_0 : decode b_M_message 0 = .ok (.aload_n 0, 1) := by decide +kernel
theorem dM_message_1 : decode b_M_message 1 = .ok (.iconst 0, 1) := by decide +kernel
theorem dM_message_2 : decode b_M_message 2 = .ok (.putfield 54, 3) := by decide +kernel
theorem dM_message_5 : decode b_M_message 5 = .ok (.aload_n 0, 1) := by decide +kernel
theorem dM_message_6 : decode b_M_message 6 = .ok (.iload_n 1, 1) := by decide +kernel
theorem dM_message_7 : decode b_M_message 7 = .ok (.invokevirtual 73, 3) := by decide +kernel
theorem dM_message_10 : decode b_M_message 10 = .ok (.ifCond .eq 11, 3) := by decide +kernel
theorem dM_message_13 : decode b_M_message 13 = .ok (.aload_n 0, 1) := by decide +kernel
theorem dM_message_14 : decode b_M_message 14 = .ok (.iload_n 2, 1) := by decide +kernel
theorem dM_message_15 : decode b_M_message 15 = .ok (.invokevirtual 68, 3) := by decide +kernel
theorem dM_message_18 : decode b_M_message 18 = .ok (.ifCond .ne 5, 3) := by decide +kernel
theorem dM_message_21 : decode b_M_message 21 = .ok (.iconst (-1), 1) := by decide +kernel
theorem dM_message_22 : decode b_M_message 22 = .ok (.ireturn, 1) := by decide +kernel
theorem dM_message_23 : decode b_M_message 23 = .ok (.iload_n 3, 1) := by decide +kernel
theorem dM_message_24 : decode b_M_message 24 = .ok (.iconst 0, 1) := by decide +kernel
theorem dM_message_25 : decode b_M_message 25 = .ok (.sipush 1000, 3) := by decide +kernel
theorem dM_message_28 : decode b_M_message 28 = .ok (.invokestatic 57, 3) := by decide +kernel
theorem dM_message_31 : decode b_M_message 31 = .ok (.ifCond .eq 42, 3) := by decide +kernel
theorem dM_message_34 : decode b_M_message 34 = .ok (.iload 4, 2) := by decide +kernel
theorem dM_message_36 : decode b_M_message 36 = .ok (.iconst 1, 1) := by decide +kernel
theorem dM_message_37 : decode b_M_message 37 = .ok (.iconst 5, 1) := by decide +kernel
theorem dM_message_38 : decode b_M_message 38 = .ok (.invokestatic 57, 3) := by decide +kernel
theorem dM_message_41 : decode b_M_message 41 = .ok (.ifCond .eq 32, 3) := by decide +kernel
theorem dM_message_44 : decode b_M_message 44 = .ok (.aload_n 0, 1) := by decide +kernel
theorem dM_message_45 : decode b_M_message 45 = .ok (.iload 6, 2) := by decide +kernel
theorem dM_message_47 : decode b_M_message 47 = .ok (.invokevirtual 80, 3) := by decide +kernel
theorem dM_message_50 : decode b_M_message 50 = .ok (.ifCond .eq 23, 3) := by decide +kernel
theorem dM_message_53 : decode b_M_message 53 = .ok (.iload 4, 2) := by decide +kernel
theorem dM_message_55 : decode b_M_message 55 = .ok (.iconst 4, 1) := by decide +kernel
theorem dM_message_56 : decode b_M_message 56 = .ok (.if_icmp .ne 20, 3) := by decide +kernel
theorem dM_message_59 : decode b_M_message 59 = .ok (.iload 5, 2) := by decide +kernel
theorem dM_message_61 : decode b_M_message 61 = .ok (.iload 6, 2) := by decide +kernel
theorem dM_message_63 : decode b_M_message 63 = .ok (.iconst 1, 1) := by decide +kernel
theorem dM_message_64 : decode b_M_message 64 = .ok (.iadd, 1) := by decide +kernel
theorem dM_message_65 : decode b_M_message 65 = .ok (.ldc 67, 2) := by decide +kernel
theorem dM_message_67 : decode b_M_message 67 = .ok (.invokestatic 57, 3) := by decide +kernel
theorem dM_message_70 : decode b_M_message 70 = .ok (.ifCond .ne 6, 3) := by decide +kernel
theorem dM_message_73 : decode b_M_message 73 = .ok (.bipush (-2), 2) := by decide +kernel
theorem dM_message_75 : decode b_M_message 75 = .ok (.ireturn, 1) := by decide +kernel
theorem dM_message_76 : decode b_M_message 76 = .ok (.aload_n 0, 1) := by decide +kernel
theorem dM_message_77 : decode b_M_message 77 = .ok (.iload_n 1, 1) := by decide +kernel
theorem dM_message_78 : decode b_M_message 78 = .ok (.invokevirtual 87, 3) := by decide +kernel
theorem dM_message_81 : decode b_M_message 81 = .ok (.istore 7, 2) := by decide +kernel
theorem dM_message_83 : decode b_M_message 83 = .ok (.iload 7, 2) := by decide +kernel
theorem dM_message_85 : decode b_M_message 85 = .ok (.ifCond .lt 25, 3) := by decide +kernel
theorem dM_message_88 : decode b_M_message 88 = .ok (.aload_n 0, 1) := by decide +kernel
theorem dM_message_89 : decode b_M_message 89 = .ok (.getfield 39, 3) := by decide +kernel
theorem dM_message_92 : decode b_M_message 92 = .ok (.iload 7, 2) := by decide +kernel
theorem dM_message_94 : decode b_M_message 94 = .ok (.iaload, 1) := by decide +kernel
theorem dM_message_95 : decode b_M_message 95 = .ok (.iload_n 2, 1) := by decide +kernel
theorem dM_message_96 : decode b_M_message 96 = .ok (.if_icmp .ne 14, 3) := by decide +kernel
theorem dM_message_99 : decode b_M_message 99 = .ok (.aload_n 0, 1) := by decide +kernel
theorem dM_message_100 : decode b_M_message 100 = .ok (.getfield 42, 3) := by decide +kernel
theorem dM_message_103 : decode b_M_message 103 = .ok (.iload 7, 2) := by decide +kernel
theorem dM_message_105 : decode b_M_message 105 = .ok (.iaload, 1) := by decide +kernel
theorem dM_message_106 : decode b_M_message 106 = .ok (.iconst 5, 1) := by decide +kernel
theorem dM_message_107 : decode b_M_message 107 = .ok (.if_icmp .ne 6, 3) := by decide +kernel
theorem dM_message_110 : decode b_M_message 110 = .ok (.bipush (-5), 2) := by decide +kernel
theorem dM_message_112 : decode b_M_message 112 = .ok (.ireturn, 1) := by decide +kernel
theorem dM_message_113 : decode b_M_message 113 = .ok (.iload_n 3, 1) := by decide +kernel
theorem dM_message_114 : decode b_M_message 114 = .ok (.aload_n 0, 1) := by decide +kernel
theorem dM_message_115 : decode b_M_message 115 = .ok (.getfield 45, 3) := by decide +kernel
theorem dM_message_118 : decode b_M_message 118 = .ok (.iload 7, 2) := by decide +kernel
theorem dM_message_120 : decode b_M_message 120 = .ok (.iaload, 1) := by decide +kernel
theorem dM_message_121 : decode b_M_message 121 = .ok (.if_icmp .gt 16, 3) := by decide +kernel
theorem dM_message_124 : decode b_M_message 124 = .ok (.aload_n 0, 1) := by decide +kernel
theorem dM_message_125 : decode b_M_message 125 = .ok (.getfield 27, 3) := by decide +kernel
theorem dM_message_128 : decode b_M_message 128 = .ok (.iload_n 1, 1) := by decide +kernel
theorem dM_message_129 : decode b_M_message 129 = .ok (.dup2, 1) := by decide +kernel
theorem dM_message_130 : decode b_M_message 130 = .ok (.iaload, 1) := by decide +kernel
theorem dM_message_131 : decode b_M_message 131 = .ok (.iconst 1, 1) := by decide +kernel
theorem dM_message_132 : decode b_M_message 132 = .ok (.iadd, 1) := by decide +kernel
theorem dM_message_133 : decode b_M_message 133 = .ok (.iastore, 1) := by decide +kernel
theorem dM_message_134 : decode b_M_message 134 = .ok (.bipush (-6), 2) := by decide +kernel
theorem dM_message_136 : decode b_M_message 136 = .ok (.ireturn, 1) := by decide +kernel
theorem dM_message_137 : decode b_M_message 137 = .ok (.aload_n 0, 1) := by decide +kernel
theorem dM_message_138 : decode b_M_message 138 = .ok (.iload_n 1, 1) := by decide +kernel
theorem dM_message_139 : decode b_M_message 139 = .ok (.aload_n 0, 1) := by decide +kernel
theorem dM_message_140 : decode b_M_message 140 = .ok (.getfield 42, 3) := by decide +kernel
theorem dM_message_143 : decode b_M_message 143 = .ok (.iload 7, 2) := by decide +kernel
theorem dM_message_145 : decode b_M_message 145 = .ok (.iaload, 1) := by decide +kernel
theorem dM_message_146 : decode b_M_message 146 = .ok (.iload 4, 2) := by decide +kernel
theorem dM_message_148 : decode b_M_message 148 = .ok (.invokevirtual 91, 3) := by decide +kernel
theorem dM_message_151 : decode b_M_message 151 = .ok (.ifCond .ne 6, 3) := by decide +kernel
theorem dM_message_154 : decode b_M_message 154 = .ok (.bipush (-3), 2) := by decide +kernel
theorem dM_message_156 : decode b_M_message 156 = .ok (.ireturn, 1) := by decide +kernel
theorem dM_message_157 : decode b_M_message 157 = .ok (.aload_n 0, 1) := by decide +kernel
theorem dM_message_158 : decode b_M_message 158 = .ok (.iload 6, 2) := by decide +kernel
theorem dM_message_160 : decode b_M_message 160 = .ok (.putfield 64, 3) := by decide +kernel
theorem dM_message_163 : decode b_M_message 163 = .ok (.aload_n 0, 1) := by decide +kernel
theorem dM_message_164 : decode b_M_message 164 = .ok (.getfield 45, 3) := by decide +kernel
theorem dM_message_167 : decode b_M_message 167 = .ok (.iload 7, 2) := by decide +kernel
theorem dM_message_169 : decode b_M_message 169 = .ok (.iload_n 3, 1) := by decide +kernel
theorem dM_message_170 : decode b_M_message 170 = .ok (.iastore, 1) := by decide +kernel
theorem dM_message_171 : decode b_M_message 171 = .ok (.aload_n 0, 1) := by decide +kernel
theorem dM_message_172 : decode b_M_message 172 = .ok (.getfield 48, 3) := by decide +kernel
theorem dM_message_175 : decode b_M_message 175 = .ok (.iload 7, 2) := by decide +kernel
theorem dM_message_177 : decode b_M_message 177 = .ok (.iload 6, 2) := by decide +kernel
theorem dM_message_179 : decode b_M_message 179 = .ok (.iastore, 1) := by decide +kernel
theorem dM_message_180 : decode b_M_message 180 = .ok (.aload_n 0, 1) := by decide +kernel
theorem dM_message_181 : decode b_M_message 181 = .ok (.iload_n 1, 1) := by decide +kernel
theorem dM_message_182 : decode b_M_message 182 = .ok (.iload 7, 2) := by decide +kernel
theorem dM_message_184 : decode b_M_message 184 = .ok (.iload 4, 2) := by decide +kernel
theorem dM_message_186 : decode b_M_message 186 = .ok (.iload 5, 2) := by decide +kernel
theorem dM_message_188 : decode b_M_message 188 = .ok (.iload 6, 2) := by decide +kernel
theorem dM_message_190 : decode b_M_message 190 = .ok (.invokevirtual 94, 3) := by decide +kernel
theorem dM_message_193 : decode b_M_message 193 = .ok (.aload_n 0, 1) := by decide +kernel
theorem dM_message_194 : decode b_M_message 194 = .ok (.getfield 21, 3) := by decide +kernel
theorem dM_message_197 : decode b_M_message 197 = .ok (.iload_n 1, 1) := by decide +kernel
theorem dM_message_198 : decode b_M_message 198 = .ok (.iaload, 1) := by decide +kernel
theorem dM_message_199 : decode b_M_message 199 = .ok (.ireturn, 1) := by decide +kernel
theorem dM_take_0 : decode b_M_take 0 = .ok (.iload_n 3, 1) := by decide +kernel
theorem dM_take_1 : decode b_M_take 1 = .ok (.iconst 1, 1) := by decide +kernel
theorem dM_take_2 : decode b_M_take 2 = .ok (.if_icmp .ne 13, 3) := by decide +kernel
theorem dM_take_5 : decode b_M_take 5 = .ok (.aload_n 0, 1) := by decide +kernel
theorem dM_take_6 : decode b_M_take 6 = .ok (.getfield 42, 3) := by decide +kernel
theorem dM_take_9 : decode b_M_take 9 = .ok (.iload_n 2, 1) := by decide +kernel
theorem dM_take_10 : decode b_M_take 10 = .ok (.iconst 3, 1) := by decide +kernel
theorem dM_take_11 : decode b_M_take 11 = .ok (.iastore, 1) := by decide +kernel
theorem dM_take_12 : decode b_M_take 12 = .ok (.goto 96, 3) := by decide +kernel
theorem dM_take_15 : decode b_M_take 15 = .ok (.iload_n 3, 1) := by decide +kernel
theorem dM_take_16 : decode b_M_take 16 = .ok (.iconst 2, 1) := by decide +kernel
theorem dM_take_17 : decode b_M_take 17 = .ok (.if_icmp .ne 23, 3) := by decide +kernel
theorem dM_take_20 : decode b_M_take 20 = .ok (.aload_n 0, 1) := by decide +kernel
theorem dM_take_21 : decode b_M_take 21 = .ok (.getfield 42, 3) := by decide +kernel
theorem dM_take_24 : decode b_M_take 24 = .ok (.iload_n 2, 1) := by decide +kernel
theorem dM_take_25 : decode b_M_take 25 = .ok (.bipush 6, 2) := by decide +kernel
theorem dM_take_27 : decode b_M_take 27 = .ok (.iastore, 1) := by decide +kernel
theorem dM_take_28 : decode b_M_take 28 = .ok (.aload_n 0, 1) := by decide +kernel
theorem dM_take_29 : decode b_M_take 29 = .ok (.iload_n 1, 1) := by decide +kernel
theorem dM_take_30 : decode b_M_take 30 = .ok (.iload 5, 2) := by decide +kernel
theorem dM_take_32 : decode b_M_take 32 = .ok (.invokevirtual 83, 3) := by decide +kernel
theorem dM_take_35 : decode b_M_take 35 = .ok (.istore 6, 2) := by decide +kernel
theorem dM_take_37 : decode b_M_take 37 = .ok (.goto 71, 3) := by decide +kernel
theorem dM_take_40 : decode b_M_take 40 = .ok (.iload_n 3, 1) := by decide +kernel
theorem dM_take_41 : decode b_M_take 41 = .ok (.iconst 3, 1) := by decide +kernel
theorem dM_take_42 : decode b_M_take 42 = .ok (.if_icmp .ne 20, 3) := by decide +kernel
theorem dM_take_45 : decode b_M_take 45 = .ok (.aload_n 0, 1) := by decide +kernel
theorem dM_take_46 : decode b_M_take 46 = .ok (.getfield 42, 3) := by decide +kernel
theorem dM_take_49 : decode b_M_take 49 = .ok (.iload_n 2, 1) := by decide +kernel
theorem dM_take_50 : decode b_M_take 50 = .ok (.iconst 2, 1) := by decide +kernel
theorem dM_take_51 : decode b_M_take 51 = .ok (.iastore, 1) := by decide +kernel
theorem dM_take_52 : decode b_M_take 52 = .ok (.aload_n 0, 1) := by decide +kernel
theorem dM_take_53 : decode b_M_take 53 = .ok (.getfield 21, 3) := by decide +kernel
theorem dM_take_56 : decode b_M_take 56 = .ok (.iload_n 1, 1) := by decide +kernel
theorem dM_take_57 : decode b_M_take 57 = .ok (.iconst 2, 1) := by decide +kernel
theorem dM_take_58 : decode b_M_take 58 = .ok (.iastore, 1) := by decide +kernel
theorem dM_take_59 : decode b_M_take 59 = .ok (.goto 49, 3) := by decide +kernel
theorem dM_take_62 : decode b_M_take 62 = .ok (.iload_n 3, 1) := by decide +kernel
theorem dM_take_63 : decode b_M_take 63 = .ok (.iconst 4, 1) := by decide +kernel
theorem dM_take_64 : decode b_M_take 64 = .ok (.if_icmp .ne 28, 3) := by decide +kernel
theorem dM_take_67 : decode b_M_take 67 = .ok (.aload_n 0, 1) := by decide +kernel
theorem dM_take_68 : decode b_M_take 68 = .ok (.getfield 42, 3) := by decide +kernel
theorem dM_take_71 : decode b_M_take 71 = .ok (.iload_n 2, 1) := by decide +kernel
theorem dM_take_72 : decode b_M_take 72 = .ok (.iconst 4, 1) := by decide +kernel
theorem dM_take_73 : decode b_M_take 73 = .ok (.iastore, 1) := by decide +kernel
theorem dM_take_74 : decode b_M_take 74 = .ok (.aload_n 0, 1) := by decide +kernel
theorem dM_take_75 : decode b_M_take 75 = .ok (.getfield 21, 3) := by decide +kernel
theorem dM_take_78 : decode b_M_take 78 = .ok (.iload_n 1, 1) := by decide +kernel
theorem dM_take_79 : decode b_M_take 79 = .ok (.iconst 3, 1) := by decide +kernel
theorem dM_take_80 : decode b_M_take 80 = .ok (.iastore, 1) := by decide +kernel
theorem dM_take_81 : decode b_M_take 81 = .ok (.aload_n 0, 1) := by decide +kernel
theorem dM_take_82 : decode b_M_take 82 = .ok (.getfield 30, 3) := by decide +kernel
theorem dM_take_85 : decode b_M_take 85 = .ok (.iload_n 1, 1) := by decide +kernel
theorem dM_take_86 : decode b_M_take 86 = .ok (.iload 4, 2) := by decide +kernel
theorem dM_take_88 : decode b_M_take 88 = .ok (.iastore, 1) := by decide +kernel
theorem dM_take_89 : decode b_M_take 89 = .ok (.goto 19, 3) := by decide +kernel
theorem dM_take_92 : decode b_M_take 92 = .ok (.aload_n 0, 1) := by decide +kernel
theorem dM_take_93 : decode b_M_take 93 = .ok (.getfield 42, 3) := by decide +kernel
theorem dM_take_96 : decode b_M_take 96 = .ok (.iload_n 2, 1) := by decide +kernel
theorem dM_take_97 : decode b_M_take 97 = .ok (.iconst 5, 1) := by decide +kernel
theorem dM_take_98 : decode b_M_take 98 = .ok (.iastore, 1) := by decide +kernel
theorem dM_take_99 : decode b_M_take 99 = .ok (.aload_n 0, 1) := by decide +kernel
theorem dM_take_100 : decode b_M_take 100 = .ok (.iload_n 1, 1) := by decide +kernel
theorem dM_take_101 : decode b_M_take 101 = .ok (.bipush 6, 2) := by decide +kernel
theorem dM_take_103 : decode b_M_take 103 = .ok (.iload 5, 2) := by decide +kernel
theorem dM_take_105 : decode b_M_take 105 = .ok (.invokevirtual 76, 3) := by decide +kernel
theorem dM_take_108 : decode b_M_take 108 = .ok (.return_, 1) := by decide +kernel
theorem dM_condition_0 : decode b_M_condition 0 = .ok (.aload_n 0, 1) := by decide +kernel
theorem dM_condition_1 : decode b_M_condition 1 = .ok (.iconst 0, 1) := by decide +kernel
theorem dM_condition_2 : decode b_M_condition 2 = .ok (.putfield 54, 3) := by decide +kernel
theorem dM_condition_5 : decode b_M_condition 5 = .ok (.aload_n 0, 1) := by decide +kernel
theorem dM_condition_6 : decode b_M_condition 6 = .ok (.iload_n 1, 1) := by decide +kernel
theorem dM_condition_7 : decode b_M_condition 7 = .ok (.invokevirtual 73, 3) := by decide +kernel
theorem dM_condition_10 : decode b_M_condition 10 = .ok (.ifCond .ne 5, 3) := by decide +kernel
theorem dM_condition_13 : decode b_M_condition 13 = .ok (.iconst (-1), 1) := by decide +kernel
theorem dM_condition_14 : decode b_M_condition 14 = .ok (.ireturn, 1) := by decide +kernel
theorem dM_condition_15 : decode b_M_condition 15 = .ok (.aload_n 0, 1) := by decide +kernel
theorem dM_condition_16 : decode b_M_condition 16 = .ok (.iload_n 3, 1) := by decide +kernel
theorem dM_condition_17 : decode b_M_condition 17 = .ok (.invokevirtual 80, 3) := by decide +kernel
theorem dM_condition_20 : decode b_M_condition 20 = .ok (.ifCond .ne 6, 3) := by decide +kernel
theorem dM_condition_23 : decode b_M_condition 23 = .ok (.bipush (-2), 2) := by decide +kernel
theorem dM_condition_25 : decode b_M_condition 25 = .ok (.ireturn, 1) := by decide +kernel
theorem dM_condition_26 : decode b_M_condition 26 = .ok (.aload_n 0, 1) := by decide +kernel
theorem dM_condition_27 : decode b_M_condition 27 = .ok (.getfield 21, 3) := by decide +kernel
theorem dM_condition_30 : decode b_M_condition 30 = .ok (.iload_n 1, 1) := by decide +kernel
theorem dM_condition_31 : decode b_M_condition 31 = .ok (.iaload, 1) := by decide +kernel
theorem dM_condition_32 : decode b_M_condition 32 = .ok (.iconst 2, 1) := by decide +kernel
theorem dM_condition_33 : decode b_M_condition 33 = .ok (.if_icmp .eq 6, 3) := by decide +kernel
theorem dM_condition_36 : decode b_M_condition 36 = .ok (.bipush (-3), 2) := by decide +kernel
theorem dM_condition_38 : decode b_M_condition 38 = .ok (.ireturn, 1) := by decide +kernel
theorem dM_condition_39 : decode b_M_condition 39 = .ok (.aload_n 0, 1) := by decide +kernel
theorem dM_condition_40 : decode b_M_condition 40 = .ok (.iload_n 3, 1) := by decide +kernel
theorem dM_condition_41 : decode b_M_condition 41 = .ok (.putfield 64, 3) := by decide +kernel
theorem dM_condition_44 : decode b_M_condition 44 = .ok (.aload_n 0, 1) := by decide +kernel
theorem dM_condition_45 : decode b_M_condition 45 = .ok (.iload_n 1, 1) := by decide +kernel
theorem dM_condition_46 : decode b_M_condition 46 = .ok (.invokevirtual 87, 3) := by decide +kernel
theorem dM_condition_49 : decode b_M_condition 49 = .ok (.istore 4, 2) := by decide +kernel
theorem dM_condition_51 : decode b_M_condition 51 = .ok (.iload_n 2, 1) := by decide +kernel
theorem dM_condition_52 : decode b_M_condition 52 = .ok (.ifCond .eq 29, 3) := by decide +kernel
theorem dM_condition_55 : decode b_M_condition 55 = .ok (.aload_n 0, 1) := by decide +kernel
theorem dM_condition_56 : decode b_M_condition 56 = .ok (.getfield 42, 3) := by decide +kernel
theorem dM_condition_59 : decode b_M_condition 59 = .ok (.iload 4, 2) := by decide +kernel
theorem dM_condition_61 : decode b_M_condition 61 = .ok (.iconst 1, 1) := by decide +kernel
theorem dM_condition_62 : decode b_M_condition 62 = .ok (.iastore, 1) := by decide +kernel
theorem dM_condition_63 : decode b_M_condition 63 = .ok (.aload_n 0, 1) := by decide +kernel
theorem dM_condition_64 : decode b_M_condition 64 = .ok (.getfield 48, 3) := by decide +kernel
theorem dM_condition_67 : decode b_M_condition 67 = .ok (.iload 4, 2) := by decide +kernel
theorem dM_condition_69 : decode b_M_condition 69 = .ok (.iload_n 3, 1) := by decide +kernel
theorem dM_condition_70 : decode b_M_condition 70 = .ok (.iastore, 1) := by decide +kernel
theorem dM_condition_71 : decode b_M_condition 71 = .ok (.aload_n 0, 1) := by decide +kernel
theorem dM_condition_72 : decode b_M_condition 72 = .ok (.getfield 21, 3) := by decide +kernel
theorem dM_condition_75 : decode b_M_condition 75 = .ok (.iload_n 1, 1) := by decide +kernel
theorem dM_condition_76 : decode b_M_condition 76 = .ok (.iconst 1, 1) := by decide +kernel
theorem dM_condition_77 : decode b_M_condition 77 = .ok (.iastore, 1) := by decide +kernel
theorem dM_condition_78 : decode b_M_condition 78 = .ok (.goto 20, 3) := by decide +kernel
theorem dM_condition_81 : decode b_M_condition 81 = .ok (.aload_n 0, 1) := by decide +kernel
theorem dM_condition_82 : decode b_M_condition 82 = .ok (.getfield 42, 3) := by decide +kernel
theorem dM_condition_85 : decode b_M_condition 85 = .ok (.iload 4, 2) := by decide +kernel
theorem dM_condition_87 : decode b_M_condition 87 = .ok (.bipush 6, 2) := by decide +kernel
theorem dM_condition_89 : decode b_M_condition 89 = .ok (.iastore, 1) := by decide +kernel
theorem dM_condition_90 : decode b_M_condition 90 = .ok (.aload_n 0, 1) := by decide +kernel
theorem dM_condition_91 : decode b_M_condition 91 = .ok (.iload_n 1, 1) := by decide +kernel
theorem dM_condition_92 : decode b_M_condition 92 = .ok (.iload_n 3, 1) := by decide +kernel
theorem dM_condition_93 : decode b_M_condition 93 = .ok (.invokevirtual 83, 3) := by decide +kernel
theorem dM_condition_96 : decode b_M_condition 96 = .ok (.istore 5, 2) := by decide +kernel
theorem dM_condition_98 : decode b_M_condition 98 = .ok (.aload_n 0, 1) := by decide +kernel
theorem dM_condition_99 : decode b_M_condition 99 = .ok (.getfield 21, 3) := by decide +kernel
theorem dM_condition_102 : decode b_M_condition 102 = .ok (.iload_n 1, 1) := by decide +kernel
theorem dM_condition_103 : decode b_M_condition 103 = .ok (.iaload, 1) := by decide +kernel
theorem dM_condition_104 : decode b_M_condition 104 = .ok (.ireturn, 1) := by decide +kernel
theorem dM_received_0 : decode b_M_received 0 = .ok (.aload_n 0, 1) := by decide +kernel
theorem dM_received_1 : decode b_M_received 1 = .ok (.iconst 0, 1) := by decide +kernel
theorem dM_received_2 : decode b_M_received 2 = .ok (.putfield 54, 3) := by decide +kernel
theorem dM_received_5 : decode b_M_received 5 = .ok (.aload_n 0, 1) := by decide +kernel
theorem dM_received_6 : decode b_M_received 6 = .ok (.iload_n 1, 1) := by decide +kernel
theorem dM_received_7 : decode b_M_received 7 = .ok (.invokevirtual 73, 3) := by decide +kernel
theorem dM_received_10 : decode b_M_received 10 = .ok (.ifCond .ne 5, 3) := by decide +kernel
theorem dM_received_13 : decode b_M_received 13 = .ok (.iconst (-1), 1) := by decide +kernel
theorem dM_received_14 : decode b_M_received 14 = .ok (.ireturn, 1) := by decide +kernel
theorem dM_received_15 : decode b_M_received 15 = .ok (.aload_n 0, 1) := by decide +kernel
theorem dM_received_16 : decode b_M_received 16 = .ok (.iload_n 2, 1) := by decide +kernel
theorem dM_received_17 : decode b_M_received 17 = .ok (.invokevirtual 80, 3) := by decide +kernel
theorem dM_received_20 : decode b_M_received 20 = .ok (.ifCond .ne 6, 3) := by decide +kernel
theorem dM_received_23 : decode b_M_received 23 = .ok (.bipush (-2), 2) := by decide +kernel
theorem dM_received_25 : decode b_M_received 25 = .ok (.ireturn, 1) := by decide +kernel
theorem dM_received_26 : decode b_M_received 26 = .ok (.aload_n 0, 1) := by decide +kernel
theorem dM_received_27 : decode b_M_received 27 = .ok (.getfield 21, 3) := by decide +kernel
theorem dM_received_30 : decode b_M_received 30 = .ok (.iload_n 1, 1) := by decide +kernel
theorem dM_received_31 : decode b_M_received 31 = .ok (.iaload, 1) := by decide +kernel
theorem dM_received_32 : decode b_M_received 32 = .ok (.iconst 3, 1) := by decide +kernel
theorem dM_received_33 : decode b_M_received 33 = .ok (.if_icmp .eq 6, 3) := by decide +kernel
theorem dM_received_36 : decode b_M_received 36 = .ok (.bipush (-3), 2) := by decide +kernel
theorem dM_received_38 : decode b_M_received 38 = .ok (.ireturn, 1) := by decide +kernel
theorem dM_received_39 : decode b_M_received 39 = .ok (.aload_n 0, 1) := by decide +kernel
theorem dM_received_40 : decode b_M_received 40 = .ok (.iload_n 2, 1) := by decide +kernel
theorem dM_received_41 : decode b_M_received 41 = .ok (.putfield 64, 3) := by decide +kernel
theorem dM_received_44 : decode b_M_received 44 = .ok (.aload_n 0, 1) := by decide +kernel
theorem dM_received_45 : decode b_M_received 45 = .ok (.getfield 21, 3) := by decide +kernel
theorem dM_received_48 : decode b_M_received 48 = .ok (.iload_n 1, 1) := by decide +kernel
theorem dM_received_49 : decode b_M_received 49 = .ok (.iconst 4, 1) := by decide +kernel
theorem dM_received_50 : decode b_M_received 50 = .ok (.iastore, 1) := by decide +kernel
theorem dM_received_51 : decode b_M_received 51 = .ok (.iconst 4, 1) := by decide +kernel
theorem dM_received_52 : decode b_M_received 52 = .ok (.ireturn, 1) := by decide +kernel
theorem dM_back_0 : decode b_M_back 0 = .ok (.aload_n 0, 1) := by decide +kernel
theorem dM_back_1 : decode b_M_back 1 = .ok (.iconst 0, 1) := by decide +kernel
theorem dM_back_2 : decode b_M_back 2 = .ok (.putfield 54, 3) := by decide +kernel
theorem dM_back_5 : decode b_M_back 5 = .ok (.aload_n 0, 1) := by decide +kernel
theorem dM_back_6 : decode b_M_back 6 = .ok (.iload_n 1, 1) := by decide +kernel
theorem dM_back_7 : decode b_M_back 7 = .ok (.invokevirtual 73, 3) := by decide +kernel
theorem dM_back_10 : decode b_M_back 10 = .ok (.ifCond .ne 5, 3) := by decide +kernel
theorem dM_back_13 : decode b_M_back 13 = .ok (.iconst (-1), 1) := by decide +kernel
theorem dM_back_14 : decode b_M_back 14 = .ok (.ireturn, 1) := by decide +kernel
theorem dM_back_15 : decode b_M_back 15 = .ok (.aload_n 0, 1) := by decide +kernel
theorem dM_back_16 : decode b_M_back 16 = .ok (.iload_n 2, 1) := by decide +kernel
theorem dM_back_17 : decode b_M_back 17 = .ok (.invokevirtual 80, 3) := by decide +kernel
theorem dM_back_20 : decode b_M_back 20 = .ok (.ifCond .ne 6, 3) := by decide +kernel
theorem dM_back_23 : decode b_M_back 23 = .ok (.bipush (-2), 2) := by decide +kernel
theorem dM_back_25 : decode b_M_back 25 = .ok (.ireturn, 1) := by decide +kernel
theorem dM_back_26 : decode b_M_back 26 = .ok (.aload_n 0, 1) := by decide +kernel
theorem dM_back_27 : decode b_M_back 27 = .ok (.getfield 21, 3) := by decide +kernel
theorem dM_back_30 : decode b_M_back 30 = .ok (.iload_n 1, 1) := by decide +kernel
theorem dM_back_31 : decode b_M_back 31 = .ok (.iaload, 1) := by decide +kernel
theorem dM_back_32 : decode b_M_back 32 = .ok (.iconst 4, 1) := by decide +kernel
theorem dM_back_33 : decode b_M_back 33 = .ok (.if_icmp .eq 6, 3) := by decide +kernel
theorem dM_back_36 : decode b_M_back 36 = .ok (.bipush (-3), 2) := by decide +kernel
theorem dM_back_38 : decode b_M_back 38 = .ok (.ireturn, 1) := by decide +kernel
theorem dM_back_39 : decode b_M_back 39 = .ok (.aload_n 0, 1) := by decide +kernel
theorem dM_back_40 : decode b_M_back 40 = .ok (.iload_n 2, 1) := by decide +kernel
theorem dM_back_41 : decode b_M_back 41 = .ok (.putfield 64, 3) := by decide +kernel
theorem dM_back_44 : decode b_M_back 44 = .ok (.aload_n 0, 1) := by decide +kernel
theorem dM_back_45 : decode b_M_back 45 = .ok (.getfield 21, 3) := by decide +kernel
theorem dM_back_48 : decode b_M_back 48 = .ok (.iload_n 1, 1) := by decide +kernel
theorem dM_back_49 : decode b_M_back 49 = .ok (.iconst 5, 1) := by decide +kernel
theorem dM_back_50 : decode b_M_back 50 = .ok (.iastore, 1) := by decide +kernel
theorem dM_back_51 : decode b_M_back 51 = .ok (.iload_n 2, 1) := by decide +kernel
theorem dM_back_52 : decode b_M_back 52 = .ok (.aload_n 0, 1) := by decide +kernel
theorem dM_back_53 : decode b_M_back 53 = .ok (.getfield 30, 3) := by decide +kernel
theorem dM_back_56 : decode b_M_back 56 = .ok (.iload_n 1, 1) := by decide +kernel
theorem dM_back_57 : decode b_M_back 57 = .ok (.iaload, 1) := by decide +kernel
theorem dM_back_58 : decode b_M_back 58 = .ok (.if_icmp .le 7, 3) := by decide +kernel
theorem dM_back_61 : decode b_M_back 61 = .ok (.iconst 0, 1) := by decide +kernel
theorem dM_back_62 : decode b_M_back 62 = .ok (.goto 4, 3) := by decide +kernel
theorem dM_back_65 : decode b_M_back 65 = .ok (.iconst 1, 1) := by decide +kernel
theorem dM_back_66 : decode b_M_back 66 = .ok (.ireturn, 1) := by decide +kernel
theorem dM_cancel_0 : decode b_M_cancel 0 = .ok (.aload_n 0, 1) := by decide +kernel
theorem dM_cancel_1 : decode b_M_cancel 1 = .ok (.iconst 0, 1) := by decide +kernel
theorem dM_cancel_2 : decode b_M_cancel 2 = .ok (.putfield 54, 3) := by decide +kernel
theorem dM_cancel_5 : decode b_M_cancel 5 = .ok (.aload_n 0, 1) := by decide +kernel
theorem dM_cancel_6 : decode b_M_cancel 6 = .ok (.iload_n 1, 1) := by decide +kernel
theorem dM_cancel_7 : decode b_M_cancel 7 = .ok (.invokevirtual 73, 3) := by decide +kernel
theorem dM_cancel_10 : decode b_M_cancel 10 = .ok (.ifCond .ne 5, 3) := by decide +kernel
theorem dM_cancel_13 : decode b_M_cancel 13 = .ok (.iconst (-1), 1) := by decide +kernel
theorem dM_cancel_14 : decode b_M_cancel 14 = .ok (.ireturn, 1) := by decide +kernel
theorem dM_cancel_15 : decode b_M_cancel 15 = .ok (.aload_n 0, 1) := by decide +kernel
theorem dM_cancel_16 : decode b_M_cancel 16 = .ok (.iload_n 2, 1) := by decide +kernel
theorem dM_cancel_17 : decode b_M_cancel 17 = .ok (.invokevirtual 80, 3) := by decide +kernel
theorem dM_cancel_20 : decode b_M_cancel 20 = .ok (.ifCond .ne 6, 3) := by decide +kernel
theorem dM_cancel_23 : decode b_M_cancel 23 = .ok (.bipush (-2), 2) := by decide +kernel
theorem dM_cancel_25 : decode b_M_cancel 25 = .ok (.ireturn, 1) := by decide +kernel
theorem dM_cancel_26 : decode b_M_cancel 26 = .ok (.aload_n 0, 1) := by decide +kernel
theorem dM_cancel_27 : decode b_M_cancel 27 = .ok (.getfield 21, 3) := by decide +kernel
theorem dM_cancel_30 : decode b_M_cancel 30 = .ok (.iload_n 1, 1) := by decide +kernel
theorem dM_cancel_31 : decode b_M_cancel 31 = .ok (.iaload, 1) := by decide +kernel
theorem dM_cancel_32 : decode b_M_cancel 32 = .ok (.iconst 2, 1) := by decide +kernel
theorem dM_cancel_33 : decode b_M_cancel 33 = .ok (.if_icmp .le 6, 3) := by decide +kernel
theorem dM_cancel_36 : decode b_M_cancel 36 = .ok (.bipush (-3), 2) := by decide +kernel
theorem dM_cancel_38 : decode b_M_cancel 38 = .ok (.ireturn, 1) := by decide +kernel
theorem dM_cancel_39 : decode b_M_cancel 39 = .ok (.aload_n 0, 1) := by decide +kernel
theorem dM_cancel_40 : decode b_M_cancel 40 = .ok (.iload_n 2, 1) := by decide +kernel
theorem dM_cancel_41 : decode b_M_cancel 41 = .ok (.putfield 64, 3) := by decide +kernel
theorem dM_cancel_44 : decode b_M_cancel 44 = .ok (.aload_n 0, 1) := by decide +kernel
theorem dM_cancel_45 : decode b_M_cancel 45 = .ok (.iload_n 1, 1) := by decide +kernel
theorem dM_cancel_46 : decode b_M_cancel 46 = .ok (.invokevirtual 87, 3) := by decide +kernel
theorem dM_cancel_49 : decode b_M_cancel 49 = .ok (.istore_n 3, 1) := by decide +kernel
theorem dM_cancel_50 : decode b_M_cancel 50 = .ok (.iload_n 3, 1) := by decide +kernel
theorem dM_cancel_51 : decode b_M_cancel 51 = .ok (.ifCond .lt 11, 3) := by decide +kernel
theorem dM_cancel_54 : decode b_M_cancel 54 = .ok (.aload_n 0, 1) := by decide +kernel
theorem dM_cancel_55 : decode b_M_cancel 55 = .ok (.getfield 42, 3) := by decide +kernel
theorem dM_cancel_58 : decode b_M_cancel 58 = .ok (.iload_n 3, 1) := by decide +kernel
theorem dM_cancel_59 : decode b_M_cancel 59 = .ok (.bipush 8, 2) := by decide +kernel
theorem dM_cancel_61 : decode b_M_cancel 61 = .ok (.iastore, 1) := by decide +kernel
theorem dM_cancel_62 : decode b_M_cancel 62 = .ok (.aload_n 0, 1) := by decide +kernel
theorem dM_cancel_63 : decode b_M_cancel 63 = .ok (.iload_n 1, 1) := by decide +kernel
theorem dM_cancel_64 : decode b_M_cancel 64 = .ok (.bipush 8, 2) := by decide +kernel
theorem dM_cancel_66 : decode b_M_cancel 66 = .ok (.iload_n 2, 1) := by decide +kernel
theorem dM_cancel_67 : decode b_M_cancel 67 = .ok (.invokevirtual 76, 3) := by decide +kernel
theorem dM_cancel_70 : decode b_M_cancel 70 = .ok (.iconst 1, 1) := by decide +kernel
theorem dM_cancel_71 : decode b_M_cancel 71 = .ok (.ireturn, 1) := by decide +kernel
theorem dM_waits_0 : decode b_M_waits 0 = .ok (.aload_n 0, 1) := by decide +kernel
theorem dM_waits_1 : decode b_M_waits 1 = .ok (.iconst 0, 1) := by decide +kernel
theorem dM_waits_2 : decode b_M_waits 2 = .ok (.putfield 54, 3) := by decide +kernel
theorem dM_waits_5 : decode b_M_waits 5 = .ok (.aload_n 0, 1) := by decide +kernel
theorem dM_waits_6 : decode b_M_waits 6 = .ok (.iload_n 1, 1) := by decide +kernel
theorem dM_waits_7 : decode b_M_waits 7 = .ok (.invokevirtual 80, 3) := by decide +kernel
theorem dM_waits_10 : decode b_M_waits 10 = .ok (.ifCond .ne 6, 3) := by decide +kernel
theorem dM_waits_13 : decode b_M_waits 13 = .ok (.bipush (-2), 2) := by decide +kernel
theorem dM_waits_15 : decode b_M_waits 15 = .ok (.ireturn, 1) := by decide +kernel
theorem dM_waits_16 : decode b_M_waits 16 = .ok (.aload_n 0, 1) := by decide +kernel
theorem dM_waits_17 : decode b_M_waits 17 = .ok (.iload_n 1, 1) := by decide +kernel
theorem dM_waits_18 : decode b_M_waits 18 = .ok (.putfield 64, 3) := by decide +kernel
theorem dM_waits_21 : decode b_M_waits 21 = .ok (.iconst 0, 1) := by decide +kernel
theorem dM_waits_22 : decode b_M_waits 22 = .ok (.istore_n 2, 1) := by decide +kernel
theorem dM_waits_23 : decode b_M_waits 23 = .ok (.iconst 0, 1) := by decide +kernel
theorem dM_waits_24 : decode b_M_waits 24 = .ok (.istore_n 3, 1) := by decide +kernel
theorem dM_waits_25 : decode b_M_waits 25 = .ok (.iload_n 3, 1) := by decide +kernel
theorem dM_waits_26 : decode b_M_waits 26 = .ok (.aload_n 0, 1) := by decide +kernel
theorem dM_waits_27 : decode b_M_waits 27 = .ok (.getfield 61, 3) := by decide +kernel
theorem dM_waits_30 : decode b_M_waits 30 = .ok (.if_icmp .ge 82, 3) := by decide +kernel
theorem dM_waits_33 : decode b_M_waits 33 = .ok (.aload_n 0, 1) := by decide +kernel
theorem dM_waits_34 : decode b_M_waits 34 = .ok (.iload_n 3, 1) := by decide +kernel
theorem dM_waits_35 : decode b_M_waits 35 = .ok (.invokevirtual 87, 3) := by decide +kernel
theorem dM_waits_38 : decode b_M_waits 38 = .ok (.istore 4, 2) := by decide +kernel
theorem dM_waits_40 : decode b_M_waits 40 = .ok (.iload 4, 2) := by decide +kernel
theorem dM_waits_42 : decode b_M_waits 42 = .ok (.ifCond .lt 64, 3) := by decide +kernel
theorem dM_waits_45 : decode b_M_waits 45 = .ok (.aload_n 0, 1) := by decide +kernel
theorem dM_waits_46 : decode b_M_waits 46 = .ok (.getfield 42, 3) := by decide +kernel
theorem dM_waits_49 : decode b_M_waits 49 = .ok (.iload 4, 2) := by decide +kernel
theorem dM_waits_51 : decode b_M_waits 51 = .ok (.iaload, 1) := by decide +kernel
theorem dM_waits_52 : decode b_M_waits 52 = .ok (.iconst 1, 1) := by decide +kernel
theorem dM_waits_53 : decode b_M_waits 53 = .ok (.if_icmp .eq 14, 3) := by decide +kernel
theorem dM_waits_56 : decode b_M_waits 56 = .ok (.aload_n 0, 1) := by decide +kernel
theorem dM_waits_57 : decode b_M_waits 57 = .ok (.getfield 42, 3) := by decide +kernel
theorem dM_waits_60 : decode b_M_waits 60 = .ok (.iload 4, 2) := by decide +kernel
theorem dM_waits_62 : decode b_M_waits 62 = .ok (.iaload, 1) := by decide +kernel
theorem dM_waits_63 : decode b_M_waits 63 = .ok (.iconst 3, 1) := by decide +kernel
theorem dM_waits_64 : decode b_M_waits 64 = .ok (.if_icmp .ne 42, 3) := by decide +kernel
theorem dM_waits_67 : decode b_M_waits 67 = .ok (.iload_n 1, 1) := by decide +kernel
theorem dM_waits_68 : decode b_M_waits 68 = .ok (.aload_n 0, 1) := by decide +kernel
theorem dM_waits_69 : decode b_M_waits 69 = .ok (.getfield 48, 3) := by decide +kernel
theorem dM_waits_72 : decode b_M_waits 72 = .ok (.iload 4, 2) := by decide +kernel
theorem dM_waits_74 : decode b_M_waits 74 = .ok (.iaload, 1) := by decide +kernel
theorem dM_waits_75 : decode b_M_waits 75 = .ok (.isub, 1) := by decide +kernel
theorem dM_waits_76 : decode b_M_waits 76 = .ok (.aload_n 0, 1) := by decide +kernel
theorem dM_waits_77 : decode b_M_waits 77 = .ok (.getfield 8, 3) := by decide +kernel
theorem dM_waits_80 : decode b_M_waits 80 = .ok (.if_icmp .gt 6, 3) := by decide +kernel
theorem dM_waits_83 : decode b_M_waits 83 = .ok (.goto 23, 3) := by decide +kernel
theorem dM_waits_86 : decode b_M_waits 86 = .ok (.aload_n 0, 1) := by decide +kernel
theorem dM_waits_87 : decode b_M_waits 87 = .ok (.getfield 42, 3) := by decide +kernel
theorem dM_waits_90 : decode b_M_waits 90 = .ok (.iload 4, 2) := by decide +kernel
theorem dM_waits_92 : decode b_M_waits 92 = .ok (.bipush 7, 2) := by decide +kernel
theorem dM_waits_94 : decode b_M_waits 94 = .ok (.iastore, 1) := by decide +kernel
theorem dM_waits_95 : decode b_M_waits 95 = .ok (.iinc 2 1, 3) := by decide +kernel
theorem dM_waits_98 : decode b_M_waits 98 = .ok (.aload_n 0, 1) := by decide +kernel
theorem dM_waits_99 : decode b_M_waits 99 = .ok (.iload_n 3, 1) := by decide +kernel
theorem dM_waits_100 : decode b_M_waits 100 = .ok (.iload_n 1, 1) := by decide +kernel
theorem dM_waits_101 : decode b_M_waits 101 = .ok (.invokevirtual 83, 3) := by decide +kernel
theorem dM_waits_104 : decode b_M_waits 104 = .ok (.istore 5, 2) := by decide +kernel
theorem dM_waits_106 : decode b_M_waits 106 = .ok (.iinc 3 1, 3) := by decide +kernel
theorem dM_waits_109 : decode b_M_waits 109 = .ok (.goto (-84), 3) := by decide +kernel
theorem dM_waits_112 : decode b_M_waits 112 = .ok (.iload_n 2, 1) := by decide +kernel
theorem dM_waits_113 : decode b_M_waits 113 = .ok (.ireturn, 1) := by decide +kernel
theorem dM_span_0 : decode b_M_span 0 = .ok (.aload_n 0, 1) := by decide +kernel
theorem dM_span_1 : decode b_M_span 1 = .ok (.iconst 0, 1) := by decide +kernel
theorem dM_span_2 : decode b_M_span 2 = .ok (.putfield 54, 3) := by decide +kernel
theorem dM_span_5 : decode b_M_span 5 = .ok (.iload_n 1, 1) := by decide +kernel
theorem dM_span_6 : decode b_M_span 6 = .ok (.iconst 1, 1) := by decide +kernel
theorem dM_span_7 : decode b_M_span 7 = .ok (.ldc 98, 2) := by decide +kernel
theorem dM_span_9 : decode b_M_span 9 = .ok (.invokestatic 57, 3) := by decide +kernel
theorem dM_span_12 : decode b_M_span 12 = .ok (.ifCond .ne 6, 3) := by decide +kernel
theorem dM_span_15 : decode b_M_span 15 = .ok (.bipush (-2), 2) := by decide +kernel
theorem dM_span_17 : decode b_M_span 17 = .ok (.ireturn, 1) := by decide +kernel
theorem dM_span_18 : decode b_M_span 18 = .ok (.aload_n 0, 1) := by decide +kernel
theorem dM_span_19 : decode b_M_span 19 = .ok (.iload_n 1, 1) := by decide +kernel
theorem dM_span_20 : decode b_M_span 20 = .ok (.putfield 8, 3) := by decide +kernel
theorem dM_span_23 : decode b_M_span 23 = .ok (.iconst 1, 1) := by decide +kernel
theorem dM_span_24 : decode b_M_span 24 = .ok (.ireturn, 1) := by decide +kernel
theorem dM_about_0 : decode b_M_about 0 = .ok (.aload_n 0, 1) := by decide +kernel
theorem dM_about_1 : decode b_M_about 1 = .ok (.aload_n 0, 1) := by decide +kernel
theorem dM_about_2 : decode b_M_about 2 = .ok (.iload_n 1, 1) := by decide +kernel
theorem dM_about_3 : decode b_M_about 3 = .ok (.invokevirtual 73, 3) := by decide +kernel
theorem dM_about_6 : decode b_M_about 6 = .ok (.ifCond .eq 13, 3) := by decide +kernel
theorem dM_about_9 : decode b_M_about 9 = .ok (.iload_n 2, 1) := by decide +kernel
theorem dM_about_10 : decode b_M_about 10 = .ok (.iconst 0, 1) := by decide +kernel
theorem dM_about_11 : decode b_M_about 11 = .ok (.bipush 8, 2) := by decide +kernel
theorem dM_about_13 : decode b_M_about 13 = .ok (.invokestatic 57, 3) := by decide +kernel
theorem dM_about_16 : decode b_M_about 16 = .ok (.ifCond .ne 7, 3) := by decide +kernel
theorem dM_about_19 : decode b_M_about 19 = .ok (.iconst 1, 1) := by decide +kernel
theorem dM_about_20 : decode b_M_about 20 = .ok (.goto 4, 3) := by decide +kernel
theorem dM_about_23 : decode b_M_about 23 = .ok (.iconst 0, 1) := by decide +kernel
theorem dM_about_24 : decode b_M_about 24 = .ok (.putfield 54, 3) := by decide +kernel
theorem dM_about_27 : decode b_M_about 27 = .ok (.aload_n 0, 1) := by decide +kernel
theorem dM_about_28 : decode b_M_about 28 = .ok (.getfield 54, 3) := by decide +kernel
theorem dM_about_31 : decode b_M_about 31 = .ok (.ifCond .le 5, 3) := by decide +kernel
theorem dM_about_34 : decode b_M_about 34 = .ok (.iconst 0, 1) := by decide +kernel
theorem dM_about_35 : decode b_M_about 35 = .ok (.ireturn, 1) := by decide +kernel
theorem dM_about_36 : decode b_M_about 36 = .ok (.iload_n 2, 1) := by decide +kernel
theorem dM_about_37 : decode b_M_about 37 = .ok (.tableswitch 119 0 7 #[47, 54, 77, 84, 91, 98, 105, 112], 47) := by decide +kernel
theorem dM_about_84 : decode b_M_about 84 = .ok (.aload_n 0, 1) := by decide +kernel
theorem dM_about_85 : decode b_M_about 85 = .ok (.getfield 21, 3) := by decide +kernel
theorem dM_about_88 : decode b_M_about 88 = .ok (.iload_n 1, 1) := by decide +kernel
theorem dM_about_89 : decode b_M_about 89 = .ok (.iaload, 1) := by decide +kernel
theorem dM_about_90 : decode b_M_about 90 = .ok (.ireturn, 1) := by decide +kernel
theorem dM_about_91 : decode b_M_about 91 = .ok (.aload_n 0, 1) := by decide +kernel
theorem dM_about_92 : decode b_M_about 92 = .ok (.iload_n 1, 1) := by decide +kernel
theorem dM_about_93 : decode b_M_about 93 = .ok (.invokevirtual 87, 3) := by decide +kernel
theorem dM_about_96 : decode b_M_about 96 = .ok (.ifCond .ge 7, 3) := by decide +kernel
theorem dM_about_99 : decode b_M_about 99 = .ok (.iconst (-1), 1) := by decide +kernel
theorem dM_about_100 : decode b_M_about 100 = .ok (.goto 13, 3) := by decide +kernel
theorem dM_about_103 : decode b_M_about 103 = .ok (.aload_n 0, 1) := by decide +kernel
theorem dM_about_104 : decode b_M_about 104 = .ok (.getfield 39, 3) := by decide +kernel
theorem dM_about_107 : decode b_M_about 107 = .ok (.aload_n 0, 1) := by decide +kernel
theorem dM_about_108 : decode b_M_about 108 = .ok (.iload_n 1, 1) := by decide +kernel
theorem dM_about_109 : decode b_M_about 109 = .ok (.invokevirtual 87, 3) := by decide +kernel
theorem dM_about_112 : decode b_M_about 112 = .ok (.iaload, 1) := by decide +kernel
theorem dM_about_113 : decode b_M_about 113 = .ok (.ireturn, 1) := by decide +kernel
theorem dM_about_114 : decode b_M_about 114 = .ok (.aload_n 0, 1) := by decide +kernel
theorem dM_about_115 : decode b_M_about 115 = .ok (.getfield 24, 3) := by decide +kernel
theorem dM_about_118 : decode b_M_about 118 = .ok (.iload_n 1, 1) := by decide +kernel
theorem dM_about_119 : decode b_M_about 119 = .ok (.iaload, 1) := by decide +kernel
theorem dM_about_120 : decode b_M_about 120 = .ok (.ireturn, 1) := by decide +kernel
theorem dM_about_121 : decode b_M_about 121 = .ok (.aload_n 0, 1) := by decide +kernel
theorem dM_about_122 : decode b_M_about 122 = .ok (.getfield 18, 3) := by decide +kernel
theorem dM_about_125 : decode b_M_about 125 = .ok (.iload_n 1, 1) := by decide +kernel
theorem dM_about_126 : decode b_M_about 126 = .ok (.iaload, 1) := by decide +kernel
theorem dM_about_127 : decode b_M_about 127 = .ok (.ireturn, 1) := by decide +kernel
theorem dM_about_128 : decode b_M_about 128 = .ok (.aload_n 0, 1) := by decide +kernel
theorem dM_about_129 : decode b_M_about 129 = .ok (.getfield 14, 3) := by decide +kernel
theorem dM_about_132 : decode b_M_about 132 = .ok (.iload_n 1, 1) := by decide +kernel
theorem dM_about_133 : decode b_M_about 133 = .ok (.iaload, 1) := by decide +kernel
theorem dM_about_134 : decode b_M_about 134 = .ok (.ireturn, 1) := by decide +kernel
theorem dM_about_135 : decode b_M_about 135 = .ok (.aload_n 0, 1) := by decide +kernel
theorem dM_about_136 : decode b_M_about 136 = .ok (.getfield 27, 3) := by decide +kernel
theorem dM_about_139 : decode b_M_about 139 = .ok (.iload_n 1, 1) := by decide +kernel
theorem dM_about_140 : decode b_M_about 140 = .ok (.iaload, 1) := by decide +kernel
theorem dM_about_141 : decode b_M_about 141 = .ok (.ireturn, 1) := by decide +kernel
theorem dM_about_142 : decode b_M_about 142 = .ok (.aload_n 0, 1) := by decide +kernel
theorem dM_about_143 : decode b_M_about 143 = .ok (.getfield 30, 3) := by decide +kernel
theorem dM_about_146 : decode b_M_about 146 = .ok (.iload_n 1, 1) := by decide +kernel
theorem dM_about_147 : decode b_M_about 147 = .ok (.iaload, 1) := by decide +kernel
theorem dM_about_148 : decode b_M_about 148 = .ok (.ireturn, 1) := by decide +kernel
theorem dM_about_149 : decode b_M_about 149 = .ok (.aload_n 0, 1) := by decide +kernel
theorem dM_about_150 : decode b_M_about 150 = .ok (.getfield 33, 3) := by decide +kernel
theorem dM_about_153 : decode b_M_about 153 = .ok (.iload_n 1, 1) := by decide +kernel
theorem dM_about_154 : decode b_M_about 154 = .ok (.iaload, 1) := by decide +kernel
theorem dM_about_155 : decode b_M_about 155 = .ok (.ireturn, 1) := by decide +kernel
theorem dM_about_156 : decode b_M_about 156 = .ok (.aload_n 0, 1) := by decide +kernel
theorem dM_about_157 : decode b_M_about 157 = .ok (.getfield 36, 3) := by decide +kernel
theorem dM_about_160 : decode b_M_about 160 = .ok (.iload_n 1, 1) := by decide +kernel
theorem dM_about_161 : decode b_M_about 161 = .ok (.iaload, 1) := by decide +kernel
theorem dM_about_162 : decode b_M_about 162 = .ok (.ireturn, 1) := by decide +kernel
theorem dM_told_0 : decode b_M_told 0 = .ok (.aload_n 0, 1) := by decide +kernel
theorem dM_told_1 : decode b_M_told 1 = .ok (.aload_n 0, 1) := by decide +kernel
theorem dM_told_2 : decode b_M_told 2 = .ok (.iload_n 1, 1) := by decide +kernel
theorem dM_told_3 : decode b_M_told 3 = .ok (.invokevirtual 73, 3) := by decide +kernel
theorem dM_told_6 : decode b_M_told 6 = .ok (.ifCond .eq 28, 3) := by decide +kernel
theorem dM_told_9 : decode b_M_told 9 = .ok (.iload_n 2, 1) := by decide +kernel
theorem dM_told_10 : decode b_M_told 10 = .ok (.iconst 0, 1) := by decide +kernel
theorem dM_told_11 : decode b_M_told 11 = .ok (.aload_n 0, 1) := by decide +kernel
theorem dM_told_12 : decode b_M_told 12 = .ok (.getfield 24, 3) := by decide +kernel
theorem dM_told_15 : decode b_M_told 15 = .ok (.iload_n 1, 1) := by decide +kernel
theorem dM_told_16 : decode b_M_told 16 = .ok (.iaload, 1) := by decide +kernel
theorem dM_told_17 : decode b_M_told 17 = .ok (.iconst 1, 1) := by decide +kernel
theorem dM_told_18 : decode b_M_told 18 = .ok (.isub, 1) := by decide +kernel
theorem dM_told_19 : decode b_M_told 19 = .ok (.invokestatic 57, 3) := by decide +kernel
theorem dM_told_22 : decode b_M_told 22 = .ok (.ifCond .eq 12, 3) := by decide +kernel
theorem dM_told_25 : decode b_M_told 25 = .ok (.iload_n 3, 1) := by decide +kernel
theorem dM_told_26 : decode b_M_told 26 = .ok (.iconst 0, 1) := by decide +kernel
theorem dM_told_27 : decode b_M_told 27 = .ok (.iconst 2, 1) := by decide +kernel
theorem dM_told_28 : decode b_M_told 28 = .ok (.invokestatic 57, 3) := by decide +kernel
theorem dM_told_31 : decode b_M_told 31 = .ok (.ifCond .ne 7, 3) := by decide +kernel
theorem dM_told_34 : decode b_M_told 34 = .ok (.iconst 1, 1) := by decide +kernel
theorem dM_told_35 : decode b_M_told 35 = .ok (.goto 4, 3) := by decide +kernel
theorem dM_told_38 : decode b_M_told 38 = .ok (.iconst 0, 1) := by decide +kernel
theorem dM_told_39 : decode b_M_told 39 = .ok (.putfield 54, 3) := by decide +kernel
theorem dM_told_42 : decode b_M_told 42 = .ok (.aload_n 0, 1) := by decide +kernel
theorem dM_told_43 : decode b_M_told 43 = .ok (.getfield 54, 3) := by decide +kernel
theorem dM_told_46 : decode b_M_told 46 = .ok (.ifCond .le 5, 3) := by decide +kernel
theorem dM_told_49 : decode b_M_told 49 = .ok (.iconst 0, 1) := by decide +kernel
theorem dM_told_50 : decode b_M_told 50 = .ok (.ireturn, 1) := by decide +kernel
theorem dM_told_51 : decode b_M_told 51 = .ok (.bipush 8, 2) := by decide +kernel
theorem dM_told_53 : decode b_M_told 53 = .ok (.iload_n 1, 1) := by decide +kernel
theorem dM_told_54 : decode b_M_told 54 = .ok (.imul, 1) := by decide +kernel
theorem dM_told_55 : decode b_M_told 55 = .ok (.iload_n 2, 1) := by decide +kernel
theorem dM_told_56 : decode b_M_told 56 = .ok (.iadd, 1) := by decide +kernel
theorem dM_told_57 : decode b_M_told 57 = .ok (.istore 4, 2) := by decide +kernel
theorem dM_told_59 : decode b_M_told 59 = .ok (.iload_n 3, 1) := by decide +kernel
theorem dM_told_60 : decode b_M_told 60 = .ok (.ifCond .ne 13, 3) := by decide +kernel
theorem dM_told_63 : decode b_M_told 63 = .ok (.aload_n 0, 1) := by decide +kernel
theorem dM_told_64 : decode b_M_told 64 = .ok (.getfield 39, 3) := by decide +kernel
theorem dM_told_67 : decode b_M_told 67 = .ok (.iload 4, 2) := by decide +kernel
theorem dM_told_69 : decode b_M_told 69 = .ok (.iaload, 1) := by decide +kernel
theorem dM_told_70 : decode b_M_told 70 = .ok (.goto 25, 3) := by decide +kernel
theorem dM_told_73 : decode b_M_told 73 = .ok (.iload_n 3, 1) := by decide +kernel
theorem dM_told_74 : decode b_M_told 74 = .ok (.iconst 1, 1) := by decide +kernel
theorem dM_told_75 : decode b_M_told 75 = .ok (.if_icmp .ne 13, 3) := by decide +kernel
theorem dM_told_78 : decode b_M_told 78 = .ok (.aload_n 0, 1) := by decide +kernel
theorem dM_told_79 : decode b_M_told 79 = .ok (.getfield 42, 3) := by decide +kernel
theorem dM_told_82 : decode b_M_told 82 = .ok (.iload 4, 2) := by decide +kernel
theorem dM_told_84 : decode b_M_told 84 = .ok (.iaload, 1) := by decide +kernel
theorem dM_told_85 : decode b_M_told 85 = .ok (.goto 10, 3) := by decide +kernel
theorem dM_told_88 : decode b_M_told 88 = .ok (.aload_n 0, 1) := by decide +kernel
theorem dM_told_89 : decode b_M_told 89 = .ok (.getfield 45, 3) := by decide +kernel
theorem dM_told_92 : decode b_M_told 92 = .ok (.iload 4, 2) := by decide +kernel
theorem dM_told_94 : decode b_M_told 94 = .ok (.iaload, 1) := by decide +kernel
theorem dM_told_95 : decode b_M_told 95 = .ok (.ireturn, 1) := by decide +kernel
theorem dM_lent_0 : decode b_M_lent 0 = .ok (.iconst 0, 1) := by decide +kernel
theorem dM_lent_1 : decode b_M_lent 1 = .ok (.istore 4, 2) := by decide +kernel
theorem dM_lent_3 : decode b_M_lent 3 = .ok (.iconst 0, 1) := by decide +kernel
theorem dM_lent_4 : decode b_M_lent 4 = .ok (.istore 5, 2) := by decide +kernel
theorem dM_lent_6 : decode b_M_lent 6 = .ok (.iload 5, 2) := by decide +kernel
theorem dM_lent_8 : decode b_M_lent 8 = .ok (.aload_n 0, 1) := by decide +kernel
theorem dM_lent_9 : decode b_M_lent 9 = .ok (.getfield 61, 3) := by decide +kernel
theorem dM_lent_12 : decode b_M_lent 12 = .ok (.if_icmp .ge 83, 3) := by decide +kernel
theorem dM_lent_15 : decode b_M_lent 15 = .ok (.bipush 8, 2) := by decide +kernel
theorem dM_lent_17 : decode b_M_lent 17 = .ok (.iload 5, 2) := by decide +kernel
theorem dM_lent_19 : decode b_M_lent 19 = .ok (.imul, 1) := by decide +kernel
theorem dM_lent_20 : decode b_M_lent 20 = .ok (.istore 6, 2) := by decide +kernel
theorem dM_lent_22 : decode b_M_lent 22 = .ok (.iload 6, 2) := by decide +kernel
theorem dM_lent_24 : decode b_M_lent 24 = .ok (.bipush 8, 2) := by decide +kernel
theorem dM_lent_26 : decode b_M_lent 26 = .ok (.iload 5, 2) := by decide +kernel
theorem dM_lent_28 : decode b_M_lent 28 = .ok (.imul, 1) := by decide +kernel
theorem dM_lent_29 : decode b_M_lent 29 = .ok (.aload_n 0, 1) := by decide +kernel
theorem dM_lent_30 : decode b_M_lent 30 = .ok (.getfield 24, 3) := by decide +kernel
theorem dM_lent_33 : decode b_M_lent 33 = .ok (.iload 5, 2) := by decide +kernel
theorem dM_lent_35 : decode b_M_lent 35 = .ok (.iaload, 1) := by decide +kernel
theorem dM_lent_36 : decode b_M_lent 36 = .ok (.iadd, 1) := by decide +kernel
theorem dM_lent_37 : decode b_M_lent 37 = .ok (.if_icmp .ge 52, 3) := by decide +kernel
theorem dM_lent_40 : decode b_M_lent 40 = .ok (.iload 4, 2) := by decide +kernel
theorem dM_lent_42 : decode b_M_lent 42 = .ok (.aload_n 0, 1) := by decide +kernel
theorem dM_lent_43 : decode b_M_lent 43 = .ok (.getfield 39, 3) := by decide +kernel
theorem dM_lent_46 : decode b_M_lent 46 = .ok (.iload 6, 2) := by decide +kernel
theorem dM_lent_48 : decode b_M_lent 48 = .ok (.iaload, 1) := by decide +kernel
theorem dM_lent_49 : decode b_M_lent 49 = .ok (.iload_n 1, 1) := by decide +kernel
theorem dM_lent_50 : decode b_M_lent 50 = .ok (.if_icmp .ne 29, 3) := by decide +kernel
theorem dM_lent_53 : decode b_M_lent 53 = .ok (.aload_n 0, 1) := by decide +kernel
theorem dM_lent_54 : decode b_M_lent 54 = .ok (.getfield 42, 3) := by decide +kernel
theorem dM_lent_57 : decode b_M_lent 57 = .ok (.iload 6, 2) := by decide +kernel
theorem dM_lent_59 : decode b_M_lent 59 = .ok (.iaload, 1) := by decide +kernel
theorem dM_lent_60 : decode b_M_lent 60 = .ok (.iload_n 2, 1) := by decide +kernel
theorem dM_lent_61 : decode b_M_lent 61 = .ok (.if_icmp .eq 14, 3) := by decide +kernel
theorem dM_lent_64 : decode b_M_lent 64 = .ok (.aload_n 0, 1) := by decide +kernel
theorem dM_lent_65 : decode b_M_lent 65 = .ok (.getfield 42, 3) := by decide +kernel
theorem dM_lent_68 : decode b_M_lent 68 = .ok (.iload 6, 2) := by decide +kernel
theorem dM_lent_70 : decode b_M_lent 70 = .ok (.iaload, 1) := by decide +kernel
theorem dM_lent_71 : decode b_M_lent 71 = .ok (.iload_n 3, 1) := by decide +kernel
theorem dM_lent_72 : decode b_M_lent 72 = .ok (.if_icmp .ne 7, 3) := by decide +kernel
theorem dM_lent_75 : decode b_M_lent 75 = .ok (.iconst 1, 1) := by decide +kernel
theorem dM_lent_76 : decode b_M_lent 76 = .ok (.goto 4, 3) := by decide +kernel
theorem dM_lent_79 : decode b_M_lent 79 = .ok (.iconst 0, 1) := by decide +kernel
theorem dM_lent_80 : decode b_M_lent 80 = .ok (.iadd, 1) := by decide +kernel
theorem dM_lent_81 : decode b_M_lent 81 = .ok (.istore 4, 2) := by decide +kernel
theorem dM_lent_83 : decode b_M_lent 83 = .ok (.iinc 6 1, 3) := by decide +kernel
theorem dM_lent_86 : decode b_M_lent 86 = .ok (.goto (-64), 3) := by decide +kernel
theorem dM_lent_89 : decode b_M_lent 89 = .ok (.iinc 5 1, 3) := by decide +kernel
theorem dM_lent_92 : decode b_M_lent 92 = .ok (.goto (-86), 3) := by decide +kernel
theorem dM_lent_95 : decode b_M_lent 95 = .ok (.iload 4, 2) := by decide +kernel
theorem dM_lent_97 : decode b_M_lent 97 = .ok (.ireturn, 1) := by decide +kernel
theorem dM_statistics_0 : decode b_M_statistics 0 = .ok (.aload_n 0, 1) := by decide +kernel
theorem dM_statistics_1 : decode b_M_statistics 1 = .ok (.iconst 0, 1) := by decide +kernel
theorem dM_statistics_2 : decode b_M_statistics 2 = .ok (.putfield 54, 3) := by decide +kernel
theorem dM_statistics_5 : decode b_M_statistics 5 = .ok (.aload_n 0, 1) := by decide +kernel
theorem dM_statistics_6 : decode b_M_statistics 6 = .ok (.iload_n 1, 1) := by decide +kernel
theorem dM_statistics_7 : decode b_M_statistics 7 = .ok (.invokevirtual 68, 3) := by decide +kernel
theorem dM_statistics_10 : decode b_M_statistics 10 = .ok (.ifCond .eq 12, 3) := by decide +kernel
theorem dM_statistics_13 : decode b_M_statistics 13 = .ok (.iload_n 2, 1) := by decide +kernel
theorem dM_statistics_14 : decode b_M_statistics 14 = .ok (.iconst 0, 1) := by decide +kernel
theorem dM_statistics_15 : decode b_M_statistics 15 = .ok (.iconst 5, 1) := by decide +kernel
theorem dM_statistics_16 : decode b_M_statistics 16 = .ok (.invokestatic 57, 3) := by decide +kernel
theorem dM_statistics_19 : decode b_M_statistics 19 = .ok (.ifCond .ne 5, 3) := by decide +kernel
theorem dM_statistics_22 : decode b_M_statistics 22 = .ok (.iconst (-1), 1) := by decide +kernel
theorem dM_statistics_23 : decode b_M_statistics 23 = .ok (.ireturn, 1) := by decide +kernel
theorem dM_statistics_24 : decode b_M_statistics 24 = .ok (.iload_n 2, 1) := by decide +kernel
theorem dM_statistics_25 : decode b_M_statistics 25 = .ok (.iconst 2, 1) := by decide +kernel
theorem dM_statistics_26 : decode b_M_statistics 26 = .ok (.if_icmp .le 45, 3) := by decide +kernel
theorem dM_statistics_29 : decode b_M_statistics 29 = .ok (.iload_n 2, 1) := by decide +kernel
theorem dM_statistics_30 : decode b_M_statistics 30 = .ok (.iconst 3, 1) := by decide +kernel
theorem dM_statistics_31 : decode b_M_statistics 31 = .ok (.if_icmp .ne 13, 3) := by decide +kernel
theorem dM_statistics_34 : decode b_M_statistics 34 = .ok (.aload_n 0, 1) := by decide +kernel
theorem dM_statistics_35 : decode b_M_statistics 35 = .ok (.iload_n 1, 1) := by decide +kernel
theorem dM_statistics_36 : decode b_M_statistics 36 = .ok (.iconst 4, 1) := by decide +kernel
theorem dM_statistics_37 : decode b_M_statistics 37 = .ok (.iconst 5, 1) := by decide +kernel
theorem dM_statistics_38 : decode b_M_statistics 38 = .ok (.invokevirtual 99, 3) := by decide +kernel
theorem dM_statistics_41 : decode b_M_statistics 41 = .ok (.goto 29, 3) := by decide +kernel
theorem dM_statistics_44 : decode b_M_statistics 44 = .ok (.iload_n 2, 1) := by decide +kernel
theorem dM_statistics_45 : decode b_M_statistics 45 = .ok (.iconst 4, 1) := by decide +kernel
theorem dM_statistics_46 : decode b_M_statistics 46 = .ok (.if_icmp .ne 15, 3) := by decide +kernel
theorem dM_statistics_49 : decode b_M_statistics 49 = .ok (.aload_n 0, 1) := by decide +kernel
theorem dM_statistics_50 : decode b_M_statistics 50 = .ok (.iload_n 1, 1) := by decide +kernel
theorem dM_statistics_51 : decode b_M_statistics 51 = .ok (.bipush 6, 2) := by decide +kernel
theorem dM_statistics_53 : decode b_M_statistics 53 = .ok (.bipush 6, 2) := by decide +kernel
theorem dM_statistics_55 : decode b_M_statistics 55 = .ok (.invokevirtual 99, 3) := by decide +kernel
theorem dM_statistics_58 : decode b_M_statistics 58 = .ok (.goto 12, 3) := by decide +kernel
theorem dM_statistics_61 : decode b_M_statistics 61 = .ok (.aload_n 0, 1) := by decide +kernel
theorem dM_statistics_62 : decode b_M_statistics 62 = .ok (.iload_n 1, 1) := by decide +kernel
theorem dM_statistics_63 : decode b_M_statistics 63 = .ok (.bipush 7, 2) := by decide +kernel
theorem dM_statistics_65 : decode b_M_statistics 65 = .ok (.bipush 7, 2) := by decide +kernel
theorem dM_statistics_67 : decode b_M_statistics 67 = .ok (.invokevirtual 99, 3) := by decide +kernel
theorem dM_statistics_70 : decode b_M_statistics 70 = .ok (.ireturn, 1) := by decide +kernel
theorem dM_statistics_71 : decode b_M_statistics 71 = .ok (.iconst 0, 1) := by decide +kernel
theorem dM_statistics_72 : decode b_M_statistics 72 = .ok (.istore_n 3, 1) := by decide +kernel
theorem dM_statistics_73 : decode b_M_statistics 73 = .ok (.iconst 0, 1) := by decide +kernel
theorem dM_statistics_74 : decode b_M_statistics 74 = .ok (.istore 4, 2) := by decide +kernel
theorem dM_statistics_76 : decode b_M_statistics 76 = .ok (.iload 4, 2) := by decide +kernel
theorem dM_statistics_78 : decode b_M_statistics 78 = .ok (.aload_n 0, 1) := by decide +kernel
theorem dM_statistics_79 : decode b_M_statistics 79 = .ok (.getfield 61, 3) := by decide +kernel
theorem dM_statistics_82 : decode b_M_statistics 82 = .ok (.if_icmp .ge 54, 3) := by decide +kernel
theorem dM_statistics_85 : decode b_M_statistics 85 = .ok (.iload_n 3, 1) := by decide +kernel
theorem dM_statistics_86 : decode b_M_statistics 86 = .ok (.aload_n 0, 1) := by decide +kernel
theorem dM_statistics_87 : decode b_M_statistics 87 = .ok (.getfield 14, 3) := by decide +kernel
theorem dM_statistics_90 : decode b_M_statistics 90 = .ok (.iload 4, 2) := by decide +kernel
theorem dM_statistics_92 : decode b_M_statistics 92 = .ok (.iaload, 1) := by decide +kernel
theorem dM_statistics_93 : decode b_M_statistics 93 = .ok (.iload_n 1, 1) := by decide +kernel
theorem dM_statistics_94 : decode b_M_statistics 94 = .ok (.if_icmp .ne 33, 3) := by decide +kernel
theorem dM_statistics_97 : decode b_M_statistics 97 = .ok (.iload_n 2, 1) := by decide +kernel
theorem dM_statistics_98 : decode b_M_statistics 98 = .ok (.ifCond .eq 25, 3) := by decide +kernel
theorem dM_statistics_101 : decode b_M_statistics 101 = .ok (.aload_n 0, 1) := by decide +kernel
theorem dM_statistics_102 : decode b_M_statistics 102 = .ok (.getfield 21, 3) := by decide +kernel
theorem dM_statistics_105 : decode b_M_statistics 105 = .ok (.iload 4, 2) := by decide +kernel
theorem dM_statistics_107 : decode b_M_statistics 107 = .ok (.iaload, 1) := by decide +kernel
theorem dM_statistics_108 : decode b_M_statistics 108 = .ok (.iload_n 2, 1) := by decide +kernel
theorem dM_statistics_109 : decode b_M_statistics 109 = .ok (.iconst 1, 1) := by decide +kernel
theorem dM_statistics_110 : decode b_M_statistics 110 = .ok (.if_icmp .ne 8, 3) := by decide +kernel
theorem dM_statistics_113 : decode b_M_statistics 113 = .ok (.bipush 6, 2) := by decide +kernel
theorem dM_statistics_115 : decode b_M_statistics 115 = .ok (.goto 5, 3) := by decide +kernel
theorem dM_statistics_118 : decode b_M_statistics 118 = .ok (.bipush 7, 2) := by decide +kernel
theorem dM_statistics_120 : decode b_M_statistics 120 = .ok (.if_icmp .ne 7, 3) := by decide +kernel
theorem dM_statistics_123 : decode b_M_statistics 123 = .ok (.iconst 1, 1) := by decide +kernel
theorem dM_statistics_124 : decode b_M_statistics 124 = .ok (.goto 4, 3) := by decide +kernel
theorem dM_statistics_127 : decode b_M_statistics 127 = .ok (.iconst 0, 1) := by decide +kernel
theorem dM_statistics_128 : decode b_M_statistics 128 = .ok (.iadd, 1) := by decide +kernel
theorem dM_statistics_129 : decode b_M_statistics 129 = .ok (.istore_n 3, 1) := by decide +kernel
theorem dM_statistics_130 : decode b_M_statistics 130 = .ok (.iinc 4 1, 3) := by decide +kernel
theorem dM_statistics_133 : decode b_M_statistics 133 = .ok (.goto (-57), 3) := by decide +kernel
theorem dM_statistics_136 : decode b_M_statistics 136 = .ok (.iload_n 3, 1) := by decide +kernel
theorem dM_statistics_137 : decode b_M_statistics 137 = .ok (.ireturn, 1) := by decide +kernel
theorem dM_overdue_0 : decode b_M_overdue 0 = .ok (.iload_n 2, 1) := by decide +kernel
theorem dM_overdue_1 : decode b_M_overdue 1 = .ok (.istore_n 3, 1) := by decide +kernel
theorem dM_overdue_2 : decode b_M_overdue 2 = .ok (.iconst 0, 1) := by decide +kernel
theorem dM_overdue_3 : decode b_M_overdue 3 = .ok (.istore 4, 2) := by decide +kernel
theorem dM_overdue_5 : decode b_M_overdue 5 = .ok (.iload 4, 2) := by decide +kernel
theorem dM_overdue_7 : decode b_M_overdue 7 = .ok (.aload_n 0, 1) := by decide +kernel
theorem dM_overdue_8 : decode b_M_overdue 8 = .ok (.getfield 61, 3) := by decide +kernel
theorem dM_overdue_11 : decode b_M_overdue 11 = .ok (.if_icmp .ge 49, 3) := by decide +kernel
theorem dM_overdue_14 : decode b_M_overdue 14 = .ok (.aload_n 0, 1) := by decide +kernel
theorem dM_overdue_15 : decode b_M_overdue 15 = .ok (.getfield 21, 3) := by decide +kernel
theorem dM_overdue_18 : decode b_M_overdue 18 = .ok (.iload 4, 2) := by decide +kernel
theorem dM_overdue_20 : decode b_M_overdue 20 = .ok (.iaload, 1) := by decide +kernel
theorem dM_overdue_21 : decode b_M_overdue 21 = .ok (.iconst 4, 1) := by decide +kernel
theorem dM_overdue_22 : decode b_M_overdue 22 = .ok (.if_icmp .ne 32, 3) := by decide +kernel
theorem dM_overdue_25 : decode b_M_overdue 25 = .ok (.aload_n 0, 1) := by decide +kernel
theorem dM_overdue_26 : decode b_M_overdue 26 = .ok (.getfield 30, 3) := by decide +kernel
theorem dM_overdue_29 : decode b_M_overdue 29 = .ok (.iload 4, 2) := by decide +kernel
theorem dM_overdue_31 : decode b_M_overdue 31 = .ok (.iaload, 1) := by decide +kernel
theorem dM_overdue_32 : decode b_M_overdue 32 = .ok (.iload_n 1, 1) := by decide +kernel
theorem dM_overdue_33 : decode b_M_overdue 33 = .ok (.if_icmp .lt 6, 3) := by decide +kernel
theorem dM_overdue_36 : decode b_M_overdue 36 = .ok (.goto 18, 3) := by decide +kernel
theorem dM_overdue_39 : decode b_M_overdue 39 = .ok (.iload_n 3, 1) := by decide +kernel
theorem dM_overdue_40 : decode b_M_overdue 40 = .ok (.ifCond .ne 11, 3) := by decide +kernel
theorem dM_overdue_43 : decode b_M_overdue 43 = .ok (.aload_n 0, 1) := by decide +kernel
theorem dM_overdue_44 : decode b_M_overdue 44 = .ok (.iconst 0, 1) := by decide +kernel
theorem dM_overdue_45 : decode b_M_overdue 45 = .ok (.putfield 54, 3) := by decide +kernel
theorem dM_overdue_48 : decode b_M_overdue 48 = .ok (.iload 4, 2) := by decide +kernel
theorem dM_overdue_50 : decode b_M_overdue 50 = .ok (.ireturn, 1) := by decide +kernel
theorem dM_overdue_51 : decode b_M_overdue 51 = .ok (.iinc 3 (-1), 3) := by decide +kernel
theorem dM_overdue_54 : decode b_M_overdue 54 = .ok (.iinc 4 1, 3) := by decide +kernel
theorem dM_overdue_57 : decode b_M_overdue 57 = .ok (.goto (-52), 3) := by decide +kernel
theorem dM_overdue_60 : decode b_M_overdue 60 = .ok (.aload_n 0, 1) := by decide +kernel
theorem dM_overdue_61 : decode b_M_overdue 61 = .ok (.iconst 1, 1) := by decide +kernel
theorem dM_overdue_62 : decode b_M_overdue 62 = .ok (.putfield 54, 3) := by decide +kernel
theorem dM_overdue_65 : decode b_M_overdue 65 = .ok (.iconst 0, 1) := by decide +kernel
theorem dM_overdue_66 : decode b_M_overdue 66 = .ok (.ireturn, 1) := by decide +kernel
