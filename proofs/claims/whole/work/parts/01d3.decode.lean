theorem dX9_back_66 : decode cX9_back 66 = .ok (.ifCond .eq 12, 3) := by decide +kernel
theorem dX9_back_69 : decode cX9_back 69 = .ok (.aload_n 0, 1) := by decide +kernel
theorem dX9_back_70 : decode cX9_back 70 = .ok (.iload_n 1, 1) := by decide +kernel
theorem dX9_back_71 : decode cX9_back 71 = .ok (.iload_n 2, 1) := by decide +kernel
theorem dX9_back_72 : decode cX9_back 72 = .ok (.invokevirtual 89, 3) := by decide +kernel
theorem dX9_back_75 : decode cX9_back 75 = .ok (.goto 4, 3) := by decide +kernel
theorem dX9_back_78 : decode cX9_back 78 = .ok (.iconst 0, 1) := by decide +kernel
theorem dX9_back_79 : decode cX9_back 79 = .ok (.iadd, 1) := by decide +kernel
theorem dX9_back_80 : decode cX9_back 80 = .ok (.istore_n 3, 1) := by decide +kernel
theorem dX9_back_81 : decode cX9_back 81 = .ok (.aload_n 0, 1) := by decide +kernel
theorem dX9_back_82 : decode cX9_back 82 = .ok (.getfield 31, 3) := by decide +kernel
theorem dX9_back_85 : decode cX9_back 85 = .ok (.aload_n 0, 1) := by decide +kernel
theorem dX9_back_86 : decode cX9_back 86 = .ok (.getfield 25, 3) := by decide +kernel
theorem dX9_back_89 : decode cX9_back 89 = .ok (.iload_n 1, 1) := by decide +kernel
theorem dX9_back_90 : decode cX9_back 90 = .ok (.iaload, 1) := by decide +kernel
theorem dX9_back_91 : decode cX9_back 91 = .ok (.dup2, 1) := by decide +kernel
theorem dX9_back_92 : decode cX9_back 92 = .ok (.laload, 1) := by decide +kernel
theorem dX9_back_93 : decode cX9_back 93 = .ok (.aload_n 0, 1) := by decide +kernel
theorem dX9_back_94 : decode cX9_back 94 = .ok (.iload_n 1, 1) := by decide +kernel
theorem dX9_back_95 : decode cX9_back 95 = .ok (.invokevirtual 95, 3) := by decide +kernel
theorem dX9_back_98 : decode cX9_back 98 = .ok (.iload_n 3, 1) := by decide +kernel
theorem dX9_back_99 : decode cX9_back 99 = .ok (.isub, 1) := by decide +kernel
theorem dX9_back_100 : decode cX9_back 100 = .ok (.i2l, 1) := by decide +kernel
theorem dX9_back_101 : decode cX9_back 101 = .ok (.ladd, 1) := by decide +kernel
theorem dX9_back_102 : decode cX9_back 102 = .ok (.lastore, 1) := by decide +kernel
theorem dX9_back_103 : decode cX9_back 103 = .ok (.aload_n 0, 1) := by decide +kernel
theorem dX9_back_104 : decode cX9_back 104 = .ok (.getfield 19, 3) := by decide +kernel
theorem dX9_back_107 : decode cX9_back 107 = .ok (.iload_n 1, 1) := by decide +kernel
theorem dX9_back_108 : decode cX9_back 108 = .ok (.dup2, 1) := by decide +kernel
theorem dX9_back_109 : decode cX9_back 109 = .ok (.iaload, 1) := by decide +kernel
theorem dX9_back_110 : decode cX9_back 110 = .ok (.aload_n 0, 1) := by decide +kernel
theorem dX9_back_111 : decode cX9_back 111 = .ok (.iload_n 1, 1) := by decide +kernel
theorem dX9_back_112 : decode cX9_back 112 = .ok (.iload_n 2, 1) := by decide +kernel
theorem dX9_back_113 : decode cX9_back 113 = .ok (.invokevirtual 68, 3) := by decide +kernel
theorem dX9_back_116 : decode cX9_back 116 = .ok (.iadd, 1) := by decide +kernel
theorem dX9_back_117 : decode cX9_back 117 = .ok (.iastore, 1) := by decide +kernel
theorem dX9_back_118 : decode cX9_back 118 = .ok (.aload_n 0, 1) := by decide +kernel
theorem dX9_back_119 : decode cX9_back 119 = .ok (.getfield 22, 3) := by decide +kernel
theorem dX9_back_122 : decode cX9_back 122 = .ok (.iload_n 1, 1) := by decide +kernel
theorem dX9_back_123 : decode cX9_back 123 = .ok (.aload_n 0, 1) := by decide +kernel
theorem dX9_back_124 : decode cX9_back 124 = .ok (.iload_n 1, 1) := by decide +kernel
theorem dX9_back_125 : decode cX9_back 125 = .ok (.invokevirtual 65, 3) := by decide +kernel
theorem dX9_back_128 : decode cX9_back 128 = .ok (.bipush 9, 2) := by decide +kernel
theorem dX9_back_130 : decode cX9_back 130 = .ok (.if_icmp .le 7, 3) := by decide +kernel
theorem dX9_back_133 : decode cX9_back 133 = .ok (.iconst 2, 1) := by decide +kernel
theorem dX9_back_134 : decode cX9_back 134 = .ok (.goto 4, 3) := by decide +kernel
theorem dX9_back_137 : decode cX9_back 137 = .ok (.iconst 0, 1) := by decide +kernel
theorem dX9_back_138 : decode cX9_back 138 = .ok (.iastore, 1) := by decide +kernel
theorem dX9_back_139 : decode cX9_back 139 = .ok (.iload_n 3, 1) := by decide +kernel
theorem dX9_back_140 : decode cX9_back 140 = .ok (.ireturn, 1) := by decide +kernel
theorem dX9_service_0 : decode cX9_service 0 = .ok (.aload_n 0, 1) := by decide +kernel
theorem dX9_service_1 : decode cX9_service 1 = .ok (.iload_n 1, 1) := by decide +kernel
theorem dX9_service_2 : decode cX9_service 2 = .ok (.invokevirtual 79, 3) := by decide +kernel
theorem dX9_service_5 : decode cX9_service 5 = .ok (.ifCond .ne 6, 3) := by decide +kernel
theorem dX9_service_8 : decode cX9_service 8 = .ok (.bipush (-2), 2) := by decide +kernel
theorem dX9_service_10 : decode cX9_service 10 = .ok (.ireturn, 1) := by decide +kernel
theorem dX9_service_11 : decode cX9_service 11 = .ok (.aload_n 0, 1) := by decide +kernel
theorem dX9_service_12 : decode cX9_service 12 = .ok (.getfield 22, 3) := by decide +kernel
theorem dX9_service_15 : decode cX9_service 15 = .ok (.iload_n 1, 1) := by decide +kernel
theorem dX9_service_16 : decode cX9_service 16 = .ok (.iaload, 1) := by decide +kernel
theorem dX9_service_17 : decode cX9_service 17 = .ok (.iconst 1, 1) := by decide +kernel
theorem dX9_service_18 : decode cX9_service 18 = .ok (.if_icmp .ne 6, 3) := by decide +kernel
theorem dX9_service_21 : decode cX9_service 21 = .ok (.bipush (-3), 2) := by decide +kernel
theorem dX9_service_23 : decode cX9_service 23 = .ok (.ireturn, 1) := by decide +kernel
theorem dX9_service_24 : decode cX9_service 24 = .ok (.bipush 100, 2) := by decide +kernel
theorem dX9_service_26 : decode cX9_service 26 = .ok (.bipush 50, 2) := by decide +kernel
theorem dX9_service_28 : decode cX9_service 28 = .ok (.aload_n 0, 1) := by decide +kernel
theorem dX9_service_29 : decode cX9_service 29 = .ok (.iload_n 1, 1) := by decide +kernel
theorem dX9_service_30 : decode cX9_service 30 = .ok (.invokevirtual 65, 3) := by decide +kernel
theorem dX9_service_33 : decode cX9_service 33 = .ok (.imul, 1) := by decide +kernel
theorem dX9_service_34 : decode cX9_service 34 = .ok (.iadd, 1) := by decide +kernel
theorem dX9_service_35 : decode cX9_service 35 = .ok (.istore_n 2, 1) := by decide +kernel
theorem dX9_service_36 : decode cX9_service 36 = .ok (.aload_n 0, 1) := by decide +kernel
theorem dX9_service_37 : decode cX9_service 37 = .ok (.getfield 19, 3) := by decide +kernel
theorem dX9_service_40 : decode cX9_service 40 = .ok (.iload_n 1, 1) := by decide +kernel
theorem dX9_service_41 : decode cX9_service 41 = .ok (.iconst 0, 1) := by decide +kernel
theorem dX9_service_42 : decode cX9_service 42 = .ok (.iastore, 1) := by decide +kernel
theorem dX9_service_43 : decode cX9_service 43 = .ok (.aload_n 0, 1) := by decide +kernel
theorem dX9_service_44 : decode cX9_service 44 = .ok (.getfield 22, 3) := by decide +kernel
theorem dX9_service_47 : decode cX9_service 47 = .ok (.iload_n 1, 1) := by decide +kernel
theorem dX9_service_48 : decode cX9_service 48 = .ok (.iconst 0, 1) := by decide +kernel
theorem dX9_service_49 : decode cX9_service 49 = .ok (.iastore, 1) := by decide +kernel
theorem dX9_service_50 : decode cX9_service 50 = .ok (.aload_n 0, 1) := by decide +kernel
theorem dX9_service_51 : decode cX9_service 51 = .ok (.dup, 1) := by decide +kernel
theorem dX9_service_52 : decode cX9_service 52 = .ok (.getfield 101, 3) := by decide +kernel
theorem dX9_service_55 : decode cX9_service 55 = .ok (.iload_n 2, 1) := by decide +kernel
theorem dX9_service_56 : decode cX9_service 56 = .ok (.iadd, 1) := by decide +kernel
theorem dX9_service_57 : decode cX9_service 57 = .ok (.putfield 101, 3) := by decide +kernel
theorem dX9_service_60 : decode cX9_service 60 = .ok (.iload_n 2, 1) := by decide +kernel
theorem dX9_service_61 : decode cX9_service 61 = .ok (.ireturn, 1) := by decide +kernel
theorem dX9_day_0 : decode cX9_day 0 = .ok (.iload_n 1, 1) := by decide +kernel
theorem dX9_day_1 : decode cX9_day 1 = .ok (.iconst 1, 1) := by decide +kernel
theorem dX9_day_2 : decode cX9_day 2 = .ok (.bipush 50, 2) := by decide +kernel
theorem dX9_day_4 : decode cX9_day 4 = .ok (.invokestatic 45, 3) := by decide +kernel
theorem dX9_day_7 : decode cX9_day 7 = .ok (.ifCond .ne 6, 3) := by decide +kernel
theorem dX9_day_10 : decode cX9_day 10 = .ok (.bipush (-2), 2) := by decide +kernel
theorem dX9_day_12 : decode cX9_day 12 = .ok (.ireturn, 1) := by decide +kernel
theorem dX9_day_13 : decode cX9_day 13 = .ok (.aload_n 0, 1) := by decide +kernel
theorem dX9_day_14 : decode cX9_day 14 = .ok (.getfield 38, 3) := by decide +kernel
theorem dX9_day_17 : decode cX9_day 17 = .ok (.iload_n 1, 1) := by decide +kernel
theorem dX9_day_18 : decode cX9_day 18 = .ok (.iadd, 1) := by decide +kernel
theorem dX9_day_19 : decode cX9_day 19 = .ok (.sipush 20000, 3) := by decide +kernel
theorem dX9_day_22 : decode cX9_day 22 = .ok (.if_icmp .le 6, 3) := by decide +kernel
theorem dX9_day_25 : decode cX9_day 25 = .ok (.bipush (-4), 2) := by decide +kernel
theorem dX9_day_27 : decode cX9_day 27 = .ok (.ireturn, 1) := by decide +kernel
theorem dX9_day_28 : decode cX9_day 28 = .ok (.aload_n 0, 1) := by decide +kernel
theorem dX9_day_29 : decode cX9_day 29 = .ok (.dup, 1) := by decide +kernel
theorem dX9_day_30 : decode cX9_day 30 = .ok (.getfield 38, 3) := by decide +kernel
theorem dX9_day_33 : decode cX9_day 33 = .ok (.iload_n 1, 1) := by decide +kernel
theorem dX9_day_34 : decode cX9_day 34 = .ok (.iadd, 1) := by decide +kernel
theorem dX9_day_35 : decode cX9_day 35 = .ok (.putfield 38, 3) := by decide +kernel
theorem dX9_day_38 : decode cX9_day 38 = .ok (.aload_n 0, 1) := by decide +kernel
theorem dX9_day_39 : decode cX9_day 39 = .ok (.getfield 38, 3) := by decide +kernel
theorem dX9_day_42 : decode cX9_day 42 = .ok (.ireturn, 1) := by decide +kernel
theorem dX9_account_0 : decode cX9_account 0 = .ok (.iload_n 1, 1) := by decide +kernel
theorem dX9_account_1 : decode cX9_account 1 = .ok (.iconst 0, 1) := by decide +kernel
theorem dX9_account_2 : decode cX9_account 2 = .ok (.iconst 5, 1) := by decide +kernel
theorem dX9_account_3 : decode cX9_account 3 = .ok (.invokestatic 45, 3) := by decide +kernel
theorem dX9_account_6 : decode cX9_account 6 = .ok (.ifCond .eq 12, 3) := by decide +kernel
theorem dX9_account_9 : decode cX9_account 9 = .ok (.aload_n 0, 1) := by decide +kernel
theorem dX9_account_10 : decode cX9_account 10 = .ok (.getfield 31, 3) := by decide +kernel
theorem dX9_account_13 : decode cX9_account 13 = .ok (.iload_n 1, 1) := by decide +kernel
theorem dX9_account_14 : decode cX9_account 14 = .ok (.laload, 1) := by decide +kernel
theorem dX9_account_15 : decode cX9_account 15 = .ok (.goto 4, 3) := by decide +kernel
theorem dX9_account_18 : decode cX9_account 18 = .ok (.lconst 0, 1) := by decide +kernel
theorem dX9_account_19 : decode cX9_account 19 = .ok (.lreturn, 1) := by decide +kernel
theorem dX9_told_0 : decode cX9_told 0 = .ok (.aload_n 0, 1) := by decide +kernel
theorem dX9_told_1 : decode cX9_told 1 = .ok (.iload_n 1, 1) := by decide +kernel
theorem dX9_told_2 : decode cX9_told 2 = .ok (.invokevirtual 79, 3) := by decide +kernel
theorem dX9_told_5 : decode cX9_told 5 = .ok (.ifCond .ne 6, 3) := by decide +kernel
theorem dX9_told_8 : decode cX9_told 8 = .ok (.bipush (-2), 2) := by decide +kernel
theorem dX9_told_10 : decode cX9_told 10 = .ok (.ireturn, 1) := by decide +kernel
theorem dX9_told_11 : decode cX9_told 11 = .ok (.iload_n 2, 1) := by decide +kernel
theorem dX9_told_12 : decode cX9_told 12 = .ok (.tableswitch 135 0 6 #[44, 51, 58, 65, 86, 107, 121], 44) := by decide +kernel
theorem dX9_told_56 : decode cX9_told 56 = .ok (.aload_n 0, 1) := by decide +kernel
theorem dX9_told_57 : decode cX9_told 57 = .ok (.getfield 7, 3) := by decide +kernel
theorem dX9_told_60 : decode cX9_told 60 = .ok (.iload_n 1, 1) := by decide +kernel
theorem dX9_told_61 : decode cX9_told 61 = .ok (.iaload, 1) := by decide +kernel
theorem dX9_told_62 : decode cX9_told 62 = .ok (.ireturn, 1) := by decide +kernel
theorem dX9_told_63 : decode cX9_told 63 = .ok (.aload_n 0, 1) := by decide +kernel
theorem dX9_told_64 : decode cX9_told 64 = .ok (.getfield 19, 3) := by decide +kernel
theorem dX9_told_67 : decode cX9_told 67 = .ok (.iload_n 1, 1) := by decide +kernel
theorem dX9_told_68 : decode cX9_told 68 = .ok (.iaload, 1) := by decide +kernel
theorem dX9_told_69 : decode cX9_told 69 = .ok (.ireturn, 1) := by decide +kernel
theorem dX9_told_70 : decode cX9_told 70 = .ok (.aload_n 0, 1) := by decide +kernel
theorem dX9_told_71 : decode cX9_told 71 = .ok (.getfield 22, 3) := by decide +kernel
theorem dX9_told_74 : decode cX9_told 74 = .ok (.iload_n 1, 1) := by decide +kernel
theorem dX9_told_75 : decode cX9_told 75 = .ok (.iaload, 1) := by decide +kernel
theorem dX9_told_76 : decode cX9_told 76 = .ok (.ireturn, 1) := by decide +kernel
theorem dX9_told_77 : decode cX9_told 77 = .ok (.aload_n 0, 1) := by decide +kernel
theorem dX9_told_78 : decode cX9_told 78 = .ok (.getfield 22, 3) := by decide +kernel
theorem dX9_told_81 : decode cX9_told 81 = .ok (.iload_n 1, 1) := by decide +kernel
theorem dX9_told_82 : decode cX9_told 82 = .ok (.iaload, 1) := by decide +kernel
theorem dX9_told_83 : decode cX9_told 83 = .ok (.iconst 1, 1) := by decide +kernel
theorem dX9_told_84 : decode cX9_told 84 = .ok (.if_icmp .ne 12, 3) := by decide +kernel
theorem dX9_told_87 : decode cX9_told 87 = .ok (.aload_n 0, 1) := by decide +kernel
theorem dX9_told_88 : decode cX9_told 88 = .ok (.getfield 25, 3) := by decide +kernel
theorem dX9_told_91 : decode cX9_told 91 = .ok (.iload_n 1, 1) := by decide +kernel
theorem dX9_told_92 : decode cX9_told 92 = .ok (.iaload, 1) := by decide +kernel
theorem dX9_told_93 : decode cX9_told 93 = .ok (.goto 4, 3) := by decide +kernel
theorem dX9_told_96 : decode cX9_told 96 = .ok (.iconst (-1), 1) := by decide +kernel
theorem dX9_told_97 : decode cX9_told 97 = .ok (.ireturn, 1) := by decide +kernel
theorem dX9_told_98 : decode cX9_told 98 = .ok (.aload_n 0, 1) := by decide +kernel
theorem dX9_told_99 : decode cX9_told 99 = .ok (.getfield 22, 3) := by decide +kernel
theorem dX9_told_102 : decode cX9_told 102 = .ok (.iload_n 1, 1) := by decide +kernel
theorem dX9_told_103 : decode cX9_told 103 = .ok (.iaload, 1) := by decide +kernel
theorem dX9_told_104 : decode cX9_told 104 = .ok (.iconst 1, 1) := by decide +kernel
theorem dX9_told_105 : decode cX9_told 105 = .ok (.if_icmp .ne 12, 3) := by decide +kernel
theorem dX9_told_108 : decode cX9_told 108 = .ok (.aload_n 0, 1) := by decide +kernel
theorem dX9_told_109 : decode cX9_told 109 = .ok (.getfield 28, 3) := by decide +kernel
theorem dX9_told_112 : decode cX9_told 112 = .ok (.iload_n 1, 1) := by decide +kernel
theorem dX9_told_113 : decode cX9_told 113 = .ok (.iaload, 1) := by decide +kernel
theorem dX9_told_114 : decode cX9_told 114 = .ok (.goto 4, 3) := by decide +kernel
theorem dX9_told_117 : decode cX9_told 117 = .ok (.iconst (-1), 1) := by decide +kernel
theorem dX9_told_118 : decode cX9_told 118 = .ok (.ireturn, 1) := by decide +kernel
theorem dX9_told_119 : decode cX9_told 119 = .ok (.aload_n 0, 1) := by decide +kernel
theorem dX9_told_120 : decode cX9_told 120 = .ok (.iload_n 1, 1) := by decide +kernel
theorem dX9_told_121 : decode cX9_told 121 = .ok (.invokevirtual 72, 3) := by decide +kernel
theorem dX9_told_124 : decode cX9_told 124 = .ok (.ifCond .eq 7, 3) := by decide +kernel
theorem dX9_told_127 : decode cX9_told 127 = .ok (.iconst 1, 1) := by decide +kernel
theorem dX9_told_128 : decode cX9_told 128 = .ok (.goto 4, 3) := by decide +kernel
theorem dX9_told_131 : decode cX9_told 131 = .ok (.iconst 0, 1) := by decide +kernel
theorem dX9_told_132 : decode cX9_told 132 = .ok (.ireturn, 1) := by decide +kernel
theorem dX9_told_133 : decode cX9_told 133 = .ok (.aload_n 0, 1) := by decide +kernel
theorem dX9_told_134 : decode cX9_told 134 = .ok (.iload_n 1, 1) := by decide +kernel
theorem dX9_told_135 : decode cX9_told 135 = .ok (.invokevirtual 76, 3) := by decide +kernel
theorem dX9_told_138 : decode cX9_told 138 = .ok (.ifCond .eq 7, 3) := by decide +kernel
theorem dX9_told_141 : decode cX9_told 141 = .ok (.iconst 1, 1) := by decide +kernel
theorem dX9_told_142 : decode cX9_told 142 = .ok (.goto 4, 3) := by decide +kernel
theorem dX9_told_145 : decode cX9_told 145 = .ok (.iconst 0, 1) := by decide +kernel
theorem dX9_told_146 : decode cX9_told 146 = .ok (.ireturn, 1) := by decide +kernel
theorem dX9_told_147 : decode cX9_told 147 = .ok (.bipush (-2), 2) := by decide +kernel
theorem dX9_told_149 : decode cX9_told 149 = .ok (.ireturn, 1) := by decide +kernel
theorem dX9_count_0 : decode cX9_count 0 = .ok (.iload_n 1, 1) := by decide +kernel
theorem dX9_count_1 : decode cX9_count 1 = .ok (.iconst 0, 1) := by decide +kernel
theorem dX9_count_2 : decode cX9_count 2 = .ok (.iconst 5, 1) := by decide +kernel
theorem dX9_count_3 : decode cX9_count 3 = .ok (.invokestatic 45, 3) := by decide +kernel
theorem dX9_count_6 : decode cX9_count 6 = .ok (.ifCond .ne 6, 3) := by decide +kernel
theorem dX9_count_9 : decode cX9_count 9 = .ok (.bipush (-2), 2) := by decide +kernel
theorem dX9_count_11 : decode cX9_count 11 = .ok (.ireturn, 1) := by decide +kernel
theorem dX9_count_12 : decode cX9_count 12 = .ok (.iconst 0, 1) := by decide +kernel
theorem dX9_count_13 : decode cX9_count 13 = .ok (.istore_n 2, 1) := by decide +kernel
theorem dX9_count_14 : decode cX9_count 14 = .ok (.iconst 0, 1) := by decide +kernel
theorem dX9_count_15 : decode cX9_count 15 = .ok (.istore_n 3, 1) := by decide +kernel
theorem dX9_count_16 : decode cX9_count 16 = .ok (.iload_n 3, 1) := by decide +kernel
theorem dX9_count_17 : decode cX9_count 17 = .ok (.aload_n 0, 1) := by decide +kernel
theorem dX9_count_18 : decode cX9_count 18 = .ok (.getfield 42, 3) := by decide +kernel
theorem dX9_count_21 : decode cX9_count 21 = .ok (.if_icmp .ge 27, 3) := by decide +kernel
theorem dX9_count_24 : decode cX9_count 24 = .ok (.iload_n 2, 1) := by decide +kernel
theorem dX9_count_25 : decode cX9_count 25 = .ok (.aload_n 0, 1) := by decide +kernel
theorem dX9_count_26 : decode cX9_count 26 = .ok (.getfield 22, 3) := by decide +kernel
theorem dX9_count_29 : decode cX9_count 29 = .ok (.iload_n 3, 1) := by decide +kernel
theorem dX9_count_30 : decode cX9_count 30 = .ok (.iaload, 1) := by decide +kernel
theorem dX9_count_31 : decode cX9_count 31 = .ok (.iload_n 1, 1) := by decide +kernel
theorem dX9_count_32 : decode cX9_count 32 = .ok (.if_icmp .ne 7, 3) := by decide +kernel
theorem dX9_count_35 : decode cX9_count 35 = .ok (.iconst 1, 1) := by decide +kernel
theorem dX9_count_36 : decode cX9_count 36 = .ok (.goto 4, 3) := by decide +kernel
theorem dX9_count_39 : decode cX9_count 39 = .ok (.iconst 0, 1) := by decide +kernel
theorem dX9_count_40 : decode cX9_count 40 = .ok (.iadd, 1) := by decide +kernel
theorem dX9_count_41 : decode cX9_count 41 = .ok (.istore_n 2, 1) := by decide +kernel
theorem dX9_count_42 : decode cX9_count 42 = .ok (.iinc 3 1, 3) := by decide +kernel
theorem dX9_count_45 : decode cX9_count 45 = .ok (.goto (-29), 3) := by decide +kernel
theorem dX9_count_48 : decode cX9_count 48 = .ok (.iload_n 1, 1) := by decide +kernel
theorem dX9_count_49 : decode cX9_count 49 = .ok (.iconst 3, 1) := by decide +kernel
theorem dX9_count_50 : decode cX9_count 50 = .ok (.if_icmp .ge 7, 3) := by decide +kernel
theorem dX9_count_53 : decode cX9_count 53 = .ok (.iload_n 2, 1) := by decide +kernel
theorem dX9_count_54 : decode cX9_count 54 = .ok (.goto 31, 3) := by decide +kernel
theorem dX9_count_57 : decode cX9_count 57 = .ok (.iload_n 1, 1) := by decide +kernel
theorem dX9_count_58 : decode cX9_count 58 = .ok (.iconst 3, 1) := by decide +kernel
theorem dX9_count_59 : decode cX9_count 59 = .ok (.if_icmp .ne 10, 3) := by decide +kernel
theorem dX9_count_62 : decode cX9_count 62 = .ok (.aload_n 0, 1) := by decide +kernel
theorem dX9_count_63 : decode cX9_count 63 = .ok (.getfield 38, 3) := by decide +kernel
theorem dX9_count_66 : decode cX9_count 66 = .ok (.goto 19, 3) := by decide +kernel
theorem dX9_count_69 : decode cX9_count 69 = .ok (.iload_n 1, 1) := by decide +kernel
theorem dX9_count_70 : decode cX9_count 70 = .ok (.iconst 4, 1) := by decide +kernel
theorem dX9_count_71 : decode cX9_count 71 = .ok (.if_icmp .ne 10, 3) := by decide +kernel
theorem dX9_count_74 : decode cX9_count 74 = .ok (.aload_n 0, 1) := by decide +kernel
theorem dX9_count_75 : decode cX9_count 75 = .ok (.getfield 101, 3) := by decide +kernel
theorem dX9_count_78 : decode cX9_count 78 = .ok (.goto 7, 3) := by decide +kernel
theorem dX9_count_81 : decode cX9_count 81 = .ok (.aload_n 0, 1) := by decide +kernel
theorem dX9_count_82 : decode cX9_count 82 = .ok (.getfield 98, 3) := by decide +kernel
theorem dX9_count_85 : decode cX9_count 85 = .ok (.ireturn, 1) := by decide +kernel
theorem dL_law_0 : decode cL_law 0 = .ok (.new 7, 3) := by decide +kernel
theorem dL_law_3 : decode cL_law 3 = .ok (.dup, 1) := by decide +kernel
theorem dL_law_4 : decode cL_law 4 = .ok (.invokespecial 9, 3) := by decide +kernel
theorem dL_law_7 : decode cL_law 7 = .ok (.astore_n 1, 1) := by decide +kernel
theorem dL_law_8 : decode cL_law 8 = .ok (.new 10, 3) := by decide +kernel
theorem dL_law_11 : decode cL_law 11 = .ok (.dup, 1) := by decide +kernel
theorem dL_law_12 : decode cL_law 12 = .ok (.invokespecial 12, 3) := by decide +kernel
theorem dL_law_15 : decode cL_law 15 = .ok (.astore_n 2, 1) := by decide +kernel
theorem dL_law_16 : decode cL_law 16 = .ok (.iconst 0, 1) := by decide +kernel
theorem dL_law_17 : decode cL_law 17 = .ok (.istore_n 3, 1) := by decide +kernel
theorem dL_law_18 : decode cL_law 18 = .ok (.iload_n 3, 1) := by decide +kernel
theorem dL_law_19 : decode cL_law 19 = .ok (.aload_n 0, 1) := by decide +kernel
theorem dL_law_20 : decode cL_law 20 = .ok (.arraylength, 1) := by decide +kernel
theorem dL_law_21 : decode cL_law 21 = .ok (.iconst 4, 1) := by decide +kernel
theorem dL_law_22 : decode cL_law 22 = .ok (.isub, 1) := by decide +kernel
theorem dL_law_23 : decode cL_law 23 = .ok (.if_icmp .gt 362, 3) := by decide +kernel
theorem dL_law_26 : decode cL_law 26 = .ok (.aload_n 0, 1) := by decide +kernel
theorem dL_law_27 : decode cL_law 27 = .ok (.iload_n 3, 1) := by decide +kernel
theorem dL_law_28 : decode cL_law 28 = .ok (.iaload, 1) := by decide +kernel
theorem dL_law_29 : decode cL_law 29 = .ok (.bipush 15, 2) := by decide +kernel
theorem dL_law_31 : decode cL_law 31 = .ok (.iand, 1) := by decide +kernel
theorem dL_law_32 : decode cL_law 32 = .ok (.tableswitch 347 0 9 #[56, 99, 142, 165, 198, 221, 244, 267, 291, 324], 56) := by decide +kernel
theorem dL_law_88 : decode cL_law 88 = .ok (.aload_n 1, 1) := by decide +kernel
theorem dL_law_89 : decode cL_law 89 = .ok (.aload_n 0, 1) := by decide +kernel
theorem dL_law_90 : decode cL_law 90 = .ok (.iload_n 3, 1) := by decide +kernel
theorem dL_law_91 : decode cL_law 91 = .ok (.iconst 1, 1) := by decide +kernel
theorem dL_law_92 : decode cL_law 92 = .ok (.iadd, 1) := by decide +kernel
theorem dL_law_93 : decode cL_law 93 = .ok (.iaload, 1) := by decide +kernel
theorem dL_law_94 : decode cL_law 94 = .ok (.aload_n 0, 1) := by decide +kernel
theorem dL_law_95 : decode cL_law 95 = .ok (.iload_n 3, 1) := by decide +kernel
theorem dL_law_96 : decode cL_law 96 = .ok (.iconst 2, 1) := by decide +kernel
theorem dL_law_97 : decode cL_law 97 = .ok (.iadd, 1) := by decide +kernel
theorem dL_law_98 : decode cL_law 98 = .ok (.iaload, 1) := by decide +kernel
theorem dL_law_99 : decode cL_law 99 = .ok (.aload_n 0, 1) := by decide +kernel
theorem dL_law_100 : decode cL_law 100 = .ok (.iload_n 3, 1) := by decide +kernel
theorem dL_law_101 : decode cL_law 101 = .ok (.iconst 3, 1) := by decide +kernel
theorem dL_law_102 : decode cL_law 102 = .ok (.iadd, 1) := by decide +kernel
theorem dL_law_103 : decode cL_law 103 = .ok (.iaload, 1) := by decide +kernel
theorem dL_law_104 : decode cL_law 104 = .ok (.invokevirtual 13, 3) := by decide +kernel
theorem dL_law_107 : decode cL_law 107 = .ok (.aload_n 2, 1) := by decide +kernel
theorem dL_law_108 : decode cL_law 108 = .ok (.aload_n 0, 1) := by decide +kernel
theorem dL_law_109 : decode cL_law 109 = .ok (.iload_n 3, 1) := by decide +kernel
theorem dL_law_110 : decode cL_law 110 = .ok (.iconst 1, 1) := by decide +kernel
theorem dL_law_111 : decode cL_law 111 = .ok (.iadd, 1) := by decide +kernel
theorem dL_law_112 : decode cL_law 112 = .ok (.iaload, 1) := by decide +kernel
theorem dL_law_113 : decode cL_law 113 = .ok (.aload_n 0, 1) := by decide +kernel
theorem dL_law_114 : decode cL_law 114 = .ok (.iload_n 3, 1) := by decide +kernel
theorem dL_law_115 : decode cL_law 115 = .ok (.iconst 2, 1) := by decide +kernel
theorem dL_law_116 : decode cL_law 116 = .ok (.iadd, 1) := by decide +kernel
theorem dL_law_117 : decode cL_law 117 = .ok (.iaload, 1) := by decide +kernel
theorem dL_law_118 : decode cL_law 118 = .ok (.aload_n 0, 1) := by decide +kernel
theorem dL_law_119 : decode cL_law 119 = .ok (.iload_n 3, 1) := by decide +kernel
theorem dL_law_120 : decode cL_law 120 = .ok (.iconst 3, 1) := by decide +kernel
theorem dL_law_121 : decode cL_law 121 = .ok (.iadd, 1) := by decide +kernel
theorem dL_law_122 : decode cL_law 122 = .ok (.iaload, 1) := by decide +kernel
theorem dL_law_123 : decode cL_law 123 = .ok (.invokevirtual 17, 3) := by decide +kernel
theorem dL_law_126 : decode cL_law 126 = .ok (.if_icmp .eq 253, 3) := by decide +kernel
theorem dL_law_129 : decode cL_law 129 = .ok (.iconst 0, 1) := by decide +kernel
theorem dL_law_130 : decode cL_law 130 = .ok (.ireturn, 1) := by decide +kernel
theorem dL_law_131 : decode cL_law 131 = .ok (.aload_n 1, 1) := by decide +kernel
theorem dL_law_132 : decode cL_law 132 = .ok (.aload_n 0, 1) := by decide +kernel
theorem dL_law_133 : decode cL_law 133 = .ok (.iload_n 3, 1) := by decide +kernel
theorem dL_law_134 : decode cL_law 134 = .ok (.iconst 1, 1) := by decide +kernel
theorem dL_law_135 : decode cL_law 135 = .ok (.iadd, 1) := by decide +kernel
theorem dL_law_136 : decode cL_law 136 = .ok (.iaload, 1) := by decide +kernel
theorem dL_law_137 : decode cL_law 137 = .ok (.aload_n 0, 1) := by decide +kernel
theorem dL_law_138 : decode cL_law 138 = .ok (.iload_n 3, 1) := by decide +kernel
theorem dL_law_139 : decode cL_law 139 = .ok (.iconst 2, 1) := by decide +kernel
theorem dL_law_140 : decode cL_law 140 = .ok (.iadd, 1) := by decide +kernel
theorem dL_law_141 : decode cL_law 141 = .ok (.iaload, 1) := by decide +kernel
theorem dL_law_142 : decode cL_law 142 = .ok (.aload_n 0, 1) := by decide +kernel
theorem dL_law_143 : decode cL_law 143 = .ok (.iload_n 3, 1) := by decide +kernel
theorem dL_law_144 : decode cL_law 144 = .ok (.iconst 3, 1) := by decide +kernel
theorem dL_law_145 : decode cL_law 145 = .ok (.iadd, 1) := by decide +kernel
theorem dL_law_146 : decode cL_law 146 = .ok (.iaload, 1) := by decide +kernel
theorem dL_law_147 : decode cL_law 147 = .ok (.invokevirtual 18, 3) := by decide +kernel
theorem dL_law_150 : decode cL_law 150 = .ok (.aload_n 2, 1) := by decide +kernel
theorem dL_law_151 : decode cL_law 151 = .ok (.aload_n 0, 1) := by decide +kernel
theorem dL_law_152 : decode cL_law 152 = .ok (.iload_n 3, 1) := by decide +kernel
theorem dL_law_153 : decode cL_law 153 = .ok (.iconst 1, 1) := by decide +kernel
theorem dL_law_154 : decode cL_law 154 = .ok (.iadd, 1) := by decide +kernel
theorem dL_law_155 : decode cL_law 155 = .ok (.iaload, 1) := by decide +kernel
theorem dL_law_156 : decode cL_law 156 = .ok (.aload_n 0, 1) := by decide +kernel
theorem dL_law_157 : decode cL_law 157 = .ok (.iload_n 3, 1) := by decide +kernel
theorem dL_law_158 : decode cL_law 158 = .ok (.iconst 2, 1) := by decide +kernel
theorem dL_law_159 : decode cL_law 159 = .ok (.iadd, 1) := by decide +kernel
theorem dL_law_160 : decode cL_law 160 = .ok (.iaload, 1) := by decide +kernel
theorem dL_law_161 : decode cL_law 161 = .ok (.aload_n 0, 1) := by decide +kernel
theorem dL_law_162 : decode cL_law 162 = .ok (.iload_n 3, 1) := by decide +kernel
theorem dL_law_163 : decode cL_law 163 = .ok (.iconst 3, 1) := by decide +kernel
theorem dL_law_164 : decode cL_law 164 = .ok (.iadd, 1) := by decide +kernel
theorem dL_law_165 : decode cL_law 165 = .ok (.iaload, 1) := by decide +kernel
theorem dL_law_166 : decode cL_law 166 = .ok (.invokevirtual 21, 3) := by decide +kernel
theorem dL_law_169 : decode cL_law 169 = .ok (.if_icmp .eq 210, 3) := by decide +kernel
theorem dL_law_172 : decode cL_law 172 = .ok (.iconst 0, 1) := by decide +kernel
theorem dL_law_173 : decode cL_law 173 = .ok (.ireturn, 1) := by decide +kernel
theorem dL_law_174 : decode cL_law 174 = .ok (.aload_n 1, 1) := by decide +kernel
theorem dL_law_175 : decode cL_law 175 = .ok (.aload_n 0, 1) := by decide +kernel
theorem dL_law_176 : decode cL_law 176 = .ok (.iload_n 3, 1) := by decide +kernel
theorem dL_law_177 : decode cL_law 177 = .ok (.iconst 1, 1) := by decide +kernel
theorem dL_law_178 : decode cL_law 178 = .ok (.iadd, 1) := by decide +kernel
theorem dL_law_179 : decode cL_law 179 = .ok (.iaload, 1) := by decide +kernel
theorem dL_law_180 : decode cL_law 180 = .ok (.invokevirtual 22, 3) := by decide +kernel
theorem dL_law_183 : decode cL_law 183 = .ok (.aload_n 2, 1) := by decide +kernel
theorem dL_law_184 : decode cL_law 184 = .ok (.aload_n 0, 1) := by decide +kernel
theorem dL_law_185 : decode cL_law 185 = .ok (.iload_n 3, 1) := by decide +kernel
theorem dL_law_186 : decode cL_law 186 = .ok (.iconst 1, 1) := by decide +kernel
theorem dL_law_187 : decode cL_law 187 = .ok (.iadd, 1) := by decide +kernel
theorem dL_law_188 : decode cL_law 188 = .ok (.iaload, 1) := by decide +kernel
theorem dL_law_189 : decode cL_law 189 = .ok (.invokevirtual 26, 3) := by decide +kernel
theorem dL_law_192 : decode cL_law 192 = .ok (.if_icmp .eq 187, 3) := by decide +kernel
theorem dL_law_195 : decode cL_law 195 = .ok (.iconst 0, 1) := by decide +kernel
theorem dL_law_196 : decode cL_law 196 = .ok (.ireturn, 1) := by decide +kernel
theorem dL_law_197 : decode cL_law 197 = .ok (.aload_n 1, 1) := by decide +kernel
theorem dL_law_198 : decode cL_law 198 = .ok (.aload_n 0, 1) := by decide +kernel
theorem dL_law_199 : decode cL_law 199 = .ok (.iload_n 3, 1) := by decide +kernel
theorem dL_law_200 : decode cL_law 200 = .ok (.iconst 1, 1) := by decide +kernel
theorem dL_law_201 : decode cL_law 201 = .ok (.iadd, 1) := by decide +kernel
theorem dL_law_202 : decode cL_law 202 = .ok (.iaload, 1) := by decide +kernel
theorem dL_law_203 : decode cL_law 203 = .ok (.aload_n 0, 1) := by decide +kernel
theorem dL_law_204 : decode cL_law 204 = .ok (.iload_n 3, 1) := by decide +kernel
theorem dL_law_205 : decode cL_law 205 = .ok (.iconst 2, 1) := by decide +kernel
theorem dL_law_206 : decode cL_law 206 = .ok (.iadd, 1) := by decide +kernel
theorem dL_law_207 : decode cL_law 207 = .ok (.iaload, 1) := by decide +kernel
theorem dL_law_208 : decode cL_law 208 = .ok (.invokevirtual 27, 3) := by decide +kernel
theorem dL_law_211 : decode cL_law 211 = .ok (.aload_n 2, 1) := by decide +kernel
theorem dL_law_212 : decode cL_law 212 = .ok (.aload_n 0, 1) := by decide +kernel
theorem dL_law_213 : decode cL_law 213 = .ok (.iload_n 3, 1) := by decide +kernel
theorem dL_law_214 : decode cL_law 214 = .ok (.iconst 1, 1) := by decide +kernel
theorem dL_law_215 : decode cL_law 215 = .ok (.iadd, 1) := by decide +kernel
theorem dL_law_216 : decode cL_law 216 = .ok (.iaload, 1) := by decide +kernel
theorem dL_law_217 : decode cL_law 217 = .ok (.aload_n 0, 1) := by decide +kernel
theorem dL_law_218 : decode cL_law 218 = .ok (.iload_n 3, 1) := by decide +kernel
theorem dL_law_219 : decode cL_law 219 = .ok (.iconst 2, 1) := by decide +kernel
theorem dL_law_220 : decode cL_law 220 = .ok (.iadd, 1) := by decide +kernel
theorem dL_law_221 : decode cL_law 221 = .ok (.iaload, 1) := by decide +kernel
theorem dL_law_222 : decode cL_law 222 = .ok (.invokevirtual 31, 3) := by decide +kernel
theorem dL_law_225 : decode cL_law 225 = .ok (.if_icmp .eq 154, 3) := by decide +kernel
theorem dL_law_228 : decode cL_law 228 = .ok (.iconst 0, 1) := by decide +kernel
theorem dL_law_229 : decode cL_law 229 = .ok (.ireturn, 1) := by decide +kernel
theorem dL_law_230 : decode cL_law 230 = .ok (.aload_n 1, 1) := by decide +kernel
theorem dL_law_231 : decode cL_law 231 = .ok (.aload_n 0, 1) := by decide +kernel
theorem dL_law_232 : decode cL_law 232 = .ok (.iload_n 3, 1) := by decide +kernel
theorem dL_law_233 : decode cL_law 233 = .ok (.iconst 1, 1) := by decide +kernel
theorem dL_law_234 : decode cL_law 234 = .ok (.iadd, 1) := by decide +kernel
theorem dL_law_235 : decode cL_law 235 = .ok (.iaload, 1) := by decide +kernel
theorem dL_law_236 : decode cL_law 236 = .ok (.invokevirtual 32, 3) := by decide +kernel
theorem dL_law_239 : decode cL_law 239 = .ok (.aload_n 2, 1) := by decide +kernel
theorem dL_law_240 : decode cL_law 240 = .ok (.aload_n 0, 1) := by decide +kernel
theorem dL_law_241 : decode cL_law 241 = .ok (.iload_n 3, 1) := by decide +kernel
theorem dL_law_242 : decode cL_law 242 = .ok (.iconst 1, 1) := by decide +kernel
theorem dL_law_243 : decode cL_law 243 = .ok (.iadd, 1) := by decide +kernel
theorem dL_law_244 : decode cL_law 244 = .ok (.iaload, 1) := by decide +kernel
theorem dL_law_245 : decode cL_law 245 = .ok (.invokevirtual 35, 3) := by decide +kernel
theorem dL_law_248 : decode cL_law 248 = .ok (.if_icmp .eq 131, 3) := by decide +kernel
theorem dL_law_251 : decode cL_law 251 = .ok (.iconst 0, 1) := by decide +kernel
theorem dL_law_252 : decode cL_law 252 = .ok (.ireturn, 1) := by decide +kernel
theorem dL_law_253 : decode cL_law 253 = .ok (.aload_n 1, 1) := by decide +kernel
theorem dL_law_254 : decode cL_law 254 = .ok (.aload_n 0, 1) := by decide +kernel
theorem dL_law_255 : decode cL_law 255 = .ok (.iload_n 3, 1) := by decide +kernel
theorem dL_law_256 : decode cL_law 256 = .ok (.iconst 1, 1) := by decide +kernel
theorem dL_law_257 : decode cL_law 257 = .ok (.iadd, 1) := by decide +kernel
theorem dL_law_258 : decode cL_law 258 = .ok (.iaload, 1) := by decide +kernel
theorem dL_law_259 : decode cL_law 259 = .ok (.invokevirtual 36, 3) := by decide +kernel
theorem dL_law_262 : decode cL_law 262 = .ok (.aload_n 2, 1) := by decide +kernel
theorem dL_law_263 : decode cL_law 263 = .ok (.aload_n 0, 1) := by decide +kernel
theorem dL_law_264 : decode cL_law 264 = .ok (.iload_n 3, 1) := by decide +kernel
theorem dL_law_265 : decode cL_law 265 = .ok (.iconst 1, 1) := by decide +kernel
theorem dL_law_266 : decode cL_law 266 = .ok (.iadd, 1) := by decide +kernel
theorem dL_law_267 : decode cL_law 267 = .ok (.iaload, 1) := by decide +kernel
theorem dL_law_268 : decode cL_law 268 = .ok (.invokevirtual 39, 3) := by decide +kernel
theorem dL_law_271 : decode cL_law 271 = .ok (.if_icmp .eq 108, 3) := by decide +kernel
theorem dL_law_274 : decode cL_law 274 = .ok (.iconst 0, 1) := by decide +kernel
theorem dL_law_275 : decode cL_law 275 = .ok (.ireturn, 1) := by decide +kernel
theorem dL_law_276 : decode cL_law 276 = .ok (.aload_n 1, 1) := by decide +kernel
theorem dL_law_277 : decode cL_law 277 = .ok (.aload_n 0, 1) := by decide +kernel
theorem dL_law_278 : decode cL_law 278 = .ok (.iload_n 3, 1) := by decide +kernel
theorem dL_law_279 : decode cL_law 279 = .ok (.iconst 1, 1) := by decide +kernel
theorem dL_law_280 : decode cL_law 280 = .ok (.iadd, 1) := by decide +kernel
theorem dL_law_281 : decode cL_law 281 = .ok (.iaload, 1) := by decide +kernel
theorem dL_law_282 : decode cL_law 282 = .ok (.invokevirtual 40, 3) := by decide +kernel
theorem dL_law_285 : decode cL_law 285 = .ok (.aload_n 2, 1) := by decide +kernel
theorem dL_law_286 : decode cL_law 286 = .ok (.aload_n 0, 1) := by decide +kernel
theorem dL_law_287 : decode cL_law 287 = .ok (.iload_n 3, 1) := by decide +kernel
theorem dL_law_288 : decode cL_law 288 = .ok (.iconst 1, 1) := by decide +kernel
theorem dL_law_289 : decode cL_law 289 = .ok (.iadd, 1) := by decide +kernel
theorem dL_law_290 : decode cL_law 290 = .ok (.iaload, 1) := by decide +kernel
theorem dL_law_291 : decode cL_law 291 = .ok (.invokevirtual 43, 3) := by decide +kernel
theorem dL_law_294 : decode cL_law 294 = .ok (.if_icmp .eq 85, 3) := by decide +kernel
theorem dL_law_297 : decode cL_law 297 = .ok (.iconst 0, 1) := by decide +kernel
theorem dL_law_298 : decode cL_law 298 = .ok (.ireturn, 1) := by decide +kernel
theorem dL_law_299 : decode cL_law 299 = .ok (.aload_n 1, 1) := by decide +kernel
theorem dL_law_300 : decode cL_law 300 = .ok (.aload_n 0, 1) := by decide +kernel
theorem dL_law_301 : decode cL_law 301 = .ok (.iload_n 3, 1) := by decide +kernel
theorem dL_law_302 : decode cL_law 302 = .ok (.iconst 1, 1) := by decide +kernel
theorem dL_law_303 : decode cL_law 303 = .ok (.iadd, 1) := by decide +kernel
theorem dL_law_304 : decode cL_law 304 = .ok (.iaload, 1) := by decide +kernel
theorem dL_law_305 : decode cL_law 305 = .ok (.invokevirtual 44, 3) := by decide +kernel
theorem dL_law_308 : decode cL_law 308 = .ok (.aload_n 2, 1) := by decide +kernel
theorem dL_law_309 : decode cL_law 309 = .ok (.aload_n 0, 1) := by decide +kernel
theorem dL_law_310 : decode cL_law 310 = .ok (.iload_n 3, 1) := by decide +kernel
theorem dL_law_311 : decode cL_law 311 = .ok (.iconst 1, 1) := by decide +kernel
theorem dL_law_312 : decode cL_law 312 = .ok (.iadd, 1) := by decide +kernel
theorem dL_law_313 : decode cL_law 313 = .ok (.iaload, 1) := by decide +kernel
theorem dL_law_314 : decode cL_law 314 = .ok (.invokevirtual 48, 3) := by decide +kernel
theorem dL_law_317 : decode cL_law 317 = .ok (.lcmp, 1) := by decide +kernel
theorem dL_law_318 : decode cL_law 318 = .ok (.ifCond .eq 61, 3) := by decide +kernel
theorem dL_law_321 : decode cL_law 321 = .ok (.iconst 0, 1) := by decide +kernel
theorem dL_law_322 : decode cL_law 322 = .ok (.ireturn, 1) := by decide +kernel
theorem dL_law_323 : decode cL_law 323 = .ok (.aload_n 1, 1) := by decide +kernel
theorem dL_law_324 : decode cL_law 324 = .ok (.aload_n 0, 1) := by decide +kernel
theorem dL_law_325 : decode cL_law 325 = .ok (.iload_n 3, 1) := by decide +kernel
theorem dL_law_326 : decode cL_law 326 = .ok (.iconst 1, 1) := by decide +kernel
theorem dL_law_327 : decode cL_law 327 = .ok (.iadd, 1) := by decide +kernel
theorem dL_law_328 : decode cL_law 328 = .ok (.iaload, 1) := by decide +kernel
theorem dL_law_329 : decode cL_law 329 = .ok (.aload_n 0, 1) := by decide +kernel
theorem dL_law_330 : decode cL_law 330 = .ok (.iload_n 3, 1) := by decide +kernel
theorem dL_law_331 : decode cL_law 331 = .ok (.iconst 2, 1) := by decide +kernel
theorem dL_law_332 : decode cL_law 332 = .ok (.iadd, 1) := by decide +kernel
theorem dL_law_333 : decode cL_law 333 = .ok (.iaload, 1) := by decide +kernel
theorem dL_law_334 : decode cL_law 334 = .ok (.invokevirtual 49, 3) := by decide +kernel
theorem dL_law_337 : decode cL_law 337 = .ok (.aload_n 2, 1) := by decide +kernel
theorem dL_law_338 : decode cL_law 338 = .ok (.aload_n 0, 1) := by decide +kernel
theorem dL_law_339 : decode cL_law 339 = .ok (.iload_n 3, 1) := by decide +kernel
theorem dL_law_340 : decode cL_law 340 = .ok (.iconst 1, 1) := by decide +kernel
theorem dL_law_341 : decode cL_law 341 = .ok (.iadd, 1) := by decide +kernel
theorem dL_law_342 : decode cL_law 342 = .ok (.iaload, 1) := by decide +kernel
theorem dL_law_343 : decode cL_law 343 = .ok (.aload_n 0, 1) := by decide +kernel
theorem dL_law_344 : decode cL_law 344 = .ok (.iload_n 3, 1) := by decide +kernel
theorem dL_law_345 : decode cL_law 345 = .ok (.iconst 2, 1) := by decide +kernel
theorem dL_law_346 : decode cL_law 346 = .ok (.iadd, 1) := by decide +kernel
theorem dL_law_347 : decode cL_law 347 = .ok (.iaload, 1) := by decide +kernel
theorem dL_law_348 : decode cL_law 348 = .ok (.invokevirtual 52, 3) := by decide +kernel
theorem dL_law_351 : decode cL_law 351 = .ok (.if_icmp .eq 28, 3) := by decide +kernel
theorem dL_law_354 : decode cL_law 354 = .ok (.iconst 0, 1) := by decide +kernel
theorem dL_law_355 : decode cL_law 355 = .ok (.ireturn, 1) := by decide +kernel
theorem dL_law_356 : decode cL_law 356 = .ok (.aload_n 1, 1) := by decide +kernel
theorem dL_law_357 : decode cL_law 357 = .ok (.aload_n 0, 1) := by decide +kernel
theorem dL_law_358 : decode cL_law 358 = .ok (.iload_n 3, 1) := by decide +kernel
theorem dL_law_359 : decode cL_law 359 = .ok (.iconst 1, 1) := by decide +kernel
theorem dL_law_360 : decode cL_law 360 = .ok (.iadd, 1) := by decide +kernel
theorem dL_law_361 : decode cL_law 361 = .ok (.iaload, 1) := by decide +kernel
theorem dL_law_362 : decode cL_law 362 = .ok (.invokevirtual 53, 3) := by decide +kernel
theorem dL_law_365 : decode cL_law 365 = .ok (.aload_n 2, 1) := by decide +kernel
theorem dL_law_366 : decode cL_law 366 = .ok (.aload_n 0, 1) := by decide +kernel
theorem dL_law_367 : decode cL_law 367 = .ok (.iload_n 3, 1) := by decide +kernel
theorem dL_law_368 : decode cL_law 368 = .ok (.iconst 1, 1) := by decide +kernel
theorem dL_law_369 : decode cL_law 369 = .ok (.iadd, 1) := by decide +kernel
theorem dL_law_370 : decode cL_law 370 = .ok (.iaload, 1) := by decide +kernel
theorem dL_law_371 : decode cL_law 371 = .ok (.invokevirtual 56, 3) := by decide +kernel
theorem dL_law_374 : decode cL_law 374 = .ok (.if_icmp .eq 5, 3) := by decide +kernel
theorem dL_law_377 : decode cL_law 377 = .ok (.iconst 0, 1) := by decide +kernel
theorem dL_law_378 : decode cL_law 378 = .ok (.ireturn, 1) := by decide +kernel
theorem dL_law_379 : decode cL_law 379 = .ok (.iinc 3 4, 3) := by decide +kernel
theorem dL_law_382 : decode cL_law 382 = .ok (.goto (-364), 3) := by decide +kernel
theorem dL_law_385 : decode cL_law 385 = .ok (.iconst 1, 1) := by decide +kernel
theorem dL_law_386 : decode cL_law 386 = .ok (.ireturn, 1) := by decide +kernel
